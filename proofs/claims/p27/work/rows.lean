section
-- ===== PART A: goes FIRST, ahead of the names: the tables' words, and 'selects' of the private methods out of them =====
/-- a private method of a class that the tables say can be made, by its rows of tables_1 -/
def lw_okq (q : MethodName × Nat) : Prop := (q.1.cls ≠ "java/lang/invoke/MethodHandle" ∧ q.1.cls ≠ "java/lang/invoke/VarHandle") ∧ Cond.instantiable q.1.cls q.2 ∈ tables_1 ∧ Cond.privateMethod q.1 ∈ tables_1 ∧ Cond.instanceMethod q.1 ∈ tables_1
theorem lw_p0 : lw_okq (⟨"ProRataMarket$Floor", "meet", "(I)V"⟩, 12) := ⟨⟨by decide +kernel, by decide +kernel⟩, List.mem_of_getElem? (i := 23) (by decide +kernel), List.mem_of_getElem? (i := 306) (by decide +kernel), List.mem_of_getElem? (i := 307) (by decide +kernel)⟩
theorem lw_p1 : lw_okq (⟨"ProRataMarket$Floor", "preventSelf", "(III)V"⟩, 12) := ⟨⟨by decide +kernel, by decide +kernel⟩, List.mem_of_getElem? (i := 23) (by decide +kernel), List.mem_of_getElem? (i := 323) (by decide +kernel), List.mem_of_getElem? (i := 324) (by decide +kernel)⟩
theorem lw_p2 : lw_okq (⟨"ProRataMarket$Floor", "loseOwn", "(LProRataMarket$Order;I)V"⟩, 12) := ⟨⟨by decide +kernel, by decide +kernel⟩, List.mem_of_getElem? (i := 23) (by decide +kernel), List.mem_of_getElem? (i := 331) (by decide +kernel), List.mem_of_getElem? (i := 332) (by decide +kernel)⟩
theorem lw_p3 : lw_okq (⟨"ProRataMarket$Floor", "takeAt", "(II)V"⟩, 12) := ⟨⟨by decide +kernel, by decide +kernel⟩, List.mem_of_getElem? (i := 23) (by decide +kernel), List.mem_of_getElem? (i := 346) (by decide +kernel), List.mem_of_getElem? (i := 347) (by decide +kernel)⟩
theorem lw_p4 : lw_okq (⟨"ProRataMarket$Sharing", "put", "(LProRataMarket$Order;II)V"⟩, 8) := ⟨⟨by decide +kernel, by decide +kernel⟩, List.mem_of_getElem? (i := 132) (by decide +kernel), List.mem_of_getElem? (i := 359) (by decide +kernel), List.mem_of_getElem? (i := 360) (by decide +kernel)⟩
theorem lw_p5 : lw_okq (⟨"ProRataMarket$Floor", "tradeRows", "([IIII)V"⟩, 12) := ⟨⟨by decide +kernel, by decide +kernel⟩, List.mem_of_getElem? (i := 23) (by decide +kernel), List.mem_of_getElem? (i := 371) (by decide +kernel), List.mem_of_getElem? (i := 372) (by decide +kernel)⟩
theorem lw_p6 : lw_okq (⟨"ProRataMarket$Floor", "restComing", "()V"⟩, 12) := ⟨⟨by decide +kernel, by decide +kernel⟩, List.mem_of_getElem? (i := 23) (by decide +kernel), List.mem_of_getElem? (i := 388) (by decide +kernel), List.mem_of_getElem? (i := 389) (by decide +kernel)⟩
theorem lw_p7 : lw_okq (⟨"java/lang/Throwable", "fillInStackTrace", "(I)Ljava/lang/Throwable;"⟩, 6) := ⟨⟨by decide +kernel, by decide +kernel⟩, List.mem_of_getElem? (i := 458) (by decide +kernel), List.mem_of_getElem? (i := 456) (by decide +kernel), List.mem_of_getElem? (i := 457) (by decide +kernel)⟩
theorem lw_p8 : lw_okq (⟨"ProRataMarket$Sharing", "partAt", "(II)I"⟩, 8) := ⟨⟨by decide +kernel, by decide +kernel⟩, List.mem_of_getElem? (i := 132) (by decide +kernel), List.mem_of_getElem? (i := 504) (by decide +kernel), List.mem_of_getElem? (i := 505) (by decide +kernel)⟩
def lw_privs_1 : List (MethodName × Nat) := [(⟨"ProRataMarket$Floor", "meet", "(I)V"⟩, 12), (⟨"ProRataMarket$Floor", "preventSelf", "(III)V"⟩, 12), (⟨"ProRataMarket$Floor", "loseOwn", "(LProRataMarket$Order;I)V"⟩, 12), (⟨"ProRataMarket$Floor", "takeAt", "(II)V"⟩, 12), (⟨"ProRataMarket$Sharing", "put", "(LProRataMarket$Order;II)V"⟩, 8), (⟨"ProRataMarket$Floor", "tradeRows", "([IIII)V"⟩, 12), (⟨"ProRataMarket$Floor", "restComing", "()V"⟩, 12), (⟨"java/lang/Throwable", "fillInStackTrace", "(I)Ljava/lang/Throwable;"⟩, 6), (⟨"ProRataMarket$Sharing", "partAt", "(II)I"⟩, 8)]
theorem lw_r1 : ∀ q ∈ lw_privs_1, lw_okq q := List.forall_mem_cons.mpr ⟨lw_p0, List.forall_mem_cons.mpr ⟨lw_p1, List.forall_mem_cons.mpr ⟨lw_p2, List.forall_mem_cons.mpr ⟨lw_p3, List.forall_mem_cons.mpr ⟨lw_p4, List.forall_mem_cons.mpr ⟨lw_p5, List.forall_mem_cons.mpr ⟨lw_p6, List.forall_mem_cons.mpr ⟨lw_p7, List.forall_mem_cons.mpr ⟨lw_p8, fun _ h => absurd h List.not_mem_nil⟩⟩⟩⟩⟩⟩⟩⟩⟩
def lw_privs : List (MethodName × Nat) := lw_privs_1
def lw_tbl : List Cond := k2_sels lw_privs ++ tables_1
theorem lw_privs_ok : ∀ q ∈ lw_privs, lw_okq q := lw_r1
-- ===== end of PART A; then your names; then what follows =====
-- the word that the printed rows of new T[n][m] use (not in the kit of this claim)
def va_AOA (ty : Jvm.ClassFile.FieldType) (U : State) : Prop := (Cond.arrayOver (.array ty)).before #[] U = true
theorem va_AOA.use {ty : Jvm.ClassFile.FieldType} {A : Array Value} {U : State} (h : va_AOA ty U) : (Cond.arrayOver (.array ty)).before A U = true := h
end
section
/-! ===== BEGIN words of one list among another's, by their places ===== -/
theorem goodIn_r {big : List Cond} (ws : List Cond) (ps : List Nat) (hp : ws = ps.filterMap (fun i => big[i]?)) (h : ws.all goodWord = true) : GoodIn big ws := by
  intro w hw
  have h1 := List.all_eq_true.mp h w hw
  rw [hp] at hw
  obtain ⟨i, -, hi⟩ := List.mem_filterMap.mp hw
  have hm : w ∈ big := by first | exact List.mem_of_getElem? hi | exact List.getElem?_mem hi
  exact ⟨hm, good_of_word h1⟩
theorem goodIn_app {big a b : List Cond} (ha : GoodIn big a) (hb : GoodIn big b) : GoodIn big (a ++ b) := fun w h => (List.mem_append.mp h).elim (ha w) (hb w)
theorem goodIn_ca {big a b : List Cond} {c : Cond} (ha : GoodIn big (c :: a)) (hb : GoodIn big b) : GoodIn big (c :: (a ++ b)) := fun w h => (List.mem_cons.mp h).elim (fun e => ha w (List.mem_cons.mpr (Or.inl e))) (fun h => (List.mem_append.mp h).elim (fun h => ha w (List.mem_cons.mpr (Or.inr h))) (hb w))
theorem goodIn_sub {big ws : List Cond} (hm : ∀ w ∈ ws, w ∈ big) (h : ws.all goodWord = true) : GoodIn big ws := fun w hw => ⟨hm w hw, good_of_word (List.all_eq_true.mp h w hw)⟩
/-! ===== END ===== -/

/-! ===== BEGIN new T[n][m]: the outer array a place, the inner ones among the pooled ===== -/
/-- f, but v at every address of l -/
def vr_up {α : Type} (f : Nat → α) (l : List Nat) (v : α) : Nat → α := fun a => if a ∈ l then v else f a
theorem vr_up_in {α : Type} {f : Nat → α} {l : List Nat} {v : α} {a : Nat} (h : a ∈ l) : vr_up f l v a = v := if_pos h
theorem vr_up_ne {α : Type} {f : Nat → α} {l : List Nat} {v : α} {a : Nat} (h : a ∉ l) : vr_up f l v a = f a := if_neg h
theorem vr_rows {L l : List Nat} {f : Nat → va_E} {e : va_E} (h : ∀ a, a ∈ l → a ∉ L) : va_pl L f ++ l.map (fun a => (a, e)) = va_pl (L ++ l) (vr_up f l e) := by
  unfold va_pl
  rw [List.map_append]
  congr 1
  · apply List.map_congr_left
    intro a ha
    rw [vr_up_ne (fun q => h a q ha)]
  · apply List.map_congr_left
    intro a ha
    rw [vr_up_in ha]
theorem vr_lay {X rows : va_W} {x : Nat × va_E} {pl : va_W} {D : va_G} {cl : List vw_C} {H : Heap} (hP : va_P D cl (((X ++ pl) ++ [x]) ++ rows) H) : va_P D cl ((X ++ [x]) ++ (pl ++ rows)) H := by
  rw [List.append_assoc (X ++ pl)] at hP
  have h := va_P.swap hP
  rw [← List.append_assoc X] at h
  have h2 := va_P.swap h
  rw [List.append_assoc (X ++ [x])] at h2
  exact h2
theorem vr_layD {X rows : va_W} {x : Nat × va_E} {pl : va_W} {A : Nat → Prop} (hD : va_D A (((X ++ pl) ++ [x]) ++ rows)) : va_D A ((X ++ [x]) ++ (pl ++ rows)) := by
  rw [List.append_assoc (X ++ pl)] at hD
  have h := va_D.swap hD
  rw [← List.append_assoc X] at h
  have h2 := va_D.swap h
  rw [List.append_assoc (X ++ [x])] at h2
  exact h2
theorem vr_outer (c : ClassId) (N h0 : Nat) : ∀ i : Nat, Jvm.Free.Multi.outerC c N h0 i = arrV c N (fun j => va_rf (if j < i then some (h0 + 1 + j) else none))
  | 0 => by
    show ({ cls := c, slots := Array.replicate N .null, vm := .none } : Cell) = _
    rw [arrV_new]
    refine congrArg (arrV c N) (funext fun j => ?_)
    simp [va_rf]
  | i + 1 => by
    show (Jvm.Free.Multi.outerC c N h0 i).setSlot i (.ref (h0 + 1 + i)) = _
    rw [vr_outer c N h0 i, arrV_store]
    refine congrArg (arrV c N) (funext fun j => ?_)
    by_cases e : j = i
    · subst e
      simp [updV, va_rf]
    · by_cases h : j < i
      · simp [updV, e, h, Nat.lt_succ_of_lt h]
      · simp [updV, e, h, show ¬ j < i + 1 by omega]
section VGM
variable {p : Program} {l : Launch} {e : Env} {R : Room} {s : State} {m : MethodId} {args : Array Value} {below : List Frame} {meth : Method} {c : Code} {H : Heap} {locs : List Loc} {cells slots : Nat} {Q : State → Prop}
variable {cc : ByteArray} {pc : Nat} {ls : Array Slot} {rest : List Value} {D : va_G} {cl : List vw_C} {A : Nat → Prop} {a : Nat} {tys : List (ClassId × FieldType)} {ws : va_W} {H0 : Heap}
theorem va_mna {X : va_W} {L : List Nat} {f : Nat → va_E} {cc : ByteArray} (hexec : p.tables.exec = Jvm.exec) (hb : c.code = cc) {own : String} {index : Nat} {ty : FieldType} {cy : ClassId} (hown : s.vm.findClass own = some m.cls) (hclink : (Cond.classLink own index ("[" ++ (FieldType.array ty).toString)).before args s = true) (hover : va_AOA ty s) (harr : (Cond.arrayClass ty).before args s = true) (hcy : s.vm.findClass (FieldType.array ty).toString = some cy)
    (hK : va_K D cl tys s) (hP : va_P D cl (X ++ va_pl L f) H) (hD : va_D A (X ++ va_pl L f)) (hS : va_S A H0 H locs) (hA : ∀ q, H0.size ≤ q → A q) {n k : Int32} {N' K' : Nat} {z : vp_A} (hn : ¬ n < 0) (hk : ¬ k < 0) (hN : n.toNatClampNeg = N') (hM : k.toNatClampNeg = K')
    (hb1 : N' * 4 ≤ 536870912) (hb2 : K' * componentBytes ty ≤ 536870912) (hb3 : K' ≤ 536870912) (hdf : fits ty (defaultValue ty) = true) (hdd : (defaultValue ty).isDefault = true) (hcells : cells + (1 + N') ≤ R.cells) (hslots : slots + (N' + N' * K') ≤ R.slots) (hz : ∀ c : ClassId, Jvm.Free.Multi.innerC c K' (defaultValue ty) = vp_cell c z) (hdg : decode cc pc = .ok (.multianewarray index 2, 4))
    (kk : ∀ (q : Nat) (r : Nat → Nat) (cA : ClassId) (H1 : Heap), (∀ i j : Nat, i < N' → j < N' → r i = r j → i = j) → (∀ i : Nat, i < N' → r i ∉ L) → va_K D cl (tys ++ [(cA, .array ty)]) s →
      va_P D cl ((X ++ [(q, .inl (cA, N', .inr (.inr (.inr (.inr (fun i => if i < N' then some (r i) else none))))))]) ++ va_pl (L ++ (List.range N').map r) (vr_up f ((List.range N').map r) (.inl (cy, z)))) H1 → va_D A ((X ++ [(q, .inl (cA, N', .inr (.inr (.inr (.inr (fun i => if i < N' then some (r i) else none))))))]) ++ va_pl (L ++ (List.range N').map r) (vr_up f ((List.range N').map r) (.inl (cy, z)))) → va_S A H0 H1 locs →
      W p l e R s m args below meth c H1 locs (cells + 1 + N') (slots + N' + N' * K') Q (F0 m (pc + 4) ls (.ref q :: rest))) : W p l e R s m args below meth c H locs cells slots Q (F0 m pc ls (.int k :: .int n :: rest)) := by
  subst hN
  subst hM
  intro T hT Xs
  obtain ⟨vm₁, cA, comp, -, fA, fC, hO, -, X', step⟩ := Xs.multianewarray2F hexec hown hclink (va_AOA.use hover) harr (g := F0 m pc ls (.int k :: .int n :: rest)) rfl (by rw [hb]; exact hdg) rfl hn hk hb1 hb2 hb3 hdf hdd hcells hslots
  have ec : some cy = some comp := hcy.symm.trans fC
  cases ec
  generalize hF : Jvm.Free.Multi.fill (T.setVm vm₁) cA cy n.toNatClampNeg k.toNatClampNeg (defaultValue ty) n.toNatClampNeg = F at X' step
  have hTh : (T.setVm vm₁).heap = H := hT
  obtain ⟨f1, f2, -, -⟩ := Jvm.Free.Multi.fill_facts (T.setVm vm₁) cA cy n.toNatClampNeg k.toNatClampNeg (defaultValue ty) n.toNatClampNeg
  rw [hF, hTh] at f1 f2
  have hold : ∀ x : Nat, x < H.size → F.heap[x]? = H[x]? := fun x hx => by
    have := Jvm.Free.Multi.fill_old (T.setVm vm₁) cA cy n.toNatClampNeg k.toNatClampNeg (defaultValue ty) (a := x) (by rw [hTh]; exact hx) n.toNatClampNeg
    rw [hF, hTh] at this
    exact this
  have hrow : ∀ j : Nat, j < n.toNatClampNeg → F.heap[H.size + 1 + j]? = some (vp_cell cy z) := fun j hj => by
    have := Jvm.Free.Multi.fill_inner (T.setVm vm₁) cA cy n.toNatClampNeg k.toNatClampNeg (defaultValue ty) n.toNatClampNeg j hj
    rw [hF, hTh, hz] at this
    exact this
  have hout : Jvm.Free.Multi.outerC cA n.toNatClampNeg H.size n.toNatClampNeg = vp_cell cA (n.toNatClampNeg, .inr (.inr (.inr (.inr (fun i => if i < n.toNatClampNeg then some (H.size + 1 + i) else none))))) := by
    rw [vp_cell_q]
    exact vr_outer cA n.toNatClampNeg H.size n.toNatClampNeg
  rw [hout] at f2
  have hlt : ∀ a, a ∈ L → a < H.size := fun a ha => by
    obtain ⟨k9, hk9⟩ := va_pl_get (X := X) (f := f) ha
    exact (hP k9 _ hk9).lt
  have hnl : ∀ i : Nat, i < n.toNatClampNeg → H.size + 1 + i ∉ L := fun i _ h => by
    have := hlt _ h
    omega
  have hnm : ∀ a, a ∈ (List.range n.toNatClampNeg).map (fun i => H.size + 1 + i) → a ∉ L := fun a ha h => by
    obtain ⟨i, -, rfl⟩ := List.mem_map.mp ha
    have := hlt _ h
    omega
  have hP0 : va_P D cl (X ++ va_pl L f) F.heap := hP.kept (fun k9 x hx => hold x.1 ((hP k9 x hx).lt))
  have hP1 : va_P D cl ((X ++ va_pl L f) ++ [(H.size, .inl (cA, n.toNatClampNeg, .inr (.inr (.inr (.inr (fun i => if i < n.toNatClampNeg then some (H.size + 1 + i) else none))))))]) F.heap := hP0.app (fun k9 x hx => by
    have h0 : k9 < 1 := (List.getElem?_eq_some_iff.mp hx).1
    rw [show k9 = 0 by omega] at hx
    cases hx
    exact f2)
  have hP2 : va_P D cl (((X ++ va_pl L f) ++ [(H.size, .inl (cA, n.toNatClampNeg, .inr (.inr (.inr (.inr (fun i => if i < n.toNatClampNeg then some (H.size + 1 + i) else none))))))]) ++ ((List.range n.toNatClampNeg).map (fun i => H.size + 1 + i)).map (fun a => (a, .inl (cy, z)))) F.heap := hP1.app (fun k9 x hx => by
    obtain ⟨a, ha, rfl⟩ := List.mem_map.mp (List.mem_of_getElem? hx)
    obtain ⟨i, hi, rfl⟩ := List.mem_map.mp ha
    exact hrow i (List.mem_range.mp hi))
  have hD2 : va_D A (((X ++ va_pl L f) ++ [(H.size, .inl (cA, n.toNatClampNeg, .inr (.inr (.inr (.inr (fun i => if i < n.toNatClampNeg then some (H.size + 1 + i) else none))))))]) ++ ((List.range n.toNatClampNeg).map (fun i => H.size + 1 + i)).map (fun a => (a, .inl (cy, z)))) := by
    have hD1 := hD.push (e := .inl (cA, n.toNatClampNeg, .inr (.inr (.inr (.inr (fun i => if i < n.toNatClampNeg then some (H.size + 1 + i) else none)))))) hP rfl (hA _ hS.1)
    generalize hW1 : (X ++ va_pl L f) ++ [(H.size, .inl (cA, n.toNatClampNeg, .inr (.inr (.inr (.inr (fun i => if i < n.toNatClampNeg then some (H.size + 1 + i) else none))))))] = W1 at hD1 hP1 ⊢
    have hle : ∀ (k9 : Nat) (x : Nat × va_E), W1[k9]? = some x → x.1 ≤ H.size := fun k9 x hx => by
      rw [← hW1] at hx
      by_cases hl : k9 < (X ++ va_pl L f).length
      · rw [List.getElem?_append_left hl] at hx
        exact Nat.le_of_lt ((hP k9 x hx).lt)
      · rw [List.getElem?_append_right (by omega)] at hx
        have h0 : k9 - (X ++ va_pl L f).length < 1 := (List.getElem?_eq_some_iff.mp hx).1
        rw [show k9 - (X ++ va_pl L f).length = 0 by omega] at hx
        cases hx
        exact Nat.le_refl _
    have hr : ∀ (k9 : Nat) (x : Nat × va_E), (((List.range n.toNatClampNeg).map (fun i => H.size + 1 + i)).map (fun a => ((a, .inl (cy, z)) : Nat × va_E)))[k9]? = some x → x.1 = H.size + 1 + k9 := fun k9 x hx => by
      rw [List.getElem?_map, List.getElem?_map] at hx
      by_cases h9 : k9 < n.toNatClampNeg
      · rw [List.getElem?_range h9] at hx
        cases hx
        rfl
      · have hn0 : (List.range n.toNatClampNeg)[k9]? = none := List.getElem?_eq_none (by rw [List.length_range]; omega)
        rw [hn0] at hx
        cases hx
    refine ⟨fun i j x y hi hj hxy => ?_, fun k9 x hx => ?_⟩
    · by_cases h1 : i < W1.length <;> by_cases h2 : j < W1.length
      · rw [List.getElem?_append_left h1] at hi
        rw [List.getElem?_append_left h2] at hj
        exact hD1.1 i j x y hi hj hxy
      · rw [List.getElem?_append_left h1] at hi
        rw [List.getElem?_append_right (by omega)] at hj
        have := hle _ _ hi
        have := hr _ _ hj
        omega
      · rw [List.getElem?_append_right (by omega)] at hi
        rw [List.getElem?_append_left h2] at hj
        have := hle _ _ hj
        have := hr _ _ hi
        omega
      · rw [List.getElem?_append_right (by omega)] at hi hj
        have := hr _ _ hi
        have := hr _ _ hj
        omega
    · by_cases h1 : k9 < W1.length
      · rw [List.getElem?_append_left h1] at hx
        exact hD1.2 k9 x hx
      · rw [List.getElem?_append_right (by omega)] at hx
        have := hr _ _ hx
        exact hA _ (by have := hS.1; omega)
  have hAr : ArrOfT s cA (.array ty) := fun N9 z9 => by
    obtain ⟨-, k9, hk9, cm9, hkk9⟩ := (hO 0 0 0).1
    exact ⟨(fun q hq => by cases hq), k9, hk9, cm9, hkk9⟩
  have hK2 : va_K D cl (tys ++ [(cA, .array ty)]) s := ⟨hK.1, fun k9 x hx => by
    by_cases hl : k9 < tys.length
    · rw [List.getElem?_append_left hl] at hx
      exact hK.2 k9 x hx
    · rw [List.getElem?_append_right (by omega)] at hx
      have h0 : k9 - tys.length < 1 := (List.getElem?_eq_some_iff.mp hx).1
      rw [show k9 - tys.length = 0 by omega] at hx
      cases hx
      exact ⟨hAr, fA⟩⟩
  obtain ⟨t, a1, b1⟩ := kk H.size (fun i => H.size + 1 + i) cA F.heap (fun i j _ _ h => by have h9 : H.size + 1 + i = H.size + 1 + j := h; omega) hnl hK2 (by rw [← vr_rows hnm]; exact vr_lay hP2) (by rw [← vr_rows hnm]; exact vr_layD hD2) ⟨by rw [f1]; have := hS.1; omega, fun x h1 h2 => (hold x (Nat.lt_of_lt_of_le h1 hS.1)).trans (hS.2.1 x h1 h2), hS.2.2⟩ F rfl X'
  refine ⟨t, step t ?_, b1⟩
  have e : T.heap.size = H.size := by rw [hT]
  rw [e]
  exact a1
end VGM
/-! ===== END ===== -/

/-! ===== BEGIN exceptions that leave a method, and their catching by the caller (launches without stack traces) ===== -/
section VXA
/-! The laws vx_back, vx_callV, vx_callS, vx_callSW, vx_throw0, vx_throwS follow proofs of the library, with one case more: JvmDerived/Free/Laws.lean (Back.of_free), Shelf42/LK1.lean (callV, callS), Shelf/KitTraced.lean (throwNew0V, throwNewS). -/
/-- where a method has thrown q: the class by its name, the cell, what was written, the world -/
def vx_T (XC : String → State → State → Prop) (st : State) (q : Addr) (t : State) (mc ms : Nat) (free : Addr → Prop) : Prop :=
  ∃ (E : String) (ce : Cell) (L : List Loc), XC E st t ∧ t.heap[q]? = some ce ∧ ce.vm = .none ∧ st.vm.findClass E = some ce.cls ∧ st.WarmedH t.vm ∧ st.sameButNew ({ t with vm := st.vm } : State) L mc ms ∧ ∀ z ∈ L, free z.base
def vx_Q (Qc : Array Value → State → Outcome → State → Prop) (XC : String → State → State → Prop) (mc ms : Nat) (free : Addr → Prop) : Array Value → State → Outcome → State → Prop := fun a st o t =>
  (Qc a st o t ∧ ∃ L, FrameEnd st o t L mc ms ∧ ∀ q ∈ L, free q.base) ∨ ∃ q, o = .threw q ∧ vx_T XC st q t mc ms free
/-- a callee that returns or throws -/
def vx_Met (l : Launch) (y : MethodName) (ws : List Cond) (rm : Room) (Pc : Array Value → State → Prop) (Qc : Array Value → State → Outcome → State → Prop) (XC : String → State → State → Prop) (mc ms : Nat) (free : Addr → Prop) : Prop :=
  MetFree l y (headSpec ws rm) Pc (fun _ _ _ _ _ => True) (vx_Q Qc XC mc ms free)
def vx_Post (XC : String → State → State → Prop) (mc ms : Nat) (free : Addr → Prop) : Pt → Array Value → Addr → Pt → Prop := fun A a q B =>
  ∃ (g : JFrame) (mk : MethodId) (t : State) (L : List Loc) (E : String) (ce : Cell), B.U.heap = t.heap ∧ B.U.vm = t.vm ∧ XC E (A.U.calling g mk a) t ∧ t.heap[q]? = some ce ∧ ce.vm = .none ∧ A.U.vm.findClass E = some ce.cls ∧ B.locs = A.locs ++ L ∧ (∀ z ∈ L, free z.base) ∧ B.cells = A.cells + mc ∧ B.slots = A.slots + ms
def vx_Back (l : Launch) (R : Room) (p : Program) (e : Env) (below : List Frame) (s : State) (sargs : Array Value) (y : MethodName) (len W9 : Nat)
    (Pre : Pt → Array Value → Prop) (Post : Pt → Array Value → Option Value → Pt → Prop) (PostX : Pt → Array Value → Addr → Pt → Prop) : Prop :=
  ∀ (m : MethodId) (meth : Method) (c : Code) (A : Pt) (g : JFrame) (ig : Instr) (mk : MethodId) (a : Array Value),
    Stand p l e R s m sargs below meth c A.U A.locs A.cells A.slots → g.method = m → g.locals.size = c.maxLocals → decode c.code g.pc = .ok (ig, len) →
    2 * g.monitorRoom + (g.stack.map fun v => v.category).sum ≤ W9 → A.U.methodNamed? y = some mk → Pre A a →
    (∃ (v : Option Value) (B : Pt), Stand p l e R s m sargs below meth c B.U B.locs B.cells B.slots ∧ Post A a v B ∧
      Steps p.tables e below (doInvoke e (A.U.setTop g) [] mk a).1 (B.U.setTop { g with pc := g.pc + len, stack := v.toList ++ g.stack })) ∨
    (∃ (q : Addr) (B : Pt), Stand p l e R s m sargs below meth c B.U B.locs B.cells B.slots ∧ PostX A a q B ∧
      Steps p.tables e below (doInvoke e (A.U.setTop g) [] mk a).1 ((B.U.setTop g).pushFrame (.throwing q)))
section Payer
variable {l : Launch} {R : Room} {p : Program} {e : Env} {below : List Frame} {s : State} {sargs : Array Value} {y : MethodName} {len W9 : Nat}
theorem vx_back {ws : List Cond} {rm : Room} {Pc : Array Value → State → Prop} {Qc : Array Value → State → Outcome → State → Prop} {XC : String → State → State → Prop} {mc ms : Nat} {free : Addr → Prop} {bytes : ByteArray} {maxL : Nat} {ret : Option FieldType}
    (hM : vx_Met l y ws rm Pc Qc XC mc ms free) (hblind : FrameBlind Pc) (hrc : rm.cells = mc) (hrs : rm.slots = ms)
    (hframes : rm.frames + 1 ≤ R.frames) (hlocals : W9 + (maxL + 11) + rm.locals ≤ R.locals)
    (hws : ∀ w ∈ ws, ∀ a' U, s.WarmedH U.vm → w.before a' U = true) (hcode : Cond.code y bytes maxL ret ∈ ws) (hinit : ∀ a' U, s.WarmedH U.vm → (Cond.initialized y.cls).before a' U = true) :
    vx_Back l R p e below s sargs y len W9 (PreOf R mc ms Pc) (PostOf Qc mc ms free) (vx_Post XC mc ms free) := by
  intro m meth c A g ig mk a X hg hsize hdg hW hn hp
  have h1 : (headSpec ws rm).pre.before a A.U = true := atoms_intro fun w hw => hws w hw _ _ X.warmed
  have h2 : (Cond.code y bytes maxL ret).before a A.U = true := hws _ hcode _ _ X.warmed
  have h3 : (Cond.initialized y.cls).before a A.U = true := hinit _ _ X.warmed
  have h4 : A.cells + (headSpec ws rm).room.cells ≤ R.cells := by rw [show (headSpec ws rm).room.cells = mc from hrc]; exact hp.1
  have h5 : A.slots + (headSpec ws rm).room.slots ≤ R.slots := by rw [show (headSpec ws rm).room.slots = ms from hrs]; exact hp.2.1
  have hPc : Pc a (A.U.calling g mk a) := hblind _ _ _ _ hp.2.2
  obtain ⟨U, Ls, c0, s0⟩ := A
  dsimp only [Pt.U, Pt.locs, Pt.cells, Pt.slots] at h1 h2 h3 h4 h5 X hn hPc ⊢
  obtain ⟨methY, cY, hmY, hcY, -, hlY, -, -, -, -⟩ := Cond.code_spec hn h2
  obtain ⟨kY, hkY, -⟩ := className_of_methodNamed hn
  have hinitY : kY.init = .initialized := Cond.initialized_spec (findClass_of_methodNamed hn) hkY h3
  have h : At U g.method c below := by rw [hg]; exact X.here
  have hlocals9 : W9 + (maxL + 11) + (headSpec ws rm).room.locals ≤ R.locals := hlocals
  have happ : (headSpec ws rm).appliesLoose y e.platform (U.calling g mk a) = true :=
    Spec.appliesLoose_calling (g := g) h hdg hn hkY hinitY
      (X.room_calling (g := g) (R' := (headSpec ws rm).room) hsize hmY hcY hframes (by rw [hlY]; omega) h4 h5) h1
  obtain ⟨mid, hmid⟩ := h.above
  have hfr : (U.setTop g).frames = (.java g :: mid) ++ below := by rw [State.frames_setTop' g h.top, hmid]; rfl
  obtain ⟨o, s₂, hsteps, -, hend, hq⟩ := Steps.callFree hM p X.admits X.cas X.clock (acts := []) hfr happ hPc trivial
  have hq' : vx_Q Qc XC mc ms free a (U.calling g mk a) o s₂ := hq
  rw [State.frames_setTop' g h.top] at hend
  obtain ⟨g₀, hg0⟩ := Option.isSome_iff_exists.mp h.top
  obtain ⟨r, hr⟩ := State.topJava?_eq_some.mp hg0
  have hr' : (({ U with heap := s₂.heap, slotsUsed := s₂.slotsUsed } : State).setVm s₂.vm).frames = .java g₀ :: r := hr
  rcases hq' with ⟨hqc, L, hfe, hL⟩ | ⟨q, rfl, E, ce, L, hx, hce, hcv, hcl, hW₂, hsm, hL⟩
  · obtain ⟨⟨v, rfl⟩, hW₂, e2, q2, q3, q4, q5, q6⟩ := id hfe
    have e3 : s₂ = ({ (U.calling g mk a).setFrames s₂.frames with heap := s₂.heap, slotsUsed := s₂.slotsUsed } : State).setVm s₂.vm := by
      have : s₂ = ({ s₂ with vm := (U.calling g mk a).vm } : State).setVm s₂.vm := rfl
      rw [e2] at this
      exact this
    obtain ⟨c₂, i₂, len₂, hc₂, hd₂, hf₂⟩ := hend
    have hW' : U.WarmedH s₂.vm := hW₂
    have hcc : c₂ = c := by
      have h1 : s₂.code? g.method = U.code? g.method := by
        rw [State.code?_eq, State.code?_eq, hW'.alike.method?]
      exact Option.some.inj (hc₂.symm.trans (h1.trans h.code))
    subst hcc
    have hlen : len₂ = len := by rw [hdg] at hd₂; cases hd₂; rfl
    subst hlen
    have hs₂ : s₂ = (({ U with heap := s₂.heap, slotsUsed := s₂.slotsUsed } : State).setVm s₂.vm).setTop { g with pc := g.pc + len₂, stack := v.toList ++ g.stack } := by
      refine e3.trans ?_
      rw [hf₂, State.calling_eq h.top, State.setFrames_setFrames, State.setTop_of_frames _ hr', hr]
      rfl
    have hsame : U.sameButNew ({ U with heap := s₂.heap, slotsUsed := s₂.slotsUsed } : State) L mc ms := by
      refine ⟨?_, q2, q3, q4, q5, q6⟩
      obtain ⟨t, ht, -⟩ := State.frames_cons hr
      show ({ U with heap := s₂.heap, slotsUsed := s₂.slotsUsed } : State) = { U.setFrames U.frames with heap := s₂.heap, slotsUsed := s₂.slotsUsed }
      rw [State.setFrames_self ht]
    subst hg
    refine Or.inl ⟨v, ⟨(({ U with heap := s₂.heap, slotsUsed := s₂.slotsUsed } : State).setVm s₂.vm), Ls ++ L, c0 + mc, s0 + ms⟩,
      ⟨X.admits, X.cas, X.clock, X.frames, X.room, X.hears, X.method, X.code, (X.here.setHeapUsed s₂.heap s₂.slotsUsed).setVm hW'.alike, X.tail, State.WarmedH.trans X.warmed hW', X.limits, X.bytes, X.same.trans (hsame.setVm s.vm)⟩,
      ⟨g, mk, s₂, L, rfl, rfl, hqc, rfl, hL, rfl, rfl⟩, ?_⟩
    show Steps p.tables e below _ ((({ U with heap := s₂.heap, slotsUsed := s₂.slotsUsed } : State).setVm s₂.vm).setTop { g with pc := g.pc + len₂, stack := v.toList ++ g.stack })
    rw [← hs₂]
    exact hsteps
  · obtain ⟨e2, q2, q3, q4, q5, q6⟩ := id hsm
    have e3 : s₂ = ({ (U.calling g mk a).setFrames s₂.frames with heap := s₂.heap, slotsUsed := s₂.slotsUsed } : State).setVm s₂.vm := by
      have : s₂ = ({ s₂ with vm := (U.calling g mk a).vm } : State).setVm s₂.vm := rfl
      rw [e2] at this
      exact this
    have hf₂ : s₂.frames = .throwing q :: .java g :: U.frames.tail := hend
    have hW' : U.WarmedH s₂.vm := hW₂
    have hs₂ : s₂ = ((({ U with heap := s₂.heap, slotsUsed := s₂.slotsUsed } : State).setVm s₂.vm).setTop g).pushFrame (.throwing q) := by
      refine e3.trans ?_
      rw [hf₂, State.calling_eq h.top, State.setFrames_setFrames, State.pushFrame, State.frames_setTop _ hr', State.setTop_of_frames _ hr', State.setFrames_setFrames, hr]
      rfl
    have hsame : U.sameButNew ({ U with heap := s₂.heap, slotsUsed := s₂.slotsUsed } : State) L mc ms := by
      refine ⟨?_, q2, q3, q4, q5, q6⟩
      obtain ⟨t, ht, -⟩ := State.frames_cons hr
      show ({ U with heap := s₂.heap, slotsUsed := s₂.slotsUsed } : State) = { U.setFrames U.frames with heap := s₂.heap, slotsUsed := s₂.slotsUsed }
      rw [State.setFrames_self ht]
    subst hg
    refine Or.inr ⟨q, ⟨(({ U with heap := s₂.heap, slotsUsed := s₂.slotsUsed } : State).setVm s₂.vm), Ls ++ L, c0 + mc, s0 + ms⟩,
      ⟨X.admits, X.cas, X.clock, X.frames, X.room, X.hears, X.method, X.code, (X.here.setHeapUsed s₂.heap s₂.slotsUsed).setVm hW'.alike, X.tail, State.WarmedH.trans X.warmed hW', X.limits, X.bytes, X.same.trans (hsame.setVm s.vm)⟩,
      ⟨g, mk, s₂, L, E, ce, rfl, rfl, hx, hce, hcv, hcl, rfl, hL, rfl, rfl⟩, ?_⟩
    show Steps p.tables e below _ (((({ U with heap := s₂.heap, slotsUsed := s₂.slotsUsed } : State).setVm s₂.vm).setTop g).pushFrame (.throwing q))
    rw [← hs₂]
    exact hsteps
end Payer
section Calls
variable {p : Program} {l : Launch} {e : Env} {R : Room} {s : State} {m : MethodId} {args : Array Value} {below : List Frame} {meth : Method} {c : Code} {T : State} {locs : List Loc} {cells slots : Nat}
theorem vx_callV (X : Stand p l e R s m args below meth c T locs cells slots) (hexec : p.tables.exec = Jvm.exec) {own C : String} {index : Nat} {y : MethodName} {bytes : ByteArray} {maxL : Nat} {ret : Option FieldType}
    (hown : s.vm.findClass own = some m.cls) (hlink : (Cond.methodLink own index y).before args s = true) (hinst : (Cond.instanceMethod y).before args s = true) (hsel : (Cond.selects C y y).before args s = true)
    (hcode : (Cond.code y bytes maxL ret).before args s = true) (hy : y.cls ≠ "java/lang/invoke/MethodHandle" ∧ y.cls ≠ "java/lang/invoke/VarHandle")
    {W9 : Nat} {Pre : Pt → Array Value → Prop} {Post : Pt → Array Value → Option Value → Pt → Prop} {PostX : Pt → Array Value → Addr → Pt → Prop} (hK : vx_Back l R p e below s args y 3 W9 Pre Post PostX)
    {b : Addr} {cellB : Cell} (hcell : T.heap[b]? = some cellB) (hobj : cellB.vm.isStatics = false) (hcls : s.vm.findClass C = some cellB.cls)
    {g : JFrame} (hg : g.method = m) (hsize : g.locals.size = c.maxLocals) {argsL rest : List Value} (hlen : ∀ sig, parseMethodDescriptor y.desc = some sig → argsL.length = sig.parameters.length)
    (hstack : g.stack = argsL.reverse ++ .ref b :: rest) (hW : 2 * g.monitorRoom + (rest.map fun v => v.category).sum ≤ W9) (hdg : decode c.code g.pc = .ok (.invokevirtual index, 3))
    (hpre : ∀ vm₁, s.WarmedH vm₁ → Pre ⟨T.setVm vm₁, locs, cells, slots⟩ (Value.ref b :: argsL).toArray) :
    (∃ (v : Option Value) (vm₁ : Vm) (B : Pt), s.WarmedH vm₁ ∧ Stand p l e R s m args below meth c B.U B.locs B.cells B.slots ∧ Post ⟨T.setVm vm₁, locs, cells, slots⟩ (Value.ref b :: argsL).toArray v B ∧
      ∀ target, Steps p.tables e below (B.U.setTop { g with pc := g.pc + 3, stack := v.toList ++ rest }) target → Steps p.tables e below (T.setTop g) target) ∨
    (∃ (q : Addr) (vm₁ : Vm) (B : Pt), s.WarmedH vm₁ ∧ Stand p l e R s m args below meth c B.U B.locs B.cells B.slots ∧ PostX ⟨T.setVm vm₁, locs, cells, slots⟩ (Value.ref b :: argsL).toArray q B ∧
      Steps p.tables e below (T.setTop g) ((B.U.setTop { g with stack := rest }).pushFrame (.throwing q))) := by
  obtain ⟨mk, methM, hnamed, hmethM, hstM, habM⟩ := Cond.instanceMethod_spec hinst
  obtain ⟨methM', cM, hmethM', -, -, -, -, -, -, hsigM⟩ := Cond.code_spec hnamed hcode
  cases hmethM.symm.trans hmethM'
  obtain ⟨c2, r2, m2, q1, q2, q3, q4, kP, hkP, hkPi⟩ := Cond.selects_spec hsel
  cases hcls.symm.trans q1
  cases (State.methodFound?_of_named hnamed hy).symm.trans q2
  cases hnamed.symm.trans q3
  have hselP : selectMethod e.platform s.vm cellB.cls mk = .method mk := by rw [Launch.admits_selectMethod X.admits]; exact q4
  obtain ⟨vm₁, X₁, hstep₁⟩ := X.invokevirtual hexec hown hlink hnamed hmethM hstM hkP hkPi hy (a := b) (cell := cellB) hcell
    (fun z h => by rw [h] at hobj; cases hobj) hselP hmethM habM hkP hkPi (g := g) hg (argsL := argsL) (rest := rest) (hlen _ hsigM) hstack hdg
  rcases hK m meth c ⟨T.setVm vm₁, locs, cells, slots⟩ { g with stack := rest } (.invokevirtual index) mk (Value.ref b :: argsL).toArray X₁ hg hsize hdg hW (X₁.named hnamed) (hpre vm₁ X₁.warmed) with ⟨v, B, X', hpost, hsteps⟩ | ⟨q, B, X', hpost, hsteps⟩
  · exact Or.inl ⟨v, vm₁, B, X₁.warmed, X', hpost, fun target h => hstep₁ _ fun acts => by rw [doInvoke_state]; exact hsteps.trans h⟩
  · exact Or.inr ⟨q, vm₁, B, X₁.warmed, X', hpost, hstep₁ _ fun acts => by rw [doInvoke_state]; exact hsteps⟩
theorem vx_callS (X : Stand p l e R s m args below meth c T locs cells slots) (hexec : p.tables.exec = Jvm.exec) {own : String} {index : Nat} {y : MethodName} {bytes : ByteArray} {maxL : Nat} {ret : Option FieldType}
    (hown : s.vm.findClass own = some m.cls) (hlink : (Cond.methodLink own index y).before args s = true) (hstat : (Cond.static y).before args s = true) (hinit : (Cond.initialized y.cls).before args s = true)
    (hcode : (Cond.code y bytes maxL ret).before args s = true) (hy : y.cls ≠ "java/lang/invoke/MethodHandle" ∧ y.cls ≠ "java/lang/invoke/VarHandle")
    {W9 : Nat} {Pre : Pt → Array Value → Prop} {Post : Pt → Array Value → Option Value → Pt → Prop} {PostX : Pt → Array Value → Addr → Pt → Prop} (hK : vx_Back l R p e below s args y 3 W9 Pre Post PostX)
    {g : JFrame} (hg : g.method = m) (hsize : g.locals.size = c.maxLocals) {argsL rest : List Value} (hlen : ∀ sig, parseMethodDescriptor y.desc = some sig → argsL.length = sig.parameters.length)
    (hstack : g.stack = argsL.reverse ++ rest) (hW : 2 * g.monitorRoom + (rest.map fun v => v.category).sum ≤ W9) (hdg : decode c.code g.pc = .ok (.invokestatic index, 3))
    (hpre : ∀ vm₁, s.WarmedH vm₁ → Pre ⟨T.setVm vm₁, locs, cells, slots⟩ argsL.toArray) :
    (∃ (v : Option Value) (vm₁ : Vm) (B : Pt), s.WarmedH vm₁ ∧ Stand p l e R s m args below meth c B.U B.locs B.cells B.slots ∧ Post ⟨T.setVm vm₁, locs, cells, slots⟩ argsL.toArray v B ∧
      ∀ target, Steps p.tables e below (B.U.setTop { g with pc := g.pc + 3, stack := v.toList ++ rest }) target → Steps p.tables e below (T.setTop g) target) ∨
    (∃ (q : Addr) (vm₁ : Vm) (B : Pt), s.WarmedH vm₁ ∧ Stand p l e R s m args below meth c B.U B.locs B.cells B.slots ∧ PostX ⟨T.setVm vm₁, locs, cells, slots⟩ argsL.toArray q B ∧
      Steps p.tables e below (T.setTop g) ((B.U.setTop { g with stack := rest }).pushFrame (.throwing q))) := by
  obtain ⟨mk, hnamed⟩ := Cond.code_named hcode
  obtain ⟨methM, cM, hmethM, -, -, -, -, -, -, hsigM⟩ := Cond.code_spec hnamed hcode
  have hstatic : methM.isStatic = true := Cond.static_spec hnamed hmethM hstat
  obtain ⟨kP, hkP, -⟩ := className_of_methodNamed hnamed
  have hinitP : kP.init = .initialized := Cond.initialized_spec (findClass_of_methodNamed hnamed) hkP hinit
  obtain ⟨vm₁, X₁, hstep₁⟩ := X.invokestatic hexec hown hlink hnamed hmethM hstatic hkP hinitP hy (g := g) hg (argsL := argsL) (rest := rest) (hlen _ hsigM) hstack hdg
  rcases hK m meth c ⟨T.setVm vm₁, locs, cells, slots⟩ { g with stack := rest } (.invokestatic index) mk argsL.toArray X₁ hg hsize hdg hW (X₁.named hnamed) (hpre vm₁ X₁.warmed) with ⟨v, B, X', hpost, hsteps⟩ | ⟨q, B, X', hpost, hsteps⟩
  · exact Or.inl ⟨v, vm₁, B, X₁.warmed, X', hpost, fun target h => hstep₁ _ fun acts => by rw [doInvoke_state]; exact hsteps.trans h⟩
  · exact Or.inr ⟨q, vm₁, B, X₁.warmed, X', hpost, hstep₁ _ fun acts => by rw [doInvoke_state]; exact hsteps⟩
end Calls
theorem vx_cls {s : State} {T : State} {vm₁ : Vm} {E : String} {k : ClassId} (hW : s.WarmedH vm₁) (h : (T.setVm vm₁).vm.findClass E = some k) : s.vm.findClass E = some k := by
  have h1 : vm₁.findClass E = some k := h
  rw [hW.alike.findClass] at h1
  exact h1
/-- the method's frame g, with q thrown over it -/
def vx_W (p : Program) (l : Launch) (e : Env) (R : Room) (s : State) (m : MethodId) (args : Array Value) (below : List Frame) (meth : Method) (c : Code) (H : Heap) (locs : List Loc) (cells slots : Nat) (Q : State → Prop) (g : JFrame) (q : Addr) : Prop :=
  ∀ T : State, T.heap = H → Stand p l e R s m args below meth c T locs cells slots → ∃ t, Steps p.tables e below ((T.setTop g).pushFrame (.throwing q)) t ∧ Q t
def vx_Run (p : Program) (l : Launch) (e : Env) (R : Room) (s : State) (m : MethodId) (args : Array Value) (below : List Frame) (meth : Method) (c : Code) (H : Heap) (locs : List Loc) (cells slots mc ms : Nat) (g : JFrame) (rest : List Value) (Qa : State → Outcome → State → Prop) (XC : String → State → State → Prop) (free : Addr → Prop) : Prop :=
  ∀ T : State, T.heap = H → Stand p l e R s m args below meth c T locs cells slots →
    (∃ (v : Option Value) (st₀ t T' : State) (L : List Loc), st₀.heap = H ∧ Stand p l e R s m args below meth c T' (locs ++ L) (cells + mc) (slots + ms) ∧ (∀ q ∈ L, free q.base) ∧ T'.heap = t.heap ∧ T'.vm = t.vm ∧ Qa st₀ (.returned v) t ∧
      Goes p e below T g T' { g with pc := g.pc + 3, stack := v.toList ++ rest }) ∨
    (∃ (q : Addr) (st₀ t T' : State) (L : List Loc) (E : String) (ce : Cell), st₀.heap = H ∧ Stand p l e R s m args below meth c T' (locs ++ L) (cells + mc) (slots + ms) ∧ (∀ z ∈ L, free z.base) ∧ T'.heap = t.heap ∧ T'.vm = t.vm ∧ XC E st₀ t ∧ t.heap[q]? = some ce ∧ ce.vm = .none ∧ s.vm.findClass E = some ce.cls ∧
      Steps p.tables e below (T.setTop g) ((T'.setTop { g with stack := rest }).pushFrame (.throwing q)))
def vx_X {S : Type} (px : S → Prop) (B : String → S → State → Prop) (A : Nat → Prop) : String → State → State → Prop := fun E st t => ∃ u : S, px u ∧ B E u t ∧ va_F A st t
section Runs
variable {p : Program} {l : Launch} {e : Env} {R : Room} {s : State} {m : MethodId} {args : Array Value} {below : List Frame} {meth : Method} {c : Code} {H : Heap} {locs : List Loc} {cells slots : Nat}
variable {y : MethodName} {bytes cc : ByteArray} {maxL nL mc ms n index : Nat} {ret : Option FieldType} {ws : List Cond} {rm : Room} {Pc : Array Value → State → Prop} {Qc : Array Value → State → Outcome → State → Prop} {XC : String → State → State → Prop} {free : Addr → Prop} {Ts : List Cond} {own C : String} {b : Addr} {As rest : List Value} {g : JFrame}
theorem vx_callBack (cb : CallB R s args own index y bytes maxL ret ws rm mc ms n) (hM : vx_Met l y ws rm Pc Qc XC mc ms free) (hbl : FrameBlind Pc) : vx_Back l R p e below s args y 3 8 (PreOf R mc ms Pc) (PostOf Qc mc ms free) (vx_Post XC mc ms free) := by
  obtain ⟨hrc, hrs, hfr, hlo, hws, hcw, -, hini, -⟩ := cb
  exact vx_back (bytes := bytes) (maxL := maxL) (ret := ret) hM hbl hrc hrs hfr hlo hws hcw (fun a' U hW => word_at hW (Or.inl (by first | rfl | simp [Cond.onTables, Cond.keeps, Cond.steady])) hini)
theorem vx_runV (S : CallFix p m c cc nL s args Ts own) (hM : vx_Met l y ws rm Pc Qc XC mc ms free) (cw : CallW R s args own C index y bytes maxL ret ws rm mc ms n) (hp : PreV s H C b Pc As)
    (hg : g.method = m) (hn : As.length = n) (hsize : g.locals.size = nL) (hstack : g.stack = As.reverse ++ .ref b :: rest) (hW : 2 * g.monitorRoom + (rest.map fun v => v.category).sum ≤ 8) (hdg : decode cc g.pc = .ok (.invokevirtual index, 3)) (hf : cells + mc ≤ R.cells ∧ slots + ms ≤ R.slots) :
    vx_Run p l e R s m args below meth c H locs cells slots mc ms g rest (Qc (Value.ref b :: As).toArray) XC free := by
  have hK : vx_Back l R p e below s args y 3 8 (PreOf R mc ms Pc) (PostOf Qc mc ms free) (vx_Post XC mc ms free) := vx_callBack cw.1 hM hp.1
  obtain ⟨⟨-, -, -, -, -, -, hcode, -, hy, hlen, hl⟩, hin, hse⟩ := cw
  obtain ⟨hx, hb, hml, ho, -⟩ := S
  obtain ⟨-, ⟨cellB, hcB, hoB, hclB⟩, hPc⟩ := hp
  intro T hT X
  rcases vx_callV X hx (C := C) (bytes := bytes) (maxL := maxL) (ret := ret) ho hl hin hse hcode hy hK (by rw [hT]; exact hcB) hoB hclB hg (hsize.trans hml.symm) (argsL := As) (rest := rest) (fun sig h => hn.trans (hlen sig h)) hstack hW (by rw [hb]; exact hdg)
    (fun vm₁ hW₁ => ⟨hf.1, hf.2, hPc (T.setVm vm₁) hT hW₁⟩) with ⟨v, vm₁, ⟨U', l2, c2, s2⟩, hW₁, X', ⟨g', mk, t, L, e1, e2, hq, h1, hL, h2, h3⟩, st⟩ | ⟨q, vm₁, ⟨U', l2, c2, s2⟩, hW₁, X', ⟨g', mk, t, L, E, ce, e1, e2, hq, hce, hcv, hcl, h1, hL, h2, h3⟩, st⟩
  · dsimp only [Pt.U, Pt.locs, Pt.cells, Pt.slots] at X' e1 e2 h1 h2 h3 st
    subst h1; subst h2; subst h3
    exact Or.inl ⟨v, (T.setVm vm₁).calling g' mk (Value.ref b :: As).toArray, t, U', L, hT, X', hL, e1, e2, hq, st⟩
  · dsimp only [Pt.U, Pt.locs, Pt.cells, Pt.slots] at X' e1 e2 h1 h2 h3 st hcl
    subst h1; subst h2; subst h3
    exact Or.inr ⟨q, (T.setVm vm₁).calling g' mk (Value.ref b :: As).toArray, t, U', L, E, ce, hT, X', hL, e1, e2, hq, hce, hcv, vx_cls hW₁ hcl, st⟩
theorem vx_runS (S : CallFix p m c cc nL s args Ts own) (hM : vx_Met l y ws rm Pc Qc XC mc ms free) (cw : CallB R s args own index y bytes maxL ret ws rm mc ms n ∧ (Cond.static y).before args s = true) (hp : PreS s H Pc As)
    (hg : g.method = m) (hn : As.length = n) (hsize : g.locals.size = nL) (hstack : g.stack = As.reverse ++ rest) (hW : 2 * g.monitorRoom + (rest.map fun v => v.category).sum ≤ 8) (hdg : decode cc g.pc = .ok (.invokestatic index, 3)) (hf : cells + mc ≤ R.cells ∧ slots + ms ≤ R.slots) :
    vx_Run p l e R s m args below meth c H locs cells slots mc ms g rest (Qc As.toArray) XC free := by
  have hK : vx_Back l R p e below s args y 3 8 (PreOf R mc ms Pc) (PostOf Qc mc ms free) (vx_Post XC mc ms free) := vx_callBack cw.1 hM hp.1
  obtain ⟨⟨-, -, -, -, -, -, hcode, hini, hy, hlen, hl⟩, hstt⟩ := cw
  obtain ⟨hx, hb, hml, ho, -⟩ := S
  intro T hT X
  rcases vx_callS X hx (bytes := bytes) (maxL := maxL) (ret := ret) ho hl hstt hini hcode hy hK hg (hsize.trans hml.symm) (argsL := As) (rest := rest) (fun sig h => hn.trans (hlen sig h)) hstack hW (by rw [hb]; exact hdg)
    (fun vm₁ hW₁ => ⟨hf.1, hf.2, hp.2 (T.setVm vm₁) hT hW₁⟩) with ⟨v, vm₁, ⟨U', l2, c2, s2⟩, hW₁, X', ⟨g', mk, t, L, e1, e2, hq, h1, hL, h2, h3⟩, st⟩ | ⟨q, vm₁, ⟨U', l2, c2, s2⟩, hW₁, X', ⟨g', mk, t, L, E, ce, e1, e2, hq, hce, hcv, hcl, h1, hL, h2, h3⟩, st⟩
  · dsimp only [Pt.U, Pt.locs, Pt.cells, Pt.slots] at X' e1 e2 h1 h2 h3 st
    subst h1; subst h2; subst h3
    exact Or.inl ⟨v, (T.setVm vm₁).calling g' mk As.toArray, t, U', L, hT, X', hL, e1, e2, hq, st⟩
  · dsimp only [Pt.U, Pt.locs, Pt.cells, Pt.slots] at X' e1 e2 h1 h2 h3 st hcl
    subst h1; subst h2; subst h3
    exact Or.inr ⟨q, (T.setVm vm₁).calling g' mk As.toArray, t, U', L, E, ce, hT, X', hL, e1, e2, hq, hce, hcv, vx_cls hW₁ hcl, st⟩
end Runs
section Rows
variable {p : Program} {l : Launch} {e : Env} {R : Room} {s : State} {m : MethodId} {args : Array Value} {below : List Frame} {meth : Method} {c : Code} {H : Heap} {locs : List Loc} {cells slots : Nat} {Q : State → Prop}
variable {mc ms : Nat} {free : Addr → Prop} {A0 A1 : Nat → Prop} {H0 : Heap} {a : Array Value} {pc : Nat} {ls : Array Slot} {st0 rest : List Value}
theorem vx_keep {st₀ t T' : State} {L : List Loc} (h0 : st₀.heap = H) (e1 : T'.heap = t.heap) (hS : va_S A0 H0 H locs) (hA : ∀ q, q < H.size → A1 q → A0 q) (hf : ∀ q, free q → A0 q) (hL : ∀ q ∈ L, free q.base) (hF : va_F A1 st₀ t) :
    H.size ≤ T'.heap.size ∧ (∀ q : Nat, q < H.size → ¬ A1 q → T'.heap[q]? = H[q]?) ∧ va_S A0 H0 T'.heap (locs ++ L) := by
  obtain ⟨hz, hk⟩ := hF
  rw [h0] at hz hk
  exact ⟨by rw [e1]; exact hz, fun q h1 h2 => by rw [e1]; exact hk q h1 h2,
    ⟨Nat.le_trans hS.1 (by rw [e1]; exact hz), fun q h1 h2 => by rw [e1, hk q (Nat.lt_of_lt_of_le h1 hS.1) (fun z => h2 (hA q (Nat.lt_of_lt_of_le h1 hS.1) z))]; exact hS.2.1 q h1 h2, fun q hq => by
      rcases List.mem_append.mp hq with h | h
      · exact hS.2.2 q h
      · exact hf _ (hL q h)⟩⟩
theorem vx_calli {S SX : Type} {post : Int32 → S → Prop} {px : SX → Prop} {B : S → State → Prop} {BX : String → SX → State → Prop} {AX : Nat → Prop} (hr : vx_Run p l e R s m args below meth c H locs cells slots mc ms (F0 m pc ls st0) rest (va_Qi post B A1 a) (vx_X px BX AX) free) (hS : va_S A0 H0 H locs) (hA : ∀ q, q < H.size → A1 q → A0 q) (hf : ∀ q, free q → A0 q) (hAX : ∀ q, q < H.size → AX q → A0 q)
    (kx : ∀ (E : String) (ce : Cell) (q9 : Addr) (u : SX) (t : State) (H1 : Heap) (locs1 : List Loc), t.heap = H1 → s.vm.Alike t.vm → px u → BX E u t → H.size ≤ H1.size → (∀ q : Nat, q < H.size → ¬ AX q → H1[q]? = H[q]?) → va_S A0 H0 H1 locs1 → H1[q9]? = some ce → ce.vm = .none → s.vm.findClass E = some ce.cls → vx_W p l e R s m args below meth c H1 locs1 (cells + mc) (slots + ms) Q (F0 m pc ls rest) q9)
    (kk : ∀ (r : Int32) (u : S) (t : State) (H1 : Heap) (locs1 : List Loc), t.heap = H1 → s.vm.Alike t.vm → post r u → B u t → H.size ≤ H1.size → (∀ q : Nat, q < H.size → ¬ A1 q → H1[q]? = H[q]?) → va_S A0 H0 H1 locs1 → W p l e R s m args below meth c H1 locs1 (cells + mc) (slots + ms) Q (F0 m (pc + 3) ls (.int r :: rest))) : W p l e R s m args below meth c H locs cells slots Q (F0 m pc ls st0) := by
  intro T hT X
  rcases hr T hT X with ⟨v, st₀, t, T', L, h0, X', hL, e1, e2, ⟨⟨r, u, hv, hp, hb⟩, hF⟩, st⟩ | ⟨q, st₀, t, T', L, E, ce, h0, X', hL, e1, e2, ⟨u, hp, hb, hF⟩, hce, hcv, hcl, st⟩
  · cases hv
    obtain ⟨k1, k2, k3⟩ := vx_keep h0 e1 hS hA hf hL hF
    obtain ⟨t2, a1, b1⟩ := kk r u t T'.heap (locs ++ L) e1.symm (by rw [← e2]; exact X'.warmed.alike) hp hb k1 k2 k3 T' rfl X'
    exact ⟨t2, st t2 a1, b1⟩
  · obtain ⟨k1, k2, k3⟩ := vx_keep h0 e1 hS hAX hf hL hF
    obtain ⟨t2, a1, b1⟩ := kx E ce q u t T'.heap (locs ++ L) e1.symm (by rw [← e2]; exact X'.warmed.alike) hp hb k1 k2 k3 (by rw [e1]; exact hce) hcv hcl T' rfl X'
    exact ⟨t2, st.trans a1, b1⟩
theorem vx_calll {S SX : Type} {post : Int64 → S → Prop} {px : SX → Prop} {B : S → State → Prop} {BX : String → SX → State → Prop} {AX : Nat → Prop} (hr : vx_Run p l e R s m args below meth c H locs cells slots mc ms (F0 m pc ls st0) rest (va_Ql post B A1 a) (vx_X px BX AX) free) (hS : va_S A0 H0 H locs) (hA : ∀ q, q < H.size → A1 q → A0 q) (hf : ∀ q, free q → A0 q) (hAX : ∀ q, q < H.size → AX q → A0 q)
    (kx : ∀ (E : String) (ce : Cell) (q9 : Addr) (u : SX) (t : State) (H1 : Heap) (locs1 : List Loc), t.heap = H1 → s.vm.Alike t.vm → px u → BX E u t → H.size ≤ H1.size → (∀ q : Nat, q < H.size → ¬ AX q → H1[q]? = H[q]?) → va_S A0 H0 H1 locs1 → H1[q9]? = some ce → ce.vm = .none → s.vm.findClass E = some ce.cls → vx_W p l e R s m args below meth c H1 locs1 (cells + mc) (slots + ms) Q (F0 m pc ls rest) q9)
    (kk : ∀ (r : Int64) (u : S) (t : State) (H1 : Heap) (locs1 : List Loc), t.heap = H1 → s.vm.Alike t.vm → post r u → B u t → H.size ≤ H1.size → (∀ q : Nat, q < H.size → ¬ A1 q → H1[q]? = H[q]?) → va_S A0 H0 H1 locs1 → W p l e R s m args below meth c H1 locs1 (cells + mc) (slots + ms) Q (F0 m (pc + 3) ls (.long r :: rest))) : W p l e R s m args below meth c H locs cells slots Q (F0 m pc ls st0) := by
  intro T hT X
  rcases hr T hT X with ⟨v, st₀, t, T', L, h0, X', hL, e1, e2, ⟨⟨r, u, hv, hp, hb⟩, hF⟩, st⟩ | ⟨q, st₀, t, T', L, E, ce, h0, X', hL, e1, e2, ⟨u, hp, hb, hF⟩, hce, hcv, hcl, st⟩
  · cases hv
    obtain ⟨k1, k2, k3⟩ := vx_keep h0 e1 hS hA hf hL hF
    obtain ⟨t2, a1, b1⟩ := kk r u t T'.heap (locs ++ L) e1.symm (by rw [← e2]; exact X'.warmed.alike) hp hb k1 k2 k3 T' rfl X'
    exact ⟨t2, st t2 a1, b1⟩
  · obtain ⟨k1, k2, k3⟩ := vx_keep h0 e1 hS hAX hf hL hF
    obtain ⟨t2, a1, b1⟩ := kx E ce q u t T'.heap (locs ++ L) e1.symm (by rw [← e2]; exact X'.warmed.alike) hp hb k1 k2 k3 (by rw [e1]; exact hce) hcv hcl T' rfl X'
    exact ⟨t2, st.trans a1, b1⟩
theorem vx_callf {S SX : Type} {post : UInt32 → S → Prop} {px : SX → Prop} {B : S → State → Prop} {BX : String → SX → State → Prop} {AX : Nat → Prop} (hr : vx_Run p l e R s m args below meth c H locs cells slots mc ms (F0 m pc ls st0) rest (va_Qf post B A1 a) (vx_X px BX AX) free) (hS : va_S A0 H0 H locs) (hA : ∀ q, q < H.size → A1 q → A0 q) (hf : ∀ q, free q → A0 q) (hAX : ∀ q, q < H.size → AX q → A0 q)
    (kx : ∀ (E : String) (ce : Cell) (q9 : Addr) (u : SX) (t : State) (H1 : Heap) (locs1 : List Loc), t.heap = H1 → s.vm.Alike t.vm → px u → BX E u t → H.size ≤ H1.size → (∀ q : Nat, q < H.size → ¬ AX q → H1[q]? = H[q]?) → va_S A0 H0 H1 locs1 → H1[q9]? = some ce → ce.vm = .none → s.vm.findClass E = some ce.cls → vx_W p l e R s m args below meth c H1 locs1 (cells + mc) (slots + ms) Q (F0 m pc ls rest) q9)
    (kk : ∀ (r : UInt32) (u : S) (t : State) (H1 : Heap) (locs1 : List Loc), t.heap = H1 → s.vm.Alike t.vm → post r u → B u t → H.size ≤ H1.size → (∀ q : Nat, q < H.size → ¬ A1 q → H1[q]? = H[q]?) → va_S A0 H0 H1 locs1 → W p l e R s m args below meth c H1 locs1 (cells + mc) (slots + ms) Q (F0 m (pc + 3) ls (.float r :: rest))) : W p l e R s m args below meth c H locs cells slots Q (F0 m pc ls st0) := by
  intro T hT X
  rcases hr T hT X with ⟨v, st₀, t, T', L, h0, X', hL, e1, e2, ⟨⟨r, u, hv, hp, hb⟩, hF⟩, st⟩ | ⟨q, st₀, t, T', L, E, ce, h0, X', hL, e1, e2, ⟨u, hp, hb, hF⟩, hce, hcv, hcl, st⟩
  · cases hv
    obtain ⟨k1, k2, k3⟩ := vx_keep h0 e1 hS hA hf hL hF
    obtain ⟨t2, a1, b1⟩ := kk r u t T'.heap (locs ++ L) e1.symm (by rw [← e2]; exact X'.warmed.alike) hp hb k1 k2 k3 T' rfl X'
    exact ⟨t2, st t2 a1, b1⟩
  · obtain ⟨k1, k2, k3⟩ := vx_keep h0 e1 hS hAX hf hL hF
    obtain ⟨t2, a1, b1⟩ := kx E ce q u t T'.heap (locs ++ L) e1.symm (by rw [← e2]; exact X'.warmed.alike) hp hb k1 k2 k3 (by rw [e1]; exact hce) hcv hcl T' rfl X'
    exact ⟨t2, st.trans a1, b1⟩
theorem vx_calld {S SX : Type} {post : UInt64 → S → Prop} {px : SX → Prop} {B : S → State → Prop} {BX : String → SX → State → Prop} {AX : Nat → Prop} (hr : vx_Run p l e R s m args below meth c H locs cells slots mc ms (F0 m pc ls st0) rest (va_Qd post B A1 a) (vx_X px BX AX) free) (hS : va_S A0 H0 H locs) (hA : ∀ q, q < H.size → A1 q → A0 q) (hf : ∀ q, free q → A0 q) (hAX : ∀ q, q < H.size → AX q → A0 q)
    (kx : ∀ (E : String) (ce : Cell) (q9 : Addr) (u : SX) (t : State) (H1 : Heap) (locs1 : List Loc), t.heap = H1 → s.vm.Alike t.vm → px u → BX E u t → H.size ≤ H1.size → (∀ q : Nat, q < H.size → ¬ AX q → H1[q]? = H[q]?) → va_S A0 H0 H1 locs1 → H1[q9]? = some ce → ce.vm = .none → s.vm.findClass E = some ce.cls → vx_W p l e R s m args below meth c H1 locs1 (cells + mc) (slots + ms) Q (F0 m pc ls rest) q9)
    (kk : ∀ (r : UInt64) (u : S) (t : State) (H1 : Heap) (locs1 : List Loc), t.heap = H1 → s.vm.Alike t.vm → post r u → B u t → H.size ≤ H1.size → (∀ q : Nat, q < H.size → ¬ A1 q → H1[q]? = H[q]?) → va_S A0 H0 H1 locs1 → W p l e R s m args below meth c H1 locs1 (cells + mc) (slots + ms) Q (F0 m (pc + 3) ls (.double r :: rest))) : W p l e R s m args below meth c H locs cells slots Q (F0 m pc ls st0) := by
  intro T hT X
  rcases hr T hT X with ⟨v, st₀, t, T', L, h0, X', hL, e1, e2, ⟨⟨r, u, hv, hp, hb⟩, hF⟩, st⟩ | ⟨q, st₀, t, T', L, E, ce, h0, X', hL, e1, e2, ⟨u, hp, hb, hF⟩, hce, hcv, hcl, st⟩
  · cases hv
    obtain ⟨k1, k2, k3⟩ := vx_keep h0 e1 hS hA hf hL hF
    obtain ⟨t2, a1, b1⟩ := kk r u t T'.heap (locs ++ L) e1.symm (by rw [← e2]; exact X'.warmed.alike) hp hb k1 k2 k3 T' rfl X'
    exact ⟨t2, st t2 a1, b1⟩
  · obtain ⟨k1, k2, k3⟩ := vx_keep h0 e1 hS hAX hf hL hF
    obtain ⟨t2, a1, b1⟩ := kx E ce q u t T'.heap (locs ++ L) e1.symm (by rw [← e2]; exact X'.warmed.alike) hp hb k1 k2 k3 (by rw [e1]; exact hce) hcv hcl T' rfl X'
    exact ⟨t2, st.trans a1, b1⟩
theorem vx_callv {S SX : Type} {post : S → Prop} {px : SX → Prop} {B : S → State → Prop} {BX : String → SX → State → Prop} {AX : Nat → Prop} (hr : vx_Run p l e R s m args below meth c H locs cells slots mc ms (F0 m pc ls st0) rest (va_Qv post B A1 a) (vx_X px BX AX) free) (hS : va_S A0 H0 H locs) (hA : ∀ q, q < H.size → A1 q → A0 q) (hf : ∀ q, free q → A0 q) (hAX : ∀ q, q < H.size → AX q → A0 q)
    (kx : ∀ (E : String) (ce : Cell) (q9 : Addr) (u : SX) (t : State) (H1 : Heap) (locs1 : List Loc), t.heap = H1 → s.vm.Alike t.vm → px u → BX E u t → H.size ≤ H1.size → (∀ q : Nat, q < H.size → ¬ AX q → H1[q]? = H[q]?) → va_S A0 H0 H1 locs1 → H1[q9]? = some ce → ce.vm = .none → s.vm.findClass E = some ce.cls → vx_W p l e R s m args below meth c H1 locs1 (cells + mc) (slots + ms) Q (F0 m pc ls rest) q9)
    (kk : ∀ (u : S) (t : State) (H1 : Heap) (locs1 : List Loc), t.heap = H1 → s.vm.Alike t.vm → post u → B u t → H.size ≤ H1.size → (∀ q : Nat, q < H.size → ¬ A1 q → H1[q]? = H[q]?) → va_S A0 H0 H1 locs1 → W p l e R s m args below meth c H1 locs1 (cells + mc) (slots + ms) Q (F0 m (pc + 3) ls (rest))) : W p l e R s m args below meth c H locs cells slots Q (F0 m pc ls st0) := by
  intro T hT X
  rcases hr T hT X with ⟨v, st₀, t, T', L, h0, X', hL, e1, e2, ⟨⟨u, hv, hp, hb⟩, hF⟩, st⟩ | ⟨q, st₀, t, T', L, E, ce, h0, X', hL, e1, e2, ⟨u, hp, hb, hF⟩, hce, hcv, hcl, st⟩
  · cases hv
    obtain ⟨k1, k2, k3⟩ := vx_keep h0 e1 hS hA hf hL hF
    obtain ⟨t2, a1, b1⟩ := kk u t T'.heap (locs ++ L) e1.symm (by rw [← e2]; exact X'.warmed.alike) hp hb k1 k2 k3 T' rfl X'
    exact ⟨t2, st t2 a1, b1⟩
  · obtain ⟨k1, k2, k3⟩ := vx_keep h0 e1 hS hAX hf hL hF
    obtain ⟨t2, a1, b1⟩ := kx E ce q u t T'.heap (locs ++ L) e1.symm (by rw [← e2]; exact X'.warmed.alike) hp hb k1 k2 k3 (by rw [e1]; exact hce) hcv hcl T' rfl X'
    exact ⟨t2, st.trans a1, b1⟩
/-- caught by the row x of this method's table; the rows ahead don't take it -/
theorem vx_catch {own name : String} {E : String} {ce : Cell} {q : Addr} (hown : s.vm.findClass own = some m.cls) (pre : List ExceptionTableEntry) (x : ExceptionTableEntry) (suf : List ExceptionTableEntry) (hsplit : c.exceptionTable.toList = pre ++ x :: suf)
    (hpass : ∀ z ∈ pre, covers z pc = false ∨ (z.catchType ≠ 0 ∧ ∃ nm : String, (Cond.classLink own z.catchType nm).before args s = true ∧ va_Nc E nm s)) (hx : covers x pc = true) (h0 : x.catchType ≠ 0)
    (hlink : (Cond.classLink own x.catchType name).before args s = true) (hcast : (Cond.castable E name).before args s = true) (hcell : H[q]? = some ce) (hv : ce.vm = .none) (hcl : s.vm.findClass E = some ce.cls)
    (kk : W p l e R s m args below meth c H locs cells slots Q (F0 m x.handlerPc ls [.ref q])) : vx_W p l e R s m args below meth c H locs cells slots Q (F0 m pc ls rest) q := by
  intro T hT X
  have hpl : e.platform.magicAccessors = ({} : Platform).magicAccessors := by rw [X.admits.platform]
  obtain ⟨c3, c4, hc3, hc4, hasg⟩ := Cond.castable_spec hcast
  cases Option.some.inj (hc3.symm.trans hcl)
  obtain ⟨c5, hc5, hcl5⟩ := Cond.classLink_spec hown hlink e.platform hpl
  cases Option.some.inj (hc4.symm.trans hc5)
  obtain ⟨vm', X', st⟩ := X.thenCaughtThrough q (g := F0 m pc ls rest) rfl (Steps.refl _) (by rw [hT]; exact hcell) (by rw [hv]; rfl) (by obtain ⟨k9, h9, -⟩ := Vm.findClass_spec hcl; exact ⟨k9, h9⟩) pre x suf hsplit
    (fun z hz => by
      rcases hpass z hz with h | ⟨hz0, nm, hl1, hn1⟩
      · exact Or.inl h
      · obtain ⟨c6, hc6, hcl6⟩ := Cond.classLink_spec hown hl1 e.platform hpl
        obtain ⟨a8, b8, h1, h2, h3⟩ := hn1
        cases Option.some.inj (h1.symm.trans hcl)
        cases Option.some.inj (h2.symm.trans hc6)
        exact Or.inr ⟨hz0, _, hcl6, h3⟩) hx (Or.inr ⟨h0, c4, hcl5, hasg⟩)
  obtain ⟨t, a1, b1⟩ := kk (T.setVm vm') hT X'
  exact ⟨t, st.trans a1, b1⟩
end Rows
section Ends
variable {p : Program} {l : Launch} {e : Env} {R : Room} {s : State} {m : MethodId} {args : Array Value} {below : List Frame} {meth : Method} {c : Code} {H : Heap} {locs : List Loc} {cells slots : Nat} {Q : State → Prop}
variable {mc ms : Nat} {free : Addr → Prop} {A0 A1 : Nat → Prop} {H0 : Heap} {a : Array Value} {ls : Array Slot} {st0 rest : List Value}
variable {Qc : Array Value → State → Outcome → State → Prop} {XC : String → State → State → Prop}
/-- what a body that may throw owes at its end -/
def vx_MQ (below : List Frame) (Qc : Array Value → State → Outcome → State → Prop) (XC : String → State → State → Prop) (a : Array Value) (s : State) (mc ms : Nat) (free : Addr → Prop) : State → Prop := fun t =>
  ∃ o, t.status = .running ∧ Ended t below o ∧ vx_Q Qc XC mc ms free a s o t
theorem vx_ret {g : JFrame} {mc ms : Nat} (k : W p l e R s m args below meth c H locs cells slots (MQ below Qc args s mc ms free) g) : W p l e R s m args below meth c H locs cells slots (vx_MQ below Qc XC args s mc ms free) g := by
  intro T hT X
  obtain ⟨t, a1, o, b1, b2, b3, b4⟩ := k T hT X
  exact ⟨t, a1, o, b1, b2, Or.inl ⟨b3, b4⟩⟩
/-- not caught here: it goes on to the caller -/
theorem vx_widen {g : JFrame} {q : Addr} {k n : Nat} (h1 : cells ≤ k) (h2 : slots ≤ n) (kk : vx_W p l e R s m args below meth c H locs k n Q g q) : vx_W p l e R s m args below meth c H locs cells slots Q g q := fun T hT X => kk T hT (stand_widen X h1 h2)
theorem vx_out {pc : Nat} {E : String} {ce : Cell} {q : Addr} {mc ms : Nat} (hout : ∀ x ∈ c.exceptionTable.toList, covers x pc = false) (hlocks : meth.locks = false) (hcell : H[q]? = some ce) (hv : ce.vm = .none) (hcl : s.vm.findClass E = some ce.cls)
    (hx : ∀ t : State, t.heap = H → s.vm.Alike t.vm → XC E s t) (hf : ∀ z ∈ locs, free z.base) (hc : cells ≤ mc) (hs : slots ≤ ms) :
    vx_W p l e R s m args below meth c H locs cells slots (vx_MQ below Qc XC args s mc ms free) (F0 m pc ls rest) q := by
  intro T hT X
  obtain ⟨st1, hrun, hend, hW, hsm⟩ := X.leaveThrown q (g := F0 m pc ls rest) rfl rfl rfl hout hlocks
  have hcell9 : (T.setFrames (.throwing q :: below)).heap[q]? = some ce := by
    show T.heap[q]? = some ce
    rw [hT]; exact hcell
  exact ⟨_, st1, .threw q, hrun, hend, Or.inr ⟨q, rfl, E, ce, locs, hx _ hT hW.alike, hcell9, hv, hcl, hW, hsm.mono hc hs, hf⟩⟩
theorem vx_frame {U : State} {k n : Nat} (h : s.sameButNew ({ U with vm := s.vm } : State) locs k n) : s.heap.size ≤ U.heap.size ∧ ∀ q : Nat, q < s.heap.size → (∀ z ∈ locs, z.base ≠ q) → U.heap[q]? = s.heap[q]? := by
  obtain ⟨-, h2, -, -, -, h6⟩ := h
  refine ⟨h2, fun q hq hz => ?_⟩
  obtain ⟨c9, e1, e2, e3, e4⟩ := h6 q _ (Array.getElem?_eq_getElem hq)
  have hs : c9.slots = (s.heap[q]).slots := Array.ext_getElem? fun i => e4 i fun hm => hz _ hm rfl
  have h9 : c9 = s.heap[q] := by
    rw [hs] at e2
    exact e2
  have e5 : U.heap[q]? = some c9 := e1
  rw [e5, h9, Array.getElem?_eq_getElem hq]
/-- the words of a throw but the four that speak of the heap -/
def vx_no (w : Cond) : Bool := decide (w ≠ .isRef (.static Bundle.tN "UNASSIGNED_STACK" Bundle.steD)) && decide (w ≠ .isRef (.static Bundle.tN "SUPPRESSED_SENTINEL" Bundle.listD)) && decide (w ≠ .laysStatic Bundle.tN "UNASSIGNED_STACK" Bundle.steD) && decide (w ≠ .laysStatic Bundle.tN "SUPPRESSED_SENTINEL" Bundle.listD)
def vx_at0 (own : String) (ic : Nat) (X : String) (names : List String) : List Cond := (Bundle.ownAtoms0 own ic X names).filter vx_no
def vx_atS (own : String) (ic : Nat) (X : String) (names : List String) : List Cond := (Bundle.ownAtoms own ic X names).filter vx_no
/-- a word that the tables alone decide, or a good one -/
def vx_ot (w : Cond) : Bool := w.onTables || goodWord w
theorem vx_ot_at {args a' : Array Value} {s U : State} {w : Cond} (hW : s.WarmedH U.vm) (hvm : s.vm = U.vm) (hg : vx_ot w = true) (h : w.before args s = true) : w.before a' U = true := by
  simp only [vx_ot, Bool.or_eq_true] at hg
  rcases hg with hg | hg
  · exact va_tabs hg hvm h
  · exact word_at hW (good_of_word hg) h
/-- a list's words: the good ones out of the method's own list, the others by premises of their own -/
theorem vx_hat {args : Array Value} {s : State} {L B : List Cond} (h1 : ∀ w ∈ L.filter goodWord, w.before args s = true) (h2 : ∀ w ∈ L.filter (fun w => !goodWord w), w ∈ B) (h3 : ∀ w ∈ B, w.before args s = true) : ∀ w ∈ L, w.before args s = true := by
  intro w hw
  by_cases g : goodWord w = true
  · exact h1 w (List.mem_filter.mpr ⟨hw, g⟩)
  · refine h3 w (h2 w (List.mem_filter.mpr ⟨hw, ?_⟩))
    show (!goodWord w) = true
    cases hgw : goodWord w
    · rfl
    · exact absurd hgw g
theorem vx_c {args : Array Value} {s : State} {w : Cond} {B : List Cond} (h : w.before args s = true) (t : ∀ w ∈ B, w.before args s = true) : ∀ w' ∈ w :: B, w'.before args s = true := fun w' h' => (List.mem_cons.mp h').elim (fun e => by rw [e]; exact h) (t w')
theorem vx_n {args : Array Value} {s : State} : ∀ w ∈ ([] : List Cond), w.before args s = true := fun _ h => nomatch h
theorem vx_own {args : Array Value} {s : State} {L : List Cond} (h1 : ∀ w ∈ L.filter vx_no, w.before args s = true)
    (hU : (Cond.isRef (.static Bundle.tN "UNASSIGNED_STACK" Bundle.steD)).before args s = true) (hN : (Cond.isRef (.static Bundle.tN "SUPPRESSED_SENTINEL" Bundle.listD)).before args s = true)
    (lU : (Cond.laysStatic Bundle.tN "UNASSIGNED_STACK" Bundle.steD).before args s = true) (lN : (Cond.laysStatic Bundle.tN "SUPPRESSED_SENTINEL" Bundle.listD).before args s = true) : ∀ w ∈ L, w.before args s = true := by
  intro w hw
  by_cases e1 : w = .isRef (.static Bundle.tN "UNASSIGNED_STACK" Bundle.steD)
  · rw [e1]; exact hU
  · by_cases e2 : w = .isRef (.static Bundle.tN "SUPPRESSED_SENTINEL" Bundle.listD)
    · rw [e2]; exact hN
    · by_cases e3 : w = .laysStatic Bundle.tN "UNASSIGNED_STACK" Bundle.steD
      · rw [e3]; exact lU
      · by_cases e4 : w = .laysStatic Bundle.tN "SUPPRESSED_SENTINEL" Bundle.listD
        · rw [e4]; exact lN
        · exact h1 w (List.mem_filter.mpr ⟨hw, by unfold vx_no; rw [decide_eq_true e1, decide_eq_true e2, decide_eq_true e3, decide_eq_true e4]; rfl⟩)
/-- where a static field lies, its class's statics cell in H -/
def vx_L (C n d : String) (A : Nat → Prop) (U : State) (H : Heap) : Prop := ∃ (c : ClassId) (k : Class) (i : Nat) (f : Field) (a : Nat) (cell : Cell), U.vm.findClass C = some c ∧ U.fieldFound? C n d = some (c, k, i, f) ∧ f.isStatic = true ∧ k.statics = some a ∧ H[a]? = some cell ∧ cell.vm.isStatics = true ∧ cell.cls = c ∧ f.slot < cell.slots.size ∧ k.staticTypes[f.slot]? = some f.type ∧ ¬ A a
theorem vx_L.moved {C n d : String} {A : Nat → Prop} {u U : State} {H : Heap} (hvm : u.vm.Alike U.vm) (h : vx_L C n d A u H) : vx_L C n d A U H := by
  obtain ⟨c, k, i, f, a, cell, h1, h2, h3, h4, h5, h6, h7, h8, h9, h10⟩ := h
  obtain ⟨k', hi', he⟩ := State.fieldFound?_setVm hvm h2
  exact ⟨c, k', i, f, a, cell, by rw [hvm.findClass]; exact h1, hi', h3, by rw [he]; exact h4, h5, h6, h7, h8, by rw [he]; exact h9, h10⟩
theorem vx_L.kept {C n d : String} {A : Nat → Prop} {U : State} {H H1 : Heap} (h : vx_L C n d A U H) (hq : ∀ a : Nat, a < H.size → ¬ A a → H1[a]? = H[a]?) : vx_L C n d A U H1 := by
  obtain ⟨c, k, i, f, a, cell, h1, h2, h3, h4, h5, h6, h7, h8, h9, h10⟩ := h
  exact ⟨c, k, i, f, a, cell, h1, h2, h3, h4, by rw [hq a (Array.getElem?_eq_some_iff.mp h5).1 h10]; exact h5, h6, h7, h8, h9, h10⟩
theorem vx_L.narrow {C n d : String} {A B : Nat → Prop} {U : State} {H : Heap} (h : vx_L C n d A U H) (hAB : ∀ q, B q → A q) : vx_L C n d B U H := by
  obtain ⟨c, k, i, f, a, cell, h1, h2, h3, h4, h5, h6, h7, h8, h9, h10⟩ := h
  exact ⟨c, k, i, f, a, cell, h1, h2, h3, h4, h5, h6, h7, h8, h9, fun z => h10 (hAB _ z)⟩
theorem vx_L.word {C n d : String} {A : Nat → Prop} {s : State} {args : Array Value} (h : vx_L C n d A s s.heap) : (Cond.laysStatic C n d).before args s = true := by
  obtain ⟨c, k, i, f, a, cell, h1, h2, h3, h4, h5, h6, h7, h8, h9, -⟩ := h
  show (Cond.laysStatic C n d).holds args s none s [] = true
  exact Cond.laysStatic_of h1 h2 h3 h4 h5 h6 h7 h8 h9
/-- .. and what it holds: null or some reference -/
def vx_Zq (C n d : String) (A : Nat → Prop) (U : State) (H : Heap) : Prop := va_Zq C n d A U H ∧ vx_L C n d A U H
theorem vx_Zq.moved {C n d : String} {A : Nat → Prop} {u U : State} {H : Heap} (hvm : u.vm.Alike U.vm) (h : vx_Zq C n d A u H) : vx_Zq C n d A U H := ⟨va_Zq.moved hvm h.1, vx_L.moved hvm h.2⟩
theorem vx_Zq.kept {C n d : String} {A : Nat → Prop} {U : State} {H H1 : Heap} (h : vx_Zq C n d A U H) (hq : ∀ a : Nat, a < H.size → ¬ A a → H1[a]? = H[a]?) : vx_Zq C n d A U H1 := ⟨va_Zq.kept h.1 hq, vx_L.kept h.2 hq⟩
theorem vx_Zq.narrow {C n d : String} {A B : Nat → Prop} {U : State} {H : Heap} (h : vx_Zq C n d A U H) (hAB : ∀ q, B q → A q) : vx_Zq C n d B U H := ⟨va_Zq.narrow h.1 hAB, vx_L.narrow h.2 hAB⟩
theorem vx_Zqof {args : Array Value} {s : State} {C n d : String} {A : Nat → Prop} (hl : (Cond.laysStatic C n d).before args s = true) (hini : (Cond.initialized C).before args s = true) (h : (Cond.isRef (.static C n d)).before args s = true) (hA : ∀ a : Nat, a < s.heap.size → ¬ A a) : vx_Zq C n d A s s.heap := by
  refine ⟨va_Zqof hl hini h hA, ?_⟩
  obtain ⟨c, k, i, f, a, cell, h1, h2, h3, h4, h5, h6, h7, h8, h9⟩ := Cond.laysStatic_spec hl
  exact ⟨c, k, i, f, a, cell, h1, h2, h3, h4, h5, h6, h7, h8, h9, hA a (Array.getElem?_eq_some_iff.mp h5).1⟩
theorem vx_isRef {C n d : String} {v : Value} {A : Nat → Prop} {s : State} {args : Array Value} (h : va_Z C n d v A s s.heap) (hv : v.isRef = true) : (Cond.isRef (.static C n d)).before args s = true := by
  obtain ⟨cf, kf, fi, f, a, cell, h1, h2, h3, h4, h5, h6, h7, -⟩ := h
  have he : (Term.static C n d).eval args s none [] s = some v := by
    simp [Term.eval, State.fieldNamed?, h1, h2, h4, h5, h6, h7]
  simp only [Cond.before, Cond.holds, Cond.value, he]
  cases v <;> simp_all [Value.isRef]
theorem vx_isRefq {C n d : String} {A : Nat → Prop} {s : State} {args : Array Value} (h : va_Zq C n d A s s.heap) : (Cond.isRef (.static C n d)).before args s = true := by
  rcases h with h | ⟨t, h⟩
  · exact vx_isRef h rfl
  · exact vx_isRef h rfl
/-- the same frame, seen from here: as if the method were called anew in this heap -/
theorem vx_rebase {T : State} (X : Stand p l e R s m args below meth c T locs cells slots) {R' : Room} (hf : R'.frames ≤ R.frames) (hl : R'.locals ≤ R.locals) (hc : cells + R'.cells ≤ R.cells) (hs : slots + R'.slots ≤ R.slots) :
    Stand p l e R' ((T.setVm s.vm).setFrames (.invoking m args :: below)) m args below meth c T [] 0 0 := by
  have htop : (T.setVm s.vm).topJava?.isSome := X.here.top
  have hF : ((T.setVm s.vm).setFrames (.invoking m args :: below)).frames = .invoking m args :: below := State.frames_setFrames _ (State.cur_lt_of_top htop)
  obtain ⟨g₀, hg0⟩ := Option.isSome_iff_exists.mp htop
  obtain ⟨r, hr⟩ := State.topJava?_eq_some.mp hg0
  have hl9 : e.platform.stackLimits (T.setVm s.vm).me = e.platform.stackLimits s.me := X.limits
  have hb9 : (T.setVm s.vm).me.stackBytes = s.me.stackBytes := X.bytes
  refine ⟨X.admits, X.cas, X.clock, hF, ?_, X.hears, X.method, X.code, X.here, X.tail, X.warmed, ?_, ?_, ?_⟩
  · have h := X.room
    have hU : ((T.setVm s.vm).setFrames (.invoking m args :: below)).localsInUse = s.localsInUse := by
      rw [State.localsInUse_invoking hF (meth := meth) (c := c) X.method X.code, State.localsInUse_invoking X.frames X.method X.code]
    simp only [State.hasRoom, Bool.and_eq_true, decide_eq_true_eq] at h ⊢
    obtain ⟨⟨⟨⟨h1, h2, h3, h4, h5, h6⟩, h7⟩, h8⟩, h9⟩ := h
    rw [X.frames, List.length_cons] at h2 h3
    have q1 := X.heapSize
    have q2 := X.used
    simp only [hF, hU, List.length_cons, State.stackLimits_setFrames, State.stackBytes_setFrames, hl9, hb9]
    refine ⟨⟨⟨⟨by omega, by omega, by omega, by omega, by omega, h6⟩, ?_⟩, ?_⟩, X.book⟩
    · show T.heap.size + R'.cells ≤ e.platform.maxCells
      omega
    · show T.slotsUsed + R'.slots ≤ e.platform.maxSlots
      omega
  · rw [State.stackLimits_setFrames]; rfl
  · rw [State.stackBytes_setFrames]; rfl
  · refine ⟨?_, Nat.le_refl _, Nat.le_refl _, ?_, ?_, fun a c9 h9 => ⟨c9, h9, rfl, rfl, fun _ _ => rfl⟩⟩
    · obtain ⟨t, ht, -⟩ := State.frames_cons hr
      show T.setVm s.vm = { ((T.setVm s.vm).setFrames (.invoking m args :: below)).setFrames (T.setVm s.vm).frames with heap := T.heap, slotsUsed := T.slotsUsed }
      rw [State.setFrames_setFrames, State.setFrames_self ht]
      rfl
    · show T.slotsUsed = T.slotsUsed + ((T.heap.toList.drop T.heap.size).map (·.slots.size)).sum
      rw [List.drop_eq_nil_of_le (Nat.le_of_eq Array.length_toList)]
      rfl
    · show ((T.heap.toList.drop T.heap.size).map (·.slots.size)).sum ≤ 0
      rw [List.drop_eq_nil_of_le (Nat.le_of_eq Array.length_toList)]
      exact Nat.le_refl _
/-- 'throw new E()': new; dup; invokespecial; athrow -/
theorem vx_throw0 {cc : ByteArray} {pc : Nat} (hexec : p.tables.exec = Jvm.exec) (hb : c.code = cc) (hl : l.stackTraces = false) {own cls : String} {names : List String} {ik ic mc ms : Nat} {A : Nat → Prop}
    (hown : s.vm.findClass own = some m.cls) (hcls : Bundle.fit cls = true) (hnames : ∀ n ∈ names, Bundle.fit n = true)
    (hk : (Cond.classLink own ik cls).before args s = true) (hini : (Cond.initialized cls).before args s = true) (hat : ∀ w ∈ vx_at0 own ic cls names, w.before args s = true)
    (hgood : ∀ w ∈ Cond.classLink own ik cls :: Cond.initialized cls :: vx_at0 own ic cls names, vx_ot w = true)
    (hU : vx_Zq Bundle.tN "UNASSIGNED_STACK" Bundle.steD A s s.heap) (hN : vx_Zq Bundle.tN "SUPPRESSED_SENTINEL" Bundle.listD A s s.heap) (hS : va_S A s.heap H locs) (hsize : ls.size = c.maxLocals)
    (d0 : decode cc pc = .ok (.new ik, 3)) (d3 : decode cc (pc + 3) = .ok (.dup, 1)) (d4 : decode cc (pc + 4) = .ok (.invokespecial ic, 3)) (d7 : decode cc (pc + 7) = .ok (.athrow, 1))
    (hout : ∀ x ∈ c.exceptionTable.toList, covers x (pc + 7) = false)
    (hRframes : names.length + 3 < R.frames) (hRlocals : (rest.map fun v => v.category).sum + (13 * (names.length + 1) + 42) ≤ R.locals) (hRcells : cells + 1 ≤ R.cells) (hRslots : slots + 6 ≤ R.slots) (hlocks : meth.locks = false)
    (hx : ∀ t : State, s.vm.Alike t.vm → H.size ≤ t.heap.size → (∀ q : Nat, q < H.size → t.heap[q]? = H[q]?) → XC cls s t)
    (hf : ∀ z ∈ locs, free z.base) (hc : cells + 1 ≤ mc) (hs : slots + 6 ≤ ms) :
    W p l e R s m args below meth c H locs cells slots (vx_MQ below Qc XC args s mc ms free) (F0 m pc ls rest) := by
  intro T hT X
  have htr : e.platform.stackTraces = false := (show e.platform.stackTraces = l.stackTraces by rw [X.admits.platform]).trans hl
  have Y := vx_rebase X (R' := { frames := R.frames, locals := R.locals, cells := 1, slots := 6 }) (Nat.le_refl _) (Nat.le_refl _) hRcells hRslots
  obtain ⟨s', hA⟩ : ∃ z, z = (T.setVm s.vm).setFrames (.invoking m args :: below) := ⟨_, rfl⟩
  rw [← hA] at Y
  have hvm : s'.vm = s.vm := by rw [hA]; rfl
  have hhp : s'.heap = H := by rw [hA]; exact hT
  have hW0 : s.WarmedH s'.vm := by rw [hvm]; exact State.WarmedH.refl s
  have hat' : ∀ w ∈ vx_at0 own ic cls names, w.before args s' = true := fun w hw => vx_ot_at hW0 hvm.symm (hgood w (List.mem_cons_of_mem _ (List.mem_cons_of_mem _ hw))) (hat w hw)
  have hk' : (Cond.classLink own ik cls).before args s' = true := vx_ot_at hW0 hvm.symm (hgood _ List.mem_cons_self) hk
  have hini' : (Cond.initialized cls).before args s' = true := vx_ot_at hW0 hvm.symm (hgood _ (List.mem_cons_of_mem _ List.mem_cons_self)) hini
  have hU' : vx_Zq Bundle.tN "UNASSIGNED_STACK" Bundle.steD A s' s'.heap := by rw [hhp]; exact vx_Zq.moved hW0.alike (hU.kept hS.2.1)
  have hN' : vx_Zq Bundle.tN "SUPPRESSED_SENTINEL" Bundle.listD A s' s'.heap := by rw [hhp]; exact vx_Zq.moved hW0.alike (hN.kept hS.2.1)
  have h : ∀ w ∈ Bundle.ownAtoms0 own ic cls names, w.before args s' = true := vx_own hat' (vx_isRefq hU'.1) (vx_isRefq hN'.1) hU'.2.word hN'.2.word
  have hown' : s'.vm.findClass own = some m.cls := by rw [hvm]; exact hown
  have hins : (Cond.instantiable cls 6).before args s' = true := h _ (by simp [Bundle.ownAtoms0])
  obtain ⟨vm₁, cX, kX, hfX, hkX, -, -, X₁, st1⟩ := Y.newCold hexec (own := own) (C := cls) (index := ik) (n := 6) hown' hk' hins hini'
    (g := F0 m pc ls rest) rfl (by rw [hb]; exact d0) (Nat.le_refl _) (Nat.le_refl _)
  generalize hT1 : (T.setVm vm₁).pushCell { cls := cX, slots := kX.instanceTypes.map defaultValue, vm := .none } = T1 at X₁ st1
  have hcat : (Value.ref T.heap.size).category = 1 := rfl
  have hcellA : T1.heap[T.heap.size]? = some (freshCell cX kX) := by rw [← hT1]; exact State.heap_pushCell_size _ _
  have d3' : decode c.code (pc + 3) = .ok (.dup, 1) := by rw [hb]; exact d3
  obtain ⟨U, hsteps, hrun, hend, hW, hsame, ce, hce, hO⟩ := X₁.ctorThrow0 hexec htr (own := own) (cls := cls) (names := names) (ic := ic) hown' hcls hnames h (fun x hx => nomatch hx) hfX hkX hcellA (by rw [hhp, hT]; exact Nat.le_refl _)
    (g := { method := m, pc := pc + 4, locals := ls, stack := .ref T.heap.size :: .ref T.heap.size :: rest, locked := none }) rfl hsize rfl rfl (rest := rest) rfl
    (by rw [hb]; exact d4) (by rw [hb]; exact d7) hout hRframes (by simp only [List.map_cons, List.sum_cons, hcat]; omega) hlocks
  obtain ⟨f1, f2⟩ := vx_frame hsame
  rw [hhp] at f1 f2
  have hWs : s.WarmedH U.vm := State.WarmedH.trans hW0 hW
  have hcl : s.vm.findClass cls = some ce.cls := by
    have h9 := hO.cls
    rw [hvm] at h9
    exact h9
  have hall : s.sameButNew ({ U with vm := s.vm } : State) locs mc ms := by
    subst hA
    obtain ⟨e1, e2⟩ := hsame
    rw [State.setFrames_setFrames] at e1
    have h2 : (T.setVm s.vm).sameButNew ({ U with vm := s.vm } : State) [] (0 + 1) (0 + 6) := ⟨e1, e2⟩
    have h3 := X.same.trans h2
    rw [List.append_nil] at h3
    exact h3.mono hc hs
  refine ⟨U, ?_, .threw T.heap.size, hrun, hend, Or.inr ⟨T.heap.size, rfl, cls, ce, locs, hx U hWs.alike f1 (fun q hq => f2 q hq (fun z hz => nomatch hz)), hce, hO.vm, hcl, hWs, hall, hf⟩⟩
  refine st1 _ ?_
  show Steps p.tables e below (T1.setTop { method := m, pc := pc + 3, locals := ls, stack := .ref T.heap.size :: rest, locked := none }) _
  jvm_step X₁.here [X₁.here.top, hexec, d3', Value.category]
  exact hsteps
/-- 'throw new E("text")': new; dup; ldc; invokespecial; athrow -/
theorem vx_throwS {cc : ByteArray} {pc : Nat} (hexec : p.tables.exec = Jvm.exec) (hb : c.code = cc) (hl : l.stackTraces = false) {own cls text : String} {names : List String} {ik is ic mc ms sa : Nat} {A : Nat → Prop}
    (hown : s.vm.findClass own = some m.cls) (hcls : Bundle.fit cls = true) (hnames : ∀ n ∈ names, Bundle.fit n = true)
    (hk : (Cond.classLink own ik cls).before args s = true) (hini : (Cond.initialized cls).before args s = true) (hstr : vk_R own is text sa s) (hat : ∀ w ∈ vx_atS own ic cls names, w.before args s = true)
    (hgood : ∀ w ∈ Cond.classLink own ik cls :: Cond.initialized cls :: vx_atS own ic cls names, vx_ot w = true)
    (hU : vx_Zq Bundle.tN "UNASSIGNED_STACK" Bundle.steD A s s.heap) (hN : vx_Zq Bundle.tN "SUPPRESSED_SENTINEL" Bundle.listD A s s.heap) (hS : va_S A s.heap H locs) (hsize : ls.size = c.maxLocals)
    (d0 : decode cc pc = .ok (.new ik, 3)) (d3 : decode cc (pc + 3) = .ok (.dup, 1)) (d4 : decode cc (pc + 4) = .ok (.ldc is, 2)) (d6 : decode cc (pc + 6) = .ok (.invokespecial ic, 3)) (d9 : decode cc (pc + 9) = .ok (.athrow, 1))
    (hout : ∀ x ∈ c.exceptionTable.toList, covers x (pc + 9) = false)
    (hRframes : names.length + 3 < R.frames) (hRlocals : (rest.map fun v => v.category).sum + (13 * (names.length + 1) + 43) ≤ R.locals) (hRcells : cells + 1 ≤ R.cells) (hRslots : slots + 6 ≤ R.slots) (hlocks : meth.locks = false)
    (hx : ∀ t : State, s.vm.Alike t.vm → H.size ≤ t.heap.size → (∀ q : Nat, q < H.size → t.heap[q]? = H[q]?) → XC cls s t)
    (hf : ∀ z ∈ locs, free z.base) (hc : cells + 1 ≤ mc) (hs : slots + 6 ≤ ms) :
    W p l e R s m args below meth c H locs cells slots (vx_MQ below Qc XC args s mc ms free) (F0 m pc ls rest) := by
  intro T hT X
  have htr : e.platform.stackTraces = false := (show e.platform.stackTraces = l.stackTraces by rw [X.admits.platform]).trans hl
  have Y := vx_rebase X (R' := { frames := R.frames, locals := R.locals, cells := 1, slots := 6 }) (Nat.le_refl _) (Nat.le_refl _) hRcells hRslots
  obtain ⟨s', hA⟩ : ∃ z, z = (T.setVm s.vm).setFrames (.invoking m args :: below) := ⟨_, rfl⟩
  rw [← hA] at Y
  have hvm : s'.vm = s.vm := by rw [hA]; rfl
  have hhp : s'.heap = H := by rw [hA]; exact hT
  have hW0 : s.WarmedH s'.vm := by rw [hvm]; exact State.WarmedH.refl s
  have hat' : ∀ w ∈ vx_atS own ic cls names, w.before args s' = true := fun w hw => vx_ot_at hW0 hvm.symm (hgood w (List.mem_cons_of_mem _ (List.mem_cons_of_mem _ hw))) (hat w hw)
  have hk' : (Cond.classLink own ik cls).before args s' = true := vx_ot_at hW0 hvm.symm (hgood _ List.mem_cons_self) hk
  have hini' : (Cond.initialized cls).before args s' = true := vx_ot_at hW0 hvm.symm (hgood _ (List.mem_cons_of_mem _ List.mem_cons_self)) hini
  have hU' : vx_Zq Bundle.tN "UNASSIGNED_STACK" Bundle.steD A s' s'.heap := by rw [hhp]; exact vx_Zq.moved hW0.alike (hU.kept hS.2.1)
  have hN' : vx_Zq Bundle.tN "SUPPRESSED_SENTINEL" Bundle.listD A s' s'.heap := by rw [hhp]; exact vx_Zq.moved hW0.alike (hN.kept hS.2.1)
  have h : ∀ w ∈ Bundle.ownAtoms own ic cls names, w.before args s' = true := vx_own hat' (vx_isRefq hU'.1) (vx_isRefq hN'.1) hU'.2.word hN'.2.word
  have hown' : s'.vm.findClass own = some m.cls := by rw [hvm]; exact hown
  have hins : (Cond.instantiable cls 6).before args s' = true := h _ (by simp [Bundle.ownAtoms])
  obtain ⟨vm₁, cX, kX, hfX, hkX, -, -, X₁, st1⟩ := Y.newCold hexec (own := own) (C := cls) (index := ik) (n := 6) hown' hk' hins hini'
    (g := F0 m pc ls rest) rfl (by rw [hb]; exact d0) (Nat.le_refl _) (Nat.le_refl _)
  generalize hT1 : (T.setVm vm₁).pushCell { cls := cX, slots := kX.instanceTypes.map defaultValue, vm := .none } = T1 at X₁ st1
  have hcat : (Value.ref T.heap.size).category = 1 := rfl
  have hcellA : T1.heap[T.heap.size]? = some (freshCell cX kX) := by rw [← hT1]; exact State.heap_pushCell_size _ _
  have d3' : decode c.code (pc + 3) = .ok (.dup, 1) := by rw [hb]; exact d3
  have d4' : decode c.code (pc + 4) = .ok (.ldc is, 2) := by rw [hb]; exact d4
  have hstr' : vk_R own is text sa s' := vk_R.warm hW0 hstr
  obtain ⟨U, hsteps, hrun, hend, hW, hsame, ce, hce, hO⟩ := X₁.ctorThrowS hexec htr (own := own) (cls := cls) (names := names) (ic := ic) hown' hcls hnames h (fun x hx => nomatch hx) hfX hkX hcellA (by rw [hhp, hT]; exact Nat.le_refl _) (msg := .ref sa) rfl
    (g := { method := m, pc := pc + 6, locals := ls, stack := .ref sa :: .ref T.heap.size :: .ref T.heap.size :: rest, locked := none }) rfl hsize rfl rfl (rest := rest) rfl
    (by rw [hb]; exact d6) (by rw [hb]; exact d9) hout hRframes (by simp only [List.map_cons, List.sum_cons, hcat]; omega) hlocks
  obtain ⟨f1, f2⟩ := vx_frame hsame
  rw [hhp] at f1 f2
  have hWs : s.WarmedH U.vm := State.WarmedH.trans hW0 hW
  have hcl : s.vm.findClass cls = some ce.cls := by
    have h9 := hO.cls
    rw [hvm] at h9
    exact h9
  have hall : s.sameButNew ({ U with vm := s.vm } : State) locs mc ms := by
    subst hA
    obtain ⟨e1, e2⟩ := hsame
    rw [State.setFrames_setFrames] at e1
    have h2 : (T.setVm s.vm).sameButNew ({ U with vm := s.vm } : State) [] (0 + 1) (0 + 6) := ⟨e1, e2⟩
    have h3 := X.same.trans h2
    rw [List.append_nil] at h3
    exact h3.mono hc hs
  refine ⟨U, ?_, .threw T.heap.size, hrun, hend, Or.inr ⟨T.heap.size, rfl, cls, ce, locs, hx U hWs.alike f1 (fun q hq => f2 q hq (fun z hz => nomatch hz)), hce, hO.vm, hcl, hWs, hall, hf⟩⟩
  refine st1 _ ?_
  show Steps p.tables e below (T1.setTop { method := m, pc := pc + 3, locals := ls, stack := .ref T.heap.size :: rest, locked := none }) _
  jvm_step X₁.here [X₁.here.top, hexec, d3', Value.category]
  exact X₁.ldcString hexec (own := own) (text := text) (index := is) (a := sa) hown' hstr'.1 hstr'.2
    (g := { method := m, pc := pc + 4, locals := ls, stack := .ref T.heap.size :: .ref T.heap.size :: rest, locked := none }) rfl d4' _ hsteps
/-- 'throw new E("text")', the text by a wide index -/
theorem vx_throwSW {cc : ByteArray} {pc : Nat} (hexec : p.tables.exec = Jvm.exec) (hb : c.code = cc) (hl : l.stackTraces = false) {own cls text : String} {names : List String} {ik is ic mc ms sa : Nat} {A : Nat → Prop}
    (hown : s.vm.findClass own = some m.cls) (hcls : Bundle.fit cls = true) (hnames : ∀ n ∈ names, Bundle.fit n = true)
    (hk : (Cond.classLink own ik cls).before args s = true) (hini : (Cond.initialized cls).before args s = true) (hstr : vk_R own is text sa s) (hat : ∀ w ∈ vx_atS own ic cls names, w.before args s = true)
    (hgood : ∀ w ∈ Cond.classLink own ik cls :: Cond.initialized cls :: vx_atS own ic cls names, vx_ot w = true)
    (hU : vx_Zq Bundle.tN "UNASSIGNED_STACK" Bundle.steD A s s.heap) (hN : vx_Zq Bundle.tN "SUPPRESSED_SENTINEL" Bundle.listD A s s.heap) (hS : va_S A s.heap H locs) (hsize : ls.size = c.maxLocals)
    (d0 : decode cc pc = .ok (.new ik, 3)) (d3 : decode cc (pc + 3) = .ok (.dup, 1)) (d4 : decode cc (pc + 4) = .ok (.ldc_w is, 3)) (d7 : decode cc (pc + 7) = .ok (.invokespecial ic, 3)) (d10 : decode cc (pc + 10) = .ok (.athrow, 1))
    (hout : ∀ x ∈ c.exceptionTable.toList, covers x (pc + 10) = false)
    (hRframes : names.length + 3 < R.frames) (hRlocals : (rest.map fun v => v.category).sum + (13 * (names.length + 1) + 43) ≤ R.locals) (hRcells : cells + 1 ≤ R.cells) (hRslots : slots + 6 ≤ R.slots) (hlocks : meth.locks = false)
    (hx : ∀ t : State, s.vm.Alike t.vm → H.size ≤ t.heap.size → (∀ q : Nat, q < H.size → t.heap[q]? = H[q]?) → XC cls s t)
    (hf : ∀ z ∈ locs, free z.base) (hc : cells + 1 ≤ mc) (hs : slots + 6 ≤ ms) :
    W p l e R s m args below meth c H locs cells slots (vx_MQ below Qc XC args s mc ms free) (F0 m pc ls rest) := by
  intro T hT X
  have htr : e.platform.stackTraces = false := (show e.platform.stackTraces = l.stackTraces by rw [X.admits.platform]).trans hl
  have Y := vx_rebase X (R' := { frames := R.frames, locals := R.locals, cells := 1, slots := 6 }) (Nat.le_refl _) (Nat.le_refl _) hRcells hRslots
  obtain ⟨s', hA⟩ : ∃ z, z = (T.setVm s.vm).setFrames (.invoking m args :: below) := ⟨_, rfl⟩
  rw [← hA] at Y
  have hvm : s'.vm = s.vm := by rw [hA]; rfl
  have hhp : s'.heap = H := by rw [hA]; exact hT
  have hW0 : s.WarmedH s'.vm := by rw [hvm]; exact State.WarmedH.refl s
  have hat' : ∀ w ∈ vx_atS own ic cls names, w.before args s' = true := fun w hw => vx_ot_at hW0 hvm.symm (hgood w (List.mem_cons_of_mem _ (List.mem_cons_of_mem _ hw))) (hat w hw)
  have hk' : (Cond.classLink own ik cls).before args s' = true := vx_ot_at hW0 hvm.symm (hgood _ List.mem_cons_self) hk
  have hini' : (Cond.initialized cls).before args s' = true := vx_ot_at hW0 hvm.symm (hgood _ (List.mem_cons_of_mem _ List.mem_cons_self)) hini
  have hU' : vx_Zq Bundle.tN "UNASSIGNED_STACK" Bundle.steD A s' s'.heap := by rw [hhp]; exact vx_Zq.moved hW0.alike (hU.kept hS.2.1)
  have hN' : vx_Zq Bundle.tN "SUPPRESSED_SENTINEL" Bundle.listD A s' s'.heap := by rw [hhp]; exact vx_Zq.moved hW0.alike (hN.kept hS.2.1)
  have h : ∀ w ∈ Bundle.ownAtoms own ic cls names, w.before args s' = true := vx_own hat' (vx_isRefq hU'.1) (vx_isRefq hN'.1) hU'.2.word hN'.2.word
  have hown' : s'.vm.findClass own = some m.cls := by rw [hvm]; exact hown
  have hins : (Cond.instantiable cls 6).before args s' = true := h _ (by simp [Bundle.ownAtoms])
  obtain ⟨vm₁, cX, kX, hfX, hkX, -, -, X₁, st1⟩ := Y.newCold hexec (own := own) (C := cls) (index := ik) (n := 6) hown' hk' hins hini'
    (g := F0 m pc ls rest) rfl (by rw [hb]; exact d0) (Nat.le_refl _) (Nat.le_refl _)
  generalize hT1 : (T.setVm vm₁).pushCell { cls := cX, slots := kX.instanceTypes.map defaultValue, vm := .none } = T1 at X₁ st1
  have hcat : (Value.ref T.heap.size).category = 1 := rfl
  have hcellA : T1.heap[T.heap.size]? = some (freshCell cX kX) := by rw [← hT1]; exact State.heap_pushCell_size _ _
  have d3' : decode c.code (pc + 3) = .ok (.dup, 1) := by rw [hb]; exact d3
  have d4' : decode c.code (pc + 4) = .ok (.ldc_w is, 3) := by rw [hb]; exact d4
  have hstr' : vk_R own is text sa s' := vk_R.warm hW0 hstr
  obtain ⟨U, hsteps, hrun, hend, hW, hsame, ce, hce, hO⟩ := X₁.ctorThrowS hexec htr (own := own) (cls := cls) (names := names) (ic := ic) hown' hcls hnames h (fun x hx => nomatch hx) hfX hkX hcellA (by rw [hhp, hT]; exact Nat.le_refl _) (msg := .ref sa) rfl
    (g := { method := m, pc := pc + 7, locals := ls, stack := .ref sa :: .ref T.heap.size :: .ref T.heap.size :: rest, locked := none }) rfl hsize rfl rfl (rest := rest) rfl
    (by rw [hb]; exact d7) (by rw [hb]; exact d10) hout hRframes (by simp only [List.map_cons, List.sum_cons, hcat]; omega) hlocks
  obtain ⟨f1, f2⟩ := vx_frame hsame
  rw [hhp] at f1 f2
  have hWs : s.WarmedH U.vm := State.WarmedH.trans hW0 hW
  have hcl : s.vm.findClass cls = some ce.cls := by
    have h9 := hO.cls
    rw [hvm] at h9
    exact h9
  have hall : s.sameButNew ({ U with vm := s.vm } : State) locs mc ms := by
    subst hA
    obtain ⟨e1, e2⟩ := hsame
    rw [State.setFrames_setFrames] at e1
    have h2 : (T.setVm s.vm).sameButNew ({ U with vm := s.vm } : State) [] (0 + 1) (0 + 6) := ⟨e1, e2⟩
    have h3 := X.same.trans h2
    rw [List.append_nil] at h3
    exact h3.mono hc hs
  refine ⟨U, ?_, .threw T.heap.size, hrun, hend, Or.inr ⟨T.heap.size, rfl, cls, ce, locs, hx U hWs.alike f1 (fun q hq => f2 q hq (fun z hz => nomatch hz)), hce, hO.vm, hcl, hWs, hall, hf⟩⟩
  refine st1 _ ?_
  show Steps p.tables e below (T1.setTop { method := m, pc := pc + 3, locals := ls, stack := .ref T.heap.size :: rest, locked := none }) _
  jvm_step X₁.here [X₁.here.top, hexec, d3', Value.category]
  exact X₁.ldcStringW hexec (own := own) (text := text) (index := is) (a := sa) hown' hstr'.1 hstr'.2
    (g := { method := m, pc := pc + 4, locals := ls, stack := .ref T.heap.size :: .ref T.heap.size :: rest, locked := none }) rfl d4' _ hsteps
end Ends
section Bodies
variable {l : Launch}
theorem vx_ofW {y : MethodName} {ws ws' : List Cond} {rm : Room} {Pc : Array Value → State → Prop} {Qc : Array Value → State → Outcome → State → Prop} {XC : String → State → State → Prop} {mc ms : Nat} {free : Addr → Prop} {cc : ByteArray} {maxL : Nat} {ret : Option FieldType}
    (hy : plainName y.cls = true) (hw : ws = Cond.code y cc maxL ret :: ws')
    (body : ∀ p e s m args below meth c s₁, BodyLoose p l y (headSpec ws rm) cc maxL ret e s m args below meth c s₁ → c.maxLocals = maxL → (∀ x ∈ c.exceptionTable.toList, False) → Pc args s →
      W p l e (headSpec ws rm).room s m args below meth c s.heap [] 0 0 (vx_MQ below Qc XC args s mc ms free) (entryFrame m args maxL)) : vx_Met l y ws rm Pc Qc XC mc ms free := by
  refine MetFree.of_bodyS (code := cc) (maxLocals := maxL) (ret := ret) hy ?_ ?_
  · intro args s m h hn
    obtain ⟨meth, c, h1, h2, h3, h4, h5, h6, -, -⟩ := Cond.code_spec hn (atoms_spec (ws := ws) h _ (by rw [hw]; exact List.mem_cons_self))
    exact ⟨meth, c, h1, h2, h3, h4, h5, h6⟩
  · intro p e s m args below meth c s₁ B hml hP _
    have hh0 : s₁.heap = s.heap := by rw [B.state]; rfl
    have ht : ∀ x ∈ c.exceptionTable.toList, False := by
      obtain ⟨meth9, c9, h1, h2, -, -, -, -, h7, -⟩ := Cond.code_spec B.named (atoms_spec (ws := ws) B.pre _ (by rw [hw]; exact List.mem_cons_self))
      cases Option.some.inj (h1.symm.trans B.method)
      cases Option.some.inj (h2.symm.trans (Stand.of_body B).code)
      intro x hx
      rw [Array.isEmpty_iff.mp h7] at hx
      cases hx
    obtain ⟨t, a1, o, b1, b2, b3⟩ := body p e s m args below meth c s₁ B hml ht hP s₁ hh0 (Stand.of_body B)
    exact ⟨t, o, a1, b1, b2, b3⟩
/-- the table of a body with handlers -/
theorem vx_table {p : Program} {x y : MethodName} {S : Spec} {cc bytes : ByteArray} {maxL maxL' : Nat} {ret ret' : Option FieldType} {e : Env} {s s₁ : State} {m : MethodId} {args : Array Value} {below : List Frame} {meth : Method} {c : Code} {hh : List (Nat × Nat × Nat × Nat)}
    (B : BodyLoose p l y S cc maxL ret e s m args below meth c s₁) (h : (Cond.codeWith y bytes maxL' ret' hh).before args s = true) : c.exceptionTable.toList = tableOf hh := by
  obtain ⟨m9, meth9, c9, hn9, h1, h2, -, -, h6, -⟩ := Cond.codeWith_spec h
  cases Option.some.inj (hn9.symm.trans B.named)
  cases Option.some.inj (h1.symm.trans B.method)
  cases Option.some.inj (h2.symm.trans (Stand.of_body B).code)
  rw [← h6, table_eq]
end Bodies
end VXA
/-! ===== END ===== -/
/-! ===== BEGIN a static call of a method with an exception table ===== -/
section VXS
variable {p : Program} {l : Launch} {e : Env} {R : Room} {s : State} {m : MethodId} {args : Array Value} {below : List Frame} {meth : Method} {c : Code} {T : State} {H : Heap} {locs : List Loc} {cells slots : Nat}
abbrev vx_CSW (R : Room) (s : State) (args : Array Value) (own : String) (index : Nat) (y : MethodName) (bytes : ByteArray) (maxL : Nat) (ret : Option FieldType) (hh : List (Nat × Nat × Nat × Nat)) (ws : List Cond) (rm : Room) (mc ms n : Nat) : Prop :=
  (rm.cells = mc ∧ rm.slots = ms ∧ rm.frames + 1 ≤ R.frames ∧ 8 + (maxL + 11) + rm.locals ≤ R.locals ∧ (∀ w ∈ ws, ∀ (a' : Array Value) (U : State), s.WarmedH U.vm → w.before a' U = true) ∧ Cond.codeWith y bytes maxL ret hh ∈ ws) ∧
  (Cond.codeWith y bytes maxL ret hh).before args s = true ∧ (Cond.initialized y.cls).before args s = true ∧ (y.cls ≠ "java/lang/invoke/MethodHandle" ∧ y.cls ≠ "java/lang/invoke/VarHandle") ∧
  (∀ sig, parseMethodDescriptor y.desc = some sig → n = sig.parameters.length) ∧ (Cond.methodLink own index y).before args s = true ∧ (Cond.static y).before args s = true
theorem vx_cwSW {own : String} {index maxL mc ms : Nat} {y : MethodName} {bytes : ByteArray} {ret : Option FieldType} {hh : List (Nat × Nat × Nat × Nat)} {Ts ws ws' : List Cond} {rm : Room} (n : Nat) (ht : ∀ w ∈ Ts, w.before args s = true) (hT : GoodIn Ts (va_wsS own index y ws)) (hw : ws = Cond.codeWith y bytes maxL ret hh :: ws') (hrc : rm.cells = mc) (hrs : rm.slots = ms)
    (hd : y.cls ≠ "java/lang/invoke/MethodHandle" ∧ y.cls ≠ "java/lang/invoke/VarHandle" ∧ (parseMethodDescriptor y.desc).map (fun d => d.parameters.length) = some n) (hR : rm.frames + 1 ≤ R.frames ∧ 8 + (maxL + 11) + rm.locals ≤ R.locals) :
    vx_CSW R s args own index y bytes maxL ret hh ws rm mc ms n := by
  have ok : ∀ w ∈ va_wsS own index y ws, w.before args s = true := fun w h => ht w (hT w h).1
  have hG : GoodIn Ts ws := fun w h => hT w (by unfold va_wsS; exact List.mem_append_right _ h)
  have hc : Cond.codeWith y bytes maxL ret hh ∈ ws := by rw [hw]; exact List.mem_cons_self
  refine ⟨⟨hrc, hrs, hR.1, hR.2, pay_in ht hG, hc⟩, ht _ (hG _ hc).1, ok _ (by simp [va_wsS]), ⟨hd.1, hd.2.1⟩, fun sig h => ?_, ok _ (by simp [va_wsS]), ok _ (by simp [va_wsS])⟩
  have h2 := hd.2.2
  rw [h] at h2
  exact (Option.some.inj h2).symm
theorem vx_callSW (X : Stand p l e R s m args below meth c T locs cells slots) (hexec : p.tables.exec = Jvm.exec) {own : String} {index : Nat} {y : MethodName} {bytes : ByteArray} {maxL : Nat} {ret : Option FieldType} {hh : List (Nat × Nat × Nat × Nat)}
    (hown : s.vm.findClass own = some m.cls) (hlink : (Cond.methodLink own index y).before args s = true) (hstat : (Cond.static y).before args s = true) (hinit : (Cond.initialized y.cls).before args s = true)
    (hcode : (Cond.codeWith y bytes maxL ret hh).before args s = true) (hy : y.cls ≠ "java/lang/invoke/MethodHandle" ∧ y.cls ≠ "java/lang/invoke/VarHandle")
    {W9 : Nat} {Pre : Pt → Array Value → Prop} {Post : Pt → Array Value → Option Value → Pt → Prop} (hK : Back l R p e below s args y 3 W9 Pre Post)
    {g : JFrame} (hg : g.method = m) (hsize : g.locals.size = c.maxLocals) {argsL rest : List Value} (hlen : ∀ sig, parseMethodDescriptor y.desc = some sig → argsL.length = sig.parameters.length)
    (hstack : g.stack = argsL.reverse ++ rest) (hW : 2 * g.monitorRoom + (rest.map fun v => v.category).sum ≤ W9) (hdg : decode c.code g.pc = .ok (.invokestatic index, 3))
    (hpre : ∀ vm₁, s.WarmedH vm₁ → Pre ⟨T.setVm vm₁, locs, cells, slots⟩ argsL.toArray) :
    ∃ (v : Option Value) (vm₁ : Vm) (B : Pt), s.WarmedH vm₁ ∧ Stand p l e R s m args below meth c B.U B.locs B.cells B.slots ∧ Post ⟨T.setVm vm₁, locs, cells, slots⟩ argsL.toArray v B ∧
      ∀ target, Steps p.tables e below (B.U.setTop { g with pc := g.pc + 3, stack := v.toList ++ rest }) target → Steps p.tables e below (T.setTop g) target := by
  obtain ⟨mk, methM, cM, hnamed, hmethM, -, -, -, -, -, -, hsigM⟩ := Cond.codeWith_spec hcode
  have hstatic : methM.isStatic = true := Cond.static_spec hnamed hmethM hstat
  obtain ⟨kP, hkP, -⟩ := className_of_methodNamed hnamed
  have hinitP : kP.init = .initialized := Cond.initialized_spec (findClass_of_methodNamed hnamed) hkP hinit
  obtain ⟨vm₁, X₁, hstep₁⟩ := X.invokestatic hexec hown hlink hnamed hmethM hstatic hkP hinitP hy (g := g) hg (argsL := argsL) (rest := rest) (hlen _ hsigM) hstack hdg
  obtain ⟨v, B, X', hpost, hsteps⟩ := hK m meth c ⟨T.setVm vm₁, locs, cells, slots⟩ { g with stack := rest } (.invokestatic index) mk argsL.toArray X₁ hg hsize hdg hW (X₁.named hnamed) (hpre vm₁ X₁.warmed)
  exact ⟨v, vm₁, B, X₁.warmed, X', hpost, fun target h => hstep₁ _ fun acts => by rw [doInvoke_state]; exact hsteps.trans h⟩
theorem vx_runSW {y : MethodName} {bytes cc : ByteArray} {maxL nL mc ms n index : Nat} {ret : Option FieldType} {hh : List (Nat × Nat × Nat × Nat)} {ws : List Cond} {rm : Room} {Pc : Array Value → State → Prop} {Qc : Array Value → State → Outcome → State → Prop} {free : Addr → Prop} {Ts : List Cond} {own : String} {As rest : List Value} {g : JFrame}
    (S : CallFix p m c cc nL s args Ts own) (hM : Met l y ws rm Pc Qc mc ms free) (cw : vx_CSW R s args own index y bytes maxL ret hh ws rm mc ms n) (hp : PreS s H Pc As)
    (hg : g.method = m) (hn : As.length = n) (hsize : g.locals.size = nL) (hstack : g.stack = As.reverse ++ rest) (hW : 2 * g.monitorRoom + (rest.map fun v => v.category).sum ≤ 8) (hdg : decode cc g.pc = .ok (.invokestatic index, 3)) (hf : cells + mc ≤ R.cells ∧ slots + ms ≤ R.slots) :
    va_Run p l e R s m args below meth c H locs cells slots mc ms g rest (Qc As.toArray) (free) := by
  obtain ⟨⟨hrc, hrs, hfr, hlo, hws, hcw⟩, hcode, hini, hy, hlen, hl, hstt⟩ := cw
  have hK : Back l R p e below s args y 3 8 (PreOf R mc ms Pc) (PostOf Qc mc ms free) := va_backW (hh := hh) (bytes := bytes) (maxL := maxL) (ret := ret) hM hp.1 hrc hrs hfr hlo hws hcw (fun a' U hW => word_at hW (Or.inl (by first | rfl | simp [Cond.onTables, Cond.keeps, Cond.steady])) hini)
  obtain ⟨hx, hb, hml, ho, -⟩ := S
  intro T hT X
  obtain ⟨v, vm₁, ⟨U', l2, c2, s2⟩, hW₁, X', ⟨g', mk, t, L, e1, e2, hq, h1, hL, h2, h3⟩, st⟩ := vx_callSW X hx (hh := hh) (bytes := bytes) (maxL := maxL) (ret := ret) ho hl hstt hini hcode hy hK hg (hsize.trans hml.symm) (argsL := As) (rest := rest) (fun sig h => hn.trans (hlen sig h)) hstack hW (by rw [hb]; exact hdg)
    (fun vm₁ hW₁ => ⟨hf.1, hf.2, hp.2 (T.setVm vm₁) hT hW₁⟩)
  dsimp only [Pt.U, Pt.locs, Pt.cells, Pt.slots] at X' e1 e2 h1 h2 h3 st
  subst h1; subst h2; subst h3
  exact ⟨v, (T.setVm vm₁).calling g' mk As.toArray, t, U', L, hT, X', hL, e1, e2, hq, st⟩
/-- not caught here, past rows that name other classes: it goes on to the caller -/
theorem vx_outP {p : Program} {l : Launch} {e : Env} {R : Room} {s : State} {m : MethodId} {args : Array Value} {below : List Frame} {meth : Method} {c : Code} {H : Heap} {locs : List Loc} {cells slots : Nat} {free : Addr → Prop} {ls : Array Slot} {rest : List Value} {Qc : Array Value → State → Outcome → State → Prop} {XC : String → State → State → Prop}
    {pc : Nat} {own E : String} {ce : Cell} {q : Addr} {mc ms : Nat} (hown : s.vm.findClass own = some m.cls) (hlocks : meth.locks = false)
    (hpass : ∀ z ∈ c.exceptionTable.toList, covers z pc = false ∨ (z.catchType ≠ 0 ∧ ∃ nm : String, (Cond.classLink own z.catchType nm).before args s = true ∧ va_Nc E nm s)) (hcell : H[q]? = some ce) (hv : ce.vm = .none) (hcl : s.vm.findClass E = some ce.cls)
    (hx : ∀ t : State, t.heap = H → s.vm.Alike t.vm → XC E s t) (hf : ∀ z ∈ locs, free z.base) (hc : cells ≤ mc) (hs : slots ≤ ms) :
    vx_W p l e R s m args below meth c H locs cells slots (vx_MQ below Qc XC args s mc ms free) (F0 m pc ls rest) q := by
  intro T hT X
  have hpl : e.platform.magicAccessors = ({} : Platform).magicAccessors := by rw [X.admits.platform]
  obtain ⟨vm', hW', X', st⟩ := X.outThrough hlocks q (g := F0 m pc ls rest) rfl rfl rfl (cell := ce) (by rw [hT]; exact hcell) (by rw [hv]; rfl)
    (by obtain ⟨k9, h9, -⟩ := Vm.findClass_spec hcl; exact ⟨k9, h9⟩) (fun z hz => by
      rcases hpass z hz with h | ⟨hz0, nm, hl1, hn1⟩
      · exact Or.inl h
      · obtain ⟨c6, hc6, hcl6⟩ := Cond.classLink_spec hown hl1 e.platform hpl
        obtain ⟨a8, b8, h1, h2, h3⟩ := hn1
        cases Option.some.inj (h1.symm.trans hcl)
        cases Option.some.inj (h2.symm.trans hc6)
        exact Or.inr ⟨hz0, _, hcl6, h3⟩)
  obtain ⟨g₀, hfr⟩ := X'.frames_eq
  have hcell9 : ((T.setVm vm').setFrames (.throwing q :: below)).heap[q]? = some ce := by
    show T.heap[q]? = some ce
    rw [hT]; exact hcell
  have hend : Ended ((T.setVm vm').setFrames (.throwing q :: below)) below (.threw q) := State.frames_setFrames _ (State.cur_lt_of_frames hfr)
  refine ⟨(T.setVm vm').setFrames (.throwing q :: below), ?_, .threw q, X'.here.running, hend, Or.inr ⟨q, rfl, E, ce, locs, hx _ hT (X'.ends _).1.alike, hcell9, hv, hcl, (X'.ends _).1, (X'.ends _).2.mono hc hs, hf⟩⟩
  rw [X.pushThrowing_eq]
  exact st
/-- a thing of a world lies in the heap -/
theorem vx_lt {D : va_G} {cl : List vw_C} {ws : va_W} {H1 : Heap} (h : va_P D cl ws H1) {k : Nat} {q : Nat × va_E} (hk : ws[k]? = some q) : q.1 < H1.size := (h k q hk).lt
end VXS
/-! ===== END ===== -/
/-! ===== BEGIN methods with a table of their own: called by a name, returning or throwing ===== -/
section VXH
/-! vx_backW, vx_callVX, vx_callSX, vx_callVW, vx_runVW, vx_runVX, vx_runSX, vx_ofWH follow the same proofs as their sisters above (Free/Laws.lean, Shelf42/LK1.lean); vx_outP calls Shelf42/NT130.lean (outThrough). -/
section
variable {l : Launch} {R : Room} {p : Program} {e : Env} {below : List Frame} {s : State} {sargs : Array Value} {y : MethodName} {len W9 : Nat}
theorem vx_backW {ws : List Cond} {rm : Room} {Pc : Array Value → State → Prop} {Qc : Array Value → State → Outcome → State → Prop} {XC : String → State → State → Prop} {mc ms : Nat} {free : Addr → Prop} {bytes : ByteArray} {maxL : Nat} {ret : Option FieldType} {hh : List (Nat × Nat × Nat × Nat)}
    (hM : vx_Met l y ws rm Pc Qc XC mc ms free) (hblind : FrameBlind Pc) (hrc : rm.cells = mc) (hrs : rm.slots = ms)
    (hframes : rm.frames + 1 ≤ R.frames) (hlocals : W9 + (maxL + 11) + rm.locals ≤ R.locals)
    (hws : ∀ w ∈ ws, ∀ a' U, s.WarmedH U.vm → w.before a' U = true) (hcode : Cond.codeWith y bytes maxL ret hh ∈ ws) (hinit : ∀ a' U, s.WarmedH U.vm → (Cond.initialized y.cls).before a' U = true) :
    vx_Back l R p e below s sargs y len W9 (PreOf R mc ms Pc) (PostOf Qc mc ms free) (vx_Post XC mc ms free) := by
  intro m meth c A g ig mk a X hg hsize hdg hW hn hp
  have h1 : (headSpec ws rm).pre.before a A.U = true := atoms_intro fun w hw => hws w hw _ _ X.warmed
  have h2 : (Cond.codeWith y bytes maxL ret hh).before a A.U = true := hws _ hcode _ _ X.warmed
  have h3 : (Cond.initialized y.cls).before a A.U = true := hinit _ _ X.warmed
  have h4 : A.cells + (headSpec ws rm).room.cells ≤ R.cells := by rw [show (headSpec ws rm).room.cells = mc from hrc]; exact hp.1
  have h5 : A.slots + (headSpec ws rm).room.slots ≤ R.slots := by rw [show (headSpec ws rm).room.slots = ms from hrs]; exact hp.2.1
  have hPc : Pc a (A.U.calling g mk a) := hblind _ _ _ _ hp.2.2
  obtain ⟨U, Ls, c0, s0⟩ := A
  dsimp only [Pt.U, Pt.locs, Pt.cells, Pt.slots] at h1 h2 h3 h4 h5 X hn hPc ⊢
  obtain ⟨m9, methY, cY, hn9, hmY, hcY, -, hlY, -⟩ := Cond.codeWith_spec h2
  cases Option.some.inj (hn9.symm.trans hn)
  obtain ⟨kY, hkY, -⟩ := className_of_methodNamed hn
  have hinitY : kY.init = .initialized := Cond.initialized_spec (findClass_of_methodNamed hn) hkY h3
  have h : At U g.method c below := by rw [hg]; exact X.here
  have hlocals9 : W9 + (maxL + 11) + (headSpec ws rm).room.locals ≤ R.locals := hlocals
  have happ : (headSpec ws rm).appliesLoose y e.platform (U.calling g mk a) = true :=
    Spec.appliesLoose_calling (g := g) h hdg hn hkY hinitY
      (X.room_calling (g := g) (R' := (headSpec ws rm).room) hsize hmY hcY hframes (by rw [hlY]; omega) h4 h5) h1
  obtain ⟨mid, hmid⟩ := h.above
  have hfr : (U.setTop g).frames = (.java g :: mid) ++ below := by rw [State.frames_setTop' g h.top, hmid]; rfl
  obtain ⟨o, s₂, hsteps, -, hend, hq⟩ := Steps.callFree hM p X.admits X.cas X.clock (acts := []) hfr happ hPc trivial
  have hq' : vx_Q Qc XC mc ms free a (U.calling g mk a) o s₂ := hq
  rw [State.frames_setTop' g h.top] at hend
  obtain ⟨g₀, hg0⟩ := Option.isSome_iff_exists.mp h.top
  obtain ⟨r, hr⟩ := State.topJava?_eq_some.mp hg0
  have hr' : (({ U with heap := s₂.heap, slotsUsed := s₂.slotsUsed } : State).setVm s₂.vm).frames = .java g₀ :: r := hr
  rcases hq' with ⟨hqc, L, hfe, hL⟩ | ⟨q, rfl, E, ce, L, hx, hce, hcv, hcl, hW₂, hsm, hL⟩
  · obtain ⟨⟨v, rfl⟩, hW₂, e2, q2, q3, q4, q5, q6⟩ := id hfe
    have e3 : s₂ = ({ (U.calling g mk a).setFrames s₂.frames with heap := s₂.heap, slotsUsed := s₂.slotsUsed } : State).setVm s₂.vm := by
      have : s₂ = ({ s₂ with vm := (U.calling g mk a).vm } : State).setVm s₂.vm := rfl
      rw [e2] at this
      exact this
    obtain ⟨c₂, i₂, len₂, hc₂, hd₂, hf₂⟩ := hend
    have hW' : U.WarmedH s₂.vm := hW₂
    have hcc : c₂ = c := by
      have h1 : s₂.code? g.method = U.code? g.method := by
        rw [State.code?_eq, State.code?_eq, hW'.alike.method?]
      exact Option.some.inj (hc₂.symm.trans (h1.trans h.code))
    subst hcc
    have hlen : len₂ = len := by rw [hdg] at hd₂; cases hd₂; rfl
    subst hlen
    have hs₂ : s₂ = (({ U with heap := s₂.heap, slotsUsed := s₂.slotsUsed } : State).setVm s₂.vm).setTop { g with pc := g.pc + len₂, stack := v.toList ++ g.stack } := by
      refine e3.trans ?_
      rw [hf₂, State.calling_eq h.top, State.setFrames_setFrames, State.setTop_of_frames _ hr', hr]
      rfl
    have hsame : U.sameButNew ({ U with heap := s₂.heap, slotsUsed := s₂.slotsUsed } : State) L mc ms := by
      refine ⟨?_, q2, q3, q4, q5, q6⟩
      obtain ⟨t, ht, -⟩ := State.frames_cons hr
      show ({ U with heap := s₂.heap, slotsUsed := s₂.slotsUsed } : State) = { U.setFrames U.frames with heap := s₂.heap, slotsUsed := s₂.slotsUsed }
      rw [State.setFrames_self ht]
    subst hg
    refine Or.inl ⟨v, ⟨(({ U with heap := s₂.heap, slotsUsed := s₂.slotsUsed } : State).setVm s₂.vm), Ls ++ L, c0 + mc, s0 + ms⟩,
      ⟨X.admits, X.cas, X.clock, X.frames, X.room, X.hears, X.method, X.code, (X.here.setHeapUsed s₂.heap s₂.slotsUsed).setVm hW'.alike, X.tail, State.WarmedH.trans X.warmed hW', X.limits, X.bytes, X.same.trans (hsame.setVm s.vm)⟩,
      ⟨g, mk, s₂, L, rfl, rfl, hqc, rfl, hL, rfl, rfl⟩, ?_⟩
    show Steps p.tables e below _ ((({ U with heap := s₂.heap, slotsUsed := s₂.slotsUsed } : State).setVm s₂.vm).setTop { g with pc := g.pc + len₂, stack := v.toList ++ g.stack })
    rw [← hs₂]
    exact hsteps
  · obtain ⟨e2, q2, q3, q4, q5, q6⟩ := id hsm
    have e3 : s₂ = ({ (U.calling g mk a).setFrames s₂.frames with heap := s₂.heap, slotsUsed := s₂.slotsUsed } : State).setVm s₂.vm := by
      have : s₂ = ({ s₂ with vm := (U.calling g mk a).vm } : State).setVm s₂.vm := rfl
      rw [e2] at this
      exact this
    have hf₂ : s₂.frames = .throwing q :: .java g :: U.frames.tail := hend
    have hW' : U.WarmedH s₂.vm := hW₂
    have hs₂ : s₂ = ((({ U with heap := s₂.heap, slotsUsed := s₂.slotsUsed } : State).setVm s₂.vm).setTop g).pushFrame (.throwing q) := by
      refine e3.trans ?_
      rw [hf₂, State.calling_eq h.top, State.setFrames_setFrames, State.pushFrame, State.frames_setTop _ hr', State.setTop_of_frames _ hr', State.setFrames_setFrames, hr]
      rfl
    have hsame : U.sameButNew ({ U with heap := s₂.heap, slotsUsed := s₂.slotsUsed } : State) L mc ms := by
      refine ⟨?_, q2, q3, q4, q5, q6⟩
      obtain ⟨t, ht, -⟩ := State.frames_cons hr
      show ({ U with heap := s₂.heap, slotsUsed := s₂.slotsUsed } : State) = { U.setFrames U.frames with heap := s₂.heap, slotsUsed := s₂.slotsUsed }
      rw [State.setFrames_self ht]
    subst hg
    refine Or.inr ⟨q, ⟨(({ U with heap := s₂.heap, slotsUsed := s₂.slotsUsed } : State).setVm s₂.vm), Ls ++ L, c0 + mc, s0 + ms⟩,
      ⟨X.admits, X.cas, X.clock, X.frames, X.room, X.hears, X.method, X.code, (X.here.setHeapUsed s₂.heap s₂.slotsUsed).setVm hW'.alike, X.tail, State.WarmedH.trans X.warmed hW', X.limits, X.bytes, X.same.trans (hsame.setVm s.vm)⟩,
      ⟨g, mk, s₂, L, E, ce, rfl, rfl, hx, hce, hcv, hcl, rfl, hL, rfl, rfl⟩, ?_⟩
    show Steps p.tables e below _ (((({ U with heap := s₂.heap, slotsUsed := s₂.slotsUsed } : State).setVm s₂.vm).setTop g).pushFrame (.throwing q))
    rw [← hs₂]
    exact hsteps
end
variable {p : Program} {l : Launch} {e : Env} {R : Room} {s : State} {m : MethodId} {args : Array Value} {below : List Frame} {meth : Method} {c : Code} {T : State} {H : Heap} {locs : List Loc} {cells slots : Nat}
theorem vx_callVX (X : Stand p l e R s m args below meth c T locs cells slots) (hexec : p.tables.exec = Jvm.exec) {own C : String} {index : Nat} {y : MethodName} {bytes : ByteArray} {maxL : Nat} {ret : Option FieldType} {hh : List (Nat × Nat × Nat × Nat)}
    (hown : s.vm.findClass own = some m.cls) (hlink : (Cond.methodLink own index y).before args s = true) (hinst : (Cond.instanceMethod y).before args s = true) (hsel : (Cond.selects C y y).before args s = true)
    (hcode : (Cond.codeWith y bytes maxL ret hh).before args s = true) (hy : y.cls ≠ "java/lang/invoke/MethodHandle" ∧ y.cls ≠ "java/lang/invoke/VarHandle")
    {W9 : Nat} {Pre : Pt → Array Value → Prop} {Post : Pt → Array Value → Option Value → Pt → Prop} {PostX : Pt → Array Value → Addr → Pt → Prop} (hK : vx_Back l R p e below s args y 3 W9 Pre Post PostX)
    {b : Addr} {cellB : Cell} (hcell : T.heap[b]? = some cellB) (hobj : cellB.vm.isStatics = false) (hcls : s.vm.findClass C = some cellB.cls)
    {g : JFrame} (hg : g.method = m) (hsize : g.locals.size = c.maxLocals) {argsL rest : List Value} (hlen : ∀ sig, parseMethodDescriptor y.desc = some sig → argsL.length = sig.parameters.length)
    (hstack : g.stack = argsL.reverse ++ .ref b :: rest) (hW : 2 * g.monitorRoom + (rest.map fun v => v.category).sum ≤ W9) (hdg : decode c.code g.pc = .ok (.invokevirtual index, 3))
    (hpre : ∀ vm₁, s.WarmedH vm₁ → Pre ⟨T.setVm vm₁, locs, cells, slots⟩ (Value.ref b :: argsL).toArray) :
    (∃ (v : Option Value) (vm₁ : Vm) (B : Pt), s.WarmedH vm₁ ∧ Stand p l e R s m args below meth c B.U B.locs B.cells B.slots ∧ Post ⟨T.setVm vm₁, locs, cells, slots⟩ (Value.ref b :: argsL).toArray v B ∧
      ∀ target, Steps p.tables e below (B.U.setTop { g with pc := g.pc + 3, stack := v.toList ++ rest }) target → Steps p.tables e below (T.setTop g) target) ∨
    (∃ (q : Addr) (vm₁ : Vm) (B : Pt), s.WarmedH vm₁ ∧ Stand p l e R s m args below meth c B.U B.locs B.cells B.slots ∧ PostX ⟨T.setVm vm₁, locs, cells, slots⟩ (Value.ref b :: argsL).toArray q B ∧
      Steps p.tables e below (T.setTop g) ((B.U.setTop { g with stack := rest }).pushFrame (.throwing q))) := by
  obtain ⟨mk, methM, hnamed, hmethM, hstM, habM⟩ := Cond.instanceMethod_spec hinst
  obtain ⟨m8, methM', cM, hn8, hmethM', -, -, -, -, -, -, hsigM⟩ := Cond.codeWith_spec hcode
  cases Option.some.inj (hn8.symm.trans hnamed)
  cases hmethM.symm.trans hmethM'
  obtain ⟨c2, r2, m2, q1, q2, q3, q4, kP, hkP, hkPi⟩ := Cond.selects_spec hsel
  cases hcls.symm.trans q1
  cases (State.methodFound?_of_named hnamed hy).symm.trans q2
  cases hnamed.symm.trans q3
  have hselP : selectMethod e.platform s.vm cellB.cls mk = .method mk := by rw [Launch.admits_selectMethod X.admits]; exact q4
  obtain ⟨vm₁, X₁, hstep₁⟩ := X.invokevirtual hexec hown hlink hnamed hmethM hstM hkP hkPi hy (a := b) (cell := cellB) hcell
    (fun z h => by rw [h] at hobj; cases hobj) hselP hmethM habM hkP hkPi (g := g) hg (argsL := argsL) (rest := rest) (hlen _ hsigM) hstack hdg
  rcases hK m meth c ⟨T.setVm vm₁, locs, cells, slots⟩ { g with stack := rest } (.invokevirtual index) mk (Value.ref b :: argsL).toArray X₁ hg hsize hdg hW (X₁.named hnamed) (hpre vm₁ X₁.warmed) with ⟨v, B, X', hpost, hsteps⟩ | ⟨q, B, X', hpost, hsteps⟩
  · exact Or.inl ⟨v, vm₁, B, X₁.warmed, X', hpost, fun target h => hstep₁ _ fun acts => by rw [doInvoke_state]; exact hsteps.trans h⟩
  · exact Or.inr ⟨q, vm₁, B, X₁.warmed, X', hpost, hstep₁ _ fun acts => by rw [doInvoke_state]; exact hsteps⟩
theorem vx_callSX (X : Stand p l e R s m args below meth c T locs cells slots) (hexec : p.tables.exec = Jvm.exec) {own : String} {index : Nat} {y : MethodName} {bytes : ByteArray} {maxL : Nat} {ret : Option FieldType} {hh : List (Nat × Nat × Nat × Nat)}
    (hown : s.vm.findClass own = some m.cls) (hlink : (Cond.methodLink own index y).before args s = true) (hstat : (Cond.static y).before args s = true) (hinit : (Cond.initialized y.cls).before args s = true)
    (hcode : (Cond.codeWith y bytes maxL ret hh).before args s = true) (hy : y.cls ≠ "java/lang/invoke/MethodHandle" ∧ y.cls ≠ "java/lang/invoke/VarHandle")
    {W9 : Nat} {Pre : Pt → Array Value → Prop} {Post : Pt → Array Value → Option Value → Pt → Prop} {PostX : Pt → Array Value → Addr → Pt → Prop} (hK : vx_Back l R p e below s args y 3 W9 Pre Post PostX)
    {g : JFrame} (hg : g.method = m) (hsize : g.locals.size = c.maxLocals) {argsL rest : List Value} (hlen : ∀ sig, parseMethodDescriptor y.desc = some sig → argsL.length = sig.parameters.length)
    (hstack : g.stack = argsL.reverse ++ rest) (hW : 2 * g.monitorRoom + (rest.map fun v => v.category).sum ≤ W9) (hdg : decode c.code g.pc = .ok (.invokestatic index, 3))
    (hpre : ∀ vm₁, s.WarmedH vm₁ → Pre ⟨T.setVm vm₁, locs, cells, slots⟩ argsL.toArray) :
    (∃ (v : Option Value) (vm₁ : Vm) (B : Pt), s.WarmedH vm₁ ∧ Stand p l e R s m args below meth c B.U B.locs B.cells B.slots ∧ Post ⟨T.setVm vm₁, locs, cells, slots⟩ argsL.toArray v B ∧
      ∀ target, Steps p.tables e below (B.U.setTop { g with pc := g.pc + 3, stack := v.toList ++ rest }) target → Steps p.tables e below (T.setTop g) target) ∨
    (∃ (q : Addr) (vm₁ : Vm) (B : Pt), s.WarmedH vm₁ ∧ Stand p l e R s m args below meth c B.U B.locs B.cells B.slots ∧ PostX ⟨T.setVm vm₁, locs, cells, slots⟩ argsL.toArray q B ∧
      Steps p.tables e below (T.setTop g) ((B.U.setTop { g with stack := rest }).pushFrame (.throwing q))) := by
  obtain ⟨mk, methM, cM, hnamed, hmethM, -, -, -, -, -, -, hsigM⟩ := Cond.codeWith_spec hcode
  have hstatic : methM.isStatic = true := Cond.static_spec hnamed hmethM hstat
  obtain ⟨kP, hkP, -⟩ := className_of_methodNamed hnamed
  have hinitP : kP.init = .initialized := Cond.initialized_spec (findClass_of_methodNamed hnamed) hkP hinit
  obtain ⟨vm₁, X₁, hstep₁⟩ := X.invokestatic hexec hown hlink hnamed hmethM hstatic hkP hinitP hy (g := g) hg (argsL := argsL) (rest := rest) (hlen _ hsigM) hstack hdg
  rcases hK m meth c ⟨T.setVm vm₁, locs, cells, slots⟩ { g with stack := rest } (.invokestatic index) mk argsL.toArray X₁ hg hsize hdg hW (X₁.named hnamed) (hpre vm₁ X₁.warmed) with ⟨v, B, X', hpost, hsteps⟩ | ⟨q, B, X', hpost, hsteps⟩
  · exact Or.inl ⟨v, vm₁, B, X₁.warmed, X', hpost, fun target h => hstep₁ _ fun acts => by rw [doInvoke_state]; exact hsteps.trans h⟩
  · exact Or.inr ⟨q, vm₁, B, X₁.warmed, X', hpost, hstep₁ _ fun acts => by rw [doInvoke_state]; exact hsteps⟩
theorem vx_callVW (X : Stand p l e R s m args below meth c T locs cells slots) (hexec : p.tables.exec = Jvm.exec) {own C : String} {index : Nat} {y : MethodName} {bytes : ByteArray} {maxL : Nat} {ret : Option FieldType} {hh : List (Nat × Nat × Nat × Nat)}
    (hown : s.vm.findClass own = some m.cls) (hlink : (Cond.methodLink own index y).before args s = true) (hinst : (Cond.instanceMethod y).before args s = true) (hsel : (Cond.selects C y y).before args s = true)
    (hcode : (Cond.codeWith y bytes maxL ret hh).before args s = true) (hy : y.cls ≠ "java/lang/invoke/MethodHandle" ∧ y.cls ≠ "java/lang/invoke/VarHandle")
    {W9 : Nat} {Pre : Pt → Array Value → Prop} {Post : Pt → Array Value → Option Value → Pt → Prop} (hK : Back l R p e below s args y 3 W9 Pre Post)
    {b : Addr} {cellB : Cell} (hcell : T.heap[b]? = some cellB) (hobj : cellB.vm.isStatics = false) (hcls : s.vm.findClass C = some cellB.cls)
    {g : JFrame} (hg : g.method = m) (hsize : g.locals.size = c.maxLocals) {argsL rest : List Value} (hlen : ∀ sig, parseMethodDescriptor y.desc = some sig → argsL.length = sig.parameters.length)
    (hstack : g.stack = argsL.reverse ++ .ref b :: rest) (hW : 2 * g.monitorRoom + (rest.map fun v => v.category).sum ≤ W9) (hdg : decode c.code g.pc = .ok (.invokevirtual index, 3))
    (hpre : ∀ vm₁, s.WarmedH vm₁ → Pre ⟨T.setVm vm₁, locs, cells, slots⟩ (Value.ref b :: argsL).toArray) :
    ∃ (v : Option Value) (vm₁ : Vm) (B : Pt), s.WarmedH vm₁ ∧ Stand p l e R s m args below meth c B.U B.locs B.cells B.slots ∧ Post ⟨T.setVm vm₁, locs, cells, slots⟩ (Value.ref b :: argsL).toArray v B ∧
      ∀ target, Steps p.tables e below (B.U.setTop { g with pc := g.pc + 3, stack := v.toList ++ rest }) target → Steps p.tables e below (T.setTop g) target := by
  obtain ⟨mk, methM, hnamed, hmethM, hstM, habM⟩ := Cond.instanceMethod_spec hinst
  obtain ⟨m8, methM', cM, hn8, hmethM', -, -, -, -, -, -, hsigM⟩ := Cond.codeWith_spec hcode
  cases Option.some.inj (hn8.symm.trans hnamed)
  cases hmethM.symm.trans hmethM'
  obtain ⟨c2, r2, m2, q1, q2, q3, q4, kP, hkP, hkPi⟩ := Cond.selects_spec hsel
  cases hcls.symm.trans q1
  cases (State.methodFound?_of_named hnamed hy).symm.trans q2
  cases hnamed.symm.trans q3
  have hselP : selectMethod e.platform s.vm cellB.cls mk = .method mk := by rw [Launch.admits_selectMethod X.admits]; exact q4
  obtain ⟨vm₁, X₁, hstep₁⟩ := X.invokevirtual hexec hown hlink hnamed hmethM hstM hkP hkPi hy (a := b) (cell := cellB) hcell
    (fun z h => by rw [h] at hobj; cases hobj) hselP hmethM habM hkP hkPi (g := g) hg (argsL := argsL) (rest := rest) (hlen _ hsigM) hstack hdg
  obtain ⟨v, B, X', hpost, hsteps⟩ := hK m meth c ⟨T.setVm vm₁, locs, cells, slots⟩ { g with stack := rest } (.invokevirtual index) mk (Value.ref b :: argsL).toArray X₁ hg hsize hdg hW (X₁.named hnamed) (hpre vm₁ X₁.warmed)
  exact ⟨v, vm₁, B, X₁.warmed, X', hpost, fun target h => hstep₁ _ fun acts => by rw [doInvoke_state]; exact hsteps.trans h⟩
abbrev vx_CVW (R : Room) (s : State) (args : Array Value) (own C : String) (index : Nat) (y : MethodName) (bytes : ByteArray) (maxL : Nat) (ret : Option FieldType) (hh : List (Nat × Nat × Nat × Nat)) (ws : List Cond) (rm : Room) (mc ms n : Nat) : Prop :=
  (rm.cells = mc ∧ rm.slots = ms ∧ rm.frames + 1 ≤ R.frames ∧ 8 + (maxL + 11) + rm.locals ≤ R.locals ∧ (∀ w ∈ ws, ∀ (a' : Array Value) (U : State), s.WarmedH U.vm → w.before a' U = true) ∧ Cond.codeWith y bytes maxL ret hh ∈ ws) ∧
  (Cond.codeWith y bytes maxL ret hh).before args s = true ∧ (Cond.initialized y.cls).before args s = true ∧ (y.cls ≠ "java/lang/invoke/MethodHandle" ∧ y.cls ≠ "java/lang/invoke/VarHandle") ∧
  (∀ sig, parseMethodDescriptor y.desc = some sig → n = sig.parameters.length) ∧ (Cond.methodLink own index y).before args s = true ∧ (Cond.instanceMethod y).before args s = true ∧ (Cond.selects C y y).before args s = true
theorem vx_cwVW {own C : String} {index maxL mc ms : Nat} {y : MethodName} {bytes : ByteArray} {ret : Option FieldType} {hh : List (Nat × Nat × Nat × Nat)} {Ts ws ws' : List Cond} {rm : Room} (n : Nat) (ht : ∀ w ∈ Ts, w.before args s = true) (hT : GoodIn Ts (wsV own index C y ws)) (hw : ws = Cond.codeWith y bytes maxL ret hh :: ws') (hrc : rm.cells = mc) (hrs : rm.slots = ms)
    (hd : y.cls = C ∧ y.cls ≠ "java/lang/invoke/MethodHandle" ∧ y.cls ≠ "java/lang/invoke/VarHandle" ∧ (parseMethodDescriptor y.desc).map (fun d => d.parameters.length) = some n) (hR : rm.frames + 1 ≤ R.frames ∧ 8 + (maxL + 11) + rm.locals ≤ R.locals) :
    vx_CVW R s args own C index y bytes maxL ret hh ws rm mc ms n := by
  obtain ⟨hC, hd⟩ := hd
  subst hC
  have ok : ∀ w ∈ wsV own index y.cls y ws, w.before args s = true := fun w h => ht w (hT w h).1
  have hG : GoodIn Ts ws := fun w h => hT w (by unfold wsV; exact List.mem_append_right _ h)
  have hc : Cond.codeWith y bytes maxL ret hh ∈ ws := by rw [hw]; exact List.mem_cons_self
  refine ⟨⟨hrc, hrs, hR.1, hR.2, pay_in ht hG, hc⟩, ht _ (hG _ hc).1, ok _ (by simp [wsV]), ⟨hd.1, hd.2.1⟩, fun sig h => ?_, ok _ (by simp [wsV]), ok _ (by simp [wsV]), ok _ (by simp [wsV])⟩
  have h2 := hd.2.2
  rw [h] at h2
  exact (Option.some.inj h2).symm
theorem vx_runVW {y : MethodName} {bytes cc : ByteArray} {maxL nL mc ms n index : Nat} {ret : Option FieldType} {hh : List (Nat × Nat × Nat × Nat)} {ws : List Cond} {rm : Room} {Pc : Array Value → State → Prop} {Qc : Array Value → State → Outcome → State → Prop} {free : Addr → Prop} {Ts : List Cond} {own C : String} {b : Addr} {As rest : List Value} {g : JFrame}
    (S : CallFix p m c cc nL s args Ts own) (hM : Met l y ws rm Pc Qc mc ms free) (cw : vx_CVW R s args own C index y bytes maxL ret hh ws rm mc ms n) (hp : PreV s H C b Pc As)
    (hg : g.method = m) (hn : As.length = n) (hsize : g.locals.size = nL) (hstack : g.stack = As.reverse ++ .ref b :: rest) (hW : 2 * g.monitorRoom + (rest.map fun v => v.category).sum ≤ 8) (hdg : decode cc g.pc = .ok (.invokevirtual index, 3)) (hf : cells + mc ≤ R.cells ∧ slots + ms ≤ R.slots) :
    va_Run p l e R s m args below meth c H locs cells slots mc ms g rest (Qc (Value.ref b :: As).toArray) free := by
  obtain ⟨⟨hrc, hrs, hfr, hlo, hws, hcw⟩, hcode, hini, hy, hlen, hl, hin, hse⟩ := cw
  have hK : Back l R p e below s args y 3 8 (PreOf R mc ms Pc) (PostOf Qc mc ms free) := va_backW (hh := hh) (bytes := bytes) (maxL := maxL) (ret := ret) hM hp.1 hrc hrs hfr hlo hws hcw (fun a' U hW => word_at hW (Or.inl (by first | rfl | simp [Cond.onTables, Cond.keeps, Cond.steady])) hini)
  obtain ⟨hx, hb, hml, ho, -⟩ := S
  obtain ⟨-, ⟨cellB, hcB, hoB, hclB⟩, hPc⟩ := hp
  intro T hT X
  obtain ⟨v, vm₁, ⟨U', l2, c2, s2⟩, hW₁, X', ⟨g', mk, t, L, e1, e2, hq, h1, hL, h2, h3⟩, st⟩ := vx_callVW X hx (C := C) (hh := hh) (bytes := bytes) (maxL := maxL) (ret := ret) ho hl hin hse hcode hy hK (by rw [hT]; exact hcB) hoB hclB hg (hsize.trans hml.symm) (argsL := As) (rest := rest) (fun sig h => hn.trans (hlen sig h)) hstack hW (by rw [hb]; exact hdg)
    (fun vm₁ hW₁ => ⟨hf.1, hf.2, hPc (T.setVm vm₁) hT hW₁⟩)
  dsimp only [Pt.U, Pt.locs, Pt.cells, Pt.slots] at X' e1 e2 h1 h2 h3 st
  subst h1; subst h2; subst h3
  exact ⟨v, (T.setVm vm₁).calling g' mk (Value.ref b :: As).toArray, t, U', L, hT, X', hL, e1, e2, hq, st⟩
section
variable {y : MethodName} {bytes cc : ByteArray} {maxL nL mc ms n index : Nat} {ret : Option FieldType} {ws : List Cond} {rm : Room} {Pc : Array Value → State → Prop} {Qc : Array Value → State → Outcome → State → Prop} {XC : String → State → State → Prop} {free : Addr → Prop} {Ts : List Cond} {own C : String} {b : Addr} {As rest : List Value} {g : JFrame}
theorem vx_runVX {hh : List (Nat × Nat × Nat × Nat)} (S : CallFix p m c cc nL s args Ts own) (hM : vx_Met l y ws rm Pc Qc XC mc ms free) (cw : vx_CVW R s args own C index y bytes maxL ret hh ws rm mc ms n) (hp : PreV s H C b Pc As)
    (hg : g.method = m) (hn : As.length = n) (hsize : g.locals.size = nL) (hstack : g.stack = As.reverse ++ .ref b :: rest) (hW : 2 * g.monitorRoom + (rest.map fun v => v.category).sum ≤ 8) (hdg : decode cc g.pc = .ok (.invokevirtual index, 3)) (hf : cells + mc ≤ R.cells ∧ slots + ms ≤ R.slots) :
    vx_Run p l e R s m args below meth c H locs cells slots mc ms g rest (Qc (Value.ref b :: As).toArray) XC free := by
  obtain ⟨⟨hrc, hrs, hfr, hlo, hws, hcw⟩, hcode, hini, hy, hlen, hl, hin, hse⟩ := cw
  have hK : vx_Back l R p e below s args y 3 8 (PreOf R mc ms Pc) (PostOf Qc mc ms free) (vx_Post XC mc ms free) := vx_backW (hh := hh) (bytes := bytes) (maxL := maxL) (ret := ret) hM hp.1 hrc hrs hfr hlo hws hcw (fun a' U hW => word_at hW (Or.inl (by first | rfl | simp [Cond.onTables, Cond.keeps, Cond.steady])) hini)
  obtain ⟨hx, hb, hml, ho, -⟩ := S
  obtain ⟨-, ⟨cellB, hcB, hoB, hclB⟩, hPc⟩ := hp
  intro T hT X
  rcases vx_callVX X hx (C := C) (hh := hh) (bytes := bytes) (maxL := maxL) (ret := ret) ho hl hin hse hcode hy hK (by rw [hT]; exact hcB) hoB hclB hg (hsize.trans hml.symm) (argsL := As) (rest := rest) (fun sig h => hn.trans (hlen sig h)) hstack hW (by rw [hb]; exact hdg)
    (fun vm₁ hW₁ => ⟨hf.1, hf.2, hPc (T.setVm vm₁) hT hW₁⟩) with ⟨v, vm₁, ⟨U', l2, c2, s2⟩, hW₁, X', ⟨g', mk, t, L, e1, e2, hq, h1, hL, h2, h3⟩, st⟩ | ⟨q, vm₁, ⟨U', l2, c2, s2⟩, hW₁, X', ⟨g', mk, t, L, E, ce, e1, e2, hq, hce, hcv, hcl, h1, hL, h2, h3⟩, st⟩
  · dsimp only [Pt.U, Pt.locs, Pt.cells, Pt.slots] at X' e1 e2 h1 h2 h3 st
    subst h1; subst h2; subst h3
    exact Or.inl ⟨v, (T.setVm vm₁).calling g' mk (Value.ref b :: As).toArray, t, U', L, hT, X', hL, e1, e2, hq, st⟩
  · dsimp only [Pt.U, Pt.locs, Pt.cells, Pt.slots] at X' e1 e2 h1 h2 h3 st hcl
    subst h1; subst h2; subst h3
    exact Or.inr ⟨q, (T.setVm vm₁).calling g' mk (Value.ref b :: As).toArray, t, U', L, E, ce, hT, X', hL, e1, e2, hq, hce, hcv, vx_cls hW₁ hcl, st⟩
theorem vx_runSX {hh : List (Nat × Nat × Nat × Nat)} (S : CallFix p m c cc nL s args Ts own) (hM : vx_Met l y ws rm Pc Qc XC mc ms free) (cw : vx_CSW R s args own index y bytes maxL ret hh ws rm mc ms n) (hp : PreS s H Pc As)
    (hg : g.method = m) (hn : As.length = n) (hsize : g.locals.size = nL) (hstack : g.stack = As.reverse ++ rest) (hW : 2 * g.monitorRoom + (rest.map fun v => v.category).sum ≤ 8) (hdg : decode cc g.pc = .ok (.invokestatic index, 3)) (hf : cells + mc ≤ R.cells ∧ slots + ms ≤ R.slots) :
    vx_Run p l e R s m args below meth c H locs cells slots mc ms g rest (Qc As.toArray) XC free := by
  obtain ⟨⟨hrc, hrs, hfr, hlo, hws, hcw⟩, hcode, hini, hy, hlen, hl, hstt⟩ := cw
  have hK : vx_Back l R p e below s args y 3 8 (PreOf R mc ms Pc) (PostOf Qc mc ms free) (vx_Post XC mc ms free) := vx_backW (hh := hh) (bytes := bytes) (maxL := maxL) (ret := ret) hM hp.1 hrc hrs hfr hlo hws hcw (fun a' U hW => word_at hW (Or.inl (by first | rfl | simp [Cond.onTables, Cond.keeps, Cond.steady])) hini)
  obtain ⟨hx, hb, hml, ho, -⟩ := S
  intro T hT X
  rcases vx_callSX X hx (hh := hh) (bytes := bytes) (maxL := maxL) (ret := ret) ho hl hstt hini hcode hy hK hg (hsize.trans hml.symm) (argsL := As) (rest := rest) (fun sig h => hn.trans (hlen sig h)) hstack hW (by rw [hb]; exact hdg)
    (fun vm₁ hW₁ => ⟨hf.1, hf.2, hp.2 (T.setVm vm₁) hT hW₁⟩) with ⟨v, vm₁, ⟨U', l2, c2, s2⟩, hW₁, X', ⟨g', mk, t, L, e1, e2, hq, h1, hL, h2, h3⟩, st⟩ | ⟨q, vm₁, ⟨U', l2, c2, s2⟩, hW₁, X', ⟨g', mk, t, L, E, ce, e1, e2, hq, hce, hcv, hcl, h1, hL, h2, h3⟩, st⟩
  · dsimp only [Pt.U, Pt.locs, Pt.cells, Pt.slots] at X' e1 e2 h1 h2 h3 st
    subst h1; subst h2; subst h3
    exact Or.inl ⟨v, (T.setVm vm₁).calling g' mk As.toArray, t, U', L, hT, X', hL, e1, e2, hq, st⟩
  · dsimp only [Pt.U, Pt.locs, Pt.cells, Pt.slots] at X' e1 e2 h1 h2 h3 st hcl
    subst h1; subst h2; subst h3
    exact Or.inr ⟨q, (T.setVm vm₁).calling g' mk As.toArray, t, U', L, E, ce, hT, X', hL, e1, e2, hq, hce, hcv, vx_cls hW₁ hcl, st⟩
end
end VXH
theorem vx_ofWH {l : Launch} {y : MethodName} {ws ws' : List Cond} {rm : Room} {Pc : Array Value → State → Prop} {Qc : Array Value → State → Outcome → State → Prop} {XC : String → State → State → Prop} {mc ms : Nat} {free : Addr → Prop} {cc : ByteArray} {maxL : Nat} {ret : Option FieldType} {hh : List (Nat × Nat × Nat × Nat)}
    (hy : plainName y.cls = true) (hw : ws = Cond.codeWith y cc maxL ret hh :: ws')
    (body : ∀ p e s m args below meth c s₁, BodyLoose p l y (headSpec ws rm) cc maxL ret e s m args below meth c s₁ → c.maxLocals = maxL → Pc args s →
      W p l e (headSpec ws rm).room s m args below meth c s.heap [] 0 0 (vx_MQ below Qc XC args s mc ms free) (entryFrame m args maxL)) : vx_Met l y ws rm Pc Qc XC mc ms free := by
  refine MetFree.of_bodyS (code := cc) (maxLocals := maxL) (ret := ret) hy ?_ ?_
  · intro args s m h hn
    obtain ⟨m9, meth, c, hn9, h1, h2, h3, h4, -, h5, h6, -⟩ := Cond.codeWith_spec (atoms_spec (ws := ws) h _ (by rw [hw]; exact List.mem_cons_self))
    cases hn.symm.trans hn9
    exact ⟨meth, c, h1, h2, h3, h4, h5, h6⟩
  · intro p e s m args below meth c s₁ B hml hP _
    have hh0 : s₁.heap = s.heap := by rw [B.state]; rfl
    obtain ⟨t, a1, o, b1, b2, b3⟩ := body p e s m args below meth c s₁ B hml hP s₁ hh0 (Stand.of_body B)
    exact ⟨t, o, a1, b1, b2, b3⟩
/-! ===== END ===== -/
end
section
def RX0 : String := "ProRataMarket$Book"
def TX0 : u_T := fun k => match k with
  | 0 => ("ProRataMarket$Book", "rows", "[LProRataMarket$Order;", true)
  | 1 => ("ProRataMarket$Book", "resting", "I", false)
  | 2 => ("ProRataMarket$Book", "topNumber", "[I", true)
  | _ => ("ProRataMarket$Book", "topGrant", "[I", true)
def tyX0 : Nat → FieldType := fun k => match k with
  | 0 => .array (.object "ProRataMarket$Order")
  | 1 => .int
  | 2 => .array .int
  | _ => .array .int
abbrev wsX00 : List Cond := u_ws RX0 TX0 4
theorem nmX0 : ∀ a, a < 4 → ∀ b, b < 4 → a ≠ b → (TX0 a).2.1 ≠ (TX0 b).2.1 := by decide +kernel
theorem tyX0_ok : ∀ k, k < 4 → parseFieldDescriptor (TX0 k).2.2.1 = some (tyX0 k) := by decide +kernel
abbrev cX0_init : ByteArray := prog_2_method_1_code
def yX0_init : MethodName := ⟨RX0, "<init>", "()V"⟩
abbrev cX0_find : ByteArray := prog_2_method_3_code
def yX0_find : MethodName := ⟨RX0, "find", "(I)LProRataMarket$Order;"⟩
abbrev cX0_isFull : ByteArray := prog_2_method_4_code
def yX0_isFull : MethodName := ⟨RX0, "isFull", "()Z"⟩
abbrev cX0_add : ByteArray := prog_2_method_5_code
def yX0_add : MethodName := ⟨RX0, "add", "(LProRataMarket$Order;)V"⟩
abbrev cX0_sweep : ByteArray := prog_2_method_6_code
def yX0_sweep : MethodName := ⟨RX0, "sweep", "()V"⟩
abbrev cX0_makeTop : ByteArray := prog_2_method_7_code
def yX0_makeTop : MethodName := ⟨RX0, "makeTop", "(LProRataMarket$Order;I)V"⟩
abbrev cX0_lapse : ByteArray := prog_2_method_8_code
def yX0_lapse : MethodName := ⟨RX0, "lapse", "(LProRataMarket$Order;)V"⟩
abbrev cX0_grantOf : ByteArray := prog_2_method_10_code
def yX0_grantOf : MethodName := ⟨RX0, "grantOf", "(LProRataMarket$Order;)I"⟩
abbrev cX0_useGrant : ByteArray := prog_2_method_11_code
def yX0_useGrant : MethodName := ⟨RX0, "useGrant", "(LProRataMarket$Order;I)V"⟩
abbrev cX0_best : ByteArray := prog_2_method_12_code
def yX0_best : MethodName := ⟨RX0, "best", "(I)I"⟩
abbrev cX0_nextPrice : ByteArray := prog_2_method_13_code
def yX0_nextPrice : MethodName := ⟨RX0, "nextPrice", "(II)I"⟩
abbrev cX0_isAt : ByteArray := prog_2_method_16_code
def yX0_isAt : MethodName := ⟨RX0, "isAt", "(III)Z"⟩
def RX1 : String := "ProRataMarket$Clearing"
def TX1 : u_T := fun k => match k with
  | 0 => ("ProRataMarket$Clearing", "price", "I", false)
  | 1 => ("ProRataMarket$Clearing", "volume", "I", false)
  | _ => ("ProRataMarket$Clearing", "surplus", "I", false)
def tyX1 : Nat → FieldType := fun k => match k with
  | 0 => .int
  | 1 => .int
  | _ => .int
abbrev wsX10 : List Cond := u_ws RX1 TX1 3
theorem nmX1 : ∀ a, a < 3 → ∀ b, b < 3 → a ≠ b → (TX1 a).2.1 ≠ (TX1 b).2.1 := by decide +kernel
theorem tyX1_ok : ∀ k, k < 3 → parseFieldDescriptor (TX1 k).2.2.1 = some (tyX1 k) := by decide +kernel
abbrev cX1_init : ByteArray := prog_3_method_1_code
def yX1_init : MethodName := ⟨RX1, "<init>", "()V"⟩
def RX2 : String := "ProRataMarket$Floor"
def TX2 : u_T := fun k => match k with
  | 0 => ("ProRataMarket$Floor", "book", "LProRataMarket$Book;", true)
  | 1 => ("ProRataMarket$Floor", "ledger", "LProRataMarket$Ledger;", true)
  | 2 => ("ProRataMarket$Floor", "sharing", "LProRataMarket$Sharing;", true)
  | 3 => ("ProRataMarket$Floor", "clearing", "LProRataMarket$Clearing;", true)
  | 4 => ("ProRataMarket$Floor", "coming", "LProRataMarket$Order;", true)
  | 5 => ("ProRataMarket$Floor", "grant", "I", false)
  | 6 => ("ProRataMarket$Floor", "least", "I", false)
  | 7 => ("ProRataMarket$Floor", "calling", "Z", false)
  | 8 => ("ProRataMarket$Floor", "latest", "I", false)
  | 9 => ("ProRataMarket$Floor", "ordersTakenOff", "I", false)
  | 10 => ("ProRataMarket$Floor", "lotsTakenOff", "I", false)
  | _ => ("ProRataMarket$Floor", "lotsMadeLess", "I", false)
def tyX2 : Nat → FieldType := fun k => match k with
  | 0 => .object "ProRataMarket$Book"
  | 1 => .object "ProRataMarket$Ledger"
  | 2 => .object "ProRataMarket$Sharing"
  | 3 => .object "ProRataMarket$Clearing"
  | 4 => .object "ProRataMarket$Order"
  | 5 => .int
  | 6 => .int
  | 7 => .boolean
  | 8 => .int
  | 9 => .int
  | 10 => .int
  | _ => .int
abbrev wsX20 : List Cond := u_ws RX2 TX2 12
theorem nmX2 : ∀ a, a < 12 → ∀ b, b < 12 → a ≠ b → (TX2 a).2.1 ≠ (TX2 b).2.1 := by decide +kernel
theorem tyX2_ok : ∀ k, k < 12 → parseFieldDescriptor (TX2 k).2.2.1 = some (tyX2 k) := by decide +kernel
abbrev cX2_init : ByteArray := prog_4_method_1_code
def yX2_init : MethodName := ⟨RX2, "<init>", "()V"⟩
abbrev cX2_comeIn : ByteArray := prog_4_method_3_code
def yX2_comeIn : MethodName := ⟨RX2, "comeIn", "(IIIII)I"⟩
abbrev cX2_restComing : ByteArray := prog_4_method_4_code
def yX2_restComing : MethodName := ⟨RX2, "restComing", "()V"⟩
abbrev cX2_meet : ByteArray := prog_4_method_5_code
def yX2_meet : MethodName := ⟨RX2, "meet", "(I)V"⟩
abbrev cX2_preventSelf : ByteArray := prog_4_method_6_code
def yX2_preventSelf : MethodName := ⟨RX2, "preventSelf", "(III)V"⟩
abbrev cX2_loseOwn : ByteArray := prog_4_method_7_code
def yX2_loseOwn : MethodName := ⟨RX2, "loseOwn", "(LProRataMarket$Order;I)V"⟩
abbrev cX2_takeAt : ByteArray := prog_4_method_8_code
def yX2_takeAt : MethodName := ⟨RX2, "takeAt", "(II)V"⟩
abbrev cX2_tradeRows : ByteArray := prog_4_method_9_code
def yX2_tradeRows : MethodName := ⟨RX2, "tradeRows", "([IIII)V"⟩
def RX3 : String := "ProRataMarket$Ledger"
def TX3 : u_T := fun k => match k with
  | 0 => ("ProRataMarket$Ledger", "trades", "[[I", true)
  | 1 => ("ProRataMarket$Ledger", "kept", "I", false)
  | 2 => ("ProRataMarket$Ledger", "next", "I", false)
  | 3 => ("ProRataMarket$Ledger", "last", "I", false)
  | 4 => ("ProRataMarket$Ledger", "lots", "I", false)
  | 5 => ("ProRataMarket$Ledger", "position", "[I", true)
  | _ => ("ProRataMarket$Ledger", "money", "[J", true)
def tyX3 : Nat → FieldType := fun k => match k with
  | 0 => .array (.array .int)
  | 1 => .int
  | 2 => .int
  | 3 => .int
  | 4 => .int
  | 5 => .array .int
  | _ => .array .long
abbrev wsX30 : List Cond := u_ws RX3 TX3 7
theorem nmX3 : ∀ a, a < 7 → ∀ b, b < 7 → a ≠ b → (TX3 a).2.1 ≠ (TX3 b).2.1 := by decide +kernel
theorem tyX3_ok : ∀ k, k < 7 → parseFieldDescriptor (TX3 k).2.2.1 = some (tyX3 k) := by decide +kernel
abbrev cX3_init : ByteArray := prog_5_method_1_code
def yX3_init : MethodName := ⟨RX3, "<init>", "()V"⟩
abbrev cX3_keep : ByteArray := prog_5_method_3_code
def yX3_keep : MethodName := ⟨RX3, "keep", "(IIIII)V"⟩
abbrev cX3_enter : ByteArray := prog_5_method_4_code
def yX3_enter : MethodName := ⟨RX3, "enter", "(IIII)V"⟩
abbrev cX3_told : ByteArray := prog_5_method_5_code
def yX3_told : MethodName := ⟨RX3, "told", "(II)I"⟩
def RX4 : String := "ProRataMarket$Order"
def TX4 : u_T := fun k => match k with
  | 0 => ("ProRataMarket$Order", "number", "I", false)
  | 1 => ("ProRataMarket$Order", "trader", "I", false)
  | 2 => ("ProRataMarket$Order", "side", "I", false)
  | 3 => ("ProRataMarket$Order", "price", "I", false)
  | 4 => ("ProRataMarket$Order", "size", "I", false)
  | _ => ("ProRataMarket$Order", "first", "I", false)
def tyX4 : Nat → FieldType := fun k => match k with
  | 0 => .int
  | 1 => .int
  | 2 => .int
  | 3 => .int
  | 4 => .int
  | _ => .int
abbrev wsX40 : List Cond := u_ws RX4 TX4 6
theorem nmX4 : ∀ a, a < 6 → ∀ b, b < 6 → a ≠ b → (TX4 a).2.1 ≠ (TX4 b).2.1 := by decide +kernel
theorem tyX4_ok : ∀ k, k < 6 → parseFieldDescriptor (TX4 k).2.2.1 = some (tyX4 k) := by decide +kernel
abbrev cX4_init : ByteArray := prog_6_method_1_code
def yX4_init : MethodName := ⟨RX4, "<init>", "()V"⟩
abbrev cX4_become : ByteArray := prog_6_method_2_code
def yX4_become : MethodName := ⟨RX4, "become", "(IIIII)V"⟩
abbrev cX4_copyFrom : ByteArray := prog_6_method_3_code
def yX4_copyFrom : MethodName := ⟨RX4, "copyFrom", "(LProRataMarket$Order;)V"⟩
def RX5 : String := "ProRataMarket$Sharing"
def TX5 : u_T := fun k => match k with
  | 0 => ("ProRataMarket$Sharing", "owner", "[LProRataMarket$Order;", true)
  | 1 => ("ProRataMarket$Sharing", "size", "[I", true)
  | 2 => ("ProRataMarket$Sharing", "grant", "[I", true)
  | 3 => ("ProRataMarket$Sharing", "granted", "[I", true)
  | 4 => ("ProRataMarket$Sharing", "shared", "[I", true)
  | 5 => ("ProRataMarket$Sharing", "over", "[I", true)
  | 6 => ("ProRataMarket$Sharing", "rows", "I", false)
  | _ => ("ProRataMarket$Sharing", "all", "I", false)
def tyX5 : Nat → FieldType := fun k => match k with
  | 0 => .array (.object "ProRataMarket$Order")
  | 1 => .array .int
  | 2 => .array .int
  | 3 => .array .int
  | 4 => .array .int
  | 5 => .array .int
  | 6 => .int
  | _ => .int
abbrev wsX50 : List Cond := u_ws RX5 TX5 8
theorem nmX5 : ∀ a, a < 8 → ∀ b, b < 8 → a ≠ b → (TX5 a).2.1 ≠ (TX5 b).2.1 := by decide +kernel
theorem tyX5_ok : ∀ k, k < 8 → parseFieldDescriptor (TX5 k).2.2.1 = some (tyX5 k) := by decide +kernel
abbrev cX5_init : ByteArray := prog_7_method_1_code
def yX5_init : MethodName := ⟨RX5, "<init>", "()V"⟩
abbrev cX5_load : ByteArray := prog_7_method_2_code
def yX5_load : MethodName := ⟨RX5, "load", "(LProRataMarket$Book;II)V"⟩
abbrev cX5_put : ByteArray := prog_7_method_5_code
def yX5_put : MethodName := ⟨RX5, "put", "(LProRataMarket$Order;II)V"⟩
abbrev cX5_deal : ByteArray := prog_7_method_6_code
def yX5_deal : MethodName := ⟨RX5, "deal", "(II)V"⟩
abbrev cX5_portion : ByteArray := prog_7_method_7_code
def yX5_portion : MethodName := ⟨RX5, "portion", "(IIII)I"⟩
abbrev cX5_partAt : ByteArray := prog_7_method_8_code
def yX5_partAt : MethodName := ⟨RX5, "partAt", "(II)I"⟩
abbrev cX5_partOf : ByteArray := prog_7_method_9_code
def yX5_partOf : MethodName := ⟨RX5, "partOf", "(LProRataMarket$Order;I)I"⟩
def RX6 : String := "ProRataMarket$Tape"
def TX6 : u_T := fun k => match k with
  | 0 => ("ProRataMarket$Tape", "bytes", "[I", true)
  | 1 => ("ProRataMarket$Tape", "held", "I", false)
  | 2 => ("ProRataMarket$Tape", "end", "I", false)
  | 3 => ("ProRataMarket$Tape", "place", "I", false)
  | 4 => ("ProRataMarket$Tape", "token", "I", false)
  | 5 => ("ProRataMarket$Tape", "start", "I", false)
  | 6 => ("ProRataMarket$Tape", "value", "I", false)
  | 7 => ("ProRataMarket$Tape", "lineFollows", "Z", false)
  | 8 => ("ProRataMarket$Tape", "verb", "I", false)
  | 9 => ("ProRataMarket$Tape", "number", "[I", true)
  | 10 => ("ProRataMarket$Tape", "mode", "I", false)
  | _ => ("ProRataMarket$Tape", "fault", "I", false)
def tyX6 : Nat → FieldType := fun k => match k with
  | 0 => .array .int
  | 1 => .int
  | 2 => .int
  | 3 => .int
  | 4 => .int
  | 5 => .int
  | 6 => .int
  | 7 => .boolean
  | 8 => .int
  | 9 => .array .int
  | 10 => .int
  | _ => .int
abbrev wsX60 : List Cond := u_ws RX6 TX6 12
theorem nmX6 : ∀ a, a < 12 → ∀ b, b < 12 → a ≠ b → (TX6 a).2.1 ≠ (TX6 b).2.1 := by decide +kernel
theorem tyX6_ok : ∀ k, k < 12 → parseFieldDescriptor (TX6 k).2.2.1 = some (tyX6 k) := by decide +kernel
abbrev cX6_init : ByteArray := prog_8_method_1_code
def yX6_init : MethodName := ⟨RX6, "<init>", "()V"⟩
def RX7 : String := "ProRataMarket"
def TX7 : u_T := fun k => match k with
  | 0 => ("ProRataMarket", "floor", "LProRataMarket$Floor;", true)
  | 1 => ("ProRataMarket", "trial", "LProRataMarket$Floor;", true)
  | _ => ("ProRataMarket", "tape", "LProRataMarket$Tape;", true)
def tyX7 : Nat → FieldType := fun k => match k with
  | 0 => .object "ProRataMarket$Floor"
  | 1 => .object "ProRataMarket$Floor"
  | _ => .object "ProRataMarket$Tape"
abbrev wsX70 : List Cond := u_ws RX7 TX7 3
theorem nmX7 : ∀ a, a < 3 → ∀ b, b < 3 → a ≠ b → (TX7 a).2.1 ≠ (TX7 b).2.1 := by decide +kernel
theorem tyX7_ok : ∀ k, k < 3 → parseFieldDescriptor (TX7 k).2.2.1 = some (tyX7 k) := by decide +kernel
abbrev cX7_init : ByteArray := prog_1_method_1_code
def yX7_init : MethodName := ⟨RX7, "<init>", "()V"⟩
abbrev cX7_order : ByteArray := prog_1_method_5_code
def yX7_order : MethodName := ⟨RX7, "order", "(IIIII)I"⟩
abbrev cX7_isForm : ByteArray := prog_1_method_6_code
def yX7_isForm : MethodName := ⟨RX7, "isForm", "(IIIII)Z"⟩
abbrev cX7_isTrader : ByteArray := prog_1_method_7_code
def yX7_isTrader : MethodName := ⟨RX7, "isTrader", "(I)Z"⟩
abbrev cX7_isSide : ByteArray := prog_1_method_8_code
def yX7_isSide : MethodName := ⟨RX7, "isSide", "(I)Z"⟩
abbrev cX7_isWorthInt : ByteArray := prog_1_method_9_code
def yX7_isWorthInt : MethodName := ⟨RX7, "isWorthInt", "(II)Z"⟩
abbrev cX7_grant : ByteArray := prog_1_method_12_code
def yX7_grant : MethodName := ⟨RX7, "grant", "(I)I"⟩
abbrev cX7_least : ByteArray := prog_1_method_13_code
def yX7_least : MethodName := ⟨RX7, "least", "(I)I"⟩
abbrev cX7_of : ByteArray := prog_1_method_16_code
def yX7_of : MethodName := ⟨RX7, "of", "(II)I"⟩
abbrev cX7_top : ByteArray := prog_1_method_19_code
def yX7_top : MethodName := ⟨RX7, "top", "(I)I"⟩
abbrev cX7_share : ByteArray := prog_1_method_21_code
def yX7_share : MethodName := ⟨RX7, "share", "(III)I"⟩
abbrev cX7_trade : ByteArray := prog_1_method_27_code
def yX7_trade : MethodName := ⟨RX7, "trade", "(II)I"⟩
abbrev cX7_position : ByteArray := prog_1_method_28_code
def yX7_position : MethodName := ⟨RX7, "position", "(I)I"⟩
abbrev cX7_count : ByteArray := prog_1_method_30_code
def yX7_count : MethodName := ⟨RX7, "count", "(I)I"⟩
abbrev cX7_isBetter : ByteArray := prog_1_method_31_code
def yX7_isBetter : MethodName := ⟨RX7, "isBetter", "(III)Z"⟩
def RX8 : String := "ProRataMarketModel"
def TX8 : u_T := fun k => match k with
  | _ => ("", "", "", false)
def tyX8 : Nat → FieldType := fun k => match k with
  | _ => .int
abbrev wsX80 : List Cond := u_ws RX8 TX8 0
theorem nmX8 : ∀ a, a < 0 → ∀ b, b < 0 → a ≠ b → (TX8 a).2.1 ≠ (TX8 b).2.1 := by decide +kernel
theorem tyX8_ok : ∀ k, k < 0 → parseFieldDescriptor (TX8 k).2.2.1 = some (tyX8 k) := by decide +kernel
def RJx145de : String := "java/io/Serializable"
def TJx145de : u_T := fun k => match k with
  | _ => ("", "", "", false)
def tyJx145de : Nat → FieldType := fun k => match k with
  | _ => .int
abbrev wsJx145de0 : List Cond := u_ws RJx145de TJx145de 0
theorem nmJx145de : ∀ a, a < 0 → ∀ b, b < 0 → a ≠ b → (TJx145de a).2.1 ≠ (TJx145de b).2.1 := by decide +kernel
theorem tyJx145de_ok : ∀ k, k < 0 → parseFieldDescriptor (TJx145de k).2.2.1 = some (tyJx145de k) := by decide +kernel
def RJ9 : String := "java/lang/Math"
def TJ9 : u_T := fun k => match k with
  | _ => ("", "", "", false)
def tyJ9 : Nat → FieldType := fun k => match k with
  | _ => .int
abbrev wsJ90 : List Cond := u_ws RJ9 TJ9 0
theorem nmJ9 : ∀ a, a < 0 → ∀ b, b < 0 → a ≠ b → (TJ9 a).2.1 ≠ (TJ9 b).2.1 := by decide +kernel
theorem tyJ9_ok : ∀ k, k < 0 → parseFieldDescriptor (TJ9 k).2.2.1 = some (tyJ9 k) := by decide +kernel
abbrev cJ9_floorMod_7cf53 : ByteArray := prog_13_method_50_code
def yJ9_floorMod_7cf53 : MethodName := ⟨RJ9, "floorMod", "(II)I"⟩
abbrev cJ9_min_7cf53 : ByteArray := prog_13_method_69_code
def yJ9_min_7cf53 : MethodName := ⟨RJ9, "min", "(II)I"⟩
def RJ0 : String := "java/lang/String"
def TJ0 : u_T := fun k => match k with
  | _ => ("", "", "", false)
def tyJ0 : Nat → FieldType := fun k => match k with
  | _ => .int
abbrev wsJ00 : List Cond := u_ws RJ0 TJ0 0
theorem nmJ0 : ∀ a, a < 0 → ∀ b, b < 0 → a ≠ b → (TJ0 a).2.1 ≠ (TJ0 b).2.1 := by decide +kernel
theorem tyJ0_ok : ∀ k, k < 0 → parseFieldDescriptor (TJ0 k).2.2.1 = some (tyJ0 k) := by decide +kernel
def RL : String := "ProRataMarketLaw"
abbrev cL_cell : ByteArray := method_2_code
def yL_cell : MethodName := ⟨RL, "cell", "([II)I"⟩
abbrev cL_some : ByteArray := method_3_code
def yL_some : MethodName := ⟨RL, "some", "([III)I"⟩
abbrev cL_law : ByteArray := code
def yL_law : MethodName := ⟨RL, "law", "([I)Z"⟩
abbrev cL_size : ByteArray := method_5_code
def yL_size : MethodName := ⟨RL, "size", "(LProRataMarket;I)I"⟩
def wsX4_init : List Cond := .code yX4_init cX4_init 1 none :: ([.methodLink RX4 1 objectInit, .instanceMethod objectInit, .code objectInit ⟨#[0xb1]⟩ 1 none])
def wsX0_init : List Cond := .code yX0_init cX0_init 2 none :: ([.methodLink RX0 3 objectInit, .instanceMethod objectInit, .code objectInit ⟨#[0xb1]⟩ 1 none, .classLink RX0 9 RX4, .fieldLink RX0 11 "ProRataMarket$Book" "rows" "[LProRataMarket$Order;", .arrayClass .int, .fieldLink RX0 17 "ProRataMarket$Book" "topNumber" "[I", .fieldLink RX0 21 "ProRataMarket$Book" "topGrant" "[I", .instantiable RX4 6, .initialized RX4, .instanceMethod yX4_init, .code yX4_init cX4_init 1 none, .methodLink RX4 1 objectInit] ++ wsX00 ++ wsX40)
def wsX0_find : List Cond := .code yX0_find cX0_find 3 (some (.object "ProRataMarket$Order")) :: ([.fieldLink RX0 25 "ProRataMarket$Book" "resting" "I", .fieldLink RX0 11 "ProRataMarket$Book" "rows" "[LProRataMarket$Order;", .fieldLink RX0 33 "ProRataMarket$Order" "number" "I"] ++ wsX00 ++ wsX40)
def wsX0_isFull : List Cond := .code yX0_isFull cX0_isFull 1 (some .boolean) :: ([.fieldLink RX0 25 "ProRataMarket$Book" "resting" "I"] ++ wsX00)
def wsX4_become : List Cond := .code yX4_become cX4_become 6 none :: ([.fieldLink RX4 7 "ProRataMarket$Order" "number" "I", .fieldLink RX4 13 "ProRataMarket$Order" "trader" "I", .fieldLink RX4 16 "ProRataMarket$Order" "side" "I", .fieldLink RX4 19 "ProRataMarket$Order" "price" "I", .fieldLink RX4 22 "ProRataMarket$Order" "size" "I", .fieldLink RX4 25 "ProRataMarket$Order" "first" "I"] ++ wsX40)
def wsX4_copyFrom : List Cond := .code yX4_copyFrom cX4_copyFrom 2 none :: ([.fieldLink RX4 7 "ProRataMarket$Order" "number" "I", .fieldLink RX4 13 "ProRataMarket$Order" "trader" "I", .fieldLink RX4 16 "ProRataMarket$Order" "side" "I", .fieldLink RX4 19 "ProRataMarket$Order" "price" "I", .fieldLink RX4 22 "ProRataMarket$Order" "size" "I", .fieldLink RX4 25 "ProRataMarket$Order" "first" "I", .methodLink RX4 28 yX4_become, .instanceMethod yX4_become, .selects RX4 yX4_become yX4_become, .initialized RX4, .code yX4_become cX4_become 6 none] ++ wsX40)
def wsX0_add : List Cond := .code yX0_add cX0_add 2 none :: ([.fieldLink RX0 11 "ProRataMarket$Book" "rows" "[LProRataMarket$Order;", .fieldLink RX0 25 "ProRataMarket$Book" "resting" "I", .methodLink RX0 36 yX0_isFull, .instanceMethod yX0_isFull, .selects RX0 yX0_isFull yX0_isFull, .initialized RX0, .code yX0_isFull cX0_isFull 1 (some .boolean), .methodLink RX0 29 yX4_copyFrom, .instanceMethod yX4_copyFrom, .selects RX4 yX4_copyFrom yX4_copyFrom, .initialized RX4, .code yX4_copyFrom cX4_copyFrom 2 none, .fieldLink RX4 7 "ProRataMarket$Order" "number" "I", .fieldLink RX4 13 "ProRataMarket$Order" "trader" "I", .fieldLink RX4 16 "ProRataMarket$Order" "side" "I", .fieldLink RX4 19 "ProRataMarket$Order" "price" "I", .fieldLink RX4 22 "ProRataMarket$Order" "size" "I", .fieldLink RX4 25 "ProRataMarket$Order" "first" "I", .methodLink RX4 28 yX4_become, .instanceMethod yX4_become, .selects RX4 yX4_become yX4_become, .code yX4_become cX4_become 6 none] ++ wsX00 ++ wsX40)
def wsX0_lapse : List Cond := .code yX0_lapse cX0_lapse 2 none :: ([.fieldLink RX0 17 "ProRataMarket$Book" "topNumber" "[I", .fieldLink RX0 46 "ProRataMarket$Order" "side" "I", .fieldLink RX0 33 "ProRataMarket$Order" "number" "I", .fieldLink RX0 21 "ProRataMarket$Book" "topGrant" "[I"] ++ wsX00 ++ wsX40)
def wsX0_sweep : List Cond := .code yX0_sweep cX0_sweep 4 none :: ([.fieldLink RX0 25 "ProRataMarket$Book" "resting" "I", .fieldLink RX0 11 "ProRataMarket$Book" "rows" "[LProRataMarket$Order;", .fieldLink RX0 40 "ProRataMarket$Order" "size" "I", .methodLink RX0 43 yX0_lapse, .instanceMethod yX0_lapse, .selects RX0 yX0_lapse yX0_lapse, .initialized RX0, .code yX0_lapse cX0_lapse 2 none, .fieldLink RX0 17 "ProRataMarket$Book" "topNumber" "[I", .fieldLink RX0 46 "ProRataMarket$Order" "side" "I", .fieldLink RX0 33 "ProRataMarket$Order" "number" "I", .fieldLink RX0 21 "ProRataMarket$Book" "topGrant" "[I"] ++ wsX00 ++ wsX40)
def wsX0_makeTop : List Cond := .code yX0_makeTop cX0_makeTop 3 none :: ([.fieldLink RX0 17 "ProRataMarket$Book" "topNumber" "[I", .fieldLink RX0 46 "ProRataMarket$Order" "side" "I", .fieldLink RX0 33 "ProRataMarket$Order" "number" "I", .fieldLink RX0 21 "ProRataMarket$Book" "topGrant" "[I"] ++ wsX00 ++ wsX40)
def wsX0_grantOf : List Cond := .code yX0_grantOf cX0_grantOf 2 (some .int) :: ([.fieldLink RX0 17 "ProRataMarket$Book" "topNumber" "[I", .fieldLink RX0 46 "ProRataMarket$Order" "side" "I", .fieldLink RX0 33 "ProRataMarket$Order" "number" "I", .fieldLink RX0 21 "ProRataMarket$Book" "topGrant" "[I"] ++ wsX00 ++ wsX40)
def wsX0_useGrant : List Cond := .code yX0_useGrant cX0_useGrant 3 none :: ([.fieldLink RX0 21 "ProRataMarket$Book" "topGrant" "[I", .fieldLink RX0 46 "ProRataMarket$Order" "side" "I", .fieldLink RX0 17 "ProRataMarket$Book" "topNumber" "[I"] ++ wsX00 ++ wsX40)
def wsX7_isBetter : List Cond := .code yX7_isBetter cX7_isBetter 3 (some .boolean) :: ([])
def wsX0_nextPrice : List Cond := .code yX0_nextPrice cX0_nextPrice 6 (some .int) :: ([.fieldLink RX0 25 "ProRataMarket$Book" "resting" "I", .fieldLink RX0 11 "ProRataMarket$Book" "rows" "[LProRataMarket$Order;", .fieldLink RX0 46 "ProRataMarket$Order" "side" "I", .fieldLink RX0 54 "ProRataMarket$Order" "price" "I", .static yX7_isBetter, .initialized RX7, .code yX7_isBetter cX7_isBetter 3 (some .boolean)] ++ wsX00 ++ wsX40)
def wsX0_best : List Cond := .code yX0_best cX0_best 2 (some .int) :: ([.constant RX0 49 (10000000), .methodLink RX0 50 yX0_nextPrice, .instanceMethod yX0_nextPrice, .selects RX0 yX0_nextPrice yX0_nextPrice, .initialized RX0, .code yX0_nextPrice cX0_nextPrice 6 (some .int), .fieldLink RX0 25 "ProRataMarket$Book" "resting" "I", .fieldLink RX0 11 "ProRataMarket$Book" "rows" "[LProRataMarket$Order;", .fieldLink RX0 46 "ProRataMarket$Order" "side" "I", .fieldLink RX0 54 "ProRataMarket$Order" "price" "I", .static yX7_isBetter, .initialized RX7, .code yX7_isBetter cX7_isBetter 3 (some .boolean)] ++ wsX00 ++ wsX40)
def wsX0_isAt : List Cond := .code yX0_isAt cX0_isAt 4 (some .boolean) :: ([.fieldLink RX0 11 "ProRataMarket$Book" "rows" "[LProRataMarket$Order;", .fieldLink RX0 46 "ProRataMarket$Order" "side" "I", .fieldLink RX0 54 "ProRataMarket$Order" "price" "I"] ++ wsX00 ++ wsX40)
def wsX1_init : List Cond := .code yX1_init cX1_init 1 none :: ([.methodLink RX1 3 objectInit, .instanceMethod objectInit, .code objectInit ⟨#[0xb1]⟩ 1 none])
def wsX3_init : List Cond := .code yX3_init cX3_init 1 none :: ([.methodLink RX3 3 objectInit, .instanceMethod objectInit, .code objectInit ⟨#[0xb1]⟩ 1 none, .classLink RX3 9 "[[I", .arrayClass .int, .fieldLink RX3 11 "ProRataMarket$Ledger" "trades" "[[I", .fieldLink RX3 16 "ProRataMarket$Ledger" "position" "[I", .arrayClass .long, .fieldLink RX3 20 "ProRataMarket$Ledger" "money" "[J"] ++ wsX30)
def wsX5_init : List Cond := .code yX5_init cX5_init 1 none :: ([.methodLink RX5 3 objectInit, .instanceMethod objectInit, .code objectInit ⟨#[0xb1]⟩ 1 none, .classLink RX5 11 RX4, .fieldLink RX5 13 "ProRataMarket$Sharing" "owner" "[LProRataMarket$Order;", .arrayClass .int, .fieldLink RX5 17 "ProRataMarket$Sharing" "size" "[I", .fieldLink RX5 21 "ProRataMarket$Sharing" "grant" "[I", .fieldLink RX5 24 "ProRataMarket$Sharing" "granted" "[I", .fieldLink RX5 27 "ProRataMarket$Sharing" "shared" "[I", .fieldLink RX5 30 "ProRataMarket$Sharing" "over" "[I"] ++ wsX50)
def wsX2_init_r1 : List Cond := [Cond.methodLink RX2 3 objectInit, Cond.instanceMethod objectInit, Cond.code objectInit ⟨#[0xb1]⟩ 1 none, Cond.classLink RX2 9 RX0, Cond.instantiable RX0 4, Cond.initialized RX0, Cond.fieldLink RX2 12 "ProRataMarket$Floor" "book" "LProRataMarket$Book;", Cond.classLink RX2 18 RX3, Cond.instantiable RX3 7, Cond.initialized RX3, Cond.fieldLink RX2 21 "ProRataMarket$Floor" "ledger" "LProRataMarket$Ledger;", Cond.classLink RX2 25 RX5, Cond.instantiable RX5 8, Cond.initialized RX5, Cond.fieldLink RX2 28 "ProRataMarket$Floor" "sharing" "LProRataMarket$Sharing;", Cond.classLink RX2 32 RX1, Cond.instantiable RX1 3, Cond.initialized RX1, Cond.fieldLink RX2 35 "ProRataMarket$Floor" "clearing" "LProRataMarket$Clearing;", Cond.classLink RX2 39 RX4, Cond.instantiable RX4 6, Cond.initialized RX4, Cond.fieldLink RX2 42 "ProRataMarket$Floor" "coming" "LProRataMarket$Order;", Cond.fieldLink RX2 46 "ProRataMarket$Floor" "grant" "I"]
def wsX2_init_r2 : List Cond := [Cond.fieldLink RX2 50 "ProRataMarket$Floor" "least" "I", Cond.methodLink RX2 11 yX0_init, Cond.instanceMethod yX0_init, Cond.code yX0_init cX0_init 2 none, Cond.methodLink RX0 3 objectInit, Cond.classLink RX0 9 RX4, Cond.fieldLink RX0 11 "ProRataMarket$Book" "rows" "[LProRataMarket$Order;", Cond.arrayClass .int, Cond.fieldLink RX0 17 "ProRataMarket$Book" "topNumber" "[I", Cond.fieldLink RX0 21 "ProRataMarket$Book" "topGrant" "[I", Cond.instanceMethod yX4_init, Cond.code yX4_init cX4_init 1 none, Cond.methodLink RX4 1 objectInit, Cond.instanceMethod yX3_init, Cond.code yX3_init cX3_init 1 none, Cond.methodLink RX3 3 objectInit, Cond.classLink RX3 9 "[[I", Cond.fieldLink RX3 11 "ProRataMarket$Ledger" "trades" "[[I", Cond.fieldLink RX3 16 "ProRataMarket$Ledger" "position" "[I", Cond.arrayClass .long, Cond.fieldLink RX3 20 "ProRataMarket$Ledger" "money" "[J", Cond.instanceMethod yX5_init, Cond.code yX5_init cX5_init 1 none, Cond.methodLink RX5 3 objectInit]
def wsX2_init_r3 : List Cond := [Cond.classLink RX5 11 RX4, Cond.fieldLink RX5 13 "ProRataMarket$Sharing" "owner" "[LProRataMarket$Order;", Cond.fieldLink RX5 17 "ProRataMarket$Sharing" "size" "[I", Cond.fieldLink RX5 21 "ProRataMarket$Sharing" "grant" "[I", Cond.fieldLink RX5 24 "ProRataMarket$Sharing" "granted" "[I", Cond.fieldLink RX5 27 "ProRataMarket$Sharing" "shared" "[I", Cond.fieldLink RX5 30 "ProRataMarket$Sharing" "over" "[I", Cond.instanceMethod yX1_init, Cond.code yX1_init cX1_init 1 none, Cond.methodLink RX1 3 objectInit]
def wsX2_init : List Cond := .code yX2_init cX2_init 1 none :: ((wsX2_init_r1 ++ (wsX2_init_r2 ++ wsX2_init_r3)) ++ wsX00 ++ wsX20 ++ wsX30 ++ wsX50 ++ wsX10 ++ wsX40)
def wsX2_loseOwn : List Cond := .code yX2_loseOwn cX2_loseOwn 4 none :: ([.fieldLink RX2 70 "ProRataMarket$Floor" "lotsTakenOff" "I", .fieldLink RX2 88 "ProRataMarket$Order" "size" "I", .fieldLink RX2 67 "ProRataMarket$Floor" "ordersTakenOff" "I", .fieldLink RX2 42 "ProRataMarket$Floor" "coming" "LProRataMarket$Order;", .methodLink RX2 146 Lib.Math.min.name, .static Lib.Math.min.name, .initialized "java/lang/Math", .code Lib.Math.min.name Lib.Math.min.code 2 (some .int), .fieldLink RX2 73 "ProRataMarket$Floor" "lotsMadeLess" "I"] ++ wsX20 ++ wsX40)
def wsX2_preventSelf_r1 : List Cond := [Cond.fieldLink RX2 12 "ProRataMarket$Floor" "book" "LProRataMarket$Book;", Cond.fieldLink RX2 127 "ProRataMarket$Book" "resting" "I", Cond.fieldLink RX2 130 "ProRataMarket$Book" "rows" "[LProRataMarket$Order;", Cond.fieldLink RX2 137 "ProRataMarket$Order" "trader" "I", Cond.fieldLink RX2 42 "ProRataMarket$Floor" "coming" "LProRataMarket$Order;", Cond.fieldLink RX2 88 "ProRataMarket$Order" "size" "I", Cond.methodLink RX2 134 yX0_isAt, Cond.instanceMethod yX0_isAt, Cond.selects RX0 yX0_isAt yX0_isAt, Cond.initialized RX0, Cond.code yX0_isAt cX0_isAt 4 (some .boolean), Cond.fieldLink RX0 11 "ProRataMarket$Book" "rows" "[LProRataMarket$Order;", Cond.fieldLink RX0 46 "ProRataMarket$Order" "side" "I", Cond.fieldLink RX0 54 "ProRataMarket$Order" "price" "I", Cond.methodLink RX2 140 yX2_loseOwn, Cond.instanceMethod yX2_loseOwn, Cond.selects RX2 yX2_loseOwn yX2_loseOwn, Cond.initialized RX2, Cond.code yX2_loseOwn cX2_loseOwn 4 none, Cond.fieldLink RX2 70 "ProRataMarket$Floor" "lotsTakenOff" "I", Cond.fieldLink RX2 67 "ProRataMarket$Floor" "ordersTakenOff" "I", Cond.methodLink RX2 146 Lib.Math.min.name, Cond.static Lib.Math.min.name, Cond.initialized "java/lang/Math"]
def wsX2_preventSelf_r2 : List Cond := [Cond.code Lib.Math.min.name Lib.Math.min.code 2 (some .int), Cond.fieldLink RX2 73 "ProRataMarket$Floor" "lotsMadeLess" "I", Cond.methodLink RX2 143 yX0_sweep, Cond.instanceMethod yX0_sweep, Cond.selects RX0 yX0_sweep yX0_sweep, Cond.code yX0_sweep cX0_sweep 4 none, Cond.fieldLink RX0 25 "ProRataMarket$Book" "resting" "I", Cond.fieldLink RX0 40 "ProRataMarket$Order" "size" "I", Cond.methodLink RX0 43 yX0_lapse, Cond.instanceMethod yX0_lapse, Cond.selects RX0 yX0_lapse yX0_lapse, Cond.code yX0_lapse cX0_lapse 2 none, Cond.fieldLink RX0 17 "ProRataMarket$Book" "topNumber" "[I", Cond.fieldLink RX0 33 "ProRataMarket$Order" "number" "I", Cond.fieldLink RX0 21 "ProRataMarket$Book" "topGrant" "[I"]
def wsX2_preventSelf : List Cond := .code yX2_preventSelf cX2_preventSelf 7 none :: ((wsX2_preventSelf_r1 ++ wsX2_preventSelf_r2) ++ wsX20 ++ wsX00 ++ wsX40)
def wsX5_put : List Cond := .code yX5_put cX5_put 4 none :: ([.fieldLink RX5 33 "ProRataMarket$Sharing" "rows" "I", .fieldLink RX5 13 "ProRataMarket$Sharing" "owner" "[LProRataMarket$Order;", .fieldLink RX5 17 "ProRataMarket$Sharing" "size" "[I", .fieldLink RX5 21 "ProRataMarket$Sharing" "grant" "[I", .fieldLink RX5 37 "ProRataMarket$Sharing" "all" "I"] ++ wsX50)
def wsX5_load_r1 : List Cond := [Cond.fieldLink RX5 33 "ProRataMarket$Sharing" "rows" "I", Cond.fieldLink RX5 37 "ProRataMarket$Sharing" "all" "I", Cond.fieldLink RX5 40 "ProRataMarket$Book" "resting" "I", Cond.fieldLink RX5 49 "ProRataMarket$Book" "rows" "[LProRataMarket$Order;", Cond.fieldLink RX5 51 "ProRataMarket$Order" "size" "I", Cond.methodLink RX5 45 yX0_isAt, Cond.instanceMethod yX0_isAt, Cond.selects RX0 yX0_isAt yX0_isAt, Cond.initialized RX0, Cond.code yX0_isAt cX0_isAt 4 (some .boolean), Cond.fieldLink RX0 11 "ProRataMarket$Book" "rows" "[LProRataMarket$Order;", Cond.fieldLink RX0 46 "ProRataMarket$Order" "side" "I", Cond.fieldLink RX0 54 "ProRataMarket$Order" "price" "I", Cond.methodLink RX5 53 yX0_grantOf, Cond.instanceMethod yX0_grantOf, Cond.selects RX0 yX0_grantOf yX0_grantOf, Cond.code yX0_grantOf cX0_grantOf 2 (some .int), Cond.fieldLink RX0 17 "ProRataMarket$Book" "topNumber" "[I", Cond.fieldLink RX0 33 "ProRataMarket$Order" "number" "I", Cond.fieldLink RX0 21 "ProRataMarket$Book" "topGrant" "[I", Cond.methodLink RX5 57 yX5_put, Cond.instanceMethod yX5_put, Cond.selects RX5 yX5_put yX5_put, Cond.initialized RX5]
def wsX5_load_r2 : List Cond := [Cond.code yX5_put cX5_put 4 none, Cond.fieldLink RX5 13 "ProRataMarket$Sharing" "owner" "[LProRataMarket$Order;", Cond.fieldLink RX5 17 "ProRataMarket$Sharing" "size" "[I", Cond.fieldLink RX5 21 "ProRataMarket$Sharing" "grant" "[I"]
def wsX5_load : List Cond := .code yX5_load cX5_load 6 none :: ((wsX5_load_r1 ++ wsX5_load_r2) ++ wsX50 ++ wsX00 ++ wsX40)
def wsX5_portion : List Cond := .code yX5_portion cX5_portion 5 (some .int) :: ([])
def wsX5_deal : List Cond := .code yX5_deal cX5_deal 7 none :: ([.fieldLink RX5 33 "ProRataMarket$Sharing" "rows" "I", .fieldLink RX5 24 "ProRataMarket$Sharing" "granted" "[I", .fieldLink RX5 17 "ProRataMarket$Sharing" "size" "[I", .fieldLink RX5 21 "ProRataMarket$Sharing" "grant" "[I", .methodLink RX5 71 Lib.Math.min.name, .static Lib.Math.min.name, .initialized "java/lang/Math", .code Lib.Math.min.name Lib.Math.min.code 2 (some .int), .fieldLink RX5 27 "ProRataMarket$Sharing" "shared" "[I", .fieldLink RX5 30 "ProRataMarket$Sharing" "over" "[I", .methodLink RX5 77 yX5_portion, .static yX5_portion, .initialized RX5, .code yX5_portion cX5_portion 5 (some .int)] ++ wsX50)
def wsX3_keep : List Cond := .code yX3_keep cX3_keep 7 none :: ([.fieldLink RX3 11 "ProRataMarket$Ledger" "trades" "[[I", .fieldLink RX3 28 "ProRataMarket$Ledger" "next" "I", .fieldLink RX3 24 "ProRataMarket$Ledger" "kept" "I", .methodLink RX3 37 Lib.Math.min.name, .static Lib.Math.min.name, .initialized "java/lang/Math", .code Lib.Math.min.name Lib.Math.min.code 2 (some .int), .fieldLink RX3 31 "ProRataMarket$Ledger" "last" "I"] ++ wsX30)
def wsX3_enter : List Cond := .code yX3_enter cX3_enter 6 none :: ([.fieldLink RX3 16 "ProRataMarket$Ledger" "position" "[I", .fieldLink RX3 20 "ProRataMarket$Ledger" "money" "[J"] ++ wsX30)
def wsX2_tradeRows_r1 : List Cond := [Cond.fieldLink RX2 28 "ProRataMarket$Floor" "sharing" "LProRataMarket$Sharing;", Cond.fieldLink RX2 186 "ProRataMarket$Sharing" "rows" "I", Cond.fieldLink RX2 188 "ProRataMarket$Sharing" "owner" "[LProRataMarket$Order;", Cond.fieldLink RX2 88 "ProRataMarket$Order" "size" "I", Cond.fieldLink RX2 12 "ProRataMarket$Floor" "book" "LProRataMarket$Book;", Cond.fieldLink RX2 21 "ProRataMarket$Floor" "ledger" "LProRataMarket$Ledger;", Cond.fieldLink RX2 166 "ProRataMarket$Order" "number" "I", Cond.fieldLink RX2 137 "ProRataMarket$Order" "trader" "I", Cond.fieldLink RX2 94 "ProRataMarket$Order" "side" "I", Cond.methodLink RX2 191 yX0_useGrant, Cond.instanceMethod yX0_useGrant, Cond.selects RX0 yX0_useGrant yX0_useGrant, Cond.initialized RX0, Cond.code yX0_useGrant cX0_useGrant 3 none, Cond.fieldLink RX0 21 "ProRataMarket$Book" "topGrant" "[I", Cond.fieldLink RX0 46 "ProRataMarket$Order" "side" "I", Cond.fieldLink RX0 17 "ProRataMarket$Book" "topNumber" "[I", Cond.methodLink RX2 194 yX3_keep, Cond.instanceMethod yX3_keep, Cond.selects RX3 yX3_keep yX3_keep, Cond.initialized RX3, Cond.code yX3_keep cX3_keep 7 none, Cond.fieldLink RX3 11 "ProRataMarket$Ledger" "trades" "[[I", Cond.fieldLink RX3 28 "ProRataMarket$Ledger" "next" "I"]
def wsX2_tradeRows_r2 : List Cond := [Cond.fieldLink RX3 24 "ProRataMarket$Ledger" "kept" "I", Cond.methodLink RX3 37 Lib.Math.min.name, Cond.static Lib.Math.min.name, Cond.initialized "java/lang/Math", Cond.code Lib.Math.min.name Lib.Math.min.code 2 (some .int), Cond.fieldLink RX3 31 "ProRataMarket$Ledger" "last" "I", Cond.methodLink RX2 179 yX3_enter, Cond.instanceMethod yX3_enter, Cond.selects RX3 yX3_enter yX3_enter, Cond.code yX3_enter cX3_enter 6 none, Cond.fieldLink RX3 16 "ProRataMarket$Ledger" "position" "[I", Cond.fieldLink RX3 20 "ProRataMarket$Ledger" "money" "[J"]
def wsX2_tradeRows : List Cond := .code yX2_tradeRows cX2_tradeRows 7 none :: ((wsX2_tradeRows_r1 ++ wsX2_tradeRows_r2) ++ wsX20 ++ wsX50 ++ wsX40 ++ wsX00 ++ wsX30)
def wsX2_takeAt_r1 : List Cond := [Cond.fieldLink RX2 28 "ProRataMarket$Floor" "sharing" "LProRataMarket$Sharing;", Cond.fieldLink RX2 12 "ProRataMarket$Floor" "book" "LProRataMarket$Book;", Cond.fieldLink RX2 42 "ProRataMarket$Floor" "coming" "LProRataMarket$Order;", Cond.fieldLink RX2 88 "ProRataMarket$Order" "size" "I", Cond.fieldLink RX2 156 "ProRataMarket$Sharing" "all" "I", Cond.methodLink RX2 146 Lib.Math.min.name, Cond.static Lib.Math.min.name, Cond.initialized "java/lang/Math", Cond.code Lib.Math.min.name Lib.Math.min.code 2 (some .int), Cond.fieldLink RX2 50 "ProRataMarket$Floor" "least" "I", Cond.fieldLink RX2 162 "ProRataMarket$Sharing" "granted" "[I", Cond.fieldLink RX2 166 "ProRataMarket$Order" "number" "I", Cond.fieldLink RX2 173 "ProRataMarket$Sharing" "shared" "[I", Cond.fieldLink RX2 176 "ProRataMarket$Sharing" "over" "[I", Cond.fieldLink RX2 21 "ProRataMarket$Floor" "ledger" "LProRataMarket$Ledger;", Cond.fieldLink RX2 137 "ProRataMarket$Order" "trader" "I", Cond.fieldLink RX2 94 "ProRataMarket$Order" "side" "I", Cond.fieldLink RX2 183 "ProRataMarket$Ledger" "lots" "I", Cond.methodLink RX2 152 yX5_load, Cond.instanceMethod yX5_load, Cond.selects RX5 yX5_load yX5_load, Cond.initialized RX5, Cond.code yX5_load cX5_load 6 none, Cond.fieldLink RX5 33 "ProRataMarket$Sharing" "rows" "I"]
def wsX2_takeAt_r2 : List Cond := [Cond.fieldLink RX5 37 "ProRataMarket$Sharing" "all" "I", Cond.fieldLink RX5 40 "ProRataMarket$Book" "resting" "I", Cond.fieldLink RX5 49 "ProRataMarket$Book" "rows" "[LProRataMarket$Order;", Cond.fieldLink RX5 51 "ProRataMarket$Order" "size" "I", Cond.methodLink RX5 45 yX0_isAt, Cond.instanceMethod yX0_isAt, Cond.selects RX0 yX0_isAt yX0_isAt, Cond.initialized RX0, Cond.code yX0_isAt cX0_isAt 4 (some .boolean), Cond.fieldLink RX0 11 "ProRataMarket$Book" "rows" "[LProRataMarket$Order;", Cond.fieldLink RX0 46 "ProRataMarket$Order" "side" "I", Cond.fieldLink RX0 54 "ProRataMarket$Order" "price" "I", Cond.methodLink RX5 53 yX0_grantOf, Cond.instanceMethod yX0_grantOf, Cond.selects RX0 yX0_grantOf yX0_grantOf, Cond.code yX0_grantOf cX0_grantOf 2 (some .int), Cond.fieldLink RX0 17 "ProRataMarket$Book" "topNumber" "[I", Cond.fieldLink RX0 33 "ProRataMarket$Order" "number" "I", Cond.fieldLink RX0 21 "ProRataMarket$Book" "topGrant" "[I", Cond.methodLink RX5 57 yX5_put, Cond.instanceMethod yX5_put, Cond.selects RX5 yX5_put yX5_put, Cond.code yX5_put cX5_put 4 none, Cond.fieldLink RX5 13 "ProRataMarket$Sharing" "owner" "[LProRataMarket$Order;"]
def wsX2_takeAt_r3 : List Cond := [Cond.fieldLink RX5 17 "ProRataMarket$Sharing" "size" "[I", Cond.fieldLink RX5 21 "ProRataMarket$Sharing" "grant" "[I", Cond.methodLink RX2 159 yX5_deal, Cond.instanceMethod yX5_deal, Cond.selects RX5 yX5_deal yX5_deal, Cond.code yX5_deal cX5_deal 7 none, Cond.fieldLink RX5 24 "ProRataMarket$Sharing" "granted" "[I", Cond.methodLink RX5 71 Lib.Math.min.name, Cond.fieldLink RX5 27 "ProRataMarket$Sharing" "shared" "[I", Cond.fieldLink RX5 30 "ProRataMarket$Sharing" "over" "[I", Cond.methodLink RX5 77 yX5_portion, Cond.static yX5_portion, Cond.code yX5_portion cX5_portion 5 (some .int), Cond.methodLink RX2 169 yX2_tradeRows, Cond.instanceMethod yX2_tradeRows, Cond.selects RX2 yX2_tradeRows yX2_tradeRows, Cond.initialized RX2, Cond.code yX2_tradeRows cX2_tradeRows 7 none, Cond.fieldLink RX2 186 "ProRataMarket$Sharing" "rows" "I", Cond.fieldLink RX2 188 "ProRataMarket$Sharing" "owner" "[LProRataMarket$Order;", Cond.methodLink RX2 191 yX0_useGrant, Cond.instanceMethod yX0_useGrant, Cond.selects RX0 yX0_useGrant yX0_useGrant, Cond.code yX0_useGrant cX0_useGrant 3 none]
def wsX2_takeAt_r4 : List Cond := [Cond.methodLink RX2 194 yX3_keep, Cond.instanceMethod yX3_keep, Cond.selects RX3 yX3_keep yX3_keep, Cond.initialized RX3, Cond.code yX3_keep cX3_keep 7 none, Cond.fieldLink RX3 11 "ProRataMarket$Ledger" "trades" "[[I", Cond.fieldLink RX3 28 "ProRataMarket$Ledger" "next" "I", Cond.fieldLink RX3 24 "ProRataMarket$Ledger" "kept" "I", Cond.methodLink RX3 37 Lib.Math.min.name, Cond.fieldLink RX3 31 "ProRataMarket$Ledger" "last" "I", Cond.methodLink RX2 179 yX3_enter, Cond.instanceMethod yX3_enter, Cond.selects RX3 yX3_enter yX3_enter, Cond.code yX3_enter cX3_enter 6 none, Cond.fieldLink RX3 16 "ProRataMarket$Ledger" "position" "[I", Cond.fieldLink RX3 20 "ProRataMarket$Ledger" "money" "[J", Cond.methodLink RX2 143 yX0_sweep, Cond.instanceMethod yX0_sweep, Cond.selects RX0 yX0_sweep yX0_sweep, Cond.code yX0_sweep cX0_sweep 4 none, Cond.fieldLink RX0 25 "ProRataMarket$Book" "resting" "I", Cond.fieldLink RX0 40 "ProRataMarket$Order" "size" "I", Cond.methodLink RX0 43 yX0_lapse, Cond.instanceMethod yX0_lapse]
def wsX2_takeAt_r5 : List Cond := [Cond.selects RX0 yX0_lapse yX0_lapse, Cond.code yX0_lapse cX0_lapse 2 none]
def wsX2_takeAt : List Cond := .code yX2_takeAt cX2_takeAt 4 none :: ((wsX2_takeAt_r1 ++ (wsX2_takeAt_r2 ++ (wsX2_takeAt_r3 ++ (wsX2_takeAt_r4 ++ wsX2_takeAt_r5)))) ++ wsX20 ++ wsX40 ++ wsX50 ++ wsX30 ++ wsX00)
def wsX2_meet_r1 : List Cond := [Cond.fieldLink RX2 42 "ProRataMarket$Floor" "coming" "LProRataMarket$Order;", Cond.fieldLink RX2 94 "ProRataMarket$Order" "side" "I", Cond.fieldLink RX2 88 "ProRataMarket$Order" "size" "I", Cond.fieldLink RX2 12 "ProRataMarket$Floor" "book" "LProRataMarket$Book;", Cond.fieldLink RX2 101 "ProRataMarket$Order" "price" "I", Cond.methodLink RX2 97 yX0_best, Cond.instanceMethod yX0_best, Cond.selects RX0 yX0_best yX0_best, Cond.initialized RX0, Cond.code yX0_best cX0_best 2 (some .int), Cond.constant RX0 49 (10000000), Cond.methodLink RX0 50 yX0_nextPrice, Cond.instanceMethod yX0_nextPrice, Cond.selects RX0 yX0_nextPrice yX0_nextPrice, Cond.code yX0_nextPrice cX0_nextPrice 6 (some .int), Cond.fieldLink RX0 25 "ProRataMarket$Book" "resting" "I", Cond.fieldLink RX0 11 "ProRataMarket$Book" "rows" "[LProRataMarket$Order;", Cond.fieldLink RX0 46 "ProRataMarket$Order" "side" "I", Cond.fieldLink RX0 54 "ProRataMarket$Order" "price" "I", Cond.static yX7_isBetter, Cond.initialized RX7, Cond.code yX7_isBetter cX7_isBetter 3 (some .boolean), Cond.methodLink RX2 119 yX2_preventSelf, Cond.instanceMethod yX2_preventSelf]
def wsX2_meet_r2 : List Cond := [Cond.selects RX2 yX2_preventSelf yX2_preventSelf, Cond.initialized RX2, Cond.code yX2_preventSelf cX2_preventSelf 7 none, Cond.fieldLink RX2 127 "ProRataMarket$Book" "resting" "I", Cond.fieldLink RX2 130 "ProRataMarket$Book" "rows" "[LProRataMarket$Order;", Cond.fieldLink RX2 137 "ProRataMarket$Order" "trader" "I", Cond.methodLink RX2 134 yX0_isAt, Cond.instanceMethod yX0_isAt, Cond.selects RX0 yX0_isAt yX0_isAt, Cond.code yX0_isAt cX0_isAt 4 (some .boolean), Cond.methodLink RX2 140 yX2_loseOwn, Cond.instanceMethod yX2_loseOwn, Cond.selects RX2 yX2_loseOwn yX2_loseOwn, Cond.code yX2_loseOwn cX2_loseOwn 4 none, Cond.fieldLink RX2 70 "ProRataMarket$Floor" "lotsTakenOff" "I", Cond.fieldLink RX2 67 "ProRataMarket$Floor" "ordersTakenOff" "I", Cond.methodLink RX2 146 Lib.Math.min.name, Cond.static Lib.Math.min.name, Cond.initialized "java/lang/Math", Cond.code Lib.Math.min.name Lib.Math.min.code 2 (some .int), Cond.fieldLink RX2 73 "ProRataMarket$Floor" "lotsMadeLess" "I", Cond.methodLink RX2 143 yX0_sweep, Cond.instanceMethod yX0_sweep, Cond.selects RX0 yX0_sweep yX0_sweep]
def wsX2_meet_r3 : List Cond := [Cond.code yX0_sweep cX0_sweep 4 none, Cond.fieldLink RX0 40 "ProRataMarket$Order" "size" "I", Cond.methodLink RX0 43 yX0_lapse, Cond.instanceMethod yX0_lapse, Cond.selects RX0 yX0_lapse yX0_lapse, Cond.code yX0_lapse cX0_lapse 2 none, Cond.fieldLink RX0 17 "ProRataMarket$Book" "topNumber" "[I", Cond.fieldLink RX0 33 "ProRataMarket$Order" "number" "I", Cond.fieldLink RX0 21 "ProRataMarket$Book" "topGrant" "[I", Cond.methodLink RX2 123 yX2_takeAt, Cond.instanceMethod yX2_takeAt, Cond.selects RX2 yX2_takeAt yX2_takeAt, Cond.code yX2_takeAt cX2_takeAt 4 none, Cond.fieldLink RX2 28 "ProRataMarket$Floor" "sharing" "LProRataMarket$Sharing;", Cond.fieldLink RX2 156 "ProRataMarket$Sharing" "all" "I", Cond.fieldLink RX2 50 "ProRataMarket$Floor" "least" "I", Cond.fieldLink RX2 162 "ProRataMarket$Sharing" "granted" "[I", Cond.fieldLink RX2 166 "ProRataMarket$Order" "number" "I", Cond.fieldLink RX2 173 "ProRataMarket$Sharing" "shared" "[I", Cond.fieldLink RX2 176 "ProRataMarket$Sharing" "over" "[I", Cond.fieldLink RX2 21 "ProRataMarket$Floor" "ledger" "LProRataMarket$Ledger;", Cond.fieldLink RX2 183 "ProRataMarket$Ledger" "lots" "I", Cond.methodLink RX2 152 yX5_load, Cond.instanceMethod yX5_load]
def wsX2_meet_r4 : List Cond := [Cond.selects RX5 yX5_load yX5_load, Cond.initialized RX5, Cond.code yX5_load cX5_load 6 none, Cond.fieldLink RX5 33 "ProRataMarket$Sharing" "rows" "I", Cond.fieldLink RX5 37 "ProRataMarket$Sharing" "all" "I", Cond.fieldLink RX5 40 "ProRataMarket$Book" "resting" "I", Cond.fieldLink RX5 49 "ProRataMarket$Book" "rows" "[LProRataMarket$Order;", Cond.fieldLink RX5 51 "ProRataMarket$Order" "size" "I", Cond.methodLink RX5 45 yX0_isAt, Cond.methodLink RX5 53 yX0_grantOf, Cond.instanceMethod yX0_grantOf, Cond.selects RX0 yX0_grantOf yX0_grantOf, Cond.code yX0_grantOf cX0_grantOf 2 (some .int), Cond.methodLink RX5 57 yX5_put, Cond.instanceMethod yX5_put, Cond.selects RX5 yX5_put yX5_put, Cond.code yX5_put cX5_put 4 none, Cond.fieldLink RX5 13 "ProRataMarket$Sharing" "owner" "[LProRataMarket$Order;", Cond.fieldLink RX5 17 "ProRataMarket$Sharing" "size" "[I", Cond.fieldLink RX5 21 "ProRataMarket$Sharing" "grant" "[I", Cond.methodLink RX2 159 yX5_deal, Cond.instanceMethod yX5_deal, Cond.selects RX5 yX5_deal yX5_deal, Cond.code yX5_deal cX5_deal 7 none]
def wsX2_meet_r5 : List Cond := [Cond.fieldLink RX5 24 "ProRataMarket$Sharing" "granted" "[I", Cond.methodLink RX5 71 Lib.Math.min.name, Cond.fieldLink RX5 27 "ProRataMarket$Sharing" "shared" "[I", Cond.fieldLink RX5 30 "ProRataMarket$Sharing" "over" "[I", Cond.methodLink RX5 77 yX5_portion, Cond.static yX5_portion, Cond.code yX5_portion cX5_portion 5 (some .int), Cond.methodLink RX2 169 yX2_tradeRows, Cond.instanceMethod yX2_tradeRows, Cond.selects RX2 yX2_tradeRows yX2_tradeRows, Cond.code yX2_tradeRows cX2_tradeRows 7 none, Cond.fieldLink RX2 186 "ProRataMarket$Sharing" "rows" "I", Cond.fieldLink RX2 188 "ProRataMarket$Sharing" "owner" "[LProRataMarket$Order;", Cond.methodLink RX2 191 yX0_useGrant, Cond.instanceMethod yX0_useGrant, Cond.selects RX0 yX0_useGrant yX0_useGrant, Cond.code yX0_useGrant cX0_useGrant 3 none, Cond.methodLink RX2 194 yX3_keep, Cond.instanceMethod yX3_keep, Cond.selects RX3 yX3_keep yX3_keep, Cond.initialized RX3, Cond.code yX3_keep cX3_keep 7 none, Cond.fieldLink RX3 11 "ProRataMarket$Ledger" "trades" "[[I", Cond.fieldLink RX3 28 "ProRataMarket$Ledger" "next" "I"]
def wsX2_meet_r6 : List Cond := [Cond.fieldLink RX3 24 "ProRataMarket$Ledger" "kept" "I", Cond.methodLink RX3 37 Lib.Math.min.name, Cond.fieldLink RX3 31 "ProRataMarket$Ledger" "last" "I", Cond.methodLink RX2 179 yX3_enter, Cond.instanceMethod yX3_enter, Cond.selects RX3 yX3_enter yX3_enter, Cond.code yX3_enter cX3_enter 6 none, Cond.fieldLink RX3 16 "ProRataMarket$Ledger" "position" "[I", Cond.fieldLink RX3 20 "ProRataMarket$Ledger" "money" "[J"]
def wsX2_meet : List Cond := .code yX2_meet cX2_meet 5 none :: ((wsX2_meet_r1 ++ (wsX2_meet_r2 ++ (wsX2_meet_r3 ++ (wsX2_meet_r4 ++ (wsX2_meet_r5 ++ wsX2_meet_r6))))) ++ wsX20 ++ wsX40 ++ wsX00 ++ wsX50 ++ wsX30)
def wsX2_restComing_r1 : List Cond := [Cond.fieldLink RX2 12 "ProRataMarket$Floor" "book" "LProRataMarket$Book;", Cond.fieldLink RX2 42 "ProRataMarket$Floor" "coming" "LProRataMarket$Order;", Cond.fieldLink RX2 94 "ProRataMarket$Order" "side" "I", Cond.fieldLink RX2 101 "ProRataMarket$Order" "price" "I", Cond.fieldLink RX2 60 "ProRataMarket$Floor" "calling" "Z", Cond.fieldLink RX2 88 "ProRataMarket$Order" "size" "I", Cond.fieldLink RX2 112 "ProRataMarket$Order" "first" "I", Cond.fieldLink RX2 46 "ProRataMarket$Floor" "grant" "I", Cond.methodLink RX2 97 yX0_best, Cond.instanceMethod yX0_best, Cond.selects RX0 yX0_best yX0_best, Cond.initialized RX0, Cond.code yX0_best cX0_best 2 (some .int), Cond.constant RX0 49 (10000000), Cond.methodLink RX0 50 yX0_nextPrice, Cond.instanceMethod yX0_nextPrice, Cond.selects RX0 yX0_nextPrice yX0_nextPrice, Cond.code yX0_nextPrice cX0_nextPrice 6 (some .int), Cond.fieldLink RX0 25 "ProRataMarket$Book" "resting" "I", Cond.fieldLink RX0 11 "ProRataMarket$Book" "rows" "[LProRataMarket$Order;", Cond.fieldLink RX0 46 "ProRataMarket$Order" "side" "I", Cond.fieldLink RX0 54 "ProRataMarket$Order" "price" "I", Cond.static yX7_isBetter, Cond.initialized RX7]
def wsX2_restComing_r2 : List Cond := [Cond.code yX7_isBetter cX7_isBetter 3 (some .boolean), Cond.methodLink RX2 108 yX0_add, Cond.instanceMethod yX0_add, Cond.selects RX0 yX0_add yX0_add, Cond.code yX0_add cX0_add 2 none, Cond.methodLink RX0 36 yX0_isFull, Cond.instanceMethod yX0_isFull, Cond.selects RX0 yX0_isFull yX0_isFull, Cond.code yX0_isFull cX0_isFull 1 (some .boolean), Cond.methodLink RX0 29 yX4_copyFrom, Cond.instanceMethod yX4_copyFrom, Cond.selects RX4 yX4_copyFrom yX4_copyFrom, Cond.initialized RX4, Cond.code yX4_copyFrom cX4_copyFrom 2 none, Cond.fieldLink RX4 7 "ProRataMarket$Order" "number" "I", Cond.fieldLink RX4 13 "ProRataMarket$Order" "trader" "I", Cond.fieldLink RX4 16 "ProRataMarket$Order" "side" "I", Cond.fieldLink RX4 19 "ProRataMarket$Order" "price" "I", Cond.fieldLink RX4 22 "ProRataMarket$Order" "size" "I", Cond.fieldLink RX4 25 "ProRataMarket$Order" "first" "I", Cond.methodLink RX4 28 yX4_become, Cond.instanceMethod yX4_become, Cond.selects RX4 yX4_become yX4_become, Cond.code yX4_become cX4_become 6 none]
def wsX2_restComing_r3 : List Cond := [Cond.methodLink RX2 115 yX0_makeTop, Cond.instanceMethod yX0_makeTop, Cond.selects RX0 yX0_makeTop yX0_makeTop, Cond.code yX0_makeTop cX0_makeTop 3 none, Cond.fieldLink RX0 17 "ProRataMarket$Book" "topNumber" "[I", Cond.fieldLink RX0 33 "ProRataMarket$Order" "number" "I", Cond.fieldLink RX0 21 "ProRataMarket$Book" "topGrant" "[I"]
def wsX2_restComing : List Cond := .code yX2_restComing cX2_restComing 3 none :: ((wsX2_restComing_r1 ++ (wsX2_restComing_r2 ++ wsX2_restComing_r3)) ++ wsX20 ++ wsX40 ++ wsX00)
def wsX2_comeIn_r1 : List Cond := [Cond.fieldLink RX2 60 "ProRataMarket$Floor" "calling" "Z", Cond.fieldLink RX2 12 "ProRataMarket$Floor" "book" "LProRataMarket$Book;", Cond.fieldLink RX2 64 "ProRataMarket$Floor" "latest" "I", Cond.fieldLink RX2 42 "ProRataMarket$Floor" "coming" "LProRataMarket$Order;", Cond.fieldLink RX2 88 "ProRataMarket$Order" "size" "I", Cond.methodLink RX2 76 yX0_isFull, Cond.instanceMethod yX0_isFull, Cond.selects RX0 yX0_isFull yX0_isFull, Cond.initialized RX0, Cond.code yX0_isFull cX0_isFull 1 (some .boolean), Cond.fieldLink RX0 25 "ProRataMarket$Book" "resting" "I", Cond.methodLink RX2 80 yX4_become, Cond.instanceMethod yX4_become, Cond.selects RX4 yX4_become yX4_become, Cond.initialized RX4, Cond.code yX4_become cX4_become 6 none, Cond.fieldLink RX4 7 "ProRataMarket$Order" "number" "I", Cond.fieldLink RX4 13 "ProRataMarket$Order" "trader" "I", Cond.fieldLink RX4 16 "ProRataMarket$Order" "side" "I", Cond.fieldLink RX4 19 "ProRataMarket$Order" "price" "I", Cond.fieldLink RX4 22 "ProRataMarket$Order" "size" "I", Cond.fieldLink RX4 25 "ProRataMarket$Order" "first" "I", Cond.methodLink RX2 84 yX2_meet, Cond.instanceMethod yX2_meet]
def wsX2_comeIn_r2 : List Cond := [Cond.selects RX2 yX2_meet yX2_meet, Cond.initialized RX2, Cond.code yX2_meet cX2_meet 5 none, Cond.fieldLink RX2 94 "ProRataMarket$Order" "side" "I", Cond.fieldLink RX2 101 "ProRataMarket$Order" "price" "I", Cond.methodLink RX2 97 yX0_best, Cond.instanceMethod yX0_best, Cond.selects RX0 yX0_best yX0_best, Cond.code yX0_best cX0_best 2 (some .int), Cond.constant RX0 49 (10000000), Cond.methodLink RX0 50 yX0_nextPrice, Cond.instanceMethod yX0_nextPrice, Cond.selects RX0 yX0_nextPrice yX0_nextPrice, Cond.code yX0_nextPrice cX0_nextPrice 6 (some .int), Cond.fieldLink RX0 11 "ProRataMarket$Book" "rows" "[LProRataMarket$Order;", Cond.fieldLink RX0 46 "ProRataMarket$Order" "side" "I", Cond.fieldLink RX0 54 "ProRataMarket$Order" "price" "I", Cond.static yX7_isBetter, Cond.initialized RX7, Cond.code yX7_isBetter cX7_isBetter 3 (some .boolean), Cond.methodLink RX2 119 yX2_preventSelf, Cond.instanceMethod yX2_preventSelf, Cond.selects RX2 yX2_preventSelf yX2_preventSelf, Cond.code yX2_preventSelf cX2_preventSelf 7 none]
def wsX2_comeIn_r3 : List Cond := [Cond.fieldLink RX2 127 "ProRataMarket$Book" "resting" "I", Cond.fieldLink RX2 130 "ProRataMarket$Book" "rows" "[LProRataMarket$Order;", Cond.fieldLink RX2 137 "ProRataMarket$Order" "trader" "I", Cond.methodLink RX2 134 yX0_isAt, Cond.instanceMethod yX0_isAt, Cond.selects RX0 yX0_isAt yX0_isAt, Cond.code yX0_isAt cX0_isAt 4 (some .boolean), Cond.methodLink RX2 140 yX2_loseOwn, Cond.instanceMethod yX2_loseOwn, Cond.selects RX2 yX2_loseOwn yX2_loseOwn, Cond.code yX2_loseOwn cX2_loseOwn 4 none, Cond.fieldLink RX2 70 "ProRataMarket$Floor" "lotsTakenOff" "I", Cond.fieldLink RX2 67 "ProRataMarket$Floor" "ordersTakenOff" "I", Cond.methodLink RX2 146 Lib.Math.min.name, Cond.static Lib.Math.min.name, Cond.initialized "java/lang/Math", Cond.code Lib.Math.min.name Lib.Math.min.code 2 (some .int), Cond.fieldLink RX2 73 "ProRataMarket$Floor" "lotsMadeLess" "I", Cond.methodLink RX2 143 yX0_sweep, Cond.instanceMethod yX0_sweep, Cond.selects RX0 yX0_sweep yX0_sweep, Cond.code yX0_sweep cX0_sweep 4 none, Cond.fieldLink RX0 40 "ProRataMarket$Order" "size" "I", Cond.methodLink RX0 43 yX0_lapse]
def wsX2_comeIn_r4 : List Cond := [Cond.instanceMethod yX0_lapse, Cond.selects RX0 yX0_lapse yX0_lapse, Cond.code yX0_lapse cX0_lapse 2 none, Cond.fieldLink RX0 17 "ProRataMarket$Book" "topNumber" "[I", Cond.fieldLink RX0 33 "ProRataMarket$Order" "number" "I", Cond.fieldLink RX0 21 "ProRataMarket$Book" "topGrant" "[I", Cond.methodLink RX2 123 yX2_takeAt, Cond.instanceMethod yX2_takeAt, Cond.selects RX2 yX2_takeAt yX2_takeAt, Cond.code yX2_takeAt cX2_takeAt 4 none, Cond.fieldLink RX2 28 "ProRataMarket$Floor" "sharing" "LProRataMarket$Sharing;", Cond.fieldLink RX2 156 "ProRataMarket$Sharing" "all" "I", Cond.fieldLink RX2 50 "ProRataMarket$Floor" "least" "I", Cond.fieldLink RX2 162 "ProRataMarket$Sharing" "granted" "[I", Cond.fieldLink RX2 166 "ProRataMarket$Order" "number" "I", Cond.fieldLink RX2 173 "ProRataMarket$Sharing" "shared" "[I", Cond.fieldLink RX2 176 "ProRataMarket$Sharing" "over" "[I", Cond.fieldLink RX2 21 "ProRataMarket$Floor" "ledger" "LProRataMarket$Ledger;", Cond.fieldLink RX2 183 "ProRataMarket$Ledger" "lots" "I", Cond.methodLink RX2 152 yX5_load, Cond.instanceMethod yX5_load, Cond.selects RX5 yX5_load yX5_load, Cond.initialized RX5, Cond.code yX5_load cX5_load 6 none]
def wsX2_comeIn_r5 : List Cond := [Cond.fieldLink RX5 33 "ProRataMarket$Sharing" "rows" "I", Cond.fieldLink RX5 37 "ProRataMarket$Sharing" "all" "I", Cond.fieldLink RX5 40 "ProRataMarket$Book" "resting" "I", Cond.fieldLink RX5 49 "ProRataMarket$Book" "rows" "[LProRataMarket$Order;", Cond.fieldLink RX5 51 "ProRataMarket$Order" "size" "I", Cond.methodLink RX5 45 yX0_isAt, Cond.methodLink RX5 53 yX0_grantOf, Cond.instanceMethod yX0_grantOf, Cond.selects RX0 yX0_grantOf yX0_grantOf, Cond.code yX0_grantOf cX0_grantOf 2 (some .int), Cond.methodLink RX5 57 yX5_put, Cond.instanceMethod yX5_put, Cond.selects RX5 yX5_put yX5_put, Cond.code yX5_put cX5_put 4 none, Cond.fieldLink RX5 13 "ProRataMarket$Sharing" "owner" "[LProRataMarket$Order;", Cond.fieldLink RX5 17 "ProRataMarket$Sharing" "size" "[I", Cond.fieldLink RX5 21 "ProRataMarket$Sharing" "grant" "[I", Cond.methodLink RX2 159 yX5_deal, Cond.instanceMethod yX5_deal, Cond.selects RX5 yX5_deal yX5_deal, Cond.code yX5_deal cX5_deal 7 none, Cond.fieldLink RX5 24 "ProRataMarket$Sharing" "granted" "[I", Cond.methodLink RX5 71 Lib.Math.min.name, Cond.fieldLink RX5 27 "ProRataMarket$Sharing" "shared" "[I"]
def wsX2_comeIn_r6 : List Cond := [Cond.fieldLink RX5 30 "ProRataMarket$Sharing" "over" "[I", Cond.methodLink RX5 77 yX5_portion, Cond.static yX5_portion, Cond.code yX5_portion cX5_portion 5 (some .int), Cond.methodLink RX2 169 yX2_tradeRows, Cond.instanceMethod yX2_tradeRows, Cond.selects RX2 yX2_tradeRows yX2_tradeRows, Cond.code yX2_tradeRows cX2_tradeRows 7 none, Cond.fieldLink RX2 186 "ProRataMarket$Sharing" "rows" "I", Cond.fieldLink RX2 188 "ProRataMarket$Sharing" "owner" "[LProRataMarket$Order;", Cond.methodLink RX2 191 yX0_useGrant, Cond.instanceMethod yX0_useGrant, Cond.selects RX0 yX0_useGrant yX0_useGrant, Cond.code yX0_useGrant cX0_useGrant 3 none, Cond.methodLink RX2 194 yX3_keep, Cond.instanceMethod yX3_keep, Cond.selects RX3 yX3_keep yX3_keep, Cond.initialized RX3, Cond.code yX3_keep cX3_keep 7 none, Cond.fieldLink RX3 11 "ProRataMarket$Ledger" "trades" "[[I", Cond.fieldLink RX3 28 "ProRataMarket$Ledger" "next" "I", Cond.fieldLink RX3 24 "ProRataMarket$Ledger" "kept" "I", Cond.methodLink RX3 37 Lib.Math.min.name, Cond.fieldLink RX3 31 "ProRataMarket$Ledger" "last" "I"]
def wsX2_comeIn_r7 : List Cond := [Cond.methodLink RX2 179 yX3_enter, Cond.instanceMethod yX3_enter, Cond.selects RX3 yX3_enter yX3_enter, Cond.code yX3_enter cX3_enter 6 none, Cond.fieldLink RX3 16 "ProRataMarket$Ledger" "position" "[I", Cond.fieldLink RX3 20 "ProRataMarket$Ledger" "money" "[J", Cond.methodLink RX2 91 yX2_restComing, Cond.instanceMethod yX2_restComing, Cond.selects RX2 yX2_restComing yX2_restComing, Cond.code yX2_restComing cX2_restComing 3 none, Cond.fieldLink RX2 112 "ProRataMarket$Order" "first" "I", Cond.fieldLink RX2 46 "ProRataMarket$Floor" "grant" "I", Cond.methodLink RX2 108 yX0_add, Cond.instanceMethod yX0_add, Cond.selects RX0 yX0_add yX0_add, Cond.code yX0_add cX0_add 2 none, Cond.methodLink RX0 36 yX0_isFull, Cond.methodLink RX0 29 yX4_copyFrom, Cond.instanceMethod yX4_copyFrom, Cond.selects RX4 yX4_copyFrom yX4_copyFrom, Cond.code yX4_copyFrom cX4_copyFrom 2 none, Cond.methodLink RX4 28 yX4_become, Cond.methodLink RX2 115 yX0_makeTop, Cond.instanceMethod yX0_makeTop]
def wsX2_comeIn_r8 : List Cond := [Cond.selects RX0 yX0_makeTop yX0_makeTop, Cond.code yX0_makeTop cX0_makeTop 3 none]
def wsX2_comeIn : List Cond := .code yX2_comeIn cX2_comeIn 6 (some .int) :: ((wsX2_comeIn_r1 ++ (wsX2_comeIn_r2 ++ (wsX2_comeIn_r3 ++ (wsX2_comeIn_r4 ++ (wsX2_comeIn_r5 ++ (wsX2_comeIn_r6 ++ (wsX2_comeIn_r7 ++ wsX2_comeIn_r8))))))) ++ wsX20 ++ wsX40 ++ wsX00 ++ wsX50 ++ wsX30)
def wsJ9_floorMod_7cf53 : List Cond := .code yJ9_floorMod_7cf53 cJ9_floorMod_7cf53 3 (some .int) :: ([])
def wsX3_told : List Cond := .code yX3_told cX3_told 3 (some .int) :: ([.fieldLink RX3 11 "ProRataMarket$Ledger" "trades" "[[I", .fieldLink RX3 28 "ProRataMarket$Ledger" "next" "I", .methodLink RX3 43 yJ9_floorMod_7cf53, .static yJ9_floorMod_7cf53, .initialized RJ9, .code yJ9_floorMod_7cf53 cJ9_floorMod_7cf53 3 (some .int)] ++ wsX30)
def wsX5_partAt : List Cond := .code yX5_partAt cX5_partAt 3 (some .int) :: ([.fieldLink RX5 24 "ProRataMarket$Sharing" "granted" "[I", .fieldLink RX5 27 "ProRataMarket$Sharing" "shared" "[I", .fieldLink RX5 30 "ProRataMarket$Sharing" "over" "[I"] ++ wsX50)
def wsX5_partOf : List Cond := .code yX5_partOf cX5_partOf 5 (some .int) :: ([.fieldLink RX5 33 "ProRataMarket$Sharing" "rows" "I", .fieldLink RX5 13 "ProRataMarket$Sharing" "owner" "[LProRataMarket$Order;", .methodLink RX5 81 yX5_partAt, .instanceMethod yX5_partAt, .selects RX5 yX5_partAt yX5_partAt, .initialized RX5, .code yX5_partAt cX5_partAt 3 (some .int), .fieldLink RX5 24 "ProRataMarket$Sharing" "granted" "[I", .fieldLink RX5 27 "ProRataMarket$Sharing" "shared" "[I", .fieldLink RX5 30 "ProRataMarket$Sharing" "over" "[I"] ++ wsX50)
def wsX6_init : List Cond := .code yX6_init cX6_init 1 none :: ([.methodLink RX6 3 objectInit, .instanceMethod objectInit, .code objectInit ⟨#[0xb1]⟩ 1 none, .arrayClass .int, .fieldLink RX6 9 "ProRataMarket$Tape" "bytes" "[I", .fieldLink RX6 15 "ProRataMarket$Tape" "number" "[I"] ++ wsX60)
def wsX7_init_r1 : List Cond := [Cond.methodLink RX7 1 objectInit, Cond.instanceMethod objectInit, Cond.code objectInit ⟨#[0xb1]⟩ 1 none, Cond.classLink RX7 7 RX2, Cond.instantiable RX2 12, Cond.initialized RX2, Cond.fieldLink RX7 10 "ProRataMarket" "floor" "LProRataMarket$Floor;", Cond.fieldLink RX7 16 "ProRataMarket" "trial" "LProRataMarket$Floor;", Cond.classLink RX7 19 RX6, Cond.instantiable RX6 12, Cond.initialized RX6, Cond.fieldLink RX7 22 "ProRataMarket" "tape" "LProRataMarket$Tape;", Cond.instanceMethod yX2_init, Cond.code yX2_init cX2_init 1 none, Cond.methodLink RX2 3 objectInit, Cond.classLink RX2 9 RX0, Cond.instantiable RX0 4, Cond.initialized RX0, Cond.fieldLink RX2 12 "ProRataMarket$Floor" "book" "LProRataMarket$Book;", Cond.classLink RX2 18 RX3, Cond.instantiable RX3 7, Cond.initialized RX3, Cond.fieldLink RX2 21 "ProRataMarket$Floor" "ledger" "LProRataMarket$Ledger;", Cond.classLink RX2 25 RX5]
def wsX7_init_r2 : List Cond := [Cond.instantiable RX5 8, Cond.initialized RX5, Cond.fieldLink RX2 28 "ProRataMarket$Floor" "sharing" "LProRataMarket$Sharing;", Cond.classLink RX2 32 RX1, Cond.instantiable RX1 3, Cond.initialized RX1, Cond.fieldLink RX2 35 "ProRataMarket$Floor" "clearing" "LProRataMarket$Clearing;", Cond.classLink RX2 39 RX4, Cond.instantiable RX4 6, Cond.initialized RX4, Cond.fieldLink RX2 42 "ProRataMarket$Floor" "coming" "LProRataMarket$Order;", Cond.fieldLink RX2 46 "ProRataMarket$Floor" "grant" "I", Cond.fieldLink RX2 50 "ProRataMarket$Floor" "least" "I", Cond.methodLink RX2 11 yX0_init, Cond.instanceMethod yX0_init, Cond.code yX0_init cX0_init 2 none, Cond.methodLink RX0 3 objectInit, Cond.classLink RX0 9 RX4, Cond.fieldLink RX0 11 "ProRataMarket$Book" "rows" "[LProRataMarket$Order;", Cond.arrayClass .int, Cond.fieldLink RX0 17 "ProRataMarket$Book" "topNumber" "[I", Cond.fieldLink RX0 21 "ProRataMarket$Book" "topGrant" "[I", Cond.instanceMethod yX4_init, Cond.code yX4_init cX4_init 1 none]
def wsX7_init_r3 : List Cond := [Cond.methodLink RX4 1 objectInit, Cond.instanceMethod yX3_init, Cond.code yX3_init cX3_init 1 none, Cond.methodLink RX3 3 objectInit, Cond.classLink RX3 9 "[[I", Cond.fieldLink RX3 11 "ProRataMarket$Ledger" "trades" "[[I", Cond.fieldLink RX3 16 "ProRataMarket$Ledger" "position" "[I", Cond.arrayClass .long, Cond.fieldLink RX3 20 "ProRataMarket$Ledger" "money" "[J", Cond.instanceMethod yX5_init, Cond.code yX5_init cX5_init 1 none, Cond.methodLink RX5 3 objectInit, Cond.classLink RX5 11 RX4, Cond.fieldLink RX5 13 "ProRataMarket$Sharing" "owner" "[LProRataMarket$Order;", Cond.fieldLink RX5 17 "ProRataMarket$Sharing" "size" "[I", Cond.fieldLink RX5 21 "ProRataMarket$Sharing" "grant" "[I", Cond.fieldLink RX5 24 "ProRataMarket$Sharing" "granted" "[I", Cond.fieldLink RX5 27 "ProRataMarket$Sharing" "shared" "[I", Cond.fieldLink RX5 30 "ProRataMarket$Sharing" "over" "[I", Cond.instanceMethod yX1_init, Cond.code yX1_init cX1_init 1 none, Cond.methodLink RX1 3 objectInit, Cond.instanceMethod yX6_init, Cond.code yX6_init cX6_init 1 none]
def wsX7_init_r4 : List Cond := [Cond.methodLink RX6 3 objectInit, Cond.fieldLink RX6 9 "ProRataMarket$Tape" "bytes" "[I", Cond.fieldLink RX6 15 "ProRataMarket$Tape" "number" "[I"]
def wsX7_init : List Cond := .code yX7_init cX7_init 1 none :: ((wsX7_init_r1 ++ (wsX7_init_r2 ++ (wsX7_init_r3 ++ wsX7_init_r4))) ++ wsX20 ++ wsX70 ++ wsX60 ++ wsX00 ++ wsX30 ++ wsX50 ++ wsX10 ++ wsX40)
def wsX7_isTrader : List Cond := .code yX7_isTrader cX7_isTrader 1 (some .boolean) :: ([])
def wsX7_isSide : List Cond := .code yX7_isSide cX7_isSide 1 (some .boolean) :: ([])
def wsX7_isForm : List Cond := .code yX7_isForm cX7_isForm 5 (some .boolean) :: ([.constant RX7 102 (9999999), .methodLink RX7 95 yX7_isTrader, .static yX7_isTrader, .initialized RX7, .code yX7_isTrader cX7_isTrader 1 (some .boolean), .methodLink RX7 99 yX7_isSide, .static yX7_isSide, .code yX7_isSide cX7_isSide 1 (some .boolean)])
def wsX7_isWorthInt : List Cond := .code yX7_isWorthInt cX7_isWorthInt 2 (some .boolean) :: ([.constantLong RX7 103 (2147483647)])
def wsX7_order_r1 : List Cond := [Cond.fieldLink RX7 10 "ProRataMarket" "floor" "LProRataMarket$Floor;", Cond.methodLink RX7 87 yX7_isForm, Cond.static yX7_isForm, Cond.initialized RX7, Cond.code yX7_isForm cX7_isForm 5 (some .boolean), Cond.constant RX7 102 (9999999), Cond.methodLink RX7 95 yX7_isTrader, Cond.static yX7_isTrader, Cond.code yX7_isTrader cX7_isTrader 1 (some .boolean), Cond.methodLink RX7 99 yX7_isSide, Cond.static yX7_isSide, Cond.code yX7_isSide cX7_isSide 1 (some .boolean), Cond.methodLink RX7 91 yX7_isWorthInt, Cond.static yX7_isWorthInt, Cond.code yX7_isWorthInt cX7_isWorthInt 2 (some .boolean), Cond.constantLong RX7 103 (2147483647), Cond.methodLink RX7 62 yX2_comeIn, Cond.instanceMethod yX2_comeIn, Cond.selects RX2 yX2_comeIn yX2_comeIn, Cond.initialized RX2, Cond.code yX2_comeIn cX2_comeIn 6 (some .int), Cond.fieldLink RX2 60 "ProRataMarket$Floor" "calling" "Z", Cond.fieldLink RX2 12 "ProRataMarket$Floor" "book" "LProRataMarket$Book;", Cond.fieldLink RX2 64 "ProRataMarket$Floor" "latest" "I"]
def wsX7_order_r2 : List Cond := [Cond.fieldLink RX2 42 "ProRataMarket$Floor" "coming" "LProRataMarket$Order;", Cond.fieldLink RX2 88 "ProRataMarket$Order" "size" "I", Cond.methodLink RX2 76 yX0_isFull, Cond.instanceMethod yX0_isFull, Cond.selects RX0 yX0_isFull yX0_isFull, Cond.initialized RX0, Cond.code yX0_isFull cX0_isFull 1 (some .boolean), Cond.fieldLink RX0 25 "ProRataMarket$Book" "resting" "I", Cond.methodLink RX2 80 yX4_become, Cond.instanceMethod yX4_become, Cond.selects RX4 yX4_become yX4_become, Cond.initialized RX4, Cond.code yX4_become cX4_become 6 none, Cond.fieldLink RX4 7 "ProRataMarket$Order" "number" "I", Cond.fieldLink RX4 13 "ProRataMarket$Order" "trader" "I", Cond.fieldLink RX4 16 "ProRataMarket$Order" "side" "I", Cond.fieldLink RX4 19 "ProRataMarket$Order" "price" "I", Cond.fieldLink RX4 22 "ProRataMarket$Order" "size" "I", Cond.fieldLink RX4 25 "ProRataMarket$Order" "first" "I", Cond.methodLink RX2 84 yX2_meet, Cond.instanceMethod yX2_meet, Cond.selects RX2 yX2_meet yX2_meet, Cond.code yX2_meet cX2_meet 5 none, Cond.fieldLink RX2 94 "ProRataMarket$Order" "side" "I"]
def wsX7_order_r3 : List Cond := [Cond.fieldLink RX2 101 "ProRataMarket$Order" "price" "I", Cond.methodLink RX2 97 yX0_best, Cond.instanceMethod yX0_best, Cond.selects RX0 yX0_best yX0_best, Cond.code yX0_best cX0_best 2 (some .int), Cond.constant RX0 49 (10000000), Cond.methodLink RX0 50 yX0_nextPrice, Cond.instanceMethod yX0_nextPrice, Cond.selects RX0 yX0_nextPrice yX0_nextPrice, Cond.code yX0_nextPrice cX0_nextPrice 6 (some .int), Cond.fieldLink RX0 11 "ProRataMarket$Book" "rows" "[LProRataMarket$Order;", Cond.fieldLink RX0 46 "ProRataMarket$Order" "side" "I", Cond.fieldLink RX0 54 "ProRataMarket$Order" "price" "I", Cond.static yX7_isBetter, Cond.code yX7_isBetter cX7_isBetter 3 (some .boolean), Cond.methodLink RX2 119 yX2_preventSelf, Cond.instanceMethod yX2_preventSelf, Cond.selects RX2 yX2_preventSelf yX2_preventSelf, Cond.code yX2_preventSelf cX2_preventSelf 7 none, Cond.fieldLink RX2 127 "ProRataMarket$Book" "resting" "I", Cond.fieldLink RX2 130 "ProRataMarket$Book" "rows" "[LProRataMarket$Order;", Cond.fieldLink RX2 137 "ProRataMarket$Order" "trader" "I", Cond.methodLink RX2 134 yX0_isAt, Cond.instanceMethod yX0_isAt]
def wsX7_order_r4 : List Cond := [Cond.selects RX0 yX0_isAt yX0_isAt, Cond.code yX0_isAt cX0_isAt 4 (some .boolean), Cond.methodLink RX2 140 yX2_loseOwn, Cond.instanceMethod yX2_loseOwn, Cond.selects RX2 yX2_loseOwn yX2_loseOwn, Cond.code yX2_loseOwn cX2_loseOwn 4 none, Cond.fieldLink RX2 70 "ProRataMarket$Floor" "lotsTakenOff" "I", Cond.fieldLink RX2 67 "ProRataMarket$Floor" "ordersTakenOff" "I", Cond.methodLink RX2 146 Lib.Math.min.name, Cond.static Lib.Math.min.name, Cond.initialized "java/lang/Math", Cond.code Lib.Math.min.name Lib.Math.min.code 2 (some .int), Cond.fieldLink RX2 73 "ProRataMarket$Floor" "lotsMadeLess" "I", Cond.methodLink RX2 143 yX0_sweep, Cond.instanceMethod yX0_sweep, Cond.selects RX0 yX0_sweep yX0_sweep, Cond.code yX0_sweep cX0_sweep 4 none, Cond.fieldLink RX0 40 "ProRataMarket$Order" "size" "I", Cond.methodLink RX0 43 yX0_lapse, Cond.instanceMethod yX0_lapse, Cond.selects RX0 yX0_lapse yX0_lapse, Cond.code yX0_lapse cX0_lapse 2 none, Cond.fieldLink RX0 17 "ProRataMarket$Book" "topNumber" "[I", Cond.fieldLink RX0 33 "ProRataMarket$Order" "number" "I"]
def wsX7_order_r5 : List Cond := [Cond.fieldLink RX0 21 "ProRataMarket$Book" "topGrant" "[I", Cond.methodLink RX2 123 yX2_takeAt, Cond.instanceMethod yX2_takeAt, Cond.selects RX2 yX2_takeAt yX2_takeAt, Cond.code yX2_takeAt cX2_takeAt 4 none, Cond.fieldLink RX2 28 "ProRataMarket$Floor" "sharing" "LProRataMarket$Sharing;", Cond.fieldLink RX2 156 "ProRataMarket$Sharing" "all" "I", Cond.fieldLink RX2 50 "ProRataMarket$Floor" "least" "I", Cond.fieldLink RX2 162 "ProRataMarket$Sharing" "granted" "[I", Cond.fieldLink RX2 166 "ProRataMarket$Order" "number" "I", Cond.fieldLink RX2 173 "ProRataMarket$Sharing" "shared" "[I", Cond.fieldLink RX2 176 "ProRataMarket$Sharing" "over" "[I", Cond.fieldLink RX2 21 "ProRataMarket$Floor" "ledger" "LProRataMarket$Ledger;", Cond.fieldLink RX2 183 "ProRataMarket$Ledger" "lots" "I", Cond.methodLink RX2 152 yX5_load, Cond.instanceMethod yX5_load, Cond.selects RX5 yX5_load yX5_load, Cond.initialized RX5, Cond.code yX5_load cX5_load 6 none, Cond.fieldLink RX5 33 "ProRataMarket$Sharing" "rows" "I", Cond.fieldLink RX5 37 "ProRataMarket$Sharing" "all" "I", Cond.fieldLink RX5 40 "ProRataMarket$Book" "resting" "I", Cond.fieldLink RX5 49 "ProRataMarket$Book" "rows" "[LProRataMarket$Order;", Cond.fieldLink RX5 51 "ProRataMarket$Order" "size" "I"]
def wsX7_order_r6 : List Cond := [Cond.methodLink RX5 45 yX0_isAt, Cond.methodLink RX5 53 yX0_grantOf, Cond.instanceMethod yX0_grantOf, Cond.selects RX0 yX0_grantOf yX0_grantOf, Cond.code yX0_grantOf cX0_grantOf 2 (some .int), Cond.methodLink RX5 57 yX5_put, Cond.instanceMethod yX5_put, Cond.selects RX5 yX5_put yX5_put, Cond.code yX5_put cX5_put 4 none, Cond.fieldLink RX5 13 "ProRataMarket$Sharing" "owner" "[LProRataMarket$Order;", Cond.fieldLink RX5 17 "ProRataMarket$Sharing" "size" "[I", Cond.fieldLink RX5 21 "ProRataMarket$Sharing" "grant" "[I", Cond.methodLink RX2 159 yX5_deal, Cond.instanceMethod yX5_deal, Cond.selects RX5 yX5_deal yX5_deal, Cond.code yX5_deal cX5_deal 7 none, Cond.fieldLink RX5 24 "ProRataMarket$Sharing" "granted" "[I", Cond.methodLink RX5 71 Lib.Math.min.name, Cond.fieldLink RX5 27 "ProRataMarket$Sharing" "shared" "[I", Cond.fieldLink RX5 30 "ProRataMarket$Sharing" "over" "[I", Cond.methodLink RX5 77 yX5_portion, Cond.static yX5_portion, Cond.code yX5_portion cX5_portion 5 (some .int), Cond.methodLink RX2 169 yX2_tradeRows]
def wsX7_order_r7 : List Cond := [Cond.instanceMethod yX2_tradeRows, Cond.selects RX2 yX2_tradeRows yX2_tradeRows, Cond.code yX2_tradeRows cX2_tradeRows 7 none, Cond.fieldLink RX2 186 "ProRataMarket$Sharing" "rows" "I", Cond.fieldLink RX2 188 "ProRataMarket$Sharing" "owner" "[LProRataMarket$Order;", Cond.methodLink RX2 191 yX0_useGrant, Cond.instanceMethod yX0_useGrant, Cond.selects RX0 yX0_useGrant yX0_useGrant, Cond.code yX0_useGrant cX0_useGrant 3 none, Cond.methodLink RX2 194 yX3_keep, Cond.instanceMethod yX3_keep, Cond.selects RX3 yX3_keep yX3_keep, Cond.initialized RX3, Cond.code yX3_keep cX3_keep 7 none, Cond.fieldLink RX3 11 "ProRataMarket$Ledger" "trades" "[[I", Cond.fieldLink RX3 28 "ProRataMarket$Ledger" "next" "I", Cond.fieldLink RX3 24 "ProRataMarket$Ledger" "kept" "I", Cond.methodLink RX3 37 Lib.Math.min.name, Cond.fieldLink RX3 31 "ProRataMarket$Ledger" "last" "I", Cond.methodLink RX2 179 yX3_enter, Cond.instanceMethod yX3_enter, Cond.selects RX3 yX3_enter yX3_enter, Cond.code yX3_enter cX3_enter 6 none, Cond.fieldLink RX3 16 "ProRataMarket$Ledger" "position" "[I"]
def wsX7_order_r8 : List Cond := [Cond.fieldLink RX3 20 "ProRataMarket$Ledger" "money" "[J", Cond.methodLink RX2 91 yX2_restComing, Cond.instanceMethod yX2_restComing, Cond.selects RX2 yX2_restComing yX2_restComing, Cond.code yX2_restComing cX2_restComing 3 none, Cond.fieldLink RX2 112 "ProRataMarket$Order" "first" "I", Cond.fieldLink RX2 46 "ProRataMarket$Floor" "grant" "I", Cond.methodLink RX2 108 yX0_add, Cond.instanceMethod yX0_add, Cond.selects RX0 yX0_add yX0_add, Cond.code yX0_add cX0_add 2 none, Cond.methodLink RX0 36 yX0_isFull, Cond.methodLink RX0 29 yX4_copyFrom, Cond.instanceMethod yX4_copyFrom, Cond.selects RX4 yX4_copyFrom yX4_copyFrom, Cond.code yX4_copyFrom cX4_copyFrom 2 none, Cond.methodLink RX4 28 yX4_become, Cond.methodLink RX2 115 yX0_makeTop, Cond.instanceMethod yX0_makeTop, Cond.selects RX0 yX0_makeTop yX0_makeTop, Cond.code yX0_makeTop cX0_makeTop 3 none]
def wsX7_order : List Cond := .code yX7_order cX7_order 6 (some .int) :: ((wsX7_order_r1 ++ (wsX7_order_r2 ++ (wsX7_order_r3 ++ (wsX7_order_r4 ++ (wsX7_order_r5 ++ (wsX7_order_r6 ++ (wsX7_order_r7 ++ wsX7_order_r8))))))) ++ wsX70 ++ wsX20 ++ wsX40 ++ wsX00 ++ wsX50 ++ wsX30)
def wsX7_grant : List Cond := .code yX7_grant cX7_grant 3 (some .int) :: ([.fieldLink RX7 10 "ProRataMarket" "floor" "LProRataMarket$Floor;", .fieldLink RX7 127 "ProRataMarket$Floor" "grant" "I"] ++ wsX70 ++ wsX20)
def wsX7_least : List Cond := .code yX7_least cX7_least 3 (some .int) :: ([.fieldLink RX7 10 "ProRataMarket" "floor" "LProRataMarket$Floor;", .fieldLink RX7 129 "ProRataMarket$Floor" "least" "I"] ++ wsX70 ++ wsX20)
def wsX7_of : List Cond := .code yX7_of cX7_of 4 (some .int) :: ([.classLink RX7 140 "java/util/NoSuchElementException", .initialized "java/util/NoSuchElementException", .fieldLink RX7 10 "ProRataMarket" "floor" "LProRataMarket$Floor;", .fieldLink RX7 105 "ProRataMarket$Floor" "book" "LProRataMarket$Book;", .fieldLink RX7 147 "ProRataMarket$Order" "trader" "I", .fieldLink RX7 150 "ProRataMarket$Order" "side" "I", .fieldLink RX7 153 "ProRataMarket$Order" "price" "I", .fieldLink RX7 115 "ProRataMarket$Order" "size" "I", .fieldLink RX7 156 "ProRataMarket$Order" "first" "I", .methodLink RX7 109 yX0_find, .instanceMethod yX0_find, .selects RX0 yX0_find yX0_find, .initialized RX0, .code yX0_find cX0_find 3 (some (.object "ProRataMarket$Order")), .fieldLink RX0 25 "ProRataMarket$Book" "resting" "I", .fieldLink RX0 11 "ProRataMarket$Book" "rows" "[LProRataMarket$Order;", .fieldLink RX0 33 "ProRataMarket$Order" "number" "I", .methodLink RX7 159 yX0_grantOf, .instanceMethod yX0_grantOf, .selects RX0 yX0_grantOf yX0_grantOf, .code yX0_grantOf cX0_grantOf 2 (some .int), .fieldLink RX0 17 "ProRataMarket$Book" "topNumber" "[I", .fieldLink RX0 46 "ProRataMarket$Order" "side" "I", .fieldLink RX0 21 "ProRataMarket$Book" "topGrant" "[I"] ++ wsX70 ++ wsX20 ++ wsX40 ++ wsX00 ++ (vx_atS RX7 144 "java/util/NoSuchElementException" ["java/lang/RuntimeException", "java/lang/Exception"]).filter goodWord)
def wsX7_top : List Cond := .code yX7_top cX7_top 2 (some .int) :: ([.fieldLink RX7 10 "ProRataMarket" "floor" "LProRataMarket$Floor;", .fieldLink RX7 105 "ProRataMarket$Floor" "book" "LProRataMarket$Book;", .fieldLink RX7 181 "ProRataMarket$Book" "topNumber" "[I", .methodLink RX7 99 yX7_isSide, .static yX7_isSide, .initialized RX7, .code yX7_isSide cX7_isSide 1 (some .boolean)] ++ wsX70 ++ wsX20 ++ wsX00)
def wsX7_share_r1 : List Cond := [Cond.fieldLink RX7 10 "ProRataMarket" "floor" "LProRataMarket$Floor;", Cond.fieldLink RX7 105 "ProRataMarket$Floor" "book" "LProRataMarket$Book;", Cond.fieldLink RX7 190 "ProRataMarket$Floor" "sharing" "LProRataMarket$Sharing;", Cond.fieldLink RX7 150 "ProRataMarket$Order" "side" "I", Cond.fieldLink RX7 153 "ProRataMarket$Order" "price" "I", Cond.fieldLink RX7 200 "ProRataMarket$Sharing" "all" "I", Cond.fieldLink RX7 129 "ProRataMarket$Floor" "least" "I", Cond.methodLink RX7 109 yX0_find, Cond.instanceMethod yX0_find, Cond.selects RX0 yX0_find yX0_find, Cond.initialized RX0, Cond.code yX0_find cX0_find 3 (some (.object "ProRataMarket$Order")), Cond.fieldLink RX0 25 "ProRataMarket$Book" "resting" "I", Cond.fieldLink RX0 11 "ProRataMarket$Book" "rows" "[LProRataMarket$Order;", Cond.fieldLink RX0 33 "ProRataMarket$Order" "number" "I", Cond.methodLink RX7 194 yX5_load, Cond.instanceMethod yX5_load, Cond.selects RX5 yX5_load yX5_load, Cond.initialized RX5, Cond.code yX5_load cX5_load 6 none, Cond.fieldLink RX5 33 "ProRataMarket$Sharing" "rows" "I", Cond.fieldLink RX5 37 "ProRataMarket$Sharing" "all" "I", Cond.fieldLink RX5 40 "ProRataMarket$Book" "resting" "I", Cond.fieldLink RX5 49 "ProRataMarket$Book" "rows" "[LProRataMarket$Order;"]
def wsX7_share_r2 : List Cond := [Cond.fieldLink RX5 51 "ProRataMarket$Order" "size" "I", Cond.methodLink RX5 45 yX0_isAt, Cond.instanceMethod yX0_isAt, Cond.selects RX0 yX0_isAt yX0_isAt, Cond.code yX0_isAt cX0_isAt 4 (some .boolean), Cond.fieldLink RX0 46 "ProRataMarket$Order" "side" "I", Cond.fieldLink RX0 54 "ProRataMarket$Order" "price" "I", Cond.methodLink RX5 53 yX0_grantOf, Cond.instanceMethod yX0_grantOf, Cond.selects RX0 yX0_grantOf yX0_grantOf, Cond.code yX0_grantOf cX0_grantOf 2 (some .int), Cond.fieldLink RX0 17 "ProRataMarket$Book" "topNumber" "[I", Cond.fieldLink RX0 21 "ProRataMarket$Book" "topGrant" "[I", Cond.methodLink RX5 57 yX5_put, Cond.instanceMethod yX5_put, Cond.selects RX5 yX5_put yX5_put, Cond.code yX5_put cX5_put 4 none, Cond.fieldLink RX5 13 "ProRataMarket$Sharing" "owner" "[LProRataMarket$Order;", Cond.fieldLink RX5 17 "ProRataMarket$Sharing" "size" "[I", Cond.fieldLink RX5 21 "ProRataMarket$Sharing" "grant" "[I", Cond.methodLink RX7 203 yX5_deal, Cond.instanceMethod yX5_deal, Cond.selects RX5 yX5_deal yX5_deal, Cond.code yX5_deal cX5_deal 7 none]
def wsX7_share_r3 : List Cond := [Cond.fieldLink RX5 24 "ProRataMarket$Sharing" "granted" "[I", Cond.methodLink RX5 71 Lib.Math.min.name, Cond.static Lib.Math.min.name, Cond.initialized "java/lang/Math", Cond.code Lib.Math.min.name Lib.Math.min.code 2 (some .int), Cond.fieldLink RX5 27 "ProRataMarket$Sharing" "shared" "[I", Cond.fieldLink RX5 30 "ProRataMarket$Sharing" "over" "[I", Cond.methodLink RX5 77 yX5_portion, Cond.static yX5_portion, Cond.code yX5_portion cX5_portion 5 (some .int), Cond.methodLink RX7 207 yX5_partOf, Cond.instanceMethod yX5_partOf, Cond.selects RX5 yX5_partOf yX5_partOf, Cond.code yX5_partOf cX5_partOf 5 (some .int), Cond.methodLink RX5 81 yX5_partAt, Cond.instanceMethod yX5_partAt, Cond.selects RX5 yX5_partAt yX5_partAt, Cond.code yX5_partAt cX5_partAt 3 (some .int)]
def wsX7_share : List Cond := .code yX7_share cX7_share 6 (some .int) :: ((wsX7_share_r1 ++ (wsX7_share_r2 ++ wsX7_share_r3)) ++ wsX70 ++ wsX20 ++ wsX40 ++ wsX50 ++ wsX00)
def wsX7_trade : List Cond := .code yX7_trade cX7_trade 3 (some .int) :: ([.fieldLink RX7 10 "ProRataMarket" "floor" "LProRataMarket$Floor;", .fieldLink RX7 224 "ProRataMarket$Floor" "ledger" "LProRataMarket$Ledger;", .fieldLink RX7 269 "ProRataMarket$Ledger" "kept" "I", .methodLink RX7 272 yX3_told, .instanceMethod yX3_told, .selects RX3 yX3_told yX3_told, .initialized RX3, .code yX3_told cX3_told 3 (some .int), .fieldLink RX3 11 "ProRataMarket$Ledger" "trades" "[[I", .fieldLink RX3 28 "ProRataMarket$Ledger" "next" "I", .methodLink RX3 43 yJ9_floorMod_7cf53, .static yJ9_floorMod_7cf53, .initialized RJ9, .code yJ9_floorMod_7cf53 cJ9_floorMod_7cf53 3 (some .int)] ++ wsX70 ++ wsX20 ++ wsX30)
def wsX7_position : List Cond := .code yX7_position cX7_position 2 (some .int) :: ([.classLink RX7 140 "java/util/NoSuchElementException", .initialized "java/util/NoSuchElementException", .fieldLink RX7 10 "ProRataMarket" "floor" "LProRataMarket$Floor;", .fieldLink RX7 224 "ProRataMarket$Floor" "ledger" "LProRataMarket$Ledger;", .fieldLink RX7 277 "ProRataMarket$Ledger" "position" "[I", .methodLink RX7 95 yX7_isTrader, .static yX7_isTrader, .initialized RX7, .code yX7_isTrader cX7_isTrader 1 (some .boolean)] ++ wsX70 ++ wsX20 ++ wsX30 ++ (vx_atS RX7 144 "java/util/NoSuchElementException" ["java/lang/RuntimeException", "java/lang/Exception"]).filter goodWord)
def wsX7_count : List Cond := .code yX7_count cX7_count 2 (some .int) :: ([.fieldLink RX7 10 "ProRataMarket" "floor" "LProRataMarket$Floor;", .fieldLink RX7 105 "ProRataMarket$Floor" "book" "LProRataMarket$Book;", .fieldLink RX7 280 "ProRataMarket$Book" "resting" "I", .fieldLink RX7 131 "ProRataMarket$Floor" "calling" "Z", .fieldLink RX7 224 "ProRataMarket$Floor" "ledger" "LProRataMarket$Ledger;", .fieldLink RX7 237 "ProRataMarket$Ledger" "last" "I", .fieldLink RX7 127 "ProRataMarket$Floor" "grant" "I", .fieldLink RX7 129 "ProRataMarket$Floor" "least" "I", .fieldLink RX7 283 "ProRataMarket$Floor" "latest" "I", .fieldLink RX7 22 "ProRataMarket" "tape" "LProRataMarket$Tape;", .fieldLink RX7 26 "ProRataMarket$Tape" "held" "I", .fieldLink RX7 269 "ProRataMarket$Ledger" "kept" "I", .fieldLink RX7 228 "ProRataMarket$Ledger" "lots" "I", .fieldLink RX7 286 "ProRataMarket$Floor" "ordersTakenOff" "I", .fieldLink RX7 243 "ProRataMarket$Floor" "lotsMadeLess" "I"] ++ wsX70 ++ wsX20 ++ wsX00 ++ wsX30 ++ wsX60)
def wsJ9_min_7cf53 : List Cond := .code yJ9_min_7cf53 cJ9_min_7cf53 2 (some .int) :: ([])
def wsL_cell : List Cond := .code yL_cell cL_cell 2 (some .int) :: ([.constant RL 7 (40503)])
def wsL_some : List Cond := .code yL_some cL_some 3 (some .int) :: ([.constant RL 14 (65535), .methodLink RL 8 yL_cell, .static yL_cell, .initialized RL, .code yL_cell cL_cell 2 (some .int), .constant RL 7 (40503)])
def wsL_size_r1 : List Cond := [Cond.classLink RL 64 "java/util/NoSuchElementException", Cond.methodLink RL 36 yX7_of, Cond.instanceMethod yX7_of, Cond.selects RX7 yX7_of yX7_of, Cond.initialized RX7, Cond.code yX7_of cX7_of 4 (some .int), Cond.classLink RX7 140 "java/util/NoSuchElementException", Cond.initialized "java/util/NoSuchElementException", Cond.fieldLink RX7 10 "ProRataMarket" "floor" "LProRataMarket$Floor;", Cond.fieldLink RX7 105 "ProRataMarket$Floor" "book" "LProRataMarket$Book;", Cond.fieldLink RX7 147 "ProRataMarket$Order" "trader" "I", Cond.fieldLink RX7 150 "ProRataMarket$Order" "side" "I", Cond.fieldLink RX7 153 "ProRataMarket$Order" "price" "I", Cond.fieldLink RX7 115 "ProRataMarket$Order" "size" "I", Cond.fieldLink RX7 156 "ProRataMarket$Order" "first" "I", Cond.methodLink RX7 109 yX0_find, Cond.instanceMethod yX0_find, Cond.selects RX0 yX0_find yX0_find, Cond.initialized RX0, Cond.code yX0_find cX0_find 3 (some (.object "ProRataMarket$Order")), Cond.fieldLink RX0 25 "ProRataMarket$Book" "resting" "I", Cond.fieldLink RX0 11 "ProRataMarket$Book" "rows" "[LProRataMarket$Order;", Cond.fieldLink RX0 33 "ProRataMarket$Order" "number" "I", Cond.methodLink RX7 159 yX0_grantOf]
def wsL_size_r2 : List Cond := [Cond.instanceMethod yX0_grantOf, Cond.selects RX0 yX0_grantOf yX0_grantOf, Cond.code yX0_grantOf cX0_grantOf 2 (some .int), Cond.fieldLink RX0 17 "ProRataMarket$Book" "topNumber" "[I", Cond.fieldLink RX0 46 "ProRataMarket$Order" "side" "I", Cond.fieldLink RX0 21 "ProRataMarket$Book" "topGrant" "[I"]
def wsL_size : List Cond := .codeWith yL_size cL_size 3 (some .int) [(0, 6, 7, 64)] :: ((wsL_size_r1 ++ wsL_size_r2) ++ wsX70 ++ wsX20 ++ wsX40 ++ wsX00 ++ (vx_atS RX7 144 "java/util/NoSuchElementException" ["java/lang/RuntimeException", "java/lang/Exception"]).filter goodWord)
def wsL_law0_r1 : List Cond := [Cond.classLink RL 15 RX7, Cond.instantiable RX7 3, Cond.initialized RX7, Cond.arrayClass .int, Cond.classLink RL 40 "[[I", Cond.methodLink RL 42 Lib.Math.min.name, Cond.static Lib.Math.min.name, Cond.initialized "java/lang/Math", Cond.code Lib.Math.min.name Lib.Math.min.code 2 (some .int), Cond.methodLink RL 17 yX7_init, Cond.instanceMethod yX7_init, Cond.code yX7_init cX7_init 1 none, Cond.methodLink RX7 1 objectInit, Cond.instanceMethod objectInit, Cond.code objectInit ⟨#[0xb1]⟩ 1 none, Cond.classLink RX7 7 RX2, Cond.instantiable RX2 12, Cond.initialized RX2, Cond.fieldLink RX7 10 "ProRataMarket" "floor" "LProRataMarket$Floor;", Cond.fieldLink RX7 16 "ProRataMarket" "trial" "LProRataMarket$Floor;", Cond.classLink RX7 19 RX6, Cond.instantiable RX6 12, Cond.initialized RX6, Cond.fieldLink RX7 22 "ProRataMarket" "tape" "LProRataMarket$Tape;"]
def wsL_law0_r2 : List Cond := [Cond.instanceMethod yX2_init, Cond.code yX2_init cX2_init 1 none, Cond.methodLink RX2 3 objectInit, Cond.classLink RX2 9 RX0, Cond.instantiable RX0 4, Cond.initialized RX0, Cond.fieldLink RX2 12 "ProRataMarket$Floor" "book" "LProRataMarket$Book;", Cond.classLink RX2 18 RX3, Cond.instantiable RX3 7, Cond.initialized RX3, Cond.fieldLink RX2 21 "ProRataMarket$Floor" "ledger" "LProRataMarket$Ledger;", Cond.classLink RX2 25 RX5, Cond.instantiable RX5 8, Cond.initialized RX5, Cond.fieldLink RX2 28 "ProRataMarket$Floor" "sharing" "LProRataMarket$Sharing;", Cond.classLink RX2 32 RX1, Cond.instantiable RX1 3, Cond.initialized RX1, Cond.fieldLink RX2 35 "ProRataMarket$Floor" "clearing" "LProRataMarket$Clearing;", Cond.classLink RX2 39 RX4, Cond.instantiable RX4 6, Cond.initialized RX4, Cond.fieldLink RX2 42 "ProRataMarket$Floor" "coming" "LProRataMarket$Order;", Cond.fieldLink RX2 46 "ProRataMarket$Floor" "grant" "I"]
def wsL_law0_r3 : List Cond := [Cond.fieldLink RX2 50 "ProRataMarket$Floor" "least" "I", Cond.methodLink RX2 11 yX0_init, Cond.instanceMethod yX0_init, Cond.code yX0_init cX0_init 2 none, Cond.methodLink RX0 3 objectInit, Cond.classLink RX0 9 RX4, Cond.fieldLink RX0 11 "ProRataMarket$Book" "rows" "[LProRataMarket$Order;", Cond.fieldLink RX0 17 "ProRataMarket$Book" "topNumber" "[I", Cond.fieldLink RX0 21 "ProRataMarket$Book" "topGrant" "[I", Cond.instanceMethod yX4_init, Cond.code yX4_init cX4_init 1 none, Cond.methodLink RX4 1 objectInit, Cond.instanceMethod yX3_init, Cond.code yX3_init cX3_init 1 none, Cond.methodLink RX3 3 objectInit, Cond.classLink RX3 9 "[[I", Cond.fieldLink RX3 11 "ProRataMarket$Ledger" "trades" "[[I", Cond.fieldLink RX3 16 "ProRataMarket$Ledger" "position" "[I", Cond.arrayClass .long, Cond.fieldLink RX3 20 "ProRataMarket$Ledger" "money" "[J", Cond.instanceMethod yX5_init, Cond.code yX5_init cX5_init 1 none, Cond.methodLink RX5 3 objectInit, Cond.classLink RX5 11 RX4]
def wsL_law0_r4 : List Cond := [Cond.fieldLink RX5 13 "ProRataMarket$Sharing" "owner" "[LProRataMarket$Order;", Cond.fieldLink RX5 17 "ProRataMarket$Sharing" "size" "[I", Cond.fieldLink RX5 21 "ProRataMarket$Sharing" "grant" "[I", Cond.fieldLink RX5 24 "ProRataMarket$Sharing" "granted" "[I", Cond.fieldLink RX5 27 "ProRataMarket$Sharing" "shared" "[I", Cond.fieldLink RX5 30 "ProRataMarket$Sharing" "over" "[I", Cond.instanceMethod yX1_init, Cond.code yX1_init cX1_init 1 none, Cond.methodLink RX1 3 objectInit, Cond.instanceMethod yX6_init, Cond.code yX6_init cX6_init 1 none, Cond.methodLink RX6 3 objectInit, Cond.fieldLink RX6 9 "ProRataMarket$Tape" "bytes" "[I", Cond.fieldLink RX6 15 "ProRataMarket$Tape" "number" "[I", Cond.methodLink RL 18 yL_some, Cond.static yL_some, Cond.initialized RL, Cond.code yL_some cL_some 3 (some .int), Cond.constant RL 14 (65535), Cond.methodLink RL 8 yL_cell, Cond.static yL_cell, Cond.code yL_cell cL_cell 2 (some .int), Cond.constant RL 7 (40503), Cond.methodLink RL 22 yX7_grant]
def wsL_law0_r5 : List Cond := [Cond.instanceMethod yX7_grant, Cond.selects RX7 yX7_grant yX7_grant, Cond.code yX7_grant cX7_grant 3 (some .int), Cond.fieldLink RX7 127 "ProRataMarket$Floor" "grant" "I", Cond.methodLink RL 26 yX7_least, Cond.instanceMethod yX7_least, Cond.selects RX7 yX7_least yX7_least, Cond.code yX7_least cX7_least 3 (some .int), Cond.fieldLink RX7 129 "ProRataMarket$Floor" "least" "I", Cond.methodLink RL 29 yX7_top, Cond.instanceMethod yX7_top, Cond.selects RX7 yX7_top yX7_top, Cond.code yX7_top cX7_top 2 (some .int), Cond.fieldLink RX7 105 "ProRataMarket$Floor" "book" "LProRataMarket$Book;", Cond.fieldLink RX7 181 "ProRataMarket$Book" "topNumber" "[I", Cond.methodLink RX7 99 yX7_isSide, Cond.static yX7_isSide, Cond.code yX7_isSide cX7_isSide 1 (some .boolean), Cond.methodLink RL 32 yX7_order, Cond.instanceMethod yX7_order, Cond.selects RX7 yX7_order yX7_order, Cond.code yX7_order cX7_order 6 (some .int), Cond.methodLink RX7 87 yX7_isForm, Cond.static yX7_isForm]
def wsL_law0_r6 : List Cond := [Cond.code yX7_isForm cX7_isForm 5 (some .boolean), Cond.constant RX7 102 (9999999), Cond.methodLink RX7 95 yX7_isTrader, Cond.static yX7_isTrader, Cond.code yX7_isTrader cX7_isTrader 1 (some .boolean), Cond.methodLink RX7 91 yX7_isWorthInt, Cond.static yX7_isWorthInt, Cond.code yX7_isWorthInt cX7_isWorthInt 2 (some .boolean), Cond.constantLong RX7 103 (2147483647), Cond.methodLink RX7 62 yX2_comeIn, Cond.instanceMethod yX2_comeIn, Cond.selects RX2 yX2_comeIn yX2_comeIn, Cond.code yX2_comeIn cX2_comeIn 6 (some .int), Cond.fieldLink RX2 60 "ProRataMarket$Floor" "calling" "Z", Cond.fieldLink RX2 64 "ProRataMarket$Floor" "latest" "I", Cond.fieldLink RX2 88 "ProRataMarket$Order" "size" "I", Cond.methodLink RX2 76 yX0_isFull, Cond.instanceMethod yX0_isFull, Cond.selects RX0 yX0_isFull yX0_isFull, Cond.code yX0_isFull cX0_isFull 1 (some .boolean), Cond.fieldLink RX0 25 "ProRataMarket$Book" "resting" "I", Cond.methodLink RX2 80 yX4_become, Cond.instanceMethod yX4_become, Cond.selects RX4 yX4_become yX4_become]
def wsL_law0_r7 : List Cond := [Cond.code yX4_become cX4_become 6 none, Cond.fieldLink RX4 7 "ProRataMarket$Order" "number" "I", Cond.fieldLink RX4 13 "ProRataMarket$Order" "trader" "I", Cond.fieldLink RX4 16 "ProRataMarket$Order" "side" "I", Cond.fieldLink RX4 19 "ProRataMarket$Order" "price" "I", Cond.fieldLink RX4 22 "ProRataMarket$Order" "size" "I", Cond.fieldLink RX4 25 "ProRataMarket$Order" "first" "I", Cond.methodLink RX2 84 yX2_meet, Cond.instanceMethod yX2_meet, Cond.selects RX2 yX2_meet yX2_meet, Cond.code yX2_meet cX2_meet 5 none, Cond.fieldLink RX2 94 "ProRataMarket$Order" "side" "I", Cond.fieldLink RX2 101 "ProRataMarket$Order" "price" "I", Cond.methodLink RX2 97 yX0_best, Cond.instanceMethod yX0_best, Cond.selects RX0 yX0_best yX0_best, Cond.code yX0_best cX0_best 2 (some .int), Cond.constant RX0 49 (10000000), Cond.methodLink RX0 50 yX0_nextPrice, Cond.instanceMethod yX0_nextPrice, Cond.selects RX0 yX0_nextPrice yX0_nextPrice, Cond.code yX0_nextPrice cX0_nextPrice 6 (some .int), Cond.fieldLink RX0 46 "ProRataMarket$Order" "side" "I", Cond.fieldLink RX0 54 "ProRataMarket$Order" "price" "I"]
def wsL_law0_r8 : List Cond := [Cond.static yX7_isBetter, Cond.code yX7_isBetter cX7_isBetter 3 (some .boolean), Cond.methodLink RX2 119 yX2_preventSelf, Cond.instanceMethod yX2_preventSelf, Cond.selects RX2 yX2_preventSelf yX2_preventSelf, Cond.code yX2_preventSelf cX2_preventSelf 7 none, Cond.fieldLink RX2 127 "ProRataMarket$Book" "resting" "I", Cond.fieldLink RX2 130 "ProRataMarket$Book" "rows" "[LProRataMarket$Order;", Cond.fieldLink RX2 137 "ProRataMarket$Order" "trader" "I", Cond.methodLink RX2 134 yX0_isAt, Cond.instanceMethod yX0_isAt, Cond.selects RX0 yX0_isAt yX0_isAt, Cond.code yX0_isAt cX0_isAt 4 (some .boolean), Cond.methodLink RX2 140 yX2_loseOwn, Cond.instanceMethod yX2_loseOwn, Cond.selects RX2 yX2_loseOwn yX2_loseOwn, Cond.code yX2_loseOwn cX2_loseOwn 4 none, Cond.fieldLink RX2 70 "ProRataMarket$Floor" "lotsTakenOff" "I", Cond.fieldLink RX2 67 "ProRataMarket$Floor" "ordersTakenOff" "I", Cond.methodLink RX2 146 Lib.Math.min.name, Cond.fieldLink RX2 73 "ProRataMarket$Floor" "lotsMadeLess" "I", Cond.methodLink RX2 143 yX0_sweep, Cond.instanceMethod yX0_sweep, Cond.selects RX0 yX0_sweep yX0_sweep]
def wsL_law0_r9 : List Cond := [Cond.code yX0_sweep cX0_sweep 4 none, Cond.fieldLink RX0 40 "ProRataMarket$Order" "size" "I", Cond.methodLink RX0 43 yX0_lapse, Cond.instanceMethod yX0_lapse, Cond.selects RX0 yX0_lapse yX0_lapse, Cond.code yX0_lapse cX0_lapse 2 none, Cond.fieldLink RX0 33 "ProRataMarket$Order" "number" "I", Cond.methodLink RX2 123 yX2_takeAt, Cond.instanceMethod yX2_takeAt, Cond.selects RX2 yX2_takeAt yX2_takeAt, Cond.code yX2_takeAt cX2_takeAt 4 none, Cond.fieldLink RX2 156 "ProRataMarket$Sharing" "all" "I", Cond.fieldLink RX2 162 "ProRataMarket$Sharing" "granted" "[I", Cond.fieldLink RX2 166 "ProRataMarket$Order" "number" "I", Cond.fieldLink RX2 173 "ProRataMarket$Sharing" "shared" "[I", Cond.fieldLink RX2 176 "ProRataMarket$Sharing" "over" "[I", Cond.fieldLink RX2 183 "ProRataMarket$Ledger" "lots" "I", Cond.methodLink RX2 152 yX5_load, Cond.instanceMethod yX5_load, Cond.selects RX5 yX5_load yX5_load, Cond.code yX5_load cX5_load 6 none, Cond.fieldLink RX5 33 "ProRataMarket$Sharing" "rows" "I", Cond.fieldLink RX5 37 "ProRataMarket$Sharing" "all" "I", Cond.fieldLink RX5 40 "ProRataMarket$Book" "resting" "I"]
def wsL_law0_r10 : List Cond := [Cond.fieldLink RX5 49 "ProRataMarket$Book" "rows" "[LProRataMarket$Order;", Cond.fieldLink RX5 51 "ProRataMarket$Order" "size" "I", Cond.methodLink RX5 45 yX0_isAt, Cond.methodLink RX5 53 yX0_grantOf, Cond.instanceMethod yX0_grantOf, Cond.selects RX0 yX0_grantOf yX0_grantOf, Cond.code yX0_grantOf cX0_grantOf 2 (some .int), Cond.methodLink RX5 57 yX5_put, Cond.instanceMethod yX5_put, Cond.selects RX5 yX5_put yX5_put, Cond.code yX5_put cX5_put 4 none, Cond.methodLink RX2 159 yX5_deal, Cond.instanceMethod yX5_deal, Cond.selects RX5 yX5_deal yX5_deal, Cond.code yX5_deal cX5_deal 7 none, Cond.methodLink RX5 71 Lib.Math.min.name, Cond.methodLink RX5 77 yX5_portion, Cond.static yX5_portion, Cond.code yX5_portion cX5_portion 5 (some .int), Cond.methodLink RX2 169 yX2_tradeRows, Cond.instanceMethod yX2_tradeRows, Cond.selects RX2 yX2_tradeRows yX2_tradeRows, Cond.code yX2_tradeRows cX2_tradeRows 7 none, Cond.fieldLink RX2 186 "ProRataMarket$Sharing" "rows" "I"]
def wsL_law0_r11 : List Cond := [Cond.fieldLink RX2 188 "ProRataMarket$Sharing" "owner" "[LProRataMarket$Order;", Cond.methodLink RX2 191 yX0_useGrant, Cond.instanceMethod yX0_useGrant, Cond.selects RX0 yX0_useGrant yX0_useGrant, Cond.code yX0_useGrant cX0_useGrant 3 none, Cond.methodLink RX2 194 yX3_keep, Cond.instanceMethod yX3_keep, Cond.selects RX3 yX3_keep yX3_keep, Cond.code yX3_keep cX3_keep 7 none, Cond.fieldLink RX3 28 "ProRataMarket$Ledger" "next" "I", Cond.fieldLink RX3 24 "ProRataMarket$Ledger" "kept" "I", Cond.methodLink RX3 37 Lib.Math.min.name, Cond.fieldLink RX3 31 "ProRataMarket$Ledger" "last" "I", Cond.methodLink RX2 179 yX3_enter, Cond.instanceMethod yX3_enter, Cond.selects RX3 yX3_enter yX3_enter, Cond.code yX3_enter cX3_enter 6 none, Cond.methodLink RX2 91 yX2_restComing, Cond.instanceMethod yX2_restComing, Cond.selects RX2 yX2_restComing yX2_restComing, Cond.code yX2_restComing cX2_restComing 3 none, Cond.fieldLink RX2 112 "ProRataMarket$Order" "first" "I", Cond.methodLink RX2 108 yX0_add, Cond.instanceMethod yX0_add]
def wsL_law0_r12 : List Cond := [Cond.selects RX0 yX0_add yX0_add, Cond.code yX0_add cX0_add 2 none, Cond.methodLink RX0 36 yX0_isFull, Cond.methodLink RX0 29 yX4_copyFrom, Cond.instanceMethod yX4_copyFrom, Cond.selects RX4 yX4_copyFrom yX4_copyFrom, Cond.code yX4_copyFrom cX4_copyFrom 2 none, Cond.methodLink RX4 28 yX4_become, Cond.methodLink RX2 115 yX0_makeTop, Cond.instanceMethod yX0_makeTop, Cond.selects RX0 yX0_makeTop yX0_makeTop, Cond.code yX0_makeTop cX0_makeTop 3 none, Cond.methodLink RL 36 yX7_of, Cond.instanceMethod yX7_of, Cond.selects RX7 yX7_of yX7_of, Cond.code yX7_of cX7_of 4 (some .int), Cond.classLink RX7 140 "java/util/NoSuchElementException", Cond.initialized "java/util/NoSuchElementException", Cond.fieldLink RX7 147 "ProRataMarket$Order" "trader" "I", Cond.fieldLink RX7 150 "ProRataMarket$Order" "side" "I", Cond.fieldLink RX7 153 "ProRataMarket$Order" "price" "I", Cond.fieldLink RX7 115 "ProRataMarket$Order" "size" "I", Cond.fieldLink RX7 156 "ProRataMarket$Order" "first" "I", Cond.methodLink RX7 109 yX0_find]
def wsL_law0_r13 : List Cond := [Cond.instanceMethod yX0_find, Cond.selects RX0 yX0_find yX0_find, Cond.code yX0_find cX0_find 3 (some (.object "ProRataMarket$Order")), Cond.methodLink RX7 159 yX0_grantOf, Cond.methodLink RL 47 yX7_share, Cond.instanceMethod yX7_share, Cond.selects RX7 yX7_share yX7_share, Cond.code yX7_share cX7_share 6 (some .int), Cond.fieldLink RX7 190 "ProRataMarket$Floor" "sharing" "LProRataMarket$Sharing;", Cond.fieldLink RX7 200 "ProRataMarket$Sharing" "all" "I", Cond.methodLink RX7 194 yX5_load, Cond.methodLink RX7 203 yX5_deal, Cond.methodLink RX7 207 yX5_partOf, Cond.instanceMethod yX5_partOf, Cond.selects RX5 yX5_partOf yX5_partOf, Cond.code yX5_partOf cX5_partOf 5 (some .int), Cond.methodLink RX5 81 yX5_partAt, Cond.instanceMethod yX5_partAt, Cond.selects RX5 yX5_partAt yX5_partAt, Cond.code yX5_partAt cX5_partAt 3 (some .int), Cond.methodLink RL 51 yX7_trade, Cond.instanceMethod yX7_trade, Cond.selects RX7 yX7_trade yX7_trade, Cond.code yX7_trade cX7_trade 3 (some .int)]
def wsL_law0_r14 : List Cond := [Cond.fieldLink RX7 224 "ProRataMarket$Floor" "ledger" "LProRataMarket$Ledger;", Cond.fieldLink RX7 269 "ProRataMarket$Ledger" "kept" "I", Cond.methodLink RX7 272 yX3_told, Cond.instanceMethod yX3_told, Cond.selects RX3 yX3_told yX3_told, Cond.code yX3_told cX3_told 3 (some .int), Cond.methodLink RX3 43 yJ9_floorMod_7cf53, Cond.static yJ9_floorMod_7cf53, Cond.initialized RJ9, Cond.code yJ9_floorMod_7cf53 cJ9_floorMod_7cf53 3 (some .int), Cond.methodLink RL 54 yL_size, Cond.static yL_size, Cond.codeWith yL_size cL_size 3 (some .int) [(0, 6, 7, 64)], Cond.classLink RL 64 "java/util/NoSuchElementException", Cond.methodLink RL 58 yX7_count, Cond.instanceMethod yX7_count, Cond.selects RX7 yX7_count yX7_count, Cond.code yX7_count cX7_count 2 (some .int), Cond.fieldLink RX7 280 "ProRataMarket$Book" "resting" "I", Cond.fieldLink RX7 131 "ProRataMarket$Floor" "calling" "Z", Cond.fieldLink RX7 237 "ProRataMarket$Ledger" "last" "I", Cond.fieldLink RX7 283 "ProRataMarket$Floor" "latest" "I", Cond.fieldLink RX7 26 "ProRataMarket$Tape" "held" "I", Cond.fieldLink RX7 228 "ProRataMarket$Ledger" "lots" "I"]
def wsL_law0_r15 : List Cond := [Cond.fieldLink RX7 286 "ProRataMarket$Floor" "ordersTakenOff" "I", Cond.fieldLink RX7 243 "ProRataMarket$Floor" "lotsMadeLess" "I", Cond.methodLink RL 61 yX7_position, Cond.instanceMethod yX7_position, Cond.selects RX7 yX7_position yX7_position, Cond.code yX7_position cX7_position 2 (some .int), Cond.fieldLink RX7 277 "ProRataMarket$Ledger" "position" "[I"]
def wsL_law0 : List Cond := (wsL_law0_r1 ++ (wsL_law0_r2 ++ (wsL_law0_r3 ++ (wsL_law0_r4 ++ (wsL_law0_r5 ++ (wsL_law0_r6 ++ (wsL_law0_r7 ++ (wsL_law0_r8 ++ (wsL_law0_r9 ++ (wsL_law0_r10 ++ (wsL_law0_r11 ++ (wsL_law0_r12 ++ (wsL_law0_r13 ++ (wsL_law0_r14 ++ wsL_law0_r15)))))))))))))) ++ wsX70 ++ wsX20 ++ wsX60 ++ wsX00 ++ wsX30 ++ wsX50 ++ wsX10 ++ wsX40 ++ ([] : List Cond)
def wsL_law : List Cond := wsL_law0 ++ (vx_atS RX7 144 "java/util/NoSuchElementException" ["java/lang/RuntimeException", "java/lang/Exception"]).filter goodWord
abbrev vwCl : List vw_C := [(RX0, TX0, 4), (RX1, TX1, 3), (RX2, TX2, 12), (RX3, TX3, 7), (RX4, TX4, 6), (RX5, TX5, 8), (RX6, TX6, 12), (RX7, TX7, 3)]
end
section
set_option maxRecDepth 20000 in
theorem ggX0_init_X4_init : GoodIn wsX0_init wsX4_init := goodIn_r _ [12, 13, 2, 3] (by decide +kernel) (by decide +kernel)
set_option maxRecDepth 20000 in
theorem gX0_init_X4_init_n24 : GoodIn wsX0_init (wsX4_init) := ggX0_init_X4_init
theorem dX0_init_0 : decode cX0_init 0 = .ok (.aload_n 0, 1) := by decide +kernel
theorem dX0_init_1 : decode cX0_init 1 = .ok (.invokespecial 3, 3) := by decide +kernel
theorem dX0_init_4 : decode cX0_init 4 = .ok (.aload_n 0, 1) := by decide +kernel
theorem dX0_init_5 : decode cX0_init 5 = .ok (.bipush 60, 2) := by decide +kernel
theorem dX0_init_7 : decode cX0_init 7 = .ok (.anewarray 9, 3) := by decide +kernel
theorem dX0_init_10 : decode cX0_init 10 = .ok (.putfield 11, 3) := by decide +kernel
theorem dX0_init_13 : decode cX0_init 13 = .ok (.aload_n 0, 1) := by decide +kernel
theorem dX0_init_14 : decode cX0_init 14 = .ok (.iconst 2, 1) := by decide +kernel
theorem dX0_init_15 : decode cX0_init 15 = .ok (.newarray .int, 2) := by decide +kernel
theorem dX0_init_17 : decode cX0_init 17 = .ok (.putfield 17, 3) := by decide +kernel
theorem dX0_init_20 : decode cX0_init 20 = .ok (.aload_n 0, 1) := by decide +kernel
theorem dX0_init_21 : decode cX0_init 21 = .ok (.iconst 2, 1) := by decide +kernel
theorem dX0_init_22 : decode cX0_init 22 = .ok (.newarray .int, 2) := by decide +kernel
theorem dX0_init_24 : decode cX0_init 24 = .ok (.putfield 21, 3) := by decide +kernel
theorem dX0_init_27 : decode cX0_init 27 = .ok (.iconst 0, 1) := by decide +kernel
theorem dX0_init_28 : decode cX0_init 28 = .ok (.istore_n 1, 1) := by decide +kernel
theorem dX0_init_29 : decode cX0_init 29 = .ok (.iload_n 1, 1) := by decide +kernel
theorem dX0_init_30 : decode cX0_init 30 = .ok (.bipush 60, 2) := by decide +kernel
theorem dX0_init_32 : decode cX0_init 32 = .ok (.if_icmp .ge 22, 3) := by decide +kernel
theorem dX0_init_35 : decode cX0_init 35 = .ok (.aload_n 0, 1) := by decide +kernel
theorem dX0_init_36 : decode cX0_init 36 = .ok (.getfield 11, 3) := by decide +kernel
theorem dX0_init_39 : decode cX0_init 39 = .ok (.iload_n 1, 1) := by decide +kernel
theorem dX0_init_40 : decode cX0_init 40 = .ok (.new 9, 3) := by decide +kernel
theorem dX0_init_43 : decode cX0_init 43 = .ok (.dup, 1) := by decide +kernel
theorem dX0_init_44 : decode cX0_init 44 = .ok (.invokespecial 24, 3) := by decide +kernel
theorem dX0_init_47 : decode cX0_init 47 = .ok (.aastore, 1) := by decide +kernel
theorem dX0_init_48 : decode cX0_init 48 = .ok (.iinc 1 1, 3) := by decide +kernel
theorem dX0_init_51 : decode cX0_init 51 = .ok (.goto (-22), 3) := by decide +kernel
theorem dX0_init_54 : decode cX0_init 54 = .ok (.return_, 1) := by decide +kernel
theorem dX0_find_0 : decode cX0_find 0 = .ok (.iconst 0, 1) := by decide +kernel
theorem dX0_find_1 : decode cX0_find 1 = .ok (.istore_n 2, 1) := by decide +kernel
theorem dX0_find_2 : decode cX0_find 2 = .ok (.iload_n 2, 1) := by decide +kernel
theorem dX0_find_3 : decode cX0_find 3 = .ok (.aload_n 0, 1) := by decide +kernel
theorem dX0_find_4 : decode cX0_find 4 = .ok (.getfield 25, 3) := by decide +kernel
theorem dX0_find_7 : decode cX0_find 7 = .ok (.if_icmp .ge 29, 3) := by decide +kernel
theorem dX0_find_10 : decode cX0_find 10 = .ok (.aload_n 0, 1) := by decide +kernel
theorem dX0_find_11 : decode cX0_find 11 = .ok (.getfield 11, 3) := by decide +kernel
theorem dX0_find_14 : decode cX0_find 14 = .ok (.iload_n 2, 1) := by decide +kernel
theorem dX0_find_15 : decode cX0_find 15 = .ok (.aaload, 1) := by decide +kernel
theorem dX0_find_16 : decode cX0_find 16 = .ok (.getfield 33, 3) := by decide +kernel
theorem dX0_find_19 : decode cX0_find 19 = .ok (.iload_n 1, 1) := by decide +kernel
theorem dX0_find_20 : decode cX0_find 20 = .ok (.if_icmp .ne 10, 3) := by decide +kernel
theorem dX0_find_23 : decode cX0_find 23 = .ok (.aload_n 0, 1) := by decide +kernel
theorem dX0_find_24 : decode cX0_find 24 = .ok (.getfield 11, 3) := by decide +kernel
theorem dX0_find_27 : decode cX0_find 27 = .ok (.iload_n 2, 1) := by decide +kernel
theorem dX0_find_28 : decode cX0_find 28 = .ok (.aaload, 1) := by decide +kernel
theorem dX0_find_29 : decode cX0_find 29 = .ok (.areturn, 1) := by decide +kernel
theorem dX0_find_30 : decode cX0_find 30 = .ok (.iinc 2 1, 3) := by decide +kernel
theorem dX0_find_33 : decode cX0_find 33 = .ok (.goto (-31), 3) := by decide +kernel
theorem dX0_find_36 : decode cX0_find 36 = .ok (.aconst_null, 1) := by decide +kernel
theorem dX0_find_37 : decode cX0_find 37 = .ok (.areturn, 1) := by decide +kernel
theorem dX0_isFull_0 : decode cX0_isFull 0 = .ok (.aload_n 0, 1) := by decide +kernel
theorem dX0_isFull_1 : decode cX0_isFull 1 = .ok (.getfield 25, 3) := by decide +kernel
theorem dX0_isFull_4 : decode cX0_isFull 4 = .ok (.bipush 60, 2) := by decide +kernel
theorem dX0_isFull_6 : decode cX0_isFull 6 = .ok (.if_icmp .lt 7, 3) := by decide +kernel
theorem dX0_isFull_9 : decode cX0_isFull 9 = .ok (.iconst 1, 1) := by decide +kernel
theorem dX0_isFull_10 : decode cX0_isFull 10 = .ok (.goto 4, 3) := by decide +kernel
theorem dX0_isFull_13 : decode cX0_isFull 13 = .ok (.iconst 0, 1) := by decide +kernel
theorem dX0_isFull_14 : decode cX0_isFull 14 = .ok (.ireturn, 1) := by decide +kernel
set_option maxRecDepth 20000 in
theorem ggX0_add_X0_isFull : GoodIn wsX0_add wsX0_isFull := goodIn_r _ [7, 2, 23, 24, 25, 26] (by decide +kernel) (by decide +kernel)
set_option maxRecDepth 20000 in
theorem gX0_add_X0_isFull : GoodIn wsX0_add (wsV RX0 36 RX0 yX0_isFull wsX0_isFull) := goodIn_app (goodIn_of _ (by decide +kernel)) ggX0_add_X0_isFull
set_option maxRecDepth 20000 in
theorem ggX0_add_X4_copyFrom : GoodIn wsX0_add wsX4_copyFrom := goodIn_r _ [12, 13, 14, 15, 16, 17, 18, 19, 20, 21, 11, 22, 27, 28, 29, 30, 31, 32] (by decide +kernel) (by decide +kernel)
set_option maxRecDepth 20000 in
theorem gX0_add_X4_copyFrom : GoodIn wsX0_add (wsV RX0 29 RX4 yX4_copyFrom wsX4_copyFrom) := goodIn_app (goodIn_of _ (by decide +kernel)) ggX0_add_X4_copyFrom
theorem dX0_add_0 : decode cX0_add 0 = .ok (.aload_n 0, 1) := by decide +kernel
theorem dX0_add_1 : decode cX0_add 1 = .ok (.invokevirtual 36, 3) := by decide +kernel
theorem dX0_add_4 : decode cX0_add 4 = .ok (.ifCond .ne 26, 3) := by decide +kernel
theorem dX0_add_7 : decode cX0_add 7 = .ok (.aload_n 0, 1) := by decide +kernel
theorem dX0_add_8 : decode cX0_add 8 = .ok (.getfield 11, 3) := by decide +kernel
theorem dX0_add_11 : decode cX0_add 11 = .ok (.aload_n 0, 1) := by decide +kernel
theorem dX0_add_12 : decode cX0_add 12 = .ok (.getfield 25, 3) := by decide +kernel
theorem dX0_add_15 : decode cX0_add 15 = .ok (.aaload, 1) := by decide +kernel
theorem dX0_add_16 : decode cX0_add 16 = .ok (.aload_n 1, 1) := by decide +kernel
theorem dX0_add_17 : decode cX0_add 17 = .ok (.invokevirtual 29, 3) := by decide +kernel
theorem dX0_add_20 : decode cX0_add 20 = .ok (.aload_n 0, 1) := by decide +kernel
theorem dX0_add_21 : decode cX0_add 21 = .ok (.dup, 1) := by decide +kernel
theorem dX0_add_22 : decode cX0_add 22 = .ok (.getfield 25, 3) := by decide +kernel
theorem dX0_add_25 : decode cX0_add 25 = .ok (.iconst 1, 1) := by decide +kernel
theorem dX0_add_26 : decode cX0_add 26 = .ok (.iadd, 1) := by decide +kernel
theorem dX0_add_27 : decode cX0_add 27 = .ok (.putfield 25, 3) := by decide +kernel
theorem dX0_add_30 : decode cX0_add 30 = .ok (.return_, 1) := by decide +kernel
set_option maxRecDepth 20000 in
theorem ggX0_sweep_X0_lapse : GoodIn wsX0_sweep wsX0_lapse := goodIn_r _ [8, 9, 10, 11, 12, 13, 14, 15, 16, 17, 18, 19, 20, 21, 22] (by decide +kernel) (by decide +kernel)
set_option maxRecDepth 20000 in
theorem gX0_sweep_X0_lapse : GoodIn wsX0_sweep (wsV RX0 43 RX0 yX0_lapse wsX0_lapse) := goodIn_app (goodIn_of _ (by decide +kernel)) ggX0_sweep_X0_lapse
theorem dX0_sweep_0 : decode cX0_sweep 0 = .ok (.iconst 0, 1) := by decide +kernel
theorem dX0_sweep_1 : decode cX0_sweep 1 = .ok (.istore_n 1, 1) := by decide +kernel
theorem dX0_sweep_2 : decode cX0_sweep 2 = .ok (.iconst 0, 1) := by decide +kernel
theorem dX0_sweep_3 : decode cX0_sweep 3 = .ok (.istore_n 2, 1) := by decide +kernel
theorem dX0_sweep_4 : decode cX0_sweep 4 = .ok (.iload_n 2, 1) := by decide +kernel
theorem dX0_sweep_5 : decode cX0_sweep 5 = .ok (.aload_n 0, 1) := by decide +kernel
theorem dX0_sweep_6 : decode cX0_sweep 6 = .ok (.getfield 25, 3) := by decide +kernel
theorem dX0_sweep_9 : decode cX0_sweep 9 = .ok (.if_icmp .ge 53, 3) := by decide +kernel
theorem dX0_sweep_12 : decode cX0_sweep 12 = .ok (.aload_n 0, 1) := by decide +kernel
theorem dX0_sweep_13 : decode cX0_sweep 13 = .ok (.getfield 11, 3) := by decide +kernel
theorem dX0_sweep_16 : decode cX0_sweep 16 = .ok (.iload_n 2, 1) := by decide +kernel
theorem dX0_sweep_17 : decode cX0_sweep 17 = .ok (.aaload, 1) := by decide +kernel
theorem dX0_sweep_18 : decode cX0_sweep 18 = .ok (.astore_n 3, 1) := by decide +kernel
theorem dX0_sweep_19 : decode cX0_sweep 19 = .ok (.aload_n 3, 1) := by decide +kernel
theorem dX0_sweep_20 : decode cX0_sweep 20 = .ok (.getfield 40, 3) := by decide +kernel
theorem dX0_sweep_23 : decode cX0_sweep 23 = .ok (.ifCond .le 28, 3) := by decide +kernel
theorem dX0_sweep_26 : decode cX0_sweep 26 = .ok (.aload_n 0, 1) := by decide +kernel
theorem dX0_sweep_27 : decode cX0_sweep 27 = .ok (.getfield 11, 3) := by decide +kernel
theorem dX0_sweep_30 : decode cX0_sweep 30 = .ok (.iload_n 2, 1) := by decide +kernel
theorem dX0_sweep_31 : decode cX0_sweep 31 = .ok (.aload_n 0, 1) := by decide +kernel
theorem dX0_sweep_32 : decode cX0_sweep 32 = .ok (.getfield 11, 3) := by decide +kernel
theorem dX0_sweep_35 : decode cX0_sweep 35 = .ok (.iload_n 1, 1) := by decide +kernel
theorem dX0_sweep_36 : decode cX0_sweep 36 = .ok (.aaload, 1) := by decide +kernel
theorem dX0_sweep_37 : decode cX0_sweep 37 = .ok (.aastore, 1) := by decide +kernel
theorem dX0_sweep_38 : decode cX0_sweep 38 = .ok (.aload_n 0, 1) := by decide +kernel
theorem dX0_sweep_39 : decode cX0_sweep 39 = .ok (.getfield 11, 3) := by decide +kernel
theorem dX0_sweep_42 : decode cX0_sweep 42 = .ok (.iload_n 1, 1) := by decide +kernel
theorem dX0_sweep_43 : decode cX0_sweep 43 = .ok (.aload_n 3, 1) := by decide +kernel
theorem dX0_sweep_44 : decode cX0_sweep 44 = .ok (.aastore, 1) := by decide +kernel
theorem dX0_sweep_45 : decode cX0_sweep 45 = .ok (.iinc 1 1, 3) := by decide +kernel
theorem dX0_sweep_48 : decode cX0_sweep 48 = .ok (.goto 8, 3) := by decide +kernel
theorem dX0_sweep_51 : decode cX0_sweep 51 = .ok (.aload_n 0, 1) := by decide +kernel
theorem dX0_sweep_52 : decode cX0_sweep 52 = .ok (.aload_n 3, 1) := by decide +kernel
theorem dX0_sweep_53 : decode cX0_sweep 53 = .ok (.invokevirtual 43, 3) := by decide +kernel
theorem dX0_sweep_56 : decode cX0_sweep 56 = .ok (.iinc 2 1, 3) := by decide +kernel
theorem dX0_sweep_59 : decode cX0_sweep 59 = .ok (.goto (-55), 3) := by decide +kernel
theorem dX0_sweep_62 : decode cX0_sweep 62 = .ok (.aload_n 0, 1) := by decide +kernel
theorem dX0_sweep_63 : decode cX0_sweep 63 = .ok (.iload_n 1, 1) := by decide +kernel
theorem dX0_sweep_64 : decode cX0_sweep 64 = .ok (.putfield 25, 3) := by decide +kernel
theorem dX0_sweep_67 : decode cX0_sweep 67 = .ok (.return_, 1) := by decide +kernel
theorem dX0_makeTop_0 : decode cX0_makeTop 0 = .ok (.aload_n 0, 1) := by decide +kernel
theorem dX0_makeTop_1 : decode cX0_makeTop 1 = .ok (.getfield 17, 3) := by decide +kernel
theorem dX0_makeTop_4 : decode cX0_makeTop 4 = .ok (.aload_n 1, 1) := by decide +kernel
theorem dX0_makeTop_5 : decode cX0_makeTop 5 = .ok (.getfield 46, 3) := by decide +kernel
theorem dX0_makeTop_8 : decode cX0_makeTop 8 = .ok (.aload_n 1, 1) := by decide +kernel
theorem dX0_makeTop_9 : decode cX0_makeTop 9 = .ok (.getfield 33, 3) := by decide +kernel
theorem dX0_makeTop_12 : decode cX0_makeTop 12 = .ok (.iastore, 1) := by decide +kernel
theorem dX0_makeTop_13 : decode cX0_makeTop 13 = .ok (.aload_n 0, 1) := by decide +kernel
theorem dX0_makeTop_14 : decode cX0_makeTop 14 = .ok (.getfield 21, 3) := by decide +kernel
theorem dX0_makeTop_17 : decode cX0_makeTop 17 = .ok (.aload_n 1, 1) := by decide +kernel
theorem dX0_makeTop_18 : decode cX0_makeTop 18 = .ok (.getfield 46, 3) := by decide +kernel
theorem dX0_makeTop_21 : decode cX0_makeTop 21 = .ok (.iload_n 2, 1) := by decide +kernel
theorem dX0_makeTop_22 : decode cX0_makeTop 22 = .ok (.iastore, 1) := by decide +kernel
theorem dX0_makeTop_23 : decode cX0_makeTop 23 = .ok (.return_, 1) := by decide +kernel
theorem dX0_lapse_0 : decode cX0_lapse 0 = .ok (.aload_n 0, 1) := by decide +kernel
theorem dX0_lapse_1 : decode cX0_lapse 1 = .ok (.getfield 17, 3) := by decide +kernel
theorem dX0_lapse_4 : decode cX0_lapse 4 = .ok (.aload_n 1, 1) := by decide +kernel
theorem dX0_lapse_5 : decode cX0_lapse 5 = .ok (.getfield 46, 3) := by decide +kernel
theorem dX0_lapse_8 : decode cX0_lapse 8 = .ok (.iaload, 1) := by decide +kernel
theorem dX0_lapse_9 : decode cX0_lapse 9 = .ok (.aload_n 1, 1) := by decide +kernel
theorem dX0_lapse_10 : decode cX0_lapse 10 = .ok (.getfield 33, 3) := by decide +kernel
theorem dX0_lapse_13 : decode cX0_lapse 13 = .ok (.if_icmp .ne 23, 3) := by decide +kernel
theorem dX0_lapse_16 : decode cX0_lapse 16 = .ok (.aload_n 0, 1) := by decide +kernel
theorem dX0_lapse_17 : decode cX0_lapse 17 = .ok (.getfield 17, 3) := by decide +kernel
theorem dX0_lapse_20 : decode cX0_lapse 20 = .ok (.aload_n 1, 1) := by decide +kernel
theorem dX0_lapse_21 : decode cX0_lapse 21 = .ok (.getfield 46, 3) := by decide +kernel
theorem dX0_lapse_24 : decode cX0_lapse 24 = .ok (.iconst 0, 1) := by decide +kernel
theorem dX0_lapse_25 : decode cX0_lapse 25 = .ok (.iastore, 1) := by decide +kernel
theorem dX0_lapse_26 : decode cX0_lapse 26 = .ok (.aload_n 0, 1) := by decide +kernel
theorem dX0_lapse_27 : decode cX0_lapse 27 = .ok (.getfield 21, 3) := by decide +kernel
theorem dX0_lapse_30 : decode cX0_lapse 30 = .ok (.aload_n 1, 1) := by decide +kernel
theorem dX0_lapse_31 : decode cX0_lapse 31 = .ok (.getfield 46, 3) := by decide +kernel
theorem dX0_lapse_34 : decode cX0_lapse 34 = .ok (.iconst 0, 1) := by decide +kernel
theorem dX0_lapse_35 : decode cX0_lapse 35 = .ok (.iastore, 1) := by decide +kernel
theorem dX0_lapse_36 : decode cX0_lapse 36 = .ok (.return_, 1) := by decide +kernel
theorem dX0_grantOf_0 : decode cX0_grantOf 0 = .ok (.aload_n 0, 1) := by decide +kernel
theorem dX0_grantOf_1 : decode cX0_grantOf 1 = .ok (.getfield 17, 3) := by decide +kernel
theorem dX0_grantOf_4 : decode cX0_grantOf 4 = .ok (.aload_n 1, 1) := by decide +kernel
theorem dX0_grantOf_5 : decode cX0_grantOf 5 = .ok (.getfield 46, 3) := by decide +kernel
theorem dX0_grantOf_8 : decode cX0_grantOf 8 = .ok (.iaload, 1) := by decide +kernel
theorem dX0_grantOf_9 : decode cX0_grantOf 9 = .ok (.aload_n 1, 1) := by decide +kernel
theorem dX0_grantOf_10 : decode cX0_grantOf 10 = .ok (.getfield 33, 3) := by decide +kernel
theorem dX0_grantOf_13 : decode cX0_grantOf 13 = .ok (.if_icmp .ne 15, 3) := by decide +kernel
theorem dX0_grantOf_16 : decode cX0_grantOf 16 = .ok (.aload_n 0, 1) := by decide +kernel
theorem dX0_grantOf_17 : decode cX0_grantOf 17 = .ok (.getfield 21, 3) := by decide +kernel
theorem dX0_grantOf_20 : decode cX0_grantOf 20 = .ok (.aload_n 1, 1) := by decide +kernel
theorem dX0_grantOf_21 : decode cX0_grantOf 21 = .ok (.getfield 46, 3) := by decide +kernel
theorem dX0_grantOf_24 : decode cX0_grantOf 24 = .ok (.iaload, 1) := by decide +kernel
theorem dX0_grantOf_25 : decode cX0_grantOf 25 = .ok (.goto 4, 3) := by decide +kernel
theorem dX0_grantOf_28 : decode cX0_grantOf 28 = .ok (.iconst 0, 1) := by decide +kernel
theorem dX0_grantOf_29 : decode cX0_grantOf 29 = .ok (.ireturn, 1) := by decide +kernel
theorem dX0_useGrant_0 : decode cX0_useGrant 0 = .ok (.aload_n 0, 1) := by decide +kernel
theorem dX0_useGrant_1 : decode cX0_useGrant 1 = .ok (.getfield 21, 3) := by decide +kernel
theorem dX0_useGrant_4 : decode cX0_useGrant 4 = .ok (.aload_n 1, 1) := by decide +kernel
theorem dX0_useGrant_5 : decode cX0_useGrant 5 = .ok (.getfield 46, 3) := by decide +kernel
theorem dX0_useGrant_8 : decode cX0_useGrant 8 = .ok (.dup2, 1) := by decide +kernel
theorem dX0_useGrant_9 : decode cX0_useGrant 9 = .ok (.iaload, 1) := by decide +kernel
theorem dX0_useGrant_10 : decode cX0_useGrant 10 = .ok (.iload_n 2, 1) := by decide +kernel
theorem dX0_useGrant_11 : decode cX0_useGrant 11 = .ok (.isub, 1) := by decide +kernel
theorem dX0_useGrant_12 : decode cX0_useGrant 12 = .ok (.iastore, 1) := by decide +kernel
theorem dX0_useGrant_13 : decode cX0_useGrant 13 = .ok (.aload_n 0, 1) := by decide +kernel
theorem dX0_useGrant_14 : decode cX0_useGrant 14 = .ok (.getfield 21, 3) := by decide +kernel
theorem dX0_useGrant_17 : decode cX0_useGrant 17 = .ok (.aload_n 1, 1) := by decide +kernel
theorem dX0_useGrant_18 : decode cX0_useGrant 18 = .ok (.getfield 46, 3) := by decide +kernel
theorem dX0_useGrant_21 : decode cX0_useGrant 21 = .ok (.iaload, 1) := by decide +kernel
theorem dX0_useGrant_22 : decode cX0_useGrant 22 = .ok (.ifCond .gt 13, 3) := by decide +kernel
theorem dX0_useGrant_25 : decode cX0_useGrant 25 = .ok (.aload_n 0, 1) := by decide +kernel
theorem dX0_useGrant_26 : decode cX0_useGrant 26 = .ok (.getfield 17, 3) := by decide +kernel
theorem dX0_useGrant_29 : decode cX0_useGrant 29 = .ok (.aload_n 1, 1) := by decide +kernel
theorem dX0_useGrant_30 : decode cX0_useGrant 30 = .ok (.getfield 46, 3) := by decide +kernel
theorem dX0_useGrant_33 : decode cX0_useGrant 33 = .ok (.iconst 0, 1) := by decide +kernel
theorem dX0_useGrant_34 : decode cX0_useGrant 34 = .ok (.iastore, 1) := by decide +kernel
theorem dX0_useGrant_35 : decode cX0_useGrant 35 = .ok (.return_, 1) := by decide +kernel
set_option maxRecDepth 20000 in
theorem ggX0_best_X0_nextPrice : GoodIn wsX0_best wsX0_nextPrice := goodIn_r _ [6, 7, 8, 9, 10, 11, 12, 13, 14, 15, 16, 17, 18, 19, 20, 21, 22, 23] (by decide +kernel) (by decide +kernel)
set_option maxRecDepth 20000 in
theorem gX0_best_X0_nextPrice : GoodIn wsX0_best (wsV RX0 50 RX0 yX0_nextPrice wsX0_nextPrice) := goodIn_app (goodIn_of _ (by decide +kernel)) ggX0_best_X0_nextPrice
theorem dX0_best_0 : decode cX0_best 0 = .ok (.aload_n 0, 1) := by decide +kernel
theorem dX0_best_1 : decode cX0_best 1 = .ok (.iload_n 1, 1) := by decide +kernel
theorem dX0_best_2 : decode cX0_best 2 = .ok (.iload_n 1, 1) := by decide +kernel
theorem dX0_best_3 : decode cX0_best 3 = .ok (.ifCond .ne 8, 3) := by decide +kernel
theorem dX0_best_6 : decode cX0_best 6 = .ok (.ldc 49, 2) := by decide +kernel
theorem dX0_best_8 : decode cX0_best 8 = .ok (.goto 4, 3) := by decide +kernel
theorem dX0_best_11 : decode cX0_best 11 = .ok (.iconst 0, 1) := by decide +kernel
theorem dX0_best_12 : decode cX0_best 12 = .ok (.invokevirtual 50, 3) := by decide +kernel
theorem dX0_best_15 : decode cX0_best 15 = .ok (.ireturn, 1) := by decide +kernel
set_option maxRecDepth 20000 in
theorem ggX0_nextPrice_X7_isBetter : GoodIn wsX0_nextPrice wsX7_isBetter := goodIn_r _ [7] (by decide +kernel) (by decide +kernel)
set_option maxRecDepth 20000 in
theorem gX0_nextPrice_X7_isBetter_n57 : GoodIn wsX0_nextPrice (wsX7_isBetter) := ggX0_nextPrice_X7_isBetter
theorem dX0_nextPrice_0 : decode cX0_nextPrice 0 = .ok (.iconst 0, 1) := by decide +kernel
theorem dX0_nextPrice_1 : decode cX0_nextPrice 1 = .ok (.istore_n 3, 1) := by decide +kernel
theorem dX0_nextPrice_2 : decode cX0_nextPrice 2 = .ok (.iconst 0, 1) := by decide +kernel
theorem dX0_nextPrice_3 : decode cX0_nextPrice 3 = .ok (.istore 4, 2) := by decide +kernel
theorem dX0_nextPrice_5 : decode cX0_nextPrice 5 = .ok (.iload 4, 2) := by decide +kernel
theorem dX0_nextPrice_7 : decode cX0_nextPrice 7 = .ok (.aload_n 0, 1) := by decide +kernel
theorem dX0_nextPrice_8 : decode cX0_nextPrice 8 = .ok (.getfield 25, 3) := by decide +kernel
theorem dX0_nextPrice_11 : decode cX0_nextPrice 11 = .ok (.if_icmp .ge 63, 3) := by decide +kernel
theorem dX0_nextPrice_14 : decode cX0_nextPrice 14 = .ok (.aload_n 0, 1) := by decide +kernel
theorem dX0_nextPrice_15 : decode cX0_nextPrice 15 = .ok (.getfield 11, 3) := by decide +kernel
theorem dX0_nextPrice_18 : decode cX0_nextPrice 18 = .ok (.iload 4, 2) := by decide +kernel
theorem dX0_nextPrice_20 : decode cX0_nextPrice 20 = .ok (.aaload, 1) := by decide +kernel
theorem dX0_nextPrice_21 : decode cX0_nextPrice 21 = .ok (.astore 5, 2) := by decide +kernel
theorem dX0_nextPrice_23 : decode cX0_nextPrice 23 = .ok (.aload 5, 2) := by decide +kernel
theorem dX0_nextPrice_25 : decode cX0_nextPrice 25 = .ok (.getfield 46, 3) := by decide +kernel
theorem dX0_nextPrice_28 : decode cX0_nextPrice 28 = .ok (.iload_n 1, 1) := by decide +kernel
theorem dX0_nextPrice_29 : decode cX0_nextPrice 29 = .ok (.if_icmp .ne 39, 3) := by decide +kernel
theorem dX0_nextPrice_32 : decode cX0_nextPrice 32 = .ok (.iload_n 1, 1) := by decide +kernel
theorem dX0_nextPrice_33 : decode cX0_nextPrice 33 = .ok (.iload_n 2, 1) := by decide +kernel
theorem dX0_nextPrice_34 : decode cX0_nextPrice 34 = .ok (.aload 5, 2) := by decide +kernel
theorem dX0_nextPrice_36 : decode cX0_nextPrice 36 = .ok (.getfield 54, 3) := by decide +kernel
theorem dX0_nextPrice_39 : decode cX0_nextPrice 39 = .ok (.invokestatic 57, 3) := by decide +kernel
theorem dX0_nextPrice_42 : decode cX0_nextPrice 42 = .ok (.ifCond .eq 26, 3) := by decide +kernel
theorem dX0_nextPrice_45 : decode cX0_nextPrice 45 = .ok (.iload_n 3, 1) := by decide +kernel
theorem dX0_nextPrice_46 : decode cX0_nextPrice 46 = .ok (.ifCond .eq 16, 3) := by decide +kernel
theorem dX0_nextPrice_49 : decode cX0_nextPrice 49 = .ok (.iload_n 1, 1) := by decide +kernel
theorem dX0_nextPrice_50 : decode cX0_nextPrice 50 = .ok (.aload 5, 2) := by decide +kernel
theorem dX0_nextPrice_52 : decode cX0_nextPrice 52 = .ok (.getfield 54, 3) := by decide +kernel
theorem dX0_nextPrice_55 : decode cX0_nextPrice 55 = .ok (.iload_n 3, 1) := by decide +kernel
theorem dX0_nextPrice_56 : decode cX0_nextPrice 56 = .ok (.invokestatic 57, 3) := by decide +kernel
theorem dX0_nextPrice_59 : decode cX0_nextPrice 59 = .ok (.ifCond .eq 9, 3) := by decide +kernel
theorem dX0_nextPrice_62 : decode cX0_nextPrice 62 = .ok (.aload 5, 2) := by decide +kernel
theorem dX0_nextPrice_64 : decode cX0_nextPrice 64 = .ok (.getfield 54, 3) := by decide +kernel
theorem dX0_nextPrice_67 : decode cX0_nextPrice 67 = .ok (.istore_n 3, 1) := by decide +kernel
theorem dX0_nextPrice_68 : decode cX0_nextPrice 68 = .ok (.iinc 4 1, 3) := by decide +kernel
theorem dX0_nextPrice_71 : decode cX0_nextPrice 71 = .ok (.goto (-66), 3) := by decide +kernel
theorem dX0_nextPrice_74 : decode cX0_nextPrice 74 = .ok (.iload_n 3, 1) := by decide +kernel
theorem dX0_nextPrice_75 : decode cX0_nextPrice 75 = .ok (.ireturn, 1) := by decide +kernel
theorem dX0_isAt_0 : decode cX0_isAt 0 = .ok (.aload_n 0, 1) := by decide +kernel
theorem dX0_isAt_1 : decode cX0_isAt 1 = .ok (.getfield 11, 3) := by decide +kernel
theorem dX0_isAt_4 : decode cX0_isAt 4 = .ok (.iload_n 1, 1) := by decide +kernel
theorem dX0_isAt_5 : decode cX0_isAt 5 = .ok (.aaload, 1) := by decide +kernel
theorem dX0_isAt_6 : decode cX0_isAt 6 = .ok (.getfield 46, 3) := by decide +kernel
theorem dX0_isAt_9 : decode cX0_isAt 9 = .ok (.iload_n 2, 1) := by decide +kernel
theorem dX0_isAt_10 : decode cX0_isAt 10 = .ok (.if_icmp .ne 20, 3) := by decide +kernel
theorem dX0_isAt_13 : decode cX0_isAt 13 = .ok (.aload_n 0, 1) := by decide +kernel
theorem dX0_isAt_14 : decode cX0_isAt 14 = .ok (.getfield 11, 3) := by decide +kernel
theorem dX0_isAt_17 : decode cX0_isAt 17 = .ok (.iload_n 1, 1) := by decide +kernel
theorem dX0_isAt_18 : decode cX0_isAt 18 = .ok (.aaload, 1) := by decide +kernel
theorem dX0_isAt_19 : decode cX0_isAt 19 = .ok (.getfield 54, 3) := by decide +kernel
theorem dX0_isAt_22 : decode cX0_isAt 22 = .ok (.iload_n 3, 1) := by decide +kernel
theorem dX0_isAt_23 : decode cX0_isAt 23 = .ok (.if_icmp .ne 7, 3) := by decide +kernel
theorem dX0_isAt_26 : decode cX0_isAt 26 = .ok (.iconst 1, 1) := by decide +kernel
theorem dX0_isAt_27 : decode cX0_isAt 27 = .ok (.goto 4, 3) := by decide +kernel
theorem dX0_isAt_30 : decode cX0_isAt 30 = .ok (.iconst 0, 1) := by decide +kernel
theorem dX0_isAt_31 : decode cX0_isAt 31 = .ok (.ireturn, 1) := by decide +kernel
theorem dX1_init_0 : decode cX1_init 0 = .ok (.aload_n 0, 1) := by decide +kernel
theorem dX1_init_1 : decode cX1_init 1 = .ok (.invokespecial 3, 3) := by decide +kernel
theorem dX1_init_4 : decode cX1_init 4 = .ok (.return_, 1) := by decide +kernel
set_option maxRecDepth 20000 in
theorem ggX2_init_X0_init : GoodIn wsX2_init wsX0_init := goodIn_r _ [28, 29, 2, 3, 30, 31, 32, 33, 34, 21, 22, 35, 36, 37, 59, 60, 61, 62, 93, 94, 95, 96, 97, 98] (by decide +kernel) (by decide +kernel)
set_option maxRecDepth 20000 in
theorem gX2_init_X0_init : GoodIn wsX2_init (wsX0_init) := ggX2_init_X0_init
set_option maxRecDepth 20000 in
theorem ggX2_init_X3_init : GoodIn wsX2_init wsX3_init := goodIn_r _ [39, 40, 2, 3, 41, 32, 42, 43, 44, 45, 75, 76, 77, 78, 79, 80, 81] (by decide +kernel) (by decide +kernel)
set_option maxRecDepth 20000 in
theorem gX2_init_X3_init_n20 : GoodIn wsX2_init (wsX3_init) := ggX2_init_X3_init
set_option maxRecDepth 20000 in
theorem ggX2_init_X5_init : GoodIn wsX2_init wsX5_init := goodIn_r _ [47, 48, 2, 3, 49, 50, 32, 51, 52, 53, 54, 55, 82, 83, 84, 85, 86, 87, 88, 89] (by decide +kernel) (by decide +kernel)
set_option maxRecDepth 20000 in
theorem gX2_init_X5_init_n27 : GoodIn wsX2_init (wsX5_init) := ggX2_init_X5_init
set_option maxRecDepth 20000 in
theorem ggX2_init_X1_init : GoodIn wsX2_init wsX1_init := goodIn_r _ [57, 58, 2, 3] (by decide +kernel) (by decide +kernel)
set_option maxRecDepth 20000 in
theorem gX2_init_X1_init_n34 : GoodIn wsX2_init (wsX1_init) := ggX2_init_X1_init
set_option maxRecDepth 20000 in
theorem ggX2_init_X4_init : GoodIn wsX2_init wsX4_init := goodIn_r _ [36, 37, 2, 3] (by decide +kernel) (by decide +kernel)
set_option maxRecDepth 20000 in
theorem gX2_init_X4_init_n41 : GoodIn wsX2_init (wsX4_init) := ggX2_init_X4_init
theorem dX2_init_0 : decode cX2_init 0 = .ok (.aload_n 0, 1) := by decide +kernel
theorem dX2_init_1 : decode cX2_init 1 = .ok (.invokespecial 3, 3) := by decide +kernel
theorem dX2_init_4 : decode cX2_init 4 = .ok (.aload_n 0, 1) := by decide +kernel
theorem dX2_init_5 : decode cX2_init 5 = .ok (.new 9, 3) := by decide +kernel
theorem dX2_init_8 : decode cX2_init 8 = .ok (.dup, 1) := by decide +kernel
theorem dX2_init_9 : decode cX2_init 9 = .ok (.invokespecial 11, 3) := by decide +kernel
theorem dX2_init_12 : decode cX2_init 12 = .ok (.putfield 12, 3) := by decide +kernel
theorem dX2_init_15 : decode cX2_init 15 = .ok (.aload_n 0, 1) := by decide +kernel
theorem dX2_init_16 : decode cX2_init 16 = .ok (.new 18, 3) := by decide +kernel
theorem dX2_init_19 : decode cX2_init 19 = .ok (.dup, 1) := by decide +kernel
theorem dX2_init_20 : decode cX2_init 20 = .ok (.invokespecial 20, 3) := by decide +kernel
theorem dX2_init_23 : decode cX2_init 23 = .ok (.putfield 21, 3) := by decide +kernel
theorem dX2_init_26 : decode cX2_init 26 = .ok (.aload_n 0, 1) := by decide +kernel
theorem dX2_init_27 : decode cX2_init 27 = .ok (.new 25, 3) := by decide +kernel
theorem dX2_init_30 : decode cX2_init 30 = .ok (.dup, 1) := by decide +kernel
theorem dX2_init_31 : decode cX2_init 31 = .ok (.invokespecial 27, 3) := by decide +kernel
theorem dX2_init_34 : decode cX2_init 34 = .ok (.putfield 28, 3) := by decide +kernel
theorem dX2_init_37 : decode cX2_init 37 = .ok (.aload_n 0, 1) := by decide +kernel
theorem dX2_init_38 : decode cX2_init 38 = .ok (.new 32, 3) := by decide +kernel
theorem dX2_init_41 : decode cX2_init 41 = .ok (.dup, 1) := by decide +kernel
theorem dX2_init_42 : decode cX2_init 42 = .ok (.invokespecial 34, 3) := by decide +kernel
theorem dX2_init_45 : decode cX2_init 45 = .ok (.putfield 35, 3) := by decide +kernel
theorem dX2_init_48 : decode cX2_init 48 = .ok (.aload_n 0, 1) := by decide +kernel
theorem dX2_init_49 : decode cX2_init 49 = .ok (.new 39, 3) := by decide +kernel
theorem dX2_init_52 : decode cX2_init 52 = .ok (.dup, 1) := by decide +kernel
theorem dX2_init_53 : decode cX2_init 53 = .ok (.invokespecial 41, 3) := by decide +kernel
theorem dX2_init_56 : decode cX2_init 56 = .ok (.putfield 42, 3) := by decide +kernel
theorem dX2_init_59 : decode cX2_init 59 = .ok (.aload_n 0, 1) := by decide +kernel
theorem dX2_init_60 : decode cX2_init 60 = .ok (.bipush 20, 2) := by decide +kernel
theorem dX2_init_62 : decode cX2_init 62 = .ok (.putfield 46, 3) := by decide +kernel
theorem dX2_init_65 : decode cX2_init 65 = .ok (.aload_n 0, 1) := by decide +kernel
theorem dX2_init_66 : decode cX2_init 66 = .ok (.iconst 2, 1) := by decide +kernel
theorem dX2_init_67 : decode cX2_init 67 = .ok (.putfield 50, 3) := by decide +kernel
theorem dX2_init_70 : decode cX2_init 70 = .ok (.return_, 1) := by decide +kernel
set_option maxRecDepth 20000 in
theorem ggX2_comeIn_X0_isFull : GoodIn wsX2_comeIn wsX0_isFull := goodIn_r _ [10, 11, 189, 190, 191, 192] (by decide +kernel) (by decide +kernel)
set_option maxRecDepth 20000 in
theorem gX2_comeIn_X0_isFull : GoodIn wsX2_comeIn (wsV RX2 76 RX0 yX0_isFull wsX0_isFull) := goodIn_app (goodIn_of _ (by decide +kernel)) ggX2_comeIn_X0_isFull
set_option maxRecDepth 20000 in
theorem ggX2_comeIn_X4_become : GoodIn wsX2_comeIn wsX4_become := goodIn_r _ [16, 17, 18, 19, 20, 21, 22, 183, 184, 185, 186, 187, 188] (by decide +kernel) (by decide +kernel)
set_option maxRecDepth 20000 in
theorem gX2_comeIn_X4_become : GoodIn wsX2_comeIn (wsV RX2 80 RX4 yX4_become wsX4_become) := goodIn_app (goodIn_of _ (by decide +kernel)) ggX2_comeIn_X4_become
set_option maxRecDepth 20000 in
theorem ggX2_comeIn_X2_meet : GoodIn wsX2_comeIn wsX2_meet := goodIn_r _ [27, 4, 28, 5, 2, 29, 30, 31, 32, 9, 33, 34, 35, 36, 37, 38, 11, 39, 40, 41, 42, 43, 44, 45, 46, 47, 26, 48, 49, 50, 51, 52, 53, 54, 55, 56, 57, 58, 59, 60, 61, 62, 63, 64, 65, 66, 67, 68, 69, 70, 71, 72, 73, 74, 75, 76, 77, 78, 79, 80, 81, 82, 83, 84, 85, 86, 87, 88, 89, 90, 91, 92, 93, 94, 95, 96, 97, 98, 99, 100, 101, 102, 103, 104, 105, 106, 107, 108, 109, 110, 111, 112, 113, 114, 115, 116, 117, 118, 119, 120, 121, 122, 123, 124, 125, 126, 127, 128, 129, 130, 131, 132, 133, 134, 135, 136, 137, 138, 139, 140, 141, 142, 143, 144, 145, 146, 147, 148, 149, 150, 171, 172, 173, 174, 175, 176, 177, 178, 179, 180, 181, 182, 183, 184, 185, 186, 187, 188, 189, 190, 191, 192, 193, 194, 195, 196, 197, 198, 199, 200, 201, 202, 203, 204, 205, 206, 207] (by decide +kernel) (by decide +kernel)
set_option maxRecDepth 20000 in
theorem gX2_comeIn_X2_meet : GoodIn wsX2_comeIn (wsV RX2 84 RX2 yX2_meet wsX2_meet) := goodIn_app (goodIn_of _ (by decide +kernel)) ggX2_comeIn_X2_meet
set_option maxRecDepth 20000 in
theorem ggX2_comeIn_X2_restComing : GoodIn wsX2_comeIn wsX2_restComing := goodIn_r _ [154, 2, 4, 28, 29, 1, 5, 155, 156, 30, 31, 32, 9, 33, 34, 35, 36, 37, 38, 11, 39, 40, 41, 42, 43, 44, 157, 158, 159, 160, 161, 7, 8, 10, 162, 163, 164, 15, 165, 17, 18, 19, 20, 21, 22, 166, 13, 14, 16, 167, 168, 169, 170, 76, 77, 78, 171, 172, 173, 174, 175, 176, 177, 178, 179, 180, 181, 182, 183, 184, 185, 186, 187, 188, 189, 190, 191, 192] (by decide +kernel) (by decide +kernel)
set_option maxRecDepth 20000 in
theorem gX2_comeIn_X2_restComing : GoodIn wsX2_comeIn (wsV RX2 91 RX2 yX2_restComing wsX2_restComing) := goodIn_app (goodIn_of _ (by decide +kernel)) ggX2_comeIn_X2_restComing
theorem dX2_comeIn_0 : decode cX2_comeIn 0 = .ok (.aload_n 0, 1) := by decide +kernel
theorem dX2_comeIn_1 : decode cX2_comeIn 1 = .ok (.getfield 60, 3) := by decide +kernel
theorem dX2_comeIn_4 : decode cX2_comeIn 4 = .ok (.ifCond .eq 16, 3) := by decide +kernel
theorem dX2_comeIn_7 : decode cX2_comeIn 7 = .ok (.aload_n 0, 1) := by decide +kernel
theorem dX2_comeIn_8 : decode cX2_comeIn 8 = .ok (.getfield 12, 3) := by decide +kernel
theorem dX2_comeIn_11 : decode cX2_comeIn 11 = .ok (.invokevirtual 76, 3) := by decide +kernel
theorem dX2_comeIn_14 : decode cX2_comeIn 14 = .ok (.ifCond .eq 6, 3) := by decide +kernel
theorem dX2_comeIn_17 : decode cX2_comeIn 17 = .ok (.bipush (-3), 2) := by decide +kernel
theorem dX2_comeIn_19 : decode cX2_comeIn 19 = .ok (.ireturn, 1) := by decide +kernel
theorem dX2_comeIn_20 : decode cX2_comeIn 20 = .ok (.aload_n 0, 1) := by decide +kernel
theorem dX2_comeIn_21 : decode cX2_comeIn 21 = .ok (.dup, 1) := by decide +kernel
theorem dX2_comeIn_22 : decode cX2_comeIn 22 = .ok (.getfield 64, 3) := by decide +kernel
theorem dX2_comeIn_25 : decode cX2_comeIn 25 = .ok (.iconst 1, 1) := by decide +kernel
theorem dX2_comeIn_26 : decode cX2_comeIn 26 = .ok (.iadd, 1) := by decide +kernel
theorem dX2_comeIn_27 : decode cX2_comeIn 27 = .ok (.putfield 64, 3) := by decide +kernel
theorem dX2_comeIn_30 : decode cX2_comeIn 30 = .ok (.aload_n 0, 1) := by decide +kernel
theorem dX2_comeIn_31 : decode cX2_comeIn 31 = .ok (.getfield 42, 3) := by decide +kernel
theorem dX2_comeIn_34 : decode cX2_comeIn 34 = .ok (.aload_n 0, 1) := by decide +kernel
theorem dX2_comeIn_35 : decode cX2_comeIn 35 = .ok (.getfield 64, 3) := by decide +kernel
theorem dX2_comeIn_38 : decode cX2_comeIn 38 = .ok (.iload_n 1, 1) := by decide +kernel
theorem dX2_comeIn_39 : decode cX2_comeIn 39 = .ok (.iload_n 2, 1) := by decide +kernel
theorem dX2_comeIn_40 : decode cX2_comeIn 40 = .ok (.iload_n 3, 1) := by decide +kernel
theorem dX2_comeIn_41 : decode cX2_comeIn 41 = .ok (.iload 4, 2) := by decide +kernel
theorem dX2_comeIn_43 : decode cX2_comeIn 43 = .ok (.invokevirtual 80, 3) := by decide +kernel
theorem dX2_comeIn_46 : decode cX2_comeIn 46 = .ok (.aload_n 0, 1) := by decide +kernel
theorem dX2_comeIn_47 : decode cX2_comeIn 47 = .ok (.getfield 60, 3) := by decide +kernel
theorem dX2_comeIn_50 : decode cX2_comeIn 50 = .ok (.ifCond .ne 9, 3) := by decide +kernel
theorem dX2_comeIn_53 : decode cX2_comeIn 53 = .ok (.aload_n 0, 1) := by decide +kernel
theorem dX2_comeIn_54 : decode cX2_comeIn 54 = .ok (.iload 5, 2) := by decide +kernel
theorem dX2_comeIn_56 : decode cX2_comeIn 56 = .ok (.invokevirtual 84, 3) := by decide +kernel
theorem dX2_comeIn_59 : decode cX2_comeIn 59 = .ok (.aload_n 0, 1) := by decide +kernel
theorem dX2_comeIn_60 : decode cX2_comeIn 60 = .ok (.getfield 12, 3) := by decide +kernel
theorem dX2_comeIn_63 : decode cX2_comeIn 63 = .ok (.invokevirtual 76, 3) := by decide +kernel
theorem dX2_comeIn_66 : decode cX2_comeIn 66 = .ok (.ifCond .eq 11, 3) := by decide +kernel
theorem dX2_comeIn_69 : decode cX2_comeIn 69 = .ok (.aload_n 0, 1) := by decide +kernel
theorem dX2_comeIn_70 : decode cX2_comeIn 70 = .ok (.getfield 42, 3) := by decide +kernel
theorem dX2_comeIn_73 : decode cX2_comeIn 73 = .ok (.iconst 0, 1) := by decide +kernel
theorem dX2_comeIn_74 : decode cX2_comeIn 74 = .ok (.putfield 88, 3) := by decide +kernel
theorem dX2_comeIn_77 : decode cX2_comeIn 77 = .ok (.aload_n 0, 1) := by decide +kernel
theorem dX2_comeIn_78 : decode cX2_comeIn 78 = .ok (.getfield 42, 3) := by decide +kernel
theorem dX2_comeIn_81 : decode cX2_comeIn 81 = .ok (.getfield 88, 3) := by decide +kernel
theorem dX2_comeIn_84 : decode cX2_comeIn 84 = .ok (.ifCond .le 7, 3) := by decide +kernel
theorem dX2_comeIn_87 : decode cX2_comeIn 87 = .ok (.aload_n 0, 1) := by decide +kernel
theorem dX2_comeIn_88 : decode cX2_comeIn 88 = .ok (.invokevirtual 91, 3) := by decide +kernel
theorem dX2_comeIn_91 : decode cX2_comeIn 91 = .ok (.aload_n 0, 1) := by decide +kernel
theorem dX2_comeIn_92 : decode cX2_comeIn 92 = .ok (.getfield 64, 3) := by decide +kernel
theorem dX2_comeIn_95 : decode cX2_comeIn 95 = .ok (.ireturn, 1) := by decide +kernel
set_option maxRecDepth 20000 in
theorem ggX2_restComing_X0_best : GoodIn wsX2_restComing wsX0_best := goodIn_r _ [13, 14, 15, 16, 17, 12, 18, 19, 20, 21, 22, 23, 24, 25, 74, 75, 76, 77, 68, 69, 70, 71, 72, 73] (by decide +kernel) (by decide +kernel)
set_option maxRecDepth 20000 in
theorem gX2_restComing_X0_best : GoodIn wsX2_restComing (wsV RX2 97 RX0 yX0_best wsX0_best) := goodIn_app (goodIn_of _ (by decide +kernel)) ggX2_restComing_X0_best
set_option maxRecDepth 20000 in
theorem ggX2_restComing_X7_isBetter : GoodIn wsX2_restComing wsX7_isBetter := goodIn_r _ [25] (by decide +kernel) (by decide +kernel)
set_option maxRecDepth 20000 in
theorem gX2_restComing_X7_isBetter_n104 : GoodIn wsX2_restComing (wsX7_isBetter) := ggX2_restComing_X7_isBetter
set_option maxRecDepth 20000 in
theorem ggX2_restComing_X0_add : GoodIn wsX2_restComing wsX0_add := goodIn_r _ [29, 20, 19, 30, 31, 32, 12, 33, 34, 35, 36, 37, 38, 39, 40, 41, 42, 43, 44, 45, 46, 47, 48, 74, 75, 76, 77, 68, 69, 70, 71, 72, 73] (by decide +kernel) (by decide +kernel)
set_option maxRecDepth 20000 in
theorem gX2_restComing_X0_add : GoodIn wsX2_restComing (wsV RX2 108 RX0 yX0_add wsX0_add) := goodIn_app (goodIn_of _ (by decide +kernel)) ggX2_restComing_X0_add
set_option maxRecDepth 20000 in
theorem ggX2_restComing_X0_makeTop : GoodIn wsX2_restComing wsX0_makeTop := goodIn_r _ [52, 53, 21, 54, 55, 74, 75, 76, 77, 68, 69, 70, 71, 72, 73] (by decide +kernel) (by decide +kernel)
set_option maxRecDepth 20000 in
theorem gX2_restComing_X0_makeTop : GoodIn wsX2_restComing (wsV RX2 115 RX0 yX0_makeTop wsX0_makeTop) := goodIn_app (goodIn_of _ (by decide +kernel)) ggX2_restComing_X0_makeTop
theorem dX2_restComing_0 : decode cX2_restComing 0 = .ok (.aload_n 0, 1) := by decide +kernel
theorem dX2_restComing_1 : decode cX2_restComing 1 = .ok (.getfield 12, 3) := by decide +kernel
theorem dX2_restComing_4 : decode cX2_restComing 4 = .ok (.aload_n 0, 1) := by decide +kernel
theorem dX2_restComing_5 : decode cX2_restComing 5 = .ok (.getfield 42, 3) := by decide +kernel
theorem dX2_restComing_8 : decode cX2_restComing 8 = .ok (.getfield 94, 3) := by decide +kernel
theorem dX2_restComing_11 : decode cX2_restComing 11 = .ok (.invokevirtual 97, 3) := by decide +kernel
theorem dX2_restComing_14 : decode cX2_restComing 14 = .ok (.istore_n 1, 1) := by decide +kernel
theorem dX2_restComing_15 : decode cX2_restComing 15 = .ok (.iload_n 1, 1) := by decide +kernel
theorem dX2_restComing_16 : decode cX2_restComing 16 = .ok (.ifCond .eq 24, 3) := by decide +kernel
theorem dX2_restComing_19 : decode cX2_restComing 19 = .ok (.aload_n 0, 1) := by decide +kernel
theorem dX2_restComing_20 : decode cX2_restComing 20 = .ok (.getfield 42, 3) := by decide +kernel
theorem dX2_restComing_23 : decode cX2_restComing 23 = .ok (.getfield 94, 3) := by decide +kernel
theorem dX2_restComing_26 : decode cX2_restComing 26 = .ok (.aload_n 0, 1) := by decide +kernel
theorem dX2_restComing_27 : decode cX2_restComing 27 = .ok (.getfield 42, 3) := by decide +kernel
theorem dX2_restComing_30 : decode cX2_restComing 30 = .ok (.getfield 101, 3) := by decide +kernel
theorem dX2_restComing_33 : decode cX2_restComing 33 = .ok (.iload_n 1, 1) := by decide +kernel
theorem dX2_restComing_34 : decode cX2_restComing 34 = .ok (.invokestatic 104, 3) := by decide +kernel
theorem dX2_restComing_37 : decode cX2_restComing 37 = .ok (.ifCond .eq 7, 3) := by decide +kernel
theorem dX2_restComing_40 : decode cX2_restComing 40 = .ok (.iconst 1, 1) := by decide +kernel
theorem dX2_restComing_41 : decode cX2_restComing 41 = .ok (.goto 4, 3) := by decide +kernel
theorem dX2_restComing_44 : decode cX2_restComing 44 = .ok (.iconst 0, 1) := by decide +kernel
theorem dX2_restComing_45 : decode cX2_restComing 45 = .ok (.istore_n 2, 1) := by decide +kernel
theorem dX2_restComing_46 : decode cX2_restComing 46 = .ok (.aload_n 0, 1) := by decide +kernel
theorem dX2_restComing_47 : decode cX2_restComing 47 = .ok (.getfield 12, 3) := by decide +kernel
theorem dX2_restComing_50 : decode cX2_restComing 50 = .ok (.aload_n 0, 1) := by decide +kernel
theorem dX2_restComing_51 : decode cX2_restComing 51 = .ok (.getfield 42, 3) := by decide +kernel
theorem dX2_restComing_54 : decode cX2_restComing 54 = .ok (.invokevirtual 108, 3) := by decide +kernel
theorem dX2_restComing_57 : decode cX2_restComing 57 = .ok (.aload_n 0, 1) := by decide +kernel
theorem dX2_restComing_58 : decode cX2_restComing 58 = .ok (.getfield 60, 3) := by decide +kernel
theorem dX2_restComing_61 : decode cX2_restComing 61 = .ok (.ifCond .ne 46, 3) := by decide +kernel
theorem dX2_restComing_64 : decode cX2_restComing 64 = .ok (.iload_n 2, 1) := by decide +kernel
theorem dX2_restComing_65 : decode cX2_restComing 65 = .ok (.ifCond .eq 42, 3) := by decide +kernel
theorem dX2_restComing_68 : decode cX2_restComing 68 = .ok (.aload_n 0, 1) := by decide +kernel
theorem dX2_restComing_69 : decode cX2_restComing 69 = .ok (.getfield 42, 3) := by decide +kernel
theorem dX2_restComing_72 : decode cX2_restComing 72 = .ok (.getfield 88, 3) := by decide +kernel
theorem dX2_restComing_75 : decode cX2_restComing 75 = .ok (.aload_n 0, 1) := by decide +kernel
theorem dX2_restComing_76 : decode cX2_restComing 76 = .ok (.getfield 42, 3) := by decide +kernel
theorem dX2_restComing_79 : decode cX2_restComing 79 = .ok (.getfield 112, 3) := by decide +kernel
theorem dX2_restComing_82 : decode cX2_restComing 82 = .ok (.if_icmp .ne 25, 3) := by decide +kernel
theorem dX2_restComing_85 : decode cX2_restComing 85 = .ok (.aload_n 0, 1) := by decide +kernel
theorem dX2_restComing_86 : decode cX2_restComing 86 = .ok (.getfield 46, 3) := by decide +kernel
theorem dX2_restComing_89 : decode cX2_restComing 89 = .ok (.ifCond .le 18, 3) := by decide +kernel
theorem dX2_restComing_92 : decode cX2_restComing 92 = .ok (.aload_n 0, 1) := by decide +kernel
theorem dX2_restComing_93 : decode cX2_restComing 93 = .ok (.getfield 12, 3) := by decide +kernel
theorem dX2_restComing_96 : decode cX2_restComing 96 = .ok (.aload_n 0, 1) := by decide +kernel
theorem dX2_restComing_97 : decode cX2_restComing 97 = .ok (.getfield 42, 3) := by decide +kernel
theorem dX2_restComing_100 : decode cX2_restComing 100 = .ok (.aload_n 0, 1) := by decide +kernel
theorem dX2_restComing_101 : decode cX2_restComing 101 = .ok (.getfield 46, 3) := by decide +kernel
theorem dX2_restComing_104 : decode cX2_restComing 104 = .ok (.invokevirtual 115, 3) := by decide +kernel
theorem dX2_restComing_107 : decode cX2_restComing 107 = .ok (.return_, 1) := by decide +kernel
set_option maxRecDepth 20000 in
theorem ggX2_meet_X0_best : GoodIn wsX2_meet wsX0_best := goodIn_r _ [10, 11, 12, 13, 14, 9, 15, 16, 17, 18, 19, 20, 21, 22, 148, 149, 150, 151, 142, 143, 144, 145, 146, 147] (by decide +kernel) (by decide +kernel)
set_option maxRecDepth 20000 in
theorem gX2_meet_X0_best : GoodIn wsX2_meet (wsV RX2 97 RX0 yX0_best wsX0_best) := goodIn_app (goodIn_of _ (by decide +kernel)) ggX2_meet_X0_best
set_option maxRecDepth 20000 in
theorem ggX2_meet_X7_isBetter : GoodIn wsX2_meet wsX7_isBetter := goodIn_r _ [22] (by decide +kernel) (by decide +kernel)
set_option maxRecDepth 20000 in
theorem gX2_meet_X7_isBetter_n104 : GoodIn wsX2_meet (wsX7_isBetter) := ggX2_meet_X7_isBetter
set_option maxRecDepth 20000 in
theorem ggX2_meet_X2_preventSelf : GoodIn wsX2_meet wsX2_preventSelf := goodIn_r _ [27, 4, 28, 29, 30, 1, 3, 31, 32, 33, 9, 34, 17, 18, 19, 35, 36, 37, 26, 38, 39, 40, 41, 42, 43, 44, 45, 46, 47, 48, 49, 16, 50, 51, 52, 53, 54, 55, 56, 57, 130, 131, 132, 133, 134, 135, 136, 137, 138, 139, 140, 141, 148, 149, 150, 151, 142, 143, 144, 145, 146, 147] (by decide +kernel) (by decide +kernel)
set_option maxRecDepth 20000 in
theorem gX2_meet_X2_preventSelf : GoodIn wsX2_meet (wsV RX2 119 RX2 yX2_preventSelf wsX2_preventSelf) := goodIn_app (goodIn_of _ (by decide +kernel)) ggX2_meet_X2_preventSelf
set_option maxRecDepth 20000 in
theorem ggX2_meet_X2_takeAt : GoodIn wsX2_meet wsX2_takeAt := goodIn_r _ [61, 62, 4, 1, 3, 63, 41, 42, 43, 44, 64, 65, 66, 67, 68, 69, 30, 2, 70, 71, 72, 73, 74, 75, 76, 77, 78, 79, 80, 81, 32, 33, 9, 34, 17, 18, 19, 82, 83, 84, 85, 55, 56, 57, 86, 87, 88, 89, 90, 91, 92, 93, 94, 95, 96, 97, 98, 99, 100, 101, 102, 103, 104, 105, 106, 26, 107, 108, 109, 110, 111, 112, 113, 114, 115, 116, 117, 118, 119, 120, 121, 122, 123, 124, 125, 126, 127, 128, 129, 46, 47, 48, 49, 16, 50, 51, 52, 53, 54, 130, 131, 132, 133, 134, 135, 136, 137, 138, 139, 140, 141, 142, 143, 144, 145, 146, 147, 152, 153, 154, 155, 156, 157, 158, 159, 160, 161, 162, 163, 164, 165, 166, 148, 149, 150, 151] (by decide +kernel) (by decide +kernel)
set_option maxRecDepth 20000 in
theorem gX2_meet_X2_takeAt : GoodIn wsX2_meet (wsV RX2 123 RX2 yX2_takeAt wsX2_takeAt) := goodIn_app (goodIn_of _ (by decide +kernel)) ggX2_meet_X2_takeAt
theorem dX2_meet_0 : decode cX2_meet 0 = .ok (.aload_n 0, 1) := by decide +kernel
theorem dX2_meet_1 : decode cX2_meet 1 = .ok (.getfield 42, 3) := by decide +kernel
theorem dX2_meet_4 : decode cX2_meet 4 = .ok (.getfield 94, 3) := by decide +kernel
theorem dX2_meet_7 : decode cX2_meet 7 = .ok (.ifCond .ne 7, 3) := by decide +kernel
theorem dX2_meet_10 : decode cX2_meet 10 = .ok (.iconst 1, 1) := by decide +kernel
theorem dX2_meet_11 : decode cX2_meet 11 = .ok (.goto 4, 3) := by decide +kernel
theorem dX2_meet_14 : decode cX2_meet 14 = .ok (.iconst 0, 1) := by decide +kernel
theorem dX2_meet_15 : decode cX2_meet 15 = .ok (.istore_n 2, 1) := by decide +kernel
theorem dX2_meet_16 : decode cX2_meet 16 = .ok (.iconst 0, 1) := by decide +kernel
theorem dX2_meet_17 : decode cX2_meet 17 = .ok (.istore_n 3, 1) := by decide +kernel
theorem dX2_meet_18 : decode cX2_meet 18 = .ok (.iload_n 3, 1) := by decide +kernel
theorem dX2_meet_19 : decode cX2_meet 19 = .ok (.bipush 60, 2) := by decide +kernel
theorem dX2_meet_21 : decode cX2_meet 21 = .ok (.if_icmp .ge 76, 3) := by decide +kernel
theorem dX2_meet_24 : decode cX2_meet 24 = .ok (.aload_n 0, 1) := by decide +kernel
theorem dX2_meet_25 : decode cX2_meet 25 = .ok (.getfield 42, 3) := by decide +kernel
theorem dX2_meet_28 : decode cX2_meet 28 = .ok (.getfield 88, 3) := by decide +kernel
theorem dX2_meet_31 : decode cX2_meet 31 = .ok (.ifCond .le 66, 3) := by decide +kernel
theorem dX2_meet_34 : decode cX2_meet 34 = .ok (.aload_n 0, 1) := by decide +kernel
theorem dX2_meet_35 : decode cX2_meet 35 = .ok (.getfield 12, 3) := by decide +kernel
theorem dX2_meet_38 : decode cX2_meet 38 = .ok (.iload_n 2, 1) := by decide +kernel
end
section
theorem dX2_meet_39 : decode cX2_meet 39 = .ok (.invokevirtual 97, 3) := by decide +kernel
theorem dX2_meet_42 : decode cX2_meet 42 = .ok (.istore 4, 2) := by decide +kernel
theorem dX2_meet_44 : decode cX2_meet 44 = .ok (.iload 4, 2) := by decide +kernel
theorem dX2_meet_46 : decode cX2_meet 46 = .ok (.ifCond .eq 19, 3) := by decide +kernel
theorem dX2_meet_49 : decode cX2_meet 49 = .ok (.iload_n 2, 1) := by decide +kernel
theorem dX2_meet_50 : decode cX2_meet 50 = .ok (.aload_n 0, 1) := by decide +kernel
theorem dX2_meet_51 : decode cX2_meet 51 = .ok (.getfield 42, 3) := by decide +kernel
theorem dX2_meet_54 : decode cX2_meet 54 = .ok (.getfield 101, 3) := by decide +kernel
theorem dX2_meet_57 : decode cX2_meet 57 = .ok (.iload 4, 2) := by decide +kernel
theorem dX2_meet_59 : decode cX2_meet 59 = .ok (.invokestatic 104, 3) := by decide +kernel
theorem dX2_meet_62 : decode cX2_meet 62 = .ok (.ifCond .eq 4, 3) := by decide +kernel
theorem dX2_meet_65 : decode cX2_meet 65 = .ok (.return_, 1) := by decide +kernel
theorem dX2_meet_66 : decode cX2_meet 66 = .ok (.aload_n 0, 1) := by decide +kernel
theorem dX2_meet_67 : decode cX2_meet 67 = .ok (.iload_n 2, 1) := by decide +kernel
theorem dX2_meet_68 : decode cX2_meet 68 = .ok (.iload 4, 2) := by decide +kernel
theorem dX2_meet_70 : decode cX2_meet 70 = .ok (.iload_n 1, 1) := by decide +kernel
theorem dX2_meet_71 : decode cX2_meet 71 = .ok (.invokevirtual 119, 3) := by decide +kernel
theorem dX2_meet_74 : decode cX2_meet 74 = .ok (.aload_n 0, 1) := by decide +kernel
theorem dX2_meet_75 : decode cX2_meet 75 = .ok (.getfield 42, 3) := by decide +kernel
theorem dX2_meet_78 : decode cX2_meet 78 = .ok (.getfield 88, 3) := by decide +kernel
theorem dX2_meet_81 : decode cX2_meet 81 = .ok (.ifCond .le 10, 3) := by decide +kernel
theorem dX2_meet_84 : decode cX2_meet 84 = .ok (.aload_n 0, 1) := by decide +kernel
theorem dX2_meet_85 : decode cX2_meet 85 = .ok (.iload_n 2, 1) := by decide +kernel
theorem dX2_meet_86 : decode cX2_meet 86 = .ok (.iload 4, 2) := by decide +kernel
theorem dX2_meet_88 : decode cX2_meet 88 = .ok (.invokevirtual 123, 3) := by decide +kernel
theorem dX2_meet_91 : decode cX2_meet 91 = .ok (.iinc 3 1, 3) := by decide +kernel
theorem dX2_meet_94 : decode cX2_meet 94 = .ok (.goto (-76), 3) := by decide +kernel
theorem dX2_meet_97 : decode cX2_meet 97 = .ok (.return_, 1) := by decide +kernel
set_option maxRecDepth 20000 in
theorem ggX2_preventSelf_X0_isAt : GoodIn wsX2_preventSelf wsX0_isAt := goodIn_r _ [11, 12, 13, 14, 52, 53, 54, 55, 56, 57, 58, 59, 60, 61] (by decide +kernel) (by decide +kernel)
set_option maxRecDepth 20000 in
theorem gX2_preventSelf_X0_isAt : GoodIn wsX2_preventSelf (wsV RX2 134 RX0 yX0_isAt wsX0_isAt) := goodIn_app (goodIn_of _ (by decide +kernel)) ggX2_preventSelf_X0_isAt
set_option maxRecDepth 20000 in
theorem ggX2_preventSelf_X2_loseOwn : GoodIn wsX2_preventSelf wsX2_loseOwn := goodIn_r _ [19, 20, 6, 21, 5, 22, 23, 24, 25, 26, 40, 41, 42, 43, 44, 45, 46, 47, 48, 49, 50, 51, 56, 57, 58, 59, 60, 61] (by decide +kernel) (by decide +kernel)
set_option maxRecDepth 20000 in
theorem gX2_preventSelf_X2_loseOwn : GoodIn wsX2_preventSelf (wsV RX2 140 RX2 yX2_loseOwn wsX2_loseOwn) := goodIn_app (goodIn_of _ (by decide +kernel)) ggX2_preventSelf_X2_loseOwn
set_option maxRecDepth 20000 in
theorem ggX2_preventSelf_X0_sweep : GoodIn wsX2_preventSelf wsX0_sweep := goodIn_r _ [30, 31, 12, 32, 33, 34, 35, 10, 36, 37, 13, 38, 39, 52, 53, 54, 55, 56, 57, 58, 59, 60, 61] (by decide +kernel) (by decide +kernel)
set_option maxRecDepth 20000 in
theorem gX2_preventSelf_X0_sweep : GoodIn wsX2_preventSelf (wsV RX2 143 RX0 yX0_sweep wsX0_sweep) := goodIn_app (goodIn_of _ (by decide +kernel)) ggX2_preventSelf_X0_sweep
theorem dX2_preventSelf_0 : decode cX2_preventSelf 0 = .ok (.iconst 0, 1) := by decide +kernel
theorem dX2_preventSelf_1 : decode cX2_preventSelf 1 = .ok (.istore 4, 2) := by decide +kernel
theorem dX2_preventSelf_3 : decode cX2_preventSelf 3 = .ok (.iconst 0, 1) := by decide +kernel
theorem dX2_preventSelf_4 : decode cX2_preventSelf 4 = .ok (.istore 5, 2) := by decide +kernel
theorem dX2_preventSelf_6 : decode cX2_preventSelf 6 = .ok (.iload 5, 2) := by decide +kernel
theorem dX2_preventSelf_8 : decode cX2_preventSelf 8 = .ok (.aload_n 0, 1) := by decide +kernel
theorem dX2_preventSelf_9 : decode cX2_preventSelf 9 = .ok (.getfield 12, 3) := by decide +kernel
theorem dX2_preventSelf_12 : decode cX2_preventSelf 12 = .ok (.getfield 127, 3) := by decide +kernel
theorem dX2_preventSelf_15 : decode cX2_preventSelf 15 = .ok (.if_icmp .ge 60, 3) := by decide +kernel
theorem dX2_preventSelf_18 : decode cX2_preventSelf 18 = .ok (.aload_n 0, 1) := by decide +kernel
theorem dX2_preventSelf_19 : decode cX2_preventSelf 19 = .ok (.getfield 12, 3) := by decide +kernel
theorem dX2_preventSelf_22 : decode cX2_preventSelf 22 = .ok (.getfield 130, 3) := by decide +kernel
theorem dX2_preventSelf_25 : decode cX2_preventSelf 25 = .ok (.iload 5, 2) := by decide +kernel
theorem dX2_preventSelf_27 : decode cX2_preventSelf 27 = .ok (.aaload, 1) := by decide +kernel
theorem dX2_preventSelf_28 : decode cX2_preventSelf 28 = .ok (.astore 6, 2) := by decide +kernel
theorem dX2_preventSelf_30 : decode cX2_preventSelf 30 = .ok (.aload_n 0, 1) := by decide +kernel
theorem dX2_preventSelf_31 : decode cX2_preventSelf 31 = .ok (.getfield 12, 3) := by decide +kernel
theorem dX2_preventSelf_34 : decode cX2_preventSelf 34 = .ok (.iload 5, 2) := by decide +kernel
theorem dX2_preventSelf_36 : decode cX2_preventSelf 36 = .ok (.iload_n 1, 1) := by decide +kernel
theorem dX2_preventSelf_37 : decode cX2_preventSelf 37 = .ok (.iload_n 2, 1) := by decide +kernel
theorem dX2_preventSelf_38 : decode cX2_preventSelf 38 = .ok (.invokevirtual 134, 3) := by decide +kernel
theorem dX2_preventSelf_41 : decode cX2_preventSelf 41 = .ok (.ifCond .eq 28, 3) := by decide +kernel
theorem dX2_preventSelf_44 : decode cX2_preventSelf 44 = .ok (.aload 6, 2) := by decide +kernel
theorem dX2_preventSelf_46 : decode cX2_preventSelf 46 = .ok (.getfield 137, 3) := by decide +kernel
theorem dX2_preventSelf_49 : decode cX2_preventSelf 49 = .ok (.aload_n 0, 1) := by decide +kernel
theorem dX2_preventSelf_50 : decode cX2_preventSelf 50 = .ok (.getfield 42, 3) := by decide +kernel
theorem dX2_preventSelf_53 : decode cX2_preventSelf 53 = .ok (.getfield 137, 3) := by decide +kernel
theorem dX2_preventSelf_56 : decode cX2_preventSelf 56 = .ok (.if_icmp .ne 13, 3) := by decide +kernel
theorem dX2_preventSelf_59 : decode cX2_preventSelf 59 = .ok (.iconst 1, 1) := by decide +kernel
theorem dX2_preventSelf_60 : decode cX2_preventSelf 60 = .ok (.istore 4, 2) := by decide +kernel
theorem dX2_preventSelf_62 : decode cX2_preventSelf 62 = .ok (.aload_n 0, 1) := by decide +kernel
theorem dX2_preventSelf_63 : decode cX2_preventSelf 63 = .ok (.aload 6, 2) := by decide +kernel
theorem dX2_preventSelf_65 : decode cX2_preventSelf 65 = .ok (.iload_n 3, 1) := by decide +kernel
theorem dX2_preventSelf_66 : decode cX2_preventSelf 66 = .ok (.invokevirtual 140, 3) := by decide +kernel
theorem dX2_preventSelf_69 : decode cX2_preventSelf 69 = .ok (.iinc 5 1, 3) := by decide +kernel
theorem dX2_preventSelf_72 : decode cX2_preventSelf 72 = .ok (.goto (-66), 3) := by decide +kernel
theorem dX2_preventSelf_75 : decode cX2_preventSelf 75 = .ok (.iload 4, 2) := by decide +kernel
theorem dX2_preventSelf_77 : decode cX2_preventSelf 77 = .ok (.ifCond .eq 21, 3) := by decide +kernel
theorem dX2_preventSelf_80 : decode cX2_preventSelf 80 = .ok (.iload_n 3, 1) := by decide +kernel
theorem dX2_preventSelf_81 : decode cX2_preventSelf 81 = .ok (.iconst 1, 1) := by decide +kernel
theorem dX2_preventSelf_82 : decode cX2_preventSelf 82 = .ok (.if_icmp .eq 8, 3) := by decide +kernel
theorem dX2_preventSelf_85 : decode cX2_preventSelf 85 = .ok (.iload_n 3, 1) := by decide +kernel
theorem dX2_preventSelf_86 : decode cX2_preventSelf 86 = .ok (.iconst 2, 1) := by decide +kernel
theorem dX2_preventSelf_87 : decode cX2_preventSelf 87 = .ok (.if_icmp .ne 11, 3) := by decide +kernel
theorem dX2_preventSelf_90 : decode cX2_preventSelf 90 = .ok (.aload_n 0, 1) := by decide +kernel
theorem dX2_preventSelf_91 : decode cX2_preventSelf 91 = .ok (.getfield 42, 3) := by decide +kernel
theorem dX2_preventSelf_94 : decode cX2_preventSelf 94 = .ok (.iconst 0, 1) := by decide +kernel
theorem dX2_preventSelf_95 : decode cX2_preventSelf 95 = .ok (.putfield 88, 3) := by decide +kernel
theorem dX2_preventSelf_98 : decode cX2_preventSelf 98 = .ok (.aload_n 0, 1) := by decide +kernel
theorem dX2_preventSelf_99 : decode cX2_preventSelf 99 = .ok (.getfield 12, 3) := by decide +kernel
theorem dX2_preventSelf_102 : decode cX2_preventSelf 102 = .ok (.invokevirtual 143, 3) := by decide +kernel
theorem dX2_preventSelf_105 : decode cX2_preventSelf 105 = .ok (.return_, 1) := by decide +kernel
theorem dX2_loseOwn_0 : decode cX2_loseOwn 0 = .ok (.iload_n 2, 1) := by decide +kernel
theorem dX2_loseOwn_1 : decode cX2_loseOwn 1 = .ok (.ifCond .eq 8, 3) := by decide +kernel
theorem dX2_loseOwn_4 : decode cX2_loseOwn 4 = .ok (.iload_n 2, 1) := by decide +kernel
theorem dX2_loseOwn_5 : decode cX2_loseOwn 5 = .ok (.iconst 2, 1) := by decide +kernel
theorem dX2_loseOwn_6 : decode cX2_loseOwn 6 = .ok (.if_icmp .ne 34, 3) := by decide +kernel
theorem dX2_loseOwn_9 : decode cX2_loseOwn 9 = .ok (.aload_n 0, 1) := by decide +kernel
theorem dX2_loseOwn_10 : decode cX2_loseOwn 10 = .ok (.dup, 1) := by decide +kernel
theorem dX2_loseOwn_11 : decode cX2_loseOwn 11 = .ok (.getfield 70, 3) := by decide +kernel
theorem dX2_loseOwn_14 : decode cX2_loseOwn 14 = .ok (.aload_n 1, 1) := by decide +kernel
theorem dX2_loseOwn_15 : decode cX2_loseOwn 15 = .ok (.getfield 88, 3) := by decide +kernel
theorem dX2_loseOwn_18 : decode cX2_loseOwn 18 = .ok (.iadd, 1) := by decide +kernel
theorem dX2_loseOwn_19 : decode cX2_loseOwn 19 = .ok (.putfield 70, 3) := by decide +kernel
theorem dX2_loseOwn_22 : decode cX2_loseOwn 22 = .ok (.aload_n 1, 1) := by decide +kernel
theorem dX2_loseOwn_23 : decode cX2_loseOwn 23 = .ok (.iconst 0, 1) := by decide +kernel
theorem dX2_loseOwn_24 : decode cX2_loseOwn 24 = .ok (.putfield 88, 3) := by decide +kernel
theorem dX2_loseOwn_27 : decode cX2_loseOwn 27 = .ok (.aload_n 0, 1) := by decide +kernel
theorem dX2_loseOwn_28 : decode cX2_loseOwn 28 = .ok (.dup, 1) := by decide +kernel
theorem dX2_loseOwn_29 : decode cX2_loseOwn 29 = .ok (.getfield 67, 3) := by decide +kernel
theorem dX2_loseOwn_32 : decode cX2_loseOwn 32 = .ok (.iconst 1, 1) := by decide +kernel
theorem dX2_loseOwn_33 : decode cX2_loseOwn 33 = .ok (.iadd, 1) := by decide +kernel
theorem dX2_loseOwn_34 : decode cX2_loseOwn 34 = .ok (.putfield 67, 3) := by decide +kernel
theorem dX2_loseOwn_37 : decode cX2_loseOwn 37 = .ok (.goto 77, 3) := by decide +kernel
theorem dX2_loseOwn_40 : decode cX2_loseOwn 40 = .ok (.iload_n 2, 1) := by decide +kernel
theorem dX2_loseOwn_41 : decode cX2_loseOwn 41 = .ok (.iconst 3, 1) := by decide +kernel
theorem dX2_loseOwn_42 : decode cX2_loseOwn 42 = .ok (.if_icmp .ne 72, 3) := by decide +kernel
theorem dX2_loseOwn_45 : decode cX2_loseOwn 45 = .ok (.aload_n 1, 1) := by decide +kernel
theorem dX2_loseOwn_46 : decode cX2_loseOwn 46 = .ok (.getfield 88, 3) := by decide +kernel
theorem dX2_loseOwn_49 : decode cX2_loseOwn 49 = .ok (.aload_n 0, 1) := by decide +kernel
theorem dX2_loseOwn_50 : decode cX2_loseOwn 50 = .ok (.getfield 42, 3) := by decide +kernel
theorem dX2_loseOwn_53 : decode cX2_loseOwn 53 = .ok (.getfield 88, 3) := by decide +kernel
theorem dX2_loseOwn_56 : decode cX2_loseOwn 56 = .ok (.invokestatic 146, 3) := by decide +kernel
theorem dX2_loseOwn_59 : decode cX2_loseOwn 59 = .ok (.istore_n 3, 1) := by decide +kernel
theorem dX2_loseOwn_60 : decode cX2_loseOwn 60 = .ok (.aload_n 1, 1) := by decide +kernel
theorem dX2_loseOwn_61 : decode cX2_loseOwn 61 = .ok (.dup, 1) := by decide +kernel
theorem dX2_loseOwn_62 : decode cX2_loseOwn 62 = .ok (.getfield 88, 3) := by decide +kernel
theorem dX2_loseOwn_65 : decode cX2_loseOwn 65 = .ok (.iload_n 3, 1) := by decide +kernel
theorem dX2_loseOwn_66 : decode cX2_loseOwn 66 = .ok (.isub, 1) := by decide +kernel
theorem dX2_loseOwn_67 : decode cX2_loseOwn 67 = .ok (.putfield 88, 3) := by decide +kernel
theorem dX2_loseOwn_70 : decode cX2_loseOwn 70 = .ok (.aload_n 0, 1) := by decide +kernel
theorem dX2_loseOwn_71 : decode cX2_loseOwn 71 = .ok (.getfield 42, 3) := by decide +kernel
theorem dX2_loseOwn_74 : decode cX2_loseOwn 74 = .ok (.dup, 1) := by decide +kernel
theorem dX2_loseOwn_75 : decode cX2_loseOwn 75 = .ok (.getfield 88, 3) := by decide +kernel
theorem dX2_loseOwn_78 : decode cX2_loseOwn 78 = .ok (.iload_n 3, 1) := by decide +kernel
theorem dX2_loseOwn_79 : decode cX2_loseOwn 79 = .ok (.isub, 1) := by decide +kernel
theorem dX2_loseOwn_80 : decode cX2_loseOwn 80 = .ok (.putfield 88, 3) := by decide +kernel
theorem dX2_loseOwn_83 : decode cX2_loseOwn 83 = .ok (.aload_n 0, 1) := by decide +kernel
theorem dX2_loseOwn_84 : decode cX2_loseOwn 84 = .ok (.dup, 1) := by decide +kernel
theorem dX2_loseOwn_85 : decode cX2_loseOwn 85 = .ok (.getfield 73, 3) := by decide +kernel
theorem dX2_loseOwn_88 : decode cX2_loseOwn 88 = .ok (.iload_n 3, 1) := by decide +kernel
theorem dX2_loseOwn_89 : decode cX2_loseOwn 89 = .ok (.iadd, 1) := by decide +kernel
theorem dX2_loseOwn_90 : decode cX2_loseOwn 90 = .ok (.putfield 73, 3) := by decide +kernel
theorem dX2_loseOwn_93 : decode cX2_loseOwn 93 = .ok (.aload_n 0, 1) := by decide +kernel
theorem dX2_loseOwn_94 : decode cX2_loseOwn 94 = .ok (.dup, 1) := by decide +kernel
theorem dX2_loseOwn_95 : decode cX2_loseOwn 95 = .ok (.getfield 67, 3) := by decide +kernel
theorem dX2_loseOwn_98 : decode cX2_loseOwn 98 = .ok (.aload_n 1, 1) := by decide +kernel
theorem dX2_loseOwn_99 : decode cX2_loseOwn 99 = .ok (.getfield 88, 3) := by decide +kernel
theorem dX2_loseOwn_102 : decode cX2_loseOwn 102 = .ok (.ifCond .ne 7, 3) := by decide +kernel
theorem dX2_loseOwn_105 : decode cX2_loseOwn 105 = .ok (.iconst 1, 1) := by decide +kernel
theorem dX2_loseOwn_106 : decode cX2_loseOwn 106 = .ok (.goto 4, 3) := by decide +kernel
theorem dX2_loseOwn_109 : decode cX2_loseOwn 109 = .ok (.iconst 0, 1) := by decide +kernel
theorem dX2_loseOwn_110 : decode cX2_loseOwn 110 = .ok (.iadd, 1) := by decide +kernel
theorem dX2_loseOwn_111 : decode cX2_loseOwn 111 = .ok (.putfield 67, 3) := by decide +kernel
theorem dX2_loseOwn_114 : decode cX2_loseOwn 114 = .ok (.return_, 1) := by decide +kernel
set_option maxRecDepth 20000 in
theorem ggX2_takeAt_X5_load : GoodIn wsX2_takeAt wsX5_load := goodIn_r _ [23, 24, 25, 26, 27, 28, 29, 30, 31, 32, 33, 34, 35, 36, 37, 38, 39, 40, 41, 42, 43, 44, 45, 46, 22, 47, 48, 49, 50, 117, 118, 119, 120, 121, 122, 123, 124, 132, 133, 134, 135, 111, 112, 113, 114, 115, 116] (by decide +kernel) (by decide +kernel)
set_option maxRecDepth 20000 in
theorem gX2_takeAt_X5_load : GoodIn wsX2_takeAt (wsV RX2 152 RX5 yX5_load wsX5_load) := goodIn_app (goodIn_of _ (by decide +kernel)) ggX2_takeAt_X5_load
set_option maxRecDepth 20000 in
theorem ggX2_takeAt_X5_deal : GoodIn wsX2_takeAt wsX5_deal := goodIn_r _ [54, 24, 55, 49, 50, 56, 7, 8, 9, 57, 58, 59, 60, 22, 61, 117, 118, 119, 120, 121, 122, 123, 124] (by decide +kernel) (by decide +kernel)
set_option maxRecDepth 20000 in
theorem gX2_takeAt_X5_deal : GoodIn wsX2_takeAt (wsV RX2 159 RX5 yX5_deal wsX5_deal) := goodIn_app (goodIn_of _ (by decide +kernel)) ggX2_takeAt_X5_deal
set_option maxRecDepth 20000 in
theorem ggX2_takeAt_X2_tradeRows : GoodIn wsX2_takeAt wsX2_tradeRows := goodIn_r _ [66, 1, 67, 68, 4, 2, 15, 12, 16, 17, 69, 70, 71, 32, 72, 43, 35, 41, 73, 74, 75, 76, 77, 78, 79, 80, 81, 7, 8, 9, 82, 83, 84, 85, 86, 87, 88, 99, 100, 101, 102, 103, 104, 105, 106, 107, 108, 109, 110, 117, 118, 119, 120, 121, 122, 123, 124, 111, 112, 113, 114, 115, 116, 132, 133, 134, 135, 125, 126, 127, 128, 129, 130, 131] (by decide +kernel) (by decide +kernel)
set_option maxRecDepth 20000 in
theorem gX2_takeAt_X2_tradeRows : GoodIn wsX2_takeAt (wsV RX2 169 RX2 yX2_tradeRows wsX2_tradeRows) := goodIn_app (goodIn_of _ (by decide +kernel)) ggX2_takeAt_X2_tradeRows
set_option maxRecDepth 20000 in
theorem ggX2_takeAt_X3_enter : GoodIn wsX2_takeAt wsX3_enter := goodIn_r _ [86, 87, 88, 125, 126, 127, 128, 129, 130, 131] (by decide +kernel) (by decide +kernel)
set_option maxRecDepth 20000 in
theorem gX2_takeAt_X3_enter : GoodIn wsX2_takeAt (wsV RX2 179 RX3 yX3_enter wsX3_enter) := goodIn_app (goodIn_of _ (by decide +kernel)) ggX2_takeAt_X3_enter
set_option maxRecDepth 20000 in
theorem ggX2_takeAt_X0_sweep : GoodIn wsX2_takeAt wsX0_sweep := goodIn_r _ [92, 93, 34, 94, 95, 96, 97, 32, 98, 41, 35, 42, 43, 132, 133, 134, 135, 111, 112, 113, 114, 115, 116] (by decide +kernel) (by decide +kernel)
set_option maxRecDepth 20000 in
theorem gX2_takeAt_X0_sweep : GoodIn wsX2_takeAt (wsV RX2 143 RX0 yX0_sweep wsX0_sweep) := goodIn_app (goodIn_of _ (by decide +kernel)) ggX2_takeAt_X0_sweep
theorem dX2_takeAt_0 : decode cX2_takeAt 0 = .ok (.aload_n 0, 1) := by decide +kernel
theorem dX2_takeAt_1 : decode cX2_takeAt 1 = .ok (.getfield 28, 3) := by decide +kernel
theorem dX2_takeAt_4 : decode cX2_takeAt 4 = .ok (.aload_n 0, 1) := by decide +kernel
theorem dX2_takeAt_5 : decode cX2_takeAt 5 = .ok (.getfield 12, 3) := by decide +kernel
theorem dX2_takeAt_8 : decode cX2_takeAt 8 = .ok (.iload_n 1, 1) := by decide +kernel
theorem dX2_takeAt_9 : decode cX2_takeAt 9 = .ok (.iload_n 2, 1) := by decide +kernel
theorem dX2_takeAt_10 : decode cX2_takeAt 10 = .ok (.invokevirtual 152, 3) := by decide +kernel
theorem dX2_takeAt_13 : decode cX2_takeAt 13 = .ok (.aload_n 0, 1) := by decide +kernel
theorem dX2_takeAt_14 : decode cX2_takeAt 14 = .ok (.getfield 42, 3) := by decide +kernel
theorem dX2_takeAt_17 : decode cX2_takeAt 17 = .ok (.getfield 88, 3) := by decide +kernel
theorem dX2_takeAt_20 : decode cX2_takeAt 20 = .ok (.aload_n 0, 1) := by decide +kernel
theorem dX2_takeAt_21 : decode cX2_takeAt 21 = .ok (.getfield 28, 3) := by decide +kernel
theorem dX2_takeAt_24 : decode cX2_takeAt 24 = .ok (.getfield 156, 3) := by decide +kernel
theorem dX2_takeAt_27 : decode cX2_takeAt 27 = .ok (.invokestatic 146, 3) := by decide +kernel
theorem dX2_takeAt_30 : decode cX2_takeAt 30 = .ok (.istore_n 3, 1) := by decide +kernel
theorem dX2_takeAt_31 : decode cX2_takeAt 31 = .ok (.iload_n 3, 1) := by decide +kernel
theorem dX2_takeAt_32 : decode cX2_takeAt 32 = .ok (.ifCond .gt 4, 3) := by decide +kernel
theorem dX2_takeAt_35 : decode cX2_takeAt 35 = .ok (.return_, 1) := by decide +kernel
theorem dX2_takeAt_36 : decode cX2_takeAt 36 = .ok (.aload_n 0, 1) := by decide +kernel
theorem dX2_takeAt_37 : decode cX2_takeAt 37 = .ok (.getfield 28, 3) := by decide +kernel
theorem dX2_takeAt_40 : decode cX2_takeAt 40 = .ok (.iload_n 3, 1) := by decide +kernel
theorem dX2_takeAt_41 : decode cX2_takeAt 41 = .ok (.aload_n 0, 1) := by decide +kernel
theorem dX2_takeAt_42 : decode cX2_takeAt 42 = .ok (.getfield 50, 3) := by decide +kernel
theorem dX2_takeAt_45 : decode cX2_takeAt 45 = .ok (.invokevirtual 159, 3) := by decide +kernel
theorem dX2_takeAt_48 : decode cX2_takeAt 48 = .ok (.aload_n 0, 1) := by decide +kernel
theorem dX2_takeAt_49 : decode cX2_takeAt 49 = .ok (.aload_n 0, 1) := by decide +kernel
theorem dX2_takeAt_50 : decode cX2_takeAt 50 = .ok (.getfield 28, 3) := by decide +kernel
theorem dX2_takeAt_53 : decode cX2_takeAt 53 = .ok (.getfield 162, 3) := by decide +kernel
theorem dX2_takeAt_56 : decode cX2_takeAt 56 = .ok (.aload_n 0, 1) := by decide +kernel
theorem dX2_takeAt_57 : decode cX2_takeAt 57 = .ok (.getfield 42, 3) := by decide +kernel
theorem dX2_takeAt_60 : decode cX2_takeAt 60 = .ok (.getfield 166, 3) := by decide +kernel
theorem dX2_takeAt_63 : decode cX2_takeAt 63 = .ok (.iload_n 2, 1) := by decide +kernel
theorem dX2_takeAt_64 : decode cX2_takeAt 64 = .ok (.iconst 0, 1) := by decide +kernel
theorem dX2_takeAt_65 : decode cX2_takeAt 65 = .ok (.invokevirtual 169, 3) := by decide +kernel
theorem dX2_takeAt_68 : decode cX2_takeAt 68 = .ok (.aload_n 0, 1) := by decide +kernel
theorem dX2_takeAt_69 : decode cX2_takeAt 69 = .ok (.aload_n 0, 1) := by decide +kernel
theorem dX2_takeAt_70 : decode cX2_takeAt 70 = .ok (.getfield 28, 3) := by decide +kernel
theorem dX2_takeAt_73 : decode cX2_takeAt 73 = .ok (.getfield 173, 3) := by decide +kernel
theorem dX2_takeAt_76 : decode cX2_takeAt 76 = .ok (.aload_n 0, 1) := by decide +kernel
theorem dX2_takeAt_77 : decode cX2_takeAt 77 = .ok (.getfield 42, 3) := by decide +kernel
theorem dX2_takeAt_80 : decode cX2_takeAt 80 = .ok (.getfield 166, 3) := by decide +kernel
theorem dX2_takeAt_83 : decode cX2_takeAt 83 = .ok (.iload_n 2, 1) := by decide +kernel
theorem dX2_takeAt_84 : decode cX2_takeAt 84 = .ok (.iconst 1, 1) := by decide +kernel
theorem dX2_takeAt_85 : decode cX2_takeAt 85 = .ok (.invokevirtual 169, 3) := by decide +kernel
theorem dX2_takeAt_88 : decode cX2_takeAt 88 = .ok (.aload_n 0, 1) := by decide +kernel
theorem dX2_takeAt_89 : decode cX2_takeAt 89 = .ok (.aload_n 0, 1) := by decide +kernel
theorem dX2_takeAt_90 : decode cX2_takeAt 90 = .ok (.getfield 28, 3) := by decide +kernel
theorem dX2_takeAt_93 : decode cX2_takeAt 93 = .ok (.getfield 176, 3) := by decide +kernel
theorem dX2_takeAt_96 : decode cX2_takeAt 96 = .ok (.aload_n 0, 1) := by decide +kernel
theorem dX2_takeAt_97 : decode cX2_takeAt 97 = .ok (.getfield 42, 3) := by decide +kernel
theorem dX2_takeAt_100 : decode cX2_takeAt 100 = .ok (.getfield 166, 3) := by decide +kernel
theorem dX2_takeAt_103 : decode cX2_takeAt 103 = .ok (.iload_n 2, 1) := by decide +kernel
theorem dX2_takeAt_104 : decode cX2_takeAt 104 = .ok (.iconst 2, 1) := by decide +kernel
theorem dX2_takeAt_105 : decode cX2_takeAt 105 = .ok (.invokevirtual 169, 3) := by decide +kernel
theorem dX2_takeAt_108 : decode cX2_takeAt 108 = .ok (.aload_n 0, 1) := by decide +kernel
theorem dX2_takeAt_109 : decode cX2_takeAt 109 = .ok (.getfield 21, 3) := by decide +kernel
theorem dX2_takeAt_112 : decode cX2_takeAt 112 = .ok (.aload_n 0, 1) := by decide +kernel
theorem dX2_takeAt_113 : decode cX2_takeAt 113 = .ok (.getfield 42, 3) := by decide +kernel
theorem dX2_takeAt_116 : decode cX2_takeAt 116 = .ok (.getfield 137, 3) := by decide +kernel
theorem dX2_takeAt_119 : decode cX2_takeAt 119 = .ok (.aload_n 0, 1) := by decide +kernel
theorem dX2_takeAt_120 : decode cX2_takeAt 120 = .ok (.getfield 42, 3) := by decide +kernel
theorem dX2_takeAt_123 : decode cX2_takeAt 123 = .ok (.getfield 94, 3) := by decide +kernel
theorem dX2_takeAt_126 : decode cX2_takeAt 126 = .ok (.iload_n 2, 1) := by decide +kernel
theorem dX2_takeAt_127 : decode cX2_takeAt 127 = .ok (.iload_n 3, 1) := by decide +kernel
theorem dX2_takeAt_128 : decode cX2_takeAt 128 = .ok (.invokevirtual 179, 3) := by decide +kernel
theorem dX2_takeAt_131 : decode cX2_takeAt 131 = .ok (.aload_n 0, 1) := by decide +kernel
theorem dX2_takeAt_132 : decode cX2_takeAt 132 = .ok (.getfield 21, 3) := by decide +kernel
theorem dX2_takeAt_135 : decode cX2_takeAt 135 = .ok (.dup, 1) := by decide +kernel
theorem dX2_takeAt_136 : decode cX2_takeAt 136 = .ok (.getfield 183, 3) := by decide +kernel
theorem dX2_takeAt_139 : decode cX2_takeAt 139 = .ok (.iload_n 3, 1) := by decide +kernel
theorem dX2_takeAt_140 : decode cX2_takeAt 140 = .ok (.iadd, 1) := by decide +kernel
theorem dX2_takeAt_141 : decode cX2_takeAt 141 = .ok (.putfield 183, 3) := by decide +kernel
theorem dX2_takeAt_144 : decode cX2_takeAt 144 = .ok (.aload_n 0, 1) := by decide +kernel
theorem dX2_takeAt_145 : decode cX2_takeAt 145 = .ok (.getfield 42, 3) := by decide +kernel
theorem dX2_takeAt_148 : decode cX2_takeAt 148 = .ok (.dup, 1) := by decide +kernel
theorem dX2_takeAt_149 : decode cX2_takeAt 149 = .ok (.getfield 88, 3) := by decide +kernel
theorem dX2_takeAt_152 : decode cX2_takeAt 152 = .ok (.iload_n 3, 1) := by decide +kernel
theorem dX2_takeAt_153 : decode cX2_takeAt 153 = .ok (.isub, 1) := by decide +kernel
theorem dX2_takeAt_154 : decode cX2_takeAt 154 = .ok (.putfield 88, 3) := by decide +kernel
theorem dX2_takeAt_157 : decode cX2_takeAt 157 = .ok (.aload_n 0, 1) := by decide +kernel
theorem dX2_takeAt_158 : decode cX2_takeAt 158 = .ok (.getfield 12, 3) := by decide +kernel
theorem dX2_takeAt_161 : decode cX2_takeAt 161 = .ok (.invokevirtual 143, 3) := by decide +kernel
theorem dX2_takeAt_164 : decode cX2_takeAt 164 = .ok (.return_, 1) := by decide +kernel
set_option maxRecDepth 20000 in
theorem ggX2_tradeRows_X0_useGrant : GoodIn wsX2_tradeRows wsX0_useGrant := goodIn_r _ [14, 15, 16, 17, 63, 64, 65, 66, 57, 58, 59, 60, 61, 62] (by decide +kernel) (by decide +kernel)
set_option maxRecDepth 20000 in
theorem gX2_tradeRows_X0_useGrant : GoodIn wsX2_tradeRows (wsV RX2 191 RX0 yX0_useGrant wsX0_useGrant) := goodIn_app (goodIn_of _ (by decide +kernel)) ggX2_tradeRows_X0_useGrant
set_option maxRecDepth 20000 in
theorem ggX2_tradeRows_X3_keep : GoodIn wsX2_tradeRows wsX3_keep := goodIn_r _ [22, 23, 24, 25, 26, 27, 28, 29, 30, 67, 68, 69, 70, 71, 72, 73] (by decide +kernel) (by decide +kernel)
set_option maxRecDepth 20000 in
theorem gX2_tradeRows_X3_keep : GoodIn wsX2_tradeRows (wsV RX2 194 RX3 yX3_keep wsX3_keep) := goodIn_app (goodIn_of _ (by decide +kernel)) ggX2_tradeRows_X3_keep
set_option maxRecDepth 20000 in
theorem ggX2_tradeRows_X3_enter : GoodIn wsX2_tradeRows wsX3_enter := goodIn_r _ [34, 35, 36, 67, 68, 69, 70, 71, 72, 73] (by decide +kernel) (by decide +kernel)
set_option maxRecDepth 20000 in
theorem gX2_tradeRows_X3_enter : GoodIn wsX2_tradeRows (wsV RX2 179 RX3 yX3_enter wsX3_enter) := goodIn_app (goodIn_of _ (by decide +kernel)) ggX2_tradeRows_X3_enter
theorem dX2_tradeRows_0 : decode cX2_tradeRows 0 = .ok (.iconst 0, 1) := by decide +kernel
theorem dX2_tradeRows_1 : decode cX2_tradeRows 1 = .ok (.istore 5, 2) := by decide +kernel
theorem dX2_tradeRows_3 : decode cX2_tradeRows 3 = .ok (.iload 5, 2) := by decide +kernel
theorem dX2_tradeRows_5 : decode cX2_tradeRows 5 = .ok (.aload_n 0, 1) := by decide +kernel
theorem dX2_tradeRows_6 : decode cX2_tradeRows 6 = .ok (.getfield 28, 3) := by decide +kernel
theorem dX2_tradeRows_9 : decode cX2_tradeRows 9 = .ok (.getfield 186, 3) := by decide +kernel
theorem dX2_tradeRows_12 : decode cX2_tradeRows 12 = .ok (.if_icmp .ge 109, 3) := by decide +kernel
theorem dX2_tradeRows_15 : decode cX2_tradeRows 15 = .ok (.iload 5, 2) := by decide +kernel
theorem dX2_tradeRows_17 : decode cX2_tradeRows 17 = .ok (.aload_n 1, 1) := by decide +kernel
theorem dX2_tradeRows_18 : decode cX2_tradeRows 18 = .ok (.arraylength, 1) := by decide +kernel
theorem dX2_tradeRows_19 : decode cX2_tradeRows 19 = .ok (.if_icmp .ge 102, 3) := by decide +kernel
theorem dX2_tradeRows_22 : decode cX2_tradeRows 22 = .ok (.aload_n 1, 1) := by decide +kernel
theorem dX2_tradeRows_23 : decode cX2_tradeRows 23 = .ok (.iload 5, 2) := by decide +kernel
theorem dX2_tradeRows_25 : decode cX2_tradeRows 25 = .ok (.iaload, 1) := by decide +kernel
theorem dX2_tradeRows_26 : decode cX2_tradeRows 26 = .ok (.ifCond .le 89, 3) := by decide +kernel
theorem dX2_tradeRows_29 : decode cX2_tradeRows 29 = .ok (.aload_n 0, 1) := by decide +kernel
theorem dX2_tradeRows_30 : decode cX2_tradeRows 30 = .ok (.getfield 28, 3) := by decide +kernel
theorem dX2_tradeRows_33 : decode cX2_tradeRows 33 = .ok (.getfield 188, 3) := by decide +kernel
theorem dX2_tradeRows_36 : decode cX2_tradeRows 36 = .ok (.iload 5, 2) := by decide +kernel
theorem dX2_tradeRows_38 : decode cX2_tradeRows 38 = .ok (.aaload, 1) := by decide +kernel
theorem dX2_tradeRows_39 : decode cX2_tradeRows 39 = .ok (.astore 6, 2) := by decide +kernel
theorem dX2_tradeRows_41 : decode cX2_tradeRows 41 = .ok (.aload 6, 2) := by decide +kernel
theorem dX2_tradeRows_43 : decode cX2_tradeRows 43 = .ok (.dup, 1) := by decide +kernel
theorem dX2_tradeRows_44 : decode cX2_tradeRows 44 = .ok (.getfield 88, 3) := by decide +kernel
theorem dX2_tradeRows_47 : decode cX2_tradeRows 47 = .ok (.aload_n 1, 1) := by decide +kernel
theorem dX2_tradeRows_48 : decode cX2_tradeRows 48 = .ok (.iload 5, 2) := by decide +kernel
theorem dX2_tradeRows_50 : decode cX2_tradeRows 50 = .ok (.iaload, 1) := by decide +kernel
theorem dX2_tradeRows_51 : decode cX2_tradeRows 51 = .ok (.isub, 1) := by decide +kernel
theorem dX2_tradeRows_52 : decode cX2_tradeRows 52 = .ok (.putfield 88, 3) := by decide +kernel
theorem dX2_tradeRows_55 : decode cX2_tradeRows 55 = .ok (.iload 4, 2) := by decide +kernel
theorem dX2_tradeRows_57 : decode cX2_tradeRows 57 = .ok (.ifCond .ne 16, 3) := by decide +kernel
theorem dX2_tradeRows_60 : decode cX2_tradeRows 60 = .ok (.aload_n 0, 1) := by decide +kernel
theorem dX2_tradeRows_61 : decode cX2_tradeRows 61 = .ok (.getfield 12, 3) := by decide +kernel
theorem dX2_tradeRows_64 : decode cX2_tradeRows 64 = .ok (.aload 6, 2) := by decide +kernel
theorem dX2_tradeRows_66 : decode cX2_tradeRows 66 = .ok (.aload_n 1, 1) := by decide +kernel
theorem dX2_tradeRows_67 : decode cX2_tradeRows 67 = .ok (.iload 5, 2) := by decide +kernel
theorem dX2_tradeRows_69 : decode cX2_tradeRows 69 = .ok (.iaload, 1) := by decide +kernel
theorem dX2_tradeRows_70 : decode cX2_tradeRows 70 = .ok (.invokevirtual 191, 3) := by decide +kernel
theorem dX2_tradeRows_73 : decode cX2_tradeRows 73 = .ok (.aload_n 0, 1) := by decide +kernel
theorem dX2_tradeRows_74 : decode cX2_tradeRows 74 = .ok (.getfield 21, 3) := by decide +kernel
theorem dX2_tradeRows_77 : decode cX2_tradeRows 77 = .ok (.aload 6, 2) := by decide +kernel
theorem dX2_tradeRows_79 : decode cX2_tradeRows 79 = .ok (.getfield 166, 3) := by decide +kernel
theorem dX2_tradeRows_82 : decode cX2_tradeRows 82 = .ok (.iload_n 2, 1) := by decide +kernel
theorem dX2_tradeRows_83 : decode cX2_tradeRows 83 = .ok (.iload_n 3, 1) := by decide +kernel
theorem dX2_tradeRows_84 : decode cX2_tradeRows 84 = .ok (.aload_n 1, 1) := by decide +kernel
theorem dX2_tradeRows_85 : decode cX2_tradeRows 85 = .ok (.iload 5, 2) := by decide +kernel
theorem dX2_tradeRows_87 : decode cX2_tradeRows 87 = .ok (.iaload, 1) := by decide +kernel
theorem dX2_tradeRows_88 : decode cX2_tradeRows 88 = .ok (.iload 4, 2) := by decide +kernel
theorem dX2_tradeRows_90 : decode cX2_tradeRows 90 = .ok (.invokevirtual 194, 3) := by decide +kernel
theorem dX2_tradeRows_93 : decode cX2_tradeRows 93 = .ok (.aload_n 0, 1) := by decide +kernel
theorem dX2_tradeRows_94 : decode cX2_tradeRows 94 = .ok (.getfield 21, 3) := by decide +kernel
theorem dX2_tradeRows_97 : decode cX2_tradeRows 97 = .ok (.aload 6, 2) := by decide +kernel
theorem dX2_tradeRows_99 : decode cX2_tradeRows 99 = .ok (.getfield 137, 3) := by decide +kernel
theorem dX2_tradeRows_102 : decode cX2_tradeRows 102 = .ok (.aload 6, 2) := by decide +kernel
theorem dX2_tradeRows_104 : decode cX2_tradeRows 104 = .ok (.getfield 94, 3) := by decide +kernel
theorem dX2_tradeRows_107 : decode cX2_tradeRows 107 = .ok (.iload_n 3, 1) := by decide +kernel
theorem dX2_tradeRows_108 : decode cX2_tradeRows 108 = .ok (.aload_n 1, 1) := by decide +kernel
theorem dX2_tradeRows_109 : decode cX2_tradeRows 109 = .ok (.iload 5, 2) := by decide +kernel
theorem dX2_tradeRows_111 : decode cX2_tradeRows 111 = .ok (.iaload, 1) := by decide +kernel
theorem dX2_tradeRows_112 : decode cX2_tradeRows 112 = .ok (.invokevirtual 179, 3) := by decide +kernel
theorem dX2_tradeRows_115 : decode cX2_tradeRows 115 = .ok (.iinc 5 1, 3) := by decide +kernel
theorem dX2_tradeRows_118 : decode cX2_tradeRows 118 = .ok (.goto (-115), 3) := by decide +kernel
theorem dX2_tradeRows_121 : decode cX2_tradeRows 121 = .ok (.return_, 1) := by decide +kernel
theorem dX3_init_0 : decode cX3_init 0 = .ok (.aload_n 0, 1) := by decide +kernel
theorem dX3_init_1 : decode cX3_init 1 = .ok (.invokespecial 3, 3) := by decide +kernel
theorem dX3_init_4 : decode cX3_init 4 = .ok (.aload_n 0, 1) := by decide +kernel
theorem dX3_init_5 : decode cX3_init 5 = .ok (.bipush 60, 2) := by decide +kernel
theorem dX3_init_7 : decode cX3_init 7 = .ok (.iconst 5, 1) := by decide +kernel
theorem dX3_init_8 : decode cX3_init 8 = .ok (.multianewarray 9 2, 4) := by decide +kernel
theorem dX3_init_12 : decode cX3_init 12 = .ok (.putfield 11, 3) := by decide +kernel
theorem dX3_init_15 : decode cX3_init 15 = .ok (.aload_n 0, 1) := by decide +kernel
theorem dX3_init_16 : decode cX3_init 16 = .ok (.bipush 10, 2) := by decide +kernel
theorem dX3_init_18 : decode cX3_init 18 = .ok (.newarray .int, 2) := by decide +kernel
theorem dX3_init_20 : decode cX3_init 20 = .ok (.putfield 16, 3) := by decide +kernel
theorem dX3_init_23 : decode cX3_init 23 = .ok (.aload_n 0, 1) := by decide +kernel
theorem dX3_init_24 : decode cX3_init 24 = .ok (.bipush 10, 2) := by decide +kernel
theorem dX3_init_26 : decode cX3_init 26 = .ok (.newarray .long, 2) := by decide +kernel
theorem dX3_init_28 : decode cX3_init 28 = .ok (.putfield 20, 3) := by decide +kernel
theorem dX3_init_31 : decode cX3_init 31 = .ok (.return_, 1) := by decide +kernel
theorem dX3_keep_0 : decode cX3_keep 0 = .ok (.aload_n 0, 1) := by decide +kernel
theorem dX3_keep_1 : decode cX3_keep 1 = .ok (.getfield 11, 3) := by decide +kernel
theorem dX3_keep_4 : decode cX3_keep 4 = .ok (.aload_n 0, 1) := by decide +kernel
theorem dX3_keep_5 : decode cX3_keep 5 = .ok (.getfield 28, 3) := by decide +kernel
theorem dX3_keep_8 : decode cX3_keep 8 = .ok (.aaload, 1) := by decide +kernel
theorem dX3_keep_9 : decode cX3_keep 9 = .ok (.astore 6, 2) := by decide +kernel
theorem dX3_keep_11 : decode cX3_keep 11 = .ok (.aload 6, 2) := by decide +kernel
theorem dX3_keep_13 : decode cX3_keep 13 = .ok (.iconst 0, 1) := by decide +kernel
theorem dX3_keep_14 : decode cX3_keep 14 = .ok (.iload_n 1, 1) := by decide +kernel
theorem dX3_keep_15 : decode cX3_keep 15 = .ok (.iastore, 1) := by decide +kernel
theorem dX3_keep_16 : decode cX3_keep 16 = .ok (.aload 6, 2) := by decide +kernel
theorem dX3_keep_18 : decode cX3_keep 18 = .ok (.iconst 1, 1) := by decide +kernel
theorem dX3_keep_19 : decode cX3_keep 19 = .ok (.iload_n 2, 1) := by decide +kernel
theorem dX3_keep_20 : decode cX3_keep 20 = .ok (.iastore, 1) := by decide +kernel
theorem dX3_keep_21 : decode cX3_keep 21 = .ok (.aload 6, 2) := by decide +kernel
theorem dX3_keep_23 : decode cX3_keep 23 = .ok (.iconst 2, 1) := by decide +kernel
theorem dX3_keep_24 : decode cX3_keep 24 = .ok (.iload_n 3, 1) := by decide +kernel
theorem dX3_keep_25 : decode cX3_keep 25 = .ok (.iastore, 1) := by decide +kernel
theorem dX3_keep_26 : decode cX3_keep 26 = .ok (.aload 6, 2) := by decide +kernel
theorem dX3_keep_28 : decode cX3_keep 28 = .ok (.iconst 3, 1) := by decide +kernel
theorem dX3_keep_29 : decode cX3_keep 29 = .ok (.iload 4, 2) := by decide +kernel
theorem dX3_keep_31 : decode cX3_keep 31 = .ok (.iastore, 1) := by decide +kernel
theorem dX3_keep_32 : decode cX3_keep 32 = .ok (.aload 6, 2) := by decide +kernel
theorem dX3_keep_34 : decode cX3_keep 34 = .ok (.iconst 4, 1) := by decide +kernel
theorem dX3_keep_35 : decode cX3_keep 35 = .ok (.iload 5, 2) := by decide +kernel
theorem dX3_keep_37 : decode cX3_keep 37 = .ok (.iastore, 1) := by decide +kernel
theorem dX3_keep_38 : decode cX3_keep 38 = .ok (.aload_n 0, 1) := by decide +kernel
theorem dX3_keep_39 : decode cX3_keep 39 = .ok (.aload_n 0, 1) := by decide +kernel
theorem dX3_keep_40 : decode cX3_keep 40 = .ok (.getfield 28, 3) := by decide +kernel
theorem dX3_keep_43 : decode cX3_keep 43 = .ok (.iconst 1, 1) := by decide +kernel
theorem dX3_keep_44 : decode cX3_keep 44 = .ok (.iadd, 1) := by decide +kernel
theorem dX3_keep_45 : decode cX3_keep 45 = .ok (.bipush 60, 2) := by decide +kernel
theorem dX3_keep_47 : decode cX3_keep 47 = .ok (.irem, 1) := by decide +kernel
theorem dX3_keep_48 : decode cX3_keep 48 = .ok (.putfield 28, 3) := by decide +kernel
theorem dX3_keep_51 : decode cX3_keep 51 = .ok (.aload_n 0, 1) := by decide +kernel
theorem dX3_keep_52 : decode cX3_keep 52 = .ok (.aload_n 0, 1) := by decide +kernel
theorem dX3_keep_53 : decode cX3_keep 53 = .ok (.getfield 24, 3) := by decide +kernel
theorem dX3_keep_56 : decode cX3_keep 56 = .ok (.iconst 1, 1) := by decide +kernel
theorem dX3_keep_57 : decode cX3_keep 57 = .ok (.iadd, 1) := by decide +kernel
theorem dX3_keep_58 : decode cX3_keep 58 = .ok (.bipush 60, 2) := by decide +kernel
theorem dX3_keep_60 : decode cX3_keep 60 = .ok (.invokestatic 37, 3) := by decide +kernel
theorem dX3_keep_63 : decode cX3_keep 63 = .ok (.putfield 24, 3) := by decide +kernel
theorem dX3_keep_66 : decode cX3_keep 66 = .ok (.aload_n 0, 1) := by decide +kernel
theorem dX3_keep_67 : decode cX3_keep 67 = .ok (.iload_n 3, 1) := by decide +kernel
theorem dX3_keep_68 : decode cX3_keep 68 = .ok (.putfield 31, 3) := by decide +kernel
theorem dX3_keep_71 : decode cX3_keep 71 = .ok (.return_, 1) := by decide +kernel
theorem dX3_enter_0 : decode cX3_enter 0 = .ok (.iload_n 2, 1) := by decide +kernel
theorem dX3_enter_1 : decode cX3_enter 1 = .ok (.ifCond .ne 8, 3) := by decide +kernel
theorem dX3_enter_4 : decode cX3_enter 4 = .ok (.iload 4, 2) := by decide +kernel
theorem dX3_enter_6 : decode cX3_enter 6 = .ok (.goto 6, 3) := by decide +kernel
theorem dX3_enter_9 : decode cX3_enter 9 = .ok (.iload 4, 2) := by decide +kernel
theorem dX3_enter_11 : decode cX3_enter 11 = .ok (.ineg, 1) := by decide +kernel
theorem dX3_enter_12 : decode cX3_enter 12 = .ok (.istore 5, 2) := by decide +kernel
theorem dX3_enter_14 : decode cX3_enter 14 = .ok (.aload_n 0, 1) := by decide +kernel
theorem dX3_enter_15 : decode cX3_enter 15 = .ok (.getfield 16, 3) := by decide +kernel
theorem dX3_enter_18 : decode cX3_enter 18 = .ok (.iload_n 1, 1) := by decide +kernel
theorem dX3_enter_19 : decode cX3_enter 19 = .ok (.dup2, 1) := by decide +kernel
theorem dX3_enter_20 : decode cX3_enter 20 = .ok (.iaload, 1) := by decide +kernel
theorem dX3_enter_21 : decode cX3_enter 21 = .ok (.iload 5, 2) := by decide +kernel
theorem dX3_enter_23 : decode cX3_enter 23 = .ok (.iadd, 1) := by decide +kernel
theorem dX3_enter_24 : decode cX3_enter 24 = .ok (.iastore, 1) := by decide +kernel
theorem dX3_enter_25 : decode cX3_enter 25 = .ok (.aload_n 0, 1) := by decide +kernel
theorem dX3_enter_26 : decode cX3_enter 26 = .ok (.getfield 20, 3) := by decide +kernel
theorem dX3_enter_29 : decode cX3_enter 29 = .ok (.iload_n 1, 1) := by decide +kernel
theorem dX3_enter_30 : decode cX3_enter 30 = .ok (.dup2, 1) := by decide +kernel
theorem dX3_enter_31 : decode cX3_enter 31 = .ok (.laload, 1) := by decide +kernel
theorem dX3_enter_32 : decode cX3_enter 32 = .ok (.iload_n 3, 1) := by decide +kernel
theorem dX3_enter_33 : decode cX3_enter 33 = .ok (.i2l, 1) := by decide +kernel
theorem dX3_enter_34 : decode cX3_enter 34 = .ok (.iload 5, 2) := by decide +kernel
theorem dX3_enter_36 : decode cX3_enter 36 = .ok (.i2l, 1) := by decide +kernel
theorem dX3_enter_37 : decode cX3_enter 37 = .ok (.lmul, 1) := by decide +kernel
theorem dX3_enter_38 : decode cX3_enter 38 = .ok (.lsub, 1) := by decide +kernel
theorem dX3_enter_39 : decode cX3_enter 39 = .ok (.lastore, 1) := by decide +kernel
theorem dX3_enter_40 : decode cX3_enter 40 = .ok (.return_, 1) := by decide +kernel
set_option maxRecDepth 20000 in
theorem ggX3_told_J9_floorMod_7cf53 : GoodIn wsX3_told wsJ9_floorMod_7cf53 := goodIn_r _ [6] (by decide +kernel) (by decide +kernel)
set_option maxRecDepth 20000 in
theorem gX3_told_J9_floorMod_7cf53 : GoodIn wsX3_told (va_wsS RX3 43 yJ9_floorMod_7cf53 wsJ9_floorMod_7cf53) := goodIn_app (goodIn_of _ (by decide +kernel)) ggX3_told_J9_floorMod_7cf53
theorem dX3_told_0 : decode cX3_told 0 = .ok (.aload_n 0, 1) := by decide +kernel
theorem dX3_told_1 : decode cX3_told 1 = .ok (.getfield 11, 3) := by decide +kernel
theorem dX3_told_4 : decode cX3_told 4 = .ok (.aload_n 0, 1) := by decide +kernel
theorem dX3_told_5 : decode cX3_told 5 = .ok (.getfield 28, 3) := by decide +kernel
theorem dX3_told_8 : decode cX3_told 8 = .ok (.iconst 1, 1) := by decide +kernel
theorem dX3_told_9 : decode cX3_told 9 = .ok (.isub, 1) := by decide +kernel
theorem dX3_told_10 : decode cX3_told 10 = .ok (.iload_n 1, 1) := by decide +kernel
theorem dX3_told_11 : decode cX3_told 11 = .ok (.isub, 1) := by decide +kernel
theorem dX3_told_12 : decode cX3_told 12 = .ok (.bipush 60, 2) := by decide +kernel
theorem dX3_told_14 : decode cX3_told 14 = .ok (.invokestatic 43, 3) := by decide +kernel
theorem dX3_told_17 : decode cX3_told 17 = .ok (.aaload, 1) := by decide +kernel
theorem dX3_told_18 : decode cX3_told 18 = .ok (.iload_n 2, 1) := by decide +kernel
theorem dX3_told_19 : decode cX3_told 19 = .ok (.iaload, 1) := by decide +kernel
theorem dX3_told_20 : decode cX3_told 20 = .ok (.ireturn, 1) := by decide +kernel
theorem dX4_init_0 : decode cX4_init 0 = .ok (.aload_n 0, 1) := by decide +kernel
theorem dX4_init_1 : decode cX4_init 1 = .ok (.invokespecial 1, 3) := by decide +kernel
theorem dX4_init_4 : decode cX4_init 4 = .ok (.return_, 1) := by decide +kernel
theorem dX4_become_0 : decode cX4_become 0 = .ok (.aload_n 0, 1) := by decide +kernel
theorem dX4_become_1 : decode cX4_become 1 = .ok (.iload_n 1, 1) := by decide +kernel
theorem dX4_become_2 : decode cX4_become 2 = .ok (.putfield 7, 3) := by decide +kernel
theorem dX4_become_5 : decode cX4_become 5 = .ok (.aload_n 0, 1) := by decide +kernel
theorem dX4_become_6 : decode cX4_become 6 = .ok (.iload_n 2, 1) := by decide +kernel
theorem dX4_become_7 : decode cX4_become 7 = .ok (.putfield 13, 3) := by decide +kernel
theorem dX4_become_10 : decode cX4_become 10 = .ok (.aload_n 0, 1) := by decide +kernel
theorem dX4_become_11 : decode cX4_become 11 = .ok (.iload_n 3, 1) := by decide +kernel
theorem dX4_become_12 : decode cX4_become 12 = .ok (.putfield 16, 3) := by decide +kernel
theorem dX4_become_15 : decode cX4_become 15 = .ok (.aload_n 0, 1) := by decide +kernel
theorem dX4_become_16 : decode cX4_become 16 = .ok (.iload 4, 2) := by decide +kernel
theorem dX4_become_18 : decode cX4_become 18 = .ok (.putfield 19, 3) := by decide +kernel
theorem dX4_become_21 : decode cX4_become 21 = .ok (.aload_n 0, 1) := by decide +kernel
theorem dX4_become_22 : decode cX4_become 22 = .ok (.iload 5, 2) := by decide +kernel
theorem dX4_become_24 : decode cX4_become 24 = .ok (.putfield 22, 3) := by decide +kernel
theorem dX4_become_27 : decode cX4_become 27 = .ok (.aload_n 0, 1) := by decide +kernel
theorem dX4_become_28 : decode cX4_become 28 = .ok (.iload 5, 2) := by decide +kernel
theorem dX4_become_30 : decode cX4_become 30 = .ok (.putfield 25, 3) := by decide +kernel
theorem dX4_become_33 : decode cX4_become 33 = .ok (.return_, 1) := by decide +kernel
set_option maxRecDepth 20000 in
theorem ggX4_copyFrom_X4_become : GoodIn wsX4_copyFrom wsX4_become := goodIn_r _ [11, 1, 2, 3, 4, 5, 6, 12, 13, 14, 15, 16, 17] (by decide +kernel) (by decide +kernel)
set_option maxRecDepth 20000 in
theorem gX4_copyFrom_X4_become : GoodIn wsX4_copyFrom (wsV RX4 28 RX4 yX4_become wsX4_become) := goodIn_app (goodIn_of _ (by decide +kernel)) ggX4_copyFrom_X4_become
theorem dX4_copyFrom_0 : decode cX4_copyFrom 0 = .ok (.aload_n 0, 1) := by decide +kernel
theorem dX4_copyFrom_1 : decode cX4_copyFrom 1 = .ok (.aload_n 1, 1) := by decide +kernel
theorem dX4_copyFrom_2 : decode cX4_copyFrom 2 = .ok (.getfield 7, 3) := by decide +kernel
theorem dX4_copyFrom_5 : decode cX4_copyFrom 5 = .ok (.aload_n 1, 1) := by decide +kernel
theorem dX4_copyFrom_6 : decode cX4_copyFrom 6 = .ok (.getfield 13, 3) := by decide +kernel
theorem dX4_copyFrom_9 : decode cX4_copyFrom 9 = .ok (.aload_n 1, 1) := by decide +kernel
theorem dX4_copyFrom_10 : decode cX4_copyFrom 10 = .ok (.getfield 16, 3) := by decide +kernel
theorem dX4_copyFrom_13 : decode cX4_copyFrom 13 = .ok (.aload_n 1, 1) := by decide +kernel
theorem dX4_copyFrom_14 : decode cX4_copyFrom 14 = .ok (.getfield 19, 3) := by decide +kernel
theorem dX4_copyFrom_17 : decode cX4_copyFrom 17 = .ok (.aload_n 1, 1) := by decide +kernel
theorem dX4_copyFrom_18 : decode cX4_copyFrom 18 = .ok (.getfield 22, 3) := by decide +kernel
theorem dX4_copyFrom_21 : decode cX4_copyFrom 21 = .ok (.invokevirtual 28, 3) := by decide +kernel
theorem dX4_copyFrom_24 : decode cX4_copyFrom 24 = .ok (.aload_n 0, 1) := by decide +kernel
theorem dX4_copyFrom_25 : decode cX4_copyFrom 25 = .ok (.aload_n 1, 1) := by decide +kernel
theorem dX4_copyFrom_26 : decode cX4_copyFrom 26 = .ok (.getfield 25, 3) := by decide +kernel
theorem dX4_copyFrom_29 : decode cX4_copyFrom 29 = .ok (.putfield 25, 3) := by decide +kernel
theorem dX4_copyFrom_32 : decode cX4_copyFrom 32 = .ok (.return_, 1) := by decide +kernel
theorem dX5_init_0 : decode cX5_init 0 = .ok (.aload_n 0, 1) := by decide +kernel
theorem dX5_init_1 : decode cX5_init 1 = .ok (.invokespecial 3, 3) := by decide +kernel
theorem dX5_init_4 : decode cX5_init 4 = .ok (.aload_n 0, 1) := by decide +kernel
theorem dX5_init_5 : decode cX5_init 5 = .ok (.bipush 68, 2) := by decide +kernel
theorem dX5_init_7 : decode cX5_init 7 = .ok (.anewarray 11, 3) := by decide +kernel
theorem dX5_init_10 : decode cX5_init 10 = .ok (.putfield 13, 3) := by decide +kernel
theorem dX5_init_13 : decode cX5_init 13 = .ok (.aload_n 0, 1) := by decide +kernel
theorem dX5_init_14 : decode cX5_init 14 = .ok (.bipush 68, 2) := by decide +kernel
theorem dX5_init_16 : decode cX5_init 16 = .ok (.newarray .int, 2) := by decide +kernel
theorem dX5_init_18 : decode cX5_init 18 = .ok (.putfield 17, 3) := by decide +kernel
theorem dX5_init_21 : decode cX5_init 21 = .ok (.aload_n 0, 1) := by decide +kernel
theorem dX5_init_22 : decode cX5_init 22 = .ok (.bipush 68, 2) := by decide +kernel
theorem dX5_init_24 : decode cX5_init 24 = .ok (.newarray .int, 2) := by decide +kernel
theorem dX5_init_26 : decode cX5_init 26 = .ok (.putfield 21, 3) := by decide +kernel
theorem dX5_init_29 : decode cX5_init 29 = .ok (.aload_n 0, 1) := by decide +kernel
theorem dX5_init_30 : decode cX5_init 30 = .ok (.bipush 68, 2) := by decide +kernel
end
section
theorem dX5_init_32 : decode cX5_init 32 = .ok (.newarray .int, 2) := by decide +kernel
theorem dX5_init_34 : decode cX5_init 34 = .ok (.putfield 24, 3) := by decide +kernel
theorem dX5_init_37 : decode cX5_init 37 = .ok (.aload_n 0, 1) := by decide +kernel
theorem dX5_init_38 : decode cX5_init 38 = .ok (.bipush 68, 2) := by decide +kernel
theorem dX5_init_40 : decode cX5_init 40 = .ok (.newarray .int, 2) := by decide +kernel
theorem dX5_init_42 : decode cX5_init 42 = .ok (.putfield 27, 3) := by decide +kernel
theorem dX5_init_45 : decode cX5_init 45 = .ok (.aload_n 0, 1) := by decide +kernel
theorem dX5_init_46 : decode cX5_init 46 = .ok (.bipush 68, 2) := by decide +kernel
theorem dX5_init_48 : decode cX5_init 48 = .ok (.newarray .int, 2) := by decide +kernel
theorem dX5_init_50 : decode cX5_init 50 = .ok (.putfield 30, 3) := by decide +kernel
theorem dX5_init_53 : decode cX5_init 53 = .ok (.return_, 1) := by decide +kernel
set_option maxRecDepth 20000 in
theorem ggX5_load_X0_isAt : GoodIn wsX5_load wsX0_isAt := goodIn_r _ [10, 11, 12, 13, 37, 38, 39, 40, 41, 42, 43, 44, 45, 46] (by decide +kernel) (by decide +kernel)
set_option maxRecDepth 20000 in
theorem gX5_load_X0_isAt : GoodIn wsX5_load (wsV RX5 45 RX0 yX0_isAt wsX0_isAt) := goodIn_app (goodIn_of _ (by decide +kernel)) ggX5_load_X0_isAt
set_option maxRecDepth 20000 in
theorem ggX5_load_X0_grantOf : GoodIn wsX5_load wsX0_grantOf := goodIn_r _ [17, 18, 12, 19, 20, 37, 38, 39, 40, 41, 42, 43, 44, 45, 46] (by decide +kernel) (by decide +kernel)
set_option maxRecDepth 20000 in
theorem gX5_load_X0_grantOf : GoodIn wsX5_load (wsV RX5 53 RX0 yX0_grantOf wsX0_grantOf) := goodIn_app (goodIn_of _ (by decide +kernel)) ggX5_load_X0_grantOf
set_option maxRecDepth 20000 in
theorem ggX5_load_X5_put : GoodIn wsX5_load wsX5_put := goodIn_r _ [25, 1, 26, 27, 28, 2, 29, 30, 31, 32, 33, 34, 35, 36] (by decide +kernel) (by decide +kernel)
set_option maxRecDepth 20000 in
theorem gX5_load_X5_put : GoodIn wsX5_load (wsV RX5 57 RX5 yX5_put wsX5_put) := goodIn_app (goodIn_of _ (by decide +kernel)) ggX5_load_X5_put
theorem dX5_load_0 : decode cX5_load 0 = .ok (.aload_n 0, 1) := by decide +kernel
theorem dX5_load_1 : decode cX5_load 1 = .ok (.iconst 0, 1) := by decide +kernel
theorem dX5_load_2 : decode cX5_load 2 = .ok (.putfield 33, 3) := by decide +kernel
theorem dX5_load_5 : decode cX5_load 5 = .ok (.aload_n 0, 1) := by decide +kernel
theorem dX5_load_6 : decode cX5_load 6 = .ok (.iconst 0, 1) := by decide +kernel
theorem dX5_load_7 : decode cX5_load 7 = .ok (.putfield 37, 3) := by decide +kernel
theorem dX5_load_10 : decode cX5_load 10 = .ok (.iconst 0, 1) := by decide +kernel
theorem dX5_load_11 : decode cX5_load 11 = .ok (.istore 4, 2) := by decide +kernel
theorem dX5_load_13 : decode cX5_load 13 = .ok (.iload 4, 2) := by decide +kernel
theorem dX5_load_15 : decode cX5_load 15 = .ok (.aload_n 1, 1) := by decide +kernel
theorem dX5_load_16 : decode cX5_load 16 = .ok (.getfield 40, 3) := by decide +kernel
theorem dX5_load_19 : decode cX5_load 19 = .ok (.if_icmp .ge 46, 3) := by decide +kernel
theorem dX5_load_22 : decode cX5_load 22 = .ok (.aload_n 1, 1) := by decide +kernel
theorem dX5_load_23 : decode cX5_load 23 = .ok (.iload 4, 2) := by decide +kernel
theorem dX5_load_25 : decode cX5_load 25 = .ok (.iload_n 2, 1) := by decide +kernel
theorem dX5_load_26 : decode cX5_load 26 = .ok (.iload_n 3, 1) := by decide +kernel
theorem dX5_load_27 : decode cX5_load 27 = .ok (.invokevirtual 45, 3) := by decide +kernel
theorem dX5_load_30 : decode cX5_load 30 = .ok (.ifCond .eq 29, 3) := by decide +kernel
theorem dX5_load_33 : decode cX5_load 33 = .ok (.aload_n 1, 1) := by decide +kernel
theorem dX5_load_34 : decode cX5_load 34 = .ok (.getfield 49, 3) := by decide +kernel
theorem dX5_load_37 : decode cX5_load 37 = .ok (.iload 4, 2) := by decide +kernel
theorem dX5_load_39 : decode cX5_load 39 = .ok (.aaload, 1) := by decide +kernel
theorem dX5_load_40 : decode cX5_load 40 = .ok (.astore 5, 2) := by decide +kernel
theorem dX5_load_42 : decode cX5_load 42 = .ok (.aload_n 0, 1) := by decide +kernel
theorem dX5_load_43 : decode cX5_load 43 = .ok (.aload 5, 2) := by decide +kernel
theorem dX5_load_45 : decode cX5_load 45 = .ok (.aload 5, 2) := by decide +kernel
theorem dX5_load_47 : decode cX5_load 47 = .ok (.getfield 51, 3) := by decide +kernel
theorem dX5_load_50 : decode cX5_load 50 = .ok (.aload_n 1, 1) := by decide +kernel
theorem dX5_load_51 : decode cX5_load 51 = .ok (.aload 5, 2) := by decide +kernel
theorem dX5_load_53 : decode cX5_load 53 = .ok (.invokevirtual 53, 3) := by decide +kernel
theorem dX5_load_56 : decode cX5_load 56 = .ok (.invokevirtual 57, 3) := by decide +kernel
theorem dX5_load_59 : decode cX5_load 59 = .ok (.iinc 4 1, 3) := by decide +kernel
theorem dX5_load_62 : decode cX5_load 62 = .ok (.goto (-49), 3) := by decide +kernel
theorem dX5_load_65 : decode cX5_load 65 = .ok (.return_, 1) := by decide +kernel
theorem dX5_put_0 : decode cX5_put 0 = .ok (.aload_n 0, 1) := by decide +kernel
theorem dX5_put_1 : decode cX5_put 1 = .ok (.getfield 33, 3) := by decide +kernel
theorem dX5_put_4 : decode cX5_put 4 = .ok (.bipush 68, 2) := by decide +kernel
theorem dX5_put_6 : decode cX5_put 6 = .ok (.if_icmp .lt 4, 3) := by decide +kernel
theorem dX5_put_9 : decode cX5_put 9 = .ok (.return_, 1) := by decide +kernel
theorem dX5_put_10 : decode cX5_put 10 = .ok (.aload_n 0, 1) := by decide +kernel
theorem dX5_put_11 : decode cX5_put 11 = .ok (.getfield 13, 3) := by decide +kernel
theorem dX5_put_14 : decode cX5_put 14 = .ok (.aload_n 0, 1) := by decide +kernel
theorem dX5_put_15 : decode cX5_put 15 = .ok (.getfield 33, 3) := by decide +kernel
theorem dX5_put_18 : decode cX5_put 18 = .ok (.aload_n 1, 1) := by decide +kernel
theorem dX5_put_19 : decode cX5_put 19 = .ok (.aastore, 1) := by decide +kernel
theorem dX5_put_20 : decode cX5_put 20 = .ok (.aload_n 0, 1) := by decide +kernel
theorem dX5_put_21 : decode cX5_put 21 = .ok (.getfield 17, 3) := by decide +kernel
theorem dX5_put_24 : decode cX5_put 24 = .ok (.aload_n 0, 1) := by decide +kernel
theorem dX5_put_25 : decode cX5_put 25 = .ok (.getfield 33, 3) := by decide +kernel
theorem dX5_put_28 : decode cX5_put 28 = .ok (.iload_n 2, 1) := by decide +kernel
theorem dX5_put_29 : decode cX5_put 29 = .ok (.iastore, 1) := by decide +kernel
theorem dX5_put_30 : decode cX5_put 30 = .ok (.aload_n 0, 1) := by decide +kernel
theorem dX5_put_31 : decode cX5_put 31 = .ok (.getfield 21, 3) := by decide +kernel
theorem dX5_put_34 : decode cX5_put 34 = .ok (.aload_n 0, 1) := by decide +kernel
theorem dX5_put_35 : decode cX5_put 35 = .ok (.getfield 33, 3) := by decide +kernel
theorem dX5_put_38 : decode cX5_put 38 = .ok (.iload_n 3, 1) := by decide +kernel
theorem dX5_put_39 : decode cX5_put 39 = .ok (.iastore, 1) := by decide +kernel
theorem dX5_put_40 : decode cX5_put 40 = .ok (.aload_n 0, 1) := by decide +kernel
theorem dX5_put_41 : decode cX5_put 41 = .ok (.dup, 1) := by decide +kernel
theorem dX5_put_42 : decode cX5_put 42 = .ok (.getfield 33, 3) := by decide +kernel
theorem dX5_put_45 : decode cX5_put 45 = .ok (.iconst 1, 1) := by decide +kernel
theorem dX5_put_46 : decode cX5_put 46 = .ok (.iadd, 1) := by decide +kernel
theorem dX5_put_47 : decode cX5_put 47 = .ok (.putfield 33, 3) := by decide +kernel
theorem dX5_put_50 : decode cX5_put 50 = .ok (.aload_n 0, 1) := by decide +kernel
theorem dX5_put_51 : decode cX5_put 51 = .ok (.dup, 1) := by decide +kernel
theorem dX5_put_52 : decode cX5_put 52 = .ok (.getfield 37, 3) := by decide +kernel
theorem dX5_put_55 : decode cX5_put 55 = .ok (.iload_n 2, 1) := by decide +kernel
theorem dX5_put_56 : decode cX5_put 56 = .ok (.iadd, 1) := by decide +kernel
theorem dX5_put_57 : decode cX5_put 57 = .ok (.putfield 37, 3) := by decide +kernel
theorem dX5_put_60 : decode cX5_put 60 = .ok (.return_, 1) := by decide +kernel
set_option maxRecDepth 20000 in
theorem ggX5_deal_X5_portion : GoodIn wsX5_deal wsX5_portion := goodIn_r _ [14] (by decide +kernel) (by decide +kernel)
set_option maxRecDepth 20000 in
theorem gX5_deal_X5_portion : GoodIn wsX5_deal (va_wsS RX5 77 yX5_portion wsX5_portion) := goodIn_app (goodIn_of _ (by decide +kernel)) ggX5_deal_X5_portion
theorem dX5_deal_0 : decode cX5_deal 0 = .ok (.iload_n 1, 1) := by decide +kernel
theorem dX5_deal_1 : decode cX5_deal 1 = .ok (.istore_n 3, 1) := by decide +kernel
theorem dX5_deal_2 : decode cX5_deal 2 = .ok (.iconst 0, 1) := by decide +kernel
theorem dX5_deal_3 : decode cX5_deal 3 = .ok (.istore 4, 2) := by decide +kernel
theorem dX5_deal_5 : decode cX5_deal 5 = .ok (.iconst 0, 1) := by decide +kernel
theorem dX5_deal_6 : decode cX5_deal 6 = .ok (.istore 5, 2) := by decide +kernel
theorem dX5_deal_8 : decode cX5_deal 8 = .ok (.iload 5, 2) := by decide +kernel
theorem dX5_deal_10 : decode cX5_deal 10 = .ok (.aload_n 0, 1) := by decide +kernel
theorem dX5_deal_11 : decode cX5_deal 11 = .ok (.getfield 33, 3) := by decide +kernel
theorem dX5_deal_14 : decode cX5_deal 14 = .ok (.if_icmp .ge 67, 3) := by decide +kernel
theorem dX5_deal_17 : decode cX5_deal 17 = .ok (.aload_n 0, 1) := by decide +kernel
theorem dX5_deal_18 : decode cX5_deal 18 = .ok (.getfield 24, 3) := by decide +kernel
theorem dX5_deal_21 : decode cX5_deal 21 = .ok (.iload 5, 2) := by decide +kernel
theorem dX5_deal_23 : decode cX5_deal 23 = .ok (.iload_n 3, 1) := by decide +kernel
theorem dX5_deal_24 : decode cX5_deal 24 = .ok (.aload_n 0, 1) := by decide +kernel
theorem dX5_deal_25 : decode cX5_deal 25 = .ok (.getfield 17, 3) := by decide +kernel
theorem dX5_deal_28 : decode cX5_deal 28 = .ok (.iload 5, 2) := by decide +kernel
theorem dX5_deal_30 : decode cX5_deal 30 = .ok (.iaload, 1) := by decide +kernel
theorem dX5_deal_31 : decode cX5_deal 31 = .ok (.aload_n 0, 1) := by decide +kernel
theorem dX5_deal_32 : decode cX5_deal 32 = .ok (.getfield 21, 3) := by decide +kernel
theorem dX5_deal_35 : decode cX5_deal 35 = .ok (.iload 5, 2) := by decide +kernel
theorem dX5_deal_37 : decode cX5_deal 37 = .ok (.iaload, 1) := by decide +kernel
theorem dX5_deal_38 : decode cX5_deal 38 = .ok (.invokestatic 71, 3) := by decide +kernel
theorem dX5_deal_41 : decode cX5_deal 41 = .ok (.invokestatic 71, 3) := by decide +kernel
theorem dX5_deal_44 : decode cX5_deal 44 = .ok (.iastore, 1) := by decide +kernel
theorem dX5_deal_45 : decode cX5_deal 45 = .ok (.iload_n 3, 1) := by decide +kernel
theorem dX5_deal_46 : decode cX5_deal 46 = .ok (.aload_n 0, 1) := by decide +kernel
theorem dX5_deal_47 : decode cX5_deal 47 = .ok (.getfield 24, 3) := by decide +kernel
theorem dX5_deal_50 : decode cX5_deal 50 = .ok (.iload 5, 2) := by decide +kernel
theorem dX5_deal_52 : decode cX5_deal 52 = .ok (.iaload, 1) := by decide +kernel
theorem dX5_deal_53 : decode cX5_deal 53 = .ok (.isub, 1) := by decide +kernel
theorem dX5_deal_54 : decode cX5_deal 54 = .ok (.istore_n 3, 1) := by decide +kernel
theorem dX5_deal_55 : decode cX5_deal 55 = .ok (.iload 4, 2) := by decide +kernel
theorem dX5_deal_57 : decode cX5_deal 57 = .ok (.aload_n 0, 1) := by decide +kernel
theorem dX5_deal_58 : decode cX5_deal 58 = .ok (.getfield 17, 3) := by decide +kernel
theorem dX5_deal_61 : decode cX5_deal 61 = .ok (.iload 5, 2) := by decide +kernel
theorem dX5_deal_63 : decode cX5_deal 63 = .ok (.iaload, 1) := by decide +kernel
theorem dX5_deal_64 : decode cX5_deal 64 = .ok (.aload_n 0, 1) := by decide +kernel
theorem dX5_deal_65 : decode cX5_deal 65 = .ok (.getfield 24, 3) := by decide +kernel
theorem dX5_deal_68 : decode cX5_deal 68 = .ok (.iload 5, 2) := by decide +kernel
theorem dX5_deal_70 : decode cX5_deal 70 = .ok (.iaload, 1) := by decide +kernel
theorem dX5_deal_71 : decode cX5_deal 71 = .ok (.isub, 1) := by decide +kernel
theorem dX5_deal_72 : decode cX5_deal 72 = .ok (.iadd, 1) := by decide +kernel
theorem dX5_deal_73 : decode cX5_deal 73 = .ok (.istore 4, 2) := by decide +kernel
theorem dX5_deal_75 : decode cX5_deal 75 = .ok (.iinc 5 1, 3) := by decide +kernel
theorem dX5_deal_78 : decode cX5_deal 78 = .ok (.goto (-70), 3) := by decide +kernel
theorem dX5_deal_81 : decode cX5_deal 81 = .ok (.iload_n 3, 1) := by decide +kernel
theorem dX5_deal_82 : decode cX5_deal 82 = .ok (.istore 5, 2) := by decide +kernel
theorem dX5_deal_84 : decode cX5_deal 84 = .ok (.iconst 0, 1) := by decide +kernel
theorem dX5_deal_85 : decode cX5_deal 85 = .ok (.istore 6, 2) := by decide +kernel
theorem dX5_deal_87 : decode cX5_deal 87 = .ok (.iload 6, 2) := by decide +kernel
theorem dX5_deal_89 : decode cX5_deal 89 = .ok (.aload_n 0, 1) := by decide +kernel
theorem dX5_deal_90 : decode cX5_deal 90 = .ok (.getfield 33, 3) := by decide +kernel
theorem dX5_deal_93 : decode cX5_deal 93 = .ok (.if_icmp .ge 49, 3) := by decide +kernel
theorem dX5_deal_96 : decode cX5_deal 96 = .ok (.aload_n 0, 1) := by decide +kernel
theorem dX5_deal_97 : decode cX5_deal 97 = .ok (.getfield 27, 3) := by decide +kernel
theorem dX5_deal_100 : decode cX5_deal 100 = .ok (.iload 6, 2) := by decide +kernel
theorem dX5_deal_102 : decode cX5_deal 102 = .ok (.iload 5, 2) := by decide +kernel
theorem dX5_deal_104 : decode cX5_deal 104 = .ok (.aload_n 0, 1) := by decide +kernel
theorem dX5_deal_105 : decode cX5_deal 105 = .ok (.getfield 17, 3) := by decide +kernel
theorem dX5_deal_108 : decode cX5_deal 108 = .ok (.iload 6, 2) := by decide +kernel
theorem dX5_deal_110 : decode cX5_deal 110 = .ok (.iaload, 1) := by decide +kernel
theorem dX5_deal_111 : decode cX5_deal 111 = .ok (.aload_n 0, 1) := by decide +kernel
theorem dX5_deal_112 : decode cX5_deal 112 = .ok (.getfield 24, 3) := by decide +kernel
theorem dX5_deal_115 : decode cX5_deal 115 = .ok (.iload 6, 2) := by decide +kernel
theorem dX5_deal_117 : decode cX5_deal 117 = .ok (.iaload, 1) := by decide +kernel
theorem dX5_deal_118 : decode cX5_deal 118 = .ok (.isub, 1) := by decide +kernel
theorem dX5_deal_119 : decode cX5_deal 119 = .ok (.iload 4, 2) := by decide +kernel
theorem dX5_deal_121 : decode cX5_deal 121 = .ok (.iload_n 2, 1) := by decide +kernel
theorem dX5_deal_122 : decode cX5_deal 122 = .ok (.invokestatic 77, 3) := by decide +kernel
theorem dX5_deal_125 : decode cX5_deal 125 = .ok (.iastore, 1) := by decide +kernel
theorem dX5_deal_126 : decode cX5_deal 126 = .ok (.iload_n 3, 1) := by decide +kernel
theorem dX5_deal_127 : decode cX5_deal 127 = .ok (.aload_n 0, 1) := by decide +kernel
theorem dX5_deal_128 : decode cX5_deal 128 = .ok (.getfield 27, 3) := by decide +kernel
theorem dX5_deal_131 : decode cX5_deal 131 = .ok (.iload 6, 2) := by decide +kernel
theorem dX5_deal_133 : decode cX5_deal 133 = .ok (.iaload, 1) := by decide +kernel
theorem dX5_deal_134 : decode cX5_deal 134 = .ok (.isub, 1) := by decide +kernel
theorem dX5_deal_135 : decode cX5_deal 135 = .ok (.istore_n 3, 1) := by decide +kernel
theorem dX5_deal_136 : decode cX5_deal 136 = .ok (.iinc 6 1, 3) := by decide +kernel
theorem dX5_deal_139 : decode cX5_deal 139 = .ok (.goto (-52), 3) := by decide +kernel
theorem dX5_deal_142 : decode cX5_deal 142 = .ok (.iconst 0, 1) := by decide +kernel
theorem dX5_deal_143 : decode cX5_deal 143 = .ok (.istore 6, 2) := by decide +kernel
theorem dX5_deal_145 : decode cX5_deal 145 = .ok (.iload 6, 2) := by decide +kernel
theorem dX5_deal_147 : decode cX5_deal 147 = .ok (.aload_n 0, 1) := by decide +kernel
theorem dX5_deal_148 : decode cX5_deal 148 = .ok (.getfield 33, 3) := by decide +kernel
theorem dX5_deal_151 : decode cX5_deal 151 = .ok (.if_icmp .ge 53, 3) := by decide +kernel
theorem dX5_deal_154 : decode cX5_deal 154 = .ok (.aload_n 0, 1) := by decide +kernel
theorem dX5_deal_155 : decode cX5_deal 155 = .ok (.getfield 30, 3) := by decide +kernel
theorem dX5_deal_158 : decode cX5_deal 158 = .ok (.iload 6, 2) := by decide +kernel
theorem dX5_deal_160 : decode cX5_deal 160 = .ok (.iload_n 3, 1) := by decide +kernel
theorem dX5_deal_161 : decode cX5_deal 161 = .ok (.aload_n 0, 1) := by decide +kernel
theorem dX5_deal_162 : decode cX5_deal 162 = .ok (.getfield 17, 3) := by decide +kernel
theorem dX5_deal_165 : decode cX5_deal 165 = .ok (.iload 6, 2) := by decide +kernel
theorem dX5_deal_167 : decode cX5_deal 167 = .ok (.iaload, 1) := by decide +kernel
theorem dX5_deal_168 : decode cX5_deal 168 = .ok (.aload_n 0, 1) := by decide +kernel
theorem dX5_deal_169 : decode cX5_deal 169 = .ok (.getfield 24, 3) := by decide +kernel
theorem dX5_deal_172 : decode cX5_deal 172 = .ok (.iload 6, 2) := by decide +kernel
theorem dX5_deal_174 : decode cX5_deal 174 = .ok (.iaload, 1) := by decide +kernel
theorem dX5_deal_175 : decode cX5_deal 175 = .ok (.isub, 1) := by decide +kernel
theorem dX5_deal_176 : decode cX5_deal 176 = .ok (.aload_n 0, 1) := by decide +kernel
theorem dX5_deal_177 : decode cX5_deal 177 = .ok (.getfield 27, 3) := by decide +kernel
theorem dX5_deal_180 : decode cX5_deal 180 = .ok (.iload 6, 2) := by decide +kernel
theorem dX5_deal_182 : decode cX5_deal 182 = .ok (.iaload, 1) := by decide +kernel
theorem dX5_deal_183 : decode cX5_deal 183 = .ok (.isub, 1) := by decide +kernel
theorem dX5_deal_184 : decode cX5_deal 184 = .ok (.invokestatic 71, 3) := by decide +kernel
theorem dX5_deal_187 : decode cX5_deal 187 = .ok (.iastore, 1) := by decide +kernel
theorem dX5_deal_188 : decode cX5_deal 188 = .ok (.iload_n 3, 1) := by decide +kernel
theorem dX5_deal_189 : decode cX5_deal 189 = .ok (.aload_n 0, 1) := by decide +kernel
theorem dX5_deal_190 : decode cX5_deal 190 = .ok (.getfield 30, 3) := by decide +kernel
theorem dX5_deal_193 : decode cX5_deal 193 = .ok (.iload 6, 2) := by decide +kernel
theorem dX5_deal_195 : decode cX5_deal 195 = .ok (.iaload, 1) := by decide +kernel
theorem dX5_deal_196 : decode cX5_deal 196 = .ok (.isub, 1) := by decide +kernel
theorem dX5_deal_197 : decode cX5_deal 197 = .ok (.istore_n 3, 1) := by decide +kernel
theorem dX5_deal_198 : decode cX5_deal 198 = .ok (.iinc 6 1, 3) := by decide +kernel
theorem dX5_deal_201 : decode cX5_deal 201 = .ok (.goto (-56), 3) := by decide +kernel
theorem dX5_deal_204 : decode cX5_deal 204 = .ok (.return_, 1) := by decide +kernel
theorem dX5_portion_0 : decode cX5_portion 0 = .ok (.iload_n 2, 1) := by decide +kernel
theorem dX5_portion_1 : decode cX5_portion 1 = .ok (.ifCond .gt 5, 3) := by decide +kernel
theorem dX5_portion_4 : decode cX5_portion 4 = .ok (.iconst 0, 1) := by decide +kernel
theorem dX5_portion_5 : decode cX5_portion 5 = .ok (.ireturn, 1) := by decide +kernel
theorem dX5_portion_6 : decode cX5_portion 6 = .ok (.iload_n 0, 1) := by decide +kernel
theorem dX5_portion_7 : decode cX5_portion 7 = .ok (.iload_n 1, 1) := by decide +kernel
theorem dX5_portion_8 : decode cX5_portion 8 = .ok (.imul, 1) := by decide +kernel
theorem dX5_portion_9 : decode cX5_portion 9 = .ok (.iload_n 2, 1) := by decide +kernel
theorem dX5_portion_10 : decode cX5_portion 10 = .ok (.idiv, 1) := by decide +kernel
theorem dX5_portion_11 : decode cX5_portion 11 = .ok (.istore 4, 2) := by decide +kernel
theorem dX5_portion_13 : decode cX5_portion 13 = .ok (.iload 4, 2) := by decide +kernel
theorem dX5_portion_15 : decode cX5_portion 15 = .ok (.iload_n 3, 1) := by decide +kernel
theorem dX5_portion_16 : decode cX5_portion 16 = .ok (.if_icmp .ge 7, 3) := by decide +kernel
theorem dX5_portion_19 : decode cX5_portion 19 = .ok (.iconst 0, 1) := by decide +kernel
theorem dX5_portion_20 : decode cX5_portion 20 = .ok (.goto 5, 3) := by decide +kernel
theorem dX5_portion_23 : decode cX5_portion 23 = .ok (.iload 4, 2) := by decide +kernel
theorem dX5_portion_25 : decode cX5_portion 25 = .ok (.ireturn, 1) := by decide +kernel
theorem dX5_partAt_0 : decode cX5_partAt 0 = .ok (.iload_n 2, 1) := by decide +kernel
theorem dX5_partAt_1 : decode cX5_partAt 1 = .ok (.tableswitch 48 1 3 #[27, 34, 41], 27) := by decide +kernel
theorem dX5_partAt_28 : decode cX5_partAt 28 = .ok (.aload_n 0, 1) := by decide +kernel
theorem dX5_partAt_29 : decode cX5_partAt 29 = .ok (.getfield 24, 3) := by decide +kernel
theorem dX5_partAt_32 : decode cX5_partAt 32 = .ok (.iload_n 1, 1) := by decide +kernel
theorem dX5_partAt_33 : decode cX5_partAt 33 = .ok (.iaload, 1) := by decide +kernel
theorem dX5_partAt_34 : decode cX5_partAt 34 = .ok (.ireturn, 1) := by decide +kernel
theorem dX5_partAt_35 : decode cX5_partAt 35 = .ok (.aload_n 0, 1) := by decide +kernel
theorem dX5_partAt_36 : decode cX5_partAt 36 = .ok (.getfield 27, 3) := by decide +kernel
theorem dX5_partAt_39 : decode cX5_partAt 39 = .ok (.iload_n 1, 1) := by decide +kernel
theorem dX5_partAt_40 : decode cX5_partAt 40 = .ok (.iaload, 1) := by decide +kernel
theorem dX5_partAt_41 : decode cX5_partAt 41 = .ok (.ireturn, 1) := by decide +kernel
theorem dX5_partAt_42 : decode cX5_partAt 42 = .ok (.aload_n 0, 1) := by decide +kernel
theorem dX5_partAt_43 : decode cX5_partAt 43 = .ok (.getfield 30, 3) := by decide +kernel
theorem dX5_partAt_46 : decode cX5_partAt 46 = .ok (.iload_n 1, 1) := by decide +kernel
theorem dX5_partAt_47 : decode cX5_partAt 47 = .ok (.iaload, 1) := by decide +kernel
theorem dX5_partAt_48 : decode cX5_partAt 48 = .ok (.ireturn, 1) := by decide +kernel
theorem dX5_partAt_49 : decode cX5_partAt 49 = .ok (.aload_n 0, 1) := by decide +kernel
theorem dX5_partAt_50 : decode cX5_partAt 50 = .ok (.getfield 24, 3) := by decide +kernel
theorem dX5_partAt_53 : decode cX5_partAt 53 = .ok (.iload_n 1, 1) := by decide +kernel
theorem dX5_partAt_54 : decode cX5_partAt 54 = .ok (.iaload, 1) := by decide +kernel
theorem dX5_partAt_55 : decode cX5_partAt 55 = .ok (.aload_n 0, 1) := by decide +kernel
theorem dX5_partAt_56 : decode cX5_partAt 56 = .ok (.getfield 27, 3) := by decide +kernel
theorem dX5_partAt_59 : decode cX5_partAt 59 = .ok (.iload_n 1, 1) := by decide +kernel
theorem dX5_partAt_60 : decode cX5_partAt 60 = .ok (.iaload, 1) := by decide +kernel
theorem dX5_partAt_61 : decode cX5_partAt 61 = .ok (.iadd, 1) := by decide +kernel
theorem dX5_partAt_62 : decode cX5_partAt 62 = .ok (.aload_n 0, 1) := by decide +kernel
theorem dX5_partAt_63 : decode cX5_partAt 63 = .ok (.getfield 30, 3) := by decide +kernel
theorem dX5_partAt_66 : decode cX5_partAt 66 = .ok (.iload_n 1, 1) := by decide +kernel
theorem dX5_partAt_67 : decode cX5_partAt 67 = .ok (.iaload, 1) := by decide +kernel
theorem dX5_partAt_68 : decode cX5_partAt 68 = .ok (.iadd, 1) := by decide +kernel
theorem dX5_partAt_69 : decode cX5_partAt 69 = .ok (.ireturn, 1) := by decide +kernel
set_option maxRecDepth 20000 in
theorem ggX5_partOf_X5_partAt : GoodIn wsX5_partOf wsX5_partAt := goodIn_r _ [7, 8, 9, 10, 11, 12, 13, 14, 15, 16, 17, 18] (by decide +kernel) (by decide +kernel)
set_option maxRecDepth 20000 in
theorem gX5_partOf_X5_partAt : GoodIn wsX5_partOf (wsV RX5 81 RX5 yX5_partAt wsX5_partAt) := goodIn_app (goodIn_of _ (by decide +kernel)) ggX5_partOf_X5_partAt
theorem dX5_partOf_0 : decode cX5_partOf 0 = .ok (.iconst 0, 1) := by decide +kernel
theorem dX5_partOf_1 : decode cX5_partOf 1 = .ok (.istore_n 3, 1) := by decide +kernel
theorem dX5_partOf_2 : decode cX5_partOf 2 = .ok (.iconst 0, 1) := by decide +kernel
theorem dX5_partOf_3 : decode cX5_partOf 3 = .ok (.istore 4, 2) := by decide +kernel
theorem dX5_partOf_5 : decode cX5_partOf 5 = .ok (.iload 4, 2) := by decide +kernel
theorem dX5_partOf_7 : decode cX5_partOf 7 = .ok (.aload_n 0, 1) := by decide +kernel
theorem dX5_partOf_8 : decode cX5_partOf 8 = .ok (.getfield 33, 3) := by decide +kernel
theorem dX5_partOf_11 : decode cX5_partOf 11 = .ok (.if_icmp .ge 34, 3) := by decide +kernel
theorem dX5_partOf_14 : decode cX5_partOf 14 = .ok (.iload_n 3, 1) := by decide +kernel
theorem dX5_partOf_15 : decode cX5_partOf 15 = .ok (.aload_n 0, 1) := by decide +kernel
theorem dX5_partOf_16 : decode cX5_partOf 16 = .ok (.getfield 13, 3) := by decide +kernel
theorem dX5_partOf_19 : decode cX5_partOf 19 = .ok (.iload 4, 2) := by decide +kernel
theorem dX5_partOf_21 : decode cX5_partOf 21 = .ok (.aaload, 1) := by decide +kernel
theorem dX5_partOf_22 : decode cX5_partOf 22 = .ok (.aload_n 1, 1) := by decide +kernel
theorem dX5_partOf_23 : decode cX5_partOf 23 = .ok (.if_acmp .ne 13, 3) := by decide +kernel
theorem dX5_partOf_26 : decode cX5_partOf 26 = .ok (.aload_n 0, 1) := by decide +kernel
theorem dX5_partOf_27 : decode cX5_partOf 27 = .ok (.iload 4, 2) := by decide +kernel
theorem dX5_partOf_29 : decode cX5_partOf 29 = .ok (.iload_n 2, 1) := by decide +kernel
theorem dX5_partOf_30 : decode cX5_partOf 30 = .ok (.invokevirtual 81, 3) := by decide +kernel
theorem dX5_partOf_33 : decode cX5_partOf 33 = .ok (.goto 4, 3) := by decide +kernel
theorem dX5_partOf_36 : decode cX5_partOf 36 = .ok (.iconst 0, 1) := by decide +kernel
theorem dX5_partOf_37 : decode cX5_partOf 37 = .ok (.iadd, 1) := by decide +kernel
theorem dX5_partOf_38 : decode cX5_partOf 38 = .ok (.istore_n 3, 1) := by decide +kernel
theorem dX5_partOf_39 : decode cX5_partOf 39 = .ok (.iinc 4 1, 3) := by decide +kernel
theorem dX5_partOf_42 : decode cX5_partOf 42 = .ok (.goto (-37), 3) := by decide +kernel
theorem dX5_partOf_45 : decode cX5_partOf 45 = .ok (.iload_n 3, 1) := by decide +kernel
theorem dX5_partOf_46 : decode cX5_partOf 46 = .ok (.ireturn, 1) := by decide +kernel
theorem dX6_init_0 : decode cX6_init 0 = .ok (.aload_n 0, 1) := by decide +kernel
theorem dX6_init_1 : decode cX6_init 1 = .ok (.invokespecial 3, 3) := by decide +kernel
theorem dX6_init_4 : decode cX6_init 4 = .ok (.aload_n 0, 1) := by decide +kernel
theorem dX6_init_5 : decode cX6_init 5 = .ok (.sipush 500, 3) := by decide +kernel
theorem dX6_init_8 : decode cX6_init 8 = .ok (.newarray .int, 2) := by decide +kernel
theorem dX6_init_10 : decode cX6_init 10 = .ok (.putfield 9, 3) := by decide +kernel
theorem dX6_init_13 : decode cX6_init 13 = .ok (.aload_n 0, 1) := by decide +kernel
theorem dX6_init_14 : decode cX6_init 14 = .ok (.iconst 3, 1) := by decide +kernel
theorem dX6_init_15 : decode cX6_init 15 = .ok (.newarray .int, 2) := by decide +kernel
theorem dX6_init_17 : decode cX6_init 17 = .ok (.putfield 15, 3) := by decide +kernel
theorem dX6_init_20 : decode cX6_init 20 = .ok (.return_, 1) := by decide +kernel
set_option maxRecDepth 20000 in
theorem ggX7_init_X2_init : GoodIn wsX7_init wsX2_init := goodIn_r _ [14, 15, 2, 3, 16, 17, 18, 19, 20, 21, 22, 23, 24, 25, 26, 27, 28, 29, 30, 31, 32, 33, 34, 35, 36, 37, 38, 39, 40, 41, 42, 43, 44, 45, 46, 47, 48, 49, 50, 51, 52, 53, 54, 55, 56, 57, 58, 59, 60, 61, 62, 63, 64, 65, 66, 67, 68, 69, 70, 103, 104, 105, 106, 76, 77, 78, 79, 80, 81, 82, 83, 84, 85, 86, 87, 107, 108, 109, 110, 111, 112, 113, 114, 115, 116, 117, 118, 119, 120, 121, 122, 123, 124, 125, 126, 127, 128, 129, 130] (by decide +kernel) (by decide +kernel)
set_option maxRecDepth 20000 in
theorem gX7_init_X2_init_n9 : GoodIn wsX7_init (wsX2_init) := ggX7_init_X2_init
set_option maxRecDepth 20000 in
theorem ggX7_init_X6_init : GoodIn wsX7_init wsX6_init := goodIn_r _ [72, 73, 2, 3, 44, 74, 75, 91, 92, 93, 94, 95, 96, 97, 98, 99, 100, 101, 102] (by decide +kernel) (by decide +kernel)
set_option maxRecDepth 20000 in
theorem gX7_init_X6_init_n21 : GoodIn wsX7_init (wsX6_init) := ggX7_init_X6_init
theorem dX7_init_0 : decode cX7_init 0 = .ok (.aload_n 0, 1) := by decide +kernel
theorem dX7_init_1 : decode cX7_init 1 = .ok (.invokespecial 1, 3) := by decide +kernel
theorem dX7_init_4 : decode cX7_init 4 = .ok (.aload_n 0, 1) := by decide +kernel
theorem dX7_init_5 : decode cX7_init 5 = .ok (.new 7, 3) := by decide +kernel
theorem dX7_init_8 : decode cX7_init 8 = .ok (.dup, 1) := by decide +kernel
theorem dX7_init_9 : decode cX7_init 9 = .ok (.invokespecial 9, 3) := by decide +kernel
theorem dX7_init_12 : decode cX7_init 12 = .ok (.putfield 10, 3) := by decide +kernel
theorem dX7_init_15 : decode cX7_init 15 = .ok (.aload_n 0, 1) := by decide +kernel
theorem dX7_init_16 : decode cX7_init 16 = .ok (.new 7, 3) := by decide +kernel
theorem dX7_init_19 : decode cX7_init 19 = .ok (.dup, 1) := by decide +kernel
theorem dX7_init_20 : decode cX7_init 20 = .ok (.invokespecial 9, 3) := by decide +kernel
theorem dX7_init_23 : decode cX7_init 23 = .ok (.putfield 16, 3) := by decide +kernel
theorem dX7_init_26 : decode cX7_init 26 = .ok (.aload_n 0, 1) := by decide +kernel
theorem dX7_init_27 : decode cX7_init 27 = .ok (.new 19, 3) := by decide +kernel
theorem dX7_init_30 : decode cX7_init 30 = .ok (.dup, 1) := by decide +kernel
theorem dX7_init_31 : decode cX7_init 31 = .ok (.invokespecial 21, 3) := by decide +kernel
theorem dX7_init_34 : decode cX7_init 34 = .ok (.putfield 22, 3) := by decide +kernel
theorem dX7_init_37 : decode cX7_init 37 = .ok (.return_, 1) := by decide +kernel
set_option maxRecDepth 20000 in
theorem ggX7_order_X7_isForm : GoodIn wsX7_order wsX7_isForm := goodIn_r _ [5, 6, 7, 8, 4, 9, 10, 11, 12] (by decide +kernel) (by decide +kernel)
set_option maxRecDepth 20000 in
theorem gX7_order_X7_isForm : GoodIn wsX7_order (va_wsS RX7 87 yX7_isForm wsX7_isForm) := goodIn_app (goodIn_of _ (by decide +kernel)) ggX7_order_X7_isForm
set_option maxRecDepth 20000 in
theorem ggX7_order_X7_isWorthInt : GoodIn wsX7_order wsX7_isWorthInt := goodIn_r _ [15, 16] (by decide +kernel) (by decide +kernel)
set_option maxRecDepth 20000 in
theorem gX7_order_X7_isWorthInt : GoodIn wsX7_order (va_wsS RX7 91 yX7_isWorthInt wsX7_isWorthInt) := goodIn_app (goodIn_of _ (by decide +kernel)) ggX7_order_X7_isWorthInt
set_option maxRecDepth 20000 in
theorem ggX7_order_X2_comeIn : GoodIn wsX7_order wsX2_comeIn := goodIn_r _ [21, 22, 23, 24, 25, 26, 27, 28, 29, 30, 31, 32, 33, 34, 35, 36, 37, 38, 39, 40, 41, 42, 43, 44, 45, 46, 20, 47, 48, 49, 50, 51, 52, 53, 54, 55, 56, 57, 58, 59, 60, 61, 62, 4, 63, 64, 65, 66, 67, 68, 69, 70, 71, 72, 73, 74, 75, 76, 77, 78, 79, 80, 81, 82, 83, 84, 85, 86, 87, 88, 89, 90, 91, 92, 93, 94, 95, 96, 97, 98, 99, 100, 101, 102, 103, 104, 105, 106, 107, 108, 109, 110, 111, 112, 113, 114, 115, 116, 117, 118, 119, 120, 121, 122, 123, 124, 125, 126, 127, 128, 129, 130, 131, 132, 133, 134, 135, 136, 137, 138, 139, 140, 141, 142, 143, 144, 145, 146, 147, 148, 149, 150, 151, 152, 153, 154, 155, 156, 157, 158, 159, 160, 161, 162, 163, 164, 165, 166, 167, 168, 169, 170, 171, 172, 173, 174, 175, 176, 177, 178, 179, 180, 181, 182, 183, 184, 185, 186, 187, 188, 189, 193, 194, 195, 196, 197, 198, 199, 200, 201, 202, 203, 204, 205, 206, 207, 208, 209, 210, 211, 212, 213, 214, 215, 216, 217, 218, 219, 220, 221, 222, 223, 224, 225, 226, 227, 228, 229] (by decide +kernel) (by decide +kernel)
set_option maxRecDepth 20000 in
theorem gX7_order_X2_comeIn : GoodIn wsX7_order (wsV RX7 62 RX2 yX2_comeIn wsX2_comeIn) := goodIn_app (goodIn_of _ (by decide +kernel)) ggX7_order_X2_comeIn
theorem dX7_order_0 : decode cX7_order 0 = .ok (.iload_n 1, 1) := by decide +kernel
theorem dX7_order_1 : decode cX7_order 1 = .ok (.iload_n 2, 1) := by decide +kernel
theorem dX7_order_2 : decode cX7_order 2 = .ok (.iload_n 3, 1) := by decide +kernel
theorem dX7_order_3 : decode cX7_order 3 = .ok (.iload 4, 2) := by decide +kernel
theorem dX7_order_5 : decode cX7_order 5 = .ok (.iload 5, 2) := by decide +kernel
theorem dX7_order_7 : decode cX7_order 7 = .ok (.invokestatic 87, 3) := by decide +kernel
theorem dX7_order_10 : decode cX7_order 10 = .ok (.ifCond .ne 5, 3) := by decide +kernel
theorem dX7_order_13 : decode cX7_order 13 = .ok (.iconst (-1), 1) := by decide +kernel
theorem dX7_order_14 : decode cX7_order 14 = .ok (.ireturn, 1) := by decide +kernel
theorem dX7_order_15 : decode cX7_order 15 = .ok (.iload_n 3, 1) := by decide +kernel
theorem dX7_order_16 : decode cX7_order 16 = .ok (.iload 4, 2) := by decide +kernel
theorem dX7_order_18 : decode cX7_order 18 = .ok (.invokestatic 91, 3) := by decide +kernel
theorem dX7_order_21 : decode cX7_order 21 = .ok (.ifCond .ne 6, 3) := by decide +kernel
theorem dX7_order_24 : decode cX7_order 24 = .ok (.bipush (-2), 2) := by decide +kernel
theorem dX7_order_26 : decode cX7_order 26 = .ok (.ireturn, 1) := by decide +kernel
theorem dX7_order_27 : decode cX7_order 27 = .ok (.aload_n 0, 1) := by decide +kernel
theorem dX7_order_28 : decode cX7_order 28 = .ok (.getfield 10, 3) := by decide +kernel
theorem dX7_order_31 : decode cX7_order 31 = .ok (.iload_n 1, 1) := by decide +kernel
theorem dX7_order_32 : decode cX7_order 32 = .ok (.iload_n 2, 1) := by decide +kernel
theorem dX7_order_33 : decode cX7_order 33 = .ok (.iload_n 3, 1) := by decide +kernel
theorem dX7_order_34 : decode cX7_order 34 = .ok (.iload 4, 2) := by decide +kernel
theorem dX7_order_36 : decode cX7_order 36 = .ok (.iload 5, 2) := by decide +kernel
theorem dX7_order_38 : decode cX7_order 38 = .ok (.invokevirtual 62, 3) := by decide +kernel
theorem dX7_order_41 : decode cX7_order 41 = .ok (.ireturn, 1) := by decide +kernel
set_option maxRecDepth 20000 in
theorem ggX7_isForm_X7_isTrader : GoodIn wsX7_isForm wsX7_isTrader := goodIn_r _ [5] (by decide +kernel) (by decide +kernel)
set_option maxRecDepth 20000 in
theorem gX7_isForm_X7_isTrader : GoodIn wsX7_isForm (va_wsS RX7 95 yX7_isTrader wsX7_isTrader) := goodIn_app (goodIn_of _ (by decide +kernel)) ggX7_isForm_X7_isTrader
set_option maxRecDepth 20000 in
theorem ggX7_isForm_X7_isSide : GoodIn wsX7_isForm wsX7_isSide := goodIn_r _ [8] (by decide +kernel) (by decide +kernel)
set_option maxRecDepth 20000 in
theorem gX7_isForm_X7_isSide : GoodIn wsX7_isForm (va_wsS RX7 99 yX7_isSide wsX7_isSide) := goodIn_app (goodIn_of _ (by decide +kernel)) ggX7_isForm_X7_isSide
theorem dX7_isForm_0 : decode cX7_isForm 0 = .ok (.iload_n 0, 1) := by decide +kernel
theorem dX7_isForm_1 : decode cX7_isForm 1 = .ok (.invokestatic 95, 3) := by decide +kernel
theorem dX7_isForm_4 : decode cX7_isForm 4 = .ok (.ifCond .eq 48, 3) := by decide +kernel
theorem dX7_isForm_7 : decode cX7_isForm 7 = .ok (.iload_n 1, 1) := by decide +kernel
theorem dX7_isForm_8 : decode cX7_isForm 8 = .ok (.invokestatic 99, 3) := by decide +kernel
theorem dX7_isForm_11 : decode cX7_isForm 11 = .ok (.ifCond .eq 41, 3) := by decide +kernel
theorem dX7_isForm_14 : decode cX7_isForm 14 = .ok (.iload_n 2, 1) := by decide +kernel
theorem dX7_isForm_15 : decode cX7_isForm 15 = .ok (.iconst 1, 1) := by decide +kernel
theorem dX7_isForm_16 : decode cX7_isForm 16 = .ok (.if_icmp .lt 36, 3) := by decide +kernel
theorem dX7_isForm_19 : decode cX7_isForm 19 = .ok (.iload_n 2, 1) := by decide +kernel
theorem dX7_isForm_20 : decode cX7_isForm 20 = .ok (.ldc 102, 2) := by decide +kernel
theorem dX7_isForm_22 : decode cX7_isForm 22 = .ok (.if_icmp .gt 30, 3) := by decide +kernel
theorem dX7_isForm_25 : decode cX7_isForm 25 = .ok (.iload_n 3, 1) := by decide +kernel
theorem dX7_isForm_26 : decode cX7_isForm 26 = .ok (.iconst 1, 1) := by decide +kernel
theorem dX7_isForm_27 : decode cX7_isForm 27 = .ok (.if_icmp .lt 25, 3) := by decide +kernel
theorem dX7_isForm_30 : decode cX7_isForm 30 = .ok (.iload_n 3, 1) := by decide +kernel
theorem dX7_isForm_31 : decode cX7_isForm 31 = .ok (.sipush 1000, 3) := by decide +kernel
theorem dX7_isForm_34 : decode cX7_isForm 34 = .ok (.if_icmp .gt 18, 3) := by decide +kernel
theorem dX7_isForm_37 : decode cX7_isForm 37 = .ok (.iload 4, 2) := by decide +kernel
theorem dX7_isForm_39 : decode cX7_isForm 39 = .ok (.ifCond .lt 13, 3) := by decide +kernel
theorem dX7_isForm_42 : decode cX7_isForm 42 = .ok (.iload 4, 2) := by decide +kernel
theorem dX7_isForm_44 : decode cX7_isForm 44 = .ok (.iconst 4, 1) := by decide +kernel
theorem dX7_isForm_45 : decode cX7_isForm 45 = .ok (.if_icmp .ge 7, 3) := by decide +kernel
theorem dX7_isForm_48 : decode cX7_isForm 48 = .ok (.iconst 1, 1) := by decide +kernel
theorem dX7_isForm_49 : decode cX7_isForm 49 = .ok (.goto 4, 3) := by decide +kernel
theorem dX7_isForm_52 : decode cX7_isForm 52 = .ok (.iconst 0, 1) := by decide +kernel
theorem dX7_isForm_53 : decode cX7_isForm 53 = .ok (.ireturn, 1) := by decide +kernel
theorem dX7_isTrader_0 : decode cX7_isTrader 0 = .ok (.iload_n 0, 1) := by decide +kernel
theorem dX7_isTrader_1 : decode cX7_isTrader 1 = .ok (.ifCond .lt 13, 3) := by decide +kernel
theorem dX7_isTrader_4 : decode cX7_isTrader 4 = .ok (.iload_n 0, 1) := by decide +kernel
theorem dX7_isTrader_5 : decode cX7_isTrader 5 = .ok (.bipush 10, 2) := by decide +kernel
theorem dX7_isTrader_7 : decode cX7_isTrader 7 = .ok (.if_icmp .ge 7, 3) := by decide +kernel
theorem dX7_isTrader_10 : decode cX7_isTrader 10 = .ok (.iconst 1, 1) := by decide +kernel
theorem dX7_isTrader_11 : decode cX7_isTrader 11 = .ok (.goto 4, 3) := by decide +kernel
theorem dX7_isTrader_14 : decode cX7_isTrader 14 = .ok (.iconst 0, 1) := by decide +kernel
theorem dX7_isTrader_15 : decode cX7_isTrader 15 = .ok (.ireturn, 1) := by decide +kernel
theorem dX7_isSide_0 : decode cX7_isSide 0 = .ok (.iload_n 0, 1) := by decide +kernel
theorem dX7_isSide_1 : decode cX7_isSide 1 = .ok (.ifCond .eq 8, 3) := by decide +kernel
theorem dX7_isSide_4 : decode cX7_isSide 4 = .ok (.iload_n 0, 1) := by decide +kernel
theorem dX7_isSide_5 : decode cX7_isSide 5 = .ok (.iconst 1, 1) := by decide +kernel
theorem dX7_isSide_6 : decode cX7_isSide 6 = .ok (.if_icmp .ne 7, 3) := by decide +kernel
theorem dX7_isSide_9 : decode cX7_isSide 9 = .ok (.iconst 1, 1) := by decide +kernel
theorem dX7_isSide_10 : decode cX7_isSide 10 = .ok (.goto 4, 3) := by decide +kernel
theorem dX7_isSide_13 : decode cX7_isSide 13 = .ok (.iconst 0, 1) := by decide +kernel
theorem dX7_isSide_14 : decode cX7_isSide 14 = .ok (.ireturn, 1) := by decide +kernel
theorem dX7_isWorthInt_0 : decode cX7_isWorthInt 0 = .ok (.iload_n 0, 1) := by decide +kernel
theorem dX7_isWorthInt_1 : decode cX7_isWorthInt 1 = .ok (.i2l, 1) := by decide +kernel
theorem dX7_isWorthInt_2 : decode cX7_isWorthInt 2 = .ok (.iload_n 1, 1) := by decide +kernel
theorem dX7_isWorthInt_3 : decode cX7_isWorthInt 3 = .ok (.i2l, 1) := by decide +kernel
theorem dX7_isWorthInt_4 : decode cX7_isWorthInt 4 = .ok (.lmul, 1) := by decide +kernel
theorem dX7_isWorthInt_5 : decode cX7_isWorthInt 5 = .ok (.ldc2_w 103, 3) := by decide +kernel
theorem dX7_isWorthInt_8 : decode cX7_isWorthInt 8 = .ok (.lcmp, 1) := by decide +kernel
theorem dX7_isWorthInt_9 : decode cX7_isWorthInt 9 = .ok (.ifCond .gt 7, 3) := by decide +kernel
theorem dX7_isWorthInt_12 : decode cX7_isWorthInt 12 = .ok (.iconst 1, 1) := by decide +kernel
theorem dX7_isWorthInt_13 : decode cX7_isWorthInt 13 = .ok (.goto 4, 3) := by decide +kernel
theorem dX7_isWorthInt_16 : decode cX7_isWorthInt 16 = .ok (.iconst 0, 1) := by decide +kernel
theorem dX7_isWorthInt_17 : decode cX7_isWorthInt 17 = .ok (.ireturn, 1) := by decide +kernel
theorem dX7_grant_0 : decode cX7_grant 0 = .ok (.iload_n 1, 1) := by decide +kernel
theorem dX7_grant_1 : decode cX7_grant 1 = .ok (.ifCond .lt 10, 3) := by decide +kernel
theorem dX7_grant_4 : decode cX7_grant 4 = .ok (.iload_n 1, 1) := by decide +kernel
theorem dX7_grant_5 : decode cX7_grant 5 = .ok (.sipush 1000, 3) := by decide +kernel
theorem dX7_grant_8 : decode cX7_grant 8 = .ok (.if_icmp .le 5, 3) := by decide +kernel
theorem dX7_grant_11 : decode cX7_grant 11 = .ok (.iconst (-1), 1) := by decide +kernel
theorem dX7_grant_12 : decode cX7_grant 12 = .ok (.ireturn, 1) := by decide +kernel
theorem dX7_grant_13 : decode cX7_grant 13 = .ok (.aload_n 0, 1) := by decide +kernel
theorem dX7_grant_14 : decode cX7_grant 14 = .ok (.getfield 10, 3) := by decide +kernel
theorem dX7_grant_17 : decode cX7_grant 17 = .ok (.getfield 127, 3) := by decide +kernel
theorem dX7_grant_20 : decode cX7_grant 20 = .ok (.istore_n 2, 1) := by decide +kernel
theorem dX7_grant_21 : decode cX7_grant 21 = .ok (.aload_n 0, 1) := by decide +kernel
theorem dX7_grant_22 : decode cX7_grant 22 = .ok (.getfield 10, 3) := by decide +kernel
theorem dX7_grant_25 : decode cX7_grant 25 = .ok (.iload_n 1, 1) := by decide +kernel
theorem dX7_grant_26 : decode cX7_grant 26 = .ok (.putfield 127, 3) := by decide +kernel
theorem dX7_grant_29 : decode cX7_grant 29 = .ok (.iload_n 2, 1) := by decide +kernel
theorem dX7_grant_30 : decode cX7_grant 30 = .ok (.ireturn, 1) := by decide +kernel
theorem dX7_least_0 : decode cX7_least 0 = .ok (.iload_n 1, 1) := by decide +kernel
theorem dX7_least_1 : decode cX7_least 1 = .ok (.iconst 1, 1) := by decide +kernel
theorem dX7_least_2 : decode cX7_least 2 = .ok (.if_icmp .lt 9, 3) := by decide +kernel
theorem dX7_least_5 : decode cX7_least 5 = .ok (.iload_n 1, 1) := by decide +kernel
theorem dX7_least_6 : decode cX7_least 6 = .ok (.bipush 50, 2) := by decide +kernel
theorem dX7_least_8 : decode cX7_least 8 = .ok (.if_icmp .le 5, 3) := by decide +kernel
theorem dX7_least_11 : decode cX7_least 11 = .ok (.iconst (-1), 1) := by decide +kernel
theorem dX7_least_12 : decode cX7_least 12 = .ok (.ireturn, 1) := by decide +kernel
theorem dX7_least_13 : decode cX7_least 13 = .ok (.aload_n 0, 1) := by decide +kernel
theorem dX7_least_14 : decode cX7_least 14 = .ok (.getfield 10, 3) := by decide +kernel
theorem dX7_least_17 : decode cX7_least 17 = .ok (.getfield 129, 3) := by decide +kernel
theorem dX7_least_20 : decode cX7_least 20 = .ok (.istore_n 2, 1) := by decide +kernel
theorem dX7_least_21 : decode cX7_least 21 = .ok (.aload_n 0, 1) := by decide +kernel
theorem dX7_least_22 : decode cX7_least 22 = .ok (.getfield 10, 3) := by decide +kernel
theorem dX7_least_25 : decode cX7_least 25 = .ok (.iload_n 1, 1) := by decide +kernel
theorem dX7_least_26 : decode cX7_least 26 = .ok (.putfield 129, 3) := by decide +kernel
theorem dX7_least_29 : decode cX7_least 29 = .ok (.iload_n 2, 1) := by decide +kernel
theorem dX7_least_30 : decode cX7_least 30 = .ok (.ireturn, 1) := by decide +kernel
set_option maxRecDepth 20000 in
theorem ggX7_of_X0_find : GoodIn wsX7_of wsX0_find := goodIn_r _ [14, 15, 16, 17, 46, 47, 48, 49, 40, 41, 42, 43, 44, 45] (by decide +kernel) (by decide +kernel)
set_option maxRecDepth 20000 in
theorem gX7_of_X0_find : GoodIn wsX7_of (wsV RX7 109 RX0 yX0_find wsX0_find) := goodIn_app (goodIn_of _ (by decide +kernel)) ggX7_of_X0_find
set_option maxRecDepth 20000 in
theorem ggX7_of_X0_grantOf : GoodIn wsX7_of wsX0_grantOf := goodIn_r _ [21, 22, 23, 17, 24, 46, 47, 48, 49, 40, 41, 42, 43, 44, 45] (by decide +kernel) (by decide +kernel)
set_option maxRecDepth 20000 in
theorem gX7_of_X0_grantOf : GoodIn wsX7_of (wsV RX7 159 RX0 yX0_grantOf wsX0_grantOf) := goodIn_app (goodIn_of _ (by decide +kernel)) ggX7_of_X0_grantOf
theorem dX7_of_0 : decode cX7_of 0 = .ok (.aload_n 0, 1) := by decide +kernel
theorem dX7_of_1 : decode cX7_of 1 = .ok (.getfield 10, 3) := by decide +kernel
theorem dX7_of_4 : decode cX7_of 4 = .ok (.getfield 105, 3) := by decide +kernel
theorem dX7_of_7 : decode cX7_of 7 = .ok (.iload_n 1, 1) := by decide +kernel
theorem dX7_of_8 : decode cX7_of 8 = .ok (.invokevirtual 109, 3) := by decide +kernel
theorem dX7_of_11 : decode cX7_of 11 = .ok (.astore_n 3, 1) := by decide +kernel
theorem dX7_of_12 : decode cX7_of 12 = .ok (.aload_n 3, 1) := by decide +kernel
theorem dX7_of_13 : decode cX7_of 13 = .ok (.ifnonnull 13, 3) := by decide +kernel
theorem dX7_of_16 : decode cX7_of 16 = .ok (.new 140, 3) := by decide +kernel
theorem dX7_of_19 : decode cX7_of 19 = .ok (.dup, 1) := by decide +kernel
theorem dX7_of_20 : decode cX7_of 20 = .ok (.ldc 142, 2) := by decide +kernel
theorem dX7_of_22 : decode cX7_of 22 = .ok (.invokespecial 144, 3) := by decide +kernel
theorem dX7_of_25 : decode cX7_of 25 = .ok (.athrow, 1) := by decide +kernel
theorem dX7_of_26 : decode cX7_of 26 = .ok (.iload_n 2, 1) := by decide +kernel
theorem dX7_of_27 : decode cX7_of 27 = .ok (.tableswitch 74 0 5 #[37, 42, 47, 52, 57, 62], 37) := by decide +kernel
theorem dX7_of_64 : decode cX7_of 64 = .ok (.aload_n 3, 1) := by decide +kernel
theorem dX7_of_65 : decode cX7_of 65 = .ok (.getfield 147, 3) := by decide +kernel
theorem dX7_of_68 : decode cX7_of 68 = .ok (.ireturn, 1) := by decide +kernel
theorem dX7_of_69 : decode cX7_of 69 = .ok (.aload_n 3, 1) := by decide +kernel
theorem dX7_of_70 : decode cX7_of 70 = .ok (.getfield 150, 3) := by decide +kernel
theorem dX7_of_73 : decode cX7_of 73 = .ok (.ireturn, 1) := by decide +kernel
theorem dX7_of_74 : decode cX7_of 74 = .ok (.aload_n 3, 1) := by decide +kernel
theorem dX7_of_75 : decode cX7_of 75 = .ok (.getfield 153, 3) := by decide +kernel
theorem dX7_of_78 : decode cX7_of 78 = .ok (.ireturn, 1) := by decide +kernel
theorem dX7_of_79 : decode cX7_of 79 = .ok (.aload_n 3, 1) := by decide +kernel
theorem dX7_of_80 : decode cX7_of 80 = .ok (.getfield 115, 3) := by decide +kernel
end
section
theorem dX7_of_83 : decode cX7_of 83 = .ok (.ireturn, 1) := by decide +kernel
theorem dX7_of_84 : decode cX7_of 84 = .ok (.aload_n 3, 1) := by decide +kernel
theorem dX7_of_85 : decode cX7_of 85 = .ok (.getfield 156, 3) := by decide +kernel
theorem dX7_of_88 : decode cX7_of 88 = .ok (.ireturn, 1) := by decide +kernel
theorem dX7_of_89 : decode cX7_of 89 = .ok (.aload_n 0, 1) := by decide +kernel
theorem dX7_of_90 : decode cX7_of 90 = .ok (.getfield 10, 3) := by decide +kernel
theorem dX7_of_93 : decode cX7_of 93 = .ok (.getfield 105, 3) := by decide +kernel
theorem dX7_of_96 : decode cX7_of 96 = .ok (.aload_n 3, 1) := by decide +kernel
theorem dX7_of_97 : decode cX7_of 97 = .ok (.invokevirtual 159, 3) := by decide +kernel
theorem dX7_of_100 : decode cX7_of 100 = .ok (.ireturn, 1) := by decide +kernel
theorem dX7_of_101 : decode cX7_of 101 = .ok (.new 140, 3) := by decide +kernel
theorem dX7_of_104 : decode cX7_of 104 = .ok (.dup, 1) := by decide +kernel
theorem dX7_of_105 : decode cX7_of 105 = .ok (.ldc 163, 2) := by decide +kernel
theorem dX7_of_107 : decode cX7_of 107 = .ok (.invokespecial 144, 3) := by decide +kernel
theorem dX7_of_110 : decode cX7_of 110 = .ok (.athrow, 1) := by decide +kernel
set_option maxRecDepth 20000 in
theorem ggX7_top_X7_isSide : GoodIn wsX7_top wsX7_isSide := goodIn_r _ [7] (by decide +kernel) (by decide +kernel)
set_option maxRecDepth 20000 in
theorem gX7_top_X7_isSide : GoodIn wsX7_top (va_wsS RX7 99 yX7_isSide wsX7_isSide) := goodIn_app (goodIn_of _ (by decide +kernel)) ggX7_top_X7_isSide
theorem dX7_top_0 : decode cX7_top 0 = .ok (.iload_n 1, 1) := by decide +kernel
theorem dX7_top_1 : decode cX7_top 1 = .ok (.invokestatic 99, 3) := by decide +kernel
theorem dX7_top_4 : decode cX7_top 4 = .ok (.ifCond .eq 18, 3) := by decide +kernel
theorem dX7_top_7 : decode cX7_top 7 = .ok (.aload_n 0, 1) := by decide +kernel
theorem dX7_top_8 : decode cX7_top 8 = .ok (.getfield 10, 3) := by decide +kernel
theorem dX7_top_11 : decode cX7_top 11 = .ok (.getfield 105, 3) := by decide +kernel
theorem dX7_top_14 : decode cX7_top 14 = .ok (.getfield 181, 3) := by decide +kernel
theorem dX7_top_17 : decode cX7_top 17 = .ok (.iload_n 1, 1) := by decide +kernel
theorem dX7_top_18 : decode cX7_top 18 = .ok (.iaload, 1) := by decide +kernel
theorem dX7_top_19 : decode cX7_top 19 = .ok (.ifCond .ne 5, 3) := by decide +kernel
theorem dX7_top_22 : decode cX7_top 22 = .ok (.iconst (-1), 1) := by decide +kernel
theorem dX7_top_23 : decode cX7_top 23 = .ok (.ireturn, 1) := by decide +kernel
theorem dX7_top_24 : decode cX7_top 24 = .ok (.aload_n 0, 1) := by decide +kernel
theorem dX7_top_25 : decode cX7_top 25 = .ok (.getfield 10, 3) := by decide +kernel
theorem dX7_top_28 : decode cX7_top 28 = .ok (.getfield 105, 3) := by decide +kernel
theorem dX7_top_31 : decode cX7_top 31 = .ok (.getfield 181, 3) := by decide +kernel
theorem dX7_top_34 : decode cX7_top 34 = .ok (.iload_n 1, 1) := by decide +kernel
theorem dX7_top_35 : decode cX7_top 35 = .ok (.iaload, 1) := by decide +kernel
theorem dX7_top_36 : decode cX7_top 36 = .ok (.ireturn, 1) := by decide +kernel
set_option maxRecDepth 20000 in
theorem ggX7_share_X0_find : GoodIn wsX7_share wsX0_find := goodIn_r _ [12, 13, 14, 15, 96, 97, 98, 99, 82, 83, 84, 85, 86, 87] (by decide +kernel) (by decide +kernel)
set_option maxRecDepth 20000 in
theorem gX7_share_X0_find : GoodIn wsX7_share (wsV RX7 109 RX0 yX0_find wsX0_find) := goodIn_app (goodIn_of _ (by decide +kernel)) ggX7_share_X0_find
set_option maxRecDepth 20000 in
theorem ggX7_share_X5_load : GoodIn wsX7_share wsX5_load := goodIn_r _ [20, 21, 22, 23, 24, 25, 26, 27, 28, 11, 29, 14, 30, 31, 32, 33, 34, 35, 36, 15, 37, 38, 39, 40, 19, 41, 42, 43, 44, 88, 89, 90, 91, 92, 93, 94, 95, 96, 97, 98, 99, 82, 83, 84, 85, 86, 87] (by decide +kernel) (by decide +kernel)
set_option maxRecDepth 20000 in
theorem gX7_share_X5_load : GoodIn wsX7_share (wsV RX7 194 RX5 yX5_load wsX5_load) := goodIn_app (goodIn_of _ (by decide +kernel)) ggX7_share_X5_load
set_option maxRecDepth 20000 in
theorem ggX7_share_X5_deal : GoodIn wsX7_share wsX5_deal := goodIn_r _ [48, 21, 49, 43, 44, 50, 51, 52, 53, 54, 55, 56, 57, 19, 58, 88, 89, 90, 91, 92, 93, 94, 95] (by decide +kernel) (by decide +kernel)
set_option maxRecDepth 20000 in
theorem gX7_share_X5_deal : GoodIn wsX7_share (wsV RX7 203 RX5 yX5_deal wsX5_deal) := goodIn_app (goodIn_of _ (by decide +kernel)) ggX7_share_X5_deal
set_option maxRecDepth 20000 in
theorem ggX7_share_X5_partOf : GoodIn wsX7_share wsX5_partOf := goodIn_r _ [62, 21, 42, 63, 64, 65, 19, 66, 49, 54, 55, 88, 89, 90, 91, 92, 93, 94, 95] (by decide +kernel) (by decide +kernel)
set_option maxRecDepth 20000 in
theorem gX7_share_X5_partOf : GoodIn wsX7_share (wsV RX7 207 RX5 yX5_partOf wsX5_partOf) := goodIn_app (goodIn_of _ (by decide +kernel)) ggX7_share_X5_partOf
theorem dX7_share_0 : decode cX7_share 0 = .ok (.aload_n 0, 1) := by decide +kernel
theorem dX7_share_1 : decode cX7_share 1 = .ok (.getfield 10, 3) := by decide +kernel
theorem dX7_share_4 : decode cX7_share 4 = .ok (.getfield 105, 3) := by decide +kernel
theorem dX7_share_7 : decode cX7_share 7 = .ok (.iload_n 1, 1) := by decide +kernel
theorem dX7_share_8 : decode cX7_share 8 = .ok (.invokevirtual 109, 3) := by decide +kernel
theorem dX7_share_11 : decode cX7_share 11 = .ok (.astore 4, 2) := by decide +kernel
theorem dX7_share_13 : decode cX7_share 13 = .ok (.aload 4, 2) := by decide +kernel
theorem dX7_share_15 : decode cX7_share 15 = .ok (.ifnull 12, 3) := by decide +kernel
theorem dX7_share_18 : decode cX7_share 18 = .ok (.iload_n 3, 1) := by decide +kernel
theorem dX7_share_19 : decode cX7_share 19 = .ok (.ifCond .lt 8, 3) := by decide +kernel
theorem dX7_share_22 : decode cX7_share 22 = .ok (.iload_n 3, 1) := by decide +kernel
theorem dX7_share_23 : decode cX7_share 23 = .ok (.iconst 3, 1) := by decide +kernel
theorem dX7_share_24 : decode cX7_share 24 = .ok (.if_icmp .le 5, 3) := by decide +kernel
theorem dX7_share_27 : decode cX7_share 27 = .ok (.iconst (-1), 1) := by decide +kernel
theorem dX7_share_28 : decode cX7_share 28 = .ok (.ireturn, 1) := by decide +kernel
theorem dX7_share_29 : decode cX7_share 29 = .ok (.aload_n 0, 1) := by decide +kernel
theorem dX7_share_30 : decode cX7_share 30 = .ok (.getfield 10, 3) := by decide +kernel
theorem dX7_share_33 : decode cX7_share 33 = .ok (.getfield 190, 3) := by decide +kernel
theorem dX7_share_36 : decode cX7_share 36 = .ok (.astore 5, 2) := by decide +kernel
theorem dX7_share_38 : decode cX7_share 38 = .ok (.aload 5, 2) := by decide +kernel
theorem dX7_share_40 : decode cX7_share 40 = .ok (.aload_n 0, 1) := by decide +kernel
theorem dX7_share_41 : decode cX7_share 41 = .ok (.getfield 10, 3) := by decide +kernel
theorem dX7_share_44 : decode cX7_share 44 = .ok (.getfield 105, 3) := by decide +kernel
theorem dX7_share_47 : decode cX7_share 47 = .ok (.aload 4, 2) := by decide +kernel
theorem dX7_share_49 : decode cX7_share 49 = .ok (.getfield 150, 3) := by decide +kernel
theorem dX7_share_52 : decode cX7_share 52 = .ok (.aload 4, 2) := by decide +kernel
theorem dX7_share_54 : decode cX7_share 54 = .ok (.getfield 153, 3) := by decide +kernel
theorem dX7_share_57 : decode cX7_share 57 = .ok (.invokevirtual 194, 3) := by decide +kernel
theorem dX7_share_60 : decode cX7_share 60 = .ok (.iload_n 2, 1) := by decide +kernel
theorem dX7_share_61 : decode cX7_share 61 = .ok (.iconst 1, 1) := by decide +kernel
theorem dX7_share_62 : decode cX7_share 62 = .ok (.if_icmp .lt 12, 3) := by decide +kernel
theorem dX7_share_65 : decode cX7_share 65 = .ok (.iload_n 2, 1) := by decide +kernel
theorem dX7_share_66 : decode cX7_share 66 = .ok (.aload 5, 2) := by decide +kernel
theorem dX7_share_68 : decode cX7_share 68 = .ok (.getfield 200, 3) := by decide +kernel
theorem dX7_share_71 : decode cX7_share 71 = .ok (.if_icmp .le 5, 3) := by decide +kernel
theorem dX7_share_74 : decode cX7_share 74 = .ok (.iconst (-1), 1) := by decide +kernel
theorem dX7_share_75 : decode cX7_share 75 = .ok (.ireturn, 1) := by decide +kernel
theorem dX7_share_76 : decode cX7_share 76 = .ok (.aload 5, 2) := by decide +kernel
theorem dX7_share_78 : decode cX7_share 78 = .ok (.iload_n 2, 1) := by decide +kernel
theorem dX7_share_79 : decode cX7_share 79 = .ok (.aload_n 0, 1) := by decide +kernel
theorem dX7_share_80 : decode cX7_share 80 = .ok (.getfield 10, 3) := by decide +kernel
theorem dX7_share_83 : decode cX7_share 83 = .ok (.getfield 129, 3) := by decide +kernel
theorem dX7_share_86 : decode cX7_share 86 = .ok (.invokevirtual 203, 3) := by decide +kernel
theorem dX7_share_89 : decode cX7_share 89 = .ok (.aload 5, 2) := by decide +kernel
theorem dX7_share_91 : decode cX7_share 91 = .ok (.aload 4, 2) := by decide +kernel
theorem dX7_share_93 : decode cX7_share 93 = .ok (.iload_n 3, 1) := by decide +kernel
theorem dX7_share_94 : decode cX7_share 94 = .ok (.invokevirtual 207, 3) := by decide +kernel
theorem dX7_share_97 : decode cX7_share 97 = .ok (.ireturn, 1) := by decide +kernel
set_option maxRecDepth 20000 in
theorem ggX7_trade_X3_told : GoodIn wsX7_trade wsX3_told := goodIn_r _ [8, 9, 10, 11, 12, 13, 14, 30, 31, 32, 33, 34, 35, 36] (by decide +kernel) (by decide +kernel)
set_option maxRecDepth 20000 in
theorem gX7_trade_X3_told : GoodIn wsX7_trade (wsV RX7 272 RX3 yX3_told wsX3_told) := goodIn_app (goodIn_of _ (by decide +kernel)) ggX7_trade_X3_told
theorem dX7_trade_0 : decode cX7_trade 0 = .ok (.iload_n 1, 1) := by decide +kernel
theorem dX7_trade_1 : decode cX7_trade 1 = .ok (.ifCond .lt 26, 3) := by decide +kernel
theorem dX7_trade_4 : decode cX7_trade 4 = .ok (.iload_n 1, 1) := by decide +kernel
theorem dX7_trade_5 : decode cX7_trade 5 = .ok (.aload_n 0, 1) := by decide +kernel
theorem dX7_trade_6 : decode cX7_trade 6 = .ok (.getfield 10, 3) := by decide +kernel
theorem dX7_trade_9 : decode cX7_trade 9 = .ok (.getfield 224, 3) := by decide +kernel
theorem dX7_trade_12 : decode cX7_trade 12 = .ok (.getfield 269, 3) := by decide +kernel
theorem dX7_trade_15 : decode cX7_trade 15 = .ok (.if_icmp .ge 12, 3) := by decide +kernel
theorem dX7_trade_18 : decode cX7_trade 18 = .ok (.iload_n 2, 1) := by decide +kernel
theorem dX7_trade_19 : decode cX7_trade 19 = .ok (.ifCond .lt 8, 3) := by decide +kernel
theorem dX7_trade_22 : decode cX7_trade 22 = .ok (.iload_n 2, 1) := by decide +kernel
theorem dX7_trade_23 : decode cX7_trade 23 = .ok (.iconst 4, 1) := by decide +kernel
theorem dX7_trade_24 : decode cX7_trade 24 = .ok (.if_icmp .le 5, 3) := by decide +kernel
theorem dX7_trade_27 : decode cX7_trade 27 = .ok (.iconst (-1), 1) := by decide +kernel
theorem dX7_trade_28 : decode cX7_trade 28 = .ok (.ireturn, 1) := by decide +kernel
theorem dX7_trade_29 : decode cX7_trade 29 = .ok (.aload_n 0, 1) := by decide +kernel
theorem dX7_trade_30 : decode cX7_trade 30 = .ok (.getfield 10, 3) := by decide +kernel
theorem dX7_trade_33 : decode cX7_trade 33 = .ok (.getfield 224, 3) := by decide +kernel
theorem dX7_trade_36 : decode cX7_trade 36 = .ok (.iload_n 1, 1) := by decide +kernel
theorem dX7_trade_37 : decode cX7_trade 37 = .ok (.iload_n 2, 1) := by decide +kernel
theorem dX7_trade_38 : decode cX7_trade 38 = .ok (.invokevirtual 272, 3) := by decide +kernel
theorem dX7_trade_41 : decode cX7_trade 41 = .ok (.ireturn, 1) := by decide +kernel
set_option maxRecDepth 20000 in
theorem ggX7_position_X7_isTrader : GoodIn wsX7_position wsX7_isTrader := goodIn_r _ [9] (by decide +kernel) (by decide +kernel)
set_option maxRecDepth 20000 in
theorem gX7_position_X7_isTrader : GoodIn wsX7_position (va_wsS RX7 95 yX7_isTrader wsX7_isTrader) := goodIn_app (goodIn_of _ (by decide +kernel)) ggX7_position_X7_isTrader
theorem dX7_position_0 : decode cX7_position 0 = .ok (.iload_n 1, 1) := by decide +kernel
theorem dX7_position_1 : decode cX7_position 1 = .ok (.invokestatic 95, 3) := by decide +kernel
theorem dX7_position_4 : decode cX7_position 4 = .ok (.ifCond .ne 14, 3) := by decide +kernel
theorem dX7_position_7 : decode cX7_position 7 = .ok (.new 140, 3) := by decide +kernel
theorem dX7_position_10 : decode cX7_position 10 = .ok (.dup, 1) := by decide +kernel
theorem dX7_position_11 : decode cX7_position 11 = .ok (.ldc_w 275, 3) := by decide +kernel
theorem dX7_position_14 : decode cX7_position 14 = .ok (.invokespecial 144, 3) := by decide +kernel
theorem dX7_position_17 : decode cX7_position 17 = .ok (.athrow, 1) := by decide +kernel
theorem dX7_position_18 : decode cX7_position 18 = .ok (.aload_n 0, 1) := by decide +kernel
theorem dX7_position_19 : decode cX7_position 19 = .ok (.getfield 10, 3) := by decide +kernel
theorem dX7_position_22 : decode cX7_position 22 = .ok (.getfield 224, 3) := by decide +kernel
theorem dX7_position_25 : decode cX7_position 25 = .ok (.getfield 277, 3) := by decide +kernel
theorem dX7_position_28 : decode cX7_position 28 = .ok (.iload_n 1, 1) := by decide +kernel
theorem dX7_position_29 : decode cX7_position 29 = .ok (.iaload, 1) := by decide +kernel
theorem dX7_position_30 : decode cX7_position 30 = .ok (.ireturn, 1) := by decide +kernel
theorem dX7_count_0 : decode cX7_count 0 = .ok (.iload_n 1, 1) := by decide +kernel
theorem dX7_count_1 : decode cX7_count 1 = .ok (.tableswitch 167 0 10 #[59, 70, 86, 97, 105, 113, 121, 129, 140, 151, 159], 59) := by decide +kernel
theorem dX7_count_60 : decode cX7_count 60 = .ok (.aload_n 0, 1) := by decide +kernel
theorem dX7_count_61 : decode cX7_count 61 = .ok (.getfield 10, 3) := by decide +kernel
theorem dX7_count_64 : decode cX7_count 64 = .ok (.getfield 105, 3) := by decide +kernel
theorem dX7_count_67 : decode cX7_count 67 = .ok (.getfield 280, 3) := by decide +kernel
theorem dX7_count_70 : decode cX7_count 70 = .ok (.ireturn, 1) := by decide +kernel
theorem dX7_count_71 : decode cX7_count 71 = .ok (.aload_n 0, 1) := by decide +kernel
theorem dX7_count_72 : decode cX7_count 72 = .ok (.getfield 10, 3) := by decide +kernel
theorem dX7_count_75 : decode cX7_count 75 = .ok (.getfield 131, 3) := by decide +kernel
theorem dX7_count_78 : decode cX7_count 78 = .ok (.ifCond .eq 7, 3) := by decide +kernel
theorem dX7_count_81 : decode cX7_count 81 = .ok (.iconst 1, 1) := by decide +kernel
theorem dX7_count_82 : decode cX7_count 82 = .ok (.goto 4, 3) := by decide +kernel
theorem dX7_count_85 : decode cX7_count 85 = .ok (.iconst 0, 1) := by decide +kernel
theorem dX7_count_86 : decode cX7_count 86 = .ok (.ireturn, 1) := by decide +kernel
theorem dX7_count_87 : decode cX7_count 87 = .ok (.aload_n 0, 1) := by decide +kernel
theorem dX7_count_88 : decode cX7_count 88 = .ok (.getfield 10, 3) := by decide +kernel
theorem dX7_count_91 : decode cX7_count 91 = .ok (.getfield 224, 3) := by decide +kernel
theorem dX7_count_94 : decode cX7_count 94 = .ok (.getfield 237, 3) := by decide +kernel
theorem dX7_count_97 : decode cX7_count 97 = .ok (.ireturn, 1) := by decide +kernel
theorem dX7_count_98 : decode cX7_count 98 = .ok (.aload_n 0, 1) := by decide +kernel
theorem dX7_count_99 : decode cX7_count 99 = .ok (.getfield 10, 3) := by decide +kernel
theorem dX7_count_102 : decode cX7_count 102 = .ok (.getfield 127, 3) := by decide +kernel
theorem dX7_count_105 : decode cX7_count 105 = .ok (.ireturn, 1) := by decide +kernel
theorem dX7_count_106 : decode cX7_count 106 = .ok (.aload_n 0, 1) := by decide +kernel
theorem dX7_count_107 : decode cX7_count 107 = .ok (.getfield 10, 3) := by decide +kernel
theorem dX7_count_110 : decode cX7_count 110 = .ok (.getfield 129, 3) := by decide +kernel
theorem dX7_count_113 : decode cX7_count 113 = .ok (.ireturn, 1) := by decide +kernel
theorem dX7_count_114 : decode cX7_count 114 = .ok (.aload_n 0, 1) := by decide +kernel
theorem dX7_count_115 : decode cX7_count 115 = .ok (.getfield 10, 3) := by decide +kernel
theorem dX7_count_118 : decode cX7_count 118 = .ok (.getfield 283, 3) := by decide +kernel
theorem dX7_count_121 : decode cX7_count 121 = .ok (.ireturn, 1) := by decide +kernel
theorem dX7_count_122 : decode cX7_count 122 = .ok (.aload_n 0, 1) := by decide +kernel
theorem dX7_count_123 : decode cX7_count 123 = .ok (.getfield 22, 3) := by decide +kernel
theorem dX7_count_126 : decode cX7_count 126 = .ok (.getfield 26, 3) := by decide +kernel
theorem dX7_count_129 : decode cX7_count 129 = .ok (.ireturn, 1) := by decide +kernel
theorem dX7_count_130 : decode cX7_count 130 = .ok (.aload_n 0, 1) := by decide +kernel
theorem dX7_count_131 : decode cX7_count 131 = .ok (.getfield 10, 3) := by decide +kernel
theorem dX7_count_134 : decode cX7_count 134 = .ok (.getfield 224, 3) := by decide +kernel
theorem dX7_count_137 : decode cX7_count 137 = .ok (.getfield 269, 3) := by decide +kernel
theorem dX7_count_140 : decode cX7_count 140 = .ok (.ireturn, 1) := by decide +kernel
theorem dX7_count_141 : decode cX7_count 141 = .ok (.aload_n 0, 1) := by decide +kernel
theorem dX7_count_142 : decode cX7_count 142 = .ok (.getfield 10, 3) := by decide +kernel
theorem dX7_count_145 : decode cX7_count 145 = .ok (.getfield 224, 3) := by decide +kernel
theorem dX7_count_148 : decode cX7_count 148 = .ok (.getfield 228, 3) := by decide +kernel
theorem dX7_count_151 : decode cX7_count 151 = .ok (.ireturn, 1) := by decide +kernel
theorem dX7_count_152 : decode cX7_count 152 = .ok (.aload_n 0, 1) := by decide +kernel
theorem dX7_count_153 : decode cX7_count 153 = .ok (.getfield 10, 3) := by decide +kernel
theorem dX7_count_156 : decode cX7_count 156 = .ok (.getfield 286, 3) := by decide +kernel
theorem dX7_count_159 : decode cX7_count 159 = .ok (.ireturn, 1) := by decide +kernel
theorem dX7_count_160 : decode cX7_count 160 = .ok (.aload_n 0, 1) := by decide +kernel
theorem dX7_count_161 : decode cX7_count 161 = .ok (.getfield 10, 3) := by decide +kernel
theorem dX7_count_164 : decode cX7_count 164 = .ok (.getfield 243, 3) := by decide +kernel
theorem dX7_count_167 : decode cX7_count 167 = .ok (.ireturn, 1) := by decide +kernel
theorem dX7_count_168 : decode cX7_count 168 = .ok (.iconst (-1), 1) := by decide +kernel
theorem dX7_count_169 : decode cX7_count 169 = .ok (.ireturn, 1) := by decide +kernel
theorem dX7_isBetter_0 : decode cX7_isBetter 0 = .ok (.iload_n 0, 1) := by decide +kernel
theorem dX7_isBetter_1 : decode cX7_isBetter 1 = .ok (.ifCond .ne 16, 3) := by decide +kernel
theorem dX7_isBetter_4 : decode cX7_isBetter 4 = .ok (.iload_n 1, 1) := by decide +kernel
theorem dX7_isBetter_5 : decode cX7_isBetter 5 = .ok (.iload_n 2, 1) := by decide +kernel
theorem dX7_isBetter_6 : decode cX7_isBetter 6 = .ok (.if_icmp .le 7, 3) := by decide +kernel
theorem dX7_isBetter_9 : decode cX7_isBetter 9 = .ok (.iconst 1, 1) := by decide +kernel
theorem dX7_isBetter_10 : decode cX7_isBetter 10 = .ok (.goto 17, 3) := by decide +kernel
theorem dX7_isBetter_13 : decode cX7_isBetter 13 = .ok (.iconst 0, 1) := by decide +kernel
theorem dX7_isBetter_14 : decode cX7_isBetter 14 = .ok (.goto 13, 3) := by decide +kernel
theorem dX7_isBetter_17 : decode cX7_isBetter 17 = .ok (.iload_n 1, 1) := by decide +kernel
theorem dX7_isBetter_18 : decode cX7_isBetter 18 = .ok (.iload_n 2, 1) := by decide +kernel
theorem dX7_isBetter_19 : decode cX7_isBetter 19 = .ok (.if_icmp .ge 7, 3) := by decide +kernel
theorem dX7_isBetter_22 : decode cX7_isBetter 22 = .ok (.iconst 1, 1) := by decide +kernel
theorem dX7_isBetter_23 : decode cX7_isBetter 23 = .ok (.goto 4, 3) := by decide +kernel
theorem dX7_isBetter_26 : decode cX7_isBetter 26 = .ok (.iconst 0, 1) := by decide +kernel
theorem dX7_isBetter_27 : decode cX7_isBetter 27 = .ok (.ireturn, 1) := by decide +kernel
theorem dJ9_floorMod_7cf53_0 : decode cJ9_floorMod_7cf53 0 = .ok (.iload_n 0, 1) := by decide +kernel
theorem dJ9_floorMod_7cf53_1 : decode cJ9_floorMod_7cf53 1 = .ok (.iload_n 1, 1) := by decide +kernel
theorem dJ9_floorMod_7cf53_2 : decode cJ9_floorMod_7cf53 2 = .ok (.irem, 1) := by decide +kernel
theorem dJ9_floorMod_7cf53_3 : decode cJ9_floorMod_7cf53 3 = .ok (.istore_n 2, 1) := by decide +kernel
theorem dJ9_floorMod_7cf53_4 : decode cJ9_floorMod_7cf53 4 = .ok (.iload_n 0, 1) := by decide +kernel
theorem dJ9_floorMod_7cf53_5 : decode cJ9_floorMod_7cf53 5 = .ok (.iload_n 1, 1) := by decide +kernel
theorem dJ9_floorMod_7cf53_6 : decode cJ9_floorMod_7cf53 6 = .ok (.ixor, 1) := by decide +kernel
theorem dJ9_floorMod_7cf53_7 : decode cJ9_floorMod_7cf53 7 = .ok (.ifCond .ge 11, 3) := by decide +kernel
theorem dJ9_floorMod_7cf53_10 : decode cJ9_floorMod_7cf53 10 = .ok (.iload_n 2, 1) := by decide +kernel
theorem dJ9_floorMod_7cf53_11 : decode cJ9_floorMod_7cf53 11 = .ok (.ifCond .eq 7, 3) := by decide +kernel
theorem dJ9_floorMod_7cf53_14 : decode cJ9_floorMod_7cf53 14 = .ok (.iload_n 2, 1) := by decide +kernel
theorem dJ9_floorMod_7cf53_15 : decode cJ9_floorMod_7cf53 15 = .ok (.iload_n 1, 1) := by decide +kernel
theorem dJ9_floorMod_7cf53_16 : decode cJ9_floorMod_7cf53 16 = .ok (.iadd, 1) := by decide +kernel
theorem dJ9_floorMod_7cf53_17 : decode cJ9_floorMod_7cf53 17 = .ok (.ireturn, 1) := by decide +kernel
theorem dJ9_floorMod_7cf53_18 : decode cJ9_floorMod_7cf53 18 = .ok (.iload_n 2, 1) := by decide +kernel
theorem dJ9_floorMod_7cf53_19 : decode cJ9_floorMod_7cf53 19 = .ok (.ireturn, 1) := by decide +kernel
theorem dJ9_min_7cf53_0 : decode cJ9_min_7cf53 0 = .ok (.iload_n 0, 1) := by decide +kernel
theorem dJ9_min_7cf53_1 : decode cJ9_min_7cf53 1 = .ok (.iload_n 1, 1) := by decide +kernel
theorem dJ9_min_7cf53_2 : decode cJ9_min_7cf53 2 = .ok (.if_icmp .gt 7, 3) := by decide +kernel
theorem dJ9_min_7cf53_5 : decode cJ9_min_7cf53 5 = .ok (.iload_n 0, 1) := by decide +kernel
theorem dJ9_min_7cf53_6 : decode cJ9_min_7cf53 6 = .ok (.goto 4, 3) := by decide +kernel
theorem dJ9_min_7cf53_9 : decode cJ9_min_7cf53 9 = .ok (.iload_n 1, 1) := by decide +kernel
theorem dJ9_min_7cf53_10 : decode cJ9_min_7cf53 10 = .ok (.ireturn, 1) := by decide +kernel
end
section
/-! MACHINE: a throw of NoSuchElementException. Its own constructor calls its super's by entry 13 of its pool, where the kit's row for a throw takes 7. x_ctorThrow and x_throw follow proofs of the library and of the kit (JvmDerived/BundleOwnThrow.lean, ctorThrowS; vx_throwS), with that entry. -/
abbrev NSE : String := "java/util/NoSuchElementException"
abbrev RTE : String := "java/lang/RuntimeException"
def x13 : ByteArray := ⟨#[0x2a, 0x2b, 0xb7, 0x00, 0x0d, 0xb1]⟩
theorem x13_0 : decode x13 0 = .ok (.aload_n 0, 1) := by decide +kernel
theorem x13_1 : decode x13 1 = .ok (.aload_n 1, 1) := by decide +kernel
theorem x13_2 : decode x13 2 = .ok (.invokespecial 13, 3) := by decide +kernel
theorem x13_5 : decode x13 5 = .ok (.return_, 1) := by decide +kernel
def xAt0 : List Cond := Bundle.throwableAtoms ++ Bundle.throwableSAtoms ++ (Bundle.passSAtoms NSE RTE 13 x13 ++ Bundle.chainSAtoms RTE ["java/lang/Exception"]) ++
  [.methodLink RX7 144 (Bundle.initS NSE), .instantiable NSE 6, .castable NSE NSE, .selects NSE Bundle.tFill0 Bundle.tFill0, .selects NSE Bundle.tFill Bundle.tFill,
   .lays NSE Bundle.tN "cause" "Ljava/lang/Throwable;", .lays NSE Bundle.tN "stackTrace" Bundle.steD, .lays NSE Bundle.tN "suppressedExceptions" Bundle.listD, .lays NSE Bundle.tN "detailMessage" "Ljava/lang/String;",
   .isRef (.static Bundle.tN "UNASSIGNED_STACK" Bundle.steD), .isRef (.static Bundle.tN "SUPPRESSED_SENTINEL" Bundle.listD),
   .fieldLink Bundle.tN 198 Bundle.tN "backtrace" "Ljava/lang/Object;", .lays Bundle.tN Bundle.tN "backtrace" "Ljava/lang/Object;", .lays NSE Bundle.tN "backtrace" "Ljava/lang/Object;"]
def xAt : List Cond := xAt0.filter vx_no
def xGw : List Cond := xAt.filter goodWord
def xB : List Cond := [.declares (Bundle.initS RTE), .declares (Bundle.initS "java/lang/Exception"), .declares (Bundle.initS Bundle.tN), .castable NSE NSE]
theorem x_good : ∀ w ∈ Cond.classLink RX7 140 NSE :: Cond.initialized NSE :: xAt, vx_ot w = true := by decide +kernel
theorem x_ng : ∀ w ∈ xAt.filter (fun w => !goodWord w), w ∈ xB := by decide +kernel
theorem xGw_good : xGw.all goodWord = true := by decide +kernel
section XTHROW
variable {p : Program} {l : Launch} {e : Env} {R : Room} {s : State} {m₀ : MethodId} {args : Array Value} {below : List Frame} {meth : Method} {c : Code} {W9 : State} {locs : List Loc} {cells slots : Nat}
set_option maxHeartbeats 2000000 in
theorem x_ctorThrow (X : Stand p l e R s m₀ args below meth c W9 locs cells slots) (hexec : p.tables.exec = Jvm.exec) (htr : e.platform.stackTraces = false)
    (hown : s.vm.findClass RX7 = some m₀.cls) (h : ∀ a ∈ xAt0, a.before args s = true)
    (hlocs : ∀ x ∈ locs, ∀ cell, s.heap[x.base]? = some cell → cell.vm.isStatics = false)
    {a : Addr} {cX : ClassId} {kX : Class} (hfoundX : s.vm.findClass NSE = some cX) (hkX : s.vm.classes[cX]? = some kX) (hcell : W9.heap[a]? = some (freshCell cX kX)) (hnew : s.heap.size ≤ a)
    {msg : Value} (hmsg : msg.isRef = true)
    {g : JFrame} (hg : g.method = m₀) (hsize : g.locals.size = c.maxLocals) (hlocked : g.locked = none) (hentered : g.entered = []) {rest : List Value} (hstack : g.stack = msg :: .ref a :: .ref a :: rest)
    (hd6 : decode c.code g.pc = .ok (.invokespecial 144, 3)) (hd9 : decode c.code (g.pc + 3) = .ok (.athrow, 1)) (hout : ∀ x ∈ c.exceptionTable.toList, covers x (g.pc + 3) = false)
    (hRframes : 5 < R.frames) (hRlocals : 2 * g.monitorRoom + ((Value.ref a :: rest).map fun v => v.category).sum + 81 ≤ R.locals) (hlocks : meth.locks = false) :
    ∃ U : State, Steps p.tables e below (W9.setTop g) U ∧ U.status = .running ∧ Ended U below (.threw a) ∧ s.WarmedH U.vm ∧ s.sameButNew ({ U with vm := s.vm } : State) locs cells slots ∧
      ∃ ce, U.heap[a]? = some ce ∧ s.vm.findClass NSE = some ce.cls ∧ ce.vm = .none := by
  have howns : e.platform.frameOwnsMonitors = true := by rw [X.admits.platform]
  have hfin : e.platform.finalization = false := by rw [X.admits.platform]
  have hpl : e.platform.magicAccessors = ({} : Platform).magicAccessors := by rw [X.admits.platform]
  have a' : ∀ x, x ∈ xAt0 → x.holds args s none s [] = true := fun x hx => h x hx
  have f1 : Bundle.fit NSE = true := by decide +kernel
  have f2 : Bundle.fit RTE = true := by decide +kernel
  have f3 : ∀ n ∈ ["java/lang/Exception"], Bundle.fit n = true := by decide +kernel
  obtain ⟨T, Z0, L, -, Y⟩ := ThrowableC.of_atoms (args := args) howns hfin hpl (fun x hx => h x (by simp [xAt0, hx]))
  obtain ⟨Z, M, LZ, LM, hnZ⟩ := Init0T.ofS_atoms (args := args) hpl L Y (fun x hx => h x (by simp [xAt0, hx]))
  obtain ⟨P1, L1, hP1m, hsP⟩ := PassC.ofS_atoms (args := args) (s := s) hpl (X := NSE) (Y := RTE) (Bundle.fit_spec f1).1 (Bundle.fit_spec f2).2 x13_0 x13_1 x13_2 x13_5 (fun x hx => h x (by simp only [xAt0, List.mem_append]; exact Or.inl (Or.inr (Or.inl hx))))
  obtain ⟨P2, Ps, hlen, L2, hL, hm2, hsup, hpass⟩ := Bundle.chainS (args := args) hpl hnZ ["java/lang/Exception"] RTE f2 f3 (fun x hx => h x (by simp only [xAt0, List.mem_append]; exact Or.inl (Or.inr (Or.inr hx))))
  have hlen : Ps.length = 1 := hlen
  have hfound : s.vm.findClass NSE = some P1.m.cls := findClass_of_methodNamed hP1m
  cases Option.some.inj (hfoundX.symm.trans hfound)
  obtain ⟨c1, kX', hc1, hk, hord, -, -, hn6⟩ := Cond.instantiable_spec (a' (.instantiable NSE 6) (by simp [xAt0]))
  cases Option.some.inj (hc1.symm.trans hfound)
  cases Option.some.inj (hkX.symm.trans hk)
  have hsel0 : selectMethod e.platform s.vm P1.m.cls T.fill0 = .method T.fill0 := by
    obtain ⟨c2, r2, m2, q1, q2, q3, q4, -⟩ := Cond.selects_spec (a' (.selects NSE Bundle.tFill0 Bundle.tFill0) (by simp [xAt0]))
    cases Option.some.inj (q1.symm.trans hfound)
    cases Option.some.inj (q2.symm.trans (State.methodFound?_of_named Y.fill0 (by decide)))
    cases Option.some.inj (q3.symm.trans Y.fill0)
    rw [Launch.admits_selectMethod X.admits]; exact q4
  have hselF : selectMethod e.platform s.vm P1.m.cls T.fill = .method T.fill := by
    obtain ⟨c2, r2, m2, q1, q2, q3, q4, -⟩ := Cond.selects_spec (a' (.selects NSE Bundle.tFill Bundle.tFill) (by simp [xAt0]))
    cases Option.some.inj (q1.symm.trans hfound)
    cases Option.some.inj (q2.symm.trans (State.methodFound?_of_named Y.fill (by decide)))
    cases Option.some.inj (q3.symm.trans Y.fill)
    rw [Launch.admits_selectMethod X.admits]; exact q4
  obtain ⟨cellS0, hcS0, hiss⟩ := Y.statics
  obtain ⟨u0, hu0⟩ := Cond.staticRefV Y.unassigned L.unassignedStatic L.statics hcS0 hiss (a' (.isRef (.static Bundle.tN "UNASSIGNED_STACK" Bundle.steD)) (by simp [xAt0]))
  obtain ⟨sen, hsen⟩ := Cond.staticRefV Y.sentinel L.sentinelStatic L.statics hcS0 hiss (a' (.isRef (.static Bundle.tN "SUPPRESSED_SENTINEL" Bundle.listD)) (by simp [xAt0]))
  obtain ⟨ci198, i198, fB, hk198, hg198, ha198, hsB, -, hnB, htB, hffB⟩ := Cond.ownField (t := .object "java/lang/Object") Y.found L.cls (by decide +kernel) (a' (.fieldLink Bundle.tN 198 Bundle.tN "backtrace" "Ljava/lang/Object;") (by simp [xAt0])) (a' (.lays Bundle.tN Bundle.tN "backtrace" "Ljava/lang/Object;") (by simp [xAt0])) e.platform hpl
  obtain ⟨cellS, hcS', heS, -, hkeep⟩ := X.same.2.2.2.2.2 T.aS cellS0 hcS0
  have hcellS : W9.heap[T.aS]? = some cellS := hcS'
  have hout' : ∀ i, (⟨T.aS, i⟩ : Loc) ∉ locs := fun i hmem => by
    have := hlocs _ hmem cellS0 hcS0
    rw [hiss] at this; cases this
  have hknownS : cellS.vm ≠ .unknown := by
    rw [heS]; intro hu
    rw [show cellS0.vm = .unknown from hu] at hiss
    cases hiss
  have hneS : T.aS ≠ a := Nat.ne_of_lt (Nat.lt_of_lt_of_le (Array.getElem?_eq_some_iff.mp hcS0).1 hnew)
  obtain ⟨iM, hffM⟩ := Y.msg
  obtain ⟨tyC, dC, hdC, hdnC⟩ := Cond.laysAt hfound hk Y.cause (a' (.lays NSE Bundle.tN "cause" "Ljava/lang/Throwable;") (by simp [xAt0]))
  obtain ⟨tyS, dS, hdS, hdnS⟩ := Cond.laysAt hfound hk Y.stack (a' (.lays NSE Bundle.tN "stackTrace" Bundle.steD) (by simp [xAt0]))
  obtain ⟨tyP, dP, hdP, hdnP⟩ := Cond.laysAt hfound hk Y.supp (a' (.lays NSE Bundle.tN "suppressedExceptions" Bundle.listD) (by simp [xAt0]))
  obtain ⟨tyM, dM, hdM, hdnM⟩ := Cond.laysAt hfound hk hffM (a' (.lays NSE Bundle.tN "detailMessage" "Ljava/lang/String;") (by simp [xAt0]))
  obtain ⟨tyB, dB, hdB, hdnB⟩ := Cond.laysAt hfound hk hffB (a' (.lays NSE Bundle.tN "backtrace" "Ljava/lang/Object;") (by simp [xAt0]))
  have bC := Cond.laysApart hdB hdC hdnB hdnC (by rw [hnB, Y.causeName]; decide)
  have bS := Cond.laysApart hdB hdS hdnB hdnS (by rw [hnB, Y.stackName]; decide)
  have bP := Cond.laysApart hdB hdP hdnB hdnP (by rw [hnB, Y.suppName]; decide)
  have hskip : SkipFacts T e.platform s (fun u => u) u0 ((preparedCellV T.toThrowableT (freshCell P1.m.cls kX) a u0 sen).withEntry W9.cur) :=
    ⟨{ ci198 := ci198, i198 := i198, fBack := fB }, ⟨hk198, hg198, ha198, hsB⟩, by
      have := fresh_default (c := P1.m.cls) tyB
      rw [htB] at this
      simpa [preparedCellV, Cell.setSlot, Cell.withEntry, Array.getElem?_setIfInBounds, bC, bS, bP, bC.symm, bS.symm, bP.symm, defaultValue] using this, fun _ _ => rfl⟩
  obtain ⟨tm, methC, cdC, kC, vm₁, hnC, -, -, -, -, -, -, -, hW₁, st1⟩ := Steps.initColdS (tb := p.tables) (e := e) (below := below) (s := s) (U := W9) X.here hexec X.warmed hpl hown (t := Bundle.initS NSE) rfl rfl (Bundle.fit_spec f1).2
    (a' (.methodLink RX7 144 (Bundle.initS NSE)) (by simp [xAt0])) (h (.instanceMethod (Bundle.initS NSE)) (by simp [xAt0, Bundle.passSAtoms])) (bytes := x13) (maxL := 2) (h (.code (Bundle.initS NSE) x13 2 none) (by simp [xAt0, Bundle.passSAtoms]))
    (f := g) hg (a := a) (msg := msg) (rest := .ref a :: rest) hstack hd6
  cases Option.some.inj (hnC.symm.trans hP1m)
  have X₁ := X.noted hW₁
  obtain ⟨vm₂, X₂, st2⟩ := X₁.ctorMessageOffV hexec (g := { g with stack := .ref a :: rest }) hg hsize T L Z LZ M LM (P1 :: P2 :: Ps)
    (fun P hP => by rcases List.mem_cons.mp hP with rfl | hP; exact L1; rcases List.mem_cons.mp hP with rfl | hP; exact L2; exact hL P hP) ⟨Option.some.inj (hsP.symm.trans hm2), hsup, hpass⟩ (u0 := u0) (sen := sen) (self := a) hmsg (cell := freshCell P1.m.cls kX) (cellS := cellS)
    hcell (fun _ => by simp) (by simp) rfl rfl hsel0 hselF hcellS hneS hknownS (by rw [hkeep _ (hout' _)]; exact hu0) (by rw [hkeep _ (hout' _)]; exact hsen)
    (Takes.of_laid hk hord tyC (by rw [Y.causeType]; rfl)) (Takes.of_laid hk hord tyS (by rw [Y.stackType]; exact fits_refV_array _ u0)) (Takes.of_laid hk hord tyP (by rw [Y.suppType]; exact fits_refV_object _ sen))
    (Takes.of_laid hk hord tyM (by rw [Y.msgType]; exact fits_refV_object _ ⟨msg, hmsg⟩)) Y.objLocals hskip htr [] hd6
    (by simp only [List.length_cons, hlen]; omega) (by simp only [List.length_cons, hlen]; exact hRlocals)
  obtain ⟨hwalk, hrun, hended, hWU, hsame⟩ := X₂.athrowLeaves hexec (g := { g with stack := .ref a :: rest, pc := g.pc + 3 }) hg hlocked hentered hout (a := a) (rest := rest) rfl hd9
  have hlt : a < ((W9.setVm vm₁).setVm vm₂).heap.size := (Array.getElem?_eq_some_iff.mp hcell).1
  have hU := heapAt_setCell_self (s := (W9.setVm vm₁).setVm vm₂) (plainBareV T.toThrowableT (freshCell P1.m.cls kX) a u0 sen msg) hlt
  refine ⟨_, st1 _ (fun acts => ?_), hrun, hended, hWU, hsame.weaken (fun y hy hlt' => ?_) (Nat.le_refl _) (Nat.le_refl _), _, hU, hfound, rfl⟩
  · rw [doInvoke_state]
    exact st2 _ hwalk
  · rcases List.mem_append.mp hy with h1 | h1
    · exact h1
    · exfalso
      have hb : y.base = a := by
        simp only [List.mem_cons, List.not_mem_nil, or_false] at h1
        rcases h1 with rfl | rfl | rfl | rfl | rfl <;> rfl
      rw [hb] at hlt'
      exact Nat.not_lt.mpr hnew hlt'
end XTHROW
section XTHROW2
variable {p : Program} {l : Launch} {e : Env} {R : Room} {s : State} {m : MethodId} {args : Array Value} {below : List Frame} {meth : Method} {c : Code} {H : Heap} {locs : List Loc} {cells slots : Nat}
variable {free : Addr → Prop} {ls : Array Slot} {rest : List Value} {Qc : Array Value → State → Outcome → State → Prop} {XC : String → State → State → Prop}
/-- 'throw new NoSuchElementException("text")': new; dup; ldc; invokespecial; athrow -/
theorem x_throw {cc : ByteArray} {pc : Nat} (hexec : p.tables.exec = Jvm.exec) (hb : c.code = cc) (hl : l.stackTraces = false) {text : String} {is mc ms sa : Nat} {A : Nat → Prop}
    (hown : s.vm.findClass RX7 = some m.cls) (hk : (Cond.classLink RX7 140 NSE).before args s = true) (hini : (Cond.initialized NSE).before args s = true) (hstr : vk_R RX7 is text sa s) (hat : ∀ w ∈ xAt, w.before args s = true)
    (hU : vx_Zq Bundle.tN "UNASSIGNED_STACK" Bundle.steD A s s.heap) (hN : vx_Zq Bundle.tN "SUPPRESSED_SENTINEL" Bundle.listD A s s.heap) (hS : va_S A s.heap H locs) (hsize : ls.size = c.maxLocals)
    (d0 : decode cc pc = .ok (.new 140, 3)) (d3 : decode cc (pc + 3) = .ok (.dup, 1)) (d4 : decode cc (pc + 4) = .ok (.ldc is, 2)) (d6 : decode cc (pc + 6) = .ok (.invokespecial 144, 3)) (d9 : decode cc (pc + 9) = .ok (.athrow, 1))
    (hout : ∀ x ∈ c.exceptionTable.toList, covers x (pc + 9) = false)
    (hRframes : 5 < R.frames) (hRlocals : (rest.map fun v => v.category).sum + 82 ≤ R.locals) (hRcells : cells + 1 ≤ R.cells) (hRslots : slots + 6 ≤ R.slots) (hlocks : meth.locks = false)
    (hx : ∀ t : State, s.vm.Alike t.vm → H.size ≤ t.heap.size → (∀ q : Nat, q < H.size → t.heap[q]? = H[q]?) → XC NSE s t)
    (hf : ∀ z ∈ locs, free z.base) (hc : cells + 1 ≤ mc) (hs : slots + 6 ≤ ms) :
    W p l e R s m args below meth c H locs cells slots (vx_MQ below Qc XC args s mc ms free) (F0 m pc ls rest) := by
  intro T hT X
  have htr : e.platform.stackTraces = false := (show e.platform.stackTraces = l.stackTraces by rw [X.admits.platform]).trans hl
  have Y := vx_rebase X (R' := { frames := R.frames, locals := R.locals, cells := 1, slots := 6 }) (Nat.le_refl _) (Nat.le_refl _) hRcells hRslots
  obtain ⟨s', hA⟩ : ∃ z, z = (T.setVm s.vm).setFrames (.invoking m args :: below) := ⟨_, rfl⟩
  rw [← hA] at Y
  have hvm : s'.vm = s.vm := by rw [hA]; rfl
  have hhp : s'.heap = H := by rw [hA]; exact hT
  have hW0 : s.WarmedH s'.vm := by rw [hvm]; exact State.WarmedH.refl s
  have hat' : ∀ w ∈ xAt, w.before args s' = true := fun w hw => vx_ot_at hW0 hvm.symm (x_good w (List.mem_cons_of_mem _ (List.mem_cons_of_mem _ hw))) (hat w hw)
  have hk' : (Cond.classLink RX7 140 NSE).before args s' = true := vx_ot_at hW0 hvm.symm (x_good _ List.mem_cons_self) hk
  have hini' : (Cond.initialized NSE).before args s' = true := vx_ot_at hW0 hvm.symm (x_good _ (List.mem_cons_of_mem _ List.mem_cons_self)) hini
  have hU' : vx_Zq Bundle.tN "UNASSIGNED_STACK" Bundle.steD A s' s'.heap := by rw [hhp]; exact vx_Zq.moved hW0.alike (hU.kept hS.2.1)
  have hN' : vx_Zq Bundle.tN "SUPPRESSED_SENTINEL" Bundle.listD A s' s'.heap := by rw [hhp]; exact vx_Zq.moved hW0.alike (hN.kept hS.2.1)
  have h : ∀ w ∈ xAt0, w.before args s' = true := vx_own hat' (vx_isRefq hU'.1) (vx_isRefq hN'.1) hU'.2.word hN'.2.word
  have hown' : s'.vm.findClass RX7 = some m.cls := by rw [hvm]; exact hown
  have hins : (Cond.instantiable NSE 6).before args s' = true := h _ (by simp [xAt0])
  obtain ⟨vm₁, cX, kX, hfX, hkX, -, -, X₁, st1⟩ := Y.newCold hexec (own := RX7) (C := NSE) (index := 140) (n := 6) hown' hk' hins hini'
    (g := F0 m pc ls rest) rfl (by rw [hb]; exact d0) (Nat.le_refl _) (Nat.le_refl _)
  generalize hT1 : (T.setVm vm₁).pushCell { cls := cX, slots := kX.instanceTypes.map defaultValue, vm := .none } = T1 at X₁ st1
  have hcat : (Value.ref T.heap.size).category = 1 := rfl
  have hcellA : T1.heap[T.heap.size]? = some (freshCell cX kX) := by rw [← hT1]; exact State.heap_pushCell_size _ _
  have d3' : decode c.code (pc + 3) = .ok (.dup, 1) := by rw [hb]; exact d3
  have d4' : decode c.code (pc + 4) = .ok (.ldc is, 2) := by rw [hb]; exact d4
  have hstr' : vk_R RX7 is text sa s' := vk_R.warm hW0 hstr
  obtain ⟨U, hsteps, hrun, hend, hW, hsame, ce, hce, hOc, hOv⟩ := x_ctorThrow X₁ hexec htr hown' h (fun x hx => nomatch hx) hfX hkX hcellA (by rw [hhp, hT]; exact Nat.le_refl _) (msg := .ref sa) rfl
    (g := { method := m, pc := pc + 6, locals := ls, stack := .ref sa :: .ref T.heap.size :: .ref T.heap.size :: rest, locked := none }) rfl hsize rfl rfl (rest := rest) rfl
    (by rw [hb]; exact d6) (by rw [hb]; exact d9) hout hRframes (by simp only [List.map_cons, List.sum_cons, hcat]; omega) hlocks
  obtain ⟨f1, f2⟩ := vx_frame hsame
  rw [hhp] at f1 f2
  have hWs : s.WarmedH U.vm := State.WarmedH.trans hW0 hW
  have hcl : s.vm.findClass NSE = some ce.cls := by
    rw [hvm] at hOc
    exact hOc
  have hall : s.sameButNew ({ U with vm := s.vm } : State) locs mc ms := by
    subst hA
    obtain ⟨e1, e2⟩ := hsame
    rw [State.setFrames_setFrames] at e1
    have h2 : (T.setVm s.vm).sameButNew ({ U with vm := s.vm } : State) [] (0 + 1) (0 + 6) := ⟨e1, e2⟩
    have h3 := X.same.trans h2
    rw [List.append_nil] at h3
    exact h3.mono hc hs
  refine ⟨U, ?_, .threw T.heap.size, hrun, hend, Or.inr ⟨T.heap.size, rfl, NSE, ce, locs, hx U hWs.alike f1 (fun q hq => f2 q hq (fun z hz => nomatch hz)), hce, hOv, hcl, hWs, hall, hf⟩⟩
  refine st1 _ ?_
  show Steps p.tables e below (T1.setTop { method := m, pc := pc + 3, locals := ls, stack := .ref T.heap.size :: rest, locked := none }) _
  jvm_step X₁.here [X₁.here.top, hexec, d3', Value.category]
  exact X₁.ldcString hexec (own := RX7) (text := text) (index := is) (a := sa) hown' hstr'.1 hstr'.2
    (g := { method := m, pc := pc + 4, locals := ls, stack := .ref T.heap.size :: .ref T.heap.size :: rest, locked := none }) rfl d4' _ hsteps
/-- 'throw new NoSuchElementException("text")': new; dup; ldc_w; invokespecial; athrow -/
theorem x_throwW {cc : ByteArray} {pc : Nat} (hexec : p.tables.exec = Jvm.exec) (hb : c.code = cc) (hl : l.stackTraces = false) {text : String} {is mc ms sa : Nat} {A : Nat → Prop}
    (hown : s.vm.findClass RX7 = some m.cls) (hk : (Cond.classLink RX7 140 NSE).before args s = true) (hini : (Cond.initialized NSE).before args s = true) (hstr : vk_R RX7 is text sa s) (hat : ∀ w ∈ xAt, w.before args s = true)
    (hU : vx_Zq Bundle.tN "UNASSIGNED_STACK" Bundle.steD A s s.heap) (hN : vx_Zq Bundle.tN "SUPPRESSED_SENTINEL" Bundle.listD A s s.heap) (hS : va_S A s.heap H locs) (hsize : ls.size = c.maxLocals)
    (d0 : decode cc pc = .ok (.new 140, 3)) (d3 : decode cc (pc + 3) = .ok (.dup, 1)) (d4 : decode cc (pc + 4) = .ok (.ldc_w is, 3)) (d6 : decode cc (pc + 7) = .ok (.invokespecial 144, 3)) (d9 : decode cc (pc + 10) = .ok (.athrow, 1))
    (hout : ∀ x ∈ c.exceptionTable.toList, covers x (pc + 10) = false)
    (hRframes : 5 < R.frames) (hRlocals : (rest.map fun v => v.category).sum + 82 ≤ R.locals) (hRcells : cells + 1 ≤ R.cells) (hRslots : slots + 6 ≤ R.slots) (hlocks : meth.locks = false)
    (hx : ∀ t : State, s.vm.Alike t.vm → H.size ≤ t.heap.size → (∀ q : Nat, q < H.size → t.heap[q]? = H[q]?) → XC NSE s t)
    (hf : ∀ z ∈ locs, free z.base) (hc : cells + 1 ≤ mc) (hs : slots + 6 ≤ ms) :
    W p l e R s m args below meth c H locs cells slots (vx_MQ below Qc XC args s mc ms free) (F0 m pc ls rest) := by
  intro T hT X
  have htr : e.platform.stackTraces = false := (show e.platform.stackTraces = l.stackTraces by rw [X.admits.platform]).trans hl
  have Y := vx_rebase X (R' := { frames := R.frames, locals := R.locals, cells := 1, slots := 6 }) (Nat.le_refl _) (Nat.le_refl _) hRcells hRslots
  obtain ⟨s', hA⟩ : ∃ z, z = (T.setVm s.vm).setFrames (.invoking m args :: below) := ⟨_, rfl⟩
  rw [← hA] at Y
  have hvm : s'.vm = s.vm := by rw [hA]; rfl
  have hhp : s'.heap = H := by rw [hA]; exact hT
  have hW0 : s.WarmedH s'.vm := by rw [hvm]; exact State.WarmedH.refl s
  have hat' : ∀ w ∈ xAt, w.before args s' = true := fun w hw => vx_ot_at hW0 hvm.symm (x_good w (List.mem_cons_of_mem _ (List.mem_cons_of_mem _ hw))) (hat w hw)
  have hk' : (Cond.classLink RX7 140 NSE).before args s' = true := vx_ot_at hW0 hvm.symm (x_good _ List.mem_cons_self) hk
  have hini' : (Cond.initialized NSE).before args s' = true := vx_ot_at hW0 hvm.symm (x_good _ (List.mem_cons_of_mem _ List.mem_cons_self)) hini
  have hU' : vx_Zq Bundle.tN "UNASSIGNED_STACK" Bundle.steD A s' s'.heap := by rw [hhp]; exact vx_Zq.moved hW0.alike (hU.kept hS.2.1)
  have hN' : vx_Zq Bundle.tN "SUPPRESSED_SENTINEL" Bundle.listD A s' s'.heap := by rw [hhp]; exact vx_Zq.moved hW0.alike (hN.kept hS.2.1)
  have h : ∀ w ∈ xAt0, w.before args s' = true := vx_own hat' (vx_isRefq hU'.1) (vx_isRefq hN'.1) hU'.2.word hN'.2.word
  have hown' : s'.vm.findClass RX7 = some m.cls := by rw [hvm]; exact hown
  have hins : (Cond.instantiable NSE 6).before args s' = true := h _ (by simp [xAt0])
  obtain ⟨vm₁, cX, kX, hfX, hkX, -, -, X₁, st1⟩ := Y.newCold hexec (own := RX7) (C := NSE) (index := 140) (n := 6) hown' hk' hins hini'
    (g := F0 m pc ls rest) rfl (by rw [hb]; exact d0) (Nat.le_refl _) (Nat.le_refl _)
  generalize hT1 : (T.setVm vm₁).pushCell { cls := cX, slots := kX.instanceTypes.map defaultValue, vm := .none } = T1 at X₁ st1
  have hcat : (Value.ref T.heap.size).category = 1 := rfl
  have hcellA : T1.heap[T.heap.size]? = some (freshCell cX kX) := by rw [← hT1]; exact State.heap_pushCell_size _ _
  have d3' : decode c.code (pc + 3) = .ok (.dup, 1) := by rw [hb]; exact d3
  have d4' : decode c.code (pc + 4) = .ok (.ldc_w is, 3) := by rw [hb]; exact d4
  have hstr' : vk_R RX7 is text sa s' := vk_R.warm hW0 hstr
  obtain ⟨U, hsteps, hrun, hend, hW, hsame, ce, hce, hOc, hOv⟩ := x_ctorThrow X₁ hexec htr hown' h (fun x hx => nomatch hx) hfX hkX hcellA (by rw [hhp, hT]; exact Nat.le_refl _) (msg := .ref sa) rfl
    (g := { method := m, pc := pc + 7, locals := ls, stack := .ref sa :: .ref T.heap.size :: .ref T.heap.size :: rest, locked := none }) rfl hsize rfl rfl (rest := rest) rfl
    (by rw [hb]; exact d6) (by rw [hb]; exact d9) hout hRframes (by simp only [List.map_cons, List.sum_cons, hcat]; omega) hlocks
  obtain ⟨f1, f2⟩ := vx_frame hsame
  rw [hhp] at f1 f2
  have hWs : s.WarmedH U.vm := State.WarmedH.trans hW0 hW
  have hcl : s.vm.findClass NSE = some ce.cls := by
    rw [hvm] at hOc
    exact hOc
  have hall : s.sameButNew ({ U with vm := s.vm } : State) locs mc ms := by
    subst hA
    obtain ⟨e1, e2⟩ := hsame
    rw [State.setFrames_setFrames] at e1
    have h2 : (T.setVm s.vm).sameButNew ({ U with vm := s.vm } : State) [] (0 + 1) (0 + 6) := ⟨e1, e2⟩
    have h3 := X.same.trans h2
    rw [List.append_nil] at h3
    exact h3.mono hc hs
  refine ⟨U, ?_, .threw T.heap.size, hrun, hend, Or.inr ⟨T.heap.size, rfl, NSE, ce, locs, hx U hWs.alike f1 (fun q hq => f2 q hq (fun z hz => nomatch hz)), hce, hOv, hcl, hWs, hall, hf⟩⟩
  refine st1 _ ?_
  show Steps p.tables e below (T1.setTop { method := m, pc := pc + 3, locals := ls, stack := .ref T.heap.size :: rest, locked := none }) _
  jvm_step X₁.here [X₁.here.top, hexec, d3', Value.category]
  exact X₁.ldcStringW hexec (own := RX7) (text := text) (index := is) (a := sa) hown' hstr'.1 hstr'.2
    (g := { method := m, pc := pc + 4, locals := ls, stack := .ref T.heap.size :: .ref T.heap.size :: rest, locked := none }) rfl d4' _ hsteps
end XTHROW2
end
section
/-! MACHINE: the words of the methods that throw, with x_throw's (the printed lists with their last part changed) -/
def wsY_of : List Cond := .code yX7_of cX7_of 4 (some .int) :: ([.classLink RX7 140 "java/util/NoSuchElementException", .initialized "java/util/NoSuchElementException", .fieldLink RX7 10 "ProRataMarket" "floor" "LProRataMarket$Floor;", .fieldLink RX7 105 "ProRataMarket$Floor" "book" "LProRataMarket$Book;", .fieldLink RX7 147 "ProRataMarket$Order" "trader" "I", .fieldLink RX7 150 "ProRataMarket$Order" "side" "I", .fieldLink RX7 153 "ProRataMarket$Order" "price" "I", .fieldLink RX7 115 "ProRataMarket$Order" "size" "I", .fieldLink RX7 156 "ProRataMarket$Order" "first" "I", .methodLink RX7 109 yX0_find, .instanceMethod yX0_find, .selects RX0 yX0_find yX0_find, .initialized RX0, .code yX0_find cX0_find 3 (some (.object "ProRataMarket$Order")), .fieldLink RX0 25 "ProRataMarket$Book" "resting" "I", .fieldLink RX0 11 "ProRataMarket$Book" "rows" "[LProRataMarket$Order;", .fieldLink RX0 33 "ProRataMarket$Order" "number" "I", .methodLink RX7 159 yX0_grantOf, .instanceMethod yX0_grantOf, .selects RX0 yX0_grantOf yX0_grantOf, .code yX0_grantOf cX0_grantOf 2 (some .int), .fieldLink RX0 17 "ProRataMarket$Book" "topNumber" "[I", .fieldLink RX0 46 "ProRataMarket$Order" "side" "I", .fieldLink RX0 21 "ProRataMarket$Book" "topGrant" "[I"] ++ wsX70 ++ wsX20 ++ wsX40 ++ wsX00 ++ xGw)
def wsY_position : List Cond := .code yX7_position cX7_position 2 (some .int) :: ([.classLink RX7 140 "java/util/NoSuchElementException", .initialized "java/util/NoSuchElementException", .fieldLink RX7 10 "ProRataMarket" "floor" "LProRataMarket$Floor;", .fieldLink RX7 224 "ProRataMarket$Floor" "ledger" "LProRataMarket$Ledger;", .fieldLink RX7 277 "ProRataMarket$Ledger" "position" "[I", .methodLink RX7 95 yX7_isTrader, .static yX7_isTrader, .initialized RX7, .code yX7_isTrader cX7_isTrader 1 (some .boolean)] ++ wsX70 ++ wsX20 ++ wsX30 ++ xGw)
def wsM_size : List Cond := .codeWith yL_size cL_size 3 (some .int) [(0, 6, 7, 64)] :: ((wsL_size_r1 ++ wsL_size_r2) ++ wsX70 ++ wsX20 ++ wsX40 ++ wsX00 ++ xGw)
def wsM_law : List Cond := wsL_law0 ++ xGw
set_option maxRecDepth 20000 in
theorem ggY_of_X0_find : GoodIn wsY_of wsX0_find := goodIn_r _ [14, 15, 16, 17, 46, 47, 48, 49, 40, 41, 42, 43, 44, 45] (by decide +kernel) (by decide +kernel)
set_option maxRecDepth 20000 in
theorem gY_of_X0_find : GoodIn wsY_of (wsV RX7 109 RX0 yX0_find wsX0_find) := goodIn_app (goodIn_of _ (by decide +kernel)) ggY_of_X0_find
set_option maxRecDepth 20000 in
theorem ggY_of_X0_grantOf : GoodIn wsY_of wsX0_grantOf := goodIn_r _ [21, 22, 23, 17, 24, 46, 47, 48, 49, 40, 41, 42, 43, 44, 45] (by decide +kernel) (by decide +kernel)
set_option maxRecDepth 20000 in
theorem gY_of_X0_grantOf : GoodIn wsY_of (wsV RX7 159 RX0 yX0_grantOf wsX0_grantOf) := goodIn_app (goodIn_of _ (by decide +kernel)) ggY_of_X0_grantOf
set_option maxRecDepth 20000 in
theorem ggY_position_X7_isTrader : GoodIn wsY_position wsX7_isTrader := goodIn_r _ [9] (by decide +kernel) (by decide +kernel)
set_option maxRecDepth 20000 in
theorem gY_position_X7_isTrader : GoodIn wsY_position (va_wsS RX7 95 yX7_isTrader wsX7_isTrader) := goodIn_app (goodIn_of _ (by decide +kernel)) ggY_position_X7_isTrader
set_option maxRecDepth 20000 in
theorem ggM_size_Y_of : GoodIn wsM_size wsY_of := goodIn_ca (goodIn_r _ [6, 7, 8, 9, 10, 11, 12, 13, 14, 15, 16, 17, 18, 19, 20, 21, 22, 23, 24, 25, 26, 27, 28, 29, 30, 31, 32, 33, 34, 35, 36, 37, 38, 39, 40, 41, 42, 43, 44, 45, 46, 47, 48, 49, 50, 51, 52, 53, 54, 55] (by decide +kernel) (by decide +kernel)) (goodIn_sub (fun _ h => List.mem_cons_of_mem _ (List.mem_append_right _ h)) (by decide +kernel))
set_option maxRecDepth 20000 in
theorem gM_size_Y_of : GoodIn wsM_size (wsV RL 36 RX7 yX7_of wsY_of) := goodIn_app (goodIn_of _ (by decide +kernel)) ggM_size_Y_of
set_option maxRecDepth 20000 in
theorem ggL_some_L_cell : GoodIn wsL_some wsL_cell := goodIn_r _ [5, 6] (by decide +kernel) (by decide +kernel)
set_option maxRecDepth 20000 in
theorem gL_some_L_cell : GoodIn wsL_some (va_wsS RL 8 yL_cell wsL_cell) := goodIn_app (goodIn_of _ (by decide +kernel)) ggL_some_L_cell
theorem dL_cell_0 : decode cL_cell 0 = .ok (.aload_n 0, 1) := by decide +kernel
theorem dL_cell_1 : decode cL_cell 1 = .ok (.arraylength, 1) := by decide +kernel
theorem dL_cell_2 : decode cL_cell 2 = .ok (.ifCond .ne 7, 3) := by decide +kernel
theorem dL_cell_5 : decode cL_cell 5 = .ok (.iconst 0, 1) := by decide +kernel
theorem dL_cell_6 : decode cL_cell 6 = .ok (.goto 17, 3) := by decide +kernel
theorem dL_cell_9 : decode cL_cell 9 = .ok (.aload_n 0, 1) := by decide +kernel
theorem dL_cell_10 : decode cL_cell 10 = .ok (.iload_n 1, 1) := by decide +kernel
theorem dL_cell_11 : decode cL_cell 11 = .ok (.aload_n 0, 1) := by decide +kernel
theorem dL_cell_12 : decode cL_cell 12 = .ok (.arraylength, 1) := by decide +kernel
theorem dL_cell_13 : decode cL_cell 13 = .ok (.irem, 1) := by decide +kernel
theorem dL_cell_14 : decode cL_cell 14 = .ok (.iaload, 1) := by decide +kernel
theorem dL_cell_15 : decode cL_cell 15 = .ok (.ldc 7, 2) := by decide +kernel
theorem dL_cell_17 : decode cL_cell 17 = .ok (.iload_n 1, 1) := by decide +kernel
theorem dL_cell_18 : decode cL_cell 18 = .ok (.aload_n 0, 1) := by decide +kernel
theorem dL_cell_19 : decode cL_cell 19 = .ok (.arraylength, 1) := by decide +kernel
theorem dL_cell_20 : decode cL_cell 20 = .ok (.idiv, 1) := by decide +kernel
theorem dL_cell_21 : decode cL_cell 21 = .ok (.imul, 1) := by decide +kernel
theorem dL_cell_22 : decode cL_cell 22 = .ok (.ixor, 1) := by decide +kernel
theorem dL_cell_23 : decode cL_cell 23 = .ok (.ireturn, 1) := by decide +kernel
theorem dL_some_0 : decode cL_some 0 = .ok (.aload_n 0, 1) := by decide +kernel
theorem dL_some_1 : decode cL_some 1 = .ok (.iload_n 1, 1) := by decide +kernel
theorem dL_some_2 : decode cL_some 2 = .ok (.invokestatic 8, 3) := by decide +kernel
theorem dL_some_5 : decode cL_some 5 = .ok (.ldc 14, 2) := by decide +kernel
theorem dL_some_7 : decode cL_some 7 = .ok (.iand, 1) := by decide +kernel
theorem dL_some_8 : decode cL_some 8 = .ok (.iload_n 2, 1) := by decide +kernel
theorem dL_some_9 : decode cL_some 9 = .ok (.irem, 1) := by decide +kernel
theorem dL_some_10 : decode cL_some 10 = .ok (.ireturn, 1) := by decide +kernel
theorem dL_size_0 : decode cL_size 0 = .ok (.aload_n 0, 1) := by decide +kernel
theorem dL_size_1 : decode cL_size 1 = .ok (.iload_n 1, 1) := by decide +kernel
theorem dL_size_2 : decode cL_size 2 = .ok (.iconst 3, 1) := by decide +kernel
theorem dL_size_3 : decode cL_size 3 = .ok (.invokevirtual 36, 3) := by decide +kernel
theorem dL_size_6 : decode cL_size 6 = .ok (.ireturn, 1) := by decide +kernel
theorem dL_size_7 : decode cL_size 7 = .ok (.astore_n 2, 1) := by decide +kernel
theorem dL_size_8 : decode cL_size 8 = .ok (.iconst 0, 1) := by decide +kernel
theorem dL_size_9 : decode cL_size 9 = .ok (.ireturn, 1) := by decide +kernel
end
section
/-! MACHINE: the law's words among the tables' -/
set_option maxRecDepth 20000 in
theorem wl_1 : GoodIn lw_tbl wsL_law0_r1 := goodIn_r _ [23, 24, 10, 85, 549, 548, 344, 18, 345, 25, 26, 27, 28, 29, 30, 31, 32, 11, 274, 275, 240, 241, 17, 276] (by decide +kernel) (by decide +kernel)
set_option maxRecDepth 20000 in
theorem wl_2 : GoodIn lw_tbl wsL_law0_r2 := goodIn_r _ [34, 35, 36, 37, 38, 12, 194, 105, 106, 14, 196, 140, 141, 15, 198, 179, 180, 16, 200, 192, 45, 13, 201, 202] (by decide +kernel) (by decide +kernel)
set_option maxRecDepth 20000 in
theorem wl_3 : GoodIn lw_tbl wsL_law0_r3 := goodIn_r _ [204, 39, 40, 41, 42, 43, 86, 93, 95, 47, 48, 49, 108, 109, 110, 111, 113, 121, 139, 123, 143, 144, 145, 146] (by decide +kernel) (by decide +kernel)
set_option maxRecDepth 20000 in
theorem wl_4 : GoodIn lw_tbl wsL_law0_r4 := goodIn_r _ [147, 149, 150, 151, 153, 155, 182, 183, 184, 243, 244, 245, 246, 248, 536, 537, 9, 538, 543, 539, 540, 541, 542, 414] (by decide +kernel) (by decide +kernel)
set_option maxRecDepth 20000 in
theorem wl_5 : GoodIn lw_tbl wsL_law0_r5 := goodIn_r _ [415, 416, 417, 203, 418, 419, 420, 421, 205, 498, 499, 500, 501, 195, 94, 294, 295, 296, 284, 285, 286, 287, 288, 289] (by decide +kernel) (by decide +kernel)
set_option maxRecDepth 20000 in
theorem wl_6 : GoodIn lw_tbl wsL_law0_r6 := goodIn_r _ [290, 297, 291, 292, 293, 298, 299, 300, 301, 302, 303, 304, 305, 206, 208, 66, 306, 307, 308, 309, 90, 310, 311, 312] (by decide +kernel) (by decide +kernel)
set_option maxRecDepth 20000 in
theorem wl_7 : GoodIn lw_tbl wsL_law0_r7 := goodIn_r _ [313, 50, 53, 56, 60, 64, 69, 314, 316, 0, 317, 57, 61, 318, 319, 320, 321, 322, 323, 324, 325, 326, 58, 62] (by decide +kernel) (by decide +kernel)
set_option maxRecDepth 20000 in
theorem wl_8 : GoodIn lw_tbl wsL_law0_r8 := goodIn_r _ [328, 329, 331, 333, 1, 334, 91, 88, 54, 335, 336, 337, 338, 339, 341, 2, 342, 212, 210, 343, 213, 346, 347, 348] (by decide +kernel) (by decide +kernel)
set_option maxRecDepth 20000 in
theorem wl_9 : GoodIn lw_tbl wsL_law0_r9 := goodIn_r _ [349, 67, 350, 351, 352, 353, 51, 354, 356, 3, 357, 160, 152, 52, 154, 156, 119, 358, 359, 360, 361, 157, 159, 89] (by decide +kernel) (by decide +kernel)
set_option maxRecDepth 20000 in
theorem wl_10 : GoodIn lw_tbl wsL_law0_r10 := goodIn_r _ [87, 65, 362, 363, 364, 365, 366, 367, 369, 4, 370, 371, 372, 373, 374, 375, 376, 377, 378, 379, 381, 5, 382, 158] (by decide +kernel) (by decide +kernel)
set_option maxRecDepth 20000 in
theorem wl_11 : GoodIn lw_tbl wsL_law0_r11 := goodIn_r _ [148, 383, 384, 385, 386, 387, 388, 389, 390, 116, 114, 391, 117, 392, 393, 394, 395, 396, 398, 6, 399, 70, 400, 401] (by decide +kernel) (by decide +kernel)
set_option maxRecDepth 20000 in
theorem wl_12 : GoodIn lw_tbl wsL_law0_r12 := goodIn_r _ [402, 403, 404, 405, 406, 407, 408, 409, 410, 411, 412, 413, 422, 423, 424, 425, 430, 22, 55, 59, 63, 68, 71, 426] (by decide +kernel) (by decide +kernel)
set_option maxRecDepth 20000 in
theorem wl_13 : GoodIn lw_tbl wsL_law0_r13 := goodIn_r _ [427, 428, 429, 496, 502, 503, 504, 505, 199, 161, 506, 507, 508, 509, 510, 511, 512, 514, 8, 515, 516, 517, 518, 519] (by decide +kernel) (by decide +kernel)
set_option maxRecDepth 20000 in
theorem wl_14 : GoodIn lw_tbl wsL_law0_r14 := goodIn_r _ [197, 115, 520, 521, 522, 523, 524, 525, 18, 526, 544, 545, 546, 547, 532, 533, 534, 535, 92, 207, 118, 209, 247, 120] (by decide +kernel) (by decide +kernel)
set_option maxRecDepth 20000 in
theorem wl_15 : GoodIn lw_tbl wsL_law0_r15 := goodIn_r _ [211, 214, 527, 528, 529, 530, 122] (by decide +kernel) (by decide +kernel)
set_option maxRecDepth 20000 in
theorem wl_16 : GoodIn lw_tbl wsX70 := goodIn_r _ [277, 279, 281] (by decide +kernel) (by decide +kernel)
set_option maxRecDepth 20000 in
theorem wl_17 : GoodIn lw_tbl wsX20 := goodIn_r _ [215, 217, 219, 221, 223, 225, 227, 229, 231, 233, 235, 237] (by decide +kernel) (by decide +kernel)
set_option maxRecDepth 20000 in
theorem wl_18 : GoodIn lw_tbl wsX60 := goodIn_r _ [249, 251, 253, 255, 257, 259, 261, 263, 265, 267, 269, 271] (by decide +kernel) (by decide +kernel)
set_option maxRecDepth 20000 in
theorem wl_19 : GoodIn lw_tbl wsX00 := goodIn_r _ [96, 98, 100, 102] (by decide +kernel) (by decide +kernel)
set_option maxRecDepth 20000 in
theorem wl_20 : GoodIn lw_tbl wsX30 := goodIn_r _ [124, 126, 128, 130, 132, 134, 136] (by decide +kernel) (by decide +kernel)
set_option maxRecDepth 20000 in
theorem wl_21 : GoodIn lw_tbl wsX50 := goodIn_r _ [162, 164, 166, 168, 170, 172, 174, 176] (by decide +kernel) (by decide +kernel)
set_option maxRecDepth 20000 in
theorem wl_22 : GoodIn lw_tbl wsX10 := goodIn_r _ [185, 187, 189] (by decide +kernel) (by decide +kernel)
set_option maxRecDepth 20000 in
theorem wl_23 : GoodIn lw_tbl wsX40 := goodIn_r _ [72, 74, 76, 78, 80, 82] (by decide +kernel) (by decide +kernel)
theorem wl_24 : GoodIn lw_tbl ([] : List Cond) := fun _ h => absurd h List.not_mem_nil
theorem wsL_law_in0 : ∀ w ∈ wsL_law0, w ∈ lw_tbl := fun w h => (((goodIn_app (goodIn_app (goodIn_app (goodIn_app (goodIn_app (goodIn_app (goodIn_app (goodIn_app (goodIn_app (goodIn_app wl_1 (goodIn_app wl_2 (goodIn_app wl_3 (goodIn_app wl_4 (goodIn_app wl_5 (goodIn_app wl_6 (goodIn_app wl_7 (goodIn_app wl_8 (goodIn_app wl_9 (goodIn_app wl_10 (goodIn_app wl_11 (goodIn_app wl_12 (goodIn_app wl_13 (goodIn_app wl_14 wl_15)))))))))))))) wl_16) wl_17) wl_18) wl_19) wl_20) wl_21) wl_22) wl_23) wl_24) : GoodIn lw_tbl wsL_law0) w h).1
set_option maxRecDepth 20000 in
theorem xGw_in : GoodIn lw_tbl xGw := goodIn_r _ [19, 452, 461, 463, 466, 468, 453, 454, 29, 30, 455, 460, 464, 484, 442, 485, 444, 486, 446, 456, 458, 448, 480, 481, 483, 448, 471, 472, 473, 474, 474, 475, 476, 477, 477, 478, 479, 480, 470, 431, 439, 440, 441, 443, 445, 447, 451, 450, 449] (by decide +kernel) (by decide +kernel)
theorem wsM_law_in : ∀ w ∈ wsM_law, w ∈ lw_tbl := fun w h => (List.mem_append.mp h).elim (fun h => wsL_law_in0 w h) (fun h => (xGw_in w h).1)
theorem goodIn_l {a b ws : List Cond} (h : GoodIn a ws) : GoodIn (a ++ b) ws := fun w hw => ⟨List.mem_append_left _ (h w hw).1, (h w hw).2⟩
end
section
/-! MACHINE: the law's instructions (printed) -/
theorem dL_law_0 : decode cL_law 0 = .ok (.new 15, 3) := by decide +kernel
theorem dL_law_3 : decode cL_law 3 = .ok (.dup, 1) := by decide +kernel
theorem dL_law_4 : decode cL_law 4 = .ok (.invokespecial 17, 3) := by decide +kernel
theorem dL_law_7 : decode cL_law 7 = .ok (.astore_n 1, 1) := by decide +kernel
theorem dL_law_8 : decode cL_law 8 = .ok (.aload_n 0, 1) := by decide +kernel
theorem dL_law_9 : decode cL_law 9 = .ok (.iconst 0, 1) := by decide +kernel
theorem dL_law_10 : decode cL_law 10 = .ok (.bipush 40, 2) := by decide +kernel
theorem dL_law_12 : decode cL_law 12 = .ok (.invokestatic 18, 3) := by decide +kernel
theorem dL_law_15 : decode cL_law 15 = .ok (.istore_n 2, 1) := by decide +kernel
theorem dL_law_16 : decode cL_law 16 = .ok (.iconst 1, 1) := by decide +kernel
theorem dL_law_17 : decode cL_law 17 = .ok (.aload_n 0, 1) := by decide +kernel
theorem dL_law_18 : decode cL_law 18 = .ok (.iconst 1, 1) := by decide +kernel
theorem dL_law_19 : decode cL_law 19 = .ok (.bipush 9, 2) := by decide +kernel
theorem dL_law_21 : decode cL_law 21 = .ok (.invokestatic 18, 3) := by decide +kernel
theorem dL_law_24 : decode cL_law 24 = .ok (.iadd, 1) := by decide +kernel
theorem dL_law_25 : decode cL_law 25 = .ok (.istore_n 3, 1) := by decide +kernel
theorem dL_law_26 : decode cL_law 26 = .ok (.aload_n 1, 1) := by decide +kernel
theorem dL_law_27 : decode cL_law 27 = .ok (.iload_n 2, 1) := by decide +kernel
theorem dL_law_28 : decode cL_law 28 = .ok (.invokevirtual 22, 3) := by decide +kernel
theorem dL_law_31 : decode cL_law 31 = .ok (.bipush 20, 2) := by decide +kernel
theorem dL_law_33 : decode cL_law 33 = .ok (.if_icmp .ne 31, 3) := by decide +kernel
theorem dL_law_36 : decode cL_law 36 = .ok (.aload_n 1, 1) := by decide +kernel
theorem dL_law_37 : decode cL_law 37 = .ok (.iload_n 3, 1) := by decide +kernel
theorem dL_law_38 : decode cL_law 38 = .ok (.invokevirtual 26, 3) := by decide +kernel
theorem dL_law_41 : decode cL_law 41 = .ok (.iconst 2, 1) := by decide +kernel
theorem dL_law_42 : decode cL_law 42 = .ok (.if_icmp .ne 22, 3) := by decide +kernel
theorem dL_law_45 : decode cL_law 45 = .ok (.aload_n 1, 1) := by decide +kernel
theorem dL_law_46 : decode cL_law 46 = .ok (.bipush 51, 2) := by decide +kernel
theorem dL_law_48 : decode cL_law 48 = .ok (.invokevirtual 26, 3) := by decide +kernel
theorem dL_law_51 : decode cL_law 51 = .ok (.iconst (-1), 1) := by decide +kernel
theorem dL_law_52 : decode cL_law 52 = .ok (.if_icmp .ne 12, 3) := by decide +kernel
theorem dL_law_55 : decode cL_law 55 = .ok (.aload_n 1, 1) := by decide +kernel
theorem dL_law_56 : decode cL_law 56 = .ok (.iconst 0, 1) := by decide +kernel
theorem dL_law_57 : decode cL_law 57 = .ok (.invokevirtual 29, 3) := by decide +kernel
theorem dL_law_60 : decode cL_law 60 = .ok (.iconst (-1), 1) := by decide +kernel
theorem dL_law_61 : decode cL_law 61 = .ok (.if_icmp .eq 5, 3) := by decide +kernel
theorem dL_law_64 : decode cL_law 64 = .ok (.iconst 0, 1) := by decide +kernel
theorem dL_law_65 : decode cL_law 65 = .ok (.ireturn, 1) := by decide +kernel
theorem dL_law_66 : decode cL_law 66 = .ok (.aload_n 0, 1) := by decide +kernel
theorem dL_law_67 : decode cL_law 67 = .ok (.iconst 2, 1) := by decide +kernel
theorem dL_law_68 : decode cL_law 68 = .ok (.iconst 2, 1) := by decide +kernel
theorem dL_law_69 : decode cL_law 69 = .ok (.invokestatic 18, 3) := by decide +kernel
theorem dL_law_72 : decode cL_law 72 = .ok (.istore 4, 2) := by decide +kernel
theorem dL_law_74 : decode cL_law 74 = .ok (.iconst 1, 1) := by decide +kernel
theorem dL_law_75 : decode cL_law 75 = .ok (.aload_n 0, 1) := by decide +kernel
theorem dL_law_76 : decode cL_law 76 = .ok (.iconst 3, 1) := by decide +kernel
theorem dL_law_77 : decode cL_law 77 = .ok (.bipush 8, 2) := by decide +kernel
theorem dL_law_79 : decode cL_law 79 = .ok (.invokestatic 18, 3) := by decide +kernel
theorem dL_law_82 : decode cL_law 82 = .ok (.iadd, 1) := by decide +kernel
theorem dL_law_83 : decode cL_law 83 = .ok (.istore 5, 2) := by decide +kernel
theorem dL_law_85 : decode cL_law 85 = .ok (.aload_n 0, 1) := by decide +kernel
theorem dL_law_86 : decode cL_law 86 = .ok (.iconst 4, 1) := by decide +kernel
theorem dL_law_87 : decode cL_law 87 = .ok (.iconst 2, 1) := by decide +kernel
theorem dL_law_88 : decode cL_law 88 = .ok (.invokestatic 18, 3) := by decide +kernel
theorem dL_law_91 : decode cL_law 91 = .ok (.ifCond .ne 7, 3) := by decide +kernel
theorem dL_law_94 : decode cL_law 94 = .ok (.iconst 1, 1) := by decide +kernel
theorem dL_law_95 : decode cL_law 95 = .ok (.goto 4, 3) := by decide +kernel
theorem dL_law_98 : decode cL_law 98 = .ok (.iconst 0, 1) := by decide +kernel
theorem dL_law_99 : decode cL_law 99 = .ok (.istore 6, 2) := by decide +kernel
theorem dL_law_101 : decode cL_law 101 = .ok (.iload 6, 2) := by decide +kernel
theorem dL_law_103 : decode cL_law 103 = .ok (.ifCond .eq 31, 3) := by decide +kernel
theorem dL_law_106 : decode cL_law 106 = .ok (.aload_n 1, 1) := by decide +kernel
theorem dL_law_107 : decode cL_law 107 = .ok (.bipush 9, 2) := by decide +kernel
theorem dL_law_109 : decode cL_law 109 = .ok (.iload 4, 2) := by decide +kernel
theorem dL_law_111 : decode cL_law 111 = .ok (.iload 4, 2) := by decide +kernel
theorem dL_law_113 : decode cL_law 113 = .ok (.ifCond .ne 8, 3) := by decide +kernel
theorem dL_law_116 : decode cL_law 116 = .ok (.bipush 99, 2) := by decide +kernel
theorem dL_law_118 : decode cL_law 118 = .ok (.goto 5, 3) := by decide +kernel
theorem dL_law_121 : decode cL_law 121 = .ok (.bipush 101, 2) := by decide +kernel
theorem dL_law_123 : decode cL_law 123 = .ok (.iconst 5, 1) := by decide +kernel
theorem dL_law_124 : decode cL_law 124 = .ok (.iconst 0, 1) := by decide +kernel
theorem dL_law_125 : decode cL_law 125 = .ok (.invokevirtual 32, 3) := by decide +kernel
theorem dL_law_128 : decode cL_law 128 = .ok (.iconst 1, 1) := by decide +kernel
theorem dL_law_129 : decode cL_law 129 = .ok (.if_icmp .eq 5, 3) := by decide +kernel
theorem dL_law_132 : decode cL_law 132 = .ok (.iconst 0, 1) := by decide +kernel
theorem dL_law_133 : decode cL_law 133 = .ok (.ireturn, 1) := by decide +kernel
theorem dL_law_134 : decode cL_law 134 = .ok (.iload 6, 2) := by decide +kernel
theorem dL_law_136 : decode cL_law 136 = .ok (.ifCond .eq 7, 3) := by decide +kernel
theorem dL_law_139 : decode cL_law 139 = .ok (.iconst 2, 1) := by decide +kernel
theorem dL_law_140 : decode cL_law 140 = .ok (.goto 4, 3) := by decide +kernel
theorem dL_law_143 : decode cL_law 143 = .ok (.iconst 1, 1) := by decide +kernel
theorem dL_law_144 : decode cL_law 144 = .ok (.istore 7, 2) := by decide +kernel
theorem dL_law_146 : decode cL_law 146 = .ok (.iload 5, 2) := by decide +kernel
theorem dL_law_148 : decode cL_law 148 = .ok (.newarray .int, 2) := by decide +kernel
theorem dL_law_150 : decode cL_law 150 = .ok (.astore 8, 2) := by decide +kernel
theorem dL_law_152 : decode cL_law 152 = .ok (.iconst 0, 1) := by decide +kernel
theorem dL_law_153 : decode cL_law 153 = .ok (.istore 9, 2) := by decide +kernel
theorem dL_law_155 : decode cL_law 155 = .ok (.iconst 0, 1) := by decide +kernel
theorem dL_law_156 : decode cL_law 156 = .ok (.istore 10, 2) := by decide +kernel
theorem dL_law_158 : decode cL_law 158 = .ok (.iload 10, 2) := by decide +kernel
theorem dL_law_160 : decode cL_law 160 = .ok (.iload 5, 2) := by decide +kernel
theorem dL_law_162 : decode cL_law 162 = .ok (.if_icmp .ge 78, 3) := by decide +kernel
theorem dL_law_165 : decode cL_law 165 = .ok (.aload 8, 2) := by decide +kernel
theorem dL_law_167 : decode cL_law 167 = .ok (.iload 10, 2) := by decide +kernel
theorem dL_law_169 : decode cL_law 169 = .ok (.iconst 1, 1) := by decide +kernel
theorem dL_law_170 : decode cL_law 170 = .ok (.aload_n 0, 1) := by decide +kernel
theorem dL_law_171 : decode cL_law 171 = .ok (.iconst 5, 1) := by decide +kernel
theorem dL_law_172 : decode cL_law 172 = .ok (.iload 10, 2) := by decide +kernel
theorem dL_law_174 : decode cL_law 174 = .ok (.iadd, 1) := by decide +kernel
theorem dL_law_175 : decode cL_law 175 = .ok (.aload_n 0, 1) := by decide +kernel
theorem dL_law_176 : decode cL_law 176 = .ok (.bipush 20, 2) := by decide +kernel
theorem dL_law_178 : decode cL_law 178 = .ok (.iconst 2, 1) := by decide +kernel
theorem dL_law_179 : decode cL_law 179 = .ok (.invokestatic 18, 3) := by decide +kernel
theorem dL_law_182 : decode cL_law 182 = .ok (.ifCond .ne 8, 3) := by decide +kernel
theorem dL_law_185 : decode cL_law 185 = .ok (.bipush 12, 2) := by decide +kernel
theorem dL_law_187 : decode cL_law 187 = .ok (.goto 6, 3) := by decide +kernel
theorem dL_law_190 : decode cL_law 190 = .ok (.sipush 200, 3) := by decide +kernel
theorem dL_law_193 : decode cL_law 193 = .ok (.invokestatic 18, 3) := by decide +kernel
theorem dL_law_196 : decode cL_law 196 = .ok (.iadd, 1) := by decide +kernel
theorem dL_law_197 : decode cL_law 197 = .ok (.iastore, 1) := by decide +kernel
theorem dL_law_198 : decode cL_law 198 = .ok (.iload 9, 2) := by decide +kernel
theorem dL_law_200 : decode cL_law 200 = .ok (.aload 8, 2) := by decide +kernel
theorem dL_law_202 : decode cL_law 202 = .ok (.iload 10, 2) := by decide +kernel
theorem dL_law_204 : decode cL_law 204 = .ok (.iaload, 1) := by decide +kernel
theorem dL_law_205 : decode cL_law 205 = .ok (.iadd, 1) := by decide +kernel
theorem dL_law_206 : decode cL_law 206 = .ok (.istore 9, 2) := by decide +kernel
theorem dL_law_208 : decode cL_law 208 = .ok (.aload_n 1, 1) := by decide +kernel
theorem dL_law_209 : decode cL_law 209 = .ok (.iload 10, 2) := by decide +kernel
theorem dL_law_211 : decode cL_law 211 = .ok (.iload 4, 2) := by decide +kernel
theorem dL_law_213 : decode cL_law 213 = .ok (.bipush 100, 2) := by decide +kernel
theorem dL_law_215 : decode cL_law 215 = .ok (.aload 8, 2) := by decide +kernel
theorem dL_law_217 : decode cL_law 217 = .ok (.iload 10, 2) := by decide +kernel
theorem dL_law_219 : decode cL_law 219 = .ok (.iaload, 1) := by decide +kernel
theorem dL_law_220 : decode cL_law 220 = .ok (.iconst 0, 1) := by decide +kernel
theorem dL_law_221 : decode cL_law 221 = .ok (.invokevirtual 32, 3) := by decide +kernel
theorem dL_law_224 : decode cL_law 224 = .ok (.iload 7, 2) := by decide +kernel
theorem dL_law_226 : decode cL_law 226 = .ok (.iload 10, 2) := by decide +kernel
theorem dL_law_228 : decode cL_law 228 = .ok (.iadd, 1) := by decide +kernel
theorem dL_law_229 : decode cL_law 229 = .ok (.if_icmp .eq 5, 3) := by decide +kernel
theorem dL_law_232 : decode cL_law 232 = .ok (.iconst 0, 1) := by decide +kernel
theorem dL_law_233 : decode cL_law 233 = .ok (.ireturn, 1) := by decide +kernel
theorem dL_law_234 : decode cL_law 234 = .ok (.iinc 10 1, 3) := by decide +kernel
theorem dL_law_237 : decode cL_law 237 = .ok (.goto (-79), 3) := by decide +kernel
theorem dL_law_240 : decode cL_law 240 = .ok (.iload_n 2, 1) := by decide +kernel
theorem dL_law_241 : decode cL_law 241 = .ok (.ifCond .le 7, 3) := by decide +kernel
theorem dL_law_244 : decode cL_law 244 = .ok (.iconst 1, 1) := by decide +kernel
theorem dL_law_245 : decode cL_law 245 = .ok (.goto 4, 3) := by decide +kernel
theorem dL_law_248 : decode cL_law 248 = .ok (.iconst 0, 1) := by decide +kernel
theorem dL_law_249 : decode cL_law 249 = .ok (.istore 10, 2) := by decide +kernel
theorem dL_law_251 : decode cL_law 251 = .ok (.aload_n 1, 1) := by decide +kernel
theorem dL_law_252 : decode cL_law 252 = .ok (.iload 4, 2) := by decide +kernel
theorem dL_law_254 : decode cL_law 254 = .ok (.invokevirtual 29, 3) := by decide +kernel
theorem dL_law_257 : decode cL_law 257 = .ok (.iload 10, 2) := by decide +kernel
theorem dL_law_259 : decode cL_law 259 = .ok (.ifCond .eq 8, 3) := by decide +kernel
theorem dL_law_262 : decode cL_law 262 = .ok (.iload 7, 2) := by decide +kernel
theorem dL_law_264 : decode cL_law 264 = .ok (.goto 4, 3) := by decide +kernel
theorem dL_law_267 : decode cL_law 267 = .ok (.iconst (-1), 1) := by decide +kernel
theorem dL_law_268 : decode cL_law 268 = .ok (.if_icmp .ne 32, 3) := by decide +kernel
theorem dL_law_271 : decode cL_law 271 = .ok (.aload_n 1, 1) := by decide +kernel
theorem dL_law_272 : decode cL_law 272 = .ok (.iload 7, 2) := by decide +kernel
theorem dL_law_274 : decode cL_law 274 = .ok (.iconst 5, 1) := by decide +kernel
theorem dL_law_275 : decode cL_law 275 = .ok (.invokevirtual 36, 3) := by decide +kernel
theorem dL_law_278 : decode cL_law 278 = .ok (.iload_n 2, 1) := by decide +kernel
theorem dL_law_279 : decode cL_law 279 = .ok (.if_icmp .ne 21, 3) := by decide +kernel
theorem dL_law_282 : decode cL_law 282 = .ok (.iload 5, 2) := by decide +kernel
theorem dL_law_284 : decode cL_law 284 = .ok (.iconst 1, 1) := by decide +kernel
theorem dL_law_285 : decode cL_law 285 = .ok (.if_icmp .le 17, 3) := by decide +kernel
theorem dL_law_288 : decode cL_law 288 = .ok (.aload_n 1, 1) := by decide +kernel
theorem dL_law_289 : decode cL_law 289 = .ok (.iload 7, 2) := by decide +kernel
theorem dL_law_291 : decode cL_law 291 = .ok (.iconst 1, 1) := by decide +kernel
theorem dL_law_292 : decode cL_law 292 = .ok (.iadd, 1) := by decide +kernel
theorem dL_law_293 : decode cL_law 293 = .ok (.iconst 5, 1) := by decide +kernel
theorem dL_law_294 : decode cL_law 294 = .ok (.invokevirtual 36, 3) := by decide +kernel
theorem dL_law_297 : decode cL_law 297 = .ok (.ifCond .eq 5, 3) := by decide +kernel
theorem dL_law_300 : decode cL_law 300 = .ok (.iconst 0, 1) := by decide +kernel
theorem dL_law_301 : decode cL_law 301 = .ok (.ireturn, 1) := by decide +kernel
theorem dL_law_302 : decode cL_law 302 = .ok (.iconst 1, 1) := by decide +kernel
theorem dL_law_303 : decode cL_law 303 = .ok (.aload_n 0, 1) := by decide +kernel
theorem dL_law_304 : decode cL_law 304 = .ok (.bipush 21, 2) := by decide +kernel
theorem dL_law_306 : decode cL_law 306 = .ok (.iload 9, 2) := by decide +kernel
theorem dL_law_308 : decode cL_law 308 = .ok (.invokestatic 18, 3) := by decide +kernel
theorem dL_law_311 : decode cL_law 311 = .ok (.iadd, 1) := by decide +kernel
theorem dL_law_312 : decode cL_law 312 = .ok (.istore 11, 2) := by decide +kernel
theorem dL_law_314 : decode cL_law 314 = .ok (.iconst 3, 1) := by decide +kernel
theorem dL_law_315 : decode cL_law 315 = .ok (.iload 5, 2) := by decide +kernel
theorem dL_law_317 : decode cL_law 317 = .ok (.multianewarray 40 2, 4) := by decide +kernel
theorem dL_law_321 : decode cL_law 321 = .ok (.astore 12, 2) := by decide +kernel
theorem dL_law_323 : decode cL_law 323 = .ok (.iload 11, 2) := by decide +kernel
theorem dL_law_325 : decode cL_law 325 = .ok (.istore 13, 2) := by decide +kernel
theorem dL_law_327 : decode cL_law 327 = .ok (.iload 10, 2) := by decide +kernel
theorem dL_law_329 : decode cL_law 329 = .ok (.ifCond .eq 22, 3) := by decide +kernel
theorem dL_law_332 : decode cL_law 332 = .ok (.aload 12, 2) := by decide +kernel
theorem dL_law_334 : decode cL_law 334 = .ok (.iconst 0, 1) := by decide +kernel
theorem dL_law_335 : decode cL_law 335 = .ok (.aaload, 1) := by decide +kernel
theorem dL_law_336 : decode cL_law 336 = .ok (.iconst 0, 1) := by decide +kernel
theorem dL_law_337 : decode cL_law 337 = .ok (.iload 11, 2) := by decide +kernel
theorem dL_law_339 : decode cL_law 339 = .ok (.aload 8, 2) := by decide +kernel
theorem dL_law_341 : decode cL_law 341 = .ok (.iconst 0, 1) := by decide +kernel
theorem dL_law_342 : decode cL_law 342 = .ok (.iaload, 1) := by decide +kernel
theorem dL_law_343 : decode cL_law 343 = .ok (.invokestatic 42, 3) := by decide +kernel
theorem dL_law_346 : decode cL_law 346 = .ok (.iload_n 2, 1) := by decide +kernel
theorem dL_law_347 : decode cL_law 347 = .ok (.invokestatic 42, 3) := by decide +kernel
theorem dL_law_350 : decode cL_law 350 = .ok (.iastore, 1) := by decide +kernel
theorem dL_law_351 : decode cL_law 351 = .ok (.iload 13, 2) := by decide +kernel
theorem dL_law_353 : decode cL_law 353 = .ok (.aload 12, 2) := by decide +kernel
theorem dL_law_355 : decode cL_law 355 = .ok (.iconst 0, 1) := by decide +kernel
theorem dL_law_356 : decode cL_law 356 = .ok (.aaload, 1) := by decide +kernel
theorem dL_law_357 : decode cL_law 357 = .ok (.iconst 0, 1) := by decide +kernel
theorem dL_law_358 : decode cL_law 358 = .ok (.iaload, 1) := by decide +kernel
theorem dL_law_359 : decode cL_law 359 = .ok (.isub, 1) := by decide +kernel
theorem dL_law_360 : decode cL_law 360 = .ok (.istore 13, 2) := by decide +kernel
theorem dL_law_362 : decode cL_law 362 = .ok (.iload 13, 2) := by decide +kernel
theorem dL_law_364 : decode cL_law 364 = .ok (.istore 14, 2) := by decide +kernel
theorem dL_law_366 : decode cL_law 366 = .ok (.iload 9, 2) := by decide +kernel
theorem dL_law_368 : decode cL_law 368 = .ok (.aload 12, 2) := by decide +kernel
theorem dL_law_370 : decode cL_law 370 = .ok (.iconst 0, 1) := by decide +kernel
theorem dL_law_371 : decode cL_law 371 = .ok (.aaload, 1) := by decide +kernel
theorem dL_law_372 : decode cL_law 372 = .ok (.iconst 0, 1) := by decide +kernel
theorem dL_law_373 : decode cL_law 373 = .ok (.iaload, 1) := by decide +kernel
theorem dL_law_374 : decode cL_law 374 = .ok (.isub, 1) := by decide +kernel
theorem dL_law_375 : decode cL_law 375 = .ok (.istore 15, 2) := by decide +kernel
theorem dL_law_377 : decode cL_law 377 = .ok (.iconst 0, 1) := by decide +kernel
theorem dL_law_378 : decode cL_law 378 = .ok (.istore 16, 2) := by decide +kernel
theorem dL_law_380 : decode cL_law 380 = .ok (.iload 16, 2) := by decide +kernel
theorem dL_law_382 : decode cL_law 382 = .ok (.iload 5, 2) := by decide +kernel
theorem dL_law_384 : decode cL_law 384 = .ok (.if_icmp .ge 74, 3) := by decide +kernel
theorem dL_law_387 : decode cL_law 387 = .ok (.iload 15, 2) := by decide +kernel
theorem dL_law_389 : decode cL_law 389 = .ok (.ifCond .ne 7, 3) := by decide +kernel
theorem dL_law_392 : decode cL_law 392 = .ok (.iconst 0, 1) := by decide +kernel
theorem dL_law_393 : decode cL_law 393 = .ok (.goto 26, 3) := by decide +kernel
theorem dL_law_396 : decode cL_law 396 = .ok (.iload 14, 2) := by decide +kernel
theorem dL_law_398 : decode cL_law 398 = .ok (.i2l, 1) := by decide +kernel
theorem dL_law_399 : decode cL_law 399 = .ok (.aload 8, 2) := by decide +kernel
theorem dL_law_401 : decode cL_law 401 = .ok (.iload 16, 2) := by decide +kernel
theorem dL_law_403 : decode cL_law 403 = .ok (.iaload, 1) := by decide +kernel
theorem dL_law_404 : decode cL_law 404 = .ok (.aload 12, 2) := by decide +kernel
theorem dL_law_406 : decode cL_law 406 = .ok (.iconst 0, 1) := by decide +kernel
theorem dL_law_407 : decode cL_law 407 = .ok (.aaload, 1) := by decide +kernel
theorem dL_law_408 : decode cL_law 408 = .ok (.iload 16, 2) := by decide +kernel
theorem dL_law_410 : decode cL_law 410 = .ok (.iaload, 1) := by decide +kernel
theorem dL_law_411 : decode cL_law 411 = .ok (.isub, 1) := by decide +kernel
theorem dL_law_412 : decode cL_law 412 = .ok (.i2l, 1) := by decide +kernel
theorem dL_law_413 : decode cL_law 413 = .ok (.lmul, 1) := by decide +kernel
theorem dL_law_414 : decode cL_law 414 = .ok (.iload 15, 2) := by decide +kernel
theorem dL_law_416 : decode cL_law 416 = .ok (.i2l, 1) := by decide +kernel
theorem dL_law_417 : decode cL_law 417 = .ok (.ldiv, 1) := by decide +kernel
theorem dL_law_418 : decode cL_law 418 = .ok (.l2i, 1) := by decide +kernel
theorem dL_law_419 : decode cL_law 419 = .ok (.istore 17, 2) := by decide +kernel
theorem dL_law_421 : decode cL_law 421 = .ok (.aload 12, 2) := by decide +kernel
theorem dL_law_423 : decode cL_law 423 = .ok (.iconst 1, 1) := by decide +kernel
theorem dL_law_424 : decode cL_law 424 = .ok (.aaload, 1) := by decide +kernel
theorem dL_law_425 : decode cL_law 425 = .ok (.iload 16, 2) := by decide +kernel
theorem dL_law_427 : decode cL_law 427 = .ok (.iload 17, 2) := by decide +kernel
theorem dL_law_429 : decode cL_law 429 = .ok (.iload_n 3, 1) := by decide +kernel
theorem dL_law_430 : decode cL_law 430 = .ok (.if_icmp .ge 7, 3) := by decide +kernel
theorem dL_law_433 : decode cL_law 433 = .ok (.iconst 0, 1) := by decide +kernel
theorem dL_law_434 : decode cL_law 434 = .ok (.goto 5, 3) := by decide +kernel
theorem dL_law_437 : decode cL_law 437 = .ok (.iload 17, 2) := by decide +kernel
theorem dL_law_439 : decode cL_law 439 = .ok (.iastore, 1) := by decide +kernel
theorem dL_law_440 : decode cL_law 440 = .ok (.iload 13, 2) := by decide +kernel
theorem dL_law_442 : decode cL_law 442 = .ok (.aload 12, 2) := by decide +kernel
theorem dL_law_444 : decode cL_law 444 = .ok (.iconst 1, 1) := by decide +kernel
theorem dL_law_445 : decode cL_law 445 = .ok (.aaload, 1) := by decide +kernel
theorem dL_law_446 : decode cL_law 446 = .ok (.iload 16, 2) := by decide +kernel
theorem dL_law_448 : decode cL_law 448 = .ok (.iaload, 1) := by decide +kernel
theorem dL_law_449 : decode cL_law 449 = .ok (.isub, 1) := by decide +kernel
theorem dL_law_450 : decode cL_law 450 = .ok (.istore 13, 2) := by decide +kernel
theorem dL_law_452 : decode cL_law 452 = .ok (.iinc 16 1, 3) := by decide +kernel
theorem dL_law_455 : decode cL_law 455 = .ok (.goto (-75), 3) := by decide +kernel
theorem dL_law_458 : decode cL_law 458 = .ok (.iconst 0, 1) := by decide +kernel
theorem dL_law_459 : decode cL_law 459 = .ok (.istore 16, 2) := by decide +kernel
theorem dL_law_461 : decode cL_law 461 = .ok (.iload 16, 2) := by decide +kernel
theorem dL_law_463 : decode cL_law 463 = .ok (.iload 5, 2) := by decide +kernel
theorem dL_law_465 : decode cL_law 465 = .ok (.if_icmp .ge 54, 3) := by decide +kernel
theorem dL_law_468 : decode cL_law 468 = .ok (.aload 12, 2) := by decide +kernel
theorem dL_law_470 : decode cL_law 470 = .ok (.iconst 2, 1) := by decide +kernel
theorem dL_law_471 : decode cL_law 471 = .ok (.aaload, 1) := by decide +kernel
theorem dL_law_472 : decode cL_law 472 = .ok (.iload 16, 2) := by decide +kernel
theorem dL_law_474 : decode cL_law 474 = .ok (.iload 13, 2) := by decide +kernel
theorem dL_law_476 : decode cL_law 476 = .ok (.aload 8, 2) := by decide +kernel
theorem dL_law_478 : decode cL_law 478 = .ok (.iload 16, 2) := by decide +kernel
theorem dL_law_480 : decode cL_law 480 = .ok (.iaload, 1) := by decide +kernel
theorem dL_law_481 : decode cL_law 481 = .ok (.aload 12, 2) := by decide +kernel
theorem dL_law_483 : decode cL_law 483 = .ok (.iconst 0, 1) := by decide +kernel
theorem dL_law_484 : decode cL_law 484 = .ok (.aaload, 1) := by decide +kernel
theorem dL_law_485 : decode cL_law 485 = .ok (.iload 16, 2) := by decide +kernel
theorem dL_law_487 : decode cL_law 487 = .ok (.iaload, 1) := by decide +kernel
theorem dL_law_488 : decode cL_law 488 = .ok (.isub, 1) := by decide +kernel
theorem dL_law_489 : decode cL_law 489 = .ok (.aload 12, 2) := by decide +kernel
theorem dL_law_491 : decode cL_law 491 = .ok (.iconst 1, 1) := by decide +kernel
theorem dL_law_492 : decode cL_law 492 = .ok (.aaload, 1) := by decide +kernel
theorem dL_law_493 : decode cL_law 493 = .ok (.iload 16, 2) := by decide +kernel
theorem dL_law_495 : decode cL_law 495 = .ok (.iaload, 1) := by decide +kernel
theorem dL_law_496 : decode cL_law 496 = .ok (.isub, 1) := by decide +kernel
theorem dL_law_497 : decode cL_law 497 = .ok (.invokestatic 42, 3) := by decide +kernel
theorem dL_law_500 : decode cL_law 500 = .ok (.iastore, 1) := by decide +kernel
theorem dL_law_501 : decode cL_law 501 = .ok (.iload 13, 2) := by decide +kernel
theorem dL_law_503 : decode cL_law 503 = .ok (.aload 12, 2) := by decide +kernel
end
section
/-! MACHINE: the law's instructions (printed) -/
theorem dL_law_505 : decode cL_law 505 = .ok (.iconst 2, 1) := by decide +kernel
theorem dL_law_506 : decode cL_law 506 = .ok (.aaload, 1) := by decide +kernel
theorem dL_law_507 : decode cL_law 507 = .ok (.iload 16, 2) := by decide +kernel
theorem dL_law_509 : decode cL_law 509 = .ok (.iaload, 1) := by decide +kernel
theorem dL_law_510 : decode cL_law 510 = .ok (.isub, 1) := by decide +kernel
theorem dL_law_511 : decode cL_law 511 = .ok (.istore 13, 2) := by decide +kernel
theorem dL_law_513 : decode cL_law 513 = .ok (.iinc 16 1, 3) := by decide +kernel
theorem dL_law_516 : decode cL_law 516 = .ok (.goto (-55), 3) := by decide +kernel
theorem dL_law_519 : decode cL_law 519 = .ok (.iload 13, 2) := by decide +kernel
theorem dL_law_521 : decode cL_law 521 = .ok (.ifCond .eq 5, 3) := by decide +kernel
theorem dL_law_524 : decode cL_law 524 = .ok (.iconst 0, 1) := by decide +kernel
theorem dL_law_525 : decode cL_law 525 = .ok (.ireturn, 1) := by decide +kernel
theorem dL_law_526 : decode cL_law 526 = .ok (.iconst 0, 1) := by decide +kernel
theorem dL_law_527 : decode cL_law 527 = .ok (.istore 16, 2) := by decide +kernel
theorem dL_law_529 : decode cL_law 529 = .ok (.iload 16, 2) := by decide +kernel
theorem dL_law_531 : decode cL_law 531 = .ok (.iload 5, 2) := by decide +kernel
theorem dL_law_533 : decode cL_law 533 = .ok (.if_icmp .ge 96, 3) := by decide +kernel
theorem dL_law_536 : decode cL_law 536 = .ok (.aload 12, 2) := by decide +kernel
theorem dL_law_538 : decode cL_law 538 = .ok (.iconst 0, 1) := by decide +kernel
theorem dL_law_539 : decode cL_law 539 = .ok (.aaload, 1) := by decide +kernel
theorem dL_law_540 : decode cL_law 540 = .ok (.iload 16, 2) := by decide +kernel
theorem dL_law_542 : decode cL_law 542 = .ok (.iaload, 1) := by decide +kernel
theorem dL_law_543 : decode cL_law 543 = .ok (.aload 12, 2) := by decide +kernel
theorem dL_law_545 : decode cL_law 545 = .ok (.iconst 1, 1) := by decide +kernel
theorem dL_law_546 : decode cL_law 546 = .ok (.aaload, 1) := by decide +kernel
theorem dL_law_547 : decode cL_law 547 = .ok (.iload 16, 2) := by decide +kernel
theorem dL_law_549 : decode cL_law 549 = .ok (.iaload, 1) := by decide +kernel
theorem dL_law_550 : decode cL_law 550 = .ok (.iadd, 1) := by decide +kernel
theorem dL_law_551 : decode cL_law 551 = .ok (.aload 12, 2) := by decide +kernel
theorem dL_law_553 : decode cL_law 553 = .ok (.iconst 2, 1) := by decide +kernel
theorem dL_law_554 : decode cL_law 554 = .ok (.aaload, 1) := by decide +kernel
theorem dL_law_555 : decode cL_law 555 = .ok (.iload 16, 2) := by decide +kernel
theorem dL_law_557 : decode cL_law 557 = .ok (.iaload, 1) := by decide +kernel
theorem dL_law_558 : decode cL_law 558 = .ok (.iadd, 1) := by decide +kernel
theorem dL_law_559 : decode cL_law 559 = .ok (.istore 17, 2) := by decide +kernel
theorem dL_law_561 : decode cL_law 561 = .ok (.aload_n 1, 1) := by decide +kernel
theorem dL_law_562 : decode cL_law 562 = .ok (.iload 7, 2) := by decide +kernel
theorem dL_law_564 : decode cL_law 564 = .ok (.iload 16, 2) := by decide +kernel
theorem dL_law_566 : decode cL_law 566 = .ok (.iadd, 1) := by decide +kernel
theorem dL_law_567 : decode cL_law 567 = .ok (.iload 11, 2) := by decide +kernel
theorem dL_law_569 : decode cL_law 569 = .ok (.iconst 0, 1) := by decide +kernel
theorem dL_law_570 : decode cL_law 570 = .ok (.invokevirtual 47, 3) := by decide +kernel
theorem dL_law_573 : decode cL_law 573 = .ok (.iload 17, 2) := by decide +kernel
theorem dL_law_575 : decode cL_law 575 = .ok (.if_icmp .eq 5, 3) := by decide +kernel
theorem dL_law_578 : decode cL_law 578 = .ok (.iconst 0, 1) := by decide +kernel
theorem dL_law_579 : decode cL_law 579 = .ok (.ireturn, 1) := by decide +kernel
theorem dL_law_580 : decode cL_law 580 = .ok (.iconst 0, 1) := by decide +kernel
theorem dL_law_581 : decode cL_law 581 = .ok (.istore 18, 2) := by decide +kernel
theorem dL_law_583 : decode cL_law 583 = .ok (.iload 18, 2) := by decide +kernel
theorem dL_law_585 : decode cL_law 585 = .ok (.iconst 3, 1) := by decide +kernel
theorem dL_law_586 : decode cL_law 586 = .ok (.if_icmp .ge 37, 3) := by decide +kernel
theorem dL_law_589 : decode cL_law 589 = .ok (.aload_n 1, 1) := by decide +kernel
theorem dL_law_590 : decode cL_law 590 = .ok (.iload 7, 2) := by decide +kernel
theorem dL_law_592 : decode cL_law 592 = .ok (.iload 16, 2) := by decide +kernel
theorem dL_law_594 : decode cL_law 594 = .ok (.iadd, 1) := by decide +kernel
theorem dL_law_595 : decode cL_law 595 = .ok (.iload 11, 2) := by decide +kernel
theorem dL_law_597 : decode cL_law 597 = .ok (.iconst 1, 1) := by decide +kernel
theorem dL_law_598 : decode cL_law 598 = .ok (.iload 18, 2) := by decide +kernel
theorem dL_law_600 : decode cL_law 600 = .ok (.iadd, 1) := by decide +kernel
theorem dL_law_601 : decode cL_law 601 = .ok (.invokevirtual 47, 3) := by decide +kernel
theorem dL_law_604 : decode cL_law 604 = .ok (.aload 12, 2) := by decide +kernel
theorem dL_law_606 : decode cL_law 606 = .ok (.iload 18, 2) := by decide +kernel
theorem dL_law_608 : decode cL_law 608 = .ok (.aaload, 1) := by decide +kernel
theorem dL_law_609 : decode cL_law 609 = .ok (.iload 16, 2) := by decide +kernel
theorem dL_law_611 : decode cL_law 611 = .ok (.iaload, 1) := by decide +kernel
theorem dL_law_612 : decode cL_law 612 = .ok (.if_icmp .eq 5, 3) := by decide +kernel
theorem dL_law_615 : decode cL_law 615 = .ok (.iconst 0, 1) := by decide +kernel
theorem dL_law_616 : decode cL_law 616 = .ok (.ireturn, 1) := by decide +kernel
theorem dL_law_617 : decode cL_law 617 = .ok (.iinc 18 1, 3) := by decide +kernel
theorem dL_law_620 : decode cL_law 620 = .ok (.goto (-37), 3) := by decide +kernel
theorem dL_law_623 : decode cL_law 623 = .ok (.iinc 16 1, 3) := by decide +kernel
theorem dL_law_626 : decode cL_law 626 = .ok (.goto (-97), 3) := by decide +kernel
theorem dL_law_629 : decode cL_law 629 = .ok (.aload_n 1, 1) := by decide +kernel
theorem dL_law_630 : decode cL_law 630 = .ok (.iload 7, 2) := by decide +kernel
theorem dL_law_632 : decode cL_law 632 = .ok (.iload 9, 2) := by decide +kernel
theorem dL_law_634 : decode cL_law 634 = .ok (.iconst 1, 1) := by decide +kernel
theorem dL_law_635 : decode cL_law 635 = .ok (.iadd, 1) := by decide +kernel
theorem dL_law_636 : decode cL_law 636 = .ok (.iconst 0, 1) := by decide +kernel
theorem dL_law_637 : decode cL_law 637 = .ok (.invokevirtual 47, 3) := by decide +kernel
theorem dL_law_640 : decode cL_law 640 = .ok (.iconst (-1), 1) := by decide +kernel
theorem dL_law_641 : decode cL_law 641 = .ok (.if_icmp .ne 15, 3) := by decide +kernel
theorem dL_law_644 : decode cL_law 644 = .ok (.aload_n 1, 1) := by decide +kernel
theorem dL_law_645 : decode cL_law 645 = .ok (.iload 7, 2) := by decide +kernel
theorem dL_law_647 : decode cL_law 647 = .ok (.iconst 0, 1) := by decide +kernel
theorem dL_law_648 : decode cL_law 648 = .ok (.iconst 0, 1) := by decide +kernel
theorem dL_law_649 : decode cL_law 649 = .ok (.invokevirtual 47, 3) := by decide +kernel
theorem dL_law_652 : decode cL_law 652 = .ok (.iconst (-1), 1) := by decide +kernel
theorem dL_law_653 : decode cL_law 653 = .ok (.if_icmp .eq 5, 3) := by decide +kernel
theorem dL_law_656 : decode cL_law 656 = .ok (.iconst 0, 1) := by decide +kernel
theorem dL_law_657 : decode cL_law 657 = .ok (.ireturn, 1) := by decide +kernel
theorem dL_law_658 : decode cL_law 658 = .ok (.iload 11, 2) := by decide +kernel
theorem dL_law_660 : decode cL_law 660 = .ok (.sipush 1000, 3) := by decide +kernel
theorem dL_law_663 : decode cL_law 663 = .ok (.invokestatic 42, 3) := by decide +kernel
theorem dL_law_666 : decode cL_law 666 = .ok (.istore 16, 2) := by decide +kernel
theorem dL_law_668 : decode cL_law 668 = .ok (.iload 16, 2) := by decide +kernel
theorem dL_law_670 : decode cL_law 670 = .ok (.iload 11, 2) := by decide +kernel
theorem dL_law_672 : decode cL_law 672 = .ok (.if_icmp .ge 5, 3) := by decide +kernel
theorem dL_law_675 : decode cL_law 675 = .ok (.iconst 1, 1) := by decide +kernel
theorem dL_law_676 : decode cL_law 676 = .ok (.ireturn, 1) := by decide +kernel
theorem dL_law_677 : decode cL_law 677 = .ok (.aload_n 1, 1) := by decide +kernel
theorem dL_law_678 : decode cL_law 678 = .ok (.bipush 9, 2) := by decide +kernel
theorem dL_law_680 : decode cL_law 680 = .ok (.iconst 1, 1) := by decide +kernel
theorem dL_law_681 : decode cL_law 681 = .ok (.iload 4, 2) := by decide +kernel
theorem dL_law_683 : decode cL_law 683 = .ok (.isub, 1) := by decide +kernel
theorem dL_law_684 : decode cL_law 684 = .ok (.bipush 100, 2) := by decide +kernel
theorem dL_law_686 : decode cL_law 686 = .ok (.iload 11, 2) := by decide +kernel
theorem dL_law_688 : decode cL_law 688 = .ok (.iconst 0, 1) := by decide +kernel
theorem dL_law_689 : decode cL_law 689 = .ok (.invokevirtual 32, 3) := by decide +kernel
theorem dL_law_692 : decode cL_law 692 = .ok (.istore 17, 2) := by decide +kernel
theorem dL_law_694 : decode cL_law 694 = .ok (.iload 17, 2) := by decide +kernel
theorem dL_law_696 : decode cL_law 696 = .ok (.iload 7, 2) := by decide +kernel
theorem dL_law_698 : decode cL_law 698 = .ok (.iload 5, 2) := by decide +kernel
theorem dL_law_700 : decode cL_law 700 = .ok (.iadd, 1) := by decide +kernel
theorem dL_law_701 : decode cL_law 701 = .ok (.if_icmp .eq 5, 3) := by decide +kernel
theorem dL_law_704 : decode cL_law 704 = .ok (.iconst 0, 1) := by decide +kernel
theorem dL_law_705 : decode cL_law 705 = .ok (.ireturn, 1) := by decide +kernel
theorem dL_law_706 : decode cL_law 706 = .ok (.iconst 0, 1) := by decide +kernel
theorem dL_law_707 : decode cL_law 707 = .ok (.istore 18, 2) := by decide +kernel
theorem dL_law_709 : decode cL_law 709 = .ok (.iconst 2, 1) := by decide +kernel
theorem dL_law_710 : decode cL_law 710 = .ok (.istore 19, 2) := by decide +kernel
theorem dL_law_712 : decode cL_law 712 = .ok (.iload 19, 2) := by decide +kernel
theorem dL_law_714 : decode cL_law 714 = .ok (.ifCond .lt 114, 3) := by decide +kernel
theorem dL_law_717 : decode cL_law 717 = .ok (.iload 5, 2) := by decide +kernel
theorem dL_law_719 : decode cL_law 719 = .ok (.iconst 1, 1) := by decide +kernel
theorem dL_law_720 : decode cL_law 720 = .ok (.isub, 1) := by decide +kernel
theorem dL_law_721 : decode cL_law 721 = .ok (.istore 20, 2) := by decide +kernel
theorem dL_law_723 : decode cL_law 723 = .ok (.iload 20, 2) := by decide +kernel
theorem dL_law_725 : decode cL_law 725 = .ok (.ifCond .lt 97, 3) := by decide +kernel
theorem dL_law_728 : decode cL_law 728 = .ok (.aload 12, 2) := by decide +kernel
theorem dL_law_730 : decode cL_law 730 = .ok (.iload 19, 2) := by decide +kernel
theorem dL_law_732 : decode cL_law 732 = .ok (.aaload, 1) := by decide +kernel
theorem dL_law_733 : decode cL_law 733 = .ok (.iload 20, 2) := by decide +kernel
theorem dL_law_735 : decode cL_law 735 = .ok (.iaload, 1) := by decide +kernel
theorem dL_law_736 : decode cL_law 736 = .ok (.ifCond .ne 6, 3) := by decide +kernel
theorem dL_law_739 : decode cL_law 739 = .ok (.goto 77, 3) := by decide +kernel
theorem dL_law_742 : decode cL_law 742 = .ok (.aload_n 1, 1) := by decide +kernel
theorem dL_law_743 : decode cL_law 743 = .ok (.iload 18, 2) := by decide +kernel
theorem dL_law_745 : decode cL_law 745 = .ok (.iconst 0, 1) := by decide +kernel
theorem dL_law_746 : decode cL_law 746 = .ok (.invokevirtual 51, 3) := by decide +kernel
theorem dL_law_749 : decode cL_law 749 = .ok (.iload 7, 2) := by decide +kernel
theorem dL_law_751 : decode cL_law 751 = .ok (.iload 20, 2) := by decide +kernel
theorem dL_law_753 : decode cL_law 753 = .ok (.iadd, 1) := by decide +kernel
theorem dL_law_754 : decode cL_law 754 = .ok (.if_icmp .ne 57, 3) := by decide +kernel
theorem dL_law_757 : decode cL_law 757 = .ok (.aload_n 1, 1) := by decide +kernel
theorem dL_law_758 : decode cL_law 758 = .ok (.iload 18, 2) := by decide +kernel
theorem dL_law_760 : decode cL_law 760 = .ok (.iconst 1, 1) := by decide +kernel
theorem dL_law_761 : decode cL_law 761 = .ok (.invokevirtual 51, 3) := by decide +kernel
theorem dL_law_764 : decode cL_law 764 = .ok (.iload 17, 2) := by decide +kernel
theorem dL_law_766 : decode cL_law 766 = .ok (.if_icmp .ne 45, 3) := by decide +kernel
theorem dL_law_769 : decode cL_law 769 = .ok (.aload_n 1, 1) := by decide +kernel
theorem dL_law_770 : decode cL_law 770 = .ok (.iload 18, 2) := by decide +kernel
theorem dL_law_772 : decode cL_law 772 = .ok (.iconst 2, 1) := by decide +kernel
theorem dL_law_773 : decode cL_law 773 = .ok (.invokevirtual 51, 3) := by decide +kernel
theorem dL_law_776 : decode cL_law 776 = .ok (.bipush 100, 2) := by decide +kernel
theorem dL_law_778 : decode cL_law 778 = .ok (.if_icmp .ne 33, 3) := by decide +kernel
theorem dL_law_781 : decode cL_law 781 = .ok (.aload_n 1, 1) := by decide +kernel
theorem dL_law_782 : decode cL_law 782 = .ok (.iload 18, 2) := by decide +kernel
theorem dL_law_784 : decode cL_law 784 = .ok (.iconst 3, 1) := by decide +kernel
theorem dL_law_785 : decode cL_law 785 = .ok (.invokevirtual 51, 3) := by decide +kernel
theorem dL_law_788 : decode cL_law 788 = .ok (.aload 12, 2) := by decide +kernel
theorem dL_law_790 : decode cL_law 790 = .ok (.iload 19, 2) := by decide +kernel
theorem dL_law_792 : decode cL_law 792 = .ok (.aaload, 1) := by decide +kernel
theorem dL_law_793 : decode cL_law 793 = .ok (.iload 20, 2) := by decide +kernel
theorem dL_law_795 : decode cL_law 795 = .ok (.iaload, 1) := by decide +kernel
theorem dL_law_796 : decode cL_law 796 = .ok (.if_icmp .ne 15, 3) := by decide +kernel
theorem dL_law_799 : decode cL_law 799 = .ok (.aload_n 1, 1) := by decide +kernel
theorem dL_law_800 : decode cL_law 800 = .ok (.iload 18, 2) := by decide +kernel
theorem dL_law_802 : decode cL_law 802 = .ok (.iconst 4, 1) := by decide +kernel
theorem dL_law_803 : decode cL_law 803 = .ok (.invokevirtual 51, 3) := by decide +kernel
theorem dL_law_806 : decode cL_law 806 = .ok (.iload 19, 2) := by decide +kernel
theorem dL_law_808 : decode cL_law 808 = .ok (.if_icmp .eq 5, 3) := by decide +kernel
theorem dL_law_811 : decode cL_law 811 = .ok (.iconst 0, 1) := by decide +kernel
theorem dL_law_812 : decode cL_law 812 = .ok (.ireturn, 1) := by decide +kernel
theorem dL_law_813 : decode cL_law 813 = .ok (.iinc 18 1, 3) := by decide +kernel
theorem dL_law_816 : decode cL_law 816 = .ok (.iinc 20 (-1), 3) := by decide +kernel
theorem dL_law_819 : decode cL_law 819 = .ok (.goto (-96), 3) := by decide +kernel
theorem dL_law_822 : decode cL_law 822 = .ok (.iinc 19 (-1), 3) := by decide +kernel
theorem dL_law_825 : decode cL_law 825 = .ok (.goto (-113), 3) := by decide +kernel
theorem dL_law_828 : decode cL_law 828 = .ok (.iconst 0, 1) := by decide +kernel
theorem dL_law_829 : decode cL_law 829 = .ok (.istore 19, 2) := by decide +kernel
theorem dL_law_831 : decode cL_law 831 = .ok (.iload 19, 2) := by decide +kernel
theorem dL_law_833 : decode cL_law 833 = .ok (.iload 5, 2) := by decide +kernel
theorem dL_law_835 : decode cL_law 835 = .ok (.if_icmp .ge 56, 3) := by decide +kernel
theorem dL_law_838 : decode cL_law 838 = .ok (.aload 8, 2) := by decide +kernel
theorem dL_law_840 : decode cL_law 840 = .ok (.iload 19, 2) := by decide +kernel
theorem dL_law_842 : decode cL_law 842 = .ok (.iaload, 1) := by decide +kernel
theorem dL_law_843 : decode cL_law 843 = .ok (.aload 12, 2) := by decide +kernel
theorem dL_law_845 : decode cL_law 845 = .ok (.iconst 0, 1) := by decide +kernel
theorem dL_law_846 : decode cL_law 846 = .ok (.aaload, 1) := by decide +kernel
theorem dL_law_847 : decode cL_law 847 = .ok (.iload 19, 2) := by decide +kernel
theorem dL_law_849 : decode cL_law 849 = .ok (.iaload, 1) := by decide +kernel
theorem dL_law_850 : decode cL_law 850 = .ok (.isub, 1) := by decide +kernel
theorem dL_law_851 : decode cL_law 851 = .ok (.aload 12, 2) := by decide +kernel
theorem dL_law_853 : decode cL_law 853 = .ok (.iconst 1, 1) := by decide +kernel
theorem dL_law_854 : decode cL_law 854 = .ok (.aaload, 1) := by decide +kernel
theorem dL_law_855 : decode cL_law 855 = .ok (.iload 19, 2) := by decide +kernel
theorem dL_law_857 : decode cL_law 857 = .ok (.iaload, 1) := by decide +kernel
theorem dL_law_858 : decode cL_law 858 = .ok (.isub, 1) := by decide +kernel
theorem dL_law_859 : decode cL_law 859 = .ok (.aload 12, 2) := by decide +kernel
theorem dL_law_861 : decode cL_law 861 = .ok (.iconst 2, 1) := by decide +kernel
theorem dL_law_862 : decode cL_law 862 = .ok (.aaload, 1) := by decide +kernel
theorem dL_law_863 : decode cL_law 863 = .ok (.iload 19, 2) := by decide +kernel
theorem dL_law_865 : decode cL_law 865 = .ok (.iaload, 1) := by decide +kernel
theorem dL_law_866 : decode cL_law 866 = .ok (.isub, 1) := by decide +kernel
theorem dL_law_867 : decode cL_law 867 = .ok (.istore 20, 2) := by decide +kernel
theorem dL_law_869 : decode cL_law 869 = .ok (.aload_n 1, 1) := by decide +kernel
theorem dL_law_870 : decode cL_law 870 = .ok (.iload 7, 2) := by decide +kernel
theorem dL_law_872 : decode cL_law 872 = .ok (.iload 19, 2) := by decide +kernel
theorem dL_law_874 : decode cL_law 874 = .ok (.iadd, 1) := by decide +kernel
theorem dL_law_875 : decode cL_law 875 = .ok (.invokestatic 54, 3) := by decide +kernel
theorem dL_law_878 : decode cL_law 878 = .ok (.iload 20, 2) := by decide +kernel
theorem dL_law_880 : decode cL_law 880 = .ok (.if_icmp .eq 5, 3) := by decide +kernel
theorem dL_law_883 : decode cL_law 883 = .ok (.iconst 0, 1) := by decide +kernel
theorem dL_law_884 : decode cL_law 884 = .ok (.ireturn, 1) := by decide +kernel
theorem dL_law_885 : decode cL_law 885 = .ok (.iinc 19 1, 3) := by decide +kernel
theorem dL_law_888 : decode cL_law 888 = .ok (.goto (-57), 3) := by decide +kernel
theorem dL_law_891 : decode cL_law 891 = .ok (.aload_n 1, 1) := by decide +kernel
theorem dL_law_892 : decode cL_law 892 = .ok (.bipush 7, 2) := by decide +kernel
theorem dL_law_894 : decode cL_law 894 = .ok (.invokevirtual 58, 3) := by decide +kernel
theorem dL_law_897 : decode cL_law 897 = .ok (.iload 18, 2) := by decide +kernel
theorem dL_law_899 : decode cL_law 899 = .ok (.if_icmp .ne 46, 3) := by decide +kernel
theorem dL_law_902 : decode cL_law 902 = .ok (.aload_n 1, 1) := by decide +kernel
theorem dL_law_903 : decode cL_law 903 = .ok (.bipush 8, 2) := by decide +kernel
theorem dL_law_905 : decode cL_law 905 = .ok (.invokevirtual 58, 3) := by decide +kernel
theorem dL_law_908 : decode cL_law 908 = .ok (.iload 11, 2) := by decide +kernel
theorem dL_law_910 : decode cL_law 910 = .ok (.if_icmp .ne 35, 3) := by decide +kernel
theorem dL_law_913 : decode cL_law 913 = .ok (.aload_n 1, 1) := by decide +kernel
theorem dL_law_914 : decode cL_law 914 = .ok (.iconst 2, 1) := by decide +kernel
theorem dL_law_915 : decode cL_law 915 = .ok (.invokevirtual 58, 3) := by decide +kernel
theorem dL_law_918 : decode cL_law 918 = .ok (.bipush 100, 2) := by decide +kernel
theorem dL_law_920 : decode cL_law 920 = .ok (.if_icmp .ne 25, 3) := by decide +kernel
theorem dL_law_923 : decode cL_law 923 = .ok (.aload_n 1, 1) := by decide +kernel
theorem dL_law_924 : decode cL_law 924 = .ok (.bipush 9, 2) := by decide +kernel
theorem dL_law_926 : decode cL_law 926 = .ok (.invokevirtual 61, 3) := by decide +kernel
theorem dL_law_929 : decode cL_law 929 = .ok (.iload 4, 2) := by decide +kernel
theorem dL_law_931 : decode cL_law 931 = .ok (.ifCond .ne 9, 3) := by decide +kernel
theorem dL_law_934 : decode cL_law 934 = .ok (.iload 11, 2) := by decide +kernel
theorem dL_law_936 : decode cL_law 936 = .ok (.ineg, 1) := by decide +kernel
theorem dL_law_937 : decode cL_law 937 = .ok (.goto 5, 3) := by decide +kernel
theorem dL_law_940 : decode cL_law 940 = .ok (.iload 11, 2) := by decide +kernel
theorem dL_law_942 : decode cL_law 942 = .ok (.if_icmp .eq 5, 3) := by decide +kernel
theorem dL_law_945 : decode cL_law 945 = .ok (.iconst 0, 1) := by decide +kernel
theorem dL_law_946 : decode cL_law 946 = .ok (.ireturn, 1) := by decide +kernel
theorem dL_law_947 : decode cL_law 947 = .ok (.iload 10, 2) := by decide +kernel
theorem dL_law_949 : decode cL_law 949 = .ok (.ifCond .eq 26, 3) := by decide +kernel
theorem dL_law_952 : decode cL_law 952 = .ok (.aload_n 1, 1) := by decide +kernel
theorem dL_law_953 : decode cL_law 953 = .ok (.iload 7, 2) := by decide +kernel
theorem dL_law_955 : decode cL_law 955 = .ok (.invokestatic 54, 3) := by decide +kernel
theorem dL_law_958 : decode cL_law 958 = .ok (.ifCond .le 17, 3) := by decide +kernel
theorem dL_law_961 : decode cL_law 961 = .ok (.iload_n 2, 1) := by decide +kernel
theorem dL_law_962 : decode cL_law 962 = .ok (.aload 12, 2) := by decide +kernel
theorem dL_law_964 : decode cL_law 964 = .ok (.iconst 0, 1) := by decide +kernel
theorem dL_law_965 : decode cL_law 965 = .ok (.aaload, 1) := by decide +kernel
theorem dL_law_966 : decode cL_law 966 = .ok (.iconst 0, 1) := by decide +kernel
theorem dL_law_967 : decode cL_law 967 = .ok (.iaload, 1) := by decide +kernel
theorem dL_law_968 : decode cL_law 968 = .ok (.if_icmp .le 7, 3) := by decide +kernel
theorem dL_law_971 : decode cL_law 971 = .ok (.iconst 1, 1) := by decide +kernel
theorem dL_law_972 : decode cL_law 972 = .ok (.goto 4, 3) := by decide +kernel
theorem dL_law_975 : decode cL_law 975 = .ok (.iconst 0, 1) := by decide +kernel
theorem dL_law_976 : decode cL_law 976 = .ok (.istore 19, 2) := by decide +kernel
theorem dL_law_978 : decode cL_law 978 = .ok (.aload_n 1, 1) := by decide +kernel
theorem dL_law_979 : decode cL_law 979 = .ok (.iload 4, 2) := by decide +kernel
theorem dL_law_981 : decode cL_law 981 = .ok (.invokevirtual 29, 3) := by decide +kernel
theorem dL_law_984 : decode cL_law 984 = .ok (.iload 19, 2) := by decide +kernel
theorem dL_law_986 : decode cL_law 986 = .ok (.ifCond .eq 8, 3) := by decide +kernel
theorem dL_law_989 : decode cL_law 989 = .ok (.iload 7, 2) := by decide +kernel
theorem dL_law_991 : decode cL_law 991 = .ok (.goto 4, 3) := by decide +kernel
theorem dL_law_994 : decode cL_law 994 = .ok (.iconst (-1), 1) := by decide +kernel
theorem dL_law_995 : decode cL_law 995 = .ok (.if_icmp .ne 30, 3) := by decide +kernel
theorem dL_law_998 : decode cL_law 998 = .ok (.iload 19, 2) := by decide +kernel
theorem dL_law_1000 : decode cL_law 1000 = .ok (.ifCond .eq 21, 3) := by decide +kernel
theorem dL_law_1003 : decode cL_law 1003 = .ok (.aload_n 1, 1) := by decide +kernel
theorem dL_law_1004 : decode cL_law 1004 = .ok (.iload 7, 2) := by decide +kernel
theorem dL_law_1006 : decode cL_law 1006 = .ok (.iconst 5, 1) := by decide +kernel
theorem dL_law_1007 : decode cL_law 1007 = .ok (.invokevirtual 36, 3) := by decide +kernel
theorem dL_law_1010 : decode cL_law 1010 = .ok (.iload_n 2, 1) := by decide +kernel
theorem dL_law_1011 : decode cL_law 1011 = .ok (.aload 12, 2) := by decide +kernel
theorem dL_law_1013 : decode cL_law 1013 = .ok (.iconst 0, 1) := by decide +kernel
theorem dL_law_1014 : decode cL_law 1014 = .ok (.aaload, 1) := by decide +kernel
theorem dL_law_1015 : decode cL_law 1015 = .ok (.iconst 0, 1) := by decide +kernel
theorem dL_law_1016 : decode cL_law 1016 = .ok (.iaload, 1) := by decide +kernel
theorem dL_law_1017 : decode cL_law 1017 = .ok (.isub, 1) := by decide +kernel
theorem dL_law_1018 : decode cL_law 1018 = .ok (.if_icmp .ne 7, 3) := by decide +kernel
theorem dL_law_1021 : decode cL_law 1021 = .ok (.iconst 1, 1) := by decide +kernel
theorem dL_law_1022 : decode cL_law 1022 = .ok (.goto 4, 3) := by decide +kernel
theorem dL_law_1025 : decode cL_law 1025 = .ok (.iconst 0, 1) := by decide +kernel
theorem dL_law_1026 : decode cL_law 1026 = .ok (.ireturn, 1) := by decide +kernel
end
section
/-! MACHINE: the law's calls: the words of the called (printed; long rows cut) -/
set_option maxRecDepth 20000 in
theorem ggL_law_X7_init_h : GoodIn wsL_law0 [Cond.code yX7_init cX7_init 1 none] := goodIn_r _ [11] (by decide +kernel) (by decide +kernel)
set_option maxRecDepth 20000 in
theorem ggL_law_X7_init_1 : GoodIn wsL_law0 wsX7_init_r1 := goodIn_r _ [12, 13, 14, 15, 16, 17, 18, 19, 20, 21, 22, 23, 24, 25, 26, 27, 28, 29, 30, 31, 32, 33, 34, 35] (by decide +kernel) (by decide +kernel)
set_option maxRecDepth 20000 in
theorem ggL_law_X7_init_2 : GoodIn wsL_law0 wsX7_init_r2 := goodIn_r _ [36, 37, 38, 39, 40, 41, 42, 43, 44, 45, 46, 47, 48, 49, 50, 51, 52, 53, 54, 3, 55, 56, 57, 58] (by decide +kernel) (by decide +kernel)
set_option maxRecDepth 20000 in
theorem ggL_law_X7_init_3 : GoodIn wsL_law0 wsX7_init_r3 := goodIn_r _ [59, 60, 61, 62, 63, 64, 65, 66, 67, 68, 69, 70, 71, 72, 73, 74, 75, 76, 77, 78, 79, 80, 81, 82] (by decide +kernel) (by decide +kernel)
set_option maxRecDepth 20000 in
theorem ggL_law_X7_init_4 : GoodIn wsL_law0 wsX7_init_r4 := goodIn_r _ [83, 84, 85] (by decide +kernel) (by decide +kernel)
set_option maxRecDepth 20000 in
theorem ggL_law_X7_init_5 : GoodIn wsL_law0 wsX20 := goodIn_r _ [346, 347, 348, 349, 350, 351, 352, 353, 354, 355, 356, 357] (by decide +kernel) (by decide +kernel)
set_option maxRecDepth 20000 in
theorem ggL_law_X7_init_6 : GoodIn wsL_law0 wsX70 := goodIn_r _ [343, 344, 345] (by decide +kernel) (by decide +kernel)
set_option maxRecDepth 20000 in
theorem ggL_law_X7_init_7 : GoodIn wsL_law0 wsX60 := goodIn_r _ [358, 359, 360, 361, 362, 363, 364, 365, 366, 367, 368, 369] (by decide +kernel) (by decide +kernel)
set_option maxRecDepth 20000 in
theorem ggL_law_X7_init_8 : GoodIn wsL_law0 wsX00 := goodIn_r _ [370, 371, 372, 373] (by decide +kernel) (by decide +kernel)
set_option maxRecDepth 20000 in
theorem ggL_law_X7_init_9 : GoodIn wsL_law0 wsX30 := goodIn_r _ [374, 375, 376, 377, 378, 379, 380] (by decide +kernel) (by decide +kernel)
set_option maxRecDepth 20000 in
theorem ggL_law_X7_init_10 : GoodIn wsL_law0 wsX50 := goodIn_r _ [381, 382, 383, 384, 385, 386, 387, 388] (by decide +kernel) (by decide +kernel)
set_option maxRecDepth 20000 in
theorem ggL_law_X7_init_11 : GoodIn wsL_law0 wsX10 := goodIn_r _ [389, 390, 391] (by decide +kernel) (by decide +kernel)
set_option maxRecDepth 20000 in
theorem ggL_law_X7_init_12 : GoodIn wsL_law0 wsX40 := goodIn_r _ [392, 393, 394, 395, 396, 397] (by decide +kernel) (by decide +kernel)
theorem ggL_law_X7_init : GoodIn wsL_law0 wsX7_init := goodIn_app ggL_law_X7_init_h (goodIn_app (goodIn_app (goodIn_app (goodIn_app (goodIn_app (goodIn_app (goodIn_app (goodIn_app (goodIn_app ggL_law_X7_init_1 (goodIn_app ggL_law_X7_init_2 (goodIn_app ggL_law_X7_init_3 ggL_law_X7_init_4))) ggL_law_X7_init_5) ggL_law_X7_init_6) ggL_law_X7_init_7) ggL_law_X7_init_8) ggL_law_X7_init_9) ggL_law_X7_init_10) ggL_law_X7_init_11) ggL_law_X7_init_12)
set_option maxRecDepth 20000 in
theorem gL_law_X7_init : GoodIn wsL_law0 (wsX7_init) := ggL_law_X7_init
set_option maxRecDepth 20000 in
theorem ggL_law_L_some : GoodIn wsL_law0 wsL_some := goodIn_r _ [89, 90, 91, 92, 88, 93, 94] (by decide +kernel) (by decide +kernel)
set_option maxRecDepth 20000 in
theorem gL_law_L_some : GoodIn wsL_law0 (va_wsS RL 18 yL_some wsL_some) := goodIn_app (goodIn_r _ [86, 87, 88] (by decide +kernel) (by decide +kernel)) ggL_law_L_some
set_option maxRecDepth 20000 in
theorem ggL_law_X7_grant : GoodIn wsL_law0 wsX7_grant := goodIn_r _ [98, 18, 99, 343, 344, 345, 346, 347, 348, 349, 350, 351, 352, 353, 354, 355, 356, 357] (by decide +kernel) (by decide +kernel)
end
section
/-! MACHINE: the law's calls: the words of the called (printed; long rows cut) -/
set_option maxRecDepth 20000 in
theorem gL_law_X7_grant : GoodIn wsL_law0 (wsV RL 22 RX7 yX7_grant wsX7_grant) := goodIn_app (goodIn_r _ [95, 96, 97, 2] (by decide +kernel) (by decide +kernel)) ggL_law_X7_grant
set_option maxRecDepth 20000 in
theorem ggL_law_X7_least : GoodIn wsL_law0 wsX7_least := goodIn_r _ [103, 18, 104, 343, 344, 345, 346, 347, 348, 349, 350, 351, 352, 353, 354, 355, 356, 357] (by decide +kernel) (by decide +kernel)
set_option maxRecDepth 20000 in
theorem gL_law_X7_least : GoodIn wsL_law0 (wsV RL 26 RX7 yX7_least wsX7_least) := goodIn_app (goodIn_r _ [100, 101, 102, 2] (by decide +kernel) (by decide +kernel)) ggL_law_X7_least
set_option maxRecDepth 20000 in
theorem ggL_law_X7_top : GoodIn wsL_law0 wsX7_top := goodIn_r _ [108, 18, 109, 110, 111, 112, 2, 113, 343, 344, 345, 346, 347, 348, 349, 350, 351, 352, 353, 354, 355, 356, 357, 370, 371, 372, 373] (by decide +kernel) (by decide +kernel)
set_option maxRecDepth 20000 in
theorem gL_law_X7_top : GoodIn wsL_law0 (wsV RL 29 RX7 yX7_top wsX7_top) := goodIn_app (goodIn_r _ [105, 106, 107, 2] (by decide +kernel) (by decide +kernel)) ggL_law_X7_top
set_option maxRecDepth 20000 in
theorem ggL_law_X7_order_h : GoodIn wsL_law0 [Cond.code yX7_order cX7_order 6 (some .int)] := goodIn_r _ [117] (by decide +kernel) (by decide +kernel)
set_option maxRecDepth 20000 in
theorem ggL_law_X7_order_1 : GoodIn wsL_law0 wsX7_order_r1 := goodIn_r _ [18, 118, 119, 2, 120, 121, 122, 123, 124, 111, 112, 113, 125, 126, 127, 128, 129, 130, 131, 17, 132, 133, 30, 134] (by decide +kernel) (by decide +kernel)
set_option maxRecDepth 20000 in
theorem ggL_law_X7_order_2 : GoodIn wsL_law0 wsX7_order_r2 := goodIn_r _ [46, 135, 136, 137, 138, 29, 139, 140, 141, 142, 143, 45, 144, 145, 146, 147, 148, 149, 150, 151, 152, 153, 154, 155] (by decide +kernel) (by decide +kernel)
set_option maxRecDepth 20000 in
theorem ggL_law_X7_order_3 : GoodIn wsL_law0 wsX7_order_r3 := goodIn_r _ [156, 157, 158, 159, 160, 161, 162, 163, 164, 165, 54, 166, 167, 168, 169, 170, 171, 172, 173, 174, 175, 176, 177, 178] (by decide +kernel) (by decide +kernel)
set_option maxRecDepth 20000 in
theorem ggL_law_X7_order_4 : GoodIn wsL_law0 wsX7_order_r4 := goodIn_r _ [179, 180, 181, 182, 183, 184, 185, 186, 187, 6, 7, 8, 188, 189, 190, 191, 192, 193, 194, 195, 196, 197, 55, 198] (by decide +kernel) (by decide +kernel)
set_option maxRecDepth 20000 in
theorem ggL_law_X7_order_5 : GoodIn wsL_law0 wsX7_order_r5 := goodIn_r _ [56, 199, 200, 201, 202, 38, 203, 48, 204, 205, 206, 207, 34, 208, 209, 210, 211, 37, 212, 213, 214, 215, 216, 217] (by decide +kernel) (by decide +kernel)
set_option maxRecDepth 20000 in
theorem ggL_law_X7_order_6 : GoodIn wsL_law0 wsX7_order_r6 := goodIn_r _ [218, 219, 220, 221, 222, 223, 224, 225, 226, 72, 73, 74, 227, 228, 229, 230, 75, 231, 76, 77, 232, 233, 234, 235] (by decide +kernel) (by decide +kernel)
set_option maxRecDepth 20000 in
theorem ggL_law_X7_order_7 : GoodIn wsL_law0 wsX7_order_r7 := goodIn_r _ [236, 237, 238, 239, 240, 241, 242, 243, 244, 245, 246, 247, 33, 248, 64, 249, 250, 251, 252, 253, 254, 255, 256, 65] (by decide +kernel) (by decide +kernel)
set_option maxRecDepth 20000 in
theorem ggL_law_X7_order_8 : GoodIn wsL_law0 wsX7_order_r8 := goodIn_r _ [67, 257, 258, 259, 260, 261, 47, 262, 263, 264, 265, 266, 267, 268, 269, 270, 271, 272, 273, 274, 275] (by decide +kernel) (by decide +kernel)
set_option maxRecDepth 20000 in
theorem ggL_law_X7_order_9 : GoodIn wsL_law0 wsX70 := goodIn_r _ [343, 344, 345] (by decide +kernel) (by decide +kernel)
set_option maxRecDepth 20000 in
theorem ggL_law_X7_order_10 : GoodIn wsL_law0 wsX20 := goodIn_r _ [346, 347, 348, 349, 350, 351, 352, 353, 354, 355, 356, 357] (by decide +kernel) (by decide +kernel)
set_option maxRecDepth 20000 in
theorem ggL_law_X7_order_11 : GoodIn wsL_law0 wsX40 := goodIn_r _ [392, 393, 394, 395, 396, 397] (by decide +kernel) (by decide +kernel)
set_option maxRecDepth 20000 in
theorem ggL_law_X7_order_12 : GoodIn wsL_law0 wsX00 := goodIn_r _ [370, 371, 372, 373] (by decide +kernel) (by decide +kernel)
set_option maxRecDepth 20000 in
theorem ggL_law_X7_order_13 : GoodIn wsL_law0 wsX50 := goodIn_r _ [381, 382, 383, 384, 385, 386, 387, 388] (by decide +kernel) (by decide +kernel)
set_option maxRecDepth 20000 in
theorem ggL_law_X7_order_14 : GoodIn wsL_law0 wsX30 := goodIn_r _ [374, 375, 376, 377, 378, 379, 380] (by decide +kernel) (by decide +kernel)
theorem ggL_law_X7_order : GoodIn wsL_law0 wsX7_order := goodIn_app ggL_law_X7_order_h (goodIn_app (goodIn_app (goodIn_app (goodIn_app (goodIn_app (goodIn_app (goodIn_app ggL_law_X7_order_1 (goodIn_app ggL_law_X7_order_2 (goodIn_app ggL_law_X7_order_3 (goodIn_app ggL_law_X7_order_4 (goodIn_app ggL_law_X7_order_5 (goodIn_app ggL_law_X7_order_6 (goodIn_app ggL_law_X7_order_7 ggL_law_X7_order_8))))))) ggL_law_X7_order_9) ggL_law_X7_order_10) ggL_law_X7_order_11) ggL_law_X7_order_12) ggL_law_X7_order_13) ggL_law_X7_order_14)
end
section
/-! MACHINE: the law's calls: the words of the called (printed; long rows cut) -/
set_option maxRecDepth 20000 in
theorem gL_law_X7_order : GoodIn wsL_law0 (wsV RL 32 RX7 yX7_order wsX7_order) := goodIn_app (goodIn_r _ [114, 115, 116, 2] (by decide +kernel) (by decide +kernel)) ggL_law_X7_order
set_option maxRecDepth 20000 in
theorem ggL_law_Y_of : GoodIn wsM_law wsY_of := goodIn_ca (goodIn_r _ [279, 280, 281, 18, 109, 282, 283, 284, 285, 286, 287, 288, 289, 29, 290, 140, 54, 198, 291, 220, 221, 222, 55, 166, 56, 343, 344, 345, 346, 347, 348, 349, 350, 351, 352, 353, 354, 355, 356, 357, 392, 393, 394, 395, 396, 397, 370, 371, 372, 373] (by decide +kernel) (by decide +kernel)) (goodIn_sub (fun _ h => List.mem_append_right _ h) (by decide +kernel))
end
section
/-! MACHINE: the law's calls: the words of the called (printed; long rows cut) -/
set_option maxRecDepth 20000 in
theorem gL_law_Y_of : GoodIn wsM_law (wsV RL 36 RX7 yX7_of wsY_of) := goodIn_app (goodIn_r _ [276, 277, 278, 2] (by decide +kernel) (by decide +kernel)) ggL_law_Y_of
set_option maxRecDepth 20000 in
theorem ggL_law_X7_share : GoodIn wsL_law0 wsX7_share := goodIn_r _ [295, 18, 109, 296, 283, 284, 297, 104, 287, 288, 289, 29, 290, 140, 54, 198, 298, 210, 211, 37, 212, 213, 214, 215, 216, 217, 218, 178, 179, 180, 166, 167, 219, 220, 221, 222, 55, 56, 223, 224, 225, 226, 72, 73, 74, 299, 228, 229, 230, 75, 231, 6, 7, 8, 76, 77, 232, 233, 234, 300, 301, 302, 303, 304, 305, 306, 307, 343, 344, 345, 346, 347, 348, 349, 350, 351, 352, 353, 354, 355, 356, 357, 392, 393, 394, 395, 396, 397, 381, 382, 383, 384, 385, 386, 387, 388, 370, 371, 372, 373] (by decide +kernel) (by decide +kernel)
set_option maxRecDepth 20000 in
theorem gL_law_X7_share : GoodIn wsL_law0 (wsV RL 47 RX7 yX7_share wsX7_share) := goodIn_app (goodIn_r _ [292, 293, 294, 2] (by decide +kernel) (by decide +kernel)) ggL_law_X7_share
set_option maxRecDepth 20000 in
theorem ggL_law_X7_trade : GoodIn wsL_law0 wsX7_trade := goodIn_r _ [311, 18, 312, 313, 314, 315, 316, 33, 317, 64, 249, 318, 319, 320, 321, 343, 344, 345, 346, 347, 348, 349, 350, 351, 352, 353, 354, 355, 356, 357, 374, 375, 376, 377, 378, 379, 380] (by decide +kernel) (by decide +kernel)
end
section
/-! MACHINE: the law's calls: the words of the called (printed; long rows cut) -/
set_option maxRecDepth 20000 in
theorem gL_law_X7_trade : GoodIn wsL_law0 (wsV RL 51 RX7 yX7_trade wsX7_trade) := goodIn_app (goodIn_r _ [308, 309, 310, 2] (by decide +kernel) (by decide +kernel)) ggL_law_X7_trade
set_option maxRecDepth 20000 in
theorem ggL_law_L_size : GoodIn wsM_law wsM_size := goodIn_ca (goodIn_r _ [324, 325, 276, 277, 278, 2, 279, 280, 281, 18, 109, 282, 283, 284, 285, 286, 287, 288, 289, 29, 290, 140, 54, 198, 291, 220, 221, 222, 55, 166, 56, 343, 344, 345, 346, 347, 348, 349, 350, 351, 352, 353, 354, 355, 356, 357, 392, 393, 394, 395, 396, 397, 370, 371, 372, 373] (by decide +kernel) (by decide +kernel)) (goodIn_sub (fun _ h => List.mem_append_right _ h) (by decide +kernel))
set_option maxRecDepth 20000 in
theorem gL_law_L_size : GoodIn wsM_law (va_wsS RL 54 yL_size wsM_size) := goodIn_app (goodIn_r _ [322, 323, 88] (by decide +kernel) (by decide +kernel)) ggL_law_L_size
set_option maxRecDepth 20000 in
theorem ggL_law_X7_count : GoodIn wsL_law0 wsX7_count := goodIn_r _ [329, 18, 109, 330, 331, 312, 332, 99, 104, 333, 23, 334, 313, 335, 336, 337, 343, 344, 345, 346, 347, 348, 349, 350, 351, 352, 353, 354, 355, 356, 357, 370, 371, 372, 373, 374, 375, 376, 377, 378, 379, 380, 358, 359, 360, 361, 362, 363, 364, 365, 366, 367, 368, 369] (by decide +kernel) (by decide +kernel)
set_option maxRecDepth 20000 in
theorem gL_law_X7_count : GoodIn wsL_law0 (wsV RL 58 RX7 yX7_count wsX7_count) := goodIn_app (goodIn_r _ [326, 327, 328, 2] (by decide +kernel) (by decide +kernel)) ggL_law_X7_count
set_option maxRecDepth 20000 in
theorem ggL_law_Y_position : GoodIn wsM_law wsY_position := goodIn_ca (goodIn_r _ [341, 280, 281, 18, 312, 342, 122, 123, 2, 124, 343, 344, 345, 346, 347, 348, 349, 350, 351, 352, 353, 354, 355, 356, 357, 374, 375, 376, 377, 378, 379, 380] (by decide +kernel) (by decide +kernel)) (goodIn_sub (fun _ h => List.mem_append_right _ h) (by decide +kernel))
set_option maxRecDepth 20000 in
theorem gL_law_Y_position : GoodIn wsM_law (wsV RL 61 RX7 yX7_position wsY_position) := goodIn_app (goodIn_r _ [338, 339, 340, 2] (by decide +kernel) (by decide +kernel)) ggL_law_Y_position
end
