/-! MACHINE: the constructor of the book -/
theorem k_csv {p : Program} {l : Launch} {e : Env} {R : Room} {s : State} {m : MethodId} {args : Array Value} {below : List Frame} {meth : Method} {c : Code} {H : Heap} {locs : List Loc} {cells slots : Nat} {Q : State → Prop} {pc : Nat} {ls : Array Slot} {rest st0 : List Value} {a : Array Value} {post : Unit → Prop} (hr : va_Run p l e R s m args below meth c H locs cells slots 0 0 (F0 m pc ls st0) rest (va_Sv post a) (fun _ => False))
    (kk : post () → W p l e R s m args below meth c H locs cells slots Q (F0 m (pc + 3) ls rest)) : W p l e R s m args below meth c H locs cells slots Q (F0 m pc ls st0) := by
  intro T hT X
  obtain ⟨v, st₀, t, T', L, h0, X', hL, e1, e2, ⟨hv, hp, hh⟩, st⟩ := hr T hT X
  cases hv
  obtain ⟨t2, a1, b1⟩ := kk hp T' (by rw [e1, hh, h0]) (Stand.forget X' (fun q h => (hL q h).elim))
  exact ⟨t2, st t2 a1, b1⟩
/-- a call's cells are the last of the world's -/
theorem k_join {A0 : Nat → Prop} {D : va_G} {cl : List vw_C} {X w1 : va_W} {x : Nat × va_E} {H H1 : Heap} (hP : va_P D cl (X ++ [x]) H) (hD : va_D A0 (X ++ [x])) (hk : ∀ q : Nat, q < H.size → ¬ va_A [x] H.size q → H1[q]? = H[q]?) (hF : ∀ q, va_A [x] H.size q → A0 q) (hP1 : va_P D cl w1 H1) (hD1 : va_D (va_A [x] H.size) w1) : va_P D cl (X ++ w1) H1 ∧ va_D A0 (X ++ w1) := by
  have up : ∀ (k : Nat) (q : Nat × va_E), X[k]? = some q → (X ++ [x])[k]? = some q ∧ k < X.length := by
    intro k q hq
    have hl : k < X.length := (List.getElem?_eq_some_iff.mp hq).1
    exact ⟨by rw [List.getElem?_append_left hl]; exact hq, hl⟩
  have lst : (X ++ [x])[X.length]? = some x := by rw [List.getElem?_append_right (Nat.le_refl _), Nat.sub_self]; rfl
  have apart : ∀ (k : Nat) (q : Nat × va_E), X[k]? = some q → q.1 < H.size ∧ ¬ va_A [x] H.size q.1 := by
    intro k q hq
    obtain ⟨h1, h2⟩ := up k q hq
    have hl := (hP k q h1).lt
    refine ⟨hl, fun h => ?_⟩
    rcases h with ⟨k2, e, h⟩ | h
    · have hx : x = (q.1, e) := by
        cases k2 with
        | zero => exact Option.some.inj h
        | succ k2 => simp at h
      have := hD.1 k X.length q x h1 lst (by rw [hx])
      omega
    · omega
  refine ⟨va_P.app (fun k q hq => ?_) hP1, va_D.app ⟨fun i j a b ha hb hab => hD.1 i j a b (up i a ha).1 (up j b hb).1 hab, fun k q hq => hD.2 k q (up k q hq).1⟩ (hD1.weaken (fun k q _ h => hF q.1 h)) (fun i j a b ha hb hab => ?_)⟩
  · obtain ⟨g1, g2⟩ := apart k q hq
    exact (hP k q (up k q hq).1).kept (hk q.1 g1 g2)
  · exact (apart i a ha).2 (by rw [hab]; exact hD1.2 j b hb)
theorem k_free {A0 : Nat → Prop} {X : va_W} {x : Nat × va_E} {H0 H : Heap} {locs : List Loc} (hD : va_D A0 (X ++ [x])) (hS : va_S A0 H0 H locs) (hA : ∀ q, H0.size ≤ q → A0 q) : ∀ q, va_A [x] H.size q → A0 q := by
  intro q h
  rcases h with ⟨k2, e, h⟩ | h
  · have hx : x = (q, e) := by
      cases k2 with
      | zero => exact Option.some.inj h
      | succ k2 => simp at h
    have := hD.2 X.length x (by rw [List.getElem?_append_right (Nat.le_refl _), Nat.sub_self]; rfl)
    rw [hx] at this
    exact this
  · exact hA q (Nat.le_trans hS.1 h)
theorem k_lastP {D : va_G} {cl : List vw_C} {X : va_W} {x : Nat × va_E} {H : Heap} (hP : va_P D cl (X ++ [x]) H) : va_P D cl [x] H := by
  intro k q hq
  cases k with
  | zero => exact hP X.length q (by rw [List.getElem?_append_right (Nat.le_refl _), Nat.sub_self]; exact hq)
  | succ k => simp at hq
theorem k_lastD {A : Nat → Prop} {X : va_W} {x : Nat × va_E} (hD : va_D A (X ++ [x])) : va_D (fun _ => True) [x] := by
  refine ⟨fun i j a b ha hb _ => ?_, fun _ _ _ => trivial⟩
  cases i with
  | zero =>
    cases j with
    | zero => rfl
    | succ j => simp at hb
  | succ i => simp at ha
abbrev z4 : va_E := .inr (4, [.int 0, .int 0, .int 0, .int 0, .int 0, .int 0])
abbrev z2i (c1 : ClassId) : va_E := .inl (c1, (2, .inl (fun _ => 0)))
abbrev uB : Type := Nat × List Nat × Nat × Nat
abbrev wB0 (h0 : Nat) : va_W := [(h0, .inr (0, [.null, .int 0, .null, .null]))]
abbrev wRow (c4 : ClassId) (q : Nat) (L : List Nat) : Nat × va_E := (q, .inl (c4, 60, .inr (.inr (.inr (.inr (fun j => L[j]?))))))
def wCB (c1 c4 : ClassId) (h0 : Nat) (u : uB) : va_W := (h0, .inr (0, [.ref u.1, .int 0, .ref u.2.2.1, .ref u.2.2.2])) :: wRow c4 u.1 u.2.1 :: (u.2.2.1, z2i c1) :: (u.2.2.2, z2i c1) :: u.2.1.map (fun a => (a, z4))
theorem k_row_up {L : List Nat} {q : Nat} {i : Int32} (hi : i.toNatClampNeg = L.length) : va_up (fun j => L[j]?) i.toNatClampNeg (some q) = fun j => (L ++ [q])[j]? := by
  funext j
  rw [hi]
  by_cases h : j = L.length
  · subst h
    rw [List.getElem?_append_right (Nat.le_refl _), Nat.sub_self]
    simp [va_up]
  · simp only [va_up, h, if_false]
    by_cases h2 : j < L.length
    · rw [List.getElem?_append_left h2]
    · rw [List.getElem?_eq_none (by omega), List.getElem?_eq_none (by simp; omega)]
set_option maxHeartbeats 8000000 in
set_option maxRecDepth 100000 in
theorem X0_loop {p : Program} {l : Launch} {e : Env} {R : Room} {s : State} {m : MethodId} {args : Array Value} {below : List Frame} {meth : Method} {c : Code} {Q : State → Prop} {D : va_G} {c1 c4 : ClassId} {h0 qr qt qg : Nat} {A : Nat → Prop} (hR : R = { frames := 2, cells := 63, slots := 424, locals := 33 }) (hx : p.tables.exec = Jvm.exec) (hb : c.code = cX0_init) (hml : c.maxLocals = 2) (hts : ∀ w ∈ wsX0_init, w.before args s = true) (hown : s.vm.findClass RX0 = some m.cls) (hA : ∀ q : Nat, s.heap.size ≤ q → A q) (hK : va_K D vwCl [(c1, .int), (c4, .object RX4)] s) (hN : va_Nw (.methodLinkNest RX0 24 yX4_init "ProRataMarket") s)
    (kk : ∀ (L : List Nat) (H : Heap) (locs : List Loc) (ls : Array Slot), L.length = 60 → va_P D vwCl (wCB c1 c4 h0 (qr, L, qt, qg)) H → va_D A (wCB c1 c4 h0 (qr, L, qt, qg)) → va_S A s.heap H locs → W p l e R s m args below meth c H locs 63 424 Q (F0 m 54 ls [])) :
    ∀ (n i : Nat), i + n = 60 → ∀ (L : List Nat) (H : Heap) (locs : List Loc) (ls : Array Slot), L.length = i → va_P D vwCl (wCB c1 c4 h0 (qr, L, qt, qg)) H → va_D A (wCB c1 c4 h0 (qr, L, qt, qg)) → va_S A s.heap H locs → lv_has ls 2 [(0, .ref h0), (1, .int (nI i))] → W p l e R s m args below meth c H locs (3 + i) (64 + 6 * i) Q (F0 m 29 ls []) := by
  intro n
  induction n with
  | zero =>
    intro i hi L H locs ls hL hP hD hS hl
    have hi' : i = 60 := by omega
    subst hi'
    refine lv_iload_n hx hb dX0_init_29 rfl (lv_at hl 1 rfl) ?_
    refine lv_bipush hx hb dX0_init_30 (by decide +kernel : (Int8.ofInt 60).toInt32 = (60 : Int32)) ?_
    refine lv_icmp_ge (tgt := 54) hx hb dX0_init_32 (by decide) (fun c_10 => ?_) (fun c_10 => absurd (by decide +kernel) c_10)
    exact kk L H locs ls hL hP hD hS
  | succ n ih =>
    intro i hi L H locs ls hL hP hD hS hl
    have hv : (nI i).toNatClampNeg = L.length := by rw [hL]; exact nI_clamp (by omega)
    refine lv_iload_n hx hb dX0_init_29 rfl (lv_at hl 1 rfl) ?_
    refine lv_bipush hx hb dX0_init_30 (by decide +kernel : (Int8.ofInt 60).toInt32 = (60 : Int32)) ?_
    refine lv_icmp_ge (tgt := 54) hx hb dX0_init_32 (by decide) (fun c_10 => ?_) (fun c_10 => ?_)
    · exact absurd c_10 (nI_ge (b := 60) (by omega) (by decide))
    · have hin : vp_in (nI i) 60 := vp_in_nI (by omega) (by omega)
      refine lv_aload_n hx hb dX0_init_35 rfl (lv_at hl 0 rfl) ?_
      refine va_get (D := D) (ci := 0) (C := RX0) (T := TX0) (N := 4) (v := .ref qr) hx hb hts (by decide +kernel) hown hK hP 0 rfl rfl 0 (by decide) (hts (.fieldLink RX0 11 "ProRataMarket$Book" "rows" "[LProRataMarket$Order;") (by decide +kernel)) (fun _ h9 => h9) rfl dX0_init_36 ?_
      refine lv_iload_n hx hb dX0_init_39 rfl (lv_at hl 1 rfl) ?_
      refine va_new (ci := 4) (fs := [.int 0, .int 0, .int 0, .int 0, .int 0, .int 0]) (C := RX4) (T := TX4) (N := 6) hx hb hts (by decide +kernel) tyX4 tyX4_ok hown (hts (.classLink RX0 9 RX4) (by decide +kernel)) (hts (.instantiable RX4 6) (by decide +kernel)) (hts (.initialized RX4) (by decide +kernel)) hK hP hD hS hA rfl (fun j hj => by rcases (show j = 0 ∨ j = 1 ∨ j = 2 ∨ j = 3 ∨ j = 4 ∨ j = 5 by omega) with rfl | rfl | rfl | rfl | rfl | rfl <;> rfl) (by rw [hR]; show 3 + i + 1 ≤ 63; omega) (by rw [hR]; show 64 + 6 * i + 6 ≤ 424; omega) dX0_init_40 (fun q H hP hD hS => ?_)
      refine lv_dup hx hb dX0_init_43 rfl ?_
      refine k_csv (va_runIN (As := []) (rest := [.ref q, .int (nI i), .ref qr]) ⟨hx, hb, hml, hown, hts⟩ (c_X4_init l q) ⟨va_cnB 0 hts gX0_init_X4_init_n24 rfl rfl rfl hN (hts (.initialized RX4) (by decide +kernel)) (by decide +kernel) ⟨by rw [hR]; exact Nat.le_of_ble_eq_true rfl, by rw [hR]; exact Nat.le_of_ble_eq_true rfl⟩, rfl, hts (.instanceMethod yX4_init) (by decide +kernel)⟩ ⟨fun a U g mk q => ⟨q.1, trivial⟩, fun U hU hW => ⟨rfl, trivial⟩⟩ rfl rfl hl.1 rfl (lv_room (Nat.le_of_ble_eq_true rfl)) dX0_init_44 ⟨by rw [hR]; show 3 + i + 1 + 0 ≤ 63; omega, by rw [hR]; show 64 + 6 * i + 6 + 0 ≤ 424; omega⟩) (fun _ => ?_)
      refine va_astq (r := (RX4, TX4, 6)) hx hb hK hP hD hS 1 1 (wCB c1 c4 h0 (qr, L, qt, qg)).length 4 rfl rfl (by rw [List.getElem?_append_right (Nat.le_refl _), Nat.sub_self]; rfl) rfl hin dX0_init_47 (fun H locs hP hD hS => ?_)
      rw [k_row_up hv] at hP hD
      have e1 : (wCB c1 c4 h0 (qr, L, qt, qg) ++ [(q, z4)]).set 1 (wRow c4 qr (L ++ [q])) = wCB c1 c4 h0 (qr, L ++ [q], qt, qg) := by
        show _ :: _ :: _ :: _ :: (L.map (fun a => (a, z4)) ++ [(q, z4)]) = _ :: _ :: _ :: _ :: (L ++ [q]).map (fun a => (a, z4))
        rw [List.map_append]
        rfl
      have hP := e1 ▸ hP
      have hD := e1 ▸ hD
      refine lv_iinc (v := nI (i + 1)) (lv' := [(1, .int (nI (i + 1))), (0, .ref h0)]) hx hb dX0_init_48 hl (k := 1) rfl (by rw [show Int32.ofInt 1 = (1 : Int32) from by decide]; exact nI_1 i) (by decide) rfl (fun ls hl => ?_)
      refine lv_goto (tgt := 29) hx hb dX0_init_51 (by decide) ?_
      have hh := ih (i + 1) (by omega) (L ++ [q]) H locs ls (by simp [hL]) hP hD hS (lv_sub hl [1, 0] rfl)
      exact W.widen (by omega) (by omega) hh
set_option maxHeartbeats 8000000 in
set_option maxRecDepth 100000 in
theorem c_X0_init (l : Launch) (D : va_G) (c1 c4 : ClassId) (h0 : Nat) (sz : Nat) : Met l yX0_init wsX0_init ({ frames := 2, cells := 63, slots := 424, locals := 33 }) (va_Pc [.ref h0] (fun U => U.heap.size = sz ∧ va_P D vwCl (wB0 h0) U.heap ∧ va_K D vwCl [(c1, .int), (c4, .object RX4)] U ∧ va_D (fun _ => True) (wB0 h0) ∧ va_AO RX4 U ∧ va_Nw (.methodLinkNest RX0 24 yX4_init "ProRataMarket") U))
    (va_Qv (fun u : uB => u.2.1.length = 60) (fun u t => va_P D vwCl (wCB c1 c4 h0 u) t.heap ∧ va_D (va_A (wB0 h0) sz) (wCB c1 c4 h0 u)) (va_A (wB0 h0) sz)) 63 424 (va_A (wB0 h0) sz) := by
  refine Met.ofW (cc := cX0_init) (maxL := 2) (ret := none) (by decide) rfl ?_
  intro p e s m args below meth c s₁ B hml hv
  obtain ⟨rfl, hsz, hP, hK, hD0, hAO, hN⟩ := hv
  have hx := B.exec
  have hb := B.bytes
  have hr := B.returns
  have hts := atoms_spec (ws := wsX0_init) B.pre
  have hown : s.vm.findClass RX0 = some m.cls := findClass_of_methodNamed B.named
  have hin : meth.name = "<init>" := (name_of_methodNamed B.named B.method).1
  subst hsz
  have hD := hD0.self (sz := s.heap.size)
  generalize hAe : va_A (wB0 h0) s.heap.size = A at hD ⊢
  have hA : ∀ q : Nat, s.heap.size ≤ q → A q := fun q h => by rw [← hAe]; exact Or.inr h
  have hS : va_S A s.heap s.heap [] := va_S.rf
  have hl := lv_entry ([.ref h0]) (n := 2) (Nat.le_of_ble_eq_true rfl)
  rw [lg_entry_eq]
  generalize (lg_sl ([.ref h0]) ++ List.replicate (2 - (lg_sl ([.ref h0])).length) Slot.unset).toArray = ls at hl ⊢
  have hl : lv_has ls 2 [(0, .ref h0)] := hl
  refine lv_aload_n hx hb dX0_init_0 rfl (lv_at hl 0 rfl) ?_
  refine W.objInit hx hb hown (hts (.methodLink RX0 3 objectInit) (by decide +kernel)) (hts (.instanceMethod objectInit) (by decide +kernel)) (hts _ (List.mem_cons_of_mem _ (List.mem_append_left _ (List.mem_append_left _ (List.mem_of_getElem? (i := 2) rfl))))) rfl (by rw [hml]; exact hl.1) rfl dX0_init_1 (Nat.le_of_ble_eq_true rfl) (Nat.le_of_ble_eq_true rfl) ?_
  refine W.eq (g2 := F0 m 4 ls []) rfl ?_
  refine lv_aload_n hx hb dX0_init_4 rfl (lv_at hl 0 rfl) ?_
  refine lv_bipush hx hb dX0_init_5 (by decide +kernel : (Int8.ofInt 60).toInt32 = (60 : Int32)) ?_
  refine va_newq (C := RX4) (N' := 60) hx hb hown (hts (.classLink RX0 9 RX4) (by decide +kernel)) hAO hK hP hD hS hA (by decide +kernel) (by decide +kernel) (by decide) (by decide) (by decide) dX0_init_7 (fun qr ca H hKn hP hD hS => ?_)
  have eca : ca = c4 := k_uqo (i := 2) (j := 1) hKn rfl rfl
  rw [eca] at hP hD
  clear hKn eca
  refine va_putF (D := D) (ci := 0) (v := .ref qr) (ty := .array (.object RX4)) (C := RX0) (T := TX0) (N := 4) hx hb hts (by decide +kernel) tyX0 tyX0_ok nmX0 hown hK hP hD hS 0 rfl rfl 0 (by decide) (hts (.fieldLink RX0 11 "ProRataMarket$Book" "rows" "[LProRataMarket$Order;") (by decide +kernel)) (fun _ h9 => h9) rfl hin rfl (by decide +kernel) rfl rfl (Nat.le_of_ble_eq_true rfl) dX0_init_10 (fun H locs hP hD hS => ?_)
  refine lv_aload_n hx hb dX0_init_13 rfl (lv_at hl 0 rfl) ?_
  refine lv_iconst (v := 2) hx hb dX0_init_14 (by decide) ?_
  refine va_newa (atype := .int) (ty := .int) (a0 := (2, .inl (fun _ => 0))) (N' := 2) hx hb (hts (.arrayClass .int) (by decide +kernel)) rfl hK hP hD hS hA (fun cA => rfl) (by decide +kernel) (by decide +kernel) (by decide) (by decide) (by decide) dX0_init_15 (fun qt cb H hKn hP hD hS => ?_)
  have ecb : cb = c1 := k_uq (i := 2) (j := 0) hKn rfl rfl
  rw [ecb] at hP hD
  clear hKn ecb
  refine va_putF (D := D) (ci := 0) (v := .ref qt) (ty := .array .int) (C := RX0) (T := TX0) (N := 4) hx hb hts (by decide +kernel) tyX0 tyX0_ok nmX0 hown hK hP hD hS 0 rfl rfl 2 (by decide) (hts (.fieldLink RX0 17 "ProRataMarket$Book" "topNumber" "[I") (by decide +kernel)) (fun _ h9 => h9) rfl hin rfl (by decide +kernel) rfl rfl (Nat.le_of_ble_eq_true rfl) dX0_init_17 (fun H locs hP hD hS => ?_)
  refine lv_aload_n hx hb dX0_init_20 rfl (lv_at hl 0 rfl) ?_
  refine lv_iconst (v := 2) hx hb dX0_init_21 (by decide) ?_
  refine va_newa (atype := .int) (ty := .int) (a0 := (2, .inl (fun _ => 0))) (N' := 2) hx hb (hts (.arrayClass .int) (by decide +kernel)) rfl hK hP hD hS hA (fun cA => rfl) (by decide +kernel) (by decide +kernel) (by decide) (by decide) (by decide) dX0_init_22 (fun qg cb H hKn hP hD hS => ?_)
  have ecb : cb = c1 := k_uq (i := 2) (j := 0) hKn rfl rfl
  rw [ecb] at hP hD
  clear hKn ecb
  refine va_putF (D := D) (ci := 0) (v := .ref qg) (ty := .array .int) (C := RX0) (T := TX0) (N := 4) hx hb hts (by decide +kernel) tyX0 tyX0_ok nmX0 hown hK hP hD hS 0 rfl rfl 3 (by decide) (hts (.fieldLink RX0 21 "ProRataMarket$Book" "topGrant" "[I") (by decide +kernel)) (fun _ h9 => h9) rfl hin rfl (by decide +kernel) rfl rfl (Nat.le_of_ble_eq_true rfl) dX0_init_24 (fun H locs hP hD hS => ?_)
  refine lv_iconst (v := 0) hx hb dX0_init_27 (by decide) ?_
  refine lv_istore_n (lv' := [(1, .int 0), (0, .ref h0)]) hx hb dX0_init_28 rfl hl (by decide) rfl (fun ls hl => ?_)
  have eR : (fun _ : Nat => (none : Option Nat)) = fun j => ([] : List Nat)[j]? := by funext j; simp
  rw [eR] at hP hD
  have hP : va_P D vwCl (wCB c1 c4 h0 (qr, [], qt, qg)) H := hP
  have hD : va_D A (wCB c1 c4 h0 (qr, [], qt, qg)) := hD
  refine X0_loop (l := l) (R := _) rfl hx hb hml hts hown hA hK hN (fun L H locs ls hL hP hD hS => ?_) 60 0 (by omega) [] H locs ls rfl hP hD hS (lv_sub hl [1, 0] rfl)
  exact W.vret hx hb hr (fun t ht hW => ⟨⟨(qr, L, qt, qg), rfl, hL, by rw [ht]; exact hP, hD⟩, hS.F ht⟩) hS.2.2 dX0_init_54
