/-! MACHINE: the law's entry up to its loop -/
theorem va_P.l {D : va_G} {cl : List vw_C} {X Z : va_W} {H : Heap} (h : va_P D cl (X ++ Z) H) : va_P D cl X H := fun k q hk => h k q (by rw [List.getElem?_append_left (List.getElem?_eq_some_iff.mp hk).1]; exact hk)
theorem va_P.r {D : va_G} {cl : List vw_C} {X Z : va_W} {H : Heap} (h : va_P D cl (X ++ Z) H) : va_P D cl Z H := fun k q hk => h (X.length + k) q (by rw [List.getElem?_append_right (Nat.le_add_right _ _), Nat.add_sub_cancel_left]; exact hk)
theorem va_D.at {A : Nat → Prop} {W : va_W} (h : va_D A W) {a : Nat} (ha : a ∈ W.map Prod.fst) : A a := by
  obtain ⟨q, hq, rfl⟩ := List.mem_map.mp ha
  obtain ⟨k, hk⟩ := List.getElem?_of_mem hq
  exact h.2 k q hk
theorem va_D.ne {A : Nat → Prop} {X Z : va_W} (h : va_D A (X ++ Z)) {a : Nat} (h1 : a ∈ X.map Prod.fst) (h2 : a ∈ Z.map Prod.fst) : False := by
  have n := h.nd
  rw [List.map_append, List.nodup_append] at n
  exact n.2.2 a h1 a h2 rfl
set_option maxHeartbeats 8000000 in
set_option maxRecDepth 100000 in
/-- the loop, from both worlds -/
theorem l_begin1 {p : Program} {e : Env} {s : State} {m : MethodId} {below : List Frame} {meth : Method} {c : Code} (l : Launch) (hst : l.stackTraces = false) {b L : Nat} {xs : Nat → Int32} (hL : L ≤ 3584) (C0 : lw_At p s m meth c b L xs)
    {G7 G8 : qG} {μ7 μ8 : qM} {ρ : Nat → Nat × Nat} {x mm o : Nat} {sa : Nat × Nat × Nat} (k7 : va_K (gD G7) vwCl (qTys G7) s) (k8 : va_K (gD G8) vwCl (qTys G8) s) (t7 : qT G7) (t8 : qT G8) (z7 : qZ G7 s) (z8 : qZ G8 s) (xz : xZ G7 sa s) (ly : cLY G7 ρ x) (kx : gK G7 x = 8) (ko : gK G7 o = 3001) (ho : (ρ o).1 = o ∧ o ≠ gR G7 700 x ∧ o ≠ gR G7 701 x ∧ o ≠ x) (ml : mL G8 mm) (km : gK G8 mm = 9)
    (g7 : ∀ q, q ∈ gL G7 → s.heap.size ≤ q) (g8 : ∀ q, q ∈ gL G8 → s.heap.size ≤ q) (g78 : ∀ q, q ∈ gL G7 → q ∉ gL G8) (hp : pR G7 ρ x G8 mm 0 μ7 μ8) {H : Heap} {locs : List Loc} {ls : Array Slot} (hl : lv_has ls 8 [(4, .int (nI (7 * 0))), (3, .ref o), (2, .ref mm), (1, .ref x), (0, .ref b)]) (w7 : qW G7 μ7 H) (w8 : qW G8 μ8 H) (hS : va_S (fun q => s.heap.size ≤ q) s.heap H locs) (r7 : qR G7 μ7) (r8 : qR G8 μ8) :
    W p l e room_1 s m #[Value.ref b] below meth c H locs (300 + 0) (6000 + 6 * 0) (lw_Z below #[Value.ref b] s) (F0 m 23 ls []) := by
  obtain ⟨hx, hb, hr, hml, hown, hts, -, -, hlk, -⟩ := id C0
  have htM : ∀ w ∈ wsM_law, w.before #[Value.ref b] s = true := fun w hw => hts w (wsM_law_in w hw)
  have hF : lFx (p, l, e, s, m, below, meth, c, b, G7, G8) L xs ρ x mm o sa := ⟨C0, hL, hst, ⟨hx, hb, hml, hown, htM, hlk, hr, rfl, rfl, k7, t7, z7⟩, ⟨hx, hb, hml, hown, htM, hlk, hr, rfl, rfl, k8, t8, z8⟩, ⟨ly, kx, ko, ho, xz⟩, ⟨ml, km⟩, fun q h => ⟨g7 q h, g78 q h⟩, g8⟩
  exact l_loop hF 513 0 μ7 μ8 (by omega) (by omega) hp H locs ls (lv_sub hl [4, 3, 2, 1, 0] rfl) w7 w8 hS r7 r8
set_option maxHeartbeats 8000000 in
set_option maxRecDepth 100000 in
/-- the loop, from both worlds as they lie when it begins -/
theorem l_begin {p : Program} {e : Env} {s : State} {m : MethodId} {below : List Frame} {meth : Method} {c : Code} (l : Launch) (hst : l.stackTraces = false) {b L : Nat} {xs : Nat → Int32} (hL : L ≤ 3584) (C0 : lw_At p s m meth c b L xs)
    {D : va_G} {c1 c2 c3 c4 c5 : ClassId} (hK : va_K D vwCl [(c1, .int), (c2, .byte), (c3, .long), (c4, .object RX4), (c5, .array .int)] s) {S V : Nat → Nat} (hZ : ∀ G : qG, gS G = S → gV G = V → (∀ q, q ∈ gL G → s.heap.size ≤ q) → qZ G s) {sa : Nat × Nat × Nat} (hxz : ∀ G : qG, (∀ q, q ∈ gL G → s.heap.size ≤ q) → xZ G sa s)
    {x mm o : Nat} {u0 : uX} {u1 : Nat → Nat} (hw0 : uFok u0.1.2 ∧ uFok u0.2.1.2) {H : Heap} {locs : List Loc} {ls : Array Slot} (hl : lv_has ls 8 [(4, .int (nI (7 * 0))), (3, .ref o), (2, .ref mm), (1, .ref x), (0, .ref b)])
    (hP : va_P D vwCl ((wX c1 c3 c4 c5 x u0 ++ wM8b c1 c2 c3 mm u1) ++ [(o, lo1 c3)]) H) (hD : va_D (fun q => s.heap.size ≤ q) ((wX c1 c3 c4 c5 x u0 ++ wM8b c1 c2 c3 mm u1) ++ [(o, lo1 c3)])) (hS : va_S (fun q => s.heap.size ≤ q) s.heap H locs) :
    W p l e room_1 s m #[Value.ref b] below meth c H locs (300 + 0) (6000 + 6 * 0) (lw_Z below #[Value.ref b] s) (F0 m 23 ls []) := by
  have hne : c1 ≠ c2 := fun q => by
    have h1 := (hK.2 0 _ rfl).1
    have h2 := (hK.2 1 _ rfl).1
    rw [q] at h1
    exact absurd (k_ty h1 h2) (by intro h; cases h)
  have hne5 : c5 ≠ c4 := fun q => by
    have h1 := (hK.2 4 _ rfl).1
    have h2 := (hK.2 3 _ rfl).1
    rw [q] at h1
    exact absurd (k_ty h1 h2) (by intro h; cases h)
  have hP := va_P.swap hP
  have hD := va_D.swap hD
  have hPa : va_P D vwCl (wXo c1 c3 c4 c5 x u0 o) H := hP.l
  have hPb : va_P D vwCl (wM8b c1 c2 c3 mm u1) H := hP.r
  have hDa : va_D (fun q => s.heap.size ≤ q) (wXo c1 c3 c4 c5 x u0 o) := hD.l
  have hDb : va_D (fun q => s.heap.size ≤ q) (wM8b c1 c2 c3 mm u1) := hD.r
  have hDD : va_D (fun q => s.heap.size ≤ q) (wXo c1 c3 c4 c5 x u0 o ++ wM8b c1 c2 c3 mm u1) := hD
  obtain ⟨ok7, kx, ρ, ly, cr, ko, ho⟩ := x_new (c2 := c2) (D := D) (s := S) (v := V) hne hne5 hw0 hDa
  obtain ⟨ok8, km, ml, mr⟩ := m_new (c4 := c4) (c5 := c5) (D := D) (s := S) (v := V) hne hDb
  have t7 := nT (c1 := c1) (c3 := c3) (c5 := c5) (D := D) (s := S) (v := V) hDa (fun q hq => (ok7 q hq).2)
  have r7 := nR (D := D) (s := S) (v := V) hne hDa (fun q hq => (ok7 q hq).1)
  have w7 := nWd (s := S) (v := V) hne hne5 hDa (fun q hq => (ok7 q hq).1) hPa
  have t8 := nT (c1 := c1) (c3 := c3) (c5 := c5) (D := D) (s := S) (v := V) hDb (fun q hq => (ok8 q hq).2)
  have r8 := nR (D := D) (s := S) (v := V) hne hDb (fun q hq => (ok8 q hq).1)
  have w8 := nWd (s := S) (v := V) hne hne5 hDb (fun q hq => (ok8 q hq).1) hPb
  have g7 : ∀ q, q ∈ gL (nG c1 c2 c3 c4 c5 D S V (wXo c1 c3 c4 c5 x u0 o)) → s.heap.size ≤ q := fun q h => hDa.at h
  have g8 : ∀ q, q ∈ gL (nG c1 c2 c3 c4 c5 D S V (wM8b c1 c2 c3 mm u1)) → s.heap.size ≤ q := fun q h => hDb.at h
  have g78 : ∀ q, q ∈ gL (nG c1 c2 c3 c4 c5 D S V (wXo c1 c3 c4 c5 x u0 o)) → q ∉ gL (nG c1 c2 c3 c4 c5 D S V (wM8b c1 c2 c3 mm u1)) := fun q h1 h2 => hDD.ne h1 h2
  have z7 := hZ (nG c1 c2 c3 c4 c5 D S V (wXo c1 c3 c4 c5 x u0 o)) rfl rfl g7
  have z8 := hZ (nG c1 c2 c3 c4 c5 D S V (wM8b c1 c2 c3 mm u1)) rfl rfl g8
  have xz := hxz (nG c1 c2 c3 c4 c5 D S V (wXo c1 c3 c4 c5 x u0 o)) g7
  have hp := pR_new cr mr
  have k7 : va_K (gD (nG c1 c2 c3 c4 c5 D S V (wXo c1 c3 c4 c5 x u0 o))) vwCl (qTys (nG c1 c2 c3 c4 c5 D S V (wXo c1 c3 c4 c5 x u0 o))) s := hK
  have k8 : va_K (gD (nG c1 c2 c3 c4 c5 D S V (wM8b c1 c2 c3 mm u1))) vwCl (qTys (nG c1 c2 c3 c4 c5 D S V (wM8b c1 c2 c3 mm u1))) s := hK
  exact l_begin1 l hst hL C0 k7 k8 t7 t8 z7 z8 xz ly kx ko ho ml km g7 g8 g78 hp hl w7 w8 hS r7 r8
set_option maxHeartbeats 8000000 in
set_option maxRecDepth 100000 in
theorem whole_start {p : Program} {e : Env} {s : State} {m : MethodId} {below : List Frame} {meth : Method} {c : Code} (l : Launch) (hflags : l.flags = flags0) {b L : Nat} {xs : Nat → Int32} (hL : L ≤ 3584) (C0 : lw_At p s m meth c b L xs) : W p l e room_1 s m #[Value.ref b] below meth c s.heap [] 0 0 (lw_Z below #[Value.ref b] s) (entryFrame m ([Value.ref b] : List Value).toArray 8) := by
  obtain ⟨hx, hb, hr, hml, hown, hts, -, -, hlk, hg⟩ := id C0
  have hst : l.stackTraces = false := by
    unfold Launch.stackTraces
    rw [hflags]
    decide +kernel
  obtain ⟨D, c1, c2, c3, c4, c5, hK⟩ := e_K hts
  have hN := e_N hts
  obtain ⟨S, V, hZ⟩ := e_Z hts hg
  obtain ⟨sa, hxz⟩ := e_x hts hg
  have hown : s.vm.findClass RL = some m.cls := hown
  have htM : ∀ w ∈ wsM_law, w.before #[Value.ref b] s = true := fun w hw => hts w (wsM_law_in w hw)
  obtain ⟨A, eA⟩ : ∃ A : Nat → Prop, A = fun q => s.heap.size ≤ q := ⟨_, rfl⟩
  have hA : ∀ q : Nat, s.heap.size ≤ q → A q := fun q h => by rw [eA]; exact h
  have hS : va_S A s.heap s.heap [] := va_S.rf
  have hP : va_P D vwCl [] s.heap := fun k q hk => by simp at hk
  have hD : va_D A [] := ⟨fun i j p q hp _ _ => by simp at hp, fun k q hk => by simp at hk⟩
  have hl := lv_entry ([.ref b]) (n := 8) (Nat.le_of_ble_eq_true rfl)
  rw [lg_entry_eq]
  generalize (lg_sl ([.ref b]) ++ List.replicate (8 - (lg_sl ([.ref b])).length) Slot.unset).toArray = ls at hl ⊢
  have hl : lv_has ls 8 [(0, .ref b)] := hl
  refine va_new (ci := 7) (fs := [.null, .null, .null]) (C := RX7) (T := TX7) (N := 3) hx hb hts (fun w hw => (wl_45 w hw).1) tyX7 tyX7_ok hown (e_t hts 95 (by decide +kernel)) (e_t hts 96 (by decide +kernel)) (e_t hts 77 (by decide +kernel)) hK hP hD hS hA rfl (fun j hj => by rcases (show j = 0 ∨ j = 1 ∨ j = 2 by omega) with rfl | rfl | rfl <;> rfl) (Nat.le_of_ble_eq_true rfl) (Nat.le_of_ble_eq_true rfl) dL_law_0 (fun x H hP hD hS => ?_)
  refine lv_dup hx hb dL_law_3 rfl ?_
  have hPc := k_lastP hP
  have hDc := k_lastD hD
  have hKc := hK.sub (tys' := [(c1, .int), (c3, .long), (c4, .object RX4), (c5, .array .int)]) [0, 2, 3, 4] rfl
  have hFc := k_free hD hS hA
  refine va_callv (va_runI (As := []) (rest := [.ref x]) ⟨hx, hb, hml, hown, htM⟩ (c_X7_init l D c1 c3 c4 c5 x H.size) (cwI 0 htM (goodIn_l gL_law_X7_init) rfl rfl rfl (e_t hts 77 (by decide +kernel)) (e_t hts 97 (by decide +kernel)) (e_t hts 98 (by decide +kernel)) rfl (by decide +kernel) ⟨Nat.le_of_ble_eq_true rfl, Nat.le_of_ble_eq_true rfl⟩) ⟨fun a U g mk q => by obtain ⟨q0, q1, qP, qK, qD, x0⟩ := q; exact ⟨q0, q1, qP, va_K.moved (u := U) (U := U.calling g mk a) (Vm.Alike.refl U.vm) qK, qD, x0.same (u := U) (U := U.calling g mk a) rfl⟩, fun U hU hW => ⟨rfl, by rw [hU], by rw [hU]; exact hPc, va_K.moved hW.alike hKc, hDc, hN.on hW⟩⟩ rfl rfl hl.1 rfl (lv_room (Nat.le_of_ble_eq_true rfl)) dL_law_4 ⟨Nat.le_of_ble_eq_true rfl, Nat.le_of_ble_eq_true rfl⟩) hS (fun q _ h => hFc q h) hFc (fun u0 t H1 locs ht hvm hw0 hB hz1 hk1 hS => ?_)
  obtain ⟨hP1, hD1⟩ := hB
  rw [ht] at hP1
  obtain ⟨hP, hD⟩ := k_join (w1 := wX c1 c3 c4 c5 x u0) hP hD hk1 hFc hP1 hD1
  clear hP1 hD1 hk1 hz1 hvm ht hPc hDc hKc hFc
  generalize H1 = H at hP hS ⊢
  obtain ⟨W7, e7⟩ : ∃ z : va_W, z = wX c1 c3 c4 c5 x u0 := ⟨_, rfl⟩
  have hP : va_P D vwCl W7 H := by rw [e7]; exact hP
  have hD : va_D A W7 := by rw [e7]; exact hD
  refine lv_astore_n (lv' := [(1, .ref x), (0, .ref b)]) hx hb dL_law_7 rfl hl (by decide) rfl (fun ls hl => ?_)
  refine va_new (ci := 8) (fs := fsX8 (fun _ => .null)) (C := RX8) (T := TX8) (N := 32) hx hb hts (fun w hw => (wl_46 w hw).1) tyX8 tyX8_ok hown (e_t hts 944 (by decide +kernel)) (e_t hts 945 (by decide +kernel)) (e_t hts 85 (by decide +kernel)) hK hP hD hS hA rfl (fun j hj => by rcases (show j = 0 ∨ j = 1 ∨ j = 2 ∨ j = 3 ∨ j = 4 ∨ j = 5 ∨ j = 6 ∨ j = 7 ∨ j = 8 ∨ j = 9 ∨ j = 10 ∨ j = 11 ∨ j = 12 ∨ j = 13 ∨ j = 14 ∨ j = 15 ∨ j = 16 ∨ j = 17 ∨ j = 18 ∨ j = 19 ∨ j = 20 ∨ j = 21 ∨ j = 22 ∨ j = 23 ∨ j = 24 ∨ j = 25 ∨ j = 26 ∨ j = 27 ∨ j = 28 ∨ j = 29 ∨ j = 30 ∨ j = 31 by omega) with rfl | rfl | rfl | rfl | rfl | rfl | rfl | rfl | rfl | rfl | rfl | rfl | rfl | rfl | rfl | rfl | rfl | rfl | rfl | rfl | rfl | rfl | rfl | rfl | rfl | rfl | rfl | rfl | rfl | rfl | rfl | rfl <;> rfl) (Nat.le_of_ble_eq_true rfl) (Nat.le_of_ble_eq_true rfl) dL_law_8 (fun mm H hP hD hS => ?_)
  refine lv_dup hx hb dL_law_11 rfl ?_
  have hPc := k_lastP hP
  have hDc := k_lastD hD
  have hKc := hK.sub (tys' := [(c1, .int), (c2, .byte), (c3, .long)]) [0, 1, 2] rfl
  have hFc := k_free hD hS hA
  refine va_callv (va_runI (As := []) (rest := [.ref mm]) ⟨hx, hb, hml, hown, htM⟩ (c_X8_init l D c1 c2 c3 mm H.size) (cwI 0 htM (goodIn_l gL_law_X8_init) rfl rfl rfl (e_t hts 85 (by decide +kernel)) (e_t hts 946 (by decide +kernel)) (e_t hts 947 (by decide +kernel)) rfl (by decide +kernel) ⟨Nat.le_of_ble_eq_true rfl, Nat.le_of_ble_eq_true rfl⟩) ⟨fun a U g mk q => by obtain ⟨q0, q1, qP, qK, qD⟩ := q; exact ⟨q0, q1, qP, va_K.moved (u := U) (U := U.calling g mk a) (Vm.Alike.refl U.vm) qK, qD⟩, fun U hU hW => ⟨rfl, by rw [hU], by rw [hU]; exact hPc, va_K.moved hW.alike hKc, hDc⟩⟩ rfl rfl hl.1 rfl (lv_room (Nat.le_of_ble_eq_true rfl)) dL_law_12 ⟨Nat.le_of_ble_eq_true rfl, Nat.le_of_ble_eq_true rfl⟩) hS (fun q _ h => hFc q h) hFc (fun u1 t H1 locs ht hvm hw1 hB hz1 hk1 hS => ?_)
  obtain ⟨hP1, hD1⟩ := hB
  rw [ht] at hP1
  obtain ⟨hP, hD⟩ := k_join (w1 := wM8b c1 c2 c3 mm u1) hP hD hk1 hFc hP1 hD1
  clear hP1 hD1 hk1 hz1 hvm ht hPc hDc hKc hFc
  generalize H1 = H at hP hS ⊢
  obtain ⟨W8, e8⟩ : ∃ z : va_W, z = wM8b c1 c2 c3 mm u1 := ⟨_, rfl⟩
  have hP : va_P D vwCl (W7 ++ W8) H := by rw [e8]; exact hP
  have hD : va_D A (W7 ++ W8) := by rw [e8]; exact hD
  refine lv_astore_n (lv' := [(2, .ref mm), (1, .ref x), (0, .ref b)]) hx hb dL_law_15 rfl hl (by decide) rfl (fun ls hl => ?_)
  refine lv_iconst (v := 1) hx hb dL_law_16 rfl ?_
  refine va_newa (atype := .long) (ty := .long) (a0 := (1, .inr (.inl (fun _ => 0)))) (N' := 1) hx hb (e_t hts 221 (by decide +kernel)) rfl hK hP hD hS hA (fun cA => rfl) (by decide +kernel) (by decide +kernel) (by decide) (Nat.le_of_ble_eq_true rfl) (Nat.le_of_ble_eq_true rfl) dL_law_17 (fun o cb H hKn hP hD hS => ?_)
  have ecb : cb = c3 := k_uqt (n := "[" ++ (FieldType.long).toString) (i := 5) (j := 2) hKn rfl rfl (fun _ h => h)
  rw [ecb] at hP hD
  clear hKn ecb
  refine lv_astore_n (lv' := [(3, .ref o), (2, .ref mm), (1, .ref x), (0, .ref b)]) hx hb dL_law_19 rfl hl (by decide) rfl (fun ls hl => ?_)
  refine lv_iconst (v := nI (7 * 0)) hx hb dL_law_20 (by decide) ?_
  refine lv_istore (lv' := [(4, .int (nI (7 * 0))), (3, .ref o), (2, .ref mm), (1, .ref x), (0, .ref b)]) hx hb dL_law_21 hl (by decide) rfl (fun ls hl => ?_)
  refine W.widen (k := 300 + 0) (n := 6000 + 6 * 0) (Nat.le_of_ble_eq_true rfl) (Nat.le_of_ble_eq_true rfl) ?_
  rw [e7, e8] at hP hD
  rw [eA] at hD hS
  exact l_begin l hst hL C0 hK hZ hxz hw0 hl hP hD hS
