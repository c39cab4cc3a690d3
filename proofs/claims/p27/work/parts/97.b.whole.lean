/-! MACHINE: the law from its entry to its end -/
section START
variable {p : Program} {l : Launch} {e : Env} {s : State} {m : MethodId} {below : List Frame} {meth : Method} {c : Code} {b L : Nat} {xs : Nat → Int32} {ρ : Nat → Nat × Nat} {x : Nat} {sa : Nat × Nat × Nat} {G7 G8 : qG} {D : va_G} {c1 c2 c3 c4 c5 : ClassId} {N : Nat} {Ω : oB}
set_option maxHeartbeats 8000000 in
set_option maxRecDepth 100000 in
/-- the first stretch, from the heap as it lies -/
theorem l_A (hF : yF (p, l, e, s, m, below, meth, c, b, G7, n8 c1 c2 c3 c4 c5 D []) L xs ρ x sa) (hΩ : ∀ Y : lB, y7 Y = G7 → yOk Y xs L x sa Ω) (hQ : oQ N G7 ρ x Ω) (hN : 1000 < N) (eD : gD G7 = D) (hK : va_K D vwCl [(c1, .int), (c2, .byte), (c3, .long), (c4, .object RX4), (c5, .array .int)] s) (hne : c1 ≠ c2) (hne5 : c5 ≠ c4) (hAO : va_AOA .int s) {m7 : qM} (h : St G7 ρ x m7 [] T0 (fun _ => 0) (fun _ _ => 0)) (r7 : qR G7 m7) {H : Heap} {locs : List Loc} {la : Array Slot} (w7 : qW G7 m7 H) (hS : va_S (fun q => s.heap.size ≤ q) s.heap H locs) (hl : lv_has la 21 [(0, .ref b), (1, .ref x)]) :
    W p l e room_1 s m #[Value.ref b] below meth c H locs (1000 + 0) (60000 + 6 * 0) (lw_Z below #[Value.ref b] s) (F0 m 8 la []) := by
  have hy := hF.ly
  have hD0 : va_D (fun q => s.heap.size ≤ q) ([] : va_W) := ⟨fun i j p q hp _ _ => by simp at hp, fun k q hk => by simp at hk⟩
  have hP0 : va_P D vwCl [] H := fun k q hk => by simp at hk
  have no : ∀ {P : Nat × va_E → Prop}, ∀ q ∈ ([] : va_W), P q := fun q h => absurd h List.not_mem_nil
  obtain ⟨g, M, s1, n, q, m', l2, T2, D2, tr2, hf, hg, hM0, hs, hn, h2, hMk⟩ := z_La (KK := gK (n8 c1 c2 c3 c4 c5 D [])) (nn := 0) (q0 := nM []) (c0 := 0) hQ hy hN h
  have w8 : qW (n8 c1 c2 c3 c4 c5 D []) (nM []) H := nWd hne hne5 hD0 no hP0
  have hR8 : qR (n8 c1 c2 c3 c4 c5 D []) (nM []) := nR hne hD0 no
  have k := w_La hF (hΩ (p, l, e, s, m, below, meth, c, b, G7, n8 c1 c2 c3 c4 c5 D []) rfl) (nn := 0) (by omega) (res := (g, M, s1, (n : Int), (q : Int) + 1, m', nM [], 0)) (fun p1 q1 c9 x2 x3 x4 x5 x7 _ _ _ _ _ R7 R8 ee => by
      cases ee
      intro hc H1 locs1 la1 hl1 hW8 hS1 _ hW7 r71
      have hP7 : va_P D vwCl (va_pl (gL G7) (qE G7 m')) H1 := by rw [← eD]; exact hW7.1
      have hD7 : va_D (fun q => s.heap.size ≤ q) (va_pl (gL G7) (qE G7 m')) := va_pl_in hW7.2 (fun z hz => (hF.d7 z hz).1)
      have hA : ∀ q : Nat, s.heap.size ≤ q → (fun q => s.heap.size ≤ q) q := fun _ h => h
      have htM := hF.X7.2.2.2.2.1
      refine va_newa (atype := .int) (ty := .int) (a0 := (n, .inl (fun _ => 0))) (N' := n) hF.e hF.b (htM (.arrayClass .int) (by decide +kernel)) rfl hK hP7 hD7 hS1 hA (fun cA => rfl) (n_len hn).1 (n_len hn).2 (by show n * 4 ≤ 536870912; omega) (by decide) (by show 60000 + 6 * 0 + n ≤ 7301550; omega) dL_law_148 (fun a cb H2 hK2 hP2 hD2 hS2 => ?_)
      have ecb : cb = c1 := k_uq (i := 5) (j := 0) hK2 rfl rfl
      subst ecb
      refine W.widen (k := 1000 + 2) (n := 60000 + 6 * 2) (by decide) (by omega) ?_
      exact l_B hF hΩ hQ hN eD hK hne hne5 hAO hs hn hg hM0 h2 (hMk _) R7 hP2 hD2 hS2 hl1) r7 hR8 hf
  exact k (by decide) H locs la hl w8 hS hR8 w7 r7
end START
set_option maxHeartbeats 8000000 in
set_option maxRecDepth 100000 in
/-- from the entry, for every script of at most 260 ints, the law comes to its end with true -/
theorem whole_start {p : Program} {e : Env} {s : State} {m : MethodId} {below : List Frame} {meth : Method} {c : Code} (l : Launch) (hflags : l.flags = flags0) {b L : Nat} {xs : Nat → Int32} (hL : L ≤ 260) (C0 : lw_At p s m meth c b L xs) : W p l e room_1 s m #[Value.ref b] below meth c s.heap [] 0 0 (lw_Z below #[Value.ref b] s) (entryFrame m ([Value.ref b] : List Value).toArray 21) := by
  obtain ⟨hx, hb, hr, hml, hown, hts, -, -, hlk, hg⟩ := id C0
  have hst : l.stackTraces = false := by
    unfold Launch.stackTraces
    rw [hflags]
    decide +kernel
  obtain ⟨D, c1, c2, c3, c4, c5, hK⟩ := e_K hts
  have hN := e_N hts
  obtain ⟨sa, hxz⟩ := e_x hts hg
  have hown : s.vm.findClass RL = some m.cls := hown
  have htM : ∀ w ∈ wsM_law, w.before #[Value.ref b] s = true := fun w hw => hts w (wsM_law_in w hw)
  have hne : c1 ≠ c2 := fun q => by
    have h1 := (hK.2 0 _ rfl).1
    have h2 := (hK.2 1 _ rfl).1
    rw [q] at h1
    exact absurd (k_ty h1 h2) (by intro h; cases h)
  have hne5 : c5 ≠ c4 := fun q => by
    have h1 := (hK.2 4 _ rfl).1
    have h2 := (hK.2 3 _ rfl).1
    rw [q] at h1
    exact absurd (k_ty h1 h2) (by intro h; cases h)
  obtain ⟨A, eA⟩ : ∃ A : Nat → Prop, A = fun q => s.heap.size ≤ q := ⟨_, rfl⟩
  have hA : ∀ q : Nat, s.heap.size ≤ q → A q := fun q h => by rw [eA]; exact h
  have hS : va_S A s.heap s.heap [] := va_S.rf
  have hP : va_P D vwCl [] s.heap := fun k q hk => by simp at hk
  have hD : va_D A [] := ⟨fun i j p q hp _ _ => by simp at hp, fun k q hk => by simp at hk⟩
  have hl := lv_entry ([.ref b]) (n := 21) (Nat.le_of_ble_eq_true rfl)
  rw [lg_entry_eq]
  generalize (lg_sl ([.ref b]) ++ List.replicate (21 - (lg_sl ([.ref b])).length) Slot.unset).toArray = ls at hl ⊢
  have hl : lv_has ls 21 [(0, .ref b)] := hl
  refine va_new (ci := 7) (fs := [.null, .null, .null]) (C := RX7) (T := TX7) (N := 3) hx hb hts (fun w hw => (wl_16 w hw).1) tyX7 tyX7_ok hown (e_t hts 23 (by decide +kernel)) (e_t hts 24 (by decide +kernel)) (e_t hts 10 (by decide +kernel)) hK hP hD hS hA rfl (fun j hj => by rcases (show j = 0 ∨ j = 1 ∨ j = 2 by omega) with rfl | rfl | rfl <;> rfl) (Nat.le_of_ble_eq_true rfl) (Nat.le_of_ble_eq_true rfl) dL_law_0 (fun x H hP hD hS => ?_)
  refine lv_dup hx hb dL_law_3 rfl ?_
  have hPc := k_lastP hP
  have hDc := k_lastD hD
  have hKc := hK.sub (tys' := [(c1, .int), (c3, .long), (c4, .object RX4), (c5, .array .int)]) [0, 2, 3, 4] rfl
  have hFc := k_free hD hS hA
  refine va_callv (va_runI (As := []) (rest := [.ref x]) ⟨hx, hb, hml, hown, htM⟩ (c_X7_init l D c1 c3 c4 c5 x H.size) (cwI 0 htM (goodIn_l gL_law_X7_init) rfl rfl rfl (e_t hts 10 (by decide +kernel)) (e_t hts 25 (by decide +kernel)) (e_t hts 26 (by decide +kernel)) rfl (by decide +kernel) ⟨Nat.le_of_ble_eq_true rfl, Nat.le_of_ble_eq_true rfl⟩) ⟨fun a U g mk q => by obtain ⟨q0, q1, qP, qK, qD, x0⟩ := q; exact ⟨q0, q1, qP, va_K.moved (u := U) (U := U.calling g mk a) (Vm.Alike.refl U.vm) qK, qD, x0.same (u := U) (U := U.calling g mk a) rfl⟩, fun U hU hW => ⟨rfl, by rw [hU], by rw [hU]; exact hPc, va_K.moved hW.alike hKc, hDc, hN.on hW⟩⟩ rfl rfl hl.1 rfl (lv_room (Nat.le_of_ble_eq_true rfl)) dL_law_4 ⟨Nat.le_of_ble_eq_true rfl, Nat.le_of_ble_eq_true rfl⟩) hS (fun q _ h => hFc q h) hFc (fun u0 t H1 locs ht hvm hw0 hB hz1 hk1 hS => ?_)
  obtain ⟨hP1, hD1⟩ := hB
  rw [ht] at hP1
  obtain ⟨hP, hD⟩ := k_join (w1 := wX c1 c3 c4 c5 x u0) hP hD hk1 hFc hP1 hD1
  clear hP1 hD1 hk1 hz1 hvm ht hPc hDc hKc hFc
  generalize H1 = H at hP hS ⊢
  have hP : va_P D vwCl (wX c1 c3 c4 c5 x u0) H := hP
  have hD : va_D A (wX c1 c3 c4 c5 x u0) := hD
  rw [eA] at hD hS
  refine lv_astore_n (lv' := [(1, .ref x), (0, .ref b)]) hx hb dL_law_7 rfl hl (by decide) rfl (fun ls hl => ?_)
  refine W.widen (k := 1000 + 0) (n := 60000 + 6 * 0) (Nat.le_of_ble_eq_true rfl) (Nat.le_of_ble_eq_true rfl) ?_
  obtain ⟨ok7, kx, ρ, ly, cr⟩ := x_new (c2 := c2) (D := D) (s := fun _ => 0) (v := fun _ => 0) hne hne5 hw0 hD
  have t7 := nT (c1 := c1) (c3 := c3) (c5 := c5) (D := D) (s := fun _ => 0) (v := fun _ => 0) hD (fun q hq => (ok7 q hq).2)
  have r7 := nR (D := D) (s := fun _ => 0) (v := fun _ => 0) hne hD (fun q hq => (ok7 q hq).1)
  have w7 := nWd (s := fun _ => 0) (v := fun _ => 0) hne hne5 hD (fun q hq => (ok7 q hq).1) hP
  have g7 : ∀ q, q ∈ gL (n8 c1 c2 c3 c4 c5 D (wX c1 c3 c4 c5 x u0)) → s.heap.size ≤ q := fun q h => hD.at h
  have hD0 : va_D (fun q => s.heap.size ≤ q) ([] : va_W) := ⟨fun i j p q hp _ _ => by simp at hp, fun k q hk => by simp at hk⟩
  have t8 := nT (c1 := c1) (c2 := c2) (c3 := c3) (c4 := c4) (c5 := c5) (D := D) (s := fun _ => 0) (v := fun _ => 0) hD0 (fun q h => absurd h List.not_mem_nil)
  obtain ⟨Ω, hΩ, hQ⟩ := o_ex (N := 2000) (ρ := ρ) (L := L) (xs := xs) (sa := sa) t7 kx (by decide)
  have hF : yF (p, l, e, s, m, below, meth, c, b, n8 c1 c2 c3 c4 c5 D (wX c1 c3 c4 c5 x u0), n8 c1 c2 c3 c4 c5 D []) L xs ρ x sa :=
    ⟨C0, hL, hst, ⟨hx, hb, hml, hown, htM, hlk, hr, rfl, rfl, hK, t7, e_Z hts _⟩, ⟨hx, hb, hml, hown, htM, hlk, hr, rfl, rfl, hK, t8, e_Z hts _⟩, ⟨ly, kx, hxz _ g7⟩, fun q h => ⟨g7 q h, List.not_mem_nil⟩, fun q h => absurd h List.not_mem_nil, rfl⟩
  exact l_A hF hΩ hQ (by decide) rfl hK hne hne5 hN.2.1 ⟨cr, r7.1 210 _⟩ r7 w7 hS (lv_sub hl [1, 0] rfl)
