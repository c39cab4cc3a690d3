/-! MACHINE: what the law's entry gives: the classes, the nest's links, the statics -/
theorem e_g {args : Array Value} {s : State} (h : (Jvm.Cond.and given_1 narrow_1).before args s = true) (k : Nat) {w : Cond} (hk : (flatC (Jvm.Cond.and given_1 narrow_1))[k]? = some w) : w.before args s = true := flat_of_before _ h w (List.mem_of_getElem? hk)
theorem e_t {args : Array Value} {s : State} (h : ∀ w ∈ lw_tbl, w.before args s = true) (k : Nat) {w : Cond} (hk : lw_tbl[k]? = some w) : w.before args s = true := h w (List.mem_of_getElem? hk)
section ENTRY
variable {s : State} {args : Array Value}
theorem e_Z (hts : ∀ w ∈ lw_tbl, w.before args s = true) (G : qG) : qZ G s := ⟨va_Nw.of rfl (e_t hts 327 (by decide +kernel)), va_Nw.of rfl (e_t hts 330 (by decide +kernel))⟩
theorem e_x (hts : ∀ w ∈ lw_tbl, w.before args s = true) (hg : (Jvm.Cond.and given_1 narrow_1).before args s = true) : ∃ sa : Nat × Nat × Nat, ∀ G : qG, (∀ q, q ∈ gL G → s.heap.size ≤ q) → xZ G sa s := by
  obtain ⟨a0, _, _, _, v0, -⟩ := Cond.exactly_spec (args := args) (first := s) (o := none) (s := s) (idx := []) (t := .string "ProRataMarket" 142) (cls := "java/lang/String") (e_g hg 14 (w := .exactly (.string "ProRataMarket" 142) "java/lang/String") (by decide +kernel))
  obtain ⟨a1, _, _, _, v1, -⟩ := Cond.exactly_spec (args := args) (first := s) (o := none) (s := s) (idx := []) (t := .string "ProRataMarket" 163) (cls := "java/lang/String") (e_g hg 37 (w := .exactly (.string "ProRataMarket" 163) "java/lang/String") (by decide +kernel))
  obtain ⟨a2, _, _, _, v2, -⟩ := Cond.exactly_spec (args := args) (first := s) (o := none) (s := s) (idx := []) (t := .string "ProRataMarket" 275) (cls := "java/lang/String") (e_g hg 56 (w := .exactly (.string "ProRataMarket" 275) "java/lang/String") (by decide +kernel))
  refine ⟨(a0, a1, a2), fun G hL => ⟨⟨va_Nw.of rfl (e_t hts 434 (by decide +kernel)), va_Nw.of rfl (e_t hts 436 (by decide +kernel)), va_Nw.of rfl (e_t hts 438 (by decide +kernel)), va_Nw.of rfl (e_t hts 432 (by decide +kernel))⟩, ⟨vk_R.of (e_t hts 469 (by decide +kernel)) v0, vk_R.of (e_t hts 497 (by decide +kernel)) v1, vk_R.of (e_t hts 531 (by decide +kernel)) v2⟩, ?_, ?_⟩⟩
  · exact vx_Zqof (e_t hts 457 (by decide +kernel)) (e_t hts 19 (by decide +kernel)) (e_g hg 4 (by decide +kernel)) (fun a ha h => absurd ha (Nat.not_lt.mpr (hL a h)))
  · exact vx_Zqof (e_t hts 459 (by decide +kernel)) (e_t hts 19 (by decide +kernel)) (e_g hg 5 (by decide +kernel)) (fun a ha h => absurd ha (Nat.not_lt.mpr (hL a h)))
theorem e_N (hts : ∀ w ∈ lw_tbl, w.before args s = true) : kN s := ⟨va_AO.of (e_t hts 44 (by decide +kernel)), (show (Cond.arrayOver (.array .int)).before args s = true from e_t hts 112 (by decide +kernel)), va_Nw.of rfl (e_t hts 46 (by decide +kernel)), va_Nw.of rfl (e_t hts 107 (by decide +kernel)), va_Nw.of rfl (e_t hts 142 (by decide +kernel)), va_Nw.of rfl (e_t hts 181 (by decide +kernel)), va_Nw.of rfl (e_t hts 193 (by decide +kernel)), va_Nw.of rfl (e_t hts 33 (by decide +kernel)), va_Nw.of rfl (e_t hts 242 (by decide +kernel))⟩
theorem e_K (hts : ∀ w ∈ lw_tbl, w.before args s = true) : ∃ (D : va_G) (c1 c2 c3 c4 c5 : ClassId), va_K D vwCl [(c1, .int), (c2, .byte), (c3, .long), (c4, .object RX4), (c5, .array .int)] s := by
  obtain ⟨d0, i0, h0⟩ := u_known (C := RX0) (T := TX0) (N := 4) (n := 4) hts (fun w hw => (wl_19 w hw).1) (e_t hts 38 (by decide +kernel))
  obtain ⟨d1, i1, h1⟩ := u_known (C := RX1) (T := TX1) (N := 3) (n := 3) hts (fun w hw => (wl_22 w hw).1) (e_t hts 180 (by decide +kernel))
  obtain ⟨d2, i2, h2⟩ := u_known (C := RX2) (T := TX2) (N := 12) (n := 12) hts (fun w hw => (wl_17 w hw).1) (e_t hts 32 (by decide +kernel))
  obtain ⟨d3, i3, h3⟩ := u_known (C := RX3) (T := TX3) (N := 7) (n := 7) hts (fun w hw => (wl_20 w hw).1) (e_t hts 106 (by decide +kernel))
  obtain ⟨d4, i4, h4⟩ := u_known (C := RX4) (T := TX4) (N := 6) (n := 6) hts (fun w hw => (wl_23 w hw).1) (e_t hts 45 (by decide +kernel))
  obtain ⟨d5, i5, h5⟩ := u_known (C := RX5) (T := TX5) (N := 8) (n := 8) hts (fun w hw => (wl_21 w hw).1) (e_t hts 141 (by decide +kernel))
  obtain ⟨d6, i6, h6⟩ := u_known (C := RX6) (T := TX6) (N := 12) (n := 12) hts (fun w hw => (wl_18 w hw).1) (e_t hts 241 (by decide +kernel))
  obtain ⟨d7, i7, h7⟩ := u_known (C := RX7) (T := TX7) (N := 3) (n := 3) hts (fun w hw => (wl_16 w hw).1) (e_t hts 24 (by decide +kernel))
  obtain ⟨c1, k1, p1, f1, g1, t1⟩ := Cond.arrayClass_spec (type := .int) (show (Cond.arrayClass .int).before args s = true from e_t hts 85 (by decide +kernel))
  obtain ⟨c2, k2, p2, f2, g2, t2⟩ := Cond.arrayClass_spec (type := .byte) (show (Cond.arrayClass .byte).before args s = true from e_t hts 495 (by decide +kernel))
  obtain ⟨c3, k3, p3, f3, g3, t3⟩ := Cond.arrayClass_spec (type := .long) (show (Cond.arrayClass .long).before args s = true from e_t hts 139 (by decide +kernel))
  obtain ⟨p4, c4, k4, e4, -, g4, t4, f4⟩ := Cond.arrayOver_spec (n := RX4) (show (Cond.arrayOver (.object RX4)).before args s = true from e_t hts 44 (by decide +kernel))
  obtain ⟨p5, c5, k5, -, -, g5, t5, f5⟩ := arrayOverA_spec (t := .int) (show (Cond.arrayOver (.array .int)).before args s = true from e_t hts 112 (by decide +kernel))
  refine ⟨(fun c => [d0, d1, d2, d3, d4, d5, d6, d7].getD c d0, fun c => [i0, i1, i2, i3, i4, i5, i6, i7].getD c i0), c1, c2, c3, c4, c5, ?_, ?_⟩
  · intro c q h
    match c, h with
    | 0, h => cases (Option.some.inj h : (RX0, TX0, 4) = q); exact h0
    | 1, h => cases (Option.some.inj h : (RX1, TX1, 3) = q); exact h1
    | 2, h => cases (Option.some.inj h : (RX2, TX2, 12) = q); exact h2
    | 3, h => cases (Option.some.inj h : (RX3, TX3, 7) = q); exact h3
    | 4, h => cases (Option.some.inj h : (RX4, TX4, 6) = q); exact h4
    | 5, h => cases (Option.some.inj h : (RX5, TX5, 8) = q); exact h5
    | 6, h => cases (Option.some.inj h : (RX6, TX6, 12) = q); exact h6
    | 7, h => cases (Option.some.inj h : (RX7, TX7, 3) = q); exact h7
    | n + 8, h => exact absurd h (by rw [show vwCl[n + 8]? = none from List.getElem?_eq_none (Nat.le_add_left 8 n)]; exact fun h => by cases h)
  · intro k q h
    match k, h with
    | 0, h => cases (Option.some.inj h : (c1, FieldType.int) = q); exact ⟨fun n z => ⟨fun k h => (by cases h), k1, g1, p1, t1⟩, f1⟩
    | 1, h => cases (Option.some.inj h : (c2, FieldType.byte) = q); exact ⟨fun n z => ⟨fun k h => (by cases h), k2, g2, p2, t2⟩, f2⟩
    | 2, h => cases (Option.some.inj h : (c3, FieldType.long) = q); exact ⟨fun n z => ⟨fun k h => (by cases h), k3, g3, p3, t3⟩, f3⟩
    | 3, h => cases (Option.some.inj h : (c4, FieldType.object RX4) = q); exact ⟨fun n z => ⟨fun k h => (by cases h), k4, g4, p4, t4⟩, k4, p4, g4, t4, e4, f4⟩
    | 4, h => cases (Option.some.inj h : (c5, FieldType.array .int) = q); exact ⟨fun n z => ⟨fun k h => (by cases h), k5, g5, p5, t5⟩, f5⟩
    | n + 5, h => exact absurd h (by rw [List.getElem?_eq_none (Nat.le_add_left 5 n)]; exact fun h => by cases h)
end ENTRY
