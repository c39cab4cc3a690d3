/-! MACHINE: what the law's entry gives: the classes, the nest's links, the statics, the string constants -/
theorem e_g {args : Array Value} {s : State} (h : (Jvm.Cond.and given_1 narrow_1).before args s = true) (k : Nat) {w : Cond} (hk : (flatC (Jvm.Cond.and given_1 narrow_1))[k]? = some w) : w.before args s = true := flat_of_before _ h w (List.mem_of_getElem? hk)
theorem e_t {args : Array Value} {s : State} (h : ∀ w ∈ lw_tbl, w.before args s = true) (k : Nat) {w : Cond} (hk : lw_tbl[k]? = some w) : w.before args s = true := h w (List.mem_of_getElem? hk)
abbrev tmK (i : Nat) : Term := .string "ProRataMarket$Tape" (qLits.getD i (0, "")).1
def eP (L : List Nat) (i : Nat) : Nat := L.getD i 0
set_option maxRecDepth 100000 in
theorem e_ex : ∀ i : Nat, i < 12 → (flatC (Jvm.Cond.and given_1 narrow_1))[eP [20, 27, 36, 45, 55, 68, 82, 96, 111, 127, 144, 162] i]? = some (Cond.exactly (tmK i) "java/lang/String") := by decide +kernel
set_option maxRecDepth 100000 in
theorem e_co : ∀ i : Nat, i < 12 → (flatC (Jvm.Cond.and given_1 narrow_1))[eP [21, 28, 37, 46, 56, 69, 83, 97, 112, 128, 145, 163] i]? = some (Cond.eq (.field (tmK i) "java/lang/String" "coder" "B") (.int 0)) := by decide +kernel
set_option maxRecDepth 100000 in
theorem e_ar : ∀ i : Nat, i < 12 → (flatC (Jvm.Cond.and given_1 narrow_1))[eP [22, 29, 38, 47, 57, 70, 84, 98, 113, 129, 146, 164] i]? = some (Cond.arrayOf (.field (tmK i) "java/lang/String" "value" "[B") .byte) := by decide +kernel
set_option maxRecDepth 100000 in
theorem e_le : ∀ i : Nat, i < 12 → (flatC (Jvm.Cond.and given_1 narrow_1))[eP [23, 30, 39, 48, 58, 71, 85, 99, 114, 130, 147, 165] i]? = some (Cond.eq (.length (.field (tmK i) "java/lang/String" "value" "[B")) (.int (Int32.ofNat (qLen.getD i 0)))) := by decide +kernel
set_option maxRecDepth 100000 in
theorem e_el : ∀ i : Nat, i < 12 → ∀ j : Nat, j < qLen.getD i 0 → (flatC (Jvm.Cond.and given_1 narrow_1))[eP [24, 31, 40, 49, 59, 72, 86, 100, 115, 131, 148, 166] i + j]? = some (Cond.eq (.elem (.field (tmK i) "java/lang/String" "value" "[B") (.int (Int32.ofNat j))) (.int ((qByt.getD i []).getD j 0))) := by decide +kernel
set_option maxRecDepth 100000 in
theorem e_ne : ∀ j : Nat, j < 12 → ∀ i : Nat, i < j → (flatC (Jvm.Cond.and given_1 narrow_1))[eP [0, 35, 43, 52, 64, 77, 90, 104, 119, 135, 152, 170] j + i]? = some (Cond.not (Cond.eq (tmK i) (tmK j))) := by decide +kernel
set_option maxRecDepth 100000 in
theorem e_sr : ∀ i : Nat, i < 12 → lw_tbl[eP [441, 442, 443, 444, 445, 446, 447, 448, 452, 453, 454, 455] i]? = some (Cond.stringRef "ProRataMarket$Tape" (qLits.getD i (0, "")).1 (qLits.getD i (0, "")).2) := by decide +kernel
section ENTRY
variable {s : State} {args : Array Value}
theorem e_str (hts : ∀ w ∈ lw_tbl, w.before args s = true) (hg : (Jvm.Cond.and given_1 narrow_1).before args s = true) : ∃ S V : Nat → Nat, (∀ i, i < 12 → vk_R "ProRataMarket$Tape" (qLits.getD i (0, "")).1 (qLits.getD i (0, "")).2 (S i) s) ∧ vk_S 12 qLen qByt S V (fun q => s.heap.size ≤ q) s s.heap := by
  obtain ⟨S, V, h1, h2⟩ := vk_Sof (A := fun q => s.heap.size ≤ q) (N := 12) (tm := tmK) (len := qLen) (byt := qByt) (fun i hi => by have := (qLit_all i hi).2.1; omega) (fun i hi => e_g hg _ (e_ex i hi)) (fun i hi => e_g hg _ (e_co i hi)) (fun i hi => e_g hg _ (e_ar i hi)) (fun i hi => e_g hg _ (e_le i hi)) (fun i hi j hj => e_g hg _ (e_el i hi j hj)) (fun i j hi hj hne => by
    rcases Nat.lt_or_gt_of_ne hne with q | q
    · exact Or.inl (e_g hg _ (e_ne j hj i q))
    · exact Or.inr (e_g hg _ (e_ne i hi j q))) (fun a ha => Nat.not_le.mpr ha)
  exact ⟨S, V, fun i hi => vk_R.of (e_t hts _ (e_sr i hi)) (h2 i hi), h1⟩
theorem e_Z (hts : ∀ w ∈ lw_tbl, w.before args s = true) (hg : (Jvm.Cond.and given_1 narrow_1).before args s = true) : ∃ S V : Nat → Nat, ∀ G : qG, gS G = S → gV G = V → (∀ q, q ∈ gL G → s.heap.size ≤ q) → qZ G s := by
  obtain ⟨S, V, h1, h2⟩ := e_str hts hg
  refine ⟨S, V, fun G e1 e2 hL => ⟨va_Nw.of rfl (e_t hts 554 (by decide +kernel)), va_Nw.of rfl (e_t hts 557 (by decide +kernel)), ?_, ?_, ?_, ?_⟩⟩
  · exact va_Zof (e_t hts 469 (by decide +kernel)) (e_t hts 87 (by decide +kernel)) (va_eqi (e_g hg 4 (by decide +kernel))) (fun a ha h => absurd ha (Nat.not_lt.mpr (hL a h)))
  · rw [e1]; exact h1
  · rw [e1, e2]; exact h2.narrow (fun q h => hL q h)
  · exact va_Zqof (e_t hts 485 (by decide +kernel)) (e_t hts 89 (by decide +kernel)) (e_g hg 5 (by decide +kernel)) (fun a ha h => absurd ha (Nat.not_lt.mpr (hL a h)))
theorem e_x (hts : ∀ w ∈ lw_tbl, w.before args s = true) (hg : (Jvm.Cond.and given_1 narrow_1).before args s = true) : ∃ sa : Nat × Nat × Nat, ∀ G : qG, (∀ q, q ∈ gL G → s.heap.size ≤ q) → xZ G sa s := by
  obtain ⟨a0, _, _, _, v0, -⟩ := Cond.exactly_spec (args := args) (first := s) (o := none) (s := s) (idx := []) (t := .string "ProRataMarket" 142) (cls := "java/lang/String") (e_g hg 181 (w := .exactly (.string "ProRataMarket" 142) "java/lang/String") (by decide +kernel))
  obtain ⟨a1, _, _, _, v1, -⟩ := Cond.exactly_spec (args := args) (first := s) (o := none) (s := s) (idx := []) (t := .string "ProRataMarket" 163) (cls := "java/lang/String") (e_g hg 216 (w := .exactly (.string "ProRataMarket" 163) "java/lang/String") (by decide +kernel))
  obtain ⟨a2, _, _, _, v2, -⟩ := Cond.exactly_spec (args := args) (first := s) (o := none) (s := s) (idx := []) (t := .string "ProRataMarket" 275) (cls := "java/lang/String") (e_g hg 247 (w := .exactly (.string "ProRataMarket" 275) "java/lang/String") (by decide +kernel))
  refine ⟨(a0, a1, a2), fun G hL => ⟨⟨va_Nw.of rfl (e_t hts 866 (by decide +kernel)), va_Nw.of rfl (e_t hts 868 (by decide +kernel)), va_Nw.of rfl (e_t hts 870 (by decide +kernel)), va_Nw.of rfl (e_t hts 864 (by decide +kernel))⟩, ⟨vk_R.of (e_t hts 901 (by decide +kernel)) v0, vk_R.of (e_t hts 928 (by decide +kernel)) v1, vk_R.of (e_t hts 936 (by decide +kernel)) v2⟩, ?_, ?_⟩⟩
  · exact vx_Zqof (e_t hts 889 (by decide +kernel)) (e_t hts 91 (by decide +kernel)) (e_g hg 9 (by decide +kernel)) (fun a ha h => absurd ha (Nat.not_lt.mpr (hL a h)))
  · exact vx_Zqof (e_t hts 891 (by decide +kernel)) (e_t hts 91 (by decide +kernel)) (e_g hg 10 (by decide +kernel)) (fun a ha h => absurd ha (Nat.not_lt.mpr (hL a h)))
theorem e_N (hts : ∀ w ∈ lw_tbl, w.before args s = true) : kN s := ⟨va_AO.of (e_t hts 116 (by decide +kernel)), (show (Cond.arrayOver (.array .int)).before args s = true from e_t hts 191 (by decide +kernel)), va_Nw.of rfl (e_t hts 118 (by decide +kernel)), va_Nw.of rfl (e_t hts 186 (by decide +kernel)), va_Nw.of rfl (e_t hts 224 (by decide +kernel)), va_Nw.of rfl (e_t hts 264 (by decide +kernel)), va_Nw.of rfl (e_t hts 284 (by decide +kernel)), va_Nw.of rfl (e_t hts 105 (by decide +kernel)), va_Nw.of rfl (e_t hts 336 (by decide +kernel))⟩
theorem e_K (hts : ∀ w ∈ lw_tbl, w.before args s = true) : ∃ (D : va_G) (c1 c2 c3 c4 c5 : ClassId), va_K D vwCl [(c1, .int), (c2, .byte), (c3, .long), (c4, .object RX4), (c5, .array .int)] s := by
  obtain ⟨d0, i0, h0⟩ := u_known (C := RX0) (T := TX0) (N := 4) (n := 4) hts (fun w hw => (wl_49 w hw).1) (e_t hts 110 (by decide +kernel))
  obtain ⟨d1, i1, h1⟩ := u_known (C := RX1) (T := TX1) (N := 3) (n := 3) hts (fun w hw => (wl_52 w hw).1) (e_t hts 263 (by decide +kernel))
  obtain ⟨d2, i2, h2⟩ := u_known (C := RX2) (T := TX2) (N := 12) (n := 12) hts (fun w hw => (wl_47 w hw).1) (e_t hts 104 (by decide +kernel))
  obtain ⟨d3, i3, h3⟩ := u_known (C := RX3) (T := TX3) (N := 7) (n := 7) hts (fun w hw => (wl_50 w hw).1) (e_t hts 185 (by decide +kernel))
  obtain ⟨d4, i4, h4⟩ := u_known (C := RX4) (T := TX4) (N := 6) (n := 6) hts (fun w hw => (wl_53 w hw).1) (e_t hts 117 (by decide +kernel))
  obtain ⟨d5, i5, h5⟩ := u_known (C := RX5) (T := TX5) (N := 8) (n := 8) hts (fun w hw => (wl_51 w hw).1) (e_t hts 223 (by decide +kernel))
  obtain ⟨d6, i6, h6⟩ := u_known (C := RX6) (T := TX6) (N := 12) (n := 12) hts (fun w hw => (wl_48 w hw).1) (e_t hts 335 (by decide +kernel))
  obtain ⟨d7, i7, h7⟩ := u_known (C := RX7) (T := TX7) (N := 3) (n := 3) hts (fun w hw => (wl_45 w hw).1) (e_t hts 96 (by decide +kernel))
  obtain ⟨d8, i8, h8⟩ := u_known (C := RX8) (T := TX8) (N := 32) (n := 32) hts (fun w hw => (wl_46 w hw).1) (e_t hts 945 (by decide +kernel))
  obtain ⟨c1, k1, p1, f1, g1, t1⟩ := Cond.arrayClass_spec (type := .int) (show (Cond.arrayClass .int).before args s = true from e_t hts 162 (by decide +kernel))
  obtain ⟨c2, k2, p2, f2, g2, t2⟩ := Cond.arrayClass_spec (type := .byte) (show (Cond.arrayClass .byte).before args s = true from e_t hts 699 (by decide +kernel))
  obtain ⟨c3, k3, p3, f3, g3, t3⟩ := Cond.arrayClass_spec (type := .long) (show (Cond.arrayClass .long).before args s = true from e_t hts 221 (by decide +kernel))
  obtain ⟨p4, c4, k4, e4, -, g4, t4, f4⟩ := Cond.arrayOver_spec (n := RX4) (show (Cond.arrayOver (.object RX4)).before args s = true from e_t hts 116 (by decide +kernel))
  obtain ⟨p5, c5, k5, -, -, g5, t5, f5⟩ := arrayOverA_spec (t := .int) (show (Cond.arrayOver (.array .int)).before args s = true from e_t hts 191 (by decide +kernel))
  refine ⟨(fun c => [d0, d1, d2, d3, d4, d5, d6, d7, d8].getD c d0, fun c => [i0, i1, i2, i3, i4, i5, i6, i7, i8].getD c i0), c1, c2, c3, c4, c5, ?_, ?_⟩
  · intro c q h
    match c, h with
    | 0, h => cases (Option.some.inj h : (RX0, TX0, 4) = q); exact h0
    | 1, h => cases (Option.some.inj h : (RX1, TX1, 3) = q); exact h1
    | 2, h => cases (Option.some.inj h : (RX2, TX2, 12) = q); exact h2
    | 3, h => cases (Option.some.inj h : (RX3, TX3, 7) = q); exact h3
    | 4, h => cases (Option.some.inj h : (RX4, TX4, 6) = q); exact h4
    | 5, h => cases (Option.some.inj h : (RX5, TX5, 8) = q); exact h5
    | 6, h => cases (Option.some.inj h : (RX6, TX6, 12) = q); exact h6
    | 7, h => cases (Option.some.inj h : (RX7, TX7, 3) = q); exact h7
    | 8, h => cases (Option.some.inj h : (RX8, TX8, 32) = q); exact h8
    | n + 9, h => exact absurd h (by rw [show vwCl[n + 9]? = none from List.getElem?_eq_none (Nat.le_add_left 9 n)]; exact fun h => by cases h)
  · intro k q h
    match k, h with
    | 0, h => cases (Option.some.inj h : (c1, FieldType.int) = q); exact ⟨fun n z => ⟨fun k h => (by cases h), k1, g1, p1, t1⟩, f1⟩
    | 1, h => cases (Option.some.inj h : (c2, FieldType.byte) = q); exact ⟨fun n z => ⟨fun k h => (by cases h), k2, g2, p2, t2⟩, f2⟩
    | 2, h => cases (Option.some.inj h : (c3, FieldType.long) = q); exact ⟨fun n z => ⟨fun k h => (by cases h), k3, g3, p3, t3⟩, f3⟩
    | 3, h => cases (Option.some.inj h : (c4, FieldType.object RX4) = q); exact ⟨fun n z => ⟨fun k h => (by cases h), k4, g4, p4, t4⟩, k4, p4, g4, t4, e4, f4⟩
    | 4, h => cases (Option.some.inj h : (c5, FieldType.array .int) = q); exact ⟨fun n z => ⟨fun k h => (by cases h), k5, g5, p5, t5⟩, f5⟩
    | n + 5, h => exact absurd h (by rw [List.getElem?_eq_none (Nat.le_add_left 5 n)]; exact fun h => by cases h)
end ENTRY
