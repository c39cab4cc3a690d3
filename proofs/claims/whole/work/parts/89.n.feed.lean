/-! PURE: 'feed' -/
theorem iByte_bd (a : Int) : -128 ≤ iByte a ∧ iByte a ≤ 127 := by
  have h1 := Int8.toInt_lt (iZ a).toInt8
  have h2 := Int8.le_toInt (iZ a).toInt8
  unfold iByte
  rw [Int8.toInt_toInt32]
  omega
theorem iByte_and (a : Int) : iByte (iAnd a 255) = iByte a := by
  unfold iByte iAnd
  rw [iZ_of, Int32.toInt8_and, show (iZ 255).toInt8 = -1 by decide, Int8.and_neg_one]
theorem iAnd_bd (a : Int) : 0 ≤ iAnd a 255 ∧ iAnd a 255 < 256 := by
  unfold iAnd
  have e : (iZ a &&& iZ 255).toInt = ((iZ a).toBitVec &&& 255#32).toInt := by
    show (iZ a &&& iZ 255).toBitVec.toInt = _
    rw [Int32.toBitVec_and]
    rfl
  rw [e]
  have n : ((iZ a).toBitVec &&& 255#32).toNat ≤ 255 := by
    rw [BitVec.toNat_and]
    exact Nat.and_le_right
  have m : ((iZ a).toBitVec &&& 255#32).msb = false := by
    rw [BitVec.msb_eq_decide]
    exact decide_eq_false (by omega)
  rw [BitVec.toInt_eq_toNat_of_msb m]
  omega
theorem iAnd_iByte {b : Int} (h : 0 ≤ b ∧ b < 256) : iAnd (iByte b) 255 = b := by
  have key : ∀ k : Fin 256, iAnd (iByte (k.val : Int)) 255 = (k.val : Int) := by decide +kernel
  have := key ⟨b.toNat, by omega⟩
  rw [show (((⟨b.toNat, by omega⟩ : Fin 256).val : Nat) : Int) = b by show ((b.toNat : Nat) : Int) = b; omega] at this
  exact this
/-- j bytes of a word behind n -/
def fdB (B : Nat → Int) (n : Nat) (v : Int) (j i : Nat) : Int := if n ≤ i ∧ i < n + j then iAnd (iShr v (24 - 8 * ((i - n : Nat) : Int))) 255 else B i
def fd5 (B : Nat → Int) (n : Nat) (a b c d e : Int) : Nat → Int := fdB (fdB (fdB (fdB (fdB B n a 4) (n + 4) b 4) (n + 8) c 4) (n + 12) d 4) (n + 16) e 4
theorem fdB_s {B : Nat → Int} {n : Nat} {v : Int} {j i : Nat} : fdB B n v (j + 1) i = if i = n + j then iAnd (iShr v (24 - 8 * (j : Int))) 255 else fdB B n v j i := by
  unfold fdB
  by_cases c : i = n + j
  · subst c
    rw [if_pos ⟨by omega, by omega⟩, if_pos rfl, show n + j - n = j by omega]
  · rw [if_neg c]
    by_cases d : n ≤ i ∧ i < n + j
    · rw [if_pos d, if_pos ⟨d.1, by omega⟩]
    · rw [if_neg d, if_neg (by omega)]
/-- the tape alone changes -/
def pTa (x : Nat) (q : Nat × Nat) : Prop := q.1 = x
section FEED
variable {N : Nat} {G : qG} {ρ : Nat → Nat × Nat} {x m n : Nat} {μ ν : qM} {l : List (Nat → Int)} {T D : Nat → Int} {tr : Nat → Nat → Int} {B : Nat → Int} {v : Int}
theorem z_put6 (hp : ρ (gR G 702 x) = (x, 702)) (h6 : ρ (gR G 600 (gR G 702 x)) = (x, 600)) (h : cTa G (gR G 702 x) μ n B) (hn : n + 4 ≤ 500) (hN : 100 < N) (v : Int) :
    ∃ ν, f_X6_put N G (gR G 702 x) v μ = some ν ∧ dP ρ (pTa x) μ ν ∧ cTa G (gR G 702 x) ν (n + 4) (fdB B n v 4) := by
  obtain ⟨h1, h2, h3⟩ := h
  unfold f_X6_put f_X6_put_L3
  refine qLoop_inv
    (fun j st => ∃ mem, st = (gR G 702 x, v, 24 - 8 * (j : Int), mem) ∧ dP ρ (pTa x) μ mem ∧ gI mem 601 (gR G 702 x) = ((n + j : Nat) : Int) ∧ ∀ i, i < n + j → gA mem (gR G 600 (gR G 702 x)) i = fdB B n v j i ∧ 0 ≤ fdB B n v j i ∧ fdB B n v j i < 256)
    (fun r => ∃ ν, r = some ν ∧ dP ρ (pTa x) μ ν ∧ cTa G (gR G 702 x) ν (n + 4) (fdB B n v 4))
    4 ?_ ?_ 4 0 N _ (by omega) (by omega) ⟨μ, rfl, dP.rf, h1, fun i hi => by
      have e : fdB B n v 0 i = B i := if_neg (by omega)
      rw [e]; exact h3 i hi⟩
  · rintro j st hj ⟨mem, rfl, hd, g1, g3⟩
    refine Or.inr ?_
    have bd := iAnd_bd (iShr v (24 - 8 * (j : Int)))
    refine ⟨_, ⟨sI (sA mem (gR G 600 (gR G 702 x)) (n + j) (iAnd (iShr v (24 - 8 * (j : Int))) 255)) 601 (gR G 702 x) ((n + (j + 1) : Nat) : Int), rfl, (hd.tr (dP.sA (by rw [h6]; rfl))).tr (dP.sI (by rw [hp]; rfl)), gI_s, fun i hi => ?_⟩, fun k => ?_⟩
    · rw [gA_sI, fdB_s]
      by_cases c : i = n + j
      · subst c
        rw [gA_s, if_pos rfl]
        exact ⟨rfl, bd⟩
      · rw [gA_i c, if_neg c]
        exact g3 i (by omega)
    · show f_X6_put_3 N G _ (gR G 702 x) v (24 - 8 * (j : Int)) mem = _
      unfold f_X6_put_3
      rw [if_neg (by omega), g1, if_pos (by omega), kp_p, kp_p, wrA_p ⟨by omega, by omega⟩, Int.toNat_natCast, gI_sA, g1, ckI_p ⟨by omega, by omega⟩, kp_p, ckI_p ⟨by omega, by omega⟩, show ((n + j : Nat) : Int) + 1 = ((n + (j + 1) : Nat) : Int) by omega, show 24 - 8 * (j : Int) + (-8) = 24 - 8 * ((j + 1 : Nat) : Int) by omega]
  · rintro st ⟨mem, rfl, hd, g1, g3⟩
    refine ⟨_, ⟨mem, rfl, hd, g1, hn, g3⟩, fun k => ?_⟩
    show f_X6_put_3 N G _ (gR G 702 x) v (24 - 8 * ((4 : Nat) : Int)) mem = _
    unfold f_X6_put_3
    rw [if_pos (by decide)]
/-- after what changes the tape alone -/
theorem cR.tape {n' : Nat} {B' : Nat → Int} (hy : cLY G ρ x) (hl : l.length ≤ 60) (h : cR G ρ x μ l T D tr n B) (hd : dP ρ (pTa x) μ ν) (ht : cTa G (gR G 702 x) ν n' B') : cR G ρ x ν l T D tr n' B' := by
  obtain ⟨⟨A, V, nx, hf⟩, h2, -⟩ := h
  exact ⟨⟨A, V, nx, hf.frm hy.1 hl hd (fun k _ q => hy.2.2.2.1 q.symm)⟩, h2.fr hy.2.1 (Ne.symm hy.2.2.2.2.1) (hd.role (fun _ q => q)), ht⟩
theorem z_feed7 (hy : cLY G ρ x) (hl : l.length ≤ 60) (h : cR G ρ x μ l T D tr n B) (hN : 100 < N) (a b c d e : Int) :
    ∃ ν, f_X7_feed N G x a b c d e μ = some (if 480 < n then -1 else (n : Int) + 20, ν) ∧ cR G ρ x ν l T D tr (if 480 < n then n else n + 20) (if 480 < n then B else fd5 B n a b c d e) := by
  have hta := h.2.2
  have h5 := hta.2.1
  unfold f_X7_feed
  rw [hta.1, ckI_p ⟨by omega, by omega⟩]
  by_cases q : 480 < n
  · rw [if_pos q, if_pos q, if_pos q, if_pos (by omega)]
    exact ⟨μ, rfl, h⟩
  · obtain ⟨m1, a1, a2, a3⟩ := z_put6 (N := N) hy.2.2.2.2.2.1 hy.2.2.2.2.2.2.1 hta (by omega) hN a
    obtain ⟨m2, b1, b2, b3⟩ := z_put6 (N := N) hy.2.2.2.2.2.1 hy.2.2.2.2.2.2.1 a3 (by omega) hN b
    obtain ⟨m3, c1, c2, c3⟩ := z_put6 (N := N) hy.2.2.2.2.2.1 hy.2.2.2.2.2.2.1 b3 (by omega) hN c
    obtain ⟨m4, d1, d2, d3⟩ := z_put6 (N := N) hy.2.2.2.2.2.1 hy.2.2.2.2.2.2.1 c3 (by omega) hN d
    obtain ⟨m5, e1, e2, e3⟩ := z_put6 (N := N) hy.2.2.2.2.2.1 hy.2.2.2.2.2.2.1 d3 (by omega) hN e
    rw [if_neg q, if_neg q, if_neg q, if_neg (by omega), kb_p a1, kb_p b1, kb_p c1, kb_p d1, kb_p e1, e3.1]
    refine ⟨m5, ?_, h.tape hy hl ((((a2.tr b2).tr c2).tr d2).tr e2) e3⟩
    congr 2
theorem z_puts8 (hL : mL G m) (h : mR G m μ l T D tr n B) (hn : n + 4 ≤ 500) (hN : 100 < N) (v : Int) :
    ∃ ν, f_X8_puts N G m v μ = some ν ∧ mR G m ν l T D tr (n + 4) (fdB B n v 4) := by
  have n0 : gR G 800 m ≠ gR G 821 m := hL.ne (by decide) (by decide) (by decide)
  have n2 : gR G 802 m ≠ gR G 821 m := hL.ne (by decide) (by decide) (by decide)
  unfold f_X8_puts f_X8_puts_L3
  refine qLoop_inv
    (fun j st => ∃ mem, st = (m, v, 24 - 8 * (j : Int), mem) ∧ mR G m mem l T D tr (n + j) (fdB B n v j))
    (fun r => ∃ ν, r = some ν ∧ mR G m ν l T D tr (n + 4) (fdB B n v 4))
    4 ?_ ?_ 4 0 N _ (by omega) (by omega) ⟨μ, rfl, h.1, h.2.1, h.2.2.1, h.2.2.2.1, h.2.2.2.2.1, h.2.2.2.2.2.1, fun i hi => by
      have e : fdB B n v 0 i = B i := if_neg (by omega)
      rw [e]; exact h.2.2.2.2.2.2 i hi⟩
  · rintro j st hj ⟨mem, rfl, g1, g2, g3, g4, g5, g6, g7⟩
    refine Or.inr ?_
    have bd := iByte_bd (iShr v (24 - 8 * (j : Int)))
    refine ⟨_, ⟨sI (sA mem (gR G 821 m) (n + j) (iByte (iShr v (24 - 8 * (j : Int))))) 822 m ((n + (j + 1) : Nat) : Int), rfl, ?_⟩, fun k => ?_⟩
    · refine ⟨⟨by rw [gA_sI, gA_a n0]; exact g1.1, fun i k hi hk => by rw [gA_sI, gA_a n0]; exact g1.2 i k hi hk⟩, fun i a b => by rw [gA_sI, gA_a n0]; exact g2 i a b, fun t ht => by rw [gA_sI, gA_a n2]; exact g3 t ht, fun i w a b => by rw [gA_sI, gA_a n0]; exact g4 i w a b, gI_s, by omega, fun i hi => ?_⟩
      rw [gA_sI, fdB_s]
      by_cases c : i = n + j
      · subst c
        rw [gA_s, if_pos rfl, iByte_and]
      · rw [gA_i c, if_neg c]
        exact g7 i (by omega)
    · show f_X8_puts_3 N G _ m v (24 - 8 * (j : Int)) mem = _
      unfold f_X8_puts_3
      rw [if_neg (by omega), kp_p, kp_p, g5, wrB_p ⟨by omega, by omega⟩ bd, Int.toNat_natCast, gI_sA, g5, ckI_p ⟨by omega, by omega⟩, kp_p, ckI_p ⟨by omega, by omega⟩, show ((n + j : Nat) : Int) + 1 = ((n + (j + 1) : Nat) : Int) by omega, show 24 - 8 * (j : Int) + (-8) = 24 - 8 * ((j + 1 : Nat) : Int) by omega]
  · rintro st ⟨mem, rfl, hm⟩
    refine ⟨_, ⟨mem, rfl, hm⟩, fun k => ?_⟩
    show f_X8_puts_3 N G _ m v (24 - 8 * ((4 : Nat) : Int)) mem = _
    unfold f_X8_puts_3
    rw [if_pos (by decide)]
theorem z_feed8 (hL : mL G m) (h : mR G m μ l T D tr n B) (hN : 100 < N) (a b c d e : Int) :
    ∃ ν, f_X8_feed N G m a b c d e μ = some (if 480 < n then -1 else (n : Int) + 20, ν) ∧ mR G m ν l T D tr (if 480 < n then n else n + 20) (if 480 < n then B else fd5 B n a b c d e) := by
  have h1 := h.fld (f := 804) (a := m) (v := 0) (by decide)
  have h5 := h.2.2.2.2.2.1
  unfold f_X8_feed
  rw [kp_p, h1.2.2.2.2.1, ckI_p ⟨by omega, by omega⟩]
  by_cases q : 480 < n
  · rw [if_pos q, if_pos q, if_pos q, if_pos (by omega)]
    exact ⟨_, rfl, h1⟩
  · obtain ⟨m1, a1, a2⟩ := z_puts8 (N := N) hL h1 (by omega) hN a
    obtain ⟨m2, b1, b2⟩ := z_puts8 (N := N) hL a2 (by omega) hN b
    obtain ⟨m3, c1, c2⟩ := z_puts8 (N := N) hL b2 (by omega) hN c
    obtain ⟨m4, d1, d2⟩ := z_puts8 (N := N) hL c2 (by omega) hN d
    obtain ⟨m5, e1, e2⟩ := z_puts8 (N := N) hL d2 (by omega) hN e
    rw [if_neg q, if_neg q, if_neg q, if_neg (by omega), kb_p a1, kb_p b1, kb_p c1, kb_p d1, kb_p e1, e2.2.2.2.2.1]
    refine ⟨m5, ?_, e2⟩
    congr 2
end FEED
