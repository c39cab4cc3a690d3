/-! PURE: 'share' of the reference -/
section SHR8
variable {N : Nat} {G : qG} {m : Nat} {μ ν : qM} {l : List (Nat → Int)} {T D : Nat → Int} {tr : Nat → Nat → Int} {n : Nat} {B : Nat → Int}
theorem mHas.frm {J : List Nat} (h : mHas G m μ l J) (hI : gI ν 805 m = gI μ 805 m) (h6 : ∀ i, gA ν (gR G 806 m) i = gA μ (gR G 806 m) i) (h7 : ∀ i, gA ν (gR G 807 m) i = gA μ (gR G 807 m) i) : mHas G m ν l J :=
  ⟨by rw [hI]; exact h.1, fun k hk => by rw [h6, h7]; exact h.2 k hk⟩
theorem z_laysFor8 (hL : mL G m) (h : mR G m μ l T D tr n B) (hn : l.length ≤ 60) (hN : 100 < N) (k : Int) :
    (aPlace k l = none → f_X8_laysFor N G m k μ = some (-1, μ)) ∧ ∀ i, aPlace k l = some i → ∃ ν, f_X8_laysFor N G m k μ = some (((aJ (lG l i 2) (lG l i 3) l i).length : Int), ν) ∧ dRf G m wF wA μ ν ∧ mHas G m ν l (aJ (lG l i 2) (lG l i 3) l l.length) := by
  unfold f_X8_laysFor
  rw [kb2_p (z_placeOf8 h.1 hn (by omega))]
  refine ⟨fun e => by rw [e, oI_none, if_pos (by decide)], fun i e => ?_⟩
  obtain ⟨-, hi, -, -⟩ := aPl_some e
  rw [Nat.zero_add] at hi
  obtain ⟨μ1, e1, e2, e3⟩ := z_lays8 (N := N) hL h hn hN (lG l i 2) (lG l i 3)
  rw [e, oI_some, if_neg (by omega), kb2_p (z8_2 h.1 hn hi), kb2_p (z8_3 h.1 hn hi), kb_p e1]
  refine ⟨μ1, ?_, e2, e3⟩
  obtain ⟨r1, r2⟩ := aJ_rk (s := lG l i 2) (p := lG l i 3) (l := l) hi aAt_self
  have hc := aJ_len (s := lG l i 2) (p := lG l i 3) (l := l) l.length
  have hmono := aJ_mono (s := lG l i 2) (p := lG l i 3) (l := l) l.length
  generalize (aJ (lG l i 2) (lG l i 3) l i).length = r at *
  generalize aJ (lG l i 2) (lG l i 3) l l.length = J at *
  unfold f_X8_laysFor_L30
  refine qLoop_end (fun j => (m, (i : Int), (j : Int), μ1)) r N (by omega) (fun j hj kk => ?_) (fun kk => ?_)
  · show f_X8_laysFor_30 N G _ m (i : Int) (j : Int) μ1 = _
    have q := (e3.2 j (by omega)).1
    have q2 := hmono j r hj r1
    unfold f_X8_laysFor_30
    rw [rdA_p ⟨by omega, by omega⟩, Int.toNat_natCast, q, if_neg (by omega), ckI_p ⟨by omega, by omega⟩, cast1]
  · show f_X8_laysFor_30 N G _ m (i : Int) (r : Int) μ1 = _
    have q := (e3.2 r r1).1
    unfold f_X8_laysFor_30
    rw [rdA_p ⟨by omega, by omega⟩, Int.toNat_natCast, q, if_pos (by omega)]
theorem z_sideOf8 (h : mB G m μ l) (hn : l.length ≤ 60) (hN : 100 < N) {k : Int} {i : Nat} (e : aPlace k l = some i) : f_X8_sideOf N G m k μ = some (lG l i 2, μ) := by
  obtain ⟨-, hi, -, -⟩ := aPl_some e
  rw [Nat.zero_add] at hi
  unfold f_X8_sideOf
  rw [kb2_p (z_placeOf8 h hn hN), e, oI_some, kb2_p (z8_2 h hn hi)]
theorem z_has8 {a b d : Int} {k : Nat} (hk : k < 70) (ha : gA μ (gR G 808 m) k = a) (hb : gA μ (gR G 809 m) k = b) (hd : gA μ (gR G 810 m) k = d) (q : (-100000000 ≤ a ∧ a ≤ 100000000) ∧ (-100000000 ≤ b ∧ b ≤ 100000000) ∧ (-100000000 ≤ d ∧ d ≤ 100000000)) : f_X8_has N G m (k : Int) μ = some (a + b + d, μ) := by
  unfold f_X8_has
  rw [rdA_p ⟨by omega, by omega⟩, rdA_p ⟨by omega, by omega⟩, Int.toNat_natCast, ha, hb, ckI_p ⟨by omega, by omega⟩, rdA_p ⟨by omega, by omega⟩, Int.toNat_natCast, hd, ckI_p ⟨by omega, by omega⟩]
theorem jABC_bd {S g : Nat → Int} {K L : Int} {c : Nat} (ho : shOk S g K L c) : ∀ k, k < c → (-100000000 ≤ shA S g K k ∧ shA S g K k ≤ 100000000) ∧ (-100000000 ≤ shB S g K L c k ∧ shB S g K L c k ≤ 100000000) ∧ (-100000000 ≤ shC S g K L c k ∧ shC S g K L c k ≤ 100000000) := by
  intro k hk
  have b1 := shA_bd ho hk
  have b2 := shB_bd ho hk
  have b3 := jC_bd ho hk
  have b4 := ho.2.1 k hk
  have b5 := ho.2.2.2.1
  refine ⟨⟨by omega, by omega⟩, ⟨by omega, by omega⟩, ⟨by omega, by omega⟩⟩
/-- what the reference shares, by grants as the class has them -/
theorem z_shr8 (hL : mL G m) (h : mR G m μ l T D tr n B) {S g : Nat → Int} {K t gr : Int} {c : Nat} (h5 : gI μ 805 m = (c : Int)) (hS : ∀ k, k < c → gA μ (gR G 807 m) k = S k) (ht : t = -1 ∨ (0 ≤ t ∧ t < (c : Int))) (hg : 0 ≤ gr ∧ gr ≤ 1000) (hgg : ∀ k, k < c → topG t gr k = g k) (ho : shOk S g K (T 1) c) (hN : 100 < N) :
    ∃ ν, f_X8_shares N G m K t gr μ = some ν ∧ dSh G m μ ν ∧ ∀ k, k < c → gA ν (gR G 808 m) k = shA S g K k ∧ gA ν (gR G 809 m) k = shB S g K (T 1) c k ∧ gA ν (gR G 810 m) k = shC S g K (T 1) c k := by
  obtain ⟨ν, a, b, d⟩ := z_shares8 (N := N) hL h5 hS (h.2.1 1 (by decide) (by decide)) ht hg (ho.congr (fun i hi => (hgg i hi).symm)) hN
  exact ⟨ν, a, b, fun k hk => by rw [← shA_congr hgg hk, ← shB_congr hgg hk, ← shC_congr hgg hk]; exact d k hk⟩
theorem dSh.m8 (hL : mL G m) (hd : dSh G m μ ν) : (∀ i, gA ν (gR G 806 m) i = gA μ (gR G 806 m) i) ∧ ∀ i, gA ν (gR G 807 m) i = gA μ (gR G 807 m) i :=
  ⟨fun i => hd.2.1 _ i (hL.ne (by decide) (by decide) (by decide)) (hL.ne (by decide) (by decide) (by decide)) (hL.ne (by decide) (by decide) (by decide)), fun i => hd.2.1 _ i (hL.ne (by decide) (by decide) (by decide)) (hL.ne (by decide) (by decide) (by decide)) (hL.ne (by decide) (by decide) (by decide))⟩
theorem topBd (ho : mOk l T) {s : Int} (hs : s = 0 ∨ s = 1) : 0 ≤ T (8 + s.toNat) ∧ T (8 + s.toNat) ≤ 1000 := by
  have := ho.top s.toNat (by omega)
  omega
theorem z_share8 (hL : mL G m) (h : mR G m μ l T D tr n B) (ho : mOk l T) (hN : 100 < N) (k K w : Int) : ∃ ν, f_X8_share N G m k K w μ = some (aShare l T k K w, ν) ∧ mR G m ν l T D tr n B := by
  have hl := ho.lo
  have h60 := hl.1
  have h1 := h.fld (f := 804) (a := m) (v := 0) (by decide)
  obtain ⟨a1, a2⟩ := z_laysFor8 (N := N) hL h1 h60 hN k
  unfold f_X8_share aShare
  rw [kp_p]
  cases hp : aPlace k l with
  | none => rw [kb2_p (a1 hp), if_pos (by decide)]; exact ⟨_, rfl, h1⟩
  | some i =>
    obtain ⟨-, hi, -, -⟩ := aPl_some hp
    rw [Nat.zero_add] at hi
    obtain ⟨μ1, e1, e2, e3⟩ := a2 i hp
    have h2 := h1.frm hL e2
    have hs := (hl.2 i hi).2.2.1
    obtain ⟨r1, r2⟩ := aJ_rk (s := lG l i 2) (p := lG l i 3) (l := l) hi aAt_self
    have hc := aJ_len (s := lG l i 2) (p := lG l i 3) (l := l) l.length
    show ∃ ν, _ = some (aShr l T i K w, ν) ∧ _
    rw [kb2_p e1, if_neg (by omega), kb2_p z_within8, b01_ite]
    have sz : sumN (jS l (aJ (lG l i 2) (lG l i 3) l l.length)) (aJ (lG l i 2) (lG l i 3) l l.length).length = aS (wZ (lG l i 2) (lG l i 3)) l := sumZ
    unfold aShr
    by_cases c1 : aIn w 0 3 = true
    · have hw : 0 ≤ w ∧ w ≤ 3 := of_decide_eq_true c1
      have o0 := jOk (s := lG l i 2) (p := lG l i 3) (K := 0) ho ⟨by decide, by decide⟩ l.length (Nat.le_refl _)
      rw [if_pos c1, kb2_p (z_laidInAll8 e3.1 (fun k hk => (e3.2 k hk).2) o0.2.1 (by omega) hN), kb2_p z_within8, b01_ite, sz]
      by_cases c2 : aIn K 1 (aS (wZ (lG l i 2) (lG l i 3)) l) = true
      · have hK : 1 ≤ K ∧ K ≤ aS (wZ (lG l i 2) (lG l i 3)) l := of_decide_eq_true c2
        have hb := aS_bd (w := wZ (lG l i 2) (lG l i 3)) (wZ_bd hl)
        have oo := jOk (s := lG l i 2) (p := lG l i 3) (K := K) ho ⟨by omega, by omega⟩ l.length (Nat.le_refl _)
        obtain ⟨t, t1, t2, t3, -, -⟩ := z_topLaid8 (N := N) h2 hl ho.inc hN hs e3
        obtain ⟨μ2, d1, d2, d3⟩ := z_shr8 (N := N) hL h2 e3.1 (fun k hk => (e3.2 k hk).2) t2 (topBd ho hs) t3 oo hN
        have h3 := h2.frm hL d2.rfm
        rw [if_pos c2, if_pos ⟨c1, c2⟩, kb2_p (z_sideOf8 h2.1 h60 hN hp), kb2_p t1, ckI_p ⟨by omega, by omega⟩, rdA_p ⟨by omega, by omega⟩, h2.x (j := 8 + (lG l i 2).toNat) (by omega) (by omega) (by omega), kb_p d1]
        obtain ⟨v1, v2, v3⟩ := d3 _ r1
        refine ⟨μ2, ?_, h3⟩
        rw [kb2_p (z_has8 (by omega) v1 v2 v3 (jABC_bd oo _ r1)), rdA_p ⟨by omega, by omega⟩, rdA_p ⟨by omega, by omega⟩, rdA_p ⟨by omega, by omega⟩, Int.toNat_natCast, v1, v2, v3, ite_some, ite_some, ite_some]
        rfl
      · rw [if_neg c2, if_neg (fun q => c2 q.2)]
        exact ⟨_, rfl, h2⟩
    · rw [if_neg c1, if_neg (fun q => c1 q.1)]
      exact ⟨_, rfl, h2⟩
end SHR8
