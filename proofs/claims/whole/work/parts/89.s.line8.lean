/-! PURE: a line of a message; the reference reads it -/
def mF (g : Nat) : Prop := 824 ≤ g ∧ g ≤ 829
def mA (a : Nat) : Prop := a = 830
section LINE8
variable {N : Nat} {G : qG} {m n q j : Nat} {μ ν ξ : qM} {B : Nat → Int} {v a0 a1 a2 md : Int}
theorem st_mf (h : dRf G m stF noA μ ν) : dRf G m mF mA μ ν := h.mono (fun g x => by unfold stF at x; unfold mF; omega) (fun _ x => x.elim)
theorem mTx.ln (hL : mL G m) (h : mTx G m μ n B) (hd : dRf G m mF mA μ ν) : mTx G m ν n B := h.fr hd (by unfold mF; omega) (fun f q => by unfold mA at q; rw [q]; exact hL.ne (by decide) (by decide) (by decide))
/-- a line's row -/
def mRow (G : qG) (m : Nat) (ν : qM) (j : Nat) (v a0 a1 a2 md : Int) : Prop :=
  gA ν (gR G 830 m) (5 * j) = v ∧ (v < 6 → gA ν (gR G 830 m) (5 * j + 1) = a0) ∧ (v = 0 ∨ v = 1 ∨ v = 3 → gA ν (gR G 830 m) (5 * j + 2) = a1) ∧ (v = 0 ∨ v = 1 → gA ν (gR G 830 m) (5 * j + 3) = a2 ∧ gA ν (gR G 830 m) (5 * j + 4) = md)
def mFlt (m : Nat) (ν : qM) (z : Int) : Prop := (1 ≤ gI ν 828 m ∧ gI ν 828 m ≤ 2) ∧ 8 * gI ν 829 m + gI ν 828 m = z
theorem z_must1 (h : gI μ 828 m = 0) (c : Int) : f_X8_must N G m 1 c μ = some (1, μ) := by
  unfold f_X8_must f_X8_must_24
  rw [if_pos h, if_neg (by decide), if_pos h]
theorem z_must0 (h : gI μ 828 m = 0) (hk : mTk m μ n B q) {c : Int} (hc : 1 ≤ c ∧ c ≤ 2) : ∃ ν, f_X8_must N G m 0 c μ = some (0, ν) ∧ dRf G m mF mA μ ν ∧ (∀ i, gA ν (gR G 830 m) i = gA μ (gR G 830 m) i) ∧ mFlt m ν (lnBad n B q c).1 := by
  unfold f_X8_must f_X8_must_24
  rw [if_pos h, if_pos rfl, kp_p, kp_p]
  have e4 : gI (sI μ 828 m c) 824 m = (tkA n B q : Int) := by rw [gI_f (by decide)]; exact hk.1
  rw [e4]
  have e8 : gI (sI (sI μ 828 m c) 829 m (tkA n B q : Int)) 828 m = c := by rw [gI_f (by decide), gI_s]
  rw [e8, if_neg (by omega)]
  refine ⟨_, rfl, (dRf.sI (by unfold mF; omega)).tr (dRf.sI (by unfold mF; omega)), fun i => rfl, by rw [e8]; exact hc, ?_⟩
  rw [e8, gI_s]
  rfl
theorem mTk.sA {a i : Nat} {w : Int} (h : mTk m μ n B q) : mTk m (sA μ a i w) n B q := h
theorem z_reads8 (hL : mL G m) (hx : mTx G m μ n B) (hk : mTk m μ n B q) (hq : q ≤ n) (h28 : gI μ 828 m = 0) (h31 : gI μ 831 m = (j : Int)) (hj : j < 130) (hN : 1000 < N) {w : Nat} (hw : 1 ≤ w ∧ w ≤ 4) (lo hi : Int) :
    ∃ ν, dRf G m mF mA μ ν ∧ (∀ i, i ≠ 5 * j + w → gA ν (gR G 830 m) i = gA μ (gR G 830 m) i) ∧
      ((f_X8_reads N G m (w : Int) lo hi μ = some (1, ν) ∧ gI ν 828 m = 0 ∧ mTk m ν n B (tkE n B q) ∧ gA ν (gR G 830 m) (5 * j + w) = tkV n B q ∧ (lo ≤ tkV n B q ∧ tkV n B q ≤ hi) ∧ ∀ k, lnNum n B q lo hi k = k (tkV n B q) (tkE n B q)) ∨ (f_X8_reads N G m (w : Int) lo hi μ = some (0, ν) ∧ ∀ k, (lnNum n B q lo hi k).1 ≠ 0 ∧ mFlt m ν (lnNum n B q lo hi k).1)) := by
  have he := tkE_le (B := B) hq
  have h500 := hx.2.1
  unfold f_X8_reads lnNum
  rw [hk.2.2.1]
  by_cases c : tkK n B q = 2
  · rw [if_pos c]
    unfold f_X8_reads_14
    rw [kb2_p (z_must1 h28 1), if_neg (by decide), hk.2.2.2 c, kb2_p z_within8]
    by_cases d : aIn (tkV n B q) lo hi = true
    · have d' : lo ≤ tkV n B q ∧ tkV n B q ≤ hi := of_decide_eq_true d
      have d1 : dRf G m mF mA μ (sA μ (gR G 830 m) (5 * j + w) (tkV n B q)) := dRf.sA rfl
      obtain ⟨ν, b1, b2, b3⟩ := z_steps8 (N := N) (hx.ln hL d1) (q := tkE n B q) (by rw [gI_sA]; exact hk.2.1) he.2 hN
      have ka : ∀ i, gA ν (gR G 830 m) i = gA (sA μ (gR G 830 m) (5 * j + w) (tkV n B q)) (gR G 830 m) i := fun i => b2.2.1 _ _ (fun f y => y.elim)
      have ew : (5 * (j : Int) + (w : Int)).toNat = 5 * j + w := by omega
      rw [b01_t d, kb2_p (z_must1 h28 2), if_neg (by decide), h31, ckI_p ⟨by omega, by omega⟩, ckI_p ⟨by omega, by omega⟩, hk.2.2.2 c, wrA_p ⟨by omega, by omega⟩, ew, kb_p b1]
      exact ⟨ν, d1.tr (st_mf b2), fun i hi => by rw [ka, gA_i hi], Or.inl ⟨rfl, by rw [b2.1 _ _ (fun y => by have := y.2; unfold stF at this; omega)]; exact h28, b3, by rw [ka, gA_s], d', fun k => by rw [if_pos c, if_pos d']⟩⟩
    · have d' : ¬ (lo ≤ tkV n B q ∧ tkV n B q ≤ hi) := fun y => d (decide_eq_true y)
      obtain ⟨ν, b1, b2, b3, b4⟩ := z_must0 (N := N) (G := G) h28 hk (c := 2) (by decide)
      rw [b01_f (Bool.eq_false_iff.mpr d), kb2_p b1, if_pos rfl]
      exact ⟨ν, b2, fun i _ => b3 i, Or.inr ⟨rfl, fun k => by rw [if_pos c, if_neg d']; exact ⟨lnBad_1 (by decide), b4⟩⟩⟩
  · obtain ⟨ν, b1, b2, b3, b4⟩ := z_must0 (N := N) (G := G) h28 hk (c := 1) (by decide)
    rw [if_neg c]
    unfold f_X8_reads_14
    rw [kb2_p b1, if_pos rfl]
    exact ⟨ν, b2, fun i _ => b3 i, Or.inr ⟨rfl, fun k => by rw [if_neg c]; exact ⟨lnBad_1 (by decide), b4⟩⟩⟩
/-- what the reference's reading of a line says: at its end the token behind is read, or a fault is set -/
def mrOk (G : qG) (m n : Nat) (B : Nat → Int) (j : Nat) (x : LN) (r : Int) (ν : qM) : Prop :=
  (r = 1 ∧ gI ν 828 m = 0 ∧ ∃ qf v a0 a1 a2 md, x = lnEnd n B qf v a0 a1 a2 md ∧ qf ≤ n ∧ (0 ≤ v ∧ v ≤ 7) ∧ mTk m ν n B qf ∧ mRow G m ν j v a0 a1 a2 md) ∨ (r = 0 ∧ x.1 ≠ 0 ∧ mFlt m ν x.1)
theorem dear_is {p z : Int} (hp : 1 ≤ p ∧ p ≤ 9999999) (hz : 1 ≤ z ∧ z ≤ 1000) : p ≤ dearT z ↔ p * z ≤ 2147483647 := by
  have t : (2147483647 : Int).tdiv z = 2147483647 / z := Int.tdiv_eq_ediv_of_nonneg (by decide)
  unfold dearT
  rw [if_neg (by omega), t]
  have := Int.le_ediv_iff_mul_le (a := p) (b := 2147483647) (c := z) (by omega)
  constructor
  · intro h; exact this.mp (by omega)
  · intro h; have := this.mpr h; omega
/-- the mode of an order -/
theorem z_mode8 (hL : mL G m) (hx : mTx G m μ n B) (hk : mTk m μ n B q) (hq : q ≤ n) (h28 : gI μ 828 m = 0) (h31 : gI μ 831 m = (j : Int)) (hj : j < 130) (hN : 1000 < N) (hv : v = 0 ∨ v = 1) (hr : mRow G m μ j v a0 a1 a2 0) :
    ∃ ν r, (if (gI μ 826 m) = 1 then (kb2 (f_X8_isWord N G m 114 101 115 116 0 μ) fun v14 m13 => if v14 = 0 then (kb2 (f_X8_isWord N G m 99 111 109 101 0 m13) fun v17 m16 => if v17 = 0 then (kb2 (f_X8_isWord N G m 98 111 116 104 0 m16) fun v20 m19 => if v20 = 0 then (kb2 (f_X8_isWord N G m 108 101 115 115 0 m19) fun v23 m22 => if v23 = 0 then (f_X8_readsOrder_225 N G m (-1) m22) else (f_X8_readsOrder_225 N G m 3 m22)) else (f_X8_readsOrder_225 N G m 2 m19)) else (f_X8_readsOrder_225 N G m 1 m16)) else (f_X8_readsOrder_225 N G m 0 m13)) else (some (1, μ))) = some (r, ν) ∧ dRf G m mF mA μ ν ∧ (∀ i, i < 5 * j → gA ν (gR G 830 m) i = gA μ (gR G 830 m) i) ∧ mrOk G m n B j (lnMd n B q v a0 a1 a2) r ν := by
  have he := tkE_le (B := B) hq
  have h500 := hx.2.1
  unfold lnMd
  rw [hk.2.2.1]
  by_cases c : tkK n B q = 1
  · rw [if_pos c, if_pos c]
    have mr := mdH_r (n := n) (B := B) (q := q)
    have key : ∀ z : Int, z = mdH n B q → ∃ ν r, f_X8_readsOrder_225 N G m z μ = some (r, ν) ∧ dRf G m mF mA μ ν ∧ (∀ i, i < 5 * j → gA ν (gR G 830 m) i = gA μ (gR G 830 m) i) ∧ mrOk G m n B j (if mdH n B q = -1 then lnBad n B q 1 else lnEnd n B (tkE n B q) v a0 a1 a2 (mdH n B q)) r ν := by
      intro z hz
      subst hz
      unfold f_X8_readsOrder_225 f_X8_readsOrder_236
      by_cases d : mdH n B q = -1
      · obtain ⟨ν, b1, b2, b3, b4⟩ := z_must0 (N := N) (G := G) h28 hk (c := 1) (by decide)
        rw [if_pos (by omega), if_pos d, kb2_p b1, if_pos rfl]
        exact ⟨ν, 0, rfl, b2, fun i _ => b3 i, Or.inr ⟨rfl, lnBad_1 (by decide), b4⟩⟩
      · have d1 : dRf G m mF mA μ (sA μ (gR G 830 m) (5 * j + 4) (mdH n B q)) := dRf.sA rfl
        obtain ⟨ν, b1, b2, b3⟩ := z_steps8 (N := N) (hx.ln hL d1) (q := tkE n B q) (by rw [gI_sA]; exact hk.2.1) he.2 hN
        have ka : ∀ i, gA ν (gR G 830 m) i = gA (sA μ (gR G 830 m) (5 * j + 4) (mdH n B q)) (gR G 830 m) i := fun i => b2.2.1 _ _ (fun f y => y.elim)
        have ew : (5 * (j : Int) + 4).toNat = 5 * j + 4 := by omega
        rw [if_neg (by omega), if_neg d, kb2_p (z_must1 h28 1), if_neg (by decide), h31, ckI_p ⟨by omega, by omega⟩, ckI_p ⟨by omega, by omega⟩, wrA_p ⟨by omega, by omega⟩, ew, kb_p b1]
        refine ⟨ν, 1, rfl, d1.tr (st_mf b2), fun i hi => by rw [ka, gA_i (by omega)], Or.inl ⟨rfl, by rw [b2.1 _ _ (fun y => by have := y.2; unfold stF at this; omega)]; exact h28, _, _, _, _, _, _, rfl, he.2, by omega, b3, ?_⟩⟩
        obtain ⟨r0, r1, r2, r3⟩ := hr
        exact ⟨by rw [ka, gA_i (by omega)]; exact r0, fun y => by rw [ka, gA_i (by omega)]; exact r1 y, fun y => by rw [ka, gA_i (by omega)]; exact r2 y, fun y => ⟨by rw [ka, gA_i (by omega)]; exact (r3 y).1, by rw [ka, gA_s]⟩⟩
    have em := mdH_e (n := n) (B := B) (q := q)
    rw [kb2_p (z_isW8_4 (N := N) hx hk hq (by decide)), b01_ite, show wIs n B q [114, 101, 115, 116] = wIs n B q (wdL 8) from rfl]
    by_cases b0 : wIs n B q (wdL 8) = true
    · rw [if_pos b0]
      exact key 0 (by rw [em, if_pos b0])
    · rw [if_neg b0, kb2_p (z_isW8_4 (N := N) hx hk hq (by decide)), b01_ite, show wIs n B q [99, 111, 109, 101] = wIs n B q (wdL 9) from rfl]
      by_cases b1 : wIs n B q (wdL 9) = true
      · rw [if_pos b1]
        exact key 1 (by rw [em, if_neg b0, if_pos b1])
      · rw [if_neg b1, kb2_p (z_isW8_4 (N := N) hx hk hq (by decide)), b01_ite, show wIs n B q [98, 111, 116, 104] = wIs n B q (wdL 10) from rfl]
        by_cases b2 : wIs n B q (wdL 10) = true
        · rw [if_pos b2]
          exact key 2 (by rw [em, if_neg b0, if_neg b1, if_pos b2])
        · rw [if_neg b2, kb2_p (z_isW8_4 (N := N) hx hk hq (by decide)), b01_ite, show wIs n B q [108, 101, 115, 115] = wIs n B q (wdL 11) from rfl]
          by_cases b3 : wIs n B q (wdL 11) = true
          · rw [if_pos b3]
            exact key 3 (by rw [em, if_neg b0, if_neg b1, if_neg b2, if_pos b3])
          · rw [if_neg b3]
            exact key (-1) (by rw [em, if_neg b0, if_neg b1, if_neg b2, if_neg b3])
  · rw [if_neg c, if_neg c]
    exact ⟨μ, 1, rfl, dRf.rf, fun _ _ => rfl, Or.inl ⟨rfl, h28, _, _, _, _, _, _, rfl, hq, by omega, hk, hr⟩⟩
/-- the price of an order, and its mode -/
theorem z_price8 (hL : mL G m) (hx : mTx G m μ n B) (hk : mTk m μ n B q) (hq : q ≤ n) (h28 : gI μ 828 m = 0) (h31 : gI μ 831 m = (j : Int)) (hj : j < 130) (hN : 1000 < N) (hv : v = 0 ∨ v = 1) (hz : 1 ≤ a1 ∧ a1 ≤ 1000) (r0 : gA μ (gR G 830 m) (5 * j) = v) (r1 : gA μ (gR G 830 m) (5 * j + 1) = a0) (r2 : gA μ (gR G 830 m) (5 * j + 2) = a1) :
    ∃ ν r, (if (gI μ 826 m) = 2 then (f_X8_readsOrder_39 N G m m 1 μ) else (f_X8_readsOrder_39 N G m m 0 μ)) = some (r, ν) ∧ dRf G m mF mA μ ν ∧ (∀ i, i < 5 * j → gA ν (gR G 830 m) i = gA μ (gR G 830 m) i) ∧ mrOk G m n B j (lnNum n B q 1 (dearT a1) (fun pr q3 => lnMd n B q3 v a0 a1 pr)) r ν := by
  have he := tkE_le (B := B) hq
  have h500 := hx.2.1
  unfold lnNum
  rw [hk.2.2.1]
  by_cases c : tkK n B q = 2
  · rw [if_pos c, if_pos c]
    -- the fault of a price
    have bad : ¬ (1 ≤ tkV n B q ∧ tkV n B q ≤ dearT a1) → ∃ ν r, f_X8_readsOrder_90 N G m m 0 μ = some (r, ν) ∧ dRf G m mF mA μ ν ∧ (∀ i, i < 5 * j → gA ν (gR G 830 m) i = gA μ (gR G 830 m) i) ∧ mrOk G m n B j (if 1 ≤ tkV n B q ∧ tkV n B q ≤ dearT a1 then lnMd n B (tkE n B q) v a0 a1 (tkV n B q) else lnBad n B q 2) r ν := by
      intro no
      obtain ⟨ν, b1, b2, b3, b4⟩ := z_must0 (N := N) (G := G) h28 hk (c := 2) (by decide)
      unfold f_X8_readsOrder_90
      rw [if_neg no, kb2_p b1, if_pos rfl]
      exact ⟨ν, 0, rfl, b2, fun i _ => b3 i, Or.inr ⟨rfl, lnBad_1 (by decide), b4⟩⟩
    unfold f_X8_readsOrder_39 f_X8_readsOrder_89
    rw [kb2_p (z_must1 h28 1), if_neg (by decide), hk.2.2.2 c, kb2_p z_within8, b01_ite]
    by_cases d : aIn (tkV n B q) 1 9999999 = true
    · have d' : 1 ≤ tkV n B q ∧ tkV n B q ≤ 9999999 := of_decide_eq_true d
      have e2 : (5 * (j : Int) + 2).toNat = 5 * j + 2 := by omega
      rw [if_pos d, h31, ckI_p ⟨by omega, by omega⟩, ckI_p ⟨by omega, by omega⟩, rdA_p ⟨by omega, by omega⟩, e2, r2, hk.2.2.2 c, kb2_p (z_isInt8 d' hz), b01_ite]
      by_cases f : aDear (tkV n B q) a1 = true
      · have f' : tkV n B q ≤ dearT a1 := (dear_is d' hz).mpr (of_decide_eq_true f)
        rw [if_pos f, if_pos ⟨d'.1, f'⟩]
        unfold f_X8_readsOrder_90
        have d1 : dRf G m mF mA μ (sA (sA μ (gR G 830 m) (5 * j + 3) (tkV n B q)) (gR G 830 m) (5 * j + 4) 0) := (dRf.sA (show mA 830 from rfl)).tr (dRf.sA (show mA 830 from rfl))
        have hx1 := hx.ln hL d1
        obtain ⟨μ2, b1, b2, b3⟩ := z_steps8 (N := N) hx1 (q := tkE n B q) (by rw [gI_sA, gI_sA]; exact hk.2.1) he.2 hN
        have ka : ∀ i, gA μ2 (gR G 830 m) i = gA (sA (sA μ (gR G 830 m) (5 * j + 3) (tkV n B q)) (gR G 830 m) (5 * j + 4) 0) (gR G 830 m) i := fun i => b2.2.1 _ _ (fun f y => y.elim)
        have e3 : (5 * (j : Int) + 3).toNat = 5 * j + 3 := by omega
        have e4 : (5 * (j : Int) + 4).toNat = 5 * j + 4 := by omega
        have kf : ∀ g, g = 828 ∨ g = 831 → gI μ2 g m = gI μ g m := fun g hg => by rw [b2.1 _ _ (fun y => by have := y.2; unfold stF at this; omega)]; rfl
        rw [kb2_p (z_must1 h28 2), if_neg (by decide), h31, ckI_p ⟨by omega, by omega⟩, ckI_p ⟨by omega, by omega⟩, hk.2.2.2 c, wrA_p ⟨by omega, by omega⟩, e3, gI_sA, h31, ckI_p ⟨by omega, by omega⟩, ckI_p ⟨by omega, by omega⟩, wrA_p ⟨by omega, by omega⟩, e4, kb_p b1]
        obtain ⟨ν, r, g1, g2, g3, g4⟩ := z_mode8 (N := N) (v := v) (a0 := a0) (a1 := a1) (a2 := tkV n B q) hL (hx1.ln hL (st_mf b2)) b3 he.2 (by rw [kf 828 (Or.inl rfl)]; exact h28) (by rw [kf 831 (Or.inr rfl)]; exact h31) hj hN hv
          ⟨by rw [ka, gA_i (by omega), gA_i (by omega)]; exact r0, fun _ => by rw [ka, gA_i (by omega), gA_i (by omega)]; exact r1, fun _ => by rw [ka, gA_i (by omega), gA_i (by omega)]; exact r2, fun _ => ⟨by rw [ka, gA_i (by omega), gA_s], by rw [ka, gA_s]⟩⟩
        exact ⟨ν, r, g1, (d1.tr (st_mf b2)).tr g2, fun i hi => by rw [g3 i hi, ka, gA_i (by omega), gA_i (by omega)], g4⟩
      · rw [if_neg f]
        exact bad (fun y => f (decide_eq_true ((dear_is d' hz).mp y.2)))
    · rw [if_neg d]
      refine bad (fun y => d (decide_eq_true ⟨y.1, ?_⟩))
      have := y.2
      unfold dearT at this
      split at this <;> omega
  · obtain ⟨ν, b1, b2, b3, b4⟩ := z_must0 (N := N) (G := G) h28 hk (c := 1) (by decide)
    rw [if_neg c, if_neg c]
    unfold f_X8_readsOrder_39
    rw [kb2_p b1, if_pos rfl]
    exact ⟨ν, 0, rfl, b2, fun i _ => b3 i, Or.inr ⟨rfl, lnBad_1 (by decide), b4⟩⟩
theorem z_readsLine8 (hL : mL G m) (hx : mTx G m μ n B) (hk : mTk m μ n B q) (hq : q ≤ n) (h28 : gI μ 828 m = 0) (h31 : gI μ 831 m = (j : Int)) (hj : j < 130) (hN : 1000 < N) :
    ∃ ν r, f_X8_readsLine N G m μ = some (r, ν) ∧ dRf G m mF mA μ ν ∧ (∀ i, i < 5 * j → gA ν (gR G 830 m) i = gA μ (gR G 830 m) i) ∧ mrOk G m n B j (lnOf n B q) r ν := by
  have he := tkE_le (B := B) hq
  have h500 := hx.2.1
  have kr := kdH_r (n := n) (B := B) (q := q)
  unfold f_X8_readsLine lnOf
  rw [kb2_p (z_kindHere8 (N := N) hx hk hq)]
  by_cases c : kdH n B q = -1
  · obtain ⟨ν, b1, b2, b3, b4⟩ := z_must0 (N := N) (G := G) h28 hk (c := 1) (by decide)
    rw [if_pos (by omega), if_pos c]
    unfold f_X8_readsLine_15
    rw [kb2_p b1, if_pos rfl]
    exact ⟨ν, 0, rfl, b2, fun i _ => b3 i, Or.inr ⟨rfl, lnBad_1 (by decide), b4⟩⟩
  · rw [if_neg (by omega), if_neg c]
    have d1 : dRf G m mF mA μ (sA μ (gR G 830 m) (5 * j) (kdH n B q)) := dRf.sA rfl
    have hx1 := hx.ln hL d1
    obtain ⟨M, b1, b2, b3⟩ := z_steps8 (N := N) hx1 (q := tkE n B q) (by rw [gI_sA]; exact hk.2.1) he.2 hN
    have ka : ∀ i, gA M (gR G 830 m) i = gA (sA μ (gR G 830 m) (5 * j) (kdH n B q)) (gR G 830 m) i := fun i => b2.2.1 _ _ (fun f y => y.elim)
    have kf : ∀ g, g = 828 ∨ g = 831 → gI M g m = gI μ g m := fun g hg => by rw [b2.1 _ _ (fun y => by have := y.2; unfold stF at this; omega)]; rfl
    have dM := d1.tr (st_mf b2)
    have hxM := hx.ln hL dM
    have M28 : gI M 828 m = 0 := by rw [kf 828 (Or.inl rfl)]; exact h28
    have M31 : gI M 831 m = (j : Int) := by rw [kf 831 (Or.inr rfl)]; exact h31
    have M0 : gA M (gR G 830 m) (5 * j) = kdH n B q := by rw [ka, gA_s]
    have Ml : ∀ i, i < 5 * j → gA M (gR G 830 m) i = gA μ (gR G 830 m) i := fun i hi => by rw [ka, gA_i (by omega)]
    have e5 : (5 * (j : Int)).toNat = 5 * j := by omega
    have k31 : ∀ {α β : qM}, dRf G m mF mA α β → gI β 831 m = gI α 831 m := fun y => y.1 _ _ (fun z => by have := z.2; unfold mF at this; omega)
    unfold f_X8_readsLine_15
    rw [kb2_p (z_must1 h28 1), if_neg (by decide), h31, ckI_p ⟨by omega, by omega⟩, wrA_p ⟨by omega, by omega⟩, e5, kb_p b1]
    by_cases c01 : kdH n B q = 0 ∨ kdH n B q = 1
    · rw [if_pos c01]
      suffices H : ∃ ν r, f_X8_readsOrder N G m M = some (r, ν) ∧ dRf G m mF mA μ ν ∧ (∀ i, i < 5 * j → gA ν (gR G 830 m) i = gA μ (gR G 830 m) i) ∧ mrOk G m n B j (lnNum n B (tkE n B q) 0 9 (fun t q1 => lnNum n B q1 1 1000 (fun z q2 => lnNum n B q2 1 (dearT z) (fun pr q3 => lnMd n B q3 (kdH n B q) t z pr)))) r ν by
        obtain ⟨ν, r, g1, g2⟩ := H
        refine ⟨ν, r, ?_, g2⟩
        by_cases y : kdH n B q = 0
        · rw [if_pos y, kb2_p g1]
        · rw [if_neg y, if_pos (c01.resolve_left y), kb2_p g1]
      unfold f_X8_readsOrder
      obtain ⟨m1, t1, t2, t3⟩ := z_reads8 (N := N) hL hxM b3 he.2 M28 M31 hj hN (w := 1) (by decide) 0 9
      rcases t3 with ⟨s1, s2, s3, s4, s0, s5⟩ | ⟨s1, s2⟩
      · have s1' : f_X8_reads N G m 1 0 9 M = some (1, m1) := s1
        have he1 := tkE_le (B := B) he.2
        rw [s5, kb2_p s1', if_neg (by decide)]
        obtain ⟨m2, u1, u2, u3⟩ := z_reads8 (N := N) hL (hxM.ln hL t1) s3 he1.2 s2 (by rw [k31 t1]; exact M31) hj hN (w := 2) (by decide) 1 1000
        rcases u3 with ⟨w1, w2, w3, w4, w0, w5⟩ | ⟨w1, w2⟩
        · have w1' : f_X8_reads N G m 2 1 1000 m1 = some (1, m2) := w1
          have he2 := tkE_le (B := B) he1.2
          rw [w5, kb2_p w1', if_neg (by decide)]
          obtain ⟨ν, r, g1, g2, g3, g4⟩ := z_price8 (N := N) (v := kdH n B q) (a0 := tkV n B (tkE n B q)) (a1 := tkV n B (tkE n B (tkE n B q))) hL ((hxM.ln hL t1).ln hL u1) w3 he2.2 w2 (by rw [k31 u1, k31 t1]; exact M31) hj hN c01 w0 (by rw [u2 _ (by omega), t2 _ (by omega)]; exact M0) (by rw [u2 _ (by omega)]; exact s4) w4
          exact ⟨ν, r, g1, ((dM.tr t1).tr u1).tr g2, fun i hi => by rw [g3 i hi, u2 _ (by omega), t2 _ (by omega), Ml i hi], g4⟩
        · have w1' : f_X8_reads N G m 2 1 1000 m1 = some (0, m2) := w1
          obtain ⟨z1, z2⟩ := w2 (fun z q2 => lnNum n B q2 1 (dearT z) (fun pr q3 => lnMd n B q3 (kdH n B q) (tkV n B (tkE n B q)) z pr))
          rw [kb2_p w1', if_pos rfl]
          exact ⟨m2, 0, rfl, (dM.tr t1).tr u1, fun i hi => by rw [u2 _ (by omega), t2 _ (by omega), Ml i hi], Or.inr ⟨rfl, z1, z2⟩⟩
      · have s1' : f_X8_reads N G m 1 0 9 M = some (0, m1) := s1
        obtain ⟨z1, z2⟩ := s2 (fun t q1 => lnNum n B q1 1 1000 (fun z q2 => lnNum n B q2 1 (dearT z) (fun pr q3 => lnMd n B q3 (kdH n B q) t z pr)))
        rw [kb2_p s1', if_pos rfl]
        exact ⟨m1, 0, rfl, dM.tr t1, fun i hi => by rw [t2 _ (by omega), Ml i hi], Or.inr ⟨rfl, z1, z2⟩⟩
    · rw [if_neg c01, if_neg (fun y => c01 (Or.inl y)), if_neg (fun y => c01 (Or.inr y))]
      have one : ∀ (w lo hi : Int), kdH n B q = w → (w = 2 ∨ w = 4 ∨ w = 5) → ∃ ν r, (kb2 (f_X8_reads N G m 1 lo hi M) fun v16 m15 => some (v16, m15)) = some (r, ν) ∧ dRf G m mF mA μ ν ∧ (∀ i, i < 5 * j → gA ν (gR G 830 m) i = gA μ (gR G 830 m) i) ∧ mrOk G m n B j (lnNum n B (tkE n B q) lo hi (fun k q1 => lnEnd n B q1 w k 0 0 0)) r ν := by
        intro w lo hi hw hw3
        obtain ⟨m1, t1, t2, t3⟩ := z_reads8 (N := N) hL hxM b3 he.2 M28 M31 hj hN (w := 1) (by decide) lo hi
        rcases t3 with ⟨s1, s2, s3, s4, s0, s5⟩ | ⟨s1, s2⟩
        · have s1' : f_X8_reads N G m 1 lo hi M = some (1, m1) := s1
          have he1 := tkE_le (B := B) he.2
          rw [s5, kb2_p s1']
          exact ⟨m1, 1, rfl, dM.tr t1, fun i hi => by rw [t2 _ (by omega), Ml i hi], Or.inl ⟨rfl, s2, _, _, _, _, _, _, rfl, he1.2, by omega, s3, ⟨by rw [t2 _ (by omega), M0, hw], fun _ => s4, fun y => by omega, fun y => by omega⟩⟩⟩
        · have s1' : f_X8_reads N G m 1 lo hi M = some (0, m1) := s1
          obtain ⟨z1, z2⟩ := s2 (fun k q1 => lnEnd n B q1 w k 0 0 0)
          rw [kb2_p s1']
          exact ⟨m1, 0, rfl, dM.tr t1, fun i hi => by rw [t2 _ (by omega), Ml i hi], Or.inr ⟨rfl, z1, z2⟩⟩
      by_cases c2 : kdH n B q = 2
      · rw [if_pos c2, if_pos c2]
        exact one 2 1 9999999 c2 (by decide)
      · rw [if_neg c2, if_neg c2]
        by_cases c3 : kdH n B q = 3
        · rw [if_pos c3, if_pos c3]
          obtain ⟨m1, t1, t2, t3⟩ := z_reads8 (N := N) hL hxM b3 he.2 M28 M31 hj hN (w := 1) (by decide) 1 9999999
          rcases t3 with ⟨s1, s2, s3, s4, s0, s5⟩ | ⟨s1, s2⟩
          · have s1' : f_X8_reads N G m 1 1 9999999 M = some (1, m1) := s1
            have he1 := tkE_le (B := B) he.2
            rw [s5, kb2_p s1', if_neg (by decide)]
            obtain ⟨m2, u1, u2, u3⟩ := z_reads8 (N := N) hL (hxM.ln hL t1) s3 he1.2 s2 (by rw [k31 t1]; exact M31) hj hN (w := 2) (by decide) 1 1000
            rcases u3 with ⟨w1, w2, w3, w4, w0, w5⟩ | ⟨w1, w2⟩
            · have w1' : f_X8_reads N G m 2 1 1000 m1 = some (1, m2) := w1
              have he2 := tkE_le (B := B) he1.2
              rw [w5, kb2_p w1', if_neg (by decide)]
              exact ⟨m2, 1, rfl, (dM.tr t1).tr u1, fun i hi => by rw [u2 _ (by omega), t2 _ (by omega), Ml i hi], Or.inl ⟨rfl, w2, _, _, _, _, _, _, rfl, he2.2, by omega, w3, ⟨by rw [u2 _ (by omega), t2 _ (by omega), M0, c3], fun _ => by rw [u2 _ (by omega)]; exact s4, fun _ => w4, fun y => by omega⟩⟩⟩
            · have w1' : f_X8_reads N G m 2 1 1000 m1 = some (0, m2) := w1
              obtain ⟨z1, z2⟩ := w2 (fun z q2 => lnEnd n B q2 3 (tkV n B (tkE n B q)) z 0 0)
              rw [kb2_p w1', if_pos rfl]
              exact ⟨m2, 0, rfl, (dM.tr t1).tr u1, fun i hi => by rw [u2 _ (by omega), t2 _ (by omega), Ml i hi], Or.inr ⟨rfl, z1, z2⟩⟩
          · have s1' : f_X8_reads N G m 1 1 9999999 M = some (0, m1) := s1
            obtain ⟨z1, z2⟩ := s2 (fun k q1 => lnNum n B q1 1 1000 (fun z q2 => lnEnd n B q2 3 k z 0 0))
            rw [kb2_p s1', if_pos rfl]
            exact ⟨m1, 0, rfl, dM.tr t1, fun i hi => by rw [t2 _ (by omega), Ml i hi], Or.inr ⟨rfl, z1, z2⟩⟩
        · rw [if_neg c3, if_neg c3]
          by_cases c4 : kdH n B q = 4
          · rw [if_pos c4, if_pos c4]
            exact one 4 0 1000 c4 (by decide)
          · rw [if_neg c4, if_neg c4]
            by_cases c5 : kdH n B q = 5
            · rw [if_pos c5, if_pos c5]
              exact one 5 1 50 c5 (by decide)
            · rw [if_neg c5, if_neg c5]
              exact ⟨M, 1, rfl, dM, Ml, Or.inl ⟨rfl, M28, _, _, _, _, _, _, rfl, he.2, by omega, b3, ⟨M0, fun y => by omega, fun y => by omega, fun y => by omega⟩⟩⟩
end LINE8
