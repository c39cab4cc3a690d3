/-! PURE: a trade of the reference -/
/-- the rows of trades move by one -/
def shD (x : Nat) (μ : qM) : Nat → qM
  | 0 => μ
  | j + 1 => sA (shD x μ j) x (683 - j) (gA (shD x μ j) x (678 - j))
theorem shD_at {x : Nat} {μ : qM} : ∀ j, j ≤ 295 → (∀ f b, gI (shD x μ j) f b = gI μ f b) ∧ (∀ b i, b ≠ x → gA (shD x μ j) b i = gA μ b i) ∧ (∀ b i, gQ (shD x μ j) b i = gQ μ b i) ∧ ∀ i, gA (shD x μ j) x i = if 683 < i + j ∧ i ≤ 683 then gA μ x (i - 5) else gA μ x i := by
  intro j
  induction j with
  | zero => intro _; exact ⟨fun _ _ => rfl, fun _ _ _ => rfl, fun _ _ => rfl, fun i => by rw [if_neg (by omega)]; rfl⟩
  | succ j ih =>
    intro hj
    obtain ⟨h1, h2, h3, h4⟩ := ih (by omega)
    refine ⟨h1, fun b i hb => (gA_a hb).trans (h2 b i hb), h3, fun i => ?_⟩
    show gA (sA (shD x μ j) x (683 - j) (gA (shD x μ j) x (678 - j))) x i = _
    by_cases e : i = 683 - j
    · subst e
      rw [gA_s, h4, if_neg (by omega), if_pos (by omega)]
      congr 1
      omega
    · rw [gA_i e, h4]
      by_cases c : 683 < i + j ∧ i ≤ 683
      · rw [if_pos c, if_pos (by omega)]
      · rw [if_neg c, if_neg (by omega)]
section TR8
variable {N : Nat} {G : qG} {m : Nat} {μ ν : qM} {l : List (Nat → Int)} {T D : Nat → Int} {tr : Nat → Nat → Int} {n : Nat} {B : Nat → Int}
theorem z_tells8 (hL : mL G m) (h : mR G m μ l T D tr n B) (h10 : 0 ≤ T 10 ∧ T 10 ≤ 60) (hn : l.length ≤ 60) (hN : 1000 < N) (e : Nat → Int) :
    ∃ ν, f_X8_tells N G m (e 0) (e 1) (e 2) (e 3) (e 4) μ = some ν ∧ dX G m μ ν ∧ mR G m ν l (upd1 T 10 (min (T 10 + 1) 60)) D (aRec tr e) n B := by
  obtain ⟨a1, a2, a3, a4⟩ := shD_at (x := gR G 800 m) (μ := μ) 295 (by omega)
  have g10 : gA (s5 μ (gR G 800 m) e) (gR G 800 m) 10 = gA μ (gR G 800 m) 10 := by unfold s5; rw [gA_i (by decide), gA_i (by decide), gA_i (by decide), gA_i (by decide), gA_i (by decide)]
  -- the memory behind the five numbers
  generalize hμ2 : sA (sA (sA (sA (sA (shD (gR G 800 m) μ 295) (gR G 800 m) 384 (e 0)) (gR G 800 m) 385 (e 1)) (gR G 800 m) 386 (e 2)) (gR G 800 m) 387 (e 3)) (gR G 800 m) 388 (e 4) = μ2
  have d2 : dX G m μ μ2 := by
    rw [← hμ2]
    have : dX G m μ (shD (gR G 800 m) μ 295) := ⟨a1, fun a i q => a2 a i q, a3⟩
    exact ((((this.tr dX.sA).tr dX.sA).tr dX.sA).tr dX.sA).tr dX.sA
  have b0 : ∀ i, i < 384 → gA μ2 (gR G 800 m) i = gA μ (gR G 800 m) i := fun i hi => by
    rw [← hμ2, gA_i (by omega), gA_i (by omega), gA_i (by omega), gA_i (by omega), gA_i (by omega), a4, if_neg (by omega)]
  have b1 : ∀ w, w < 5 → gA μ2 (gR G 800 m) (384 + w) = e w := fun w hw => by
    have h5 : w = 0 ∨ w = 1 ∨ w = 2 ∨ w = 3 ∨ w = 4 := by omega
    rw [← hμ2]
    rcases h5 with rfl | rfl | rfl | rfl | rfl <;> simp [gA_sA]
  have b2 : ∀ i, 389 ≤ i → i ≤ 683 → gA μ2 (gR G 800 m) i = gA μ (gR G 800 m) (i - 5) := fun i hi hi2 => by
    rw [← hμ2, gA_i (by omega), gA_i (by omega), gA_i (by omega), gA_i (by omega), gA_i (by omega), a4, if_pos (by omega)]
  have hR2 : mR G m (sA μ2 (gR G 800 m) 10 (min (T 10 + 1) 60)) l (upd1 T 10 (min (T 10 + 1) 60)) D (aRec tr e) n B := by
    obtain ⟨h1, h2, h3, h4, h5, h6, h7⟩ := h
    refine ⟨⟨by rw [gA_i (by decide), b0 5 (by decide)]; exact h1.1, fun i k hi hk => by rw [gA_i (by omega), b0 _ (by omega)]; exact h1.2 i k hi hk⟩, fun j hj h5 => ?_, fun t ht => by rw [gA_a (hL.ne (by decide) (by decide) (by decide)), d2.2.1 _ _ (hL.ne (by decide) (by decide) (by decide))]; exact h3 t ht, fun i w hi hw => ?_, by rw [gI_sA, d2.1]; exact h5, h6, fun j hj => by rw [gA_a (hL.ne (by decide) (by decide) (by decide)), d2.2.1 _ _ (hL.ne (by decide) (by decide) (by decide))]; exact h7 j hj⟩
    · by_cases c : j = 10
      · subst c; rw [gA_s, upd1_s]
      · rw [gA_i c, upd1_n c, b0 _ (by omega)]; exact h2 j hj h5
    · rw [upd1_s] at hi
      rw [gA_i (by omega)]
      unfold aRec
      by_cases c : i = 0
      · subst c
        rw [if_pos rfl]; exact b1 w hw
      · rw [if_neg c, b2 _ (by omega) (by omega), ← h4 (i - 1) w (by omega) hw]
        congr 1
        omega
  refine ⟨sA μ2 (gR G 800 m) 10 (min (T 10 + 1) 60), ?_, d2.tr dX.sA, hR2⟩
  unfold f_X8_tells f_X8_tells_L5
  refine qLoop_end (fun j => (m, e 0, e 1, e 2, e 3, e 4, 683 - (j : Int), shD (gR G 800 m) μ j)) 295 N (by omega) (fun j hj k => ?_) (fun k => ?_)
  · show f_X8_tells_5 N G _ m (e 0) (e 1) (e 2) (e 3) (e 4) (683 - (j : Int)) (shD (gR G 800 m) μ j) = k (m, e 0, e 1, e 2, e 3, e 4, 683 - ((j + 1 : Nat) : Int), shD (gR G 800 m) μ (j + 1))
    unfold f_X8_tells_5
    rw [if_neg (by omega), ckI_p ⟨by omega, by omega⟩, rdA_p ⟨by omega, by omega⟩, wrA_p ⟨by omega, by omega⟩, ckI_p ⟨by omega, by omega⟩]
    rw [show (683 - (j : Int) - 5).toNat = 678 - j by omega, show (683 - (j : Int)).toNat = 683 - j by omega, show 683 - (j : Int) + (-1) = 683 - ((j + 1 : Nat) : Int) by omega]
    rfl
  · show f_X8_tells_5 N G _ m (e 0) (e 1) (e 2) (e 3) (e 4) (683 - ((295 : Nat) : Int)) (shD (gR G 800 m) μ 295) = _
    unfold f_X8_tells_5
    rw [if_pos (by decide), kp_p, kp_p, kp_p, kp_p, kp_p, hμ2, b0 10 (by decide), h.2.1 10 (by decide) (by decide)]
    by_cases c : T 10 < 60
    · have e60 : min (T 10 + 1) 60 = T 10 + 1 := by omega
      rw [if_pos c, ckI_p ⟨by omega, by omega⟩, kp_p, e60]
    · rw [if_neg c]
      have e60 : min (T 10 + 1) 60 = gA μ2 (gR G 800 m) 10 := by rw [b0 10 (by decide), h.2.1 10 (by decide) (by decide)]; omega
      rw [e60]
      have : sA μ2 (gR G 800 m) 10 (gA μ2 (gR G 800 m) 10) = μ2 := by
        show (μ2.1, (fun b j => if b = gR G 800 m ∧ j = 10 then gA μ2 (gR G 800 m) 10 else μ2.2.1 b j), μ2.2.2) = μ2
        have : (fun b j => if b = gR G 800 m ∧ j = 10 then gA μ2 (gR G 800 m) 10 else μ2.2.1 b j) = μ2.2.1 := by
          funext b j
          by_cases q : b = gR G 800 m ∧ j = 10
          · rw [if_pos q, q.1, q.2]; rfl
          · rw [if_neg q]
        rw [this]
      rw [this]
theorem mR.mon (hL : mL G m) (h : mR G m μ l T D tr n B) {t : Nat} {v : Int} : mR G m (sA μ (gR G 802 m) t v) l T (upd1 D t v) tr n B := by
  refine ⟨⟨by rw [gA_a (hL.ne (by decide) (by decide) (by decide))]; exact h.1.1, fun i k hi hk => by rw [gA_a (hL.ne (by decide) (by decide) (by decide))]; exact h.1.2 i k hi hk⟩, fun j a1 a2 => by rw [gA_a (hL.ne (by decide) (by decide) (by decide))]; exact h.2.1 j a1 a2, fun u hu => ?_, fun i w hi hw => by rw [gA_a (hL.ne (by decide) (by decide) (by decide))]; exact h.2.2.2.1 i w hi hw, h.2.2.2.2.1, h.2.2.2.2.2.1, fun i hi => by rw [gA_a (hL.ne (by decide) (by decide) (by decide))]; exact h.2.2.2.2.2.2 i hi⟩
  by_cases c : u = t
  · subst c; rw [gA_s, upd1_s]
  · rw [gA_i c, upd1_n c]; exact h.2.2.1 u hu
/-- the arrays of the market and of its money -/
def tA (a : Nat) : Prop := a = 800 ∨ a = 802
def noF (_ : Nat) : Prop := False
theorem z_moves8 (hL : mL G m) (h : mR G m μ l T D tr n B) {t : Nat} (ht : t < 10) {x1 side p lots : Int} (hx : x1 = (t : Int)) (hp : 0 ≤ p ∧ p ≤ 9999999) (hlo : 0 ≤ lots ∧ lots ≤ 1000000) :
    ∃ ν, f_X8_moves N G m x1 side p lots μ = some ν ∧ dRf G m noF tA μ ν ∧ mR G m ν l (upd1 T (14 + t) (w32 (T (14 + t) + sg side lots))) (upd1 D t (w64 (D t - p * sg side lots))) tr n B := by
  subst hx
  have b := sg_in (side := side) hp hlo
  have hb := mul_bd2 hp hlo
  have n02 : gR G 800 m ≠ gR G 802 m := hL.ne (by decide) (by decide) (by decide)
  have hT := h.T hL (j := 14 + t) (v := w32 (T (14 + t) + sg side lots)) (by omega) (by omega) (by omega)
  have hD := hT.mon hL (t := t) (v := w64 (D t - p * sg side lots))
  refine ⟨_, ?_, (dRf.sA (g := 800) (i := 14 + t) (v := w32 (T (14 + t) + sg side lots)) (Or.inl rfl)).tr (dRf.sA (g := 802) (i := t) (v := w64 (D t - p * sg side lots)) (Or.inr rfl)), hD⟩
  have e14 : ((14 : Int) + (t : Int)).toNat = 14 + t := by omega
  have mid : ∀ z, z = sg side lots → f_X8_moves_22 N G m (t : Int) side p lots (gR G 800 m) (14 + (t : Int)) (T (14 + t)) z μ = some (sA (sA μ (gR G 800 m) (14 + t) (w32 (T (14 + t) + sg side lots))) (gR G 802 m) t (w64 (D t - p * sg side lots))) := by
    intro z hz
    subst hz
    unfold f_X8_moves_22
    rw [kp_p, wrA_p ⟨by omega, by omega⟩, rdA_p ⟨by omega, by omega⟩, e14, Int.toNat_natCast, hT.2.2.1 t ht]
    by_cases c : side = 0
    · rw [if_pos c]
      unfold f_X8_moves_42
      have e1 : ((-1 : Int) * p) * lots = -(p * lots) := by rw [show (-1 : Int) * p = -p by omega, Int.neg_mul]
      have e2 : p * sg side lots = p * lots := by unfold sg; rw [if_pos c]
      rw [ckJ_p ⟨by omega, by omega⟩, e1, ckJ_p ⟨by omega, by omega⟩, kp_p, wrA_p ⟨by omega, by omega⟩, Int.toNat_natCast, e2, ← Int.sub_eq_add_neg]
    · rw [if_neg c]
      unfold f_X8_moves_42
      have e2 : p * sg side lots = -(p * lots) := by unfold sg; rw [if_neg c, Int.mul_neg]
      rw [ckJ_p ⟨by omega, by omega⟩, Int.one_mul, ckJ_p ⟨by omega, by omega⟩, kp_p, wrA_p ⟨by omega, by omega⟩, Int.toNat_natCast, e2, Int.sub_neg]
  unfold f_X8_moves
  rw [ckI_p ⟨by omega, by omega⟩, rdA_p ⟨by omega, by omega⟩, e14, h.2.1 (14 + t) (by omega) (by omega)]
  by_cases c : side = 0
  · rw [if_pos c]; exact mid _ (by unfold sg; rw [if_pos c])
  · rw [if_neg c, ckI_p ⟨by omega, by omega⟩]; exact mid _ (by unfold sg; rw [if_neg c])
/-- what the reference knows of who comes in -/
def mIn (m : Nat) (μ : qM) (num t0 s il la iw io : Int) : Prop := gI μ 811 m = num ∧ gI μ 812 m = t0 ∧ gI μ 813 m = s ∧ gI μ 814 m = il ∧ gI μ 815 m = la ∧ gI μ 816 m = iw ∧ gI μ 817 m = io
theorem mIn.fr {fs as : Nat → Prop} {num t0 s il la iw io : Int} (h : mIn m μ num t0 s il la iw io) (hd : dRf G m fs as μ ν) (hf : ∀ g, 811 ≤ g → g ≤ 817 → ¬ fs g) : mIn m ν num t0 s il la iw io := by
  obtain ⟨a, b, c, d, e, f, g⟩ := h
  have q : ∀ k, 811 ≤ k → k ≤ 817 → gI ν k m = gI μ k m := fun k h1 h2 => hd.1 _ _ (fun x => hf k h1 h2 x.2)
  exact ⟨by rw [q _ (by decide) (by decide)]; exact a, by rw [q _ (by decide) (by decide)]; exact b, by rw [q _ (by decide) (by decide)]; exact c, by rw [q _ (by decide) (by decide)]; exact d, by rw [q _ (by decide) (by decide)]; exact e, by rw [q _ (by decide) (by decide)]; exact f, by rw [q _ (by decide) (by decide)]; exact g⟩
def iF (g : Nat) : Prop := 814 ≤ g ∧ g ≤ 816
theorem mR.fr4 (h : mR G m μ l T D tr n B) {f : Nat} {v : Int} (hf : f ≠ 822) : mR G m (sI μ f m v) l T D tr n B := h.fld hf
end TR8
theorem apT_rf {T U : Nat → Int} {p p' : Int} {E : List (Nat → Int)} {W q2 q3 s t0 v side : Int} {e : Nat → Int} {t tn : Nat} (ht : e 5 = (t : Int)) (h6 : e 6 = side) (h3 : e 3 = v) (h2 : e 2 = p') (h0 : t0 = (tn : Int)) (X1 X2 X3 X4 : Nat → Int)
    (hX1 : X1 = upd1 (apT T U p E W q2 q3 s t0) 10 (min (apT T U p E W q2 q3 s t0 10 + 1) 60)) (hX2 : X2 = upd1 X1 (14 + t) (w32 (X1 (14 + t) + sg side v))) (hX3 : X3 = upd1 X2 (14 + tn) (w32 (X2 (14 + tn) + sg s v))) (hX4 : X4 = upd1 X3 3 p') : upd1 X4 11 (w32 (X4 11 + v)) = apT T U p' (e :: E) (W + v) q2 q3 s t0 := by
  have e1 : X1 (14 + t) = apT T U p E W q2 q3 s t0 (14 + t) := by rw [hX1, upd1_n (by omega)]
  have a : upd1 X2 3 p' = apT T U p' (e :: E) W q2 q3 s t0 := by
    rw [hX2, upd1_c (by omega), e1, hX1, ← h6, ← h3, ← h2]
    exact apT_tr ht
  have e2 : X2 (14 + tn) = apT T U p' (e :: E) W q2 q3 s t0 (14 + tn) := by rw [← a, upd1_n (by omega)]
  have e4 : X4 = upd1 (apT T U p' (e :: E) W q2 q3 s t0) (14 + tn) (w32 (apT T U p' (e :: E) W q2 q3 s t0 (14 + tn) + sg s v)) := by
    rw [hX4, hX3, upd1_c (by omega), a, e2]
  have e5 : X4 11 = apT T U p' (e :: E) W q2 q3 s t0 11 := by rw [e4, upd1_n (by omega)]
  rw [e5, e4]
  exact apT_in h0
section TR8B
variable {N : Nat} {G : qG} {m : Nat} {μ ν : qM} {l : List (Nat → Int)} {T U D : Nat → Int} {tr : Nat → Nat → Int} {n : Nat} {B : Nat → Int} {E : List (Nat → Int)} {p0 W Y q2 q3 s : Int} {t0 : Nat} {num il la iw io : Int}
/-- one trade -/
theorem z_trades8 (hL : mL G m) (hl : lOk l) (ht0 : t0 < 10) (hs : s = 0 ∨ s = 1) (h10 : 0 ≤ T 10 ∧ T 10 ≤ 60) (hN : 1000 < N)
    (h : mR G m μ l (apT T U p0 E W q2 q3 s (t0 : Int)) (apD D E Y s (t0 : Int)) (apTr tr E) n B) (hi : mIn m μ num (t0 : Int) s (w32 W) la (w64 Y) io) {k i : Nat} (hk : k < 70) (ha : gA μ (gR G 806 m) k = (i : Int)) (hil : i < l.length) (hside : lG l i 2 = 1 - s) {p v kind : Int} (hp : 0 ≤ p ∧ p ≤ 9999999) (hv : 0 ≤ v ∧ v ≤ 1000) :
    ∃ ν, f_X8_trades N G m (k : Int) p v kind μ = some ν ∧ dRf G m iF tA μ ν ∧ mR G m ν l (apT T U (if 0 < v then p else p0) (if 0 < v then tRow (lG l i) num p v kind :: E else E) (W + v) q2 q3 s (t0 : Int)) (apD D (if 0 < v then tRow (lG l i) num p v kind :: E else E) (Y + p * v) s (t0 : Int)) (apTr tr (if 0 < v then tRow (lG l i) num p v kind :: E else E)) n B ∧ mIn m ν num (t0 : Int) s (w32 (W + v)) (if 0 < v then p else la) (w64 (Y + p * v)) io := by
  have hn := hl.1
  unfold f_X8_trades
  by_cases c : v = 0
  · rw [if_pos c, if_neg (by omega), if_neg (by omega), if_neg (by omega), c, Int.mul_zero, Int.add_zero, Int.add_zero]
    exact ⟨μ, rfl, dRf.rf, h, hi⟩
  · have c' : 0 < v := by omega
    obtain ⟨i1, i2, i3, i4, i5, i6, i7⟩ := hi
    have ho := hl.2 i hil
    have b10 : 0 ≤ apT T U p0 E W q2 q3 s (t0 : Int) 10 ∧ apT T U p0 E W q2 q3 s (t0 : Int) 10 ≤ 60 := by rw [apT_10]; omega
    obtain ⟨μ1, k1, k2, k3⟩ := z_tells8 (N := N) hL h b10 hn hN (tRow (lG l i) num p v kind)
    have k1' : f_X8_tells N G m (lG l i 0) (gI μ 811 m) p v kind μ = some μ1 := by rw [i1]; exact k1
    have tb := ho.2.1
    obtain ⟨μ2, m1, m2, m3⟩ := z_moves8 (N := N) (x1 := lG l i 1) (side := 1 - s) (p := p) (lots := v) hL k3 (t := (lG l i 1).toNat) (by omega) (by omega) hp ⟨by omega, by omega⟩
    obtain ⟨μ3, o1, o2, o3⟩ := z_moves8 (N := N) (x1 := (t0 : Int)) (side := s) (p := p) (lots := v) hL m3 (t := t0) ht0 rfl hp ⟨by omega, by omega⟩
    have f1 : ∀ g, gI μ1 g m = gI μ g m := fun g => k2.1 g m
    have f2 : ∀ g, gI μ2 g m = gI μ g m := fun g => (m2.1 g m (fun x => x.2)).trans (f1 g)
    have f3 : ∀ g, gI μ3 g m = gI μ g m := fun g => (o2.1 g m (fun x => x.2)).trans (f2 g)
    have h5e : tRow (lG l i) num p v kind 5 = ((lG l i 1).toNat : Int) := by show lG l i 1 = _; omega
    have h6e : tRow (lG l i) num p v kind 6 = 1 - s := hside
    have eD := apD_tr (D := D) (E := E) (Y := Y) (s := s) (t0 := (t0 : Int)) (e := tRow (lG l i) num p v kind) h5e
    have eD' : upd1 (apD D E Y s (t0 : Int)) (lG l i 1).toNat (w64 (apD D E Y s (t0 : Int) (lG l i 1).toNat - p * sg (1 - s) v)) = apD D (tRow (lG l i) num p v kind :: E) Y s (t0 : Int) := by rw [← h6e]; exact eD
    have eD2 := apD_in (D := D) (E := tRow (lG l i) num p v kind :: E) (Y := Y) (s := s) (t0 := (t0 : Int)) (t := t0) rfl (v := p) (w := v)
    have h3 := o3.T hL (j := 3) (v := p) (by decide) (by decide) (by decide)
    rw [eD', eD2, apTr_c] at h3
    rw [if_neg c, if_pos c', if_pos c', if_pos c', rdA_p ⟨by omega, by omega⟩, Int.toNat_natCast, ha, kb2_p (z8_0 h.1 hn hil), kb_p k1', kb2_p (z8_1 k3.1 hn hil), f1, i3, ckI_p ⟨by omega, by omega⟩, kb_p m1, f2, i2, f2, i3, kb_p o1, kp_p]
    have key : ∀ X4, mR G m (sA μ3 (gR G 800 m) 3 p) l X4 (apD D (tRow (lG l i) num p v kind :: E) (Y + p * v) s (t0 : Int)) (apTr tr (tRow (lG l i) num p v kind :: E)) n B → upd1 X4 11 (w32 (X4 11 + v)) = apT T U p (tRow (lG l i) num p v kind :: E) (W + v) q2 q3 s (t0 : Int) → ∃ ν, (kp (w32 (gA (sA μ3 (gR G 800 m) 3 p) (gR G 800 m) 11 + v)) fun v15 => kp (sA (sA μ3 (gR G 800 m) 3 p) (gR G 800 m) 11 v15) fun m16 => kp (w32 (gI m16 814 m + v)) fun v17 => kp (sI m16 814 m v17) fun m18 => kp (sI m18 815 m p) fun m19 => ckJ (v * p) fun v20 => kp (w64 (gI m19 816 m + v20)) fun v21 => kp (sI m19 816 m v21) fun m22 => some m22) = some ν ∧ dRf G m iF tA μ ν ∧ mR G m ν l (apT T U p (tRow (lG l i) num p v kind :: E) (W + v) q2 q3 s (t0 : Int)) (apD D (tRow (lG l i) num p v kind :: E) (Y + p * v) s (t0 : Int)) (apTr tr (tRow (lG l i) num p v kind :: E)) n B ∧ mIn m ν num (t0 : Int) s (w32 (W + v)) p (w64 (Y + p * v)) io := by
      intro X4 hx eX
      have h11 := hx.T hL (j := 11) (v := w32 (X4 11 + v)) (by decide) (by decide) (by decide)
      rw [eX] at h11
      have hb := mul_bd2 (a := v) (b := p) (A := 1000) (B := 9999999) hv hp
      rw [hx.2.1 11 (by decide) (by decide), kp_p, kp_p, gI_sA, gI_sA, f3, i4, kp_p, kp_p, kp_p, ckJ_p ⟨by omega, by omega⟩, gI_f (by decide), gI_f (by decide), gI_sA, gI_sA, f3, i6, kp_p, kp_p, w32_l, w64_l, Int.mul_comm v p]
      refine ⟨_, rfl, ?_, ((h11.fld (by decide)).fld (by decide)).fld (by decide), ?_⟩
      · have t1 : dRf G m iF tA μ μ1 := k2.rfm (Or.inl rfl)
        have t2 : dRf G m iF tA μ1 μ2 := m2.mono (fun g x => absurd x (fun y => y)) (fun _ x => x)
        have t3 : dRf G m iF tA μ2 μ3 := o2.mono (fun g x => absurd x (fun y => y)) (fun _ x => x)
        have i4' : iF 814 := ⟨by decide, by decide⟩
        have i5' : iF 815 := ⟨by decide, by decide⟩
        have i6' : iF 816 := ⟨by decide, by decide⟩
        exact (((((((t1.tr t2).tr t3).tr (dRf.sA (Or.inl rfl))).tr (dRf.sA (Or.inl rfl))).tr (dRf.sI i4')).tr (dRf.sI i5')).tr (dRf.sI i6'))
      · have g3 : ∀ g, g ≠ 814 → g ≠ 815 → g ≠ 816 → ∀ a b c d, gI (sI (sI (sI (sA (sA μ3 (gR G 800 m) 3 p) (gR G 800 m) 11 d) 814 m a) 815 m b) 816 m c) g m = gI μ g m := fun g q4 q5 q6 a b c d => by rw [gI_f q6, gI_f q5, gI_f q4, gI_sA, gI_sA, f3]
        refine ⟨?_, ?_, ?_, ?_, ?_, ?_, ?_⟩
        · rw [g3 _ (by decide) (by decide) (by decide)]; exact i1
        · rw [g3 _ (by decide) (by decide) (by decide)]; exact i2
        · rw [g3 _ (by decide) (by decide) (by decide)]; exact i3
        · rw [gI_f (by decide), gI_f (by decide), gI_s]
        · rw [gI_f (by decide), gI_s]
        · rw [gI_s]
        · rw [g3 _ (by decide) (by decide) (by decide)]; exact i7
    exact key _ h3 (apT_rf h5e h6e rfl rfl rfl _ _ _ _ rfl rfl rfl rfl)
end TR8B
