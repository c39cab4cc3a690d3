/-! PURE: the words of a message; the reference reads a token -/
def wdL (t : Nat) : List Int := [[98, 117, 121], [115, 101, 108, 108], [111, 102, 102], [99, 117, 116], [103, 114, 97, 110, 116], [108, 101, 97, 115, 116], [99, 97, 108, 108], [111, 112, 101, 110], [114, 101, 115, 116], [99, 111, 109, 101], [98, 111, 116, 104], [108, 101, 115, 115]].getD t []
def wIs (n : Nat) (B : Nat → Int) (q : Nat) (w : List Int) : Bool := decide (tkK n B q = 1 ∧ tkE n B q - tkA n B q = w.length ∧ ∀ i, i < w.length → B (tkA n B q + i) = w.getD i 0)
def fwN (n : Nat) (B : Nat → Int) (q o : Nat) : Nat → Nat → Int
  | 0, _ => -1
  | k + 1, i => if wIs n B q (wdL (o + i)) = true then (i : Int) else fwN n B q o k (i + 1)
/-- what a line begins with; how an order is -/
def kdH (n : Nat) (B : Nat → Int) (q : Nat) : Int := fwN n B q 0 8 0
def mdH (n : Nat) (B : Nat → Int) (q : Nat) : Int := fwN n B q 8 4 0
theorem wd_t : ∀ t, t < 12 → tLen t = ((wdL t).length : Int) ∧ (wdL t).length ≤ 5 ∧ ∀ j, j < (wdL t).length → tCh t j = (wdL t).getD j 0 := by decide +kernel
theorem wIs_t {n q : Nat} {B : Nat → Int} {w : List Int} (h : tkK n B q = 1 ∧ tkE n B q - tkA n B q = w.length ∧ ∀ i, i < w.length → B (tkA n B q + i) = w.getD i 0) : wIs n B q w = true := decide_eq_true h
theorem wIs_f {n q : Nat} {B : Nat → Int} {w : List Int} (h : ¬ (tkK n B q = 1 ∧ tkE n B q - tkA n B q = w.length ∧ ∀ i, i < w.length → B (tkA n B q + i) = w.getD i 0)) : wIs n B q w = false := decide_eq_false h
section WORD6
variable {N : Nat} {G : qG} {p n q : Nat} {μ ν : qM} {B : Nat → Int}
theorem z_isWord6 (hx : cTx G p μ n B) (hk : cTk p μ n B q) (hq : q ≤ n) (hN : 1000 < N) {t : Nat} (ht : t < 12) : f_X6_isWord N G p t μ = some (b01 (wIs n B q (wdL t)), μ) := by
  obtain ⟨k5, k3, k4, -⟩ := hk
  obtain ⟨w1, w2, w3⟩ := wd_t t ht
  have h500 := hx.2.1
  have he := tkE_le (B := B) hq
  unfold f_X6_isWord
  rw [k4]
  by_cases c1 : tkK n B q = 1
  · rw [if_pos c1, k3, k5, ckI_p ⟨by omega, by omega⟩, w1]
    by_cases c2 : tkE n B q - tkA n B q = (wdL t).length
    · rw [if_pos (by omega)]
      unfold f_X6_isWord_L28
      refine qLoop_inv (fun j st => st = (p, t, (j : Int), μ) ∧ ∀ i, i < j → B (tkA n B q + i) = (wdL t).getD i 0) (fun r => r = some (b01 (wIs n B q (wdL t)), μ)) (wdL t).length ?_ ?_ (wdL t).length 0 N _ (by omega) (by omega) ⟨rfl, fun i hi => by omega⟩
      · rintro j st hj ⟨rfl, hh⟩
        have rd : ∀ {α : Type} (k : Int → Option α), rdA μ (gR G 600 p) ((tkA n B q : Int) + (j : Int)) 500 k = k (B (tkA n B q + j)) := fun k => by rw [rdA_p ⟨by omega, by omega⟩, show ((tkA n B q : Int) + (j : Int)).toNat = tkA n B q + j by omega, hx.2.2 _ (by omega)]
        by_cases e : B (tkA n B q + j) = (wdL t).getD j 0
        · refine Or.inr ⟨_, ⟨rfl, fun i hi => ?_⟩, fun k => ?_⟩
          · by_cases y : i = j
            · subst y; exact e
            · exact hh i (by omega)
          · show f_X6_isWord_28 N G _ p t (j : Int) μ = _
            unfold f_X6_isWord_28
            rw [w1, if_pos (by omega), k5, ckI_p ⟨by omega, by omega⟩, rd, rdS_p ⟨by omega, by omega⟩, Int.toNat_natCast, w3 j hj, if_pos e, ckI_p ⟨by omega, by omega⟩, cast1]
        · refine Or.inl ⟨_, rfl, fun k => ?_⟩
          show f_X6_isWord_28 N G _ p t (j : Int) μ = _
          unfold f_X6_isWord_28
          rw [w1, if_pos (by omega), k5, ckI_p ⟨by omega, by omega⟩, rd, rdS_p ⟨by omega, by omega⟩, Int.toNat_natCast, w3 j hj, if_neg e, b01_f (wIs_f (fun y => e (y.2.2 j hj)))]
      · rintro st ⟨rfl, hh⟩
        refine ⟨_, rfl, fun k => ?_⟩
        show f_X6_isWord_28 N G _ p t ((wdL t).length : Int) μ = _
        unfold f_X6_isWord_28
        rw [w1, if_neg (by omega), b01_t (wIs_t ⟨c1, c2, hh⟩)]
    · rw [if_neg (by omega), b01_f (wIs_f (fun y => c2 y.2.1))]
  · rw [if_neg c1, b01_f (wIs_f (fun y => c1 y.1))]
theorem z_verbText6 {i : Nat} (hi : i < 8) : f_X6_verbText N G (i : Int) μ = some (i, μ) := by
  have c : i = 0 ∨ i = 1 ∨ i = 2 ∨ i = 3 ∨ i = 4 ∨ i = 5 ∨ i = 6 ∨ i = 7 := by omega
  rcases c with rfl | rfl | rfl | rfl | rfl | rfl | rfl | rfl <;> rfl
theorem z_modeText6 {i : Nat} (hi : i < 4) : f_X6_modeText N G (i : Int) μ = some (8 + i, μ) := by
  have c : i = 0 ∨ i = 1 ∨ i = 2 ∨ i = 3 := by omega
  rcases c with rfl | rfl | rfl | rfl <;> rfl
theorem z_wordIn6 (hx : cTx G p μ n B) (hk : cTk p μ n B q) (hq : q ≤ n) (hN : 1000 < N) : f_X6_wordIn N G p 8 1 μ = some (kdH n B q, μ) ∧ f_X6_wordIn N G p 4 0 μ = some (mdH n B q, μ) := by
  have gen : ∀ (o c : Nat) (w : Int), (∀ i, i < c → o + i < 12) → (∀ (i : Nat) (k : Nat → Int → Int → Int → qM → Option (Int × qM)), i < c → f_X6_wordIn_2 N G k p (c : Int) w (i : Int) μ = f_X6_wordIn_23 N G k p (c : Int) w (i : Int) p (o + i) μ) → (∀ k, f_X6_wordIn_2 N G k p (c : Int) w (c : Int) μ = some (-1, μ)) → c ≤ 8 → f_X6_wordIn N G p (c : Int) w μ = some (fwN n B q o c 0, μ) := by
    intro o c w ho h1 h2 hc
    unfold f_X6_wordIn f_X6_wordIn_L2
    refine qLoop_inv (fun i st => st = (p, (c : Int), w, (i : Int), μ) ∧ fwN n B q o c 0 = fwN n B q o (c - i) i) (fun r => r = some (fwN n B q o c 0, μ)) c ?_ ?_ c 0 N _ (by omega) (by omega) ⟨rfl, rfl⟩
    · rintro i st hi ⟨rfl, hf⟩
      have e : c - i = (c - (i + 1)) + 1 := by omega
      rw [e] at hf
      have hf' : fwN n B q o c 0 = if wIs n B q (wdL (o + i)) = true then (i : Int) else fwN n B q o (c - (i + 1)) (i + 1) := hf
      have iw := z_isWord6 (N := N) hx hk hq hN (ho i hi)
      by_cases y : wIs n B q (wdL (o + i)) = true
      · rw [if_pos y] at hf'
        refine Or.inl ⟨_, rfl, fun k => ?_⟩
        show f_X6_wordIn_2 N G _ p (c : Int) w (i : Int) μ = _
        rw [h1 i _ hi]
        unfold f_X6_wordIn_23
        rw [kb2_p iw, b01_ite, if_pos y, hf']
      · rw [if_neg y] at hf'
        refine Or.inr ⟨_, ⟨rfl, hf'⟩, fun k => ?_⟩
        show f_X6_wordIn_2 N G _ p (c : Int) w (i : Int) μ = _
        rw [h1 i _ hi]
        unfold f_X6_wordIn_23
        rw [kb2_p iw, b01_ite, if_neg y, ckI_p ⟨by omega, by omega⟩, cast1]
    · rintro st ⟨rfl, hf⟩
      rw [Nat.sub_self] at hf
      refine ⟨_, rfl, fun k => ?_⟩
      show f_X6_wordIn_2 N G _ p (c : Int) w (c : Int) μ = _
      rw [h2, hf]
      rfl
  constructor
  · refine gen 0 8 1 (fun i hi => by omega) (fun i k hi => ?_) (fun k => ?_) (by omega)
    · unfold f_X6_wordIn_2
      rw [if_pos (by omega), if_neg (by decide), kb2_p (z_verbText6 hi), Nat.zero_add]
    · unfold f_X6_wordIn_2
      rw [if_neg (by omega)]
  · refine gen 8 4 0 (fun i hi => by omega) (fun i k hi => ?_) (fun k => ?_) (by omega)
    · unfold f_X6_wordIn_2
      rw [if_pos (by omega), if_pos rfl, kb2_p (z_modeText6 hi)]
    · unfold f_X6_wordIn_2
      rw [if_neg (by omega)]
end WORD6
def stF (g : Nat) : Prop := 824 ≤ g ∧ g ≤ 827
section STEP8
variable {N : Nat} {G : qG} {m n q a : Nat} {μ ν : qM} {B : Nat → Int}
/-- the text before the reference -/
def mTx (G : qG) (m : Nat) (μ : qM) (n : Nat) (B : Nat → Int) : Prop := gI μ 823 m = (n : Int) ∧ n ≤ 500 ∧ ∀ j, j < n → gA μ (gR G 821 m) j = iByte (B j) ∧ 0 ≤ B j ∧ B j < 256
def mTk (m : Nat) (μ : qM) (n : Nat) (B : Nat → Int) (q : Nat) : Prop := gI μ 824 m = (tkA n B q : Int) ∧ gI μ 825 m = (tkE n B q : Int) ∧ gI μ 826 m = tkK n B q ∧ (tkK n B q = 2 → gI μ 827 m = tkV n B q)
theorem mTx.fr {fs as : Nat → Prop} (h : mTx G m μ n B) (hd : dRf G m fs as μ ν) (h1 : ¬ fs 823) (h2 : ∀ f, as f → gR G 821 m ≠ gR G f m) : mTx G m ν n B :=
  ⟨by rw [hd.1 _ _ (fun e => h1 e.2)]; exact h.1, h.2.1, fun j hj => by rw [hd.2.1 _ _ h2]; exact h.2.2 j hj⟩
def seV (n : Nat) (B : Nat → Int) (i : Nat) : Int := if i < n then B i else -1
theorem z_see8 (hx : mTx G m μ n B) (i : Nat) : f_X8_see N G m (i : Int) μ = some (seV n B i, μ) := by
  have h500 := hx.2.1
  unfold f_X8_see seV
  rw [hx.1]
  by_cases c : i < n
  · rw [if_pos (by omega), if_pos c, rdA_p ⟨by omega, by omega⟩, Int.toNat_natCast, (hx.2.2 i c).1, kp_p, iAnd_iByte (hx.2.2 i c).2]
  · rw [if_neg (by omega), if_neg c]
theorem aIn_L {b : Int} : aIn b 97 122 = chL b := rfl
theorem aIn_D {b : Int} : aIn b 48 57 = chD b := rfl
theorem seV_f {f : Int → Bool} (hf : f (-1) = false) {e : Nat} : f (seV n B e) = true ↔ e < n ∧ f (B e) = true := by
  unfold seV
  by_cases c : e < n
  · rw [if_pos c]; exact ⟨fun y => ⟨c, y⟩, fun y => y.2⟩
  · rw [if_neg c, hf]; exact ⟨(fun y => by cases y), (fun y => absurd y.1 c)⟩
theorem z_st133 (hx : mTx G m μ n B) (h5 : gI μ 825 m = (a : Int)) (ha : a ≤ n) (hN : 1000 < N) :
    ∃ ν, f_X8_steps_L133 N G m μ = some ν ∧ dRf G m stF noA μ ν ∧ gI ν 824 m = gI μ 824 m ∧ gI ν 825 m = (sk n B chL a : Int) ∧ gI ν 826 m = 1 := by
  have h500 := hx.2.1
  unfold f_X8_steps_L133
  refine qLoop_dn
    (fun d st => ∃ mem e, st = (m, mem) ∧ d = n - e ∧ a ≤ e ∧ e ≤ n ∧ dRf G m stF noA μ mem ∧ gI mem 825 m = (e : Int) ∧ gI mem 824 m = gI μ 824 m ∧ sk n B chL a = sk n B chL e)
    (fun r => ∃ ν, r = some ν ∧ dRf G m stF noA μ ν ∧ gI ν 824 m = gI μ 824 m ∧ gI ν 825 m = (sk n B chL a : Int) ∧ gI ν 826 m = 1) ?_ (n - a) N _ (by omega) ⟨μ, a, rfl, rfl, Nat.le_refl _, ha, dRf.rf, h5, rfl, rfl⟩
  rintro d st ⟨mem, e, rfl, hd, h1, h2, hf, g5, g4, hs⟩
  have hx' := hx.fr hf (by unfold stF; omega) (fun f q => q.elim)
  have sf := seV_f (n := n) (B := B) (e := e) (f := chL) (by decide)
  by_cases c : e < n ∧ chL (B e) = true
  · refine Or.inr ⟨n - (e + 1), _, by have := c.1; omega, ⟨sI mem 825 m ((e + 1 : Nat) : Int), e + 1, rfl, rfl, by omega, c.1, hf.tr (dRf.sI (by unfold stF; omega)), gI_s, by rw [gI_f (by decide)]; exact g4, by rw [hs, sk_y c.1 c.2]⟩, fun k => ?_⟩
    show f_X8_steps_133 N G _ m mem = _
    unfold f_X8_steps_133
    rw [g5, kb2_p (z_see8 hx' e), kb2_p z_within8, aIn_L, b01_ite, if_pos (sf.mpr c), g5, ckI_p ⟨by omega, by omega⟩, kp_p, cast1]
  · refine Or.inl ⟨_, ⟨sI mem 826 m 1, rfl, hf.tr (dRf.sI (by unfold stF; omega)), by rw [gI_f (by decide)]; exact g4, by rw [gI_f (by decide), hs, sk_n c]; exact g5, gI_s⟩, fun k => ?_⟩
    show f_X8_steps_133 N G _ m mem = _
    unfold f_X8_steps_133
    rw [g5, kb2_p (z_see8 hx' e), kb2_p z_within8, aIn_L, b01_ite, if_neg (fun y => c (sf.mp y)), kp_p]
theorem z_st197 (hx : mTx G m μ n B) (h5 : gI μ 825 m = (a : Int)) (h4 : gI μ 824 m = (a : Int)) (h7 : gI μ 827 m = 0) (ha : a ≤ n) (hN : 1000 < N) :
    ∃ ν, f_X8_steps_L197 N G m μ = some ν ∧ dRf G m stF noA μ ν ∧ gI ν 824 m = (a : Int) ∧ gI ν 825 m = (sk n B chD a : Int) ∧ gI ν 826 m = (if 7 < (sk n B chD a : Int) - (a : Int) then 4 else 2) ∧ gI ν 827 m = dgV B a (min 7 (sk n B chD a - a)) := by
  have h500 := hx.2.1
  unfold f_X8_steps_L197
  refine qLoop_dn
    (fun d st => ∃ mem e, st = (m, mem) ∧ d = n - e ∧ a ≤ e ∧ e ≤ n ∧ dRf G m stF noA μ mem ∧ gI mem 825 m = (e : Int) ∧ gI mem 824 m = (a : Int) ∧ gI mem 827 m = dgV B a (min 7 (e - a)) ∧ (∀ j, a + j < e → chD (B (a + j)) = true) ∧ sk n B chD a = sk n B chD e)
    (fun r => ∃ ν, r = some ν ∧ dRf G m stF noA μ ν ∧ gI ν 824 m = (a : Int) ∧ gI ν 825 m = (sk n B chD a : Int) ∧ gI ν 826 m = (if 7 < (sk n B chD a : Int) - (a : Int) then 4 else 2) ∧ gI ν 827 m = dgV B a (min 7 (sk n B chD a - a))) ?_ (n - a) N _ (by omega) ⟨μ, a, rfl, rfl, Nat.le_refl _, ha, dRf.rf, h5, h4, by rw [Nat.sub_self]; exact h7, fun j hj => by omega, rfl⟩
  rintro d st ⟨mem, e, rfl, hd, h1, h2, hf, g5, g4, g7, gd, hs⟩
  have lt : e < n → n - (e + 1) < d := by clear g4 g5 g7 hs gd hf; omega
  have ls : e < n → e + 1 ≤ n := fun y => y
  have la : a ≤ e + 1 := by clear g4 g5 g7 hs gd hf; omega
  have hx' := hx.fr hf (by unfold stF; omega) (fun f q => q.elim)
  have sf := seV_f (n := n) (B := B) (e := e) (f := chD) (by decide)
  by_cases c : e < n ∧ chD (B e) = true
  · have lb : 48 ≤ B e ∧ B e ≤ 57 := of_decide_eq_true c.2
    have eS : seV n B e = B e := if_pos c.1
    have gd' : ∀ j, a + j < e + 1 → chD (B (a + j)) = true := fun j hj => by
      by_cases y : a + j = e
      · rw [y]; exact c.2
      · exact gd j (by omega)
    have vb := dgV_bd (a := a) (B := B) (i := min 7 (e - a)) (by omega) (fun j hj => gd j (by omega))
    by_cases s : (e : Int) - (a : Int) < 7
    · have v1 : dgV B a (min 7 (e + 1 - a)) = 10 * dgV B a (min 7 (e - a)) + B e - 48 := by
        rw [show min 7 (e + 1 - a) = (e - a) + 1 by omega, show min 7 (e - a) = e - a by omega]
        show 10 * dgV B a (e - a) + B (a + (e - a)) - 48 = _
        rw [show a + (e - a) = e by omega]
      have vb' := vb.2.2 (by omega)
      refine Or.inr ⟨n - (e + 1), _, lt c.1, ⟨sI (sI mem 827 m (dgV B a (min 7 (e + 1 - a)))) 825 m ((e + 1 : Nat) : Int), e + 1, rfl, rfl, la, ls c.1, (hf.tr (dRf.sI (by unfold stF; omega))).tr (dRf.sI (by unfold stF; omega)), gI_s, by rw [gI_f (by decide), gI_f (by decide)]; exact g4, by rw [gI_f (by decide), gI_s], gd', by rw [hs, sk_y c.1 c.2]⟩, fun k => ?_⟩
      show f_X8_steps_197 N G _ m mem = _
      unfold f_X8_steps_197 f_X8_steps_259
      rw [g5, kb2_p (z_see8 hx' e), kb2_p z_within8, aIn_D, b01_ite, if_pos (sf.mpr c), g5, g4, ckI_p ⟨by omega, by omega⟩, if_pos s, g7, ckI_p ⟨by omega, by omega⟩, kb2_p (z_see8 hx' e), eS, ckI_p ⟨by omega, by omega⟩, ckI_p ⟨by omega, by omega⟩, kp_p, gI_f (by decide), g5, ckI_p ⟨by omega, by omega⟩, kp_p, ← v1, cast1]
    · have m7 : min 7 (e + 1 - a) = min 7 (e - a) := by omega
      refine Or.inr ⟨n - (e + 1), _, lt c.1, ⟨sI (sI mem 827 m (dgV B a (min 7 (e + 1 - a)))) 825 m ((e + 1 : Nat) : Int), e + 1, rfl, rfl, la, ls c.1, (hf.tr (dRf.sI (by unfold stF; omega))).tr (dRf.sI (by unfold stF; omega)), gI_s, by rw [gI_f (by decide), gI_f (by decide)]; exact g4, by rw [gI_f (by decide), gI_s], gd', by rw [hs, sk_y c.1 c.2]⟩, fun k => ?_⟩
      show f_X8_steps_197 N G _ m mem = _
      unfold f_X8_steps_197 f_X8_steps_259
      rw [g5, kb2_p (z_see8 hx' e), kb2_p z_within8, aIn_D, b01_ite, if_pos (sf.mpr c), g5, g4, ckI_p ⟨by omega, by omega⟩, if_neg s, g7, kp_p, gI_f (by decide), g5, ckI_p ⟨by omega, by omega⟩, kp_p, m7, cast1]
  · have eS : sk n B chD a = e := by rw [hs, sk_n c]
    have fin : ∀ z : Int, z = (if 7 < (e : Int) - (a : Int) then 4 else 2) → ∃ ν, some (sI mem 826 m z) = some ν ∧ dRf G m stF noA μ ν ∧ gI ν 824 m = (a : Int) ∧ gI ν 825 m = (sk n B chD a : Int) ∧ gI ν 826 m = (if 7 < (sk n B chD a : Int) - (a : Int) then 4 else 2) ∧ gI ν 827 m = dgV B a (min 7 (sk n B chD a - a)) := by
      intro z hz
      rw [eS]
      exact ⟨_, rfl, hf.tr (dRf.sI (by unfold stF; omega)), by rw [gI_f (by decide)]; exact g4, by rw [gI_f (by decide)]; exact g5, by rw [gI_s, hz], by rw [gI_f (by decide)]; exact g7⟩
    by_cases s : (e : Int) - (a : Int) < 8
    · refine Or.inl ⟨_, fin 2 (by rw [if_neg (by omega)]), fun k => ?_⟩
      show f_X8_steps_197 N G _ m mem = _
      unfold f_X8_steps_197
      rw [g5, kb2_p (z_see8 hx' e), kb2_p z_within8, aIn_D, b01_ite, if_neg (fun y => c (sf.mp y)), g5, g4, ckI_p ⟨by omega, by omega⟩, if_pos s, kp_p]
    · refine Or.inl ⟨_, fin 4 (by rw [if_pos (by omega)]), fun k => ?_⟩
      show f_X8_steps_197 N G _ m mem = _
      unfold f_X8_steps_197
      rw [g5, kb2_p (z_see8 hx' e), kb2_p z_within8, aIn_D, b01_ite, if_neg (fun y => c (sf.mp y)), g5, g4, ckI_p ⟨by omega, by omega⟩, if_neg s, kp_p]
theorem z_steps8 (hx : mTx G m μ n B) (h5 : gI μ 825 m = (q : Int)) (hq : q ≤ n) (hN : 1000 < N) :
    ∃ ν, f_X8_steps N G m μ = some ν ∧ dRf G m stF noA μ ν ∧ mTk m ν n B q := by
  have h500 := hx.2.1
  unfold f_X8_steps
  rw [h5, kp_p]
  unfold f_X8_steps_L8
  refine qLoop_dn
    (fun d st => ∃ mem e, st = (m, mem) ∧ d = n - e ∧ q ≤ e ∧ e ≤ n ∧ dRf G m stF noA μ mem ∧ gI mem 824 m = (e : Int) ∧ tkA n B q = sk n B chS e)
    (fun r => ∃ ν, r = some ν ∧ dRf G m stF noA μ ν ∧ mTk m ν n B q) ?_ (n - q) N _ (by omega) ⟨_, q, rfl, rfl, Nat.le_refl _, hq, dRf.sI (by unfold stF; omega), gI_s, rfl⟩
  rintro d st ⟨mem, e, rfl, hd, h1, h2, hf, g4, hs⟩
  have hx' := hx.fr hf (by unfold stF; omega) (fun f q => q.elim)
  have sf := seV_f (n := n) (B := B) (e := e) (f := chS) (by decide)
  by_cases c : e < n ∧ chS (B e) = true
  · have sb : seV n B e = 32 ∨ seV n B e = 10 := of_decide_eq_true (sf.mpr c)
    refine Or.inr ⟨n - (e + 1), _, by have := c.1; omega, ⟨sI mem 824 m ((e + 1 : Nat) : Int), e + 1, rfl, rfl, by omega, c.1, hf.tr (dRf.sI (by unfold stF; omega)), gI_s, by rw [hs, sk_y c.1 c.2]⟩, fun k => ?_⟩
    show f_X8_steps_8 N G _ m mem = _
    unfold f_X8_steps_8 f_X8_steps_34
    rw [g4, kb2_p (z_see8 hx' e)]
    by_cases s : seV n B e = 32
    · rw [if_pos s, g4, ckI_p ⟨by omega, by omega⟩, kp_p, cast1]
    · rw [if_neg s, g4, kb2_p (z_see8 hx' e), if_pos (sb.resolve_left s), g4, ckI_p ⟨by omega, by omega⟩, kp_p, cast1]
  · have sb : ¬ (seV n B e = 32 ∨ seV n B e = 10) := fun y => c (sf.mp (decide_eq_true y))
    have eA : tkA n B q = e := hs.trans (sk_n c)
    generalize hM : sI (sI (sI mem 825 m ((e : Int) + 1)) 826 m 4) 827 m 0 = M
    have dM : dRf G m stF noA μ M := by
      rw [← hM]
      exact ((hf.tr (dRf.sI (by unfold stF; omega))).tr (dRf.sI (by unfold stF; omega))).tr (dRf.sI (by unfold stF; omega))
    have M4 : gI M 824 m = (e : Int) := by rw [← hM, gI_f (by decide), gI_f (by decide), gI_f (by decide)]; exact g4
    have M5 : gI M 825 m = (e : Int) + 1 := by rw [← hM, gI_f (by decide), gI_f (by decide), gI_s]
    have M6 : gI M 826 m = 4 := by rw [← hM, gI_f (by decide), gI_s]
    have M7 : gI M 827 m = 0 := by rw [← hM, gI_s]
    have pre : ∀ k, f_X8_steps_8 N G k m mem = if seV n B e = -1 then some (sI (sI M 825 m (e : Int)) 826 m 0) else if seV n B e = 59 then some (sI M 826 m 3) else if chL (seV n B e) = true then f_X8_steps_L133 N G m (sI M 825 m (e : Int)) else if chD (seV n B e) = true then f_X8_steps_L197 N G m (sI M 825 m (e : Int)) else some M := by
      intro k
      unfold f_X8_steps_8
      rw [g4, kb2_p (z_see8 hx' e), if_neg (fun y => sb (Or.inl y)), g4, kb2_p (z_see8 hx' e), if_neg (fun y => sb (Or.inr y)), g4, kb2_p (z_see8 hx' e), g4, ckI_p ⟨by omega, by omega⟩, kp_p, kp_p, kp_p, hM, M4]
      by_cases s1 : seV n B e = -1
      · rw [if_pos s1, if_pos s1, kp_p, kp_p]
      · rw [if_neg s1, if_neg s1]
        by_cases s2 : seV n B e = 59
        · rw [if_pos s2, if_pos s2, kp_p]
        · rw [if_neg s2, if_neg s2, kb2_p z_within8, aIn_L, b01_ite]
          by_cases s3 : chL (seV n B e) = true
          · rw [if_pos s3, if_pos s3, M4, kp_p]
          · rw [if_neg s3, if_neg s3, kb2_p z_within8, aIn_D, b01_ite]
            by_cases s4 : chD (seV n B e) = true
            · rw [if_pos s4, if_pos s4, M4, kp_p]
            · rw [if_neg s4, if_neg s4]
    suffices H : ∃ r, (∃ ν, r = some ν ∧ dRf G m stF noA μ ν ∧ mTk m ν n B q) ∧ (if seV n B e = -1 then some (sI (sI M 825 m (e : Int)) 826 m 0) else if seV n B e = 59 then some (sI M 826 m 3) else if chL (seV n B e) = true then f_X8_steps_L133 N G m (sI M 825 m (e : Int)) else if chD (seV n B e) = true then f_X8_steps_L197 N G m (sI M 825 m (e : Int)) else some M) = r by
      obtain ⟨r, r1, r2⟩ := H
      exact Or.inl ⟨r, r1, fun k => (pre _).trans r2⟩
    by_cases l : e < n
    · have eS : seV n B e = B e := if_pos l
      have hB := (hx.2.2 e l).2
      have dM2 : dRf G m stF noA μ (sI M 825 m (e : Int)) := dM.tr (dRf.sI (by unfold stF; omega))
      have hx2 := hx.fr dM2 (by unfold stF; omega) (fun f q => q.elim)
      rw [eS, if_neg (by omega)]
      by_cases s2 : B e = 59
      · have n1 : ¬ chL (B e) = true := fun y => by have := of_decide_eq_true y; omega
        have n2 : ¬ chD (B e) = true := fun y => by have := of_decide_eq_true y; omega
        rw [if_pos s2]
        refine ⟨_, ⟨_, rfl, dM.tr (dRf.sI (by unfold stF; omega)), by rw [gI_f (by decide), M4, eA], ?_, ?_, fun y => ?_⟩, rfl⟩
        · rw [gI_f (by decide), M5]; unfold tkE; rw [eA, if_pos l, if_neg n1, if_neg n2] <;> omega
        · rw [gI_s]; unfold tkK; rw [eA, if_pos l, if_neg n1, if_neg n2, if_pos s2]
        · unfold tkK at y; rw [eA, if_pos l, if_neg n1, if_neg n2, if_pos s2] at y; exact absurd y (by decide)
      · rw [if_neg s2]
        by_cases s3 : chL (B e) = true
        · have eE : tkE n B q = sk n B chL e := by unfold tkE; rw [eA, if_pos l, if_pos s3]
          have eK : tkK n B q = 1 := by unfold tkK; rw [eA, if_pos l, if_pos s3]
          obtain ⟨ν, a1, a2, a3, a4, a5⟩ := z_st133 (N := N) hx2 gI_s h2 hN
          rw [if_pos s3, a1]
          exact ⟨_, ⟨ν, rfl, dM2.tr a2, by rw [a3, gI_f (by decide), M4, eA], by rw [a4, eE], by rw [a5, eK], fun y => by rw [eK] at y; exact absurd y (by decide)⟩, rfl⟩
        · rw [if_neg s3]
          by_cases s4 : chD (B e) = true
          · have eE : tkE n B q = sk n B chD e := by unfold tkE; rw [eA, if_pos l, if_neg s3, if_pos s4]
            have eK : tkK n B q = if 7 < (sk n B chD e : Int) - (e : Int) then 4 else 2 := by unfold tkK; rw [eA, if_pos l, if_neg s3, if_pos s4, eE]
            obtain ⟨ν, a1, a2, a3, a4, a5, a6⟩ := z_st197 (N := N) hx2 gI_s (by rw [gI_f (by decide)]; exact M4) (by rw [gI_f (by decide)]; exact M7) h2 hN
            rw [if_pos s4, a1]
            exact ⟨_, ⟨ν, rfl, dM2.tr a2, by rw [a3, eA], by rw [a4, eE], by rw [a5, eK], fun _ => by rw [a6]; unfold tkV; rw [eA, eE]⟩, rfl⟩
          · rw [if_neg s4]
            refine ⟨_, ⟨M, rfl, dM, by rw [M4, eA], ?_, ?_, fun y => ?_⟩, rfl⟩
            · rw [M5]; unfold tkE; rw [eA, if_pos l, if_neg s3, if_neg s4] <;> omega
            · rw [M6]; unfold tkK; rw [eA, if_pos l, if_neg s3, if_neg s4, if_neg s2]
            · unfold tkK at y; rw [eA, if_pos l, if_neg s3, if_neg s4, if_neg s2] at y; exact absurd y (by decide)
    · have eS : seV n B e = -1 := if_neg l
      rw [eS, if_pos rfl]
      refine ⟨_, ⟨_, rfl, (dM.tr (dRf.sI (by unfold stF; omega))).tr (dRf.sI (by unfold stF; omega)), by rw [gI_f (by decide), gI_f (by decide), M4, eA], ?_, ?_, fun y => ?_⟩, rfl⟩
      · rw [gI_f (by decide), gI_s]; unfold tkE; rw [eA, if_neg l]
      · rw [gI_s]; unfold tkK; rw [eA, if_neg l]
      · unfold tkK at y; rw [eA, if_neg l] at y; exact absurd y (by decide)
end STEP8
