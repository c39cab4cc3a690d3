/-! PURE: the tokens of a message; the class reads one -/
def chS (b : Int) : Bool := decide (b = 32 ∨ b = 10)
def chL (b : Int) : Bool := decide (97 ≤ b ∧ b ≤ 122)
def chD (b : Int) : Bool := decide (48 ≤ b ∧ b ≤ 57)
def skN (n : Nat) (B : Nat → Int) (f : Int → Bool) : Nat → Nat → Nat
  | 0, q => q
  | k + 1, q => if q < n ∧ f (B q) = true then skN n B f k (q + 1) else q
/-- the first place from q on that isn't of the sort -/
def sk (n : Nat) (B : Nat → Int) (f : Int → Bool) (q : Nat) : Nat := skN n B f (n - q) q
def dgV (B : Nat → Int) (a : Nat) : Nat → Int
  | 0 => 0
  | i + 1 => 10 * dgV B a i + B (a + i) - 48
def tkA (n : Nat) (B : Nat → Int) (q : Nat) : Nat := sk n B chS q
def tkE (n : Nat) (B : Nat → Int) (q : Nat) : Nat :=
  if tkA n B q < n then (if chL (B (tkA n B q)) = true then sk n B chL (tkA n B q) else if chD (B (tkA n B q)) = true then sk n B chD (tkA n B q) else tkA n B q + 1) else tkA n B q
def tkK (n : Nat) (B : Nat → Int) (q : Nat) : Int :=
  if tkA n B q < n then (if chL (B (tkA n B q)) = true then 1 else if chD (B (tkA n B q)) = true then (if 7 < (tkE n B q : Int) - (tkA n B q : Int) then 4 else 2) else if B (tkA n B q) = 59 then 3 else 4) else 0
def tkV (n : Nat) (B : Nat → Int) (q : Nat) : Int := dgV B (tkA n B q) (min 7 (tkE n B q - tkA n B q))
section TOK
variable {n q a : Nat} {B : Nat → Int} {f : Int → Bool}
theorem sk_y (h : q < n) (hf : f (B q) = true) : sk n B f q = sk n B f (q + 1) := by
  unfold sk
  obtain ⟨k, hk⟩ : ∃ k, n - q = k + 1 := ⟨n - q - 1, by omega⟩
  rw [hk, show n - (q + 1) = k by omega]
  exact if_pos ⟨h, hf⟩
theorem sk_n (h : ¬ (q < n ∧ f (B q) = true)) : sk n B f q = q := by
  unfold sk
  cases hk : n - q with
  | zero => rfl
  | succ k => exact if_neg h
theorem sk_bd : ∀ (d q : Nat), n - q = d → q ≤ n → q ≤ sk n B f q ∧ sk n B f q ≤ n := by
  intro d
  induction d with
  | zero => intro q h1 h2; rw [sk_n (by omega)]; omega
  | succ d ih =>
    intro q h1 h2
    by_cases c : q < n ∧ f (B q) = true
    · rw [sk_y c.1 c.2]
      have := ih (q + 1) (by omega) (by omega)
      omega
    · rw [sk_n c]; omega
theorem sk_le (h : q ≤ n) : q ≤ sk n B f q ∧ sk n B f q ≤ n := sk_bd _ q rfl h
theorem sk_lt (h : q < n) (hf : f (B q) = true) : q < sk n B f q := by
  rw [sk_y h hf]
  have := sk_le (f := f) (B := B) (show q + 1 ≤ n by omega)
  omega
theorem tkA_le (h : q ≤ n) : q ≤ tkA n B q ∧ tkA n B q ≤ n := sk_le h
theorem tkE_le (h : q ≤ n) : tkA n B q ≤ tkE n B q ∧ tkE n B q ≤ n := by
  have ha := tkA_le (B := B) h
  unfold tkE
  by_cases c : tkA n B q < n
  · rw [if_pos c]
    split
    · exact sk_le ha.2
    · split
      · exact sk_le ha.2
      · omega
  · rw [if_neg c]; omega
theorem dgV_bd {i : Nat} (hi : i ≤ 7) (h : ∀ j, j < i → chD (B (a + j)) = true) : 0 ≤ dgV B a i ∧ dgV B a i ≤ 9999999 ∧ (i < 7 → dgV B a i ≤ 999999) := by
  have key : ∀ i, i ≤ 7 → (∀ j, j < i → chD (B (a + j)) = true) → 0 ≤ dgV B a i ∧ dgV B a i < 10 ^ i := by
    intro i
    induction i with
    | zero => intro _ _; exact ⟨Int.le_refl _, by show (0 : Int) < 1; decide⟩
    | succ i ih =>
      intro hi h
      obtain ⟨h1, h2⟩ := ih (by omega) (fun j hj => h j (by omega))
      have hb : 48 ≤ B (a + i) ∧ B (a + i) ≤ 57 := of_decide_eq_true (h i (by omega))
      show 0 ≤ 10 * dgV B a i + B (a + i) - 48 ∧ 10 * dgV B a i + B (a + i) - 48 < 10 ^ (i + 1)
      rw [Int.pow_succ]
      omega
  obtain ⟨h1, h2⟩ := key i hi h
  have c : i = 0 ∨ i = 1 ∨ i = 2 ∨ i = 3 ∨ i = 4 ∨ i = 5 ∨ i = 6 ∨ i = 7 := by omega
  rcases c with rfl | rfl | rfl | rfl | rfl | rfl | rfl | rfl <;> simp at h2 <;> omega
end TOK
def tkF (g : Nat) : Prop := 603 ≤ g ∧ g ≤ 606
section TOK6
variable {N : Nat} {G : qG} {p n q a : Nat} {μ ν : qM} {B : Nat → Int}
/-- the text before the class -/
def cTx (G : qG) (p : Nat) (μ : qM) (n : Nat) (B : Nat → Int) : Prop := gI μ 602 p = (n : Int) ∧ n ≤ 500 ∧ ∀ j, j < n → gA μ (gR G 600 p) j = B j
/-- the token that it has read from q on -/
def cTk (p : Nat) (μ : qM) (n : Nat) (B : Nat → Int) (q : Nat) : Prop := gI μ 605 p = (tkA n B q : Int) ∧ gI μ 603 p = (tkE n B q : Int) ∧ gI μ 604 p = tkK n B q ∧ (tkK n B q = 2 → gI μ 606 p = tkV n B q)
theorem cTx.fr {fs as : Nat → Prop} (h : cTx G p μ n B) (hd : dRf G p fs as μ ν) (h1 : ¬ fs 602) (h2 : ∀ f, as f → gR G 600 p ≠ gR G f p) : cTx G p ν n B :=
  ⟨by rw [hd.1 _ _ (fun e => h1 e.2)]; exact h.1, h.2.1, fun j hj => by rw [hd.2.1 _ _ h2]; exact h.2.2 j hj⟩
theorem z_isLetter6 {b : Int} : f_X6_isLetter N G b μ = some (b01 (chL b), μ) := by
  unfold f_X6_isLetter chL
  by_cases c : b < 97
  · rw [if_pos c, b01_f (by simp; omega)]
  · rw [if_neg c]
    by_cases d : 122 < b
    · rw [if_pos d, b01_f (by simp; omega)]
    · rw [if_neg d, b01_t (by simp; omega)]
theorem z_isDigit6 {b : Int} : f_X6_isDigit N G b μ = some (b01 (chD b), μ) := by
  unfold f_X6_isDigit chD
  by_cases c : b < 48
  · rw [if_pos c, b01_f (by simp; omega)]
  · rw [if_neg c]
    by_cases d : 57 < b
    · rw [if_pos d, b01_f (by simp; omega)]
    · rw [if_neg d, b01_t (by simp; omega)]
theorem z_readWord6 (hx : cTx G p μ n B) (h3 : gI μ 603 p = (a : Int)) (ha : a ≤ n) (hN : 1000 < N) :
    ∃ ν, f_X6_readWord N G p μ = some ν ∧ dRf G p tkF noA μ ν ∧ gI ν 605 p = gI μ 605 p ∧ gI ν 603 p = (sk n B chL a : Int) ∧ gI ν 604 p = 1 := by
  have h500 := hx.2.1
  unfold f_X6_readWord
  rw [kp_p]
  unfold f_X6_readWord_L5
  refine qLoop_dn
    (fun d st => ∃ mem e, st = (p, mem) ∧ d = n - e ∧ a ≤ e ∧ e ≤ n ∧ dRf G p tkF noA μ mem ∧ gI mem 603 p = (e : Int) ∧ gI mem 605 p = gI μ 605 p ∧ gI mem 604 p = 1 ∧ sk n B chL a = sk n B chL e)
    (fun r => ∃ ν, r = some ν ∧ dRf G p tkF noA μ ν ∧ gI ν 605 p = gI μ 605 p ∧ gI ν 603 p = (sk n B chL a : Int) ∧ gI ν 604 p = 1) ?_ (n - a) N _ (by omega) ⟨_, a, rfl, rfl, Nat.le_refl _, ha, dRf.sI (by unfold tkF; omega), by rw [gI_f (by decide)]; exact h3, by rw [gI_f (by decide)], gI_s, rfl⟩
  rintro d st ⟨mem, e, rfl, hd, h1, h2, hf, g3, g5, g4, hs⟩
  have hx' := hx.fr hf (by unfold tkF; omega) (fun f q => q.elim)
  by_cases c : e < n
  · have rd : ∀ {α : Type} (k : Int → Option α), rdA mem (gR G 600 p) (e : Int) 500 k = k (B e) := fun k => by rw [rdA_p ⟨by omega, by omega⟩, Int.toNat_natCast, hx'.2.2 e c]
    by_cases l : chL (B e) = true
    · refine Or.inr ⟨n - (e + 1), _, by omega, ⟨sI mem 603 p ((e + 1 : Nat) : Int), e + 1, rfl, rfl, by omega, by omega, hf.tr (dRf.sI (by unfold tkF; omega)), gI_s, by rw [gI_f (by decide)]; exact g5, by rw [gI_f (by decide)]; exact g4, by rw [hs, sk_y c l]⟩, fun k => ?_⟩
      show f_X6_readWord_5 N G _ p mem = _
      unfold f_X6_readWord_5
      rw [g3, hx'.1, if_pos (by omega), rd, kb2_p z_isLetter6, b01_ite, if_pos l, g3, ckI_p ⟨by omega, by omega⟩, kp_p, cast1]
    · refine Or.inl ⟨some mem, ⟨mem, rfl, hf, g5, by rw [hs, sk_n (fun y => l y.2)]; exact g3, g4⟩, fun k => ?_⟩
      show f_X6_readWord_5 N G _ p mem = _
      unfold f_X6_readWord_5
      rw [g3, hx'.1, if_pos (by omega), rd, kb2_p z_isLetter6, b01_ite, if_neg l]
  · refine Or.inl ⟨some mem, ⟨mem, rfl, hf, g5, by rw [hs, sk_n (fun y => c y.1)]; exact g3, g4⟩, fun k => ?_⟩
    show f_X6_readWord_5 N G _ p mem = _
    unfold f_X6_readWord_5
    rw [g3, hx'.1, if_neg (by omega)]
theorem z_readDigits6 (hx : cTx G p μ n B) (h3 : gI μ 603 p = (a : Int)) (h5 : gI μ 605 p = (a : Int)) (ha : a ≤ n) (hN : 1000 < N) :
    ∃ ν, f_X6_readDigits N G p μ = some ν ∧ dRf G p tkF noA μ ν ∧ gI ν 605 p = (a : Int) ∧ gI ν 603 p = (sk n B chD a : Int) ∧ gI ν 604 p = (if 7 < (sk n B chD a : Int) - (a : Int) then 4 else 2) ∧ gI ν 606 p = dgV B a (min 7 (sk n B chD a - a)) := by
  have h500 := hx.2.1
  unfold f_X6_readDigits
  rw [kp_p]
  unfold f_X6_readDigits_L5
  refine qLoop_dn
    (fun d st => ∃ mem e, st = (p, mem) ∧ d = n - e ∧ a ≤ e ∧ e ≤ n ∧ dRf G p tkF noA μ mem ∧ gI mem 603 p = (e : Int) ∧ gI mem 605 p = (a : Int) ∧ gI mem 606 p = dgV B a (min 7 (e - a)) ∧ (∀ j, a + j < e → chD (B (a + j)) = true) ∧ sk n B chD a = sk n B chD e)
    (fun r => ∃ ν, r = some ν ∧ dRf G p tkF noA μ ν ∧ gI ν 605 p = (a : Int) ∧ gI ν 603 p = (sk n B chD a : Int) ∧ gI ν 604 p = (if 7 < (sk n B chD a : Int) - (a : Int) then 4 else 2) ∧ gI ν 606 p = dgV B a (min 7 (sk n B chD a - a))) ?_ (n - a) N _ (by omega) ⟨_, a, rfl, rfl, Nat.le_refl _, ha, dRf.sI (by unfold tkF; omega), by rw [gI_f (by decide)]; exact h3, by rw [gI_f (by decide)]; exact h5, by rw [gI_s, Nat.sub_self]; rfl, fun j hj => by omega, rfl⟩
  rintro d st ⟨mem, e, rfl, hd, h1, h2, hf, g3, g5, g6, gd, hs⟩
  have lt : e < n → n - (e + 1) < d := by clear g3 g5 g6 hs gd hf; omega
  have ls : e < n → e + 1 ≤ n := fun y => y
  have la : a ≤ e + 1 := by clear g3 g5 g6 hs gd hf; omega
  have hx' := hx.fr hf (by unfold tkF; omega) (fun f q => q.elim)
  have fin : sk n B chD e = e → ∃ r, (∃ ν, r = some ν ∧ dRf G p tkF noA μ ν ∧ gI ν 605 p = (a : Int) ∧ gI ν 603 p = (sk n B chD a : Int) ∧ gI ν 604 p = (if 7 < (sk n B chD a : Int) - (a : Int) then 4 else 2) ∧ gI ν 606 p = dgV B a (min 7 (sk n B chD a - a))) ∧ f_X6_readDigits_82 N G p mem = r := by
    intro he
    rw [hs, he]
    unfold f_X6_readDigits_82
    rw [g3, g5, ckI_p ⟨by omega, by omega⟩]
    by_cases c : 7 < (e : Int) - (a : Int)
    · rw [if_pos c, if_pos c, kp_p]
      exact ⟨_, ⟨_, rfl, hf.tr (dRf.sI (by unfold tkF; omega)), by rw [gI_f (by decide)]; exact g5, by rw [gI_f (by decide)]; exact g3, gI_s, by rw [gI_f (by decide)]; exact g6⟩, rfl⟩
    · rw [if_neg c, if_neg c, kp_p]
      exact ⟨_, ⟨_, rfl, hf.tr (dRf.sI (by unfold tkF; omega)), by rw [gI_f (by decide)]; exact g5, by rw [gI_f (by decide)]; exact g3, gI_s, by rw [gI_f (by decide)]; exact g6⟩, rfl⟩
  by_cases c : e < n
  · have rd : ∀ {α : Type} (k : Int → Option α), rdA mem (gR G 600 p) (e : Int) 500 k = k (B e) := fun k => by rw [rdA_p ⟨by omega, by omega⟩, Int.toNat_natCast, hx'.2.2 e c]
    by_cases l : chD (B e) = true
    · have lb : 48 ≤ B e ∧ B e ≤ 57 := of_decide_eq_true l
      have gd' : ∀ j, a + j < e + 1 → chD (B (a + j)) = true := fun j hj => by
        by_cases y : a + j = e
        · rw [y]; exact l
        · exact gd j (by omega)
      have vb := dgV_bd (a := a) (B := B) (i := min 7 (e - a)) (by omega) (fun j hj => gd j (by omega))
      by_cases s : (e : Int) - (a : Int) < 7
      · have v1 : dgV B a (min 7 (e + 1 - a)) = 10 * dgV B a (min 7 (e - a)) + B e - 48 := by
          rw [show min 7 (e + 1 - a) = (e - a) + 1 by omega, show min 7 (e - a) = e - a by omega]
          show 10 * dgV B a (e - a) + B (a + (e - a)) - 48 = _
          rw [show a + (e - a) = e by omega]
        have vb' := vb.2.2 (by omega)
        refine Or.inr ⟨n - (e + 1), _, lt c, ⟨sI (sI mem 606 p (dgV B a (min 7 (e + 1 - a)))) 603 p ((e + 1 : Nat) : Int), e + 1, rfl, rfl, la, ls c, (hf.tr (dRf.sI (by unfold tkF; omega))).tr (dRf.sI (by unfold tkF; omega)), gI_s, by rw [gI_f (by decide), gI_f (by decide)]; exact g5, by rw [gI_f (by decide), gI_s], gd', by rw [hs, sk_y c l]⟩, fun k => ?_⟩
        show f_X6_readDigits_5 N G _ p mem = _
        unfold f_X6_readDigits_5 f_X6_readDigits_69
        rw [g3, hx'.1, if_pos (by omega), rd, kb2_p z_isDigit6, b01_ite, if_pos l, g3, g5, ckI_p ⟨by omega, by omega⟩, if_pos s, g6, ckI_p ⟨by omega, by omega⟩, rd, ckI_p ⟨by omega, by omega⟩, ckI_p ⟨by omega, by omega⟩, kp_p, gI_f (by decide), g3, ckI_p ⟨by omega, by omega⟩, kp_p, ← v1, cast1]
      · have m7 : min 7 (e + 1 - a) = min 7 (e - a) := by omega
        have g6' : gI (sI mem 603 p ((e + 1 : Nat) : Int)) 606 p = dgV B a (min 7 (e + 1 - a)) := by rw [gI_f (by decide), m7]; exact g6
        refine Or.inr ⟨n - (e + 1), _, lt c, ⟨sI mem 603 p ((e + 1 : Nat) : Int), e + 1, rfl, rfl, la, ls c, hf.tr (dRf.sI (by unfold tkF; omega)), gI_s, by rw [gI_f (by decide)]; exact g5, g6', gd', by rw [hs, sk_y c l]⟩, fun k => ?_⟩
        show f_X6_readDigits_5 N G _ p mem = _
        unfold f_X6_readDigits_5 f_X6_readDigits_69
        rw [g3, hx'.1, if_pos (by omega), rd, kb2_p z_isDigit6, b01_ite, if_pos l, g3, g5, ckI_p ⟨by omega, by omega⟩, if_neg s, ckI_p ⟨by omega, by omega⟩, kp_p, cast1]
    · obtain ⟨r, r1, r2⟩ := fin (sk_n (fun y => l y.2))
      refine Or.inl ⟨r, r1, fun k => ?_⟩
      show f_X6_readDigits_5 N G _ p mem = _
      unfold f_X6_readDigits_5
      rw [g3, hx'.1, if_pos (by omega), rd, kb2_p z_isDigit6, b01_ite, if_neg l, r2]
  · obtain ⟨r, r1, r2⟩ := fin (sk_n (fun y => c y.1))
    refine Or.inl ⟨r, r1, fun k => ?_⟩
    show f_X6_readDigits_5 N G _ p mem = _
    unfold f_X6_readDigits_5
    rw [g3, hx'.1, if_neg (by omega), r2]
theorem z_readToken6 (hx : cTx G p μ n B) (h3 : gI μ 603 p = (q : Int)) (hq : q ≤ n) (hN : 1000 < N) :
    ∃ ν, f_X6_readToken N G p μ = some ν ∧ dRf G p tkF noA μ ν ∧ cTk p ν n B q := by
  have h500 := hx.2.1
  unfold f_X6_readToken f_X6_readToken_L0
  refine qLoop_dn
    (fun d st => ∃ mem e, st = (p, mem) ∧ d = n - e ∧ q ≤ e ∧ e ≤ n ∧ dRf G p tkF noA μ mem ∧ gI mem 603 p = (e : Int) ∧ tkA n B q = sk n B chS e)
    (fun r => ∃ ν, r = some ν ∧ dRf G p tkF noA μ ν ∧ cTk p ν n B q) ?_ (n - q) N _ (by omega) ⟨μ, q, rfl, rfl, Nat.le_refl _, hq, dRf.rf, h3, rfl⟩
  rintro d st ⟨mem, e, rfl, hd, h1, h2, hf, g3, hs⟩
  have hx' := hx.fr hf (by unfold tkF; omega) (fun f q => q.elim)
  -- the token itself
  have tok : sk n B chS e = e → ∃ r, (∃ ν, r = some ν ∧ dRf G p tkF noA μ ν ∧ cTk p ν n B q) ∧ f_X6_readToken_52 N G p mem = r := by
    intro he
    have eA : tkA n B q = e := hs.trans he
    have hf1 : dRf G p tkF noA μ (sI mem 605 p (e : Int)) := hf.tr (dRf.sI (by unfold tkF; omega))
    have hx1 := hx.fr hf1 (by unfold tkF; omega) (fun f q => q.elim)
    have k3 : gI (sI mem 605 p (e : Int)) 603 p = (e : Int) := by rw [gI_f (by decide)]; exact g3
    unfold f_X6_readToken_52
    rw [g3, kp_p, k3, hx1.1]
    by_cases c : e < n
    · have rd : ∀ {α : Type} (k : Int → Option α), rdA (sI mem 605 p (e : Int)) (gR G 600 p) (e : Int) 500 k = k (B e) := fun k => by rw [rdA_p ⟨by omega, by omega⟩, Int.toNat_natCast, hx1.2.2 e c]
      rw [if_pos (by omega), rd, kb2_p z_isLetter6, b01_ite]
      by_cases l : chL (B e) = true
      · have eE : tkE n B q = sk n B chL e := by unfold tkE; rw [eA, if_pos c, if_pos l]
        have eK : tkK n B q = 1 := by unfold tkK; rw [eA, if_pos c, if_pos l]
        obtain ⟨ν, a1, a2, a3, a4, a5⟩ := z_readWord6 (N := N) hx1 k3 h2 hN
        rw [if_pos l, kb_p a1]
        exact ⟨_, ⟨ν, rfl, hf1.tr a2, by rw [a3, gI_s, eA], by rw [a4, eE], by rw [a5, eK], fun y => by rw [eK] at y; exact absurd y (by decide)⟩, rfl⟩
      · rw [if_neg l, k3, rd, kb2_p z_isDigit6, b01_ite]
        by_cases dg : chD (B e) = true
        · have eE : tkE n B q = sk n B chD e := by unfold tkE; rw [eA, if_pos c, if_neg l, if_pos dg]
          have eK : tkK n B q = if 7 < (sk n B chD e : Int) - (e : Int) then 4 else 2 := by unfold tkK; rw [eA, if_pos c, if_neg l, if_pos dg, eE]
          obtain ⟨ν, a1, a2, a3, a4, a5, a6⟩ := z_readDigits6 (N := N) hx1 k3 gI_s h2 hN
          rw [if_pos dg, kb_p a1]
          exact ⟨_, ⟨ν, rfl, hf1.tr a2, by rw [a3, eA], by rw [a4, eE], by rw [a5, eK], fun _ => by rw [a6]; unfold tkV; rw [eA, eE]⟩, rfl⟩
        · have eE : tkE n B q = e + 1 := by unfold tkE; rw [eA, if_pos c, if_neg l, if_neg dg]
          have eK : tkK n B q = if B e = 59 then 3 else 4 := by unfold tkK; rw [eA, if_pos c, if_neg l, if_neg dg]
          have one : ∀ z : Int, (z = 3 ∨ z = 4) → tkK n B q = z → ∃ r, (∃ ν, r = some ν ∧ dRf G p tkF noA μ ν ∧ cTk p ν n B q) ∧ f_X6_readToken_143 N G p p z (sI mem 605 p (e : Int)) = r := by
            intro z hz hk
            unfold f_X6_readToken_143
            rw [kp_p, gI_f (by decide), k3, ckI_p ⟨by omega, by omega⟩, kp_p]
            refine ⟨_, ⟨_, rfl, (hf1.tr (dRf.sI (by unfold tkF; omega))).tr (dRf.sI (by unfold tkF; omega)), by rw [gI_f (by decide), gI_f (by decide), gI_s, eA], by rw [gI_s, eE]; omega, by rw [gI_f (by decide), gI_s, hk], fun y => by omega⟩, rfl⟩
          rw [if_neg dg, k3, rd]
          by_cases s : B e = 59
          · rw [if_pos s] at eK ⊢
            exact one 3 (Or.inl rfl) eK
          · rw [if_neg s] at eK ⊢
            exact one 4 (Or.inr rfl) eK
    · have eE : tkE n B q = e := by unfold tkE; rw [eA, if_neg c]
      have eK : tkK n B q = 0 := by unfold tkK; rw [eA, if_neg c]
      rw [if_neg (by omega), kp_p]
      exact ⟨_, ⟨_, rfl, hf1.tr (dRf.sI (by unfold tkF; omega)), by rw [gI_f (by decide), gI_s, eA], by rw [gI_f (by decide), k3, eE], by rw [gI_s, eK], fun y => by rw [eK] at y; exact absurd y (by decide)⟩, rfl⟩
  by_cases c : e < n
  · have rd : ∀ {α : Type} (k : Int → Option α), rdA mem (gR G 600 p) (e : Int) 500 k = k (B e) := fun k => by rw [rdA_p ⟨by omega, by omega⟩, Int.toNat_natCast, hx'.2.2 e c]
    by_cases s : chS (B e) = true
    · have sb : B e = 32 ∨ B e = 10 := of_decide_eq_true s
      refine Or.inr ⟨n - (e + 1), _, by omega, ⟨sI mem 603 p ((e + 1 : Nat) : Int), e + 1, rfl, rfl, by omega, by omega, hf.tr (dRf.sI (by unfold tkF; omega)), gI_s, by rw [hs, sk_y c s]⟩, fun k => ?_⟩
      show f_X6_readToken_0 N G _ p mem = _
      unfold f_X6_readToken_0 f_X6_readToken_39
      rw [g3, hx'.1, if_pos (by omega), rd]
      by_cases s1 : B e = 32
      · rw [if_pos s1, ckI_p ⟨by omega, by omega⟩, kp_p, cast1]
      · rw [if_neg s1, rd, if_pos (sb.resolve_left s1), ckI_p ⟨by omega, by omega⟩, kp_p, cast1]
    · have sb : ¬ (B e = 32 ∨ B e = 10) := fun y => s (decide_eq_true y)
      obtain ⟨r, r1, r2⟩ := tok (sk_n (fun y => s y.2))
      refine Or.inl ⟨r, r1, fun k => ?_⟩
      show f_X6_readToken_0 N G _ p mem = _
      unfold f_X6_readToken_0
      rw [g3, hx'.1, if_pos (by omega), rd, if_neg (by omega), rd, if_neg (by omega), r2]
  · obtain ⟨r, r1, r2⟩ := tok (sk_n (fun y => c y.1))
    refine Or.inl ⟨r, r1, fun k => ?_⟩
    show f_X6_readToken_0 N G _ p mem = _
    unfold f_X6_readToken_0
    rw [g3, hx'.1, if_neg (by omega), r2]
end TOK6
