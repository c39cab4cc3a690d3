/-! PURE: the class's book: tops, and the sweep -/
/-- where a floor's parts lie, by label -/
def cAd (G : qG) (f : Nat) : Nat → Nat
  | 1 => f
  | 200 => gR G 200 f
  | 201 => gR G 201 f
  | 202 => gR G 202 f
  | 203 => gR G 203 f
  | 204 => gR G 204 f
  | 10 => gR G 0 (gR G 200 f)
  | 12 => gR G 2 (gR G 200 f)
  | 13 => gR G 3 (gR G 200 f)
  | 300 => gR G 300 (gR G 201 f)
  | 305 => gR G 305 (gR G 201 f)
  | 306 => gR G 306 (gR G 201 f)
  | 500 => gR G 500 (gR G 202 f)
  | 501 => gR G 501 (gR G 202 f)
  | 502 => gR G 502 (gR G 202 f)
  | 503 => gR G 503 (gR G 202 f)
  | 504 => gR G 504 (gR G 202 f)
  | _ => gR G 505 (gR G 202 f)
def cLab : List Nat := [1, 200, 201, 202, 203, 204, 10, 12, 13, 300, 305, 306, 500, 501, 502, 503, 504, 505]
/-- every part has a role of its own: the floor, and its label -/
def cLay (G : qG) (ρ : Nat → Nat × Nat) (f : Nat) : Prop := ∀ k ∈ cLab, ρ (cAd G f k) = (f, k)
theorem cLay.ne {G : qG} {ρ : Nat → Nat × Nat} {f j k : Nat} (h : cLay G ρ f) (hj : j ∈ cLab) (hk : k ∈ cLab) (hn : j ≠ k) : cAd G f j ≠ cAd G f k := by
  intro e
  have h1 := h j hj
  rw [e, h k hk] at h1
  exact hn (congrArg Prod.snd h1).symm
theorem role_ne {ρ : Nat → Nat × Nat} {a b : Nat} {p q : Nat × Nat} (ha : ρ a = p) (hb : ρ b = q) (h : p ≠ q) : a ≠ b := fun e => h (by rw [← ha, ← hb, e])
def nz (t : Int) : Int := if t = -1 then 0 else t
/-- the tops as the class has them -/
def cTp (G : qG) (b : Nat) (μ : qM) (T : Nat → Int) : Prop := ∀ s, s < 2 → gA μ (gR G 2 b) s = nz (T (6 + s)) ∧ gA μ (gR G 3 b) s = T (8 + s)
/-- only the book's length, its tops and its rows differ -/
def dB (G : qG) (b : Nat) (μ ν : qM) : Prop := (∀ g a, ¬ (g = 1 ∧ a = b) → gI ν g a = gI μ g a) ∧ (∀ a i, a ≠ gR G 2 b → a ≠ gR G 3 b → gA ν a i = gA μ a i) ∧ ∀ a i, a ≠ gR G 0 b → gQ ν a i = gQ μ a i
theorem dB.rf {G : qG} {b : Nat} {μ : qM} : dB G b μ μ := ⟨fun _ _ _ => rfl, fun _ _ _ _ => rfl, fun _ _ _ => rfl⟩
theorem dB.tr {G : qG} {b : Nat} {μ ν ξ : qM} (h1 : dB G b μ ν) (h2 : dB G b ν ξ) : dB G b μ ξ := ⟨fun g a h => (h2.1 g a h).trans (h1.1 g a h), fun a i h h' => (h2.2.1 a i h h').trans (h1.2.1 a i h h'), fun a i h => (h2.2.2 a i h).trans (h1.2.2 a i h)⟩
theorem dB.s2 {G : qG} {b i : Nat} {μ : qM} {v : Int} : dB G b μ (sA μ (gR G 2 b) i v) := ⟨fun _ _ _ => rfl, fun _ _ h _ => gA_a h, fun _ _ _ => rfl⟩
theorem dB.s3 {G : qG} {b i : Nat} {μ : qM} {v : Int} : dB G b μ (sA μ (gR G 3 b) i v) := ⟨fun _ _ _ => rfl, fun _ _ _ h => gA_a h, fun _ _ _ => rfl⟩
theorem dB.s0 {G : qG} {b i : Nat} {μ : qM} {v : Option Nat} : dB G b μ (sQ μ (gR G 0 b) i v) := ⟨fun _ _ _ => rfl, fun _ _ _ _ => rfl, fun _ _ h => gQ_a h⟩
theorem dB.s1 {G : qG} {b : Nat} {μ : qM} {v : Int} : dB G b μ (sI μ 1 b v) := ⟨fun g a h => by rw [gI_sI, if_neg h], fun _ _ _ _ => rfl, fun _ _ _ => rfl⟩
/-- only the tops differ -/
def dT (G : qG) (b : Nat) (μ ν : qM) : Prop := (∀ g a, gI ν g a = gI μ g a) ∧ (∀ a i, a ≠ gR G 2 b → a ≠ gR G 3 b → gA ν a i = gA μ a i) ∧ ∀ a i, gQ ν a i = gQ μ a i
theorem dT.B {G : qG} {b : Nat} {μ ν : qM} (h : dT G b μ ν) : dB G b μ ν := ⟨fun g a _ => h.1 g a, h.2.1, fun a i _ => h.2.2 a i⟩
theorem dT.s2 {G : qG} {b i : Nat} {μ : qM} {v : Int} : dT G b μ (sA μ (gR G 2 b) i v) := ⟨fun _ _ => rfl, fun _ _ h _ => gA_a h, fun _ _ => rfl⟩
theorem dT.s3 {G : qG} {b i : Nat} {μ : qM} {v : Int} : dT G b μ (sA μ (gR G 3 b) i v) := ⟨fun _ _ => rfl, fun _ _ _ h => gA_a h, fun _ _ => rfl⟩
theorem dT.rf {G : qG} {b : Nat} {μ : qM} : dT G b μ μ := ⟨fun _ _ => rfl, fun _ _ _ _ => rfl, fun _ _ => rfl⟩
theorem dT.tr {G : qG} {b : Nat} {μ ν ξ : qM} (h1 : dT G b μ ν) (h2 : dT G b ν ξ) : dT G b μ ξ := ⟨fun g a => (h2.1 g a).trans (h1.1 g a), fun a i h h' => (h2.2.1 a i h h').trans (h1.2.1 a i h h'), fun a i => (h2.2.2 a i).trans (h1.2.2 a i)⟩
/-- both tops of a side are set -/
theorem cTp.set {G : qG} {b : Nat} {μ : qM} {T : Nat → Int} (hn : gR G 2 b ≠ gR G 3 b) (h : cTp G b μ T) {s : Nat} (hs : s < 2) {v w : Int} : cTp G b (sA (sA μ (gR G 2 b) s (nz v)) (gR G 3 b) s w) (upd1 (upd1 T (6 + s) v) (8 + s) w) := by
  intro q hq
  rw [gA_a hn]
  by_cases c : q = s
  · subst c
    rw [gA_s, gA_s, upd1_n (by omega), upd1_s, upd1_s]
    exact ⟨rfl, rfl⟩
  · rw [gA_i c, gA_i c, gA_a (Ne.symm hn), upd1_n (by omega), upd1_n (by omega), upd1_n (by omega), upd1_n (by omega)]
    exact h q hq
theorem nz_m1 : nz (-1) = 0 := by decide
theorem z_lapse0 {N : Nat} {G : qG} {b o : Nat} {μ : qM} {T : Nat → Int} {w : Nat → Int} (hn : gR G 2 b ≠ gR G 3 b) (h : cTp G b μ T) (h0 : gI μ 400 o = w 0) (h2 : gI μ 402 o = w 2) (hs : w 2 = 0 ∨ w 2 = 1) (hw : 1 ≤ w 0) : ∃ ν, f_X0_lapse N G b o μ = some ν ∧ dT G b μ ν ∧ cTp G b ν (aGo T w) := by
  unfold f_X0_lapse aGo
  have hq : (w 2).toNat < 2 := by omega
  have ht := (h (w 2).toNat hq).1
  rw [h2, h0, rdA_p ⟨by omega, by omega⟩, ht]
  by_cases c : T (6 + (w 2).toNat) = w 0
  · rw [if_pos (by unfold nz; rw [if_neg (by omega), c]), if_pos c, wrA_p ⟨by omega, by omega⟩, gI_sA, h2, wrA_p ⟨by omega, by omega⟩]
    have hh := cTp.set hn h hq (v := -1) (w := 0)
    rw [nz_m1] at hh
    exact ⟨_, rfl, dT.s2.tr dT.s3, hh⟩
  · rw [if_neg (by unfold nz; split <;> omega), if_neg c]
    exact ⟨_, rfl, dT.rf, h⟩
theorem z_lapseAll0 {N : Nat} {G : qG} {b : Nat} {μ : qM} {T : Nat → Int} (hn : gR G 2 b ≠ gR G 3 b) (h : cTp G b μ T) (hN : 100 < N) : ∃ ν, f_X0_lapseAll N G b μ = some ν ∧ dT G b μ ν ∧ cTp G b ν (aLap (aLap T 0) 1) := by
  unfold f_X0_lapseAll f_X0_lapseAll_L2
  have e : ∀ s : Nat, s < 2 → ∀ (μ' : qM) (kk : Nat × Int × qM → Option qM), f_X0_lapseAll_2 N G (fun x0 x1 m0 => kk (x0, x1, m0)) b (s : Int) μ' = kk (b, ((s + 1 : Nat) : Int), sA (sA μ' (gR G 2 b) s 0) (gR G 3 b) s 0) := by
    intro s hs μ' kk
    unfold f_X0_lapseAll_2
    rw [if_pos (by omega), wrA_p ⟨by omega, by omega⟩, wrA_p ⟨by omega, by omega⟩, ckI_p ⟨by omega, by omega⟩, cast1, Int.toNat_natCast]
  refine ⟨sA (sA (sA (sA μ (gR G 2 b) 0 0) (gR G 3 b) 0 0) (gR G 2 b) 1 0) (gR G 3 b) 1 0, ?_, ((dT.s2.tr dT.s3).tr dT.s2).tr dT.s3, ?_⟩
  · refine qLoop_end (fun j => (b, (j : Int), if j = 0 then μ else if j = 1 then sA (sA μ (gR G 2 b) 0 0) (gR G 3 b) 0 0 else sA (sA (sA (sA μ (gR G 2 b) 0 0) (gR G 3 b) 0 0) (gR G 2 b) 1 0) (gR G 3 b) 1 0)) 2 N (by omega) (fun j hj kk => ?_) (fun kk => ?_)
    · have hj2 : j = 0 ∨ j = 1 := by omega
      rcases hj2 with rfl | rfl
      · exact e 0 (by decide) μ kk
      · exact e 1 (by decide) _ kk
    · show f_X0_lapseAll_2 N G _ b ((2 : Nat) : Int) _ = _
      unfold f_X0_lapseAll_2
      rw [if_neg (by decide)]
      rfl
  · have hh := cTp.set hn (cTp.set hn h (s := 0) (by decide) (v := -1) (w := 0)) (s := 1) (by decide) (v := -1) (w := 0)
    rw [nz_m1] at hh
    exact hh
theorem z_grantOf0 {N : Nat} {G : qG} {b o : Nat} {μ : qM} {T : Nat → Int} {w : Nat → Int} (h : cTp G b μ T) (h0 : gI μ 400 o = w 0) (h2 : gI μ 402 o = w 2) (hs : w 2 = 0 ∨ w 2 = 1) (hw : 1 ≤ w 0) : f_X0_grantOf N G b o μ = some (if T (6 + (w 2).toNat) = w 0 then T (8 + (w 2).toNat) else 0, μ) := by
  unfold f_X0_grantOf
  have hq : (w 2).toNat < 2 := by omega
  rw [h2, h0, rdA_p ⟨by omega, by omega⟩, (h (w 2).toNat hq).1]
  by_cases c : T (6 + (w 2).toNat) = w 0
  · rw [if_pos (by unfold nz; rw [if_neg (by omega), c]), if_pos c, rdA_p ⟨by omega, by omega⟩, (h (w 2).toNat hq).2]
  · rw [if_neg (by unfold nz; split <;> omega), if_neg c]
theorem z_makeTop0 {N : Nat} {G : qG} {b o : Nat} {μ : qM} {T : Nat → Int} {w : Nat → Int} {g : Int} (hn : gR G 2 b ≠ gR G 3 b) (h : cTp G b μ T) (h0 : gI μ 400 o = w 0) (h2 : gI μ 402 o = w 2) (hs : w 2 = 0 ∨ w 2 = 1) (hw : 1 ≤ w 0) : ∃ ν, f_X0_makeTop N G b o g μ = some ν ∧ dT G b μ ν ∧ cTp G b ν (upd1 (upd1 T (6 + (w 2).toNat) (w 0)) (8 + (w 2).toNat) g) := by
  unfold f_X0_makeTop
  have hq : (w 2).toNat < 2 := by omega
  rw [h2, h0, wrA_p ⟨by omega, by omega⟩, gI_sA, h2, wrA_p ⟨by omega, by omega⟩]
  refine ⟨_, rfl, dT.s2.tr dT.s3, ?_⟩
  have e : w 0 = nz (w 0) := by unfold nz; rw [if_neg (by omega)]
  have := cTp.set hn h hq (v := w 0) (w := g)
  rwa [← e] at this
/-- with the grant used up the top lapses -/
theorem z_useGrant0 {N : Nat} {G : qG} {b o : Nat} {μ : qM} {T : Nat → Int} {w : Nat → Int} {g : Int} (hn : gR G 2 b ≠ gR G 3 b) (h : cTp G b μ T) (h0 : gI μ 400 o = w 0) (h2 : gI μ 402 o = w 2) (hs : w 2 = 0 ∨ w 2 = 1) (hg : 0 ≤ g ∧ g ≤ T (8 + (w 2).toNat) ∧ T (8 + (w 2).toNat) ≤ 1000) : ∃ ν, f_X0_useGrant N G b o g μ = some ν ∧ dT G b μ ν ∧ cTp G b ν (if T (8 + (w 2).toNat) - g = 0 then aLap T (w 2).toNat else upd1 T (8 + (w 2).toNat) (T (8 + (w 2).toNat) - g)) := by
  unfold f_X0_useGrant
  have hq : (w 2).toNat < 2 := by omega
  have ht := (h (w 2).toNat hq).2
  rw [h2, rdA_p ⟨by omega, by omega⟩, ht, ckI_p ⟨by omega, by omega⟩, wrA_p ⟨by omega, by omega⟩, gI_sA, h2, rdA_p ⟨by omega, by omega⟩, gA_s]
  have hb : cTp G b (sA μ (gR G 3 b) (w 2).toNat (T (8 + (w 2).toNat) - g)) (upd1 T (8 + (w 2).toNat) (T (8 + (w 2).toNat) - g)) := by
    intro q hq'
    rw [gA_a hn]
    by_cases c : q = (w 2).toNat
    · subst c
      rw [gA_s, upd1_s, upd1_n (by omega)]
      exact ⟨(h _ hq').1, rfl⟩
    · rw [gA_i c, upd1_n (by omega), upd1_n (by omega)]
      exact h q hq'
  by_cases c : T (8 + (w 2).toNat) - g = 0
  · rw [if_neg (by omega), if_pos c, wrA_p ⟨by omega, by omega⟩]
    refine ⟨_, rfl, dT.s3.tr dT.s2, ?_⟩
    intro q hq'
    rw [gA_a (Ne.symm hn)]
    unfold aLap
    by_cases d : q = (w 2).toNat
    · subst d
      rw [gA_s, gA_s, upd1_n (by omega), upd1_s, upd1_s]
      exact ⟨rfl, c⟩
    · rw [gA_i d, gA_a hn, gA_i d, upd1_n (by omega), upd1_n (by omega), upd1_n (by omega), upd1_n (by omega)]
      exact h q hq'
  · rw [if_pos (by omega), if_neg c]
    exact ⟨_, rfl, dT.s3, hb⟩
