/-! PURE: a trade of the class: it is kept, and entered for who rested -/
def s5 (μ : qM) (a : Nat) (e : Nat → Int) : qM := sA (sA (sA (sA (sA μ a 0 (e 0)) a 1 (e 1)) a 2 (e 2)) a 3 (e 3)) a 4 (e 4)
theorem s5_I {μ : qM} {a : Nat} {e : Nat → Int} {g b : Nat} : gI (s5 μ a e) g b = gI μ g b := rfl
theorem s5_Q {μ : qM} {a : Nat} {e : Nat → Int} {b i : Nat} : gQ (s5 μ a e) b i = gQ μ b i := rfl
theorem s5_n {μ : qM} {a : Nat} {e : Nat → Int} {b i : Nat} (h : b ≠ a) : gA (s5 μ a e) b i = gA μ b i := by
  unfold s5
  rw [gA_a h, gA_a h, gA_a h, gA_a h, gA_a h]
theorem s5_s {μ : qM} {a : Nat} {e : Nat → Int} {w : Nat} (h : w < 5) : gA (s5 μ a e) a w = e w := by
  unfold s5
  have h5 : w = 0 ∨ w = 1 ∨ w = 2 ∨ w = 3 ∨ w = 4 := by omega
  rcases h5 with rfl | rfl | rfl | rfl | rfl <;> simp [gA_sA]
/-- the labels that a trade changes -/
def pTr (f : Nat) (q : Nat × Nat) : Prop := q.1 = f ∧ (q.2 = 201 ∨ q.2 = 12 ∨ q.2 = 13 ∨ q.2 = 305 ∨ q.2 = 306 ∨ q.2 = 1000 ∨ 2000 ≤ q.2)
theorem pTr_1 {f : Nat} : ∀ q, pTr f q → q.1 = f := fun _ h => h.1
theorem pTr_not {f k : Nat} (h : ¬ (k = 201 ∨ k = 12 ∨ k = 13 ∨ k = 305 ∨ k = 306 ∨ k = 1000 ∨ 2000 ≤ k)) : ¬ pTr f (f, k) := fun q => h q.2
section TR7
variable {N : Nat} {G : qG} {ρ : Nat → Nat × Nat} {f : Nat} {A V : Nat → Nat} {nx : Nat} {μ ν : qM} {l : List (Nat → Int)} {T D : Nat → Int} {tr : Nat → Nat → Int}
theorem z_keep3 (hy : cLay G ρ f) (h : cFlx G ρ f A V nx μ l T D tr) (h10 : 0 ≤ T 10 ∧ T 10 ≤ 60) (hl : l.length ≤ 60) (e : Nat → Int) :
    ∃ ν nx', f_X3_keep N G (gR G 201 f) (e 0) (e 1) (e 2) (e 3) (e 4) μ = some ν ∧ dP ρ (pTr f) μ ν ∧ cFlx G ρ f A V nx' ν l (upd1 (upd1 T 10 (min (T 10 + 1) 60)) 3 (e 2)) D (aRec tr e) := by
  obtain ⟨h1, h2, h3, h4, ⟨i3, i10, i11, inx, hnx⟩, h6, h7, h8⟩ := h
  have r201 : ρ (gR G 201 f) = (f, 201) := hy 201 (by decide)
  have r2 : ρ (gR G 2 (gR G 200 f)) = (f, 12) := hy 12 (by decide)
  have r3 : ρ (gR G 3 (gR G 200 f)) = (f, 13) := hy 13 (by decide)
  have r305 : ρ (gR G 305 (gR G 201 f)) = (f, 305) := hy 305 (by decide)
  have r306 : ρ (gR G 306 (gR G 201 f)) = (f, 306) := hy 306 (by decide)
  have hV := h7 nx hnx
  have nV : ∀ a k, ρ a = (f, k) → k < 2000 → a ≠ V nx := fun a k ha hk => role_ne ha hV.2.2 (fun q => by have := congrArg Prod.snd q; simp at this; omega)
  unfold f_X3_keep
  rw [inx, rdQ_p (o := V nx) ⟨by omega, by omega⟩ (by rw [Int.toNat_natCast]; exact hV.1) hV.2.1, kp_p, kp_p, kp_p, kp_p, kp_p]
  show ∃ ν nx', (ckI (gI (s5 μ (V nx) e) 302 (gR G 201 f) + 1) fun v7 => ckD 60 <| ckI (v7 - v7.tdiv 60 * 60) fun v8 => kp (sI (s5 μ (V nx) e) 302 (gR G 201 f) v8) fun m9 => ckI (gI m9 301 (gR G 201 f) + 1) fun v10 => kp (min v10 60) fun v11 => kp (sI m9 301 (gR G 201 f) v11) fun m12 => kp (sI m12 303 (gR G 201 f) (e 2)) fun m13 => some m13) = some ν ∧ _
  have e1 : ((nx : Int) + 1) - ((nx : Int) + 1).tdiv 60 * 60 = (((nx + 1) % 60 : Nat) : Int) := by
    rw [Int.tdiv_eq_ediv_of_nonneg (by omega)]
    omega
  rw [s5_I, inx, ckI_p ⟨by omega, by omega⟩, ckD_p (by decide), e1, ckI_p ⟨by omega, by omega⟩, kp_p, gI_f (by decide), s5_I, i10, ckI_p ⟨by omega, by omega⟩, kp_p, kp_p, kp_p]
  refine ⟨_, (nx + 1) % 60, rfl, ?_, ⟨?_, ?_, ?_, ?_⟩, h2, ?_, ?_, ?_, ?_, ?_, ?_⟩
  · have p : pTr f (ρ (gR G 201 f)) := by rw [r201]; exact ⟨rfl, Or.inl rfl⟩
    have pV : pTr f (ρ (V nx)) := by rw [hV.2.2]; exact ⟨rfl, by simp⟩
    exact (((((((dP.sA pV).tr (dP.sA pV)).tr (dP.sA pV)).tr (dP.sA pV)).tr (dP.sA pV)).tr (dP.sI p)).tr (dP.sI p)).tr (dP.sI p)
  · rw [gI_f (by decide), gI_f (by decide), gI_f (by decide), s5_I]; exact h1.1
  · exact h1.2.1
  · exact h1.2.2.1
  · intro i k hi hk
    rw [gI_f (by omega), gI_f (by omega), gI_f (by omega), s5_I]
    exact h1.2.2.2 i k hi hk
  · intro s hs
    show gA (s5 μ (V nx) e) (gR G 2 (gR G 200 f)) s = _ ∧ gA (s5 μ (V nx) e) (gR G 3 (gR G 200 f)) s = _
    rw [s5_n (nV _ 12 r2 (by decide)), s5_n (nV _ 13 r3 (by decide)), upd1_n (by omega), upd1_n (by omega), upd1_n (by omega), upd1_n (by omega)]
    exact h3 s hs
  · have q : ∀ g a, g ≠ 301 → g ≠ 302 → g ≠ 303 → gI (sI (sI (sI (s5 μ (V nx) e) 302 (gR G 201 f) ((nx + 1) % 60 : Nat)) 301 (gR G 201 f) (min (T 10 + 1) 60)) 303 (gR G 201 f) (e 2)) g a = gI μ g a := fun g a q1 q2 q3 => by rw [gI_f q3, gI_f q1, gI_f q2, s5_I]
    rw [q _ _ (by decide) (by decide) (by decide), q _ _ (by decide) (by decide) (by decide), q _ _ (by decide) (by decide) (by decide), q _ _ (by decide) (by decide) (by decide), q _ _ (by decide) (by decide) (by decide), q _ _ (by decide) (by decide) (by decide)]
    exact h4
  · refine ⟨by rw [gI_s, upd1_s], by rw [gI_f (by decide), gI_s, upd1_n (by decide), upd1_s], by rw [gI_f (by decide), gI_f (by decide), gI_f (by decide), s5_I, upd1_n (by decide), upd1_n (by decide)]; exact i11, by rw [gI_f (by decide), gI_f (by decide), gI_s], Nat.mod_lt _ (by decide)⟩
  · intro t ht
    show gA (s5 μ (V nx) e) (gR G 305 (gR G 201 f)) t = _ ∧ gA (s5 μ (V nx) e) (gR G 306 (gR G 201 f)) t = _
    rw [s5_n (nV _ 305 r305 (by decide)), s5_n (nV _ 306 r306 (by decide)), upd1_n (by omega), upd1_n (by omega)]
    exact h6 t ht
  · exact h7
  · intro i w hi hi60 hw
    rw [upd1_n (by decide), upd1_s] at hi
    show gA (s5 μ (V nx) e) (V (((nx + 1) % 60 + 59 - i) % 60)) w = aRec tr e i w
    unfold aRec
    by_cases c : i = 0
    · subst c
      have : ((nx + 1) % 60 + 59 - 0) % 60 = nx := by omega
      rw [this, s5_s hw, if_pos rfl]
    · have e2 : ((nx + 1) % 60 + 59 - i) % 60 = (nx + 59 - (i - 1)) % 60 := by omega
      have hne : V ((nx + 59 - (i - 1)) % 60) ≠ V nx := role_ne (h7 _ (Nat.mod_lt _ (by decide))).2.2 hV.2.2 (fun q => by have := congrArg Prod.snd q; simp at this; omega)
      rw [e2, s5_n hne, if_neg c]
      exact h8 (i - 1) w (by omega) (by omega) hw
theorem sg_in {p lots side : Int} (hp : 0 ≤ p ∧ p ≤ 9999999) (hlo : 0 ≤ lots ∧ lots ≤ 1000000) : -1000000 ≤ sg side lots ∧ sg side lots ≤ 1000000 ∧ -9999999000000 ≤ p * sg side lots ∧ p * sg side lots ≤ 9999999000000 := by
  have h := mul_bd2 hp hlo
  unfold sg
  split
  · refine ⟨by omega, by omega, by omega, by omega⟩
  · rw [Int.mul_neg]; refine ⟨by omega, by omega, by omega, by omega⟩
theorem z_enter3 (hy : cLay G ρ f) (h : cFlx G ρ f A V nx μ l T D tr) {t : Nat} (ht : t < 10) {x1 side p lots : Int} (hx : x1 = (t : Int)) (hp : 0 ≤ p ∧ p ≤ 9999999) (hlo : 0 ≤ lots ∧ lots ≤ 1000000) :
    ∃ ν, f_X3_enter N G (gR G 201 f) x1 side p lots μ = some ν ∧ dP ρ (pTr f) μ ν ∧ cFlx G ρ f A V nx ν l (upd1 T (14 + t) (w32 (T (14 + t) + sg side lots))) (upd1 D t (w64 (D t - p * sg side lots))) tr := by
  subst hx
  obtain ⟨h1, h2, h3, h4, h5, h6, h7, h8⟩ := h
  have b := sg_in (side := side) hp hlo
  have r2 : ρ (gR G 2 (gR G 200 f)) = (f, 12) := hy 12 (by decide)
  have r3 : ρ (gR G 3 (gR G 200 f)) = (f, 13) := hy 13 (by decide)
  have r305 : ρ (gR G 305 (gR G 201 f)) = (f, 305) := hy 305 (by decide)
  have r306 : ρ (gR G 306 (gR G 201 f)) = (f, 306) := hy 306 (by decide)
  have n56 : gR G 305 (gR G 201 f) ≠ gR G 306 (gR G 201 f) := hy.ne (j := 305) (k := 306) (by decide) (by decide) (by decide)
  have key : ∀ z, z = sg side lots → f_X3_enter_12 N G (gR G 201 f) (t : Int) p z μ = some (sA (sA μ (gR G 305 (gR G 201 f)) t (w32 (T (14 + t) + sg side lots))) (gR G 306 (gR G 201 f)) t (w64 (D t - p * sg side lots))) := by
    intro z hz
    subst hz
    unfold f_X3_enter_12
    rw [rdA_p ⟨by omega, by omega⟩, Int.toNat_natCast, (h6 t ht).1, kp_p, wrA_p ⟨by omega, by omega⟩, rdA_p ⟨by omega, by omega⟩, Int.toNat_natCast, gA_a (Ne.symm n56), (h6 t ht).2, ckJ_p ⟨by omega, by omega⟩, kp_p, wrA_p ⟨by omega, by omega⟩, Int.toNat_natCast]
  have e : f_X3_enter N G (gR G 201 f) (t : Int) side p lots μ = some (sA (sA μ (gR G 305 (gR G 201 f)) t (w32 (T (14 + t) + sg side lots))) (gR G 306 (gR G 201 f)) t (w64 (D t - p * sg side lots))) := by
    unfold f_X3_enter
    by_cases c : side = 0
    · rw [if_pos c]; exact key _ (by unfold sg; rw [if_pos c])
    · rw [if_neg c, ckI_p ⟨by omega, by omega⟩]; exact key _ (by unfold sg; rw [if_neg c])
  have nA : ∀ a k, ρ a = (f, k) → k ≠ 305 → k ≠ 306 → ∀ i, gA (sA (sA μ (gR G 305 (gR G 201 f)) t (w32 (T (14 + t) + sg side lots))) (gR G 306 (gR G 201 f)) t (w64 (D t - p * sg side lots))) a i = gA μ a i := fun a k ha q1 q2 i => by
    rw [gA_a (role_ne ha r306 (fun q => q2 (congrArg Prod.snd q))), gA_a (role_ne ha r305 (fun q => q1 (congrArg Prod.snd q)))]
  refine ⟨_, e, ?_, h1, h2, fun s hs => ?_, ?_, ?_, fun u hu => ?_, h7, fun i w hi hi60 hw => ?_⟩
  · exact (dP.sA (by rw [r305]; exact ⟨rfl, by simp⟩)).tr (dP.sA (by rw [r306]; exact ⟨rfl, by simp⟩))
  · rw [nA _ 12 r2 (by decide) (by decide), nA _ 13 r3 (by decide) (by decide), upd1_n (by omega), upd1_n (by omega)]
    exact h3 s hs
  · rw [upd1_n (by omega), upd1_n (by omega), upd1_n (by omega), upd1_n (by omega), upd1_n (by omega), upd1_n (by omega)]; exact h4
  · rw [upd1_n (by omega), upd1_n (by omega), upd1_n (by omega)]; exact h5
  · by_cases c : u = t
    · subst c
      rw [gA_a n56, gA_s, gA_s, upd1_s, upd1_s]; exact ⟨rfl, rfl⟩
    · rw [gA_i c, gA_i c, gA_i c, gA_i c, upd1_n (by omega), upd1_n c]; exact h6 u hu
  · rw [upd1_n (by omega)] at hi
    rw [nA _ _ (h7 _ (Nat.mod_lt _ (by decide))).2.2 (by omega) (by omega)]
    exact h8 i w hi hi60 hw
/-- after a change of the tops alone -/
theorem cFlx.tops (hy : cLay G ρ f) (h : cFlx G ρ f A V nx μ l T D tr) {U : Nat → Int} (hd : dT G (gR G 200 f) μ ν) (ht : cTp G (gR G 200 f) ν U) (hT : ∀ j, j ≠ 6 → j ≠ 7 → j ≠ 8 → j ≠ 9 → U j = T j) : cFlx G ρ f A V nx ν l U D tr :=
  h.book hy hd.B ⟨by rw [hd.1]; exact h.1.1, fun i hi => by rw [hd.2.2]; exact h.1.2.1 i hi, h.1.2.2.1, fun i k hi hk => by rw [hd.1]; exact h.1.2.2.2 i k hi hk⟩ (fun i hi => ⟨i, hi, rfl⟩) ht hT
theorem dT.P (hy : cLay G ρ f) (h : dT G (gR G 200 f) μ ν) : dP ρ (pTr f) μ ν := by
  have r2 : ρ (gR G 2 (gR G 200 f)) = (f, 12) := hy 12 (by decide)
  have r3 : ρ (gR G 3 (gR G 200 f)) = (f, 13) := hy 13 (by decide)
  exact ⟨fun g a _ => h.1 g a, fun a i x => h.2.1 a i (fun q => x (by rw [q, r2]; exact ⟨rfl, by simp⟩)) (fun q => x (by rw [q, r3]; exact ⟨rfl, by simp⟩)), fun a i _ => h.2.2 a i⟩
end TR7
/-! what a row of trades makes: J the places of the orders in l, v the lots of each -/
def tRow (o : Nat → Int) (came p v kind : Int) (w : Nat) : Int := if w = 0 then o 0 else if w = 1 then came else if w = 2 then p else if w = 3 then v else if w = 4 then kind else if w = 5 then o 1 else o 2
def gE (l : List (Nat → Int)) (J : List Nat) (came p : Int) (v : Nat → Int) (kind : Int) (E : List (Nat → Int)) : Nat → List (Nat → Int)
  | 0 => E
  | k + 1 => if 0 < v k then tRow (lG l (jG J k)) came p (v k) kind :: gE l J came p v kind E k else gE l J came p v kind E k
def gP (p : Int) (v : Nat → Int) (p0 : Int) : Nat → Int
  | 0 => p0
  | k + 1 => if 0 < v k then p else gP p v p0 k
def fD (J : List Nat) (v : Nat → Int) (f0 : Nat → Int) : Nat → Nat → Int
  | 0 => f0
  | k + 1 => fun i => if i = jG J k then fD J v f0 k i - v k else fD J v f0 k i
def uG (U : Nat → Int) (s : Nat) (g : Int) : Nat → Int := if U (8 + s) - g = 0 then aLap U s else upd1 U (8 + s) (U (8 + s) - g)
theorem uG_0 {U : Nat → Int} {s : Nat} (h : U (8 + s) ≠ 0) : uG U s 0 = U := by
  unfold uG
  rw [if_neg (by omega), Int.sub_zero, upd1_id]
theorem fD_o {J : List Nat} {v f0 : Nat → Int} {i : Nat} : ∀ k, (∀ j, j < k → jG J j ≠ i) → fD J v f0 k i = f0 i := by
  intro k
  induction k with
  | zero => intro _; rfl
  | succ k ih =>
    intro h
    show (if i = jG J k then _ else fD J v f0 k i) = f0 i
    rw [if_neg (fun e => h k (by omega) e.symm)]
    exact ih (fun j hj => h j (by omega))
theorem fD_at {J : List Nat} {v f0 : Nat → Int} {c r : Nat} (hr : r < c) (hinj : ∀ j k, j < c → k < c → jG J j = jG J k → j = k) : ∀ k, k ≤ c → fD J v f0 k (jG J r) = if r < k then f0 (jG J r) - v r else f0 (jG J r) := by
  intro k
  induction k with
  | zero => intro _; rw [if_neg (by omega)]; rfl
  | succ k ih =>
    intro hk
    show (if jG J r = jG J k then fD J v f0 k (jG J r) - v k else fD J v f0 k (jG J r)) = _
    rw [ih (by omega)]
    by_cases c1 : r = k
    · subst c1
      rw [if_pos rfl, if_neg (by omega), if_pos (by omega)]
    · rw [if_neg (fun e => c1 (hinj r k hr (by omega) e))]
      by_cases c2 : r < k
      · rw [if_pos c2, if_pos (by omega)]
      · rw [if_neg c2, if_neg (by omega)]
