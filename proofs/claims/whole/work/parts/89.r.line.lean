/-! PURE: a line of a message; the class reads it -/
abbrev LN : Type := Int × Int × Int × Int × Int × Int × Nat × Int
def lnBad (n : Nat) (B : Nat → Int) (q : Nat) (c : Int) : LN := (8 * (tkA n B q : Int) + c, 0, 0, 0, 0, 0, q, 0)
def lnEnd (n : Nat) (B : Nat → Int) (q : Nat) (v a0 a1 a2 md : Int) : LN :=
  if tkK n B q = 3 then (0, v, a0, a1, a2, md, tkE n B q, 1) else if tkK n B q = 0 then (0, v, a0, a1, a2, md, tkE n B q, 0) else lnBad n B q 1
def lnNum (n : Nat) (B : Nat → Int) (q : Nat) (lo hi : Int) (k : Int → Nat → LN) : LN :=
  if tkK n B q = 2 then (if lo ≤ tkV n B q ∧ tkV n B q ≤ hi then k (tkV n B q) (tkE n B q) else lnBad n B q 2) else lnBad n B q 1
def dearT (z : Int) : Int := if z < 1 then 9999999 else min 9999999 ((2147483647 : Int).tdiv z)
def lnMd (n : Nat) (B : Nat → Int) (q : Nat) (v a0 a1 a2 : Int) : LN :=
  if tkK n B q = 1 then (if mdH n B q = -1 then lnBad n B q 1 else lnEnd n B (tkE n B q) v a0 a1 a2 (mdH n B q)) else lnEnd n B q v a0 a1 a2 0
/-- the line that begins at q: fault, what, numbers, how, the next place, whether more comes -/
def lnOf (n : Nat) (B : Nat → Int) (q : Nat) : LN :=
  if kdH n B q = -1 then lnBad n B q 1
  else if kdH n B q = 0 ∨ kdH n B q = 1 then lnNum n B (tkE n B q) 0 9 (fun t q1 => lnNum n B q1 1 1000 (fun z q2 => lnNum n B q2 1 (dearT z) (fun pr q3 => lnMd n B q3 (kdH n B q) t z pr)))
  else if kdH n B q = 2 then lnNum n B (tkE n B q) 1 9999999 (fun k q1 => lnEnd n B q1 2 k 0 0 0)
  else if kdH n B q = 3 then lnNum n B (tkE n B q) 1 9999999 (fun k q1 => lnNum n B q1 1 1000 (fun z q2 => lnEnd n B q2 3 k z 0 0))
  else if kdH n B q = 4 then lnNum n B (tkE n B q) 0 1000 (fun k q1 => lnEnd n B q1 4 k 0 0 0)
  else if kdH n B q = 5 then lnNum n B (tkE n B q) 1 50 (fun k q1 => lnEnd n B q1 5 k 0 0 0)
  else lnEnd n B (tkE n B q) (kdH n B q) 0 0 0 0
def lnF (g : Nat) : Prop := 603 ≤ g ∧ g ≤ 611
def lnA (g : Nat) : Prop := g = 609
section LINE6
variable {N : Nat} {G : qG} {p n q : Nat} {μ ν ξ : qM} {B : Nat → Int} {v a0 a1 a2 md : Int}
theorem lnBad_1 {c : Int} (hc : 1 ≤ c) : (lnBad n B q c).1 ≠ 0 := by
  have : (lnBad n B q c).1 = 8 * (tkA n B q : Int) + c := rfl
  omega
/-- what the class has read -/
def lnC (G : qG) (p : Nat) (ν : qM) (x : LN) : Prop :=
  gI ν 603 p = (x.2.2.2.2.2.2.1 : Int) ∧ gI ν 607 p = x.2.2.2.2.2.2.2 ∧ gI ν 608 p = x.2.1 ∧ gI ν 610 p = x.2.2.2.2.2.1 ∧ (x.2.1 < 6 → gA ν (gR G 609 p) 0 = x.2.2.1) ∧ (x.2.1 = 0 ∨ x.2.1 = 1 ∨ x.2.1 = 3 → gA ν (gR G 609 p) 1 = x.2.2.2.1) ∧ (x.2.1 = 0 ∨ x.2.1 = 1 → gA ν (gR G 609 p) 2 = x.2.2.2.2.1)
def rlOk (G : qG) (p : Nat) (x : LN) (r : Int) (ν : qM) : Prop := (x.1 = 0 ∧ r = 1 ∧ lnC G p ν x) ∨ (x.1 ≠ 0 ∧ r = 0 ∧ gI ν 611 p = x.1)
theorem tk_ln (h : dRf G p tkF noA μ ν) : dRf G p lnF lnA μ ν := h.mono (fun g x => by unfold tkF at x; unfold lnF; omega) (fun _ x => x.elim)
theorem cTx.ln (hA : gR G 600 p ≠ gR G 609 p) (h : cTx G p μ n B) (hd : dRf G p lnF lnA μ ν) : cTx G p ν n B := h.fr hd (by unfold lnF; omega) (fun f q => by unfold lnA at q; rw [q]; exact hA)
theorem z_failBy6 (hq : q ≤ n) (hn : n ≤ 500) (h5 : gI μ 605 p = (tkA n B q : Int)) {c : Int} (hc : 1 ≤ c ∧ c ≤ 2) : f_X6_failBy N G p c μ = some (0, sI μ 611 p (8 * (tkA n B q : Int) + c)) := by
  have := tkA_le (B := B) hq
  unfold f_X6_failBy
  rw [h5, ckI_p ⟨by omega, by omega⟩, ckI_p ⟨by omega, by omega⟩, kp_p]
/-- the end of a line -/
theorem z_rl98 (hx : cTx G p μ n B) (hk : cTk p μ n B q) (hq : q ≤ n) (h8 : gI μ 608 p = v) (h10 : gI μ 610 p = md) (g0 : v < 6 → gA μ (gR G 609 p) 0 = a0) (g1 : v = 0 ∨ v = 1 ∨ v = 3 → gA μ (gR G 609 p) 1 = a1) (g2 : v = 0 ∨ v = 1 → gA μ (gR G 609 p) 2 = a2) :
    ∃ ν r, f_X6_readLine_98 N G p μ = some (r, ν) ∧ dRf G p lnF lnA μ ν ∧ rlOk G p (lnEnd n B q v a0 a1 a2 md) r ν := by
  obtain ⟨k5, k3, k4, -⟩ := hk
  unfold f_X6_readLine_98 lnEnd
  rw [k4]
  have d7 : ∀ z : Int, dRf G p lnF lnA μ (sI μ 607 p z) := fun z => dRf.sI (by unfold lnF; omega)
  have lc : ∀ z : Int, lnC G p (sI μ 607 p z) (0, v, a0, a1, a2, md, tkE n B q, z) := fun z => ⟨by rw [gI_f (by decide)]; exact k3, gI_s, by rw [gI_f (by decide)]; exact h8, by rw [gI_f (by decide)]; exact h10, g0, g1, g2⟩
  by_cases c : tkK n B q = 3
  · rw [if_pos c, if_pos c]
    unfold f_X6_readLine_112 f_X6_readLine_137
    rw [kp_p, gI_s, if_neg (by decide)]
    exact ⟨_, 1, rfl, d7 1, Or.inl ⟨rfl, rfl, lc 1⟩⟩
  · rw [if_neg c, if_neg c]
    unfold f_X6_readLine_112 f_X6_readLine_137
    rw [kp_p, gI_s, if_pos rfl, gI_f (by decide), k4]
    by_cases d : tkK n B q = 0
    · rw [if_pos d, if_pos d]
      exact ⟨_, 1, rfl, d7 0, Or.inl ⟨rfl, rfl, lc 0⟩⟩
    · rw [if_neg d, if_neg d, kb2_p (z_failBy6 (B := B) hq hx.2.1 (by rw [gI_f (by decide)]; exact k5) (by decide)), if_pos rfl]
      exact ⟨_, 0, rfl, (d7 0).tr (dRf.sI (by unfold lnF; omega)), Or.inr ⟨lnBad_1 (by decide), rfl, gI_s⟩⟩
theorem rlOk.of {x y : LN} {r : Int} (h : rlOk G p x r ν) (e : x = y) : rlOk G p y r ν := e ▸ h
theorem z_rl62 (hA : gR G 600 p ≠ gR G 609 p) (hx : cTx G p μ n B) (hk : cTk p μ n B q) (hq : q ≤ n) (hN : 1000 < N) (h8 : gI μ 608 p = v) (h10 : gI μ 610 p = 0) (g0 : v < 6 → gA μ (gR G 609 p) 0 = a0) (g1 : v = 0 ∨ v = 1 ∨ v = 3 → gA μ (gR G 609 p) 1 = a1) (g2 : v = 0 ∨ v = 1 → gA μ (gR G 609 p) 2 = a2) :
    ∃ ν r, f_X6_readLine_62 N G p μ = some (r, ν) ∧ dRf G p lnF lnA μ ν ∧ rlOk G p (lnMd n B q v a0 a1 a2) r ν := by
  have hk' := hk
  obtain ⟨k5, k3, k4, -⟩ := hk
  have he := tkE_le (B := B) hq
  unfold f_X6_readLine_62 lnMd
  rw [k4]
  by_cases c : tkK n B q = 1
  · have d1 : dRf G p lnF lnA μ (sI μ 610 p (mdH n B q)) := dRf.sI (by unfold lnF; omega)
    rw [if_pos c, if_pos c, kb2_p (z_wordIn6 (N := N) hx hk' hq hN).2, kp_p, gI_s]
    by_cases d : mdH n B q = -1
    · rw [if_pos d, if_pos d, kb2_p (z_failBy6 (B := B) hq hx.2.1 (by rw [gI_f (by decide)]; exact k5) (by decide))]
      exact ⟨_, 0, rfl, d1.tr (dRf.sI (by unfold lnF; omega)), Or.inr ⟨lnBad_1 (by decide), rfl, gI_s⟩⟩
    · have hx1 := hx.ln hA d1
      obtain ⟨μ2, b1, b2, b3⟩ := z_readToken6 (N := N) hx1 (q := tkE n B q) (by rw [gI_f (by decide)]; exact k3) he.2 hN
      have kf : ∀ g, g = 608 ∨ g = 610 → gI μ2 g p = gI (sI μ 610 p (mdH n B q)) g p := fun g hg => b2.1 _ _ (fun y => by have := y.2; unfold tkF at this; omega)
      have ka : ∀ i, gA μ2 (gR G 609 p) i = gA μ (gR G 609 p) i := fun i => b2.2.1 _ _ (fun f y => y.elim)
      obtain ⟨ν, r, e1, e2, e3⟩ := z_rl98 (N := N) (a0 := a0) (a1 := a1) (a2 := a2) (hx1.ln hA (tk_ln b2)) b3 he.2 (v := v) (md := mdH n B q) (by rw [kf 608 (Or.inl rfl), gI_f (by decide)]; exact h8) (by rw [kf 610 (Or.inr rfl), gI_s]) (fun y => by rw [ka]; exact g0 y) (fun y => by rw [ka]; exact g1 y) (fun y => by rw [ka]; exact g2 y)
      rw [if_neg d, if_neg d, kb_p b1]
      exact ⟨ν, r, e1, (d1.tr (tk_ln b2)).tr e2, e3⟩
  · rw [if_neg c, if_neg c]
    exact z_rl98 hx hk' hq h8 h10 g0 g1 g2
/-- what follows the numbers -/
def rlTail (N : Nat) (G : qG) (p : Nat) (m7 : qM) : Option (Int × qM) :=
  kb (f_X6_readToken N G p m7) fun m10 => kp (sI m10 610 p 0) fun m12 => if (gI m12 608 p) = 0 then (f_X6_readLine_62 N G p m12) else (if (gI m12 608 p) = 1 then (f_X6_readLine_62 N G p m12) else (f_X6_readLine_98 N G p m12))
theorem z_rlTail (hA : gR G 600 p ≠ gR G 609 p) (hx : cTx G p μ n B) (h3 : gI μ 603 p = (q : Int)) (hq : q ≤ n) (hN : 1000 < N) (h8 : gI μ 608 p = v) (g0 : v < 6 → gA μ (gR G 609 p) 0 = a0) (g1 : v = 0 ∨ v = 1 ∨ v = 3 → gA μ (gR G 609 p) 1 = a1) (g2 : v = 0 ∨ v = 1 → gA μ (gR G 609 p) 2 = a2) :
    ∃ ν r, rlTail N G p μ = some (r, ν) ∧ dRf G p lnF lnA μ ν ∧ rlOk G p (if v = 0 ∨ v = 1 then lnMd n B q v a0 a1 a2 else lnEnd n B q v a0 a1 a2 0) r ν := by
  obtain ⟨μ2, b1, b2, b3⟩ := z_readToken6 (N := N) hx h3 hq hN
  have d1 : dRf G p lnF lnA μ (sI μ2 610 p 0) := (tk_ln b2).tr (dRf.sI (by unfold lnF; omega))
  have hx1 := hx.ln hA d1
  have k8 : gI (sI μ2 610 p 0) 608 p = v := by rw [gI_f (by decide), b2.1 _ _ (fun y => by have := y.2; unfold tkF at this; omega)]; exact h8
  have ka : ∀ i, gA (sI μ2 610 p 0) (gR G 609 p) i = gA μ (gR G 609 p) i := fun i => b2.2.1 _ _ (fun f y => y.elim)
  have hk : cTk p (sI μ2 610 p 0) n B q := ⟨by rw [gI_f (by decide)]; exact b3.1, by rw [gI_f (by decide)]; exact b3.2.1, by rw [gI_f (by decide)]; exact b3.2.2.1, fun y => by rw [gI_f (by decide)]; exact b3.2.2.2 y⟩
  have g0' : v < 6 → gA (sI μ2 610 p 0) (gR G 609 p) 0 = a0 := fun y => by rw [ka]; exact g0 y
  have g1' : v = 0 ∨ v = 1 ∨ v = 3 → gA (sI μ2 610 p 0) (gR G 609 p) 1 = a1 := fun y => by rw [ka]; exact g1 y
  have g2' : v = 0 ∨ v = 1 → gA (sI μ2 610 p 0) (gR G 609 p) 2 = a2 := fun y => by rw [ka]; exact g2 y
  unfold rlTail
  rw [kb_p b1, kp_p, k8]
  by_cases c0 : v = 0 ∨ v = 1
  · rw [if_pos c0]
    have key : (if v = 0 then f_X6_readLine_62 N G p (sI μ2 610 p 0) else if v = 1 then f_X6_readLine_62 N G p (sI μ2 610 p 0) else f_X6_readLine_98 N G p (sI μ2 610 p 0)) = f_X6_readLine_62 N G p (sI μ2 610 p 0) := by
      by_cases c : v = 0
      · rw [if_pos c]
      · rw [if_neg c, if_pos (c0.resolve_left c)]
    obtain ⟨ν, r, e1, e2, e3⟩ := z_rl62 (N := N) hA hx1 hk hq hN k8 gI_s g0' g1' g2'
    rw [key]
    exact ⟨ν, r, e1, d1.tr e2, e3⟩
  · rw [if_neg c0, if_neg (fun y => c0 (Or.inl y)), if_neg (fun y => c0 (Or.inr y))]
    obtain ⟨ν, r, e1, e2, e3⟩ := z_rl98 (N := N) hx1 hk hq k8 gI_s g0' g1' g2'
    exact ⟨ν, r, e1, d1.tr e2, e3⟩
/-- one number -/
theorem z_num6 (hA : gR G 600 p ≠ gR G 609 p) (hx : cTx G p μ n B) (h3 : gI μ 603 p = (q : Int)) (hq : q ≤ n) (hN : 1000 < N) {j : Nat} (hj : j < 3) (lo hi : Int) :
    ∃ ν, dRf G p lnF lnA μ ν ∧ gI ν 608 p = gI μ 608 p ∧ (∀ i, i ≠ j → gA ν (gR G 609 p) i = gA μ (gR G 609 p) i) ∧
      ((f_X6_readNumber N G p (j : Int) lo hi μ = some (1, ν) ∧ gI ν 603 p = (tkE n B q : Int) ∧ gA ν (gR G 609 p) j = tkV n B q ∧ ∀ k, lnNum n B q lo hi k = k (tkV n B q) (tkE n B q)) ∨ (f_X6_readNumber N G p (j : Int) lo hi μ = some (0, ν) ∧ ∀ k, (lnNum n B q lo hi k).1 ≠ 0 ∧ gI ν 611 p = (lnNum n B q lo hi k).1)) := by
  obtain ⟨μ2, b1, b2, b3⟩ := z_readToken6 (N := N) hx h3 hq hN
  obtain ⟨k5, k3, k4, k6⟩ := b3
  have k8 : gI μ2 608 p = gI μ 608 p := b2.1 _ _ (fun y => by have := y.2; unfold tkF at this; omega)
  have ka : ∀ i, gA μ2 (gR G 609 p) i = gA μ (gR G 609 p) i := fun i => b2.2.1 _ _ (fun f y => y.elim)
  have d1 := tk_ln b2
  have bad : ∀ c : Int, 1 ≤ c ∧ c ≤ 2 → dRf G p lnF lnA μ (sI μ2 611 p (8 * (tkA n B q : Int) + c)) ∧ gI (sI μ2 611 p (8 * (tkA n B q : Int) + c)) 608 p = gI μ 608 p ∧ ∀ i, i ≠ j → gA (sI μ2 611 p (8 * (tkA n B q : Int) + c)) (gR G 609 p) i = gA μ (gR G 609 p) i := fun c _ => ⟨d1.tr (dRf.sI (by unfold lnF; omega)), by rw [gI_f (by decide)]; exact k8, fun i _ => ka i⟩
  unfold f_X6_readNumber f_X6_readNumber_34 lnNum
  rw [kb_p b1, k4]
  by_cases c : tkK n B q = 2
  · rw [if_pos c, k6 c]
    by_cases d : lo ≤ tkV n B q ∧ tkV n B q ≤ hi
    · rw [if_neg (by omega), if_neg (by omega), wrA_p ⟨by omega, by omega⟩, Int.toNat_natCast]
      refine ⟨_, d1.tr (dRf.sA rfl), by rw [gI_sA]; exact k8, fun i hi => by rw [gA_i hi]; exact ka i, Or.inl ⟨rfl, by rw [gI_sA]; exact k3, gA_s, fun k => by rw [if_pos c, if_pos d]⟩⟩
    · obtain ⟨x1, x2, x3⟩ := bad 2 (by decide)
      have fb := z_failBy6 (N := N) (G := G) (B := B) hq hx.2.1 k5 (c := 2) (by decide)
      refine ⟨_, x1, x2, x3, Or.inr ⟨?_, fun k => by rw [if_pos c, if_neg d]; exact ⟨lnBad_1 (by decide), gI_s⟩⟩⟩
      by_cases d1 : tkV n B q < lo
      · rw [if_pos d1, kb2_p fb]
      · rw [if_neg d1, if_pos (by omega), kb2_p fb]
  · obtain ⟨x1, x2, x3⟩ := bad 1 (by decide)
    rw [if_neg c, kb2_p (z_failBy6 (B := B) hq hx.2.1 k5 (by decide))]
    exact ⟨_, x1, x2, x3, Or.inr ⟨rfl, fun k => by rw [if_neg c]; exact ⟨lnBad_1 (by decide), gI_s⟩⟩⟩
theorem z_dearest6 {z : Int} (hz : 0 ≤ z ∧ z ≤ 100000) : f_X6_dearest N G z μ = some (dearT z, μ) := by
  unfold f_X6_dearest dearT
  by_cases c : z < 1
  · rw [if_pos c, if_pos c]
  · have t : (2147483647 : Int).tdiv z = 2147483647 / z := Int.tdiv_eq_ediv_of_nonneg (by decide)
    have h1 : 0 ≤ (2147483647 : Int) / z := Int.ediv_nonneg (by decide) (by omega)
    have h2 : (2147483647 : Int) / z ≤ 2147483647 := Int.ediv_le_self _ (by decide)
    rw [if_neg c, if_neg c, ckD_p (by omega), ckI_p ⟨by omega, by omega⟩, kp_p]
theorem z_readLine6 (hA : gR G 600 p ≠ gR G 609 p) (hx : cTx G p μ n B) (h3 : gI μ 603 p = (q : Int)) (hq : q ≤ n) (hN : 1000 < N) :
    ∃ ν r, f_X6_readLine N G p μ = some (r, ν) ∧ dRf G p lnF lnA μ ν ∧ rlOk G p (lnOf n B q) r ν := by
  obtain ⟨μ2, b1, b2, b3⟩ := z_readToken6 (N := N) hx h3 hq hN
  have he := tkE_le (B := B) hq
  have hx2 := hx.ln hA (tk_ln b2)
  have kr := kdH_r (n := n) (B := B) (q := q)
  generalize hM : sI μ2 608 p (kdH n B q) = M
  have dM : dRf G p lnF lnA μ M := by rw [← hM]; exact (tk_ln b2).tr (dRf.sI (by unfold lnF; omega))
  have M8 : gI M 608 p = kdH n B q := by rw [← hM, gI_s]
  have M3 : gI M 603 p = (tkE n B q : Int) := by rw [← hM, gI_f (by decide)]; exact b3.2.1
  have M5 : gI M 605 p = (tkA n B q : Int) := by rw [← hM, gI_f (by decide)]; exact b3.1
  have hxM := hx.ln hA dM
  have pre : f_X6_readLine N G p μ = if kdH n B q = -1 then (kb2 (f_X6_failBy N G p 1 M) fun v16 m15 => some (v16, m15)) else kb2 (f_X6_readNumbers N G p M) fun v8 m7 => if v8 = 0 then some (0, m7) else rlTail N G p m7 := by
    unfold f_X6_readLine
    rw [kb_p b1, kb2_p (z_wordIn6 (N := N) hx2 b3 hq hN).1, kp_p, hM, M8]
    rfl
  rw [pre]
  unfold lnOf
  by_cases c : kdH n B q = -1
  · rw [if_pos c, if_pos c, kb2_p (z_failBy6 (B := B) hq hx.2.1 M5 (by decide))]
    exact ⟨_, 0, rfl, dM.tr (dRf.sI (by unfold lnF; omega)), Or.inr ⟨lnBad_1 (by decide), rfl, gI_s⟩⟩
  · rw [if_neg c, if_neg c]
    by_cases c01 : kdH n B q = 0 ∨ kdH n B q = 1
    · rw [if_pos c01]
      have rn : f_X6_readNumbers N G p M = kb2 (f_X6_readNumber N G p 0 0 9 M) fun v3 m2 => if v3 = 0 then some (0, m2) else kb2 (f_X6_readNumber N G p 1 1 1000 m2) fun v6 m5 => if v6 = 0 then some (0, m5) else kb2 (f_X6_dearest N G (gA m5 (gR G 609 p) 1) m5) fun v9 m8 => kb2 (f_X6_readNumber N G p 2 1 v9 m8) fun v11 m10 => if v11 = 0 then some (0, m10) else some (1, m10) := by
        unfold f_X6_readNumbers
        rw [M8]
        by_cases y : kdH n B q = 0
        · rw [if_pos y]
        · rw [if_neg y, if_pos (c01.resolve_left y)]
      rw [rn]
      obtain ⟨m1, t1, t2, t3, t4⟩ := z_num6 (N := N) hA hxM M3 he.2 hN (j := 0) (by decide) 0 9
      rcases t4 with ⟨s1, s2, s3, s4⟩ | ⟨s1, s2⟩
      · have he1 := tkE_le (B := B) he.2
        have hx1 := hxM.ln hA t1
        obtain ⟨m2, u1, u2, u3, u4⟩ := z_num6 (N := N) hA hx1 s2 he1.2 hN (j := 1) (by decide) 1 1000
        rw [s4]
        have s1' : f_X6_readNumber N G p 0 0 9 M = some (1, m1) := s1
        rw [kb2_p s1', if_neg (by decide)]
        rcases u4 with ⟨w1, w2, w3, w4⟩ | ⟨w1, w2⟩
        · have he2 := tkE_le (B := B) he1.2
          have hx2' := hx1.ln hA u1
          have w1' : f_X6_readNumber N G p 1 1 1000 m1 = some (1, m2) := w1
          rw [w4, kb2_p w1', if_neg (by decide), w3]
          have zb : 0 ≤ tkV n B (tkE n B (tkE n B q)) ∧ tkV n B (tkE n B (tkE n B q)) ≤ 100000 := by
            by_cases cc : tkK n B (tkE n B (tkE n B q)) = 2
            · by_cases cd : 1 ≤ tkV n B (tkE n B (tkE n B q)) ∧ tkV n B (tkE n B (tkE n B q)) ≤ 1000
              · omega
              · exfalso
                have := w4 (fun _ _ => (0, 0, 0, 0, 0, 0, 0, 0))
                unfold lnNum at this
                rw [if_pos cc, if_neg cd] at this
                exact lnBad_1 (n := n) (B := B) (q := tkE n B (tkE n B q)) (c := 2) (by decide) (by rw [this])
            · exfalso
              have := w4 (fun _ _ => (0, 0, 0, 0, 0, 0, 0, 0))
              unfold lnNum at this
              rw [if_neg cc] at this
              exact lnBad_1 (n := n) (B := B) (q := tkE n B (tkE n B q)) (c := 1) (by decide) (by rw [this])
          rw [kb2_p (z_dearest6 zb)]
          obtain ⟨m3, x1, x2, x3, x4⟩ := z_num6 (N := N) hA hx2' w2 he2.2 hN (j := 2) (by decide) 1 (dearT (tkV n B (tkE n B (tkE n B q))))
          rcases x4 with ⟨y1, y2, y3, y4⟩ | ⟨y1, y2⟩
          · have y1' : f_X6_readNumber N G p 2 1 (dearT (tkV n B (tkE n B (tkE n B q)))) m2 = some (1, m3) := y1
            have he3 := tkE_le (B := B) he2.2
            rw [y4, kb2_p y1', if_neg (by decide)]
            obtain ⟨ν, r, e1, e2, e3⟩ := z_rlTail (N := N) hA (hx2'.ln hA x1) y2 he3.2 hN (v := kdH n B q) (a0 := tkV n B (tkE n B q)) (a1 := tkV n B (tkE n B (tkE n B q))) (a2 := tkV n B (tkE n B (tkE n B (tkE n B q)))) (by rw [x2, u2, t2, M8]) (fun _ => by rw [x3 0 (by decide), u3 0 (by decide)]; exact s3) (fun _ => by rw [x3 1 (by decide)]; exact w3) (fun _ => y3)
            rw [if_pos c01] at e3
            exact ⟨ν, r, e1, (((dM.tr t1).tr u1).tr x1).tr e2, e3⟩
          · have y1' : f_X6_readNumber N G p 2 1 (dearT (tkV n B (tkE n B (tkE n B q)))) m2 = some (0, m3) := y1
            obtain ⟨z1, z2⟩ := y2 (fun pr q3 => lnMd n B q3 (kdH n B q) (tkV n B (tkE n B q)) (tkV n B (tkE n B (tkE n B q))) pr)
            rw [kb2_p y1', if_pos rfl]
            exact ⟨m3, 0, rfl, ((dM.tr t1).tr u1).tr x1, Or.inr ⟨z1, rfl, z2⟩⟩
        · have w1' : f_X6_readNumber N G p 1 1 1000 m1 = some (0, m2) := w1
          obtain ⟨z1, z2⟩ := w2 (fun z q2 => lnNum n B q2 1 (dearT z) (fun pr q3 => lnMd n B q3 (kdH n B q) (tkV n B (tkE n B q)) z pr))
          rw [kb2_p w1', if_pos rfl]
          exact ⟨m2, 0, rfl, (dM.tr t1).tr u1, Or.inr ⟨z1, rfl, z2⟩⟩
      · have s1' : f_X6_readNumber N G p 0 0 9 M = some (0, m1) := s1
        obtain ⟨z1, z2⟩ := s2 (fun t q1 => lnNum n B q1 1 1000 (fun z q2 => lnNum n B q2 1 (dearT z) (fun pr q3 => lnMd n B q3 (kdH n B q) t z pr)))
        rw [kb2_p s1', if_pos rfl]
        exact ⟨m1, 0, rfl, dM.tr t1, Or.inr ⟨z1, rfl, z2⟩⟩
    · rw [if_neg c01]
      -- one number alone
      have one : ∀ (w lo hi : Int), kdH n B q = w → (w = 2 ∨ w = 4 ∨ w = 5) → f_X6_readNumbers N G p M = (kb2 (f_X6_readNumber N G p 0 lo hi M) fun v27 m26 => some (v27, m26)) → ∃ ν r, (kb2 (f_X6_readNumbers N G p M) fun v8 m7 => if v8 = 0 then some (0, m7) else rlTail N G p m7) = some (r, ν) ∧ dRf G p lnF lnA μ ν ∧ rlOk G p (lnNum n B (tkE n B q) lo hi (fun k q1 => lnEnd n B q1 w k 0 0 0)) r ν := by
        intro w lo hi hw hw3 hr
        obtain ⟨m1, t1, t2, t3, t4⟩ := z_num6 (N := N) hA hxM M3 he.2 hN (j := 0) (by decide) lo hi
        rw [hr]
        rcases t4 with ⟨s1, s2, s3, s4⟩ | ⟨s1, s2⟩
        · have he1 := tkE_le (B := B) he.2
          have s1' : f_X6_readNumber N G p 0 lo hi M = some (1, m1) := s1
          rw [s4, kb2_p s1', kb2_p rfl, if_neg (by decide)]
          obtain ⟨ν, r, e1, e2, e3⟩ := z_rlTail (N := N) hA (hxM.ln hA t1) s2 he1.2 hN (v := w) (a0 := tkV n B (tkE n B q)) (a1 := 0) (a2 := 0) (by rw [t2, M8, hw]) (fun _ => s3) (fun y => by omega) (fun y => by omega)
          rw [if_neg (by omega)] at e3
          exact ⟨ν, r, e1, (dM.tr t1).tr e2, e3⟩
        · have s1' : f_X6_readNumber N G p 0 lo hi M = some (0, m1) := s1
          obtain ⟨z1, z2⟩ := s2 (fun k q1 => lnEnd n B q1 w k 0 0 0)
          rw [kb2_p s1', kb2_p rfl, if_pos rfl]
          exact ⟨m1, 0, rfl, dM.tr t1, Or.inr ⟨z1, rfl, z2⟩⟩
      by_cases c2 : kdH n B q = 2
      · rw [if_pos c2]
        exact one 2 1 9999999 c2 (by decide) (by unfold f_X6_readNumbers; rw [M8, if_neg (by omega), if_neg (by omega), if_pos c2])
      · rw [if_neg c2]
        by_cases c3 : kdH n B q = 3
        · rw [if_pos c3]
          have rn : f_X6_readNumbers N G p M = kb2 (f_X6_readNumber N G p 0 1 9999999 M) fun v30 m29 => if v30 = 0 then some (0, m29) else kb2 (f_X6_readNumber N G p 1 1 1000 m29) fun v33 m32 => if v33 = 0 then some (0, m32) else some (1, m32) := by
            unfold f_X6_readNumbers
            rw [M8, if_neg (by omega), if_neg (by omega), if_neg c2, if_pos c3]
          rw [rn]
          obtain ⟨m1, t1, t2, t3, t4⟩ := z_num6 (N := N) hA hxM M3 he.2 hN (j := 0) (by decide) 1 9999999
          rcases t4 with ⟨s1, s2, s3, s4⟩ | ⟨s1, s2⟩
          · have he1 := tkE_le (B := B) he.2
            have hx1 := hxM.ln hA t1
            have s1' : f_X6_readNumber N G p 0 1 9999999 M = some (1, m1) := s1
            rw [s4, kb2_p s1', if_neg (by decide)]
            obtain ⟨m2, u1, u2, u3, u4⟩ := z_num6 (N := N) hA hx1 s2 he1.2 hN (j := 1) (by decide) 1 1000
            rcases u4 with ⟨w1, w2, w3, w4⟩ | ⟨w1, w2⟩
            · have he2 := tkE_le (B := B) he1.2
              have w1' : f_X6_readNumber N G p 1 1 1000 m1 = some (1, m2) := w1
              rw [w4, kb2_p w1', if_neg (by decide), kb2_p rfl, if_neg (by decide)]
              obtain ⟨ν, r, e1, e2, e3⟩ := z_rlTail (N := N) hA (hx1.ln hA u1) w2 he2.2 hN (v := 3) (a0 := tkV n B (tkE n B q)) (a1 := tkV n B (tkE n B (tkE n B q))) (a2 := 0) (by rw [u2, t2, M8, c3]) (fun _ => by rw [u3 0 (by decide)]; exact s3) (fun _ => w3) (fun y => by omega)
              rw [if_neg (by decide)] at e3
              exact ⟨ν, r, e1, ((dM.tr t1).tr u1).tr e2, e3⟩
            · have w1' : f_X6_readNumber N G p 1 1 1000 m1 = some (0, m2) := w1
              obtain ⟨z1, z2⟩ := w2 (fun z q2 => lnEnd n B q2 3 (tkV n B (tkE n B q)) z 0 0)
              rw [kb2_p w1', if_pos rfl, kb2_p rfl, if_pos rfl]
              exact ⟨m2, 0, rfl, (dM.tr t1).tr u1, Or.inr ⟨z1, rfl, z2⟩⟩
          · have s1' : f_X6_readNumber N G p 0 1 9999999 M = some (0, m1) := s1
            obtain ⟨z1, z2⟩ := s2 (fun k q1 => lnNum n B q1 1 1000 (fun z q2 => lnEnd n B q2 3 k z 0 0))
            rw [kb2_p s1', if_pos rfl, kb2_p rfl, if_pos rfl]
            exact ⟨m1, 0, rfl, dM.tr t1, Or.inr ⟨z1, rfl, z2⟩⟩
        · rw [if_neg c3]
          by_cases c4 : kdH n B q = 4
          · rw [if_pos c4]
            exact one 4 0 1000 c4 (by decide) (by unfold f_X6_readNumbers; rw [M8, if_neg (by omega), if_neg (by omega), if_neg c2, if_neg c3, if_pos c4])
          · rw [if_neg c4]
            by_cases c5 : kdH n B q = 5
            · rw [if_pos c5]
              exact one 5 1 50 c5 (by decide) (by unfold f_X6_readNumbers; rw [M8, if_neg (by omega), if_neg (by omega), if_neg c2, if_neg c3, if_neg c4, if_pos c5])
            · rw [if_neg c5]
              have rn : f_X6_readNumbers N G p M = some (1, M) := by
                unfold f_X6_readNumbers
                rw [M8, if_neg (by omega), if_neg (by omega), if_neg c2, if_neg c3, if_neg c4, if_neg c5]
              rw [kb2_p rn, if_neg (by decide)]
              obtain ⟨ν, r, e1, e2, e3⟩ := z_rlTail (N := N) hA hxM M3 he.2 hN (v := kdH n B q) (a0 := 0) (a1 := 0) (a2 := 0) M8 (fun y => by omega) (fun y => by omega) (fun y => by omega)
              rw [if_neg c01] at e3
              exact ⟨ν, r, e1, dM.tr e2, e3⟩
end LINE6
