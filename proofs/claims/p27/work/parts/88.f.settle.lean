/-! PURE: the reference settles: what is laid out loses what it has, from the last on; what is empty goes -/
theorem era_set {l : List (Nat → Int)} {i : Nat} {o : Nat → Int} : (l.set i o).eraseIdx i = l.eraseIdx i := by
  induction l generalizing i with
  | nil => rfl
  | cons x t ih =>
    cases i with
    | zero => rfl
    | succ i => show x :: (t.set i o).eraseIdx i = x :: t.eraseIdx i; rw [ih]
/-- sizes as the last j of the row have lost h -/
def fB (J : List Nat) (h f0 : Nat → Int) : Nat → Nat → Int
  | 0 => f0
  | j + 1 => fun i => if i = jG J (J.length - 1 - j) then fB J h f0 j i - h (J.length - 1 - j) else fB J h f0 j i
theorem fB_at {J : List Nat} {h f0 : Nat → Int} (hinj : ∀ j k, j < J.length → k < J.length → jG J j = jG J k → j = k) {r : Nat} (hr : r < J.length) : ∀ j, j ≤ J.length → fB J h f0 j (jG J r) = if J.length ≤ r + j then f0 (jG J r) - h r else f0 (jG J r) := by
  intro j
  induction j with
  | zero => intro _; rw [if_neg (by omega)]; rfl
  | succ j ih =>
    intro hj
    show (if jG J r = jG J (J.length - 1 - j) then _ else _) = _
    rw [ih (by omega)]
    by_cases c : r = J.length - 1 - j
    · rw [← c, if_pos rfl, if_neg (by omega), if_pos (by omega)]
    · rw [if_neg (fun e => c (hinj _ _ hr (by omega) e))]
      by_cases d : J.length ≤ r + j
      · rw [if_pos d, if_pos (by omega)]
      · rw [if_neg d, if_neg (by omega)]
theorem fB_o {J : List Nat} {h f0 : Nat → Int} {i : Nat} (hne : ∀ r, r < J.length → jG J r ≠ i) : ∀ j, j ≤ J.length → fB J h f0 j i = f0 i := by
  intro j
  induction j with
  | zero => intro _; rfl
  | succ j ih =>
    intro hj
    show (if i = jG J (J.length - 1 - j) then _ else fB J h f0 j i) = _
    rw [if_neg (fun e => hne _ (by omega) e.symm)]
    exact ih (by omega)
section SETTLE
variable {N : Nat} {G : qG} {m : Nat} {μ ν : qM} {l : List (Nat → Int)} {T T' U D : Nat → Int} {tr : Nat → Nat → Int} {n : Nat} {B : Nat → Int}
/-- the loop: it begins with all there, sizes positive -/
theorem z_settleL8 (hL : mL G m) (hl : lOk l) (hp : ∀ j, j < l.length → 0 < lG l j 4) {J : List Nat} (hJl : ∀ k, k < J.length → jG J k < l.length) (hmono : ∀ j k, j < k → k < J.length → jG J j < jG J k)
    (h5 : gI μ 805 m = (J.length : Int)) (h6 : ∀ k, k < J.length → gA μ (gR G 806 m) k = (jG J k : Int)) {S a b d : Nat → Int} (h7 : ∀ k, k < J.length → gA μ (gR G 807 m) k = S k) (hS : ∀ k, k < J.length → S k = lG l (jG J k) 4) (h8 : ∀ k, k < J.length → gA μ (gR G 808 m) k = a k ∧ gA μ (gR G 809 m) k = b k ∧ gA μ (gR G 810 m) k = d k)
    (hq : ∀ k, k < J.length → (-100000000 ≤ a k ∧ a k ≤ 100000000) ∧ (-100000000 ≤ b k ∧ b k ≤ 100000000) ∧ (-100000000 ≤ d k ∧ d k ≤ 100000000)) (hh : ∀ k, k < J.length → 0 ≤ a k + b k + d k ∧ a k + b k + d k ≤ S k)
    (h : mR G m μ l T D tr n B) (hN : 1000 < N) :
    ∃ ν, f_X8_settles_39 N G m μ = some ν ∧ dX G m μ ν ∧ mR G m ν ((szs l (fB J (fun k => a k + b k + d k) (fun i => lG l i 4) J.length)).filter aKp) (aSw T (szs l (fB J (fun k => a k + b k + d k) (fun i => lG l i 4) J.length))) D tr n B := by
  have h60 := hl.1
  have hJ : J.length ≤ 60 := by
    have q : ∀ k, k < J.length → k ≤ jG J k := by
      intro k
      induction k with
      | zero => intro _; exact Nat.zero_le _
      | succ k ih => intro hk; have := ih (by omega); have := hmono k (k + 1) (by omega) hk; omega
    rcases Nat.eq_zero_or_pos J.length with z | z
    · omega
    · have := q (J.length - 1) (by omega); have := hJl (J.length - 1) (by omega); omega
  have hinj : ∀ j k, j < J.length → k < J.length → jG J j = jG J k → j = k := fun j k hj hk e => by
    rcases Nat.lt_trichotomy j k with q | q | q
    · have := hmono j k q hk; omega
    · exact q
    · have := hmono k j q hj; omega
  have n68 : ∀ g, (g = 806 ∨ g = 807 ∨ g = 808 ∨ g = 809 ∨ g = 810) → gR G g m ≠ gR G 800 m := by
    intro g hg
    rcases hg with rfl | rfl | rfl | rfl | rfl <;> exact hL.ne (by decide) (by decide) (by decide)
  unfold f_X8_settles_39
  rw [h5, ckI_p ⟨by omega, by omega⟩]
  unfold f_X8_settles_L46
  generalize hf0 : (fun i => lG l i 4) = f0
  generalize hhv : (fun k => a k + b k + d k) = hv
  have hv' : ∀ k, a k + b k + d k = hv k := fun k => by rw [← hhv]
  have f0' : ∀ i, f0 i = lG l i 4 := fun i => by rw [← hf0]
  have e0 : szs l (fB J hv f0 0) = l := by show szs l f0 = l; rw [← hf0]; exact szs_id
  refine qLoop_inv (fun j st => ∃ mem, st = (m, (J.length : Int) - 1 - (j : Int), mem) ∧ dX G m μ mem ∧ mR G m mem ((szs l (fB J hv f0 j)).filter aKp) (aSw T (szs l (fB J hv f0 j))) D tr n B)
    (fun r => ∃ ν, r = some ν ∧ dX G m μ ν ∧ mR G m ν ((szs l (fB J hv f0 J.length)).filter aKp) (aSw T (szs l (fB J hv f0 J.length))) D tr n B)
    J.length ?_ ?_ J.length 0 N _ (by omega) (by omega) ?_
  · rintro j st hj ⟨mem, rfl, hd, hm⟩
    refine Or.inr ?_
    obtain ⟨r, hr⟩ : ∃ r, r = J.length - 1 - j := ⟨_, rfl⟩
    have hrc : r < J.length := by omega
    have ki : (J.length : Int) - 1 - (j : Int) = (r : Int) := by omega
    have hjl := hJl r hrc
    have g : ∀ g, (g = 806 ∨ g = 807 ∨ g = 808 ∨ g = 809 ∨ g = 810) → ∀ i, gA mem (gR G g m) i = gA μ (gR G g m) i := fun g hg i => hd.2.1 _ _ (n68 g hg)
    -- the state of the sizes
    generalize hf : fB J hv f0 j = f at *
    have fr : f (jG J r) = lG l (jG J r) 4 := by rw [← hf, fB_at hinj hrc j (by omega), if_neg (by omega), f0']
    have fbd : ∀ i, i < l.length → 0 ≤ f i ∧ f i ≤ 1000 := by
      intro i hi
      have hz := (hl.2 i hi).2.2.2.2.1
      rw [← hf]
      by_cases c : ∃ k, k < J.length ∧ jG J k = i
      · obtain ⟨k, hk, rfl⟩ := c
        have := hh k hk
        have e1 := hv' k
        have e2 := hS k hk
        have e3 := f0' (jG J k)
        rw [fB_at hinj hk j (by omega)]
        split <;> omega
      · rw [fB_o (fun k hk e => c ⟨k, hk, e⟩) j (by omega), f0']
        exact hz
    have fpos : ∀ i, i ≤ jG J r → 0 < f i := by
      intro i hi
      have hp' := hp i (by omega)
      rw [← hf]
      by_cases c : ∃ k, k < J.length ∧ jG J k = i
      · obtain ⟨k, hk, rfl⟩ := c
        have : k ≤ r := by
          rcases Nat.lt_or_ge r k with q | q
          · have := hmono r k q hk; omega
          · exact q
        rw [fB_at hinj hk j (by omega), if_neg (by omega), f0']
        exact hp'
      · rw [fB_o (fun k hk e => c ⟨k, hk, e⟩) j (by omega), f0']
        exact hp'
    have hLs : lOk (szs l f) := szs_lOk hl fbd
    have szl : (szs l f).length = l.length := szs_len
    have hq' : jG J r < (szs l f).length := by rw [szl]; exact hjl
    have kpq : ∀ i, i ≤ jG J r → aKp (lG (szs l f) i) = true := fun i hi => decide_eq_true (by rw [szs_4 (by omega)]; exact fpos i hi)
    obtain ⟨g1, g2, g3, g4⟩ := flt_gen (p := aKp) hq' (kpq _ (Nat.le_refl _))
    have gl : (((szs l f).take (jG J r)).filter aKp).length = jG J r := flt_len (by omega) (fun i hi => kpq i (by omega))
    rw [gl] at g1 g2 g3 g4
    have hF := hLs.flt (p := aKp)
    have ns : ∀ i, i < (szs l f).length → oNs (lG (szs l f) i) := fun i hi => (hLs.2 i hi).ns
    -- the new sizes
    have efd : fB J hv f0 (j + 1) = fun i => if i = jG J r then f (jG J r) - hv r else f i := by
      funext i
      show (if i = jG J (J.length - 1 - j) then fB J hv f0 j i - hv (J.length - 1 - j) else fB J hv f0 j i) = _
      rw [hf, ← hr]
      by_cases c : i = jG J r
      · rw [if_pos c, if_pos c, c]
      · rw [if_neg c, if_neg c]
    have eset := szs_set (l := l) (f := f) (v := f (jG J r) - hv r) hjl
    rw [← efd] at eset
    have esw := aSw_set (T := T) (v := f (jG J r) - hv r) hq' ns (by rw [szs_4 hjl]; exact fpos _ (Nat.le_refl _))
    rw [eset] at esw
    have hhr := hh r hrc
    have hSr := hS r hrc
    have hz := (hl.2 _ hjl).2.2.2.2.1
    have hvr := hv' r
    have h8r := h8 r hrc
    have ehas := z_has8 (N := N) (G := G) (m := m) (μ := mem) (k := r) (by omega) (by rw [g 808 (by decide)]; exact h8r.1) (by rw [g 809 (by decide)]; exact h8r.2.1) (by rw [g 810 (by decide)]; exact h8r.2.2) (hq r hrc)
    have hm1 : mR G m (sA mem (gR G 800 m) (24 + 6 * jG J r + 4) (f (jG J r) - hv r)) (((szs l f).filter aKp).set (jG J r) (upd1 (lG ((szs l f).filter aKp) (jG J r)) 4 (f (jG J r) - hv r))) (aSw T (szs l f)) D tr n B := hm.size hL hF.1 g1 (by decide)
    have d1 : dX G m mem (sA mem (gR G 800 m) (24 + 6 * jG J r + 4) (f (jG J r) - hv r)) := dX.sA
    have pre : ∀ kk, f_X8_settles_46 N G kk m ((J.length : Int) - 1 - (j : Int)) mem = if f (jG J r) - hv r = 0 then (rdA (sA mem (gR G 800 m) (24 + 6 * jG J r + 4) (f (jG J r) - hv r)) (gR G 806 m) (r : Int) 70 fun v10 => kb (f_X8_goes N G m v10 (sA mem (gR G 800 m) (24 + 6 * jG J r + 4) (f (jG J r) - hv r))) fun m11 => f_X8_settles_92 N G kk m (r : Int) m11) else f_X8_settles_92 N G kk m (r : Int) (sA mem (gR G 800 m) (24 + 6 * jG J r + 4) (f (jG J r) - hv r)) := by
      intro kk
      unfold f_X8_settles_46
      rw [ki, if_neg (by omega), rdA_p ⟨by omega, by omega⟩, Int.toNat_natCast, g 807 (by decide), h7 r hrc, kb2_p ehas, ckI_p ⟨by omega, by omega⟩, rdA_p ⟨by omega, by omega⟩, Int.toNat_natCast, g 806 (by decide), h6 r hrc, kb_p (z_setOrder8 ⟨by omega, by omega⟩ ⟨by decide, by decide⟩)]
      have e1 : S r - (a r + b r + d r) = f (jG J r) - hv r := by omega
      have e2 : 24 + 6 * ((jG J r : Nat) : Int).toNat + (4 : Int).toNat = 24 + 6 * jG J r + 4 := by omega
      rw [e1, e2]
    have nx : ∀ kk mem', f_X8_settles_92 N G kk m (r : Int) mem' = kk m ((J.length : Int) - 1 - ((j + 1 : Nat) : Int)) mem' := by
      intro kk mem'
      unfold f_X8_settles_92
      rw [ckI_p ⟨by omega, by omega⟩, show (r : Int) + (-1) = (J.length : Int) - 1 - ((j + 1 : Nat) : Int) by omega]
    by_cases c : f (jG J r) - hv r = 0
    · -- it goes
      have eF : (((szs l f).filter aKp).set (jG J r) (upd1 (lG ((szs l f).filter aKp) (jG J r)) 4 (f (jG J r) - hv r))).eraseIdx (jG J r) = (szs l (fB J hv f0 (j + 1))).filter aKp := by
        rw [era_set, ← eset]
        exact g4 _ (by unfold aKp; rw [upd1_s, c]; decide)
      have hl1 : lOk (((szs l f).filter aKp).set (jG J r) (upd1 (lG ((szs l f).filter aKp) (jG J r)) 4 (f (jG J r) - hv r))) := hF.set g1 (by omega)
      obtain ⟨mem', k1, k2, k3⟩ := z_goes8 (N := N) hL hm1 hl1 hN (i := jG J r) (by rw [List.length_set]; exact g1)
      rw [eF, lG_set g1, if_pos rfl, aGo_4, g2] at k3
      rw [if_neg (by omega)] at esw
      refine ⟨_, ⟨mem', rfl, hd.tr (d1.tr k2), by rw [esw]; exact k3⟩, fun kk => ?_⟩
      show f_X8_settles_46 N G _ m ((J.length : Int) - 1 - (j : Int)) mem = _
      rw [pre, if_pos c, rdA_p ⟨by omega, by omega⟩, Int.toNat_natCast, gA_a (n68 806 (by decide)), g 806 (by decide), h6 r hrc, kb_p k1, nx]
    · have eF : ((szs l f).filter aKp).set (jG J r) (upd1 (lG ((szs l f).filter aKp) (jG J r)) 4 (f (jG J r) - hv r)) = (szs l (fB J hv f0 (j + 1))).filter aKp := by
        rw [← eset, g2]
        exact g3 _ (decide_eq_true (by rw [upd1_s]; omega))
      rw [if_pos (by omega)] at esw
      refine ⟨_, ⟨sA mem (gR G 800 m) (24 + 6 * jG J r + 4) (f (jG J r) - hv r), rfl, hd.tr d1, by rw [esw, ← eF]; exact hm1⟩, fun kk => ?_⟩
      show f_X8_settles_46 N G _ m ((J.length : Int) - 1 - (j : Int)) mem = _
      rw [pre, if_neg c, nx]
  · rintro st ⟨mem, rfl, hd, hm⟩
    refine ⟨_, ⟨mem, rfl, hd, hm⟩, fun k => ?_⟩
    show f_X8_settles_46 N G _ m ((J.length : Int) - 1 - (J.length : Int)) mem = _
    unfold f_X8_settles_46
    rw [if_pos (by omega)]
  · refine ⟨μ, by rw [show (J.length : Int) - 1 - ((0 : Nat) : Int) = (J.length : Int) - 1 by omega], dX.rf, ?_⟩
    rw [e0, flt_all (fun i hi => decide_eq_true (hp i hi)), aSw_all hp]
    exact h
end SETTLE
