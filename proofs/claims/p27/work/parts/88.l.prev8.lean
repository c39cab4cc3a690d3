/-! PURE: the reference prevents who comes in from meeting itself -/
def oF (g : Nat) : Prop := g = 817
def oA (a : Nat) : Prop := a = 800
section PREV8
variable {N : Nat} {G : qG} {m : Nat} {μ ν : qM} {l : List (Nat → Int)} {T U D : Nat → Int} {tr : Nat → Nat → Int} {n : Nat} {B : Nat → Int} {E : List (Nat → Int)} {x W q2 q3 q5 s z num il la iw L1 t0 mode p0 so p : Int} {w : (Nat → Int) → Bool}
theorem z_hasOwn8 (h : mB G m μ l) (hn : l.length ≤ 60) (hN : 100 < N) (ht : gI μ 812 m = t0) (hw : w = oOwn so p t0) : f_X8_hasOwn N G m so p μ = some (aMet w l l.length, μ) := by
  have wv : ∀ o, w o = true ↔ (aAt so p o = true ∧ o 1 = t0) := fun o => by rw [hw]; exact oOwn_t
  unfold f_X8_hasOwn f_X8_hasOwn_L2
  refine qLoop_inv (fun i st => st = (m, so, p, (i : Int), μ) ∧ ∀ j, j < i → ¬ w (lG l j) = true) (fun r => r = some (aMet w l l.length, μ)) l.length ?_ ?_ l.length 0 N _ (by omega) (by omega) ⟨rfl, fun j hj => by omega⟩
  · rintro i st hi ⟨rfl, hne⟩
    by_cases c : w (lG l i) = true
    · refine Or.inl ⟨_, rfl, fun k => ?_⟩
      show f_X8_hasOwn_2 N G _ m so p (i : Int) μ = _
      unfold f_X8_hasOwn_2
      rw [h.1, if_pos (by omega), kb2_p (z_isAt8 h hn hi), b01_ite, if_pos ((wv _).mp c).1, kb2_p (z8_1 h hn hi), ht, if_pos ((wv _).mp c).2, aMet_1 c hi]
    · refine Or.inr ⟨_, ⟨rfl, fun j hj => ?_⟩, fun k => ?_⟩
      · by_cases d : j = i
        · subst d; exact c
        · exact hne j (by omega)
      · show f_X8_hasOwn_2 N G _ m so p (i : Int) μ = _
        unfold f_X8_hasOwn_2 f_X8_hasOwn_37
        rw [h.1, if_pos (by omega), kb2_p (z_isAt8 h hn hi), b01_ite]
        by_cases c1 : aAt so p (lG l i) = true
        · rw [if_pos c1, kb2_p (z8_1 h hn hi), ht, if_neg (fun q => c ((wv _).mpr ⟨c1, q⟩)), ckI_p ⟨by omega, by omega⟩, cast1]
        · rw [if_neg c1, ckI_p ⟨by omega, by omega⟩, cast1]
  · rintro st ⟨rfl, hne⟩
    refine ⟨_, rfl, fun k => ?_⟩
    show f_X8_hasOwn_2 N G _ m so p (l.length : Int) μ = _
    unfold f_X8_hasOwn_2
    rw [h.1, if_neg (by omega), aMet_no hne]
theorem sumN_from {f : Nat → Int} {r c : Nat} (h : r < c) : sumN f c - sumN f r = (sumN f c - sumN f (r + 1)) + f r := by show _ = (sumN f c - (sumN f r + f r)) + f r; omega
/-- modes 0 and 2: its own go, from the last on -/
theorem z_takesOwnOff8 (hL : mL G m) (uo : uOk l U L1) (hm : mode = 0 ∨ mode = 2) (hz : 0 ≤ z) (hN : 1000 < N) (ht : gI μ 812 m = t0) (hw : w = oOwn so p t0)
    (h : mR G m μ l (apT T U p0 E W q2 q3 s t0) D tr n B) (h817 : gI μ 817 m = w32 q5) :
    ∃ ν, f_X8_takesOwnOff N G m so p μ = some ν ∧ dRf G m oF oA μ ν ∧ mR G m ν ((vL mode w l z).filter aKp) (apT T (aSw U (vL mode w l z)) p0 E W (q2 + cZ mode w l z l.length) q3 s t0) D tr n B ∧ gI ν 817 m = w32 (q5 + cY mode w l z l.length) := by
  have hl := uo.lo
  have h60 := hl.1
  have wv : ∀ o, w o = true ↔ (aAt so p o = true ∧ o 1 = t0) := fun o => by rw [hw]; exact oOwn_t
  have vy : ∀ i, i < l.length → w (lG l i) = true → bY mode w l z i = lG l i 4 := fun i hi c => by unfold bY; rw [if_pos c, if_neg (by omega), if_pos hm]
  unfold f_X8_takesOwnOff
  rw [h.1.1, ckI_p ⟨by omega, by omega⟩]
  unfold f_X8_takesOwnOff_L9
  refine qLoop_inv
    (fun j st => ∃ mem, st = (m, so, p, (l.length : Int) - 1 - (j : Int), mem) ∧ dRf G m oF oA μ mem ∧ mR G m mem ((szs l (fT mode w l z (l.length - j))).filter aKp) (apT T (aSw U (szs l (fT mode w l z (l.length - j)))) p0 E W (q2 + (cZ mode w l z l.length - cZ mode w l z (l.length - j))) q3 s t0) D tr n B ∧ gI mem 817 m = w32 (q5 + (cY mode w l z l.length - cY mode w l z (l.length - j))))
    (fun r => ∃ ν, r = some ν ∧ dRf G m oF oA μ ν ∧ mR G m ν ((vL mode w l z).filter aKp) (apT T (aSw U (vL mode w l z)) p0 E W (q2 + cZ mode w l z l.length) q3 s t0) D tr n B ∧ gI ν 817 m = w32 (q5 + cY mode w l z l.length))
    l.length ?_ ?_ l.length 0 N _ (by omega) (by omega) ?_
  · rintro j st hj ⟨mem, rfl, hd, hmm, h17⟩
    refine Or.inr ?_
    obtain ⟨r, hr⟩ : ∃ r, r = l.length - 1 - j := ⟨_, rfl⟩
    have hrl : r < l.length := by omega
    have er : l.length - j = r + 1 := by omega
    have er2 : l.length - (j + 1) = r := by omega
    have ki : (l.length : Int) - 1 - (j : Int) = (r : Int) := by omega
    have kn : (l.length : Int) - 1 - ((j + 1 : Nat) : Int) = (r : Int) + (-1) := by omega
    rw [er] at hmm h17
    rw [er2]
    have fr : ∀ i, i ≤ r → fT mode w l z (r + 1) i = lG l i 4 := fun i hi => if_neg (by omega)
    have fbd : ∀ i, i < l.length → 0 ≤ fT mode w l z (r + 1) i ∧ fT mode w l z (r + 1) i ≤ 1000 := by
      intro i hi
      have h1 := vF_bd (mode := mode) (w := w) hz hl hi
      have h2 := (hl.2 i hi).2.2.2.2.1
      unfold fT
      split <;> omega
    have hLs : lOk (szs l (fT mode w l z (r + 1))) := szs_lOk hl fbd
    have szl : (szs l (fT mode w l z (r + 1))).length = l.length := szs_len
    have hq' : r < (szs l (fT mode w l z (r + 1))).length := by rw [szl]; exact hrl
    have kpq : ∀ i, i ≤ r → aKp (lG (szs l (fT mode w l z (r + 1))) i) = true := fun i hi => decide_eq_true (by rw [szs_4 (by omega), fr i hi]; exact uo.pos i (by omega))
    obtain ⟨g1, g2, g3, g4⟩ := flt_gen (p := aKp) hq' (kpq _ (Nat.le_refl _))
    have gl : (((szs l (fT mode w l z (r + 1))).take r).filter aKp).length = r := flt_len (by omega) (fun i hi => kpq i (by omega))
    rw [gl] at g1 g2 g3 g4
    have hF := hLs.flt (p := aKp)
    have ns : ∀ i, i < (szs l (fT mode w l z (r + 1))).length → oNs (lG (szs l (fT mode w l z (r + 1))) i) := fun i hi => (hLs.2 i hi).ns
    have h812 : gI mem 812 m = t0 := by rw [hd.1 _ _ (fun y => by have := y.2; unfold oF at this; omega)]; exact ht
    have at' : aAt so p (lG ((szs l (fT mode w l z (r + 1))).filter aKp) r) = aAt so p (lG l r) := by rw [g2]; unfold aAt; rw [szs_o hrl (by decide), szs_o hrl (by decide)]
    have e1 : lG ((szs l (fT mode w l z (r + 1))).filter aKp) r 1 = lG l r 1 := by rw [g2, szs_o hrl (by decide)]
    have e4 : lG ((szs l (fT mode w l z (r + 1))).filter aKp) r 4 = lG l r 4 := by rw [g2, szs_4 hrl, fr r (Nat.le_refl _)]
    have eset := szs_set (l := l) (f := fT mode w l z (r + 1)) (v := vF mode w l z r) hrl
    have efd : szs l (fun i => if i = r then vF mode w l z r else fT mode w l z (r + 1) i) = szs l (fT mode w l z r) := by
      refine szs_congr (fun i hi => ?_)
      unfold fT
      by_cases c : i = r
      · subst c; rw [if_pos rfl, if_pos (Nat.le_refl _)]
      · rw [if_neg c]
        by_cases d : r + 1 ≤ i
        · rw [if_pos d, if_pos (by omega)]
        · rw [if_neg d, if_neg (by omega)]
    rw [efd] at eset
    have esw := aSw_set (T := U) (v := vF mode w l z r) hq' ns (by rw [szs_4 hrl, fr r (Nat.le_refl _)]; exact uo.pos r hrl)
    rw [eset] at esw
    have cz := sumN_from (f := fun i => if vF mode w l z i = 0 then (1 : Int) else 0) hrl
    have cy := sumN_from (f := bY mode w l z) hrl
    have ecz : cZ mode w l z l.length - cZ mode w l z r = (cZ mode w l z l.length - cZ mode w l z (r + 1)) + if vF mode w l z r = 0 then 1 else 0 := cz
    have ecy : cY mode w l z l.length - cY mode w l z r = (cY mode w l z l.length - cY mode w l z (r + 1)) + bY mode w l z r := cy
    by_cases c : w (lG l r) = true
    · have yv := vy r hrl c
      have vf0 : vF mode w l z r = 0 := by unfold vF; omega
      rw [if_neg (by omega)] at esw
      rw [if_pos vf0] at ecz
      rw [ecz, ecy, yv]
      have a1 := (hmm.fld (f := 817) (a := m) (v := w32 (w32 (q5 + (cY mode w l z l.length - cY mode w l z (r + 1))) + lG l r 4)) (by decide))
      have a2 := a1.T hL (j := 12) (v := w32 (apT T (aSw U (szs l (fT mode w l z (r + 1)))) p0 E W (q2 + (cZ mode w l z l.length - cZ mode w l z (r + 1))) q3 s t0 12 + 1)) (by decide) (by decide) (by decide)
      rw [apT_12s] at a2
      obtain ⟨mem', k1, k2, k3⟩ := z_goes8 (N := N) hL a2 hF hN (i := r) g1
      have eF : ((szs l (fT mode w l z (r + 1))).filter aKp).eraseIdx r = (szs l (fT mode w l z r)).filter aKp := by
        rw [← eset]
        exact g4 _ (by unfold aKp; rw [upd1_s, vf0]; decide)
      rw [eF, g2, aGo_ap (ns r hq'), ← esw] at k3
      refine ⟨_, ⟨mem', rfl, ?_, ?_, ?_⟩, fun kk => ?_⟩
      · exact hd.tr (((dRf.sI (show oF 817 from rfl)).tr (dRf.sA (show oA 800 from rfl))).tr (k2.rfm (show oA 800 from rfl)))
      · rw [← Int.add_assoc q2]; exact k3
      · rw [k2.1, gI_sA, gI_s, w32_l, Int.add_assoc]
      · show f_X8_takesOwnOff_9 N G _ m so p ((l.length : Int) - 1 - (j : Int)) mem = _
        unfold f_X8_takesOwnOff_9 f_X8_takesOwnOff_70
        rw [ki, if_neg (by omega), kb2_p (z_isAt8 hmm.1 hF.1 g1), b01_ite, at', if_pos ((wv _).mp c).1, kb2_p (z8_1 hmm.1 hF.1 g1), e1, h812, if_pos ((wv _).mp c).2, kb2_p (z8_4 hmm.1 hF.1 g1), e4, h17, kp_p, kp_p, a1.2.1 12 (by decide) (by decide), kp_p, kp_p, kb_p k1, ckI_p ⟨by omega, by omega⟩, kn]
    · have yv : bY mode w l z r = 0 := if_neg c
      have vf : vF mode w l z r = lG l r 4 := by unfold vF; omega
      have hp4 := uo.pos r hrl
      rw [if_pos (by omega)] at esw
      rw [if_neg (by omega), Int.add_zero] at ecz
      rw [yv, Int.add_zero] at ecy
      rw [ecz, ecy]
      have e0 : szs l (fT mode w l z r) = szs l (fT mode w l z (r + 1)) := by
        refine szs_congr (fun i hi => ?_)
        unfold fT
        by_cases d : r + 1 ≤ i
        · rw [if_pos d, if_pos (by omega)]
        · rw [if_neg d]
          by_cases d2 : r ≤ i
          · have : i = r := by omega
            subst this
            rw [if_pos d2, vf]
          · rw [if_neg d2]
      rw [e0]
      refine ⟨_, ⟨mem, rfl, hd, hmm, h17⟩, fun kk => ?_⟩
      show f_X8_takesOwnOff_9 N G _ m so p ((l.length : Int) - 1 - (j : Int)) mem = _
      unfold f_X8_takesOwnOff_9 f_X8_takesOwnOff_70
      rw [ki, if_neg (by omega), kb2_p (z_isAt8 hmm.1 hF.1 g1), b01_ite, at']
      by_cases c1 : aAt so p (lG l r) = true
      · rw [if_pos c1, kb2_p (z8_1 hmm.1 hF.1 g1), e1, h812, if_neg (fun y => c ((wv _).mpr ⟨c1, y⟩)), ckI_p ⟨by omega, by omega⟩, kn]
      · rw [if_neg c1, ckI_p ⟨by omega, by omega⟩, kn]
  · rintro st ⟨mem, rfl, hd, hmm, h17⟩
    rw [Nat.sub_self] at hmm h17
    have e0 : szs l (fT mode w l z 0) = vL mode w l z := szs_congr (fun i _ => if_pos (Nat.zero_le _))
    have ez : cZ mode w l z l.length - cZ mode w l z 0 = cZ mode w l z l.length := by show cZ mode w l z l.length - 0 = _; omega
    have ey : cY mode w l z l.length - cY mode w l z 0 = cY mode w l z l.length := by show cY mode w l z l.length - 0 = _; omega
    rw [e0, ez] at hmm
    rw [ey] at h17
    refine ⟨_, ⟨mem, rfl, hd, hmm, h17⟩, fun k => ?_⟩
    show f_X8_takesOwnOff_9 N G _ m so p ((l.length : Int) - 1 - (l.length : Int)) mem = _
    unfold f_X8_takesOwnOff_9
    rw [if_pos (by omega)]
  · have e0 : szs l (fT mode w l z (l.length - 0)) = l := by
      have : szs l (fT mode w l z (l.length - 0)) = szs l (fun i => lG l i 4) := szs_congr (fun i hi => if_neg (by omega))
      rw [this, szs_id]
    refine ⟨μ, by rw [show (l.length : Int) - 1 - ((0 : Nat) : Int) = (l.length : Int) - 1 by omega], dRf.rf, ?_, ?_⟩
    · rw [e0, flt_all (fun i hi => decide_eq_true (uo.pos i hi)), aSw_all uo.pos, Nat.sub_zero, Int.sub_self, Int.add_zero]
      exact h
    · rw [Nat.sub_zero, Int.sub_self, Int.add_zero]; exact h817
/-- with nothing left of who comes in, nothing more is lost -/
theorem bL_0 (hl : lOk l) {i : Nat} (h : bL 3 w l z i = 0) : ∀ e, i + e ≤ l.length → bL 3 w l z (i + e) = 0 ∧ ∀ j, i ≤ j → j < i + e → bY 3 w l z j = 0 := by
  intro e
  induction e with
  | zero => intro _; exact ⟨h, fun j h1 h2 => by omega⟩
  | succ e ih =>
    intro he
    obtain ⟨h1, h2⟩ := ih (by omega)
    have hz4 := (hl.2 (i + e) (by omega)).2.2.2.2.1
    refine ⟨?_, fun j h3 h4 => ?_⟩
    · show (if (3 : Int) = 3 ∧ w (lG l (i + e)) = true then bL 3 w l z (i + e) - min (lG l (i + e) 4) (bL 3 w l z (i + e)) else bL 3 w l z (i + e)) = 0
      rw [h1]
      split <;> omega
    · by_cases c : j = i + e
      · subst c
        unfold bY
        rw [h1, if_pos rfl]
        split <;> omega
      · exact h2 j h3 (by omega)
theorem sumN_eq {f : Nat → Int} {i : Nat} : ∀ e, (∀ j, i ≤ j → j < i + e → f j = 0) → sumN f (i + e) = sumN f i := by
  intro e
  induction e with
  | zero => intro _; rfl
  | succ e ih =>
    intro h
    show sumN f (i + e) + f (i + e) = sumN f i
    rw [ih (fun j h1 h2 => h j h1 (by omega)), h (i + e) (by omega) (by omega), Int.add_zero]
/-- mode 3: both are made less -/
theorem z_makesLess8 (hL : mL G m) (uo : uOk l U L1) (hz : 0 ≤ z ∧ z ≤ 1000) (hN : 1000 < N) (ht : gI μ 812 m = t0) (hw : w = oOwn so p t0)
    (h : mR G m μ l (apT T U p0 E W q2 q3 s t0) D tr n B) (h817 : gI μ 817 m = w32 q5) :
    ∃ ν, f_X8_makesLess N G m so p z μ = some (bL 3 w l z l.length, ν) ∧ dRf G m oF oA μ ν ∧ mR G m ν ((vL 3 w l z).filter aKp) (apT T (aSw U (vL 3 w l z)) p0 E W (q2 + cZ 3 w l z l.length) (q3 + cY 3 w l z l.length) s t0) D tr n B ∧ gI ν 817 m = w32 (q5 + cY 3 w l z l.length) := by
  have hl := uo.lo
  have h60 := hl.1
  have wv : ∀ o, w o = true ↔ (aAt so p o = true ∧ o 1 = t0) := fun o => by rw [hw]; exact oOwn_t
  unfold f_X8_makesLess f_X8_makesLess_L6
  refine qLoop_inv
    (fun i st => ∃ mem, st = (m, so, p, bL 3 w l z i, ((((szs l (pF 3 w l z i)).take i).filter aKp).length : Int), mem) ∧ dRf G m oF oA μ mem ∧ mR G m mem ((szs l (pF 3 w l z i)).filter aKp) (apT T (aSw U (szs l (pF 3 w l z i))) p0 E W (q2 + cZ 3 w l z i) (q3 + cY 3 w l z i) s t0) D tr n B ∧ gI mem 817 m = w32 (q5 + cY 3 w l z i))
    (fun r => ∃ ν, r = some (bL 3 w l z l.length, ν) ∧ dRf G m oF oA μ ν ∧ mR G m ν ((vL 3 w l z).filter aKp) (apT T (aSw U (vL 3 w l z)) p0 E W (q2 + cZ 3 w l z l.length) (q3 + cY 3 w l z l.length) s t0) D tr n B ∧ gI ν 817 m = w32 (q5 + cY 3 w l z l.length))
    l.length ?_ ?_ l.length 0 N _ (by omega) (by omega) ?_
  · rintro i st hi ⟨mem, rfl, hd, hmm, h17⟩
    have bl := bL_bd (mode := 3) (w := w) hz.1 hl i (by omega)
    have fbd : ∀ k j, j < l.length → 0 ≤ pF 3 w l z k j ∧ pF 3 w l z k j ≤ 1000 := by
      intro k j hj
      have h1 := vF_bd (mode := 3) (w := w) hz.1 hl hj
      have h2 := (hl.2 j hj).2.2.2.2.1
      unfold pF
      split <;> omega
    have hLs : lOk (szs l (pF 3 w l z i)) := szs_lOk hl (fbd i)
    have szl : (szs l (pF 3 w l z i)).length = l.length := szs_len
    have hi' : i < (szs l (pF 3 w l z i)).length := by rw [szl]; exact hi
    have fi : pF 3 w l z i i = lG l i 4 := if_neg (by omega)
    have hp4 := uo.pos i hi
    have hz4 := (hl.2 i hi).2.2.2.2.1
    have kpi : aKp (lG (szs l (pF 3 w l z i)) i) = true := decide_eq_true (by rw [szs_4 hi, fi]; exact hp4)
    obtain ⟨g1, g2, g3, g4⟩ := flt_gen (p := aKp) hi' kpi
    have hF := hLs.flt (p := aKp)
    have hF60 := hF.1
    have ns : ∀ j, j < (szs l (pF 3 w l z i)).length → oNs (lG (szs l (pF 3 w l z i)) j) := fun j hj => (hLs.2 j hj).ns
    by_cases b0 : bL 3 w l z i = 0
    · -- it ends
      obtain ⟨y1, y2⟩ := bL_0 (w := w) hl b0 (l.length - i) (by omega)
      have ei : i + (l.length - i) = l.length := by omega
      rw [ei] at y1 y2
      have eL : szs l (pF 3 w l z i) = vL 3 w l z := by
        refine szs_congr (fun j hj => ?_)
        unfold pF
        by_cases d : j < i
        · rw [if_pos d]
        · rw [if_neg d]; unfold vF; rw [y2 j (by omega) hj, Int.sub_zero]
      have ez : cZ 3 w l z l.length = cZ 3 w l z i := by
        have := sumN_eq (f := fun j => if vF 3 w l z j = 0 then (1 : Int) else 0) (i := i) (l.length - i) (fun j h1 h2 => by
          have : vF 3 w l z j = lG l j 4 := by unfold vF; rw [y2 j h1 (by omega), Int.sub_zero]
          have := uo.pos j (by omega)
          show (if vF 3 w l z j = 0 then (1 : Int) else 0) = 0
          rw [if_neg (by omega)])
        rw [ei] at this
        exact this
      have ey : cY 3 w l z l.length = cY 3 w l z i := by
        have := sumN_eq (f := bY 3 w l z) (i := i) (l.length - i) (fun j h1 h2 => y2 j h1 (by omega))
        rw [ei] at this
        exact this
      refine Or.inl ⟨_, ⟨mem, rfl, hd, by rw [← eL, ez, ey]; exact hmm, by rw [ey]; exact h17⟩, fun kk => ?_⟩
      show f_X8_makesLess_6 N G _ m so p (bL 3 w l z i) ((((szs l (pF 3 w l z i)).take i).filter aKp).length : Int) mem = _
      unfold f_X8_makesLess_6
      rw [hmm.1.1, if_pos (by omega), if_neg (by omega), b0, y1]
    · refine Or.inr ?_
      have h812 : gI mem 812 m = t0 := by rw [hd.1 _ _ (fun y => by have := y.2; unfold oF at this; omega)]; exact ht
      generalize hq : (((szs l (pF 3 w l z i)).take i).filter aKp).length = q at *
      have at' : aAt so p (lG ((szs l (pF 3 w l z i)).filter aKp) q) = aAt so p (lG l i) := by rw [g2]; unfold aAt; rw [szs_o hi (by decide), szs_o hi (by decide)]
      have e1 : lG ((szs l (pF 3 w l z i)).filter aKp) q 1 = lG l i 1 := by rw [g2, szs_o hi (by decide)]
      have e4 : lG ((szs l (pF 3 w l z i)).filter aKp) q 4 = lG l i 4 := by rw [g2, szs_4 hi, fi]
      have eset := szs_set (l := l) (f := pF 3 w l z i) (v := vF 3 w l z i) hi
      have efd : szs l (fun j => if j = i then vF 3 w l z i else pF 3 w l z i j) = szs l (pF 3 w l z (i + 1)) := by
        refine szs_congr (fun j hj => ?_)
        unfold pF
        by_cases c : j = i
        · subst c; rw [if_pos rfl, if_pos (by omega)]
        · rw [if_neg c]
          by_cases d : j < i
          · rw [if_pos d, if_pos (by omega)]
          · rw [if_neg d, if_neg (by omega)]
      rw [efd] at eset
      have esw := aSw_set (T := U) (v := vF 3 w l z i) hi' ns (by rw [szs_4 hi, fi]; exact hp4)
      rw [eset] at esw
      -- the place of the next
      have hq1 : (((szs l (pF 3 w l z (i + 1))).take (i + 1)).filter aKp).length = q + if 0 < vF 3 w l z i then 1 else 0 := by
        rw [filter_take aKp _ (by rw [szs_len]; exact hi), List.length_append]
        have et : (szs l (pF 3 w l z (i + 1))).take i = (szs l (pF 3 w l z i)).take i := by
          rw [← eset, List.take_set_of_le (Nat.le_refl _)]
        rw [et, hq]
        congr 1
        have : aKp (lG (szs l (pF 3 w l z (i + 1))) i) = decide (0 < vF 3 w l z i) := by
          unfold aKp
          rw [szs_4 hi]
          unfold pF
          rw [if_pos (by omega)]
        rw [this]
        by_cases c : 0 < vF 3 w l z i
        · rw [if_pos (decide_eq_true c), if_pos c]; rfl
        · rw [if_neg (by simpa using c), if_neg c]; rfl
      by_cases c : w (lG l i) = true
      · have yv : bY 3 w l z i = min (lG l i 4) (bL 3 w l z i) := by unfold bY; rw [if_pos c, if_pos rfl]
        have ebl : bL 3 w l z (i + 1) = bL 3 w l z i - bY 3 w l z i := by rw [yv]; exact if_pos ⟨rfl, c⟩
        have evf : vF 3 w l z i = lG l i 4 - bY 3 w l z i := rfl
        have ecy : cY 3 w l z (i + 1) = cY 3 w l z i + bY 3 w l z i := rfl
        have ecz : cZ 3 w l z (i + 1) = cZ 3 w l z i + if vF 3 w l z i = 0 then 1 else 0 := rfl
        have a1 := hmm.fld (f := 817) (a := m) (v := w32 (w32 (q5 + cY 3 w l z i) + bY 3 w l z i)) (by decide)
        have a2 := a1.T hL (j := 13) (v := w32 (apT T (aSw U (szs l (pF 3 w l z i))) p0 E W (q2 + cZ 3 w l z i) (q3 + cY 3 w l z i) s t0 13 + bY 3 w l z i)) (by decide) (by decide) (by decide)
        rw [apT_13s] at a2
        have a3 := a2.size hL hF.1 g1 (w := 4) (v := vF 3 w l z i) (by decide)
        have dd : dRf G m oF oA mem (sA (sA (sI mem 817 m (w32 (w32 (q5 + cY 3 w l z i) + bY 3 w l z i))) (gR G 800 m) 13 (w32 (apT T (aSw U (szs l (pF 3 w l z i))) p0 E W (q2 + cZ 3 w l z i) (q3 + cY 3 w l z i) s t0 13 + bY 3 w l z i))) (gR G 800 m) (24 + 6 * q + 4) (vF 3 w l z i)) :=
          ((dRf.sI (show oF 817 from rfl)).tr (dRf.sA (show oA 800 from rfl))).tr (dRf.sA (show oA 800 from rfl))
        have mid : ∀ kk, f_X8_makesLess_6 N G kk m so p (bL 3 w l z i) (q : Int) mem = f_X8_makesLess_77 N G kk m so p (bL 3 w l z i) (q : Int) (bY 3 w l z i) mem := by
          intro kk
          unfold f_X8_makesLess_6
          rw [hmm.1.1, if_pos (by omega), if_pos (by omega), kb2_p (z_isAt8 hmm.1 hF.1 g1), b01_ite, at', if_pos ((wv _).mp c).1, kb2_p (z8_1 hmm.1 hF.1 g1), e1, h812, if_pos ((wv _).mp c).2, kb2_p (z8_4 hmm.1 hF.1 g1), e4]
          by_cases d : lG l i 4 < bL 3 w l z i
          · rw [if_pos d, kb2_p (z8_4 hmm.1 hF.1 g1), e4, yv, Int.min_eq_left (by omega)]
          · rw [if_neg d, yv, Int.min_eq_right (by omega)]
        have s4 : lG (((szs l (pF 3 w l z i)).filter aKp).set q (upd1 (lG ((szs l (pF 3 w l z i)).filter aKp) q) 4 (vF 3 w l z i))) q 4 = vF 3 w l z i := by rw [lG_set g1, if_pos rfl, upd1_s]
        have hl3 : lOk (((szs l (pF 3 w l z i)).filter aKp).set q (upd1 (lG ((szs l (pF 3 w l z i)).filter aKp) q) 4 (vF 3 w l z i))) := hF.set g1 (by omega)
        have g1' : q < (((szs l (pF 3 w l z i)).filter aKp).set q (upd1 (lG ((szs l (pF 3 w l z i)).filter aKp) q) 4 (vF 3 w l z i))).length := by rw [List.length_set]; exact g1
        have tl : ∀ kk, f_X8_makesLess_77 N G kk m so p (bL 3 w l z i) (q : Int) (bY 3 w l z i) mem = (if vF 3 w l z i = 0 then (
            kp (w32 ((gA (sA (sA (sI mem 817 m (w32 (w32 (q5 + cY 3 w l z i) + bY 3 w l z i))) (gR G 800 m) 13 (w32 (apT T (aSw U (szs l (pF 3 w l z i))) p0 E W (q2 + cZ 3 w l z i) (q3 + cY 3 w l z i) s t0 13 + bY 3 w l z i))) (gR G 800 m) (24 + 6 * q + 4) (vF 3 w l z i)) (gR G 800 m) 12) + 1)) fun v15 =>
            kp (sA (sA (sA (sI mem 817 m (w32 (w32 (q5 + cY 3 w l z i) + bY 3 w l z i))) (gR G 800 m) 13 (w32 (apT T (aSw U (szs l (pF 3 w l z i))) p0 E W (q2 + cZ 3 w l z i) (q3 + cY 3 w l z i) s t0 13 + bY 3 w l z i))) (gR G 800 m) (24 + 6 * q + 4) (vF 3 w l z i)) (gR G 800 m) 12 v15) fun m16 =>
            kb (f_X8_goes N G m (q : Int) m16) fun m17 => f_X8_makesLess_159 N G kk m so p (bL 3 w l z (i + 1)) (q : Int) m17) else (ckI ((q : Int) + 1) fun v14 => f_X8_makesLess_159 N G kk m so p (bL 3 w l z (i + 1)) v14 (sA (sA (sI mem 817 m (w32 (w32 (q5 + cY 3 w l z i) + bY 3 w l z i))) (gR G 800 m) 13 (w32 (apT T (aSw U (szs l (pF 3 w l z i))) p0 E W (q2 + cZ 3 w l z i) (q3 + cY 3 w l z i) s t0 13 + bY 3 w l z i))) (gR G 800 m) (24 + 6 * q + 4) (vF 3 w l z i)))) := by
          intro kk
          unfold f_X8_makesLess_77
          have hv4 := z8_4 (N := N) a2.1 hF.1 g1
          have hv4' := z8_4 (N := N) a3.1 hl3.1 g1'
          rw [s4] at hv4'
          rw [e4] at hv4
          have e2 : 24 + 6 * ((q : Nat) : Int).toNat + (4 : Int).toNat = 24 + 6 * q + 4 := by omega
          rw [ckI_p ⟨by omega, by omega⟩, h17, kp_p, kp_p, a1.2.1 13 (by decide) (by decide), kp_p, kp_p, kb2_p hv4, ckI_p ⟨by omega, by omega⟩, kb_p (z_setOrder8 ⟨by omega, by omega⟩ ⟨by decide, by decide⟩), e2, ← evf, kb2_p hv4', ← ebl]
        rw [ebl, ecy, ecz, hq1]
        by_cases v0 : vF 3 w l z i = 0
        · rw [if_pos v0, if_neg (by omega)]
          rw [if_neg (by omega)] at esw
          have a4 := a3.T hL (j := 12) (v := w32 (apT T (aSw U (szs l (pF 3 w l z i))) p0 E W (q2 + cZ 3 w l z i) (q3 + cY 3 w l z i + bY 3 w l z i) s t0 12 + 1)) (by decide) (by decide) (by decide)
          rw [apT_12s] at a4
          obtain ⟨mem', k1, k2, k3⟩ := z_goes8 (N := N) hL a4 hl3 hN (i := q) g1'
          have eF : (((szs l (pF 3 w l z i)).filter aKp).set q (upd1 (lG ((szs l (pF 3 w l z i)).filter aKp) q) 4 (vF 3 w l z i))).eraseIdx q = (szs l (pF 3 w l z (i + 1))).filter aKp := by
            rw [era_set, ← eset]
            exact g4 _ (by unfold aKp; rw [upd1_s, v0]; decide)
          rw [eF, lG_set g1, if_pos rfl, aGo_4, g2, aGo_ap (ns i hi'), ← esw, Int.add_assoc q2, Int.add_assoc q3] at k3
          refine ⟨_, ⟨mem', rfl, ?_, k3, ?_⟩, fun kk => ?_⟩
          · exact hd.tr ((dd.tr (dRf.sA (show oA 800 from rfl))).tr (k2.rfm (show oA 800 from rfl)))
          · rw [k2.1, gI_sA, gI_sA, gI_sA, gI_s, w32_l, Int.add_assoc]
          · show f_X8_makesLess_6 N G _ m so p (bL 3 w l z i) (q : Int) mem = _
            rw [mid, tl, if_pos v0, a3.2.1 12 (by decide) (by decide), kp_p, kp_p, kb_p k1]
            unfold f_X8_makesLess_159
            rw [ebl, Nat.add_zero]
        · have vp : 0 < vF 3 w l z i := by omega
          rw [if_neg v0, if_pos vp, Int.add_zero]
          rw [if_pos vp] at esw
          have eF : ((szs l (pF 3 w l z i)).filter aKp).set q (upd1 (lG ((szs l (pF 3 w l z i)).filter aKp) q) 4 (vF 3 w l z i)) = (szs l (pF 3 w l z (i + 1))).filter aKp := by
            rw [← eset, g2]
            exact g3 _ (decide_eq_true (by rw [upd1_s]; exact vp))
          rw [eF, ← esw, Int.add_assoc q3] at a3
          refine ⟨_, ⟨_, rfl, hd.tr dd, a3, ?_⟩, fun kk => ?_⟩
          · rw [gI_sA, gI_sA, gI_s, w32_l, Int.add_assoc]
          · show f_X8_makesLess_6 N G _ m so p (bL 3 w l z i) (q : Int) mem = _
            rw [mid, tl, if_neg v0, ckI_p ⟨by omega, by omega⟩]
            unfold f_X8_makesLess_159
            rw [ebl, cast1]
      · have yv : bY 3 w l z i = 0 := if_neg c
        have evf : vF 3 w l z i = lG l i 4 := by unfold vF; omega
        have ebl : bL 3 w l z (i + 1) = bL 3 w l z i := if_neg (fun y => c y.2)
        have ecy : cY 3 w l z (i + 1) = cY 3 w l z i := by show cY 3 w l z i + bY 3 w l z i = _; omega
        have ecz : cZ 3 w l z (i + 1) = cZ 3 w l z i := by show cZ 3 w l z i + (if vF 3 w l z i = 0 then 1 else 0) = _; rw [if_neg (by omega), Int.add_zero]
        rw [if_pos (by omega)] at esw
        have e0 : szs l (pF 3 w l z (i + 1)) = szs l (pF 3 w l z i) := by
          refine szs_congr (fun j hj => ?_)
          unfold pF
          by_cases d : j < i
          · rw [if_pos d, if_pos (by omega)]
          · rw [if_neg d]
            by_cases d2 : j < i + 1
            · have : j = i := by omega
              subst this
              rw [if_pos d2, evf]
            · rw [if_neg d2]
        rw [hq1, if_pos (by omega), ebl, ecy, ecz, e0]
        refine ⟨_, ⟨mem, rfl, hd, hmm, h17⟩, fun kk => ?_⟩
        show f_X8_makesLess_6 N G _ m so p (bL 3 w l z i) (q : Int) mem = _
        unfold f_X8_makesLess_6 f_X8_makesLess_47
        rw [hmm.1.1, if_pos (by omega), if_pos (by omega), kb2_p (z_isAt8 hmm.1 hF.1 g1), b01_ite, at']
        by_cases c1 : aAt so p (lG l i) = true
        · rw [if_pos c1, kb2_p (z8_1 hmm.1 hF.1 g1), e1, h812, if_neg (fun y => c ((wv _).mpr ⟨c1, y⟩)), ckI_p ⟨by omega, by omega⟩, cast1]
        · rw [if_neg c1, ckI_p ⟨by omega, by omega⟩, cast1]
  · rintro st ⟨mem, rfl, hd, hmm, h17⟩
    have e0 : szs l (pF 3 w l z l.length) = vL 3 w l z := szs_congr (fun j hj => if_pos hj)
    have et : (szs l (pF 3 w l z l.length)).take l.length = szs l (pF 3 w l z l.length) := by
      have : (szs l (pF 3 w l z l.length)).length = l.length := szs_len
      exact List.take_of_length_le (by omega)
    refine ⟨_, ⟨mem, rfl, hd, by rw [← e0]; exact hmm, h17⟩, fun k => ?_⟩
    show f_X8_makesLess_6 N G _ m so p (bL 3 w l z l.length) ((((szs l (pF 3 w l z l.length)).take l.length).filter aKp).length : Int) mem = _
    unfold f_X8_makesLess_6
    rw [hmm.1.1, et, if_neg (by omega)]
  · have e0 : szs l (pF 3 w l z 0) = l := by
      have : szs l (pF 3 w l z 0) = szs l (fun i => lG l i 4) := szs_congr (fun i hi => if_neg (by omega))
      rw [this, szs_id]
    refine ⟨μ, rfl, dRf.rf, ?_, ?_⟩
    · rw [e0, flt_all (fun i hi => decide_eq_true (uo.pos i hi)), aSw_all uo.pos]
      show mR G m μ l (apT T U p0 E W (q2 + 0) (q3 + 0) s t0) D tr n B
      rw [Int.add_zero, Int.add_zero]; exact h
    · show gI μ 817 m = w32 (q5 + 0)
      rw [Int.add_zero]; exact h817
end PREV8
