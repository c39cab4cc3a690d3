/-! PURE: 'takeFor' of both, from the market -/
section TK
variable {N : Nat} {G : qG} {ρ : Nat → Nat × Nat} {x m : Nat} {μ ν : qM} {l : List (Nat → Int)} {T D : Nat → Int} {tr : Nat → Nat → Int} {n : Nat} {B : Nat → Int}
def aTakeOk (l : List (Nat → Int)) (T : Nat → Int) (k w v : Int) : Prop :=
  (aPlace k l = none → v = -1) ∧ ∀ i, aPlace k l = some i → (aIn w 0 1 = true → tfLeast (jS l (aJ (lG l i 2) (lG l i 3) l l.length)) (jGr T l (aJ (lG l i 2) (lG l i 3) l l.length)) (T 1) (aJ (lG l i 2) (lG l i 3) l l.length).length (aJ (lG l i 2) (lG l i 3) l i).length (if w = 0 then 1 else lG l i 4) v) ∧ (¬ aIn w 0 1 = true → v = -1)
theorem aTakeOk.uq {k w v v' : Int} (h1 : aTakeOk l T k w v) (h2 : aTakeOk l T k w v') : v = v' := by
  cases hp : aPlace k l with
  | none => rw [h1.1 hp, h2.1 hp]
  | some i =>
    by_cases c : aIn w 0 1 = true
    · exact ((h1.2 i hp).1 c).uq ((h2.2 i hp).1 c)
    · rw [(h1.2 i hp).2 c, (h2.2 i hp).2 c]
theorem jTf (ho : mOk l T) {i : Nat} (hi : i < l.length) {W : Int} (hW : W = 1 ∨ W = lG l i 4) : tfIn (jS l (aJ (lG l i 2) (lG l i 3) l l.length)) (jGr T l (aJ (lG l i 2) (lG l i 3) l l.length)) (T 1) (aJ (lG l i 2) (lG l i 3) l l.length).length (aJ (lG l i 2) (lG l i 3) l i).length W := by
  have hl := ho.lo
  have h60 := hl.1
  obtain ⟨r1, r2⟩ := aJ_rk (s := lG l i 2) (p := lG l i 3) (l := l) hi aAt_self
  have hb := aS_bd (w := wZ (lG l i 2) (lG l i 3)) (wZ_bd hl)
  have hS : jS l (aJ (lG l i 2) (lG l i 3) l l.length) (aJ (lG l i 2) (lG l i 3) l i).length = lG l i 4 := by unfold jS; rw [r2]
  refine ⟨jOk ho ⟨by decide, by decide⟩ l.length (Nat.le_refl _), by rw [sumZ]; omega, r1, by rw [hS]; exact ho.pos i hi, by rw [hS]; exact hW, fun j hj h1 h2 => ?_⟩
  have hat := (aAt_e (aJ_in l.length j hj).2).1
  have hjl := (aJ_in (s := lG l i 2) (p := lG l i 3) (l := l) l.length j hj).1
  unfold jGr oGr at h1 h2
  rw [r2] at h1
  rw [hat] at h2
  refine aJ_inj hj r1 ?_
  rw [r2]
  refine ho.inc.inj hjl hi ?_
  by_cases q1 : T (6 + (lG l i 2).toNat) = lG l i 0
  · by_cases q2 : T (6 + (lG l i 2).toNat) = lG l (jG (aJ (lG l i 2) (lG l i 3) l l.length) j) 0
    · rw [← q1, ← q2]
    · rw [if_neg q2] at h2; omega
  · rw [if_neg q1] at h1; omega
theorem z_takeFor7 (hy : cLY G ρ x) (h : cR G ρ x μ l T D tr n B) (ho : mOk l T) (hN : 100000 < N) (k w : Int) : ∃ v ν, f_X7_takeFor N G x k w μ = some (v, ν) ∧ cR G ρ x ν l T D tr n B ∧ aTakeOk l T k w v := by
  obtain ⟨A, V, nx, hf⟩ := h.1
  have hl := ho.lo
  have h60 := hl.1
  unfold f_X7_takeFor
  rw [kb2_p (z_find0 hf.1 hl.1 (by omega))]
  cases hp : aPlace k l with
  | none => exact ⟨-1, μ, rfl, h, ⟨fun _ => rfl, fun i hi => (by rw [hp] at hi; cases hi)⟩⟩
  | some i =>
    obtain ⟨-, hi, -, -⟩ := aPl_some hp
    rw [Nat.zero_add] at hi
    obtain ⟨μ1, e1, e2, e3, e4, e5⟩ := z_load5 (N := N) hy.1 hf hl (by omega) (lG l i 2) (lG l i 3)
    have f2 : gI μ 402 (A i) = lG l i 2 := z_f0 hf.1 hi 2 (by decide)
    have f3 : gI μ 403 (A i) = lG l i 3 := z_f0 hf.1 hi 3 (by decide)
    have hf1 := hf.frm hy.1 h60 e2 pSh_mk
    have f4 : gI μ1 404 (A i) = lG l i 4 := z_f0 hf1.1 hi 4 (by decide)
    show ∃ v ν, (if w < 0 then some ((-1 : Int), μ) else if 1 < w then some (-1, μ) else kb (f_X5_load N G (gR G 202 (gR G 700 x)) (gR G 200 (gR G 700 x)) (gI μ 402 (A i)) (gI μ 403 (A i)) μ) fun m6 => if w = 0 then f_X7_takeFor_72 N G x (gR G 202 (gR G 700 x)) (A i) 1 m6 else f_X7_takeFor_72 N G x (gR G 202 (gR G 700 x)) (A i) (gI m6 404 (A i)) m6) = some (v, ν) ∧ cR G ρ x ν l T D tr n B ∧ aTakeOk l T k w v
    have no : ¬ aIn w 0 1 = true → aTakeOk l T k w (-1) := fun q => ⟨fun _ => rfl, fun j hj => ⟨fun q' => absurd q' q, fun _ => rfl⟩⟩
    by_cases c1 : 0 ≤ w ∧ w ≤ 1
    · rw [if_neg (by omega), if_neg (by omega), f2, f3, kb_p e1, f4]
      obtain ⟨r1, r2⟩ := aJ_rk (s := lG l i 2) (p := lG l i 3) (l := l) hi aAt_self
      have both : ∀ W, (W = 1 ∨ W = lG l i 4) → W = (if w = 0 then 1 else lG l i 4) → ∃ v ν, f_X7_takeFor_72 N G x (gR G 202 (gR G 700 x)) (A i) W μ1 = some (v, ν) ∧ cR G ρ x ν l T D tr n B ∧ aTakeOk l T k w v := by
        intro W hW hw
        have hO : ∀ j, j < (aJ (lG l i 2) (lG l i 3) l l.length).length → gK G (A (jG (aJ (lG l i 2) (lG l i 3) l l.length) j)) = 5 ∧ (A (jG (aJ (lG l i 2) (lG l i 3) l l.length) j) = A i ↔ j = (aJ (lG l i 2) (lG l i 3) l i).length) := by
          intro j hj
          have hjl := (aJ_in (s := lG l i 2) (p := lG l i 3) (l := l) l.length j hj).1
          refine ⟨(hf.1.2.1 _ (by omega)).2, fun e => ?_, fun e => ?_⟩
          · have := hf.1.2.2.1 _ _ (by omega) (by omega) e
            exact aJ_inj hj r1 (by rw [r2]; exact this)
          · rw [e, r2]
        obtain ⟨v, μ2, d1, d2, d3⟩ := z_least5 (N := N) (μ := μ1) (O := fun k => A (jG (aJ (lG l i 2) (lG l i 3) l l.length) k)) (o := A i) hy.1 (jTf ho hi hW) e3 e4 e5 hO hN
        · unfold f_X7_takeFor_72
          rw [hf1.2.2.2.1.2.1, kb2_p d1]
          refine ⟨v, μ2, rfl, h.flo hy ((e2.tr d2).role pSh_1) ⟨A, V, nx, hf1.frm hy.1 h60 d2 pSh_mk⟩, ⟨fun q => (by rw [hp] at q; cases q), fun j hj => ?_⟩⟩
          rw [hp] at hj
          cases hj
          exact ⟨fun _ => by rw [← hw]; exact d3, fun q => absurd (decide_eq_true c1) q⟩
      by_cases c2 : w = 0
      · rw [if_pos c2]
        exact both 1 (Or.inl rfl) (by rw [if_pos c2])
      · rw [if_neg c2]
        exact both _ (Or.inr rfl) (by rw [if_neg c2])
    · refine ⟨-1, μ, ?_, h, no (fun q => c1 (of_decide_eq_true q))⟩
      by_cases d : w < 0
      · rw [if_pos d]
      · rw [if_neg d, if_pos (by omega)]
theorem z_takeFor8 (hL : mL G m) (h : mR G m μ l T D tr n B) (ho : mOk l T) (hN : 100000 < N) (k w : Int) : ∃ v ν, f_X8_takeFor N G m k w μ = some (v, ν) ∧ mR G m ν l T D tr n B ∧ aTakeOk l T k w v := by
  have hl := ho.lo
  have h60 := hl.1
  have h1 := h.fld (f := 804) (a := m) (v := 0) (by decide)
  obtain ⟨a1, a2⟩ := z_laysFor8 (N := N) hL h1 h60 (by omega) k
  unfold f_X8_takeFor
  rw [kp_p]
  cases hp : aPlace k l with
  | none => rw [kb2_p (a1 hp), if_pos (by decide)]; exact ⟨_, _, rfl, h1, ⟨fun _ => rfl, fun i hi => (by rw [hp] at hi; cases hi)⟩⟩
  | some i =>
    obtain ⟨-, hi, -, -⟩ := aPl_some hp
    rw [Nat.zero_add] at hi
    obtain ⟨μ1, e1, e2, e3⟩ := a2 i hp
    have h2 := h1.frm hL e2
    have hs := (hl.2 i hi).2.2.1
    obtain ⟨r1, r2⟩ := aJ_rk (s := lG l i 2) (p := lG l i 3) (l := l) hi aAt_self
    have hc := aJ_len (s := lG l i 2) (p := lG l i 3) (l := l) l.length
    rw [kb2_p e1, if_neg (by omega), kb2_p z_within8, b01_ite]
    by_cases c1 : aIn w 0 1 = true
    · have hw : 0 ≤ w ∧ w ≤ 1 := of_decide_eq_true c1
      have hin := jTf ho hi (W := if w = 0 then 1 else lG l i 4) (by split <;> simp)
      obtain ⟨t, t1, t2, t3, -, -⟩ := z_topLaid8 (N := N) h2 hl ho.inc (by omega) hs e3
      rw [if_pos c1, kb2_p (z_sideOf8 h2.1 h60 (by omega) hp), kb2_p t1, kb2_p (z_laidInAll8 e3.1 (fun k hk => (e3.2 k hk).2) hin.1.2.1 (by omega) (by omega))]
      have hall := hin.all
      have hS : jS l (aJ (lG l i 2) (lG l i 3) l l.length) (aJ (lG l i 2) (lG l i 3) l i).length = lG l i 4 := by unfold jS; rw [r2]
      -- what is to be shown
      suffices hh : ∃ v ν, f_X8_takeFor_L51 N G m w ((aJ (lG l i 2) (lG l i 3) l i).length : Int) (lG l i 2) t (sumN (jS l (aJ (lG l i 2) (lG l i 3) l l.length)) (aJ (lG l i 2) (lG l i 3) l l.length).length) 1 μ1 = some (v, ν) ∧ mR G m ν l T D tr n B ∧ tfLeast (jS l (aJ (lG l i 2) (lG l i 3) l l.length)) (jGr T l (aJ (lG l i 2) (lG l i 3) l l.length)) (T 1) (aJ (lG l i 2) (lG l i 3) l l.length).length (aJ (lG l i 2) (lG l i 3) l i).length (if w = 0 then 1 else lG l i 4) v by
        obtain ⟨v, ν, b1, b2, b3⟩ := hh
        refine ⟨v, ν, b1, b2, ⟨fun q => (by rw [hp] at q; cases q), fun j hj => ?_⟩⟩
        rw [hp] at hj
        cases hj
        exact ⟨fun _ => b3, fun q => absurd c1 q⟩
      have hgr := topBd ho hs
      rw [← hS] at hin hall ⊢
      clear hS
      generalize (aJ (lG l i 2) (lG l i 3) l i).length = r at *
      generalize aJ (lG l i 2) (lG l i 3) l l.length = J at *
      generalize hS : jS l J = S at *
      generalize hg : jGr T l J = g at *
      have bsum := hin.2.1
      have stp : ∀ j mem, j < (sumN S J.length).toNat → mR G m mem l T D tr n B → mHas G m mem l J → ∃ mem', mR G m mem' l T D tr n B ∧ mHas G m mem' l J ∧ ∀ kk, f_X8_takeFor_51 N G kk m w (r : Int) (lG l i 2) t (sumN S J.length) ((j + 1 : Nat) : Int) mem = if (if w = 0 then 1 else S r) ≤ tHas S g ((j + 1 : Nat) : Int) (T 1) J.length r then some (((j + 1 : Nat) : Int), mem') else kk m w (r : Int) (lG l i 2) t (sumN S J.length) ((j + 1 + 1 : Nat) : Int) mem' := by
        intro j mem hj hm hh
        have oo := hin.ok (K := ((j + 1 : Nat) : Int)) ⟨by omega, by omega⟩
        obtain ⟨mem', d1, d2, d3⟩ := z_shr8 (N := N) (S := S) (g := g) hL hm hh.1 (fun k hk => by rw [(hh.2 k hk).2, hS]) t2 hgr t3 oo (by omega)
        have m8 := d2.m8 hL
        obtain ⟨v1, v2, v3⟩ := d3 _ r1
        have hh' := hh.frm (d2.1 805 m) m8.1 m8.2
        refine ⟨mem', hm.frm hL d2.rfm, hh', fun kk => ?_⟩
        have hle := (sh_leK oo (by omega) r1).2.2
        have eh := z_has8 (N := N) (G := G) (m := m) (μ := mem') (k := r) (by omega) v1 v2 v3 (jABC_bd oo _ r1)
        unfold f_X8_takeFor_51
        rw [if_neg (by omega), ckI_p ⟨by omega, by omega⟩, rdA_p ⟨by omega, by omega⟩, hm.x (j := 8 + (lG l i 2).toNat) (by omega) (by omega) (by omega), kb_p d1, kb2_p eh, kb2_p eh, rdA_p ⟨by omega, by omega⟩, Int.toNat_natCast, (hh'.2 r r1).2, hS]
        unfold f_X8_takeFor_108
        have e1' : ((j + 1 + 1 : Nat) : Int) = ((j + 1 : Nat) : Int) + 1 := by omega
        have e2' : tHas S g ((j + 1 : Nat) : Int) (T 1) J.length r = shA S g ((j + 1 : Nat) : Int) r + shB S g ((j + 1 : Nat) : Int) (T 1) J.length r + shC S g ((j + 1 : Nat) : Int) (T 1) J.length r := rfl
        rw [ckI_p ⟨by omega, by omega⟩, ← e1', ← e2']
        rw [← e2'] at hle
        by_cases q : w = 0
        · rw [if_pos q, if_pos q]
          by_cases q2 : 0 < tHas S g ((j + 1 : Nat) : Int) (T 1) J.length r
          · rw [if_pos q2, if_pos (by omega)]
          · rw [if_neg q2, if_neg (by omega)]
        · rw [if_neg q, if_neg q]
          by_cases q2 : tHas S g ((j + 1 : Nat) : Int) (T 1) J.length r = S r
          · rw [if_pos q2, if_pos (by omega)]
          · rw [if_neg q2, if_neg (by omega)]
      unfold f_X8_takeFor_L51
      refine qLoop_inv
        (fun j st => ∃ mem, st = (m, w, (r : Int), lG l i 2, t, sumN S J.length, ((j + 1 : Nat) : Int), mem) ∧ mR G m mem l T D tr n B ∧ mHas G m mem l J ∧ ∀ K, 1 ≤ K → K < ((j + 1 : Nat) : Int) → tHas S g K (T 1) J.length r < (if w = 0 then 1 else S r))
        (fun res => ∃ v ν, res = some (v, ν) ∧ mR G m ν l T D tr n B ∧ tfLeast S g (T 1) J.length r (if w = 0 then 1 else S r) v) ((sumN S J.length).toNat - 1) ?_ ?_ ((sumN S J.length).toNat - 1) 0 N _ (by omega) (by omega) ?_
      · rintro j st hj ⟨mem, rfl, b1, b2, b3⟩
        obtain ⟨mem', c2, c3, c4⟩ := stp j mem (by omega) b1 b2
        by_cases q : (if w = 0 then 1 else S r) ≤ tHas S g ((j + 1 : Nat) : Int) (T 1) J.length r
        · exact Or.inl ⟨_, ⟨((j + 1 : Nat) : Int), mem', rfl, c2, by omega, by omega, q, b3⟩, fun kk => (c4 _).trans (if_pos q)⟩
        · refine Or.inr ⟨_, ⟨mem', rfl, c2, c3, fun K k1 k2 => ?_⟩, fun kk => (c4 _).trans (if_neg q)⟩
          by_cases q3 : K < ((j + 1 : Nat) : Int)
          · exact b3 K k1 q3
          · have : K = ((j + 1 : Nat) : Int) := by omega
            rw [this]; omega
      · rintro st ⟨mem, rfl, b1, b2, b3⟩
        obtain ⟨mem', c2, c3, c4⟩ := stp ((sumN S J.length).toNat - 1) mem (by omega) b1 b2
        have eK : ((((sumN S J.length).toNat - 1) + 1 : Nat) : Int) = sumN S J.length := by omega
        rw [eK] at c4 b3
        have q := hall.2.2
        exact ⟨_, ⟨sumN S J.length, mem', rfl, c2, hall.1, Int.le_refl _, q, b3⟩, fun kk => by
          show f_X8_takeFor_51 N G _ m w (r : Int) (lG l i 2) t (sumN S J.length) ((((sumN S J.length).toNat - 1) + 1 : Nat) : Int) mem = _
          rw [eK]
          exact (c4 _).trans (if_pos q)⟩
      · exact ⟨μ1, rfl, h2, e3, fun K k1 k2 => by omega⟩
    · rw [if_neg c1]
      refine ⟨_, _, rfl, h2, ⟨fun _ => rfl, fun j hj => ⟨fun q => absurd q c1, fun _ => rfl⟩⟩⟩
end TK
