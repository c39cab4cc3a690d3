/-! PURE: the class trades row by row -/
/-- what the sharing names: the orders, and lots at a -/
def rowsAt (G : qG) (h a : Nat) (μ : qM) (A : Nat → Nat) (J : List Nat) (v : Nat → Int) : Prop :=
  gI μ 506 h = (J.length : Int) ∧ ∀ k, k < J.length → gQ μ (gR G 500 h) k = some (A (jG J k)) ∧ gA μ a k = v k
section TROWS
variable {N : Nat} {G : qG} {ρ : Nat → Nat × Nat} {f : Nat} {A V : Nat → Nat} {nx : Nat} {μ ν : qM} {l : List (Nat → Int)} {T U D : Nat → Int} {tr : Nat → Nat → Int} {E : List (Nat → Int)} {p0 W Y q2 q3 s t0 : Int}
theorem dP.sh {G : qG} {a : Nat} {J : List Nat} {v : Nat → Int} (hy : cLay G ρ f) (h : rowsAt G (gR G 202 f) a μ A J v) {k : Nat} (ha : ρ a = (f, k)) (hk : 500 ≤ k ∧ k ≤ 505) (hd : dP ρ (pTr f) μ ν) : rowsAt G (gR G 202 f) a ν A J v := by
  have r0 : ¬ pTr f (ρ (gR G 202 f)) := by rw [show ρ (gR G 202 f) = (f, 202) from hy 202 (by decide)]; exact pTr_not (by omega)
  have r1 : ¬ pTr f (ρ (gR G 500 (gR G 202 f))) := by rw [show ρ (gR G 500 (gR G 202 f)) = (f, 500) from hy 500 (by decide)]; exact pTr_not (by omega)
  have ra : ¬ pTr f (ρ a) := by rw [ha]; exact pTr_not (by omega)
  exact ⟨by rw [hd.1 _ _ r0]; exact h.1, fun k hk => by rw [hd.2.2 _ _ r1, hd.2.1 _ _ ra]; exact h.2 k hk⟩
theorem z_tradeRows (hy : cLay G ρ f) (hl : lOk l) {J : List Nat} (hJ : J.length ≤ 60) (hJl : ∀ k, k < J.length → jG J k < l.length) (hinj : ∀ j k, j < J.length → k < J.length → jG J j = jG J k → j = k) {a la : Nat} (ha : ρ a = (f, la)) (hla : 500 ≤ la ∧ la ≤ 505)
    {v : Nat → Int} {f0 : Nat → Int} (hf0 : ∀ i, i < l.length → 0 ≤ f0 i ∧ f0 i ≤ 1000) (hv : ∀ k, k < J.length → 0 ≤ v k ∧ v k ≤ f0 (jG J k)) (hr : rowsAt G (gR G 202 f) a μ A J v) (h10 : 0 ≤ T 10 ∧ T 10 ≤ 60) {came p kind : Int} (hp : 0 ≤ p ∧ p ≤ 9999999)
    {so q : Nat} (hso : kind = 0 → so < 2 ∧ (∀ k, k < J.length → lG l (jG J k) 2 = (so : Int)) ∧ (∀ k, k < J.length → k ≠ q → v k = 0) ∧ (∀ k, k < J.length → 0 < v k → v k ≤ U (8 + so) ∧ U (8 + so) ≤ 1000) ∧ (q < J.length → U (8 + so) ≠ 0))
    (h : cFlx G ρ f A V nx μ (szs l f0) (apT T U p0 E W q2 q3 s t0) (apD D E Y s t0) (apTr tr E)) (hN : 100 < N) :
    ∃ ν nx', f_X2_tradeRows N G f a came p kind μ = some ν ∧ dP ρ (pTr f) μ ν ∧ cFlx G ρ f A V nx' ν (szs l (fD J v f0 J.length)) (apT T (if kind = 0 ∧ q < J.length then uG U so (v q) else U) (gP p v p0 J.length) (gE l J came p v kind E J.length) W q2 q3 s t0) (apD D (gE l J came p v kind E J.length) Y s t0) (apTr tr (gE l J came p v kind E J.length)) := by
  have h60 := hl.1
  unfold f_X2_tradeRows f_X2_tradeRows_L3
  refine qLoop_inv
    (fun k st => ∃ mem nx', st = (f, a, came, p, kind, (k : Int), mem) ∧ dP ρ (pTr f) μ mem ∧ cFlx G ρ f A V nx' mem (szs l (fD J v f0 k)) (apT T (if kind = 0 ∧ q < k then uG U so (v q) else U) (gP p v p0 k) (gE l J came p v kind E k) W q2 q3 s t0) (apD D (gE l J came p v kind E k) Y s t0) (apTr tr (gE l J came p v kind E k)))
    (fun r => ∃ ν nx', r = some ν ∧ dP ρ (pTr f) μ ν ∧ cFlx G ρ f A V nx' ν (szs l (fD J v f0 J.length)) (apT T (if kind = 0 ∧ q < J.length then uG U so (v q) else U) (gP p v p0 J.length) (gE l J came p v kind E J.length) W q2 q3 s t0) (apD D (gE l J came p v kind E J.length) Y s t0) (apTr tr (gE l J came p v kind E J.length)))
    J.length ?_ ?_ J.length 0 N _ (by omega) (by omega) ?_
  · rintro k st hk ⟨mem, nx', rfl, hd, hc⟩
    refine Or.inr ?_
    obtain ⟨e6, er⟩ := hd.sh hy hr ha hla
    obtain ⟨rQ, rA⟩ := er k hk
    have hv' := hv k hk
    have hjl := hJl k hk
    by_cases c : 0 < v k
    · have fk : fD J v f0 k (jG J k) = f0 (jG J k) := by
        rw [fD_at (c := J.length) hk hinj k (by omega), if_neg (by omega)]
      have sz : lG (szs l (fD J v f0 k)) (jG J k) 4 = f0 (jG J k) := by rw [szs_4 hjl, fk]
      have hb := hc.1
      have szl : (szs l (fD J v f0 k)).length = l.length := szs_len
      have hjl' : jG J k < (szs l (fD J v f0 k)).length := by rw [szl]; exact hjl
      have f4 : gI mem 404 (A (jG J k)) = f0 (jG J k) := by rw [z_f0 hb hjl' 4 (by decide)]; exact sz
      have hAk := hb.2.1 (jG J k) (by omega)
      have hf0k := hf0 _ hjl
      -- the size
      have hc1 := hc.ord (i := jG J k) (w := 4) (v := f0 (jG J k) - v k) (by rw [szl]; omega) hjl' (by decide)
      rw [szs_set hjl] at hc1
      have efd : (fun j => if j = jG J k then f0 (jG J k) - v k else fD J v f0 k j) = fD J v f0 (k + 1) := by
        funext j
        show _ = if j = jG J k then fD J v f0 k j - v k else fD J v f0 k j
        by_cases cj : j = jG J k
        · rw [if_pos cj, if_pos cj, cj, fk]
        · rw [if_neg cj, if_neg cj]
      rw [efd] at hc1
      have d1 : dP ρ (pTr f) mem (sI mem 404 (A (jG J k)) (f0 (jG J k) - v k)) := dP.sI (by rw [hc.2.1 _ (by omega)]; exact ⟨rfl, by simp⟩)
      have szl1 : (szs l (fD J v f0 (k + 1))).length = l.length := szs_len
      -- with the grant used
      have key : ∀ mem1, dP ρ (pTr f) mem mem1 → (∀ U', cFlx G ρ f A V nx' mem1 (szs l (fD J v f0 (k + 1))) (apT T U' (gP p v p0 k) (gE l J came p v kind E k) W q2 q3 s t0) (apD D (gE l J came p v kind E k) Y s t0) (apTr tr (gE l J came p v kind E k)) → U' = (if kind = 0 ∧ q < k + 1 then uG U so (v q) else U) → ∃ mem' nx', dP ρ (pTr f) μ mem' ∧ cFlx G ρ f A V nx' mem' (szs l (fD J v f0 (k + 1))) (apT T (if kind = 0 ∧ q < k + 1 then uG U so (v q) else U) (gP p v p0 (k + 1)) (gE l J came p v kind E (k + 1)) W q2 q3 s t0) (apD D (gE l J came p v kind E (k + 1)) Y s t0) (apTr tr (gE l J came p v kind E (k + 1))) ∧ ∀ kk, f_X2_tradeRows_73 N G kk f a came p kind (k : Int) (A (jG J k)) mem1 = kk f a came p kind ((k + 1 : Nat) : Int) mem') := by
        intro mem1 hd1 U' hf hU
        subst hU
        obtain ⟨e6', er'⟩ := (hd.tr hd1).sh hy hr ha hla
        have rA' := (er' k hk).2
        have g0 : gI mem1 400 (A (jG J k)) = lG l (jG J k) 0 := by rw [z_f0 hf.1 (by rw [szl1]; exact hjl) 0 (by decide), szs_o hjl (by decide)]
        have ho := hl.2 _ hjl
        have ge : gE l J came p v kind E (k + 1) = tRow (lG l (jG J k)) came p (v k) kind :: gE l J came p v kind E k := if_pos c
        have gp : gP p v p0 (k + 1) = p := if_pos c
        have b10 : 0 ≤ apT T (if kind = 0 ∧ q < k + 1 then uG U so (v q) else U) (gP p v p0 k) (gE l J came p v kind E k) W q2 q3 s t0 10 ∧ apT T (if kind = 0 ∧ q < k + 1 then uG U so (v q) else U) (gP p v p0 k) (gE l J came p v kind E k) W q2 q3 s t0 10 ≤ 60 := by rw [apT_10]; omega
        obtain ⟨mem2, nx2, k1, k2, k3⟩ := z_keep3 (N := N) hy hf b10 (by rw [szl1]; omega) (tRow (lG l (jG J k)) came p (v k) kind)
        obtain ⟨e6'', er''⟩ := (hd.tr (hd1.tr k2)).sh hy hr ha hla
        have rA'' := (er'' k hk).2
        have g1 : gI mem2 401 (A (jG J k)) = lG l (jG J k) 1 := by rw [z_f0 k3.1 (by rw [szl1]; exact hjl) 1 (by decide), szs_o hjl (by decide)]
        have g2 : gI mem2 402 (A (jG J k)) = lG l (jG J k) 2 := by rw [z_f0 k3.1 (by rw [szl1]; exact hjl) 2 (by decide), szs_o hjl (by decide)]
        have tb := ho.2.1
        obtain ⟨mem3, m1, m2, m3⟩ := z_enter3 (N := N) (x1 := lG l (jG J k) 1) (side := lG l (jG J k) 2) (p := p) (lots := v k) hy k3 (t := (lG l (jG J k) 1).toNat) (by omega) (by omega) hp ⟨by omega, by omega⟩
        have h5e : tRow (lG l (jG J k)) came p (v k) kind 5 = ((lG l (jG J k) 1).toNat : Int) := by show lG l (jG J k) 1 = _; omega
        have eT := apT_tr (T := T) (U := if kind = 0 ∧ q < k + 1 then uG U so (v q) else U) (p := gP p v p0 k) (E := gE l J came p v kind E k) (W := W) (q2 := q2) (q3 := q3) (s := s) (t0 := t0) (e := tRow (lG l (jG J k)) came p (v k) kind) h5e
        have eD := apD_tr (D := D) (E := gE l J came p v kind E k) (Y := Y) (s := s) (t0 := t0) (e := tRow (lG l (jG J k)) came p (v k) kind) h5e
        have ek : f_X3_keep N G (gR G 201 f) (gI mem1 400 (A (jG J k))) came p (v k) kind mem1 = some mem2 := by rw [g0]; exact k1
        have nb : 14 + (lG l (jG J k) 1).toNat ≠ 3 ∧ 14 + (lG l (jG J k) 1).toNat ≠ 10 := by omega
        rw [upd1_n nb.1, upd1_n nb.2] at m3
        refine ⟨mem3, nx2, hd.tr (hd1.tr (k2.tr m2)), ?_, fun kk => ?_⟩
        · rw [ge, gp, ← apTr_c]
          have eT' : upd1 (upd1 (upd1 (apT T (if kind = 0 ∧ q < k + 1 then uG U so (v q) else U) (gP p v p0 k) (gE l J came p v kind E k) W q2 q3 s t0) 10 (min (apT T (if kind = 0 ∧ q < k + 1 then uG U so (v q) else U) (gP p v p0 k) (gE l J came p v kind E k) W q2 q3 s t0 10 + 1) 60)) 3 p) (14 + (lG l (jG J k) 1).toNat) (w32 (apT T (if kind = 0 ∧ q < k + 1 then uG U so (v q) else U) (gP p v p0 k) (gE l J came p v kind E k) W q2 q3 s t0 (14 + (lG l (jG J k) 1).toNat) + sg (lG l (jG J k) 2) (v k))) = apT T (if kind = 0 ∧ q < k + 1 then uG U so (v q) else U) p (tRow (lG l (jG J k)) came p (v k) kind :: gE l J came p v kind E k) W q2 q3 s t0 := eT
          have eD' : upd1 (apD D (gE l J came p v kind E k) Y s t0) (lG l (jG J k) 1).toNat (w64 (apD D (gE l J came p v kind E k) Y s t0 (lG l (jG J k) 1).toNat - p * sg (lG l (jG J k) 2) (v k))) = apD D (tRow (lG l (jG J k)) came p (v k) kind :: gE l J came p v kind E k) Y s t0 := eD
          rw [← eT', ← eD']
          exact m3
        · unfold f_X2_tradeRows_73 f_X2_tradeRows_115
          rw [rdA_p ⟨by omega, by omega⟩, Int.toNat_natCast, rA', kb_p ek, rdA_p ⟨by omega, by omega⟩, Int.toNat_natCast, rA'', g1, g2, kb_p m1, ckI_p ⟨by omega, by omega⟩, cast1]
      have pre : ∀ kk, f_X2_tradeRows_3 N G kk f a came p kind (k : Int) mem = if kind = 0 then (rdA (sI mem 404 (A (jG J k)) (f0 (jG J k) - v k)) a (k : Int) 68 fun v10 => kb (f_X0_useGrant N G (gR G 200 f) (A (jG J k)) v10 (sI mem 404 (A (jG J k)) (f0 (jG J k) - v k))) fun m11 => f_X2_tradeRows_73 N G kk f a came p kind (k : Int) (A (jG J k)) m11) else f_X2_tradeRows_73 N G kk f a came p kind (k : Int) (A (jG J k)) (sI mem 404 (A (jG J k)) (f0 (jG J k) - v k)) := by
        intro kk
        unfold f_X2_tradeRows_3
        rw [e6, if_pos (by omega), if_pos (by omega), rdA_p ⟨by omega, by omega⟩, Int.toNat_natCast, rA, if_pos c, rdQ_p (o := A (jG J k)) ⟨by omega, by omega⟩ (by rw [Int.toNat_natCast]; exact rQ) hAk.2, rdA_p ⟨by omega, by omega⟩, Int.toNat_natCast, rA, f4, ckI_p ⟨by omega, by omega⟩, kp_p]
      by_cases ck : kind = 0
      · obtain ⟨o1, o2, o3, o4, o5⟩ := hso ck
        have hq : k = q := Decidable.byContradiction (fun hne => by have := o3 k hk hne; omega)
        have hU : (if kind = 0 ∧ q < k then uG U so (v q) else U) = U := if_neg (by omega)
        rw [hU] at hc1
        obtain ⟨e6', er'⟩ := (hd.tr d1).sh hy hr ha hla
        have rA' := (er' k hk).2
        have hs2 := o2 k hk
        have hg := o4 k hk c
        have hn : gR G 2 (gR G 200 f) ≠ gR G 3 (gR G 200 f) := hy.ne (j := 12) (k := 13) (by decide) (by decide) (by decide)
        have ho := hl.2 _ hjl
        have u8 : apT T U (gP p v p0 k) (gE l J came p v kind E k) W q2 q3 s t0 (8 + (lG l (jG J k) 2).toNat) = U (8 + so) := by rw [hs2, Int.toNat_natCast, apT_u (by omega)]
        obtain ⟨mem1, u1, u2, u3⟩ := z_useGrant0 (N := N) (o := A (jG J k)) (w := lG l (jG J k)) (g := v k) hn hc1.2.2.1 (by rw [z_f0 hc1.1 (by rw [szl1]; exact hjl) 0 (by decide), szs_o hjl (by decide)]) (by rw [z_f0 hc1.1 (by rw [szl1]; exact hjl) 2 (by decide), szs_o hjl (by decide)]) ho.2.2.1 (by rw [u8]; omega)
        rw [u8, hs2, Int.toNat_natCast] at u3
        have eU : (if U (8 + so) - v k = 0 then aLap (apT T U (gP p v p0 k) (gE l J came p v kind E k) W q2 q3 s t0) so else upd1 (apT T U (gP p v p0 k) (gE l J came p v kind E k) W q2 q3 s t0) (8 + so) (U (8 + so) - v k)) = apT T (uG U so (v q)) (gP p v p0 k) (gE l J came p v kind E k) W q2 q3 s t0 := by
          unfold uG
          rw [← hq]
          by_cases z : U (8 + so) - v k = 0
          · rw [if_pos z, if_pos z, aLap_ap o1]
          · rw [if_neg z, if_neg z, apT_8 o1]
        rw [eU] at u3
        have hc2 := hc1.tops hy u2 u3 (fun j a6 a7 a8 a9 => apT_cg (fun _ => rfl) (fun x => by omega) (fun _ => rfl) (fun _ => rfl) (fun _ => rfl) (fun _ => rfl) (fun _ => rfl) (fun _ => ⟨rfl, rfl⟩))
        obtain ⟨mem', nx2, w1, w2, w3⟩ := key mem1 (d1.tr (u2.P hy)) _ hc2 (by rw [if_pos ⟨ck, by omega⟩])
        refine ⟨(f, a, came, p, kind, ((k + 1 : Nat) : Int), mem'), ⟨mem', nx2, rfl, w1, w2⟩, fun kk => ?_⟩
        show f_X2_tradeRows_3 N G _ f a came p kind (k : Int) mem = _
        rw [pre, if_pos ck, rdA_p ⟨by omega, by omega⟩, Int.toNat_natCast, rA', kb_p u1, w3]
      · have hU : (if kind = 0 ∧ q < k then uG U so (v q) else U) = (if kind = 0 ∧ q < k + 1 then uG U so (v q) else U) := by rw [if_neg (fun x => ck x.1), if_neg (fun x => ck x.1)]
        obtain ⟨mem', nx2, w1, w2, w3⟩ := key _ d1 _ hc1 hU
        refine ⟨(f, a, came, p, kind, ((k + 1 : Nat) : Int), mem'), ⟨mem', nx2, rfl, w1, w2⟩, fun kk => ?_⟩
        show f_X2_tradeRows_3 N G _ f a came p kind (k : Int) mem = _
        rw [pre, if_neg ck, w3]
    · have v0 : v k = 0 := by omega
      have ge : gE l J came p v kind E (k + 1) = gE l J came p v kind E k := if_neg c
      have gp : gP p v p0 (k + 1) = gP p v p0 k := if_neg c
      have ef : fD J v f0 (k + 1) = fD J v f0 k := by
        funext i
        show (if i = jG J k then fD J v f0 k i - v k else fD J v f0 k i) = _
        rw [v0, Int.sub_zero, ite_self]
      have hU : (if kind = 0 ∧ q < k + 1 then uG U so (v q) else U) = (if kind = 0 ∧ q < k then uG U so (v q) else U) := by
        by_cases ck : kind = 0
        · obtain ⟨o1, o2, o3, o4, o5⟩ := hso ck
          by_cases hq : q = k
          · subst hq
            rw [if_pos ⟨ck, by omega⟩, if_neg (by omega), v0, uG_0 (o5 hk)]
          · by_cases q1 : q < k
            · rw [if_pos ⟨ck, by omega⟩, if_pos ⟨ck, q1⟩]
            · rw [if_neg (by omega), if_neg (by omega)]
        · rw [if_neg (fun x => ck x.1), if_neg (fun x => ck x.1)]
      refine ⟨(f, a, came, p, kind, ((k + 1 : Nat) : Int), mem), ⟨mem, nx', rfl, hd, by rw [ge, gp, ef, hU]; exact hc⟩, fun kk => ?_⟩
      show f_X2_tradeRows_3 N G _ f a came p kind (k : Int) mem = _
      unfold f_X2_tradeRows_3 f_X2_tradeRows_115
      rw [e6, if_pos (by omega), if_pos (by omega), rdA_p ⟨by omega, by omega⟩, Int.toNat_natCast, rA, if_neg c, ckI_p ⟨by omega, by omega⟩, cast1]
  · rintro st ⟨mem, nx', rfl, hd, hc⟩
    refine ⟨_, ⟨mem, nx', rfl, hd, hc⟩, fun k => ?_⟩
    have e6 := (hd.sh hy hr ha hla).1
    show f_X2_tradeRows_3 N G _ f a came p kind (J.length : Int) mem = _
    unfold f_X2_tradeRows_3
    rw [e6, if_neg (by omega)]
  · exact ⟨μ, nx, rfl, dP.rf, by rw [if_neg (by omega)]; exact h⟩
end TROWS
