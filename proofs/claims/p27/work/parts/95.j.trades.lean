/-! PURE: the law's third stretch: the orders that are left, and the trades -/
section LC2
variable {N : Nat} {G : qG} {ρ : Nat → Nat × Nat} {x : Nat} {Ω : oB} {KK : Nat → Nat} {m q1 : qM} {c0 a h : Nat} {r : Nat → Nat} {g L s K : Int} {n q : Nat} {l l2 : List (Nat → Int)} {U T2 D2 : Nat → Int} {tr2 : Nat → Nat → Int} {E : List (Nat → Int)} {sz : Nat → Int}
/-- the shares' bounds -/
def hBd (sz : Nat → Int) (g K L : Int) (n : Nat) : Prop := ∀ k, k < n → (0 ≤ hA sz g K k ∧ 0 ≤ hB sz g K L n k ∧ 0 ≤ hC sz g K L n k ∧ hA sz g K k + hB sz g K L n k + hC sz g K L n k ≤ sz k) ∧ 1 ≤ sz k ∧ sz k ≤ 1000
theorem aCount_7 {l : List (Nat → Int)} {T : Nat → Int} {k : Nat} : aCount l T k 7 = T 10 := rfl
theorem aCount_8 {l : List (Nat → Int)} {T : Nat → Int} {k : Nat} : aCount l T k 8 = T 11 := rfl
theorem aCount_2 {l : List (Nat → Int)} {T : Nat → Int} {k : Nat} : aCount l T k 2 = T 3 := rfl
theorem z_831 (hQ : oQ N G ρ x Ω) (hN : 1000 < N) (hs : s = 0 ∨ s = 1) (hn : 1 ≤ n ∧ n ≤ 8) (hg : 0 ≤ g ∧ g < 40) (hq : q ≤ 1) (hK : 1 ≤ K ∧ K ≤ 1000) (h1 : St G ρ x m l2 T2 D2 tr2) (hF : Aft l2 T2 tr2 E q n s g K L sz) (hb : hBd sz g K L n) (hg0 : hA sz g K 0 ≤ 40) (hM : aMx KK n q1 a h r sz g K L) :
    f_Lc_L831 N G x Ω KK n g s n ((q : Int) + 1) a (if 0 < g then 1 else 0) K h (E.length : Int) 0 m q1 7 = some 1 := by
  have hF0 := hF
  obtain ⟨ho, ⟨t10, t11, t3, t23⟩, htr, hpl, f1, f2⟩ := hF
  unfold f_Lc_L831
  refine qLoop_inv (R := fun r => r = some 1) (fun k z => ∃ c : Nat, c ≤ k + 7 ∧ z = (g, s, (n : Int), (q : Int) + 1, a, (if 0 < g then 1 else 0), K, h, (E.length : Int), (k : Int), m, q1, c)) n ?_ ?_ n 0 N _ (Nat.zero_add n) (by omega) ⟨7, by omega, rfl⟩
  · rintro k z hk ⟨c, hc, rfl⟩
    have b := hb k hk
    have p := hpl k hk
    have fin : ∀ (v : Int) (c' : Nat), v = hR sz g K L n k → (∀ kk : Int → Nat → Option Int, szK (Ω.2.2 m ((q : Int) + 1 + (k : Int))) c kk = kk v c') → ∀ cont : Int × Int × Int × Int × Nat × Int × Int × Nat × Int × Int × qM × qM × Nat → Option Int,
        f_Lc_831 N G x Ω KK n (fun x2 x4 x5 x7 x8 x10 x11 x12 x18 x19 p0 q0 c0 => cont (x2, x4, x5, x7, x8, x10, x11, x12, x18, x19, p0, q0, c0)) g s n ((q : Int) + 1) a (if 0 < g then 1 else 0) K h (E.length : Int) k m q1 c = cont (g, s, (n : Int), (q : Int) + 1, a, (if 0 < g then 1 else 0), K, h, (E.length : Int), ((k + 1 : Nat) : Int), m, q1, c') := by
      intro v c' hv hz cont
      unfold f_Lc_831
      rw [if_pos (by omega), rdA_k rfl hk (hM.2.2.1 k hk), hM.row (i := 0) (j := 0) rfl (by decide), rdA_k rfl hk (hM.2.2.2.1 k hk), ckI_p ⟨by omega, by omega⟩, hM.row (i := 1) (j := 1) rfl (by decide), rdA_k rfl hk (hM.2.2.2.2.1 k hk), ckI_p ⟨by omega, by omega⟩, hM.row (i := 2) (j := 2) rfl (by decide), rdA_k rfl hk (hM.2.2.2.2.2 k hk), ckI_p ⟨by omega, by omega⟩, ckI_p ⟨by omega, by omega⟩, hz, if_pos (by rw [hv]; show sz k - (hA sz g K k + hB sz g K L n k + hC sz g K L n k) = _; omega), ckI_p ⟨by omega, by omega⟩]
      rfl
    by_cases d : 0 < hR sz g K L n k
    · obtain ⟨i, hi, hv⟩ := p.1 d
      have fi := (hQ.2.1 m l2 T2 D2 tr2 _ i h1 ho hi).2
      exact Or.inr ⟨_, ⟨c, by omega, rfl⟩, fin _ c hv (fun kk => szK_0 fi)⟩
    · have fi := hQ.2.2 m l2 T2 D2 tr2 _ h1 ho (p.2 d)
      exact Or.inr ⟨_, ⟨c + 1, by omega, rfl⟩, fin 0 (c + 1) (by show (0 : Int) = sz k - (hA sz g K k + hB sz g K L n k + hC sz g K L n k); have d : ¬ 0 < sz k - (hA sz g K k + hB sz g K L n k + hC sz g K L n k) := d; omega) (fun kk => szK_1 fi (by omega))⟩
  · rintro z ⟨c, hc, rfl⟩
    have b := hb 0 (by omega)
    refine ⟨_, rfl, fun cont => ?_⟩
    show f_Lc_831 N G x Ω KK n _ g s n ((q : Int) + 1) a (if 0 < g then 1 else 0) K h (E.length : Int) n m q1 c = some 1
    unfold f_Lc_831
    rw [if_neg (by omega), kb2_p (s_count h1 ho 7), aCount_7, t10, if_pos rfl, kb2_p (s_count h1 ho 8), aCount_8, t11, if_pos rfl, kb2_p (s_count h1 ho 2), aCount_2, t3, if_pos rfl, kp_p, s_pos h1, t23]
    have z9 := fun v => z_942 (c1 := c) hQ hs hn hg hq h1 hF0 ⟨by omega, hg0⟩ hM (by omega) v
    by_cases e : s = 0
    · rw [if_pos e, if_pos e, ckI_p ⟨by omega, by omega⟩]
      exact z9 (-K)
    · rw [if_neg e, if_neg e]
      exact z9 K
/-- the trades, kind by kind -/
abbrev vK (l : List (Nat → Int)) (U : Nat → Int) (L s K : Int) (i : Nat) : Nat → Int := if i = 0 then kA l U s 100 K else if i = 1 then kB l U L s 100 K else kC l U L s 100 K
abbrev vH (sz : Nat → Int) (g K L : Int) (n i : Nat) : Nat → Int := if i = 0 then hA sz g K else if i = 1 then hB sz g K L n else hC sz g K L n
theorem vH_row (hM : aMx KK n q1 a h r sz g K L) {i k : Nat} (hi : i < 3) (hk : k < n) : gA q1 (r i) k = vH sz g K L n i k := by
  rcases (show i = 0 ∨ i = 1 ∨ i = 2 by omega) with rfl | rfl | rfl
  · exact hM.2.2.2.1 k hk
  · exact hM.2.2.2.2.1 k hk
  · exact hM.2.2.2.2.2 k hk
theorem vH_nn (hb : hBd sz g K L n) {i k : Nat} (hi : i < 3) (hk : k < n) : 0 ≤ vH sz g K L n i k := by
  have b := (hb k hk).1
  rcases (show i = 0 ∨ i = 1 ∨ i = 2 by omega) with rfl | rfl | rfl
  · exact b.1
  · exact b.2.1
  · exact b.2.2.1
theorem z_trd (h1 : St G ρ x m l2 T2 D2 tr2) (hF : Aft l2 T2 tr2 E q n s g K L sz) {t w : Nat} (ht : t < E.length) (hw : w < 5) {z : Int} (hz : z = (w : Int)) : f_X7_trade N G x (t : Int) z m = some (lG E t w, m) := by
  subst hz
  obtain ⟨ho, ⟨t10, -⟩, htr, -⟩ := hF
  have e := s_trade (N := N) h1 ho (t : Int) (w : Int)
  rw [if_pos ⟨by omega, by omega, by omega, by omega⟩, Int.toNat_natCast, Int.toNat_natCast, htr t w ht] at e
  exact e
theorem z_723 (hr : Rw l q n s sz) (hN : 1000 < N) (hn : 1 ≤ n ∧ n ≤ 8) (h1 : St G ρ x m l2 T2 D2 tr2) (hF : Aft l2 T2 tr2 E q n s g K L sz) (hE : E.length ≤ 60) (hb : hBd sz g K L n) (hM : aMx KK n q1 a h r sz g K L) (hv : ∀ i k, i < 3 → k < n → vK l U L s K i k = vH sz g K L n i k) {num : Int} {i : Nat} (hi : i < 3)
    {k712 : Int → Int → Int → Int → Nat → Int → Int → Nat → Int → Int → Int → qM → qM → Nat → Option Int} {z10 : Int} (hk : ∀ t' : Nat, sufx E t' (eK l U L num s K n i) → k712 g s n ((q : Int) + 1) a z10 K h num t' ((i : Int) + (-1)) m q1 7 = some 1) :
    ∀ k fuel t, k ≤ n → k < fuel → sufx E t (gE l (aJ s 100 l l.length) num 100 (vK l U L s K i) (i : Int) (eK l U L num s K n i) k) →
      qLoop (fun kk (z : Int × Int × Int × Int × Nat × Int × Int × Nat × Int × Int × Int × Int × qM × qM × Nat) => f_Lc_723 N G x Ω KK n k712 (fun x2 x4 x5 x7 x8 x10 x11 x12 x17 x18 x19 x20 p0 q0 c0 => kk (x2, x4, x5, x7, x8, x10, x11, x12, x17, x18, x19, x20, p0, q0, c0)) z.1 z.2.1 z.2.2.1 z.2.2.2.1 z.2.2.2.2.1 z.2.2.2.2.2.1 z.2.2.2.2.2.2.1 z.2.2.2.2.2.2.2.1 z.2.2.2.2.2.2.2.2.1 z.2.2.2.2.2.2.2.2.2.1 z.2.2.2.2.2.2.2.2.2.2.1 z.2.2.2.2.2.2.2.2.2.2.2.1 z.2.2.2.2.2.2.2.2.2.2.2.2.1 z.2.2.2.2.2.2.2.2.2.2.2.2.2.1 z.2.2.2.2.2.2.2.2.2.2.2.2.2.2) fuel (g, s, (n : Int), (q : Int) + 1, a, z10, K, h, num, (t : Int), (i : Int), (k : Int) - 1, m, q1, 7) = some 1 := by
  intro k
  induction k with
  | zero =>
    intro fuel t _ hf hS
    refine qLoop_x (fun kk => ?_) (by omega)
    show f_Lc_723 N G x Ω KK n k712 _ g s n ((q : Int) + 1) a z10 K h num t i (((0 : Nat) : Int) - 1) m q1 7 = some 1
    unfold f_Lc_723
    rw [if_pos (by omega), ckI_p ⟨by omega, by omega⟩]
    exact hk t hS
  | succ k ih =>
    intro fuel t hkn hf hS
    obtain ⟨fu, rfl⟩ : ∃ f, fuel = f + 1 := ⟨fuel - 1, by omega⟩
    have hkn' : k < n := by omega
    have ek : (((k + 1 : Nat) : Int) - 1) = (k : Int) := by omega
    have hrow := vH_row hM hi hkn'
    have hnn := vH_nn hb hi hkn'
    obtain ⟨g1, g2⟩ := gE_row hS
    have hvk := hv i k hi hkn'
    rw [hvk] at g1 g2
    have hq := hr.2.1
    rw [qLoop_s, ek]
    show f_Lc_723 N G x Ω KK n k712 (fun x2 x4 x5 x7 x8 x10 x11 x12 x17 x18 x19 x20 p0 q0 c0 => qLoop _ fu (x2, x4, x5, x7, x8, x10, x11, x12, x17, x18, x19, x20, p0, q0, c0)) g s n ((q : Int) + 1) a z10 K h num t i (k : Int) m q1 7 = some 1
    unfold f_Lc_723
    rw [if_neg (by omega), hM.row (i := (i : Int)) (j := i) rfl hi, rdA_k rfl hkn' hrow]
    have e1 : (k : Int) + (-1) = (k : Int) - 1 := by omega
    by_cases c : 0 < vH sz g K L n i k
    · obtain ⟨b1, b2, b3⟩ := g1 c
      have o0 : lG E t 0 = (q : Int) + 1 + (k : Int) := by
        rw [b2]
        show lG l (jG (aJ s 100 l l.length) k) 0 = _
        rw [hr.jGa hkn', hr.2.2.2 k hkn']
        rfl
      have o1 : lG E t 1 = num := by rw [b2]; rfl
      have o2 : lG E t 2 = 100 := by rw [b2]; rfl
      have o3 : lG E t 3 = vH sz g K L n i k := by rw [b2]; rfl
      have o4 : lG E t 4 = (i : Int) := by rw [b2]; rfl
      rw [if_neg (by omega), kb2_p (z_trd h1 hF b1 (w := 0) (z := 0) (by decide) rfl), ckI_p ⟨by omega, by omega⟩, if_pos o0, kb2_p (z_trd h1 hF b1 (w := 1) (z := 1) (by decide) rfl), if_pos o1, kb2_p (z_trd h1 hF b1 (w := 2) (z := 2) (by decide) rfl), if_pos o2, kb2_p (z_trd h1 hF b1 (w := 3) (z := 3) (by decide) rfl), hM.row (i := (i : Int)) (j := i) rfl hi, rdA_k rfl hkn' hrow, if_pos o3, kb2_p (z_trd h1 hF b1 (w := 4) (z := 4) (by decide) rfl), if_pos o4, ckI_p ⟨by omega, by omega⟩]
      unfold f_Lc_816
      rw [ckI_p ⟨by omega, by omega⟩, e1]
      exact ih fu (t + 1) (by omega) (by omega) b3
    · rw [if_pos (by omega)]
      unfold f_Lc_816
      rw [ckI_p ⟨by omega, by omega⟩, e1]
      exact ih fu t (by omega) (by omega) (g2 c)
theorem z_712 (hQ : oQ N G ρ x Ω) (hr : Rw l q n s sz) (hN : 1000 < N) (hs : s = 0 ∨ s = 1) (hn : 1 ≤ n ∧ n ≤ 8) (hg : 0 ≤ g ∧ g < 40) (hK : 1 ≤ K ∧ K ≤ 1000) (h1 : St G ρ x m l2 T2 D2 tr2) (hF : Aft l2 T2 tr2 E q n s g K L sz) (hE : E.length ≤ 60) (hb : hBd sz g K L n) (hg0 : hA sz g K 0 ≤ 40) (hM : aMx KK n q1 a h r sz g K L) (hv : ∀ i k, i < 3 → k < n → vK l U L s K i k = vH sz g K L n i k) {num : Int} :
    ∀ i fuel t, i ≤ 3 → i < fuel → sufx E t (eK l U L num s K n i) →
      qLoop (fun kk (z : Int × Int × Int × Int × Nat × Int × Int × Nat × Int × Int × Int × qM × qM × Nat) => f_Lc_712 N G x Ω KK n (fun x2 x4 x5 x7 x8 x10 x11 x12 x17 x18 x19 p0 q0 c0 => kk (x2, x4, x5, x7, x8, x10, x11, x12, x17, x18, x19, p0, q0, c0)) z.1 z.2.1 z.2.2.1 z.2.2.2.1 z.2.2.2.2.1 z.2.2.2.2.2.1 z.2.2.2.2.2.2.1 z.2.2.2.2.2.2.2.1 z.2.2.2.2.2.2.2.2.1 z.2.2.2.2.2.2.2.2.2.1 z.2.2.2.2.2.2.2.2.2.2.1 z.2.2.2.2.2.2.2.2.2.2.2.1 z.2.2.2.2.2.2.2.2.2.2.2.2.1 z.2.2.2.2.2.2.2.2.2.2.2.2.2) fuel (g, s, (n : Int), (q : Int) + 1, a, (if 0 < g then 1 else 0), K, h, num, (t : Int), (i : Int) - 1, m, q1, 7) = some 1 := by
  intro i
  induction i with
  | zero =>
    intro fuel t _ hf hS
    refine qLoop_x (fun kk => ?_) (by omega)
    show f_Lc_712 N G x Ω KK n _ g s n ((q : Int) + 1) a (if 0 < g then 1 else 0) K h num t (((0 : Nat) : Int) - 1) m q1 7 = some 1
    unfold f_Lc_712
    rw [if_pos (by omega), sufx.nil hS]
    exact z_831 hQ hN hs hn hg hr.2.1 hK h1 hF hb hg0 hM
  | succ i ih =>
    intro fuel t hi hf hS
    obtain ⟨fu, rfl⟩ : ∃ f, fuel = f + 1 := ⟨fuel - 1, by omega⟩
    have ei : (((i + 1 : Nat) : Int) - 1) = (i : Int) := by omega
    rw [qLoop_s, ei]
    show f_Lc_712 N G x Ω KK n (fun x2 x4 x5 x7 x8 x10 x11 x12 x17 x18 x19 p0 q0 c0 => qLoop _ fu (x2, x4, x5, x7, x8, x10, x11, x12, x17, x18, x19, p0, q0, c0)) g s n ((q : Int) + 1) a (if 0 < g then 1 else 0) K h num t (i : Int) m q1 7 = some 1
    unfold f_Lc_712
    rw [if_neg (by omega), ckI_p ⟨by omega, by omega⟩]
    unfold f_Lc_L723
    refine z_723 (U := U) hr hN hn h1 hF hE hb hM hv (by omega) (fun t' hS' => ?_) n N t (Nat.le_refl _) (by omega) hS
    have e1 : (i : Int) + (-1) = (i : Int) - 1 := by omega
    rw [e1]
    exact ih fu t' (by omega) (by omega) hS'
end LC2
