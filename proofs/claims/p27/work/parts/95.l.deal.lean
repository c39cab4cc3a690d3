/-! PURE: the law's third stretch: how it deals itself -/
section LC4
variable {N : Nat} {G : qG} {ρ : Nat → Nat × Nat} {x : Nat} {Ω : oB} {KK : Nat → Nat} {q1 p : qM} {a h : Nat} {r : Nat → Nat} {g L s K : Int} {n q : Nat} {l : List (Nat → Int)} {T D : Nat → Int} {tr : Nat → Nat → Int} {sz A B C : Nat → Int} {kb kc : Nat}
theorem aM.setC {k : Nat} (hM : aM KK n q1 a h r sz A B C kb k) : aM KK n (sA q1 (r 2) k (C k)) a h r sz A B C kb (k + 1) := by
  obtain ⟨h1, ⟨⟨n01, n02, n12⟩, na⟩, h3, h4, h5, h6⟩ := hM
  refine ⟨h1, ⟨⟨n01, n02, n12⟩, na⟩, fun i hi => ?_, fun i hi => ?_, fun i hi => ?_, fun i hi => ?_⟩
  · rw [gA_a (Ne.symm (na 2 (by decide)))]; exact h3 i hi
  · rw [gA_a n02]; exact h4 i hi
  · rw [gA_a n12]; exact h5 i hi
  · by_cases c : i = k
    · subst c; exact gA_s
    · rw [gA_i c]; exact h6 i (by omega)
theorem aM.setB {k : Nat} (hM : aM KK n q1 a h r sz A B C k kc) : aM KK n (sA q1 (r 1) k (B k)) a h r sz A B C (k + 1) kc := by
  obtain ⟨h1, ⟨⟨n01, n02, n12⟩, na⟩, h3, h4, h5, h6⟩ := hM
  refine ⟨h1, ⟨⟨n01, n02, n12⟩, na⟩, fun i hi => ?_, fun i hi => ?_, fun i hi => ?_, fun i hi => ?_⟩
  · rw [gA_a (Ne.symm (na 1 (by decide)))]; exact h3 i hi
  · rw [gA_a n01]; exact h4 i hi
  · by_cases c : i = k
    · subst c; exact gA_s
    · rw [gA_i c]; exact h5 i (by omega)
  · rw [gA_a (Ne.symm n12)]; exact h6 i hi
theorem hS_sumA {S g' : Nat → Int} : ∀ k, shL S g' K k = K - sumN (shA S g' K) k := by
  intro k
  induction k with
  | zero => show K = K - 0; omega
  | succ k ih =>
    show shL S g' K k - shA S g' K k = K - (sumN (shA S g' K) k + shA S g' K k)
    rw [ih]; omega
theorem hS_sumC {S g' : Nat → Int} {c : Nat} : ∀ k, shR S g' K L c k = shR S g' K L c 0 - sumN (shC S g' K L c) k := by
  intro k
  induction k with
  | zero => show shR S g' K L c 0 = shR S g' K L c 0 - 0; omega
  | succ k ih =>
    show shR S g' K L c k - shC S g' K L c k = shR S g' K L c 0 - (sumN (shC S g' K L c) k + shC S g' K L c k)
    rw [ih]; omega
abbrev hL (sz : Nat → Int) (g K L : Int) (n k : Nat) : Int := shR sz (gOne g) K L n k
theorem hL_0 : hL sz g K L n 0 = K - sumN (hA sz g K) n - sumN (hB sz g K L n) n := by
  show shM2 sz (gOne g) K L n n = _
  unfold shM2
  rw [hS_sumA]
theorem z_461 (hQ : oQ N G ρ x Ω) (hy : cLY G ρ x) (hN : 1000 < N) (hs : s = 0 ∨ s = 1) (hn : 1 ≤ n ∧ n ≤ 8) (hg : 0 ≤ g ∧ g < 40) (hMk : Mk l T D q n s g L sz) (hK : 1 ≤ K ∧ K ≤ sumN sz n) (hz : sumN sz n ≤ 1600) (hb : hBd sz g K L n) (hg0 : hA sz g K 0 ≤ 40) (hok : shOk sz (gOne g) K L n) (h1 : St G ρ x p l T D tr)
    (hM : aM KK n q1 a h r sz (hA sz g K) (hB sz g K L n) (hC sz g K L n) n 0) : f_Lc_L461 N G x Ω KK n g s n ((q : Int) + 1) a (sumN sz n) (if 0 < g then 1 else 0) K h (hL sz g K L n 0) 0 p q1 7 = some 1 := by
  have tot := (h_bd hMk hs hn hK).2
  have hq := hMk.1.2.1
  unfold f_Lc_L461
  refine qLoop_inv (R := fun r => r = some 1) (fun k z => ∃ q2 : qM, z = (g, s, (n : Int), (q : Int) + 1, a, sumN sz n, (if 0 < g then 1 else 0), K, h, hL sz g K L n k, (k : Int), p, q2, 7) ∧ aM KK n q2 a h r sz (hA sz g K) (hB sz g K L n) (hC sz g K L n) n k) n ?_ ?_ n 0 N _ (Nat.zero_add n) (by omega) ⟨q1, rfl, hM⟩
  · rintro k z hk ⟨q2, rfl, hM⟩
    have b := hb k hk
    have bR : -60000000 - 61000 * (n : Int) + 61000 * ((n : Int) - (k : Int)) ≤ hL sz g K L n k ∧ hL sz g K L n k ≤ 60000 + 61000 * (k : Int) := shR_bd hok k (by omega)
    have hM' := hM.setC
    refine Or.inr ⟨(g, s, (n : Int), (q : Int) + 1, a, sumN sz n, (if 0 < g then 1 else 0), K, h, hL sz g K L n (k + 1), ((k + 1 : Nat) : Int), p, sA q2 (r 2) k (hC sz g K L n k), 7), ⟨_, rfl, hM'⟩, fun cont => ?_⟩
    show f_Lc_461 N G x Ω KK n (fun x2 x4 x5 x7 x8 x9 x10 x11 x12 x13 x16 p0 q0 c0 => cont (x2, x4, x5, x7, x8, x9, x10, x11, x12, x13, x16, p0, q0, c0)) g s n ((q : Int) + 1) a (sumN sz n) (if 0 < g then 1 else 0) K h (hL sz g K L n k) k p q2 7 = _
    have eC : min (hL sz g K L n k) (sz k - hA sz g K k - hB sz g K L n k) = hC sz g K L n k := rfl
    have eR : hL sz g K L n k - hC sz g K L n k = hL sz g K L n (k + 1) := rfl
    unfold f_Lc_461
    rw [if_pos (by omega), hM.row (i := 2) (j := 2) rfl (by decide), rdA_k rfl hk (hM.2.2.1 k hk), hM.row (i := 0) (j := 0) rfl (by decide), rdA_k rfl hk (hM.2.2.2.1 k hk), ckI_p ⟨by omega, by omega⟩, hM.row (i := 1) (j := 1) rfl (by decide), rdA_k rfl hk (hM.2.2.2.2.1 k hk), ckI_p ⟨by omega, by omega⟩, kp_p, eC, wrA_p ⟨by omega, by omega⟩, Int.toNat_natCast, hM'.row (i := 2) (j := 2) rfl (by decide), rdA_k rfl hk (hM'.2.2.2.2.2 k (by omega)), ckI_p ⟨by omega, by omega⟩, eR, ckI_p ⟨by omega, by omega⟩]
    rfl
  · rintro z ⟨q2, rfl, hM⟩
    refine ⟨_, rfl, fun cont => ?_⟩
    show f_Lc_461 N G x Ω KK n _ g s n ((q : Int) + 1) a (sumN sz n) (if 0 < g then 1 else 0) K h (hL sz g K L n n) n p q2 7 = some 1
    have e0 : hL sz g K L n n = 0 := by
      show shR sz (gOne g) K L n n = 0
      rw [hS_sumC]
      have := hL_0 (sz := sz) (g := g) (K := K) (L := L) (n := n)
      show hL sz g K L n 0 - sumN (hC sz g K L n) n = 0
      omega
    unfold f_Lc_461
    rw [if_neg (by omega), if_pos e0]
    unfold f_Lc_L529
    exact z_529 hQ hy hN hs hn hg hMk hK hz hb hg0 hM n 0 N p (by omega) (by omega) h1
theorem z_380 (hQ : oQ N G ρ x Ω) (hy : cLY G ρ x) (hN : 1000 < N) (hs : s = 0 ∨ s = 1) (hn : 1 ≤ n ∧ n ≤ 8) (hg : 0 ≤ g ∧ g < 40) (hMk : Mk l T D q n s g L sz) (hK : 1 ≤ K ∧ K ≤ sumN sz n) (hz : sumN sz n ≤ 1600) (hL0 : 1 ≤ L ∧ L ≤ 9) (hb : hBd sz g K L n) (hg0 : hA sz g K 0 ≤ 40) (hok : shOk sz (gOne g) K L n) (h1 : St G ρ x p l T D tr)
    (hM : aM KK n q1 a h r sz (hA sz g K) (hB sz g K L n) (hC sz g K L n) 0 0) : f_Lc_L380 N G x Ω KK n g L s n ((q : Int) + 1) a (sumN sz n) (if 0 < g then 1 else 0) K h (K - hA sz g K 0) (K - hA sz g K 0) (sumN sz n - hA sz g K 0) 0 p q1 7 = some 1 := by
  have hq := hMk.1.2.1
  have eL : shL sz (gOne g) K n = K - hA sz g K 0 := one_L hok hn.1 n hn.1 (Nat.le_refl _)
  have eZ : shZ sz (gOne g) K n = sumN sz n - hA sz g K 0 := one_Z hok hn.1
  have b0 := (hb 0 (by omega)).1
  have bz := (shZ_bd hok n (Nat.le_refl _)).1
  rw [eZ] at bz
  have sB : ∀ k, k ≤ n → 0 ≤ sumN (hB sz g K L n) k ∧ sumN (hB sz g K L n) k ≤ 1000 * k := fun k hk => sumN_bd (fun i hi => by have := hb i (by omega); omega)
  unfold f_Lc_L380
  refine qLoop_inv (R := fun r => r = some 1) (fun k z => ∃ q2 : qM, z = (g, L, s, (n : Int), (q : Int) + 1, a, sumN sz n, (if 0 < g then 1 else 0), K, h, K - hA sz g K 0 - sumN (hB sz g K L n) k, K - hA sz g K 0, sumN sz n - hA sz g K 0, (k : Int), p, q2, 7) ∧ aM KK n q2 a h r sz (hA sz g K) (hB sz g K L n) (hC sz g K L n) k 0) n ?_ ?_ n 0 N _ (Nat.zero_add n) (by omega) ⟨q1, by show (_ : Int × _) = _; rw [show K - hA sz g K 0 - sumN (hB sz g K L n) 0 = K - hA sz g K 0 from Int.sub_zero _]; rfl, hM⟩
  · rintro k z hk ⟨q2, rfl, hM⟩
    have b := hb k hk
    have bS := sB k (by omega)
    have hM' := hM.setB
    refine Or.inr ⟨(g, L, s, (n : Int), (q : Int) + 1, a, sumN sz n, (if 0 < g then 1 else 0), K, h, K - hA sz g K 0 - sumN (hB sz g K L n) (k + 1), K - hA sz g K 0, sumN sz n - hA sz g K 0, ((k + 1 : Nat) : Int), p, sA q2 (r 1) k (hB sz g K L n k), 7), ⟨_, rfl, hM'⟩, fun cont => ?_⟩
    have k439 : ∀ v, v = hB sz g K L n k → f_Lc_439 N G x Ω KK n (fun x2 x3 x4 x5 x7 x8 x9 x10 x11 x12 x13 x14 x15 x16 p0 q0 c0 => cont (x2, x3, x4, x5, x7, x8, x9, x10, x11, x12, x13, x14, x15, x16, p0, q0, c0)) g L s n ((q : Int) + 1) a (sumN sz n) (if 0 < g then 1 else 0) K h (K - hA sz g K 0 - sumN (hB sz g K L n) k) (K - hA sz g K 0) (sumN sz n - hA sz g K 0) k (r 1) k v p q2 7 =
        cont (g, L, s, (n : Int), (q : Int) + 1, a, sumN sz n, (if 0 < g then 1 else 0), K, h, K - hA sz g K 0 - sumN (hB sz g K L n) (k + 1), K - hA sz g K 0, sumN sz n - hA sz g K 0, ((k + 1 : Nat) : Int), p, sA q2 (r 1) k (hB sz g K L n k), 7) := by
      rintro v rfl
      have eS : K - hA sz g K 0 - sumN (hB sz g K L n) k - hB sz g K L n k = K - hA sz g K 0 - sumN (hB sz g K L n) (k + 1) := by
        show _ = K - hA sz g K 0 - (sumN (hB sz g K L n) k + hB sz g K L n k)
        omega
      unfold f_Lc_439
      rw [wrA_p ⟨by omega, by omega⟩, Int.toNat_natCast, hM'.row (i := 1) (j := 1) rfl (by decide), rdA_k rfl hk (hM'.2.2.2.2.1 k (by omega)), ckI_p ⟨by omega, by omega⟩, eS, ckI_p ⟨by omega, by omega⟩]
      rfl
    have k419 : ∀ v, (if v < L then 0 else v) = hB sz g K L n k → f_Lc_419 N G x Ω KK n (fun x2 x3 x4 x5 x7 x8 x9 x10 x11 x12 x13 x14 x15 x16 p0 q0 c0 => cont (x2, x3, x4, x5, x7, x8, x9, x10, x11, x12, x13, x14, x15, x16, p0, q0, c0)) g L s n ((q : Int) + 1) a (sumN sz n) (if 0 < g then 1 else 0) K h (K - hA sz g K 0 - sumN (hB sz g K L n) k) (K - hA sz g K 0) (sumN sz n - hA sz g K 0) k v p q2 7 =
        cont (g, L, s, (n : Int), (q : Int) + 1, a, sumN sz n, (if 0 < g then 1 else 0), K, h, K - hA sz g K 0 - sumN (hB sz g K L n) (k + 1), K - hA sz g K 0, sumN sz n - hA sz g K 0, ((k + 1 : Nat) : Int), p, sA q2 (r 1) k (hB sz g K L n k), 7) := by
      intro v hv
      unfold f_Lc_419
      rw [hM.row (i := 1) (j := 1) rfl (by decide)]
      by_cases c : v < L
      · rw [if_pos c] at hv ⊢
        exact k439 0 hv
      · rw [if_neg c] at hv ⊢
        exact k439 v hv
    have eB : hB sz g K L n k = portion (K - hA sz g K 0) (sz k - hA sz g K k) (sumN sz n - hA sz g K 0) L := by
      show shB sz (gOne g) K L n k = _
      unfold shB
      rw [eL, eZ]
    show f_Lc_380 N G x Ω KK n (fun x2 x3 x4 x5 x7 x8 x9 x10 x11 x12 x13 x14 x15 x16 p0 q0 c0 => cont (x2, x3, x4, x5, x7, x8, x9, x10, x11, x12, x13, x14, x15, x16, p0, q0, c0)) g L s n ((q : Int) + 1) a (sumN sz n) (if 0 < g then 1 else 0) K h (K - hA sz g K 0 - sumN (hB sz g K L n) k) (K - hA sz g K 0) (sumN sz n - hA sz g K 0) k p q2 7 = _
    unfold f_Lc_380
    rw [if_pos (by omega)]
    by_cases c : sumN sz n - hA sz g K 0 = 0
    · rw [if_pos c]
      refine k419 0 ?_
      rw [eB]
      unfold portion
      rw [if_pos (by omega), if_neg (by omega)]
    · have m1 := mul_bd2 (a := K - hA sz g K 0) (b := sz k - hA sz g K k) (A := 2000) (B := 1000) ⟨by have := (shL_bd hok n (Nat.le_refl _)).1; omega, by omega⟩ ⟨by omega, by omega⟩
      have m2 := tdiv_bd (a := (K - hA sz g K 0) * (sz k - hA sz g K k)) (z := sumN sz n - hA sz g K 0) (M := 2000000) ⟨m1.1, by omega⟩ (by omega)
      rw [if_neg c, rdA_k rfl hk (hM.2.2.1 k hk), hM.row (i := 0) (j := 0) rfl (by decide), rdA_k rfl hk (hM.2.2.2.1 k hk), ckI_p ⟨by omega, by omega⟩, ckJ_p ⟨by omega, by omega⟩, ckD_p c, ckJ_p ⟨by omega, by omega⟩, ckI_p ⟨by omega, by omega⟩]
      refine k419 _ ?_
      rw [eB]
      unfold portion
      rw [if_pos (show 0 < sumN sz n - hA sz g K 0 by omega)]
  · rintro z ⟨q2, rfl, hM⟩
    refine ⟨_, rfl, fun cont => ?_⟩
    show f_Lc_380 N G x Ω KK n _ g L s n ((q : Int) + 1) a (sumN sz n) (if 0 < g then 1 else 0) K h (K - hA sz g K 0 - sumN (hB sz g K L n) n) (K - hA sz g K 0) (sumN sz n - hA sz g K 0) n p q2 7 = some 1
    have e0 : K - hA sz g K 0 - sumN (hB sz g K L n) n = hL sz g K L n 0 := by
      show _ = shM2 sz (gOne g) K L n n
      unfold shM2
      rw [eL]
    unfold f_Lc_380
    rw [if_neg (by omega), e0]
    exact z_461 hQ hy hN hs hn hg hMk hK hz hb hg0 hok h1 hM
theorem z_Lc (hQ : oQ N G ρ x Ω) (hy : cLY G ρ x) (hN : 1000 < N) (hs : s = 0 ∨ s = 1) (hn : 1 ≤ n ∧ n ≤ 8) (hg : 0 ≤ g ∧ g < 40) (hMk : Mk l T D q n s g L sz) (hK : 1 ≤ K ∧ K ≤ sumN sz n) (hz : sumN sz n ≤ 1600) (hL0 : 1 ≤ L ∧ L ≤ 9) (hsz : ∀ k, k < n → 1 ≤ sz k ∧ sz k ≤ 1000) (h1 : St G ρ x p l T D tr)
    (hM : aM KK n q1 a h r sz (fun _ => 0) (hB sz g K L n) (hC sz g K L n) 0 0) : f_Lc N G x Ω KK n g L s n ((q : Int) + 1) a (sumN sz n) (if 0 < g then 1 else 0) K h p q1 7 = some 1 := by
  have hok : shOk sz (gOne g) K L n := one_ok hn hsz ⟨by omega, by omega⟩ ⟨by omega, by omega⟩ ⟨by omega, by omega⟩
  obtain ⟨a0, ak⟩ := one_A hok hn.1
  have hbd := (h_bd hMk hs hn hK).1
  have hb : hBd sz g K L n := fun k hk => ⟨hbd k hk, hsz k hk⟩
  have s0 := hsz 0 (by omega)
  have b0 := (hbd 0 (by omega)).1
  have hg0 : hA sz g K 0 ≤ 40 := by show shA sz (gOne g) K 0 ≤ 40; rw [a0]; omega
  have key : ∀ q2 : qM, aM KK n q2 a h r sz (hA sz g K) (hB sz g K L n) (hC sz g K L n) 0 0 → f_Lc_351 N G x Ω KK n g L s n ((q : Int) + 1) a (sumN sz n) (if 0 < g then 1 else 0) K h K p q2 7 = some 1 := by
    intro q2 hM2
    unfold f_Lc_351
    rw [hM2.row (i := 0) (j := 0) rfl (by decide), rdA_k (i := 0) (k := 0) rfl (by omega) (hM2.2.2.2.1 0 (by omega)), ckI_p ⟨by omega, by omega⟩, hM2.row (i := 0) (j := 0) rfl (by decide), rdA_k (i := 0) (k := 0) rfl (by omega) (hM2.2.2.2.1 0 (by omega)), ckI_p ⟨by omega, by omega⟩]
    exact z_380 hQ hy hN hs hn hg hMk hK hz hL0 hb hg0 hok h1 hM2
  obtain ⟨m1, ⟨⟨n01, n02, n12⟩, na⟩, m3, m4, m5, m6⟩ := id hM
  unfold f_Lc
  by_cases c : 0 < g
  · rw [if_pos c, if_neg (by decide), hM.row (i := 0) (j := 0) rfl (by decide), rdA_k (i := 0) (k := 0) rfl (by omega) (m3 0 (by omega)), kp_p, kp_p, wrA_p ⟨by omega, by omega⟩]
    have k1 := key (sA q1 (r 0) 0 (min (min K (sz 0)) g)) ⟨m1, ⟨⟨n01, n02, n12⟩, na⟩, fun i hi => by rw [gA_a (Ne.symm (na 0 (by decide)))]; exact m3 i hi, fun i hi => ?_, fun i hi => absurd hi (Nat.not_lt_zero _), fun i hi => absurd hi (Nat.not_lt_zero _)⟩
    · rw [if_pos c] at k1
      exact k1
    · by_cases d : i = 0
      · subst d; rw [gA_s]; exact a0.symm
      · rw [gA_i d, m4 i hi]; exact (ak i (by omega) hi).symm
  · rw [if_neg c, if_pos rfl]
    have k1 := key q1 ⟨m1, ⟨⟨n01, n02, n12⟩, na⟩, m3, fun i hi => ?_, fun i hi => absurd hi (Nat.not_lt_zero _), fun i hi => absurd hi (Nat.not_lt_zero _)⟩
    · rw [if_neg c] at k1
      exact k1
    · by_cases d : i = 0
      · subst d
        rw [m4 0 hi]
        show 0 = shA sz (gOne g) K 0
        rw [a0]; omega
      · rw [m4 i hi]; exact (ak i (by omega) hi).symm
end LC4
