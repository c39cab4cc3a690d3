/-! PURE: the law's third stretch: what share() tells, and the order that takes -/
section LC3
variable {N : Nat} {G : qG} {ρ : Nat → Nat × Nat} {x : Nat} {Ω : oB} {KK : Nat → Nat} {q1 : qM} {a h : Nat} {r : Nat → Nat} {g L s K : Int} {n q : Nat} {l : List (Nat → Int)} {T D : Nat → Int} {tr : Nat → Nat → Int} {sz : Nat → Int}
theorem jP_vH {w k : Nat} (hw : w < 3) {z : Int} (hz : z = 1 + (w : Int)) : jP (hA sz g K k) (hB sz g K L n k) (hC sz g K L n k) z = vH sz g K L n w k := by
  subst hz
  unfold jP
  rcases (show w = 0 ∨ w = 1 ∨ w = 2 by omega) with rfl | rfl | rfl <;> rfl
theorem s_shr (hy : cLY G ρ x) (hN : 1000 < N) (hs : s = 0 ∨ s = 1) {p : qM} (h1 : St G ρ x p l T D tr) (hMk : Mk l T D q n s g L sz) (hK : 1 ≤ K ∧ K ≤ sumN sz n) {k : Nat} (hk : k < n) {m w : Int} (hm : m = (q : Int) + 1 + (k : Int)) (hw : 0 ≤ w ∧ w ≤ 3) :
    ∃ p', f_X7_share N G x m K w p = some (jP (hA sz g K k) (hB sz g K L n k) (hC sz g K L n k) w, p') ∧ St G ρ x p' l T D tr := by
  obtain ⟨p', e1, e2⟩ := s_share (N := N) hy h1 hMk.2.1.1 (by omega) m K w
  rw [hMk.share hs hk hm w, if_pos ⟨decide_eq_true hw, decide_eq_true hK⟩] at e1
  exact ⟨p', e1, e2⟩
theorem s_shr_no (hy : cLY G ρ x) (hN : 1000 < N) (hs : s = 0 ∨ s = 1) {p : qM} (h1 : St G ρ x p l T D tr) (hMk : Mk l T D q n s g L sz) (hn : 1 ≤ n) {K' : Int} (hK : ¬ (1 ≤ K' ∧ K' ≤ sumN sz n)) {w : Int} :
    ∃ p', f_X7_share N G x ((q : Int) + 1) K' w p = some (-1, p') ∧ St G ρ x p' l T D tr := by
  obtain ⟨p', e1, e2⟩ := s_share (N := N) hy h1 hMk.2.1.1 (by omega) ((q : Int) + 1) K' w
  rw [hMk.share hs (k := 0) (by omega) (by omega) w, if_neg (fun e => hK (of_decide_eq_true e.2))] at e1
  exact ⟨p', e1, e2⟩
theorem z_583 (hy : cLY G ρ x) (hN : 1000 < N) (hs : s = 0 ∨ s = 1) (hn : 1 ≤ n ∧ n ≤ 8) (hMk : Mk l T D q n s g L sz) (hK : 1 ≤ K ∧ K ≤ sumN sz n) (hM : aMx KK n q1 a h r sz g K L) {k : Nat} (hk : k < n) {k529 : Int → Int → Int → Int → Nat → Int → Int → Int → Nat → Int → qM → qM → Nat → Option Int} {al z10 : Int}
    (hc : ∀ p', St G ρ x p' l T D tr → k529 g s n ((q : Int) + 1) a al z10 K h ((k : Int) + 1) p' q1 7 = some 1) :
    ∀ (d w fuel : Nat) (p : qM), w + d = 3 → d < fuel → St G ρ x p l T D tr →
      qLoop (fun kk (z : Int × Int × Int × Int × Nat × Int × Int × Int × Nat × Int × Int × qM × qM × Nat) => f_Lc_583 N G x Ω KK n k529 (fun x2 x4 x5 x7 x8 x9 x10 x11 x12 x16 x18 p0 q0 c0 => kk (x2, x4, x5, x7, x8, x9, x10, x11, x12, x16, x18, p0, q0, c0)) z.1 z.2.1 z.2.2.1 z.2.2.2.1 z.2.2.2.2.1 z.2.2.2.2.2.1 z.2.2.2.2.2.2.1 z.2.2.2.2.2.2.2.1 z.2.2.2.2.2.2.2.2.1 z.2.2.2.2.2.2.2.2.2.1 z.2.2.2.2.2.2.2.2.2.2.1 z.2.2.2.2.2.2.2.2.2.2.2.1 z.2.2.2.2.2.2.2.2.2.2.2.2.1 z.2.2.2.2.2.2.2.2.2.2.2.2.2) fuel (g, s, (n : Int), (q : Int) + 1, a, al, z10, K, h, (k : Int), (w : Int), p, q1, 7) = some 1 := by
  have hq := hMk.1.2.1
  intro d
  induction d with
  | zero =>
    intro w fuel p hw hf h1
    refine qLoop_x (fun kk => ?_) (by omega)
    show f_Lc_583 N G x Ω KK n k529 _ g s n ((q : Int) + 1) a al z10 K h k w p q1 7 = some 1
    unfold f_Lc_583
    rw [if_neg (by omega), ckI_p ⟨by omega, by omega⟩]
    exact hc p h1
  | succ d ih =>
    intro w fuel p hw hf h1
    obtain ⟨fu, rfl⟩ : ∃ f, fuel = f + 1 := ⟨fuel - 1, by omega⟩
    rw [qLoop_s]
    show f_Lc_583 N G x Ω KK n k529 (fun x2 x4 x5 x7 x8 x9 x10 x11 x12 x16 x18 p0 q0 c0 => qLoop _ fu (x2, x4, x5, x7, x8, x9, x10, x11, x12, x16, x18, p0, q0, c0)) g s n ((q : Int) + 1) a al z10 K h k w p q1 7 = some 1
    obtain ⟨p', e1, e2⟩ := s_shr (m := (q : Int) + 1 + (k : Int)) (w := 1 + (w : Int)) hy hN hs h1 hMk hK hk rfl ⟨by omega, by omega⟩
    unfold f_Lc_583
    rw [if_pos (by omega), ckI_p ⟨by omega, by omega⟩, ckI_p ⟨by omega, by omega⟩, kb2_p e1, hM.row (i := (w : Int)) (j := w) rfl (by omega), rdA_k rfl hk (vH_row hM (by omega) hk), if_pos (jP_vH (by omega) rfl), ckI_p ⟨by omega, by omega⟩]
    exact ih (w + 1) fu p' (by omega) (by omega) e2
theorem z_529 (hQ : oQ N G ρ x Ω) (hy : cLY G ρ x) (hN : 1000 < N) (hs : s = 0 ∨ s = 1) (hn : 1 ≤ n ∧ n ≤ 8) (hg : 0 ≤ g ∧ g < 40) (hMk : Mk l T D q n s g L sz) (hK : 1 ≤ K ∧ K ≤ sumN sz n) (hz : sumN sz n ≤ 1600) (hb : hBd sz g K L n) (hg0 : hA sz g K 0 ≤ 40) (hM : aMx KK n q1 a h r sz g K L) :
    ∀ (d k fuel : Nat) (p : qM), k + d = n → d < fuel → St G ρ x p l T D tr →
      qLoop (fun kk (z : Int × Int × Int × Int × Nat × Int × Int × Int × Nat × Int × qM × qM × Nat) => f_Lc_529 N G x Ω KK n (fun x2 x4 x5 x7 x8 x9 x10 x11 x12 x16 p0 q0 c0 => kk (x2, x4, x5, x7, x8, x9, x10, x11, x12, x16, p0, q0, c0)) z.1 z.2.1 z.2.2.1 z.2.2.2.1 z.2.2.2.2.1 z.2.2.2.2.2.1 z.2.2.2.2.2.2.1 z.2.2.2.2.2.2.2.1 z.2.2.2.2.2.2.2.2.1 z.2.2.2.2.2.2.2.2.2.1 z.2.2.2.2.2.2.2.2.2.2.1 z.2.2.2.2.2.2.2.2.2.2.2.1 z.2.2.2.2.2.2.2.2.2.2.2.2) fuel (g, s, (n : Int), (q : Int) + 1, a, sumN sz n, (if 0 < g then 1 else 0), K, h, (k : Int), p, q1, 7) = some 1 := by
  have hq := hMk.1.2.1
  intro d
  induction d with
  | zero =>
    intro k fuel p hk hf h1
    obtain rfl : k = n := by omega
    refine qLoop_x (fun kk => ?_) (by omega)
    show f_Lc_529 N G x Ω KK k _ g s k ((q : Int) + 1) a (sumN sz k) (if 0 < g then 1 else 0) K h k p q1 7 = some 1
    obtain ⟨p1, e1, h2⟩ := s_shr_no (K' := sumN sz k + 1) (w := 0) hy hN hs h1 hMk hn.1 (by omega)
    obtain ⟨p2, e2, h3⟩ := s_shr_no (K' := 0) (w := 0) hy hN hs h2 hMk hn.1 (by omega)
    unfold f_Lc_529
    rw [if_neg (by omega), ckI_p ⟨by omega, by omega⟩, kb2_p e1, if_pos rfl, kb2_p e2, if_pos rfl, kp_p]
    by_cases c : min K 1000 < K
    · rw [if_pos c]
    · have hK2 : K ≤ 1000 := by omega
      rw [if_neg c, ckI_p ⟨by omega, by omega⟩]
      obtain ⟨f1, f2⟩ := hMk.aft (tr := tr) hs hn hK hK2
      have hE := (E_all (num := (q : Int) + 1 + (k : Int)) (x := 0) hMk hs hn hK).2.1
      rw [← eK_3 hMk.1] at hE
      obtain ⟨u6, u8⟩ := hMk.uu hs hn.1
      have hv : ∀ i j, i < 3 → j < k → vK l (tps T) L s K i j = vH sz g K L k i j := by
        intro i j hi hj
        obtain ⟨k1, k2, k3⟩ := k_h (L := L) (K := K) hMk.1 hs u6 u8 hj
        rcases (show i = 0 ∨ i = 1 ∨ i = 2 by omega) with rfl | rfl | rfl
        · exact k1
        · exact k2
        · exact k3
      obtain ⟨-, ⟨ho, hw, hd⟩, -, ⟨-, -, u2, u4, -⟩, -⟩ := id hMk
      obtain ⟨p3, e3, h4⟩ := s_order (N := N) hy h3 ho hw hd u2 (by omega) hN (t0 := 9) (s := 1 - s) (pr := 100) (z0 := K) (mode := 0) ⟨by omega, by omega, by omega, by omega, by omega⟩ (by omega)
      rw [kb2_p e3, f1, ckI_p ⟨by omega, by omega⟩, if_pos rfl]
      unfold f_Lc_L712
      exact z_712 (U := tps T) hQ hMk.1 hN hs hn hg ⟨hK.1, hK2⟩ h4 f2 (by omega) hb hg0 hM hv 3 N 0 (by omega) (by omega) ⟨[], rfl, rfl⟩
  | succ d ih =>
    intro k fuel p hk hf h1
    have hk' : k < n := by omega
    obtain ⟨fu, rfl⟩ : ∃ f, fuel = f + 1 := ⟨fuel - 1, by omega⟩
    have b := hb k hk'
    rw [qLoop_s]
    show f_Lc_529 N G x Ω KK n (fun x2 x4 x5 x7 x8 x9 x10 x11 x12 x16 p0 q0 c0 => qLoop _ fu (x2, x4, x5, x7, x8, x9, x10, x11, x12, x16, p0, q0, c0)) g s n ((q : Int) + 1) a (sumN sz n) (if 0 < g then 1 else 0) K h k p q1 7 = some 1
    obtain ⟨p', e1, e2⟩ := s_shr (m := (q : Int) + 1 + (k : Int)) (w := 0) hy hN hs h1 hMk hK hk' rfl ⟨by omega, by omega⟩
    unfold f_Lc_529
    rw [if_pos (by omega), hM.row (i := 0) (j := 0) rfl (by decide), rdA_k rfl hk' (hM.2.2.2.1 k hk'), hM.row (i := 1) (j := 1) rfl (by decide), rdA_k rfl hk' (hM.2.2.2.2.1 k hk'), ckI_p ⟨by omega, by omega⟩, hM.row (i := 2) (j := 2) rfl (by decide), rdA_k rfl hk' (hM.2.2.2.2.2 k hk'), ckI_p ⟨by omega, by omega⟩, ckI_p ⟨by omega, by omega⟩, kb2_p e1, if_pos (show jP (hA sz g K k) (hB sz g K L n k) (hC sz g K L n k) 0 = hA sz g K k + hB sz g K L n k + hC sz g K L n k from rfl)]
    unfold f_Lc_L583
    exact z_583 hy hN hs hn hMk hK hM hk' (fun p2 h2 => ih (k + 1) fu p2 (by omega) (by omega) h2) 3 0 N p' (by omega) (by omega) e2
end LC3
