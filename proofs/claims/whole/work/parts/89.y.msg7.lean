/-! PURE: 'message', class -/
section FLTB
variable {n q : Nat} {B : Nat → Int} {v a0 a1 a2 md : Int}
def fbd (n : Nat) (x : LN) : Prop := 0 ≤ x.1 ∧ x.1 ≤ 8 * (n : Int) + 2
theorem lnBad_b {c : Int} (hq : q ≤ n) (hc : 1 ≤ c ∧ c ≤ 2) : fbd n (lnBad n B q c) := by
  have := tkA_le (B := B) hq
  show 0 ≤ 8 * (tkA n B q : Int) + c ∧ 8 * (tkA n B q : Int) + c ≤ 8 * (n : Int) + 2
  omega
theorem lnEnd_b (hq : q ≤ n) : fbd n (lnEnd n B q v a0 a1 a2 md) := by
  unfold lnEnd
  split
  · exact ⟨Int.le_refl _, by show (0 : Int) ≤ _; omega⟩
  · split
    · exact ⟨Int.le_refl _, by show (0 : Int) ≤ _; omega⟩
    · exact lnBad_b hq (by decide)
theorem lnNum_b {lo hi : Int} {k : Int → Nat → LN} (hq : q ≤ n) (hk : ∀ z q', q' ≤ n → fbd n (k z q')) : fbd n (lnNum n B q lo hi k) := by
  unfold lnNum
  split
  · split
    · exact hk _ _ (tkE_le hq).2
    · exact lnBad_b hq (by decide)
  · exact lnBad_b hq (by decide)
theorem lnOf_b (hq : q ≤ n) : fbd n (lnOf n B q) := by
  have he := (tkE_le (B := B) hq).2
  unfold lnOf
  split
  · exact lnBad_b hq (by decide)
  · split
    · refine lnNum_b he (fun t q1 h1 => lnNum_b h1 (fun z q2 h2 => lnNum_b h2 (fun pr q3 h3 => ?_)))
      unfold lnMd
      split
      · split
        · exact lnBad_b h3 (by decide)
        · exact lnEnd_b (tkE_le h3).2
      · exact lnEnd_b h3
    · split
      · exact lnNum_b he (fun t q1 h1 => lnEnd_b h1)
      · split
        · exact lnNum_b he (fun t q1 h1 => lnNum_b h1 (fun z q2 h2 => lnEnd_b h2))
        · split
          · exact lnNum_b he (fun t q1 h1 => lnEnd_b h1)
          · split
            · exact lnNum_b he (fun t q1 h1 => lnEnd_b h1)
            · exact lnEnd_b he
end FLTB
section MSG7
variable {N : Nat} {G : qG} {ρ : Nat → Nat × Nat} {x n k j : Nat} {μ ν : qM} {l : List (Nat → Int)} {T D : Nat → Int} {tr : Nat → Nat → Int} {S S' : MK} {B : Nat → Int}
def cMg (G : qG) (ρ : Nat → Nat × Nat) (x k : Nat) (B : Nat → Int) (S : MK) (μ : qM) : Prop :=
  cFl G ρ (gR G 700 x) μ S.1 S.2.1 S.2.2.1 S.2.2.2 ∧ cSt G ρ (gR G 701 x) μ ∧ cTx G (gR G 702 x) μ k B ∧ gI μ 601 (gR G 702 x) = 0 ∧ in32 (gI μ 210 (gR G 700 x))
theorem dRf.tape (hy : cLY G ρ x) {fs as : Nat → Prop} (has : ∀ f, as f → f = 609) (hd : dRf G (gR G 702 x) fs as μ ν) : dP ρ (pTa x) μ ν :=
  ⟨fun g a y => hd.1 _ _ (fun e => y (by rw [e.1, hy.2.2.2.2.2.1]; rfl)), fun a i y => hd.2.1 _ _ (fun f hf e => y (by rw [e, has f hf, hy.2.2.2.2.2.2.2]; rfl)), fun a i _ => hd.2.2 a i⟩
theorem hA_of (hy : cLY G ρ x) : gR G 600 (gR G 702 x) ≠ gR G 609 (gR G 702 x) := role_ne hy.2.2.2.2.2.2.1 hy.2.2.2.2.2.2.2 (fun e => absurd (show (600 : Nat) = 609 from congrArg Prod.snd e) (by decide))
theorem cMg.tp {fs as : Nat → Prop} (hy : cLY G ρ x) (hl : S.1.length ≤ 60) (h : cMg G ρ x k B S μ) (has : ∀ f, as f → f = 609) (h1 : ¬ fs 601) (h2 : ¬ fs 210) (hx : cTx G (gR G 702 x) ν k B) (hd : dRf G (gR G 702 x) fs as μ ν) : cMg G ρ x k B S ν := by
  obtain ⟨⟨A, V, nx, hf⟩, a2, a3, a4, a5⟩ := h
  have hp := dRf.tape hy has hd
  exact ⟨⟨A, V, nx, hf.frm hy.1 hl hp (fun k _ q => hy.2.2.2.1 q.symm)⟩, a2.fr hy.2.1 (Ne.symm hy.2.2.2.2.1) (hp.role (fun _ q => q)), hx, by rw [hd.1 _ _ (fun e => h1 e.2)]; exact a4, by rw [hd.1 _ _ (fun e => h2 e.2)]; exact a5⟩
theorem cMg.ln (hy : cLY G ρ x) (hl : S.1.length ≤ 60) (h : cMg G ρ x k B S μ) (hd : dRf G (gR G 702 x) lnF lnA μ ν) : cMg G ρ x k B S ν :=
  h.tp hy hl (fun _ q => q) (by unfold lnF; omega) (by unfold lnF; omega) (h.2.2.1.ln (hA_of hy) hd) hd
theorem cMg.fl (hy : cLY G ρ x) (h : cMg G ρ x k B S μ) (hd : dFm ρ (gR G 700 x) μ ν) (hf : cFl G ρ (gR G 700 x) ν S'.1 S'.2.1 S'.2.2.1 S'.2.2.2) : cMg G ρ x k B S' ν := by
  obtain ⟨-, a2, a3, a4, a5⟩ := h
  have p1 : (ρ (gR G 702 x)).1 ≠ gR G 700 x := by rw [hy.2.2.2.2.2.1]; exact hy.2.2.2.1
  have p2 : (ρ (gR G 600 (gR G 702 x))).1 ≠ gR G 700 x := by rw [hy.2.2.2.2.2.2.1]; exact hy.2.2.2.1
  exact ⟨hf, a2.fr hy.2.1 (Ne.symm hy.2.2.1) hd.1, ⟨by rw [hd.1.1 _ _ p1]; exact a3.1, a3.2.1, fun j hj => by rw [hd.1.2.1 _ _ p2]; exact a3.2.2 j hj⟩, by rw [hd.1.1 _ _ p1]; exact a4, hd.2 a5⟩
theorem z_check7 (hy : cLY G ρ x) (hl : S.1.length ≤ 60) (h : cMg G ρ x k B S μ) (h3 : gI μ 603 (gR G 702 x) = 0) (h7 : gI μ 607 (gR G 702 x) = 1) (hN : 1000 < N) {x1 : Int} :
    ∃ j mem, mStop k B j ∧ cMg G ρ x k B S mem ∧ (((lnA' k B j).1 ≠ 0 ∧ f_X7_message_L35 N G x x1 0 μ = some (-2 - (lnA' k B j).1, mem)) ∨ ((lnA' k B j).1 = 0 ∧ f_X7_message_L35 N G x x1 0 μ = f_X7_message_79 N G x x1 mem)) := by
  have k500 := h.2.2.1.2.1
  unfold f_X7_message_L35
  refine qLoop_inv
    (fun i st => ∃ mem, st = (x, x1, (i : Int), mem) ∧ cMg G ρ x k B S mem ∧ ((gI mem 607 (gR G 702 x) = 1 ∧ gI mem 603 (gR G 702 x) = (qAt k B i : Int) ∧ lnGo k B i) ∨ (gI mem 607 (gR G 702 x) = 0 ∧ ∃ j, mStop k B j ∧ (lnA' k B j).1 = 0)))
    (fun r => ∃ j mem, mStop k B j ∧ cMg G ρ x k B S mem ∧ (((lnA' k B j).1 ≠ 0 ∧ r = some (-2 - (lnA' k B j).1, mem)) ∨ ((lnA' k B j).1 = 0 ∧ r = f_X7_message_79 N G x x1 mem)))
    130 ?_ ?_ 130 0 N _ (by omega) (by omega) ⟨μ, rfl, h, Or.inl ⟨h7, h3, fun i hi => by omega⟩⟩
  · rintro i st hi ⟨mem, rfl, hc, hh⟩
    rcases hh with ⟨g7, g3, hg⟩ | ⟨g7, jj, hs, h0⟩
    · obtain ⟨qb1, qb2⟩ := qAt_bd hg
      obtain ⟨ν, r, e1, e2, e3⟩ := z_readLine6 (N := N) (hA_of hy) hc.2.2.1 g3 qb1 hN
      have hc2 := hc.ln hy hl e2
      rcases e3 with ⟨z0, rfl, c3, c7, c8, c10, -, -, -⟩ | ⟨z0, rfl, c11⟩
      · obtain ⟨-, -, b3, b4⟩ := lnOf_ok qb1 z0
        refine Or.inr ⟨_, ⟨ν, rfl, hc2, ?_⟩, fun kk => ?_⟩
        · rcases b4 with ⟨b4, -⟩ | ⟨b4, -⟩
          · exact Or.inl ⟨by rw [c7]; exact b4, c3, hg.s z0 b4⟩
          · exact Or.inr ⟨by rw [c7]; exact b4, i, ⟨hg, Or.inr ⟨z0, b4⟩⟩, z0⟩
        · show f_X7_message_35 N G _ x x1 (i : Int) mem = _
          unfold f_X7_message_35
          rw [if_pos (by omega), g7, if_neg (by decide), kb2_p e1, if_neg (by decide), ckI_p ⟨by omega, by omega⟩, cast1]
      · have fb := lnOf_b (n := k) (B := B) qb1
        unfold fbd at fb
        refine Or.inl ⟨_, ⟨i, ν, ⟨hg, Or.inl z0⟩, hc2, Or.inl ⟨z0, rfl⟩⟩, fun kk => ?_⟩
        show f_X7_message_35 N G _ x x1 (i : Int) mem = _
        unfold f_X7_message_35
        rw [if_pos (by omega), g7, if_neg (by decide), kb2_p e1, if_pos rfl, c11, ckI_p ⟨by omega, by omega⟩]
        rfl
    · refine Or.inl ⟨_, ⟨jj, mem, hs, hc, Or.inr ⟨h0, rfl⟩⟩, fun kk => ?_⟩
      show f_X7_message_35 N G _ x x1 (i : Int) mem = _
      unfold f_X7_message_35
      rw [if_pos (by omega), g7, if_pos rfl]
  · rintro st ⟨mem, rfl, hc, hh⟩
    rcases hh with ⟨g7, g3, hg⟩ | ⟨g7, jj, hs, h0⟩
    · obtain ⟨qb1, qb2⟩ := qAt_bd hg
      omega
    · refine ⟨_, ⟨jj, mem, hs, hc, Or.inr ⟨h0, rfl⟩⟩, fun kk => ?_⟩
      show f_X7_message_35 N G _ x x1 ((130 : Nat) : Int) mem = _
      unfold f_X7_message_35
      rw [if_pos (by decide), g7, if_pos rfl]
theorem z_dos7 (hy : cLY G ρ x) (h : cMg G ρ x k B S μ) (hk : kOk S) (h4 : S.2.1 4 ≤ 1999999800) (h3 : gI μ 603 (gR G 702 x) = 0) (h7 : gI μ 607 (gR G 702 x) = 1) (hs : mStop k B j) (h0 : (lnA' k B j).1 = 0) (hN : 1000 < N) :
    ∃ ν, f_X7_message_L91 N G x 0 0 μ = some ((msD k B S (j + 1)).2, ν) ∧ cMg G ρ x k B (msD k B S (j + 1)).1 ν ∧ kOk (msD k B S (j + 1)).1 ∧ (msD k B S (j + 1)).1.2.1 4 ≤ S.2.1 4 + 130 := by
  have k500 := h.2.2.1.2.1
  have jb := qAt_bd hs.1
  have stop : (lnA' k B j).2.2.2.2.2.2.2 = 0 := by
    rcases hs.2 with q | q
    · exact absurd h0 q
    · exact q.2
  unfold f_X7_message_L91
  refine qLoop_inv
    (fun i st => ∃ mem, st = (x, (msD k B S i).2, (i : Int), mem) ∧ cMg G ρ x k B (msD k B S i).1 mem ∧ kOk (msD k B S i).1 ∧ (msD k B S i).1.2.1 4 ≤ S.2.1 4 + (i : Int) ∧ ((gI mem 607 (gR G 702 x) = 1 ∧ gI mem 603 (gR G 702 x) = (qAt k B i : Int) ∧ i ≤ j) ∨ (gI mem 607 (gR G 702 x) = 0 ∧ i = j + 1)))
    (fun r => ∃ ν, r = some ((msD k B S (j + 1)).2, ν) ∧ cMg G ρ x k B (msD k B S (j + 1)).1 ν ∧ kOk (msD k B S (j + 1)).1 ∧ (msD k B S (j + 1)).1.2.1 4 ≤ S.2.1 4 + 130)
    (j + 1) ?_ ?_ (j + 1) 0 N _ (by omega) (by omega) ⟨μ, rfl, h, hk, by show S.2.1 4 ≤ S.2.1 4 + ((0 : Nat) : Int); omega, Or.inl ⟨h7, h3, by omega⟩⟩
  · rintro i st hi ⟨mem, rfl, hc, hok, ht4, hh⟩
    rcases hh with ⟨g7, g3, hij⟩ | ⟨-, e⟩
    · have hg : lnGo k B i := fun a ha => hs.1 a (by omega)
      obtain ⟨qb1, qb2⟩ := qAt_bd hg
      have zi : (lnA' k B i).1 = 0 := by
        by_cases y : i = j
        · rw [y]; exact h0
        · exact (hs.1 i (by omega)).1
      have hl60 := hok.1.lo.1
      obtain ⟨ν, r, e1, e2, e3⟩ := z_readLine6 (N := N) (hA_of hy) hc.2.2.1 g3 qb1 hN
      have hc2 := hc.ln hy hl60 e2
      rcases e3 with ⟨z0, rfl, c3, c7, c8, c10, d0, d1, d2⟩ | ⟨z0, -, -⟩
      · obtain ⟨b1, b2, b3, b4⟩ := lnOf_ok qb1 z0
        obtain ⟨ξ, u1, u2, u3, u4, u5⟩ := z_doLine7 (N := N) (v := (lnA' k B i).2.1) (a := gR G 609 (gR G 702 x)) (a0 := (lnA' k B i).2.2.1) (a1 := (lnA' k B i).2.2.2.1) (a2 := (lnA' k B i).2.2.2.2.1) (md := (lnA' k B i).2.2.2.2.2.1) hy.1 hc2.1 hok (by omega) hc2.2.2.2.2 b1 d0 d1 d2 c10 b2 hN
        have p1 : (ρ (gR G 702 x)).1 ≠ gR G 700 x := by rw [hy.2.2.2.2.2.1]; exact hy.2.2.2.1
        have hc3 : cMg G ρ x k B (msD k B S (i + 1)).1 ξ := hc2.fl hy u2 u3
        have m2 := msD_2 (n := k) (B := B) (S := S) i
        have dr := doA_2 (v := (lnA' k B i).2.1) (a0 := (lnA' k B i).2.2.1) (a1 := (lnA' k B i).2.2.2.1) (a2 := (lnA' k B i).2.2.2.2.1) (md := (lnA' k B i).2.2.2.2.2.1) (S := (msD k B S i).1)
        have eM : (msD k B S (i + 1)).2 = (msD k B S i).2 + (doA (lnA' k B i).2.1 (lnA' k B i).2.2.1 (lnA' k B i).2.2.2.1 (lnA' k B i).2.2.2.2.1 (lnA' k B i).2.2.2.2.2.1 (msD k B S i).1).2 := rfl
        refine Or.inr ⟨_, ⟨ξ, rfl, hc3, u4, ?_, ?_⟩, fun kk => ?_⟩
        · show (doA _ _ _ _ _ (msD k B S i).1).1.2.1 4 ≤ _
          omega
        · rw [u2.1.1 _ _ p1, u2.1.1 _ _ p1, c7, c3]
          by_cases y : i = j
          · subst y
            exact Or.inr ⟨stop, rfl⟩
          · exact Or.inl ⟨(hs.1 i (by omega)).2, rfl, by omega⟩
        · show f_X7_message_91 N G _ x (msD k B S i).2 (i : Int) mem = _
          have u1' : f_X7_doLine N G x (gI ν 608 (gR G 702 x)) (gR G 609 (gR G 702 x)) ν = some ((doA (lnA' k B i).2.1 (lnA' k B i).2.2.1 (lnA' k B i).2.2.2.1 (lnA' k B i).2.2.2.2.1 (lnA' k B i).2.2.2.2.2.1 (msD k B S i).1).2, ξ) := by rw [c8]; exact u1
          unfold f_X7_message_91 f_X7_message_142
          rw [if_pos (by omega), g7, if_neg (by decide), kb2_p e1, if_neg (by decide), kb2_p u1', eM]
          generalize (doA (lnA' k B i).2.1 (lnA' k B i).2.2.1 (lnA' k B i).2.2.2.1 (lnA' k B i).2.2.2.2.1 (lnA' k B i).2.2.2.2.2.1 (msD k B S i).1).2 = w at *
          by_cases y : w = 0
          · rw [if_pos y, ckI_p ⟨by omega, by omega⟩, cast1, y, Int.add_zero]
          · rw [if_neg y, ckI_p ⟨by omega, by omega⟩, ckI_p ⟨by omega, by omega⟩, cast1, show w = 1 by omega]
      · exact absurd zi z0
    · omega
  · rintro st ⟨mem, rfl, hc, hok, ht4, hh⟩
    rcases hh with ⟨-, -, e⟩ | ⟨g7, -⟩
    · omega
    · refine ⟨_, ⟨mem, rfl, hc, hok, by omega⟩, fun kk => ?_⟩
      show f_X7_message_91 N G _ x (msD k B S (j + 1)).2 ((j + 1 : Nat) : Int) mem = _
      unfold f_X7_message_91
      rw [if_pos (by omega), g7, if_pos rfl]
/-- 'message', class -/
theorem z_message7 (hy : cLY G ρ x) (h : cR G ρ x μ S.1 S.2.1 S.2.2.1 S.2.2.2 n B) (hk : kOk S) (h4 : S.2.1 4 ≤ 1999999800) (h210 : in32 (gI μ 210 (gR G 700 x))) (hN : 1000 < N) (x1 : Int) :
    ∃ ν r, f_X7_message N G x x1 μ = some (r, ν) ∧ (¬ (0 ≤ x1 ∧ x1 ≤ (n : Int)) → r = -1 ∧ cR G ρ x ν S.1 S.2.1 S.2.2.1 S.2.2.2 n B) ∧ (0 ≤ x1 ∧ x1 ≤ (n : Int) → ∃ j, mStop x1.toNat B j ∧ (((lnA' x1.toNat B j).1 ≠ 0 ∧ r = -2 - (lnA' x1.toNat B j).1 ∧ cR G ρ x ν S.1 S.2.1 S.2.2.1 S.2.2.2 0 B) ∨
      ((lnA' x1.toNat B j).1 = 0 ∧ r = (msD x1.toNat B S (j + 1)).2 ∧ cR G ρ x ν (msD x1.toNat B S (j + 1)).1.1 (msD x1.toNat B S (j + 1)).1.2.1 (msD x1.toNat B S (j + 1)).1.2.2.1 (msD x1.toNat B S (j + 1)).1.2.2.2 0 B ∧ kOk (msD x1.toNat B S (j + 1)).1 ∧ (msD x1.toNat B S (j + 1)).1.2.1 4 ≤ S.2.1 4 + 130))) := by
  obtain ⟨h1, h2, t1, t2, t3⟩ := id h
  have hl60 := hk.1.lo.1
  unfold f_X7_message
  by_cases c : 0 ≤ x1 ∧ x1 ≤ (n : Int)
  · rw [if_neg (by omega), t1, if_neg (by omega), kp_p]
    obtain ⟨k, hk'⟩ : ∃ k : Nat, x1 = (k : Int) := ⟨x1.toNat, by omega⟩
    subst hk'
    have m500 : min (k : Int) 500 = (k : Int) := by omega
    -- rewound
    have rw0 : ∀ α : qM, f_X6_rewind N G (gR G 702 x) (k : Int) α = some (sI (sI (sI α 602 (gR G 702 x) (k : Int)) 603 (gR G 702 x) 0) 607 (gR G 702 x) 1) := by
      intro α
      unfold f_X6_rewind
      rw [kp_p, kp_p, kp_p, kp_p, m500]
    generalize hM : sI (sI (sI (sI μ 601 (gR G 702 x) 0) 602 (gR G 702 x) (k : Int)) 603 (gR G 702 x) 0) 607 (gR G 702 x) 1 = M
    have dM : dRf G (gR G 702 x) (fun g => 601 ≤ g ∧ g ≤ 611) noA μ M := by
      rw [← hM]
      exact (((dRf.sI (by decide)).tr (dRf.sI (by decide))).tr (dRf.sI (by decide))).tr (dRf.sI (by decide))
    have hpM := dRf.tape hy (as := noA) (fun f q => q.elim) dM
    have cMg0 : cMg G ρ x k B S M := by
      obtain ⟨A, V, nx, hf⟩ := h1
      refine ⟨⟨A, V, nx, hf.frm hy.1 hl60 hpM (fun k _ q => hy.2.2.2.1 q.symm)⟩, h2.fr hy.2.1 (Ne.symm hy.2.2.2.2.1) (hpM.role (fun _ q => q)), ⟨?_, by omega, fun j hj => ?_⟩, ?_, ?_⟩
      · rw [← hM, gI_f (by decide), gI_f (by decide), gI_s]
      · rw [dM.2.1 _ _ (fun f q => q.elim)]; exact (t3 j (by omega)).1
      · rw [← hM, gI_f (by decide), gI_f (by decide), gI_f (by decide), gI_s]
      · rw [dM.1 _ _ (fun e => by omega)]; exact h210
    obtain ⟨j, mem, hs, hc, hh⟩ := z_check7 (N := N) (x1 := (k : Int)) hy hl60 cMg0 (by rw [← hM, gI_f (by decide), gI_s]) (by rw [← hM, gI_s]) hN
    have back : ∀ {S' : MK} {α : qM}, cMg G ρ x k B S' α → cR G ρ x α S'.1 S'.2.1 S'.2.2.1 S'.2.2.2 0 B := fun q => ⟨q.1, q.2.1, q.2.2.2.1, Nat.zero_le _, fun j hj => by cases hj⟩
    rw [kb_p (rw0 _), hM, Int.toNat_natCast]
    rcases hh with ⟨z0, e⟩ | ⟨z0, e⟩
    · rw [e]
      exact ⟨mem, _, rfl, fun q => absurd c q, fun _ => ⟨j, hs, Or.inl ⟨z0, rfl, back hc⟩⟩⟩
    · rw [e]
      unfold f_X7_message_79
      rw [kb_p (rw0 _)]
      generalize hM2 : sI (sI (sI mem 602 (gR G 702 x) (k : Int)) 603 (gR G 702 x) 0) 607 (gR G 702 x) 1 = M2
      have dM2 : dRf G (gR G 702 x) (fun g => 602 ≤ g ∧ g ≤ 611) noA mem M2 := by
        rw [← hM2]
        exact ((dRf.sI (by decide)).tr (dRf.sI (by decide))).tr (dRf.sI (by decide))
      have hx2 : cTx G (gR G 702 x) M2 k B := ⟨by rw [← hM2, gI_f (by decide), gI_f (by decide), gI_s], hc.2.2.1.2.1, fun j hj => by rw [dM2.2.1 _ _ (fun f q => q.elim)]; exact hc.2.2.1.2.2 j hj⟩
      have hc2 := hc.tp hy hl60 (fun f q => q.elim) (by decide) (by decide) hx2 dM2
      obtain ⟨ν, g1, g2, g3, g4⟩ := z_dos7 (N := N) hy hc2 hk h4 (by rw [← hM2, gI_f (by decide), gI_s]) (by rw [← hM2, gI_s]) hs z0 hN
      exact ⟨ν, _, g1, fun q => absurd c q, fun _ => ⟨j, hs, Or.inr ⟨z0, rfl, back g2, g3, g4⟩⟩⟩
  · refine ⟨μ, -1, ?_, fun _ => ⟨rfl, h⟩, fun q => absurd q c⟩
    by_cases d : x1 < 0
    · rw [if_pos d]
    · rw [if_neg d, t1, if_pos (by omega)]
end MSG7
