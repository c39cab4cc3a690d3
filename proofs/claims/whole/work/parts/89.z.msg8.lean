/-! PURE: 'message', reference -/
section MSG8
variable {N : Nat} {G : qG} {m n k j : Nat} {μ ν : qM} {l : List (Nat → Int)} {T D : Nat → Int} {tr : Nat → Nat → Int} {S : MK} {B : Nat → Int}
theorem mR.ms {fs as : Nat → Prop} (hL : mL G m) (h : mR G m μ l T D tr n B) (hd : dRf G m fs as μ ν) (h22 : ¬ fs 822) (has : ∀ f, as f → f = 830) : mR G m ν l T D tr n B := by
  have e : ∀ g, (g = 800 ∨ g = 802 ∨ g = 821) → ∀ i, gA ν (gR G g m) i = gA μ (gR G g m) i := by
    intro g hg i
    refine hd.2.1 _ _ (fun f hf => ?_)
    rw [has f hf]
    rcases hg with rfl | rfl | rfl <;> exact hL.ne (by decide) (by decide) (by decide)
  exact ⟨⟨by rw [e 800 (by decide)]; exact h.1.1, fun i k hi hk => by rw [e 800 (by decide)]; exact h.1.2 i k hi hk⟩, fun j a b => by rw [e 800 (by decide)]; exact h.2.1 j a b, fun t ht => by rw [e 802 (by decide)]; exact h.2.2.1 t ht, fun i w hi hw => by rw [e 800 (by decide)]; exact h.2.2.2.1 i w hi hw, by rw [hd.1 _ _ (fun y => h22 y.2)]; exact h.2.2.2.2.1, h.2.2.2.2.2.1, fun j hj => by rw [e 821 (by decide)]; exact h.2.2.2.2.2.2 j hj⟩
/-- the rows of the lines before i -/
def mRows (G : qG) (m k : Nat) (B : Nat → Int) (i : Nat) (μ : qM) : Prop := ∀ a, a < i → mRow G m μ a (lnA' k B a).2.1 (lnA' k B a).2.2.1 (lnA' k B a).2.2.2.1 (lnA' k B a).2.2.2.2.1 (lnA' k B a).2.2.2.2.2.1
theorem mRow.fr {a i : Nat} {v a0 a1 a2 md : Int} (h : mRow G m μ a v a0 a1 a2 md) (hd : ∀ c, c < 5 * i → gA ν (gR G 830 m) c = gA μ (gR G 830 m) c) (ha : a < i) : mRow G m ν a v a0 a1 a2 md :=
  ⟨by rw [hd _ (by omega)]; exact h.1, fun y => by rw [hd _ (by omega)]; exact h.2.1 y, fun y => by rw [hd _ (by omega)]; exact h.2.2.1 y, fun y => by rw [hd _ (by omega), hd _ (by omega)]; exact h.2.2.2 y⟩
/-- the lines are read -/
theorem z_check8 (hL : mL G m) (h : mR G m μ S.1 S.2.1 S.2.2.1 S.2.2.2 0 B) (hx : mTx G m μ k B) (h28 : gI μ 828 m = 0) (h31 : gI μ 831 m = 0) (hk : mTk m μ k B 0) (hN : 1000 < N) :
    ∃ j mem, mStop k B j ∧ mR G m mem S.1 S.2.1 S.2.2.1 S.2.2.2 0 B ∧ (((lnA' k B j).1 ≠ 0 ∧ f_X8_message_L52 N G m 1 μ = some (-2 - (lnA' k B j).1, mem)) ∨ ((lnA' k B j).1 = 0 ∧ gI mem 831 m = ((j + 1 : Nat) : Int) ∧ mRows G m k B (j + 1) mem ∧ f_X8_message_L52 N G m 1 μ = f_X8_message_L152 N G m 0 0 mem)) := by
  have k500 := hx.2.1
  unfold f_X8_message_L52
  refine qLoop_inv
    (fun i st => ∃ z mem, st = (m, z, mem) ∧ mR G m mem S.1 S.2.1 S.2.2.1 S.2.2.2 0 B ∧ mTx G m mem k B ∧ ((z = 1 ∧ gI mem 828 m = 0 ∧ gI mem 831 m = (i : Int) ∧ mTk m mem k B (qAt k B i) ∧ lnGo k B i ∧ mRows G m k B i mem) ∨ (z = 0 ∧ ∃ j, mStop k B j ∧ (((lnA' k B j).1 ≠ 0 ∧ mFlt m mem (lnA' k B j).1) ∨ ((lnA' k B j).1 = 0 ∧ gI mem 828 m = 0 ∧ gI mem 831 m = ((j + 1 : Nat) : Int) ∧ mRows G m k B (j + 1) mem)))))
    (fun r => ∃ j mem, mStop k B j ∧ mR G m mem S.1 S.2.1 S.2.2.1 S.2.2.2 0 B ∧ (((lnA' k B j).1 ≠ 0 ∧ r = some (-2 - (lnA' k B j).1, mem)) ∨ ((lnA' k B j).1 = 0 ∧ gI mem 831 m = ((j + 1 : Nat) : Int) ∧ mRows G m k B (j + 1) mem ∧ r = f_X8_message_L152 N G m 0 0 mem)))
    130 ?_ ?_ 130 0 N _ (by omega) (by omega) ⟨1, μ, rfl, h, hx, Or.inl ⟨rfl, h28, h31, hk, fun i hi => by omega, fun a ha => by omega⟩⟩
  · rintro i st hi ⟨z, mem, rfl, hm, hxm, hh⟩
    rcases hh with ⟨rfl, g28, g31, gk, hg, hrw⟩ | ⟨rfl, jj, hs, hh⟩
    · refine Or.inr ?_
      obtain ⟨qb1, qb2⟩ := qAt_bd hg
      obtain ⟨ν, r, e1, e2, e3, e4⟩ := z_readsLine8 (N := N) hL hxm gk qb1 g28 g31 hi hN
      have hm2 := hm.ms hL e2 (by unfold mF; omega) (fun _ q => q)
      have hx2 := hxm.ln hL e2
      have g31' : gI ν 831 m = (i : Int) := by rw [e2.1 _ _ (fun y => by have := y.2; unfold mF at this; omega)]; exact g31
      rcases e4 with ⟨rfl, f28, qf, v, a0, a1, a2, md, ex, qfn, vb, fk, fr⟩ | ⟨rfl, z0, zf⟩
      · have eL : lnA' k B i = lnEnd k B qf v a0 a1 a2 md := ex
        -- the memory behind the count
        have d31 : dRf G m (fun g => g = 831) noA ν (sI ν 831 m ((i : Int) + 1)) := dRf.sI rfl
        have hm3 := hm2.ms hL d31 (by decide) (fun _ q => q.elim)
        have hx3 : mTx G m (sI ν 831 m ((i : Int) + 1)) k B := hx2.fr d31 (by decide) (fun _ q => q.elim)
        have k3 : mTk m (sI ν 831 m ((i : Int) + 1)) k B qf := ⟨by rw [gI_f (by decide)]; exact fk.1, by rw [gI_f (by decide)]; exact fk.2.1, by rw [gI_f (by decide)]; exact fk.2.2.1, fun y => by rw [gI_f (by decide)]; exact fk.2.2.2 y⟩
        have c28 : gI (sI ν 831 m ((i : Int) + 1)) 828 m = 0 := by rw [gI_f (by decide)]; exact f28
        have c31 : gI (sI ν 831 m ((i : Int) + 1)) 831 m = ((i + 1 : Nat) : Int) := by rw [gI_s]; omega
        have c26 : gI (sI ν 831 m ((i : Int) + 1)) 826 m = tkK k B qf := k3.2.2.1
        have pre : ∀ kk, f_X8_message_52 N G kk m 1 mem = f_X8_message_75 N G kk m 1 (sI ν 831 m ((i : Int) + 1)) := by
          intro kk
          unfold f_X8_message_52
          rw [if_neg (by decide), kb2_p e1, if_neg (by decide), g31', ckI_p ⟨by omega, by omega⟩, kp_p]
        have rows : ∀ {α : qM}, (∀ c, gA α (gR G 830 m) c = gA ν (gR G 830 m) c) → (lnA' k B i).2.1 = v → (lnA' k B i).2.2.1 = a0 → (lnA' k B i).2.2.2.1 = a1 → (lnA' k B i).2.2.2.2.1 = a2 → (lnA' k B i).2.2.2.2.2.1 = md → mRows G m k B (i + 1) α := by
          intro α hα w1 w2 w3 w4 w5 a ha
          by_cases y : a = i
          · subst y
            rw [w1, w2, w3, w4, w5]
            exact fr.fr (fun c _ => hα c) (i := a + 1) (by omega)
          · exact (hrw a (by omega)).fr (fun c hc => (hα c).trans (e3 c hc)) (i := i) (by omega)
        by_cases K0 : tkK k B qf = 0
        · have eL2 : lnA' k B i = (0, v, a0, a1, a2, md, tkE k B qf, 0) := by rw [eL]; unfold lnEnd; rw [if_neg (by omega), if_pos K0]
          refine ⟨_, ⟨0, _, rfl, hm3, hx3, Or.inr ⟨rfl, i, ⟨hg, Or.inr ⟨by rw [eL2], by rw [eL2]⟩⟩, Or.inr ⟨by rw [eL2], c28, c31, rows (fun c => rfl) (by rw [eL2]) (by rw [eL2]) (by rw [eL2]) (by rw [eL2]) (by rw [eL2])⟩⟩⟩, fun kk => ?_⟩
          show f_X8_message_52 N G _ m 1 mem = _
          rw [pre]
          unfold f_X8_message_75 f_X8_message_111 f_X8_message_112
          rw [if_neg (by decide), c26, if_pos K0, if_pos rfl]
        · by_cases K3 : tkK k B qf = 3
          · have eL2 : lnA' k B i = (0, v, a0, a1, a2, md, tkE k B qf, 1) := by rw [eL]; unfold lnEnd; rw [if_pos K3]
            have hg' : lnGo k B (i + 1) := hg.s (by rw [eL2]) (by rw [eL2])
            have qe : qAt k B (i + 1) = tkE k B qf := by
              show (lnA' k B i).2.2.2.2.2.2.1 = _
              rw [eL2]
            obtain ⟨ξ, b1, b2, b3⟩ := z_steps8 (N := N) hx3 (q := qAt k B (i + 1)) (by rw [qe]; exact k3.2.1) (qAt_bd hg').1 hN
            have kf : ∀ g, g = 828 ∨ g = 831 → gI ξ g m = gI (sI ν 831 m ((i : Int) + 1)) g m := fun g hgg => b2.1 _ _ (fun y => by have := y.2; unfold stF at this; omega)
            refine ⟨_, ⟨1, ξ, rfl, hm3.ms hL b2 (by unfold stF; omega) (fun _ q => q.elim), hx3.fr b2 (by unfold stF; omega) (fun _ q => q.elim), Or.inl ⟨rfl, by rw [kf 828 (Or.inl rfl)]; exact c28, by rw [kf 831 (Or.inr rfl)]; exact c31, b3, hg', rows (fun c => b2.2.1 _ _ (fun f y => y.elim)) (by rw [eL2]) (by rw [eL2]) (by rw [eL2]) (by rw [eL2]) (by rw [eL2])⟩⟩, fun kk => ?_⟩
            show f_X8_message_52 N G _ m 1 mem = _
            rw [pre]
            unfold f_X8_message_75 f_X8_message_100 f_X8_message_112
            rw [if_neg (by decide), c26, if_neg K0, if_pos K3, kb2_p (z_must1 c28 1), if_neg (by decide), if_neg (by decide), kb_p b1]
          · have eL2 : lnA' k B i = lnBad k B qf 1 := by rw [eL]; unfold lnEnd; rw [if_neg K3, if_neg K0]
            have z0 : (lnA' k B i).1 ≠ 0 := by rw [eL2]; exact lnBad_1 (by decide)
            obtain ⟨ξ, b1, b2, b3, b4⟩ := z_must0 (N := N) (G := G) c28 k3 (c := 1) (by decide)
            refine ⟨_, ⟨0, ξ, rfl, hm3.ms hL b2 (by unfold mF; omega) (fun _ q => q), hx3.ln hL b2, Or.inr ⟨rfl, i, ⟨hg, Or.inl z0⟩, Or.inl ⟨z0, by rw [eL2]; exact b4⟩⟩⟩, fun kk => ?_⟩
            show f_X8_message_52 N G _ m 1 mem = _
            rw [pre]
            unfold f_X8_message_75 f_X8_message_100 f_X8_message_111 f_X8_message_112
            rw [if_neg (by decide), c26, if_neg K0, if_neg K3, kb2_p b1, if_pos rfl, if_pos rfl]
      · refine ⟨_, ⟨0, ν, rfl, hm2, hx2, Or.inr ⟨rfl, i, ⟨hg, Or.inl z0⟩, Or.inl ⟨z0, zf⟩⟩⟩, fun kk => ?_⟩
        show f_X8_message_52 N G _ m 1 mem = _
        unfold f_X8_message_52 f_X8_message_75 f_X8_message_111 f_X8_message_112
        rw [if_neg (by decide), kb2_p e1, if_pos rfl, if_pos rfl, if_pos rfl]
    · refine Or.inl ?_
      rcases hh with ⟨z0, zf⟩ | ⟨z0, g28, g31, hrw⟩
      · have fb := lnOf_b (n := k) (B := B) (qAt_bd hs.1).1
        unfold fbd at fb
        have fb' : 0 ≤ (lnA' k B jj).1 ∧ (lnA' k B jj).1 ≤ 8 * (k : Int) + 2 := fb
        obtain ⟨z1, z2⟩ := zf
        refine ⟨_, ⟨jj, mem, hs, hm, Or.inl ⟨z0, rfl⟩⟩, fun kk => ?_⟩
        show f_X8_message_52 N G _ m 0 mem = _
        unfold f_X8_message_52
        rw [if_pos rfl, if_pos (by omega), ckI_p ⟨by omega, by omega⟩, ckI_p ⟨by omega, by omega⟩, ckI_p ⟨by omega, by omega⟩, z2]
      · refine ⟨_, ⟨jj, mem, hs, hm, Or.inr ⟨z0, g31, hrw, rfl⟩⟩, fun kk => ?_⟩
        show f_X8_message_52 N G _ m 0 mem = _
        unfold f_X8_message_52
        rw [if_pos rfl, if_neg (by omega)]
  · rintro st ⟨z, mem, rfl, hm, hxm, hh⟩
    rcases hh with ⟨rfl, g28, g31, gk, hg, hrw⟩ | ⟨rfl, jj, hs, hh⟩
    · obtain ⟨qb1, qb2⟩ := qAt_bd hg
      omega
    · rcases hh with ⟨z0, zf⟩ | ⟨z0, g28, g31, hrw⟩
      · have fb := lnOf_b (n := k) (B := B) (qAt_bd hs.1).1
        unfold fbd at fb
        have fb' : 0 ≤ (lnA' k B jj).1 ∧ (lnA' k B jj).1 ≤ 8 * (k : Int) + 2 := fb
        obtain ⟨z1, z2⟩ := zf
        refine ⟨_, ⟨jj, mem, hs, hm, Or.inl ⟨z0, rfl⟩⟩, fun kk => ?_⟩
        show f_X8_message_52 N G _ m 0 mem = _
        unfold f_X8_message_52
        rw [if_pos rfl, if_pos (by omega), ckI_p ⟨by omega, by omega⟩, ckI_p ⟨by omega, by omega⟩, ckI_p ⟨by omega, by omega⟩, z2]
      · refine ⟨_, ⟨jj, mem, hs, hm, Or.inr ⟨z0, g31, hrw, rfl⟩⟩, fun kk => ?_⟩
        show f_X8_message_52 N G _ m 0 mem = _
        unfold f_X8_message_52
        rw [if_pos rfl, if_neg (by omega)]
/-- they are done -/
theorem z_dos8 (hL : mL G m) (h : mR G m μ S.1 S.2.1 S.2.2.1 S.2.2.2 0 B) (hk : kOk S) (h4 : S.2.1 4 ≤ 1999999800) (hk500 : k ≤ 500) (hs : mStop k B j) (h0 : (lnA' k B j).1 = 0) (h31 : gI μ 831 m = ((j + 1 : Nat) : Int)) (hr : mRows G m k B (j + 1) μ) (hN : 1000 < N) :
    ∃ ν, f_X8_message_L152 N G m 0 0 μ = some ((msD k B S (j + 1)).2, ν) ∧ mR G m ν (msD k B S (j + 1)).1.1 (msD k B S (j + 1)).1.2.1 (msD k B S (j + 1)).1.2.2.1 (msD k B S (j + 1)).1.2.2.2 0 B := by
  have jb := qAt_bd hs.1
  have n830 : ∀ f, kAr f → gR G 830 m ≠ gR G f m := by
    intro f hf
    have hf' : f = 800 ∨ f = 802 ∨ f = 806 ∨ f = 807 ∨ f = 808 ∨ f = 809 ∨ f = 810 := by unfold kAr at hf; omega
    rcases hf' with rfl | rfl | rfl | rfl | rfl | rfl | rfl <;> exact hL.ne (by decide) (by decide) (by decide)
  unfold f_X8_message_L152
  refine qLoop_inv
    (fun i st => ∃ mem, st = (m, (msD k B S i).2, (i : Int), mem) ∧ mR G m mem (msD k B S i).1.1 (msD k B S i).1.2.1 (msD k B S i).1.2.2.1 (msD k B S i).1.2.2.2 0 B ∧ kOk (msD k B S i).1 ∧ (msD k B S i).1.2.1 4 ≤ S.2.1 4 + (i : Int) ∧ gI mem 831 m = ((j + 1 : Nat) : Int) ∧ mRows G m k B (j + 1) mem)
    (fun r => ∃ ν, r = some ((msD k B S (j + 1)).2, ν) ∧ mR G m ν (msD k B S (j + 1)).1.1 (msD k B S (j + 1)).1.2.1 (msD k B S (j + 1)).1.2.2.1 (msD k B S (j + 1)).1.2.2.2 0 B)
    (j + 1) ?_ ?_ (j + 1) 0 N _ (by omega) (by omega) ⟨μ, rfl, h, hk, by show S.2.1 4 ≤ S.2.1 4 + ((0 : Nat) : Int); omega, h31, hr⟩
  · rintro i st hi ⟨mem, rfl, hm, hok, ht4, g31, hrw⟩
    have hg : lnGo k B i := fun a ha => hs.1 a (by omega)
    obtain ⟨qb1, qb2⟩ := qAt_bd hg
    have zi : (lnA' k B i).1 = 0 := by
      by_cases y : i = j
      · rw [y]; exact h0
      · exact (hs.1 i (by omega)).1
    obtain ⟨b1, b2, b3, b4⟩ := lnOf_ok qb1 zi
    have ex : (msD k B S i).1.2.1 2 ≠ 0 → ∃ p w u, cSp (msD k B S i).1.1 ((msD k B S i).1.2.1 3) p w u := by
      intro _
      obtain ⟨_, p, w, u, -, -, -, -, -, q⟩ := z_clearing8 (N := N) hm hok.1.lo hok.1.t3 (by omega)
      exact ⟨p, w, u, q⟩
    have dok := doA_ok (v := (lnA' k B i).2.1) (a0 := (lnA' k B i).2.2.1) (a1 := (lnA' k B i).2.2.2.1) (a2 := (lnA' k B i).2.2.2.2.1) (md := (lnA' k B i).2.2.2.2.2.1) hok (by omega) b2 ex
    obtain ⟨ξ, u1, u2, u3⟩ := z_does8 (N := N) (v := (lnA' k B i).2.1) (a0 := (lnA' k B i).2.2.1) (a1 := (lnA' k B i).2.2.2.1) (a2 := (lnA' k B i).2.2.2.2.1) (md := (lnA' k B i).2.2.2.2.2.1) hL hm hok (by omega) b1 (hrw i hi) (by omega) b2 hN
    have m2 := msD_2 (n := k) (B := B) (S := S) i
    have dr := doA_2 (v := (lnA' k B i).2.1) (a0 := (lnA' k B i).2.2.1) (a1 := (lnA' k B i).2.2.2.1) (a2 := (lnA' k B i).2.2.2.2.1) (md := (lnA' k B i).2.2.2.2.2.1) (S := (msD k B S i).1)
    have eM : (msD k B S (i + 1)).2 = (msD k B S i).2 + (doA (lnA' k B i).2.1 (lnA' k B i).2.2.1 (lnA' k B i).2.2.2.1 (lnA' k B i).2.2.2.2.1 (lnA' k B i).2.2.2.2.2.1 (msD k B S i).1).2 := rfl
    refine Or.inr ⟨_, ⟨ξ, rfl, u3, dok.1, ?_, by rw [u2.1 _ _ (fun y => by have := y.2; unfold dsF at this; omega)]; exact g31, fun a ha => (hrw a ha).fr (fun c _ => u2.2.1 _ _ n830) (i := j + 1) ha⟩, fun kk => ?_⟩
    · have := dok.2
      show (doA _ _ _ _ _ (msD k B S i).1).1.2.1 4 ≤ _
      omega
    · show f_X8_message_152 N G _ m (msD k B S i).2 (i : Int) mem = _
      unfold f_X8_message_152 f_X8_message_173
      rw [g31, if_pos (by omega), kb2_p u1, eM]
      generalize (doA (lnA' k B i).2.1 (lnA' k B i).2.2.1 (lnA' k B i).2.2.2.1 (lnA' k B i).2.2.2.2.1 (lnA' k B i).2.2.2.2.2.1 (msD k B S i).1).2 = w at *
      by_cases y : w = 0
      · rw [if_pos y, ckI_p ⟨by omega, by omega⟩, cast1, y, Int.add_zero]
      · rw [if_neg y, ckI_p ⟨by omega, by omega⟩, ckI_p ⟨by omega, by omega⟩, cast1, show w = 1 by omega]
  · rintro st ⟨mem, rfl, hm, hok, ht4, g31, hrw⟩
    refine ⟨_, ⟨mem, rfl, hm⟩, fun kk => ?_⟩
    show f_X8_message_152 N G _ m (msD k B S (j + 1)).2 ((j + 1 : Nat) : Int) mem = _
    unfold f_X8_message_152
    rw [g31, if_neg (by omega)]
/-- 'message', reference -/
theorem z_message8 (hL : mL G m) (h : mR G m μ S.1 S.2.1 S.2.2.1 S.2.2.2 n B) (hB : ∀ j, j < n → 0 ≤ B j ∧ B j < 256) (hk : kOk S) (h4 : S.2.1 4 ≤ 1999999800) (hN : 1000 < N) (x1 : Int) :
    ∃ ν r, f_X8_message N G m x1 μ = some (r, ν) ∧ (¬ (0 ≤ x1 ∧ x1 ≤ (n : Int)) → r = -1 ∧ mR G m ν S.1 S.2.1 S.2.2.1 S.2.2.2 n B) ∧ (0 ≤ x1 ∧ x1 ≤ (n : Int) → ∃ j, mStop x1.toNat B j ∧ (((lnA' x1.toNat B j).1 ≠ 0 ∧ r = -2 - (lnA' x1.toNat B j).1 ∧ mR G m ν S.1 S.2.1 S.2.2.1 S.2.2.2 0 B) ∨
      ((lnA' x1.toNat B j).1 = 0 ∧ r = (msD x1.toNat B S (j + 1)).2 ∧ mR G m ν (msD x1.toNat B S (j + 1)).1.1 (msD x1.toNat B S (j + 1)).1.2.1 (msD x1.toNat B S (j + 1)).1.2.2.1 (msD x1.toNat B S (j + 1)).1.2.2.2 0 B))) := by
  have h1 := h.fld (f := 804) (a := m) (v := 0) (by decide)
  unfold f_X8_message
  rw [kp_p, h1.2.2.2.2.1, kb2_p z_within8, b01_ite]
  by_cases c : aIn x1 0 (n : Int) = true
  · have c' : 0 ≤ x1 ∧ x1 ≤ (n : Int) := of_decide_eq_true c
    obtain ⟨k, hk'⟩ : ∃ k : Nat, x1 = (k : Int) := ⟨x1.toNat, by omega⟩
    subst hk'
    have n500 := h.2.2.2.2.2.1
    rw [if_pos c, kp_p, kp_p, kp_p, kp_p, kp_p, Int.toNat_natCast]
    generalize hM : sI (sI (sI (sI (sI (sI μ 804 m 0) 822 m 0) 823 m (k : Int)) 825 m 0) 828 m 0) 831 m 0 = M
    have aM : ∀ a i, gA M a i = gA μ a i := fun a i => by rw [← hM]; rfl
    have hm : mR G m M S.1 S.2.1 S.2.2.1 S.2.2.2 0 B := by
      refine ⟨⟨by rw [aM]; exact h.1.1, fun i k hi hk => by rw [aM]; exact h.1.2 i k hi hk⟩, fun j a b => by rw [aM]; exact h.2.1 j a b, fun t ht => by rw [aM]; exact h.2.2.1 t ht, fun i w hi hw => by rw [aM]; exact h.2.2.2.1 i w hi hw, ?_, Nat.zero_le _, fun j hj => by cases hj⟩
      rw [← hM, gI_f (by decide), gI_f (by decide), gI_f (by decide), gI_f (by decide), gI_s]
      rfl
    have hx : mTx G m M k B := ⟨by rw [← hM, gI_f (by decide), gI_f (by decide), gI_f (by decide), gI_s], by omega, fun j hj => ⟨by rw [aM]; exact h.2.2.2.2.2.2 j (by omega), hB j (by omega)⟩⟩
    obtain ⟨M2, b1, b2, b3⟩ := z_steps8 (N := N) hx (q := 0) (by rw [← hM, gI_f (by decide), gI_f (by decide), gI_s]; rfl) (Nat.zero_le _) hN
    have kf : ∀ g, g = 828 ∨ g = 831 → gI M2 g m = gI M g m := fun g hgg => b2.1 _ _ (fun y => by have := y.2; unfold stF at this; omega)
    obtain ⟨j, mem, hs, hm2, hh⟩ := z_check8 (N := N) (S := S) hL (hm.ms hL b2 (by unfold stF; omega) (fun _ q => q.elim)) (hx.fr b2 (by unfold stF; omega) (fun _ q => q.elim)) (by rw [kf 828 (Or.inl rfl), ← hM, gI_f (by decide), gI_s]) (by rw [kf 831 (Or.inr rfl), ← hM, gI_s]) b3 hN
    rw [kb_p b1]
    rcases hh with ⟨z0, e⟩ | ⟨z0, g31, hrw, e⟩
    · rw [e]
      exact ⟨mem, _, rfl, fun q => absurd c' q, fun _ => ⟨j, hs, Or.inl ⟨z0, rfl, hm2⟩⟩⟩
    · rw [e]
      obtain ⟨ν, g1, g2⟩ := z_dos8 (N := N) hL hm2 hk h4 (by omega) hs z0 g31 hrw hN
      exact ⟨ν, _, g1, fun q => absurd c' q, fun _ => ⟨j, hs, Or.inr ⟨z0, rfl, g2⟩⟩⟩
  · have c' : ¬ (0 ≤ x1 ∧ x1 ≤ (n : Int)) := fun y => c (decide_eq_true y)
    rw [if_neg c]
    exact ⟨_, -1, rfl, fun _ => ⟨rfl, h1⟩, fun q => absurd q c'⟩
end MSG8
