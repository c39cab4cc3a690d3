/-! PURE: the class's trial floor takes over the market's book and rules -/
def trT (T : Nat → Int) (j : Nat) : Int := if j = 0 ∨ j = 1 ∨ j = 4 ∨ (6 ≤ j ∧ j ≤ 9) then T j else 0
theorem trT_y {T : Nat → Int} {j : Nat} (h : j = 0 ∨ j = 1 ∨ j = 4 ∨ (6 ≤ j ∧ j ≤ 9)) : trT T j = T j := if_pos h
theorem trT_n {T : Nat → Int} {j : Nat} (h : ¬ (j = 0 ∨ j = 1 ∨ j = 4 ∨ (6 ≤ j ∧ j ≤ 9))) : trT T j = 0 := if_neg h
section TRIAL
variable {N : Nat} {G : qG} {ρ : Nat → Nat × Nat} {f t : Nat} {A V A' V' : Nat → Nat} {nx : Nat} {μ ν : qM} {l : List (Nat → Int)} {T D : Nat → Int} {tr : Nat → Nat → Int}
theorem trT_mOk (h : mOk l T) : mOk l (trT T) :=
  ⟨h.lo, h.pos, h.inc, fun j hj => by rw [trT_y (by omega)]; exact h.le4 j hj, by rw [trT_y (by omega)]; exact h.t0, by rw [trT_y (by omega)]; exact h.t1, Or.inl (trT_n (by omega)), by rw [trT_n (by omega)]; decide, by rw [trT_y (by omega)]; exact h.t4, by rw [trT_n (by omega)]; decide, fun s hs => by rw [trT_y (by omega), trT_y (by omega)]; exact h.top s hs, fun q => by rw [trT_n (by omega)] at q; cases q⟩
theorem trT_wOk : wOk (trT T) := ⟨by rw [trT_n (by omega)]; decide, by rw [trT_n (by omega)]; decide, by rw [trT_n (by omega)]; decide, fun j h1 h2 => by rw [trT_n (by omega)]; decide⟩
theorem trT_tps : tps (trT T) = tps T := by
  funext j
  unfold tps
  split
  · exact trT_y (by omega)
  · rfl
theorem trT_Y {t0 s pr z0 mode : Int} : ordY l (trT T) t0 s pr z0 mode = ordY l T t0 s pr z0 mode := by
  unfold ordY
  rw [trT_tps, trT_y (by omega), trT_y (by omega)]
/-- the book's own place -/
theorem z_copy0 (hy : cLay G ρ f) (hyt : cLay G ρ t) (hft : f ≠ t) (h : cFlx G ρ f A V nx μ l T D tr) (hn : l.length ≤ 60) (hA : ∀ i, i < 60 → gQ μ (gR G 0 (gR G 200 t)) i = some (A' i) ∧ gK G (A' i) = 5 ∧ ρ (A' i) = (t, 1000)) (hinj : ∀ i j, i < 60 → j < 60 → A' i = A' j → i = j) (hN : 100 < N) :
    ∃ ν, f_X0_copyFrom N G (gR G 200 t) (gR G 200 f) μ = some ν ∧ dRole ρ t μ ν ∧ (∀ a i, gQ ν a i = gQ μ a i) ∧ cB G (gR G 200 t) A' ν l ∧ cTp G (gR G 200 t) ν T := by
  have rbt : ρ (gR G 200 t) = (t, 200) := hyt 200 (by decide)
  have rb : ρ (gR G 200 f) = (f, 200) := hy 200 (by decide)
  have r2t : ρ (gR G 2 (gR G 200 t)) = (t, 12) := hyt 12 (by decide)
  have r3t : ρ (gR G 3 (gR G 200 t)) = (t, 13) := hyt 13 (by decide)
  have r2 : ρ (gR G 2 (gR G 200 f)) = (f, 12) := hy 12 (by decide)
  have r3 : ρ (gR G 3 (gR G 200 f)) = (f, 13) := hy 13 (by decide)
  have n23 : gR G 2 (gR G 200 t) ≠ gR G 3 (gR G 200 t) := hyt.ne (j := 12) (k := 13) (by decide) (by decide) (by decide)
  have off : ∀ {a b p q}, ρ a = (f, p) → ρ b = (t, q) → a ≠ b := fun ha hb => role_ne ha hb (fun e => hft (congrArg Prod.fst e))
  have hb := h.1
  -- the rows
  have L2 : ∀ μ1 : qM, dRole ρ t μ μ1 → (∀ a i, gA μ1 a i = gA μ a i) → ∃ ν, f_X0_copyFrom_L41 N G (gR G 200 t) (gR G 200 f) 0 μ1 = some ν ∧ dRole ρ t μ1 ν ∧ (∀ g a, gI ν g a = gI μ1 g a) ∧ (∀ a i, gQ ν a i = gQ μ1 a i) ∧ cTp G (gR G 200 t) ν T := by
    intro μ1 hd1 hA1
    unfold f_X0_copyFrom_L41
    have hT := h.2.2.1
    have e : ∀ s : Nat, s < 2 → ∀ (μ' : qM) (kk : Nat × Nat × Int × qM → Option qM), gA μ' (gR G 2 (gR G 200 f)) s = nz (T (6 + s)) → gA μ' (gR G 3 (gR G 200 f)) s = T (8 + s) → f_X0_copyFrom_41 N G (fun x0 x1 x2 m0 => kk (x0, x1, x2, m0)) (gR G 200 t) (gR G 200 f) (s : Int) μ' = kk (gR G 200 t, gR G 200 f, ((s + 1 : Nat) : Int), sA (sA μ' (gR G 2 (gR G 200 t)) s (nz (T (6 + s)))) (gR G 3 (gR G 200 t)) s (T (8 + s))) := by
      intro s hs μ' kk h2 h3
      unfold f_X0_copyFrom_41
      rw [if_pos (by omega), rdA_p ⟨by omega, by omega⟩, wrA_p ⟨by omega, by omega⟩, rdA_p ⟨by omega, by omega⟩, wrA_p ⟨by omega, by omega⟩, ckI_p ⟨by omega, by omega⟩, cast1, Int.toNat_natCast, h2, gA_a (off r3 r2t), h3]
    have a2 : ∀ s, gA μ1 (gR G 2 (gR G 200 f)) s = gA μ (gR G 2 (gR G 200 f)) s := fun s => hA1 _ _
    have a3 : ∀ s, gA μ1 (gR G 3 (gR G 200 f)) s = gA μ (gR G 3 (gR G 200 f)) s := fun s => hA1 _ _
    refine ⟨sA (sA (sA (sA μ1 (gR G 2 (gR G 200 t)) 0 (nz (T 6))) (gR G 3 (gR G 200 t)) 0 (T 8)) (gR G 2 (gR G 200 t)) 1 (nz (T 7))) (gR G 3 (gR G 200 t)) 1 (T 9), ?_, ?_, fun _ _ => rfl, fun _ _ => rfl, ?_⟩
    · refine qLoop_end (fun j => (gR G 200 t, gR G 200 f, (j : Int), if j = 0 then μ1 else if j = 1 then sA (sA μ1 (gR G 2 (gR G 200 t)) 0 (nz (T 6))) (gR G 3 (gR G 200 t)) 0 (T 8) else sA (sA (sA (sA μ1 (gR G 2 (gR G 200 t)) 0 (nz (T 6))) (gR G 3 (gR G 200 t)) 0 (T 8)) (gR G 2 (gR G 200 t)) 1 (nz (T 7))) (gR G 3 (gR G 200 t)) 1 (T 9))) 2 N (by omega) (fun j hj kk => ?_) (fun kk => ?_)
      · have hj2 : j = 0 ∨ j = 1 := by omega
        rcases hj2 with rfl | rfl
        · exact e 0 (by decide) μ1 kk (by rw [a2]; exact (hT 0 (by decide)).1) (by rw [a3]; exact (hT 0 (by decide)).2)
        · exact e 1 (by decide) _ kk (by rw [if_neg (by decide), if_pos rfl, gA_a (off r2 r3t), gA_a (off r2 r2t), a2]; exact (hT 1 (by decide)).1) (by rw [if_neg (by decide), if_pos rfl, gA_a (off r3 r3t), gA_a (off r3 r2t), a3]; exact (hT 1 (by decide)).2)
      · show f_X0_copyFrom_41 N G _ (gR G 200 t) (gR G 200 f) ((2 : Nat) : Int) _ = _
        unfold f_X0_copyFrom_41
        rw [if_neg (by decide)]
        rfl
    · exact (((dRole.sA (by rw [r2t])).tr (dRole.sA (by rw [r3t]))).tr (dRole.sA (by rw [r2t]))).tr (dRole.sA (by rw [r3t]))
    · intro s hs
      have hs2 : s = 0 ∨ s = 1 := by omega
      rcases hs2 with rfl | rfl
      · rw [gA_a n23, gA_i (by decide), gA_a n23, gA_s, gA_i (by decide), gA_a (Ne.symm n23), gA_s]; exact ⟨rfl, rfl⟩
      · rw [gA_a n23, gA_s, gA_s]; exact ⟨rfl, rfl⟩
  unfold f_X0_copyFrom
  rw [kp_p, hb.1]
  unfold f_X0_copyFrom_L10
  refine qLoop_inv
    (fun i st => ∃ mem, st = (gR G 200 t, gR G 200 f, (i : Int), mem) ∧ dRole ρ t μ mem ∧ (∀ a j, gA mem a j = gA μ a j) ∧ (∀ a j, gQ mem a j = gQ μ a j) ∧ gI mem 1 (gR G 200 t) = (l.length : Int) ∧ ∀ j k : Nat, j < i → k < 6 → gI mem (400 + k) (A' j) = lG l j k)
    (fun r => ∃ ν, r = some ν ∧ dRole ρ t μ ν ∧ (∀ a i, gQ ν a i = gQ μ a i) ∧ cB G (gR G 200 t) A' ν l ∧ cTp G (gR G 200 t) ν T) l.length ?_ ?_ l.length 0 N _ (by omega) (by omega) ⟨_, rfl, dRole.sI (by rw [rbt]), fun _ _ => rfl, fun _ _ => rfl, gI_s, fun j k hj => by omega⟩
  · rintro i st hi ⟨mem, rfl, hd, hAA, hQ, h1, hk⟩
    refine Or.inr ?_
    have rA := h.2.1 i (by omega)
    have rA' := (hA i (by omega)).2.2
    have ne : A' i ≠ A i := (off rA rA').symm
    have g : ∀ w, w < 6 → gI mem (400 + w) (A i) = lG l i w := fun w hw => by rw [hd.1 _ _ (by rw [rA]; exact hft)]; exact hb.2.2.2 i w hi hw
    have g0 : gI mem 400 (A i) = lG l i 0 := g 0 (by decide)
    have g1 : gI mem 401 (A i) = lG l i 1 := g 1 (by decide)
    have g2 : gI mem 402 (A i) = lG l i 2 := g 2 (by decide)
    have g3 : gI mem 403 (A i) = lG l i 3 := g 3 (by decide)
    have g4 : gI mem 404 (A i) = lG l i 4 := g 4 (by decide)
    have g5 : gI mem 405 (A i) = lG l i 5 := g 5 (by decide)
    have q : ∀ {g v} {α : qM}, dRole ρ t α (sI α g (A' i) v) := dRole.sI (by rw [rA'])
    generalize hmem' : sI (sI (sI (sI (sI (sI (sI mem 400 (A' i) (lG l i 0)) 401 (A' i) (lG l i 1)) 402 (A' i) (lG l i 2)) 403 (A' i) (lG l i 3)) 404 (A' i) (lG l i 4)) 405 (A' i) (lG l i 4)) 405 (A' i) (lG l i 5) = mem'
    have ec := z_copy4 (N := N) (G := G) (μ := mem) ne
    rw [g0, g1, g2, g3, g4, g5, hmem'] at ec
    refine ⟨_, ⟨mem', rfl, ?_, ?_, ?_, ?_, ?_⟩, fun kk => ?_⟩
    · rw [← hmem']; exact hd.tr ((((((q.tr q).tr q).tr q).tr q).tr q).tr q)
    · intro a j; rw [← hmem']; exact hAA a j
    · intro a j; rw [← hmem']; exact hQ a j
    · rw [← hmem', gI_f (by decide), gI_f (by decide), gI_f (by decide), gI_f (by decide), gI_f (by decide), gI_f (by decide), gI_f (by decide)]; exact h1
    · intro j k hj hk6
      by_cases c : j = i
      · subst c
        have h6 : k = 0 ∨ k = 1 ∨ k = 2 ∨ k = 3 ∨ k = 4 ∨ k = 5 := by omega
        rw [← hmem']
        rcases h6 with rfl | rfl | rfl | rfl | rfl | rfl <;> simp [gI_sI]
      · have na : A' j ≠ A' i := fun e => c (hinj j i (by omega) (by omega) e)
        rw [← hmem', gI_a na, gI_a na, gI_a na, gI_a na, gI_a na, gI_a na, gI_a na]
        exact hk j k (by omega) hk6
    · show f_X0_copyFrom_10 N G _ (gR G 200 t) (gR G 200 f) (i : Int) mem = _
      unfold f_X0_copyFrom_10
      rw [h1, if_pos (by omega), rdQ_p (o := A' i) ⟨by omega, by omega⟩ (by rw [Int.toNat_natCast, hQ]; exact (hA i (by omega)).1) (hA i (by omega)).2.1, rdQ_p (o := A i) ⟨by omega, by omega⟩ (by rw [Int.toNat_natCast, hQ]; exact (hb.2.1 i (by omega)).1) (hb.2.1 i (by omega)).2, kb_p ec, ckI_p ⟨by omega, by omega⟩, cast1]
  · rintro st ⟨mem, rfl, hd, hAA, hQ, h1, hk⟩
    obtain ⟨ν, k1, k2, k3, k4, k5⟩ := L2 mem hd hAA
    refine ⟨_, ⟨ν, k1, hd.tr k2, fun a i => (k4 a i).trans (hQ a i), ⟨by rw [k3]; exact h1, fun i hi => by rw [k4, hQ]; exact ⟨(hA i hi).1, (hA i hi).2.1⟩, hinj, fun i k hi hk6 => by rw [k3]; exact hk i k hi hk6⟩, k5⟩, fun kk => ?_⟩
    show f_X0_copyFrom_10 N G _ (gR G 200 t) (gR G 200 f) (l.length : Int) mem = _
    unfold f_X0_copyFrom_10
    rw [h1, if_neg (by omega)]
theorem z_clear3 (hyt : cLay G ρ t) (hN : 100 < N) :
    ∃ ν, f_X3_clear N G (gR G 201 t) μ = some ν ∧ dRole ρ t μ ν ∧ (∀ a i, gQ ν a i = gQ μ a i) ∧ (∀ g a, ¬ (301 ≤ g ∧ g ≤ 304) → gI ν g a = gI μ g a) ∧ (∀ a i, a ≠ gR G 305 (gR G 201 t) → a ≠ gR G 306 (gR G 201 t) → gA ν a i = gA μ a i) ∧
      gI ν 301 (gR G 201 t) = 0 ∧ gI ν 302 (gR G 201 t) = 0 ∧ gI ν 303 (gR G 201 t) = 0 ∧ gI ν 304 (gR G 201 t) = 0 ∧ ∀ k, k < 10 → gA ν (gR G 305 (gR G 201 t)) k = 0 ∧ gA ν (gR G 306 (gR G 201 t)) k = 0 := by
  have rl : ρ (gR G 201 t) = (t, 201) := hyt 201 (by decide)
  have r5 : ρ (gR G 305 (gR G 201 t)) = (t, 305) := hyt 305 (by decide)
  have r6 : ρ (gR G 306 (gR G 201 t)) = (t, 306) := hyt 306 (by decide)
  have n56 : gR G 305 (gR G 201 t) ≠ gR G 306 (gR G 201 t) := hyt.ne (j := 305) (k := 306) (by decide) (by decide) (by decide)
  unfold f_X3_clear
  rw [kp_p, kp_p, kp_p, kp_p]
  unfold f_X3_clear_L22
  refine qLoop_inv
    (fun i st => ∃ mem, st = (gR G 201 t, (i : Int), mem) ∧ dRole ρ t μ mem ∧ (∀ a i, gQ mem a i = gQ μ a i) ∧ (∀ g a, ¬ (301 ≤ g ∧ g ≤ 304) → gI mem g a = gI μ g a) ∧ (∀ a i, a ≠ gR G 305 (gR G 201 t) → a ≠ gR G 306 (gR G 201 t) → gA mem a i = gA μ a i) ∧
      gI mem 301 (gR G 201 t) = 0 ∧ gI mem 302 (gR G 201 t) = 0 ∧ gI mem 303 (gR G 201 t) = 0 ∧ gI mem 304 (gR G 201 t) = 0 ∧ ∀ k, k < i → gA mem (gR G 305 (gR G 201 t)) k = 0 ∧ gA mem (gR G 306 (gR G 201 t)) k = 0)
    (fun r => ∃ ν, r = some ν ∧ dRole ρ t μ ν ∧ (∀ a i, gQ ν a i = gQ μ a i) ∧ (∀ g a, ¬ (301 ≤ g ∧ g ≤ 304) → gI ν g a = gI μ g a) ∧ (∀ a i, a ≠ gR G 305 (gR G 201 t) → a ≠ gR G 306 (gR G 201 t) → gA ν a i = gA μ a i) ∧
      gI ν 301 (gR G 201 t) = 0 ∧ gI ν 302 (gR G 201 t) = 0 ∧ gI ν 303 (gR G 201 t) = 0 ∧ gI ν 304 (gR G 201 t) = 0 ∧ ∀ k, k < 10 → gA ν (gR G 305 (gR G 201 t)) k = 0 ∧ gA ν (gR G 306 (gR G 201 t)) k = 0)
    10 ?_ ?_ 10 0 N _ (by omega) (by omega) ?_
  · rintro i st hi ⟨mem, rfl, hd, hQ, hI, hA, h1, h2, h3, h4, hk⟩
    refine Or.inr ⟨_, ⟨sA (sA mem (gR G 305 (gR G 201 t)) i 0) (gR G 306 (gR G 201 t)) i 0, rfl, hd.tr ((dRole.sA (by rw [r5])).tr (dRole.sA (by rw [r6]))), hQ, hI, fun a j p q => by rw [gA_a q, gA_a p]; exact hA a j p q, h1, h2, h3, h4, fun k hk' => ?_⟩, fun kk => ?_⟩
    · by_cases c : k = i
      · subst c; rw [gA_a n56, gA_s, gA_s]; exact ⟨rfl, rfl⟩
      · rw [gA_i c, gA_i c, gA_i c, gA_i c]; exact hk k (by omega)
    · show f_X3_clear_22 N G _ (gR G 201 t) (i : Int) mem = _
      unfold f_X3_clear_22
      rw [if_pos (by omega), wrA_p ⟨by omega, by omega⟩, wrA_p ⟨by omega, by omega⟩, ckI_p ⟨by omega, by omega⟩, cast1, Int.toNat_natCast]
  · rintro st ⟨mem, rfl, hr⟩
    refine ⟨_, ⟨mem, rfl, hr⟩, fun kk => ?_⟩
    show f_X3_clear_22 N G _ (gR G 201 t) ((10 : Nat) : Int) mem = _
    unfold f_X3_clear_22
    rw [if_neg (by decide)]
  · refine ⟨_, rfl, (((dRole.sI (by rw [rl])).tr (dRole.sI (by rw [rl]))).tr (dRole.sI (by rw [rl]))).tr (dRole.sI (by rw [rl])), fun _ _ => rfl, fun g a hg => ?_, fun _ _ _ _ => rfl, ?_, ?_, ?_, ?_, fun k hk => by omega⟩
    · rw [gI_f (by omega), gI_f (by omega), gI_f (by omega), gI_f (by omega)]
    · rw [gI_f (by decide), gI_f (by decide), gI_f (by decide), gI_s]
    · rw [gI_f (by decide), gI_f (by decide), gI_s]
    · rw [gI_f (by decide), gI_s]
    · rw [gI_s]
theorem z_prepare (hy : cLay G ρ f) (hyt : cLay G ρ t) (hft : f ≠ t) (h : cFl G ρ f μ l T D tr) (hs : cSt G ρ t μ) (hn : l.length ≤ 60) (hN : 100 < N) :
    ∃ ν, f_X2_prepareTrial N G t f μ = some ν ∧ dRole ρ t μ ν ∧ cFl G ρ t ν l (trT T) (fun _ => 0) (fun _ _ => 0) ∧ gI ν 210 t = 0 := by
  obtain ⟨A, V, nx, hf⟩ := h
  obtain ⟨A', V', hA, hinj, hV⟩ := hs
  have rf : ρ f = (f, 1) := hy 1 (by decide)
  have rt : ρ t = (t, 1) := hyt 1 (by decide)
  have rbt : ρ (gR G 200 t) = (t, 200) := hyt 200 (by decide)
  have rlt : ρ (gR G 201 t) = (t, 201) := hyt 201 (by decide)
  have r2t : ρ (gR G 2 (gR G 200 t)) = (t, 12) := hyt 12 (by decide)
  have r3t : ρ (gR G 3 (gR G 200 t)) = (t, 13) := hyt 13 (by decide)
  have r5t : ρ (gR G 305 (gR G 201 t)) = (t, 305) := hyt 305 (by decide)
  have r6t : ρ (gR G 306 (gR G 201 t)) = (t, 306) := hyt 306 (by decide)
  obtain ⟨μ1, a1, a2, a3, a4, a5⟩ := z_copy0 (N := N) hy hyt hft hf hn hA hinj hN
  obtain ⟨μ2, b1, b2, b3, b4, b5, b6, b7, b8, b9, b10⟩ := z_clear3 (N := N) (μ := μ1) hyt hN
  have g : ∀ k, gI μ2 k f = gI μ k f := fun k => ((b2.1 _ _ (by rw [rf]; exact hft)).trans (a2.1 _ _ (by rw [rf]; exact hft)))
  have ft : f ≠ t := hft
  obtain ⟨s5, s6, s7, s8, s9, s11⟩ := hf.2.2.2.1
  unfold f_X2_prepareTrial
  rw [kb_p a1, kb_p b1, g, s5, kp_p, gI_a ft, g, s6, kp_p, kp_p, gI_a ft, gI_a ft, gI_a ft, g, s8, kp_p, kp_p, kp_p, kp_p]
  generalize hν : sI (sI (sI (sI (sI (sI (sI μ2 205 t (T 0)) 206 t (T 1)) 207 t 0) 208 t (T 4)) 209 t 0) 210 t 0) 211 t 0 = ν
  have kI : ∀ g a, ¬ (205 ≤ g ∧ g ≤ 211) → gI ν g a = gI μ2 g a := fun g a hg => by
    rw [← hν, gI_f (by omega), gI_f (by omega), gI_f (by omega), gI_f (by omega), gI_f (by omega), gI_f (by omega), gI_f (by omega)]
  have kA : ∀ a i, gA ν a i = gA μ2 a i := fun a i => by rw [← hν]; rfl
  have kQ : ∀ a i, gQ ν a i = gQ μ a i := fun a i => by rw [← hν]; exact (b3 a i).trans (a3 a i)
  have q : ∀ {g v} {α : qM}, dRole ρ t α (sI α g t v) := dRole.sI (by rw [rt])
  refine ⟨ν, rfl, ?_, ⟨A', V', 0, ⟨?_, ?_, hinj, ?_⟩, fun i hi => (hA i hi).2.2, ?_, ?_, ?_, ?_, ?_, ?_⟩, ?_⟩
  · rw [← hν]
    exact (a2.tr b2).tr ((((((q.tr q).tr q).tr q).tr q).tr q).tr q)
  · rw [kI _ _ (by decide), b4 _ _ (by decide)]; exact a4.1
  · intro i hi; rw [kQ]; exact ⟨(hA i hi).1, (hA i hi).2.1⟩
  · intro i k hi hk
    rw [kI _ _ (by omega), b4 _ _ (by omega)]; exact a4.2.2.2 i k hi hk
  · intro s hs
    have n25 : gR G 2 (gR G 200 t) ≠ gR G 305 (gR G 201 t) := role_ne r2t r5t (fun e => absurd (show (12 : Nat) = 305 from congrArg Prod.snd e) (by decide))
    have n26 : gR G 2 (gR G 200 t) ≠ gR G 306 (gR G 201 t) := role_ne r2t r6t (fun e => absurd (show (12 : Nat) = 306 from congrArg Prod.snd e) (by decide))
    have n35 : gR G 3 (gR G 200 t) ≠ gR G 305 (gR G 201 t) := role_ne r3t r5t (fun e => absurd (show (13 : Nat) = 305 from congrArg Prod.snd e) (by decide))
    have n36 : gR G 3 (gR G 200 t) ≠ gR G 306 (gR G 201 t) := role_ne r3t r6t (fun e => absurd (show (13 : Nat) = 306 from congrArg Prod.snd e) (by decide))
    rw [kA, kA, b5 _ _ n25 n26, b5 _ _ n35 n36, trT_y (by omega), trT_y (by omega)]
    exact a5 s hs
  · rw [trT_y (by omega), trT_y (by omega), trT_n (by omega), trT_y (by omega), trT_n (by omega), trT_n (by omega), ← hν]
    refine ⟨?_, ?_, ?_, ?_, ?_, ?_⟩ <;> simp [gI_sI]
  · rw [kI _ _ (by decide), kI _ _ (by decide), kI _ _ (by decide), kI _ _ (by decide), b6, b7, b8, b9, trT_n (by omega), trT_n (by omega), trT_n (by omega)]
    exact ⟨rfl, rfl, rfl, rfl, by decide⟩
  · intro k hk
    rw [kA, kA, (b10 k hk).1, (b10 k hk).2, trT_n (by omega)]
    exact ⟨rfl, rfl⟩
  · intro i hi; rw [kQ]; exact hV i hi
  · intro i w hi
    rw [trT_n (by omega)] at hi
    omega
  · rw [← hν, gI_f (by decide), gI_s]
end TRIAL
