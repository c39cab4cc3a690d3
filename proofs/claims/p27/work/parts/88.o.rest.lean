/-! PURE: what is left rests; orders on both sides -/
def tps (T : Nat → Int) (j : Nat) : Int := if 6 ≤ j ∧ j ≤ 9 then T j else 0
theorem tps_u {T : Nat → Int} {j : Nat} (h : 6 ≤ j ∧ j ≤ 9) : tps T j = T j := if_pos h
/-- the same with other lots off -/
def sh4 (d : Int) (X : MS) : MS := (X.1, X.2.1, X.2.2.1, X.2.2.2.1, X.2.2.2.2.1, X.2.2.2.2.2.1 + d, X.2.2.2.2.2.2)
theorem sh4_step {mode s num t0 L1 b d : Int} {X : MS} : mStep mode s num t0 L1 b (sh4 d X) = sh4 d (mStep mode s num t0 L1 b X) := by
  have e : mPrev mode s t0 b (sh4 d X) = sh4 d (mPrev mode s t0 b X) := by
    unfold mPrev sh4
    dsimp only
    rw [Int.add_right_comm]
  unfold mStep
  rw [e]
  unfold mTake
  by_cases c : 0 < min (mPrev mode s t0 b X).2.2.2.2.2.2 (aS (wZ (1 - s) b) (mPrev mode s t0 b X).1)
  · rw [if_pos c, if_pos (show 0 < min (sh4 d (mPrev mode s t0 b X)).2.2.2.2.2.2 (aS (wZ (1 - s) b) (sh4 d (mPrev mode s t0 b X)).1) from c)]
    rfl
  · rw [if_neg c, if_neg (show ¬ 0 < min (sh4 d (mPrev mode s t0 b X)).2.2.2.2.2.2 (aS (wZ (1 - s) b) (sh4 d (mPrev mode s t0 b X)).1) from c)]
theorem sh4_run {mode s num t0 L1 pr d : Int} : ∀ (n : Nat) (X : MS), mRun mode s num t0 L1 pr n (sh4 d X) = sh4 d (mRun mode s num t0 L1 pr n X) := by
  intro n
  induction n with
  | zero => intro X; rfl
  | succ n ih =>
    intro X
    show (if X.2.2.2.2.2.2 ≤ 0 then sh4 d X else if aBest (1 - s) X.1 = 0 ∨ aBet (1 - s) pr (aBest (1 - s) X.1) = true then sh4 d X else mRun mode s num t0 L1 pr n (mStep mode s num t0 L1 (aBest (1 - s) X.1) (sh4 d X))) = sh4 d (if X.2.2.2.2.2.2 ≤ 0 then X else if aBest (1 - s) X.1 = 0 ∨ aBet (1 - s) pr (aBest (1 - s) X.1) = true then X else mRun mode s num t0 L1 pr n (mStep mode s num t0 L1 (aBest (1 - s) X.1) X))
    by_cases c : X.2.2.2.2.2.2 ≤ 0
    · rw [if_pos c, if_pos c]
    · rw [if_neg c, if_neg c]
      by_cases d2 : aBest (1 - s) X.1 = 0 ∨ aBet (1 - s) pr (aBest (1 - s) X.1) = true
      · rw [if_pos d2, if_pos d2]
      · rw [if_neg d2, if_neg d2, sh4_step, ih]
theorem mR.cg {G : qG} {m : Nat} {μ : qM} {l : List (Nat → Int)} {T T' D D' : Nat → Int} {tr tr' : Nat → Nat → Int} {n : Nat} {B : Nat → Int} (h : mR G m μ l T D tr n B) (hT : ∀ j, j < 24 → T' j = T j) (hD : ∀ t, t < 10 → D' t = D t) (ht : ∀ i w, tr' i w = tr i w) : mR G m μ l T' D' tr' n B :=
  ⟨h.1, fun j a b => by rw [hT j a]; exact h.2.1 j a b, fun t a => by rw [hD t a]; exact h.2.2.1 t a, fun i w a b => by rw [ht]; exact h.2.2.2.1 i w (by rw [← hT 10 (by decide)]; exact a) b, h.2.2.2.2⟩
theorem cFlx.cg {G : qG} {ρ : Nat → Nat × Nat} {f : Nat} {A V : Nat → Nat} {nx : Nat} {μ : qM} {l : List (Nat → Int)} {T T' D D' : Nat → Int} {tr tr' : Nat → Nat → Int} (h : cFlx G ρ f A V nx μ l T D tr) (hT : ∀ j, j < 24 → T' j = T j) (hD : ∀ t, t < 10 → D' t = D t) (ht : ∀ i w, tr' i w = tr i w) : cFlx G ρ f A V nx μ l T' D' tr' := by
  obtain ⟨h1, h2, h3, h4, h5, h6, h7, h8⟩ := h
  refine ⟨h1, h2, fun s hs => by rw [hT _ (by omega), hT _ (by omega)]; exact h3 s hs, ?_, ?_, fun t a => by rw [hT _ (by omega), hD t a]; exact h6 t a, h7, fun i w a b c => by rw [ht]; exact h8 i w (by rw [← hT 10 (by decide)]; exact a) b c⟩
  · rw [hT _ (by decide), hT _ (by decide), hT _ (by decide), hT _ (by decide), hT _ (by decide), hT _ (by decide)]; exact h4
  · rw [hT _ (by decide), hT _ (by decide), hT _ (by decide)]; exact h5
def dOk (D : Nat → Int) : Prop := ∀ t, t < 10 → in64 (D t)
section ST
variable {T D : Nat → Int} {s t0 : Int} {tr : Nat → Nat → Int}
theorem apT_s (hw : wOk T) (h10 : T 10 ≤ 60) {j : Nat} (hj : j < 24) : apT T (tps T) (T 3) [] 0 0 0 s t0 j = T j := by
  rw [← apT_0 (s := s) (t0 := t0) hw h10 hj]
  exact apT_cg (fun _ => rfl) (fun h => tps_u h) (fun _ => rfl) (fun _ => rfl) (fun _ => rfl) (fun _ => rfl) (fun _ => rfl) (fun _ => ⟨rfl, rfl⟩)
theorem apD_s (hd : dOk D) {t : Nat} (ht : t < 10) : apD D [] 0 s t0 t = D t := by
  unfold apD
  have : sPW [] t = 0 := rfl
  rw [this, sg_0, ite_self, Int.sub_zero, Int.sub_zero]
  exact w64_id (hd t ht)
theorem apTr_s {i w : Nat} : apTr tr [] i w = tr i w := rfl
theorem apD_ok {E : List (Nat → Int)} {Y : Int} : dOk (apD D E Y s t0) := fun t _ => w64_in _
end ST
/-- the list, the tops and the rest behind an order -/
def ordL (num t0 s pr z0 : Int) (l : List (Nat → Int)) (z : Int) : List (Nat → Int) := if z = 0 ∨ l.length = 60 then l else l ++ [oMk num t0 s pr z z0]
def ordR (l : List (Nat → Int)) (z : Int) : Int := if z = 0 ∨ l.length = 60 then 0 else z
abbrev isTop (s pr z0 g : Int) (l : List (Nat → Int)) (z : Int) : Prop := ¬ (z = 0 ∨ l.length = 60) ∧ z = z0 ∧ 0 < g ∧ (aBest s l = 0 ∨ aBet s pr (aBest s l) = true)
def ordT (num s pr z0 : Int) (l : List (Nat → Int)) (z : Int) (T : Nat → Int) : Nat → Int := if isTop s pr z0 (T 0) l z then upd1 (upd1 T (6 + s.toNat) num) (8 + s.toNat) (T 0) else T
section REST7
variable {N : Nat} {G : qG} {ρ : Nat → Nat × Nat} {f : Nat} {A V : Nat → Nat} {nx : Nat} {μ ν : qM} {l : List (Nat → Int)} {T D : Nat → Int} {tr : Nat → Nat → Int} {num t0 s pr z z0 : Int}
theorem z_become4 {o : Nat} {a b c d e : Int} : f_X4_become N G o a b c d e μ = some (sI (sI (sI (sI (sI (sI μ 400 o a) 401 o b) 402 o c) 403 o d) 404 o e) 405 o e) := by
  unfold f_X4_become
  rw [kp_p, kp_p, kp_p, kp_p, kp_p, kp_p]
theorem z_copy4 {o c : Nat} (hne : o ≠ c) : f_X4_copyFrom N G o c μ = some (sI (sI (sI (sI (sI (sI (sI μ 400 o (gI μ 400 c)) 401 o (gI μ 401 c)) 402 o (gI μ 402 c)) 403 o (gI μ 403 c)) 404 o (gI μ 404 c)) 405 o (gI μ 404 c)) 405 o (gI μ 405 c)) := by
  unfold f_X4_copyFrom
  rw [kb_p z_become4, kp_p]
  congr 2
  rw [gI_a (Ne.symm hne), gI_a (Ne.symm hne), gI_a (Ne.symm hne), gI_a (Ne.symm hne), gI_a (Ne.symm hne), gI_a (Ne.symm hne)]
/-- six numbers of an order that isn't one of those that rest; then one more rests -/
theorem z_addCom (hy : cLay G ρ f) (h : cFlx G ρ f A V nx μ l T D tr) (hn : l.length < 60) (hc : cIn G f μ num t0 s pr z z0) :
    ∃ ν, f_X0_add N G (gR G 200 f) (gR G 204 f) μ = some ν ∧ dRole ρ f μ ν ∧ cFlx G ρ f A V nx ν (l ++ [oMk num t0 s pr z z0]) T D tr ∧ cIn G f ν num t0 s pr z z0 ∧ ∀ g a, (g = 207 ∨ g = 205 ∨ g = 208 ∨ g = 210) → gI ν g a = gI μ g a := by
  obtain ⟨c0, c1, c2, c3, c4, c5⟩ := hc
  have rA : ρ (A l.length) = (f, 1000) := h.2.1 _ (by omega)
  have r204 : ρ (gR G 204 f) = (f, 204) := hy 204 (by decide)
  have rb : ρ (gR G 200 f) = (f, 200) := hy 200 (by decide)
  have hne : A l.length ≠ gR G 204 f := role_ne rA r204 (fun e => absurd (show (1000 : Nat) = 204 from congrArg Prod.snd e) (by decide))
  obtain ⟨h1, h2, h3, h4, h5, h6, h7, h8⟩ := h
  have full : f_X0_isFull N G (gR G 200 f) μ = some (0, μ) := by
    unfold f_X0_isFull
    rw [h1.1, if_pos (by omega)]
  have e : f_X0_add N G (gR G 200 f) (gR G 204 f) μ = some (sI (sI (sI (sI (sI (sI (sI (sI μ 400 (A l.length) num) 401 (A l.length) t0) 402 (A l.length) s) 403 (A l.length) pr) 404 (A l.length) z) 405 (A l.length) z) 405 (A l.length) z0) 1 (gR G 200 f) ((l.length : Int) + 1)) := by
    unfold f_X0_add
    rw [kb2_p full, if_pos rfl, h1.1, z_row0 h1 hn, kb_p (z_copy4 hne), c0, c1, c2, c3, c4, c5]
    rw [gI_f (by decide), gI_f (by decide), gI_f (by decide), gI_f (by decide), gI_f (by decide), gI_f (by decide), gI_f (by decide), h1.1, ckI_p ⟨by omega, by omega⟩, kp_p]
  generalize hμ1 : sI (sI (sI (sI (sI (sI (sI μ 400 (A l.length) num) 401 (A l.length) t0) 402 (A l.length) s) 403 (A l.length) pr) 404 (A l.length) z) 405 (A l.length) z) 405 (A l.length) z0 = μ1 at e
  have d1 : dRole ρ f μ μ1 := by
    rw [← hμ1]
    have q : ∀ {g v} {α : qM}, dRole ρ f α (sI α g (A l.length) v) := dRole.sI (by rw [rA])
    exact (((((q.tr q).tr q).tr q).tr q).tr q).tr q
  have k1 : ∀ g a, a ≠ A l.length → gI μ1 g a = gI μ g a := fun g a ha => by
    rw [← hμ1, gI_a ha, gI_a ha, gI_a ha, gI_a ha, gI_a ha, gI_a ha, gI_a ha]
  have k2 : ∀ g a, (g < 400 ∨ 405 < g) → gI μ1 g a = gI μ g a := fun g a hg => by
    rw [← hμ1, gI_f (by omega), gI_f (by omega), gI_f (by omega), gI_f (by omega), gI_f (by omega), gI_f (by omega), gI_f (by omega)]
  have k3 : ∀ k, k < 6 → gI μ1 (400 + k) (A l.length) = oMk num t0 s pr z z0 k := by
    intro k hk
    have h6 : k = 0 ∨ k = 1 ∨ k = 2 ∨ k = 3 ∨ k = 4 ∨ k = 5 := by omega
    rw [← hμ1]
    rcases h6 with rfl | rfl | rfl | rfl | rfl | rfl <;> simp [gI_sI, oMk]
  have kA : ∀ a i, gA (sI μ1 1 (gR G 200 f) ((l.length : Int) + 1)) a i = gA μ a i := fun a i => by rw [← hμ1]; rfl
  have kQ : ∀ a i, gQ (sI μ1 1 (gR G 200 f) ((l.length : Int) + 1)) a i = gQ μ a i := fun a i => by rw [← hμ1]; rfl
  refine ⟨_, e, d1.tr (dRole.sI (by rw [rb])), ⟨⟨?_, ?_, h1.2.2.1, ?_⟩, h2, ?_, ?_, ?_, ?_, ?_, ?_⟩, ?_, ?_⟩
  · rw [gI_s, List.length_append]; simp
  · intro i hi; rw [kQ]; exact h1.2.1 i hi
  · intro i k hi hk
    rw [List.length_append] at hi
    have hi' : i < l.length + 1 := hi
    rw [gI_f (by omega), lG_app]
    by_cases c : i = l.length
    · subst c; rw [if_pos rfl]; exact k3 k hk
    · rw [if_neg c, k1 _ _ (fun q => c (h1.2.2.1 _ _ (by omega) (by omega) q))]
      exact h1.2.2.2 i k (by omega) hk
  · intro s hs; rw [kA, kA]; exact h3 s hs
  · rw [gI_f (by decide), gI_f (by decide), gI_f (by decide), gI_f (by decide), gI_f (by decide), gI_f (by decide), k2 _ _ (by decide), k2 _ _ (by decide), k2 _ _ (by decide), k2 _ _ (by decide), k2 _ _ (by decide), k2 _ _ (by decide)]; exact h4
  · rw [gI_f (by decide), gI_f (by decide), gI_f (by decide), gI_f (by decide), k2 _ _ (by decide), k2 _ _ (by decide), k2 _ _ (by decide), k2 _ _ (by decide)]; exact h5
  · intro t ht; rw [kA, kA]; exact h6 t ht
  · intro i hi; rw [kQ]; exact h7 i hi
  · intro i w a b c; rw [kA]; exact h8 i w a b c
  · have q : ∀ g, g ≠ 1 → gI (sI μ1 1 (gR G 200 f) ((l.length : Int) + 1)) g (gR G 204 f) = gI μ g (gR G 204 f) := fun g hg => by rw [gI_f hg, k1 _ _ (Ne.symm hne)]
    exact ⟨by rw [q _ (by decide)]; exact c0, by rw [q _ (by decide)]; exact c1, by rw [q _ (by decide)]; exact c2, by rw [q _ (by decide)]; exact c3, by rw [q _ (by decide)]; exact c4, by rw [q _ (by decide)]; exact c5⟩
  · intro g a hg
    rw [gI_f (by omega), k2 _ _ (by omega)]
theorem z_rest7 (hy : cLay G ρ f) (h : cFlx G ρ f A V nx μ l T D tr) (hl : lOk l) (hN : 100 < N) (hc : cIn G f μ num t0 s pr z z0) (hs : s = 0 ∨ s = 1) (hnum : 1 ≤ num) (hz : 0 ≤ z) (hT2 : T 2 = 0 ∨ T 2 = 1) :
    ∃ ν nx', f_X2_comeIn_59 N G f μ = some (T 4, ν) ∧ dRole ρ f μ ν ∧ cFlx G ρ f A V nx' ν (ordL num t0 s pr z0 l z) (if T 2 = 0 then ordT num s pr z0 l z T else T) D tr ∧ gI ν 404 (gR G 204 f) = ordR l z ∧ gI ν 210 f = gI μ 210 f := by
  have h60 := hl.1
  have hc' := hc
  obtain ⟨c0, c1, c2, c3, c4, c5⟩ := hc
  have r204 : ρ (gR G 204 f) = (f, 204) := hy 204 (by decide)
  have e8 : gI μ 208 f = T 4 := h.2.2.2.1.2.2.2.1
  have full : f_X0_isFull N G (gR G 200 f) μ = some (if l.length = 60 then 1 else 0, μ) := by
    unfold f_X0_isFull
    rw [h.1.1]
    by_cases c : l.length = 60
    · rw [if_neg (by omega), if_pos c]
    · rw [if_pos (by omega), if_neg c]
  unfold f_X2_comeIn_59
  rw [kb2_p full]
  by_cases cF : l.length = 60
  · -- it is full
    rw [if_pos cF, if_neg (by decide), kp_p]
    unfold f_X2_comeIn_77
    rw [gI_s, if_neg (by decide), gI_f (by decide), e8]
    have eT : ordT num s pr z0 l z T = T := if_neg (fun q => q.1 (Or.inr cF))
    refine ⟨_, nx, rfl, dRole.sI (by rw [r204]), ?_, ?_, ?_⟩
    · rw [eT, ite_self]
      unfold ordL
      rw [if_pos (Or.inr cF)]
      exact h.com hy h60 (w := 4) (by decide)
    · unfold ordR; rw [gI_s, if_pos (Or.inr cF)]
    · rw [gI_f (by decide)]
  · rw [if_neg cF, if_pos rfl]
    unfold f_X2_comeIn_77
    rw [c4]
    by_cases cz : z = 0
    · rw [if_neg (by omega), e8]
      have eT : ordT num s pr z0 l z T = T := if_neg (fun q => q.1 (Or.inl cz))
      refine ⟨μ, nx, rfl, dRole.rf, ?_, ?_, rfl⟩
      · rw [eT, ite_self]
        unfold ordL
        rw [if_pos (Or.inl cz)]
        exact h
      · unfold ordR; rw [c4, if_pos (Or.inl cz)]; exact cz
    · have nf : ¬ (z = 0 ∨ l.length = 60) := fun q => q.elim cz cF
      obtain ⟨μ1, k1, k2, k3, k4, k5⟩ := z_addCom (N := N) hy h (by omega) hc'
      have eL : ordL num t0 s pr z0 l z = l ++ [oMk num t0 s pr z z0] := if_neg nf
      have eR : ordR l z = z := if_neg nf
      have g207 : gI μ1 207 f = T 2 := by rw [k5 _ _ (by decide)]; exact h.2.2.2.1.2.2.1
      have g205 : gI μ1 205 f = T 0 := by rw [k5 _ _ (by decide)]; exact h.2.2.2.1.1
      have g208 : gI μ1 208 f = T 4 := by rw [k5 _ _ (by decide)]; exact e8
      have g210 : gI μ1 210 f = gI μ 210 f := k5 _ _ (by decide)
      obtain ⟨y0, y1, y2, y3, y4, y5⟩ := k4
      have hn : gR G 2 (gR G 200 f) ≠ gR G 3 (gR G 200 f) := hy.ne (j := 12) (k := 13) (by decide) (by decide) (by decide)
      -- with the flag of who leads
      have mid : ∀ b : Int, (b = 0 ∨ b = 1) → (b = 1 ↔ (aBest s l = 0 ∨ aBet s pr (aBest s l) = true)) → ∃ ν, f_X2_restComing_45 N G f b μ = some ν ∧ dRole ρ f μ ν ∧ cFlx G ρ f A V nx ν (l ++ [oMk num t0 s pr z z0]) (if T 2 = 0 then ordT num s pr z0 l z T else T) D tr ∧ gI ν 404 (gR G 204 f) = z ∧ gI ν 210 f = gI μ 210 f ∧ gI ν 208 f = T 4 := by
        intro b hb hbb
        unfold f_X2_restComing_45
        rw [kb_p k1, g207]
        by_cases c2 : T 2 = 0
        · rw [if_pos c2, if_pos c2]
          by_cases cb : b = 0
          · have nt : ¬ isTop s pr z0 (T 0) l z := fun q => by have := hbb.mpr q.2.2.2; omega
            rw [if_pos cb]
            refine ⟨μ1, rfl, k2, ?_, y4, g210, g208⟩
            unfold ordT
            rw [if_neg nt]
            exact k3
          · have b1 := hbb.mp (by omega)
            rw [if_neg cb, y4, y5]
            by_cases cz0 : z = z0
            · rw [if_pos cz0, g205]
              by_cases cg : 0 < T 0
              · rw [if_pos cg]
                obtain ⟨μ2, u1, u2, u3⟩ := z_makeTop0 (N := N) (o := gR G 204 f) (w := oMk num t0 s pr z z0) (g := T 0) hn k3.2.2.1 y0 y2 hs hnum
                have m3 := k3.tops hy u2 u3 (fun j a6 a7 a8 a9 => by
                  have hs2 : (oMk num t0 s pr z z0 2).toNat < 2 := by show s.toNat < 2; omega
                  rw [upd1_n (by omega), upd1_n (by omega)])
                rw [kb_p u1]
                refine ⟨μ2, rfl, k2.tr ((u2.P hy).role pTr_1), ?_, ?_, ?_, ?_⟩
                · unfold ordT
                  rw [if_pos ⟨nf, cz0, cg, b1⟩]
                  exact m3
                · rw [u2.1]; exact y4
                · rw [u2.1]; exact g210
                · rw [u2.1]; exact g208
              · rw [if_neg cg]
                refine ⟨μ1, rfl, k2, ?_, y4, g210, g208⟩
                unfold ordT
                rw [if_neg (fun q => cg q.2.2.1)]
                exact k3
            · rw [if_neg cz0]
              refine ⟨μ1, rfl, k2, ?_, y4, g210, g208⟩
              unfold ordT
              rw [if_neg (fun q => cz0 q.2.1)]
              exact k3
        · rw [if_neg c2, if_neg c2]
          exact ⟨μ1, rfl, k2, k3, y4, g210, g208⟩
      have rc : ∃ ν, f_X2_restComing N G f μ = some ν ∧ dRole ρ f μ ν ∧ cFlx G ρ f A V nx ν (l ++ [oMk num t0 s pr z z0]) (if T 2 = 0 then ordT num s pr z0 l z T else T) D tr ∧ gI ν 404 (gR G 204 f) = z ∧ gI ν 210 f = gI μ 210 f ∧ gI ν 208 f = T 4 := by
        unfold f_X2_restComing f_X2_restComing_40
        rw [c2, kb2_p (z_best0 h.1 hl hN hs)]
        by_cases b0 : aBest s l = 0
        · rw [if_pos b0]
          exact mid 1 (Or.inr rfl) ⟨fun _ => Or.inl b0, fun _ => rfl⟩
        · rw [if_neg b0, c2, c3, kb2_p z_isBetter7, b01_ite]
          by_cases bt : aBet s pr (aBest s l) = true
          · rw [if_pos bt]
            exact mid 1 (Or.inr rfl) ⟨fun _ => Or.inr bt, fun _ => rfl⟩
          · rw [if_neg bt]
            exact mid 0 (Or.inl rfl) ⟨fun q => absurd q (by decide), fun q => absurd q (fun q => q.elim b0 bt)⟩
      obtain ⟨ν, q1, q2, q3, q4, q5, q6⟩ := rc
      rw [if_pos (by omega), kb_p q1, q6]
      exact ⟨ν, nx, rfl, q2, by rw [eL]; exact q3, by rw [eR]; exact q4, q5⟩
end REST7
