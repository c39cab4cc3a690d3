/-! PURE: the class takes -/
/-- who comes in, as the class has it: number, trader, side, price, what is left, what came -/
def cIn (G : qG) (f : Nat) (μ : qM) (num t0 s pr left z0 : Int) : Prop := gI μ 400 (gR G 204 f) = num ∧ gI μ 401 (gR G 204 f) = t0 ∧ gI μ 402 (gR G 204 f) = s ∧ gI μ 403 (gR G 204 f) = pr ∧ gI μ 404 (gR G 204 f) = left ∧ gI μ 405 (gR G 204 f) = z0
/-- all of a floor but its own fields and its clearing -/
def pTk (f : Nat) (q : Nat × Nat) : Prop := q.1 = f ∧ q.2 ≠ 1 ∧ q.2 ≠ 203
/-- the same, and not who comes in -/
def pTc (f : Nat) (q : Nat × Nat) : Prop := q.1 = f ∧ q.2 ≠ 1 ∧ q.2 ≠ 203 ∧ q.2 ≠ 204
theorem pTc_of {f k : Nat} (h : k ≠ 1 ∧ k ≠ 203 ∧ k ≠ 204) : pTc f (f, k) := ⟨rfl, h⟩
theorem pTk_of {f k : Nat} (h : k ≠ 1 ∧ k ≠ 203) : pTk f (f, k) := ⟨rfl, h⟩
theorem pTk_1 {f : Nat} : ∀ q, pTk f q → q.1 = f := fun _ h => h.1
theorem pTr_c {f : Nat} : ∀ q, pTr f q → pTc f q := by
  intro q h
  obtain ⟨h1, h2⟩ := h
  unfold pTc
  omega
theorem pSh_c {f : Nat} : ∀ q, pSh f q → pTc f q := by
  intro q h
  obtain ⟨h1, h2⟩ := h
  unfold pTc
  omega
theorem pTc_k {f : Nat} : ∀ q, pTc f q → pTk f q := fun q h => ⟨h.1, h.2.1, h.2.2.1⟩
section TAKE7
variable {N : Nat} {G : qG} {ρ : Nat → Nat × Nat} {f : Nat} {A V : Nat → Nat} {nx : Nat} {μ ν : qM} {l : List (Nat → Int)} {T U D : Nat → Int} {tr : Nat → Nat → Int} {E : List (Nat → Int)} {x q2 q3 s pr left z0 num L1 : Int} {t0 : Nat}
theorem dB.P (hy : cLay G ρ f) (h : dB G (gR G 200 f) μ ν) : dP ρ (pTc f) μ ν := by
  have r2 : ρ (gR G 2 (gR G 200 f)) = (f, 12) := hy 12 (by decide)
  have r3 : ρ (gR G 3 (gR G 200 f)) = (f, 13) := hy 13 (by decide)
  have r0 : ρ (gR G 0 (gR G 200 f)) = (f, 10) := hy 10 (by decide)
  have rb : ρ (gR G 200 f) = (f, 200) := hy 200 (by decide)
  exact ⟨fun g a y => h.1 g a (fun q => y (by rw [q.2, rb]; exact pTc_of (by decide))), fun a i y => h.2.1 a i (fun q => y (by rw [q, r2]; exact pTc_of (by decide))) (fun q => y (by rw [q, r3]; exact pTc_of (by decide))), fun a i y => h.2.2 a i (fun q => y (by rw [q, r0]; exact pTc_of (by decide)))⟩
theorem cIn.fr {t0 : Int} (hy : cLay G ρ f) (h : cIn G f μ num t0 s pr left z0) (hd : dP ρ (pTc f) μ ν) : cIn G f ν num t0 s pr left z0 := by
  have r : ¬ pTc f (ρ (gR G 204 f)) := by rw [show ρ (gR G 204 f) = (f, 204) from hy 204 (by decide)]; exact fun q => q.2.2.2 rfl
  obtain ⟨a, b, c, d, e, g⟩ := h
  exact ⟨by rw [hd.1 _ _ r]; exact a, by rw [hd.1 _ _ r]; exact b, by rw [hd.1 _ _ r]; exact c, by rw [hd.1 _ _ r]; exact d, by rw [hd.1 _ _ r]; exact e, by rw [hd.1 _ _ r]; exact g⟩
/-- the lots traded, one number -/
theorem cFlx.lots (h : cFlx G ρ f A V nx μ l T D tr) {v : Int} : cFlx G ρ f A V nx (sI μ 304 (gR G 201 f) v) l (upd1 T 11 v) D tr := by
  obtain ⟨h1, h2, h3, h4, h5, h6, h7, h8⟩ := h
  refine ⟨⟨by rw [gI_f (by decide)]; exact h1.1, h1.2.1, h1.2.2.1, fun i k hi hk => by rw [gI_f (by omega)]; exact h1.2.2.2 i k hi hk⟩, h2, fun s hs => by rw [upd1_n (by omega), upd1_n (by omega)]; exact h3 s hs, ?_, ?_, fun t ht => by rw [upd1_n (by omega)]; exact h6 t ht, h7, fun i w hi => h8 i w (by rwa [upd1_n (by decide)] at hi)⟩
  · rw [gI_f (by decide), gI_f (by decide), gI_f (by decide), gI_f (by decide), gI_f (by decide), gI_f (by decide), upd1_n (by decide), upd1_n (by decide), upd1_n (by decide), upd1_n (by decide), upd1_n (by decide), upd1_n (by decide)]
    exact h4
  · rw [gI_f (by decide), gI_f (by decide), gI_s, gI_f (by decide), upd1_n (by decide), upd1_n (by decide), upd1_s]
    exact ⟨h5.1, h5.2.1, rfl, h5.2.2.2⟩
/-- a field of an order that isn't in the book -/
theorem cFlx.com (hy : cLay G ρ f) (h : cFlx G ρ f A V nx μ l T D tr) (hl : l.length ≤ 60) {w : Nat} (hw : w < 6) {v : Int} : cFlx G ρ f A V nx (sI μ (400 + w) (gR G 204 f) v) l T D tr := by
  obtain ⟨h1, h2, h3, h4, h5, h6, h7, h8⟩ := h
  have hI : ∀ g a, (g < 400 ∨ 406 ≤ g) → gI (sI μ (400 + w) (gR G 204 f) v) g a = gI μ g a := fun g a hg => gI_f (by omega)
  have r : ρ (gR G 204 f) = (f, 204) := hy 204 (by decide)
  refine ⟨⟨by rw [hI _ _ (by decide)]; exact h1.1, h1.2.1, h1.2.2.1, fun j k hj hk => by rw [gI_a (role_ne (h2 j (by omega)) r (fun e => absurd (show (1000 : Nat) = 204 from congrArg Prod.snd e) (by decide)))]; exact h1.2.2.2 j k hj hk⟩, h2, h3, ?_, ?_, h6, h7, h8⟩
  · rw [hI _ _ (by decide), hI _ _ (by decide), hI _ _ (by decide), hI _ _ (by decide), hI _ _ (by decide), hI _ _ (by decide)]; exact h4
  · rw [hI _ _ (by decide), hI _ _ (by decide), hI _ _ (by decide), hI _ _ (by decide)]; exact h5
theorem z_takeAt (hy : cLay G ρ f) (uo : uOk l U L1) (hT1 : T 1 = L1) (ht0 : t0 < 10) (hs : s = 0 ∨ s = 1) (h10 : 0 ≤ T 10 ∧ T 10 ≤ 60) (hN : 1000 < N)
    (h : cFlx G ρ f A V nx μ l (apT T U (pOf x E) E (sumW E) q2 q3 s (t0 : Int)) (apD D E (sumY E) s (t0 : Int)) (apTr tr E)) (hi : cIn G f μ num (t0 : Int) s pr left z0) {p : Int} (hp : 1 ≤ p ∧ p ≤ 9999999) (hlf : 1 ≤ left ∧ left ≤ 1000) :
    (aS (wZ (1 - s) p) l = 0 → ∃ ν, f_X2_takeAt N G f (1 - s) p μ = some ν ∧ dP ρ (pTk f) μ ν ∧ cFlx G ρ f A V nx ν l (apT T U (pOf x E) E (sumW E) q2 q3 s (t0 : Int)) (apD D E (sumY E) s (t0 : Int)) (apTr tr E) ∧ cIn G f ν num (t0 : Int) s pr left z0) ∧
    ∀ K, K = min left (aS (wZ (1 - s) p) l) → 1 ≤ K → ∃ ν A' nx', f_X2_takeAt N G f (1 - s) p μ = some ν ∧ dP ρ (pTk f) μ ν ∧ cFlx G ρ f A' V nx' ν ((kL l U L1 (1 - s) p K).filter aKp) (apT T (kU l U L1 (1 - s) p K) (pOf x (kE l U L1 num (1 - s) p K E)) (kE l U L1 num (1 - s) p K E) (sumW (kE l U L1 num (1 - s) p K E)) q2 q3 s (t0 : Int)) (apD D (kE l U L1 num (1 - s) p K E) (sumY (kE l U L1 num (1 - s) p K E)) s (t0 : Int)) (apTr tr (kE l U L1 num (1 - s) p K E)) ∧ cIn G f ν num (t0 : Int) s pr (left - K) z0 := by
  have hl := uo.lo
  have h60 := hl.1
  have hb := aS_bd (w := wZ (1 - s) p) (wZ_bd hl)
  have hso : 1 - s = 0 ∨ 1 - s = 1 := by omega
  obtain ⟨μ1, a1, a2, a3, a4, a5⟩ := z_load5 (N := N) hy h hl (by omega) (1 - s) p
  have h1 := h.frm hy h60 a2 pSh_mk
  have i1 := hi.fr hy (a2.mono pSh_c)
  have all : gI μ1 507 (gR G 202 f) = aS (wZ (1 - s) p) l := by rw [a4, sumZ]
  have pre : f_X2_takeAt N G f (1 - s) p μ = (if 0 < min left (aS (wZ (1 - s) p) l) then (
      kb (f_X5_deal N G (gR G 202 f) (min left (aS (wZ (1 - s) p) l)) (gI μ1 206 f) μ1) fun m5 =>
      kb (f_X2_tradeRows N G f (gR G 503 (gR G 202 f)) (gI m5 400 (gR G 204 f)) p 0 m5) fun m7 =>
      kb (f_X2_tradeRows N G f (gR G 504 (gR G 202 f)) (gI m7 400 (gR G 204 f)) p 1 m7) fun m9 =>
      kb (f_X2_tradeRows N G f (gR G 505 (gR G 202 f)) (gI m9 400 (gR G 204 f)) p 2 m9) fun m11 =>
      kb (f_X3_enter N G (gR G 201 f) (gI m11 401 (gR G 204 f)) (gI m11 402 (gR G 204 f)) p (min left (aS (wZ (1 - s) p) l)) m11) fun m13 =>
      kp (w32 ((gI m13 304 (gR G 201 f)) + (min left (aS (wZ (1 - s) p) l)))) fun v15 =>
      kp (sI m13 304 (gR G 201 f) v15) fun m16 =>
      ckI ((gI m16 404 (gR G 204 f)) - (min left (aS (wZ (1 - s) p) l))) fun v17 =>
      kp (sI m16 404 (gR G 204 f) v17) fun m18 =>
      kb (f_X0_sweep N G (gR G 200 f) m18) fun m19 =>
      some m19) else (some μ1)) := by
    unfold f_X2_takeAt
    rw [kb_p a1, i1.2.2.2.2.1, all, kp_p]
  refine ⟨fun z => ?_, fun K eK hK => ?_⟩
  · rw [pre, if_neg (by omega)]
    exact ⟨μ1, rfl, (a2.mono pSh_c).mono pTc_k, h1, i1⟩
  rw [pre, ← eK, if_pos (by omega)]
  have hK0 : 0 ≤ K ∧ K ≤ aS (wZ (1 - s) p) l := by omega
  have oo := ujOk (s := 1 - s) (p := p) (K := K) uo ⟨by omega, by omega⟩
  have hc := aJ_len (s := 1 - s) (p := p) (l := l) l.length
  have hJl := fun k hk => kJ (so := 1 - s) (p := p) (l := l) (k := k) hk
  have hJs := fun k hk => kS2 (so := 1 - s) (p := p) (l := l) (k := k) hk
  have hinj := fun j k hj hk e => kInj (so := 1 - s) (p := p) (l := l) (j := j) (k := k) hj hk e
  have kbd := fun k hk => kBd (k := k) uo hK0 hk
  have kt := kTop uo hso hK0
  have L1e : gI μ1 206 f = L1 := by rw [h1.2.2.2.1.2.1, apT_k (by omega)]; exact hT1
  have gr' : ∀ k, k < (aJ (1 - s) p l l.length).length → gA μ1 (gR G 501 (gR G 202 f)) k = jS l (aJ (1 - s) p l l.length) k ∧ gA μ1 (gR G 502 (gR G 202 f)) k = jGr U l (aJ (1 - s) p l l.length) k := fun k hk => ⟨(a5 k hk).2.1, by rw [(a5 k hk).2.2]; exact jGr_mk hl hJl (fun j h6 h9 => apT_u ⟨h6, h9⟩) hk⟩
  obtain ⟨μ2, d1, d2, d3, d4, d5, d6, d7⟩ := z_deal (N := N) (μ := μ1) (S := jS l (aJ (1 - s) p l l.length)) (g := jGr U l (aJ (1 - s) p l l.length)) (K := K) (L := L1) hy a3 gr' oo (by omega)
  have h2 := h1.frm hy h60 d2 pSh_mk
  have i2 := i1.fr hy (d2.mono pSh_c)
  have r3 : ρ (gR G 503 (gR G 202 f)) = (f, 503) := hy 503 (by decide)
  have r4 : ρ (gR G 504 (gR G 202 f)) = (f, 504) := hy 504 (by decide)
  have r5 : ρ (gR G 505 (gR G 202 f)) = (f, 505) := hy 505 (by decide)
  have sz : ∀ k, k < (aJ (1 - s) p l l.length).length → lG l (jG (aJ (1 - s) p l l.length) k) 4 ≤ 1000 := fun k hk => (hl.2 _ (hJl k hk)).2.2.2.2.1.2
  have hp0 : 0 ≤ p ∧ p ≤ 9999999 := by omega
  have szi := szs_id (l := l)
  -- (a)
  have rA : rowsAt G (gR G 202 f) (gR G 503 (gR G 202 f)) μ2 A (aJ (1 - s) p l l.length) (kA l U (1 - s) p K) := ⟨by rw [d3]; exact a3, fun k hk => ⟨by rw [d4]; exact (a5 k hk).1, (d7 k hk).1⟩⟩
  have rB : rowsAt G (gR G 202 f) (gR G 504 (gR G 202 f)) μ2 A (aJ (1 - s) p l l.length) (kB l U L1 (1 - s) p K) := ⟨by rw [d3]; exact a3, fun k hk => ⟨by rw [d4]; exact (a5 k hk).1, (d7 k hk).2.1⟩⟩
  have rC : rowsAt G (gR G 202 f) (gR G 505 (gR G 202 f)) μ2 A (aJ (1 - s) p l l.length) (kC l U L1 (1 - s) p K) := ⟨by rw [d3]; exact a3, fun k hk => ⟨by rw [d4]; exact (a5 k hk).1, (d7 k hk).2.2⟩⟩
  have f0b : ∀ i, i < l.length → 0 ≤ (fun i => lG l i 4) i ∧ (fun i => lG l i 4) i ≤ 1000 := fun i hi => (hl.2 i hi).2.2.2.2.1
  obtain ⟨μ3, nx3, b1, b2, b3⟩ := z_tradeRows (N := N) (f := f) (μ := μ2) (l := l) (T := T) (U := U) (E := E) (J := aJ (1 - s) p l l.length) (v := kA l U (1 - s) p K) (f0 := fun i => lG l i 4) (came := num) (p := p) (kind := 0) (so := (1 - s).toNat) (q := kQ l U (1 - s) p) hy hl (by omega) hJl hinj r3 (by decide) f0b (fun k hk => by have := kbd k hk; omega) rA h10 hp0 (fun _ => ⟨by omega, fun k hk => by rw [hJs k hk]; omega, kt.1, kt.2.1, fun hq => by have := (kt.2.2 hq).2; omega⟩) (by rw [szi]; exact h2) (by omega)
  have i3 := i2.fr hy (b2.mono pTr_c)
  have eU1 : (if (0 : Int) = 0 ∧ kQ l U (1 - s) p < (aJ (1 - s) p l l.length).length then uG U (1 - s).toNat (kA l U (1 - s) p K (kQ l U (1 - s) p)) else U) = kU1 l U (1 - s) p K := by
    unfold kU1
    by_cases c : kQ l U (1 - s) p < (aJ (1 - s) p l l.length).length
    · rw [if_pos ⟨rfl, c⟩, if_pos c]
    · rw [if_neg (fun y => c y.2), if_neg c]
  rw [eU1, gP_of] at b3
  -- (b)
  have fa : ∀ k, k < (aJ (1 - s) p l l.length).length → fD (aJ (1 - s) p l l.length) (kA l U (1 - s) p K) (fun i => lG l i 4) (aJ (1 - s) p l l.length).length (jG (aJ (1 - s) p l l.length) k) = lG l (jG (aJ (1 - s) p l l.length) k) 4 - kA l U (1 - s) p K k := fun k hk => by rw [fD_at hk hinj _ (Nat.le_refl _), if_pos hk]
  have fab : ∀ i, i < l.length → 0 ≤ fD (aJ (1 - s) p l l.length) (kA l U (1 - s) p K) (fun i => lG l i 4) (aJ (1 - s) p l l.length).length i ∧ fD (aJ (1 - s) p l l.length) (kA l U (1 - s) p K) (fun i => lG l i 4) (aJ (1 - s) p l l.length).length i ≤ 1000 := by
    intro i hi
    by_cases c : ∃ k, k < (aJ (1 - s) p l l.length).length ∧ jG (aJ (1 - s) p l l.length) k = i
    · obtain ⟨k, hk, rfl⟩ := c
      rw [fa k hk]
      have := kbd k hk
      have := sz k hk
      omega
    · rw [fD_o _ (fun k hk e => c ⟨k, hk, e⟩)]
      exact f0b i hi
  obtain ⟨μ4, nx4, e1, e2, e3⟩ := z_tradeRows (N := N) (f := f) (μ := μ3) (l := l) (T := T) (J := aJ (1 - s) p l l.length) (v := kB l U L1 (1 - s) p K) (came := num) (p := p) (kind := 1) (so := 0) (q := 0) hy hl (by omega) hJl hinj r4 (by decide) fab (fun k hk => by rw [fa k hk]; have := kbd k hk; omega) (b2.sh hy rB r4 (by decide)) h10 hp0 (fun y => absurd y (by decide)) b3 (by omega)
  have i4 := i3.fr hy (e2.mono pTr_c)
  rw [if_neg (fun y => absurd y.1 (by decide)), gP_of] at e3
  -- (c)
  have fb : ∀ k, k < (aJ (1 - s) p l l.length).length → fD (aJ (1 - s) p l l.length) (kB l U L1 (1 - s) p K) (fD (aJ (1 - s) p l l.length) (kA l U (1 - s) p K) (fun i => lG l i 4) (aJ (1 - s) p l l.length).length) (aJ (1 - s) p l l.length).length (jG (aJ (1 - s) p l l.length) k) = lG l (jG (aJ (1 - s) p l l.length) k) 4 - kA l U (1 - s) p K k - kB l U L1 (1 - s) p K k := fun k hk => by rw [fD_at hk hinj _ (Nat.le_refl _), if_pos hk, fa k hk]
  have fbb : ∀ i, i < l.length → 0 ≤ fD (aJ (1 - s) p l l.length) (kB l U L1 (1 - s) p K) (fD (aJ (1 - s) p l l.length) (kA l U (1 - s) p K) (fun i => lG l i 4) (aJ (1 - s) p l l.length).length) (aJ (1 - s) p l l.length).length i ∧ fD (aJ (1 - s) p l l.length) (kB l U L1 (1 - s) p K) (fD (aJ (1 - s) p l l.length) (kA l U (1 - s) p K) (fun i => lG l i 4) (aJ (1 - s) p l l.length).length) (aJ (1 - s) p l l.length).length i ≤ 1000 := by
    intro i hi
    by_cases c : ∃ k, k < (aJ (1 - s) p l l.length).length ∧ jG (aJ (1 - s) p l l.length) k = i
    · obtain ⟨k, hk, rfl⟩ := c
      rw [fb k hk]
      have := kbd k hk
      have := sz k hk
      omega
    · rw [fD_o _ (fun k hk e => c ⟨k, hk, e⟩)]
      exact fab i hi
  have rC3 := e2.sh hy (b2.sh hy rC r5 (by decide)) r5 (by decide)
  obtain ⟨μ5, nx5, g1, g2, g3⟩ := z_tradeRows (N := N) (f := f) (μ := μ4) (l := l) (T := T) (J := aJ (1 - s) p l l.length) (v := kC l U L1 (1 - s) p K) (came := num) (p := p) (kind := 2) (so := 0) (q := 0) hy hl (by omega) hJl hinj r5 (by decide) fbb (fun k hk => by rw [fb k hk]; have := kbd k hk; omega) rC3 h10 hp0 (fun y => absurd y (by decide)) e3 (by omega)
  have i5 := i4.fr hy (g2.mono pTr_c)
  rw [if_neg (fun y => absurd y.1 (by decide)), gP_of] at g3
  -- the sizes
  have eL : szs l (fD (aJ (1 - s) p l l.length) (kC l U L1 (1 - s) p K) (fD (aJ (1 - s) p l l.length) (kB l U L1 (1 - s) p K) (fD (aJ (1 - s) p l l.length) (kA l U (1 - s) p K) (fun i => lG l i 4) (aJ (1 - s) p l l.length).length) (aJ (1 - s) p l l.length).length) (aJ (1 - s) p l l.length).length) = kL l U L1 (1 - s) p K := by
    refine szs_congr (fun i hi => ?_)
    by_cases c : ∃ k, k < (aJ (1 - s) p l l.length).length ∧ jG (aJ (1 - s) p l l.length) k = i
    · obtain ⟨k, hk, rfl⟩ := c
      rw [fD_at hk hinj _ (Nat.le_refl _), if_pos hk, fb k hk, fB_at hinj hk _ (Nat.le_refl _), if_pos (by omega)]
      omega
    · rw [fD_o _ (fun k hk e => c ⟨k, hk, e⟩), fD_o _ (fun k hk e => c ⟨k, hk, e⟩), fD_o _ (fun k hk e => c ⟨k, hk, e⟩), fB_o (fun k hk e => c ⟨k, hk, e⟩) _ (Nat.le_refl _)]
  rw [eL] at g3
  -- who comes in
  have w1 := gE_W (l := l) (J := aJ (1 - s) p l l.length) (came := num) (p := p) (v := kA l U (1 - s) p K) (kind := 0) (E := E) (aJ (1 - s) p l l.length).length (fun j hj => (kbd j hj).1)
  have w2 := gE_W (l := l) (J := aJ (1 - s) p l l.length) (came := num) (p := p) (v := kB l U L1 (1 - s) p K) (kind := 1) (E := gE l (aJ (1 - s) p l l.length) num p (kA l U (1 - s) p K) 0 E (aJ (1 - s) p l l.length).length) (aJ (1 - s) p l l.length).length (fun j hj => (kbd j hj).2.1)
  have w3 := gE_W (l := l) (J := aJ (1 - s) p l l.length) (came := num) (p := p) (v := kC l U L1 (1 - s) p K) (kind := 2) (E := gE l (aJ (1 - s) p l l.length) num p (kB l U L1 (1 - s) p K) 1 (gE l (aJ (1 - s) p l l.length) num p (kA l U (1 - s) p K) 0 E (aJ (1 - s) p l l.length).length) (aJ (1 - s) p l l.length).length) (aJ (1 - s) p l l.length).length (fun j hj => (kbd j hj).2.2.1)
  have kall := kAll uo hK0
  have eE : gE l (aJ (1 - s) p l l.length) num p (kC l U L1 (1 - s) p K) 2 (gE l (aJ (1 - s) p l l.length) num p (kB l U L1 (1 - s) p K) 1 (gE l (aJ (1 - s) p l l.length) num p (kA l U (1 - s) p K) 0 E (aJ (1 - s) p l l.length).length) (aJ (1 - s) p l l.length).length) (aJ (1 - s) p l l.length).length = kE l U L1 num (1 - s) p K E := rfl
  rw [eE] at w3 g3
  have eW : sumW E + K = sumW (kE l U L1 num (1 - s) p K E) := by rw [w3.1, w2.1, w1.1]; omega
  have eY : sumY E + p * K = sumY (kE l U L1 num (1 - s) p K E) := by
    have e : p * K = p * sumN (kA l U (1 - s) p K) (aJ (1 - s) p l l.length).length + p * sumN (kB l U L1 (1 - s) p K) (aJ (1 - s) p l l.length).length + p * sumN (kC l U L1 (1 - s) p K) (aJ (1 - s) p l l.length).length := by rw [← Int.mul_add, ← Int.mul_add, kall]
    rw [w3.2, w2.2, w1.2]
    omega
  generalize hE' : kE l U L1 num (1 - s) p K E = E' at *
  obtain ⟨μ6, m1, m2, m3⟩ := z_enter3 (N := N) (x1 := (t0 : Int)) (side := s) (p := p) (lots := K) hy g3 (t := t0) ht0 rfl hp0 ⟨by omega, by omega⟩
  have i6 := i5.fr hy (m2.mono pTr_c)
  have m4 := m3.lots (v := w32 (upd1 (apT T (kU1 l U (1 - s) p K) (pOf x E') E' (sumW E) q2 q3 s (t0 : Int)) (14 + t0) (w32 (apT T (kU1 l U (1 - s) p K) (pOf x E') E' (sumW E) q2 q3 s (t0 : Int) (14 + t0) + sg s K)) 11 + K))
  have e11 : upd1 (apT T (kU1 l U (1 - s) p K) (pOf x E') E' (sumW E) q2 q3 s (t0 : Int)) (14 + t0) (w32 (apT T (kU1 l U (1 - s) p K) (pOf x E') E' (sumW E) q2 q3 s (t0 : Int) (14 + t0) + sg s K)) 11 = apT T (kU1 l U (1 - s) p K) (pOf x E') E' (sumW E) q2 q3 s (t0 : Int) 11 := upd1_n (by omega)
  have g304 := m3.2.2.2.2.1.2.2.1
  rw [e11] at m4 g304
  rw [apT_in rfl, apD_in rfl, eW, eY] at m4
  have kl := kL_lOk uo hK0
  have m5 := m4.com hy kl.1 (w := 4) (v := left - K) (by decide)
  have r204 : ρ (gR G 204 f) = (f, 204) := hy 204 (by decide)
  have r201 : ρ (gR G 201 f) = (f, 201) := hy 201 (by decide)
  have hn : gR G 2 (gR G 200 f) ≠ gR G 3 (gR G 200 f) := hy.ne (j := 12) (k := 13) (by decide) (by decide) (by decide)
  obtain ⟨ν, A', o1, o2, o3, o4, o5⟩ := z_sweep0 (N := N) hn m5.1 m5.2.2.1 kl (by omega)
  rw [aSw_ap (fun i hi => (kl.2 i hi).ns)] at o5
  have m6 := m5.book hy o2 o3 o4 o5 (fun j a6 a7 a8 a9 => apT_cg (fun _ => rfl) (fun y => by omega) (fun _ => rfl) (fun _ => rfl) (fun _ => rfl) (fun _ => rfl) (fun _ => rfl) (fun _ => ⟨rfl, rfl⟩))
  have d5' : dP ρ (pTk f) μ μ6 := (((((((a2.mono pSh_c).tr (d2.mono pSh_c)).tr (b2.mono pTr_c)).tr (e2.mono pTr_c)).tr (g2.mono pTr_c)).tr (m2.mono pTr_c)).mono pTc_k)
  have s1 : dP ρ (pTc f) μ6 (sI μ6 304 (gR G 201 f) (w32 (apT T (kU1 l U (1 - s) p K) (pOf x E') E' (sumW E) q2 q3 s (t0 : Int) 11 + K))) := dP.sI (by rw [r201]; exact pTc_of (by decide))
  have i7 := i6.fr hy s1
  refine ⟨ν, A', nx5, ?_, ((d5'.tr (s1.mono pTc_k)).tr (dP.sI (by rw [r204]; exact pTk_of (by decide)))).tr ((o2.P hy).mono pTc_k), m6, ?_⟩
  · rw [L1e, kb_p d1, i2.1, kb_p b1, i3.1, kb_p e1, i4.1, kb_p g1, i5.2.1, i5.2.2.1, kb_p m1, g304, kp_p, kp_p, i7.2.2.2.2.1, ckI_p ⟨by omega, by omega⟩, kp_p, kb_p o1]
  · have i8 : cIn G f (sI (sI μ6 304 (gR G 201 f) (w32 (apT T (kU1 l U (1 - s) p K) (pOf x E') E' (sumW E) q2 q3 s (t0 : Int) 11 + K))) 404 (gR G 204 f) (left - K)) num (t0 : Int) s pr (left - K) z0 := by
      obtain ⟨y1, y2, y3, y4, y5, y6⟩ := i7
      exact ⟨by rw [gI_f (by decide)]; exact y1, by rw [gI_f (by decide)]; exact y2, by rw [gI_f (by decide)]; exact y3, by rw [gI_f (by decide)]; exact y4, gI_s, by rw [gI_f (by decide)]; exact y6⟩
    exact i8.fr hy (o2.P hy)
end TAKE7
