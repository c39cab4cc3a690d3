/-! PURE: the class prevents who comes in from meeting itself -/
section PREV7
variable {N : Nat} {G : qG} {ρ : Nat → Nat × Nat} {f : Nat} {A V : Nat → Nat} {nx : Nat} {μ ν : qM} {l : List (Nat → Int)} {T U D D' : Nat → Int} {tr tr' : Nat → Nat → Int} {E : List (Nat → Int)} {x W q2 q3 q4 s pr z z0 num L1 t0 mode : Int}
/-- a field that holds nothing of the market -/
theorem cFlx.fld (h : cFlx G ρ f A V nx μ l T D tr) {g a : Nat} {v : Int} (hg : g ≠ 1 ∧ g ≠ 205 ∧ g ≠ 206 ∧ g ≠ 207 ∧ g ≠ 208 ∧ g ≠ 209 ∧ g ≠ 211 ∧ ¬ (301 ≤ g ∧ g ≤ 304) ∧ ¬ (400 ≤ g ∧ g ≤ 405)) : cFlx G ρ f A V nx (sI μ g a v) l T D tr := by
  obtain ⟨h1, h2, h3, h4, h5, h6, h7, h8⟩ := h
  refine ⟨⟨by rw [gI_f (by omega)]; exact h1.1, h1.2.1, h1.2.2.1, fun i k hi hk => by rw [gI_f (by omega)]; exact h1.2.2.2 i k hi hk⟩, h2, h3, ?_, ?_, h6, h7, h8⟩
  · rw [gI_f (by omega), gI_f (by omega), gI_f (by omega), gI_f (by omega), gI_f (by omega), gI_f (by omega)]; exact h4
  · rw [gI_f (by omega), gI_f (by omega), gI_f (by omega), gI_f (by omega)]; exact h5
theorem cFlx.f12 (h : cFlx G ρ f A V nx μ l T D tr) {v : Int} : cFlx G ρ f A V nx (sI μ 209 f v) l (upd1 T 12 v) D tr := by
  obtain ⟨h1, h2, h3, h4, h5, h6, h7, h8⟩ := h
  refine ⟨⟨by rw [gI_f (by decide)]; exact h1.1, h1.2.1, h1.2.2.1, fun i k hi hk => by rw [gI_f (by omega)]; exact h1.2.2.2 i k hi hk⟩, h2, fun s hs => by rw [upd1_n (by omega), upd1_n (by omega)]; exact h3 s hs, ?_, ?_, fun t ht => by rw [upd1_n (by omega)]; exact h6 t ht, h7, fun i w hi => h8 i w (by rwa [upd1_n (by decide)] at hi)⟩
  · rw [gI_f (by decide), gI_f (by decide), gI_f (by decide), gI_f (by decide), gI_s, gI_f (by decide), upd1_n (by decide), upd1_n (by decide), upd1_n (by decide), upd1_n (by decide), upd1_s, upd1_n (by decide)]
    exact ⟨h4.1, h4.2.1, h4.2.2.1, h4.2.2.2.1, rfl, h4.2.2.2.2.2⟩
  · rw [gI_f (by decide), gI_f (by decide), gI_f (by decide), gI_f (by decide), upd1_n (by decide), upd1_n (by decide), upd1_n (by decide)]
    exact h5
theorem cFlx.f13 (h : cFlx G ρ f A V nx μ l T D tr) {v : Int} : cFlx G ρ f A V nx (sI μ 211 f v) l (upd1 T 13 v) D tr := by
  obtain ⟨h1, h2, h3, h4, h5, h6, h7, h8⟩ := h
  refine ⟨⟨by rw [gI_f (by decide)]; exact h1.1, h1.2.1, h1.2.2.1, fun i k hi hk => by rw [gI_f (by omega)]; exact h1.2.2.2 i k hi hk⟩, h2, fun s hs => by rw [upd1_n (by omega), upd1_n (by omega)]; exact h3 s hs, ?_, ?_, fun t ht => by rw [upd1_n (by omega)]; exact h6 t ht, h7, fun i w hi => h8 i w (by rwa [upd1_n (by decide)] at hi)⟩
  · rw [gI_f (by decide), gI_f (by decide), gI_f (by decide), gI_f (by decide), gI_f (by decide), gI_s, upd1_n (by decide), upd1_n (by decide), upd1_n (by decide), upd1_n (by decide), upd1_n (by decide), upd1_s]
    exact ⟨h4.1, h4.2.1, h4.2.2.1, h4.2.2.2.1, h4.2.2.2.2.1, rfl⟩
  · rw [gI_f (by decide), gI_f (by decide), gI_f (by decide), gI_f (by decide), upd1_n (by decide), upd1_n (by decide), upd1_n (by decide)]
    exact h5
/-- an own order loses -/
theorem z_loseOwn (hy : cLay G ρ f) (hm : 0 ≤ mode ∧ mode ≤ 3) {L : List (Nat → Int)} (hl : L.length ≤ 60) {i : Nat} (hi : i < L.length) (hz4 : 0 < lG L i 4 ∧ lG L i 4 ≤ 1000) (hz : 0 ≤ z ∧ z ≤ 1000)
    (h : cFlx G ρ f A V nx μ L (apT T U (pOf x E) E W q2 q3 s t0) D' tr') (hc : cIn G f μ num t0 s pr z z0) (h210 : gI μ 210 f = w32 q4) {y : Int} (hyy : y = if mode = 3 then min (lG L i 4) z else if mode = 0 ∨ mode = 2 then lG L i 4 else 0) :
    ∃ ν, f_X2_loseOwn N G f (A i) mode μ = some ν ∧ dRole ρ f μ ν ∧ cFlx G ρ f A V nx ν (L.set i (upd1 (lG L i) 4 (lG L i 4 - y))) (apT T U (pOf x E) E W (q2 + if lG L i 4 - y = 0 then 1 else 0) (q3 + if mode = 3 then y else 0) s t0) D' tr' ∧ cIn G f ν num t0 s pr (z - if mode = 3 then y else 0) z0 ∧ gI ν 210 f = w32 (q4 + if mode = 3 then 0 else y) := by
  have hb := h.1
  have g4 : gI μ 404 (A i) = lG L i 4 := z_f0 hb hi 4 (by decide)
  have rA : ρ (A i) = (f, 1000) := h.2.1 i (by omega)
  have r204 : ρ (gR G 204 f) = (f, 204) := hy 204 (by decide)
  have r1 : ρ f = (f, 1) := hy 1 (by decide)
  have nA : gR G 204 f ≠ A i := role_ne r204 rA (fun e => absurd (show (204 : Nat) = 1000 from congrArg Prod.snd e) (by decide))
  obtain ⟨c0, c1, c2, c3, c4, c5⟩ := hc
  have p9 : ∀ v, cFlx G ρ f A V nx (sI μ 404 (A i) v) (L.set i (upd1 (lG L i) 4 v)) (apT T U (pOf x E) E W q2 q3 s t0) D' tr' := fun v => h.ord hl hi (w := 4) (by decide)
  by_cases m02 : mode = 0 ∨ mode = 2
  · have hy4 : y = lG L i 4 := by rw [hyy, if_neg (by omega), if_pos m02]
    have e : f_X2_loseOwn_9 N G f (A i) μ = some (sI (sI (sI μ 210 f (w32 (w32 q4 + lG L i 4))) 404 (A i) 0) 209 f (w32 (apT T U (pOf x E) E W q2 q3 s t0 12 + 1))) := by
      unfold f_X2_loseOwn_9
      rw [h210, g4, kp_p, kp_p, kp_p, gI_f (by decide), gI_f (by decide), h.2.2.2.1.2.2.2.2.1, kp_p, kp_p]
    have hA : cFlx G ρ f A V nx (sI (sI (sI μ 210 f (w32 (w32 q4 + lG L i 4))) 404 (A i) 0) 209 f (w32 (apT T U (pOf x E) E W q2 q3 s t0 12 + 1))) (L.set i (upd1 (lG L i) 4 0)) (apT T U (pOf x E) E W (q2 + 1) q3 s t0) D' tr' := by
      have a1 := h.fld (g := 210) (a := f) (v := w32 (w32 q4 + lG L i 4)) (by decide)
      have a2 := a1.ord hl hi (w := 4) (v := 0) (by decide)
      have a3 := a2.f12 (v := w32 (apT T U (pOf x E) E W q2 q3 s t0 12 + 1))
      rw [apT_12s] at a3
      exact a3
    refine ⟨sI (sI (sI μ 210 f (w32 (w32 q4 + lG L i 4))) 404 (A i) 0) 209 f (w32 (apT T U (pOf x E) E W q2 q3 s t0 12 + 1)), ?_, ((dRole.sI (by rw [r1])).tr (dRole.sI (by rw [rA]))).tr (dRole.sI (by rw [r1])), ?_, ?_, ?_⟩
    · unfold f_X2_loseOwn
      rcases m02 with m0 | m2
      · rw [if_pos m0, e]
      · rw [if_neg (by omega), if_pos m2, e]
    · rw [hy4, Int.sub_self, if_pos rfl, if_neg (by omega), Int.add_zero]; exact hA
    · rw [if_neg (by omega), Int.sub_zero]
      refine ⟨?_, ?_, ?_, ?_, ?_, ?_⟩
      · rw [gI_f (by decide), gI_f (by decide), gI_f (by decide)]; exact c0
      · rw [gI_f (by decide), gI_f (by decide), gI_f (by decide)]; exact c1
      · rw [gI_f (by decide), gI_f (by decide), gI_f (by decide)]; exact c2
      · rw [gI_f (by decide), gI_f (by decide), gI_f (by decide)]; exact c3
      · rw [gI_f (by decide), gI_a nA, gI_f (by decide)]; exact c4
      · rw [gI_f (by decide), gI_f (by decide), gI_f (by decide)]; exact c5
    · rw [if_neg (by omega), gI_f (by decide), gI_f (by decide), gI_s, w32_l, hy4]
  · by_cases m3 : mode = 3
    · have hy3 : y = min (lG L i 4) z := by rw [hyy, if_pos m3]
      have hyb : 0 ≤ y ∧ y ≤ lG L i 4 ∧ y ≤ z := by omega
      have a1 := p9 (lG L i 4 - y)
      have a2 := a1.com hy (by rw [List.length_set]; exact hl) (w := 4) (v := z - y) (by decide)
      have a3 := a2.f13 (v := w32 (apT T U (pOf x E) E W q2 q3 s t0 13 + y))
      rw [apT_13s] at a3
      have a4 := a3.f12 (v := w32 (apT T U (pOf x E) E W q2 (q3 + y) s t0 12 + if lG L i 4 - y = 0 then 1 else 0))
      rw [apT_12s] at a4
      have hA : ∀ u, u = (if lG L i 4 - y = 0 then (1 : Int) else 0) → f_X2_loseOwn N G f (A i) mode μ = some (sI (sI (sI (sI μ 404 (A i) (lG L i 4 - y)) 404 (gR G 204 f) (z - y)) 211 f (w32 (apT T U (pOf x E) E W q2 q3 s t0 13 + y))) 209 f (w32 (apT T U (pOf x E) E W q2 (q3 + y) s t0 12 + u))) := by
        intro u hu
        subst hu
        have e12 : gI (sI (sI (sI μ 404 (A i) (lG L i 4 - y)) 404 (gR G 204 f) (z - y)) 211 f (w32 (apT T U (pOf x E) E W q2 q3 s t0 13 + y))) 209 f = apT T U (pOf x E) E W q2 (q3 + y) s t0 12 := a3.2.2.2.1.2.2.2.2.1
        unfold f_X2_loseOwn
        rw [if_neg (by omega), if_neg (by omega), if_pos m3, g4, c4, kp_p, ← hy3, ckI_p ⟨by omega, by omega⟩, kp_p, gI_a nA, c4, ckI_p ⟨by omega, by omega⟩, kp_p, gI_f (by decide), gI_f (by decide), h.2.2.2.1.2.2.2.2.2, kp_p, kp_p, gI_f (by decide), gI_a (Ne.symm nA), gI_s, e12]
        by_cases c : lG L i 4 - y = 0
        · rw [if_pos c, if_pos c, kp_p, kp_p]
        · rw [if_neg c, if_neg c, kp_p, kp_p]
      refine ⟨_, hA _ rfl, (((dRole.sI (by rw [rA])).tr (dRole.sI (by rw [r204]))).tr (dRole.sI (by rw [r1]))).tr (dRole.sI (by rw [r1])), ?_, ?_, ?_⟩
      · rw [if_pos m3]; exact a4
      · rw [if_pos m3]
        refine ⟨?_, ?_, ?_, ?_, ?_, ?_⟩
        · rw [gI_f (by decide), gI_f (by decide), gI_f (by decide), gI_f (by decide)]; exact c0
        · rw [gI_f (by decide), gI_f (by decide), gI_f (by decide), gI_f (by decide)]; exact c1
        · rw [gI_f (by decide), gI_f (by decide), gI_f (by decide), gI_f (by decide)]; exact c2
        · rw [gI_f (by decide), gI_f (by decide), gI_f (by decide), gI_f (by decide)]; exact c3
        · rw [gI_f (by decide), gI_f (by decide), gI_s]
        · rw [gI_f (by decide), gI_f (by decide), gI_f (by decide), gI_f (by decide)]; exact c5
      · rw [if_pos m3, Int.add_zero, gI_f (by decide), gI_f (by decide), gI_f (by decide), gI_f (by decide)]; exact h210
    · have hy0 : y = 0 := by rw [hyy, if_neg m3, if_neg m02]
      refine ⟨μ, ?_, dRole.rf, ?_, ?_, ?_⟩
      · unfold f_X2_loseOwn
        rw [if_neg (by omega), if_neg (by omega), if_neg m3]
      · rw [hy0, Int.sub_zero, upd1_id, if_neg (by omega), if_neg m3, Int.add_zero, Int.add_zero]
        have : L.set i (lG L i) = L := lG_ext (List.length_set) (fun j hj => by rw [lG_set hi]; by_cases c : j = i; subst c; rw [if_pos rfl]; rw [if_neg c])
        rw [this]; exact h
      · rw [if_neg m3, Int.sub_zero]; exact ⟨c0, c1, c2, c3, c4, c5⟩
      · rw [if_neg m3, hy0, Int.add_zero]; exact h210
theorem z_preventSelf (hy : cLay G ρ f) (uo : uOk l U L1) (hm : 0 ≤ mode ∧ mode ≤ 3) (hz : 1 ≤ z ∧ z ≤ 1000) (hN : 1000 < N) {so p : Int}
    (h : cFlx G ρ f A V nx μ l (apT T U (pOf x E) E W q2 q3 s t0) D' tr') (hc : cIn G f μ num t0 s pr z z0) (h210 : gI μ 210 f = w32 q4) :
    ∃ ν A', f_X2_preventSelf N G f so p mode μ = some ν ∧ dRole ρ f μ ν ∧ cFlx G ρ f A' V nx ν ((vL mode (oOwn so p t0) l z).filter aKp) (apT T (aSw U (vL mode (oOwn so p t0) l z)) (pOf x E) E W (q2 + cZ mode (oOwn so p t0) l z l.length) (q3 + if mode = 3 then cY mode (oOwn so p t0) l z l.length else 0) s t0) D' tr' ∧
      cIn G f ν num t0 s pr (vLeft mode (oOwn so p t0) l z) z0 ∧ gI ν 210 f = w32 (q4 + if mode = 3 then 0 else cY mode (oOwn so p t0) l z l.length) := by
  have hl := uo.lo
  have h60 := hl.1
  have hz0 : 0 ≤ z := by omega
  generalize hw : oOwn so p t0 = w
  have r204 : ρ (gR G 204 f) = (f, 204) := hy 204 (by decide)
  have hn : gR G 2 (gR G 200 f) ≠ gR G 3 (gR G 200 f) := hy.ne (j := 12) (k := 13) (by decide) (by decide) (by decide)
  have hvl := vL_lOk (mode := mode) (w := w) (z := z) hz0 hl
  -- the sweep at the end
  have fin : ∀ mem z', dRole ρ f μ mem → cFlx G ρ f A V nx mem (vL mode w l z) (apT T U (pOf x E) E W (q2 + cZ mode w l z l.length) (q3 + if mode = 3 then cY mode w l z l.length else 0) s t0) D' tr' → cIn G f mem num t0 s pr z' z0 → gI mem 210 f = w32 (q4 + if mode = 3 then 0 else cY mode w l z l.length) → z' = vLeft mode w l z →
      ∃ ν A', f_X2_preventSelf_98 N G f mem = some ν ∧ dRole ρ f μ ν ∧ cFlx G ρ f A' V nx ν ((vL mode w l z).filter aKp) (apT T (aSw U (vL mode w l z)) (pOf x E) E W (q2 + cZ mode w l z l.length) (q3 + if mode = 3 then cY mode w l z l.length else 0) s t0) D' tr' ∧ cIn G f ν num t0 s pr (vLeft mode w l z) z0 ∧ gI ν 210 f = w32 (q4 + if mode = 3 then 0 else cY mode w l z l.length) := by
    intro mem z' hd hf hcc h2 hz'
    obtain ⟨ν, A', o1, o2, o3, o4, o5⟩ := z_sweep0 (N := N) hn hf.1 hf.2.2.1 hvl (by omega)
    rw [aSw_ap (fun i hi => (hvl.2 i hi).ns)] at o5
    refine ⟨ν, A', ?_, hd.tr (dRole.ofB hy o2), hf.book hy o2 o3 o4 o5 (fun j a6 a7 a8 a9 => apT_cg (fun _ => rfl) (fun y => by omega) (fun _ => rfl) (fun _ => rfl) (fun _ => rfl) (fun _ => rfl) (fun _ => rfl) (fun _ => ⟨rfl, rfl⟩)), ?_, ?_⟩
    · unfold f_X2_preventSelf_98
      rw [kb_p o1]
    · rw [← hz']; exact hcc.fr hy (o2.P hy)
    · rw [o2.1 _ _ (fun q => by omega)]; exact h2
  unfold f_X2_preventSelf f_X2_preventSelf_L6
  refine qLoop_inv
    (fun i st => ∃ mem, st = (f, so, p, mode, aMet w l i, (i : Int), mem) ∧ dRole ρ f μ mem ∧ cFlx G ρ f A V nx mem (szs l (pF mode w l z i)) (apT T U (pOf x E) E W (q2 + cZ mode w l z i) (q3 + if mode = 3 then cY mode w l z i else 0) s t0) D' tr' ∧ cIn G f mem num t0 s pr (bL mode w l z i) z0 ∧ gI mem 210 f = w32 (q4 + if mode = 3 then 0 else cY mode w l z i))
    (fun r => ∃ ν A', r = some ν ∧ dRole ρ f μ ν ∧ cFlx G ρ f A' V nx ν ((vL mode w l z).filter aKp) (apT T (aSw U (vL mode w l z)) (pOf x E) E W (q2 + cZ mode w l z l.length) (q3 + if mode = 3 then cY mode w l z l.length else 0) s t0) D' tr' ∧ cIn G f ν num t0 s pr (vLeft mode w l z) z0 ∧ gI ν 210 f = w32 (q4 + if mode = 3 then 0 else cY mode w l z l.length))
    l.length ?_ ?_ l.length 0 N _ (by omega) (by omega) ?_
  · rintro i st hi ⟨mem, rfl, hd, hf, hcc, h2⟩
    refine Or.inr ?_
    have szl : (szs l (pF mode w l z i)).length = l.length := szs_len
    have hi' : i < (szs l (pF mode w l z i)).length := by rw [szl]; exact hi
    have hb := hf.1
    have pi : pF mode w l z i i = lG l i 4 := if_neg (by omega)
    have s4 : lG (szs l (pF mode w l z i)) i 4 = lG l i 4 := by rw [szs_4 hi, pi]
    have at' : aAt so p (lG (szs l (pF mode w l z i)) i) = aAt so p (lG l i) := by unfold aAt; rw [szs_o hi (by decide), szs_o hi (by decide)]
    have g1 : gI mem 401 (A i) = lG l i 1 := by rw [z_f0 hb hi' 1 (by decide), szs_o hi (by decide)]
    have eset : (szs l (pF mode w l z i)).set i (upd1 (lG (szs l (pF mode w l z i)) i) 4 (vF mode w l z i)) = szs l (pF mode w l z (i + 1)) := by
      rw [szs_set hi]
      refine szs_congr (fun j hj => ?_)
      unfold pF
      by_cases c : j = i
      · subst c; rw [if_pos rfl, if_pos (by omega)]
      · rw [if_neg c]
        by_cases d : j < i
        · rw [if_pos d, if_pos (by omega)]
        · rw [if_neg d, if_neg (by omega)]
    have wv : w (lG l i) = true ↔ (aAt so p (lG l i) = true ∧ lG l i 1 = t0) := by rw [← hw]; exact oOwn_t
    have hz4 := (hl.2 i hi).2.2.2.2.1
    have hp4 := uo.pos i hi
    have bl := bL_bd (mode := mode) (w := w) hz0 hl i (by omega)
    by_cases c : w (lG l i) = true
    · have ey : bY mode w l z i = if mode = 3 then min (lG l i 4) (bL mode w l z i) else if mode = 0 ∨ mode = 2 then lG l i 4 else 0 := if_pos c
      obtain ⟨mem', k1, k2, k3, k4, k5⟩ := z_loseOwn (N := N) hy hm (by rw [szl]; exact h60) hi' (by rw [s4]; omega) ⟨bl.1, by omega⟩ hf hcc h2 (y := bY mode w l z i) (by rw [s4]; exact ey)
      rw [s4] at k3
      have evF : lG l i 4 - bY mode w l z i = vF mode w l z i := rfl
      rw [evF, eset] at k3
      have em : aMet w l (i + 1) = 1 := if_pos c
      have e2 : q2 + cZ mode w l z i + (if vF mode w l z i = 0 then 1 else 0) = q2 + cZ mode w l z (i + 1) := by show _ = q2 + (cZ mode w l z i + if vF mode w l z i = 0 then 1 else 0); omega
      have e3 : (q3 + if mode = 3 then cY mode w l z i else 0) + (if mode = 3 then bY mode w l z i else 0) = q3 + if mode = 3 then cY mode w l z (i + 1) else 0 := by
        show _ = q3 + if mode = 3 then (cY mode w l z i + bY mode w l z i) else 0
        split <;> omega
      have e4 : (q4 + if mode = 3 then 0 else cY mode w l z i) + (if mode = 3 then 0 else bY mode w l z i) = q4 + if mode = 3 then 0 else cY mode w l z (i + 1) := by
        show _ = q4 + if mode = 3 then 0 else (cY mode w l z i + bY mode w l z i)
        split <;> omega
      have e5 : bL mode w l z i - (if mode = 3 then bY mode w l z i else 0) = bL mode w l z (i + 1) := by
        show _ = if mode = 3 ∧ w (lG l i) = true then bL mode w l z i - min (lG l i 4) (bL mode w l z i) else bL mode w l z i
        by_cases m3 : mode = 3
        · rw [if_pos m3, if_pos ⟨m3, c⟩, ey, if_pos m3]
        · rw [if_neg m3, if_neg (fun q => m3 q.1), Int.sub_zero]
      rw [e2, e3] at k3
      rw [e5] at k4
      rw [e4] at k5
      refine ⟨(f, so, p, mode, aMet w l (i + 1), ((i + 1 : Nat) : Int), mem'), ⟨mem', rfl, hd.tr k2, k3, k4, k5⟩, fun kk => ?_⟩
      show f_X2_preventSelf_6 N G _ f so p mode (aMet w l i) (i : Int) mem = _
      unfold f_X2_preventSelf_6 f_X2_preventSelf_69
      rw [hb.1, szl, if_pos (by omega), z_row0 hb (by omega), kb2_p (z_isAt0 hb (by rw [szl]; exact h60) hi'), b01_ite, at', if_pos (wv.mp c).1, g1, hcc.2.1, if_pos (wv.mp c).2, kb_p k1, ckI_p ⟨by omega, by omega⟩, cast1, em]
    · have ey : bY mode w l z i = 0 := if_neg c
      have evF : vF mode w l z i = lG l i 4 := by unfold vF; rw [ey, Int.sub_zero]
      have em : aMet w l (i + 1) = aMet w l i := if_neg c
      have e0 : szs l (pF mode w l z (i + 1)) = szs l (pF mode w l z i) := by
        rw [← eset, evF, ← s4, upd1_id]
        exact lG_ext (List.length_set) (fun j hj => by rw [lG_set hi']; by_cases c : j = i; subst c; rw [if_pos rfl]; rw [if_neg c])
      have e2 : cZ mode w l z (i + 1) = cZ mode w l z i := by show cZ mode w l z i + (if vF mode w l z i = 0 then 1 else 0) = _; rw [evF, if_neg (by omega), Int.add_zero]
      have e3 : cY mode w l z (i + 1) = cY mode w l z i := by show cY mode w l z i + bY mode w l z i = _; rw [ey, Int.add_zero]
      have e5 : bL mode w l z (i + 1) = bL mode w l z i := if_neg (fun q => c q.2)
      refine ⟨(f, so, p, mode, aMet w l (i + 1), ((i + 1 : Nat) : Int), mem), ⟨mem, rfl, hd, by rw [e0, e2, e3]; exact hf, by rw [e5]; exact hcc, by rw [e3]; exact h2⟩, fun kk => ?_⟩
      show f_X2_preventSelf_6 N G _ f so p mode (aMet w l i) (i : Int) mem = _
      unfold f_X2_preventSelf_6 f_X2_preventSelf_69
      rw [hb.1, szl, if_pos (by omega), z_row0 hb (by omega), kb2_p (z_isAt0 hb (by rw [szl]; exact h60) hi'), b01_ite, at', g1, hcc.2.1, em]
      by_cases c1 : aAt so p (lG l i) = true
      · rw [if_pos c1, if_neg (fun q => c (wv.mpr ⟨c1, q⟩)), ckI_p ⟨by omega, by omega⟩, cast1]
      · rw [if_neg c1, ckI_p ⟨by omega, by omega⟩, cast1]
  · rintro st ⟨mem, rfl, hd, hf, hcc, h2⟩
    have szl : (szs l (pF mode w l z l.length)).length = l.length := szs_len
    have eL : szs l (pF mode w l z l.length) = vL mode w l z := szs_congr (fun j hj => if_pos hj)
    have hb := hf.1
    rw [eL] at hf
    have s404 : ∀ mem, cFlx G ρ f A V nx mem (vL mode w l z) (apT T U (pOf x E) E W (q2 + cZ mode w l z l.length) (q3 + if mode = 3 then cY mode w l z l.length else 0) s t0) D' tr' → cIn G f mem num t0 s pr (bL mode w l z l.length) z0 → cFlx G ρ f A V nx (sI mem 404 (gR G 204 f) 0) (vL mode w l z) (apT T U (pOf x E) E W (q2 + cZ mode w l z l.length) (q3 + if mode = 3 then cY mode w l z l.length else 0) s t0) D' tr' ∧ cIn G f (sI mem 404 (gR G 204 f) 0) num t0 s pr 0 z0 := by
      intro mem q1 q2
      obtain ⟨y1, y2, y3, y4, y5, y6⟩ := q2
      exact ⟨q1.com hy hvl.1 (w := 4) (by decide), by rw [gI_f (by decide)]; exact y1, by rw [gI_f (by decide)]; exact y2, by rw [gI_f (by decide)]; exact y3, by rw [gI_f (by decide)]; exact y4, gI_s, by rw [gI_f (by decide)]; exact y6⟩
    have m01 := aMet_01 (w := w) (l := l) l.length
    have stp : ∀ kk, f_X2_preventSelf_6 N G kk f so p mode (aMet w l l.length) (l.length : Int) mem = if aMet w l l.length = 0 then f_X2_preventSelf_98 N G f mem else if mode = 1 then f_X2_preventSelf_90 N G f mem else if mode = 2 then f_X2_preventSelf_90 N G f mem else f_X2_preventSelf_98 N G f mem := by
      intro kk
      unfold f_X2_preventSelf_6
      rw [hb.1, szl, if_neg (by omega)]
    have f90 : ∀ mem, f_X2_preventSelf_90 N G f mem = f_X2_preventSelf_98 N G f (sI mem 404 (gR G 204 f) 0) := fun mem => by unfold f_X2_preventSelf_90; rw [kp_p]
    by_cases c0 : aMet w l l.length = 0
    · obtain ⟨ν, A', o1, o2⟩ := fin mem _ hd hf hcc h2 (by unfold vLeft; rw [if_neg (by omega)])
      refine ⟨_, ⟨ν, A', o1, o2⟩, fun k => ?_⟩
      exact (stp _).trans (if_pos c0)
    · by_cases c12 : mode = 1 ∨ mode = 2
      · obtain ⟨y1, y2⟩ := s404 mem hf hcc
        obtain ⟨ν, A', o1, o2⟩ := fin _ 0 (hd.tr (dRole.sI (by rw [r204]))) y1 y2 (by rw [gI_f (by decide)]; exact h2) (by unfold vLeft; rw [if_pos ⟨by omega, c12⟩])
        refine ⟨_, ⟨ν, A', o1, o2⟩, fun k => ?_⟩
        refine ((stp _).trans (if_neg c0)).trans ?_
        rw [f90]
        rcases c12 with c1 | c2
        · rw [if_pos c1]
        · rw [if_neg (by omega), if_pos c2]
      · obtain ⟨ν, A', o1, o2⟩ := fin mem _ hd hf hcc h2 (by unfold vLeft; rw [if_neg (fun q => c12 q.2)])
        refine ⟨_, ⟨ν, A', o1, o2⟩, fun k => ?_⟩
        refine ((stp _).trans (if_neg c0)).trans ?_
        rw [if_neg (by omega), if_neg (by omega)]
  · refine ⟨μ, rfl, dRole.rf, ?_, hc, ?_⟩
    · have e0 : szs l (pF mode w l z 0) = l := by
        have : szs l (pF mode w l z 0) = szs l (fun i => lG l i 4) := szs_congr (fun j _ => if_neg (by omega))
        rw [this, szs_id]
      have e3 : (q3 + if mode = 3 then cY mode w l z 0 else 0) = q3 := by show (q3 + if mode = 3 then 0 else 0) = q3; rw [ite_self, Int.add_zero]
      rw [e0, e3]
      show cFlx G ρ f A V nx μ l (apT T U (pOf x E) E W (q2 + 0) q3 s t0) D' tr'
      rw [Int.add_zero]; exact h
    · show gI μ 210 f = w32 (q4 + if mode = 3 then 0 else 0)
      rw [ite_self, Int.add_zero]; exact h210
end PREV7
