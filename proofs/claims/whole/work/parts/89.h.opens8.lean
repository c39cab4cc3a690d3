/-! PURE: OPEN, reference: the trades of a side -/
theorem apT_tr0 {T U : Nat → Int} {p : Int} {E : List (Nat → Int)} {e : Nat → Int} {t : Nat} (ht : e 5 = (t : Int)) : upd1 (upd1 (apT T U p E 0 0 0 0 0) 10 (min (apT T U p E 0 0 0 0 0 10 + 1) 60)) (14 + t) (w32 (apT T U p E 0 0 0 0 0 (14 + t) + sg (e 6) (e 3))) = apT T U p (e :: E) 0 0 0 0 0 := by
  have h := apT_tr (T := T) (U := U) (p := p) (E := E) (W := 0) (q2 := 0) (q3 := 0) (s := 0) (t0 := 0) ht
  funext j
  have hj := congrFun h j
  by_cases c : j = 3
  · subst c
    rw [upd1_n (by omega), upd1_n (by decide), apT_3, apT_3]
  · have e1 : apT T U p (e :: E) 0 0 0 0 0 j = apT T U (e 2) (e :: E) 0 0 0 0 0 j := apT_cg (fun _ => rfl) (fun _ => rfl) (fun q => absurd q c) (fun _ => rfl) (fun _ => rfl) (fun _ => rfl) (fun _ => rfl) (fun _ => ⟨rfl, rfl⟩)
    rw [e1, ← hj]
    by_cases d : j = 14 + t
    · subst d; rw [upd1_s, upd1_s]
    · rw [upd1_n d, upd1_n d, upd1_n c]
/-- a loop that ends in another one: what it does doesn't hang on that one -/
theorem qLoop_fam {σ ρ κ : Type} {step : κ → (σ → Option ρ) → σ → Option ρ} (I : Nat → σ → Prop) (e : Nat) (hs : ∀ i s, i < e → I i s → ∃ s', I (i + 1) s' ∧ ∀ q k, step q k s = k s') : ∀ (d i n : Nat) (s : σ), i + d = e → d < n → I i s → ∃ s', I e s' ∧ ∀ q r, (∀ k, step q k s' = r) → qLoop (step q) n s = r := by
  intro d
  induction d with
  | zero =>
    intro i n s h1 h2 h3
    have : i = e := by omega
    subst this
    exact ⟨s, h3, fun q r hr => qLoop_x hr h2⟩
  | succ d ih =>
    intro i n s h1 h2 h3
    obtain ⟨s', k1, k2⟩ := hs i s (by omega) h3
    obtain ⟨s'', j1, j2⟩ := ih (i + 1) (n - 1) s' (by omega) (by omega) k1
    exact ⟨s'', j1, fun q r hr => by rw [qLoop_t (k2 q) (by omega)]; exact j2 q r hr⟩
section OPENS8
variable {N : Nat} {G : qG} {m : Nat} {μ ν : qM} {l : List (Nat → Int)} {T U D : Nat → Int} {tr : Nat → Nat → Int} {n : Nat} {B : Nat → Int} {E : List (Nat → Int)} {p0 pr v kind so left all : Int}
theorem z_opens8 (hL : mL G m) (hl : lOk l) (h10 : 0 ≤ T 10 ∧ T 10 ≤ 60) (hN : 1000 < N) (h : mR G m μ l (apT T U p0 E 0 0 0 0 0) (apD D E 0 0 0) (apTr tr E) n B) (h818 : gI μ 818 m = pr) {k i : Nat} (hk : k < 70) (ha : gA μ (gR G 806 m) k = (i : Int)) (hil : i < l.length) (hp : 0 ≤ pr ∧ pr ≤ 9999999) (hv : 0 ≤ v ∧ v ≤ 1000) :
    ∃ ν, f_X8_opens N G m (k : Int) v kind μ = some ν ∧ dRf G m noF tA μ ν ∧ mR G m ν l (apT T U p0 (if 0 < v then tRow (lG l i) 0 pr v kind :: E else E) 0 0 0 0 0) (apD D (if 0 < v then tRow (lG l i) 0 pr v kind :: E else E) 0 0 0) (apTr tr (if 0 < v then tRow (lG l i) 0 pr v kind :: E else E)) n B := by
  have hn := hl.1
  unfold f_X8_opens
  by_cases c : v = 0
  · rw [if_pos c, if_neg (by omega)]
    exact ⟨μ, rfl, dRf.rf, h⟩
  · have c' : 0 < v := by omega
    have ho := hl.2 i hil
    have tb := ho.2.1
    have b10 : 0 ≤ apT T U p0 E 0 0 0 0 0 10 ∧ apT T U p0 E 0 0 0 0 0 10 ≤ 60 := by rw [apT_10]; omega
    obtain ⟨μ1, k1, k2, k3⟩ := z_tells8 (N := N) hL h b10 hn hN (tRow (lG l i) 0 pr v kind)
    have k1' : f_X8_tells N G m (lG l i 0) 0 pr v kind μ = some μ1 := k1
    obtain ⟨μ2, m1, m2, m3⟩ := z_moves8 (N := N) (x1 := lG l i 1) (side := lG l i 2) (p := pr) (lots := v) hL k3 (t := (lG l i 1).toNat) (by omega) (by omega) hp ⟨by omega, by omega⟩
    have h5e : tRow (lG l i) 0 pr v kind 5 = ((lG l i 1).toNat : Int) := by show lG l i 1 = _; omega
    have eD := apD_tr (D := D) (E := E) (Y := 0) (s := 0) (t0 := 0) (e := tRow (lG l i) 0 pr v kind) h5e
    have eT := apT_tr0 (T := T) (U := U) (p := p0) (E := E) (e := tRow (lG l i) 0 pr v kind) h5e
    have eD' : upd1 (apD D E 0 0 0) (lG l i 1).toNat (w64 (apD D E 0 0 0 (lG l i 1).toNat - pr * sg (lG l i 2) v)) = apD D (tRow (lG l i) 0 pr v kind :: E) 0 0 0 := eD
    have eT' : upd1 (upd1 (apT T U p0 E 0 0 0 0 0) 10 (min (apT T U p0 E 0 0 0 0 0 10 + 1) 60)) (14 + (lG l i 1).toNat) (w32 (upd1 (apT T U p0 E 0 0 0 0 0) 10 (min (apT T U p0 E 0 0 0 0 0 10 + 1) 60) (14 + (lG l i 1).toNat) + sg (lG l i 2) v)) = apT T U p0 (tRow (lG l i) 0 pr v kind :: E) 0 0 0 0 0 := by
      rw [upd1_n (show 14 + (lG l i 1).toNat ≠ 10 by omega)]
      exact eT
    rw [eD', eT', apTr_c] at m3
    rw [if_neg c, if_pos c', rdA_p ⟨by omega, by omega⟩, Int.toNat_natCast, ha, kb2_p (z8_0 h.1 hn hil), h818, kb_p k1', kb2_p (z8_1 k3.1 hn hil), kb2_p (z8_2 k3.1 hn hil), k2.1, h818, kb_p m1]
    exact ⟨μ2, rfl, (k2.rfm (Or.inl rfl)).tr m2, m3⟩
theorem z_o142 (hL : mL G m) (hl : lOk l) (h10 : 0 ≤ T 10 ∧ T 10 ≤ 60) (hN : 1000 < N) {J : List Nat} (hJ : J.length ≤ 60) (hJl : ∀ k, k < J.length → jG J k < l.length) (hp : 0 ≤ pr ∧ pr ≤ 9999999) {v : Nat → Int} (h818 : gI μ 818 m = pr)
    (h5 : gI μ 805 m = (J.length : Int)) (h6 : ∀ k, k < J.length → gA μ (gR G 806 m) k = (jG J k : Int)) (hv : ∀ k, k < J.length → gA μ (gR G 810 m) k = v k) (hvb : ∀ k, k < J.length → 0 ≤ v k ∧ v k ≤ 1000)
    (h : mR G m μ l (apT T U p0 E 0 0 0 0 0) (apD D E 0 0 0) (apTr tr E) n B) :
    ∃ mem, dRf G m noF tA μ mem ∧ mR G m mem l (apT T U p0 (gE l J 0 pr v 2 E J.length) 0 0 0 0 0) (apD D (gE l J 0 pr v 2 E J.length) 0 0 0) (apTr tr (gE l J 0 pr v 2 E J.length)) n B ∧ ∀ k5, f_X8_opensSide_L142 N G k5 m so left all 0 μ = f_X8_opensSide_171 N G k5 m so left all mem := by
  have n8 : ∀ g, (g = 806 ∨ g = 810) → ∀ f, tA f → gR G g m ≠ gR G f m := by
    intro g hg f hf
    rcases hg with rfl | rfl <;> rcases hf with rfl | rfl <;> exact hL.ne (by decide) (by decide) (by decide)
  obtain ⟨st, ⟨mem, rfl, hd, hm⟩, hk⟩ := qLoop_fam (ρ := qM) (step := fun (q : Nat → Int → Int → qM → Option qM) (k : Nat × Int × Int × Int × Int × qM → Option qM) (p : Nat × Int × Int × Int × Int × qM) => f_X8_opensSide_142 N G q (fun x0 x1 x2 x4 x5 m0 => k (x0, x1, x2, x4, x5, m0)) p.1 p.2.1 p.2.2.1 p.2.2.2.1 p.2.2.2.2.1 p.2.2.2.2.2)
    (fun k (st : Nat × Int × Int × Int × Int × qM) => ∃ mem, st = (m, so, left, all, (k : Int), mem) ∧ dRf G m noF tA μ mem ∧ mR G m mem l (apT T U p0 (gE l J 0 pr v 2 E k) 0 0 0 0 0) (apD D (gE l J 0 pr v 2 E k) 0 0 0) (apTr tr (gE l J 0 pr v 2 E k)) n B) J.length (by
      rintro k st hk ⟨mem, rfl, hd, hm⟩
      have e5 : gI mem 805 m = (J.length : Int) := by rw [hd.1 _ _ (fun q => q.2)]; exact h5
      have e18 : gI mem 818 m = pr := by rw [hd.1 _ _ (fun q => q.2)]; exact h818
      have e6 : gA mem (gR G 806 m) k = (jG J k : Int) := by rw [hd.2.1 _ _ (n8 806 (Or.inl rfl))]; exact h6 k hk
      have ev : gA mem (gR G 810 m) k = v k := by rw [hd.2.1 _ _ (n8 810 (Or.inr rfl))]; exact hv k hk
      obtain ⟨mem', a1, a2, a3⟩ := z_opens8 (N := N) (k := k) (v := v k) (kind := 2) hL hl h10 hN hm e18 (by omega) e6 (hJl k hk) hp (hvb k hk)
      refine ⟨_, ⟨mem', rfl, hd.tr a2, a3⟩, fun k5 kk => ?_⟩
      show f_X8_opensSide_142 N G k5 _ m so left all (k : Int) mem = _
      unfold f_X8_opensSide_142
      rw [e5, if_pos (by omega), rdA_p ⟨by omega, by omega⟩, Int.toNat_natCast, ev, kb_p a1, ckI_p ⟨by omega, by omega⟩, cast1]) J.length 0 N (m, so, left, all, 0, μ) (by omega) (by omega) ⟨μ, rfl, dRf.rf, h⟩
  have e5 : gI mem 805 m = (J.length : Int) := by rw [hd.1 _ _ (fun q => q.2)]; exact h5
  refine ⟨mem, hd, hm, fun k5 => hk k5 _ (fun k => ?_)⟩
  show f_X8_opensSide_142 N G k5 _ m so left all (J.length : Int) mem = _
  unfold f_X8_opensSide_142
  rw [e5, if_neg (by omega)]
theorem z_o110 (hL : mL G m) (hl : lOk l) (h10 : 0 ≤ T 10 ∧ T 10 ≤ 60) (hN : 1000 < N) {J : List Nat} (hJ : J.length ≤ 60) (hJl : ∀ k, k < J.length → jG J k < l.length) (hp : 0 ≤ pr ∧ pr ≤ 9999999) {v : Nat → Int} (h818 : gI μ 818 m = pr)
    (h5 : gI μ 805 m = (J.length : Int)) (h6 : ∀ k, k < J.length → gA μ (gR G 806 m) k = (jG J k : Int)) (hv : ∀ k, k < J.length → gA μ (gR G 809 m) k = v k) (hvb : ∀ k, k < J.length → 0 ≤ v k ∧ v k ≤ 1000)
    (h : mR G m μ l (apT T U p0 E 0 0 0 0 0) (apD D E 0 0 0) (apTr tr E) n B) :
    ∃ mem, dRf G m noF tA μ mem ∧ mR G m mem l (apT T U p0 (gE l J 0 pr v 1 E J.length) 0 0 0 0 0) (apD D (gE l J 0 pr v 1 E J.length) 0 0 0) (apTr tr (gE l J 0 pr v 1 E J.length)) n B ∧ ∀ k5, f_X8_opensSide_L110 N G k5 m so left all 0 μ = f_X8_opensSide_L142 N G k5 m so left all 0 mem := by
  have n8 : ∀ g, (g = 806 ∨ g = 809) → ∀ f, tA f → gR G g m ≠ gR G f m := by
    intro g hg f hf
    rcases hg with rfl | rfl <;> rcases hf with rfl | rfl <;> exact hL.ne (by decide) (by decide) (by decide)
  obtain ⟨st, ⟨mem, rfl, hd, hm⟩, hk⟩ := qLoop_fam (ρ := qM) (step := fun (q : Nat → Int → Int → qM → Option qM) (k : Nat × Int × Int × Int × Int × qM → Option qM) (p : Nat × Int × Int × Int × Int × qM) => f_X8_opensSide_110 N G q (fun x0 x1 x2 x4 x5 m0 => k (x0, x1, x2, x4, x5, m0)) p.1 p.2.1 p.2.2.1 p.2.2.2.1 p.2.2.2.2.1 p.2.2.2.2.2)
    (fun k (st : Nat × Int × Int × Int × Int × qM) => ∃ mem, st = (m, so, left, all, (k : Int), mem) ∧ dRf G m noF tA μ mem ∧ mR G m mem l (apT T U p0 (gE l J 0 pr v 1 E k) 0 0 0 0 0) (apD D (gE l J 0 pr v 1 E k) 0 0 0) (apTr tr (gE l J 0 pr v 1 E k)) n B) J.length (by
      rintro k st hk ⟨mem, rfl, hd, hm⟩
      have e5 : gI mem 805 m = (J.length : Int) := by rw [hd.1 _ _ (fun q => q.2)]; exact h5
      have e18 : gI mem 818 m = pr := by rw [hd.1 _ _ (fun q => q.2)]; exact h818
      have e6 : gA mem (gR G 806 m) k = (jG J k : Int) := by rw [hd.2.1 _ _ (n8 806 (Or.inl rfl))]; exact h6 k hk
      have ev : gA mem (gR G 809 m) k = v k := by rw [hd.2.1 _ _ (n8 809 (Or.inr rfl))]; exact hv k hk
      obtain ⟨mem', a1, a2, a3⟩ := z_opens8 (N := N) (k := k) (v := v k) (kind := 1) hL hl h10 hN hm e18 (by omega) e6 (hJl k hk) hp (hvb k hk)
      refine ⟨_, ⟨mem', rfl, hd.tr a2, a3⟩, fun k5 kk => ?_⟩
      show f_X8_opensSide_110 N G k5 _ m so left all (k : Int) mem = _
      unfold f_X8_opensSide_110
      rw [e5, if_pos (by omega), rdA_p ⟨by omega, by omega⟩, Int.toNat_natCast, ev, kb_p a1, ckI_p ⟨by omega, by omega⟩, cast1]) J.length 0 N (m, so, left, all, 0, μ) (by omega) (by omega) ⟨μ, rfl, dRf.rf, h⟩
  have e5 : gI mem 805 m = (J.length : Int) := by rw [hd.1 _ _ (fun q => q.2)]; exact h5
  refine ⟨mem, hd, hm, fun k5 => hk k5 _ (fun k => ?_)⟩
  show f_X8_opensSide_110 N G k5 _ m so left all (J.length : Int) mem = _
  unfold f_X8_opensSide_110
  rw [e5, if_neg (by omega)]
def oArr (a : Nat) : Prop := a = 800 ∨ a = 802 ∨ (808 ≤ a ∧ a ≤ 810)
/-- all at the price: rows and trades -/
theorem z_o38 (hL : mL G m) (hl : lOk l) (h10 : 0 ≤ T 10 ∧ T 10 ≤ 60) (hN : 1000 < N) {J : List Nat} (hJ : J.length ≤ 60) (hJl : ∀ k, k < J.length → jG J k < l.length) (hp : 0 ≤ pr ∧ pr ≤ 9999999) {v : Nat → Int} (h818 : gI μ 818 m = pr)
    (h5 : gI μ 805 m = (J.length : Int)) (h6 : ∀ k, k < J.length → gA μ (gR G 806 m) k = (jG J k : Int)) (hv : ∀ k, k < J.length → gA μ (gR G 807 m) k = v k) (hvb : ∀ k, k < J.length → 0 ≤ v k ∧ v k ≤ 1000)
    (h : mR G m μ l (apT T U p0 E 0 0 0 0 0) (apD D E 0 0 0) (apTr tr E) n B) :
    ∃ mem, dRf G m noF oArr μ mem ∧ mR G m mem l (apT T U p0 (gE l J 0 pr v 3 E J.length) 0 0 0 0 0) (apD D (gE l J 0 pr v 3 E J.length) 0 0 0) (apTr tr (gE l J 0 pr v 3 E J.length)) n B ∧ (∀ j, j < J.length → gA mem (gR G 808 m) j = 0 ∧ gA mem (gR G 809 m) j = v j ∧ gA mem (gR G 810 m) j = 0) ∧ ∀ k5, f_X8_opensSide_L38 N G k5 m so left all 0 μ = f_X8_opensSide_171 N G k5 m so left all mem := by
  have n8 : ∀ g, (g = 806 ∨ g = 807) → ∀ f, oArr f → gR G g m ≠ gR G f m := by
    intro g hg f hf
    have hf' : f = 800 ∨ f = 802 ∨ f = 808 ∨ f = 809 ∨ f = 810 := by unfold oArr at hf; omega
    rcases hg with rfl | rfl <;> rcases hf' with rfl | rfl | rfl | rfl | rfl <;> exact hL.ne (by decide) (by decide) (by decide)
  have n9 : ∀ g, (g = 808 ∨ g = 809 ∨ g = 810) → ∀ f, tA f → gR G g m ≠ gR G f m := by
    intro g hg f hf
    rcases hg with rfl | rfl | rfl <;> rcases hf with rfl | rfl <;> exact hL.ne (by decide) (by decide) (by decide)
  have n89 : gR G 808 m ≠ gR G 809 m := hL.ne (by decide) (by decide) (by decide)
  have n80 : gR G 808 m ≠ gR G 810 m := hL.ne (by decide) (by decide) (by decide)
  have n90 : gR G 809 m ≠ gR G 810 m := hL.ne (by decide) (by decide) (by decide)
  have n78 : gR G 807 m ≠ gR G 808 m := hL.ne (by decide) (by decide) (by decide)
  have n79 : gR G 807 m ≠ gR G 809 m := hL.ne (by decide) (by decide) (by decide)
  have n70 : gR G 807 m ≠ gR G 810 m := hL.ne (by decide) (by decide) (by decide)
  have n68 : gR G 806 m ≠ gR G 808 m := hL.ne (by decide) (by decide) (by decide)
  have n69 : gR G 806 m ≠ gR G 809 m := hL.ne (by decide) (by decide) (by decide)
  have n60 : gR G 806 m ≠ gR G 810 m := hL.ne (by decide) (by decide) (by decide)
  obtain ⟨st, ⟨mem, rfl, hd, hm, hr⟩, hk⟩ := qLoop_fam (ρ := qM) (step := fun (q : Nat → Int → Int → qM → Option qM) (k : Nat × Int × Int × Int × Int × qM → Option qM) (p : Nat × Int × Int × Int × Int × qM) => f_X8_opensSide_38 N G q (fun x0 x1 x2 x4 x5 m0 => k (x0, x1, x2, x4, x5, m0)) p.1 p.2.1 p.2.2.1 p.2.2.2.1 p.2.2.2.2.1 p.2.2.2.2.2)
    (fun k (st : Nat × Int × Int × Int × Int × qM) => ∃ mem, st = (m, so, left, all, (k : Int), mem) ∧ dRf G m noF oArr μ mem ∧ mR G m mem l (apT T U p0 (gE l J 0 pr v 3 E k) 0 0 0 0 0) (apD D (gE l J 0 pr v 3 E k) 0 0 0) (apTr tr (gE l J 0 pr v 3 E k)) n B ∧ ∀ j, j < k → gA mem (gR G 808 m) j = 0 ∧ gA mem (gR G 809 m) j = v j ∧ gA mem (gR G 810 m) j = 0) J.length (by
      rintro k st hk ⟨mem, rfl, hd, hm, hr⟩
      have e5 : gI mem 805 m = (J.length : Int) := by rw [hd.1 _ _ (fun q => q.2)]; exact h5
      have e18 : gI mem 818 m = pr := by rw [hd.1 _ _ (fun q => q.2)]; exact h818
      have e6 : gA mem (gR G 806 m) k = (jG J k : Int) := by rw [hd.2.1 _ _ (n8 806 (Or.inl rfl))]; exact h6 k hk
      have ev : gA mem (gR G 807 m) k = v k := by rw [hd.2.1 _ _ (n8 807 (Or.inr rfl))]; exact hv k hk
      generalize hM : sA (sA (sA mem (gR G 808 m) k 0) (gR G 809 m) k (v k)) (gR G 810 m) k 0 = M
      have dM : dRf G m noF oArr mem M := by
        rw [← hM]
        exact ((dRf.sA (by unfold oArr; omega)).tr (dRf.sA (by unfold oArr; omega))).tr (dRf.sA (by unfold oArr; omega))
      have dMw : dRf G m wF wA mem M := by
        rw [← hM]
        exact ((dRf.sA (by unfold wA; omega)).tr (dRf.sA (by unfold wA; omega))).tr (dRf.sA (by unfold wA; omega))
      have e6M : gA M (gR G 806 m) k = (jG J k : Int) := by rw [dM.2.1 _ _ (n8 806 (Or.inl rfl))]; exact e6
      obtain ⟨mem', a1, a2, a3⟩ := z_opens8 (N := N) (k := k) (v := v k) (kind := 3) hL hl h10 hN (hm.frm hL dMw) (by rw [dM.1 _ _ (fun q => q.2)]; exact e18) (by omega) e6M (hJl k hk) hp (hvb k hk)
      have a2' : dRf G m noF oArr M mem' := a2.mono (fun _ q => q) (fun g q => by unfold tA at q; unfold oArr; omega)
      have rM : ∀ j, j < k + 1 → gA M (gR G 808 m) j = 0 ∧ gA M (gR G 809 m) j = v j ∧ gA M (gR G 810 m) j = 0 := by
        intro j hj
        rw [← hM]
        by_cases c : j = k
        · subst c
          exact ⟨by rw [gA_a n80, gA_a n89, gA_s], by rw [gA_a n90, gA_s], gA_s⟩
        · rw [gA_i c, gA_i c, gA_i c, gA_i c, gA_i c, gA_i c, gA_i c, gA_i c, gA_i c]
          exact hr j (by omega)
      refine ⟨_, ⟨mem', rfl, (hd.tr dM).tr a2', a3, fun j hj => ?_⟩, fun k5 kk => ?_⟩
      · rw [a2.2.1 _ _ (n9 808 (by decide)), a2.2.1 _ _ (n9 809 (by decide)), a2.2.1 _ _ (n9 810 (by decide))]
        exact rM j hj
      · show f_X8_opensSide_38 N G k5 _ m so left all (k : Int) mem = _
        unfold f_X8_opensSide_38
        rw [e5, if_pos (by omega), wrA_p ⟨by omega, by omega⟩, Int.toNat_natCast, rdA_p ⟨by omega, by omega⟩, Int.toNat_natCast, gA_a n78, ev, wrA_p ⟨by omega, by omega⟩, Int.toNat_natCast, wrA_p ⟨by omega, by omega⟩, Int.toNat_natCast, hM, rdA_p ⟨by omega, by omega⟩, Int.toNat_natCast, dM.2.1 _ _ (n8 807 (Or.inr rfl)), ev, kb_p a1, ckI_p ⟨by omega, by omega⟩, cast1]) J.length 0 N (m, so, left, all, 0, μ) (by omega) (by omega) ⟨μ, rfl, dRf.rf, h, fun j hj => by omega⟩
  have e5 : gI mem 805 m = (J.length : Int) := by rw [hd.1 _ _ (fun q => q.2)]; exact h5
  refine ⟨mem, hd, hm, hr, fun k5 => hk k5 _ (fun k => ?_)⟩
  show f_X8_opensSide_38 N G k5 _ m so left all (J.length : Int) mem = _
  unfold f_X8_opensSide_38
  rw [e5, if_neg (by omega)]
end OPENS8
