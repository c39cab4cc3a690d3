/-! PURE: the reference takes -/
def kF (g : Nat) : Prop := g = 804 ∨ g = 805 ∨ (814 ≤ g ∧ g ≤ 816)
def kAr (a : Nat) : Prop := a = 800 ∨ a = 802 ∨ (806 ≤ a ∧ a ≤ 810)
theorem aLap_8 {X : Nat → Int} {s : Nat} {v : Int} : aLap (upd1 X (8 + s) v) s = aLap X s := by
  unfold aLap
  rw [upd1_c (T := X) (j := 8 + s) (k := 6 + s) (by omega), upd1_2]
section TAKES
variable {N : Nat} {G : qG} {m : Nat} {μ ν : qM} {l : List (Nat → Int)} {T U D : Nat → Int} {tr : Nat → Nat → Int} {n : Nat} {B : Nat → Int} {E : List (Nat → Int)} {x p0 W Y q2 q3 s : Int} {t0 : Nat} {num il la iw io L1 : Int}
theorem sumN_bd1 {f : Nat → Int} {M : Int} {c : Nat} (h : ∀ i, i < c → 0 ≤ f i ∧ f i ≤ M) : 0 ≤ sumN f c := (sumN_bd h).1
theorem z_tk98 (hL : mL G m) (hl : lOk l) (ht0 : t0 < 10) (hs : s = 0 ∨ s = 1) (h10 : 0 ≤ T 10 ∧ T 10 ≤ 60) (hN : 1000 < N) {J : List Nat} (hJ : J.length ≤ 60) (hJl : ∀ k, k < J.length → jG J k < l.length) (hJs : ∀ k, k < J.length → lG l (jG J k) 2 = 1 - s) {so top p : Int} (hp : 0 ≤ p ∧ p ≤ 9999999) {v : Nat → Int}
    (h5 : gI μ 805 m = (J.length : Int)) (h6 : ∀ k, k < J.length → gA μ (gR G 806 m) k = (jG J k : Int)) (hv : ∀ k, k < J.length → gA μ (gR G 810 m) k = v k) (hvb : ∀ k, k < J.length → 0 ≤ v k ∧ v k ≤ 1000)
    (h : mR G m μ l (apT T U p0 E W q2 q3 s (t0 : Int)) (apD D E Y s (t0 : Int)) (apTr tr E) n B) (hi : mIn m μ num (t0 : Int) s (w32 W) la (w64 Y) io) :
    ∃ mem, dRf G m iF tA μ mem ∧ mR G m mem l (apT T U (gP p v p0 J.length) (gE l J num p v 2 E J.length) (W + sumN v J.length) q2 q3 s (t0 : Int)) (apD D (gE l J num p v 2 E J.length) (Y + p * sumN v J.length) s (t0 : Int)) (apTr tr (gE l J num p v 2 E J.length)) n B ∧ mIn m mem num (t0 : Int) s (w32 (W + sumN v J.length)) (gP p v la J.length) (w64 (Y + p * sumN v J.length)) io ∧ f_X8_takes_L98 N G m so p top 0 μ = (kb (f_X8_settles N G m so top mem) fun m2 => some m2) := by
  have n8 : ∀ g, (g = 806 ∨ g = 810) → ∀ f, tA f → gR G g m ≠ gR G f m := by
    intro g hg f hf
    rcases hg with rfl | rfl <;> rcases hf with rfl | rfl <;> exact hL.ne (by decide) (by decide) (by decide)
  unfold f_X8_takes_L98
  refine qLoop_inv
    (fun k st => ∃ mem, st = (m, so, p, top, (k : Int), mem) ∧ dRf G m iF tA μ mem ∧ mR G m mem l (apT T U (gP p v p0 k) (gE l J num p v 2 E k) (W + sumN v k) q2 q3 s (t0 : Int)) (apD D (gE l J num p v 2 E k) (Y + p * sumN v k) s (t0 : Int)) (apTr tr (gE l J num p v 2 E k)) n B ∧ mIn m mem num (t0 : Int) s (w32 (W + sumN v k)) (gP p v la k) (w64 (Y + p * sumN v k)) io)
    (fun r => ∃ mem, dRf G m iF tA μ mem ∧ mR G m mem l (apT T U (gP p v p0 J.length) (gE l J num p v 2 E J.length) (W + sumN v J.length) q2 q3 s (t0 : Int)) (apD D (gE l J num p v 2 E J.length) (Y + p * sumN v J.length) s (t0 : Int)) (apTr tr (gE l J num p v 2 E J.length)) n B ∧ mIn m mem num (t0 : Int) s (w32 (W + sumN v J.length)) (gP p v la J.length) (w64 (Y + p * sumN v J.length)) io ∧ r = (kb (f_X8_settles N G m so top mem) fun m2 => some m2))
    J.length ?_ ?_ J.length 0 N _ (by omega) (by omega) ?_
  · rintro k st hk ⟨mem, rfl, hd, hm, hii⟩
    refine Or.inr ?_
    have e5 : gI mem 805 m = (J.length : Int) := by rw [hd.1 _ _ (fun q => by have := q.2; unfold iF at this; omega)]; exact h5
    have e6 : gA mem (gR G 806 m) k = (jG J k : Int) := by rw [hd.2.1 _ _ (n8 806 (Or.inl rfl))]; exact h6 k hk
    have ev : gA mem (gR G 810 m) k = v k := by rw [hd.2.1 _ _ (n8 810 (Or.inr rfl))]; exact hv k hk
    obtain ⟨mem', a1, a2, a3, a4⟩ := z_trades8 (N := N) (k := k) (p := p) (v := v k) (kind := 2) hL hl ht0 hs h10 hN hm hii (by omega) e6 (hJl k hk) (hJs k hk) hp (hvb k hk)
    have eW : W + sumN v k + v k = W + sumN v (k + 1) := by show _ = W + (sumN v k + v k); omega
    have eY : Y + p * sumN v k + p * v k = Y + p * sumN v (k + 1) := by show _ = Y + p * (sumN v k + v k); rw [Int.mul_add]; omega
    rw [eW, eY] at a3 a4
    refine ⟨_, ⟨mem', rfl, hd.tr a2, a3, a4⟩, fun kk => ?_⟩
    show f_X8_takes_98 N G _ m so p top (k : Int) mem = _
    unfold f_X8_takes_98
    rw [e5, if_pos (by omega), rdA_p ⟨by omega, by omega⟩, Int.toNat_natCast, ev, kb_p a1, ckI_p ⟨by omega, by omega⟩, cast1]
  · rintro st ⟨mem, rfl, hd, hm, hii⟩
    have e5 : gI mem 805 m = (J.length : Int) := by rw [hd.1 _ _ (fun q => by have := q.2; unfold iF at this; omega)]; exact h5
    refine ⟨_, ⟨mem, hd, hm, hii, rfl⟩, fun k => ?_⟩
    show f_X8_takes_98 N G _ m so p top (J.length : Int) mem = _
    unfold f_X8_takes_98
    rw [e5, if_neg (by omega)]
  · refine ⟨μ, rfl, dRf.rf, ?_, ?_⟩
    · show mR G m μ l (apT T U p0 E (W + 0) q2 q3 s (t0 : Int)) (apD D E (Y + p * 0) s (t0 : Int)) (apTr tr E) n B
      rw [Int.mul_zero, Int.add_zero, Int.add_zero]; exact h
    · show mIn m μ num (t0 : Int) s (w32 (W + 0)) la (w64 (Y + p * 0)) io
      rw [Int.mul_zero, Int.add_zero, Int.add_zero]; exact hi
theorem z_tk65 (hL : mL G m) (hl : lOk l) (ht0 : t0 < 10) (hs : s = 0 ∨ s = 1) (h10 : 0 ≤ T 10 ∧ T 10 ≤ 60) (hN : 1000 < N) {J : List Nat} (hJ : J.length ≤ 60) (hJl : ∀ k, k < J.length → jG J k < l.length) (hJs : ∀ k, k < J.length → lG l (jG J k) 2 = 1 - s) {so top p : Int} (hp : 0 ≤ p ∧ p ≤ 9999999) {v : Nat → Int}
    (h5 : gI μ 805 m = (J.length : Int)) (h6 : ∀ k, k < J.length → gA μ (gR G 806 m) k = (jG J k : Int)) (hv : ∀ k, k < J.length → gA μ (gR G 809 m) k = v k) (hvb : ∀ k, k < J.length → 0 ≤ v k ∧ v k ≤ 1000)
    (h : mR G m μ l (apT T U p0 E W q2 q3 s (t0 : Int)) (apD D E Y s (t0 : Int)) (apTr tr E) n B) (hi : mIn m μ num (t0 : Int) s (w32 W) la (w64 Y) io) :
    ∃ mem, dRf G m iF tA μ mem ∧ mR G m mem l (apT T U (gP p v p0 J.length) (gE l J num p v 1 E J.length) (W + sumN v J.length) q2 q3 s (t0 : Int)) (apD D (gE l J num p v 1 E J.length) (Y + p * sumN v J.length) s (t0 : Int)) (apTr tr (gE l J num p v 1 E J.length)) n B ∧ mIn m mem num (t0 : Int) s (w32 (W + sumN v J.length)) (gP p v la J.length) (w64 (Y + p * sumN v J.length)) io ∧ f_X8_takes_L65 N G m so p top 0 μ = f_X8_takes_L98 N G m so p top 0 mem := by
  have n8 : ∀ g, (g = 806 ∨ g = 809) → ∀ f, tA f → gR G g m ≠ gR G f m := by
    intro g hg f hf
    rcases hg with rfl | rfl <;> rcases hf with rfl | rfl <;> exact hL.ne (by decide) (by decide) (by decide)
  unfold f_X8_takes_L65
  refine qLoop_inv
    (fun k st => ∃ mem, st = (m, so, p, top, (k : Int), mem) ∧ dRf G m iF tA μ mem ∧ mR G m mem l (apT T U (gP p v p0 k) (gE l J num p v 1 E k) (W + sumN v k) q2 q3 s (t0 : Int)) (apD D (gE l J num p v 1 E k) (Y + p * sumN v k) s (t0 : Int)) (apTr tr (gE l J num p v 1 E k)) n B ∧ mIn m mem num (t0 : Int) s (w32 (W + sumN v k)) (gP p v la k) (w64 (Y + p * sumN v k)) io)
    (fun r => ∃ mem, dRf G m iF tA μ mem ∧ mR G m mem l (apT T U (gP p v p0 J.length) (gE l J num p v 1 E J.length) (W + sumN v J.length) q2 q3 s (t0 : Int)) (apD D (gE l J num p v 1 E J.length) (Y + p * sumN v J.length) s (t0 : Int)) (apTr tr (gE l J num p v 1 E J.length)) n B ∧ mIn m mem num (t0 : Int) s (w32 (W + sumN v J.length)) (gP p v la J.length) (w64 (Y + p * sumN v J.length)) io ∧ r = f_X8_takes_L98 N G m so p top 0 mem)
    J.length ?_ ?_ J.length 0 N _ (by omega) (by omega) ?_
  · rintro k st hk ⟨mem, rfl, hd, hm, hii⟩
    refine Or.inr ?_
    have e5 : gI mem 805 m = (J.length : Int) := by rw [hd.1 _ _ (fun q => by have := q.2; unfold iF at this; omega)]; exact h5
    have e6 : gA mem (gR G 806 m) k = (jG J k : Int) := by rw [hd.2.1 _ _ (n8 806 (Or.inl rfl))]; exact h6 k hk
    have ev : gA mem (gR G 809 m) k = v k := by rw [hd.2.1 _ _ (n8 809 (Or.inr rfl))]; exact hv k hk
    obtain ⟨mem', a1, a2, a3, a4⟩ := z_trades8 (N := N) (k := k) (p := p) (v := v k) (kind := 1) hL hl ht0 hs h10 hN hm hii (by omega) e6 (hJl k hk) (hJs k hk) hp (hvb k hk)
    have eW : W + sumN v k + v k = W + sumN v (k + 1) := by show _ = W + (sumN v k + v k); omega
    have eY : Y + p * sumN v k + p * v k = Y + p * sumN v (k + 1) := by show _ = Y + p * (sumN v k + v k); rw [Int.mul_add]; omega
    rw [eW, eY] at a3 a4
    refine ⟨_, ⟨mem', rfl, hd.tr a2, a3, a4⟩, fun kk => ?_⟩
    show f_X8_takes_65 N G _ m so p top (k : Int) mem = _
    unfold f_X8_takes_65
    rw [e5, if_pos (by omega), rdA_p ⟨by omega, by omega⟩, Int.toNat_natCast, ev, kb_p a1, ckI_p ⟨by omega, by omega⟩, cast1]
  · rintro st ⟨mem, rfl, hd, hm, hii⟩
    have e5 : gI mem 805 m = (J.length : Int) := by rw [hd.1 _ _ (fun q => by have := q.2; unfold iF at this; omega)]; exact h5
    refine ⟨_, ⟨mem, hd, hm, hii, rfl⟩, fun k => ?_⟩
    show f_X8_takes_65 N G _ m so p top (J.length : Int) mem = _
    unfold f_X8_takes_65
    rw [e5, if_neg (by omega)]
  · refine ⟨μ, rfl, dRf.rf, ?_, ?_⟩
    · show mR G m μ l (apT T U p0 E (W + 0) q2 q3 s (t0 : Int)) (apD D E (Y + p * 0) s (t0 : Int)) (apTr tr E) n B
      rw [Int.mul_zero, Int.add_zero, Int.add_zero]; exact h
    · show mIn m μ num (t0 : Int) s (w32 (W + 0)) la (w64 (Y + p * 0)) io
      rw [Int.mul_zero, Int.add_zero, Int.add_zero]; exact hi
theorem z_tk32 (hL : mL G m) (hl : lOk l) (ht0 : t0 < 10) (hs : s = 0 ∨ s = 1) (h10 : 0 ≤ T 10 ∧ T 10 ≤ 60) (hN : 1000 < N) {J : List Nat} (hJ : J.length ≤ 60) (hJl : ∀ k, k < J.length → jG J k < l.length) (hJs : ∀ k, k < J.length → lG l (jG J k) 2 = 1 - s) {so top p : Int} (hp : 0 ≤ p ∧ p ≤ 9999999) {v : Nat → Int}
    (h5 : gI μ 805 m = (J.length : Int)) (h6 : ∀ k, k < J.length → gA μ (gR G 806 m) k = (jG J k : Int)) (hv : ∀ k, k < J.length → gA μ (gR G 808 m) k = v k) (hvb : ∀ k, k < J.length → 0 ≤ v k ∧ v k ≤ 1000)
    (h : mR G m μ l (apT T U p0 E W q2 q3 s (t0 : Int)) (apD D E Y s (t0 : Int)) (apTr tr E) n B) (hi : mIn m μ num (t0 : Int) s (w32 W) la (w64 Y) io) :
    ∃ mem, dRf G m iF tA μ mem ∧ mR G m mem l (apT T U (gP p v p0 J.length) (gE l J num p v 0 E J.length) (W + sumN v J.length) q2 q3 s (t0 : Int)) (apD D (gE l J num p v 0 E J.length) (Y + p * sumN v J.length) s (t0 : Int)) (apTr tr (gE l J num p v 0 E J.length)) n B ∧ mIn m mem num (t0 : Int) s (w32 (W + sumN v J.length)) (gP p v la J.length) (w64 (Y + p * sumN v J.length)) io ∧ f_X8_takes_L32 N G m so p top 0 μ = f_X8_takes_L65 N G m so p top 0 mem := by
  have n8 : ∀ g, (g = 806 ∨ g = 808) → ∀ f, tA f → gR G g m ≠ gR G f m := by
    intro g hg f hf
    rcases hg with rfl | rfl <;> rcases hf with rfl | rfl <;> exact hL.ne (by decide) (by decide) (by decide)
  unfold f_X8_takes_L32
  refine qLoop_inv
    (fun k st => ∃ mem, st = (m, so, p, top, (k : Int), mem) ∧ dRf G m iF tA μ mem ∧ mR G m mem l (apT T U (gP p v p0 k) (gE l J num p v 0 E k) (W + sumN v k) q2 q3 s (t0 : Int)) (apD D (gE l J num p v 0 E k) (Y + p * sumN v k) s (t0 : Int)) (apTr tr (gE l J num p v 0 E k)) n B ∧ mIn m mem num (t0 : Int) s (w32 (W + sumN v k)) (gP p v la k) (w64 (Y + p * sumN v k)) io)
    (fun r => ∃ mem, dRf G m iF tA μ mem ∧ mR G m mem l (apT T U (gP p v p0 J.length) (gE l J num p v 0 E J.length) (W + sumN v J.length) q2 q3 s (t0 : Int)) (apD D (gE l J num p v 0 E J.length) (Y + p * sumN v J.length) s (t0 : Int)) (apTr tr (gE l J num p v 0 E J.length)) n B ∧ mIn m mem num (t0 : Int) s (w32 (W + sumN v J.length)) (gP p v la J.length) (w64 (Y + p * sumN v J.length)) io ∧ r = f_X8_takes_L65 N G m so p top 0 mem)
    J.length ?_ ?_ J.length 0 N _ (by omega) (by omega) ?_
  · rintro k st hk ⟨mem, rfl, hd, hm, hii⟩
    refine Or.inr ?_
    have e5 : gI mem 805 m = (J.length : Int) := by rw [hd.1 _ _ (fun q => by have := q.2; unfold iF at this; omega)]; exact h5
    have e6 : gA mem (gR G 806 m) k = (jG J k : Int) := by rw [hd.2.1 _ _ (n8 806 (Or.inl rfl))]; exact h6 k hk
    have ev : gA mem (gR G 808 m) k = v k := by rw [hd.2.1 _ _ (n8 808 (Or.inr rfl))]; exact hv k hk
    obtain ⟨mem', a1, a2, a3, a4⟩ := z_trades8 (N := N) (k := k) (p := p) (v := v k) (kind := 0) hL hl ht0 hs h10 hN hm hii (by omega) e6 (hJl k hk) (hJs k hk) hp (hvb k hk)
    have eW : W + sumN v k + v k = W + sumN v (k + 1) := by show _ = W + (sumN v k + v k); omega
    have eY : Y + p * sumN v k + p * v k = Y + p * sumN v (k + 1) := by show _ = Y + p * (sumN v k + v k); rw [Int.mul_add]; omega
    rw [eW, eY] at a3 a4
    refine ⟨_, ⟨mem', rfl, hd.tr a2, a3, a4⟩, fun kk => ?_⟩
    show f_X8_takes_32 N G _ m so p top (k : Int) mem = _
    unfold f_X8_takes_32
    rw [e5, if_pos (by omega), rdA_p ⟨by omega, by omega⟩, Int.toNat_natCast, ev, kb_p a1, ckI_p ⟨by omega, by omega⟩, cast1]
  · rintro st ⟨mem, rfl, hd, hm, hii⟩
    have e5 : gI mem 805 m = (J.length : Int) := by rw [hd.1 _ _ (fun q => by have := q.2; unfold iF at this; omega)]; exact h5
    refine ⟨_, ⟨mem, hd, hm, hii, rfl⟩, fun k => ?_⟩
    show f_X8_takes_32 N G _ m so p top (J.length : Int) mem = _
    unfold f_X8_takes_32
    rw [e5, if_neg (by omega)]
  · refine ⟨μ, rfl, dRf.rf, ?_, ?_⟩
    · show mR G m μ l (apT T U p0 E (W + 0) q2 q3 s (t0 : Int)) (apD D E (Y + p * 0) s (t0 : Int)) (apTr tr E) n B
      rw [Int.mul_zero, Int.add_zero, Int.add_zero]; exact h
    · show mIn m μ num (t0 : Int) s (w32 (W + 0)) la (w64 (Y + p * 0)) io
      rw [Int.mul_zero, Int.add_zero, Int.add_zero]; exact hi
/-- the end of a take -/
theorem z_settles8 (hL : mL G m) (hl : lOk l) (hp : ∀ j, j < l.length → 0 < lG l j 4) {so : Nat} (hso : so < 2) {J : List Nat} (hJl : ∀ k, k < J.length → jG J k < l.length) (hmono : ∀ j k, j < k → k < J.length → jG J j < jG J k) {t : Int} (ht : t = -1 ∨ (0 ≤ t ∧ t < (J.length : Int)))
    (h5 : gI μ 805 m = (J.length : Int)) (h6 : ∀ k, k < J.length → gA μ (gR G 806 m) k = (jG J k : Int)) {S a b d : Nat → Int} (h7 : ∀ k, k < J.length → gA μ (gR G 807 m) k = S k) (hS : ∀ k, k < J.length → S k = lG l (jG J k) 4) (h8 : ∀ k, k < J.length → gA μ (gR G 808 m) k = a k ∧ gA μ (gR G 809 m) k = b k ∧ gA μ (gR G 810 m) k = d k)
    (hq : ∀ k, k < J.length → (-100000000 ≤ a k ∧ a k ≤ 100000000) ∧ (-100000000 ≤ b k ∧ b k ≤ 100000000) ∧ (-100000000 ≤ d k ∧ d k ≤ 100000000)) (hh : ∀ k, k < J.length → 0 ≤ a k + b k + d k ∧ a k + b k + d k ≤ S k) (hU : 0 ≤ U (8 + so) ∧ U (8 + so) ≤ 1000)
    (h : mR G m μ l (apT T U p0 E W q2 q3 s (t0 : Int)) D tr n B) (hN : 1000 < N) :
    ∃ ν, f_X8_settles N G m (so : Int) t μ = some ν ∧ dX G m μ ν ∧ mR G m ν ((szs l (fB J (fun k => a k + b k + d k) (fun i => lG l i 4) J.length)).filter aKp) (apT T (aSw (if 0 ≤ t then uG U so (a t.toNat) else U) (szs l (fB J (fun k => a k + b k + d k) (fun i => lG l i 4) J.length))) p0 E W q2 q3 s (t0 : Int)) D tr n B := by
  have ns : ∀ i, i < (szs l (fB J (fun k => a k + b k + d k) (fun i => lG l i 4) J.length)).length → oNs (lG (szs l (fB J (fun k => a k + b k + d k) (fun i => lG l i 4) J.length)) i) := by
    intro i hi
    rw [szs_len] at hi
    have := (hl.2 i hi).ns
    unfold oNs
    rw [szs_o hi (by decide), szs_o hi (by decide)]
    exact this
  have n68 : ∀ g, (g = 806 ∨ g = 807 ∨ g = 808 ∨ g = 809 ∨ g = 810) → gR G g m ≠ gR G 800 m := by
    intro g hg
    rcases hg with rfl | rfl | rfl | rfl | rfl <;> exact hL.ne (by decide) (by decide) (by decide)
  have key : ∀ μ1 U1, dX G m μ μ1 → mR G m μ1 l (apT T U1 p0 E W q2 q3 s (t0 : Int)) D tr n B → ∃ ν, f_X8_settles_39 N G m μ1 = some ν ∧ dX G m μ ν ∧ mR G m ν ((szs l (fB J (fun k => a k + b k + d k) (fun i => lG l i 4) J.length)).filter aKp) (apT T (aSw U1 (szs l (fB J (fun k => a k + b k + d k) (fun i => lG l i 4) J.length))) p0 E W q2 q3 s (t0 : Int)) D tr n B := by
    intro μ1 U1 hd h1
    have g : ∀ g, (g = 806 ∨ g = 807 ∨ g = 808 ∨ g = 809 ∨ g = 810) → ∀ i, gA μ1 (gR G g m) i = gA μ (gR G g m) i := fun g hg i => hd.2.1 _ _ (n68 g hg)
    obtain ⟨ν, k1, k2, k3⟩ := z_settleL8 (N := N) (S := S) (a := a) (b := b) (d := d) hL hl hp hJl hmono (by rw [hd.1]; exact h5) (fun k hk => by rw [g 806 (by decide)]; exact h6 k hk) (fun k hk => by rw [g 807 (by decide)]; exact h7 k hk) hS (fun k hk => by rw [g 808 (by decide), g 809 (by decide), g 810 (by decide)]; exact h8 k hk) hq hh h1 hN
    rw [aSw_ap ns] at k3
    exact ⟨ν, k1, hd.tr k2, k3⟩
  unfold f_X8_settles
  rcases ht with ht | ht
  · rw [if_pos (by omega), if_neg (by omega)]
    exact key μ U dX.rf h
  · obtain ⟨r, hr⟩ : ∃ r : Nat, t = (r : Int) := ⟨t.toNat, by omega⟩
    subst hr
    have hrc : r < J.length := by omega
    have hq' := hq r hrc
    have e8 : ((8 : Int) + (so : Int)).toNat = 8 + so := by omega
    have x8 : apT T U p0 E W q2 q3 s (t0 : Int) (8 + so) = U (8 + so) := apT_u (by omega)
    have c60 : J.length ≤ 60 := by
      have h60 := hl.1
      have q : ∀ k, k < J.length → k ≤ jG J k := by
        intro k
        induction k with
        | zero => intro _; exact Nat.zero_le _
        | succ k ih => intro hk; have := ih (by omega); have := hmono k (k + 1) (by omega) hk; omega
      have := q (J.length - 1) (by omega)
      have := hJl (J.length - 1) (by omega)
      omega
    rw [if_neg (by omega), if_pos ht.1, ckI_p ⟨by omega, by omega⟩, rdA_p ⟨by omega, by omega⟩, e8, h.2.1 (8 + so) (by omega) (by omega), x8, rdA_p ⟨by omega, by omega⟩, Int.toNat_natCast, (h8 r hrc).1, ckI_p ⟨by omega, by omega⟩, wrA_p ⟨by omega, by omega⟩, ckI_p ⟨by omega, by omega⟩, rdA_p ⟨by omega, by omega⟩, e8, gA_s]
    have h1 := h.T hL (j := 8 + so) (v := U (8 + so) - a r) (by omega) (by omega) (by omega)
    rw [apT_8 hso] at h1
    by_cases c : U (8 + so) - a r = 0
    · rw [if_pos c, kb_p (z_lapses8 (by omega)), Int.toNat_natCast]
      have h2 := (h1.T hL (j := 6 + so) (v := -1) (by omega) (by omega) (by omega)).T hL (j := 8 + so) (v := 0) (by omega) (by omega) (by omega)
      have e : upd1 (upd1 (apT T (upd1 U (8 + so) (U (8 + so) - a r)) p0 E W q2 q3 s (t0 : Int)) (6 + so) (-1)) (8 + so) 0 = apT T (uG U so (a r)) p0 E W q2 q3 s (t0 : Int) := by
        show aLap (apT T (upd1 U (8 + so) (U (8 + so) - a r)) p0 E W q2 q3 s (t0 : Int)) so = _
        rw [aLap_ap hso, aLap_8]
        unfold uG
        rw [if_pos c]
      rw [e] at h2
      exact key _ _ ((dX.sA.tr dX.sA).tr dX.sA) h2
    · rw [if_neg c]
      have e : upd1 U (8 + so) (U (8 + so) - a r) = uG U so (a r) := by unfold uG; rw [if_neg c]
      rw [e] at h1
      exact key _ _ dX.sA h1
theorem z_takes8 (hL : mL G m) (uo : uOk l U L1) (hT1 : T 1 = L1) (ht0 : t0 < 10) (hs : s = 0 ∨ s = 1) (h10 : 0 ≤ T 10 ∧ T 10 ≤ 60) (hN : 1000 < N)
    (h : mR G m μ l (apT T U (pOf x E) E (sumW E) q2 q3 s (t0 : Int)) (apD D E (sumY E) s (t0 : Int)) (apTr tr E) n B) (hi : mIn m μ num (t0 : Int) s (w32 (sumW E)) (pOf 0 E) (w64 (sumY E)) io) {p K : Int} (hp : 1 ≤ p ∧ p ≤ 9999999) (hK : 1 ≤ K ∧ K ≤ aS (wZ (1 - s) p) l) :
    ∃ ν, f_X8_takes N G m (1 - s) p K μ = some ν ∧ dRf G m kF kAr μ ν ∧ mR G m ν ((kL l U L1 (1 - s) p K).filter aKp) (apT T (kU l U L1 (1 - s) p K) (pOf x (kE l U L1 num (1 - s) p K E)) (kE l U L1 num (1 - s) p K E) (sumW (kE l U L1 num (1 - s) p K E)) q2 q3 s (t0 : Int)) (apD D (kE l U L1 num (1 - s) p K E) (sumY (kE l U L1 num (1 - s) p K E)) s (t0 : Int)) (apTr tr (kE l U L1 num (1 - s) p K E)) n B ∧
      mIn m ν num (t0 : Int) s (w32 (sumW (kE l U L1 num (1 - s) p K E))) (pOf 0 (kE l U L1 num (1 - s) p K E)) (w64 (sumY (kE l U L1 num (1 - s) p K E))) io := by
  have hl := uo.lo
  have h60 := hl.1
  have hb := aS_bd (w := wZ (1 - s) p) (wZ_bd hl)
  have hso : 1 - s = 0 ∨ 1 - s = 1 := by omega
  have es : ((1 - s).toNat : Int) = 1 - s := by omega
  have hK0 : 0 ≤ K ∧ K ≤ aS (wZ (1 - s) p) l := ⟨by omega, hK.2⟩
  have oo := ujOk (s := 1 - s) (p := p) (K := K) uo ⟨by omega, by omega⟩
  obtain ⟨μ1, a1, a2, a3⟩ := z_lays8 (N := N) hL h h60 (by omega) (1 - s) p
  have h1 := h.frm hL a2
  have kbd := fun k hk => kBd (k := k) uo hK0 hk
  have kt := kTop uo hso hK0
  have hc := aJ_len (s := 1 - s) (p := p) (l := l) l.length
  have hmono := aJ_mono (s := 1 - s) (p := p) (l := l) l.length
  have hJl := fun k hk => kJ (so := 1 - s) (p := p) (l := l) (k := k) hk
  have hJs := fun k hk => kS2 (so := 1 - s) (p := p) (l := l) (k := k) hk
  obtain ⟨t, t1, t2, t3, t4, t5⟩ := z_topLaid8 (N := N) h1 hl uo.inc (by omega) hso a3
  have x8 : ∀ U', apT T U' (pOf x E) E (sumW E) q2 q3 s (t0 : Int) (8 + (1 - s).toNat) = U' (8 + (1 - s).toNat) := fun U' => apT_u (by omega)
  have x6 : ∀ U', apT T U' (pOf x E) E (sumW E) q2 q3 s (t0 : Int) (6 + (1 - s).toNat) = U' (6 + (1 - s).toNat) := fun U' => apT_u (by omega)
  have tb := uo.top (1 - s).toNat (by omega)
  have L1e : apT T U (pOf x E) E (sumW E) q2 q3 s (t0 : Int) 1 = L1 := by rw [apT_k (by omega)]; exact hT1
  have t3' : ∀ k, k < (aJ (1 - s) p l l.length).length → topG t (U (8 + (1 - s).toNat)) k = jGr U l (aJ (1 - s) p l l.length) k := fun k hk => by
    have := t3 k hk
    rw [x8] at this
    rw [this]
    exact jGr_mk hl hJl (fun j h6 h9 => apT_u ⟨h6, h9⟩) hk
  obtain ⟨μ2, d1, d2, d3⟩ := z_shr8 (N := N) (S := jS l (aJ (1 - s) p l l.length)) (g := jGr U l (aJ (1 - s) p l l.length)) (K := K) (t := t) (gr := U (8 + (1 - s).toNat)) (c := (aJ (1 - s) p l l.length).length) hL h1 a3.1 (fun k hk => (a3.2 k hk).2) t2 (by omega) t3' (by rw [L1e]; exact oo) (by omega)
  rw [L1e] at d3
  have h2 := h1.frm hL d2.rfm
  have m8 := d2.m8 hL
  -- the loops
  have v5 : gI μ2 805 m = ((aJ (1 - s) p l l.length).length : Int) := by rw [d2.1]; exact a3.1
  have v6 : ∀ k, k < (aJ (1 - s) p l l.length).length → gA μ2 (gR G 806 m) k = (jG (aJ (1 - s) p l l.length) k : Int) := fun k hk => by rw [m8.1]; exact (a3.2 k hk).1
  have v7 : ∀ k, k < (aJ (1 - s) p l l.length).length → gA μ2 (gR G 807 m) k = jS l (aJ (1 - s) p l l.length) k := fun k hk => by rw [m8.2]; exact (a3.2 k hk).2
  have i2 : mIn m μ2 num (t0 : Int) s (w32 (sumW E)) (pOf 0 E) (w64 (sumY E)) io := (hi.fr a2 (fun g g1 g2 x => by unfold wF at x; omega)).fr d2.rfm (fun g g1 g2 x => by unfold wF at x; omega)
  have sz : ∀ k, k < (aJ (1 - s) p l l.length).length → lG l (jG (aJ (1 - s) p l l.length) k) 4 ≤ 1000 := fun k hk => (hl.2 _ (hJl k hk)).2.2.2.2.1.2
  have bA : ∀ k, k < (aJ (1 - s) p l l.length).length → 0 ≤ kA l U (1 - s) p K k ∧ kA l U (1 - s) p K k ≤ 1000 := fun k hk => by have := kbd k hk; have := sz k hk; omega
  have bB : ∀ k, k < (aJ (1 - s) p l l.length).length → 0 ≤ kB l U L1 (1 - s) p K k ∧ kB l U L1 (1 - s) p K k ≤ 1000 := fun k hk => by have := kbd k hk; have := sz k hk; omega
  have bC : ∀ k, k < (aJ (1 - s) p l l.length).length → 0 ≤ kC l U L1 (1 - s) p K k ∧ kC l U L1 (1 - s) p K k ≤ 1000 := fun k hk => by have := kbd k hk; have := sz k hk; omega
  have hp0 : 0 ≤ p ∧ p ≤ 9999999 := by omega
  have nA : ∀ g, (g = 806 ∨ g = 807 ∨ g = 808 ∨ g = 809 ∨ g = 810) → ∀ f, tA f → gR G g m ≠ gR G f m := by
    intro g hg f hf
    rcases hg with rfl | rfl | rfl | rfl | rfl <;> rcases hf with rfl | rfl <;> exact hL.ne (by decide) (by decide) (by decide)
  obtain ⟨μ3, b1, b2, b3, b4⟩ := z_tk32 (N := N) (so := 1 - s) (top := t) (p := p) (v := kA l U (1 - s) p K) hL hl ht0 hs h10 hN (by omega) hJl hJs hp0 v5 v6 (fun k hk => (d3 k hk).1) bA h2 i2
  have k3 : ∀ g, (g = 806 ∨ g = 807 ∨ g = 808 ∨ g = 809 ∨ g = 810) → ∀ i, gA μ3 (gR G g m) i = gA μ2 (gR G g m) i := fun g hg i => b1.2.1 _ _ (nA g hg)
  have j3 : gI μ3 805 m = gI μ2 805 m := b1.1 _ _ (fun q => by have := q.2; unfold iF at this; omega)
  obtain ⟨μ4, e1, e2, e3, e4⟩ := z_tk65 (N := N) (so := 1 - s) (top := t) (p := p) (v := kB l U L1 (1 - s) p K) hL hl ht0 hs h10 hN (by omega) hJl hJs hp0 (by rw [j3]; exact v5) (fun k hk => by rw [k3 806 (by decide)]; exact v6 k hk) (fun k hk => by rw [k3 809 (by decide)]; exact (d3 k hk).2.1) bB b2 b3
  have k4 : ∀ g, (g = 806 ∨ g = 807 ∨ g = 808 ∨ g = 809 ∨ g = 810) → ∀ i, gA μ4 (gR G g m) i = gA μ2 (gR G g m) i := fun g hg i => (e1.2.1 _ _ (nA g hg)).trans (k3 g hg i)
  have j4 : gI μ4 805 m = gI μ2 805 m := (e1.1 _ _ (fun q => by have := q.2; unfold iF at this; omega)).trans j3
  obtain ⟨μ5, g1, g2, g3, g4⟩ := z_tk98 (N := N) (so := 1 - s) (top := t) (p := p) (v := kC l U L1 (1 - s) p K) hL hl ht0 hs h10 hN (by omega) hJl hJs hp0 (by rw [j4]; exact v5) (fun k hk => by rw [k4 806 (by decide)]; exact v6 k hk) (fun k hk => by rw [k4 810 (by decide)]; exact (d3 k hk).2.2) bC e2 e3
  have k5 : ∀ g, (g = 806 ∨ g = 807 ∨ g = 808 ∨ g = 809 ∨ g = 810) → ∀ i, gA μ5 (gR G g m) i = gA μ2 (gR G g m) i := fun g hg i => (g1.2.1 _ _ (nA g hg)).trans (k4 g hg i)
  have j5 : gI μ5 805 m = gI μ2 805 m := (g1.1 _ _ (fun q => by have := q.2; unfold iF at this; omega)).trans j4
  -- what they made
  rw [gP_of, gP_of, gP_of] at g2
  rw [gP_of, gP_of, gP_of] at g3
  have w1 := gE_W (l := l) (J := aJ (1 - s) p l l.length) (came := num) (p := p) (v := kA l U (1 - s) p K) (kind := 0) (E := E) (aJ (1 - s) p l l.length).length (fun j hj => (bA j hj).1)
  have w2 := gE_W (l := l) (J := aJ (1 - s) p l l.length) (came := num) (p := p) (v := kB l U L1 (1 - s) p K) (kind := 1) (E := gE l (aJ (1 - s) p l l.length) num p (kA l U (1 - s) p K) 0 E (aJ (1 - s) p l l.length).length) (aJ (1 - s) p l l.length).length (fun j hj => (bB j hj).1)
  have w3 := gE_W (l := l) (J := aJ (1 - s) p l l.length) (came := num) (p := p) (v := kC l U L1 (1 - s) p K) (kind := 2) (E := gE l (aJ (1 - s) p l l.length) num p (kB l U L1 (1 - s) p K) 1 (gE l (aJ (1 - s) p l l.length) num p (kA l U (1 - s) p K) 0 E (aJ (1 - s) p l l.length).length) (aJ (1 - s) p l l.length).length) (aJ (1 - s) p l l.length).length (fun j hj => (bC j hj).1)
  rw [← w1.1, ← w2.1, ← w3.1, ← w1.2, ← w2.2, ← w3.2] at g2 g3
  -- the end
  have jc := jABC_bd oo
  obtain ⟨ν, f1, f2, f3⟩ := z_settles8 (N := N) (so := (1 - s).toNat) (t := t) (S := jS l (aJ (1 - s) p l l.length)) (a := kA l U (1 - s) p K) (b := kB l U L1 (1 - s) p K) (d := kC l U L1 (1 - s) p K) hL hl uo.pos (by omega) hJl hmono t2 (by rw [j5]; exact v5) (fun k hk => by rw [k5 806 (by decide)]; exact v6 k hk) (fun k hk => by rw [k5 807 (by decide)]; exact v7 k hk) (fun k hk => rfl) (fun k hk => by rw [k5 808 (by decide), k5 809 (by decide), k5 810 (by decide)]; exact d3 k hk) jc (fun k hk => by have := kbd k hk; have e : jS l (aJ (1 - s) p l l.length) k = lG l (jG (aJ (1 - s) p l l.length) k) 4 := rfl; omega) (by omega) g2 hN
  have eq : (if 0 ≤ t then uG U (1 - s).toNat (kA l U (1 - s) p K t.toNat) else U) = kU1 l U (1 - s) p K := by
    have sp := tpQ_sp (l := l) (J := aJ (1 - s) p l l.length) (n := U (6 + (1 - s).toNat)) (aJ (1 - s) p l l.length).length (Nat.le_refl _)
    have eQ : kQ l U (1 - s) p = tpQ l (aJ (1 - s) p l l.length) (U (6 + (1 - s).toNat)) (aJ (1 - s) p l l.length).length := rfl
    rw [← eQ] at sp
    unfold kU1
    rcases t2 with t2 | t2
    · have := t5 t2
      rw [x6] at this
      rw [if_neg (by omega)]
      rcases sp with sp | sp
      · rw [if_neg (by omega)]
      · exact absurd sp.2 (this _ sp.1)
    · have := t4 t.toNat (by omega)
      rw [x6] at this
      rw [if_pos t2.1]
      rcases sp with sp | sp
      · exact absurd this (sp.2 _ (by omega))
      · rw [if_pos sp.1, kInj (show t.toNat < (aJ (1 - s) p l l.length).length by omega) sp.1 (uo.inc.inj (hJl _ (by omega)) (hJl _ sp.1) (by rw [this]; exact sp.2.symm))]
  rw [eq] at f3
  have hk0 : ∀ U', mR G m ν ((kL l U L1 (1 - s) p K).filter aKp) U' (apD D (kE l U L1 num (1 - s) p K E) (sumY (kE l U L1 num (1 - s) p K E)) s (t0 : Int)) (apTr tr (kE l U L1 num (1 - s) p K E)) n B → mR G m ν ((kL l U L1 (1 - s) p K).filter aKp) U' (apD D (kE l U L1 num (1 - s) p K E) (sumY (kE l U L1 num (1 - s) p K E)) s (t0 : Int)) (apTr tr (kE l U L1 num (1 - s) p K E)) n B := fun _ q => q
  refine ⟨ν, ?_, ?_, f3, ?_⟩
  · unfold f_X8_takes
    rw [kb_p a1, kb2_p t1, ckI_p ⟨by omega, by omega⟩, rdA_p ⟨by omega, by omega⟩, h1.x (j := 8 + (1 - s).toNat) (by omega) (by omega) (by omega), x8, kb_p d1, b4, e4, g4]
    rw [es] at f1
    rw [kb_p f1]
  · have c1 : dRf G m kF kAr μ μ1 := a2.mono (fun g x => by unfold wF at x; unfold kF; omega) (fun g x => by unfold wA at x; unfold kAr; omega)
    have c2 : dRf G m kF kAr μ1 μ2 := d2.rfm.mono (fun g x => by unfold wF at x; unfold kF; omega) (fun g x => by unfold wA at x; unfold kAr; omega)
    have cc : ∀ {α β}, dRf G m iF tA α β → dRf G m kF kAr α β := fun q => q.mono (fun g x => by unfold iF at x; unfold kF; omega) (fun g x => by unfold tA at x; unfold kAr; omega)
    exact ((((c1.tr c2).tr (cc b1)).tr (cc e1)).tr (cc g1)).tr (f2.rfm (by unfold kAr; omega))
  · exact g3.fr (fs := noF) (as := kAr) (f2.rfm (by unfold kAr; omega)) (fun g _ _ x => x)
end TAKES
