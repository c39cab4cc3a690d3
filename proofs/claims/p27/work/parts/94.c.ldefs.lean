/-! PURE: what the law's stretches take besides: an int out of the script; what is left of an order's grant; an order's size or 0 and whether that was a throw -/
abbrev oB : Type := (Int → Int → Int) × (qM → Int → Option Int) × (qM → Int → Option (Int × Nat))
def rdW {α : Type} (w : Int → Int → Int) (k n : Int) (kk : Int → Option α) : Option α := if (0 ≤ k ∧ k < 1000) ∧ 0 < n ∧ n < 10000 then kk (w k n) else none
theorem rdW_e {α : Type} {w : Int → Int → Int} {k n : Int} {kk : Int → Option α} {r : α} (h : rdW w k n kk = some r) : ∃ v, v = w k n ∧ ((0 ≤ k ∧ k < 1000) ∧ 0 < n ∧ n < 10000) ∧ kk v = some r := by
  unfold rdW at h
  split at h
  · exact ⟨_, rfl, by assumption, h⟩
  · cases h
def szK {α : Type} (r : Option (Int × Nat)) (cn : Nat) (k : Int → Nat → Option α) : Option α :=
  match r with
  | some (v, 0) => k v cn
  | some (v, _ + 1) => if cn < 1000 then k v (cn + 1) else none
  | none => none
theorem szK_e {α : Type} {r : Option (Int × Nat)} {cn : Nat} {k : Int → Nat → Option α} {z : α} (h : szK r cn k = some z) : (∃ v, r = some (v, 0) ∧ k v cn = some z) ∨ ∃ v d, r = some (v, d + 1) ∧ cn < 1000 ∧ k v (cn + 1) = some z := by
  match r, h with
  | some (v, 0), h => exact Or.inl ⟨v, rfl, h⟩
  | some (v, d + 1), h =>
    have h : (if cn < 1000 then k v (cn + 1) else none) = some z := h
    by_cases c : cn < 1000
    · rw [if_pos c] at h; exact Or.inr ⟨v, d, rfl, c, h⟩
    · rw [if_neg c] at h; cases h
/-- what they stand for -/
def yOk (Y : lB) (xs : Nat → Int32) (L x : Nat) (sa : Nat × Nat × Nat) (Ω : oB) : Prop :=
  Ω.1 = sSome xs L ∧
  (∀ (m : qM) (k v : Int), in32 k → Ω.2.1 m k = some v → ∀ l : Launch, qC l yX7_of wsY_of 6 90 (y7 Y) [.ref x, .int (iZ k), .int (iZ 5)] m (some (.int (iZ v))) (in32 v) m) ∧
  (∀ (m : qM) (k v : Int), in32 k → Ω.2.2 m k = some (v, 0) → ∀ l : Launch, qC l yX7_of wsY_of 6 90 (y7 Y) [.ref x, .int (iZ k), .int (iZ 3)] m (some (.int (iZ v))) (in32 v) m) ∧
  ∀ (m : qM) (k v : Int) (d : Nat), in32 k → Ω.2.2 m k = some (v, d + 1) → v = 0 ∧ ∀ l : Launch, l.stackTraces = false → xC l yX7_of wsY_of (y7 Y) [.ref x, .int (iZ k), .int (iZ 3)] m sa (xQi (y7 Y))
theorem sSome_32 {xs : Nat → Int32} {L : Nat} {k n v : Int} (e : v = sSome xs L k n) (hn : 0 < n ∧ n < 10000) : in32 v := by
  have h := sSome_bd (xs := xs) (L := L) (k := k) hn.1
  rw [← e] at h
  exact ⟨by omega, by omega⟩
theorem p_size {Y : lB} {L : Nat} {xs : Nat → Int32} {ρ : Nat → Nat × Nat} {x : Nat} {sa : Nat × Nat × Nat} {cn pc : Nat} {ls : List (Nat × Value)} {st : List Value} {m7 m8 : qM} {Ω : oB} {α : Type} {z : α} {kk : Int → Nat → Option α} (hF : yF Y L xs ρ x sa) (hΩ : yOk Y xs L x sa Ω) {k : Int} (rk : in32 k)
    (hd : decode cL_law pc = .ok (.invokestatic 54, 3)) (hst : Nat.ble ((st.map fun v => v.category).sum) 8 = true) (h : szK (Ω.2.2 m7 k) cn kk = some z)
    (kw : ∀ (v : Int) (c2 : Nat), in32 v → kk v c2 = some z → yN Y c2 (pc + 3) ls (.int (iZ v) :: st) m7 m8) : yN Y cn pc ls (.int (iZ k) :: .ref x :: st) m7 m8 := by
  rcases szK_e h with ⟨v, e, h⟩ | ⟨v, d, e, hc, h⟩
  · exact p_callL hF hd hst (k_L_size_ok (yl Y) hF.T7 hF.k7 (hΩ.2.2.1 m7 k v rk e)) (fun r_v => kw v cn r_v h)
  · obtain ⟨rfl, hx⟩ := hΩ.2.2.2 m7 k v d rk e
    exact p_callX hF hc hd hst (x_L_size (yl Y) hF.T7 hF.k7 hx hF.2.2.1) (kw 0 (cn + 1) (by decide) h)
/-! PURE: the law: its three stretches -/
def f_La_144 (N : Nat) (G : qG) (x : Nat) (Ω : oB) (KK : Nat → Nat) (nn : Nat)  (x2 : Int) (x3 : Int) (x4 : Int) (x5 : Int) (s0 : Int) (p0 q0 : qM) (c0 : Nat) : Option (Int × Int × Int × Int × Int × qM × qM × Nat) :=
  some (x2, x3, x4, x5, s0, p0, q0, c0)
def f_La_134 (N : Nat) (G : qG) (x : Nat) (Ω : oB) (KK : Nat → Nat) (nn : Nat)  (x2 : Int) (x3 : Int) (x4 : Int) (x5 : Int) (x6 : Int) (p0 q0 : qM) (c0 : Nat) : Option (Int × Int × Int × Int × Int × qM × qM × Nat) :=
  if x6 = 0 then (
    f_La_144 N G x Ω KK nn  x2 x3 x4 x5 1 p0 q0 c0)
  else (
    f_La_144 N G x Ω KK nn  x2 x3 x4 x5 2 p0 q0 c0)
def f_La_123 (N : Nat) (G : qG) (x : Nat) (Ω : oB) (KK : Nat → Nat) (nn : Nat)  (x2 : Int) (x3 : Int) (x4 : Int) (x5 : Int) (x6 : Int) (s1 : Int) (s2 : Int) (s3 : Int) (p0 q0 : qM) (c0 : Nat) : Option (Int × Int × Int × Int × Int × qM × qM × Nat) :=
  kb2 (f_X7_order N G x s1 s2 s3 5 0 p0) fun v2 p1 =>
  if v2 = 1 then (
    f_La_134 N G x Ω KK nn  x2 x3 x4 x5 x6 p1 q0 c0)
  else (
    none)
def f_La_99 (N : Nat) (G : qG) (x : Nat) (Ω : oB) (KK : Nat → Nat) (nn : Nat)  (x2 : Int) (x3 : Int) (x4 : Int) (x5 : Int) (s0 : Int) (p0 q0 : qM) (c0 : Nat) : Option (Int × Int × Int × Int × Int × qM × qM × Nat) :=
  if s0 = 0 then (
    f_La_134 N G x Ω KK nn  x2 x3 x4 x5 s0 p0 q0 c0)
  else (
    if x4 = 0 then (
      f_La_123 N G x Ω KK nn  x2 x3 x4 x5 s0 9 x4 99 p0 q0 c0)
    else (
      f_La_123 N G x Ω KK nn  x2 x3 x4 x5 s0 9 x4 101 p0 q0 c0))
def f_La (N : Nat) (G : qG) (x : Nat) (Ω : oB) (KK : Nat → Nat) (nn : Nat)   (p0 q0 : qM) (c0 : Nat) : Option (Int × Int × Int × Int × Int × qM × qM × Nat) :=
  rdW Ω.1 0 40 fun v1 =>
  rdW Ω.1 1 9 fun v2 =>
  ckI (1 + v2) fun v3 =>
  kb2 (f_X7_grant N G x v1 p0) fun v5 p4 =>
  if v5 = 20 then (
    kb2 (f_X7_least N G x v3 p4) fun v8 p7 =>
    if v8 = 2 then (
      kb2 (f_X7_least N G x 51 p7) fun v11 p10 =>
      if v11 = (-1) then (
        kb2 (f_X7_top N G x 0 p10) fun v14 p13 =>
        if v14 = (-1) then (
          rdW Ω.1 2 2 fun v16 =>
          rdW Ω.1 3 8 fun v17 =>
          ckI (1 + v17) fun v18 =>
          rdW Ω.1 4 2 fun v19 =>
          if v19 = 0 then (
            f_La_99 N G x Ω KK nn  v1 v3 v16 v18 1 p13 q0 c0)
          else (
            f_La_99 N G x Ω KK nn  v1 v3 v16 v18 0 p13 q0 c0))
        else (
          none))
      else (
        none))
    else (
      none))
  else (
    none)
def f_Lb_302 (N : Nat) (G : qG) (x : Nat) (Ω : oB) (KK : Nat → Nat) (nn : Nat)  (x2 : Int) (x3 : Int) (x4 : Int) (x5 : Int) (x7 : Int) (x8 : Nat) (x9 : Int) (x10 : Int) (p0 q0 : qM) (c0 : Nat) : Option (Int × Int × Int × Int × Int × Nat × Int × Int × Int × qM × qM × Nat) :=
  rdW Ω.1 21 x9 fun v1 =>
  ckI (1 + v1) fun v2 =>
  some (x2, x3, x4, x5, x7, x8, x9, x10, v2, p0, q0, c0)
def f_Lb_268 (N : Nat) (G : qG) (x : Nat) (Ω : oB) (KK : Nat → Nat) (nn : Nat)  (x2 : Int) (x3 : Int) (x4 : Int) (x5 : Int) (x7 : Int) (x8 : Nat) (x9 : Int) (x10 : Int) (s0 : Int) (s1 : Int) (p0 q0 : qM) (c0 : Nat) : Option (Int × Int × Int × Int × Int × Nat × Int × Int × Int × qM × qM × Nat) :=
  if s0 = s1 then (
    kb (Ω.2.1 p0 x7) fun v2 =>
    if v2 = x2 then (
      if 1 < x5 then (
        ckI (x7 + 1) fun v5 =>
        kb (Ω.2.1 p0 v5) fun v6 =>
        if v6 = 0 then (
          f_Lb_302 N G x Ω KK nn  x2 x3 x4 x5 x7 x8 x9 x10 p0 q0 c0)
        else (
          none))
      else (
        f_Lb_302 N G x Ω KK nn  x2 x3 x4 x5 x7 x8 x9 x10 p0 q0 c0))
    else (
      none))
  else (
    none)
def f_Lb_249 (N : Nat) (G : qG) (x : Nat) (Ω : oB) (KK : Nat → Nat) (nn : Nat)  (x2 : Int) (x3 : Int) (x4 : Int) (x5 : Int) (x7 : Int) (x8 : Nat) (x9 : Int) (s0 : Int) (p0 q0 : qM) (c0 : Nat) : Option (Int × Int × Int × Int × Int × Nat × Int × Int × Int × qM × qM × Nat) :=
  kb2 (f_X7_top N G x x4 p0) fun v2 p1 =>
  if s0 = 0 then (
    f_Lb_268 N G x Ω KK nn  x2 x3 x4 x5 x7 x8 x9 s0 v2 (-1) p1 q0 c0)
  else (
    f_Lb_268 N G x Ω KK nn  x2 x3 x4 x5 x7 x8 x9 s0 v2 x7 p1 q0 c0)
def f_Lb_193 (N : Nat) (G : qG) (x : Nat) (Ω : oB) (KK : Nat → Nat) (nn : Nat) (k158 : (Int → Int → Int → Int → Int → Nat → Int → Int → qM → qM → Nat → Option (Int × Int × Int × Int × Int × Nat × Int × Int × Int × qM × qM × Nat))) (x2 : Int) (x3 : Int) (x4 : Int) (x5 : Int) (x7 : Int) (x8 : Nat) (x9 : Int) (x10 : Int) (s0 : Nat) (s1 : Int) (s2 : Int) (s4 : Int) (s5 : Int) (p0 q0 : qM) (c0 : Nat) : Option (Int × Int × Int × Int × Int × Nat × Int × Int × Int × qM × qM × Nat) :=
  rdW Ω.1 s4 s5 fun v1 =>
  ckI (s2 + v1) fun v2 =>
  wrA q0 s0 s1 (nn : Int) v2 fun q3 =>
  rdA q3 x8 x10 (nn : Int) fun v4 =>
  ckI (x9 + v4) fun v5 =>
  rdA q3 x8 x10 (nn : Int) fun v6 =>
  kb2 (f_X7_order N G x x10 x4 100 v6 0 p0) fun v8 p7 =>
  ckI (x7 + x10) fun v9 =>
  if v8 = v9 then (
    ckI (x10 + 1) fun v11 =>
    k158 x2 x3 x4 x5 x7 x8 v5 v11 p7 q3 c0)
  else (
    none)
def f_Lb_158 (N : Nat) (G : qG) (x : Nat) (Ω : oB) (KK : Nat → Nat) (nn : Nat) (k158 : (Int → Int → Int → Int → Int → Nat → Int → Int → qM → qM → Nat → Option (Int × Int × Int × Int × Int × Nat × Int × Int × Int × qM × qM × Nat))) (x2 : Int) (x3 : Int) (x4 : Int) (x5 : Int) (x7 : Int) (x8 : Nat) (x9 : Int) (x10 : Int) (p0 q0 : qM) (c0 : Nat) : Option (Int × Int × Int × Int × Int × Nat × Int × Int × Int × qM × qM × Nat) :=
  if x10 < x5 then (
    ckI (5 + x10) fun v3 =>
    rdW Ω.1 20 2 fun v4 =>
    if v4 = 0 then (
      f_Lb_193 N G x Ω KK nn k158 x2 x3 x4 x5 x7 x8 x9 x10 x8 x10 1 v3 12 p0 q0 c0)
    else (
      f_Lb_193 N G x Ω KK nn k158 x2 x3 x4 x5 x7 x8 x9 x10 x8 x10 1 v3 200 p0 q0 c0))
  else (
    if 0 < x2 then (
      f_Lb_249 N G x Ω KK nn  x2 x3 x4 x5 x7 x8 x9 1 p0 q0 c0)
    else (
      f_Lb_249 N G x Ω KK nn  x2 x3 x4 x5 x7 x8 x9 0 p0 q0 c0))
def f_Lb_L158 (N : Nat) (G : qG) (x : Nat) (Ω : oB) (KK : Nat → Nat) (nn : Nat)  (x2 : Int) (x3 : Int) (x4 : Int) (x5 : Int) (x7 : Int) (x8 : Nat) (x9 : Int) (x10 : Int) (p0 q0 : qM) (c0 : Nat) : Option (Int × Int × Int × Int × Int × Nat × Int × Int × Int × qM × qM × Nat) :=
  qLoop (fun k z => f_Lb_158 N G x Ω KK nn (fun x2 x3 x4 x5 x7 x8 x9 x10 p0 q0 c0 => k (x2, x3, x4, x5, x7, x8, x9, x10, p0, q0, c0)) z.1 z.2.1 z.2.2.1 z.2.2.2.1 z.2.2.2.2.1 z.2.2.2.2.2.1 z.2.2.2.2.2.2.1 z.2.2.2.2.2.2.2.1 z.2.2.2.2.2.2.2.2.1 z.2.2.2.2.2.2.2.2.2.1 z.2.2.2.2.2.2.2.2.2.2) N (x2, x3, x4, x5, x7, x8, x9, x10, p0, q0, c0)
def f_Lb (N : Nat) (G : qG) (x : Nat) (Ω : oB) (KK : Nat → Nat) (nn : Nat)  (x2 : Int) (x3 : Int) (x4 : Int) (x5 : Int) (x7 : Int) (s0 : Nat) (p0 q0 : qM) (c0 : Nat) : Option (Int × Int × Int × Int × Int × Nat × Int × Int × Int × qM × qM × Nat) :=
  f_Lb_L158 N G x Ω KK nn  x2 x3 x4 x5 x7 s0 0 0 p0 q0 c0
def f_Lc_1021 (N : Nat) (G : qG) (x : Nat) (Ω : oB) (KK : Nat → Nat) (nn : Nat)   (p0 q0 : qM) (c0 : Nat) : Option (Int) :=
  some 1
def f_Lc_995 (N : Nat) (G : qG) (x : Nat) (Ω : oB) (KK : Nat → Nat) (nn : Nat)  (x2 : Int) (x7 : Int) (x12 : Nat) (x19 : Int) (s0 : Int) (s1 : Int) (p0 q0 : qM) (c0 : Nat) : Option (Int) :=
  if s0 = s1 then (
    if x19 = 0 then (
      f_Lc_1021 N G x Ω KK nn   p0 q0 c0)
    else (
      kb (Ω.2.1 p0 x7) fun v3 =>
      rdQ KK (1000 + nn) q0 x12 0 3 fun o4 =>
      rdA q0 o4 0 (nn : Int) fun v5 =>
      ckI (x2 - v5) fun v6 =>
      if v3 = v6 then (
        f_Lc_1021 N G x Ω KK nn   p0 q0 c0)
      else (
        none)))
  else (
    none)
def f_Lc_976 (N : Nat) (G : qG) (x : Nat) (Ω : oB) (KK : Nat → Nat) (nn : Nat)  (x2 : Int) (x4 : Int) (x7 : Int) (x12 : Nat) (s0 : Int) (p0 q0 : qM) (c0 : Nat) : Option (Int) :=
  kb2 (f_X7_top N G x x4 p0) fun v2 p1 =>
  if s0 = 0 then (
    f_Lc_995 N G x Ω KK nn  x2 x7 x12 s0 v2 (-1) p1 q0 c0)
  else (
    f_Lc_995 N G x Ω KK nn  x2 x7 x12 s0 v2 x7 p1 q0 c0)
def f_Lc_975 (N : Nat) (G : qG) (x : Nat) (Ω : oB) (KK : Nat → Nat) (nn : Nat)  (x2 : Int) (x4 : Int) (x7 : Int) (x12 : Nat) (p0 q0 : qM) (c0 : Nat) : Option (Int) :=
  f_Lc_976 N G x Ω KK nn  x2 x4 x7 x12 0 p0 q0 c0
def f_Lc_942 (N : Nat) (G : qG) (x : Nat) (Ω : oB) (KK : Nat → Nat) (nn : Nat)  (x2 : Int) (x4 : Int) (x7 : Int) (x10 : Int) (x12 : Nat) (s0 : Int) (s1 : Int) (p0 q0 : qM) (c0 : Nat) : Option (Int) :=
  if s0 = s1 then (
    if x10 = 0 then (
      f_Lc_975 N G x Ω KK nn  x2 x4 x7 x12 p0 q0 c0)
    else (
      szK (Ω.2.2 p0 x7) c0 fun v3 c4 =>
      if 0 < v3 then (
        rdQ KK (1000 + nn) q0 x12 0 3 fun o6 =>
        rdA q0 o6 0 (nn : Int) fun v7 =>
        if v7 < x2 then (
          f_Lc_976 N G x Ω KK nn  x2 x4 x7 x12 1 p0 q0 c4)
        else (
          f_Lc_975 N G x Ω KK nn  x2 x4 x7 x12 p0 q0 c4))
      else (
        f_Lc_975 N G x Ω KK nn  x2 x4 x7 x12 p0 q0 c4)))
  else (
    none)
def f_Lc_831 (N : Nat) (G : qG) (x : Nat) (Ω : oB) (KK : Nat → Nat) (nn : Nat) (k831 : (Int → Int → Int → Int → Nat → Int → Int → Nat → Int → Int → qM → qM → Nat → Option (Int))) (x2 : Int) (x4 : Int) (x5 : Int) (x7 : Int) (x8 : Nat) (x10 : Int) (x11 : Int) (x12 : Nat) (x18 : Int) (x19 : Int) (p0 q0 : qM) (c0 : Nat) : Option (Int) :=
  if x19 < x5 then (
    rdA q0 x8 x19 (nn : Int) fun v14 =>
    rdQ KK (1000 + nn) q0 x12 0 3 fun o15 =>
    rdA q0 o15 x19 (nn : Int) fun v16 =>
    ckI (v14 - v16) fun v17 =>
    rdQ KK (1000 + nn) q0 x12 1 3 fun o18 =>
    rdA q0 o18 x19 (nn : Int) fun v19 =>
    ckI (v17 - v19) fun v20 =>
    rdQ KK (1000 + nn) q0 x12 2 3 fun o21 =>
    rdA q0 o21 x19 (nn : Int) fun v22 =>
    ckI (v20 - v22) fun v23 =>
    ckI (x7 + x19) fun v24 =>
    szK (Ω.2.2 p0 v24) c0 fun v25 c26 =>
    if v25 = v23 then (
      ckI (x19 + 1) fun v28 =>
      k831 x2 x4 x5 x7 x8 x10 x11 x12 x18 v28 p0 q0 c26)
    else (
      none))
  else (
    kb2 (f_X7_count N G x 7 p0) fun v3 p2 =>
    if v3 = x18 then (
      kb2 (f_X7_count N G x 8 p2) fun v6 p5 =>
      if v6 = x11 then (
        kb2 (f_X7_count N G x 2 p5) fun v9 p8 =>
        if v9 = 100 then (
          kp (gA p8 (gR G 305 (gR G 201 (gR G 700 x))) 9) fun v11 =>
          if x4 = 0 then (
            ckI (-x11) fun v13 =>
            f_Lc_942 N G x Ω KK nn  x2 x4 x7 x10 x12 v11 v13 p8 q0 c0)
          else (
            f_Lc_942 N G x Ω KK nn  x2 x4 x7 x10 x12 v11 x11 p8 q0 c0))
        else (
          none))
      else (
        none))
    else (
      none))
def f_Lc_L831 (N : Nat) (G : qG) (x : Nat) (Ω : oB) (KK : Nat → Nat) (nn : Nat)  (x2 : Int) (x4 : Int) (x5 : Int) (x7 : Int) (x8 : Nat) (x10 : Int) (x11 : Int) (x12 : Nat) (x18 : Int) (x19 : Int) (p0 q0 : qM) (c0 : Nat) : Option (Int) :=
  qLoop (fun k z => f_Lc_831 N G x Ω KK nn (fun x2 x4 x5 x7 x8 x10 x11 x12 x18 x19 p0 q0 c0 => k (x2, x4, x5, x7, x8, x10, x11, x12, x18, x19, p0, q0, c0)) z.1 z.2.1 z.2.2.1 z.2.2.2.1 z.2.2.2.2.1 z.2.2.2.2.2.1 z.2.2.2.2.2.2.1 z.2.2.2.2.2.2.2.1 z.2.2.2.2.2.2.2.2.1 z.2.2.2.2.2.2.2.2.2.1 z.2.2.2.2.2.2.2.2.2.2.1 z.2.2.2.2.2.2.2.2.2.2.2.1 z.2.2.2.2.2.2.2.2.2.2.2.2) N (x2, x4, x5, x7, x8, x10, x11, x12, x18, x19, p0, q0, c0)
def f_Lc_816 (N : Nat) (G : qG) (x : Nat) (Ω : oB) (KK : Nat → Nat) (nn : Nat) (k712 : (Int → Int → Int → Int → Nat → Int → Int → Nat → Int → Int → Int → qM → qM → Nat → Option (Int))) (k723 : (Int → Int → Int → Int → Nat → Int → Int → Nat → Int → Int → Int → Int → qM → qM → Nat → Option (Int))) (x2 : Int) (x4 : Int) (x5 : Int) (x7 : Int) (x8 : Nat) (x10 : Int) (x11 : Int) (x12 : Nat) (x17 : Int) (x18 : Int) (x19 : Int) (x20 : Int) (p0 q0 : qM) (c0 : Nat) : Option (Int) :=
  ckI (x20 + (-1)) fun v1 =>
  k723 x2 x4 x5 x7 x8 x10 x11 x12 x17 x18 x19 v1 p0 q0 c0
def f_Lc_723 (N : Nat) (G : qG) (x : Nat) (Ω : oB) (KK : Nat → Nat) (nn : Nat) (k712 : (Int → Int → Int → Int → Nat → Int → Int → Nat → Int → Int → Int → qM → qM → Nat → Option (Int))) (k723 : (Int → Int → Int → Int → Nat → Int → Int → Nat → Int → Int → Int → Int → qM → qM → Nat → Option (Int))) (x2 : Int) (x4 : Int) (x5 : Int) (x7 : Int) (x8 : Nat) (x10 : Int) (x11 : Int) (x12 : Nat) (x17 : Int) (x18 : Int) (x19 : Int) (x20 : Int) (p0 q0 : qM) (c0 : Nat) : Option (Int) :=
  if x20 < 0 then (
    ckI (x19 + (-1)) fun v2 =>
    k712 x2 x4 x5 x7 x8 x10 x11 x12 x17 x18 v2 p0 q0 c0)
  else (
    rdQ KK (1000 + nn) q0 x12 x19 3 fun o3 =>
    rdA q0 o3 x20 (nn : Int) fun v4 =>
    if v4 = 0 then (
      f_Lc_816 N G x Ω KK nn k712 k723 x2 x4 x5 x7 x8 x10 x11 x12 x17 x18 x19 x20 p0 q0 c0)
    else (
      kb2 (f_X7_trade N G x x18 0 p0) fun v7 p6 =>
      ckI (x7 + x20) fun v8 =>
      if v7 = v8 then (
        kb2 (f_X7_trade N G x x18 1 p6) fun v11 p10 =>
        if v11 = x17 then (
          kb2 (f_X7_trade N G x x18 2 p10) fun v14 p13 =>
          if v14 = 100 then (
            kb2 (f_X7_trade N G x x18 3 p13) fun v17 p16 =>
            rdQ KK (1000 + nn) q0 x12 x19 3 fun o18 =>
            rdA q0 o18 x20 (nn : Int) fun v19 =>
            if v17 = v19 then (
              kb2 (f_X7_trade N G x x18 4 p16) fun v22 p21 =>
              if v22 = x19 then (
                ckI (x18 + 1) fun v24 =>
                f_Lc_816 N G x Ω KK nn k712 k723 x2 x4 x5 x7 x8 x10 x11 x12 x17 v24 x19 x20 p21 q0 c0)
              else (
                none))
            else (
              none))
          else (
            none))
        else (
          none))
      else (
        none)))
def f_Lc_L723 (N : Nat) (G : qG) (x : Nat) (Ω : oB) (KK : Nat → Nat) (nn : Nat) (k712 : (Int → Int → Int → Int → Nat → Int → Int → Nat → Int → Int → Int → qM → qM → Nat → Option (Int))) (x2 : Int) (x4 : Int) (x5 : Int) (x7 : Int) (x8 : Nat) (x10 : Int) (x11 : Int) (x12 : Nat) (x17 : Int) (x18 : Int) (x19 : Int) (x20 : Int) (p0 q0 : qM) (c0 : Nat) : Option (Int) :=
  qLoop (fun k z => f_Lc_723 N G x Ω KK nn k712 (fun x2 x4 x5 x7 x8 x10 x11 x12 x17 x18 x19 x20 p0 q0 c0 => k (x2, x4, x5, x7, x8, x10, x11, x12, x17, x18, x19, x20, p0, q0, c0)) z.1 z.2.1 z.2.2.1 z.2.2.2.1 z.2.2.2.2.1 z.2.2.2.2.2.1 z.2.2.2.2.2.2.1 z.2.2.2.2.2.2.2.1 z.2.2.2.2.2.2.2.2.1 z.2.2.2.2.2.2.2.2.2.1 z.2.2.2.2.2.2.2.2.2.2.1 z.2.2.2.2.2.2.2.2.2.2.2.1 z.2.2.2.2.2.2.2.2.2.2.2.2.1 z.2.2.2.2.2.2.2.2.2.2.2.2.2.1 z.2.2.2.2.2.2.2.2.2.2.2.2.2.2) N (x2, x4, x5, x7, x8, x10, x11, x12, x17, x18, x19, x20, p0, q0, c0)
def f_Lc_712 (N : Nat) (G : qG) (x : Nat) (Ω : oB) (KK : Nat → Nat) (nn : Nat) (k712 : (Int → Int → Int → Int → Nat → Int → Int → Nat → Int → Int → Int → qM → qM → Nat → Option (Int))) (x2 : Int) (x4 : Int) (x5 : Int) (x7 : Int) (x8 : Nat) (x10 : Int) (x11 : Int) (x12 : Nat) (x17 : Int) (x18 : Int) (x19 : Int) (p0 q0 : qM) (c0 : Nat) : Option (Int) :=
  if x19 < 0 then (
    f_Lc_L831 N G x Ω KK nn  x2 x4 x5 x7 x8 x10 x11 x12 x18 0 p0 q0 c0)
  else (
    ckI (x5 - 1) fun v2 =>
    f_Lc_L723 N G x Ω KK nn k712 x2 x4 x5 x7 x8 x10 x11 x12 x17 x18 x19 v2 p0 q0 c0)
def f_Lc_L712 (N : Nat) (G : qG) (x : Nat) (Ω : oB) (KK : Nat → Nat) (nn : Nat)  (x2 : Int) (x4 : Int) (x5 : Int) (x7 : Int) (x8 : Nat) (x10 : Int) (x11 : Int) (x12 : Nat) (x17 : Int) (x18 : Int) (x19 : Int) (p0 q0 : qM) (c0 : Nat) : Option (Int) :=
  qLoop (fun k z => f_Lc_712 N G x Ω KK nn (fun x2 x4 x5 x7 x8 x10 x11 x12 x17 x18 x19 p0 q0 c0 => k (x2, x4, x5, x7, x8, x10, x11, x12, x17, x18, x19, p0, q0, c0)) z.1 z.2.1 z.2.2.1 z.2.2.2.1 z.2.2.2.2.1 z.2.2.2.2.2.1 z.2.2.2.2.2.2.1 z.2.2.2.2.2.2.2.1 z.2.2.2.2.2.2.2.2.1 z.2.2.2.2.2.2.2.2.2.1 z.2.2.2.2.2.2.2.2.2.2.1 z.2.2.2.2.2.2.2.2.2.2.2.1 z.2.2.2.2.2.2.2.2.2.2.2.2.1 z.2.2.2.2.2.2.2.2.2.2.2.2.2) N (x2, x4, x5, x7, x8, x10, x11, x12, x17, x18, x19, p0, q0, c0)
def f_Lc_583 (N : Nat) (G : qG) (x : Nat) (Ω : oB) (KK : Nat → Nat) (nn : Nat) (k529 : (Int → Int → Int → Int → Nat → Int → Int → Int → Nat → Int → qM → qM → Nat → Option (Int))) (k583 : (Int → Int → Int → Int → Nat → Int → Int → Int → Nat → Int → Int → qM → qM → Nat → Option (Int))) (x2 : Int) (x4 : Int) (x5 : Int) (x7 : Int) (x8 : Nat) (x9 : Int) (x10 : Int) (x11 : Int) (x12 : Nat) (x16 : Int) (x18 : Int) (p0 q0 : qM) (c0 : Nat) : Option (Int) :=
  if x18 < 3 then (
    ckI (x7 + x16) fun v3 =>
    ckI (1 + x18) fun v4 =>
    kb2 (f_X7_share N G x v3 x11 v4 p0) fun v6 p5 =>
    rdQ KK (1000 + nn) q0 x12 x18 3 fun o7 =>
    rdA q0 o7 x16 (nn : Int) fun v8 =>
    if v6 = v8 then (
      ckI (x18 + 1) fun v10 =>
      k583 x2 x4 x5 x7 x8 x9 x10 x11 x12 x16 v10 p5 q0 c0)
    else (
      none))
  else (
    ckI (x16 + 1) fun v2 =>
    k529 x2 x4 x5 x7 x8 x9 x10 x11 x12 v2 p0 q0 c0)
def f_Lc_L583 (N : Nat) (G : qG) (x : Nat) (Ω : oB) (KK : Nat → Nat) (nn : Nat) (k529 : (Int → Int → Int → Int → Nat → Int → Int → Int → Nat → Int → qM → qM → Nat → Option (Int))) (x2 : Int) (x4 : Int) (x5 : Int) (x7 : Int) (x8 : Nat) (x9 : Int) (x10 : Int) (x11 : Int) (x12 : Nat) (x16 : Int) (x18 : Int) (p0 q0 : qM) (c0 : Nat) : Option (Int) :=
  qLoop (fun k z => f_Lc_583 N G x Ω KK nn k529 (fun x2 x4 x5 x7 x8 x9 x10 x11 x12 x16 x18 p0 q0 c0 => k (x2, x4, x5, x7, x8, x9, x10, x11, x12, x16, x18, p0, q0, c0)) z.1 z.2.1 z.2.2.1 z.2.2.2.1 z.2.2.2.2.1 z.2.2.2.2.2.1 z.2.2.2.2.2.2.1 z.2.2.2.2.2.2.2.1 z.2.2.2.2.2.2.2.2.1 z.2.2.2.2.2.2.2.2.2.1 z.2.2.2.2.2.2.2.2.2.2.1 z.2.2.2.2.2.2.2.2.2.2.2.1 z.2.2.2.2.2.2.2.2.2.2.2.2.1 z.2.2.2.2.2.2.2.2.2.2.2.2.2) N (x2, x4, x5, x7, x8, x9, x10, x11, x12, x16, x18, p0, q0, c0)
def f_Lc_529 (N : Nat) (G : qG) (x : Nat) (Ω : oB) (KK : Nat → Nat) (nn : Nat) (k529 : (Int → Int → Int → Int → Nat → Int → Int → Int → Nat → Int → qM → qM → Nat → Option (Int))) (x2 : Int) (x4 : Int) (x5 : Int) (x7 : Int) (x8 : Nat) (x9 : Int) (x10 : Int) (x11 : Int) (x12 : Nat) (x16 : Int) (p0 q0 : qM) (c0 : Nat) : Option (Int) :=
  if x16 < x5 then (
    rdQ KK (1000 + nn) q0 x12 0 3 fun o16 =>
    rdA q0 o16 x16 (nn : Int) fun v17 =>
    rdQ KK (1000 + nn) q0 x12 1 3 fun o18 =>
    rdA q0 o18 x16 (nn : Int) fun v19 =>
    ckI (v17 + v19) fun v20 =>
    rdQ KK (1000 + nn) q0 x12 2 3 fun o21 =>
    rdA q0 o21 x16 (nn : Int) fun v22 =>
    ckI (v20 + v22) fun v23 =>
    ckI (x7 + x16) fun v24 =>
    kb2 (f_X7_share N G x v24 x11 0 p0) fun v26 p25 =>
    if v26 = v23 then (
      f_Lc_L583 N G x Ω KK nn k529 x2 x4 x5 x7 x8 x9 x10 x11 x12 x16 0 p25 q0 c0)
    else (
      none))
  else (
    ckI (x9 + 1) fun v2 =>
    kb2 (f_X7_share N G x x7 v2 0 p0) fun v4 p3 =>
    if v4 = (-1) then (
      kb2 (f_X7_share N G x x7 0 0 p3) fun v7 p6 =>
      if v7 = (-1) then (
        kp (min x11 1000) fun v9 =>
        if v9 < x11 then (
          some 1)
        else (
          ckI (1 - x4) fun v11 =>
          kb2 (f_X7_order N G x 9 v11 100 x11 0 p6) fun v13 p12 =>
          ckI (x7 + x5) fun v14 =>
          if v13 = v14 then (
            f_Lc_L712 N G x Ω KK nn  x2 x4 x5 x7 x8 x10 x11 x12 v13 0 2 p12 q0 c0)
          else (
            none)))
      else (
        none))
    else (
      none))
def f_Lc_L529 (N : Nat) (G : qG) (x : Nat) (Ω : oB) (KK : Nat → Nat) (nn : Nat)  (x2 : Int) (x4 : Int) (x5 : Int) (x7 : Int) (x8 : Nat) (x9 : Int) (x10 : Int) (x11 : Int) (x12 : Nat) (x16 : Int) (p0 q0 : qM) (c0 : Nat) : Option (Int) :=
  qLoop (fun k z => f_Lc_529 N G x Ω KK nn (fun x2 x4 x5 x7 x8 x9 x10 x11 x12 x16 p0 q0 c0 => k (x2, x4, x5, x7, x8, x9, x10, x11, x12, x16, p0, q0, c0)) z.1 z.2.1 z.2.2.1 z.2.2.2.1 z.2.2.2.2.1 z.2.2.2.2.2.1 z.2.2.2.2.2.2.1 z.2.2.2.2.2.2.2.1 z.2.2.2.2.2.2.2.2.1 z.2.2.2.2.2.2.2.2.2.1 z.2.2.2.2.2.2.2.2.2.2.1 z.2.2.2.2.2.2.2.2.2.2.2.1 z.2.2.2.2.2.2.2.2.2.2.2.2) N (x2, x4, x5, x7, x8, x9, x10, x11, x12, x16, p0, q0, c0)
def f_Lc_461 (N : Nat) (G : qG) (x : Nat) (Ω : oB) (KK : Nat → Nat) (nn : Nat) (k461 : (Int → Int → Int → Int → Nat → Int → Int → Int → Nat → Int → Int → qM → qM → Nat → Option (Int))) (x2 : Int) (x4 : Int) (x5 : Int) (x7 : Int) (x8 : Nat) (x9 : Int) (x10 : Int) (x11 : Int) (x12 : Nat) (x13 : Int) (x16 : Int) (p0 q0 : qM) (c0 : Nat) : Option (Int) :=
  if x16 < x5 then (
    rdQ KK (1000 + nn) q0 x12 2 3 fun o3 =>
    rdA q0 x8 x16 (nn : Int) fun v4 =>
    rdQ KK (1000 + nn) q0 x12 0 3 fun o5 =>
    rdA q0 o5 x16 (nn : Int) fun v6 =>
    ckI (v4 - v6) fun v7 =>
    rdQ KK (1000 + nn) q0 x12 1 3 fun o8 =>
    rdA q0 o8 x16 (nn : Int) fun v9 =>
    ckI (v7 - v9) fun v10 =>
    kp (min x13 v10) fun v11 =>
    wrA q0 o3 x16 (nn : Int) v11 fun q12 =>
    rdQ KK (1000 + nn) q12 x12 2 3 fun o13 =>
    rdA q12 o13 x16 (nn : Int) fun v14 =>
    ckI (x13 - v14) fun v15 =>
    ckI (x16 + 1) fun v16 =>
    k461 x2 x4 x5 x7 x8 x9 x10 x11 x12 v15 v16 p0 q12 c0)
  else (
    if x13 = 0 then (
      f_Lc_L529 N G x Ω KK nn  x2 x4 x5 x7 x8 x9 x10 x11 x12 0 p0 q0 c0)
    else (
      none))
def f_Lc_L461 (N : Nat) (G : qG) (x : Nat) (Ω : oB) (KK : Nat → Nat) (nn : Nat)  (x2 : Int) (x4 : Int) (x5 : Int) (x7 : Int) (x8 : Nat) (x9 : Int) (x10 : Int) (x11 : Int) (x12 : Nat) (x13 : Int) (x16 : Int) (p0 q0 : qM) (c0 : Nat) : Option (Int) :=
  qLoop (fun k z => f_Lc_461 N G x Ω KK nn (fun x2 x4 x5 x7 x8 x9 x10 x11 x12 x13 x16 p0 q0 c0 => k (x2, x4, x5, x7, x8, x9, x10, x11, x12, x13, x16, p0, q0, c0)) z.1 z.2.1 z.2.2.1 z.2.2.2.1 z.2.2.2.2.1 z.2.2.2.2.2.1 z.2.2.2.2.2.2.1 z.2.2.2.2.2.2.2.1 z.2.2.2.2.2.2.2.2.1 z.2.2.2.2.2.2.2.2.2.1 z.2.2.2.2.2.2.2.2.2.2.1 z.2.2.2.2.2.2.2.2.2.2.2.1 z.2.2.2.2.2.2.2.2.2.2.2.2.1 z.2.2.2.2.2.2.2.2.2.2.2.2.2) N (x2, x4, x5, x7, x8, x9, x10, x11, x12, x13, x16, p0, q0, c0)
def f_Lc_439 (N : Nat) (G : qG) (x : Nat) (Ω : oB) (KK : Nat → Nat) (nn : Nat) (k380 : (Int → Int → Int → Int → Int → Nat → Int → Int → Int → Nat → Int → Int → Int → Int → qM → qM → Nat → Option (Int))) (x2 : Int) (x3 : Int) (x4 : Int) (x5 : Int) (x7 : Int) (x8 : Nat) (x9 : Int) (x10 : Int) (x11 : Int) (x12 : Nat) (x13 : Int) (x14 : Int) (x15 : Int) (x16 : Int) (s0 : Nat) (s1 : Int) (s2 : Int) (p0 q0 : qM) (c0 : Nat) : Option (Int) :=
  wrA q0 s0 s1 (nn : Int) s2 fun q1 =>
  rdQ KK (1000 + nn) q1 x12 1 3 fun o2 =>
  rdA q1 o2 x16 (nn : Int) fun v3 =>
  ckI (x13 - v3) fun v4 =>
  ckI (x16 + 1) fun v5 =>
  k380 x2 x3 x4 x5 x7 x8 x9 x10 x11 x12 v4 x14 x15 v5 p0 q1 c0
def f_Lc_419 (N : Nat) (G : qG) (x : Nat) (Ω : oB) (KK : Nat → Nat) (nn : Nat) (k380 : (Int → Int → Int → Int → Int → Nat → Int → Int → Int → Nat → Int → Int → Int → Int → qM → qM → Nat → Option (Int))) (x2 : Int) (x3 : Int) (x4 : Int) (x5 : Int) (x7 : Int) (x8 : Nat) (x9 : Int) (x10 : Int) (x11 : Int) (x12 : Nat) (x13 : Int) (x14 : Int) (x15 : Int) (x16 : Int) (s0 : Int) (p0 q0 : qM) (c0 : Nat) : Option (Int) :=
  rdQ KK (1000 + nn) q0 x12 1 3 fun o1 =>
  if s0 < x3 then (
    f_Lc_439 N G x Ω KK nn k380 x2 x3 x4 x5 x7 x8 x9 x10 x11 x12 x13 x14 x15 x16 o1 x16 0 p0 q0 c0)
  else (
    f_Lc_439 N G x Ω KK nn k380 x2 x3 x4 x5 x7 x8 x9 x10 x11 x12 x13 x14 x15 x16 o1 x16 s0 p0 q0 c0)
def f_Lc_380 (N : Nat) (G : qG) (x : Nat) (Ω : oB) (KK : Nat → Nat) (nn : Nat) (k380 : (Int → Int → Int → Int → Int → Nat → Int → Int → Int → Nat → Int → Int → Int → Int → qM → qM → Nat → Option (Int))) (x2 : Int) (x3 : Int) (x4 : Int) (x5 : Int) (x7 : Int) (x8 : Nat) (x9 : Int) (x10 : Int) (x11 : Int) (x12 : Nat) (x13 : Int) (x14 : Int) (x15 : Int) (x16 : Int) (p0 q0 : qM) (c0 : Nat) : Option (Int) :=
  if x16 < x5 then (
    if x15 = 0 then (
      f_Lc_419 N G x Ω KK nn k380 x2 x3 x4 x5 x7 x8 x9 x10 x11 x12 x13 x14 x15 x16 0 p0 q0 c0)
    else (
      rdA q0 x8 x16 (nn : Int) fun v3 =>
      rdQ KK (1000 + nn) q0 x12 0 3 fun o4 =>
      rdA q0 o4 x16 (nn : Int) fun v5 =>
      ckI (v3 - v5) fun v6 =>
      ckJ (x14 * v6) fun v7 =>
      ckD x15 <| ckJ (v7.tdiv x15) fun v8 =>
      ckI v8 fun v9 =>
      f_Lc_419 N G x Ω KK nn k380 x2 x3 x4 x5 x7 x8 x9 x10 x11 x12 x13 x14 x15 x16 v9 p0 q0 c0))
  else (
    f_Lc_L461 N G x Ω KK nn  x2 x4 x5 x7 x8 x9 x10 x11 x12 x13 0 p0 q0 c0)
def f_Lc_L380 (N : Nat) (G : qG) (x : Nat) (Ω : oB) (KK : Nat → Nat) (nn : Nat)  (x2 : Int) (x3 : Int) (x4 : Int) (x5 : Int) (x7 : Int) (x8 : Nat) (x9 : Int) (x10 : Int) (x11 : Int) (x12 : Nat) (x13 : Int) (x14 : Int) (x15 : Int) (x16 : Int) (p0 q0 : qM) (c0 : Nat) : Option (Int) :=
  qLoop (fun k z => f_Lc_380 N G x Ω KK nn (fun x2 x3 x4 x5 x7 x8 x9 x10 x11 x12 x13 x14 x15 x16 p0 q0 c0 => k (x2, x3, x4, x5, x7, x8, x9, x10, x11, x12, x13, x14, x15, x16, p0, q0, c0)) z.1 z.2.1 z.2.2.1 z.2.2.2.1 z.2.2.2.2.1 z.2.2.2.2.2.1 z.2.2.2.2.2.2.1 z.2.2.2.2.2.2.2.1 z.2.2.2.2.2.2.2.2.1 z.2.2.2.2.2.2.2.2.2.1 z.2.2.2.2.2.2.2.2.2.2.1 z.2.2.2.2.2.2.2.2.2.2.2.1 z.2.2.2.2.2.2.2.2.2.2.2.2.1 z.2.2.2.2.2.2.2.2.2.2.2.2.2.1 z.2.2.2.2.2.2.2.2.2.2.2.2.2.2.1 z.2.2.2.2.2.2.2.2.2.2.2.2.2.2.2.1 z.2.2.2.2.2.2.2.2.2.2.2.2.2.2.2.2) N (x2, x3, x4, x5, x7, x8, x9, x10, x11, x12, x13, x14, x15, x16, p0, q0, c0)
def f_Lc_351 (N : Nat) (G : qG) (x : Nat) (Ω : oB) (KK : Nat → Nat) (nn : Nat)  (x2 : Int) (x3 : Int) (x4 : Int) (x5 : Int) (x7 : Int) (x8 : Nat) (x9 : Int) (x10 : Int) (x11 : Int) (x12 : Nat) (x13 : Int) (p0 q0 : qM) (c0 : Nat) : Option (Int) :=
  rdQ KK (1000 + nn) q0 x12 0 3 fun o1 =>
  rdA q0 o1 0 (nn : Int) fun v2 =>
  ckI (x13 - v2) fun v3 =>
  rdQ KK (1000 + nn) q0 x12 0 3 fun o4 =>
  rdA q0 o4 0 (nn : Int) fun v5 =>
  ckI (x9 - v5) fun v6 =>
  f_Lc_L380 N G x Ω KK nn  x2 x3 x4 x5 x7 x8 x9 x10 x11 x12 v3 v3 v6 0 p0 q0 c0
def f_Lc (N : Nat) (G : qG) (x : Nat) (Ω : oB) (KK : Nat → Nat) (nn : Nat)  (x2 : Int) (x3 : Int) (x4 : Int) (x5 : Int) (x7 : Int) (x8 : Nat) (x9 : Int) (x10 : Int) (x11 : Int) (s0 : Nat) (p0 q0 : qM) (c0 : Nat) : Option (Int) :=
  if x10 = 0 then (
    f_Lc_351 N G x Ω KK nn  x2 x3 x4 x5 x7 x8 x9 x10 x11 s0 x11 p0 q0 c0)
  else (
    rdQ KK (1000 + nn) q0 s0 0 3 fun o2 =>
    rdA q0 x8 0 (nn : Int) fun v3 =>
    kp (min x11 v3) fun v4 =>
    kp (min v4 x2) fun v5 =>
    wrA q0 o2 0 (nn : Int) v5 fun q6 =>
    f_Lc_351 N G x Ω KK nn  x2 x3 x4 x5 x7 x8 x9 x10 x11 s0 x11 p0 q6 c0)
