/-! MEMORY: int and long fields by number of field and address, int and long arrays by address and place, arrays of references by address and place -/
abbrev qM : Type := (Nat → Nat → Int) × (Nat → Nat → Int) × (Nat → Nat → Option Nat)
def gI (μ : qM) (f a : Nat) : Int := μ.1 f a
def gA (μ : qM) (a i : Nat) : Int := μ.2.1 a i
def gQ (μ : qM) (a i : Nat) : Option Nat := μ.2.2 a i
def sI (μ : qM) (f a : Nat) (v : Int) : qM := (fun g b => if g = f ∧ b = a then v else μ.1 g b, μ.2.1, μ.2.2)
def sA (μ : qM) (a i : Nat) (v : Int) : qM := (μ.1, fun b j => if b = a ∧ j = i then v else μ.2.1 b j, μ.2.2)
def sQ (μ : qM) (a i : Nat) (v : Option Nat) : qM := (μ.1, μ.2.1, fun b j => if b = a ∧ j = i then v else μ.2.2 b j)
abbrev in32 (z : Int) : Prop := -2147483648 ≤ z ∧ z ≤ 2147483647
abbrev in64 (z : Int) : Prop := -9223372036854775808 ≤ z ∧ z ≤ 9223372036854775807
abbrev in01 (z : Int) : Prop := z = 0 ∨ z = 1
abbrev iZ (z : Int) : Int32 := Int32.ofInt z
abbrev lZ (z : Int) : Int64 := Int64.ofInt z
theorem iZ_toInt {z : Int} (h : in32 z) : (iZ z).toInt = z := Int32.toInt_ofInt_of_le h.1 (by have := h.2; omega)
theorem lZ_toInt {z : Int} (h : in64 z) : (lZ z).toInt = z := Int64.toInt_ofInt_of_le h.1 (by have := h.2; omega)
theorem iZ_of (x : Int32) : iZ x.toInt = x := Int32.ofInt_toInt x
theorem lZ_of (x : Int64) : lZ x.toInt = x := Int64.ofInt_toInt x
theorem in32_of (x : Int32) : in32 x.toInt := ⟨Int32.le_toInt x, by have := Int32.toInt_lt x; omega⟩
theorem in64_of (x : Int64) : in64 x.toInt := ⟨Int64.le_toInt x, by have := Int64.toInt_lt x; omega⟩
theorem in01.i {z : Int} (h : in01 z) : in32 z := by rcases h with h | h <;> subst h <;> decide
theorem iZ_inj {a b : Int} (ha : in32 a) (hb : in32 b) : iZ a = iZ b ↔ a = b := by
  rw [← Int32.toInt_inj, iZ_toInt ha, iZ_toInt hb]
theorem iZ_lt {a b : Int} (ha : in32 a) (hb : in32 b) : iZ a < iZ b ↔ a < b := by
  rw [Int32.lt_iff_toInt_lt, iZ_toInt ha, iZ_toInt hb]
theorem iZ_le {a b : Int} (ha : in32 a) (hb : in32 b) : iZ a ≤ iZ b ↔ a ≤ b := by
  rw [Int32.le_iff_toInt_le, iZ_toInt ha, iZ_toInt hb]
theorem lZ_inj {a b : Int} (ha : in64 a) (hb : in64 b) : lZ a = lZ b ↔ a = b := by
  rw [← Int64.toInt_inj, lZ_toInt ha, lZ_toInt hb]
theorem lZ_lt {a b : Int} (ha : in64 a) (hb : in64 b) : lZ a < lZ b ↔ a < b := by
  rw [Int64.lt_iff_toInt_lt, lZ_toInt ha, lZ_toInt hb]
theorem iZ_add (a b : Int) : iZ a + iZ b = iZ (a + b) := (Int32.ofInt_add a b).symm
theorem iZ_sub (a b : Int) : iZ a - iZ b = iZ (a - b) := (Int32.ofInt_sub a b).symm
theorem iZ_mul (a b : Int) : iZ a * iZ b = iZ (a * b) := (Int32.ofInt_mul a b).symm
theorem iZ_neg (a : Int) : -iZ a = iZ (-a) := (Int32.ofInt_neg a).symm
theorem lZ_add (a b : Int) : lZ a + lZ b = lZ (a + b) := (Int64.ofInt_add a b).symm
theorem lZ_sub (a b : Int) : lZ a - lZ b = lZ (a - b) := (Int64.ofInt_sub a b).symm
theorem lZ_mul (a b : Int) : lZ a * lZ b = lZ (a * b) := (Int64.ofInt_mul a b).symm
theorem lZ_neg (a : Int) : -lZ a = lZ (-a) := (Int64.ofInt_neg a).symm
theorem iZ_div {a b : Int} (ha : in32 a) (hb : in32 b) : iZ a / iZ b = iZ (a.tdiv b) := by
  rw [← Int32.toInt_inj, Int32.toInt_div, iZ_toInt ha, iZ_toInt hb]
  simp [iZ, Int32.toInt_ofInt]
theorem lZ_div {a b : Int} (ha : in64 a) (hb : in64 b) : lZ a / lZ b = lZ (a.tdiv b) := by
  rw [← Int64.toInt_inj, Int64.toInt_div, lZ_toInt ha, lZ_toInt hb]
  simp [lZ, Int64.toInt_ofInt]
theorem iZ_i2l {a : Int} (ha : in32 a) : (iZ a).toInt64 = lZ a := by
  rw [← Int64.toInt_inj, Int32.toInt_toInt64, iZ_toInt ha, lZ_toInt (by have := ha.1; have := ha.2; constructor <;> omega)]
theorem lZ_l2i (a : Int) : (lZ a).toInt32 = iZ a := by simp [lZ, iZ]
/-! the guards of the pure functions -/
def ckI {α : Type} (z : Int) (k : Int → Option α) : Option α := if -2147483648 ≤ z ∧ z ≤ 2147483647 then k z else none
def ckJ {α : Type} (z : Int) (k : Int → Option α) : Option α := if -9223372036854775808 ≤ z ∧ z ≤ 9223372036854775807 then k z else none
def ckD {α : Type} (b : Int) (k : Option α) : Option α := if b = 0 then none else k
def rdA {α : Type} (μ : qM) (a : Nat) (i n : Int) (k : Int → Option α) : Option α := if 0 ≤ i ∧ i < n then k (gA μ a i.toNat) else none
def rdQ {α : Type} (K : Nat → Nat) (c : Nat) (μ : qM) (a : Nat) (i n : Int) (k : Nat → Option α) : Option α :=
  if 0 ≤ i ∧ i < n then (match gQ μ a i.toNat with | some o => if K o = c then k o else none | none => none) else none
def wrA {α : Type} (μ : qM) (a : Nat) (i n v : Int) (k : qM → Option α) : Option α := if 0 ≤ i ∧ i < n then k (sA μ a i.toNat v) else none
def wrB {α : Type} (μ : qM) (a : Nat) (i n v : Int) (k : qM → Option α) : Option α := if (0 ≤ i ∧ i < n) ∧ -128 ≤ v ∧ v ≤ 127 then k (sA μ a i.toNat v) else none
def wrQ {α : Type} (μ : qM) (a : Nat) (i n : Int) (o : Nat) (k : qM → Option α) : Option α := if 0 ≤ i ∧ i < n then k (sQ μ a i.toNat (some o)) else none
def kp {α β : Type} (v : α) (k : α → Option β) : Option β := k v
def kb {α β : Type} (v : Option α) (k : α → Option β) : Option β := match v with | some x => k x | none => none
theorem ckI_e {α : Type} {z : Int} {k : Int → Option α} {r : α} (h : ckI z k = some r) : ∃ v, v = z ∧ in32 v ∧ k v = some r := by
  unfold ckI at h
  split at h
  · exact ⟨z, rfl, by assumption, h⟩
  · cases h
theorem ckJ_e {α : Type} {z : Int} {k : Int → Option α} {r : α} (h : ckJ z k = some r) : ∃ v, v = z ∧ in64 v ∧ k v = some r := by
  unfold ckJ at h
  split at h
  · exact ⟨z, rfl, by assumption, h⟩
  · cases h
theorem ckD_e {α : Type} {b : Int} {k : Option α} {r : α} (h : ckD b k = some r) : ¬ b = 0 ∧ k = some r := by
  unfold ckD at h
  split at h
  · cases h
  · exact ⟨by assumption, h⟩
theorem rdA_e {α : Type} {μ : qM} {a : Nat} {i n : Int} {k : Int → Option α} {r : α} (h : rdA μ a i n k = some r) : ∃ v, v = gA μ a i.toNat ∧ (0 ≤ i ∧ i < n) ∧ k v = some r := by
  unfold rdA at h
  split at h
  · exact ⟨_, rfl, by assumption, h⟩
  · cases h
theorem rdQ_e {α : Type} {K : Nat → Nat} {c : Nat} {μ : qM} {a : Nat} {i n : Int} {k : Nat → Option α} {r : α} (h : rdQ K c μ a i n k = some r) : ∃ o, gQ μ a i.toNat = some o ∧ (0 ≤ i ∧ i < n) ∧ K o = c ∧ k o = some r := by
  unfold rdQ at h
  split at h
  · split at h
    · rename_i o ho
      split at h
      · exact ⟨o, ho, by assumption, by assumption, h⟩
      · cases h
    · cases h
  · cases h
theorem wrA_e {α : Type} {μ : qM} {a : Nat} {i n v : Int} {k : qM → Option α} {r : α} (h : wrA μ a i n v k = some r) : ∃ m, m = sA μ a i.toNat v ∧ (0 ≤ i ∧ i < n) ∧ k m = some r := by
  unfold wrA at h
  split at h
  · exact ⟨_, rfl, by assumption, h⟩
  · cases h
theorem wrB_e {α : Type} {μ : qM} {a : Nat} {i n v : Int} {k : qM → Option α} {r : α} (h : wrB μ a i n v k = some r) : ∃ m, m = sA μ a i.toNat v ∧ (0 ≤ i ∧ i < n) ∧ (-128 ≤ v ∧ v ≤ 127) ∧ k m = some r := by
  unfold wrB at h
  split at h
  · rename_i hh
    exact ⟨_, rfl, hh.1, hh.2, h⟩
  · cases h
theorem wrQ_e {α : Type} {μ : qM} {a : Nat} {i n : Int} {o : Nat} {k : qM → Option α} {r : α} (h : wrQ μ a i n o k = some r) : ∃ m, m = sQ μ a i.toNat (some o) ∧ (0 ≤ i ∧ i < n) ∧ k m = some r := by
  unfold wrQ at h
  split at h
  · exact ⟨_, rfl, by assumption, h⟩
  · cases h
theorem kp_e {α β : Type} {v : α} {k : α → Option β} {r : β} (h : kp v k = some r) : ∃ x, x = v ∧ k x = some r := ⟨v, rfl, h⟩
theorem kb_e {α β : Type} {v : Option α} {k : α → Option β} {r : β} (h : kb v k = some r) : ∃ x, v = some x ∧ k x = some r := by
  unfold kb at h
  split at h
  · exact ⟨_, rfl, h⟩
  · cases h
theorem ite_t {α : Type} {c : Prop} [Decidable c] {x y r : α} (h : (if c then x else y) = r) (hc : c) : x = r := by rwa [if_pos hc] at h
theorem ite_f {α : Type} {c : Prop} [Decidable c] {x y r : α} (h : (if c then x else y) = r) (hc : ¬ c) : y = r := by rwa [if_neg hc] at h
/-- the order of two longs as an int -/
def sgn (a b : Int) : Int := if a < b then -1 else if a = b then 0 else 1
theorem sgn_in (a b : Int) : in32 (sgn a b) := by unfold sgn; split <;> (try split) <;> decide
theorem sgn_lt (a b : Int) : sgn a b < 0 ↔ a < b := by unfold sgn; split <;> (try split) <;> omega
theorem sgn_eq (a b : Int) : sgn a b = 0 ↔ a = b := by unfold sgn; split <;> (try split) <;> omega
theorem sgn_gt (a b : Int) : 0 < sgn a b ↔ b < a := by unfold sgn; split <;> (try split) <;> omega
theorem lg_cmp_Z {a b : Int} (ha : in64 a) (hb : in64 b) : lg_cmp (lZ a) (lZ b) = iZ (sgn a b) := by
  unfold lg_cmp sgn
  simp only [gt_iff_lt, lZ_lt hb ha, lZ_inj ha hb]
  rcases Int.lt_trichotomy a b with h | h | h
  · rw [if_neg (by omega), if_neg (by omega), if_pos h]; rfl
  · rw [if_neg (by omega), if_pos h, if_neg (by omega), if_pos h]; rfl
  · rw [if_pos h, if_neg (by omega), if_neg (by omega)]; rfl
def iAnd (a b : Int) : Int := (iZ a &&& iZ b).toInt
def iShr (a b : Int) : Int := (iZ a >>> (iZ b &&& 31)).toInt
def iByte (a : Int) : Int := ((iZ a).toInt8.toInt32).toInt
/-! printed by wip/whole/gen_tab.py: for a class of vwCl, by places, what a field is (0 an int, 1 a reference, 2 a long) and its number; what a reference leads to; the boolean fields; the long ones -/
def qF : Nat → List (Nat × Nat)
  | 0 => [(1, 0), (0, 1), (1, 2), (1, 3)]
  | 1 => [(0, 100), (0, 101), (0, 102)]
  | 2 => [(1, 200), (1, 201), (1, 202), (1, 203), (1, 204), (0, 205), (0, 206), (0, 207), (0, 208), (0, 209), (0, 210), (0, 211)]
  | 3 => [(1, 300), (0, 301), (0, 302), (0, 303), (0, 304), (1, 305), (1, 306)]
  | 4 => [(0, 400), (0, 401), (0, 402), (0, 403), (0, 404), (0, 405)]
  | 5 => [(1, 500), (1, 501), (1, 502), (1, 503), (1, 504), (1, 505), (0, 506), (0, 507)]
  | 6 => [(1, 600), (0, 601), (0, 602), (0, 603), (0, 604), (0, 605), (0, 606), (0, 607), (0, 608), (1, 609), (0, 610), (0, 611)]
  | 7 => [(1, 700), (1, 701), (1, 702)]
  | 8 => [(1, 800), (1, 801), (1, 802), (1, 803), (0, 804), (0, 805), (1, 806), (1, 807), (1, 808), (1, 809), (1, 810), (0, 811), (0, 812), (0, 813), (0, 814), (0, 815), (2, 816), (0, 817), (0, 818), (0, 819), (0, 820), (1, 821), (0, 822), (0, 823), (0, 824), (0, 825), (0, 826), (0, 827), (0, 828), (0, 829), (1, 830), (0, 831)]
  | _ => []
def qRefs : List (Nat × Nat × Nat) := [(1, 0, 4060), (1, 2, 1002), (1, 3, 1002), (3, 200, 1), (3, 201, 4), (3, 202, 6), (3, 203, 2), (3, 204, 5), (4, 300, 5060), (4, 305, 1010), (4, 306, 3010), (6, 500, 4068), (6, 501, 1068), (6, 502, 1068), (6, 503, 1068), (6, 504, 1068), (6, 505, 1068), (7, 600, 1500), (7, 609, 1003), (8, 700, 3), (8, 701, 3), (8, 702, 7), (9, 800, 1684), (9, 801, 1684), (9, 802, 3010), (9, 803, 3010), (9, 806, 1070), (9, 807, 1070), (9, 808, 1070), (9, 809, 1070), (9, 810, 1070), (9, 821, 2500), (9, 830, 1650)]
/-- what a field with this number may hold -/
def qrf (f : Nat) (z : Int) : Prop := match Nat.beq f 816 with | true => in64 z | false => match Nat.beq f 207 with | true => in01 z | false => match Nat.beq f 607 with | true => in01 z | false => in32 z
/-! THE LAYOUT of a world: kinds by address (an object of class ci of vwCl: ci + 1; arrays: 1000 + n ints, 2000 + n bytes, 3000 + n longs, 4000 + n orders, 5000 + n rows of ints), where the reference fields lead, the addresses, the tables, the array classes, the string constants and their bytes -/
abbrev qG : Type := (Nat → Nat) × (Nat → Nat → Nat) × List Nat × va_G × (ClassId × ClassId × ClassId × ClassId × ClassId) × (Nat → Nat) × (Nat → Nat)
abbrev gK (G : qG) : Nat → Nat := G.1
abbrev gR (G : qG) : Nat → Nat → Nat := G.2.1
abbrev gL (G : qG) : List Nat := G.2.2.1
abbrev gD (G : qG) : va_G := G.2.2.2.1
abbrev gC (G : qG) : ClassId × ClassId × ClassId × ClassId × ClassId := G.2.2.2.2.1
abbrev gS (G : qG) : Nat → Nat := G.2.2.2.2.2.1
abbrev gV (G : qG) : Nat → Nat := G.2.2.2.2.2.2
def qV (G : qG) (μ : qM) (a : Nat) (q : Nat × Nat) : Value := match q.1 with
  | 0 => .int (iZ (gI μ q.2 a))
  | 1 => .ref (gR G q.2 a)
  | _ => .long (lZ (gI μ q.2 a))
def qE (G : qG) (μ : qM) (a : Nat) : va_E := match gK G a / 1000 with
  | 0 => .inr (gK G a - 1, (qF (gK G a - 1)).map (qV G μ a))
  | 1 => .inl ((gC G).1, gK G a % 1000, .inl (fun i => iZ (gA μ a i)))
  | 2 => .inl ((gC G).2.1, gK G a % 1000, .inl (fun i => iZ (gA μ a i)))
  | 3 => .inl ((gC G).2.2.1, gK G a % 1000, .inr (.inl (fun i => lZ (gA μ a i))))
  | 4 => .inl ((gC G).2.2.2.1, gK G a % 1000, .inr (.inr (.inr (.inr (gQ μ a)))))
  | _ => .inl ((gC G).2.2.2.2, gK G a % 1000, .inr (.inr (.inr (.inr (gQ μ a)))))
def qTys (G : qG) : List (ClassId × FieldType) := [((gC G).1, .int), ((gC G).2.1, .byte), ((gC G).2.2.1, .long), ((gC G).2.2.2.1, .object "ProRataMarket$Order"), ((gC G).2.2.2.2, .array .int)]
/-- what an array of this kind may hold -/
def qra (k : Nat) (z : Int) : Prop := match k / 1000 with
  | 3 => in64 z
  | 2 => -128 ≤ z ∧ z ≤ 127
  | _ => in32 z
def qR (G : qG) (μ : qM) : Prop := (∀ f a, qrf f (gI μ f a)) ∧ ∀ a i, qra (gK G a) (gA μ a i)
/-- references lead where they should, and all that has a kind is an address of the world -/
def qT (G : qG) : Prop := (∀ t ∈ qRefs, ∀ a, gK G a = t.1 → gK G (gR G t.2.1 a) = t.2.2) ∧ ∀ a, gK G a ≠ 0 → a ∈ gL G
def qA (G : qG) (sz : Nat) : Nat → Prop := fun q => q ∈ gL G ∨ sz ≤ q
/-! WHAT ELSE A WORLD'S STATE BEARS, and no walk here changes: the links of the nest, the string constants -/
def qLits : List (Nat × String) := [(114, "buy"), (116, "sell"), (118, "off"), (120, "cut"), (122, "grant"), (124, "least"), (126, "call"), (128, "open"), (130, "rest"), (132, "come"), (134, "both"), (136, "less")]
def qLen : List Nat := [3, 4, 3, 3, 5, 5, 4, 4, 4, 4, 4, 4]
def qByt : List (List Int32) := [[98, 117, 121], [115, 101, 108, 108], [111, 102, 102], [99, 117, 116], [103, 114, 97, 110, 116], [108, 101, 97, 115, 116], [99, 97, 108, 108], [111, 112, 101, 110], [114, 101, 115, 116], [99, 111, 109, 101], [98, 111, 116, 104], [108, 101, 115, 115]]
def qZ (_ : qG) (U : State) : Prop := va_Nw (.methodLinkNest RX0 57 yX7_isBetter "ProRataMarket") U ∧ va_Nw (.methodLinkNest RX2 104 yX7_isBetter "ProRataMarket") U
theorem qZ.keep {G : qG} {s U : State} (h : qZ G s) (hW : s.WarmedH U.vm) (_ : ∀ q, q < s.heap.size → q ∉ gL G → U.heap[q]? = s.heap[q]?) : qZ G U :=
  ⟨va_Nw.warmM hW h.1, va_Nw.warmM hW h.2⟩
theorem qZ.same {G : qG} {u U : State} (h : qZ G u) (hv : U.vm = u.vm) (_ : U.heap = u.heap) : qZ G U :=
  ⟨va_Nw.same rfl hv.symm h.1, va_Nw.same rfl hv.symm h.2⟩
def qW (G : qG) (μ : qM) (H : Heap) : Prop := va_P (gD G) vwCl (va_pl (gL G) (qE G μ)) H ∧ va_D (fun _ => True) (va_pl (gL G) (qE G μ))
def qWs (G : qG) (μ : qM) (U : State) : Prop := qW G μ U.heap ∧ va_K (gD G) vwCl (qTys G) U ∧ qR G μ ∧ qZ G U
theorem qT.r {G : qG} (h : qT G) {c f k a : Nat} (ht : (c, f, k) ∈ qRefs) (ha : gK G a = c) : gK G (gR G f a) = k := h.1 (c, f, k) ht a ha
theorem qT.l {G : qG} (h : qT G) {a c : Nat} (ha : gK G a = c) (hc : c ≠ 0) : a ∈ gL G := h.2 a (by rw [ha]; exact hc)
theorem va_pl_D {A : Nat → Prop} {L : List Nat} {f g : Nat → va_E} (h : va_D A (va_pl L f)) : va_D A (va_pl L g) := by
  have hm : ∀ (k : Nat) (q : Nat × va_E), (va_pl L g)[k]? = some q → (va_pl L f)[k]? = some (q.1, f q.1) := by
    intro k q hk
    unfold va_pl at hk ⊢
    rw [List.getElem?_map] at hk ⊢
    cases hL : L[k]? with
    | none => rw [hL] at hk; cases hk
    | some a => rw [hL] at hk; cases hk; rfl
  exact ⟨fun i j p q hp hq e => h.1 i j _ _ (hm i p hp) (hm j q hq) e, fun k q hq => by have z := h.2 k (q.1, f q.1) (hm k q hq); exact z⟩
theorem va_pl_in {A : Nat → Prop} {L : List Nat} {f : Nat → va_E} (h : va_D (fun _ => True) (va_pl L f)) (hA : ∀ a ∈ L, A a) : va_D A (va_pl L f) := by
  refine ⟨h.1, fun k q hq => ?_⟩
  unfold va_pl at hq
  rw [List.getElem?_map] at hq
  cases hL : L[k]? with
  | none => rw [hL] at hq; cases hq
  | some a => rw [hL] at hq; cases hq; exact hA _ (List.mem_of_getElem? hL)
theorem qg_at {G : qG} {μ : qM} {a : Nat} (h : a ∈ gL G) : ∃ k : Nat, (va_pl (gL G) (qE G μ))[k]? = some (a, qE G μ a) := by
  obtain ⟨k, hk⟩ := va_pl_get (X := []) (f := qE G μ) h
  exact ⟨k, hk⟩
theorem qE_obj {G : qG} {μ : qM} {a ci : Nat} (h : gK G a = ci + 1) (hc : ci < 9) : qE G μ a = .inr (ci, (qF ci).map (qV G μ a)) := by
  have h0 : gK G a / 1000 = 0 := by omega
  have h1 : gK G a - 1 = ci := by omega
  unfold qE
  rw [h0, h1]
  rfl
theorem qE_int {G : qG} {μ : qM} {a n : Nat} (h : gK G a = 1000 + n) (hn : n < 1000) : qE G μ a = .inl ((gC G).1, n, .inl (fun i => iZ (gA μ a i))) := by
  have h0 : gK G a / 1000 = 1 := by omega
  have h1 : gK G a % 1000 = n := by omega
  unfold qE
  rw [h0, h1]
  rfl
theorem qE_byte {G : qG} {μ : qM} {a n : Nat} (h : gK G a = 2000 + n) (hn : n < 1000) : qE G μ a = .inl ((gC G).2.1, n, .inl (fun i => iZ (gA μ a i))) := by
  have h0 : gK G a / 1000 = 2 := by omega
  have h1 : gK G a % 1000 = n := by omega
  unfold qE
  rw [h0, h1]
  rfl
theorem qE_long {G : qG} {μ : qM} {a n : Nat} (h : gK G a = 3000 + n) (hn : n < 1000) : qE G μ a = .inl ((gC G).2.2.1, n, .inr (.inl (fun i => lZ (gA μ a i)))) := by
  have h0 : gK G a / 1000 = 3 := by omega
  have h1 : gK G a % 1000 = n := by omega
  unfold qE
  rw [h0, h1]
  rfl
theorem qE_ord {G : qG} {μ : qM} {a n : Nat} (h : gK G a = 4000 + n) (hn : n < 1000) : qE G μ a = .inl ((gC G).2.2.2.1, n, .inr (.inr (.inr (.inr (gQ μ a))))) := by
  have h0 : gK G a / 1000 = 4 := by omega
  have h1 : gK G a % 1000 = n := by omega
  unfold qE
  rw [h0, h1]
  rfl
theorem qE_row {G : qG} {μ : qM} {a n : Nat} (h : gK G a = 5000 + n) (hn : n < 1000) : qE G μ a = .inl ((gC G).2.2.2.2, n, .inr (.inr (.inr (.inr (gQ μ a))))) := by
  have h0 : gK G a / 1000 = 5 := by omega
  have h1 : gK G a % 1000 = n := by omega
  unfold qE
  rw [h0, h1]
  rfl
/-! what a write changes -/
theorem gI_sI {μ : qM} {f a : Nat} {v : Int} {g b : Nat} : gI (sI μ f a v) g b = if g = f ∧ b = a then v else gI μ g b := rfl
theorem gA_sI {μ : qM} {f a : Nat} {v : Int} {b j : Nat} : gA (sI μ f a v) b j = gA μ b j := rfl
theorem gQ_sI {μ : qM} {f a : Nat} {v : Int} {b j : Nat} : gQ (sI μ f a v) b j = gQ μ b j := rfl
theorem gI_sA {μ : qM} {a i : Nat} {v : Int} {g b : Nat} : gI (sA μ a i v) g b = gI μ g b := rfl
theorem gA_sA {μ : qM} {a i : Nat} {v : Int} {b j : Nat} : gA (sA μ a i v) b j = if b = a ∧ j = i then v else gA μ b j := rfl
theorem gQ_sA {μ : qM} {a i : Nat} {v : Int} {b j : Nat} : gQ (sA μ a i v) b j = gQ μ b j := rfl
theorem gI_sQ {μ : qM} {a i : Nat} {v : Option Nat} {g b : Nat} : gI (sQ μ a i v) g b = gI μ g b := rfl
theorem gA_sQ {μ : qM} {a i : Nat} {v : Option Nat} {b j : Nat} : gA (sQ μ a i v) b j = gA μ b j := rfl
theorem gQ_sQ {μ : qM} {a i : Nat} {v : Option Nat} {b j : Nat} : gQ (sQ μ a i v) b j = if b = a ∧ j = i then v else gQ μ b j := rfl
theorem qE_congr {G : qG} {μ ν : qM} {b : Nat} (hI : ∀ g, gI μ g b = gI ν g b) (hA : ∀ j, gA μ b j = gA ν b j) (hQ : ∀ j, gQ μ b j = gQ ν b j) : qE G μ b = qE G ν b := by
  have hV : qV G μ b = qV G ν b := by
    funext q
    unfold qV
    rw [hI]
  have hq : gQ μ b = gQ ν b := funext hQ
  have ha : gA μ b = gA ν b := funext hA
  unfold qE
  rw [hV, hq, ha]
theorem qE_up {G : qG} {μ ν : qM} {a : Nat} {e : va_E} (he : e = qE G ν a) (ho : ∀ b, b ≠ a → qE G μ b = qE G ν b) : ∀ b, va_up (qE G μ) a e b = qE G ν b := by
  intro b
  by_cases h : b = a
  · subst h
    simp [va_up, he]
  · simp [va_up, h, ho b h]
theorem qF_nd : ∀ ci, ci < 9 → ((qF ci).map Prod.snd).Nodup := by decide +kernel
theorem qV_set {G : qG} {μ : qM} {a fid k : Nat} {v : Int} {t : Nat} {w : Value} {l : List (Nat × Nat)} (hn : (l.map Prod.snd).Nodup) (hk : l[k]? = some (t, fid)) (hw : w = qV G (sI μ fid a v) a (t, fid)) : (l.map (qV G μ a)).set k w = l.map (qV G (sI μ fid a v) a) := by
  apply List.ext_getElem?
  intro j
  rw [List.getElem?_set, List.getElem?_map, List.getElem?_map]
  by_cases hj : k = j
  · subst hj
    have hl : k < l.length := (List.getElem?_eq_some_iff.mp hk).1
    simp only [if_true, hk, Option.map_some, hw]
    rw [if_pos (by simpa using hl)]
  · rw [if_neg hj]
    cases hq : l[j]? with
    | none => rfl
    | some q =>
      have hne : q.2 ≠ fid := by
        intro e
        apply hj
        have h1 : (l.map Prod.snd)[k]? = some fid := by rw [List.getElem?_map, hk]; rfl
        have h2 : (l.map Prod.snd)[j]? = some fid := by rw [List.getElem?_map, hq, ← e]; rfl
        exact (List.getElem?_inj (List.getElem?_eq_some_iff.mp h1).1 hn).mp (h1.trans h2.symm)
      simp only [Option.map_some]
      congr 1
      unfold qV
      rw [gI_sI, if_neg (fun h => hne h.1)]
theorem qR_sI {G : qG} {μ : qM} {f a : Nat} {v : Int} (h : qR G μ) (hv : qrf f v) : qR G (sI μ f a v) := by
  refine ⟨fun g b => ?_, h.2⟩
  rw [gI_sI]
  split
  · rename_i e
    rw [e.1]; exact hv
  · exact h.1 g b
theorem qR_sA {G : qG} {μ : qM} {a i : Nat} {v : Int} (h : qR G μ) (hv : qra (gK G a) v) : qR G (sA μ a i v) := by
  refine ⟨h.1, fun b j => ?_⟩
  rw [gA_sA]
  split
  · rename_i e
    rw [e.1]; exact hv
  · exact h.2 b j
theorem qR_sQ {G : qG} {μ : qM} {a i : Nat} {v : Option Nat} (h : qR G μ) : qR G (sQ μ a i v) := ⟨h.1, h.2⟩
theorem qR.i {G : qG} {μ : qM} (h : qR G μ) (f a : Nat) (hf : qrf f = in32) : in32 (gI μ f a) := by have := h.1 f a; rw [hf] at this; exact this
theorem qR.a {G : qG} {μ : qM} (h : qR G μ) {a n : Nat} (i : Nat) (ha : gK G a = 1000 + n) (hn : n < 1000) : in32 (gA μ a i) := by
  have h1 := h.2 a i
  unfold qra at h1
  rw [show gK G a / 1000 = 1 by omega] at h1
  exact h1
theorem qR.b {G : qG} {μ : qM} (h : qR G μ) {a n : Nat} (i : Nat) (ha : gK G a = 2000 + n) (hn : n < 1000) : in32 (gA μ a i) := by
  have h1 := h.2 a i
  unfold qra at h1
  rw [show gK G a / 1000 = 2 by omega] at h1
  have h2 : -128 ≤ gA μ a i ∧ gA μ a i ≤ 127 := h1
  exact ⟨by omega, by omega⟩
theorem qR.j {G : qG} {μ : qM} (h : qR G μ) {a n : Nat} (i : Nat) (ha : gK G a = 3000 + n) (hn : n < 1000) : in64 (gA μ a i) := by
  have h1 := h.2 a i
  unfold qra at h1
  rw [show gK G a / 1000 = 3 by omega] at h1
  exact h1
/-! THE WALK: what is fixed in it, and its state -/
abbrev qB : Type := Program × Launch × Env × Room × State × MethodId × Array Value × List Frame × Method × Code × qG × Option Value × Prop × qM
abbrev xp (X : qB) : Program := X.1
abbrev xl (X : qB) : Launch := X.2.1
abbrev xe (X : qB) : Env := X.2.2.1
abbrev xR (X : qB) : Room := X.2.2.2.1
abbrev xs (X : qB) : State := X.2.2.2.2.1
abbrev xm (X : qB) : MethodId := X.2.2.2.2.2.1
abbrev xa (X : qB) : Array Value := X.2.2.2.2.2.2.1
abbrev xb (X : qB) : List Frame := X.2.2.2.2.2.2.2.1
abbrev xt (X : qB) : Method := X.2.2.2.2.2.2.2.2.1
abbrev xc (X : qB) : Code := X.2.2.2.2.2.2.2.2.2.1
abbrev xG (X : qB) : qG := X.2.2.2.2.2.2.2.2.2.2.1
abbrev xr (X : qB) : Option Value := X.2.2.2.2.2.2.2.2.2.2.2.1
abbrev xΦ (X : qB) : Prop := X.2.2.2.2.2.2.2.2.2.2.2.2.1
abbrev xμ (X : qB) : qM := X.2.2.2.2.2.2.2.2.2.2.2.2.2
def qPost (G : qG) (rv : Option Value) (Φ : Prop) (μ : qM) (sz : Nat) : Array Value → State → Outcome → State → Prop := fun _ st oc t => (oc = .returned rv ∧ Φ ∧ qWs G μ t) ∧ va_F (qA G sz) st t
def qOk (X : qB) (cc : ByteArray) (own : String) (nL : Nat) (ret : Option FieldType) (Ts : List Cond) (fr lo : Nat) : Prop :=
  (xp X).tables.exec = Jvm.exec ∧ (xc X).code = cc ∧ (xc X).maxLocals = nL ∧ (xs X).vm.findClass own = some (xm X).cls ∧ (∀ w ∈ Ts, w.before (xa X) (xs X) = true) ∧ (xt X).locks = false ∧ (xt X).sig.returnType = ret ∧ fr = (xR X).frames ∧ lo = (xR X).locals ∧ va_K (gD (xG X)) vwCl (qTys (xG X)) (xs X) ∧ qT (xG X) ∧ qZ (xG X) (xs X)
theorem qOk.K {X : qB} {cc : ByteArray} {own : String} {nL : Nat} {ret : Option FieldType} {Ts : List Cond} {fr lo : Nat} (h : qOk X cc own nL ret Ts fr lo) : va_K (gD (xG X)) vwCl (qTys (xG X)) (xs X) := h.2.2.2.2.2.2.2.2.2.1
theorem qOk.T {X : qB} {cc : ByteArray} {own : String} {nL : Nat} {ret : Option FieldType} {Ts : List Cond} {fr lo : Nat} (h : qOk X cc own nL ret Ts fr lo) : qT (xG X) := h.2.2.2.2.2.2.2.2.2.2.1
theorem qOk.Z {X : qB} {cc : ByteArray} {own : String} {nL : Nat} {ret : Option FieldType} {Ts : List Cond} {fr lo : Nat} (h : qOk X cc own nL ret Ts fr lo) : qZ (xG X) (xs X) := h.2.2.2.2.2.2.2.2.2.2.2
/-- what else the state bears, at a later state of the walk -/
theorem qZ.on {G : qG} {s U : State} {H : Heap} {locs : List Loc} (h : qZ G s) (hS : va_S (qA G s.heap.size) s.heap H locs) (hU : U.heap = H) (hW : s.WarmedH U.vm) : qZ G U :=
  h.keep hW (fun q h1 h2 => by rw [hU]; exact hS.2.1 q h1 (fun e => e.elim h2 (fun e => absurd h1 (Nat.not_lt.mpr e))))
def qN (X : qB) (nL : Nat) (pc : Nat) (ls : List (Nat × Value)) (st : List Value) (μ : qM) : Prop :=
  ∀ (H : Heap) (locs : List Loc) (la : Array Slot), lv_has la nL ls → qW (xG X) μ H → va_S (qA (xG X) (xs X).heap.size) (xs X).heap H locs → qR (xG X) μ →
    W (xp X) (xl X) (xe X) (xR X) (xs X) (xm X) (xa X) (xb X) (xt X) (xc X) H locs 0 0 (MQ (xb X) (qPost (xG X) (xr X) (xΦ X) (xμ X) (xs X).heap.size) (xa X) (xs X) 0 0 (qA (xG X) (xs X).heap.size)) (F0 (xm X) pc la st)
/-- a method's contract: from memory μ, with arguments av, it returns rv, Φ holds, memory is ν -/
def qC (l : Launch) (y : MethodName) (ws : List Cond) (fr lo : Nat) (G : qG) (av : List Value) (μ : qM) (rv : Option Value) (Φ : Prop) (ν : qM) : Prop :=
  ∀ sz : Nat, Met l y ws { frames := fr, cells := 0, slots := 0, locals := lo } (va_Pc av (fun U => U.heap.size = sz ∧ qWs G μ U)) (qPost G rv Φ ν sz) 0 0 (qA G sz)
theorem qn_start {l : Launch} {y : MethodName} {ws ws' : List Cond} {fr lo nL : Nat} {G : qG} {av : List Value} {μ ν : qM} {rv : Option Value} {Φ : Prop} {cc : ByteArray} {ret : Option FieldType} (hT : qT G)
    (hy : plainName y.cls = true) (hw : ws = Cond.code y cc nL ret :: ws') (hn : (lg_sl av).length ≤ nL)
    (k : ∀ X : qB, xr X = rv → xΦ X = Φ → xμ X = ν → xG X = G → qOk X cc y.cls nL ret ws fr lo → qR G μ → qN X nL 0 (lv_args 0 av) [] μ) : qC l y ws fr lo G av μ rv Φ ν := by
  intro sz
  refine Met.ofW (cc := cc) (maxL := nL) (ret := ret) hy hw ?_
  intro p e s m args below meth c s₁ B hml hv
  obtain ⟨rfl, hsz, hW, hK, hR, hZ⟩ := hv
  have hl := lv_entry av (n := nL) hn
  rw [lg_entry_eq]
  subst hsz
  exact k (p, l, e, _, s, m, _, below, meth, c, G, rv, Φ, ν) rfl rfl rfl rfl
    ⟨B.exec, B.bytes, hml, findClass_of_methodNamed B.named, atoms_spec (ws := ws) B.pre, B.notSynchronized, B.returns, rfl, rfl, hK, hT, hZ⟩ hR _ _ _ hl hW va_S.rf hR
section QN
variable {X : qB} {cc : ByteArray} {own : String} {nL : Nat} {ret : Option FieldType} {Ts : List Cond} {fr lo : Nat} {pc : Nat} {ls ls' : List (Nat × Value)} {st : List Value} {μ : qM}
theorem qn_iconst (hX : qOk X cc own nL ret Ts fr lo) {n : Int} (hd : decode cc pc = .ok (.iconst n, 1)) (k : qN X nL (pc + 1) ls (.int (iZ n) :: st) μ) : qN X nL pc ls st μ :=
  fun H locs la hl hW hS hR => lv_iconst hX.1 hX.2.1 hd rfl (k H locs la hl hW hS hR)
theorem qn_bipush (hX : qOk X cc own nL ret Ts fr lo) {n : Int} (hd : decode cc pc = .ok (.bipush n, 2)) (hv : (Int8.ofInt n).toInt32 = iZ n) (k : qN X nL (pc + 2) ls (.int (iZ n) :: st) μ) : qN X nL pc ls st μ :=
  fun H locs la hl hW hS hR => lv_bipush hX.1 hX.2.1 hd hv (k H locs la hl hW hS hR)
theorem qn_sipush (hX : qOk X cc own nL ret Ts fr lo) {n : Int} (hd : decode cc pc = .ok (.sipush n, 3)) (hv : (Int16.ofInt n).toInt32 = iZ n) (k : qN X nL (pc + 3) ls (.int (iZ n) :: st) μ) : qN X nL pc ls st μ :=
  fun H locs la hl hW hS hR => lv_sipush hX.1 hX.2.1 hd hv (k H locs la hl hW hS hR)
theorem qn_ldc (hX : qOk X cc own nL ret Ts fr lo) {n : Nat} (z : Int) {v : Int32} (hd : decode cc pc = .ok (.ldc n, 2)) (hc : Cond.constant own n v ∈ Ts) (hv : v = iZ z) (k : qN X nL (pc + 2) ls (.int (iZ z) :: st) μ) : qN X nL pc ls st μ :=
  fun H locs la hl hW hS hR => lv_ldc hX.1 hX.2.1 hX.2.2.2.1 (hX.2.2.2.2.1 _ hc) hd (by rw [hv]; exact k H locs la hl hW hS hR)
theorem qn_ldcw (hX : qOk X cc own nL ret Ts fr lo) {n : Nat} (z : Int) {v : Int32} (hd : decode cc pc = .ok (.ldc_w n, 3)) (hc : Cond.constant own n v ∈ Ts) (hv : v = iZ z) (k : qN X nL (pc + 3) ls (.int (iZ z) :: st) μ) : qN X nL pc ls st μ :=
  fun H locs la hl hW hS hR => lv_ldcw hX.1 hX.2.1 hX.2.2.2.1 (hX.2.2.2.2.1 _ hc) hd (by rw [hv]; exact k H locs la hl hW hS hR)
theorem qn_ldc2 (hX : qOk X cc own nL ret Ts fr lo) {n : Nat} (z : Int) {v : Int64} (hd : decode cc pc = .ok (.ldc2_w n, 3)) (hc : Cond.constantLong own n v ∈ Ts) (hv : v = lZ z) (k : qN X nL (pc + 3) ls (.long (lZ z) :: st) μ) : qN X nL pc ls st μ :=
  fun H locs la hl hW hS hR => lv_ldc2 hX.1 hX.2.1 hX.2.2.2.1 (hX.2.2.2.2.1 _ hc) hd (by rw [hv]; exact k H locs la hl hW hS hR)
theorem qn_lconst (hX : qOk X cc own nL ret Ts fr lo) {n : Fin 2} (z : Int) (hd : decode cc pc = .ok (.lconst n, 1)) (hv : Int64.ofNat (n : Nat) = lZ z) (k : qN X nL (pc + 1) ls (.long (lZ z) :: st) μ) : qN X nL pc ls st μ :=
  fun H locs la hl hW hS hR => lv_lconst hX.1 hX.2.1 hd hv (k H locs la hl hW hS hR)
theorem qn_iload_n (hX : qOk X cc own nL ret Ts fr lo) {n : Fin 4} {i : Nat} {x : Int32} (hd : decode cc pc = .ok (.iload_n n, 1)) (j : Nat) (hl : ls[j]? = some (i, .int x)) (hi : (n : Nat) = i) (k : qN X nL (pc + 1) ls (.int x :: st) μ) : qN X nL pc ls st μ :=
  fun H locs la hh hW hS hR => lv_iload_n hX.1 hX.2.1 hd hi (lv_at hh j hl) (k H locs la hh hW hS hR)
theorem qn_iload (hX : qOk X cc own nL ret Ts fr lo) {i : Nat} {x : Int32} (hd : decode cc pc = .ok (.iload i, 2)) (j : Nat) (hl : ls[j]? = some (i, .int x)) (k : qN X nL (pc + 2) ls (.int x :: st) μ) : qN X nL pc ls st μ :=
  fun H locs la hh hW hS hR => lv_iload hX.1 hX.2.1 hd (lv_at hh j hl) (k H locs la hh hW hS hR)
theorem qn_lload_n (hX : qOk X cc own nL ret Ts fr lo) {n : Fin 4} {i : Nat} {x : Int64} (hd : decode cc pc = .ok (.lload_n n, 1)) (j : Nat) (hl : ls[j]? = some (i, .long x)) (hi : (n : Nat) = i) (k : qN X nL (pc + 1) ls (.long x :: st) μ) : qN X nL pc ls st μ :=
  fun H locs la hh hW hS hR => lv_lload_n hX.1 hX.2.1 hd hi (lv_at hh j hl) (k H locs la hh hW hS hR)
theorem qn_lload (hX : qOk X cc own nL ret Ts fr lo) {i : Nat} {x : Int64} (hd : decode cc pc = .ok (.lload i, 2)) (j : Nat) (hl : ls[j]? = some (i, .long x)) (k : qN X nL (pc + 2) ls (.long x :: st) μ) : qN X nL pc ls st μ :=
  fun H locs la hh hW hS hR => lv_lload hX.1 hX.2.1 hd (lv_at hh j hl) (k H locs la hh hW hS hR)
theorem qn_aload_n (hX : qOk X cc own nL ret Ts fr lo) {n : Fin 4} {i x : Nat} (hd : decode cc pc = .ok (.aload_n n, 1)) (j : Nat) (hl : ls[j]? = some (i, .ref x)) (hi : (n : Nat) = i) (k : qN X nL (pc + 1) ls (.ref x :: st) μ) : qN X nL pc ls st μ :=
  fun H locs la hh hW hS hR => lv_aload_n hX.1 hX.2.1 hd hi (lv_at hh j hl) (k H locs la hh hW hS hR)
theorem qn_aload (hX : qOk X cc own nL ret Ts fr lo) {i x : Nat} (hd : decode cc pc = .ok (.aload i, 2)) (j : Nat) (hl : ls[j]? = some (i, .ref x)) (k : qN X nL (pc + 2) ls (.ref x :: st) μ) : qN X nL pc ls st μ :=
  fun H locs la hh hW hS hR => lv_aload hX.1 hX.2.1 hd (lv_at hh j hl) (k H locs la hh hW hS hR)
theorem qn_aload_nN (hX : qOk X cc own nL ret Ts fr lo) {n : Fin 4} {i : Nat} (hd : decode cc pc = .ok (.aload_n n, 1)) (j : Nat) (hl : ls[j]? = some (i, .null)) (hi : (n : Nat) = i) (k : qN X nL (pc + 1) ls (.null :: st) μ) : qN X nL pc ls st μ :=
  fun H locs la hh hW hS hR => lv_aload_nN hX.1 hX.2.1 hd hi (lv_at hh j hl) (k H locs la hh hW hS hR)
theorem qn_aloadN (hX : qOk X cc own nL ret Ts fr lo) {i : Nat} (hd : decode cc pc = .ok (.aload i, 2)) (j : Nat) (hl : ls[j]? = some (i, .null)) (k : qN X nL (pc + 2) ls (.null :: st) μ) : qN X nL pc ls st μ :=
  fun H locs la hh hW hS hR => lv_aloadN hX.1 hX.2.1 hd (lv_at hh j hl) (k H locs la hh hW hS hR)
theorem qn_istore_n (hX : qOk X cc own nL ret Ts fr lo) {n : Fin 4} {i : Nat} {x : Int32} (hd : decode cc pc = .ok (.istore_n n, 1)) (hi : (n : Nat) = i) (hn : Nat.ble (i + 1) nL = true) (hq : (i, Value.int x) :: ls.filter (fun q => !(q.1 == i) && !(q.1 + 1 == i && q.2.category == 2)) = ls') (k : qN X nL (pc + 1) ls' st μ) : qN X nL pc ls (.int x :: st) μ :=
  fun H locs la hh hW hS hR => lv_istore_n hX.1 hX.2.1 hd hi hh (Nat.le_of_ble_eq_true hn) hq (fun la' hl => k H locs la' hl hW hS hR)
theorem qn_istore (hX : qOk X cc own nL ret Ts fr lo) {i : Nat} {x : Int32} (hd : decode cc pc = .ok (.istore i, 2)) (hn : Nat.ble (i + 1) nL = true) (hq : (i, Value.int x) :: ls.filter (fun q => !(q.1 == i) && !(q.1 + 1 == i && q.2.category == 2)) = ls') (k : qN X nL (pc + 2) ls' st μ) : qN X nL pc ls (.int x :: st) μ :=
  fun H locs la hh hW hS hR => lv_istore hX.1 hX.2.1 hd hh (Nat.le_of_ble_eq_true hn) hq (fun la' hl => k H locs la' hl hW hS hR)
theorem qn_astore_n (hX : qOk X cc own nL ret Ts fr lo) {n : Fin 4} {i x : Nat} (hd : decode cc pc = .ok (.astore_n n, 1)) (hi : (n : Nat) = i) (hn : Nat.ble (i + 1) nL = true) (hq : (i, Value.ref x) :: ls.filter (fun q => !(q.1 == i) && !(q.1 + 1 == i && q.2.category == 2)) = ls') (k : qN X nL (pc + 1) ls' st μ) : qN X nL pc ls (.ref x :: st) μ :=
  fun H locs la hh hW hS hR => lv_astore_n hX.1 hX.2.1 hd hi hh (Nat.le_of_ble_eq_true hn) hq (fun la' hl => k H locs la' hl hW hS hR)
theorem qn_astore (hX : qOk X cc own nL ret Ts fr lo) {i x : Nat} (hd : decode cc pc = .ok (.astore i, 2)) (hn : Nat.ble (i + 1) nL = true) (hq : (i, Value.ref x) :: ls.filter (fun q => !(q.1 == i) && !(q.1 + 1 == i && q.2.category == 2)) = ls') (k : qN X nL (pc + 2) ls' st μ) : qN X nL pc ls (.ref x :: st) μ :=
  fun H locs la hh hW hS hR => lv_astore hX.1 hX.2.1 hd hh (Nat.le_of_ble_eq_true hn) hq (fun la' hl => k H locs la' hl hW hS hR)
theorem qn_astore_nN (hX : qOk X cc own nL ret Ts fr lo) {n : Fin 4} {i : Nat} (hd : decode cc pc = .ok (.astore_n n, 1)) (hi : (n : Nat) = i) (hn : Nat.ble (i + 1) nL = true) (hq : (i, Value.null) :: ls.filter (fun q => !(q.1 == i) && !(q.1 + 1 == i && q.2.category == 2)) = ls') (k : qN X nL (pc + 1) ls' st μ) : qN X nL pc ls (.null :: st) μ :=
  fun H locs la hh hW hS hR => lv_astore_nN hX.1 hX.2.1 hd hi hh (Nat.le_of_ble_eq_true hn) hq (fun la' hl => k H locs la' hl hW hS hR)
theorem qn_astoreN (hX : qOk X cc own nL ret Ts fr lo) {i : Nat} (hd : decode cc pc = .ok (.astore i, 2)) (hn : Nat.ble (i + 1) nL = true) (hq : (i, Value.null) :: ls.filter (fun q => !(q.1 == i) && !(q.1 + 1 == i && q.2.category == 2)) = ls') (k : qN X nL (pc + 2) ls' st μ) : qN X nL pc ls (.null :: st) μ :=
  fun H locs la hh hW hS hR => lv_astoreN hX.1 hX.2.1 hd hh (Nat.le_of_ble_eq_true hn) hq (fun la' hl => k H locs la' hl hW hS hR)
theorem qn_lstore_n (hX : qOk X cc own nL ret Ts fr lo) {n : Fin 4} {i : Nat} {x : Int64} (hd : decode cc pc = .ok (.lstore_n n, 1)) (hi : (n : Nat) = i) (hn : Nat.ble (i + 2) nL = true) (hq : (i, Value.long x) :: ls.filter (fun q => !(q.1 == i) && (!(q.1 == i + 1) && !(q.1 + 1 == i && q.2.category == 2))) = ls') (k : qN X nL (pc + 1) ls' st μ) : qN X nL pc ls (.long x :: st) μ :=
  fun H locs la hh hW hS hR => lv_lstore_n hX.1 hX.2.1 hd hi hh (Nat.le_of_ble_eq_true hn) hq (fun la' hl => k H locs la' hl hW hS hR)
theorem qn_lstore (hX : qOk X cc own nL ret Ts fr lo) {i : Nat} {x : Int64} (hd : decode cc pc = .ok (.lstore i, 2)) (hn : Nat.ble (i + 2) nL = true) (hq : (i, Value.long x) :: ls.filter (fun q => !(q.1 == i) && (!(q.1 == i + 1) && !(q.1 + 1 == i && q.2.category == 2))) = ls') (k : qN X nL (pc + 2) ls' st μ) : qN X nL pc ls (.long x :: st) μ :=
  fun H locs la hh hW hS hR => lv_lstore hX.1 hX.2.1 hd hh (Nat.le_of_ble_eq_true hn) hq (fun la' hl => k H locs la' hl hW hS hR)
theorem qn_iinc (hX : qOk X cc own nL ret Ts fr lo) {i : Nat} {n x v : Int} (hd : decode cc pc = .ok (.iinc i n, 3)) (j : Nat) (hl : ls[j]? = some (i, .int (iZ x))) (hv : v = x + n) (hn : Nat.ble (i + 1) nL = true) (hq : (i, Value.int (iZ v)) :: ls.filter (fun q => !(q.1 == i) && !(q.1 + 1 == i && q.2.category == 2)) = ls') (k : qN X nL (pc + 3) ls' st μ) : qN X nL pc ls st μ :=
  fun H locs la hh hW hS hR => lv_iinc hX.1 hX.2.1 hd hh hl (by rw [hv]; exact iZ_add x n) (Nat.le_of_ble_eq_true hn) hq (fun la' hl => k H locs la' hl hW hS hR)
theorem qn_iadd (hX : qOk X cc own nL ret Ts fr lo) {a b v : Int} (hd : decode cc pc = .ok (.iadd, 1)) (hv : v = a + b) (k : qN X nL (pc + 1) ls (.int (iZ v) :: st) μ) : qN X nL pc ls (.int (iZ b) :: .int (iZ a) :: st) μ :=
  fun H locs la hh hW hS hR => lv_iadd hX.1 hX.2.1 hd (by rw [iZ_add, ← hv]; exact k H locs la hh hW hS hR)
theorem qn_isub (hX : qOk X cc own nL ret Ts fr lo) {a b v : Int} (hd : decode cc pc = .ok (.isub, 1)) (hv : v = a - b) (k : qN X nL (pc + 1) ls (.int (iZ v) :: st) μ) : qN X nL pc ls (.int (iZ b) :: .int (iZ a) :: st) μ :=
  fun H locs la hh hW hS hR => lv_isub hX.1 hX.2.1 hd (by rw [iZ_sub, ← hv]; exact k H locs la hh hW hS hR)
theorem qn_imul (hX : qOk X cc own nL ret Ts fr lo) {a b v : Int} (hd : decode cc pc = .ok (.imul, 1)) (hv : v = a * b) (k : qN X nL (pc + 1) ls (.int (iZ v) :: st) μ) : qN X nL pc ls (.int (iZ b) :: .int (iZ a) :: st) μ :=
  fun H locs la hh hW hS hR => lv_imul hX.1 hX.2.1 hd (by rw [iZ_mul, ← hv]; exact k H locs la hh hW hS hR)
theorem qn_ineg (hX : qOk X cc own nL ret Ts fr lo) {a v : Int} (hd : decode cc pc = .ok (.ineg, 1)) (hv : v = -a) (k : qN X nL (pc + 1) ls (.int (iZ v) :: st) μ) : qN X nL pc ls (.int (iZ a) :: st) μ :=
  fun H locs la hh hW hS hR => lv_ineg hX.1 hX.2.1 hd (by have h := iZ_neg a; rw [← hv] at h; first | (rw [h]; exact k H locs la hh hW hS hR) | (have h2 : (0 : Int32) - iZ a = iZ v := by (rw [← h]; simp); rw [h2]; exact k H locs la hh hW hS hR))
theorem qn_idiv (hX : qOk X cc own nL ret Ts fr lo) {a b v : Int} (ra : in32 a) (rb : in32 b) (h0 : ¬ b = 0) (hd : decode cc pc = .ok (.idiv, 1)) (hv : v = a.tdiv b) (k : qN X nL (pc + 1) ls (.int (iZ v) :: st) μ) : qN X nL pc ls (.int (iZ b) :: .int (iZ a) :: st) μ :=
  fun H locs la hh hW hS hR => lv_idiv hX.1 hX.2.1 hd (fun e => h0 ((iZ_inj rb (by decide)).mp e)) (by rw [iZ_div ra rb, ← hv]; exact k H locs la hh hW hS hR)
theorem qn_irem (hX : qOk X cc own nL ret Ts fr lo) {a b v : Int} (ra : in32 a) (rb : in32 b) (h0 : ¬ b = 0) (hd : decode cc pc = .ok (.irem, 1)) (hv : v = a - a.tdiv b * b) (k : qN X nL (pc + 1) ls (.int (iZ v) :: st) μ) : qN X nL pc ls (.int (iZ b) :: .int (iZ a) :: st) μ :=
  fun H locs la hh hW hS hR => lv_irem hX.1 hX.2.1 hd (fun e => h0 ((iZ_inj rb (by decide)).mp e)) (by rw [iZ_div ra rb, iZ_mul, iZ_sub, ← hv]; exact k H locs la hh hW hS hR)
theorem qn_iand (hX : qOk X cc own nL ret Ts fr lo) {a b v : Int} (hd : decode cc pc = .ok (.iand, 1)) (hv : v = iAnd a b) (k : qN X nL (pc + 1) ls (.int (iZ v) :: st) μ) : qN X nL pc ls (.int (iZ b) :: .int (iZ a) :: st) μ :=
  fun H locs la hh hW hS hR => lv_iand hX.1 hX.2.1 hd (by rw [← iZ_of (iZ a &&& iZ b)]; rw [show (iZ a &&& iZ b).toInt = v from hv.symm]; exact k H locs la hh hW hS hR)
theorem qn_ishr (hX : qOk X cc own nL ret Ts fr lo) {a b v : Int} (hd : decode cc pc = .ok (.ishr, 1)) (hv : v = iShr a b) (k : qN X nL (pc + 1) ls (.int (iZ v) :: st) μ) : qN X nL pc ls (.int (iZ b) :: .int (iZ a) :: st) μ :=
  fun H locs la hh hW hS hR => lv_ishr hX.1 hX.2.1 hd (by rw [← iZ_of (iZ a >>> (iZ b &&& 31))]; rw [show (iZ a >>> (iZ b &&& 31)).toInt = v from hv.symm]; exact k H locs la hh hW hS hR)
theorem qn_i2b (hX : qOk X cc own nL ret Ts fr lo) {a v : Int} (hd : decode cc pc = .ok (.i2b, 1)) (hv : v = iByte a) (k : qN X nL (pc + 1) ls (.int (iZ v) :: st) μ) : qN X nL pc ls (.int (iZ a) :: st) μ :=
  fun H locs la hh hW hS hR => lv_i2b hX.1 hX.2.1 hd (by rw [hv]; exact (iZ_of _).symm) (k H locs la hh hW hS hR)
theorem qn_i2l (hX : qOk X cc own nL ret Ts fr lo) {a : Int} (ra : in32 a) (hd : decode cc pc = .ok (.i2l, 1)) (k : qN X nL (pc + 1) ls (.long (lZ a) :: st) μ) : qN X nL pc ls (.int (iZ a) :: st) μ :=
  fun H locs la hh hW hS hR => lv_i2l hX.1 hX.2.1 hd (iZ_i2l ra) (k H locs la hh hW hS hR)
theorem qn_l2i (hX : qOk X cc own nL ret Ts fr lo) {a : Int} (hd : decode cc pc = .ok (.l2i, 1)) (k : qN X nL (pc + 1) ls (.int (iZ a) :: st) μ) : qN X nL pc ls (.long (lZ a) :: st) μ :=
  fun H locs la hh hW hS hR => lv_l2i hX.1 hX.2.1 hd (lZ_l2i a) (k H locs la hh hW hS hR)
theorem qn_ladd (hX : qOk X cc own nL ret Ts fr lo) {a b v : Int} (hd : decode cc pc = .ok (.ladd, 1)) (hv : v = a + b) (k : qN X nL (pc + 1) ls (.long (lZ v) :: st) μ) : qN X nL pc ls (.long (lZ b) :: .long (lZ a) :: st) μ :=
  fun H locs la hh hW hS hR => lv_ladd hX.1 hX.2.1 hd (by rw [lZ_add, ← hv]; exact k H locs la hh hW hS hR)
theorem qn_lsub (hX : qOk X cc own nL ret Ts fr lo) {a b v : Int} (hd : decode cc pc = .ok (.lsub, 1)) (hv : v = a - b) (k : qN X nL (pc + 1) ls (.long (lZ v) :: st) μ) : qN X nL pc ls (.long (lZ b) :: .long (lZ a) :: st) μ :=
  fun H locs la hh hW hS hR => lv_lsub hX.1 hX.2.1 hd (by rw [lZ_sub, ← hv]; exact k H locs la hh hW hS hR)
theorem qn_lmul (hX : qOk X cc own nL ret Ts fr lo) {a b v : Int} (hd : decode cc pc = .ok (.lmul, 1)) (hv : v = a * b) (k : qN X nL (pc + 1) ls (.long (lZ v) :: st) μ) : qN X nL pc ls (.long (lZ b) :: .long (lZ a) :: st) μ :=
  fun H locs la hh hW hS hR => lv_lmul hX.1 hX.2.1 hd (by rw [lZ_mul, ← hv]; exact k H locs la hh hW hS hR)
theorem qn_lneg (hX : qOk X cc own nL ret Ts fr lo) {a v : Int} (hd : decode cc pc = .ok (.lneg, 1)) (hv : v = -a) (k : qN X nL (pc + 1) ls (.long (lZ v) :: st) μ) : qN X nL pc ls (.long (lZ a) :: st) μ :=
  fun H locs la hh hW hS hR => lv_lneg hX.1 hX.2.1 hd (by have h := lZ_neg a; rw [← hv] at h; first | (rw [h]; exact k H locs la hh hW hS hR) | (have h2 : (0 : Int64) - lZ a = lZ v := by (rw [← h]; simp); rw [h2]; exact k H locs la hh hW hS hR))
theorem qn_ldiv (hX : qOk X cc own nL ret Ts fr lo) {a b v : Int} (ra : in64 a) (rb : in64 b) (h0 : ¬ b = 0) (hd : decode cc pc = .ok (.ldiv, 1)) (hv : v = a.tdiv b) (k : qN X nL (pc + 1) ls (.long (lZ v) :: st) μ) : qN X nL pc ls (.long (lZ b) :: .long (lZ a) :: st) μ :=
  fun H locs la hh hW hS hR => lv_ldiv hX.1 hX.2.1 hd (fun e => h0 ((lZ_inj rb (by decide)).mp e)) (by rw [lZ_div ra rb, ← hv]; exact k H locs la hh hW hS hR)
theorem qn_lcmp (hX : qOk X cc own nL ret Ts fr lo) {a b : Int} (ra : in64 a) (rb : in64 b) (hd : decode cc pc = .ok (.lcmp, 1)) (k : qN X nL (pc + 1) ls (.int (iZ (sgn a b)) :: st) μ) : qN X nL pc ls (.long (lZ b) :: .long (lZ a) :: st) μ :=
  fun H locs la hh hW hS hR => W.lcmp hX.1 hX.2.1 hd (by rw [lg_cmp_Z ra rb]; exact k H locs la hh hW hS hR)
theorem qn_dup (hX : qOk X cc own nL ret Ts fr lo) {v : Value} (hd : decode cc pc = .ok (.dup, 1)) (hv : v.category = 1) (k : qN X nL (pc + 1) ls (v :: v :: st) μ) : qN X nL pc ls (v :: st) μ :=
  fun H locs la hh hW hS hR => lv_dup hX.1 hX.2.1 hd hv (k H locs la hh hW hS hR)
theorem qn_dup2 (hX : qOk X cc own nL ret Ts fr lo) {v w : Value} (hd : decode cc pc = .ok (.dup2, 1)) (hv : v.category = 1) (hw : w.category = 1) (k : qN X nL (pc + 1) ls (v :: w :: v :: w :: st) μ) : qN X nL pc ls (v :: w :: st) μ :=
  fun H locs la hh hW hS hR => lv_dup2_11 hX.1 hX.2.1 hd hv hw (k H locs la hh hW hS hR)
theorem qn_dup_x1 (hX : qOk X cc own nL ret Ts fr lo) {v w : Value} (hd : decode cc pc = .ok (.dup_x1, 1)) (hv : v.category = 1) (hw : w.category = 1) (k : qN X nL (pc + 1) ls (v :: w :: v :: st) μ) : qN X nL pc ls (v :: w :: st) μ :=
  fun H locs la hh hW hS hR => lv_dup_x1 hX.1 hX.2.1 hd hv hw (k H locs la hh hW hS hR)
theorem qn_pop (hX : qOk X cc own nL ret Ts fr lo) {v : Value} (hd : decode cc pc = .ok (.pop, 1)) (hv : v.category = 1) (k : qN X nL (pc + 1) ls st μ) : qN X nL pc ls (v :: st) μ :=
  fun H locs la hh hW hS hR => lv_pop hX.1 hX.2.1 hd hv (k H locs la hh hW hS hR)
theorem qn_goto (hX : qOk X cc own nL ret Ts fr lo) {off : Int} (tgt : Nat) (hd : decode cc pc = .ok (.goto off, 3)) (ht : (pc : Int) + off = (tgt : Int)) (k : qN X nL tgt ls st μ) : qN X nL pc ls st μ :=
  fun H locs la hh hW hS hR => lv_goto hX.1 hX.2.1 hd ht (k H locs la hh hW hS hR)
theorem z32_0 : in32 0 := by decide
theorem qn_icmp_eq (hX : qOk X cc own nL ret Ts fr lo) {a b : Int} (ra : in32 a) (rb : in32 b) {off : Int} (tgt : Nat) (hd : decode cc pc = .ok (.if_icmp .eq off, 3)) (ht : (pc : Int) + off = (tgt : Int)) (kt : a = b → qN X nL tgt ls st μ) (kf : ¬ a = b → qN X nL (pc + 3) ls st μ) : qN X nL pc ls (.int (iZ b) :: .int (iZ a) :: st) μ :=
  fun H locs la hh hW hS hR => lv_icmp_eq hX.1 hX.2.1 hd ht (fun h => kt (by have e := iZ_inj ra rb; first | exact e.mp h | exact fun q => h (e.mpr q) | exact fun q => absurd (e.mpr q) (Int32.not_lt.mpr h)) H locs la hh hW hS hR) (fun h => kf (by have e := iZ_inj ra rb; first | exact e.mp h | exact fun q => h (e.mpr q) | exact e.mp (Int32.not_le.mp h) | exact Classical.byContradiction (fun q => h (fun z => q (e.mp z)))) H locs la hh hW hS hR)
theorem qn_icmp_ne (hX : qOk X cc own nL ret Ts fr lo) {a b : Int} (ra : in32 a) (rb : in32 b) {off : Int} (tgt : Nat) (hd : decode cc pc = .ok (.if_icmp .ne off, 3)) (ht : (pc : Int) + off = (tgt : Int)) (kt : ¬ a = b → qN X nL tgt ls st μ) (kf : a = b → qN X nL (pc + 3) ls st μ) : qN X nL pc ls (.int (iZ b) :: .int (iZ a) :: st) μ :=
  fun H locs la hh hW hS hR => lv_icmp_ne hX.1 hX.2.1 hd ht (fun h => kt (by have e := iZ_inj ra rb; first | exact e.mp h | exact fun q => h (e.mpr q) | exact fun q => absurd (e.mpr q) (Int32.not_lt.mpr h)) H locs la hh hW hS hR) (fun h => kf (by have e := iZ_inj ra rb; first | exact e.mp h | exact fun q => h (e.mpr q) | exact e.mp (Int32.not_le.mp h) | exact Classical.byContradiction (fun q => h (fun z => q (e.mp z)))) H locs la hh hW hS hR)
theorem qn_icmp_lt (hX : qOk X cc own nL ret Ts fr lo) {a b : Int} (ra : in32 a) (rb : in32 b) {off : Int} (tgt : Nat) (hd : decode cc pc = .ok (.if_icmp .lt off, 3)) (ht : (pc : Int) + off = (tgt : Int)) (kt : a < b → qN X nL tgt ls st μ) (kf : ¬ a < b → qN X nL (pc + 3) ls st μ) : qN X nL pc ls (.int (iZ b) :: .int (iZ a) :: st) μ :=
  fun H locs la hh hW hS hR => lv_icmp_lt hX.1 hX.2.1 hd ht (fun h => kt (by have e := iZ_lt ra rb; first | exact e.mp h | exact fun q => h (e.mpr q) | exact fun q => absurd (e.mpr q) (Int32.not_lt.mpr h)) H locs la hh hW hS hR) (fun h => kf (by have e := iZ_lt ra rb; first | exact e.mp h | exact fun q => h (e.mpr q) | exact e.mp (Int32.not_le.mp h) | exact Classical.byContradiction (fun q => h (fun z => q (e.mp z)))) H locs la hh hW hS hR)
theorem qn_icmp_ge (hX : qOk X cc own nL ret Ts fr lo) {a b : Int} (ra : in32 a) (rb : in32 b) {off : Int} (tgt : Nat) (hd : decode cc pc = .ok (.if_icmp .ge off, 3)) (ht : (pc : Int) + off = (tgt : Int)) (kt : ¬ a < b → qN X nL tgt ls st μ) (kf : a < b → qN X nL (pc + 3) ls st μ) : qN X nL pc ls (.int (iZ b) :: .int (iZ a) :: st) μ :=
  fun H locs la hh hW hS hR => lv_icmp_ge hX.1 hX.2.1 hd ht (fun h => kt (by have e := iZ_lt ra rb; first | exact e.mp h | exact fun q => h (e.mpr q) | exact fun q => absurd (e.mpr q) (Int32.not_lt.mpr h)) H locs la hh hW hS hR) (fun h => kf (by have e := iZ_lt ra rb; first | exact e.mp h | exact fun q => h (e.mpr q) | exact e.mp (Int32.not_le.mp h) | exact Classical.byContradiction (fun q => h (fun z => q (e.mp z)))) H locs la hh hW hS hR)
theorem qn_icmp_gt (hX : qOk X cc own nL ret Ts fr lo) {a b : Int} (ra : in32 a) (rb : in32 b) {off : Int} (tgt : Nat) (hd : decode cc pc = .ok (.if_icmp .gt off, 3)) (ht : (pc : Int) + off = (tgt : Int)) (kt : b < a → qN X nL tgt ls st μ) (kf : ¬ b < a → qN X nL (pc + 3) ls st μ) : qN X nL pc ls (.int (iZ b) :: .int (iZ a) :: st) μ :=
  fun H locs la hh hW hS hR => lv_icmp_gt hX.1 hX.2.1 hd ht (fun h => kt (by have e := iZ_lt rb ra; first | exact e.mp h | exact fun q => h (e.mpr q) | exact fun q => absurd (e.mpr q) (Int32.not_lt.mpr h)) H locs la hh hW hS hR) (fun h => kf (by have e := iZ_lt rb ra; first | exact e.mp h | exact fun q => h (e.mpr q) | exact e.mp (Int32.not_le.mp h) | exact Classical.byContradiction (fun q => h (fun z => q (e.mp z)))) H locs la hh hW hS hR)
theorem qn_icmp_le (hX : qOk X cc own nL ret Ts fr lo) {a b : Int} (ra : in32 a) (rb : in32 b) {off : Int} (tgt : Nat) (hd : decode cc pc = .ok (.if_icmp .le off, 3)) (ht : (pc : Int) + off = (tgt : Int)) (kt : ¬ b < a → qN X nL tgt ls st μ) (kf : b < a → qN X nL (pc + 3) ls st μ) : qN X nL pc ls (.int (iZ b) :: .int (iZ a) :: st) μ :=
  fun H locs la hh hW hS hR => lv_icmp_le hX.1 hX.2.1 hd ht (fun h => kt (by have e := iZ_lt rb ra; first | exact e.mp h | exact fun q => h (e.mpr q) | exact fun q => absurd (e.mpr q) (Int32.not_lt.mpr h)) H locs la hh hW hS hR) (fun h => kf (by have e := iZ_lt rb ra; first | exact e.mp h | exact fun q => h (e.mpr q) | exact e.mp (Int32.not_le.mp h) | exact Classical.byContradiction (fun q => h (fun z => q (e.mp z)))) H locs la hh hW hS hR)
theorem qn_if_eq (hX : qOk X cc own nL ret Ts fr lo) {a : Int} (ra : in32 a) {off : Int} (tgt : Nat) (hd : decode cc pc = .ok (.ifCond .eq off, 3)) (ht : (pc : Int) + off = (tgt : Int)) (kt : a = 0 → qN X nL tgt ls st μ) (kf : ¬ a = 0 → qN X nL (pc + 3) ls st μ) : qN X nL pc ls (.int (iZ a) :: st) μ :=
  fun H locs la hh hW hS hR => lv_if_eq hX.1 hX.2.1 hd ht (fun h => kt (by have e := iZ_inj ra z32_0; first | exact e.mp h | exact fun q => h (e.mpr q) | exact fun q => absurd (e.mpr q) (Int32.not_lt.mpr h)) H locs la hh hW hS hR) (fun h => kf (by have e := iZ_inj ra z32_0; first | exact e.mp h | exact fun q => h (e.mpr q) | exact e.mp (Int32.not_le.mp h) | exact Classical.byContradiction (fun q => h (fun z => q (e.mp z)))) H locs la hh hW hS hR)
theorem qn_if_ne (hX : qOk X cc own nL ret Ts fr lo) {a : Int} (ra : in32 a) {off : Int} (tgt : Nat) (hd : decode cc pc = .ok (.ifCond .ne off, 3)) (ht : (pc : Int) + off = (tgt : Int)) (kt : ¬ a = 0 → qN X nL tgt ls st μ) (kf : a = 0 → qN X nL (pc + 3) ls st μ) : qN X nL pc ls (.int (iZ a) :: st) μ :=
  fun H locs la hh hW hS hR => lv_if_ne hX.1 hX.2.1 hd ht (fun h => kt (by have e := iZ_inj ra z32_0; first | exact e.mp h | exact fun q => h (e.mpr q) | exact fun q => absurd (e.mpr q) (Int32.not_lt.mpr h)) H locs la hh hW hS hR) (fun h => kf (by have e := iZ_inj ra z32_0; first | exact e.mp h | exact fun q => h (e.mpr q) | exact e.mp (Int32.not_le.mp h) | exact Classical.byContradiction (fun q => h (fun z => q (e.mp z)))) H locs la hh hW hS hR)
theorem qn_if_lt (hX : qOk X cc own nL ret Ts fr lo) {a : Int} (ra : in32 a) {off : Int} (tgt : Nat) (hd : decode cc pc = .ok (.ifCond .lt off, 3)) (ht : (pc : Int) + off = (tgt : Int)) (kt : a < 0 → qN X nL tgt ls st μ) (kf : ¬ a < 0 → qN X nL (pc + 3) ls st μ) : qN X nL pc ls (.int (iZ a) :: st) μ :=
  fun H locs la hh hW hS hR => lv_if_lt hX.1 hX.2.1 hd ht (fun h => kt (by have e := iZ_lt ra z32_0; first | exact e.mp h | exact fun q => h (e.mpr q) | exact fun q => absurd (e.mpr q) (Int32.not_lt.mpr h)) H locs la hh hW hS hR) (fun h => kf (by have e := iZ_lt ra z32_0; first | exact e.mp h | exact fun q => h (e.mpr q) | exact e.mp (Int32.not_le.mp h) | exact Classical.byContradiction (fun q => h (fun z => q (e.mp z)))) H locs la hh hW hS hR)
theorem qn_if_ge (hX : qOk X cc own nL ret Ts fr lo) {a : Int} (ra : in32 a) {off : Int} (tgt : Nat) (hd : decode cc pc = .ok (.ifCond .ge off, 3)) (ht : (pc : Int) + off = (tgt : Int)) (kt : ¬ a < 0 → qN X nL tgt ls st μ) (kf : a < 0 → qN X nL (pc + 3) ls st μ) : qN X nL pc ls (.int (iZ a) :: st) μ :=
  fun H locs la hh hW hS hR => lv_if_ge hX.1 hX.2.1 hd ht (fun h => kt (by have e := iZ_lt ra z32_0; first | exact e.mp h | exact fun q => h (e.mpr q) | exact fun q => absurd (e.mpr q) (Int32.not_lt.mpr h)) H locs la hh hW hS hR) (fun h => kf (by have e := iZ_lt ra z32_0; first | exact e.mp h | exact fun q => h (e.mpr q) | exact e.mp (Int32.not_le.mp h) | exact Classical.byContradiction (fun q => h (fun z => q (e.mp z)))) H locs la hh hW hS hR)
theorem qn_if_gt (hX : qOk X cc own nL ret Ts fr lo) {a : Int} (ra : in32 a) {off : Int} (tgt : Nat) (hd : decode cc pc = .ok (.ifCond .gt off, 3)) (ht : (pc : Int) + off = (tgt : Int)) (kt : 0 < a → qN X nL tgt ls st μ) (kf : ¬ 0 < a → qN X nL (pc + 3) ls st μ) : qN X nL pc ls (.int (iZ a) :: st) μ :=
  fun H locs la hh hW hS hR => lv_if_gt hX.1 hX.2.1 hd ht (fun h => kt (by have e := iZ_lt z32_0 ra; first | exact e.mp h | exact fun q => h (e.mpr q) | exact fun q => absurd (e.mpr q) (Int32.not_lt.mpr h)) H locs la hh hW hS hR) (fun h => kf (by have e := iZ_lt z32_0 ra; first | exact e.mp h | exact fun q => h (e.mpr q) | exact e.mp (Int32.not_le.mp h) | exact Classical.byContradiction (fun q => h (fun z => q (e.mp z)))) H locs la hh hW hS hR)
theorem qn_if_le (hX : qOk X cc own nL ret Ts fr lo) {a : Int} (ra : in32 a) {off : Int} (tgt : Nat) (hd : decode cc pc = .ok (.ifCond .le off, 3)) (ht : (pc : Int) + off = (tgt : Int)) (kt : ¬ 0 < a → qN X nL tgt ls st μ) (kf : 0 < a → qN X nL (pc + 3) ls st μ) : qN X nL pc ls (.int (iZ a) :: st) μ :=
  fun H locs la hh hW hS hR => lv_if_le hX.1 hX.2.1 hd ht (fun h => kt (by have e := iZ_lt z32_0 ra; first | exact e.mp h | exact fun q => h (e.mpr q) | exact fun q => absurd (e.mpr q) (Int32.not_lt.mpr h)) H locs la hh hW hS hR) (fun h => kf (by have e := iZ_lt z32_0 ra; first | exact e.mp h | exact fun q => h (e.mpr q) | exact e.mp (Int32.not_le.mp h) | exact Classical.byContradiction (fun q => h (fun z => q (e.mp z)))) H locs la hh hW hS hR)
/-! fields, arrays -/
theorem vp_in_Z {i : Int} {n : Nat} (h : 0 ≤ i ∧ i < (n : Int)) (hn : n < 1000) : vp_in (iZ i) n ∧ (iZ i).toNatClampNeg = i.toNat := by
  have hi : in32 i := ⟨by omega, by omega⟩
  have ht := iZ_toInt hi
  refine ⟨vp_in_iff.mpr ⟨by rw [ht]; exact h.1, by rw [ht]; exact h.2⟩, ?_⟩
  rw [Int32.toNatClampNeg, ht]
/-- what a field's use needs of the words of the method -/
def qFd (own : String) (Ts : List Cond) (index ci k t fid : Nat) : Prop := ∃ (C : String) (T : u_T) (N : Nat) (ref : String), vwCl[ci]? = some (C, T, N) ∧ (∀ w ∈ u_ws C T N, w ∈ Ts) ∧ k < N ∧ Cond.fieldLink own index ref (T k).2.1 (T k).2.2.1 ∈ Ts ∧ (T k).1 = ref ∧ (qF ci)[k]? = some (t, fid) ∧ ci < 9
/-- and a write's -/
def qFp (own : String) (Ts : List Cond) (index ci k t fid : Nat) (ty : FieldType) : Prop := ∃ (C : String) (T : u_T) (N : Nat) (ref : String) (ty0 : Nat → FieldType), vwCl[ci]? = some (C, T, N) ∧ (∀ w ∈ u_ws C T N, w ∈ Ts) ∧ k < N ∧ Cond.fieldLink own index ref (T k).2.1 (T k).2.2.1 ∈ Ts ∧ (T k).1 = ref ∧ (qF ci)[k]? = some (t, fid) ∧ ci < 9 ∧
  (∀ k, k < N → parseFieldDescriptor (T k).2.2.1 = some (ty0 k)) ∧ (∀ a, a < N → ∀ b, b < N → a ≠ b → (T a).2.1 ≠ (T b).2.1) ∧ (T k).2.2.2 = false ∧ parseFieldDescriptor (T k).2.2.1 = some ty
theorem qn_getI (hX : qOk X cc own nL ret Ts fr lo) {index ci k fid a : Nat} (hf : qFd own Ts index ci k 0 fid) (hd : decode cc pc = .ok (.getfield index, 3)) (ha : gK (xG X) a = ci + 1) (kk : qN X nL (pc + 3) ls (.int (iZ (gI μ fid a)) :: st) μ) : qN X nL pc ls (.ref a :: st) μ := by
  intro H locs la hh hW hS hR
  obtain ⟨C, T, N, ref, h1, h2, h3, h4, h5, h6, h7⟩ := hf
  obtain ⟨q, hq⟩ := qg_at (μ := μ) (hX.T.l ha (Nat.succ_ne_zero _))
  rw [qE_obj ha h7] at hq
  refine va_get hX.1 hX.2.1 hX.2.2.2.2.1 h2 hX.2.2.2.1 hX.K hW.1 q hq h1 k h3 (hX.2.2.2.2.1 _ h4) (fun x h => by rw [← h5]; exact h) (v := .int (iZ (gI μ fid a))) (by rw [List.getElem?_map, h6]; rfl) hd ?_
  exact kk H locs la hh hW hS hR
theorem qn_getJ (hX : qOk X cc own nL ret Ts fr lo) {index ci k fid a : Nat} (hf : qFd own Ts index ci k 2 fid) (hd : decode cc pc = .ok (.getfield index, 3)) (ha : gK (xG X) a = ci + 1) (kk : qN X nL (pc + 3) ls (.long (lZ (gI μ fid a)) :: st) μ) : qN X nL pc ls (.ref a :: st) μ := by
  intro H locs la hh hW hS hR
  obtain ⟨C, T, N, ref, h1, h2, h3, h4, h5, h6, h7⟩ := hf
  obtain ⟨q, hq⟩ := qg_at (μ := μ) (hX.T.l ha (Nat.succ_ne_zero _))
  rw [qE_obj ha h7] at hq
  refine va_get hX.1 hX.2.1 hX.2.2.2.2.1 h2 hX.2.2.2.1 hX.K hW.1 q hq h1 k h3 (hX.2.2.2.2.1 _ h4) (fun x h => by rw [← h5]; exact h) (v := .long (lZ (gI μ fid a))) (by rw [List.getElem?_map, h6]; rfl) hd ?_
  exact kk H locs la hh hW hS hR
theorem qn_getR (hX : qOk X cc own nL ret Ts fr lo) {index ci k fid a : Nat} (hf : qFd own Ts index ci k 1 fid) (hd : decode cc pc = .ok (.getfield index, 3)) (ha : gK (xG X) a = ci + 1) (kk : qN X nL (pc + 3) ls (.ref (gR (xG X) fid a) :: st) μ) : qN X nL pc ls (.ref a :: st) μ := by
  intro H locs la hh hW hS hR
  obtain ⟨C, T, N, ref, h1, h2, h3, h4, h5, h6, h7⟩ := hf
  obtain ⟨q, hq⟩ := qg_at (μ := μ) (hX.T.l ha (Nat.succ_ne_zero _))
  rw [qE_obj ha h7] at hq
  refine va_get hX.1 hX.2.1 hX.2.2.2.2.1 h2 hX.2.2.2.1 hX.K hW.1 q hq h1 k h3 (hX.2.2.2.2.1 _ h4) (fun x h => by rw [← h5]; exact h) (v := .ref (gR (xG X) fid a)) (by rw [List.getElem?_map, h6]; rfl) hd ?_
  exact kk H locs la hh hW hS hR
theorem qW_set {G : qG} {μ ν : qM} {H1 : Heap} {a q : Nat} {e : va_E} (hD : va_D (fun _ => True) (va_pl (gL G) (qE G μ))) (hq : (va_pl (gL G) (qE G μ))[q]? = some (a, qE G μ a)) (hL : a ∈ gL G) (he : e = qE G ν a) (ho : ∀ b, b ≠ a → qE G μ b = qE G ν b)
    (hP : va_P (gD G) vwCl ((va_pl (gL G) (qE G μ)).set q (a, e)) H1) : qW G ν H1 := by
  have h1 : (va_pl (gL G) (qE G μ)).set q (a, e) = va_pl (gL G) (va_up (qE G μ) a e) := va_pl_set (X := []) hD hL hq
  rw [h1, va_pl_congr (qE_up he ho)] at hP
  exact ⟨hP, va_pl_D hD⟩
theorem qA_D {G : qG} {μ : qM} {sz : Nat} (hD : va_D (fun _ => True) (va_pl (gL G) (qE G μ))) : va_D (qA G sz) (va_pl (gL G) (qE G μ)) := va_pl_in hD (fun a h => Or.inl h)
theorem qE_sIo {G : qG} {μ : qM} {f a b : Nat} {v : Int} (h : b ≠ a) : qE G μ b = qE G (sI μ f a v) b :=
  qE_congr (fun g => by rw [gI_sI, if_neg (fun e => h e.2)]) (fun j => rfl) (fun j => rfl)
theorem qE_sAo {G : qG} {μ : qM} {i a b : Nat} {v : Int} (h : b ≠ a) : qE G μ b = qE G (sA μ a i v) b :=
  qE_congr (fun g => rfl) (fun j => by rw [gA_sA, if_neg (fun e => h e.1)]) (fun j => rfl)
theorem qE_sQo {G : qG} {μ : qM} {i a b : Nat} {v : Option Nat} (h : b ≠ a) : qE G μ b = qE G (sQ μ a i v) b :=
  qE_congr (fun g => rfl) (fun j => rfl) (fun j => by rw [gQ_sQ, if_neg (fun e => h e.1)])
theorem qn_putI (hX : qOk X cc own nL ret Ts fr lo) {index ci k fid a : Nat} {v : Int} {ν : qM} (hf : qFp own Ts index ci k 0 fid .int) (hd : decode cc pc = .ok (.putfield index, 3)) (ha : gK (xG X) a = ci + 1) (hR0 : qR (xG X) μ) (hv : qrf fid v) (hν : ν = sI μ fid a v) (kk : qR (xG X) ν → qN X nL (pc + 3) ls st ν) : qN X nL pc ls (.int (iZ v) :: .ref a :: st) μ := by
  intro H locs la hh hW hS hR
  subst hν
  obtain ⟨C, T, N, ref, ty0, h1, h2, h3, h4, h5, h6, h7, h8, h9, h10, h11⟩ := hf
  have hL := hX.T.l ha (Nat.succ_ne_zero _)
  obtain ⟨q, hq0⟩ := qg_at (μ := μ) hL
  have hq := hq0
  rw [qE_obj ha h7] at hq
  refine va_put hX.1 hX.2.1 hX.2.2.2.2.1 h2 ty0 h8 h9 hX.2.2.2.1 hX.K hW.1 (qA_D hW.2) hS q hq h1 k h3 (hX.2.2.2.2.1 _ h4) (fun x h => by rw [← h5]; exact h) h10 h11 rfl rfl (by rw [List.length_map]; exact (List.getElem?_eq_some_iff.mp h6).1) hd (fun H1 locs1 hP hD hS1 => ?_)
  have hR1 := qR_sI (f := fid) (a := a) hR0 hv
  refine kk hR1 H1 locs1 la hh (qW_set hW.2 hq0 hL ?_ (fun b h => qE_sIo h) hP) hS1 hR1
  rw [qE_obj ha h7, qV_set (v := v) (qF_nd ci h7) h6 (by rw [qV]; simp [gI_sI])]
theorem qn_putZ (hX : qOk X cc own nL ret Ts fr lo) {index ci k fid a : Nat} {v : Int} {ν : qM} (hf : qFp own Ts index ci k 0 fid .boolean) (hd : decode cc pc = .ok (.putfield index, 3)) (ha : gK (xG X) a = ci + 1) (hR0 : qR (xG X) μ) (hv : qrf fid v) (h01 : in01 v) (hν : ν = sI μ fid a v) (kk : qR (xG X) ν → qN X nL (pc + 3) ls st ν) : qN X nL pc ls (.int (iZ v) :: .ref a :: st) μ := by
  intro H locs la hh hW hS hR
  subst hν
  obtain ⟨C, T, N, ref, ty0, h1, h2, h3, h4, h5, h6, h7, h8, h9, h10, h11⟩ := hf
  have hL := hX.T.l ha (Nat.succ_ne_zero _)
  obtain ⟨q, hq0⟩ := qg_at (μ := μ) hL
  have hq := hq0
  rw [qE_obj ha h7] at hq
  refine va_put hX.1 hX.2.1 hX.2.2.2.2.1 h2 ty0 h8 h9 hX.2.2.2.1 hX.K hW.1 (qA_D hW.2) hS q hq h1 k h3 (hX.2.2.2.2.1 _ h4) (fun x h => by rw [← h5]; exact h) h10 h11 (by rcases h01 with e | e <;> subst e <;> rfl) (by rcases h01 with e | e <;> subst e <;> rfl) (by rw [List.length_map]; exact (List.getElem?_eq_some_iff.mp h6).1) hd (fun H1 locs1 hP hD hS1 => ?_)
  have hR1 := qR_sI (f := fid) (a := a) hR0 hv
  refine kk hR1 H1 locs1 la hh (qW_set hW.2 hq0 hL ?_ (fun b h => qE_sIo h) hP) hS1 hR1
  rw [qE_obj ha h7, qV_set (v := v) (qF_nd ci h7) h6 (by rw [qV]; simp [gI_sI])]
theorem qn_putJ (hX : qOk X cc own nL ret Ts fr lo) {index ci k fid a : Nat} {v : Int} {ν : qM} (hf : qFp own Ts index ci k 2 fid .long) (hd : decode cc pc = .ok (.putfield index, 3)) (ha : gK (xG X) a = ci + 1) (hR0 : qR (xG X) μ) (hv : qrf fid v) (hν : ν = sI μ fid a v) (kk : qR (xG X) ν → qN X nL (pc + 3) ls st ν) : qN X nL pc ls (.long (lZ v) :: .ref a :: st) μ := by
  intro H locs la hh hW hS hR
  subst hν
  obtain ⟨C, T, N, ref, ty0, h1, h2, h3, h4, h5, h6, h7, h8, h9, h10, h11⟩ := hf
  have hL := hX.T.l ha (Nat.succ_ne_zero _)
  obtain ⟨q, hq0⟩ := qg_at (μ := μ) hL
  have hq := hq0
  rw [qE_obj ha h7] at hq
  refine va_put hX.1 hX.2.1 hX.2.2.2.2.1 h2 ty0 h8 h9 hX.2.2.2.1 hX.K hW.1 (qA_D hW.2) hS q hq h1 k h3 (hX.2.2.2.2.1 _ h4) (fun x h => by rw [← h5]; exact h) h10 h11 rfl rfl (by rw [List.length_map]; exact (List.getElem?_eq_some_iff.mp h6).1) hd (fun H1 locs1 hP hD hS1 => ?_)
  have hR1 := qR_sI (f := fid) (a := a) hR0 hv
  refine kk hR1 H1 locs1 la hh (qW_set hW.2 hq0 hL ?_ (fun b h => qE_sIo h) hP) hS1 hR1
  rw [qE_obj ha h7, qV_set (v := v) (qF_nd ci h7) h6 (by rw [qV]; simp [gI_sI])]
theorem qn_iald (hX : qOk X cc own nL ret Ts fr lo) {a : Nat} {i v : Int} (n : Nat) (hd : decode cc pc = .ok (.iaload, 1)) (ha : gK (xG X) a = 1000 + n) (hn : n < 1000) (hi : 0 ≤ i ∧ i < (n : Int)) (hv : v = gA μ a i.toNat) (kk : qN X nL (pc + 1) ls (.int (iZ v) :: st) μ) : qN X nL pc ls (.int (iZ i) :: .ref a :: st) μ := by
  intro H locs la hh hW hS hR
  obtain ⟨q, hq⟩ := qg_at (μ := μ) (hX.T.l ha (by omega))
  rw [qE_int ha hn] at hq
  obtain ⟨h1, h2⟩ := vp_in_Z hi hn
  refine va_iald hX.1 hX.2.1 hX.K hW.1 q 0 hq rfl h1 hd ?_
  rw [h2, ← hv]
  exact kk H locs la hh hW hS hR
theorem qn_bald (hX : qOk X cc own nL ret Ts fr lo) {a : Nat} {i v : Int} (n : Nat) (hd : decode cc pc = .ok (.baload, 1)) (ha : gK (xG X) a = 2000 + n) (hn : n < 1000) (hi : 0 ≤ i ∧ i < (n : Int)) (hv : v = gA μ a i.toNat) (kk : qN X nL (pc + 1) ls (.int (iZ v) :: st) μ) : qN X nL pc ls (.int (iZ i) :: .ref a :: st) μ := by
  intro H locs la hh hW hS hR
  obtain ⟨q, hq⟩ := qg_at (μ := μ) (hX.T.l ha (by omega))
  rw [qE_byte ha hn] at hq
  obtain ⟨h1, h2⟩ := vp_in_Z hi hn
  refine va_bald hX.1 hX.2.1 hX.K hW.1 q 1 hq rfl h1 hd ?_
  rw [h2, ← hv]
  exact kk H locs la hh hW hS hR
theorem qn_lald (hX : qOk X cc own nL ret Ts fr lo) {a : Nat} {i v : Int} (n : Nat) (hd : decode cc pc = .ok (.laload, 1)) (ha : gK (xG X) a = 3000 + n) (hn : n < 1000) (hi : 0 ≤ i ∧ i < (n : Int)) (hv : v = gA μ a i.toNat) (kk : qN X nL (pc + 1) ls (.long (lZ v) :: st) μ) : qN X nL pc ls (.int (iZ i) :: .ref a :: st) μ := by
  intro H locs la hh hW hS hR
  obtain ⟨q, hq⟩ := qg_at (μ := μ) (hX.T.l ha (by omega))
  rw [qE_long ha hn] at hq
  obtain ⟨h1, h2⟩ := vp_in_Z hi hn
  refine va_lald hX.1 hX.2.1 hX.K hW.1 q 2 hq rfl h1 hd ?_
  rw [h2, ← hv]
  exact kk H locs la hh hW hS hR
theorem qn_aaldO (hX : qOk X cc own nL ret Ts fr lo) {a o : Nat} {i : Int} (n : Nat) (hd : decode cc pc = .ok (.aaload, 1)) (ha : gK (xG X) a = 4000 + n) (hn : n < 1000) (hi : 0 ≤ i ∧ i < (n : Int)) (hv : gQ μ a i.toNat = some o) (kk : qN X nL (pc + 1) ls (.ref o :: st) μ) : qN X nL pc ls (.int (iZ i) :: .ref a :: st) μ := by
  intro H locs la hh hW hS hR
  obtain ⟨q, hq⟩ := qg_at (μ := μ) (hX.T.l ha (by omega))
  rw [qE_ord ha hn] at hq
  obtain ⟨h1, h2⟩ := vp_in_Z hi hn
  refine va_aldq hX.1 hX.2.1 hX.K hW.1 q 3 hq rfl h1 hd ?_
  rw [h2, hv]
  exact kk H locs la hh hW hS hR
theorem qn_iast (hX : qOk X cc own nL ret Ts fr lo) {a : Nat} {i v : Int} {ν : qM} (n : Nat) (hd : decode cc pc = .ok (.iastore, 1)) (ha : gK (xG X) a = 1000 + n) (hn : n < 1000) (hi : 0 ≤ i ∧ i < (n : Int)) (hR0 : qR (xG X) μ) (hv : in32 v) (hν : ν = sA μ a i.toNat v) (kk : qR (xG X) ν → qN X nL (pc + 1) ls st ν) : qN X nL pc ls (.int (iZ v) :: .int (iZ i) :: .ref a :: st) μ := by
  intro H locs la hh hW hS hR
  subst hν
  have hL := hX.T.l ha (by omega)
  obtain ⟨q, hq0⟩ := qg_at (μ := μ) hL
  have hq := hq0
  rw [qE_int ha hn] at hq
  obtain ⟨h1, h2⟩ := vp_in_Z hi hn
  refine va_iast hX.1 hX.2.1 hX.K hW.1 (qA_D hW.2) hS q 0 hq rfl h1 hd (fun H1 locs1 hP hD hS1 => ?_)
  have hR1 : qR (xG X) (sA μ a i.toNat v) := qR_sA hR0 (by unfold qra; rw [show gK (xG X) a / 1000 = 1 by omega]; exact hv)
  refine kk hR1 H1 locs1 la hh (qW_set hW.2 hq0 hL ?_ (fun b h => qE_sAo h) hP) hS1 hR1
  rw [qE_int ha hn, h2]
  congr 4
  funext j
  simp only [upd, gA_sA]
  by_cases e : j = i.toNat <;> simp [e]
theorem qn_bast (hX : qOk X cc own nL ret Ts fr lo) {a : Nat} {i v : Int} {ν : qM} (n : Nat) (hd : decode cc pc = .ok (.bastore, 1)) (ha : gK (xG X) a = 2000 + n) (hn : n < 1000) (hi : 0 ≤ i ∧ i < (n : Int)) (hR0 : qR (xG X) μ) (hv : -128 ≤ v ∧ v ≤ 127) (hν : ν = sA μ a i.toNat v) (kk : qR (xG X) ν → qN X nL (pc + 1) ls st ν) : qN X nL pc ls (.int (iZ v) :: .int (iZ i) :: .ref a :: st) μ := by
  intro H locs la hh hW hS hR
  subst hν
  have hL := hX.T.l ha (by omega)
  obtain ⟨q, hq0⟩ := qg_at (μ := μ) hL
  have hq := hq0
  rw [qE_byte ha hn] at hq
  obtain ⟨h1, h2⟩ := vp_in_Z hi hn
  refine va_bast hX.1 hX.2.1 hX.K hW.1 (qA_D hW.2) hS q 1 hq rfl h1 hd (fun H1 locs1 hP hD hS1 => ?_)
  have hR1 : qR (xG X) (sA μ a i.toNat v) := qR_sA hR0 (by unfold qra; rw [show gK (xG X) a / 1000 = 2 by omega]; exact hv)
  refine kk hR1 H1 locs1 la hh (qW_set hW.2 hq0 hL ?_ (fun b h => qE_sAo h) hP) hS1 hR1
  have hb : vp_nar .byte (iZ v) = iZ v := by
    rw [vp_nar_byte, ← Int32.toInt_inj]
    have h3 : (iZ v).toInt = v := iZ_toInt ⟨by omega, by omega⟩
    rw [Int8.toInt_toInt32, Int32.toInt_toInt8, h3]
    exact Int.bmod_eq_of_le (by omega) (by omega)
  rw [qE_byte ha hn, h2, hb]
  congr 4
  funext j
  simp only [upd, gA_sA]
  by_cases e : j = i.toNat <;> simp [e]
theorem qn_last (hX : qOk X cc own nL ret Ts fr lo) {a : Nat} {i v : Int} {ν : qM} (n : Nat) (hd : decode cc pc = .ok (.lastore, 1)) (ha : gK (xG X) a = 3000 + n) (hn : n < 1000) (hi : 0 ≤ i ∧ i < (n : Int)) (hR0 : qR (xG X) μ) (hv : in64 v) (hν : ν = sA μ a i.toNat v) (kk : qR (xG X) ν → qN X nL (pc + 1) ls st ν) : qN X nL pc ls (.long (lZ v) :: .int (iZ i) :: .ref a :: st) μ := by
  intro H locs la hh hW hS hR
  subst hν
  have hL := hX.T.l ha (by omega)
  obtain ⟨q, hq0⟩ := qg_at (μ := μ) hL
  have hq := hq0
  rw [qE_long ha hn] at hq
  obtain ⟨h1, h2⟩ := vp_in_Z hi hn
  refine va_last hX.1 hX.2.1 hX.K hW.1 (qA_D hW.2) hS q 2 hq rfl h1 hd (fun H1 locs1 hP hD hS1 => ?_)
  have hR1 : qR (xG X) (sA μ a i.toNat v) := qR_sA hR0 (by unfold qra; rw [show gK (xG X) a / 1000 = 3 by omega]; exact hv)
  refine kk hR1 H1 locs1 la hh (qW_set hW.2 hq0 hL ?_ (fun b h => qE_sAo h) hP) hS1 hR1
  rw [qE_long ha hn, h2]
  congr 5
  funext j
  simp only [vp_updL, gA_sA]
  by_cases e : j = i.toNat <;> simp [e]
theorem qn_aastO (hX : qOk X cc own nL ret Ts fr lo) {a o : Nat} {i : Int} {ν : qM} (n : Nat) (hd : decode cc pc = .ok (.aastore, 1)) (ha : gK (xG X) a = 4000 + n) (hn : n < 1000) (hi : 0 ≤ i ∧ i < (n : Int)) (hR0 : qR (xG X) μ) (ho : gK (xG X) o = 5) (hν : ν = sQ μ a i.toNat (some o)) (kk : qR (xG X) ν → qN X nL (pc + 1) ls st ν) : qN X nL pc ls (.ref o :: .int (iZ i) :: .ref a :: st) μ := by
  intro H locs la hh hW hS hR
  subst hν
  have hL := hX.T.l ha (by omega)
  obtain ⟨q, hq0⟩ := qg_at (μ := μ) hL
  have hq := hq0
  rw [qE_ord ha hn] at hq
  obtain ⟨qo, hqo⟩ := qg_at (μ := μ) (hX.T.l ho (by decide))
  rw [qE_obj (ci := 4) ho (by decide)] at hqo
  obtain ⟨h1, h2⟩ := vp_in_Z hi hn
  refine va_astq hX.1 hX.2.1 hX.K hW.1 (qA_D hW.2) hS q 3 qo 4 (r := (RX4, TX4, 6)) hq rfl hqo rfl h1 hd (fun H1 locs1 hP hD hS1 => ?_)
  have hR1 : qR (xG X) (sQ μ a i.toNat (some o)) := qR_sQ hR0
  refine kk hR1 H1 locs1 la hh (qW_set hW.2 hq0 hL ?_ (fun b h => qE_sQo h) hP) hS1 hR1
  rw [qE_ord ha hn, h2]
  congr 7
  funext j
  simp only [va_up, gQ_sQ]
  by_cases e : j = i.toNat <;> simp [e]
theorem qn_alen (hX : qOk X cc own nL ret Ts fr lo) {a : Nat} (n : Nat) (hd : decode cc pc = .ok (.arraylength, 1)) (ha : gK (xG X) a = 1000 + n) (hn : n < 1000) (kk : qN X nL (pc + 1) ls (.int (iZ (n : Int)) :: st) μ) : qN X nL pc ls (.ref a :: st) μ := by
  intro H locs la hh hW hS hR
  obtain ⟨q, hq⟩ := qg_at (μ := μ) (hX.T.l ha (by omega))
  rw [qE_int ha hn] at hq
  refine va_alen hX.1 hX.2.1 hX.K hW.1 q 0 hq (ty := .int) rfl (v := iZ (n : Int)) (Int32.toInt_inj.mp ((nI_toInt (n := n) (by omega)).trans (iZ_toInt ⟨by omega, by omega⟩).symm)) hd ?_
  exact kk H locs la hh hW hS hR
/-! null, references compared, switches -/
theorem qn_null (hX : qOk X cc own nL ret Ts fr lo) (hd : decode cc pc = .ok (.aconst_null, 1)) (k : qN X nL (pc + 1) ls (.null :: st) μ) : qN X nL pc ls st μ :=
  fun H locs la hh hW hS hR => lv_null hX.1 hX.2.1 hd (k H locs la hh hW hS hR)
theorem qn_ifnull (hX : qOk X cc own nL ret Ts fr lo) {x : Nat} {off : Int} (hd : decode cc pc = .ok (.ifnull off, 3)) (k : qN X nL (pc + 3) ls st μ) : qN X nL pc ls (.ref x :: st) μ :=
  fun H locs la hh hW hS hR => lv_ifnull hX.1 hX.2.1 hd (k H locs la hh hW hS hR)
theorem qn_ifnullN (hX : qOk X cc own nL ret Ts fr lo) {off : Int} (tgt : Nat) (hd : decode cc pc = .ok (.ifnull off, 3)) (ht : (pc : Int) + off = (tgt : Int)) (k : qN X nL tgt ls st μ) : qN X nL pc ls (.null :: st) μ :=
  fun H locs la hh hW hS hR => lv_ifnullN hX.1 hX.2.1 hd ht (k H locs la hh hW hS hR)
theorem qn_ifnonnull (hX : qOk X cc own nL ret Ts fr lo) {x : Nat} {off : Int} (tgt : Nat) (hd : decode cc pc = .ok (.ifnonnull off, 3)) (ht : (pc : Int) + off = (tgt : Int)) (k : qN X nL tgt ls st μ) : qN X nL pc ls (.ref x :: st) μ :=
  fun H locs la hh hW hS hR => lv_ifnonnull hX.1 hX.2.1 hd ht (k H locs la hh hW hS hR)
theorem qn_ifnonnullN (hX : qOk X cc own nL ret Ts fr lo) {off : Int} (hd : decode cc pc = .ok (.ifnonnull off, 3)) (k : qN X nL (pc + 3) ls st μ) : qN X nL pc ls (.null :: st) μ :=
  fun H locs la hh hW hS hR => lv_ifnonnullN hX.1 hX.2.1 hd (k H locs la hh hW hS hR)
theorem qn_acmp_ne (hX : qOk X cc own nL ret Ts fr lo) {x y : Nat} {off : Int} (tgt : Nat) (hd : decode cc pc = .ok (.if_acmp .ne off, 3)) (ht : (pc : Int) + off = (tgt : Int)) (kt : ¬ x = y → qN X nL tgt ls st μ) (kf : x = y → qN X nL (pc + 3) ls st μ) : qN X nL pc ls (.ref y :: .ref x :: st) μ :=
  fun H locs la hh hW hS hR => lv_acmp_ne (rx := some x) (ry := some y) hX.1 hX.2.1 hd ht (fun h => kt (fun e => h (congrArg some e)) H locs la hh hW hS hR) (fun h => kf (Option.some.inj h) H locs la hh hW hS hR)
theorem qn_tswIn (hX : qOk X cc own nL ret Ts fr lo) {dflt lo' hi off : Int} {offs : Array Int} {len : Nat} {z : Int} (rz : in32 z) (tgt : Nat) (hd : decode cc pc = .ok (.tableswitch dflt lo' hi offs, len)) (v : Int) (hz : z = v) (h1 : lo' ≤ v ∧ v ≤ hi) (ho : offs[(v - lo').toNat]? = some off) (ht : (pc : Int) + off = (tgt : Int)) (k : qN X nL tgt ls st μ) : qN X nL pc ls (.int (iZ z) :: st) μ := by
  intro H locs la hh hW hS hR
  subst hz
  have e := iZ_toInt rz
  refine lv_tableIn hX.1 hX.2.1 hd (by rw [e]; omega) (by rw [e]; omega) (by rw [e]; exact ho) ht ?_
  exact k H locs la hh hW hS hR
theorem qn_tswOut (hX : qOk X cc own nL ret Ts fr lo) {dflt lo' hi : Int} {offs : Array Int} {len : Nat} {z : Int} (rz : in32 z) (tgt : Nat) (hd : decode cc pc = .ok (.tableswitch dflt lo' hi offs, len)) (hz : z < lo' ∨ hi < z) (ht : (pc : Int) + dflt = (tgt : Int)) (k : qN X nL tgt ls st μ) : qN X nL pc ls (.int (iZ z) :: st) μ := by
  intro H locs la hh hW hS hR
  have e := iZ_toInt rz
  refine lv_tableOut hX.1 hX.2.1 hd (by rw [e]; exact hz) ht ?_
  exact k H locs la hh hW hS hR
theorem qn_lsw (hX : qOk X cc own nL ret Ts fr lo) {dflt off : Int} {ps : Array (Int × Int)} {len : Nat} {z : Int} (rz : in32 z) (tgt : Nat) (hd : decode cc pc = .ok (.lookupswitch dflt ps, len)) (hp : (ps.toList.zip (ps.toList.drop 1)).all (fun (a, next) => a.1 < next.1) = true) (ho : Op.lookupswitch.offset ps.toList dflt z = off) (ht : (pc : Int) + off = (tgt : Int)) (k : qN X nL tgt ls st μ) : qN X nL pc ls (.int (iZ z) :: st) μ := by
  intro H locs la hh hW hS hR
  refine lv_lookup hX.1 hX.2.1 hd hp (by rw [iZ_toInt rz]; exact ho) ht ?_
  exact k H locs la hh hW hS hR
/-! returns -/
theorem qn_iret (hX : qOk X cc own nL (some .int) Ts fr lo) {v r : Int} {ν : qM} (hd : decode cc pc = .ok (.ireturn, 1)) (hE : xr X = some (.int (iZ r)) ∧ (in32 r → xΦ X) ∧ xμ X = ν) (hR0 : qR (xG X) μ) (hv : in32 v) (h : (v, μ) = (r, ν)) : qN X nL pc ls [.int (iZ v)] μ := by
  cases h
  intro H locs la hh hW hS hR
  refine W.iret hX.1 hX.2.1 hX.2.2.2.2.2.2.1 (fun t ht hWm => ⟨⟨by rw [hE.1], hE.2.1 hv, ?_⟩, hS.F ht⟩) hS.2.2 hd hX.2.2.2.2.2.1
  rw [hE.2.2]
  exact ⟨by rw [ht]; exact hW, va_K.moved hWm.alike hX.K, hR0, hX.Z.on hS ht hWm⟩
theorem qn_zret (hX : qOk X cc own nL (some .boolean) Ts fr lo) {v r : Int} {ν : qM} (hd : decode cc pc = .ok (.ireturn, 1)) (hE : xr X = some (.int (iZ r)) ∧ (in01 r → xΦ X) ∧ xμ X = ν) (hR0 : qR (xG X) μ) (hv : in01 v) (h : (v, μ) = (r, ν)) : qN X nL pc ls [.int (iZ v)] μ := by
  cases h
  intro H locs la hh hW hS hR
  refine W.zret hX.1 hX.2.1 hX.2.2.2.2.2.2.1 (by rcases hv with e | e <;> subst e <;> rfl) (fun t ht hWm => ⟨⟨by rw [hE.1], hE.2.1 hv, ?_⟩, hS.F ht⟩) hS.2.2 hd hX.2.2.2.2.2.1
  rw [hE.2.2]
  exact ⟨by rw [ht]; exact hW, va_K.moved hWm.alike hX.K, hR0, hX.Z.on hS ht hWm⟩
theorem qn_lret (hX : qOk X cc own nL (some .long) Ts fr lo) {v r : Int} {ν : qM} (hd : decode cc pc = .ok (.lreturn, 1)) (hE : xr X = some (.long (lZ r)) ∧ (in64 r → xΦ X) ∧ xμ X = ν) (hR0 : qR (xG X) μ) (hv : in64 v) (h : (v, μ) = (r, ν)) : qN X nL pc ls [.long (lZ v)] μ := by
  cases h
  intro H locs la hh hW hS hR
  refine W.lret hX.1 hX.2.1 hX.2.2.2.2.2.2.1 (fun t ht hWm => ⟨⟨by rw [hE.1], hE.2.1 hv, ?_⟩, hS.F ht⟩) hS.2.2 hd hX.2.2.2.2.2.1
  rw [hE.2.2]
  exact ⟨by rw [ht]; exact hW, va_K.moved hWm.alike hX.K, hR0, hX.Z.on hS ht hWm⟩
theorem qn_vret (hX : qOk X cc own nL none Ts fr lo) {ν : qM} (hd : decode cc pc = .ok (.return_, 1)) (hE : xr X = none ∧ (True → xΦ X) ∧ xμ X = ν) (hR0 : qR (xG X) μ) (h : μ = ν) : qN X nL pc ls [] μ := by
  cases h
  intro H locs la hh hW hS hR
  refine W.vret hX.1 hX.2.1 hX.2.2.2.2.2.2.1 (fun t ht hWm => ⟨⟨by rw [hE.1], hE.2.1 trivial, ?_⟩, hS.F ht⟩) hS.2.2 hd hX.2.2.2.2.2.1
  rw [hE.2.2]
  exact ⟨by rw [ht]; exact hW, va_K.moved hWm.alike hX.K, hR0, hX.Z.on hS ht hWm⟩
/-- an order or null -/
theorem qn_aret (hX : qOk X cc own nL (some (.object "ProRataMarket$Order")) Ts fr lo) {v r : Option Nat} {ν : qM} (hd : decode cc pc = .ok (.areturn, 1)) (hE : xr X = some (va_rf r) ∧ ((∀ o, r = some o → gK (xG X) o = 5) → xΦ X) ∧ xμ X = ν) (hR0 : qR (xG X) μ) (hv : ∀ o, v = some o → gK (xG X) o = 5) (h : (v, μ) = (r, ν)) : qN X nL pc ls [va_rf v] μ := by
  cases h
  intro H locs la hh hW hS hR
  refine W.aret (rt := .object "ProRataMarket$Order") hX.1 hX.2.1 hX.2.2.2.2.2.2.1 (Or.inl ⟨_, rfl⟩) (by cases v with | none => exact Or.inl rfl | some a => exact Or.inr ⟨a, rfl⟩) (fun t ht hWm => ⟨⟨by rw [hE.1], hE.2.1 hv, ?_⟩, hS.F ht⟩) hS.2.2 hd hX.2.2.2.2.2.1
  rw [hE.2.2]
  exact ⟨by rw [ht]; exact hW, va_K.moved hWm.alike hX.K, hR0, hX.Z.on hS ht hWm⟩
/-! calls -/
theorem qC_blind {G : qG} {μ : qM} {av : List Value} {sz : Nat} : FrameBlind (va_Pc av (fun U => U.heap.size = sz ∧ qWs G μ U)) := by
  intro a U g mk q
  obtain ⟨q0, q1, qW0, qK, qR0, qZ0⟩ := q
  exact ⟨q0, q1, qW0, va_K.moved (u := U) (U := U.calling g mk a) (Vm.Alike.refl U.vm) qK, qR0, qZ0.same rfl rfl⟩
theorem qn_called {p : Program} {l : Launch} {e : Env} {R : Room} {s : State} {m : MethodId} {args : Array Value} {below : List Frame} {meth : Method} {c : Code} {H : Heap} {locs : List Loc} {Q : State → Prop} {la : Array Slot} {G : qG} {ν : qM} {rv : Option Value} {Φ : Prop} {rest st0 : List Value} {a : Array Value}
    (hr : va_Run p l e R s m args below meth c H locs 0 0 0 0 (F0 m pc la st0) rest (qPost G rv Φ ν H.size a) (qA G H.size)) (hS : va_S (qA G s.heap.size) s.heap H locs)
    (kk : Φ → ∀ (H1 : Heap) (locs1 : List Loc), qW G ν H1 → va_S (qA G s.heap.size) s.heap H1 locs1 → qR G ν → W p l e R s m args below meth c H1 locs1 0 0 Q (F0 m (pc + 3) la (rv.toList ++ rest))) : W p l e R s m args below meth c H locs 0 0 Q (F0 m pc la st0) := by
  intro T hT X
  obtain ⟨v, st₀, t, T', L, h0, X', hL, e1, e2, ⟨⟨hv, hΦ, hW1, -, hR1, -⟩, hz, hk⟩, st⟩ := hr T hT X
  cases hv
  rw [h0] at hz hk
  have hA : ∀ q, q < H.size → qA G H.size q → qA G s.heap.size q := fun q h1 h2 => h2.elim Or.inl (fun h => absurd h1 (Nat.not_lt.mpr h))
  have hf : ∀ q, qA G H.size q → qA G s.heap.size q := fun q h => h.elim Or.inl (fun h => Or.inr (Nat.le_trans hS.1 h))
  obtain ⟨t2, a1, b1⟩ := kk hΦ T'.heap (locs ++ L) (by rw [e1]; exact hW1)
    ⟨Nat.le_trans hS.1 (by rw [e1]; exact hz), fun q h1 h2 => by rw [e1, hk q (Nat.lt_of_lt_of_le h1 hS.1) (fun z => h2 (hA q (Nat.lt_of_lt_of_le h1 hS.1) z))]; exact hS.2.1 q h1 h2, fun q hq => by
      rcases List.mem_append.mp hq with h | h
      · exact hS.2.2 q h
      · exact hf _ (hL q h)⟩ hR1 T' rfl X'
  exact ⟨t2, st t2 a1, b1⟩
theorem qn_callV (hX : qOk X cc own nL ret Ts fr lo) {index : Nat} {y : MethodName} {ws ws' : List Cond} {bytes : ByteArray} {maxL : Nat} {ret' : Option FieldType} {fr' lo' : Nat} {b ci : Nat} {C : String} {T : u_T} {N : Nat} (As As' : List Value) {rv : Option Value} {Φ : Prop} {ν : qM} (n : Nat)
    (hd : decode cc pc = .ok (.invokevirtual index, 3)) (hG : GoodIn Ts (wsV own index C y ws)) (hw : ws = Cond.code y bytes maxL ret' :: ws')
    (hdd : y.cls = C ∧ y.cls ≠ "java/lang/invoke/MethodHandle" ∧ y.cls ≠ "java/lang/invoke/VarHandle" ∧ (parseMethodDescriptor y.desc).map (fun d => d.parameters.length) = some n) (hrm : Nat.ble (fr' + 1) fr = true ∧ Nat.ble (8 + (maxL + 11) + lo') lo = true)
    (hn : As.length = n) (hc : vwCl[ci]? = some (C, T, N)) (hci : ci < 9) (hb : gK (xG X) b = ci + 1) (hs : As' = As.reverse) (hst : Nat.ble ((st.map fun v => v.category).sum) 8 = true) (hR0 : qR (xG X) μ) (hM : qC (xl X) y ws fr' lo' (xG X) (.ref b :: As) μ rv Φ ν) (kk : Φ → qR (xG X) ν → qN X nL (pc + 3) ls (rv.toList ++ st) ν) : qN X nL pc ls (As' ++ .ref b :: st) μ := by
  intro H locs la hh hW hS hR
  subst hs
  have hK := hX.K
  have hT := hX.T
  obtain ⟨q, hq⟩ := qg_at (μ := μ) (hT.l hb (Nat.succ_ne_zero _))
  rw [qE_obj hb hci] at hq
  have hm := hM H.size
  refine qn_called (va_runV (As := As) (rest := st) ⟨hX.1, hX.2.1, hX.2.2.1, hX.2.2.2.1, hX.2.2.2.2.1⟩ hm (cwV n hX.2.2.2.2.1 hG hw rfl rfl hdd ⟨by rw [← hX.2.2.2.2.2.2.2.1]; exact Nat.le_of_ble_eq_true hrm.1, by rw [← hX.2.2.2.2.2.2.2.2.1]; exact Nat.le_of_ble_eq_true hrm.2⟩) ⟨qC_blind, va_recv hK hW.1 hc hq, fun U hU hWm => ⟨rfl, by rw [hU], by rw [hU]; exact hW, va_K.moved hWm.alike hK, hR0, hX.Z.on hS hU hWm⟩⟩ rfl hn hh.1 rfl (lv_room (Nat.le_of_ble_eq_true hst)) hd ⟨Nat.zero_le _, Nat.zero_le _⟩) hS (fun hΦ H1 locs1 hW1 hS1 hR1 => ?_)
  exact kk hΦ hR1 H1 locs1 la hh hW1 hS1 hR1
theorem qn_callS (hX : qOk X cc own nL ret Ts fr lo) {index : Nat} {y : MethodName} {ws ws' : List Cond} {bytes : ByteArray} {maxL : Nat} {ret' : Option FieldType} {fr' lo' : Nat} (As As' : List Value) {rv : Option Value} {Φ : Prop} {ν : qM} (n : Nat)
    (hd : decode cc pc = .ok (.invokestatic index, 3)) (hG : GoodIn Ts (va_wsS own index y ws)) (hw : ws = Cond.code y bytes maxL ret' :: ws')
    (hdd : y.cls ≠ "java/lang/invoke/MethodHandle" ∧ y.cls ≠ "java/lang/invoke/VarHandle" ∧ (parseMethodDescriptor y.desc).map (fun d => d.parameters.length) = some n) (hrm : Nat.ble (fr' + 1) fr = true ∧ Nat.ble (8 + (maxL + 11) + lo') lo = true)
    (hn : As.length = n) (hs : As' = As.reverse) (hst : Nat.ble ((st.map fun v => v.category).sum) 8 = true) (hR0 : qR (xG X) μ) (hM : qC (xl X) y ws fr' lo' (xG X) As μ rv Φ ν) (kk : Φ → qR (xG X) ν → qN X nL (pc + 3) ls (rv.toList ++ st) ν) : qN X nL pc ls (As' ++ st) μ := by
  intro H locs la hh hW hS hR
  subst hs
  have hK := hX.K
  have hm := hM H.size
  refine qn_called (va_runS (As := As) (rest := st) ⟨hX.1, hX.2.1, hX.2.2.1, hX.2.2.2.1, hX.2.2.2.2.1⟩ hm (va_cwS n hX.2.2.2.2.1 hG hw rfl rfl hdd ⟨by rw [← hX.2.2.2.2.2.2.2.1]; exact Nat.le_of_ble_eq_true hrm.1, by rw [← hX.2.2.2.2.2.2.2.2.1]; exact Nat.le_of_ble_eq_true hrm.2⟩) ⟨qC_blind, fun U hU hWm => ⟨rfl, by rw [hU], by rw [hU]; exact hW, va_K.moved hWm.alike hK, hR0, hX.Z.on hS hU hWm⟩⟩ rfl hn hh.1 rfl (lv_room (Nat.le_of_ble_eq_true hst)) hd ⟨Nat.zero_le _, Nat.zero_le _⟩) hS (fun hΦ H1 locs1 hW1 hS1 hR1 => ?_)
  exact kk hΦ hR1 H1 locs1 la hh hW1 hS1 hR1
theorem qn_min (hX : qOk X cc own nL ret Ts fr lo) {index : Nat} {a b v : Int} (ra : in32 a) (rb : in32 b) (hd : decode cc pc = .ok (.invokestatic index, 3)) (hl : Cond.methodLink own index Lib.Math.min.name ∈ Ts) (hs : Cond.static Lib.Math.min.name ∈ Ts) (hi : Cond.initialized "java/lang/Math" ∈ Ts) (hcd : Cond.code Lib.Math.min.name Lib.Math.min.code 2 (some .int) ∈ Ts) (hrm : Nat.ble 1 fr = true ∧ Nat.ble ((st.map fun v => v.category).sum + 13) lo = true) (hv : v = min a b) (kk : qN X nL (pc + 3) ls (.int (iZ v) :: st) μ) : qN X nL pc ls (.int (iZ b) :: .int (iZ a) :: st) μ := by
  intro H locs la hh hW hS hR
  have ok := hX.2.2.2.2.1
  refine va_mmin hX.1 hX.2.1 (hX.2.2.1.trans hh.1.symm) hX.2.2.2.1 (ok _ hl) (ok _ hs) (ok _ hi) (ok _ hcd) (by rw [← hX.2.2.2.2.2.2.2.1]; exact Nat.le_of_ble_eq_true hrm.1) (by rw [← hX.2.2.2.2.2.2.2.2.1]; exact Nat.le_of_ble_eq_true hrm.2) (Nat.zero_le _) (Nat.zero_le _) hd ?_
  have e : (if iZ b < iZ a then iZ b else iZ a) = iZ v := by
    rw [hv]
    by_cases h : b < a
    · rw [Int.min_eq_right (Int.le_of_lt h), if_pos ((iZ_lt rb ra).mpr h)]
    · rw [Int.min_eq_left (Int.not_lt.mp h), if_neg (fun q => h ((iZ_lt rb ra).mp q))]
  rw [e]
  exact kk H locs la hh hW hS hR
theorem qn_abs (hX : qOk X cc own nL ret Ts fr lo) {index : Nat} {a v : Int} (ra : in32 a) (hd : decode cc pc = .ok (.invokestatic index, 3)) (hl : Cond.methodLink own index Lib.Math.abs.name ∈ Ts) (hs : Cond.static Lib.Math.abs.name ∈ Ts) (hi : Cond.initialized "java/lang/Math" ∈ Ts) (hcd : Cond.code Lib.Math.abs.name Lib.Math.abs.code 1 (some .int) ∈ Ts) (hrm : Nat.ble 1 fr = true ∧ Nat.ble ((st.map fun v => v.category).sum + 13) lo = true) (hv : v = if 0 ≤ a then a else 0 - a) (kk : qN X nL (pc + 3) ls (.int (iZ v) :: st) μ) : qN X nL pc ls (.int (iZ a) :: st) μ := by
  intro H locs la hh hW hS hR
  have ok := hX.2.2.2.2.1
  refine va_mabs hX.1 hX.2.1 (hX.2.2.1.trans hh.1.symm) hX.2.2.2.1 (ok _ hl) (ok _ hs) (ok _ hi) (ok _ hcd) (by rw [← hX.2.2.2.2.2.2.2.1]; exact Nat.le_of_ble_eq_true hrm.1) (by rw [← hX.2.2.2.2.2.2.2.2.1]; exact Nat.le_of_ble_eq_true hrm.2) (Nat.zero_le _) (Nat.zero_le _) hd ?_
  have e : (if 0 ≤ iZ a then iZ a else 0 - iZ a) = iZ v := by
    rw [hv]
    by_cases h : 0 ≤ a
    · rw [if_pos h, if_pos (show (0 : Int32) ≤ iZ a from (iZ_le z32_0 ra).mpr h)]
    · rw [if_neg h, if_neg (fun q : (0 : Int32) ≤ iZ a => h ((iZ_le z32_0 ra).mp q))]
      exact iZ_sub 0 a
  rw [e]
  exact kk H locs la hh hW hS hR
theorem qn_aaldR (hX : qOk X cc own nL ret Ts fr lo) {a o : Nat} {i : Int} (n : Nat) (hd : decode cc pc = .ok (.aaload, 1)) (ha : gK (xG X) a = 5000 + n) (hn : n < 1000) (hi : 0 ≤ i ∧ i < (n : Int)) (hv : gQ μ a i.toNat = some o) (kk : qN X nL (pc + 1) ls (.ref o :: st) μ) : qN X nL pc ls (.int (iZ i) :: .ref a :: st) μ := by
  intro H locs la hh hW hS hR
  obtain ⟨q, hq⟩ := qg_at (μ := μ) (hX.T.l ha (by omega))
  rw [qE_row ha hn] at hq
  obtain ⟨h1, h2⟩ := vp_in_Z hi hn
  have hlt : (iZ i).toNatClampNeg < n := Nat.not_le.mp fun q => h1 (Or.inr q)
  have hK := hX.K
  refine W.aald (v := va_rf (gQ μ a (iZ i).toNatClampNeg)) (ty := .array .int) hX.1 hX.2.1 (hW.1 q _ hq) ((hK.2 4 _ rfl).1 n (fun j => va_rf (gQ μ a j))) rfl (fun q => by cases q) (by show ¬ (iZ i < 0 ∨ (arrV _ _ _).slots.size ≤ _); rw [arrV_size]; exact h1) (by show (arrV _ _ _).slots[_]? = _; rw [arrV_read _ _ hlt]) rfl rfl hd ?_
  rw [h2, hv]
  exact kk H locs la hh hW hS hR
end QN
/-! what the walk's writer (wip/whole/walk.py) uses besides -/
def kb2 {α β γ : Type} (v : Option (α × β)) (k : α → β → Option γ) : Option γ := match v with | some x => k x.1 x.2 | none => none
theorem kb2_e {α β γ : Type} {v : Option (α × β)} {k : α → β → Option γ} {r : γ} (h : kb2 v k = some r) : ∃ x y, v = some (x, y) ∧ k x y = some r := by
  unfold kb2 at h
  split at h
  · rename_i x
    exact ⟨x.1, x.2, rfl, h⟩
  · cases h
/-- a loop: step with what it goes on with; n turns at most -/
def qLoop {σ ρ : Type} (step : (σ → Option ρ) → σ → Option ρ) : Nat → σ → Option ρ
  | 0, _ => none
  | n + 1, s => step (qLoop step n) s
theorem qLoop_w {σ ρ : Type} {step : (σ → Option ρ) → σ → Option ρ} {P Q : σ → Prop} {res : ρ}
    (H : ∀ (k : σ → Option ρ), (∀ s, P s → k s = some res → Q s) → ∀ s, P s → step k s = some res → Q s) : ∀ (n : Nat) (s : σ), P s → qLoop step n s = some res → Q s := by
  intro n
  induction n with
  | zero => intro s _ h; cases h
  | succ n ih => intro s hs h; exact H (qLoop step n) ih s hs h
/-- what is left of a sum in 32 and in 64 bits -/
def w32 (z : Int) : Int := z.bmod 4294967296
def w64 (z : Int) : Int := z.bmod 18446744073709551616
theorem iZ_w32 (z : Int) : iZ (w32 z) = iZ z := by
  rw [← Int32.toInt_inj]
  show (Int32.ofInt (z.bmod 4294967296)).toInt = (Int32.ofInt z).toInt
  rw [Int32.toInt_ofInt, Int32.toInt_ofInt]
  exact Int.bmod_bmod
theorem lZ_w64 (z : Int) : lZ (w64 z) = lZ z := by
  rw [← Int64.toInt_inj]
  show (Int64.ofInt (z.bmod 18446744073709551616)).toInt = (Int64.ofInt z).toInt
  rw [Int64.toInt_ofInt, Int64.toInt_ofInt]
  exact Int.bmod_bmod
theorem w32_in (z : Int) : in32 (w32 z) := by
  have h1 := Int.le_bmod (x := z) (m := 4294967296) (by decide)
  have h2 := Int.bmod_lt (x := z) (m := 4294967296) (by decide)
  exact ⟨by unfold w32; omega, by unfold w32; omega⟩
theorem w64_in (z : Int) : in64 (w64 z) := by
  have h1 := Int.le_bmod (x := z) (m := 18446744073709551616) (by decide)
  have h2 := Int.bmod_lt (x := z) (m := 18446744073709551616) (by decide)
  exact ⟨by unfold w64; omega, by unfold w64; omega⟩
def iXor (a b : Int) : Int := (iZ a ^^^ iZ b).toInt
theorem in32.l {z : Int} (h : in32 z) : in64 z := ⟨by have := h.1; omega, by have := h.2; omega⟩
theorem in32_min {a b : Int} (ha : in32 a) (hb : in32 b) : in32 (min a b) := by
  rcases Int.le_total a b with h | h
  · rw [Int.min_eq_left h]; exact ha
  · rw [Int.min_eq_right h]; exact hb
theorem qR.jj {G : qG} {μ : qM} (h : qR G μ) (f a : Nat) (hf : qrf f = in64) : in64 (gI μ f a) := by have := h.1 f a; rw [hf] at this; exact this
theorem qR.zz {G : qG} {μ : qM} (h : qR G μ) (f a : Nat) (hf : qrf f = in01) : in01 (gI μ f a) := by have := h.1 f a; rw [hf] at this; exact this
section QN7
variable {X : qB} {cc : ByteArray} {own : String} {nL : Nat} {ret : Option FieldType} {Ts : List Cond} {fr lo : Nat} {pc : Nat} {ls ls' : List (Nat × Value)} {st : List Value} {μ : qM}
theorem qn_sub (ks : List Nat) (hl : lv_pick ls ks = ls') (k : qN X nL pc ls' st μ) : qN X nL pc ls st μ :=
  fun H locs la hh hW hS hR => k H locs la (lv_sub hh ks hl) hW hS hR
theorem qn_ixor (hX : qOk X cc own nL ret Ts fr lo) {a b v : Int} (hd : decode cc pc = .ok (.ixor, 1)) (hv : v = iXor a b) (k : qN X nL (pc + 1) ls (.int (iZ v) :: st) μ) : qN X nL pc ls (.int (iZ b) :: .int (iZ a) :: st) μ :=
  fun H locs la hh hW hS hR => lv_ixor hX.1 hX.2.1 hd (by rw [← iZ_of (iZ a ^^^ iZ b)]; rw [show (iZ a ^^^ iZ b).toInt = v from hv.symm]; exact k H locs la hh hW hS hR)
theorem qn_l2iv (hX : qOk X cc own nL ret Ts fr lo) {a v : Int} (hd : decode cc pc = .ok (.l2i, 1)) (hv : v = a) (k : qN X nL (pc + 1) ls (.int (iZ v) :: st) μ) : qN X nL pc ls (.long (lZ a) :: st) μ := by
  subst hv
  exact qn_l2i hX hd k
theorem qn_acmp_eq (hX : qOk X cc own nL ret Ts fr lo) {x y : Nat} {off : Int} (tgt : Nat) (hd : decode cc pc = .ok (.if_acmp .eq off, 3)) (ht : (pc : Int) + off = (tgt : Int)) (kt : x = y → qN X nL tgt ls st μ) (kf : ¬ x = y → qN X nL (pc + 3) ls st μ) : qN X nL pc ls (.ref y :: .ref x :: st) μ :=
  fun H locs la hh hW hS hR => lv_acmp_eq (rx := some x) (ry := some y) hX.1 hX.2.1 hd ht (fun h => kt (Option.some.inj h) H locs la hh hW hS hR) (fun h => kf (fun e => h (congrArg some e)) H locs la hh hW hS hR)
theorem qn_iaddw (hX : qOk X cc own nL ret Ts fr lo) {a b v : Int} (hd : decode cc pc = .ok (.iadd, 1)) (hv : v = w32 (a + b)) (k : qN X nL (pc + 1) ls (.int (iZ v) :: st) μ) : qN X nL pc ls (.int (iZ b) :: .int (iZ a) :: st) μ :=
  fun H locs la hh hW hS hR => lv_iadd hX.1 hX.2.1 hd (by rw [iZ_add, ← iZ_w32 (a + b), ← hv]; exact k H locs la hh hW hS hR)
theorem qn_laddw (hX : qOk X cc own nL ret Ts fr lo) {a b v : Int} (hd : decode cc pc = .ok (.ladd, 1)) (hv : v = w64 (a + b)) (k : qN X nL (pc + 1) ls (.long (lZ v) :: st) μ) : qN X nL pc ls (.long (lZ b) :: .long (lZ a) :: st) μ :=
  fun H locs la hh hW hS hR => lv_ladd hX.1 hX.2.1 hd (by rw [lZ_add, ← lZ_w64 (a + b), ← hv]; exact k H locs la hh hW hS hR)
theorem qn_lsubw (hX : qOk X cc own nL ret Ts fr lo) {a b v : Int} (hd : decode cc pc = .ok (.lsub, 1)) (hv : v = w64 (a - b)) (k : qN X nL (pc + 1) ls (.long (lZ v) :: st) μ) : qN X nL pc ls (.long (lZ b) :: .long (lZ a) :: st) μ :=
  fun H locs la hh hW hS hR => lv_lsub hX.1 hX.2.1 hd (by rw [lZ_sub, ← lZ_w64 (a - b), ← hv]; exact k H locs la hh hW hS hR)
theorem qn_lnegw (hX : qOk X cc own nL ret Ts fr lo) {a v : Int} (hd : decode cc pc = .ok (.lneg, 1)) (hv : v = w64 (-a)) (k : qN X nL (pc + 1) ls (.long (lZ v) :: st) μ) : qN X nL pc ls (.long (lZ a) :: st) μ :=
  fun H locs la hh hW hS hR => lv_lneg hX.1 hX.2.1 hd (by have h := lZ_neg a; rw [← lZ_w64 (-a), ← hv] at h; first | (rw [h]; exact k H locs la hh hW hS hR) | (have h2 : (0 : Int64) - lZ a = lZ v := by (rw [← h]; simp); rw [h2]; exact k H locs la hh hW hS hR))
section CALLS
variable {index : Nat} {y : MethodName} {ws ws' : List Cond} {bytes : ByteArray} {maxL : Nat} {ret' : Option FieldType} {fr' lo' : Nat} {b ci : Nat} {C : String} {T : u_T} {N : Nat} {Φ : Prop} {ν : qM}
theorem qn_callVv (hX : qOk X cc own nL ret Ts fr lo) (As As' : List Value) (n : Nat)
    (hd : decode cc pc = .ok (.invokevirtual index, 3)) (hG : GoodIn Ts (wsV own index C y ws)) (hw : ws = Cond.code y bytes maxL ret' :: ws')
    (hdd : y.cls = C ∧ y.cls ≠ "java/lang/invoke/MethodHandle" ∧ y.cls ≠ "java/lang/invoke/VarHandle" ∧ (parseMethodDescriptor y.desc).map (fun d => d.parameters.length) = some n) (hrm : Nat.ble (fr' + 1) fr = true ∧ Nat.ble (8 + (maxL + 11) + lo') lo = true)
    (hn : As.length = n) (hc : vwCl[ci]? = some (C, T, N)) (hci : ci < 9) (hb : gK (xG X) b = ci + 1) (hs : As' = As.reverse) (hst : Nat.ble ((st.map fun v => v.category).sum) 8 = true) (hR0 : qR (xG X) μ) (hM : qC (xl X) y ws fr' lo' (xG X) (.ref b :: As) μ none Φ ν) (kk : Φ → qR (xG X) ν → qN X nL (pc + 3) ls st ν) : qN X nL pc ls (As' ++ .ref b :: st) μ :=
  qn_callV hX As As' n hd hG hw hdd hrm hn hc hci hb hs hst hR0 hM kk
theorem qn_callVi (hX : qOk X cc own nL ret Ts fr lo) {r : Int} (As As' : List Value) (n : Nat)
    (hd : decode cc pc = .ok (.invokevirtual index, 3)) (hG : GoodIn Ts (wsV own index C y ws)) (hw : ws = Cond.code y bytes maxL ret' :: ws')
    (hdd : y.cls = C ∧ y.cls ≠ "java/lang/invoke/MethodHandle" ∧ y.cls ≠ "java/lang/invoke/VarHandle" ∧ (parseMethodDescriptor y.desc).map (fun d => d.parameters.length) = some n) (hrm : Nat.ble (fr' + 1) fr = true ∧ Nat.ble (8 + (maxL + 11) + lo') lo = true)
    (hn : As.length = n) (hc : vwCl[ci]? = some (C, T, N)) (hci : ci < 9) (hb : gK (xG X) b = ci + 1) (hs : As' = As.reverse) (hst : Nat.ble ((st.map fun v => v.category).sum) 8 = true) (hR0 : qR (xG X) μ) (hM : qC (xl X) y ws fr' lo' (xG X) (.ref b :: As) μ (some (.int (iZ r))) Φ ν) (kk : Φ → qR (xG X) ν → qN X nL (pc + 3) ls (.int (iZ r) :: st) ν) : qN X nL pc ls (As' ++ .ref b :: st) μ :=
  qn_callV hX As As' n hd hG hw hdd hrm hn hc hci hb hs hst hR0 hM kk
theorem qn_callVj (hX : qOk X cc own nL ret Ts fr lo) {r : Int} (As As' : List Value) (n : Nat)
    (hd : decode cc pc = .ok (.invokevirtual index, 3)) (hG : GoodIn Ts (wsV own index C y ws)) (hw : ws = Cond.code y bytes maxL ret' :: ws')
    (hdd : y.cls = C ∧ y.cls ≠ "java/lang/invoke/MethodHandle" ∧ y.cls ≠ "java/lang/invoke/VarHandle" ∧ (parseMethodDescriptor y.desc).map (fun d => d.parameters.length) = some n) (hrm : Nat.ble (fr' + 1) fr = true ∧ Nat.ble (8 + (maxL + 11) + lo') lo = true)
    (hn : As.length = n) (hc : vwCl[ci]? = some (C, T, N)) (hci : ci < 9) (hb : gK (xG X) b = ci + 1) (hs : As' = As.reverse) (hst : Nat.ble ((st.map fun v => v.category).sum) 8 = true) (hR0 : qR (xG X) μ) (hM : qC (xl X) y ws fr' lo' (xG X) (.ref b :: As) μ (some (.long (lZ r))) Φ ν) (kk : Φ → qR (xG X) ν → qN X nL (pc + 3) ls (.long (lZ r) :: st) ν) : qN X nL pc ls (As' ++ .ref b :: st) μ :=
  qn_callV hX As As' n hd hG hw hdd hrm hn hc hci hb hs hst hR0 hM kk
theorem qn_callVq (hX : qOk X cc own nL ret Ts fr lo) {r : Option Nat} (As As' : List Value) (n : Nat)
    (hd : decode cc pc = .ok (.invokevirtual index, 3)) (hG : GoodIn Ts (wsV own index C y ws)) (hw : ws = Cond.code y bytes maxL ret' :: ws')
    (hdd : y.cls = C ∧ y.cls ≠ "java/lang/invoke/MethodHandle" ∧ y.cls ≠ "java/lang/invoke/VarHandle" ∧ (parseMethodDescriptor y.desc).map (fun d => d.parameters.length) = some n) (hrm : Nat.ble (fr' + 1) fr = true ∧ Nat.ble (8 + (maxL + 11) + lo') lo = true)
    (hn : As.length = n) (hc : vwCl[ci]? = some (C, T, N)) (hci : ci < 9) (hb : gK (xG X) b = ci + 1) (hs : As' = As.reverse) (hst : Nat.ble ((st.map fun v => v.category).sum) 8 = true) (hR0 : qR (xG X) μ) (hM : qC (xl X) y ws fr' lo' (xG X) (.ref b :: As) μ (some (va_rf r)) Φ ν) (kk : Φ → qR (xG X) ν → qN X nL (pc + 3) ls (va_rf r :: st) ν) : qN X nL pc ls (As' ++ .ref b :: st) μ :=
  qn_callV hX As As' n hd hG hw hdd hrm hn hc hci hb hs hst hR0 hM kk
theorem qn_callSv (hX : qOk X cc own nL ret Ts fr lo) (As As' : List Value) (n : Nat)
    (hd : decode cc pc = .ok (.invokestatic index, 3)) (hG : GoodIn Ts (va_wsS own index y ws)) (hw : ws = Cond.code y bytes maxL ret' :: ws')
    (hdd : y.cls ≠ "java/lang/invoke/MethodHandle" ∧ y.cls ≠ "java/lang/invoke/VarHandle" ∧ (parseMethodDescriptor y.desc).map (fun d => d.parameters.length) = some n) (hrm : Nat.ble (fr' + 1) fr = true ∧ Nat.ble (8 + (maxL + 11) + lo') lo = true)
    (hn : As.length = n) (hs : As' = As.reverse) (hst : Nat.ble ((st.map fun v => v.category).sum) 8 = true) (hR0 : qR (xG X) μ) (hM : qC (xl X) y ws fr' lo' (xG X) As μ none Φ ν) (kk : Φ → qR (xG X) ν → qN X nL (pc + 3) ls st ν) : qN X nL pc ls (As' ++ st) μ :=
  qn_callS hX As As' n hd hG hw hdd hrm hn hs hst hR0 hM kk
theorem qn_callSi (hX : qOk X cc own nL ret Ts fr lo) {r : Int} (As As' : List Value) (n : Nat)
    (hd : decode cc pc = .ok (.invokestatic index, 3)) (hG : GoodIn Ts (va_wsS own index y ws)) (hw : ws = Cond.code y bytes maxL ret' :: ws')
    (hdd : y.cls ≠ "java/lang/invoke/MethodHandle" ∧ y.cls ≠ "java/lang/invoke/VarHandle" ∧ (parseMethodDescriptor y.desc).map (fun d => d.parameters.length) = some n) (hrm : Nat.ble (fr' + 1) fr = true ∧ Nat.ble (8 + (maxL + 11) + lo') lo = true)
    (hn : As.length = n) (hs : As' = As.reverse) (hst : Nat.ble ((st.map fun v => v.category).sum) 8 = true) (hR0 : qR (xG X) μ) (hM : qC (xl X) y ws fr' lo' (xG X) As μ (some (.int (iZ r))) Φ ν) (kk : Φ → qR (xG X) ν → qN X nL (pc + 3) ls (.int (iZ r) :: st) ν) : qN X nL pc ls (As' ++ st) μ :=
  qn_callS hX As As' n hd hG hw hdd hrm hn hs hst hR0 hM kk
theorem qn_callSNi (hX : qOk X cc own nL ret Ts fr lo) {r : Int} {host : String} (As As' : List Value) (n : Nat)
    (hd : decode cc pc = .ok (.invokestatic index, 3)) (hG : GoodIn Ts ws) (hl : va_Nw (.methodLinkNest own index y host) (xs X)) (hst0 : Cond.static y ∈ Ts) (hini : Cond.initialized y.cls ∈ Ts) (hw : ws = Cond.code y bytes maxL ret' :: ws')
    (hdd : y.cls ≠ "java/lang/invoke/MethodHandle" ∧ y.cls ≠ "java/lang/invoke/VarHandle" ∧ (parseMethodDescriptor y.desc).map (fun d => d.parameters.length) = some n) (hrm : Nat.ble (fr' + 1) fr = true ∧ Nat.ble (8 + (maxL + 11) + lo') lo = true)
    (hn : As.length = n) (hs : As' = As.reverse) (hst : Nat.ble ((st.map fun v => v.category).sum) 8 = true) (hR0 : qR (xG X) μ) (hM : qC (xl X) y ws fr' lo' (xG X) As μ (some (.int (iZ r))) Φ ν) (kk : Φ → qR (xG X) ν → qN X nL (pc + 3) ls (.int (iZ r) :: st) ν) : qN X nL pc ls (As' ++ st) μ := by
  intro H locs la hh hW hS hR
  subst hs
  have hK := hX.K
  have hm := hM H.size
  have ok := hX.2.2.2.2.1
  refine qn_called (va_runSN (As := As) (rest := st) ⟨hX.1, hX.2.1, hX.2.2.1, hX.2.2.2.1, ok⟩ hm ⟨va_cnB n ok hG hw rfl rfl hl (ok _ hini) hdd ⟨by rw [← hX.2.2.2.2.2.2.2.1]; exact Nat.le_of_ble_eq_true hrm.1, by rw [← hX.2.2.2.2.2.2.2.2.1]; exact Nat.le_of_ble_eq_true hrm.2⟩, ok _ hst0, trivial⟩ ⟨qC_blind, fun U hU hWm => ⟨rfl, by rw [hU], by rw [hU]; exact hW, va_K.moved hWm.alike hK, hR0, hX.Z.on hS hU hWm⟩⟩ rfl hn hh.1 rfl (lv_room (Nat.le_of_ble_eq_true hst)) hd ⟨Nat.zero_le _, Nat.zero_le _⟩) hS (fun hΦ H1 locs1 hW1 hS1 hR1 => ?_)
  exact kk hΦ hR1 H1 locs1 la hh hW1 hS1 hR1
end CALLS
theorem qn_max (hX : qOk X cc own nL ret Ts fr lo) {index : Nat} {a b v : Int} (ra : in32 a) (rb : in32 b) (hd : decode cc pc = .ok (.invokestatic index, 3)) (hl : Cond.methodLink own index Lib.Math.max.name ∈ Ts) (hs : Cond.static Lib.Math.max.name ∈ Ts) (hi : Cond.initialized "java/lang/Math" ∈ Ts) (hcd : Cond.code Lib.Math.max.name Lib.Math.max.code 2 (some .int) ∈ Ts) (hrm : Nat.ble 1 fr = true ∧ Nat.ble ((st.map fun v => v.category).sum + 13) lo = true) (hv : v = max a b) (kk : qN X nL (pc + 3) ls (.int (iZ v) :: st) μ) : qN X nL pc ls (.int (iZ b) :: .int (iZ a) :: st) μ := by
  intro H locs la hh hW hS hR
  have ok := hX.2.2.2.2.1
  refine va_mmax hX.1 hX.2.1 (hX.2.2.1.trans hh.1.symm) hX.2.2.2.1 (ok _ hl) (ok _ hs) (ok _ hi) (ok _ hcd) (by rw [← hX.2.2.2.2.2.2.2.1]; exact Nat.le_of_ble_eq_true hrm.1) (by rw [← hX.2.2.2.2.2.2.2.2.1]; exact Nat.le_of_ble_eq_true hrm.2) (Nat.zero_le _) (Nat.zero_le _) hd ?_
  have e : (if iZ a < iZ b then iZ b else iZ a) = iZ v := by
    rw [hv]
    by_cases h : a < b
    · rw [Int.max_eq_right (Int.le_of_lt h), if_pos ((iZ_lt ra rb).mpr h)]
    · rw [Int.max_eq_left (Int.not_lt.mp h), if_neg (fun q => h ((iZ_lt ra rb).mp q))]
  first | (rw [e]; exact kk H locs la hh hW hS hR) | skip
theorem in32_max {a b : Int} (ha : in32 a) (hb : in32 b) : in32 (max a b) := by
  rcases Int.le_total a b with h | h
  · rw [Int.max_eq_right h]; exact hb
  · rw [Int.max_eq_left h]; exact ha
end QN7
theorem qr_0 {G : qG} (hT : qT G) {a : Nat} (h : gK G a = 1) : gK G (gR G 0 a) = 4060 := hT.r (by decide) h
theorem qr_2 {G : qG} (hT : qT G) {a : Nat} (h : gK G a = 1) : gK G (gR G 2 a) = 1002 := hT.r (by decide) h
theorem qr_3 {G : qG} (hT : qT G) {a : Nat} (h : gK G a = 1) : gK G (gR G 3 a) = 1002 := hT.r (by decide) h
theorem qr_200 {G : qG} (hT : qT G) {a : Nat} (h : gK G a = 3) : gK G (gR G 200 a) = 1 := hT.r (by decide) h
theorem qr_201 {G : qG} (hT : qT G) {a : Nat} (h : gK G a = 3) : gK G (gR G 201 a) = 4 := hT.r (by decide) h
theorem qr_202 {G : qG} (hT : qT G) {a : Nat} (h : gK G a = 3) : gK G (gR G 202 a) = 6 := hT.r (by decide) h
theorem qr_203 {G : qG} (hT : qT G) {a : Nat} (h : gK G a = 3) : gK G (gR G 203 a) = 2 := hT.r (by decide) h
theorem qr_204 {G : qG} (hT : qT G) {a : Nat} (h : gK G a = 3) : gK G (gR G 204 a) = 5 := hT.r (by decide) h
theorem qr_300 {G : qG} (hT : qT G) {a : Nat} (h : gK G a = 4) : gK G (gR G 300 a) = 5060 := hT.r (by decide) h
theorem qr_305 {G : qG} (hT : qT G) {a : Nat} (h : gK G a = 4) : gK G (gR G 305 a) = 1010 := hT.r (by decide) h
theorem qr_306 {G : qG} (hT : qT G) {a : Nat} (h : gK G a = 4) : gK G (gR G 306 a) = 3010 := hT.r (by decide) h
theorem qr_500 {G : qG} (hT : qT G) {a : Nat} (h : gK G a = 6) : gK G (gR G 500 a) = 4068 := hT.r (by decide) h
theorem qr_501 {G : qG} (hT : qT G) {a : Nat} (h : gK G a = 6) : gK G (gR G 501 a) = 1068 := hT.r (by decide) h
theorem qr_502 {G : qG} (hT : qT G) {a : Nat} (h : gK G a = 6) : gK G (gR G 502 a) = 1068 := hT.r (by decide) h
theorem qr_503 {G : qG} (hT : qT G) {a : Nat} (h : gK G a = 6) : gK G (gR G 503 a) = 1068 := hT.r (by decide) h
theorem qr_504 {G : qG} (hT : qT G) {a : Nat} (h : gK G a = 6) : gK G (gR G 504 a) = 1068 := hT.r (by decide) h
theorem qr_505 {G : qG} (hT : qT G) {a : Nat} (h : gK G a = 6) : gK G (gR G 505 a) = 1068 := hT.r (by decide) h
theorem qr_600 {G : qG} (hT : qT G) {a : Nat} (h : gK G a = 7) : gK G (gR G 600 a) = 1500 := hT.r (by decide) h
theorem qr_609 {G : qG} (hT : qT G) {a : Nat} (h : gK G a = 7) : gK G (gR G 609 a) = 1003 := hT.r (by decide) h
theorem qr_700 {G : qG} (hT : qT G) {a : Nat} (h : gK G a = 8) : gK G (gR G 700 a) = 3 := hT.r (by decide) h
theorem qr_701 {G : qG} (hT : qT G) {a : Nat} (h : gK G a = 8) : gK G (gR G 701 a) = 3 := hT.r (by decide) h
theorem qr_702 {G : qG} (hT : qT G) {a : Nat} (h : gK G a = 8) : gK G (gR G 702 a) = 7 := hT.r (by decide) h
theorem qr_800 {G : qG} (hT : qT G) {a : Nat} (h : gK G a = 9) : gK G (gR G 800 a) = 1684 := hT.r (by decide) h
theorem qr_801 {G : qG} (hT : qT G) {a : Nat} (h : gK G a = 9) : gK G (gR G 801 a) = 1684 := hT.r (by decide) h
theorem qr_802 {G : qG} (hT : qT G) {a : Nat} (h : gK G a = 9) : gK G (gR G 802 a) = 3010 := hT.r (by decide) h
theorem qr_803 {G : qG} (hT : qT G) {a : Nat} (h : gK G a = 9) : gK G (gR G 803 a) = 3010 := hT.r (by decide) h
theorem qr_806 {G : qG} (hT : qT G) {a : Nat} (h : gK G a = 9) : gK G (gR G 806 a) = 1070 := hT.r (by decide) h
theorem qr_807 {G : qG} (hT : qT G) {a : Nat} (h : gK G a = 9) : gK G (gR G 807 a) = 1070 := hT.r (by decide) h
theorem qr_808 {G : qG} (hT : qT G) {a : Nat} (h : gK G a = 9) : gK G (gR G 808 a) = 1070 := hT.r (by decide) h
theorem qr_809 {G : qG} (hT : qT G) {a : Nat} (h : gK G a = 9) : gK G (gR G 809 a) = 1070 := hT.r (by decide) h
theorem qr_810 {G : qG} (hT : qT G) {a : Nat} (h : gK G a = 9) : gK G (gR G 810 a) = 1070 := hT.r (by decide) h
theorem qr_821 {G : qG} (hT : qT G) {a : Nat} (h : gK G a = 9) : gK G (gR G 821 a) = 2500 := hT.r (by decide) h
theorem qr_830 {G : qG} (hT : qT G) {a : Nat} (h : gK G a = 9) : gK G (gR G 830 a) = 1650 := hT.r (by decide) h
theorem qn_startF {l : Launch} {y : MethodName} {ws ws' : List Cond} {fr lo nL : Nat} {G : qG} {av : List Value} {μ ν : qM} {rv : Option Value} {Φ : Prop} {cc : ByteArray} {ret : Option FieldType} (hT : qT G)
    (hy : plainFor y = true) (hw : ws = Cond.code y cc nL ret :: ws') (hn : (lg_sl av).length ≤ nL)
    (k : ∀ X : qB, xr X = rv → xΦ X = Φ → xμ X = ν → xG X = G → qOk X cc y.cls nL ret ws fr lo → qR G μ → qN X nL 0 (lv_args 0 av) [] μ) : qC l y ws fr lo G av μ rv Φ ν := by
  intro sz
  refine va_MetF (cc := cc) (maxL := nL) (ret := ret) hy hw ?_
  intro p e s m args below meth c s₁ B hml hv
  obtain ⟨rfl, hsz, hW, hK, hR, hZ⟩ := hv
  have hl := lv_entry av (n := nL) hn
  rw [lg_entry_eq]
  subst hsz
  exact k (p, l, e, _, s, m, _, below, meth, c, G, rv, Φ, ν) rfl rfl rfl rfl
    ⟨B.exec, B.bytes, hml, findClass_of_methodNamed B.named, atoms_spec (ws := ws) B.pre, B.notSynchronized, B.returns, rfl, rfl, hK, hT, hZ⟩ hR _ _ _ hl hW va_S.rf hR
