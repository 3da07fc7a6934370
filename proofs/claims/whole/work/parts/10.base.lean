/-! THE BASE: whole numbers for the machine's ints, one memory for all cells, a row an instruction over it -/
def iI (a : Int) : Int32 := Int32.ofInt a
def iL (a : Int) : Int64 := Int64.ofInt a
def rg (a : Int) : Prop := -2147483648 ≤ a ∧ a < 2147483648
def rl (a : Int) : Prop := -9223372036854775808 ≤ a ∧ a < 9223372036854775808
theorem iI_toInt {a : Int} (h : rg a) : (iI a).toInt = a := Int32.toInt_ofInt_of_le (by have := h.1; omega) (by have := h.2; omega)
theorem iI_of (v : Int32) : iI v.toInt = v := Int32.ofInt_toInt v
theorem rg_of (v : Int32) : rg v.toInt := by
  have h1 := Int32.le_toInt v
  have h2 := Int32.toInt_lt v
  constructor <;> omega
theorem iI_lt {a b : Int} (ha : rg a) (hb : rg b) : iI a < iI b ↔ a < b := by rw [Int32.lt_iff_toInt_lt, iI_toInt ha, iI_toInt hb]
theorem iI_le {a b : Int} (ha : rg a) (hb : rg b) : iI a ≤ iI b ↔ a ≤ b := by rw [Int32.le_iff_toInt_le, iI_toInt ha, iI_toInt hb]
theorem iI_eq {a b : Int} (ha : rg a) (hb : rg b) : iI a = iI b ↔ a = b := by rw [← Int32.toInt_inj, iI_toInt ha, iI_toInt hb]
theorem iI_cl {a : Int} (h : rg a) : (iI a).toNatClampNeg = a.toNat := by
  show (iI a).toInt.toNat = _
  rw [iI_toInt h]
theorem rg_in {a : Int} {n : Nat} (h0 : 0 ≤ a) (h1 : a < n) (hn : n < 2 ^ 31) : rg a := by constructor <;> omega
theorem iI_in {a : Int} {n : Nat} (h0 : 0 ≤ a) (h1 : a < n) (hn : n < 2 ^ 31) : vp_in (iI a) n := by
  rw [vp_in_iff, iI_toInt (rg_in h0 h1 hn)]
  exact ⟨h0, h1⟩
theorem iI_add (a b : Int) : iI a + iI b = iI (a + b) := (Int32.ofInt_add a b).symm
theorem iI_sub (a b : Int) : iI a - iI b = iI (a - b) := (Int32.ofInt_sub a b).symm
theorem iI_mul (a b : Int) : iI a * iI b = iI (a * b) := (Int32.ofInt_mul a b).symm
theorem iI_neg (a : Int) : - iI a = iI (-a) := (Int32.ofInt_neg a).symm
theorem iI_div {a b : Int} (ha : rg a) (hb : rg b) (h0 : 0 ≤ a) (h1 : 0 < b) : iI a / iI b = iI (a / b) := by
  rw [← Int32.toInt_inj, Int32.toInt_div_of_ne_right _ _ (fun h => by
    have h2 := congrArg Int32.toInt h
    rw [iI_toInt hb] at h2
    have h3 : (-1 : Int32).toInt = -1 := by decide
    rw [h3] at h2
    omega), iI_toInt ha, iI_toInt hb, Int.tdiv_eq_ediv_of_nonneg h0, iI_toInt]
  have h4 : a / b ≤ a := Int.ediv_le_self b h0
  have h5 : 0 ≤ a / b := Int.ediv_nonneg h0 (by omega)
  exact ⟨by omega, by have := ha.2; omega⟩
theorem iI_rem {a b : Int} (ha : rg a) (hb : rg b) (h0 : 0 ≤ a) (h1 : 0 < b) : iI a - iI a / iI b * iI b = iI (a % b) := by
  rw [iI_div ha hb h0 h1, iI_mul, iI_sub]
  congr 1
  have := Int.emod_add_mul_ediv a b
  have h2 : a / b * b = b * (a / b) := Int.mul_comm _ _
  omega
theorem iI_n0 {b : Int} (hb : rg b) (h1 : 0 < b) : ¬ iI b = 0 := by
  intro h
  have h2 : iI b = iI 0 := h
  rw [iI_eq hb ⟨by omega, by omega⟩] at h2
  omega
theorem iL_toInt {a : Int} (h : rl a) : (iL a).toInt = a := Int64.toInt_ofInt_of_le (by have := h.1; omega) (by have := h.2; omega)
theorem iL_lt {a b : Int} (ha : rl a) (hb : rl b) : iL a < iL b ↔ a < b := by rw [Int64.lt_iff_toInt_lt, iL_toInt ha, iL_toInt hb]
theorem iL_eq {a b : Int} (ha : rl a) (hb : rl b) : iL a = iL b ↔ a = b := by rw [← Int64.toInt_inj, iL_toInt ha, iL_toInt hb]
theorem iL_add (a b : Int) : iL a + iL b = iL (a + b) := (Int64.ofInt_add a b).symm
theorem iL_sub (a b : Int) : iL a - iL b = iL (a - b) := (Int64.ofInt_sub a b).symm
theorem iL_mul (a b : Int) : iL a * iL b = iL (a * b) := (Int64.ofInt_mul a b).symm
theorem iL_div {a b : Int} (ha : rl a) (hb : rl b) (h0 : 0 ≤ a) (h1 : 0 < b) : iL a / iL b = iL (a / b) := by
  rw [← Int64.toInt_inj, Int64.toInt_div_of_ne_right _ _ (fun h => by
    have h2 := congrArg Int64.toInt h
    rw [iL_toInt hb] at h2
    have h3 : (-1 : Int64).toInt = -1 := by decide
    rw [h3] at h2
    omega), iL_toInt ha, iL_toInt hb, Int.tdiv_eq_ediv_of_nonneg h0, iL_toInt]
  have h4 : a / b ≤ a := Int.ediv_le_self b h0
  have h5 : 0 ≤ a / b := Int.ediv_nonneg h0 (by omega)
  exact ⟨by omega, by have := ha.2; omega⟩
theorem iL_n0 {b : Int} (hb : rl b) (h1 : 0 < b) : ¬ iL b = 0 := by
  intro h
  have h2 : iL b = iL 0 := h
  rw [iL_eq hb ⟨by omega, by omega⟩] at h2
  omega
theorem iI_l {a : Int} (h : rg a) : (iI a).toInt64 = iL a := by
  rw [← Int64.toInt_inj, Int32.toInt_toInt64, iI_toInt h, iL_toInt]
  have := h.1; have := h.2
  constructor <;> omega
theorem iL_i (a : Int) : (iL a).toInt32 = iI a := Int64.toInt32_ofInt
/-- a memory: a number for every cell and place -/
abbrev Mm : Type := Nat → Nat → Int
def up2 (x : Mm) (c k : Nat) (v : Int) : Mm := fun c' k' => if c' = c ∧ k' = k then v else x c' k'
theorem up2_s (x : Mm) (c k : Nat) (v : Int) : up2 x c k v c k = v := by simp [up2]
theorem up2_c {x : Mm} {c k : Nat} {v : Int} {c' : Nat} (k' : Nat) (h : c' ≠ c) : up2 x c k v c' k' = x c' k' := by simp [up2, h]
theorem up2_k {x : Mm} {c k : Nat} {v : Int} {k' : Nat} (c' : Nat) (h : k' ≠ k) : up2 x c k v c' k' = x c' k' := by simp [up2, h]
theorem up2_row {x : Mm} {c k : Nat} {v : Int} {c' : Nat} (h : c' ≠ c) : up2 x c k v c' = x c' := by funext k'; exact up2_c k' h
/-- the lengths of the arrays of numbers (0: another cell) -/
def al (c : Nat) : Nat := ([0, 0, 0, 0, 81, 81, 10, 10, 0, 0, 4, 4, 0, 4, 4, 4, 0, 512, 10, 10, 0, 4, 20, 0, 4, 20, 0, 4, 20, 0, 4, 20, 0, 10, 0, 10, 0, 10, 0, 10, 0, 10, 0, 10, 0, 10, 0, 10, 0, 10, 0, 10, 0, 10, 0, 10, 0, 0, 0, 0, 0, 16, 4, 80, 48, 12, 12, 12, 0, 4, 4, 4, 81, 501, 4] : List Nat).getD c 0
/-- what stands in a cell, by its number and its row of numbers -/
def cellOf (cy : Nat → ClassId) (ad : Nat → Nat) (c : Nat) (r : Nat → Int) : va_E :=
  if al c = 0 then
    if c = 0 then .inr (6, [.ref (ad 1), .ref (ad 2), .ref (ad 8), .ref (ad 12), .ref (ad 16), .ref (ad 18), .ref (ad 19), .int (iI (r 7)), .int (iI (r 8)), .int (iI (r 9))])
    else if c = 1 then .inl (cy 2, 4, .inr (.inr (.inr (.inr (fun i => some (ad (20 + 3 * i)))))))
    else if c = 2 then .inr (2, [.ref (ad 3), .int (iI (r 1)), .ref (ad 4), .ref (ad 5), .int (iI (r 4)), .ref (ad 6), .ref (ad 7)])
    else if c = 3 then .inl (cy 3, 12, .inr (.inr (.inr (.inr (fun i => some (ad (32 + 2 * (r i).toNat)))))))
    else if c = 8 then .inr (0, [.ref (ad 9), .ref (ad 10), .ref (ad 11)])
    else if c = 9 then .inl (cy 1, 4, .inl (fun k => iI (r k)))
    else if c = 12 then .inr (3, [.ref (ad 13), .ref (ad 14), .ref (ad 15), .int (iI (r 3)), .int (iI (r 4))])
    else if c = 16 then .inr (1, [.ref (ad 17)])
    else if c < 32 then .inr (4, [.ref (ad (c + 1)), .ref (ad (c + 2)), .int (iI (r 2))])
    else if c < 56 then .inr (5, [.ref (ad (c + 1)), .int (iI (r 1)), .int (iI (r 2))])
    else if c = 68 then .inl (cy 1, 4, .inl (fun k => iI (r k)))
    else .inr (7, [.int (iI (r 0)), .ref (ad 61), .int (iI (r 2)), .ref (ad 62), .ref (ad 63), .int (iI (r 5)), .ref (ad 64), .ref (ad 65), .ref (ad 66), .ref (ad 67), .ref (ad 68), .ref (ad 69), .ref (ad 70), .int (iI (r 13)), .ref (ad 71), .int (iI (r 15)), .ref (ad 72), .ref (ad 73), .ref (ad 74), .int (iI (r 19))])
  else .inl (cy 0, al c, .inl (fun k => iI (r k)))
theorem cell_al {cy : Nat → ClassId} {ad : Nat → Nat} {c n : Nat} (r : Nat → Int) (h : al c = n) (h0 : n ≠ 0) : cellOf cy ad c r = .inl (cy 0, n, .inl (fun k => iI (r k))) := by
  subst h
  rw [cellOf, if_neg h0]
theorem al_pl : ∀ j, j < 4 → al (20 + 3 * j) = 0 ∧ al (20 + 3 * j + 1) = 4 ∧ al (20 + 3 * j + 2) = 20 := by decide +kernel
theorem al_tp : ∀ j, j < 12 → al (32 + 2 * j) = 0 ∧ al (32 + 2 * j + 1) = 10 := by decide +kernel
theorem cell_pl {cy : Nat → ClassId} {ad : Nat → Nat} {j : Nat} (r : Nat → Int) (h : j < 4) : cellOf cy ad (20 + 3 * j) r = .inr (4, [.ref (ad (20 + 3 * j + 1)), .ref (ad (20 + 3 * j + 2)), .int (iI (r 2))]) := by
  rw [cellOf, if_pos (al_pl j h).1, if_neg (by omega), if_neg (by omega), if_neg (by omega), if_neg (by omega), if_neg (by omega), if_neg (by omega), if_neg (by omega), if_neg (by omega), if_pos (by omega)]
theorem cell_tp {cy : Nat → ClassId} {ad : Nat → Nat} {j : Nat} (r : Nat → Int) (h : j < 12) : cellOf cy ad (32 + 2 * j) r = .inr (5, [.ref (ad (32 + 2 * j + 1)), .int (iI (r 1)), .int (iI (r 2))]) := by
  rw [cellOf, if_pos (al_tp j h).1, if_neg (by omega), if_neg (by omega), if_neg (by omega), if_neg (by omega), if_neg (by omega), if_neg (by omega), if_neg (by omega), if_neg (by omega), if_neg (by omega), if_pos (by omega)]
/-- the world of the cells of a list -/
def wd (cy : Nat → ClassId) (L : List Nat) (ad : Nat → Nat) (x : Mm) : va_W := L.map (fun c => (ad c, cellOf cy ad c (x c)))
theorem wd_get {cy : Nat → ClassId} {L : List Nat} {ad : Nat → Nat} (x : Mm) {c : Nat} (h : c ∈ L) : ∃ k : Nat, L[k]? = some c ∧ (wd cy L ad x)[k]? = some (ad c, cellOf cy ad c (x c)) := by
  obtain ⟨k, hk⟩ := List.getElem?_of_mem h
  exact ⟨k, hk, by simp [wd, hk]⟩
theorem wd_at {cy : Nat → ClassId} {L : List Nat} {ad : Nat → Nat} {x : Mm} {k : Nat} {q : Nat × va_E} (h : (wd cy L ad x)[k]? = some q) : ∃ c, L[k]? = some c ∧ q = (ad c, cellOf cy ad c (x c)) := by
  simp only [wd, List.getElem?_map, Option.map_eq_some_iff] at h
  obtain ⟨c, h1, h2⟩ := h
  exact ⟨c, h1, h2.symm⟩
theorem wd_set {cy : Nat → ClassId} {L : List Nat} {ad : Nat → Nat} {x x' : Mm} {A : Nat → Prop} {c k : Nat} {e : va_E} (hD : va_D A (wd cy L ad x)) (hk : L[k]? = some c) (ho : ∀ c', c' ≠ c → x' c' = x c') (he : e = cellOf cy ad c (x' c)) : (wd cy L ad x).set k (ad c, e) = wd cy L ad x' := by
  subst he
  apply List.ext_getElem?
  intro j
  rw [List.getElem?_set]
  by_cases hj : k = j
  · subst hj
    have hl : k < (wd cy L ad x).length := by simp [wd]; exact (List.getElem?_eq_some_iff.mp hk).1
    rw [if_pos rfl, if_pos hl]
    simp only [wd, List.getElem?_map, hk, Option.map_some]
  · rw [if_neg hj]
    simp only [wd, List.getElem?_map]
    cases hq : L[j]? with
    | none => rfl
    | some c' =>
      have hc : c' ≠ c := by
        intro h
        subst h
        exact hj (hD.1 k j _ _ (by simp only [wd, List.getElem?_map, hk]; rfl) (by simp only [wd, List.getElem?_map, hq]; rfl) rfl)
      simp [ho c' hc]
/-- what a method may change -/
def fAr (L : List Nat) (ad : Nat → Nat) (sz : Nat) : Nat → Prop := fun q => (∃ c, c ∈ L ∧ ad c = q) ∨ sz ≤ q
abbrev fty (cy : Nat → ClassId) : List (ClassId × FieldType) := [(cy 0, .int), (cy 1, .boolean), (cy 2, .object RX4), (cy 3, .object RX6)]
/-- the links to private members of nest mates -/
def fNw (U : State) : Prop := va_Nw (.methodLinkNest RX0 22 yX7_isTone RX7) U ∧ va_Nw (.methodLinkNest RX4 22 yX7_isStrip RX7) U ∧ va_Nw (.methodLinkNest RX2 37 yX6_init RX7) U ∧ va_Nw (.methodLinkNest RX7 24 yX0_init RX7) U ∧ va_Nw (.methodLinkNest RX7 31 yX3_init RX7) U ∧ va_Nw (.methodLinkNest RX7 38 yX1_init RX7) U ∧ va_Nw (.methodLinkNest RX7 60 yX4_init RX7) U
theorem fNw.warm {s U : State} (hW : s.WarmedH U.vm) (h : fNw s) : fNw U := ⟨va_Nw.warmM hW h.1, va_Nw.warmM hW h.2.1, va_Nw.warmM hW h.2.2.1, va_Nw.warmM hW h.2.2.2.1, va_Nw.warmM hW h.2.2.2.2.1, va_Nw.warmM hW h.2.2.2.2.2.1, va_Nw.warmM hW h.2.2.2.2.2.2⟩
theorem fNw.same {u U : State} (h : u.vm = U.vm) (hZ : fNw u) : fNw U := ⟨va_Nw.same rfl h hZ.1, va_Nw.same rfl h hZ.2.1, va_Nw.same rfl h hZ.2.2.1, va_Nw.same rfl h hZ.2.2.2.1, va_Nw.same rfl h hZ.2.2.2.2.1, va_Nw.same rfl h hZ.2.2.2.2.2.1, va_Nw.same rfl h hZ.2.2.2.2.2.2⟩
/-- the world between the instructions of a method -/
def fG (D : va_G) (cy : Nat → ClassId) (L : List Nat) (ad : Nat → Nat) (A : Nat → Prop) (s : State) (x : Mm) (H : Heap) (locs : List Loc) : Prop :=
  va_K D vwCl (fty cy) s ∧ va_P D vwCl (wd cy L ad x) H ∧ va_D A (wd cy L ad x) ∧ va_S A s.heap H locs ∧ (∀ q, s.heap.size ≤ q → A q) ∧ fNw s
/-- a contract's start and ends -/
def fPre (D : va_G) (cy : Nat → ClassId) (L : List Nat) (ad : Nat → Nat) (sz : Nat) (x : Mm) : State → Prop := fun U => U.heap.size = sz ∧ va_K D vwCl (fty cy) U ∧ va_P D vwCl (wd cy L ad x) U.heap ∧ va_D (fun _ => True) (wd cy L ad x) ∧ fNw U
def fPost (D : va_G) (cy : Nat → ClassId) (L : List Nat) (ad : Nat → Nat) (sz : Nat) : Mm → State → Prop := fun x' t => va_P D vwCl (wd cy L ad x') t.heap ∧ va_D (fAr L ad sz) (wd cy L ad x')
abbrev fMi (l : Launch) (y : MethodName) (ws : List Cond) (rm : Room) (av : List Value) (D : va_G) (cy : Nat → ClassId) (L : List Nat) (ad : Nat → Nat) (sz : Nat) (x : Mm) (post : Int → Mm → Prop) : Prop :=
  Met l y ws rm (va_Pc av (fPre D cy L ad sz x)) (va_Qi (fun r x' => ∃ z, r = iI z ∧ post z x') (fPost D cy L ad sz) (fAr L ad sz)) 0 0 (fAr L ad sz)
abbrev fMl (l : Launch) (y : MethodName) (ws : List Cond) (rm : Room) (av : List Value) (D : va_G) (cy : Nat → ClassId) (L : List Nat) (ad : Nat → Nat) (sz : Nat) (x : Mm) (post : Int → Mm → Prop) : Prop :=
  Met l y ws rm (va_Pc av (fPre D cy L ad sz x)) (va_Ql (fun r x' => ∃ z, r = iL z ∧ post z x') (fPost D cy L ad sz) (fAr L ad sz)) 0 0 (fAr L ad sz)
abbrev fMv (l : Launch) (y : MethodName) (ws : List Cond) (rm : Room) (av : List Value) (D : va_G) (cy : Nat → ClassId) (L : List Nat) (ad : Nat → Nat) (sz : Nat) (x : Mm) (post : Mm → Prop) : Prop :=
  Met l y ws rm (va_Pc av (fPre D cy L ad sz x)) (va_Qv (fun x' => post x') (fPost D cy L ad sz) (fAr L ad sz)) 0 0 (fAr L ad sz)
