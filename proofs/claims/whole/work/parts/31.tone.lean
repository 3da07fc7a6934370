/-! BONDS, COUNT, WHOLE VALUES -/
def mn2 (a b : Int) : Int := if b ≤ a then b else a
def cub (s t : Int) : Int := ((s * t) * t) * t
def bnd (t : Nat → Int) (s : Int) (i : Nat) : Int := if i = 0 then cub s (t 0) / 32 + 1 else if 4 ≤ i then cub s (t 3) / 32 + 1 else cub s (mn2 (t (i - 1)) (t i)) / 8 + 1
def tok (t : Nat → Int) : Prop := ∀ k, k < 4 → 1 ≤ t k ∧ t k ≤ 9
def sok (s : Int) : Prop := 1 ≤ s ∧ s ≤ 9
theorem mul_bd {a b A B : Int} (ha : 0 ≤ a) (hb : 0 ≤ b) (h1 : a ≤ A) (h2 : b ≤ B) : 0 ≤ a * b ∧ a * b ≤ A * B := ⟨Int.mul_nonneg ha hb, Int.mul_le_mul h1 h2 hb (by omega)⟩
theorem cub_bd {s t : Int} (hs : sok s) (h1 : 1 ≤ t) (h2 : t ≤ 9) : 0 ≤ cub s t ∧ cub s t ≤ 6561 := by
  unfold cub
  have a1 := mul_bd (a := s) (b := t) (by have := hs.1; omega) (by omega) hs.2 h2
  have a2 := mul_bd (a := s * t) (b := t) a1.1 (by omega) a1.2 h2
  have a3 := mul_bd (a := s * t * t) (b := t) a2.1 (by omega) a2.2 h2
  constructor <;> omega
theorem cub_mono {s s' t : Int} (h : s ≤ s') (h1 : 1 ≤ t) : cub s t ≤ cub s' t := by
  unfold cub
  exact Int.mul_le_mul_of_nonneg_right (Int.mul_le_mul_of_nonneg_right (Int.mul_le_mul_of_nonneg_right h (by omega)) (by omega)) (by omega)
theorem cub_up {s t t' : Int} (hs : 1 ≤ s) (h0 : 1 ≤ t) (h : t ≤ t') : cub s t ≤ cub s t' := by
  unfold cub
  have a1 := mul_bd (a := s) (b := t) (by omega) (by omega) (Int.le_refl s) h
  have a2 := mul_bd (a := s * t) (b := t) a1.1 (by omega) a1.2 h
  have a3 := mul_bd (a := s * t * t) (b := t) a2.1 (by omega) a2.2 h
  exact a3.2
theorem mn2_bd {a b : Int} : mn2 a b ≤ a ∧ mn2 a b ≤ b ∧ (mn2 a b = a ∨ mn2 a b = b) := by unfold mn2; split <;> omega
theorem bnd_bd {t : Nat → Int} {s : Int} (ht : tok t) (hs : sok s) (i : Nat) : 1 ≤ bnd t s i ∧ bnd t s i ≤ 821 := by
  unfold bnd
  split
  · have := cub_bd hs (ht 0 (by omega)).1 (ht 0 (by omega)).2; omega
  · split
    · have := cub_bd hs (ht 3 (by omega)).1 (ht 3 (by omega)).2; omega
    · have h1 := ht (i - 1) (by omega)
      have h2 := ht i (by omega)
      have h3 := mn2_bd (a := t (i - 1)) (b := t i)
      have := cub_bd (t := mn2 (t (i - 1)) (t i)) hs (by omega) (by omega); omega
theorem bnd_mono {t : Nat → Int} {s s' : Int} (ht : tok t) (h : s ≤ s') (i : Nat) : bnd t s i ≤ bnd t s' i := by
  unfold bnd
  split
  · have := cub_mono h (ht 0 (by omega)).1; omega
  · split
    · have := cub_mono h (ht 3 (by omega)).1; omega
    · have h1 := ht (i - 1) (by omega)
      have h2 := ht i (by omega)
      have h3 := mn2_bd (a := t (i - 1)) (b := t i)
      have := cub_mono (t := mn2 (t (i - 1)) (t i)) h (by omega); omega
def z1 (t : Nat → Int) (s y : Int) : Sn := (0, bnd t s 0 - y * t 0, 1)
def z2 (t : Nat → Int) (s y : Int) : Sn := sn (bnd t s 1) (y * t 1) (z1 t s y)
def z3 (t : Nat → Int) (s y : Int) : Sn := sn (bnd t s 2) (y * t 2) (z2 t s y)
def z4 (t : Nat → Int) (s y : Int) : Sn := sn (bnd t s 3) (y * t 3) (z3 t s y)
def z5 (t : Nat → Int) (s y : Int) : Sn := sn (bnd t s 4) 0 (z4 t s y)
/-- how many values are below y -/
def cn (t : Nat → Int) (s y : Int) : Int := (z5 t s y).1
theorem cn_mono {t : Nat → Int} {s s' y y' : Int} (ht : tok t) (hs : sok s) (h : s ≤ s') (hy : y' ≤ y) : cn t s' y' ≤ cn t s y := by
  have hb : ∀ i, 0 < bnd t s i := fun i => by have := (bnd_bd ht hs i).1; omega
  have hb' : ∀ i, 0 < bnd t s' i := fun i => by have := (bnd_bd ht hs i).1; have := bnd_mono ht h i; omega
  have hm : ∀ i, i < 4 → y' * t i ≤ y * t i := fun i hi => Int.mul_le_mul_of_nonneg_right hy (by have := (ht i hi).1; omega)
  have n1 : nrm (z1 t s y) := Or.inl (by show (0 : Int) < 1; decide)
  have n1' : nrm (z1 t s' y') := Or.inl (by show (0 : Int) < 1; decide)
  have o1 : ord (z1 t s y) (z1 t s' y') := by
    right
    refine ⟨rfl, ?_⟩
    show (bnd t s 0 - y * t 0) * 1 ≤ (bnd t s' 0 - y' * t 0) * 1
    have := bnd_mono ht h 0
    have := hm 0 (by omega)
    omega
  have o2 := sn_ord (hb 1) (bnd_mono ht h 1) (hm 1 (by omega)) n1 n1' o1
  have n2 := sn_nrm (μ := y * t 1) (hb 1) n1
  have n2' := sn_nrm (μ := y' * t 1) (hb' 1) n1'
  have o3 := sn_ord (hb 2) (bnd_mono ht h 2) (hm 2 (by omega)) n2 n2' o2
  have n3 := sn_nrm (μ := y * t 2) (hb 2) n2
  have n3' := sn_nrm (μ := y' * t 2) (hb' 2) n2'
  have o4 := sn_ord (hb 3) (bnd_mono ht h 3) (hm 3 (by omega)) n3 n3' o3
  have n4 := sn_nrm (μ := y * t 3) (hb 3) n3
  have n4' := sn_nrm (μ := y' * t 3) (hb' 3) n3'
  have o5 := sn_ord (hb 4) (bnd_mono ht h 4) (Int.le_refl 0) n4 n4' o4
  rcases o5 with o | ⟨o, -⟩
  · exact Int.le_of_lt o
  · exact Int.le_of_eq o.symm
theorem sn_n (b μ : Int) (z : Sn) : (sn b μ z).1 = z.1 ∨ (sn b μ z).1 = z.1 + 1 := by unfold sn; split <;> simp
theorem cn_bd (t : Nat → Int) (s y : Int) : 0 ≤ cn t s y ∧ cn t s y ≤ 4 := by
  have e1 : (z1 t s y).1 = 0 := rfl
  have e2 := sn_n (bnd t s 1) (y * t 1) (z1 t s y)
  have e3 := sn_n (bnd t s 2) (y * t 2) (z2 t s y)
  have e4 := sn_n (bnd t s 3) (y * t 3) (z3 t s y)
  have e5 := sn_n (bnd t s 4) 0 (z4 t s y)
  unfold cn z5
  unfold z4 at e5 ⊢
  unfold z3 at e4 e5 ⊢
  unfold z2 at e3 e4 e5 ⊢
  omega
theorem sn_pos {b : Int} {z : Sn} (hb : 0 < b) (h : 0 < z.2.1 ∧ 0 < z.2.2) : (sn b 0 z).1 = z.1 ∧ 0 < (sn b 0 z).2.1 ∧ 0 < (sn b 0 z).2.2 := by
  have h1 : 0 < b * z.2.2 := Int.mul_pos hb h.2
  have h2 : 0 < b * z.2.1 := Int.mul_pos hb h.1
  unfold sn
  rw [if_neg (by omega)]
  refine ⟨rfl, ?_, ?_⟩
  · show 0 < b * z.2.1 - 0 * (z.2.1 + b * z.2.2); simp only [Int.zero_mul]; omega
  · show 0 < z.2.1 + b * z.2.2; omega
theorem cn_0 {t : Nat → Int} {s : Int} (ht : tok t) (hs : sok s) : cn t s 0 = 0 := by
  have hb : ∀ i, 0 < bnd t s i := fun i => by have := (bnd_bd ht hs i).1; omega
  have p1 : 0 < (z1 t s 0).2.1 ∧ 0 < (z1 t s 0).2.2 := ⟨by show 0 < bnd t s 0 - 0 * t 0; have := hb 0; simp only [Int.zero_mul]; omega, by show (0 : Int) < 1; decide⟩
  have p2 := sn_pos (hb 1) p1
  have p3 := sn_pos (hb 2) p2.2
  have p4 := sn_pos (hb 3) p3.2
  have p5 := sn_pos (hb 4) p4.2
  show (sn (bnd t s 4) 0 (sn (bnd t s 3) (0 * t 3) (sn (bnd t s 2) (0 * t 2) (sn (bnd t s 1) (0 * t 1) (z1 t s 0))))).1 = 0
  simp only [Int.zero_mul]
  rw [p5.1, p4.1, p3.1, p2.1]
  rfl
/-- far above all values each step counts -/
def far (b : Int) (z : Sn) : Prop := 0 < z.2.2 ∧ z.2.1 ≤ -(2 * (b * z.2.2))
theorem sn_far {b b' μ : Int} {z : Sn} (hb : 0 < b) (hb' : 0 < b') (hm : 2 * b + 2 * b' ≤ μ) (h : far b z) : (sn b μ z).1 = z.1 + 1 ∧ far b' (sn b μ z) := by
  obtain ⟨n, F, q⟩ := z
  obtain ⟨hq, hF⟩ := h
  dsimp only at hq hF
  have hbq : 0 < b * q := Int.mul_pos hb hq
  unfold sn far
  dsimp only
  rw [if_pos (by omega)]
  refine ⟨rfl, ?_, ?_⟩
  · show 0 < -(F + b * q); omega
  · show -(b * F - μ * (F + b * q)) ≤ -(2 * (b' * -(F + b * q)))
    generalize hP : -(F + b * q) = P
    have e1 : F + b * q = -P := by omega
    have e2 : F = -P - b * q := by omega
    rw [e1, e2]
    have e3 : -(b * (-P - b * q) - μ * -P) = b * P + b * (b * q) - μ * P := by grind
    rw [e3]
    have hPq : b * q ≤ P := by omega
    have t1 : b * (b * q) ≤ b * P := Int.mul_le_mul_of_nonneg_left hPq (by omega)
    have t2 : (2 * b + 2 * b') * P ≤ μ * P := Int.mul_le_mul_of_nonneg_right hm (by omega)
    have e4 : (2 * b + 2 * b') * P = 2 * (b * P) + 2 * (b' * P) := by grind
    omega
theorem sn_far1 {b μ : Int} {z : Sn} (hb : 0 < b) (h : far b z) : (sn b μ z).1 = z.1 + 1 := by
  have h1 : 0 < b * z.2.2 := Int.mul_pos hb h.1
  have h2 := h.2
  unfold sn
  rw [if_pos (by omega)]
theorem dom9 : ∀ t : Fin 10, 1 ≤ t.val → 4 * ((((9 * (t.val : Int)) * t.val) * t.val) / 8 + 1) ≤ 365 * (t.val : Int) := by decide +kernel
theorem dom {s t : Int} (hs : sok s) (h1 : 1 ≤ t) (h2 : t ≤ 9) : 4 * (cub s t / 8 + 1) ≤ 365 * t := by
  have h := dom9 ⟨t.toNat, by omega⟩ (by show 1 ≤ t.toNat; omega)
  have e : ((t.toNat : Nat) : Int) = t := by omega
  simp only [e] at h
  have h3 : cub s t ≤ cub 9 t := cub_mono hs.2 h1
  have h4 : cub 9 t = 9 * t * t * t := rfl
  omega
theorem bnd_le {t : Nat → Int} {s : Int} (ht : tok t) (hs : sok s) (i k : Nat) (hk : k < 4) (hi : i = k ∨ i = k + 1) : bnd t s i ≤ cub s (t k) / 8 + 1 := by
  have hc := cub_bd hs (ht k hk).1 (ht k hk).2
  unfold bnd
  split
  · have : k = 0 := by omega
    subst this; omega
  · split
    · have : k = 3 := by omega
      subst this; omega
    · have h1 := ht (i - 1) (by omega)
      have h2 := ht i (by omega)
      have h3 := mn2_bd (a := t (i - 1)) (b := t i)
      have h4 : mn2 (t (i - 1)) (t i) ≤ t k := by
        rcases hi with h | h
        · subst h; exact h3.2.1
        · subst h; exact h3.1
      have := cub_up (s := s) hs.1 (by omega) h4
      omega
theorem cn_far {t : Nat → Int} {s y : Int} (ht : tok t) (hs : sok s) (hy : 365 ≤ y) : cn t s y = 4 := by
  have hb : ∀ i, 0 < bnd t s i := fun i => by have := (bnd_bd ht hs i).1; omega
  have hd : ∀ k, k < 4 → 2 * bnd t s k + 2 * bnd t s (k + 1) ≤ y * t k := by
    intro k hk
    have a1 := bnd_le ht hs k k hk (Or.inl rfl)
    have a2 := bnd_le ht hs (k + 1) k hk (Or.inr rfl)
    have a3 := dom hs (ht k hk).1 (ht k hk).2
    have a4 : 365 * t k ≤ y * t k := Int.mul_le_mul_of_nonneg_right hy (by have := (ht k hk).1; omega)
    omega
  have f1 : far (bnd t s 1) (z1 t s y) := by
    refine ⟨by show (0 : Int) < 1; decide, ?_⟩
    show bnd t s 0 - y * t 0 ≤ -(2 * (bnd t s 1 * 1))
    have := hd 0 (by omega); have := hb 0
    simp only [Nat.zero_add] at *
    omega
  have f2 := sn_far (hb 1) (hb 2) (hd 1 (by omega)) f1
  have f3 := sn_far (hb 2) (hb 3) (hd 2 (by omega)) f2.2
  have f4 := sn_far (hb 3) (hb 4) (hd 3 (by omega)) f3.2
  have f5 := sn_far1 (μ := 0) (hb 4) f4.2
  show (sn (bnd t s 4) 0 (sn (bnd t s 3) (y * t 3) (sn (bnd t s 2) (y * t 2) (sn (bnd t s 1) (y * t 1) (z1 t s y))))).1 = 4
  rw [f5, f4.1, f3.1, f2.1]
  rfl
/-- the k-th value of (s, 1), cut -/
def Vf (t : Nat → Int) (s k : Int) : Nat → Int
  | 0 => 0
  | n + 1 => if cn t s ((n + 1 : Nat) : Int) ≤ k then ((n + 1 : Nat) : Int) else Vf t s k n
def Vv (t : Nat → Int) (s k : Int) : Int := Vf t s k 364
theorem Vf_spec {t : Nat → Int} {s k : Int} (ht : tok t) (hs : sok s) (hk : 0 ≤ k) : ∀ n : Nat, 0 ≤ Vf t s k n ∧ Vf t s k n ≤ n ∧ cn t s (Vf t s k n) ≤ k ∧ ∀ y : Int, Vf t s k n < y → y ≤ n → k < cn t s y := by
  intro n
  induction n with
  | zero => exact ⟨Int.le_refl 0, Int.le_refl 0, by show cn t s 0 ≤ k; rw [cn_0 ht hs]; exact hk, fun y h1 h2 => by have h1 : 0 < y := h1; omega⟩
  | succ n ih =>
    unfold Vf
    split
    · rename_i h
      exact ⟨by omega, by omega, h, fun y h1 h2 => by omega⟩
    · rename_i h
      refine ⟨ih.1, by omega, ih.2.2.1, fun y h1 h2 => ?_⟩
      by_cases e : y = ((n + 1 : Nat) : Int)
      · rw [e]; omega
      · exact ih.2.2.2 y h1 (by omega)
theorem Vv_bd {t : Nat → Int} {s k : Int} (ht : tok t) (hs : sok s) (hk : 0 ≤ k) : 0 ≤ Vv t s k ∧ Vv t s k ≤ 364 := ⟨(Vf_spec ht hs hk 364).1, (Vf_spec ht hs hk 364).2.1⟩
theorem Vv_iff {t : Nat → Int} {s k : Int} (ht : tok t) (hs : sok s) (hk : 0 ≤ k) (hk3 : k < 4) (y : Int) : cn t s y ≤ k ↔ y ≤ Vv t s k := by
  have h := Vf_spec ht hs hk 364
  constructor
  · intro h1
    by_cases h2 : y ≤ Vv t s k
    · exact h2
    · by_cases h3 : y ≤ 364
      · have := h.2.2.2 y (by unfold Vv at h2; omega) (by omega)
        omega
      · have := cn_far ht hs (y := y) (by omega)
        omega
  · intro h1
    have h2 := cn_mono ht hs (Int.le_refl s) h1
    have h3 := h.2.2.1
    unfold Vv at h2
    omega
theorem Vv_mono {t : Nat → Int} {s s' k : Int} (ht : tok t) (hs : sok s) (hs' : sok s') (h : s ≤ s') (hk : 0 ≤ k) (hk3 : k < 4) : Vv t s k ≤ Vv t s' k := by
  rw [← Vv_iff ht hs' hk hk3]
  have h1 := cn_mono (y := Vv t s k) ht hs h (Int.le_refl _)
  have h2 := (Vv_iff ht hs hk hk3 (Vv t s k)).mpr (Int.le_refl _)
  omega
theorem Vv_uniq {t : Nat → Int} {s k v : Int} (ht : tok t) (hs : sok s) (hk : 0 ≤ k) (hk3 : k < 4) (h1 : cn t s v ≤ k) (h2 : k < cn t s (v + 1)) : v = Vv t s k := by
  have a := (Vv_iff ht hs hk hk3 v).mp h1
  have b : ¬ (v + 1 ≤ Vv t s k) := fun q => by have := (Vv_iff ht hs hk hk3 (v + 1)).mpr q; omega
  omega
