/-! THE COUNT BY SIGNS: a state (n, F, q) that goes from strip to strip; more stiffness never counts more, a greater number never counts less -/
abbrev Sn : Type := Int × Int × Int
def sn (b μ : Int) (z : Sn) : Sn := if z.2.1 + b * z.2.2 < 0 then (z.1 + 1, -(b * z.2.1 - μ * (z.2.1 + b * z.2.2)), -(z.2.1 + b * z.2.2)) else (z.1, b * z.2.1 - μ * (z.2.1 + b * z.2.2), z.2.1 + b * z.2.2)
def nrm (z : Sn) : Prop := 0 < z.2.2 ∨ (z.2.2 = 0 ∧ z.2.1 < 0)
def ord (z w : Sn) : Prop := w.1 < z.1 ∨ (z.1 = w.1 ∧ z.2.1 * w.2.2 ≤ w.2.1 * z.2.2)
theorem sn_nrm {b μ : Int} {z : Sn} (hb : 0 < b) (h : nrm z) : nrm (sn b μ z) := by
  obtain ⟨n, F, q⟩ := z
  unfold sn nrm at *
  dsimp only at *
  by_cases hp : F + b * q < 0
  · rw [if_pos hp]; left; dsimp only; omega
  · rw [if_neg hp]; dsimp only
    by_cases h0 : F + b * q = 0
    · right
      refine ⟨h0, ?_⟩
      rw [h0]
      rcases h with h | h
      · have h1 : 0 < b * q := Int.mul_pos hb h
        have h2 : F < 0 := by omega
        have h3 : b * F < 0 := Int.mul_neg_of_pos_of_neg hb h2
        simp only [Int.mul_zero]; omega
      · have h3 : b * F < 0 := Int.mul_neg_of_pos_of_neg hb h.2
        simp only [Int.mul_zero]; omega
    · left; omega
theorem ord_id1 (a b F G p r : Int) (μ ν : Int) : (a * F - μ * p) * r - (b * G - ν * r) * p = a * (F * r) - b * (G * p) - (μ - ν) * (p * r) := by grind
theorem ord_id2 (a b F G q u : Int) : b * (G * (F + a * q)) - a * (F * (G + b * u)) = (b - a) * (F * G) + (a * b) * (G * q - F * u) := by grind
theorem sn_ord {a b μ ν : Int} {z w : Sn} (ha : 0 < a) (hab : a ≤ b) (hμ : ν ≤ μ) (hz : nrm z) (hw : nrm w) (h : ord z w) : ord (sn a μ z) (sn b ν w) := by
  obtain ⟨n, F, q⟩ := z
  obtain ⟨k, G, u⟩ := w
  have hb : 0 < b := by omega
  unfold sn nrm ord at *
  dsimp only at *
  have hq0 : 0 ≤ q := by omega
  have hu0 : 0 ≤ u := by omega
  have haq : 0 ≤ a * q := Int.mul_nonneg (by omega) hq0
  have hbu : 0 ≤ b * u := Int.mul_nonneg (by omega) hu0
  generalize hp : F + a * q = p at *
  generalize hr : G + b * u = r at *
  have key : 0 ≤ p → 0 ≤ r → F * u ≤ G * q → (a * F - μ * p) * r ≤ (b * G - ν * r) * p := by
    intro h1 h2 h3
    have e1 := ord_id1 a b F G p r μ ν
    have hm : 0 ≤ (μ - ν) * (p * r) := Int.mul_nonneg (by omega) (Int.mul_nonneg h1 h2)
    have hk : a * (F * r) ≤ b * (G * p) := by
      by_cases hFG : 0 ≤ F * G
      · have e2 := ord_id2 a b F G q u
        rw [hp, hr] at e2
        have t1 : 0 ≤ (b - a) * (F * G) := Int.mul_nonneg (by omega) hFG
        have t2 : 0 ≤ (a * b) * (G * q - F * u) := Int.mul_nonneg (Int.mul_nonneg (by omega) (by omega)) (by omega)
        omega
      · by_cases hF : F < 0
        · have hG : 0 < G := by
            rcases Int.lt_trichotomy G 0 with g | g | g
            · exact absurd (Int.mul_nonneg_of_nonpos_of_nonpos (by omega) (by omega)) hFG
            · subst g; simp at hFG
            · exact g
          have t1 : F * r ≤ 0 := Int.mul_nonpos_of_nonpos_of_nonneg (by omega) h2
          have t2 : 0 ≤ G * p := Int.mul_nonneg (by omega) h1
          have t3 : a * (F * r) ≤ 0 := Int.mul_nonpos_of_nonneg_of_nonpos (by omega) t1
          have t4 : 0 ≤ b * (G * p) := Int.mul_nonneg (by omega) t2
          omega
        · have hF' : 0 < F := by
            rcases Int.lt_trichotomy F 0 with g | g | g
            · omega
            · subst g; simp at hFG
            · exact g
          have hG : G < 0 := by
            rcases Int.lt_trichotomy G 0 with g | g | g
            · exact g
            · subst g; simp at hFG
            · exact absurd (Int.mul_nonneg (by omega) (by omega)) hFG
          have hq : 0 < q := by omega
          have t1 : G * q < 0 := Int.mul_neg_of_neg_of_pos hG hq
          have t2 : 0 ≤ F * u := Int.mul_nonneg (by omega) hu0
          omega
    omega
  rcases h with h | ⟨hn, h⟩
  · by_cases h1 : p < 0 <;> by_cases h2 : r < 0
    · rw [if_pos h1, if_pos h2]; left; dsimp only; omega
    · rw [if_pos h1, if_neg h2]; left; dsimp only; omega
    · rw [if_neg h1, if_pos h2]; dsimp only
      by_cases h3 : k + 1 < n
      · left; exact h3
      · right
        refine ⟨by omega, ?_⟩
        have hpr : p * r ≤ 0 := Int.mul_nonpos_of_nonneg_of_nonpos (by omega) (by omega)
        have t1 : (μ - ν) * (p * r) ≤ 0 := Int.mul_nonpos_of_nonneg_of_nonpos (by omega) hpr
        have t2 : F * r ≥ p * r := Int.mul_le_mul_of_nonpos_right (by omega) (by omega)
        have t3 : G * p ≤ r * p := Int.mul_le_mul_of_nonneg_right (by omega) (by omega)
        have t4 : a * (F * r) ≥ a * (p * r) := Int.mul_le_mul_of_nonneg_left t2 (by omega)
        have t5 : b * (G * p) ≤ b * (r * p) := Int.mul_le_mul_of_nonneg_left t3 (by omega)
        have t6 : (b - a) * (p * r) ≤ 0 := Int.mul_nonpos_of_nonneg_of_nonpos (by omega) hpr
        have e1 := ord_id1 a b F G p r μ ν
        have e2 : (b - a) * (p * r) = b * (r * p) - a * (p * r) := by grind
        have e3 : (a * F - μ * p) * -r = -((a * F - μ * p) * r) := by grind
        have e4 : -(b * G - ν * r) * p = -((b * G - ν * r) * p) := by grind
        rw [e3, e4]
        omega
    · rw [if_neg h1, if_neg h2]; left; dsimp only; omega
  · subst hn
    have hcmp : p * u ≤ r * q := by
      have e1 : p * u = F * u + a * (q * u) := by rw [← hp]; grind
      have e2 : r * q = G * q + b * (q * u) := by rw [← hr]; grind
      have e3 : a * (q * u) ≤ b * (q * u) := Int.mul_le_mul_of_nonneg_right hab (Int.mul_nonneg hq0 hu0)
      omega
    by_cases h1 : p < 0 <;> by_cases h2 : r < 0
    · rw [if_pos h1, if_pos h2]; right; dsimp only
      refine ⟨rfl, ?_⟩
      have hF : F < 0 := by omega
      have hG : G < 0 := by omega
      have e1 := ord_id1 a b F G p r μ ν
      have e2 := ord_id2 a b F G q u
      rw [hp, hr] at e2
      have t0 : 0 ≤ p * r := Int.mul_nonneg_of_nonpos_of_nonpos (by omega) (by omega)
      have t1 : 0 ≤ (b - a) * (F * G) := Int.mul_nonneg (by omega) (Int.mul_nonneg_of_nonpos_of_nonpos (by omega) (by omega))
      have t2 : 0 ≤ (a * b) * (G * q - F * u) := Int.mul_nonneg (Int.mul_nonneg (by omega) (by omega)) (by omega)
      have hm : 0 ≤ (μ - ν) * (p * r) := Int.mul_nonneg (by omega) t0
      have e3 : -(a * F - μ * p) * -r = (a * F - μ * p) * r := by grind
      have e4 : -(b * G - ν * r) * -p = (b * G - ν * r) * p := by grind
      rw [e3, e4]
      omega
    · rw [if_pos h1, if_neg h2]; left; dsimp only; omega
    · exfalso
      rcases hz with hz | hz
      · have t1 : r * q < 0 := Int.mul_neg_of_neg_of_pos h2 hz
        have t2 : 0 ≤ p * u := Int.mul_nonneg (by omega) hu0
        omega
      · rw [hz.1] at hp; simp at hp; omega
    · rw [if_neg h1, if_neg h2]; right; dsimp only
      exact ⟨rfl, key (by omega) (by omega) h⟩
