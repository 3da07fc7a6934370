/-! THE RELATION between the class's memory and the model's -/
/-- how often k stands among the first n of a row -/
def cnL (r : Nat → Int) (k : Int) : Nat → Int
  | 0 => 0
  | n + 1 => cnL r k n + (if r n = k then 1 else 0)
theorem cnL_nn (r : Nat → Int) (k : Int) (n : Nat) : 0 ≤ cnL r k n := by
  induction n with
  | zero => exact Int.le_refl 0
  | succ n ih => unfold cnL; split <;> omega
theorem cnL_congr {r r' : Nat → Int} (k : Int) {n : Nat} (h : ∀ i, i < n → r' i = r i) : cnL r' k n = cnL r k n := by
  induction n with
  | zero => rfl
  | succ n ih => unfold cnL; rw [ih (fun i hi => h i (by omega)), h n (by omega)]
def metC (x : Mm) (e : Nat → Int) : Prop := ∀ k : Nat, k < 4 → x 9 k = 1 → ∀ s w : Int, sok s → sok w → cft x s w = true → x 10 k ≤ Vv e s k / w ∧ Vv e s k / w ≤ x 11 k
def sm4 (t : Nat → Int) : Int := t 0 + t 1 + t 2 + t 3
def okE (t : Nat → Int) (le : Int) (e : Nat → Int) : Prop := ∀ i, i < 4 → e i = t i ∨ (e i < t i ∧ le ≤ e i)
/-- e is ahead of d: greater for strip 0, then 1, then 2 (or the same there) -/
def lexG (e d : Nat → Int) : Prop := d 0 < e 0 ∨ (d 0 = e 0 ∧ (d 1 < e 1 ∨ (d 1 = e 1 ∧ (d 2 < e 2 ∨ d 2 = e 2))))
def IsP (m : (Nat → Int) → Prop) (t : Nat → Int) (le : Int) (sh : Int) (e : Nat → Int) : Prop := (sh = -1 ∧ ∀ d, okE t le d → ¬ m d) ∨ (0 ≤ sh ∧ okE t le e ∧ m e ∧ sh = sm4 t - sm4 e ∧ ∀ d, okE t le d → m d → sh < sm4 t - sm4 d ∨ (sh = sm4 t - sm4 d ∧ lexG e d))
theorem IsP_uniq {m : (Nat → Int) → Prop} {t : Nat → Int} {le sh sh' : Int} {e e' : Nat → Int} (h : IsP m t le sh e) (h' : IsP m t le sh' e') : sh = sh' ∧ (sh ≠ -1 → ∀ i, i < 4 → e i = e' i) := by
  rcases h with ⟨h1, h2⟩ | ⟨h1, h2, h3, h4, h5⟩ <;> rcases h' with ⟨g1, g2⟩ | ⟨g1, g2, g3, g4, g5⟩
  · exact ⟨by omega, fun q => absurd h1 q⟩
  · exact absurd g3 (h2 e' g2)
  · exact absurd h3 (g2 e h2)
  · have a := h5 e' g2 g3
    have b := g5 e h2 h3
    unfold lexG at a b
    have hsh : sh = sh' := by omega
    have k0 : e 0 = e' 0 := by omega
    have k1 : e 1 = e' 1 := by omega
    have k2 : e 2 = e' 2 := by omega
    have k3 : e 3 = e' 3 := by unfold sm4 at *; omega
    refine ⟨hsh, fun _ i hi => ?_⟩
    rcases (show i = 0 ∨ i = 1 ∨ i = 2 ∨ i = 3 by omega) with r | r | r | r <;> subst r <;> assumption
def R0 (x y : Mm) : Prop := (x 0 7 = y 60 0 ∧ 0 ≤ y 60 0 ∧ y 60 0 ≤ 4) ∧ (x 0 8 = y 60 2 ∧ 1 ≤ y 60 2 ∧ y 60 2 ≤ 9) ∧ (x 0 9 = y 60 13 ∧ 0 ≤ y 60 13 ∧ y 60 13 ≤ 200)
def R1 (x y : Mm) : Prop := ∀ p : Nat, p < 4 → (x (20 + 3 * p) 2 = y 62 p ∧ 0 ≤ y 62 p ∧ y 62 p ≤ 20) ∧ (y 60 0 ≤ (p : Int) → y 62 p = 0) ∧ ((p : Int) < y 60 0 → (∀ k, k < 4 → x (20 + 3 * p + 1) k = y 61 (4 * p + k) ∧ 1 ≤ y 61 (4 * p + k) ∧ y 61 (4 * p + k) + cnL (fun t => y 63 (20 * p + t)) (k : Int) (y 62 p).toNat ≤ 9) ∧ ∀ t : Nat, t < (y 62 p).toNat → x (20 + 3 * p + 2) t = y 63 (20 * p + t) ∧ 0 ≤ y 63 (20 * p + t) ∧ y 63 (20 * p + t) < 4)
def R2 (x y : Mm) : Prop := (x 2 1 = y 60 5 ∧ 0 ≤ y 60 5 ∧ y 60 5 ≤ 12) ∧ (∀ t : Nat, t < 12 → 0 ≤ x 3 t ∧ x 3 t < 12) ∧ (∀ t u : Nat, t < 12 → u < 12 → x 3 t = x 3 u → t = u) ∧ ∀ t : Nat, (t : Int) < y 60 5 → x (32 + 2 * (x 3 t).toNat) 1 = y 66 t ∧ x (32 + 2 * (x 3 t).toNat) 2 = y 67 t ∧ (0 ≤ y 66 t ∧ y 66 t ≤ 500) ∧ (0 ≤ y 67 t ∧ y 67 t ≤ 500) ∧ (0 ≤ y 65 t ∧ y 65 t < 4) ∧ tok (fun k => y 64 (4 * t + k)) ∧ ∀ s : Int, sok s → x (32 + 2 * (x 3 t).toNat + 1) s.toNat = Vv (fun k => y 64 (4 * t + k)) s (y 65 t)
def R4 (x y : Mm) : Prop := ∀ k : Nat, k < 4 → x 9 k = y 68 k ∧ (y 68 k = 0 ∨ y 68 k = 1) ∧ (y 68 k = 1 → x 10 k = y 69 k ∧ x 11 k = y 70 k ∧ (0 ≤ y 69 k ∧ y 69 k ≤ 500) ∧ (0 ≤ y 70 k ∧ y 70 k ≤ 500))
def R5 (x : Mm) : Prop := x 12 4 = -1 ∨ ((0 ≤ x 12 4 ∧ x 12 4 < x 0 7) ∧ IsP (metC x) (x (20 + 3 * (x 12 4).toNat + 1)) (x 0 8) (x 12 3) (fun i => x (20 + 3 * (x 12 4).toNat + 1) i - x 13 i))
def Rel (x y : Mm) : Prop := R0 x y ∧ R1 x y ∧ R2 x y ∧ WD (cft x) x ∧ R4 x y ∧ R5 x
/-- congruences -/
theorem R0_c {x x' y y' : Mm} (h : R0 x y) (hx : x' 0 = x 0) (h0 : y' 60 0 = y 60 0) (h2 : y' 60 2 = y 60 2) (h3 : y' 60 13 = y 60 13) : R0 x' y' := by unfold R0; rw [hx, h0, h2, h3]; exact h
theorem R1_c {x x' y y' : Mm} (h : R1 x y) (hx : ∀ c, 20 ≤ c → c < 32 → x' c = x c) (h0 : y' 60 0 = y 60 0) (h1 : y' 61 = y 61) (h2 : y' 62 = y 62) (h3 : y' 63 = y 63) : R1 x' y' := by
  intro p hp
  rw [hx (20 + 3 * p) (by omega) (by omega), hx (20 + 3 * p + 1) (by omega) (by omega), hx (20 + 3 * p + 2) (by omega) (by omega), h0, h1, h2, h3]
  exact h p hp
theorem R2_c {x x' y y' : Mm} (h : R2 x y) (hx : x' 2 1 = x 2 1) (hx3 : x' 3 = x 3) (hxt : ∀ c, 32 ≤ c → c < 56 → x' c = x c) (h5 : y' 60 5 = y 60 5) (h64 : y' 64 = y 64) (h65 : y' 65 = y 65) (h66 : y' 66 = y 66) (h67 : y' 67 = y 67) : R2 x' y' := by
  obtain ⟨a, b, c, d⟩ := h
  refine ⟨by rw [hx, h5]; exact a, by rw [hx3]; exact b, by rw [hx3]; exact c, fun t ht => ?_⟩
  rw [h5] at ht
  have hb := b t (by omega)
  rw [hx3, h64, h65, h66, h67, hxt _ (by omega) (by omega), hxt _ (by omega) (by omega)]
  exact d t ht
theorem CT_of {x y : Mm} (h : R2 x y) : CT x := by
  obtain ⟨a, b, c, d⟩ := h
  refine ⟨by omega, b, fun t ht => ?_⟩
  obtain ⟨d1, d2, d3, d4, d5, d6, d7⟩ := d t (by omega)
  refine ⟨by omega, by omega, fun s hs => ?_⟩
  rw [d7 s hs]
  exact Vv_bd d6 hs d5.1
theorem cft_c {x x' : Mm} (hb : ∀ t : Nat, t < 12 → 0 ≤ x 3 t ∧ x 3 t < 12) (h12 : x 2 1 ≤ 12) (hx : x' 2 1 = x 2 1) (hx3 : x' 3 = x 3) (hxt : ∀ c, 32 ≤ c → c < 56 → x' c = x c) : cft x' = cft x := by
  funext s w
  rw [Bool.eq_iff_iff, cft_iff, cft_iff, hx]
  have e : ∀ t : Nat, (t : Int) < x 2 1 → (tpc x' t s w ↔ tpc x t s w) := fun t ht => by
    have := hb t (by omega)
    unfold tpc
    rw [hx3, hxt _ (by omega) (by omega), hxt _ (by omega) (by omega)]
  exact ⟨fun q t ht => (e t ht).mp (q t ht), fun q t ht => (e t ht).mpr (q t ht)⟩
theorem WD_c {f : Int → Int → Bool} {x x' : Mm} (h : WD f x) (h2 : x' 2 4 = x 2 4) (h4 : x' 4 = x 4) (h5 : x' 5 = x 5) (h6 : x' 6 = x 6) (h7 : x' 7 = x 7) : WD f x' := by
  obtain ⟨a, b, c⟩ := h
  refine ⟨by unfold LI; rw [h2, h4, h5]; exact a, fun r hr => RP_congr (by rw [h6]) (by rw [h7]) (b r hr), by rw [h6, h7]; exact c⟩
theorem R4_c {x x' y y' : Mm} (h : R4 x y) (h9 : x' 9 = x 9) (h10 : x' 10 = x 10) (h11 : x' 11 = x 11) (g9 : y' 68 = y 68) (g10 : y' 69 = y 69) (g11 : y' 70 = y 70) : R4 x' y' := by
  intro k hk
  rw [h9, h10, h11, g9, g10, g11]
  exact h k hk
theorem metC_c {x x' : Mm} (hc : cft x' = cft x) (h9 : x' 9 = x 9) (h10 : x' 10 = x 10) (h11 : x' 11 = x 11) : metC x' = metC x := by
  funext e
  unfold metC
  rw [hc, h9, h10, h11]
theorem R5_c {x x' : Mm} (h : R5 x) (hm : metC x' = metC x) (h12 : x' 12 = x 12) (h13 : x' 13 = x 13) (h0 : x 0 7 ≤ x' 0 7) (hn : x 0 7 ≤ 4) (h8 : x' 0 8 = x 0 8) (hp : ∀ p : Nat, (p : Int) < x 0 7 → x' (20 + 3 * p + 1) = x (20 + 3 * p + 1)) : R5 x' := by
  unfold R5
  rw [h12, h13, h8, hm]
  rcases h with h | ⟨h1, h2⟩
  · exact Or.inl h
  · right
    refine ⟨by omega, ?_⟩
    rw [hp (x 12 4).toNat (by omega)]
    exact h2
/-- the cells that are nobody's business: scratch rows -/
def scC (x x' : Mm) : Prop := ∀ c, c ≠ 14 → c ≠ 15 → c ≠ 17 → c ≠ 18 → c ≠ 19 → x' c = x c
def scM (y y' : Mm) : Prop := (∀ c, c ≠ 60 → c ≠ 71 → c ≠ 72 → c ≠ 73 → c ≠ 74 → y' c = y c) ∧ ∀ k, k ≠ 15 → k ≠ 19 → y' 60 k = y 60 k
theorem scC.rf (x : Mm) : scC x x := fun _ _ _ _ _ _ => rfl
theorem scM.rf (x : Mm) : scM x x := ⟨fun _ _ _ _ _ _ => rfl, fun _ _ _ => rfl⟩
theorem scC.tr {x y z : Mm} (h : scC x y) (g : scC y z) : scC x z := fun c a b d e f => (g c a b d e f).trans (h c a b d e f)
theorem scM.tr {x y z : Mm} (h : scM x y) (g : scM y z) : scM x z := ⟨fun c a b d e f => (g.1 c a b d e f).trans (h.1 c a b d e f), fun k a b => (g.2 k a b).trans (h.2 k a b)⟩
theorem Rel.sc {x x' y y' : Mm} (h : Rel x y) (hx : scC x x') (hy : scM y y') : Rel x' y' := by
  obtain ⟨a, b, c, d, e, f⟩ := h
  have g : ∀ q, q ≠ 14 → q ≠ 15 → q ≠ 17 → q ≠ 18 → q ≠ 19 → x' q = x q := hx
  have k : ∀ q, q ≠ 60 → q ≠ 71 → q ≠ 72 → q ≠ 73 → q ≠ 74 → y' q = y q := hy.1
  have hcf : cft x' = cft x := cft_c c.2.1 (by have := c.1; omega) (by rw [g 2 (by decide) (by decide) (by decide) (by decide) (by decide)]) (g 3 (by decide) (by decide) (by decide) (by decide) (by decide)) (fun q h1 h2 => g q (by omega) (by omega) (by omega) (by omega) (by omega))
  refine ⟨R0_c a (g 0 (by decide) (by decide) (by decide) (by decide) (by decide)) (hy.2 0 (by decide) (by decide)) (hy.2 2 (by decide) (by decide)) (hy.2 13 (by decide) (by decide)), R1_c b (fun q h1 h2 => g q (by omega) (by omega) (by omega) (by omega) (by omega)) (hy.2 0 (by decide) (by decide)) (k 61 (by decide) (by decide) (by decide) (by decide) (by decide)) (k 62 (by decide) (by decide) (by decide) (by decide) (by decide)) (k 63 (by decide) (by decide) (by decide) (by decide) (by decide)), R2_c c (by rw [g 2 (by decide) (by decide) (by decide) (by decide) (by decide)]) (g 3 (by decide) (by decide) (by decide) (by decide) (by decide)) (fun q h1 h2 => g q (by omega) (by omega) (by omega) (by omega) (by omega)) (hy.2 5 (by decide) (by decide)) (k 64 (by decide) (by decide) (by decide) (by decide) (by decide)) (k 65 (by decide) (by decide) (by decide) (by decide) (by decide)) (k 66 (by decide) (by decide) (by decide) (by decide) (by decide)) (k 67 (by decide) (by decide) (by decide) (by decide) (by decide)), ?_, R4_c e (g 9 (by decide) (by decide) (by decide) (by decide) (by decide)) (g 10 (by decide) (by decide) (by decide) (by decide) (by decide)) (g 11 (by decide) (by decide) (by decide) (by decide) (by decide)) (k 68 (by decide) (by decide) (by decide) (by decide) (by decide)) (k 69 (by decide) (by decide) (by decide) (by decide) (by decide)) (k 70 (by decide) (by decide) (by decide) (by decide) (by decide)), ?_⟩
  · rw [hcf]
    exact WD_c d (by rw [g 2 (by decide) (by decide) (by decide) (by decide) (by decide)]) (g 4 (by decide) (by decide) (by decide) (by decide) (by decide)) (g 5 (by decide) (by decide) (by decide) (by decide) (by decide)) (g 6 (by decide) (by decide) (by decide) (by decide) (by decide)) (g 7 (by decide) (by decide) (by decide) (by decide) (by decide))
  · exact R5_c f (metC_c hcf (g 9 (by decide) (by decide) (by decide) (by decide) (by decide)) (g 10 (by decide) (by decide) (by decide) (by decide) (by decide)) (g 11 (by decide) (by decide) (by decide) (by decide) (by decide))) (g 12 (by decide) (by decide) (by decide) (by decide) (by decide)) (g 13 (by decide) (by decide) (by decide) (by decide) (by decide)) (by rw [g 0 (by decide) (by decide) (by decide) (by decide) (by decide)]; exact Int.le_refl _) (by have := a.1; omega) (by rw [g 0 (by decide) (by decide) (by decide) (by decide) (by decide)]) (fun p hp => g _ (by have := a.1; omega) (by have := a.1; omega) (by have := a.1; omega) (by have := a.1; omega) (by have := a.1; omega))
/-- what the law compares: the answers are one, and the relation holds on -/
def Sm (x' : Mm) (r : Int) : Int → Mm → Prop := fun r' y' => r = r' ∧ rg r ∧ Rel x' y'
theorem gT {A B : Prop} (h : B) : rg 1 ∧ (if (1 : Int) = 0 then A else B) := ⟨⟨by decide, by decide⟩, by rw [if_neg (by decide)]; exact h⟩
theorem gF {A B : Prop} (h : A) : rg 0 ∧ (if (0 : Int) = 0 then A else B) := ⟨⟨by decide, by decide⟩, by rw [if_pos rfl]; exact h⟩
theorem t_isThickness {a : Int} {x : Mm} {post : Int → Mm → Prop} (ha : rg a) (h1 : 1 ≤ a ∧ a ≤ 9 → post 1 x) (h0 : ¬ (1 ≤ a ∧ a ≤ 9) → post 0 x) : w_X7_isThickness a x post := by
  refine ⟨ha, ?_⟩
  split
  · exact h0 (by omega)
  · refine ⟨ha, ?_⟩; split
    · exact h0 (by omega)
    · exact h1 (by omega)
theorem t_isPlate {a : Int} {x : Mm} {post : Int → Mm → Prop} (ha : rg a) (hn : rg (x 0 7)) (h1 : 0 ≤ a ∧ a < x 0 7 → post 1 x) (h0 : ¬ (0 ≤ a ∧ a < x 0 7) → post 0 x) : w_X7_isPlate a x post := by
  refine ⟨ha, ?_⟩
  split
  · exact h0 (by omega)
  · refine ⟨⟨ha, hn⟩, ?_⟩; split
    · exact h0 (by omega)
    · exact h1 (by omega)
theorem t_isStrip {a : Int} {x : Mm} {post : Int → Mm → Prop} (ha : rg a) (h1 : 0 ≤ a ∧ a < 4 → post 1 x) (h0 : ¬ (0 ≤ a ∧ a < 4) → post 0 x) : w_X7_isStrip a x post := by
  refine ⟨ha, ?_⟩
  split
  · exact h0 (by omega)
  · refine ⟨ha, ?_⟩; split
    · exact h0 (by omega)
    · exact h1 (by omega)
theorem t_isTone {a : Int} {x : Mm} {post : Int → Mm → Prop} (ha : rg a) (h1 : 0 ≤ a ∧ a < 4 → post 1 x) (h0 : ¬ (0 ≤ a ∧ a < 4) → post 0 x) : w_X7_isTone a x post := by
  refine ⟨ha, ?_⟩
  split
  · exact h0 (by omega)
  · refine ⟨ha, ?_⟩; split
    · exact h0 (by omega)
    · exact h1 (by omega)
theorem t_isWood {a b : Int} {x : Mm} {post : Int → Mm → Prop} (ha : rg a) (hb : rg b) (h1 : sok a ∧ sok b → post 1 x) (h0 : ¬ (sok a ∧ sok b) → post 0 x) : w_X7_isWood a b x post := by
  unfold sok at *
  refine ⟨ha, ?_⟩
  split
  · exact h0 (by omega)
  · refine ⟨ha, ?_⟩; split
    · exact h0 (by omega)
    · refine ⟨hb, ?_⟩; split
      · exact h0 (by omega)
      · refine ⟨hb, ?_⟩; split
        · exact h0 (by omega)
        · exact h1 (by omega)
theorem t_isNumber {a : Int} {x : Mm} {post : Int → Mm → Prop} (ha : rg a) (h1 : 0 ≤ a ∧ a ≤ 500 → post 1 x) (h0 : ¬ (0 ≤ a ∧ a ≤ 500) → post 0 x) : w_X7_isNumber a x post := by
  refine ⟨ha, ?_⟩
  split
  · exact h0 (by omega)
  · refine ⟨ha, ?_⟩; split
    · exact h0 (by omega)
    · exact h1 (by omega)
theorem t_isSpan {a b : Int} {x : Mm} {post : Int → Mm → Prop} (ha : rg a) (hb : rg b) (h1 : 0 ≤ a ∧ a ≤ b ∧ b ≤ 500 → post 1 x) (h0 : ¬ (0 ≤ a ∧ a ≤ b ∧ b ≤ 500) → post 0 x) : w_X7_isSpan a b x post := by
  refine t_isNumber ha (fun p => gT ?_) (fun p => gF (h0 (by omega)))
  refine t_isNumber hb (fun q => gT ?_) (fun q => gF (h0 (by omega)))
  refine ⟨⟨ha, hb⟩, ?_⟩
  split
  · exact h0 (by omega)
  · exact h1 (by omega)
theorem t_isOneOfTwo {a : Int} {x : Mm} {post : Int → Mm → Prop} (ha : rg a) (h1 : a = 0 ∨ a = 1 → post 1 x) (h0 : ¬ (a = 0 ∨ a = 1) → post 0 x) : w_X7_isOneOfTwo a x post := by
  refine ⟨ha, ?_⟩
  split
  · exact h1 (by omega)
  · refine ⟨ha, ?_⟩; split
    · exact h1 (by omega)
    · exact h0 (by omega)
theorem t_in {a b c : Int} {x : Mm} {post : Int → Mm → Prop} (ha : rg a) (hb : rg b) (hc : rg c) (h1 : b ≤ a ∧ a ≤ c → post 1 x) (h0 : ¬ (b ≤ a ∧ a ≤ c) → post 0 x) : w_X8_in a b c x post := by
  refine ⟨⟨ha, hb⟩, ?_⟩
  split
  · exact h0 (by omega)
  · refine ⟨⟨ha, hc⟩, ?_⟩; split
    · exact h0 (by omega)
    · exact h1 (by omega)
theorem t_isThick {a : Int} {x : Mm} {post : Int → Mm → Prop} (ha : rg a) (h1 : 1 ≤ a ∧ a ≤ 9 → post 1 x) (h0 : ¬ (1 ≤ a ∧ a ≤ 9) → post 0 x) : w_X8_isThick a x post := t_in ha ⟨by decide, by decide⟩ ⟨by decide, by decide⟩ (fun p => ⟨by decide, h1 p⟩) (fun p => ⟨by decide, h0 p⟩)
theorem t_isPlateM {a : Int} {x : Mm} {post : Int → Mm → Prop} (ha : rg a) (hn : 0 ≤ x 60 0 ∧ x 60 0 ≤ 4) (h1 : 0 ≤ a ∧ a < x 60 0 → post 1 x) (h0 : ¬ (0 ≤ a ∧ a < x 60 0) → post 0 x) : w_X8_isPlate a x post := t_in ha ⟨by decide, by decide⟩ (rg_sm (by omega) (by omega)) (fun p => ⟨by decide, h1 (by omega)⟩) (fun p => ⟨by decide, h0 (by omega)⟩)
theorem t_isFour {a : Int} {x : Mm} {post : Int → Mm → Prop} (ha : rg a) (h1 : 0 ≤ a ∧ a < 4 → post 1 x) (h0 : ¬ (0 ≤ a ∧ a < 4) → post 0 x) : w_X8_isFour a x post := t_in ha ⟨by decide, by decide⟩ ⟨by decide, by decide⟩ (fun p => ⟨by decide, h1 (by omega)⟩) (fun p => ⟨by decide, h0 (by omega)⟩)
theorem t_isWoodM {a b : Int} {x : Mm} {post : Int → Mm → Prop} (ha : rg a) (hb : rg b) (h1 : sok a ∧ sok b → post 1 x) (h0 : ¬ (sok a ∧ sok b) → post 0 x) : w_X8_isWood a b x post := by
  unfold sok at *
  refine t_isThick ha (fun p => gT ?_) (fun p => gF (h0 (by omega)))
  exact t_isThick hb (fun q => gT (h1 (by omega))) (fun q => gF (h0 (by omega)))
