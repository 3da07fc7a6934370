/-! shavings, undone, mirrored -/
def tkC (x : Mm) (p k : Nat) : Mm := up2 (up2 (up2 x (20 + 3 * p + 1) k (x (20 + 3 * p + 1) k - 1)) (20 + 3 * p + 2) (x (20 + 3 * p) 2).toNat (k : Int)) (20 + 3 * p) 2 (x (20 + 3 * p) 2 + 1)
def tkM (y : Mm) (p k : Nat) : Mm := up2 (up2 (up2 y 61 (4 * p + k) (y 61 (4 * p + k) - 1)) 63 (20 * p + (y 62 p).toNat) (k : Int)) 62 p (y 62 p + 1)
theorem tkC_o {x : Mm} {p k c : Nat} (h : c ≠ 20 + 3 * p) (h1 : c ≠ 20 + 3 * p + 1) (h2 : c ≠ 20 + 3 * p + 2) : tkC x p k c = x c := by unfold tkC; rw [up2_row h, up2_row h2, up2_row h1]
theorem tkM_o {y : Mm} {p k c : Nat} (h : c ≠ 61) (h1 : c ≠ 62) (h2 : c ≠ 63) : tkM y p k c = y c := by unfold tkM; rw [up2_row h1, up2_row h2, up2_row h]
theorem tkC_0 (x : Mm) (p k : Nat) : tkC x p k (20 + 3 * p) 2 = x (20 + 3 * p) 2 + 1 := by unfold tkC; rw [up2_s]
theorem tkC_1 (x : Mm) (p k j : Nat) : tkC x p k (20 + 3 * p + 1) j = if j = k then x (20 + 3 * p + 1) k - 1 else x (20 + 3 * p + 1) j := by
  unfold tkC; rw [up2_row (by omega), up2_row (by omega)]
  by_cases h : j = k
  · subst h; rw [up2_s, if_pos rfl]
  · rw [up2_k _ h, if_neg h]
theorem tkC_2 (x : Mm) (p k t : Nat) : tkC x p k (20 + 3 * p + 2) t = if t = (x (20 + 3 * p) 2).toNat then (k : Int) else x (20 + 3 * p + 2) t := by
  unfold tkC; rw [up2_row (by omega)]
  by_cases h : t = (x (20 + 3 * p) 2).toNat
  · subst h; rw [up2_s, if_pos rfl]
  · rw [up2_k _ h, if_neg h, up2_row (by omega)]
theorem tkM_0 (y : Mm) (p k q : Nat) : tkM y p k 62 q = if q = p then y 62 p + 1 else y 62 q := by
  unfold tkM
  by_cases h : q = p
  · subst h; rw [up2_s, if_pos rfl]
  · rw [up2_k _ h, if_neg h, up2_row (by omega), up2_row (by omega)]
theorem tkM_1 (y : Mm) (p k j : Nat) : tkM y p k 61 j = if j = 4 * p + k then y 61 (4 * p + k) - 1 else y 61 j := by
  unfold tkM; rw [up2_row (by omega), up2_row (by omega)]
  by_cases h : j = 4 * p + k
  · subst h; rw [up2_s, if_pos rfl]
  · rw [up2_k _ h, if_neg h]
theorem tkM_2 (y : Mm) (p k t : Nat) : tkM y p k 63 t = if t = 20 * p + (y 62 p).toNat then (k : Int) else y 63 t := by
  unfold tkM; rw [up2_row (by omega)]
  by_cases h : t = 20 * p + (y 62 p).toNat
  · subst h; rw [up2_s, if_pos rfl]
  · rw [up2_k _ h, if_neg h, up2_row (by omega)]
theorem R1_tk {x y : Mm} {p k : Nat} (h : R1 x y) (hp : p < 4) (hn : (p : Int) < y 60 0) (hk : k < 4) (hl : y 62 p < 20) (ht : 2 ≤ y 61 (4 * p + k)) : R1 (tkC x p k) (tkM y p k) := by
  intro q hq
  have e60 : tkM y p k 60 = y 60 := tkM_o (by decide) (by decide) (by decide)
  rw [e60]
  have hP := h p hp
  by_cases hqp : q = p
  · subst hqp
    rw [tkC_0, tkM_0, if_pos rfl]
    obtain ⟨h1, h2, h3⟩ := hP
    obtain ⟨h4, h5⟩ := h3 hn
    refine ⟨by omega, fun z => by omega, fun _ => ⟨fun j hj => ?_, fun t htt => ?_⟩⟩
    · rw [tkC_1, tkM_1]
      obtain ⟨m, hm⟩ : ∃ m : Nat, y 62 q = (m : Int) := ⟨(y 62 q).toNat, by omega⟩
      have e1 : (y 62 q + 1).toNat = m + 1 := by omega
      have e2 : (y 62 q).toNat = m := by omega
      have hc : cnL (fun t => tkM y q k 63 (20 * q + t)) (j : Int) (m + 1) = cnL (fun t => y 63 (20 * q + t)) (j : Int) m + (if k = j then 1 else 0) := by
        show cnL (fun t => tkM y q k 63 (20 * q + t)) (j : Int) m + (if tkM y q k 63 (20 * q + m) = (j : Int) then 1 else 0) = _
        rw [tkM_2, e2, if_pos rfl]
        rw [cnL_congr (r := fun t => y 63 (20 * q + t)) (r' := fun t => tkM y q k 63 (20 * q + t)) (j : Int) (fun i hi => by show tkM y q k 63 (20 * q + i) = y 63 (20 * q + i); rw [tkM_2, e2, if_neg (by omega)])]
        by_cases hkj : k = j
        · rw [if_pos (by omega), if_pos hkj]
        · rw [if_neg (by omega), if_neg hkj]
      rw [e1, hc]
      have g := h4 j hj
      rw [e2] at g
      by_cases hjk : j = k
      · subst hjk
        rw [if_pos rfl, if_pos rfl, if_pos rfl]
        omega
      · rw [if_neg hjk, if_neg (by omega), if_neg (by omega)]
        omega
    · rw [tkC_2, tkM_2]
      have e3 : (x (20 + 3 * q) 2).toNat = (y 62 q).toNat := by omega
      rw [e3]
      by_cases ht2 : t = (y 62 q).toNat
      · rw [if_pos ht2, if_pos (by omega)]; omega
      · rw [if_neg ht2, if_neg (by omega)]
        exact h5 t (by omega)
  · have hQ := h q hq
    rw [tkC_o (by omega) (by omega) (by omega), tkC_o (c := 20 + 3 * q + 1) (by omega) (by omega) (by omega), tkC_o (c := 20 + 3 * q + 2) (by omega) (by omega) (by omega), tkM_0, if_neg hqp]
    refine ⟨hQ.1, hQ.2.1, fun z => ?_⟩
    obtain ⟨h4, h5⟩ := hQ.2.2 z
    refine ⟨fun j hj => ?_, fun t htt => ?_⟩
    · rw [tkM_1, if_neg (by omega)]
      have hc : cnL (fun t => tkM y p k 63 (20 * q + t)) (j : Int) (y 62 q).toNat = cnL (fun t => y 63 (20 * q + t)) (j : Int) (y 62 q).toNat := cnL_congr (j : Int) (fun i hi => by show tkM y p k 63 (20 * q + i) = y 63 (20 * q + i); rw [tkM_2, if_neg (by omega)])
      rw [hc]
      exact h4 j hj
    · rw [tkM_2, if_neg (by omega)]
      exact h5 t htt
theorem s_takeOff {x : Mm} {j : Nat} {a : Int} {post : Mm → Prop} (ha : 0 ≤ a ∧ a < 4) (hl : 0 ≤ x (20 + 3 * j) 2 ∧ x (20 + 3 * j) 2 < 20) (h : post (tkC x j a.toNat)) : w_X4_takeOff j a x post := by
  unfold w_X4_takeOff
  refine t_isStrip (rg_sm (by omega) (by omega)) (fun _ => gT ?_) (fun q => absurd ha q)
  refine ⟨rg_sm (by omega) (by omega), ?_⟩
  rw [if_neg (by omega)]
  refine ⟨ha, ha, ?_⟩
  intro x7 e7
  have k7 : x7 (20 + 3 * j) = x (20 + 3 * j) := by subst e7; rw [up2_row (by omega)]
  rw [k7]
  refine ⟨hl, ?_⟩
  intro x9 e9 x10 e10
  have k9 : x9 (20 + 3 * j) = x (20 + 3 * j) := by subst e9; rw [up2_row (by omega)]; exact k7
  rw [k9] at e10
  have : x10 = tkC x j a.toNat := by
    unfold tkC
    rw [e10, e9, e7]
    have : ((a.toNat : Nat) : Int) = a := by omega
    rw [this]
  rw [this]; exact h
theorem s_shaveOff {y : Mm} {a b : Int} {post : Mm → Prop} (ha : 0 ≤ a ∧ a < 4) (hb : 0 ≤ b ∧ b < 4) (hl : 0 ≤ y 62 a.toNat ∧ y 62 a.toNat < 20) (h : post (tkM y a.toNat b.toNat)) : w_X8_shaveOff a b y post := by
  unfold w_X8_shaveOff
  refine ⟨by omega, by omega, ?_⟩
  intro y3 e3
  have k3 : y3 62 = y 62 := by subst e3; rw [up2_row (by omega)]
  rw [k3]
  refine ⟨ha, by omega, ?_⟩
  intro y6 e6
  have k6 : y6 62 = y 62 := by subst e6; rw [up2_row (by omega)]; exact k3
  rw [k6]
  refine ⟨ha, ha, ?_⟩
  intro y9 e9
  have : y9 = tkM y a.toNat b.toNat := by
    unfold tkM
    rw [e9, e6, e3]
    have q1 : ((b.toNat : Nat) : Int) = b := by omega
    have q2 : ((4 * a) + b).toNat = 4 * a.toNat + b.toNat := by omega
    have q3 : ((20 * a) + y 62 a.toNat).toNat = 20 * a.toNat + (y 62 a.toNat).toNat := by omega
    rw [q1, q2, q3]
  rw [this]; exact h
theorem Rel.tk {x y : Mm} (hR : Rel x y) {p k : Nat} (hp : (p : Int) < y 60 0) (hk : k < 4) (hl : y 62 p < 20) (ht : 2 ≤ y 61 (4 * p + k)) {x' : Mm} (hx : x' = up2 (tkC x p k) 12 4 (-1)) : Rel x' (tkM y p k) := by
  have hn := hR.n
  have xo : ∀ q, q ≠ 12 → (q < 20 ∨ 32 ≤ q) → x' q = x q := fun q h1 h2 => by subst hx; rw [up2_row h1, tkC_o (by omega) (by omega) (by omega)]
  refine hR.plates (fun q h1 h2 h3 => xo q h2 h3) (fun q h1 h2 h3 h4 => tkM_o h2 h3 h4) (by rw [tkM_o (by decide) (by decide) (by decide)]) ?_ ?_ (fun hm => ?_)
  · exact R0_c hR.1 (xo 0 (by decide) (by omega)) (by rw [tkM_o (by decide) (by decide) (by decide)]) (by rw [tkM_o (by decide) (by decide) (by decide)]) (by rw [tkM_o (by decide) (by decide) (by decide)])
  · exact R1_c (R1_tk hR.2.1 (by omega) hp hk hl ht) (fun q h1 h2 => by subst hx; rw [up2_row (by omega)]) rfl rfl rfl rfl
  · exact Or.inl (by subst hx; rw [up2_s])
theorem sim_shave {x y : Mm} {a b : Int} (hR : Rel x y) (ha : rg a) (hb : rg b) : w_X7_shave a b x (fun r x' => w_X8_shave a b y (Sm x' r)) := by
  have hn := hR.n
  have h0 := hR.1
  unfold R0 at h0
  unfold w_X7_shave w_X8_shave
  refine t_isPlate ha hR.rn (fun hp => gT ?_) (fun hp => gF ?_)
  · refine t_isStrip hb (fun hs => gT ?_) (fun hs => gF ?_)
    · have e : ((4 * a) + b).toNat = 4 * a.toNat + b.toNat := by omega
      obtain ⟨g1, g2, g3⟩ := hR.2.1 a.toNat (by omega)
      have h4 := (g3 (by omega)).1 b.toNat (by omega)
      have h5 := (hR.2.1.tok (p := a.toNat) (by omega) (by omega)).1 b.toNat (by omega)
      dsimp only at h5
      have goM : ∀ {P : Int → Mm → Prop}, (0 ≤ (4 * a) + b ∧ (4 * a) + b < 16) ∧ (rg (y 61 ((4 * a) + b).toNat) ∧ rg (y 60 2)) ∧ (if (y 60 2) < (y 61 ((4 * a) + b).toNat) then ((0 ≤ a ∧ a < 4) ∧ rg (y 62 (a).toNat) ∧ (if (y 62 (a).toNat) = 20 then (P (-4) y) else (w_X8_shaveOff a b y (fun x_11 => (0 ≤ (4 * a) + b ∧ (4 * a) + b < 16) ∧ P (x_11 61 ((4 * a) + b).toNat) x_11)))) else (P (-3) y)) → w_X8_isPlate a y (fun z_2 x_1 => rg z_2 ∧ (if z_2 = 0 then (P (-2) x_1) else (w_X8_isFour b x_1 (fun z_5 x_4 => rg z_5 ∧ (if z_5 = 0 then (P (-2) x_4) else ((0 ≤ (4 * a) + b ∧ (4 * a) + b < 16) ∧ (rg (x_4 61 ((4 * a) + b).toNat) ∧ rg (x_4 60 2)) ∧ (if (x_4 60 2) < (x_4 61 ((4 * a) + b).toNat) then ((0 ≤ a ∧ a < 4) ∧ rg (x_4 62 (a).toNat) ∧ (if (x_4 62 (a).toNat) = 20 then (P (-4) x_4) else (w_X8_shaveOff a b x_4 (fun x_11 => (0 ≤ (4 * a) + b ∧ (4 * a) + b < 16) ∧ P (x_11 61 ((4 * a) + b).toNat) x_11)))) else (P (-3) x_4)))))))) := fun hP => by
        refine t_isPlateM ha hn.2 (fun _ => gT ?_) (fun q => absurd (by omega) q)
        exact t_isFour hb (fun _ => gT hP) (fun q => absurd hs q)
      refine ⟨by omega, hs, ⟨rg_sm (by omega) (by omega), rg_sm (by omega) (by omega)⟩, ?_⟩
      by_cases hc : x 0 8 < x (20 + 3 * a.toNat + 1) b.toNat
      · rw [if_pos hc]
        refine ⟨rg_sm (by omega) (by omega), ?_⟩
        by_cases hf : x (20 + 3 * a.toNat) 2 < 20
        · rw [if_pos hf]
          refine s_takeOff hs (by omega) ?_
          intro x2 e2
          refine ⟨hs, ?_⟩
          refine goM ?_
          rw [e]
          refine ⟨by omega, ⟨rg_sm (by omega) (by omega), rg_sm (by omega) (by omega)⟩, ?_⟩
          rw [if_pos (by omega)]
          refine ⟨by omega, rg_sm (by omega) (by omega), ?_⟩
          rw [if_neg (by omega)]
          refine s_shaveOff (by omega) hs (by omega) ?_
          refine ⟨by omega, ?_⟩
          have k1 : x2 (20 + 3 * a.toNat + 1) b.toNat = x (20 + 3 * a.toNat + 1) b.toNat - 1 := by subst e2; rw [up2_row (by omega), tkC_1, if_pos rfl]
          have k2 : tkM y a.toNat b.toNat 61 (4 * a.toNat + b.toNat) = y 61 (4 * a.toNat + b.toNat) - 1 := by rw [tkM_1, if_pos rfl]
          refine ⟨by rw [k1, k2]; omega, rg_sm (by omega) (by omega), ?_⟩
          exact hR.tk (by omega) (by omega) (by omega) (by omega) e2
        · rw [if_neg hf]
          refine goM ?_
          rw [e]
          refine ⟨by omega, ⟨rg_sm (by omega) (by omega), rg_sm (by omega) (by omega)⟩, ?_⟩
          rw [if_pos (by omega)]
          refine ⟨by omega, rg_sm (by omega) (by omega), ?_⟩
          rw [if_pos (by omega)]
          exact ⟨rfl, rgm.2.2.2, hR⟩
      · rw [if_neg hc]
        refine goM ?_
        rw [e]
        refine ⟨by omega, ⟨rg_sm (by omega) (by omega), rg_sm (by omega) (by omega)⟩, ?_⟩
        rw [if_neg (by omega)]
        exact ⟨rfl, rgm.2.2.1, hR⟩
    · refine t_isPlateM ha hn.2 (fun _ => gT ?_) (fun q => absurd (by omega) q)
      exact t_isFour hb (fun q => absurd q hs) (fun _ => gF ⟨rfl, rgm.2.1, hR⟩)
  · exact t_isPlateM ha hn.2 (fun q => absurd (by omega) hp) (fun _ => gF ⟨rfl, rgm.2.1, hR⟩)
theorem sim_undo {x y : Mm} {a : Int} (hR : Rel x y) (ha : rg a) : w_X7_undo a x (fun r x' => w_X8_undo a y (Sm x' r)) := by
  have hn := hR.n
  unfold w_X7_undo w_X8_undo
  refine t_isPlate ha hR.rn (fun hp => gT ?_) (fun hp => gF ?_)
  · obtain ⟨p, rfl⟩ : ∃ p : Nat, a = (p : Int) := ⟨a.toNat, by omega⟩
    have ep : ((p : Int)).toNat = p := by omega
    simp only [ep]
    have hP := hR.2.1 p (by omega)
    obtain ⟨g1, g2, g3⟩ := hP
    obtain ⟨h4, h5⟩ := g3 (by omega)
    refine ⟨by omega, rg_sm (by omega) (by omega), ?_⟩
    by_cases hc : 0 < x (20 + 3 * p) 2
    · rw [if_pos hc]
      intro x1 e1
      refine ⟨by omega, ?_⟩
      have k1 : ∀ q, q ≠ 12 → x1 q = x q := fun q h => by subst e1; rw [up2_row h]
      unfold w_X4_putBack
      rw [k1 (20 + 3 * p) (by omega)]
      refine ⟨rg_sm (by omega) (by omega), ?_⟩
      rw [if_pos hc]
      intro x2 e2
      have k20 : x2 (20 + 3 * p) 2 = x (20 + 3 * p) 2 - 1 := by subst e2; rw [up2_s]
      have k2 : ∀ q, q ≠ 12 → q ≠ 20 + 3 * p → x2 q = x q := fun q h h' => by subst e2; rw [up2_row h', k1 q h]
      rw [k20, k2 (20 + 3 * p + 2) (by omega) (by omega), k2 (20 + 3 * p + 1) (by omega) (by omega)]
      refine ⟨by omega, ?_⟩
      obtain ⟨m, hm⟩ : ∃ m : Nat, y 62 p = ((m + 1 : Nat) : Int) := ⟨(y 62 p - 1).toNat, by omega⟩
      have em : (x (20 + 3 * p) 2 - 1).toNat = m := by omega
      rw [em]
      obtain ⟨f1, f2, f3⟩ := h5 m (by omega)
      intro v hv
      rw [f1] at hv
      obtain ⟨k, hk⟩ : ∃ k : Nat, y 63 (20 * p + m) = (k : Int) := ⟨(y 63 (20 * p + m)).toNat, by omega⟩
      have hk4 : k < 4 := by omega
      rw [hk] at hv
      subst hv
      have ek : ((k : Int)).toNat = k := by omega
      rw [ek]
      refine ⟨by omega, by omega, ?_⟩
      intro x7 e7
      refine t_isPlateM ha hn.2 (fun _ => gT ?_) (fun q => absurd (by omega) q)
      refine ⟨by omega, rg_sm (by omega) (by omega), ?_⟩
      rw [if_neg (by omega)]
      refine ⟨by omega, by omega, ?_⟩
      intro y8 q8
      have l0 : y8 62 p = y 62 p - 1 := by subst q8; rw [up2_s]
      have l2 : ∀ q, q ≠ 62 → y8 q = y q := fun q h => by subst q8; rw [up2_row h]
      rw [l0, l2 63 (by decide), l2 61 (by decide)]
      refine ⟨by omega, by omega, ?_⟩
      have em2 : (20 * (p : Int) + (y 62 p - 1)).toNat = 20 * p + m := by omega
      rw [em2, hk]
      intro u hu
      subst hu
      refine ⟨by omega, by omega, ?_⟩
      have ek2 : (4 * (p : Int) + (k : Int)).toNat = 4 * p + k := by omega
      rw [ek2]
      intro y14 q14
      refine ⟨rfl, rg_sm (by omega) (by omega), ?_⟩
      -- the rows behind it
      have X0 : x7 (20 + 3 * p) 2 = x (20 + 3 * p) 2 - 1 := by subst e7; rw [up2_row (by omega)]; exact k20
      have X1 : ∀ j, x7 (20 + 3 * p + 1) j = if j = k then x (20 + 3 * p + 1) k + 1 else x (20 + 3 * p + 1) j := fun j => by
        subst e7
        by_cases hj : j = k
        · subst hj; rw [up2_s, if_pos rfl]
        · rw [up2_k _ hj, if_neg hj, k2 _ (by omega) (by omega)]
      have Xo : ∀ q, q ≠ 12 → q ≠ 20 + 3 * p → q ≠ 20 + 3 * p + 1 → x7 q = x q := fun q h1 h2 h3 => by subst e7; rw [up2_row h3]; exact k2 q h1 h2
      have X12 : x7 12 4 = -1 := by subst e7 e2 e1; rw [up2_row (by omega), up2_row (by omega), up2_s]
      have Y0 : ∀ q, y14 62 q = if q = p then y 62 p - 1 else y 62 q := fun q => by
        subst q14 q8
        rw [up2_row (by decide)]
        by_cases hq : q = p
        · subst hq; rw [up2_s, if_pos rfl]
        · rw [up2_k _ hq, if_neg hq]
      have Y1 : ∀ j, y14 61 j = if j = 4 * p + k then y 61 (4 * p + k) + 1 else y 61 j := fun j => by
        subst q14
        by_cases hj : j = 4 * p + k
        · subst hj; rw [up2_s, if_pos rfl]
        · rw [up2_k _ hj, if_neg hj, l2 61 (by decide)]
      have Yo : ∀ q, q ≠ 61 → q ≠ 62 → y14 q = y q := fun q h1 h2 => by subst q14; rw [up2_row h1]; exact l2 q h2
      refine hR.plates (fun q h1 h2 h3 => Xo q h2 (by omega) (by omega)) (fun q h1 h2 h3 h4 => Yo q h2 h3) (by rw [Yo 60 (by decide) (by decide)]) ?_ ?_ (fun hm => Or.inl X12)
      · exact R0_c hR.1 (Xo 0 (by decide) (by omega) (by omega)) (by rw [Yo 60 (by decide) (by decide)]) (by rw [Yo 60 (by decide) (by decide)]) (by rw [Yo 60 (by decide) (by decide)])
      · intro q hq
        rw [Yo 60 (by decide) (by decide), Yo 63 (by decide) (by decide)]
        by_cases hqp : q = p
        · subst hqp
          rw [X0, Y0, if_pos rfl, Xo (20 + 3 * q + 2) (by omega) (by omega) (by omega)]
          refine ⟨by omega, fun z => by omega, fun _ => ⟨fun j hj => ?_, fun t ht => h5 t (by omega)⟩⟩
          rw [X1, Y1]
          have g := h4 j hj
          have e1 : (y 62 q - 1).toNat = m := by omega
          have e2 : (y 62 q).toNat = m + 1 := by omega
          rw [e1]
          rw [e2] at g
          have hc2 : cnL (fun t => y 63 (20 * q + t)) (j : Int) (m + 1) = cnL (fun t => y 63 (20 * q + t)) (j : Int) m + (if k = j then 1 else 0) := by
            show cnL (fun t => y 63 (20 * q + t)) (j : Int) m + (if y 63 (20 * q + m) = (j : Int) then 1 else 0) = _
            rw [hk]
            by_cases hkj : k = j
            · rw [if_pos (by omega), if_pos hkj]
            · rw [if_neg (by omega), if_neg hkj]
          rw [hc2] at g
          by_cases hjk : j = k
          · subst hjk
            rw [if_pos rfl] at g
            rw [if_pos rfl, if_pos rfl]
            omega
          · rw [if_neg (by omega)] at g
            rw [if_neg hjk, if_neg (by omega)]
            omega
        · have hQ := hR.2.1 q hq
          rw [Xo (20 + 3 * q) (by omega) (by omega) (by omega), Xo (20 + 3 * q + 1) (by omega) (by omega) (by omega), Xo (20 + 3 * q + 2) (by omega) (by omega) (by omega), Y0, if_neg hqp]
          refine ⟨hQ.1, hQ.2.1, fun z => ?_⟩
          obtain ⟨u4, u5⟩ := hQ.2.2 z
          refine ⟨fun j hj => ?_, u5⟩
          rw [Y1, if_neg (by omega)]
          exact u4 j hj
    · rw [if_neg hc]
      refine t_isPlateM ha hn.2 (fun _ => gT ?_) (fun q => absurd (by omega) q)
      refine ⟨by omega, rg_sm (by omega) (by omega), ?_⟩
      rw [if_pos (by omega)]
      exact ⟨rfl, rgm.2.2.1, hR⟩
  · exact t_isPlateM ha hn.2 (fun q => absurd (by omega) hp) (fun _ => gF ⟨rfl, rgm.2.1, hR⟩)
theorem sim_mirror {x y : Mm} {a : Int} (hR : Rel x y) (ha : rg a) : w_X7_mirror a x (fun r x' => w_X8_mirror a y (Sm x' r)) := by
  have hn := hR.n
  unfold w_X7_mirror w_X8_mirror
  refine t_isPlate ha hR.rn (fun hp => gT ?_) (fun hp => gF ?_)
  · obtain ⟨p, rfl⟩ : ∃ p : Nat, a = (p : Int) := ⟨a.toNat, by omega⟩
    have ep : ((p : Int)).toNat = p := by omega
    simp only [ep]
    refine ⟨by omega, ?_⟩
    unfold w_X4_turn
    intro x1 e1 x2 e2 x3 e3 x4 e4 x5 e5 x6 e6
    refine t_isPlateM ha hn.2 (fun _ => gT ?_) (fun q => absurd (by omega) q)
    have X1 : ∀ j, j < 4 → x6 (20 + 3 * p + 1) j = x (20 + 3 * p + 1) (3 - j) := fun j hj => by
      have : ∀ j, x4 (20 + 3 * p + 1) j = if j = 3 then x (20 + 3 * p + 1) 0 else if j = 2 then x (20 + 3 * p + 1) 1 else if j = 1 then x (20 + 3 * p + 1) 2 else if j = 0 then x (20 + 3 * p + 1) 3 else x (20 + 3 * p + 1) j := fun j => by subst e4 e3 e2 e1; simp [up2]
      have h6 : x6 (20 + 3 * p + 1) = x4 (20 + 3 * p + 1) := by subst e6 e5; rw [up2_row (by omega), up2_row (by omega)]
      rw [h6, this]
      rcases (show j = 0 ∨ j = 1 ∨ j = 2 ∨ j = 3 by omega) with r | r | r | r <;> subst r <;> simp
    have X0 : x6 (20 + 3 * p) 2 = 0 := by subst e6 e5; rw [up2_row (by omega), up2_s]
    have Xo : ∀ q, q ≠ 12 → q ≠ 20 + 3 * p → q ≠ 20 + 3 * p + 1 → x6 q = x q := fun q h1 h2 h3 => by subst e6 e5 e4 e3 e2 e1; rw [up2_row h1, up2_row h2, up2_row h3, up2_row h3, up2_row h3, up2_row h3]
    have X12 : x6 12 4 = -1 := by subst e6; rw [up2_s]
    refine lk2_inv (fun i y' => ∃ j : Nat, i = (j : Int) ∧ j ≤ 2 ∧ (∀ c, c ≠ 61 → y' c = y c) ∧ (∀ q, (q < 4 * p ∨ 4 * p + 4 ≤ q) → y' 61 q = y 61 q) ∧ ∀ k, k < 4 → y' 61 (4 * p + k) = if k < j ∨ 3 - j < k then y 61 (4 * p + (3 - k)) else y 61 (4 * p + k)) (fun i _ => (2 - i).toNat) ?_ _ _ ⟨0, rfl, by omega, fun _ _ => rfl, fun _ _ => rfl, fun k hk => by rw [if_neg (by omega)]⟩
    rintro bk i y' ⟨j, rfl, hj, h1, h2, h3⟩ hbk
    unfold wB_X8_mirror_13
    refine ⟨rg_sm (by omega) (by omega), ?_⟩
    by_cases hj2 : j = 2
    · subst hj2
      rw [if_pos (by omega)]
      unfold wX_X8_mirror_13
      rw [ep]
      refine ⟨by omega, ?_⟩
      intro y7 g7
      refine ⟨rfl, ⟨by decide, by decide⟩, ?_⟩
      have Y0 : ∀ q, y7 62 q = if q = p then 0 else y 62 q := fun q => by
        subst g7
        by_cases hq : q = p
        · subst hq; rw [up2_s, if_pos rfl]
        · rw [up2_k _ hq, if_neg hq, h1 62 (by decide)]
      have Y1 : ∀ k, k < 4 → y7 61 (4 * p + k) = y 61 (4 * p + (3 - k)) := fun k hk => by
        subst g7
        rw [up2_row (by decide), h3 k hk, if_pos (by omega)]
      have Y1o : ∀ q, (q < 4 * p ∨ 4 * p + 4 ≤ q) → y7 61 q = y 61 q := fun q hq => by subst g7; rw [up2_row (by decide)]; exact h2 q hq
      have Yo : ∀ q, q ≠ 61 → q ≠ 62 → y7 q = y q := fun q k1 k2 => by subst g7; rw [up2_row k2]; exact h1 q k1
      refine hR.plates (fun q h1 h2 h3 => Xo q h2 (by omega) (by omega)) (fun q h1 h2 h3 h4 => Yo q h2 h3) (by rw [Yo 60 (by decide) (by decide)]) ?_ ?_ (fun hm => Or.inl X12)
      · exact R0_c hR.1 (Xo 0 (by decide) (by omega) (by omega)) (by rw [Yo 60 (by decide) (by decide)]) (by rw [Yo 60 (by decide) (by decide)]) (by rw [Yo 60 (by decide) (by decide)])
      · intro q hq
        rw [Yo 60 (by decide) (by decide), Yo 63 (by decide) (by decide)]
        by_cases hqp : q = p
        · subst hqp
          obtain ⟨g1, g2, g3⟩ := hR.2.1 q hq
          obtain ⟨h4, h5⟩ := g3 (by omega)
          rw [X0, Y0, if_pos rfl]
          refine ⟨by omega, fun _ => rfl, fun _ => ⟨fun k hk => ?_, fun t ht => by simp at ht⟩⟩
          rw [X1 k hk, Y1 k hk]
          have g := h4 (3 - k) (by omega)
          have := cnL_nn (fun t => y 63 (20 * q + t)) ((3 - k : Nat) : Int) (y 62 q).toNat
          have e0 : cnL (fun t => y 63 (20 * q + t)) (k : Int) ((0 : Int).toNat) = 0 := rfl
          rw [e0]
          omega
        · have hQ := hR.2.1 q hq
          rw [Xo (20 + 3 * q) (by omega) (by omega) (by omega), Xo (20 + 3 * q + 1) (by omega) (by omega) (by omega), Xo (20 + 3 * q + 2) (by omega) (by omega) (by omega), Y0, if_neg hqp]
          refine ⟨hQ.1, hQ.2.1, fun z => ?_⟩
          obtain ⟨u4, u5⟩ := hQ.2.2 z
          refine ⟨fun k hk => ?_, u5⟩
          rw [Y1o _ (by omega)]
          exact u4 k hk
    · rw [if_neg (by omega)]
      have q1 : (4 * (p : Int) + (j : Int)).toNat = 4 * p + j := by omega
      have q2 : (4 * (p : Int) + 3 - (j : Int)).toNat = 4 * p + (3 - j) := by omega
      rw [q1, q2]
      refine ⟨by omega, ?_⟩
      intro v hv
      refine ⟨by omega, by omega, ?_⟩
      intro y13 g13
      refine ⟨by omega, ?_⟩
      intro y15 g15 w hw
      have hvj := h3 j (by omega)
      rw [if_neg (by omega)] at hvj
      have hvk := h3 (3 - j) (by omega)
      rw [if_neg (by omega)] at hvk
      have F : ∀ q, y15 61 q = if q = 4 * p + (3 - j) then y 61 (4 * p + j) else if q = 4 * p + j then y 61 (4 * p + (3 - j)) else y' 61 q := fun q => by
        subst g15
        by_cases e1 : q = 4 * p + (3 - j)
        · subst e1; rw [up2_s, if_pos rfl, hv, hvj]
        · rw [up2_k _ e1, if_neg e1]
          subst g13
          by_cases e2 : q = 4 * p + j
          · subst e2; rw [up2_s, if_pos rfl, hvk]
          · rw [up2_k _ e2, if_neg e2]
      refine hbk _ _ ⟨j + 1, by omega, by omega, fun c hc => by subst g15 g13; rw [up2_row hc, up2_row hc]; exact h1 c hc, fun q hq => ?_, fun k hk => ?_⟩ (by omega)
      · rw [F, if_neg (by omega), if_neg (by omega)]; exact h2 q hq
      · rw [F]
        by_cases e1 : k = 3 - j
        · subst e1
          rw [if_pos rfl, if_pos (by omega)]
          congr 1; omega
        · rw [if_neg (by omega)]
          by_cases e2 : k = j
          · subst e2
            rw [if_pos rfl, if_pos (by omega)]
          · rw [if_neg (by omega), h3 k hk]
            by_cases e3 : k < j ∨ 3 - j < k
            · rw [if_pos e3, if_pos (by omega)]
            · rw [if_neg e3, if_neg (by omega)]
  · exact t_isPlateM ha hn.2 (fun q => absurd (by omega) hp) (fun _ => gF ⟨rfl, rgm.2.1, hR⟩)
