/-! SIMULATION, method by method: plates -/
theorem rgm : rg (-1) ∧ rg (-2) ∧ rg (-3) ∧ rg (-4) := by unfold rg; decide
theorem Rel.n {x y : Mm} (h : Rel x y) : x 0 7 = y 60 0 ∧ 0 ≤ y 60 0 ∧ y 60 0 ≤ 4 := h.1.1
theorem Rel.rn {x y : Mm} (h : Rel x y) : rg (x 0 7) := by have := h.n; exact rg_sm (by omega) (by omega)
theorem R1.tok {x y : Mm} (h : R1 x y) {p : Nat} (hp : p < 4) (hn : (p : Int) < y 60 0) : tok (fun k => y 61 (4 * p + k)) ∧ tok (x (20 + 3 * p + 1)) := by
  obtain ⟨h1, h2, h3⟩ := h p hp
  have h4 := (h3 hn).1
  refine ⟨fun k hk => ?_, fun k hk => ?_⟩
  · have := h4 k hk; have := cnL_nn (fun t => y 63 (20 * p + t)) (k : Int) (y 62 p).toNat
    dsimp only
    omega
  · have := h4 k hk; have := cnL_nn (fun t => y 63 (20 * p + t)) (k : Int) (y 62 p).toNat
    omega
theorem sim_thick {x y : Mm} {a b : Int} (hR : Rel x y) (ha : rg a) (hb : rg b) : w_X7_thick a b x (fun r x' => w_X8_thick a b y (Sm x' r)) := by
  have hn := hR.n
  unfold w_X7_thick w_X8_thick
  refine t_isPlate ha hR.rn (fun hp => gT ?_) (fun hp => gF ?_)
  · refine t_isStrip hb (fun hs => gT ?_) (fun hs => gF ?_)
    · refine ⟨by omega, hs, ?_⟩
      refine t_isPlateM ha hn.2 (fun _ => gT ?_) (fun q => absurd (by omega) q)
      refine t_isFour hb (fun _ => gT ?_) (fun q => absurd hs q)
      have e : ((4 * a) + b).toNat = 4 * a.toNat + b.toNat := by omega
      have h4 := ((hR.2.1 a.toNat (by omega)).2.2 (by omega)).1 b.toNat (by omega)
      have h5 := (hR.2.1.tok (p := a.toNat) (by omega) (by omega)).1 b.toNat (by omega)
      dsimp only at h5
      rw [e]
      exact ⟨by omega, h4.1, rg_sm (by omega) (by omega), hR⟩
    · refine t_isPlateM ha hn.2 (fun _ => gT ?_) (fun q => absurd (by omega) q)
      exact t_isFour hb (fun q => absurd q hs) (fun _ => gF ⟨rfl, rgm.2.1, hR⟩)
  · exact t_isPlateM ha hn.2 (fun q => absurd (by omega) hp) (fun _ => gF ⟨rfl, rgm.2.1, hR⟩)
theorem metC_o {x x' : Mm} {y : Mm} (h2 : R2 x y) (h : ∀ c, (c = 2 ∨ c = 3 ∨ c = 9 ∨ c = 10 ∨ c = 11 ∨ (32 ≤ c ∧ c < 56)) → x' c = x c) : cft x' = cft x ∧ metC x' = metC x := by
  have hc : cft x' = cft x := cft_c h2.2.1 (by have := h2.1; omega) (by rw [h 2 (by omega)]) (h 3 (by omega)) (fun c h1 h2 => h c (by omega))
  exact ⟨hc, metC_c hc (h 9 (by omega)) (h 10 (by omega)) (h 11 (by omega))⟩
/-- a step that leaves taps, woods and aims alone -/
theorem Rel.plates {x x' y y' : Mm} (h : Rel x y) (hx : ∀ c, c ≠ 0 → c ≠ 12 → (c < 20 ∨ 32 ≤ c) → x' c = x c) (hy : ∀ c, c ≠ 60 → c ≠ 61 → c ≠ 62 → c ≠ 63 → y' c = y c) (hy5 : y' 60 5 = y 60 5) (r0 : R0 x' y') (r1 : R1 x' y') (r5 : (metC x' = metC x) → R5 x') : Rel x' y' := by
  obtain ⟨a, b, c, d, e, f⟩ := h
  have hm := metC_o (x' := x') c (fun q hq => hx q (by omega) (by omega) (by omega))
  refine ⟨r0, r1, R2_c c (by rw [hx 2 (by decide) (by decide) (by omega)]) (hx 3 (by decide) (by decide) (by omega)) (fun q h1 h2 => hx q (by omega) (by omega) (by omega)) hy5 (hy 64 (by decide) (by decide) (by decide) (by decide)) (hy 65 (by decide) (by decide) (by decide) (by decide)) (hy 66 (by decide) (by decide) (by decide) (by decide)) (hy 67 (by decide) (by decide) (by decide) (by decide)), ?_, R4_c e (hx 9 (by decide) (by decide) (by omega)) (hx 10 (by decide) (by decide) (by omega)) (hx 11 (by decide) (by decide) (by omega)) (hy 68 (by decide) (by decide) (by decide) (by decide)) (hy 69 (by decide) (by decide) (by decide) (by decide)) (hy 70 (by decide) (by decide) (by decide) (by decide)), r5 hm.2⟩
  rw [hm.1]
  exact WD_c d (by rw [hx 2 (by decide) (by decide) (by omega)]) (hx 4 (by decide) (by decide) (by omega)) (hx 5 (by decide) (by decide) (by omega)) (hx 6 (by decide) (by decide) (by omega)) (hx 7 (by decide) (by decide) (by omega))
theorem sim_plate {x y : Mm} {a b c d : Int} (hR : Rel x y) (ha : rg a) (hb : rg b) (hc : rg c) (hd : rg d) : w_X7_plate a b c d x (fun r x' => w_X8_plate a b c d y (Sm x' r)) := by
  have hn := hR.n
  unfold w_X7_plate w_X8_plate
  refine t_isThickness ha (fun h1 => gT ?_) (fun h1 => gF ?_)
  · refine t_isThickness hb (fun h2 => gT ?_) (fun h2 => gF ?_)
    · refine t_isThickness hc (fun h3 => gT ?_) (fun h3 => gF ?_)
      · refine t_isThickness hd (fun h4 => gT ?_) (fun h4 => gF ?_)
        · refine ⟨hR.rn, ?_⟩
          have goM : ∀ {A : Prop} {B : Prop} {y2 : Mm}, True → True := fun _ => trivial
          by_cases hf : x 0 7 < 4
          · rw [if_pos hf]
            refine ⟨by omega, ?_⟩
            intro x1 e1 x2 e2 x3 e3 x4 e4 x5 e5
            refine t_isThick ha (fun _ => gT ?_) (fun q => absurd h1 q)
            refine t_isThick hb (fun _ => gT ?_) (fun q => absurd h2 q)
            refine t_isThick hc (fun _ => gT ?_) (fun q => absurd h3 q)
            refine t_isThick hd (fun _ => gT ?_) (fun q => absurd h4 q)
            refine ⟨rg_sm (by omega) (by omega), ?_⟩
            rw [if_neg (by omega)]
            refine ⟨by omega, ?_⟩
            intro y1 g1
            have k1 : y1 60 = y 60 := by subst g1; rw [up2_row (by decide)]
            rw [k1]
            refine ⟨by omega, ?_⟩
            intro y2 g2
            have k2 : y2 60 = y 60 := by subst g2; rw [up2_row (by decide)]; exact k1
            rw [k2]
            refine ⟨by omega, ?_⟩
            intro y3 g3
            have k3 : y3 60 = y 60 := by subst g3; rw [up2_row (by decide)]; exact k2
            rw [k3]
            refine ⟨by omega, ?_⟩
            intro y4 g4 y5 g5
            have k4 : y4 60 = y 60 := by subst g4; rw [up2_row (by decide)]; exact k3
            obtain ⟨n, hnn⟩ : ∃ n : Nat, y 60 0 = (n : Int) := ⟨(y 60 0).toNat, by omega⟩
            have hn4 : n < 4 := by omega
            have en : (x 0 7).toNat = n := by omega
            rw [en] at e1 e2 e3 e4
            have f0 : (4 * (y 60 0)).toNat = 4 * n := by omega
            have f1 : ((4 * (y 60 0)) + 1).toNat = 4 * n + 1 := by omega
            have f2 : ((4 * (y 60 0)) + 2).toNat = 4 * n + 2 := by omega
            have f3 : ((4 * (y 60 0)) + 3).toNat = 4 * n + 3 := by omega
            rw [f0] at g1; rw [f1] at g2; rw [f2] at g3; rw [f3] at g4
            rw [k4] at g5
            have xo : ∀ q, q ≠ 0 → q ≠ 20 + 3 * n + 1 → x5 q = x q := fun q h1 h2 => by
              subst e5 e4 e3 e2 e1
              rw [up2_row h1, up2_row h2, up2_row h2, up2_row h2, up2_row h2]
            have xp : ∀ k, x4 (20 + 3 * n + 1) k = if k = 3 then d else if k = 2 then c else if k = 1 then b else if k = 0 then a else x (20 + 3 * n + 1) k := fun k => by
              subst e4 e3 e2 e1
              simp [up2]
            have xp5 : x5 (20 + 3 * n + 1) = x4 (20 + 3 * n + 1) := by subst e5; rw [up2_row (by omega)]
            have x40 : x4 0 = x 0 := by subst e4 e3 e2 e1; rw [up2_row (by omega), up2_row (by omega), up2_row (by omega), up2_row (by omega)]
            rw [x40] at e5
            have x07 : x5 0 7 = x 0 7 + 1 := by subst e5; rw [up2_s]
            have x0k : ∀ k, k ≠ 7 → x5 0 k = x 0 k := fun k hk => by subst e5; rw [up2_k 0 hk, x40]
            have yo : ∀ q, q ≠ 60 → q ≠ 61 → y5 q = y q := fun q h1 h2 => by
              subst g5 g4 g3 g2 g1
              rw [up2_row h1, up2_row h2, up2_row h2, up2_row h2, up2_row h2]
            have yp : ∀ k, y4 61 k = if k = 4 * n + 3 then d else if k = 4 * n + 2 then c else if k = 4 * n + 1 then b else if k = 4 * n then a else y 61 k := fun k => by
              subst g4 g3 g2 g1
              simp [up2]
            have yp5 : y5 61 = y4 61 := by subst g5; rw [up2_row (by decide)]
            have y00 : y5 60 0 = y 60 0 + 1 := by subst g5; rw [up2_s]
            have y0k : ∀ k, k ≠ 0 → y5 60 k = y 60 k := fun k hk => by subst g5; rw [up2_k 60 hk, k4]
            refine ⟨by rw [x07, y00]; omega, rg_sm (by omega) (by omega), ?_⟩
            refine hR.plates (fun q h1 h2 h3 => xo q h1 (by omega)) (fun q h1 h2 h3 h4 => yo q h1 h2) (y0k 5 (by decide)) ?_ ?_ (fun hm => ?_)
            · have := hR.1
              unfold R0 at this ⊢
              rw [x07, y00, x0k 8 (by decide), x0k 9 (by decide), y0k 2 (by decide), y0k 13 (by decide)]
              exact ⟨by omega, this.2⟩
            · intro p hp
              have h := hR.2.1 p hp
              rw [xo (20 + 3 * p) (by omega) (by omega), xo (20 + 3 * p + 2) (by omega) (by omega), yo 62 (by decide) (by decide), yo 63 (by decide) (by decide), y00]
              refine ⟨h.1, fun q => h.2.1 (by omega), fun q => ?_⟩
              by_cases hpn : p = n
              · subst hpn
                have hz := h.2.1 (by omega)
                rw [hz]
                refine ⟨fun k hk => ?_, fun t ht => by simp at ht⟩
                rw [xp5, yp5, xp k, yp (4 * p + k)]
                have e0 : cnL (fun t => y 63 (20 * p + t)) (k : Int) ((0 : Int).toNat) = 0 := rfl
                rw [e0]
                rcases (show k = 0 ∨ k = 1 ∨ k = 2 ∨ k = 3 by omega) with r | r | r | r <;> subst r <;> simp <;> omega
              · obtain ⟨u1, u2⟩ := h.2.2 (by omega)
                refine ⟨fun k hk => ?_, u2⟩
                rw [xo (20 + 3 * p + 1) (by omega) (by omega), yp5, yp (4 * p + k), if_neg (by omega), if_neg (by omega), if_neg (by omega), if_neg (by omega)]
                exact u1 k hk
            · exact R5_c hR.2.2.2.2.2 hm (xo 12 (by decide) (by omega)) (xo 13 (by decide) (by omega)) (by omega) (by omega) (x0k 8 (by decide)) (fun p hp => xo _ (by omega) (by omega))
          · rw [if_neg hf]
            refine t_isThick ha (fun _ => gT ?_) (fun q => absurd h1 q)
            refine t_isThick hb (fun _ => gT ?_) (fun q => absurd h2 q)
            refine t_isThick hc (fun _ => gT ?_) (fun q => absurd h3 q)
            refine t_isThick hd (fun _ => gT ?_) (fun q => absurd h4 q)
            refine ⟨rg_sm (by omega) (by omega), ?_⟩
            rw [if_pos (by omega)]
            exact ⟨rfl, rgm.2.2.2, hR⟩
        · refine t_isThick ha (fun _ => gT ?_) (fun q => absurd h1 q)
          refine t_isThick hb (fun _ => gT ?_) (fun q => absurd h2 q)
          refine t_isThick hc (fun _ => gT ?_) (fun q => absurd h3 q)
          exact t_isThick hd (fun q => absurd q h4) (fun _ => gF ⟨rfl, rgm.2.1, hR⟩)
      · refine t_isThick ha (fun _ => gT ?_) (fun q => absurd h1 q)
        refine t_isThick hb (fun _ => gT ?_) (fun q => absurd h2 q)
        exact t_isThick hc (fun q => absurd q h3) (fun _ => gF ⟨rfl, rgm.2.1, hR⟩)
    · refine t_isThick ha (fun _ => gT ?_) (fun q => absurd h1 q)
      exact t_isThick hb (fun q => absurd q h2) (fun _ => gF ⟨rfl, rgm.2.1, hR⟩)
  · exact t_isThick ha (fun q => absurd q h1) (fun _ => gF ⟨rfl, rgm.2.1, hR⟩)
theorem sim_least {x y : Mm} {a : Int} (hR : Rel x y) (ha : rg a) : w_X7_least a x (fun r x' => w_X8_least a y (Sm x' r)) := by
  unfold w_X7_least w_X8_least
  refine t_isThickness ha (fun h1 => gT ?_) (fun h1 => gF ?_)
  · intro v hv x1 e1 x2 e2
    refine t_isThick ha (fun _ => gT ?_) (fun q => absurd h1 q)
    intro u hu y1 g1
    have h0 := hR.1
    unfold R0 at h0
    have xo : ∀ q, q ≠ 0 → q ≠ 12 → x2 q = x q := fun q h1 h2 => by subst e2 e1; rw [up2_row h2, up2_row h1]
    refine ⟨by omega, rg_sm (by omega) (by omega), ?_⟩
    refine hR.plates (fun q h1 h2 h3 => xo q h1 h2) (fun q h1 h2 h3 h4 => by subst g1; rw [up2_row h1]) (by subst g1; rw [up2_k 60 (by decide)]) ?_ ?_ (fun hm => ?_)
    · have k8 : x2 0 8 = a := by subst e2 e1; rw [up2_row (by decide), up2_s]
      have k7 : x2 0 7 = x 0 7 := by subst e2 e1; rw [up2_row (by decide), up2_k 0 (by decide)]
      have k9 : x2 0 9 = x 0 9 := by subst e2 e1; rw [up2_row (by decide), up2_k 0 (by decide)]
      have l2 : y1 60 2 = a := by subst g1; rw [up2_s]
      have l0 : y1 60 0 = y 60 0 := by subst g1; rw [up2_k 60 (by decide)]
      have l13 : y1 60 13 = y 60 13 := by subst g1; rw [up2_k 60 (by decide)]
      unfold R0
      rw [k8, k7, k9, l2, l0, l13]
      exact ⟨h0.1, ⟨rfl, h1⟩, h0.2.2⟩
    · exact R1_c hR.2.1 (fun q h1 h2 => xo q (by omega) (by omega)) (by subst g1; rw [up2_k 60 (by decide)]) (by subst g1; rw [up2_row (by decide)]) (by subst g1; rw [up2_row (by decide)]) (by subst g1; rw [up2_row (by decide)])
    · exact Or.inl (by subst e2; rw [up2_s])
  · exact t_isThick ha (fun q => absurd q h1) (fun _ => gF ⟨rfl, rgm.2.1, hR⟩)
