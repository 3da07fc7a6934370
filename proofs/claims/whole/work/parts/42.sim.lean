theorem bnd_cg {t u : Nat → Int} (h : ∀ k, k < 4 → u k = t k) (s : Int) (i : Nat) : bnd u s i = bnd t s i := by
  unfold bnd
  split
  · rw [h 0 (by omega)]
  · split
    · rw [h 3 (by omega)]
    · rw [h (i - 1) (by omega), h i (by omega)]
theorem cn_cg {t u : Nat → Int} (h : ∀ k, k < 4 → u k = t k) : cn u = cn t := by
  funext s y
  unfold cn z5 z4 z3 z2 z1
  simp only [bnd_cg h, h 0 (by omega), h 1 (by omega), h 2 (by omega), h 3 (by omega)]
theorem Vf_cg {t u : Nat → Int} (h : cn u = cn t) (s k : Int) (n : Nat) : Vf u s k n = Vf t s k n := by
  induction n with
  | zero => rfl
  | succ n ih => unfold Vf; rw [h, ih]
theorem Vv_cg {t u : Nat → Int} (h : ∀ k, k < 4 → u k = t k) : Vv u = Vv t := by
  funext s k
  exact Vf_cg (cn_cg h) s k 364
theorem tok_cg {t u : Nat → Int} (h : ∀ k, k < 4 → u k = t k) (ht : tok t) : tok u := fun k hk => by rw [h k hk]; exact ht k hk
/-- the rows of a plate, in both -/
theorem Rel.st {x y : Mm} (h : Rel x y) {a : Int} (ha : 0 ≤ a ∧ a < y 60 0) : tok (x (20 + 3 * a.toNat + 1)) ∧ ∀ k, k < 4 → y 61 (4 * a.toNat + k) = x (20 + 3 * a.toNat + 1) k := by
  have hn := h.n
  exact ⟨(h.2.1.tok (p := a.toNat) (by omega) (by omega)).2, fun k hk => (((h.2.1 a.toNat (by omega)).2.2 (by omega)).1 k hk).1.symm⟩
theorem m_take {y : Mm} {a : Int} {post : Mm → Prop} (ha : 0 ≤ a ∧ a < 4) (h : ∀ y' : Mm, (∀ k, k < 4 → y' 71 k = y 61 (4 * a.toNat + k)) → (∀ c, c ≠ 71 → y' c = y c) → post y') : w_X8_take 61 a y post := s_take (by decide) ha.1 (by have : al 61 = 16 := rfl; rw [this]; omega) h
theorem scM71 {y y' : Mm} (h : ∀ c, c ≠ 71 → y' c = y c) : scM y y' := ⟨fun c _ h1 _ _ _ => h c h1, fun k _ _ => by rw [h 60 (by decide)]⟩
theorem sim_tone {x y : Mm} {a s w k : Int} (hR : Rel x y) (ha : rg a) (hs : rg s) (hw : rg w) (hk : rg k) : w_X7_tone a s w k x (fun r x' => w_X8_tone a s w k y (Sm x' r)) := by
  have hn := hR.n
  unfold w_X7_tone w_X8_tone
  refine t_isPlate ha hR.rn (fun h1 => gT ?_) (fun h1 => gF ?_)
  · refine t_isWood hs hw (fun h2 => gT ?_) (fun h2 => gF ?_)
    · refine t_isTone hk (fun h3 => gT ?_) (fun h3 => gF ?_)
      · obtain ⟨ht, he⟩ := hR.st (a := a) (by omega)
        have hV := Vv_bd ht h2.1 h3.1
        refine ⟨by omega, ?_⟩
        refine s_wholeValue ht h2.1 h3 ?_
        refine s_byWeight ⟨hV.1, by omega⟩ h2.2 ?_
        refine t_isPlateM ha hn.2 (fun _ => gT ?_) (fun q => absurd (by omega) q)
        refine t_isWoodM hs hw (fun _ => gT ?_) (fun q => absurd h2 q)
        refine t_isFour hk (fun _ => gT ?_) (fun q => absurd h3 q)
        refine m_take (by omega) (fun y' e1 e2 => ?_)
        have e3 : ∀ k, k < 4 → y' 71 k = x (20 + 3 * a.toNat + 1) k := fun k hk => by rw [e1 k hk, he k hk]
        refine s_toneOf (tok_cg e3 ht) h2.1 h2.2 h3 ?_
        rw [Vv_cg e3]
        have hd := div_bd (v := Vv (x (20 + 3 * a.toNat + 1)) s k) ⟨hV.1, by omega⟩ h2.2
        exact ⟨rfl, rg_sm (by omega) (by omega), hR.sc (scC.rf x) (scM71 e2)⟩
      · refine t_isPlateM ha hn.2 (fun _ => gT ?_) (fun q => absurd (by omega) q)
        refine t_isWoodM hs hw (fun _ => gT ?_) (fun q => absurd h2 q)
        exact t_isFour hk (fun q => absurd q h3) (fun _ => gF ⟨rfl, rgm.2.1, hR⟩)
    · refine t_isPlateM ha hn.2 (fun _ => gT ?_) (fun q => absurd (by omega) q)
      exact t_isWoodM hs hw (fun q => absurd q h2) (fun _ => gF ⟨rfl, rgm.2.1, hR⟩)
  · exact t_isPlateM ha hn.2 (fun q => absurd (by omega) h1) (fun _ => gF ⟨rfl, rgm.2.1, hR⟩)
theorem sim_below {x y : Mm} {a s w z : Int} (hR : Rel x y) (ha : rg a) (hs : rg s) (hw : rg w) (hz : rg z) : w_X7_below a s w z x (fun r x' => w_X8_below a s w z y (Sm x' r)) := by
  have hn := hR.n
  unfold w_X7_below w_X8_below
  refine t_isPlate ha hR.rn (fun h1 => gT ?_) (fun h1 => gF ?_)
  · refine t_isWood hs hw (fun h2 => gT ?_) (fun h2 => gF ?_)
    · refine t_isNumber hz (fun h3 => gT ?_) (fun h3 => gF ?_)
      · obtain ⟨ht, he⟩ := hR.st (a := a) (by omega)
        have hb := mul_bd (a := z) (b := w) h3.1 (by have := h2.2.1; omega) h3.2 h2.2.2
        refine ⟨by omega, ?_⟩
        refine s_valuesBelow ht h2.1 hb.1 (by omega) ?_
        refine t_isPlateM ha hn.2 (fun _ => gT ?_) (fun q => absurd (by omega) q)
        refine t_isWoodM hs hw (fun _ => gT ?_) (fun q => absurd h2 q)
        refine t_in hz ⟨by decide, by decide⟩ ⟨by decide, by decide⟩ (fun _ => gT ?_) (fun q => absurd h3 q)
        refine m_take (by omega) (fun y' e1 e2 => ?_)
        have e3 : ∀ k, k < 4 → y' 71 k = x (20 + 3 * a.toNat + 1) k := fun k hk => by rw [e1 k hk, he k hk]
        refine s_belowOf (tok_cg e3 ht) h2.1 h2.2 (by omega) ?_
        rw [cn_cg e3]
        have hd := cn_bd (x (20 + 3 * a.toNat + 1)) s (z * w)
        exact ⟨rfl, rg_sm (by omega) (by omega), hR.sc (scC.rf x) (scM71 e2)⟩
      · refine t_isPlateM ha hn.2 (fun _ => gT ?_) (fun q => absurd (by omega) q)
        refine t_isWoodM hs hw (fun _ => gT ?_) (fun q => absurd h2 q)
        exact t_in hz ⟨by decide, by decide⟩ ⟨by decide, by decide⟩ (fun q => absurd q h3) (fun _ => gF ⟨rfl, rgm.2.1, hR⟩)
    · refine t_isPlateM ha hn.2 (fun _ => gT ?_) (fun q => absurd (by omega) q)
      exact t_isWoodM hs hw (fun q => absurd q h2) (fun _ => gF ⟨rfl, rgm.2.1, hR⟩)
  · exact t_isPlateM ha hn.2 (fun q => absurd (by omega) h1) (fun _ => gF ⟨rfl, rgm.2.1, hR⟩)
theorem sim_bond {x y : Mm} {a s i : Int} (hR : Rel x y) (ha : rg a) (hs : rg s) (hi : rg i) : w_X7_bond a s i x (fun r x' => w_X8_bond a s i y (Sm x' r)) := by
  have hn := hR.n
  unfold w_X7_bond w_X8_bond
  refine t_isPlate ha hR.rn (fun h1 => gT ?_) (fun h1 => gF ?_)
  · have badS : ¬ (1 ≤ s ∧ s ≤ 9) → w_X8_isPlate a y (fun z_2 x_1 => rg z_2 ∧ (if z_2 = 0 then (Sm x (-2) (-2) x_1) else (w_X8_isThick s x_1 (fun z_5 x_4 => rg z_5 ∧ (if z_5 = 0 then (Sm x (-2) (-2) x_4) else (w_X8_in i 0 4 x_4 (fun z_8 x_7 => rg z_8 ∧ (if z_8 = 0 then (Sm x (-2) (-2) x_7) else (w_X8_take 61 a x_7 (fun x_10 => w_X8_bondOf s i x_10 (fun z_12 x_11 => Sm x (-2) z_12 x_11))))))))))) := fun h => by
      refine t_isPlateM ha hn.2 (fun _ => gT ?_) (fun q => absurd (by omega) q)
      exact t_isThick hs (fun q => absurd q h) (fun _ => gF ⟨rfl, rgm.2.1, hR⟩)
    have badI : (1 ≤ s ∧ s ≤ 9) → ¬ (0 ≤ i ∧ i ≤ 4) → w_X8_isPlate a y (fun z_2 x_1 => rg z_2 ∧ (if z_2 = 0 then (Sm x (-2) (-2) x_1) else (w_X8_isThick s x_1 (fun z_5 x_4 => rg z_5 ∧ (if z_5 = 0 then (Sm x (-2) (-2) x_4) else (w_X8_in i 0 4 x_4 (fun z_8 x_7 => rg z_8 ∧ (if z_8 = 0 then (Sm x (-2) (-2) x_7) else (w_X8_take 61 a x_7 (fun x_10 => w_X8_bondOf s i x_10 (fun z_12 x_11 => Sm x (-2) z_12 x_11))))))))))) := fun h0 h => by
      refine t_isPlateM ha hn.2 (fun _ => gT ?_) (fun q => absurd (by omega) q)
      refine t_isThick hs (fun _ => gT ?_) (fun q => absurd h0 q)
      exact t_in hi ⟨by decide, by decide⟩ ⟨by decide, by decide⟩ (fun q => absurd q h) (fun _ => gF ⟨rfl, rgm.2.1, hR⟩)
    refine ⟨hs, ?_⟩
    split
    · exact badS (by omega)
    · refine ⟨hs, ?_⟩
      split
      · exact badS (by omega)
      · refine ⟨hi, ?_⟩
        split
        · exact badI (by omega) (by omega)
        · refine ⟨hi, ?_⟩
          split
          · obtain ⟨ht, he⟩ := hR.st (a := a) (by omega)
            have hss : sok s := ⟨by omega, by omega⟩
            obtain ⟨j, rfl⟩ : ∃ j : Nat, i = (j : Int) := ⟨i.toNat, by omega⟩
            refine ⟨by omega, ?_⟩
            refine s_bondAt ht hss (by omega) ?_
            refine t_isPlateM ha hn.2 (fun _ => gT ?_) (fun q => absurd (by omega) q)
            refine t_isThick hs (fun _ => gT ?_) (fun q => absurd (by omega) q)
            refine t_in hi ⟨by decide, by decide⟩ ⟨by decide, by decide⟩ (fun _ => gT ?_) (fun q => absurd (by omega) q)
            refine m_take (by omega) (fun y' e1 e2 => ?_)
            have e3 : ∀ k, k < 4 → y' 71 k = x (20 + 3 * a.toNat + 1) k := fun k hk => by rw [e1 k hk, he k hk]
            refine s_bondOf (tok_cg e3 ht) hss (by omega) ?_
            rw [bnd_cg e3]
            have hd := bnd_bd ht hss j
            exact ⟨rfl, rg_sm (by omega) (by omega), hR.sc (scC.rf x) (scM71 e2)⟩
          · exact badI (by omega) (by omega)
  · exact t_isPlateM ha hn.2 (fun q => absurd (by omega) h1) (fun _ => gF ⟨rfl, rgm.2.1, hR⟩)
theorem sim_off {x y : Mm} {a : Int} (hR : Rel x y) (ha : rg a) : w_X7_off a x (fun r x' => w_X8_off a y (Sm x' r)) := by
  unfold w_X7_off w_X8_off
  have h0 := hR.1
  unfold R0 at h0
  refine ⟨ha, ?_⟩
  split
  · exact t_in ha ⟨by decide, by decide⟩ ⟨by decide, by decide⟩ (fun q => absurd q (by omega)) (fun _ => gF ⟨rfl, rgm.2.1, hR⟩)
  · refine ⟨ha, ?_⟩
    split
    · intro v hv x1 e1
      refine t_in ha ⟨by decide, by decide⟩ ⟨by decide, by decide⟩ (fun _ => gT ?_) (fun q => absurd (by omega) q)
      intro u hu y1 g1
      have xo : ∀ q, q ≠ 0 → x1 q = x q := fun q h1 => by subst e1; rw [up2_row h1]
      have k9 : x1 0 9 = a := by subst e1; rw [up2_s]
      have k7 : x1 0 7 = x 0 7 := by subst e1; rw [up2_k 0 (by decide)]
      have k8 : x1 0 8 = x 0 8 := by subst e1; rw [up2_k 0 (by decide)]
      have l2 : y1 60 2 = y 60 2 := by subst g1; rw [up2_k 60 (by decide)]
      have l0 : y1 60 0 = y 60 0 := by subst g1; rw [up2_k 60 (by decide)]
      have l13 : y1 60 13 = a := by subst g1; rw [up2_s]
      refine ⟨by omega, rg_sm (by omega) (by omega), ?_⟩
      refine hR.plates (fun q h1 h2 h3 => xo q h1) (fun q h1 h2 h3 h4 => by subst g1; rw [up2_row h1]) (by subst g1; rw [up2_k 60 (by decide)]) ?_ ?_ (fun hm => ?_)
      · unfold R0
        rw [k8, k7, k9, l2, l0, l13]
        exact ⟨h0.1, h0.2.1, rfl, by omega, by omega⟩
      · exact R1_c hR.2.1 (fun q h1 h2 => xo q (by omega)) l0 (by subst g1; rw [up2_row (by decide)]) (by subst g1; rw [up2_row (by decide)]) (by subst g1; rw [up2_row (by decide)])
      · exact R5_c hR.2.2.2.2.2 hm (xo 12 (by decide)) (xo 13 (by decide)) (by omega) (by omega) k8 (fun p hp => xo _ (by omega))
    · exact t_in ha ⟨by decide, by decide⟩ ⟨by decide, by decide⟩ (fun q => absurd q (by omega)) (fun _ => gF ⟨rfl, rgm.2.1, hR⟩)
/-- how many of the first n numbers aren't 0 -/
def nz4 (r : Nat → Int) : Nat → Int
  | 0 => 0
  | n + 1 => nz4 r n + (if r n = 0 then 0 else 1)
theorem nz4_bd (r : Nat → Int) (n : Nat) : 0 ≤ nz4 r n ∧ nz4 r n ≤ n := by
  induction n with
  | zero => exact ⟨Int.le_refl 0, Int.le_refl 0⟩
  | succ n ih => unfold nz4; split <;> omega
theorem nz4_cg {r u : Nat → Int} {n : Nat} (h : ∀ k, k < n → u k = r k) : nz4 u n = nz4 r n := by
  induction n with
  | zero => rfl
  | succ n ih => unfold nz4; rw [ih (fun k hk => h k (by omega)), h n (by omega)]
theorem s_spans {x : Mm} {post : Int → Mm → Prop} (hb : ∀ k, k < 4 → rg (x 9 k)) (h : post (nz4 (x 9) 4) x) : w_X0_spans x post := by
  unfold w_X0_spans
  refine lk2_inv (fun n i => ∃ j : Nat, i = (j : Int) ∧ j ≤ 4 ∧ n = nz4 (x 9) j) (fun _ i => (4 - i).toNat) ?_ _ _ ⟨0, rfl, by omega, rfl⟩
  rintro bk n i ⟨j, rfl, hj, rfl⟩ hbk
  unfold wB_X0_spans_4
  refine ⟨rg_sm (by omega) (by omega), ?_⟩
  by_cases h4 : j = 4
  · subst h4; rw [if_pos (by omega)]; exact h
  · rw [if_neg (by omega)]
    have e : ((j : Int)).toNat = j := by omega
    rw [e]
    refine ⟨by omega, hb j (by omega), ?_⟩
    split
    · rename_i q
      intro v hv
      exact hbk _ _ ⟨j + 1, by omega, by omega, by show nz4 (x 9) j = nz4 (x 9) j + _; rw [if_pos q]; omega⟩ (by omega)
    · rename_i q
      intro u hu v hv
      exact hbk _ _ ⟨j + 1, by omega, by omega, by rw [hu]; show nz4 (x 9) j + 1 = nz4 (x 9) j + _; rw [if_neg q]⟩ (by omega)
theorem s_aims {x : Mm} {post : Int → Mm → Prop} (hb : ∀ k, k < 4 → rg (x 68 k)) (h : post (nz4 (x 68) 4) x) : w_X8_aims x post := by
  unfold w_X8_aims
  refine lk2_inv (fun n i => ∃ j : Nat, i = (j : Int) ∧ j ≤ 4 ∧ n = nz4 (x 68) j) (fun _ i => (4 - i).toNat) ?_ _ _ ⟨0, rfl, by omega, rfl⟩
  rintro bk n i ⟨j, rfl, hj, rfl⟩ hbk
  unfold wB_X8_aims_4
  refine ⟨rg_sm (by omega) (by omega), ?_⟩
  by_cases h4 : j = 4
  · subst h4; rw [if_pos (by omega)]; exact h
  · rw [if_neg (by omega)]
    have e : ((j : Int)).toNat = j := by omega
    rw [e]
    refine ⟨by omega, hb j (by omega), ?_⟩
    split
    · rename_i q
      intro u hu v hv
      exact hbk _ _ ⟨j + 1, by omega, by omega, by rw [hu]; show nz4 (x 68) j + 0 = nz4 (x 68) j + _; rw [if_pos q]⟩ (by omega)
    · rename_i q
      intro u hu v hv
      exact hbk _ _ ⟨j + 1, by omega, by omega, by rw [hu]; show nz4 (x 68) j + 1 = nz4 (x 68) j + _; rw [if_neg q]⟩ (by omega)
theorem Rel.aim {x y : Mm} (h : Rel x y) : (∀ k, k < 4 → rg (x 9 k)) ∧ (∀ k, k < 4 → rg (y 68 k)) ∧ nz4 (y 68) 4 = nz4 (x 9) 4 := by
  have h4 := h.2.2.2.2.1
  refine ⟨fun k hk => ?_, fun k hk => ?_, nz4_cg (fun k hk => (h4 k hk).1.symm)⟩
  · have := h4 k hk; rcases this.2.1 with z | z <;> exact rg_sm (by omega) (by omega)
  · have := h4 k hk; rcases this.2.1 with z | z <;> exact rg_sm (by omega) (by omega)
/-- a step that changes the aims alone, and forgets the plan -/
theorem Rel.aims {x x' y y' : Mm} (h : Rel x y) (hx : ∀ c, c ≠ 9 → c ≠ 10 → c ≠ 11 → c ≠ 12 → x' c = x c) (hy : ∀ c, c ≠ 68 → c ≠ 69 → c ≠ 70 → y' c = y c) (r4 : R4 x' y') (r5 : x' 12 4 = -1) : Rel x' y' := by
  obtain ⟨a, b, c, d, e, f⟩ := h
  have hc : cft x' = cft x := cft_c c.2.1 (by have := c.1; omega) (by rw [hx 2 (by decide) (by decide) (by decide) (by decide)]) (hx 3 (by decide) (by decide) (by decide) (by decide)) (fun q h1 h2 => hx q (by omega) (by omega) (by omega) (by omega))
  refine ⟨R0_c a (hx 0 (by decide) (by decide) (by decide) (by decide)) (by rw [hy 60 (by decide) (by decide) (by decide)]) (by rw [hy 60 (by decide) (by decide) (by decide)]) (by rw [hy 60 (by decide) (by decide) (by decide)]), R1_c b (fun q h1 h2 => hx q (by omega) (by omega) (by omega) (by omega)) (by rw [hy 60 (by decide) (by decide) (by decide)]) (hy 61 (by decide) (by decide) (by decide)) (hy 62 (by decide) (by decide) (by decide)) (hy 63 (by decide) (by decide) (by decide)), R2_c c (by rw [hx 2 (by decide) (by decide) (by decide) (by decide)]) (hx 3 (by decide) (by decide) (by decide) (by decide)) (fun q h1 h2 => hx q (by omega) (by omega) (by omega) (by omega)) (by rw [hy 60 (by decide) (by decide) (by decide)]) (hy 64 (by decide) (by decide) (by decide)) (hy 65 (by decide) (by decide) (by decide)) (hy 66 (by decide) (by decide) (by decide)) (hy 67 (by decide) (by decide) (by decide)), ?_, r4, Or.inl r5⟩
  rw [hc]
  exact WD_c d (by rw [hx 2 (by decide) (by decide) (by decide) (by decide)]) (hx 4 (by decide) (by decide) (by decide) (by decide)) (hx 5 (by decide) (by decide) (by decide) (by decide)) (hx 6 (by decide) (by decide) (by decide) (by decide)) (hx 7 (by decide) (by decide) (by decide) (by decide))
theorem sim_aim {x y : Mm} {k a b : Int} (hR : Rel x y) (hk : rg k) (ha : rg a) (hb : rg b) : w_X7_aim k a b x (fun r x' => w_X8_aim k a b y (Sm x' r)) := by
  unfold w_X7_aim w_X8_aim w_X0_put
  refine t_isTone hk (fun h1 => gT ?_) (fun h1 => gF ?_)
  · refine t_isSpan ha hb (fun h2 => gT ?_) (fun h2 => gF ?_)
    · refine t_isTone hk (fun _ => gT ?_) (fun q => absurd h1 q)
      refine ⟨h1, ?_⟩
      intro x1 e1
      refine ⟨h1, ?_⟩
      intro x2 e2
      refine ⟨h1, ?_⟩
      intro x3 e3 x4 e4
      refine t_isFour hk (fun _ => gT ?_) (fun q => absurd h1 q)
      refine t_in ha ⟨by decide, by decide⟩ ⟨by decide, by decide⟩ (fun _ => gT ?_) (fun q => absurd (by omega) q)
      refine t_in hb ha ⟨by decide, by decide⟩ (fun _ => gT ?_) (fun q => absurd (by omega) q)
      refine ⟨h1, ?_⟩
      intro y1 g1
      refine ⟨h1, ?_⟩
      intro y2 g2
      refine ⟨h1, ?_⟩
      intro y3 g3
      refine ⟨rfl, ⟨by decide, by decide⟩, ?_⟩
      refine hR.aims (fun q k1 k2 k3 k4 => by subst e4 e3 e2 e1; rw [up2_row k4, up2_row k3, up2_row k2, up2_row k1]) (fun q k1 k2 k3 => by subst g3 g2 g1; rw [up2_row k3, up2_row k2, up2_row k1]) ?_ (by subst e4; rw [up2_s])
      intro j hj
      have h4 := hR.2.2.2.2.1 j hj
      have c9 : x4 9 j = if j = k.toNat then 1 else x 9 j := by subst e4 e3 e2 e1; simp [up2]
      have c10 : x4 10 j = if j = k.toNat then a else x 10 j := by subst e4 e3 e2 e1; simp [up2]
      have c11 : x4 11 j = if j = k.toNat then b else x 11 j := by subst e4 e3 e2 e1; simp [up2]
      have d9 : y3 68 j = if j = k.toNat then 1 else y 68 j := by subst g3 g2 g1; simp [up2]
      have d10 : y3 69 j = if j = k.toNat then a else y 69 j := by subst g3 g2 g1; simp [up2]
      have d11 : y3 70 j = if j = k.toNat then b else y 70 j := by subst g3 g2 g1; simp [up2]
      rw [c9, c10, c11, d9, d10, d11]
      by_cases e : j = k.toNat
      · simp only [if_pos e]
        refine ⟨trivial, Or.inr trivial, fun _ => ⟨trivial, trivial, by omega, by omega⟩⟩
        done
      · simp only [if_neg e]
        exact h4
    · refine t_isFour hk (fun _ => gT ?_) (fun q => absurd h1 q)
      refine t_in ha ⟨by decide, by decide⟩ ⟨by decide, by decide⟩ (fun q1 => gT ?_) (fun q => gF ⟨rfl, rgm.2.1, hR⟩)
      exact t_in hb ha ⟨by decide, by decide⟩ (fun q => absurd (by omega) h2) (fun _ => gF ⟨rfl, rgm.2.1, hR⟩)
  · exact t_isFour hk (fun q => absurd q h1) (fun _ => gF ⟨rfl, rgm.2.1, hR⟩)
theorem s_clear {x : Mm} {post : Mm → Prop} (h : ∀ x' : Mm, (∀ k, k < 4 → x' 9 k = 0) → (∀ c, c ≠ 9 → x' c = x c) → post x') : w_X0_clear x post := by
  unfold w_X0_clear
  refine lk2_inv (fun i x' => ∃ j : Nat, i = (j : Int) ∧ j ≤ 4 ∧ (∀ k, k < j → x' 9 k = 0) ∧ (∀ c, c ≠ 9 → x' c = x c)) (fun i _ => (4 - i).toNat) ?_ _ _ ⟨0, rfl, by omega, fun k hk => by omega, fun _ _ => rfl⟩
  rintro bk i x' ⟨j, rfl, hj, h1, h2⟩ hbk
  unfold wB_X0_clear_2
  refine ⟨rg_sm (by omega) (by omega), ?_⟩
  by_cases h4 : j = 4
  · subst h4; rw [if_pos (by omega)]; exact h x' h1 h2
  · rw [if_neg (by omega)]
    have e : ((j : Int)).toNat = j := by omega
    rw [e]
    refine ⟨by omega, ?_⟩
    intro x2 e2 v hv
    refine hbk _ _ ⟨j + 1, by omega, by omega, fun k hk => ?_, fun c hc => by subst e2; rw [up2_row hc]; exact h2 c hc⟩ (by omega)
    subst e2
    by_cases q : k = j
    · subst q; rw [up2_s]
    · rw [up2_k 9 q]; exact h1 k (by omega)
theorem sim_aimless {x y : Mm} (hR : Rel x y) : w_X7_aimless x (fun r x' => w_X8_aimless y (Sm x' r)) := by
  unfold w_X7_aimless w_X8_aimless
  obtain ⟨a1, a2, a3⟩ := hR.aim
  refine s_spans a1 ?_
  refine s_clear (fun x1 b1 b2 => ?_)
  intro x2 e2
  refine s_aims a2 ?_
  refine lk2_inv (fun i y' => ∃ j : Nat, i = (j : Int) ∧ j ≤ 4 ∧ (∀ k, k < j → y' 68 k = 0) ∧ (∀ c, c ≠ 68 → y' c = y c)) (fun i _ => (4 - i).toNat) ?_ _ _ ⟨0, rfl, by omega, fun k hk => by omega, fun _ _ => rfl⟩
  rintro bk i y' ⟨j, rfl, hj, h1, h2⟩ hbk
  unfold wB_X8_aimless_7
  refine ⟨rg_sm (by omega) (by omega), ?_⟩
  by_cases h4 : j = 4
  · subst h4; rw [if_pos (by omega)]
    have hb := nz4_bd (x 9) 4
    refine ⟨a3.symm, rg_sm (by omega) (by omega), ?_⟩
    refine hR.aims (fun q k1 k2 k3 k4 => by subst e2; rw [up2_row k4]; exact b2 q k1) (fun q k1 k2 k3 => h2 q k1) ?_ (by subst e2; rw [up2_s])
    intro k hk
    have c9 : x2 9 k = 0 := by subst e2; rw [up2_row (by decide)]; exact b1 k hk
    rw [c9, h1 k hk]
    exact ⟨rfl, Or.inl rfl, fun q => absurd q (by decide)⟩
  · rw [if_neg (by omega)]
    have e : ((j : Int)).toNat = j := by omega
    rw [e]
    refine ⟨by omega, ?_⟩
    intro y2 g2 v hv
    refine hbk _ _ ⟨j + 1, by omega, by omega, fun k hk => ?_, fun c hc => by subst g2; rw [up2_row hc]; exact h2 c hc⟩ (by omega)
    subst g2
    by_cases q : k = j
    · subst q; rw [up2_s]
    · rw [up2_k 68 q]; exact h1 k (by omega)
/-- the sum of the first n numbers -/
def smN (r : Nat → Int) : Nat → Int
  | 0 => 0
  | n + 1 => smN r n + r n
theorem smN_cg {r u : Nat → Int} {n : Nat} (h : ∀ k, k < n → u k = r k) : smN u n = smN r n := by
  induction n with
  | zero => rfl
  | succ n ih => unfold smN; rw [ih (fun k hk => h k (by omega)), h n (by omega)]
theorem smN_bd {r : Nat → Int} {n : Nat} (h : ∀ k, k < n → 0 ≤ r k ∧ r k ≤ 20) : 0 ≤ smN r n ∧ smN r n ≤ 20 * n := by
  induction n with
  | zero => exact ⟨Int.le_refl 0, Int.le_refl 0⟩
  | succ n ih =>
    have a := ih (fun k hk => h k (by omega))
    have b := h n (by omega)
    unfold smN
    omega
theorem sim_count {x y : Mm} {a : Int} (hR : Rel x y) (ha : rg a) : w_X7_count a x (fun r x' => w_X8_count a y (Sm x' r)) := by
  have hn := hR.n
  have ht := hR.2.2.1.1
  unfold w_X7_count
  refine ⟨ha, ?_⟩
  by_cases h0 : a = 0
  · rw [if_pos h0]
    show w_X8_count a y (Sm x (x 0 7))
    unfold w_X8_count
    rw [if_pos h0]
    exact ⟨ha, hn.1, hR.rn, hR⟩
  · rw [if_neg h0]
    by_cases h1 : a = 1
    · rw [if_pos h1]
      show w_X8_count a y (Sm x (x 2 1))
      unfold w_X8_count
      rw [if_neg h0, if_pos h1]
      exact ⟨ha, ht.1, rg_sm (by omega) (by omega), hR⟩
    · rw [if_neg h1]
      by_cases h2 : a = 2
      · rw [if_pos h2]
        obtain ⟨a1, a2, a3⟩ := hR.aim
        have hb := nz4_bd (x 9) 4
        refine s_spans a1 ?_
        show w_X8_count a y (Sm x (nz4 (x 9) 4))
        unfold w_X8_count
        rw [if_neg h0, if_neg h1, if_pos h2]
        refine ⟨ha, ?_⟩
        refine s_aims a2 ?_
        exact ⟨a3.symm, rg_sm (by omega) (by omega), hR⟩
      · rw [if_neg h2]
        by_cases h3 : a = 3
        · rw [if_pos h3]
          have hl : ∀ p : Nat, p < 4 → x (20 + 3 * p) 2 = y 62 p ∧ 0 ≤ y 62 p ∧ y 62 p ≤ 20 := fun p hp => (hR.2.1 p hp).1
          have hsb := smN_bd (r := y 62) (n := (y 60 0).toNat) (fun k hk => (hl k (by omega)).2)
          unfold w_X7_shavingsInLogs
          refine lk2_inv (fun n i => ∃ j : Nat, i = (j : Int) ∧ (j : Int) ≤ x 0 7 ∧ n = smN (y 62) j) (fun _ i => (4 - i).toNat) ?_ _ _ ⟨0, rfl, by omega, rfl⟩
          rintro bk n i ⟨j, rfl, hj, rfl⟩ hbk
          unfold wB_X7_shavingsInLogs_4
          refine ⟨⟨rg_sm (by omega) (by omega), hR.rn⟩, ?_⟩
          by_cases hc : x 0 7 ≤ (j : Int)
          · rw [if_pos hc]
            unfold wX_X7_shavingsInLogs_4
            show w_X8_count a y (Sm x (smN (y 62) j))
            unfold w_X8_count
            rw [if_neg h0, if_neg h1, if_neg h2, if_pos h3]
            refine ⟨ha, ?_⟩
            refine lk2_inv (fun n i => ∃ q : Nat, i = (q : Int) ∧ (q : Int) ≤ y 60 0 ∧ n = smN (y 62) q) (fun _ i => (4 - i).toNat) ?_ _ _ ⟨0, rfl, by omega, rfl⟩
            rintro bk2 n2 i2 ⟨q, rfl, hq, rfl⟩ hbk2
            unfold wB_X8_count_49
            refine ⟨⟨rg_sm (by omega) (by omega), rg_sm (by omega) (by omega)⟩, ?_⟩
            by_cases hc2 : y 60 0 ≤ (q : Int)
            · rw [if_pos hc2]
              have : q = j := by omega
              subst this
              have : q = (y 60 0).toNat := by omega
              rw [← this] at hsb
              exact ⟨rfl, rg_sm (by omega) (by omega), hR⟩
            · rw [if_neg hc2]
              have e : ((q : Int)).toNat = q := by omega
              rw [e]
              refine ⟨by omega, ?_⟩
              intro u hu v hv
              exact hbk2 _ _ ⟨q + 1, by omega, by omega, by rw [hu]; rfl⟩ (by omega)
          · rw [if_neg hc]
            have e : ((j : Int)).toNat = j := by omega
            rw [e]
            refine ⟨by omega, ?_⟩
            intro u hu v hv
            exact hbk _ _ ⟨j + 1, by omega, by omega, by rw [hu, (hl j (by omega)).1]; rfl⟩ (by omega)
        · rw [if_neg h3]
          show w_X8_count a y (Sm x (-2))
          unfold w_X8_count
          rw [if_neg h0, if_neg h1, if_neg h2, if_neg h3]
          exact ⟨ha, rfl, rgm.2.1, hR⟩
