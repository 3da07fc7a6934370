theorem IsP_c {m : (Nat → Int) → Prop} {t u : Nat → Int} {le sh : Int} {e : Nat → Int} (h : ∀ i, i < 4 → u i = t i) (hP : IsP m t le sh e) : IsP m u le sh e := by
  have hs : sm4 u = sm4 t := by have a := h 0 (by omega); have b := h 1 (by omega); have c := h 2 (by omega); have d := h 3 (by omega); unfold sm4; omega
  have ho : ∀ d, okE u le d ↔ okE t le d := fun d => by
    constructor
    · intro q i hi; rw [← h i hi]; exact q i hi
    · intro q i hi; rw [h i hi]; exact q i hi
  rcases hP with ⟨a, b⟩ | ⟨a, b, c, d, e'⟩
  · exact Or.inl ⟨a, fun d hd => b d ((ho d).mp hd)⟩
  · exact Or.inr ⟨a, (ho e).mpr b, c, by rw [hs]; exact d, fun d hd => by rw [hs]; exact e' d ((ho d).mp hd)⟩
theorem IsP_bd {m : (Nat → Int) → Prop} {t : Nat → Int} {le sh : Int} {e : Nat → Int} (ht : tok t) (hle : 1 ≤ le) (hP : IsP m t le sh e) : sh = -1 ∨ ((0 ≤ sh ∧ sh ≤ 36) ∧ sh = sm4 t - sm4 e ∧ ∀ i, i < 4 → 1 ≤ e i ∧ e i ≤ t i) := by
  rcases hP with ⟨a, -⟩ | ⟨a, b, -, d, -⟩
  · exact Or.inl a
  · right
    have q : ∀ i, i < 4 → 1 ≤ e i ∧ e i ≤ t i := fun i hi => by have := b i hi; have := ht i hi; omega
    have q0 := q 0 (by omega); have q1 := q 1 (by omega); have q2 := q 2 (by omega); have q3 := q 3 (by omega)
    have t0 := ht 0 (by omega); have t1 := ht 1 (by omega); have t2 := ht 2 (by omega); have t3 := ht 3 (by omega)
    refine ⟨⟨a, ?_⟩, d, q⟩
    rw [d]; unfold sm4; omega
/-- both plans are one -/
theorem plan_core {x y : Mm} {a : Int} {postM B : Mm → Prop} {x' : Mm} (hR : Rel x y) (hR' : Rel x' y) (ha : 0 ≤ a ∧ a < y 60 0) (h24 : x 2 4 ≠ 0) (hP : IsP (metC x) (x (20 + 3 * a.toNat + 1)) (x 0 8) (x' 12 3) (fun i => x (20 + 3 * a.toNat + 1) i - x' 13 i)) (h : ∀ y2 : Mm, scM y y2 → y2 60 19 = x' 12 3 → (x' 12 3 = -1 ∨ ((0 ≤ x' 12 3 ∧ x' 12 3 ≤ 36) ∧ x' 12 3 = x' 13 0 + x' 13 1 + x' 13 2 + x' 13 3 ∧ ∀ i, i < 4 → 0 ≤ x' 13 i ∧ x' 13 i + 1 ≤ y 61 (4 * a.toNat + i) ∧ y2 74 i = y 61 (4 * a.toNat + i) - x' 13 i)) → postM y2) : w_X8_findWoods y (fun y1 => rg (y1 60 15) ∧ (if y1 60 15 = 0 then B y1 else w_X8_findPlan a y1 postM)) := by
  have hn := hR.n
  have h0 := hR.1
  unfold R0 at h0
  have hl := hR.2.2.2.1.1.1
  have hlen := fl_len (cft x) 81
  obtain ⟨ht, he⟩ := hR.st ha
  refine s_findWoods hR.2.2.1 (fun y1 ho hM => ?_)
  have hM1 := hM.1
  have hr : rg (y1 60 15) := rg_sm (by omega) (by omega)
  refine ⟨hr, ?_⟩
  rw [if_neg (by omega)]
  obtain ⟨p, rfl⟩ : ∃ p : Nat, a = (p : Int) := ⟨a.toNat, by omega⟩
  have ep : ((p : Int)).toNat = p := by omega
  rw [ep] at *
  have e61 : y1 61 = y 61 := ho.1 61 (by decide) (by decide) (by decide)
  have e602 : y1 60 2 = y 60 2 := ho.2 2 (by decide)
  have cg : ∀ i, i < 4 → (fun i => y1 61 (4 * p + i)) i = x (20 + 3 * p + 1) i := fun i hi => by show y1 61 (4 * p + i) = _; rw [e61]; exact he i hi
  have h41 : R4 x y1 := R4_c hR.2.2.2.2.1 rfl rfl rfl (ho.1 68 (by decide) (by decide) (by decide)) (ho.1 69 (by decide) (by decide) (by decide)) (ho.1 70 (by decide) (by decide) (by decide))
  refine s_findPlan h41 hM (by omega) (tok_cg cg ht) (by rw [e602]; omega) (fun y2 o2 hP2 => ?_)
  have hP3 : IsP (metC x) (x (20 + 3 * p + 1)) (x 0 8) (y2 60 19) (y2 74) := by
    rw [e602, ← h0.2.1.1] at hP2
    exact IsP_c (fun i hi => (cg i hi).symm) hP2
  obtain ⟨u1, u2⟩ := IsP_uniq hP hP3
  refine h y2 (ho.sc.tr o2.sc) u1.symm ?_
  rcases IsP_bd ht (by omega) hP with z | ⟨z1, z2, z3⟩
  · exact Or.inl z
  · right
    refine ⟨z1, ?_, fun i hi => ?_⟩
    · rw [z2]; unfold sm4; dsimp only; omega
    · have a1 := z3 i hi
      try dsimp only at a1
      have a2 := u2 (by omega) i hi
      try dsimp only at a2
      rw [he i hi]
      omega
theorem sim_plan {x y : Mm} {a : Int} (hR : Rel x y) (ha : rg a) : w_X7_plan a x (fun r x' => w_X8_plan a y (Sm x' r)) := by
  have hn := hR.n
  have hl := hR.2.2.2.1.1.1
  have hlen := fl_len (cft x) 81
  unfold w_X7_plan
  refine t_isPlate ha hR.rn (fun g1 => gT ?_) (fun g1 => gF ?_)
  · refine ⟨rg_sm (by omega) (by omega), ?_⟩
    by_cases h0 : x 2 4 = 0
    · rw [if_pos h0]
      show w_X8_plan a y (Sm x (-3))
      unfold w_X8_plan
      refine t_isPlateM ha hn.2 (fun _ => gT ?_) (fun q => absurd (by omega) q)
      refine s_findWoods hR.2.2.1 (fun y' ho hM => ?_)
      have := hM.1
      refine ⟨rg_sm (by omega) (by omega), ?_⟩
      rw [if_pos (by omega)]
      exact ⟨rfl, rgm.2.2.1, hR.sc (scC.rf x) ho.sc⟩
    · rw [if_neg h0]
      refine s_makePlan hR (by omega) (fun x' hR' ox hP => ?_)
      show w_X8_plan a y (Sm x' (x' 12 3))
      unfold w_X8_plan
      refine t_isPlateM ha hn.2 (fun _ => gT ?_) (fun q => absurd (by omega) q)
      refine plan_core hR hR' (by omega) h0 hP (fun y2 k3 k4 k5 => ?_)
      exact ⟨k4.symm, by rcases k5 with z | z <;> exact rg_sm (by omega) (by omega), hR'.sc (scC.rf x') k3⟩
  · show w_X8_plan a y (Sm x (-2))
    unfold w_X8_plan
    exact t_isPlateM ha hn.2 (fun q => absurd (by omega) g1) (fun _ => gF ⟨rfl, rgm.2.1, hR⟩)
theorem smN_nn {r : Nat → Int} {n : Nat} (h : ∀ k, k < n → 0 ≤ r k ∧ r k ≤ 9) : 0 ≤ smN r n ∧ smN r n ≤ 9 * n := by
  induction n with
  | zero => exact ⟨Int.le_refl 0, Int.le_refl 0⟩
  | succ n ih =>
    have a := ih (fun k hk => h k (by omega))
    have b := h n (by omega)
    unfold smN
    omega
theorem sim_planned {x y : Mm} {a b : Int} (hR : Rel x y) (ha : rg a) (hb : rg b) : w_X7_planned a b x (fun r x' => w_X8_planned a b y (Sm x' r)) := by
  have hn := hR.n
  have hl := hR.2.2.2.1.1.1
  have hlen := fl_len (cft x) 81
  unfold w_X7_planned
  refine t_isPlate ha hR.rn (fun g1 => gT ?_) (fun g1 => gF ?_)
  · refine ⟨hb, ?_⟩
    by_cases hb0 : 0 ≤ b
    · rw [if_pos hb0]
      refine ⟨rg_sm (by omega) (by omega), ?_⟩
      by_cases h0 : x 2 4 = 0
      · rw [if_pos h0]
        show w_X8_planned a b y (Sm x (-3))
        unfold w_X8_planned
        refine t_isPlateM ha hn.2 (fun _ => gT ?_) (fun q => absurd (by omega) q)
        refine ⟨hb, ?_⟩
        rw [if_pos hb0]
        refine s_findWoods hR.2.2.1 (fun y' ho hM => ?_)
        have := hM.1
        refine ⟨rg_sm (by omega) (by omega), ?_⟩
        rw [if_pos (by omega)]
        exact ⟨rfl, rgm.2.2.1, hR.sc (scC.rf x) ho.sc⟩
      · rw [if_neg h0]
        refine s_makePlan hR (by omega) (fun x' hR' ox hP => ?_)
        have hst := (hR.st (a := a) (by omega))
        have hbd := IsP_bd hst.1 (by have := hR.1.2.1; omega) hP
        -- the model, to any answer that fits
        have mod : ∀ r : Int, (x' 12 3 = -1 → r = -1) → (x' 12 3 ≠ -1 → (∃ k : Nat, k < 4 ∧ r = (k : Int) ∧ smN (x' 13) k ≤ b ∧ b < smN (x' 13) (k + 1)) ∨ (r = -1 ∧ smN (x' 13) 4 ≤ b)) → w_X8_planned a b y (Sm x' r) := by
          intro r r1 r2
          unfold w_X8_planned
          refine t_isPlateM ha hn.2 (fun _ => gT ?_) (fun q => absurd (by omega) q)
          refine ⟨hb, ?_⟩
          rw [if_pos hb0]
          refine plan_core hR hR' (by omega) h0 hP (fun y2 k3 k4 k5 => ?_)
          have hR2 : Rel x' y2 := hR'.sc (scC.rf x') k3
          obtain ⟨p, hpe⟩ : ∃ p : Nat, a = (p : Int) := ⟨a.toNat, by omega⟩
          subst hpe
          have ep : ((p : Int)).toNat = p := by omega
          rw [ep] at k5
          have e61 : y2 61 = y 61 := k3.1 61 (by decide) (by decide) (by decide) (by decide) (by decide)
          have hr3 : rg (y2 60 19) := by rw [k4]; rcases k5 with z | z <;> exact rg_sm (by omega) (by omega)
          refine lk2_inv (fun rs i => ∃ j : Nat, i = (j : Int) ∧ j ≤ 4 ∧ (x' 12 3 = -1 → j = 0 ∧ rs = b) ∧ (x' 12 3 ≠ -1 → rs = b - smN (x' 13) j ∧ 0 ≤ rs)) (fun _ i => (4 - i).toNat) ?_ _ _ ⟨0, rfl, by omega, fun _ => ⟨rfl, rfl⟩, fun _ => ⟨by show b = b - 0; omega, hb0⟩⟩
          rintro bk rs i ⟨j, rfl, hj, c1, c2⟩ hbk
          unfold wB_X8_planned_39
          refine ⟨rg_sm (by omega) (by omega), ?_⟩
          have endN : (x' 12 3 = -1 ∨ j = 4) → Sm x' r (-1) y2 := by
            intro hor
            refine ⟨?_, ?_, hR2⟩
            · by_cases e : x' 12 3 = -1
              · exact r1 e
              · have hj4 : j = 4 := by omega
                subst hj4
                have c3 := c2 e
                rcases r2 e with ⟨k, q1, q2, q3, q4⟩ | q
                · exfalso
                  rcases k5 with z | ⟨z1, z2, z3⟩
                  · exact e z
                  · have m0 := z3 0 (by omega); have m1 := z3 1 (by omega); have m2 := z3 2 (by omega); have m3 := z3 3 (by omega)
                    have s1 : smN (x' 13) 1 = 0 + x' 13 0 := rfl
                    have s2 : smN (x' 13) 2 = smN (x' 13) 1 + x' 13 1 := rfl
                    have s3 : smN (x' 13) 3 = smN (x' 13) 2 + x' 13 2 := rfl
                    have s4 : smN (x' 13) 4 = smN (x' 13) 3 + x' 13 3 := rfl
                    rcases (show k = 0 ∨ k = 1 ∨ k = 2 ∨ k = 3 by omega) with u | u | u | u <;> subst u <;> simp only [Nat.zero_add, Nat.reduceAdd] at q4 <;> omega
                · exact q.1
            · by_cases e : x' 12 3 = -1
              · rw [r1 e]; exact rgm.1
              · rcases r2 e with ⟨k, q1, q2, -⟩ | q
                · rw [q2]; exact rg_sm (by omega) (by omega)
                · rw [q.1]; exact rgm.1
          by_cases hj4 : j = 4
          · rw [if_pos (by omega)]
            exact endN (Or.inr hj4)
          · rw [if_neg (by omega)]
            refine ⟨hr3, ?_⟩
            rw [k4]
            by_cases e : x' 12 3 = -1
            · rw [if_pos e]
              exact endN (Or.inl e)
            · rw [if_neg e]
              obtain ⟨c3, c4⟩ := c2 e
              have k6 : ∀ i, i < 4 → 0 ≤ x' 13 i ∧ x' 13 i + 1 ≤ y 61 (4 * p + i) ∧ y2 74 i = y 61 (4 * p + i) - x' 13 i := by
                rcases k5 with z | z
                · exact absurd z e
                · exact z.2.2
              have ej : ((j : Int)).toNat = j := by omega
              have ej2 : (4 * (p : Int) + (j : Int)).toNat = 4 * p + j := by omega
              rw [ej, ej2, e61]
              have kj := k6 j (by omega)
              have htj := (hR.2.1.tok (p := p) (by omega) (by omega)).1 j (by omega)
              dsimp only at htj
              refine ⟨by omega, by omega, ?_⟩
              intro by' hby
              have hby2 : by' = x' 13 j := by omega
              have hrb : rg rs := by
                have hsb := smN_nn (r := x' 13) (n := j) (fun k hk => by
                  have a1 := k6 k (by omega)
                  have a2 := (hR.2.1.tok (p := p) (by omega) (by omega)).1 k (by omega)
                  dsimp only at a2
                  omega)
                have := hb.2
                exact ⟨by omega, by omega⟩
              refine ⟨⟨hrb, rg_sm (by omega) (by omega)⟩, ?_⟩
              by_cases hcmp : by' ≤ rs
              · rw [if_pos hcmp]
                intro rs2 hrs2 v hv
                refine hbk _ _ ⟨j + 1, by omega, by omega, fun q => absurd q e, fun _ => ⟨?_, by omega⟩⟩ (by omega)
                show rs2 = b - (smN (x' 13) j + x' 13 j)
                omega
              · rw [if_neg hcmp]
                refine ⟨?_, rg_sm (by rcases r2 e with ⟨k, q1, q2, -⟩ | q <;> omega) (by rcases r2 e with ⟨k, q1, q2, -⟩ | q <;> omega), hR2⟩
                have hlt : b < smN (x' 13) (j + 1) := by show b < smN (x' 13) j + x' 13 j; omega
                have mono : ∀ u v : Nat, u ≤ v → v ≤ 4 → smN (x' 13) u ≤ smN (x' 13) v := by
                  intro u v huv hv4
                  induction v with
                  | zero => rw [show u = 0 by omega]; exact Int.le_refl _
                  | succ v ih =>
                    by_cases euv : u = v + 1
                    · rw [euv]; exact Int.le_refl _
                    · have a1 := ih (by omega) (by omega)
                      have a2 := (k6 v (by omega)).1
                      show smN (x' 13) u ≤ smN (x' 13) v + x' 13 v
                      omega
                rcases r2 e with ⟨k, q1, q2, q3, q4⟩ | ⟨q1, q2⟩
                · rw [q2]
                  rcases Nat.lt_trichotomy k j with z | z | z
                  · have := mono (k + 1) j (by omega) (by omega); omega
                  · rw [z]
                  · have := mono (j + 1) k (by omega) (by omega); omega
                · have := mono (j + 1) 4 (by omega) (by omega); omega
        unfold w_X3_stripOf
        refine ⟨by rcases hbd with z | z <;> exact rg_sm (by omega) (by omega), ?_⟩
        by_cases e : x' 12 3 = -1
        · rw [if_pos e]
          exact mod (-1) (fun _ => rfl) (fun q => absurd e q)
        · rw [if_neg e]
          have k6 : ∀ i, i < 4 → 0 ≤ x' 13 i ∧ x' 13 i ≤ 9 := by
            rcases hbd with z | ⟨-, -, z⟩
            · exact absurd z e
            · intro i hi
              have a1 := z i hi
              have a2 := hst.1 i hi
              try dsimp only at a1
              omega
          refine lk2_inv (fun bf i => ∃ j : Nat, i = (j : Int) ∧ j ≤ 4 ∧ bf = smN (x' 13) j ∧ bf ≤ b) (fun _ i => (4 - i).toNat) ?_ _ _ ⟨0, rfl, by omega, rfl, hb0⟩
          rintro bk bf i ⟨j, rfl, hj, rfl, hle⟩ hbk
          unfold wB_X3_stripOf_14
          refine ⟨rg_sm (by omega) (by omega), ?_⟩
          by_cases hj4 : j = 4
          · subst hj4
            rw [if_pos (by omega)]
            unfold wX_X3_stripOf_14
            exact mod (-1) (fun _ => rfl) (fun _ => Or.inr ⟨rfl, hle⟩)
          · rw [if_neg (by omega)]
            have ej : ((j : Int)).toNat = j := by omega
            rw [ej]
            refine ⟨by omega, ?_⟩
            intro bf2 hbf2
            have hs2 : bf2 = smN (x' 13) (j + 1) := hbf2
            have hsb := smN_nn (r := x' 13) (n := j + 1) (fun k hk => k6 k (by omega))
            refine ⟨⟨hb, rg_sm (by omega) (by omega)⟩, ?_⟩
            by_cases hcmp : bf2 ≤ b
            · rw [if_pos hcmp]
              intro v hv
              exact hbk _ _ ⟨j + 1, by omega, by omega, hs2, hcmp⟩ (by omega)
            · rw [if_neg hcmp]
              exact mod (j : Int) (fun q => absurd q e) (fun _ => Or.inl ⟨j, by omega, rfl, hle, by omega⟩)
    · rw [if_neg hb0]
      show w_X8_planned a b y (Sm x (-2))
      unfold w_X8_planned
      refine t_isPlateM ha hn.2 (fun _ => gT ?_) (fun q => absurd (by omega) q)
      refine ⟨hb, ?_⟩
      rw [if_neg hb0]
      exact ⟨rfl, rgm.2.1, hR⟩
  · show w_X8_planned a b y (Sm x (-2))
    unfold w_X8_planned
    exact t_isPlateM ha hn.2 (fun q => absurd (by omega) g1) (fun _ => gF ⟨rfl, rgm.2.1, hR⟩)
