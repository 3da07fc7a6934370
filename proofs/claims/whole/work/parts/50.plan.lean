/-- the v-th row of thicknesses -/
def ev (v : Nat) : Nat → Int := fun i => if i = 0 then 1 + ((v / 729 : Nat) : Int) else if i = 1 then 1 + ((v / 81 % 9 : Nat) : Int) else if i = 2 then 1 + ((v / 9 % 9 : Nat) : Int) else 1 + ((v % 9 : Nat) : Int)
theorem ev_tok {v : Nat} (h : v < 6561) : tok (ev v) := by
  intro i hi
  unfold ev
  rcases (show i = 0 ∨ i = 1 ∨ i = 2 ∨ i = 3 by omega) with e | e | e | e <;> subst e <;> simp <;> omega
theorem ev_of {d : Nat → Int} (h : tok d) : ∃ v, v < 6561 ∧ ∀ i, i < 4 → d i = ev v i := by
  have a := h 0 (by omega); have b := h 1 (by omega); have c := h 2 (by omega); have e := h 3 (by omega)
  refine ⟨729 * (d 0 - 1).toNat + 81 * (d 1 - 1).toNat + 9 * (d 2 - 1).toNat + (d 3 - 1).toNat, by omega, fun i hi => ?_⟩
  unfold ev
  rcases (show i = 0 ∨ i = 1 ∨ i = 2 ∨ i = 3 by omega) with q | q | q | q <;> subst q <;> simp <;> omega
theorem ev_lex {v w : Nat} (hv : v < 6561) (h : w ≤ v) : lexG (ev v) (ev w) := by
  unfold lexG ev
  simp only [if_pos, if_neg, Nat.one_ne_zero, reduceIte]
  simp
  omega
theorem s_mayBe {y : Mm} {p i : Nat} {v : Int} {post : Int → Mm → Prop} (hp : p < 4) (hi : i < 4) (hv : 1 ≤ v ∧ v ≤ 9) (ht : 1 ≤ y 61 (4 * p + i) ∧ y 61 (4 * p + i) ≤ 9) (hle : 1 ≤ y 60 2 ∧ y 60 2 ≤ 9) (h1 : (v = y 61 (4 * p + i) ∨ (v < y 61 (4 * p + i) ∧ y 60 2 ≤ v)) → post 1 y) (h0 : ¬ (v = y 61 (4 * p + i) ∨ (v < y 61 (4 * p + i) ∧ y 60 2 ≤ v)) → post 0 y) : w_X8_mayBe (p : Int) (i : Int) v y post := by
  unfold w_X8_mayBe
  have e : (4 * (p : Int) + (i : Int)).toNat = 4 * p + i := by omega
  rw [e]
  refine ⟨by omega, ?_⟩
  intro t hte
  subst hte
  refine ⟨⟨rg_sm (by omega) (by omega), rg_sm (by omega) (by omega)⟩, ?_⟩
  split
  · exact h1 (by omega)
  · refine ⟨⟨rg_sm (by omega) (by omega), rg_sm (by omega) (by omega)⟩, ?_⟩
    split
    · exact h0 (by omega)
    · refine ⟨⟨rg_sm (by omega) (by omega), rg_sm (by omega) (by omega)⟩, ?_⟩
      split
      · exact h0 (by omega)
      · exact h1 (by omega)
/-- what findPlan may write -/
def fpO (y y' : Mm) : Prop := (∀ c, c ≠ 60 → c ≠ 71 → c ≠ 74 → y' c = y c) ∧ ∀ k, k ≠ 19 → y' 60 k = y 60 k
theorem fpO.sc {y y' : Mm} (h : fpO y y') : scM y y' := ⟨fun c a b _ _ d => h.1 c a b d, fun k _ b => h.2 k b⟩
theorem fpO.tr {x y z : Mm} (h : fpO x y) (g : fpO y z) : fpO x z := ⟨fun c a b d => (g.1 c a b d).trans (h.1 c a b d), fun k a => (g.2 k a).trans (h.2 k a)⟩
theorem s_findPlan {x y : Mm} {p : Nat} {post : Mm → Prop} (h4 : R4 x y) (hM : ML (cft x) y 81) (hp : p < 4) (ht : tok (fun i => y 61 (4 * p + i))) (hle : 1 ≤ y 60 2 ∧ y 60 2 ≤ 9) (h : ∀ y' : Mm, fpO y y' → IsP (metC x) (fun i => y 61 (4 * p + i)) (y 60 2) (y' 60 19) (y' 74) → post y') : w_X8_findPlan (p : Int) y post := by
  unfold w_X8_findPlan
  intro y1 e1
  have o1 : fpO y y1 := ⟨fun c a b d => by subst e1; rw [up2_row a], fun k hk => by subst e1; rw [up2_k 60 hk]⟩
  have ht0 := ht 0 (by omega); have ht1 := ht 1 (by omega); have ht2 := ht 2 (by omega); have ht3 := ht 3 (by omega)
  dsimp only at ht0 ht1 ht2 ht3
  generalize hT : (fun i => y 61 (4 * p + i)) = T at ht h
  have hTi : ∀ i, y 61 (4 * p + i) = T i := fun i => by rw [← hT]
  -- the best among the rows from n on
  refine lk2_inv (fun v y' => ∃ n : Nat, v = (n : Int) - 1 ∧ n ≤ 6561 ∧ fpO y y' ∧ ((y' 60 19 = -1 ∧ ∀ w, n ≤ w → w < 6561 → okE T (y 60 2) (ev w) → ¬ metC x (ev w)) ∨ (0 ≤ y' 60 19 ∧ y' 60 19 ≤ 36 ∧ ∃ u, n ≤ u ∧ u < 6561 ∧ (∀ i, i < 4 → y' 74 i = ev u i) ∧ okE T (y 60 2) (ev u) ∧ metC x (ev u) ∧ y' 60 19 = sm4 T - sm4 (ev u) ∧ ∀ w, n ≤ w → w < 6561 → okE T (y 60 2) (ev w) → metC x (ev w) → y' 60 19 < sm4 T - sm4 (ev w) ∨ (y' 60 19 = sm4 T - sm4 (ev w) ∧ w ≤ u)))) (fun v _ => (v + 1).toNat) ?_ _ _ ⟨6561, by omega, by omega, o1, Or.inl ⟨by subst e1; rw [up2_s], fun w h1 h2 => by omega⟩⟩
  rintro bk v y' ⟨n, rfl, hn, ho, hst⟩ hbk
  unfold wB_X8_findPlan_9
  refine ⟨rg_sm (by omega) (by omega), ?_⟩
  by_cases hn0 : n = 0
  · subst hn0
    rw [if_pos (by omega)]
    unfold wX_X8_findPlan_9
    refine h y' ho ?_
    have tokd : ∀ d, okE T (y 60 2) d → tok d := fun d hd i hi => by
      have a := hd i hi
      have b := ht i hi
      omega
    rcases hst with ⟨z1, z2⟩ | ⟨z1, -, u, u1, u2, u3, u4, u5, u6, u7⟩
    · left
      refine ⟨z1, fun d hd hm => ?_⟩
      obtain ⟨w, w1, w2⟩ := ev_of (tokd d hd)
      exact z2 w (by omega) w1 ((okE_c w2).mp hd) ((metC_e w2).mp hm)
    · right
      have s0 := u3 0 (by omega); have s1 := u3 1 (by omega); have s2 := u3 2 (by omega); have s3 := u3 3 (by omega)
      refine ⟨z1, (okE_c u3).mpr u4, (metC_e u3).mpr u5, by rw [u6]; unfold sm4; omega, fun d hd hm => ?_⟩
      obtain ⟨w, w1, w2⟩ := ev_of (tokd d hd)
      have q0 := w2 0 (by omega); have q1 := w2 1 (by omega); have q2 := w2 2 (by omega); have q3 := w2 3 (by omega)
      have hz := u7 w (by omega) w1 ((okE_c w2).mp hd) ((metC_e w2).mp hm)
      have hsd : sm4 d = sm4 (ev w) := by unfold sm4; omega
      rw [hsd]
      rcases hz with z | ⟨za, zb⟩
      · exact Or.inl z
      · refine Or.inr ⟨za, ?_⟩
        have := ev_lex u2 zb
        unfold lexG at this ⊢
        rw [s0, s1, s2, q0, q1, q2]
        exact this
  · rw [if_neg (by omega)]
    obtain ⟨m, rfl⟩ : ∃ m, n = m + 1 := ⟨n - 1, by omega⟩
    have em : ((m + 1 : Nat) : Int) - 1 = (m : Int) := by omega
    rw [em]
    have hm : m < 6561 := by omega
    have d1 : (m : Int) / 729 = ((m / 729 : Nat) : Int) := by omega
    have d2 : (m : Int) / 81 = ((m / 81 : Nat) : Int) := by omega
    have d3 : (m : Int) / 9 = ((m / 9 : Nat) : Int) := by omega
    have d4 : (m : Int) % 9 = ((m % 9 : Nat) : Int) := by omega
    have d5 : ((m / 81 : Nat) : Int) % 9 = ((m / 81 % 9 : Nat) : Int) := by omega
    have d6 : ((m / 9 : Nat) : Int) % 9 = ((m / 9 % 9 : Nat) : Int) := by omega
    rw [d1, d2, d3, d4, d5, d6]
    refine ⟨⟨rg_sm (by omega) (by omega), by omega⟩, ?_⟩
    intro y7 e7
    refine ⟨⟨rg_sm (by omega) (by omega), by omega⟩, ⟨rg_sm (by omega) (by omega), by omega⟩, ?_⟩
    intro y11 e11
    refine ⟨⟨rg_sm (by omega) (by omega), by omega⟩, ⟨rg_sm (by omega) (by omega), by omega⟩, ?_⟩
    intro y15 e15
    refine ⟨⟨rg_sm (by omega) (by omega), by omega⟩, ?_⟩
    intro y18 e18
    have k71 : ∀ i, i < 4 → y18 71 i = ev m i := fun i hi => by
      unfold ev
      subst e18 e15 e11 e7
      rcases (show i = 0 ∨ i = 1 ∨ i = 2 ∨ i = 3 by omega) with e | e | e | e <;> subst e <;> simp [up2]
    have ko : ∀ c, c ≠ 71 → y18 c = y' c := fun c hc => by subst e18 e15 e11 e7; rw [up2_row hc, up2_row hc, up2_row hc, up2_row hc]
    have ho18 : fpO y y18 := ⟨fun c a b d => (ko c b).trans (ho.1 c a b d), fun k hk => by rw [ko 60 (by decide)]; exact ho.2 k hk⟩
    have hev := ev_tok hm
    have v0 := hev 0 (by omega); have v1 := hev 1 (by omega); have v2 := hev 2 (by omega); have v3 := hev 3 (by omega)
    have e61 : ∀ i, y18 61 (4 * p + i) = T i := fun i => by rw [ho18.1 61 (by decide) (by decide) (by decide)]; exact hTi i
    have e602 : y18 60 2 = y 60 2 := ho18.2 2 (by decide)
    have e19 : y18 60 19 = y' 60 19 := by rw [ko 60 (by decide)]
    have hstb : y' 60 19 = -1 ∨ (0 ≤ y' 60 19 ∧ y' 60 19 ≤ 36) := by
      rcases hst with z | z
      · exact Or.inl z.1
      · exact Or.inr ⟨z.1, z.2.1⟩
    -- a row that isn't better
    have skip : ∀ y2 : Mm, fpO y18 y2 → y2 60 19 = y18 60 19 → y2 74 = y18 74 → (okE T (y 60 2) (ev m) → metC x (ev m) → 0 ≤ y' 60 19 ∧ y' 60 19 ≤ sm4 T - sm4 (ev m)) → ∀ w, w = (m : Int) + (-1) → bk w y2 := by
      intro y2 o2 k19 k74 hno w hw
      refine hbk _ _ ⟨m, by omega, by omega, ho18.tr o2, ?_⟩ (by omega)
      rw [k19, e19, k74, ko 74 (by decide)]
      rcases hst with ⟨z1, z2⟩ | ⟨z1, z1', u, u1, u2, u3, u4, u5, u6, u7⟩
      · left
        refine ⟨z1, fun q q1 q2 q3 q4 => ?_⟩
        by_cases e : q = m
        · subst e; have := hno q3 q4; omega
        · exact z2 q (by omega) q2 q3 q4
      · right
        refine ⟨z1, z1', u, by omega, u2, u3, u4, u5, u6, fun q q1 q2 q3 q4 => ?_⟩
        by_cases e : q = m
        · subst e
          have := hno q3 q4
          by_cases e2 : y' 60 19 = sm4 T - sm4 (ev q)
          · exact Or.inr ⟨e2, by omega⟩
          · left; omega
        · exact u7 q (by omega) q2 q3 q4
    -- a better row
    have better : okE T (y 60 2) (ev m) → metC x (ev m) → (y' 60 19 = -1 ∨ sm4 T - sm4 (ev m) < y' 60 19) → ∀ y2 : Mm, y2 = up2 y18 60 19 (sm4 T - sm4 (ev m)) → ∃ n : Nat, lk2 (wB_X8_findPlan_175 (wX_X8_findPlan_175 (m : Int) bk)) n 0 y2 := by
      intro hok hmet hbet y2 e2
      have hsum : 0 ≤ sm4 T - sm4 (ev m) ∧ sm4 T - sm4 (ev m) ≤ 36 := by
        have a := hok 0 (by omega); have b := hok 1 (by omega); have c := hok 2 (by omega); have e := hok 3 (by omega)
        have t0 := ht 0 (by omega); have t1 := ht 1 (by omega); have t2 := ht 2 (by omega); have t3 := ht 3 (by omega)
        unfold sm4; omega
      refine lk2_inv (fun i y3 => ∃ j : Nat, i = (j : Int) ∧ j ≤ 4 ∧ (∀ c, c ≠ 74 → y3 c = y2 c) ∧ ∀ i, i < j → y3 74 i = ev m i) (fun i _ => (4 - i).toNat) ?_ _ _ ⟨0, rfl, by omega, fun _ _ => rfl, fun i hi => by omega⟩
      rintro bk3 i y3 ⟨j, rfl, hj, g1, g2⟩ hbk3
      unfold wB_X8_findPlan_175
      refine ⟨rg_sm (by omega) (by omega), ?_⟩
      by_cases hj4 : j = 4
      · subst hj4
        rw [if_pos (by omega)]
        unfold wX_X8_findPlan_175
        intro w hw
        have k19 : y3 60 19 = sm4 T - sm4 (ev m) := by rw [g1 60 (by decide)]; subst e2; rw [up2_s]
        refine hbk _ _ ⟨m, by omega, by omega, ho18.tr ⟨fun c a b d => by rw [g1 c d]; subst e2; rw [up2_row a], fun k hk => by rw [g1 60 (by decide)]; subst e2; rw [up2_k 60 hk]⟩, Or.inr ?_⟩ (by omega)
        rw [k19]
        refine ⟨hsum.1, hsum.2, m, by omega, hm, g2, hok, hmet, rfl, fun q q1 q2 q3 q4 => ?_⟩
        by_cases e : q = m
        · subst e; exact Or.inr ⟨rfl, by omega⟩
        · left
          rcases hst with ⟨z1, z2⟩ | ⟨z1, z1', u, u1, u2, u3, u4, u5, u6, u7⟩
          · exact absurd q4 (z2 q (by omega) q2 q3)
          · have := u7 q (by omega) q2 q3 q4
            omega
      · rw [if_neg (by omega)]
        have ej : ((j : Int)).toNat = j := by omega
        rw [ej]
        refine ⟨by omega, by omega, ?_⟩
        intro y4 e4 w hw
        have k71' : y3 71 j = ev m j := by rw [g1 71 (by decide)]; subst e2; rw [up2_row (by decide)]; exact k71 j (by omega)
        rw [k71'] at e4
        refine hbk3 _ _ ⟨j + 1, by omega, by omega, fun c hc => by subst e4; rw [up2_row hc]; exact g1 c hc, fun i hi => ?_⟩ (by omega)
        subst e4
        by_cases e : i = j
        · subst e; rw [up2_s]
        · rw [up2_k 74 e]; exact g2 i (by omega)
    have hM18 : ML (cft x) y18 81 := by unfold ML; rw [ho18.2 15 (by decide), ho18.1 72 (by decide) (by decide) (by decide)]; exact hM
    refine lk4_inv (fun sm my i y2 => y2 = y18 ∧ ∃ j : Nat, i = (j : Int) ∧ j ≤ 4 ∧ sm = smN T j - smN (ev m) j ∧ ((my = 1 ∧ ∀ i, i < j → (ev m i = T i ∨ (ev m i < T i ∧ y 60 2 ≤ ev m i))) ∨ (my = 0 ∧ ∃ i, i < j ∧ ¬ (ev m i = T i ∨ (ev m i < T i ∧ y 60 2 ≤ ev m i))))) (fun _ _ i _ => (4 - i).toNat) ?_ _ _ _ _ ⟨rfl, 0, rfl, by omega, rfl, Or.inl ⟨rfl, fun i hi => by omega⟩⟩
    rintro bk2 sm my i y2 ⟨rfl, j, rfl, hj, hsm, hmy⟩ hbk2
    have hmy01 : my = 0 ∨ my = 1 := by
      rcases hmy with z | z
      · exact Or.inr z.1
      · exact Or.inl z.1
    have hrmy : rg my := by rcases hmy01 with z | z <;> rw [z] <;> exact ⟨by decide, by decide⟩
    unfold wB_X8_findPlan_76
    refine ⟨rg_sm (by omega) (by omega), ?_⟩
    by_cases hj4 : j = 4
    · subst hj4
      rw [if_pos (by omega)]
      have hsm4 : sm = sm4 T - sm4 (ev m) := by
        rw [hsm]
        show ((((0 + T 0) + T 1) + T 2) + T 3) - ((((0 + ev m 0) + ev m 1) + ev m 2) + ev m 3) = _
        unfold sm4; omega
      have t0 := ht 0 (by omega); have t1 := ht 1 (by omega); have t2 := ht 2 (by omega); have t3 := ht 3 (by omega)
      have hsb : -36 ≤ sm ∧ sm ≤ 36 := by rw [hsm4]; unfold sm4; omega
      unfold wX_X8_findPlan_76
      refine ⟨hrmy, ?_⟩
      have sr : fpO y2 y2 := ⟨fun _ _ _ _ => rfl, fun _ _ => rfl⟩
      by_cases hm0 : my = 0
      · rw [if_pos hm0]
        refine skip y2 sr rfl rfl (fun hok _ => ?_)
        rcases hmy with z | ⟨-, i, i1, i2⟩
        · omega
        · exact absurd (hok i i1) i2
      · rw [if_neg hm0]
        have hok : okE T (y 60 2) (ev m) := by
          rcases hmy with z | z
          · exact z.2
          · exact absurd z.1 hm0
        clear hmy
        have hr19 : rg (y2 60 19) := by rw [e19]; exact rg_sm (by omega) (by omega)
        have tk71 : tok (y2 71) := tok_cg k71 hev
        have fit : ∀ (hno : metC x (ev m) → y' 60 19 = -1 ∨ sm4 T - sm4 (ev m) < y' 60 19), w_X8_fits y2 (fun z_27 x_26 => rg z_27 ∧ (if z_27 = 0 then (∀ v2_29 : Int, v2_29 = (m : Int) + (-1) → bk v2_29 x_26) else (∀ x_30 : Mm, x_30 = up2 x_26 60 19 sm → ∃ n : Nat, lk2 (wB_X8_findPlan_175 (wX_X8_findPlan_175 (m : Int) bk)) n 0 x_30))) := by
          intro hno
          refine s_fitsM h4 (ho18.1 68 (by decide) (by decide) (by decide)) (ho18.1 69 (by decide) (by decide) (by decide)) (ho18.1 70 (by decide) (by decide) (by decide)) hM18 tk71 (fun hmm => gT ?_) (fun hmm => gF ?_)
          · rw [hsm4]
            have hmm := (metC_e k71).mp hmm
            exact better hok hmm (hno hmm)
          · exact skip y2 sr rfl rfl (fun _ q => absurd ((metC_e k71).mpr q) hmm)
        refine ⟨hr19, ?_⟩
        rw [e19]
        by_cases h19 : y' 60 19 = -1
        · rw [if_pos h19]
          exact fit (fun _ => Or.inl h19)
        · rw [if_neg h19]
          rw [e19] at hr19
          refine ⟨⟨rg_sm (by omega) (by omega), hr19⟩, ?_⟩
          by_cases hcmp : y' 60 19 ≤ sm
          · rw [if_pos hcmp]
            exact skip y2 sr rfl rfl (fun _ _ => by omega)
          · rw [if_neg hcmp]
            exact fit (fun _ => Or.inr (by omega))
    · rw [if_neg (by omega)]
      have hj' : j < 4 := by omega
      have ej : ((j : Int)).toNat = j := by omega
      have ej2 : (4 * (p : Int) + (j : Int)).toNat = 4 * p + j := by omega
      have htj := ht j hj'
      have hevj := hev j hj'
      rw [ej, ej2, e61 j, k71 j hj']
      have stp : ∀ s2, s2 = sm + (T j - ev m j) → s2 = smN T (j + 1) - smN (ev m) (j + 1) := fun s2 hs2 => by
        show s2 = (smN T j + T j) - (smN (ev m) j + ev m j)
        omega
      refine ⟨hrmy, ?_⟩
      by_cases hm0 : my = 0
      · rw [if_pos hm0]
        refine ⟨by omega, by omega, ?_⟩
        intro s2 hs2 w hw
        refine hbk2 _ _ _ _ ⟨rfl, j + 1, by omega, by omega, stp s2 hs2, Or.inr ⟨rfl, ?_⟩⟩ (by omega)
        rcases hmy with z | ⟨-, i, i1, i2⟩
        · exact absurd z.1 (by omega)
        · exact ⟨i, by omega, i2⟩
      · rw [if_neg hm0]
        have hall : ∀ i, i < j → (ev m i = T i ∨ (ev m i < T i ∧ y 60 2 ≤ ev m i)) := by
          rcases hmy with z | z
          · exact z.2
          · exact absurd z.1 hm0
        clear hmy
        refine ⟨by omega, ?_⟩
        refine s_mayBe hp hj' hevj (by rw [e61 j]; exact htj) (by rw [e602]; exact hle) (fun q => gT ?_) (fun q => gF ?_)
        · rw [e61 j, e602] at q
          rw [e61 j, k71 j hj']
          refine ⟨by omega, by omega, ?_⟩
          intro s2 hs2 w hw
          refine hbk2 _ _ _ _ ⟨rfl, j + 1, by omega, by omega, stp s2 hs2, Or.inl ⟨rfl, fun i hi => ?_⟩⟩ (by omega)
          by_cases e : i = j
          · subst e; exact q
          · exact hall i (by omega)
        · rw [e61 j, e602] at q
          rw [e61 j, k71 j hj']
          refine ⟨by omega, by omega, ?_⟩
          intro s2 hs2 w hw
          exact hbk2 _ _ _ _ ⟨rfl, j + 1, by omega, by omega, stp s2 hs2, Or.inr ⟨rfl, j, by omega, q⟩⟩ (by omega)
