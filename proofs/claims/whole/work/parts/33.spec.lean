theorem s_fillWholeValues {c1 c2 : Nat} {x : Mm} {k : Int} {post : Mm → Prop} (hc : c2 ≠ c1) (ht : tok (x c2)) (hk : 0 ≤ k ∧ k < 4) (h : ∀ x' : Mm, (∀ s : Int, sok s → x' c1 s.toNat = Vv (x c2) s k) → (∀ c, c ≠ c1 → x' c = x c) → post x') : w_X5_fillWholeValues c1 c2 k x post := by
  unfold w_X5_fillWholeValues
  refine lk2_inv (fun i x' => (1 ≤ i ∧ i ≤ 10) ∧ (∀ s : Int, 1 ≤ s → s < i → x' c1 s.toNat = Vv (x c2) s k) ∧ (∀ c, c ≠ c1 → x' c = x c)) (fun i _ => (10 - i).toNat) ?_ _ _ ⟨by omega, fun s h1 h2 => by omega, fun c _ => rfl⟩
  rintro bk i x' ⟨hi, hv, ho⟩ hbk
  unfold wB_X5_fillWholeValues_2
  refine ⟨rg_sm (by omega) (by omega), ?_⟩
  by_cases h9 : 9 < i
  · rw [if_pos h9]
    exact h x' (fun s hs => hv s hs.1 (by have := hs.2; omega)) ho
  · rw [if_neg h9]
    have e : x' c2 = x c2 := ho c2 hc
    refine s_wholeValue (by rw [e]; exact ht) ⟨by omega, by omega⟩ hk ?_
    refine ⟨by omega, ?_⟩
    intro x2 hx2 v hv2
    refine hbk _ _ ⟨by omega, fun s h1 h2 => ?_, fun c hcc => ?_⟩ (by omega)
    · subst hx2
      by_cases hs : s = i
      · subst hs; rw [up2_s, e]
      · rw [up2_k c1 (by omega)]
        exact hv s h1 (by omega)
    · subst hx2
      rw [up2_row hcc]; exact ho c hcc
theorem s_bondOf {x : Mm} {s : Int} {i : Nat} {post : Int → Mm → Prop} (ht : tok (x 71)) (hs : sok s) (hi : i ≤ 4) (h : post (bnd (x 71) s i) x) : w_X8_bondOf s (i : Int) x post := by
  unfold w_X8_bondOf
  have hr : rg (i : Int) := rg_sm (by omega) (by omega)
  have hrs : rg s := by have := hs.1; have := hs.2; exact rg_sm (by omega) (by omega)
  have hrt : ∀ k, k < 4 → rg (x 71 k) := fun k hk => by have := ht k hk; exact rg_sm (by omega) (by omega)
  have hcb : ∀ k, k < 4 → rl (cub s (x 71 k)) ∧ 0 ≤ cub s (x 71 k) := fun k hk => by
    have := cub_bd hs (ht k hk).1 (ht k hk).2
    exact ⟨rl_rg (rg_sm (by omega) (by omega)), this.1⟩
  unfold bnd at h
  refine ⟨hr, ?_⟩
  by_cases h0 : i = 0
  · subst h0
    rw [if_pos (by omega)]
    refine ⟨hr, ?_⟩
    rw [if_pos (by omega)]
    intro v hv
    subst hv
    rw [if_pos rfl] at h
    exact ⟨hrs, hrt 0 (by omega), hrt 0 (by omega), hrt 0 (by omega), hcb 0 (by omega), h⟩
  · rw [if_neg (by omega)]
    refine ⟨hr, ?_⟩
    rw [if_neg h0] at h
    by_cases h4 : i = 4
    · subst h4
      rw [if_pos (by omega)]
      refine ⟨hr, ?_⟩
      rw [if_neg (by omega)]
      intro v hv
      subst hv
      rw [if_pos (by omega)] at h
      exact ⟨hrs, hrt 3 (by omega), hrt 3 (by omega), hrt 3 (by omega), hcb 3 (by omega), h⟩
    · rw [if_neg (by omega)]
      rw [if_neg (by omega)] at h
      have e1 : ((i : Int) - 1).toNat = i - 1 := by omega
      have e2 : ((i : Int)).toNat = i := by omega
      rw [e1, e2]
      refine ⟨by omega, by omega, ⟨hrt i (by omega), hrt (i - 1) (by omega)⟩, ?_⟩
      unfold mn2 at h
      by_cases hc : x 71 (i - 1) ≤ x 71 i
      · rw [if_pos hc]
        refine ⟨by omega, ?_⟩
        intro v hv
        have e : (if x 71 i ≤ x 71 (i - 1) then x 71 i else x 71 (i - 1)) = v := by split <;> omega
        rw [e] at h
        subst hv
        exact ⟨hrs, hrt (i - 1) (by omega), hrt (i - 1) (by omega), hrt (i - 1) (by omega), hcb (i - 1) (by omega), h⟩
      · rw [if_neg hc]
        refine ⟨by omega, ?_⟩
        intro v hv
        rw [if_pos (by omega)] at h
        subst hv
        exact ⟨hrs, hrt i (by omega), hrt i (by omega), hrt i (by omega), hcb i (by omega), h⟩
theorem s_belowOf {x : Mm} {s w z : Int} {post : Int → Mm → Prop} (ht : tok (x 71)) (hs : sok s) (hw : sok w) (hz : 0 ≤ z ∧ z ≤ 501) (h : post (cn (x 71) s (z * w)) x) : w_X8_belowOf s w z x post := by
  unfold w_X8_belowOf
  have hyb := mul_bd (a := z) (b := w) hz.1 (by have := hw.1; omega) hz.2 hw.2
  have hrz : rg z := rg_sm (by omega) (by omega)
  have hrw : rg w := by have := hw.1; have := hw.2; exact rg_sm (by omega) (by omega)
  have b0 := bnd_bd ht hs 0
  refine lk6_inv (fun bf m sg n i x' => x' = x ∧ rl sg ∧ ∃ (j : Nat) (ng : Int), i = (j : Int) ∧ j ≤ 4 ∧ ((ng = 0 ∧ 0 < sg) ∨ (ng = 1 ∧ sg < 0)) ∧ (j = 0 → bf = 0) ∧ VI (x 71) s (z * w) j n ng bf m ∧ abd m (KB j) ∧ abd bf (KC j)) (fun _ _ _ _ i _ => (4 - i).toNat) ?_ _ _ _ _ _ _ ⟨rfl, ⟨by decide, by decide⟩, 0, 0, rfl, by omega, Or.inl ⟨rfl, by decide⟩, fun _ => rfl, VI_0 _ _ _, ⟨by decide, by decide⟩, ⟨by decide, by decide⟩⟩
  rintro bk bf m sg n i x' ⟨rfl, hsg, j, ng, rfl, hj, hng, hbf0, hV, hm, hbf⟩ hbk
  unfold wB_X8_belowOf_15
  have hrj : rg (j : Int) := rg_sm (by omega) (by omega)
  refine ⟨hrj, ?_⟩
  by_cases h4 : j = 4
  · subst h4
    rw [if_pos (by omega)]
    unfold wX_X8_belowOf_15
    have e := congrArg Prod.fst hV.2
    rw [zz_cn] at e
    dsimp only at e
    rw [← e]
    exact h
  · have hj4 : j < 4 := by omega
    rw [if_neg (by omega)]
    refine ⟨hrj, ?_⟩
    have b1 := bnd_bd ht hs (j + 1)
    have htj := ht j hj4
    have e2 : ((j : Int)).toNat = j := by omega
    have hB := g_bd ht hs hyb.1 (by omega) hj4 hm hbf
    have go : ∀ n' ng' sg' g, g = (bnd (x' 71) s j + bnd (x' 71) s (j + 1) - z * w * x' 71 j) * m - bnd (x' 71) s j * bnd (x' 71) s j * bf → rl sg' → ((ng' = 0 ∧ 0 < sg') ∨ (ng' = 1 ∧ sg' < 0)) → VI (x' 71) s (z * w) (j + 1) n' ng' m g → ∀ v, v = (j : Int) + 1 → bk m g sg' n' v x' := by
      intro n' ng' sg' g hg hs' hn' hV' v hv
      subst hv
      rw [← hg] at hB
      exact hbk _ _ _ _ _ _ ⟨rfl, hs', j + 1, ng', by omega, by omega, hn', fun q => by omega, hV', hB.1, hB.2.1⟩ (by omega)
    have fin : ∀ g, g = (bnd (x' 71) s j + bnd (x' 71) s (j + 1) - z * w * x' 71 j) * m - bnd (x' 71) s j * bnd (x' 71) s j * bf → rl g ∧ if g = 0 then (∀ v : Int, v = (j : Int) + 1 → bk m g sg n v x') else (rl g ∧ if g ≤ 0 then (rl sg ∧ if sg ≤ 0 then (if (0 : Int) = 0 then (∀ n' : Int, n' = n + 0 → ∀ v : Int, v = (j : Int) + 1 → bk m g g n' v x') else (∀ n' : Int, n' = n + 1 → ∀ v : Int, v = (j : Int) + 1 → bk m g g n' v x')) else (if (0 : Int) = 1 then (∀ n' : Int, n' = n + 0 → ∀ v : Int, v = (j : Int) + 1 → bk m g g n' v x') else (∀ n' : Int, n' = n + 1 → ∀ v : Int, v = (j : Int) + 1 → bk m g g n' v x'))) else (rl sg ∧ if sg ≤ 0 then (if (1 : Int) = 0 then (∀ n' : Int, n' = n + 0 → ∀ v : Int, v = (j : Int) + 1 → bk m g g n' v x') else (∀ n' : Int, n' = n + 1 → ∀ v : Int, v = (j : Int) + 1 → bk m g g n' v x')) else (if (1 : Int) = 1 then (∀ n' : Int, n' = n + 0 → ∀ v : Int, v = (j : Int) + 1 → bk m g g n' v x') else (∀ n' : Int, n' = n + 1 → ∀ v : Int, v = (j : Int) + 1 → bk m g g n' v x')))) := by
      intro g hg
      have hrg : rl g := by rw [hg]; exact hB.2.2
      refine ⟨hrg, ?_⟩
      by_cases hg0 : g = 0
      · rw [if_pos hg0]
        exact go _ ng _ _ hg hsg hng (VI_keep hV hg (by omega))
      · rw [if_neg hg0]
        refine ⟨hrg, ?_⟩
        by_cases hgp : g ≤ 0
        · rw [if_pos hgp]
          refine ⟨hsg, ?_⟩
          by_cases hs0 : sg ≤ 0
          · rw [if_pos hs0, if_pos rfl]
            intro n' hn'
            have hn2 : n' = n := by omega
            subst hn2
            exact go _ ng _ _ hg hrg (by omega) (VI_keep hV hg (by omega))
          · rw [if_neg hs0, if_neg (by decide)]
            intro n' hn'
            subst hn'
            exact go _ (1 - ng) _ _ hg hrg (by omega) (VI_flip hV hg (by omega))
        · rw [if_neg hgp]
          refine ⟨hsg, ?_⟩
          by_cases hs0 : sg ≤ 0
          · rw [if_pos hs0, if_neg (by decide)]
            intro n' hn'
            subst hn'
            exact go _ (1 - ng) _ _ hg hrg (by omega) (VI_flip hV hg (by omega))
          · rw [if_neg hs0, if_pos rfl]
            intro n' hn'
            have hn2 : n' = n := by omega
            subst hn2
            exact go _ ng _ _ hg hrg (by omega) (VI_keep hV hg (by omega))
    by_cases hj0 : j = 0
    · subst hj0
      rw [if_pos (by omega)]
      refine s_bondOf (i := 0) ht hs (by omega) ?_
      refine s_bondOf (i := 1) ht hs (by omega) ?_
      rw [e2]
      refine ⟨hrz, hrw, by omega, rg_sm (by omega) (by omega), ?_⟩
      intro g hg
      have hb0 := hbf0 rfl
      subst hb0
      refine fin g ?_
      rw [hg]
      simp only [Int.mul_zero, Int.sub_zero]
    · rw [if_neg (by omega)]
      refine s_bondOf ht hs (by omega) ?_
      refine s_bondOf ht hs (by omega) ?_
      refine s_bondOf (i := j + 1) ht hs (by omega) ?_
      rw [e2]
      refine ⟨hrz, hrw, by omega, rg_sm (by omega) (by omega), ?_⟩
      intro g hg
      exact fin g hg
theorem le_tone {V w z : Int} (hw : sok w) : z * w ≤ V ↔ z ≤ V / w := (Int.le_ediv_iff_mul_le (by have := hw.1; omega)).symm
theorem s_toneOf {x : Mm} {s w k : Int} {post : Int → Mm → Prop} (ht : tok (x 71)) (hs : sok s) (hw : sok w) (hk : 0 ≤ k ∧ k < 4) (h : post (Vv (x 71) s k / w) x) : w_X8_toneOf s w k x post := by
  unfold w_X8_toneOf
  have hV := Vv_bd ht hs hk.1
  have hq1 : 0 ≤ Vv (x 71) s k / w := Int.ediv_nonneg hV.1 (by have := hw.1; omega)
  have hq2 : Vv (x 71) s k / w ≤ Vv (x 71) s k := Int.ediv_le_self w hV.1
  refine lk3_inv (fun lo hi x' => x' = x ∧ 0 ≤ lo ∧ lo ≤ Vv (x 71) s k / w ∧ Vv (x 71) s k / w ≤ hi ∧ hi ≤ 500) (fun lo hi _ => (hi - lo).toNat) ?_ _ _ _ ⟨rfl, by omega, by omega, by omega, by omega⟩
  rintro bk lo hi x' ⟨rfl, h0, h1, h2, h3⟩ hbk
  unfold wB_X8_toneOf_8
  refine ⟨⟨rg_sm (by omega) (by omega), rg_sm (by omega) (by omega)⟩, ?_⟩
  by_cases hc : hi ≤ lo
  · rw [if_pos hc]
    unfold wX_X8_toneOf_8
    have : lo = Vv (x' 71) s k / w := by omega
    rw [this]; exact h
  · rw [if_neg hc]
    refine ⟨⟨rg_sm (by omega) (by omega), by omega⟩, ?_⟩
    intro mid hmid
    refine s_belowOf ht hs hw ⟨by omega, by omega⟩ ?_
    have hcb := cn_bd (x' 71) s (mid * w)
    refine ⟨⟨rg_sm (by omega) (by omega), rg_sm (by omega) (by omega)⟩, ?_⟩
    have hiff := (Vv_iff ht hs hk.1 hk.2 (mid * w)).trans (le_tone (z := mid) hw)
    by_cases hc2 : k < cn (x' 71) s (mid * w)
    · rw [if_pos hc2]
      intro v hv
      have : ¬ mid ≤ Vv (x' 71) s k / w := fun q => by have := hiff.mpr q; omega
      exact hbk _ _ _ ⟨rfl, by omega, by omega, by omega, by omega⟩ (by omega)
    · rw [if_neg hc2]
      have := hiff.mp (by omega)
      exact hbk _ _ _ ⟨rfl, by omega, by omega, by omega, by omega⟩ (by omega)
theorem s_lies {x : Mm} {s w k a b : Int} {post : Int → Mm → Prop} (ht : tok (x 71)) (hs : sok s) (hw : sok w) (hk : 0 ≤ k ∧ k < 4) (ha : 0 ≤ a ∧ a ≤ 500) (hb : 0 ≤ b ∧ b ≤ 500) (h : post (if a ≤ Vv (x 71) s k / w ∧ Vv (x 71) s k / w ≤ b then 1 else 0) x) : w_X8_lies s w k a b x post := by
  unfold w_X8_lies
  refine s_belowOf ht hs hw ⟨by omega, by omega⟩ ?_
  have hc1 := cn_bd (x 71) s (a * w)
  have hc2 := cn_bd (x 71) s ((b + 1) * w)
  have i1 := (Vv_iff ht hs hk.1 hk.2 (a * w)).trans (le_tone (z := a) hw)
  have i2 := (Vv_iff ht hs hk.1 hk.2 ((b + 1) * w)).trans (le_tone (z := b + 1) hw)
  refine ⟨⟨rg_sm (by omega) (by omega), rg_sm (by omega) (by omega)⟩, ?_⟩
  by_cases g1 : k < cn (x 71) s (a * w)
  · rw [if_pos g1]
    rw [if_neg (fun q => by have := i1.mpr q.1; omega)] at h
    exact h
  · rw [if_neg g1]
    have j1 := i1.mp (by omega)
    refine s_belowOf ht hs hw ⟨by omega, by omega⟩ ?_
    refine ⟨⟨rg_sm (by omega) (by omega), rg_sm (by omega) (by omega)⟩, ?_⟩
    by_cases g2 : cn (x 71) s ((b + 1) * w) ≤ k
    · rw [if_pos g2]
      have j2 := i2.mp g2
      rw [if_neg (fun q => by have := q.2; omega)] at h
      exact h
    · rw [if_neg g2]
      have j2 : ¬ b + 1 ≤ Vv (x 71) s k / w := fun q => g2 (i2.mpr q)
      rw [if_pos ⟨j1, by omega⟩] at h
      exact h
theorem s_take {c1 : Nat} {x : Mm} {a : Int} {post : Mm → Prop} (hc : c1 ≠ 71) (ha : 0 ≤ a) (hal : 4 * a + 4 ≤ ((al c1 : Nat) : Int)) (h : ∀ x' : Mm, (∀ i, i < 4 → x' 71 i = x c1 (4 * a.toNat + i)) → (∀ c, c ≠ 71 → x' c = x c) → post x') : w_X8_take c1 a x post := by
  unfold w_X8_take
  refine lk2_inv (fun i x' => ∃ j : Nat, i = (j : Int) ∧ j ≤ 4 ∧ (∀ i, i < j → x' 71 i = x c1 (4 * a.toNat + i)) ∧ (∀ c, c ≠ 71 → x' c = x c)) (fun i _ => (4 - i).toNat) ?_ _ _ ⟨0, rfl, by omega, fun i hi => by omega, fun c _ => rfl⟩
  rintro bk i x' ⟨j, rfl, hj, h1, h2⟩ hbk
  unfold wB_X8_take_2
  refine ⟨rg_sm (by omega) (by omega), ?_⟩
  by_cases h4 : j = 4
  · rw [if_pos (by omega)]
    subst h4
    exact h x' h1 h2
  · rw [if_neg (by omega)]
    refine ⟨by omega, by omega, ?_⟩
    intro x2 hx2 v hv
    have e1 : ((4 * a) + (j : Int)).toNat = 4 * a.toNat + j := by omega
    have e2 : ((j : Int)).toNat = j := by omega
    rw [e1, e2, h2 c1 hc] at hx2
    refine hbk _ _ ⟨j + 1, by omega, by omega, fun i hi => ?_, fun c hcc => ?_⟩ (by omega)
    · subst hx2
      by_cases hij : i = j
      · subst hij; rw [up2_s]
      · rw [up2_k 71 hij]; exact h1 i (by omega)
    · subst hx2
      rw [up2_row hcc]; exact h2 c hcc
