theorem vld_ok {t : Nat → Int} {le : Int} {R d : Nat → Int} (hR : ∀ i, i < 4 → R i = max 0 (t i - le)) : vld R d ↔ okE t le (fun i => t i - d i) := by
  constructor
  · intro h i hi
    have a := h i hi
    have b := hR i hi
    show t i - d i = t i ∨ (t i - d i < t i ∧ le ≤ t i - d i)
    omega
  · intro h i hi
    have a := h i hi
    have b := hR i hi
    have a : t i - d i = t i ∨ (t i - d i < t i ∧ le ≤ t i - d i) := a
    omega
theorem okE_c {t : Nat → Int} {le : Int} {e d : Nat → Int} (h : ∀ i, i < 4 → d i = e i) : okE t le d ↔ okE t le e := by
  constructor
  · intro q i hi; rw [← h i hi]; exact q i hi
  · intro q i hi; rw [h i hi]; exact q i hi
theorem s_search {c1 : Nat} {x y : Mm} {le : Int} {post : Mm → Prop} (h2 : R2 x y) (hW : WD (cft x) x) (hA : aok x) (hc : 20 ≤ c1) (hle : 1 ≤ le ∧ le ≤ 9) (ht : tok (x c1)) (h : ∀ x' : Mm, (∀ c, c ≠ 12 → c ≠ 13 → c ≠ 14 → c ≠ 15 → x' c = x c) → IsP (metC x) (x c1) le (x' 12 3) (fun i => x c1 i - x' 13 i) → post x') : w_X3_search c1 le x post := by
  unfold w_X3_search
  refine lk3_inv (fun al i x1 => ∃ j : Nat, i = (j : Int) ∧ j ≤ 4 ∧ (∀ c, c ≠ 14 → x1 c = x c) ∧ (∀ i, i < j → x1 14 i = max 0 (x c1 i - le)) ∧ al = smN (x1 14) j) (fun _ i _ => (4 - i).toNat) ?_ _ _ _ ⟨0, rfl, by omega, fun _ _ => rfl, fun i hi => by omega, rfl⟩
  rintro bk al i x1 ⟨j, rfl, hj, o1, r1, hal⟩ hbk
  unfold wB_X3_search_6
  refine ⟨rg_sm (by omega) (by omega), ?_⟩
  by_cases h4 : j = 4
  · subst h4
    rw [if_pos (by omega)]
    unfold wX_X3_search_6
    intro x2 e2
    have t0 := ht 0 (by omega); have t1 := ht 1 (by omega); have t2 := ht 2 (by omega); have t3 := ht 3 (by omega)
    have q0 := r1 0 (by omega); have q1 := r1 1 (by omega); have q2 := r1 2 (by omega); have q3 := r1 3 (by omega)
    have hal' : al = x1 14 0 + x1 14 1 + x1 14 2 + x1 14 3 := by rw [hal]; show (((0 + x1 14 0) + x1 14 1) + x1 14 2) + x1 14 3 = _; omega
    have o2 : ∀ c, c ≠ 12 → c ≠ 14 → x2 c = x c := fun c k1 k2 => by subst e2; rw [up2_row k1]; exact o1 c k2
    have e14 : x2 14 = x1 14 := by subst e2; rw [up2_row (by decide)]
    have s2 : x2 12 3 = -1 := by subst e2; rw [up2_s]
    -- invariant of the loop over n
    refine lk2_inv (fun n x3 => (∀ c, c ≠ 12 → c ≠ 13 → c ≠ 14 → c ≠ 15 → x3 c = x c) ∧ x3 14 = x1 14 ∧ (0 ≤ n ∧ n ≤ al + 1) ∧ ((x3 12 3 = -1 ∧ ∀ d, vld (x1 14) d → sm4 d < n → ¬ metC x (fun i => x c1 i - d i)) ∨ (0 ≤ x3 12 3 ∧ x3 12 3 ≤ 36 ∧ vld (x1 14) (x3 13) ∧ sm4 (x3 13) = x3 12 3 ∧ metC x (fun i => x c1 i - x3 13 i) ∧ (∀ d, vld (x1 14) d → metC x (fun i => x c1 i - d i) → x3 12 3 < sm4 d ∨ (x3 12 3 = sm4 d ∧ lexL (x3 13) d))))) (fun n _ => (100 - n).toNat) ?_ _ _ ⟨fun c k1 _ k3 _ => o2 c k1 k3, e14, by omega, Or.inl ⟨s2, fun d hd hlt => by have a := hd 0 (by omega); have b := hd 1 (by omega); have c := hd 2 (by omega); have e := hd 3 (by omega); unfold sm4 at hlt; omega⟩⟩
    rintro bk2 n x3 ⟨o3, f14, hn, hst⟩ hbk2
    have hvok : ∀ d, vld (x1 14) d ↔ okE (x c1) le (fun i => x c1 i - d i) := fun d => vld_ok r1
    have fin : (al < n ∨ x3 12 3 ≠ -1) → post x3 := by
      intro hor
      refine h x3 o3 ?_
      rcases hst with ⟨z1, z2⟩ | ⟨z1, z1', z2, z3, z4, z5⟩
      · left
        refine ⟨z1, fun d hd hm => ?_⟩
        have hd' : okE (x c1) le (fun i => x c1 i - (x c1 i - d i)) := (okE_c (fun i hi => by show x c1 i - (x c1 i - d i) = d i; omega)).mpr hd
        have hv := (hvok (fun i => x c1 i - d i)).mpr hd'
        have a := hv 0 (by omega); have b := hv 1 (by omega); have c := hv 2 (by omega); have e := hv 3 (by omega)
        dsimp only at a b c e
        refine z2 (fun i => x c1 i - d i) hv (by unfold sm4; dsimp only; rcases hor with q | q <;> omega) ?_
        exact (metC_e (fun i hi => by show x c1 i - (x c1 i - d i) = d i; omega)).mpr hm
      · right
        refine ⟨z1, (hvok _).mp z2, z4, ?_, fun d hd hm => ?_⟩
        · unfold sm4 at z3 ⊢
          dsimp only
          omega
        · have hd' : okE (x c1) le (fun i => x c1 i - (x c1 i - d i)) := (okE_c (fun i hi => by show x c1 i - (x c1 i - d i) = d i; omega)).mpr hd
          have hv := (hvok (fun i => x c1 i - d i)).mpr hd'
          have hm' : metC x (fun i => x c1 i - (fun i => x c1 i - d i) i) := (metC_e (fun i hi => by show x c1 i - (x c1 i - d i) = d i; omega)).mpr hm
          have hz := z5 (fun i => x c1 i - d i) hv hm'
          unfold sm4 lexL at hz
          unfold sm4 lexG
          dsimp only at hz ⊢
          omega
    unfold wB_X3_search_55
    refine ⟨⟨rg_sm (by omega) (by omega), rg_sm (by omega) (by omega)⟩, ?_⟩
    by_cases cn : al < n
    · rw [if_pos cn]
      exact fin (Or.inl cn)
    · rw [if_neg cn]
      have hrs : rg (x3 12 3) := by rcases hst with z | z <;> exact rg_sm (by omega) (by omega)
      refine ⟨hrs, ?_⟩
      by_cases cs : x3 12 3 = -1
      · rw [if_pos cs]
        have z2 : ∀ d, vld (x1 14) d → sm4 d < n → ¬ metC x (fun i => x c1 i - d i) := by
          rcases hst with z | z
          · exact z.2
          · omega
        have e3c : x3 c1 = x c1 := o3 c1 (by omega) (by omega) (by omega) (by omega)
        have hm3 := metC_o (x' := x3) h2 (fun c hcc => o3 c (by omega) (by omega) (by omega) (by omega))
        have h23 : R2 x3 y := R2_c h2 (by rw [o3 2 (by decide) (by decide) (by decide) (by decide)]) (o3 3 (by decide) (by decide) (by decide) (by decide)) (fun c k1 k2 => o3 c (by omega) (by omega) (by omega) (by omega)) rfl rfl rfl rfl rfl
        have hW3 : WD (cft x3) x3 := by rw [hm3.1]; exact WD_c hW (by rw [o3 2 (by decide) (by decide) (by decide) (by decide)]) (o3 4 (by decide) (by decide) (by decide) (by decide)) (o3 5 (by decide) (by decide) (by decide) (by decide)) (o3 6 (by decide) (by decide) (by decide) (by decide)) (o3 7 (by decide) (by decide) (by decide) (by decide))
        have hA3 : aok x3 := fun k hk => by rw [o3 9 (by decide) (by decide) (by decide) (by decide), o3 10 (by decide) (by decide) (by decide) (by decide), o3 11 (by decide) (by decide) (by decide) (by decide)]; exact hA k hk
        refine s_foundOf h23 hW3 hA3 (by omega) (by omega) (fun i hi => ?_) (fun d hd i hi => ?_) (fun x4 o4 v1 v2 v3 v4 => gT ?_) (fun x4 o4 v1 => gF ?_)
        · rw [f14, r1 i hi]; have := ht i hi; omega
        · rw [f14] at hd
          have a := hd i hi
          rw [r1 i hi] at a
          have := ht i hi
          rw [e3c]
          dsimp only
          omega
        · rw [f14] at v1 v4
          rw [hm3.2, e3c] at v3 v4
          intro x5 e5 v hv
          have k5 : ∀ c, c ≠ 12 → x5 c = x4 c := fun c hcc => by subst e5; rw [up2_row hcc]
          have k53 : x5 12 3 = n := by subst e5; rw [up2_s]
          refine hbk2 _ _ ⟨fun c a b d e => (k5 c a).trans ((o4 c b e).trans (o3 c a b d e)), by rw [k5 14 (by decide), o4 14 (by decide) (by decide)]; exact f14, by omega, Or.inr ?_⟩ (by omega)
          rw [k53, k5 13 (by decide)]
          refine ⟨by omega, by omega, v1, v2, v3, fun d hd hm => ?_⟩
          by_cases e : sm4 d = n
          · exact Or.inr ⟨e.symm, v4 d hd e hm⟩
          · left
            have : ¬ sm4 d < n := fun q => z2 d hd q hm
            omega
        · rw [f14] at v1
          rw [hm3.2, e3c] at v1
          intro v hv
          refine hbk2 _ _ ⟨fun c a b d e => (o4 c b e).trans (o3 c a b d e), by rw [o4 14 (by decide) (by decide)]; exact f14, by omega, Or.inl ⟨by rw [o4 12 (by decide) (by decide)]; exact cs, fun d hd hlt => ?_⟩⟩ (by omega)
          by_cases e : sm4 d = n
          · exact v1 d hd e
          · exact z2 d hd (by omega)
      · rw [if_neg cs]
        exact fin (Or.inr cs)
  · rw [if_neg (by omega)]
    have ej : ((j : Int)).toNat = j := by omega
    have hj4 : j < 4 := by omega
    have htj := ht j hj4
    rw [ej, o1 c1 (by omega)]
    refine ⟨by omega, rg_sm (by omega) (by omega), by omega, ?_⟩
    intro x2 e2
    refine ⟨by omega, ?_⟩
    intro al2 hal2 v hv
    have k14 : x2 14 j = max 0 (x c1 j - le) := by subst e2; rw [up2_s]
    have k14o : ∀ i, i ≠ j → x2 14 i = x1 14 i := fun i hi => by subst e2; rw [up2_k 14 hi]
    refine hbk _ _ _ ⟨j + 1, by omega, by omega, fun c hcc => by subst e2; rw [up2_row hcc]; exact o1 c hcc, fun i hi => ?_, ?_⟩ (by omega)
    · by_cases e : i = j
      · subst e; exact k14
      · rw [k14o i e]; exact r1 i (by omega)
    · rw [hal2, hal]
      show _ = smN (x2 14) j + x2 14 j
      rw [smN_cg (fun i hi => k14o i (by omega))]
theorem s_makePlan {x y : Mm} {a : Int} {post : Mm → Prop} (hR : Rel x y) (ha : 0 ≤ a ∧ a < y 60 0) (h : ∀ x' : Mm, Rel x' y → (∀ c, c ≠ 12 → c ≠ 13 → c ≠ 14 → c ≠ 15 → x' c = x c) → IsP (metC x) (x (20 + 3 * a.toNat + 1)) (x 0 8) (x' 12 3) (fun i => x (20 + 3 * a.toNat + 1) i - x' 13 i) → post x') : w_X7_makePlan a x post := by
  have hn := hR.n
  have h0 := hR.1
  unfold R0 at h0
  have h5 := hR.2.2.2.2.2
  unfold w_X7_makePlan
  have hr4 : rg (x 12 4) := by rcases h5 with z | z <;> exact rg_sm (by omega) (by omega)
  refine ⟨⟨hr4, rg_sm (by omega) (by omega)⟩, ?_⟩
  by_cases hc : x 12 4 = a
  · rw [if_pos hc]
    rcases h5 with z | ⟨-, z⟩
    · omega
    · rw [hc] at z
      exact h x hR (fun _ _ _ _ _ => rfl) z
  · rw [if_neg hc]
    refine ⟨by omega, ?_⟩
    obtain ⟨ht, -⟩ := hR.st ha
    refine s_search hR.2.2.1 hR.2.2.2.1 hR.2.2.2.2.1.ok (by omega) (by omega) ht (fun x1 o1 hP => ?_)
    intro x2 e2
    have o2 : ∀ c, c ≠ 12 → c ≠ 13 → c ≠ 14 → c ≠ 15 → x2 c = x c := fun c k1 k2 k3 k4 => by subst e2; rw [up2_row k1]; exact o1 c k1 k2 k3 k4
    have k123 : x2 12 3 = x1 12 3 := by subst e2; rw [up2_k 12 (by decide)]
    have k13 : x2 13 = x1 13 := by subst e2; rw [up2_row (by decide)]
    have k124 : x2 12 4 = a := by subst e2; rw [up2_s]
    have hP2 : IsP (metC x) (x (20 + 3 * a.toNat + 1)) (x 0 8) (x2 12 3) (fun i => x (20 + 3 * a.toNat + 1) i - x2 13 i) := by rw [k123, k13]; exact hP
    have hm := metC_o (x' := x2) hR.2.2.1 (fun c hcc => o2 c (by omega) (by omega) (by omega) (by omega))
    have e0 : x2 0 = x 0 := o2 0 (by decide) (by decide) (by decide) (by decide)
    have ep : x2 (20 + 3 * a.toNat + 1) = x (20 + 3 * a.toNat + 1) := o2 _ (by omega) (by omega) (by omega) (by omega)
    refine h x2 ?_ o2 hP2
    obtain ⟨a1, b1, c1, d1, e1, f1⟩ := hR
    refine ⟨R0_c a1 e0 rfl rfl rfl, R1_c b1 (fun q h1 h2 => o2 q (by omega) (by omega) (by omega) (by omega)) rfl rfl rfl rfl, R2_c c1 (by rw [o2 2 (by decide) (by decide) (by decide) (by decide)]) (o2 3 (by decide) (by decide) (by decide) (by decide)) (fun q h1 h2 => o2 q (by omega) (by omega) (by omega) (by omega)) rfl rfl rfl rfl rfl, ?_, R4_c e1 (o2 9 (by decide) (by decide) (by decide) (by decide)) (o2 10 (by decide) (by decide) (by decide) (by decide)) (o2 11 (by decide) (by decide) (by decide) (by decide)) rfl rfl rfl, Or.inr ?_⟩
    · rw [hm.1]
      exact WD_c d1 (by rw [o2 2 (by decide) (by decide) (by decide) (by decide)]) (o2 4 (by decide) (by decide) (by decide) (by decide)) (o2 5 (by decide) (by decide) (by decide) (by decide)) (o2 6 (by decide) (by decide) (by decide) (by decide)) (o2 7 (by decide) (by decide) (by decide) (by decide))
    · rw [k124, e0, hm.2, ep]
      exact ⟨by omega, hP2⟩
/-! THE PLAN, the model's -/
theorem met_iff {x y : Mm} {e : Nat → Int} (h4 : R4 x y) : metC x e ↔ ∀ i, i < (fl (cft x) 81).length → ∀ k : Nat, k < 4 → y 68 k = 1 → y 69 k ≤ tw e k ((fl (cft x) 81).getD i 0) ∧ tw e k ((fl (cft x) 81).getD i 0) ≤ y 70 k := by
  constructor
  · intro h i hi k hk h68
    obtain ⟨g1, g2, g3⟩ := h4 k hk
    obtain ⟨a, b, c, d⟩ := g3 h68
    obtain ⟨s, w, hs, hw, hf, e1⟩ := vals_i (f := cft x) (t := e) (k := (k : Int)) hi
    rw [e1, ← a, ← b]
    exact h k hk (by omega) s w hs hw hf
  · intro h k hk h9 s w hs hw hf
    obtain ⟨g1, g2, g3⟩ := h4 k hk
    obtain ⟨a, b, c, d⟩ := g3 (by omega)
    obtain ⟨i, hi, e1⟩ := vals_of (f := cft x) (t := e) (k := (k : Int)) ⟨s, w, hs, hw, hf, rfl⟩
    rw [e1, a, b]
    exact h i hi k hk (by omega)
theorem s_fitsM {x y0 y : Mm} {post : Int → Mm → Prop} (h4 : R4 x y0) (e68 : y 68 = y0 68) (e69 : y 69 = y0 69) (e70 : y 70 = y0 70) (hM : ML (cft x) y 81) (ht : tok (y 71)) (h1 : metC x (y 71) → post 1 y) (h0 : ¬ metC x (y 71) → post 0 y) : w_X8_fits y post := by
  have hlen := fl_len (cft x) 81
  have hl := hM.1
  unfold w_X8_fits
  refine lk3_inv (fun is i y' => y' = y ∧ ∃ j : Nat, i = (j : Int) ∧ j ≤ (fl (cft x) 81).length ∧ ((is = 1 ∧ ∀ q, q < j → ∀ k : Nat, k < 4 → y0 68 k = 1 → y0 69 k ≤ tw (y 71) k ((fl (cft x) 81).getD q 0) ∧ tw (y 71) k ((fl (cft x) 81).getD q 0) ≤ y0 70 k) ∨ (is = 0 ∧ ¬ metC x (y 71)))) (fun _ i _ => (82 - i).toNat) ?_ _ _ _ ⟨rfl, 0, rfl, by omega, Or.inl ⟨rfl, fun q hq => by omega⟩⟩
  rintro bk is i y' ⟨rfl, j, rfl, hj, hst⟩ hbk
  have his : is = 0 ∨ is = 1 := by rcases hst with z | z <;> omega
  have fin : (y' 60 15 ≤ (j : Int) ∨ is = 0) → wX_X8_fits_4 post is (j : Int) y' := by
    intro hor
    unfold wX_X8_fits_4
    refine ⟨his, ?_⟩
    rcases hst with ⟨z1, z2⟩ | ⟨z1, z2⟩
    · rw [z1]
      exact h1 ((met_iff h4).mpr (fun i hi => z2 i (by omega)))
    · rw [z1]; exact h0 z2
  unfold wB_X8_fits_4
  refine ⟨⟨rg_sm (by omega) (by omega), rg_sm (by omega) (by omega)⟩, ?_⟩
  by_cases hc : y' 60 15 ≤ (j : Int)
  · rw [if_pos hc]; exact fin (Or.inl hc)
  · rw [if_neg hc]
    refine ⟨by rcases his with z | z <;> rw [z] <;> exact ⟨by decide, by decide⟩, ?_⟩
    by_cases hi0 : is = 0
    · rw [if_pos hi0]; exact fin (Or.inr hi0)
    · rw [if_neg hi0]
      have z2 : ∀ q, q < j → ∀ k : Nat, k < 4 → y0 68 k = 1 → y0 69 k ≤ tw (y' 71) k ((fl (cft x) 81).getD q 0) ∧ tw (y' 71) k ((fl (cft x) 81).getD q 0) ≤ y0 70 k := by
        rcases hst with z | z
        · exact z.2
        · omega
      have hj' : j < (fl (cft x) 81).length := by omega
      have e1 : is = 1 := by omega
      subst e1
      have ej : ((j : Int)).toNat = j := by omega
      have hu := hM.2 j hj'
      have hub := (fl_get hj').1
      refine lk3_inv (fun is2 k y2 => y2 = y' ∧ ∃ q : Nat, k = (q : Int) ∧ q ≤ 4 ∧ ((is2 = 1 ∧ ∀ k : Nat, k < q → y0 68 k = 1 → y0 69 k ≤ tw (y' 71) k ((fl (cft x) 81).getD j 0) ∧ tw (y' 71) k ((fl (cft x) 81).getD j 0) ≤ y0 70 k) ∨ (is2 = 0 ∧ ¬ metC x (y' 71)))) (fun _ k _ => (4 - k).toNat) ?_ _ _ _ ⟨rfl, 0, rfl, by omega, Or.inl ⟨rfl, fun k hk => by omega⟩⟩
      rintro bk2 is2 k2 y2 ⟨rfl, q, rfl, hq, hst2⟩ hbk2
      have his2 : is2 = 0 ∨ is2 = 1 := by rcases hst2 with z | z <;> omega
      have fin2 : (q = 4 ∨ is2 = 0) → wX_X8_fits_18 (j : Int) bk is2 (q : Int) y2 := by
        intro hor
        unfold wX_X8_fits_18
        intro v hv
        refine hbk _ _ _ ⟨rfl, j + 1, by omega, by omega, ?_⟩ (by omega)
        rcases hst2 with ⟨w1, w2⟩ | w
        · left
          refine ⟨w1, fun p hp k hk h68 => ?_⟩
          by_cases e : p = j
          · subst e; exact w2 k (by omega) h68
          · exact z2 p (by omega) k hk h68
        · exact Or.inr w
      unfold wB_X8_fits_18
      refine ⟨rg_sm (by omega) (by omega), ?_⟩
      by_cases hq4 : q = 4
      · rw [if_pos (by omega)]; exact fin2 (Or.inl hq4)
      · rw [if_neg (by omega)]
        refine ⟨by rcases his2 with z | z <;> rw [z] <;> exact ⟨by decide, by decide⟩, ?_⟩
        by_cases hi20 : is2 = 0
        · rw [if_pos hi20]; exact fin2 (Or.inr hi20)
        · rw [if_neg hi20]
          have w2 : ∀ k : Nat, k < q → y0 68 k = 1 → y0 69 k ≤ tw (y2 71) k ((fl (cft x) 81).getD j 0) ∧ tw (y2 71) k ((fl (cft x) 81).getD j 0) ≤ y0 70 k := by
            rcases hst2 with z | z
            · exact z.2
            · omega
          have hq' : q < 4 := by omega
          have eq : ((q : Int)).toNat = q := by omega
          rw [eq, e68, e69, e70]
          obtain ⟨g1, g2, g3⟩ := h4 q hq'
          refine ⟨by omega, by rcases g2 with z | z <;> rw [z] <;> exact ⟨by decide, by decide⟩, ?_⟩
          by_cases h68 : y0 68 q = 0
          · rw [if_pos h68]
            intro v hv
            refine hbk2 _ _ _ ⟨rfl, q + 1, by omega, by omega, Or.inl ⟨rfl, fun k hk hk68 => ?_⟩⟩ (by omega)
            by_cases e : k = q
            · subst e; omega
            · exact w2 k (by omega) hk68
          · rw [if_neg h68]
            obtain ⟨a, b, c, d⟩ := g3 (by omega)
            rw [ej, hu]
            generalize hge : (fl (cft x) 81).getD j 0 = u at *
            refine ⟨by omega, ⟨rg_sm (by omega) (by omega), by omega⟩, by omega, ⟨rg_sm (by omega) (by omega), by omega⟩, by omega, by omega, ?_⟩
            have e1 : (u : Int) / 9 = ((u / 9 : Nat) : Int) := by omega
            have e2 : (u : Int) % 9 = ((u % 9 : Nat) : Int) := by omega
            rw [e1, e2]
            refine s_lies ht ⟨by omega, by omega⟩ ⟨by omega, by omega⟩ ⟨by omega, by omega⟩ c d ?_
            by_cases hin : y0 69 q ≤ tw (y2 71) q u ∧ tw (y2 71) q u ≤ y0 70 q
            · have hin' : y0 69 q ≤ Vv (y2 71) (1 + ((u / 9 : Nat) : Int)) q / (1 + ((u % 9 : Nat) : Int)) ∧ Vv (y2 71) (1 + ((u / 9 : Nat) : Int)) q / (1 + ((u % 9 : Nat) : Int)) ≤ y0 70 q := hin
              rw [if_pos hin']
              refine gT ?_
              intro v hv
              refine hbk2 _ _ _ ⟨rfl, q + 1, by omega, by omega, Or.inl ⟨rfl, fun k hk hk68 => ?_⟩⟩ (by omega)
              by_cases e : k = q
              · subst e; exact hin
              · exact w2 k (by omega) hk68
            · have hin' : ¬ (y0 69 q ≤ Vv (y2 71) (1 + ((u / 9 : Nat) : Int)) q / (1 + ((u % 9 : Nat) : Int)) ∧ Vv (y2 71) (1 + ((u / 9 : Nat) : Int)) q / (1 + ((u % 9 : Nat) : Int)) ≤ y0 70 q) := hin
              rw [if_neg hin']
              refine gF ?_
              intro v hv
              refine hbk2 _ _ _ ⟨rfl, q + 1, by omega, by omega, Or.inr ⟨rfl, fun hm => ?_⟩⟩ (by omega)
              have := (met_iff h4).mp hm j hj' q hq' (by omega)
              rw [hge] at this
              exact hin this
