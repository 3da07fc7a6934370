/-! TAPS -/
theorem Rel.taps {x x' y y' : Mm} (h : Rel x y) (hx : ∀ c, (c = 0 ∨ c = 9 ∨ c = 10 ∨ c = 11 ∨ (20 ≤ c ∧ c < 32)) → x' c = x c) (hy : ∀ c, (c = 61 ∨ c = 62 ∨ c = 63 ∨ c = 68 ∨ c = 69 ∨ c = 70) → y' c = y c) (hy60 : ∀ k, k ≠ 5 → y' 60 k = y 60 k) (r2 : R2 x' y') (r3 : WD (cft x') x') (r5 : x' 12 4 = -1) : Rel x' y' := by
  obtain ⟨a, b, c, d, e, f⟩ := h
  exact ⟨R0_c a (hx 0 (by omega)) (hy60 0 (by decide)) (hy60 2 (by decide)) (hy60 13 (by decide)), R1_c b (fun q h1 h2 => hx q (by omega)) (hy60 0 (by decide)) (hy 61 (by omega)) (hy 62 (by omega)) (hy 63 (by omega)), r2, r3, R4_c e (hx 9 (by omega)) (hx 10 (by omega)) (hx 11 (by omega)) (hy 68 (by omega)) (hy 69 (by omega)) (hy 70 (by omega)), Or.inl r5⟩
/-- behind sifting and forgetting -/
theorem sift_end {x7 x8 x9 : Mm} (hsw : SW x7 x8) (hw : WD (cft x7) x8) (e9 : x9 = up2 x8 12 4 (-1)) (hC : CT x7) : (∀ c, c ≠ 2 → c ≠ 4 → c ≠ 5 → c ≠ 6 → c ≠ 7 → c ≠ 12 → x9 c = x7 c) ∧ x9 2 1 = x7 2 1 ∧ WD (cft x9) x9 ∧ x9 12 4 = -1 := by
  have o : ∀ c, c ≠ 12 → x9 c = x8 c := fun c h => by subst e9; rw [up2_row h]
  have q1 : ∀ c, c ≠ 2 → c ≠ 4 → c ≠ 5 → c ≠ 6 → c ≠ 7 → c ≠ 12 → x9 c = x7 c := fun c a b d e f g => (o c g).trans (hsw.1 c a b d e f)
  have q2 : x9 2 1 = x7 2 1 := by rw [o 2 (by decide)]; exact hsw.2 1 (by decide)
  have hc : cft x9 = cft x7 := cft_c hC.2.1 hC.1.2 q2 (q1 3 (by decide) (by decide) (by decide) (by decide) (by decide) (by decide)) (fun c h1 h2 => q1 c (by omega) (by omega) (by omega) (by omega) (by omega) (by omega))
  refine ⟨q1, q2, ?_, by subst e9; rw [up2_s]⟩
  rw [hc]
  exact WD_c hw (by rw [o 2 (by decide)]) (o 4 (by decide)) (o 5 (by decide)) (o 6 (by decide)) (o 7 (by decide))
theorem sim_tap {x y : Mm} {a k lo hi : Int} (hR : Rel x y) (ha : rg a) (hk : rg k) (hlo : rg lo) (hhi : rg hi) : w_X7_tap a k lo hi x (fun r x' => w_X8_tap a k lo hi y (Sm x' r)) := by
  have hn := hR.n
  have h2 := hR.2.2.1
  obtain ⟨T1, T2, T3, T4⟩ := id h2
  unfold w_X7_tap w_X8_tap
  refine t_isPlate ha hR.rn (fun g1 => gT ?_) (fun g1 => gF ?_)
  · refine t_isTone hk (fun g2 => gT ?_) (fun g2 => gF ?_)
    · refine t_isSpan hlo hhi (fun g3 => gT ?_) (fun g3 => gF ?_)
      · refine ⟨rg_sm (by omega) (by omega), ?_⟩
        by_cases hf : x 2 1 < 12
        · rw [if_pos hf]
          refine ⟨by omega, ?_⟩
          unfold w_X2_addTap
          refine ⟨rg_sm (by omega) (by omega), ?_⟩
          rw [if_neg (by omega)]
          obtain ⟨n, hnn⟩ : ∃ n : Nat, y 60 5 = (n : Int) := ⟨(y 60 5).toNat, by omega⟩
          have en : (x 2 1).toNat = n := by omega
          rw [en]
          have hτ := T2 n (by omega)
          refine ⟨by omega, hτ, ?_⟩
          obtain ⟨ht, he⟩ := hR.st (a := a) (by omega)
          generalize hτe : (x 3 n).toNat = τ at *
          have hτ12 : τ < 12 := by omega
          refine s_fillWholeValues (by omega) ht g2 (fun x4 f1 f2 => ?_)
          intro x5 e5 x6 e6 x7 e7
          have o6 : ∀ c, c ≠ 32 + 2 * τ → c ≠ 32 + 2 * τ + 1 → x6 c = x c := fun c h1 h3 => by subst e6 e5; rw [up2_row h1, up2_row h1]; exact f2 c h3
          have o7 : ∀ c, c ≠ 2 → c ≠ 32 + 2 * τ → c ≠ 32 + 2 * τ + 1 → x7 c = x c := fun c h0 h1 h3 => by subst e7; rw [up2_row h0]; exact o6 c h1 h3
          have c21 : x7 2 1 = (n : Int) + 1 := by subst e7; rw [up2_s, o6 2 (by omega) (by omega)]; omega
          have l1 : x7 (32 + 2 * τ) 1 = lo := by subst e7 e6 e5; rw [up2_row (by omega), up2_k _ (by decide), up2_s]
          have l2 : x7 (32 + 2 * τ) 2 = hi := by subst e7 e6; rw [up2_row (by omega), up2_s]
          have lv : ∀ s : Int, sok s → x7 (32 + 2 * τ + 1) s.toNat = Vv (x (20 + 3 * a.toNat + 1)) s k := fun s hs => by
            subst e7 e6 e5; rw [up2_row (by omega), up2_row (by omega), up2_row (by omega)]; exact f1 s hs
          have c3 : x7 3 = x 3 := o7 3 (by decide) (by omega) (by omega)
          -- the model's end, as R2 wants it
          have fin : ∀ x9 y9 : Mm, x9 2 1 = x7 2 1 → x9 3 = x7 3 → (∀ c, 32 ≤ c → c < 56 → x9 c = x7 c) → y9 60 5 = (n : Int) + 1 → (∀ q, q < 4 * n → y9 64 q = y 64 q) → (∀ i, i < 4 → y9 64 (4 * n + i) = y 61 (4 * a.toNat + i)) → (∀ t, t < n → y9 65 t = y 65 t ∧ y9 66 t = y 66 t ∧ y9 67 t = y 67 t) → y9 65 n = k → y9 66 n = lo → y9 67 n = hi → R2 x9 y9 := by
            intro x9 y9 a1 a2 a3 a4 a5 a6 a7 a8 a9 a10
            refine ⟨by rw [a1, c21, a4]; omega, by rw [a2, c3]; exact T2, by rw [a2, c3]; exact T3, fun t htt => ?_⟩
            rw [a4] at htt
            rw [a2, c3]
            by_cases e : t = n
            · subst e
              rw [hτe, a3 _ (by omega) (by omega), a3 _ (by omega) (by omega), l1, l2, a8, a9, a10]
              have cg : ∀ i, i < 4 → (fun i => y9 64 (4 * t + i)) i = x (20 + 3 * a.toNat + 1) i := fun i hi => by
                show y9 64 (4 * t + i) = _
                rw [a6 i hi]; exact he i hi
              refine ⟨rfl, rfl, by omega, by omega, g2, tok_cg cg ht, fun s hs => ?_⟩
              rw [lv s hs, Vv_cg cg]
            · have htn : t < n := by omega
              have hd := T4 t (by omega)
              have hb := T2 t (by omega)
              have hne : (x 3 t).toNat ≠ τ := fun z => e (T3 t n (by omega) (by omega) (by omega))
              rw [a3 _ (by omega) (by omega), a3 _ (by omega) (by omega), o7 _ (by omega) (by omega) (by omega), o7 _ (by omega) (by omega) (by omega), (a7 t htn).1, (a7 t htn).2.1, (a7 t htn).2.2]
              have cg : (fun i => y9 64 (4 * t + i)) = fun i => y9 64 (4 * t + i) := rfl
              obtain ⟨d1, d2, d3, d4, d5, d6, d7⟩ := hd
              have cg : ∀ i, i < 4 → (fun i => y9 64 (4 * t + i)) i = (fun i => y 64 (4 * t + i)) i := fun i hi => a5 _ (by omega)
              refine ⟨d1, d2, d3, d4, d5, tok_cg cg d6, fun s hs => ?_⟩
              rw [d7 s hs, Vv_cg cg]
          have hC7 : CT x7 := by
            have r2 : R2 x7 (up2 (up2 (up2 (up2 (fun c q => if c = 64 ∧ 4 * n ≤ q ∧ q < 4 * n + 4 then y 61 (4 * a.toNat + (q - 4 * n)) else y c q) 65 n k) 66 n lo) 67 n hi) 60 5 ((n : Int) + 1)) := by
              refine fin _ _ rfl rfl (fun _ _ _ => rfl) (by rw [up2_s]) (fun q hq => ?_) (fun i hi => ?_) (fun t ht => ?_) ?_ ?_ ?_
              · simp [up2]; intro h1 h3; omega
              · simp [up2]
                intro h4; omega
              · have : t ≠ n := by omega
                simp [up2, this]
              · simp [up2]
              · simp [up2]
              · simp [up2]
            exact CT_of r2
          refine s_sift hC7 (fun x8 hsw hwd => ?_)
          intro x9 e9
          obtain ⟨s1, s2, s3, s4⟩ := sift_end hsw hwd e9 hC7
          refine t_isPlateM ha hn.2 (fun _ => gT ?_) (fun q => absurd (by omega) q)
          refine t_isFour hk (fun _ => gT ?_) (fun q => absurd g2 q)
          refine t_in hlo ⟨by decide, by decide⟩ ⟨by decide, by decide⟩ (fun _ => gT ?_) (fun q => absurd (by omega) q)
          refine t_in hhi hlo ⟨by decide, by decide⟩ (fun _ => gT ?_) (fun q => absurd (by omega) q)
          refine ⟨rg_sm (by omega) (by omega), ?_⟩
          rw [if_neg (by omega)]
          refine lk2_inv (fun i y' => ∃ j : Nat, i = (j : Int) ∧ j ≤ 4 ∧ (∀ c, c ≠ 64 → y' c = y c) ∧ (∀ q, q < 4 * n → y' 64 q = y 64 q) ∧ ∀ i, i < j → y' 64 (4 * n + i) = y 61 (4 * a.toNat + i)) (fun i _ => (4 - i).toNat) ?_ _ _ ⟨0, rfl, by omega, fun _ _ => rfl, fun _ _ => rfl, fun i hi => by omega⟩
          rintro bk i y' ⟨j, rfl, hj, m1, m2, m3⟩ hbk
          unfold wB_X8_tap_56
          refine ⟨rg_sm (by omega) (by omega), ?_⟩
          rw [m1 60 (by decide), hnn]
          by_cases hj4 : j = 4
          · subst hj4
            rw [if_pos (by omega)]
            unfold wX_X8_tap_56
            rw [m1 60 (by decide), hnn]
            have enn : ((n : Int)).toNat = n := by omega
            refine ⟨by omega, ?_⟩
            intro y17 p17
            have k17 : y17 60 = y 60 := by subst p17; rw [up2_row (by decide)]; exact m1 60 (by decide)
            rw [k17, hnn]
            refine ⟨by omega, ?_⟩
            intro y19 p19
            have k19 : y19 60 = y 60 := by subst p19; rw [up2_row (by decide)]; exact k17
            rw [k19, hnn]
            refine ⟨by omega, ?_⟩
            intro y21 p21 y22 p22
            have k21 : y21 60 = y 60 := by subst p21; rw [up2_row (by decide)]; exact k19
            rw [k21, hnn] at p22
            rw [enn] at p17 p19 p21
            have y5 : y22 60 5 = (n : Int) + 1 := by subst p22; rw [up2_s]
            refine ⟨by rw [s2, c21, y5], ?_, ?_⟩
            · rw [s2, c21]; exact rg_sm (by omega) (by omega)
            · refine hR.taps (fun c hc => (s1 c (by omega) (by omega) (by omega) (by omega) (by omega) (by omega)).trans (o7 c (by omega) (by omega) (by omega))) (fun c hc => by subst p22 p21 p19 p17; rw [up2_row (by omega), up2_row (by omega), up2_row (by omega), up2_row (by omega)]; exact m1 c (by omega)) (fun q hq => by subst p22; rw [up2_k 60 hq, k21]) ?_ s3 s4
              refine fin _ _ s2 (s1 3 (by decide) (by decide) (by decide) (by decide) (by decide) (by decide)) (fun c h1 h2 => s1 c (by omega) (by omega) (by omega) (by omega) (by omega) (by omega)) y5 (fun q hq => ?_) (fun i hi => ?_) (fun t htt => ?_) ?_ ?_ ?_
              · subst p22 p21 p19 p17; rw [up2_row (by decide), up2_row (by decide), up2_row (by decide), up2_row (by decide)]; exact m2 q hq
              · subst p22 p21 p19 p17; rw [up2_row (by decide), up2_row (by decide), up2_row (by decide), up2_row (by decide)]; exact m3 i hi
              · have hne : t ≠ n := by omega
                subst p22 p21 p19 p17
                refine ⟨?_, ?_, ?_⟩
                · rw [up2_row (by decide), up2_row (by decide), up2_row (by decide), up2_k 65 hne, m1 65 (by decide)]
                · rw [up2_row (by decide), up2_row (by decide), up2_k 66 hne, up2_row (by decide), m1 66 (by decide)]
                · rw [up2_row (by decide), up2_k 67 hne, up2_row (by decide), up2_row (by decide), m1 67 (by decide)]
              · subst p22 p21 p19 p17; rw [up2_row (by decide), up2_row (by decide), up2_row (by decide), up2_s]
              · subst p22 p21 p19; rw [up2_row (by decide), up2_row (by decide), up2_s]
              · subst p22 p21; rw [up2_row (by decide), up2_s]
          · rw [if_neg (by omega)]
            have q1 : (4 * a + (j : Int)).toNat = 4 * a.toNat + j := by omega
            have q2 : (4 * (n : Int) + (j : Int)).toNat = 4 * n + j := by omega
            rw [q1, q2, m1 61 (by decide)]
            refine ⟨by omega, by omega, ?_⟩
            intro y26 p26 v hv
            refine hbk _ _ ⟨j + 1, by omega, by omega, fun c hc => by subst p26; rw [up2_row hc]; exact m1 c hc, fun q hq => by subst p26; rw [up2_k 64 (by omega)]; exact m2 q hq, fun i hi => ?_⟩ (by omega)
            subst p26
            by_cases e : i = j
            · subst e; rw [up2_s]
            · rw [up2_k 64 (by omega)]; exact m3 i (by omega)
        · rw [if_neg hf]
          refine t_isPlateM ha hn.2 (fun _ => gT ?_) (fun q => absurd (by omega) q)
          refine t_isFour hk (fun _ => gT ?_) (fun q => absurd g2 q)
          refine t_in hlo ⟨by decide, by decide⟩ ⟨by decide, by decide⟩ (fun _ => gT ?_) (fun q => absurd (by omega) q)
          refine t_in hhi hlo ⟨by decide, by decide⟩ (fun _ => gT ?_) (fun q => absurd (by omega) q)
          refine ⟨rg_sm (by omega) (by omega), ?_⟩
          rw [if_pos (by omega)]
          exact ⟨rfl, rgm.2.2.2, hR⟩
      · refine t_isPlateM ha hn.2 (fun _ => gT ?_) (fun q => absurd (by omega) q)
        refine t_isFour hk (fun _ => gT ?_) (fun q => absurd g2 q)
        refine t_in hlo ⟨by decide, by decide⟩ ⟨by decide, by decide⟩ (fun q1 => gT ?_) (fun q => gF ⟨rfl, rgm.2.1, hR⟩)
        exact t_in hhi hlo ⟨by decide, by decide⟩ (fun q => absurd (by omega) g3) (fun _ => gF ⟨rfl, rgm.2.1, hR⟩)
    · refine t_isPlateM ha hn.2 (fun _ => gT ?_) (fun q => absurd (by omega) q)
      exact t_isFour hk (fun q => absurd q g2) (fun _ => gF ⟨rfl, rgm.2.1, hR⟩)
  · exact t_isPlateM ha hn.2 (fun q => absurd (by omega) g1) (fun _ => gF ⟨rfl, rgm.2.1, hR⟩)
