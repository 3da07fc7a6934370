theorem sim_untap {x y : Mm} {a : Int} (hR : Rel x y) (ha : rg a) : w_X7_untap a x (fun r x' => w_X8_untap a y (Sm x' r)) := by
  have h2 := hR.2.2.1
  obtain ⟨T1, T2, T3, T4⟩ := id h2
  have bad : ¬ (0 ≤ a ∧ a < y 60 5) → w_X8_untap a y (Sm x (-2)) := fun h => by
    unfold w_X8_untap
    exact t_in ha ⟨by decide, by decide⟩ (rg_sm (by omega) (by omega)) (fun q => absurd (by omega) h) (fun _ => gF ⟨rfl, rgm.2.1, hR⟩)
  unfold w_X7_untap
  refine ⟨ha, ?_⟩
  split
  · exact bad (by omega)
  · refine ⟨⟨ha, rg_sm (by omega) (by omega)⟩, ?_⟩
    split
    · obtain ⟨u, rfl⟩ : ∃ u : Nat, a = (u : Int) := ⟨a.toNat, by omega⟩
      obtain ⟨n, hnn⟩ : ∃ n : Nat, y 60 5 = ((n + 1 : Nat) : Int) := ⟨(y 60 5 - 1).toNat, by omega⟩
      have hun : u ≤ n := by omega
      have hn12 : n < 12 := by omega
      have eu : ((u : Int)).toNat = u := by omega
      unfold w_X2_dropTap
      refine ⟨ha, ?_⟩
      rw [if_neg (by omega)]
      refine ⟨⟨ha, rg_sm (by omega) (by omega)⟩, ?_⟩
      rw [if_neg (by omega), eu]
      refine ⟨by omega, T2 u (by omega), ?_⟩
      refine lk2_inv (fun i x' => ∃ j : Nat, i = (j : Int) ∧ u ≤ j ∧ j ≤ n ∧ (∀ c, c ≠ 3 → x' c = x c) ∧ ∀ t, t < 12 → x' 3 t = if u ≤ t ∧ t < j then x 3 (t + 1) else x 3 t) (fun i _ => (12 - i).toNat) ?_ _ _ ⟨u, rfl, by omega, by omega, fun _ _ => rfl, fun t ht => by rw [if_neg (by omega)]⟩
      rintro bk i x' ⟨j, rfl, hj1, hj2, m1, m2⟩ hbk
      unfold wB_X2_dropTap_21
      rw [m1 2 (by decide)]
      refine ⟨⟨rg_sm (by omega) (by omega), rg_sm (by omega) (by omega)⟩, ?_⟩
      by_cases hc : x 2 1 ≤ (j : Int) + 1
      · rw [if_pos hc]
        have hjn : j = n := by omega
        subst hjn
        unfold wX_X2_dropTap_21
        rw [eu, m1 2 (by decide)]
        intro x7 e7
        have k21 : x7 2 1 = (j : Int) := by subst e7; rw [up2_s]; omega
        rw [k21]
        have ej : ((j : Int)).toNat = j := by omega
        rw [ej]
        refine ⟨by omega, ?_⟩
        intro x9 e9
        have o9 : ∀ c, c ≠ 2 → c ≠ 3 → x9 c = x c := fun c h1 h3 => by subst e9 e7; rw [up2_row h3, up2_row h1]; exact m1 c h3
        have c21 : x9 2 1 = (j : Int) := by subst e9; rw [up2_row (by decide)]; exact k21
        have c3 : ∀ t, t < 12 → x9 3 t = if t = j then x 3 u else if u ≤ t ∧ t < j then x 3 (t + 1) else x 3 t := fun t ht => by
          subst e9
          by_cases e : t = j
          · subst e; rw [up2_s, if_pos rfl]
          · rw [up2_k 3 e, if_neg e]
            subst e7
            rw [up2_row (by decide)]
            exact m2 t ht
        -- what stands at the places of the new order
        have hidx : ∀ t, t < 12 → ∃ q, q < 12 ∧ x9 3 t = x 3 q ∧ ((t = j ∧ q = u) ∨ (t ≠ j ∧ u ≤ t ∧ t < j ∧ q = t + 1) ∨ (t ≠ j ∧ ¬ (u ≤ t ∧ t < j) ∧ q = t)) := fun t ht => by
          rw [c3 t ht]
          by_cases e : t = j
          · exact ⟨u, by omega, by rw [if_pos e], Or.inl ⟨e, rfl⟩⟩
          · rw [if_neg e]
            by_cases e2 : u ≤ t ∧ t < j
            · exact ⟨t + 1, by omega, by rw [if_pos e2], by omega⟩
            · exact ⟨t, by omega, by rw [if_neg e2], by omega⟩
        have fin : ∀ x' y' : Mm, x' 2 1 = x9 2 1 → x' 3 = x9 3 → (∀ c, 32 ≤ c → c < 56 → x' c = x9 c) → y' 60 5 = (j : Int) → (∀ t, t < j → y' 65 t = y 65 (if u ≤ t then t + 1 else t) ∧ y' 66 t = y 66 (if u ≤ t then t + 1 else t) ∧ y' 67 t = y 67 (if u ≤ t then t + 1 else t) ∧ ∀ i, i < 4 → y' 64 (4 * t + i) = y 64 (4 * (if u ≤ t then t + 1 else t) + i)) → R2 x' y' := by
          intro x' y' a1 a2 a3 a4 a5
          refine ⟨by rw [a1, c21, a4]; omega, fun t ht => ?_, fun t q ht hq e => ?_, fun t ht => ?_⟩
          · rw [a2]
            obtain ⟨q, q1, q2, q3⟩ := hidx t ht
            rw [q2]; exact T2 q q1
          · rw [a2] at e
            obtain ⟨q', q1, q2, q3⟩ := hidx t ht
            obtain ⟨p', p1, p2, p3⟩ := hidx q hq
            rw [q2, p2] at e
            have := T3 q' p' q1 p1 e
            omega
          · rw [a4] at ht
            obtain ⟨b1, b2, b3, b4⟩ := a5 t (by omega)
            have e3 : x' 3 t = x 3 (if u ≤ t then t + 1 else t) := by
              rw [a2, c3 t (by omega), if_neg (by omega)]
              by_cases e : u ≤ t
              · rw [if_pos ⟨e, by omega⟩, if_pos e]
              · rw [if_neg (by omega), if_neg e]
            rw [e3, b1, b2, b3]
            have hqb : (if u ≤ t then t + 1 else t) ≤ j := by split <;> omega
            generalize (if u ≤ t then t + 1 else t) = q at *
            have hb := T2 q (by omega)
            obtain ⟨d1, d2, d3, d4, d5, d6, d7⟩ := T4 q (by omega)
            rw [a3 _ (by omega) (by omega), a3 _ (by omega) (by omega), o9 _ (by omega) (by omega), o9 _ (by omega) (by omega)]
            have cg : ∀ i, i < 4 → (fun i => y' 64 (4 * t + i)) i = (fun i => y 64 (4 * q + i)) i := b4
            refine ⟨d1, d2, d3, d4, d5, tok_cg cg d6, fun s hs => ?_⟩
            rw [d7 s hs, Vv_cg cg]
        have hC9 : CT x9 := by
          have r2 : R2 x9 (fun c q => if c = 60 then (j : Int) else if c = 64 then y 64 (4 * (if u ≤ q / 4 then q / 4 + 1 else q / 4) + q % 4) else y c (if u ≤ q then q + 1 else q)) := by
            refine fin _ _ rfl rfl (fun _ _ _ => rfl) (by simp) (fun t ht => ⟨by simp, by simp, by simp, fun i hi => ?_⟩)
            have e1 : (4 * t + i) / 4 = t := by omega
            have e2 : (4 * t + i) % 4 = i := by omega
            simp only [e1, e2]
            simp
          exact CT_of r2
        refine s_sift hC9 (fun x10 hsw hwd => ?_)
        intro x11 e11
        obtain ⟨s1, s2, s3, s4⟩ := sift_end hsw hwd e11 hC9
        unfold w_X8_untap
        refine t_in ha ⟨by decide, by decide⟩ (rg_sm (by omega) (by omega)) (fun _ => gT ?_) (fun q => absurd (by omega) q)
        intro y4 p4
        have k5 : y4 60 5 = (j : Int) := by subst p4; rw [up2_s]; omega
        have k60 : ∀ k, k ≠ 5 → y4 60 k = y 60 k := fun k hk => by subst p4; rw [up2_k 60 hk]
        have ko : ∀ c, c ≠ 60 → y4 c = y c := fun c hc => by subst p4; rw [up2_row hc]
        -- MI q y': all places below q have the new row
        refine lk2_inv (fun i y' => ∃ q : Nat, i = (q : Int) ∧ u ≤ q ∧ q ≤ j ∧ y' 60 = y4 60 ∧ (∀ c, c ≠ 60 → c ≠ 64 → c ≠ 65 → c ≠ 66 → c ≠ 67 → y' c = y c) ∧ (∀ t, y' 65 t = (if u ≤ t ∧ t < q then y 65 (t + 1) else y 65 t) ∧ y' 66 t = (if u ≤ t ∧ t < q then y 66 (t + 1) else y 66 t) ∧ y' 67 t = (if u ≤ t ∧ t < q then y 67 (t + 1) else y 67 t)) ∧ ∀ w, y' 64 w = if 4 * u ≤ w ∧ w < 4 * q then y 64 (w + 4) else y 64 w) (fun i _ => (12 - i).toNat) ?_ _ _ ⟨u, rfl, by omega, by omega, rfl, fun c h1 _ _ _ _ => ko c h1, fun t => by rw [ko 65 (by decide), ko 66 (by decide), ko 67 (by decide), if_neg (by omega), if_neg (by omega), if_neg (by omega)]; exact ⟨rfl, rfl, rfl⟩, fun w => by rw [ko 64 (by decide), if_neg (by omega)]⟩
        rintro bk2 i2 y' ⟨q, rfl, hq1, hq2, r60, ro, r6, r64⟩ hbk2
        unfold wB_X8_untap_29
        rw [r60, k5]
        refine ⟨⟨rg_sm (by omega) (by omega), rg_sm (by omega) (by omega)⟩, ?_⟩
        by_cases hcq : (j : Int) ≤ (q : Int)
        · rw [if_pos hcq]
          have : q = j := by omega
          subst this
          unfold wX_X8_untap_29
          refine ⟨rfl, ⟨by decide, by decide⟩, ?_⟩
          refine hR.taps (fun c hc => (s1 c (by omega) (by omega) (by omega) (by omega) (by omega) (by omega)).trans (o9 c (by omega) (by omega))) (fun c hc => ro c (by omega) (by omega) (by omega) (by omega) (by omega)) (fun k hk => by rw [r60]; exact k60 k hk) ?_ s3 s4
          refine fin _ _ s2 (s1 3 (by decide) (by decide) (by decide) (by decide) (by decide) (by decide)) (fun c h1 h2 => s1 c (by omega) (by omega) (by omega) (by omega) (by omega) (by omega)) (by rw [r60]; exact k5) (fun t ht => ?_)
          obtain ⟨v1, v2, v3⟩ := r6 t
          rw [v1, v2, v3]
          by_cases e : u ≤ t
          · have hh : u ≤ t ∧ t < q := ⟨e, ht⟩
            simp only [if_pos hh, if_pos e]
            refine ⟨trivial, trivial, trivial, fun i hi => ?_⟩
            rw [r64, if_pos (by omega)]
            congr 1; omega
          · have hh : ¬ (u ≤ t ∧ t < q) := by omega
            simp only [if_neg hh, if_neg e]
            refine ⟨trivial, trivial, trivial, fun i hi => ?_⟩
            rw [r64, if_neg (by omega)]
        · rw [if_neg hcq]
          refine lk2_inv (fun i y2 => ∃ p : Nat, i = (p : Int) ∧ p ≤ 4 ∧ (∀ c, c ≠ 64 → y2 c = y' c) ∧ ∀ w, y2 64 w = if 4 * u ≤ w ∧ w < 4 * q + p then y 64 (w + 4) else y 64 w) (fun i _ => (4 - i).toNat) ?_ _ _ ⟨0, rfl, by omega, fun _ _ => rfl, r64⟩
          rintro bk3 i3 y2 ⟨p, rfl, hp, n1, n2⟩ hbk3
          unfold wB_X8_untap_39
          refine ⟨rg_sm (by omega) (by omega), ?_⟩
          by_cases hp4 : p = 4
          · subst hp4
            rw [if_pos (by omega)]
            unfold wX_X8_untap_39
            have eq : ((q : Int)).toNat = q := by omega
            have eq1 : ((q : Int) + 1).toNat = q + 1 := by omega
            rw [eq, eq1]
            refine ⟨by omega, by omega, ?_⟩
            intro y12 w12
            refine ⟨by omega, by omega, ?_⟩
            intro y15 w15
            refine ⟨by omega, by omega, ?_⟩
            intro y18 w18 v hv
            have z65 : ∀ t, y18 65 t = if t = q then y2 65 (q + 1) else y2 65 t := fun t => by subst w18 w15 w12; simp [up2]
            have z66 : ∀ t, y18 66 t = if t = q then y2 66 (q + 1) else y2 66 t := fun t => by subst w18 w15 w12; simp [up2]
            have z67 : ∀ t, y18 67 t = if t = q then y2 67 (q + 1) else y2 67 t := fun t => by subst w18 w15 w12; simp [up2]
            have zo : ∀ c, c ≠ 65 → c ≠ 66 → c ≠ 67 → y18 c = y2 c := fun c h1 h2 h3 => by subst w18 w15 w12; rw [up2_row h3, up2_row h2, up2_row h1]
            refine hbk2 _ _ ⟨q + 1, by omega, by omega, by omega, by rw [zo 60 (by decide) (by decide) (by decide), n1 60 (by decide)]; exact r60, fun c h1 h2 h3 h4 h5 => by rw [zo c h3 h4 h5, n1 c h2]; exact ro c h1 h2 h3 h4 h5, fun t => ?_, fun w => ?_⟩ (by omega)
            · rw [z65, z66, z67, n1 65 (by decide), n1 66 (by decide), n1 67 (by decide)]
              obtain ⟨v1, v2, v3⟩ := r6 t
              obtain ⟨u1, u2, u3⟩ := r6 (q + 1)
              rw [if_neg (by omega)] at u1 u2 u3
              by_cases e : t = q
              · subst e
                rw [if_pos rfl, if_pos rfl, if_pos rfl, if_pos (by omega), if_pos (by omega), if_pos (by omega)]
                exact ⟨u1, u2, u3⟩
              · rw [if_neg e, if_neg e, if_neg e, v1, v2, v3]
                by_cases e2 : u ≤ t ∧ t < q
                · rw [if_pos e2, if_pos e2, if_pos e2, if_pos (by omega), if_pos (by omega), if_pos (by omega)]
                  exact ⟨rfl, rfl, rfl⟩
                · rw [if_neg e2, if_neg e2, if_neg e2, if_neg (by omega), if_neg (by omega), if_neg (by omega)]
                  exact ⟨rfl, rfl, rfl⟩
            · rw [zo 64 (by decide) (by decide) (by decide), n2]
              by_cases e : 4 * u ≤ w ∧ w < 4 * q + 4
              · rw [if_pos e, if_pos (by omega)]
              · rw [if_neg e, if_neg (by omega)]
          · rw [if_neg (by omega)]
            have q1 : (4 * (q : Int) + 4 + (p : Int)).toNat = 4 * q + p + 4 := by omega
            have q2 : (4 * (q : Int) + (p : Int)).toNat = 4 * q + p := by omega
            rw [q1, q2]
            refine ⟨by omega, by omega, ?_⟩
            intro y23 w23 v hv
            refine hbk3 _ _ ⟨p + 1, by omega, by omega, fun c hc => by subst w23; rw [up2_row hc]; exact n1 c hc, fun w => ?_⟩ (by omega)
            subst w23
            by_cases e : w = 4 * q + p
            · subst e
              rw [up2_s, if_pos (by omega), n2, if_neg (by omega)]
            · rw [up2_k 64 e, n2]
              by_cases e2 : 4 * u ≤ w ∧ w < 4 * q + p
              · rw [if_pos e2, if_pos (by omega)]
              · rw [if_neg e2, if_neg (by omega)]
      · rw [if_neg hc]
        have ej : ((j : Int) + 1).toNat = j + 1 := by omega
        have ej0 : ((j : Int)).toNat = j := by omega
        rw [ej, ej0]
        have hj12 : j + 1 < 12 := by omega
        have hv := m2 (j + 1) hj12
        rw [if_neg (by omega)] at hv
        rw [hv]
        refine ⟨by omega, T2 (j + 1) hj12, by omega, ?_⟩
        intro x15 e15 v hvv
        refine hbk _ _ ⟨j + 1, by omega, by omega, by omega, fun c hcc => by subst e15; rw [up2_row hcc]; exact m1 c hcc, fun t ht => ?_⟩ (by omega)
        subst e15
        by_cases e : t = j
        · subst e; rw [up2_s, if_pos (by omega)]
        · rw [up2_k 3 e, m2 t ht]
          by_cases e2 : u ≤ t ∧ t < j
          · rw [if_pos e2, if_pos (by omega)]
          · rw [if_neg e2, if_neg (by omega)]
    · exact bad (by omega)
/-- the model's woods -/
def ML (f : Int → Int → Bool) (y : Mm) (n : Nat) : Prop := y 60 15 = ((fl f n).length : Int) ∧ ∀ i, i < (fl f n).length → y 72 i = (((fl f n).getD i 0 : Nat) : Int)
def fwO (y y' : Mm) : Prop := (∀ c, c ≠ 60 → c ≠ 71 → c ≠ 72 → y' c = y c) ∧ ∀ k, k ≠ 15 → y' 60 k = y 60 k
theorem fwO.sc {y y' : Mm} (h : fwO y y') : scM y y' := ⟨fun c a b d _ _ => h.1 c a b d, fun k a _ => h.2 k a⟩
theorem s_findWoods {x y : Mm} {post : Mm → Prop} (h2 : R2 x y) (h : ∀ y' : Mm, fwO y y' → ML (cft x) y' 81 → post y') : w_X8_findWoods y post := by
  obtain ⟨T1, T2, T3, T4⟩ := id h2
  unfold w_X8_findWoods
  intro y1 e1
  have o1 : fwO y y1 := ⟨fun c a b d => by subst e1; rw [up2_row a], fun k hk => by subst e1; rw [up2_k 60 hk]⟩
  refine lk2_inv (fun u y' => ∃ n : Nat, u = (n : Int) ∧ n ≤ 81 ∧ fwO y y' ∧ ML (cft x) y' n) (fun u _ => (81 - u).toNat) ?_ _ _ ⟨0, rfl, by omega, o1, by subst e1; rw [up2_s]; rfl, fun i hi => by exact absurd hi (Nat.not_lt_zero _)⟩
  rintro bk u y' ⟨n, rfl, hn, ho, hM⟩ hbk
  unfold wB_X8_findWoods_7
  refine ⟨rg_sm (by omega) (by omega), ?_⟩
  by_cases hn81 : n = 81
  · subst hn81
    rw [if_pos (by omega)]
    exact h y' ho hM
  · rw [if_neg (by omega)]
    have hs : sok (1 + ((n / 9 : Nat) : Int)) := ⟨by omega, by omega⟩
    have hw : sok (1 + ((n % 9 : Nat) : Int)) := ⟨by omega, by omega⟩
    refine lk3_inv (fun is t y2 => ∃ j : Nat, t = (j : Int) ∧ (j : Int) ≤ y 60 5 ∧ fwO y y2 ∧ ML (cft x) y2 n ∧ ((is = 1 ∧ ∀ q : Nat, q < j → tpc x q (1 + ((n / 9 : Nat) : Int)) (1 + ((n % 9 : Nat) : Int))) ∨ (is = 0 ∧ ∃ q : Nat, (q : Int) < y 60 5 ∧ ¬ tpc x q (1 + ((n / 9 : Nat) : Int)) (1 + ((n % 9 : Nat) : Int))))) (fun _ t _ => (13 - t).toNat) ?_ _ _ _ ⟨0, rfl, by omega, ho, hM, Or.inl ⟨rfl, fun q hq => by omega⟩⟩
    rintro bk2 is t y2 ⟨j, rfl, hj, ho2, hM2, hI⟩ hbk2
    have e605 : y2 60 5 = y 60 5 := ho2.2 5 (by decide)
    have fin : (y 60 5 ≤ (j : Int) ∨ is = 0) → wX_X8_findWoods_17 (n : Int) bk is (j : Int) y2 := by
      intro hor
      unfold wX_X8_findWoods_17
      refine ⟨by rcases hI with z | z <;> exact rg_sm (by omega) (by omega), ?_⟩
      by_cases his : is = 0
      · rw [if_pos his]
        intro v hv
        have hf : fu (cft x) n = false := by
          unfold fu
          rw [← Bool.not_eq_true, cft_iff]
          intro z
          rcases hI with q | ⟨-, q, q1, q2⟩
          · omega
          · exact q2 (z q (by omega))
        clear hI
        refine hbk _ _ ⟨n + 1, by omega, by omega, ho2, ?_⟩ (by omega)
        unfold ML
        rw [fl_s, hf]
        exact hM2
      · rw [if_neg his]
        have hf : fu (cft x) n = true := by
          unfold fu
          rw [cft_iff]
          intro q hq
          rcases hI with z | z
          · exact z.2 q (by omega)
          · exact absurd z.1 his
        have hlen := fl_len (cft x) n
        have hl := hM2.1
        refine ⟨by omega, ?_⟩
        intro y11 e11
        have k11 : y11 60 = y2 60 := by subst e11; rw [up2_row (by decide)]
        rw [k11]
        intro y12 e12 v hv
        refine hbk _ _ ⟨n + 1, by omega, by omega, ⟨fun c a b d => by subst e12 e11; rw [up2_row a, up2_row d]; exact ho2.1 c a b d, fun k hk => by subst e12; rw [up2_k 60 hk, k11]; exact ho2.2 k hk⟩, ?_⟩ (by omega)
        unfold ML
        rw [fl_s, if_pos hf]
        obtain ⟨g1, g2⟩ := hM2
        generalize fl (cft x) n = l at g1 g2 hl hlen ⊢
        have el : (y2 60 15).toNat = l.length := by omega
        rw [el] at e11
        refine ⟨by subst e12; rw [up2_s, g1]; simp, fun i hi => ?_⟩
        have e72 : y12 72 i = if i = l.length then (n : Int) else y2 72 i := by subst e12 e11; simp [up2]
        rw [e72]
        by_cases q : i = l.length
        · subst q
          rw [if_pos rfl]
          simp [List.getD]
        · have hi' : i < l.length := by simp at hi; omega
          rw [if_neg q, g2 i hi']
          simp [List.getD, List.getElem?_append_left hi']
    unfold wB_X8_findWoods_17
    rw [e605]
    refine ⟨⟨rg_sm (by omega) (by omega), rg_sm (by omega) (by omega)⟩, ?_⟩
    by_cases hc : y 60 5 ≤ (j : Int)
    · rw [if_pos hc]
      exact fin (Or.inl hc)
    · rw [if_neg hc]
      refine ⟨by rcases hI with z | z <;> exact rg_sm (by omega) (by omega), ?_⟩
      by_cases his : is = 0
      · rw [if_pos his]
        exact fin (Or.inr his)
      · rw [if_neg his]
        have hall : ∀ q : Nat, q < j → tpc x q (1 + ((n / 9 : Nat) : Int)) (1 + ((n % 9 : Nat) : Int)) := by
          rcases hI with z | z
          · exact z.2
          · exact absurd z.1 his
        refine s_take (by decide) (by omega) (by have : al 64 = 48 := rfl; rw [this]; omega) (fun y3 f1 f2 => ?_)
        have ej : ((j : Int)).toNat = j := by omega
        have o3 : ∀ c, c ≠ 60 → c ≠ 71 → c ≠ 72 → y3 c = y c := fun c a b d => (f2 c b).trans (ho2.1 c a b d)
        rw [ej, o3 65 (by decide) (by decide) (by decide), o3 66 (by decide) (by decide) (by decide), o3 67 (by decide) (by decide) (by decide)]
        obtain ⟨d1, d2, d3, d4, d5, d6, d7⟩ := T4 j (by omega)
        have en9 : (n : Int) / 9 = ((n / 9 : Nat) : Int) := by omega
        have en9' : (n : Int) % 9 = ((n % 9 : Nat) : Int) := by omega
        rw [en9, en9']
        refine ⟨⟨rg_sm (by omega) (by omega), by omega⟩, ⟨rg_sm (by omega) (by omega), by omega⟩, by omega, by omega, by omega, ?_⟩
        have cg : ∀ i, i < 4 → y3 71 i = (fun k => y 64 (4 * j + k)) i := fun i hi => by
          rw [f1 i hi, ej, ho2.1 64 (by decide) (by decide) (by decide)]
        refine s_lies (tok_cg cg d6) hs hw d5 d3 d4 ?_
        rw [Vv_cg cg]
        intro v hv
        have hb := T2 j (by omega)
        have htp : tpc x j (1 + ((n / 9 : Nat) : Int)) (1 + ((n % 9 : Nat) : Int)) ↔ (y 66 j ≤ Vv (fun k => y 64 (4 * j + k)) (1 + ((n / 9 : Nat) : Int)) (y 65 j) / (1 + ((n % 9 : Nat) : Int)) ∧ Vv (fun k => y 64 (4 * j + k)) (1 + ((n / 9 : Nat) : Int)) (y 65 j) / (1 + ((n % 9 : Nat) : Int)) ≤ y 67 j) := by
          unfold tpc
          rw [d1, d2, d7 _ hs]
        have ho3 : fwO y y3 := ⟨o3, fun k hk => by rw [f2 60 (by decide)]; exact ho2.2 k hk⟩
        have hM3 : ML (cft x) y3 n := by unfold ML; rw [f2 60 (by decide), f2 72 (by decide)]; exact hM2
        refine hbk2 _ _ _ ⟨j + 1, by omega, by omega, ho3, hM3, ?_⟩ (by omega)
        by_cases q : tpc x j (1 + ((n / 9 : Nat) : Int)) (1 + ((n % 9 : Nat) : Int))
        · left
          refine ⟨by rw [if_pos (htp.mp q)], fun p hp => ?_⟩
          by_cases e : p = j
          · subst e; exact q
          · exact hall p (by omega)
        · right
          exact ⟨by rw [if_neg (fun z => q (htp.mpr z))], j, by omega, q⟩
theorem sim_woods {x y : Mm} (hR : Rel x y) : w_X7_woods x (fun r x' => w_X8_woods y (Sm x' r)) := by
  have hl := hR.2.2.2.1.1.1
  have hlen := fl_len (cft x) 81
  refine s_findWoods hR.2.2.1 (fun y' ho hM => ?_)
  exact ⟨hl.trans hM.1.symm, rg_sm (by omega) (by omega), hR.sc (scC.rf x) ho.sc⟩
theorem sim_wood {x y : Mm} {a b : Int} (hR : Rel x y) (ha : rg a) (hb : rg b) : w_X7_wood a b x (fun r x' => w_X8_wood a b y (Sm x' r)) := by
  have hl := hR.2.2.2.1.1
  have hlen := fl_len (cft x) 81
  have bad1 : ¬ (0 ≤ a ∧ a < x 2 4) → w_X8_wood a b y (Sm x (-2)) := fun h => by
    refine s_findWoods hR.2.2.1 (fun y' ho hM => ?_)
    have := hM.1
    have := hl.1
    exact t_in ha ⟨by decide, by decide⟩ (rg_sm (by omega) (by omega)) (fun q => absurd (by omega) h) (fun _ => gF ⟨rfl, rgm.2.1, hR.sc (scC.rf x) ho.sc⟩)
  unfold w_X7_wood
  refine ⟨ha, ?_⟩
  split
  · exact bad1 (by omega)
  · have := hl.1
    refine ⟨⟨ha, rg_sm (by omega) (by omega)⟩, ?_⟩
    split
    · exact bad1 (by omega)
    · refine t_isOneOfTwo hb (fun g1 => gT ?_) (fun g1 => gF ?_)
      · obtain ⟨i, rfl⟩ : ∃ i : Nat, a = (i : Int) := ⟨a.toNat, by omega⟩
        have ei : ((i : Int)).toNat = i := by omega
        rw [ei]
        have hi : i < (fl (cft x) 81).length := by omega
        have hg := hl.2 i hi
        have hgb := (fl_get hi).1
        have go : ∀ r : Int, (b = 0 → r = x 4 i) → (b = 1 → r = x 5 i) → w_X8_wood (i : Int) b y (Sm x r) := by
          intro r r0 r1
          refine s_findWoods hR.2.2.1 (fun y' ho hM => ?_)
          have hM1 := hM.1
          have hM2 := hM.2 i hi
          refine t_in ha ⟨by decide, by decide⟩ (rg_sm (by omega) (by omega)) (fun _ => gT ?_) (fun q => absurd (by omega) q)
          refine t_in hb ⟨by decide, by decide⟩ ⟨by decide, by decide⟩ (fun _ => gT ?_) (fun q => absurd (by omega) q)
          refine ⟨hb, ?_⟩
          rw [ei, hM2]
          split
          · rename_i q
            refine ⟨by omega, ⟨rg_sm (by omega) (by omega), by omega⟩, ?_, rg_sm (by have := r0 q; omega) (by have := r0 q; omega), hR.sc (scC.rf x) ho.sc⟩
            have := r0 q
            omega
          · refine ⟨by omega, ⟨rg_sm (by omega) (by omega), by omega⟩, ?_, rg_sm (by have := r1 (by omega); omega) (by have := r1 (by omega); omega), hR.sc (scC.rf x) ho.sc⟩
            have := r1 (by omega)
            omega
        refine ⟨hb, ?_⟩
        split
        · exact ⟨by omega, go _ (fun _ => rfl) (fun q => by omega)⟩
        · exact ⟨by omega, go _ (fun q => by omega) (fun _ => rfl)⟩
      · refine s_findWoods hR.2.2.1 (fun y' ho hM => ?_)
        have := hM.1
        refine t_in ha ⟨by decide, by decide⟩ (rg_sm (by omega) (by omega)) (fun _ => gT ?_) (fun q => absurd (by omega) q)
        exact t_in hb ⟨by decide, by decide⟩ ⟨by decide, by decide⟩ (fun q => absurd (by omega) g1) (fun _ => gF ⟨rfl, rgm.2.1, hR.sc (scC.rf x) ho.sc⟩)
