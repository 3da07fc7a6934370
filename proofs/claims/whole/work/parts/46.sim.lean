/-! SPANS, THE NEXT TAP, PAIRS -/
def tw (t : Nat → Int) (k : Int) (u : Nat) : Int := Vv t (1 + ((u / 9 : Nat) : Int)) k / (1 + ((u % 9 : Nat) : Int))
theorem tw_bd {t : Nat → Int} {k : Int} {u : Nat} (ht : tok t) (hk : 0 ≤ k) (hu : u < 81) : 0 ≤ tw t k u ∧ tw t k u ≤ 364 := by
  have hs : sok (1 + ((u / 9 : Nat) : Int)) := ⟨by omega, by omega⟩
  have hw : sok (1 + ((u % 9 : Nat) : Int)) := ⟨by omega, by omega⟩
  have hV := Vv_bd ht hs hk
  unfold tw
  have h1 : 0 ≤ Vv t (1 + ((u / 9 : Nat) : Int)) k / (1 + ((u % 9 : Nat) : Int)) := Int.ediv_nonneg hV.1 (by omega)
  have h2 : Vv t (1 + ((u / 9 : Nat) : Int)) k / (1 + ((u % 9 : Nat) : Int)) ≤ Vv t (1 + ((u / 9 : Nat) : Int)) k := Int.ediv_le_self _ hV.1
  omega
theorem tw_cg {t u : Nat → Int} (h : ∀ k, k < 4 → u k = t k) : tw u = tw t := by
  funext k w
  unfold tw
  rw [Vv_cg h]
theorem s_toneBy {f : Int → Int → Bool} {y : Mm} {i : Nat} {k : Int} {post : Int → Mm → Prop} (hM : ML f y 81) (hi : i < (fl f 81).length) (ht : tok (y 71)) (hk : 0 ≤ k ∧ k < 4) (h : post (tw (y 71) k ((fl f 81).getD i 0)) y) : w_X8_toneBy (i : Int) k y post := by
  have hlen := fl_len f 81
  have hg := (fl_get hi).1
  have h2 := hM.2 i hi
  unfold w_X8_toneBy
  have ei : ((i : Int)).toNat = i := by omega
  rw [ei, h2]
  generalize (fl f 81).getD i 0 = u at *
  refine ⟨by omega, ⟨rg_sm (by omega) (by omega), by omega⟩, by omega, ⟨rg_sm (by omega) (by omega), by omega⟩, ?_⟩
  have e1 : (u : Int) / 9 = ((u / 9 : Nat) : Int) := by omega
  have e2 : (u : Int) % 9 = ((u % 9 : Nat) : Int) := by omega
  rw [e1, e2]
  exact s_toneOf ht ⟨by omega, by omega⟩ ⟨by omega, by omega⟩ hk h
theorem s_toneOfLeft {f : Int → Int → Bool} {x : Mm} {t : Nat → Int} {c1 i : Nat} {k : Int} {post : Int → Mm → Prop} (hL : LI f x 81) (hi : i < (fl f 81).length) (hv : ∀ s : Int, sok s → x c1 s.toNat = Vv t s k) (ht : tok t) (hk : 0 ≤ k) (h : post (tw t k ((fl f 81).getD i 0)) x) : w_X2_toneOfLeft c1 (i : Int) x post := by
  have hlen := fl_len f 81
  have hg := (fl_get hi).1
  have h2 := hL.2 i hi
  unfold w_X2_toneOfLeft
  have ei : ((i : Int)).toNat = i := by omega
  rw [ei, h2.1, h2.2]
  generalize (fl f 81).getD i 0 = u at *
  have hs : sok (1 + ((u / 9 : Nat) : Int)) := ⟨by omega, by omega⟩
  have hV := Vv_bd ht hs hk
  refine ⟨by omega, by omega, by omega, ?_⟩
  rw [hv _ hs]
  exact s_byWeight ⟨hV.1, by omega⟩ ⟨by omega, by omega⟩ h
/-- the tones by the woods left -/
def vals (f : Int → Int → Bool) (t : Nat → Int) (k v : Int) : Prop := ∃ s w : Int, sok s ∧ sok w ∧ f s w = true ∧ v = Vv t s k / w
theorem vals_i {f : Int → Int → Bool} {t : Nat → Int} {k : Int} {i : Nat} (hi : i < (fl f 81).length) : vals f t k (tw t k ((fl f 81).getD i 0)) := by
  have hg := fl_get hi
  generalize (fl f 81).getD i 0 = u at *
  exact ⟨_, _, ⟨by omega, by omega⟩, ⟨by omega, by omega⟩, hg.2, rfl⟩
theorem vals_of {f : Int → Int → Bool} {t : Nat → Int} {k v : Int} (h : vals f t k v) : ∃ i, i < (fl f 81).length ∧ v = tw t k ((fl f 81).getD i 0) := by
  obtain ⟨s, w, hs, hw, hf, rfl⟩ := h
  have a := hs.1; have b := hs.2; have c := hw.1; have d := hw.2
  have hu : fu f (9 * (s.toNat - 1) + (w.toNat - 1)) = true := by rw [fu_of hs hw]; exact hf
  obtain ⟨i, hi, e⟩ := fl_idx (n := 81) (by omega) hu
  refine ⟨i, hi, ?_⟩
  rw [e]
  unfold tw
  have e1 : (1 : Int) + (((9 * (s.toNat - 1) + (w.toNat - 1)) / 9 : Nat) : Int) = s := by omega
  have e2 : (1 : Int) + (((9 * (s.toNat - 1) + (w.toNat - 1)) % 9 : Nat) : Int) = w := by omega
  rw [e1, e2]
theorem div_mono {a b c d : Int} (h0 : 0 ≤ a) (h1 : a ≤ b) (hd : 0 < d) (h2 : d ≤ c) : a / c ≤ b / d := by
  have h3 : a / c ≤ a / d := by
    apply (Int.le_ediv_iff_mul_le hd).mpr
    have h4 : 0 ≤ a / c := Int.ediv_nonneg h0 (by omega)
    have h5 : a / c * d ≤ a / c * c := Int.mul_le_mul_of_nonneg_left h2 h4
    have h6 : a / c * c ≤ a := Int.ediv_mul_le a (by omega)
    omega
  have h4 : a / d ≤ b / d := Int.ediv_le_ediv hd h1
  omega
def isL (P : Int → Prop) (r : Int) : Prop := P r ∧ ∀ v, P v → r ≤ v
def isG (P : Int → Prop) (r : Int) : Prop := P r ∧ ∀ v, P v → v ≤ r
theorem s_leastTone {f : Int → Int → Bool} {x : Mm} {t : Nat → Int} {c1 : Nat} {k : Int} {post : Int → Mm → Prop} (hW : WD f x) (hne : 0 < (fl f 81).length) (hv : ∀ s : Int, sok s → x c1 s.toNat = Vv t s k) (ht : tok t) (hk : 0 ≤ k ∧ k < 4) (h : ∀ r, isL (vals f t k) r → post r x) : w_X2_leastTone c1 x post := by
  obtain ⟨hL, hP, hdom⟩ := hW
  unfold w_X2_leastTone
  refine lk3_inv (fun b s x' => x' = x ∧ (1 ≤ s ∧ s ≤ 10) ∧ ((b = 512 ∧ ∀ r : Int, 1 ≤ r → r < s → x 6 r.toNat ≤ 0) ∨ ∃ r : Int, sok r ∧ 0 < x 6 r.toNat ∧ b = Vv t r k / x 6 r.toNat) ∧ ∀ r : Int, 1 ≤ r → r < s → 0 < x 6 r.toNat → b ≤ Vv t r k / x 6 r.toNat) (fun _ s _ => (10 - s).toNat) ?_ _ _ _ ⟨rfl, by omega, Or.inl ⟨rfl, fun r h1 h2 => by omega⟩, fun r h1 h2 => by omega⟩
  rintro bk b s x' ⟨rfl, hs, hb, hle⟩ hbk
  unfold wB_X2_leastTone_6
  refine ⟨rg_sm (by omega) (by omega), ?_⟩
  by_cases h9 : 9 < s
  · rw [if_pos h9]
    unfold wX_X2_leastTone_6
    refine h b ⟨?_, fun v hvv => ?_⟩
    · rcases hb with ⟨-, hz⟩ | ⟨r, r1, r2, r3⟩
      · exfalso
        obtain ⟨s1, w1, g1, g2, g3, g4⟩ := vals_i (f := f) (t := t) (k := k) hne
        obtain ⟨⟨r, p1, p2, p3⟩, -⟩ := hdom s1 w1 g1 g2 g3
        have := hz r p1.1 (by have := p1.2; omega)
        have := g2.1
        omega
      · have hp := (hP r r1).1
        rcases hp with z | z
        · omega
        · exact ⟨r, _, r1, z.1, z.2, r3⟩
    · obtain ⟨s1, w1, g1, g2, g3, rfl⟩ := hvv
      obtain ⟨⟨r, p1, p2, p3⟩, -⟩ := hdom s1 w1 g1 g2 g3
      have hw1 := g2.1
      have a1 := hle r p1.1 (by have := p1.2; omega) (by omega)
      have a2 := Vv_mono ht p1 g1 p2 hk.1 hk.2
      have a3 := (Vv_bd ht p1 hk.1).1
      have a4 := div_mono a3 a2 (show (0 : Int) < w1 by omega) p3
      omega
  · rw [if_neg h9]
    have hss : sok s := ⟨by omega, by omega⟩
    have hrb := RP_bd (hP s hss)
    refine ⟨by omega, rg_sm (by omega) (by omega), ?_⟩
    by_cases hz : x' 6 s.toNat ≤ 0
    · rw [if_pos hz]
      intro v hvv
      refine hbk _ _ _ ⟨rfl, by omega, ?_, fun r h1 h2 h3 => ?_⟩ (by omega)
      · rcases hb with ⟨z1, z2⟩ | z
        · left
          refine ⟨z1, fun r h1 h2 => ?_⟩
          by_cases e : r = s
          · subst e; exact hz
          · exact z2 r h1 (by omega)
        · exact Or.inr z
      · by_cases e : r = s
        · subst e; omega
        · exact hle r h1 (by omega) h3
    · rw [if_neg hz]
      have hV := Vv_bd ht hss hk.1
      have hsw : sok (x' 6 s.toNat) := ⟨by omega, by omega⟩
      have hdb := div_bd (v := Vv t s k) ⟨hV.1, by omega⟩ hsw
      have hdq : Vv t s k / x' 6 s.toNat ≤ Vv t s k := Int.ediv_le_self _ hV.1
      refine ⟨by omega, by omega, ?_⟩
      rw [hv s hss]
      refine s_byWeight ⟨hV.1, by omega⟩ hsw ?_
      have hbr : rg b := by
        rcases hb with ⟨z, -⟩ | ⟨r, r1, r2, r3⟩
        · rw [z]; exact ⟨by decide, by decide⟩
        · have hp := (hP r r1).1
          rcases hp with z | z
          · omega
          · have hV2 := Vv_bd ht r1 hk.1
            have := div_bd (v := Vv t r k) ⟨hV2.1, by omega⟩ z.1
            exact rg_sm (by omega) (by omega)
      refine ⟨⟨hbr, rg_sm (by omega) (by omega)⟩, ?_⟩
      intro b2 hb2 v hvv
      refine hbk _ _ _ ⟨rfl, by omega, ?_, fun r h1 h2 h3 => ?_⟩ (by omega)
      · right
        by_cases e : b ≤ Vv t s k / x' 6 s.toNat
        · rcases hb with ⟨z, z2⟩ | ⟨r, r1, r2, r3⟩
          · exact ⟨s, hss, by omega, by rw [hb2]; omega⟩
          · exact ⟨r, r1, r2, by rw [hb2, ← r3]; omega⟩
        · exact ⟨s, hss, by omega, by rw [hb2]; omega⟩
      · rw [hb2]
        by_cases e : r = s
        · subst e; omega
        · have := hle r h1 (by omega) h3
          omega
theorem s_greatestTone {f : Int → Int → Bool} {x : Mm} {t : Nat → Int} {c1 : Nat} {k : Int} {post : Int → Mm → Prop} (hW : WD f x) (hne : 0 < (fl f 81).length) (hv : ∀ s : Int, sok s → x c1 s.toNat = Vv t s k) (ht : tok t) (hk : 0 ≤ k ∧ k < 4) (h : ∀ r, isG (vals f t k) r → post r x) : w_X2_greatestTone c1 x post := by
  obtain ⟨hL, hP, hdom⟩ := hW
  unfold w_X2_greatestTone
  refine lk3_inv (fun b s x' => x' = x ∧ (1 ≤ s ∧ s ≤ 10) ∧ ((b = 0 ∧ ∀ r : Int, 1 ≤ r → r < s → x 7 r.toNat ≤ 0) ∨ ∃ r : Int, sok r ∧ 0 < x 7 r.toNat ∧ b = Vv t r k / x 7 r.toNat) ∧ ∀ r : Int, 1 ≤ r → r < s → 0 < x 7 r.toNat → Vv t r k / x 7 r.toNat ≤ b) (fun _ s _ => (10 - s).toNat) ?_ _ _ _ ⟨rfl, by omega, Or.inl ⟨rfl, fun r h1 h2 => by omega⟩, fun r h1 h2 => by omega⟩
  rintro bk b s x' ⟨rfl, hs, hb, hle⟩ hbk
  unfold wB_X2_greatestTone_4
  refine ⟨rg_sm (by omega) (by omega), ?_⟩
  by_cases h9 : 9 < s
  · rw [if_pos h9]
    unfold wX_X2_greatestTone_4
    refine h b ⟨?_, fun v hvv => ?_⟩
    · rcases hb with ⟨-, hz⟩ | ⟨r, r1, r2, r3⟩
      · exfalso
        obtain ⟨s1, w1, g1, g2, g3, g4⟩ := vals_i (f := f) (t := t) (k := k) hne
        obtain ⟨-, ⟨r, p1, p2, p3, p4⟩⟩ := hdom s1 w1 g1 g2 g3
        have := hz r p1.1 (by have := p1.2; omega)
        omega
      · have hp := (hP r r1).2
        rcases hp with z | z
        · omega
        · exact ⟨r, _, r1, z.1, z.2, r3⟩
    · obtain ⟨s1, w1, g1, g2, g3, rfl⟩ := hvv
      obtain ⟨-, ⟨r, p1, p2, p3, p4⟩⟩ := hdom s1 w1 g1 g2 g3
      have a1 := hle r p1.1 (by have := p1.2; omega) (by omega)
      have a2 := Vv_mono ht g1 p1 p2 hk.1 hk.2
      have a3 := (Vv_bd ht g1 hk.1).1
      have a4 := div_mono a3 a2 p3 p4
      omega
  · rw [if_neg h9]
    have hss : sok s := ⟨by omega, by omega⟩
    have hrb := RP_bd (hP s hss)
    refine ⟨by omega, rg_sm (by omega) (by omega), ?_⟩
    by_cases hz : x' 7 s.toNat ≤ 0
    · rw [if_pos hz]
      intro v hvv
      refine hbk _ _ _ ⟨rfl, by omega, ?_, fun r h1 h2 h3 => ?_⟩ (by omega)
      · rcases hb with ⟨z1, z2⟩ | z
        · left
          refine ⟨z1, fun r h1 h2 => ?_⟩
          by_cases e : r = s
          · subst e; exact hz
          · exact z2 r h1 (by omega)
        · exact Or.inr z
      · by_cases e : r = s
        · subst e; omega
        · exact hle r h1 (by omega) h3
    · rw [if_neg hz]
      have hV := Vv_bd ht hss hk.1
      have hsw : sok (x' 7 s.toNat) := ⟨by omega, by omega⟩
      have hdb := div_bd (v := Vv t s k) ⟨hV.1, by omega⟩ hsw
      refine ⟨by omega, by omega, ?_⟩
      rw [hv s hss]
      refine s_byWeight ⟨hV.1, by omega⟩ hsw ?_
      have hbr : 0 ≤ b ∧ rg b := by
        rcases hb with ⟨z, -⟩ | ⟨r, r1, r2, r3⟩
        · rw [z]; exact ⟨by decide, by decide, by decide⟩
        · have hp := (hP r r1).2
          rcases hp with z | z
          · omega
          · have hV2 := Vv_bd ht r1 hk.1
            have := div_bd (v := Vv t r k) ⟨hV2.1, by omega⟩ z.1
            exact ⟨by omega, rg_sm (by omega) (by omega)⟩
      refine ⟨⟨hbr.2, rg_sm (by omega) (by omega)⟩, ?_⟩
      intro b2 hb2 v hvv
      refine hbk _ _ _ ⟨rfl, by omega, ?_, fun r h1 h2 h3 => ?_⟩ (by omega)
      · right
        by_cases e : Vv t s k / x' 7 s.toNat ≤ b
        · rcases hb with ⟨z, z2⟩ | ⟨r, r1, r2, r3⟩
          · exact ⟨s, hss, by omega, by rw [hb2]; omega⟩
          · exact ⟨r, r1, r2, by rw [hb2, ← r3]; omega⟩
        · exact ⟨s, hss, by omega, by rw [hb2]; omega⟩
      · rw [hb2]
        by_cases e : r = s
        · subst e; omega
        · have := hle r h1 (by omega) h3
          omega
theorem scC18 {x x' : Mm} (h : ∀ c, c ≠ 18 → x' c = x c) : scC x x' := fun c _ _ _ h1 _ => h c h1
theorem WD_sc {f : Int → Int → Bool} {x x' : Mm} (h : WD f x) (hs : scC x x') : WD f x' := WD_c h (by rw [hs 2 (by decide) (by decide) (by decide) (by decide) (by decide)]) (hs 4 (by decide) (by decide) (by decide) (by decide) (by decide)) (hs 5 (by decide) (by decide) (by decide) (by decide) (by decide)) (hs 6 (by decide) (by decide) (by decide) (by decide) (by decide)) (hs 7 (by decide) (by decide) (by decide) (by decide) (by decide))
/-- the model's rows behind findWoods and take -/
theorem ML_71 {f : Int → Int → Bool} {y y' : Mm} {n : Nat} (h : ML f y n) (ho : ∀ c, c ≠ 71 → y' c = y c) : ML f y' n := by unfold ML; rw [ho 60 (by decide), ho 72 (by decide)]; exact h
theorem sim_span {x y : Mm} {a k w : Int} (hR : Rel x y) (ha : rg a) (hk : rg k) (hw : rg w) : w_X7_span a k w x (fun r x' => w_X8_span a k w y (Sm x' r)) := by
  have hn := hR.n
  have hl := hR.2.2.2.1.1.1
  have hlen := fl_len (cft x) 81
  unfold w_X7_span w_X8_span
  refine t_isPlate ha hR.rn (fun g1 => gT ?_) (fun g1 => gF ?_)
  · refine t_isTone hk (fun g2 => gT ?_) (fun g2 => gF ?_)
    · refine t_isOneOfTwo hw (fun g3 => gT ?_) (fun g3 => gF ?_)
      · refine ⟨rg_sm (by omega) (by omega), ?_⟩
        have toM : ∀ {P : Int → Mm → Prop}, w_X8_findWoods y (fun x_10 => rg (x_10 60 15) ∧ (if (x_10 60 15) = 0 then (P (-3) x_10) else (w_X8_take 61 a x_10 (fun x_12 => w_X8_toneBy 0 k x_12 (fun z_14 x_13 => ∃ n : Nat, lk3 (wB_X8_span_61 k w (wX_X8_span_61 P)) n z_14 1 x_13))))) → w_X8_isPlate a y (fun z_2 x_1 => rg z_2 ∧ (if z_2 = 0 then (P (-2) x_1) else (w_X8_isFour k x_1 (fun z_5 x_4 => rg z_5 ∧ (if z_5 = 0 then (P (-2) x_4) else (w_X8_in w 0 1 x_4 (fun z_8 x_7 => rg z_8 ∧ (if z_8 = 0 then (P (-2) x_7) else (w_X8_findWoods x_7 (fun x_10 => rg (x_10 60 15) ∧ (if (x_10 60 15) = 0 then (P (-3) x_10) else (w_X8_take 61 a x_10 (fun x_12 => w_X8_toneBy 0 k x_12 (fun z_14 x_13 => ∃ n : Nat, lk3 (wB_X8_span_61 k w (wX_X8_span_61 P)) n z_14 1 x_13)))))))))))))) := fun hP => by
          refine t_isPlateM ha hn.2 (fun _ => gT ?_) (fun q => absurd (by omega) q)
          refine t_isFour hk (fun _ => gT ?_) (fun q => absurd g2 q)
          exact t_in hw ⟨by decide, by decide⟩ ⟨by decide, by decide⟩ (fun _ => gT hP) (fun q => absurd (by omega) q)
        by_cases h0 : x 2 4 = 0
        · rw [if_pos h0]
          refine toM ?_
          refine s_findWoods hR.2.2.1 (fun y' ho hM => ?_)
          have := hM.1
          refine ⟨rg_sm (by omega) (by omega), ?_⟩
          rw [if_pos (by omega)]
          exact ⟨rfl, rgm.2.2.1, hR.sc (scC.rf x) ho.sc⟩
        · rw [if_neg h0]
          have hne : 0 < (fl (cft x) 81).length := by omega
          obtain ⟨ht, he⟩ := hR.st (a := a) (by omega)
          refine ⟨by omega, ?_⟩
          refine s_fillWholeValues (by omega) ht g2 (fun x2 f1 f2 => ?_)
          have hsc := scC18 f2
          refine ⟨hw, ?_⟩
          have mod : ∀ r, ((w = 0 ∧ isL (vals (cft x) (x (20 + 3 * a.toNat + 1)) k) r) ∨ (w = 1 ∧ isG (vals (cft x) (x (20 + 3 * a.toNat + 1)) k) r)) → w_X8_isPlate a y (fun z_2 x_1 => rg z_2 ∧ (if z_2 = 0 then (Sm x2 r (-2) x_1) else (w_X8_isFour k x_1 (fun z_5 x_4 => rg z_5 ∧ (if z_5 = 0 then (Sm x2 r (-2) x_4) else (w_X8_in w 0 1 x_4 (fun z_8 x_7 => rg z_8 ∧ (if z_8 = 0 then (Sm x2 r (-2) x_7) else (w_X8_findWoods x_7 (fun x_10 => rg (x_10 60 15) ∧ (if (x_10 60 15) = 0 then (Sm x2 r (-3) x_10) else (w_X8_take 61 a x_10 (fun x_12 => w_X8_toneBy 0 k x_12 (fun z_14 x_13 => ∃ n : Nat, lk3 (wB_X8_span_61 k w (wX_X8_span_61 (Sm x2 r))) n z_14 1 x_13)))))))))))))) := by
            intro r hr
            refine toM ?_
            refine s_findWoods hR.2.2.1 (fun y1 ho hM => ?_)
            have hM1 := hM.1
            refine ⟨rg_sm (by omega) (by omega), ?_⟩
            rw [if_neg (by omega)]
            refine m_take (by omega) (fun y2 p1 p2 => ?_)
            have hM2 := ML_71 hM p2
            have cg : ∀ i, i < 4 → y2 71 i = x (20 + 3 * a.toNat + 1) i := fun i hi => by rw [p1 i hi, ho.1 61 (by decide) (by decide) (by decide)]; exact he i hi
            have ht2 := tok_cg cg ht
            have hR2 : Rel x2 y2 := hR.sc hsc (ho.sc.tr (scM71 p2))
            refine s_toneBy (i := 0) hM2 hne ht2 g2 ?_
            have twb : ∀ i, i < (fl (cft x) 81).length → 0 ≤ tw (y2 71) k ((fl (cft x) 81).getD i 0) ∧ tw (y2 71) k ((fl (cft x) 81).getD i 0) ≤ 364 := fun i hi => tw_bd ht2 g2.1 (fl_get hi).1
            refine lk3_inv (fun b i y3 => y3 = y2 ∧ ∃ j : Nat, i = (j : Int) ∧ 1 ≤ j ∧ j ≤ (fl (cft x) 81).length ∧ (∃ q, q < j ∧ b = tw (y2 71) k ((fl (cft x) 81).getD q 0)) ∧ ∀ q, q < j → (w = 0 → b ≤ tw (y2 71) k ((fl (cft x) 81).getD q 0)) ∧ (w = 1 → tw (y2 71) k ((fl (cft x) 81).getD q 0) ≤ b)) (fun _ i _ => (82 - i).toNat) ?_ _ _ _ ⟨rfl, 1, rfl, by omega, by omega, ⟨0, by omega, rfl⟩, fun q hq => by rw [show q = 0 by omega]; exact ⟨fun _ => Int.le_refl _, fun _ => Int.le_refl _⟩⟩
            rintro bk b i y3 ⟨rfl, j, rfl, hj1, hj2, ⟨q0, hq0, hb0⟩, hbd⟩ hbk
            have hb1 := twb q0 (by omega)
            rw [← hb0] at hb1
            have hM3 := hM2.1
            unfold wB_X8_span_61
            refine ⟨⟨rg_sm (by omega) (by omega), rg_sm (by omega) (by omega)⟩, ?_⟩
            by_cases hc : y3 60 15 ≤ (j : Int)
            · rw [if_pos hc]
              unfold wX_X8_span_61
              refine ⟨?_, ?_, hR2⟩
              · have hbv : vals (cft x) (x (20 + 3 * a.toNat + 1)) k b := by
                  rw [hb0, tw_cg cg]; exact vals_i (by omega)
                have hall : ∀ v, vals (cft x) (x (20 + 3 * a.toNat + 1)) k v → (w = 0 → b ≤ v) ∧ (w = 1 → v ≤ b) := by
                  intro v hv
                  obtain ⟨i, hi, e⟩ := vals_of hv
                  rw [← tw_cg cg] at e
                  rw [e]
                  exact hbd i (by omega)
                rcases hr with ⟨hw0, r1, r2⟩ | ⟨hw1, r1, r2⟩
                · have a1 := r2 b hbv
                  have a2 := (hall r r1).1 hw0
                  omega
                · have a1 := r2 b hbv
                  have a2 := (hall r r1).2 hw1
                  omega
              · have hrv : vals (cft x) (x (20 + 3 * a.toNat + 1)) k r := by
                  rcases hr with z | z
                  · exact z.2.1
                  · exact z.2.1
                obtain ⟨i, hi, e⟩ := vals_of hrv
                have := tw_bd ht g2.1 (fl_get hi).1
                rw [← e] at this
                exact rg_sm (by omega) (by omega)
            · rw [if_neg hc]
              refine s_toneBy hM2 (by omega) ht2 g2 ?_
              have hbj := twb j (by omega)
              refine ⟨hw, ?_⟩
              have keep : ∀ v, v = (j : Int) + 1 → (w = 0 → b ≤ tw (y3 71) k ((fl (cft x) 81).getD j 0)) → (w = 1 → tw (y3 71) k ((fl (cft x) 81).getD j 0) ≤ b) → bk b v y3 := by
                intro v hv k1 k2
                refine hbk _ _ _ ⟨rfl, j + 1, by omega, by omega, by omega, ⟨q0, by omega, hb0⟩, fun q hq => ?_⟩ (by omega)
                by_cases e : q = j
                · subst e; exact ⟨k1, k2⟩
                · exact hbd q (by omega)
              have take : ∀ v, v = (j : Int) + 1 → (w = 0 → tw (y3 71) k ((fl (cft x) 81).getD j 0) ≤ b) → (w = 1 → b ≤ tw (y3 71) k ((fl (cft x) 81).getD j 0)) → bk (tw (y3 71) k ((fl (cft x) 81).getD j 0)) v y3 := by
                intro v hv k1 k2
                refine hbk _ _ _ ⟨rfl, j + 1, by omega, by omega, by omega, ⟨j, by omega, rfl⟩, fun q hq => ?_⟩ (by omega)
                by_cases e : q = j
                · subst e; exact ⟨fun _ => Int.le_refl _, fun _ => Int.le_refl _⟩
                · obtain ⟨z1, z2⟩ := hbd q (by omega)
                  exact ⟨fun e => Int.le_trans (k1 e) (z1 e), fun e => Int.le_trans (z2 e) (k2 e)⟩
              by_cases hw0 : w = 0
              · rw [if_pos hw0]
                refine ⟨⟨rg_sm (by omega) (by omega), rg_sm (by omega) (by omega)⟩, ?_⟩
                split
                · intro v hv; exact keep v hv (fun _ => by omega) (fun e => by omega)
                · intro v hv; exact take v hv (fun _ => by omega) (fun e => by omega)
              · rw [if_neg hw0]
                refine ⟨⟨rg_sm (by omega) (by omega), rg_sm (by omega) (by omega)⟩, ?_⟩
                split
                · intro v hv; exact keep v hv (fun e => by omega) (fun _ => by omega)
                · intro v hv; exact take v hv (fun e => by omega) (fun _ => by omega)
          split
          · exact s_leastTone (WD_sc hR.2.2.2.1 hsc) hne f1 ht g2 (fun r hr => mod r (Or.inl ⟨by omega, hr⟩))
          · exact s_greatestTone (WD_sc hR.2.2.2.1 hsc) hne f1 ht g2 (fun r hr => mod r (Or.inr ⟨by omega, hr⟩))
      · refine t_isPlateM ha hn.2 (fun _ => gT ?_) (fun q => absurd (by omega) q)
        refine t_isFour hk (fun _ => gT ?_) (fun q => absurd g2 q)
        exact t_in hw ⟨by decide, by decide⟩ ⟨by decide, by decide⟩ (fun q => absurd (by omega) g3) (fun _ => gF ⟨rfl, rgm.2.1, hR⟩)
    · refine t_isPlateM ha hn.2 (fun _ => gT ?_) (fun q => absurd (by omega) q)
      exact t_isFour hk (fun q => absurd q g2) (fun _ => gF ⟨rfl, rgm.2.1, hR⟩)
  · exact t_isPlateM ha hn.2 (fun q => absurd (by omega) g1) (fun _ => gF ⟨rfl, rgm.2.1, hR⟩)
