/-- the rows of the class in the middle of sifting -/
def LI (f : Int → Int → Bool) (x : Mm) (n : Nat) : Prop := x 2 4 = ((fl f n).length : Int) ∧ ∀ i, i < (fl f n).length → x 4 i = 1 + (((fl f n).getD i 0 / 9 : Nat) : Int) ∧ x 5 i = 1 + (((fl f n).getD i 0 % 9 : Nat) : Int)
def RP (f : Int → Int → Bool) (x : Mm) (r : Int) : Prop := (x 6 r.toNat = 0 ∨ (sok (x 6 r.toNat) ∧ f r (x 6 r.toNat) = true)) ∧ (x 7 r.toNat = 0 ∨ (sok (x 7 r.toNat) ∧ f r (x 7 r.toNat) = true))
def RQ (f : Int → Int → Bool) (x : Mm) (r v : Int) : Prop := f r v = true → v ≤ x 6 r.toNat ∧ 0 < x 7 r.toNat ∧ x 7 r.toNat ≤ v
def SO (f : Int → Int → Bool) (x : Mm) (s : Int) : Prop := LI f x (9 * (s.toNat - 1)) ∧ ∀ r : Int, 1 ≤ r → r < s → RP f x r ∧ ∀ v : Int, sok v → RQ f x r v
def SI (f : Int → Int → Bool) (x : Mm) (s w : Int) : Prop := LI f x (9 * (s.toNat - 1) + (w.toNat - 1)) ∧ (∀ r : Int, 1 ≤ r → r < s → RP f x r ∧ ∀ v : Int, sok v → RQ f x r v) ∧ (RP f x s ∧ x 6 s.toNat < w ∧ x 7 s.toNat < w) ∧ ∀ v : Int, sok v → v < w → RQ f x s v
theorem s_keep {x : Mm} {s w : Int} {post : Mm → Prop} (hn : 0 ≤ x 2 4 ∧ x 2 4 < 81) (hs : sok s) (h7 : rg (x 7 s.toNat)) (h : ∀ x' : Mm, SW x x' → x' 2 4 = x 2 4 + 1 → (∀ i, i ≠ (x 2 4).toNat → x' 4 i = x 4 i ∧ x' 5 i = x 5 i) → x' 4 (x 2 4).toNat = s → x' 5 (x 2 4).toNat = w → (∀ r, r ≠ s.toNat → x' 6 r = x 6 r ∧ x' 7 r = x 7 r) → x' 6 s.toNat = w → x' 7 s.toNat = (if x 7 s.toNat = 0 then w else x 7 s.toNat) → post x') : w_X2_keep s w x post := by
  unfold w_X2_keep
  have a := hs.1; have b := hs.2
  refine ⟨rg_sm (by omega) (by omega), ?_⟩
  rw [if_neg (by omega)]
  refine ⟨hn, ?_⟩
  intro x3 hx3
  have e3 : x3 2 4 = x 2 4 := by subst hx3; simp [up2]
  rw [e3]
  refine ⟨hn, ?_⟩
  intro x5 hx5 x6 hx6
  refine ⟨by omega, ?_⟩
  intro x8 hx8
  refine ⟨by omega, ?_⟩
  have e5 : x5 2 4 = x 2 4 := by subst hx5; simp [up2]; exact e3
  have hsw : SW x x8 := by
    subst hx8 hx6 hx5 hx3
    exact ((((SW.rf x).up (by omega)).up (by omega)).up (by omega)).up (by omega)
  have e8 : x8 7 s.toNat = x 7 s.toNat := by subst hx8 hx6 hx5 hx3; simp [up2]
  rw [e8]
  refine ⟨h7, ?_⟩
  rw [e5] at hx6
  split
  · rename_i q
    refine ⟨by omega, ?_⟩
    intro x12 hx12
    have hsw2 : SW x x12 := by subst hx12; exact hsw.up (by omega)
    refine h x12 hsw2 ?_ ?_ ?_ ?_ ?_ ?_ ?_
    · subst hx12 hx8 hx6 hx5 hx3; simp [up2]
    · intro i hi; subst hx12 hx8 hx6 hx5 hx3; simp [up2, hi]
    · subst hx12 hx8 hx6 hx5 hx3; simp [up2]
    · subst hx12 hx8 hx6 hx5 hx3; simp [up2]
    · intro r hr; subst hx12 hx8 hx6 hx5 hx3; simp [up2, hr]
    · subst hx12 hx8 hx6 hx5 hx3; simp [up2]
    · rw [if_pos q]; subst hx12; simp [up2]
  · rename_i q
    refine h x8 hsw ?_ ?_ ?_ ?_ ?_ ?_ ?_
    · subst hx8 hx6 hx5 hx3; simp [up2]
    · intro i hi; subst hx8 hx6 hx5 hx3; simp [up2, hi]
    · subst hx8 hx6 hx5 hx3; simp [up2]
    · subst hx8 hx6 hx5 hx3; simp [up2]
    · intro r hr; subst hx8 hx6 hx5 hx3; simp [up2, hr]
    · subst hx8 hx6 hx5 hx3; simp [up2]
    · rw [if_neg q]; exact e8
theorem RP_congr {f : Int → Int → Bool} {x x' : Mm} {r : Int} (h6 : x' 6 r.toNat = x 6 r.toNat) (h7 : x' 7 r.toNat = x 7 r.toNat) (h : RP f x r) : RP f x' r := by unfold RP; rw [h6, h7]; exact h
theorem RQ_congr {f : Int → Int → Bool} {x x' : Mm} {r v : Int} (h6 : x' 6 r.toNat = x 6 r.toNat) (h7 : x' 7 r.toNat = x 7 r.toNat) (h : RQ f x r v) : RQ f x' r v := by unfold RQ; rw [h6, h7]; exact h
theorem RP_bd {f : Int → Int → Bool} {x : Mm} {r : Int} (h : RP f x r) : 0 ≤ x 6 r.toNat ∧ x 6 r.toNat ≤ 9 ∧ 0 ≤ x 7 r.toNat ∧ x 7 r.toNat ≤ 9 := by
  obtain ⟨h1, h2⟩ := h
  rcases h1 with h1 | h1 <;> rcases h2 with h2 | h2
  · omega
  · have := h2.1.1; have := h2.1.2; omega
  · have := h1.1.1; have := h1.1.2; omega
  · have := h1.1.1; have := h1.1.2; have := h2.1.1; have := h2.1.2; omega
theorem SI_skip {f : Int → Int → Bool} {x : Mm} {s w : Int} (hs : sok s) (hw : sok w) (hf : f s w = false) (h : SI f x s w) : SI f x s (w + 1) := by
  obtain ⟨h1, h2, h3, h4⟩ := h
  have a := hw.1; have b := hw.2
  have e : (9 * (s.toNat - 1) + ((w + 1).toNat - 1)) = (9 * (s.toNat - 1) + (w.toNat - 1)) + 1 := by omega
  have hfl : fl f (9 * (s.toNat - 1) + ((w + 1).toNat - 1)) = fl f (9 * (s.toNat - 1) + (w.toNat - 1)) := by
    rw [e, fl_s, fu_of hs hw, hf]; simp
  refine ⟨?_, h2, ⟨h3.1, by omega, by omega⟩, fun v hv hlt => ?_⟩
  · unfold LI; rw [hfl]; exact h1
  · by_cases q : v = w
    · subst q; intro z; rw [hf] at z; exact absurd z (by decide)
    · exact h4 v hv (by omega)
theorem SI_keep {f : Int → Int → Bool} {x x' : Mm} {s w : Int} (hs : sok s) (hw : sok w) (hf : f s w = true) (h : SI f x s w) (k1 : x' 2 4 = x 2 4 + 1) (k2 : ∀ i, i ≠ (x 2 4).toNat → x' 4 i = x 4 i ∧ x' 5 i = x 5 i) (k3 : x' 4 (x 2 4).toNat = s) (k4 : x' 5 (x 2 4).toNat = w) (k5 : ∀ r, r ≠ s.toNat → x' 6 r = x 6 r ∧ x' 7 r = x 7 r) (k6 : x' 6 s.toNat = w) (k7 : x' 7 s.toNat = (if x 7 s.toNat = 0 then w else x 7 s.toNat)) : SI f x' s (w + 1) := by
  obtain ⟨h1, h2, h3, h4⟩ := h
  have a := hw.1; have b := hw.2; have a' := hs.1; have b' := hs.2
  have e : (9 * (s.toNat - 1) + ((w + 1).toNat - 1)) = (9 * (s.toNat - 1) + (w.toNat - 1)) + 1 := by omega
  have hfl : fl f (9 * (s.toNat - 1) + ((w + 1).toNat - 1)) = fl f (9 * (s.toNat - 1) + (w.toNat - 1)) ++ [9 * (s.toNat - 1) + (w.toNat - 1)] := by
    rw [e, fl_s, fu_of hs hw, hf]; simp
  refine ⟨?_, fun r hr1 hr2 => ?_, ⟨⟨?_, ?_⟩, by omega, ?_⟩, fun v hv hlt => ?_⟩
  · unfold LI
    rw [hfl]
    obtain ⟨g1, g2⟩ := h1
    generalize fl f (9 * (s.toNat - 1) + (w.toNat - 1)) = l at g1 g2 ⊢
    have hl : (x 2 4).toNat = l.length := by omega
    refine ⟨by rw [k1, g1]; simp, fun i hi => ?_⟩
    by_cases q : i = l.length
    · subst q
      rw [hl] at k3 k4
      rw [k3, k4]
      have : (l ++ [9 * (s.toNat - 1) + (w.toNat - 1)]).getD l.length 0 = 9 * (s.toNat - 1) + (w.toNat - 1) := by simp [List.getD]
      rw [this]
      omega
    · have hi' : i < l.length := by simp at hi; omega
      have : (l ++ [9 * (s.toNat - 1) + (w.toNat - 1)]).getD i 0 = l.getD i 0 := by simp [List.getD, List.getElem?_append_left hi']
      rw [this, (k2 i (by omega)).1, (k2 i (by omega)).2]
      exact g2 i hi'
  · have hne : r.toNat ≠ s.toNat := by omega
    exact ⟨RP_congr (k5 _ hne).1 (k5 _ hne).2 (h2 r hr1 hr2).1, fun v hv => RQ_congr (k5 _ hne).1 (k5 _ hne).2 ((h2 r hr1 hr2).2 v hv)⟩
  · right; rw [k6]; exact ⟨hw, hf⟩
  · right; rw [k7]
    split
    · exact ⟨hw, hf⟩
    · rename_i q
      rcases h3.1.2 with z | z
      · exact absurd z q
      · exact z
  · rw [k7]
    split <;> omega
  · intro z
    rw [k6, k7]
    have := hv.1
    by_cases q : v = w
    · subst q
      have := (RP_bd h3.1)
      split <;> omega
    · have h5 := h4 v hv (by omega) z
      rw [if_neg (by omega)]
      omega
/-- the woods of the class, as its rows hold them -/
def WD (f : Int → Int → Bool) (x : Mm) : Prop := LI f x 81 ∧ (∀ r : Int, sok r → RP f x r) ∧ ∀ s w : Int, sok s → sok w → f s w = true → (∃ r : Int, sok r ∧ r ≤ s ∧ w ≤ x 6 r.toNat) ∧ (∃ r : Int, sok r ∧ s ≤ r ∧ 0 < x 7 r.toNat ∧ x 7 r.toNat ≤ w)
theorem s_dropInner {f : Int → Int → Bool} {x : Mm} {post : Mm → Prop} (h0 : SO f x 10) (h : ∀ x' : Mm, SW x x' → WD f x' → post x') : w_X2_dropInnerWoods x post := by
  unfold w_X2_dropInnerWoods
  obtain ⟨hL, hR⟩ := h0
  have hrow : ∀ r : Int, sok r → RP f x r := fun r hr => (hR r hr.1 (by have := hr.2; omega)).1
  refine lk3_inv (fun hv s x' => (1 ≤ s ∧ s ≤ 10) ∧ SW x x' ∧ x' 2 = x 2 ∧ x' 4 = x 4 ∧ x' 5 = x 5 ∧ x' 7 = x 7 ∧ (∀ r : Int, sok r → s ≤ r → x' 6 r.toNat = x 6 r.toNat) ∧ (∀ r : Int, sok r → x' 6 r.toNat = 0 ∨ x' 6 r.toNat = x 6 r.toNat) ∧ (0 ≤ hv ∧ hv ≤ 9) ∧ (hv = 0 ∨ ∃ r : Int, sok r ∧ r < s ∧ x' 6 r.toNat = hv) ∧ ∀ r : Int, sok r → r < s → ∃ q : Int, sok q ∧ q ≤ r ∧ x 6 r.toNat ≤ x' 6 q.toNat) (fun _ s _ => (10 - s).toNat) ?_ _ _ _ ⟨by omega, SW.rf x, rfl, rfl, rfl, rfl, fun _ _ _ => rfl, fun _ _ => Or.inr rfl, by omega, Or.inl rfl, fun r hr hlt => by have := hr.1; omega⟩
  rintro bk hv s x' ⟨hs, hsw, e2, e4, e5, e7, hk, hz, hvb, hvw, hdom⟩ hbk
  unfold wB_X2_dropInnerWoods_4
  refine ⟨rg_sm (by omega) (by omega), ?_⟩
  by_cases h9 : 9 < s
  · rw [if_pos h9]
    unfold wX_X2_dropInnerWoods_4
    refine lk3_inv (fun lv q x2 => (0 ≤ q ∧ q ≤ 9) ∧ SW x x2 ∧ x2 2 = x 2 ∧ x2 4 = x 4 ∧ x2 5 = x 5 ∧ x2 6 = x' 6 ∧ (∀ r : Int, sok r → r ≤ q → x2 7 r.toNat = x 7 r.toNat) ∧ (∀ r : Int, sok r → x2 7 r.toNat = 0 ∨ x2 7 r.toNat = x 7 r.toNat) ∧ (1 ≤ lv ∧ lv ≤ 10) ∧ (lv = 10 ∨ ∃ r : Int, sok r ∧ q < r ∧ x2 7 r.toNat = lv) ∧ ∀ r : Int, sok r → q < r → 0 < x 7 r.toNat → ∃ u : Int, sok u ∧ r ≤ u ∧ 0 < x2 7 u.toNat ∧ x2 7 u.toNat ≤ x 7 r.toNat) (fun _ q _ => q.toNat) ?_ _ _ _ ⟨by omega, hsw, e2, e4, e5, rfl, fun r _ _ => by rw [e7], fun r _ => by rw [e7]; exact Or.inr rfl, by omega, Or.inl rfl, fun r hr hlt => by have := hr.2; omega⟩
    rintro bk2 lv q x2 ⟨hq, hsw2, f2, f4, f5, f6, gk, gz, glb, glw, gdom⟩ hbk2
    unfold wB_X2_dropInnerWoods_49
    refine ⟨rg_sm (by omega) (by omega), ?_⟩
    by_cases h1 : q < 1
    · rw [if_pos h1]
      unfold wX_X2_dropInnerWoods_49
      refine h x2 hsw2 ⟨?_, ?_, ?_⟩
      · unfold LI; rw [f2, f4, f5]; exact hL
      · intro r hr
        have hp := hrow r hr
        refine ⟨?_, ?_⟩
        · rw [f6]
          rcases hz r hr with z | z
          · exact Or.inl z
          · rw [z]; exact hp.1
        · rcases gz r hr with z | z
          · exact Or.inl z
          · rw [z]; exact hp.2
      · intro s1 w1 hs1 hw1 hf
        have hq1 := (hR s1 hs1.1 (by have := hs1.2; omega)).2 w1 hw1 hf
        obtain ⟨r1, c1, c2, c3⟩ := hdom s1 hs1 (by have := hs1.2; omega)
        obtain ⟨r2, d1, d2, d3, d4⟩ := gdom s1 hs1 (by have := hs1.1; omega) hq1.2.1
        exact ⟨⟨r1, c1, c2, by rw [f6]; omega⟩, ⟨r2, d1, d2, d3, by omega⟩⟩
    · rw [if_neg h1]
      have hqs : sok q := ⟨by omega, by omega⟩
      have hb := RP_bd (hrow q hqs)
      have eq7 := gk q hqs (by omega)
      rw [eq7]
      refine ⟨by omega, ⟨rg_sm (by omega) (by omega), rg_sm (by omega) (by omega)⟩, ?_⟩
      by_cases hc : x 7 q.toNat < lv
      · rw [if_pos hc]
        refine ⟨by omega, rg_sm (by omega) (by omega), ?_⟩
        by_cases hc0 : x 7 q.toNat ≤ 0
        · rw [if_pos hc0]
          intro v hv'
          refine hbk2 _ _ _ ⟨by omega, hsw2, f2, f4, f5, f6, fun r hr hle => gk r hr (by omega), gz, glb, ?_, fun r hr hlt hpos => ?_⟩ (by omega)
          · rcases glw with z | ⟨r, z1, z2, z3⟩
            · exact Or.inl z
            · exact Or.inr ⟨r, z1, by omega, z3⟩
          · by_cases e : r = q
            · subst e; omega
            · exact gdom r hr (by omega) hpos
        · rw [if_neg hc0]
          refine ⟨by omega, ?_⟩
          intro lv' hlv' v hv'
          refine hbk2 _ _ _ ⟨by omega, hsw2, f2, f4, f5, f6, fun r hr hle => gk r hr (by omega), gz, by omega, Or.inr ⟨q, hqs, by omega, by omega⟩, fun r hr hlt hpos => ?_⟩ (by omega)
          by_cases e : r = q
          · subst e; exact ⟨r, hr, by omega, by omega, by omega⟩
          · exact gdom r hr (by omega) hpos
      · rw [if_neg hc]
        refine ⟨by omega, ?_⟩
        intro x3 hx3 v hv'
        have k7 : ∀ r : Int, sok r → r ≠ q → x3 7 r.toNat = x2 7 r.toNat := fun r hr hne => by
          subst hx3; rw [up2_k 7 (by have := hr.1; omega)]
        have k7q : x3 7 q.toNat = 0 := by subst hx3; rw [up2_s]
        refine hbk2 _ _ _ ⟨by omega, by subst hx3; exact hsw2.up (by omega), by subst hx3; rw [up2_row (by decide)]; exact f2, by subst hx3; rw [up2_row (by decide)]; exact f4, by subst hx3; rw [up2_row (by decide)]; exact f5, by subst hx3; rw [up2_row (by decide)]; exact f6, fun r hr hle => ?_, fun r hr => ?_, glb, ?_, fun r hr hlt hpos => ?_⟩ (by omega)
        · rw [k7 r hr (by omega)]; exact gk r hr (by omega)
        · by_cases e : r = q
          · subst e; exact Or.inl k7q
          · rw [k7 r hr e]; exact gz r hr
        · rcases glw with z | ⟨r, z1, z2, z3⟩
          · exact Or.inl z
          · exact Or.inr ⟨r, z1, by omega, by rw [k7 r z1 (by omega)]; exact z3⟩
        · by_cases e : r = q
          · subst e
            rcases glw with z | ⟨u, z1, z2, z3⟩
            · omega
            · exact ⟨u, z1, by omega, by rw [k7 u z1 (by omega)]; omega, by rw [k7 u z1 (by omega)]; omega⟩
          · obtain ⟨u, d1, d2, d3, d4⟩ := gdom r hr (by omega) hpos
            exact ⟨u, d1, d2, by rw [k7 u d1 (by omega)]; exact d3, by rw [k7 u d1 (by omega)]; exact d4⟩
  · rw [if_neg h9]
    have hss : sok s := ⟨by omega, by omega⟩
    have hb := RP_bd (hrow s hss)
    have e6 := hk s hss (by omega)
    rw [e6]
    refine ⟨by omega, ⟨rg_sm (by omega) (by omega), rg_sm (by omega) (by omega)⟩, ?_⟩
    by_cases hc : hv < x 6 s.toNat
    · rw [if_pos hc]
      refine ⟨by omega, ?_⟩
      intro hv2 hhv2 v hv'
      refine hbk _ _ _ ⟨by omega, hsw, e2, e4, e5, e7, fun r hr hle => hk r hr (by omega), hz, by omega, Or.inr ⟨s, hss, by omega, by omega⟩, fun r hr hlt => ?_⟩ (by omega)
      by_cases e : r = s
      · subst e; exact ⟨r, hr, by omega, by omega⟩
      · exact hdom r hr (by omega)
    · rw [if_neg hc]
      refine ⟨by omega, ?_⟩
      intro x3 hx3 v hv'
      have k6 : ∀ r : Int, sok r → r ≠ s → x3 6 r.toNat = x' 6 r.toNat := fun r hr hne => by
        subst hx3; rw [up2_k 6 (by have := hr.1; omega)]
      have k6s : x3 6 s.toNat = 0 := by subst hx3; rw [up2_s]
      refine hbk _ _ _ ⟨by omega, by subst hx3; exact hsw.up (by omega), by subst hx3; rw [up2_row (by decide)]; exact e2, by subst hx3; rw [up2_row (by decide)]; exact e4, by subst hx3; rw [up2_row (by decide)]; exact e5, by subst hx3; rw [up2_row (by decide)]; exact e7, fun r hr hle => ?_, fun r hr => ?_, hvb, ?_, fun r hr hlt => ?_⟩ (by omega)
      · rw [k6 r hr (by omega)]; exact hk r hr (by omega)
      · by_cases e : r = s
        · subst e; exact Or.inl k6s
        · rw [k6 r hr e]; exact hz r hr
      · rcases hvw with z | ⟨r, z1, z2, z3⟩
        · exact Or.inl z
        · exact Or.inr ⟨r, z1, by omega, by rw [k6 r z1 (by omega)]; exact z3⟩
      · by_cases e : r = s
        · subst e
          rcases hvw with z | ⟨u, z1, z2, z3⟩
          · exact ⟨r, hr, by omega, by omega⟩
          · exact ⟨u, z1, by omega, by rw [k6 u z1 (by omega)]; omega⟩
        · obtain ⟨u, d1, d2, d3⟩ := hdom r hr (by omega)
          exact ⟨u, d1, d2, by rw [k6 u d1 (by omega)]; exact d3⟩
theorem s_sift {x : Mm} {post : Mm → Prop} (hC : CT x) (h : ∀ x' : Mm, SW x x' → WD (cft x) x' → post x') : w_X2_sift x post := by
  unfold w_X2_sift
  intro x1 hx1
  have hsw1 : SW x x1 := by subst hx1; exact (SW.rf x).up (by omega)
  refine lk2_inv (fun s x' => (1 ≤ s ∧ s ≤ 10) ∧ SW x x' ∧ SO (cft x) x' s) (fun s _ => (10 - s).toNat) ?_ _ _ ⟨by omega, hsw1, ⟨by subst hx1; rw [up2_s]; rfl, fun i hi => by have e : fl (cft x) (9 * ((1 : Int).toNat - 1)) = [] := rfl; rw [e] at hi; exact absurd hi (Nat.not_lt_zero _)⟩, fun r h1 h2 => by omega⟩
  rintro bk s x' ⟨hs, hsw, hO⟩ hbk
  unfold wB_X2_sift_7
  refine ⟨rg_sm (by omega) (by omega), ?_⟩
  by_cases h9 : 9 < s
  · rw [if_pos h9]
    have : s = 10 := by omega
    subst this
    unfold wX_X2_sift_7
    exact s_dropInner hO (fun x2 h1 h2 => h x2 (hsw.tr h1) h2)
  · rw [if_neg h9]
    have hss : sok s := ⟨by omega, by omega⟩
    refine ⟨by omega, ?_⟩
    intro x7 hx7
    refine ⟨by omega, ?_⟩
    intro x9 hx9
    have hsw9 : SW x x9 := by subst hx9 hx7; exact (hsw.up (by omega)).up (by omega)
    have r6 : ∀ r : Int, r.toNat ≠ s.toNat → x9 6 r.toNat = x' 6 r.toNat ∧ x9 7 r.toNat = x' 7 r.toNat := fun r hr => by subst hx9 hx7; simp [up2, hr]
    refine lk2_inv (fun w x2 => (1 ≤ w ∧ w ≤ 10) ∧ SW x x2 ∧ SI (cft x) x2 s w) (fun w _ => (10 - w).toNat) ?_ _ _ ⟨by omega, hsw9, ?_, fun r h1 h2 => ?_, ?_, fun v hv hlt => by have := hv.1; omega⟩
    · rintro bk2 w x2 ⟨hw, hsw2, hI⟩ hbk2
      unfold wB_X2_sift_29
      refine ⟨rg_sm (by omega) (by omega), ?_⟩
      by_cases hw9 : 9 < w
      · rw [if_pos hw9]
        unfold wX_X2_sift_29
        intro v hv
        have : w = 10 := by omega
        subst this
        obtain ⟨i1, i2, i3, i4⟩ := hI
        have e : 9 * ((s + 1).toNat - 1) = 9 * (s.toNat - 1) + ((10 : Int).toNat - 1) := by
          have : (10 : Int).toNat = 10 := rfl
          omega
        refine hbk _ _ ⟨by omega, hsw2, by rw [hv, e]; exact i1, fun r h1 h2 => ?_⟩ (by omega)
        by_cases q : r = s
        · subst q; exact ⟨i3.1, fun v hv => i4 v hv (by have := hv.2; omega)⟩
        · exact i2 r h1 (by omega)
      · rw [if_neg hw9]
        have hws : sok w := ⟨by omega, by omega⟩
        have ecf := SWcft hsw2
        refine s_fitsAllTaps (SWCT hsw2 hC) hss hws (fun q => ?_) (fun q => ?_)
        · refine ⟨rg_sm (by omega) (by omega), ?_⟩
          rw [if_neg (by decide)]
          rw [ecf] at q
          have hb := RP_bd hI.2.2.1.1
          have hlen := fl_len (cft x) (9 * (s.toNat - 1) + (w.toNat - 1))
          have hl := hI.1.1
          refine s_keep ⟨by omega, by omega⟩ hss (rg_sm (by omega) (by omega)) (fun x3 k0 k1 k2 k3 k4 k5 k6 k7 => ?_)
          intro v hv
          subst hv
          exact hbk2 _ _ ⟨by omega, hsw2.tr k0, SI_keep hss hws q hI k1 k2 k3 k4 k5 k6 k7⟩ (by omega)
        · refine ⟨rg_sm (by omega) (by omega), ?_⟩
          rw [if_pos rfl]
          rw [ecf] at q
          intro v hv
          subst hv
          exact hbk2 _ _ ⟨by omega, hsw2, SI_skip hss hws q hI⟩ (by omega)
    · have e : 9 * (s.toNat - 1) + ((1 : Int).toNat - 1) = 9 * (s.toNat - 1) := by
        have : (1 : Int).toNat = 1 := rfl
        omega
      have q2 : x9 2 = x' 2 := by subst hx9 hx7; rw [up2_row (by decide), up2_row (by decide)]
      have q4 : x9 4 = x' 4 := by subst hx9 hx7; rw [up2_row (by decide), up2_row (by decide)]
      have q5 : x9 5 = x' 5 := by subst hx9 hx7; rw [up2_row (by decide), up2_row (by decide)]
      unfold LI
      rw [e, q2, q4, q5]
      exact hO.1
    · have hr := r6 r (by omega)
      exact ⟨RP_congr hr.1 hr.2 (hO.2 r h1 h2).1, fun v hv => RQ_congr hr.1 hr.2 ((hO.2 r h1 h2).2 v hv)⟩
    · have q6 : x9 6 s.toNat = 0 := by subst hx9 hx7; simp [up2]
      have q7 : x9 7 s.toNat = 0 := by subst hx9 hx7; simp [up2]
      exact ⟨⟨Or.inl q6, Or.inl q7⟩, by omega, by omega⟩
