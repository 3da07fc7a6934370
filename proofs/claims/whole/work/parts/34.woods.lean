/-! WOODS: a list of numbers u (stiffness 1 + u / 9, weight 1 + u % 9) -/
def fu (f : Int → Int → Bool) (u : Nat) : Bool := f (1 + ((u / 9 : Nat) : Int)) (1 + ((u % 9 : Nat) : Int))
def fl (f : Int → Int → Bool) (n : Nat) : List Nat := (List.range n).filter (fu f)
theorem fl_0 (f : Int → Int → Bool) : fl f 0 = [] := rfl
theorem fl_s (f : Int → Int → Bool) (n : Nat) : fl f (n + 1) = if fu f n = true then fl f n ++ [n] else fl f n := by
  unfold fl
  rw [List.range_succ, List.filter_append]
  by_cases h : fu f n = true
  · rw [if_pos h]; simp [h]
  · rw [if_neg h]; simp [h]
theorem fl_len (f : Int → Int → Bool) (n : Nat) : (fl f n).length ≤ n := by
  have := List.length_filter_le (fu f) (List.range n)
  rw [List.length_range] at this
  exact this
theorem fl_mem {f : Int → Int → Bool} {n u : Nat} : u ∈ fl f n ↔ u < n ∧ fu f u = true := by simp [fl]
theorem fl_get {f : Int → Int → Bool} {n i : Nat} (h : i < (fl f n).length) : (fl f n).getD i 0 < n ∧ fu f ((fl f n).getD i 0) = true := by
  rw [← fl_mem]
  have : (fl f n).getD i 0 = (fl f n)[i] := by simp [List.getD, h]
  rw [this]
  exact List.getElem_mem h
theorem fl_idx {f : Int → Int → Bool} {n u : Nat} (h : u < n) (hu : fu f u = true) : ∃ i, i < (fl f n).length ∧ (fl f n).getD i 0 = u := by
  have hm : u ∈ fl f n := fl_mem.mpr ⟨h, hu⟩
  obtain ⟨i, hi, e⟩ := List.getElem_of_mem hm
  exact ⟨i, hi, by simp [List.getD, hi, e]⟩
theorem fu_of {f : Int → Int → Bool} {s w : Int} (hs : sok s) (hw : sok w) : fu f (9 * (s.toNat - 1) + (w.toNat - 1)) = f s w := by
  have a := hs.1; have b := hs.2; have c := hw.1; have d := hw.2
  unfold fu
  have e1 : (9 * (s.toNat - 1) + (w.toNat - 1)) / 9 = s.toNat - 1 := by omega
  have e2 : (9 * (s.toNat - 1) + (w.toNat - 1)) % 9 = w.toNat - 1 := by omega
  rw [e1, e2]
  have e3 : (1 : Int) + ((s.toNat - 1 : Nat) : Int) = s := by omega
  have e4 : (1 : Int) + ((w.toNat - 1 : Nat) : Int) = w := by omega
  rw [e3, e4]
/-- what a tap of the class says of a wood, all of them -/
def tpc (x : Mm) (t : Nat) (s w : Int) : Prop := x (32 + 2 * (x 3 t).toNat) 1 ≤ x (32 + 2 * (x 3 t).toNat + 1) s.toNat / w ∧ x (32 + 2 * (x 3 t).toNat + 1) s.toNat / w ≤ x (32 + 2 * (x 3 t).toNat) 2
theorem tpc_dec (x : Mm) (t : Nat) (s w : Int) : tpc x t s w ∨ ¬ tpc x t s w := Classical.em _
noncomputable def cft (x : Mm) (s w : Int) : Bool := @decide (∀ t : Nat, (t : Int) < x 2 1 → tpc x t s w) (Classical.propDecidable _)
theorem cft_iff {x : Mm} {s w : Int} : cft x s w = true ↔ ∀ t : Nat, (t : Int) < x 2 1 → tpc x t s w := by unfold cft; simp
def CT (x : Mm) : Prop := (0 ≤ x 2 1 ∧ x 2 1 ≤ 12) ∧ (∀ t : Nat, t < 12 → 0 ≤ x 3 t ∧ x 3 t < 12) ∧ ∀ t : Nat, (t : Int) < x 2 1 → (0 ≤ x (32 + 2 * (x 3 t).toNat) 1 ∧ x (32 + 2 * (x 3 t).toNat) 1 ≤ 500) ∧ (0 ≤ x (32 + 2 * (x 3 t).toNat) 2 ∧ x (32 + 2 * (x 3 t).toNat) 2 ≤ 500) ∧ ∀ s : Int, sok s → 0 ≤ x (32 + 2 * (x 3 t).toNat + 1) s.toNat ∧ x (32 + 2 * (x 3 t).toNat + 1) s.toNat ≤ 364
/-- the cells that sifting writes -/
def SW (x x' : Mm) : Prop := (∀ c, c ≠ 2 → c ≠ 4 → c ≠ 5 → c ≠ 6 → c ≠ 7 → x' c = x c) ∧ ∀ k, k ≠ 4 → x' 2 k = x 2 k
theorem SW.rf (x : Mm) : SW x x := ⟨fun _ _ _ _ _ _ => rfl, fun _ _ => rfl⟩
theorem SW.tr {x y z : Mm} (h : SW x y) (g : SW y z) : SW x z := ⟨fun c a b d e f => (g.1 c a b d e f).trans (h.1 c a b d e f), fun k hk => (g.2 k hk).trans (h.2 k hk)⟩
theorem SW.up {x x' : Mm} (h : SW x x') {c k : Nat} {v : Int} (hc : c = 4 ∨ c = 5 ∨ c = 6 ∨ c = 7 ∨ (c = 2 ∧ k = 4)) : SW x (up2 x' c k v) := by
  refine h.tr ⟨fun c' a b d e f => up2_row (by omega), fun k' hk' => ?_⟩
  by_cases h2 : c = 2
  · subst h2; rw [up2_k 2 (by omega)]
  · rw [up2_row (by omega)]
theorem SWtpc {x x' : Mm} (h : SW x x') (t : Nat) (s w : Int) : tpc x' t s w ↔ tpc x t s w := by
  have e3 : x' 3 = x 3 := h.1 3 (by decide) (by decide) (by decide) (by decide) (by decide)
  have e : ∀ c, 32 ≤ c → x' c = x c := fun c hc => h.1 c (by omega) (by omega) (by omega) (by omega) (by omega)
  unfold tpc
  rw [e3, e _ (by omega), e _ (by omega)]
theorem SWcft {x x' : Mm} (h : SW x x') : cft x' = cft x := by
  funext s w
  rw [Bool.eq_iff_iff, cft_iff, cft_iff, h.2 1 (by decide)]
  exact ⟨fun q t ht => (SWtpc h t s w).mp (q t ht), fun q t ht => (SWtpc h t s w).mpr (q t ht)⟩
theorem SWCT {x x' : Mm} (h : SW x x') (hc : CT x) : CT x' := by
  have e3 : x' 3 = x 3 := h.1 3 (by decide) (by decide) (by decide) (by decide) (by decide)
  have e : ∀ c, 32 ≤ c → x' c = x c := fun c hc => h.1 c (by omega) (by omega) (by omega) (by omega) (by omega)
  obtain ⟨h1, h2, h3⟩ := hc
  refine ⟨by rw [h.2 1 (by decide)]; exact h1, by rw [e3]; exact h2, fun t ht => ?_⟩
  rw [h.2 1 (by decide)] at ht
  rw [e3, e _ (by omega), e _ (by omega)]
  exact h3 t ht
theorem div_bd {v w : Int} (hv : 0 ≤ v ∧ v ≤ 1000) (hw : sok w) : 0 ≤ v / w ∧ v / w ≤ 1000 := by
  have h1 : 0 ≤ v / w := Int.ediv_nonneg hv.1 (by have := hw.1; omega)
  have h2 : v / w ≤ v := Int.ediv_le_self w hv.1
  omega
theorem s_fits {x : Mm} {t : Nat} {s w : Int} {post : Int → Mm → Prop} (hC : CT x) (ht : (t : Int) < x 2 1) (hs : sok s) (hw : sok w) (h1 : tpc x t s w → post 1 x) (h0 : ¬ tpc x t s w → post 0 x) : w_X6_fits (x 3 t).toNat s w x post := by
  obtain ⟨hl, hh, hv⟩ := hC.2.2 t ht
  have a := hs.1; have b := hs.2
  have hvs := hv s hs
  unfold w_X6_fits
  refine ⟨by omega, ?_⟩
  refine s_byWeight ⟨hvs.1, by omega⟩ hw ?_
  have hd := div_bd (v := x (32 + 2 * (x 3 t).toNat + 1) s.toNat) ⟨hvs.1, by omega⟩ hw
  refine ⟨⟨rg_sm (by omega) (by omega), rg_sm (by omega) (by omega)⟩, ?_⟩
  unfold tpc at h1 h0
  split
  · rename_i q; exact h0 (fun z => by have := z.1; omega)
  · refine ⟨⟨rg_sm (by omega) (by omega), rg_sm (by omega) (by omega)⟩, ?_⟩
    split
    · rename_i q; exact h0 (fun z => by have := z.2; omega)
    · exact h1 ⟨by omega, by omega⟩
theorem s_fitsAllTaps {x : Mm} {s w : Int} {post : Int → Mm → Prop} (hC : CT x) (hs : sok s) (hw : sok w) (h1 : cft x s w = true → post 1 x) (h0 : cft x s w = false → post 0 x) : w_X2_fitsAllTaps s w x post := by
  unfold w_X2_fitsAllTaps
  refine lk2_inv (fun i x' => x' = x ∧ ∃ j : Nat, i = (j : Int) ∧ (j : Int) ≤ x 2 1 ∧ ∀ t : Nat, t < j → tpc x t s w) (fun i x' => (x' 2 1 - i).toNat) ?_ _ _ ⟨rfl, 0, rfl, hC.1.1, fun t ht => by omega⟩
  rintro bk i x' ⟨rfl, j, rfl, hj, hall⟩ hbk
  unfold wB_X2_fitsAllTaps_2
  have hT := hC.1
  refine ⟨⟨rg_sm (by omega) (by omega), rg_sm (by omega) (by omega)⟩, ?_⟩
  by_cases hc : x' 2 1 ≤ (j : Int)
  · rw [if_pos hc]
    exact h1 (cft_iff.mpr (fun t ht => hall t (by omega)))
  · rw [if_neg hc]
    have e2 : ((j : Int)).toNat = j := by omega
    rw [e2]
    refine ⟨by omega, hC.2.1 j (by omega), ?_⟩
    refine s_fits hC (by omega) hs hw (fun q => ?_) (fun q => ?_)
    · refine ⟨rg_sm (by omega) (by omega), ?_⟩
      rw [if_neg (by decide)]
      intro v hv
      refine hbk _ _ ⟨rfl, j + 1, by omega, by omega, fun t ht => ?_⟩ (by omega)
      by_cases e : t = j
      · subst e; exact q
      · exact hall t (by omega)
    · refine ⟨rg_sm (by omega) (by omega), ?_⟩
      rw [if_pos rfl]
      refine h0 ?_
      rw [← Bool.not_eq_true, cft_iff]
      exact fun z => q (z j (by omega))
