/-! CARVED -/
def itC (p k : Nat) : Nat → Mm → Mm
  | 0, x => x
  | n + 1, x => tkC (itC p k n x) p k
def itM (p k : Nat) : Nat → Mm → Mm
  | 0, y => y
  | n + 1, y => tkM (itM p k n y) p k
theorem itC_o {p k n c : Nat} {x : Mm} (h : c ≠ 20 + 3 * p) (h1 : c ≠ 20 + 3 * p + 1) (h2 : c ≠ 20 + 3 * p + 2) : itC p k n x c = x c := by
  induction n with
  | zero => rfl
  | succ n ih => exact (tkC_o h h1 h2).trans ih
theorem itC_0 (p k n : Nat) (x : Mm) : itC p k n x (20 + 3 * p) 2 = x (20 + 3 * p) 2 + n := by
  induction n with
  | zero => show x (20 + 3 * p) 2 = x (20 + 3 * p) 2 + 0; omega
  | succ n ih => show tkC _ p k (20 + 3 * p) 2 = _; rw [tkC_0, ih]; omega
theorem itM_o {p k n c : Nat} {y : Mm} (h : c ≠ 61) (h1 : c ≠ 62) (h2 : c ≠ 63) : itM p k n y c = y c := by
  induction n with
  | zero => rfl
  | succ n ih => exact (tkM_o h h1 h2).trans ih
theorem itM_0 (p k n : Nat) (y : Mm) : itM p k n y 62 p = y 62 p + n := by
  induction n with
  | zero => show y 62 p = y 62 p + 0; omega
  | succ n ih => show tkM _ p k 62 p = _; rw [tkM_0, if_pos rfl, ih]; omega
theorem itM_1 (p k n j : Nat) (y : Mm) : itM p k n y 61 j = if j = 4 * p + k then y 61 j - n else y 61 j := by
  induction n with
  | zero => show y 61 j = _; split <;> omega
  | succ n ih =>
    show tkM _ p k 61 j = _
    rw [tkM_1]
    by_cases e : j = 4 * p + k
    · subst e; rw [if_pos rfl, if_pos rfl, ih, if_pos rfl]; omega
    · rw [if_neg e, if_neg e, ih, if_neg e]
theorem R1_it {x y : Mm} {p k n : Nat} (h : R1 x y) (hp : p < 4) (hn : (p : Int) < y 60 0) (hk : k < 4) (hl : y 62 p + n ≤ 20) (ht : (n : Int) + 1 ≤ y 61 (4 * p + k)) : R1 (itC p k n x) (itM p k n y) := by
  induction n with
  | zero => exact h
  | succ n ih =>
    have h1 := ih (by omega) (by omega)
    refine R1_tk h1 hp (by rw [itM_o (by decide) (by decide) (by decide)]; exact hn) hk (by rw [itM_0]; omega) (by rw [itM_1, if_pos rfl]; omega)
theorem s_takeOffAll {x : Mm} {p c1 : Nat} {post : Mm → Prop} (hc : c1 < 20) (n : Nat → Nat) (hn : ∀ i, i < 4 → x c1 i = (n i : Int)) (hl : 0 ≤ x (20 + 3 * p) 2 ∧ x (20 + 3 * p) 2 + (n 0 + n 1 + n 2 + n 3 : Nat) ≤ 20) (h : post (itC p 3 (n 3) (itC p 2 (n 2) (itC p 1 (n 1) (itC p 0 (n 0) x))))) : w_X4_takeOffAll p c1 x post := by
  have hc1 : ∀ k m (z : Mm), itC p k m z c1 = z c1 := fun k m z => itC_o (by omega) (by omega) (by omega)
  have stage : ∀ (k : Nat) (z : Mm) (kx bk : Int → Mm → Prop), k < 4 → z c1 = x c1 → (0 ≤ z (20 + 3 * p) 2 ∧ z (20 + 3 * p) 2 + n k ≤ 20) → bk ((k : Int) + 1) (itC p k (n k) z) → wB_X4_takeOffAll_2 p c1 kx bk (k : Int) z := by
    intro k z kx bk hk hz hlz hbk
    unfold wB_X4_takeOffAll_2
    refine ⟨rg_sm (by omega) (by omega), ?_⟩
    rw [if_neg (by omega)]
    have ek : ((k : Int)).toNat = k := by omega
    refine lk2_inv (fun i z2 => ∃ m : Nat, i = (m : Int) ∧ m ≤ n k ∧ z2 = itC p k m z) (fun i _ => (100 - i).toNat) ?_ _ _ ⟨0, rfl, by omega, rfl⟩
    rintro bk2 i z2 ⟨m, rfl, hm, rfl⟩ hbk2
    unfold wB_X4_takeOffAll_9
    rw [ek, hc1, hz, hn k hk]
    refine ⟨by omega, ⟨rg_sm (by omega) (by omega), rg_sm (by omega) (by omega)⟩, ?_⟩
    by_cases e : (n k : Int) ≤ (m : Int)
    · rw [if_pos e]
      unfold wX_X4_takeOffAll_9
      intro v hv
      rw [hv, show m = n k by omega]
      exact hbk
    · rw [if_neg e]
      have i0 := itC_0 p k m z
      refine s_takeOff (by omega) (by omega) ?_
      rw [ek]
      intro v hv
      exact hbk2 _ _ ⟨m + 1, by omega, by omega, rfl⟩ (by omega)
  unfold w_X4_takeOffAll
  have i0 := itC_0 p 0 (n 0) x
  have i1 := itC_0 p 1 (n 1) (itC p 0 (n 0) x)
  have i2 := itC_0 p 2 (n 2) (itC p 1 (n 1) (itC p 0 (n 0) x))
  refine ⟨5, ?_⟩
  refine stage 0 x _ _ (by omega) rfl (by omega) ?_
  refine stage 1 _ _ _ (by omega) (hc1 _ _ _) (by omega) ?_
  refine stage 2 _ _ _ (by omega) ((hc1 _ _ _).trans (hc1 _ _ _)) (by omega) ?_
  refine stage 3 _ _ _ (by omega) (((hc1 _ _ _).trans (hc1 _ _ _)).trans (hc1 _ _ _)) (by omega) ?_
  show wB_X4_takeOffAll_2 p c1 _ _ 4 _
  unfold wB_X4_takeOffAll_2
  refine ⟨rg_sm (by omega) (by omega), ?_⟩
  rw [if_pos (by omega)]
  exact h
theorem s_carveM {y : Mm} {p : Nat} {post : Int → Mm → Prop} (hp : p < 4) (n : Nat → Nat) (he : ∀ i, i < 4 → y 74 i = y 61 (4 * p + i) - (n i : Int)) (ht : ∀ i, i < 4 → 1 ≤ y 61 (4 * p + i) ∧ y 61 (4 * p + i) ≤ 9) (hl : 0 ≤ y 62 p ∧ y 62 p + (n 0 + n 1 + n 2 + n 3 : Nat) ≤ 20) (h : post (y 60 19) (itM p 3 (n 3) (itM p 2 (n 2) (itM p 1 (n 1) (itM p 0 (n 0) y))))) : ∃ m : Nat, lk2 (wB_X8_carve_62 (p : Int) (wX_X8_carve_62 post)) m 0 y := by
  have ho : ∀ k m (z : Mm) c, c ≠ 61 → c ≠ 62 → c ≠ 63 → itM p k m z c = z c := fun k m z c a b d => itM_o a b d
  have stage : ∀ (k : Nat) (z : Mm) (kx bk : Int → Mm → Prop), k < 4 → z 74 = y 74 → z 61 (4 * p + k) = y 61 (4 * p + k) → (0 ≤ z 62 p ∧ z 62 p + n k ≤ 20) → bk ((k : Int) + 1) (itM p k (n k) z) → wB_X8_carve_62 (p : Int) kx bk (k : Int) z := by
    intro k z kx bk hk h74 h61 hlz hbk
    unfold wB_X8_carve_62
    refine ⟨rg_sm (by omega) (by omega), ?_⟩
    rw [if_neg (by omega)]
    have ek : ((k : Int)).toNat = k := by omega
    have ep : ((p : Int)).toNat = p := by omega
    have epk : (4 * (p : Int) + (k : Int)).toNat = 4 * p + k := by omega
    have hek := he k hk
    have htk := ht k hk
    refine lk1_inv (fun z2 => ∃ m : Nat, m ≤ n k ∧ z2 = itM p k m z) (fun z2 => (100 + z2 61 (4 * p + k)).toNat) ?_ _ ⟨0, by omega, rfl⟩
    rintro bk2 z2 ⟨m, hm, rfl⟩ hbk2
    have i1 := itM_1 p k m (4 * p + k) z
    rw [if_pos rfl] at i1
    have i0 := itM_0 p k m z
    unfold wB_X8_carve_67
    rw [ek, epk, i1, ho _ _ _ 74 (by decide) (by decide) (by decide), h74, h61, hek]
    refine ⟨by omega, by omega, ⟨rg_sm (by omega) (by omega), rg_sm (by omega) (by omega)⟩, ?_⟩
    by_cases e : n k ≤ m
    · rw [if_pos (by omega)]
      unfold wX_X8_carve_67
      intro v hv
      rw [hv, show m = n k by omega]
      exact hbk
    · rw [if_neg (by omega)]
      refine s_shaveOff (by omega) (by omega) (by rw [ep]; omega) ?_
      rw [ek, ep]
      have i2 := itM_1 p k (m + 1) (4 * p + k) z
      rw [if_pos rfl] at i2
      refine hbk2 _ ⟨m + 1, by omega, rfl⟩ ?_
      have i2' : tkM (itM p k m z) p k 61 (4 * p + k) = z 61 (4 * p + k) - ((m + 1 : Nat) : Int) := i2
      omega
  have i0 := itM_0 p 0 (n 0) y
  have i1 := itM_0 p 1 (n 1) (itM p 0 (n 0) y)
  have i2 := itM_0 p 2 (n 2) (itM p 1 (n 1) (itM p 0 (n 0) y))
  have o74 : ∀ k m (z : Mm), itM p k m z 74 = z 74 := fun k m z => itM_o (by decide) (by decide) (by decide)
  have o61 : ∀ k m (z : Mm) j, j ≠ k → itM p k m z 61 (4 * p + j) = z 61 (4 * p + j) := fun k m z j hj => by rw [itM_1, if_neg (by omega)]
  refine ⟨5, ?_⟩
  refine stage 0 y _ _ (by omega) rfl rfl (by omega) ?_
  refine stage 1 _ _ _ (by omega) (o74 _ _ _) (o61 _ _ _ _ (by omega)) (by omega) ?_
  refine stage 2 _ _ _ (by omega) ((o74 _ _ _).trans (o74 _ _ _)) ((o61 _ _ _ _ (by omega)).trans (o61 _ _ _ _ (by omega))) (by omega) ?_
  refine stage 3 _ _ _ (by omega) (((o74 _ _ _).trans (o74 _ _ _)).trans (o74 _ _ _)) (((o61 _ _ _ _ (by omega)).trans (o61 _ _ _ _ (by omega))).trans (o61 _ _ _ _ (by omega))) (by omega) ?_
  show wB_X8_carve_62 (p : Int) _ _ 4 _
  unfold wB_X8_carve_62
  refine ⟨rg_sm (by omega) (by omega), ?_⟩
  rw [if_pos (by omega)]
  unfold wX_X8_carve_62
  have e60 : itM p 3 (n 3) (itM p 2 (n 2) (itM p 1 (n 1) (itM p 0 (n 0) y))) 60 = y 60 := by
    rw [ho _ _ _ 60 (by decide) (by decide) (by decide), ho _ _ _ 60 (by decide) (by decide) (by decide), ho _ _ _ 60 (by decide) (by decide) (by decide), ho _ _ _ 60 (by decide) (by decide) (by decide)]
  rw [e60]
  exact h
theorem sim_carve {x y : Mm} {a : Int} (hR : Rel x y) (ha : rg a) : w_X7_carve a x (fun r x' => w_X8_carve a y (Sm x' r)) := by
  have hn := hR.n
  have hl := hR.2.2.2.1.1.1
  have hlen := fl_len (cft x) 81
  unfold w_X7_carve
  refine t_isPlate ha hR.rn (fun g1 => gT ?_) (fun g1 => gF ?_)
  · refine ⟨rg_sm (by omega) (by omega), ?_⟩
    by_cases h0 : x 2 4 = 0
    · rw [if_pos h0]
      show w_X8_carve a y (Sm x (-3))
      unfold w_X8_carve
      refine t_isPlateM ha hn.2 (fun _ => gT ?_) (fun q => absurd (by omega) q)
      refine s_findWoods hR.2.2.1 (fun y' ho hM => ?_)
      have := hM.1
      refine ⟨rg_sm (by omega) (by omega), ?_⟩
      rw [if_pos (by omega)]
      exact ⟨rfl, rgm.2.2.1, hR.sc (scC.rf x) ho.sc⟩
    · rw [if_neg h0]
      refine s_makePlan hR (by omega) (fun x' hR' ox hP => ?_)
      obtain ⟨p, hpe⟩ : ∃ p : Nat, a = (p : Int) := ⟨a.toNat, by omega⟩
      subst hpe
      have ep : ((p : Int)).toNat = p := by omega
      have hst := (hR.st (a := (p : Int)) (by omega))
      have hbd := IsP_bd hst.1 (by have := hR.1.2.1; omega) hP
      obtain ⟨L1, L2, L3⟩ := hR'.2.1 p (by omega)
      intro made hmade
      have hrm : rg made := by rw [hmade]; rcases hbd with z | z <;> exact rg_sm (by omega) (by omega)
      refine ⟨hrm, ?_⟩
      rw [ep]
      by_cases e : made = -1
      · rw [if_pos e]
        show w_X8_carve (p : Int) y (Sm x' (-3))
        unfold w_X8_carve
        refine t_isPlateM ha hn.2 (fun _ => gT ?_) (fun q => absurd (by omega) q)
        refine plan_core hR hR' (by omega) h0 hP (fun y2 k3 k4 k5 => ?_)
        refine ⟨by rw [k4, ← hmade]; exact hrm, ?_⟩
        rw [if_pos (by omega)]
        exact ⟨rfl, rgm.2.2.1, hR'.sc (scC.rf x') k3⟩
      · rw [if_neg e]
        have hb2 : (0 ≤ made ∧ made ≤ 36) := by rcases hbd with z | z <;> omega
        refine ⟨by omega, rg_sm (by omega) (by omega), ?_⟩
        by_cases hf : x' (20 + 3 * p) 2 + made ≤ 20
        · rw [if_pos hf]
          refine ⟨by omega, ?_⟩
          have k6 : made = x' 13 0 + x' 13 1 + x' 13 2 + x' 13 3 ∧ ∀ i, i < 4 → 0 ≤ x' 13 i := by
            rcases hbd with z | ⟨z1, z2, z3⟩
            · omega
            · rw [ep] at z2 z3
              refine ⟨?_, fun i hi => ?_⟩
              · rw [hmade, z2]; unfold sm4; dsimp only; omega
              · have a1 := z3 i hi
                try dsimp only at a1
                omega
          have q0 := k6.2 0 (by omega); have q1 := k6.2 1 (by omega); have q2 := k6.2 2 (by omega); have q3 := k6.2 3 (by omega)
          refine s_takeOffAll (by omega) (fun i => (x' 13 i).toNat) (fun i hi => by have := k6.2 i hi; show x' 13 i = ((x' 13 i).toNat : Int); omega) (by omega) ?_
          intro x2 e2
          show w_X8_carve (p : Int) y (Sm x2 made)
          unfold w_X8_carve
          refine t_isPlateM ha hn.2 (fun _ => gT ?_) (fun q => absurd (by omega) q)
          refine plan_core hR hR' (by omega) h0 hP (fun y2 k3 k4 k5 => ?_)
          rw [ep] at k5 ⊢
          refine ⟨by rw [k4, ← hmade]; exact hrm, ?_⟩
          rw [if_neg (by omega)]
          have hR2 : Rel x' y2 := hR'.sc (scC.rf x') k3
          have e61 : y2 61 = y 61 := k3.1 61 (by decide) (by decide) (by decide) (by decide) (by decide)
          have e62 : y2 62 = y 62 := k3.1 62 (by decide) (by decide) (by decide) (by decide) (by decide)
          have e600 : y2 60 0 = y 60 0 := k3.2 0 (by decide) (by decide)
          rw [e62, k4]
          refine ⟨by omega, rg_sm (by omega) (by omega), ?_⟩
          rw [if_pos (by omega)]
          have k7 : ∀ i, i < 4 → 0 ≤ x' 13 i ∧ x' 13 i + 1 ≤ y 61 (4 * p + i) ∧ y2 74 i = y 61 (4 * p + i) - x' 13 i := by
            rcases k5 with z | z
            · omega
            · exact z.2.2
          refine s_carveM (by omega) (fun i => (x' 13 i).toNat) (fun i hi => by have := k7 i hi; rw [e61]; show y2 74 i = y 61 (4 * p + i) - ((x' 13 i).toNat : Int); omega) (fun i hi => by
            have := (hR.2.1.tok (p := p) (by omega) (by omega)).1 i hi
            rw [e61]; exact this) (by rw [e62]; omega) ?_
          rw [k4]
          refine ⟨hmade, hrm, ?_⟩
          have m0 := k7 0 (by omega); have m1 := k7 1 (by omega); have m2 := k7 2 (by omega); have m3 := k7 3 (by omega)
          try dsimp only at e2 ⊢
          generalize hn0 : (x' 13 0).toNat = n0 at e2 ⊢
          generalize hn1 : (x' 13 1).toNat = n1 at e2 ⊢
          generalize hn2 : (x' 13 2).toNat = n2 at e2 ⊢
          generalize hn3 : (x' 13 3).toNat = n3 at e2 ⊢
          have o60 : ∀ k m (z : Mm), itM p k m z 60 = z 60 := fun k m z => itM_o (by decide) (by decide) (by decide)
          have o61 : ∀ k m (z : Mm) j, j ≠ k → itM p k m z 61 (4 * p + j) = z 61 (4 * p + j) := fun k m z j hj => by rw [itM_1, if_neg (by omega)]
          have A0 := R1_it (n := n0) (k := 0) (p := p) hR2.2.1 (by omega) (by omega) (by omega) (by rw [e62]; omega) (by rw [e61]; omega)
          have i0 := itM_0 p 0 n0 y2
          have A1 := R1_it (n := n1) (k := 1) (p := p) A0 (by omega) (by rw [o60]; omega) (by omega) (by rw [i0, e62]; omega) (by rw [o61 _ _ _ _ (by omega), e61]; omega)
          have i1 := itM_0 p 1 n1 (itM p 0 n0 y2)
          have A2 := R1_it (n := n2) (k := 2) (p := p) A1 (by omega) (by rw [o60, o60]; omega) (by omega) (by rw [i1, i0, e62]; omega) (by rw [o61 _ _ _ _ (by omega), o61 _ _ _ _ (by omega), e61]; omega)
          have i2 := itM_0 p 2 n2 (itM p 1 n1 (itM p 0 n0 y2))
          have A3 := R1_it (n := n3) (k := 3) (p := p) A2 (by omega) (by rw [o60, o60, o60]; omega) (by omega) (by rw [i2, i1, i0, e62]; omega) (by rw [o61 _ _ _ _ (by omega), o61 _ _ _ _ (by omega), o61 _ _ _ _ (by omega), e61]; omega)
          have oC : ∀ c, c ≠ 20 + 3 * p → c ≠ 20 + 3 * p + 1 → c ≠ 20 + 3 * p + 2 → itC p 3 n3 (itC p 2 n2 (itC p 1 n1 (itC p 0 n0 x'))) c = x' c := fun c a b d => by rw [itC_o a b d, itC_o a b d, itC_o a b d, itC_o a b d]
          have oM : ∀ c, c ≠ 61 → c ≠ 62 → c ≠ 63 → itM p 3 n3 (itM p 2 n2 (itM p 1 n1 (itM p 0 n0 y2))) c = y2 c := fun c a b d => by rw [itM_o a b d, itM_o a b d, itM_o a b d, itM_o a b d]
          have xo : ∀ q, q ≠ 12 → (q < 20 ∨ 32 ≤ q) → x2 q = x' q := fun q h1 h2 => by subst e2; rw [up2_row h1, oC q (by omega) (by omega) (by omega)]
          refine hR2.plates (fun q h1 h2 h3 => xo q h2 h3) (fun q h1 h2 h3 h4 => oM q h2 h3 h4) (by rw [oM 60 (by decide) (by decide) (by decide)]) ?_ ?_ (fun hm => ?_)
          · exact R0_c hR2.1 (xo 0 (by decide) (by omega)) (by rw [oM 60 (by decide) (by decide) (by decide)]) (by rw [oM 60 (by decide) (by decide) (by decide)]) (by rw [oM 60 (by decide) (by decide) (by decide)])
          · exact R1_c A3 (fun q h1 h2 => by subst e2; rw [up2_row (by omega)]) rfl rfl rfl rfl
          · exact Or.inl (by subst e2; rw [up2_s])
        · rw [if_neg hf]
          show w_X8_carve (p : Int) y (Sm x' (-4))
          unfold w_X8_carve
          refine t_isPlateM ha hn.2 (fun _ => gT ?_) (fun q => absurd (by omega) q)
          refine plan_core hR hR' (by omega) h0 hP (fun y2 k3 k4 k5 => ?_)
          rw [ep]
          refine ⟨by rw [k4, ← hmade]; exact hrm, ?_⟩
          rw [if_neg (by omega)]
          have e62 : y2 62 = y 62 := k3.1 62 (by decide) (by decide) (by decide) (by decide) (by decide)
          rw [e62, k4]
          refine ⟨by omega, rg_sm (by omega) (by omega), ?_⟩
          rw [if_neg (by omega)]
          exact ⟨rfl, rgm.2.2.2, hR'.sc (scC.rf x') k3⟩
  · show w_X8_carve a y (Sm x (-2))
    unfold w_X8_carve
    exact t_isPlateM ha hn.2 (fun q => absurd (by omega) g1) (fun _ => gF ⟨rfl, rgm.2.1, hR⟩)
