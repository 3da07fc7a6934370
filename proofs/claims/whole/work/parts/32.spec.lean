/-! WHAT THE METHODS OF THE TONES DO: the class's -/
theorem rg_sm {a : Int} (h1 : -1000000 ≤ a) (h2 : a ≤ 1000000) : rg a := ⟨by omega, by omega⟩
theorem rl_rg {a : Int} (h : rg a) : rl a := ⟨by have := h.1; omega, by have := h.2; omega⟩
theorem s_bondAt {c1 : Nat} {x : Mm} {s : Int} {i : Nat} {post : Int → Mm → Prop} (ht : tok (x c1)) (hs : sok s) (hi : i ≤ 4) (h : post (bnd (x c1) s i) x) : w_X5_bondAt c1 s (i : Int) x post := by
  unfold w_X5_bondAt
  have hr : rg (i : Int) := rg_sm (by omega) (by omega)
  have hcb : ∀ k, k < 4 → rg (cub s (x c1 k)) ∧ 0 ≤ cub s (x c1 k) := fun k hk => by
    have := cub_bd hs (ht k hk).1 (ht k hk).2
    exact ⟨rg_sm (by omega) (by omega), this.1⟩
  unfold bnd at h
  refine ⟨hr, ?_⟩
  by_cases h0 : i = 0
  · subst h0
    rw [if_pos (by omega)]
    refine ⟨hr, ?_⟩
    rw [if_neg (by omega)]
    intro v hv
    subst hv
    rw [if_pos rfl] at h
    exact ⟨hcb 0 (by omega), h⟩
  · rw [if_neg (by omega)]
    refine ⟨hr, ?_⟩
    rw [if_neg h0] at h
    by_cases h4 : i = 4
    · subst h4
      rw [if_neg (by omega)]
      refine ⟨hr, ?_⟩
      rw [if_pos (by omega)]
      intro v hv
      subst hv
      rw [if_pos (by omega)] at h
      exact ⟨hcb 3 (by omega), h⟩
    · rw [if_pos (by omega)]
      rw [if_neg (by omega)] at h
      have e1 : ((i : Int) - 1).toNat = i - 1 := by omega
      have e2 : ((i : Int)).toNat = i := by omega
      rw [e1, e2]
      have hk1 := ht (i - 1) (by omega)
      have hk2 := ht i (by omega)
      refine ⟨by omega, by omega, ⟨rg_sm (by omega) (by omega), rg_sm (by omega) (by omega)⟩, ?_⟩
      unfold mn2 at h
      by_cases hc : x c1 i ≤ x c1 (i - 1)
      · rw [if_pos hc] at h ⊢
        refine ⟨by omega, ?_⟩
        intro v hv
        subst hv
        exact ⟨hcb i (by omega), h⟩
      · rw [if_neg hc] at h ⊢
        refine ⟨by omega, ?_⟩
        intro v hv
        subst hv
        exact ⟨hcb (i - 1) (by omega), h⟩
/-- the states from strip to strip -/
def zz (t : Nat → Int) (s y : Int) : Nat → Sn
  | 0 => z1 t s y
  | i + 1 => sn (bnd t s (i + 1)) (y * t (i + 1)) (zz t s y i)
theorem sn_fst (b μ ν : Int) (z : Sn) : (sn b μ z).1 = (sn b ν z).1 := by unfold sn; split <;> rfl
theorem zz_cn (t : Nat → Int) (s y : Int) : (zz t s y 4).1 = cn t s y := sn_fst _ _ _ _
/-- the loop's numbers are the state's, but for a sign -/
def VI (t : Nat → Int) (s y : Int) (i : Nat) (ch ng bf m : Int) : Prop := (ng = 0 ∨ ng = 1) ∧ zz t s y i = (ch, (1 - 2 * ng) * (bnd t s i * (m - bnd t s i * bf) - y * t i * m), (1 - 2 * ng) * m)
theorem VI_go {b b' μ μ' ch ng bf m g : Int} (hn : ng = 0 ∨ ng = 1) (hg : g = (b + b' - μ) * m - b * b * bf) : sn b' μ' (ch, (1 - 2 * ng) * (b * (m - b * bf) - μ * m), (1 - 2 * ng) * m) = if (1 - 2 * ng) * g < 0 then (ch + 1, (1 - 2 * (1 - ng)) * (b' * (g - b' * m) - μ' * g), (1 - 2 * (1 - ng)) * g) else (ch, (1 - 2 * ng) * (b' * (g - b' * m) - μ' * g), (1 - 2 * ng) * g) := by
  have e : (1 - 2 * ng) * (b * (m - b * bf) - μ * m) + b' * ((1 - 2 * ng) * m) = (1 - 2 * ng) * g := by rw [hg]; grind
  unfold sn
  dsimp only
  rw [e]
  split
  · refine Prod.ext rfl (Prod.ext ?_ ?_)
    · show -(b' * ((1 - 2 * ng) * (b * (m - b * bf) - μ * m)) - μ' * ((1 - 2 * ng) * g)) = (1 - 2 * (1 - ng)) * (b' * (g - b' * m) - μ' * g)
      have e2 : (1 - 2 * ng) * (b * (m - b * bf) - μ * m) = (1 - 2 * ng) * g - b' * ((1 - 2 * ng) * m) := by omega
      rw [e2]; grind
    · show -((1 - 2 * ng) * g) = (1 - 2 * (1 - ng)) * g
      grind
  · refine Prod.ext rfl (Prod.ext ?_ rfl)
    show b' * ((1 - 2 * ng) * (b * (m - b * bf) - μ * m)) - μ' * ((1 - 2 * ng) * g) = (1 - 2 * ng) * (b' * (g - b' * m) - μ' * g)
    have e2 : (1 - 2 * ng) * (b * (m - b * bf) - μ * m) = (1 - 2 * ng) * g - b' * ((1 - 2 * ng) * m) := by omega
    rw [e2]; grind
theorem VI_0 (t : Nat → Int) (s y : Int) : VI t s y 0 0 0 0 1 := by
  refine ⟨Or.inl rfl, ?_⟩
  show (0, bnd t s 0 - y * t 0, 1) = _
  refine Prod.ext rfl (Prod.ext ?_ ?_)
  · show bnd t s 0 - y * t 0 = (1 - 2 * 0) * (bnd t s 0 * (1 - bnd t s 0 * 0) - y * t 0 * 1)
    grind
  · rfl
theorem VI_keep {t : Nat → Int} {s y : Int} {i : Nat} {ch ng bf m g : Int} (h : VI t s y i ch ng bf m) (hg : g = (bnd t s i + bnd t s (i + 1) - y * t i) * m - bnd t s i * bnd t s i * bf) (hp : (ng = 0 ∧ 0 ≤ g) ∨ (ng = 1 ∧ g ≤ 0)) : VI t s y (i + 1) ch ng m g := by
  refine ⟨h.1, ?_⟩
  show sn _ _ (zz t s y i) = _
  rw [h.2, VI_go h.1 hg, if_neg]
  rcases hp with ⟨h1, h2⟩ | ⟨h1, h2⟩ <;> subst h1 <;> omega
theorem VI_flip {t : Nat → Int} {s y : Int} {i : Nat} {ch ng bf m g : Int} (h : VI t s y i ch ng bf m) (hg : g = (bnd t s i + bnd t s (i + 1) - y * t i) * m - bnd t s i * bnd t s i * bf) (hp : (ng = 0 ∧ g < 0) ∨ (ng = 1 ∧ 0 < g)) : VI t s y (i + 1) (ch + 1) (1 - ng) m g := by
  refine ⟨by have := h.1; omega, ?_⟩
  show sn _ _ (zz t s y i) = _
  rw [h.2, VI_go h.1 hg, if_pos]
  rcases hp with ⟨h1, h2⟩ | ⟨h1, h2⟩ <;> subst h1 <;> omega
/-- bounds of the minors -/
def KB (i : Nat) : Int := ([1, 40581, 1647491602, 66884209958583, 2715338601216160405] : List Int).getD i 0
def KC (i : Nat) : Int := ([0, 1, 40581, 1647491602, 66884209958583] : List Int).getD i 0
def abd (a A : Int) : Prop := -A ≤ a ∧ a ≤ A
theorem abd_mul {a b A B : Int} (ha : abd a A) (hb : abd b B) : abd (a * b) (A * B) := by
  have hA : 0 ≤ A := by have := ha.1; have := ha.2; omega
  have hB : 0 ≤ B := by have := hb.1; have := hb.2; omega
  have h1 : a.natAbs ≤ A.natAbs := by have := ha.1; have := ha.2; omega
  have h2 : b.natAbs ≤ B.natAbs := by have := hb.1; have := hb.2; omega
  have h3 : (a * b).natAbs ≤ (A * B).natAbs := by rw [Int.natAbs_mul, Int.natAbs_mul]; exact Nat.mul_le_mul h1 h2
  have h4 : 0 ≤ A * B := Int.mul_nonneg hA hB
  constructor <;> omega
theorem KB_go : ∀ i : Fin 4, 40581 * KB i.val + 674041 * KC i.val ≤ KB (i.val + 1) ∧ KB i.val = KC (i.val + 1) ∧ KB (i.val + 1) < 9223372036854775807 := by decide +kernel
theorem g_bd {t : Nat → Int} {s y : Int} (ht : tok t) (hs : sok s) (hy0 : 0 ≤ y) (hy1 : y ≤ 4509) {i : Nat} (hi : i < 4) {m bf : Int} (hm : abd m (KB i)) (hbf : abd bf (KC i)) : abd ((bnd t s i + bnd t s (i + 1) - y * t i) * m - bnd t s i * bnd t s i * bf) (KB (i + 1)) ∧ abd m (KC (i + 1)) ∧ rl ((bnd t s i + bnd t s (i + 1) - y * t i) * m - bnd t s i * bnd t s i * bf) := by
  have b1 := bnd_bd ht hs i
  have b2 := bnd_bd ht hs (i + 1)
  have ht1 := ht i hi
  have hyt := mul_bd (a := y) (b := t i) hy0 (by omega) hy1 ht1.2
  have d1 : abd (bnd t s i + bnd t s (i + 1) - y * t i) 40581 := ⟨by omega, by omega⟩
  have d2 := abd_mul d1 hm
  have d3 : abd (bnd t s i * bnd t s i) 674041 := by
    have := mul_bd (a := bnd t s i) (b := bnd t s i) (by omega) (by omega) b1.2 b1.2
    exact ⟨by omega, by omega⟩
  have d4 := abd_mul d3 hbf
  have k := KB_go ⟨i, hi⟩
  dsimp only at k
  obtain ⟨k1, k2, k3⟩ := k
  have d2a := d2.1; have d2b := d2.2; have d4a := d4.1; have d4b := d4.2
  refine ⟨⟨by omega, by omega⟩, ?_, ⟨by omega, by omega⟩⟩
  rw [← k2]; exact hm
theorem s_valuesBelow {c1 : Nat} {x : Mm} {s y : Int} {post : Int → Mm → Prop} (ht : tok (x c1)) (hs : sok s) (hy0 : 0 ≤ y) (hy1 : y ≤ 1000000) (h : post (cn (x c1) s y) x) : w_X5_valuesBelow c1 s y x post := by
  unfold w_X5_valuesBelow
  have hry : rg y := rg_sm (by omega) (by omega)
  refine ⟨hry, ?_⟩
  by_cases h0 : 0 < y
  · rw [if_pos h0]
    refine ⟨hry, ?_⟩
    by_cases h5 : y < 512
    · rw [if_pos h5]
      refine s_bondAt (i := 0) ht hs (by omega) ?_
      have b0 := bnd_bd ht hs 0
      refine ⟨rg_sm (by omega) (by omega), ?_⟩
      refine lk7_inv (fun ch ng bf m bo i x' => x' = x ∧ ∃ j : Nat, i = (j : Int) ∧ j ≤ 4 ∧ bo = bnd (x c1) s j ∧ VI (x c1) s y j ch ng bf m ∧ abd m (KB j) ∧ abd bf (KC j)) (fun _ _ _ _ _ i _ => (4 - i).toNat) ?_ _ _ _ _ _ _ _ ⟨rfl, 0, rfl, by omega, rfl, VI_0 _ _ _, ⟨by decide, by decide⟩, ⟨by decide, by decide⟩⟩
      rintro bk ch ng bf m bo i x' ⟨rfl, j, rfl, hj, rfl, hV, hm, hbf⟩ hbk
      unfold wB_X5_valuesBelow_38
      have hrj : rg (j : Int) := rg_sm (by omega) (by omega)
      refine ⟨hrj, ?_⟩
      by_cases h4 : j = 4
      · subst h4
        rw [if_pos (by omega)]
        unfold wX_X5_valuesBelow_38
        have e := congrArg Prod.fst hV.2
        rw [zz_cn] at e
        dsimp only at e
        rw [← e]
        exact h
      · have hj4 : j < 4 := by omega
        rw [if_neg (by omega)]
        refine s_bondAt (i := j + 1) ht hs (by omega) ?_
        have b1 := bnd_bd ht hs (j + 1)
        have htj := ht j hj4
        have e2 : ((j : Int)).toNat = j := by omega
        rw [e2]
        refine ⟨rg_sm (by omega) (by omega), hry, by omega, rg_sm (by omega) (by omega), ?_⟩
        intro dg hdg g hg
        have hg' : g = (bnd (x' c1) s j + bnd (x' c1) s (j + 1) - y * x' c1 j) * m - bnd (x' c1) s j * bnd (x' c1) s j * bf := by rw [hg, hdg]
        have hB := g_bd ht hs hy0 (by omega) hj4 hm hbf
        rw [← hg'] at hB
        have hng : rg ng := by have := hV.1; exact rg_sm (by omega) (by omega)
        have go : ∀ ch' ng', VI (x' c1) s y (j + 1) ch' ng' m g → ∀ v, v = (j : Int) + 1 → bk ch' ng' m g (bnd (x' c1) s (j + 1)) v x' := by
          intro ch' ng' hV' v hv
          subst hv
          exact hbk _ _ _ _ _ _ _ ⟨rfl, j + 1, by omega, by omega, rfl, hV', hB.1, hB.2.1⟩ (by omega)
        refine ⟨hB.2.2, ?_⟩
        have hng01 := hV.1
        by_cases hg0 : g = 0
        · rw [if_pos hg0]
          exact go _ _ (VI_keep hV hg' (by omega))
        · rw [if_neg hg0]
          refine ⟨hB.2.2, ?_⟩
          by_cases hgp : 0 ≤ g
          · rw [if_pos hgp]
            refine ⟨hng, ?_⟩
            rcases hng01 with e | e
            · subst e
              rw [if_pos rfl]
              exact go _ _ (VI_keep hV hg' (by omega))
            · subst e
              rw [if_neg (by decide)]
              refine ⟨hng, ?_⟩
              rw [if_neg (by decide)]
              intro v hv
              subst hv
              exact go _ _ (VI_flip hV hg' (by omega))
          · rw [if_neg hgp]
            refine ⟨hng, ?_⟩
            rcases hng01 with e | e
            · subst e
              rw [if_neg (by decide)]
              refine ⟨hng, ?_⟩
              rw [if_pos rfl]
              intro v hv
              subst hv
              exact go _ _ (VI_flip hV hg' (by omega))
            · subst e
              rw [if_pos rfl]
              exact go _ _ (VI_keep hV hg' (by omega))
    · rw [if_neg h5]
      rw [cn_far ht hs (by omega)] at h
      exact h
  · rw [if_neg h0]
    have : y = 0 := by omega
    subst this
    rw [cn_0 ht hs] at h
    exact h
theorem s_wholeValue {c1 : Nat} {x : Mm} {s k : Int} {post : Int → Mm → Prop} (ht : tok (x c1)) (hs : sok s) (hk : 0 ≤ k ∧ k < 4) (h : post (Vv (x c1) s k) x) : w_X5_wholeValue c1 s k x post := by
  unfold w_X5_wholeValue
  have hV := Vv_bd ht hs hk.1
  refine lk3_inv (fun w st x' => x' = x ∧ 0 ≤ w ∧ w ≤ Vv (x c1) s k ∧ ∃ j : Nat, j ≤ 9 ∧ st = ((2 ^ j / 2 : Nat) : Int) ∧ Vv (x c1) s k < w + ((2 ^ j : Nat) : Int)) (fun _ st _ => st.toNat) ?_ _ _ _ ⟨rfl, by omega, by omega, 9, by omega, by decide, by show _ < (0 : Int) + 512; omega⟩
  rintro bk w st x' ⟨rfl, hw0, hwV, j, hj, rfl, hlt⟩ hbk
  unfold wB_X5_wholeValue_7
  have hp : (2 ^ j : Nat) ≤ 512 := by
    have : 2 ^ j ≤ 2 ^ 9 := Nat.pow_le_pow_right (by decide) hj
    simpa using this
  have hr : rg ((2 ^ j / 2 : Nat) : Int) := rg_sm (by omega) (by omega)
  refine ⟨hr, ?_⟩
  by_cases h0 : j = 0
  · subst h0
    rw [if_pos (by decide)]
    unfold wX_X5_wholeValue_7
    have : w = Vv (x' c1) s k := by
      have e : ((2 ^ 0 : Nat) : Int) = 1 := rfl
      omega
    rw [this]; exact h
  · obtain ⟨i, rfl⟩ : ∃ i, j = i + 1 := ⟨j - 1, by omega⟩
    have e1 : 2 ^ (i + 1) / 2 = 2 ^ i := by rw [Nat.pow_succ]; omega
    have e2 : 2 ^ (i + 1) = 2 ^ i + 2 ^ i := by rw [Nat.pow_succ]; omega
    have hpos : 0 < 2 ^ i := Nat.pow_pos (by decide)
    rw [e1] at *
    rw [e2] at hlt hp
    rw [if_neg (by omega)]
    refine s_valuesBelow ht hs (by omega) (by omega) ?_
    have hc := cn_bd (x' c1) s (w + ((2 ^ i : Nat) : Int))
    refine ⟨⟨rg_sm (by omega) (by omega), rg_sm (by omega) (by omega)⟩, ?_⟩
    have hiff := Vv_iff ht hs hk.1 hk.2 (w + ((2 ^ i : Nat) : Int))
    by_cases hc2 : k < cn (x' c1) s (w + ((2 ^ i : Nat) : Int))
    · rw [if_pos hc2]
      refine ⟨⟨rg_sm (by omega) (by omega), by omega⟩, ?_⟩
      intro v hv
      have hd : ((2 ^ i : Nat) : Int) / 2 = ((2 ^ i / 2 : Nat) : Int) := by omega
      refine hbk _ _ _ ⟨rfl, hw0, hwV, i, by omega, by rw [hv, hd], ?_⟩ ?_
      · have : ¬ (w + ((2 ^ i : Nat) : Int) ≤ Vv (x' c1) s k) := fun q => by have := hiff.mpr q; omega
        omega
      · rw [hv]; omega
    · rw [if_neg hc2]
      intro w' hw'
      refine ⟨⟨rg_sm (by omega) (by omega), by omega⟩, ?_⟩
      intro v hv
      have hd : ((2 ^ i : Nat) : Int) / 2 = ((2 ^ i / 2 : Nat) : Int) := by omega
      have := hiff.mp (by omega)
      refine hbk _ _ _ ⟨rfl, by omega, by omega, i, by omega, by rw [hv, hd], by omega⟩ ?_
      rw [hv]; omega
theorem s_byWeight {a w : Int} {x : Mm} {post : Int → Mm → Prop} (ha : 0 ≤ a ∧ a ≤ 1000000) (hw : sok w) (h : post (a / w) x) : w_X5_byWeight a w x post := by
  unfold w_X5_byWeight
  have := hw.1; have := hw.2
  refine ⟨rg_sm (by omega) (by omega), ?_⟩
  rw [if_neg (by omega)]
  exact ⟨⟨rg_sm (by omega) (by omega), rg_sm (by omega) (by omega), ha.1, by omega⟩, h⟩
