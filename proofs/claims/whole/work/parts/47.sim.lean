/-- the greatest heap of the first n of a row -/
def mxH (g : Nat → Int) : Nat → Int
  | 0 => 0
  | n + 1 => max (mxH g n) (cnL g (g n) (n + 1))
theorem cnL_le (r : Nat → Int) (k : Int) (n : Nat) : cnL r k n ≤ n := by
  induction n with
  | zero => exact Int.le_refl 0
  | succ n ih => unfold cnL; split <;> omega
theorem mxH_bd (g : Nat → Int) (n : Nat) : 0 ≤ mxH g n ∧ mxH g n ≤ n := by
  induction n with
  | zero => exact ⟨Int.le_refl 0, Int.le_refl 0⟩
  | succ n ih =>
    have := cnL_le g (g n) (n + 1)
    unfold mxH
    omega
theorem cnL_s (g : Nat → Int) (v : Int) (n : Nat) : cnL g v (n + 1) = cnL g v n + (if g n = v then 1 else 0) := rfl
theorem s_fill {x : Mm} {post : Mm → Prop} (h : ∀ x' : Mm, (∀ v, v < 512 → x' 17 v = 0) → (∀ c, c ≠ 17 → x' c = x c) → post x') : w_J7_fill_53178 17 0 x post := by
  unfold w_J7_fill_53178
  refine lk2_inv (fun i x' => ∃ j : Nat, i = (j : Int) ∧ j ≤ 512 ∧ (∀ v, v < j → x' 17 v = 0) ∧ (∀ c, c ≠ 17 → x' c = x c)) (fun i _ => (512 - i).toNat) ?_ _ _ ⟨0, rfl, by omega, fun v hv => by omega, fun _ _ => rfl⟩
  rintro bk i x' ⟨j, rfl, hj, h1, h2⟩ hbk
  unfold wB_J7_fill_53178_5
  refine ⟨rg_sm (by omega) (by omega), ?_⟩
  by_cases hc : j = 512
  · subst hc; rw [if_pos (by omega)]; exact h x' h1 h2
  · rw [if_neg (by omega)]
    have ej : ((j : Int)).toNat = j := by omega
    rw [ej]
    refine ⟨by omega, ?_⟩
    intro x2 e2 v hv
    refine hbk _ _ ⟨j + 1, by omega, by omega, fun v hv => ?_, fun c hcc => by subst e2; rw [up2_row hcc]; exact h2 c hcc⟩ (by omega)
    subst e2
    by_cases e : v = j
    · subst e; rw [up2_s]
    · rw [up2_k 17 e]; exact h1 v (by omega)
theorem s_greatest {f : Int → Int → Bool} {x : Mm} {t : Nat → Int} {k : Int} {post : Int → Mm → Prop} (hL : LI f x 81) (hv : ∀ s : Int, sok s → x 18 s.toNat = Vv t s k) (ht : tok t) (hk : 0 ≤ k) (h : ∀ x' : Mm, (∀ c, c ≠ 17 → x' c = x c) → post (mxH (fun i => tw t k ((fl f 81).getD i 0)) (fl f 81).length) x') : w_X1_greatest 18 x post := by
  have hlen := fl_len f 81
  unfold w_X1_greatest
  refine s_fill (fun x1 a1 a2 => ?_)
  refine lk3_inv (fun b i x' => ∃ j : Nat, i = (j : Int) ∧ j ≤ (fl f 81).length ∧ b = mxH (fun i => tw t k ((fl f 81).getD i 0)) j ∧ (∀ v : Nat, v < 512 → x' 17 v = cnL (fun i => tw t k ((fl f 81).getD i 0)) (v : Int) j) ∧ (∀ c, c ≠ 17 → x' c = x c)) (fun _ i _ => (81 - i).toNat) ?_ _ _ _ ⟨0, rfl, by omega, rfl, a1, a2⟩
  rintro bk b i x' ⟨j, rfl, hj, rfl, h1, h2⟩ hbk
  have hb := mxH_bd (fun i => tw t k ((fl f 81).getD i 0)) j
  have hl := hL.1
  unfold wB_X1_greatest_13
  rw [h2 2 (by decide)]
  refine ⟨⟨rg_sm (by omega) (by omega), rg_sm (by omega) (by omega)⟩, ?_⟩
  by_cases hc : x 2 4 ≤ (j : Int)
  · rw [if_pos hc]
    have : j = (fl f 81).length := by omega
    subst this
    exact h x' h2
  · rw [if_neg hc]
    have hj' : j < (fl f 81).length := by omega
    have hL' : LI f x' 81 := by unfold LI; rw [h2 2 (by decide), h2 4 (by decide), h2 5 (by decide)]; exact hL
    refine s_toneOfLeft hL' hj' (fun s hs => by rw [h2 18 (by decide)]; exact hv s hs) ht hk ?_
    have hT := tw_bd ht hk (fl_get hj').1
    generalize hz : tw t k ((fl f 81).getD j 0) = z at hT ⊢
    refine ⟨rg_sm (by omega) (by omega), ?_⟩
    rw [if_neg (by omega)]
    refine ⟨rg_sm (by omega) (by omega), ?_⟩
    rw [if_neg (by omega)]
    refine ⟨by omega, by omega, ?_⟩
    intro x2 e2
    have hcl := cnL_le (fun i => tw t k ((fl f 81).getD i 0)) z (j + 1)
    have hcn := cnL_nn (fun i => tw t k ((fl f 81).getD i 0)) z (j + 1)
    have ez : ((z.toNat : Nat) : Int) = z := by omega
    have hnew : x2 17 z.toNat = cnL (fun i => tw t k ((fl f 81).getD i 0)) z (j + 1) := by
      subst e2
      rw [up2_s, h1 z.toNat (by omega), cnL_s, ez, if_pos hz]
    rw [hnew]
    refine ⟨by omega, ⟨rg_sm (by omega) (by omega), rg_sm (by omega) (by omega)⟩, ?_⟩
    intro b2 hb2 v hvv
    refine hbk _ _ _ ⟨j + 1, by omega, by omega, ?_, fun v hv => ?_, fun c hcc => by subst e2; rw [up2_row hcc]; exact h2 c hcc⟩ (by omega)
    · rw [hb2]
      exact congrArg (fun q => max (mxH (fun i => tw t k ((fl f 81).getD i 0)) j) (cnL (fun i => tw t k ((fl f 81).getD i 0)) q (j + 1))) hz.symm
    · by_cases e : v = z.toNat
      · subst e; rw [hnew, ez]
      · subst e2
        rw [up2_k 17 e, h1 v hv, cnL_s, if_neg (fun q => by have : z = (v : Int) := hz.symm.trans q; omega)]
        omega
theorem s_greatestHeap {f : Int → Int → Bool} {y : Mm} {k : Int} {post : Int → Mm → Prop} (hM : ML f y 81) (ht : tok (y 71)) (hk : 0 ≤ k ∧ k < 4) (h : ∀ y' : Mm, (∀ c, c ≠ 73 → y' c = y c) → post (mxH (fun i => tw (y 71) k ((fl f 81).getD i 0)) (fl f 81).length) y') : w_X8_greatestHeap k y post := by
  have hlen := fl_len f 81
  unfold w_X8_greatestHeap
  refine lk2_inv (fun i y' => ∃ j : Nat, i = (j : Int) ∧ j ≤ 501 ∧ (∀ v, v < j → y' 73 v = 0) ∧ (∀ c, c ≠ 73 → y' c = y c)) (fun i _ => (501 - i).toNat) ?_ _ _ ⟨0, rfl, by omega, fun v hv => by omega, fun _ _ => rfl⟩
  rintro bk i y1 ⟨j, rfl, hj, h1, h2⟩ hbk
  unfold wB_X8_greatestHeap_2
  refine ⟨rg_sm (by omega) (by omega), ?_⟩
  by_cases hc : j = 501
  · subst hc; rw [if_pos (by omega)]
    unfold wX_X8_greatestHeap_2
    refine lk3_inv (fun b i y' => ∃ j : Nat, i = (j : Int) ∧ j ≤ (fl f 81).length ∧ b = mxH (fun i => tw (y 71) k ((fl f 81).getD i 0)) j ∧ (∀ v : Nat, v < 501 → y' 73 v = cnL (fun i => tw (y 71) k ((fl f 81).getD i 0)) (v : Int) j) ∧ (∀ c, c ≠ 73 → y' c = y c)) (fun _ i _ => (81 - i).toNat) ?_ _ _ _ ⟨0, rfl, by omega, rfl, h1, h2⟩
    rintro bk b i y' ⟨j, rfl, hj, rfl, g1, g2⟩ hbk
    have hb := mxH_bd (fun i => tw (y 71) k ((fl f 81).getD i 0)) j
    have hl := hM.1
    unfold wB_X8_greatestHeap_26
    rw [g2 60 (by decide)]
    refine ⟨⟨rg_sm (by omega) (by omega), rg_sm (by omega) (by omega)⟩, ?_⟩
    by_cases hc : y 60 15 ≤ (j : Int)
    · rw [if_pos hc]
      have : j = (fl f 81).length := by omega
      subst this
      exact h y' g2
    · rw [if_neg hc]
      have hj' : j < (fl f 81).length := by omega
      have hM' : ML f y' 81 := by unfold ML; rw [g2 60 (by decide), g2 72 (by decide)]; exact hM
      have e71 : y' 71 = y 71 := g2 71 (by decide)
      refine s_toneBy hM' hj' (by rw [e71]; exact ht) hk ?_
      rw [e71]
      have hT := tw_bd ht hk.1 (fl_get hj').1
      generalize hz : tw (y 71) k ((fl f 81).getD j 0) = z at hT ⊢
      refine ⟨by omega, by omega, ?_⟩
      intro y2 e2
      have hcl := cnL_le (fun i => tw (y 71) k ((fl f 81).getD i 0)) z (j + 1)
      have hcn := cnL_nn (fun i => tw (y 71) k ((fl f 81).getD i 0)) z (j + 1)
      have ez : ((z.toNat : Nat) : Int) = z := by omega
      have hnew : y2 73 z.toNat = cnL (fun i => tw (y 71) k ((fl f 81).getD i 0)) z (j + 1) := by
        subst e2
        rw [up2_s, g1 z.toNat (by omega), cnL_s, ez, if_pos hz]
      rw [hnew]
      refine ⟨by omega, ⟨rg_sm (by omega) (by omega), rg_sm (by omega) (by omega)⟩, ?_⟩
      have go : ∀ b2 v, b2 = max (mxH (fun i => tw (y 71) k ((fl f 81).getD i 0)) j) (cnL (fun i => tw (y 71) k ((fl f 81).getD i 0)) z (j + 1)) → v = (j : Int) + 1 → bk b2 v y2 := by
        intro b2 v hb2 hvv
        refine hbk _ _ _ ⟨j + 1, by omega, by omega, ?_, fun v hv => ?_, fun c hcc => by subst e2; rw [up2_row hcc]; exact g2 c hcc⟩ (by omega)
        · rw [hb2]
          exact congrArg (fun q => max (mxH (fun i => tw (y 71) k ((fl f 81).getD i 0)) j) (cnL (fun i => tw (y 71) k ((fl f 81).getD i 0)) q (j + 1))) hz.symm
        · by_cases e : v = z.toNat
          · subst e; rw [hnew, ez]
          · subst e2
            rw [up2_k 73 e, g1 v hv, cnL_s, if_neg (fun q => by have : z = (v : Int) := hz.symm.trans q; omega)]
            omega
      split
      · intro v hv
        exact go _ v (by omega) hv
      · refine ⟨by omega, ?_⟩
        intro b2 hb2 v hv
        exact go b2 v (by omega) hv
  · rw [if_neg (by omega)]
    have ej : ((j : Int)).toNat = j := by omega
    rw [ej]
    refine ⟨by omega, ?_⟩
    intro y2 e2 v hv
    refine hbk _ _ ⟨j + 1, by omega, by omega, fun v hv => ?_, fun c hcc => by subst e2; rw [up2_row hcc]; exact h2 c hcc⟩ (by omega)
    subst e2
    by_cases e : v = j
    · subst e; rw [up2_s]
    · rw [up2_k 73 e]; exact h1 v (by omega)
/-- the tone with the least heap, and its heap, among the tones 0 to k -/
def NX (m : Nat → Int) : Nat → Int × Int
  | 0 => (0, m 0)
  | k + 1 => if m (k + 1) < (NX m k).2 then (((k + 1 : Nat) : Int), m (k + 1)) else NX m k
theorem NX_bd {m : Nat → Int} {B : Int} (h : ∀ k, 0 ≤ m k ∧ m k ≤ B) (k : Nat) : (0 ≤ (NX m k).1 ∧ (NX m k).1 ≤ k) ∧ (0 ≤ (NX m k).2 ∧ (NX m k).2 ≤ B) := by
  induction k with
  | zero => exact ⟨⟨Int.le_refl 0, Int.le_refl 0⟩, h 0⟩
  | succ k ih =>
    unfold NX
    split
    · exact ⟨⟨by omega, by omega⟩, h (k + 1)⟩
    · exact ⟨by omega, ih.2⟩
theorem sim_next {x y : Mm} {a w : Int} (hR : Rel x y) (ha : rg a) (hw : rg w) : w_X7_next a w x (fun r x' => w_X8_next a w y (Sm x' r)) := by
  have hn := hR.n
  have hLI := hR.2.2.2.1.1
  have hl := hLI.1
  have hlen := fl_len (cft x) 81
  unfold w_X7_next
  refine t_isPlate ha hR.rn (fun g1 => gT ?_) (fun g1 => gF ?_)
  · refine t_isOneOfTwo hw (fun g3 => gT ?_) (fun g3 => gF ?_)
    · refine ⟨rg_sm (by omega) (by omega), ?_⟩
      by_cases h0 : x 2 4 = 0
      · rw [if_pos h0]
        show w_X8_next a w y (Sm x (-3))
        unfold w_X8_next
        refine t_isPlateM ha hn.2 (fun _ => gT ?_) (fun q => absurd (by omega) q)
        refine t_in hw ⟨by decide, by decide⟩ ⟨by decide, by decide⟩ (fun _ => gT ?_) (fun q => absurd (by omega) q)
        refine s_findWoods hR.2.2.1 (fun y' ho hM => ?_)
        have := hM.1
        refine ⟨rg_sm (by omega) (by omega), ?_⟩
        rw [if_pos (by omega)]
        exact ⟨rfl, rgm.2.2.1, hR.sc (scC.rf x) ho.sc⟩
      · rw [if_neg h0]
        obtain ⟨ht, he⟩ := hR.st (a := a) (by omega)
        intro v4 hv4
        generalize hm : (fun k : Nat => mxH (fun i => tw (x (20 + 3 * a.toNat + 1)) (k : Int) ((fl (cft x) 81).getD i 0)) (fl (cft x) 81).length) = m
        have hmb : ∀ k, 0 ≤ m k ∧ m k ≤ (((fl (cft x) 81).length : Nat) : Int) := fun k => by rw [← hm]; exact mxH_bd _ _
        refine lk4_inv (fun b lo k x' => scC x x' ∧ ∃ j : Nat, k = (j : Int) ∧ j ≤ 4 ∧ ((j = 0 ∧ b = 0 ∧ lo = v4) ∨ ∃ i, j = i + 1 ∧ b = (NX m i).1 ∧ lo = (NX m i).2)) (fun _ _ k _ => (4 - k).toNat) ?_ _ _ _ _ ⟨scC.rf x, 0, rfl, by omega, Or.inl ⟨rfl, rfl, rfl⟩⟩
        rintro bk b lo k x' ⟨hsc, j, rfl, hj, hst⟩ hbk
        unfold wB_X7_next_47
        refine ⟨rg_sm (by omega) (by omega), ?_⟩
        by_cases hj4 : j = 4
        · subst hj4
          rw [if_pos (by omega)]
          obtain ⟨i, hi, hb, hlo⟩ : ∃ i, 4 = i + 1 ∧ b = (NX m i).1 ∧ lo = (NX m i).2 := by
            rcases hst with z | z
            · omega
            · exact z
          have : i = 3 := by omega
          subst this
          have hNb := NX_bd hmb 3
          clear hst
          unfold wX_X7_next_47
          have mod : ∀ r, (w = 0 → r = (NX m 3).1) → (w = 1 → r = (NX m 3).2) → w_X8_next a w y (Sm x' r) := by
            intro r r0 r1
            unfold w_X8_next
            refine t_isPlateM ha hn.2 (fun _ => gT ?_) (fun q => absurd (by omega) q)
            refine t_in hw ⟨by decide, by decide⟩ ⟨by decide, by decide⟩ (fun _ => gT ?_) (fun q => absurd (by omega) q)
            refine s_findWoods hR.2.2.1 (fun y1 ho hM => ?_)
            have hM1 := hM.1
            refine ⟨rg_sm (by omega) (by omega), ?_⟩
            rw [if_neg (by omega)]
            refine m_take (by omega) (fun y2 p1 p2 => ?_)
            have hM2 := ML_71 hM p2
            have cg : ∀ i, i < 4 → y2 71 i = x (20 + 3 * a.toNat + 1) i := fun i hi => by rw [p1 i hi, ho.1 61 (by decide) (by decide) (by decide)]; exact he i hi
            have ht2 := tok_cg cg ht
            have hmk : ∀ k : Nat, mxH (fun i => tw (y2 71) (k : Int) ((fl (cft x) 81).getD i 0)) (fl (cft x) 81).length = m k := fun k => by rw [← hm, tw_cg cg]
            refine s_greatestHeap hM2 ht2 ⟨by omega, by omega⟩ (fun y3 o3 => ?_)
            have hm0 := hmk 0
            have e00 : ((0 : Nat) : Int) = 0 := rfl
            rw [e00] at hm0
            rw [hm0]
            refine lk4_inv (fun b lo k y' => (∀ c, c ≠ 73 → y' c = y2 c) ∧ ∃ j : Nat, k = ((j + 1 : Nat) : Int) ∧ j ≤ 3 ∧ b = (NX m j).1 ∧ lo = (NX m j).2) (fun _ _ k _ => (4 - k).toNat) ?_ _ _ _ _ ⟨o3, 0, rfl, by omega, rfl, rfl⟩
            rintro bk2 b2 lo2 k2 y4 ⟨o4, q, rfl, hq, rfl, rfl⟩ hbk2
            have hQb := NX_bd hmb q
            unfold wB_X8_next_55
            refine ⟨rg_sm (by omega) (by omega), ?_⟩
            by_cases hq3 : q = 3
            · subst hq3
              rw [if_pos (by omega)]
              unfold wX_X8_next_55
              have hR4 : Rel x' y4 := hR.sc hsc ((ho.sc.tr (scM71 p2)).tr ⟨fun c _ _ _ h _ => o4 c h, fun k _ _ => by rw [o4 60 (by decide)]⟩)
              refine ⟨hw, ?_⟩
              split
              · exact ⟨r0 (by omega), by rw [r0 (by omega)]; exact rg_sm (by omega) (by omega), hR4⟩
              · exact ⟨r1 (by omega), by rw [r1 (by omega)]; exact rg_sm (by omega) (by omega), hR4⟩
            · rw [if_neg (by omega)]
              have hM4 : ML (cft x) y4 81 := by unfold ML; rw [o4 60 (by decide), o4 72 (by decide)]; exact hM2
              have e71 : y4 71 = y2 71 := o4 71 (by decide)
              refine s_greatestHeap hM4 (by rw [e71]; exact ht2) ⟨by omega, by omega⟩ (fun y5 o5 => ?_)
              rw [e71, hmk (q + 1)]
              have hmb1 := hmb (q + 1)
              have o5' : ∀ c, c ≠ 73 → y5 c = y2 c := fun c hc => (o5 c hc).trans (o4 c hc)
              refine ⟨⟨rg_sm (by omega) (by omega), rg_sm (by omega) (by omega)⟩, ?_⟩
              by_cases hle : (NX m q).2 ≤ m (q + 1)
              · rw [if_pos hle]
                refine ⟨⟨rg_sm (by omega) (by omega), rg_sm (by omega) (by omega)⟩, ?_⟩
                rw [if_pos hle]
                intro v hv
                have hNX : NX m (q + 1) = NX m q := by show (if m (q + 1) < (NX m q).2 then _ else _) = _; rw [if_neg (by omega)]
                exact hbk2 _ _ _ _ ⟨o5', q + 1, by omega, by omega, by rw [hNX], by rw [hNX]⟩ (by omega)
              · rw [if_neg hle]
                refine ⟨⟨rg_sm (by omega) (by omega), rg_sm (by omega) (by omega)⟩, ?_⟩
                rw [if_neg hle]
                intro v hv
                have hNX : NX m (q + 1) = (((q + 1 : Nat) : Int), m (q + 1)) := by show (if m (q + 1) < (NX m q).2 then _ else _) = _; rw [if_pos (by omega)]
                exact hbk2 _ _ _ _ ⟨o5', q + 1, by omega, by omega, by rw [hNX], by rw [hNX]⟩ (by omega)
          refine ⟨hw, ?_⟩
          split
          · exact mod _ (fun _ => hb) (fun e => by omega)
          · exact mod _ (fun e => by omega) (fun _ => hlo)
        · rw [if_neg (by omega)]
          have es : x' (20 + 3 * a.toNat + 1) = x (20 + 3 * a.toNat + 1) := hsc _ (by omega) (by omega) (by omega) (by omega) (by omega)
          refine ⟨by omega, ?_⟩
          refine s_fillWholeValues (by omega) (by rw [es]; exact ht) ⟨by omega, by omega⟩ (fun x2 f1 f2 => ?_)
          rw [es] at f1
          have hsc2 := hsc.tr (scC18 f2)
          have hL2 : LI (cft x) x2 81 := (WD_sc hR.2.2.2.1 hsc2).1
          refine s_greatest hL2 f1 ht (by omega) (fun x3 o3 => ?_)
          have hsc3 : scC x x3 := hsc2.tr (fun c _ _ h _ _ => o3 c h)
          have hmj : mxH (fun i => tw (x (20 + 3 * a.toNat + 1)) (j : Int) ((fl (cft x) 81).getD i 0)) (fl (cft x) 81).length = m j := by rw [← hm]
          rw [hmj]
          have hmb1 := hmb j
          have hlob : 0 ≤ lo ∧ lo ≤ 82 := by
            rcases hst with z | ⟨i, z1, z2, z3⟩
            · omega
            · have := NX_bd hmb i; omega
          refine ⟨⟨rg_sm (by omega) (by omega), rg_sm (by omega) (by omega)⟩, ?_⟩
          split
          · rename_i hle
            intro v hv
            refine hbk _ _ _ _ ⟨hsc3, j + 1, by omega, by omega, Or.inr ⟨j, rfl, ?_⟩⟩ (by omega)
            rcases hst with z | ⟨i, z1, z2, z3⟩
            · omega
            · subst z1
              have hNX : NX m (i + 1) = NX m i := by show (if m (i + 1) < (NX m i).2 then _ else _) = _; rw [if_neg (by omega)]
              rw [hNX]
              exact ⟨z2, z3⟩
          · rename_i hle
            intro v hv
            refine hbk _ _ _ _ ⟨hsc3, j + 1, by omega, by omega, Or.inr ⟨j, rfl, ?_⟩⟩ (by omega)
            rcases hst with z | ⟨i, z1, z2, z3⟩
            · have : j = 0 := z.1
              subst this
              exact ⟨rfl, rfl⟩
            · subst z1
              have hNX : NX m (i + 1) = (((i + 1 : Nat) : Int), m (i + 1)) := by show (if m (i + 1) < (NX m i).2 then _ else _) = _; rw [if_pos (by omega)]
              rw [hNX]
              exact ⟨rfl, rfl⟩
    · show w_X8_next a w y (Sm x (-2))
      unfold w_X8_next
      refine t_isPlateM ha hn.2 (fun _ => gT ?_) (fun q => absurd (by omega) q)
      exact t_in hw ⟨by decide, by decide⟩ ⟨by decide, by decide⟩ (fun q => absurd (by omega) g3) (fun _ => gF ⟨rfl, rgm.2.1, hR⟩)
  · show w_X8_next a w y (Sm x (-2))
    unfold w_X8_next
    exact t_isPlateM ha hn.2 (fun q => absurd (by omega) g1) (fun _ => gF ⟨rfl, rgm.2.1, hR⟩)
theorem sim_even {x y : Mm} {a b : Int} (hR : Rel x y) (ha : rg a) (hb : rg b) : w_X7_even a b x (fun r x' => w_X8_even a b y (Sm x' r)) := by
  have hn := hR.n
  have h0 := hR.1
  unfold R0 at h0
  have hLI := hR.2.2.2.1.1
  have hl := hLI.1
  have hlen := fl_len (cft x) 81
  unfold w_X7_even
  refine t_isPlate ha hR.rn (fun g1 => gT ?_) (fun g1 => gF ?_)
  · refine t_isPlate hb hR.rn (fun g2 => gT ?_) (fun g2 => gF ?_)
    · refine ⟨rg_sm (by omega) (by omega), ?_⟩
      by_cases hz : x 2 4 = 0
      · rw [if_pos hz]
        show w_X8_even a b y (Sm x (-3))
        unfold w_X8_even
        refine t_isPlateM ha hn.2 (fun _ => gT ?_) (fun q => absurd (by omega) q)
        refine t_isPlateM hb hn.2 (fun _ => gT ?_) (fun q => absurd (by omega) q)
        refine s_findWoods hR.2.2.1 (fun y' ho hM => ?_)
        have := hM.1
        refine ⟨rg_sm (by omega) (by omega), ?_⟩
        rw [if_pos (by omega)]
        exact ⟨rfl, rgm.2.2.1, hR.sc (scC.rf x) ho.sc⟩
      · rw [if_neg hz]
        obtain ⟨ht, he⟩ := hR.st (a := a) (by omega)
        obtain ⟨ht2, he2⟩ := hR.st (a := b) (by omega)
        refine ⟨by omega, ?_⟩
        refine s_fillWholeValues (by omega) ht ⟨by omega, by omega⟩ (fun x2 f1 f2 => ?_)
        refine ⟨by omega, ?_⟩
        have es : x2 (20 + 3 * b.toNat + 1) = x (20 + 3 * b.toNat + 1) := f2 _ (by omega)
        refine s_fillWholeValues (by omega) (by rw [es]; exact ht2) ⟨by omega, by omega⟩ (fun x3 f3 f4 => ?_)
        rw [es] at f3
        have f1' : ∀ s : Int, sok s → x3 18 s.toNat = Vv (x (20 + 3 * a.toNat + 1)) s 0 := fun s hs => by rw [f4 18 (by decide)]; exact f1 s hs
        have hsc : scC x x3 := (scC18 f2).tr (fun c _ _ _ _ h => f4 c h)
        have hL3 : LI (cft x) x3 81 := (WD_sc hR.2.2.2.1 hsc).1
        have e24 : x3 2 4 = x 2 4 := by rw [hsc 2 (by decide) (by decide) (by decide) (by decide) (by decide)]
        generalize hd : (fun i : Nat => tw (x (20 + 3 * a.toNat + 1)) 0 ((fl (cft x) 81).getD i 0) - tw (x (20 + 3 * b.toNat + 1)) 0 ((fl (cft x) 81).getD i 0)) = d
        have hdi : ∀ i, tw (x (20 + 3 * a.toNat + 1)) 0 ((fl (cft x) 81).getD i 0) - tw (x (20 + 3 * b.toNat + 1)) 0 ((fl (cft x) 81).getD i 0) = d i := fun i => by rw [← hd]
        have hdb : ∀ i, i < (fl (cft x) 81).length → -364 ≤ d i ∧ d i ≤ 364 := fun i hi => by
          have b1 := tw_bd ht (Int.le_refl 0) (fl_get hi).1
          have b2 := tw_bd ht2 (Int.le_refl 0) (fl_get hi).1
          rw [← hdi i]; omega
        unfold w_X2_farthest
        refine lk3_inv (fun m i x' => x' = x3 ∧ ∃ j : Nat, i = (j : Int) ∧ j ≤ (fl (cft x) 81).length ∧ (0 ≤ m ∧ m ≤ 364) ∧ (∀ q, q < j → -m ≤ d q ∧ d q ≤ m) ∧ (m = 0 ∨ ∃ q, q < j ∧ (m = d q ∨ m = -(d q)))) (fun _ i _ => (81 - i).toNat) ?_ _ _ _ ⟨rfl, 0, rfl, by omega, by omega, fun q hq => by omega, Or.inl rfl⟩
        rintro bk m i x' ⟨rfl, j, rfl, hj, hm, hall, hex⟩ hbk
        unfold wB_X2_farthest_5
        rw [e24]
        refine ⟨⟨rg_sm (by omega) (by omega), rg_sm (by omega) (by omega)⟩, ?_⟩
        by_cases hc : x 2 4 ≤ (j : Int)
        · rw [if_pos hc]
          have : j = (fl (cft x) 81).length := by omega
          subst this
          unfold wX_X2_farthest_5
          have e09 : x' 0 9 = x 0 9 := by rw [hsc 0 (by decide) (by decide) (by decide) (by decide) (by decide)]
          dsimp only
          rw [e09]
          refine ⟨⟨rg_sm (by omega) (by omega), rg_sm (by omega) (by omega)⟩, ?_⟩
          have mod : ∀ r : Int, (r = 1 ∧ ∀ q, q < (fl (cft x) 81).length → -(y 60 13) ≤ d q ∧ d q ≤ y 60 13) ∨ (r = 0 ∧ ∃ q, q < (fl (cft x) 81).length ∧ ¬ (-(y 60 13) ≤ d q ∧ d q ≤ y 60 13)) → w_X8_even a b y (Sm x' r) := by
            intro r hr
            unfold w_X8_even
            refine t_isPlateM ha hn.2 (fun _ => gT ?_) (fun q => absurd (by omega) q)
            refine t_isPlateM hb hn.2 (fun _ => gT ?_) (fun q => absurd (by omega) q)
            refine s_findWoods hR.2.2.1 (fun y1 ho hM => ?_)
            have hM1 := hM.1
            refine ⟨rg_sm (by omega) (by omega), ?_⟩
            rw [if_neg (by omega)]
            refine lk3_inv (fun is i y' => (∀ c, c ≠ 71 → y' c = y1 c) ∧ ∃ j : Nat, i = (j : Int) ∧ j ≤ (fl (cft x) 81).length ∧ ((is = 1 ∧ ∀ q, q < j → -(y 60 13) ≤ d q ∧ d q ≤ y 60 13) ∨ (is = 0 ∧ ∃ q, q < j ∧ ¬ (-(y 60 13) ≤ d q ∧ d q ≤ y 60 13)))) (fun _ i _ => (81 - i).toNat) ?_ _ _ _ ⟨fun _ _ => rfl, 0, rfl, by omega, Or.inl ⟨rfl, fun q hq => by omega⟩⟩
            rintro bk2 is i2 y2 ⟨o2, j, rfl, hj2, hst⟩ hbk2
            have his : is = 0 ∨ is = 1 := by rcases hst with z | z <;> omega
            unfold wB_X8_even_38
            rw [o2 60 (by decide)]
            refine ⟨⟨rg_sm (by omega) (by omega), rg_sm (by omega) (by omega)⟩, ?_⟩
            by_cases hc2 : y1 60 15 ≤ (j : Int)
            · rw [if_pos hc2]
              have : j = (fl (cft x) 81).length := by omega
              subst this
              unfold wX_X8_even_38
              have hR2 : Rel x' y2 := hR.sc hsc (ho.sc.tr (scM71 o2))
              refine ⟨by rcases his with z | z <;> rw [z] <;> exact ⟨by decide, by decide⟩, ?_⟩
              rcases hst with ⟨z, hz1⟩ | ⟨z, q, hq1, hq2⟩
              · rw [if_neg (by omega)]
                rcases hr with ⟨r1, -⟩ | ⟨r1, q, r2, r3⟩
                · rw [r1]; exact ⟨rfl, ⟨by decide, by decide⟩, hR2⟩
                · exact absurd (hz1 q r2) r3
              · rw [if_pos z]
                rcases hr with ⟨r1, r2⟩ | ⟨r1, -⟩
                · exact absurd (r2 q hq1) hq2
                · rw [r1]; exact ⟨rfl, ⟨by decide, by decide⟩, hR2⟩
            · rw [if_neg hc2]
              have hj' : j < (fl (cft x) 81).length := by omega
              refine m_take (by omega) (fun y3 p1 p2 => ?_)
              have o3 : ∀ c, c ≠ 71 → y3 c = y1 c := fun c hc => (p2 c hc).trans (o2 c hc)
              have cg : ∀ i, i < 4 → y3 71 i = x (20 + 3 * a.toNat + 1) i := fun i hi => by rw [p1 i hi, o2 61 (by decide), ho.1 61 (by decide) (by decide) (by decide)]; exact he i hi
              refine s_toneBy (ML_71 hM o3) hj' (tok_cg cg ht) ⟨by omega, by omega⟩ ?_
              rw [tw_cg cg]
              refine m_take (by omega) (fun y4 p3 p4 => ?_)
              have o4 : ∀ c, c ≠ 71 → y4 c = y1 c := fun c hc => (p4 c hc).trans (o3 c hc)
              have cg2 : ∀ i, i < 4 → y4 71 i = x (20 + 3 * b.toNat + 1) i := fun i hi => by rw [p3 i hi, o3 61 (by decide), ho.1 61 (by decide) (by decide) (by decide)]; exact he2 i hi
              refine s_toneBy (ML_71 hM o4) hj' (tok_cg cg2 ht2) ⟨by omega, by omega⟩ ?_
              rw [tw_cg cg2]
              intro v hv
              rw [hdi j] at hv
              have hdj := hdb j hj'
              refine ⟨by rcases his with z | z <;> rw [z] <;> exact ⟨by decide, by decide⟩, ?_⟩
              rcases hst with ⟨z, hz1⟩ | ⟨z, q, hq1, hq2⟩
              · rw [if_neg (by omega)]
                have e13 : y4 60 13 = y 60 13 := by rw [o4 60 (by decide)]; exact ho.2 13 (by decide)
                rw [e13]
                refine t_in (rg_sm (by omega) (by omega)) (rg_sm (by omega) (by omega)) (rg_sm (by omega) (by omega)) (fun q => gT ?_) (fun q => gF ?_)
                · intro u hu
                  refine hbk2 _ _ _ ⟨o4, j + 1, by omega, by omega, Or.inl ⟨rfl, fun p hp => ?_⟩⟩ (by omega)
                  by_cases e : p = j
                  · subst e; omega
                  · exact hz1 p (by omega)
                · intro u hu
                  exact hbk2 _ _ _ ⟨o4, j + 1, by omega, by omega, Or.inr ⟨rfl, j, by omega, by omega⟩⟩ (by omega)
              · rw [if_pos z]
                intro u hu
                exact hbk2 _ _ _ ⟨o4, j + 1, by omega, by omega, Or.inr ⟨rfl, q, by omega, hq2⟩⟩ (by omega)
          split
          · rename_i q
            refine mod 0 (Or.inr ⟨rfl, ?_⟩)
            rcases hex with z | ⟨p, p1, p2⟩
            · omega
            · exact ⟨p, p1, by omega⟩
          · rename_i q
            refine mod 1 (Or.inl ⟨rfl, fun p hp => ?_⟩)
            have := hall p hp
            omega
        · rw [if_neg hc]
          have hj' : j < (fl (cft x) 81).length := by omega
          refine s_toneOfLeft hL3 hj' f1' ht (by omega) ?_
          refine s_toneOfLeft hL3 hj' f3 ht2 (by omega) ?_
          rw [hdi j]
          have hdj := hdb j hj'
          refine ⟨rg_sm (by omega) (by omega), ?_⟩
          intro v hv
          have hvb : 0 ≤ v ∧ v ≤ 364 ∧ (v = d j ∨ v = -(d j)) ∧ -v ≤ d j ∧ d j ≤ v := by
            rw [hv]
            split <;> omega
          refine ⟨⟨rg_sm (by omega) (by omega), rg_sm (by omega) (by omega)⟩, ?_⟩
          intro m2 hm2 u hu
          refine hbk _ _ _ ⟨rfl, j + 1, by omega, by omega, by omega, fun q hq => ?_, ?_⟩ (by omega)
          · clear hex
            by_cases e : q = j
            · subst e; omega
            · have := hall q (by omega); omega
          · by_cases e : m ≤ v
            · exact Or.inr ⟨j, by omega, by omega⟩
            · rcases hex with z | ⟨p, p1, p2⟩
              · left; omega
              · exact Or.inr ⟨p, by omega, by omega⟩
    · show w_X8_even a b y (Sm x (-2))
      unfold w_X8_even
      refine t_isPlateM ha hn.2 (fun _ => gT ?_) (fun q => absurd (by omega) q)
      exact t_isPlateM hb hn.2 (fun q => absurd (by omega) g2) (fun _ => gF ⟨rfl, rgm.2.1, hR⟩)
  · show w_X8_even a b y (Sm x (-2))
    unfold w_X8_even
    exact t_isPlateM ha hn.2 (fun q => absurd (by omega) g1) (fun _ => gF ⟨rfl, rgm.2.1, hR⟩)
