/-! THE PLAN, the class's -/
def aok (x : Mm) : Prop := ∀ k : Nat, k < 4 → (x 9 k = 0 ∨ x 9 k = 1) ∧ (x 9 k = 1 → (0 ≤ x 10 k ∧ x 10 k ≤ 500) ∧ (0 ≤ x 11 k ∧ x 11 k ≤ 500))
theorem R4.ok {x y : Mm} (h : R4 x y) : aok x := fun k hk => by
  obtain ⟨h1, h2, h3⟩ := h k hk
  refine ⟨by omega, fun q => ?_⟩
  obtain ⟨a, b, c, d⟩ := h3 (by omega)
  omega
theorem metC_e {x : Mm} {e d : Nat → Int} (h : ∀ k, k < 4 → d k = e k) : metC x d ↔ metC x e := by
  unfold metC
  rw [Vv_cg h]
def hgd (x : Mm) (e : Nat → Int) (k : Nat) (r : Int) : Prop := (0 < x 6 r.toNat → x 10 k ≤ Vv e r k / x 6 r.toNat) ∧ (0 < x 7 r.toNat → Vv e r k / x 7 r.toNat ≤ x 11 k)
theorem metC_of {x : Mm} {e : Nat → Int} (hW : WD (cft x) x) (ht : tok e) (h : ∀ k : Nat, k < 4 → x 9 k = 1 → ∀ r : Int, sok r → hgd x e k r) : metC x e := by
  intro k hk h9 s w hs hw hf
  obtain ⟨⟨r, r1, r2, r3⟩, ⟨q, q1, q2, q3, q4⟩⟩ := hW.2.2 s w hs hw hf
  have hw1 := hw.1
  have a := (h k hk h9 r r1).1 (by omega)
  have b := (h k hk h9 q q1).2 q3
  have m1 := div_mono (Vv_bd ht r1 (k := (k : Int)) (by omega)).1 (Vv_mono ht r1 hs r2 (k := (k : Int)) (by omega) (by omega)) (show (0 : Int) < w by omega) r3
  have m2 := div_mono (Vv_bd ht hs (k := (k : Int)) (by omega)).1 (Vv_mono ht hs q1 q2 (k := (k : Int)) (by omega) (by omega)) q3 q4
  constructor <;> omega
theorem metC_hgd {x : Mm} {e : Nat → Int} (hW : WD (cft x) x) (h : metC x e) {k : Nat} (hk : k < 4) (h9 : x 9 k = 1) {r : Int} (hr : sok r) : hgd x e k r := by
  have hp := hW.2.1 r hr
  refine ⟨fun q => ?_, fun q => ?_⟩
  · rcases hp.1 with z | z
    · omega
    · exact (h k hk h9 r _ hr z.1 z.2).1
  · rcases hp.2 with z | z
    · omega
    · exact (h k hk h9 r _ hr z.1 z.2).2
theorem s_metBy {c1 : Nat} {x : Mm} {post : Int → Mm → Prop} (hW : WD (cft x) x) (hA : aok x) (ht : tok (x c1)) (h1 : metC x (x c1) → post 1 x) (h0 : ¬ metC x (x c1) → post 0 x) : w_X0_metBy c1 x post := by
  unfold w_X0_metBy
  refine lk2_inv (fun i x' => x' = x ∧ ∃ k : Nat, i = (k : Int) ∧ k ≤ 4 ∧ ∀ q : Nat, q < k → x 9 q = 1 → ∀ r : Int, sok r → hgd x (x c1) q r) (fun i _ => (4 - i).toNat) ?_ _ _ ⟨rfl, 0, rfl, by omega, fun q hq => by omega⟩
  rintro bk i x' ⟨rfl, k, rfl, hk, hall⟩ hbk
  unfold wB_X0_metBy_2
  refine ⟨rg_sm (by omega) (by omega), ?_⟩
  by_cases h4 : k = 4
  · subst h4
    rw [if_pos (by omega)]
    unfold wX_X0_metBy_2
    exact h1 (metC_of hW ht (fun q hq => hall q hq))
  · rw [if_neg (by omega)]
    have hk4 : k < 4 := by omega
    obtain ⟨a9, aR⟩ := hA k hk4
    have ek : ((k : Int)).toNat = k := by omega
    refine lk2_inv (fun s x2 => x2 = x' ∧ (1 ≤ s ∧ s ≤ 10) ∧ (x' 9 k = 1 → ∀ r : Int, 1 ≤ r → r < s → hgd x' (x' c1) k r)) (fun s _ => (10 - s).toNat) ?_ _ _ ⟨rfl, by omega, fun _ r h2 h3 => by omega⟩
    rintro bk2 s x2 ⟨rfl, hs, hin⟩ hbk2
    unfold wB_X0_metBy_10
    rw [ek]
    refine ⟨by omega, by rcases a9 with z | z <;> rw [z] <;> exact ⟨by decide, by decide⟩, ?_⟩
    have next : (x2 9 k = 1 → ∀ r : Int, sok r → hgd x2 (x2 c1) k r) → wX_X0_metBy_10 (k : Int) bk s x2 := by
      intro hg
      unfold wX_X0_metBy_10
      intro v hv
      refine hbk _ _ ⟨rfl, k + 1, by omega, by omega, fun q hq h9 => ?_⟩ (by omega)
      by_cases e : q = k
      · subst e; exact hg h9
      · exact hall q (by omega) h9
    by_cases h9 : x2 9 k = 0
    · rw [if_pos h9]
      exact next (fun q => by omega)
    · rw [if_neg h9]
      have h91 : x2 9 k = 1 := by omega
      obtain ⟨ra, rb⟩ := aR h91
      refine ⟨rg_sm (by omega) (by omega), ?_⟩
      by_cases hs9 : 9 < s
      · rw [if_pos hs9]
        exact next (fun q r hr => hin q r hr.1 (by have := hr.2; omega))
      · rw [if_neg hs9]
        have hss : sok s := ⟨by omega, by omega⟩
        have hb := RP_bd (hW.2.1 s hss)
        have go : ∀ v, v = s + 1 → hgd x2 (x2 c1) k s → bk2 v x2 := by
          intro v hv hg
          refine hbk2 _ _ ⟨rfl, by omega, fun h9 r h2 h3 => ?_⟩ (by omega)
          by_cases e : r = s
          · subst e; exact hg
          · exact hin h9 r h2 (by omega)
        have no : ¬ hgd x2 (x2 c1) k s → post 0 x2 := fun hn => h0 (fun hm => hn (metC_hgd hW hm hk4 h91 hss))
        -- the part about the light ones
        have lightP : (0 < x2 6 s.toNat → x2 10 k ≤ Vv (x2 c1) s k / x2 6 s.toNat) → (0 ≤ s ∧ s < 10) ∧ ∀ v6 : Int, v6 = x2 7 s.toNat → rg v6 ∧ (if v6 ≤ 0 then (∀ v4 : Int, v4 = s + 1 → bk2 v4 x2) else ((0 ≤ (k : Int) ∧ (k : Int) < 4) ∧ w_X5_valuesBelow c1 s ((x2 11 k + 1) * v6) x2 (fun z x3 => (rg z ∧ rg (k : Int)) ∧ (if (k : Int) < z then (∀ v4 : Int, v4 = s + 1 → bk2 v4 x3) else (post 0 x3))))) := by
          intro hh
          refine ⟨by omega, ?_⟩
          intro v6 hv6
          subst hv6
          refine ⟨rg_sm (by omega) (by omega), ?_⟩
          split
          · intro v hv
            exact go v hv ⟨hh, fun q => by omega⟩
          · rename_i q
            have hsl : sok (x2 7 s.toNat) := ⟨by omega, by omega⟩
            have hmb := mul_bd (a := x2 11 k + 1) (b := x2 7 s.toNat) (by omega) (by omega) (show x2 11 k + 1 ≤ 501 by omega) hsl.2
            refine ⟨by omega, ?_⟩
            refine s_valuesBelow ht hss hmb.1 (by omega) ?_
            have hcb := cn_bd (x2 c1) s ((x2 11 k + 1) * x2 7 s.toNat)
            have hiff := (Vv_iff ht hss (k := (k : Int)) (by omega) (by omega) ((x2 11 k + 1) * x2 7 s.toNat)).trans (le_tone (z := x2 11 k + 1) hsl)
            refine ⟨⟨rg_sm (by omega) (by omega), rg_sm (by omega) (by omega)⟩, ?_⟩
            split
            · rename_i q2
              intro v hv
              have : ¬ x2 11 k + 1 ≤ Vv (x2 c1) s k / x2 7 s.toNat := fun z => by have := hiff.mpr z; omega
              exact go v hv ⟨hh, fun _ => by omega⟩
            · rename_i q2
              have := hiff.mp (by omega)
              refine no (fun hg => ?_)
              have := hg.2 (by omega)
              omega
        refine ⟨by omega, ?_⟩
        intro v5 hv5
        subst hv5
        refine ⟨rg_sm (by omega) (by omega), ?_⟩
        by_cases hz : x2 6 s.toNat ≤ 0
        · rw [if_pos hz]
          exact lightP (fun q => by omega)
        · rw [if_neg hz]
          have hsl : sok (x2 6 s.toNat) := ⟨by omega, by omega⟩
          have hmb := mul_bd (a := x2 10 k) (b := x2 6 s.toNat) (by omega) (by omega) (show x2 10 k ≤ 500 by omega) hsl.2
          refine ⟨by omega, ?_⟩
          refine s_valuesBelow ht hss hmb.1 (by omega) ?_
          have hcb := cn_bd (x2 c1) s (x2 10 k * x2 6 s.toNat)
          have hiff := (Vv_iff ht hss (k := (k : Int)) (by omega) (by omega) (x2 10 k * x2 6 s.toNat)).trans (le_tone (z := x2 10 k) hsl)
          refine ⟨⟨rg_sm (by omega) (by omega), rg_sm (by omega) (by omega)⟩, ?_⟩
          by_cases q2 : cn (x2 c1) s (x2 10 k * x2 6 s.toNat) ≤ (k : Int)
          · rw [if_pos q2]
            exact lightP (fun _ => hiff.mp q2)
          · rw [if_neg q2]
            refine no (fun hg => q2 (hiff.mpr (hg.1 (by omega))))
/-- the planner's own rows -/
def pO (x x' : Mm) : Prop := ∀ c, c ≠ 13 → c ≠ 15 → x' c = x c
theorem s_take3 {c1 : Nat} {x : Mm} {a b c d : Int} {post : Mm → Prop} (hc : c1 ≠ 13 ∧ c1 ≠ 15) (h : ∀ x' : Mm, pO x x' → x' 13 0 = a → x' 13 1 = b → x' 13 2 = c → x' 13 3 = d → (∀ i, i < 4 → x' 15 i = x c1 i - x' 13 i) → post x') : w_X3_take c1 a b c d x post := by
  unfold w_X3_take
  intro x1 e1 x2 e2 x3 e3 x4 e4
  have r : ∀ k, x4 13 k = if k = 3 then d else if k = 2 then c else if k = 1 then b else if k = 0 then a else x 13 k := fun k => by subst e4 e3 e2 e1; simp [up2]
  have o4 : ∀ q, q ≠ 13 → x4 q = x q := fun q hq => by subst e4 e3 e2 e1; rw [up2_row hq, up2_row hq, up2_row hq, up2_row hq]
  refine lk2_inv (fun i x' => ∃ j : Nat, i = (j : Int) ∧ j ≤ 4 ∧ (∀ q, q ≠ 15 → x' q = x4 q) ∧ ∀ i, i < j → x' 15 i = x c1 i - x4 13 i) (fun i _ => (4 - i).toNat) ?_ _ _ ⟨0, rfl, by omega, fun _ _ => rfl, fun i hi => by omega⟩
  rintro bk i x' ⟨j, rfl, hj, h1, h2⟩ hbk
  unfold wB_X3_take_33
  refine ⟨rg_sm (by omega) (by omega), ?_⟩
  by_cases h4 : j = 4
  · subst h4
    rw [if_pos (by omega)]
    have e13 : x' 13 = x4 13 := h1 13 (by decide)
    refine h x' (fun q k1 k2 => (h1 q k2).trans (o4 q k1)) ?_ ?_ ?_ ?_ (fun i hi => by rw [e13]; exact h2 i hi)
    · rw [e13, r]; simp
    · rw [e13, r]; simp
    · rw [e13, r]; simp
    · rw [e13, r]; simp
  · rw [if_neg (by omega)]
    have ej : ((j : Int)).toNat = j := by omega
    rw [ej, h1 c1 hc.2, h1 13 (by decide), o4 c1 hc.1]
    refine ⟨by omega, by omega, by omega, ?_⟩
    intro x5 e5 v hv
    refine hbk _ _ ⟨j + 1, by omega, by omega, fun q hq => by subst e5; rw [up2_row hq]; exact h1 q hq, fun i hi => ?_⟩ (by omega)
    subst e5
    by_cases e : i = j
    · subst e; rw [up2_s]
    · rw [up2_k 15 e]; exact h2 i (by omega)
theorem pO_met {x x' y : Mm} (h2 : R2 x y) (hW : WD (cft x) x) (h : pO x x') : cft x' = cft x ∧ metC x' = metC x ∧ WD (cft x') x' := by
  have hm := metC_o (x' := x') h2 (fun c hc => h c (by omega) (by omega))
  refine ⟨hm.1, hm.2, ?_⟩
  rw [hm.1]
  exact WD_c hW (by rw [h 2 (by decide) (by decide)]) (h 4 (by decide) (by decide)) (h 5 (by decide) (by decide)) (h 6 (by decide) (by decide)) (h 7 (by decide) (by decide))
def vld (R d : Nat → Int) : Prop := ∀ i, i < 4 → 0 ≤ d i ∧ d i ≤ R i
def lexL (e d : Nat → Int) : Prop := e 0 < d 0 ∨ (e 0 = d 0 ∧ (e 1 < d 1 ∨ (e 1 = d 1 ∧ (e 2 < d 2 ∨ e 2 = d 2))))
theorem s_foundOf {c1 : Nat} {x y : Mm} {n : Int} {post : Int → Mm → Prop} (h2 : R2 x y) (hW : WD (cft x) x) (hA : aok x) (hc : c1 ≠ 13 ∧ c1 ≠ 15) (hn : 0 ≤ n ∧ n ≤ 36) (hRm : ∀ i, i < 4 → 0 ≤ x 14 i ∧ x 14 i ≤ 9) (ht : ∀ d, vld (x 14) d → tok (fun i => x c1 i - d i))
    (h1 : ∀ x' : Mm, pO x x' → vld (x 14) (x' 13) → sm4 (x' 13) = n → metC x (fun i => x c1 i - x' 13 i) → (∀ d, vld (x 14) d → sm4 d = n → metC x (fun i => x c1 i - d i) → lexL (x' 13) d) → post 1 x')
    (h0 : ∀ x' : Mm, pO x x' → (∀ d, vld (x 14) d → sm4 d = n → ¬ metC x (fun i => x c1 i - d i)) → post 0 x') : w_X3_foundOf c1 n x post := by
  unfold w_X3_foundOf
  refine lk2_inv (fun a x1 => pO x x1 ∧ (0 ≤ a ∧ a ≤ 10) ∧ ∀ d, vld (x 14) d → sm4 d = n → d 0 < a → ¬ metC x (fun i => x c1 i - d i)) (fun a _ => (10 - a).toNat) ?_ _ _ ⟨fun _ _ _ => rfl, by omega, fun d hd hs hlt => by have := (hd 0 (by omega)).1; omega⟩
  rintro bk a x1 ⟨o1, ha, m1⟩ hbk
  have r0 := hRm 0 (by omega); have r1 := hRm 1 (by omega); have r2 := hRm 2 (by omega); have r3 := hRm 3 (by omega)
  unfold wB_X3_foundOf_3
  rw [o1 14 (by decide) (by decide)]
  refine ⟨⟨rg_sm (by omega) (by omega), rg_sm (by omega) (by omega)⟩, ⟨rg_sm (by omega) (by omega), rg_sm (by omega) (by omega)⟩, ?_⟩
  by_cases ca : min n (x 14 0) < a
  · rw [if_pos ca]
    unfold wX_X3_foundOf_3
    refine h0 x1 o1 (fun d hd hs => m1 d hd hs ?_)
    have d0 := hd 0 (by omega); have d1 := hd 1 (by omega); have d2 := hd 2 (by omega); have d3 := hd 3 (by omega)
    unfold sm4 at hs
    omega
  · rw [if_neg ca]
    refine lk2_inv (fun b x2 => pO x x2 ∧ (0 ≤ b ∧ b ≤ 10) ∧ ∀ d, vld (x 14) d → sm4 d = n → d 0 = a → d 1 < b → ¬ metC x (fun i => x c1 i - d i)) (fun b _ => (10 - b).toNat) ?_ _ _ ⟨o1, by omega, fun d hd hs e hlt => by have := (hd 1 (by omega)).1; omega⟩
    rintro bk2 b x2 ⟨o2, hb, m2⟩ hbk2
    unfold wB_X3_foundOf_21
    rw [o2 14 (by decide) (by decide)]
    refine ⟨⟨rg_sm (by omega) (by omega), rg_sm (by omega) (by omega)⟩, ⟨rg_sm (by omega) (by omega), rg_sm (by omega) (by omega)⟩, ?_⟩
    by_cases cb : min (n - a) (x 14 1) < b
    · rw [if_pos cb]
      unfold wX_X3_foundOf_21
      intro v hv
      refine hbk _ _ ⟨o2, by omega, fun d hd hs hlt => ?_⟩ (by omega)
      by_cases e : d 0 = a
      · refine m2 d hd hs e ?_
        have d0 := hd 0 (by omega); have d1 := hd 1 (by omega); have d2 := hd 2 (by omega); have d3 := hd 3 (by omega)
        unfold sm4 at hs
        omega
      · exact m1 d hd hs (by omega)
    · rw [if_neg cb]
      intro rest hrest
      refine ⟨rg_sm (by omega) (by omega), ?_⟩
      intro c0 hc0
      refine lk2_inv (fun c x3 => pO x x3 ∧ (0 ≤ c ∧ c ≤ 50) ∧ c0 ≤ c ∧ ∀ d, vld (x 14) d → sm4 d = n → d 0 = a → d 1 = b → d 2 < c → ¬ metC x (fun i => x c1 i - d i)) (fun c _ => (50 - c).toNat) ?_ _ _ ⟨o2, by omega, by omega, fun d hd hs e0 e1 hlt => by
        have d2 := hd 2 (by omega); have d3 := hd 3 (by omega)
        unfold sm4 at hs
        omega⟩
      rintro bk3 c x3 ⟨o3, hcc, hc0c, m3⟩ hbk3
      unfold wB_X3_foundOf_63
      rw [o3 14 (by decide) (by decide)]
      refine ⟨⟨rg_sm (by omega) (by omega), rg_sm (by omega) (by omega)⟩, ⟨rg_sm (by omega) (by omega), rg_sm (by omega) (by omega)⟩, ?_⟩
      by_cases cc : min rest (x 14 2) < c
      · rw [if_pos cc]
        unfold wX_X3_foundOf_63
        intro v hv
        refine hbk2 _ _ ⟨o3, by omega, fun d hd hs e0 hlt => ?_⟩ (by omega)
        by_cases e : d 1 = b
        · refine m3 d hd hs e0 e ?_
          have d2 := hd 2 (by omega); have d3 := hd 3 (by omega)
          unfold sm4 at hs
          omega
        · exact m2 d hd hs e0 (by omega)
      · rw [if_neg cc]
        refine s_take3 hc (fun x4 o4 t0 t1 t2 t3 te => ?_)
        have o4' : pO x x4 := fun q k1 k2 => (o4 q k1 k2).trans (o3 q k1 k2)
        have hv : vld (x 14) (x4 13) := by
          intro i hi
          rcases (show i = 0 ∨ i = 1 ∨ i = 2 ∨ i = 3 by omega) with e | e | e | e <;> subst e <;> omega
        have hs : sm4 (x4 13) = n := by unfold sm4; omega
        have ec1 : x3 c1 = x c1 := o3 c1 hc.1 hc.2
        have te' : ∀ i, i < 4 → x4 15 i = (fun i => x c1 i - x4 13 i) i := fun i hi => by rw [te i hi, ec1]
        obtain ⟨p1, p2, p3⟩ := pO_met h2 hW o4'
        have hA4 : aok x4 := fun k hk => by rw [o4' 9 (by decide) (by decide), o4' 10 (by decide) (by decide), o4' 11 (by decide) (by decide)]; exact hA k hk
        refine s_metBy p3 hA4 (tok_cg te' (ht _ hv)) (fun hm => gT ?_) (fun hm => gF ?_)
        · rw [p2, metC_e te'] at hm
          refine h1 x4 o4' hv hs hm (fun d hd hsd hmd => ?_)
          have k1 : ¬ d 0 < a := fun z => m1 d hd hsd z hmd
          have k2 : d 0 = a → ¬ d 1 < b := fun z z2 => m2 d hd hsd z z2 hmd
          have k3 : d 0 = a → d 1 = b → ¬ d 2 < c := fun z z2 z3 => m3 d hd hsd z z2 z3 hmd
          unfold lexL
          omega
        · rw [p2, metC_e te'] at hm
          intro v hvv
          refine hbk3 _ _ ⟨o4', by omega, by omega, fun d hd hsd e0 e1 hlt => ?_⟩ (by omega)
          by_cases e : d 2 = c
          · intro hmd
            refine hm ((metC_e (fun i hi => ?_)).mp hmd)
            have d3 : d 3 = x4 13 3 := by unfold sm4 at hsd; omega
            show x c1 i - d i = x c1 i - x4 13 i
            rcases (show i = 0 ∨ i = 1 ∨ i = 2 ∨ i = 3 by omega) with q | q | q | q <;> subst q <;> omega
          · exact m3 d hd hsd e0 e1 (by omega)
