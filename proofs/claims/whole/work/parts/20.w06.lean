def wX_X3_take_33 (post : Mm → Prop) (v6_9 : Int) (x_10 : Mm) : Prop :=
  post x_10
def wB_X3_take_33 (c1 : Nat) (kx_33 bk_33 : Int → Mm → Prop) (v6_9 : Int) (x_10 : Mm) : Prop :=
  rg v6_9 ∧ (if 4 ≤ v6_9 then (kx_33 v6_9 x_10) else ((0 ≤ v6_9 ∧ v6_9 < 4) ∧ (0 ≤ v6_9 ∧ v6_9 < 4) ∧ (0 ≤ v6_9 ∧ v6_9 < 4) ∧ (∀ x_15 : Mm, x_15 = up2 x_10 15 (v6_9).toNat ((x_10 c1 (v6_9).toNat) - (x_10 13 (v6_9).toNat)) → ∀ v6_16 : Int, v6_16 = v6_9 + 1 → bk_33 v6_16 x_15)))
def w_X3_take (c1 : Nat) (a1 a2 a3 a4 : Int) (x : Mm) (post : Mm → Prop) : Prop :=
  (∀ x_2 : Mm, x_2 = up2 x 13 0 a1 → (∀ x_4 : Mm, x_4 = up2 x_2 13 1 a2 → (∀ x_6 : Mm, x_6 = up2 x_4 13 2 a3 → (∀ x_8 : Mm, x_8 = up2 x_6 13 3 a4 → ∃ n : Nat, lk2 (wB_X3_take_33 c1 (wX_X3_take_33 post)) n 0 x_8))))
abbrev rm_X3_take : Room := { frames := 0, cells := 0, slots := 0, locals := 0 }
theorem iw_X3_take_X3 : ∀ w ∈ u_ws RX3 TX3 5, w ∈ wsX3_take := by decide +kernel
theorem fl_X3_take_9 : Cond.fieldLink RX3 9 (TX3 0).1 (TX3 0).2.1 (TX3 0).2.2.1 ∈ wsX3_take := by decide +kernel
theorem fl_X3_take_18 : Cond.fieldLink RX3 18 (TX3 2).1 (TX3 2).2.1 (TX3 2).2.2.1 ∈ wsX3_take := by decide +kernel
set_option maxHeartbeats 4000000 in
set_option maxRecDepth 100000 in
theorem c_X3_take (l : Launch) (D : va_G) (cy : Nat → ClassId) (L : List Nat) (ad : Nat → Nat) (sz : Nat) (hL : fLA L) (c1 : Nat) (hc1 : c1 ∈ L) (hlc1 : al c1 = 4) (a1 a2 a3 a4 : Int) (x : Mm) (post : Mm → Prop) (hw : w_X3_take c1 a1 a2 a3 a4 x post) : fMv l yX3_take wsX3_take rm_X3_take [.ref (ad 12), .ref (ad c1), .int (iI a1), .int (iI a2), .int (iI a3), .int (iI a4)] D cy L ad sz x post := by
  refine Met.ofW (cc := cX3_take) (maxL := 7) (ret := none) (by decide) rfl ?_
  intro p e s m args below meth c s₁ B hml hv
  obtain ⟨hargs, hp⟩ := hv
  obtain ⟨C, hr, hlk, hsz, G⟩ := fr_start B hml hp
  subst hsz
  obtain ⟨ls, els, hl⟩ := fr_entry (m := m) (n := 7) hargs (Nat.le_of_ble_eq_true rfl)
  rw [els]
  have hl : lv_has ls 7 [(0, .ref (ad 12)), (1, .ref (ad c1)), (2, .int (iI a1)), (3, .int (iI a2)), (4, .int (iI a3)), (5, .int (iI a4))] := hl
  clear els hargs hp B
  refine lv_aload_n C.1 C.2.1 dX3_take_0 rfl (lv_at hl 0 rfl) ?_
  refine fr_get C G 12 (hL _ (by omega)) (cl_12 _) rfl iw_X3_take_X3 0 (by decide) fl_X3_take_9 rfl dX3_take_1 ?_
  refine fr_ic C dX3_take_4 ?_
  refine lv_iload_n C.1 C.2.1 dX3_take_5 rfl (lv_at hl 2 rfl) ?_
  refine fr_iast C G 13 4 (hL _ (by omega)) rfl ⟨by decide, by decide⟩ ⟨by decide, by decide⟩ dX3_take_6 (fun x_2 H locs ex_2 G => ?_)
  have hw := hw x_2 ex_2
  refine lv_aload_n C.1 C.2.1 dX3_take_7 rfl (lv_at hl 0 rfl) ?_
  refine fr_get C G 12 (hL _ (by omega)) (cl_12 _) rfl iw_X3_take_X3 0 (by decide) fl_X3_take_9 rfl dX3_take_8 ?_
  refine fr_ic C dX3_take_11 ?_
  refine lv_iload_n C.1 C.2.1 dX3_take_12 rfl (lv_at hl 3 rfl) ?_
  refine fr_iast C G 13 4 (hL _ (by omega)) rfl ⟨by decide, by decide⟩ ⟨by decide, by decide⟩ dX3_take_13 (fun x_4 H locs ex_4 G => ?_)
  have hw := hw x_4 ex_4
  refine lv_aload_n C.1 C.2.1 dX3_take_14 rfl (lv_at hl 0 rfl) ?_
  refine fr_get C G 12 (hL _ (by omega)) (cl_12 _) rfl iw_X3_take_X3 0 (by decide) fl_X3_take_9 rfl dX3_take_15 ?_
  refine fr_ic C dX3_take_18 ?_
  refine lv_iload C.1 C.2.1 dX3_take_19 (lv_at hl 4 rfl) ?_
  refine fr_iast C G 13 4 (hL _ (by omega)) rfl ⟨by decide, by decide⟩ ⟨by decide, by decide⟩ dX3_take_21 (fun x_6 H locs ex_6 G => ?_)
  have hw := hw x_6 ex_6
  refine lv_aload_n C.1 C.2.1 dX3_take_22 rfl (lv_at hl 0 rfl) ?_
  refine fr_get C G 12 (hL _ (by omega)) (cl_12 _) rfl iw_X3_take_X3 0 (by decide) fl_X3_take_9 rfl dX3_take_23 ?_
  refine fr_ic C dX3_take_26 ?_
  refine lv_iload C.1 C.2.1 dX3_take_27 (lv_at hl 5 rfl) ?_
  refine fr_iast C G 13 4 (hL _ (by omega)) rfl ⟨by decide, by decide⟩ ⟨by decide, by decide⟩ dX3_take_29 (fun x_8 H locs ex_8 G => ?_)
  have hw := hw x_8 ex_8
  refine fr_ic C dX3_take_30 ?_
  refine lv_istore (lv' := [(6, .int (iI 0)), (0, .ref (ad 12)), (1, .ref (ad c1)), (2, .int (iI a1)), (3, .int (iI a2)), (4, .int (iI a3)), (5, .int (iI a4))]) C.1 C.2.1 dX3_take_31 hl (by decide) rfl (fun ls hl => ?_)
  obtain ⟨n33, hw⟩ := hw
  have hS33 : ∀ (kx_33 bk_33 : Int → Mm → Prop), (∀ (v6_9 : Int) (x_10 : Mm) (H : Heap) (locs : List Loc) (ls : Array Slot), kx_33 v6_9 x_10 → fG D cy L ad (fAr L ad s.heap.size) s x_10 H locs → lv_has ls 7 [(0, .ref (ad 12)), (1, .ref (ad c1)), (2, .int (iI a1)), (3, .int (iI a2)), (4, .int (iI a3)), (5, .int (iI a4)), (6, .int (iI v6_9))] → W p l e (headSpec wsX3_take rm_X3_take).room s m args below meth c H locs 0 0 (fQv below D cy L ad s args post) (F0 m 64 ls [])) → (∀ (v6_9 : Int) (x_10 : Mm) (H : Heap) (locs : List Loc) (ls : Array Slot), bk_33 v6_9 x_10 → fG D cy L ad (fAr L ad s.heap.size) s x_10 H locs → lv_has ls 7 [(0, .ref (ad 12)), (1, .ref (ad c1)), (2, .int (iI a1)), (3, .int (iI a2)), (4, .int (iI a3)), (5, .int (iI a4)), (6, .int (iI v6_9))] → W p l e (headSpec wsX3_take rm_X3_take).room s m args below meth c H locs 0 0 (fQv below D cy L ad s args post) (F0 m 33 ls [])) → ∀ (v6_9 : Int) (x_10 : Mm) (H : Heap) (locs : List Loc) (ls : Array Slot), wB_X3_take_33 c1 kx_33 bk_33 v6_9 x_10 → fG D cy L ad (fAr L ad s.heap.size) s x_10 H locs → lv_has ls 7 [(0, .ref (ad 12)), (1, .ref (ad c1)), (2, .int (iI a1)), (3, .int (iI a2)), (4, .int (iI a3)), (5, .int (iI a4)), (6, .int (iI v6_9))] → W p l e (headSpec wsX3_take rm_X3_take).room s m args below meth c H locs 0 0 (fQv below D cy L ad s args post) (F0 m 33 ls []) := by
    intro kx_33 bk_33 hX33 ih33 v6_9 x_10 H locs ls hw G hl
    refine lv_iload C.1 C.2.1 dX3_take_33 (lv_at hl 6 rfl) ?_
    refine fr_ic C dX3_take_35 ?_
    obtain ⟨hc_17, hw⟩ := hw
    refine fr_ge (tgt := 64) C dX3_take_36 (by decide) ⟨hc_17, ⟨by decide, by decide⟩⟩ (fun q_11 => ?_) (fun q_11 => ?_)
    · have hw := if_p hw q_11
      exact hX33 v6_9 x_10 _ _ _ hw G (lv_sub hl [0, 1, 2, 3, 4, 5, 6] rfl)
    · have hw := if_n hw q_11
      refine lv_aload_n C.1 C.2.1 dX3_take_39 rfl (lv_at hl 0 rfl) ?_
      refine fr_get C G 12 (hL _ (by omega)) (cl_12 _) rfl iw_X3_take_X3 2 (by decide) fl_X3_take_18 rfl dX3_take_40 ?_
      refine lv_iload C.1 C.2.1 dX3_take_43 (lv_at hl 6 rfl) ?_
      refine lv_aload_n C.1 C.2.1 dX3_take_45 rfl (lv_at hl 1 rfl) ?_
      refine lv_iload C.1 C.2.1 dX3_take_46 (lv_at hl 6 rfl) ?_
      obtain ⟨hb_12, hw⟩ := hw
      refine fr_iald C G c1 4 hc1 hlc1 ⟨by decide, by decide⟩ hb_12 dX3_take_48 ?_
      refine lv_aload_n C.1 C.2.1 dX3_take_49 rfl (lv_at hl 0 rfl) ?_
      refine fr_get C G 12 (hL _ (by omega)) (cl_12 _) rfl iw_X3_take_X3 0 (by decide) fl_X3_take_9 rfl dX3_take_50 ?_
      refine lv_iload C.1 C.2.1 dX3_take_53 (lv_at hl 6 rfl) ?_
      obtain ⟨hb_13, hw⟩ := hw
      refine fr_iald C G 13 4 (hL _ (by omega)) rfl ⟨by decide, by decide⟩ hb_13 dX3_take_55 ?_
      refine fr_isub C dX3_take_56 ?_
      obtain ⟨hb_14, hw⟩ := hw
      refine fr_iast C G 15 4 (hL _ (by omega)) rfl ⟨by decide, by decide⟩ hb_14 dX3_take_57 (fun x_15 H locs ex_15 G => ?_)
      have hw := hw x_15 ex_15
      obtain ⟨v6_16, ev6_16⟩ : ∃ z : Int, z = v6_9 + 1 := ⟨_, rfl⟩
      have hw := hw v6_16 ev6_16
      refine lv_iinc (v := iI v6_16) (lv' := [(6, .int (iI v6_16)), (0, .ref (ad 12)), (1, .ref (ad c1)), (2, .int (iI a1)), (3, .int (iI a2)), (4, .int (iI a3)), (5, .int (iI a4))]) C.1 C.2.1 dX3_take_58 hl (k := 6) rfl (by rw [ev6_16]; exact iI_add _ _) (by decide) rfl (fun ls hl => ?_)
      refine lv_goto (tgt := 33) C.1 C.2.1 dX3_take_61 (by decide) ?_
      exact ih33 v6_16 x_15 _ _ _ hw G (lv_sub hl [1, 2, 3, 4, 5, 6, 0] rfl)
  have hX33 : ∀ (v6_9 : Int) (x_10 : Mm) (H : Heap) (locs : List Loc) (ls : Array Slot), wX_X3_take_33 post v6_9 x_10 → fG D cy L ad (fAr L ad s.heap.size) s x_10 H locs → lv_has ls 7 [(0, .ref (ad 12)), (1, .ref (ad c1)), (2, .int (iI a1)), (3, .int (iI a2)), (4, .int (iI a3)), (5, .int (iI a4)), (6, .int (iI v6_9))] → W p l e (headSpec wsX3_take rm_X3_take).room s m args below meth c H locs 0 0 (fQv below D cy L ad s args post) (F0 m 64 ls []) := by
    intro v6_9 x_10 H locs ls hw G hl
    exact fr_vret C G hr hlk hw dX3_take_64
  have hB33 : ∀ (n : Nat) (v6_9 : Int) (x_10 : Mm) (H : Heap) (locs : List Loc) (ls : Array Slot), lk2 (wB_X3_take_33 c1 (wX_X3_take_33 post)) n v6_9 x_10 → fG D cy L ad (fAr L ad s.heap.size) s x_10 H locs → lv_has ls 7 [(0, .ref (ad 12)), (1, .ref (ad c1)), (2, .int (iI a1)), (3, .int (iI a2)), (4, .int (iI a3)), (5, .int (iI a4)), (6, .int (iI v6_9))] → W p l e (headSpec wsX3_take rm_X3_take).room s m args below meth c H locs 0 0 (fQv below D cy L ad s args post) (F0 m 33 ls []) := by
    intro n
    induction n with
    | zero =>
      intro v6_9 x_10 H locs ls hw
      exact hw.elim
    | succ n ih =>
      intro v6_9 x_10 H locs ls hw G hl
      exact hS33 _ _ hX33 ih v6_9 x_10 H locs ls hw G hl
  exact hB33 n33 0 x_8 _ _ _ hw G (lv_sub hl [1, 2, 3, 4, 5, 6, 0] rfl)
def wX_X3_foundOf_63 (v6_6 : Int) (bk_21 : Int → Mm → Prop) (v8_16 : Int) (x_17 : Mm) : Prop :=
  ∀ v6_18 : Int, v6_18 = v6_6 + 1 → bk_21 v6_18 x_17
def wB_X3_foundOf_63 (c1 : Nat) (post : Int → Mm → Prop) (v5_1 : Int) (v6_6 : Int) (v7_12 : Int) (kx_63 bk_63 : Int → Mm → Prop) (v8_16 : Int) (x_17 : Mm) : Prop :=
  (rg v7_12 ∧ rg (x_17 14 2)) ∧ (rg v8_16 ∧ rg (min v7_12 (x_17 14 2))) ∧ (if (min v7_12 (x_17 14 2)) < v8_16 then (kx_63 v8_16 x_17) else (w_X3_take c1 v5_1 v6_6 v8_16 (v7_12 - v8_16) x_17 (fun x_22 => w_X0_metBy 15 x_22 (fun z_24 x_23 => rg z_24 ∧ (if z_24 = 0 then (∀ v8_26 : Int, v8_26 = v8_16 + 1 → bk_63 v8_26 x_23) else (post 1 x_23))))))
def wX_X3_foundOf_21 (v5_1 : Int) (bk_3 : Int → Mm → Prop) (v6_6 : Int) (x_7 : Mm) : Prop :=
  ∀ v5_8 : Int, v5_8 = v5_1 + 1 → bk_3 v5_8 x_7
def wB_X3_foundOf_21 (c1 : Nat) (a1 : Int) (post : Int → Mm → Prop) (v5_1 : Int) (kx_21 bk_21 : Int → Mm → Prop) (v6_6 : Int) (x_7 : Mm) : Prop :=
  (rg (a1 - v5_1) ∧ rg (x_7 14 1)) ∧ (rg v6_6 ∧ rg (min (a1 - v5_1) (x_7 14 1))) ∧ (if (min (a1 - v5_1) (x_7 14 1)) < v6_6 then (kx_21 v6_6 x_7) else (∀ v7_12 : Int, v7_12 = (a1 - v5_1) - v6_6 → rg (v7_12 - (x_7 14 3)) ∧ ∀ v8_15 : Int, v8_15 = max 0 (v7_12 - (x_7 14 3)) → ∃ n : Nat, lk2 (wB_X3_foundOf_63 c1 post v5_1 v6_6 v7_12 (wX_X3_foundOf_63 v6_6 bk_21)) n v8_15 x_7))
def wX_X3_foundOf_3 (post : Int → Mm → Prop) (v5_1 : Int) (x_2 : Mm) : Prop :=
  post 0 x_2
def wB_X3_foundOf_3 (c1 : Nat) (a1 : Int) (post : Int → Mm → Prop) (kx_3 bk_3 : Int → Mm → Prop) (v5_1 : Int) (x_2 : Mm) : Prop :=
  (rg a1 ∧ rg (x_2 14 0)) ∧ (rg v5_1 ∧ rg (min a1 (x_2 14 0))) ∧ (if (min a1 (x_2 14 0)) < v5_1 then (kx_3 v5_1 x_2) else (∃ n : Nat, lk2 (wB_X3_foundOf_21 c1 a1 post v5_1 (wX_X3_foundOf_21 v5_1 bk_3)) n 0 x_2))
def w_X3_foundOf (c1 : Nat) (a1 : Int) (x : Mm) (post : Int → Mm → Prop) : Prop :=
  ∃ n : Nat, lk2 (wB_X3_foundOf_3 c1 a1 post (wX_X3_foundOf_3 post)) n 0 x
abbrev rm_X3_foundOf : Room := { frames := 3, cells := 0, slots := 0, locals := 86 }
theorem iw_X3_foundOf_X3 : ∀ w ∈ u_ws RX3 TX3 5, w ∈ wsX3_foundOf := by decide +kernel
theorem fl_X3_foundOf_15 : Cond.fieldLink RX3 15 (TX3 1).1 (TX3 1).2.1 (TX3 1).2.2.1 ∈ wsX3_foundOf := by decide +kernel
theorem mw_X3_foundOf_38_0 : Cond.methodLink RX3 38 Lib.Math.min.name ∈ wsX3_foundOf := by decide +kernel
theorem mw_X3_foundOf_38_1 : Cond.static Lib.Math.min.name ∈ wsX3_foundOf := by decide +kernel
theorem mw_X3_foundOf_38_2 : Cond.initialized "java/lang/Math" ∈ wsX3_foundOf := by decide +kernel
theorem mw_X3_foundOf_38_3 : Cond.code Lib.Math.min.name Lib.Math.min.code 2 (some .int) ∈ wsX3_foundOf := by decide +kernel
theorem mw_X3_foundOf_28_0 : Cond.methodLink RX3 28 Lib.Math.max.name ∈ wsX3_foundOf := by decide +kernel
theorem mw_X3_foundOf_28_1 : Cond.static Lib.Math.max.name ∈ wsX3_foundOf := by decide +kernel
theorem mw_X3_foundOf_28_2 : Cond.initialized "java/lang/Math" ∈ wsX3_foundOf := by decide +kernel
theorem mw_X3_foundOf_28_3 : Cond.code Lib.Math.max.name Lib.Math.max.code 2 (some .int) ∈ wsX3_foundOf := by decide +kernel
theorem fl_X3_foundOf_18 : Cond.fieldLink RX3 18 (TX3 2).1 (TX3 2).2.1 (TX3 2).2.2.1 ∈ wsX3_foundOf := by decide +kernel
set_option maxHeartbeats 4000000 in
set_option maxRecDepth 100000 in
theorem c_X3_foundOf (l : Launch) (D : va_G) (cy : Nat → ClassId) (L : List Nat) (ad : Nat → Nat) (sz : Nat) (hL : fLA L) (c1 : Nat) (hc1 : c1 ∈ L) (hlc1 : al c1 = 4) (a1 : Int) (x : Mm) (post : Int → Mm → Prop) (hw : w_X3_foundOf c1 a1 x post) : fMi l yX3_foundOf wsX3_foundOf rm_X3_foundOf [.ref (ad 12), .int (iI a1), .ref (ad c1), .ref (ad 2), .ref (ad 8)] D cy L ad sz x post := by
  refine Met.ofW (cc := cX3_foundOf) (maxL := 9) (ret := (some .boolean)) (by decide) rfl ?_
  intro p e s m args below meth c s₁ B hml hv
  obtain ⟨hargs, hp⟩ := hv
  obtain ⟨C, hr, hlk, hsz, G⟩ := fr_start B hml hp
  subst hsz
  obtain ⟨ls, els, hl⟩ := fr_entry (m := m) (n := 9) hargs (Nat.le_of_ble_eq_true rfl)
  rw [els]
  have hl : lv_has ls 9 [(0, .ref (ad 12)), (1, .int (iI a1)), (2, .ref (ad c1)), (3, .ref (ad 2)), (4, .ref (ad 8))] := hl
  clear els hargs hp B
  refine fr_ic C dX3_foundOf_0 ?_
  refine lv_istore (lv' := [(5, .int (iI 0)), (0, .ref (ad 12)), (1, .int (iI a1)), (2, .ref (ad c1)), (3, .ref (ad 2)), (4, .ref (ad 8))]) C.1 C.2.1 dX3_foundOf_1 hl (by decide) rfl (fun ls hl => ?_)
  obtain ⟨n3, hw⟩ := hw
  have hS3 : ∀ (kx_3 bk_3 : Int → Mm → Prop), (∀ (v5_1 : Int) (x_2 : Mm) (H : Heap) (locs : List Loc) (ls : Array Slot), kx_3 v5_1 x_2 → fG D cy L ad (fAr L ad s.heap.size) s x_2 H locs → lv_has ls 9 [(0, .ref (ad 12)), (1, .int (iI a1)), (2, .ref (ad c1)), (3, .ref (ad 2)), (4, .ref (ad 8)), (5, .int (iI v5_1))] → W p l e (headSpec wsX3_foundOf rm_X3_foundOf).room s m args below meth c H locs 0 0 (fQi below D cy L ad s args post) (F0 m 128 ls [])) → (∀ (v5_1 : Int) (x_2 : Mm) (H : Heap) (locs : List Loc) (ls : Array Slot), bk_3 v5_1 x_2 → fG D cy L ad (fAr L ad s.heap.size) s x_2 H locs → lv_has ls 9 [(0, .ref (ad 12)), (1, .int (iI a1)), (2, .ref (ad c1)), (3, .ref (ad 2)), (4, .ref (ad 8)), (5, .int (iI v5_1))] → W p l e (headSpec wsX3_foundOf rm_X3_foundOf).room s m args below meth c H locs 0 0 (fQi below D cy L ad s args post) (F0 m 3 ls [])) → ∀ (v5_1 : Int) (x_2 : Mm) (H : Heap) (locs : List Loc) (ls : Array Slot), wB_X3_foundOf_3 c1 a1 post kx_3 bk_3 v5_1 x_2 → fG D cy L ad (fAr L ad s.heap.size) s x_2 H locs → lv_has ls 9 [(0, .ref (ad 12)), (1, .int (iI a1)), (2, .ref (ad c1)), (3, .ref (ad 2)), (4, .ref (ad 8)), (5, .int (iI v5_1))] → W p l e (headSpec wsX3_foundOf rm_X3_foundOf).room s m args below meth c H locs 0 0 (fQi below D cy L ad s args post) (F0 m 3 ls []) := by
    intro kx_3 bk_3 hX3 ih3 v5_1 x_2 H locs ls hw G hl
    refine lv_iload C.1 C.2.1 dX3_foundOf_3 (lv_at hl 5 rfl) ?_
    refine lv_iload_n C.1 C.2.1 dX3_foundOf_5 rfl (lv_at hl 1 rfl) ?_
    refine lv_aload_n C.1 C.2.1 dX3_foundOf_6 rfl (lv_at hl 0 rfl) ?_
    refine fr_get C G 12 (hL _ (by omega)) (cl_12 _) rfl iw_X3_foundOf_X3 1 (by decide) fl_X3_foundOf_15 rfl dX3_foundOf_7 ?_
    refine fr_ic C dX3_foundOf_10 ?_
    refine fr_iald C G 14 4 (hL _ (by omega)) rfl ⟨by decide, by decide⟩ ⟨by decide, by decide⟩ dX3_foundOf_11 ?_
    obtain ⟨hm_4, hw⟩ := hw
    refine fr_mmin C hl.1 mw_X3_foundOf_38_0 mw_X3_foundOf_38_1 mw_X3_foundOf_38_2 mw_X3_foundOf_38_3 (by decide) (Nat.le_of_ble_eq_true rfl) (Nat.zero_le _) (Nat.zero_le _) hm_4 dX3_foundOf_12 ?_
    obtain ⟨hc_30, hw⟩ := hw
    refine fr_gt (tgt := 128) C dX3_foundOf_15 (by decide) hc_30 (fun q_5 => ?_) (fun q_5 => ?_)
    · have hw := if_p hw q_5
      exact hX3 v5_1 x_2 _ _ _ hw G (lv_sub hl [0, 1, 2, 3, 4, 5] rfl)
    · have hw := if_n hw q_5
      refine fr_ic C dX3_foundOf_18 ?_
      refine lv_istore (lv' := [(6, .int (iI 0)), (0, .ref (ad 12)), (1, .int (iI a1)), (2, .ref (ad c1)), (3, .ref (ad 2)), (4, .ref (ad 8)), (5, .int (iI v5_1))]) C.1 C.2.1 dX3_foundOf_19 hl (by decide) rfl (fun ls hl => ?_)
      obtain ⟨n21, hw⟩ := hw
      have hS21 : ∀ (kx_21 bk_21 : Int → Mm → Prop), (∀ (v6_6 : Int) (x_7 : Mm) (H : Heap) (locs : List Loc) (ls : Array Slot), kx_21 v6_6 x_7 → fG D cy L ad (fAr L ad s.heap.size) s x_7 H locs → lv_has ls 9 [(0, .ref (ad 12)), (1, .int (iI a1)), (2, .ref (ad c1)), (3, .ref (ad 2)), (4, .ref (ad 8)), (5, .int (iI v5_1)), (6, .int (iI v6_6))] → W p l e (headSpec wsX3_foundOf rm_X3_foundOf).room s m args below meth c H locs 0 0 (fQi below D cy L ad s args post) (F0 m 122 ls [])) → (∀ (v6_6 : Int) (x_7 : Mm) (H : Heap) (locs : List Loc) (ls : Array Slot), bk_21 v6_6 x_7 → fG D cy L ad (fAr L ad s.heap.size) s x_7 H locs → lv_has ls 9 [(0, .ref (ad 12)), (1, .int (iI a1)), (2, .ref (ad c1)), (3, .ref (ad 2)), (4, .ref (ad 8)), (5, .int (iI v5_1)), (6, .int (iI v6_6))] → W p l e (headSpec wsX3_foundOf rm_X3_foundOf).room s m args below meth c H locs 0 0 (fQi below D cy L ad s args post) (F0 m 21 ls [])) → ∀ (v6_6 : Int) (x_7 : Mm) (H : Heap) (locs : List Loc) (ls : Array Slot), wB_X3_foundOf_21 c1 a1 post v5_1 kx_21 bk_21 v6_6 x_7 → fG D cy L ad (fAr L ad s.heap.size) s x_7 H locs → lv_has ls 9 [(0, .ref (ad 12)), (1, .int (iI a1)), (2, .ref (ad c1)), (3, .ref (ad 2)), (4, .ref (ad 8)), (5, .int (iI v5_1)), (6, .int (iI v6_6))] → W p l e (headSpec wsX3_foundOf rm_X3_foundOf).room s m args below meth c H locs 0 0 (fQi below D cy L ad s args post) (F0 m 21 ls []) := by
        intro kx_21 bk_21 hX21 ih21 v6_6 x_7 H locs ls hw G hl
        refine lv_iload C.1 C.2.1 dX3_foundOf_21 (lv_at hl 6 rfl) ?_
        refine lv_iload_n C.1 C.2.1 dX3_foundOf_23 rfl (lv_at hl 1 rfl) ?_
        refine lv_iload C.1 C.2.1 dX3_foundOf_24 (lv_at hl 5 rfl) ?_
        refine fr_isub C dX3_foundOf_26 ?_
        refine lv_aload_n C.1 C.2.1 dX3_foundOf_27 rfl (lv_at hl 0 rfl) ?_
        refine fr_get C G 12 (hL _ (by omega)) (cl_12 _) rfl iw_X3_foundOf_X3 1 (by decide) fl_X3_foundOf_15 rfl dX3_foundOf_28 ?_
        refine fr_ic C dX3_foundOf_31 ?_
        refine fr_iald C G 14 4 (hL _ (by omega)) rfl ⟨by decide, by decide⟩ ⟨by decide, by decide⟩ dX3_foundOf_32 ?_
        obtain ⟨hm_10, hw⟩ := hw
        refine fr_mmin C hl.1 mw_X3_foundOf_38_0 mw_X3_foundOf_38_1 mw_X3_foundOf_38_2 mw_X3_foundOf_38_3 (by decide) (Nat.le_of_ble_eq_true rfl) (Nat.zero_le _) (Nat.zero_le _) hm_10 dX3_foundOf_33 ?_
        obtain ⟨hc_29, hw⟩ := hw
        refine fr_gt (tgt := 122) C dX3_foundOf_36 (by decide) hc_29 (fun q_11 => ?_) (fun q_11 => ?_)
        · have hw := if_p hw q_11
          exact hX21 v6_6 x_7 _ _ _ hw G (lv_sub hl [0, 1, 2, 3, 4, 5, 6] rfl)
        · have hw := if_n hw q_11
          refine lv_iload_n C.1 C.2.1 dX3_foundOf_39 rfl (lv_at hl 1 rfl) ?_
          refine lv_iload C.1 C.2.1 dX3_foundOf_40 (lv_at hl 5 rfl) ?_
          refine fr_isub C dX3_foundOf_42 ?_
          refine lv_iload C.1 C.2.1 dX3_foundOf_43 (lv_at hl 6 rfl) ?_
          refine fr_isub C dX3_foundOf_45 ?_
          refine fr_nm (fun v7_12 ev7_12 => ?_)
          have hw := hw v7_12 ev7_12
          refine lv_istore (lv' := [(7, .int (iI v7_12)), (0, .ref (ad 12)), (1, .int (iI a1)), (2, .ref (ad c1)), (3, .ref (ad 2)), (4, .ref (ad 8)), (5, .int (iI v5_1)), (6, .int (iI v6_6))]) C.1 C.2.1 dX3_foundOf_46 hl (by decide) rfl (fun ls hl => ?_)
          refine fr_ic C dX3_foundOf_48 ?_
          refine lv_iload C.1 C.2.1 dX3_foundOf_49 (lv_at hl 0 rfl) ?_
          refine lv_aload_n C.1 C.2.1 dX3_foundOf_51 rfl (lv_at hl 1 rfl) ?_
          refine fr_get C G 12 (hL _ (by omega)) (cl_12 _) rfl iw_X3_foundOf_X3 1 (by decide) fl_X3_foundOf_15 rfl dX3_foundOf_52 ?_
          refine fr_ic C dX3_foundOf_55 ?_
          refine fr_iald C G 14 4 (hL _ (by omega)) rfl ⟨by decide, by decide⟩ ⟨by decide, by decide⟩ dX3_foundOf_56 ?_
          refine fr_isub C dX3_foundOf_57 ?_
          obtain ⟨hm_14, hw⟩ := hw
          refine fr_mmax C hl.1 mw_X3_foundOf_28_0 mw_X3_foundOf_28_1 mw_X3_foundOf_28_2 mw_X3_foundOf_28_3 (by decide) (Nat.le_of_ble_eq_true rfl) (Nat.zero_le _) (Nat.zero_le _) ⟨⟨by decide, by decide⟩, hm_14⟩ dX3_foundOf_58 ?_
          refine fr_nm (fun v8_15 ev8_15 => ?_)
          have hw := hw v8_15 ev8_15
          refine lv_istore (lv' := [(8, .int (iI v8_15)), (7, .int (iI v7_12)), (0, .ref (ad 12)), (1, .int (iI a1)), (2, .ref (ad c1)), (3, .ref (ad 2)), (4, .ref (ad 8)), (5, .int (iI v5_1)), (6, .int (iI v6_6))]) C.1 C.2.1 dX3_foundOf_61 hl (by decide) rfl (fun ls hl => ?_)
          obtain ⟨n63, hw⟩ := hw
          have hS63 : ∀ (kx_63 bk_63 : Int → Mm → Prop), (∀ (v8_16 : Int) (x_17 : Mm) (H : Heap) (locs : List Loc) (ls : Array Slot), kx_63 v8_16 x_17 → fG D cy L ad (fAr L ad s.heap.size) s x_17 H locs → lv_has ls 9 [(0, .ref (ad 12)), (1, .int (iI a1)), (2, .ref (ad c1)), (3, .ref (ad 2)), (4, .ref (ad 8)), (5, .int (iI v5_1)), (6, .int (iI v6_6)), (7, .int (iI v7_12)), (8, .int (iI v8_16))] → W p l e (headSpec wsX3_foundOf rm_X3_foundOf).room s m args below meth c H locs 0 0 (fQi below D cy L ad s args post) (F0 m 116 ls [])) → (∀ (v8_16 : Int) (x_17 : Mm) (H : Heap) (locs : List Loc) (ls : Array Slot), bk_63 v8_16 x_17 → fG D cy L ad (fAr L ad s.heap.size) s x_17 H locs → lv_has ls 9 [(0, .ref (ad 12)), (1, .int (iI a1)), (2, .ref (ad c1)), (3, .ref (ad 2)), (4, .ref (ad 8)), (5, .int (iI v5_1)), (6, .int (iI v6_6)), (7, .int (iI v7_12)), (8, .int (iI v8_16))] → W p l e (headSpec wsX3_foundOf rm_X3_foundOf).room s m args below meth c H locs 0 0 (fQi below D cy L ad s args post) (F0 m 63 ls [])) → ∀ (v8_16 : Int) (x_17 : Mm) (H : Heap) (locs : List Loc) (ls : Array Slot), wB_X3_foundOf_63 c1 post v5_1 v6_6 v7_12 kx_63 bk_63 v8_16 x_17 → fG D cy L ad (fAr L ad s.heap.size) s x_17 H locs → lv_has ls 9 [(0, .ref (ad 12)), (1, .int (iI a1)), (2, .ref (ad c1)), (3, .ref (ad 2)), (4, .ref (ad 8)), (5, .int (iI v5_1)), (6, .int (iI v6_6)), (7, .int (iI v7_12)), (8, .int (iI v8_16))] → W p l e (headSpec wsX3_foundOf rm_X3_foundOf).room s m args below meth c H locs 0 0 (fQi below D cy L ad s args post) (F0 m 63 ls []) := by
            intro kx_63 bk_63 hX63 ih63 v8_16 x_17 H locs ls hw G hl
            refine lv_iload C.1 C.2.1 dX3_foundOf_63 (lv_at hl 8 rfl) ?_
            refine lv_iload C.1 C.2.1 dX3_foundOf_65 (lv_at hl 7 rfl) ?_
            refine lv_aload_n C.1 C.2.1 dX3_foundOf_67 rfl (lv_at hl 0 rfl) ?_
            refine fr_get C G 12 (hL _ (by omega)) (cl_12 _) rfl iw_X3_foundOf_X3 1 (by decide) fl_X3_foundOf_15 rfl dX3_foundOf_68 ?_
            refine fr_ic C dX3_foundOf_71 ?_
            refine fr_iald C G 14 4 (hL _ (by omega)) rfl ⟨by decide, by decide⟩ ⟨by decide, by decide⟩ dX3_foundOf_72 ?_
            obtain ⟨hm_20, hw⟩ := hw
            refine fr_mmin C hl.1 mw_X3_foundOf_38_0 mw_X3_foundOf_38_1 mw_X3_foundOf_38_2 mw_X3_foundOf_38_3 (by decide) (Nat.le_of_ble_eq_true rfl) (Nat.zero_le _) (Nat.zero_le _) hm_20 dX3_foundOf_73 ?_
            obtain ⟨hc_28, hw⟩ := hw
            refine fr_gt (tgt := 116) C dX3_foundOf_76 (by decide) hc_28 (fun q_21 => ?_) (fun q_21 => ?_)
            · have hw := if_p hw q_21
              exact hX63 v8_16 x_17 _ _ _ hw G (lv_sub hl [0, 1, 2, 3, 4, 5, 6, 7, 8] rfl)
            · have hw := if_n hw q_21
              refine lv_aload_n C.1 C.2.1 dX3_foundOf_79 rfl (lv_at hl 0 rfl) ?_
              refine lv_aload_n C.1 C.2.1 dX3_foundOf_80 rfl (lv_at hl 2 rfl) ?_
              refine lv_iload C.1 C.2.1 dX3_foundOf_81 (lv_at hl 5 rfl) ?_
              refine lv_iload C.1 C.2.1 dX3_foundOf_83 (lv_at hl 6 rfl) ?_
              refine lv_iload C.1 C.2.1 dX3_foundOf_85 (lv_at hl 8 rfl) ?_
              refine lv_iload C.1 C.2.1 dX3_foundOf_87 (lv_at hl 7 rfl) ?_
              refine lv_iload C.1 C.2.1 dX3_foundOf_89 (lv_at hl 8 rfl) ?_
              refine fr_isub C dX3_foundOf_91 ?_
              refine fr_Vv C G (c_X3_take l D cy L ad _ hL c1 hc1 hlc1 v5_1 v6_6 v8_16 (v7_12 - v8_16) x_17 _ hw) (cwV 5 C.2.2.2.2 gX3_foundOf_X3_take rfl rfl rfl (by decide +kernel) ⟨Nat.le_of_ble_eq_true rfl, Nat.le_of_ble_eq_true rfl⟩) (G.recv (hL _ (by omega)) (cl_12 _) rfl) rfl hl.1 rfl (Nat.le_of_ble_eq_true rfl) dX3_foundOf_92 ⟨Nat.zero_le _, Nat.zero_le _⟩ (fun x_22 H locs hw G => ?_)
              refine lv_aload C.1 C.2.1 dX3_foundOf_95 (lv_at hl 4 rfl) ?_
              refine lv_aload_n C.1 C.2.1 dX3_foundOf_97 rfl (lv_at hl 0 rfl) ?_
              refine fr_get C G 12 (hL _ (by omega)) (cl_12 _) rfl iw_X3_foundOf_X3 2 (by decide) fl_X3_foundOf_18 rfl dX3_foundOf_98 ?_
              refine lv_aload_n C.1 C.2.1 dX3_foundOf_101 rfl (lv_at hl 3 rfl) ?_
              refine fr_Vi C G (c_X0_metBy l D cy L ad _ hL 15 (hL _ (by omega)) rfl x_22 _ hw) (cwV 2 C.2.2.2.2 gX3_foundOf_X0_metBy rfl rfl rfl (by decide +kernel) ⟨Nat.le_of_ble_eq_true rfl, Nat.le_of_ble_eq_true rfl⟩) (G.recv (hL _ (by omega)) (cl_8 _) rfl) rfl hl.1 rfl (Nat.le_of_ble_eq_true rfl) dX3_foundOf_102 ⟨Nat.zero_le _, Nat.zero_le _⟩ (fun z_24 x_23 H locs hw G => ?_)
              obtain ⟨hc_27, hw⟩ := hw
              refine fr_eq0 (tgt := 110) C dX3_foundOf_105 (by decide) hc_27 (fun q_25 => ?_) (fun q_25 => ?_)
              · have hw := if_p hw q_25
                obtain ⟨v8_26, ev8_26⟩ : ∃ z : Int, z = v8_16 + 1 := ⟨_, rfl⟩
                have hw := hw v8_26 ev8_26
                refine lv_iinc (v := iI v8_26) (lv' := [(8, .int (iI v8_26)), (0, .ref (ad 12)), (1, .int (iI a1)), (2, .ref (ad c1)), (3, .ref (ad 2)), (4, .ref (ad 8)), (5, .int (iI v5_1)), (6, .int (iI v6_6)), (7, .int (iI v7_12))]) C.1 C.2.1 dX3_foundOf_110 hl (k := 8) rfl (by rw [ev8_26]; exact iI_add _ _) (by decide) rfl (fun ls hl => ?_)
                refine lv_goto (tgt := 63) C.1 C.2.1 dX3_foundOf_113 (by decide) ?_
                exact ih63 v8_26 x_23 _ _ _ hw G (lv_sub hl [1, 2, 3, 4, 5, 6, 7, 8, 0] rfl)
              · have hw := if_n hw q_25
                refine fr_ic C dX3_foundOf_108 ?_
                exact fr_zret C G hr hlk (by decide) hw dX3_foundOf_109
          have hX63 : ∀ (v8_16 : Int) (x_17 : Mm) (H : Heap) (locs : List Loc) (ls : Array Slot), wX_X3_foundOf_63 v6_6 bk_21 v8_16 x_17 → fG D cy L ad (fAr L ad s.heap.size) s x_17 H locs → lv_has ls 9 [(0, .ref (ad 12)), (1, .int (iI a1)), (2, .ref (ad c1)), (3, .ref (ad 2)), (4, .ref (ad 8)), (5, .int (iI v5_1)), (6, .int (iI v6_6)), (7, .int (iI v7_12)), (8, .int (iI v8_16))] → W p l e (headSpec wsX3_foundOf rm_X3_foundOf).room s m args below meth c H locs 0 0 (fQi below D cy L ad s args post) (F0 m 116 ls []) := by
            intro v8_16 x_17 H locs ls hw G hl
            obtain ⟨v6_18, ev6_18⟩ : ∃ z : Int, z = v6_6 + 1 := ⟨_, rfl⟩
            have hw := hw v6_18 ev6_18
            refine lv_iinc (v := iI v6_18) (lv' := [(6, .int (iI v6_18)), (0, .ref (ad 12)), (1, .int (iI a1)), (2, .ref (ad c1)), (3, .ref (ad 2)), (4, .ref (ad 8)), (5, .int (iI v5_1)), (7, .int (iI v7_12)), (8, .int (iI v8_16))]) C.1 C.2.1 dX3_foundOf_116 hl (k := 6) rfl (by rw [ev6_18]; exact iI_add _ _) (by decide) rfl (fun ls hl => ?_)
            refine lv_goto (tgt := 21) C.1 C.2.1 dX3_foundOf_119 (by decide) ?_
            exact ih21 v6_18 x_17 _ _ _ hw G (lv_sub hl [1, 2, 3, 4, 5, 6, 0] rfl)
          have hB63 : ∀ (n : Nat) (v8_16 : Int) (x_17 : Mm) (H : Heap) (locs : List Loc) (ls : Array Slot), lk2 (wB_X3_foundOf_63 c1 post v5_1 v6_6 v7_12 (wX_X3_foundOf_63 v6_6 bk_21)) n v8_16 x_17 → fG D cy L ad (fAr L ad s.heap.size) s x_17 H locs → lv_has ls 9 [(0, .ref (ad 12)), (1, .int (iI a1)), (2, .ref (ad c1)), (3, .ref (ad 2)), (4, .ref (ad 8)), (5, .int (iI v5_1)), (6, .int (iI v6_6)), (7, .int (iI v7_12)), (8, .int (iI v8_16))] → W p l e (headSpec wsX3_foundOf rm_X3_foundOf).room s m args below meth c H locs 0 0 (fQi below D cy L ad s args post) (F0 m 63 ls []) := by
            intro n
            induction n with
            | zero =>
              intro v8_16 x_17 H locs ls hw
              exact hw.elim
            | succ n ih =>
              intro v8_16 x_17 H locs ls hw G hl
              exact hS63 _ _ hX63 ih v8_16 x_17 H locs ls hw G hl
          exact hB63 n63 v8_15 x_7 _ _ _ hw G (lv_sub hl [2, 3, 4, 5, 6, 7, 8, 1, 0] rfl)
      have hX21 : ∀ (v6_6 : Int) (x_7 : Mm) (H : Heap) (locs : List Loc) (ls : Array Slot), wX_X3_foundOf_21 v5_1 bk_3 v6_6 x_7 → fG D cy L ad (fAr L ad s.heap.size) s x_7 H locs → lv_has ls 9 [(0, .ref (ad 12)), (1, .int (iI a1)), (2, .ref (ad c1)), (3, .ref (ad 2)), (4, .ref (ad 8)), (5, .int (iI v5_1)), (6, .int (iI v6_6))] → W p l e (headSpec wsX3_foundOf rm_X3_foundOf).room s m args below meth c H locs 0 0 (fQi below D cy L ad s args post) (F0 m 122 ls []) := by
        intro v6_6 x_7 H locs ls hw G hl
        obtain ⟨v5_8, ev5_8⟩ : ∃ z : Int, z = v5_1 + 1 := ⟨_, rfl⟩
        have hw := hw v5_8 ev5_8
        refine lv_iinc (v := iI v5_8) (lv' := [(5, .int (iI v5_8)), (0, .ref (ad 12)), (1, .int (iI a1)), (2, .ref (ad c1)), (3, .ref (ad 2)), (4, .ref (ad 8)), (6, .int (iI v6_6))]) C.1 C.2.1 dX3_foundOf_122 hl (k := 5) rfl (by rw [ev5_8]; exact iI_add _ _) (by decide) rfl (fun ls hl => ?_)
        refine lv_goto (tgt := 3) C.1 C.2.1 dX3_foundOf_125 (by decide) ?_
        exact ih3 v5_8 x_7 _ _ _ hw G (lv_sub hl [1, 2, 3, 4, 5, 0] rfl)
      have hB21 : ∀ (n : Nat) (v6_6 : Int) (x_7 : Mm) (H : Heap) (locs : List Loc) (ls : Array Slot), lk2 (wB_X3_foundOf_21 c1 a1 post v5_1 (wX_X3_foundOf_21 v5_1 bk_3)) n v6_6 x_7 → fG D cy L ad (fAr L ad s.heap.size) s x_7 H locs → lv_has ls 9 [(0, .ref (ad 12)), (1, .int (iI a1)), (2, .ref (ad c1)), (3, .ref (ad 2)), (4, .ref (ad 8)), (5, .int (iI v5_1)), (6, .int (iI v6_6))] → W p l e (headSpec wsX3_foundOf rm_X3_foundOf).room s m args below meth c H locs 0 0 (fQi below D cy L ad s args post) (F0 m 21 ls []) := by
        intro n
        induction n with
        | zero =>
          intro v6_6 x_7 H locs ls hw
          exact hw.elim
        | succ n ih =>
          intro v6_6 x_7 H locs ls hw G hl
          exact hS21 _ _ hX21 ih v6_6 x_7 H locs ls hw G hl
      exact hB21 n21 0 x_2 _ _ _ hw G (lv_sub hl [1, 2, 3, 4, 5, 6, 0] rfl)
  have hX3 : ∀ (v5_1 : Int) (x_2 : Mm) (H : Heap) (locs : List Loc) (ls : Array Slot), wX_X3_foundOf_3 post v5_1 x_2 → fG D cy L ad (fAr L ad s.heap.size) s x_2 H locs → lv_has ls 9 [(0, .ref (ad 12)), (1, .int (iI a1)), (2, .ref (ad c1)), (3, .ref (ad 2)), (4, .ref (ad 8)), (5, .int (iI v5_1))] → W p l e (headSpec wsX3_foundOf rm_X3_foundOf).room s m args below meth c H locs 0 0 (fQi below D cy L ad s args post) (F0 m 128 ls []) := by
    intro v5_1 x_2 H locs ls hw G hl
    refine fr_ic C dX3_foundOf_128 ?_
    exact fr_zret C G hr hlk (by decide) hw dX3_foundOf_129
  have hB3 : ∀ (n : Nat) (v5_1 : Int) (x_2 : Mm) (H : Heap) (locs : List Loc) (ls : Array Slot), lk2 (wB_X3_foundOf_3 c1 a1 post (wX_X3_foundOf_3 post)) n v5_1 x_2 → fG D cy L ad (fAr L ad s.heap.size) s x_2 H locs → lv_has ls 9 [(0, .ref (ad 12)), (1, .int (iI a1)), (2, .ref (ad c1)), (3, .ref (ad 2)), (4, .ref (ad 8)), (5, .int (iI v5_1))] → W p l e (headSpec wsX3_foundOf rm_X3_foundOf).room s m args below meth c H locs 0 0 (fQi below D cy L ad s args post) (F0 m 3 ls []) := by
    intro n
    induction n with
    | zero =>
      intro v5_1 x_2 H locs ls hw
      exact hw.elim
    | succ n ih =>
      intro v5_1 x_2 H locs ls hw G hl
      exact hS3 _ _ hX3 ih v5_1 x_2 H locs ls hw G hl
  exact hB3 n3 0 x _ _ _ hw G (lv_sub hl [1, 2, 3, 4, 5, 0] rfl)
