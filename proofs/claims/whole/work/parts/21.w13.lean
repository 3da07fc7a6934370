def wX_X8_take_2 (post : Mm → Prop) (v3_1 : Int) (x_2 : Mm) : Prop :=
  post x_2
def wB_X8_take_2 (c1 : Nat) (a1 : Int) (kx_2 bk_2 : Int → Mm → Prop) (v3_1 : Int) (x_2 : Mm) : Prop :=
  rg v3_1 ∧ (if 4 ≤ v3_1 then (kx_2 v3_1 x_2) else ((0 ≤ (4 * a1) + v3_1 ∧ (4 * a1) + v3_1 < ((al c1 : Nat) : Int)) ∧ (0 ≤ v3_1 ∧ v3_1 < 4) ∧ (∀ x_6 : Mm, x_6 = up2 x_2 71 (v3_1).toNat (x_2 c1 ((4 * a1) + v3_1).toNat) → ∀ v3_7 : Int, v3_7 = v3_1 + 1 → bk_2 v3_7 x_6)))
def w_X8_take (c1 : Nat) (a1 : Int) (x : Mm) (post : Mm → Prop) : Prop :=
  ∃ n : Nat, lk2 (wB_X8_take_2 c1 a1 (wX_X8_take_2 post)) n 0 x
abbrev rm_X8_take : Room := { frames := 0, cells := 0, slots := 0, locals := 0 }
theorem iw_X8_take_X8 : ∀ w ∈ u_ws RX8 TX8 20, w ∈ wsX8_take := by decide +kernel
theorem fl_X8_take_48 : Cond.fieldLink RX8 48 (TX8 14).1 (TX8 14).2.1 (TX8 14).2.2.1 ∈ wsX8_take := by decide +kernel
set_option maxHeartbeats 4000000 in
set_option maxRecDepth 100000 in
theorem c_X8_take (l : Launch) (D : va_G) (cy : Nat → ClassId) (L : List Nat) (ad : Nat → Nat) (sz : Nat) (hL : fLM L) (c1 : Nat) (hc1 : c1 ∈ L) (hnc1 : al c1 ≠ 0 ∧ al c1 < 2 ^ 31) (a1 : Int) (x : Mm) (post : Mm → Prop) (hw : w_X8_take c1 a1 x post) : fMv l yX8_take wsX8_take rm_X8_take [.ref (ad 60), .ref (ad c1), .int (iI a1)] D cy L ad sz x post := by
  refine Met.ofW (cc := cX8_take) (maxL := 4) (ret := none) (by decide) rfl ?_
  intro p e s m args below meth c s₁ B hml hv
  obtain ⟨hargs, hp⟩ := hv
  obtain ⟨C, hr, hlk, hsz, G⟩ := fr_start B hml hp
  subst hsz
  obtain ⟨ls, els, hl⟩ := fr_entry (m := m) (n := 4) hargs (Nat.le_of_ble_eq_true rfl)
  rw [els]
  have hl : lv_has ls 4 [(0, .ref (ad 60)), (1, .ref (ad c1)), (2, .int (iI a1))] := hl
  clear els hargs hp B
  refine fr_ic C dX8_take_0 ?_
  refine lv_istore_n (lv' := [(3, .int (iI 0)), (0, .ref (ad 60)), (1, .ref (ad c1)), (2, .int (iI a1))]) C.1 C.2.1 dX8_take_1 rfl hl (by decide) rfl (fun ls hl => ?_)
  obtain ⟨n2, hw⟩ := hw
  have hS2 : ∀ (kx_2 bk_2 : Int → Mm → Prop), (∀ (v3_1 : Int) (x_2 : Mm) (H : Heap) (locs : List Loc) (ls : Array Slot), kx_2 v3_1 x_2 → fG D cy L ad (fAr L ad s.heap.size) s x_2 H locs → lv_has ls 4 [(0, .ref (ad 60)), (1, .ref (ad c1)), (2, .int (iI a1)), (3, .int (iI v3_1))] → W p l e (headSpec wsX8_take rm_X8_take).room s m args below meth c H locs 0 0 (fQv below D cy L ad s args post) (F0 m 26 ls [])) → (∀ (v3_1 : Int) (x_2 : Mm) (H : Heap) (locs : List Loc) (ls : Array Slot), bk_2 v3_1 x_2 → fG D cy L ad (fAr L ad s.heap.size) s x_2 H locs → lv_has ls 4 [(0, .ref (ad 60)), (1, .ref (ad c1)), (2, .int (iI a1)), (3, .int (iI v3_1))] → W p l e (headSpec wsX8_take rm_X8_take).room s m args below meth c H locs 0 0 (fQv below D cy L ad s args post) (F0 m 2 ls [])) → ∀ (v3_1 : Int) (x_2 : Mm) (H : Heap) (locs : List Loc) (ls : Array Slot), wB_X8_take_2 c1 a1 kx_2 bk_2 v3_1 x_2 → fG D cy L ad (fAr L ad s.heap.size) s x_2 H locs → lv_has ls 4 [(0, .ref (ad 60)), (1, .ref (ad c1)), (2, .int (iI a1)), (3, .int (iI v3_1))] → W p l e (headSpec wsX8_take rm_X8_take).room s m args below meth c H locs 0 0 (fQv below D cy L ad s args post) (F0 m 2 ls []) := by
    intro kx_2 bk_2 hX2 ih2 v3_1 x_2 H locs ls hw G hl
    refine lv_iload_n C.1 C.2.1 dX8_take_2 rfl (lv_at hl 3 rfl) ?_
    refine fr_ic C dX8_take_3 ?_
    obtain ⟨hc_8, hw⟩ := hw
    refine fr_ge (tgt := 26) C dX8_take_4 (by decide) ⟨hc_8, ⟨by decide, by decide⟩⟩ (fun q_3 => ?_) (fun q_3 => ?_)
    · have hw := if_p hw q_3
      exact hX2 v3_1 x_2 _ _ _ hw G (lv_sub hl [0, 1, 2, 3] rfl)
    · have hw := if_n hw q_3
      refine lv_aload_n C.1 C.2.1 dX8_take_7 rfl (lv_at hl 0 rfl) ?_
      refine fr_get C G 60 (hL _ (by omega)) (cl_60 _) rfl iw_X8_take_X8 14 (by decide) fl_X8_take_48 rfl dX8_take_8 ?_
      refine lv_iload_n C.1 C.2.1 dX8_take_11 rfl (lv_at hl 3 rfl) ?_
      refine lv_aload_n C.1 C.2.1 dX8_take_12 rfl (lv_at hl 1 rfl) ?_
      refine fr_ic C dX8_take_13 ?_
      refine lv_iload_n C.1 C.2.1 dX8_take_14 rfl (lv_at hl 2 rfl) ?_
      refine fr_imul C dX8_take_15 ?_
      refine lv_iload_n C.1 C.2.1 dX8_take_16 rfl (lv_at hl 3 rfl) ?_
      refine fr_iadd C dX8_take_17 ?_
      obtain ⟨hb_4, hw⟩ := hw
      refine fr_iald C G c1 (al c1) hc1 rfl hnc1 hb_4 dX8_take_18 ?_
      obtain ⟨hb_5, hw⟩ := hw
      refine fr_iast C G 71 4 (hL _ (by omega)) rfl ⟨by decide, by decide⟩ hb_5 dX8_take_19 (fun x_6 H locs ex_6 G => ?_)
      have hw := hw x_6 ex_6
      obtain ⟨v3_7, ev3_7⟩ : ∃ z : Int, z = v3_1 + 1 := ⟨_, rfl⟩
      have hw := hw v3_7 ev3_7
      refine lv_iinc (v := iI v3_7) (lv' := [(3, .int (iI v3_7)), (0, .ref (ad 60)), (1, .ref (ad c1)), (2, .int (iI a1))]) C.1 C.2.1 dX8_take_20 hl (k := 3) rfl (by rw [ev3_7]; exact iI_add _ _) (by decide) rfl (fun ls hl => ?_)
      refine lv_goto (tgt := 2) C.1 C.2.1 dX8_take_23 (by decide) ?_
      exact ih2 v3_7 x_6 _ _ _ hw G (lv_sub hl [1, 2, 3, 0] rfl)
  have hX2 : ∀ (v3_1 : Int) (x_2 : Mm) (H : Heap) (locs : List Loc) (ls : Array Slot), wX_X8_take_2 post v3_1 x_2 → fG D cy L ad (fAr L ad s.heap.size) s x_2 H locs → lv_has ls 4 [(0, .ref (ad 60)), (1, .ref (ad c1)), (2, .int (iI a1)), (3, .int (iI v3_1))] → W p l e (headSpec wsX8_take rm_X8_take).room s m args below meth c H locs 0 0 (fQv below D cy L ad s args post) (F0 m 26 ls []) := by
    intro v3_1 x_2 H locs ls hw G hl
    exact fr_vret C G hr hlk hw dX8_take_26
  have hB2 : ∀ (n : Nat) (v3_1 : Int) (x_2 : Mm) (H : Heap) (locs : List Loc) (ls : Array Slot), lk2 (wB_X8_take_2 c1 a1 (wX_X8_take_2 post)) n v3_1 x_2 → fG D cy L ad (fAr L ad s.heap.size) s x_2 H locs → lv_has ls 4 [(0, .ref (ad 60)), (1, .ref (ad c1)), (2, .int (iI a1)), (3, .int (iI v3_1))] → W p l e (headSpec wsX8_take rm_X8_take).room s m args below meth c H locs 0 0 (fQv below D cy L ad s args post) (F0 m 2 ls []) := by
    intro n
    induction n with
    | zero =>
      intro v3_1 x_2 H locs ls hw
      exact hw.elim
    | succ n ih =>
      intro v3_1 x_2 H locs ls hw G hl
      exact hS2 _ _ hX2 ih v3_1 x_2 H locs ls hw G hl
  exact hB2 n2 0 x _ _ _ hw G (lv_sub hl [1, 2, 3, 0] rfl)
def w_X8_bondOf (a1 a2 : Int) (x : Mm) (post : Int → Mm → Prop) : Prop :=
  rg a2 ∧ (if a2 = 0 then (rg a2 ∧ (if a2 = 0 then (∀ v3_11 : Int, v3_11 = x 71 0 → rg a1 ∧ rg v3_11 ∧ rg v3_11 ∧ rg v3_11 ∧ (rl (((a1 * v3_11) * v3_11) * v3_11) ∧ 0 ≤ ((a1 * v3_11) * v3_11) * v3_11) ∧ post (((((a1 * v3_11) * v3_11) * v3_11) / 32) + 1) x) else (∀ v3_4 : Int, v3_4 = x 71 3 → rg a1 ∧ rg v3_4 ∧ rg v3_4 ∧ rg v3_4 ∧ (rl (((a1 * v3_4) * v3_4) * v3_4) ∧ 0 ≤ ((a1 * v3_4) * v3_4) * v3_4) ∧ post (((((a1 * v3_4) * v3_4) * v3_4) / 32) + 1) x))) else (rg a2 ∧ (if a2 = 4 then (rg a2 ∧ (if a2 = 0 then (∀ v3_46 : Int, v3_46 = x 71 0 → rg a1 ∧ rg v3_46 ∧ rg v3_46 ∧ rg v3_46 ∧ (rl (((a1 * v3_46) * v3_46) * v3_46) ∧ 0 ≤ ((a1 * v3_46) * v3_46) * v3_46) ∧ post (((((a1 * v3_46) * v3_46) * v3_46) / 32) + 1) x) else (∀ v3_39 : Int, v3_39 = x 71 3 → rg a1 ∧ rg v3_39 ∧ rg v3_39 ∧ rg v3_39 ∧ (rl (((a1 * v3_39) * v3_39) * v3_39) ∧ 0 ≤ ((a1 * v3_39) * v3_39) * v3_39) ∧ post (((((a1 * v3_39) * v3_39) * v3_39) / 32) + 1) x))) else ((0 ≤ a2 ∧ a2 < 4) ∧ (0 ≤ a2 - 1 ∧ a2 - 1 < 4) ∧ (rg (x 71 (a2).toNat) ∧ rg (x 71 (a2 - 1).toNat)) ∧ (if (x 71 (a2 - 1).toNat) ≤ (x 71 (a2).toNat) then ((0 ≤ a2 - 1 ∧ a2 - 1 < 4) ∧ ∀ v3_23 : Int, v3_23 = x 71 (a2 - 1).toNat → rg a1 ∧ rg v3_23 ∧ rg v3_23 ∧ rg v3_23 ∧ (rl (((a1 * v3_23) * v3_23) * v3_23) ∧ 0 ≤ ((a1 * v3_23) * v3_23) * v3_23) ∧ post (((((a1 * v3_23) * v3_23) * v3_23) / 8) + 1) x) else ((0 ≤ a2 ∧ a2 < 4) ∧ ∀ v3_30 : Int, v3_30 = x 71 (a2).toNat → rg a1 ∧ rg v3_30 ∧ rg v3_30 ∧ rg v3_30 ∧ (rl (((a1 * v3_30) * v3_30) * v3_30) ∧ 0 ≤ ((a1 * v3_30) * v3_30) * v3_30) ∧ post (((((a1 * v3_30) * v3_30) * v3_30) / 8) + 1) x))))))
abbrev rm_X8_bondOf : Room := { frames := 0, cells := 0, slots := 0, locals := 0 }
theorem iw_X8_bondOf_X8 : ∀ w ∈ u_ws RX8 TX8 20, w ∈ wsX8_bondOf := by decide +kernel
theorem fl_X8_bondOf_48 : Cond.fieldLink RX8 48 (TX8 14).1 (TX8 14).2.1 (TX8 14).2.2.1 ∈ wsX8_bondOf := by decide +kernel
set_option maxHeartbeats 4000000 in
set_option maxRecDepth 100000 in
theorem c_X8_bondOf (l : Launch) (D : va_G) (cy : Nat → ClassId) (L : List Nat) (ad : Nat → Nat) (sz : Nat) (hL : fLM L) (a1 a2 : Int) (x : Mm) (post : Int → Mm → Prop) (hw : w_X8_bondOf a1 a2 x post) : fMl l yX8_bondOf wsX8_bondOf rm_X8_bondOf [.ref (ad 60), .int (iI a1), .int (iI a2)] D cy L ad sz x post := by
  refine Met.ofW (cc := cX8_bondOf) (maxL := 4) (ret := (some .long)) (by decide) rfl ?_
  intro p e s m args below meth c s₁ B hml hv
  obtain ⟨hargs, hp⟩ := hv
  obtain ⟨C, hr, hlk, hsz, G⟩ := fr_start B hml hp
  subst hsz
  obtain ⟨ls, els, hl⟩ := fr_entry (m := m) (n := 4) hargs (Nat.le_of_ble_eq_true rfl)
  rw [els]
  have hl : lv_has ls 4 [(0, .ref (ad 60)), (1, .int (iI a1)), (2, .int (iI a2))] := hl
  clear els hargs hp B
  refine lv_iload_n C.1 C.2.1 dX8_bondOf_0 rfl (lv_at hl 2 rfl) ?_
  obtain ⟨hc_54, hw⟩ := hw
  refine fr_eq0 (tgt := 9) C dX8_bondOf_1 (by decide) hc_54 (fun q_1 => ?_) (fun q_1 => ?_)
  · have hw := if_p hw q_1
    refine lv_aload_n C.1 C.2.1 dX8_bondOf_9 rfl (lv_at hl 0 rfl) ?_
    refine fr_get C G 60 (hL _ (by omega)) (cl_60 _) rfl iw_X8_bondOf_X8 14 (by decide) fl_X8_bondOf_48 rfl dX8_bondOf_10 ?_
    refine lv_iload_n C.1 C.2.1 dX8_bondOf_13 rfl (lv_at hl 2 rfl) ?_
    obtain ⟨hc_17, hw⟩ := hw
    refine fr_ne0 (tgt := 21) C dX8_bondOf_14 (by decide) hc_17 (fun q_2 => ?_) (fun q_2 => ?_)
    · have hw := if_p hw q_2
      refine fr_ic C dX8_bondOf_17 ?_
      refine lv_goto (tgt := 22) C.1 C.2.1 dX8_bondOf_18 (by decide) ?_
      refine fr_iald C G 71 4 (hL _ (by omega)) rfl ⟨by decide, by decide⟩ ⟨by decide, by decide⟩ dX8_bondOf_22 ?_
      refine fr_nm (fun v3_11 ev3_11 => ?_)
      have hw := hw v3_11 ev3_11
      refine lv_istore_n (lv' := [(3, .int (iI v3_11)), (0, .ref (ad 60)), (1, .int (iI a1)), (2, .int (iI a2))]) C.1 C.2.1 dX8_bondOf_23 rfl hl (by decide) rfl (fun ls hl => ?_)
      refine lv_iload_n C.1 C.2.1 dX8_bondOf_24 rfl (lv_at hl 2 rfl) ?_
      obtain ⟨hr_12, hw⟩ := hw
      refine fr_i2l C dX8_bondOf_25 hr_12 ?_
      refine lv_iload_n C.1 C.2.1 dX8_bondOf_26 rfl (lv_at hl 0 rfl) ?_
      obtain ⟨hr_13, hw⟩ := hw
      refine fr_i2l C dX8_bondOf_27 hr_13 ?_
      refine fr_lmul C dX8_bondOf_28 ?_
      refine lv_iload_n C.1 C.2.1 dX8_bondOf_29 rfl (lv_at hl 0 rfl) ?_
      obtain ⟨hr_14, hw⟩ := hw
      refine fr_i2l C dX8_bondOf_30 hr_14 ?_
      refine fr_lmul C dX8_bondOf_31 ?_
      refine lv_iload_n C.1 C.2.1 dX8_bondOf_32 rfl (lv_at hl 0 rfl) ?_
      obtain ⟨hr_15, hw⟩ := hw
      refine fr_i2l C dX8_bondOf_33 hr_15 ?_
      refine fr_lmul C dX8_bondOf_34 ?_
      refine fr_ldc2 (z := 32) (v := 32) C rfl (by decide +kernel) dX8_bondOf_35 ?_
      obtain ⟨hd_16, hw⟩ := hw
      refine fr_ldiv C dX8_bondOf_38 ⟨hd_16.1, ⟨by decide, by decide⟩, hd_16.2, by decide⟩ ?_
      refine fr_lc (z := 1) C dX8_bondOf_39 rfl ?_
      refine fr_ladd C dX8_bondOf_40 ?_
      exact fr_lret C G hr hlk hw dX8_bondOf_41
    · have hw := if_n hw q_2
      refine fr_ic C dX8_bondOf_21 ?_
      refine fr_iald C G 71 4 (hL _ (by omega)) rfl ⟨by decide, by decide⟩ ⟨by decide, by decide⟩ dX8_bondOf_22 ?_
      refine fr_nm (fun v3_4 ev3_4 => ?_)
      have hw := hw v3_4 ev3_4
      refine lv_istore_n (lv' := [(3, .int (iI v3_4)), (0, .ref (ad 60)), (1, .int (iI a1)), (2, .int (iI a2))]) C.1 C.2.1 dX8_bondOf_23 rfl hl (by decide) rfl (fun ls hl => ?_)
      refine lv_iload_n C.1 C.2.1 dX8_bondOf_24 rfl (lv_at hl 2 rfl) ?_
      obtain ⟨hr_5, hw⟩ := hw
      refine fr_i2l C dX8_bondOf_25 hr_5 ?_
      refine lv_iload_n C.1 C.2.1 dX8_bondOf_26 rfl (lv_at hl 0 rfl) ?_
      obtain ⟨hr_6, hw⟩ := hw
      refine fr_i2l C dX8_bondOf_27 hr_6 ?_
      refine fr_lmul C dX8_bondOf_28 ?_
      refine lv_iload_n C.1 C.2.1 dX8_bondOf_29 rfl (lv_at hl 0 rfl) ?_
      obtain ⟨hr_7, hw⟩ := hw
      refine fr_i2l C dX8_bondOf_30 hr_7 ?_
      refine fr_lmul C dX8_bondOf_31 ?_
      refine lv_iload_n C.1 C.2.1 dX8_bondOf_32 rfl (lv_at hl 0 rfl) ?_
      obtain ⟨hr_8, hw⟩ := hw
      refine fr_i2l C dX8_bondOf_33 hr_8 ?_
      refine fr_lmul C dX8_bondOf_34 ?_
      refine fr_ldc2 (z := 32) (v := 32) C rfl (by decide +kernel) dX8_bondOf_35 ?_
      obtain ⟨hd_9, hw⟩ := hw
      refine fr_ldiv C dX8_bondOf_38 ⟨hd_9.1, ⟨by decide, by decide⟩, hd_9.2, by decide⟩ ?_
      refine fr_lc (z := 1) C dX8_bondOf_39 rfl ?_
      refine fr_ladd C dX8_bondOf_40 ?_
      exact fr_lret C G hr hlk hw dX8_bondOf_41
  · have hw := if_n hw q_1
    refine lv_iload_n C.1 C.2.1 dX8_bondOf_4 rfl (lv_at hl 2 rfl) ?_
    refine fr_ic C dX8_bondOf_5 ?_
    obtain ⟨hc_53, hw⟩ := hw
    refine fr_ne (tgt := 42) C dX8_bondOf_6 (by decide) ⟨hc_53, ⟨by decide, by decide⟩⟩ (fun q_18 => ?_) (fun q_18 => ?_)
    · have hw := if_p hw q_18
      refine lv_aload_n C.1 C.2.1 dX8_bondOf_9 rfl (lv_at hl 0 rfl) ?_
      refine fr_get C G 60 (hL _ (by omega)) (cl_60 _) rfl iw_X8_bondOf_X8 14 (by decide) fl_X8_bondOf_48 rfl dX8_bondOf_10 ?_
      refine lv_iload_n C.1 C.2.1 dX8_bondOf_13 rfl (lv_at hl 2 rfl) ?_
      obtain ⟨hc_52, hw⟩ := hw
      refine fr_ne0 (tgt := 21) C dX8_bondOf_14 (by decide) hc_52 (fun q_37 => ?_) (fun q_37 => ?_)
      · have hw := if_p hw q_37
        refine fr_ic C dX8_bondOf_17 ?_
        refine lv_goto (tgt := 22) C.1 C.2.1 dX8_bondOf_18 (by decide) ?_
        refine fr_iald C G 71 4 (hL _ (by omega)) rfl ⟨by decide, by decide⟩ ⟨by decide, by decide⟩ dX8_bondOf_22 ?_
        refine fr_nm (fun v3_46 ev3_46 => ?_)
        have hw := hw v3_46 ev3_46
        refine lv_istore_n (lv' := [(3, .int (iI v3_46)), (0, .ref (ad 60)), (1, .int (iI a1)), (2, .int (iI a2))]) C.1 C.2.1 dX8_bondOf_23 rfl hl (by decide) rfl (fun ls hl => ?_)
        refine lv_iload_n C.1 C.2.1 dX8_bondOf_24 rfl (lv_at hl 2 rfl) ?_
        obtain ⟨hr_47, hw⟩ := hw
        refine fr_i2l C dX8_bondOf_25 hr_47 ?_
        refine lv_iload_n C.1 C.2.1 dX8_bondOf_26 rfl (lv_at hl 0 rfl) ?_
        obtain ⟨hr_48, hw⟩ := hw
        refine fr_i2l C dX8_bondOf_27 hr_48 ?_
        refine fr_lmul C dX8_bondOf_28 ?_
        refine lv_iload_n C.1 C.2.1 dX8_bondOf_29 rfl (lv_at hl 0 rfl) ?_
        obtain ⟨hr_49, hw⟩ := hw
        refine fr_i2l C dX8_bondOf_30 hr_49 ?_
        refine fr_lmul C dX8_bondOf_31 ?_
        refine lv_iload_n C.1 C.2.1 dX8_bondOf_32 rfl (lv_at hl 0 rfl) ?_
        obtain ⟨hr_50, hw⟩ := hw
        refine fr_i2l C dX8_bondOf_33 hr_50 ?_
        refine fr_lmul C dX8_bondOf_34 ?_
        refine fr_ldc2 (z := 32) (v := 32) C rfl (by decide +kernel) dX8_bondOf_35 ?_
        obtain ⟨hd_51, hw⟩ := hw
        refine fr_ldiv C dX8_bondOf_38 ⟨hd_51.1, ⟨by decide, by decide⟩, hd_51.2, by decide⟩ ?_
        refine fr_lc (z := 1) C dX8_bondOf_39 rfl ?_
        refine fr_ladd C dX8_bondOf_40 ?_
        exact fr_lret C G hr hlk hw dX8_bondOf_41
      · have hw := if_n hw q_37
        refine fr_ic C dX8_bondOf_21 ?_
        refine fr_iald C G 71 4 (hL _ (by omega)) rfl ⟨by decide, by decide⟩ ⟨by decide, by decide⟩ dX8_bondOf_22 ?_
        refine fr_nm (fun v3_39 ev3_39 => ?_)
        have hw := hw v3_39 ev3_39
        refine lv_istore_n (lv' := [(3, .int (iI v3_39)), (0, .ref (ad 60)), (1, .int (iI a1)), (2, .int (iI a2))]) C.1 C.2.1 dX8_bondOf_23 rfl hl (by decide) rfl (fun ls hl => ?_)
        refine lv_iload_n C.1 C.2.1 dX8_bondOf_24 rfl (lv_at hl 2 rfl) ?_
        obtain ⟨hr_40, hw⟩ := hw
        refine fr_i2l C dX8_bondOf_25 hr_40 ?_
        refine lv_iload_n C.1 C.2.1 dX8_bondOf_26 rfl (lv_at hl 0 rfl) ?_
        obtain ⟨hr_41, hw⟩ := hw
        refine fr_i2l C dX8_bondOf_27 hr_41 ?_
        refine fr_lmul C dX8_bondOf_28 ?_
        refine lv_iload_n C.1 C.2.1 dX8_bondOf_29 rfl (lv_at hl 0 rfl) ?_
        obtain ⟨hr_42, hw⟩ := hw
        refine fr_i2l C dX8_bondOf_30 hr_42 ?_
        refine fr_lmul C dX8_bondOf_31 ?_
        refine lv_iload_n C.1 C.2.1 dX8_bondOf_32 rfl (lv_at hl 0 rfl) ?_
        obtain ⟨hr_43, hw⟩ := hw
        refine fr_i2l C dX8_bondOf_33 hr_43 ?_
        refine fr_lmul C dX8_bondOf_34 ?_
        refine fr_ldc2 (z := 32) (v := 32) C rfl (by decide +kernel) dX8_bondOf_35 ?_
        obtain ⟨hd_44, hw⟩ := hw
        refine fr_ldiv C dX8_bondOf_38 ⟨hd_44.1, ⟨by decide, by decide⟩, hd_44.2, by decide⟩ ?_
        refine fr_lc (z := 1) C dX8_bondOf_39 rfl ?_
        refine fr_ladd C dX8_bondOf_40 ?_
        exact fr_lret C G hr hlk hw dX8_bondOf_41
    · have hw := if_n hw q_18
      refine lv_aload_n C.1 C.2.1 dX8_bondOf_42 rfl (lv_at hl 0 rfl) ?_
      refine fr_get C G 60 (hL _ (by omega)) (cl_60 _) rfl iw_X8_bondOf_X8 14 (by decide) fl_X8_bondOf_48 rfl dX8_bondOf_43 ?_
      refine lv_iload_n C.1 C.2.1 dX8_bondOf_46 rfl (lv_at hl 2 rfl) ?_
      obtain ⟨hb_19, hw⟩ := hw
      refine fr_iald C G 71 4 (hL _ (by omega)) rfl ⟨by decide, by decide⟩ hb_19 dX8_bondOf_47 ?_
      refine lv_aload_n C.1 C.2.1 dX8_bondOf_48 rfl (lv_at hl 0 rfl) ?_
      refine fr_get C G 60 (hL _ (by omega)) (cl_60 _) rfl iw_X8_bondOf_X8 14 (by decide) fl_X8_bondOf_48 rfl dX8_bondOf_49 ?_
      refine lv_iload_n C.1 C.2.1 dX8_bondOf_52 rfl (lv_at hl 2 rfl) ?_
      refine fr_ic C dX8_bondOf_53 ?_
      refine fr_isub C dX8_bondOf_54 ?_
      obtain ⟨hb_20, hw⟩ := hw
      refine fr_iald C G 71 4 (hL _ (by omega)) rfl ⟨by decide, by decide⟩ hb_20 dX8_bondOf_55 ?_
      obtain ⟨hc_36, hw⟩ := hw
      refine fr_ge (tgt := 68) C dX8_bondOf_56 (by decide) hc_36 (fun q_21 => ?_) (fun q_21 => ?_)
      · have hw := if_p hw q_21
        refine lv_aload_n C.1 C.2.1 dX8_bondOf_68 rfl (lv_at hl 0 rfl) ?_
        refine fr_get C G 60 (hL _ (by omega)) (cl_60 _) rfl iw_X8_bondOf_X8 14 (by decide) fl_X8_bondOf_48 rfl dX8_bondOf_69 ?_
        refine lv_iload_n C.1 C.2.1 dX8_bondOf_72 rfl (lv_at hl 2 rfl) ?_
        refine fr_ic C dX8_bondOf_73 ?_
        refine fr_isub C dX8_bondOf_74 ?_
        obtain ⟨hb_22, hw⟩ := hw
        refine fr_iald C G 71 4 (hL _ (by omega)) rfl ⟨by decide, by decide⟩ hb_22 dX8_bondOf_75 ?_
        refine fr_nm (fun v3_23 ev3_23 => ?_)
        have hw := hw v3_23 ev3_23
        refine lv_istore_n (lv' := [(3, .int (iI v3_23)), (0, .ref (ad 60)), (1, .int (iI a1)), (2, .int (iI a2))]) C.1 C.2.1 dX8_bondOf_76 rfl hl (by decide) rfl (fun ls hl => ?_)
        refine lv_iload_n C.1 C.2.1 dX8_bondOf_77 rfl (lv_at hl 2 rfl) ?_
        obtain ⟨hr_24, hw⟩ := hw
        refine fr_i2l C dX8_bondOf_78 hr_24 ?_
        refine lv_iload_n C.1 C.2.1 dX8_bondOf_79 rfl (lv_at hl 0 rfl) ?_
        obtain ⟨hr_25, hw⟩ := hw
        refine fr_i2l C dX8_bondOf_80 hr_25 ?_
        refine fr_lmul C dX8_bondOf_81 ?_
        refine lv_iload_n C.1 C.2.1 dX8_bondOf_82 rfl (lv_at hl 0 rfl) ?_
        obtain ⟨hr_26, hw⟩ := hw
        refine fr_i2l C dX8_bondOf_83 hr_26 ?_
        refine fr_lmul C dX8_bondOf_84 ?_
        refine lv_iload_n C.1 C.2.1 dX8_bondOf_85 rfl (lv_at hl 0 rfl) ?_
        obtain ⟨hr_27, hw⟩ := hw
        refine fr_i2l C dX8_bondOf_86 hr_27 ?_
        refine fr_lmul C dX8_bondOf_87 ?_
        refine fr_ldc2 (z := 8) (v := 8) C rfl (by decide +kernel) dX8_bondOf_88 ?_
        obtain ⟨hd_28, hw⟩ := hw
        refine fr_ldiv C dX8_bondOf_91 ⟨hd_28.1, ⟨by decide, by decide⟩, hd_28.2, by decide⟩ ?_
        refine fr_lc (z := 1) C dX8_bondOf_92 rfl ?_
        refine fr_ladd C dX8_bondOf_93 ?_
        exact fr_lret C G hr hlk hw dX8_bondOf_94
      · have hw := if_n hw q_21
        refine lv_aload_n C.1 C.2.1 dX8_bondOf_59 rfl (lv_at hl 0 rfl) ?_
        refine fr_get C G 60 (hL _ (by omega)) (cl_60 _) rfl iw_X8_bondOf_X8 14 (by decide) fl_X8_bondOf_48 rfl dX8_bondOf_60 ?_
        refine lv_iload_n C.1 C.2.1 dX8_bondOf_63 rfl (lv_at hl 2 rfl) ?_
        obtain ⟨hb_29, hw⟩ := hw
        refine fr_iald C G 71 4 (hL _ (by omega)) rfl ⟨by decide, by decide⟩ hb_29 dX8_bondOf_64 ?_
        refine lv_goto (tgt := 76) C.1 C.2.1 dX8_bondOf_65 (by decide) ?_
        refine fr_nm (fun v3_30 ev3_30 => ?_)
        have hw := hw v3_30 ev3_30
        refine lv_istore_n (lv' := [(3, .int (iI v3_30)), (0, .ref (ad 60)), (1, .int (iI a1)), (2, .int (iI a2))]) C.1 C.2.1 dX8_bondOf_76 rfl hl (by decide) rfl (fun ls hl => ?_)
        refine lv_iload_n C.1 C.2.1 dX8_bondOf_77 rfl (lv_at hl 2 rfl) ?_
        obtain ⟨hr_31, hw⟩ := hw
        refine fr_i2l C dX8_bondOf_78 hr_31 ?_
        refine lv_iload_n C.1 C.2.1 dX8_bondOf_79 rfl (lv_at hl 0 rfl) ?_
        obtain ⟨hr_32, hw⟩ := hw
        refine fr_i2l C dX8_bondOf_80 hr_32 ?_
        refine fr_lmul C dX8_bondOf_81 ?_
        refine lv_iload_n C.1 C.2.1 dX8_bondOf_82 rfl (lv_at hl 0 rfl) ?_
        obtain ⟨hr_33, hw⟩ := hw
        refine fr_i2l C dX8_bondOf_83 hr_33 ?_
        refine fr_lmul C dX8_bondOf_84 ?_
        refine lv_iload_n C.1 C.2.1 dX8_bondOf_85 rfl (lv_at hl 0 rfl) ?_
        obtain ⟨hr_34, hw⟩ := hw
        refine fr_i2l C dX8_bondOf_86 hr_34 ?_
        refine fr_lmul C dX8_bondOf_87 ?_
        refine fr_ldc2 (z := 8) (v := 8) C rfl (by decide +kernel) dX8_bondOf_88 ?_
        obtain ⟨hd_35, hw⟩ := hw
        refine fr_ldiv C dX8_bondOf_91 ⟨hd_35.1, ⟨by decide, by decide⟩, hd_35.2, by decide⟩ ?_
        refine fr_lc (z := 1) C dX8_bondOf_92 rfl ?_
        refine fr_ladd C dX8_bondOf_93 ?_
        exact fr_lret C G hr hlk hw dX8_bondOf_94
