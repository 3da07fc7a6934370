def wX_X2_dropInnerWoods_49 (post : Mm → Prop) (v2_4 : Int) (v3_5 : Int) (x_6 : Mm) : Prop :=
  post x_6
def wB_X2_dropInnerWoods_49 (kx_49 bk_49 : Int → Int → Mm → Prop) (v2_4 : Int) (v3_5 : Int) (x_6 : Mm) : Prop :=
  rg v3_5 ∧ (if v3_5 < 1 then (kx_49 v2_4 v3_5 x_6) else ((0 ≤ v3_5 ∧ v3_5 < 10) ∧ (rg (x_6 7 (v3_5).toNat) ∧ rg v2_4) ∧ (if (x_6 7 (v3_5).toNat) < v2_4 then ((0 ≤ v3_5 ∧ v3_5 < 10) ∧ rg (x_6 7 (v3_5).toNat) ∧ (if (x_6 7 (v3_5).toNat) ≤ 0 then (∀ v3_12 : Int, v3_12 = v3_5 + (-1) → bk_49 v2_4 v3_12 x_6) else ((0 ≤ v3_5 ∧ v3_5 < 10) ∧ ∀ v2_14 : Int, v2_14 = x_6 7 (v3_5).toNat → ∀ v3_15 : Int, v3_15 = v3_5 + (-1) → bk_49 v2_14 v3_15 x_6))) else ((0 ≤ v3_5 ∧ v3_5 < 10) ∧ (∀ x_18 : Mm, x_18 = up2 x_6 7 (v3_5).toNat 0 → ∀ v3_19 : Int, v3_19 = v3_5 + (-1) → bk_49 v2_4 v3_19 x_18)))))
def wX_X2_dropInnerWoods_4 (post : Mm → Prop) (v1_1 : Int) (v2_2 : Int) (x_3 : Mm) : Prop :=
  ∃ n : Nat, lk3 (wB_X2_dropInnerWoods_49 (wX_X2_dropInnerWoods_49 post)) n 10 9 x_3
def wB_X2_dropInnerWoods_4 (kx_4 bk_4 : Int → Int → Mm → Prop) (v1_1 : Int) (v2_2 : Int) (x_3 : Mm) : Prop :=
  rg v2_2 ∧ (if 9 < v2_2 then (kx_4 v1_1 v2_2 x_3) else ((0 ≤ v2_2 ∧ v2_2 < 10) ∧ (rg (x_3 6 (v2_2).toNat) ∧ rg v1_1) ∧ (if v1_1 < (x_3 6 (v2_2).toNat) then ((0 ≤ v2_2 ∧ v2_2 < 10) ∧ ∀ v1_26 : Int, v1_26 = x_3 6 (v2_2).toNat → ∀ v2_27 : Int, v2_27 = v2_2 + 1 → bk_4 v1_26 v2_27 x_3) else ((0 ≤ v2_2 ∧ v2_2 < 10) ∧ (∀ x_29 : Mm, x_29 = up2 x_3 6 (v2_2).toNat 0 → ∀ v2_30 : Int, v2_30 = v2_2 + 1 → bk_4 v1_1 v2_30 x_29)))))
def w_X2_dropInnerWoods (x : Mm) (post : Mm → Prop) : Prop :=
  ∃ n : Nat, lk3 (wB_X2_dropInnerWoods_4 (wX_X2_dropInnerWoods_4 post)) n 0 1 x
abbrev rm_X2_dropInnerWoods : Room := { frames := 0, cells := 0, slots := 0, locals := 0 }
theorem iw_X2_dropInnerWoods_X2 : ∀ w ∈ u_ws RX2 TX2 7, w ∈ wsX2_dropInnerWoods := by decide +kernel
theorem fl_X2_dropInnerWoods_34 : Cond.fieldLink RX2 34 (TX2 6).1 (TX2 6).2.1 (TX2 6).2.2.1 ∈ wsX2_dropInnerWoods := by decide +kernel
theorem fl_X2_dropInnerWoods_31 : Cond.fieldLink RX2 31 (TX2 5).1 (TX2 5).2.1 (TX2 5).2.2.1 ∈ wsX2_dropInnerWoods := by decide +kernel
set_option maxHeartbeats 4000000 in
set_option maxRecDepth 100000 in
theorem c_X2_dropInnerWoods (l : Launch) (D : va_G) (cy : Nat → ClassId) (L : List Nat) (ad : Nat → Nat) (sz : Nat) (hL : fLH L) (x : Mm) (post : Mm → Prop) (hw : w_X2_dropInnerWoods x post) : fMv l yX2_dropInnerWoods wsX2_dropInnerWoods rm_X2_dropInnerWoods [.ref (ad 2)] D cy L ad sz x post := by
  refine Met.ofW (cc := cX2_dropInnerWoods) (maxL := 4) (ret := none) (by decide) rfl ?_
  intro p e s m args below meth c s₁ B hml hv
  obtain ⟨hargs, hp⟩ := hv
  obtain ⟨C, hr, hlk, hsz, G⟩ := fr_start B hml hp
  subst hsz
  obtain ⟨ls, els, hl⟩ := fr_entry (m := m) (n := 4) hargs (Nat.le_of_ble_eq_true rfl)
  rw [els]
  have hl : lv_has ls 4 [(0, .ref (ad 2))] := hl
  clear els hargs hp B
  refine fr_ic C dX2_dropInnerWoods_0 ?_
  refine lv_istore_n (lv' := [(1, .int (iI 0)), (0, .ref (ad 2))]) C.1 C.2.1 dX2_dropInnerWoods_1 rfl hl (by decide) rfl (fun ls hl => ?_)
  refine fr_ic C dX2_dropInnerWoods_2 ?_
  refine lv_istore_n (lv' := [(2, .int (iI 1)), (1, .int (iI 0)), (0, .ref (ad 2))]) C.1 C.2.1 dX2_dropInnerWoods_3 rfl hl (by decide) rfl (fun ls hl => ?_)
  obtain ⟨n4, hw⟩ := hw
  have hS4 : ∀ (kx_4 bk_4 : Int → Int → Mm → Prop), (∀ (v1_1 : Int) (v2_2 : Int) (x_3 : Mm) (H : Heap) (locs : List Loc) (ls : Array Slot), kx_4 v1_1 v2_2 x_3 → fG D cy L ad (fAr L ad s.heap.size) s x_3 H locs → lv_has ls 4 [(0, .ref (ad 2)), (1, .int (iI v1_1)), (2, .int (iI v2_2))] → W p l e (headSpec wsX2_dropInnerWoods rm_X2_dropInnerWoods).room s m args below meth c H locs 0 0 (fQv below D cy L ad s args post) (F0 m 43 ls [])) → (∀ (v1_1 : Int) (v2_2 : Int) (x_3 : Mm) (H : Heap) (locs : List Loc) (ls : Array Slot), bk_4 v1_1 v2_2 x_3 → fG D cy L ad (fAr L ad s.heap.size) s x_3 H locs → lv_has ls 4 [(0, .ref (ad 2)), (1, .int (iI v1_1)), (2, .int (iI v2_2))] → W p l e (headSpec wsX2_dropInnerWoods rm_X2_dropInnerWoods).room s m args below meth c H locs 0 0 (fQv below D cy L ad s args post) (F0 m 4 ls [])) → ∀ (v1_1 : Int) (v2_2 : Int) (x_3 : Mm) (H : Heap) (locs : List Loc) (ls : Array Slot), wB_X2_dropInnerWoods_4 kx_4 bk_4 v1_1 v2_2 x_3 → fG D cy L ad (fAr L ad s.heap.size) s x_3 H locs → lv_has ls 4 [(0, .ref (ad 2)), (1, .int (iI v1_1)), (2, .int (iI v2_2))] → W p l e (headSpec wsX2_dropInnerWoods rm_X2_dropInnerWoods).room s m args below meth c H locs 0 0 (fQv below D cy L ad s args post) (F0 m 4 ls []) := by
    intro kx_4 bk_4 hX4 ih4 v1_1 v2_2 x_3 H locs ls hw G hl
    refine lv_iload_n C.1 C.2.1 dX2_dropInnerWoods_4 rfl (lv_at hl 2 rfl) ?_
    refine fr_bi C dX2_dropInnerWoods_5 rfl ?_
    obtain ⟨hc_32, hw⟩ := hw
    refine fr_gt (tgt := 43) C dX2_dropInnerWoods_7 (by decide) ⟨hc_32, ⟨by decide, by decide⟩⟩ (fun q_22 => ?_) (fun q_22 => ?_)
    · have hw := if_p hw q_22
      exact hX4 v1_1 v2_2 x_3 _ _ _ hw G (lv_sub hl [0, 1, 2] rfl)
    · have hw := if_n hw q_22
      refine lv_aload_n C.1 C.2.1 dX2_dropInnerWoods_10 rfl (lv_at hl 0 rfl) ?_
      refine fr_get C G 2 (hL _ (by omega)) (cl_2 _) rfl iw_X2_dropInnerWoods_X2 5 (by decide) fl_X2_dropInnerWoods_31 rfl dX2_dropInnerWoods_11 ?_
      refine lv_iload_n C.1 C.2.1 dX2_dropInnerWoods_14 rfl (lv_at hl 2 rfl) ?_
      obtain ⟨hb_23, hw⟩ := hw
      refine fr_iald C G 6 10 (hL _ (by omega)) rfl ⟨by decide, by decide⟩ hb_23 dX2_dropInnerWoods_15 ?_
      refine lv_iload_n C.1 C.2.1 dX2_dropInnerWoods_16 rfl (lv_at hl 1 rfl) ?_
      obtain ⟨hc_31, hw⟩ := hw
      refine fr_gt (tgt := 30) C dX2_dropInnerWoods_17 (by decide) hc_31 (fun q_24 => ?_) (fun q_24 => ?_)
      · have hw := if_p hw q_24
        refine lv_aload_n C.1 C.2.1 dX2_dropInnerWoods_30 rfl (lv_at hl 0 rfl) ?_
        refine fr_get C G 2 (hL _ (by omega)) (cl_2 _) rfl iw_X2_dropInnerWoods_X2 5 (by decide) fl_X2_dropInnerWoods_31 rfl dX2_dropInnerWoods_31 ?_
        refine lv_iload_n C.1 C.2.1 dX2_dropInnerWoods_34 rfl (lv_at hl 2 rfl) ?_
        obtain ⟨hb_25, hw⟩ := hw
        refine fr_iald C G 6 10 (hL _ (by omega)) rfl ⟨by decide, by decide⟩ hb_25 dX2_dropInnerWoods_35 ?_
        refine fr_nm (fun v1_26 ev1_26 => ?_)
        have hw := hw v1_26 ev1_26
        refine lv_istore_n (lv' := [(1, .int (iI v1_26)), (0, .ref (ad 2)), (2, .int (iI v2_2))]) C.1 C.2.1 dX2_dropInnerWoods_36 rfl hl (by decide) rfl (fun ls hl => ?_)
        obtain ⟨v2_27, ev2_27⟩ : ∃ z : Int, z = v2_2 + 1 := ⟨_, rfl⟩
        have hw := hw v2_27 ev2_27
        refine lv_iinc (v := iI v2_27) (lv' := [(2, .int (iI v2_27)), (1, .int (iI v1_26)), (0, .ref (ad 2))]) C.1 C.2.1 dX2_dropInnerWoods_37 hl (k := 2) rfl (by rw [ev2_27]; exact iI_add _ _) (by decide) rfl (fun ls hl => ?_)
        refine lv_goto (tgt := 4) C.1 C.2.1 dX2_dropInnerWoods_40 (by decide) ?_
        exact ih4 v1_26 v2_27 x_3 _ _ _ hw G (lv_sub hl [2, 1, 0] rfl)
      · have hw := if_n hw q_24
        refine lv_aload_n C.1 C.2.1 dX2_dropInnerWoods_20 rfl (lv_at hl 0 rfl) ?_
        refine fr_get C G 2 (hL _ (by omega)) (cl_2 _) rfl iw_X2_dropInnerWoods_X2 5 (by decide) fl_X2_dropInnerWoods_31 rfl dX2_dropInnerWoods_21 ?_
        refine lv_iload_n C.1 C.2.1 dX2_dropInnerWoods_24 rfl (lv_at hl 2 rfl) ?_
        refine fr_ic C dX2_dropInnerWoods_25 ?_
        obtain ⟨hb_28, hw⟩ := hw
        refine fr_iast C G 6 10 (hL _ (by omega)) rfl ⟨by decide, by decide⟩ hb_28 dX2_dropInnerWoods_26 (fun x_29 H locs ex_29 G => ?_)
        have hw := hw x_29 ex_29
        refine lv_goto (tgt := 37) C.1 C.2.1 dX2_dropInnerWoods_27 (by decide) ?_
        obtain ⟨v2_30, ev2_30⟩ : ∃ z : Int, z = v2_2 + 1 := ⟨_, rfl⟩
        have hw := hw v2_30 ev2_30
        refine lv_iinc (v := iI v2_30) (lv' := [(2, .int (iI v2_30)), (0, .ref (ad 2)), (1, .int (iI v1_1))]) C.1 C.2.1 dX2_dropInnerWoods_37 hl (k := 2) rfl (by rw [ev2_30]; exact iI_add _ _) (by decide) rfl (fun ls hl => ?_)
        refine lv_goto (tgt := 4) C.1 C.2.1 dX2_dropInnerWoods_40 (by decide) ?_
        exact ih4 v1_1 v2_30 x_29 _ _ _ hw G (lv_sub hl [1, 2, 0] rfl)
  have hX4 : ∀ (v1_1 : Int) (v2_2 : Int) (x_3 : Mm) (H : Heap) (locs : List Loc) (ls : Array Slot), wX_X2_dropInnerWoods_4 post v1_1 v2_2 x_3 → fG D cy L ad (fAr L ad s.heap.size) s x_3 H locs → lv_has ls 4 [(0, .ref (ad 2)), (1, .int (iI v1_1)), (2, .int (iI v2_2))] → W p l e (headSpec wsX2_dropInnerWoods rm_X2_dropInnerWoods).room s m args below meth c H locs 0 0 (fQv below D cy L ad s args post) (F0 m 43 ls []) := by
    intro v1_1 v2_2 x_3 H locs ls hw G hl
    refine fr_bi C dX2_dropInnerWoods_43 rfl ?_
    refine lv_istore_n (lv' := [(2, .int (iI 10)), (0, .ref (ad 2)), (1, .int (iI v1_1))]) C.1 C.2.1 dX2_dropInnerWoods_45 rfl hl (by decide) rfl (fun ls hl => ?_)
    refine fr_bi C dX2_dropInnerWoods_46 rfl ?_
    refine lv_istore_n (lv' := [(3, .int (iI 9)), (2, .int (iI 10)), (0, .ref (ad 2)), (1, .int (iI v1_1))]) C.1 C.2.1 dX2_dropInnerWoods_48 rfl hl (by decide) rfl (fun ls hl => ?_)
    obtain ⟨n49, hw⟩ := hw
    have hS49 : ∀ (kx_49 bk_49 : Int → Int → Mm → Prop), (∀ (v2_4 : Int) (v3_5 : Int) (x_6 : Mm) (H : Heap) (locs : List Loc) (ls : Array Slot), kx_49 v2_4 v3_5 x_6 → fG D cy L ad (fAr L ad s.heap.size) s x_6 H locs → lv_has ls 4 [(0, .ref (ad 2)), (1, .int (iI v1_1)), (2, .int (iI v2_4)), (3, .int (iI v3_5))] → W p l e (headSpec wsX2_dropInnerWoods rm_X2_dropInnerWoods).room s m args below meth c H locs 0 0 (fQv below D cy L ad s args post) (F0 m 96 ls [])) → (∀ (v2_4 : Int) (v3_5 : Int) (x_6 : Mm) (H : Heap) (locs : List Loc) (ls : Array Slot), bk_49 v2_4 v3_5 x_6 → fG D cy L ad (fAr L ad s.heap.size) s x_6 H locs → lv_has ls 4 [(0, .ref (ad 2)), (1, .int (iI v1_1)), (2, .int (iI v2_4)), (3, .int (iI v3_5))] → W p l e (headSpec wsX2_dropInnerWoods rm_X2_dropInnerWoods).room s m args below meth c H locs 0 0 (fQv below D cy L ad s args post) (F0 m 49 ls [])) → ∀ (v2_4 : Int) (v3_5 : Int) (x_6 : Mm) (H : Heap) (locs : List Loc) (ls : Array Slot), wB_X2_dropInnerWoods_49 kx_49 bk_49 v2_4 v3_5 x_6 → fG D cy L ad (fAr L ad s.heap.size) s x_6 H locs → lv_has ls 4 [(0, .ref (ad 2)), (1, .int (iI v1_1)), (2, .int (iI v2_4)), (3, .int (iI v3_5))] → W p l e (headSpec wsX2_dropInnerWoods rm_X2_dropInnerWoods).room s m args below meth c H locs 0 0 (fQv below D cy L ad s args post) (F0 m 49 ls []) := by
      intro kx_49 bk_49 hX49 ih49 v2_4 v3_5 x_6 H locs ls hw G hl
      refine lv_iload_n C.1 C.2.1 dX2_dropInnerWoods_49 rfl (lv_at hl 3 rfl) ?_
      refine fr_ic C dX2_dropInnerWoods_50 ?_
      obtain ⟨hc_21, hw⟩ := hw
      refine fr_lt (tgt := 96) C dX2_dropInnerWoods_51 (by decide) ⟨hc_21, ⟨by decide, by decide⟩⟩ (fun q_7 => ?_) (fun q_7 => ?_)
      · have hw := if_p hw q_7
        exact hX49 v2_4 v3_5 x_6 _ _ _ hw G (lv_sub hl [0, 1, 2, 3] rfl)
      · have hw := if_n hw q_7
        refine lv_aload_n C.1 C.2.1 dX2_dropInnerWoods_54 rfl (lv_at hl 0 rfl) ?_
        refine fr_get C G 2 (hL _ (by omega)) (cl_2 _) rfl iw_X2_dropInnerWoods_X2 6 (by decide) fl_X2_dropInnerWoods_34 rfl dX2_dropInnerWoods_55 ?_
        refine lv_iload_n C.1 C.2.1 dX2_dropInnerWoods_58 rfl (lv_at hl 3 rfl) ?_
        obtain ⟨hb_8, hw⟩ := hw
        refine fr_iald C G 7 10 (hL _ (by omega)) rfl ⟨by decide, by decide⟩ hb_8 dX2_dropInnerWoods_59 ?_
        refine lv_iload_n C.1 C.2.1 dX2_dropInnerWoods_60 rfl (lv_at hl 2 rfl) ?_
        obtain ⟨hc_20, hw⟩ := hw
        refine fr_lt (tgt := 74) C dX2_dropInnerWoods_61 (by decide) hc_20 (fun q_9 => ?_) (fun q_9 => ?_)
        · have hw := if_p hw q_9
          refine lv_aload_n C.1 C.2.1 dX2_dropInnerWoods_74 rfl (lv_at hl 0 rfl) ?_
          refine fr_get C G 2 (hL _ (by omega)) (cl_2 _) rfl iw_X2_dropInnerWoods_X2 6 (by decide) fl_X2_dropInnerWoods_34 rfl dX2_dropInnerWoods_75 ?_
          refine lv_iload_n C.1 C.2.1 dX2_dropInnerWoods_78 rfl (lv_at hl 3 rfl) ?_
          obtain ⟨hb_10, hw⟩ := hw
          refine fr_iald C G 7 10 (hL _ (by omega)) rfl ⟨by decide, by decide⟩ hb_10 dX2_dropInnerWoods_79 ?_
          obtain ⟨hc_16, hw⟩ := hw
          refine fr_le0 (tgt := 90) C dX2_dropInnerWoods_80 (by decide) hc_16 (fun q_11 => ?_) (fun q_11 => ?_)
          · have hw := if_p hw q_11
            obtain ⟨v3_12, ev3_12⟩ : ∃ z : Int, z = v3_5 + (-1) := ⟨_, rfl⟩
            have hw := hw v3_12 ev3_12
            refine lv_iinc (v := iI v3_12) (lv' := [(3, .int (iI v3_12)), (0, .ref (ad 2)), (1, .int (iI v1_1)), (2, .int (iI v2_4))]) C.1 C.2.1 dX2_dropInnerWoods_90 hl (k := 3) rfl (by rw [ev3_12]; exact iI_add _ _) (by decide) rfl (fun ls hl => ?_)
            refine lv_goto (tgt := 49) C.1 C.2.1 dX2_dropInnerWoods_93 (by decide) ?_
            exact ih49 v2_4 v3_12 x_6 _ _ _ hw G (lv_sub hl [1, 2, 3, 0] rfl)
          · have hw := if_n hw q_11
            refine lv_aload_n C.1 C.2.1 dX2_dropInnerWoods_83 rfl (lv_at hl 0 rfl) ?_
            refine fr_get C G 2 (hL _ (by omega)) (cl_2 _) rfl iw_X2_dropInnerWoods_X2 6 (by decide) fl_X2_dropInnerWoods_34 rfl dX2_dropInnerWoods_84 ?_
            refine lv_iload_n C.1 C.2.1 dX2_dropInnerWoods_87 rfl (lv_at hl 3 rfl) ?_
            obtain ⟨hb_13, hw⟩ := hw
            refine fr_iald C G 7 10 (hL _ (by omega)) rfl ⟨by decide, by decide⟩ hb_13 dX2_dropInnerWoods_88 ?_
            refine fr_nm (fun v2_14 ev2_14 => ?_)
            have hw := hw v2_14 ev2_14
            refine lv_istore_n (lv' := [(2, .int (iI v2_14)), (0, .ref (ad 2)), (1, .int (iI v1_1)), (3, .int (iI v3_5))]) C.1 C.2.1 dX2_dropInnerWoods_89 rfl hl (by decide) rfl (fun ls hl => ?_)
            obtain ⟨v3_15, ev3_15⟩ : ∃ z : Int, z = v3_5 + (-1) := ⟨_, rfl⟩
            have hw := hw v3_15 ev3_15
            refine lv_iinc (v := iI v3_15) (lv' := [(3, .int (iI v3_15)), (2, .int (iI v2_14)), (0, .ref (ad 2)), (1, .int (iI v1_1))]) C.1 C.2.1 dX2_dropInnerWoods_90 hl (k := 3) rfl (by rw [ev3_15]; exact iI_add _ _) (by decide) rfl (fun ls hl => ?_)
            refine lv_goto (tgt := 49) C.1 C.2.1 dX2_dropInnerWoods_93 (by decide) ?_
            exact ih49 v2_14 v3_15 x_6 _ _ _ hw G (lv_sub hl [2, 3, 1, 0] rfl)
        · have hw := if_n hw q_9
          refine lv_aload_n C.1 C.2.1 dX2_dropInnerWoods_64 rfl (lv_at hl 0 rfl) ?_
          refine fr_get C G 2 (hL _ (by omega)) (cl_2 _) rfl iw_X2_dropInnerWoods_X2 6 (by decide) fl_X2_dropInnerWoods_34 rfl dX2_dropInnerWoods_65 ?_
          refine lv_iload_n C.1 C.2.1 dX2_dropInnerWoods_68 rfl (lv_at hl 3 rfl) ?_
          refine fr_ic C dX2_dropInnerWoods_69 ?_
          obtain ⟨hb_17, hw⟩ := hw
          refine fr_iast C G 7 10 (hL _ (by omega)) rfl ⟨by decide, by decide⟩ hb_17 dX2_dropInnerWoods_70 (fun x_18 H locs ex_18 G => ?_)
          have hw := hw x_18 ex_18
          refine lv_goto (tgt := 90) C.1 C.2.1 dX2_dropInnerWoods_71 (by decide) ?_
          obtain ⟨v3_19, ev3_19⟩ : ∃ z : Int, z = v3_5 + (-1) := ⟨_, rfl⟩
          have hw := hw v3_19 ev3_19
          refine lv_iinc (v := iI v3_19) (lv' := [(3, .int (iI v3_19)), (0, .ref (ad 2)), (1, .int (iI v1_1)), (2, .int (iI v2_4))]) C.1 C.2.1 dX2_dropInnerWoods_90 hl (k := 3) rfl (by rw [ev3_19]; exact iI_add _ _) (by decide) rfl (fun ls hl => ?_)
          refine lv_goto (tgt := 49) C.1 C.2.1 dX2_dropInnerWoods_93 (by decide) ?_
          exact ih49 v2_4 v3_19 x_18 _ _ _ hw G (lv_sub hl [1, 2, 3, 0] rfl)
    have hX49 : ∀ (v2_4 : Int) (v3_5 : Int) (x_6 : Mm) (H : Heap) (locs : List Loc) (ls : Array Slot), wX_X2_dropInnerWoods_49 post v2_4 v3_5 x_6 → fG D cy L ad (fAr L ad s.heap.size) s x_6 H locs → lv_has ls 4 [(0, .ref (ad 2)), (1, .int (iI v1_1)), (2, .int (iI v2_4)), (3, .int (iI v3_5))] → W p l e (headSpec wsX2_dropInnerWoods rm_X2_dropInnerWoods).room s m args below meth c H locs 0 0 (fQv below D cy L ad s args post) (F0 m 96 ls []) := by
      intro v2_4 v3_5 x_6 H locs ls hw G hl
      exact fr_vret C G hr hlk hw dX2_dropInnerWoods_96
    have hB49 : ∀ (n : Nat) (v2_4 : Int) (v3_5 : Int) (x_6 : Mm) (H : Heap) (locs : List Loc) (ls : Array Slot), lk3 (wB_X2_dropInnerWoods_49 (wX_X2_dropInnerWoods_49 post)) n v2_4 v3_5 x_6 → fG D cy L ad (fAr L ad s.heap.size) s x_6 H locs → lv_has ls 4 [(0, .ref (ad 2)), (1, .int (iI v1_1)), (2, .int (iI v2_4)), (3, .int (iI v3_5))] → W p l e (headSpec wsX2_dropInnerWoods rm_X2_dropInnerWoods).room s m args below meth c H locs 0 0 (fQv below D cy L ad s args post) (F0 m 49 ls []) := by
      intro n
      induction n with
      | zero =>
        intro v2_4 v3_5 x_6 H locs ls hw
        exact hw.elim
      | succ n ih =>
        intro v2_4 v3_5 x_6 H locs ls hw G hl
        exact hS49 _ _ hX49 ih v2_4 v3_5 x_6 H locs ls hw G hl
    exact hB49 n49 10 9 x_3 _ _ _ hw G (lv_sub hl [2, 3, 1, 0] rfl)
  have hB4 : ∀ (n : Nat) (v1_1 : Int) (v2_2 : Int) (x_3 : Mm) (H : Heap) (locs : List Loc) (ls : Array Slot), lk3 (wB_X2_dropInnerWoods_4 (wX_X2_dropInnerWoods_4 post)) n v1_1 v2_2 x_3 → fG D cy L ad (fAr L ad s.heap.size) s x_3 H locs → lv_has ls 4 [(0, .ref (ad 2)), (1, .int (iI v1_1)), (2, .int (iI v2_2))] → W p l e (headSpec wsX2_dropInnerWoods rm_X2_dropInnerWoods).room s m args below meth c H locs 0 0 (fQv below D cy L ad s args post) (F0 m 4 ls []) := by
    intro n
    induction n with
    | zero =>
      intro v1_1 v2_2 x_3 H locs ls hw
      exact hw.elim
    | succ n ih =>
      intro v1_1 v2_2 x_3 H locs ls hw G hl
      exact hS4 _ _ hX4 ih v1_1 v2_2 x_3 H locs ls hw G hl
  exact hB4 n4 0 1 x _ _ _ hw G (lv_sub hl [2, 1, 0] rfl)
def wX_X2_sift_29 (v1_2 : Int) (bk_7 : Int → Mm → Prop) (v2_10 : Int) (x_11 : Mm) : Prop :=
  ∀ v1_12 : Int, v1_12 = v1_2 + 1 → bk_7 v1_12 x_11
def wB_X2_sift_29 (v1_2 : Int) (kx_29 bk_29 : Int → Mm → Prop) (v2_10 : Int) (x_11 : Mm) : Prop :=
  rg v2_10 ∧ (if 9 < v2_10 then (kx_29 v2_10 x_11) else (w_X2_fitsAllTaps v1_2 v2_10 x_11 (fun z_15 x_14 => rg z_15 ∧ (if z_15 = 0 then (∀ v2_17 : Int, v2_17 = v2_10 + 1 → bk_29 v2_17 x_14) else (w_X2_keep v1_2 v2_10 x_14 (fun x_18 => ∀ v2_19 : Int, v2_19 = v2_10 + 1 → bk_29 v2_19 x_18))))))
def wX_X2_sift_7 (post : Mm → Prop) (v1_2 : Int) (x_3 : Mm) : Prop :=
  w_X2_dropInnerWoods x_3 (fun x_4 => post x_4)
def wB_X2_sift_7 (kx_7 bk_7 : Int → Mm → Prop) (v1_2 : Int) (x_3 : Mm) : Prop :=
  rg v1_2 ∧ (if 9 < v1_2 then (kx_7 v1_2 x_3) else ((0 ≤ v1_2 ∧ v1_2 < 10) ∧ (∀ x_7 : Mm, x_7 = up2 x_3 6 (v1_2).toNat 0 → (0 ≤ v1_2 ∧ v1_2 < 10) ∧ (∀ x_9 : Mm, x_9 = up2 x_7 7 (v1_2).toNat 0 → ∃ n : Nat, lk2 (wB_X2_sift_29 v1_2 (wX_X2_sift_29 v1_2 bk_7)) n 1 x_9))))
def w_X2_sift (x : Mm) (post : Mm → Prop) : Prop :=
  ∀ x_1 : Mm, x_1 = up2 x 2 4 0 → ∃ n : Nat, lk2 (wB_X2_sift_7 (wX_X2_sift_7 post)) n 1 x_1
abbrev rm_X2_sift : Room := { frames := 3, cells := 0, slots := 0, locals := 67 }
theorem iw_X2_sift_X2 : ∀ w ∈ u_ws RX2 TX2 7, w ∈ wsX2_sift := by decide +kernel
theorem fl_X2_sift_28 : Cond.fieldLink RX2 28 (TX2 4).1 (TX2 4).2.1 (TX2 4).2.2.1 ∈ wsX2_sift := by decide +kernel
theorem fl_X2_sift_31 : Cond.fieldLink RX2 31 (TX2 5).1 (TX2 5).2.1 (TX2 5).2.2.1 ∈ wsX2_sift := by decide +kernel
theorem fl_X2_sift_34 : Cond.fieldLink RX2 34 (TX2 6).1 (TX2 6).2.1 (TX2 6).2.2.1 ∈ wsX2_sift := by decide +kernel
set_option maxHeartbeats 4000000 in
set_option maxRecDepth 100000 in
theorem c_X2_sift (l : Launch) (D : va_G) (cy : Nat → ClassId) (L : List Nat) (ad : Nat → Nat) (sz : Nat) (hL : fLH L) (x : Mm) (post : Mm → Prop) (hw : w_X2_sift x post) : fMv l yX2_sift wsX2_sift rm_X2_sift [.ref (ad 2)] D cy L ad sz x post := by
  refine Met.ofW (cc := cX2_sift) (maxL := 3) (ret := none) (by decide) rfl ?_
  intro p e s m args below meth c s₁ B hml hv
  obtain ⟨hargs, hp⟩ := hv
  obtain ⟨C, hr, hlk, hsz, G⟩ := fr_start B hml hp
  subst hsz
  obtain ⟨ls, els, hl⟩ := fr_entry (m := m) (n := 3) hargs (Nat.le_of_ble_eq_true rfl)
  rw [els]
  have hl : lv_has ls 3 [(0, .ref (ad 2))] := hl
  clear els hargs hp B
  refine lv_aload_n C.1 C.2.1 dX2_sift_0 rfl (lv_at hl 0 rfl) ?_
  refine fr_ic C dX2_sift_1 ?_
  refine fr_put C G 2 (hL _ (by omega)) (cl_2 _) rfl iw_X2_sift_X2 tyX2_ok nmX2 4 (by decide) fl_X2_sift_28 rfl (by decide +kernel) (Nat.le_of_ble_eq_true rfl) (st_2_4 _ _) dX2_sift_2 (fun x_1 H locs ex_1 G => ?_)
  have hw := hw x_1 ex_1
  refine fr_ic C dX2_sift_5 ?_
  refine lv_istore_n (lv' := [(1, .int (iI 1)), (0, .ref (ad 2))]) C.1 C.2.1 dX2_sift_6 rfl hl (by decide) rfl (fun ls hl => ?_)
  obtain ⟨n7, hw⟩ := hw
  have hS7 : ∀ (kx_7 bk_7 : Int → Mm → Prop), (∀ (v1_2 : Int) (x_3 : Mm) (H : Heap) (locs : List Loc) (ls : Array Slot), kx_7 v1_2 x_3 → fG D cy L ad (fAr L ad s.heap.size) s x_3 H locs → lv_has ls 3 [(0, .ref (ad 2)), (1, .int (iI v1_2))] → W p l e (headSpec wsX2_sift rm_X2_sift).room s m args below meth c H locs 0 0 (fQv below D cy L ad s args post) (F0 m 62 ls [])) → (∀ (v1_2 : Int) (x_3 : Mm) (H : Heap) (locs : List Loc) (ls : Array Slot), bk_7 v1_2 x_3 → fG D cy L ad (fAr L ad s.heap.size) s x_3 H locs → lv_has ls 3 [(0, .ref (ad 2)), (1, .int (iI v1_2))] → W p l e (headSpec wsX2_sift rm_X2_sift).room s m args below meth c H locs 0 0 (fQv below D cy L ad s args post) (F0 m 7 ls [])) → ∀ (v1_2 : Int) (x_3 : Mm) (H : Heap) (locs : List Loc) (ls : Array Slot), wB_X2_sift_7 kx_7 bk_7 v1_2 x_3 → fG D cy L ad (fAr L ad s.heap.size) s x_3 H locs → lv_has ls 3 [(0, .ref (ad 2)), (1, .int (iI v1_2))] → W p l e (headSpec wsX2_sift rm_X2_sift).room s m args below meth c H locs 0 0 (fQv below D cy L ad s args post) (F0 m 7 ls []) := by
    intro kx_7 bk_7 hX7 ih7 v1_2 x_3 H locs ls hw G hl
    refine lv_iload_n C.1 C.2.1 dX2_sift_7 rfl (lv_at hl 1 rfl) ?_
    refine fr_bi C dX2_sift_8 rfl ?_
    obtain ⟨hc_22, hw⟩ := hw
    refine fr_gt (tgt := 62) C dX2_sift_10 (by decide) ⟨hc_22, ⟨by decide, by decide⟩⟩ (fun q_5 => ?_) (fun q_5 => ?_)
    · have hw := if_p hw q_5
      exact hX7 v1_2 x_3 _ _ _ hw G (lv_sub hl [0, 1] rfl)
    · have hw := if_n hw q_5
      refine lv_aload_n C.1 C.2.1 dX2_sift_13 rfl (lv_at hl 0 rfl) ?_
      refine fr_get C G 2 (hL _ (by omega)) (cl_2 _) rfl iw_X2_sift_X2 5 (by decide) fl_X2_sift_31 rfl dX2_sift_14 ?_
      refine lv_iload_n C.1 C.2.1 dX2_sift_17 rfl (lv_at hl 1 rfl) ?_
      refine fr_ic C dX2_sift_18 ?_
      obtain ⟨hb_6, hw⟩ := hw
      refine fr_iast C G 6 10 (hL _ (by omega)) rfl ⟨by decide, by decide⟩ hb_6 dX2_sift_19 (fun x_7 H locs ex_7 G => ?_)
      have hw := hw x_7 ex_7
      refine lv_aload_n C.1 C.2.1 dX2_sift_20 rfl (lv_at hl 0 rfl) ?_
      refine fr_get C G 2 (hL _ (by omega)) (cl_2 _) rfl iw_X2_sift_X2 6 (by decide) fl_X2_sift_34 rfl dX2_sift_21 ?_
      refine lv_iload_n C.1 C.2.1 dX2_sift_24 rfl (lv_at hl 1 rfl) ?_
      refine fr_ic C dX2_sift_25 ?_
      obtain ⟨hb_8, hw⟩ := hw
      refine fr_iast C G 7 10 (hL _ (by omega)) rfl ⟨by decide, by decide⟩ hb_8 dX2_sift_26 (fun x_9 H locs ex_9 G => ?_)
      have hw := hw x_9 ex_9
      refine fr_ic C dX2_sift_27 ?_
      refine lv_istore_n (lv' := [(2, .int (iI 1)), (0, .ref (ad 2)), (1, .int (iI v1_2))]) C.1 C.2.1 dX2_sift_28 rfl hl (by decide) rfl (fun ls hl => ?_)
      obtain ⟨n29, hw⟩ := hw
      have hS29 : ∀ (kx_29 bk_29 : Int → Mm → Prop), (∀ (v2_10 : Int) (x_11 : Mm) (H : Heap) (locs : List Loc) (ls : Array Slot), kx_29 v2_10 x_11 → fG D cy L ad (fAr L ad s.heap.size) s x_11 H locs → lv_has ls 3 [(0, .ref (ad 2)), (1, .int (iI v1_2)), (2, .int (iI v2_10))] → W p l e (headSpec wsX2_sift rm_X2_sift).room s m args below meth c H locs 0 0 (fQv below D cy L ad s args post) (F0 m 56 ls [])) → (∀ (v2_10 : Int) (x_11 : Mm) (H : Heap) (locs : List Loc) (ls : Array Slot), bk_29 v2_10 x_11 → fG D cy L ad (fAr L ad s.heap.size) s x_11 H locs → lv_has ls 3 [(0, .ref (ad 2)), (1, .int (iI v1_2)), (2, .int (iI v2_10))] → W p l e (headSpec wsX2_sift rm_X2_sift).room s m args below meth c H locs 0 0 (fQv below D cy L ad s args post) (F0 m 29 ls [])) → ∀ (v2_10 : Int) (x_11 : Mm) (H : Heap) (locs : List Loc) (ls : Array Slot), wB_X2_sift_29 v1_2 kx_29 bk_29 v2_10 x_11 → fG D cy L ad (fAr L ad s.heap.size) s x_11 H locs → lv_has ls 3 [(0, .ref (ad 2)), (1, .int (iI v1_2)), (2, .int (iI v2_10))] → W p l e (headSpec wsX2_sift rm_X2_sift).room s m args below meth c H locs 0 0 (fQv below D cy L ad s args post) (F0 m 29 ls []) := by
        intro kx_29 bk_29 hX29 ih29 v2_10 x_11 H locs ls hw G hl
        refine lv_iload_n C.1 C.2.1 dX2_sift_29 rfl (lv_at hl 2 rfl) ?_
        refine fr_bi C dX2_sift_30 rfl ?_
        obtain ⟨hc_21, hw⟩ := hw
        refine fr_gt (tgt := 56) C dX2_sift_32 (by decide) ⟨hc_21, ⟨by decide, by decide⟩⟩ (fun q_13 => ?_) (fun q_13 => ?_)
        · have hw := if_p hw q_13
          exact hX29 v2_10 x_11 _ _ _ hw G (lv_sub hl [0, 1, 2] rfl)
        · have hw := if_n hw q_13
          refine lv_aload_n C.1 C.2.1 dX2_sift_35 rfl (lv_at hl 0 rfl) ?_
          refine lv_iload_n C.1 C.2.1 dX2_sift_36 rfl (lv_at hl 1 rfl) ?_
          refine lv_iload_n C.1 C.2.1 dX2_sift_37 rfl (lv_at hl 2 rfl) ?_
          refine fr_Vi C G (c_X2_fitsAllTaps l D cy L ad _ hL v1_2 v2_10 x_11 _ hw) (cwV 2 C.2.2.2.2 gX2_sift_X2_fitsAllTaps rfl rfl rfl (by decide +kernel) ⟨Nat.le_of_ble_eq_true rfl, Nat.le_of_ble_eq_true rfl⟩) (G.recv (hL _ (by omega)) (cl_2 _) rfl) rfl hl.1 rfl (Nat.le_of_ble_eq_true rfl) dX2_sift_38 ⟨Nat.zero_le _, Nat.zero_le _⟩ (fun z_15 x_14 H locs hw G => ?_)
          obtain ⟨hc_20, hw⟩ := hw
          refine fr_eq0 (tgt := 50) C dX2_sift_41 (by decide) hc_20 (fun q_16 => ?_) (fun q_16 => ?_)
          · have hw := if_p hw q_16
            obtain ⟨v2_17, ev2_17⟩ : ∃ z : Int, z = v2_10 + 1 := ⟨_, rfl⟩
            have hw := hw v2_17 ev2_17
            refine lv_iinc (v := iI v2_17) (lv' := [(2, .int (iI v2_17)), (0, .ref (ad 2)), (1, .int (iI v1_2))]) C.1 C.2.1 dX2_sift_50 hl (k := 2) rfl (by rw [ev2_17]; exact iI_add _ _) (by decide) rfl (fun ls hl => ?_)
            refine lv_goto (tgt := 29) C.1 C.2.1 dX2_sift_53 (by decide) ?_
            exact ih29 v2_17 x_14 _ _ _ hw G (lv_sub hl [1, 2, 0] rfl)
          · have hw := if_n hw q_16
            refine lv_aload_n C.1 C.2.1 dX2_sift_44 rfl (lv_at hl 0 rfl) ?_
            refine lv_iload_n C.1 C.2.1 dX2_sift_45 rfl (lv_at hl 1 rfl) ?_
            refine lv_iload_n C.1 C.2.1 dX2_sift_46 rfl (lv_at hl 2 rfl) ?_
            refine fr_Vv C G (c_X2_keep l D cy L ad _ hL v1_2 v2_10 x_14 _ hw) (cwV 2 C.2.2.2.2 gX2_sift_X2_keep rfl rfl rfl (by decide +kernel) ⟨Nat.le_of_ble_eq_true rfl, Nat.le_of_ble_eq_true rfl⟩) (G.recv (hL _ (by omega)) (cl_2 _) rfl) rfl hl.1 rfl (Nat.le_of_ble_eq_true rfl) dX2_sift_47 ⟨Nat.zero_le _, Nat.zero_le _⟩ (fun x_18 H locs hw G => ?_)
            obtain ⟨v2_19, ev2_19⟩ : ∃ z : Int, z = v2_10 + 1 := ⟨_, rfl⟩
            have hw := hw v2_19 ev2_19
            refine lv_iinc (v := iI v2_19) (lv' := [(2, .int (iI v2_19)), (0, .ref (ad 2)), (1, .int (iI v1_2))]) C.1 C.2.1 dX2_sift_50 hl (k := 2) rfl (by rw [ev2_19]; exact iI_add _ _) (by decide) rfl (fun ls hl => ?_)
            refine lv_goto (tgt := 29) C.1 C.2.1 dX2_sift_53 (by decide) ?_
            exact ih29 v2_19 x_18 _ _ _ hw G (lv_sub hl [1, 2, 0] rfl)
      have hX29 : ∀ (v2_10 : Int) (x_11 : Mm) (H : Heap) (locs : List Loc) (ls : Array Slot), wX_X2_sift_29 v1_2 bk_7 v2_10 x_11 → fG D cy L ad (fAr L ad s.heap.size) s x_11 H locs → lv_has ls 3 [(0, .ref (ad 2)), (1, .int (iI v1_2)), (2, .int (iI v2_10))] → W p l e (headSpec wsX2_sift rm_X2_sift).room s m args below meth c H locs 0 0 (fQv below D cy L ad s args post) (F0 m 56 ls []) := by
        intro v2_10 x_11 H locs ls hw G hl
        obtain ⟨v1_12, ev1_12⟩ : ∃ z : Int, z = v1_2 + 1 := ⟨_, rfl⟩
        have hw := hw v1_12 ev1_12
        refine lv_iinc (v := iI v1_12) (lv' := [(1, .int (iI v1_12)), (0, .ref (ad 2)), (2, .int (iI v2_10))]) C.1 C.2.1 dX2_sift_56 hl (k := 1) rfl (by rw [ev1_12]; exact iI_add _ _) (by decide) rfl (fun ls hl => ?_)
        refine lv_goto (tgt := 7) C.1 C.2.1 dX2_sift_59 (by decide) ?_
        exact ih7 v1_12 x_11 _ _ _ hw G (lv_sub hl [1, 0] rfl)
      have hB29 : ∀ (n : Nat) (v2_10 : Int) (x_11 : Mm) (H : Heap) (locs : List Loc) (ls : Array Slot), lk2 (wB_X2_sift_29 v1_2 (wX_X2_sift_29 v1_2 bk_7)) n v2_10 x_11 → fG D cy L ad (fAr L ad s.heap.size) s x_11 H locs → lv_has ls 3 [(0, .ref (ad 2)), (1, .int (iI v1_2)), (2, .int (iI v2_10))] → W p l e (headSpec wsX2_sift rm_X2_sift).room s m args below meth c H locs 0 0 (fQv below D cy L ad s args post) (F0 m 29 ls []) := by
        intro n
        induction n with
        | zero =>
          intro v2_10 x_11 H locs ls hw
          exact hw.elim
        | succ n ih =>
          intro v2_10 x_11 H locs ls hw G hl
          exact hS29 _ _ hX29 ih v2_10 x_11 H locs ls hw G hl
      exact hB29 n29 1 x_9 _ _ _ hw G (lv_sub hl [1, 2, 0] rfl)
  have hX7 : ∀ (v1_2 : Int) (x_3 : Mm) (H : Heap) (locs : List Loc) (ls : Array Slot), wX_X2_sift_7 post v1_2 x_3 → fG D cy L ad (fAr L ad s.heap.size) s x_3 H locs → lv_has ls 3 [(0, .ref (ad 2)), (1, .int (iI v1_2))] → W p l e (headSpec wsX2_sift rm_X2_sift).room s m args below meth c H locs 0 0 (fQv below D cy L ad s args post) (F0 m 62 ls []) := by
    intro v1_2 x_3 H locs ls hw G hl
    refine lv_aload_n C.1 C.2.1 dX2_sift_62 rfl (lv_at hl 0 rfl) ?_
    refine fr_Vv C G (c_X2_dropInnerWoods l D cy L ad _ hL x_3 _ hw) (cwV 0 C.2.2.2.2 gX2_sift_X2_dropInnerWoods rfl rfl rfl (by decide +kernel) ⟨Nat.le_of_ble_eq_true rfl, Nat.le_of_ble_eq_true rfl⟩) (G.recv (hL _ (by omega)) (cl_2 _) rfl) rfl hl.1 rfl (Nat.le_of_ble_eq_true rfl) dX2_sift_63 ⟨Nat.zero_le _, Nat.zero_le _⟩ (fun x_4 H locs hw G => ?_)
    exact fr_vret C G hr hlk hw dX2_sift_66
  have hB7 : ∀ (n : Nat) (v1_2 : Int) (x_3 : Mm) (H : Heap) (locs : List Loc) (ls : Array Slot), lk2 (wB_X2_sift_7 (wX_X2_sift_7 post)) n v1_2 x_3 → fG D cy L ad (fAr L ad s.heap.size) s x_3 H locs → lv_has ls 3 [(0, .ref (ad 2)), (1, .int (iI v1_2))] → W p l e (headSpec wsX2_sift rm_X2_sift).room s m args below meth c H locs 0 0 (fQv below D cy L ad s args post) (F0 m 7 ls []) := by
    intro n
    induction n with
    | zero =>
      intro v1_2 x_3 H locs ls hw
      exact hw.elim
    | succ n ih =>
      intro v1_2 x_3 H locs ls hw G hl
      exact hS7 _ _ hX7 ih v1_2 x_3 H locs ls hw G hl
  exact hB7 n7 1 x_1 _ _ _ hw G (lv_sub hl [1, 0] rfl)
def w_X2_addTap (c1 : Nat) (a1 a2 a3 : Int) (x : Mm) (post : Mm → Prop) : Prop :=
  rg (x 2 1) ∧ (if 12 ≤ (x 2 1) then (post x) else ((0 ≤ x 2 1 ∧ x 2 1 < 12) ∧ (0 ≤ x 3 (x 2 1).toNat ∧ x 3 (x 2 1).toNat < 12) ∧ w_X5_fillWholeValues (32 + 2 * (x 3 (x 2 1).toNat).toNat + 1) c1 a1 x (fun x_4 => ∀ x_5 : Mm, x_5 = up2 x_4 (32 + 2 * (x 3 (x 2 1).toNat).toNat) 1 a2 → ∀ x_6 : Mm, x_6 = up2 x_5 (32 + 2 * (x 3 (x 2 1).toNat).toNat) 2 a3 → ∀ x_7 : Mm, x_7 = up2 x_6 2 1 ((x_6 2 1) + 1) → w_X2_sift x_7 (fun x_8 => post x_8))))
abbrev rm_X2_addTap : Room := { frames := 4, cells := 0, slots := 0, locals := 107 }
theorem iw_X2_addTap_X2 : ∀ w ∈ u_ws RX2 TX2 7, w ∈ wsX2_addTap := by decide +kernel
theorem fl_X2_addTap_17 : Cond.fieldLink RX2 17 (TX2 1).1 (TX2 1).2.1 (TX2 1).2.2.1 ∈ wsX2_addTap := by decide +kernel
theorem fl_X2_addTap_11 : Cond.fieldLink RX2 11 (TX2 0).1 (TX2 0).2.1 (TX2 0).2.2.1 ∈ wsX2_addTap := by decide +kernel
theorem iw_X2_addTap_X6 : ∀ w ∈ u_ws RX6 TX6 3, w ∈ wsX2_addTap := by decide +kernel
theorem fl_X2_addTap_41 : Cond.fieldLink RX2 41 (TX6 0).1 (TX6 0).2.1 (TX6 0).2.2.1 ∈ wsX2_addTap := by decide +kernel
theorem fl_X2_addTap_50 : Cond.fieldLink RX2 50 (TX6 1).1 (TX6 1).2.1 (TX6 1).2.2.1 ∈ wsX2_addTap := by decide +kernel
theorem fl_X2_addTap_53 : Cond.fieldLink RX2 53 (TX6 2).1 (TX6 2).2.1 (TX6 2).2.2.1 ∈ wsX2_addTap := by decide +kernel
set_option maxHeartbeats 4000000 in
set_option maxRecDepth 100000 in
theorem c_X2_addTap (l : Launch) (D : va_G) (cy : Nat → ClassId) (L : List Nat) (ad : Nat → Nat) (sz : Nat) (hL : fLH L) (c1 : Nat) (hc1 : c1 ∈ L) (hlc1 : al c1 = 4) (a1 a2 a3 : Int) (x : Mm) (post : Mm → Prop) (hw : w_X2_addTap c1 a1 a2 a3 x post) : fMv l yX2_addTap wsX2_addTap rm_X2_addTap [.ref (ad 2), .ref (ad c1), .int (iI a1), .int (iI a2), .int (iI a3)] D cy L ad sz x post := by
  refine Met.ofW (cc := cX2_addTap) (maxL := 6) (ret := none) (by decide) rfl ?_
  intro p e s m args below meth c s₁ B hml hv
  obtain ⟨hargs, hp⟩ := hv
  obtain ⟨C, hr, hlk, hsz, G⟩ := fr_start B hml hp
  subst hsz
  obtain ⟨ls, els, hl⟩ := fr_entry (m := m) (n := 6) hargs (Nat.le_of_ble_eq_true rfl)
  rw [els]
  have hl : lv_has ls 6 [(0, .ref (ad 2)), (1, .ref (ad c1)), (2, .int (iI a1)), (3, .int (iI a2)), (4, .int (iI a3))] := hl
  clear els hargs hp B
  refine lv_aload_n C.1 C.2.1 dX2_addTap_0 rfl (lv_at hl 0 rfl) ?_
  refine fr_get C G 2 (hL _ (by omega)) (cl_2 _) rfl iw_X2_addTap_X2 1 (by decide) fl_X2_addTap_17 rfl dX2_addTap_1 ?_
  refine fr_bi C dX2_addTap_4 rfl ?_
  obtain ⟨hc_9, hw⟩ := hw
  refine fr_ge (tgt := 57) C dX2_addTap_6 (by decide) ⟨hc_9, ⟨by decide, by decide⟩⟩ (fun q_1 => ?_) (fun q_1 => ?_)
  · have hw := if_p hw q_1
    exact fr_vret C G hr hlk hw dX2_addTap_57
  · have hw := if_n hw q_1
    refine lv_aload_n C.1 C.2.1 dX2_addTap_9 rfl (lv_at hl 0 rfl) ?_
    refine fr_get C G 2 (hL _ (by omega)) (cl_2 _) rfl iw_X2_addTap_X2 0 (by decide) fl_X2_addTap_11 rfl dX2_addTap_10 ?_
    refine lv_aload_n C.1 C.2.1 dX2_addTap_13 rfl (lv_at hl 0 rfl) ?_
    refine fr_get C G 2 (hL _ (by omega)) (cl_2 _) rfl iw_X2_addTap_X2 1 (by decide) fl_X2_addTap_17 rfl dX2_addTap_14 ?_
    obtain ⟨hb_2, ht_3, hw⟩ := hw
    refine fr_atp C G (hL _ (by omega)) hb_2 dX2_addTap_17 ?_
    refine lv_astore (lv' := [(5, .ref (ad (32 + 2 * (x 3 (x 2 1).toNat).toNat))), (0, .ref (ad 2)), (1, .ref (ad c1)), (2, .int (iI a1)), (3, .int (iI a2)), (4, .int (iI a3))]) C.1 C.2.1 dX2_addTap_18 hl (by decide) rfl (fun ls hl => ?_)
    refine lv_aload C.1 C.2.1 dX2_addTap_20 (lv_at hl 0 rfl) ?_
    refine fr_get C G (32 + 2 * (x 3 (x 2 1).toNat).toNat) (hL _ (by omega)) (cell_tp _ (by omega)) rfl iw_X2_addTap_X6 0 (by decide) fl_X2_addTap_41 rfl dX2_addTap_22 ?_
    refine lv_aload_n C.1 C.2.1 dX2_addTap_25 rfl (lv_at hl 2 rfl) ?_
    refine lv_iload_n C.1 C.2.1 dX2_addTap_26 rfl (lv_at hl 3 rfl) ?_
    refine fr_Sv C G (c_X5_fillWholeValues l D cy L ad _ (32 + 2 * (x 3 (x 2 1).toNat).toNat + 1) (hL _ (by omega)) ((al_tp _ (by omega)).2) c1 hc1 hlc1 a1 x _ hw) (va_cwS 3 C.2.2.2.2 gX2_addTap_X5_fillWholeValues rfl rfl rfl (by decide +kernel) ⟨Nat.le_of_ble_eq_true rfl, Nat.le_of_ble_eq_true rfl⟩) rfl hl.1 rfl (Nat.le_of_ble_eq_true rfl) dX2_addTap_27 ⟨Nat.zero_le _, Nat.zero_le _⟩ (fun x_4 H locs hw G => ?_)
    refine lv_aload C.1 C.2.1 dX2_addTap_30 (lv_at hl 0 rfl) ?_
    refine lv_iload_n C.1 C.2.1 dX2_addTap_32 rfl (lv_at hl 4 rfl) ?_
    refine fr_put C G (32 + 2 * (x 3 (x 2 1).toNat).toNat) (hL _ (by omega)) (cell_tp _ (by omega)) rfl iw_X2_addTap_X6 tyX6_ok nmX6 1 (by decide) fl_X2_addTap_50 rfl (by decide +kernel) (Nat.le_of_ble_eq_true rfl) (st_tp_1 _ _ (by omega)) dX2_addTap_33 (fun x_5 H locs ex_5 G => ?_)
    have hw := hw x_5 ex_5
    refine lv_aload C.1 C.2.1 dX2_addTap_36 (lv_at hl 0 rfl) ?_
    refine lv_iload C.1 C.2.1 dX2_addTap_38 (lv_at hl 5 rfl) ?_
    refine fr_put C G (32 + 2 * (x 3 (x 2 1).toNat).toNat) (hL _ (by omega)) (cell_tp _ (by omega)) rfl iw_X2_addTap_X6 tyX6_ok nmX6 2 (by decide) fl_X2_addTap_53 rfl (by decide +kernel) (Nat.le_of_ble_eq_true rfl) (st_tp_2 _ _ (by omega)) dX2_addTap_40 (fun x_6 H locs ex_6 G => ?_)
    have hw := hw x_6 ex_6
    refine lv_aload_n C.1 C.2.1 dX2_addTap_43 rfl (lv_at hl 1 rfl) ?_
    refine lv_dup C.1 C.2.1 dX2_addTap_44 rfl ?_
    refine fr_get C G 2 (hL _ (by omega)) (cl_2 _) rfl iw_X2_addTap_X2 1 (by decide) fl_X2_addTap_17 rfl dX2_addTap_45 ?_
    refine fr_ic C dX2_addTap_48 ?_
    refine fr_iadd C dX2_addTap_49 ?_
    refine fr_put C G 2 (hL _ (by omega)) (cl_2 _) rfl iw_X2_addTap_X2 tyX2_ok nmX2 1 (by decide) fl_X2_addTap_17 rfl (by decide +kernel) (Nat.le_of_ble_eq_true rfl) (st_2_1 _ _) dX2_addTap_50 (fun x_7 H locs ex_7 G => ?_)
    have hw := hw x_7 ex_7
    refine lv_aload_n C.1 C.2.1 dX2_addTap_53 rfl (lv_at hl 1 rfl) ?_
    refine fr_Vv C G (c_X2_sift l D cy L ad _ hL x_7 _ hw) (cwV 0 C.2.2.2.2 gX2_addTap_X2_sift rfl rfl rfl (by decide +kernel) ⟨Nat.le_of_ble_eq_true rfl, Nat.le_of_ble_eq_true rfl⟩) (G.recv (hL _ (by omega)) (cl_2 _) rfl) rfl hl.1 rfl (Nat.le_of_ble_eq_true rfl) dX2_addTap_54 ⟨Nat.zero_le _, Nat.zero_le _⟩ (fun x_8 H locs hw G => ?_)
    exact fr_vret C G hr hlk hw dX2_addTap_57
