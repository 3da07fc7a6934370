def wX_X8_fits_18 (v2_2 : Int) (bk_4 : Int → Int → Mm → Prop) (v1_6 : Int) (v3_7 : Int) (x_8 : Mm) : Prop :=
  ∀ v2_9 : Int, v2_9 = v2_2 + 1 → bk_4 v1_6 v2_9 x_8
def wB_X8_fits_18 (v2_2 : Int) (kx_18 bk_18 : Int → Int → Mm → Prop) (v1_6 : Int) (v3_7 : Int) (x_8 : Mm) : Prop :=
  rg v3_7 ∧ (if 4 ≤ v3_7 then (kx_18 v1_6 v3_7 x_8) else (rg v1_6 ∧ (if v1_6 = 0 then (kx_18 v1_6 v3_7 x_8) else ((0 ≤ v3_7 ∧ v3_7 < 4) ∧ rg (x_8 68 (v3_7).toNat) ∧ (if (x_8 68 (v3_7).toNat) = 0 then (∀ v3_14 : Int, v3_14 = v3_7 + 1 → bk_18 1 v3_14 x_8) else ((0 ≤ v2_2 ∧ v2_2 < 81) ∧ (rg (x_8 72 (v2_2).toNat) ∧ 0 ≤ x_8 72 (v2_2).toNat) ∧ (0 ≤ v2_2 ∧ v2_2 < 81) ∧ (rg (x_8 72 (v2_2).toNat) ∧ 0 ≤ x_8 72 (v2_2).toNat) ∧ (0 ≤ v3_7 ∧ v3_7 < 4) ∧ (0 ≤ v3_7 ∧ v3_7 < 4) ∧ w_X8_lies (1 + ((x_8 72 (v2_2).toNat) / 9)) (1 + ((x_8 72 (v2_2).toNat) % 9)) v3_7 (x_8 69 (v3_7).toNat) (x_8 70 (v3_7).toNat) x_8 (fun z_22 x_21 => rg z_22 ∧ (if z_22 = 0 then (∀ v3_24 : Int, v3_24 = v3_7 + 1 → bk_18 0 v3_24 x_21) else (∀ v3_25 : Int, v3_25 = v3_7 + 1 → bk_18 1 v3_25 x_21)))))))))
def wX_X8_fits_4 (post : Int → Mm → Prop) (v1_1 : Int) (v2_2 : Int) (x_3 : Mm) : Prop :=
  (v1_1 = 0 ∨ v1_1 = 1) ∧ post v1_1 x_3
def wB_X8_fits_4 (kx_4 bk_4 : Int → Int → Mm → Prop) (v1_1 : Int) (v2_2 : Int) (x_3 : Mm) : Prop :=
  (rg v2_2 ∧ rg (x_3 60 15)) ∧ (if (x_3 60 15) ≤ v2_2 then (kx_4 v1_1 v2_2 x_3) else (rg v1_1 ∧ (if v1_1 = 0 then (kx_4 v1_1 v2_2 x_3) else (∃ n : Nat, lk3 (wB_X8_fits_18 v2_2 (wX_X8_fits_18 v2_2 bk_4)) n v1_1 0 x_3))))
def w_X8_fits (x : Mm) (post : Int → Mm → Prop) : Prop :=
  ∃ n : Nat, lk3 (wB_X8_fits_4 (wX_X8_fits_4 post)) n 1 0 x
abbrev rm_X8_fits : Room := { frames := 3, cells := 0, slots := 0, locals := 83 }
theorem iw_X8_fits_X8 : ∀ w ∈ u_ws RX8 TX8 20, w ∈ wsX8_fits := by decide +kernel
theorem fl_X8_fits_107 : Cond.fieldLink RX8 107 (TX8 15).1 (TX8 15).2.1 (TX8 15).2.2.1 ∈ wsX8_fits := by decide +kernel
theorem fl_X8_fits_35 : Cond.fieldLink RX8 35 (TX8 10).1 (TX8 10).2.1 (TX8 10).2.2.1 ∈ wsX8_fits := by decide +kernel
theorem fl_X8_fits_51 : Cond.fieldLink RX8 51 (TX8 16).1 (TX8 16).2.1 (TX8 16).2.2.1 ∈ wsX8_fits := by decide +kernel
theorem fl_X8_fits_39 : Cond.fieldLink RX8 39 (TX8 11).1 (TX8 11).2.1 (TX8 11).2.2.1 ∈ wsX8_fits := by decide +kernel
theorem fl_X8_fits_42 : Cond.fieldLink RX8 42 (TX8 12).1 (TX8 12).2.1 (TX8 12).2.2.1 ∈ wsX8_fits := by decide +kernel
set_option maxHeartbeats 4000000 in
set_option maxRecDepth 100000 in
theorem c_X8_fits (l : Launch) (D : va_G) (cy : Nat → ClassId) (L : List Nat) (ad : Nat → Nat) (sz : Nat) (hL : fLM L) (x : Mm) (post : Int → Mm → Prop) (hw : w_X8_fits x post) : fMi l yX8_fits wsX8_fits rm_X8_fits [.ref (ad 60)] D cy L ad sz x post := by
  refine Met.ofW (cc := cX8_fits) (maxL := 4) (ret := (some .boolean)) (by decide) rfl ?_
  intro p e s m args below meth c s₁ B hml hv
  obtain ⟨hargs, hp⟩ := hv
  obtain ⟨C, hr, hlk, hsz, G⟩ := fr_start B hml hp
  subst hsz
  obtain ⟨ls, els, hl⟩ := fr_entry (m := m) (n := 4) hargs (Nat.le_of_ble_eq_true rfl)
  rw [els]
  have hl : lv_has ls 4 [(0, .ref (ad 60))] := hl
  clear els hargs hp B
  refine fr_ic C dX8_fits_0 ?_
  refine lv_istore_n (lv' := [(1, .int (iI 1)), (0, .ref (ad 60))]) C.1 C.2.1 dX8_fits_1 rfl hl (by decide) rfl (fun ls hl => ?_)
  refine fr_ic C dX8_fits_2 ?_
  refine lv_istore_n (lv' := [(2, .int (iI 0)), (1, .int (iI 1)), (0, .ref (ad 60))]) C.1 C.2.1 dX8_fits_3 rfl hl (by decide) rfl (fun ls hl => ?_)
  obtain ⟨n4, hw⟩ := hw
  have hS4 : ∀ (kx_4 bk_4 : Int → Int → Mm → Prop), (∀ (v1_1 : Int) (v2_2 : Int) (x_3 : Mm) (H : Heap) (locs : List Loc) (ls : Array Slot), kx_4 v1_1 v2_2 x_3 → fG D cy L ad (fAr L ad s.heap.size) s x_3 H locs → lv_has ls 4 [(0, .ref (ad 60)), (1, .int (iI v1_1)), (2, .int (iI v2_2))] → W p l e (headSpec wsX8_fits rm_X8_fits).room s m args below meth c H locs 0 0 (fQi below D cy L ad s args post) (F0 m 96 ls [])) → (∀ (v1_1 : Int) (v2_2 : Int) (x_3 : Mm) (H : Heap) (locs : List Loc) (ls : Array Slot), bk_4 v1_1 v2_2 x_3 → fG D cy L ad (fAr L ad s.heap.size) s x_3 H locs → lv_has ls 4 [(0, .ref (ad 60)), (1, .int (iI v1_1)), (2, .int (iI v2_2))] → W p l e (headSpec wsX8_fits rm_X8_fits).room s m args below meth c H locs 0 0 (fQi below D cy L ad s args post) (F0 m 4 ls [])) → ∀ (v1_1 : Int) (v2_2 : Int) (x_3 : Mm) (H : Heap) (locs : List Loc) (ls : Array Slot), wB_X8_fits_4 kx_4 bk_4 v1_1 v2_2 x_3 → fG D cy L ad (fAr L ad s.heap.size) s x_3 H locs → lv_has ls 4 [(0, .ref (ad 60)), (1, .int (iI v1_1)), (2, .int (iI v2_2))] → W p l e (headSpec wsX8_fits rm_X8_fits).room s m args below meth c H locs 0 0 (fQi below D cy L ad s args post) (F0 m 4 ls []) := by
    intro kx_4 bk_4 hX4 ih4 v1_1 v2_2 x_3 H locs ls hw G hl
    refine lv_iload_n C.1 C.2.1 dX8_fits_4 rfl (lv_at hl 2 rfl) ?_
    refine lv_aload_n C.1 C.2.1 dX8_fits_5 rfl (lv_at hl 0 rfl) ?_
    refine fr_get C G 60 (hL _ (by omega)) (cl_60 _) rfl iw_X8_fits_X8 15 (by decide) fl_X8_fits_107 rfl dX8_fits_6 ?_
    obtain ⟨hc_31, hw⟩ := hw
    refine fr_ge (tgt := 96) C dX8_fits_9 (by decide) hc_31 (fun q_4 => ?_) (fun q_4 => ?_)
    · have hw := if_p hw q_4
      exact hX4 v1_1 v2_2 x_3 _ _ _ hw G (lv_sub hl [0, 1, 2] rfl)
    · have hw := if_n hw q_4
      refine lv_iload_n C.1 C.2.1 dX8_fits_12 rfl (lv_at hl 1 rfl) ?_
      obtain ⟨hc_30, hw⟩ := hw
      refine fr_eq0 (tgt := 96) C dX8_fits_13 (by decide) hc_30 (fun q_5 => ?_) (fun q_5 => ?_)
      · have hw := if_p hw q_5
        exact hX4 v1_1 v2_2 x_3 _ _ _ hw G (lv_sub hl [0, 1, 2] rfl)
      · have hw := if_n hw q_5
        refine fr_ic C dX8_fits_16 ?_
        refine lv_istore_n (lv' := [(3, .int (iI 0)), (0, .ref (ad 60)), (1, .int (iI v1_1)), (2, .int (iI v2_2))]) C.1 C.2.1 dX8_fits_17 rfl hl (by decide) rfl (fun ls hl => ?_)
        obtain ⟨n18, hw⟩ := hw
        have hS18 : ∀ (kx_18 bk_18 : Int → Int → Mm → Prop), (∀ (v1_6 : Int) (v3_7 : Int) (x_8 : Mm) (H : Heap) (locs : List Loc) (ls : Array Slot), kx_18 v1_6 v3_7 x_8 → fG D cy L ad (fAr L ad s.heap.size) s x_8 H locs → lv_has ls 4 [(0, .ref (ad 60)), (1, .int (iI v1_6)), (2, .int (iI v2_2)), (3, .int (iI v3_7))] → W p l e (headSpec wsX8_fits rm_X8_fits).room s m args below meth c H locs 0 0 (fQi below D cy L ad s args post) (F0 m 90 ls [])) → (∀ (v1_6 : Int) (v3_7 : Int) (x_8 : Mm) (H : Heap) (locs : List Loc) (ls : Array Slot), bk_18 v1_6 v3_7 x_8 → fG D cy L ad (fAr L ad s.heap.size) s x_8 H locs → lv_has ls 4 [(0, .ref (ad 60)), (1, .int (iI v1_6)), (2, .int (iI v2_2)), (3, .int (iI v3_7))] → W p l e (headSpec wsX8_fits rm_X8_fits).room s m args below meth c H locs 0 0 (fQi below D cy L ad s args post) (F0 m 18 ls [])) → ∀ (v1_6 : Int) (v3_7 : Int) (x_8 : Mm) (H : Heap) (locs : List Loc) (ls : Array Slot), wB_X8_fits_18 v2_2 kx_18 bk_18 v1_6 v3_7 x_8 → fG D cy L ad (fAr L ad s.heap.size) s x_8 H locs → lv_has ls 4 [(0, .ref (ad 60)), (1, .int (iI v1_6)), (2, .int (iI v2_2)), (3, .int (iI v3_7))] → W p l e (headSpec wsX8_fits rm_X8_fits).room s m args below meth c H locs 0 0 (fQi below D cy L ad s args post) (F0 m 18 ls []) := by
          intro kx_18 bk_18 hX18 ih18 v1_6 v3_7 x_8 H locs ls hw G hl
          refine lv_iload_n C.1 C.2.1 dX8_fits_18 rfl (lv_at hl 3 rfl) ?_
          refine fr_ic C dX8_fits_19 ?_
          obtain ⟨hc_29, hw⟩ := hw
          refine fr_ge (tgt := 90) C dX8_fits_20 (by decide) ⟨hc_29, ⟨by decide, by decide⟩⟩ (fun q_10 => ?_) (fun q_10 => ?_)
          · have hw := if_p hw q_10
            exact hX18 v1_6 v3_7 x_8 _ _ _ hw G (lv_sub hl [0, 1, 2, 3] rfl)
          · have hw := if_n hw q_10
            refine lv_iload_n C.1 C.2.1 dX8_fits_23 rfl (lv_at hl 1 rfl) ?_
            obtain ⟨hc_28, hw⟩ := hw
            refine fr_eq0 (tgt := 90) C dX8_fits_24 (by decide) hc_28 (fun q_11 => ?_) (fun q_11 => ?_)
            · have hw := if_p hw q_11
              exact hX18 v1_6 v3_7 x_8 _ _ _ hw G (lv_sub hl [0, 1, 2, 3] rfl)
            · have hw := if_n hw q_11
              refine lv_aload_n C.1 C.2.1 dX8_fits_27 rfl (lv_at hl 0 rfl) ?_
              refine fr_get C G 60 (hL _ (by omega)) (cl_60 _) rfl iw_X8_fits_X8 10 (by decide) fl_X8_fits_35 rfl dX8_fits_28 ?_
              refine lv_iload_n C.1 C.2.1 dX8_fits_31 rfl (lv_at hl 3 rfl) ?_
              obtain ⟨hb_12, hw⟩ := hw
              refine fr_zald C G 68 (hL _ (by omega)) (cl_68 _) hb_12 dX8_fits_32 ?_
              obtain ⟨hc_27, hw⟩ := hw
              refine fr_eq0 (tgt := 78) C dX8_fits_33 (by decide) hc_27 (fun q_13 => ?_) (fun q_13 => ?_)
              · have hw := if_p hw q_13
                refine fr_ic C dX8_fits_78 ?_
                refine lv_goto (tgt := 83) C.1 C.2.1 dX8_fits_79 (by decide) ?_
                refine lv_istore_n (lv' := [(1, .int (iI 1)), (0, .ref (ad 60)), (2, .int (iI v2_2)), (3, .int (iI v3_7))]) C.1 C.2.1 dX8_fits_83 rfl hl (by decide) rfl (fun ls hl => ?_)
                obtain ⟨v3_14, ev3_14⟩ : ∃ z : Int, z = v3_7 + 1 := ⟨_, rfl⟩
                have hw := hw v3_14 ev3_14
                refine lv_iinc (v := iI v3_14) (lv' := [(3, .int (iI v3_14)), (1, .int (iI 1)), (0, .ref (ad 60)), (2, .int (iI v2_2))]) C.1 C.2.1 dX8_fits_84 hl (k := 3) rfl (by rw [ev3_14]; exact iI_add _ _) (by decide) rfl (fun ls hl => ?_)
                refine lv_goto (tgt := 18) C.1 C.2.1 dX8_fits_87 (by decide) ?_
                exact ih18 1 v3_14 x_8 _ _ _ hw G (lv_sub hl [2, 1, 3, 0] rfl)
              · have hw := if_n hw q_13
                refine lv_aload_n C.1 C.2.1 dX8_fits_36 rfl (lv_at hl 0 rfl) ?_
                refine fr_ic C dX8_fits_37 ?_
                refine lv_aload_n C.1 C.2.1 dX8_fits_38 rfl (lv_at hl 0 rfl) ?_
                refine fr_get C G 60 (hL _ (by omega)) (cl_60 _) rfl iw_X8_fits_X8 16 (by decide) fl_X8_fits_51 rfl dX8_fits_39 ?_
                refine lv_iload_n C.1 C.2.1 dX8_fits_42 rfl (lv_at hl 2 rfl) ?_
                obtain ⟨hb_15, hw⟩ := hw
                refine fr_iald C G 72 81 (hL _ (by omega)) rfl ⟨by decide, by decide⟩ hb_15 dX8_fits_43 ?_
                refine fr_bi C dX8_fits_44 rfl ?_
                obtain ⟨hd_16, hw⟩ := hw
                refine fr_idiv C dX8_fits_46 ⟨hd_16.1, ⟨by decide, by decide⟩, hd_16.2, by decide⟩ ?_
                refine fr_iadd C dX8_fits_47 ?_
                refine fr_ic C dX8_fits_48 ?_
                refine lv_aload_n C.1 C.2.1 dX8_fits_49 rfl (lv_at hl 0 rfl) ?_
                refine fr_get C G 60 (hL _ (by omega)) (cl_60 _) rfl iw_X8_fits_X8 16 (by decide) fl_X8_fits_51 rfl dX8_fits_50 ?_
                refine lv_iload_n C.1 C.2.1 dX8_fits_53 rfl (lv_at hl 2 rfl) ?_
                obtain ⟨hb_17, hw⟩ := hw
                refine fr_iald C G 72 81 (hL _ (by omega)) rfl ⟨by decide, by decide⟩ hb_17 dX8_fits_54 ?_
                refine fr_bi C dX8_fits_55 rfl ?_
                obtain ⟨hd_18, hw⟩ := hw
                refine fr_irem C dX8_fits_57 ⟨hd_18.1, ⟨by decide, by decide⟩, hd_18.2, by decide⟩ ?_
                refine fr_iadd C dX8_fits_58 ?_
                refine lv_iload_n C.1 C.2.1 dX8_fits_59 rfl (lv_at hl 3 rfl) ?_
                refine lv_aload_n C.1 C.2.1 dX8_fits_60 rfl (lv_at hl 0 rfl) ?_
                refine fr_get C G 60 (hL _ (by omega)) (cl_60 _) rfl iw_X8_fits_X8 11 (by decide) fl_X8_fits_39 rfl dX8_fits_61 ?_
                refine lv_iload_n C.1 C.2.1 dX8_fits_64 rfl (lv_at hl 3 rfl) ?_
                obtain ⟨hb_19, hw⟩ := hw
                refine fr_iald C G 69 4 (hL _ (by omega)) rfl ⟨by decide, by decide⟩ hb_19 dX8_fits_65 ?_
                refine lv_aload_n C.1 C.2.1 dX8_fits_66 rfl (lv_at hl 0 rfl) ?_
                refine fr_get C G 60 (hL _ (by omega)) (cl_60 _) rfl iw_X8_fits_X8 12 (by decide) fl_X8_fits_42 rfl dX8_fits_67 ?_
                refine lv_iload_n C.1 C.2.1 dX8_fits_70 rfl (lv_at hl 3 rfl) ?_
                obtain ⟨hb_20, hw⟩ := hw
                refine fr_iald C G 70 4 (hL _ (by omega)) rfl ⟨by decide, by decide⟩ hb_20 dX8_fits_71 ?_
                refine fr_Vi C G (c_X8_lies l D cy L ad _ hL (1 + ((x_8 72 (v2_2).toNat) / 9)) (1 + ((x_8 72 (v2_2).toNat) % 9)) v3_7 (x_8 69 (v3_7).toNat) (x_8 70 (v3_7).toNat) x_8 _ hw) (cwV 5 C.2.2.2.2 gX8_fits_X8_lies rfl rfl rfl (by decide +kernel) ⟨Nat.le_of_ble_eq_true rfl, Nat.le_of_ble_eq_true rfl⟩) (G.recv (hL _ (by omega)) (cl_60 _) rfl) rfl hl.1 rfl (Nat.le_of_ble_eq_true rfl) dX8_fits_72 ⟨Nat.zero_le _, Nat.zero_le _⟩ (fun z_22 x_21 H locs hw G => ?_)
                obtain ⟨hc_26, hw⟩ := hw
                refine fr_eq0 (tgt := 82) C dX8_fits_75 (by decide) hc_26 (fun q_23 => ?_) (fun q_23 => ?_)
                · have hw := if_p hw q_23
                  refine fr_ic C dX8_fits_82 ?_
                  refine lv_istore_n (lv' := [(1, .int (iI 0)), (0, .ref (ad 60)), (2, .int (iI v2_2)), (3, .int (iI v3_7))]) C.1 C.2.1 dX8_fits_83 rfl hl (by decide) rfl (fun ls hl => ?_)
                  obtain ⟨v3_24, ev3_24⟩ : ∃ z : Int, z = v3_7 + 1 := ⟨_, rfl⟩
                  have hw := hw v3_24 ev3_24
                  refine lv_iinc (v := iI v3_24) (lv' := [(3, .int (iI v3_24)), (1, .int (iI 0)), (0, .ref (ad 60)), (2, .int (iI v2_2))]) C.1 C.2.1 dX8_fits_84 hl (k := 3) rfl (by rw [ev3_24]; exact iI_add _ _) (by decide) rfl (fun ls hl => ?_)
                  refine lv_goto (tgt := 18) C.1 C.2.1 dX8_fits_87 (by decide) ?_
                  exact ih18 0 v3_24 x_21 _ _ _ hw G (lv_sub hl [2, 1, 3, 0] rfl)
                · have hw := if_n hw q_23
                  refine fr_ic C dX8_fits_78 ?_
                  refine lv_goto (tgt := 83) C.1 C.2.1 dX8_fits_79 (by decide) ?_
                  refine lv_istore_n (lv' := [(1, .int (iI 1)), (0, .ref (ad 60)), (2, .int (iI v2_2)), (3, .int (iI v3_7))]) C.1 C.2.1 dX8_fits_83 rfl hl (by decide) rfl (fun ls hl => ?_)
                  obtain ⟨v3_25, ev3_25⟩ : ∃ z : Int, z = v3_7 + 1 := ⟨_, rfl⟩
                  have hw := hw v3_25 ev3_25
                  refine lv_iinc (v := iI v3_25) (lv' := [(3, .int (iI v3_25)), (1, .int (iI 1)), (0, .ref (ad 60)), (2, .int (iI v2_2))]) C.1 C.2.1 dX8_fits_84 hl (k := 3) rfl (by rw [ev3_25]; exact iI_add _ _) (by decide) rfl (fun ls hl => ?_)
                  refine lv_goto (tgt := 18) C.1 C.2.1 dX8_fits_87 (by decide) ?_
                  exact ih18 1 v3_25 x_21 _ _ _ hw G (lv_sub hl [2, 1, 3, 0] rfl)
        have hX18 : ∀ (v1_6 : Int) (v3_7 : Int) (x_8 : Mm) (H : Heap) (locs : List Loc) (ls : Array Slot), wX_X8_fits_18 v2_2 bk_4 v1_6 v3_7 x_8 → fG D cy L ad (fAr L ad s.heap.size) s x_8 H locs → lv_has ls 4 [(0, .ref (ad 60)), (1, .int (iI v1_6)), (2, .int (iI v2_2)), (3, .int (iI v3_7))] → W p l e (headSpec wsX8_fits rm_X8_fits).room s m args below meth c H locs 0 0 (fQi below D cy L ad s args post) (F0 m 90 ls []) := by
          intro v1_6 v3_7 x_8 H locs ls hw G hl
          obtain ⟨v2_9, ev2_9⟩ : ∃ z : Int, z = v2_2 + 1 := ⟨_, rfl⟩
          have hw := hw v2_9 ev2_9
          refine lv_iinc (v := iI v2_9) (lv' := [(2, .int (iI v2_9)), (0, .ref (ad 60)), (1, .int (iI v1_6)), (3, .int (iI v3_7))]) C.1 C.2.1 dX8_fits_90 hl (k := 2) rfl (by rw [ev2_9]; exact iI_add _ _) (by decide) rfl (fun ls hl => ?_)
          refine lv_goto (tgt := 4) C.1 C.2.1 dX8_fits_93 (by decide) ?_
          exact ih4 v1_6 v2_9 x_8 _ _ _ hw G (lv_sub hl [1, 2, 0] rfl)
        have hB18 : ∀ (n : Nat) (v1_6 : Int) (v3_7 : Int) (x_8 : Mm) (H : Heap) (locs : List Loc) (ls : Array Slot), lk3 (wB_X8_fits_18 v2_2 (wX_X8_fits_18 v2_2 bk_4)) n v1_6 v3_7 x_8 → fG D cy L ad (fAr L ad s.heap.size) s x_8 H locs → lv_has ls 4 [(0, .ref (ad 60)), (1, .int (iI v1_6)), (2, .int (iI v2_2)), (3, .int (iI v3_7))] → W p l e (headSpec wsX8_fits rm_X8_fits).room s m args below meth c H locs 0 0 (fQi below D cy L ad s args post) (F0 m 18 ls []) := by
          intro n
          induction n with
          | zero =>
            intro v1_6 v3_7 x_8 H locs ls hw
            exact hw.elim
          | succ n ih =>
            intro v1_6 v3_7 x_8 H locs ls hw G hl
            exact hS18 _ _ hX18 ih v1_6 v3_7 x_8 H locs ls hw G hl
        exact hB18 n18 v1_1 0 x_3 _ _ _ hw G (lv_sub hl [1, 2, 3, 0] rfl)
  have hX4 : ∀ (v1_1 : Int) (v2_2 : Int) (x_3 : Mm) (H : Heap) (locs : List Loc) (ls : Array Slot), wX_X8_fits_4 post v1_1 v2_2 x_3 → fG D cy L ad (fAr L ad s.heap.size) s x_3 H locs → lv_has ls 4 [(0, .ref (ad 60)), (1, .int (iI v1_1)), (2, .int (iI v2_2))] → W p l e (headSpec wsX8_fits rm_X8_fits).room s m args below meth c H locs 0 0 (fQi below D cy L ad s args post) (F0 m 96 ls []) := by
    intro v1_1 v2_2 x_3 H locs ls hw G hl
    refine lv_iload_n C.1 C.2.1 dX8_fits_96 rfl (lv_at hl 1 rfl) ?_
    exact fr_zret C G hr hlk hw.1 hw.2 dX8_fits_97
  have hB4 : ∀ (n : Nat) (v1_1 : Int) (v2_2 : Int) (x_3 : Mm) (H : Heap) (locs : List Loc) (ls : Array Slot), lk3 (wB_X8_fits_4 (wX_X8_fits_4 post)) n v1_1 v2_2 x_3 → fG D cy L ad (fAr L ad s.heap.size) s x_3 H locs → lv_has ls 4 [(0, .ref (ad 60)), (1, .int (iI v1_1)), (2, .int (iI v2_2))] → W p l e (headSpec wsX8_fits rm_X8_fits).room s m args below meth c H locs 0 0 (fQi below D cy L ad s args post) (F0 m 4 ls []) := by
    intro n
    induction n with
    | zero =>
      intro v1_1 v2_2 x_3 H locs ls hw
      exact hw.elim
    | succ n ih =>
      intro v1_1 v2_2 x_3 H locs ls hw G hl
      exact hS4 _ _ hX4 ih v1_1 v2_2 x_3 H locs ls hw G hl
  exact hB4 n4 1 0 x _ _ _ hw G (lv_sub hl [2, 1, 0] rfl)
def w_X8_mayBe (a1 a2 a3 : Int) (x : Mm) (post : Int → Mm → Prop) : Prop :=
  (0 ≤ (4 * a1) + a2 ∧ (4 * a1) + a2 < 16) ∧ ∀ v4_2 : Int, v4_2 = x 61 ((4 * a1) + a2).toNat → (rg a3 ∧ rg v4_2) ∧ (if a3 = v4_2 then (post 1 x) else ((rg a3 ∧ rg v4_2) ∧ (if v4_2 ≤ a3 then (post 0 x) else ((rg a3 ∧ rg (x 60 2)) ∧ (if a3 < (x 60 2) then (post 0 x) else (post 1 x))))))
abbrev rm_X8_mayBe : Room := { frames := 0, cells := 0, slots := 0, locals := 0 }
theorem iw_X8_mayBe_X8 : ∀ w ∈ u_ws RX8 TX8 20, w ∈ wsX8_mayBe := by decide +kernel
theorem fl_X8_mayBe_7 : Cond.fieldLink RX8 7 (TX8 1).1 (TX8 1).2.1 (TX8 1).2.2.1 ∈ wsX8_mayBe := by decide +kernel
theorem fl_X8_mayBe_13 : Cond.fieldLink RX8 13 (TX8 2).1 (TX8 2).2.1 (TX8 2).2.2.1 ∈ wsX8_mayBe := by decide +kernel
set_option maxHeartbeats 4000000 in
set_option maxRecDepth 100000 in
theorem c_X8_mayBe (l : Launch) (D : va_G) (cy : Nat → ClassId) (L : List Nat) (ad : Nat → Nat) (sz : Nat) (hL : fLM L) (a1 a2 a3 : Int) (x : Mm) (post : Int → Mm → Prop) (hw : w_X8_mayBe a1 a2 a3 x post) : fMi l yX8_mayBe wsX8_mayBe rm_X8_mayBe [.ref (ad 60), .int (iI a1), .int (iI a2), .int (iI a3)] D cy L ad sz x post := by
  refine Met.ofW (cc := cX8_mayBe) (maxL := 5) (ret := (some .boolean)) (by decide) rfl ?_
  intro p e s m args below meth c s₁ B hml hv
  obtain ⟨hargs, hp⟩ := hv
  obtain ⟨C, hr, hlk, hsz, G⟩ := fr_start B hml hp
  subst hsz
  obtain ⟨ls, els, hl⟩ := fr_entry (m := m) (n := 5) hargs (Nat.le_of_ble_eq_true rfl)
  rw [els]
  have hl : lv_has ls 5 [(0, .ref (ad 60)), (1, .int (iI a1)), (2, .int (iI a2)), (3, .int (iI a3))] := hl
  clear els hargs hp B
  refine lv_aload_n C.1 C.2.1 dX8_mayBe_0 rfl (lv_at hl 0 rfl) ?_
  refine fr_get C G 60 (hL _ (by omega)) (cl_60 _) rfl iw_X8_mayBe_X8 1 (by decide) fl_X8_mayBe_7 rfl dX8_mayBe_1 ?_
  refine fr_ic C dX8_mayBe_4 ?_
  refine lv_iload_n C.1 C.2.1 dX8_mayBe_5 rfl (lv_at hl 1 rfl) ?_
  refine fr_imul C dX8_mayBe_6 ?_
  refine lv_iload_n C.1 C.2.1 dX8_mayBe_7 rfl (lv_at hl 2 rfl) ?_
  refine fr_iadd C dX8_mayBe_8 ?_
  obtain ⟨hb_1, hw⟩ := hw
  refine fr_iald C G 61 16 (hL _ (by omega)) rfl ⟨by decide, by decide⟩ hb_1 dX8_mayBe_9 ?_
  refine fr_nm (fun v4_2 ev4_2 => ?_)
  have hw := hw v4_2 ev4_2
  refine lv_istore (lv' := [(4, .int (iI v4_2)), (0, .ref (ad 60)), (1, .int (iI a1)), (2, .int (iI a2)), (3, .int (iI a3))]) C.1 C.2.1 dX8_mayBe_10 hl (by decide) rfl (fun ls hl => ?_)
  refine lv_iload_n C.1 C.2.1 dX8_mayBe_12 rfl (lv_at hl 4 rfl) ?_
  refine lv_iload C.1 C.2.1 dX8_mayBe_13 (lv_at hl 0 rfl) ?_
  obtain ⟨hc_8, hw⟩ := hw
  refine fr_eq (tgt := 32) C dX8_mayBe_15 (by decide) hc_8 (fun q_3 => ?_) (fun q_3 => ?_)
  · have hw := if_p hw q_3
    refine fr_ic C dX8_mayBe_32 ?_
    refine lv_goto (tgt := 37) C.1 C.2.1 dX8_mayBe_33 (by decide) ?_
    exact fr_zret C G hr hlk (by decide) hw dX8_mayBe_37
  · have hw := if_n hw q_3
    refine lv_iload_n C.1 C.2.1 dX8_mayBe_18 rfl (lv_at hl 4 rfl) ?_
    refine lv_iload C.1 C.2.1 dX8_mayBe_19 (lv_at hl 0 rfl) ?_
    obtain ⟨hc_7, hw⟩ := hw
    refine fr_ge (tgt := 36) C dX8_mayBe_21 (by decide) hc_7 (fun q_4 => ?_) (fun q_4 => ?_)
    · have hw := if_p hw q_4
      refine fr_ic C dX8_mayBe_36 ?_
      exact fr_zret C G hr hlk (by decide) hw dX8_mayBe_37
    · have hw := if_n hw q_4
      refine lv_iload_n C.1 C.2.1 dX8_mayBe_24 rfl (lv_at hl 4 rfl) ?_
      refine lv_aload_n C.1 C.2.1 dX8_mayBe_25 rfl (lv_at hl 1 rfl) ?_
      refine fr_get C G 60 (hL _ (by omega)) (cl_60 _) rfl iw_X8_mayBe_X8 2 (by decide) fl_X8_mayBe_13 rfl dX8_mayBe_26 ?_
      obtain ⟨hc_6, hw⟩ := hw
      refine fr_lt (tgt := 36) C dX8_mayBe_29 (by decide) hc_6 (fun q_5 => ?_) (fun q_5 => ?_)
      · have hw := if_p hw q_5
        refine fr_ic C dX8_mayBe_36 ?_
        exact fr_zret C G hr hlk (by decide) hw dX8_mayBe_37
      · have hw := if_n hw q_5
        refine fr_ic C dX8_mayBe_32 ?_
        refine lv_goto (tgt := 37) C.1 C.2.1 dX8_mayBe_33 (by decide) ?_
        exact fr_zret C G hr hlk (by decide) hw dX8_mayBe_37
