def w_X7_span (a1 a2 a3 : Int) (x : Mm) (post : Int → Mm → Prop) : Prop :=
  w_X7_isPlate a1 x (fun z_2 x_1 => rg z_2 ∧ (if z_2 = 0 then (post (-2) x_1) else (w_X7_isTone a2 x_1 (fun z_5 x_4 => rg z_5 ∧ (if z_5 = 0 then (post (-2) x_4) else (w_X7_isOneOfTwo a3 x_4 (fun z_8 x_7 => rg z_8 ∧ (if z_8 = 0 then (post (-2) x_7) else (rg (x_7 2 4) ∧ (if (x_7 2 4) = 0 then (post (-3) x_7) else ((0 ≤ a1 ∧ a1 < 4) ∧ w_X5_fillWholeValues 18 (20 + 3 * (a1).toNat + 1) a2 x_7 (fun x_12 => rg a3 ∧ (if a3 = 0 then (w_X2_leastTone 18 x_12 (fun z_17 x_16 => post z_17 x_16)) else (w_X2_greatestTone 18 x_12 (fun z_15 x_14 => post z_15 x_14)))))))))))))))
abbrev rm_X7_span : Room := { frames := 4, cells := 0, slots := 0, locals := 107 }
theorem iw_X7_span_X7 : ∀ w ∈ u_ws RX7 TX7 10, w ∈ wsX7_span := by decide +kernel
theorem fl_X7_span_18 : Cond.fieldLink RX7 18 (TX7 1).1 (TX7 1).2.1 (TX7 1).2.2.1 ∈ wsX7_span := by decide +kernel
theorem iw_X7_span_X2 : ∀ w ∈ u_ws RX2 TX2 7, w ∈ wsX7_span := by decide +kernel
theorem fl_X7_span_134 : Cond.fieldLink RX7 134 (TX2 4).1 (TX2 4).2.1 (TX2 4).2.2.1 ∈ wsX7_span := by decide +kernel
theorem fl_X7_span_43 : Cond.fieldLink RX7 43 (TX7 5).1 (TX7 5).2.1 (TX7 5).2.2.1 ∈ wsX7_span := by decide +kernel
theorem fl_X7_span_11 : Cond.fieldLink RX7 11 (TX7 0).1 (TX7 0).2.1 (TX7 0).2.2.1 ∈ wsX7_span := by decide +kernel
theorem iw_X7_span_X4 : ∀ w ∈ u_ws RX4 TX4 3, w ∈ wsX7_span := by decide +kernel
theorem fl_X7_span_75 : Cond.fieldLink RX7 75 (TX4 0).1 (TX4 0).2.1 (TX4 0).2.2.1 ∈ wsX7_span := by decide +kernel
set_option maxHeartbeats 4000000 in
set_option maxRecDepth 100000 in
theorem c_X7_span (l : Launch) (D : va_G) (cy : Nat → ClassId) (L : List Nat) (ad : Nat → Nat) (sz : Nat) (hL : fLA L) (a1 a2 a3 : Int) (x : Mm) (post : Int → Mm → Prop) (hw : w_X7_span a1 a2 a3 x post) : fMi l yX7_span wsX7_span rm_X7_span [.ref (ad 0), .int (iI a1), .int (iI a2), .int (iI a3)] D cy L ad sz x post := by
  refine Met.ofW (cc := cX7_span) (maxL := 4) (ret := (some .int)) (by decide) rfl ?_
  intro p e s m args below meth c s₁ B hml hv
  obtain ⟨hargs, hp⟩ := hv
  obtain ⟨C, hr, hlk, hsz, G⟩ := fr_start B hml hp
  subst hsz
  obtain ⟨ls, els, hl⟩ := fr_entry (m := m) (n := 4) hargs (Nat.le_of_ble_eq_true rfl)
  rw [els]
  have hl : lv_has ls 4 [(0, .ref (ad 0)), (1, .int (iI a1)), (2, .int (iI a2)), (3, .int (iI a3))] := hl
  clear els hargs hp B
  refine lv_aload_n C.1 C.2.1 dX7_span_0 rfl (lv_at hl 0 rfl) ?_
  refine lv_iload_n C.1 C.2.1 dX7_span_1 rfl (lv_at hl 1 rfl) ?_
  refine fr_Vi C G (c_X7_isPlate l D cy L ad _ hL a1 x _ hw) (cwV 1 C.2.2.2.2 gX7_span_X7_isPlate rfl rfl rfl (by decide +kernel) ⟨Nat.le_of_ble_eq_true rfl, Nat.le_of_ble_eq_true rfl⟩) (G.recv (hL _ (by omega)) (cl_0 _) rfl) rfl hl.1 rfl (Nat.le_of_ble_eq_true rfl) dX7_span_2 ⟨Nat.zero_le _, Nat.zero_le _⟩ (fun z_2 x_1 H locs hw G => ?_)
  obtain ⟨hc_22, hw⟩ := hw
  refine fr_eq0 (tgt := 22) C dX7_span_5 (by decide) hc_22 (fun q_3 => ?_) (fun q_3 => ?_)
  · have hw := if_p hw q_3
    refine fr_bi C dX7_span_22 rfl ?_
    exact fr_iret C G hr hlk hw dX7_span_24
  · have hw := if_n hw q_3
    refine lv_iload_n C.1 C.2.1 dX7_span_8 rfl (lv_at hl 2 rfl) ?_
    refine fr_Si C G (c_X7_isTone l D cy L ad _ a2 x_1 _ hw) (va_cwS 1 C.2.2.2.2 gX7_span_X7_isTone rfl rfl rfl (by decide +kernel) ⟨Nat.le_of_ble_eq_true rfl, Nat.le_of_ble_eq_true rfl⟩) rfl hl.1 rfl (Nat.le_of_ble_eq_true rfl) dX7_span_9 ⟨Nat.zero_le _, Nat.zero_le _⟩ (fun z_5 x_4 H locs hw G => ?_)
    obtain ⟨hc_21, hw⟩ := hw
    refine fr_eq0 (tgt := 22) C dX7_span_12 (by decide) hc_21 (fun q_6 => ?_) (fun q_6 => ?_)
    · have hw := if_p hw q_6
      refine fr_bi C dX7_span_22 rfl ?_
      exact fr_iret C G hr hlk hw dX7_span_24
    · have hw := if_n hw q_6
      refine lv_iload_n C.1 C.2.1 dX7_span_15 rfl (lv_at hl 3 rfl) ?_
      refine fr_Si C G (c_X7_isOneOfTwo l D cy L ad _ a3 x_4 _ hw) (va_cwS 1 C.2.2.2.2 gX7_span_X7_isOneOfTwo rfl rfl rfl (by decide +kernel) ⟨Nat.le_of_ble_eq_true rfl, Nat.le_of_ble_eq_true rfl⟩) rfl hl.1 rfl (Nat.le_of_ble_eq_true rfl) dX7_span_16 ⟨Nat.zero_le _, Nat.zero_le _⟩ (fun z_8 x_7 H locs hw G => ?_)
      obtain ⟨hc_20, hw⟩ := hw
      refine fr_ne0 (tgt := 25) C dX7_span_19 (by decide) hc_20 (fun q_9 => ?_) (fun q_9 => ?_)
      · have hw := if_p hw q_9
        refine fr_bi C dX7_span_22 rfl ?_
        exact fr_iret C G hr hlk hw dX7_span_24
      · have hw := if_n hw q_9
        refine lv_aload_n C.1 C.2.1 dX7_span_25 rfl (lv_at hl 0 rfl) ?_
        refine fr_get C G 0 (hL _ (by omega)) (cl_0 _) rfl iw_X7_span_X7 1 (by decide) fl_X7_span_18 rfl dX7_span_26 ?_
        refine fr_get C G 2 (hL _ (by omega)) (cl_2 _) rfl iw_X7_span_X2 4 (by decide) fl_X7_span_134 rfl dX7_span_29 ?_
        obtain ⟨hc_19, hw⟩ := hw
        refine fr_ne0 (tgt := 38) C dX7_span_32 (by decide) hc_19 (fun q_10 => ?_) (fun q_10 => ?_)
        · have hw := if_p hw q_10
          refine fr_bi C dX7_span_35 rfl ?_
          exact fr_iret C G hr hlk hw dX7_span_37
        · have hw := if_n hw q_10
          refine lv_aload_n C.1 C.2.1 dX7_span_38 rfl (lv_at hl 0 rfl) ?_
          refine fr_get C G 0 (hL _ (by omega)) (cl_0 _) rfl iw_X7_span_X7 5 (by decide) fl_X7_span_43 rfl dX7_span_39 ?_
          refine lv_aload_n C.1 C.2.1 dX7_span_42 rfl (lv_at hl 0 rfl) ?_
          refine fr_get C G 0 (hL _ (by omega)) (cl_0 _) rfl iw_X7_span_X7 0 (by decide) fl_X7_span_11 rfl dX7_span_43 ?_
          refine lv_iload_n C.1 C.2.1 dX7_span_46 rfl (lv_at hl 1 rfl) ?_
          obtain ⟨hb_11, hw⟩ := hw
          refine fr_apl C G (hL _ (by omega)) hb_11 dX7_span_47 ?_
          refine fr_get C G (20 + 3 * (a1).toNat) (hL _ (by omega)) (cell_pl _ (by omega)) rfl iw_X7_span_X4 0 (by decide) fl_X7_span_75 rfl dX7_span_48 ?_
          refine lv_iload_n C.1 C.2.1 dX7_span_51 rfl (lv_at hl 2 rfl) ?_
          refine fr_Sv C G (c_X5_fillWholeValues l D cy L ad _ 18 (hL _ (by omega)) rfl (20 + 3 * (a1).toNat + 1) (hL _ (by omega)) ((al_pl _ (by omega)).2.1) a2 x_7 _ hw) (va_cwS 3 C.2.2.2.2 gX7_span_X5_fillWholeValues rfl rfl rfl (by decide +kernel) ⟨Nat.le_of_ble_eq_true rfl, Nat.le_of_ble_eq_true rfl⟩) rfl hl.1 rfl (Nat.le_of_ble_eq_true rfl) dX7_span_52 ⟨Nat.zero_le _, Nat.zero_le _⟩ (fun x_12 H locs hw G => ?_)
          refine lv_iload_n C.1 C.2.1 dX7_span_55 rfl (lv_at hl 3 rfl) ?_
          obtain ⟨hc_18, hw⟩ := hw
          refine fr_ne0 (tgt := 73) C dX7_span_56 (by decide) hc_18 (fun q_13 => ?_) (fun q_13 => ?_)
          · have hw := if_p hw q_13
            refine lv_aload_n C.1 C.2.1 dX7_span_59 rfl (lv_at hl 0 rfl) ?_
            refine fr_get C G 0 (hL _ (by omega)) (cl_0 _) rfl iw_X7_span_X7 1 (by decide) fl_X7_span_18 rfl dX7_span_60 ?_
            refine lv_aload_n C.1 C.2.1 dX7_span_63 rfl (lv_at hl 0 rfl) ?_
            refine fr_get C G 0 (hL _ (by omega)) (cl_0 _) rfl iw_X7_span_X7 5 (by decide) fl_X7_span_43 rfl dX7_span_64 ?_
            refine fr_Vi C G (c_X2_leastTone l D cy L ad _ (fLA.h hL) 18 (hL _ (by omega)) rfl x_12 _ hw) (cwV 1 C.2.2.2.2 gX7_span_X2_leastTone rfl rfl rfl (by decide +kernel) ⟨Nat.le_of_ble_eq_true rfl, Nat.le_of_ble_eq_true rfl⟩) (G.recv (hL _ (by omega)) (cl_2 _) rfl) rfl hl.1 rfl (Nat.le_of_ble_eq_true rfl) dX7_span_67 ⟨Nat.zero_le _, Nat.zero_le _⟩ (fun z_17 x_16 H locs hw G => ?_)
            refine lv_goto (tgt := 84) C.1 C.2.1 dX7_span_70 (by decide) ?_
            exact fr_iret C G hr hlk hw dX7_span_84
          · have hw := if_n hw q_13
            refine lv_aload_n C.1 C.2.1 dX7_span_73 rfl (lv_at hl 0 rfl) ?_
            refine fr_get C G 0 (hL _ (by omega)) (cl_0 _) rfl iw_X7_span_X7 1 (by decide) fl_X7_span_18 rfl dX7_span_74 ?_
            refine lv_aload_n C.1 C.2.1 dX7_span_77 rfl (lv_at hl 0 rfl) ?_
            refine fr_get C G 0 (hL _ (by omega)) (cl_0 _) rfl iw_X7_span_X7 5 (by decide) fl_X7_span_43 rfl dX7_span_78 ?_
            refine fr_Vi C G (c_X2_greatestTone l D cy L ad _ (fLA.h hL) 18 (hL _ (by omega)) rfl x_12 _ hw) (cwV 1 C.2.2.2.2 gX7_span_X2_greatestTone rfl rfl rfl (by decide +kernel) ⟨Nat.le_of_ble_eq_true rfl, Nat.le_of_ble_eq_true rfl⟩) (G.recv (hL _ (by omega)) (cl_2 _) rfl) rfl hl.1 rfl (Nat.le_of_ble_eq_true rfl) dX7_span_81 ⟨Nat.zero_le _, Nat.zero_le _⟩ (fun z_15 x_14 H locs hw G => ?_)
            exact fr_iret C G hr hlk hw dX7_span_84
def wX_X7_next_47 (a2 : Int) (post : Int → Mm → Prop) (v3_9 : Int) (v4_10 : Int) (v5_11 : Int) (x_12 : Mm) : Prop :=
  rg a2 ∧ (if a2 = 0 then (post v3_9 x_12) else (post v4_10 x_12))
def wB_X7_next_47 (a1 : Int) (kx_47 bk_47 : Int → Int → Int → Mm → Prop) (v3_9 : Int) (v4_10 : Int) (v5_11 : Int) (x_12 : Mm) : Prop :=
  rg v5_11 ∧ (if 4 ≤ v5_11 then (kx_47 v3_9 v4_10 v5_11 x_12) else ((0 ≤ a1 ∧ a1 < 4) ∧ w_X5_fillWholeValues 18 (20 + 3 * (a1).toNat + 1) v5_11 x_12 (fun x_17 => w_X1_greatest 18 x_17 (fun z_19 x_18 => (rg z_19 ∧ rg v4_10) ∧ (if v4_10 ≤ z_19 then (∀ v5_21 : Int, v5_21 = v5_11 + 1 → bk_47 v3_9 v4_10 v5_21 x_18) else (∀ v5_22 : Int, v5_22 = v5_11 + 1 → bk_47 v5_11 z_19 v5_22 x_18))))))
def w_X7_next (a1 a2 : Int) (x : Mm) (post : Int → Mm → Prop) : Prop :=
  w_X7_isPlate a1 x (fun z_2 x_1 => rg z_2 ∧ (if z_2 = 0 then (post (-2) x_1) else (w_X7_isOneOfTwo a2 x_1 (fun z_5 x_4 => rg z_5 ∧ (if z_5 = 0 then (post (-2) x_4) else (rg (x_4 2 4) ∧ (if (x_4 2 4) = 0 then (post (-3) x_4) else (∀ v4_8 : Int, v4_8 = (x_4 2 4) + 1 → ∃ n : Nat, lk4 (wB_X7_next_47 a1 (wX_X7_next_47 a2 post)) n 0 v4_8 0 x_4))))))))
abbrev rm_X7_next : Room := { frames := 4, cells := 0, slots := 0, locals := 107 }
theorem iw_X7_next_X7 : ∀ w ∈ u_ws RX7 TX7 10, w ∈ wsX7_next := by decide +kernel
theorem fl_X7_next_18 : Cond.fieldLink RX7 18 (TX7 1).1 (TX7 1).2.1 (TX7 1).2.2.1 ∈ wsX7_next := by decide +kernel
theorem iw_X7_next_X2 : ∀ w ∈ u_ws RX2 TX2 7, w ∈ wsX7_next := by decide +kernel
theorem fl_X7_next_134 : Cond.fieldLink RX7 134 (TX2 4).1 (TX2 4).2.1 (TX2 4).2.2.1 ∈ wsX7_next := by decide +kernel
theorem fl_X7_next_43 : Cond.fieldLink RX7 43 (TX7 5).1 (TX7 5).2.1 (TX7 5).2.2.1 ∈ wsX7_next := by decide +kernel
theorem fl_X7_next_11 : Cond.fieldLink RX7 11 (TX7 0).1 (TX7 0).2.1 (TX7 0).2.2.1 ∈ wsX7_next := by decide +kernel
theorem iw_X7_next_X4 : ∀ w ∈ u_ws RX4 TX4 3, w ∈ wsX7_next := by decide +kernel
theorem fl_X7_next_75 : Cond.fieldLink RX7 75 (TX4 0).1 (TX4 0).2.1 (TX4 0).2.2.1 ∈ wsX7_next := by decide +kernel
theorem fl_X7_next_39 : Cond.fieldLink RX7 39 (TX7 4).1 (TX7 4).2.1 (TX7 4).2.2.1 ∈ wsX7_next := by decide +kernel
set_option maxHeartbeats 4000000 in
set_option maxRecDepth 100000 in
theorem c_X7_next (l : Launch) (D : va_G) (cy : Nat → ClassId) (L : List Nat) (ad : Nat → Nat) (sz : Nat) (hL : fLA L) (a1 a2 : Int) (x : Mm) (post : Int → Mm → Prop) (hw : w_X7_next a1 a2 x post) : fMi l yX7_next wsX7_next rm_X7_next [.ref (ad 0), .int (iI a1), .int (iI a2)] D cy L ad sz x post := by
  refine Met.ofW (cc := cX7_next) (maxL := 7) (ret := (some .int)) (by decide) rfl ?_
  intro p e s m args below meth c s₁ B hml hv
  obtain ⟨hargs, hp⟩ := hv
  obtain ⟨C, hr, hlk, hsz, G⟩ := fr_start B hml hp
  subst hsz
  obtain ⟨ls, els, hl⟩ := fr_entry (m := m) (n := 7) hargs (Nat.le_of_ble_eq_true rfl)
  rw [els]
  have hl : lv_has ls 7 [(0, .ref (ad 0)), (1, .int (iI a1)), (2, .int (iI a2))] := hl
  clear els hargs hp B
  refine lv_aload_n C.1 C.2.1 dX7_next_0 rfl (lv_at hl 0 rfl) ?_
  refine lv_iload_n C.1 C.2.1 dX7_next_1 rfl (lv_at hl 1 rfl) ?_
  refine fr_Vi C G (c_X7_isPlate l D cy L ad _ hL a1 x _ hw) (cwV 1 C.2.2.2.2 gX7_next_X7_isPlate rfl rfl rfl (by decide +kernel) ⟨Nat.le_of_ble_eq_true rfl, Nat.le_of_ble_eq_true rfl⟩) (G.recv (hL _ (by omega)) (cl_0 _) rfl) rfl hl.1 rfl (Nat.le_of_ble_eq_true rfl) dX7_next_2 ⟨Nat.zero_le _, Nat.zero_le _⟩ (fun z_2 x_1 H locs hw G => ?_)
  obtain ⟨hc_27, hw⟩ := hw
  refine fr_eq0 (tgt := 15) C dX7_next_5 (by decide) hc_27 (fun q_3 => ?_) (fun q_3 => ?_)
  · have hw := if_p hw q_3
    refine fr_bi C dX7_next_15 rfl ?_
    exact fr_iret C G hr hlk hw dX7_next_17
  · have hw := if_n hw q_3
    refine lv_iload_n C.1 C.2.1 dX7_next_8 rfl (lv_at hl 2 rfl) ?_
    refine fr_Si C G (c_X7_isOneOfTwo l D cy L ad _ a2 x_1 _ hw) (va_cwS 1 C.2.2.2.2 gX7_next_X7_isOneOfTwo rfl rfl rfl (by decide +kernel) ⟨Nat.le_of_ble_eq_true rfl, Nat.le_of_ble_eq_true rfl⟩) rfl hl.1 rfl (Nat.le_of_ble_eq_true rfl) dX7_next_9 ⟨Nat.zero_le _, Nat.zero_le _⟩ (fun z_5 x_4 H locs hw G => ?_)
    obtain ⟨hc_26, hw⟩ := hw
    refine fr_ne0 (tgt := 18) C dX7_next_12 (by decide) hc_26 (fun q_6 => ?_) (fun q_6 => ?_)
    · have hw := if_p hw q_6
      refine fr_bi C dX7_next_15 rfl ?_
      exact fr_iret C G hr hlk hw dX7_next_17
    · have hw := if_n hw q_6
      refine lv_aload_n C.1 C.2.1 dX7_next_18 rfl (lv_at hl 0 rfl) ?_
      refine fr_get C G 0 (hL _ (by omega)) (cl_0 _) rfl iw_X7_next_X7 1 (by decide) fl_X7_next_18 rfl dX7_next_19 ?_
      refine fr_get C G 2 (hL _ (by omega)) (cl_2 _) rfl iw_X7_next_X2 4 (by decide) fl_X7_next_134 rfl dX7_next_22 ?_
      obtain ⟨hc_25, hw⟩ := hw
      refine fr_ne0 (tgt := 31) C dX7_next_25 (by decide) hc_25 (fun q_7 => ?_) (fun q_7 => ?_)
      · have hw := if_p hw q_7
        refine fr_bi C dX7_next_28 rfl ?_
        exact fr_iret C G hr hlk hw dX7_next_30
      · have hw := if_n hw q_7
        refine fr_ic C dX7_next_31 ?_
        refine lv_istore_n (lv' := [(3, .int (iI 0)), (0, .ref (ad 0)), (1, .int (iI a1)), (2, .int (iI a2))]) C.1 C.2.1 dX7_next_32 rfl hl (by decide) rfl (fun ls hl => ?_)
        refine lv_aload_n C.1 C.2.1 dX7_next_33 rfl (lv_at hl 1 rfl) ?_
        refine fr_get C G 0 (hL _ (by omega)) (cl_0 _) rfl iw_X7_next_X7 1 (by decide) fl_X7_next_18 rfl dX7_next_34 ?_
        refine fr_get C G 2 (hL _ (by omega)) (cl_2 _) rfl iw_X7_next_X2 4 (by decide) fl_X7_next_134 rfl dX7_next_37 ?_
        refine fr_ic C dX7_next_40 ?_
        refine fr_iadd C dX7_next_41 ?_
        refine fr_nm (fun v4_8 ev4_8 => ?_)
        have hw := hw v4_8 ev4_8
        refine lv_istore (lv' := [(4, .int (iI v4_8)), (3, .int (iI 0)), (0, .ref (ad 0)), (1, .int (iI a1)), (2, .int (iI a2))]) C.1 C.2.1 dX7_next_42 hl (by decide) rfl (fun ls hl => ?_)
        refine fr_ic C dX7_next_44 ?_
        refine lv_istore (lv' := [(5, .int (iI 0)), (4, .int (iI v4_8)), (3, .int (iI 0)), (0, .ref (ad 0)), (1, .int (iI a1)), (2, .int (iI a2))]) C.1 C.2.1 dX7_next_45 hl (by decide) rfl (fun ls hl => ?_)
        obtain ⟨n47, hw⟩ := hw
        have hS47 : ∀ (kx_47 bk_47 : Int → Int → Int → Mm → Prop), (∀ (v3_9 : Int) (v4_10 : Int) (v5_11 : Int) (x_12 : Mm) (H : Heap) (locs : List Loc) (ls : Array Slot), kx_47 v3_9 v4_10 v5_11 x_12 → fG D cy L ad (fAr L ad s.heap.size) s x_12 H locs → lv_has ls 7 [(0, .ref (ad 0)), (1, .int (iI a1)), (2, .int (iI a2)), (3, .int (iI v3_9)), (4, .int (iI v4_10)), (5, .int (iI v5_11))] → W p l e (headSpec wsX7_next rm_X7_next).room s m args below meth c H locs 0 0 (fQi below D cy L ad s args post) (F0 m 108 ls [])) → (∀ (v3_9 : Int) (v4_10 : Int) (v5_11 : Int) (x_12 : Mm) (H : Heap) (locs : List Loc) (ls : Array Slot), bk_47 v3_9 v4_10 v5_11 x_12 → fG D cy L ad (fAr L ad s.heap.size) s x_12 H locs → lv_has ls 7 [(0, .ref (ad 0)), (1, .int (iI a1)), (2, .int (iI a2)), (3, .int (iI v3_9)), (4, .int (iI v4_10)), (5, .int (iI v5_11))] → W p l e (headSpec wsX7_next rm_X7_next).room s m args below meth c H locs 0 0 (fQi below D cy L ad s args post) (F0 m 47 ls [])) → ∀ (v3_9 : Int) (v4_10 : Int) (v5_11 : Int) (x_12 : Mm) (H : Heap) (locs : List Loc) (ls : Array Slot), wB_X7_next_47 a1 kx_47 bk_47 v3_9 v4_10 v5_11 x_12 → fG D cy L ad (fAr L ad s.heap.size) s x_12 H locs → lv_has ls 7 [(0, .ref (ad 0)), (1, .int (iI a1)), (2, .int (iI a2)), (3, .int (iI v3_9)), (4, .int (iI v4_10)), (5, .int (iI v5_11))] → W p l e (headSpec wsX7_next rm_X7_next).room s m args below meth c H locs 0 0 (fQi below D cy L ad s args post) (F0 m 47 ls []) := by
          intro kx_47 bk_47 hX47 ih47 v3_9 v4_10 v5_11 x_12 H locs ls hw G hl
          refine lv_iload C.1 C.2.1 dX7_next_47 (lv_at hl 5 rfl) ?_
          refine fr_ic C dX7_next_49 ?_
          obtain ⟨hc_24, hw⟩ := hw
          refine fr_ge (tgt := 108) C dX7_next_50 (by decide) ⟨hc_24, ⟨by decide, by decide⟩⟩ (fun q_15 => ?_) (fun q_15 => ?_)
          · have hw := if_p hw q_15
            exact hX47 v3_9 v4_10 v5_11 x_12 _ _ _ hw G (lv_sub hl [0, 1, 2, 3, 4, 5] rfl)
          · have hw := if_n hw q_15
            refine lv_aload_n C.1 C.2.1 dX7_next_53 rfl (lv_at hl 0 rfl) ?_
            refine fr_get C G 0 (hL _ (by omega)) (cl_0 _) rfl iw_X7_next_X7 5 (by decide) fl_X7_next_43 rfl dX7_next_54 ?_
            refine lv_aload_n C.1 C.2.1 dX7_next_57 rfl (lv_at hl 0 rfl) ?_
            refine fr_get C G 0 (hL _ (by omega)) (cl_0 _) rfl iw_X7_next_X7 0 (by decide) fl_X7_next_11 rfl dX7_next_58 ?_
            refine lv_iload_n C.1 C.2.1 dX7_next_61 rfl (lv_at hl 1 rfl) ?_
            obtain ⟨hb_16, hw⟩ := hw
            refine fr_apl C G (hL _ (by omega)) hb_16 dX7_next_62 ?_
            refine fr_get C G (20 + 3 * (a1).toNat) (hL _ (by omega)) (cell_pl _ (by omega)) rfl iw_X7_next_X4 0 (by decide) fl_X7_next_75 rfl dX7_next_63 ?_
            refine lv_iload C.1 C.2.1 dX7_next_66 (lv_at hl 5 rfl) ?_
            refine fr_Sv C G (c_X5_fillWholeValues l D cy L ad _ 18 (hL _ (by omega)) rfl (20 + 3 * (a1).toNat + 1) (hL _ (by omega)) ((al_pl _ (by omega)).2.1) v5_11 x_12 _ hw) (va_cwS 3 C.2.2.2.2 gX7_next_X5_fillWholeValues rfl rfl rfl (by decide +kernel) ⟨Nat.le_of_ble_eq_true rfl, Nat.le_of_ble_eq_true rfl⟩) rfl hl.1 rfl (Nat.le_of_ble_eq_true rfl) dX7_next_68 ⟨Nat.zero_le _, Nat.zero_le _⟩ (fun x_17 H locs hw G => ?_)
            refine lv_aload_n C.1 C.2.1 dX7_next_71 rfl (lv_at hl 0 rfl) ?_
            refine fr_get C G 0 (hL _ (by omega)) (cl_0 _) rfl iw_X7_next_X7 4 (by decide) fl_X7_next_39 rfl dX7_next_72 ?_
            refine lv_aload_n C.1 C.2.1 dX7_next_75 rfl (lv_at hl 0 rfl) ?_
            refine fr_get C G 0 (hL _ (by omega)) (cl_0 _) rfl iw_X7_next_X7 1 (by decide) fl_X7_next_18 rfl dX7_next_76 ?_
            refine lv_aload_n C.1 C.2.1 dX7_next_79 rfl (lv_at hl 0 rfl) ?_
            refine fr_get C G 0 (hL _ (by omega)) (cl_0 _) rfl iw_X7_next_X7 5 (by decide) fl_X7_next_43 rfl dX7_next_80 ?_
            refine fr_Vi C G (c_X1_greatest l D cy L ad _ hL 18 (hL _ (by omega)) rfl x_17 _ hw) (cwV 2 C.2.2.2.2 gX7_next_X1_greatest rfl rfl rfl (by decide +kernel) ⟨Nat.le_of_ble_eq_true rfl, Nat.le_of_ble_eq_true rfl⟩) (G.recv (hL _ (by omega)) (cl_16 _) rfl) rfl hl.1 rfl (Nat.le_of_ble_eq_true rfl) dX7_next_83 ⟨Nat.zero_le _, Nat.zero_le _⟩ (fun z_19 x_18 H locs hw G => ?_)
            refine lv_istore (lv' := [(6, .int (iI z_19)), (0, .ref (ad 0)), (1, .int (iI a1)), (2, .int (iI a2)), (3, .int (iI v3_9)), (4, .int (iI v4_10)), (5, .int (iI v5_11))]) C.1 C.2.1 dX7_next_86 hl (by decide) rfl (fun ls hl => ?_)
            refine lv_iload C.1 C.2.1 dX7_next_88 (lv_at hl 0 rfl) ?_
            refine lv_iload C.1 C.2.1 dX7_next_90 (lv_at hl 5 rfl) ?_
            obtain ⟨hc_23, hw⟩ := hw
            refine fr_ge (tgt := 102) C dX7_next_92 (by decide) hc_23 (fun q_20 => ?_) (fun q_20 => ?_)
            · have hw := if_p hw q_20
              obtain ⟨v5_21, ev5_21⟩ : ∃ z : Int, z = v5_11 + 1 := ⟨_, rfl⟩
              have hw := hw v5_21 ev5_21
              refine lv_iinc (v := iI v5_21) (lv' := [(5, .int (iI v5_21)), (6, .int (iI z_19)), (0, .ref (ad 0)), (1, .int (iI a1)), (2, .int (iI a2)), (3, .int (iI v3_9)), (4, .int (iI v4_10))]) C.1 C.2.1 dX7_next_102 hl (k := 6) rfl (by rw [ev5_21]; exact iI_add _ _) (by decide) rfl (fun ls hl => ?_)
              refine lv_goto (tgt := 47) C.1 C.2.1 dX7_next_105 (by decide) ?_
              exact ih47 v3_9 v4_10 v5_21 x_18 _ _ _ hw G (lv_sub hl [2, 3, 4, 5, 6, 0] rfl)
            · have hw := if_n hw q_20
              refine lv_iload C.1 C.2.1 dX7_next_95 (lv_at hl 0 rfl) ?_
              refine lv_istore (lv' := [(4, .int (iI z_19)), (6, .int (iI z_19)), (0, .ref (ad 0)), (1, .int (iI a1)), (2, .int (iI a2)), (3, .int (iI v3_9)), (5, .int (iI v5_11))]) C.1 C.2.1 dX7_next_97 hl (by decide) rfl (fun ls hl => ?_)
              refine lv_iload C.1 C.2.1 dX7_next_99 (lv_at hl 6 rfl) ?_
              refine lv_istore_n (lv' := [(3, .int (iI v5_11)), (4, .int (iI z_19)), (6, .int (iI z_19)), (0, .ref (ad 0)), (1, .int (iI a1)), (2, .int (iI a2)), (5, .int (iI v5_11))]) C.1 C.2.1 dX7_next_101 rfl hl (by decide) rfl (fun ls hl => ?_)
              obtain ⟨v5_22, ev5_22⟩ : ∃ z : Int, z = v5_11 + 1 := ⟨_, rfl⟩
              have hw := hw v5_22 ev5_22
              refine lv_iinc (v := iI v5_22) (lv' := [(5, .int (iI v5_22)), (3, .int (iI v5_11)), (4, .int (iI z_19)), (6, .int (iI z_19)), (0, .ref (ad 0)), (1, .int (iI a1)), (2, .int (iI a2))]) C.1 C.2.1 dX7_next_102 hl (k := 6) rfl (by rw [ev5_22]; exact iI_add _ _) (by decide) rfl (fun ls hl => ?_)
              refine lv_goto (tgt := 47) C.1 C.2.1 dX7_next_105 (by decide) ?_
              exact ih47 v5_11 z_19 v5_22 x_18 _ _ _ hw G (lv_sub hl [4, 5, 6, 1, 2, 0] rfl)
        have hX47 : ∀ (v3_9 : Int) (v4_10 : Int) (v5_11 : Int) (x_12 : Mm) (H : Heap) (locs : List Loc) (ls : Array Slot), wX_X7_next_47 a2 post v3_9 v4_10 v5_11 x_12 → fG D cy L ad (fAr L ad s.heap.size) s x_12 H locs → lv_has ls 7 [(0, .ref (ad 0)), (1, .int (iI a1)), (2, .int (iI a2)), (3, .int (iI v3_9)), (4, .int (iI v4_10)), (5, .int (iI v5_11))] → W p l e (headSpec wsX7_next rm_X7_next).room s m args below meth c H locs 0 0 (fQi below D cy L ad s args post) (F0 m 108 ls []) := by
          intro v3_9 v4_10 v5_11 x_12 H locs ls hw G hl
          refine lv_iload_n C.1 C.2.1 dX7_next_108 rfl (lv_at hl 2 rfl) ?_
          obtain ⟨hc_14, hw⟩ := hw
          refine fr_ne0 (tgt := 116) C dX7_next_109 (by decide) hc_14 (fun q_13 => ?_) (fun q_13 => ?_)
          · have hw := if_p hw q_13
            refine lv_iload_n C.1 C.2.1 dX7_next_112 rfl (lv_at hl 3 rfl) ?_
            refine lv_goto (tgt := 118) C.1 C.2.1 dX7_next_113 (by decide) ?_
            exact fr_iret C G hr hlk hw dX7_next_118
          · have hw := if_n hw q_13
            refine lv_iload C.1 C.2.1 dX7_next_116 (lv_at hl 4 rfl) ?_
            exact fr_iret C G hr hlk hw dX7_next_118
        have hB47 : ∀ (n : Nat) (v3_9 : Int) (v4_10 : Int) (v5_11 : Int) (x_12 : Mm) (H : Heap) (locs : List Loc) (ls : Array Slot), lk4 (wB_X7_next_47 a1 (wX_X7_next_47 a2 post)) n v3_9 v4_10 v5_11 x_12 → fG D cy L ad (fAr L ad s.heap.size) s x_12 H locs → lv_has ls 7 [(0, .ref (ad 0)), (1, .int (iI a1)), (2, .int (iI a2)), (3, .int (iI v3_9)), (4, .int (iI v4_10)), (5, .int (iI v5_11))] → W p l e (headSpec wsX7_next rm_X7_next).room s m args below meth c H locs 0 0 (fQi below D cy L ad s args post) (F0 m 47 ls []) := by
          intro n
          induction n with
          | zero =>
            intro v3_9 v4_10 v5_11 x_12 H locs ls hw
            exact hw.elim
          | succ n ih =>
            intro v3_9 v4_10 v5_11 x_12 H locs ls hw G hl
            exact hS47 _ _ hX47 ih v3_9 v4_10 v5_11 x_12 H locs ls hw G hl
        exact hB47 n47 0 v4_8 0 x_4 _ _ _ hw G (lv_sub hl [3, 4, 5, 2, 1, 0] rfl)
def w_X7_aim (a1 a2 a3 : Int) (x : Mm) (post : Int → Mm → Prop) : Prop :=
  w_X7_isTone a1 x (fun z_2 x_1 => rg z_2 ∧ (if z_2 = 0 then (post (-2) x_1) else (w_X7_isSpan a2 a3 x_1 (fun z_5 x_4 => rg z_5 ∧ (if z_5 = 0 then (post (-2) x_4) else (w_X0_put a1 a2 a3 x_4 (fun x_7 => w_X3_forget x_7 (fun x_8 => post 1 x_8))))))))
abbrev rm_X7_aim : Room := { frames := 2, cells := 0, slots := 0, locals := 43 }
theorem iw_X7_aim_X7 : ∀ w ∈ u_ws RX7 TX7 10, w ∈ wsX7_aim := by decide +kernel
theorem fl_X7_aim_25 : Cond.fieldLink RX7 25 (TX7 2).1 (TX7 2).2.1 (TX7 2).2.2.1 ∈ wsX7_aim := by decide +kernel
theorem fl_X7_aim_32 : Cond.fieldLink RX7 32 (TX7 3).1 (TX7 3).2.1 (TX7 3).2.2.1 ∈ wsX7_aim := by decide +kernel
set_option maxHeartbeats 4000000 in
set_option maxRecDepth 100000 in
theorem c_X7_aim (l : Launch) (D : va_G) (cy : Nat → ClassId) (L : List Nat) (ad : Nat → Nat) (sz : Nat) (hL : fLA L) (a1 a2 a3 : Int) (x : Mm) (post : Int → Mm → Prop) (hw : w_X7_aim a1 a2 a3 x post) : fMi l yX7_aim wsX7_aim rm_X7_aim [.ref (ad 0), .int (iI a1), .int (iI a2), .int (iI a3)] D cy L ad sz x post := by
  refine Met.ofW (cc := cX7_aim) (maxL := 4) (ret := (some .int)) (by decide) rfl ?_
  intro p e s m args below meth c s₁ B hml hv
  obtain ⟨hargs, hp⟩ := hv
  obtain ⟨C, hr, hlk, hsz, G⟩ := fr_start B hml hp
  subst hsz
  obtain ⟨ls, els, hl⟩ := fr_entry (m := m) (n := 4) hargs (Nat.le_of_ble_eq_true rfl)
  rw [els]
  have hl : lv_has ls 4 [(0, .ref (ad 0)), (1, .int (iI a1)), (2, .int (iI a2)), (3, .int (iI a3))] := hl
  clear els hargs hp B
  refine lv_iload_n C.1 C.2.1 dX7_aim_0 rfl (lv_at hl 1 rfl) ?_
  refine fr_Si C G (c_X7_isTone l D cy L ad _ a1 x _ hw) (va_cwS 1 C.2.2.2.2 gX7_aim_X7_isTone rfl rfl rfl (by decide +kernel) ⟨Nat.le_of_ble_eq_true rfl, Nat.le_of_ble_eq_true rfl⟩) rfl hl.1 rfl (Nat.le_of_ble_eq_true rfl) dX7_aim_1 ⟨Nat.zero_le _, Nat.zero_le _⟩ (fun z_2 x_1 H locs hw G => ?_)
  obtain ⟨hc_10, hw⟩ := hw
  refine fr_eq0 (tgt := 15) C dX7_aim_4 (by decide) hc_10 (fun q_3 => ?_) (fun q_3 => ?_)
  · have hw := if_p hw q_3
    refine fr_bi C dX7_aim_15 rfl ?_
    exact fr_iret C G hr hlk hw dX7_aim_17
  · have hw := if_n hw q_3
    refine lv_iload_n C.1 C.2.1 dX7_aim_7 rfl (lv_at hl 2 rfl) ?_
    refine lv_iload_n C.1 C.2.1 dX7_aim_8 rfl (lv_at hl 3 rfl) ?_
    refine fr_Si C G (c_X7_isSpan l D cy L ad _ a2 a3 x_1 _ hw) (va_cwS 2 C.2.2.2.2 gX7_aim_X7_isSpan rfl rfl rfl (by decide +kernel) ⟨Nat.le_of_ble_eq_true rfl, Nat.le_of_ble_eq_true rfl⟩) rfl hl.1 rfl (Nat.le_of_ble_eq_true rfl) dX7_aim_9 ⟨Nat.zero_le _, Nat.zero_le _⟩ (fun z_5 x_4 H locs hw G => ?_)
    obtain ⟨hc_9, hw⟩ := hw
    refine fr_ne0 (tgt := 18) C dX7_aim_12 (by decide) hc_9 (fun q_6 => ?_) (fun q_6 => ?_)
    · have hw := if_p hw q_6
      refine fr_bi C dX7_aim_15 rfl ?_
      exact fr_iret C G hr hlk hw dX7_aim_17
    · have hw := if_n hw q_6
      refine lv_aload_n C.1 C.2.1 dX7_aim_18 rfl (lv_at hl 0 rfl) ?_
      refine fr_get C G 0 (hL _ (by omega)) (cl_0 _) rfl iw_X7_aim_X7 2 (by decide) fl_X7_aim_25 rfl dX7_aim_19 ?_
      refine lv_iload_n C.1 C.2.1 dX7_aim_22 rfl (lv_at hl 1 rfl) ?_
      refine lv_iload_n C.1 C.2.1 dX7_aim_23 rfl (lv_at hl 2 rfl) ?_
      refine lv_iload_n C.1 C.2.1 dX7_aim_24 rfl (lv_at hl 3 rfl) ?_
      refine fr_Vv C G (c_X0_put l D cy L ad _ hL a1 a2 a3 x_4 _ hw) (cwV 3 C.2.2.2.2 gX7_aim_X0_put rfl rfl rfl (by decide +kernel) ⟨Nat.le_of_ble_eq_true rfl, Nat.le_of_ble_eq_true rfl⟩) (G.recv (hL _ (by omega)) (cl_8 _) rfl) rfl hl.1 rfl (Nat.le_of_ble_eq_true rfl) dX7_aim_25 ⟨Nat.zero_le _, Nat.zero_le _⟩ (fun x_7 H locs hw G => ?_)
      refine lv_aload_n C.1 C.2.1 dX7_aim_28 rfl (lv_at hl 0 rfl) ?_
      refine fr_get C G 0 (hL _ (by omega)) (cl_0 _) rfl iw_X7_aim_X7 3 (by decide) fl_X7_aim_32 rfl dX7_aim_29 ?_
      refine fr_Vv C G (c_X3_forget l D cy L ad _ hL x_7 _ hw) (cwV 0 C.2.2.2.2 gX7_aim_X3_forget rfl rfl rfl (by decide +kernel) ⟨Nat.le_of_ble_eq_true rfl, Nat.le_of_ble_eq_true rfl⟩) (G.recv (hL _ (by omega)) (cl_12 _) rfl) rfl hl.1 rfl (Nat.le_of_ble_eq_true rfl) dX7_aim_32 ⟨Nat.zero_le _, Nat.zero_le _⟩ (fun x_8 H locs hw G => ?_)
      refine fr_ic C dX7_aim_35 ?_
      exact fr_iret C G hr hlk hw dX7_aim_36
def w_X7_aimless (x : Mm) (post : Int → Mm → Prop) : Prop :=
  w_X0_spans x (fun z_2 x_1 => w_X0_clear x_1 (fun x_3 => w_X3_forget x_3 (fun x_4 => post z_2 x_4)))
abbrev rm_X7_aimless : Room := { frames := 1, cells := 0, slots := 0, locals := 22 }
theorem iw_X7_aimless_X7 : ∀ w ∈ u_ws RX7 TX7 10, w ∈ wsX7_aimless := by decide +kernel
theorem fl_X7_aimless_25 : Cond.fieldLink RX7 25 (TX7 2).1 (TX7 2).2.1 (TX7 2).2.2.1 ∈ wsX7_aimless := by decide +kernel
theorem fl_X7_aimless_32 : Cond.fieldLink RX7 32 (TX7 3).1 (TX7 3).2.1 (TX7 3).2.2.1 ∈ wsX7_aimless := by decide +kernel
set_option maxHeartbeats 4000000 in
set_option maxRecDepth 100000 in
theorem c_X7_aimless (l : Launch) (D : va_G) (cy : Nat → ClassId) (L : List Nat) (ad : Nat → Nat) (sz : Nat) (hL : fLA L) (x : Mm) (post : Int → Mm → Prop) (hw : w_X7_aimless x post) : fMi l yX7_aimless wsX7_aimless rm_X7_aimless [.ref (ad 0)] D cy L ad sz x post := by
  refine Met.ofW (cc := cX7_aimless) (maxL := 2) (ret := (some .int)) (by decide) rfl ?_
  intro p e s m args below meth c s₁ B hml hv
  obtain ⟨hargs, hp⟩ := hv
  obtain ⟨C, hr, hlk, hsz, G⟩ := fr_start B hml hp
  subst hsz
  obtain ⟨ls, els, hl⟩ := fr_entry (m := m) (n := 2) hargs (Nat.le_of_ble_eq_true rfl)
  rw [els]
  have hl : lv_has ls 2 [(0, .ref (ad 0))] := hl
  clear els hargs hp B
  refine lv_aload_n C.1 C.2.1 dX7_aimless_0 rfl (lv_at hl 0 rfl) ?_
  refine fr_get C G 0 (hL _ (by omega)) (cl_0 _) rfl iw_X7_aimless_X7 2 (by decide) fl_X7_aimless_25 rfl dX7_aimless_1 ?_
  refine fr_Vi C G (c_X0_spans l D cy L ad _ hL x _ hw) (cwV 0 C.2.2.2.2 gX7_aimless_X0_spans rfl rfl rfl (by decide +kernel) ⟨Nat.le_of_ble_eq_true rfl, Nat.le_of_ble_eq_true rfl⟩) (G.recv (hL _ (by omega)) (cl_8 _) rfl) rfl hl.1 rfl (Nat.le_of_ble_eq_true rfl) dX7_aimless_4 ⟨Nat.zero_le _, Nat.zero_le _⟩ (fun z_2 x_1 H locs hw G => ?_)
  refine lv_istore_n (lv' := [(1, .int (iI z_2)), (0, .ref (ad 0))]) C.1 C.2.1 dX7_aimless_7 rfl hl (by decide) rfl (fun ls hl => ?_)
  refine lv_aload_n C.1 C.2.1 dX7_aimless_8 rfl (lv_at hl 1 rfl) ?_
  refine fr_get C G 0 (hL _ (by omega)) (cl_0 _) rfl iw_X7_aimless_X7 2 (by decide) fl_X7_aimless_25 rfl dX7_aimless_9 ?_
  refine fr_Vv C G (c_X0_clear l D cy L ad _ hL x_1 _ hw) (cwV 0 C.2.2.2.2 gX7_aimless_X0_clear rfl rfl rfl (by decide +kernel) ⟨Nat.le_of_ble_eq_true rfl, Nat.le_of_ble_eq_true rfl⟩) (G.recv (hL _ (by omega)) (cl_8 _) rfl) rfl hl.1 rfl (Nat.le_of_ble_eq_true rfl) dX7_aimless_12 ⟨Nat.zero_le _, Nat.zero_le _⟩ (fun x_3 H locs hw G => ?_)
  refine lv_aload_n C.1 C.2.1 dX7_aimless_15 rfl (lv_at hl 1 rfl) ?_
  refine fr_get C G 0 (hL _ (by omega)) (cl_0 _) rfl iw_X7_aimless_X7 3 (by decide) fl_X7_aimless_32 rfl dX7_aimless_16 ?_
  refine fr_Vv C G (c_X3_forget l D cy L ad _ hL x_3 _ hw) (cwV 0 C.2.2.2.2 gX7_aimless_X3_forget rfl rfl rfl (by decide +kernel) ⟨Nat.le_of_ble_eq_true rfl, Nat.le_of_ble_eq_true rfl⟩) (G.recv (hL _ (by omega)) (cl_12 _) rfl) rfl hl.1 rfl (Nat.le_of_ble_eq_true rfl) dX7_aimless_19 ⟨Nat.zero_le _, Nat.zero_le _⟩ (fun x_4 H locs hw G => ?_)
  refine lv_iload_n C.1 C.2.1 dX7_aimless_22 rfl (lv_at hl 0 rfl) ?_
  exact fr_iret C G hr hlk hw dX7_aimless_23
def w_X7_makePlan (a1 : Int) (x : Mm) (post : Mm → Prop) : Prop :=
  (rg (x 12 4) ∧ rg a1) ∧ (if (x 12 4) = a1 then (post x) else ((0 ≤ a1 ∧ a1 < 4) ∧ w_X3_search (20 + 3 * (a1).toNat + 1) (x 0 8) x (fun x_3 => ∀ x_4 : Mm, x_4 = up2 x_3 12 4 a1 → post x_4)))
abbrev rm_X7_makePlan : Room := { frames := 5, cells := 0, slots := 0, locals := 140 }
theorem iw_X7_makePlan_X7 : ∀ w ∈ u_ws RX7 TX7 10, w ∈ wsX7_makePlan := by decide +kernel
theorem fl_X7_makePlan_32 : Cond.fieldLink RX7 32 (TX7 3).1 (TX7 3).2.1 (TX7 3).2.2.1 ∈ wsX7_makePlan := by decide +kernel
theorem iw_X7_makePlan_X3 : ∀ w ∈ u_ws RX3 TX3 5, w ∈ wsX7_makePlan := by decide +kernel
theorem fl_X7_makePlan_195 : Cond.fieldLink RX7 195 (TX3 4).1 (TX3 4).2.1 (TX3 4).2.2.1 ∈ wsX7_makePlan := by decide +kernel
theorem fl_X7_makePlan_11 : Cond.fieldLink RX7 11 (TX7 0).1 (TX7 0).2.1 (TX7 0).2.2.1 ∈ wsX7_makePlan := by decide +kernel
theorem iw_X7_makePlan_X4 : ∀ w ∈ u_ws RX4 TX4 3, w ∈ wsX7_makePlan := by decide +kernel
theorem fl_X7_makePlan_75 : Cond.fieldLink RX7 75 (TX4 0).1 (TX4 0).2.1 (TX4 0).2.2.1 ∈ wsX7_makePlan := by decide +kernel
theorem fl_X7_makePlan_54 : Cond.fieldLink RX7 54 (TX7 8).1 (TX7 8).2.1 (TX7 8).2.2.1 ∈ wsX7_makePlan := by decide +kernel
theorem fl_X7_makePlan_18 : Cond.fieldLink RX7 18 (TX7 1).1 (TX7 1).2.1 (TX7 1).2.2.1 ∈ wsX7_makePlan := by decide +kernel
theorem fl_X7_makePlan_25 : Cond.fieldLink RX7 25 (TX7 2).1 (TX7 2).2.1 (TX7 2).2.2.1 ∈ wsX7_makePlan := by decide +kernel
set_option maxHeartbeats 4000000 in
set_option maxRecDepth 100000 in
theorem c_X7_makePlan (l : Launch) (D : va_G) (cy : Nat → ClassId) (L : List Nat) (ad : Nat → Nat) (sz : Nat) (hL : fLA L) (a1 : Int) (x : Mm) (post : Mm → Prop) (hw : w_X7_makePlan a1 x post) : fMv l yX7_makePlan wsX7_makePlan rm_X7_makePlan [.ref (ad 0), .int (iI a1)] D cy L ad sz x post := by
  refine Met.ofW (cc := cX7_makePlan) (maxL := 2) (ret := none) (by decide) rfl ?_
  intro p e s m args below meth c s₁ B hml hv
  obtain ⟨hargs, hp⟩ := hv
  obtain ⟨C, hr, hlk, hsz, G⟩ := fr_start B hml hp
  subst hsz
  obtain ⟨ls, els, hl⟩ := fr_entry (m := m) (n := 2) hargs (Nat.le_of_ble_eq_true rfl)
  rw [els]
  have hl : lv_has ls 2 [(0, .ref (ad 0)), (1, .int (iI a1))] := hl
  clear els hargs hp B
  refine lv_aload_n C.1 C.2.1 dX7_makePlan_0 rfl (lv_at hl 0 rfl) ?_
  refine fr_get C G 0 (hL _ (by omega)) (cl_0 _) rfl iw_X7_makePlan_X7 3 (by decide) fl_X7_makePlan_32 rfl dX7_makePlan_1 ?_
  refine fr_get C G 12 (hL _ (by omega)) (cl_12 _) rfl iw_X7_makePlan_X3 4 (by decide) fl_X7_makePlan_195 rfl dX7_makePlan_4 ?_
  refine lv_iload_n C.1 C.2.1 dX7_makePlan_7 rfl (lv_at hl 1 rfl) ?_
  obtain ⟨hc_5, hw⟩ := hw
  refine fr_eq (tgt := 47) C dX7_makePlan_8 (by decide) hc_5 (fun q_1 => ?_) (fun q_1 => ?_)
  · have hw := if_p hw q_1
    exact fr_vret C G hr hlk hw dX7_makePlan_47
  · have hw := if_n hw q_1
    refine lv_aload_n C.1 C.2.1 dX7_makePlan_11 rfl (lv_at hl 0 rfl) ?_
    refine fr_get C G 0 (hL _ (by omega)) (cl_0 _) rfl iw_X7_makePlan_X7 3 (by decide) fl_X7_makePlan_32 rfl dX7_makePlan_12 ?_
    refine lv_aload_n C.1 C.2.1 dX7_makePlan_15 rfl (lv_at hl 0 rfl) ?_
    refine fr_get C G 0 (hL _ (by omega)) (cl_0 _) rfl iw_X7_makePlan_X7 0 (by decide) fl_X7_makePlan_11 rfl dX7_makePlan_16 ?_
    refine lv_iload_n C.1 C.2.1 dX7_makePlan_19 rfl (lv_at hl 1 rfl) ?_
    obtain ⟨hb_2, hw⟩ := hw
    refine fr_apl C G (hL _ (by omega)) hb_2 dX7_makePlan_20 ?_
    refine fr_get C G (20 + 3 * (a1).toNat) (hL _ (by omega)) (cell_pl _ (by omega)) rfl iw_X7_makePlan_X4 0 (by decide) fl_X7_makePlan_75 rfl dX7_makePlan_21 ?_
    refine lv_aload_n C.1 C.2.1 dX7_makePlan_24 rfl (lv_at hl 0 rfl) ?_
    refine fr_get C G 0 (hL _ (by omega)) (cl_0 _) rfl iw_X7_makePlan_X7 8 (by decide) fl_X7_makePlan_54 rfl dX7_makePlan_25 ?_
    refine lv_aload_n C.1 C.2.1 dX7_makePlan_28 rfl (lv_at hl 0 rfl) ?_
    refine fr_get C G 0 (hL _ (by omega)) (cl_0 _) rfl iw_X7_makePlan_X7 1 (by decide) fl_X7_makePlan_18 rfl dX7_makePlan_29 ?_
    refine lv_aload_n C.1 C.2.1 dX7_makePlan_32 rfl (lv_at hl 0 rfl) ?_
    refine fr_get C G 0 (hL _ (by omega)) (cl_0 _) rfl iw_X7_makePlan_X7 2 (by decide) fl_X7_makePlan_25 rfl dX7_makePlan_33 ?_
    refine fr_Vv C G (c_X3_search l D cy L ad _ hL (20 + 3 * (a1).toNat + 1) (hL _ (by omega)) ((al_pl _ (by omega)).2.1) (x 0 8) x _ hw) (cwV 4 C.2.2.2.2 gX7_makePlan_X3_search rfl rfl rfl (by decide +kernel) ⟨Nat.le_of_ble_eq_true rfl, Nat.le_of_ble_eq_true rfl⟩) (G.recv (hL _ (by omega)) (cl_12 _) rfl) rfl hl.1 rfl (Nat.le_of_ble_eq_true rfl) dX7_makePlan_36 ⟨Nat.zero_le _, Nat.zero_le _⟩ (fun x_3 H locs hw G => ?_)
    refine lv_aload_n C.1 C.2.1 dX7_makePlan_39 rfl (lv_at hl 0 rfl) ?_
    refine fr_get C G 0 (hL _ (by omega)) (cl_0 _) rfl iw_X7_makePlan_X7 3 (by decide) fl_X7_makePlan_32 rfl dX7_makePlan_40 ?_
    refine lv_iload_n C.1 C.2.1 dX7_makePlan_43 rfl (lv_at hl 1 rfl) ?_
    refine fr_put C G 12 (hL _ (by omega)) (cl_12 _) rfl iw_X7_makePlan_X3 tyX3_ok nmX3 4 (by decide) fl_X7_makePlan_195 rfl (by decide +kernel) (Nat.le_of_ble_eq_true rfl) (st_12_4 _ _) dX7_makePlan_44 (fun x_4 H locs ex_4 G => ?_)
    have hw := hw x_4 ex_4
    exact fr_vret C G hr hlk hw dX7_makePlan_47
def w_X7_plan (a1 : Int) (x : Mm) (post : Int → Mm → Prop) : Prop :=
  w_X7_isPlate a1 x (fun z_2 x_1 => rg z_2 ∧ (if z_2 = 0 then (post (-2) x_1) else (rg (x_1 2 4) ∧ (if (x_1 2 4) = 0 then (post (-3) x_1) else (w_X7_makePlan a1 x_1 (fun x_5 => post (x_5 12 3) x_5))))))
abbrev rm_X7_plan : Room := { frames := 6, cells := 0, slots := 0, locals := 161 }
theorem iw_X7_plan_X7 : ∀ w ∈ u_ws RX7 TX7 10, w ∈ wsX7_plan := by decide +kernel
theorem fl_X7_plan_18 : Cond.fieldLink RX7 18 (TX7 1).1 (TX7 1).2.1 (TX7 1).2.2.1 ∈ wsX7_plan := by decide +kernel
theorem iw_X7_plan_X2 : ∀ w ∈ u_ws RX2 TX2 7, w ∈ wsX7_plan := by decide +kernel
theorem fl_X7_plan_134 : Cond.fieldLink RX7 134 (TX2 4).1 (TX2 4).2.1 (TX2 4).2.2.1 ∈ wsX7_plan := by decide +kernel
theorem fl_X7_plan_32 : Cond.fieldLink RX7 32 (TX7 3).1 (TX7 3).2.1 (TX7 3).2.2.1 ∈ wsX7_plan := by decide +kernel
theorem iw_X7_plan_X3 : ∀ w ∈ u_ws RX3 TX3 5, w ∈ wsX7_plan := by decide +kernel
theorem fl_X7_plan_174 : Cond.fieldLink RX7 174 (TX3 3).1 (TX3 3).2.1 (TX3 3).2.2.1 ∈ wsX7_plan := by decide +kernel
set_option maxHeartbeats 4000000 in
set_option maxRecDepth 100000 in
theorem c_X7_plan (l : Launch) (D : va_G) (cy : Nat → ClassId) (L : List Nat) (ad : Nat → Nat) (sz : Nat) (hL : fLA L) (a1 : Int) (x : Mm) (post : Int → Mm → Prop) (hw : w_X7_plan a1 x post) : fMi l yX7_plan wsX7_plan rm_X7_plan [.ref (ad 0), .int (iI a1)] D cy L ad sz x post := by
  refine Met.ofW (cc := cX7_plan) (maxL := 2) (ret := (some .int)) (by decide) rfl ?_
  intro p e s m args below meth c s₁ B hml hv
  obtain ⟨hargs, hp⟩ := hv
  obtain ⟨C, hr, hlk, hsz, G⟩ := fr_start B hml hp
  subst hsz
  obtain ⟨ls, els, hl⟩ := fr_entry (m := m) (n := 2) hargs (Nat.le_of_ble_eq_true rfl)
  rw [els]
  have hl : lv_has ls 2 [(0, .ref (ad 0)), (1, .int (iI a1))] := hl
  clear els hargs hp B
  refine lv_aload_n C.1 C.2.1 dX7_plan_0 rfl (lv_at hl 0 rfl) ?_
  refine lv_iload_n C.1 C.2.1 dX7_plan_1 rfl (lv_at hl 1 rfl) ?_
  refine fr_Vi C G (c_X7_isPlate l D cy L ad _ hL a1 x _ hw) (cwV 1 C.2.2.2.2 gX7_plan_X7_isPlate rfl rfl rfl (by decide +kernel) ⟨Nat.le_of_ble_eq_true rfl, Nat.le_of_ble_eq_true rfl⟩) (G.recv (hL _ (by omega)) (cl_0 _) rfl) rfl hl.1 rfl (Nat.le_of_ble_eq_true rfl) dX7_plan_2 ⟨Nat.zero_le _, Nat.zero_le _⟩ (fun z_2 x_1 H locs hw G => ?_)
  obtain ⟨hc_7, hw⟩ := hw
  refine fr_ne0 (tgt := 11) C dX7_plan_5 (by decide) hc_7 (fun q_3 => ?_) (fun q_3 => ?_)
  · have hw := if_p hw q_3
    refine fr_bi C dX7_plan_8 rfl ?_
    exact fr_iret C G hr hlk hw dX7_plan_10
  · have hw := if_n hw q_3
    refine lv_aload_n C.1 C.2.1 dX7_plan_11 rfl (lv_at hl 0 rfl) ?_
    refine fr_get C G 0 (hL _ (by omega)) (cl_0 _) rfl iw_X7_plan_X7 1 (by decide) fl_X7_plan_18 rfl dX7_plan_12 ?_
    refine fr_get C G 2 (hL _ (by omega)) (cl_2 _) rfl iw_X7_plan_X2 4 (by decide) fl_X7_plan_134 rfl dX7_plan_15 ?_
    obtain ⟨hc_6, hw⟩ := hw
    refine fr_ne0 (tgt := 24) C dX7_plan_18 (by decide) hc_6 (fun q_4 => ?_) (fun q_4 => ?_)
    · have hw := if_p hw q_4
      refine fr_bi C dX7_plan_21 rfl ?_
      exact fr_iret C G hr hlk hw dX7_plan_23
    · have hw := if_n hw q_4
      refine lv_aload_n C.1 C.2.1 dX7_plan_24 rfl (lv_at hl 0 rfl) ?_
      refine lv_iload_n C.1 C.2.1 dX7_plan_25 rfl (lv_at hl 1 rfl) ?_
      refine fr_Vv C G (c_X7_makePlan l D cy L ad _ hL a1 x_1 _ hw) (cwV 1 C.2.2.2.2 gX7_plan_X7_makePlan rfl rfl rfl (by decide +kernel) ⟨Nat.le_of_ble_eq_true rfl, Nat.le_of_ble_eq_true rfl⟩) (G.recv (hL _ (by omega)) (cl_0 _) rfl) rfl hl.1 rfl (Nat.le_of_ble_eq_true rfl) dX7_plan_26 ⟨Nat.zero_le _, Nat.zero_le _⟩ (fun x_5 H locs hw G => ?_)
      refine lv_aload_n C.1 C.2.1 dX7_plan_29 rfl (lv_at hl 0 rfl) ?_
      refine fr_get C G 0 (hL _ (by omega)) (cl_0 _) rfl iw_X7_plan_X7 3 (by decide) fl_X7_plan_32 rfl dX7_plan_30 ?_
      refine fr_get C G 12 (hL _ (by omega)) (cl_12 _) rfl iw_X7_plan_X3 3 (by decide) fl_X7_plan_174 rfl dX7_plan_33 ?_
      exact fr_iret C G hr hlk hw dX7_plan_36
def w_X7_planned (a1 a2 : Int) (x : Mm) (post : Int → Mm → Prop) : Prop :=
  w_X7_isPlate a1 x (fun z_2 x_1 => rg z_2 ∧ (if z_2 = 0 then (post (-2) x_1) else (rg a2 ∧ (if 0 ≤ a2 then (rg (x_1 2 4) ∧ (if (x_1 2 4) = 0 then (post (-3) x_1) else (w_X7_makePlan a1 x_1 (fun x_6 => w_X3_stripOf a2 x_6 (fun z_8 x_7 => post z_8 x_7))))) else (post (-2) x_1)))))
abbrev rm_X7_planned : Room := { frames := 6, cells := 0, slots := 0, locals := 161 }
theorem iw_X7_planned_X7 : ∀ w ∈ u_ws RX7 TX7 10, w ∈ wsX7_planned := by decide +kernel
theorem fl_X7_planned_18 : Cond.fieldLink RX7 18 (TX7 1).1 (TX7 1).2.1 (TX7 1).2.2.1 ∈ wsX7_planned := by decide +kernel
theorem iw_X7_planned_X2 : ∀ w ∈ u_ws RX2 TX2 7, w ∈ wsX7_planned := by decide +kernel
theorem fl_X7_planned_134 : Cond.fieldLink RX7 134 (TX2 4).1 (TX2 4).2.1 (TX2 4).2.2.1 ∈ wsX7_planned := by decide +kernel
theorem fl_X7_planned_32 : Cond.fieldLink RX7 32 (TX7 3).1 (TX7 3).2.1 (TX7 3).2.2.1 ∈ wsX7_planned := by decide +kernel
set_option maxHeartbeats 4000000 in
set_option maxRecDepth 100000 in
theorem c_X7_planned (l : Launch) (D : va_G) (cy : Nat → ClassId) (L : List Nat) (ad : Nat → Nat) (sz : Nat) (hL : fLA L) (a1 a2 : Int) (x : Mm) (post : Int → Mm → Prop) (hw : w_X7_planned a1 a2 x post) : fMi l yX7_planned wsX7_planned rm_X7_planned [.ref (ad 0), .int (iI a1), .int (iI a2)] D cy L ad sz x post := by
  refine Met.ofW (cc := cX7_planned) (maxL := 3) (ret := (some .int)) (by decide) rfl ?_
  intro p e s m args below meth c s₁ B hml hv
  obtain ⟨hargs, hp⟩ := hv
  obtain ⟨C, hr, hlk, hsz, G⟩ := fr_start B hml hp
  subst hsz
  obtain ⟨ls, els, hl⟩ := fr_entry (m := m) (n := 3) hargs (Nat.le_of_ble_eq_true rfl)
  rw [els]
  have hl : lv_has ls 3 [(0, .ref (ad 0)), (1, .int (iI a1)), (2, .int (iI a2))] := hl
  clear els hargs hp B
  refine lv_aload_n C.1 C.2.1 dX7_planned_0 rfl (lv_at hl 0 rfl) ?_
  refine lv_iload_n C.1 C.2.1 dX7_planned_1 rfl (lv_at hl 1 rfl) ?_
  refine fr_Vi C G (c_X7_isPlate l D cy L ad _ hL a1 x _ hw) (cwV 1 C.2.2.2.2 gX7_planned_X7_isPlate rfl rfl rfl (by decide +kernel) ⟨Nat.le_of_ble_eq_true rfl, Nat.le_of_ble_eq_true rfl⟩) (G.recv (hL _ (by omega)) (cl_0 _) rfl) rfl hl.1 rfl (Nat.le_of_ble_eq_true rfl) dX7_planned_2 ⟨Nat.zero_le _, Nat.zero_le _⟩ (fun z_2 x_1 H locs hw G => ?_)
  obtain ⟨hc_11, hw⟩ := hw
  refine fr_eq0 (tgt := 12) C dX7_planned_5 (by decide) hc_11 (fun q_3 => ?_) (fun q_3 => ?_)
  · have hw := if_p hw q_3
    refine fr_bi C dX7_planned_12 rfl ?_
    exact fr_iret C G hr hlk hw dX7_planned_14
  · have hw := if_n hw q_3
    refine lv_iload_n C.1 C.2.1 dX7_planned_8 rfl (lv_at hl 2 rfl) ?_
    obtain ⟨hc_10, hw⟩ := hw
    refine fr_ge0 (tgt := 15) C dX7_planned_9 (by decide) hc_10 (fun q_4 => ?_) (fun q_4 => ?_)
    · have hw := if_p hw q_4
      refine lv_aload_n C.1 C.2.1 dX7_planned_15 rfl (lv_at hl 0 rfl) ?_
      refine fr_get C G 0 (hL _ (by omega)) (cl_0 _) rfl iw_X7_planned_X7 1 (by decide) fl_X7_planned_18 rfl dX7_planned_16 ?_
      refine fr_get C G 2 (hL _ (by omega)) (cl_2 _) rfl iw_X7_planned_X2 4 (by decide) fl_X7_planned_134 rfl dX7_planned_19 ?_
      obtain ⟨hc_9, hw⟩ := hw
      refine fr_ne0 (tgt := 28) C dX7_planned_22 (by decide) hc_9 (fun q_5 => ?_) (fun q_5 => ?_)
      · have hw := if_p hw q_5
        refine fr_bi C dX7_planned_25 rfl ?_
        exact fr_iret C G hr hlk hw dX7_planned_27
      · have hw := if_n hw q_5
        refine lv_aload_n C.1 C.2.1 dX7_planned_28 rfl (lv_at hl 0 rfl) ?_
        refine lv_iload_n C.1 C.2.1 dX7_planned_29 rfl (lv_at hl 1 rfl) ?_
        refine fr_Vv C G (c_X7_makePlan l D cy L ad _ hL a1 x_1 _ hw) (cwV 1 C.2.2.2.2 gX7_planned_X7_makePlan rfl rfl rfl (by decide +kernel) ⟨Nat.le_of_ble_eq_true rfl, Nat.le_of_ble_eq_true rfl⟩) (G.recv (hL _ (by omega)) (cl_0 _) rfl) rfl hl.1 rfl (Nat.le_of_ble_eq_true rfl) dX7_planned_30 ⟨Nat.zero_le _, Nat.zero_le _⟩ (fun x_6 H locs hw G => ?_)
        refine lv_aload_n C.1 C.2.1 dX7_planned_33 rfl (lv_at hl 0 rfl) ?_
        refine fr_get C G 0 (hL _ (by omega)) (cl_0 _) rfl iw_X7_planned_X7 3 (by decide) fl_X7_planned_32 rfl dX7_planned_34 ?_
        refine lv_iload_n C.1 C.2.1 dX7_planned_37 rfl (lv_at hl 2 rfl) ?_
        refine fr_Vi C G (c_X3_stripOf l D cy L ad _ hL a2 x_6 _ hw) (cwV 1 C.2.2.2.2 gX7_planned_X3_stripOf rfl rfl rfl (by decide +kernel) ⟨Nat.le_of_ble_eq_true rfl, Nat.le_of_ble_eq_true rfl⟩) (G.recv (hL _ (by omega)) (cl_12 _) rfl) rfl hl.1 rfl (Nat.le_of_ble_eq_true rfl) dX7_planned_38 ⟨Nat.zero_le _, Nat.zero_le _⟩ (fun z_8 x_7 H locs hw G => ?_)
        exact fr_iret C G hr hlk hw dX7_planned_41
    · have hw := if_n hw q_4
      refine fr_bi C dX7_planned_12 rfl ?_
      exact fr_iret C G hr hlk hw dX7_planned_14
