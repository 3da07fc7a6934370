def w_X8_plate (a1 a2 a3 a4 : Int) (x : Mm) (post : Int → Mm → Prop) : Prop :=
  w_X8_isThick a1 x (fun z_2 x_1 => rg z_2 ∧ (if z_2 = 0 then (post (-2) x_1) else (w_X8_isThick a2 x_1 (fun z_5 x_4 => rg z_5 ∧ (if z_5 = 0 then (post (-2) x_4) else (w_X8_isThick a3 x_4 (fun z_8 x_7 => rg z_8 ∧ (if z_8 = 0 then (post (-2) x_7) else (w_X8_isThick a4 x_7 (fun z_11 x_10 => rg z_11 ∧ (if z_11 = 0 then (post (-2) x_10) else (rg (x_10 60 0) ∧ (if (x_10 60 0) = 4 then (post (-4) x_10) else ((0 ≤ 4 * (x_10 60 0) ∧ 4 * (x_10 60 0) < 16) ∧ (∀ x_15 : Mm, x_15 = up2 x_10 61 (4 * (x_10 60 0)).toNat a1 → (0 ≤ (4 * (x_15 60 0)) + 1 ∧ (4 * (x_15 60 0)) + 1 < 16) ∧ (∀ x_17 : Mm, x_17 = up2 x_15 61 ((4 * (x_15 60 0)) + 1).toNat a2 → (0 ≤ (4 * (x_17 60 0)) + 2 ∧ (4 * (x_17 60 0)) + 2 < 16) ∧ (∀ x_19 : Mm, x_19 = up2 x_17 61 ((4 * (x_17 60 0)) + 2).toNat a3 → (0 ≤ (4 * (x_19 60 0)) + 3 ∧ (4 * (x_19 60 0)) + 3 < 16) ∧ (∀ x_21 : Mm, x_21 = up2 x_19 61 ((4 * (x_19 60 0)) + 3).toNat a4 → ∀ x_22 : Mm, x_22 = up2 x_21 60 0 ((x_21 60 0) + 1) → post ((x_22 60 0) - 1) x_22))))))))))))))))))
abbrev rm_X8_plate : Room := { frames := 2, cells := 0, slots := 0, locals := 42 }
theorem iw_X8_plate_X8 : ∀ w ∈ u_ws RX8 TX8 20, w ∈ wsX8_plate := by decide +kernel
theorem fl_X8_plate_64 : Cond.fieldLink RX8 64 (TX8 0).1 (TX8 0).2.1 (TX8 0).2.2.1 ∈ wsX8_plate := by decide +kernel
theorem fl_X8_plate_7 : Cond.fieldLink RX8 7 (TX8 1).1 (TX8 1).2.1 (TX8 1).2.2.1 ∈ wsX8_plate := by decide +kernel
set_option maxHeartbeats 4000000 in
set_option maxRecDepth 100000 in
theorem c_X8_plate (l : Launch) (D : va_G) (cy : Nat → ClassId) (L : List Nat) (ad : Nat → Nat) (sz : Nat) (hL : fLM L) (a1 a2 a3 a4 : Int) (x : Mm) (post : Int → Mm → Prop) (hw : w_X8_plate a1 a2 a3 a4 x post) : fMi l yX8_plate wsX8_plate rm_X8_plate [.ref (ad 60), .int (iI a1), .int (iI a2), .int (iI a3), .int (iI a4)] D cy L ad sz x post := by
  refine Met.ofW (cc := cX8_plate) (maxL := 5) (ret := (some .int)) (by decide) rfl ?_
  intro p e s m args below meth c s₁ B hml hv
  obtain ⟨hargs, hp⟩ := hv
  obtain ⟨C, hr, hlk, hsz, G⟩ := fr_start B hml hp
  subst hsz
  obtain ⟨ls, els, hl⟩ := fr_entry (m := m) (n := 5) hargs (Nat.le_of_ble_eq_true rfl)
  rw [els]
  have hl : lv_has ls 5 [(0, .ref (ad 60)), (1, .int (iI a1)), (2, .int (iI a2)), (3, .int (iI a3)), (4, .int (iI a4))] := hl
  clear els hargs hp B
  refine lv_iload_n C.1 C.2.1 dX8_plate_0 rfl (lv_at hl 1 rfl) ?_
  refine fr_Si C G (c_X8_isThick l D cy L ad _ a1 x _ hw) (va_cwS 1 C.2.2.2.2 gX8_plate_X8_isThick rfl rfl rfl (by decide +kernel) ⟨Nat.le_of_ble_eq_true rfl, Nat.le_of_ble_eq_true rfl⟩) rfl hl.1 rfl (Nat.le_of_ble_eq_true rfl) dX8_plate_1 ⟨Nat.zero_le _, Nat.zero_le _⟩ (fun z_2 x_1 H locs hw G => ?_)
  obtain ⟨hc_27, hw⟩ := hw
  refine fr_eq0 (tgt := 29) C dX8_plate_4 (by decide) hc_27 (fun q_3 => ?_) (fun q_3 => ?_)
  · have hw := if_p hw q_3
    refine fr_bi C dX8_plate_29 rfl ?_
    exact fr_iret C G hr hlk hw dX8_plate_31
  · have hw := if_n hw q_3
    refine lv_iload_n C.1 C.2.1 dX8_plate_7 rfl (lv_at hl 2 rfl) ?_
    refine fr_Si C G (c_X8_isThick l D cy L ad _ a2 x_1 _ hw) (va_cwS 1 C.2.2.2.2 gX8_plate_X8_isThick rfl rfl rfl (by decide +kernel) ⟨Nat.le_of_ble_eq_true rfl, Nat.le_of_ble_eq_true rfl⟩) rfl hl.1 rfl (Nat.le_of_ble_eq_true rfl) dX8_plate_8 ⟨Nat.zero_le _, Nat.zero_le _⟩ (fun z_5 x_4 H locs hw G => ?_)
    obtain ⟨hc_26, hw⟩ := hw
    refine fr_eq0 (tgt := 29) C dX8_plate_11 (by decide) hc_26 (fun q_6 => ?_) (fun q_6 => ?_)
    · have hw := if_p hw q_6
      refine fr_bi C dX8_plate_29 rfl ?_
      exact fr_iret C G hr hlk hw dX8_plate_31
    · have hw := if_n hw q_6
      refine lv_iload_n C.1 C.2.1 dX8_plate_14 rfl (lv_at hl 3 rfl) ?_
      refine fr_Si C G (c_X8_isThick l D cy L ad _ a3 x_4 _ hw) (va_cwS 1 C.2.2.2.2 gX8_plate_X8_isThick rfl rfl rfl (by decide +kernel) ⟨Nat.le_of_ble_eq_true rfl, Nat.le_of_ble_eq_true rfl⟩) rfl hl.1 rfl (Nat.le_of_ble_eq_true rfl) dX8_plate_15 ⟨Nat.zero_le _, Nat.zero_le _⟩ (fun z_8 x_7 H locs hw G => ?_)
      obtain ⟨hc_25, hw⟩ := hw
      refine fr_eq0 (tgt := 29) C dX8_plate_18 (by decide) hc_25 (fun q_9 => ?_) (fun q_9 => ?_)
      · have hw := if_p hw q_9
        refine fr_bi C dX8_plate_29 rfl ?_
        exact fr_iret C G hr hlk hw dX8_plate_31
      · have hw := if_n hw q_9
        refine lv_iload C.1 C.2.1 dX8_plate_21 (lv_at hl 4 rfl) ?_
        refine fr_Si C G (c_X8_isThick l D cy L ad _ a4 x_7 _ hw) (va_cwS 1 C.2.2.2.2 gX8_plate_X8_isThick rfl rfl rfl (by decide +kernel) ⟨Nat.le_of_ble_eq_true rfl, Nat.le_of_ble_eq_true rfl⟩) rfl hl.1 rfl (Nat.le_of_ble_eq_true rfl) dX8_plate_23 ⟨Nat.zero_le _, Nat.zero_le _⟩ (fun z_11 x_10 H locs hw G => ?_)
        obtain ⟨hc_24, hw⟩ := hw
        refine fr_ne0 (tgt := 32) C dX8_plate_26 (by decide) hc_24 (fun q_12 => ?_) (fun q_12 => ?_)
        · have hw := if_p hw q_12
          refine fr_bi C dX8_plate_29 rfl ?_
          exact fr_iret C G hr hlk hw dX8_plate_31
        · have hw := if_n hw q_12
          refine lv_aload_n C.1 C.2.1 dX8_plate_32 rfl (lv_at hl 0 rfl) ?_
          refine fr_get C G 60 (hL _ (by omega)) (cl_60 _) rfl iw_X8_plate_X8 0 (by decide) fl_X8_plate_64 rfl dX8_plate_33 ?_
          refine fr_ic C dX8_plate_36 ?_
          obtain ⟨hc_23, hw⟩ := hw
          refine fr_ne (tgt := 43) C dX8_plate_37 (by decide) ⟨hc_23, ⟨by decide, by decide⟩⟩ (fun q_13 => ?_) (fun q_13 => ?_)
          · have hw := if_p hw q_13
            refine fr_bi C dX8_plate_40 rfl ?_
            exact fr_iret C G hr hlk hw dX8_plate_42
          · have hw := if_n hw q_13
            refine lv_aload_n C.1 C.2.1 dX8_plate_43 rfl (lv_at hl 0 rfl) ?_
            refine fr_get C G 60 (hL _ (by omega)) (cl_60 _) rfl iw_X8_plate_X8 1 (by decide) fl_X8_plate_7 rfl dX8_plate_44 ?_
            refine fr_ic C dX8_plate_47 ?_
            refine lv_aload_n C.1 C.2.1 dX8_plate_48 rfl (lv_at hl 0 rfl) ?_
            refine fr_get C G 60 (hL _ (by omega)) (cl_60 _) rfl iw_X8_plate_X8 0 (by decide) fl_X8_plate_64 rfl dX8_plate_49 ?_
            refine fr_imul C dX8_plate_52 ?_
            refine lv_iload_n C.1 C.2.1 dX8_plate_53 rfl (lv_at hl 1 rfl) ?_
            obtain ⟨hb_14, hw⟩ := hw
            refine fr_iast C G 61 16 (hL _ (by omega)) rfl ⟨by decide, by decide⟩ hb_14 dX8_plate_54 (fun x_15 H locs ex_15 G => ?_)
            have hw := hw x_15 ex_15
            refine lv_aload_n C.1 C.2.1 dX8_plate_55 rfl (lv_at hl 0 rfl) ?_
            refine fr_get C G 60 (hL _ (by omega)) (cl_60 _) rfl iw_X8_plate_X8 1 (by decide) fl_X8_plate_7 rfl dX8_plate_56 ?_
            refine fr_ic C dX8_plate_59 ?_
            refine lv_aload_n C.1 C.2.1 dX8_plate_60 rfl (lv_at hl 0 rfl) ?_
            refine fr_get C G 60 (hL _ (by omega)) (cl_60 _) rfl iw_X8_plate_X8 0 (by decide) fl_X8_plate_64 rfl dX8_plate_61 ?_
            refine fr_imul C dX8_plate_64 ?_
            refine fr_ic C dX8_plate_65 ?_
            refine fr_iadd C dX8_plate_66 ?_
            refine lv_iload_n C.1 C.2.1 dX8_plate_67 rfl (lv_at hl 2 rfl) ?_
            obtain ⟨hb_16, hw⟩ := hw
            refine fr_iast C G 61 16 (hL _ (by omega)) rfl ⟨by decide, by decide⟩ hb_16 dX8_plate_68 (fun x_17 H locs ex_17 G => ?_)
            have hw := hw x_17 ex_17
            refine lv_aload_n C.1 C.2.1 dX8_plate_69 rfl (lv_at hl 0 rfl) ?_
            refine fr_get C G 60 (hL _ (by omega)) (cl_60 _) rfl iw_X8_plate_X8 1 (by decide) fl_X8_plate_7 rfl dX8_plate_70 ?_
            refine fr_ic C dX8_plate_73 ?_
            refine lv_aload_n C.1 C.2.1 dX8_plate_74 rfl (lv_at hl 0 rfl) ?_
            refine fr_get C G 60 (hL _ (by omega)) (cl_60 _) rfl iw_X8_plate_X8 0 (by decide) fl_X8_plate_64 rfl dX8_plate_75 ?_
            refine fr_imul C dX8_plate_78 ?_
            refine fr_ic C dX8_plate_79 ?_
            refine fr_iadd C dX8_plate_80 ?_
            refine lv_iload_n C.1 C.2.1 dX8_plate_81 rfl (lv_at hl 3 rfl) ?_
            obtain ⟨hb_18, hw⟩ := hw
            refine fr_iast C G 61 16 (hL _ (by omega)) rfl ⟨by decide, by decide⟩ hb_18 dX8_plate_82 (fun x_19 H locs ex_19 G => ?_)
            have hw := hw x_19 ex_19
            refine lv_aload_n C.1 C.2.1 dX8_plate_83 rfl (lv_at hl 0 rfl) ?_
            refine fr_get C G 60 (hL _ (by omega)) (cl_60 _) rfl iw_X8_plate_X8 1 (by decide) fl_X8_plate_7 rfl dX8_plate_84 ?_
            refine fr_ic C dX8_plate_87 ?_
            refine lv_aload_n C.1 C.2.1 dX8_plate_88 rfl (lv_at hl 0 rfl) ?_
            refine fr_get C G 60 (hL _ (by omega)) (cl_60 _) rfl iw_X8_plate_X8 0 (by decide) fl_X8_plate_64 rfl dX8_plate_89 ?_
            refine fr_imul C dX8_plate_92 ?_
            refine fr_ic C dX8_plate_93 ?_
            refine fr_iadd C dX8_plate_94 ?_
            refine lv_iload C.1 C.2.1 dX8_plate_95 (lv_at hl 4 rfl) ?_
            obtain ⟨hb_20, hw⟩ := hw
            refine fr_iast C G 61 16 (hL _ (by omega)) rfl ⟨by decide, by decide⟩ hb_20 dX8_plate_97 (fun x_21 H locs ex_21 G => ?_)
            have hw := hw x_21 ex_21
            refine lv_aload_n C.1 C.2.1 dX8_plate_98 rfl (lv_at hl 0 rfl) ?_
            refine lv_dup C.1 C.2.1 dX8_plate_99 rfl ?_
            refine fr_get C G 60 (hL _ (by omega)) (cl_60 _) rfl iw_X8_plate_X8 0 (by decide) fl_X8_plate_64 rfl dX8_plate_100 ?_
            refine fr_ic C dX8_plate_103 ?_
            refine fr_iadd C dX8_plate_104 ?_
            refine fr_put C G 60 (hL _ (by omega)) (cl_60 _) rfl iw_X8_plate_X8 tyX8_ok nmX8 0 (by decide) fl_X8_plate_64 rfl (by decide +kernel) (Nat.le_of_ble_eq_true rfl) (st_60_0 _ _) dX8_plate_105 (fun x_22 H locs ex_22 G => ?_)
            have hw := hw x_22 ex_22
            refine lv_aload_n C.1 C.2.1 dX8_plate_108 rfl (lv_at hl 0 rfl) ?_
            refine fr_get C G 60 (hL _ (by omega)) (cl_60 _) rfl iw_X8_plate_X8 0 (by decide) fl_X8_plate_64 rfl dX8_plate_109 ?_
            refine fr_ic C dX8_plate_112 ?_
            refine fr_isub C dX8_plate_113 ?_
            exact fr_iret C G hr hlk hw dX8_plate_114
def w_X8_thick (a1 a2 : Int) (x : Mm) (post : Int → Mm → Prop) : Prop :=
  w_X8_isPlate a1 x (fun z_2 x_1 => rg z_2 ∧ (if z_2 = 0 then (post (-2) x_1) else (w_X8_isFour a2 x_1 (fun z_5 x_4 => rg z_5 ∧ (if z_5 = 0 then (post (-2) x_4) else ((0 ≤ (4 * a1) + a2 ∧ (4 * a1) + a2 < 16) ∧ post (x_4 61 ((4 * a1) + a2).toNat) x_4))))))
abbrev rm_X8_thick : Room := { frames := 2, cells := 0, slots := 0, locals := 43 }
theorem iw_X8_thick_X8 : ∀ w ∈ u_ws RX8 TX8 20, w ∈ wsX8_thick := by decide +kernel
theorem fl_X8_thick_7 : Cond.fieldLink RX8 7 (TX8 1).1 (TX8 1).2.1 (TX8 1).2.2.1 ∈ wsX8_thick := by decide +kernel
set_option maxHeartbeats 4000000 in
set_option maxRecDepth 100000 in
theorem c_X8_thick (l : Launch) (D : va_G) (cy : Nat → ClassId) (L : List Nat) (ad : Nat → Nat) (sz : Nat) (hL : fLM L) (a1 a2 : Int) (x : Mm) (post : Int → Mm → Prop) (hw : w_X8_thick a1 a2 x post) : fMi l yX8_thick wsX8_thick rm_X8_thick [.ref (ad 60), .int (iI a1), .int (iI a2)] D cy L ad sz x post := by
  refine Met.ofW (cc := cX8_thick) (maxL := 3) (ret := (some .int)) (by decide) rfl ?_
  intro p e s m args below meth c s₁ B hml hv
  obtain ⟨hargs, hp⟩ := hv
  obtain ⟨C, hr, hlk, hsz, G⟩ := fr_start B hml hp
  subst hsz
  obtain ⟨ls, els, hl⟩ := fr_entry (m := m) (n := 3) hargs (Nat.le_of_ble_eq_true rfl)
  rw [els]
  have hl : lv_has ls 3 [(0, .ref (ad 60)), (1, .int (iI a1)), (2, .int (iI a2))] := hl
  clear els hargs hp B
  refine lv_aload_n C.1 C.2.1 dX8_thick_0 rfl (lv_at hl 0 rfl) ?_
  refine lv_iload_n C.1 C.2.1 dX8_thick_1 rfl (lv_at hl 1 rfl) ?_
  refine fr_Vi C G (c_X8_isPlate l D cy L ad _ hL a1 x _ hw) (cwV 1 C.2.2.2.2 gX8_thick_X8_isPlate rfl rfl rfl (by decide +kernel) ⟨Nat.le_of_ble_eq_true rfl, Nat.le_of_ble_eq_true rfl⟩) (G.recv (hL _ (by omega)) (cl_60 _) rfl) rfl hl.1 rfl (Nat.le_of_ble_eq_true rfl) dX8_thick_2 ⟨Nat.zero_le _, Nat.zero_le _⟩ (fun z_2 x_1 H locs hw G => ?_)
  obtain ⟨hc_9, hw⟩ := hw
  refine fr_eq0 (tgt := 28) C dX8_thick_5 (by decide) hc_9 (fun q_3 => ?_) (fun q_3 => ?_)
  · have hw := if_p hw q_3
    refine fr_bi C dX8_thick_28 rfl ?_
    exact fr_iret C G hr hlk hw dX8_thick_30
  · have hw := if_n hw q_3
    refine lv_iload_n C.1 C.2.1 dX8_thick_8 rfl (lv_at hl 2 rfl) ?_
    refine fr_Si C G (c_X8_isFour l D cy L ad _ a2 x_1 _ hw) (va_cwS 1 C.2.2.2.2 gX8_thick_X8_isFour rfl rfl rfl (by decide +kernel) ⟨Nat.le_of_ble_eq_true rfl, Nat.le_of_ble_eq_true rfl⟩) rfl hl.1 rfl (Nat.le_of_ble_eq_true rfl) dX8_thick_9 ⟨Nat.zero_le _, Nat.zero_le _⟩ (fun z_5 x_4 H locs hw G => ?_)
    obtain ⟨hc_8, hw⟩ := hw
    refine fr_eq0 (tgt := 28) C dX8_thick_12 (by decide) hc_8 (fun q_6 => ?_) (fun q_6 => ?_)
    · have hw := if_p hw q_6
      refine fr_bi C dX8_thick_28 rfl ?_
      exact fr_iret C G hr hlk hw dX8_thick_30
    · have hw := if_n hw q_6
      refine lv_aload_n C.1 C.2.1 dX8_thick_15 rfl (lv_at hl 0 rfl) ?_
      refine fr_get C G 60 (hL _ (by omega)) (cl_60 _) rfl iw_X8_thick_X8 1 (by decide) fl_X8_thick_7 rfl dX8_thick_16 ?_
      refine fr_ic C dX8_thick_19 ?_
      refine lv_iload_n C.1 C.2.1 dX8_thick_20 rfl (lv_at hl 1 rfl) ?_
      refine fr_imul C dX8_thick_21 ?_
      refine lv_iload_n C.1 C.2.1 dX8_thick_22 rfl (lv_at hl 2 rfl) ?_
      refine fr_iadd C dX8_thick_23 ?_
      obtain ⟨hb_7, hw⟩ := hw
      refine fr_iald C G 61 16 (hL _ (by omega)) rfl ⟨by decide, by decide⟩ hb_7 dX8_thick_24 ?_
      refine lv_goto (tgt := 30) C.1 C.2.1 dX8_thick_25 (by decide) ?_
      exact fr_iret C G hr hlk hw dX8_thick_30
def w_X8_least (a1 : Int) (x : Mm) (post : Int → Mm → Prop) : Prop :=
  w_X8_isThick a1 x (fun z_2 x_1 => rg z_2 ∧ (if z_2 = 0 then (post (-2) x_1) else (∀ v2_4 : Int, v2_4 = x_1 60 2 → ∀ x_5 : Mm, x_5 = up2 x_1 60 2 a1 → post v2_4 x_5)))
abbrev rm_X8_least : Room := { frames := 2, cells := 0, slots := 0, locals := 42 }
theorem iw_X8_least_X8 : ∀ w ∈ u_ws RX8 TX8 20, w ∈ wsX8_least := by decide +kernel
theorem fl_X8_least_13 : Cond.fieldLink RX8 13 (TX8 2).1 (TX8 2).2.1 (TX8 2).2.2.1 ∈ wsX8_least := by decide +kernel
set_option maxHeartbeats 4000000 in
set_option maxRecDepth 100000 in
theorem c_X8_least (l : Launch) (D : va_G) (cy : Nat → ClassId) (L : List Nat) (ad : Nat → Nat) (sz : Nat) (hL : fLM L) (a1 : Int) (x : Mm) (post : Int → Mm → Prop) (hw : w_X8_least a1 x post) : fMi l yX8_least wsX8_least rm_X8_least [.ref (ad 60), .int (iI a1)] D cy L ad sz x post := by
  refine Met.ofW (cc := cX8_least) (maxL := 3) (ret := (some .int)) (by decide) rfl ?_
  intro p e s m args below meth c s₁ B hml hv
  obtain ⟨hargs, hp⟩ := hv
  obtain ⟨C, hr, hlk, hsz, G⟩ := fr_start B hml hp
  subst hsz
  obtain ⟨ls, els, hl⟩ := fr_entry (m := m) (n := 3) hargs (Nat.le_of_ble_eq_true rfl)
  rw [els]
  have hl : lv_has ls 3 [(0, .ref (ad 60)), (1, .int (iI a1))] := hl
  clear els hargs hp B
  refine lv_iload_n C.1 C.2.1 dX8_least_0 rfl (lv_at hl 1 rfl) ?_
  refine fr_Si C G (c_X8_isThick l D cy L ad _ a1 x _ hw) (va_cwS 1 C.2.2.2.2 gX8_least_X8_isThick rfl rfl rfl (by decide +kernel) ⟨Nat.le_of_ble_eq_true rfl, Nat.le_of_ble_eq_true rfl⟩) rfl hl.1 rfl (Nat.le_of_ble_eq_true rfl) dX8_least_1 ⟨Nat.zero_le _, Nat.zero_le _⟩ (fun z_2 x_1 H locs hw G => ?_)
  obtain ⟨hc_6, hw⟩ := hw
  refine fr_ne0 (tgt := 10) C dX8_least_4 (by decide) hc_6 (fun q_3 => ?_) (fun q_3 => ?_)
  · have hw := if_p hw q_3
    refine fr_bi C dX8_least_7 rfl ?_
    exact fr_iret C G hr hlk hw dX8_least_9
  · have hw := if_n hw q_3
    refine lv_aload_n C.1 C.2.1 dX8_least_10 rfl (lv_at hl 0 rfl) ?_
    refine fr_get C G 60 (hL _ (by omega)) (cl_60 _) rfl iw_X8_least_X8 2 (by decide) fl_X8_least_13 rfl dX8_least_11 ?_
    refine fr_nm (fun v2_4 ev2_4 => ?_)
    have hw := hw v2_4 ev2_4
    refine lv_istore_n (lv' := [(2, .int (iI v2_4)), (0, .ref (ad 60)), (1, .int (iI a1))]) C.1 C.2.1 dX8_least_14 rfl hl (by decide) rfl (fun ls hl => ?_)
    refine lv_aload_n C.1 C.2.1 dX8_least_15 rfl (lv_at hl 1 rfl) ?_
    refine lv_iload_n C.1 C.2.1 dX8_least_16 rfl (lv_at hl 2 rfl) ?_
    refine fr_put C G 60 (hL _ (by omega)) (cl_60 _) rfl iw_X8_least_X8 tyX8_ok nmX8 2 (by decide) fl_X8_least_13 rfl (by decide +kernel) (Nat.le_of_ble_eq_true rfl) (st_60_2 _ _) dX8_least_17 (fun x_5 H locs ex_5 G => ?_)
    have hw := hw x_5 ex_5
    refine lv_iload_n C.1 C.2.1 dX8_least_20 rfl (lv_at hl 0 rfl) ?_
    exact fr_iret C G hr hlk hw dX8_least_21
def w_X8_shaveOff (a1 a2 : Int) (x : Mm) (post : Mm → Prop) : Prop :=
  (0 ≤ (4 * a1) + a2 ∧ (4 * a1) + a2 < 16) ∧ (0 ≤ (4 * a1) + a2 ∧ (4 * a1) + a2 < 16) ∧ (∀ x_3 : Mm, x_3 = up2 x 61 ((4 * a1) + a2).toNat ((x 61 ((4 * a1) + a2).toNat) - 1) → (0 ≤ a1 ∧ a1 < 4) ∧ (0 ≤ (20 * a1) + (x_3 62 (a1).toNat) ∧ (20 * a1) + (x_3 62 (a1).toNat) < 80) ∧ (∀ x_6 : Mm, x_6 = up2 x_3 63 ((20 * a1) + (x_3 62 (a1).toNat)).toNat a2 → (0 ≤ a1 ∧ a1 < 4) ∧ (0 ≤ a1 ∧ a1 < 4) ∧ (∀ x_9 : Mm, x_9 = up2 x_6 62 (a1).toNat ((x_6 62 (a1).toNat) + 1) → post x_9)))
abbrev rm_X8_shaveOff : Room := { frames := 0, cells := 0, slots := 0, locals := 0 }
theorem iw_X8_shaveOff_X8 : ∀ w ∈ u_ws RX8 TX8 20, w ∈ wsX8_shaveOff := by decide +kernel
theorem fl_X8_shaveOff_7 : Cond.fieldLink RX8 7 (TX8 1).1 (TX8 1).2.1 (TX8 1).2.2.1 ∈ wsX8_shaveOff := by decide +kernel
theorem fl_X8_shaveOff_20 : Cond.fieldLink RX8 20 (TX8 4).1 (TX8 4).2.1 (TX8 4).2.2.1 ∈ wsX8_shaveOff := by decide +kernel
theorem fl_X8_shaveOff_17 : Cond.fieldLink RX8 17 (TX8 3).1 (TX8 3).2.1 (TX8 3).2.2.1 ∈ wsX8_shaveOff := by decide +kernel
set_option maxHeartbeats 4000000 in
set_option maxRecDepth 100000 in
theorem c_X8_shaveOff (l : Launch) (D : va_G) (cy : Nat → ClassId) (L : List Nat) (ad : Nat → Nat) (sz : Nat) (hL : fLM L) (a1 a2 : Int) (x : Mm) (post : Mm → Prop) (hw : w_X8_shaveOff a1 a2 x post) : fMv l yX8_shaveOff wsX8_shaveOff rm_X8_shaveOff [.ref (ad 60), .int (iI a1), .int (iI a2)] D cy L ad sz x post := by
  refine Met.ofW (cc := cX8_shaveOff) (maxL := 3) (ret := none) (by decide) rfl ?_
  intro p e s m args below meth c s₁ B hml hv
  obtain ⟨hargs, hp⟩ := hv
  obtain ⟨C, hr, hlk, hsz, G⟩ := fr_start B hml hp
  subst hsz
  obtain ⟨ls, els, hl⟩ := fr_entry (m := m) (n := 3) hargs (Nat.le_of_ble_eq_true rfl)
  rw [els]
  have hl : lv_has ls 3 [(0, .ref (ad 60)), (1, .int (iI a1)), (2, .int (iI a2))] := hl
  clear els hargs hp B
  refine lv_aload_n C.1 C.2.1 dX8_shaveOff_0 rfl (lv_at hl 0 rfl) ?_
  refine fr_get C G 60 (hL _ (by omega)) (cl_60 _) rfl iw_X8_shaveOff_X8 1 (by decide) fl_X8_shaveOff_7 rfl dX8_shaveOff_1 ?_
  refine fr_ic C dX8_shaveOff_4 ?_
  refine lv_iload_n C.1 C.2.1 dX8_shaveOff_5 rfl (lv_at hl 1 rfl) ?_
  refine fr_imul C dX8_shaveOff_6 ?_
  refine lv_iload_n C.1 C.2.1 dX8_shaveOff_7 rfl (lv_at hl 2 rfl) ?_
  refine fr_iadd C dX8_shaveOff_8 ?_
  refine lv_dup2_11 C.1 C.2.1 dX8_shaveOff_9 rfl rfl ?_
  obtain ⟨hb_1, hw⟩ := hw
  refine fr_iald C G 61 16 (hL _ (by omega)) rfl ⟨by decide, by decide⟩ hb_1 dX8_shaveOff_10 ?_
  refine fr_ic C dX8_shaveOff_11 ?_
  refine fr_isub C dX8_shaveOff_12 ?_
  obtain ⟨hb_2, hw⟩ := hw
  refine fr_iast C G 61 16 (hL _ (by omega)) rfl ⟨by decide, by decide⟩ hb_2 dX8_shaveOff_13 (fun x_3 H locs ex_3 G => ?_)
  have hw := hw x_3 ex_3
  refine lv_aload_n C.1 C.2.1 dX8_shaveOff_14 rfl (lv_at hl 0 rfl) ?_
  refine fr_get C G 60 (hL _ (by omega)) (cl_60 _) rfl iw_X8_shaveOff_X8 4 (by decide) fl_X8_shaveOff_20 rfl dX8_shaveOff_15 ?_
  refine fr_bi C dX8_shaveOff_18 rfl ?_
  refine lv_iload_n C.1 C.2.1 dX8_shaveOff_20 rfl (lv_at hl 1 rfl) ?_
  refine fr_imul C dX8_shaveOff_21 ?_
  refine lv_aload_n C.1 C.2.1 dX8_shaveOff_22 rfl (lv_at hl 0 rfl) ?_
  refine fr_get C G 60 (hL _ (by omega)) (cl_60 _) rfl iw_X8_shaveOff_X8 3 (by decide) fl_X8_shaveOff_17 rfl dX8_shaveOff_23 ?_
  refine lv_iload_n C.1 C.2.1 dX8_shaveOff_26 rfl (lv_at hl 1 rfl) ?_
  obtain ⟨hb_4, hw⟩ := hw
  refine fr_iald C G 62 4 (hL _ (by omega)) rfl ⟨by decide, by decide⟩ hb_4 dX8_shaveOff_27 ?_
  refine fr_iadd C dX8_shaveOff_28 ?_
  refine lv_iload_n C.1 C.2.1 dX8_shaveOff_29 rfl (lv_at hl 2 rfl) ?_
  obtain ⟨hb_5, hw⟩ := hw
  refine fr_iast C G 63 80 (hL _ (by omega)) rfl ⟨by decide, by decide⟩ hb_5 dX8_shaveOff_30 (fun x_6 H locs ex_6 G => ?_)
  have hw := hw x_6 ex_6
  refine lv_aload_n C.1 C.2.1 dX8_shaveOff_31 rfl (lv_at hl 0 rfl) ?_
  refine fr_get C G 60 (hL _ (by omega)) (cl_60 _) rfl iw_X8_shaveOff_X8 3 (by decide) fl_X8_shaveOff_17 rfl dX8_shaveOff_32 ?_
  refine lv_iload_n C.1 C.2.1 dX8_shaveOff_35 rfl (lv_at hl 1 rfl) ?_
  refine lv_dup2_11 C.1 C.2.1 dX8_shaveOff_36 rfl rfl ?_
  obtain ⟨hb_7, hw⟩ := hw
  refine fr_iald C G 62 4 (hL _ (by omega)) rfl ⟨by decide, by decide⟩ hb_7 dX8_shaveOff_37 ?_
  refine fr_ic C dX8_shaveOff_38 ?_
  refine fr_iadd C dX8_shaveOff_39 ?_
  obtain ⟨hb_8, hw⟩ := hw
  refine fr_iast C G 62 4 (hL _ (by omega)) rfl ⟨by decide, by decide⟩ hb_8 dX8_shaveOff_40 (fun x_9 H locs ex_9 G => ?_)
  have hw := hw x_9 ex_9
  exact fr_vret C G hr hlk hw dX8_shaveOff_41
def w_X8_shave (a1 a2 : Int) (x : Mm) (post : Int → Mm → Prop) : Prop :=
  w_X8_isPlate a1 x (fun z_2 x_1 => rg z_2 ∧ (if z_2 = 0 then (post (-2) x_1) else (w_X8_isFour a2 x_1 (fun z_5 x_4 => rg z_5 ∧ (if z_5 = 0 then (post (-2) x_4) else ((0 ≤ (4 * a1) + a2 ∧ (4 * a1) + a2 < 16) ∧ (rg (x_4 61 ((4 * a1) + a2).toNat) ∧ rg (x_4 60 2)) ∧ (if (x_4 60 2) < (x_4 61 ((4 * a1) + a2).toNat) then ((0 ≤ a1 ∧ a1 < 4) ∧ rg (x_4 62 (a1).toNat) ∧ (if (x_4 62 (a1).toNat) = 20 then (post (-4) x_4) else (w_X8_shaveOff a1 a2 x_4 (fun x_11 => (0 ≤ (4 * a1) + a2 ∧ (4 * a1) + a2 < 16) ∧ post (x_11 61 ((4 * a1) + a2).toNat) x_11)))) else (post (-3) x_4))))))))
abbrev rm_X8_shave : Room := { frames := 2, cells := 0, slots := 0, locals := 43 }
theorem iw_X8_shave_X8 : ∀ w ∈ u_ws RX8 TX8 20, w ∈ wsX8_shave := by decide +kernel
theorem fl_X8_shave_7 : Cond.fieldLink RX8 7 (TX8 1).1 (TX8 1).2.1 (TX8 1).2.2.1 ∈ wsX8_shave := by decide +kernel
theorem fl_X8_shave_13 : Cond.fieldLink RX8 13 (TX8 2).1 (TX8 2).2.1 (TX8 2).2.2.1 ∈ wsX8_shave := by decide +kernel
theorem fl_X8_shave_17 : Cond.fieldLink RX8 17 (TX8 3).1 (TX8 3).2.1 (TX8 3).2.2.1 ∈ wsX8_shave := by decide +kernel
set_option maxHeartbeats 4000000 in
set_option maxRecDepth 100000 in
theorem c_X8_shave (l : Launch) (D : va_G) (cy : Nat → ClassId) (L : List Nat) (ad : Nat → Nat) (sz : Nat) (hL : fLM L) (a1 a2 : Int) (x : Mm) (post : Int → Mm → Prop) (hw : w_X8_shave a1 a2 x post) : fMi l yX8_shave wsX8_shave rm_X8_shave [.ref (ad 60), .int (iI a1), .int (iI a2)] D cy L ad sz x post := by
  refine Met.ofW (cc := cX8_shave) (maxL := 3) (ret := (some .int)) (by decide) rfl ?_
  intro p e s m args below meth c s₁ B hml hv
  obtain ⟨hargs, hp⟩ := hv
  obtain ⟨C, hr, hlk, hsz, G⟩ := fr_start B hml hp
  subst hsz
  obtain ⟨ls, els, hl⟩ := fr_entry (m := m) (n := 3) hargs (Nat.le_of_ble_eq_true rfl)
  rw [els]
  have hl : lv_has ls 3 [(0, .ref (ad 60)), (1, .int (iI a1)), (2, .int (iI a2))] := hl
  clear els hargs hp B
  refine lv_aload_n C.1 C.2.1 dX8_shave_0 rfl (lv_at hl 0 rfl) ?_
  refine lv_iload_n C.1 C.2.1 dX8_shave_1 rfl (lv_at hl 1 rfl) ?_
  refine fr_Vi C G (c_X8_isPlate l D cy L ad _ hL a1 x _ hw) (cwV 1 C.2.2.2.2 gX8_shave_X8_isPlate rfl rfl rfl (by decide +kernel) ⟨Nat.le_of_ble_eq_true rfl, Nat.le_of_ble_eq_true rfl⟩) (G.recv (hL _ (by omega)) (cl_60 _) rfl) rfl hl.1 rfl (Nat.le_of_ble_eq_true rfl) dX8_shave_2 ⟨Nat.zero_le _, Nat.zero_le _⟩ (fun z_2 x_1 H locs hw G => ?_)
  obtain ⟨hc_16, hw⟩ := hw
  refine fr_eq0 (tgt := 15) C dX8_shave_5 (by decide) hc_16 (fun q_3 => ?_) (fun q_3 => ?_)
  · have hw := if_p hw q_3
    refine fr_bi C dX8_shave_15 rfl ?_
    exact fr_iret C G hr hlk hw dX8_shave_17
  · have hw := if_n hw q_3
    refine lv_iload_n C.1 C.2.1 dX8_shave_8 rfl (lv_at hl 2 rfl) ?_
    refine fr_Si C G (c_X8_isFour l D cy L ad _ a2 x_1 _ hw) (va_cwS 1 C.2.2.2.2 gX8_shave_X8_isFour rfl rfl rfl (by decide +kernel) ⟨Nat.le_of_ble_eq_true rfl, Nat.le_of_ble_eq_true rfl⟩) rfl hl.1 rfl (Nat.le_of_ble_eq_true rfl) dX8_shave_9 ⟨Nat.zero_le _, Nat.zero_le _⟩ (fun z_5 x_4 H locs hw G => ?_)
    obtain ⟨hc_15, hw⟩ := hw
    refine fr_ne0 (tgt := 18) C dX8_shave_12 (by decide) hc_15 (fun q_6 => ?_) (fun q_6 => ?_)
    · have hw := if_p hw q_6
      refine fr_bi C dX8_shave_15 rfl ?_
      exact fr_iret C G hr hlk hw dX8_shave_17
    · have hw := if_n hw q_6
      refine lv_aload_n C.1 C.2.1 dX8_shave_18 rfl (lv_at hl 0 rfl) ?_
      refine fr_get C G 60 (hL _ (by omega)) (cl_60 _) rfl iw_X8_shave_X8 1 (by decide) fl_X8_shave_7 rfl dX8_shave_19 ?_
      refine fr_ic C dX8_shave_22 ?_
      refine lv_iload_n C.1 C.2.1 dX8_shave_23 rfl (lv_at hl 1 rfl) ?_
      refine fr_imul C dX8_shave_24 ?_
      refine lv_iload_n C.1 C.2.1 dX8_shave_25 rfl (lv_at hl 2 rfl) ?_
      refine fr_iadd C dX8_shave_26 ?_
      obtain ⟨hb_7, hw⟩ := hw
      refine fr_iald C G 61 16 (hL _ (by omega)) rfl ⟨by decide, by decide⟩ hb_7 dX8_shave_27 ?_
      refine lv_aload_n C.1 C.2.1 dX8_shave_28 rfl (lv_at hl 0 rfl) ?_
      refine fr_get C G 60 (hL _ (by omega)) (cl_60 _) rfl iw_X8_shave_X8 2 (by decide) fl_X8_shave_13 rfl dX8_shave_29 ?_
      obtain ⟨hc_14, hw⟩ := hw
      refine fr_gt (tgt := 38) C dX8_shave_32 (by decide) hc_14 (fun q_8 => ?_) (fun q_8 => ?_)
      · have hw := if_p hw q_8
        refine lv_aload_n C.1 C.2.1 dX8_shave_38 rfl (lv_at hl 0 rfl) ?_
        refine fr_get C G 60 (hL _ (by omega)) (cl_60 _) rfl iw_X8_shave_X8 3 (by decide) fl_X8_shave_17 rfl dX8_shave_39 ?_
        refine lv_iload_n C.1 C.2.1 dX8_shave_42 rfl (lv_at hl 1 rfl) ?_
        obtain ⟨hb_9, hw⟩ := hw
        refine fr_iald C G 62 4 (hL _ (by omega)) rfl ⟨by decide, by decide⟩ hb_9 dX8_shave_43 ?_
        refine fr_bi C dX8_shave_44 rfl ?_
        obtain ⟨hc_13, hw⟩ := hw
        refine fr_ne (tgt := 52) C dX8_shave_46 (by decide) ⟨hc_13, ⟨by decide, by decide⟩⟩ (fun q_10 => ?_) (fun q_10 => ?_)
        · have hw := if_p hw q_10
          refine fr_bi C dX8_shave_49 rfl ?_
          exact fr_iret C G hr hlk hw dX8_shave_51
        · have hw := if_n hw q_10
          refine lv_aload_n C.1 C.2.1 dX8_shave_52 rfl (lv_at hl 0 rfl) ?_
          refine lv_iload_n C.1 C.2.1 dX8_shave_53 rfl (lv_at hl 1 rfl) ?_
          refine lv_iload_n C.1 C.2.1 dX8_shave_54 rfl (lv_at hl 2 rfl) ?_
          refine fr_Vv C G (c_X8_shaveOff l D cy L ad _ hL a1 a2 x_4 _ hw) (cwV 2 C.2.2.2.2 gX8_shave_X8_shaveOff rfl rfl rfl (by decide +kernel) ⟨Nat.le_of_ble_eq_true rfl, Nat.le_of_ble_eq_true rfl⟩) (G.recv (hL _ (by omega)) (cl_60 _) rfl) rfl hl.1 rfl (Nat.le_of_ble_eq_true rfl) dX8_shave_55 ⟨Nat.zero_le _, Nat.zero_le _⟩ (fun x_11 H locs hw G => ?_)
          refine lv_aload_n C.1 C.2.1 dX8_shave_58 rfl (lv_at hl 0 rfl) ?_
          refine fr_get C G 60 (hL _ (by omega)) (cl_60 _) rfl iw_X8_shave_X8 1 (by decide) fl_X8_shave_7 rfl dX8_shave_59 ?_
          refine fr_ic C dX8_shave_62 ?_
          refine lv_iload_n C.1 C.2.1 dX8_shave_63 rfl (lv_at hl 1 rfl) ?_
          refine fr_imul C dX8_shave_64 ?_
          refine lv_iload_n C.1 C.2.1 dX8_shave_65 rfl (lv_at hl 2 rfl) ?_
          refine fr_iadd C dX8_shave_66 ?_
          obtain ⟨hb_12, hw⟩ := hw
          refine fr_iald C G 61 16 (hL _ (by omega)) rfl ⟨by decide, by decide⟩ hb_12 dX8_shave_67 ?_
          exact fr_iret C G hr hlk hw dX8_shave_68
      · have hw := if_n hw q_8
        refine fr_bi C dX8_shave_35 rfl ?_
        exact fr_iret C G hr hlk hw dX8_shave_37
def w_X8_undo (a1 : Int) (x : Mm) (post : Int → Mm → Prop) : Prop :=
  w_X8_isPlate a1 x (fun z_2 x_1 => rg z_2 ∧ (if z_2 = 0 then (post (-2) x_1) else ((0 ≤ a1 ∧ a1 < 4) ∧ rg (x_1 62 (a1).toNat) ∧ (if (x_1 62 (a1).toNat) = 0 then (post (-3) x_1) else ((0 ≤ a1 ∧ a1 < 4) ∧ (0 ≤ a1 ∧ a1 < 4) ∧ (∀ x_8 : Mm, x_8 = up2 x_1 62 (a1).toNat ((x_1 62 (a1).toNat) - 1) → (0 ≤ a1 ∧ a1 < 4) ∧ (0 ≤ (20 * a1) + (x_8 62 (a1).toNat) ∧ (20 * a1) + (x_8 62 (a1).toNat) < 80) ∧ ∀ v2_11 : Int, v2_11 = x_8 63 ((20 * a1) + (x_8 62 (a1).toNat)).toNat → (0 ≤ (4 * a1) + v2_11 ∧ (4 * a1) + v2_11 < 16) ∧ (0 ≤ (4 * a1) + v2_11 ∧ (4 * a1) + v2_11 < 16) ∧ (∀ x_14 : Mm, x_14 = up2 x_8 61 ((4 * a1) + v2_11).toNat ((x_8 61 ((4 * a1) + v2_11).toNat) + 1) → post v2_11 x_14)))))))
abbrev rm_X8_undo : Room := { frames := 2, cells := 0, slots := 0, locals := 43 }
theorem iw_X8_undo_X8 : ∀ w ∈ u_ws RX8 TX8 20, w ∈ wsX8_undo := by decide +kernel
theorem fl_X8_undo_17 : Cond.fieldLink RX8 17 (TX8 3).1 (TX8 3).2.1 (TX8 3).2.2.1 ∈ wsX8_undo := by decide +kernel
theorem fl_X8_undo_20 : Cond.fieldLink RX8 20 (TX8 4).1 (TX8 4).2.1 (TX8 4).2.2.1 ∈ wsX8_undo := by decide +kernel
theorem fl_X8_undo_7 : Cond.fieldLink RX8 7 (TX8 1).1 (TX8 1).2.1 (TX8 1).2.2.1 ∈ wsX8_undo := by decide +kernel
set_option maxHeartbeats 4000000 in
set_option maxRecDepth 100000 in
theorem c_X8_undo (l : Launch) (D : va_G) (cy : Nat → ClassId) (L : List Nat) (ad : Nat → Nat) (sz : Nat) (hL : fLM L) (a1 : Int) (x : Mm) (post : Int → Mm → Prop) (hw : w_X8_undo a1 x post) : fMi l yX8_undo wsX8_undo rm_X8_undo [.ref (ad 60), .int (iI a1)] D cy L ad sz x post := by
  refine Met.ofW (cc := cX8_undo) (maxL := 3) (ret := (some .int)) (by decide) rfl ?_
  intro p e s m args below meth c s₁ B hml hv
  obtain ⟨hargs, hp⟩ := hv
  obtain ⟨C, hr, hlk, hsz, G⟩ := fr_start B hml hp
  subst hsz
  obtain ⟨ls, els, hl⟩ := fr_entry (m := m) (n := 3) hargs (Nat.le_of_ble_eq_true rfl)
  rw [els]
  have hl : lv_has ls 3 [(0, .ref (ad 60)), (1, .int (iI a1))] := hl
  clear els hargs hp B
  refine lv_aload_n C.1 C.2.1 dX8_undo_0 rfl (lv_at hl 0 rfl) ?_
  refine lv_iload_n C.1 C.2.1 dX8_undo_1 rfl (lv_at hl 1 rfl) ?_
  refine fr_Vi C G (c_X8_isPlate l D cy L ad _ hL a1 x _ hw) (cwV 1 C.2.2.2.2 gX8_undo_X8_isPlate rfl rfl rfl (by decide +kernel) ⟨Nat.le_of_ble_eq_true rfl, Nat.le_of_ble_eq_true rfl⟩) (G.recv (hL _ (by omega)) (cl_60 _) rfl) rfl hl.1 rfl (Nat.le_of_ble_eq_true rfl) dX8_undo_2 ⟨Nat.zero_le _, Nat.zero_le _⟩ (fun z_2 x_1 H locs hw G => ?_)
  obtain ⟨hc_16, hw⟩ := hw
  refine fr_ne0 (tgt := 11) C dX8_undo_5 (by decide) hc_16 (fun q_3 => ?_) (fun q_3 => ?_)
  · have hw := if_p hw q_3
    refine fr_bi C dX8_undo_8 rfl ?_
    exact fr_iret C G hr hlk hw dX8_undo_10
  · have hw := if_n hw q_3
    refine lv_aload_n C.1 C.2.1 dX8_undo_11 rfl (lv_at hl 0 rfl) ?_
    refine fr_get C G 60 (hL _ (by omega)) (cl_60 _) rfl iw_X8_undo_X8 3 (by decide) fl_X8_undo_17 rfl dX8_undo_12 ?_
    refine lv_iload_n C.1 C.2.1 dX8_undo_15 rfl (lv_at hl 1 rfl) ?_
    obtain ⟨hb_4, hw⟩ := hw
    refine fr_iald C G 62 4 (hL _ (by omega)) rfl ⟨by decide, by decide⟩ hb_4 dX8_undo_16 ?_
    obtain ⟨hc_15, hw⟩ := hw
    refine fr_ne0 (tgt := 23) C dX8_undo_17 (by decide) hc_15 (fun q_5 => ?_) (fun q_5 => ?_)
    · have hw := if_p hw q_5
      refine fr_bi C dX8_undo_20 rfl ?_
      exact fr_iret C G hr hlk hw dX8_undo_22
    · have hw := if_n hw q_5
      refine lv_aload_n C.1 C.2.1 dX8_undo_23 rfl (lv_at hl 0 rfl) ?_
      refine fr_get C G 60 (hL _ (by omega)) (cl_60 _) rfl iw_X8_undo_X8 3 (by decide) fl_X8_undo_17 rfl dX8_undo_24 ?_
      refine lv_iload_n C.1 C.2.1 dX8_undo_27 rfl (lv_at hl 1 rfl) ?_
      refine lv_dup2_11 C.1 C.2.1 dX8_undo_28 rfl rfl ?_
      obtain ⟨hb_6, hw⟩ := hw
      refine fr_iald C G 62 4 (hL _ (by omega)) rfl ⟨by decide, by decide⟩ hb_6 dX8_undo_29 ?_
      refine fr_ic C dX8_undo_30 ?_
      refine fr_isub C dX8_undo_31 ?_
      obtain ⟨hb_7, hw⟩ := hw
      refine fr_iast C G 62 4 (hL _ (by omega)) rfl ⟨by decide, by decide⟩ hb_7 dX8_undo_32 (fun x_8 H locs ex_8 G => ?_)
      have hw := hw x_8 ex_8
      refine lv_aload_n C.1 C.2.1 dX8_undo_33 rfl (lv_at hl 0 rfl) ?_
      refine fr_get C G 60 (hL _ (by omega)) (cl_60 _) rfl iw_X8_undo_X8 4 (by decide) fl_X8_undo_20 rfl dX8_undo_34 ?_
      refine fr_bi C dX8_undo_37 rfl ?_
      refine lv_iload_n C.1 C.2.1 dX8_undo_39 rfl (lv_at hl 1 rfl) ?_
      refine fr_imul C dX8_undo_40 ?_
      refine lv_aload_n C.1 C.2.1 dX8_undo_41 rfl (lv_at hl 0 rfl) ?_
      refine fr_get C G 60 (hL _ (by omega)) (cl_60 _) rfl iw_X8_undo_X8 3 (by decide) fl_X8_undo_17 rfl dX8_undo_42 ?_
      refine lv_iload_n C.1 C.2.1 dX8_undo_45 rfl (lv_at hl 1 rfl) ?_
      obtain ⟨hb_9, hw⟩ := hw
      refine fr_iald C G 62 4 (hL _ (by omega)) rfl ⟨by decide, by decide⟩ hb_9 dX8_undo_46 ?_
      refine fr_iadd C dX8_undo_47 ?_
      obtain ⟨hb_10, hw⟩ := hw
      refine fr_iald C G 63 80 (hL _ (by omega)) rfl ⟨by decide, by decide⟩ hb_10 dX8_undo_48 ?_
      refine fr_nm (fun v2_11 ev2_11 => ?_)
      have hw := hw v2_11 ev2_11
      refine lv_istore_n (lv' := [(2, .int (iI v2_11)), (0, .ref (ad 60)), (1, .int (iI a1))]) C.1 C.2.1 dX8_undo_49 rfl hl (by decide) rfl (fun ls hl => ?_)
      refine lv_aload_n C.1 C.2.1 dX8_undo_50 rfl (lv_at hl 1 rfl) ?_
      refine fr_get C G 60 (hL _ (by omega)) (cl_60 _) rfl iw_X8_undo_X8 1 (by decide) fl_X8_undo_7 rfl dX8_undo_51 ?_
      refine fr_ic C dX8_undo_54 ?_
      refine lv_iload_n C.1 C.2.1 dX8_undo_55 rfl (lv_at hl 2 rfl) ?_
      refine fr_imul C dX8_undo_56 ?_
      refine lv_iload_n C.1 C.2.1 dX8_undo_57 rfl (lv_at hl 0 rfl) ?_
      refine fr_iadd C dX8_undo_58 ?_
      refine lv_dup2_11 C.1 C.2.1 dX8_undo_59 rfl rfl ?_
      obtain ⟨hb_12, hw⟩ := hw
      refine fr_iald C G 61 16 (hL _ (by omega)) rfl ⟨by decide, by decide⟩ hb_12 dX8_undo_60 ?_
      refine fr_ic C dX8_undo_61 ?_
      refine fr_iadd C dX8_undo_62 ?_
      obtain ⟨hb_13, hw⟩ := hw
      refine fr_iast C G 61 16 (hL _ (by omega)) rfl ⟨by decide, by decide⟩ hb_13 dX8_undo_63 (fun x_14 H locs ex_14 G => ?_)
      have hw := hw x_14 ex_14
      refine lv_iload_n C.1 C.2.1 dX8_undo_64 rfl (lv_at hl 0 rfl) ?_
      exact fr_iret C G hr hlk hw dX8_undo_65
def wX_X8_mirror_13 (a1 : Int) (post : Int → Mm → Prop) (v2_4 : Int) (x_5 : Mm) : Prop :=
  (0 ≤ a1 ∧ a1 < 4) ∧ (∀ x_7 : Mm, x_7 = up2 x_5 62 (a1).toNat 0 → post 1 x_7)
def wB_X8_mirror_13 (a1 : Int) (kx_13 bk_13 : Int → Mm → Prop) (v2_4 : Int) (x_5 : Mm) : Prop :=
  rg v2_4 ∧ (if 2 ≤ v2_4 then (kx_13 v2_4 x_5) else ((0 ≤ (4 * a1) + v2_4 ∧ (4 * a1) + v2_4 < 16) ∧ ∀ v3_10 : Int, v3_10 = x_5 61 ((4 * a1) + v2_4).toNat → (0 ≤ ((4 * a1) + 3) - v2_4 ∧ ((4 * a1) + 3) - v2_4 < 16) ∧ (0 ≤ (4 * a1) + v2_4 ∧ (4 * a1) + v2_4 < 16) ∧ (∀ x_13 : Mm, x_13 = up2 x_5 61 ((4 * a1) + v2_4).toNat (x_5 61 (((4 * a1) + 3) - v2_4).toNat) → (0 ≤ ((4 * a1) + 3) - v2_4 ∧ ((4 * a1) + 3) - v2_4 < 16) ∧ (∀ x_15 : Mm, x_15 = up2 x_13 61 (((4 * a1) + 3) - v2_4).toNat v3_10 → ∀ v2_16 : Int, v2_16 = v2_4 + 1 → bk_13 v2_16 x_15))))
def w_X8_mirror (a1 : Int) (x : Mm) (post : Int → Mm → Prop) : Prop :=
  w_X8_isPlate a1 x (fun z_2 x_1 => rg z_2 ∧ (if z_2 = 0 then (post (-2) x_1) else (∃ n : Nat, lk2 (wB_X8_mirror_13 a1 (wX_X8_mirror_13 a1 post)) n 0 x_1)))
abbrev rm_X8_mirror : Room := { frames := 2, cells := 0, slots := 0, locals := 43 }
theorem iw_X8_mirror_X8 : ∀ w ∈ u_ws RX8 TX8 20, w ∈ wsX8_mirror := by decide +kernel
theorem fl_X8_mirror_17 : Cond.fieldLink RX8 17 (TX8 3).1 (TX8 3).2.1 (TX8 3).2.2.1 ∈ wsX8_mirror := by decide +kernel
theorem fl_X8_mirror_7 : Cond.fieldLink RX8 7 (TX8 1).1 (TX8 1).2.1 (TX8 1).2.2.1 ∈ wsX8_mirror := by decide +kernel
set_option maxHeartbeats 4000000 in
set_option maxRecDepth 100000 in
theorem c_X8_mirror (l : Launch) (D : va_G) (cy : Nat → ClassId) (L : List Nat) (ad : Nat → Nat) (sz : Nat) (hL : fLM L) (a1 : Int) (x : Mm) (post : Int → Mm → Prop) (hw : w_X8_mirror a1 x post) : fMi l yX8_mirror wsX8_mirror rm_X8_mirror [.ref (ad 60), .int (iI a1)] D cy L ad sz x post := by
  refine Met.ofW (cc := cX8_mirror) (maxL := 4) (ret := (some .int)) (by decide) rfl ?_
  intro p e s m args below meth c s₁ B hml hv
  obtain ⟨hargs, hp⟩ := hv
  obtain ⟨C, hr, hlk, hsz, G⟩ := fr_start B hml hp
  subst hsz
  obtain ⟨ls, els, hl⟩ := fr_entry (m := m) (n := 4) hargs (Nat.le_of_ble_eq_true rfl)
  rw [els]
  have hl : lv_has ls 4 [(0, .ref (ad 60)), (1, .int (iI a1))] := hl
  clear els hargs hp B
  refine lv_aload_n C.1 C.2.1 dX8_mirror_0 rfl (lv_at hl 0 rfl) ?_
  refine lv_iload_n C.1 C.2.1 dX8_mirror_1 rfl (lv_at hl 1 rfl) ?_
  refine fr_Vi C G (c_X8_isPlate l D cy L ad _ hL a1 x _ hw) (cwV 1 C.2.2.2.2 gX8_mirror_X8_isPlate rfl rfl rfl (by decide +kernel) ⟨Nat.le_of_ble_eq_true rfl, Nat.le_of_ble_eq_true rfl⟩) (G.recv (hL _ (by omega)) (cl_60 _) rfl) rfl hl.1 rfl (Nat.le_of_ble_eq_true rfl) dX8_mirror_2 ⟨Nat.zero_le _, Nat.zero_le _⟩ (fun z_2 x_1 H locs hw G => ?_)
  obtain ⟨hc_18, hw⟩ := hw
  refine fr_ne0 (tgt := 11) C dX8_mirror_5 (by decide) hc_18 (fun q_3 => ?_) (fun q_3 => ?_)
  · have hw := if_p hw q_3
    refine fr_bi C dX8_mirror_8 rfl ?_
    exact fr_iret C G hr hlk hw dX8_mirror_10
  · have hw := if_n hw q_3
    refine fr_ic C dX8_mirror_11 ?_
    refine lv_istore_n (lv' := [(2, .int (iI 0)), (0, .ref (ad 60)), (1, .int (iI a1))]) C.1 C.2.1 dX8_mirror_12 rfl hl (by decide) rfl (fun ls hl => ?_)
    obtain ⟨n13, hw⟩ := hw
    have hS13 : ∀ (kx_13 bk_13 : Int → Mm → Prop), (∀ (v2_4 : Int) (x_5 : Mm) (H : Heap) (locs : List Loc) (ls : Array Slot), kx_13 v2_4 x_5 → fG D cy L ad (fAr L ad s.heap.size) s x_5 H locs → lv_has ls 4 [(0, .ref (ad 60)), (1, .int (iI a1)), (2, .int (iI v2_4))] → W p l e (headSpec wsX8_mirror rm_X8_mirror).room s m args below meth c H locs 0 0 (fQi below D cy L ad s args post) (F0 m 70 ls [])) → (∀ (v2_4 : Int) (x_5 : Mm) (H : Heap) (locs : List Loc) (ls : Array Slot), bk_13 v2_4 x_5 → fG D cy L ad (fAr L ad s.heap.size) s x_5 H locs → lv_has ls 4 [(0, .ref (ad 60)), (1, .int (iI a1)), (2, .int (iI v2_4))] → W p l e (headSpec wsX8_mirror rm_X8_mirror).room s m args below meth c H locs 0 0 (fQi below D cy L ad s args post) (F0 m 13 ls [])) → ∀ (v2_4 : Int) (x_5 : Mm) (H : Heap) (locs : List Loc) (ls : Array Slot), wB_X8_mirror_13 a1 kx_13 bk_13 v2_4 x_5 → fG D cy L ad (fAr L ad s.heap.size) s x_5 H locs → lv_has ls 4 [(0, .ref (ad 60)), (1, .int (iI a1)), (2, .int (iI v2_4))] → W p l e (headSpec wsX8_mirror rm_X8_mirror).room s m args below meth c H locs 0 0 (fQi below D cy L ad s args post) (F0 m 13 ls []) := by
      intro kx_13 bk_13 hX13 ih13 v2_4 x_5 H locs ls hw G hl
      refine lv_iload_n C.1 C.2.1 dX8_mirror_13 rfl (lv_at hl 2 rfl) ?_
      refine fr_ic C dX8_mirror_14 ?_
      obtain ⟨hc_17, hw⟩ := hw
      refine fr_ge (tgt := 70) C dX8_mirror_15 (by decide) ⟨hc_17, ⟨by decide, by decide⟩⟩ (fun q_8 => ?_) (fun q_8 => ?_)
      · have hw := if_p hw q_8
        exact hX13 v2_4 x_5 _ _ _ hw G (lv_sub hl [0, 1, 2] rfl)
      · have hw := if_n hw q_8
        refine lv_aload_n C.1 C.2.1 dX8_mirror_18 rfl (lv_at hl 0 rfl) ?_
        refine fr_get C G 60 (hL _ (by omega)) (cl_60 _) rfl iw_X8_mirror_X8 1 (by decide) fl_X8_mirror_7 rfl dX8_mirror_19 ?_
        refine fr_ic C dX8_mirror_22 ?_
        refine lv_iload_n C.1 C.2.1 dX8_mirror_23 rfl (lv_at hl 1 rfl) ?_
        refine fr_imul C dX8_mirror_24 ?_
        refine lv_iload_n C.1 C.2.1 dX8_mirror_25 rfl (lv_at hl 2 rfl) ?_
        refine fr_iadd C dX8_mirror_26 ?_
        obtain ⟨hb_9, hw⟩ := hw
        refine fr_iald C G 61 16 (hL _ (by omega)) rfl ⟨by decide, by decide⟩ hb_9 dX8_mirror_27 ?_
        refine fr_nm (fun v3_10 ev3_10 => ?_)
        have hw := hw v3_10 ev3_10
        refine lv_istore_n (lv' := [(3, .int (iI v3_10)), (0, .ref (ad 60)), (1, .int (iI a1)), (2, .int (iI v2_4))]) C.1 C.2.1 dX8_mirror_28 rfl hl (by decide) rfl (fun ls hl => ?_)
        refine lv_aload_n C.1 C.2.1 dX8_mirror_29 rfl (lv_at hl 1 rfl) ?_
        refine fr_get C G 60 (hL _ (by omega)) (cl_60 _) rfl iw_X8_mirror_X8 1 (by decide) fl_X8_mirror_7 rfl dX8_mirror_30 ?_
        refine fr_ic C dX8_mirror_33 ?_
        refine lv_iload_n C.1 C.2.1 dX8_mirror_34 rfl (lv_at hl 2 rfl) ?_
        refine fr_imul C dX8_mirror_35 ?_
        refine lv_iload_n C.1 C.2.1 dX8_mirror_36 rfl (lv_at hl 3 rfl) ?_
        refine fr_iadd C dX8_mirror_37 ?_
        refine lv_aload_n C.1 C.2.1 dX8_mirror_38 rfl (lv_at hl 1 rfl) ?_
        refine fr_get C G 60 (hL _ (by omega)) (cl_60 _) rfl iw_X8_mirror_X8 1 (by decide) fl_X8_mirror_7 rfl dX8_mirror_39 ?_
        refine fr_ic C dX8_mirror_42 ?_
        refine lv_iload_n C.1 C.2.1 dX8_mirror_43 rfl (lv_at hl 2 rfl) ?_
        refine fr_imul C dX8_mirror_44 ?_
        refine fr_ic C dX8_mirror_45 ?_
        refine fr_iadd C dX8_mirror_46 ?_
        refine lv_iload_n C.1 C.2.1 dX8_mirror_47 rfl (lv_at hl 3 rfl) ?_
        refine fr_isub C dX8_mirror_48 ?_
        obtain ⟨hb_11, hw⟩ := hw
        refine fr_iald C G 61 16 (hL _ (by omega)) rfl ⟨by decide, by decide⟩ hb_11 dX8_mirror_49 ?_
        obtain ⟨hb_12, hw⟩ := hw
        refine fr_iast C G 61 16 (hL _ (by omega)) rfl ⟨by decide, by decide⟩ hb_12 dX8_mirror_50 (fun x_13 H locs ex_13 G => ?_)
        have hw := hw x_13 ex_13
        refine lv_aload_n C.1 C.2.1 dX8_mirror_51 rfl (lv_at hl 1 rfl) ?_
        refine fr_get C G 60 (hL _ (by omega)) (cl_60 _) rfl iw_X8_mirror_X8 1 (by decide) fl_X8_mirror_7 rfl dX8_mirror_52 ?_
        refine fr_ic C dX8_mirror_55 ?_
        refine lv_iload_n C.1 C.2.1 dX8_mirror_56 rfl (lv_at hl 2 rfl) ?_
        refine fr_imul C dX8_mirror_57 ?_
        refine fr_ic C dX8_mirror_58 ?_
        refine fr_iadd C dX8_mirror_59 ?_
        refine lv_iload_n C.1 C.2.1 dX8_mirror_60 rfl (lv_at hl 3 rfl) ?_
        refine fr_isub C dX8_mirror_61 ?_
        refine lv_iload_n C.1 C.2.1 dX8_mirror_62 rfl (lv_at hl 0 rfl) ?_
        obtain ⟨hb_14, hw⟩ := hw
        refine fr_iast C G 61 16 (hL _ (by omega)) rfl ⟨by decide, by decide⟩ hb_14 dX8_mirror_63 (fun x_15 H locs ex_15 G => ?_)
        have hw := hw x_15 ex_15
        obtain ⟨v2_16, ev2_16⟩ : ∃ z : Int, z = v2_4 + 1 := ⟨_, rfl⟩
        have hw := hw v2_16 ev2_16
        refine lv_iinc (v := iI v2_16) (lv' := [(2, .int (iI v2_16)), (3, .int (iI v3_10)), (0, .ref (ad 60)), (1, .int (iI a1))]) C.1 C.2.1 dX8_mirror_64 hl (k := 3) rfl (by rw [ev2_16]; exact iI_add _ _) (by decide) rfl (fun ls hl => ?_)
        refine lv_goto (tgt := 13) C.1 C.2.1 dX8_mirror_67 (by decide) ?_
        exact ih13 v2_16 x_15 _ _ _ hw G (lv_sub hl [2, 3, 0] rfl)
    have hX13 : ∀ (v2_4 : Int) (x_5 : Mm) (H : Heap) (locs : List Loc) (ls : Array Slot), wX_X8_mirror_13 a1 post v2_4 x_5 → fG D cy L ad (fAr L ad s.heap.size) s x_5 H locs → lv_has ls 4 [(0, .ref (ad 60)), (1, .int (iI a1)), (2, .int (iI v2_4))] → W p l e (headSpec wsX8_mirror rm_X8_mirror).room s m args below meth c H locs 0 0 (fQi below D cy L ad s args post) (F0 m 70 ls []) := by
      intro v2_4 x_5 H locs ls hw G hl
      refine lv_aload_n C.1 C.2.1 dX8_mirror_70 rfl (lv_at hl 0 rfl) ?_
      refine fr_get C G 60 (hL _ (by omega)) (cl_60 _) rfl iw_X8_mirror_X8 3 (by decide) fl_X8_mirror_17 rfl dX8_mirror_71 ?_
      refine lv_iload_n C.1 C.2.1 dX8_mirror_74 rfl (lv_at hl 1 rfl) ?_
      refine fr_ic C dX8_mirror_75 ?_
      obtain ⟨hb_6, hw⟩ := hw
      refine fr_iast C G 62 4 (hL _ (by omega)) rfl ⟨by decide, by decide⟩ hb_6 dX8_mirror_76 (fun x_7 H locs ex_7 G => ?_)
      have hw := hw x_7 ex_7
      refine fr_ic C dX8_mirror_77 ?_
      exact fr_iret C G hr hlk hw dX8_mirror_78
    have hB13 : ∀ (n : Nat) (v2_4 : Int) (x_5 : Mm) (H : Heap) (locs : List Loc) (ls : Array Slot), lk2 (wB_X8_mirror_13 a1 (wX_X8_mirror_13 a1 post)) n v2_4 x_5 → fG D cy L ad (fAr L ad s.heap.size) s x_5 H locs → lv_has ls 4 [(0, .ref (ad 60)), (1, .int (iI a1)), (2, .int (iI v2_4))] → W p l e (headSpec wsX8_mirror rm_X8_mirror).room s m args below meth c H locs 0 0 (fQi below D cy L ad s args post) (F0 m 13 ls []) := by
      intro n
      induction n with
      | zero =>
        intro v2_4 x_5 H locs ls hw
        exact hw.elim
      | succ n ih =>
        intro v2_4 x_5 H locs ls hw G hl
        exact hS13 _ _ hX13 ih v2_4 x_5 H locs ls hw G hl
    exact hB13 n13 0 x_1 _ _ _ hw G (lv_sub hl [1, 2, 0] rfl)
