def w_X7_isWood (a1 a2 : Int) (x : Mm) (post : Int → Mm → Prop) : Prop :=
  rg a1 ∧ (if a1 < 1 then (post 0 x) else (rg a1 ∧ (if 9 < a1 then (post 0 x) else (rg a2 ∧ (if a2 < 1 then (post 0 x) else (rg a2 ∧ (if 9 < a2 then (post 0 x) else (post 1 x))))))))
abbrev rm_X7_isWood : Room := { frames := 0, cells := 0, slots := 0, locals := 0 }
set_option maxHeartbeats 4000000 in
set_option maxRecDepth 100000 in
theorem c_X7_isWood (l : Launch) (D : va_G) (cy : Nat → ClassId) (L : List Nat) (ad : Nat → Nat) (sz : Nat) (a1 a2 : Int) (x : Mm) (post : Int → Mm → Prop) (hw : w_X7_isWood a1 a2 x post) : fMi l yX7_isWood wsX7_isWood rm_X7_isWood [.int (iI a1), .int (iI a2)] D cy L ad sz x post := by
  refine Met.ofW (cc := cX7_isWood) (maxL := 2) (ret := (some .boolean)) (by decide) rfl ?_
  intro p e s m args below meth c s₁ B hml hv
  obtain ⟨hargs, hp⟩ := hv
  obtain ⟨C, hr, hlk, hsz, G⟩ := fr_start B hml hp
  subst hsz
  obtain ⟨ls, els, hl⟩ := fr_entry (m := m) (n := 2) hargs (Nat.le_of_ble_eq_true rfl)
  rw [els]
  have hl : lv_has ls 2 [(0, .int (iI a1)), (1, .int (iI a2))] := hl
  clear els hargs hp B
  refine lv_iload_n C.1 C.2.1 dX7_isWood_0 rfl (lv_at hl 0 rfl) ?_
  refine fr_ic C dX7_isWood_1 ?_
  obtain ⟨hc_8, hw⟩ := hw
  refine fr_lt (tgt := 26) C dX7_isWood_2 (by decide) ⟨hc_8, ⟨by decide, by decide⟩⟩ (fun q_1 => ?_) (fun q_1 => ?_)
  · have hw := if_p hw q_1
    refine fr_ic C dX7_isWood_26 ?_
    exact fr_zret C G hr hlk (by decide) hw dX7_isWood_27
  · have hw := if_n hw q_1
    refine lv_iload_n C.1 C.2.1 dX7_isWood_5 rfl (lv_at hl 0 rfl) ?_
    refine fr_bi C dX7_isWood_6 rfl ?_
    obtain ⟨hc_7, hw⟩ := hw
    refine fr_gt (tgt := 26) C dX7_isWood_8 (by decide) ⟨hc_7, ⟨by decide, by decide⟩⟩ (fun q_2 => ?_) (fun q_2 => ?_)
    · have hw := if_p hw q_2
      refine fr_ic C dX7_isWood_26 ?_
      exact fr_zret C G hr hlk (by decide) hw dX7_isWood_27
    · have hw := if_n hw q_2
      refine lv_iload_n C.1 C.2.1 dX7_isWood_11 rfl (lv_at hl 1 rfl) ?_
      refine fr_ic C dX7_isWood_12 ?_
      obtain ⟨hc_6, hw⟩ := hw
      refine fr_lt (tgt := 26) C dX7_isWood_13 (by decide) ⟨hc_6, ⟨by decide, by decide⟩⟩ (fun q_3 => ?_) (fun q_3 => ?_)
      · have hw := if_p hw q_3
        refine fr_ic C dX7_isWood_26 ?_
        exact fr_zret C G hr hlk (by decide) hw dX7_isWood_27
      · have hw := if_n hw q_3
        refine lv_iload_n C.1 C.2.1 dX7_isWood_16 rfl (lv_at hl 1 rfl) ?_
        refine fr_bi C dX7_isWood_17 rfl ?_
        obtain ⟨hc_5, hw⟩ := hw
        refine fr_gt (tgt := 26) C dX7_isWood_19 (by decide) ⟨hc_5, ⟨by decide, by decide⟩⟩ (fun q_4 => ?_) (fun q_4 => ?_)
        · have hw := if_p hw q_4
          refine fr_ic C dX7_isWood_26 ?_
          exact fr_zret C G hr hlk (by decide) hw dX7_isWood_27
        · have hw := if_n hw q_4
          refine fr_ic C dX7_isWood_22 ?_
          refine lv_goto (tgt := 27) C.1 C.2.1 dX7_isWood_23 (by decide) ?_
          exact fr_zret C G hr hlk (by decide) hw dX7_isWood_27
def w_X7_tone (a1 a2 a3 a4 : Int) (x : Mm) (post : Int → Mm → Prop) : Prop :=
  w_X7_isPlate a1 x (fun z_2 x_1 => rg z_2 ∧ (if z_2 = 0 then (post (-2) x_1) else (w_X7_isWood a2 a3 x_1 (fun z_5 x_4 => rg z_5 ∧ (if z_5 = 0 then (post (-2) x_4) else (w_X7_isTone a4 x_4 (fun z_8 x_7 => rg z_8 ∧ (if z_8 = 0 then (post (-2) x_7) else ((0 ≤ a1 ∧ a1 < 4) ∧ w_X5_wholeValue (20 + 3 * (a1).toNat + 1) a2 a4 x_7 (fun z_12 x_11 => w_X5_byWeight z_12 a3 x_11 (fun z_14 x_13 => post z_14 x_13)))))))))))
abbrev rm_X7_tone : Room := { frames := 3, cells := 0, slots := 0, locals := 84 }
theorem iw_X7_tone_X7 : ∀ w ∈ u_ws RX7 TX7 10, w ∈ wsX7_tone := by decide +kernel
theorem fl_X7_tone_11 : Cond.fieldLink RX7 11 (TX7 0).1 (TX7 0).2.1 (TX7 0).2.2.1 ∈ wsX7_tone := by decide +kernel
theorem iw_X7_tone_X4 : ∀ w ∈ u_ws RX4 TX4 3, w ∈ wsX7_tone := by decide +kernel
theorem fl_X7_tone_75 : Cond.fieldLink RX7 75 (TX4 0).1 (TX4 0).2.1 (TX4 0).2.2.1 ∈ wsX7_tone := by decide +kernel
set_option maxHeartbeats 4000000 in
set_option maxRecDepth 100000 in
theorem c_X7_tone (l : Launch) (D : va_G) (cy : Nat → ClassId) (L : List Nat) (ad : Nat → Nat) (sz : Nat) (hL : fLA L) (a1 a2 a3 a4 : Int) (x : Mm) (post : Int → Mm → Prop) (hw : w_X7_tone a1 a2 a3 a4 x post) : fMi l yX7_tone wsX7_tone rm_X7_tone [.ref (ad 0), .int (iI a1), .int (iI a2), .int (iI a3), .int (iI a4)] D cy L ad sz x post := by
  refine Met.ofW (cc := cX7_tone) (maxL := 5) (ret := (some .int)) (by decide) rfl ?_
  intro p e s m args below meth c s₁ B hml hv
  obtain ⟨hargs, hp⟩ := hv
  obtain ⟨C, hr, hlk, hsz, G⟩ := fr_start B hml hp
  subst hsz
  obtain ⟨ls, els, hl⟩ := fr_entry (m := m) (n := 5) hargs (Nat.le_of_ble_eq_true rfl)
  rw [els]
  have hl : lv_has ls 5 [(0, .ref (ad 0)), (1, .int (iI a1)), (2, .int (iI a2)), (3, .int (iI a3)), (4, .int (iI a4))] := hl
  clear els hargs hp B
  refine lv_aload_n C.1 C.2.1 dX7_tone_0 rfl (lv_at hl 0 rfl) ?_
  refine lv_iload_n C.1 C.2.1 dX7_tone_1 rfl (lv_at hl 1 rfl) ?_
  refine fr_Vi C G (c_X7_isPlate l D cy L ad _ hL a1 x _ hw) (cwV 1 C.2.2.2.2 gX7_tone_X7_isPlate rfl rfl rfl (by decide +kernel) ⟨Nat.le_of_ble_eq_true rfl, Nat.le_of_ble_eq_true rfl⟩) (G.recv (hL _ (by omega)) (cl_0 _) rfl) rfl hl.1 rfl (Nat.le_of_ble_eq_true rfl) dX7_tone_2 ⟨Nat.zero_le _, Nat.zero_le _⟩ (fun z_2 x_1 H locs hw G => ?_)
  obtain ⟨hc_17, hw⟩ := hw
  refine fr_eq0 (tgt := 24) C dX7_tone_5 (by decide) hc_17 (fun q_3 => ?_) (fun q_3 => ?_)
  · have hw := if_p hw q_3
    refine fr_bi C dX7_tone_24 rfl ?_
    exact fr_iret C G hr hlk hw dX7_tone_26
  · have hw := if_n hw q_3
    refine lv_iload_n C.1 C.2.1 dX7_tone_8 rfl (lv_at hl 2 rfl) ?_
    refine lv_iload_n C.1 C.2.1 dX7_tone_9 rfl (lv_at hl 3 rfl) ?_
    refine fr_Si C G (c_X7_isWood l D cy L ad _ a2 a3 x_1 _ hw) (va_cwS 2 C.2.2.2.2 gX7_tone_X7_isWood rfl rfl rfl (by decide +kernel) ⟨Nat.le_of_ble_eq_true rfl, Nat.le_of_ble_eq_true rfl⟩) rfl hl.1 rfl (Nat.le_of_ble_eq_true rfl) dX7_tone_10 ⟨Nat.zero_le _, Nat.zero_le _⟩ (fun z_5 x_4 H locs hw G => ?_)
    obtain ⟨hc_16, hw⟩ := hw
    refine fr_eq0 (tgt := 24) C dX7_tone_13 (by decide) hc_16 (fun q_6 => ?_) (fun q_6 => ?_)
    · have hw := if_p hw q_6
      refine fr_bi C dX7_tone_24 rfl ?_
      exact fr_iret C G hr hlk hw dX7_tone_26
    · have hw := if_n hw q_6
      refine lv_iload C.1 C.2.1 dX7_tone_16 (lv_at hl 4 rfl) ?_
      refine fr_Si C G (c_X7_isTone l D cy L ad _ a4 x_4 _ hw) (va_cwS 1 C.2.2.2.2 gX7_tone_X7_isTone rfl rfl rfl (by decide +kernel) ⟨Nat.le_of_ble_eq_true rfl, Nat.le_of_ble_eq_true rfl⟩) rfl hl.1 rfl (Nat.le_of_ble_eq_true rfl) dX7_tone_18 ⟨Nat.zero_le _, Nat.zero_le _⟩ (fun z_8 x_7 H locs hw G => ?_)
      obtain ⟨hc_15, hw⟩ := hw
      refine fr_ne0 (tgt := 27) C dX7_tone_21 (by decide) hc_15 (fun q_9 => ?_) (fun q_9 => ?_)
      · have hw := if_p hw q_9
        refine fr_bi C dX7_tone_24 rfl ?_
        exact fr_iret C G hr hlk hw dX7_tone_26
      · have hw := if_n hw q_9
        refine lv_aload_n C.1 C.2.1 dX7_tone_27 rfl (lv_at hl 0 rfl) ?_
        refine fr_get C G 0 (hL _ (by omega)) (cl_0 _) rfl iw_X7_tone_X7 0 (by decide) fl_X7_tone_11 rfl dX7_tone_28 ?_
        refine lv_iload_n C.1 C.2.1 dX7_tone_31 rfl (lv_at hl 1 rfl) ?_
        obtain ⟨hb_10, hw⟩ := hw
        refine fr_apl C G (hL _ (by omega)) hb_10 dX7_tone_32 ?_
        refine fr_get C G (20 + 3 * (a1).toNat) (hL _ (by omega)) (cell_pl _ (by omega)) rfl iw_X7_tone_X4 0 (by decide) fl_X7_tone_75 rfl dX7_tone_33 ?_
        refine lv_iload_n C.1 C.2.1 dX7_tone_36 rfl (lv_at hl 2 rfl) ?_
        refine lv_iload C.1 C.2.1 dX7_tone_37 (lv_at hl 4 rfl) ?_
        refine fr_Si C G (c_X5_wholeValue l D cy L ad _ (20 + 3 * (a1).toNat + 1) (hL _ (by omega)) ((al_pl _ (by omega)).2.1) a2 a4 x_7 _ hw) (va_cwS 3 C.2.2.2.2 gX7_tone_X5_wholeValue rfl rfl rfl (by decide +kernel) ⟨Nat.le_of_ble_eq_true rfl, Nat.le_of_ble_eq_true rfl⟩) rfl hl.1 rfl (Nat.le_of_ble_eq_true rfl) dX7_tone_39 ⟨Nat.zero_le _, Nat.zero_le _⟩ (fun z_12 x_11 H locs hw G => ?_)
        refine lv_iload_n C.1 C.2.1 dX7_tone_42 rfl (lv_at hl 3 rfl) ?_
        refine fr_Si C G (c_X5_byWeight l D cy L ad _ z_12 a3 x_11 _ hw) (va_cwS 2 C.2.2.2.2 gX7_tone_X5_byWeight rfl rfl rfl (by decide +kernel) ⟨Nat.le_of_ble_eq_true rfl, Nat.le_of_ble_eq_true rfl⟩) rfl hl.1 rfl (Nat.le_of_ble_eq_true rfl) dX7_tone_43 ⟨Nat.zero_le _, Nat.zero_le _⟩ (fun z_14 x_13 H locs hw G => ?_)
        exact fr_iret C G hr hlk hw dX7_tone_46
def w_X7_isNumber (a1 : Int) (x : Mm) (post : Int → Mm → Prop) : Prop :=
  rg a1 ∧ (if a1 < 0 then (post 0 x) else (rg a1 ∧ (if 500 < a1 then (post 0 x) else (post 1 x))))
abbrev rm_X7_isNumber : Room := { frames := 0, cells := 0, slots := 0, locals := 0 }
set_option maxHeartbeats 4000000 in
set_option maxRecDepth 100000 in
theorem c_X7_isNumber (l : Launch) (D : va_G) (cy : Nat → ClassId) (L : List Nat) (ad : Nat → Nat) (sz : Nat) (a1 : Int) (x : Mm) (post : Int → Mm → Prop) (hw : w_X7_isNumber a1 x post) : fMi l yX7_isNumber wsX7_isNumber rm_X7_isNumber [.int (iI a1)] D cy L ad sz x post := by
  refine Met.ofW (cc := cX7_isNumber) (maxL := 1) (ret := (some .boolean)) (by decide) rfl ?_
  intro p e s m args below meth c s₁ B hml hv
  obtain ⟨hargs, hp⟩ := hv
  obtain ⟨C, hr, hlk, hsz, G⟩ := fr_start B hml hp
  subst hsz
  obtain ⟨ls, els, hl⟩ := fr_entry (m := m) (n := 1) hargs (Nat.le_of_ble_eq_true rfl)
  rw [els]
  have hl : lv_has ls 1 [(0, .int (iI a1))] := hl
  clear els hargs hp B
  refine lv_iload_n C.1 C.2.1 dX7_isNumber_0 rfl (lv_at hl 0 rfl) ?_
  obtain ⟨hc_4, hw⟩ := hw
  refine fr_lt0 (tgt := 15) C dX7_isNumber_1 (by decide) hc_4 (fun q_1 => ?_) (fun q_1 => ?_)
  · have hw := if_p hw q_1
    refine fr_ic C dX7_isNumber_15 ?_
    exact fr_zret C G hr hlk (by decide) hw dX7_isNumber_16
  · have hw := if_n hw q_1
    refine lv_iload_n C.1 C.2.1 dX7_isNumber_4 rfl (lv_at hl 0 rfl) ?_
    refine fr_si C dX7_isNumber_5 rfl ?_
    obtain ⟨hc_3, hw⟩ := hw
    refine fr_gt (tgt := 15) C dX7_isNumber_8 (by decide) ⟨hc_3, ⟨by decide, by decide⟩⟩ (fun q_2 => ?_) (fun q_2 => ?_)
    · have hw := if_p hw q_2
      refine fr_ic C dX7_isNumber_15 ?_
      exact fr_zret C G hr hlk (by decide) hw dX7_isNumber_16
    · have hw := if_n hw q_2
      refine fr_ic C dX7_isNumber_11 ?_
      refine lv_goto (tgt := 16) C.1 C.2.1 dX7_isNumber_12 (by decide) ?_
      exact fr_zret C G hr hlk (by decide) hw dX7_isNumber_16
def w_X7_below (a1 a2 a3 a4 : Int) (x : Mm) (post : Int → Mm → Prop) : Prop :=
  w_X7_isPlate a1 x (fun z_2 x_1 => rg z_2 ∧ (if z_2 = 0 then (post (-2) x_1) else (w_X7_isWood a2 a3 x_1 (fun z_5 x_4 => rg z_5 ∧ (if z_5 = 0 then (post (-2) x_4) else (w_X7_isNumber a4 x_4 (fun z_8 x_7 => rg z_8 ∧ (if z_8 = 0 then (post (-2) x_7) else ((0 ≤ a1 ∧ a1 < 4) ∧ w_X5_valuesBelow (20 + 3 * (a1).toNat + 1) a2 (a4 * a3) x_7 (fun z_12 x_11 => post z_12 x_11))))))))))
abbrev rm_X7_below : Room := { frames := 2, cells := 0, slots := 0, locals := 60 }
theorem iw_X7_below_X7 : ∀ w ∈ u_ws RX7 TX7 10, w ∈ wsX7_below := by decide +kernel
theorem fl_X7_below_11 : Cond.fieldLink RX7 11 (TX7 0).1 (TX7 0).2.1 (TX7 0).2.2.1 ∈ wsX7_below := by decide +kernel
theorem iw_X7_below_X4 : ∀ w ∈ u_ws RX4 TX4 3, w ∈ wsX7_below := by decide +kernel
theorem fl_X7_below_75 : Cond.fieldLink RX7 75 (TX4 0).1 (TX4 0).2.1 (TX4 0).2.2.1 ∈ wsX7_below := by decide +kernel
set_option maxHeartbeats 4000000 in
set_option maxRecDepth 100000 in
theorem c_X7_below (l : Launch) (D : va_G) (cy : Nat → ClassId) (L : List Nat) (ad : Nat → Nat) (sz : Nat) (hL : fLA L) (a1 a2 a3 a4 : Int) (x : Mm) (post : Int → Mm → Prop) (hw : w_X7_below a1 a2 a3 a4 x post) : fMi l yX7_below wsX7_below rm_X7_below [.ref (ad 0), .int (iI a1), .int (iI a2), .int (iI a3), .int (iI a4)] D cy L ad sz x post := by
  refine Met.ofW (cc := cX7_below) (maxL := 5) (ret := (some .int)) (by decide) rfl ?_
  intro p e s m args below meth c s₁ B hml hv
  obtain ⟨hargs, hp⟩ := hv
  obtain ⟨C, hr, hlk, hsz, G⟩ := fr_start B hml hp
  subst hsz
  obtain ⟨ls, els, hl⟩ := fr_entry (m := m) (n := 5) hargs (Nat.le_of_ble_eq_true rfl)
  rw [els]
  have hl : lv_has ls 5 [(0, .ref (ad 0)), (1, .int (iI a1)), (2, .int (iI a2)), (3, .int (iI a3)), (4, .int (iI a4))] := hl
  clear els hargs hp B
  refine lv_aload_n C.1 C.2.1 dX7_below_0 rfl (lv_at hl 0 rfl) ?_
  refine lv_iload_n C.1 C.2.1 dX7_below_1 rfl (lv_at hl 1 rfl) ?_
  refine fr_Vi C G (c_X7_isPlate l D cy L ad _ hL a1 x _ hw) (cwV 1 C.2.2.2.2 gX7_below_X7_isPlate rfl rfl rfl (by decide +kernel) ⟨Nat.le_of_ble_eq_true rfl, Nat.le_of_ble_eq_true rfl⟩) (G.recv (hL _ (by omega)) (cl_0 _) rfl) rfl hl.1 rfl (Nat.le_of_ble_eq_true rfl) dX7_below_2 ⟨Nat.zero_le _, Nat.zero_le _⟩ (fun z_2 x_1 H locs hw G => ?_)
  obtain ⟨hc_15, hw⟩ := hw
  refine fr_eq0 (tgt := 24) C dX7_below_5 (by decide) hc_15 (fun q_3 => ?_) (fun q_3 => ?_)
  · have hw := if_p hw q_3
    refine fr_bi C dX7_below_24 rfl ?_
    exact fr_iret C G hr hlk hw dX7_below_26
  · have hw := if_n hw q_3
    refine lv_iload_n C.1 C.2.1 dX7_below_8 rfl (lv_at hl 2 rfl) ?_
    refine lv_iload_n C.1 C.2.1 dX7_below_9 rfl (lv_at hl 3 rfl) ?_
    refine fr_Si C G (c_X7_isWood l D cy L ad _ a2 a3 x_1 _ hw) (va_cwS 2 C.2.2.2.2 gX7_below_X7_isWood rfl rfl rfl (by decide +kernel) ⟨Nat.le_of_ble_eq_true rfl, Nat.le_of_ble_eq_true rfl⟩) rfl hl.1 rfl (Nat.le_of_ble_eq_true rfl) dX7_below_10 ⟨Nat.zero_le _, Nat.zero_le _⟩ (fun z_5 x_4 H locs hw G => ?_)
    obtain ⟨hc_14, hw⟩ := hw
    refine fr_eq0 (tgt := 24) C dX7_below_13 (by decide) hc_14 (fun q_6 => ?_) (fun q_6 => ?_)
    · have hw := if_p hw q_6
      refine fr_bi C dX7_below_24 rfl ?_
      exact fr_iret C G hr hlk hw dX7_below_26
    · have hw := if_n hw q_6
      refine lv_iload C.1 C.2.1 dX7_below_16 (lv_at hl 4 rfl) ?_
      refine fr_Si C G (c_X7_isNumber l D cy L ad _ a4 x_4 _ hw) (va_cwS 1 C.2.2.2.2 gX7_below_X7_isNumber rfl rfl rfl (by decide +kernel) ⟨Nat.le_of_ble_eq_true rfl, Nat.le_of_ble_eq_true rfl⟩) rfl hl.1 rfl (Nat.le_of_ble_eq_true rfl) dX7_below_18 ⟨Nat.zero_le _, Nat.zero_le _⟩ (fun z_8 x_7 H locs hw G => ?_)
      obtain ⟨hc_13, hw⟩ := hw
      refine fr_ne0 (tgt := 27) C dX7_below_21 (by decide) hc_13 (fun q_9 => ?_) (fun q_9 => ?_)
      · have hw := if_p hw q_9
        refine fr_bi C dX7_below_24 rfl ?_
        exact fr_iret C G hr hlk hw dX7_below_26
      · have hw := if_n hw q_9
        refine lv_aload_n C.1 C.2.1 dX7_below_27 rfl (lv_at hl 0 rfl) ?_
        refine fr_get C G 0 (hL _ (by omega)) (cl_0 _) rfl iw_X7_below_X7 0 (by decide) fl_X7_below_11 rfl dX7_below_28 ?_
        refine lv_iload_n C.1 C.2.1 dX7_below_31 rfl (lv_at hl 1 rfl) ?_
        obtain ⟨hb_10, hw⟩ := hw
        refine fr_apl C G (hL _ (by omega)) hb_10 dX7_below_32 ?_
        refine fr_get C G (20 + 3 * (a1).toNat) (hL _ (by omega)) (cell_pl _ (by omega)) rfl iw_X7_below_X4 0 (by decide) fl_X7_below_75 rfl dX7_below_33 ?_
        refine lv_iload_n C.1 C.2.1 dX7_below_36 rfl (lv_at hl 2 rfl) ?_
        refine lv_iload C.1 C.2.1 dX7_below_37 (lv_at hl 4 rfl) ?_
        refine lv_iload_n C.1 C.2.1 dX7_below_39 rfl (lv_at hl 3 rfl) ?_
        refine fr_imul C dX7_below_40 ?_
        refine fr_Si C G (c_X5_valuesBelow l D cy L ad _ (20 + 3 * (a1).toNat + 1) (hL _ (by omega)) ((al_pl _ (by omega)).2.1) a2 (a4 * a3) x_7 _ hw) (va_cwS 3 C.2.2.2.2 gX7_below_X5_valuesBelow rfl rfl rfl (by decide +kernel) ⟨Nat.le_of_ble_eq_true rfl, Nat.le_of_ble_eq_true rfl⟩) rfl hl.1 rfl (Nat.le_of_ble_eq_true rfl) dX7_below_41 ⟨Nat.zero_le _, Nat.zero_le _⟩ (fun z_12 x_11 H locs hw G => ?_)
        exact fr_iret C G hr hlk hw dX7_below_44
def w_X7_bond (a1 a2 a3 : Int) (x : Mm) (post : Int → Mm → Prop) : Prop :=
  w_X7_isPlate a1 x (fun z_2 x_1 => rg z_2 ∧ (if z_2 = 0 then (post (-2) x_1) else (rg a2 ∧ (if a2 < 1 then (post (-2) x_1) else (rg a2 ∧ (if 9 < a2 then (post (-2) x_1) else (rg a3 ∧ (if a3 < 0 then (post (-2) x_1) else (rg a3 ∧ (if a3 ≤ 4 then ((0 ≤ a1 ∧ a1 < 4) ∧ w_X5_bondAt (20 + 3 * (a1).toNat + 1) a2 a3 x_1 (fun z_10 x_9 => post z_10 x_9)) else (post (-2) x_1)))))))))))
abbrev rm_X7_bond : Room := { frames := 1, cells := 0, slots := 0, locals := 23 }
theorem iw_X7_bond_X7 : ∀ w ∈ u_ws RX7 TX7 10, w ∈ wsX7_bond := by decide +kernel
theorem fl_X7_bond_11 : Cond.fieldLink RX7 11 (TX7 0).1 (TX7 0).2.1 (TX7 0).2.2.1 ∈ wsX7_bond := by decide +kernel
theorem iw_X7_bond_X4 : ∀ w ∈ u_ws RX4 TX4 3, w ∈ wsX7_bond := by decide +kernel
theorem fl_X7_bond_75 : Cond.fieldLink RX7 75 (TX4 0).1 (TX4 0).2.1 (TX4 0).2.2.1 ∈ wsX7_bond := by decide +kernel
set_option maxHeartbeats 4000000 in
set_option maxRecDepth 100000 in
theorem c_X7_bond (l : Launch) (D : va_G) (cy : Nat → ClassId) (L : List Nat) (ad : Nat → Nat) (sz : Nat) (hL : fLA L) (a1 a2 a3 : Int) (x : Mm) (post : Int → Mm → Prop) (hw : w_X7_bond a1 a2 a3 x post) : fMi l yX7_bond wsX7_bond rm_X7_bond [.ref (ad 0), .int (iI a1), .int (iI a2), .int (iI a3)] D cy L ad sz x post := by
  refine Met.ofW (cc := cX7_bond) (maxL := 4) (ret := (some .int)) (by decide) rfl ?_
  intro p e s m args below meth c s₁ B hml hv
  obtain ⟨hargs, hp⟩ := hv
  obtain ⟨C, hr, hlk, hsz, G⟩ := fr_start B hml hp
  subst hsz
  obtain ⟨ls, els, hl⟩ := fr_entry (m := m) (n := 4) hargs (Nat.le_of_ble_eq_true rfl)
  rw [els]
  have hl : lv_has ls 4 [(0, .ref (ad 0)), (1, .int (iI a1)), (2, .int (iI a2)), (3, .int (iI a3))] := hl
  clear els hargs hp B
  refine lv_aload_n C.1 C.2.1 dX7_bond_0 rfl (lv_at hl 0 rfl) ?_
  refine lv_iload_n C.1 C.2.1 dX7_bond_1 rfl (lv_at hl 1 rfl) ?_
  refine fr_Vi C G (c_X7_isPlate l D cy L ad _ hL a1 x _ hw) (cwV 1 C.2.2.2.2 gX7_bond_X7_isPlate rfl rfl rfl (by decide +kernel) ⟨Nat.le_of_ble_eq_true rfl, Nat.le_of_ble_eq_true rfl⟩) (G.recv (hL _ (by omega)) (cl_0 _) rfl) rfl hl.1 rfl (Nat.le_of_ble_eq_true rfl) dX7_bond_2 ⟨Nat.zero_le _, Nat.zero_le _⟩ (fun z_2 x_1 H locs hw G => ?_)
  obtain ⟨hc_15, hw⟩ := hw
  refine fr_eq0 (tgt := 28) C dX7_bond_5 (by decide) hc_15 (fun q_3 => ?_) (fun q_3 => ?_)
  · have hw := if_p hw q_3
    refine fr_bi C dX7_bond_28 rfl ?_
    exact fr_iret C G hr hlk hw dX7_bond_30
  · have hw := if_n hw q_3
    refine lv_iload_n C.1 C.2.1 dX7_bond_8 rfl (lv_at hl 2 rfl) ?_
    refine fr_ic C dX7_bond_9 ?_
    obtain ⟨hc_14, hw⟩ := hw
    refine fr_lt (tgt := 28) C dX7_bond_10 (by decide) ⟨hc_14, ⟨by decide, by decide⟩⟩ (fun q_4 => ?_) (fun q_4 => ?_)
    · have hw := if_p hw q_4
      refine fr_bi C dX7_bond_28 rfl ?_
      exact fr_iret C G hr hlk hw dX7_bond_30
    · have hw := if_n hw q_4
      refine lv_iload_n C.1 C.2.1 dX7_bond_13 rfl (lv_at hl 2 rfl) ?_
      refine fr_bi C dX7_bond_14 rfl ?_
      obtain ⟨hc_13, hw⟩ := hw
      refine fr_gt (tgt := 28) C dX7_bond_16 (by decide) ⟨hc_13, ⟨by decide, by decide⟩⟩ (fun q_5 => ?_) (fun q_5 => ?_)
      · have hw := if_p hw q_5
        refine fr_bi C dX7_bond_28 rfl ?_
        exact fr_iret C G hr hlk hw dX7_bond_30
      · have hw := if_n hw q_5
        refine lv_iload_n C.1 C.2.1 dX7_bond_19 rfl (lv_at hl 3 rfl) ?_
        obtain ⟨hc_12, hw⟩ := hw
        refine fr_lt0 (tgt := 28) C dX7_bond_20 (by decide) hc_12 (fun q_6 => ?_) (fun q_6 => ?_)
        · have hw := if_p hw q_6
          refine fr_bi C dX7_bond_28 rfl ?_
          exact fr_iret C G hr hlk hw dX7_bond_30
        · have hw := if_n hw q_6
          refine lv_iload_n C.1 C.2.1 dX7_bond_23 rfl (lv_at hl 3 rfl) ?_
          refine fr_ic C dX7_bond_24 ?_
          obtain ⟨hc_11, hw⟩ := hw
          refine fr_le (tgt := 31) C dX7_bond_25 (by decide) ⟨hc_11, ⟨by decide, by decide⟩⟩ (fun q_7 => ?_) (fun q_7 => ?_)
          · have hw := if_p hw q_7
            refine lv_aload_n C.1 C.2.1 dX7_bond_31 rfl (lv_at hl 0 rfl) ?_
            refine fr_get C G 0 (hL _ (by omega)) (cl_0 _) rfl iw_X7_bond_X7 0 (by decide) fl_X7_bond_11 rfl dX7_bond_32 ?_
            refine lv_iload_n C.1 C.2.1 dX7_bond_35 rfl (lv_at hl 1 rfl) ?_
            obtain ⟨hb_8, hw⟩ := hw
            refine fr_apl C G (hL _ (by omega)) hb_8 dX7_bond_36 ?_
            refine fr_get C G (20 + 3 * (a1).toNat) (hL _ (by omega)) (cell_pl _ (by omega)) rfl iw_X7_bond_X4 0 (by decide) fl_X7_bond_75 rfl dX7_bond_37 ?_
            refine lv_iload_n C.1 C.2.1 dX7_bond_40 rfl (lv_at hl 2 rfl) ?_
            refine lv_iload_n C.1 C.2.1 dX7_bond_41 rfl (lv_at hl 3 rfl) ?_
            refine fr_Si C G (c_X5_bondAt l D cy L ad _ (20 + 3 * (a1).toNat + 1) (hL _ (by omega)) ((al_pl _ (by omega)).2.1) a2 a3 x_1 _ hw) (va_cwS 3 C.2.2.2.2 gX7_bond_X5_bondAt rfl rfl rfl (by decide +kernel) ⟨Nat.le_of_ble_eq_true rfl, Nat.le_of_ble_eq_true rfl⟩) rfl hl.1 rfl (Nat.le_of_ble_eq_true rfl) dX7_bond_42 ⟨Nat.zero_le _, Nat.zero_le _⟩ (fun z_10 x_9 H locs hw G => ?_)
            exact fr_iret C G hr hlk hw dX7_bond_45
          · have hw := if_n hw q_7
            refine fr_bi C dX7_bond_28 rfl ?_
            exact fr_iret C G hr hlk hw dX7_bond_30
def w_X7_isSpan (a1 a2 : Int) (x : Mm) (post : Int → Mm → Prop) : Prop :=
  w_X7_isNumber a1 x (fun z_2 x_1 => rg z_2 ∧ (if z_2 = 0 then (post 0 x_1) else (w_X7_isNumber a2 x_1 (fun z_5 x_4 => rg z_5 ∧ (if z_5 = 0 then (post 0 x_4) else ((rg a1 ∧ rg a2) ∧ (if a2 < a1 then (post 0 x_4) else (post 1 x_4))))))))
abbrev rm_X7_isSpan : Room := { frames := 1, cells := 0, slots := 0, locals := 20 }
set_option maxHeartbeats 4000000 in
set_option maxRecDepth 100000 in
theorem c_X7_isSpan (l : Launch) (D : va_G) (cy : Nat → ClassId) (L : List Nat) (ad : Nat → Nat) (sz : Nat) (a1 a2 : Int) (x : Mm) (post : Int → Mm → Prop) (hw : w_X7_isSpan a1 a2 x post) : fMi l yX7_isSpan wsX7_isSpan rm_X7_isSpan [.int (iI a1), .int (iI a2)] D cy L ad sz x post := by
  refine Met.ofW (cc := cX7_isSpan) (maxL := 2) (ret := (some .boolean)) (by decide) rfl ?_
  intro p e s m args below meth c s₁ B hml hv
  obtain ⟨hargs, hp⟩ := hv
  obtain ⟨C, hr, hlk, hsz, G⟩ := fr_start B hml hp
  subst hsz
  obtain ⟨ls, els, hl⟩ := fr_entry (m := m) (n := 2) hargs (Nat.le_of_ble_eq_true rfl)
  rw [els]
  have hl : lv_has ls 2 [(0, .int (iI a1)), (1, .int (iI a2))] := hl
  clear els hargs hp B
  refine lv_iload_n C.1 C.2.1 dX7_isSpan_0 rfl (lv_at hl 0 rfl) ?_
  refine fr_Si C G (c_X7_isNumber l D cy L ad _ a1 x _ hw) (va_cwS 1 C.2.2.2.2 gX7_isSpan_X7_isNumber rfl rfl rfl (by decide +kernel) ⟨Nat.le_of_ble_eq_true rfl, Nat.le_of_ble_eq_true rfl⟩) rfl hl.1 rfl (Nat.le_of_ble_eq_true rfl) dX7_isSpan_1 ⟨Nat.zero_le _, Nat.zero_le _⟩ (fun z_2 x_1 H locs hw G => ?_)
  obtain ⟨hc_10, hw⟩ := hw
  refine fr_eq0 (tgt := 23) C dX7_isSpan_4 (by decide) hc_10 (fun q_3 => ?_) (fun q_3 => ?_)
  · have hw := if_p hw q_3
    refine fr_ic C dX7_isSpan_23 ?_
    exact fr_zret C G hr hlk (by decide) hw dX7_isSpan_24
  · have hw := if_n hw q_3
    refine lv_iload_n C.1 C.2.1 dX7_isSpan_7 rfl (lv_at hl 1 rfl) ?_
    refine fr_Si C G (c_X7_isNumber l D cy L ad _ a2 x_1 _ hw) (va_cwS 1 C.2.2.2.2 gX7_isSpan_X7_isNumber rfl rfl rfl (by decide +kernel) ⟨Nat.le_of_ble_eq_true rfl, Nat.le_of_ble_eq_true rfl⟩) rfl hl.1 rfl (Nat.le_of_ble_eq_true rfl) dX7_isSpan_8 ⟨Nat.zero_le _, Nat.zero_le _⟩ (fun z_5 x_4 H locs hw G => ?_)
    obtain ⟨hc_9, hw⟩ := hw
    refine fr_eq0 (tgt := 23) C dX7_isSpan_11 (by decide) hc_9 (fun q_6 => ?_) (fun q_6 => ?_)
    · have hw := if_p hw q_6
      refine fr_ic C dX7_isSpan_23 ?_
      exact fr_zret C G hr hlk (by decide) hw dX7_isSpan_24
    · have hw := if_n hw q_6
      refine lv_iload_n C.1 C.2.1 dX7_isSpan_14 rfl (lv_at hl 0 rfl) ?_
      refine lv_iload_n C.1 C.2.1 dX7_isSpan_15 rfl (lv_at hl 1 rfl) ?_
      obtain ⟨hc_8, hw⟩ := hw
      refine fr_gt (tgt := 23) C dX7_isSpan_16 (by decide) hc_8 (fun q_7 => ?_) (fun q_7 => ?_)
      · have hw := if_p hw q_7
        refine fr_ic C dX7_isSpan_23 ?_
        exact fr_zret C G hr hlk (by decide) hw dX7_isSpan_24
      · have hw := if_n hw q_7
        refine fr_ic C dX7_isSpan_19 ?_
        refine lv_goto (tgt := 24) C.1 C.2.1 dX7_isSpan_20 (by decide) ?_
        exact fr_zret C G hr hlk (by decide) hw dX7_isSpan_24
def w_X7_tap (a1 a2 a3 a4 : Int) (x : Mm) (post : Int → Mm → Prop) : Prop :=
  w_X7_isPlate a1 x (fun z_2 x_1 => rg z_2 ∧ (if z_2 = 0 then (post (-2) x_1) else (w_X7_isTone a2 x_1 (fun z_5 x_4 => rg z_5 ∧ (if z_5 = 0 then (post (-2) x_4) else (w_X7_isSpan a3 a4 x_4 (fun z_8 x_7 => rg z_8 ∧ (if z_8 = 0 then (post (-2) x_7) else (rg (x_7 2 1) ∧ (if (x_7 2 1) < 12 then ((0 ≤ a1 ∧ a1 < 4) ∧ w_X2_addTap (20 + 3 * (a1).toNat + 1) a2 a3 a4 x_7 (fun x_12 => w_X3_forget x_12 (fun x_13 => post ((x_13 2 1) - 1) x_13))) else (post (-4) x_7)))))))))))
abbrev rm_X7_tap : Room := { frames := 5, cells := 0, slots := 0, locals := 132 }
theorem iw_X7_tap_X7 : ∀ w ∈ u_ws RX7 TX7 10, w ∈ wsX7_tap := by decide +kernel
theorem fl_X7_tap_18 : Cond.fieldLink RX7 18 (TX7 1).1 (TX7 1).2.1 (TX7 1).2.2.1 ∈ wsX7_tap := by decide +kernel
theorem iw_X7_tap_X2 : ∀ w ∈ u_ws RX2 TX2 7, w ∈ wsX7_tap := by decide +kernel
theorem fl_X7_tap_124 : Cond.fieldLink RX7 124 (TX2 1).1 (TX2 1).2.1 (TX2 1).2.2.1 ∈ wsX7_tap := by decide +kernel
theorem fl_X7_tap_11 : Cond.fieldLink RX7 11 (TX7 0).1 (TX7 0).2.1 (TX7 0).2.2.1 ∈ wsX7_tap := by decide +kernel
theorem iw_X7_tap_X4 : ∀ w ∈ u_ws RX4 TX4 3, w ∈ wsX7_tap := by decide +kernel
theorem fl_X7_tap_75 : Cond.fieldLink RX7 75 (TX4 0).1 (TX4 0).2.1 (TX4 0).2.2.1 ∈ wsX7_tap := by decide +kernel
theorem fl_X7_tap_32 : Cond.fieldLink RX7 32 (TX7 3).1 (TX7 3).2.1 (TX7 3).2.2.1 ∈ wsX7_tap := by decide +kernel
set_option maxHeartbeats 4000000 in
set_option maxRecDepth 100000 in
theorem c_X7_tap (l : Launch) (D : va_G) (cy : Nat → ClassId) (L : List Nat) (ad : Nat → Nat) (sz : Nat) (hL : fLA L) (a1 a2 a3 a4 : Int) (x : Mm) (post : Int → Mm → Prop) (hw : w_X7_tap a1 a2 a3 a4 x post) : fMi l yX7_tap wsX7_tap rm_X7_tap [.ref (ad 0), .int (iI a1), .int (iI a2), .int (iI a3), .int (iI a4)] D cy L ad sz x post := by
  refine Met.ofW (cc := cX7_tap) (maxL := 5) (ret := (some .int)) (by decide) rfl ?_
  intro p e s m args below meth c s₁ B hml hv
  obtain ⟨hargs, hp⟩ := hv
  obtain ⟨C, hr, hlk, hsz, G⟩ := fr_start B hml hp
  subst hsz
  obtain ⟨ls, els, hl⟩ := fr_entry (m := m) (n := 5) hargs (Nat.le_of_ble_eq_true rfl)
  rw [els]
  have hl : lv_has ls 5 [(0, .ref (ad 0)), (1, .int (iI a1)), (2, .int (iI a2)), (3, .int (iI a3)), (4, .int (iI a4))] := hl
  clear els hargs hp B
  refine lv_aload_n C.1 C.2.1 dX7_tap_0 rfl (lv_at hl 0 rfl) ?_
  refine lv_iload_n C.1 C.2.1 dX7_tap_1 rfl (lv_at hl 1 rfl) ?_
  refine fr_Vi C G (c_X7_isPlate l D cy L ad _ hL a1 x _ hw) (cwV 1 C.2.2.2.2 gX7_tap_X7_isPlate rfl rfl rfl (by decide +kernel) ⟨Nat.le_of_ble_eq_true rfl, Nat.le_of_ble_eq_true rfl⟩) (G.recv (hL _ (by omega)) (cl_0 _) rfl) rfl hl.1 rfl (Nat.le_of_ble_eq_true rfl) dX7_tap_2 ⟨Nat.zero_le _, Nat.zero_le _⟩ (fun z_2 x_1 H locs hw G => ?_)
  obtain ⟨hc_17, hw⟩ := hw
  refine fr_eq0 (tgt := 24) C dX7_tap_5 (by decide) hc_17 (fun q_3 => ?_) (fun q_3 => ?_)
  · have hw := if_p hw q_3
    refine fr_bi C dX7_tap_24 rfl ?_
    exact fr_iret C G hr hlk hw dX7_tap_26
  · have hw := if_n hw q_3
    refine lv_iload_n C.1 C.2.1 dX7_tap_8 rfl (lv_at hl 2 rfl) ?_
    refine fr_Si C G (c_X7_isTone l D cy L ad _ a2 x_1 _ hw) (va_cwS 1 C.2.2.2.2 gX7_tap_X7_isTone rfl rfl rfl (by decide +kernel) ⟨Nat.le_of_ble_eq_true rfl, Nat.le_of_ble_eq_true rfl⟩) rfl hl.1 rfl (Nat.le_of_ble_eq_true rfl) dX7_tap_9 ⟨Nat.zero_le _, Nat.zero_le _⟩ (fun z_5 x_4 H locs hw G => ?_)
    obtain ⟨hc_16, hw⟩ := hw
    refine fr_eq0 (tgt := 24) C dX7_tap_12 (by decide) hc_16 (fun q_6 => ?_) (fun q_6 => ?_)
    · have hw := if_p hw q_6
      refine fr_bi C dX7_tap_24 rfl ?_
      exact fr_iret C G hr hlk hw dX7_tap_26
    · have hw := if_n hw q_6
      refine lv_iload_n C.1 C.2.1 dX7_tap_15 rfl (lv_at hl 3 rfl) ?_
      refine lv_iload C.1 C.2.1 dX7_tap_16 (lv_at hl 4 rfl) ?_
      refine fr_Si C G (c_X7_isSpan l D cy L ad _ a3 a4 x_4 _ hw) (va_cwS 2 C.2.2.2.2 gX7_tap_X7_isSpan rfl rfl rfl (by decide +kernel) ⟨Nat.le_of_ble_eq_true rfl, Nat.le_of_ble_eq_true rfl⟩) rfl hl.1 rfl (Nat.le_of_ble_eq_true rfl) dX7_tap_18 ⟨Nat.zero_le _, Nat.zero_le _⟩ (fun z_8 x_7 H locs hw G => ?_)
      obtain ⟨hc_15, hw⟩ := hw
      refine fr_ne0 (tgt := 27) C dX7_tap_21 (by decide) hc_15 (fun q_9 => ?_) (fun q_9 => ?_)
      · have hw := if_p hw q_9
        refine fr_bi C dX7_tap_24 rfl ?_
        exact fr_iret C G hr hlk hw dX7_tap_26
      · have hw := if_n hw q_9
        refine lv_aload_n C.1 C.2.1 dX7_tap_27 rfl (lv_at hl 0 rfl) ?_
        refine fr_get C G 0 (hL _ (by omega)) (cl_0 _) rfl iw_X7_tap_X7 1 (by decide) fl_X7_tap_18 rfl dX7_tap_28 ?_
        refine fr_get C G 2 (hL _ (by omega)) (cl_2 _) rfl iw_X7_tap_X2 1 (by decide) fl_X7_tap_124 rfl dX7_tap_31 ?_
        refine fr_bi C dX7_tap_34 rfl ?_
        obtain ⟨hc_14, hw⟩ := hw
        refine fr_lt (tgt := 42) C dX7_tap_36 (by decide) ⟨hc_14, ⟨by decide, by decide⟩⟩ (fun q_10 => ?_) (fun q_10 => ?_)
        · have hw := if_p hw q_10
          refine lv_aload_n C.1 C.2.1 dX7_tap_42 rfl (lv_at hl 0 rfl) ?_
          refine fr_get C G 0 (hL _ (by omega)) (cl_0 _) rfl iw_X7_tap_X7 1 (by decide) fl_X7_tap_18 rfl dX7_tap_43 ?_
          refine lv_aload_n C.1 C.2.1 dX7_tap_46 rfl (lv_at hl 0 rfl) ?_
          refine fr_get C G 0 (hL _ (by omega)) (cl_0 _) rfl iw_X7_tap_X7 0 (by decide) fl_X7_tap_11 rfl dX7_tap_47 ?_
          refine lv_iload_n C.1 C.2.1 dX7_tap_50 rfl (lv_at hl 1 rfl) ?_
          obtain ⟨hb_11, hw⟩ := hw
          refine fr_apl C G (hL _ (by omega)) hb_11 dX7_tap_51 ?_
          refine fr_get C G (20 + 3 * (a1).toNat) (hL _ (by omega)) (cell_pl _ (by omega)) rfl iw_X7_tap_X4 0 (by decide) fl_X7_tap_75 rfl dX7_tap_52 ?_
          refine lv_iload_n C.1 C.2.1 dX7_tap_55 rfl (lv_at hl 2 rfl) ?_
          refine lv_iload_n C.1 C.2.1 dX7_tap_56 rfl (lv_at hl 3 rfl) ?_
          refine lv_iload C.1 C.2.1 dX7_tap_57 (lv_at hl 4 rfl) ?_
          refine fr_Vv C G (c_X2_addTap l D cy L ad _ (fLA.h hL) (20 + 3 * (a1).toNat + 1) (hL _ (by omega)) ((al_pl _ (by omega)).2.1) a2 a3 a4 x_7 _ hw) (cwV 4 C.2.2.2.2 gX7_tap_X2_addTap rfl rfl rfl (by decide +kernel) ⟨Nat.le_of_ble_eq_true rfl, Nat.le_of_ble_eq_true rfl⟩) (G.recv (hL _ (by omega)) (cl_2 _) rfl) rfl hl.1 rfl (Nat.le_of_ble_eq_true rfl) dX7_tap_59 ⟨Nat.zero_le _, Nat.zero_le _⟩ (fun x_12 H locs hw G => ?_)
          refine lv_aload_n C.1 C.2.1 dX7_tap_62 rfl (lv_at hl 0 rfl) ?_
          refine fr_get C G 0 (hL _ (by omega)) (cl_0 _) rfl iw_X7_tap_X7 3 (by decide) fl_X7_tap_32 rfl dX7_tap_63 ?_
          refine fr_Vv C G (c_X3_forget l D cy L ad _ hL x_12 _ hw) (cwV 0 C.2.2.2.2 gX7_tap_X3_forget rfl rfl rfl (by decide +kernel) ⟨Nat.le_of_ble_eq_true rfl, Nat.le_of_ble_eq_true rfl⟩) (G.recv (hL _ (by omega)) (cl_12 _) rfl) rfl hl.1 rfl (Nat.le_of_ble_eq_true rfl) dX7_tap_66 ⟨Nat.zero_le _, Nat.zero_le _⟩ (fun x_13 H locs hw G => ?_)
          refine lv_aload_n C.1 C.2.1 dX7_tap_69 rfl (lv_at hl 0 rfl) ?_
          refine fr_get C G 0 (hL _ (by omega)) (cl_0 _) rfl iw_X7_tap_X7 1 (by decide) fl_X7_tap_18 rfl dX7_tap_70 ?_
          refine fr_get C G 2 (hL _ (by omega)) (cl_2 _) rfl iw_X7_tap_X2 1 (by decide) fl_X7_tap_124 rfl dX7_tap_73 ?_
          refine fr_ic C dX7_tap_76 ?_
          refine fr_isub C dX7_tap_77 ?_
          exact fr_iret C G hr hlk hw dX7_tap_78
        · have hw := if_n hw q_10
          refine fr_bi C dX7_tap_39 rfl ?_
          exact fr_iret C G hr hlk hw dX7_tap_41
def w_X7_untap (a1 : Int) (x : Mm) (post : Int → Mm → Prop) : Prop :=
  rg a1 ∧ (if a1 < 0 then (post (-2) x) else ((rg a1 ∧ rg (x 2 1)) ∧ (if a1 < (x 2 1) then (w_X2_dropTap a1 x (fun x_3 => w_X3_forget x_3 (fun x_4 => post 1 x_4))) else (post (-2) x))))
abbrev rm_X7_untap : Room := { frames := 5, cells := 0, slots := 0, locals := 112 }
theorem iw_X7_untap_X7 : ∀ w ∈ u_ws RX7 TX7 10, w ∈ wsX7_untap := by decide +kernel
theorem fl_X7_untap_18 : Cond.fieldLink RX7 18 (TX7 1).1 (TX7 1).2.1 (TX7 1).2.2.1 ∈ wsX7_untap := by decide +kernel
theorem iw_X7_untap_X2 : ∀ w ∈ u_ws RX2 TX2 7, w ∈ wsX7_untap := by decide +kernel
theorem fl_X7_untap_124 : Cond.fieldLink RX7 124 (TX2 1).1 (TX2 1).2.1 (TX2 1).2.2.1 ∈ wsX7_untap := by decide +kernel
theorem fl_X7_untap_32 : Cond.fieldLink RX7 32 (TX7 3).1 (TX7 3).2.1 (TX7 3).2.2.1 ∈ wsX7_untap := by decide +kernel
set_option maxHeartbeats 4000000 in
set_option maxRecDepth 100000 in
theorem c_X7_untap (l : Launch) (D : va_G) (cy : Nat → ClassId) (L : List Nat) (ad : Nat → Nat) (sz : Nat) (hL : fLA L) (a1 : Int) (x : Mm) (post : Int → Mm → Prop) (hw : w_X7_untap a1 x post) : fMi l yX7_untap wsX7_untap rm_X7_untap [.ref (ad 0), .int (iI a1)] D cy L ad sz x post := by
  refine Met.ofW (cc := cX7_untap) (maxL := 2) (ret := (some .int)) (by decide) rfl ?_
  intro p e s m args below meth c s₁ B hml hv
  obtain ⟨hargs, hp⟩ := hv
  obtain ⟨C, hr, hlk, hsz, G⟩ := fr_start B hml hp
  subst hsz
  obtain ⟨ls, els, hl⟩ := fr_entry (m := m) (n := 2) hargs (Nat.le_of_ble_eq_true rfl)
  rw [els]
  have hl : lv_has ls 2 [(0, .ref (ad 0)), (1, .int (iI a1))] := hl
  clear els hargs hp B
  refine lv_iload_n C.1 C.2.1 dX7_untap_0 rfl (lv_at hl 1 rfl) ?_
  obtain ⟨hc_6, hw⟩ := hw
  refine fr_lt0 (tgt := 15) C dX7_untap_1 (by decide) hc_6 (fun q_1 => ?_) (fun q_1 => ?_)
  · have hw := if_p hw q_1
    refine fr_bi C dX7_untap_15 rfl ?_
    exact fr_iret C G hr hlk hw dX7_untap_17
  · have hw := if_n hw q_1
    refine lv_iload_n C.1 C.2.1 dX7_untap_4 rfl (lv_at hl 1 rfl) ?_
    refine lv_aload_n C.1 C.2.1 dX7_untap_5 rfl (lv_at hl 0 rfl) ?_
    refine fr_get C G 0 (hL _ (by omega)) (cl_0 _) rfl iw_X7_untap_X7 1 (by decide) fl_X7_untap_18 rfl dX7_untap_6 ?_
    refine fr_get C G 2 (hL _ (by omega)) (cl_2 _) rfl iw_X7_untap_X2 1 (by decide) fl_X7_untap_124 rfl dX7_untap_9 ?_
    obtain ⟨hc_5, hw⟩ := hw
    refine fr_lt (tgt := 18) C dX7_untap_12 (by decide) hc_5 (fun q_2 => ?_) (fun q_2 => ?_)
    · have hw := if_p hw q_2
      refine lv_aload_n C.1 C.2.1 dX7_untap_18 rfl (lv_at hl 0 rfl) ?_
      refine fr_get C G 0 (hL _ (by omega)) (cl_0 _) rfl iw_X7_untap_X7 1 (by decide) fl_X7_untap_18 rfl dX7_untap_19 ?_
      refine lv_iload_n C.1 C.2.1 dX7_untap_22 rfl (lv_at hl 1 rfl) ?_
      refine fr_Vv C G (c_X2_dropTap l D cy L ad _ (fLA.h hL) a1 x _ hw) (cwV 1 C.2.2.2.2 gX7_untap_X2_dropTap rfl rfl rfl (by decide +kernel) ⟨Nat.le_of_ble_eq_true rfl, Nat.le_of_ble_eq_true rfl⟩) (G.recv (hL _ (by omega)) (cl_2 _) rfl) rfl hl.1 rfl (Nat.le_of_ble_eq_true rfl) dX7_untap_23 ⟨Nat.zero_le _, Nat.zero_le _⟩ (fun x_3 H locs hw G => ?_)
      refine lv_aload_n C.1 C.2.1 dX7_untap_26 rfl (lv_at hl 0 rfl) ?_
      refine fr_get C G 0 (hL _ (by omega)) (cl_0 _) rfl iw_X7_untap_X7 3 (by decide) fl_X7_untap_32 rfl dX7_untap_27 ?_
      refine fr_Vv C G (c_X3_forget l D cy L ad _ hL x_3 _ hw) (cwV 0 C.2.2.2.2 gX7_untap_X3_forget rfl rfl rfl (by decide +kernel) ⟨Nat.le_of_ble_eq_true rfl, Nat.le_of_ble_eq_true rfl⟩) (G.recv (hL _ (by omega)) (cl_12 _) rfl) rfl hl.1 rfl (Nat.le_of_ble_eq_true rfl) dX7_untap_30 ⟨Nat.zero_le _, Nat.zero_le _⟩ (fun x_4 H locs hw G => ?_)
      refine fr_ic C dX7_untap_33 ?_
      exact fr_iret C G hr hlk hw dX7_untap_34
    · have hw := if_n hw q_2
      refine fr_bi C dX7_untap_15 rfl ?_
      exact fr_iret C G hr hlk hw dX7_untap_17
def w_X7_woods (x : Mm) (post : Int → Mm → Prop) : Prop :=
  post (x 2 4) x
abbrev rm_X7_woods : Room := { frames := 0, cells := 0, slots := 0, locals := 0 }
theorem iw_X7_woods_X7 : ∀ w ∈ u_ws RX7 TX7 10, w ∈ wsX7_woods := by decide +kernel
theorem fl_X7_woods_18 : Cond.fieldLink RX7 18 (TX7 1).1 (TX7 1).2.1 (TX7 1).2.2.1 ∈ wsX7_woods := by decide +kernel
theorem iw_X7_woods_X2 : ∀ w ∈ u_ws RX2 TX2 7, w ∈ wsX7_woods := by decide +kernel
theorem fl_X7_woods_134 : Cond.fieldLink RX7 134 (TX2 4).1 (TX2 4).2.1 (TX2 4).2.2.1 ∈ wsX7_woods := by decide +kernel
set_option maxHeartbeats 4000000 in
set_option maxRecDepth 100000 in
theorem c_X7_woods (l : Launch) (D : va_G) (cy : Nat → ClassId) (L : List Nat) (ad : Nat → Nat) (sz : Nat) (hL : fLA L) (x : Mm) (post : Int → Mm → Prop) (hw : w_X7_woods x post) : fMi l yX7_woods wsX7_woods rm_X7_woods [.ref (ad 0)] D cy L ad sz x post := by
  refine Met.ofW (cc := cX7_woods) (maxL := 1) (ret := (some .int)) (by decide) rfl ?_
  intro p e s m args below meth c s₁ B hml hv
  obtain ⟨hargs, hp⟩ := hv
  obtain ⟨C, hr, hlk, hsz, G⟩ := fr_start B hml hp
  subst hsz
  obtain ⟨ls, els, hl⟩ := fr_entry (m := m) (n := 1) hargs (Nat.le_of_ble_eq_true rfl)
  rw [els]
  have hl : lv_has ls 1 [(0, .ref (ad 0))] := hl
  clear els hargs hp B
  refine lv_aload_n C.1 C.2.1 dX7_woods_0 rfl (lv_at hl 0 rfl) ?_
  refine fr_get C G 0 (hL _ (by omega)) (cl_0 _) rfl iw_X7_woods_X7 1 (by decide) fl_X7_woods_18 rfl dX7_woods_1 ?_
  refine fr_get C G 2 (hL _ (by omega)) (cl_2 _) rfl iw_X7_woods_X2 4 (by decide) fl_X7_woods_134 rfl dX7_woods_4 ?_
  exact fr_iret C G hr hlk hw dX7_woods_7
def w_X7_isOneOfTwo (a1 : Int) (x : Mm) (post : Int → Mm → Prop) : Prop :=
  rg a1 ∧ (if a1 = 0 then (post 1 x) else (rg a1 ∧ (if a1 = 1 then (post 1 x) else (post 0 x))))
abbrev rm_X7_isOneOfTwo : Room := { frames := 0, cells := 0, slots := 0, locals := 0 }
set_option maxHeartbeats 4000000 in
set_option maxRecDepth 100000 in
theorem c_X7_isOneOfTwo (l : Launch) (D : va_G) (cy : Nat → ClassId) (L : List Nat) (ad : Nat → Nat) (sz : Nat) (a1 : Int) (x : Mm) (post : Int → Mm → Prop) (hw : w_X7_isOneOfTwo a1 x post) : fMi l yX7_isOneOfTwo wsX7_isOneOfTwo rm_X7_isOneOfTwo [.int (iI a1)] D cy L ad sz x post := by
  refine Met.ofW (cc := cX7_isOneOfTwo) (maxL := 1) (ret := (some .boolean)) (by decide) rfl ?_
  intro p e s m args below meth c s₁ B hml hv
  obtain ⟨hargs, hp⟩ := hv
  obtain ⟨C, hr, hlk, hsz, G⟩ := fr_start B hml hp
  subst hsz
  obtain ⟨ls, els, hl⟩ := fr_entry (m := m) (n := 1) hargs (Nat.le_of_ble_eq_true rfl)
  rw [els]
  have hl : lv_has ls 1 [(0, .int (iI a1))] := hl
  clear els hargs hp B
  refine lv_iload_n C.1 C.2.1 dX7_isOneOfTwo_0 rfl (lv_at hl 0 rfl) ?_
  obtain ⟨hc_4, hw⟩ := hw
  refine fr_eq0 (tgt := 9) C dX7_isOneOfTwo_1 (by decide) hc_4 (fun q_1 => ?_) (fun q_1 => ?_)
  · have hw := if_p hw q_1
    refine fr_ic C dX7_isOneOfTwo_9 ?_
    refine lv_goto (tgt := 14) C.1 C.2.1 dX7_isOneOfTwo_10 (by decide) ?_
    exact fr_zret C G hr hlk (by decide) hw dX7_isOneOfTwo_14
  · have hw := if_n hw q_1
    refine lv_iload_n C.1 C.2.1 dX7_isOneOfTwo_4 rfl (lv_at hl 0 rfl) ?_
    refine fr_ic C dX7_isOneOfTwo_5 ?_
    obtain ⟨hc_3, hw⟩ := hw
    refine fr_ne (tgt := 13) C dX7_isOneOfTwo_6 (by decide) ⟨hc_3, ⟨by decide, by decide⟩⟩ (fun q_2 => ?_) (fun q_2 => ?_)
    · have hw := if_p hw q_2
      refine fr_ic C dX7_isOneOfTwo_9 ?_
      refine lv_goto (tgt := 14) C.1 C.2.1 dX7_isOneOfTwo_10 (by decide) ?_
      exact fr_zret C G hr hlk (by decide) hw dX7_isOneOfTwo_14
    · have hw := if_n hw q_2
      refine fr_ic C dX7_isOneOfTwo_13 ?_
      exact fr_zret C G hr hlk (by decide) hw dX7_isOneOfTwo_14
def w_X7_wood (a1 a2 : Int) (x : Mm) (post : Int → Mm → Prop) : Prop :=
  rg a1 ∧ (if a1 < 0 then (post (-2) x) else ((rg a1 ∧ rg (x 2 4)) ∧ (if (x 2 4) ≤ a1 then (post (-2) x) else (w_X7_isOneOfTwo a2 x (fun z_4 x_3 => rg z_4 ∧ (if z_4 = 0 then (post (-2) x_3) else (rg a2 ∧ (if a2 = 0 then ((0 ≤ a1 ∧ a1 < 81) ∧ post (x_3 4 (a1).toNat) x_3) else ((0 ≤ a1 ∧ a1 < 81) ∧ post (x_3 5 (a1).toNat) x_3)))))))))
abbrev rm_X7_wood : Room := { frames := 1, cells := 0, slots := 0, locals := 20 }
theorem iw_X7_wood_X7 : ∀ w ∈ u_ws RX7 TX7 10, w ∈ wsX7_wood := by decide +kernel
theorem fl_X7_wood_18 : Cond.fieldLink RX7 18 (TX7 1).1 (TX7 1).2.1 (TX7 1).2.2.1 ∈ wsX7_wood := by decide +kernel
theorem iw_X7_wood_X2 : ∀ w ∈ u_ws RX2 TX2 7, w ∈ wsX7_wood := by decide +kernel
theorem fl_X7_wood_134 : Cond.fieldLink RX7 134 (TX2 4).1 (TX2 4).2.1 (TX2 4).2.2.1 ∈ wsX7_wood := by decide +kernel
theorem fl_X7_wood_143 : Cond.fieldLink RX7 143 (TX2 3).1 (TX2 3).2.1 (TX2 3).2.2.1 ∈ wsX7_wood := by decide +kernel
theorem fl_X7_wood_140 : Cond.fieldLink RX7 140 (TX2 2).1 (TX2 2).2.1 (TX2 2).2.2.1 ∈ wsX7_wood := by decide +kernel
set_option maxHeartbeats 4000000 in
set_option maxRecDepth 100000 in
theorem c_X7_wood (l : Launch) (D : va_G) (cy : Nat → ClassId) (L : List Nat) (ad : Nat → Nat) (sz : Nat) (hL : fLA L) (a1 a2 : Int) (x : Mm) (post : Int → Mm → Prop) (hw : w_X7_wood a1 a2 x post) : fMi l yX7_wood wsX7_wood rm_X7_wood [.ref (ad 0), .int (iI a1), .int (iI a2)] D cy L ad sz x post := by
  refine Met.ofW (cc := cX7_wood) (maxL := 3) (ret := (some .int)) (by decide) rfl ?_
  intro p e s m args below meth c s₁ B hml hv
  obtain ⟨hargs, hp⟩ := hv
  obtain ⟨C, hr, hlk, hsz, G⟩ := fr_start B hml hp
  subst hsz
  obtain ⟨ls, els, hl⟩ := fr_entry (m := m) (n := 3) hargs (Nat.le_of_ble_eq_true rfl)
  rw [els]
  have hl : lv_has ls 3 [(0, .ref (ad 0)), (1, .int (iI a1)), (2, .int (iI a2))] := hl
  clear els hargs hp B
  refine lv_iload_n C.1 C.2.1 dX7_wood_0 rfl (lv_at hl 1 rfl) ?_
  obtain ⟨hc_12, hw⟩ := hw
  refine fr_lt0 (tgt := 22) C dX7_wood_1 (by decide) hc_12 (fun q_1 => ?_) (fun q_1 => ?_)
  · have hw := if_p hw q_1
    refine fr_bi C dX7_wood_22 rfl ?_
    exact fr_iret C G hr hlk hw dX7_wood_24
  · have hw := if_n hw q_1
    refine lv_iload_n C.1 C.2.1 dX7_wood_4 rfl (lv_at hl 1 rfl) ?_
    refine lv_aload_n C.1 C.2.1 dX7_wood_5 rfl (lv_at hl 0 rfl) ?_
    refine fr_get C G 0 (hL _ (by omega)) (cl_0 _) rfl iw_X7_wood_X7 1 (by decide) fl_X7_wood_18 rfl dX7_wood_6 ?_
    refine fr_get C G 2 (hL _ (by omega)) (cl_2 _) rfl iw_X7_wood_X2 4 (by decide) fl_X7_wood_134 rfl dX7_wood_9 ?_
    obtain ⟨hc_11, hw⟩ := hw
    refine fr_ge (tgt := 22) C dX7_wood_12 (by decide) hc_11 (fun q_2 => ?_) (fun q_2 => ?_)
    · have hw := if_p hw q_2
      refine fr_bi C dX7_wood_22 rfl ?_
      exact fr_iret C G hr hlk hw dX7_wood_24
    · have hw := if_n hw q_2
      refine lv_iload_n C.1 C.2.1 dX7_wood_15 rfl (lv_at hl 2 rfl) ?_
      refine fr_Si C G (c_X7_isOneOfTwo l D cy L ad _ a2 x _ hw) (va_cwS 1 C.2.2.2.2 gX7_wood_X7_isOneOfTwo rfl rfl rfl (by decide +kernel) ⟨Nat.le_of_ble_eq_true rfl, Nat.le_of_ble_eq_true rfl⟩) rfl hl.1 rfl (Nat.le_of_ble_eq_true rfl) dX7_wood_16 ⟨Nat.zero_le _, Nat.zero_le _⟩ (fun z_4 x_3 H locs hw G => ?_)
      obtain ⟨hc_10, hw⟩ := hw
      refine fr_ne0 (tgt := 25) C dX7_wood_19 (by decide) hc_10 (fun q_5 => ?_) (fun q_5 => ?_)
      · have hw := if_p hw q_5
        refine fr_bi C dX7_wood_22 rfl ?_
        exact fr_iret C G hr hlk hw dX7_wood_24
      · have hw := if_n hw q_5
        refine lv_iload_n C.1 C.2.1 dX7_wood_25 rfl (lv_at hl 2 rfl) ?_
        obtain ⟨hc_9, hw⟩ := hw
        refine fr_ne0 (tgt := 41) C dX7_wood_26 (by decide) hc_9 (fun q_6 => ?_) (fun q_6 => ?_)
        · have hw := if_p hw q_6
          refine lv_aload_n C.1 C.2.1 dX7_wood_29 rfl (lv_at hl 0 rfl) ?_
          refine fr_get C G 0 (hL _ (by omega)) (cl_0 _) rfl iw_X7_wood_X7 1 (by decide) fl_X7_wood_18 rfl dX7_wood_30 ?_
          refine fr_get C G 2 (hL _ (by omega)) (cl_2 _) rfl iw_X7_wood_X2 2 (by decide) fl_X7_wood_140 rfl dX7_wood_33 ?_
          refine lv_iload_n C.1 C.2.1 dX7_wood_36 rfl (lv_at hl 1 rfl) ?_
          obtain ⟨hb_8, hw⟩ := hw
          refine fr_iald C G 4 81 (hL _ (by omega)) rfl ⟨by decide, by decide⟩ hb_8 dX7_wood_37 ?_
          refine lv_goto (tgt := 50) C.1 C.2.1 dX7_wood_38 (by decide) ?_
          exact fr_iret C G hr hlk hw dX7_wood_50
        · have hw := if_n hw q_6
          refine lv_aload_n C.1 C.2.1 dX7_wood_41 rfl (lv_at hl 0 rfl) ?_
          refine fr_get C G 0 (hL _ (by omega)) (cl_0 _) rfl iw_X7_wood_X7 1 (by decide) fl_X7_wood_18 rfl dX7_wood_42 ?_
          refine fr_get C G 2 (hL _ (by omega)) (cl_2 _) rfl iw_X7_wood_X2 3 (by decide) fl_X7_wood_143 rfl dX7_wood_45 ?_
          refine lv_iload_n C.1 C.2.1 dX7_wood_48 rfl (lv_at hl 1 rfl) ?_
          obtain ⟨hb_7, hw⟩ := hw
          refine fr_iald C G 5 81 (hL _ (by omega)) rfl ⟨by decide, by decide⟩ hb_7 dX7_wood_49 ?_
          exact fr_iret C G hr hlk hw dX7_wood_50
