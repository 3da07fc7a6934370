def w_X7_carve (a1 : Int) (x : Mm) (post : Int → Mm → Prop) : Prop :=
  w_X7_isPlate a1 x (fun z_2 x_1 => rg z_2 ∧ (if z_2 = 0 then (post (-2) x_1) else (rg (x_1 2 4) ∧ (if (x_1 2 4) = 0 then (post (-3) x_1) else (w_X7_makePlan a1 x_1 (fun x_5 => ∀ v2_6 : Int, v2_6 = x_5 12 3 → rg v2_6 ∧ (if v2_6 = (-1) then (post (-3) x_5) else ((0 ≤ a1 ∧ a1 < 4) ∧ rg ((x_5 (20 + 3 * (a1).toNat) 2) + v2_6) ∧ (if ((x_5 (20 + 3 * (a1).toNat) 2) + v2_6) ≤ 20 then ((0 ≤ a1 ∧ a1 < 4) ∧ w_X4_takeOffAll ((a1).toNat) 13 x_5 (fun x_11 => w_X3_forget x_11 (fun x_12 => post v2_6 x_12))) else (post (-4) x_5))))))))))
abbrev rm_X7_carve : Room := { frames := 6, cells := 0, slots := 0, locals := 161 }
theorem iw_X7_carve_X7 : ∀ w ∈ u_ws RX7 TX7 10, w ∈ wsX7_carve := by decide +kernel
theorem fl_X7_carve_18 : Cond.fieldLink RX7 18 (TX7 1).1 (TX7 1).2.1 (TX7 1).2.2.1 ∈ wsX7_carve := by decide +kernel
theorem iw_X7_carve_X2 : ∀ w ∈ u_ws RX2 TX2 7, w ∈ wsX7_carve := by decide +kernel
theorem fl_X7_carve_134 : Cond.fieldLink RX7 134 (TX2 4).1 (TX2 4).2.1 (TX2 4).2.2.1 ∈ wsX7_carve := by decide +kernel
theorem fl_X7_carve_32 : Cond.fieldLink RX7 32 (TX7 3).1 (TX7 3).2.1 (TX7 3).2.2.1 ∈ wsX7_carve := by decide +kernel
theorem iw_X7_carve_X3 : ∀ w ∈ u_ws RX3 TX3 5, w ∈ wsX7_carve := by decide +kernel
theorem fl_X7_carve_174 : Cond.fieldLink RX7 174 (TX3 3).1 (TX3 3).2.1 (TX3 3).2.2.1 ∈ wsX7_carve := by decide +kernel
theorem fl_X7_carve_11 : Cond.fieldLink RX7 11 (TX7 0).1 (TX7 0).2.1 (TX7 0).2.2.1 ∈ wsX7_carve := by decide +kernel
theorem iw_X7_carve_X4 : ∀ w ∈ u_ws RX4 TX4 3, w ∈ wsX7_carve := by decide +kernel
theorem fl_X7_carve_81 : Cond.fieldLink RX7 81 (TX4 2).1 (TX4 2).2.1 (TX4 2).2.2.1 ∈ wsX7_carve := by decide +kernel
theorem fl_X7_carve_181 : Cond.fieldLink RX7 181 (TX3 0).1 (TX3 0).2.1 (TX3 0).2.2.1 ∈ wsX7_carve := by decide +kernel
set_option maxHeartbeats 4000000 in
set_option maxRecDepth 100000 in
theorem c_X7_carve (l : Launch) (D : va_G) (cy : Nat → ClassId) (L : List Nat) (ad : Nat → Nat) (sz : Nat) (hL : fLA L) (a1 : Int) (x : Mm) (post : Int → Mm → Prop) (hw : w_X7_carve a1 x post) : fMi l yX7_carve wsX7_carve rm_X7_carve [.ref (ad 0), .int (iI a1)] D cy L ad sz x post := by
  refine Met.ofW (cc := cX7_carve) (maxL := 3) (ret := (some .int)) (by decide) rfl ?_
  intro p e s m args below meth c s₁ B hml hv
  obtain ⟨hargs, hp⟩ := hv
  obtain ⟨C, hr, hlk, hsz, G⟩ := fr_start B hml hp
  subst hsz
  obtain ⟨ls, els, hl⟩ := fr_entry (m := m) (n := 3) hargs (Nat.le_of_ble_eq_true rfl)
  rw [els]
  have hl : lv_has ls 3 [(0, .ref (ad 0)), (1, .int (iI a1))] := hl
  clear els hargs hp B
  refine lv_aload_n C.1 C.2.1 dX7_carve_0 rfl (lv_at hl 0 rfl) ?_
  refine lv_iload_n C.1 C.2.1 dX7_carve_1 rfl (lv_at hl 1 rfl) ?_
  refine fr_Vi C G (c_X7_isPlate l D cy L ad _ hL a1 x _ hw) (cwV 1 C.2.2.2.2 gX7_carve_X7_isPlate rfl rfl rfl (by decide +kernel) ⟨Nat.le_of_ble_eq_true rfl, Nat.le_of_ble_eq_true rfl⟩) (G.recv (hL _ (by omega)) (cl_0 _) rfl) rfl hl.1 rfl (Nat.le_of_ble_eq_true rfl) dX7_carve_2 ⟨Nat.zero_le _, Nat.zero_le _⟩ (fun z_2 x_1 H locs hw G => ?_)
  obtain ⟨hc_16, hw⟩ := hw
  refine fr_ne0 (tgt := 11) C dX7_carve_5 (by decide) hc_16 (fun q_3 => ?_) (fun q_3 => ?_)
  · have hw := if_p hw q_3
    refine fr_bi C dX7_carve_8 rfl ?_
    exact fr_iret C G hr hlk hw dX7_carve_10
  · have hw := if_n hw q_3
    refine lv_aload_n C.1 C.2.1 dX7_carve_11 rfl (lv_at hl 0 rfl) ?_
    refine fr_get C G 0 (hL _ (by omega)) (cl_0 _) rfl iw_X7_carve_X7 1 (by decide) fl_X7_carve_18 rfl dX7_carve_12 ?_
    refine fr_get C G 2 (hL _ (by omega)) (cl_2 _) rfl iw_X7_carve_X2 4 (by decide) fl_X7_carve_134 rfl dX7_carve_15 ?_
    obtain ⟨hc_15, hw⟩ := hw
    refine fr_ne0 (tgt := 24) C dX7_carve_18 (by decide) hc_15 (fun q_4 => ?_) (fun q_4 => ?_)
    · have hw := if_p hw q_4
      refine fr_bi C dX7_carve_21 rfl ?_
      exact fr_iret C G hr hlk hw dX7_carve_23
    · have hw := if_n hw q_4
      refine lv_aload_n C.1 C.2.1 dX7_carve_24 rfl (lv_at hl 0 rfl) ?_
      refine lv_iload_n C.1 C.2.1 dX7_carve_25 rfl (lv_at hl 1 rfl) ?_
      refine fr_Vv C G (c_X7_makePlan l D cy L ad _ hL a1 x_1 _ hw) (cwV 1 C.2.2.2.2 gX7_carve_X7_makePlan rfl rfl rfl (by decide +kernel) ⟨Nat.le_of_ble_eq_true rfl, Nat.le_of_ble_eq_true rfl⟩) (G.recv (hL _ (by omega)) (cl_0 _) rfl) rfl hl.1 rfl (Nat.le_of_ble_eq_true rfl) dX7_carve_26 ⟨Nat.zero_le _, Nat.zero_le _⟩ (fun x_5 H locs hw G => ?_)
      refine lv_aload_n C.1 C.2.1 dX7_carve_29 rfl (lv_at hl 0 rfl) ?_
      refine fr_get C G 0 (hL _ (by omega)) (cl_0 _) rfl iw_X7_carve_X7 3 (by decide) fl_X7_carve_32 rfl dX7_carve_30 ?_
      refine fr_get C G 12 (hL _ (by omega)) (cl_12 _) rfl iw_X7_carve_X3 3 (by decide) fl_X7_carve_174 rfl dX7_carve_33 ?_
      refine fr_nm (fun v2_6 ev2_6 => ?_)
      have hw := hw v2_6 ev2_6
      refine lv_istore_n (lv' := [(2, .int (iI v2_6)), (0, .ref (ad 0)), (1, .int (iI a1))]) C.1 C.2.1 dX7_carve_36 rfl hl (by decide) rfl (fun ls hl => ?_)
      refine lv_iload_n C.1 C.2.1 dX7_carve_37 rfl (lv_at hl 0 rfl) ?_
      refine fr_ic C dX7_carve_38 ?_
      obtain ⟨hc_14, hw⟩ := hw
      refine fr_ne (tgt := 45) C dX7_carve_39 (by decide) ⟨hc_14, ⟨by decide, by decide⟩⟩ (fun q_7 => ?_) (fun q_7 => ?_)
      · have hw := if_p hw q_7
        refine fr_bi C dX7_carve_42 rfl ?_
        exact fr_iret C G hr hlk hw dX7_carve_44
      · have hw := if_n hw q_7
        refine lv_aload_n C.1 C.2.1 dX7_carve_45 rfl (lv_at hl 1 rfl) ?_
        refine fr_get C G 0 (hL _ (by omega)) (cl_0 _) rfl iw_X7_carve_X7 0 (by decide) fl_X7_carve_11 rfl dX7_carve_46 ?_
        refine lv_iload_n C.1 C.2.1 dX7_carve_49 rfl (lv_at hl 2 rfl) ?_
        obtain ⟨hb_8, hw⟩ := hw
        refine fr_apl C G (hL _ (by omega)) hb_8 dX7_carve_50 ?_
        refine fr_get C G (20 + 3 * (a1).toNat) (hL _ (by omega)) (cell_pl _ (by omega)) rfl iw_X7_carve_X4 2 (by decide) fl_X7_carve_81 rfl dX7_carve_51 ?_
        refine lv_iload_n C.1 C.2.1 dX7_carve_54 rfl (lv_at hl 0 rfl) ?_
        refine fr_iadd C dX7_carve_55 ?_
        refine fr_bi C dX7_carve_56 rfl ?_
        obtain ⟨hc_13, hw⟩ := hw
        refine fr_le (tgt := 64) C dX7_carve_58 (by decide) ⟨hc_13, ⟨by decide, by decide⟩⟩ (fun q_9 => ?_) (fun q_9 => ?_)
        · have hw := if_p hw q_9
          refine lv_aload_n C.1 C.2.1 dX7_carve_64 rfl (lv_at hl 1 rfl) ?_
          refine fr_get C G 0 (hL _ (by omega)) (cl_0 _) rfl iw_X7_carve_X7 0 (by decide) fl_X7_carve_11 rfl dX7_carve_65 ?_
          refine lv_iload_n C.1 C.2.1 dX7_carve_68 rfl (lv_at hl 2 rfl) ?_
          obtain ⟨hb_10, hw⟩ := hw
          refine fr_apl C G (hL _ (by omega)) hb_10 dX7_carve_69 ?_
          refine lv_aload_n C.1 C.2.1 dX7_carve_70 rfl (lv_at hl 1 rfl) ?_
          refine fr_get C G 0 (hL _ (by omega)) (cl_0 _) rfl iw_X7_carve_X7 3 (by decide) fl_X7_carve_32 rfl dX7_carve_71 ?_
          refine fr_get C G 12 (hL _ (by omega)) (cl_12 _) rfl iw_X7_carve_X3 0 (by decide) fl_X7_carve_181 rfl dX7_carve_74 ?_
          refine fr_Vv C G (c_X4_takeOffAll l D cy L ad _ hL ((a1).toNat) (by omega) 13 (hL _ (by omega)) rfl x_5 _ hw) (cwV 1 C.2.2.2.2 gX7_carve_X4_takeOffAll rfl rfl rfl (by decide +kernel) ⟨Nat.le_of_ble_eq_true rfl, Nat.le_of_ble_eq_true rfl⟩) (G.recv (hL _ (by omega)) (cell_pl _ (by omega)) rfl) rfl hl.1 rfl (Nat.le_of_ble_eq_true rfl) dX7_carve_77 ⟨Nat.zero_le _, Nat.zero_le _⟩ (fun x_11 H locs hw G => ?_)
          refine lv_aload_n C.1 C.2.1 dX7_carve_80 rfl (lv_at hl 1 rfl) ?_
          refine fr_get C G 0 (hL _ (by omega)) (cl_0 _) rfl iw_X7_carve_X7 3 (by decide) fl_X7_carve_32 rfl dX7_carve_81 ?_
          refine fr_Vv C G (c_X3_forget l D cy L ad _ hL x_11 _ hw) (cwV 0 C.2.2.2.2 gX7_carve_X3_forget rfl rfl rfl (by decide +kernel) ⟨Nat.le_of_ble_eq_true rfl, Nat.le_of_ble_eq_true rfl⟩) (G.recv (hL _ (by omega)) (cl_12 _) rfl) rfl hl.1 rfl (Nat.le_of_ble_eq_true rfl) dX7_carve_84 ⟨Nat.zero_le _, Nat.zero_le _⟩ (fun x_12 H locs hw G => ?_)
          refine lv_iload_n C.1 C.2.1 dX7_carve_87 rfl (lv_at hl 0 rfl) ?_
          exact fr_iret C G hr hlk hw dX7_carve_88
        · have hw := if_n hw q_9
          refine fr_bi C dX7_carve_61 rfl ?_
          exact fr_iret C G hr hlk hw dX7_carve_63
def w_X7_off (a1 : Int) (x : Mm) (post : Int → Mm → Prop) : Prop :=
  rg a1 ∧ (if a1 < 0 then (post (-2) x) else (rg a1 ∧ (if a1 ≤ 200 then (∀ v2_3 : Int, v2_3 = x 0 9 → ∀ x_4 : Mm, x_4 = up2 x 0 9 a1 → post v2_3 x_4) else (post (-2) x))))
abbrev rm_X7_off : Room := { frames := 0, cells := 0, slots := 0, locals := 0 }
theorem iw_X7_off_X7 : ∀ w ∈ u_ws RX7 TX7 10, w ∈ wsX7_off := by decide +kernel
theorem fl_X7_off_57 : Cond.fieldLink RX7 57 (TX7 9).1 (TX7 9).2.1 (TX7 9).2.2.1 ∈ wsX7_off := by decide +kernel
set_option maxHeartbeats 4000000 in
set_option maxRecDepth 100000 in
theorem c_X7_off (l : Launch) (D : va_G) (cy : Nat → ClassId) (L : List Nat) (ad : Nat → Nat) (sz : Nat) (hL : fLA L) (a1 : Int) (x : Mm) (post : Int → Mm → Prop) (hw : w_X7_off a1 x post) : fMi l yX7_off wsX7_off rm_X7_off [.ref (ad 0), .int (iI a1)] D cy L ad sz x post := by
  refine Met.ofW (cc := cX7_off) (maxL := 3) (ret := (some .int)) (by decide) rfl ?_
  intro p e s m args below meth c s₁ B hml hv
  obtain ⟨hargs, hp⟩ := hv
  obtain ⟨C, hr, hlk, hsz, G⟩ := fr_start B hml hp
  subst hsz
  obtain ⟨ls, els, hl⟩ := fr_entry (m := m) (n := 3) hargs (Nat.le_of_ble_eq_true rfl)
  rw [els]
  have hl : lv_has ls 3 [(0, .ref (ad 0)), (1, .int (iI a1))] := hl
  clear els hargs hp B
  refine lv_iload_n C.1 C.2.1 dX7_off_0 rfl (lv_at hl 1 rfl) ?_
  obtain ⟨hc_6, hw⟩ := hw
  refine fr_lt0 (tgt := 11) C dX7_off_1 (by decide) hc_6 (fun q_1 => ?_) (fun q_1 => ?_)
  · have hw := if_p hw q_1
    refine fr_bi C dX7_off_11 rfl ?_
    exact fr_iret C G hr hlk hw dX7_off_13
  · have hw := if_n hw q_1
    refine lv_iload_n C.1 C.2.1 dX7_off_4 rfl (lv_at hl 1 rfl) ?_
    refine fr_si C dX7_off_5 rfl ?_
    obtain ⟨hc_5, hw⟩ := hw
    refine fr_le (tgt := 14) C dX7_off_8 (by decide) ⟨hc_5, ⟨by decide, by decide⟩⟩ (fun q_2 => ?_) (fun q_2 => ?_)
    · have hw := if_p hw q_2
      refine lv_aload_n C.1 C.2.1 dX7_off_14 rfl (lv_at hl 0 rfl) ?_
      refine fr_get C G 0 (hL _ (by omega)) (cl_0 _) rfl iw_X7_off_X7 9 (by decide) fl_X7_off_57 rfl dX7_off_15 ?_
      refine fr_nm (fun v2_3 ev2_3 => ?_)
      have hw := hw v2_3 ev2_3
      refine lv_istore_n (lv' := [(2, .int (iI v2_3)), (0, .ref (ad 0)), (1, .int (iI a1))]) C.1 C.2.1 dX7_off_18 rfl hl (by decide) rfl (fun ls hl => ?_)
      refine lv_aload_n C.1 C.2.1 dX7_off_19 rfl (lv_at hl 1 rfl) ?_
      refine lv_iload_n C.1 C.2.1 dX7_off_20 rfl (lv_at hl 2 rfl) ?_
      refine fr_put C G 0 (hL _ (by omega)) (cl_0 _) rfl iw_X7_off_X7 tyX7_ok nmX7 9 (by decide) fl_X7_off_57 rfl (by decide +kernel) (Nat.le_of_ble_eq_true rfl) (st_0_9 _ _) dX7_off_21 (fun x_4 H locs ex_4 G => ?_)
      have hw := hw x_4 ex_4
      refine lv_iload_n C.1 C.2.1 dX7_off_24 rfl (lv_at hl 0 rfl) ?_
      exact fr_iret C G hr hlk hw dX7_off_25
    · have hw := if_n hw q_2
      refine fr_bi C dX7_off_11 rfl ?_
      exact fr_iret C G hr hlk hw dX7_off_13
def w_X7_even (a1 a2 : Int) (x : Mm) (post : Int → Mm → Prop) : Prop :=
  w_X7_isPlate a1 x (fun z_2 x_1 => rg z_2 ∧ (if z_2 = 0 then (post (-2) x_1) else (w_X7_isPlate a2 x_1 (fun z_5 x_4 => rg z_5 ∧ (if z_5 = 0 then (post (-2) x_4) else (rg (x_4 2 4) ∧ (if (x_4 2 4) = 0 then (post (-3) x_4) else ((0 ≤ a1 ∧ a1 < 4) ∧ w_X5_fillWholeValues 18 (20 + 3 * (a1).toNat + 1) 0 x_4 (fun x_9 => (0 ≤ a2 ∧ a2 < 4) ∧ w_X5_fillWholeValues 19 (20 + 3 * (a2).toNat + 1) 0 x_9 (fun x_11 => w_X2_farthest 18 19 x_11 (fun z_13 x_12 => (rg z_13 ∧ rg (x_12 0 9)) ∧ (if (x_12 0 9) < z_13 then (post 0 x_12) else (post 1 x_12)))))))))))))
abbrev rm_X7_even : Room := { frames := 4, cells := 0, slots := 0, locals := 107 }
theorem iw_X7_even_X7 : ∀ w ∈ u_ws RX7 TX7 10, w ∈ wsX7_even := by decide +kernel
theorem fl_X7_even_18 : Cond.fieldLink RX7 18 (TX7 1).1 (TX7 1).2.1 (TX7 1).2.2.1 ∈ wsX7_even := by decide +kernel
theorem iw_X7_even_X2 : ∀ w ∈ u_ws RX2 TX2 7, w ∈ wsX7_even := by decide +kernel
theorem fl_X7_even_134 : Cond.fieldLink RX7 134 (TX2 4).1 (TX2 4).2.1 (TX2 4).2.2.1 ∈ wsX7_even := by decide +kernel
theorem fl_X7_even_43 : Cond.fieldLink RX7 43 (TX7 5).1 (TX7 5).2.1 (TX7 5).2.2.1 ∈ wsX7_even := by decide +kernel
theorem fl_X7_even_11 : Cond.fieldLink RX7 11 (TX7 0).1 (TX7 0).2.1 (TX7 0).2.2.1 ∈ wsX7_even := by decide +kernel
theorem iw_X7_even_X4 : ∀ w ∈ u_ws RX4 TX4 3, w ∈ wsX7_even := by decide +kernel
theorem fl_X7_even_75 : Cond.fieldLink RX7 75 (TX4 0).1 (TX4 0).2.1 (TX4 0).2.2.1 ∈ wsX7_even := by decide +kernel
theorem fl_X7_even_47 : Cond.fieldLink RX7 47 (TX7 6).1 (TX7 6).2.1 (TX7 6).2.2.1 ∈ wsX7_even := by decide +kernel
theorem fl_X7_even_57 : Cond.fieldLink RX7 57 (TX7 9).1 (TX7 9).2.1 (TX7 9).2.2.1 ∈ wsX7_even := by decide +kernel
set_option maxHeartbeats 4000000 in
set_option maxRecDepth 100000 in
theorem c_X7_even (l : Launch) (D : va_G) (cy : Nat → ClassId) (L : List Nat) (ad : Nat → Nat) (sz : Nat) (hL : fLA L) (a1 a2 : Int) (x : Mm) (post : Int → Mm → Prop) (hw : w_X7_even a1 a2 x post) : fMi l yX7_even wsX7_even rm_X7_even [.ref (ad 0), .int (iI a1), .int (iI a2)] D cy L ad sz x post := by
  refine Met.ofW (cc := cX7_even) (maxL := 3) (ret := (some .int)) (by decide) rfl ?_
  intro p e s m args below meth c s₁ B hml hv
  obtain ⟨hargs, hp⟩ := hv
  obtain ⟨C, hr, hlk, hsz, G⟩ := fr_start B hml hp
  subst hsz
  obtain ⟨ls, els, hl⟩ := fr_entry (m := m) (n := 3) hargs (Nat.le_of_ble_eq_true rfl)
  rw [els]
  have hl : lv_has ls 3 [(0, .ref (ad 0)), (1, .int (iI a1)), (2, .int (iI a2))] := hl
  clear els hargs hp B
  refine lv_aload_n C.1 C.2.1 dX7_even_0 rfl (lv_at hl 0 rfl) ?_
  refine lv_iload_n C.1 C.2.1 dX7_even_1 rfl (lv_at hl 1 rfl) ?_
  refine fr_Vi C G (c_X7_isPlate l D cy L ad _ hL a1 x _ hw) (cwV 1 C.2.2.2.2 gX7_even_X7_isPlate rfl rfl rfl (by decide +kernel) ⟨Nat.le_of_ble_eq_true rfl, Nat.le_of_ble_eq_true rfl⟩) (G.recv (hL _ (by omega)) (cl_0 _) rfl) rfl hl.1 rfl (Nat.le_of_ble_eq_true rfl) dX7_even_2 ⟨Nat.zero_le _, Nat.zero_le _⟩ (fun z_2 x_1 H locs hw G => ?_)
  obtain ⟨hc_18, hw⟩ := hw
  refine fr_eq0 (tgt := 16) C dX7_even_5 (by decide) hc_18 (fun q_3 => ?_) (fun q_3 => ?_)
  · have hw := if_p hw q_3
    refine fr_bi C dX7_even_16 rfl ?_
    exact fr_iret C G hr hlk hw dX7_even_18
  · have hw := if_n hw q_3
    refine lv_aload_n C.1 C.2.1 dX7_even_8 rfl (lv_at hl 0 rfl) ?_
    refine lv_iload_n C.1 C.2.1 dX7_even_9 rfl (lv_at hl 2 rfl) ?_
    refine fr_Vi C G (c_X7_isPlate l D cy L ad _ hL a2 x_1 _ hw) (cwV 1 C.2.2.2.2 gX7_even_X7_isPlate rfl rfl rfl (by decide +kernel) ⟨Nat.le_of_ble_eq_true rfl, Nat.le_of_ble_eq_true rfl⟩) (G.recv (hL _ (by omega)) (cl_0 _) rfl) rfl hl.1 rfl (Nat.le_of_ble_eq_true rfl) dX7_even_10 ⟨Nat.zero_le _, Nat.zero_le _⟩ (fun z_5 x_4 H locs hw G => ?_)
    obtain ⟨hc_17, hw⟩ := hw
    refine fr_ne0 (tgt := 19) C dX7_even_13 (by decide) hc_17 (fun q_6 => ?_) (fun q_6 => ?_)
    · have hw := if_p hw q_6
      refine fr_bi C dX7_even_16 rfl ?_
      exact fr_iret C G hr hlk hw dX7_even_18
    · have hw := if_n hw q_6
      refine lv_aload_n C.1 C.2.1 dX7_even_19 rfl (lv_at hl 0 rfl) ?_
      refine fr_get C G 0 (hL _ (by omega)) (cl_0 _) rfl iw_X7_even_X7 1 (by decide) fl_X7_even_18 rfl dX7_even_20 ?_
      refine fr_get C G 2 (hL _ (by omega)) (cl_2 _) rfl iw_X7_even_X2 4 (by decide) fl_X7_even_134 rfl dX7_even_23 ?_
      obtain ⟨hc_16, hw⟩ := hw
      refine fr_ne0 (tgt := 32) C dX7_even_26 (by decide) hc_16 (fun q_7 => ?_) (fun q_7 => ?_)
      · have hw := if_p hw q_7
        refine fr_bi C dX7_even_29 rfl ?_
        exact fr_iret C G hr hlk hw dX7_even_31
      · have hw := if_n hw q_7
        refine lv_aload_n C.1 C.2.1 dX7_even_32 rfl (lv_at hl 0 rfl) ?_
        refine fr_get C G 0 (hL _ (by omega)) (cl_0 _) rfl iw_X7_even_X7 5 (by decide) fl_X7_even_43 rfl dX7_even_33 ?_
        refine lv_aload_n C.1 C.2.1 dX7_even_36 rfl (lv_at hl 0 rfl) ?_
        refine fr_get C G 0 (hL _ (by omega)) (cl_0 _) rfl iw_X7_even_X7 0 (by decide) fl_X7_even_11 rfl dX7_even_37 ?_
        refine lv_iload_n C.1 C.2.1 dX7_even_40 rfl (lv_at hl 1 rfl) ?_
        obtain ⟨hb_8, hw⟩ := hw
        refine fr_apl C G (hL _ (by omega)) hb_8 dX7_even_41 ?_
        refine fr_get C G (20 + 3 * (a1).toNat) (hL _ (by omega)) (cell_pl _ (by omega)) rfl iw_X7_even_X4 0 (by decide) fl_X7_even_75 rfl dX7_even_42 ?_
        refine fr_ic C dX7_even_45 ?_
        refine fr_Sv C G (c_X5_fillWholeValues l D cy L ad _ 18 (hL _ (by omega)) rfl (20 + 3 * (a1).toNat + 1) (hL _ (by omega)) ((al_pl _ (by omega)).2.1) 0 x_4 _ hw) (va_cwS 3 C.2.2.2.2 gX7_even_X5_fillWholeValues rfl rfl rfl (by decide +kernel) ⟨Nat.le_of_ble_eq_true rfl, Nat.le_of_ble_eq_true rfl⟩) rfl hl.1 rfl (Nat.le_of_ble_eq_true rfl) dX7_even_46 ⟨Nat.zero_le _, Nat.zero_le _⟩ (fun x_9 H locs hw G => ?_)
        refine lv_aload_n C.1 C.2.1 dX7_even_49 rfl (lv_at hl 0 rfl) ?_
        refine fr_get C G 0 (hL _ (by omega)) (cl_0 _) rfl iw_X7_even_X7 6 (by decide) fl_X7_even_47 rfl dX7_even_50 ?_
        refine lv_aload_n C.1 C.2.1 dX7_even_53 rfl (lv_at hl 0 rfl) ?_
        refine fr_get C G 0 (hL _ (by omega)) (cl_0 _) rfl iw_X7_even_X7 0 (by decide) fl_X7_even_11 rfl dX7_even_54 ?_
        refine lv_iload_n C.1 C.2.1 dX7_even_57 rfl (lv_at hl 2 rfl) ?_
        obtain ⟨hb_10, hw⟩ := hw
        refine fr_apl C G (hL _ (by omega)) hb_10 dX7_even_58 ?_
        refine fr_get C G (20 + 3 * (a2).toNat) (hL _ (by omega)) (cell_pl _ (by omega)) rfl iw_X7_even_X4 0 (by decide) fl_X7_even_75 rfl dX7_even_59 ?_
        refine fr_ic C dX7_even_62 ?_
        refine fr_Sv C G (c_X5_fillWholeValues l D cy L ad _ 19 (hL _ (by omega)) rfl (20 + 3 * (a2).toNat + 1) (hL _ (by omega)) ((al_pl _ (by omega)).2.1) 0 x_9 _ hw) (va_cwS 3 C.2.2.2.2 gX7_even_X5_fillWholeValues rfl rfl rfl (by decide +kernel) ⟨Nat.le_of_ble_eq_true rfl, Nat.le_of_ble_eq_true rfl⟩) rfl hl.1 rfl (Nat.le_of_ble_eq_true rfl) dX7_even_63 ⟨Nat.zero_le _, Nat.zero_le _⟩ (fun x_11 H locs hw G => ?_)
        refine lv_aload_n C.1 C.2.1 dX7_even_66 rfl (lv_at hl 0 rfl) ?_
        refine fr_get C G 0 (hL _ (by omega)) (cl_0 _) rfl iw_X7_even_X7 1 (by decide) fl_X7_even_18 rfl dX7_even_67 ?_
        refine lv_aload_n C.1 C.2.1 dX7_even_70 rfl (lv_at hl 0 rfl) ?_
        refine fr_get C G 0 (hL _ (by omega)) (cl_0 _) rfl iw_X7_even_X7 5 (by decide) fl_X7_even_43 rfl dX7_even_71 ?_
        refine lv_aload_n C.1 C.2.1 dX7_even_74 rfl (lv_at hl 0 rfl) ?_
        refine fr_get C G 0 (hL _ (by omega)) (cl_0 _) rfl iw_X7_even_X7 6 (by decide) fl_X7_even_47 rfl dX7_even_75 ?_
        refine fr_Vi C G (c_X2_farthest l D cy L ad _ (fLA.h hL) 18 (hL _ (by omega)) rfl 19 (hL _ (by omega)) rfl x_11 _ hw) (cwV 2 C.2.2.2.2 gX7_even_X2_farthest rfl rfl rfl (by decide +kernel) ⟨Nat.le_of_ble_eq_true rfl, Nat.le_of_ble_eq_true rfl⟩) (G.recv (hL _ (by omega)) (cl_2 _) rfl) rfl hl.1 rfl (Nat.le_of_ble_eq_true rfl) dX7_even_78 ⟨Nat.zero_le _, Nat.zero_le _⟩ (fun z_13 x_12 H locs hw G => ?_)
        refine lv_aload_n C.1 C.2.1 dX7_even_81 rfl (lv_at hl 0 rfl) ?_
        refine fr_get C G 0 (hL _ (by omega)) (cl_0 _) rfl iw_X7_even_X7 9 (by decide) fl_X7_even_57 rfl dX7_even_82 ?_
        obtain ⟨hc_15, hw⟩ := hw
        refine fr_gt (tgt := 92) C dX7_even_85 (by decide) hc_15 (fun q_14 => ?_) (fun q_14 => ?_)
        · have hw := if_p hw q_14
          refine fr_ic C dX7_even_92 ?_
          exact fr_iret C G hr hlk hw dX7_even_93
        · have hw := if_n hw q_14
          refine fr_ic C dX7_even_88 ?_
          refine lv_goto (tgt := 93) C.1 C.2.1 dX7_even_89 (by decide) ?_
          exact fr_iret C G hr hlk hw dX7_even_93
def wX_X7_shavingsInLogs_4 (x : Mm) (post : Int → Mm → Prop) (v1_1 : Int) (v2_2 : Int) : Prop :=
  post v1_1 x
def wB_X7_shavingsInLogs_4 (x : Mm) (kx_4 bk_4 : Int → Int → Prop) (v1_1 : Int) (v2_2 : Int) : Prop :=
  (rg v2_2 ∧ rg (x 0 7)) ∧ (if (x 0 7) ≤ v2_2 then (kx_4 v1_1 v2_2) else ((0 ≤ v2_2 ∧ v2_2 < 4) ∧ ∀ v1_5 : Int, v1_5 = v1_1 + (x (20 + 3 * (v2_2).toNat) 2) → ∀ v2_6 : Int, v2_6 = v2_2 + 1 → bk_4 v1_5 v2_6))
def w_X7_shavingsInLogs (x : Mm) (post : Int → Mm → Prop) : Prop :=
  ∃ n : Nat, lk2 (wB_X7_shavingsInLogs_4 x (wX_X7_shavingsInLogs_4 x post)) n 0 0
abbrev rm_X7_shavingsInLogs : Room := { frames := 0, cells := 0, slots := 0, locals := 0 }
theorem iw_X7_shavingsInLogs_X7 : ∀ w ∈ u_ws RX7 TX7 10, w ∈ wsX7_shavingsInLogs := by decide +kernel
theorem fl_X7_shavingsInLogs_50 : Cond.fieldLink RX7 50 (TX7 7).1 (TX7 7).2.1 (TX7 7).2.2.1 ∈ wsX7_shavingsInLogs := by decide +kernel
theorem fl_X7_shavingsInLogs_11 : Cond.fieldLink RX7 11 (TX7 0).1 (TX7 0).2.1 (TX7 0).2.2.1 ∈ wsX7_shavingsInLogs := by decide +kernel
theorem iw_X7_shavingsInLogs_X4 : ∀ w ∈ u_ws RX4 TX4 3, w ∈ wsX7_shavingsInLogs := by decide +kernel
theorem fl_X7_shavingsInLogs_81 : Cond.fieldLink RX7 81 (TX4 2).1 (TX4 2).2.1 (TX4 2).2.2.1 ∈ wsX7_shavingsInLogs := by decide +kernel
set_option maxHeartbeats 4000000 in
set_option maxRecDepth 100000 in
theorem c_X7_shavingsInLogs (l : Launch) (D : va_G) (cy : Nat → ClassId) (L : List Nat) (ad : Nat → Nat) (sz : Nat) (hL : fLA L) (x : Mm) (post : Int → Mm → Prop) (hw : w_X7_shavingsInLogs x post) : fMi l yX7_shavingsInLogs wsX7_shavingsInLogs rm_X7_shavingsInLogs [.ref (ad 0)] D cy L ad sz x post := by
  refine Met.ofW (cc := cX7_shavingsInLogs) (maxL := 3) (ret := (some .int)) (by decide) rfl ?_
  intro p e s m args below meth c s₁ B hml hv
  obtain ⟨hargs, hp⟩ := hv
  obtain ⟨C, hr, hlk, hsz, G⟩ := fr_start B hml hp
  subst hsz
  obtain ⟨ls, els, hl⟩ := fr_entry (m := m) (n := 3) hargs (Nat.le_of_ble_eq_true rfl)
  rw [els]
  have hl : lv_has ls 3 [(0, .ref (ad 0))] := hl
  clear els hargs hp B
  refine fr_ic C dX7_shavingsInLogs_0 ?_
  refine lv_istore_n (lv' := [(1, .int (iI 0)), (0, .ref (ad 0))]) C.1 C.2.1 dX7_shavingsInLogs_1 rfl hl (by decide) rfl (fun ls hl => ?_)
  refine fr_ic C dX7_shavingsInLogs_2 ?_
  refine lv_istore_n (lv' := [(2, .int (iI 0)), (1, .int (iI 0)), (0, .ref (ad 0))]) C.1 C.2.1 dX7_shavingsInLogs_3 rfl hl (by decide) rfl (fun ls hl => ?_)
  obtain ⟨n4, hw⟩ := hw
  have hS4 : ∀ (kx_4 bk_4 : Int → Int → Prop), (∀ (v1_1 : Int) (v2_2 : Int) (H : Heap) (locs : List Loc) (ls : Array Slot), kx_4 v1_1 v2_2 → fG D cy L ad (fAr L ad s.heap.size) s x H locs → lv_has ls 3 [(0, .ref (ad 0)), (1, .int (iI v1_1)), (2, .int (iI v2_2))] → W p l e (headSpec wsX7_shavingsInLogs rm_X7_shavingsInLogs).room s m args below meth c H locs 0 0 (fQi below D cy L ad s args post) (F0 m 30 ls [])) → (∀ (v1_1 : Int) (v2_2 : Int) (H : Heap) (locs : List Loc) (ls : Array Slot), bk_4 v1_1 v2_2 → fG D cy L ad (fAr L ad s.heap.size) s x H locs → lv_has ls 3 [(0, .ref (ad 0)), (1, .int (iI v1_1)), (2, .int (iI v2_2))] → W p l e (headSpec wsX7_shavingsInLogs rm_X7_shavingsInLogs).room s m args below meth c H locs 0 0 (fQi below D cy L ad s args post) (F0 m 4 ls [])) → ∀ (v1_1 : Int) (v2_2 : Int) (H : Heap) (locs : List Loc) (ls : Array Slot), wB_X7_shavingsInLogs_4 x kx_4 bk_4 v1_1 v2_2 → fG D cy L ad (fAr L ad s.heap.size) s x H locs → lv_has ls 3 [(0, .ref (ad 0)), (1, .int (iI v1_1)), (2, .int (iI v2_2))] → W p l e (headSpec wsX7_shavingsInLogs rm_X7_shavingsInLogs).room s m args below meth c H locs 0 0 (fQi below D cy L ad s args post) (F0 m 4 ls []) := by
    intro kx_4 bk_4 hX4 ih4 v1_1 v2_2 H locs ls hw G hl
    refine lv_iload_n C.1 C.2.1 dX7_shavingsInLogs_4 rfl (lv_at hl 2 rfl) ?_
    refine lv_aload_n C.1 C.2.1 dX7_shavingsInLogs_5 rfl (lv_at hl 0 rfl) ?_
    refine fr_get C G 0 (hL _ (by omega)) (cl_0 _) rfl iw_X7_shavingsInLogs_X7 7 (by decide) fl_X7_shavingsInLogs_50 rfl dX7_shavingsInLogs_6 ?_
    obtain ⟨hc_7, hw⟩ := hw
    refine fr_ge (tgt := 30) C dX7_shavingsInLogs_9 (by decide) hc_7 (fun q_3 => ?_) (fun q_3 => ?_)
    · have hw := if_p hw q_3
      exact hX4 v1_1 v2_2 _ _ _ hw G (lv_sub hl [0, 1, 2] rfl)
    · have hw := if_n hw q_3
      refine lv_iload_n C.1 C.2.1 dX7_shavingsInLogs_12 rfl (lv_at hl 1 rfl) ?_
      refine lv_aload_n C.1 C.2.1 dX7_shavingsInLogs_13 rfl (lv_at hl 0 rfl) ?_
      refine fr_get C G 0 (hL _ (by omega)) (cl_0 _) rfl iw_X7_shavingsInLogs_X7 0 (by decide) fl_X7_shavingsInLogs_11 rfl dX7_shavingsInLogs_14 ?_
      refine lv_iload_n C.1 C.2.1 dX7_shavingsInLogs_17 rfl (lv_at hl 2 rfl) ?_
      obtain ⟨hb_4, hw⟩ := hw
      refine fr_apl C G (hL _ (by omega)) hb_4 dX7_shavingsInLogs_18 ?_
      refine fr_get C G (20 + 3 * (v2_2).toNat) (hL _ (by omega)) (cell_pl _ (by omega)) rfl iw_X7_shavingsInLogs_X4 2 (by decide) fl_X7_shavingsInLogs_81 rfl dX7_shavingsInLogs_19 ?_
      refine fr_iadd C dX7_shavingsInLogs_22 ?_
      refine fr_nm (fun v1_5 ev1_5 => ?_)
      have hw := hw v1_5 ev1_5
      refine lv_istore_n (lv' := [(1, .int (iI v1_5)), (0, .ref (ad 0)), (2, .int (iI v2_2))]) C.1 C.2.1 dX7_shavingsInLogs_23 rfl hl (by decide) rfl (fun ls hl => ?_)
      obtain ⟨v2_6, ev2_6⟩ : ∃ z : Int, z = v2_2 + 1 := ⟨_, rfl⟩
      have hw := hw v2_6 ev2_6
      refine lv_iinc (v := iI v2_6) (lv' := [(2, .int (iI v2_6)), (1, .int (iI v1_5)), (0, .ref (ad 0))]) C.1 C.2.1 dX7_shavingsInLogs_24 hl (k := 2) rfl (by rw [ev2_6]; exact iI_add _ _) (by decide) rfl (fun ls hl => ?_)
      refine lv_goto (tgt := 4) C.1 C.2.1 dX7_shavingsInLogs_27 (by decide) ?_
      exact ih4 v1_5 v2_6 _ _ _ hw G (lv_sub hl [2, 1, 0] rfl)
  have hX4 : ∀ (v1_1 : Int) (v2_2 : Int) (H : Heap) (locs : List Loc) (ls : Array Slot), wX_X7_shavingsInLogs_4 x post v1_1 v2_2 → fG D cy L ad (fAr L ad s.heap.size) s x H locs → lv_has ls 3 [(0, .ref (ad 0)), (1, .int (iI v1_1)), (2, .int (iI v2_2))] → W p l e (headSpec wsX7_shavingsInLogs rm_X7_shavingsInLogs).room s m args below meth c H locs 0 0 (fQi below D cy L ad s args post) (F0 m 30 ls []) := by
    intro v1_1 v2_2 H locs ls hw G hl
    refine lv_iload_n C.1 C.2.1 dX7_shavingsInLogs_30 rfl (lv_at hl 1 rfl) ?_
    exact fr_iret C G hr hlk hw dX7_shavingsInLogs_31
  have hB4 : ∀ (n : Nat) (v1_1 : Int) (v2_2 : Int) (H : Heap) (locs : List Loc) (ls : Array Slot), lk2 (wB_X7_shavingsInLogs_4 x (wX_X7_shavingsInLogs_4 x post)) n v1_1 v2_2 → fG D cy L ad (fAr L ad s.heap.size) s x H locs → lv_has ls 3 [(0, .ref (ad 0)), (1, .int (iI v1_1)), (2, .int (iI v2_2))] → W p l e (headSpec wsX7_shavingsInLogs rm_X7_shavingsInLogs).room s m args below meth c H locs 0 0 (fQi below D cy L ad s args post) (F0 m 4 ls []) := by
    intro n
    induction n with
    | zero =>
      intro v1_1 v2_2 H locs ls hw
      exact hw.elim
    | succ n ih =>
      intro v1_1 v2_2 H locs ls hw G hl
      exact hS4 _ _ hX4 ih v1_1 v2_2 H locs ls hw G hl
  exact hB4 n4 0 0 _ _ _ hw G (lv_sub hl [2, 1, 0] rfl)
def w_X7_count (a1 : Int) (x : Mm) (post : Int → Mm → Prop) : Prop :=
  rg a1 ∧ (if a1 = 0 then (post (x 0 7) x) else (if a1 = 1 then (post (x 2 1) x) else (if a1 = 2 then (w_X0_spans x (fun z_5 x_4 => post z_5 x_4)) else (if a1 = 3 then (w_X7_shavingsInLogs x (fun z_8 x_7 => post z_8 x_7)) else (post (-2) x)))))
abbrev rm_X7_count : Room := { frames := 1, cells := 0, slots := 0, locals := 22 }
theorem iw_X7_count_X7 : ∀ w ∈ u_ws RX7 TX7 10, w ∈ wsX7_count := by decide +kernel
theorem fl_X7_count_50 : Cond.fieldLink RX7 50 (TX7 7).1 (TX7 7).2.1 (TX7 7).2.2.1 ∈ wsX7_count := by decide +kernel
theorem fl_X7_count_18 : Cond.fieldLink RX7 18 (TX7 1).1 (TX7 1).2.1 (TX7 1).2.2.1 ∈ wsX7_count := by decide +kernel
theorem iw_X7_count_X2 : ∀ w ∈ u_ws RX2 TX2 7, w ∈ wsX7_count := by decide +kernel
theorem fl_X7_count_124 : Cond.fieldLink RX7 124 (TX2 1).1 (TX2 1).2.1 (TX2 1).2.2.1 ∈ wsX7_count := by decide +kernel
theorem fl_X7_count_25 : Cond.fieldLink RX7 25 (TX7 2).1 (TX7 2).2.1 (TX7 2).2.2.1 ∈ wsX7_count := by decide +kernel
set_option maxHeartbeats 4000000 in
set_option maxRecDepth 100000 in
theorem c_X7_count (l : Launch) (D : va_G) (cy : Nat → ClassId) (L : List Nat) (ad : Nat → Nat) (sz : Nat) (hL : fLA L) (a1 : Int) (x : Mm) (post : Int → Mm → Prop) (hw : w_X7_count a1 x post) : fMi l yX7_count wsX7_count rm_X7_count [.ref (ad 0), .int (iI a1)] D cy L ad sz x post := by
  refine Met.ofW (cc := cX7_count) (maxL := 2) (ret := (some .int)) (by decide) rfl ?_
  intro p e s m args below meth c s₁ B hml hv
  obtain ⟨hargs, hp⟩ := hv
  obtain ⟨C, hr, hlk, hsz, G⟩ := fr_start B hml hp
  subst hsz
  obtain ⟨ls, els, hl⟩ := fr_entry (m := m) (n := 2) hargs (Nat.le_of_ble_eq_true rfl)
  rw [els]
  have hl : lv_has ls 2 [(0, .ref (ad 0)), (1, .int (iI a1))] := hl
  clear els hargs hp B
  refine lv_iload_n C.1 C.2.1 dX7_count_0 rfl (lv_at hl 1 rfl) ?_
  obtain ⟨hc_1, hw⟩ := hw
  by_cases q_2 : a1 = 0
  · have hw := if_p hw q_2
    refine lv_tableIn (off := 31) (tgt := 32) C.1 C.2.1 dX7_count_1 (by rw [iI_toInt hc_1]; omega) (by rw [iI_toInt hc_1]; omega) (by rw [iI_toInt hc_1, q_2]; rfl) (by decide) ?_
    refine lv_aload_n C.1 C.2.1 dX7_count_32 rfl (lv_at hl 0 rfl) ?_
    refine fr_get C G 0 (hL _ (by omega)) (cl_0 _) rfl iw_X7_count_X7 7 (by decide) fl_X7_count_50 rfl dX7_count_33 ?_
    exact fr_iret C G hr hlk hw dX7_count_36
  · have hw := if_n hw q_2
    by_cases q_3 : a1 = 1
    · have hw := if_p hw q_3
      refine lv_tableIn (off := 36) (tgt := 37) C.1 C.2.1 dX7_count_1 (by rw [iI_toInt hc_1]; omega) (by rw [iI_toInt hc_1]; omega) (by rw [iI_toInt hc_1, q_3]; rfl) (by decide) ?_
      refine lv_aload_n C.1 C.2.1 dX7_count_37 rfl (lv_at hl 0 rfl) ?_
      refine fr_get C G 0 (hL _ (by omega)) (cl_0 _) rfl iw_X7_count_X7 1 (by decide) fl_X7_count_18 rfl dX7_count_38 ?_
      refine fr_get C G 2 (hL _ (by omega)) (cl_2 _) rfl iw_X7_count_X2 1 (by decide) fl_X7_count_124 rfl dX7_count_41 ?_
      exact fr_iret C G hr hlk hw dX7_count_44
    · have hw := if_n hw q_3
      by_cases q_6 : a1 = 2
      · have hw := if_p hw q_6
        refine lv_tableIn (off := 44) (tgt := 45) C.1 C.2.1 dX7_count_1 (by rw [iI_toInt hc_1]; omega) (by rw [iI_toInt hc_1]; omega) (by rw [iI_toInt hc_1, q_6]; rfl) (by decide) ?_
        refine lv_aload_n C.1 C.2.1 dX7_count_45 rfl (lv_at hl 0 rfl) ?_
        refine fr_get C G 0 (hL _ (by omega)) (cl_0 _) rfl iw_X7_count_X7 2 (by decide) fl_X7_count_25 rfl dX7_count_46 ?_
        refine fr_Vi C G (c_X0_spans l D cy L ad _ hL x _ hw) (cwV 0 C.2.2.2.2 gX7_count_X0_spans rfl rfl rfl (by decide +kernel) ⟨Nat.le_of_ble_eq_true rfl, Nat.le_of_ble_eq_true rfl⟩) (G.recv (hL _ (by omega)) (cl_8 _) rfl) rfl hl.1 rfl (Nat.le_of_ble_eq_true rfl) dX7_count_49 ⟨Nat.zero_le _, Nat.zero_le _⟩ (fun z_5 x_4 H locs hw G => ?_)
        exact fr_iret C G hr hlk hw dX7_count_52
      · have hw := if_n hw q_6
        by_cases q_9 : a1 = 3
        · have hw := if_p hw q_9
          refine lv_tableIn (off := 52) (tgt := 53) C.1 C.2.1 dX7_count_1 (by rw [iI_toInt hc_1]; omega) (by rw [iI_toInt hc_1]; omega) (by rw [iI_toInt hc_1, q_9]; rfl) (by decide) ?_
          refine lv_aload_n C.1 C.2.1 dX7_count_53 rfl (lv_at hl 0 rfl) ?_
          refine fr_Vi C G (c_X7_shavingsInLogs l D cy L ad _ hL x _ hw) (cwV 0 C.2.2.2.2 gX7_count_X7_shavingsInLogs rfl rfl rfl (by decide +kernel) ⟨Nat.le_of_ble_eq_true rfl, Nat.le_of_ble_eq_true rfl⟩) (G.recv (hL _ (by omega)) (cl_0 _) rfl) rfl hl.1 rfl (Nat.le_of_ble_eq_true rfl) dX7_count_54 ⟨Nat.zero_le _, Nat.zero_le _⟩ (fun z_8 x_7 H locs hw G => ?_)
          exact fr_iret C G hr hlk hw dX7_count_57
        · have hw := if_n hw q_9
          refine lv_tableOut (tgt := 58) C.1 C.2.1 dX7_count_1 (by rw [iI_toInt hc_1]; omega) (by decide) ?_
          refine fr_bi C dX7_count_58 rfl ?_
          exact fr_iret C G hr hlk hw dX7_count_60
def w_X8_in (a1 a2 a3 : Int) (x : Mm) (post : Int → Mm → Prop) : Prop :=
  (rg a1 ∧ rg a2) ∧ (if a1 < a2 then (post 0 x) else ((rg a1 ∧ rg a3) ∧ (if a3 < a1 then (post 0 x) else (post 1 x))))
abbrev rm_X8_in : Room := { frames := 0, cells := 0, slots := 0, locals := 0 }
set_option maxHeartbeats 4000000 in
set_option maxRecDepth 100000 in
theorem c_X8_in (l : Launch) (D : va_G) (cy : Nat → ClassId) (L : List Nat) (ad : Nat → Nat) (sz : Nat) (a1 a2 a3 : Int) (x : Mm) (post : Int → Mm → Prop) (hw : w_X8_in a1 a2 a3 x post) : fMi l yX8_in wsX8_in rm_X8_in [.int (iI a1), .int (iI a2), .int (iI a3)] D cy L ad sz x post := by
  refine Met.ofW (cc := cX8_in) (maxL := 3) (ret := (some .boolean)) (by decide) rfl ?_
  intro p e s m args below meth c s₁ B hml hv
  obtain ⟨hargs, hp⟩ := hv
  obtain ⟨C, hr, hlk, hsz, G⟩ := fr_start B hml hp
  subst hsz
  obtain ⟨ls, els, hl⟩ := fr_entry (m := m) (n := 3) hargs (Nat.le_of_ble_eq_true rfl)
  rw [els]
  have hl : lv_has ls 3 [(0, .int (iI a1)), (1, .int (iI a2)), (2, .int (iI a3))] := hl
  clear els hargs hp B
  refine lv_iload_n C.1 C.2.1 dX8_in_0 rfl (lv_at hl 0 rfl) ?_
  refine lv_iload_n C.1 C.2.1 dX8_in_1 rfl (lv_at hl 1 rfl) ?_
  obtain ⟨hc_4, hw⟩ := hw
  refine fr_lt (tgt := 14) C dX8_in_2 (by decide) hc_4 (fun q_1 => ?_) (fun q_1 => ?_)
  · have hw := if_p hw q_1
    refine fr_ic C dX8_in_14 ?_
    exact fr_zret C G hr hlk (by decide) hw dX8_in_15
  · have hw := if_n hw q_1
    refine lv_iload_n C.1 C.2.1 dX8_in_5 rfl (lv_at hl 0 rfl) ?_
    refine lv_iload_n C.1 C.2.1 dX8_in_6 rfl (lv_at hl 2 rfl) ?_
    obtain ⟨hc_3, hw⟩ := hw
    refine fr_gt (tgt := 14) C dX8_in_7 (by decide) hc_3 (fun q_2 => ?_) (fun q_2 => ?_)
    · have hw := if_p hw q_2
      refine fr_ic C dX8_in_14 ?_
      exact fr_zret C G hr hlk (by decide) hw dX8_in_15
    · have hw := if_n hw q_2
      refine fr_ic C dX8_in_10 ?_
      refine lv_goto (tgt := 15) C.1 C.2.1 dX8_in_11 (by decide) ?_
      exact fr_zret C G hr hlk (by decide) hw dX8_in_15
def w_X8_isThick (a1 : Int) (x : Mm) (post : Int → Mm → Prop) : Prop :=
  w_X8_in a1 1 9 x (fun z_2 x_1 => (z_2 = 0 ∨ z_2 = 1) ∧ post z_2 x_1)
abbrev rm_X8_isThick : Room := { frames := 1, cells := 0, slots := 0, locals := 22 }
set_option maxHeartbeats 4000000 in
set_option maxRecDepth 100000 in
theorem c_X8_isThick (l : Launch) (D : va_G) (cy : Nat → ClassId) (L : List Nat) (ad : Nat → Nat) (sz : Nat) (a1 : Int) (x : Mm) (post : Int → Mm → Prop) (hw : w_X8_isThick a1 x post) : fMi l yX8_isThick wsX8_isThick rm_X8_isThick [.int (iI a1)] D cy L ad sz x post := by
  refine Met.ofW (cc := cX8_isThick) (maxL := 1) (ret := (some .boolean)) (by decide) rfl ?_
  intro p e s m args below meth c s₁ B hml hv
  obtain ⟨hargs, hp⟩ := hv
  obtain ⟨C, hr, hlk, hsz, G⟩ := fr_start B hml hp
  subst hsz
  obtain ⟨ls, els, hl⟩ := fr_entry (m := m) (n := 1) hargs (Nat.le_of_ble_eq_true rfl)
  rw [els]
  have hl : lv_has ls 1 [(0, .int (iI a1))] := hl
  clear els hargs hp B
  refine lv_iload_n C.1 C.2.1 dX8_isThick_0 rfl (lv_at hl 0 rfl) ?_
  refine fr_ic C dX8_isThick_1 ?_
  refine fr_bi C dX8_isThick_2 rfl ?_
  refine fr_Si C G (c_X8_in l D cy L ad _ a1 1 9 x _ hw) (va_cwS 3 C.2.2.2.2 gX8_isThick_X8_in rfl rfl rfl (by decide +kernel) ⟨Nat.le_of_ble_eq_true rfl, Nat.le_of_ble_eq_true rfl⟩) rfl hl.1 rfl (Nat.le_of_ble_eq_true rfl) dX8_isThick_4 ⟨Nat.zero_le _, Nat.zero_le _⟩ (fun z_2 x_1 H locs hw G => ?_)
  exact fr_zret C G hr hlk hw.1 hw.2 dX8_isThick_7
def w_X8_isPlate (a1 : Int) (x : Mm) (post : Int → Mm → Prop) : Prop :=
  w_X8_in a1 0 ((x 60 0) - 1) x (fun z_2 x_1 => (z_2 = 0 ∨ z_2 = 1) ∧ post z_2 x_1)
abbrev rm_X8_isPlate : Room := { frames := 1, cells := 0, slots := 0, locals := 22 }
theorem iw_X8_isPlate_X8 : ∀ w ∈ u_ws RX8 TX8 20, w ∈ wsX8_isPlate := by decide +kernel
theorem fl_X8_isPlate_64 : Cond.fieldLink RX8 64 (TX8 0).1 (TX8 0).2.1 (TX8 0).2.2.1 ∈ wsX8_isPlate := by decide +kernel
set_option maxHeartbeats 4000000 in
set_option maxRecDepth 100000 in
theorem c_X8_isPlate (l : Launch) (D : va_G) (cy : Nat → ClassId) (L : List Nat) (ad : Nat → Nat) (sz : Nat) (hL : fLM L) (a1 : Int) (x : Mm) (post : Int → Mm → Prop) (hw : w_X8_isPlate a1 x post) : fMi l yX8_isPlate wsX8_isPlate rm_X8_isPlate [.ref (ad 60), .int (iI a1)] D cy L ad sz x post := by
  refine Met.ofW (cc := cX8_isPlate) (maxL := 2) (ret := (some .boolean)) (by decide) rfl ?_
  intro p e s m args below meth c s₁ B hml hv
  obtain ⟨hargs, hp⟩ := hv
  obtain ⟨C, hr, hlk, hsz, G⟩ := fr_start B hml hp
  subst hsz
  obtain ⟨ls, els, hl⟩ := fr_entry (m := m) (n := 2) hargs (Nat.le_of_ble_eq_true rfl)
  rw [els]
  have hl : lv_has ls 2 [(0, .ref (ad 60)), (1, .int (iI a1))] := hl
  clear els hargs hp B
  refine lv_iload_n C.1 C.2.1 dX8_isPlate_0 rfl (lv_at hl 1 rfl) ?_
  refine fr_ic C dX8_isPlate_1 ?_
  refine lv_aload_n C.1 C.2.1 dX8_isPlate_2 rfl (lv_at hl 0 rfl) ?_
  refine fr_get C G 60 (hL _ (by omega)) (cl_60 _) rfl iw_X8_isPlate_X8 0 (by decide) fl_X8_isPlate_64 rfl dX8_isPlate_3 ?_
  refine fr_ic C dX8_isPlate_6 ?_
  refine fr_isub C dX8_isPlate_7 ?_
  refine fr_Si C G (c_X8_in l D cy L ad _ a1 0 ((x 60 0) - 1) x _ hw) (va_cwS 3 C.2.2.2.2 gX8_isPlate_X8_in rfl rfl rfl (by decide +kernel) ⟨Nat.le_of_ble_eq_true rfl, Nat.le_of_ble_eq_true rfl⟩) rfl hl.1 rfl (Nat.le_of_ble_eq_true rfl) dX8_isPlate_8 ⟨Nat.zero_le _, Nat.zero_le _⟩ (fun z_2 x_1 H locs hw G => ?_)
  exact fr_zret C G hr hlk hw.1 hw.2 dX8_isPlate_11
def w_X8_isFour (a1 : Int) (x : Mm) (post : Int → Mm → Prop) : Prop :=
  w_X8_in a1 0 3 x (fun z_2 x_1 => (z_2 = 0 ∨ z_2 = 1) ∧ post z_2 x_1)
abbrev rm_X8_isFour : Room := { frames := 1, cells := 0, slots := 0, locals := 22 }
set_option maxHeartbeats 4000000 in
set_option maxRecDepth 100000 in
theorem c_X8_isFour (l : Launch) (D : va_G) (cy : Nat → ClassId) (L : List Nat) (ad : Nat → Nat) (sz : Nat) (a1 : Int) (x : Mm) (post : Int → Mm → Prop) (hw : w_X8_isFour a1 x post) : fMi l yX8_isFour wsX8_isFour rm_X8_isFour [.int (iI a1)] D cy L ad sz x post := by
  refine Met.ofW (cc := cX8_isFour) (maxL := 1) (ret := (some .boolean)) (by decide) rfl ?_
  intro p e s m args below meth c s₁ B hml hv
  obtain ⟨hargs, hp⟩ := hv
  obtain ⟨C, hr, hlk, hsz, G⟩ := fr_start B hml hp
  subst hsz
  obtain ⟨ls, els, hl⟩ := fr_entry (m := m) (n := 1) hargs (Nat.le_of_ble_eq_true rfl)
  rw [els]
  have hl : lv_has ls 1 [(0, .int (iI a1))] := hl
  clear els hargs hp B
  refine lv_iload_n C.1 C.2.1 dX8_isFour_0 rfl (lv_at hl 0 rfl) ?_
  refine fr_ic C dX8_isFour_1 ?_
  refine fr_ic C dX8_isFour_2 ?_
  refine fr_Si C G (c_X8_in l D cy L ad _ a1 0 3 x _ hw) (va_cwS 3 C.2.2.2.2 gX8_isFour_X8_in rfl rfl rfl (by decide +kernel) ⟨Nat.le_of_ble_eq_true rfl, Nat.le_of_ble_eq_true rfl⟩) rfl hl.1 rfl (Nat.le_of_ble_eq_true rfl) dX8_isFour_3 ⟨Nat.zero_le _, Nat.zero_le _⟩ (fun z_2 x_1 H locs hw G => ?_)
  exact fr_zret C G hr hlk hw.1 hw.2 dX8_isFour_6
