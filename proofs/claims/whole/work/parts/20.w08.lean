def w_X4_putBack (j : Nat) (x : Mm) (post : Int → Mm → Prop) : Prop :=
  rg (x (20 + 3 * j) 2) ∧ (if 0 < (x (20 + 3 * j) 2) then (∀ x_2 : Mm, x_2 = up2 x (20 + 3 * j) 2 ((x (20 + 3 * j) 2) - 1) → (0 ≤ x_2 (20 + 3 * j) 2 ∧ x_2 (20 + 3 * j) 2 < 20) ∧ ∀ v1_4 : Int, v1_4 = x_2 (20 + 3 * j + 2) (x_2 (20 + 3 * j) 2).toNat → (0 ≤ v1_4 ∧ v1_4 < 4) ∧ (0 ≤ v1_4 ∧ v1_4 < 4) ∧ (∀ x_7 : Mm, x_7 = up2 x_2 (20 + 3 * j + 1) (v1_4).toNat ((x_2 (20 + 3 * j + 1) (v1_4).toNat) + 1) → post v1_4 x_7)) else (post (-3) x))
abbrev rm_X4_putBack : Room := { frames := 0, cells := 0, slots := 0, locals := 0 }
theorem iw_X4_putBack_X4 : ∀ w ∈ u_ws RX4 TX4 3, w ∈ wsX4_putBack := by decide +kernel
theorem fl_X4_putBack_18 : Cond.fieldLink RX4 18 (TX4 2).1 (TX4 2).2.1 (TX4 2).2.2.1 ∈ wsX4_putBack := by decide +kernel
theorem fl_X4_putBack_15 : Cond.fieldLink RX4 15 (TX4 1).1 (TX4 1).2.1 (TX4 1).2.2.1 ∈ wsX4_putBack := by decide +kernel
theorem fl_X4_putBack_9 : Cond.fieldLink RX4 9 (TX4 0).1 (TX4 0).2.1 (TX4 0).2.2.1 ∈ wsX4_putBack := by decide +kernel
set_option maxHeartbeats 4000000 in
set_option maxRecDepth 100000 in
theorem c_X4_putBack (l : Launch) (D : va_G) (cy : Nat → ClassId) (L : List Nat) (ad : Nat → Nat) (sz : Nat) (hL : fLA L) (j : Nat) (hj : j < 4) (x : Mm) (post : Int → Mm → Prop) (hw : w_X4_putBack j x post) : fMi l yX4_putBack wsX4_putBack rm_X4_putBack [.ref (ad (20 + 3 * j))] D cy L ad sz x post := by
  refine Met.ofW (cc := cX4_putBack) (maxL := 2) (ret := (some .int)) (by decide) rfl ?_
  intro p e s m args below meth c s₁ B hml hv
  obtain ⟨hargs, hp⟩ := hv
  obtain ⟨C, hr, hlk, hsz, G⟩ := fr_start B hml hp
  subst hsz
  obtain ⟨ls, els, hl⟩ := fr_entry (m := m) (n := 2) hargs (Nat.le_of_ble_eq_true rfl)
  rw [els]
  have hl : lv_has ls 2 [(0, .ref (ad (20 + 3 * j)))] := hl
  clear els hargs hp B
  refine lv_aload_n C.1 C.2.1 dX4_putBack_0 rfl (lv_at hl 0 rfl) ?_
  refine fr_get C G (20 + 3 * j) (hL _ (by omega)) (cell_pl _ (by omega)) rfl iw_X4_putBack_X4 2 (by decide) fl_X4_putBack_18 rfl dX4_putBack_1 ?_
  obtain ⟨hc_8, hw⟩ := hw
  refine fr_gt0 (tgt := 10) C dX4_putBack_4 (by decide) hc_8 (fun q_1 => ?_) (fun q_1 => ?_)
  · have hw := if_p hw q_1
    refine lv_aload_n C.1 C.2.1 dX4_putBack_10 rfl (lv_at hl 0 rfl) ?_
    refine lv_dup C.1 C.2.1 dX4_putBack_11 rfl ?_
    refine fr_get C G (20 + 3 * j) (hL _ (by omega)) (cell_pl _ (by omega)) rfl iw_X4_putBack_X4 2 (by decide) fl_X4_putBack_18 rfl dX4_putBack_12 ?_
    refine fr_ic C dX4_putBack_15 ?_
    refine fr_isub C dX4_putBack_16 ?_
    refine fr_put C G (20 + 3 * j) (hL _ (by omega)) (cell_pl _ (by omega)) rfl iw_X4_putBack_X4 tyX4_ok nmX4 2 (by decide) fl_X4_putBack_18 rfl (by decide +kernel) (Nat.le_of_ble_eq_true rfl) (st_pl_2 _ _ (by omega)) dX4_putBack_17 (fun x_2 H locs ex_2 G => ?_)
    have hw := hw x_2 ex_2
    refine lv_aload_n C.1 C.2.1 dX4_putBack_20 rfl (lv_at hl 0 rfl) ?_
    refine fr_get C G (20 + 3 * j) (hL _ (by omega)) (cell_pl _ (by omega)) rfl iw_X4_putBack_X4 1 (by decide) fl_X4_putBack_15 rfl dX4_putBack_21 ?_
    refine lv_aload_n C.1 C.2.1 dX4_putBack_24 rfl (lv_at hl 0 rfl) ?_
    refine fr_get C G (20 + 3 * j) (hL _ (by omega)) (cell_pl _ (by omega)) rfl iw_X4_putBack_X4 2 (by decide) fl_X4_putBack_18 rfl dX4_putBack_25 ?_
    obtain ⟨hb_3, hw⟩ := hw
    refine fr_iald C G (20 + 3 * j + 2) 20 (hL _ (by omega)) (al_pl _ (by omega)).2.2 ⟨by decide, by decide⟩ hb_3 dX4_putBack_28 ?_
    refine fr_nm (fun v1_4 ev1_4 => ?_)
    have hw := hw v1_4 ev1_4
    refine lv_istore_n (lv' := [(1, .int (iI v1_4)), (0, .ref (ad (20 + 3 * j)))]) C.1 C.2.1 dX4_putBack_29 rfl hl (by decide) rfl (fun ls hl => ?_)
    refine lv_aload_n C.1 C.2.1 dX4_putBack_30 rfl (lv_at hl 1 rfl) ?_
    refine fr_get C G (20 + 3 * j) (hL _ (by omega)) (cell_pl _ (by omega)) rfl iw_X4_putBack_X4 0 (by decide) fl_X4_putBack_9 rfl dX4_putBack_31 ?_
    refine lv_iload_n C.1 C.2.1 dX4_putBack_34 rfl (lv_at hl 0 rfl) ?_
    refine lv_dup2_11 C.1 C.2.1 dX4_putBack_35 rfl rfl ?_
    obtain ⟨hb_5, hw⟩ := hw
    refine fr_iald C G (20 + 3 * j + 1) 4 (hL _ (by omega)) (al_pl _ (by omega)).2.1 ⟨by decide, by decide⟩ hb_5 dX4_putBack_36 ?_
    refine fr_ic C dX4_putBack_37 ?_
    refine fr_iadd C dX4_putBack_38 ?_
    obtain ⟨hb_6, hw⟩ := hw
    refine fr_iast C G (20 + 3 * j + 1) 4 (hL _ (by omega)) (al_pl _ (by omega)).2.1 ⟨by decide, by decide⟩ hb_6 dX4_putBack_39 (fun x_7 H locs ex_7 G => ?_)
    have hw := hw x_7 ex_7
    refine lv_iload_n C.1 C.2.1 dX4_putBack_40 rfl (lv_at hl 0 rfl) ?_
    exact fr_iret C G hr hlk hw dX4_putBack_41
  · have hw := if_n hw q_1
    refine fr_bi C dX4_putBack_7 rfl ?_
    exact fr_iret C G hr hlk hw dX4_putBack_9
def w_X4_turn (j : Nat) (x : Mm) (post : Mm → Prop) : Prop :=
  w_X4_lay j (x (20 + 3 * j + 1) 3) (x (20 + 3 * j + 1) 2) (x (20 + 3 * j + 1) 1) (x (20 + 3 * j + 1) 0) x (fun x_5 => ∀ x_6 : Mm, x_6 = up2 x_5 (20 + 3 * j) 2 0 → post x_6)
abbrev rm_X4_turn : Room := { frames := 1, cells := 0, slots := 0, locals := 24 }
theorem iw_X4_turn_X4 : ∀ w ∈ u_ws RX4 TX4 3, w ∈ wsX4_turn := by decide +kernel
theorem fl_X4_turn_9 : Cond.fieldLink RX4 9 (TX4 0).1 (TX4 0).2.1 (TX4 0).2.2.1 ∈ wsX4_turn := by decide +kernel
theorem fl_X4_turn_18 : Cond.fieldLink RX4 18 (TX4 2).1 (TX4 2).2.1 (TX4 2).2.2.1 ∈ wsX4_turn := by decide +kernel
set_option maxHeartbeats 4000000 in
set_option maxRecDepth 100000 in
theorem c_X4_turn (l : Launch) (D : va_G) (cy : Nat → ClassId) (L : List Nat) (ad : Nat → Nat) (sz : Nat) (hL : fLA L) (j : Nat) (hj : j < 4) (x : Mm) (post : Mm → Prop) (hw : w_X4_turn j x post) : fMv l yX4_turn wsX4_turn rm_X4_turn [.ref (ad (20 + 3 * j))] D cy L ad sz x post := by
  refine Met.ofW (cc := cX4_turn) (maxL := 1) (ret := none) (by decide) rfl ?_
  intro p e s m args below meth c s₁ B hml hv
  obtain ⟨hargs, hp⟩ := hv
  obtain ⟨C, hr, hlk, hsz, G⟩ := fr_start B hml hp
  subst hsz
  obtain ⟨ls, els, hl⟩ := fr_entry (m := m) (n := 1) hargs (Nat.le_of_ble_eq_true rfl)
  rw [els]
  have hl : lv_has ls 1 [(0, .ref (ad (20 + 3 * j)))] := hl
  clear els hargs hp B
  refine lv_aload_n C.1 C.2.1 dX4_turn_0 rfl (lv_at hl 0 rfl) ?_
  refine lv_aload_n C.1 C.2.1 dX4_turn_1 rfl (lv_at hl 0 rfl) ?_
  refine fr_get C G (20 + 3 * j) (hL _ (by omega)) (cell_pl _ (by omega)) rfl iw_X4_turn_X4 0 (by decide) fl_X4_turn_9 rfl dX4_turn_2 ?_
  refine fr_ic C dX4_turn_5 ?_
  refine fr_iald C G (20 + 3 * j + 1) 4 (hL _ (by omega)) (al_pl _ (by omega)).2.1 ⟨by decide, by decide⟩ ⟨by decide, by decide⟩ dX4_turn_6 ?_
  refine lv_aload_n C.1 C.2.1 dX4_turn_7 rfl (lv_at hl 0 rfl) ?_
  refine fr_get C G (20 + 3 * j) (hL _ (by omega)) (cell_pl _ (by omega)) rfl iw_X4_turn_X4 0 (by decide) fl_X4_turn_9 rfl dX4_turn_8 ?_
  refine fr_ic C dX4_turn_11 ?_
  refine fr_iald C G (20 + 3 * j + 1) 4 (hL _ (by omega)) (al_pl _ (by omega)).2.1 ⟨by decide, by decide⟩ ⟨by decide, by decide⟩ dX4_turn_12 ?_
  refine lv_aload_n C.1 C.2.1 dX4_turn_13 rfl (lv_at hl 0 rfl) ?_
  refine fr_get C G (20 + 3 * j) (hL _ (by omega)) (cell_pl _ (by omega)) rfl iw_X4_turn_X4 0 (by decide) fl_X4_turn_9 rfl dX4_turn_14 ?_
  refine fr_ic C dX4_turn_17 ?_
  refine fr_iald C G (20 + 3 * j + 1) 4 (hL _ (by omega)) (al_pl _ (by omega)).2.1 ⟨by decide, by decide⟩ ⟨by decide, by decide⟩ dX4_turn_18 ?_
  refine lv_aload_n C.1 C.2.1 dX4_turn_19 rfl (lv_at hl 0 rfl) ?_
  refine fr_get C G (20 + 3 * j) (hL _ (by omega)) (cell_pl _ (by omega)) rfl iw_X4_turn_X4 0 (by decide) fl_X4_turn_9 rfl dX4_turn_20 ?_
  refine fr_ic C dX4_turn_23 ?_
  refine fr_iald C G (20 + 3 * j + 1) 4 (hL _ (by omega)) (al_pl _ (by omega)).2.1 ⟨by decide, by decide⟩ ⟨by decide, by decide⟩ dX4_turn_24 ?_
  refine fr_Vv C G (c_X4_lay l D cy L ad _ hL j (by omega) (x (20 + 3 * j + 1) 3) (x (20 + 3 * j + 1) 2) (x (20 + 3 * j + 1) 1) (x (20 + 3 * j + 1) 0) x _ hw) (cwV 4 C.2.2.2.2 gX4_turn_X4_lay rfl rfl rfl (by decide +kernel) ⟨Nat.le_of_ble_eq_true rfl, Nat.le_of_ble_eq_true rfl⟩) (G.recv (hL _ (by omega)) (cell_pl _ (by omega)) rfl) rfl hl.1 rfl (Nat.le_of_ble_eq_true rfl) dX4_turn_25 ⟨Nat.zero_le _, Nat.zero_le _⟩ (fun x_5 H locs hw G => ?_)
  refine lv_aload_n C.1 C.2.1 dX4_turn_28 rfl (lv_at hl 0 rfl) ?_
  refine fr_ic C dX4_turn_29 ?_
  refine fr_put C G (20 + 3 * j) (hL _ (by omega)) (cell_pl _ (by omega)) rfl iw_X4_turn_X4 tyX4_ok nmX4 2 (by decide) fl_X4_turn_18 rfl (by decide +kernel) (Nat.le_of_ble_eq_true rfl) (st_pl_2 _ _ (by omega)) dX4_turn_30 (fun x_6 H locs ex_6 G => ?_)
  have hw := hw x_6 ex_6
  exact fr_vret C G hr hlk hw dX4_turn_33
def w_X7_isThickness (a1 : Int) (x : Mm) (post : Int → Mm → Prop) : Prop :=
  rg a1 ∧ (if a1 < 1 then (post 0 x) else (rg a1 ∧ (if 9 < a1 then (post 0 x) else (post 1 x))))
abbrev rm_X7_isThickness : Room := { frames := 0, cells := 0, slots := 0, locals := 0 }
set_option maxHeartbeats 4000000 in
set_option maxRecDepth 100000 in
theorem c_X7_isThickness (l : Launch) (D : va_G) (cy : Nat → ClassId) (L : List Nat) (ad : Nat → Nat) (sz : Nat) (a1 : Int) (x : Mm) (post : Int → Mm → Prop) (hw : w_X7_isThickness a1 x post) : fMi l yX7_isThickness wsX7_isThickness rm_X7_isThickness [.int (iI a1)] D cy L ad sz x post := by
  refine Met.ofW (cc := cX7_isThickness) (maxL := 1) (ret := (some .boolean)) (by decide) rfl ?_
  intro p e s m args below meth c s₁ B hml hv
  obtain ⟨hargs, hp⟩ := hv
  obtain ⟨C, hr, hlk, hsz, G⟩ := fr_start B hml hp
  subst hsz
  obtain ⟨ls, els, hl⟩ := fr_entry (m := m) (n := 1) hargs (Nat.le_of_ble_eq_true rfl)
  rw [els]
  have hl : lv_has ls 1 [(0, .int (iI a1))] := hl
  clear els hargs hp B
  refine lv_iload_n C.1 C.2.1 dX7_isThickness_0 rfl (lv_at hl 0 rfl) ?_
  refine fr_ic C dX7_isThickness_1 ?_
  obtain ⟨hc_4, hw⟩ := hw
  refine fr_lt (tgt := 15) C dX7_isThickness_2 (by decide) ⟨hc_4, ⟨by decide, by decide⟩⟩ (fun q_1 => ?_) (fun q_1 => ?_)
  · have hw := if_p hw q_1
    refine fr_ic C dX7_isThickness_15 ?_
    exact fr_zret C G hr hlk (by decide) hw dX7_isThickness_16
  · have hw := if_n hw q_1
    refine lv_iload_n C.1 C.2.1 dX7_isThickness_5 rfl (lv_at hl 0 rfl) ?_
    refine fr_bi C dX7_isThickness_6 rfl ?_
    obtain ⟨hc_3, hw⟩ := hw
    refine fr_gt (tgt := 15) C dX7_isThickness_8 (by decide) ⟨hc_3, ⟨by decide, by decide⟩⟩ (fun q_2 => ?_) (fun q_2 => ?_)
    · have hw := if_p hw q_2
      refine fr_ic C dX7_isThickness_15 ?_
      exact fr_zret C G hr hlk (by decide) hw dX7_isThickness_16
    · have hw := if_n hw q_2
      refine fr_ic C dX7_isThickness_11 ?_
      refine lv_goto (tgt := 16) C.1 C.2.1 dX7_isThickness_12 (by decide) ?_
      exact fr_zret C G hr hlk (by decide) hw dX7_isThickness_16
def w_X7_plate (a1 a2 a3 a4 : Int) (x : Mm) (post : Int → Mm → Prop) : Prop :=
  w_X7_isThickness a1 x (fun z_2 x_1 => rg z_2 ∧ (if z_2 = 0 then (post (-2) x_1) else (w_X7_isThickness a2 x_1 (fun z_5 x_4 => rg z_5 ∧ (if z_5 = 0 then (post (-2) x_4) else (w_X7_isThickness a3 x_4 (fun z_8 x_7 => rg z_8 ∧ (if z_8 = 0 then (post (-2) x_7) else (w_X7_isThickness a4 x_7 (fun z_11 x_10 => rg z_11 ∧ (if z_11 = 0 then (post (-2) x_10) else (rg (x_10 0 7) ∧ (if (x_10 0 7) < 4 then ((0 ≤ x_10 0 7 ∧ x_10 0 7 < 4) ∧ w_X4_lay ((x_10 0 7).toNat) a1 a2 a3 a4 x_10 (fun x_15 => ∀ x_16 : Mm, x_16 = up2 x_15 0 7 ((x_15 0 7) + 1) → post ((x_16 0 7) - 1) x_16)) else (post (-4) x_10))))))))))))))
abbrev rm_X7_plate : Room := { frames := 1, cells := 0, slots := 0, locals := 24 }
theorem iw_X7_plate_X7 : ∀ w ∈ u_ws RX7 TX7 10, w ∈ wsX7_plate := by decide +kernel
theorem fl_X7_plate_50 : Cond.fieldLink RX7 50 (TX7 7).1 (TX7 7).2.1 (TX7 7).2.2.1 ∈ wsX7_plate := by decide +kernel
theorem fl_X7_plate_11 : Cond.fieldLink RX7 11 (TX7 0).1 (TX7 0).2.1 (TX7 0).2.2.1 ∈ wsX7_plate := by decide +kernel
set_option maxHeartbeats 4000000 in
set_option maxRecDepth 100000 in
theorem c_X7_plate (l : Launch) (D : va_G) (cy : Nat → ClassId) (L : List Nat) (ad : Nat → Nat) (sz : Nat) (hL : fLA L) (a1 a2 a3 a4 : Int) (x : Mm) (post : Int → Mm → Prop) (hw : w_X7_plate a1 a2 a3 a4 x post) : fMi l yX7_plate wsX7_plate rm_X7_plate [.ref (ad 0), .int (iI a1), .int (iI a2), .int (iI a3), .int (iI a4)] D cy L ad sz x post := by
  refine Met.ofW (cc := cX7_plate) (maxL := 5) (ret := (some .int)) (by decide) rfl ?_
  intro p e s m args below meth c s₁ B hml hv
  obtain ⟨hargs, hp⟩ := hv
  obtain ⟨C, hr, hlk, hsz, G⟩ := fr_start B hml hp
  subst hsz
  obtain ⟨ls, els, hl⟩ := fr_entry (m := m) (n := 5) hargs (Nat.le_of_ble_eq_true rfl)
  rw [els]
  have hl : lv_has ls 5 [(0, .ref (ad 0)), (1, .int (iI a1)), (2, .int (iI a2)), (3, .int (iI a3)), (4, .int (iI a4))] := hl
  clear els hargs hp B
  refine lv_iload_n C.1 C.2.1 dX7_plate_0 rfl (lv_at hl 1 rfl) ?_
  refine fr_Si C G (c_X7_isThickness l D cy L ad _ a1 x _ hw) (va_cwS 1 C.2.2.2.2 gX7_plate_X7_isThickness rfl rfl rfl (by decide +kernel) ⟨Nat.le_of_ble_eq_true rfl, Nat.le_of_ble_eq_true rfl⟩) rfl hl.1 rfl (Nat.le_of_ble_eq_true rfl) dX7_plate_1 ⟨Nat.zero_le _, Nat.zero_le _⟩ (fun z_2 x_1 H locs hw G => ?_)
  obtain ⟨hc_21, hw⟩ := hw
  refine fr_eq0 (tgt := 29) C dX7_plate_4 (by decide) hc_21 (fun q_3 => ?_) (fun q_3 => ?_)
  · have hw := if_p hw q_3
    refine fr_bi C dX7_plate_29 rfl ?_
    exact fr_iret C G hr hlk hw dX7_plate_31
  · have hw := if_n hw q_3
    refine lv_iload_n C.1 C.2.1 dX7_plate_7 rfl (lv_at hl 2 rfl) ?_
    refine fr_Si C G (c_X7_isThickness l D cy L ad _ a2 x_1 _ hw) (va_cwS 1 C.2.2.2.2 gX7_plate_X7_isThickness rfl rfl rfl (by decide +kernel) ⟨Nat.le_of_ble_eq_true rfl, Nat.le_of_ble_eq_true rfl⟩) rfl hl.1 rfl (Nat.le_of_ble_eq_true rfl) dX7_plate_8 ⟨Nat.zero_le _, Nat.zero_le _⟩ (fun z_5 x_4 H locs hw G => ?_)
    obtain ⟨hc_20, hw⟩ := hw
    refine fr_eq0 (tgt := 29) C dX7_plate_11 (by decide) hc_20 (fun q_6 => ?_) (fun q_6 => ?_)
    · have hw := if_p hw q_6
      refine fr_bi C dX7_plate_29 rfl ?_
      exact fr_iret C G hr hlk hw dX7_plate_31
    · have hw := if_n hw q_6
      refine lv_iload_n C.1 C.2.1 dX7_plate_14 rfl (lv_at hl 3 rfl) ?_
      refine fr_Si C G (c_X7_isThickness l D cy L ad _ a3 x_4 _ hw) (va_cwS 1 C.2.2.2.2 gX7_plate_X7_isThickness rfl rfl rfl (by decide +kernel) ⟨Nat.le_of_ble_eq_true rfl, Nat.le_of_ble_eq_true rfl⟩) rfl hl.1 rfl (Nat.le_of_ble_eq_true rfl) dX7_plate_15 ⟨Nat.zero_le _, Nat.zero_le _⟩ (fun z_8 x_7 H locs hw G => ?_)
      obtain ⟨hc_19, hw⟩ := hw
      refine fr_eq0 (tgt := 29) C dX7_plate_18 (by decide) hc_19 (fun q_9 => ?_) (fun q_9 => ?_)
      · have hw := if_p hw q_9
        refine fr_bi C dX7_plate_29 rfl ?_
        exact fr_iret C G hr hlk hw dX7_plate_31
      · have hw := if_n hw q_9
        refine lv_iload C.1 C.2.1 dX7_plate_21 (lv_at hl 4 rfl) ?_
        refine fr_Si C G (c_X7_isThickness l D cy L ad _ a4 x_7 _ hw) (va_cwS 1 C.2.2.2.2 gX7_plate_X7_isThickness rfl rfl rfl (by decide +kernel) ⟨Nat.le_of_ble_eq_true rfl, Nat.le_of_ble_eq_true rfl⟩) rfl hl.1 rfl (Nat.le_of_ble_eq_true rfl) dX7_plate_23 ⟨Nat.zero_le _, Nat.zero_le _⟩ (fun z_11 x_10 H locs hw G => ?_)
        obtain ⟨hc_18, hw⟩ := hw
        refine fr_ne0 (tgt := 32) C dX7_plate_26 (by decide) hc_18 (fun q_12 => ?_) (fun q_12 => ?_)
        · have hw := if_p hw q_12
          refine fr_bi C dX7_plate_29 rfl ?_
          exact fr_iret C G hr hlk hw dX7_plate_31
        · have hw := if_n hw q_12
          refine lv_aload_n C.1 C.2.1 dX7_plate_32 rfl (lv_at hl 0 rfl) ?_
          refine fr_get C G 0 (hL _ (by omega)) (cl_0 _) rfl iw_X7_plate_X7 7 (by decide) fl_X7_plate_50 rfl dX7_plate_33 ?_
          refine fr_ic C dX7_plate_36 ?_
          obtain ⟨hc_17, hw⟩ := hw
          refine fr_lt (tgt := 43) C dX7_plate_37 (by decide) ⟨hc_17, ⟨by decide, by decide⟩⟩ (fun q_13 => ?_) (fun q_13 => ?_)
          · have hw := if_p hw q_13
            refine lv_aload_n C.1 C.2.1 dX7_plate_43 rfl (lv_at hl 0 rfl) ?_
            refine fr_get C G 0 (hL _ (by omega)) (cl_0 _) rfl iw_X7_plate_X7 0 (by decide) fl_X7_plate_11 rfl dX7_plate_44 ?_
            refine lv_aload_n C.1 C.2.1 dX7_plate_47 rfl (lv_at hl 0 rfl) ?_
            refine fr_get C G 0 (hL _ (by omega)) (cl_0 _) rfl iw_X7_plate_X7 7 (by decide) fl_X7_plate_50 rfl dX7_plate_48 ?_
            obtain ⟨hb_14, hw⟩ := hw
            refine fr_apl C G (hL _ (by omega)) hb_14 dX7_plate_51 ?_
            refine lv_iload_n C.1 C.2.1 dX7_plate_52 rfl (lv_at hl 1 rfl) ?_
            refine lv_iload_n C.1 C.2.1 dX7_plate_53 rfl (lv_at hl 2 rfl) ?_
            refine lv_iload_n C.1 C.2.1 dX7_plate_54 rfl (lv_at hl 3 rfl) ?_
            refine lv_iload C.1 C.2.1 dX7_plate_55 (lv_at hl 4 rfl) ?_
            refine fr_Vv C G (c_X4_lay l D cy L ad _ hL ((x_10 0 7).toNat) (by omega) a1 a2 a3 a4 x_10 _ hw) (cwV 4 C.2.2.2.2 gX7_plate_X4_lay rfl rfl rfl (by decide +kernel) ⟨Nat.le_of_ble_eq_true rfl, Nat.le_of_ble_eq_true rfl⟩) (G.recv (hL _ (by omega)) (cell_pl _ (by omega)) rfl) rfl hl.1 rfl (Nat.le_of_ble_eq_true rfl) dX7_plate_57 ⟨Nat.zero_le _, Nat.zero_le _⟩ (fun x_15 H locs hw G => ?_)
            refine lv_aload_n C.1 C.2.1 dX7_plate_60 rfl (lv_at hl 0 rfl) ?_
            refine lv_dup C.1 C.2.1 dX7_plate_61 rfl ?_
            refine fr_get C G 0 (hL _ (by omega)) (cl_0 _) rfl iw_X7_plate_X7 7 (by decide) fl_X7_plate_50 rfl dX7_plate_62 ?_
            refine fr_ic C dX7_plate_65 ?_
            refine fr_iadd C dX7_plate_66 ?_
            refine fr_put C G 0 (hL _ (by omega)) (cl_0 _) rfl iw_X7_plate_X7 tyX7_ok nmX7 7 (by decide) fl_X7_plate_50 rfl (by decide +kernel) (Nat.le_of_ble_eq_true rfl) (st_0_7 _ _) dX7_plate_67 (fun x_16 H locs ex_16 G => ?_)
            have hw := hw x_16 ex_16
            refine lv_aload_n C.1 C.2.1 dX7_plate_70 rfl (lv_at hl 0 rfl) ?_
            refine fr_get C G 0 (hL _ (by omega)) (cl_0 _) rfl iw_X7_plate_X7 7 (by decide) fl_X7_plate_50 rfl dX7_plate_71 ?_
            refine fr_ic C dX7_plate_74 ?_
            refine fr_isub C dX7_plate_75 ?_
            exact fr_iret C G hr hlk hw dX7_plate_76
          · have hw := if_n hw q_13
            refine fr_bi C dX7_plate_40 rfl ?_
            exact fr_iret C G hr hlk hw dX7_plate_42
def w_X7_isPlate (a1 : Int) (x : Mm) (post : Int → Mm → Prop) : Prop :=
  rg a1 ∧ (if a1 < 0 then (post 0 x) else ((rg a1 ∧ rg (x 0 7)) ∧ (if (x 0 7) ≤ a1 then (post 0 x) else (post 1 x))))
abbrev rm_X7_isPlate : Room := { frames := 0, cells := 0, slots := 0, locals := 0 }
theorem iw_X7_isPlate_X7 : ∀ w ∈ u_ws RX7 TX7 10, w ∈ wsX7_isPlate := by decide +kernel
theorem fl_X7_isPlate_50 : Cond.fieldLink RX7 50 (TX7 7).1 (TX7 7).2.1 (TX7 7).2.2.1 ∈ wsX7_isPlate := by decide +kernel
set_option maxHeartbeats 4000000 in
set_option maxRecDepth 100000 in
theorem c_X7_isPlate (l : Launch) (D : va_G) (cy : Nat → ClassId) (L : List Nat) (ad : Nat → Nat) (sz : Nat) (hL : fLA L) (a1 : Int) (x : Mm) (post : Int → Mm → Prop) (hw : w_X7_isPlate a1 x post) : fMi l yX7_isPlate wsX7_isPlate rm_X7_isPlate [.ref (ad 0), .int (iI a1)] D cy L ad sz x post := by
  refine Met.ofW (cc := cX7_isPlate) (maxL := 2) (ret := (some .boolean)) (by decide) rfl ?_
  intro p e s m args below meth c s₁ B hml hv
  obtain ⟨hargs, hp⟩ := hv
  obtain ⟨C, hr, hlk, hsz, G⟩ := fr_start B hml hp
  subst hsz
  obtain ⟨ls, els, hl⟩ := fr_entry (m := m) (n := 2) hargs (Nat.le_of_ble_eq_true rfl)
  rw [els]
  have hl : lv_has ls 2 [(0, .ref (ad 0)), (1, .int (iI a1))] := hl
  clear els hargs hp B
  refine lv_iload_n C.1 C.2.1 dX7_isPlate_0 rfl (lv_at hl 1 rfl) ?_
  obtain ⟨hc_4, hw⟩ := hw
  refine fr_lt0 (tgt := 16) C dX7_isPlate_1 (by decide) hc_4 (fun q_1 => ?_) (fun q_1 => ?_)
  · have hw := if_p hw q_1
    refine fr_ic C dX7_isPlate_16 ?_
    exact fr_zret C G hr hlk (by decide) hw dX7_isPlate_17
  · have hw := if_n hw q_1
    refine lv_iload_n C.1 C.2.1 dX7_isPlate_4 rfl (lv_at hl 1 rfl) ?_
    refine lv_aload_n C.1 C.2.1 dX7_isPlate_5 rfl (lv_at hl 0 rfl) ?_
    refine fr_get C G 0 (hL _ (by omega)) (cl_0 _) rfl iw_X7_isPlate_X7 7 (by decide) fl_X7_isPlate_50 rfl dX7_isPlate_6 ?_
    obtain ⟨hc_3, hw⟩ := hw
    refine fr_ge (tgt := 16) C dX7_isPlate_9 (by decide) hc_3 (fun q_2 => ?_) (fun q_2 => ?_)
    · have hw := if_p hw q_2
      refine fr_ic C dX7_isPlate_16 ?_
      exact fr_zret C G hr hlk (by decide) hw dX7_isPlate_17
    · have hw := if_n hw q_2
      refine fr_ic C dX7_isPlate_12 ?_
      refine lv_goto (tgt := 17) C.1 C.2.1 dX7_isPlate_13 (by decide) ?_
      exact fr_zret C G hr hlk (by decide) hw dX7_isPlate_17
def w_X7_thick (a1 a2 : Int) (x : Mm) (post : Int → Mm → Prop) : Prop :=
  w_X7_isPlate a1 x (fun z_2 x_1 => rg z_2 ∧ (if z_2 = 0 then (post (-2) x_1) else (w_X7_isStrip a2 x_1 (fun z_5 x_4 => rg z_5 ∧ (if z_5 = 0 then (post (-2) x_4) else ((0 ≤ a1 ∧ a1 < 4) ∧ (0 ≤ a2 ∧ a2 < 4) ∧ post (x_4 (20 + 3 * (a1).toNat + 1) (a2).toNat) x_4))))))
abbrev rm_X7_thick : Room := { frames := 1, cells := 0, slots := 0, locals := 21 }
theorem iw_X7_thick_X7 : ∀ w ∈ u_ws RX7 TX7 10, w ∈ wsX7_thick := by decide +kernel
theorem fl_X7_thick_11 : Cond.fieldLink RX7 11 (TX7 0).1 (TX7 0).2.1 (TX7 0).2.2.1 ∈ wsX7_thick := by decide +kernel
theorem iw_X7_thick_X4 : ∀ w ∈ u_ws RX4 TX4 3, w ∈ wsX7_thick := by decide +kernel
theorem fl_X7_thick_75 : Cond.fieldLink RX7 75 (TX4 0).1 (TX4 0).2.1 (TX4 0).2.2.1 ∈ wsX7_thick := by decide +kernel
set_option maxHeartbeats 4000000 in
set_option maxRecDepth 100000 in
theorem c_X7_thick (l : Launch) (D : va_G) (cy : Nat → ClassId) (L : List Nat) (ad : Nat → Nat) (sz : Nat) (hL : fLA L) (a1 a2 : Int) (x : Mm) (post : Int → Mm → Prop) (hw : w_X7_thick a1 a2 x post) : fMi l yX7_thick wsX7_thick rm_X7_thick [.ref (ad 0), .int (iI a1), .int (iI a2)] D cy L ad sz x post := by
  refine Met.ofW (cc := cX7_thick) (maxL := 3) (ret := (some .int)) (by decide) rfl ?_
  intro p e s m args below meth c s₁ B hml hv
  obtain ⟨hargs, hp⟩ := hv
  obtain ⟨C, hr, hlk, hsz, G⟩ := fr_start B hml hp
  subst hsz
  obtain ⟨ls, els, hl⟩ := fr_entry (m := m) (n := 3) hargs (Nat.le_of_ble_eq_true rfl)
  rw [els]
  have hl : lv_has ls 3 [(0, .ref (ad 0)), (1, .int (iI a1)), (2, .int (iI a2))] := hl
  clear els hargs hp B
  refine lv_aload_n C.1 C.2.1 dX7_thick_0 rfl (lv_at hl 0 rfl) ?_
  refine lv_iload_n C.1 C.2.1 dX7_thick_1 rfl (lv_at hl 1 rfl) ?_
  refine fr_Vi C G (c_X7_isPlate l D cy L ad _ hL a1 x _ hw) (cwV 1 C.2.2.2.2 gX7_thick_X7_isPlate rfl rfl rfl (by decide +kernel) ⟨Nat.le_of_ble_eq_true rfl, Nat.le_of_ble_eq_true rfl⟩) (G.recv (hL _ (by omega)) (cl_0 _) rfl) rfl hl.1 rfl (Nat.le_of_ble_eq_true rfl) dX7_thick_2 ⟨Nat.zero_le _, Nat.zero_le _⟩ (fun z_2 x_1 H locs hw G => ?_)
  obtain ⟨hc_10, hw⟩ := hw
  refine fr_eq0 (tgt := 15) C dX7_thick_5 (by decide) hc_10 (fun q_3 => ?_) (fun q_3 => ?_)
  · have hw := if_p hw q_3
    refine fr_bi C dX7_thick_15 rfl ?_
    exact fr_iret C G hr hlk hw dX7_thick_17
  · have hw := if_n hw q_3
    refine lv_iload_n C.1 C.2.1 dX7_thick_8 rfl (lv_at hl 2 rfl) ?_
    refine fr_Si C G (c_X7_isStrip l D cy L ad _ a2 x_1 _ hw) (va_cwS 1 C.2.2.2.2 gX7_thick_X7_isStrip rfl rfl rfl (by decide +kernel) ⟨Nat.le_of_ble_eq_true rfl, Nat.le_of_ble_eq_true rfl⟩) rfl hl.1 rfl (Nat.le_of_ble_eq_true rfl) dX7_thick_9 ⟨Nat.zero_le _, Nat.zero_le _⟩ (fun z_5 x_4 H locs hw G => ?_)
    obtain ⟨hc_9, hw⟩ := hw
    refine fr_ne0 (tgt := 18) C dX7_thick_12 (by decide) hc_9 (fun q_6 => ?_) (fun q_6 => ?_)
    · have hw := if_p hw q_6
      refine fr_bi C dX7_thick_15 rfl ?_
      exact fr_iret C G hr hlk hw dX7_thick_17
    · have hw := if_n hw q_6
      refine lv_aload_n C.1 C.2.1 dX7_thick_18 rfl (lv_at hl 0 rfl) ?_
      refine fr_get C G 0 (hL _ (by omega)) (cl_0 _) rfl iw_X7_thick_X7 0 (by decide) fl_X7_thick_11 rfl dX7_thick_19 ?_
      refine lv_iload_n C.1 C.2.1 dX7_thick_22 rfl (lv_at hl 1 rfl) ?_
      obtain ⟨hb_7, hw⟩ := hw
      refine fr_apl C G (hL _ (by omega)) hb_7 dX7_thick_23 ?_
      refine fr_get C G (20 + 3 * (a1).toNat) (hL _ (by omega)) (cell_pl _ (by omega)) rfl iw_X7_thick_X4 0 (by decide) fl_X7_thick_75 rfl dX7_thick_24 ?_
      refine lv_iload_n C.1 C.2.1 dX7_thick_27 rfl (lv_at hl 2 rfl) ?_
      obtain ⟨hb_8, hw⟩ := hw
      refine fr_iald C G (20 + 3 * (a1).toNat + 1) 4 (hL _ (by omega)) (al_pl _ (by omega)).2.1 ⟨by decide, by decide⟩ hb_8 dX7_thick_28 ?_
      exact fr_iret C G hr hlk hw dX7_thick_29
def w_X7_least (a1 : Int) (x : Mm) (post : Int → Mm → Prop) : Prop :=
  w_X7_isThickness a1 x (fun z_2 x_1 => rg z_2 ∧ (if z_2 = 0 then (post (-2) x_1) else (∀ v2_4 : Int, v2_4 = x_1 0 8 → ∀ x_5 : Mm, x_5 = up2 x_1 0 8 a1 → w_X3_forget x_5 (fun x_6 => post v2_4 x_6))))
abbrev rm_X7_least : Room := { frames := 1, cells := 0, slots := 0, locals := 20 }
theorem iw_X7_least_X7 : ∀ w ∈ u_ws RX7 TX7 10, w ∈ wsX7_least := by decide +kernel
theorem fl_X7_least_54 : Cond.fieldLink RX7 54 (TX7 8).1 (TX7 8).2.1 (TX7 8).2.2.1 ∈ wsX7_least := by decide +kernel
theorem fl_X7_least_32 : Cond.fieldLink RX7 32 (TX7 3).1 (TX7 3).2.1 (TX7 3).2.2.1 ∈ wsX7_least := by decide +kernel
set_option maxHeartbeats 4000000 in
set_option maxRecDepth 100000 in
theorem c_X7_least (l : Launch) (D : va_G) (cy : Nat → ClassId) (L : List Nat) (ad : Nat → Nat) (sz : Nat) (hL : fLA L) (a1 : Int) (x : Mm) (post : Int → Mm → Prop) (hw : w_X7_least a1 x post) : fMi l yX7_least wsX7_least rm_X7_least [.ref (ad 0), .int (iI a1)] D cy L ad sz x post := by
  refine Met.ofW (cc := cX7_least) (maxL := 3) (ret := (some .int)) (by decide) rfl ?_
  intro p e s m args below meth c s₁ B hml hv
  obtain ⟨hargs, hp⟩ := hv
  obtain ⟨C, hr, hlk, hsz, G⟩ := fr_start B hml hp
  subst hsz
  obtain ⟨ls, els, hl⟩ := fr_entry (m := m) (n := 3) hargs (Nat.le_of_ble_eq_true rfl)
  rw [els]
  have hl : lv_has ls 3 [(0, .ref (ad 0)), (1, .int (iI a1))] := hl
  clear els hargs hp B
  refine lv_iload_n C.1 C.2.1 dX7_least_0 rfl (lv_at hl 1 rfl) ?_
  refine fr_Si C G (c_X7_isThickness l D cy L ad _ a1 x _ hw) (va_cwS 1 C.2.2.2.2 gX7_least_X7_isThickness rfl rfl rfl (by decide +kernel) ⟨Nat.le_of_ble_eq_true rfl, Nat.le_of_ble_eq_true rfl⟩) rfl hl.1 rfl (Nat.le_of_ble_eq_true rfl) dX7_least_1 ⟨Nat.zero_le _, Nat.zero_le _⟩ (fun z_2 x_1 H locs hw G => ?_)
  obtain ⟨hc_7, hw⟩ := hw
  refine fr_ne0 (tgt := 10) C dX7_least_4 (by decide) hc_7 (fun q_3 => ?_) (fun q_3 => ?_)
  · have hw := if_p hw q_3
    refine fr_bi C dX7_least_7 rfl ?_
    exact fr_iret C G hr hlk hw dX7_least_9
  · have hw := if_n hw q_3
    refine lv_aload_n C.1 C.2.1 dX7_least_10 rfl (lv_at hl 0 rfl) ?_
    refine fr_get C G 0 (hL _ (by omega)) (cl_0 _) rfl iw_X7_least_X7 8 (by decide) fl_X7_least_54 rfl dX7_least_11 ?_
    refine fr_nm (fun v2_4 ev2_4 => ?_)
    have hw := hw v2_4 ev2_4
    refine lv_istore_n (lv' := [(2, .int (iI v2_4)), (0, .ref (ad 0)), (1, .int (iI a1))]) C.1 C.2.1 dX7_least_14 rfl hl (by decide) rfl (fun ls hl => ?_)
    refine lv_aload_n C.1 C.2.1 dX7_least_15 rfl (lv_at hl 1 rfl) ?_
    refine lv_iload_n C.1 C.2.1 dX7_least_16 rfl (lv_at hl 2 rfl) ?_
    refine fr_put C G 0 (hL _ (by omega)) (cl_0 _) rfl iw_X7_least_X7 tyX7_ok nmX7 8 (by decide) fl_X7_least_54 rfl (by decide +kernel) (Nat.le_of_ble_eq_true rfl) (st_0_8 _ _) dX7_least_17 (fun x_5 H locs ex_5 G => ?_)
    have hw := hw x_5 ex_5
    refine lv_aload_n C.1 C.2.1 dX7_least_20 rfl (lv_at hl 1 rfl) ?_
    refine fr_get C G 0 (hL _ (by omega)) (cl_0 _) rfl iw_X7_least_X7 3 (by decide) fl_X7_least_32 rfl dX7_least_21 ?_
    refine fr_Vv C G (c_X3_forget l D cy L ad _ hL x_5 _ hw) (cwV 0 C.2.2.2.2 gX7_least_X3_forget rfl rfl rfl (by decide +kernel) ⟨Nat.le_of_ble_eq_true rfl, Nat.le_of_ble_eq_true rfl⟩) (G.recv (hL _ (by omega)) (cl_12 _) rfl) rfl hl.1 rfl (Nat.le_of_ble_eq_true rfl) dX7_least_24 ⟨Nat.zero_le _, Nat.zero_le _⟩ (fun x_6 H locs hw G => ?_)
    refine lv_iload_n C.1 C.2.1 dX7_least_27 rfl (lv_at hl 0 rfl) ?_
    exact fr_iret C G hr hlk hw dX7_least_28
def w_X7_shave (a1 a2 : Int) (x : Mm) (post : Int → Mm → Prop) : Prop :=
  w_X7_isPlate a1 x (fun z_2 x_1 => rg z_2 ∧ (if z_2 = 0 then (post (-2) x_1) else (w_X7_isStrip a2 x_1 (fun z_5 x_4 => rg z_5 ∧ (if z_5 = 0 then (post (-2) x_4) else ((0 ≤ a1 ∧ a1 < 4) ∧ (0 ≤ a2 ∧ a2 < 4) ∧ (rg (x_4 (20 + 3 * (a1).toNat + 1) (a2).toNat) ∧ rg (x_4 0 8)) ∧ (if (x_4 0 8) < (x_4 (20 + 3 * (a1).toNat + 1) (a2).toNat) then (rg (x_4 (20 + 3 * (a1).toNat) 2) ∧ (if (x_4 (20 + 3 * (a1).toNat) 2) < 20 then (w_X4_takeOff ((a1).toNat) a2 x_4 (fun x_11 => w_X3_forget x_11 (fun x_12 => (0 ≤ a2 ∧ a2 < 4) ∧ post (x_12 (20 + 3 * (a1).toNat + 1) (a2).toNat) x_12))) else (post (-4) x_4))) else (post (-3) x_4))))))))
abbrev rm_X7_shave : Room := { frames := 2, cells := 0, slots := 0, locals := 41 }
theorem iw_X7_shave_X7 : ∀ w ∈ u_ws RX7 TX7 10, w ∈ wsX7_shave := by decide +kernel
theorem fl_X7_shave_11 : Cond.fieldLink RX7 11 (TX7 0).1 (TX7 0).2.1 (TX7 0).2.2.1 ∈ wsX7_shave := by decide +kernel
theorem iw_X7_shave_X4 : ∀ w ∈ u_ws RX4 TX4 3, w ∈ wsX7_shave := by decide +kernel
theorem fl_X7_shave_75 : Cond.fieldLink RX7 75 (TX4 0).1 (TX4 0).2.1 (TX4 0).2.2.1 ∈ wsX7_shave := by decide +kernel
theorem fl_X7_shave_54 : Cond.fieldLink RX7 54 (TX7 8).1 (TX7 8).2.1 (TX7 8).2.2.1 ∈ wsX7_shave := by decide +kernel
theorem fl_X7_shave_81 : Cond.fieldLink RX7 81 (TX4 2).1 (TX4 2).2.1 (TX4 2).2.2.1 ∈ wsX7_shave := by decide +kernel
theorem fl_X7_shave_32 : Cond.fieldLink RX7 32 (TX7 3).1 (TX7 3).2.1 (TX7 3).2.2.1 ∈ wsX7_shave := by decide +kernel
set_option maxHeartbeats 4000000 in
set_option maxRecDepth 100000 in
theorem c_X7_shave (l : Launch) (D : va_G) (cy : Nat → ClassId) (L : List Nat) (ad : Nat → Nat) (sz : Nat) (hL : fLA L) (a1 a2 : Int) (x : Mm) (post : Int → Mm → Prop) (hw : w_X7_shave a1 a2 x post) : fMi l yX7_shave wsX7_shave rm_X7_shave [.ref (ad 0), .int (iI a1), .int (iI a2)] D cy L ad sz x post := by
  refine Met.ofW (cc := cX7_shave) (maxL := 4) (ret := (some .int)) (by decide) rfl ?_
  intro p e s m args below meth c s₁ B hml hv
  obtain ⟨hargs, hp⟩ := hv
  obtain ⟨C, hr, hlk, hsz, G⟩ := fr_start B hml hp
  subst hsz
  obtain ⟨ls, els, hl⟩ := fr_entry (m := m) (n := 4) hargs (Nat.le_of_ble_eq_true rfl)
  rw [els]
  have hl : lv_has ls 4 [(0, .ref (ad 0)), (1, .int (iI a1)), (2, .int (iI a2))] := hl
  clear els hargs hp B
  refine lv_aload_n C.1 C.2.1 dX7_shave_0 rfl (lv_at hl 0 rfl) ?_
  refine lv_iload_n C.1 C.2.1 dX7_shave_1 rfl (lv_at hl 1 rfl) ?_
  refine fr_Vi C G (c_X7_isPlate l D cy L ad _ hL a1 x _ hw) (cwV 1 C.2.2.2.2 gX7_shave_X7_isPlate rfl rfl rfl (by decide +kernel) ⟨Nat.le_of_ble_eq_true rfl, Nat.le_of_ble_eq_true rfl⟩) (G.recv (hL _ (by omega)) (cl_0 _) rfl) rfl hl.1 rfl (Nat.le_of_ble_eq_true rfl) dX7_shave_2 ⟨Nat.zero_le _, Nat.zero_le _⟩ (fun z_2 x_1 H locs hw G => ?_)
  obtain ⟨hc_17, hw⟩ := hw
  refine fr_eq0 (tgt := 15) C dX7_shave_5 (by decide) hc_17 (fun q_3 => ?_) (fun q_3 => ?_)
  · have hw := if_p hw q_3
    refine fr_bi C dX7_shave_15 rfl ?_
    exact fr_iret C G hr hlk hw dX7_shave_17
  · have hw := if_n hw q_3
    refine lv_iload_n C.1 C.2.1 dX7_shave_8 rfl (lv_at hl 2 rfl) ?_
    refine fr_Si C G (c_X7_isStrip l D cy L ad _ a2 x_1 _ hw) (va_cwS 1 C.2.2.2.2 gX7_shave_X7_isStrip rfl rfl rfl (by decide +kernel) ⟨Nat.le_of_ble_eq_true rfl, Nat.le_of_ble_eq_true rfl⟩) rfl hl.1 rfl (Nat.le_of_ble_eq_true rfl) dX7_shave_9 ⟨Nat.zero_le _, Nat.zero_le _⟩ (fun z_5 x_4 H locs hw G => ?_)
    obtain ⟨hc_16, hw⟩ := hw
    refine fr_ne0 (tgt := 18) C dX7_shave_12 (by decide) hc_16 (fun q_6 => ?_) (fun q_6 => ?_)
    · have hw := if_p hw q_6
      refine fr_bi C dX7_shave_15 rfl ?_
      exact fr_iret C G hr hlk hw dX7_shave_17
    · have hw := if_n hw q_6
      refine lv_aload_n C.1 C.2.1 dX7_shave_18 rfl (lv_at hl 0 rfl) ?_
      refine fr_get C G 0 (hL _ (by omega)) (cl_0 _) rfl iw_X7_shave_X7 0 (by decide) fl_X7_shave_11 rfl dX7_shave_19 ?_
      refine lv_iload_n C.1 C.2.1 dX7_shave_22 rfl (lv_at hl 1 rfl) ?_
      obtain ⟨hb_7, hw⟩ := hw
      refine fr_apl C G (hL _ (by omega)) hb_7 dX7_shave_23 ?_
      refine lv_astore_n (lv' := [(3, .ref (ad (20 + 3 * (a1).toNat))), (0, .ref (ad 0)), (1, .int (iI a1)), (2, .int (iI a2))]) C.1 C.2.1 dX7_shave_24 rfl hl (by decide) rfl (fun ls hl => ?_)
      refine lv_aload_n C.1 C.2.1 dX7_shave_25 rfl (lv_at hl 0 rfl) ?_
      refine fr_get C G (20 + 3 * (a1).toNat) (hL _ (by omega)) (cell_pl _ (by omega)) rfl iw_X7_shave_X4 0 (by decide) fl_X7_shave_75 rfl dX7_shave_26 ?_
      refine lv_iload_n C.1 C.2.1 dX7_shave_29 rfl (lv_at hl 3 rfl) ?_
      obtain ⟨hb_8, hw⟩ := hw
      refine fr_iald C G (20 + 3 * (a1).toNat + 1) 4 (hL _ (by omega)) (al_pl _ (by omega)).2.1 ⟨by decide, by decide⟩ hb_8 dX7_shave_30 ?_
      refine lv_aload_n C.1 C.2.1 dX7_shave_31 rfl (lv_at hl 1 rfl) ?_
      refine fr_get C G 0 (hL _ (by omega)) (cl_0 _) rfl iw_X7_shave_X7 8 (by decide) fl_X7_shave_54 rfl dX7_shave_32 ?_
      obtain ⟨hc_15, hw⟩ := hw
      refine fr_gt (tgt := 41) C dX7_shave_35 (by decide) hc_15 (fun q_9 => ?_) (fun q_9 => ?_)
      · have hw := if_p hw q_9
        refine lv_aload_n C.1 C.2.1 dX7_shave_41 rfl (lv_at hl 0 rfl) ?_
        refine fr_get C G (20 + 3 * (a1).toNat) (hL _ (by omega)) (cell_pl _ (by omega)) rfl iw_X7_shave_X4 2 (by decide) fl_X7_shave_81 rfl dX7_shave_42 ?_
        refine fr_bi C dX7_shave_45 rfl ?_
        obtain ⟨hc_14, hw⟩ := hw
        refine fr_lt (tgt := 53) C dX7_shave_47 (by decide) ⟨hc_14, ⟨by decide, by decide⟩⟩ (fun q_10 => ?_) (fun q_10 => ?_)
        · have hw := if_p hw q_10
          refine lv_aload_n C.1 C.2.1 dX7_shave_53 rfl (lv_at hl 0 rfl) ?_
          refine lv_iload_n C.1 C.2.1 dX7_shave_54 rfl (lv_at hl 3 rfl) ?_
          refine fr_Vv C G (c_X4_takeOff l D cy L ad _ hL ((a1).toNat) (by omega) a2 x_4 _ hw) (cwV 1 C.2.2.2.2 gX7_shave_X4_takeOff rfl rfl rfl (by decide +kernel) ⟨Nat.le_of_ble_eq_true rfl, Nat.le_of_ble_eq_true rfl⟩) (G.recv (hL _ (by omega)) (cell_pl _ (by omega)) rfl) rfl hl.1 rfl (Nat.le_of_ble_eq_true rfl) dX7_shave_55 ⟨Nat.zero_le _, Nat.zero_le _⟩ (fun x_11 H locs hw G => ?_)
          refine lv_aload_n C.1 C.2.1 dX7_shave_58 rfl (lv_at hl 1 rfl) ?_
          refine fr_get C G 0 (hL _ (by omega)) (cl_0 _) rfl iw_X7_shave_X7 3 (by decide) fl_X7_shave_32 rfl dX7_shave_59 ?_
          refine fr_Vv C G (c_X3_forget l D cy L ad _ hL x_11 _ hw) (cwV 0 C.2.2.2.2 gX7_shave_X3_forget rfl rfl rfl (by decide +kernel) ⟨Nat.le_of_ble_eq_true rfl, Nat.le_of_ble_eq_true rfl⟩) (G.recv (hL _ (by omega)) (cl_12 _) rfl) rfl hl.1 rfl (Nat.le_of_ble_eq_true rfl) dX7_shave_62 ⟨Nat.zero_le _, Nat.zero_le _⟩ (fun x_12 H locs hw G => ?_)
          refine lv_aload_n C.1 C.2.1 dX7_shave_65 rfl (lv_at hl 0 rfl) ?_
          refine fr_get C G (20 + 3 * (a1).toNat) (hL _ (by omega)) (cell_pl _ (by omega)) rfl iw_X7_shave_X4 0 (by decide) fl_X7_shave_75 rfl dX7_shave_66 ?_
          refine lv_iload_n C.1 C.2.1 dX7_shave_69 rfl (lv_at hl 3 rfl) ?_
          obtain ⟨hb_13, hw⟩ := hw
          refine fr_iald C G (20 + 3 * (a1).toNat + 1) 4 (hL _ (by omega)) (al_pl _ (by omega)).2.1 ⟨by decide, by decide⟩ hb_13 dX7_shave_70 ?_
          exact fr_iret C G hr hlk hw dX7_shave_71
        · have hw := if_n hw q_10
          refine fr_bi C dX7_shave_50 rfl ?_
          exact fr_iret C G hr hlk hw dX7_shave_52
      · have hw := if_n hw q_9
        refine fr_bi C dX7_shave_38 rfl ?_
        exact fr_iret C G hr hlk hw dX7_shave_40
def w_X7_undo (a1 : Int) (x : Mm) (post : Int → Mm → Prop) : Prop :=
  w_X7_isPlate a1 x (fun z_2 x_1 => rg z_2 ∧ (if z_2 = 0 then (post (-2) x_1) else ((0 ≤ a1 ∧ a1 < 4) ∧ rg (x_1 (20 + 3 * (a1).toNat) 2) ∧ (if 0 < (x_1 (20 + 3 * (a1).toNat) 2) then (w_X3_forget x_1 (fun x_6 => (0 ≤ a1 ∧ a1 < 4) ∧ w_X4_putBack ((a1).toNat) x_6 (fun z_9 x_8 => post z_9 x_8))) else (post (-3) x_1)))))
abbrev rm_X7_undo : Room := { frames := 1, cells := 0, slots := 0, locals := 21 }
theorem iw_X7_undo_X7 : ∀ w ∈ u_ws RX7 TX7 10, w ∈ wsX7_undo := by decide +kernel
theorem fl_X7_undo_11 : Cond.fieldLink RX7 11 (TX7 0).1 (TX7 0).2.1 (TX7 0).2.2.1 ∈ wsX7_undo := by decide +kernel
theorem iw_X7_undo_X4 : ∀ w ∈ u_ws RX4 TX4 3, w ∈ wsX7_undo := by decide +kernel
theorem fl_X7_undo_81 : Cond.fieldLink RX7 81 (TX4 2).1 (TX4 2).2.1 (TX4 2).2.2.1 ∈ wsX7_undo := by decide +kernel
theorem fl_X7_undo_32 : Cond.fieldLink RX7 32 (TX7 3).1 (TX7 3).2.1 (TX7 3).2.2.1 ∈ wsX7_undo := by decide +kernel
set_option maxHeartbeats 4000000 in
set_option maxRecDepth 100000 in
theorem c_X7_undo (l : Launch) (D : va_G) (cy : Nat → ClassId) (L : List Nat) (ad : Nat → Nat) (sz : Nat) (hL : fLA L) (a1 : Int) (x : Mm) (post : Int → Mm → Prop) (hw : w_X7_undo a1 x post) : fMi l yX7_undo wsX7_undo rm_X7_undo [.ref (ad 0), .int (iI a1)] D cy L ad sz x post := by
  refine Met.ofW (cc := cX7_undo) (maxL := 2) (ret := (some .int)) (by decide) rfl ?_
  intro p e s m args below meth c s₁ B hml hv
  obtain ⟨hargs, hp⟩ := hv
  obtain ⟨C, hr, hlk, hsz, G⟩ := fr_start B hml hp
  subst hsz
  obtain ⟨ls, els, hl⟩ := fr_entry (m := m) (n := 2) hargs (Nat.le_of_ble_eq_true rfl)
  rw [els]
  have hl : lv_has ls 2 [(0, .ref (ad 0)), (1, .int (iI a1))] := hl
  clear els hargs hp B
  refine lv_aload_n C.1 C.2.1 dX7_undo_0 rfl (lv_at hl 0 rfl) ?_
  refine lv_iload_n C.1 C.2.1 dX7_undo_1 rfl (lv_at hl 1 rfl) ?_
  refine fr_Vi C G (c_X7_isPlate l D cy L ad _ hL a1 x _ hw) (cwV 1 C.2.2.2.2 gX7_undo_X7_isPlate rfl rfl rfl (by decide +kernel) ⟨Nat.le_of_ble_eq_true rfl, Nat.le_of_ble_eq_true rfl⟩) (G.recv (hL _ (by omega)) (cl_0 _) rfl) rfl hl.1 rfl (Nat.le_of_ble_eq_true rfl) dX7_undo_2 ⟨Nat.zero_le _, Nat.zero_le _⟩ (fun z_2 x_1 H locs hw G => ?_)
  obtain ⟨hc_11, hw⟩ := hw
  refine fr_ne0 (tgt := 11) C dX7_undo_5 (by decide) hc_11 (fun q_3 => ?_) (fun q_3 => ?_)
  · have hw := if_p hw q_3
    refine fr_bi C dX7_undo_8 rfl ?_
    exact fr_iret C G hr hlk hw dX7_undo_10
  · have hw := if_n hw q_3
    refine lv_aload_n C.1 C.2.1 dX7_undo_11 rfl (lv_at hl 0 rfl) ?_
    refine fr_get C G 0 (hL _ (by omega)) (cl_0 _) rfl iw_X7_undo_X7 0 (by decide) fl_X7_undo_11 rfl dX7_undo_12 ?_
    refine lv_iload_n C.1 C.2.1 dX7_undo_15 rfl (lv_at hl 1 rfl) ?_
    obtain ⟨hb_4, hw⟩ := hw
    refine fr_apl C G (hL _ (by omega)) hb_4 dX7_undo_16 ?_
    refine fr_get C G (20 + 3 * (a1).toNat) (hL _ (by omega)) (cell_pl _ (by omega)) rfl iw_X7_undo_X4 2 (by decide) fl_X7_undo_81 rfl dX7_undo_17 ?_
    obtain ⟨hc_10, hw⟩ := hw
    refine fr_gt0 (tgt := 26) C dX7_undo_20 (by decide) hc_10 (fun q_5 => ?_) (fun q_5 => ?_)
    · have hw := if_p hw q_5
      refine lv_aload_n C.1 C.2.1 dX7_undo_26 rfl (lv_at hl 0 rfl) ?_
      refine fr_get C G 0 (hL _ (by omega)) (cl_0 _) rfl iw_X7_undo_X7 3 (by decide) fl_X7_undo_32 rfl dX7_undo_27 ?_
      refine fr_Vv C G (c_X3_forget l D cy L ad _ hL x_1 _ hw) (cwV 0 C.2.2.2.2 gX7_undo_X3_forget rfl rfl rfl (by decide +kernel) ⟨Nat.le_of_ble_eq_true rfl, Nat.le_of_ble_eq_true rfl⟩) (G.recv (hL _ (by omega)) (cl_12 _) rfl) rfl hl.1 rfl (Nat.le_of_ble_eq_true rfl) dX7_undo_30 ⟨Nat.zero_le _, Nat.zero_le _⟩ (fun x_6 H locs hw G => ?_)
      refine lv_aload_n C.1 C.2.1 dX7_undo_33 rfl (lv_at hl 0 rfl) ?_
      refine fr_get C G 0 (hL _ (by omega)) (cl_0 _) rfl iw_X7_undo_X7 0 (by decide) fl_X7_undo_11 rfl dX7_undo_34 ?_
      refine lv_iload_n C.1 C.2.1 dX7_undo_37 rfl (lv_at hl 1 rfl) ?_
      obtain ⟨hb_7, hw⟩ := hw
      refine fr_apl C G (hL _ (by omega)) hb_7 dX7_undo_38 ?_
      refine fr_Vi C G (c_X4_putBack l D cy L ad _ hL ((a1).toNat) (by omega) x_6 _ hw) (cwV 0 C.2.2.2.2 gX7_undo_X4_putBack rfl rfl rfl (by decide +kernel) ⟨Nat.le_of_ble_eq_true rfl, Nat.le_of_ble_eq_true rfl⟩) (G.recv (hL _ (by omega)) (cell_pl _ (by omega)) rfl) rfl hl.1 rfl (Nat.le_of_ble_eq_true rfl) dX7_undo_39 ⟨Nat.zero_le _, Nat.zero_le _⟩ (fun z_9 x_8 H locs hw G => ?_)
      exact fr_iret C G hr hlk hw dX7_undo_42
    · have hw := if_n hw q_5
      refine fr_bi C dX7_undo_23 rfl ?_
      exact fr_iret C G hr hlk hw dX7_undo_25
def w_X7_mirror (a1 : Int) (x : Mm) (post : Int → Mm → Prop) : Prop :=
  w_X7_isPlate a1 x (fun z_2 x_1 => rg z_2 ∧ (if z_2 = 0 then (post (-2) x_1) else ((0 ≤ a1 ∧ a1 < 4) ∧ w_X4_turn ((a1).toNat) x_1 (fun x_5 => w_X3_forget x_5 (fun x_6 => post 1 x_6)))))
abbrev rm_X7_mirror : Room := { frames := 2, cells := 0, slots := 0, locals := 44 }
theorem iw_X7_mirror_X7 : ∀ w ∈ u_ws RX7 TX7 10, w ∈ wsX7_mirror := by decide +kernel
theorem fl_X7_mirror_11 : Cond.fieldLink RX7 11 (TX7 0).1 (TX7 0).2.1 (TX7 0).2.2.1 ∈ wsX7_mirror := by decide +kernel
theorem fl_X7_mirror_32 : Cond.fieldLink RX7 32 (TX7 3).1 (TX7 3).2.1 (TX7 3).2.2.1 ∈ wsX7_mirror := by decide +kernel
set_option maxHeartbeats 4000000 in
set_option maxRecDepth 100000 in
theorem c_X7_mirror (l : Launch) (D : va_G) (cy : Nat → ClassId) (L : List Nat) (ad : Nat → Nat) (sz : Nat) (hL : fLA L) (a1 : Int) (x : Mm) (post : Int → Mm → Prop) (hw : w_X7_mirror a1 x post) : fMi l yX7_mirror wsX7_mirror rm_X7_mirror [.ref (ad 0), .int (iI a1)] D cy L ad sz x post := by
  refine Met.ofW (cc := cX7_mirror) (maxL := 2) (ret := (some .int)) (by decide) rfl ?_
  intro p e s m args below meth c s₁ B hml hv
  obtain ⟨hargs, hp⟩ := hv
  obtain ⟨C, hr, hlk, hsz, G⟩ := fr_start B hml hp
  subst hsz
  obtain ⟨ls, els, hl⟩ := fr_entry (m := m) (n := 2) hargs (Nat.le_of_ble_eq_true rfl)
  rw [els]
  have hl : lv_has ls 2 [(0, .ref (ad 0)), (1, .int (iI a1))] := hl
  clear els hargs hp B
  refine lv_aload_n C.1 C.2.1 dX7_mirror_0 rfl (lv_at hl 0 rfl) ?_
  refine lv_iload_n C.1 C.2.1 dX7_mirror_1 rfl (lv_at hl 1 rfl) ?_
  refine fr_Vi C G (c_X7_isPlate l D cy L ad _ hL a1 x _ hw) (cwV 1 C.2.2.2.2 gX7_mirror_X7_isPlate rfl rfl rfl (by decide +kernel) ⟨Nat.le_of_ble_eq_true rfl, Nat.le_of_ble_eq_true rfl⟩) (G.recv (hL _ (by omega)) (cl_0 _) rfl) rfl hl.1 rfl (Nat.le_of_ble_eq_true rfl) dX7_mirror_2 ⟨Nat.zero_le _, Nat.zero_le _⟩ (fun z_2 x_1 H locs hw G => ?_)
  obtain ⟨hc_7, hw⟩ := hw
  refine fr_ne0 (tgt := 11) C dX7_mirror_5 (by decide) hc_7 (fun q_3 => ?_) (fun q_3 => ?_)
  · have hw := if_p hw q_3
    refine fr_bi C dX7_mirror_8 rfl ?_
    exact fr_iret C G hr hlk hw dX7_mirror_10
  · have hw := if_n hw q_3
    refine lv_aload_n C.1 C.2.1 dX7_mirror_11 rfl (lv_at hl 0 rfl) ?_
    refine fr_get C G 0 (hL _ (by omega)) (cl_0 _) rfl iw_X7_mirror_X7 0 (by decide) fl_X7_mirror_11 rfl dX7_mirror_12 ?_
    refine lv_iload_n C.1 C.2.1 dX7_mirror_15 rfl (lv_at hl 1 rfl) ?_
    obtain ⟨hb_4, hw⟩ := hw
    refine fr_apl C G (hL _ (by omega)) hb_4 dX7_mirror_16 ?_
    refine fr_Vv C G (c_X4_turn l D cy L ad _ hL ((a1).toNat) (by omega) x_1 _ hw) (cwV 0 C.2.2.2.2 gX7_mirror_X4_turn rfl rfl rfl (by decide +kernel) ⟨Nat.le_of_ble_eq_true rfl, Nat.le_of_ble_eq_true rfl⟩) (G.recv (hL _ (by omega)) (cell_pl _ (by omega)) rfl) rfl hl.1 rfl (Nat.le_of_ble_eq_true rfl) dX7_mirror_17 ⟨Nat.zero_le _, Nat.zero_le _⟩ (fun x_5 H locs hw G => ?_)
    refine lv_aload_n C.1 C.2.1 dX7_mirror_20 rfl (lv_at hl 0 rfl) ?_
    refine fr_get C G 0 (hL _ (by omega)) (cl_0 _) rfl iw_X7_mirror_X7 3 (by decide) fl_X7_mirror_32 rfl dX7_mirror_21 ?_
    refine fr_Vv C G (c_X3_forget l D cy L ad _ hL x_5 _ hw) (cwV 0 C.2.2.2.2 gX7_mirror_X3_forget rfl rfl rfl (by decide +kernel) ⟨Nat.le_of_ble_eq_true rfl, Nat.le_of_ble_eq_true rfl⟩) (G.recv (hL _ (by omega)) (cl_12 _) rfl) rfl hl.1 rfl (Nat.le_of_ble_eq_true rfl) dX7_mirror_24 ⟨Nat.zero_le _, Nat.zero_le _⟩ (fun x_6 H locs hw G => ?_)
    refine fr_ic C dX7_mirror_27 ?_
    exact fr_iret C G hr hlk hw dX7_mirror_28
