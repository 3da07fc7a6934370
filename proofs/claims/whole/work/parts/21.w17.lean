def w_X8_wood (a1 a2 : Int) (x : Mm) (post : Int → Mm → Prop) : Prop :=
  w_X8_findWoods x (fun x_1 => w_X8_in a1 0 ((x_1 60 15) - 1) x_1 (fun z_3 x_2 => rg z_3 ∧ (if z_3 = 0 then (post (-2) x_2) else (w_X8_in a2 0 1 x_2 (fun z_6 x_5 => rg z_6 ∧ (if z_6 = 0 then (post (-2) x_5) else (rg a2 ∧ (if a2 = 0 then ((0 ≤ a1 ∧ a1 < 81) ∧ (rg (x_5 72 (a1).toNat) ∧ 0 ≤ x_5 72 (a1).toNat) ∧ post (1 + ((x_5 72 (a1).toNat) / 9)) x_5) else ((0 ≤ a1 ∧ a1 < 81) ∧ (rg (x_5 72 (a1).toNat) ∧ 0 ≤ x_5 72 (a1).toNat) ∧ post (1 + ((x_5 72 (a1).toNat) % 9)) x_5)))))))))
abbrev rm_X8_wood : Room := { frames := 4, cells := 0, slots := 0, locals := 106 }
theorem iw_X8_wood_X8 : ∀ w ∈ u_ws RX8 TX8 20, w ∈ wsX8_wood := by decide +kernel
theorem fl_X8_wood_107 : Cond.fieldLink RX8 107 (TX8 15).1 (TX8 15).2.1 (TX8 15).2.2.1 ∈ wsX8_wood := by decide +kernel
theorem fl_X8_wood_51 : Cond.fieldLink RX8 51 (TX8 16).1 (TX8 16).2.1 (TX8 16).2.2.1 ∈ wsX8_wood := by decide +kernel
set_option maxHeartbeats 4000000 in
set_option maxRecDepth 100000 in
theorem c_X8_wood (l : Launch) (D : va_G) (cy : Nat → ClassId) (L : List Nat) (ad : Nat → Nat) (sz : Nat) (hL : fLM L) (a1 a2 : Int) (x : Mm) (post : Int → Mm → Prop) (hw : w_X8_wood a1 a2 x post) : fMi l yX8_wood wsX8_wood rm_X8_wood [.ref (ad 60), .int (iI a1), .int (iI a2)] D cy L ad sz x post := by
  refine Met.ofW (cc := cX8_wood) (maxL := 3) (ret := (some .int)) (by decide) rfl ?_
  intro p e s m args below meth c s₁ B hml hv
  obtain ⟨hargs, hp⟩ := hv
  obtain ⟨C, hr, hlk, hsz, G⟩ := fr_start B hml hp
  subst hsz
  obtain ⟨ls, els, hl⟩ := fr_entry (m := m) (n := 3) hargs (Nat.le_of_ble_eq_true rfl)
  rw [els]
  have hl : lv_has ls 3 [(0, .ref (ad 60)), (1, .int (iI a1)), (2, .int (iI a2))] := hl
  clear els hargs hp B
  refine lv_aload_n C.1 C.2.1 dX8_wood_0 rfl (lv_at hl 0 rfl) ?_
  refine fr_Vv C G (c_X8_findWoods l D cy L ad _ hL x _ hw) (cwV 0 C.2.2.2.2 gX8_wood_X8_findWoods rfl rfl rfl (by decide +kernel) ⟨Nat.le_of_ble_eq_true rfl, Nat.le_of_ble_eq_true rfl⟩) (G.recv (hL _ (by omega)) (cl_60 _) rfl) rfl hl.1 rfl (Nat.le_of_ble_eq_true rfl) dX8_wood_1 ⟨Nat.zero_le _, Nat.zero_le _⟩ (fun x_1 H locs hw G => ?_)
  refine lv_iload_n C.1 C.2.1 dX8_wood_4 rfl (lv_at hl 1 rfl) ?_
  refine fr_ic C dX8_wood_5 ?_
  refine lv_aload_n C.1 C.2.1 dX8_wood_6 rfl (lv_at hl 0 rfl) ?_
  refine fr_get C G 60 (hL _ (by omega)) (cl_60 _) rfl iw_X8_wood_X8 15 (by decide) fl_X8_wood_107 rfl dX8_wood_7 ?_
  refine fr_ic C dX8_wood_10 ?_
  refine fr_isub C dX8_wood_11 ?_
  refine fr_Si C G (c_X8_in l D cy L ad _ a1 0 ((x_1 60 15) - 1) x_1 _ hw) (va_cwS 3 C.2.2.2.2 gX8_wood_X8_in rfl rfl rfl (by decide +kernel) ⟨Nat.le_of_ble_eq_true rfl, Nat.le_of_ble_eq_true rfl⟩) rfl hl.1 rfl (Nat.le_of_ble_eq_true rfl) dX8_wood_12 ⟨Nat.zero_le _, Nat.zero_le _⟩ (fun z_3 x_2 H locs hw G => ?_)
  obtain ⟨hc_15, hw⟩ := hw
  refine fr_eq0 (tgt := 27) C dX8_wood_15 (by decide) hc_15 (fun q_4 => ?_) (fun q_4 => ?_)
  · have hw := if_p hw q_4
    refine fr_bi C dX8_wood_27 rfl ?_
    exact fr_iret C G hr hlk hw dX8_wood_29
  · have hw := if_n hw q_4
    refine lv_iload_n C.1 C.2.1 dX8_wood_18 rfl (lv_at hl 2 rfl) ?_
    refine fr_ic C dX8_wood_19 ?_
    refine fr_ic C dX8_wood_20 ?_
    refine fr_Si C G (c_X8_in l D cy L ad _ a2 0 1 x_2 _ hw) (va_cwS 3 C.2.2.2.2 gX8_wood_X8_in rfl rfl rfl (by decide +kernel) ⟨Nat.le_of_ble_eq_true rfl, Nat.le_of_ble_eq_true rfl⟩) rfl hl.1 rfl (Nat.le_of_ble_eq_true rfl) dX8_wood_21 ⟨Nat.zero_le _, Nat.zero_le _⟩ (fun z_6 x_5 H locs hw G => ?_)
    obtain ⟨hc_14, hw⟩ := hw
    refine fr_ne0 (tgt := 30) C dX8_wood_24 (by decide) hc_14 (fun q_7 => ?_) (fun q_7 => ?_)
    · have hw := if_p hw q_7
      refine fr_bi C dX8_wood_27 rfl ?_
      exact fr_iret C G hr hlk hw dX8_wood_29
    · have hw := if_n hw q_7
      refine fr_ic C dX8_wood_30 ?_
      refine lv_iload_n C.1 C.2.1 dX8_wood_31 rfl (lv_at hl 2 rfl) ?_
      obtain ⟨hc_13, hw⟩ := hw
      refine fr_ne0 (tgt := 47) C dX8_wood_32 (by decide) hc_13 (fun q_8 => ?_) (fun q_8 => ?_)
      · have hw := if_p hw q_8
        refine lv_aload_n C.1 C.2.1 dX8_wood_35 rfl (lv_at hl 0 rfl) ?_
        refine fr_get C G 60 (hL _ (by omega)) (cl_60 _) rfl iw_X8_wood_X8 16 (by decide) fl_X8_wood_51 rfl dX8_wood_36 ?_
        refine lv_iload_n C.1 C.2.1 dX8_wood_39 rfl (lv_at hl 1 rfl) ?_
        obtain ⟨hb_11, hw⟩ := hw
        refine fr_iald C G 72 81 (hL _ (by omega)) rfl ⟨by decide, by decide⟩ hb_11 dX8_wood_40 ?_
        refine fr_bi C dX8_wood_41 rfl ?_
        obtain ⟨hd_12, hw⟩ := hw
        refine fr_idiv C dX8_wood_43 ⟨hd_12.1, ⟨by decide, by decide⟩, hd_12.2, by decide⟩ ?_
        refine lv_goto (tgt := 56) C.1 C.2.1 dX8_wood_44 (by decide) ?_
        refine fr_iadd C dX8_wood_56 ?_
        exact fr_iret C G hr hlk hw dX8_wood_57
      · have hw := if_n hw q_8
        refine lv_aload_n C.1 C.2.1 dX8_wood_47 rfl (lv_at hl 0 rfl) ?_
        refine fr_get C G 60 (hL _ (by omega)) (cl_60 _) rfl iw_X8_wood_X8 16 (by decide) fl_X8_wood_51 rfl dX8_wood_48 ?_
        refine lv_iload_n C.1 C.2.1 dX8_wood_51 rfl (lv_at hl 1 rfl) ?_
        obtain ⟨hb_9, hw⟩ := hw
        refine fr_iald C G 72 81 (hL _ (by omega)) rfl ⟨by decide, by decide⟩ hb_9 dX8_wood_52 ?_
        refine fr_bi C dX8_wood_53 rfl ?_
        obtain ⟨hd_10, hw⟩ := hw
        refine fr_irem C dX8_wood_55 ⟨hd_10.1, ⟨by decide, by decide⟩, hd_10.2, by decide⟩ ?_
        refine fr_iadd C dX8_wood_56 ?_
        exact fr_iret C G hr hlk hw dX8_wood_57
def wX_X8_span_61 (post : Int → Mm → Prop) (v4_15 : Int) (v5_16 : Int) (x_17 : Mm) : Prop :=
  post v4_15 x_17
def wB_X8_span_61 (a2 : Int) (a3 : Int) (kx_61 bk_61 : Int → Int → Mm → Prop) (v4_15 : Int) (v5_16 : Int) (x_17 : Mm) : Prop :=
  (rg v5_16 ∧ rg (x_17 60 15)) ∧ (if (x_17 60 15) ≤ v5_16 then (kx_61 v4_15 v5_16 x_17) else (w_X8_toneBy v5_16 a2 x_17 (fun z_20 x_19 => rg a3 ∧ (if a3 = 0 then ((rg z_20 ∧ rg v4_15) ∧ (if v4_15 ≤ z_20 then (∀ v5_27 : Int, v5_27 = v5_16 + 1 → bk_61 v4_15 v5_27 x_19) else (∀ v5_28 : Int, v5_28 = v5_16 + 1 → bk_61 z_20 v5_28 x_19))) else ((rg z_20 ∧ rg v4_15) ∧ (if z_20 ≤ v4_15 then (∀ v5_23 : Int, v5_23 = v5_16 + 1 → bk_61 v4_15 v5_23 x_19) else (∀ v5_24 : Int, v5_24 = v5_16 + 1 → bk_61 z_20 v5_24 x_19)))))))
def w_X8_span (a1 a2 a3 : Int) (x : Mm) (post : Int → Mm → Prop) : Prop :=
  w_X8_isPlate a1 x (fun z_2 x_1 => rg z_2 ∧ (if z_2 = 0 then (post (-2) x_1) else (w_X8_isFour a2 x_1 (fun z_5 x_4 => rg z_5 ∧ (if z_5 = 0 then (post (-2) x_4) else (w_X8_in a3 0 1 x_4 (fun z_8 x_7 => rg z_8 ∧ (if z_8 = 0 then (post (-2) x_7) else (w_X8_findWoods x_7 (fun x_10 => rg (x_10 60 15) ∧ (if (x_10 60 15) = 0 then (post (-3) x_10) else (w_X8_take 61 a1 x_10 (fun x_12 => w_X8_toneBy 0 a2 x_12 (fun z_14 x_13 => ∃ n : Nat, lk3 (wB_X8_span_61 a2 a3 (wX_X8_span_61 post)) n z_14 1 x_13))))))))))))))
abbrev rm_X8_span : Room := { frames := 4, cells := 0, slots := 0, locals := 106 }
theorem iw_X8_span_X8 : ∀ w ∈ u_ws RX8 TX8 20, w ∈ wsX8_span := by decide +kernel
theorem fl_X8_span_107 : Cond.fieldLink RX8 107 (TX8 15).1 (TX8 15).2.1 (TX8 15).2.2.1 ∈ wsX8_span := by decide +kernel
theorem fl_X8_span_7 : Cond.fieldLink RX8 7 (TX8 1).1 (TX8 1).2.1 (TX8 1).2.2.1 ∈ wsX8_span := by decide +kernel
set_option maxHeartbeats 4000000 in
set_option maxRecDepth 100000 in
theorem c_X8_span (l : Launch) (D : va_G) (cy : Nat → ClassId) (L : List Nat) (ad : Nat → Nat) (sz : Nat) (hL : fLM L) (a1 a2 a3 : Int) (x : Mm) (post : Int → Mm → Prop) (hw : w_X8_span a1 a2 a3 x post) : fMi l yX8_span wsX8_span rm_X8_span [.ref (ad 60), .int (iI a1), .int (iI a2), .int (iI a3)] D cy L ad sz x post := by
  refine Met.ofW (cc := cX8_span) (maxL := 7) (ret := (some .int)) (by decide) rfl ?_
  intro p e s m args below meth c s₁ B hml hv
  obtain ⟨hargs, hp⟩ := hv
  obtain ⟨C, hr, hlk, hsz, G⟩ := fr_start B hml hp
  subst hsz
  obtain ⟨ls, els, hl⟩ := fr_entry (m := m) (n := 7) hargs (Nat.le_of_ble_eq_true rfl)
  rw [els]
  have hl : lv_has ls 7 [(0, .ref (ad 60)), (1, .int (iI a1)), (2, .int (iI a2)), (3, .int (iI a3))] := hl
  clear els hargs hp B
  refine lv_aload_n C.1 C.2.1 dX8_span_0 rfl (lv_at hl 0 rfl) ?_
  refine lv_iload_n C.1 C.2.1 dX8_span_1 rfl (lv_at hl 1 rfl) ?_
  refine fr_Vi C G (c_X8_isPlate l D cy L ad _ hL a1 x _ hw) (cwV 1 C.2.2.2.2 gX8_span_X8_isPlate rfl rfl rfl (by decide +kernel) ⟨Nat.le_of_ble_eq_true rfl, Nat.le_of_ble_eq_true rfl⟩) (G.recv (hL _ (by omega)) (cl_60 _) rfl) rfl hl.1 rfl (Nat.le_of_ble_eq_true rfl) dX8_span_2 ⟨Nat.zero_le _, Nat.zero_le _⟩ (fun z_2 x_1 H locs hw G => ?_)
  obtain ⟨hc_35, hw⟩ := hw
  refine fr_eq0 (tgt := 24) C dX8_span_5 (by decide) hc_35 (fun q_3 => ?_) (fun q_3 => ?_)
  · have hw := if_p hw q_3
    refine fr_bi C dX8_span_24 rfl ?_
    exact fr_iret C G hr hlk hw dX8_span_26
  · have hw := if_n hw q_3
    refine lv_iload_n C.1 C.2.1 dX8_span_8 rfl (lv_at hl 2 rfl) ?_
    refine fr_Si C G (c_X8_isFour l D cy L ad _ a2 x_1 _ hw) (va_cwS 1 C.2.2.2.2 gX8_span_X8_isFour rfl rfl rfl (by decide +kernel) ⟨Nat.le_of_ble_eq_true rfl, Nat.le_of_ble_eq_true rfl⟩) rfl hl.1 rfl (Nat.le_of_ble_eq_true rfl) dX8_span_9 ⟨Nat.zero_le _, Nat.zero_le _⟩ (fun z_5 x_4 H locs hw G => ?_)
    obtain ⟨hc_34, hw⟩ := hw
    refine fr_eq0 (tgt := 24) C dX8_span_12 (by decide) hc_34 (fun q_6 => ?_) (fun q_6 => ?_)
    · have hw := if_p hw q_6
      refine fr_bi C dX8_span_24 rfl ?_
      exact fr_iret C G hr hlk hw dX8_span_26
    · have hw := if_n hw q_6
      refine lv_iload_n C.1 C.2.1 dX8_span_15 rfl (lv_at hl 3 rfl) ?_
      refine fr_ic C dX8_span_16 ?_
      refine fr_ic C dX8_span_17 ?_
      refine fr_Si C G (c_X8_in l D cy L ad _ a3 0 1 x_4 _ hw) (va_cwS 3 C.2.2.2.2 gX8_span_X8_in rfl rfl rfl (by decide +kernel) ⟨Nat.le_of_ble_eq_true rfl, Nat.le_of_ble_eq_true rfl⟩) rfl hl.1 rfl (Nat.le_of_ble_eq_true rfl) dX8_span_18 ⟨Nat.zero_le _, Nat.zero_le _⟩ (fun z_8 x_7 H locs hw G => ?_)
      obtain ⟨hc_33, hw⟩ := hw
      refine fr_ne0 (tgt := 27) C dX8_span_21 (by decide) hc_33 (fun q_9 => ?_) (fun q_9 => ?_)
      · have hw := if_p hw q_9
        refine fr_bi C dX8_span_24 rfl ?_
        exact fr_iret C G hr hlk hw dX8_span_26
      · have hw := if_n hw q_9
        refine lv_aload_n C.1 C.2.1 dX8_span_27 rfl (lv_at hl 0 rfl) ?_
        refine fr_Vv C G (c_X8_findWoods l D cy L ad _ hL x_7 _ hw) (cwV 0 C.2.2.2.2 gX8_span_X8_findWoods rfl rfl rfl (by decide +kernel) ⟨Nat.le_of_ble_eq_true rfl, Nat.le_of_ble_eq_true rfl⟩) (G.recv (hL _ (by omega)) (cl_60 _) rfl) rfl hl.1 rfl (Nat.le_of_ble_eq_true rfl) dX8_span_28 ⟨Nat.zero_le _, Nat.zero_le _⟩ (fun x_10 H locs hw G => ?_)
        refine lv_aload_n C.1 C.2.1 dX8_span_31 rfl (lv_at hl 0 rfl) ?_
        refine fr_get C G 60 (hL _ (by omega)) (cl_60 _) rfl iw_X8_span_X8 15 (by decide) fl_X8_span_107 rfl dX8_span_32 ?_
        obtain ⟨hc_32, hw⟩ := hw
        refine fr_ne0 (tgt := 41) C dX8_span_35 (by decide) hc_32 (fun q_11 => ?_) (fun q_11 => ?_)
        · have hw := if_p hw q_11
          refine fr_bi C dX8_span_38 rfl ?_
          exact fr_iret C G hr hlk hw dX8_span_40
        · have hw := if_n hw q_11
          refine lv_aload_n C.1 C.2.1 dX8_span_41 rfl (lv_at hl 0 rfl) ?_
          refine lv_aload_n C.1 C.2.1 dX8_span_42 rfl (lv_at hl 0 rfl) ?_
          refine fr_get C G 60 (hL _ (by omega)) (cl_60 _) rfl iw_X8_span_X8 1 (by decide) fl_X8_span_7 rfl dX8_span_43 ?_
          refine lv_iload_n C.1 C.2.1 dX8_span_46 rfl (lv_at hl 1 rfl) ?_
          refine fr_Vv C G (c_X8_take l D cy L ad _ hL 61 (hL _ (by omega)) ⟨by decide, by decide⟩ a1 x_10 _ hw) (cwV 2 C.2.2.2.2 gX8_span_X8_take rfl rfl rfl (by decide +kernel) ⟨Nat.le_of_ble_eq_true rfl, Nat.le_of_ble_eq_true rfl⟩) (G.recv (hL _ (by omega)) (cl_60 _) rfl) rfl hl.1 rfl (Nat.le_of_ble_eq_true rfl) dX8_span_47 ⟨Nat.zero_le _, Nat.zero_le _⟩ (fun x_12 H locs hw G => ?_)
          refine lv_aload_n C.1 C.2.1 dX8_span_50 rfl (lv_at hl 0 rfl) ?_
          refine fr_ic C dX8_span_51 ?_
          refine lv_iload_n C.1 C.2.1 dX8_span_52 rfl (lv_at hl 2 rfl) ?_
          refine fr_Vi C G (c_X8_toneBy l D cy L ad _ hL 0 a2 x_12 _ hw) (cwV 2 C.2.2.2.2 gX8_span_X8_toneBy rfl rfl rfl (by decide +kernel) ⟨Nat.le_of_ble_eq_true rfl, Nat.le_of_ble_eq_true rfl⟩) (G.recv (hL _ (by omega)) (cl_60 _) rfl) rfl hl.1 rfl (Nat.le_of_ble_eq_true rfl) dX8_span_53 ⟨Nat.zero_le _, Nat.zero_le _⟩ (fun z_14 x_13 H locs hw G => ?_)
          refine lv_istore (lv' := [(4, .int (iI z_14)), (0, .ref (ad 60)), (1, .int (iI a1)), (2, .int (iI a2)), (3, .int (iI a3))]) C.1 C.2.1 dX8_span_56 hl (by decide) rfl (fun ls hl => ?_)
          refine fr_ic C dX8_span_58 ?_
          refine lv_istore (lv' := [(5, .int (iI 1)), (4, .int (iI z_14)), (0, .ref (ad 60)), (1, .int (iI a1)), (2, .int (iI a2)), (3, .int (iI a3))]) C.1 C.2.1 dX8_span_59 hl (by decide) rfl (fun ls hl => ?_)
          obtain ⟨n61, hw⟩ := hw
          have hS61 : ∀ (kx_61 bk_61 : Int → Int → Mm → Prop), (∀ (v4_15 : Int) (v5_16 : Int) (x_17 : Mm) (H : Heap) (locs : List Loc) (ls : Array Slot), kx_61 v4_15 v5_16 x_17 → fG D cy L ad (fAr L ad s.heap.size) s x_17 H locs → lv_has ls 7 [(0, .ref (ad 60)), (1, .int (iI a1)), (2, .int (iI a2)), (3, .int (iI a3)), (4, .int (iI v4_15)), (5, .int (iI v5_16))] → W p l e (headSpec wsX8_span rm_X8_span).room s m args below meth c H locs 0 0 (fQi below D cy L ad s args post) (F0 m 115 ls [])) → (∀ (v4_15 : Int) (v5_16 : Int) (x_17 : Mm) (H : Heap) (locs : List Loc) (ls : Array Slot), bk_61 v4_15 v5_16 x_17 → fG D cy L ad (fAr L ad s.heap.size) s x_17 H locs → lv_has ls 7 [(0, .ref (ad 60)), (1, .int (iI a1)), (2, .int (iI a2)), (3, .int (iI a3)), (4, .int (iI v4_15)), (5, .int (iI v5_16))] → W p l e (headSpec wsX8_span rm_X8_span).room s m args below meth c H locs 0 0 (fQi below D cy L ad s args post) (F0 m 61 ls [])) → ∀ (v4_15 : Int) (v5_16 : Int) (x_17 : Mm) (H : Heap) (locs : List Loc) (ls : Array Slot), wB_X8_span_61 a2 a3 kx_61 bk_61 v4_15 v5_16 x_17 → fG D cy L ad (fAr L ad s.heap.size) s x_17 H locs → lv_has ls 7 [(0, .ref (ad 60)), (1, .int (iI a1)), (2, .int (iI a2)), (3, .int (iI a3)), (4, .int (iI v4_15)), (5, .int (iI v5_16))] → W p l e (headSpec wsX8_span rm_X8_span).room s m args below meth c H locs 0 0 (fQi below D cy L ad s args post) (F0 m 61 ls []) := by
            intro kx_61 bk_61 hX61 ih61 v4_15 v5_16 x_17 H locs ls hw G hl
            refine lv_iload C.1 C.2.1 dX8_span_61 (lv_at hl 5 rfl) ?_
            refine lv_aload_n C.1 C.2.1 dX8_span_63 rfl (lv_at hl 0 rfl) ?_
            refine fr_get C G 60 (hL _ (by omega)) (cl_60 _) rfl iw_X8_span_X8 15 (by decide) fl_X8_span_107 rfl dX8_span_64 ?_
            obtain ⟨hc_31, hw⟩ := hw
            refine fr_ge (tgt := 115) C dX8_span_67 (by decide) hc_31 (fun q_18 => ?_) (fun q_18 => ?_)
            · have hw := if_p hw q_18
              exact hX61 v4_15 v5_16 x_17 _ _ _ hw G (lv_sub hl [0, 1, 2, 3, 4, 5] rfl)
            · have hw := if_n hw q_18
              refine lv_aload_n C.1 C.2.1 dX8_span_70 rfl (lv_at hl 0 rfl) ?_
              refine lv_iload C.1 C.2.1 dX8_span_71 (lv_at hl 5 rfl) ?_
              refine lv_iload_n C.1 C.2.1 dX8_span_73 rfl (lv_at hl 2 rfl) ?_
              refine fr_Vi C G (c_X8_toneBy l D cy L ad _ hL v5_16 a2 x_17 _ hw) (cwV 2 C.2.2.2.2 gX8_span_X8_toneBy rfl rfl rfl (by decide +kernel) ⟨Nat.le_of_ble_eq_true rfl, Nat.le_of_ble_eq_true rfl⟩) (G.recv (hL _ (by omega)) (cl_60 _) rfl) rfl hl.1 rfl (Nat.le_of_ble_eq_true rfl) dX8_span_74 ⟨Nat.zero_le _, Nat.zero_le _⟩ (fun z_20 x_19 H locs hw G => ?_)
              refine lv_istore (lv' := [(6, .int (iI z_20)), (0, .ref (ad 60)), (1, .int (iI a1)), (2, .int (iI a2)), (3, .int (iI a3)), (4, .int (iI v4_15)), (5, .int (iI v5_16))]) C.1 C.2.1 dX8_span_77 hl (by decide) rfl (fun ls hl => ?_)
              refine lv_iload_n C.1 C.2.1 dX8_span_79 rfl (lv_at hl 4 rfl) ?_
              obtain ⟨hc_30, hw⟩ := hw
              refine fr_ne0 (tgt := 93) C dX8_span_80 (by decide) hc_30 (fun q_21 => ?_) (fun q_21 => ?_)
              · have hw := if_p hw q_21
                refine lv_iload C.1 C.2.1 dX8_span_83 (lv_at hl 0 rfl) ?_
                refine lv_iload C.1 C.2.1 dX8_span_85 (lv_at hl 5 rfl) ?_
                obtain ⟨hc_29, hw⟩ := hw
                refine fr_ge (tgt := 105) C dX8_span_87 (by decide) hc_29 (fun q_26 => ?_) (fun q_26 => ?_)
                · have hw := if_p hw q_26
                  refine lv_iload C.1 C.2.1 dX8_span_105 (lv_at hl 5 rfl) ?_
                  refine lv_istore (lv' := [(4, .int (iI v4_15)), (6, .int (iI z_20)), (0, .ref (ad 60)), (1, .int (iI a1)), (2, .int (iI a2)), (3, .int (iI a3)), (5, .int (iI v5_16))]) C.1 C.2.1 dX8_span_107 hl (by decide) rfl (fun ls hl => ?_)
                  obtain ⟨v5_27, ev5_27⟩ : ∃ z : Int, z = v5_16 + 1 := ⟨_, rfl⟩
                  have hw := hw v5_27 ev5_27
                  refine lv_iinc (v := iI v5_27) (lv' := [(5, .int (iI v5_27)), (4, .int (iI v4_15)), (6, .int (iI z_20)), (0, .ref (ad 60)), (1, .int (iI a1)), (2, .int (iI a2)), (3, .int (iI a3))]) C.1 C.2.1 dX8_span_109 hl (k := 6) rfl (by rw [ev5_27]; exact iI_add _ _) (by decide) rfl (fun ls hl => ?_)
                  refine lv_goto (tgt := 61) C.1 C.2.1 dX8_span_112 (by decide) ?_
                  exact ih61 v4_15 v5_27 x_19 _ _ _ hw G (lv_sub hl [3, 4, 5, 6, 1, 0] rfl)
                · have hw := if_n hw q_26
                  refine lv_goto (tgt := 100) C.1 C.2.1 dX8_span_90 (by decide) ?_
                  refine lv_iload C.1 C.2.1 dX8_span_100 (lv_at hl 0 rfl) ?_
                  refine lv_goto (tgt := 107) C.1 C.2.1 dX8_span_102 (by decide) ?_
                  refine lv_istore (lv' := [(4, .int (iI z_20)), (6, .int (iI z_20)), (0, .ref (ad 60)), (1, .int (iI a1)), (2, .int (iI a2)), (3, .int (iI a3)), (5, .int (iI v5_16))]) C.1 C.2.1 dX8_span_107 hl (by decide) rfl (fun ls hl => ?_)
                  obtain ⟨v5_28, ev5_28⟩ : ∃ z : Int, z = v5_16 + 1 := ⟨_, rfl⟩
                  have hw := hw v5_28 ev5_28
                  refine lv_iinc (v := iI v5_28) (lv' := [(5, .int (iI v5_28)), (4, .int (iI z_20)), (6, .int (iI z_20)), (0, .ref (ad 60)), (1, .int (iI a1)), (2, .int (iI a2)), (3, .int (iI a3))]) C.1 C.2.1 dX8_span_109 hl (k := 6) rfl (by rw [ev5_28]; exact iI_add _ _) (by decide) rfl (fun ls hl => ?_)
                  refine lv_goto (tgt := 61) C.1 C.2.1 dX8_span_112 (by decide) ?_
                  exact ih61 z_20 v5_28 x_19 _ _ _ hw G (lv_sub hl [3, 4, 5, 6, 1, 0] rfl)
              · have hw := if_n hw q_21
                refine lv_iload C.1 C.2.1 dX8_span_93 (lv_at hl 0 rfl) ?_
                refine lv_iload C.1 C.2.1 dX8_span_95 (lv_at hl 5 rfl) ?_
                obtain ⟨hc_25, hw⟩ := hw
                refine fr_le (tgt := 105) C dX8_span_97 (by decide) hc_25 (fun q_22 => ?_) (fun q_22 => ?_)
                · have hw := if_p hw q_22
                  refine lv_iload C.1 C.2.1 dX8_span_105 (lv_at hl 5 rfl) ?_
                  refine lv_istore (lv' := [(4, .int (iI v4_15)), (6, .int (iI z_20)), (0, .ref (ad 60)), (1, .int (iI a1)), (2, .int (iI a2)), (3, .int (iI a3)), (5, .int (iI v5_16))]) C.1 C.2.1 dX8_span_107 hl (by decide) rfl (fun ls hl => ?_)
                  obtain ⟨v5_23, ev5_23⟩ : ∃ z : Int, z = v5_16 + 1 := ⟨_, rfl⟩
                  have hw := hw v5_23 ev5_23
                  refine lv_iinc (v := iI v5_23) (lv' := [(5, .int (iI v5_23)), (4, .int (iI v4_15)), (6, .int (iI z_20)), (0, .ref (ad 60)), (1, .int (iI a1)), (2, .int (iI a2)), (3, .int (iI a3))]) C.1 C.2.1 dX8_span_109 hl (k := 6) rfl (by rw [ev5_23]; exact iI_add _ _) (by decide) rfl (fun ls hl => ?_)
                  refine lv_goto (tgt := 61) C.1 C.2.1 dX8_span_112 (by decide) ?_
                  exact ih61 v4_15 v5_23 x_19 _ _ _ hw G (lv_sub hl [3, 4, 5, 6, 1, 0] rfl)
                · have hw := if_n hw q_22
                  refine lv_iload C.1 C.2.1 dX8_span_100 (lv_at hl 0 rfl) ?_
                  refine lv_goto (tgt := 107) C.1 C.2.1 dX8_span_102 (by decide) ?_
                  refine lv_istore (lv' := [(4, .int (iI z_20)), (6, .int (iI z_20)), (0, .ref (ad 60)), (1, .int (iI a1)), (2, .int (iI a2)), (3, .int (iI a3)), (5, .int (iI v5_16))]) C.1 C.2.1 dX8_span_107 hl (by decide) rfl (fun ls hl => ?_)
                  obtain ⟨v5_24, ev5_24⟩ : ∃ z : Int, z = v5_16 + 1 := ⟨_, rfl⟩
                  have hw := hw v5_24 ev5_24
                  refine lv_iinc (v := iI v5_24) (lv' := [(5, .int (iI v5_24)), (4, .int (iI z_20)), (6, .int (iI z_20)), (0, .ref (ad 60)), (1, .int (iI a1)), (2, .int (iI a2)), (3, .int (iI a3))]) C.1 C.2.1 dX8_span_109 hl (k := 6) rfl (by rw [ev5_24]; exact iI_add _ _) (by decide) rfl (fun ls hl => ?_)
                  refine lv_goto (tgt := 61) C.1 C.2.1 dX8_span_112 (by decide) ?_
                  exact ih61 z_20 v5_24 x_19 _ _ _ hw G (lv_sub hl [3, 4, 5, 6, 1, 0] rfl)
          have hX61 : ∀ (v4_15 : Int) (v5_16 : Int) (x_17 : Mm) (H : Heap) (locs : List Loc) (ls : Array Slot), wX_X8_span_61 post v4_15 v5_16 x_17 → fG D cy L ad (fAr L ad s.heap.size) s x_17 H locs → lv_has ls 7 [(0, .ref (ad 60)), (1, .int (iI a1)), (2, .int (iI a2)), (3, .int (iI a3)), (4, .int (iI v4_15)), (5, .int (iI v5_16))] → W p l e (headSpec wsX8_span rm_X8_span).room s m args below meth c H locs 0 0 (fQi below D cy L ad s args post) (F0 m 115 ls []) := by
            intro v4_15 v5_16 x_17 H locs ls hw G hl
            refine lv_iload C.1 C.2.1 dX8_span_115 (lv_at hl 4 rfl) ?_
            exact fr_iret C G hr hlk hw dX8_span_117
          have hB61 : ∀ (n : Nat) (v4_15 : Int) (v5_16 : Int) (x_17 : Mm) (H : Heap) (locs : List Loc) (ls : Array Slot), lk3 (wB_X8_span_61 a2 a3 (wX_X8_span_61 post)) n v4_15 v5_16 x_17 → fG D cy L ad (fAr L ad s.heap.size) s x_17 H locs → lv_has ls 7 [(0, .ref (ad 60)), (1, .int (iI a1)), (2, .int (iI a2)), (3, .int (iI a3)), (4, .int (iI v4_15)), (5, .int (iI v5_16))] → W p l e (headSpec wsX8_span rm_X8_span).room s m args below meth c H locs 0 0 (fQi below D cy L ad s args post) (F0 m 61 ls []) := by
            intro n
            induction n with
            | zero =>
              intro v4_15 v5_16 x_17 H locs ls hw
              exact hw.elim
            | succ n ih =>
              intro v4_15 v5_16 x_17 H locs ls hw G hl
              exact hS61 _ _ hX61 ih v4_15 v5_16 x_17 H locs ls hw G hl
          exact hB61 n61 z_14 1 x_13 _ _ _ hw G (lv_sub hl [2, 3, 4, 5, 1, 0] rfl)
def wX_X8_greatestHeap_26 (post : Int → Mm → Prop) (v2_3 : Int) (v3_4 : Int) (x_5 : Mm) : Prop :=
  post v2_3 x_5
def wB_X8_greatestHeap_26 (a1 : Int) (kx_26 bk_26 : Int → Int → Mm → Prop) (v2_3 : Int) (v3_4 : Int) (x_5 : Mm) : Prop :=
  (rg v3_4 ∧ rg (x_5 60 15)) ∧ (if (x_5 60 15) ≤ v3_4 then (kx_26 v2_3 v3_4 x_5) else (w_X8_toneBy v3_4 a1 x_5 (fun z_8 x_7 => (0 ≤ z_8 ∧ z_8 < 501) ∧ (0 ≤ z_8 ∧ z_8 < 501) ∧ (∀ x_11 : Mm, x_11 = up2 x_7 73 (z_8).toNat ((x_7 73 (z_8).toNat) + 1) → (0 ≤ z_8 ∧ z_8 < 501) ∧ (rg (x_11 73 (z_8).toNat) ∧ rg v2_3) ∧ (if (x_11 73 (z_8).toNat) ≤ v2_3 then (∀ v3_14 : Int, v3_14 = v3_4 + 1 → bk_26 v2_3 v3_14 x_11) else ((0 ≤ z_8 ∧ z_8 < 501) ∧ ∀ v2_16 : Int, v2_16 = x_11 73 (z_8).toNat → ∀ v3_17 : Int, v3_17 = v3_4 + 1 → bk_26 v2_16 v3_17 x_11))))))
def wX_X8_greatestHeap_2 (a1 : Int) (post : Int → Mm → Prop) (v2_1 : Int) (x_2 : Mm) : Prop :=
  ∃ n : Nat, lk3 (wB_X8_greatestHeap_26 a1 (wX_X8_greatestHeap_26 post)) n 0 0 x_2
def wB_X8_greatestHeap_2 (kx_2 bk_2 : Int → Mm → Prop) (v2_1 : Int) (x_2 : Mm) : Prop :=
  rg v2_1 ∧ (if 500 < v2_1 then (kx_2 v2_1 x_2) else ((0 ≤ v2_1 ∧ v2_1 < 501) ∧ (∀ x_22 : Mm, x_22 = up2 x_2 73 (v2_1).toNat 0 → ∀ v2_23 : Int, v2_23 = v2_1 + 1 → bk_2 v2_23 x_22)))
def w_X8_greatestHeap (a1 : Int) (x : Mm) (post : Int → Mm → Prop) : Prop :=
  ∃ n : Nat, lk2 (wB_X8_greatestHeap_2 (wX_X8_greatestHeap_2 a1 post)) n 0 x
abbrev rm_X8_greatestHeap : Room := { frames := 4, cells := 0, slots := 0, locals := 106 }
theorem iw_X8_greatestHeap_X8 : ∀ w ∈ u_ws RX8 TX8 20, w ∈ wsX8_greatestHeap := by decide +kernel
theorem fl_X8_greatestHeap_107 : Cond.fieldLink RX8 107 (TX8 15).1 (TX8 15).2.1 (TX8 15).2.2.1 ∈ wsX8_greatestHeap := by decide +kernel
theorem fl_X8_greatestHeap_54 : Cond.fieldLink RX8 54 (TX8 17).1 (TX8 17).2.1 (TX8 17).2.2.1 ∈ wsX8_greatestHeap := by decide +kernel
set_option maxHeartbeats 4000000 in
set_option maxRecDepth 100000 in
theorem c_X8_greatestHeap (l : Launch) (D : va_G) (cy : Nat → ClassId) (L : List Nat) (ad : Nat → Nat) (sz : Nat) (hL : fLM L) (a1 : Int) (x : Mm) (post : Int → Mm → Prop) (hw : w_X8_greatestHeap a1 x post) : fMi l yX8_greatestHeap wsX8_greatestHeap rm_X8_greatestHeap [.ref (ad 60), .int (iI a1)] D cy L ad sz x post := by
  refine Met.ofW (cc := cX8_greatestHeap) (maxL := 5) (ret := (some .int)) (by decide) rfl ?_
  intro p e s m args below meth c s₁ B hml hv
  obtain ⟨hargs, hp⟩ := hv
  obtain ⟨C, hr, hlk, hsz, G⟩ := fr_start B hml hp
  subst hsz
  obtain ⟨ls, els, hl⟩ := fr_entry (m := m) (n := 5) hargs (Nat.le_of_ble_eq_true rfl)
  rw [els]
  have hl : lv_has ls 5 [(0, .ref (ad 60)), (1, .int (iI a1))] := hl
  clear els hargs hp B
  refine fr_ic C dX8_greatestHeap_0 ?_
  refine lv_istore_n (lv' := [(2, .int (iI 0)), (0, .ref (ad 60)), (1, .int (iI a1))]) C.1 C.2.1 dX8_greatestHeap_1 rfl hl (by decide) rfl (fun ls hl => ?_)
  obtain ⟨n2, hw⟩ := hw
  have hS2 : ∀ (kx_2 bk_2 : Int → Mm → Prop), (∀ (v2_1 : Int) (x_2 : Mm) (H : Heap) (locs : List Loc) (ls : Array Slot), kx_2 v2_1 x_2 → fG D cy L ad (fAr L ad s.heap.size) s x_2 H locs → lv_has ls 5 [(0, .ref (ad 60)), (1, .int (iI a1)), (2, .int (iI v2_1))] → W p l e (headSpec wsX8_greatestHeap rm_X8_greatestHeap).room s m args below meth c H locs 0 0 (fQi below D cy L ad s args post) (F0 m 22 ls [])) → (∀ (v2_1 : Int) (x_2 : Mm) (H : Heap) (locs : List Loc) (ls : Array Slot), bk_2 v2_1 x_2 → fG D cy L ad (fAr L ad s.heap.size) s x_2 H locs → lv_has ls 5 [(0, .ref (ad 60)), (1, .int (iI a1)), (2, .int (iI v2_1))] → W p l e (headSpec wsX8_greatestHeap rm_X8_greatestHeap).room s m args below meth c H locs 0 0 (fQi below D cy L ad s args post) (F0 m 2 ls [])) → ∀ (v2_1 : Int) (x_2 : Mm) (H : Heap) (locs : List Loc) (ls : Array Slot), wB_X8_greatestHeap_2 kx_2 bk_2 v2_1 x_2 → fG D cy L ad (fAr L ad s.heap.size) s x_2 H locs → lv_has ls 5 [(0, .ref (ad 60)), (1, .int (iI a1)), (2, .int (iI v2_1))] → W p l e (headSpec wsX8_greatestHeap rm_X8_greatestHeap).room s m args below meth c H locs 0 0 (fQi below D cy L ad s args post) (F0 m 2 ls []) := by
    intro kx_2 bk_2 hX2 ih2 v2_1 x_2 H locs ls hw G hl
    refine lv_iload_n C.1 C.2.1 dX8_greatestHeap_2 rfl (lv_at hl 2 rfl) ?_
    refine fr_si C dX8_greatestHeap_3 rfl ?_
    obtain ⟨hc_24, hw⟩ := hw
    refine fr_gt (tgt := 22) C dX8_greatestHeap_6 (by decide) ⟨hc_24, ⟨by decide, by decide⟩⟩ (fun q_20 => ?_) (fun q_20 => ?_)
    · have hw := if_p hw q_20
      exact hX2 v2_1 x_2 _ _ _ hw G (lv_sub hl [0, 1, 2] rfl)
    · have hw := if_n hw q_20
      refine lv_aload_n C.1 C.2.1 dX8_greatestHeap_9 rfl (lv_at hl 0 rfl) ?_
      refine fr_get C G 60 (hL _ (by omega)) (cl_60 _) rfl iw_X8_greatestHeap_X8 17 (by decide) fl_X8_greatestHeap_54 rfl dX8_greatestHeap_10 ?_
      refine lv_iload_n C.1 C.2.1 dX8_greatestHeap_13 rfl (lv_at hl 2 rfl) ?_
      refine fr_ic C dX8_greatestHeap_14 ?_
      obtain ⟨hb_21, hw⟩ := hw
      refine fr_iast C G 73 501 (hL _ (by omega)) rfl ⟨by decide, by decide⟩ hb_21 dX8_greatestHeap_15 (fun x_22 H locs ex_22 G => ?_)
      have hw := hw x_22 ex_22
      obtain ⟨v2_23, ev2_23⟩ : ∃ z : Int, z = v2_1 + 1 := ⟨_, rfl⟩
      have hw := hw v2_23 ev2_23
      refine lv_iinc (v := iI v2_23) (lv' := [(2, .int (iI v2_23)), (0, .ref (ad 60)), (1, .int (iI a1))]) C.1 C.2.1 dX8_greatestHeap_16 hl (k := 2) rfl (by rw [ev2_23]; exact iI_add _ _) (by decide) rfl (fun ls hl => ?_)
      refine lv_goto (tgt := 2) C.1 C.2.1 dX8_greatestHeap_19 (by decide) ?_
      exact ih2 v2_23 x_22 _ _ _ hw G (lv_sub hl [1, 2, 0] rfl)
  have hX2 : ∀ (v2_1 : Int) (x_2 : Mm) (H : Heap) (locs : List Loc) (ls : Array Slot), wX_X8_greatestHeap_2 a1 post v2_1 x_2 → fG D cy L ad (fAr L ad s.heap.size) s x_2 H locs → lv_has ls 5 [(0, .ref (ad 60)), (1, .int (iI a1)), (2, .int (iI v2_1))] → W p l e (headSpec wsX8_greatestHeap rm_X8_greatestHeap).room s m args below meth c H locs 0 0 (fQi below D cy L ad s args post) (F0 m 22 ls []) := by
    intro v2_1 x_2 H locs ls hw G hl
    refine fr_ic C dX8_greatestHeap_22 ?_
    refine lv_istore_n (lv' := [(2, .int (iI 0)), (0, .ref (ad 60)), (1, .int (iI a1))]) C.1 C.2.1 dX8_greatestHeap_23 rfl hl (by decide) rfl (fun ls hl => ?_)
    refine fr_ic C dX8_greatestHeap_24 ?_
    refine lv_istore_n (lv' := [(3, .int (iI 0)), (2, .int (iI 0)), (0, .ref (ad 60)), (1, .int (iI a1))]) C.1 C.2.1 dX8_greatestHeap_25 rfl hl (by decide) rfl (fun ls hl => ?_)
    obtain ⟨n26, hw⟩ := hw
    have hS26 : ∀ (kx_26 bk_26 : Int → Int → Mm → Prop), (∀ (v2_3 : Int) (v3_4 : Int) (x_5 : Mm) (H : Heap) (locs : List Loc) (ls : Array Slot), kx_26 v2_3 v3_4 x_5 → fG D cy L ad (fAr L ad s.heap.size) s x_5 H locs → lv_has ls 5 [(0, .ref (ad 60)), (1, .int (iI a1)), (2, .int (iI v2_3)), (3, .int (iI v3_4))] → W p l e (headSpec wsX8_greatestHeap rm_X8_greatestHeap).room s m args below meth c H locs 0 0 (fQi below D cy L ad s args post) (F0 m 82 ls [])) → (∀ (v2_3 : Int) (v3_4 : Int) (x_5 : Mm) (H : Heap) (locs : List Loc) (ls : Array Slot), bk_26 v2_3 v3_4 x_5 → fG D cy L ad (fAr L ad s.heap.size) s x_5 H locs → lv_has ls 5 [(0, .ref (ad 60)), (1, .int (iI a1)), (2, .int (iI v2_3)), (3, .int (iI v3_4))] → W p l e (headSpec wsX8_greatestHeap rm_X8_greatestHeap).room s m args below meth c H locs 0 0 (fQi below D cy L ad s args post) (F0 m 26 ls [])) → ∀ (v2_3 : Int) (v3_4 : Int) (x_5 : Mm) (H : Heap) (locs : List Loc) (ls : Array Slot), wB_X8_greatestHeap_26 a1 kx_26 bk_26 v2_3 v3_4 x_5 → fG D cy L ad (fAr L ad s.heap.size) s x_5 H locs → lv_has ls 5 [(0, .ref (ad 60)), (1, .int (iI a1)), (2, .int (iI v2_3)), (3, .int (iI v3_4))] → W p l e (headSpec wsX8_greatestHeap rm_X8_greatestHeap).room s m args below meth c H locs 0 0 (fQi below D cy L ad s args post) (F0 m 26 ls []) := by
      intro kx_26 bk_26 hX26 ih26 v2_3 v3_4 x_5 H locs ls hw G hl
      refine lv_iload_n C.1 C.2.1 dX8_greatestHeap_26 rfl (lv_at hl 3 rfl) ?_
      refine lv_aload_n C.1 C.2.1 dX8_greatestHeap_27 rfl (lv_at hl 0 rfl) ?_
      refine fr_get C G 60 (hL _ (by omega)) (cl_60 _) rfl iw_X8_greatestHeap_X8 15 (by decide) fl_X8_greatestHeap_107 rfl dX8_greatestHeap_28 ?_
      obtain ⟨hc_19, hw⟩ := hw
      refine fr_ge (tgt := 82) C dX8_greatestHeap_31 (by decide) hc_19 (fun q_6 => ?_) (fun q_6 => ?_)
      · have hw := if_p hw q_6
        exact hX26 v2_3 v3_4 x_5 _ _ _ hw G (lv_sub hl [0, 1, 2, 3] rfl)
      · have hw := if_n hw q_6
        refine lv_aload_n C.1 C.2.1 dX8_greatestHeap_34 rfl (lv_at hl 0 rfl) ?_
        refine lv_iload_n C.1 C.2.1 dX8_greatestHeap_35 rfl (lv_at hl 3 rfl) ?_
        refine lv_iload_n C.1 C.2.1 dX8_greatestHeap_36 rfl (lv_at hl 1 rfl) ?_
        refine fr_Vi C G (c_X8_toneBy l D cy L ad _ hL v3_4 a1 x_5 _ hw) (cwV 2 C.2.2.2.2 gX8_greatestHeap_X8_toneBy rfl rfl rfl (by decide +kernel) ⟨Nat.le_of_ble_eq_true rfl, Nat.le_of_ble_eq_true rfl⟩) (G.recv (hL _ (by omega)) (cl_60 _) rfl) rfl hl.1 rfl (Nat.le_of_ble_eq_true rfl) dX8_greatestHeap_37 ⟨Nat.zero_le _, Nat.zero_le _⟩ (fun z_8 x_7 H locs hw G => ?_)
        refine lv_istore (lv' := [(4, .int (iI z_8)), (0, .ref (ad 60)), (1, .int (iI a1)), (2, .int (iI v2_3)), (3, .int (iI v3_4))]) C.1 C.2.1 dX8_greatestHeap_40 hl (by decide) rfl (fun ls hl => ?_)
        refine lv_aload_n C.1 C.2.1 dX8_greatestHeap_42 rfl (lv_at hl 1 rfl) ?_
        refine fr_get C G 60 (hL _ (by omega)) (cl_60 _) rfl iw_X8_greatestHeap_X8 17 (by decide) fl_X8_greatestHeap_54 rfl dX8_greatestHeap_43 ?_
        refine lv_iload C.1 C.2.1 dX8_greatestHeap_46 (lv_at hl 0 rfl) ?_
        refine lv_dup2_11 C.1 C.2.1 dX8_greatestHeap_48 rfl rfl ?_
        obtain ⟨hb_9, hw⟩ := hw
        refine fr_iald C G 73 501 (hL _ (by omega)) rfl ⟨by decide, by decide⟩ hb_9 dX8_greatestHeap_49 ?_
        refine fr_ic C dX8_greatestHeap_50 ?_
        refine fr_iadd C dX8_greatestHeap_51 ?_
        obtain ⟨hb_10, hw⟩ := hw
        refine fr_iast C G 73 501 (hL _ (by omega)) rfl ⟨by decide, by decide⟩ hb_10 dX8_greatestHeap_52 (fun x_11 H locs ex_11 G => ?_)
        have hw := hw x_11 ex_11
        refine lv_aload_n C.1 C.2.1 dX8_greatestHeap_53 rfl (lv_at hl 1 rfl) ?_
        refine fr_get C G 60 (hL _ (by omega)) (cl_60 _) rfl iw_X8_greatestHeap_X8 17 (by decide) fl_X8_greatestHeap_54 rfl dX8_greatestHeap_54 ?_
        refine lv_iload C.1 C.2.1 dX8_greatestHeap_57 (lv_at hl 0 rfl) ?_
        obtain ⟨hb_12, hw⟩ := hw
        refine fr_iald C G 73 501 (hL _ (by omega)) rfl ⟨by decide, by decide⟩ hb_12 dX8_greatestHeap_59 ?_
        refine lv_iload_n C.1 C.2.1 dX8_greatestHeap_60 rfl (lv_at hl 3 rfl) ?_
        obtain ⟨hc_18, hw⟩ := hw
        refine fr_le (tgt := 74) C dX8_greatestHeap_61 (by decide) hc_18 (fun q_13 => ?_) (fun q_13 => ?_)
        · have hw := if_p hw q_13
          refine lv_iload_n C.1 C.2.1 dX8_greatestHeap_74 rfl (lv_at hl 3 rfl) ?_
          refine lv_istore_n (lv' := [(2, .int (iI v2_3)), (4, .int (iI z_8)), (0, .ref (ad 60)), (1, .int (iI a1)), (3, .int (iI v3_4))]) C.1 C.2.1 dX8_greatestHeap_75 rfl hl (by decide) rfl (fun ls hl => ?_)
          obtain ⟨v3_14, ev3_14⟩ : ∃ z : Int, z = v3_4 + 1 := ⟨_, rfl⟩
          have hw := hw v3_14 ev3_14
          refine lv_iinc (v := iI v3_14) (lv' := [(3, .int (iI v3_14)), (2, .int (iI v2_3)), (4, .int (iI z_8)), (0, .ref (ad 60)), (1, .int (iI a1))]) C.1 C.2.1 dX8_greatestHeap_76 hl (k := 4) rfl (by rw [ev3_14]; exact iI_add _ _) (by decide) rfl (fun ls hl => ?_)
          refine lv_goto (tgt := 26) C.1 C.2.1 dX8_greatestHeap_79 (by decide) ?_
          exact ih26 v2_3 v3_14 x_11 _ _ _ hw G (lv_sub hl [3, 4, 1, 0] rfl)
        · have hw := if_n hw q_13
          refine lv_aload_n C.1 C.2.1 dX8_greatestHeap_64 rfl (lv_at hl 1 rfl) ?_
          refine fr_get C G 60 (hL _ (by omega)) (cl_60 _) rfl iw_X8_greatestHeap_X8 17 (by decide) fl_X8_greatestHeap_54 rfl dX8_greatestHeap_65 ?_
          refine lv_iload C.1 C.2.1 dX8_greatestHeap_68 (lv_at hl 0 rfl) ?_
          obtain ⟨hb_15, hw⟩ := hw
          refine fr_iald C G 73 501 (hL _ (by omega)) rfl ⟨by decide, by decide⟩ hb_15 dX8_greatestHeap_70 ?_
          refine lv_goto (tgt := 75) C.1 C.2.1 dX8_greatestHeap_71 (by decide) ?_
          refine fr_nm (fun v2_16 ev2_16 => ?_)
          have hw := hw v2_16 ev2_16
          refine lv_istore_n (lv' := [(2, .int (iI v2_16)), (4, .int (iI z_8)), (0, .ref (ad 60)), (1, .int (iI a1)), (3, .int (iI v3_4))]) C.1 C.2.1 dX8_greatestHeap_75 rfl hl (by decide) rfl (fun ls hl => ?_)
          obtain ⟨v3_17, ev3_17⟩ : ∃ z : Int, z = v3_4 + 1 := ⟨_, rfl⟩
          have hw := hw v3_17 ev3_17
          refine lv_iinc (v := iI v3_17) (lv' := [(3, .int (iI v3_17)), (2, .int (iI v2_16)), (4, .int (iI z_8)), (0, .ref (ad 60)), (1, .int (iI a1))]) C.1 C.2.1 dX8_greatestHeap_76 hl (k := 4) rfl (by rw [ev3_17]; exact iI_add _ _) (by decide) rfl (fun ls hl => ?_)
          refine lv_goto (tgt := 26) C.1 C.2.1 dX8_greatestHeap_79 (by decide) ?_
          exact ih26 v2_16 v3_17 x_11 _ _ _ hw G (lv_sub hl [3, 4, 1, 0] rfl)
    have hX26 : ∀ (v2_3 : Int) (v3_4 : Int) (x_5 : Mm) (H : Heap) (locs : List Loc) (ls : Array Slot), wX_X8_greatestHeap_26 post v2_3 v3_4 x_5 → fG D cy L ad (fAr L ad s.heap.size) s x_5 H locs → lv_has ls 5 [(0, .ref (ad 60)), (1, .int (iI a1)), (2, .int (iI v2_3)), (3, .int (iI v3_4))] → W p l e (headSpec wsX8_greatestHeap rm_X8_greatestHeap).room s m args below meth c H locs 0 0 (fQi below D cy L ad s args post) (F0 m 82 ls []) := by
      intro v2_3 v3_4 x_5 H locs ls hw G hl
      refine lv_iload_n C.1 C.2.1 dX8_greatestHeap_82 rfl (lv_at hl 2 rfl) ?_
      exact fr_iret C G hr hlk hw dX8_greatestHeap_83
    have hB26 : ∀ (n : Nat) (v2_3 : Int) (v3_4 : Int) (x_5 : Mm) (H : Heap) (locs : List Loc) (ls : Array Slot), lk3 (wB_X8_greatestHeap_26 a1 (wX_X8_greatestHeap_26 post)) n v2_3 v3_4 x_5 → fG D cy L ad (fAr L ad s.heap.size) s x_5 H locs → lv_has ls 5 [(0, .ref (ad 60)), (1, .int (iI a1)), (2, .int (iI v2_3)), (3, .int (iI v3_4))] → W p l e (headSpec wsX8_greatestHeap rm_X8_greatestHeap).room s m args below meth c H locs 0 0 (fQi below D cy L ad s args post) (F0 m 26 ls []) := by
      intro n
      induction n with
      | zero =>
        intro v2_3 v3_4 x_5 H locs ls hw
        exact hw.elim
      | succ n ih =>
        intro v2_3 v3_4 x_5 H locs ls hw G hl
        exact hS26 _ _ hX26 ih v2_3 v3_4 x_5 H locs ls hw G hl
    exact hB26 n26 0 0 x_2 _ _ _ hw G (lv_sub hl [2, 3, 1, 0] rfl)
  have hB2 : ∀ (n : Nat) (v2_1 : Int) (x_2 : Mm) (H : Heap) (locs : List Loc) (ls : Array Slot), lk2 (wB_X8_greatestHeap_2 (wX_X8_greatestHeap_2 a1 post)) n v2_1 x_2 → fG D cy L ad (fAr L ad s.heap.size) s x_2 H locs → lv_has ls 5 [(0, .ref (ad 60)), (1, .int (iI a1)), (2, .int (iI v2_1))] → W p l e (headSpec wsX8_greatestHeap rm_X8_greatestHeap).room s m args below meth c H locs 0 0 (fQi below D cy L ad s args post) (F0 m 2 ls []) := by
    intro n
    induction n with
    | zero =>
      intro v2_1 x_2 H locs ls hw
      exact hw.elim
    | succ n ih =>
      intro v2_1 x_2 H locs ls hw G hl
      exact hS2 _ _ hX2 ih v2_1 x_2 H locs ls hw G hl
  exact hB2 n2 0 x _ _ _ hw G (lv_sub hl [1, 2, 0] rfl)
