def w_X8_plan (a1 : Int) (x : Mm) (post : Int → Mm → Prop) : Prop :=
  w_X8_isPlate a1 x (fun z_2 x_1 => rg z_2 ∧ (if z_2 = 0 then (post (-2) x_1) else (w_X8_findWoods x_1 (fun x_4 => rg (x_4 60 15) ∧ (if (x_4 60 15) = 0 then (post (-3) x_4) else (w_X8_findPlan a1 x_4 (fun x_6 => post (x_6 60 19) x_6)))))))
abbrev rm_X8_plan : Room := { frames := 5, cells := 0, slots := 0, locals := 131 }
theorem iw_X8_plan_X8 : ∀ w ∈ u_ws RX8 TX8 20, w ∈ wsX8_plan := by decide +kernel
theorem fl_X8_plan_107 : Cond.fieldLink RX8 107 (TX8 15).1 (TX8 15).2.1 (TX8 15).2.2.1 ∈ wsX8_plan := by decide +kernel
theorem fl_X8_plan_129 : Cond.fieldLink RX8 129 (TX8 19).1 (TX8 19).2.1 (TX8 19).2.2.1 ∈ wsX8_plan := by decide +kernel
set_option maxHeartbeats 4000000 in
set_option maxRecDepth 100000 in
theorem c_X8_plan (l : Launch) (D : va_G) (cy : Nat → ClassId) (L : List Nat) (ad : Nat → Nat) (sz : Nat) (hL : fLM L) (a1 : Int) (x : Mm) (post : Int → Mm → Prop) (hw : w_X8_plan a1 x post) : fMi l yX8_plan wsX8_plan rm_X8_plan [.ref (ad 60), .int (iI a1)] D cy L ad sz x post := by
  refine Met.ofW (cc := cX8_plan) (maxL := 2) (ret := (some .int)) (by decide) rfl ?_
  intro p e s m args below meth c s₁ B hml hv
  obtain ⟨hargs, hp⟩ := hv
  obtain ⟨C, hr, hlk, hsz, G⟩ := fr_start B hml hp
  subst hsz
  obtain ⟨ls, els, hl⟩ := fr_entry (m := m) (n := 2) hargs (Nat.le_of_ble_eq_true rfl)
  rw [els]
  have hl : lv_has ls 2 [(0, .ref (ad 60)), (1, .int (iI a1))] := hl
  clear els hargs hp B
  refine lv_aload_n C.1 C.2.1 dX8_plan_0 rfl (lv_at hl 0 rfl) ?_
  refine lv_iload_n C.1 C.2.1 dX8_plan_1 rfl (lv_at hl 1 rfl) ?_
  refine fr_Vi C G (c_X8_isPlate l D cy L ad _ hL a1 x _ hw) (cwV 1 C.2.2.2.2 gX8_plan_X8_isPlate rfl rfl rfl (by decide +kernel) ⟨Nat.le_of_ble_eq_true rfl, Nat.le_of_ble_eq_true rfl⟩) (G.recv (hL _ (by omega)) (cl_60 _) rfl) rfl hl.1 rfl (Nat.le_of_ble_eq_true rfl) dX8_plan_2 ⟨Nat.zero_le _, Nat.zero_le _⟩ (fun z_2 x_1 H locs hw G => ?_)
  obtain ⟨hc_8, hw⟩ := hw
  refine fr_ne0 (tgt := 11) C dX8_plan_5 (by decide) hc_8 (fun q_3 => ?_) (fun q_3 => ?_)
  · have hw := if_p hw q_3
    refine fr_bi C dX8_plan_8 rfl ?_
    exact fr_iret C G hr hlk hw dX8_plan_10
  · have hw := if_n hw q_3
    refine lv_aload_n C.1 C.2.1 dX8_plan_11 rfl (lv_at hl 0 rfl) ?_
    refine fr_Vv C G (c_X8_findWoods l D cy L ad _ hL x_1 _ hw) (cwV 0 C.2.2.2.2 gX8_plan_X8_findWoods rfl rfl rfl (by decide +kernel) ⟨Nat.le_of_ble_eq_true rfl, Nat.le_of_ble_eq_true rfl⟩) (G.recv (hL _ (by omega)) (cl_60 _) rfl) rfl hl.1 rfl (Nat.le_of_ble_eq_true rfl) dX8_plan_12 ⟨Nat.zero_le _, Nat.zero_le _⟩ (fun x_4 H locs hw G => ?_)
    refine lv_aload_n C.1 C.2.1 dX8_plan_15 rfl (lv_at hl 0 rfl) ?_
    refine fr_get C G 60 (hL _ (by omega)) (cl_60 _) rfl iw_X8_plan_X8 15 (by decide) fl_X8_plan_107 rfl dX8_plan_16 ?_
    obtain ⟨hc_7, hw⟩ := hw
    refine fr_ne0 (tgt := 25) C dX8_plan_19 (by decide) hc_7 (fun q_5 => ?_) (fun q_5 => ?_)
    · have hw := if_p hw q_5
      refine fr_bi C dX8_plan_22 rfl ?_
      exact fr_iret C G hr hlk hw dX8_plan_24
    · have hw := if_n hw q_5
      refine lv_aload_n C.1 C.2.1 dX8_plan_25 rfl (lv_at hl 0 rfl) ?_
      refine lv_iload_n C.1 C.2.1 dX8_plan_26 rfl (lv_at hl 1 rfl) ?_
      refine fr_Vv C G (c_X8_findPlan l D cy L ad _ hL a1 x_4 _ hw) (cwV 1 C.2.2.2.2 gX8_plan_X8_findPlan rfl rfl rfl (by decide +kernel) ⟨Nat.le_of_ble_eq_true rfl, Nat.le_of_ble_eq_true rfl⟩) (G.recv (hL _ (by omega)) (cl_60 _) rfl) rfl hl.1 rfl (Nat.le_of_ble_eq_true rfl) dX8_plan_27 ⟨Nat.zero_le _, Nat.zero_le _⟩ (fun x_6 H locs hw G => ?_)
      refine lv_aload_n C.1 C.2.1 dX8_plan_30 rfl (lv_at hl 0 rfl) ?_
      refine fr_get C G 60 (hL _ (by omega)) (cl_60 _) rfl iw_X8_plan_X8 19 (by decide) fl_X8_plan_129 rfl dX8_plan_31 ?_
      exact fr_iret C G hr hlk hw dX8_plan_34
def wX_X8_planned_39 (post : Int → Mm → Prop) (x_7 : Mm) (v3_8 : Int) (v4_9 : Int) : Prop :=
  post (-1) x_7
def wB_X8_planned_39 (a1 : Int) (post : Int → Mm → Prop) (x_7 : Mm) (kx_39 bk_39 : Int → Int → Prop) (v3_8 : Int) (v4_9 : Int) : Prop :=
  rg v4_9 ∧ (if 4 ≤ v4_9 then (kx_39 v3_8 v4_9) else (rg (x_7 60 19) ∧ (if (x_7 60 19) = (-1) then (kx_39 v3_8 v4_9) else ((0 ≤ (4 * a1) + v4_9 ∧ (4 * a1) + v4_9 < 16) ∧ (0 ≤ v4_9 ∧ v4_9 < 4) ∧ ∀ v5_14 : Int, v5_14 = (x_7 61 ((4 * a1) + v4_9).toNat) - (x_7 74 (v4_9).toNat) → (rg v3_8 ∧ rg v5_14) ∧ (if v5_14 ≤ v3_8 then (∀ v3_16 : Int, v3_16 = v3_8 - v5_14 → ∀ v4_17 : Int, v4_17 = v4_9 + 1 → bk_39 v3_16 v4_17) else (post v4_9 x_7))))))
def w_X8_planned (a1 a2 : Int) (x : Mm) (post : Int → Mm → Prop) : Prop :=
  w_X8_isPlate a1 x (fun z_2 x_1 => rg z_2 ∧ (if z_2 = 0 then (post (-2) x_1) else (rg a2 ∧ (if 0 ≤ a2 then (w_X8_findWoods x_1 (fun x_5 => rg (x_5 60 15) ∧ (if (x_5 60 15) = 0 then (post (-3) x_5) else (w_X8_findPlan a1 x_5 (fun x_7 => ∃ n : Nat, lk2 (wB_X8_planned_39 a1 post x_7 (wX_X8_planned_39 post x_7)) n a2 0))))) else (post (-2) x_1)))))
abbrev rm_X8_planned : Room := { frames := 5, cells := 0, slots := 0, locals := 131 }
theorem iw_X8_planned_X8 : ∀ w ∈ u_ws RX8 TX8 20, w ∈ wsX8_planned := by decide +kernel
theorem fl_X8_planned_107 : Cond.fieldLink RX8 107 (TX8 15).1 (TX8 15).2.1 (TX8 15).2.2.1 ∈ wsX8_planned := by decide +kernel
theorem fl_X8_planned_129 : Cond.fieldLink RX8 129 (TX8 19).1 (TX8 19).2.1 (TX8 19).2.2.1 ∈ wsX8_planned := by decide +kernel
theorem fl_X8_planned_7 : Cond.fieldLink RX8 7 (TX8 1).1 (TX8 1).2.1 (TX8 1).2.2.1 ∈ wsX8_planned := by decide +kernel
theorem fl_X8_planned_57 : Cond.fieldLink RX8 57 (TX8 18).1 (TX8 18).2.1 (TX8 18).2.2.1 ∈ wsX8_planned := by decide +kernel
set_option maxHeartbeats 4000000 in
set_option maxRecDepth 100000 in
theorem c_X8_planned (l : Launch) (D : va_G) (cy : Nat → ClassId) (L : List Nat) (ad : Nat → Nat) (sz : Nat) (hL : fLM L) (a1 a2 : Int) (x : Mm) (post : Int → Mm → Prop) (hw : w_X8_planned a1 a2 x post) : fMi l yX8_planned wsX8_planned rm_X8_planned [.ref (ad 60), .int (iI a1), .int (iI a2)] D cy L ad sz x post := by
  refine Met.ofW (cc := cX8_planned) (maxL := 6) (ret := (some .int)) (by decide) rfl ?_
  intro p e s m args below meth c s₁ B hml hv
  obtain ⟨hargs, hp⟩ := hv
  obtain ⟨C, hr, hlk, hsz, G⟩ := fr_start B hml hp
  subst hsz
  obtain ⟨ls, els, hl⟩ := fr_entry (m := m) (n := 6) hargs (Nat.le_of_ble_eq_true rfl)
  rw [els]
  have hl : lv_has ls 6 [(0, .ref (ad 60)), (1, .int (iI a1)), (2, .int (iI a2))] := hl
  clear els hargs hp B
  refine lv_aload_n C.1 C.2.1 dX8_planned_0 rfl (lv_at hl 0 rfl) ?_
  refine lv_iload_n C.1 C.2.1 dX8_planned_1 rfl (lv_at hl 1 rfl) ?_
  refine fr_Vi C G (c_X8_isPlate l D cy L ad _ hL a1 x _ hw) (cwV 1 C.2.2.2.2 gX8_planned_X8_isPlate rfl rfl rfl (by decide +kernel) ⟨Nat.le_of_ble_eq_true rfl, Nat.le_of_ble_eq_true rfl⟩) (G.recv (hL _ (by omega)) (cl_60 _) rfl) rfl hl.1 rfl (Nat.le_of_ble_eq_true rfl) dX8_planned_2 ⟨Nat.zero_le _, Nat.zero_le _⟩ (fun z_2 x_1 H locs hw G => ?_)
  obtain ⟨hc_23, hw⟩ := hw
  refine fr_eq0 (tgt := 12) C dX8_planned_5 (by decide) hc_23 (fun q_3 => ?_) (fun q_3 => ?_)
  · have hw := if_p hw q_3
    refine fr_bi C dX8_planned_12 rfl ?_
    exact fr_iret C G hr hlk hw dX8_planned_14
  · have hw := if_n hw q_3
    refine lv_iload_n C.1 C.2.1 dX8_planned_8 rfl (lv_at hl 2 rfl) ?_
    obtain ⟨hc_22, hw⟩ := hw
    refine fr_ge0 (tgt := 15) C dX8_planned_9 (by decide) hc_22 (fun q_4 => ?_) (fun q_4 => ?_)
    · have hw := if_p hw q_4
      refine lv_aload_n C.1 C.2.1 dX8_planned_15 rfl (lv_at hl 0 rfl) ?_
      refine fr_Vv C G (c_X8_findWoods l D cy L ad _ hL x_1 _ hw) (cwV 0 C.2.2.2.2 gX8_planned_X8_findWoods rfl rfl rfl (by decide +kernel) ⟨Nat.le_of_ble_eq_true rfl, Nat.le_of_ble_eq_true rfl⟩) (G.recv (hL _ (by omega)) (cl_60 _) rfl) rfl hl.1 rfl (Nat.le_of_ble_eq_true rfl) dX8_planned_16 ⟨Nat.zero_le _, Nat.zero_le _⟩ (fun x_5 H locs hw G => ?_)
      refine lv_aload_n C.1 C.2.1 dX8_planned_19 rfl (lv_at hl 0 rfl) ?_
      refine fr_get C G 60 (hL _ (by omega)) (cl_60 _) rfl iw_X8_planned_X8 15 (by decide) fl_X8_planned_107 rfl dX8_planned_20 ?_
      obtain ⟨hc_21, hw⟩ := hw
      refine fr_ne0 (tgt := 29) C dX8_planned_23 (by decide) hc_21 (fun q_6 => ?_) (fun q_6 => ?_)
      · have hw := if_p hw q_6
        refine fr_bi C dX8_planned_26 rfl ?_
        exact fr_iret C G hr hlk hw dX8_planned_28
      · have hw := if_n hw q_6
        refine lv_aload_n C.1 C.2.1 dX8_planned_29 rfl (lv_at hl 0 rfl) ?_
        refine lv_iload_n C.1 C.2.1 dX8_planned_30 rfl (lv_at hl 1 rfl) ?_
        refine fr_Vv C G (c_X8_findPlan l D cy L ad _ hL a1 x_5 _ hw) (cwV 1 C.2.2.2.2 gX8_planned_X8_findPlan rfl rfl rfl (by decide +kernel) ⟨Nat.le_of_ble_eq_true rfl, Nat.le_of_ble_eq_true rfl⟩) (G.recv (hL _ (by omega)) (cl_60 _) rfl) rfl hl.1 rfl (Nat.le_of_ble_eq_true rfl) dX8_planned_31 ⟨Nat.zero_le _, Nat.zero_le _⟩ (fun x_7 H locs hw G => ?_)
        refine lv_iload_n C.1 C.2.1 dX8_planned_34 rfl (lv_at hl 2 rfl) ?_
        refine lv_istore_n (lv' := [(3, .int (iI a2)), (0, .ref (ad 60)), (1, .int (iI a1)), (2, .int (iI a2))]) C.1 C.2.1 dX8_planned_35 rfl hl (by decide) rfl (fun ls hl => ?_)
        refine fr_ic C dX8_planned_36 ?_
        refine lv_istore (lv' := [(4, .int (iI 0)), (3, .int (iI a2)), (0, .ref (ad 60)), (1, .int (iI a1)), (2, .int (iI a2))]) C.1 C.2.1 dX8_planned_37 hl (by decide) rfl (fun ls hl => ?_)
        obtain ⟨n39, hw⟩ := hw
        have hS39 : ∀ (kx_39 bk_39 : Int → Int → Prop), (∀ (v3_8 : Int) (v4_9 : Int) (H : Heap) (locs : List Loc) (ls : Array Slot), kx_39 v3_8 v4_9 → fG D cy L ad (fAr L ad s.heap.size) s x_7 H locs → lv_has ls 6 [(0, .ref (ad 60)), (1, .int (iI a1)), (2, .int (iI a2)), (3, .int (iI v3_8)), (4, .int (iI v4_9))] → W p l e (headSpec wsX8_planned rm_X8_planned).room s m args below meth c H locs 0 0 (fQi below D cy L ad s args post) (F0 m 94 ls [])) → (∀ (v3_8 : Int) (v4_9 : Int) (H : Heap) (locs : List Loc) (ls : Array Slot), bk_39 v3_8 v4_9 → fG D cy L ad (fAr L ad s.heap.size) s x_7 H locs → lv_has ls 6 [(0, .ref (ad 60)), (1, .int (iI a1)), (2, .int (iI a2)), (3, .int (iI v3_8)), (4, .int (iI v4_9))] → W p l e (headSpec wsX8_planned rm_X8_planned).room s m args below meth c H locs 0 0 (fQi below D cy L ad s args post) (F0 m 39 ls [])) → ∀ (v3_8 : Int) (v4_9 : Int) (H : Heap) (locs : List Loc) (ls : Array Slot), wB_X8_planned_39 a1 post x_7 kx_39 bk_39 v3_8 v4_9 → fG D cy L ad (fAr L ad s.heap.size) s x_7 H locs → lv_has ls 6 [(0, .ref (ad 60)), (1, .int (iI a1)), (2, .int (iI a2)), (3, .int (iI v3_8)), (4, .int (iI v4_9))] → W p l e (headSpec wsX8_planned rm_X8_planned).room s m args below meth c H locs 0 0 (fQi below D cy L ad s args post) (F0 m 39 ls []) := by
          intro kx_39 bk_39 hX39 ih39 v3_8 v4_9 H locs ls hw G hl
          refine lv_iload C.1 C.2.1 dX8_planned_39 (lv_at hl 4 rfl) ?_
          refine fr_ic C dX8_planned_41 ?_
          obtain ⟨hc_20, hw⟩ := hw
          refine fr_ge (tgt := 94) C dX8_planned_42 (by decide) ⟨hc_20, ⟨by decide, by decide⟩⟩ (fun q_10 => ?_) (fun q_10 => ?_)
          · have hw := if_p hw q_10
            exact hX39 v3_8 v4_9 _ _ _ hw G (lv_sub hl [0, 1, 2, 3, 4] rfl)
          · have hw := if_n hw q_10
            refine lv_aload_n C.1 C.2.1 dX8_planned_45 rfl (lv_at hl 0 rfl) ?_
            refine fr_get C G 60 (hL _ (by omega)) (cl_60 _) rfl iw_X8_planned_X8 19 (by decide) fl_X8_planned_129 rfl dX8_planned_46 ?_
            refine fr_ic C dX8_planned_49 ?_
            obtain ⟨hc_19, hw⟩ := hw
            refine fr_eq (tgt := 94) C dX8_planned_50 (by decide) ⟨hc_19, ⟨by decide, by decide⟩⟩ (fun q_11 => ?_) (fun q_11 => ?_)
            · have hw := if_p hw q_11
              exact hX39 v3_8 v4_9 _ _ _ hw G (lv_sub hl [0, 1, 2, 3, 4] rfl)
            · have hw := if_n hw q_11
              refine lv_aload_n C.1 C.2.1 dX8_planned_53 rfl (lv_at hl 0 rfl) ?_
              refine fr_get C G 60 (hL _ (by omega)) (cl_60 _) rfl iw_X8_planned_X8 1 (by decide) fl_X8_planned_7 rfl dX8_planned_54 ?_
              refine fr_ic C dX8_planned_57 ?_
              refine lv_iload_n C.1 C.2.1 dX8_planned_58 rfl (lv_at hl 1 rfl) ?_
              refine fr_imul C dX8_planned_59 ?_
              refine lv_iload C.1 C.2.1 dX8_planned_60 (lv_at hl 4 rfl) ?_
              refine fr_iadd C dX8_planned_62 ?_
              obtain ⟨hb_12, hw⟩ := hw
              refine fr_iald C G 61 16 (hL _ (by omega)) rfl ⟨by decide, by decide⟩ hb_12 dX8_planned_63 ?_
              refine lv_aload_n C.1 C.2.1 dX8_planned_64 rfl (lv_at hl 0 rfl) ?_
              refine fr_get C G 60 (hL _ (by omega)) (cl_60 _) rfl iw_X8_planned_X8 18 (by decide) fl_X8_planned_57 rfl dX8_planned_65 ?_
              refine lv_iload C.1 C.2.1 dX8_planned_68 (lv_at hl 4 rfl) ?_
              obtain ⟨hb_13, hw⟩ := hw
              refine fr_iald C G 74 4 (hL _ (by omega)) rfl ⟨by decide, by decide⟩ hb_13 dX8_planned_70 ?_
              refine fr_isub C dX8_planned_71 ?_
              refine fr_nm (fun v5_14 ev5_14 => ?_)
              have hw := hw v5_14 ev5_14
              refine lv_istore (lv' := [(5, .int (iI v5_14)), (0, .ref (ad 60)), (1, .int (iI a1)), (2, .int (iI a2)), (3, .int (iI v3_8)), (4, .int (iI v4_9))]) C.1 C.2.1 dX8_planned_72 hl (by decide) rfl (fun ls hl => ?_)
              refine lv_iload_n C.1 C.2.1 dX8_planned_74 rfl (lv_at hl 4 rfl) ?_
              refine lv_iload C.1 C.2.1 dX8_planned_75 (lv_at hl 0 rfl) ?_
              obtain ⟨hc_18, hw⟩ := hw
              refine fr_ge (tgt := 83) C dX8_planned_77 (by decide) hc_18 (fun q_15 => ?_) (fun q_15 => ?_)
              · have hw := if_p hw q_15
                refine lv_iload_n C.1 C.2.1 dX8_planned_83 rfl (lv_at hl 4 rfl) ?_
                refine lv_iload C.1 C.2.1 dX8_planned_84 (lv_at hl 0 rfl) ?_
                refine fr_isub C dX8_planned_86 ?_
                refine fr_nm (fun v3_16 ev3_16 => ?_)
                have hw := hw v3_16 ev3_16
                refine lv_istore_n (lv' := [(3, .int (iI v3_16)), (5, .int (iI v5_14)), (0, .ref (ad 60)), (1, .int (iI a1)), (2, .int (iI a2)), (4, .int (iI v4_9))]) C.1 C.2.1 dX8_planned_87 rfl hl (by decide) rfl (fun ls hl => ?_)
                obtain ⟨v4_17, ev4_17⟩ : ∃ z : Int, z = v4_9 + 1 := ⟨_, rfl⟩
                have hw := hw v4_17 ev4_17
                refine lv_iinc (v := iI v4_17) (lv' := [(4, .int (iI v4_17)), (3, .int (iI v3_16)), (5, .int (iI v5_14)), (0, .ref (ad 60)), (1, .int (iI a1)), (2, .int (iI a2))]) C.1 C.2.1 dX8_planned_88 hl (k := 5) rfl (by rw [ev4_17]; exact iI_add _ _) (by decide) rfl (fun ls hl => ?_)
                refine lv_goto (tgt := 39) C.1 C.2.1 dX8_planned_91 (by decide) ?_
                exact ih39 v3_16 v4_17 _ _ _ hw G (lv_sub hl [3, 4, 5, 1, 0] rfl)
              · have hw := if_n hw q_15
                refine lv_iload C.1 C.2.1 dX8_planned_80 (lv_at hl 5 rfl) ?_
                exact fr_iret C G hr hlk hw dX8_planned_82
        have hX39 : ∀ (v3_8 : Int) (v4_9 : Int) (H : Heap) (locs : List Loc) (ls : Array Slot), wX_X8_planned_39 post x_7 v3_8 v4_9 → fG D cy L ad (fAr L ad s.heap.size) s x_7 H locs → lv_has ls 6 [(0, .ref (ad 60)), (1, .int (iI a1)), (2, .int (iI a2)), (3, .int (iI v3_8)), (4, .int (iI v4_9))] → W p l e (headSpec wsX8_planned rm_X8_planned).room s m args below meth c H locs 0 0 (fQi below D cy L ad s args post) (F0 m 94 ls []) := by
          intro v3_8 v4_9 H locs ls hw G hl
          refine fr_ic C dX8_planned_94 ?_
          exact fr_iret C G hr hlk hw dX8_planned_95
        have hB39 : ∀ (n : Nat) (v3_8 : Int) (v4_9 : Int) (H : Heap) (locs : List Loc) (ls : Array Slot), lk2 (wB_X8_planned_39 a1 post x_7 (wX_X8_planned_39 post x_7)) n v3_8 v4_9 → fG D cy L ad (fAr L ad s.heap.size) s x_7 H locs → lv_has ls 6 [(0, .ref (ad 60)), (1, .int (iI a1)), (2, .int (iI a2)), (3, .int (iI v3_8)), (4, .int (iI v4_9))] → W p l e (headSpec wsX8_planned rm_X8_planned).room s m args below meth c H locs 0 0 (fQi below D cy L ad s args post) (F0 m 39 ls []) := by
          intro n
          induction n with
          | zero =>
            intro v3_8 v4_9 H locs ls hw
            exact hw.elim
          | succ n ih =>
            intro v3_8 v4_9 H locs ls hw G hl
            exact hS39 _ _ hX39 ih v3_8 v4_9 H locs ls hw G hl
        exact hB39 n39 a2 0 _ _ _ hw G (lv_sub hl [2, 3, 4, 1, 0] rfl)
    · have hw := if_n hw q_4
      refine fr_bi C dX8_planned_12 rfl ?_
      exact fr_iret C G hr hlk hw dX8_planned_14
def wX_X8_carve_67 (v2_10 : Int) (bk_62 : Int → Mm → Prop) (x_13 : Mm) : Prop :=
  ∀ v2_14 : Int, v2_14 = v2_10 + 1 → bk_62 v2_14 x_13
def wB_X8_carve_67 (a1 : Int) (v2_10 : Int) (kx_67 bk_67 : Mm → Prop) (x_13 : Mm) : Prop :=
  (0 ≤ (4 * a1) + v2_10 ∧ (4 * a1) + v2_10 < 16) ∧ (0 ≤ v2_10 ∧ v2_10 < 4) ∧ (rg (x_13 61 ((4 * a1) + v2_10).toNat) ∧ rg (x_13 74 (v2_10).toNat)) ∧ (if (x_13 61 ((4 * a1) + v2_10).toNat) ≤ (x_13 74 (v2_10).toNat) then (kx_67 x_13) else (w_X8_shaveOff a1 v2_10 x_13 (fun x_18 => bk_67 x_18)))
def wX_X8_carve_62 (post : Int → Mm → Prop) (v2_10 : Int) (x_11 : Mm) : Prop :=
  post (x_11 60 19) x_11
def wB_X8_carve_62 (a1 : Int) (kx_62 bk_62 : Int → Mm → Prop) (v2_10 : Int) (x_11 : Mm) : Prop :=
  rg v2_10 ∧ (if 4 ≤ v2_10 then (kx_62 v2_10 x_11) else (∃ n : Nat, lk1 (wB_X8_carve_67 a1 v2_10 (wX_X8_carve_67 v2_10 bk_62)) n x_11))
def w_X8_carve (a1 : Int) (x : Mm) (post : Int → Mm → Prop) : Prop :=
  w_X8_isPlate a1 x (fun z_2 x_1 => rg z_2 ∧ (if z_2 = 0 then (post (-2) x_1) else (w_X8_findWoods x_1 (fun x_4 => rg (x_4 60 15) ∧ (if (x_4 60 15) = 0 then (post (-3) x_4) else (w_X8_findPlan a1 x_4 (fun x_6 => rg (x_6 60 19) ∧ (if (x_6 60 19) = (-1) then (post (-3) x_6) else ((0 ≤ a1 ∧ a1 < 4) ∧ rg ((x_6 62 (a1).toNat) + (x_6 60 19)) ∧ (if ((x_6 62 (a1).toNat) + (x_6 60 19)) ≤ 20 then (∃ n : Nat, lk2 (wB_X8_carve_62 a1 (wX_X8_carve_62 post)) n 0 x_6) else (post (-4) x_6)))))))))))
abbrev rm_X8_carve : Room := { frames := 5, cells := 0, slots := 0, locals := 131 }
theorem iw_X8_carve_X8 : ∀ w ∈ u_ws RX8 TX8 20, w ∈ wsX8_carve := by decide +kernel
theorem fl_X8_carve_107 : Cond.fieldLink RX8 107 (TX8 15).1 (TX8 15).2.1 (TX8 15).2.2.1 ∈ wsX8_carve := by decide +kernel
theorem fl_X8_carve_129 : Cond.fieldLink RX8 129 (TX8 19).1 (TX8 19).2.1 (TX8 19).2.2.1 ∈ wsX8_carve := by decide +kernel
theorem fl_X8_carve_17 : Cond.fieldLink RX8 17 (TX8 3).1 (TX8 3).2.1 (TX8 3).2.2.1 ∈ wsX8_carve := by decide +kernel
theorem fl_X8_carve_7 : Cond.fieldLink RX8 7 (TX8 1).1 (TX8 1).2.1 (TX8 1).2.2.1 ∈ wsX8_carve := by decide +kernel
theorem fl_X8_carve_57 : Cond.fieldLink RX8 57 (TX8 18).1 (TX8 18).2.1 (TX8 18).2.2.1 ∈ wsX8_carve := by decide +kernel
set_option maxHeartbeats 4000000 in
set_option maxRecDepth 100000 in
theorem c_X8_carve (l : Launch) (D : va_G) (cy : Nat → ClassId) (L : List Nat) (ad : Nat → Nat) (sz : Nat) (hL : fLM L) (a1 : Int) (x : Mm) (post : Int → Mm → Prop) (hw : w_X8_carve a1 x post) : fMi l yX8_carve wsX8_carve rm_X8_carve [.ref (ad 60), .int (iI a1)] D cy L ad sz x post := by
  refine Met.ofW (cc := cX8_carve) (maxL := 3) (ret := (some .int)) (by decide) rfl ?_
  intro p e s m args below meth c s₁ B hml hv
  obtain ⟨hargs, hp⟩ := hv
  obtain ⟨C, hr, hlk, hsz, G⟩ := fr_start B hml hp
  subst hsz
  obtain ⟨ls, els, hl⟩ := fr_entry (m := m) (n := 3) hargs (Nat.le_of_ble_eq_true rfl)
  rw [els]
  have hl : lv_has ls 3 [(0, .ref (ad 60)), (1, .int (iI a1))] := hl
  clear els hargs hp B
  refine lv_aload_n C.1 C.2.1 dX8_carve_0 rfl (lv_at hl 0 rfl) ?_
  refine lv_iload_n C.1 C.2.1 dX8_carve_1 rfl (lv_at hl 1 rfl) ?_
  refine fr_Vi C G (c_X8_isPlate l D cy L ad _ hL a1 x _ hw) (cwV 1 C.2.2.2.2 gX8_carve_X8_isPlate rfl rfl rfl (by decide +kernel) ⟨Nat.le_of_ble_eq_true rfl, Nat.le_of_ble_eq_true rfl⟩) (G.recv (hL _ (by omega)) (cl_60 _) rfl) rfl hl.1 rfl (Nat.le_of_ble_eq_true rfl) dX8_carve_2 ⟨Nat.zero_le _, Nat.zero_le _⟩ (fun z_2 x_1 H locs hw G => ?_)
  obtain ⟨hc_24, hw⟩ := hw
  refine fr_ne0 (tgt := 11) C dX8_carve_5 (by decide) hc_24 (fun q_3 => ?_) (fun q_3 => ?_)
  · have hw := if_p hw q_3
    refine fr_bi C dX8_carve_8 rfl ?_
    exact fr_iret C G hr hlk hw dX8_carve_10
  · have hw := if_n hw q_3
    refine lv_aload_n C.1 C.2.1 dX8_carve_11 rfl (lv_at hl 0 rfl) ?_
    refine fr_Vv C G (c_X8_findWoods l D cy L ad _ hL x_1 _ hw) (cwV 0 C.2.2.2.2 gX8_carve_X8_findWoods rfl rfl rfl (by decide +kernel) ⟨Nat.le_of_ble_eq_true rfl, Nat.le_of_ble_eq_true rfl⟩) (G.recv (hL _ (by omega)) (cl_60 _) rfl) rfl hl.1 rfl (Nat.le_of_ble_eq_true rfl) dX8_carve_12 ⟨Nat.zero_le _, Nat.zero_le _⟩ (fun x_4 H locs hw G => ?_)
    refine lv_aload_n C.1 C.2.1 dX8_carve_15 rfl (lv_at hl 0 rfl) ?_
    refine fr_get C G 60 (hL _ (by omega)) (cl_60 _) rfl iw_X8_carve_X8 15 (by decide) fl_X8_carve_107 rfl dX8_carve_16 ?_
    obtain ⟨hc_23, hw⟩ := hw
    refine fr_ne0 (tgt := 25) C dX8_carve_19 (by decide) hc_23 (fun q_5 => ?_) (fun q_5 => ?_)
    · have hw := if_p hw q_5
      refine fr_bi C dX8_carve_22 rfl ?_
      exact fr_iret C G hr hlk hw dX8_carve_24
    · have hw := if_n hw q_5
      refine lv_aload_n C.1 C.2.1 dX8_carve_25 rfl (lv_at hl 0 rfl) ?_
      refine lv_iload_n C.1 C.2.1 dX8_carve_26 rfl (lv_at hl 1 rfl) ?_
      refine fr_Vv C G (c_X8_findPlan l D cy L ad _ hL a1 x_4 _ hw) (cwV 1 C.2.2.2.2 gX8_carve_X8_findPlan rfl rfl rfl (by decide +kernel) ⟨Nat.le_of_ble_eq_true rfl, Nat.le_of_ble_eq_true rfl⟩) (G.recv (hL _ (by omega)) (cl_60 _) rfl) rfl hl.1 rfl (Nat.le_of_ble_eq_true rfl) dX8_carve_27 ⟨Nat.zero_le _, Nat.zero_le _⟩ (fun x_6 H locs hw G => ?_)
      refine lv_aload_n C.1 C.2.1 dX8_carve_30 rfl (lv_at hl 0 rfl) ?_
      refine fr_get C G 60 (hL _ (by omega)) (cl_60 _) rfl iw_X8_carve_X8 19 (by decide) fl_X8_carve_129 rfl dX8_carve_31 ?_
      refine fr_ic C dX8_carve_34 ?_
      obtain ⟨hc_22, hw⟩ := hw
      refine fr_ne (tgt := 41) C dX8_carve_35 (by decide) ⟨hc_22, ⟨by decide, by decide⟩⟩ (fun q_7 => ?_) (fun q_7 => ?_)
      · have hw := if_p hw q_7
        refine fr_bi C dX8_carve_38 rfl ?_
        exact fr_iret C G hr hlk hw dX8_carve_40
      · have hw := if_n hw q_7
        refine lv_aload_n C.1 C.2.1 dX8_carve_41 rfl (lv_at hl 0 rfl) ?_
        refine fr_get C G 60 (hL _ (by omega)) (cl_60 _) rfl iw_X8_carve_X8 3 (by decide) fl_X8_carve_17 rfl dX8_carve_42 ?_
        refine lv_iload_n C.1 C.2.1 dX8_carve_45 rfl (lv_at hl 1 rfl) ?_
        obtain ⟨hb_8, hw⟩ := hw
        refine fr_iald C G 62 4 (hL _ (by omega)) rfl ⟨by decide, by decide⟩ hb_8 dX8_carve_46 ?_
        refine lv_aload_n C.1 C.2.1 dX8_carve_47 rfl (lv_at hl 0 rfl) ?_
        refine fr_get C G 60 (hL _ (by omega)) (cl_60 _) rfl iw_X8_carve_X8 19 (by decide) fl_X8_carve_129 rfl dX8_carve_48 ?_
        refine fr_iadd C dX8_carve_51 ?_
        refine fr_bi C dX8_carve_52 rfl ?_
        obtain ⟨hc_21, hw⟩ := hw
        refine fr_le (tgt := 60) C dX8_carve_54 (by decide) ⟨hc_21, ⟨by decide, by decide⟩⟩ (fun q_9 => ?_) (fun q_9 => ?_)
        · have hw := if_p hw q_9
          refine fr_ic C dX8_carve_60 ?_
          refine lv_istore_n (lv' := [(2, .int (iI 0)), (0, .ref (ad 60)), (1, .int (iI a1))]) C.1 C.2.1 dX8_carve_61 rfl hl (by decide) rfl (fun ls hl => ?_)
          obtain ⟨n62, hw⟩ := hw
          have hS62 : ∀ (kx_62 bk_62 : Int → Mm → Prop), (∀ (v2_10 : Int) (x_11 : Mm) (H : Heap) (locs : List Loc) (ls : Array Slot), kx_62 v2_10 x_11 → fG D cy L ad (fAr L ad s.heap.size) s x_11 H locs → lv_has ls 3 [(0, .ref (ad 60)), (1, .int (iI a1)), (2, .int (iI v2_10))] → W p l e (headSpec wsX8_carve rm_X8_carve).room s m args below meth c H locs 0 0 (fQi below D cy L ad s args post) (F0 m 101 ls [])) → (∀ (v2_10 : Int) (x_11 : Mm) (H : Heap) (locs : List Loc) (ls : Array Slot), bk_62 v2_10 x_11 → fG D cy L ad (fAr L ad s.heap.size) s x_11 H locs → lv_has ls 3 [(0, .ref (ad 60)), (1, .int (iI a1)), (2, .int (iI v2_10))] → W p l e (headSpec wsX8_carve rm_X8_carve).room s m args below meth c H locs 0 0 (fQi below D cy L ad s args post) (F0 m 62 ls [])) → ∀ (v2_10 : Int) (x_11 : Mm) (H : Heap) (locs : List Loc) (ls : Array Slot), wB_X8_carve_62 a1 kx_62 bk_62 v2_10 x_11 → fG D cy L ad (fAr L ad s.heap.size) s x_11 H locs → lv_has ls 3 [(0, .ref (ad 60)), (1, .int (iI a1)), (2, .int (iI v2_10))] → W p l e (headSpec wsX8_carve rm_X8_carve).room s m args below meth c H locs 0 0 (fQi below D cy L ad s args post) (F0 m 62 ls []) := by
            intro kx_62 bk_62 hX62 ih62 v2_10 x_11 H locs ls hw G hl
            refine lv_iload_n C.1 C.2.1 dX8_carve_62 rfl (lv_at hl 2 rfl) ?_
            refine fr_ic C dX8_carve_63 ?_
            obtain ⟨hc_20, hw⟩ := hw
            refine fr_ge (tgt := 101) C dX8_carve_64 (by decide) ⟨hc_20, ⟨by decide, by decide⟩⟩ (fun q_12 => ?_) (fun q_12 => ?_)
            · have hw := if_p hw q_12
              exact hX62 v2_10 x_11 _ _ _ hw G (lv_sub hl [0, 1, 2] rfl)
            · have hw := if_n hw q_12
              obtain ⟨n67, hw⟩ := hw
              have hS67 : ∀ (kx_67 bk_67 : Mm → Prop), (∀ (x_13 : Mm) (H : Heap) (locs : List Loc) (ls : Array Slot), kx_67 x_13 → fG D cy L ad (fAr L ad s.heap.size) s x_13 H locs → lv_has ls 3 [(0, .ref (ad 60)), (1, .int (iI a1)), (2, .int (iI v2_10))] → W p l e (headSpec wsX8_carve rm_X8_carve).room s m args below meth c H locs 0 0 (fQi below D cy L ad s args post) (F0 m 95 ls [])) → (∀ (x_13 : Mm) (H : Heap) (locs : List Loc) (ls : Array Slot), bk_67 x_13 → fG D cy L ad (fAr L ad s.heap.size) s x_13 H locs → lv_has ls 3 [(0, .ref (ad 60)), (1, .int (iI a1)), (2, .int (iI v2_10))] → W p l e (headSpec wsX8_carve rm_X8_carve).room s m args below meth c H locs 0 0 (fQi below D cy L ad s args post) (F0 m 67 ls [])) → ∀ (x_13 : Mm) (H : Heap) (locs : List Loc) (ls : Array Slot), wB_X8_carve_67 a1 v2_10 kx_67 bk_67 x_13 → fG D cy L ad (fAr L ad s.heap.size) s x_13 H locs → lv_has ls 3 [(0, .ref (ad 60)), (1, .int (iI a1)), (2, .int (iI v2_10))] → W p l e (headSpec wsX8_carve rm_X8_carve).room s m args below meth c H locs 0 0 (fQi below D cy L ad s args post) (F0 m 67 ls []) := by
                intro kx_67 bk_67 hX67 ih67 x_13 H locs ls hw G hl
                refine lv_aload_n C.1 C.2.1 dX8_carve_67 rfl (lv_at hl 0 rfl) ?_
                refine fr_get C G 60 (hL _ (by omega)) (cl_60 _) rfl iw_X8_carve_X8 1 (by decide) fl_X8_carve_7 rfl dX8_carve_68 ?_
                refine fr_ic C dX8_carve_71 ?_
                refine lv_iload_n C.1 C.2.1 dX8_carve_72 rfl (lv_at hl 1 rfl) ?_
                refine fr_imul C dX8_carve_73 ?_
                refine lv_iload_n C.1 C.2.1 dX8_carve_74 rfl (lv_at hl 2 rfl) ?_
                refine fr_iadd C dX8_carve_75 ?_
                obtain ⟨hb_15, hw⟩ := hw
                refine fr_iald C G 61 16 (hL _ (by omega)) rfl ⟨by decide, by decide⟩ hb_15 dX8_carve_76 ?_
                refine lv_aload_n C.1 C.2.1 dX8_carve_77 rfl (lv_at hl 0 rfl) ?_
                refine fr_get C G 60 (hL _ (by omega)) (cl_60 _) rfl iw_X8_carve_X8 18 (by decide) fl_X8_carve_57 rfl dX8_carve_78 ?_
                refine lv_iload_n C.1 C.2.1 dX8_carve_81 rfl (lv_at hl 2 rfl) ?_
                obtain ⟨hb_16, hw⟩ := hw
                refine fr_iald C G 74 4 (hL _ (by omega)) rfl ⟨by decide, by decide⟩ hb_16 dX8_carve_82 ?_
                obtain ⟨hc_19, hw⟩ := hw
                refine fr_le (tgt := 95) C dX8_carve_83 (by decide) hc_19 (fun q_17 => ?_) (fun q_17 => ?_)
                · have hw := if_p hw q_17
                  exact hX67 x_13 _ _ _ hw G (lv_sub hl [0, 1, 2] rfl)
                · have hw := if_n hw q_17
                  refine lv_aload_n C.1 C.2.1 dX8_carve_86 rfl (lv_at hl 0 rfl) ?_
                  refine lv_iload_n C.1 C.2.1 dX8_carve_87 rfl (lv_at hl 1 rfl) ?_
                  refine lv_iload_n C.1 C.2.1 dX8_carve_88 rfl (lv_at hl 2 rfl) ?_
                  refine fr_Vv C G (c_X8_shaveOff l D cy L ad _ hL a1 v2_10 x_13 _ hw) (cwV 2 C.2.2.2.2 gX8_carve_X8_shaveOff rfl rfl rfl (by decide +kernel) ⟨Nat.le_of_ble_eq_true rfl, Nat.le_of_ble_eq_true rfl⟩) (G.recv (hL _ (by omega)) (cl_60 _) rfl) rfl hl.1 rfl (Nat.le_of_ble_eq_true rfl) dX8_carve_89 ⟨Nat.zero_le _, Nat.zero_le _⟩ (fun x_18 H locs hw G => ?_)
                  refine lv_goto (tgt := 67) C.1 C.2.1 dX8_carve_92 (by decide) ?_
                  exact ih67 x_18 _ _ _ hw G (lv_sub hl [0, 1, 2] rfl)
              have hX67 : ∀ (x_13 : Mm) (H : Heap) (locs : List Loc) (ls : Array Slot), wX_X8_carve_67 v2_10 bk_62 x_13 → fG D cy L ad (fAr L ad s.heap.size) s x_13 H locs → lv_has ls 3 [(0, .ref (ad 60)), (1, .int (iI a1)), (2, .int (iI v2_10))] → W p l e (headSpec wsX8_carve rm_X8_carve).room s m args below meth c H locs 0 0 (fQi below D cy L ad s args post) (F0 m 95 ls []) := by
                intro x_13 H locs ls hw G hl
                obtain ⟨v2_14, ev2_14⟩ : ∃ z : Int, z = v2_10 + 1 := ⟨_, rfl⟩
                have hw := hw v2_14 ev2_14
                refine lv_iinc (v := iI v2_14) (lv' := [(2, .int (iI v2_14)), (0, .ref (ad 60)), (1, .int (iI a1))]) C.1 C.2.1 dX8_carve_95 hl (k := 2) rfl (by rw [ev2_14]; exact iI_add _ _) (by decide) rfl (fun ls hl => ?_)
                refine lv_goto (tgt := 62) C.1 C.2.1 dX8_carve_98 (by decide) ?_
                exact ih62 v2_14 x_13 _ _ _ hw G (lv_sub hl [1, 2, 0] rfl)
              have hB67 : ∀ (n : Nat) (x_13 : Mm) (H : Heap) (locs : List Loc) (ls : Array Slot), lk1 (wB_X8_carve_67 a1 v2_10 (wX_X8_carve_67 v2_10 bk_62)) n x_13 → fG D cy L ad (fAr L ad s.heap.size) s x_13 H locs → lv_has ls 3 [(0, .ref (ad 60)), (1, .int (iI a1)), (2, .int (iI v2_10))] → W p l e (headSpec wsX8_carve rm_X8_carve).room s m args below meth c H locs 0 0 (fQi below D cy L ad s args post) (F0 m 67 ls []) := by
                intro n
                induction n with
                | zero =>
                  intro x_13 H locs ls hw
                  exact hw.elim
                | succ n ih =>
                  intro x_13 H locs ls hw G hl
                  exact hS67 _ _ hX67 ih x_13 H locs ls hw G hl
              exact hB67 n67 x_11 _ _ _ hw G (lv_sub hl [0, 1, 2] rfl)
          have hX62 : ∀ (v2_10 : Int) (x_11 : Mm) (H : Heap) (locs : List Loc) (ls : Array Slot), wX_X8_carve_62 post v2_10 x_11 → fG D cy L ad (fAr L ad s.heap.size) s x_11 H locs → lv_has ls 3 [(0, .ref (ad 60)), (1, .int (iI a1)), (2, .int (iI v2_10))] → W p l e (headSpec wsX8_carve rm_X8_carve).room s m args below meth c H locs 0 0 (fQi below D cy L ad s args post) (F0 m 101 ls []) := by
            intro v2_10 x_11 H locs ls hw G hl
            refine lv_aload_n C.1 C.2.1 dX8_carve_101 rfl (lv_at hl 0 rfl) ?_
            refine fr_get C G 60 (hL _ (by omega)) (cl_60 _) rfl iw_X8_carve_X8 19 (by decide) fl_X8_carve_129 rfl dX8_carve_102 ?_
            exact fr_iret C G hr hlk hw dX8_carve_105
          have hB62 : ∀ (n : Nat) (v2_10 : Int) (x_11 : Mm) (H : Heap) (locs : List Loc) (ls : Array Slot), lk2 (wB_X8_carve_62 a1 (wX_X8_carve_62 post)) n v2_10 x_11 → fG D cy L ad (fAr L ad s.heap.size) s x_11 H locs → lv_has ls 3 [(0, .ref (ad 60)), (1, .int (iI a1)), (2, .int (iI v2_10))] → W p l e (headSpec wsX8_carve rm_X8_carve).room s m args below meth c H locs 0 0 (fQi below D cy L ad s args post) (F0 m 62 ls []) := by
            intro n
            induction n with
            | zero =>
              intro v2_10 x_11 H locs ls hw
              exact hw.elim
            | succ n ih =>
              intro v2_10 x_11 H locs ls hw G hl
              exact hS62 _ _ hX62 ih v2_10 x_11 H locs ls hw G hl
          exact hB62 n62 0 x_6 _ _ _ hw G (lv_sub hl [1, 2, 0] rfl)
        · have hw := if_n hw q_9
          refine fr_bi C dX8_carve_57 rfl ?_
          exact fr_iret C G hr hlk hw dX8_carve_59
def w_X8_off (a1 : Int) (x : Mm) (post : Int → Mm → Prop) : Prop :=
  w_X8_in a1 0 200 x (fun z_2 x_1 => rg z_2 ∧ (if z_2 = 0 then (post (-2) x_1) else (∀ v2_4 : Int, v2_4 = x_1 60 13 → ∀ x_5 : Mm, x_5 = up2 x_1 60 13 a1 → post v2_4 x_5)))
abbrev rm_X8_off : Room := { frames := 1, cells := 0, slots := 0, locals := 22 }
theorem iw_X8_off_X8 : ∀ w ∈ u_ws RX8 TX8 20, w ∈ wsX8_off := by decide +kernel
theorem fl_X8_off_45 : Cond.fieldLink RX8 45 (TX8 13).1 (TX8 13).2.1 (TX8 13).2.2.1 ∈ wsX8_off := by decide +kernel
set_option maxHeartbeats 4000000 in
set_option maxRecDepth 100000 in
theorem c_X8_off (l : Launch) (D : va_G) (cy : Nat → ClassId) (L : List Nat) (ad : Nat → Nat) (sz : Nat) (hL : fLM L) (a1 : Int) (x : Mm) (post : Int → Mm → Prop) (hw : w_X8_off a1 x post) : fMi l yX8_off wsX8_off rm_X8_off [.ref (ad 60), .int (iI a1)] D cy L ad sz x post := by
  refine Met.ofW (cc := cX8_off) (maxL := 3) (ret := (some .int)) (by decide) rfl ?_
  intro p e s m args below meth c s₁ B hml hv
  obtain ⟨hargs, hp⟩ := hv
  obtain ⟨C, hr, hlk, hsz, G⟩ := fr_start B hml hp
  subst hsz
  obtain ⟨ls, els, hl⟩ := fr_entry (m := m) (n := 3) hargs (Nat.le_of_ble_eq_true rfl)
  rw [els]
  have hl : lv_has ls 3 [(0, .ref (ad 60)), (1, .int (iI a1))] := hl
  clear els hargs hp B
  refine lv_iload_n C.1 C.2.1 dX8_off_0 rfl (lv_at hl 1 rfl) ?_
  refine fr_ic C dX8_off_1 ?_
  refine fr_si C dX8_off_2 rfl ?_
  refine fr_Si C G (c_X8_in l D cy L ad _ a1 0 200 x _ hw) (va_cwS 3 C.2.2.2.2 gX8_off_X8_in rfl rfl rfl (by decide +kernel) ⟨Nat.le_of_ble_eq_true rfl, Nat.le_of_ble_eq_true rfl⟩) rfl hl.1 rfl (Nat.le_of_ble_eq_true rfl) dX8_off_5 ⟨Nat.zero_le _, Nat.zero_le _⟩ (fun z_2 x_1 H locs hw G => ?_)
  obtain ⟨hc_6, hw⟩ := hw
  refine fr_ne0 (tgt := 14) C dX8_off_8 (by decide) hc_6 (fun q_3 => ?_) (fun q_3 => ?_)
  · have hw := if_p hw q_3
    refine fr_bi C dX8_off_11 rfl ?_
    exact fr_iret C G hr hlk hw dX8_off_13
  · have hw := if_n hw q_3
    refine lv_aload_n C.1 C.2.1 dX8_off_14 rfl (lv_at hl 0 rfl) ?_
    refine fr_get C G 60 (hL _ (by omega)) (cl_60 _) rfl iw_X8_off_X8 13 (by decide) fl_X8_off_45 rfl dX8_off_15 ?_
    refine fr_nm (fun v2_4 ev2_4 => ?_)
    have hw := hw v2_4 ev2_4
    refine lv_istore_n (lv' := [(2, .int (iI v2_4)), (0, .ref (ad 60)), (1, .int (iI a1))]) C.1 C.2.1 dX8_off_18 rfl hl (by decide) rfl (fun ls hl => ?_)
    refine lv_aload_n C.1 C.2.1 dX8_off_19 rfl (lv_at hl 1 rfl) ?_
    refine lv_iload_n C.1 C.2.1 dX8_off_20 rfl (lv_at hl 2 rfl) ?_
    refine fr_put C G 60 (hL _ (by omega)) (cl_60 _) rfl iw_X8_off_X8 tyX8_ok nmX8 13 (by decide) fl_X8_off_45 rfl (by decide +kernel) (Nat.le_of_ble_eq_true rfl) (st_60_13 _ _) dX8_off_21 (fun x_5 H locs ex_5 G => ?_)
    have hw := hw x_5 ex_5
    refine lv_iload_n C.1 C.2.1 dX8_off_24 rfl (lv_at hl 0 rfl) ?_
    exact fr_iret C G hr hlk hw dX8_off_25
