def wX_X0_metBy_10 (v3_1 : Int) (bk_2 : Int → Mm → Prop) (v4_4 : Int) (x_5 : Mm) : Prop :=
  ∀ v3_6 : Int, v3_6 = v3_1 + 1 → bk_2 v3_6 x_5
def wB_X0_metBy_10 (c1 : Nat) (post : Int → Mm → Prop) (v3_1 : Int) (kx_10 bk_10 : Int → Mm → Prop) (v4_4 : Int) (x_5 : Mm) : Prop :=
  (0 ≤ v3_1 ∧ v3_1 < 4) ∧ rg (x_5 9 (v3_1).toNat) ∧ (if (x_5 9 (v3_1).toNat) = 0 then (kx_10 v4_4 x_5) else (rg v4_4 ∧ (if 9 < v4_4 then (kx_10 v4_4 x_5) else ((0 ≤ v4_4 ∧ v4_4 < 10) ∧ ∀ v5_11 : Int, v5_11 = x_5 6 (v4_4).toNat → rg v5_11 ∧ (if v5_11 ≤ 0 then ((0 ≤ v4_4 ∧ v4_4 < 10) ∧ ∀ v6_14 : Int, v6_14 = x_5 7 (v4_4).toNat → rg v6_14 ∧ (if v6_14 ≤ 0 then (∀ v4_16 : Int, v4_16 = v4_4 + 1 → bk_10 v4_16 x_5) else ((0 ≤ v3_1 ∧ v3_1 < 4) ∧ w_X5_valuesBelow c1 v4_4 (((x_5 11 (v3_1).toNat) + 1) * v6_14) x_5 (fun z_19 x_18 => (rg z_19 ∧ rg v3_1) ∧ (if v3_1 < z_19 then (∀ v4_21 : Int, v4_21 = v4_4 + 1 → bk_10 v4_21 x_18) else (post 0 x_18)))))) else ((0 ≤ v3_1 ∧ v3_1 < 4) ∧ w_X5_valuesBelow c1 v4_4 ((x_5 10 (v3_1).toNat) * v5_11) x_5 (fun z_26 x_25 => (rg z_26 ∧ rg v3_1) ∧ (if z_26 ≤ v3_1 then ((0 ≤ v4_4 ∧ v4_4 < 10) ∧ ∀ v6_29 : Int, v6_29 = x_25 7 (v4_4).toNat → rg v6_29 ∧ (if v6_29 ≤ 0 then (∀ v4_31 : Int, v4_31 = v4_4 + 1 → bk_10 v4_31 x_25) else ((0 ≤ v3_1 ∧ v3_1 < 4) ∧ w_X5_valuesBelow c1 v4_4 (((x_25 11 (v3_1).toNat) + 1) * v6_29) x_25 (fun z_34 x_33 => (rg z_34 ∧ rg v3_1) ∧ (if v3_1 < z_34 then (∀ v4_36 : Int, v4_36 = v4_4 + 1 → bk_10 v4_36 x_33) else (post 0 x_33)))))) else (post 0 x_25)))))))))
def wX_X0_metBy_2 (post : Int → Mm → Prop) (v3_1 : Int) (x_2 : Mm) : Prop :=
  post 1 x_2
def wB_X0_metBy_2 (c1 : Nat) (post : Int → Mm → Prop) (kx_2 bk_2 : Int → Mm → Prop) (v3_1 : Int) (x_2 : Mm) : Prop :=
  rg v3_1 ∧ (if 4 ≤ v3_1 then (kx_2 v3_1 x_2) else (∃ n : Nat, lk2 (wB_X0_metBy_10 c1 post v3_1 (wX_X0_metBy_10 v3_1 bk_2)) n 1 x_2))
def w_X0_metBy (c1 : Nat) (x : Mm) (post : Int → Mm → Prop) : Prop :=
  ∃ n : Nat, lk2 (wB_X0_metBy_2 c1 post (wX_X0_metBy_2 post)) n 0 x
abbrev rm_X0_metBy : Room := { frames := 2, cells := 0, slots := 0, locals := 60 }
theorem iw_X0_metBy_X0 : ∀ w ∈ u_ws RX0 TX0 3, w ∈ wsX0_metBy := by decide +kernel
theorem fl_X0_metBy_9 : Cond.fieldLink RX0 9 (TX0 0).1 (TX0 0).2.1 (TX0 0).2.2.1 ∈ wsX0_metBy := by decide +kernel
theorem iw_X0_metBy_X2 : ∀ w ∈ u_ws RX2 TX2 7, w ∈ wsX0_metBy := by decide +kernel
theorem fl_X0_metBy_26 : Cond.fieldLink RX0 26 (TX2 5).1 (TX2 5).2.1 (TX2 5).2.2.1 ∈ wsX0_metBy := by decide +kernel
theorem fl_X0_metBy_37 : Cond.fieldLink RX0 37 (TX2 6).1 (TX2 6).2.1 (TX2 6).2.2.1 ∈ wsX0_metBy := by decide +kernel
theorem fl_X0_metBy_19 : Cond.fieldLink RX0 19 (TX0 2).1 (TX0 2).2.1 (TX0 2).2.2.1 ∈ wsX0_metBy := by decide +kernel
theorem fl_X0_metBy_15 : Cond.fieldLink RX0 15 (TX0 1).1 (TX0 1).2.1 (TX0 1).2.2.1 ∈ wsX0_metBy := by decide +kernel
set_option maxHeartbeats 4000000 in
set_option maxRecDepth 100000 in
theorem c_X0_metBy (l : Launch) (D : va_G) (cy : Nat → ClassId) (L : List Nat) (ad : Nat → Nat) (sz : Nat) (hL : fLA L) (c1 : Nat) (hc1 : c1 ∈ L) (hlc1 : al c1 = 4) (x : Mm) (post : Int → Mm → Prop) (hw : w_X0_metBy c1 x post) : fMi l yX0_metBy wsX0_metBy rm_X0_metBy [.ref (ad 8), .ref (ad c1), .ref (ad 2)] D cy L ad sz x post := by
  refine Met.ofW (cc := cX0_metBy) (maxL := 7) (ret := (some .boolean)) (by decide) rfl ?_
  intro p e s m args below meth c s₁ B hml hv
  obtain ⟨hargs, hp⟩ := hv
  obtain ⟨C, hr, hlk, hsz, G⟩ := fr_start B hml hp
  subst hsz
  obtain ⟨ls, els, hl⟩ := fr_entry (m := m) (n := 7) hargs (Nat.le_of_ble_eq_true rfl)
  rw [els]
  have hl : lv_has ls 7 [(0, .ref (ad 8)), (1, .ref (ad c1)), (2, .ref (ad 2))] := hl
  clear els hargs hp B
  refine fr_ic C dX0_metBy_0 ?_
  refine lv_istore_n (lv' := [(3, .int (iI 0)), (0, .ref (ad 8)), (1, .ref (ad c1)), (2, .ref (ad 2))]) C.1 C.2.1 dX0_metBy_1 rfl hl (by decide) rfl (fun ls hl => ?_)
  obtain ⟨n2, hw⟩ := hw
  have hS2 : ∀ (kx_2 bk_2 : Int → Mm → Prop), (∀ (v3_1 : Int) (x_2 : Mm) (H : Heap) (locs : List Loc) (ls : Array Slot), kx_2 v3_1 x_2 → fG D cy L ad (fAr L ad s.heap.size) s x_2 H locs → lv_has ls 7 [(0, .ref (ad 8)), (1, .ref (ad c1)), (2, .ref (ad 2)), (3, .int (iI v3_1))] → W p l e (headSpec wsX0_metBy rm_X0_metBy).room s m args below meth c H locs 0 0 (fQi below D cy L ad s args post) (F0 m 110 ls [])) → (∀ (v3_1 : Int) (x_2 : Mm) (H : Heap) (locs : List Loc) (ls : Array Slot), bk_2 v3_1 x_2 → fG D cy L ad (fAr L ad s.heap.size) s x_2 H locs → lv_has ls 7 [(0, .ref (ad 8)), (1, .ref (ad c1)), (2, .ref (ad 2)), (3, .int (iI v3_1))] → W p l e (headSpec wsX0_metBy rm_X0_metBy).room s m args below meth c H locs 0 0 (fQi below D cy L ad s args post) (F0 m 2 ls [])) → ∀ (v3_1 : Int) (x_2 : Mm) (H : Heap) (locs : List Loc) (ls : Array Slot), wB_X0_metBy_2 c1 post kx_2 bk_2 v3_1 x_2 → fG D cy L ad (fAr L ad s.heap.size) s x_2 H locs → lv_has ls 7 [(0, .ref (ad 8)), (1, .ref (ad c1)), (2, .ref (ad 2)), (3, .int (iI v3_1))] → W p l e (headSpec wsX0_metBy rm_X0_metBy).room s m args below meth c H locs 0 0 (fQi below D cy L ad s args post) (F0 m 2 ls []) := by
    intro kx_2 bk_2 hX2 ih2 v3_1 x_2 H locs ls hw G hl
    refine lv_iload_n C.1 C.2.1 dX0_metBy_2 rfl (lv_at hl 3 rfl) ?_
    refine fr_ic C dX0_metBy_3 ?_
    obtain ⟨hc_43, hw⟩ := hw
    refine fr_ge (tgt := 110) C dX0_metBy_4 (by decide) ⟨hc_43, ⟨by decide, by decide⟩⟩ (fun q_3 => ?_) (fun q_3 => ?_)
    · have hw := if_p hw q_3
      exact hX2 v3_1 x_2 _ _ _ hw G (lv_sub hl [0, 1, 2, 3] rfl)
    · have hw := if_n hw q_3
      refine fr_ic C dX0_metBy_7 ?_
      refine lv_istore (lv' := [(4, .int (iI 1)), (0, .ref (ad 8)), (1, .ref (ad c1)), (2, .ref (ad 2)), (3, .int (iI v3_1))]) C.1 C.2.1 dX0_metBy_8 hl (by decide) rfl (fun ls hl => ?_)
      obtain ⟨n10, hw⟩ := hw
      have hS10 : ∀ (kx_10 bk_10 : Int → Mm → Prop), (∀ (v4_4 : Int) (x_5 : Mm) (H : Heap) (locs : List Loc) (ls : Array Slot), kx_10 v4_4 x_5 → fG D cy L ad (fAr L ad s.heap.size) s x_5 H locs → lv_has ls 7 [(0, .ref (ad 8)), (1, .ref (ad c1)), (2, .ref (ad 2)), (3, .int (iI v3_1)), (4, .int (iI v4_4))] → W p l e (headSpec wsX0_metBy rm_X0_metBy).room s m args below meth c H locs 0 0 (fQi below D cy L ad s args post) (F0 m 104 ls [])) → (∀ (v4_4 : Int) (x_5 : Mm) (H : Heap) (locs : List Loc) (ls : Array Slot), bk_10 v4_4 x_5 → fG D cy L ad (fAr L ad s.heap.size) s x_5 H locs → lv_has ls 7 [(0, .ref (ad 8)), (1, .ref (ad c1)), (2, .ref (ad 2)), (3, .int (iI v3_1)), (4, .int (iI v4_4))] → W p l e (headSpec wsX0_metBy rm_X0_metBy).room s m args below meth c H locs 0 0 (fQi below D cy L ad s args post) (F0 m 10 ls [])) → ∀ (v4_4 : Int) (x_5 : Mm) (H : Heap) (locs : List Loc) (ls : Array Slot), wB_X0_metBy_10 c1 post v3_1 kx_10 bk_10 v4_4 x_5 → fG D cy L ad (fAr L ad s.heap.size) s x_5 H locs → lv_has ls 7 [(0, .ref (ad 8)), (1, .ref (ad c1)), (2, .ref (ad 2)), (3, .int (iI v3_1)), (4, .int (iI v4_4))] → W p l e (headSpec wsX0_metBy rm_X0_metBy).room s m args below meth c H locs 0 0 (fQi below D cy L ad s args post) (F0 m 10 ls []) := by
        intro kx_10 bk_10 hX10 ih10 v4_4 x_5 H locs ls hw G hl
        refine lv_aload_n C.1 C.2.1 dX0_metBy_10 rfl (lv_at hl 0 rfl) ?_
        refine fr_get C G 8 (hL _ (by omega)) (cl_8 _) rfl iw_X0_metBy_X0 0 (by decide) fl_X0_metBy_9 rfl dX0_metBy_11 ?_
        refine lv_iload_n C.1 C.2.1 dX0_metBy_14 rfl (lv_at hl 3 rfl) ?_
        obtain ⟨hb_7, hw⟩ := hw
        refine fr_zald C G 9 (hL _ (by omega)) (cl_9 _) hb_7 dX0_metBy_15 ?_
        obtain ⟨hc_42, hw⟩ := hw
        refine fr_eq0 (tgt := 104) C dX0_metBy_16 (by decide) hc_42 (fun q_8 => ?_) (fun q_8 => ?_)
        · have hw := if_p hw q_8
          exact hX10 v4_4 x_5 _ _ _ hw G (lv_sub hl [0, 1, 2, 3, 4] rfl)
        · have hw := if_n hw q_8
          refine lv_iload C.1 C.2.1 dX0_metBy_19 (lv_at hl 4 rfl) ?_
          refine fr_bi C dX0_metBy_21 rfl ?_
          obtain ⟨hc_41, hw⟩ := hw
          refine fr_gt (tgt := 104) C dX0_metBy_23 (by decide) ⟨hc_41, ⟨by decide, by decide⟩⟩ (fun q_9 => ?_) (fun q_9 => ?_)
          · have hw := if_p hw q_9
            exact hX10 v4_4 x_5 _ _ _ hw G (lv_sub hl [0, 1, 2, 3, 4] rfl)
          · have hw := if_n hw q_9
            refine lv_aload_n C.1 C.2.1 dX0_metBy_26 rfl (lv_at hl 2 rfl) ?_
            refine fr_get C G 2 (hL _ (by omega)) (cl_2 _) rfl iw_X0_metBy_X2 5 (by decide) fl_X0_metBy_26 rfl dX0_metBy_27 ?_
            refine lv_iload C.1 C.2.1 dX0_metBy_30 (lv_at hl 4 rfl) ?_
            obtain ⟨hb_10, hw⟩ := hw
            refine fr_iald C G 6 10 (hL _ (by omega)) rfl ⟨by decide, by decide⟩ hb_10 dX0_metBy_32 ?_
            refine fr_nm (fun v5_11 ev5_11 => ?_)
            have hw := hw v5_11 ev5_11
            refine lv_istore (lv' := [(5, .int (iI v5_11)), (0, .ref (ad 8)), (1, .ref (ad c1)), (2, .ref (ad 2)), (3, .int (iI v3_1)), (4, .int (iI v4_4))]) C.1 C.2.1 dX0_metBy_33 hl (by decide) rfl (fun ls hl => ?_)
            refine lv_iload C.1 C.2.1 dX0_metBy_35 (lv_at hl 0 rfl) ?_
            obtain ⟨hc_40, hw⟩ := hw
            refine fr_le0 (tgt := 61) C dX0_metBy_37 (by decide) hc_40 (fun q_12 => ?_) (fun q_12 => ?_)
            · have hw := if_p hw q_12
              refine lv_aload_n C.1 C.2.1 dX0_metBy_61 rfl (lv_at hl 3 rfl) ?_
              refine fr_get C G 2 (hL _ (by omega)) (cl_2 _) rfl iw_X0_metBy_X2 6 (by decide) fl_X0_metBy_37 rfl dX0_metBy_62 ?_
              refine lv_iload C.1 C.2.1 dX0_metBy_65 (lv_at hl 5 rfl) ?_
              obtain ⟨hb_13, hw⟩ := hw
              refine fr_iald C G 7 10 (hL _ (by omega)) rfl ⟨by decide, by decide⟩ hb_13 dX0_metBy_67 ?_
              refine fr_nm (fun v6_14 ev6_14 => ?_)
              have hw := hw v6_14 ev6_14
              refine lv_istore (lv' := [(6, .int (iI v6_14)), (5, .int (iI v5_11)), (0, .ref (ad 8)), (1, .ref (ad c1)), (2, .ref (ad 2)), (3, .int (iI v3_1)), (4, .int (iI v4_4))]) C.1 C.2.1 dX0_metBy_68 hl (by decide) rfl (fun ls hl => ?_)
              refine lv_iload C.1 C.2.1 dX0_metBy_70 (lv_at hl 0 rfl) ?_
              obtain ⟨hc_23, hw⟩ := hw
              refine fr_le0 (tgt := 98) C dX0_metBy_72 (by decide) hc_23 (fun q_15 => ?_) (fun q_15 => ?_)
              · have hw := if_p hw q_15
                obtain ⟨v4_16, ev4_16⟩ : ∃ z : Int, z = v4_4 + 1 := ⟨_, rfl⟩
                have hw := hw v4_16 ev4_16
                refine lv_iinc (v := iI v4_16) (lv' := [(4, .int (iI v4_16)), (6, .int (iI v6_14)), (5, .int (iI v5_11)), (0, .ref (ad 8)), (1, .ref (ad c1)), (2, .ref (ad 2)), (3, .int (iI v3_1))]) C.1 C.2.1 dX0_metBy_98 hl (k := 6) rfl (by rw [ev4_16]; exact iI_add _ _) (by decide) rfl (fun ls hl => ?_)
                refine lv_goto (tgt := 10) C.1 C.2.1 dX0_metBy_101 (by decide) ?_
                exact ih10 v4_16 x_5 _ _ _ hw G (lv_sub hl [3, 4, 5, 6, 0] rfl)
              · have hw := if_n hw q_15
                refine lv_aload_n C.1 C.2.1 dX0_metBy_75 rfl (lv_at hl 3 rfl) ?_
                refine lv_iload C.1 C.2.1 dX0_metBy_76 (lv_at hl 6 rfl) ?_
                refine lv_aload_n C.1 C.2.1 dX0_metBy_78 rfl (lv_at hl 2 rfl) ?_
                refine fr_get C G 8 (hL _ (by omega)) (cl_8 _) rfl iw_X0_metBy_X0 2 (by decide) fl_X0_metBy_19 rfl dX0_metBy_79 ?_
                refine lv_iload_n C.1 C.2.1 dX0_metBy_82 rfl (lv_at hl 5 rfl) ?_
                obtain ⟨hb_17, hw⟩ := hw
                refine fr_iald C G 11 4 (hL _ (by omega)) rfl ⟨by decide, by decide⟩ hb_17 dX0_metBy_83 ?_
                refine fr_ic C dX0_metBy_84 ?_
                refine fr_iadd C dX0_metBy_85 ?_
                refine lv_iload C.1 C.2.1 dX0_metBy_86 (lv_at hl 0 rfl) ?_
                refine fr_imul C dX0_metBy_88 ?_
                refine fr_Si C G (c_X5_valuesBelow l D cy L ad _ c1 hc1 hlc1 v4_4 (((x_5 11 (v3_1).toNat) + 1) * v6_14) x_5 _ hw) (va_cwS 3 C.2.2.2.2 gX0_metBy_X5_valuesBelow rfl rfl rfl (by decide +kernel) ⟨Nat.le_of_ble_eq_true rfl, Nat.le_of_ble_eq_true rfl⟩) rfl hl.1 rfl (Nat.le_of_ble_eq_true rfl) dX0_metBy_89 ⟨Nat.zero_le _, Nat.zero_le _⟩ (fun z_19 x_18 H locs hw G => ?_)
                refine lv_iload_n C.1 C.2.1 dX0_metBy_92 rfl (lv_at hl 5 rfl) ?_
                obtain ⟨hc_22, hw⟩ := hw
                refine fr_gt (tgt := 98) C dX0_metBy_93 (by decide) hc_22 (fun q_20 => ?_) (fun q_20 => ?_)
                · have hw := if_p hw q_20
                  obtain ⟨v4_21, ev4_21⟩ : ∃ z : Int, z = v4_4 + 1 := ⟨_, rfl⟩
                  have hw := hw v4_21 ev4_21
                  refine lv_iinc (v := iI v4_21) (lv' := [(4, .int (iI v4_21)), (6, .int (iI v6_14)), (5, .int (iI v5_11)), (0, .ref (ad 8)), (1, .ref (ad c1)), (2, .ref (ad 2)), (3, .int (iI v3_1))]) C.1 C.2.1 dX0_metBy_98 hl (k := 6) rfl (by rw [ev4_21]; exact iI_add _ _) (by decide) rfl (fun ls hl => ?_)
                  refine lv_goto (tgt := 10) C.1 C.2.1 dX0_metBy_101 (by decide) ?_
                  exact ih10 v4_21 x_18 _ _ _ hw G (lv_sub hl [3, 4, 5, 6, 0] rfl)
                · have hw := if_n hw q_20
                  refine fr_ic C dX0_metBy_96 ?_
                  exact fr_zret C G hr hlk (by decide) hw dX0_metBy_97
            · have hw := if_n hw q_12
              refine lv_aload_n C.1 C.2.1 dX0_metBy_40 rfl (lv_at hl 2 rfl) ?_
              refine lv_iload C.1 C.2.1 dX0_metBy_41 (lv_at hl 5 rfl) ?_
              refine lv_aload_n C.1 C.2.1 dX0_metBy_43 rfl (lv_at hl 1 rfl) ?_
              refine fr_get C G 8 (hL _ (by omega)) (cl_8 _) rfl iw_X0_metBy_X0 1 (by decide) fl_X0_metBy_15 rfl dX0_metBy_44 ?_
              refine lv_iload_n C.1 C.2.1 dX0_metBy_47 rfl (lv_at hl 4 rfl) ?_
              obtain ⟨hb_24, hw⟩ := hw
              refine fr_iald C G 10 4 (hL _ (by omega)) rfl ⟨by decide, by decide⟩ hb_24 dX0_metBy_48 ?_
              refine lv_iload C.1 C.2.1 dX0_metBy_49 (lv_at hl 0 rfl) ?_
              refine fr_imul C dX0_metBy_51 ?_
              refine fr_Si C G (c_X5_valuesBelow l D cy L ad _ c1 hc1 hlc1 v4_4 ((x_5 10 (v3_1).toNat) * v5_11) x_5 _ hw) (va_cwS 3 C.2.2.2.2 gX0_metBy_X5_valuesBelow rfl rfl rfl (by decide +kernel) ⟨Nat.le_of_ble_eq_true rfl, Nat.le_of_ble_eq_true rfl⟩) rfl hl.1 rfl (Nat.le_of_ble_eq_true rfl) dX0_metBy_52 ⟨Nat.zero_le _, Nat.zero_le _⟩ (fun z_26 x_25 H locs hw G => ?_)
              refine lv_iload_n C.1 C.2.1 dX0_metBy_55 rfl (lv_at hl 4 rfl) ?_
              obtain ⟨hc_39, hw⟩ := hw
              refine fr_le (tgt := 61) C dX0_metBy_56 (by decide) hc_39 (fun q_27 => ?_) (fun q_27 => ?_)
              · have hw := if_p hw q_27
                refine lv_aload_n C.1 C.2.1 dX0_metBy_61 rfl (lv_at hl 3 rfl) ?_
                refine fr_get C G 2 (hL _ (by omega)) (cl_2 _) rfl iw_X0_metBy_X2 6 (by decide) fl_X0_metBy_37 rfl dX0_metBy_62 ?_
                refine lv_iload C.1 C.2.1 dX0_metBy_65 (lv_at hl 5 rfl) ?_
                obtain ⟨hb_28, hw⟩ := hw
                refine fr_iald C G 7 10 (hL _ (by omega)) rfl ⟨by decide, by decide⟩ hb_28 dX0_metBy_67 ?_
                refine fr_nm (fun v6_29 ev6_29 => ?_)
                have hw := hw v6_29 ev6_29
                refine lv_istore (lv' := [(6, .int (iI v6_29)), (5, .int (iI v5_11)), (0, .ref (ad 8)), (1, .ref (ad c1)), (2, .ref (ad 2)), (3, .int (iI v3_1)), (4, .int (iI v4_4))]) C.1 C.2.1 dX0_metBy_68 hl (by decide) rfl (fun ls hl => ?_)
                refine lv_iload C.1 C.2.1 dX0_metBy_70 (lv_at hl 0 rfl) ?_
                obtain ⟨hc_38, hw⟩ := hw
                refine fr_le0 (tgt := 98) C dX0_metBy_72 (by decide) hc_38 (fun q_30 => ?_) (fun q_30 => ?_)
                · have hw := if_p hw q_30
                  obtain ⟨v4_31, ev4_31⟩ : ∃ z : Int, z = v4_4 + 1 := ⟨_, rfl⟩
                  have hw := hw v4_31 ev4_31
                  refine lv_iinc (v := iI v4_31) (lv' := [(4, .int (iI v4_31)), (6, .int (iI v6_29)), (5, .int (iI v5_11)), (0, .ref (ad 8)), (1, .ref (ad c1)), (2, .ref (ad 2)), (3, .int (iI v3_1))]) C.1 C.2.1 dX0_metBy_98 hl (k := 6) rfl (by rw [ev4_31]; exact iI_add _ _) (by decide) rfl (fun ls hl => ?_)
                  refine lv_goto (tgt := 10) C.1 C.2.1 dX0_metBy_101 (by decide) ?_
                  exact ih10 v4_31 x_25 _ _ _ hw G (lv_sub hl [3, 4, 5, 6, 0] rfl)
                · have hw := if_n hw q_30
                  refine lv_aload_n C.1 C.2.1 dX0_metBy_75 rfl (lv_at hl 3 rfl) ?_
                  refine lv_iload C.1 C.2.1 dX0_metBy_76 (lv_at hl 6 rfl) ?_
                  refine lv_aload_n C.1 C.2.1 dX0_metBy_78 rfl (lv_at hl 2 rfl) ?_
                  refine fr_get C G 8 (hL _ (by omega)) (cl_8 _) rfl iw_X0_metBy_X0 2 (by decide) fl_X0_metBy_19 rfl dX0_metBy_79 ?_
                  refine lv_iload_n C.1 C.2.1 dX0_metBy_82 rfl (lv_at hl 5 rfl) ?_
                  obtain ⟨hb_32, hw⟩ := hw
                  refine fr_iald C G 11 4 (hL _ (by omega)) rfl ⟨by decide, by decide⟩ hb_32 dX0_metBy_83 ?_
                  refine fr_ic C dX0_metBy_84 ?_
                  refine fr_iadd C dX0_metBy_85 ?_
                  refine lv_iload C.1 C.2.1 dX0_metBy_86 (lv_at hl 0 rfl) ?_
                  refine fr_imul C dX0_metBy_88 ?_
                  refine fr_Si C G (c_X5_valuesBelow l D cy L ad _ c1 hc1 hlc1 v4_4 (((x_25 11 (v3_1).toNat) + 1) * v6_29) x_25 _ hw) (va_cwS 3 C.2.2.2.2 gX0_metBy_X5_valuesBelow rfl rfl rfl (by decide +kernel) ⟨Nat.le_of_ble_eq_true rfl, Nat.le_of_ble_eq_true rfl⟩) rfl hl.1 rfl (Nat.le_of_ble_eq_true rfl) dX0_metBy_89 ⟨Nat.zero_le _, Nat.zero_le _⟩ (fun z_34 x_33 H locs hw G => ?_)
                  refine lv_iload_n C.1 C.2.1 dX0_metBy_92 rfl (lv_at hl 5 rfl) ?_
                  obtain ⟨hc_37, hw⟩ := hw
                  refine fr_gt (tgt := 98) C dX0_metBy_93 (by decide) hc_37 (fun q_35 => ?_) (fun q_35 => ?_)
                  · have hw := if_p hw q_35
                    obtain ⟨v4_36, ev4_36⟩ : ∃ z : Int, z = v4_4 + 1 := ⟨_, rfl⟩
                    have hw := hw v4_36 ev4_36
                    refine lv_iinc (v := iI v4_36) (lv' := [(4, .int (iI v4_36)), (6, .int (iI v6_29)), (5, .int (iI v5_11)), (0, .ref (ad 8)), (1, .ref (ad c1)), (2, .ref (ad 2)), (3, .int (iI v3_1))]) C.1 C.2.1 dX0_metBy_98 hl (k := 6) rfl (by rw [ev4_36]; exact iI_add _ _) (by decide) rfl (fun ls hl => ?_)
                    refine lv_goto (tgt := 10) C.1 C.2.1 dX0_metBy_101 (by decide) ?_
                    exact ih10 v4_36 x_33 _ _ _ hw G (lv_sub hl [3, 4, 5, 6, 0] rfl)
                  · have hw := if_n hw q_35
                    refine fr_ic C dX0_metBy_96 ?_
                    exact fr_zret C G hr hlk (by decide) hw dX0_metBy_97
              · have hw := if_n hw q_27
                refine fr_ic C dX0_metBy_59 ?_
                exact fr_zret C G hr hlk (by decide) hw dX0_metBy_60
      have hX10 : ∀ (v4_4 : Int) (x_5 : Mm) (H : Heap) (locs : List Loc) (ls : Array Slot), wX_X0_metBy_10 v3_1 bk_2 v4_4 x_5 → fG D cy L ad (fAr L ad s.heap.size) s x_5 H locs → lv_has ls 7 [(0, .ref (ad 8)), (1, .ref (ad c1)), (2, .ref (ad 2)), (3, .int (iI v3_1)), (4, .int (iI v4_4))] → W p l e (headSpec wsX0_metBy rm_X0_metBy).room s m args below meth c H locs 0 0 (fQi below D cy L ad s args post) (F0 m 104 ls []) := by
        intro v4_4 x_5 H locs ls hw G hl
        obtain ⟨v3_6, ev3_6⟩ : ∃ z : Int, z = v3_1 + 1 := ⟨_, rfl⟩
        have hw := hw v3_6 ev3_6
        refine lv_iinc (v := iI v3_6) (lv' := [(3, .int (iI v3_6)), (0, .ref (ad 8)), (1, .ref (ad c1)), (2, .ref (ad 2)), (4, .int (iI v4_4))]) C.1 C.2.1 dX0_metBy_104 hl (k := 3) rfl (by rw [ev3_6]; exact iI_add _ _) (by decide) rfl (fun ls hl => ?_)
        refine lv_goto (tgt := 2) C.1 C.2.1 dX0_metBy_107 (by decide) ?_
        exact ih2 v3_6 x_5 _ _ _ hw G (lv_sub hl [1, 2, 3, 0] rfl)
      have hB10 : ∀ (n : Nat) (v4_4 : Int) (x_5 : Mm) (H : Heap) (locs : List Loc) (ls : Array Slot), lk2 (wB_X0_metBy_10 c1 post v3_1 (wX_X0_metBy_10 v3_1 bk_2)) n v4_4 x_5 → fG D cy L ad (fAr L ad s.heap.size) s x_5 H locs → lv_has ls 7 [(0, .ref (ad 8)), (1, .ref (ad c1)), (2, .ref (ad 2)), (3, .int (iI v3_1)), (4, .int (iI v4_4))] → W p l e (headSpec wsX0_metBy rm_X0_metBy).room s m args below meth c H locs 0 0 (fQi below D cy L ad s args post) (F0 m 10 ls []) := by
        intro n
        induction n with
        | zero =>
          intro v4_4 x_5 H locs ls hw
          exact hw.elim
        | succ n ih =>
          intro v4_4 x_5 H locs ls hw G hl
          exact hS10 _ _ hX10 ih v4_4 x_5 H locs ls hw G hl
      exact hB10 n10 1 x_2 _ _ _ hw G (lv_sub hl [1, 2, 3, 4, 0] rfl)
  have hX2 : ∀ (v3_1 : Int) (x_2 : Mm) (H : Heap) (locs : List Loc) (ls : Array Slot), wX_X0_metBy_2 post v3_1 x_2 → fG D cy L ad (fAr L ad s.heap.size) s x_2 H locs → lv_has ls 7 [(0, .ref (ad 8)), (1, .ref (ad c1)), (2, .ref (ad 2)), (3, .int (iI v3_1))] → W p l e (headSpec wsX0_metBy rm_X0_metBy).room s m args below meth c H locs 0 0 (fQi below D cy L ad s args post) (F0 m 110 ls []) := by
    intro v3_1 x_2 H locs ls hw G hl
    refine fr_ic C dX0_metBy_110 ?_
    exact fr_zret C G hr hlk (by decide) hw dX0_metBy_111
  have hB2 : ∀ (n : Nat) (v3_1 : Int) (x_2 : Mm) (H : Heap) (locs : List Loc) (ls : Array Slot), lk2 (wB_X0_metBy_2 c1 post (wX_X0_metBy_2 post)) n v3_1 x_2 → fG D cy L ad (fAr L ad s.heap.size) s x_2 H locs → lv_has ls 7 [(0, .ref (ad 8)), (1, .ref (ad c1)), (2, .ref (ad 2)), (3, .int (iI v3_1))] → W p l e (headSpec wsX0_metBy rm_X0_metBy).room s m args below meth c H locs 0 0 (fQi below D cy L ad s args post) (F0 m 2 ls []) := by
    intro n
    induction n with
    | zero =>
      intro v3_1 x_2 H locs ls hw
      exact hw.elim
    | succ n ih =>
      intro v3_1 x_2 H locs ls hw G hl
      exact hS2 _ _ hX2 ih v3_1 x_2 H locs ls hw G hl
  exact hB2 n2 0 x _ _ _ hw G (lv_sub hl [1, 2, 3, 0] rfl)
def wX_J7_fill_53178_5 (post : Mm → Prop) (v2_1 : Int) (x_2 : Mm) : Prop :=
  post x_2
def wB_J7_fill_53178_5 (c1 : Nat) (a1 : Int) (kx_5 bk_5 : Int → Mm → Prop) (v2_1 : Int) (x_2 : Mm) : Prop :=
  rg v2_1 ∧ (if 512 ≤ v2_1 then (kx_5 v2_1 x_2) else ((0 ≤ v2_1 ∧ v2_1 < 512) ∧ (∀ x_5 : Mm, x_5 = up2 x_2 c1 (v2_1).toNat a1 → ∀ v2_6 : Int, v2_6 = v2_1 + 1 → bk_5 v2_6 x_5)))
def w_J7_fill_53178 (c1 : Nat) (a1 : Int) (x : Mm) (post : Mm → Prop) : Prop :=
  ∃ n : Nat, lk2 (wB_J7_fill_53178_5 c1 a1 (wX_J7_fill_53178_5 post)) n 0 x
abbrev rm_J7_fill_53178 : Room := { frames := 0, cells := 0, slots := 0, locals := 0 }
set_option maxHeartbeats 4000000 in
set_option maxRecDepth 100000 in
theorem c_J7_fill_53178 (l : Launch) (D : va_G) (cy : Nat → ClassId) (L : List Nat) (ad : Nat → Nat) (sz : Nat) (c1 : Nat) (hc1 : c1 ∈ L) (hlc1 : al c1 = 512) (a1 : Int) (x : Mm) (post : Mm → Prop) (hw : w_J7_fill_53178 c1 a1 x post) : fMv l yJ7_fill_53178 wsJ7_fill_53178 rm_J7_fill_53178 [.ref (ad c1), .int (iI a1)] D cy L ad sz x post := by
  refine Met.ofW (cc := cJ7_fill_53178) (maxL := 4) (ret := none) (by decide) rfl ?_
  intro p e s m args below meth c s₁ B hml hv
  obtain ⟨hargs, hp⟩ := hv
  obtain ⟨C, hr, hlk, hsz, G⟩ := fr_start B hml hp
  subst hsz
  obtain ⟨ls, els, hl⟩ := fr_entry (m := m) (n := 4) hargs (Nat.le_of_ble_eq_true rfl)
  rw [els]
  have hl : lv_has ls 4 [(0, .ref (ad c1)), (1, .int (iI a1))] := hl
  clear els hargs hp B
  refine fr_ic C dJ7_fill_53178_0 ?_
  refine lv_istore_n (lv' := [(2, .int (iI 0)), (0, .ref (ad c1)), (1, .int (iI a1))]) C.1 C.2.1 dJ7_fill_53178_1 rfl hl (by decide) rfl (fun ls hl => ?_)
  refine lv_aload_n C.1 C.2.1 dJ7_fill_53178_2 rfl (lv_at hl 1 rfl) ?_
  refine fr_alen C G c1 512 hc1 hlc1 (by decide) dJ7_fill_53178_3 ?_
  refine lv_istore_n (lv' := [(3, .int (iI 512)), (2, .int (iI 0)), (0, .ref (ad c1)), (1, .int (iI a1))]) C.1 C.2.1 dJ7_fill_53178_4 rfl hl (by decide) rfl (fun ls hl => ?_)
  obtain ⟨n5, hw⟩ := hw
  have hS5 : ∀ (kx_5 bk_5 : Int → Mm → Prop), (∀ (v2_1 : Int) (x_2 : Mm) (H : Heap) (locs : List Loc) (ls : Array Slot), kx_5 v2_1 x_2 → fG D cy L ad (fAr L ad s.heap.size) s x_2 H locs → lv_has ls 4 [(0, .ref (ad c1)), (1, .int (iI a1)), (2, .int (iI v2_1)), (3, .int (iI 512))] → W p l e (headSpec wsJ7_fill_53178 rm_J7_fill_53178).room s m args below meth c H locs 0 0 (fQv below D cy L ad s args post) (F0 m 20 ls [])) → (∀ (v2_1 : Int) (x_2 : Mm) (H : Heap) (locs : List Loc) (ls : Array Slot), bk_5 v2_1 x_2 → fG D cy L ad (fAr L ad s.heap.size) s x_2 H locs → lv_has ls 4 [(0, .ref (ad c1)), (1, .int (iI a1)), (2, .int (iI v2_1)), (3, .int (iI 512))] → W p l e (headSpec wsJ7_fill_53178 rm_J7_fill_53178).room s m args below meth c H locs 0 0 (fQv below D cy L ad s args post) (F0 m 5 ls [])) → ∀ (v2_1 : Int) (x_2 : Mm) (H : Heap) (locs : List Loc) (ls : Array Slot), wB_J7_fill_53178_5 c1 a1 kx_5 bk_5 v2_1 x_2 → fG D cy L ad (fAr L ad s.heap.size) s x_2 H locs → lv_has ls 4 [(0, .ref (ad c1)), (1, .int (iI a1)), (2, .int (iI v2_1)), (3, .int (iI 512))] → W p l e (headSpec wsJ7_fill_53178 rm_J7_fill_53178).room s m args below meth c H locs 0 0 (fQv below D cy L ad s args post) (F0 m 5 ls []) := by
    intro kx_5 bk_5 hX5 ih5 v2_1 x_2 H locs ls hw G hl
    refine lv_iload_n C.1 C.2.1 dJ7_fill_53178_5 rfl (lv_at hl 2 rfl) ?_
    refine lv_iload_n C.1 C.2.1 dJ7_fill_53178_6 rfl (lv_at hl 3 rfl) ?_
    obtain ⟨hc_7, hw⟩ := hw
    refine fr_ge (tgt := 20) C dJ7_fill_53178_7 (by decide) ⟨hc_7, ⟨by decide, by decide⟩⟩ (fun q_3 => ?_) (fun q_3 => ?_)
    · have hw := if_p hw q_3
      exact hX5 v2_1 x_2 _ _ _ hw G (lv_sub hl [0, 1, 2, 3] rfl)
    · have hw := if_n hw q_3
      refine lv_aload_n C.1 C.2.1 dJ7_fill_53178_10 rfl (lv_at hl 0 rfl) ?_
      refine lv_iload_n C.1 C.2.1 dJ7_fill_53178_11 rfl (lv_at hl 2 rfl) ?_
      refine lv_iload_n C.1 C.2.1 dJ7_fill_53178_12 rfl (lv_at hl 1 rfl) ?_
      obtain ⟨hb_4, hw⟩ := hw
      refine fr_iast C G c1 512 hc1 hlc1 ⟨by decide, by decide⟩ hb_4 dJ7_fill_53178_13 (fun x_5 H locs ex_5 G => ?_)
      have hw := hw x_5 ex_5
      obtain ⟨v2_6, ev2_6⟩ : ∃ z : Int, z = v2_1 + 1 := ⟨_, rfl⟩
      have hw := hw v2_6 ev2_6
      refine lv_iinc (v := iI v2_6) (lv' := [(2, .int (iI v2_6)), (0, .ref (ad c1)), (1, .int (iI a1)), (3, .int (iI 512))]) C.1 C.2.1 dJ7_fill_53178_14 hl (k := 2) rfl (by rw [ev2_6]; exact iI_add _ _) (by decide) rfl (fun ls hl => ?_)
      refine lv_goto (tgt := 5) C.1 C.2.1 dJ7_fill_53178_17 (by decide) ?_
      exact ih5 v2_6 x_5 _ _ _ hw G (lv_sub hl [1, 2, 0, 3] rfl)
  have hX5 : ∀ (v2_1 : Int) (x_2 : Mm) (H : Heap) (locs : List Loc) (ls : Array Slot), wX_J7_fill_53178_5 post v2_1 x_2 → fG D cy L ad (fAr L ad s.heap.size) s x_2 H locs → lv_has ls 4 [(0, .ref (ad c1)), (1, .int (iI a1)), (2, .int (iI v2_1)), (3, .int (iI 512))] → W p l e (headSpec wsJ7_fill_53178 rm_J7_fill_53178).room s m args below meth c H locs 0 0 (fQv below D cy L ad s args post) (F0 m 20 ls []) := by
    intro v2_1 x_2 H locs ls hw G hl
    exact fr_vret C G hr hlk hw dJ7_fill_53178_20
  have hB5 : ∀ (n : Nat) (v2_1 : Int) (x_2 : Mm) (H : Heap) (locs : List Loc) (ls : Array Slot), lk2 (wB_J7_fill_53178_5 c1 a1 (wX_J7_fill_53178_5 post)) n v2_1 x_2 → fG D cy L ad (fAr L ad s.heap.size) s x_2 H locs → lv_has ls 4 [(0, .ref (ad c1)), (1, .int (iI a1)), (2, .int (iI v2_1)), (3, .int (iI 512))] → W p l e (headSpec wsJ7_fill_53178 rm_J7_fill_53178).room s m args below meth c H locs 0 0 (fQv below D cy L ad s args post) (F0 m 5 ls []) := by
    intro n
    induction n with
    | zero =>
      intro v2_1 x_2 H locs ls hw
      exact hw.elim
    | succ n ih =>
      intro v2_1 x_2 H locs ls hw G hl
      exact hS5 _ _ hX5 ih v2_1 x_2 H locs ls hw G hl
  exact hB5 n5 0 x _ _ _ hw G (lv_sub hl [2, 3, 1, 0] rfl)
def w_X5_byWeight (a1 a2 : Int) (x : Mm) (post : Int → Mm → Prop) : Prop :=
  rg a2 ∧ (if a2 ≤ 0 then (post a1 x) else ((rg a1 ∧ rg a2 ∧ 0 ≤ a1 ∧ 0 < a2) ∧ post (a1 / a2) x))
abbrev rm_X5_byWeight : Room := { frames := 0, cells := 0, slots := 0, locals := 0 }
set_option maxHeartbeats 4000000 in
set_option maxRecDepth 100000 in
theorem c_X5_byWeight (l : Launch) (D : va_G) (cy : Nat → ClassId) (L : List Nat) (ad : Nat → Nat) (sz : Nat) (a1 a2 : Int) (x : Mm) (post : Int → Mm → Prop) (hw : w_X5_byWeight a1 a2 x post) : fMi l yX5_byWeight wsX5_byWeight rm_X5_byWeight [.int (iI a1), .int (iI a2)] D cy L ad sz x post := by
  refine Met.ofW (cc := cX5_byWeight) (maxL := 2) (ret := (some .int)) (by decide) rfl ?_
  intro p e s m args below meth c s₁ B hml hv
  obtain ⟨hargs, hp⟩ := hv
  obtain ⟨C, hr, hlk, hsz, G⟩ := fr_start B hml hp
  subst hsz
  obtain ⟨ls, els, hl⟩ := fr_entry (m := m) (n := 2) hargs (Nat.le_of_ble_eq_true rfl)
  rw [els]
  have hl : lv_has ls 2 [(0, .int (iI a1)), (1, .int (iI a2))] := hl
  clear els hargs hp B
  refine lv_iload_n C.1 C.2.1 dX5_byWeight_0 rfl (lv_at hl 1 rfl) ?_
  obtain ⟨hc_3, hw⟩ := hw
  refine fr_le0 (tgt := 10) C dX5_byWeight_1 (by decide) hc_3 (fun q_1 => ?_) (fun q_1 => ?_)
  · have hw := if_p hw q_1
    refine lv_iload_n C.1 C.2.1 dX5_byWeight_10 rfl (lv_at hl 0 rfl) ?_
    exact fr_iret C G hr hlk hw dX5_byWeight_11
  · have hw := if_n hw q_1
    refine lv_iload_n C.1 C.2.1 dX5_byWeight_4 rfl (lv_at hl 0 rfl) ?_
    refine lv_iload_n C.1 C.2.1 dX5_byWeight_5 rfl (lv_at hl 1 rfl) ?_
    obtain ⟨hd_2, hw⟩ := hw
    refine fr_idiv C dX5_byWeight_6 hd_2 ?_
    refine lv_goto (tgt := 11) C.1 C.2.1 dX5_byWeight_7 (by decide) ?_
    exact fr_iret C G hr hlk hw dX5_byWeight_11
def w_X2_toneOfLeft (c1 : Nat) (a1 : Int) (x : Mm) (post : Int → Mm → Prop) : Prop :=
  (0 ≤ a1 ∧ a1 < 81) ∧ (0 ≤ x 4 (a1).toNat ∧ x 4 (a1).toNat < 10) ∧ (0 ≤ a1 ∧ a1 < 81) ∧ w_X5_byWeight (x c1 (x 4 (a1).toNat).toNat) (x 5 (a1).toNat) x (fun z_5 x_4 => post z_5 x_4)
abbrev rm_X2_toneOfLeft : Room := { frames := 1, cells := 0, slots := 0, locals := 21 }
theorem iw_X2_toneOfLeft_X2 : ∀ w ∈ u_ws RX2 TX2 7, w ∈ wsX2_toneOfLeft := by decide +kernel
theorem fl_X2_toneOfLeft_21 : Cond.fieldLink RX2 21 (TX2 2).1 (TX2 2).2.1 (TX2 2).2.2.1 ∈ wsX2_toneOfLeft := by decide +kernel
theorem fl_X2_toneOfLeft_25 : Cond.fieldLink RX2 25 (TX2 3).1 (TX2 3).2.1 (TX2 3).2.2.1 ∈ wsX2_toneOfLeft := by decide +kernel
set_option maxHeartbeats 4000000 in
set_option maxRecDepth 100000 in
theorem c_X2_toneOfLeft (l : Launch) (D : va_G) (cy : Nat → ClassId) (L : List Nat) (ad : Nat → Nat) (sz : Nat) (hL : fLH L) (c1 : Nat) (hc1 : c1 ∈ L) (hlc1 : al c1 = 10) (a1 : Int) (x : Mm) (post : Int → Mm → Prop) (hw : w_X2_toneOfLeft c1 a1 x post) : fMi l yX2_toneOfLeft wsX2_toneOfLeft rm_X2_toneOfLeft [.ref (ad 2), .int (iI a1), .ref (ad c1)] D cy L ad sz x post := by
  refine Met.ofW (cc := cX2_toneOfLeft) (maxL := 3) (ret := (some .int)) (by decide) rfl ?_
  intro p e s m args below meth c s₁ B hml hv
  obtain ⟨hargs, hp⟩ := hv
  obtain ⟨C, hr, hlk, hsz, G⟩ := fr_start B hml hp
  subst hsz
  obtain ⟨ls, els, hl⟩ := fr_entry (m := m) (n := 3) hargs (Nat.le_of_ble_eq_true rfl)
  rw [els]
  have hl : lv_has ls 3 [(0, .ref (ad 2)), (1, .int (iI a1)), (2, .ref (ad c1))] := hl
  clear els hargs hp B
  refine lv_aload_n C.1 C.2.1 dX2_toneOfLeft_0 rfl (lv_at hl 2 rfl) ?_
  refine lv_aload_n C.1 C.2.1 dX2_toneOfLeft_1 rfl (lv_at hl 0 rfl) ?_
  refine fr_get C G 2 (hL _ (by omega)) (cl_2 _) rfl iw_X2_toneOfLeft_X2 2 (by decide) fl_X2_toneOfLeft_21 rfl dX2_toneOfLeft_2 ?_
  refine lv_iload_n C.1 C.2.1 dX2_toneOfLeft_5 rfl (lv_at hl 1 rfl) ?_
  obtain ⟨hb_1, hw⟩ := hw
  refine fr_iald C G 4 81 (hL _ (by omega)) rfl ⟨by decide, by decide⟩ hb_1 dX2_toneOfLeft_6 ?_
  obtain ⟨hb_2, hw⟩ := hw
  refine fr_iald C G c1 10 hc1 hlc1 ⟨by decide, by decide⟩ hb_2 dX2_toneOfLeft_7 ?_
  refine lv_aload_n C.1 C.2.1 dX2_toneOfLeft_8 rfl (lv_at hl 0 rfl) ?_
  refine fr_get C G 2 (hL _ (by omega)) (cl_2 _) rfl iw_X2_toneOfLeft_X2 3 (by decide) fl_X2_toneOfLeft_25 rfl dX2_toneOfLeft_9 ?_
  refine lv_iload_n C.1 C.2.1 dX2_toneOfLeft_12 rfl (lv_at hl 1 rfl) ?_
  obtain ⟨hb_3, hw⟩ := hw
  refine fr_iald C G 5 81 (hL _ (by omega)) rfl ⟨by decide, by decide⟩ hb_3 dX2_toneOfLeft_13 ?_
  refine fr_Si C G (c_X5_byWeight l D cy L ad _ (x c1 (x 4 (a1).toNat).toNat) (x 5 (a1).toNat) x _ hw) (va_cwS 2 C.2.2.2.2 gX2_toneOfLeft_X5_byWeight rfl rfl rfl (by decide +kernel) ⟨Nat.le_of_ble_eq_true rfl, Nat.le_of_ble_eq_true rfl⟩) rfl hl.1 rfl (Nat.le_of_ble_eq_true rfl) dX2_toneOfLeft_14 ⟨Nat.zero_le _, Nat.zero_le _⟩ (fun z_5 x_4 H locs hw G => ?_)
  exact fr_iret C G hr hlk hw dX2_toneOfLeft_17
def wX_X1_greatest_13 (post : Int → Mm → Prop) (v3_2 : Int) (v4_3 : Int) (x_4 : Mm) : Prop :=
  post v3_2 x_4
def wB_X1_greatest_13 (c1 : Nat) (kx_13 bk_13 : Int → Int → Mm → Prop) (v3_2 : Int) (v4_3 : Int) (x_4 : Mm) : Prop :=
  (rg v4_3 ∧ rg (x_4 2 4)) ∧ (if (x_4 2 4) ≤ v4_3 then (kx_13 v3_2 v4_3 x_4) else (w_X2_toneOfLeft c1 v4_3 x_4 (fun z_7 x_6 => rg z_7 ∧ (if z_7 < 0 then (∀ v4_9 : Int, v4_9 = v4_3 + 1 → bk_13 v3_2 v4_9 x_6) else (rg z_7 ∧ (if 512 ≤ z_7 then (∀ v4_11 : Int, v4_11 = v4_3 + 1 → bk_13 v3_2 v4_11 x_6) else ((0 ≤ z_7 ∧ z_7 < 512) ∧ (0 ≤ z_7 ∧ z_7 < 512) ∧ (∀ x_14 : Mm, x_14 = up2 x_6 17 (z_7).toNat ((x_6 17 (z_7).toNat) + 1) → (0 ≤ z_7 ∧ z_7 < 512) ∧ (rg v3_2 ∧ rg (x_14 17 (z_7).toNat)) ∧ ∀ v3_17 : Int, v3_17 = max v3_2 (x_14 17 (z_7).toNat) → ∀ v4_18 : Int, v4_18 = v4_3 + 1 → bk_13 v3_17 v4_18 x_14))))))))
def w_X1_greatest (c1 : Nat) (x : Mm) (post : Int → Mm → Prop) : Prop :=
  w_J7_fill_53178 17 0 x (fun x_1 => ∃ n : Nat, lk3 (wB_X1_greatest_13 c1 (wX_X1_greatest_13 post)) n 0 0 x_1)
abbrev rm_X1_greatest : Room := { frames := 2, cells := 0, slots := 0, locals := 43 }
theorem iw_X1_greatest_X1 : ∀ w ∈ u_ws RX1 TX1 1, w ∈ wsX1_greatest := by decide +kernel
theorem fl_X1_greatest_9 : Cond.fieldLink RX1 9 (TX1 0).1 (TX1 0).2.1 (TX1 0).2.2.1 ∈ wsX1_greatest := by decide +kernel
theorem iw_X1_greatest_X2 : ∀ w ∈ u_ws RX2 TX2 7, w ∈ wsX1_greatest := by decide +kernel
theorem fl_X1_greatest_21 : Cond.fieldLink RX1 21 (TX2 4).1 (TX2 4).2.1 (TX2 4).2.2.1 ∈ wsX1_greatest := by decide +kernel
theorem mw_X1_greatest_31_0 : Cond.methodLink RX1 31 Lib.Math.max.name ∈ wsX1_greatest := by decide +kernel
theorem mw_X1_greatest_31_1 : Cond.static Lib.Math.max.name ∈ wsX1_greatest := by decide +kernel
theorem mw_X1_greatest_31_2 : Cond.initialized "java/lang/Math" ∈ wsX1_greatest := by decide +kernel
theorem mw_X1_greatest_31_3 : Cond.code Lib.Math.max.name Lib.Math.max.code 2 (some .int) ∈ wsX1_greatest := by decide +kernel
set_option maxHeartbeats 4000000 in
set_option maxRecDepth 100000 in
theorem c_X1_greatest (l : Launch) (D : va_G) (cy : Nat → ClassId) (L : List Nat) (ad : Nat → Nat) (sz : Nat) (hL : fLA L) (c1 : Nat) (hc1 : c1 ∈ L) (hlc1 : al c1 = 10) (x : Mm) (post : Int → Mm → Prop) (hw : w_X1_greatest c1 x post) : fMi l yX1_greatest wsX1_greatest rm_X1_greatest [.ref (ad 16), .ref (ad 2), .ref (ad c1)] D cy L ad sz x post := by
  refine Met.ofW (cc := cX1_greatest) (maxL := 6) (ret := (some .int)) (by decide) rfl ?_
  intro p e s m args below meth c s₁ B hml hv
  obtain ⟨hargs, hp⟩ := hv
  obtain ⟨C, hr, hlk, hsz, G⟩ := fr_start B hml hp
  subst hsz
  obtain ⟨ls, els, hl⟩ := fr_entry (m := m) (n := 6) hargs (Nat.le_of_ble_eq_true rfl)
  rw [els]
  have hl : lv_has ls 6 [(0, .ref (ad 16)), (1, .ref (ad 2)), (2, .ref (ad c1))] := hl
  clear els hargs hp B
  refine lv_aload_n C.1 C.2.1 dX1_greatest_0 rfl (lv_at hl 0 rfl) ?_
  refine fr_get C G 16 (hL _ (by omega)) (cl_16 _) rfl iw_X1_greatest_X1 0 (by decide) fl_X1_greatest_9 rfl dX1_greatest_1 ?_
  refine fr_ic C dX1_greatest_4 ?_
  refine fr_Sv C G (c_J7_fill_53178 l D cy L ad _ 17 (hL _ (by omega)) rfl 0 x _ hw) (va_cwS 2 C.2.2.2.2 gX1_greatest_J7_fill_53178 rfl rfl rfl (by decide +kernel) ⟨Nat.le_of_ble_eq_true rfl, Nat.le_of_ble_eq_true rfl⟩) rfl hl.1 rfl (Nat.le_of_ble_eq_true rfl) dX1_greatest_5 ⟨Nat.zero_le _, Nat.zero_le _⟩ (fun x_1 H locs hw G => ?_)
  refine fr_ic C dX1_greatest_8 ?_
  refine lv_istore_n (lv' := [(3, .int (iI 0)), (0, .ref (ad 16)), (1, .ref (ad 2)), (2, .ref (ad c1))]) C.1 C.2.1 dX1_greatest_9 rfl hl (by decide) rfl (fun ls hl => ?_)
  refine fr_ic C dX1_greatest_10 ?_
  refine lv_istore (lv' := [(4, .int (iI 0)), (3, .int (iI 0)), (0, .ref (ad 16)), (1, .ref (ad 2)), (2, .ref (ad c1))]) C.1 C.2.1 dX1_greatest_11 hl (by decide) rfl (fun ls hl => ?_)
  obtain ⟨n13, hw⟩ := hw
  have hS13 : ∀ (kx_13 bk_13 : Int → Int → Mm → Prop), (∀ (v3_2 : Int) (v4_3 : Int) (x_4 : Mm) (H : Heap) (locs : List Loc) (ls : Array Slot), kx_13 v3_2 v4_3 x_4 → fG D cy L ad (fAr L ad s.heap.size) s x_4 H locs → lv_has ls 6 [(0, .ref (ad 16)), (1, .ref (ad 2)), (2, .ref (ad c1)), (3, .int (iI v3_2)), (4, .int (iI v4_3))] → W p l e (headSpec wsX1_greatest rm_X1_greatest).room s m args below meth c H locs 0 0 (fQi below D cy L ad s args post) (F0 m 75 ls [])) → (∀ (v3_2 : Int) (v4_3 : Int) (x_4 : Mm) (H : Heap) (locs : List Loc) (ls : Array Slot), bk_13 v3_2 v4_3 x_4 → fG D cy L ad (fAr L ad s.heap.size) s x_4 H locs → lv_has ls 6 [(0, .ref (ad 16)), (1, .ref (ad 2)), (2, .ref (ad c1)), (3, .int (iI v3_2)), (4, .int (iI v4_3))] → W p l e (headSpec wsX1_greatest rm_X1_greatest).room s m args below meth c H locs 0 0 (fQi below D cy L ad s args post) (F0 m 13 ls [])) → ∀ (v3_2 : Int) (v4_3 : Int) (x_4 : Mm) (H : Heap) (locs : List Loc) (ls : Array Slot), wB_X1_greatest_13 c1 kx_13 bk_13 v3_2 v4_3 x_4 → fG D cy L ad (fAr L ad s.heap.size) s x_4 H locs → lv_has ls 6 [(0, .ref (ad 16)), (1, .ref (ad 2)), (2, .ref (ad c1)), (3, .int (iI v3_2)), (4, .int (iI v4_3))] → W p l e (headSpec wsX1_greatest rm_X1_greatest).room s m args below meth c H locs 0 0 (fQi below D cy L ad s args post) (F0 m 13 ls []) := by
    intro kx_13 bk_13 hX13 ih13 v3_2 v4_3 x_4 H locs ls hw G hl
    refine lv_iload C.1 C.2.1 dX1_greatest_13 (lv_at hl 4 rfl) ?_
    refine lv_aload_n C.1 C.2.1 dX1_greatest_15 rfl (lv_at hl 1 rfl) ?_
    refine fr_get C G 2 (hL _ (by omega)) (cl_2 _) rfl iw_X1_greatest_X2 4 (by decide) fl_X1_greatest_21 rfl dX1_greatest_16 ?_
    obtain ⟨hc_21, hw⟩ := hw
    refine fr_ge (tgt := 75) C dX1_greatest_19 (by decide) hc_21 (fun q_5 => ?_) (fun q_5 => ?_)
    · have hw := if_p hw q_5
      exact hX13 v3_2 v4_3 x_4 _ _ _ hw G (lv_sub hl [0, 1, 2, 3, 4] rfl)
    · have hw := if_n hw q_5
      refine lv_aload_n C.1 C.2.1 dX1_greatest_22 rfl (lv_at hl 1 rfl) ?_
      refine lv_iload C.1 C.2.1 dX1_greatest_23 (lv_at hl 4 rfl) ?_
      refine lv_aload_n C.1 C.2.1 dX1_greatest_25 rfl (lv_at hl 2 rfl) ?_
      refine fr_Vi C G (c_X2_toneOfLeft l D cy L ad _ (fLA.h hL) c1 hc1 hlc1 v4_3 x_4 _ hw) (cwV 2 C.2.2.2.2 gX1_greatest_X2_toneOfLeft rfl rfl rfl (by decide +kernel) ⟨Nat.le_of_ble_eq_true rfl, Nat.le_of_ble_eq_true rfl⟩) (G.recv (hL _ (by omega)) (cl_2 _) rfl) rfl hl.1 rfl (Nat.le_of_ble_eq_true rfl) dX1_greatest_26 ⟨Nat.zero_le _, Nat.zero_le _⟩ (fun z_7 x_6 H locs hw G => ?_)
      refine lv_istore (lv' := [(5, .int (iI z_7)), (0, .ref (ad 16)), (1, .ref (ad 2)), (2, .ref (ad c1)), (3, .int (iI v3_2)), (4, .int (iI v4_3))]) C.1 C.2.1 dX1_greatest_29 hl (by decide) rfl (fun ls hl => ?_)
      refine lv_iload C.1 C.2.1 dX1_greatest_31 (lv_at hl 0 rfl) ?_
      obtain ⟨hc_20, hw⟩ := hw
      refine fr_lt0 (tgt := 69) C dX1_greatest_33 (by decide) hc_20 (fun q_8 => ?_) (fun q_8 => ?_)
      · have hw := if_p hw q_8
        obtain ⟨v4_9, ev4_9⟩ : ∃ z : Int, z = v4_3 + 1 := ⟨_, rfl⟩
        have hw := hw v4_9 ev4_9
        refine lv_iinc (v := iI v4_9) (lv' := [(4, .int (iI v4_9)), (5, .int (iI z_7)), (0, .ref (ad 16)), (1, .ref (ad 2)), (2, .ref (ad c1)), (3, .int (iI v3_2))]) C.1 C.2.1 dX1_greatest_69 hl (k := 5) rfl (by rw [ev4_9]; exact iI_add _ _) (by decide) rfl (fun ls hl => ?_)
        refine lv_goto (tgt := 13) C.1 C.2.1 dX1_greatest_72 (by decide) ?_
        exact ih13 v3_2 v4_9 x_6 _ _ _ hw G (lv_sub hl [2, 3, 4, 5, 0] rfl)
      · have hw := if_n hw q_8
        refine lv_iload C.1 C.2.1 dX1_greatest_36 (lv_at hl 0 rfl) ?_
        refine lv_aload_n C.1 C.2.1 dX1_greatest_38 rfl (lv_at hl 1 rfl) ?_
        refine fr_get C G 16 (hL _ (by omega)) (cl_16 _) rfl iw_X1_greatest_X1 0 (by decide) fl_X1_greatest_9 rfl dX1_greatest_39 ?_
        refine fr_alen C G 17 512 (hL _ (by omega)) rfl (by decide) dX1_greatest_42 ?_
        obtain ⟨hc_19, hw⟩ := hw
        refine fr_ge (tgt := 69) C dX1_greatest_43 (by decide) ⟨hc_19, ⟨by decide, by decide⟩⟩ (fun q_10 => ?_) (fun q_10 => ?_)
        · have hw := if_p hw q_10
          obtain ⟨v4_11, ev4_11⟩ : ∃ z : Int, z = v4_3 + 1 := ⟨_, rfl⟩
          have hw := hw v4_11 ev4_11
          refine lv_iinc (v := iI v4_11) (lv' := [(4, .int (iI v4_11)), (5, .int (iI z_7)), (0, .ref (ad 16)), (1, .ref (ad 2)), (2, .ref (ad c1)), (3, .int (iI v3_2))]) C.1 C.2.1 dX1_greatest_69 hl (k := 5) rfl (by rw [ev4_11]; exact iI_add _ _) (by decide) rfl (fun ls hl => ?_)
          refine lv_goto (tgt := 13) C.1 C.2.1 dX1_greatest_72 (by decide) ?_
          exact ih13 v3_2 v4_11 x_6 _ _ _ hw G (lv_sub hl [2, 3, 4, 5, 0] rfl)
        · have hw := if_n hw q_10
          refine lv_aload_n C.1 C.2.1 dX1_greatest_46 rfl (lv_at hl 1 rfl) ?_
          refine fr_get C G 16 (hL _ (by omega)) (cl_16 _) rfl iw_X1_greatest_X1 0 (by decide) fl_X1_greatest_9 rfl dX1_greatest_47 ?_
          refine lv_iload C.1 C.2.1 dX1_greatest_50 (lv_at hl 0 rfl) ?_
          refine lv_dup2_11 C.1 C.2.1 dX1_greatest_52 rfl rfl ?_
          obtain ⟨hb_12, hw⟩ := hw
          refine fr_iald C G 17 512 (hL _ (by omega)) rfl ⟨by decide, by decide⟩ hb_12 dX1_greatest_53 ?_
          refine fr_ic C dX1_greatest_54 ?_
          refine fr_iadd C dX1_greatest_55 ?_
          obtain ⟨hb_13, hw⟩ := hw
          refine fr_iast C G 17 512 (hL _ (by omega)) rfl ⟨by decide, by decide⟩ hb_13 dX1_greatest_56 (fun x_14 H locs ex_14 G => ?_)
          have hw := hw x_14 ex_14
          refine lv_iload_n C.1 C.2.1 dX1_greatest_57 rfl (lv_at hl 4 rfl) ?_
          refine lv_aload_n C.1 C.2.1 dX1_greatest_58 rfl (lv_at hl 1 rfl) ?_
          refine fr_get C G 16 (hL _ (by omega)) (cl_16 _) rfl iw_X1_greatest_X1 0 (by decide) fl_X1_greatest_9 rfl dX1_greatest_59 ?_
          refine lv_iload C.1 C.2.1 dX1_greatest_62 (lv_at hl 0 rfl) ?_
          obtain ⟨hb_15, hw⟩ := hw
          refine fr_iald C G 17 512 (hL _ (by omega)) rfl ⟨by decide, by decide⟩ hb_15 dX1_greatest_64 ?_
          obtain ⟨hm_16, hw⟩ := hw
          refine fr_mmax C hl.1 mw_X1_greatest_31_0 mw_X1_greatest_31_1 mw_X1_greatest_31_2 mw_X1_greatest_31_3 (by decide) (Nat.le_of_ble_eq_true rfl) (Nat.zero_le _) (Nat.zero_le _) hm_16 dX1_greatest_65 ?_
          refine fr_nm (fun v3_17 ev3_17 => ?_)
          have hw := hw v3_17 ev3_17
          refine lv_istore_n (lv' := [(3, .int (iI v3_17)), (5, .int (iI z_7)), (0, .ref (ad 16)), (1, .ref (ad 2)), (2, .ref (ad c1)), (4, .int (iI v4_3))]) C.1 C.2.1 dX1_greatest_68 rfl hl (by decide) rfl (fun ls hl => ?_)
          obtain ⟨v4_18, ev4_18⟩ : ∃ z : Int, z = v4_3 + 1 := ⟨_, rfl⟩
          have hw := hw v4_18 ev4_18
          refine lv_iinc (v := iI v4_18) (lv' := [(4, .int (iI v4_18)), (3, .int (iI v3_17)), (5, .int (iI z_7)), (0, .ref (ad 16)), (1, .ref (ad 2)), (2, .ref (ad c1))]) C.1 C.2.1 dX1_greatest_69 hl (k := 5) rfl (by rw [ev4_18]; exact iI_add _ _) (by decide) rfl (fun ls hl => ?_)
          refine lv_goto (tgt := 13) C.1 C.2.1 dX1_greatest_72 (by decide) ?_
          exact ih13 v3_17 v4_18 x_14 _ _ _ hw G (lv_sub hl [3, 4, 5, 1, 0] rfl)
  have hX13 : ∀ (v3_2 : Int) (v4_3 : Int) (x_4 : Mm) (H : Heap) (locs : List Loc) (ls : Array Slot), wX_X1_greatest_13 post v3_2 v4_3 x_4 → fG D cy L ad (fAr L ad s.heap.size) s x_4 H locs → lv_has ls 6 [(0, .ref (ad 16)), (1, .ref (ad 2)), (2, .ref (ad c1)), (3, .int (iI v3_2)), (4, .int (iI v4_3))] → W p l e (headSpec wsX1_greatest rm_X1_greatest).room s m args below meth c H locs 0 0 (fQi below D cy L ad s args post) (F0 m 75 ls []) := by
    intro v3_2 v4_3 x_4 H locs ls hw G hl
    refine lv_iload_n C.1 C.2.1 dX1_greatest_75 rfl (lv_at hl 3 rfl) ?_
    exact fr_iret C G hr hlk hw dX1_greatest_76
  have hB13 : ∀ (n : Nat) (v3_2 : Int) (v4_3 : Int) (x_4 : Mm) (H : Heap) (locs : List Loc) (ls : Array Slot), lk3 (wB_X1_greatest_13 c1 (wX_X1_greatest_13 post)) n v3_2 v4_3 x_4 → fG D cy L ad (fAr L ad s.heap.size) s x_4 H locs → lv_has ls 6 [(0, .ref (ad 16)), (1, .ref (ad 2)), (2, .ref (ad c1)), (3, .int (iI v3_2)), (4, .int (iI v4_3))] → W p l e (headSpec wsX1_greatest rm_X1_greatest).room s m args below meth c H locs 0 0 (fQi below D cy L ad s args post) (F0 m 13 ls []) := by
    intro n
    induction n with
    | zero =>
      intro v3_2 v4_3 x_4 H locs ls hw
      exact hw.elim
    | succ n ih =>
      intro v3_2 v4_3 x_4 H locs ls hw G hl
      exact hS13 _ _ hX13 ih v3_2 v4_3 x_4 H locs ls hw G hl
  exact hB13 n13 0 0 x_1 _ _ _ hw G (lv_sub hl [2, 3, 4, 1, 0] rfl)
