def wX_X8_next_55 (a2 : Int) (post : Int → Mm → Prop) (v3_12 : Int) (v4_13 : Int) (v5_14 : Int) (x_15 : Mm) : Prop :=
  rg a2 ∧ (if a2 = 0 then (post v3_12 x_15) else (post v4_13 x_15))
def wB_X8_next_55 (kx_55 bk_55 : Int → Int → Int → Mm → Prop) (v3_12 : Int) (v4_13 : Int) (v5_14 : Int) (x_15 : Mm) : Prop :=
  rg v5_14 ∧ (if 4 ≤ v5_14 then (kx_55 v3_12 v4_13 v5_14 x_15) else (w_X8_greatestHeap v5_14 x_15 (fun z_20 x_19 => (rg z_20 ∧ rg v4_13) ∧ (if v4_13 ≤ z_20 then ((rg z_20 ∧ rg v4_13) ∧ (if v4_13 ≤ z_20 then (∀ v5_23 : Int, v5_23 = v5_14 + 1 → bk_55 v3_12 v4_13 v5_23 x_19) else (∀ v5_24 : Int, v5_24 = v5_14 + 1 → bk_55 v3_12 z_20 v5_24 x_19))) else ((rg z_20 ∧ rg v4_13) ∧ (if v4_13 ≤ z_20 then (∀ v5_27 : Int, v5_27 = v5_14 + 1 → bk_55 v5_14 v4_13 v5_27 x_19) else (∀ v5_28 : Int, v5_28 = v5_14 + 1 → bk_55 v5_14 z_20 v5_28 x_19)))))))
def w_X8_next (a1 a2 : Int) (x : Mm) (post : Int → Mm → Prop) : Prop :=
  w_X8_isPlate a1 x (fun z_2 x_1 => rg z_2 ∧ (if z_2 = 0 then (post (-2) x_1) else (w_X8_in a2 0 1 x_1 (fun z_5 x_4 => rg z_5 ∧ (if z_5 = 0 then (post (-2) x_4) else (w_X8_findWoods x_4 (fun x_7 => rg (x_7 60 15) ∧ (if (x_7 60 15) = 0 then (post (-3) x_7) else (w_X8_take 61 a1 x_7 (fun x_9 => w_X8_greatestHeap 0 x_9 (fun z_11 x_10 => ∃ n : Nat, lk4 (wB_X8_next_55 (wX_X8_next_55 a2 post)) n 0 z_11 1 x_10)))))))))))
abbrev rm_X8_next : Room := { frames := 5, cells := 0, slots := 0, locals := 130 }
theorem iw_X8_next_X8 : ∀ w ∈ u_ws RX8 TX8 20, w ∈ wsX8_next := by decide +kernel
theorem fl_X8_next_107 : Cond.fieldLink RX8 107 (TX8 15).1 (TX8 15).2.1 (TX8 15).2.2.1 ∈ wsX8_next := by decide +kernel
theorem fl_X8_next_7 : Cond.fieldLink RX8 7 (TX8 1).1 (TX8 1).2.1 (TX8 1).2.2.1 ∈ wsX8_next := by decide +kernel
set_option maxHeartbeats 4000000 in
set_option maxRecDepth 100000 in
theorem c_X8_next (l : Launch) (D : va_G) (cy : Nat → ClassId) (L : List Nat) (ad : Nat → Nat) (sz : Nat) (hL : fLM L) (a1 a2 : Int) (x : Mm) (post : Int → Mm → Prop) (hw : w_X8_next a1 a2 x post) : fMi l yX8_next wsX8_next rm_X8_next [.ref (ad 60), .int (iI a1), .int (iI a2)] D cy L ad sz x post := by
  refine Met.ofW (cc := cX8_next) (maxL := 7) (ret := (some .int)) (by decide) rfl ?_
  intro p e s m args below meth c s₁ B hml hv
  obtain ⟨hargs, hp⟩ := hv
  obtain ⟨C, hr, hlk, hsz, G⟩ := fr_start B hml hp
  subst hsz
  obtain ⟨ls, els, hl⟩ := fr_entry (m := m) (n := 7) hargs (Nat.le_of_ble_eq_true rfl)
  rw [els]
  have hl : lv_has ls 7 [(0, .ref (ad 60)), (1, .int (iI a1)), (2, .int (iI a2))] := hl
  clear els hargs hp B
  refine lv_aload_n C.1 C.2.1 dX8_next_0 rfl (lv_at hl 0 rfl) ?_
  refine lv_iload_n C.1 C.2.1 dX8_next_1 rfl (lv_at hl 1 rfl) ?_
  refine fr_Vi C G (c_X8_isPlate l D cy L ad _ hL a1 x _ hw) (cwV 1 C.2.2.2.2 gX8_next_X8_isPlate rfl rfl rfl (by decide +kernel) ⟨Nat.le_of_ble_eq_true rfl, Nat.le_of_ble_eq_true rfl⟩) (G.recv (hL _ (by omega)) (cl_60 _) rfl) rfl hl.1 rfl (Nat.le_of_ble_eq_true rfl) dX8_next_2 ⟨Nat.zero_le _, Nat.zero_le _⟩ (fun z_2 x_1 H locs hw G => ?_)
  obtain ⟨hc_34, hw⟩ := hw
  refine fr_eq0 (tgt := 17) C dX8_next_5 (by decide) hc_34 (fun q_3 => ?_) (fun q_3 => ?_)
  · have hw := if_p hw q_3
    refine fr_bi C dX8_next_17 rfl ?_
    exact fr_iret C G hr hlk hw dX8_next_19
  · have hw := if_n hw q_3
    refine lv_iload_n C.1 C.2.1 dX8_next_8 rfl (lv_at hl 2 rfl) ?_
    refine fr_ic C dX8_next_9 ?_
    refine fr_ic C dX8_next_10 ?_
    refine fr_Si C G (c_X8_in l D cy L ad _ a2 0 1 x_1 _ hw) (va_cwS 3 C.2.2.2.2 gX8_next_X8_in rfl rfl rfl (by decide +kernel) ⟨Nat.le_of_ble_eq_true rfl, Nat.le_of_ble_eq_true rfl⟩) rfl hl.1 rfl (Nat.le_of_ble_eq_true rfl) dX8_next_11 ⟨Nat.zero_le _, Nat.zero_le _⟩ (fun z_5 x_4 H locs hw G => ?_)
    obtain ⟨hc_33, hw⟩ := hw
    refine fr_ne0 (tgt := 20) C dX8_next_14 (by decide) hc_33 (fun q_6 => ?_) (fun q_6 => ?_)
    · have hw := if_p hw q_6
      refine fr_bi C dX8_next_17 rfl ?_
      exact fr_iret C G hr hlk hw dX8_next_19
    · have hw := if_n hw q_6
      refine lv_aload_n C.1 C.2.1 dX8_next_20 rfl (lv_at hl 0 rfl) ?_
      refine fr_Vv C G (c_X8_findWoods l D cy L ad _ hL x_4 _ hw) (cwV 0 C.2.2.2.2 gX8_next_X8_findWoods rfl rfl rfl (by decide +kernel) ⟨Nat.le_of_ble_eq_true rfl, Nat.le_of_ble_eq_true rfl⟩) (G.recv (hL _ (by omega)) (cl_60 _) rfl) rfl hl.1 rfl (Nat.le_of_ble_eq_true rfl) dX8_next_21 ⟨Nat.zero_le _, Nat.zero_le _⟩ (fun x_7 H locs hw G => ?_)
      refine lv_aload_n C.1 C.2.1 dX8_next_24 rfl (lv_at hl 0 rfl) ?_
      refine fr_get C G 60 (hL _ (by omega)) (cl_60 _) rfl iw_X8_next_X8 15 (by decide) fl_X8_next_107 rfl dX8_next_25 ?_
      obtain ⟨hc_32, hw⟩ := hw
      refine fr_ne0 (tgt := 34) C dX8_next_28 (by decide) hc_32 (fun q_8 => ?_) (fun q_8 => ?_)
      · have hw := if_p hw q_8
        refine fr_bi C dX8_next_31 rfl ?_
        exact fr_iret C G hr hlk hw dX8_next_33
      · have hw := if_n hw q_8
        refine lv_aload_n C.1 C.2.1 dX8_next_34 rfl (lv_at hl 0 rfl) ?_
        refine lv_aload_n C.1 C.2.1 dX8_next_35 rfl (lv_at hl 0 rfl) ?_
        refine fr_get C G 60 (hL _ (by omega)) (cl_60 _) rfl iw_X8_next_X8 1 (by decide) fl_X8_next_7 rfl dX8_next_36 ?_
        refine lv_iload_n C.1 C.2.1 dX8_next_39 rfl (lv_at hl 1 rfl) ?_
        refine fr_Vv C G (c_X8_take l D cy L ad _ hL 61 (hL _ (by omega)) ⟨by decide, by decide⟩ a1 x_7 _ hw) (cwV 2 C.2.2.2.2 gX8_next_X8_take rfl rfl rfl (by decide +kernel) ⟨Nat.le_of_ble_eq_true rfl, Nat.le_of_ble_eq_true rfl⟩) (G.recv (hL _ (by omega)) (cl_60 _) rfl) rfl hl.1 rfl (Nat.le_of_ble_eq_true rfl) dX8_next_40 ⟨Nat.zero_le _, Nat.zero_le _⟩ (fun x_9 H locs hw G => ?_)
        refine fr_ic C dX8_next_43 ?_
        refine lv_istore_n (lv' := [(3, .int (iI 0)), (0, .ref (ad 60)), (1, .int (iI a1)), (2, .int (iI a2))]) C.1 C.2.1 dX8_next_44 rfl hl (by decide) rfl (fun ls hl => ?_)
        refine lv_aload_n C.1 C.2.1 dX8_next_45 rfl (lv_at hl 1 rfl) ?_
        refine fr_ic C dX8_next_46 ?_
        refine fr_Vi C G (c_X8_greatestHeap l D cy L ad _ hL 0 x_9 _ hw) (cwV 1 C.2.2.2.2 gX8_next_X8_greatestHeap rfl rfl rfl (by decide +kernel) ⟨Nat.le_of_ble_eq_true rfl, Nat.le_of_ble_eq_true rfl⟩) (G.recv (hL _ (by omega)) (cl_60 _) rfl) rfl hl.1 rfl (Nat.le_of_ble_eq_true rfl) dX8_next_47 ⟨Nat.zero_le _, Nat.zero_le _⟩ (fun z_11 x_10 H locs hw G => ?_)
        refine lv_istore (lv' := [(4, .int (iI z_11)), (3, .int (iI 0)), (0, .ref (ad 60)), (1, .int (iI a1)), (2, .int (iI a2))]) C.1 C.2.1 dX8_next_50 hl (by decide) rfl (fun ls hl => ?_)
        refine fr_ic C dX8_next_52 ?_
        refine lv_istore (lv' := [(5, .int (iI 1)), (4, .int (iI z_11)), (3, .int (iI 0)), (0, .ref (ad 60)), (1, .int (iI a1)), (2, .int (iI a2))]) C.1 C.2.1 dX8_next_53 hl (by decide) rfl (fun ls hl => ?_)
        obtain ⟨n55, hw⟩ := hw
        have hS55 : ∀ (kx_55 bk_55 : Int → Int → Int → Mm → Prop), (∀ (v3_12 : Int) (v4_13 : Int) (v5_14 : Int) (x_15 : Mm) (H : Heap) (locs : List Loc) (ls : Array Slot), kx_55 v3_12 v4_13 v5_14 x_15 → fG D cy L ad (fAr L ad s.heap.size) s x_15 H locs → lv_has ls 7 [(0, .ref (ad 60)), (1, .int (iI a1)), (2, .int (iI a2)), (3, .int (iI v3_12)), (4, .int (iI v4_13)), (5, .int (iI v5_14))] → W p l e (headSpec wsX8_next rm_X8_next).room s m args below meth c H locs 0 0 (fQi below D cy L ad s args post) (F0 m 105 ls [])) → (∀ (v3_12 : Int) (v4_13 : Int) (v5_14 : Int) (x_15 : Mm) (H : Heap) (locs : List Loc) (ls : Array Slot), bk_55 v3_12 v4_13 v5_14 x_15 → fG D cy L ad (fAr L ad s.heap.size) s x_15 H locs → lv_has ls 7 [(0, .ref (ad 60)), (1, .int (iI a1)), (2, .int (iI a2)), (3, .int (iI v3_12)), (4, .int (iI v4_13)), (5, .int (iI v5_14))] → W p l e (headSpec wsX8_next rm_X8_next).room s m args below meth c H locs 0 0 (fQi below D cy L ad s args post) (F0 m 55 ls [])) → ∀ (v3_12 : Int) (v4_13 : Int) (v5_14 : Int) (x_15 : Mm) (H : Heap) (locs : List Loc) (ls : Array Slot), wB_X8_next_55 kx_55 bk_55 v3_12 v4_13 v5_14 x_15 → fG D cy L ad (fAr L ad s.heap.size) s x_15 H locs → lv_has ls 7 [(0, .ref (ad 60)), (1, .int (iI a1)), (2, .int (iI a2)), (3, .int (iI v3_12)), (4, .int (iI v4_13)), (5, .int (iI v5_14))] → W p l e (headSpec wsX8_next rm_X8_next).room s m args below meth c H locs 0 0 (fQi below D cy L ad s args post) (F0 m 55 ls []) := by
          intro kx_55 bk_55 hX55 ih55 v3_12 v4_13 v5_14 x_15 H locs ls hw G hl
          refine lv_iload C.1 C.2.1 dX8_next_55 (lv_at hl 5 rfl) ?_
          refine fr_ic C dX8_next_57 ?_
          obtain ⟨hc_31, hw⟩ := hw
          refine fr_ge (tgt := 105) C dX8_next_58 (by decide) ⟨hc_31, ⟨by decide, by decide⟩⟩ (fun q_18 => ?_) (fun q_18 => ?_)
          · have hw := if_p hw q_18
            exact hX55 v3_12 v4_13 v5_14 x_15 _ _ _ hw G (lv_sub hl [0, 1, 2, 3, 4, 5] rfl)
          · have hw := if_n hw q_18
            refine lv_aload_n C.1 C.2.1 dX8_next_61 rfl (lv_at hl 0 rfl) ?_
            refine lv_iload C.1 C.2.1 dX8_next_62 (lv_at hl 5 rfl) ?_
            refine fr_Vi C G (c_X8_greatestHeap l D cy L ad _ hL v5_14 x_15 _ hw) (cwV 1 C.2.2.2.2 gX8_next_X8_greatestHeap rfl rfl rfl (by decide +kernel) ⟨Nat.le_of_ble_eq_true rfl, Nat.le_of_ble_eq_true rfl⟩) (G.recv (hL _ (by omega)) (cl_60 _) rfl) rfl hl.1 rfl (Nat.le_of_ble_eq_true rfl) dX8_next_64 ⟨Nat.zero_le _, Nat.zero_le _⟩ (fun z_20 x_19 H locs hw G => ?_)
            refine lv_istore (lv' := [(6, .int (iI z_20)), (0, .ref (ad 60)), (1, .int (iI a1)), (2, .int (iI a2)), (3, .int (iI v3_12)), (4, .int (iI v4_13)), (5, .int (iI v5_14))]) C.1 C.2.1 dX8_next_67 hl (by decide) rfl (fun ls hl => ?_)
            refine lv_iload C.1 C.2.1 dX8_next_69 (lv_at hl 0 rfl) ?_
            refine lv_iload C.1 C.2.1 dX8_next_71 (lv_at hl 5 rfl) ?_
            obtain ⟨hc_30, hw⟩ := hw
            refine fr_ge (tgt := 81) C dX8_next_73 (by decide) hc_30 (fun q_21 => ?_) (fun q_21 => ?_)
            · have hw := if_p hw q_21
              refine lv_iload_n C.1 C.2.1 dX8_next_81 rfl (lv_at hl 4 rfl) ?_
              refine lv_istore_n (lv' := [(3, .int (iI v3_12)), (6, .int (iI z_20)), (0, .ref (ad 60)), (1, .int (iI a1)), (2, .int (iI a2)), (4, .int (iI v4_13)), (5, .int (iI v5_14))]) C.1 C.2.1 dX8_next_82 rfl hl (by decide) rfl (fun ls hl => ?_)
              refine lv_iload C.1 C.2.1 dX8_next_83 (lv_at hl 1 rfl) ?_
              refine lv_iload C.1 C.2.1 dX8_next_85 (lv_at hl 5 rfl) ?_
              obtain ⟨hc_25, hw⟩ := hw
              refine fr_ge (tgt := 95) C dX8_next_87 (by decide) hc_25 (fun q_22 => ?_) (fun q_22 => ?_)
              · have hw := if_p hw q_22
                refine lv_iload C.1 C.2.1 dX8_next_95 (lv_at hl 5 rfl) ?_
                refine lv_istore (lv' := [(4, .int (iI v4_13)), (3, .int (iI v3_12)), (6, .int (iI z_20)), (0, .ref (ad 60)), (1, .int (iI a1)), (2, .int (iI a2)), (5, .int (iI v5_14))]) C.1 C.2.1 dX8_next_97 hl (by decide) rfl (fun ls hl => ?_)
                obtain ⟨v5_23, ev5_23⟩ : ∃ z : Int, z = v5_14 + 1 := ⟨_, rfl⟩
                have hw := hw v5_23 ev5_23
                refine lv_iinc (v := iI v5_23) (lv' := [(5, .int (iI v5_23)), (4, .int (iI v4_13)), (3, .int (iI v3_12)), (6, .int (iI z_20)), (0, .ref (ad 60)), (1, .int (iI a1)), (2, .int (iI a2))]) C.1 C.2.1 dX8_next_99 hl (k := 6) rfl (by rw [ev5_23]; exact iI_add _ _) (by decide) rfl (fun ls hl => ?_)
                refine lv_goto (tgt := 55) C.1 C.2.1 dX8_next_102 (by decide) ?_
                exact ih55 v3_12 v4_13 v5_23 x_19 _ _ _ hw G (lv_sub hl [4, 5, 6, 2, 1, 0] rfl)
              · have hw := if_n hw q_22
                refine lv_iload C.1 C.2.1 dX8_next_90 (lv_at hl 1 rfl) ?_
                refine lv_goto (tgt := 97) C.1 C.2.1 dX8_next_92 (by decide) ?_
                refine lv_istore (lv' := [(4, .int (iI z_20)), (3, .int (iI v3_12)), (6, .int (iI z_20)), (0, .ref (ad 60)), (1, .int (iI a1)), (2, .int (iI a2)), (5, .int (iI v5_14))]) C.1 C.2.1 dX8_next_97 hl (by decide) rfl (fun ls hl => ?_)
                obtain ⟨v5_24, ev5_24⟩ : ∃ z : Int, z = v5_14 + 1 := ⟨_, rfl⟩
                have hw := hw v5_24 ev5_24
                refine lv_iinc (v := iI v5_24) (lv' := [(5, .int (iI v5_24)), (4, .int (iI z_20)), (3, .int (iI v3_12)), (6, .int (iI z_20)), (0, .ref (ad 60)), (1, .int (iI a1)), (2, .int (iI a2))]) C.1 C.2.1 dX8_next_99 hl (k := 6) rfl (by rw [ev5_24]; exact iI_add _ _) (by decide) rfl (fun ls hl => ?_)
                refine lv_goto (tgt := 55) C.1 C.2.1 dX8_next_102 (by decide) ?_
                exact ih55 v3_12 z_20 v5_24 x_19 _ _ _ hw G (lv_sub hl [4, 5, 6, 2, 1, 0] rfl)
            · have hw := if_n hw q_21
              refine lv_iload C.1 C.2.1 dX8_next_76 (lv_at hl 6 rfl) ?_
              refine lv_goto (tgt := 82) C.1 C.2.1 dX8_next_78 (by decide) ?_
              refine lv_istore_n (lv' := [(3, .int (iI v5_14)), (6, .int (iI z_20)), (0, .ref (ad 60)), (1, .int (iI a1)), (2, .int (iI a2)), (4, .int (iI v4_13)), (5, .int (iI v5_14))]) C.1 C.2.1 dX8_next_82 rfl hl (by decide) rfl (fun ls hl => ?_)
              refine lv_iload C.1 C.2.1 dX8_next_83 (lv_at hl 1 rfl) ?_
              refine lv_iload C.1 C.2.1 dX8_next_85 (lv_at hl 5 rfl) ?_
              obtain ⟨hc_29, hw⟩ := hw
              refine fr_ge (tgt := 95) C dX8_next_87 (by decide) hc_29 (fun q_26 => ?_) (fun q_26 => ?_)
              · have hw := if_p hw q_26
                refine lv_iload C.1 C.2.1 dX8_next_95 (lv_at hl 5 rfl) ?_
                refine lv_istore (lv' := [(4, .int (iI v4_13)), (3, .int (iI v5_14)), (6, .int (iI z_20)), (0, .ref (ad 60)), (1, .int (iI a1)), (2, .int (iI a2)), (5, .int (iI v5_14))]) C.1 C.2.1 dX8_next_97 hl (by decide) rfl (fun ls hl => ?_)
                obtain ⟨v5_27, ev5_27⟩ : ∃ z : Int, z = v5_14 + 1 := ⟨_, rfl⟩
                have hw := hw v5_27 ev5_27
                refine lv_iinc (v := iI v5_27) (lv' := [(5, .int (iI v5_27)), (4, .int (iI v4_13)), (3, .int (iI v5_14)), (6, .int (iI z_20)), (0, .ref (ad 60)), (1, .int (iI a1)), (2, .int (iI a2))]) C.1 C.2.1 dX8_next_99 hl (k := 6) rfl (by rw [ev5_27]; exact iI_add _ _) (by decide) rfl (fun ls hl => ?_)
                refine lv_goto (tgt := 55) C.1 C.2.1 dX8_next_102 (by decide) ?_
                exact ih55 v5_14 v4_13 v5_27 x_19 _ _ _ hw G (lv_sub hl [4, 5, 6, 2, 1, 0] rfl)
              · have hw := if_n hw q_26
                refine lv_iload C.1 C.2.1 dX8_next_90 (lv_at hl 1 rfl) ?_
                refine lv_goto (tgt := 97) C.1 C.2.1 dX8_next_92 (by decide) ?_
                refine lv_istore (lv' := [(4, .int (iI z_20)), (3, .int (iI v5_14)), (6, .int (iI z_20)), (0, .ref (ad 60)), (1, .int (iI a1)), (2, .int (iI a2)), (5, .int (iI v5_14))]) C.1 C.2.1 dX8_next_97 hl (by decide) rfl (fun ls hl => ?_)
                obtain ⟨v5_28, ev5_28⟩ : ∃ z : Int, z = v5_14 + 1 := ⟨_, rfl⟩
                have hw := hw v5_28 ev5_28
                refine lv_iinc (v := iI v5_28) (lv' := [(5, .int (iI v5_28)), (4, .int (iI z_20)), (3, .int (iI v5_14)), (6, .int (iI z_20)), (0, .ref (ad 60)), (1, .int (iI a1)), (2, .int (iI a2))]) C.1 C.2.1 dX8_next_99 hl (k := 6) rfl (by rw [ev5_28]; exact iI_add _ _) (by decide) rfl (fun ls hl => ?_)
                refine lv_goto (tgt := 55) C.1 C.2.1 dX8_next_102 (by decide) ?_
                exact ih55 v5_14 z_20 v5_28 x_19 _ _ _ hw G (lv_sub hl [4, 5, 6, 2, 1, 0] rfl)
        have hX55 : ∀ (v3_12 : Int) (v4_13 : Int) (v5_14 : Int) (x_15 : Mm) (H : Heap) (locs : List Loc) (ls : Array Slot), wX_X8_next_55 a2 post v3_12 v4_13 v5_14 x_15 → fG D cy L ad (fAr L ad s.heap.size) s x_15 H locs → lv_has ls 7 [(0, .ref (ad 60)), (1, .int (iI a1)), (2, .int (iI a2)), (3, .int (iI v3_12)), (4, .int (iI v4_13)), (5, .int (iI v5_14))] → W p l e (headSpec wsX8_next rm_X8_next).room s m args below meth c H locs 0 0 (fQi below D cy L ad s args post) (F0 m 105 ls []) := by
          intro v3_12 v4_13 v5_14 x_15 H locs ls hw G hl
          refine lv_iload_n C.1 C.2.1 dX8_next_105 rfl (lv_at hl 2 rfl) ?_
          obtain ⟨hc_17, hw⟩ := hw
          refine fr_ne0 (tgt := 113) C dX8_next_106 (by decide) hc_17 (fun q_16 => ?_) (fun q_16 => ?_)
          · have hw := if_p hw q_16
            refine lv_iload_n C.1 C.2.1 dX8_next_109 rfl (lv_at hl 3 rfl) ?_
            refine lv_goto (tgt := 115) C.1 C.2.1 dX8_next_110 (by decide) ?_
            exact fr_iret C G hr hlk hw dX8_next_115
          · have hw := if_n hw q_16
            refine lv_iload C.1 C.2.1 dX8_next_113 (lv_at hl 4 rfl) ?_
            exact fr_iret C G hr hlk hw dX8_next_115
        have hB55 : ∀ (n : Nat) (v3_12 : Int) (v4_13 : Int) (v5_14 : Int) (x_15 : Mm) (H : Heap) (locs : List Loc) (ls : Array Slot), lk4 (wB_X8_next_55 (wX_X8_next_55 a2 post)) n v3_12 v4_13 v5_14 x_15 → fG D cy L ad (fAr L ad s.heap.size) s x_15 H locs → lv_has ls 7 [(0, .ref (ad 60)), (1, .int (iI a1)), (2, .int (iI a2)), (3, .int (iI v3_12)), (4, .int (iI v4_13)), (5, .int (iI v5_14))] → W p l e (headSpec wsX8_next rm_X8_next).room s m args below meth c H locs 0 0 (fQi below D cy L ad s args post) (F0 m 55 ls []) := by
          intro n
          induction n with
          | zero =>
            intro v3_12 v4_13 v5_14 x_15 H locs ls hw
            exact hw.elim
          | succ n ih =>
            intro v3_12 v4_13 v5_14 x_15 H locs ls hw G hl
            exact hS55 _ _ hX55 ih v3_12 v4_13 v5_14 x_15 H locs ls hw G hl
        exact hB55 n55 0 z_11 1 x_10 _ _ _ hw G (lv_sub hl [3, 4, 5, 2, 1, 0] rfl)
def w_X8_aim (a1 a2 a3 : Int) (x : Mm) (post : Int → Mm → Prop) : Prop :=
  w_X8_isFour a1 x (fun z_2 x_1 => rg z_2 ∧ (if z_2 = 0 then (post (-2) x_1) else (w_X8_in a2 0 500 x_1 (fun z_5 x_4 => rg z_5 ∧ (if z_5 = 0 then (post (-2) x_4) else (w_X8_in a3 a2 500 x_4 (fun z_8 x_7 => rg z_8 ∧ (if z_8 = 0 then (post (-2) x_7) else ((0 ≤ a1 ∧ a1 < 4) ∧ (∀ x_11 : Mm, x_11 = up2 x_7 68 (a1).toNat 1 → (0 ≤ a1 ∧ a1 < 4) ∧ (∀ x_13 : Mm, x_13 = up2 x_11 69 (a1).toNat a2 → (0 ≤ a1 ∧ a1 < 4) ∧ (∀ x_15 : Mm, x_15 = up2 x_13 70 (a1).toNat a3 → post 1 x_15))))))))))))
abbrev rm_X8_aim : Room := { frames := 2, cells := 0, slots := 0, locals := 42 }
theorem iw_X8_aim_X8 : ∀ w ∈ u_ws RX8 TX8 20, w ∈ wsX8_aim := by decide +kernel
theorem fl_X8_aim_35 : Cond.fieldLink RX8 35 (TX8 10).1 (TX8 10).2.1 (TX8 10).2.2.1 ∈ wsX8_aim := by decide +kernel
theorem fl_X8_aim_39 : Cond.fieldLink RX8 39 (TX8 11).1 (TX8 11).2.1 (TX8 11).2.2.1 ∈ wsX8_aim := by decide +kernel
theorem fl_X8_aim_42 : Cond.fieldLink RX8 42 (TX8 12).1 (TX8 12).2.1 (TX8 12).2.2.1 ∈ wsX8_aim := by decide +kernel
set_option maxHeartbeats 4000000 in
set_option maxRecDepth 100000 in
theorem c_X8_aim (l : Launch) (D : va_G) (cy : Nat → ClassId) (L : List Nat) (ad : Nat → Nat) (sz : Nat) (hL : fLM L) (a1 a2 a3 : Int) (x : Mm) (post : Int → Mm → Prop) (hw : w_X8_aim a1 a2 a3 x post) : fMi l yX8_aim wsX8_aim rm_X8_aim [.ref (ad 60), .int (iI a1), .int (iI a2), .int (iI a3)] D cy L ad sz x post := by
  refine Met.ofW (cc := cX8_aim) (maxL := 4) (ret := (some .int)) (by decide) rfl ?_
  intro p e s m args below meth c s₁ B hml hv
  obtain ⟨hargs, hp⟩ := hv
  obtain ⟨C, hr, hlk, hsz, G⟩ := fr_start B hml hp
  subst hsz
  obtain ⟨ls, els, hl⟩ := fr_entry (m := m) (n := 4) hargs (Nat.le_of_ble_eq_true rfl)
  rw [els]
  have hl : lv_has ls 4 [(0, .ref (ad 60)), (1, .int (iI a1)), (2, .int (iI a2)), (3, .int (iI a3))] := hl
  clear els hargs hp B
  refine lv_iload_n C.1 C.2.1 dX8_aim_0 rfl (lv_at hl 1 rfl) ?_
  refine fr_Si C G (c_X8_isFour l D cy L ad _ a1 x _ hw) (va_cwS 1 C.2.2.2.2 gX8_aim_X8_isFour rfl rfl rfl (by decide +kernel) ⟨Nat.le_of_ble_eq_true rfl, Nat.le_of_ble_eq_true rfl⟩) rfl hl.1 rfl (Nat.le_of_ble_eq_true rfl) dX8_aim_1 ⟨Nat.zero_le _, Nat.zero_le _⟩ (fun z_2 x_1 H locs hw G => ?_)
  obtain ⟨hc_18, hw⟩ := hw
  refine fr_eq0 (tgt := 29) C dX8_aim_4 (by decide) hc_18 (fun q_3 => ?_) (fun q_3 => ?_)
  · have hw := if_p hw q_3
    refine fr_bi C dX8_aim_29 rfl ?_
    exact fr_iret C G hr hlk hw dX8_aim_31
  · have hw := if_n hw q_3
    refine lv_iload_n C.1 C.2.1 dX8_aim_7 rfl (lv_at hl 2 rfl) ?_
    refine fr_ic C dX8_aim_8 ?_
    refine fr_si C dX8_aim_9 rfl ?_
    refine fr_Si C G (c_X8_in l D cy L ad _ a2 0 500 x_1 _ hw) (va_cwS 3 C.2.2.2.2 gX8_aim_X8_in rfl rfl rfl (by decide +kernel) ⟨Nat.le_of_ble_eq_true rfl, Nat.le_of_ble_eq_true rfl⟩) rfl hl.1 rfl (Nat.le_of_ble_eq_true rfl) dX8_aim_12 ⟨Nat.zero_le _, Nat.zero_le _⟩ (fun z_5 x_4 H locs hw G => ?_)
    obtain ⟨hc_17, hw⟩ := hw
    refine fr_eq0 (tgt := 29) C dX8_aim_15 (by decide) hc_17 (fun q_6 => ?_) (fun q_6 => ?_)
    · have hw := if_p hw q_6
      refine fr_bi C dX8_aim_29 rfl ?_
      exact fr_iret C G hr hlk hw dX8_aim_31
    · have hw := if_n hw q_6
      refine lv_iload_n C.1 C.2.1 dX8_aim_18 rfl (lv_at hl 3 rfl) ?_
      refine lv_iload_n C.1 C.2.1 dX8_aim_19 rfl (lv_at hl 2 rfl) ?_
      refine fr_si C dX8_aim_20 rfl ?_
      refine fr_Si C G (c_X8_in l D cy L ad _ a3 a2 500 x_4 _ hw) (va_cwS 3 C.2.2.2.2 gX8_aim_X8_in rfl rfl rfl (by decide +kernel) ⟨Nat.le_of_ble_eq_true rfl, Nat.le_of_ble_eq_true rfl⟩) rfl hl.1 rfl (Nat.le_of_ble_eq_true rfl) dX8_aim_23 ⟨Nat.zero_le _, Nat.zero_le _⟩ (fun z_8 x_7 H locs hw G => ?_)
      obtain ⟨hc_16, hw⟩ := hw
      refine fr_ne0 (tgt := 32) C dX8_aim_26 (by decide) hc_16 (fun q_9 => ?_) (fun q_9 => ?_)
      · have hw := if_p hw q_9
        refine fr_bi C dX8_aim_29 rfl ?_
        exact fr_iret C G hr hlk hw dX8_aim_31
      · have hw := if_n hw q_9
        refine lv_aload_n C.1 C.2.1 dX8_aim_32 rfl (lv_at hl 0 rfl) ?_
        refine fr_get C G 60 (hL _ (by omega)) (cl_60 _) rfl iw_X8_aim_X8 10 (by decide) fl_X8_aim_35 rfl dX8_aim_33 ?_
        refine lv_iload_n C.1 C.2.1 dX8_aim_36 rfl (lv_at hl 1 rfl) ?_
        refine fr_ic C dX8_aim_37 ?_
        obtain ⟨hb_10, hw⟩ := hw
        refine fr_zast C G 68 (hL _ (by omega)) (fun r => cl_68 r) (by decide) hb_10 dX8_aim_38 (fun x_11 H locs ex_11 G => ?_)
        have hw := hw x_11 ex_11
        refine lv_aload_n C.1 C.2.1 dX8_aim_39 rfl (lv_at hl 0 rfl) ?_
        refine fr_get C G 60 (hL _ (by omega)) (cl_60 _) rfl iw_X8_aim_X8 11 (by decide) fl_X8_aim_39 rfl dX8_aim_40 ?_
        refine lv_iload_n C.1 C.2.1 dX8_aim_43 rfl (lv_at hl 1 rfl) ?_
        refine lv_iload_n C.1 C.2.1 dX8_aim_44 rfl (lv_at hl 2 rfl) ?_
        obtain ⟨hb_12, hw⟩ := hw
        refine fr_iast C G 69 4 (hL _ (by omega)) rfl ⟨by decide, by decide⟩ hb_12 dX8_aim_45 (fun x_13 H locs ex_13 G => ?_)
        have hw := hw x_13 ex_13
        refine lv_aload_n C.1 C.2.1 dX8_aim_46 rfl (lv_at hl 0 rfl) ?_
        refine fr_get C G 60 (hL _ (by omega)) (cl_60 _) rfl iw_X8_aim_X8 12 (by decide) fl_X8_aim_42 rfl dX8_aim_47 ?_
        refine lv_iload_n C.1 C.2.1 dX8_aim_50 rfl (lv_at hl 1 rfl) ?_
        refine lv_iload_n C.1 C.2.1 dX8_aim_51 rfl (lv_at hl 3 rfl) ?_
        obtain ⟨hb_14, hw⟩ := hw
        refine fr_iast C G 70 4 (hL _ (by omega)) rfl ⟨by decide, by decide⟩ hb_14 dX8_aim_52 (fun x_15 H locs ex_15 G => ?_)
        have hw := hw x_15 ex_15
        refine fr_ic C dX8_aim_53 ?_
        exact fr_iret C G hr hlk hw dX8_aim_54
def wX_X8_aims_4 (x : Mm) (post : Int → Mm → Prop) (v1_1 : Int) (v2_2 : Int) : Prop :=
  post v1_1 x
def wB_X8_aims_4 (x : Mm) (kx_4 bk_4 : Int → Int → Prop) (v1_1 : Int) (v2_2 : Int) : Prop :=
  rg v2_2 ∧ (if 4 ≤ v2_2 then (kx_4 v1_1 v2_2) else ((0 ≤ v2_2 ∧ v2_2 < 4) ∧ rg (x 68 (v2_2).toNat) ∧ (if (x 68 (v2_2).toNat) = 0 then (∀ v1_6 : Int, v1_6 = v1_1 + 0 → ∀ v2_7 : Int, v2_7 = v2_2 + 1 → bk_4 v1_6 v2_7) else (∀ v1_8 : Int, v1_8 = v1_1 + 1 → ∀ v2_9 : Int, v2_9 = v2_2 + 1 → bk_4 v1_8 v2_9))))
def w_X8_aims (x : Mm) (post : Int → Mm → Prop) : Prop :=
  ∃ n : Nat, lk2 (wB_X8_aims_4 x (wX_X8_aims_4 x post)) n 0 0
abbrev rm_X8_aims : Room := { frames := 0, cells := 0, slots := 0, locals := 0 }
theorem iw_X8_aims_X8 : ∀ w ∈ u_ws RX8 TX8 20, w ∈ wsX8_aims := by decide +kernel
theorem fl_X8_aims_35 : Cond.fieldLink RX8 35 (TX8 10).1 (TX8 10).2.1 (TX8 10).2.2.1 ∈ wsX8_aims := by decide +kernel
set_option maxHeartbeats 4000000 in
set_option maxRecDepth 100000 in
theorem c_X8_aims (l : Launch) (D : va_G) (cy : Nat → ClassId) (L : List Nat) (ad : Nat → Nat) (sz : Nat) (hL : fLM L) (x : Mm) (post : Int → Mm → Prop) (hw : w_X8_aims x post) : fMi l yX8_aims wsX8_aims rm_X8_aims [.ref (ad 60)] D cy L ad sz x post := by
  refine Met.ofW (cc := cX8_aims) (maxL := 3) (ret := (some .int)) (by decide) rfl ?_
  intro p e s m args below meth c s₁ B hml hv
  obtain ⟨hargs, hp⟩ := hv
  obtain ⟨C, hr, hlk, hsz, G⟩ := fr_start B hml hp
  subst hsz
  obtain ⟨ls, els, hl⟩ := fr_entry (m := m) (n := 3) hargs (Nat.le_of_ble_eq_true rfl)
  rw [els]
  have hl : lv_has ls 3 [(0, .ref (ad 60))] := hl
  clear els hargs hp B
  refine fr_ic C dX8_aims_0 ?_
  refine lv_istore_n (lv' := [(1, .int (iI 0)), (0, .ref (ad 60))]) C.1 C.2.1 dX8_aims_1 rfl hl (by decide) rfl (fun ls hl => ?_)
  refine fr_ic C dX8_aims_2 ?_
  refine lv_istore_n (lv' := [(2, .int (iI 0)), (1, .int (iI 0)), (0, .ref (ad 60))]) C.1 C.2.1 dX8_aims_3 rfl hl (by decide) rfl (fun ls hl => ?_)
  obtain ⟨n4, hw⟩ := hw
  have hS4 : ∀ (kx_4 bk_4 : Int → Int → Prop), (∀ (v1_1 : Int) (v2_2 : Int) (H : Heap) (locs : List Loc) (ls : Array Slot), kx_4 v1_1 v2_2 → fG D cy L ad (fAr L ad s.heap.size) s x H locs → lv_has ls 3 [(0, .ref (ad 60)), (1, .int (iI v1_1)), (2, .int (iI v2_2))] → W p l e (headSpec wsX8_aims rm_X8_aims).room s m args below meth c H locs 0 0 (fQi below D cy L ad s args post) (F0 m 32 ls [])) → (∀ (v1_1 : Int) (v2_2 : Int) (H : Heap) (locs : List Loc) (ls : Array Slot), bk_4 v1_1 v2_2 → fG D cy L ad (fAr L ad s.heap.size) s x H locs → lv_has ls 3 [(0, .ref (ad 60)), (1, .int (iI v1_1)), (2, .int (iI v2_2))] → W p l e (headSpec wsX8_aims rm_X8_aims).room s m args below meth c H locs 0 0 (fQi below D cy L ad s args post) (F0 m 4 ls [])) → ∀ (v1_1 : Int) (v2_2 : Int) (H : Heap) (locs : List Loc) (ls : Array Slot), wB_X8_aims_4 x kx_4 bk_4 v1_1 v2_2 → fG D cy L ad (fAr L ad s.heap.size) s x H locs → lv_has ls 3 [(0, .ref (ad 60)), (1, .int (iI v1_1)), (2, .int (iI v2_2))] → W p l e (headSpec wsX8_aims rm_X8_aims).room s m args below meth c H locs 0 0 (fQi below D cy L ad s args post) (F0 m 4 ls []) := by
    intro kx_4 bk_4 hX4 ih4 v1_1 v2_2 H locs ls hw G hl
    refine lv_iload_n C.1 C.2.1 dX8_aims_4 rfl (lv_at hl 2 rfl) ?_
    refine fr_ic C dX8_aims_5 ?_
    obtain ⟨hc_11, hw⟩ := hw
    refine fr_ge (tgt := 32) C dX8_aims_6 (by decide) ⟨hc_11, ⟨by decide, by decide⟩⟩ (fun q_3 => ?_) (fun q_3 => ?_)
    · have hw := if_p hw q_3
      exact hX4 v1_1 v2_2 _ _ _ hw G (lv_sub hl [0, 1, 2] rfl)
    · have hw := if_n hw q_3
      refine lv_iload_n C.1 C.2.1 dX8_aims_9 rfl (lv_at hl 1 rfl) ?_
      refine lv_aload_n C.1 C.2.1 dX8_aims_10 rfl (lv_at hl 0 rfl) ?_
      refine fr_get C G 60 (hL _ (by omega)) (cl_60 _) rfl iw_X8_aims_X8 10 (by decide) fl_X8_aims_35 rfl dX8_aims_11 ?_
      refine lv_iload_n C.1 C.2.1 dX8_aims_14 rfl (lv_at hl 2 rfl) ?_
      obtain ⟨hb_4, hw⟩ := hw
      refine fr_zald C G 68 (hL _ (by omega)) (cl_68 _) hb_4 dX8_aims_15 ?_
      obtain ⟨hc_10, hw⟩ := hw
      refine fr_eq0 (tgt := 23) C dX8_aims_16 (by decide) hc_10 (fun q_5 => ?_) (fun q_5 => ?_)
      · have hw := if_p hw q_5
        refine fr_ic C dX8_aims_23 ?_
        refine fr_iadd C dX8_aims_24 ?_
        refine fr_nm (fun v1_6 ev1_6 => ?_)
        have hw := hw v1_6 ev1_6
        refine lv_istore_n (lv' := [(1, .int (iI v1_6)), (0, .ref (ad 60)), (2, .int (iI v2_2))]) C.1 C.2.1 dX8_aims_25 rfl hl (by decide) rfl (fun ls hl => ?_)
        obtain ⟨v2_7, ev2_7⟩ : ∃ z : Int, z = v2_2 + 1 := ⟨_, rfl⟩
        have hw := hw v2_7 ev2_7
        refine lv_iinc (v := iI v2_7) (lv' := [(2, .int (iI v2_7)), (1, .int (iI v1_6)), (0, .ref (ad 60))]) C.1 C.2.1 dX8_aims_26 hl (k := 2) rfl (by rw [ev2_7]; exact iI_add _ _) (by decide) rfl (fun ls hl => ?_)
        refine lv_goto (tgt := 4) C.1 C.2.1 dX8_aims_29 (by decide) ?_
        exact ih4 v1_6 v2_7 _ _ _ hw G (lv_sub hl [2, 1, 0] rfl)
      · have hw := if_n hw q_5
        refine fr_ic C dX8_aims_19 ?_
        refine lv_goto (tgt := 24) C.1 C.2.1 dX8_aims_20 (by decide) ?_
        refine fr_iadd C dX8_aims_24 ?_
        refine fr_nm (fun v1_8 ev1_8 => ?_)
        have hw := hw v1_8 ev1_8
        refine lv_istore_n (lv' := [(1, .int (iI v1_8)), (0, .ref (ad 60)), (2, .int (iI v2_2))]) C.1 C.2.1 dX8_aims_25 rfl hl (by decide) rfl (fun ls hl => ?_)
        obtain ⟨v2_9, ev2_9⟩ : ∃ z : Int, z = v2_2 + 1 := ⟨_, rfl⟩
        have hw := hw v2_9 ev2_9
        refine lv_iinc (v := iI v2_9) (lv' := [(2, .int (iI v2_9)), (1, .int (iI v1_8)), (0, .ref (ad 60))]) C.1 C.2.1 dX8_aims_26 hl (k := 2) rfl (by rw [ev2_9]; exact iI_add _ _) (by decide) rfl (fun ls hl => ?_)
        refine lv_goto (tgt := 4) C.1 C.2.1 dX8_aims_29 (by decide) ?_
        exact ih4 v1_8 v2_9 _ _ _ hw G (lv_sub hl [2, 1, 0] rfl)
  have hX4 : ∀ (v1_1 : Int) (v2_2 : Int) (H : Heap) (locs : List Loc) (ls : Array Slot), wX_X8_aims_4 x post v1_1 v2_2 → fG D cy L ad (fAr L ad s.heap.size) s x H locs → lv_has ls 3 [(0, .ref (ad 60)), (1, .int (iI v1_1)), (2, .int (iI v2_2))] → W p l e (headSpec wsX8_aims rm_X8_aims).room s m args below meth c H locs 0 0 (fQi below D cy L ad s args post) (F0 m 32 ls []) := by
    intro v1_1 v2_2 H locs ls hw G hl
    refine lv_iload_n C.1 C.2.1 dX8_aims_32 rfl (lv_at hl 1 rfl) ?_
    exact fr_iret C G hr hlk hw dX8_aims_33
  have hB4 : ∀ (n : Nat) (v1_1 : Int) (v2_2 : Int) (H : Heap) (locs : List Loc) (ls : Array Slot), lk2 (wB_X8_aims_4 x (wX_X8_aims_4 x post)) n v1_1 v2_2 → fG D cy L ad (fAr L ad s.heap.size) s x H locs → lv_has ls 3 [(0, .ref (ad 60)), (1, .int (iI v1_1)), (2, .int (iI v2_2))] → W p l e (headSpec wsX8_aims rm_X8_aims).room s m args below meth c H locs 0 0 (fQi below D cy L ad s args post) (F0 m 4 ls []) := by
    intro n
    induction n with
    | zero =>
      intro v1_1 v2_2 H locs ls hw
      exact hw.elim
    | succ n ih =>
      intro v1_1 v2_2 H locs ls hw G hl
      exact hS4 _ _ hX4 ih v1_1 v2_2 H locs ls hw G hl
  exact hB4 n4 0 0 _ _ _ hw G (lv_sub hl [2, 1, 0] rfl)
def wX_X8_aimless_7 (post : Int → Mm → Prop) (z_2 : Int) (v2_3 : Int) (x_4 : Mm) : Prop :=
  post z_2 x_4
def wB_X8_aimless_7 (kx_7 bk_7 : Int → Mm → Prop) (v2_3 : Int) (x_4 : Mm) : Prop :=
  rg v2_3 ∧ (if 4 ≤ v2_3 then (kx_7 v2_3 x_4) else ((0 ≤ v2_3 ∧ v2_3 < 4) ∧ (∀ x_7 : Mm, x_7 = up2 x_4 68 (v2_3).toNat 0 → ∀ v2_8 : Int, v2_8 = v2_3 + 1 → bk_7 v2_8 x_7)))
def w_X8_aimless (x : Mm) (post : Int → Mm → Prop) : Prop :=
  w_X8_aims x (fun z_2 x_1 => ∃ n : Nat, lk2 (wB_X8_aimless_7 (wX_X8_aimless_7 post z_2)) n 0 x_1)
abbrev rm_X8_aimless : Room := { frames := 1, cells := 0, slots := 0, locals := 22 }
theorem iw_X8_aimless_X8 : ∀ w ∈ u_ws RX8 TX8 20, w ∈ wsX8_aimless := by decide +kernel
theorem fl_X8_aimless_35 : Cond.fieldLink RX8 35 (TX8 10).1 (TX8 10).2.1 (TX8 10).2.2.1 ∈ wsX8_aimless := by decide +kernel
set_option maxHeartbeats 4000000 in
set_option maxRecDepth 100000 in
theorem c_X8_aimless (l : Launch) (D : va_G) (cy : Nat → ClassId) (L : List Nat) (ad : Nat → Nat) (sz : Nat) (hL : fLM L) (x : Mm) (post : Int → Mm → Prop) (hw : w_X8_aimless x post) : fMi l yX8_aimless wsX8_aimless rm_X8_aimless [.ref (ad 60)] D cy L ad sz x post := by
  refine Met.ofW (cc := cX8_aimless) (maxL := 3) (ret := (some .int)) (by decide) rfl ?_
  intro p e s m args below meth c s₁ B hml hv
  obtain ⟨hargs, hp⟩ := hv
  obtain ⟨C, hr, hlk, hsz, G⟩ := fr_start B hml hp
  subst hsz
  obtain ⟨ls, els, hl⟩ := fr_entry (m := m) (n := 3) hargs (Nat.le_of_ble_eq_true rfl)
  rw [els]
  have hl : lv_has ls 3 [(0, .ref (ad 60))] := hl
  clear els hargs hp B
  refine lv_aload_n C.1 C.2.1 dX8_aimless_0 rfl (lv_at hl 0 rfl) ?_
  refine fr_Vi C G (c_X8_aims l D cy L ad _ hL x _ hw) (cwV 0 C.2.2.2.2 gX8_aimless_X8_aims rfl rfl rfl (by decide +kernel) ⟨Nat.le_of_ble_eq_true rfl, Nat.le_of_ble_eq_true rfl⟩) (G.recv (hL _ (by omega)) (cl_60 _) rfl) rfl hl.1 rfl (Nat.le_of_ble_eq_true rfl) dX8_aimless_1 ⟨Nat.zero_le _, Nat.zero_le _⟩ (fun z_2 x_1 H locs hw G => ?_)
  refine lv_istore_n (lv' := [(1, .int (iI z_2)), (0, .ref (ad 60))]) C.1 C.2.1 dX8_aimless_4 rfl hl (by decide) rfl (fun ls hl => ?_)
  refine fr_ic C dX8_aimless_5 ?_
  refine lv_istore_n (lv' := [(2, .int (iI 0)), (1, .int (iI z_2)), (0, .ref (ad 60))]) C.1 C.2.1 dX8_aimless_6 rfl hl (by decide) rfl (fun ls hl => ?_)
  obtain ⟨n7, hw⟩ := hw
  have hS7 : ∀ (kx_7 bk_7 : Int → Mm → Prop), (∀ (v2_3 : Int) (x_4 : Mm) (H : Heap) (locs : List Loc) (ls : Array Slot), kx_7 v2_3 x_4 → fG D cy L ad (fAr L ad s.heap.size) s x_4 H locs → lv_has ls 3 [(0, .ref (ad 60)), (1, .int (iI z_2)), (2, .int (iI v2_3))] → W p l e (headSpec wsX8_aimless rm_X8_aimless).room s m args below meth c H locs 0 0 (fQi below D cy L ad s args post) (F0 m 25 ls [])) → (∀ (v2_3 : Int) (x_4 : Mm) (H : Heap) (locs : List Loc) (ls : Array Slot), bk_7 v2_3 x_4 → fG D cy L ad (fAr L ad s.heap.size) s x_4 H locs → lv_has ls 3 [(0, .ref (ad 60)), (1, .int (iI z_2)), (2, .int (iI v2_3))] → W p l e (headSpec wsX8_aimless rm_X8_aimless).room s m args below meth c H locs 0 0 (fQi below D cy L ad s args post) (F0 m 7 ls [])) → ∀ (v2_3 : Int) (x_4 : Mm) (H : Heap) (locs : List Loc) (ls : Array Slot), wB_X8_aimless_7 kx_7 bk_7 v2_3 x_4 → fG D cy L ad (fAr L ad s.heap.size) s x_4 H locs → lv_has ls 3 [(0, .ref (ad 60)), (1, .int (iI z_2)), (2, .int (iI v2_3))] → W p l e (headSpec wsX8_aimless rm_X8_aimless).room s m args below meth c H locs 0 0 (fQi below D cy L ad s args post) (F0 m 7 ls []) := by
    intro kx_7 bk_7 hX7 ih7 v2_3 x_4 H locs ls hw G hl
    refine lv_iload_n C.1 C.2.1 dX8_aimless_7 rfl (lv_at hl 2 rfl) ?_
    refine fr_ic C dX8_aimless_8 ?_
    obtain ⟨hc_9, hw⟩ := hw
    refine fr_ge (tgt := 25) C dX8_aimless_9 (by decide) ⟨hc_9, ⟨by decide, by decide⟩⟩ (fun q_5 => ?_) (fun q_5 => ?_)
    · have hw := if_p hw q_5
      exact hX7 v2_3 x_4 _ _ _ hw G (lv_sub hl [0, 1, 2] rfl)
    · have hw := if_n hw q_5
      refine lv_aload_n C.1 C.2.1 dX8_aimless_12 rfl (lv_at hl 0 rfl) ?_
      refine fr_get C G 60 (hL _ (by omega)) (cl_60 _) rfl iw_X8_aimless_X8 10 (by decide) fl_X8_aimless_35 rfl dX8_aimless_13 ?_
      refine lv_iload_n C.1 C.2.1 dX8_aimless_16 rfl (lv_at hl 2 rfl) ?_
      refine fr_ic C dX8_aimless_17 ?_
      obtain ⟨hb_6, hw⟩ := hw
      refine fr_zast C G 68 (hL _ (by omega)) (fun r => cl_68 r) (by decide) hb_6 dX8_aimless_18 (fun x_7 H locs ex_7 G => ?_)
      have hw := hw x_7 ex_7
      obtain ⟨v2_8, ev2_8⟩ : ∃ z : Int, z = v2_3 + 1 := ⟨_, rfl⟩
      have hw := hw v2_8 ev2_8
      refine lv_iinc (v := iI v2_8) (lv' := [(2, .int (iI v2_8)), (0, .ref (ad 60)), (1, .int (iI z_2))]) C.1 C.2.1 dX8_aimless_19 hl (k := 2) rfl (by rw [ev2_8]; exact iI_add _ _) (by decide) rfl (fun ls hl => ?_)
      refine lv_goto (tgt := 7) C.1 C.2.1 dX8_aimless_22 (by decide) ?_
      exact ih7 v2_8 x_7 _ _ _ hw G (lv_sub hl [1, 2, 0] rfl)
  have hX7 : ∀ (v2_3 : Int) (x_4 : Mm) (H : Heap) (locs : List Loc) (ls : Array Slot), wX_X8_aimless_7 post z_2 v2_3 x_4 → fG D cy L ad (fAr L ad s.heap.size) s x_4 H locs → lv_has ls 3 [(0, .ref (ad 60)), (1, .int (iI z_2)), (2, .int (iI v2_3))] → W p l e (headSpec wsX8_aimless rm_X8_aimless).room s m args below meth c H locs 0 0 (fQi below D cy L ad s args post) (F0 m 25 ls []) := by
    intro v2_3 x_4 H locs ls hw G hl
    refine lv_iload_n C.1 C.2.1 dX8_aimless_25 rfl (lv_at hl 1 rfl) ?_
    exact fr_iret C G hr hlk hw dX8_aimless_26
  have hB7 : ∀ (n : Nat) (v2_3 : Int) (x_4 : Mm) (H : Heap) (locs : List Loc) (ls : Array Slot), lk2 (wB_X8_aimless_7 (wX_X8_aimless_7 post z_2)) n v2_3 x_4 → fG D cy L ad (fAr L ad s.heap.size) s x_4 H locs → lv_has ls 3 [(0, .ref (ad 60)), (1, .int (iI z_2)), (2, .int (iI v2_3))] → W p l e (headSpec wsX8_aimless rm_X8_aimless).room s m args below meth c H locs 0 0 (fQi below D cy L ad s args post) (F0 m 7 ls []) := by
    intro n
    induction n with
    | zero =>
      intro v2_3 x_4 H locs ls hw
      exact hw.elim
    | succ n ih =>
      intro v2_3 x_4 H locs ls hw G hl
      exact hS7 _ _ hX7 ih v2_3 x_4 H locs ls hw G hl
  exact hB7 n7 0 x_1 _ _ _ hw G (lv_sub hl [2, 1, 0] rfl)
