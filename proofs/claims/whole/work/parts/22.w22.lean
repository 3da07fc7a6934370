def wX_X8_even_38 (post : Int → Mm → Prop) (v3_9 : Int) (v4_10 : Int) (x_11 : Mm) : Prop :=
  rg v3_9 ∧ (if v3_9 = 0 then (post 0 x_11) else (post 1 x_11))
def wB_X8_even_38 (a1 : Int) (a2 : Int) (kx_38 bk_38 : Int → Int → Mm → Prop) (v3_9 : Int) (v4_10 : Int) (x_11 : Mm) : Prop :=
  (rg v4_10 ∧ rg (x_11 60 15)) ∧ (if (x_11 60 15) ≤ v4_10 then (kx_38 v3_9 v4_10 x_11) else (w_X8_take 61 a1 x_11 (fun x_15 => w_X8_toneBy v4_10 0 x_15 (fun z_17 x_16 => w_X8_take 61 a2 x_16 (fun x_18 => w_X8_toneBy v4_10 0 x_18 (fun z_20 x_19 => ∀ v5_21 : Int, v5_21 = z_17 - z_20 → rg v3_9 ∧ (if v3_9 = 0 then (∀ v4_23 : Int, v4_23 = v4_10 + 1 → bk_38 0 v4_23 x_19) else (w_X8_in v5_21 (-(x_19 60 13)) (x_19 60 13) x_19 (fun z_25 x_24 => rg z_25 ∧ (if z_25 = 0 then (∀ v4_27 : Int, v4_27 = v4_10 + 1 → bk_38 0 v4_27 x_24) else (∀ v4_28 : Int, v4_28 = v4_10 + 1 → bk_38 1 v4_28 x_24)))))))))))
def w_X8_even (a1 a2 : Int) (x : Mm) (post : Int → Mm → Prop) : Prop :=
  w_X8_isPlate a1 x (fun z_2 x_1 => rg z_2 ∧ (if z_2 = 0 then (post (-2) x_1) else (w_X8_isPlate a2 x_1 (fun z_5 x_4 => rg z_5 ∧ (if z_5 = 0 then (post (-2) x_4) else (w_X8_findWoods x_4 (fun x_7 => rg (x_7 60 15) ∧ (if (x_7 60 15) = 0 then (post (-3) x_7) else (∃ n : Nat, lk3 (wB_X8_even_38 a1 a2 (wX_X8_even_38 post)) n 1 0 x_7)))))))))
abbrev rm_X8_even : Room := { frames := 4, cells := 0, slots := 0, locals := 106 }
theorem iw_X8_even_X8 : ∀ w ∈ u_ws RX8 TX8 20, w ∈ wsX8_even := by decide +kernel
theorem fl_X8_even_107 : Cond.fieldLink RX8 107 (TX8 15).1 (TX8 15).2.1 (TX8 15).2.2.1 ∈ wsX8_even := by decide +kernel
theorem fl_X8_even_7 : Cond.fieldLink RX8 7 (TX8 1).1 (TX8 1).2.1 (TX8 1).2.2.1 ∈ wsX8_even := by decide +kernel
theorem fl_X8_even_45 : Cond.fieldLink RX8 45 (TX8 13).1 (TX8 13).2.1 (TX8 13).2.2.1 ∈ wsX8_even := by decide +kernel
set_option maxHeartbeats 4000000 in
set_option maxRecDepth 100000 in
theorem c_X8_even (l : Launch) (D : va_G) (cy : Nat → ClassId) (L : List Nat) (ad : Nat → Nat) (sz : Nat) (hL : fLM L) (a1 a2 : Int) (x : Mm) (post : Int → Mm → Prop) (hw : w_X8_even a1 a2 x post) : fMi l yX8_even wsX8_even rm_X8_even [.ref (ad 60), .int (iI a1), .int (iI a2)] D cy L ad sz x post := by
  refine Met.ofW (cc := cX8_even) (maxL := 6) (ret := (some .int)) (by decide) rfl ?_
  intro p e s m args below meth c s₁ B hml hv
  obtain ⟨hargs, hp⟩ := hv
  obtain ⟨C, hr, hlk, hsz, G⟩ := fr_start B hml hp
  subst hsz
  obtain ⟨ls, els, hl⟩ := fr_entry (m := m) (n := 6) hargs (Nat.le_of_ble_eq_true rfl)
  rw [els]
  have hl : lv_has ls 6 [(0, .ref (ad 60)), (1, .int (iI a1)), (2, .int (iI a2))] := hl
  clear els hargs hp B
  refine lv_aload_n C.1 C.2.1 dX8_even_0 rfl (lv_at hl 0 rfl) ?_
  refine lv_iload_n C.1 C.2.1 dX8_even_1 rfl (lv_at hl 1 rfl) ?_
  refine fr_Vi C G (c_X8_isPlate l D cy L ad _ hL a1 x _ hw) (cwV 1 C.2.2.2.2 gX8_even_X8_isPlate rfl rfl rfl (by decide +kernel) ⟨Nat.le_of_ble_eq_true rfl, Nat.le_of_ble_eq_true rfl⟩) (G.recv (hL _ (by omega)) (cl_60 _) rfl) rfl hl.1 rfl (Nat.le_of_ble_eq_true rfl) dX8_even_2 ⟨Nat.zero_le _, Nat.zero_le _⟩ (fun z_2 x_1 H locs hw G => ?_)
  obtain ⟨hc_34, hw⟩ := hw
  refine fr_eq0 (tgt := 16) C dX8_even_5 (by decide) hc_34 (fun q_3 => ?_) (fun q_3 => ?_)
  · have hw := if_p hw q_3
    refine fr_bi C dX8_even_16 rfl ?_
    exact fr_iret C G hr hlk hw dX8_even_18
  · have hw := if_n hw q_3
    refine lv_aload_n C.1 C.2.1 dX8_even_8 rfl (lv_at hl 0 rfl) ?_
    refine lv_iload_n C.1 C.2.1 dX8_even_9 rfl (lv_at hl 2 rfl) ?_
    refine fr_Vi C G (c_X8_isPlate l D cy L ad _ hL a2 x_1 _ hw) (cwV 1 C.2.2.2.2 gX8_even_X8_isPlate rfl rfl rfl (by decide +kernel) ⟨Nat.le_of_ble_eq_true rfl, Nat.le_of_ble_eq_true rfl⟩) (G.recv (hL _ (by omega)) (cl_60 _) rfl) rfl hl.1 rfl (Nat.le_of_ble_eq_true rfl) dX8_even_10 ⟨Nat.zero_le _, Nat.zero_le _⟩ (fun z_5 x_4 H locs hw G => ?_)
    obtain ⟨hc_33, hw⟩ := hw
    refine fr_ne0 (tgt := 19) C dX8_even_13 (by decide) hc_33 (fun q_6 => ?_) (fun q_6 => ?_)
    · have hw := if_p hw q_6
      refine fr_bi C dX8_even_16 rfl ?_
      exact fr_iret C G hr hlk hw dX8_even_18
    · have hw := if_n hw q_6
      refine lv_aload_n C.1 C.2.1 dX8_even_19 rfl (lv_at hl 0 rfl) ?_
      refine fr_Vv C G (c_X8_findWoods l D cy L ad _ hL x_4 _ hw) (cwV 0 C.2.2.2.2 gX8_even_X8_findWoods rfl rfl rfl (by decide +kernel) ⟨Nat.le_of_ble_eq_true rfl, Nat.le_of_ble_eq_true rfl⟩) (G.recv (hL _ (by omega)) (cl_60 _) rfl) rfl hl.1 rfl (Nat.le_of_ble_eq_true rfl) dX8_even_20 ⟨Nat.zero_le _, Nat.zero_le _⟩ (fun x_7 H locs hw G => ?_)
      refine lv_aload_n C.1 C.2.1 dX8_even_23 rfl (lv_at hl 0 rfl) ?_
      refine fr_get C G 60 (hL _ (by omega)) (cl_60 _) rfl iw_X8_even_X8 15 (by decide) fl_X8_even_107 rfl dX8_even_24 ?_
      obtain ⟨hc_32, hw⟩ := hw
      refine fr_ne0 (tgt := 33) C dX8_even_27 (by decide) hc_32 (fun q_8 => ?_) (fun q_8 => ?_)
      · have hw := if_p hw q_8
        refine fr_bi C dX8_even_30 rfl ?_
        exact fr_iret C G hr hlk hw dX8_even_32
      · have hw := if_n hw q_8
        refine fr_ic C dX8_even_33 ?_
        refine lv_istore_n (lv' := [(3, .int (iI 1)), (0, .ref (ad 60)), (1, .int (iI a1)), (2, .int (iI a2))]) C.1 C.2.1 dX8_even_34 rfl hl (by decide) rfl (fun ls hl => ?_)
        refine fr_ic C dX8_even_35 ?_
        refine lv_istore (lv' := [(4, .int (iI 0)), (3, .int (iI 1)), (0, .ref (ad 60)), (1, .int (iI a1)), (2, .int (iI a2))]) C.1 C.2.1 dX8_even_36 hl (by decide) rfl (fun ls hl => ?_)
        obtain ⟨n38, hw⟩ := hw
        have hS38 : ∀ (kx_38 bk_38 : Int → Int → Mm → Prop), (∀ (v3_9 : Int) (v4_10 : Int) (x_11 : Mm) (H : Heap) (locs : List Loc) (ls : Array Slot), kx_38 v3_9 v4_10 x_11 → fG D cy L ad (fAr L ad s.heap.size) s x_11 H locs → lv_has ls 6 [(0, .ref (ad 60)), (1, .int (iI a1)), (2, .int (iI a2)), (3, .int (iI v3_9)), (4, .int (iI v4_10))] → W p l e (headSpec wsX8_even rm_X8_even).room s m args below meth c H locs 0 0 (fQi below D cy L ad s args post) (F0 m 119 ls [])) → (∀ (v3_9 : Int) (v4_10 : Int) (x_11 : Mm) (H : Heap) (locs : List Loc) (ls : Array Slot), bk_38 v3_9 v4_10 x_11 → fG D cy L ad (fAr L ad s.heap.size) s x_11 H locs → lv_has ls 6 [(0, .ref (ad 60)), (1, .int (iI a1)), (2, .int (iI a2)), (3, .int (iI v3_9)), (4, .int (iI v4_10))] → W p l e (headSpec wsX8_even rm_X8_even).room s m args below meth c H locs 0 0 (fQi below D cy L ad s args post) (F0 m 38 ls [])) → ∀ (v3_9 : Int) (v4_10 : Int) (x_11 : Mm) (H : Heap) (locs : List Loc) (ls : Array Slot), wB_X8_even_38 a1 a2 kx_38 bk_38 v3_9 v4_10 x_11 → fG D cy L ad (fAr L ad s.heap.size) s x_11 H locs → lv_has ls 6 [(0, .ref (ad 60)), (1, .int (iI a1)), (2, .int (iI a2)), (3, .int (iI v3_9)), (4, .int (iI v4_10))] → W p l e (headSpec wsX8_even rm_X8_even).room s m args below meth c H locs 0 0 (fQi below D cy L ad s args post) (F0 m 38 ls []) := by
          intro kx_38 bk_38 hX38 ih38 v3_9 v4_10 x_11 H locs ls hw G hl
          refine lv_iload C.1 C.2.1 dX8_even_38 (lv_at hl 4 rfl) ?_
          refine lv_aload_n C.1 C.2.1 dX8_even_40 rfl (lv_at hl 0 rfl) ?_
          refine fr_get C G 60 (hL _ (by omega)) (cl_60 _) rfl iw_X8_even_X8 15 (by decide) fl_X8_even_107 rfl dX8_even_41 ?_
          obtain ⟨hc_31, hw⟩ := hw
          refine fr_ge (tgt := 119) C dX8_even_44 (by decide) hc_31 (fun q_14 => ?_) (fun q_14 => ?_)
          · have hw := if_p hw q_14
            exact hX38 v3_9 v4_10 x_11 _ _ _ hw G (lv_sub hl [0, 1, 2, 3, 4] rfl)
          · have hw := if_n hw q_14
            refine lv_aload_n C.1 C.2.1 dX8_even_47 rfl (lv_at hl 0 rfl) ?_
            refine lv_aload_n C.1 C.2.1 dX8_even_48 rfl (lv_at hl 0 rfl) ?_
            refine fr_get C G 60 (hL _ (by omega)) (cl_60 _) rfl iw_X8_even_X8 1 (by decide) fl_X8_even_7 rfl dX8_even_49 ?_
            refine lv_iload_n C.1 C.2.1 dX8_even_52 rfl (lv_at hl 1 rfl) ?_
            refine fr_Vv C G (c_X8_take l D cy L ad _ hL 61 (hL _ (by omega)) ⟨by decide, by decide⟩ a1 x_11 _ hw) (cwV 2 C.2.2.2.2 gX8_even_X8_take rfl rfl rfl (by decide +kernel) ⟨Nat.le_of_ble_eq_true rfl, Nat.le_of_ble_eq_true rfl⟩) (G.recv (hL _ (by omega)) (cl_60 _) rfl) rfl hl.1 rfl (Nat.le_of_ble_eq_true rfl) dX8_even_53 ⟨Nat.zero_le _, Nat.zero_le _⟩ (fun x_15 H locs hw G => ?_)
            refine lv_aload_n C.1 C.2.1 dX8_even_56 rfl (lv_at hl 0 rfl) ?_
            refine lv_iload C.1 C.2.1 dX8_even_57 (lv_at hl 4 rfl) ?_
            refine fr_ic C dX8_even_59 ?_
            refine fr_Vi C G (c_X8_toneBy l D cy L ad _ hL v4_10 0 x_15 _ hw) (cwV 2 C.2.2.2.2 gX8_even_X8_toneBy rfl rfl rfl (by decide +kernel) ⟨Nat.le_of_ble_eq_true rfl, Nat.le_of_ble_eq_true rfl⟩) (G.recv (hL _ (by omega)) (cl_60 _) rfl) rfl hl.1 rfl (Nat.le_of_ble_eq_true rfl) dX8_even_60 ⟨Nat.zero_le _, Nat.zero_le _⟩ (fun z_17 x_16 H locs hw G => ?_)
            refine lv_istore (lv' := [(5, .int (iI z_17)), (0, .ref (ad 60)), (1, .int (iI a1)), (2, .int (iI a2)), (3, .int (iI v3_9)), (4, .int (iI v4_10))]) C.1 C.2.1 dX8_even_63 hl (by decide) rfl (fun ls hl => ?_)
            refine lv_aload_n C.1 C.2.1 dX8_even_65 rfl (lv_at hl 1 rfl) ?_
            refine lv_aload_n C.1 C.2.1 dX8_even_66 rfl (lv_at hl 1 rfl) ?_
            refine fr_get C G 60 (hL _ (by omega)) (cl_60 _) rfl iw_X8_even_X8 1 (by decide) fl_X8_even_7 rfl dX8_even_67 ?_
            refine lv_iload_n C.1 C.2.1 dX8_even_70 rfl (lv_at hl 3 rfl) ?_
            refine fr_Vv C G (c_X8_take l D cy L ad _ hL 61 (hL _ (by omega)) ⟨by decide, by decide⟩ a2 x_16 _ hw) (cwV 2 C.2.2.2.2 gX8_even_X8_take rfl rfl rfl (by decide +kernel) ⟨Nat.le_of_ble_eq_true rfl, Nat.le_of_ble_eq_true rfl⟩) (G.recv (hL _ (by omega)) (cl_60 _) rfl) rfl hl.1 rfl (Nat.le_of_ble_eq_true rfl) dX8_even_71 ⟨Nat.zero_le _, Nat.zero_le _⟩ (fun x_18 H locs hw G => ?_)
            refine lv_iload C.1 C.2.1 dX8_even_74 (lv_at hl 0 rfl) ?_
            refine lv_aload_n C.1 C.2.1 dX8_even_76 rfl (lv_at hl 1 rfl) ?_
            refine lv_iload C.1 C.2.1 dX8_even_77 (lv_at hl 5 rfl) ?_
            refine fr_ic C dX8_even_79 ?_
            refine fr_Vi C G (c_X8_toneBy l D cy L ad _ hL v4_10 0 x_18 _ hw) (cwV 2 C.2.2.2.2 gX8_even_X8_toneBy rfl rfl rfl (by decide +kernel) ⟨Nat.le_of_ble_eq_true rfl, Nat.le_of_ble_eq_true rfl⟩) (G.recv (hL _ (by omega)) (cl_60 _) rfl) rfl hl.1 rfl (Nat.le_of_ble_eq_true rfl) dX8_even_80 ⟨Nat.zero_le _, Nat.zero_le _⟩ (fun z_20 x_19 H locs hw G => ?_)
            refine fr_isub C dX8_even_83 ?_
            refine fr_nm (fun v5_21 ev5_21 => ?_)
            have hw := hw v5_21 ev5_21
            refine lv_istore (lv' := [(5, .int (iI v5_21)), (0, .ref (ad 60)), (1, .int (iI a1)), (2, .int (iI a2)), (3, .int (iI v3_9)), (4, .int (iI v4_10))]) C.1 C.2.1 dX8_even_84 hl (by decide) rfl (fun ls hl => ?_)
            refine lv_iload_n C.1 C.2.1 dX8_even_86 rfl (lv_at hl 4 rfl) ?_
            obtain ⟨hc_30, hw⟩ := hw
            refine fr_eq0 (tgt := 111) C dX8_even_87 (by decide) hc_30 (fun q_22 => ?_) (fun q_22 => ?_)
            · have hw := if_p hw q_22
              refine fr_ic C dX8_even_111 ?_
              refine lv_istore_n (lv' := [(3, .int (iI 0)), (5, .int (iI v5_21)), (0, .ref (ad 60)), (1, .int (iI a1)), (2, .int (iI a2)), (4, .int (iI v4_10))]) C.1 C.2.1 dX8_even_112 rfl hl (by decide) rfl (fun ls hl => ?_)
              obtain ⟨v4_23, ev4_23⟩ : ∃ z : Int, z = v4_10 + 1 := ⟨_, rfl⟩
              have hw := hw v4_23 ev4_23
              refine lv_iinc (v := iI v4_23) (lv' := [(4, .int (iI v4_23)), (3, .int (iI 0)), (5, .int (iI v5_21)), (0, .ref (ad 60)), (1, .int (iI a1)), (2, .int (iI a2))]) C.1 C.2.1 dX8_even_113 hl (k := 5) rfl (by rw [ev4_23]; exact iI_add _ _) (by decide) rfl (fun ls hl => ?_)
              refine lv_goto (tgt := 38) C.1 C.2.1 dX8_even_116 (by decide) ?_
              exact ih38 0 v4_23 x_19 _ _ _ hw G (lv_sub hl [3, 4, 5, 1, 0] rfl)
            · have hw := if_n hw q_22
              refine lv_iload C.1 C.2.1 dX8_even_90 (lv_at hl 0 rfl) ?_
              refine lv_aload_n C.1 C.2.1 dX8_even_92 rfl (lv_at hl 1 rfl) ?_
              refine fr_get C G 60 (hL _ (by omega)) (cl_60 _) rfl iw_X8_even_X8 13 (by decide) fl_X8_even_45 rfl dX8_even_93 ?_
              refine fr_ineg C dX8_even_96 ?_
              refine lv_aload_n C.1 C.2.1 dX8_even_97 rfl (lv_at hl 1 rfl) ?_
              refine fr_get C G 60 (hL _ (by omega)) (cl_60 _) rfl iw_X8_even_X8 13 (by decide) fl_X8_even_45 rfl dX8_even_98 ?_
              refine fr_Si C G (c_X8_in l D cy L ad _ v5_21 (-(x_19 60 13)) (x_19 60 13) x_19 _ hw) (va_cwS 3 C.2.2.2.2 gX8_even_X8_in rfl rfl rfl (by decide +kernel) ⟨Nat.le_of_ble_eq_true rfl, Nat.le_of_ble_eq_true rfl⟩) rfl hl.1 rfl (Nat.le_of_ble_eq_true rfl) dX8_even_101 ⟨Nat.zero_le _, Nat.zero_le _⟩ (fun z_25 x_24 H locs hw G => ?_)
              obtain ⟨hc_29, hw⟩ := hw
              refine fr_eq0 (tgt := 111) C dX8_even_104 (by decide) hc_29 (fun q_26 => ?_) (fun q_26 => ?_)
              · have hw := if_p hw q_26
                refine fr_ic C dX8_even_111 ?_
                refine lv_istore_n (lv' := [(3, .int (iI 0)), (5, .int (iI v5_21)), (0, .ref (ad 60)), (1, .int (iI a1)), (2, .int (iI a2)), (4, .int (iI v4_10))]) C.1 C.2.1 dX8_even_112 rfl hl (by decide) rfl (fun ls hl => ?_)
                obtain ⟨v4_27, ev4_27⟩ : ∃ z : Int, z = v4_10 + 1 := ⟨_, rfl⟩
                have hw := hw v4_27 ev4_27
                refine lv_iinc (v := iI v4_27) (lv' := [(4, .int (iI v4_27)), (3, .int (iI 0)), (5, .int (iI v5_21)), (0, .ref (ad 60)), (1, .int (iI a1)), (2, .int (iI a2))]) C.1 C.2.1 dX8_even_113 hl (k := 5) rfl (by rw [ev4_27]; exact iI_add _ _) (by decide) rfl (fun ls hl => ?_)
                refine lv_goto (tgt := 38) C.1 C.2.1 dX8_even_116 (by decide) ?_
                exact ih38 0 v4_27 x_24 _ _ _ hw G (lv_sub hl [3, 4, 5, 1, 0] rfl)
              · have hw := if_n hw q_26
                refine fr_ic C dX8_even_107 ?_
                refine lv_goto (tgt := 112) C.1 C.2.1 dX8_even_108 (by decide) ?_
                refine lv_istore_n (lv' := [(3, .int (iI 1)), (5, .int (iI v5_21)), (0, .ref (ad 60)), (1, .int (iI a1)), (2, .int (iI a2)), (4, .int (iI v4_10))]) C.1 C.2.1 dX8_even_112 rfl hl (by decide) rfl (fun ls hl => ?_)
                obtain ⟨v4_28, ev4_28⟩ : ∃ z : Int, z = v4_10 + 1 := ⟨_, rfl⟩
                have hw := hw v4_28 ev4_28
                refine lv_iinc (v := iI v4_28) (lv' := [(4, .int (iI v4_28)), (3, .int (iI 1)), (5, .int (iI v5_21)), (0, .ref (ad 60)), (1, .int (iI a1)), (2, .int (iI a2))]) C.1 C.2.1 dX8_even_113 hl (k := 5) rfl (by rw [ev4_28]; exact iI_add _ _) (by decide) rfl (fun ls hl => ?_)
                refine lv_goto (tgt := 38) C.1 C.2.1 dX8_even_116 (by decide) ?_
                exact ih38 1 v4_28 x_24 _ _ _ hw G (lv_sub hl [3, 4, 5, 1, 0] rfl)
        have hX38 : ∀ (v3_9 : Int) (v4_10 : Int) (x_11 : Mm) (H : Heap) (locs : List Loc) (ls : Array Slot), wX_X8_even_38 post v3_9 v4_10 x_11 → fG D cy L ad (fAr L ad s.heap.size) s x_11 H locs → lv_has ls 6 [(0, .ref (ad 60)), (1, .int (iI a1)), (2, .int (iI a2)), (3, .int (iI v3_9)), (4, .int (iI v4_10))] → W p l e (headSpec wsX8_even rm_X8_even).room s m args below meth c H locs 0 0 (fQi below D cy L ad s args post) (F0 m 119 ls []) := by
          intro v3_9 v4_10 x_11 H locs ls hw G hl
          refine lv_iload_n C.1 C.2.1 dX8_even_119 rfl (lv_at hl 3 rfl) ?_
          obtain ⟨hc_13, hw⟩ := hw
          refine fr_eq0 (tgt := 127) C dX8_even_120 (by decide) hc_13 (fun q_12 => ?_) (fun q_12 => ?_)
          · have hw := if_p hw q_12
            refine fr_ic C dX8_even_127 ?_
            exact fr_iret C G hr hlk hw dX8_even_128
          · have hw := if_n hw q_12
            refine fr_ic C dX8_even_123 ?_
            refine lv_goto (tgt := 128) C.1 C.2.1 dX8_even_124 (by decide) ?_
            exact fr_iret C G hr hlk hw dX8_even_128
        have hB38 : ∀ (n : Nat) (v3_9 : Int) (v4_10 : Int) (x_11 : Mm) (H : Heap) (locs : List Loc) (ls : Array Slot), lk3 (wB_X8_even_38 a1 a2 (wX_X8_even_38 post)) n v3_9 v4_10 x_11 → fG D cy L ad (fAr L ad s.heap.size) s x_11 H locs → lv_has ls 6 [(0, .ref (ad 60)), (1, .int (iI a1)), (2, .int (iI a2)), (3, .int (iI v3_9)), (4, .int (iI v4_10))] → W p l e (headSpec wsX8_even rm_X8_even).room s m args below meth c H locs 0 0 (fQi below D cy L ad s args post) (F0 m 38 ls []) := by
          intro n
          induction n with
          | zero =>
            intro v3_9 v4_10 x_11 H locs ls hw
            exact hw.elim
          | succ n ih =>
            intro v3_9 v4_10 x_11 H locs ls hw G hl
            exact hS38 _ _ hX38 ih v3_9 v4_10 x_11 H locs ls hw G hl
        exact hB38 n38 1 0 x_7 _ _ _ hw G (lv_sub hl [2, 3, 4, 1, 0] rfl)
def wX_X8_count_49 (x : Mm) (post : Int → Mm → Prop) (v2_7 : Int) (v3_8 : Int) : Prop :=
  post v2_7 x
def wB_X8_count_49 (x : Mm) (kx_49 bk_49 : Int → Int → Prop) (v2_7 : Int) (v3_8 : Int) : Prop :=
  (rg v3_8 ∧ rg (x 60 0)) ∧ (if (x 60 0) ≤ v3_8 then (kx_49 v2_7 v3_8) else ((0 ≤ v3_8 ∧ v3_8 < 4) ∧ ∀ v2_11 : Int, v2_11 = v2_7 + (x 62 (v3_8).toNat) → ∀ v3_12 : Int, v3_12 = v3_8 + 1 → bk_49 v2_11 v3_12))
def w_X8_count (a1 : Int) (x : Mm) (post : Int → Mm → Prop) : Prop :=
  rg a1 ∧ (if a1 = 0 then (post (x 60 0) x) else (if a1 = 1 then (post (x 60 5) x) else (if a1 = 2 then (w_X8_aims x (fun z_5 x_4 => post z_5 x_4)) else (if a1 = 3 then (∃ n : Nat, lk2 (wB_X8_count_49 x (wX_X8_count_49 x post)) n 0 0) else (post (-2) x)))))
abbrev rm_X8_count : Room := { frames := 1, cells := 0, slots := 0, locals := 22 }
theorem iw_X8_count_X8 : ∀ w ∈ u_ws RX8 TX8 20, w ∈ wsX8_count := by decide +kernel
theorem fl_X8_count_64 : Cond.fieldLink RX8 64 (TX8 0).1 (TX8 0).2.1 (TX8 0).2.2.1 ∈ wsX8_count := by decide +kernel
theorem fl_X8_count_104 : Cond.fieldLink RX8 104 (TX8 5).1 (TX8 5).2.1 (TX8 5).2.2.1 ∈ wsX8_count := by decide +kernel
theorem fl_X8_count_17 : Cond.fieldLink RX8 17 (TX8 3).1 (TX8 3).2.1 (TX8 3).2.2.1 ∈ wsX8_count := by decide +kernel
set_option maxHeartbeats 4000000 in
set_option maxRecDepth 100000 in
theorem c_X8_count (l : Launch) (D : va_G) (cy : Nat → ClassId) (L : List Nat) (ad : Nat → Nat) (sz : Nat) (hL : fLM L) (a1 : Int) (x : Mm) (post : Int → Mm → Prop) (hw : w_X8_count a1 x post) : fMi l yX8_count wsX8_count rm_X8_count [.ref (ad 60), .int (iI a1)] D cy L ad sz x post := by
  refine Met.ofW (cc := cX8_count) (maxL := 4) (ret := (some .int)) (by decide) rfl ?_
  intro p e s m args below meth c s₁ B hml hv
  obtain ⟨hargs, hp⟩ := hv
  obtain ⟨C, hr, hlk, hsz, G⟩ := fr_start B hml hp
  subst hsz
  obtain ⟨ls, els, hl⟩ := fr_entry (m := m) (n := 4) hargs (Nat.le_of_ble_eq_true rfl)
  rw [els]
  have hl : lv_has ls 4 [(0, .ref (ad 60)), (1, .int (iI a1))] := hl
  clear els hargs hp B
  refine fr_ic C dX8_count_0 ?_
  refine lv_istore_n (lv' := [(2, .int (iI 0)), (0, .ref (ad 60)), (1, .int (iI a1))]) C.1 C.2.1 dX8_count_1 rfl hl (by decide) rfl (fun ls hl => ?_)
  refine lv_iload_n C.1 C.2.1 dX8_count_2 rfl (lv_at hl 2 rfl) ?_
  obtain ⟨hc_1, hw⟩ := hw
  by_cases q_2 : a1 = 0
  · have hw := if_p hw q_2
    refine lv_tableIn (off := 29) (tgt := 32) C.1 C.2.1 dX8_count_3 (by rw [iI_toInt hc_1]; omega) (by rw [iI_toInt hc_1]; omega) (by rw [iI_toInt hc_1, q_2]; rfl) (by decide) ?_
    refine lv_aload_n C.1 C.2.1 dX8_count_32 rfl (lv_at hl 1 rfl) ?_
    refine fr_get C G 60 (hL _ (by omega)) (cl_60 _) rfl iw_X8_count_X8 0 (by decide) fl_X8_count_64 rfl dX8_count_33 ?_
    exact fr_iret C G hr hlk hw dX8_count_36
  · have hw := if_n hw q_2
    by_cases q_3 : a1 = 1
    · have hw := if_p hw q_3
      refine lv_tableIn (off := 34) (tgt := 37) C.1 C.2.1 dX8_count_3 (by rw [iI_toInt hc_1]; omega) (by rw [iI_toInt hc_1]; omega) (by rw [iI_toInt hc_1, q_3]; rfl) (by decide) ?_
      refine lv_aload_n C.1 C.2.1 dX8_count_37 rfl (lv_at hl 1 rfl) ?_
      refine fr_get C G 60 (hL _ (by omega)) (cl_60 _) rfl iw_X8_count_X8 5 (by decide) fl_X8_count_104 rfl dX8_count_38 ?_
      exact fr_iret C G hr hlk hw dX8_count_41
    · have hw := if_n hw q_3
      by_cases q_6 : a1 = 2
      · have hw := if_p hw q_6
        refine lv_tableIn (off := 39) (tgt := 42) C.1 C.2.1 dX8_count_3 (by rw [iI_toInt hc_1]; omega) (by rw [iI_toInt hc_1]; omega) (by rw [iI_toInt hc_1, q_6]; rfl) (by decide) ?_
        refine lv_aload_n C.1 C.2.1 dX8_count_42 rfl (lv_at hl 1 rfl) ?_
        refine fr_Vi C G (c_X8_aims l D cy L ad _ hL x _ hw) (cwV 0 C.2.2.2.2 gX8_count_X8_aims rfl rfl rfl (by decide +kernel) ⟨Nat.le_of_ble_eq_true rfl, Nat.le_of_ble_eq_true rfl⟩) (G.recv (hL _ (by omega)) (cl_60 _) rfl) rfl hl.1 rfl (Nat.le_of_ble_eq_true rfl) dX8_count_43 ⟨Nat.zero_le _, Nat.zero_le _⟩ (fun z_5 x_4 H locs hw G => ?_)
        exact fr_iret C G hr hlk hw dX8_count_46
      · have hw := if_n hw q_6
        by_cases q_14 : a1 = 3
        · have hw := if_p hw q_14
          refine lv_tableIn (off := 44) (tgt := 47) C.1 C.2.1 dX8_count_3 (by rw [iI_toInt hc_1]; omega) (by rw [iI_toInt hc_1]; omega) (by rw [iI_toInt hc_1, q_14]; rfl) (by decide) ?_
          refine fr_ic C dX8_count_47 ?_
          refine lv_istore_n (lv' := [(3, .int (iI 0)), (2, .int (iI 0)), (0, .ref (ad 60)), (1, .int (iI a1))]) C.1 C.2.1 dX8_count_48 rfl hl (by decide) rfl (fun ls hl => ?_)
          obtain ⟨n49, hw⟩ := hw
          have hS49 : ∀ (kx_49 bk_49 : Int → Int → Prop), (∀ (v2_7 : Int) (v3_8 : Int) (H : Heap) (locs : List Loc) (ls : Array Slot), kx_49 v2_7 v3_8 → fG D cy L ad (fAr L ad s.heap.size) s x H locs → lv_has ls 4 [(0, .ref (ad 60)), (1, .int (iI a1)), (2, .int (iI v2_7)), (3, .int (iI v3_8))] → W p l e (headSpec wsX8_count rm_X8_count).room s m args below meth c H locs 0 0 (fQi below D cy L ad s args post) (F0 m 72 ls [])) → (∀ (v2_7 : Int) (v3_8 : Int) (H : Heap) (locs : List Loc) (ls : Array Slot), bk_49 v2_7 v3_8 → fG D cy L ad (fAr L ad s.heap.size) s x H locs → lv_has ls 4 [(0, .ref (ad 60)), (1, .int (iI a1)), (2, .int (iI v2_7)), (3, .int (iI v3_8))] → W p l e (headSpec wsX8_count rm_X8_count).room s m args below meth c H locs 0 0 (fQi below D cy L ad s args post) (F0 m 49 ls [])) → ∀ (v2_7 : Int) (v3_8 : Int) (H : Heap) (locs : List Loc) (ls : Array Slot), wB_X8_count_49 x kx_49 bk_49 v2_7 v3_8 → fG D cy L ad (fAr L ad s.heap.size) s x H locs → lv_has ls 4 [(0, .ref (ad 60)), (1, .int (iI a1)), (2, .int (iI v2_7)), (3, .int (iI v3_8))] → W p l e (headSpec wsX8_count rm_X8_count).room s m args below meth c H locs 0 0 (fQi below D cy L ad s args post) (F0 m 49 ls []) := by
            intro kx_49 bk_49 hX49 ih49 v2_7 v3_8 H locs ls hw G hl
            refine lv_iload_n C.1 C.2.1 dX8_count_49 rfl (lv_at hl 3 rfl) ?_
            refine lv_aload_n C.1 C.2.1 dX8_count_50 rfl (lv_at hl 0 rfl) ?_
            refine fr_get C G 60 (hL _ (by omega)) (cl_60 _) rfl iw_X8_count_X8 0 (by decide) fl_X8_count_64 rfl dX8_count_51 ?_
            obtain ⟨hc_13, hw⟩ := hw
            refine fr_ge (tgt := 72) C dX8_count_54 (by decide) hc_13 (fun q_9 => ?_) (fun q_9 => ?_)
            · have hw := if_p hw q_9
              exact hX49 v2_7 v3_8 _ _ _ hw G (lv_sub hl [0, 1, 2, 3] rfl)
            · have hw := if_n hw q_9
              refine lv_iload_n C.1 C.2.1 dX8_count_57 rfl (lv_at hl 2 rfl) ?_
              refine lv_aload_n C.1 C.2.1 dX8_count_58 rfl (lv_at hl 0 rfl) ?_
              refine fr_get C G 60 (hL _ (by omega)) (cl_60 _) rfl iw_X8_count_X8 3 (by decide) fl_X8_count_17 rfl dX8_count_59 ?_
              refine lv_iload_n C.1 C.2.1 dX8_count_62 rfl (lv_at hl 3 rfl) ?_
              obtain ⟨hb_10, hw⟩ := hw
              refine fr_iald C G 62 4 (hL _ (by omega)) rfl ⟨by decide, by decide⟩ hb_10 dX8_count_63 ?_
              refine fr_iadd C dX8_count_64 ?_
              refine fr_nm (fun v2_11 ev2_11 => ?_)
              have hw := hw v2_11 ev2_11
              refine lv_istore_n (lv' := [(2, .int (iI v2_11)), (0, .ref (ad 60)), (1, .int (iI a1)), (3, .int (iI v3_8))]) C.1 C.2.1 dX8_count_65 rfl hl (by decide) rfl (fun ls hl => ?_)
              obtain ⟨v3_12, ev3_12⟩ : ∃ z : Int, z = v3_8 + 1 := ⟨_, rfl⟩
              have hw := hw v3_12 ev3_12
              refine lv_iinc (v := iI v3_12) (lv' := [(3, .int (iI v3_12)), (2, .int (iI v2_11)), (0, .ref (ad 60)), (1, .int (iI a1))]) C.1 C.2.1 dX8_count_66 hl (k := 3) rfl (by rw [ev3_12]; exact iI_add _ _) (by decide) rfl (fun ls hl => ?_)
              refine lv_goto (tgt := 49) C.1 C.2.1 dX8_count_69 (by decide) ?_
              exact ih49 v2_11 v3_12 _ _ _ hw G (lv_sub hl [2, 3, 1, 0] rfl)
          have hX49 : ∀ (v2_7 : Int) (v3_8 : Int) (H : Heap) (locs : List Loc) (ls : Array Slot), wX_X8_count_49 x post v2_7 v3_8 → fG D cy L ad (fAr L ad s.heap.size) s x H locs → lv_has ls 4 [(0, .ref (ad 60)), (1, .int (iI a1)), (2, .int (iI v2_7)), (3, .int (iI v3_8))] → W p l e (headSpec wsX8_count rm_X8_count).room s m args below meth c H locs 0 0 (fQi below D cy L ad s args post) (F0 m 72 ls []) := by
            intro v2_7 v3_8 H locs ls hw G hl
            refine lv_iload_n C.1 C.2.1 dX8_count_72 rfl (lv_at hl 2 rfl) ?_
            exact fr_iret C G hr hlk hw dX8_count_73
          have hB49 : ∀ (n : Nat) (v2_7 : Int) (v3_8 : Int) (H : Heap) (locs : List Loc) (ls : Array Slot), lk2 (wB_X8_count_49 x (wX_X8_count_49 x post)) n v2_7 v3_8 → fG D cy L ad (fAr L ad s.heap.size) s x H locs → lv_has ls 4 [(0, .ref (ad 60)), (1, .int (iI a1)), (2, .int (iI v2_7)), (3, .int (iI v3_8))] → W p l e (headSpec wsX8_count rm_X8_count).room s m args below meth c H locs 0 0 (fQi below D cy L ad s args post) (F0 m 49 ls []) := by
            intro n
            induction n with
            | zero =>
              intro v2_7 v3_8 H locs ls hw
              exact hw.elim
            | succ n ih =>
              intro v2_7 v3_8 H locs ls hw G hl
              exact hS49 _ _ hX49 ih v2_7 v3_8 H locs ls hw G hl
          exact hB49 n49 0 0 _ _ _ hw G (lv_sub hl [2, 3, 1, 0] rfl)
        · have hw := if_n hw q_14
          refine lv_tableOut (tgt := 74) C.1 C.2.1 dX8_count_3 (by rw [iI_toInt hc_1]; omega) (by decide) ?_
          refine fr_bi C dX8_count_74 rfl ?_
          exact fr_iret C G hr hlk hw dX8_count_76
