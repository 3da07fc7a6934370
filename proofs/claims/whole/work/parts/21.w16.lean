def wX_X8_untap_39 (v2_5 : Int) (bk_29 : Int → Mm → Prop) (v3_8 : Int) (x_9 : Mm) : Prop :=
  (0 ≤ v2_5 + 1 ∧ v2_5 + 1 < 12) ∧ (0 ≤ v2_5 ∧ v2_5 < 12) ∧ (∀ x_12 : Mm, x_12 = up2 x_9 65 (v2_5).toNat (x_9 65 (v2_5 + 1).toNat) → (0 ≤ v2_5 + 1 ∧ v2_5 + 1 < 12) ∧ (0 ≤ v2_5 ∧ v2_5 < 12) ∧ (∀ x_15 : Mm, x_15 = up2 x_12 66 (v2_5).toNat (x_12 66 (v2_5 + 1).toNat) → (0 ≤ v2_5 + 1 ∧ v2_5 + 1 < 12) ∧ (0 ≤ v2_5 ∧ v2_5 < 12) ∧ (∀ x_18 : Mm, x_18 = up2 x_15 67 (v2_5).toNat (x_15 67 (v2_5 + 1).toNat) → ∀ v2_19 : Int, v2_19 = v2_5 + 1 → bk_29 v2_19 x_18)))
def wB_X8_untap_39 (v2_5 : Int) (kx_39 bk_39 : Int → Mm → Prop) (v3_8 : Int) (x_9 : Mm) : Prop :=
  rg v3_8 ∧ (if 4 ≤ v3_8 then (kx_39 v3_8 x_9) else ((0 ≤ ((4 * v2_5) + 4) + v3_8 ∧ ((4 * v2_5) + 4) + v3_8 < 48) ∧ (0 ≤ (4 * v2_5) + v3_8 ∧ (4 * v2_5) + v3_8 < 48) ∧ (∀ x_23 : Mm, x_23 = up2 x_9 64 ((4 * v2_5) + v3_8).toNat (x_9 64 (((4 * v2_5) + 4) + v3_8).toNat) → ∀ v3_24 : Int, v3_24 = v3_8 + 1 → bk_39 v3_24 x_23)))
def wX_X8_untap_29 (post : Int → Mm → Prop) (v2_5 : Int) (x_6 : Mm) : Prop :=
  post 1 x_6
def wB_X8_untap_29 (kx_29 bk_29 : Int → Mm → Prop) (v2_5 : Int) (x_6 : Mm) : Prop :=
  (rg v2_5 ∧ rg (x_6 60 5)) ∧ (if (x_6 60 5) ≤ v2_5 then (kx_29 v2_5 x_6) else (∃ n : Nat, lk2 (wB_X8_untap_39 v2_5 (wX_X8_untap_39 v2_5 bk_29)) n 0 x_6))
def w_X8_untap (a1 : Int) (x : Mm) (post : Int → Mm → Prop) : Prop :=
  w_X8_in a1 0 ((x 60 5) - 1) x (fun z_2 x_1 => rg z_2 ∧ (if z_2 = 0 then (post (-2) x_1) else (∀ x_4 : Mm, x_4 = up2 x_1 60 5 ((x_1 60 5) - 1) → ∃ n : Nat, lk2 (wB_X8_untap_29 (wX_X8_untap_29 post)) n a1 x_4)))
abbrev rm_X8_untap : Room := { frames := 1, cells := 0, slots := 0, locals := 22 }
theorem iw_X8_untap_X8 : ∀ w ∈ u_ws RX8 TX8 20, w ∈ wsX8_untap := by decide +kernel
theorem fl_X8_untap_104 : Cond.fieldLink RX8 104 (TX8 5).1 (TX8 5).2.1 (TX8 5).2.2.1 ∈ wsX8_untap := by decide +kernel
theorem fl_X8_untap_26 : Cond.fieldLink RX8 26 (TX8 7).1 (TX8 7).2.1 (TX8 7).2.2.1 ∈ wsX8_untap := by decide +kernel
theorem fl_X8_untap_29 : Cond.fieldLink RX8 29 (TX8 8).1 (TX8 8).2.1 (TX8 8).2.2.1 ∈ wsX8_untap := by decide +kernel
theorem fl_X8_untap_32 : Cond.fieldLink RX8 32 (TX8 9).1 (TX8 9).2.1 (TX8 9).2.2.1 ∈ wsX8_untap := by decide +kernel
theorem fl_X8_untap_23 : Cond.fieldLink RX8 23 (TX8 6).1 (TX8 6).2.1 (TX8 6).2.2.1 ∈ wsX8_untap := by decide +kernel
set_option maxHeartbeats 4000000 in
set_option maxRecDepth 100000 in
theorem c_X8_untap (l : Launch) (D : va_G) (cy : Nat → ClassId) (L : List Nat) (ad : Nat → Nat) (sz : Nat) (hL : fLM L) (a1 : Int) (x : Mm) (post : Int → Mm → Prop) (hw : w_X8_untap a1 x post) : fMi l yX8_untap wsX8_untap rm_X8_untap [.ref (ad 60), .int (iI a1)] D cy L ad sz x post := by
  refine Met.ofW (cc := cX8_untap) (maxL := 4) (ret := (some .int)) (by decide) rfl ?_
  intro p e s m args below meth c s₁ B hml hv
  obtain ⟨hargs, hp⟩ := hv
  obtain ⟨C, hr, hlk, hsz, G⟩ := fr_start B hml hp
  subst hsz
  obtain ⟨ls, els, hl⟩ := fr_entry (m := m) (n := 4) hargs (Nat.le_of_ble_eq_true rfl)
  rw [els]
  have hl : lv_has ls 4 [(0, .ref (ad 60)), (1, .int (iI a1))] := hl
  clear els hargs hp B
  refine lv_iload_n C.1 C.2.1 dX8_untap_0 rfl (lv_at hl 1 rfl) ?_
  refine fr_ic C dX8_untap_1 ?_
  refine lv_aload_n C.1 C.2.1 dX8_untap_2 rfl (lv_at hl 0 rfl) ?_
  refine fr_get C G 60 (hL _ (by omega)) (cl_60 _) rfl iw_X8_untap_X8 5 (by decide) fl_X8_untap_104 rfl dX8_untap_3 ?_
  refine fr_ic C dX8_untap_6 ?_
  refine fr_isub C dX8_untap_7 ?_
  refine fr_Si C G (c_X8_in l D cy L ad _ a1 0 ((x 60 5) - 1) x _ hw) (va_cwS 3 C.2.2.2.2 gX8_untap_X8_in rfl rfl rfl (by decide +kernel) ⟨Nat.le_of_ble_eq_true rfl, Nat.le_of_ble_eq_true rfl⟩) rfl hl.1 rfl (Nat.le_of_ble_eq_true rfl) dX8_untap_8 ⟨Nat.zero_le _, Nat.zero_le _⟩ (fun z_2 x_1 H locs hw G => ?_)
  obtain ⟨hc_27, hw⟩ := hw
  refine fr_ne0 (tgt := 17) C dX8_untap_11 (by decide) hc_27 (fun q_3 => ?_) (fun q_3 => ?_)
  · have hw := if_p hw q_3
    refine fr_bi C dX8_untap_14 rfl ?_
    exact fr_iret C G hr hlk hw dX8_untap_16
  · have hw := if_n hw q_3
    refine lv_aload_n C.1 C.2.1 dX8_untap_17 rfl (lv_at hl 0 rfl) ?_
    refine lv_dup C.1 C.2.1 dX8_untap_18 rfl ?_
    refine fr_get C G 60 (hL _ (by omega)) (cl_60 _) rfl iw_X8_untap_X8 5 (by decide) fl_X8_untap_104 rfl dX8_untap_19 ?_
    refine fr_ic C dX8_untap_22 ?_
    refine fr_isub C dX8_untap_23 ?_
    refine fr_put C G 60 (hL _ (by omega)) (cl_60 _) rfl iw_X8_untap_X8 tyX8_ok nmX8 5 (by decide) fl_X8_untap_104 rfl (by decide +kernel) (Nat.le_of_ble_eq_true rfl) (st_60_5 _ _) dX8_untap_24 (fun x_4 H locs ex_4 G => ?_)
    have hw := hw x_4 ex_4
    refine lv_iload_n C.1 C.2.1 dX8_untap_27 rfl (lv_at hl 1 rfl) ?_
    refine lv_istore_n (lv' := [(2, .int (iI a1)), (0, .ref (ad 60)), (1, .int (iI a1))]) C.1 C.2.1 dX8_untap_28 rfl hl (by decide) rfl (fun ls hl => ?_)
    obtain ⟨n29, hw⟩ := hw
    have hS29 : ∀ (kx_29 bk_29 : Int → Mm → Prop), (∀ (v2_5 : Int) (x_6 : Mm) (H : Heap) (locs : List Loc) (ls : Array Slot), kx_29 v2_5 x_6 → fG D cy L ad (fAr L ad s.heap.size) s x_6 H locs → lv_has ls 4 [(0, .ref (ad 60)), (1, .int (iI a1)), (2, .int (iI v2_5))] → W p l e (headSpec wsX8_untap rm_X8_untap).room s m args below meth c H locs 0 0 (fQi below D cy L ad s args post) (F0 m 120 ls [])) → (∀ (v2_5 : Int) (x_6 : Mm) (H : Heap) (locs : List Loc) (ls : Array Slot), bk_29 v2_5 x_6 → fG D cy L ad (fAr L ad s.heap.size) s x_6 H locs → lv_has ls 4 [(0, .ref (ad 60)), (1, .int (iI a1)), (2, .int (iI v2_5))] → W p l e (headSpec wsX8_untap rm_X8_untap).room s m args below meth c H locs 0 0 (fQi below D cy L ad s args post) (F0 m 29 ls [])) → ∀ (v2_5 : Int) (x_6 : Mm) (H : Heap) (locs : List Loc) (ls : Array Slot), wB_X8_untap_29 kx_29 bk_29 v2_5 x_6 → fG D cy L ad (fAr L ad s.heap.size) s x_6 H locs → lv_has ls 4 [(0, .ref (ad 60)), (1, .int (iI a1)), (2, .int (iI v2_5))] → W p l e (headSpec wsX8_untap rm_X8_untap).room s m args below meth c H locs 0 0 (fQi below D cy L ad s args post) (F0 m 29 ls []) := by
      intro kx_29 bk_29 hX29 ih29 v2_5 x_6 H locs ls hw G hl
      refine lv_iload_n C.1 C.2.1 dX8_untap_29 rfl (lv_at hl 2 rfl) ?_
      refine lv_aload_n C.1 C.2.1 dX8_untap_30 rfl (lv_at hl 0 rfl) ?_
      refine fr_get C G 60 (hL _ (by omega)) (cl_60 _) rfl iw_X8_untap_X8 5 (by decide) fl_X8_untap_104 rfl dX8_untap_31 ?_
      obtain ⟨hc_26, hw⟩ := hw
      refine fr_ge (tgt := 120) C dX8_untap_34 (by decide) hc_26 (fun q_7 => ?_) (fun q_7 => ?_)
      · have hw := if_p hw q_7
        exact hX29 v2_5 x_6 _ _ _ hw G (lv_sub hl [0, 1, 2] rfl)
      · have hw := if_n hw q_7
        refine fr_ic C dX8_untap_37 ?_
        refine lv_istore_n (lv' := [(3, .int (iI 0)), (0, .ref (ad 60)), (1, .int (iI a1)), (2, .int (iI v2_5))]) C.1 C.2.1 dX8_untap_38 rfl hl (by decide) rfl (fun ls hl => ?_)
        obtain ⟨n39, hw⟩ := hw
        have hS39 : ∀ (kx_39 bk_39 : Int → Mm → Prop), (∀ (v3_8 : Int) (x_9 : Mm) (H : Heap) (locs : List Loc) (ls : Array Slot), kx_39 v3_8 x_9 → fG D cy L ad (fAr L ad s.heap.size) s x_9 H locs → lv_has ls 4 [(0, .ref (ad 60)), (1, .int (iI a1)), (2, .int (iI v2_5)), (3, .int (iI v3_8))] → W p l e (headSpec wsX8_untap rm_X8_untap).room s m args below meth c H locs 0 0 (fQi below D cy L ad s args post) (F0 m 72 ls [])) → (∀ (v3_8 : Int) (x_9 : Mm) (H : Heap) (locs : List Loc) (ls : Array Slot), bk_39 v3_8 x_9 → fG D cy L ad (fAr L ad s.heap.size) s x_9 H locs → lv_has ls 4 [(0, .ref (ad 60)), (1, .int (iI a1)), (2, .int (iI v2_5)), (3, .int (iI v3_8))] → W p l e (headSpec wsX8_untap rm_X8_untap).room s m args below meth c H locs 0 0 (fQi below D cy L ad s args post) (F0 m 39 ls [])) → ∀ (v3_8 : Int) (x_9 : Mm) (H : Heap) (locs : List Loc) (ls : Array Slot), wB_X8_untap_39 v2_5 kx_39 bk_39 v3_8 x_9 → fG D cy L ad (fAr L ad s.heap.size) s x_9 H locs → lv_has ls 4 [(0, .ref (ad 60)), (1, .int (iI a1)), (2, .int (iI v2_5)), (3, .int (iI v3_8))] → W p l e (headSpec wsX8_untap rm_X8_untap).room s m args below meth c H locs 0 0 (fQi below D cy L ad s args post) (F0 m 39 ls []) := by
          intro kx_39 bk_39 hX39 ih39 v3_8 x_9 H locs ls hw G hl
          refine lv_iload_n C.1 C.2.1 dX8_untap_39 rfl (lv_at hl 3 rfl) ?_
          refine fr_ic C dX8_untap_40 ?_
          obtain ⟨hc_25, hw⟩ := hw
          refine fr_ge (tgt := 72) C dX8_untap_41 (by decide) ⟨hc_25, ⟨by decide, by decide⟩⟩ (fun q_20 => ?_) (fun q_20 => ?_)
          · have hw := if_p hw q_20
            exact hX39 v3_8 x_9 _ _ _ hw G (lv_sub hl [0, 1, 2, 3] rfl)
          · have hw := if_n hw q_20
            refine lv_aload_n C.1 C.2.1 dX8_untap_44 rfl (lv_at hl 0 rfl) ?_
            refine fr_get C G 60 (hL _ (by omega)) (cl_60 _) rfl iw_X8_untap_X8 6 (by decide) fl_X8_untap_23 rfl dX8_untap_45 ?_
            refine fr_ic C dX8_untap_48 ?_
            refine lv_iload_n C.1 C.2.1 dX8_untap_49 rfl (lv_at hl 2 rfl) ?_
            refine fr_imul C dX8_untap_50 ?_
            refine lv_iload_n C.1 C.2.1 dX8_untap_51 rfl (lv_at hl 3 rfl) ?_
            refine fr_iadd C dX8_untap_52 ?_
            refine lv_aload_n C.1 C.2.1 dX8_untap_53 rfl (lv_at hl 0 rfl) ?_
            refine fr_get C G 60 (hL _ (by omega)) (cl_60 _) rfl iw_X8_untap_X8 6 (by decide) fl_X8_untap_23 rfl dX8_untap_54 ?_
            refine fr_ic C dX8_untap_57 ?_
            refine lv_iload_n C.1 C.2.1 dX8_untap_58 rfl (lv_at hl 2 rfl) ?_
            refine fr_imul C dX8_untap_59 ?_
            refine fr_ic C dX8_untap_60 ?_
            refine fr_iadd C dX8_untap_61 ?_
            refine lv_iload_n C.1 C.2.1 dX8_untap_62 rfl (lv_at hl 3 rfl) ?_
            refine fr_iadd C dX8_untap_63 ?_
            obtain ⟨hb_21, hw⟩ := hw
            refine fr_iald C G 64 48 (hL _ (by omega)) rfl ⟨by decide, by decide⟩ hb_21 dX8_untap_64 ?_
            obtain ⟨hb_22, hw⟩ := hw
            refine fr_iast C G 64 48 (hL _ (by omega)) rfl ⟨by decide, by decide⟩ hb_22 dX8_untap_65 (fun x_23 H locs ex_23 G => ?_)
            have hw := hw x_23 ex_23
            obtain ⟨v3_24, ev3_24⟩ : ∃ z : Int, z = v3_8 + 1 := ⟨_, rfl⟩
            have hw := hw v3_24 ev3_24
            refine lv_iinc (v := iI v3_24) (lv' := [(3, .int (iI v3_24)), (0, .ref (ad 60)), (1, .int (iI a1)), (2, .int (iI v2_5))]) C.1 C.2.1 dX8_untap_66 hl (k := 3) rfl (by rw [ev3_24]; exact iI_add _ _) (by decide) rfl (fun ls hl => ?_)
            refine lv_goto (tgt := 39) C.1 C.2.1 dX8_untap_69 (by decide) ?_
            exact ih39 v3_24 x_23 _ _ _ hw G (lv_sub hl [1, 2, 3, 0] rfl)
        have hX39 : ∀ (v3_8 : Int) (x_9 : Mm) (H : Heap) (locs : List Loc) (ls : Array Slot), wX_X8_untap_39 v2_5 bk_29 v3_8 x_9 → fG D cy L ad (fAr L ad s.heap.size) s x_9 H locs → lv_has ls 4 [(0, .ref (ad 60)), (1, .int (iI a1)), (2, .int (iI v2_5)), (3, .int (iI v3_8))] → W p l e (headSpec wsX8_untap rm_X8_untap).room s m args below meth c H locs 0 0 (fQi below D cy L ad s args post) (F0 m 72 ls []) := by
          intro v3_8 x_9 H locs ls hw G hl
          refine lv_aload_n C.1 C.2.1 dX8_untap_72 rfl (lv_at hl 0 rfl) ?_
          refine fr_get C G 60 (hL _ (by omega)) (cl_60 _) rfl iw_X8_untap_X8 7 (by decide) fl_X8_untap_26 rfl dX8_untap_73 ?_
          refine lv_iload_n C.1 C.2.1 dX8_untap_76 rfl (lv_at hl 2 rfl) ?_
          refine lv_aload_n C.1 C.2.1 dX8_untap_77 rfl (lv_at hl 0 rfl) ?_
          refine fr_get C G 60 (hL _ (by omega)) (cl_60 _) rfl iw_X8_untap_X8 7 (by decide) fl_X8_untap_26 rfl dX8_untap_78 ?_
          refine lv_iload_n C.1 C.2.1 dX8_untap_81 rfl (lv_at hl 2 rfl) ?_
          refine fr_ic C dX8_untap_82 ?_
          refine fr_iadd C dX8_untap_83 ?_
          obtain ⟨hb_10, hw⟩ := hw
          refine fr_iald C G 65 12 (hL _ (by omega)) rfl ⟨by decide, by decide⟩ hb_10 dX8_untap_84 ?_
          obtain ⟨hb_11, hw⟩ := hw
          refine fr_iast C G 65 12 (hL _ (by omega)) rfl ⟨by decide, by decide⟩ hb_11 dX8_untap_85 (fun x_12 H locs ex_12 G => ?_)
          have hw := hw x_12 ex_12
          refine lv_aload_n C.1 C.2.1 dX8_untap_86 rfl (lv_at hl 0 rfl) ?_
          refine fr_get C G 60 (hL _ (by omega)) (cl_60 _) rfl iw_X8_untap_X8 8 (by decide) fl_X8_untap_29 rfl dX8_untap_87 ?_
          refine lv_iload_n C.1 C.2.1 dX8_untap_90 rfl (lv_at hl 2 rfl) ?_
          refine lv_aload_n C.1 C.2.1 dX8_untap_91 rfl (lv_at hl 0 rfl) ?_
          refine fr_get C G 60 (hL _ (by omega)) (cl_60 _) rfl iw_X8_untap_X8 8 (by decide) fl_X8_untap_29 rfl dX8_untap_92 ?_
          refine lv_iload_n C.1 C.2.1 dX8_untap_95 rfl (lv_at hl 2 rfl) ?_
          refine fr_ic C dX8_untap_96 ?_
          refine fr_iadd C dX8_untap_97 ?_
          obtain ⟨hb_13, hw⟩ := hw
          refine fr_iald C G 66 12 (hL _ (by omega)) rfl ⟨by decide, by decide⟩ hb_13 dX8_untap_98 ?_
          obtain ⟨hb_14, hw⟩ := hw
          refine fr_iast C G 66 12 (hL _ (by omega)) rfl ⟨by decide, by decide⟩ hb_14 dX8_untap_99 (fun x_15 H locs ex_15 G => ?_)
          have hw := hw x_15 ex_15
          refine lv_aload_n C.1 C.2.1 dX8_untap_100 rfl (lv_at hl 0 rfl) ?_
          refine fr_get C G 60 (hL _ (by omega)) (cl_60 _) rfl iw_X8_untap_X8 9 (by decide) fl_X8_untap_32 rfl dX8_untap_101 ?_
          refine lv_iload_n C.1 C.2.1 dX8_untap_104 rfl (lv_at hl 2 rfl) ?_
          refine lv_aload_n C.1 C.2.1 dX8_untap_105 rfl (lv_at hl 0 rfl) ?_
          refine fr_get C G 60 (hL _ (by omega)) (cl_60 _) rfl iw_X8_untap_X8 9 (by decide) fl_X8_untap_32 rfl dX8_untap_106 ?_
          refine lv_iload_n C.1 C.2.1 dX8_untap_109 rfl (lv_at hl 2 rfl) ?_
          refine fr_ic C dX8_untap_110 ?_
          refine fr_iadd C dX8_untap_111 ?_
          obtain ⟨hb_16, hw⟩ := hw
          refine fr_iald C G 67 12 (hL _ (by omega)) rfl ⟨by decide, by decide⟩ hb_16 dX8_untap_112 ?_
          obtain ⟨hb_17, hw⟩ := hw
          refine fr_iast C G 67 12 (hL _ (by omega)) rfl ⟨by decide, by decide⟩ hb_17 dX8_untap_113 (fun x_18 H locs ex_18 G => ?_)
          have hw := hw x_18 ex_18
          obtain ⟨v2_19, ev2_19⟩ : ∃ z : Int, z = v2_5 + 1 := ⟨_, rfl⟩
          have hw := hw v2_19 ev2_19
          refine lv_iinc (v := iI v2_19) (lv' := [(2, .int (iI v2_19)), (0, .ref (ad 60)), (1, .int (iI a1)), (3, .int (iI v3_8))]) C.1 C.2.1 dX8_untap_114 hl (k := 2) rfl (by rw [ev2_19]; exact iI_add _ _) (by decide) rfl (fun ls hl => ?_)
          refine lv_goto (tgt := 29) C.1 C.2.1 dX8_untap_117 (by decide) ?_
          exact ih29 v2_19 x_18 _ _ _ hw G (lv_sub hl [1, 2, 0] rfl)
        have hB39 : ∀ (n : Nat) (v3_8 : Int) (x_9 : Mm) (H : Heap) (locs : List Loc) (ls : Array Slot), lk2 (wB_X8_untap_39 v2_5 (wX_X8_untap_39 v2_5 bk_29)) n v3_8 x_9 → fG D cy L ad (fAr L ad s.heap.size) s x_9 H locs → lv_has ls 4 [(0, .ref (ad 60)), (1, .int (iI a1)), (2, .int (iI v2_5)), (3, .int (iI v3_8))] → W p l e (headSpec wsX8_untap rm_X8_untap).room s m args below meth c H locs 0 0 (fQi below D cy L ad s args post) (F0 m 39 ls []) := by
          intro n
          induction n with
          | zero =>
            intro v3_8 x_9 H locs ls hw
            exact hw.elim
          | succ n ih =>
            intro v3_8 x_9 H locs ls hw G hl
            exact hS39 _ _ hX39 ih v3_8 x_9 H locs ls hw G hl
        exact hB39 n39 0 x_6 _ _ _ hw G (lv_sub hl [1, 2, 3, 0] rfl)
    have hX29 : ∀ (v2_5 : Int) (x_6 : Mm) (H : Heap) (locs : List Loc) (ls : Array Slot), wX_X8_untap_29 post v2_5 x_6 → fG D cy L ad (fAr L ad s.heap.size) s x_6 H locs → lv_has ls 4 [(0, .ref (ad 60)), (1, .int (iI a1)), (2, .int (iI v2_5))] → W p l e (headSpec wsX8_untap rm_X8_untap).room s m args below meth c H locs 0 0 (fQi below D cy L ad s args post) (F0 m 120 ls []) := by
      intro v2_5 x_6 H locs ls hw G hl
      refine fr_ic C dX8_untap_120 ?_
      exact fr_iret C G hr hlk hw dX8_untap_121
    have hB29 : ∀ (n : Nat) (v2_5 : Int) (x_6 : Mm) (H : Heap) (locs : List Loc) (ls : Array Slot), lk2 (wB_X8_untap_29 (wX_X8_untap_29 post)) n v2_5 x_6 → fG D cy L ad (fAr L ad s.heap.size) s x_6 H locs → lv_has ls 4 [(0, .ref (ad 60)), (1, .int (iI a1)), (2, .int (iI v2_5))] → W p l e (headSpec wsX8_untap rm_X8_untap).room s m args below meth c H locs 0 0 (fQi below D cy L ad s args post) (F0 m 29 ls []) := by
      intro n
      induction n with
      | zero =>
        intro v2_5 x_6 H locs ls hw
        exact hw.elim
      | succ n ih =>
        intro v2_5 x_6 H locs ls hw G hl
        exact hS29 _ _ hX29 ih v2_5 x_6 H locs ls hw G hl
    exact hB29 n29 a1 x_4 _ _ _ hw G (lv_sub hl [1, 2, 0] rfl)
def w_X8_lies (a1 a2 a3 a4 a5 : Int) (x : Mm) (post : Int → Mm → Prop) : Prop :=
  w_X8_belowOf a1 a2 a4 x (fun z_2 x_1 => (rg z_2 ∧ rg a3) ∧ (if a3 < z_2 then (post 0 x_1) else (w_X8_belowOf a1 a2 (a5 + 1) x_1 (fun z_5 x_4 => (rg z_5 ∧ rg a3) ∧ (if z_5 ≤ a3 then (post 0 x_4) else (post 1 x_4))))))
abbrev rm_X8_lies : Room := { frames := 2, cells := 0, slots := 0, locals := 58 }
set_option maxHeartbeats 4000000 in
set_option maxRecDepth 100000 in
theorem c_X8_lies (l : Launch) (D : va_G) (cy : Nat → ClassId) (L : List Nat) (ad : Nat → Nat) (sz : Nat) (hL : fLM L) (a1 a2 a3 a4 a5 : Int) (x : Mm) (post : Int → Mm → Prop) (hw : w_X8_lies a1 a2 a3 a4 a5 x post) : fMi l yX8_lies wsX8_lies rm_X8_lies [.ref (ad 60), .int (iI a1), .int (iI a2), .int (iI a3), .int (iI a4), .int (iI a5)] D cy L ad sz x post := by
  refine Met.ofW (cc := cX8_lies) (maxL := 6) (ret := (some .boolean)) (by decide) rfl ?_
  intro p e s m args below meth c s₁ B hml hv
  obtain ⟨hargs, hp⟩ := hv
  obtain ⟨C, hr, hlk, hsz, G⟩ := fr_start B hml hp
  subst hsz
  obtain ⟨ls, els, hl⟩ := fr_entry (m := m) (n := 6) hargs (Nat.le_of_ble_eq_true rfl)
  rw [els]
  have hl : lv_has ls 6 [(0, .ref (ad 60)), (1, .int (iI a1)), (2, .int (iI a2)), (3, .int (iI a3)), (4, .int (iI a4)), (5, .int (iI a5))] := hl
  clear els hargs hp B
  refine lv_aload_n C.1 C.2.1 dX8_lies_0 rfl (lv_at hl 0 rfl) ?_
  refine lv_iload_n C.1 C.2.1 dX8_lies_1 rfl (lv_at hl 1 rfl) ?_
  refine lv_iload_n C.1 C.2.1 dX8_lies_2 rfl (lv_at hl 2 rfl) ?_
  refine lv_iload C.1 C.2.1 dX8_lies_3 (lv_at hl 4 rfl) ?_
  refine fr_Vi C G (c_X8_belowOf l D cy L ad _ hL a1 a2 a4 x _ hw) (cwV 3 C.2.2.2.2 gX8_lies_X8_belowOf rfl rfl rfl (by decide +kernel) ⟨Nat.le_of_ble_eq_true rfl, Nat.le_of_ble_eq_true rfl⟩) (G.recv (hL _ (by omega)) (cl_60 _) rfl) rfl hl.1 rfl (Nat.le_of_ble_eq_true rfl) dX8_lies_5 ⟨Nat.zero_le _, Nat.zero_le _⟩ (fun z_2 x_1 H locs hw G => ?_)
  refine lv_iload_n C.1 C.2.1 dX8_lies_8 rfl (lv_at hl 3 rfl) ?_
  obtain ⟨hc_8, hw⟩ := hw
  refine fr_gt (tgt := 30) C dX8_lies_9 (by decide) hc_8 (fun q_3 => ?_) (fun q_3 => ?_)
  · have hw := if_p hw q_3
    refine fr_ic C dX8_lies_30 ?_
    exact fr_zret C G hr hlk (by decide) hw dX8_lies_31
  · have hw := if_n hw q_3
    refine lv_aload_n C.1 C.2.1 dX8_lies_12 rfl (lv_at hl 0 rfl) ?_
    refine lv_iload_n C.1 C.2.1 dX8_lies_13 rfl (lv_at hl 1 rfl) ?_
    refine lv_iload_n C.1 C.2.1 dX8_lies_14 rfl (lv_at hl 2 rfl) ?_
    refine lv_iload C.1 C.2.1 dX8_lies_15 (lv_at hl 5 rfl) ?_
    refine fr_ic C dX8_lies_17 ?_
    refine fr_iadd C dX8_lies_18 ?_
    refine fr_Vi C G (c_X8_belowOf l D cy L ad _ hL a1 a2 (a5 + 1) x_1 _ hw) (cwV 3 C.2.2.2.2 gX8_lies_X8_belowOf rfl rfl rfl (by decide +kernel) ⟨Nat.le_of_ble_eq_true rfl, Nat.le_of_ble_eq_true rfl⟩) (G.recv (hL _ (by omega)) (cl_60 _) rfl) rfl hl.1 rfl (Nat.le_of_ble_eq_true rfl) dX8_lies_19 ⟨Nat.zero_le _, Nat.zero_le _⟩ (fun z_5 x_4 H locs hw G => ?_)
    refine lv_iload_n C.1 C.2.1 dX8_lies_22 rfl (lv_at hl 3 rfl) ?_
    obtain ⟨hc_7, hw⟩ := hw
    refine fr_le (tgt := 30) C dX8_lies_23 (by decide) hc_7 (fun q_6 => ?_) (fun q_6 => ?_)
    · have hw := if_p hw q_6
      refine fr_ic C dX8_lies_30 ?_
      exact fr_zret C G hr hlk (by decide) hw dX8_lies_31
    · have hw := if_n hw q_6
      refine fr_ic C dX8_lies_26 ?_
      refine lv_goto (tgt := 31) C.1 C.2.1 dX8_lies_27 (by decide) ?_
      exact fr_zret C G hr hlk (by decide) hw dX8_lies_31
def wX_X8_findWoods_17 (v1_2 : Int) (bk_7 : Int → Mm → Prop) (v2_5 : Int) (v3_6 : Int) (x_7 : Mm) : Prop :=
  rg v2_5 ∧ (if v2_5 = 0 then (∀ v1_9 : Int, v1_9 = v1_2 + 1 → bk_7 v1_9 x_7) else ((0 ≤ x_7 60 15 ∧ x_7 60 15 < 81) ∧ (∀ x_11 : Mm, x_11 = up2 x_7 72 (x_7 60 15).toNat v1_2 → ∀ x_12 : Mm, x_12 = up2 x_11 60 15 ((x_11 60 15) + 1) → ∀ v1_13 : Int, v1_13 = v1_2 + 1 → bk_7 v1_13 x_12)))
def wB_X8_findWoods_17 (v1_2 : Int) (kx_17 bk_17 : Int → Int → Mm → Prop) (v2_5 : Int) (v3_6 : Int) (x_7 : Mm) : Prop :=
  (rg v3_6 ∧ rg (x_7 60 5)) ∧ (if (x_7 60 5) ≤ v3_6 then (kx_17 v2_5 v3_6 x_7) else (rg v2_5 ∧ (if v2_5 = 0 then (kx_17 v2_5 v3_6 x_7) else (w_X8_take 64 v3_6 x_7 (fun x_17 => (rg v1_2 ∧ 0 ≤ v1_2) ∧ (rg v1_2 ∧ 0 ≤ v1_2) ∧ (0 ≤ v3_6 ∧ v3_6 < 12) ∧ (0 ≤ v3_6 ∧ v3_6 < 12) ∧ (0 ≤ v3_6 ∧ v3_6 < 12) ∧ w_X8_lies (1 + (v1_2 / 9)) (1 + (v1_2 % 9)) (x_17 65 (v3_6).toNat) (x_17 66 (v3_6).toNat) (x_17 67 (v3_6).toNat) x_17 (fun z_24 x_23 => ∀ v3_25 : Int, v3_25 = v3_6 + 1 → bk_17 z_24 v3_25 x_23))))))
def wX_X8_findWoods_7 (post : Mm → Prop) (v1_2 : Int) (x_3 : Mm) : Prop :=
  post x_3
def wB_X8_findWoods_7 (kx_7 bk_7 : Int → Mm → Prop) (v1_2 : Int) (x_3 : Mm) : Prop :=
  rg v1_2 ∧ (if 81 ≤ v1_2 then (kx_7 v1_2 x_3) else (∃ n : Nat, lk3 (wB_X8_findWoods_17 v1_2 (wX_X8_findWoods_17 v1_2 bk_7)) n 1 0 x_3))
def w_X8_findWoods (x : Mm) (post : Mm → Prop) : Prop :=
  ∀ x_1 : Mm, x_1 = up2 x 60 15 0 → ∃ n : Nat, lk2 (wB_X8_findWoods_7 (wX_X8_findWoods_7 post)) n 0 x_1
abbrev rm_X8_findWoods : Room := { frames := 3, cells := 0, slots := 0, locals := 83 }
theorem iw_X8_findWoods_X8 : ∀ w ∈ u_ws RX8 TX8 20, w ∈ wsX8_findWoods := by decide +kernel
theorem fl_X8_findWoods_107 : Cond.fieldLink RX8 107 (TX8 15).1 (TX8 15).2.1 (TX8 15).2.2.1 ∈ wsX8_findWoods := by decide +kernel
theorem fl_X8_findWoods_51 : Cond.fieldLink RX8 51 (TX8 16).1 (TX8 16).2.1 (TX8 16).2.2.1 ∈ wsX8_findWoods := by decide +kernel
theorem fl_X8_findWoods_104 : Cond.fieldLink RX8 104 (TX8 5).1 (TX8 5).2.1 (TX8 5).2.2.1 ∈ wsX8_findWoods := by decide +kernel
theorem fl_X8_findWoods_23 : Cond.fieldLink RX8 23 (TX8 6).1 (TX8 6).2.1 (TX8 6).2.2.1 ∈ wsX8_findWoods := by decide +kernel
theorem fl_X8_findWoods_26 : Cond.fieldLink RX8 26 (TX8 7).1 (TX8 7).2.1 (TX8 7).2.2.1 ∈ wsX8_findWoods := by decide +kernel
theorem fl_X8_findWoods_29 : Cond.fieldLink RX8 29 (TX8 8).1 (TX8 8).2.1 (TX8 8).2.2.1 ∈ wsX8_findWoods := by decide +kernel
theorem fl_X8_findWoods_32 : Cond.fieldLink RX8 32 (TX8 9).1 (TX8 9).2.1 (TX8 9).2.2.1 ∈ wsX8_findWoods := by decide +kernel
set_option maxHeartbeats 4000000 in
set_option maxRecDepth 100000 in
theorem c_X8_findWoods (l : Launch) (D : va_G) (cy : Nat → ClassId) (L : List Nat) (ad : Nat → Nat) (sz : Nat) (hL : fLM L) (x : Mm) (post : Mm → Prop) (hw : w_X8_findWoods x post) : fMv l yX8_findWoods wsX8_findWoods rm_X8_findWoods [.ref (ad 60)] D cy L ad sz x post := by
  refine Met.ofW (cc := cX8_findWoods) (maxL := 4) (ret := none) (by decide) rfl ?_
  intro p e s m args below meth c s₁ B hml hv
  obtain ⟨hargs, hp⟩ := hv
  obtain ⟨C, hr, hlk, hsz, G⟩ := fr_start B hml hp
  subst hsz
  obtain ⟨ls, els, hl⟩ := fr_entry (m := m) (n := 4) hargs (Nat.le_of_ble_eq_true rfl)
  rw [els]
  have hl : lv_has ls 4 [(0, .ref (ad 60))] := hl
  clear els hargs hp B
  refine lv_aload_n C.1 C.2.1 dX8_findWoods_0 rfl (lv_at hl 0 rfl) ?_
  refine fr_ic C dX8_findWoods_1 ?_
  refine fr_put C G 60 (hL _ (by omega)) (cl_60 _) rfl iw_X8_findWoods_X8 tyX8_ok nmX8 15 (by decide) fl_X8_findWoods_107 rfl (by decide +kernel) (Nat.le_of_ble_eq_true rfl) (st_60_15 _ _) dX8_findWoods_2 (fun x_1 H locs ex_1 G => ?_)
  have hw := hw x_1 ex_1
  refine fr_ic C dX8_findWoods_5 ?_
  refine lv_istore_n (lv' := [(1, .int (iI 0)), (0, .ref (ad 60))]) C.1 C.2.1 dX8_findWoods_6 rfl hl (by decide) rfl (fun ls hl => ?_)
  obtain ⟨n7, hw⟩ := hw
  have hS7 : ∀ (kx_7 bk_7 : Int → Mm → Prop), (∀ (v1_2 : Int) (x_3 : Mm) (H : Heap) (locs : List Loc) (ls : Array Slot), kx_7 v1_2 x_3 → fG D cy L ad (fAr L ad s.heap.size) s x_3 H locs → lv_has ls 4 [(0, .ref (ad 60)), (1, .int (iI v1_2))] → W p l e (headSpec wsX8_findWoods rm_X8_findWoods).room s m args below meth c H locs 0 0 (fQv below D cy L ad s args post) (F0 m 109 ls [])) → (∀ (v1_2 : Int) (x_3 : Mm) (H : Heap) (locs : List Loc) (ls : Array Slot), bk_7 v1_2 x_3 → fG D cy L ad (fAr L ad s.heap.size) s x_3 H locs → lv_has ls 4 [(0, .ref (ad 60)), (1, .int (iI v1_2))] → W p l e (headSpec wsX8_findWoods rm_X8_findWoods).room s m args below meth c H locs 0 0 (fQv below D cy L ad s args post) (F0 m 7 ls [])) → ∀ (v1_2 : Int) (x_3 : Mm) (H : Heap) (locs : List Loc) (ls : Array Slot), wB_X8_findWoods_7 kx_7 bk_7 v1_2 x_3 → fG D cy L ad (fAr L ad s.heap.size) s x_3 H locs → lv_has ls 4 [(0, .ref (ad 60)), (1, .int (iI v1_2))] → W p l e (headSpec wsX8_findWoods rm_X8_findWoods).room s m args below meth c H locs 0 0 (fQv below D cy L ad s args post) (F0 m 7 ls []) := by
    intro kx_7 bk_7 hX7 ih7 v1_2 x_3 H locs ls hw G hl
    refine lv_iload_n C.1 C.2.1 dX8_findWoods_7 rfl (lv_at hl 1 rfl) ?_
    refine fr_bi C dX8_findWoods_8 rfl ?_
    obtain ⟨hc_28, hw⟩ := hw
    refine fr_ge (tgt := 109) C dX8_findWoods_10 (by decide) ⟨hc_28, ⟨by decide, by decide⟩⟩ (fun q_4 => ?_) (fun q_4 => ?_)
    · have hw := if_p hw q_4
      exact hX7 v1_2 x_3 _ _ _ hw G (lv_sub hl [0, 1] rfl)
    · have hw := if_n hw q_4
      refine fr_ic C dX8_findWoods_13 ?_
      refine lv_istore_n (lv' := [(2, .int (iI 1)), (0, .ref (ad 60)), (1, .int (iI v1_2))]) C.1 C.2.1 dX8_findWoods_14 rfl hl (by decide) rfl (fun ls hl => ?_)
      refine fr_ic C dX8_findWoods_15 ?_
      refine lv_istore_n (lv' := [(3, .int (iI 0)), (2, .int (iI 1)), (0, .ref (ad 60)), (1, .int (iI v1_2))]) C.1 C.2.1 dX8_findWoods_16 rfl hl (by decide) rfl (fun ls hl => ?_)
      obtain ⟨n17, hw⟩ := hw
      have hS17 : ∀ (kx_17 bk_17 : Int → Int → Mm → Prop), (∀ (v2_5 : Int) (v3_6 : Int) (x_7 : Mm) (H : Heap) (locs : List Loc) (ls : Array Slot), kx_17 v2_5 v3_6 x_7 → fG D cy L ad (fAr L ad s.heap.size) s x_7 H locs → lv_has ls 4 [(0, .ref (ad 60)), (1, .int (iI v1_2)), (2, .int (iI v2_5)), (3, .int (iI v3_6))] → W p l e (headSpec wsX8_findWoods rm_X8_findWoods).room s m args below meth c H locs 0 0 (fQv below D cy L ad s args post) (F0 m 79 ls [])) → (∀ (v2_5 : Int) (v3_6 : Int) (x_7 : Mm) (H : Heap) (locs : List Loc) (ls : Array Slot), bk_17 v2_5 v3_6 x_7 → fG D cy L ad (fAr L ad s.heap.size) s x_7 H locs → lv_has ls 4 [(0, .ref (ad 60)), (1, .int (iI v1_2)), (2, .int (iI v2_5)), (3, .int (iI v3_6))] → W p l e (headSpec wsX8_findWoods rm_X8_findWoods).room s m args below meth c H locs 0 0 (fQv below D cy L ad s args post) (F0 m 17 ls [])) → ∀ (v2_5 : Int) (v3_6 : Int) (x_7 : Mm) (H : Heap) (locs : List Loc) (ls : Array Slot), wB_X8_findWoods_17 v1_2 kx_17 bk_17 v2_5 v3_6 x_7 → fG D cy L ad (fAr L ad s.heap.size) s x_7 H locs → lv_has ls 4 [(0, .ref (ad 60)), (1, .int (iI v1_2)), (2, .int (iI v2_5)), (3, .int (iI v3_6))] → W p l e (headSpec wsX8_findWoods rm_X8_findWoods).room s m args below meth c H locs 0 0 (fQv below D cy L ad s args post) (F0 m 17 ls []) := by
        intro kx_17 bk_17 hX17 ih17 v2_5 v3_6 x_7 H locs ls hw G hl
        refine lv_iload_n C.1 C.2.1 dX8_findWoods_17 rfl (lv_at hl 3 rfl) ?_
        refine lv_aload_n C.1 C.2.1 dX8_findWoods_18 rfl (lv_at hl 0 rfl) ?_
        refine fr_get C G 60 (hL _ (by omega)) (cl_60 _) rfl iw_X8_findWoods_X8 5 (by decide) fl_X8_findWoods_104 rfl dX8_findWoods_19 ?_
        obtain ⟨hc_27, hw⟩ := hw
        refine fr_ge (tgt := 79) C dX8_findWoods_22 (by decide) hc_27 (fun q_15 => ?_) (fun q_15 => ?_)
        · have hw := if_p hw q_15
          exact hX17 v2_5 v3_6 x_7 _ _ _ hw G (lv_sub hl [0, 1, 2, 3] rfl)
        · have hw := if_n hw q_15
          refine lv_iload_n C.1 C.2.1 dX8_findWoods_25 rfl (lv_at hl 2 rfl) ?_
          obtain ⟨hc_26, hw⟩ := hw
          refine fr_eq0 (tgt := 79) C dX8_findWoods_26 (by decide) hc_26 (fun q_16 => ?_) (fun q_16 => ?_)
          · have hw := if_p hw q_16
            exact hX17 v2_5 v3_6 x_7 _ _ _ hw G (lv_sub hl [0, 1, 2, 3] rfl)
          · have hw := if_n hw q_16
            refine lv_aload_n C.1 C.2.1 dX8_findWoods_29 rfl (lv_at hl 0 rfl) ?_
            refine lv_aload_n C.1 C.2.1 dX8_findWoods_30 rfl (lv_at hl 0 rfl) ?_
            refine fr_get C G 60 (hL _ (by omega)) (cl_60 _) rfl iw_X8_findWoods_X8 6 (by decide) fl_X8_findWoods_23 rfl dX8_findWoods_31 ?_
            refine lv_iload_n C.1 C.2.1 dX8_findWoods_34 rfl (lv_at hl 3 rfl) ?_
            refine fr_Vv C G (c_X8_take l D cy L ad _ hL 64 (hL _ (by omega)) ⟨by decide, by decide⟩ v3_6 x_7 _ hw) (cwV 2 C.2.2.2.2 gX8_findWoods_X8_take rfl rfl rfl (by decide +kernel) ⟨Nat.le_of_ble_eq_true rfl, Nat.le_of_ble_eq_true rfl⟩) (G.recv (hL _ (by omega)) (cl_60 _) rfl) rfl hl.1 rfl (Nat.le_of_ble_eq_true rfl) dX8_findWoods_35 ⟨Nat.zero_le _, Nat.zero_le _⟩ (fun x_17 H locs hw G => ?_)
            refine lv_aload_n C.1 C.2.1 dX8_findWoods_38 rfl (lv_at hl 0 rfl) ?_
            refine fr_ic C dX8_findWoods_39 ?_
            refine lv_iload_n C.1 C.2.1 dX8_findWoods_40 rfl (lv_at hl 1 rfl) ?_
            refine fr_bi C dX8_findWoods_41 rfl ?_
            obtain ⟨hd_18, hw⟩ := hw
            refine fr_idiv C dX8_findWoods_43 ⟨hd_18.1, ⟨by decide, by decide⟩, hd_18.2, by decide⟩ ?_
            refine fr_iadd C dX8_findWoods_44 ?_
            refine fr_ic C dX8_findWoods_45 ?_
            refine lv_iload_n C.1 C.2.1 dX8_findWoods_46 rfl (lv_at hl 1 rfl) ?_
            refine fr_bi C dX8_findWoods_47 rfl ?_
            obtain ⟨hd_19, hw⟩ := hw
            refine fr_irem C dX8_findWoods_49 ⟨hd_19.1, ⟨by decide, by decide⟩, hd_19.2, by decide⟩ ?_
            refine fr_iadd C dX8_findWoods_50 ?_
            refine lv_aload_n C.1 C.2.1 dX8_findWoods_51 rfl (lv_at hl 0 rfl) ?_
            refine fr_get C G 60 (hL _ (by omega)) (cl_60 _) rfl iw_X8_findWoods_X8 7 (by decide) fl_X8_findWoods_26 rfl dX8_findWoods_52 ?_
            refine lv_iload_n C.1 C.2.1 dX8_findWoods_55 rfl (lv_at hl 3 rfl) ?_
            obtain ⟨hb_20, hw⟩ := hw
            refine fr_iald C G 65 12 (hL _ (by omega)) rfl ⟨by decide, by decide⟩ hb_20 dX8_findWoods_56 ?_
            refine lv_aload_n C.1 C.2.1 dX8_findWoods_57 rfl (lv_at hl 0 rfl) ?_
            refine fr_get C G 60 (hL _ (by omega)) (cl_60 _) rfl iw_X8_findWoods_X8 8 (by decide) fl_X8_findWoods_29 rfl dX8_findWoods_58 ?_
            refine lv_iload_n C.1 C.2.1 dX8_findWoods_61 rfl (lv_at hl 3 rfl) ?_
            obtain ⟨hb_21, hw⟩ := hw
            refine fr_iald C G 66 12 (hL _ (by omega)) rfl ⟨by decide, by decide⟩ hb_21 dX8_findWoods_62 ?_
            refine lv_aload_n C.1 C.2.1 dX8_findWoods_63 rfl (lv_at hl 0 rfl) ?_
            refine fr_get C G 60 (hL _ (by omega)) (cl_60 _) rfl iw_X8_findWoods_X8 9 (by decide) fl_X8_findWoods_32 rfl dX8_findWoods_64 ?_
            refine lv_iload_n C.1 C.2.1 dX8_findWoods_67 rfl (lv_at hl 3 rfl) ?_
            obtain ⟨hb_22, hw⟩ := hw
            refine fr_iald C G 67 12 (hL _ (by omega)) rfl ⟨by decide, by decide⟩ hb_22 dX8_findWoods_68 ?_
            refine fr_Vi C G (c_X8_lies l D cy L ad _ hL (1 + (v1_2 / 9)) (1 + (v1_2 % 9)) (x_17 65 (v3_6).toNat) (x_17 66 (v3_6).toNat) (x_17 67 (v3_6).toNat) x_17 _ hw) (cwV 5 C.2.2.2.2 gX8_findWoods_X8_lies rfl rfl rfl (by decide +kernel) ⟨Nat.le_of_ble_eq_true rfl, Nat.le_of_ble_eq_true rfl⟩) (G.recv (hL _ (by omega)) (cl_60 _) rfl) rfl hl.1 rfl (Nat.le_of_ble_eq_true rfl) dX8_findWoods_69 ⟨Nat.zero_le _, Nat.zero_le _⟩ (fun z_24 x_23 H locs hw G => ?_)
            refine lv_istore_n (lv' := [(2, .int (iI z_24)), (0, .ref (ad 60)), (1, .int (iI v1_2)), (3, .int (iI v3_6))]) C.1 C.2.1 dX8_findWoods_72 rfl hl (by decide) rfl (fun ls hl => ?_)
            obtain ⟨v3_25, ev3_25⟩ : ∃ z : Int, z = v3_6 + 1 := ⟨_, rfl⟩
            have hw := hw v3_25 ev3_25
            refine lv_iinc (v := iI v3_25) (lv' := [(3, .int (iI v3_25)), (2, .int (iI z_24)), (0, .ref (ad 60)), (1, .int (iI v1_2))]) C.1 C.2.1 dX8_findWoods_73 hl (k := 3) rfl (by rw [ev3_25]; exact iI_add _ _) (by decide) rfl (fun ls hl => ?_)
            refine lv_goto (tgt := 17) C.1 C.2.1 dX8_findWoods_76 (by decide) ?_
            exact ih17 z_24 v3_25 x_23 _ _ _ hw G (lv_sub hl [2, 3, 1, 0] rfl)
      have hX17 : ∀ (v2_5 : Int) (v3_6 : Int) (x_7 : Mm) (H : Heap) (locs : List Loc) (ls : Array Slot), wX_X8_findWoods_17 v1_2 bk_7 v2_5 v3_6 x_7 → fG D cy L ad (fAr L ad s.heap.size) s x_7 H locs → lv_has ls 4 [(0, .ref (ad 60)), (1, .int (iI v1_2)), (2, .int (iI v2_5)), (3, .int (iI v3_6))] → W p l e (headSpec wsX8_findWoods rm_X8_findWoods).room s m args below meth c H locs 0 0 (fQv below D cy L ad s args post) (F0 m 79 ls []) := by
        intro v2_5 v3_6 x_7 H locs ls hw G hl
        refine lv_iload_n C.1 C.2.1 dX8_findWoods_79 rfl (lv_at hl 2 rfl) ?_
        obtain ⟨hc_14, hw⟩ := hw
        refine fr_eq0 (tgt := 103) C dX8_findWoods_80 (by decide) hc_14 (fun q_8 => ?_) (fun q_8 => ?_)
        · have hw := if_p hw q_8
          obtain ⟨v1_9, ev1_9⟩ : ∃ z : Int, z = v1_2 + 1 := ⟨_, rfl⟩
          have hw := hw v1_9 ev1_9
          refine lv_iinc (v := iI v1_9) (lv' := [(1, .int (iI v1_9)), (0, .ref (ad 60)), (2, .int (iI v2_5)), (3, .int (iI v3_6))]) C.1 C.2.1 dX8_findWoods_103 hl (k := 1) rfl (by rw [ev1_9]; exact iI_add _ _) (by decide) rfl (fun ls hl => ?_)
          refine lv_goto (tgt := 7) C.1 C.2.1 dX8_findWoods_106 (by decide) ?_
          exact ih7 v1_9 x_7 _ _ _ hw G (lv_sub hl [1, 0] rfl)
        · have hw := if_n hw q_8
          refine lv_aload_n C.1 C.2.1 dX8_findWoods_83 rfl (lv_at hl 0 rfl) ?_
          refine fr_get C G 60 (hL _ (by omega)) (cl_60 _) rfl iw_X8_findWoods_X8 16 (by decide) fl_X8_findWoods_51 rfl dX8_findWoods_84 ?_
          refine lv_aload_n C.1 C.2.1 dX8_findWoods_87 rfl (lv_at hl 0 rfl) ?_
          refine fr_get C G 60 (hL _ (by omega)) (cl_60 _) rfl iw_X8_findWoods_X8 15 (by decide) fl_X8_findWoods_107 rfl dX8_findWoods_88 ?_
          refine lv_iload_n C.1 C.2.1 dX8_findWoods_91 rfl (lv_at hl 1 rfl) ?_
          obtain ⟨hb_10, hw⟩ := hw
          refine fr_iast C G 72 81 (hL _ (by omega)) rfl ⟨by decide, by decide⟩ hb_10 dX8_findWoods_92 (fun x_11 H locs ex_11 G => ?_)
          have hw := hw x_11 ex_11
          refine lv_aload_n C.1 C.2.1 dX8_findWoods_93 rfl (lv_at hl 0 rfl) ?_
          refine lv_dup C.1 C.2.1 dX8_findWoods_94 rfl ?_
          refine fr_get C G 60 (hL _ (by omega)) (cl_60 _) rfl iw_X8_findWoods_X8 15 (by decide) fl_X8_findWoods_107 rfl dX8_findWoods_95 ?_
          refine fr_ic C dX8_findWoods_98 ?_
          refine fr_iadd C dX8_findWoods_99 ?_
          refine fr_put C G 60 (hL _ (by omega)) (cl_60 _) rfl iw_X8_findWoods_X8 tyX8_ok nmX8 15 (by decide) fl_X8_findWoods_107 rfl (by decide +kernel) (Nat.le_of_ble_eq_true rfl) (st_60_15 _ _) dX8_findWoods_100 (fun x_12 H locs ex_12 G => ?_)
          have hw := hw x_12 ex_12
          obtain ⟨v1_13, ev1_13⟩ : ∃ z : Int, z = v1_2 + 1 := ⟨_, rfl⟩
          have hw := hw v1_13 ev1_13
          refine lv_iinc (v := iI v1_13) (lv' := [(1, .int (iI v1_13)), (0, .ref (ad 60)), (2, .int (iI v2_5)), (3, .int (iI v3_6))]) C.1 C.2.1 dX8_findWoods_103 hl (k := 1) rfl (by rw [ev1_13]; exact iI_add _ _) (by decide) rfl (fun ls hl => ?_)
          refine lv_goto (tgt := 7) C.1 C.2.1 dX8_findWoods_106 (by decide) ?_
          exact ih7 v1_13 x_12 _ _ _ hw G (lv_sub hl [1, 0] rfl)
      have hB17 : ∀ (n : Nat) (v2_5 : Int) (v3_6 : Int) (x_7 : Mm) (H : Heap) (locs : List Loc) (ls : Array Slot), lk3 (wB_X8_findWoods_17 v1_2 (wX_X8_findWoods_17 v1_2 bk_7)) n v2_5 v3_6 x_7 → fG D cy L ad (fAr L ad s.heap.size) s x_7 H locs → lv_has ls 4 [(0, .ref (ad 60)), (1, .int (iI v1_2)), (2, .int (iI v2_5)), (3, .int (iI v3_6))] → W p l e (headSpec wsX8_findWoods rm_X8_findWoods).room s m args below meth c H locs 0 0 (fQv below D cy L ad s args post) (F0 m 17 ls []) := by
        intro n
        induction n with
        | zero =>
          intro v2_5 v3_6 x_7 H locs ls hw
          exact hw.elim
        | succ n ih =>
          intro v2_5 v3_6 x_7 H locs ls hw G hl
          exact hS17 _ _ hX17 ih v2_5 v3_6 x_7 H locs ls hw G hl
      exact hB17 n17 1 0 x_3 _ _ _ hw G (lv_sub hl [2, 3, 1, 0] rfl)
  have hX7 : ∀ (v1_2 : Int) (x_3 : Mm) (H : Heap) (locs : List Loc) (ls : Array Slot), wX_X8_findWoods_7 post v1_2 x_3 → fG D cy L ad (fAr L ad s.heap.size) s x_3 H locs → lv_has ls 4 [(0, .ref (ad 60)), (1, .int (iI v1_2))] → W p l e (headSpec wsX8_findWoods rm_X8_findWoods).room s m args below meth c H locs 0 0 (fQv below D cy L ad s args post) (F0 m 109 ls []) := by
    intro v1_2 x_3 H locs ls hw G hl
    exact fr_vret C G hr hlk hw dX8_findWoods_109
  have hB7 : ∀ (n : Nat) (v1_2 : Int) (x_3 : Mm) (H : Heap) (locs : List Loc) (ls : Array Slot), lk2 (wB_X8_findWoods_7 (wX_X8_findWoods_7 post)) n v1_2 x_3 → fG D cy L ad (fAr L ad s.heap.size) s x_3 H locs → lv_has ls 4 [(0, .ref (ad 60)), (1, .int (iI v1_2))] → W p l e (headSpec wsX8_findWoods rm_X8_findWoods).room s m args below meth c H locs 0 0 (fQv below D cy L ad s args post) (F0 m 7 ls []) := by
    intro n
    induction n with
    | zero =>
      intro v1_2 x_3 H locs ls hw
      exact hw.elim
    | succ n ih =>
      intro v1_2 x_3 H locs ls hw G hl
      exact hS7 _ _ hX7 ih v1_2 x_3 H locs ls hw G hl
  exact hB7 n7 0 x_1 _ _ _ hw G (lv_sub hl [1, 0] rfl)
def w_X8_toneBy (a1 a2 : Int) (x : Mm) (post : Int → Mm → Prop) : Prop :=
  (0 ≤ a1 ∧ a1 < 81) ∧ (rg (x 72 (a1).toNat) ∧ 0 ≤ x 72 (a1).toNat) ∧ (0 ≤ a1 ∧ a1 < 81) ∧ (rg (x 72 (a1).toNat) ∧ 0 ≤ x 72 (a1).toNat) ∧ w_X8_toneOf (1 + ((x 72 (a1).toNat) / 9)) (1 + ((x 72 (a1).toNat) % 9)) a2 x (fun z_6 x_5 => post z_6 x_5)
abbrev rm_X8_toneBy : Room := { frames := 3, cells := 0, slots := 0, locals := 84 }
theorem iw_X8_toneBy_X8 : ∀ w ∈ u_ws RX8 TX8 20, w ∈ wsX8_toneBy := by decide +kernel
theorem fl_X8_toneBy_51 : Cond.fieldLink RX8 51 (TX8 16).1 (TX8 16).2.1 (TX8 16).2.2.1 ∈ wsX8_toneBy := by decide +kernel
set_option maxHeartbeats 4000000 in
set_option maxRecDepth 100000 in
theorem c_X8_toneBy (l : Launch) (D : va_G) (cy : Nat → ClassId) (L : List Nat) (ad : Nat → Nat) (sz : Nat) (hL : fLM L) (a1 a2 : Int) (x : Mm) (post : Int → Mm → Prop) (hw : w_X8_toneBy a1 a2 x post) : fMi l yX8_toneBy wsX8_toneBy rm_X8_toneBy [.ref (ad 60), .int (iI a1), .int (iI a2)] D cy L ad sz x post := by
  refine Met.ofW (cc := cX8_toneBy) (maxL := 3) (ret := (some .int)) (by decide) rfl ?_
  intro p e s m args below meth c s₁ B hml hv
  obtain ⟨hargs, hp⟩ := hv
  obtain ⟨C, hr, hlk, hsz, G⟩ := fr_start B hml hp
  subst hsz
  obtain ⟨ls, els, hl⟩ := fr_entry (m := m) (n := 3) hargs (Nat.le_of_ble_eq_true rfl)
  rw [els]
  have hl : lv_has ls 3 [(0, .ref (ad 60)), (1, .int (iI a1)), (2, .int (iI a2))] := hl
  clear els hargs hp B
  refine lv_aload_n C.1 C.2.1 dX8_toneBy_0 rfl (lv_at hl 0 rfl) ?_
  refine fr_ic C dX8_toneBy_1 ?_
  refine lv_aload_n C.1 C.2.1 dX8_toneBy_2 rfl (lv_at hl 0 rfl) ?_
  refine fr_get C G 60 (hL _ (by omega)) (cl_60 _) rfl iw_X8_toneBy_X8 16 (by decide) fl_X8_toneBy_51 rfl dX8_toneBy_3 ?_
  refine lv_iload_n C.1 C.2.1 dX8_toneBy_6 rfl (lv_at hl 1 rfl) ?_
  obtain ⟨hb_1, hw⟩ := hw
  refine fr_iald C G 72 81 (hL _ (by omega)) rfl ⟨by decide, by decide⟩ hb_1 dX8_toneBy_7 ?_
  refine fr_bi C dX8_toneBy_8 rfl ?_
  obtain ⟨hd_2, hw⟩ := hw
  refine fr_idiv C dX8_toneBy_10 ⟨hd_2.1, ⟨by decide, by decide⟩, hd_2.2, by decide⟩ ?_
  refine fr_iadd C dX8_toneBy_11 ?_
  refine fr_ic C dX8_toneBy_12 ?_
  refine lv_aload_n C.1 C.2.1 dX8_toneBy_13 rfl (lv_at hl 0 rfl) ?_
  refine fr_get C G 60 (hL _ (by omega)) (cl_60 _) rfl iw_X8_toneBy_X8 16 (by decide) fl_X8_toneBy_51 rfl dX8_toneBy_14 ?_
  refine lv_iload_n C.1 C.2.1 dX8_toneBy_17 rfl (lv_at hl 1 rfl) ?_
  obtain ⟨hb_3, hw⟩ := hw
  refine fr_iald C G 72 81 (hL _ (by omega)) rfl ⟨by decide, by decide⟩ hb_3 dX8_toneBy_18 ?_
  refine fr_bi C dX8_toneBy_19 rfl ?_
  obtain ⟨hd_4, hw⟩ := hw
  refine fr_irem C dX8_toneBy_21 ⟨hd_4.1, ⟨by decide, by decide⟩, hd_4.2, by decide⟩ ?_
  refine fr_iadd C dX8_toneBy_22 ?_
  refine lv_iload_n C.1 C.2.1 dX8_toneBy_23 rfl (lv_at hl 2 rfl) ?_
  refine fr_Vi C G (c_X8_toneOf l D cy L ad _ hL (1 + ((x 72 (a1).toNat) / 9)) (1 + ((x 72 (a1).toNat) % 9)) a2 x _ hw) (cwV 3 C.2.2.2.2 gX8_toneBy_X8_toneOf rfl rfl rfl (by decide +kernel) ⟨Nat.le_of_ble_eq_true rfl, Nat.le_of_ble_eq_true rfl⟩) (G.recv (hL _ (by omega)) (cl_60 _) rfl) rfl hl.1 rfl (Nat.le_of_ble_eq_true rfl) dX8_toneBy_24 ⟨Nat.zero_le _, Nat.zero_le _⟩ (fun z_6 x_5 H locs hw G => ?_)
  exact fr_iret C G hr hlk hw dX8_toneBy_27
def w_X8_woods (x : Mm) (post : Int → Mm → Prop) : Prop :=
  w_X8_findWoods x (fun x_1 => post (x_1 60 15) x_1)
abbrev rm_X8_woods : Room := { frames := 4, cells := 0, slots := 0, locals := 106 }
theorem iw_X8_woods_X8 : ∀ w ∈ u_ws RX8 TX8 20, w ∈ wsX8_woods := by decide +kernel
theorem fl_X8_woods_107 : Cond.fieldLink RX8 107 (TX8 15).1 (TX8 15).2.1 (TX8 15).2.2.1 ∈ wsX8_woods := by decide +kernel
set_option maxHeartbeats 4000000 in
set_option maxRecDepth 100000 in
theorem c_X8_woods (l : Launch) (D : va_G) (cy : Nat → ClassId) (L : List Nat) (ad : Nat → Nat) (sz : Nat) (hL : fLM L) (x : Mm) (post : Int → Mm → Prop) (hw : w_X8_woods x post) : fMi l yX8_woods wsX8_woods rm_X8_woods [.ref (ad 60)] D cy L ad sz x post := by
  refine Met.ofW (cc := cX8_woods) (maxL := 1) (ret := (some .int)) (by decide) rfl ?_
  intro p e s m args below meth c s₁ B hml hv
  obtain ⟨hargs, hp⟩ := hv
  obtain ⟨C, hr, hlk, hsz, G⟩ := fr_start B hml hp
  subst hsz
  obtain ⟨ls, els, hl⟩ := fr_entry (m := m) (n := 1) hargs (Nat.le_of_ble_eq_true rfl)
  rw [els]
  have hl : lv_has ls 1 [(0, .ref (ad 60))] := hl
  clear els hargs hp B
  refine lv_aload_n C.1 C.2.1 dX8_woods_0 rfl (lv_at hl 0 rfl) ?_
  refine fr_Vv C G (c_X8_findWoods l D cy L ad _ hL x _ hw) (cwV 0 C.2.2.2.2 gX8_woods_X8_findWoods rfl rfl rfl (by decide +kernel) ⟨Nat.le_of_ble_eq_true rfl, Nat.le_of_ble_eq_true rfl⟩) (G.recv (hL _ (by omega)) (cl_60 _) rfl) rfl hl.1 rfl (Nat.le_of_ble_eq_true rfl) dX8_woods_1 ⟨Nat.zero_le _, Nat.zero_le _⟩ (fun x_1 H locs hw G => ?_)
  refine lv_aload_n C.1 C.2.1 dX8_woods_4 rfl (lv_at hl 0 rfl) ?_
  refine fr_get C G 60 (hL _ (by omega)) (cl_60 _) rfl iw_X8_woods_X8 15 (by decide) fl_X8_woods_107 rfl dX8_woods_5 ?_
  exact fr_iret C G hr hlk hw dX8_woods_8
