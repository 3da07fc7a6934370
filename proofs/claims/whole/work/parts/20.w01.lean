def wX_X5_valuesBelow_38 (post : Int → Mm → Prop) (v3_6 : Int) (v4_7 : Int) (v5_8 : Int) (v7_9 : Int) (v9_10 : Int) (v11_11 : Int) (x_12 : Mm) : Prop :=
  post v3_6 x_12
def wB_X5_valuesBelow_38 (c1 : Nat) (a1 : Int) (a2 : Int) (kx_38 bk_38 : Int → Int → Int → Int → Int → Int → Mm → Prop) (v3_6 : Int) (v4_7 : Int) (v5_8 : Int) (v7_9 : Int) (v9_10 : Int) (v11_11 : Int) (x_12 : Mm) : Prop :=
  rg v11_11 ∧ (if 4 ≤ v11_11 then (kx_38 v3_6 v4_7 v5_8 v7_9 v9_10 v11_11 x_12) else (w_X5_bondAt c1 a1 (v11_11 + 1) x_12 (fun z_15 x_14 => rg z_15 ∧ rg a2 ∧ (0 ≤ v11_11 ∧ v11_11 < 4) ∧ rg (x_14 c1 (v11_11).toNat) ∧ ∀ v14_20 : Int, v14_20 = (v9_10 + z_15) - (a2 * (x_14 c1 (v11_11).toNat)) → ∀ v16_21 : Int, v16_21 = (v14_20 * v7_9) - ((v9_10 * v9_10) * v5_8) → rl v16_21 ∧ if v16_21 = 0 then (∀ v11_24 : Int, v11_24 = v11_11 + 1 → bk_38 v3_6 v4_7 v7_9 v16_21 z_15 v11_24 x_14) else (rl v16_21 ∧ if 0 ≤ v16_21 then (rg v4_7 ∧ (if 0 = v4_7 then (∀ v11_28 : Int, v11_28 = v11_11 + 1 → bk_38 v3_6 v4_7 v7_9 v16_21 z_15 v11_28 x_14) else (rg v4_7 ∧ (if v4_7 = 0 then (∀ v3_32 : Int, v3_32 = v3_6 + 1 → ∀ v11_33 : Int, v11_33 = v11_11 + 1 → bk_38 v3_32 1 v7_9 v16_21 z_15 v11_33 x_14) else (∀ v3_30 : Int, v3_30 = v3_6 + 1 → ∀ v11_31 : Int, v11_31 = v11_11 + 1 → bk_38 v3_30 0 v7_9 v16_21 z_15 v11_31 x_14))))) else (rg v4_7 ∧ (if 1 = v4_7 then (∀ v11_37 : Int, v11_37 = v11_11 + 1 → bk_38 v3_6 v4_7 v7_9 v16_21 z_15 v11_37 x_14) else (rg v4_7 ∧ (if v4_7 = 0 then (∀ v3_41 : Int, v3_41 = v3_6 + 1 → ∀ v11_42 : Int, v11_42 = v11_11 + 1 → bk_38 v3_41 1 v7_9 v16_21 z_15 v11_42 x_14) else (∀ v3_39 : Int, v3_39 = v3_6 + 1 → ∀ v11_40 : Int, v11_40 = v11_11 + 1 → bk_38 v3_39 0 v7_9 v16_21 z_15 v11_40 x_14)))))))))
def w_X5_valuesBelow (c1 : Nat) (a1 a2 : Int) (x : Mm) (post : Int → Mm → Prop) : Prop :=
  rg a2 ∧ (if 0 < a2 then (rg a2 ∧ (if a2 < 512 then (w_X5_bondAt c1 a1 0 x (fun z_4 x_3 => rg z_4 ∧ ∃ n : Nat, lk7 (wB_X5_valuesBelow_38 c1 a1 a2 (wX_X5_valuesBelow_38 post)) n 0 0 0 1 z_4 0 x_3)) else (post 4 x))) else (post 0 x))
abbrev rm_X5_valuesBelow : Room := { frames := 1, cells := 0, slots := 0, locals := 23 }
set_option maxHeartbeats 4000000 in
set_option maxRecDepth 100000 in
theorem c_X5_valuesBelow (l : Launch) (D : va_G) (cy : Nat → ClassId) (L : List Nat) (ad : Nat → Nat) (sz : Nat) (c1 : Nat) (hc1 : c1 ∈ L) (hlc1 : al c1 = 4) (a1 a2 : Int) (x : Mm) (post : Int → Mm → Prop) (hw : w_X5_valuesBelow c1 a1 a2 x post) : fMi l yX5_valuesBelow wsX5_valuesBelow rm_X5_valuesBelow [.ref (ad c1), .int (iI a1), .int (iI a2)] D cy L ad sz x post := by
  refine Met.ofW (cc := cX5_valuesBelow) (maxL := 18) (ret := (some .int)) (by decide) rfl ?_
  intro p e s m args below meth c s₁ B hml hv
  obtain ⟨hargs, hp⟩ := hv
  obtain ⟨C, hr, hlk, hsz, G⟩ := fr_start B hml hp
  subst hsz
  obtain ⟨ls, els, hl⟩ := fr_entry (m := m) (n := 18) hargs (Nat.le_of_ble_eq_true rfl)
  rw [els]
  have hl : lv_has ls 18 [(0, .ref (ad c1)), (1, .int (iI a1)), (2, .int (iI a2))] := hl
  clear els hargs hp B
  refine lv_iload_n C.1 C.2.1 dX5_valuesBelow_0 rfl (lv_at hl 2 rfl) ?_
  obtain ⟨hc_49, hw⟩ := hw
  refine fr_gt0 (tgt := 6) C dX5_valuesBelow_1 (by decide) hc_49 (fun q_1 => ?_) (fun q_1 => ?_)
  · have hw := if_p hw q_1
    refine lv_iload_n C.1 C.2.1 dX5_valuesBelow_6 rfl (lv_at hl 2 rfl) ?_
    refine fr_si C dX5_valuesBelow_7 rfl ?_
    obtain ⟨hc_48, hw⟩ := hw
    refine fr_lt (tgt := 15) C dX5_valuesBelow_10 (by decide) ⟨hc_48, ⟨by decide, by decide⟩⟩ (fun q_2 => ?_) (fun q_2 => ?_)
    · have hw := if_p hw q_2
      refine fr_ic C dX5_valuesBelow_15 ?_
      refine lv_istore_n (lv' := [(3, .int (iI 0)), (0, .ref (ad c1)), (1, .int (iI a1)), (2, .int (iI a2))]) C.1 C.2.1 dX5_valuesBelow_16 rfl hl (by decide) rfl (fun ls hl => ?_)
      refine fr_ic C dX5_valuesBelow_17 ?_
      refine lv_istore (lv' := [(4, .int (iI 0)), (3, .int (iI 0)), (0, .ref (ad c1)), (1, .int (iI a1)), (2, .int (iI a2))]) C.1 C.2.1 dX5_valuesBelow_18 hl (by decide) rfl (fun ls hl => ?_)
      refine fr_lc (z := 0) C dX5_valuesBelow_20 rfl ?_
      refine lv_lstore (lv' := [(5, .long (iL 0)), (4, .int (iI 0)), (3, .int (iI 0)), (0, .ref (ad c1)), (1, .int (iI a1)), (2, .int (iI a2))]) C.1 C.2.1 dX5_valuesBelow_21 hl (by decide) rfl (fun ls hl => ?_)
      refine fr_lc (z := 1) C dX5_valuesBelow_23 rfl ?_
      refine lv_lstore (lv' := [(7, .long (iL 1)), (5, .long (iL 0)), (4, .int (iI 0)), (3, .int (iI 0)), (0, .ref (ad c1)), (1, .int (iI a1)), (2, .int (iI a2))]) C.1 C.2.1 dX5_valuesBelow_24 hl (by decide) rfl (fun ls hl => ?_)
      refine lv_aload_n C.1 C.2.1 dX5_valuesBelow_26 rfl (lv_at hl 4 rfl) ?_
      refine lv_iload_n C.1 C.2.1 dX5_valuesBelow_27 rfl (lv_at hl 5 rfl) ?_
      refine fr_ic C dX5_valuesBelow_28 ?_
      refine fr_Si C G (c_X5_bondAt l D cy L ad _ c1 hc1 hlc1 a1 0 x _ hw) (va_cwS 3 C.2.2.2.2 gX5_valuesBelow_X5_bondAt rfl rfl rfl (by decide +kernel) ⟨Nat.le_of_ble_eq_true rfl, Nat.le_of_ble_eq_true rfl⟩) rfl hl.1 rfl (Nat.le_of_ble_eq_true rfl) dX5_valuesBelow_29 ⟨Nat.zero_le _, Nat.zero_le _⟩ (fun z_4 x_3 H locs hw G => ?_)
      obtain ⟨hr_5, hw⟩ := hw
      refine fr_i2l C dX5_valuesBelow_32 hr_5 ?_
      refine lv_lstore (lv' := [(9, .long (iL z_4)), (7, .long (iL 1)), (5, .long (iL 0)), (4, .int (iI 0)), (3, .int (iI 0)), (0, .ref (ad c1)), (1, .int (iI a1)), (2, .int (iI a2))]) C.1 C.2.1 dX5_valuesBelow_33 hl (by decide) rfl (fun ls hl => ?_)
      refine fr_ic C dX5_valuesBelow_35 ?_
      refine lv_istore (lv' := [(11, .int (iI 0)), (9, .long (iL z_4)), (7, .long (iL 1)), (5, .long (iL 0)), (4, .int (iI 0)), (3, .int (iI 0)), (0, .ref (ad c1)), (1, .int (iI a1)), (2, .int (iI a2))]) C.1 C.2.1 dX5_valuesBelow_36 hl (by decide) rfl (fun ls hl => ?_)
      obtain ⟨n38, hw⟩ := hw
      have hS38 : ∀ (kx_38 bk_38 : Int → Int → Int → Int → Int → Int → Mm → Prop), (∀ (v3_6 : Int) (v4_7 : Int) (v5_8 : Int) (v7_9 : Int) (v9_10 : Int) (v11_11 : Int) (x_12 : Mm) (H : Heap) (locs : List Loc) (ls : Array Slot), kx_38 v3_6 v4_7 v5_8 v7_9 v9_10 v11_11 x_12 → fG D cy L ad (fAr L ad s.heap.size) s x_12 H locs → lv_has ls 18 [(0, .ref (ad c1)), (1, .int (iI a1)), (2, .int (iI a2)), (3, .int (iI v3_6)), (4, .int (iI v4_7)), (5, .long (iL v5_8)), (7, .long (iL v7_9)), (9, .long (iL v9_10)), (11, .int (iI v11_11))] → W p l e (headSpec wsX5_valuesBelow rm_X5_valuesBelow).room s m args below meth c H locs 0 0 (fQi below D cy L ad s args post) (F0 m 145 ls [])) → (∀ (v3_6 : Int) (v4_7 : Int) (v5_8 : Int) (v7_9 : Int) (v9_10 : Int) (v11_11 : Int) (x_12 : Mm) (H : Heap) (locs : List Loc) (ls : Array Slot), bk_38 v3_6 v4_7 v5_8 v7_9 v9_10 v11_11 x_12 → fG D cy L ad (fAr L ad s.heap.size) s x_12 H locs → lv_has ls 18 [(0, .ref (ad c1)), (1, .int (iI a1)), (2, .int (iI a2)), (3, .int (iI v3_6)), (4, .int (iI v4_7)), (5, .long (iL v5_8)), (7, .long (iL v7_9)), (9, .long (iL v9_10)), (11, .int (iI v11_11))] → W p l e (headSpec wsX5_valuesBelow rm_X5_valuesBelow).room s m args below meth c H locs 0 0 (fQi below D cy L ad s args post) (F0 m 38 ls [])) → ∀ (v3_6 : Int) (v4_7 : Int) (v5_8 : Int) (v7_9 : Int) (v9_10 : Int) (v11_11 : Int) (x_12 : Mm) (H : Heap) (locs : List Loc) (ls : Array Slot), wB_X5_valuesBelow_38 c1 a1 a2 kx_38 bk_38 v3_6 v4_7 v5_8 v7_9 v9_10 v11_11 x_12 → fG D cy L ad (fAr L ad s.heap.size) s x_12 H locs → lv_has ls 18 [(0, .ref (ad c1)), (1, .int (iI a1)), (2, .int (iI a2)), (3, .int (iI v3_6)), (4, .int (iI v4_7)), (5, .long (iL v5_8)), (7, .long (iL v7_9)), (9, .long (iL v9_10)), (11, .int (iI v11_11))] → W p l e (headSpec wsX5_valuesBelow rm_X5_valuesBelow).room s m args below meth c H locs 0 0 (fQi below D cy L ad s args post) (F0 m 38 ls []) := by
        intro kx_38 bk_38 hX38 ih38 v3_6 v4_7 v5_8 v7_9 v9_10 v11_11 x_12 H locs ls hw G hl
        refine lv_iload C.1 C.2.1 dX5_valuesBelow_38 (lv_at hl 8 rfl) ?_
        refine fr_ic C dX5_valuesBelow_40 ?_
        obtain ⟨hc_47, hw⟩ := hw
        refine fr_ge (tgt := 145) C dX5_valuesBelow_41 (by decide) ⟨hc_47, ⟨by decide, by decide⟩⟩ (fun q_13 => ?_) (fun q_13 => ?_)
        · have hw := if_p hw q_13
          exact hX38 v3_6 v4_7 v5_8 v7_9 v9_10 v11_11 x_12 _ _ _ hw G (lv_sub hl [0, 1, 2, 3, 4, 5, 6, 7, 8] rfl)
        · have hw := if_n hw q_13
          refine lv_aload_n C.1 C.2.1 dX5_valuesBelow_44 rfl (lv_at hl 0 rfl) ?_
          refine lv_iload_n C.1 C.2.1 dX5_valuesBelow_45 rfl (lv_at hl 1 rfl) ?_
          refine lv_iload C.1 C.2.1 dX5_valuesBelow_46 (lv_at hl 8 rfl) ?_
          refine fr_ic C dX5_valuesBelow_48 ?_
          refine fr_iadd C dX5_valuesBelow_49 ?_
          refine fr_Si C G (c_X5_bondAt l D cy L ad _ c1 hc1 hlc1 a1 (v11_11 + 1) x_12 _ hw) (va_cwS 3 C.2.2.2.2 gX5_valuesBelow_X5_bondAt rfl rfl rfl (by decide +kernel) ⟨Nat.le_of_ble_eq_true rfl, Nat.le_of_ble_eq_true rfl⟩) rfl hl.1 rfl (Nat.le_of_ble_eq_true rfl) dX5_valuesBelow_50 ⟨Nat.zero_le _, Nat.zero_le _⟩ (fun z_15 x_14 H locs hw G => ?_)
          obtain ⟨hr_16, hw⟩ := hw
          refine fr_i2l C dX5_valuesBelow_53 hr_16 ?_
          refine lv_lstore (lv' := [(12, .long (iL z_15)), (0, .ref (ad c1)), (1, .int (iI a1)), (2, .int (iI a2)), (3, .int (iI v3_6)), (4, .int (iI v4_7)), (5, .long (iL v5_8)), (7, .long (iL v7_9)), (9, .long (iL v9_10)), (11, .int (iI v11_11))]) C.1 C.2.1 dX5_valuesBelow_54 hl (by decide) rfl (fun ls hl => ?_)
          refine lv_lload C.1 C.2.1 dX5_valuesBelow_56 (lv_at hl 8 rfl) ?_
          refine lv_lload C.1 C.2.1 dX5_valuesBelow_58 (lv_at hl 0 rfl) ?_
          refine fr_ladd C dX5_valuesBelow_60 ?_
          refine lv_iload_n C.1 C.2.1 dX5_valuesBelow_61 rfl (lv_at hl 3 rfl) ?_
          obtain ⟨hr_17, hw⟩ := hw
          refine fr_i2l C dX5_valuesBelow_62 hr_17 ?_
          refine lv_aload_n C.1 C.2.1 dX5_valuesBelow_63 rfl (lv_at hl 1 rfl) ?_
          refine lv_iload C.1 C.2.1 dX5_valuesBelow_64 (lv_at hl 9 rfl) ?_
          obtain ⟨hb_18, hw⟩ := hw
          refine fr_iald C G c1 4 hc1 hlc1 ⟨by decide, by decide⟩ hb_18 dX5_valuesBelow_66 ?_
          obtain ⟨hr_19, hw⟩ := hw
          refine fr_i2l C dX5_valuesBelow_67 hr_19 ?_
          refine fr_lmul C dX5_valuesBelow_68 ?_
          refine fr_lsub C dX5_valuesBelow_69 ?_
          refine fr_nml (fun v14_20 ev14_20 => ?_)
          have hw := hw v14_20 ev14_20
          refine lv_lstore (lv' := [(14, .long (iL v14_20)), (12, .long (iL z_15)), (0, .ref (ad c1)), (1, .int (iI a1)), (2, .int (iI a2)), (3, .int (iI v3_6)), (4, .int (iI v4_7)), (5, .long (iL v5_8)), (7, .long (iL v7_9)), (9, .long (iL v9_10)), (11, .int (iI v11_11))]) C.1 C.2.1 dX5_valuesBelow_70 hl (by decide) rfl (fun ls hl => ?_)
          refine lv_lload C.1 C.2.1 dX5_valuesBelow_72 (lv_at hl 0 rfl) ?_
          refine lv_lload C.1 C.2.1 dX5_valuesBelow_74 (lv_at hl 8 rfl) ?_
          refine fr_lmul C dX5_valuesBelow_76 ?_
          refine lv_lload C.1 C.2.1 dX5_valuesBelow_77 (lv_at hl 9 rfl) ?_
          refine lv_lload C.1 C.2.1 dX5_valuesBelow_79 (lv_at hl 9 rfl) ?_
          refine fr_lmul C dX5_valuesBelow_81 ?_
          refine lv_lload C.1 C.2.1 dX5_valuesBelow_82 (lv_at hl 7 rfl) ?_
          refine fr_lmul C dX5_valuesBelow_84 ?_
          refine fr_lsub C dX5_valuesBelow_85 ?_
          refine fr_nml (fun v16_21 ev16_21 => ?_)
          have hw := hw v16_21 ev16_21
          refine lv_lstore (lv' := [(16, .long (iL v16_21)), (14, .long (iL v14_20)), (12, .long (iL z_15)), (0, .ref (ad c1)), (1, .int (iI a1)), (2, .int (iI a2)), (3, .int (iI v3_6)), (4, .int (iI v4_7)), (5, .long (iL v5_8)), (7, .long (iL v7_9)), (9, .long (iL v9_10)), (11, .int (iI v11_11))]) C.1 C.2.1 dX5_valuesBelow_86 hl (by decide) rfl (fun ls hl => ?_)
          refine lv_lload C.1 C.2.1 dX5_valuesBelow_88 (lv_at hl 9 rfl) ?_
          refine lv_lstore (lv' := [(5, .long (iL v7_9)), (16, .long (iL v16_21)), (14, .long (iL v14_20)), (12, .long (iL z_15)), (0, .ref (ad c1)), (1, .int (iI a1)), (2, .int (iI a2)), (3, .int (iI v3_6)), (4, .int (iI v4_7)), (7, .long (iL v7_9)), (9, .long (iL v9_10)), (11, .int (iI v11_11))]) C.1 C.2.1 dX5_valuesBelow_90 hl (by decide) rfl (fun ls hl => ?_)
          refine lv_lload C.1 C.2.1 dX5_valuesBelow_92 (lv_at hl 1 rfl) ?_
          refine lv_lstore (lv' := [(7, .long (iL v16_21)), (5, .long (iL v7_9)), (16, .long (iL v16_21)), (14, .long (iL v14_20)), (12, .long (iL z_15)), (0, .ref (ad c1)), (1, .int (iI a1)), (2, .int (iI a2)), (3, .int (iI v3_6)), (4, .int (iI v4_7)), (9, .long (iL v9_10)), (11, .int (iI v11_11))]) C.1 C.2.1 dX5_valuesBelow_94 hl (by decide) rfl (fun ls hl => ?_)
          refine lv_lload C.1 C.2.1 dX5_valuesBelow_96 (lv_at hl 4 rfl) ?_
          refine lv_lstore (lv' := [(9, .long (iL z_15)), (7, .long (iL v16_21)), (5, .long (iL v7_9)), (16, .long (iL v16_21)), (14, .long (iL v14_20)), (12, .long (iL z_15)), (0, .ref (ad c1)), (1, .int (iI a1)), (2, .int (iI a2)), (3, .int (iI v3_6)), (4, .int (iI v4_7)), (11, .int (iI v11_11))]) C.1 C.2.1 dX5_valuesBelow_98 hl (by decide) rfl (fun ls hl => ?_)
          refine lv_lload C.1 C.2.1 dX5_valuesBelow_100 (lv_at hl 1 rfl) ?_
          refine fr_lc (z := 0) C dX5_valuesBelow_102 rfl ?_
          obtain ⟨hl_22, hw⟩ := hw
          refine fr_lcmp C dX5_valuesBelow_103 ⟨hl_22, ⟨by decide, by decide⟩⟩ ?_
          refine fr_eq0 (tgt := 139) C dX5_valuesBelow_104 (by decide) (cm_rg _ _) (fun q_23 => ?_) (fun q_23 => ?_)
          · have hw := if_p hw (cm_eq0.mp q_23)
            obtain ⟨v11_24, ev11_24⟩ : ∃ z : Int, z = v11_11 + 1 := ⟨_, rfl⟩
            have hw := hw v11_24 ev11_24
            refine lv_iinc (v := iI v11_24) (lv' := [(11, .int (iI v11_24)), (9, .long (iL z_15)), (7, .long (iL v16_21)), (5, .long (iL v7_9)), (16, .long (iL v16_21)), (14, .long (iL v14_20)), (12, .long (iL z_15)), (0, .ref (ad c1)), (1, .int (iI a1)), (2, .int (iI a2)), (3, .int (iI v3_6)), (4, .int (iI v4_7))]) C.1 C.2.1 dX5_valuesBelow_139 hl (k := 11) rfl (by rw [ev11_24]; exact iI_add _ _) (by decide) rfl (fun ls hl => ?_)
            refine lv_goto (tgt := 38) C.1 C.2.1 dX5_valuesBelow_142 (by decide) ?_
            exact ih38 v3_6 v4_7 v7_9 v16_21 z_15 v11_24 x_14 _ _ _ hw G (lv_sub hl [7, 8, 9, 10, 11, 3, 2, 1, 0] rfl)
          · have hw := if_n hw (fun z => q_23 (cm_eq0.mpr z))
            refine lv_lload C.1 C.2.1 dX5_valuesBelow_107 (lv_at hl 1 rfl) ?_
            refine fr_lc (z := 0) C dX5_valuesBelow_109 rfl ?_
            obtain ⟨hl_25, hw⟩ := hw
            refine fr_lcmp C dX5_valuesBelow_110 ⟨hl_25, ⟨by decide, by decide⟩⟩ ?_
            refine fr_ge0 (tgt := 118) C dX5_valuesBelow_111 (by decide) (cm_rg _ _) (fun q_26 => ?_) (fun q_26 => ?_)
            · have hw := if_p hw (cm_ge0.mp q_26)
              refine fr_ic C dX5_valuesBelow_118 ?_
              refine lv_iload C.1 C.2.1 dX5_valuesBelow_119 (lv_at hl 10 rfl) ?_
              obtain ⟨hc_35, hw⟩ := hw
              refine fr_eq (tgt := 139) C dX5_valuesBelow_121 (by decide) ⟨⟨by decide, by decide⟩, hc_35⟩ (fun q_27 => ?_) (fun q_27 => ?_)
              · have hw := if_p hw q_27
                obtain ⟨v11_28, ev11_28⟩ : ∃ z : Int, z = v11_11 + 1 := ⟨_, rfl⟩
                have hw := hw v11_28 ev11_28
                refine lv_iinc (v := iI v11_28) (lv' := [(11, .int (iI v11_28)), (9, .long (iL z_15)), (7, .long (iL v16_21)), (5, .long (iL v7_9)), (16, .long (iL v16_21)), (14, .long (iL v14_20)), (12, .long (iL z_15)), (0, .ref (ad c1)), (1, .int (iI a1)), (2, .int (iI a2)), (3, .int (iI v3_6)), (4, .int (iI v4_7))]) C.1 C.2.1 dX5_valuesBelow_139 hl (k := 11) rfl (by rw [ev11_28]; exact iI_add _ _) (by decide) rfl (fun ls hl => ?_)
                refine lv_goto (tgt := 38) C.1 C.2.1 dX5_valuesBelow_142 (by decide) ?_
                exact ih38 v3_6 v4_7 v7_9 v16_21 z_15 v11_28 x_14 _ _ _ hw G (lv_sub hl [7, 8, 9, 10, 11, 3, 2, 1, 0] rfl)
              · have hw := if_n hw q_27
                refine lv_iload C.1 C.2.1 dX5_valuesBelow_124 (lv_at hl 10 rfl) ?_
                obtain ⟨hc_34, hw⟩ := hw
                refine fr_ne0 (tgt := 133) C dX5_valuesBelow_126 (by decide) hc_34 (fun q_29 => ?_) (fun q_29 => ?_)
                · have hw := if_p hw q_29
                  refine fr_ic C dX5_valuesBelow_129 ?_
                  refine lv_goto (tgt := 134) C.1 C.2.1 dX5_valuesBelow_130 (by decide) ?_
                  refine lv_istore (lv' := [(4, .int (iI 1)), (9, .long (iL z_15)), (7, .long (iL v16_21)), (5, .long (iL v7_9)), (16, .long (iL v16_21)), (14, .long (iL v14_20)), (12, .long (iL z_15)), (0, .ref (ad c1)), (1, .int (iI a1)), (2, .int (iI a2)), (3, .int (iI v3_6)), (11, .int (iI v11_11))]) C.1 C.2.1 dX5_valuesBelow_134 hl (by decide) rfl (fun ls hl => ?_)
                  obtain ⟨v3_32, ev3_32⟩ : ∃ z : Int, z = v3_6 + 1 := ⟨_, rfl⟩
                  have hw := hw v3_32 ev3_32
                  refine lv_iinc (v := iI v3_32) (lv' := [(3, .int (iI v3_32)), (4, .int (iI 1)), (9, .long (iL z_15)), (7, .long (iL v16_21)), (5, .long (iL v7_9)), (16, .long (iL v16_21)), (14, .long (iL v14_20)), (12, .long (iL z_15)), (0, .ref (ad c1)), (1, .int (iI a1)), (2, .int (iI a2)), (11, .int (iI v11_11))]) C.1 C.2.1 dX5_valuesBelow_136 hl (k := 10) rfl (by rw [ev3_32]; exact iI_add _ _) (by decide) rfl (fun ls hl => ?_)
                  obtain ⟨v11_33, ev11_33⟩ : ∃ z : Int, z = v11_11 + 1 := ⟨_, rfl⟩
                  have hw := hw v11_33 ev11_33
                  refine lv_iinc (v := iI v11_33) (lv' := [(11, .int (iI v11_33)), (3, .int (iI v3_32)), (4, .int (iI 1)), (9, .long (iL z_15)), (7, .long (iL v16_21)), (5, .long (iL v7_9)), (16, .long (iL v16_21)), (14, .long (iL v14_20)), (12, .long (iL z_15)), (0, .ref (ad c1)), (1, .int (iI a1)), (2, .int (iI a2))]) C.1 C.2.1 dX5_valuesBelow_139 hl (k := 11) rfl (by rw [ev11_33]; exact iI_add _ _) (by decide) rfl (fun ls hl => ?_)
                  refine lv_goto (tgt := 38) C.1 C.2.1 dX5_valuesBelow_142 (by decide) ?_
                  exact ih38 v3_32 1 v7_9 v16_21 z_15 v11_33 x_14 _ _ _ hw G (lv_sub hl [9, 10, 11, 1, 2, 5, 4, 3, 0] rfl)
                · have hw := if_n hw q_29
                  refine fr_ic C dX5_valuesBelow_133 ?_
                  refine lv_istore (lv' := [(4, .int (iI 0)), (9, .long (iL z_15)), (7, .long (iL v16_21)), (5, .long (iL v7_9)), (16, .long (iL v16_21)), (14, .long (iL v14_20)), (12, .long (iL z_15)), (0, .ref (ad c1)), (1, .int (iI a1)), (2, .int (iI a2)), (3, .int (iI v3_6)), (11, .int (iI v11_11))]) C.1 C.2.1 dX5_valuesBelow_134 hl (by decide) rfl (fun ls hl => ?_)
                  obtain ⟨v3_30, ev3_30⟩ : ∃ z : Int, z = v3_6 + 1 := ⟨_, rfl⟩
                  have hw := hw v3_30 ev3_30
                  refine lv_iinc (v := iI v3_30) (lv' := [(3, .int (iI v3_30)), (4, .int (iI 0)), (9, .long (iL z_15)), (7, .long (iL v16_21)), (5, .long (iL v7_9)), (16, .long (iL v16_21)), (14, .long (iL v14_20)), (12, .long (iL z_15)), (0, .ref (ad c1)), (1, .int (iI a1)), (2, .int (iI a2)), (11, .int (iI v11_11))]) C.1 C.2.1 dX5_valuesBelow_136 hl (k := 10) rfl (by rw [ev3_30]; exact iI_add _ _) (by decide) rfl (fun ls hl => ?_)
                  obtain ⟨v11_31, ev11_31⟩ : ∃ z : Int, z = v11_11 + 1 := ⟨_, rfl⟩
                  have hw := hw v11_31 ev11_31
                  refine lv_iinc (v := iI v11_31) (lv' := [(11, .int (iI v11_31)), (3, .int (iI v3_30)), (4, .int (iI 0)), (9, .long (iL z_15)), (7, .long (iL v16_21)), (5, .long (iL v7_9)), (16, .long (iL v16_21)), (14, .long (iL v14_20)), (12, .long (iL z_15)), (0, .ref (ad c1)), (1, .int (iI a1)), (2, .int (iI a2))]) C.1 C.2.1 dX5_valuesBelow_139 hl (k := 11) rfl (by rw [ev11_31]; exact iI_add _ _) (by decide) rfl (fun ls hl => ?_)
                  refine lv_goto (tgt := 38) C.1 C.2.1 dX5_valuesBelow_142 (by decide) ?_
                  exact ih38 v3_30 0 v7_9 v16_21 z_15 v11_31 x_14 _ _ _ hw G (lv_sub hl [9, 10, 11, 1, 2, 5, 4, 3, 0] rfl)
            · have hw := if_n hw (fun z => q_26 (cm_ge0.mpr z))
              refine fr_ic C dX5_valuesBelow_114 ?_
              refine lv_goto (tgt := 119) C.1 C.2.1 dX5_valuesBelow_115 (by decide) ?_
              refine lv_iload C.1 C.2.1 dX5_valuesBelow_119 (lv_at hl 10 rfl) ?_
              obtain ⟨hc_44, hw⟩ := hw
              refine fr_eq (tgt := 139) C dX5_valuesBelow_121 (by decide) ⟨⟨by decide, by decide⟩, hc_44⟩ (fun q_36 => ?_) (fun q_36 => ?_)
              · have hw := if_p hw q_36
                obtain ⟨v11_37, ev11_37⟩ : ∃ z : Int, z = v11_11 + 1 := ⟨_, rfl⟩
                have hw := hw v11_37 ev11_37
                refine lv_iinc (v := iI v11_37) (lv' := [(11, .int (iI v11_37)), (9, .long (iL z_15)), (7, .long (iL v16_21)), (5, .long (iL v7_9)), (16, .long (iL v16_21)), (14, .long (iL v14_20)), (12, .long (iL z_15)), (0, .ref (ad c1)), (1, .int (iI a1)), (2, .int (iI a2)), (3, .int (iI v3_6)), (4, .int (iI v4_7))]) C.1 C.2.1 dX5_valuesBelow_139 hl (k := 11) rfl (by rw [ev11_37]; exact iI_add _ _) (by decide) rfl (fun ls hl => ?_)
                refine lv_goto (tgt := 38) C.1 C.2.1 dX5_valuesBelow_142 (by decide) ?_
                exact ih38 v3_6 v4_7 v7_9 v16_21 z_15 v11_37 x_14 _ _ _ hw G (lv_sub hl [7, 8, 9, 10, 11, 3, 2, 1, 0] rfl)
              · have hw := if_n hw q_36
                refine lv_iload C.1 C.2.1 dX5_valuesBelow_124 (lv_at hl 10 rfl) ?_
                obtain ⟨hc_43, hw⟩ := hw
                refine fr_ne0 (tgt := 133) C dX5_valuesBelow_126 (by decide) hc_43 (fun q_38 => ?_) (fun q_38 => ?_)
                · have hw := if_p hw q_38
                  refine fr_ic C dX5_valuesBelow_129 ?_
                  refine lv_goto (tgt := 134) C.1 C.2.1 dX5_valuesBelow_130 (by decide) ?_
                  refine lv_istore (lv' := [(4, .int (iI 1)), (9, .long (iL z_15)), (7, .long (iL v16_21)), (5, .long (iL v7_9)), (16, .long (iL v16_21)), (14, .long (iL v14_20)), (12, .long (iL z_15)), (0, .ref (ad c1)), (1, .int (iI a1)), (2, .int (iI a2)), (3, .int (iI v3_6)), (11, .int (iI v11_11))]) C.1 C.2.1 dX5_valuesBelow_134 hl (by decide) rfl (fun ls hl => ?_)
                  obtain ⟨v3_41, ev3_41⟩ : ∃ z : Int, z = v3_6 + 1 := ⟨_, rfl⟩
                  have hw := hw v3_41 ev3_41
                  refine lv_iinc (v := iI v3_41) (lv' := [(3, .int (iI v3_41)), (4, .int (iI 1)), (9, .long (iL z_15)), (7, .long (iL v16_21)), (5, .long (iL v7_9)), (16, .long (iL v16_21)), (14, .long (iL v14_20)), (12, .long (iL z_15)), (0, .ref (ad c1)), (1, .int (iI a1)), (2, .int (iI a2)), (11, .int (iI v11_11))]) C.1 C.2.1 dX5_valuesBelow_136 hl (k := 10) rfl (by rw [ev3_41]; exact iI_add _ _) (by decide) rfl (fun ls hl => ?_)
                  obtain ⟨v11_42, ev11_42⟩ : ∃ z : Int, z = v11_11 + 1 := ⟨_, rfl⟩
                  have hw := hw v11_42 ev11_42
                  refine lv_iinc (v := iI v11_42) (lv' := [(11, .int (iI v11_42)), (3, .int (iI v3_41)), (4, .int (iI 1)), (9, .long (iL z_15)), (7, .long (iL v16_21)), (5, .long (iL v7_9)), (16, .long (iL v16_21)), (14, .long (iL v14_20)), (12, .long (iL z_15)), (0, .ref (ad c1)), (1, .int (iI a1)), (2, .int (iI a2))]) C.1 C.2.1 dX5_valuesBelow_139 hl (k := 11) rfl (by rw [ev11_42]; exact iI_add _ _) (by decide) rfl (fun ls hl => ?_)
                  refine lv_goto (tgt := 38) C.1 C.2.1 dX5_valuesBelow_142 (by decide) ?_
                  exact ih38 v3_41 1 v7_9 v16_21 z_15 v11_42 x_14 _ _ _ hw G (lv_sub hl [9, 10, 11, 1, 2, 5, 4, 3, 0] rfl)
                · have hw := if_n hw q_38
                  refine fr_ic C dX5_valuesBelow_133 ?_
                  refine lv_istore (lv' := [(4, .int (iI 0)), (9, .long (iL z_15)), (7, .long (iL v16_21)), (5, .long (iL v7_9)), (16, .long (iL v16_21)), (14, .long (iL v14_20)), (12, .long (iL z_15)), (0, .ref (ad c1)), (1, .int (iI a1)), (2, .int (iI a2)), (3, .int (iI v3_6)), (11, .int (iI v11_11))]) C.1 C.2.1 dX5_valuesBelow_134 hl (by decide) rfl (fun ls hl => ?_)
                  obtain ⟨v3_39, ev3_39⟩ : ∃ z : Int, z = v3_6 + 1 := ⟨_, rfl⟩
                  have hw := hw v3_39 ev3_39
                  refine lv_iinc (v := iI v3_39) (lv' := [(3, .int (iI v3_39)), (4, .int (iI 0)), (9, .long (iL z_15)), (7, .long (iL v16_21)), (5, .long (iL v7_9)), (16, .long (iL v16_21)), (14, .long (iL v14_20)), (12, .long (iL z_15)), (0, .ref (ad c1)), (1, .int (iI a1)), (2, .int (iI a2)), (11, .int (iI v11_11))]) C.1 C.2.1 dX5_valuesBelow_136 hl (k := 10) rfl (by rw [ev3_39]; exact iI_add _ _) (by decide) rfl (fun ls hl => ?_)
                  obtain ⟨v11_40, ev11_40⟩ : ∃ z : Int, z = v11_11 + 1 := ⟨_, rfl⟩
                  have hw := hw v11_40 ev11_40
                  refine lv_iinc (v := iI v11_40) (lv' := [(11, .int (iI v11_40)), (3, .int (iI v3_39)), (4, .int (iI 0)), (9, .long (iL z_15)), (7, .long (iL v16_21)), (5, .long (iL v7_9)), (16, .long (iL v16_21)), (14, .long (iL v14_20)), (12, .long (iL z_15)), (0, .ref (ad c1)), (1, .int (iI a1)), (2, .int (iI a2))]) C.1 C.2.1 dX5_valuesBelow_139 hl (k := 11) rfl (by rw [ev11_40]; exact iI_add _ _) (by decide) rfl (fun ls hl => ?_)
                  refine lv_goto (tgt := 38) C.1 C.2.1 dX5_valuesBelow_142 (by decide) ?_
                  exact ih38 v3_39 0 v7_9 v16_21 z_15 v11_40 x_14 _ _ _ hw G (lv_sub hl [9, 10, 11, 1, 2, 5, 4, 3, 0] rfl)
      have hX38 : ∀ (v3_6 : Int) (v4_7 : Int) (v5_8 : Int) (v7_9 : Int) (v9_10 : Int) (v11_11 : Int) (x_12 : Mm) (H : Heap) (locs : List Loc) (ls : Array Slot), wX_X5_valuesBelow_38 post v3_6 v4_7 v5_8 v7_9 v9_10 v11_11 x_12 → fG D cy L ad (fAr L ad s.heap.size) s x_12 H locs → lv_has ls 18 [(0, .ref (ad c1)), (1, .int (iI a1)), (2, .int (iI a2)), (3, .int (iI v3_6)), (4, .int (iI v4_7)), (5, .long (iL v5_8)), (7, .long (iL v7_9)), (9, .long (iL v9_10)), (11, .int (iI v11_11))] → W p l e (headSpec wsX5_valuesBelow rm_X5_valuesBelow).room s m args below meth c H locs 0 0 (fQi below D cy L ad s args post) (F0 m 145 ls []) := by
        intro v3_6 v4_7 v5_8 v7_9 v9_10 v11_11 x_12 H locs ls hw G hl
        refine lv_iload_n C.1 C.2.1 dX5_valuesBelow_145 rfl (lv_at hl 3 rfl) ?_
        exact fr_iret C G hr hlk hw dX5_valuesBelow_146
      have hB38 : ∀ (n : Nat) (v3_6 : Int) (v4_7 : Int) (v5_8 : Int) (v7_9 : Int) (v9_10 : Int) (v11_11 : Int) (x_12 : Mm) (H : Heap) (locs : List Loc) (ls : Array Slot), lk7 (wB_X5_valuesBelow_38 c1 a1 a2 (wX_X5_valuesBelow_38 post)) n v3_6 v4_7 v5_8 v7_9 v9_10 v11_11 x_12 → fG D cy L ad (fAr L ad s.heap.size) s x_12 H locs → lv_has ls 18 [(0, .ref (ad c1)), (1, .int (iI a1)), (2, .int (iI a2)), (3, .int (iI v3_6)), (4, .int (iI v4_7)), (5, .long (iL v5_8)), (7, .long (iL v7_9)), (9, .long (iL v9_10)), (11, .int (iI v11_11))] → W p l e (headSpec wsX5_valuesBelow rm_X5_valuesBelow).room s m args below meth c H locs 0 0 (fQi below D cy L ad s args post) (F0 m 38 ls []) := by
        intro n
        induction n with
        | zero =>
          intro v3_6 v4_7 v5_8 v7_9 v9_10 v11_11 x_12 H locs ls hw
          exact hw.elim
        | succ n ih =>
          intro v3_6 v4_7 v5_8 v7_9 v9_10 v11_11 x_12 H locs ls hw G hl
          exact hS38 _ _ hX38 ih v3_6 v4_7 v5_8 v7_9 v9_10 v11_11 x_12 H locs ls hw G hl
      exact hB38 n38 0 0 0 1 z_4 0 x_3 _ _ _ hw G (lv_sub hl [6, 7, 8, 5, 4, 3, 2, 1, 0] rfl)
    · have hw := if_n hw q_2
      refine fr_ic C dX5_valuesBelow_13 ?_
      exact fr_iret C G hr hlk hw dX5_valuesBelow_14
  · have hw := if_n hw q_1
    refine fr_ic C dX5_valuesBelow_4 ?_
    exact fr_iret C G hr hlk hw dX5_valuesBelow_5
