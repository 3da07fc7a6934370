def wX_X8_belowOf_15 (post : Int → Mm → Prop) (v4_1 : Int) (v6_2 : Int) (v8_3 : Int) (v10_4 : Int) (v11_5 : Int) (x_6 : Mm) : Prop :=
  post v10_4 x_6
def wB_X8_belowOf_15 (a1 : Int) (a2 : Int) (a3 : Int) (kx_15 bk_15 : Int → Int → Int → Int → Int → Mm → Prop) (v4_1 : Int) (v6_2 : Int) (v8_3 : Int) (v10_4 : Int) (v11_5 : Int) (x_6 : Mm) : Prop :=
  rg v11_5 ∧ (if 4 ≤ v11_5 then (kx_15 v4_1 v6_2 v8_3 v10_4 v11_5 x_6) else (rg v11_5 ∧ (if v11_5 = 0 then (w_X8_bondOf a1 v11_5 x_6 (fun z_58 x_57 => w_X8_bondOf a1 (v11_5 + 1) x_57 (fun z_60 x_59 => rg a3 ∧ rg a2 ∧ (0 ≤ v11_5 ∧ v11_5 < 4) ∧ rg (x_59 71 (v11_5).toNat) ∧ ∀ v14_65 : Int, v14_65 = (((z_58 + z_60) - ((a3 * a2) * (x_59 71 (v11_5).toNat))) * v6_2) - ((0 * 0) * v4_1) → rl v14_65 ∧ if v14_65 = 0 then (∀ v11_68 : Int, v11_68 = v11_5 + 1 → bk_15 v6_2 v14_65 v8_3 v10_4 v11_68 x_59) else (rl v14_65 ∧ if v14_65 ≤ 0 then (rl v8_3 ∧ if v8_3 ≤ 0 then (if (0 : Int) = 0 then (∀ v10_76 : Int, v10_76 = v10_4 + 0 → ∀ v11_77 : Int, v11_77 = v11_5 + 1 → bk_15 v6_2 v14_65 v14_65 v10_76 v11_77 x_59) else (∀ v10_74 : Int, v10_74 = v10_4 + 1 → ∀ v11_75 : Int, v11_75 = v11_5 + 1 → bk_15 v6_2 v14_65 v14_65 v10_74 v11_75 x_59)) else (if (0 : Int) = 1 then (∀ v10_82 : Int, v10_82 = v10_4 + 0 → ∀ v11_83 : Int, v11_83 = v11_5 + 1 → bk_15 v6_2 v14_65 v14_65 v10_82 v11_83 x_59) else (∀ v10_80 : Int, v10_80 = v10_4 + 1 → ∀ v11_81 : Int, v11_81 = v11_5 + 1 → bk_15 v6_2 v14_65 v14_65 v10_80 v11_81 x_59))) else (rl v8_3 ∧ if v8_3 ≤ 0 then (if (1 : Int) = 0 then (∀ v10_91 : Int, v10_91 = v10_4 + 0 → ∀ v11_92 : Int, v11_92 = v11_5 + 1 → bk_15 v6_2 v14_65 v14_65 v10_91 v11_92 x_59) else (∀ v10_89 : Int, v10_89 = v10_4 + 1 → ∀ v11_90 : Int, v11_90 = v11_5 + 1 → bk_15 v6_2 v14_65 v14_65 v10_89 v11_90 x_59)) else (if (1 : Int) = 1 then (∀ v10_97 : Int, v10_97 = v10_4 + 0 → ∀ v11_98 : Int, v11_98 = v11_5 + 1 → bk_15 v6_2 v14_65 v14_65 v10_97 v11_98 x_59) else (∀ v10_95 : Int, v10_95 = v10_4 + 1 → ∀ v11_96 : Int, v11_96 = v11_5 + 1 → bk_15 v6_2 v14_65 v14_65 v10_95 v11_96 x_59))))))) else (w_X8_bondOf a1 v11_5 x_6 (fun z_10 x_9 => w_X8_bondOf a1 v11_5 x_9 (fun z_12 x_11 => w_X8_bondOf a1 (v11_5 + 1) x_11 (fun z_14 x_13 => rg a3 ∧ rg a2 ∧ (0 ≤ v11_5 ∧ v11_5 < 4) ∧ rg (x_13 71 (v11_5).toNat) ∧ ∀ v14_19 : Int, v14_19 = (((z_12 + z_14) - ((a3 * a2) * (x_13 71 (v11_5).toNat))) * v6_2) - ((z_10 * z_10) * v4_1) → rl v14_19 ∧ if v14_19 = 0 then (∀ v11_22 : Int, v11_22 = v11_5 + 1 → bk_15 v6_2 v14_19 v8_3 v10_4 v11_22 x_13) else (rl v14_19 ∧ if v14_19 ≤ 0 then (rl v8_3 ∧ if v8_3 ≤ 0 then (if (0 : Int) = 0 then (∀ v10_30 : Int, v10_30 = v10_4 + 0 → ∀ v11_31 : Int, v11_31 = v11_5 + 1 → bk_15 v6_2 v14_19 v14_19 v10_30 v11_31 x_13) else (∀ v10_28 : Int, v10_28 = v10_4 + 1 → ∀ v11_29 : Int, v11_29 = v11_5 + 1 → bk_15 v6_2 v14_19 v14_19 v10_28 v11_29 x_13)) else (if (0 : Int) = 1 then (∀ v10_36 : Int, v10_36 = v10_4 + 0 → ∀ v11_37 : Int, v11_37 = v11_5 + 1 → bk_15 v6_2 v14_19 v14_19 v10_36 v11_37 x_13) else (∀ v10_34 : Int, v10_34 = v10_4 + 1 → ∀ v11_35 : Int, v11_35 = v11_5 + 1 → bk_15 v6_2 v14_19 v14_19 v10_34 v11_35 x_13))) else (rl v8_3 ∧ if v8_3 ≤ 0 then (if (1 : Int) = 0 then (∀ v10_45 : Int, v10_45 = v10_4 + 0 → ∀ v11_46 : Int, v11_46 = v11_5 + 1 → bk_15 v6_2 v14_19 v14_19 v10_45 v11_46 x_13) else (∀ v10_43 : Int, v10_43 = v10_4 + 1 → ∀ v11_44 : Int, v11_44 = v11_5 + 1 → bk_15 v6_2 v14_19 v14_19 v10_43 v11_44 x_13)) else (if (1 : Int) = 1 then (∀ v10_51 : Int, v10_51 = v10_4 + 0 → ∀ v11_52 : Int, v11_52 = v11_5 + 1 → bk_15 v6_2 v14_19 v14_19 v10_51 v11_52 x_13) else (∀ v10_49 : Int, v10_49 = v10_4 + 1 → ∀ v11_50 : Int, v11_50 = v11_5 + 1 → bk_15 v6_2 v14_19 v14_19 v10_49 v11_50 x_13)))))))))))
def w_X8_belowOf (a1 a2 a3 : Int) (x : Mm) (post : Int → Mm → Prop) : Prop :=
  ∃ n : Nat, lk6 (wB_X8_belowOf_15 a1 a2 a3 (wX_X8_belowOf_15 post)) n 0 1 1 0 0 x
abbrev rm_X8_belowOf : Room := { frames := 1, cells := 0, slots := 0, locals := 23 }
theorem iw_X8_belowOf_X8 : ∀ w ∈ u_ws RX8 TX8 20, w ∈ wsX8_belowOf := by decide +kernel
theorem fl_X8_belowOf_48 : Cond.fieldLink RX8 48 (TX8 14).1 (TX8 14).2.1 (TX8 14).2.2.1 ∈ wsX8_belowOf := by decide +kernel
set_option maxHeartbeats 4000000 in
set_option maxRecDepth 100000 in
theorem c_X8_belowOf (l : Launch) (D : va_G) (cy : Nat → ClassId) (L : List Nat) (ad : Nat → Nat) (sz : Nat) (hL : fLM L) (a1 a2 a3 : Int) (x : Mm) (post : Int → Mm → Prop) (hw : w_X8_belowOf a1 a2 a3 x post) : fMi l yX8_belowOf wsX8_belowOf rm_X8_belowOf [.ref (ad 60), .int (iI a1), .int (iI a2), .int (iI a3)] D cy L ad sz x post := by
  refine Met.ofW (cc := cX8_belowOf) (maxL := 16) (ret := (some .int)) (by decide) rfl ?_
  intro p e s m args below meth c s₁ B hml hv
  obtain ⟨hargs, hp⟩ := hv
  obtain ⟨C, hr, hlk, hsz, G⟩ := fr_start B hml hp
  subst hsz
  obtain ⟨ls, els, hl⟩ := fr_entry (m := m) (n := 16) hargs (Nat.le_of_ble_eq_true rfl)
  rw [els]
  have hl : lv_has ls 16 [(0, .ref (ad 60)), (1, .int (iI a1)), (2, .int (iI a2)), (3, .int (iI a3))] := hl
  clear els hargs hp B
  refine fr_lc (z := 0) C dX8_belowOf_0 rfl ?_
  refine lv_lstore (lv' := [(4, .long (iL 0)), (0, .ref (ad 60)), (1, .int (iI a1)), (2, .int (iI a2)), (3, .int (iI a3))]) C.1 C.2.1 dX8_belowOf_1 hl (by decide) rfl (fun ls hl => ?_)
  refine fr_lc (z := 1) C dX8_belowOf_3 rfl ?_
  refine lv_lstore (lv' := [(6, .long (iL 1)), (4, .long (iL 0)), (0, .ref (ad 60)), (1, .int (iI a1)), (2, .int (iI a2)), (3, .int (iI a3))]) C.1 C.2.1 dX8_belowOf_4 hl (by decide) rfl (fun ls hl => ?_)
  refine fr_lc (z := 1) C dX8_belowOf_6 rfl ?_
  refine lv_lstore (lv' := [(8, .long (iL 1)), (6, .long (iL 1)), (4, .long (iL 0)), (0, .ref (ad 60)), (1, .int (iI a1)), (2, .int (iI a2)), (3, .int (iI a3))]) C.1 C.2.1 dX8_belowOf_7 hl (by decide) rfl (fun ls hl => ?_)
  refine fr_ic C dX8_belowOf_9 ?_
  refine lv_istore (lv' := [(10, .int (iI 0)), (8, .long (iL 1)), (6, .long (iL 1)), (4, .long (iL 0)), (0, .ref (ad 60)), (1, .int (iI a1)), (2, .int (iI a2)), (3, .int (iI a3))]) C.1 C.2.1 dX8_belowOf_10 hl (by decide) rfl (fun ls hl => ?_)
  refine fr_ic C dX8_belowOf_12 ?_
  refine lv_istore (lv' := [(11, .int (iI 0)), (10, .int (iI 0)), (8, .long (iL 1)), (6, .long (iL 1)), (4, .long (iL 0)), (0, .ref (ad 60)), (1, .int (iI a1)), (2, .int (iI a2)), (3, .int (iI a3))]) C.1 C.2.1 dX8_belowOf_13 hl (by decide) rfl (fun ls hl => ?_)
  obtain ⟨n15, hw⟩ := hw
  have hS15 : ∀ (kx_15 bk_15 : Int → Int → Int → Int → Int → Mm → Prop), (∀ (v4_1 : Int) (v6_2 : Int) (v8_3 : Int) (v10_4 : Int) (v11_5 : Int) (x_6 : Mm) (H : Heap) (locs : List Loc) (ls : Array Slot), kx_15 v4_1 v6_2 v8_3 v10_4 v11_5 x_6 → fG D cy L ad (fAr L ad s.heap.size) s x_6 H locs → lv_has ls 16 [(0, .ref (ad 60)), (1, .int (iI a1)), (2, .int (iI a2)), (3, .int (iI a3)), (4, .long (iL v4_1)), (6, .long (iL v6_2)), (8, .long (iL v8_3)), (10, .int (iI v10_4)), (11, .int (iI v11_5))] → W p l e (headSpec wsX8_belowOf rm_X8_belowOf).room s m args below meth c H locs 0 0 (fQi below D cy L ad s args post) (F0 m 147 ls [])) → (∀ (v4_1 : Int) (v6_2 : Int) (v8_3 : Int) (v10_4 : Int) (v11_5 : Int) (x_6 : Mm) (H : Heap) (locs : List Loc) (ls : Array Slot), bk_15 v4_1 v6_2 v8_3 v10_4 v11_5 x_6 → fG D cy L ad (fAr L ad s.heap.size) s x_6 H locs → lv_has ls 16 [(0, .ref (ad 60)), (1, .int (iI a1)), (2, .int (iI a2)), (3, .int (iI a3)), (4, .long (iL v4_1)), (6, .long (iL v6_2)), (8, .long (iL v8_3)), (10, .int (iI v10_4)), (11, .int (iI v11_5))] → W p l e (headSpec wsX8_belowOf rm_X8_belowOf).room s m args below meth c H locs 0 0 (fQi below D cy L ad s args post) (F0 m 15 ls [])) → ∀ (v4_1 : Int) (v6_2 : Int) (v8_3 : Int) (v10_4 : Int) (v11_5 : Int) (x_6 : Mm) (H : Heap) (locs : List Loc) (ls : Array Slot), wB_X8_belowOf_15 a1 a2 a3 kx_15 bk_15 v4_1 v6_2 v8_3 v10_4 v11_5 x_6 → fG D cy L ad (fAr L ad s.heap.size) s x_6 H locs → lv_has ls 16 [(0, .ref (ad 60)), (1, .int (iI a1)), (2, .int (iI a2)), (3, .int (iI a3)), (4, .long (iL v4_1)), (6, .long (iL v6_2)), (8, .long (iL v8_3)), (10, .int (iI v10_4)), (11, .int (iI v11_5))] → W p l e (headSpec wsX8_belowOf rm_X8_belowOf).room s m args below meth c H locs 0 0 (fQi below D cy L ad s args post) (F0 m 15 ls []) := by
    intro kx_15 bk_15 hX15 ih15 v4_1 v6_2 v8_3 v10_4 v11_5 x_6 H locs ls hw G hl
    refine lv_iload C.1 C.2.1 dX8_belowOf_15 (lv_at hl 8 rfl) ?_
    refine fr_ic C dX8_belowOf_17 ?_
    obtain ⟨hc_104, hw⟩ := hw
    refine fr_ge (tgt := 147) C dX8_belowOf_18 (by decide) ⟨hc_104, ⟨by decide, by decide⟩⟩ (fun q_7 => ?_) (fun q_7 => ?_)
    · have hw := if_p hw q_7
      exact hX15 v4_1 v6_2 v8_3 v10_4 v11_5 x_6 _ _ _ hw G (lv_sub hl [0, 1, 2, 3, 4, 5, 6, 7, 8] rfl)
    · have hw := if_n hw q_7
      refine lv_iload C.1 C.2.1 dX8_belowOf_21 (lv_at hl 8 rfl) ?_
      obtain ⟨hc_103, hw⟩ := hw
      refine fr_ne0 (tgt := 30) C dX8_belowOf_23 (by decide) hc_103 (fun q_8 => ?_) (fun q_8 => ?_)
      · have hw := if_p hw q_8
        refine fr_lc (z := 0) C dX8_belowOf_26 rfl ?_
        refine lv_goto (tgt := 37) C.1 C.2.1 dX8_belowOf_27 (by decide) ?_
        refine lv_lstore (lv' := [(12, .long (iL 0)), (0, .ref (ad 60)), (1, .int (iI a1)), (2, .int (iI a2)), (3, .int (iI a3)), (4, .long (iL v4_1)), (6, .long (iL v6_2)), (8, .long (iL v8_3)), (10, .int (iI v10_4)), (11, .int (iI v11_5))]) C.1 C.2.1 dX8_belowOf_37 hl (by decide) rfl (fun ls hl => ?_)
        refine lv_aload_n C.1 C.2.1 dX8_belowOf_39 rfl (lv_at hl 1 rfl) ?_
        refine lv_iload_n C.1 C.2.1 dX8_belowOf_40 rfl (lv_at hl 2 rfl) ?_
        refine lv_iload C.1 C.2.1 dX8_belowOf_41 (lv_at hl 9 rfl) ?_
        refine fr_Vl C G (c_X8_bondOf l D cy L ad _ hL a1 v11_5 x_6 _ hw) (cwV 2 C.2.2.2.2 gX8_belowOf_X8_bondOf rfl rfl rfl (by decide +kernel) ⟨Nat.le_of_ble_eq_true rfl, Nat.le_of_ble_eq_true rfl⟩) (G.recv (hL _ (by omega)) (cl_60 _) rfl) rfl hl.1 rfl (Nat.le_of_ble_eq_true rfl) dX8_belowOf_43 ⟨Nat.zero_le _, Nat.zero_le _⟩ (fun z_58 x_57 H locs hw G => ?_)
        refine lv_aload_n C.1 C.2.1 dX8_belowOf_46 rfl (lv_at hl 1 rfl) ?_
        refine lv_iload_n C.1 C.2.1 dX8_belowOf_47 rfl (lv_at hl 2 rfl) ?_
        refine lv_iload C.1 C.2.1 dX8_belowOf_48 (lv_at hl 9 rfl) ?_
        refine fr_ic C dX8_belowOf_50 ?_
        refine fr_iadd C dX8_belowOf_51 ?_
        refine fr_Vl C G (c_X8_bondOf l D cy L ad _ hL a1 (v11_5 + 1) x_57 _ hw) (cwV 2 C.2.2.2.2 gX8_belowOf_X8_bondOf rfl rfl rfl (by decide +kernel) ⟨Nat.le_of_ble_eq_true rfl, Nat.le_of_ble_eq_true rfl⟩) (G.recv (hL _ (by omega)) (cl_60 _) rfl) rfl hl.1 rfl (Nat.le_of_ble_eq_true rfl) dX8_belowOf_52 ⟨Nat.zero_le _, Nat.zero_le _⟩ (fun z_60 x_59 H locs hw G => ?_)
        refine fr_ladd C dX8_belowOf_55 ?_
        refine lv_iload_n C.1 C.2.1 dX8_belowOf_56 rfl (lv_at hl 4 rfl) ?_
        obtain ⟨hr_61, hw⟩ := hw
        refine fr_i2l C dX8_belowOf_57 hr_61 ?_
        refine lv_iload_n C.1 C.2.1 dX8_belowOf_58 rfl (lv_at hl 3 rfl) ?_
        obtain ⟨hr_62, hw⟩ := hw
        refine fr_i2l C dX8_belowOf_59 hr_62 ?_
        refine fr_lmul C dX8_belowOf_60 ?_
        refine lv_aload_n C.1 C.2.1 dX8_belowOf_61 rfl (lv_at hl 1 rfl) ?_
        refine fr_get C G 60 (hL _ (by omega)) (cl_60 _) rfl iw_X8_belowOf_X8 14 (by decide) fl_X8_belowOf_48 rfl dX8_belowOf_62 ?_
        refine lv_iload C.1 C.2.1 dX8_belowOf_65 (lv_at hl 9 rfl) ?_
        obtain ⟨hb_63, hw⟩ := hw
        refine fr_iald C G 71 4 (hL _ (by omega)) rfl ⟨by decide, by decide⟩ hb_63 dX8_belowOf_67 ?_
        obtain ⟨hr_64, hw⟩ := hw
        refine fr_i2l C dX8_belowOf_68 hr_64 ?_
        refine fr_lmul C dX8_belowOf_69 ?_
        refine fr_lsub C dX8_belowOf_70 ?_
        refine lv_lload C.1 C.2.1 dX8_belowOf_71 (lv_at hl 6 rfl) ?_
        refine fr_lmul C dX8_belowOf_73 ?_
        refine lv_lload C.1 C.2.1 dX8_belowOf_74 (lv_at hl 0 rfl) ?_
        refine lv_lload C.1 C.2.1 dX8_belowOf_76 (lv_at hl 0 rfl) ?_
        refine fr_lmul C dX8_belowOf_78 ?_
        refine lv_lload C.1 C.2.1 dX8_belowOf_79 (lv_at hl 5 rfl) ?_
        refine fr_lmul C dX8_belowOf_81 ?_
        refine fr_lsub C dX8_belowOf_82 ?_
        refine fr_nml (fun v14_65 ev14_65 => ?_)
        have hw := hw v14_65 ev14_65
        refine lv_lstore (lv' := [(14, .long (iL v14_65)), (12, .long (iL 0)), (0, .ref (ad 60)), (1, .int (iI a1)), (2, .int (iI a2)), (3, .int (iI a3)), (4, .long (iL v4_1)), (6, .long (iL v6_2)), (8, .long (iL v8_3)), (10, .int (iI v10_4)), (11, .int (iI v11_5))]) C.1 C.2.1 dX8_belowOf_83 hl (by decide) rfl (fun ls hl => ?_)
        refine lv_lload C.1 C.2.1 dX8_belowOf_85 (lv_at hl 7 rfl) ?_
        refine lv_lstore (lv' := [(4, .long (iL v6_2)), (14, .long (iL v14_65)), (12, .long (iL 0)), (0, .ref (ad 60)), (1, .int (iI a1)), (2, .int (iI a2)), (3, .int (iI a3)), (6, .long (iL v6_2)), (8, .long (iL v8_3)), (10, .int (iI v10_4)), (11, .int (iI v11_5))]) C.1 C.2.1 dX8_belowOf_87 hl (by decide) rfl (fun ls hl => ?_)
        refine lv_lload C.1 C.2.1 dX8_belowOf_89 (lv_at hl 1 rfl) ?_
        refine lv_lstore (lv' := [(6, .long (iL v14_65)), (4, .long (iL v6_2)), (14, .long (iL v14_65)), (12, .long (iL 0)), (0, .ref (ad 60)), (1, .int (iI a1)), (2, .int (iI a2)), (3, .int (iI a3)), (8, .long (iL v8_3)), (10, .int (iI v10_4)), (11, .int (iI v11_5))]) C.1 C.2.1 dX8_belowOf_91 hl (by decide) rfl (fun ls hl => ?_)
        refine lv_lload C.1 C.2.1 dX8_belowOf_93 (lv_at hl 0 rfl) ?_
        refine fr_lc (z := 0) C dX8_belowOf_95 rfl ?_
        obtain ⟨hl_66, hw⟩ := hw
        refine fr_lcmp C dX8_belowOf_96 ⟨hl_66, ⟨by decide, by decide⟩⟩ ?_
        refine fr_eq0 (tgt := 141) C dX8_belowOf_97 (by decide) (cm_rg _ _) (fun q_67 => ?_) (fun q_67 => ?_)
        · have hw := if_p hw (cm_eq0.mp q_67)
          obtain ⟨v11_68, ev11_68⟩ : ∃ z : Int, z = v11_5 + 1 := ⟨_, rfl⟩
          have hw := hw v11_68 ev11_68
          refine lv_iinc (v := iI v11_68) (lv' := [(11, .int (iI v11_68)), (6, .long (iL v14_65)), (4, .long (iL v6_2)), (14, .long (iL v14_65)), (12, .long (iL 0)), (0, .ref (ad 60)), (1, .int (iI a1)), (2, .int (iI a2)), (3, .int (iI a3)), (8, .long (iL v8_3)), (10, .int (iI v10_4))]) C.1 C.2.1 dX8_belowOf_141 hl (k := 10) rfl (by rw [ev11_68]; exact iI_add _ _) (by decide) rfl (fun ls hl => ?_)
          refine lv_goto (tgt := 15) C.1 C.2.1 dX8_belowOf_144 (by decide) ?_
          exact ih15 v6_2 v14_65 v8_3 v10_4 v11_68 x_59 _ _ _ hw G (lv_sub hl [5, 6, 7, 8, 2, 1, 9, 10, 0] rfl)
        · have hw := if_n hw (fun z => q_67 (cm_eq0.mpr z))
          refine lv_iload C.1 C.2.1 dX8_belowOf_100 (lv_at hl 9 rfl) ?_
          refine lv_lload C.1 C.2.1 dX8_belowOf_102 (lv_at hl 0 rfl) ?_
          refine fr_lc (z := 0) C dX8_belowOf_104 rfl ?_
          obtain ⟨hl_69, hw⟩ := hw
          refine fr_lcmp C dX8_belowOf_105 ⟨hl_69, ⟨by decide, by decide⟩⟩ ?_
          refine fr_le0 (tgt := 113) C dX8_belowOf_106 (by decide) (cm_rg _ _) (fun q_70 => ?_) (fun q_70 => ?_)
          · have hw := if_p hw (cm_le0.mp q_70)
            refine fr_ic C dX8_belowOf_113 ?_
            refine lv_lload C.1 C.2.1 dX8_belowOf_114 (lv_at hl 8 rfl) ?_
            refine fr_lc (z := 0) C dX8_belowOf_116 rfl ?_
            obtain ⟨hl_71, hw⟩ := hw
            refine fr_lcmp C dX8_belowOf_117 ⟨hl_71, ⟨by decide, by decide⟩⟩ ?_
            refine fr_le0 (tgt := 125) C dX8_belowOf_118 (by decide) (cm_rg _ _) (fun q_72 => ?_) (fun q_72 => ?_)
            · have hw := if_p hw (cm_le0.mp q_72)
              refine fr_ic C dX8_belowOf_125 ?_
              refine fr_ne (tgt := 133) C dX8_belowOf_126 (by decide) ⟨⟨by decide, by decide⟩, ⟨by decide, by decide⟩⟩ (fun q_73 => ?_) (fun q_73 => ?_)
              · have hw := if_p hw q_73
                refine fr_ic C dX8_belowOf_129 ?_
                refine lv_goto (tgt := 134) C.1 C.2.1 dX8_belowOf_130 (by decide) ?_
                refine fr_iadd C dX8_belowOf_134 ?_
                refine fr_nm (fun v10_76 ev10_76 => ?_)
                have hw := hw v10_76 ev10_76
                refine lv_istore (lv' := [(10, .int (iI v10_76)), (6, .long (iL v14_65)), (4, .long (iL v6_2)), (14, .long (iL v14_65)), (12, .long (iL 0)), (0, .ref (ad 60)), (1, .int (iI a1)), (2, .int (iI a2)), (3, .int (iI a3)), (8, .long (iL v8_3)), (11, .int (iI v11_5))]) C.1 C.2.1 dX8_belowOf_135 hl (by decide) rfl (fun ls hl => ?_)
                refine lv_lload C.1 C.2.1 dX8_belowOf_137 (lv_at hl 1 rfl) ?_
                refine lv_lstore (lv' := [(8, .long (iL v14_65)), (10, .int (iI v10_76)), (6, .long (iL v14_65)), (4, .long (iL v6_2)), (14, .long (iL v14_65)), (12, .long (iL 0)), (0, .ref (ad 60)), (1, .int (iI a1)), (2, .int (iI a2)), (3, .int (iI a3)), (11, .int (iI v11_5))]) C.1 C.2.1 dX8_belowOf_139 hl (by decide) rfl (fun ls hl => ?_)
                obtain ⟨v11_77, ev11_77⟩ : ∃ z : Int, z = v11_5 + 1 := ⟨_, rfl⟩
                have hw := hw v11_77 ev11_77
                refine lv_iinc (v := iI v11_77) (lv' := [(11, .int (iI v11_77)), (8, .long (iL v14_65)), (10, .int (iI v10_76)), (6, .long (iL v14_65)), (4, .long (iL v6_2)), (14, .long (iL v14_65)), (12, .long (iL 0)), (0, .ref (ad 60)), (1, .int (iI a1)), (2, .int (iI a2)), (3, .int (iI a3))]) C.1 C.2.1 dX8_belowOf_141 hl (k := 10) rfl (by rw [ev11_77]; exact iI_add _ _) (by decide) rfl (fun ls hl => ?_)
                refine lv_goto (tgt := 15) C.1 C.2.1 dX8_belowOf_144 (by decide) ?_
                exact ih15 v6_2 v14_65 v14_65 v10_76 v11_77 x_59 _ _ _ hw G (lv_sub hl [7, 8, 9, 10, 4, 3, 1, 2, 0] rfl)
              · have hw := if_n hw q_73
                refine fr_ic C dX8_belowOf_133 ?_
                refine fr_iadd C dX8_belowOf_134 ?_
                refine fr_nm (fun v10_74 ev10_74 => ?_)
                have hw := hw v10_74 ev10_74
                refine lv_istore (lv' := [(10, .int (iI v10_74)), (6, .long (iL v14_65)), (4, .long (iL v6_2)), (14, .long (iL v14_65)), (12, .long (iL 0)), (0, .ref (ad 60)), (1, .int (iI a1)), (2, .int (iI a2)), (3, .int (iI a3)), (8, .long (iL v8_3)), (11, .int (iI v11_5))]) C.1 C.2.1 dX8_belowOf_135 hl (by decide) rfl (fun ls hl => ?_)
                refine lv_lload C.1 C.2.1 dX8_belowOf_137 (lv_at hl 1 rfl) ?_
                refine lv_lstore (lv' := [(8, .long (iL v14_65)), (10, .int (iI v10_74)), (6, .long (iL v14_65)), (4, .long (iL v6_2)), (14, .long (iL v14_65)), (12, .long (iL 0)), (0, .ref (ad 60)), (1, .int (iI a1)), (2, .int (iI a2)), (3, .int (iI a3)), (11, .int (iI v11_5))]) C.1 C.2.1 dX8_belowOf_139 hl (by decide) rfl (fun ls hl => ?_)
                obtain ⟨v11_75, ev11_75⟩ : ∃ z : Int, z = v11_5 + 1 := ⟨_, rfl⟩
                have hw := hw v11_75 ev11_75
                refine lv_iinc (v := iI v11_75) (lv' := [(11, .int (iI v11_75)), (8, .long (iL v14_65)), (10, .int (iI v10_74)), (6, .long (iL v14_65)), (4, .long (iL v6_2)), (14, .long (iL v14_65)), (12, .long (iL 0)), (0, .ref (ad 60)), (1, .int (iI a1)), (2, .int (iI a2)), (3, .int (iI a3))]) C.1 C.2.1 dX8_belowOf_141 hl (k := 10) rfl (by rw [ev11_75]; exact iI_add _ _) (by decide) rfl (fun ls hl => ?_)
                refine lv_goto (tgt := 15) C.1 C.2.1 dX8_belowOf_144 (by decide) ?_
                exact ih15 v6_2 v14_65 v14_65 v10_74 v11_75 x_59 _ _ _ hw G (lv_sub hl [7, 8, 9, 10, 4, 3, 1, 2, 0] rfl)
            · have hw := if_n hw (fun z => q_72 (cm_le0.mpr z))
              refine fr_ic C dX8_belowOf_121 ?_
              refine lv_goto (tgt := 126) C.1 C.2.1 dX8_belowOf_122 (by decide) ?_
              refine fr_ne (tgt := 133) C dX8_belowOf_126 (by decide) ⟨⟨by decide, by decide⟩, ⟨by decide, by decide⟩⟩ (fun q_79 => ?_) (fun q_79 => ?_)
              · have hw := if_p hw q_79
                refine fr_ic C dX8_belowOf_129 ?_
                refine lv_goto (tgt := 134) C.1 C.2.1 dX8_belowOf_130 (by decide) ?_
                refine fr_iadd C dX8_belowOf_134 ?_
                refine fr_nm (fun v10_82 ev10_82 => ?_)
                have hw := hw v10_82 ev10_82
                refine lv_istore (lv' := [(10, .int (iI v10_82)), (6, .long (iL v14_65)), (4, .long (iL v6_2)), (14, .long (iL v14_65)), (12, .long (iL 0)), (0, .ref (ad 60)), (1, .int (iI a1)), (2, .int (iI a2)), (3, .int (iI a3)), (8, .long (iL v8_3)), (11, .int (iI v11_5))]) C.1 C.2.1 dX8_belowOf_135 hl (by decide) rfl (fun ls hl => ?_)
                refine lv_lload C.1 C.2.1 dX8_belowOf_137 (lv_at hl 1 rfl) ?_
                refine lv_lstore (lv' := [(8, .long (iL v14_65)), (10, .int (iI v10_82)), (6, .long (iL v14_65)), (4, .long (iL v6_2)), (14, .long (iL v14_65)), (12, .long (iL 0)), (0, .ref (ad 60)), (1, .int (iI a1)), (2, .int (iI a2)), (3, .int (iI a3)), (11, .int (iI v11_5))]) C.1 C.2.1 dX8_belowOf_139 hl (by decide) rfl (fun ls hl => ?_)
                obtain ⟨v11_83, ev11_83⟩ : ∃ z : Int, z = v11_5 + 1 := ⟨_, rfl⟩
                have hw := hw v11_83 ev11_83
                refine lv_iinc (v := iI v11_83) (lv' := [(11, .int (iI v11_83)), (8, .long (iL v14_65)), (10, .int (iI v10_82)), (6, .long (iL v14_65)), (4, .long (iL v6_2)), (14, .long (iL v14_65)), (12, .long (iL 0)), (0, .ref (ad 60)), (1, .int (iI a1)), (2, .int (iI a2)), (3, .int (iI a3))]) C.1 C.2.1 dX8_belowOf_141 hl (k := 10) rfl (by rw [ev11_83]; exact iI_add _ _) (by decide) rfl (fun ls hl => ?_)
                refine lv_goto (tgt := 15) C.1 C.2.1 dX8_belowOf_144 (by decide) ?_
                exact ih15 v6_2 v14_65 v14_65 v10_82 v11_83 x_59 _ _ _ hw G (lv_sub hl [7, 8, 9, 10, 4, 3, 1, 2, 0] rfl)
              · have hw := if_n hw q_79
                refine fr_ic C dX8_belowOf_133 ?_
                refine fr_iadd C dX8_belowOf_134 ?_
                refine fr_nm (fun v10_80 ev10_80 => ?_)
                have hw := hw v10_80 ev10_80
                refine lv_istore (lv' := [(10, .int (iI v10_80)), (6, .long (iL v14_65)), (4, .long (iL v6_2)), (14, .long (iL v14_65)), (12, .long (iL 0)), (0, .ref (ad 60)), (1, .int (iI a1)), (2, .int (iI a2)), (3, .int (iI a3)), (8, .long (iL v8_3)), (11, .int (iI v11_5))]) C.1 C.2.1 dX8_belowOf_135 hl (by decide) rfl (fun ls hl => ?_)
                refine lv_lload C.1 C.2.1 dX8_belowOf_137 (lv_at hl 1 rfl) ?_
                refine lv_lstore (lv' := [(8, .long (iL v14_65)), (10, .int (iI v10_80)), (6, .long (iL v14_65)), (4, .long (iL v6_2)), (14, .long (iL v14_65)), (12, .long (iL 0)), (0, .ref (ad 60)), (1, .int (iI a1)), (2, .int (iI a2)), (3, .int (iI a3)), (11, .int (iI v11_5))]) C.1 C.2.1 dX8_belowOf_139 hl (by decide) rfl (fun ls hl => ?_)
                obtain ⟨v11_81, ev11_81⟩ : ∃ z : Int, z = v11_5 + 1 := ⟨_, rfl⟩
                have hw := hw v11_81 ev11_81
                refine lv_iinc (v := iI v11_81) (lv' := [(11, .int (iI v11_81)), (8, .long (iL v14_65)), (10, .int (iI v10_80)), (6, .long (iL v14_65)), (4, .long (iL v6_2)), (14, .long (iL v14_65)), (12, .long (iL 0)), (0, .ref (ad 60)), (1, .int (iI a1)), (2, .int (iI a2)), (3, .int (iI a3))]) C.1 C.2.1 dX8_belowOf_141 hl (k := 10) rfl (by rw [ev11_81]; exact iI_add _ _) (by decide) rfl (fun ls hl => ?_)
                refine lv_goto (tgt := 15) C.1 C.2.1 dX8_belowOf_144 (by decide) ?_
                exact ih15 v6_2 v14_65 v14_65 v10_80 v11_81 x_59 _ _ _ hw G (lv_sub hl [7, 8, 9, 10, 4, 3, 1, 2, 0] rfl)
          · have hw := if_n hw (fun z => q_70 (cm_le0.mpr z))
            refine fr_ic C dX8_belowOf_109 ?_
            refine lv_goto (tgt := 114) C.1 C.2.1 dX8_belowOf_110 (by decide) ?_
            refine lv_lload C.1 C.2.1 dX8_belowOf_114 (lv_at hl 8 rfl) ?_
            refine fr_lc (z := 0) C dX8_belowOf_116 rfl ?_
            obtain ⟨hl_86, hw⟩ := hw
            refine fr_lcmp C dX8_belowOf_117 ⟨hl_86, ⟨by decide, by decide⟩⟩ ?_
            refine fr_le0 (tgt := 125) C dX8_belowOf_118 (by decide) (cm_rg _ _) (fun q_87 => ?_) (fun q_87 => ?_)
            · have hw := if_p hw (cm_le0.mp q_87)
              refine fr_ic C dX8_belowOf_125 ?_
              refine fr_ne (tgt := 133) C dX8_belowOf_126 (by decide) ⟨⟨by decide, by decide⟩, ⟨by decide, by decide⟩⟩ (fun q_88 => ?_) (fun q_88 => ?_)
              · have hw := if_p hw q_88
                refine fr_ic C dX8_belowOf_129 ?_
                refine lv_goto (tgt := 134) C.1 C.2.1 dX8_belowOf_130 (by decide) ?_
                refine fr_iadd C dX8_belowOf_134 ?_
                refine fr_nm (fun v10_91 ev10_91 => ?_)
                have hw := hw v10_91 ev10_91
                refine lv_istore (lv' := [(10, .int (iI v10_91)), (6, .long (iL v14_65)), (4, .long (iL v6_2)), (14, .long (iL v14_65)), (12, .long (iL 0)), (0, .ref (ad 60)), (1, .int (iI a1)), (2, .int (iI a2)), (3, .int (iI a3)), (8, .long (iL v8_3)), (11, .int (iI v11_5))]) C.1 C.2.1 dX8_belowOf_135 hl (by decide) rfl (fun ls hl => ?_)
                refine lv_lload C.1 C.2.1 dX8_belowOf_137 (lv_at hl 1 rfl) ?_
                refine lv_lstore (lv' := [(8, .long (iL v14_65)), (10, .int (iI v10_91)), (6, .long (iL v14_65)), (4, .long (iL v6_2)), (14, .long (iL v14_65)), (12, .long (iL 0)), (0, .ref (ad 60)), (1, .int (iI a1)), (2, .int (iI a2)), (3, .int (iI a3)), (11, .int (iI v11_5))]) C.1 C.2.1 dX8_belowOf_139 hl (by decide) rfl (fun ls hl => ?_)
                obtain ⟨v11_92, ev11_92⟩ : ∃ z : Int, z = v11_5 + 1 := ⟨_, rfl⟩
                have hw := hw v11_92 ev11_92
                refine lv_iinc (v := iI v11_92) (lv' := [(11, .int (iI v11_92)), (8, .long (iL v14_65)), (10, .int (iI v10_91)), (6, .long (iL v14_65)), (4, .long (iL v6_2)), (14, .long (iL v14_65)), (12, .long (iL 0)), (0, .ref (ad 60)), (1, .int (iI a1)), (2, .int (iI a2)), (3, .int (iI a3))]) C.1 C.2.1 dX8_belowOf_141 hl (k := 10) rfl (by rw [ev11_92]; exact iI_add _ _) (by decide) rfl (fun ls hl => ?_)
                refine lv_goto (tgt := 15) C.1 C.2.1 dX8_belowOf_144 (by decide) ?_
                exact ih15 v6_2 v14_65 v14_65 v10_91 v11_92 x_59 _ _ _ hw G (lv_sub hl [7, 8, 9, 10, 4, 3, 1, 2, 0] rfl)
              · have hw := if_n hw q_88
                refine fr_ic C dX8_belowOf_133 ?_
                refine fr_iadd C dX8_belowOf_134 ?_
                refine fr_nm (fun v10_89 ev10_89 => ?_)
                have hw := hw v10_89 ev10_89
                refine lv_istore (lv' := [(10, .int (iI v10_89)), (6, .long (iL v14_65)), (4, .long (iL v6_2)), (14, .long (iL v14_65)), (12, .long (iL 0)), (0, .ref (ad 60)), (1, .int (iI a1)), (2, .int (iI a2)), (3, .int (iI a3)), (8, .long (iL v8_3)), (11, .int (iI v11_5))]) C.1 C.2.1 dX8_belowOf_135 hl (by decide) rfl (fun ls hl => ?_)
                refine lv_lload C.1 C.2.1 dX8_belowOf_137 (lv_at hl 1 rfl) ?_
                refine lv_lstore (lv' := [(8, .long (iL v14_65)), (10, .int (iI v10_89)), (6, .long (iL v14_65)), (4, .long (iL v6_2)), (14, .long (iL v14_65)), (12, .long (iL 0)), (0, .ref (ad 60)), (1, .int (iI a1)), (2, .int (iI a2)), (3, .int (iI a3)), (11, .int (iI v11_5))]) C.1 C.2.1 dX8_belowOf_139 hl (by decide) rfl (fun ls hl => ?_)
                obtain ⟨v11_90, ev11_90⟩ : ∃ z : Int, z = v11_5 + 1 := ⟨_, rfl⟩
                have hw := hw v11_90 ev11_90
                refine lv_iinc (v := iI v11_90) (lv' := [(11, .int (iI v11_90)), (8, .long (iL v14_65)), (10, .int (iI v10_89)), (6, .long (iL v14_65)), (4, .long (iL v6_2)), (14, .long (iL v14_65)), (12, .long (iL 0)), (0, .ref (ad 60)), (1, .int (iI a1)), (2, .int (iI a2)), (3, .int (iI a3))]) C.1 C.2.1 dX8_belowOf_141 hl (k := 10) rfl (by rw [ev11_90]; exact iI_add _ _) (by decide) rfl (fun ls hl => ?_)
                refine lv_goto (tgt := 15) C.1 C.2.1 dX8_belowOf_144 (by decide) ?_
                exact ih15 v6_2 v14_65 v14_65 v10_89 v11_90 x_59 _ _ _ hw G (lv_sub hl [7, 8, 9, 10, 4, 3, 1, 2, 0] rfl)
            · have hw := if_n hw (fun z => q_87 (cm_le0.mpr z))
              refine fr_ic C dX8_belowOf_121 ?_
              refine lv_goto (tgt := 126) C.1 C.2.1 dX8_belowOf_122 (by decide) ?_
              refine fr_ne (tgt := 133) C dX8_belowOf_126 (by decide) ⟨⟨by decide, by decide⟩, ⟨by decide, by decide⟩⟩ (fun q_94 => ?_) (fun q_94 => ?_)
              · have hw := if_p hw q_94
                refine fr_ic C dX8_belowOf_129 ?_
                refine lv_goto (tgt := 134) C.1 C.2.1 dX8_belowOf_130 (by decide) ?_
                refine fr_iadd C dX8_belowOf_134 ?_
                refine fr_nm (fun v10_97 ev10_97 => ?_)
                have hw := hw v10_97 ev10_97
                refine lv_istore (lv' := [(10, .int (iI v10_97)), (6, .long (iL v14_65)), (4, .long (iL v6_2)), (14, .long (iL v14_65)), (12, .long (iL 0)), (0, .ref (ad 60)), (1, .int (iI a1)), (2, .int (iI a2)), (3, .int (iI a3)), (8, .long (iL v8_3)), (11, .int (iI v11_5))]) C.1 C.2.1 dX8_belowOf_135 hl (by decide) rfl (fun ls hl => ?_)
                refine lv_lload C.1 C.2.1 dX8_belowOf_137 (lv_at hl 1 rfl) ?_
                refine lv_lstore (lv' := [(8, .long (iL v14_65)), (10, .int (iI v10_97)), (6, .long (iL v14_65)), (4, .long (iL v6_2)), (14, .long (iL v14_65)), (12, .long (iL 0)), (0, .ref (ad 60)), (1, .int (iI a1)), (2, .int (iI a2)), (3, .int (iI a3)), (11, .int (iI v11_5))]) C.1 C.2.1 dX8_belowOf_139 hl (by decide) rfl (fun ls hl => ?_)
                obtain ⟨v11_98, ev11_98⟩ : ∃ z : Int, z = v11_5 + 1 := ⟨_, rfl⟩
                have hw := hw v11_98 ev11_98
                refine lv_iinc (v := iI v11_98) (lv' := [(11, .int (iI v11_98)), (8, .long (iL v14_65)), (10, .int (iI v10_97)), (6, .long (iL v14_65)), (4, .long (iL v6_2)), (14, .long (iL v14_65)), (12, .long (iL 0)), (0, .ref (ad 60)), (1, .int (iI a1)), (2, .int (iI a2)), (3, .int (iI a3))]) C.1 C.2.1 dX8_belowOf_141 hl (k := 10) rfl (by rw [ev11_98]; exact iI_add _ _) (by decide) rfl (fun ls hl => ?_)
                refine lv_goto (tgt := 15) C.1 C.2.1 dX8_belowOf_144 (by decide) ?_
                exact ih15 v6_2 v14_65 v14_65 v10_97 v11_98 x_59 _ _ _ hw G (lv_sub hl [7, 8, 9, 10, 4, 3, 1, 2, 0] rfl)
              · have hw := if_n hw q_94
                refine fr_ic C dX8_belowOf_133 ?_
                refine fr_iadd C dX8_belowOf_134 ?_
                refine fr_nm (fun v10_95 ev10_95 => ?_)
                have hw := hw v10_95 ev10_95
                refine lv_istore (lv' := [(10, .int (iI v10_95)), (6, .long (iL v14_65)), (4, .long (iL v6_2)), (14, .long (iL v14_65)), (12, .long (iL 0)), (0, .ref (ad 60)), (1, .int (iI a1)), (2, .int (iI a2)), (3, .int (iI a3)), (8, .long (iL v8_3)), (11, .int (iI v11_5))]) C.1 C.2.1 dX8_belowOf_135 hl (by decide) rfl (fun ls hl => ?_)
                refine lv_lload C.1 C.2.1 dX8_belowOf_137 (lv_at hl 1 rfl) ?_
                refine lv_lstore (lv' := [(8, .long (iL v14_65)), (10, .int (iI v10_95)), (6, .long (iL v14_65)), (4, .long (iL v6_2)), (14, .long (iL v14_65)), (12, .long (iL 0)), (0, .ref (ad 60)), (1, .int (iI a1)), (2, .int (iI a2)), (3, .int (iI a3)), (11, .int (iI v11_5))]) C.1 C.2.1 dX8_belowOf_139 hl (by decide) rfl (fun ls hl => ?_)
                obtain ⟨v11_96, ev11_96⟩ : ∃ z : Int, z = v11_5 + 1 := ⟨_, rfl⟩
                have hw := hw v11_96 ev11_96
                refine lv_iinc (v := iI v11_96) (lv' := [(11, .int (iI v11_96)), (8, .long (iL v14_65)), (10, .int (iI v10_95)), (6, .long (iL v14_65)), (4, .long (iL v6_2)), (14, .long (iL v14_65)), (12, .long (iL 0)), (0, .ref (ad 60)), (1, .int (iI a1)), (2, .int (iI a2)), (3, .int (iI a3))]) C.1 C.2.1 dX8_belowOf_141 hl (k := 10) rfl (by rw [ev11_96]; exact iI_add _ _) (by decide) rfl (fun ls hl => ?_)
                refine lv_goto (tgt := 15) C.1 C.2.1 dX8_belowOf_144 (by decide) ?_
                exact ih15 v6_2 v14_65 v14_65 v10_95 v11_96 x_59 _ _ _ hw G (lv_sub hl [7, 8, 9, 10, 4, 3, 1, 2, 0] rfl)
      · have hw := if_n hw q_8
        refine lv_aload_n C.1 C.2.1 dX8_belowOf_30 rfl (lv_at hl 0 rfl) ?_
        refine lv_iload_n C.1 C.2.1 dX8_belowOf_31 rfl (lv_at hl 1 rfl) ?_
        refine lv_iload C.1 C.2.1 dX8_belowOf_32 (lv_at hl 8 rfl) ?_
        refine fr_Vl C G (c_X8_bondOf l D cy L ad _ hL a1 v11_5 x_6 _ hw) (cwV 2 C.2.2.2.2 gX8_belowOf_X8_bondOf rfl rfl rfl (by decide +kernel) ⟨Nat.le_of_ble_eq_true rfl, Nat.le_of_ble_eq_true rfl⟩) (G.recv (hL _ (by omega)) (cl_60 _) rfl) rfl hl.1 rfl (Nat.le_of_ble_eq_true rfl) dX8_belowOf_34 ⟨Nat.zero_le _, Nat.zero_le _⟩ (fun z_10 x_9 H locs hw G => ?_)
        refine lv_lstore (lv' := [(12, .long (iL z_10)), (0, .ref (ad 60)), (1, .int (iI a1)), (2, .int (iI a2)), (3, .int (iI a3)), (4, .long (iL v4_1)), (6, .long (iL v6_2)), (8, .long (iL v8_3)), (10, .int (iI v10_4)), (11, .int (iI v11_5))]) C.1 C.2.1 dX8_belowOf_37 hl (by decide) rfl (fun ls hl => ?_)
        refine lv_aload_n C.1 C.2.1 dX8_belowOf_39 rfl (lv_at hl 1 rfl) ?_
        refine lv_iload_n C.1 C.2.1 dX8_belowOf_40 rfl (lv_at hl 2 rfl) ?_
        refine lv_iload C.1 C.2.1 dX8_belowOf_41 (lv_at hl 9 rfl) ?_
        refine fr_Vl C G (c_X8_bondOf l D cy L ad _ hL a1 v11_5 x_9 _ hw) (cwV 2 C.2.2.2.2 gX8_belowOf_X8_bondOf rfl rfl rfl (by decide +kernel) ⟨Nat.le_of_ble_eq_true rfl, Nat.le_of_ble_eq_true rfl⟩) (G.recv (hL _ (by omega)) (cl_60 _) rfl) rfl hl.1 rfl (Nat.le_of_ble_eq_true rfl) dX8_belowOf_43 ⟨Nat.zero_le _, Nat.zero_le _⟩ (fun z_12 x_11 H locs hw G => ?_)
        refine lv_aload_n C.1 C.2.1 dX8_belowOf_46 rfl (lv_at hl 1 rfl) ?_
        refine lv_iload_n C.1 C.2.1 dX8_belowOf_47 rfl (lv_at hl 2 rfl) ?_
        refine lv_iload C.1 C.2.1 dX8_belowOf_48 (lv_at hl 9 rfl) ?_
        refine fr_ic C dX8_belowOf_50 ?_
        refine fr_iadd C dX8_belowOf_51 ?_
        refine fr_Vl C G (c_X8_bondOf l D cy L ad _ hL a1 (v11_5 + 1) x_11 _ hw) (cwV 2 C.2.2.2.2 gX8_belowOf_X8_bondOf rfl rfl rfl (by decide +kernel) ⟨Nat.le_of_ble_eq_true rfl, Nat.le_of_ble_eq_true rfl⟩) (G.recv (hL _ (by omega)) (cl_60 _) rfl) rfl hl.1 rfl (Nat.le_of_ble_eq_true rfl) dX8_belowOf_52 ⟨Nat.zero_le _, Nat.zero_le _⟩ (fun z_14 x_13 H locs hw G => ?_)
        refine fr_ladd C dX8_belowOf_55 ?_
        refine lv_iload_n C.1 C.2.1 dX8_belowOf_56 rfl (lv_at hl 4 rfl) ?_
        obtain ⟨hr_15, hw⟩ := hw
        refine fr_i2l C dX8_belowOf_57 hr_15 ?_
        refine lv_iload_n C.1 C.2.1 dX8_belowOf_58 rfl (lv_at hl 3 rfl) ?_
        obtain ⟨hr_16, hw⟩ := hw
        refine fr_i2l C dX8_belowOf_59 hr_16 ?_
        refine fr_lmul C dX8_belowOf_60 ?_
        refine lv_aload_n C.1 C.2.1 dX8_belowOf_61 rfl (lv_at hl 1 rfl) ?_
        refine fr_get C G 60 (hL _ (by omega)) (cl_60 _) rfl iw_X8_belowOf_X8 14 (by decide) fl_X8_belowOf_48 rfl dX8_belowOf_62 ?_
        refine lv_iload C.1 C.2.1 dX8_belowOf_65 (lv_at hl 9 rfl) ?_
        obtain ⟨hb_17, hw⟩ := hw
        refine fr_iald C G 71 4 (hL _ (by omega)) rfl ⟨by decide, by decide⟩ hb_17 dX8_belowOf_67 ?_
        obtain ⟨hr_18, hw⟩ := hw
        refine fr_i2l C dX8_belowOf_68 hr_18 ?_
        refine fr_lmul C dX8_belowOf_69 ?_
        refine fr_lsub C dX8_belowOf_70 ?_
        refine lv_lload C.1 C.2.1 dX8_belowOf_71 (lv_at hl 6 rfl) ?_
        refine fr_lmul C dX8_belowOf_73 ?_
        refine lv_lload C.1 C.2.1 dX8_belowOf_74 (lv_at hl 0 rfl) ?_
        refine lv_lload C.1 C.2.1 dX8_belowOf_76 (lv_at hl 0 rfl) ?_
        refine fr_lmul C dX8_belowOf_78 ?_
        refine lv_lload C.1 C.2.1 dX8_belowOf_79 (lv_at hl 5 rfl) ?_
        refine fr_lmul C dX8_belowOf_81 ?_
        refine fr_lsub C dX8_belowOf_82 ?_
        refine fr_nml (fun v14_19 ev14_19 => ?_)
        have hw := hw v14_19 ev14_19
        refine lv_lstore (lv' := [(14, .long (iL v14_19)), (12, .long (iL z_10)), (0, .ref (ad 60)), (1, .int (iI a1)), (2, .int (iI a2)), (3, .int (iI a3)), (4, .long (iL v4_1)), (6, .long (iL v6_2)), (8, .long (iL v8_3)), (10, .int (iI v10_4)), (11, .int (iI v11_5))]) C.1 C.2.1 dX8_belowOf_83 hl (by decide) rfl (fun ls hl => ?_)
        refine lv_lload C.1 C.2.1 dX8_belowOf_85 (lv_at hl 7 rfl) ?_
        refine lv_lstore (lv' := [(4, .long (iL v6_2)), (14, .long (iL v14_19)), (12, .long (iL z_10)), (0, .ref (ad 60)), (1, .int (iI a1)), (2, .int (iI a2)), (3, .int (iI a3)), (6, .long (iL v6_2)), (8, .long (iL v8_3)), (10, .int (iI v10_4)), (11, .int (iI v11_5))]) C.1 C.2.1 dX8_belowOf_87 hl (by decide) rfl (fun ls hl => ?_)
        refine lv_lload C.1 C.2.1 dX8_belowOf_89 (lv_at hl 1 rfl) ?_
        refine lv_lstore (lv' := [(6, .long (iL v14_19)), (4, .long (iL v6_2)), (14, .long (iL v14_19)), (12, .long (iL z_10)), (0, .ref (ad 60)), (1, .int (iI a1)), (2, .int (iI a2)), (3, .int (iI a3)), (8, .long (iL v8_3)), (10, .int (iI v10_4)), (11, .int (iI v11_5))]) C.1 C.2.1 dX8_belowOf_91 hl (by decide) rfl (fun ls hl => ?_)
        refine lv_lload C.1 C.2.1 dX8_belowOf_93 (lv_at hl 0 rfl) ?_
        refine fr_lc (z := 0) C dX8_belowOf_95 rfl ?_
        obtain ⟨hl_20, hw⟩ := hw
        refine fr_lcmp C dX8_belowOf_96 ⟨hl_20, ⟨by decide, by decide⟩⟩ ?_
        refine fr_eq0 (tgt := 141) C dX8_belowOf_97 (by decide) (cm_rg _ _) (fun q_21 => ?_) (fun q_21 => ?_)
        · have hw := if_p hw (cm_eq0.mp q_21)
          obtain ⟨v11_22, ev11_22⟩ : ∃ z : Int, z = v11_5 + 1 := ⟨_, rfl⟩
          have hw := hw v11_22 ev11_22
          refine lv_iinc (v := iI v11_22) (lv' := [(11, .int (iI v11_22)), (6, .long (iL v14_19)), (4, .long (iL v6_2)), (14, .long (iL v14_19)), (12, .long (iL z_10)), (0, .ref (ad 60)), (1, .int (iI a1)), (2, .int (iI a2)), (3, .int (iI a3)), (8, .long (iL v8_3)), (10, .int (iI v10_4))]) C.1 C.2.1 dX8_belowOf_141 hl (k := 10) rfl (by rw [ev11_22]; exact iI_add _ _) (by decide) rfl (fun ls hl => ?_)
          refine lv_goto (tgt := 15) C.1 C.2.1 dX8_belowOf_144 (by decide) ?_
          exact ih15 v6_2 v14_19 v8_3 v10_4 v11_22 x_13 _ _ _ hw G (lv_sub hl [5, 6, 7, 8, 2, 1, 9, 10, 0] rfl)
        · have hw := if_n hw (fun z => q_21 (cm_eq0.mpr z))
          refine lv_iload C.1 C.2.1 dX8_belowOf_100 (lv_at hl 9 rfl) ?_
          refine lv_lload C.1 C.2.1 dX8_belowOf_102 (lv_at hl 0 rfl) ?_
          refine fr_lc (z := 0) C dX8_belowOf_104 rfl ?_
          obtain ⟨hl_23, hw⟩ := hw
          refine fr_lcmp C dX8_belowOf_105 ⟨hl_23, ⟨by decide, by decide⟩⟩ ?_
          refine fr_le0 (tgt := 113) C dX8_belowOf_106 (by decide) (cm_rg _ _) (fun q_24 => ?_) (fun q_24 => ?_)
          · have hw := if_p hw (cm_le0.mp q_24)
            refine fr_ic C dX8_belowOf_113 ?_
            refine lv_lload C.1 C.2.1 dX8_belowOf_114 (lv_at hl 8 rfl) ?_
            refine fr_lc (z := 0) C dX8_belowOf_116 rfl ?_
            obtain ⟨hl_25, hw⟩ := hw
            refine fr_lcmp C dX8_belowOf_117 ⟨hl_25, ⟨by decide, by decide⟩⟩ ?_
            refine fr_le0 (tgt := 125) C dX8_belowOf_118 (by decide) (cm_rg _ _) (fun q_26 => ?_) (fun q_26 => ?_)
            · have hw := if_p hw (cm_le0.mp q_26)
              refine fr_ic C dX8_belowOf_125 ?_
              refine fr_ne (tgt := 133) C dX8_belowOf_126 (by decide) ⟨⟨by decide, by decide⟩, ⟨by decide, by decide⟩⟩ (fun q_27 => ?_) (fun q_27 => ?_)
              · have hw := if_p hw q_27
                refine fr_ic C dX8_belowOf_129 ?_
                refine lv_goto (tgt := 134) C.1 C.2.1 dX8_belowOf_130 (by decide) ?_
                refine fr_iadd C dX8_belowOf_134 ?_
                refine fr_nm (fun v10_30 ev10_30 => ?_)
                have hw := hw v10_30 ev10_30
                refine lv_istore (lv' := [(10, .int (iI v10_30)), (6, .long (iL v14_19)), (4, .long (iL v6_2)), (14, .long (iL v14_19)), (12, .long (iL z_10)), (0, .ref (ad 60)), (1, .int (iI a1)), (2, .int (iI a2)), (3, .int (iI a3)), (8, .long (iL v8_3)), (11, .int (iI v11_5))]) C.1 C.2.1 dX8_belowOf_135 hl (by decide) rfl (fun ls hl => ?_)
                refine lv_lload C.1 C.2.1 dX8_belowOf_137 (lv_at hl 1 rfl) ?_
                refine lv_lstore (lv' := [(8, .long (iL v14_19)), (10, .int (iI v10_30)), (6, .long (iL v14_19)), (4, .long (iL v6_2)), (14, .long (iL v14_19)), (12, .long (iL z_10)), (0, .ref (ad 60)), (1, .int (iI a1)), (2, .int (iI a2)), (3, .int (iI a3)), (11, .int (iI v11_5))]) C.1 C.2.1 dX8_belowOf_139 hl (by decide) rfl (fun ls hl => ?_)
                obtain ⟨v11_31, ev11_31⟩ : ∃ z : Int, z = v11_5 + 1 := ⟨_, rfl⟩
                have hw := hw v11_31 ev11_31
                refine lv_iinc (v := iI v11_31) (lv' := [(11, .int (iI v11_31)), (8, .long (iL v14_19)), (10, .int (iI v10_30)), (6, .long (iL v14_19)), (4, .long (iL v6_2)), (14, .long (iL v14_19)), (12, .long (iL z_10)), (0, .ref (ad 60)), (1, .int (iI a1)), (2, .int (iI a2)), (3, .int (iI a3))]) C.1 C.2.1 dX8_belowOf_141 hl (k := 10) rfl (by rw [ev11_31]; exact iI_add _ _) (by decide) rfl (fun ls hl => ?_)
                refine lv_goto (tgt := 15) C.1 C.2.1 dX8_belowOf_144 (by decide) ?_
                exact ih15 v6_2 v14_19 v14_19 v10_30 v11_31 x_13 _ _ _ hw G (lv_sub hl [7, 8, 9, 10, 4, 3, 1, 2, 0] rfl)
              · have hw := if_n hw q_27
                refine fr_ic C dX8_belowOf_133 ?_
                refine fr_iadd C dX8_belowOf_134 ?_
                refine fr_nm (fun v10_28 ev10_28 => ?_)
                have hw := hw v10_28 ev10_28
                refine lv_istore (lv' := [(10, .int (iI v10_28)), (6, .long (iL v14_19)), (4, .long (iL v6_2)), (14, .long (iL v14_19)), (12, .long (iL z_10)), (0, .ref (ad 60)), (1, .int (iI a1)), (2, .int (iI a2)), (3, .int (iI a3)), (8, .long (iL v8_3)), (11, .int (iI v11_5))]) C.1 C.2.1 dX8_belowOf_135 hl (by decide) rfl (fun ls hl => ?_)
                refine lv_lload C.1 C.2.1 dX8_belowOf_137 (lv_at hl 1 rfl) ?_
                refine lv_lstore (lv' := [(8, .long (iL v14_19)), (10, .int (iI v10_28)), (6, .long (iL v14_19)), (4, .long (iL v6_2)), (14, .long (iL v14_19)), (12, .long (iL z_10)), (0, .ref (ad 60)), (1, .int (iI a1)), (2, .int (iI a2)), (3, .int (iI a3)), (11, .int (iI v11_5))]) C.1 C.2.1 dX8_belowOf_139 hl (by decide) rfl (fun ls hl => ?_)
                obtain ⟨v11_29, ev11_29⟩ : ∃ z : Int, z = v11_5 + 1 := ⟨_, rfl⟩
                have hw := hw v11_29 ev11_29
                refine lv_iinc (v := iI v11_29) (lv' := [(11, .int (iI v11_29)), (8, .long (iL v14_19)), (10, .int (iI v10_28)), (6, .long (iL v14_19)), (4, .long (iL v6_2)), (14, .long (iL v14_19)), (12, .long (iL z_10)), (0, .ref (ad 60)), (1, .int (iI a1)), (2, .int (iI a2)), (3, .int (iI a3))]) C.1 C.2.1 dX8_belowOf_141 hl (k := 10) rfl (by rw [ev11_29]; exact iI_add _ _) (by decide) rfl (fun ls hl => ?_)
                refine lv_goto (tgt := 15) C.1 C.2.1 dX8_belowOf_144 (by decide) ?_
                exact ih15 v6_2 v14_19 v14_19 v10_28 v11_29 x_13 _ _ _ hw G (lv_sub hl [7, 8, 9, 10, 4, 3, 1, 2, 0] rfl)
            · have hw := if_n hw (fun z => q_26 (cm_le0.mpr z))
              refine fr_ic C dX8_belowOf_121 ?_
              refine lv_goto (tgt := 126) C.1 C.2.1 dX8_belowOf_122 (by decide) ?_
              refine fr_ne (tgt := 133) C dX8_belowOf_126 (by decide) ⟨⟨by decide, by decide⟩, ⟨by decide, by decide⟩⟩ (fun q_33 => ?_) (fun q_33 => ?_)
              · have hw := if_p hw q_33
                refine fr_ic C dX8_belowOf_129 ?_
                refine lv_goto (tgt := 134) C.1 C.2.1 dX8_belowOf_130 (by decide) ?_
                refine fr_iadd C dX8_belowOf_134 ?_
                refine fr_nm (fun v10_36 ev10_36 => ?_)
                have hw := hw v10_36 ev10_36
                refine lv_istore (lv' := [(10, .int (iI v10_36)), (6, .long (iL v14_19)), (4, .long (iL v6_2)), (14, .long (iL v14_19)), (12, .long (iL z_10)), (0, .ref (ad 60)), (1, .int (iI a1)), (2, .int (iI a2)), (3, .int (iI a3)), (8, .long (iL v8_3)), (11, .int (iI v11_5))]) C.1 C.2.1 dX8_belowOf_135 hl (by decide) rfl (fun ls hl => ?_)
                refine lv_lload C.1 C.2.1 dX8_belowOf_137 (lv_at hl 1 rfl) ?_
                refine lv_lstore (lv' := [(8, .long (iL v14_19)), (10, .int (iI v10_36)), (6, .long (iL v14_19)), (4, .long (iL v6_2)), (14, .long (iL v14_19)), (12, .long (iL z_10)), (0, .ref (ad 60)), (1, .int (iI a1)), (2, .int (iI a2)), (3, .int (iI a3)), (11, .int (iI v11_5))]) C.1 C.2.1 dX8_belowOf_139 hl (by decide) rfl (fun ls hl => ?_)
                obtain ⟨v11_37, ev11_37⟩ : ∃ z : Int, z = v11_5 + 1 := ⟨_, rfl⟩
                have hw := hw v11_37 ev11_37
                refine lv_iinc (v := iI v11_37) (lv' := [(11, .int (iI v11_37)), (8, .long (iL v14_19)), (10, .int (iI v10_36)), (6, .long (iL v14_19)), (4, .long (iL v6_2)), (14, .long (iL v14_19)), (12, .long (iL z_10)), (0, .ref (ad 60)), (1, .int (iI a1)), (2, .int (iI a2)), (3, .int (iI a3))]) C.1 C.2.1 dX8_belowOf_141 hl (k := 10) rfl (by rw [ev11_37]; exact iI_add _ _) (by decide) rfl (fun ls hl => ?_)
                refine lv_goto (tgt := 15) C.1 C.2.1 dX8_belowOf_144 (by decide) ?_
                exact ih15 v6_2 v14_19 v14_19 v10_36 v11_37 x_13 _ _ _ hw G (lv_sub hl [7, 8, 9, 10, 4, 3, 1, 2, 0] rfl)
              · have hw := if_n hw q_33
                refine fr_ic C dX8_belowOf_133 ?_
                refine fr_iadd C dX8_belowOf_134 ?_
                refine fr_nm (fun v10_34 ev10_34 => ?_)
                have hw := hw v10_34 ev10_34
                refine lv_istore (lv' := [(10, .int (iI v10_34)), (6, .long (iL v14_19)), (4, .long (iL v6_2)), (14, .long (iL v14_19)), (12, .long (iL z_10)), (0, .ref (ad 60)), (1, .int (iI a1)), (2, .int (iI a2)), (3, .int (iI a3)), (8, .long (iL v8_3)), (11, .int (iI v11_5))]) C.1 C.2.1 dX8_belowOf_135 hl (by decide) rfl (fun ls hl => ?_)
                refine lv_lload C.1 C.2.1 dX8_belowOf_137 (lv_at hl 1 rfl) ?_
                refine lv_lstore (lv' := [(8, .long (iL v14_19)), (10, .int (iI v10_34)), (6, .long (iL v14_19)), (4, .long (iL v6_2)), (14, .long (iL v14_19)), (12, .long (iL z_10)), (0, .ref (ad 60)), (1, .int (iI a1)), (2, .int (iI a2)), (3, .int (iI a3)), (11, .int (iI v11_5))]) C.1 C.2.1 dX8_belowOf_139 hl (by decide) rfl (fun ls hl => ?_)
                obtain ⟨v11_35, ev11_35⟩ : ∃ z : Int, z = v11_5 + 1 := ⟨_, rfl⟩
                have hw := hw v11_35 ev11_35
                refine lv_iinc (v := iI v11_35) (lv' := [(11, .int (iI v11_35)), (8, .long (iL v14_19)), (10, .int (iI v10_34)), (6, .long (iL v14_19)), (4, .long (iL v6_2)), (14, .long (iL v14_19)), (12, .long (iL z_10)), (0, .ref (ad 60)), (1, .int (iI a1)), (2, .int (iI a2)), (3, .int (iI a3))]) C.1 C.2.1 dX8_belowOf_141 hl (k := 10) rfl (by rw [ev11_35]; exact iI_add _ _) (by decide) rfl (fun ls hl => ?_)
                refine lv_goto (tgt := 15) C.1 C.2.1 dX8_belowOf_144 (by decide) ?_
                exact ih15 v6_2 v14_19 v14_19 v10_34 v11_35 x_13 _ _ _ hw G (lv_sub hl [7, 8, 9, 10, 4, 3, 1, 2, 0] rfl)
          · have hw := if_n hw (fun z => q_24 (cm_le0.mpr z))
            refine fr_ic C dX8_belowOf_109 ?_
            refine lv_goto (tgt := 114) C.1 C.2.1 dX8_belowOf_110 (by decide) ?_
            refine lv_lload C.1 C.2.1 dX8_belowOf_114 (lv_at hl 8 rfl) ?_
            refine fr_lc (z := 0) C dX8_belowOf_116 rfl ?_
            obtain ⟨hl_40, hw⟩ := hw
            refine fr_lcmp C dX8_belowOf_117 ⟨hl_40, ⟨by decide, by decide⟩⟩ ?_
            refine fr_le0 (tgt := 125) C dX8_belowOf_118 (by decide) (cm_rg _ _) (fun q_41 => ?_) (fun q_41 => ?_)
            · have hw := if_p hw (cm_le0.mp q_41)
              refine fr_ic C dX8_belowOf_125 ?_
              refine fr_ne (tgt := 133) C dX8_belowOf_126 (by decide) ⟨⟨by decide, by decide⟩, ⟨by decide, by decide⟩⟩ (fun q_42 => ?_) (fun q_42 => ?_)
              · have hw := if_p hw q_42
                refine fr_ic C dX8_belowOf_129 ?_
                refine lv_goto (tgt := 134) C.1 C.2.1 dX8_belowOf_130 (by decide) ?_
                refine fr_iadd C dX8_belowOf_134 ?_
                refine fr_nm (fun v10_45 ev10_45 => ?_)
                have hw := hw v10_45 ev10_45
                refine lv_istore (lv' := [(10, .int (iI v10_45)), (6, .long (iL v14_19)), (4, .long (iL v6_2)), (14, .long (iL v14_19)), (12, .long (iL z_10)), (0, .ref (ad 60)), (1, .int (iI a1)), (2, .int (iI a2)), (3, .int (iI a3)), (8, .long (iL v8_3)), (11, .int (iI v11_5))]) C.1 C.2.1 dX8_belowOf_135 hl (by decide) rfl (fun ls hl => ?_)
                refine lv_lload C.1 C.2.1 dX8_belowOf_137 (lv_at hl 1 rfl) ?_
                refine lv_lstore (lv' := [(8, .long (iL v14_19)), (10, .int (iI v10_45)), (6, .long (iL v14_19)), (4, .long (iL v6_2)), (14, .long (iL v14_19)), (12, .long (iL z_10)), (0, .ref (ad 60)), (1, .int (iI a1)), (2, .int (iI a2)), (3, .int (iI a3)), (11, .int (iI v11_5))]) C.1 C.2.1 dX8_belowOf_139 hl (by decide) rfl (fun ls hl => ?_)
                obtain ⟨v11_46, ev11_46⟩ : ∃ z : Int, z = v11_5 + 1 := ⟨_, rfl⟩
                have hw := hw v11_46 ev11_46
                refine lv_iinc (v := iI v11_46) (lv' := [(11, .int (iI v11_46)), (8, .long (iL v14_19)), (10, .int (iI v10_45)), (6, .long (iL v14_19)), (4, .long (iL v6_2)), (14, .long (iL v14_19)), (12, .long (iL z_10)), (0, .ref (ad 60)), (1, .int (iI a1)), (2, .int (iI a2)), (3, .int (iI a3))]) C.1 C.2.1 dX8_belowOf_141 hl (k := 10) rfl (by rw [ev11_46]; exact iI_add _ _) (by decide) rfl (fun ls hl => ?_)
                refine lv_goto (tgt := 15) C.1 C.2.1 dX8_belowOf_144 (by decide) ?_
                exact ih15 v6_2 v14_19 v14_19 v10_45 v11_46 x_13 _ _ _ hw G (lv_sub hl [7, 8, 9, 10, 4, 3, 1, 2, 0] rfl)
              · have hw := if_n hw q_42
                refine fr_ic C dX8_belowOf_133 ?_
                refine fr_iadd C dX8_belowOf_134 ?_
                refine fr_nm (fun v10_43 ev10_43 => ?_)
                have hw := hw v10_43 ev10_43
                refine lv_istore (lv' := [(10, .int (iI v10_43)), (6, .long (iL v14_19)), (4, .long (iL v6_2)), (14, .long (iL v14_19)), (12, .long (iL z_10)), (0, .ref (ad 60)), (1, .int (iI a1)), (2, .int (iI a2)), (3, .int (iI a3)), (8, .long (iL v8_3)), (11, .int (iI v11_5))]) C.1 C.2.1 dX8_belowOf_135 hl (by decide) rfl (fun ls hl => ?_)
                refine lv_lload C.1 C.2.1 dX8_belowOf_137 (lv_at hl 1 rfl) ?_
                refine lv_lstore (lv' := [(8, .long (iL v14_19)), (10, .int (iI v10_43)), (6, .long (iL v14_19)), (4, .long (iL v6_2)), (14, .long (iL v14_19)), (12, .long (iL z_10)), (0, .ref (ad 60)), (1, .int (iI a1)), (2, .int (iI a2)), (3, .int (iI a3)), (11, .int (iI v11_5))]) C.1 C.2.1 dX8_belowOf_139 hl (by decide) rfl (fun ls hl => ?_)
                obtain ⟨v11_44, ev11_44⟩ : ∃ z : Int, z = v11_5 + 1 := ⟨_, rfl⟩
                have hw := hw v11_44 ev11_44
                refine lv_iinc (v := iI v11_44) (lv' := [(11, .int (iI v11_44)), (8, .long (iL v14_19)), (10, .int (iI v10_43)), (6, .long (iL v14_19)), (4, .long (iL v6_2)), (14, .long (iL v14_19)), (12, .long (iL z_10)), (0, .ref (ad 60)), (1, .int (iI a1)), (2, .int (iI a2)), (3, .int (iI a3))]) C.1 C.2.1 dX8_belowOf_141 hl (k := 10) rfl (by rw [ev11_44]; exact iI_add _ _) (by decide) rfl (fun ls hl => ?_)
                refine lv_goto (tgt := 15) C.1 C.2.1 dX8_belowOf_144 (by decide) ?_
                exact ih15 v6_2 v14_19 v14_19 v10_43 v11_44 x_13 _ _ _ hw G (lv_sub hl [7, 8, 9, 10, 4, 3, 1, 2, 0] rfl)
            · have hw := if_n hw (fun z => q_41 (cm_le0.mpr z))
              refine fr_ic C dX8_belowOf_121 ?_
              refine lv_goto (tgt := 126) C.1 C.2.1 dX8_belowOf_122 (by decide) ?_
              refine fr_ne (tgt := 133) C dX8_belowOf_126 (by decide) ⟨⟨by decide, by decide⟩, ⟨by decide, by decide⟩⟩ (fun q_48 => ?_) (fun q_48 => ?_)
              · have hw := if_p hw q_48
                refine fr_ic C dX8_belowOf_129 ?_
                refine lv_goto (tgt := 134) C.1 C.2.1 dX8_belowOf_130 (by decide) ?_
                refine fr_iadd C dX8_belowOf_134 ?_
                refine fr_nm (fun v10_51 ev10_51 => ?_)
                have hw := hw v10_51 ev10_51
                refine lv_istore (lv' := [(10, .int (iI v10_51)), (6, .long (iL v14_19)), (4, .long (iL v6_2)), (14, .long (iL v14_19)), (12, .long (iL z_10)), (0, .ref (ad 60)), (1, .int (iI a1)), (2, .int (iI a2)), (3, .int (iI a3)), (8, .long (iL v8_3)), (11, .int (iI v11_5))]) C.1 C.2.1 dX8_belowOf_135 hl (by decide) rfl (fun ls hl => ?_)
                refine lv_lload C.1 C.2.1 dX8_belowOf_137 (lv_at hl 1 rfl) ?_
                refine lv_lstore (lv' := [(8, .long (iL v14_19)), (10, .int (iI v10_51)), (6, .long (iL v14_19)), (4, .long (iL v6_2)), (14, .long (iL v14_19)), (12, .long (iL z_10)), (0, .ref (ad 60)), (1, .int (iI a1)), (2, .int (iI a2)), (3, .int (iI a3)), (11, .int (iI v11_5))]) C.1 C.2.1 dX8_belowOf_139 hl (by decide) rfl (fun ls hl => ?_)
                obtain ⟨v11_52, ev11_52⟩ : ∃ z : Int, z = v11_5 + 1 := ⟨_, rfl⟩
                have hw := hw v11_52 ev11_52
                refine lv_iinc (v := iI v11_52) (lv' := [(11, .int (iI v11_52)), (8, .long (iL v14_19)), (10, .int (iI v10_51)), (6, .long (iL v14_19)), (4, .long (iL v6_2)), (14, .long (iL v14_19)), (12, .long (iL z_10)), (0, .ref (ad 60)), (1, .int (iI a1)), (2, .int (iI a2)), (3, .int (iI a3))]) C.1 C.2.1 dX8_belowOf_141 hl (k := 10) rfl (by rw [ev11_52]; exact iI_add _ _) (by decide) rfl (fun ls hl => ?_)
                refine lv_goto (tgt := 15) C.1 C.2.1 dX8_belowOf_144 (by decide) ?_
                exact ih15 v6_2 v14_19 v14_19 v10_51 v11_52 x_13 _ _ _ hw G (lv_sub hl [7, 8, 9, 10, 4, 3, 1, 2, 0] rfl)
              · have hw := if_n hw q_48
                refine fr_ic C dX8_belowOf_133 ?_
                refine fr_iadd C dX8_belowOf_134 ?_
                refine fr_nm (fun v10_49 ev10_49 => ?_)
                have hw := hw v10_49 ev10_49
                refine lv_istore (lv' := [(10, .int (iI v10_49)), (6, .long (iL v14_19)), (4, .long (iL v6_2)), (14, .long (iL v14_19)), (12, .long (iL z_10)), (0, .ref (ad 60)), (1, .int (iI a1)), (2, .int (iI a2)), (3, .int (iI a3)), (8, .long (iL v8_3)), (11, .int (iI v11_5))]) C.1 C.2.1 dX8_belowOf_135 hl (by decide) rfl (fun ls hl => ?_)
                refine lv_lload C.1 C.2.1 dX8_belowOf_137 (lv_at hl 1 rfl) ?_
                refine lv_lstore (lv' := [(8, .long (iL v14_19)), (10, .int (iI v10_49)), (6, .long (iL v14_19)), (4, .long (iL v6_2)), (14, .long (iL v14_19)), (12, .long (iL z_10)), (0, .ref (ad 60)), (1, .int (iI a1)), (2, .int (iI a2)), (3, .int (iI a3)), (11, .int (iI v11_5))]) C.1 C.2.1 dX8_belowOf_139 hl (by decide) rfl (fun ls hl => ?_)
                obtain ⟨v11_50, ev11_50⟩ : ∃ z : Int, z = v11_5 + 1 := ⟨_, rfl⟩
                have hw := hw v11_50 ev11_50
                refine lv_iinc (v := iI v11_50) (lv' := [(11, .int (iI v11_50)), (8, .long (iL v14_19)), (10, .int (iI v10_49)), (6, .long (iL v14_19)), (4, .long (iL v6_2)), (14, .long (iL v14_19)), (12, .long (iL z_10)), (0, .ref (ad 60)), (1, .int (iI a1)), (2, .int (iI a2)), (3, .int (iI a3))]) C.1 C.2.1 dX8_belowOf_141 hl (k := 10) rfl (by rw [ev11_50]; exact iI_add _ _) (by decide) rfl (fun ls hl => ?_)
                refine lv_goto (tgt := 15) C.1 C.2.1 dX8_belowOf_144 (by decide) ?_
                exact ih15 v6_2 v14_19 v14_19 v10_49 v11_50 x_13 _ _ _ hw G (lv_sub hl [7, 8, 9, 10, 4, 3, 1, 2, 0] rfl)
  have hX15 : ∀ (v4_1 : Int) (v6_2 : Int) (v8_3 : Int) (v10_4 : Int) (v11_5 : Int) (x_6 : Mm) (H : Heap) (locs : List Loc) (ls : Array Slot), wX_X8_belowOf_15 post v4_1 v6_2 v8_3 v10_4 v11_5 x_6 → fG D cy L ad (fAr L ad s.heap.size) s x_6 H locs → lv_has ls 16 [(0, .ref (ad 60)), (1, .int (iI a1)), (2, .int (iI a2)), (3, .int (iI a3)), (4, .long (iL v4_1)), (6, .long (iL v6_2)), (8, .long (iL v8_3)), (10, .int (iI v10_4)), (11, .int (iI v11_5))] → W p l e (headSpec wsX8_belowOf rm_X8_belowOf).room s m args below meth c H locs 0 0 (fQi below D cy L ad s args post) (F0 m 147 ls []) := by
    intro v4_1 v6_2 v8_3 v10_4 v11_5 x_6 H locs ls hw G hl
    refine lv_iload C.1 C.2.1 dX8_belowOf_147 (lv_at hl 7 rfl) ?_
    exact fr_iret C G hr hlk hw dX8_belowOf_149
  have hB15 : ∀ (n : Nat) (v4_1 : Int) (v6_2 : Int) (v8_3 : Int) (v10_4 : Int) (v11_5 : Int) (x_6 : Mm) (H : Heap) (locs : List Loc) (ls : Array Slot), lk6 (wB_X8_belowOf_15 a1 a2 a3 (wX_X8_belowOf_15 post)) n v4_1 v6_2 v8_3 v10_4 v11_5 x_6 → fG D cy L ad (fAr L ad s.heap.size) s x_6 H locs → lv_has ls 16 [(0, .ref (ad 60)), (1, .int (iI a1)), (2, .int (iI a2)), (3, .int (iI a3)), (4, .long (iL v4_1)), (6, .long (iL v6_2)), (8, .long (iL v8_3)), (10, .int (iI v10_4)), (11, .int (iI v11_5))] → W p l e (headSpec wsX8_belowOf rm_X8_belowOf).room s m args below meth c H locs 0 0 (fQi below D cy L ad s args post) (F0 m 15 ls []) := by
    intro n
    induction n with
    | zero =>
      intro v4_1 v6_2 v8_3 v10_4 v11_5 x_6 H locs ls hw
      exact hw.elim
    | succ n ih =>
      intro v4_1 v6_2 v8_3 v10_4 v11_5 x_6 H locs ls hw G hl
      exact hS15 _ _ hX15 ih v4_1 v6_2 v8_3 v10_4 v11_5 x_6 H locs ls hw G hl
  exact hB15 n15 0 1 1 0 0 x _ _ _ hw G (lv_sub hl [5, 6, 7, 8, 4, 3, 2, 1, 0] rfl)
