def wX_X8_findPlan_175 (v2_2 : Int) (bk_9 : Int → Mm → Prop) (v5_31 : Int) (x_32 : Mm) : Prop :=
  ∀ v2_33 : Int, v2_33 = v2_2 + (-1) → bk_9 v2_33 x_32
def wB_X8_findPlan_175 (kx_175 bk_175 : Int → Mm → Prop) (v5_31 : Int) (x_32 : Mm) : Prop :=
  rg v5_31 ∧ (if 4 ≤ v5_31 then (kx_175 v5_31 x_32) else ((0 ≤ v5_31 ∧ v5_31 < 4) ∧ (0 ≤ v5_31 ∧ v5_31 < 4) ∧ (∀ x_37 : Mm, x_37 = up2 x_32 74 (v5_31).toNat (x_32 71 (v5_31).toNat) → ∀ v5_38 : Int, v5_38 = v5_31 + 1 → bk_175 v5_38 x_37)))
def wX_X8_findPlan_76 (v2_2 : Int) (bk_9 : Int → Mm → Prop) (v3_19 : Int) (v4_20 : Int) (v5_21 : Int) (x_22 : Mm) : Prop :=
  rg v4_20 ∧ (if v4_20 = 0 then (∀ v2_24 : Int, v2_24 = v2_2 + (-1) → bk_9 v2_24 x_22) else (rg (x_22 60 19) ∧ (if (x_22 60 19) = (-1) then (w_X8_fits x_22 (fun z_27 x_26 => rg z_27 ∧ (if z_27 = 0 then (∀ v2_29 : Int, v2_29 = v2_2 + (-1) → bk_9 v2_29 x_26) else (∀ x_30 : Mm, x_30 = up2 x_26 60 19 v3_19 → ∃ n : Nat, lk2 (wB_X8_findPlan_175 (wX_X8_findPlan_175 v2_2 bk_9)) n 0 x_30)))) else ((rg v3_19 ∧ rg (x_22 60 19)) ∧ (if (x_22 60 19) ≤ v3_19 then (∀ v2_42 : Int, v2_42 = v2_2 + (-1) → bk_9 v2_42 x_22) else (w_X8_fits x_22 (fun z_44 x_43 => rg z_44 ∧ (if z_44 = 0 then (∀ v2_46 : Int, v2_46 = v2_2 + (-1) → bk_9 v2_46 x_43) else (∀ x_47 : Mm, x_47 = up2 x_43 60 19 v3_19 → ∃ n : Nat, lk2 (wB_X8_findPlan_175 (wX_X8_findPlan_175 v2_2 bk_9)) n 0 x_47)))))))))
def wB_X8_findPlan_76 (a1 : Int) (kx_76 bk_76 : Int → Int → Int → Mm → Prop) (v3_19 : Int) (v4_20 : Int) (v5_21 : Int) (x_22 : Mm) : Prop :=
  rg v5_21 ∧ (if 4 ≤ v5_21 then (kx_76 v3_19 v4_20 v5_21 x_22) else (rg v4_20 ∧ (if v4_20 = 0 then ((0 ≤ (4 * a1) + v5_21 ∧ (4 * a1) + v5_21 < 16) ∧ (0 ≤ v5_21 ∧ v5_21 < 4) ∧ ∀ v3_65 : Int, v3_65 = v3_19 + ((x_22 61 ((4 * a1) + v5_21).toNat) - (x_22 71 (v5_21).toNat)) → ∀ v5_66 : Int, v5_66 = v5_21 + 1 → bk_76 v3_65 0 v5_66 x_22) else ((0 ≤ v5_21 ∧ v5_21 < 4) ∧ w_X8_mayBe a1 v5_21 (x_22 71 (v5_21).toNat) x_22 (fun z_69 x_68 => rg z_69 ∧ (if z_69 = 0 then ((0 ≤ (4 * a1) + v5_21 ∧ (4 * a1) + v5_21 < 16) ∧ (0 ≤ v5_21 ∧ v5_21 < 4) ∧ ∀ v3_73 : Int, v3_73 = v3_19 + ((x_68 61 ((4 * a1) + v5_21).toNat) - (x_68 71 (v5_21).toNat)) → ∀ v5_74 : Int, v5_74 = v5_21 + 1 → bk_76 v3_73 0 v5_74 x_68) else ((0 ≤ (4 * a1) + v5_21 ∧ (4 * a1) + v5_21 < 16) ∧ (0 ≤ v5_21 ∧ v5_21 < 4) ∧ ∀ v3_77 : Int, v3_77 = v3_19 + ((x_68 61 ((4 * a1) + v5_21).toNat) - (x_68 71 (v5_21).toNat)) → ∀ v5_78 : Int, v5_78 = v5_21 + 1 → bk_76 v3_77 1 v5_78 x_68)))))))
def wX_X8_findPlan_9 (post : Mm → Prop) (v2_2 : Int) (x_3 : Mm) : Prop :=
  post x_3
def wB_X8_findPlan_9 (a1 : Int) (kx_9 bk_9 : Int → Mm → Prop) (v2_2 : Int) (x_3 : Mm) : Prop :=
  rg v2_2 ∧ (if v2_2 < 0 then (kx_9 v2_2 x_3) else ((rg v2_2 ∧ 0 ≤ v2_2) ∧ (∀ x_7 : Mm, x_7 = up2 x_3 71 0 (1 + (v2_2 / 729)) → (rg v2_2 ∧ 0 ≤ v2_2) ∧ (rg (v2_2 / 81) ∧ 0 ≤ v2_2 / 81) ∧ (∀ x_11 : Mm, x_11 = up2 x_7 71 1 (1 + ((v2_2 / 81) % 9)) → (rg v2_2 ∧ 0 ≤ v2_2) ∧ (rg (v2_2 / 9) ∧ 0 ≤ v2_2 / 9) ∧ (∀ x_15 : Mm, x_15 = up2 x_11 71 2 (1 + ((v2_2 / 9) % 9)) → (rg v2_2 ∧ 0 ≤ v2_2) ∧ (∀ x_18 : Mm, x_18 = up2 x_15 71 3 (1 + (v2_2 % 9)) → ∃ n : Nat, lk4 (wB_X8_findPlan_76 a1 (wX_X8_findPlan_76 v2_2 bk_9)) n 0 1 0 x_18))))))
def w_X8_findPlan (a1 : Int) (x : Mm) (post : Mm → Prop) : Prop :=
  ∀ x_1 : Mm, x_1 = up2 x 60 19 (-1) → ∃ n : Nat, lk2 (wB_X8_findPlan_9 a1 (wX_X8_findPlan_9 post)) n 6560 x_1
abbrev rm_X8_findPlan : Room := { frames := 4, cells := 0, slots := 0, locals := 106 }
theorem iw_X8_findPlan_X8 : ∀ w ∈ u_ws RX8 TX8 20, w ∈ wsX8_findPlan := by decide +kernel
theorem fl_X8_findPlan_129 : Cond.fieldLink RX8 129 (TX8 19).1 (TX8 19).2.1 (TX8 19).2.2.1 ∈ wsX8_findPlan := by decide +kernel
theorem fl_X8_findPlan_48 : Cond.fieldLink RX8 48 (TX8 14).1 (TX8 14).2.1 (TX8 14).2.2.1 ∈ wsX8_findPlan := by decide +kernel
theorem fl_X8_findPlan_57 : Cond.fieldLink RX8 57 (TX8 18).1 (TX8 18).2.1 (TX8 18).2.2.1 ∈ wsX8_findPlan := by decide +kernel
theorem fl_X8_findPlan_7 : Cond.fieldLink RX8 7 (TX8 1).1 (TX8 1).2.1 (TX8 1).2.2.1 ∈ wsX8_findPlan := by decide +kernel
set_option maxHeartbeats 4000000 in
set_option maxRecDepth 100000 in
theorem c_X8_findPlan (l : Launch) (D : va_G) (cy : Nat → ClassId) (L : List Nat) (ad : Nat → Nat) (sz : Nat) (hL : fLM L) (a1 : Int) (x : Mm) (post : Mm → Prop) (hw : w_X8_findPlan a1 x post) : fMv l yX8_findPlan wsX8_findPlan rm_X8_findPlan [.ref (ad 60), .int (iI a1)] D cy L ad sz x post := by
  refine Met.ofW (cc := cX8_findPlan) (maxL := 6) (ret := none) (by decide) rfl ?_
  intro p e s m args below meth c s₁ B hml hv
  obtain ⟨hargs, hp⟩ := hv
  obtain ⟨C, hr, hlk, hsz, G⟩ := fr_start B hml hp
  subst hsz
  obtain ⟨ls, els, hl⟩ := fr_entry (m := m) (n := 6) hargs (Nat.le_of_ble_eq_true rfl)
  rw [els]
  have hl : lv_has ls 6 [(0, .ref (ad 60)), (1, .int (iI a1))] := hl
  clear els hargs hp B
  refine lv_aload_n C.1 C.2.1 dX8_findPlan_0 rfl (lv_at hl 0 rfl) ?_
  refine fr_ic C dX8_findPlan_1 ?_
  refine fr_put C G 60 (hL _ (by omega)) (cl_60 _) rfl iw_X8_findPlan_X8 tyX8_ok nmX8 19 (by decide) fl_X8_findPlan_129 rfl (by decide +kernel) (Nat.le_of_ble_eq_true rfl) (st_60_19 _ _) dX8_findPlan_2 (fun x_1 H locs ex_1 G => ?_)
  have hw := hw x_1 ex_1
  refine fr_si C dX8_findPlan_5 rfl ?_
  refine lv_istore_n (lv' := [(2, .int (iI 6560)), (0, .ref (ad 60)), (1, .int (iI a1))]) C.1 C.2.1 dX8_findPlan_8 rfl hl (by decide) rfl (fun ls hl => ?_)
  obtain ⟨n9, hw⟩ := hw
  have hS9 : ∀ (kx_9 bk_9 : Int → Mm → Prop), (∀ (v2_2 : Int) (x_3 : Mm) (H : Heap) (locs : List Loc) (ls : Array Slot), kx_9 v2_2 x_3 → fG D cy L ad (fAr L ad s.heap.size) s x_3 H locs → lv_has ls 6 [(0, .ref (ad 60)), (1, .int (iI a1)), (2, .int (iI v2_2))] → W p l e (headSpec wsX8_findPlan rm_X8_findPlan).room s m args below meth c H locs 0 0 (fQv below D cy L ad s args post) (F0 m 207 ls [])) → (∀ (v2_2 : Int) (x_3 : Mm) (H : Heap) (locs : List Loc) (ls : Array Slot), bk_9 v2_2 x_3 → fG D cy L ad (fAr L ad s.heap.size) s x_3 H locs → lv_has ls 6 [(0, .ref (ad 60)), (1, .int (iI a1)), (2, .int (iI v2_2))] → W p l e (headSpec wsX8_findPlan rm_X8_findPlan).room s m args below meth c H locs 0 0 (fQv below D cy L ad s args post) (F0 m 9 ls [])) → ∀ (v2_2 : Int) (x_3 : Mm) (H : Heap) (locs : List Loc) (ls : Array Slot), wB_X8_findPlan_9 a1 kx_9 bk_9 v2_2 x_3 → fG D cy L ad (fAr L ad s.heap.size) s x_3 H locs → lv_has ls 6 [(0, .ref (ad 60)), (1, .int (iI a1)), (2, .int (iI v2_2))] → W p l e (headSpec wsX8_findPlan rm_X8_findPlan).room s m args below meth c H locs 0 0 (fQv below D cy L ad s args post) (F0 m 9 ls []) := by
    intro kx_9 bk_9 hX9 ih9 v2_2 x_3 H locs ls hw G hl
    refine lv_iload_n C.1 C.2.1 dX8_findPlan_9 rfl (lv_at hl 2 rfl) ?_
    obtain ⟨hc_82, hw⟩ := hw
    refine fr_lt0 (tgt := 207) C dX8_findPlan_10 (by decide) hc_82 (fun q_4 => ?_) (fun q_4 => ?_)
    · have hw := if_p hw q_4
      exact hX9 v2_2 x_3 _ _ _ hw G (lv_sub hl [0, 1, 2] rfl)
    · have hw := if_n hw q_4
      refine lv_aload_n C.1 C.2.1 dX8_findPlan_13 rfl (lv_at hl 0 rfl) ?_
      refine fr_get C G 60 (hL _ (by omega)) (cl_60 _) rfl iw_X8_findPlan_X8 14 (by decide) fl_X8_findPlan_48 rfl dX8_findPlan_14 ?_
      refine fr_ic C dX8_findPlan_17 ?_
      refine fr_ic C dX8_findPlan_18 ?_
      refine lv_iload_n C.1 C.2.1 dX8_findPlan_19 rfl (lv_at hl 2 rfl) ?_
      refine fr_si C dX8_findPlan_20 rfl ?_
      obtain ⟨hd_5, hw⟩ := hw
      refine fr_idiv C dX8_findPlan_23 ⟨hd_5.1, ⟨by decide, by decide⟩, hd_5.2, by decide⟩ ?_
      refine fr_iadd C dX8_findPlan_24 ?_
      refine fr_iast C G 71 4 (hL _ (by omega)) rfl ⟨by decide, by decide⟩ ⟨by decide, by decide⟩ dX8_findPlan_25 (fun x_7 H locs ex_7 G => ?_)
      have hw := hw x_7 ex_7
      refine lv_aload_n C.1 C.2.1 dX8_findPlan_26 rfl (lv_at hl 0 rfl) ?_
      refine fr_get C G 60 (hL _ (by omega)) (cl_60 _) rfl iw_X8_findPlan_X8 14 (by decide) fl_X8_findPlan_48 rfl dX8_findPlan_27 ?_
      refine fr_ic C dX8_findPlan_30 ?_
      refine fr_ic C dX8_findPlan_31 ?_
      refine lv_iload_n C.1 C.2.1 dX8_findPlan_32 rfl (lv_at hl 2 rfl) ?_
      refine fr_bi C dX8_findPlan_33 rfl ?_
      obtain ⟨hd_8, hw⟩ := hw
      refine fr_idiv C dX8_findPlan_35 ⟨hd_8.1, ⟨by decide, by decide⟩, hd_8.2, by decide⟩ ?_
      refine fr_bi C dX8_findPlan_36 rfl ?_
      obtain ⟨hd_9, hw⟩ := hw
      refine fr_irem C dX8_findPlan_38 ⟨hd_9.1, ⟨by decide, by decide⟩, hd_9.2, by decide⟩ ?_
      refine fr_iadd C dX8_findPlan_39 ?_
      refine fr_iast C G 71 4 (hL _ (by omega)) rfl ⟨by decide, by decide⟩ ⟨by decide, by decide⟩ dX8_findPlan_40 (fun x_11 H locs ex_11 G => ?_)
      have hw := hw x_11 ex_11
      refine lv_aload_n C.1 C.2.1 dX8_findPlan_41 rfl (lv_at hl 0 rfl) ?_
      refine fr_get C G 60 (hL _ (by omega)) (cl_60 _) rfl iw_X8_findPlan_X8 14 (by decide) fl_X8_findPlan_48 rfl dX8_findPlan_42 ?_
      refine fr_ic C dX8_findPlan_45 ?_
      refine fr_ic C dX8_findPlan_46 ?_
      refine lv_iload_n C.1 C.2.1 dX8_findPlan_47 rfl (lv_at hl 2 rfl) ?_
      refine fr_bi C dX8_findPlan_48 rfl ?_
      obtain ⟨hd_12, hw⟩ := hw
      refine fr_idiv C dX8_findPlan_50 ⟨hd_12.1, ⟨by decide, by decide⟩, hd_12.2, by decide⟩ ?_
      refine fr_bi C dX8_findPlan_51 rfl ?_
      obtain ⟨hd_13, hw⟩ := hw
      refine fr_irem C dX8_findPlan_53 ⟨hd_13.1, ⟨by decide, by decide⟩, hd_13.2, by decide⟩ ?_
      refine fr_iadd C dX8_findPlan_54 ?_
      refine fr_iast C G 71 4 (hL _ (by omega)) rfl ⟨by decide, by decide⟩ ⟨by decide, by decide⟩ dX8_findPlan_55 (fun x_15 H locs ex_15 G => ?_)
      have hw := hw x_15 ex_15
      refine lv_aload_n C.1 C.2.1 dX8_findPlan_56 rfl (lv_at hl 0 rfl) ?_
      refine fr_get C G 60 (hL _ (by omega)) (cl_60 _) rfl iw_X8_findPlan_X8 14 (by decide) fl_X8_findPlan_48 rfl dX8_findPlan_57 ?_
      refine fr_ic C dX8_findPlan_60 ?_
      refine fr_ic C dX8_findPlan_61 ?_
      refine lv_iload_n C.1 C.2.1 dX8_findPlan_62 rfl (lv_at hl 2 rfl) ?_
      refine fr_bi C dX8_findPlan_63 rfl ?_
      obtain ⟨hd_16, hw⟩ := hw
      refine fr_irem C dX8_findPlan_65 ⟨hd_16.1, ⟨by decide, by decide⟩, hd_16.2, by decide⟩ ?_
      refine fr_iadd C dX8_findPlan_66 ?_
      refine fr_iast C G 71 4 (hL _ (by omega)) rfl ⟨by decide, by decide⟩ ⟨by decide, by decide⟩ dX8_findPlan_67 (fun x_18 H locs ex_18 G => ?_)
      have hw := hw x_18 ex_18
      refine fr_ic C dX8_findPlan_68 ?_
      refine lv_istore_n (lv' := [(3, .int (iI 0)), (0, .ref (ad 60)), (1, .int (iI a1)), (2, .int (iI v2_2))]) C.1 C.2.1 dX8_findPlan_69 rfl hl (by decide) rfl (fun ls hl => ?_)
      refine fr_ic C dX8_findPlan_70 ?_
      refine lv_istore (lv' := [(4, .int (iI 1)), (3, .int (iI 0)), (0, .ref (ad 60)), (1, .int (iI a1)), (2, .int (iI v2_2))]) C.1 C.2.1 dX8_findPlan_71 hl (by decide) rfl (fun ls hl => ?_)
      refine fr_ic C dX8_findPlan_73 ?_
      refine lv_istore (lv' := [(5, .int (iI 0)), (4, .int (iI 1)), (3, .int (iI 0)), (0, .ref (ad 60)), (1, .int (iI a1)), (2, .int (iI v2_2))]) C.1 C.2.1 dX8_findPlan_74 hl (by decide) rfl (fun ls hl => ?_)
      obtain ⟨n76, hw⟩ := hw
      have hS76 : ∀ (kx_76 bk_76 : Int → Int → Int → Mm → Prop), (∀ (v3_19 : Int) (v4_20 : Int) (v5_21 : Int) (x_22 : Mm) (H : Heap) (locs : List Loc) (ls : Array Slot), kx_76 v3_19 v4_20 v5_21 x_22 → fG D cy L ad (fAr L ad s.heap.size) s x_22 H locs → lv_has ls 6 [(0, .ref (ad 60)), (1, .int (iI a1)), (2, .int (iI v2_2)), (3, .int (iI v3_19)), (4, .int (iI v4_20)), (5, .int (iI v5_21))] → W p l e (headSpec wsX8_findPlan rm_X8_findPlan).room s m args below meth c H locs 0 0 (fQv below D cy L ad s args post) (F0 m 139 ls [])) → (∀ (v3_19 : Int) (v4_20 : Int) (v5_21 : Int) (x_22 : Mm) (H : Heap) (locs : List Loc) (ls : Array Slot), bk_76 v3_19 v4_20 v5_21 x_22 → fG D cy L ad (fAr L ad s.heap.size) s x_22 H locs → lv_has ls 6 [(0, .ref (ad 60)), (1, .int (iI a1)), (2, .int (iI v2_2)), (3, .int (iI v3_19)), (4, .int (iI v4_20)), (5, .int (iI v5_21))] → W p l e (headSpec wsX8_findPlan rm_X8_findPlan).room s m args below meth c H locs 0 0 (fQv below D cy L ad s args post) (F0 m 76 ls [])) → ∀ (v3_19 : Int) (v4_20 : Int) (v5_21 : Int) (x_22 : Mm) (H : Heap) (locs : List Loc) (ls : Array Slot), wB_X8_findPlan_76 a1 kx_76 bk_76 v3_19 v4_20 v5_21 x_22 → fG D cy L ad (fAr L ad s.heap.size) s x_22 H locs → lv_has ls 6 [(0, .ref (ad 60)), (1, .int (iI a1)), (2, .int (iI v2_2)), (3, .int (iI v3_19)), (4, .int (iI v4_20)), (5, .int (iI v5_21))] → W p l e (headSpec wsX8_findPlan rm_X8_findPlan).room s m args below meth c H locs 0 0 (fQv below D cy L ad s args post) (F0 m 76 ls []) := by
        intro kx_76 bk_76 hX76 ih76 v3_19 v4_20 v5_21 x_22 H locs ls hw G hl
        refine lv_iload C.1 C.2.1 dX8_findPlan_76 (lv_at hl 5 rfl) ?_
        refine fr_ic C dX8_findPlan_78 ?_
        obtain ⟨hc_81, hw⟩ := hw
        refine fr_ge (tgt := 139) C dX8_findPlan_79 (by decide) ⟨hc_81, ⟨by decide, by decide⟩⟩ (fun q_61 => ?_) (fun q_61 => ?_)
        · have hw := if_p hw q_61
          exact hX76 v3_19 v4_20 v5_21 x_22 _ _ _ hw G (lv_sub hl [0, 1, 2, 3, 4, 5] rfl)
        · have hw := if_n hw q_61
          refine lv_iload C.1 C.2.1 dX8_findPlan_82 (lv_at hl 4 rfl) ?_
          obtain ⟨hc_80, hw⟩ := hw
          refine fr_eq0 (tgt := 108) C dX8_findPlan_84 (by decide) hc_80 (fun q_62 => ?_) (fun q_62 => ?_)
          · have hw := if_p hw q_62
            refine fr_ic C dX8_findPlan_108 ?_
            refine lv_istore (lv' := [(4, .int (iI 0)), (0, .ref (ad 60)), (1, .int (iI a1)), (2, .int (iI v2_2)), (3, .int (iI v3_19)), (5, .int (iI v5_21))]) C.1 C.2.1 dX8_findPlan_109 hl (by decide) rfl (fun ls hl => ?_)
            refine lv_iload_n C.1 C.2.1 dX8_findPlan_111 rfl (lv_at hl 4 rfl) ?_
            refine lv_aload_n C.1 C.2.1 dX8_findPlan_112 rfl (lv_at hl 1 rfl) ?_
            refine fr_get C G 60 (hL _ (by omega)) (cl_60 _) rfl iw_X8_findPlan_X8 1 (by decide) fl_X8_findPlan_7 rfl dX8_findPlan_113 ?_
            refine fr_ic C dX8_findPlan_116 ?_
            refine lv_iload_n C.1 C.2.1 dX8_findPlan_117 rfl (lv_at hl 2 rfl) ?_
            refine fr_imul C dX8_findPlan_118 ?_
            refine lv_iload C.1 C.2.1 dX8_findPlan_119 (lv_at hl 5 rfl) ?_
            refine fr_iadd C dX8_findPlan_121 ?_
            obtain ⟨hb_63, hw⟩ := hw
            refine fr_iald C G 61 16 (hL _ (by omega)) rfl ⟨by decide, by decide⟩ hb_63 dX8_findPlan_122 ?_
            refine lv_aload_n C.1 C.2.1 dX8_findPlan_123 rfl (lv_at hl 1 rfl) ?_
            refine fr_get C G 60 (hL _ (by omega)) (cl_60 _) rfl iw_X8_findPlan_X8 14 (by decide) fl_X8_findPlan_48 rfl dX8_findPlan_124 ?_
            refine lv_iload C.1 C.2.1 dX8_findPlan_127 (lv_at hl 5 rfl) ?_
            obtain ⟨hb_64, hw⟩ := hw
            refine fr_iald C G 71 4 (hL _ (by omega)) rfl ⟨by decide, by decide⟩ hb_64 dX8_findPlan_129 ?_
            refine fr_isub C dX8_findPlan_130 ?_
            refine fr_iadd C dX8_findPlan_131 ?_
            refine fr_nm (fun v3_65 ev3_65 => ?_)
            have hw := hw v3_65 ev3_65
            refine lv_istore_n (lv' := [(3, .int (iI v3_65)), (4, .int (iI 0)), (0, .ref (ad 60)), (1, .int (iI a1)), (2, .int (iI v2_2)), (5, .int (iI v5_21))]) C.1 C.2.1 dX8_findPlan_132 rfl hl (by decide) rfl (fun ls hl => ?_)
            obtain ⟨v5_66, ev5_66⟩ : ∃ z : Int, z = v5_21 + 1 := ⟨_, rfl⟩
            have hw := hw v5_66 ev5_66
            refine lv_iinc (v := iI v5_66) (lv' := [(5, .int (iI v5_66)), (3, .int (iI v3_65)), (4, .int (iI 0)), (0, .ref (ad 60)), (1, .int (iI a1)), (2, .int (iI v2_2))]) C.1 C.2.1 dX8_findPlan_133 hl (k := 5) rfl (by rw [ev5_66]; exact iI_add _ _) (by decide) rfl (fun ls hl => ?_)
            refine lv_goto (tgt := 76) C.1 C.2.1 dX8_findPlan_136 (by decide) ?_
            exact ih76 v3_65 0 v5_66 x_22 _ _ _ hw G (lv_sub hl [3, 4, 5, 1, 2, 0] rfl)
          · have hw := if_n hw q_62
            refine lv_aload_n C.1 C.2.1 dX8_findPlan_87 rfl (lv_at hl 0 rfl) ?_
            refine lv_iload_n C.1 C.2.1 dX8_findPlan_88 rfl (lv_at hl 1 rfl) ?_
            refine lv_iload C.1 C.2.1 dX8_findPlan_89 (lv_at hl 5 rfl) ?_
            refine lv_aload_n C.1 C.2.1 dX8_findPlan_91 rfl (lv_at hl 0 rfl) ?_
            refine fr_get C G 60 (hL _ (by omega)) (cl_60 _) rfl iw_X8_findPlan_X8 14 (by decide) fl_X8_findPlan_48 rfl dX8_findPlan_92 ?_
            refine lv_iload C.1 C.2.1 dX8_findPlan_95 (lv_at hl 5 rfl) ?_
            obtain ⟨hb_67, hw⟩ := hw
            refine fr_iald C G 71 4 (hL _ (by omega)) rfl ⟨by decide, by decide⟩ hb_67 dX8_findPlan_97 ?_
            refine fr_Vi C G (c_X8_mayBe l D cy L ad _ hL a1 v5_21 (x_22 71 (v5_21).toNat) x_22 _ hw) (cwV 3 C.2.2.2.2 gX8_findPlan_X8_mayBe rfl rfl rfl (by decide +kernel) ⟨Nat.le_of_ble_eq_true rfl, Nat.le_of_ble_eq_true rfl⟩) (G.recv (hL _ (by omega)) (cl_60 _) rfl) rfl hl.1 rfl (Nat.le_of_ble_eq_true rfl) dX8_findPlan_98 ⟨Nat.zero_le _, Nat.zero_le _⟩ (fun z_69 x_68 H locs hw G => ?_)
            obtain ⟨hc_79, hw⟩ := hw
            refine fr_eq0 (tgt := 108) C dX8_findPlan_101 (by decide) hc_79 (fun q_70 => ?_) (fun q_70 => ?_)
            · have hw := if_p hw q_70
              refine fr_ic C dX8_findPlan_108 ?_
              refine lv_istore (lv' := [(4, .int (iI 0)), (0, .ref (ad 60)), (1, .int (iI a1)), (2, .int (iI v2_2)), (3, .int (iI v3_19)), (5, .int (iI v5_21))]) C.1 C.2.1 dX8_findPlan_109 hl (by decide) rfl (fun ls hl => ?_)
              refine lv_iload_n C.1 C.2.1 dX8_findPlan_111 rfl (lv_at hl 4 rfl) ?_
              refine lv_aload_n C.1 C.2.1 dX8_findPlan_112 rfl (lv_at hl 1 rfl) ?_
              refine fr_get C G 60 (hL _ (by omega)) (cl_60 _) rfl iw_X8_findPlan_X8 1 (by decide) fl_X8_findPlan_7 rfl dX8_findPlan_113 ?_
              refine fr_ic C dX8_findPlan_116 ?_
              refine lv_iload_n C.1 C.2.1 dX8_findPlan_117 rfl (lv_at hl 2 rfl) ?_
              refine fr_imul C dX8_findPlan_118 ?_
              refine lv_iload C.1 C.2.1 dX8_findPlan_119 (lv_at hl 5 rfl) ?_
              refine fr_iadd C dX8_findPlan_121 ?_
              obtain ⟨hb_71, hw⟩ := hw
              refine fr_iald C G 61 16 (hL _ (by omega)) rfl ⟨by decide, by decide⟩ hb_71 dX8_findPlan_122 ?_
              refine lv_aload_n C.1 C.2.1 dX8_findPlan_123 rfl (lv_at hl 1 rfl) ?_
              refine fr_get C G 60 (hL _ (by omega)) (cl_60 _) rfl iw_X8_findPlan_X8 14 (by decide) fl_X8_findPlan_48 rfl dX8_findPlan_124 ?_
              refine lv_iload C.1 C.2.1 dX8_findPlan_127 (lv_at hl 5 rfl) ?_
              obtain ⟨hb_72, hw⟩ := hw
              refine fr_iald C G 71 4 (hL _ (by omega)) rfl ⟨by decide, by decide⟩ hb_72 dX8_findPlan_129 ?_
              refine fr_isub C dX8_findPlan_130 ?_
              refine fr_iadd C dX8_findPlan_131 ?_
              refine fr_nm (fun v3_73 ev3_73 => ?_)
              have hw := hw v3_73 ev3_73
              refine lv_istore_n (lv' := [(3, .int (iI v3_73)), (4, .int (iI 0)), (0, .ref (ad 60)), (1, .int (iI a1)), (2, .int (iI v2_2)), (5, .int (iI v5_21))]) C.1 C.2.1 dX8_findPlan_132 rfl hl (by decide) rfl (fun ls hl => ?_)
              obtain ⟨v5_74, ev5_74⟩ : ∃ z : Int, z = v5_21 + 1 := ⟨_, rfl⟩
              have hw := hw v5_74 ev5_74
              refine lv_iinc (v := iI v5_74) (lv' := [(5, .int (iI v5_74)), (3, .int (iI v3_73)), (4, .int (iI 0)), (0, .ref (ad 60)), (1, .int (iI a1)), (2, .int (iI v2_2))]) C.1 C.2.1 dX8_findPlan_133 hl (k := 5) rfl (by rw [ev5_74]; exact iI_add _ _) (by decide) rfl (fun ls hl => ?_)
              refine lv_goto (tgt := 76) C.1 C.2.1 dX8_findPlan_136 (by decide) ?_
              exact ih76 v3_73 0 v5_74 x_68 _ _ _ hw G (lv_sub hl [3, 4, 5, 1, 2, 0] rfl)
            · have hw := if_n hw q_70
              refine fr_ic C dX8_findPlan_104 ?_
              refine lv_goto (tgt := 109) C.1 C.2.1 dX8_findPlan_105 (by decide) ?_
              refine lv_istore (lv' := [(4, .int (iI 1)), (0, .ref (ad 60)), (1, .int (iI a1)), (2, .int (iI v2_2)), (3, .int (iI v3_19)), (5, .int (iI v5_21))]) C.1 C.2.1 dX8_findPlan_109 hl (by decide) rfl (fun ls hl => ?_)
              refine lv_iload_n C.1 C.2.1 dX8_findPlan_111 rfl (lv_at hl 4 rfl) ?_
              refine lv_aload_n C.1 C.2.1 dX8_findPlan_112 rfl (lv_at hl 1 rfl) ?_
              refine fr_get C G 60 (hL _ (by omega)) (cl_60 _) rfl iw_X8_findPlan_X8 1 (by decide) fl_X8_findPlan_7 rfl dX8_findPlan_113 ?_
              refine fr_ic C dX8_findPlan_116 ?_
              refine lv_iload_n C.1 C.2.1 dX8_findPlan_117 rfl (lv_at hl 2 rfl) ?_
              refine fr_imul C dX8_findPlan_118 ?_
              refine lv_iload C.1 C.2.1 dX8_findPlan_119 (lv_at hl 5 rfl) ?_
              refine fr_iadd C dX8_findPlan_121 ?_
              obtain ⟨hb_75, hw⟩ := hw
              refine fr_iald C G 61 16 (hL _ (by omega)) rfl ⟨by decide, by decide⟩ hb_75 dX8_findPlan_122 ?_
              refine lv_aload_n C.1 C.2.1 dX8_findPlan_123 rfl (lv_at hl 1 rfl) ?_
              refine fr_get C G 60 (hL _ (by omega)) (cl_60 _) rfl iw_X8_findPlan_X8 14 (by decide) fl_X8_findPlan_48 rfl dX8_findPlan_124 ?_
              refine lv_iload C.1 C.2.1 dX8_findPlan_127 (lv_at hl 5 rfl) ?_
              obtain ⟨hb_76, hw⟩ := hw
              refine fr_iald C G 71 4 (hL _ (by omega)) rfl ⟨by decide, by decide⟩ hb_76 dX8_findPlan_129 ?_
              refine fr_isub C dX8_findPlan_130 ?_
              refine fr_iadd C dX8_findPlan_131 ?_
              refine fr_nm (fun v3_77 ev3_77 => ?_)
              have hw := hw v3_77 ev3_77
              refine lv_istore_n (lv' := [(3, .int (iI v3_77)), (4, .int (iI 1)), (0, .ref (ad 60)), (1, .int (iI a1)), (2, .int (iI v2_2)), (5, .int (iI v5_21))]) C.1 C.2.1 dX8_findPlan_132 rfl hl (by decide) rfl (fun ls hl => ?_)
              obtain ⟨v5_78, ev5_78⟩ : ∃ z : Int, z = v5_21 + 1 := ⟨_, rfl⟩
              have hw := hw v5_78 ev5_78
              refine lv_iinc (v := iI v5_78) (lv' := [(5, .int (iI v5_78)), (3, .int (iI v3_77)), (4, .int (iI 1)), (0, .ref (ad 60)), (1, .int (iI a1)), (2, .int (iI v2_2))]) C.1 C.2.1 dX8_findPlan_133 hl (k := 5) rfl (by rw [ev5_78]; exact iI_add _ _) (by decide) rfl (fun ls hl => ?_)
              refine lv_goto (tgt := 76) C.1 C.2.1 dX8_findPlan_136 (by decide) ?_
              exact ih76 v3_77 1 v5_78 x_68 _ _ _ hw G (lv_sub hl [3, 4, 5, 1, 2, 0] rfl)
      have hX76 : ∀ (v3_19 : Int) (v4_20 : Int) (v5_21 : Int) (x_22 : Mm) (H : Heap) (locs : List Loc) (ls : Array Slot), wX_X8_findPlan_76 v2_2 bk_9 v3_19 v4_20 v5_21 x_22 → fG D cy L ad (fAr L ad s.heap.size) s x_22 H locs → lv_has ls 6 [(0, .ref (ad 60)), (1, .int (iI a1)), (2, .int (iI v2_2)), (3, .int (iI v3_19)), (4, .int (iI v4_20)), (5, .int (iI v5_21))] → W p l e (headSpec wsX8_findPlan rm_X8_findPlan).room s m args below meth c H locs 0 0 (fQv below D cy L ad s args post) (F0 m 139 ls []) := by
        intro v3_19 v4_20 v5_21 x_22 H locs ls hw G hl
        refine lv_iload C.1 C.2.1 dX8_findPlan_139 (lv_at hl 4 rfl) ?_
        obtain ⟨hc_60, hw⟩ := hw
        refine fr_eq0 (tgt := 201) C dX8_findPlan_141 (by decide) hc_60 (fun q_23 => ?_) (fun q_23 => ?_)
        · have hw := if_p hw q_23
          obtain ⟨v2_24, ev2_24⟩ : ∃ z : Int, z = v2_2 + (-1) := ⟨_, rfl⟩
          have hw := hw v2_24 ev2_24
          refine lv_iinc (v := iI v2_24) (lv' := [(2, .int (iI v2_24)), (0, .ref (ad 60)), (1, .int (iI a1)), (3, .int (iI v3_19)), (4, .int (iI v4_20)), (5, .int (iI v5_21))]) C.1 C.2.1 dX8_findPlan_201 hl (k := 2) rfl (by rw [ev2_24]; exact iI_add _ _) (by decide) rfl (fun ls hl => ?_)
          refine lv_goto (tgt := 9) C.1 C.2.1 dX8_findPlan_204 (by decide) ?_
          exact ih9 v2_24 x_22 _ _ _ hw G (lv_sub hl [1, 2, 0] rfl)
        · have hw := if_n hw q_23
          refine lv_aload_n C.1 C.2.1 dX8_findPlan_144 rfl (lv_at hl 0 rfl) ?_
          refine fr_get C G 60 (hL _ (by omega)) (cl_60 _) rfl iw_X8_findPlan_X8 19 (by decide) fl_X8_findPlan_129 rfl dX8_findPlan_145 ?_
          refine fr_ic C dX8_findPlan_148 ?_
          obtain ⟨hc_59, hw⟩ := hw
          refine fr_eq (tgt := 160) C dX8_findPlan_149 (by decide) ⟨hc_59, ⟨by decide, by decide⟩⟩ (fun q_25 => ?_) (fun q_25 => ?_)
          · have hw := if_p hw q_25
            refine lv_aload_n C.1 C.2.1 dX8_findPlan_160 rfl (lv_at hl 0 rfl) ?_
            refine fr_Vi C G (c_X8_fits l D cy L ad _ hL x_22 _ hw) (cwV 0 C.2.2.2.2 gX8_findPlan_X8_fits rfl rfl rfl (by decide +kernel) ⟨Nat.le_of_ble_eq_true rfl, Nat.le_of_ble_eq_true rfl⟩) (G.recv (hL _ (by omega)) (cl_60 _) rfl) rfl hl.1 rfl (Nat.le_of_ble_eq_true rfl) dX8_findPlan_161 ⟨Nat.zero_le _, Nat.zero_le _⟩ (fun z_27 x_26 H locs hw G => ?_)
            obtain ⟨hc_40, hw⟩ := hw
            refine fr_eq0 (tgt := 201) C dX8_findPlan_164 (by decide) hc_40 (fun q_28 => ?_) (fun q_28 => ?_)
            · have hw := if_p hw q_28
              obtain ⟨v2_29, ev2_29⟩ : ∃ z : Int, z = v2_2 + (-1) := ⟨_, rfl⟩
              have hw := hw v2_29 ev2_29
              refine lv_iinc (v := iI v2_29) (lv' := [(2, .int (iI v2_29)), (0, .ref (ad 60)), (1, .int (iI a1)), (3, .int (iI v3_19)), (4, .int (iI v4_20)), (5, .int (iI v5_21))]) C.1 C.2.1 dX8_findPlan_201 hl (k := 2) rfl (by rw [ev2_29]; exact iI_add _ _) (by decide) rfl (fun ls hl => ?_)
              refine lv_goto (tgt := 9) C.1 C.2.1 dX8_findPlan_204 (by decide) ?_
              exact ih9 v2_29 x_26 _ _ _ hw G (lv_sub hl [1, 2, 0] rfl)
            · have hw := if_n hw q_28
              refine lv_aload_n C.1 C.2.1 dX8_findPlan_167 rfl (lv_at hl 0 rfl) ?_
              refine lv_iload_n C.1 C.2.1 dX8_findPlan_168 rfl (lv_at hl 3 rfl) ?_
              refine fr_put C G 60 (hL _ (by omega)) (cl_60 _) rfl iw_X8_findPlan_X8 tyX8_ok nmX8 19 (by decide) fl_X8_findPlan_129 rfl (by decide +kernel) (Nat.le_of_ble_eq_true rfl) (st_60_19 _ _) dX8_findPlan_169 (fun x_30 H locs ex_30 G => ?_)
              have hw := hw x_30 ex_30
              refine fr_ic C dX8_findPlan_172 ?_
              refine lv_istore (lv' := [(5, .int (iI 0)), (0, .ref (ad 60)), (1, .int (iI a1)), (2, .int (iI v2_2)), (3, .int (iI v3_19)), (4, .int (iI v4_20))]) C.1 C.2.1 dX8_findPlan_173 hl (by decide) rfl (fun ls hl => ?_)
              obtain ⟨n175, hw⟩ := hw
              have hS175 : ∀ (kx_175 bk_175 : Int → Mm → Prop), (∀ (v5_31 : Int) (x_32 : Mm) (H : Heap) (locs : List Loc) (ls : Array Slot), kx_175 v5_31 x_32 → fG D cy L ad (fAr L ad s.heap.size) s x_32 H locs → lv_has ls 6 [(0, .ref (ad 60)), (1, .int (iI a1)), (2, .int (iI v2_2)), (3, .int (iI v3_19)), (4, .int (iI v4_20)), (5, .int (iI v5_31))] → W p l e (headSpec wsX8_findPlan rm_X8_findPlan).room s m args below meth c H locs 0 0 (fQv below D cy L ad s args post) (F0 m 201 ls [])) → (∀ (v5_31 : Int) (x_32 : Mm) (H : Heap) (locs : List Loc) (ls : Array Slot), bk_175 v5_31 x_32 → fG D cy L ad (fAr L ad s.heap.size) s x_32 H locs → lv_has ls 6 [(0, .ref (ad 60)), (1, .int (iI a1)), (2, .int (iI v2_2)), (3, .int (iI v3_19)), (4, .int (iI v4_20)), (5, .int (iI v5_31))] → W p l e (headSpec wsX8_findPlan rm_X8_findPlan).room s m args below meth c H locs 0 0 (fQv below D cy L ad s args post) (F0 m 175 ls [])) → ∀ (v5_31 : Int) (x_32 : Mm) (H : Heap) (locs : List Loc) (ls : Array Slot), wB_X8_findPlan_175 kx_175 bk_175 v5_31 x_32 → fG D cy L ad (fAr L ad s.heap.size) s x_32 H locs → lv_has ls 6 [(0, .ref (ad 60)), (1, .int (iI a1)), (2, .int (iI v2_2)), (3, .int (iI v3_19)), (4, .int (iI v4_20)), (5, .int (iI v5_31))] → W p l e (headSpec wsX8_findPlan rm_X8_findPlan).room s m args below meth c H locs 0 0 (fQv below D cy L ad s args post) (F0 m 175 ls []) := by
                intro kx_175 bk_175 hX175 ih175 v5_31 x_32 H locs ls hw G hl
                refine lv_iload C.1 C.2.1 dX8_findPlan_175 (lv_at hl 5 rfl) ?_
                refine fr_ic C dX8_findPlan_177 ?_
                obtain ⟨hc_39, hw⟩ := hw
                refine fr_ge (tgt := 201) C dX8_findPlan_178 (by decide) ⟨hc_39, ⟨by decide, by decide⟩⟩ (fun q_34 => ?_) (fun q_34 => ?_)
                · have hw := if_p hw q_34
                  exact hX175 v5_31 x_32 _ _ _ hw G (lv_sub hl [0, 1, 2, 3, 4, 5] rfl)
                · have hw := if_n hw q_34
                  refine lv_aload_n C.1 C.2.1 dX8_findPlan_181 rfl (lv_at hl 0 rfl) ?_
                  refine fr_get C G 60 (hL _ (by omega)) (cl_60 _) rfl iw_X8_findPlan_X8 18 (by decide) fl_X8_findPlan_57 rfl dX8_findPlan_182 ?_
                  refine lv_iload C.1 C.2.1 dX8_findPlan_185 (lv_at hl 5 rfl) ?_
                  refine lv_aload_n C.1 C.2.1 dX8_findPlan_187 rfl (lv_at hl 0 rfl) ?_
                  refine fr_get C G 60 (hL _ (by omega)) (cl_60 _) rfl iw_X8_findPlan_X8 14 (by decide) fl_X8_findPlan_48 rfl dX8_findPlan_188 ?_
                  refine lv_iload C.1 C.2.1 dX8_findPlan_191 (lv_at hl 5 rfl) ?_
                  obtain ⟨hb_35, hw⟩ := hw
                  refine fr_iald C G 71 4 (hL _ (by omega)) rfl ⟨by decide, by decide⟩ hb_35 dX8_findPlan_193 ?_
                  obtain ⟨hb_36, hw⟩ := hw
                  refine fr_iast C G 74 4 (hL _ (by omega)) rfl ⟨by decide, by decide⟩ hb_36 dX8_findPlan_194 (fun x_37 H locs ex_37 G => ?_)
                  have hw := hw x_37 ex_37
                  obtain ⟨v5_38, ev5_38⟩ : ∃ z : Int, z = v5_31 + 1 := ⟨_, rfl⟩
                  have hw := hw v5_38 ev5_38
                  refine lv_iinc (v := iI v5_38) (lv' := [(5, .int (iI v5_38)), (0, .ref (ad 60)), (1, .int (iI a1)), (2, .int (iI v2_2)), (3, .int (iI v3_19)), (4, .int (iI v4_20))]) C.1 C.2.1 dX8_findPlan_195 hl (k := 5) rfl (by rw [ev5_38]; exact iI_add _ _) (by decide) rfl (fun ls hl => ?_)
                  refine lv_goto (tgt := 175) C.1 C.2.1 dX8_findPlan_198 (by decide) ?_
                  exact ih175 v5_38 x_37 _ _ _ hw G (lv_sub hl [1, 2, 3, 4, 5, 0] rfl)
              have hX175 : ∀ (v5_31 : Int) (x_32 : Mm) (H : Heap) (locs : List Loc) (ls : Array Slot), wX_X8_findPlan_175 v2_2 bk_9 v5_31 x_32 → fG D cy L ad (fAr L ad s.heap.size) s x_32 H locs → lv_has ls 6 [(0, .ref (ad 60)), (1, .int (iI a1)), (2, .int (iI v2_2)), (3, .int (iI v3_19)), (4, .int (iI v4_20)), (5, .int (iI v5_31))] → W p l e (headSpec wsX8_findPlan rm_X8_findPlan).room s m args below meth c H locs 0 0 (fQv below D cy L ad s args post) (F0 m 201 ls []) := by
                intro v5_31 x_32 H locs ls hw G hl
                obtain ⟨v2_33, ev2_33⟩ : ∃ z : Int, z = v2_2 + (-1) := ⟨_, rfl⟩
                have hw := hw v2_33 ev2_33
                refine lv_iinc (v := iI v2_33) (lv' := [(2, .int (iI v2_33)), (0, .ref (ad 60)), (1, .int (iI a1)), (3, .int (iI v3_19)), (4, .int (iI v4_20)), (5, .int (iI v5_31))]) C.1 C.2.1 dX8_findPlan_201 hl (k := 2) rfl (by rw [ev2_33]; exact iI_add _ _) (by decide) rfl (fun ls hl => ?_)
                refine lv_goto (tgt := 9) C.1 C.2.1 dX8_findPlan_204 (by decide) ?_
                exact ih9 v2_33 x_32 _ _ _ hw G (lv_sub hl [1, 2, 0] rfl)
              have hB175 : ∀ (n : Nat) (v5_31 : Int) (x_32 : Mm) (H : Heap) (locs : List Loc) (ls : Array Slot), lk2 (wB_X8_findPlan_175 (wX_X8_findPlan_175 v2_2 bk_9)) n v5_31 x_32 → fG D cy L ad (fAr L ad s.heap.size) s x_32 H locs → lv_has ls 6 [(0, .ref (ad 60)), (1, .int (iI a1)), (2, .int (iI v2_2)), (3, .int (iI v3_19)), (4, .int (iI v4_20)), (5, .int (iI v5_31))] → W p l e (headSpec wsX8_findPlan rm_X8_findPlan).room s m args below meth c H locs 0 0 (fQv below D cy L ad s args post) (F0 m 175 ls []) := by
                intro n
                induction n with
                | zero =>
                  intro v5_31 x_32 H locs ls hw
                  exact hw.elim
                | succ n ih =>
                  intro v5_31 x_32 H locs ls hw G hl
                  exact hS175 _ _ hX175 ih v5_31 x_32 H locs ls hw G hl
              exact hB175 n175 0 x_30 _ _ _ hw G (lv_sub hl [1, 2, 3, 4, 5, 0] rfl)
          · have hw := if_n hw q_25
            refine lv_iload_n C.1 C.2.1 dX8_findPlan_152 rfl (lv_at hl 3 rfl) ?_
            refine lv_aload_n C.1 C.2.1 dX8_findPlan_153 rfl (lv_at hl 0 rfl) ?_
            refine fr_get C G 60 (hL _ (by omega)) (cl_60 _) rfl iw_X8_findPlan_X8 19 (by decide) fl_X8_findPlan_129 rfl dX8_findPlan_154 ?_
            obtain ⟨hc_58, hw⟩ := hw
            refine fr_ge (tgt := 201) C dX8_findPlan_157 (by decide) hc_58 (fun q_41 => ?_) (fun q_41 => ?_)
            · have hw := if_p hw q_41
              obtain ⟨v2_42, ev2_42⟩ : ∃ z : Int, z = v2_2 + (-1) := ⟨_, rfl⟩
              have hw := hw v2_42 ev2_42
              refine lv_iinc (v := iI v2_42) (lv' := [(2, .int (iI v2_42)), (0, .ref (ad 60)), (1, .int (iI a1)), (3, .int (iI v3_19)), (4, .int (iI v4_20)), (5, .int (iI v5_21))]) C.1 C.2.1 dX8_findPlan_201 hl (k := 2) rfl (by rw [ev2_42]; exact iI_add _ _) (by decide) rfl (fun ls hl => ?_)
              refine lv_goto (tgt := 9) C.1 C.2.1 dX8_findPlan_204 (by decide) ?_
              exact ih9 v2_42 x_22 _ _ _ hw G (lv_sub hl [1, 2, 0] rfl)
            · have hw := if_n hw q_41
              refine lv_aload_n C.1 C.2.1 dX8_findPlan_160 rfl (lv_at hl 0 rfl) ?_
              refine fr_Vi C G (c_X8_fits l D cy L ad _ hL x_22 _ hw) (cwV 0 C.2.2.2.2 gX8_findPlan_X8_fits rfl rfl rfl (by decide +kernel) ⟨Nat.le_of_ble_eq_true rfl, Nat.le_of_ble_eq_true rfl⟩) (G.recv (hL _ (by omega)) (cl_60 _) rfl) rfl hl.1 rfl (Nat.le_of_ble_eq_true rfl) dX8_findPlan_161 ⟨Nat.zero_le _, Nat.zero_le _⟩ (fun z_44 x_43 H locs hw G => ?_)
              obtain ⟨hc_57, hw⟩ := hw
              refine fr_eq0 (tgt := 201) C dX8_findPlan_164 (by decide) hc_57 (fun q_45 => ?_) (fun q_45 => ?_)
              · have hw := if_p hw q_45
                obtain ⟨v2_46, ev2_46⟩ : ∃ z : Int, z = v2_2 + (-1) := ⟨_, rfl⟩
                have hw := hw v2_46 ev2_46
                refine lv_iinc (v := iI v2_46) (lv' := [(2, .int (iI v2_46)), (0, .ref (ad 60)), (1, .int (iI a1)), (3, .int (iI v3_19)), (4, .int (iI v4_20)), (5, .int (iI v5_21))]) C.1 C.2.1 dX8_findPlan_201 hl (k := 2) rfl (by rw [ev2_46]; exact iI_add _ _) (by decide) rfl (fun ls hl => ?_)
                refine lv_goto (tgt := 9) C.1 C.2.1 dX8_findPlan_204 (by decide) ?_
                exact ih9 v2_46 x_43 _ _ _ hw G (lv_sub hl [1, 2, 0] rfl)
              · have hw := if_n hw q_45
                refine lv_aload_n C.1 C.2.1 dX8_findPlan_167 rfl (lv_at hl 0 rfl) ?_
                refine lv_iload_n C.1 C.2.1 dX8_findPlan_168 rfl (lv_at hl 3 rfl) ?_
                refine fr_put C G 60 (hL _ (by omega)) (cl_60 _) rfl iw_X8_findPlan_X8 tyX8_ok nmX8 19 (by decide) fl_X8_findPlan_129 rfl (by decide +kernel) (Nat.le_of_ble_eq_true rfl) (st_60_19 _ _) dX8_findPlan_169 (fun x_47 H locs ex_47 G => ?_)
                have hw := hw x_47 ex_47
                refine fr_ic C dX8_findPlan_172 ?_
                refine lv_istore (lv' := [(5, .int (iI 0)), (0, .ref (ad 60)), (1, .int (iI a1)), (2, .int (iI v2_2)), (3, .int (iI v3_19)), (4, .int (iI v4_20))]) C.1 C.2.1 dX8_findPlan_173 hl (by decide) rfl (fun ls hl => ?_)
                obtain ⟨n175, hw⟩ := hw
                have hS175 : ∀ (kx_175 bk_175 : Int → Mm → Prop), (∀ (v5_48 : Int) (x_49 : Mm) (H : Heap) (locs : List Loc) (ls : Array Slot), kx_175 v5_48 x_49 → fG D cy L ad (fAr L ad s.heap.size) s x_49 H locs → lv_has ls 6 [(0, .ref (ad 60)), (1, .int (iI a1)), (2, .int (iI v2_2)), (3, .int (iI v3_19)), (4, .int (iI v4_20)), (5, .int (iI v5_48))] → W p l e (headSpec wsX8_findPlan rm_X8_findPlan).room s m args below meth c H locs 0 0 (fQv below D cy L ad s args post) (F0 m 201 ls [])) → (∀ (v5_48 : Int) (x_49 : Mm) (H : Heap) (locs : List Loc) (ls : Array Slot), bk_175 v5_48 x_49 → fG D cy L ad (fAr L ad s.heap.size) s x_49 H locs → lv_has ls 6 [(0, .ref (ad 60)), (1, .int (iI a1)), (2, .int (iI v2_2)), (3, .int (iI v3_19)), (4, .int (iI v4_20)), (5, .int (iI v5_48))] → W p l e (headSpec wsX8_findPlan rm_X8_findPlan).room s m args below meth c H locs 0 0 (fQv below D cy L ad s args post) (F0 m 175 ls [])) → ∀ (v5_48 : Int) (x_49 : Mm) (H : Heap) (locs : List Loc) (ls : Array Slot), wB_X8_findPlan_175 kx_175 bk_175 v5_48 x_49 → fG D cy L ad (fAr L ad s.heap.size) s x_49 H locs → lv_has ls 6 [(0, .ref (ad 60)), (1, .int (iI a1)), (2, .int (iI v2_2)), (3, .int (iI v3_19)), (4, .int (iI v4_20)), (5, .int (iI v5_48))] → W p l e (headSpec wsX8_findPlan rm_X8_findPlan).room s m args below meth c H locs 0 0 (fQv below D cy L ad s args post) (F0 m 175 ls []) := by
                  intro kx_175 bk_175 hX175 ih175 v5_48 x_49 H locs ls hw G hl
                  refine lv_iload C.1 C.2.1 dX8_findPlan_175 (lv_at hl 5 rfl) ?_
                  refine fr_ic C dX8_findPlan_177 ?_
                  obtain ⟨hc_56, hw⟩ := hw
                  refine fr_ge (tgt := 201) C dX8_findPlan_178 (by decide) ⟨hc_56, ⟨by decide, by decide⟩⟩ (fun q_51 => ?_) (fun q_51 => ?_)
                  · have hw := if_p hw q_51
                    exact hX175 v5_48 x_49 _ _ _ hw G (lv_sub hl [0, 1, 2, 3, 4, 5] rfl)
                  · have hw := if_n hw q_51
                    refine lv_aload_n C.1 C.2.1 dX8_findPlan_181 rfl (lv_at hl 0 rfl) ?_
                    refine fr_get C G 60 (hL _ (by omega)) (cl_60 _) rfl iw_X8_findPlan_X8 18 (by decide) fl_X8_findPlan_57 rfl dX8_findPlan_182 ?_
                    refine lv_iload C.1 C.2.1 dX8_findPlan_185 (lv_at hl 5 rfl) ?_
                    refine lv_aload_n C.1 C.2.1 dX8_findPlan_187 rfl (lv_at hl 0 rfl) ?_
                    refine fr_get C G 60 (hL _ (by omega)) (cl_60 _) rfl iw_X8_findPlan_X8 14 (by decide) fl_X8_findPlan_48 rfl dX8_findPlan_188 ?_
                    refine lv_iload C.1 C.2.1 dX8_findPlan_191 (lv_at hl 5 rfl) ?_
                    obtain ⟨hb_52, hw⟩ := hw
                    refine fr_iald C G 71 4 (hL _ (by omega)) rfl ⟨by decide, by decide⟩ hb_52 dX8_findPlan_193 ?_
                    obtain ⟨hb_53, hw⟩ := hw
                    refine fr_iast C G 74 4 (hL _ (by omega)) rfl ⟨by decide, by decide⟩ hb_53 dX8_findPlan_194 (fun x_54 H locs ex_54 G => ?_)
                    have hw := hw x_54 ex_54
                    obtain ⟨v5_55, ev5_55⟩ : ∃ z : Int, z = v5_48 + 1 := ⟨_, rfl⟩
                    have hw := hw v5_55 ev5_55
                    refine lv_iinc (v := iI v5_55) (lv' := [(5, .int (iI v5_55)), (0, .ref (ad 60)), (1, .int (iI a1)), (2, .int (iI v2_2)), (3, .int (iI v3_19)), (4, .int (iI v4_20))]) C.1 C.2.1 dX8_findPlan_195 hl (k := 5) rfl (by rw [ev5_55]; exact iI_add _ _) (by decide) rfl (fun ls hl => ?_)
                    refine lv_goto (tgt := 175) C.1 C.2.1 dX8_findPlan_198 (by decide) ?_
                    exact ih175 v5_55 x_54 _ _ _ hw G (lv_sub hl [1, 2, 3, 4, 5, 0] rfl)
                have hX175 : ∀ (v5_48 : Int) (x_49 : Mm) (H : Heap) (locs : List Loc) (ls : Array Slot), wX_X8_findPlan_175 v2_2 bk_9 v5_48 x_49 → fG D cy L ad (fAr L ad s.heap.size) s x_49 H locs → lv_has ls 6 [(0, .ref (ad 60)), (1, .int (iI a1)), (2, .int (iI v2_2)), (3, .int (iI v3_19)), (4, .int (iI v4_20)), (5, .int (iI v5_48))] → W p l e (headSpec wsX8_findPlan rm_X8_findPlan).room s m args below meth c H locs 0 0 (fQv below D cy L ad s args post) (F0 m 201 ls []) := by
                  intro v5_48 x_49 H locs ls hw G hl
                  obtain ⟨v2_50, ev2_50⟩ : ∃ z : Int, z = v2_2 + (-1) := ⟨_, rfl⟩
                  have hw := hw v2_50 ev2_50
                  refine lv_iinc (v := iI v2_50) (lv' := [(2, .int (iI v2_50)), (0, .ref (ad 60)), (1, .int (iI a1)), (3, .int (iI v3_19)), (4, .int (iI v4_20)), (5, .int (iI v5_48))]) C.1 C.2.1 dX8_findPlan_201 hl (k := 2) rfl (by rw [ev2_50]; exact iI_add _ _) (by decide) rfl (fun ls hl => ?_)
                  refine lv_goto (tgt := 9) C.1 C.2.1 dX8_findPlan_204 (by decide) ?_
                  exact ih9 v2_50 x_49 _ _ _ hw G (lv_sub hl [1, 2, 0] rfl)
                have hB175 : ∀ (n : Nat) (v5_48 : Int) (x_49 : Mm) (H : Heap) (locs : List Loc) (ls : Array Slot), lk2 (wB_X8_findPlan_175 (wX_X8_findPlan_175 v2_2 bk_9)) n v5_48 x_49 → fG D cy L ad (fAr L ad s.heap.size) s x_49 H locs → lv_has ls 6 [(0, .ref (ad 60)), (1, .int (iI a1)), (2, .int (iI v2_2)), (3, .int (iI v3_19)), (4, .int (iI v4_20)), (5, .int (iI v5_48))] → W p l e (headSpec wsX8_findPlan rm_X8_findPlan).room s m args below meth c H locs 0 0 (fQv below D cy L ad s args post) (F0 m 175 ls []) := by
                  intro n
                  induction n with
                  | zero =>
                    intro v5_48 x_49 H locs ls hw
                    exact hw.elim
                  | succ n ih =>
                    intro v5_48 x_49 H locs ls hw G hl
                    exact hS175 _ _ hX175 ih v5_48 x_49 H locs ls hw G hl
                exact hB175 n175 0 x_47 _ _ _ hw G (lv_sub hl [1, 2, 3, 4, 5, 0] rfl)
      have hB76 : ∀ (n : Nat) (v3_19 : Int) (v4_20 : Int) (v5_21 : Int) (x_22 : Mm) (H : Heap) (locs : List Loc) (ls : Array Slot), lk4 (wB_X8_findPlan_76 a1 (wX_X8_findPlan_76 v2_2 bk_9)) n v3_19 v4_20 v5_21 x_22 → fG D cy L ad (fAr L ad s.heap.size) s x_22 H locs → lv_has ls 6 [(0, .ref (ad 60)), (1, .int (iI a1)), (2, .int (iI v2_2)), (3, .int (iI v3_19)), (4, .int (iI v4_20)), (5, .int (iI v5_21))] → W p l e (headSpec wsX8_findPlan rm_X8_findPlan).room s m args below meth c H locs 0 0 (fQv below D cy L ad s args post) (F0 m 76 ls []) := by
        intro n
        induction n with
        | zero =>
          intro v3_19 v4_20 v5_21 x_22 H locs ls hw
          exact hw.elim
        | succ n ih =>
          intro v3_19 v4_20 v5_21 x_22 H locs ls hw G hl
          exact hS76 _ _ hX76 ih v3_19 v4_20 v5_21 x_22 H locs ls hw G hl
      exact hB76 n76 0 1 0 x_18 _ _ _ hw G (lv_sub hl [3, 4, 5, 2, 1, 0] rfl)
  have hX9 : ∀ (v2_2 : Int) (x_3 : Mm) (H : Heap) (locs : List Loc) (ls : Array Slot), wX_X8_findPlan_9 post v2_2 x_3 → fG D cy L ad (fAr L ad s.heap.size) s x_3 H locs → lv_has ls 6 [(0, .ref (ad 60)), (1, .int (iI a1)), (2, .int (iI v2_2))] → W p l e (headSpec wsX8_findPlan rm_X8_findPlan).room s m args below meth c H locs 0 0 (fQv below D cy L ad s args post) (F0 m 207 ls []) := by
    intro v2_2 x_3 H locs ls hw G hl
    exact fr_vret C G hr hlk hw dX8_findPlan_207
  have hB9 : ∀ (n : Nat) (v2_2 : Int) (x_3 : Mm) (H : Heap) (locs : List Loc) (ls : Array Slot), lk2 (wB_X8_findPlan_9 a1 (wX_X8_findPlan_9 post)) n v2_2 x_3 → fG D cy L ad (fAr L ad s.heap.size) s x_3 H locs → lv_has ls 6 [(0, .ref (ad 60)), (1, .int (iI a1)), (2, .int (iI v2_2))] → W p l e (headSpec wsX8_findPlan rm_X8_findPlan).room s m args below meth c H locs 0 0 (fQv below D cy L ad s args post) (F0 m 9 ls []) := by
    intro n
    induction n with
    | zero =>
      intro v2_2 x_3 H locs ls hw
      exact hw.elim
    | succ n ih =>
      intro v2_2 x_3 H locs ls hw G hl
      exact hS9 _ _ hX9 ih v2_2 x_3 H locs ls hw G hl
  exact hB9 n9 6560 x_1 _ _ _ hw G (lv_sub hl [1, 2, 0] rfl)
