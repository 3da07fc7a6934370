def wX_X3_search_55 (post : Mm → Prop) (v6_5 : Int) (x_6 : Mm) : Prop :=
  post x_6
def wB_X3_search_55 (c1 : Nat) (v5_1 : Int) (kx_55 bk_55 : Int → Mm → Prop) (v6_5 : Int) (x_6 : Mm) : Prop :=
  (rg v6_5 ∧ rg v5_1) ∧ (if v5_1 < v6_5 then (kx_55 v6_5 x_6) else (rg (x_6 12 3) ∧ (if (x_6 12 3) = (-1) then (w_X3_foundOf c1 v6_5 x_6 (fun z_10 x_9 => rg z_10 ∧ (if z_10 = 0 then (∀ v6_12 : Int, v6_12 = v6_5 + 1 → bk_55 v6_12 x_9) else (∀ x_13 : Mm, x_13 = up2 x_9 12 3 v6_5 → ∀ v6_14 : Int, v6_14 = v6_5 + 1 → bk_55 v6_14 x_13)))) else (kx_55 v6_5 x_6))))
def wX_X3_search_6 (c1 : Nat) (post : Mm → Prop) (v5_1 : Int) (v6_2 : Int) (x_3 : Mm) : Prop :=
  ∀ x_4 : Mm, x_4 = up2 x_3 12 3 (-1) → ∃ n : Nat, lk2 (wB_X3_search_55 c1 v5_1 (wX_X3_search_55 post)) n 0 x_4
def wB_X3_search_6 (c1 : Nat) (a1 : Int) (kx_6 bk_6 : Int → Int → Mm → Prop) (v5_1 : Int) (v6_2 : Int) (x_3 : Mm) : Prop :=
  rg v6_2 ∧ (if 4 ≤ v6_2 then (kx_6 v5_1 v6_2 x_3) else ((0 ≤ v6_2 ∧ v6_2 < 4) ∧ rg ((x_3 c1 (v6_2).toNat) - a1) ∧ (0 ≤ v6_2 ∧ v6_2 < 4) ∧ (∀ x_22 : Mm, x_22 = up2 x_3 14 (v6_2).toNat (max 0 ((x_3 c1 (v6_2).toNat) - a1)) → (0 ≤ v6_2 ∧ v6_2 < 4) ∧ ∀ v5_24 : Int, v5_24 = v5_1 + (x_22 14 (v6_2).toNat) → ∀ v6_25 : Int, v6_25 = v6_2 + 1 → bk_6 v5_24 v6_25 x_22)))
def w_X3_search (c1 : Nat) (a1 : Int) (x : Mm) (post : Mm → Prop) : Prop :=
  ∃ n : Nat, lk3 (wB_X3_search_6 c1 a1 (wX_X3_search_6 c1 post)) n 0 0 x
abbrev rm_X3_search : Room := { frames := 4, cells := 0, slots := 0, locals := 114 }
theorem iw_X3_search_X3 : ∀ w ∈ u_ws RX3 TX3 5, w ∈ wsX3_search := by decide +kernel
theorem fl_X3_search_21 : Cond.fieldLink RX3 21 (TX3 3).1 (TX3 3).2.1 (TX3 3).2.2.1 ∈ wsX3_search := by decide +kernel
theorem fl_X3_search_15 : Cond.fieldLink RX3 15 (TX3 1).1 (TX3 1).2.1 (TX3 1).2.2.1 ∈ wsX3_search := by decide +kernel
theorem mw_X3_search_28_0 : Cond.methodLink RX3 28 Lib.Math.max.name ∈ wsX3_search := by decide +kernel
theorem mw_X3_search_28_1 : Cond.static Lib.Math.max.name ∈ wsX3_search := by decide +kernel
theorem mw_X3_search_28_2 : Cond.initialized "java/lang/Math" ∈ wsX3_search := by decide +kernel
theorem mw_X3_search_28_3 : Cond.code Lib.Math.max.name Lib.Math.max.code 2 (some .int) ∈ wsX3_search := by decide +kernel
set_option maxHeartbeats 4000000 in
set_option maxRecDepth 100000 in
theorem c_X3_search (l : Launch) (D : va_G) (cy : Nat → ClassId) (L : List Nat) (ad : Nat → Nat) (sz : Nat) (hL : fLA L) (c1 : Nat) (hc1 : c1 ∈ L) (hlc1 : al c1 = 4) (a1 : Int) (x : Mm) (post : Mm → Prop) (hw : w_X3_search c1 a1 x post) : fMv l yX3_search wsX3_search rm_X3_search [.ref (ad 12), .ref (ad c1), .int (iI a1), .ref (ad 2), .ref (ad 8)] D cy L ad sz x post := by
  refine Met.ofW (cc := cX3_search) (maxL := 7) (ret := none) (by decide) rfl ?_
  intro p e s m args below meth c s₁ B hml hv
  obtain ⟨hargs, hp⟩ := hv
  obtain ⟨C, hr, hlk, hsz, G⟩ := fr_start B hml hp
  subst hsz
  obtain ⟨ls, els, hl⟩ := fr_entry (m := m) (n := 7) hargs (Nat.le_of_ble_eq_true rfl)
  rw [els]
  have hl : lv_has ls 7 [(0, .ref (ad 12)), (1, .ref (ad c1)), (2, .int (iI a1)), (3, .ref (ad 2)), (4, .ref (ad 8))] := hl
  clear els hargs hp B
  refine fr_ic C dX3_search_0 ?_
  refine lv_istore (lv' := [(5, .int (iI 0)), (0, .ref (ad 12)), (1, .ref (ad c1)), (2, .int (iI a1)), (3, .ref (ad 2)), (4, .ref (ad 8))]) C.1 C.2.1 dX3_search_1 hl (by decide) rfl (fun ls hl => ?_)
  refine fr_ic C dX3_search_3 ?_
  refine lv_istore (lv' := [(6, .int (iI 0)), (5, .int (iI 0)), (0, .ref (ad 12)), (1, .ref (ad c1)), (2, .int (iI a1)), (3, .ref (ad 2)), (4, .ref (ad 8))]) C.1 C.2.1 dX3_search_4 hl (by decide) rfl (fun ls hl => ?_)
  obtain ⟨n6, hw⟩ := hw
  have hS6 : ∀ (kx_6 bk_6 : Int → Int → Mm → Prop), (∀ (v5_1 : Int) (v6_2 : Int) (x_3 : Mm) (H : Heap) (locs : List Loc) (ls : Array Slot), kx_6 v5_1 v6_2 x_3 → fG D cy L ad (fAr L ad s.heap.size) s x_3 H locs → lv_has ls 7 [(0, .ref (ad 12)), (1, .ref (ad c1)), (2, .int (iI a1)), (3, .ref (ad 2)), (4, .ref (ad 8)), (5, .int (iI v5_1)), (6, .int (iI v6_2))] → W p l e (headSpec wsX3_search rm_X3_search).room s m args below meth c H locs 0 0 (fQv below D cy L ad s args post) (F0 m 47 ls [])) → (∀ (v5_1 : Int) (v6_2 : Int) (x_3 : Mm) (H : Heap) (locs : List Loc) (ls : Array Slot), bk_6 v5_1 v6_2 x_3 → fG D cy L ad (fAr L ad s.heap.size) s x_3 H locs → lv_has ls 7 [(0, .ref (ad 12)), (1, .ref (ad c1)), (2, .int (iI a1)), (3, .ref (ad 2)), (4, .ref (ad 8)), (5, .int (iI v5_1)), (6, .int (iI v6_2))] → W p l e (headSpec wsX3_search rm_X3_search).room s m args below meth c H locs 0 0 (fQv below D cy L ad s args post) (F0 m 6 ls [])) → ∀ (v5_1 : Int) (v6_2 : Int) (x_3 : Mm) (H : Heap) (locs : List Loc) (ls : Array Slot), wB_X3_search_6 c1 a1 kx_6 bk_6 v5_1 v6_2 x_3 → fG D cy L ad (fAr L ad s.heap.size) s x_3 H locs → lv_has ls 7 [(0, .ref (ad 12)), (1, .ref (ad c1)), (2, .int (iI a1)), (3, .ref (ad 2)), (4, .ref (ad 8)), (5, .int (iI v5_1)), (6, .int (iI v6_2))] → W p l e (headSpec wsX3_search rm_X3_search).room s m args below meth c H locs 0 0 (fQv below D cy L ad s args post) (F0 m 6 ls []) := by
    intro kx_6 bk_6 hX6 ih6 v5_1 v6_2 x_3 H locs ls hw G hl
    refine lv_iload C.1 C.2.1 dX3_search_6 (lv_at hl 6 rfl) ?_
    refine fr_ic C dX3_search_8 ?_
    obtain ⟨hc_26, hw⟩ := hw
    refine fr_ge (tgt := 47) C dX3_search_9 (by decide) ⟨hc_26, ⟨by decide, by decide⟩⟩ (fun q_18 => ?_) (fun q_18 => ?_)
    · have hw := if_p hw q_18
      exact hX6 v5_1 v6_2 x_3 _ _ _ hw G (lv_sub hl [0, 1, 2, 3, 4, 5, 6] rfl)
    · have hw := if_n hw q_18
      refine lv_aload_n C.1 C.2.1 dX3_search_12 rfl (lv_at hl 0 rfl) ?_
      refine fr_get C G 12 (hL _ (by omega)) (cl_12 _) rfl iw_X3_search_X3 1 (by decide) fl_X3_search_15 rfl dX3_search_13 ?_
      refine lv_iload C.1 C.2.1 dX3_search_16 (lv_at hl 6 rfl) ?_
      refine fr_ic C dX3_search_18 ?_
      refine lv_aload_n C.1 C.2.1 dX3_search_19 rfl (lv_at hl 1 rfl) ?_
      refine lv_iload C.1 C.2.1 dX3_search_20 (lv_at hl 6 rfl) ?_
      obtain ⟨hb_19, hw⟩ := hw
      refine fr_iald C G c1 4 hc1 hlc1 ⟨by decide, by decide⟩ hb_19 dX3_search_22 ?_
      refine lv_iload_n C.1 C.2.1 dX3_search_23 rfl (lv_at hl 2 rfl) ?_
      refine fr_isub C dX3_search_24 ?_
      obtain ⟨hm_20, hw⟩ := hw
      refine fr_mmax C hl.1 mw_X3_search_28_0 mw_X3_search_28_1 mw_X3_search_28_2 mw_X3_search_28_3 (by decide) (Nat.le_of_ble_eq_true rfl) (Nat.zero_le _) (Nat.zero_le _) ⟨⟨by decide, by decide⟩, hm_20⟩ dX3_search_25 ?_
      obtain ⟨hb_21, hw⟩ := hw
      refine fr_iast C G 14 4 (hL _ (by omega)) rfl ⟨by decide, by decide⟩ hb_21 dX3_search_28 (fun x_22 H locs ex_22 G => ?_)
      have hw := hw x_22 ex_22
      refine lv_iload C.1 C.2.1 dX3_search_29 (lv_at hl 5 rfl) ?_
      refine lv_aload_n C.1 C.2.1 dX3_search_31 rfl (lv_at hl 0 rfl) ?_
      refine fr_get C G 12 (hL _ (by omega)) (cl_12 _) rfl iw_X3_search_X3 1 (by decide) fl_X3_search_15 rfl dX3_search_32 ?_
      refine lv_iload C.1 C.2.1 dX3_search_35 (lv_at hl 6 rfl) ?_
      obtain ⟨hb_23, hw⟩ := hw
      refine fr_iald C G 14 4 (hL _ (by omega)) rfl ⟨by decide, by decide⟩ hb_23 dX3_search_37 ?_
      refine fr_iadd C dX3_search_38 ?_
      refine fr_nm (fun v5_24 ev5_24 => ?_)
      have hw := hw v5_24 ev5_24
      refine lv_istore (lv' := [(5, .int (iI v5_24)), (0, .ref (ad 12)), (1, .ref (ad c1)), (2, .int (iI a1)), (3, .ref (ad 2)), (4, .ref (ad 8)), (6, .int (iI v6_2))]) C.1 C.2.1 dX3_search_39 hl (by decide) rfl (fun ls hl => ?_)
      obtain ⟨v6_25, ev6_25⟩ : ∃ z : Int, z = v6_2 + 1 := ⟨_, rfl⟩
      have hw := hw v6_25 ev6_25
      refine lv_iinc (v := iI v6_25) (lv' := [(6, .int (iI v6_25)), (5, .int (iI v5_24)), (0, .ref (ad 12)), (1, .ref (ad c1)), (2, .int (iI a1)), (3, .ref (ad 2)), (4, .ref (ad 8))]) C.1 C.2.1 dX3_search_41 hl (k := 6) rfl (by rw [ev6_25]; exact iI_add _ _) (by decide) rfl (fun ls hl => ?_)
      refine lv_goto (tgt := 6) C.1 C.2.1 dX3_search_44 (by decide) ?_
      exact ih6 v5_24 v6_25 x_22 _ _ _ hw G (lv_sub hl [2, 3, 4, 5, 6, 1, 0] rfl)
  have hX6 : ∀ (v5_1 : Int) (v6_2 : Int) (x_3 : Mm) (H : Heap) (locs : List Loc) (ls : Array Slot), wX_X3_search_6 c1 post v5_1 v6_2 x_3 → fG D cy L ad (fAr L ad s.heap.size) s x_3 H locs → lv_has ls 7 [(0, .ref (ad 12)), (1, .ref (ad c1)), (2, .int (iI a1)), (3, .ref (ad 2)), (4, .ref (ad 8)), (5, .int (iI v5_1)), (6, .int (iI v6_2))] → W p l e (headSpec wsX3_search rm_X3_search).room s m args below meth c H locs 0 0 (fQv below D cy L ad s args post) (F0 m 47 ls []) := by
    intro v5_1 v6_2 x_3 H locs ls hw G hl
    refine lv_aload_n C.1 C.2.1 dX3_search_47 rfl (lv_at hl 0 rfl) ?_
    refine fr_ic C dX3_search_48 ?_
    refine fr_put C G 12 (hL _ (by omega)) (cl_12 _) rfl iw_X3_search_X3 tyX3_ok nmX3 3 (by decide) fl_X3_search_21 rfl (by decide +kernel) (Nat.le_of_ble_eq_true rfl) (st_12_3 _ _) dX3_search_49 (fun x_4 H locs ex_4 G => ?_)
    have hw := hw x_4 ex_4
    refine fr_ic C dX3_search_52 ?_
    refine lv_istore (lv' := [(6, .int (iI 0)), (0, .ref (ad 12)), (1, .ref (ad c1)), (2, .int (iI a1)), (3, .ref (ad 2)), (4, .ref (ad 8)), (5, .int (iI v5_1))]) C.1 C.2.1 dX3_search_53 hl (by decide) rfl (fun ls hl => ?_)
    obtain ⟨n55, hw⟩ := hw
    have hS55 : ∀ (kx_55 bk_55 : Int → Mm → Prop), (∀ (v6_5 : Int) (x_6 : Mm) (H : Heap) (locs : List Loc) (ls : Array Slot), kx_55 v6_5 x_6 → fG D cy L ad (fAr L ad s.heap.size) s x_6 H locs → lv_has ls 7 [(0, .ref (ad 12)), (1, .ref (ad c1)), (2, .int (iI a1)), (3, .ref (ad 2)), (4, .ref (ad 8)), (5, .int (iI v5_1)), (6, .int (iI v6_5))] → W p l e (headSpec wsX3_search rm_X3_search).room s m args below meth c H locs 0 0 (fQv below D cy L ad s args post) (F0 m 95 ls [])) → (∀ (v6_5 : Int) (x_6 : Mm) (H : Heap) (locs : List Loc) (ls : Array Slot), bk_55 v6_5 x_6 → fG D cy L ad (fAr L ad s.heap.size) s x_6 H locs → lv_has ls 7 [(0, .ref (ad 12)), (1, .ref (ad c1)), (2, .int (iI a1)), (3, .ref (ad 2)), (4, .ref (ad 8)), (5, .int (iI v5_1)), (6, .int (iI v6_5))] → W p l e (headSpec wsX3_search rm_X3_search).room s m args below meth c H locs 0 0 (fQv below D cy L ad s args post) (F0 m 55 ls [])) → ∀ (v6_5 : Int) (x_6 : Mm) (H : Heap) (locs : List Loc) (ls : Array Slot), wB_X3_search_55 c1 v5_1 kx_55 bk_55 v6_5 x_6 → fG D cy L ad (fAr L ad s.heap.size) s x_6 H locs → lv_has ls 7 [(0, .ref (ad 12)), (1, .ref (ad c1)), (2, .int (iI a1)), (3, .ref (ad 2)), (4, .ref (ad 8)), (5, .int (iI v5_1)), (6, .int (iI v6_5))] → W p l e (headSpec wsX3_search rm_X3_search).room s m args below meth c H locs 0 0 (fQv below D cy L ad s args post) (F0 m 55 ls []) := by
      intro kx_55 bk_55 hX55 ih55 v6_5 x_6 H locs ls hw G hl
      refine lv_iload C.1 C.2.1 dX3_search_55 (lv_at hl 6 rfl) ?_
      refine lv_iload C.1 C.2.1 dX3_search_57 (lv_at hl 5 rfl) ?_
      obtain ⟨hc_17, hw⟩ := hw
      refine fr_gt (tgt := 95) C dX3_search_59 (by decide) hc_17 (fun q_7 => ?_) (fun q_7 => ?_)
      · have hw := if_p hw q_7
        exact hX55 v6_5 x_6 _ _ _ hw G (lv_sub hl [0, 1, 2, 3, 4, 5, 6] rfl)
      · have hw := if_n hw q_7
        refine lv_aload_n C.1 C.2.1 dX3_search_62 rfl (lv_at hl 0 rfl) ?_
        refine fr_get C G 12 (hL _ (by omega)) (cl_12 _) rfl iw_X3_search_X3 3 (by decide) fl_X3_search_21 rfl dX3_search_63 ?_
        refine fr_ic C dX3_search_66 ?_
        obtain ⟨hc_16, hw⟩ := hw
        refine fr_ne (tgt := 95) C dX3_search_67 (by decide) ⟨hc_16, ⟨by decide, by decide⟩⟩ (fun q_8 => ?_) (fun q_8 => ?_)
        · have hw := if_p hw q_8
          refine lv_aload_n C.1 C.2.1 dX3_search_70 rfl (lv_at hl 0 rfl) ?_
          refine lv_iload C.1 C.2.1 dX3_search_71 (lv_at hl 6 rfl) ?_
          refine lv_aload_n C.1 C.2.1 dX3_search_73 rfl (lv_at hl 1 rfl) ?_
          refine lv_aload_n C.1 C.2.1 dX3_search_74 rfl (lv_at hl 3 rfl) ?_
          refine lv_aload C.1 C.2.1 dX3_search_75 (lv_at hl 4 rfl) ?_
          refine fr_Vi C G (c_X3_foundOf l D cy L ad _ hL c1 hc1 hlc1 v6_5 x_6 _ hw) (cwV 4 C.2.2.2.2 gX3_search_X3_foundOf rfl rfl rfl (by decide +kernel) ⟨Nat.le_of_ble_eq_true rfl, Nat.le_of_ble_eq_true rfl⟩) (G.recv (hL _ (by omega)) (cl_12 _) rfl) rfl hl.1 rfl (Nat.le_of_ble_eq_true rfl) dX3_search_77 ⟨Nat.zero_le _, Nat.zero_le _⟩ (fun z_10 x_9 H locs hw G => ?_)
          obtain ⟨hc_15, hw⟩ := hw
          refine fr_eq0 (tgt := 89) C dX3_search_80 (by decide) hc_15 (fun q_11 => ?_) (fun q_11 => ?_)
          · have hw := if_p hw q_11
            obtain ⟨v6_12, ev6_12⟩ : ∃ z : Int, z = v6_5 + 1 := ⟨_, rfl⟩
            have hw := hw v6_12 ev6_12
            refine lv_iinc (v := iI v6_12) (lv' := [(6, .int (iI v6_12)), (0, .ref (ad 12)), (1, .ref (ad c1)), (2, .int (iI a1)), (3, .ref (ad 2)), (4, .ref (ad 8)), (5, .int (iI v5_1))]) C.1 C.2.1 dX3_search_89 hl (k := 6) rfl (by rw [ev6_12]; exact iI_add _ _) (by decide) rfl (fun ls hl => ?_)
            refine lv_goto (tgt := 55) C.1 C.2.1 dX3_search_92 (by decide) ?_
            exact ih55 v6_12 x_9 _ _ _ hw G (lv_sub hl [1, 2, 3, 4, 5, 6, 0] rfl)
          · have hw := if_n hw q_11
            refine lv_aload_n C.1 C.2.1 dX3_search_83 rfl (lv_at hl 0 rfl) ?_
            refine lv_iload C.1 C.2.1 dX3_search_84 (lv_at hl 6 rfl) ?_
            refine fr_put C G 12 (hL _ (by omega)) (cl_12 _) rfl iw_X3_search_X3 tyX3_ok nmX3 3 (by decide) fl_X3_search_21 rfl (by decide +kernel) (Nat.le_of_ble_eq_true rfl) (st_12_3 _ _) dX3_search_86 (fun x_13 H locs ex_13 G => ?_)
            have hw := hw x_13 ex_13
            obtain ⟨v6_14, ev6_14⟩ : ∃ z : Int, z = v6_5 + 1 := ⟨_, rfl⟩
            have hw := hw v6_14 ev6_14
            refine lv_iinc (v := iI v6_14) (lv' := [(6, .int (iI v6_14)), (0, .ref (ad 12)), (1, .ref (ad c1)), (2, .int (iI a1)), (3, .ref (ad 2)), (4, .ref (ad 8)), (5, .int (iI v5_1))]) C.1 C.2.1 dX3_search_89 hl (k := 6) rfl (by rw [ev6_14]; exact iI_add _ _) (by decide) rfl (fun ls hl => ?_)
            refine lv_goto (tgt := 55) C.1 C.2.1 dX3_search_92 (by decide) ?_
            exact ih55 v6_14 x_13 _ _ _ hw G (lv_sub hl [1, 2, 3, 4, 5, 6, 0] rfl)
        · have hw := if_n hw q_8
          exact hX55 v6_5 x_6 _ _ _ hw G (lv_sub hl [0, 1, 2, 3, 4, 5, 6] rfl)
    have hX55 : ∀ (v6_5 : Int) (x_6 : Mm) (H : Heap) (locs : List Loc) (ls : Array Slot), wX_X3_search_55 post v6_5 x_6 → fG D cy L ad (fAr L ad s.heap.size) s x_6 H locs → lv_has ls 7 [(0, .ref (ad 12)), (1, .ref (ad c1)), (2, .int (iI a1)), (3, .ref (ad 2)), (4, .ref (ad 8)), (5, .int (iI v5_1)), (6, .int (iI v6_5))] → W p l e (headSpec wsX3_search rm_X3_search).room s m args below meth c H locs 0 0 (fQv below D cy L ad s args post) (F0 m 95 ls []) := by
      intro v6_5 x_6 H locs ls hw G hl
      exact fr_vret C G hr hlk hw dX3_search_95
    have hB55 : ∀ (n : Nat) (v6_5 : Int) (x_6 : Mm) (H : Heap) (locs : List Loc) (ls : Array Slot), lk2 (wB_X3_search_55 c1 v5_1 (wX_X3_search_55 post)) n v6_5 x_6 → fG D cy L ad (fAr L ad s.heap.size) s x_6 H locs → lv_has ls 7 [(0, .ref (ad 12)), (1, .ref (ad c1)), (2, .int (iI a1)), (3, .ref (ad 2)), (4, .ref (ad 8)), (5, .int (iI v5_1)), (6, .int (iI v6_5))] → W p l e (headSpec wsX3_search rm_X3_search).room s m args below meth c H locs 0 0 (fQv below D cy L ad s args post) (F0 m 55 ls []) := by
      intro n
      induction n with
      | zero =>
        intro v6_5 x_6 H locs ls hw
        exact hw.elim
      | succ n ih =>
        intro v6_5 x_6 H locs ls hw G hl
        exact hS55 _ _ hX55 ih v6_5 x_6 H locs ls hw G hl
    exact hB55 n55 0 x_4 _ _ _ hw G (lv_sub hl [1, 2, 3, 4, 5, 6, 0] rfl)
  have hB6 : ∀ (n : Nat) (v5_1 : Int) (v6_2 : Int) (x_3 : Mm) (H : Heap) (locs : List Loc) (ls : Array Slot), lk3 (wB_X3_search_6 c1 a1 (wX_X3_search_6 c1 post)) n v5_1 v6_2 x_3 → fG D cy L ad (fAr L ad s.heap.size) s x_3 H locs → lv_has ls 7 [(0, .ref (ad 12)), (1, .ref (ad c1)), (2, .int (iI a1)), (3, .ref (ad 2)), (4, .ref (ad 8)), (5, .int (iI v5_1)), (6, .int (iI v6_2))] → W p l e (headSpec wsX3_search rm_X3_search).room s m args below meth c H locs 0 0 (fQv below D cy L ad s args post) (F0 m 6 ls []) := by
    intro n
    induction n with
    | zero =>
      intro v5_1 v6_2 x_3 H locs ls hw
      exact hw.elim
    | succ n ih =>
      intro v5_1 v6_2 x_3 H locs ls hw G hl
      exact hS6 _ _ hX6 ih v5_1 v6_2 x_3 H locs ls hw G hl
  exact hB6 n6 0 0 x _ _ _ hw G (lv_sub hl [2, 3, 4, 5, 6, 1, 0] rfl)
def wX_X3_stripOf_14 (x : Mm) (post : Int → Mm → Prop) (v2_2 : Int) (v3_3 : Int) : Prop :=
  post (-1) x
def wB_X3_stripOf_14 (a1 : Int) (x : Mm) (post : Int → Mm → Prop) (kx_14 bk_14 : Int → Int → Prop) (v2_2 : Int) (v3_3 : Int) : Prop :=
  rg v3_3 ∧ (if 4 ≤ v3_3 then (kx_14 v2_2 v3_3) else ((0 ≤ v3_3 ∧ v3_3 < 4) ∧ ∀ v2_6 : Int, v2_6 = v2_2 + (x 13 (v3_3).toNat) → (rg a1 ∧ rg v2_6) ∧ (if v2_6 ≤ a1 then (∀ v3_8 : Int, v3_8 = v3_3 + 1 → bk_14 v2_6 v3_8) else (post v3_3 x))))
def w_X3_stripOf (a1 : Int) (x : Mm) (post : Int → Mm → Prop) : Prop :=
  rg (x 12 3) ∧ (if (x 12 3) = (-1) then (post (-1) x) else (∃ n : Nat, lk2 (wB_X3_stripOf_14 a1 x post (wX_X3_stripOf_14 x post)) n 0 0))
abbrev rm_X3_stripOf : Room := { frames := 0, cells := 0, slots := 0, locals := 0 }
theorem iw_X3_stripOf_X3 : ∀ w ∈ u_ws RX3 TX3 5, w ∈ wsX3_stripOf := by decide +kernel
theorem fl_X3_stripOf_21 : Cond.fieldLink RX3 21 (TX3 3).1 (TX3 3).2.1 (TX3 3).2.2.1 ∈ wsX3_stripOf := by decide +kernel
theorem fl_X3_stripOf_9 : Cond.fieldLink RX3 9 (TX3 0).1 (TX3 0).2.1 (TX3 0).2.2.1 ∈ wsX3_stripOf := by decide +kernel
set_option maxHeartbeats 4000000 in
set_option maxRecDepth 100000 in
theorem c_X3_stripOf (l : Launch) (D : va_G) (cy : Nat → ClassId) (L : List Nat) (ad : Nat → Nat) (sz : Nat) (hL : fLA L) (a1 : Int) (x : Mm) (post : Int → Mm → Prop) (hw : w_X3_stripOf a1 x post) : fMi l yX3_stripOf wsX3_stripOf rm_X3_stripOf [.ref (ad 12), .int (iI a1)] D cy L ad sz x post := by
  refine Met.ofW (cc := cX3_stripOf) (maxL := 4) (ret := (some .int)) (by decide) rfl ?_
  intro p e s m args below meth c s₁ B hml hv
  obtain ⟨hargs, hp⟩ := hv
  obtain ⟨C, hr, hlk, hsz, G⟩ := fr_start B hml hp
  subst hsz
  obtain ⟨ls, els, hl⟩ := fr_entry (m := m) (n := 4) hargs (Nat.le_of_ble_eq_true rfl)
  rw [els]
  have hl : lv_has ls 4 [(0, .ref (ad 12)), (1, .int (iI a1))] := hl
  clear els hargs hp B
  refine lv_aload_n C.1 C.2.1 dX3_stripOf_0 rfl (lv_at hl 0 rfl) ?_
  refine fr_get C G 12 (hL _ (by omega)) (cl_12 _) rfl iw_X3_stripOf_X3 3 (by decide) fl_X3_stripOf_21 rfl dX3_stripOf_1 ?_
  refine fr_ic C dX3_stripOf_4 ?_
  obtain ⟨hc_11, hw⟩ := hw
  refine fr_ne (tgt := 10) C dX3_stripOf_5 (by decide) ⟨hc_11, ⟨by decide, by decide⟩⟩ (fun q_1 => ?_) (fun q_1 => ?_)
  · have hw := if_p hw q_1
    refine fr_ic C dX3_stripOf_8 ?_
    exact fr_iret C G hr hlk hw dX3_stripOf_9
  · have hw := if_n hw q_1
    refine fr_ic C dX3_stripOf_10 ?_
    refine lv_istore_n (lv' := [(2, .int (iI 0)), (0, .ref (ad 12)), (1, .int (iI a1))]) C.1 C.2.1 dX3_stripOf_11 rfl hl (by decide) rfl (fun ls hl => ?_)
    refine fr_ic C dX3_stripOf_12 ?_
    refine lv_istore_n (lv' := [(3, .int (iI 0)), (2, .int (iI 0)), (0, .ref (ad 12)), (1, .int (iI a1))]) C.1 C.2.1 dX3_stripOf_13 rfl hl (by decide) rfl (fun ls hl => ?_)
    obtain ⟨n14, hw⟩ := hw
    have hS14 : ∀ (kx_14 bk_14 : Int → Int → Prop), (∀ (v2_2 : Int) (v3_3 : Int) (H : Heap) (locs : List Loc) (ls : Array Slot), kx_14 v2_2 v3_3 → fG D cy L ad (fAr L ad s.heap.size) s x H locs → lv_has ls 4 [(0, .ref (ad 12)), (1, .int (iI a1)), (2, .int (iI v2_2)), (3, .int (iI v3_3))] → W p l e (headSpec wsX3_stripOf rm_X3_stripOf).room s m args below meth c H locs 0 0 (fQi below D cy L ad s args post) (F0 m 41 ls [])) → (∀ (v2_2 : Int) (v3_3 : Int) (H : Heap) (locs : List Loc) (ls : Array Slot), bk_14 v2_2 v3_3 → fG D cy L ad (fAr L ad s.heap.size) s x H locs → lv_has ls 4 [(0, .ref (ad 12)), (1, .int (iI a1)), (2, .int (iI v2_2)), (3, .int (iI v3_3))] → W p l e (headSpec wsX3_stripOf rm_X3_stripOf).room s m args below meth c H locs 0 0 (fQi below D cy L ad s args post) (F0 m 14 ls [])) → ∀ (v2_2 : Int) (v3_3 : Int) (H : Heap) (locs : List Loc) (ls : Array Slot), wB_X3_stripOf_14 a1 x post kx_14 bk_14 v2_2 v3_3 → fG D cy L ad (fAr L ad s.heap.size) s x H locs → lv_has ls 4 [(0, .ref (ad 12)), (1, .int (iI a1)), (2, .int (iI v2_2)), (3, .int (iI v3_3))] → W p l e (headSpec wsX3_stripOf rm_X3_stripOf).room s m args below meth c H locs 0 0 (fQi below D cy L ad s args post) (F0 m 14 ls []) := by
      intro kx_14 bk_14 hX14 ih14 v2_2 v3_3 H locs ls hw G hl
      refine lv_iload_n C.1 C.2.1 dX3_stripOf_14 rfl (lv_at hl 3 rfl) ?_
      refine fr_ic C dX3_stripOf_15 ?_
      obtain ⟨hc_10, hw⟩ := hw
      refine fr_ge (tgt := 41) C dX3_stripOf_16 (by decide) ⟨hc_10, ⟨by decide, by decide⟩⟩ (fun q_4 => ?_) (fun q_4 => ?_)
      · have hw := if_p hw q_4
        exact hX14 v2_2 v3_3 _ _ _ hw G (lv_sub hl [0, 1, 2, 3] rfl)
      · have hw := if_n hw q_4
        refine lv_iload_n C.1 C.2.1 dX3_stripOf_19 rfl (lv_at hl 2 rfl) ?_
        refine lv_aload_n C.1 C.2.1 dX3_stripOf_20 rfl (lv_at hl 0 rfl) ?_
        refine fr_get C G 12 (hL _ (by omega)) (cl_12 _) rfl iw_X3_stripOf_X3 0 (by decide) fl_X3_stripOf_9 rfl dX3_stripOf_21 ?_
        refine lv_iload_n C.1 C.2.1 dX3_stripOf_24 rfl (lv_at hl 3 rfl) ?_
        obtain ⟨hb_5, hw⟩ := hw
        refine fr_iald C G 13 4 (hL _ (by omega)) rfl ⟨by decide, by decide⟩ hb_5 dX3_stripOf_25 ?_
        refine fr_iadd C dX3_stripOf_26 ?_
        refine fr_nm (fun v2_6 ev2_6 => ?_)
        have hw := hw v2_6 ev2_6
        refine lv_istore_n (lv' := [(2, .int (iI v2_6)), (0, .ref (ad 12)), (1, .int (iI a1)), (3, .int (iI v3_3))]) C.1 C.2.1 dX3_stripOf_27 rfl hl (by decide) rfl (fun ls hl => ?_)
        refine lv_iload_n C.1 C.2.1 dX3_stripOf_28 rfl (lv_at hl 2 rfl) ?_
        refine lv_iload_n C.1 C.2.1 dX3_stripOf_29 rfl (lv_at hl 0 rfl) ?_
        obtain ⟨hc_9, hw⟩ := hw
        refine fr_ge (tgt := 35) C dX3_stripOf_30 (by decide) hc_9 (fun q_7 => ?_) (fun q_7 => ?_)
        · have hw := if_p hw q_7
          obtain ⟨v3_8, ev3_8⟩ : ∃ z : Int, z = v3_3 + 1 := ⟨_, rfl⟩
          have hw := hw v3_8 ev3_8
          refine lv_iinc (v := iI v3_8) (lv' := [(3, .int (iI v3_8)), (2, .int (iI v2_6)), (0, .ref (ad 12)), (1, .int (iI a1))]) C.1 C.2.1 dX3_stripOf_35 hl (k := 3) rfl (by rw [ev3_8]; exact iI_add _ _) (by decide) rfl (fun ls hl => ?_)
          refine lv_goto (tgt := 14) C.1 C.2.1 dX3_stripOf_38 (by decide) ?_
          exact ih14 v2_6 v3_8 _ _ _ hw G (lv_sub hl [2, 3, 1, 0] rfl)
        · have hw := if_n hw q_7
          refine lv_iload_n C.1 C.2.1 dX3_stripOf_33 rfl (lv_at hl 3 rfl) ?_
          exact fr_iret C G hr hlk hw dX3_stripOf_34
    have hX14 : ∀ (v2_2 : Int) (v3_3 : Int) (H : Heap) (locs : List Loc) (ls : Array Slot), wX_X3_stripOf_14 x post v2_2 v3_3 → fG D cy L ad (fAr L ad s.heap.size) s x H locs → lv_has ls 4 [(0, .ref (ad 12)), (1, .int (iI a1)), (2, .int (iI v2_2)), (3, .int (iI v3_3))] → W p l e (headSpec wsX3_stripOf rm_X3_stripOf).room s m args below meth c H locs 0 0 (fQi below D cy L ad s args post) (F0 m 41 ls []) := by
      intro v2_2 v3_3 H locs ls hw G hl
      refine fr_ic C dX3_stripOf_41 ?_
      exact fr_iret C G hr hlk hw dX3_stripOf_42
    have hB14 : ∀ (n : Nat) (v2_2 : Int) (v3_3 : Int) (H : Heap) (locs : List Loc) (ls : Array Slot), lk2 (wB_X3_stripOf_14 a1 x post (wX_X3_stripOf_14 x post)) n v2_2 v3_3 → fG D cy L ad (fAr L ad s.heap.size) s x H locs → lv_has ls 4 [(0, .ref (ad 12)), (1, .int (iI a1)), (2, .int (iI v2_2)), (3, .int (iI v3_3))] → W p l e (headSpec wsX3_stripOf rm_X3_stripOf).room s m args below meth c H locs 0 0 (fQi below D cy L ad s args post) (F0 m 14 ls []) := by
      intro n
      induction n with
      | zero =>
        intro v2_2 v3_3 H locs ls hw
        exact hw.elim
      | succ n ih =>
        intro v2_2 v3_3 H locs ls hw G hl
        exact hS14 _ _ hX14 ih v2_2 v3_3 H locs ls hw G hl
    exact hB14 n14 0 0 _ _ _ hw G (lv_sub hl [2, 3, 1, 0] rfl)
def w_X4_lay (j : Nat) (a1 a2 a3 a4 : Int) (x : Mm) (post : Mm → Prop) : Prop :=
  (∀ x_2 : Mm, x_2 = up2 x (20 + 3 * j + 1) 0 a1 → (∀ x_4 : Mm, x_4 = up2 x_2 (20 + 3 * j + 1) 1 a2 → (∀ x_6 : Mm, x_6 = up2 x_4 (20 + 3 * j + 1) 2 a3 → (∀ x_8 : Mm, x_8 = up2 x_6 (20 + 3 * j + 1) 3 a4 → post x_8))))
abbrev rm_X4_lay : Room := { frames := 0, cells := 0, slots := 0, locals := 0 }
theorem iw_X4_lay_X4 : ∀ w ∈ u_ws RX4 TX4 3, w ∈ wsX4_lay := by decide +kernel
theorem fl_X4_lay_9 : Cond.fieldLink RX4 9 (TX4 0).1 (TX4 0).2.1 (TX4 0).2.2.1 ∈ wsX4_lay := by decide +kernel
set_option maxHeartbeats 4000000 in
set_option maxRecDepth 100000 in
theorem c_X4_lay (l : Launch) (D : va_G) (cy : Nat → ClassId) (L : List Nat) (ad : Nat → Nat) (sz : Nat) (hL : fLA L) (j : Nat) (hj : j < 4) (a1 a2 a3 a4 : Int) (x : Mm) (post : Mm → Prop) (hw : w_X4_lay j a1 a2 a3 a4 x post) : fMv l yX4_lay wsX4_lay rm_X4_lay [.ref (ad (20 + 3 * j)), .int (iI a1), .int (iI a2), .int (iI a3), .int (iI a4)] D cy L ad sz x post := by
  refine Met.ofW (cc := cX4_lay) (maxL := 5) (ret := none) (by decide) rfl ?_
  intro p e s m args below meth c s₁ B hml hv
  obtain ⟨hargs, hp⟩ := hv
  obtain ⟨C, hr, hlk, hsz, G⟩ := fr_start B hml hp
  subst hsz
  obtain ⟨ls, els, hl⟩ := fr_entry (m := m) (n := 5) hargs (Nat.le_of_ble_eq_true rfl)
  rw [els]
  have hl : lv_has ls 5 [(0, .ref (ad (20 + 3 * j))), (1, .int (iI a1)), (2, .int (iI a2)), (3, .int (iI a3)), (4, .int (iI a4))] := hl
  clear els hargs hp B
  refine lv_aload_n C.1 C.2.1 dX4_lay_0 rfl (lv_at hl 0 rfl) ?_
  refine fr_get C G (20 + 3 * j) (hL _ (by omega)) (cell_pl _ (by omega)) rfl iw_X4_lay_X4 0 (by decide) fl_X4_lay_9 rfl dX4_lay_1 ?_
  refine fr_ic C dX4_lay_4 ?_
  refine lv_iload_n C.1 C.2.1 dX4_lay_5 rfl (lv_at hl 1 rfl) ?_
  refine fr_iast C G (20 + 3 * j + 1) 4 (hL _ (by omega)) (al_pl _ (by omega)).2.1 ⟨by decide, by decide⟩ ⟨by decide, by decide⟩ dX4_lay_6 (fun x_2 H locs ex_2 G => ?_)
  have hw := hw x_2 ex_2
  refine lv_aload_n C.1 C.2.1 dX4_lay_7 rfl (lv_at hl 0 rfl) ?_
  refine fr_get C G (20 + 3 * j) (hL _ (by omega)) (cell_pl _ (by omega)) rfl iw_X4_lay_X4 0 (by decide) fl_X4_lay_9 rfl dX4_lay_8 ?_
  refine fr_ic C dX4_lay_11 ?_
  refine lv_iload_n C.1 C.2.1 dX4_lay_12 rfl (lv_at hl 2 rfl) ?_
  refine fr_iast C G (20 + 3 * j + 1) 4 (hL _ (by omega)) (al_pl _ (by omega)).2.1 ⟨by decide, by decide⟩ ⟨by decide, by decide⟩ dX4_lay_13 (fun x_4 H locs ex_4 G => ?_)
  have hw := hw x_4 ex_4
  refine lv_aload_n C.1 C.2.1 dX4_lay_14 rfl (lv_at hl 0 rfl) ?_
  refine fr_get C G (20 + 3 * j) (hL _ (by omega)) (cell_pl _ (by omega)) rfl iw_X4_lay_X4 0 (by decide) fl_X4_lay_9 rfl dX4_lay_15 ?_
  refine fr_ic C dX4_lay_18 ?_
  refine lv_iload_n C.1 C.2.1 dX4_lay_19 rfl (lv_at hl 3 rfl) ?_
  refine fr_iast C G (20 + 3 * j + 1) 4 (hL _ (by omega)) (al_pl _ (by omega)).2.1 ⟨by decide, by decide⟩ ⟨by decide, by decide⟩ dX4_lay_20 (fun x_6 H locs ex_6 G => ?_)
  have hw := hw x_6 ex_6
  refine lv_aload_n C.1 C.2.1 dX4_lay_21 rfl (lv_at hl 0 rfl) ?_
  refine fr_get C G (20 + 3 * j) (hL _ (by omega)) (cell_pl _ (by omega)) rfl iw_X4_lay_X4 0 (by decide) fl_X4_lay_9 rfl dX4_lay_22 ?_
  refine fr_ic C dX4_lay_25 ?_
  refine lv_iload C.1 C.2.1 dX4_lay_26 (lv_at hl 4 rfl) ?_
  refine fr_iast C G (20 + 3 * j + 1) 4 (hL _ (by omega)) (al_pl _ (by omega)).2.1 ⟨by decide, by decide⟩ ⟨by decide, by decide⟩ dX4_lay_28 (fun x_8 H locs ex_8 G => ?_)
  have hw := hw x_8 ex_8
  exact fr_vret C G hr hlk hw dX4_lay_29
def w_X7_isStrip (a1 : Int) (x : Mm) (post : Int → Mm → Prop) : Prop :=
  rg a1 ∧ (if a1 < 0 then (post 0 x) else (rg a1 ∧ (if 4 ≤ a1 then (post 0 x) else (post 1 x))))
abbrev rm_X7_isStrip : Room := { frames := 0, cells := 0, slots := 0, locals := 0 }
set_option maxHeartbeats 4000000 in
set_option maxRecDepth 100000 in
theorem c_X7_isStrip (l : Launch) (D : va_G) (cy : Nat → ClassId) (L : List Nat) (ad : Nat → Nat) (sz : Nat) (a1 : Int) (x : Mm) (post : Int → Mm → Prop) (hw : w_X7_isStrip a1 x post) : fMi l yX7_isStrip wsX7_isStrip rm_X7_isStrip [.int (iI a1)] D cy L ad sz x post := by
  refine Met.ofW (cc := cX7_isStrip) (maxL := 1) (ret := (some .boolean)) (by decide) rfl ?_
  intro p e s m args below meth c s₁ B hml hv
  obtain ⟨hargs, hp⟩ := hv
  obtain ⟨C, hr, hlk, hsz, G⟩ := fr_start B hml hp
  subst hsz
  obtain ⟨ls, els, hl⟩ := fr_entry (m := m) (n := 1) hargs (Nat.le_of_ble_eq_true rfl)
  rw [els]
  have hl : lv_has ls 1 [(0, .int (iI a1))] := hl
  clear els hargs hp B
  refine lv_iload_n C.1 C.2.1 dX7_isStrip_0 rfl (lv_at hl 0 rfl) ?_
  obtain ⟨hc_4, hw⟩ := hw
  refine fr_lt0 (tgt := 13) C dX7_isStrip_1 (by decide) hc_4 (fun q_1 => ?_) (fun q_1 => ?_)
  · have hw := if_p hw q_1
    refine fr_ic C dX7_isStrip_13 ?_
    exact fr_zret C G hr hlk (by decide) hw dX7_isStrip_14
  · have hw := if_n hw q_1
    refine lv_iload_n C.1 C.2.1 dX7_isStrip_4 rfl (lv_at hl 0 rfl) ?_
    refine fr_ic C dX7_isStrip_5 ?_
    obtain ⟨hc_3, hw⟩ := hw
    refine fr_ge (tgt := 13) C dX7_isStrip_6 (by decide) ⟨hc_3, ⟨by decide, by decide⟩⟩ (fun q_2 => ?_) (fun q_2 => ?_)
    · have hw := if_p hw q_2
      refine fr_ic C dX7_isStrip_13 ?_
      exact fr_zret C G hr hlk (by decide) hw dX7_isStrip_14
    · have hw := if_n hw q_2
      refine fr_ic C dX7_isStrip_9 ?_
      refine lv_goto (tgt := 14) C.1 C.2.1 dX7_isStrip_10 (by decide) ?_
      exact fr_zret C G hr hlk (by decide) hw dX7_isStrip_14
def w_X4_takeOff (j : Nat) (a1 : Int) (x : Mm) (post : Mm → Prop) : Prop :=
  w_X7_isStrip a1 x (fun z_2 x_1 => rg z_2 ∧ (if z_2 = 0 then (post x_1) else (rg (x_1 (20 + 3 * j) 2) ∧ (if 20 ≤ (x_1 (20 + 3 * j) 2) then (post x_1) else ((0 ≤ a1 ∧ a1 < 4) ∧ (0 ≤ a1 ∧ a1 < 4) ∧ (∀ x_7 : Mm, x_7 = up2 x_1 (20 + 3 * j + 1) (a1).toNat ((x_1 (20 + 3 * j + 1) (a1).toNat) - 1) → (0 ≤ x_7 (20 + 3 * j) 2 ∧ x_7 (20 + 3 * j) 2 < 20) ∧ (∀ x_9 : Mm, x_9 = up2 x_7 (20 + 3 * j + 2) (x_7 (20 + 3 * j) 2).toNat a1 → ∀ x_10 : Mm, x_10 = up2 x_9 (20 + 3 * j) 2 ((x_9 (20 + 3 * j) 2) + 1) → post x_10)))))))
abbrev rm_X4_takeOff : Room := { frames := 1, cells := 0, slots := 0, locals := 20 }
theorem iw_X4_takeOff_X4 : ∀ w ∈ u_ws RX4 TX4 3, w ∈ wsX4_takeOff := by decide +kernel
theorem fl_X4_takeOff_18 : Cond.fieldLink RX4 18 (TX4 2).1 (TX4 2).2.1 (TX4 2).2.2.1 ∈ wsX4_takeOff := by decide +kernel
theorem fl_X4_takeOff_9 : Cond.fieldLink RX4 9 (TX4 0).1 (TX4 0).2.1 (TX4 0).2.2.1 ∈ wsX4_takeOff := by decide +kernel
theorem fl_X4_takeOff_15 : Cond.fieldLink RX4 15 (TX4 1).1 (TX4 1).2.1 (TX4 1).2.2.1 ∈ wsX4_takeOff := by decide +kernel
theorem sw_X4_takeOff_22 : Cond.static yX7_isStrip ∈ wsX4_takeOff := by decide +kernel
theorem nw_X4_takeOff_22 : Cond.initialized RX7 ∈ wsX4_takeOff := by decide +kernel
set_option maxHeartbeats 4000000 in
set_option maxRecDepth 100000 in
theorem c_X4_takeOff (l : Launch) (D : va_G) (cy : Nat → ClassId) (L : List Nat) (ad : Nat → Nat) (sz : Nat) (hL : fLA L) (j : Nat) (hj : j < 4) (a1 : Int) (x : Mm) (post : Mm → Prop) (hw : w_X4_takeOff j a1 x post) : fMv l yX4_takeOff wsX4_takeOff rm_X4_takeOff [.ref (ad (20 + 3 * j)), .int (iI a1)] D cy L ad sz x post := by
  refine Met.ofW (cc := cX4_takeOff) (maxL := 2) (ret := none) (by decide) rfl ?_
  intro p e s m args below meth c s₁ B hml hv
  obtain ⟨hargs, hp⟩ := hv
  obtain ⟨C, hr, hlk, hsz, G⟩ := fr_start B hml hp
  subst hsz
  obtain ⟨ls, els, hl⟩ := fr_entry (m := m) (n := 2) hargs (Nat.le_of_ble_eq_true rfl)
  rw [els]
  have hl : lv_has ls 2 [(0, .ref (ad (20 + 3 * j))), (1, .int (iI a1))] := hl
  clear els hargs hp B
  refine lv_iload_n C.1 C.2.1 dX4_takeOff_0 rfl (lv_at hl 1 rfl) ?_
  refine fr_SNi C G (c_X7_isStrip l D cy L ad _ a1 x _ hw) ⟨va_cnB 1 C.2.2.2.2 gX4_takeOff_X7_isStrip_n22 rfl rfl rfl G.2.2.2.2.2.2.1 (C.2.2.2.2 _ nw_X4_takeOff_22) (by decide +kernel) ⟨Nat.le_of_ble_eq_true rfl, Nat.le_of_ble_eq_true rfl⟩, C.2.2.2.2 _ sw_X4_takeOff_22, trivial⟩ rfl hl.1 rfl (Nat.le_of_ble_eq_true rfl) dX4_takeOff_1 ⟨Nat.zero_le _, Nat.zero_le _⟩ (fun z_2 x_1 H locs hw G => ?_)
  obtain ⟨hc_12, hw⟩ := hw
  refine fr_eq0 (tgt := 46) C dX4_takeOff_4 (by decide) hc_12 (fun q_3 => ?_) (fun q_3 => ?_)
  · have hw := if_p hw q_3
    exact fr_vret C G hr hlk hw dX4_takeOff_46
  · have hw := if_n hw q_3
    refine lv_aload_n C.1 C.2.1 dX4_takeOff_7 rfl (lv_at hl 0 rfl) ?_
    refine fr_get C G (20 + 3 * j) (hL _ (by omega)) (cell_pl _ (by omega)) rfl iw_X4_takeOff_X4 2 (by decide) fl_X4_takeOff_18 rfl dX4_takeOff_8 ?_
    refine fr_bi C dX4_takeOff_11 rfl ?_
    obtain ⟨hc_11, hw⟩ := hw
    refine fr_ge (tgt := 46) C dX4_takeOff_13 (by decide) ⟨hc_11, ⟨by decide, by decide⟩⟩ (fun q_4 => ?_) (fun q_4 => ?_)
    · have hw := if_p hw q_4
      exact fr_vret C G hr hlk hw dX4_takeOff_46
    · have hw := if_n hw q_4
      refine lv_aload_n C.1 C.2.1 dX4_takeOff_16 rfl (lv_at hl 0 rfl) ?_
      refine fr_get C G (20 + 3 * j) (hL _ (by omega)) (cell_pl _ (by omega)) rfl iw_X4_takeOff_X4 0 (by decide) fl_X4_takeOff_9 rfl dX4_takeOff_17 ?_
      refine lv_iload_n C.1 C.2.1 dX4_takeOff_20 rfl (lv_at hl 1 rfl) ?_
      refine lv_dup2_11 C.1 C.2.1 dX4_takeOff_21 rfl rfl ?_
      obtain ⟨hb_5, hw⟩ := hw
      refine fr_iald C G (20 + 3 * j + 1) 4 (hL _ (by omega)) (al_pl _ (by omega)).2.1 ⟨by decide, by decide⟩ hb_5 dX4_takeOff_22 ?_
      refine fr_ic C dX4_takeOff_23 ?_
      refine fr_isub C dX4_takeOff_24 ?_
      obtain ⟨hb_6, hw⟩ := hw
      refine fr_iast C G (20 + 3 * j + 1) 4 (hL _ (by omega)) (al_pl _ (by omega)).2.1 ⟨by decide, by decide⟩ hb_6 dX4_takeOff_25 (fun x_7 H locs ex_7 G => ?_)
      have hw := hw x_7 ex_7
      refine lv_aload_n C.1 C.2.1 dX4_takeOff_26 rfl (lv_at hl 0 rfl) ?_
      refine fr_get C G (20 + 3 * j) (hL _ (by omega)) (cell_pl _ (by omega)) rfl iw_X4_takeOff_X4 1 (by decide) fl_X4_takeOff_15 rfl dX4_takeOff_27 ?_
      refine lv_aload_n C.1 C.2.1 dX4_takeOff_30 rfl (lv_at hl 0 rfl) ?_
      refine fr_get C G (20 + 3 * j) (hL _ (by omega)) (cell_pl _ (by omega)) rfl iw_X4_takeOff_X4 2 (by decide) fl_X4_takeOff_18 rfl dX4_takeOff_31 ?_
      refine lv_iload_n C.1 C.2.1 dX4_takeOff_34 rfl (lv_at hl 1 rfl) ?_
      obtain ⟨hb_8, hw⟩ := hw
      refine fr_iast C G (20 + 3 * j + 2) 20 (hL _ (by omega)) (al_pl _ (by omega)).2.2 ⟨by decide, by decide⟩ hb_8 dX4_takeOff_35 (fun x_9 H locs ex_9 G => ?_)
      have hw := hw x_9 ex_9
      refine lv_aload_n C.1 C.2.1 dX4_takeOff_36 rfl (lv_at hl 0 rfl) ?_
      refine lv_dup C.1 C.2.1 dX4_takeOff_37 rfl ?_
      refine fr_get C G (20 + 3 * j) (hL _ (by omega)) (cell_pl _ (by omega)) rfl iw_X4_takeOff_X4 2 (by decide) fl_X4_takeOff_18 rfl dX4_takeOff_38 ?_
      refine fr_ic C dX4_takeOff_41 ?_
      refine fr_iadd C dX4_takeOff_42 ?_
      refine fr_put C G (20 + 3 * j) (hL _ (by omega)) (cell_pl _ (by omega)) rfl iw_X4_takeOff_X4 tyX4_ok nmX4 2 (by decide) fl_X4_takeOff_18 rfl (by decide +kernel) (Nat.le_of_ble_eq_true rfl) (st_pl_2 _ _ (by omega)) dX4_takeOff_43 (fun x_10 H locs ex_10 G => ?_)
      have hw := hw x_10 ex_10
      exact fr_vret C G hr hlk hw dX4_takeOff_46
def wX_X4_takeOffAll_9 (v2_1 : Int) (bk_2 : Int → Mm → Prop) (v3_4 : Int) (x_5 : Mm) : Prop :=
  ∀ v2_6 : Int, v2_6 = v2_1 + 1 → bk_2 v2_6 x_5
def wB_X4_takeOffAll_9 (j : Nat) (c1 : Nat) (v2_1 : Int) (kx_9 bk_9 : Int → Mm → Prop) (v3_4 : Int) (x_5 : Mm) : Prop :=
  (0 ≤ v2_1 ∧ v2_1 < 4) ∧ (rg v3_4 ∧ rg (x_5 c1 (v2_1).toNat)) ∧ (if (x_5 c1 (v2_1).toNat) ≤ v3_4 then (kx_9 v3_4 x_5) else (w_X4_takeOff j v2_1 x_5 (fun x_9 => ∀ v3_10 : Int, v3_10 = v3_4 + 1 → bk_9 v3_10 x_9)))
def wX_X4_takeOffAll_2 (post : Mm → Prop) (v2_1 : Int) (x_2 : Mm) : Prop :=
  post x_2
def wB_X4_takeOffAll_2 (j : Nat) (c1 : Nat) (kx_2 bk_2 : Int → Mm → Prop) (v2_1 : Int) (x_2 : Mm) : Prop :=
  rg v2_1 ∧ (if 4 ≤ v2_1 then (kx_2 v2_1 x_2) else (∃ n : Nat, lk2 (wB_X4_takeOffAll_9 j c1 v2_1 (wX_X4_takeOffAll_9 v2_1 bk_2)) n 0 x_2))
def w_X4_takeOffAll (j c1 : Nat) (x : Mm) (post : Mm → Prop) : Prop :=
  ∃ n : Nat, lk2 (wB_X4_takeOffAll_2 j c1 (wX_X4_takeOffAll_2 post)) n 0 x
abbrev rm_X4_takeOffAll : Room := { frames := 2, cells := 0, slots := 0, locals := 41 }
set_option maxHeartbeats 4000000 in
set_option maxRecDepth 100000 in
theorem c_X4_takeOffAll (l : Launch) (D : va_G) (cy : Nat → ClassId) (L : List Nat) (ad : Nat → Nat) (sz : Nat) (hL : fLA L) (j : Nat) (hj : j < 4) (c1 : Nat) (hc1 : c1 ∈ L) (hlc1 : al c1 = 4) (x : Mm) (post : Mm → Prop) (hw : w_X4_takeOffAll j c1 x post) : fMv l yX4_takeOffAll wsX4_takeOffAll rm_X4_takeOffAll [.ref (ad (20 + 3 * j)), .ref (ad c1)] D cy L ad sz x post := by
  refine Met.ofW (cc := cX4_takeOffAll) (maxL := 4) (ret := none) (by decide) rfl ?_
  intro p e s m args below meth c s₁ B hml hv
  obtain ⟨hargs, hp⟩ := hv
  obtain ⟨C, hr, hlk, hsz, G⟩ := fr_start B hml hp
  subst hsz
  obtain ⟨ls, els, hl⟩ := fr_entry (m := m) (n := 4) hargs (Nat.le_of_ble_eq_true rfl)
  rw [els]
  have hl : lv_has ls 4 [(0, .ref (ad (20 + 3 * j))), (1, .ref (ad c1))] := hl
  clear els hargs hp B
  refine fr_ic C dX4_takeOffAll_0 ?_
  refine lv_istore_n (lv' := [(2, .int (iI 0)), (0, .ref (ad (20 + 3 * j))), (1, .ref (ad c1))]) C.1 C.2.1 dX4_takeOffAll_1 rfl hl (by decide) rfl (fun ls hl => ?_)
  obtain ⟨n2, hw⟩ := hw
  have hS2 : ∀ (kx_2 bk_2 : Int → Mm → Prop), (∀ (v2_1 : Int) (x_2 : Mm) (H : Heap) (locs : List Loc) (ls : Array Slot), kx_2 v2_1 x_2 → fG D cy L ad (fAr L ad s.heap.size) s x_2 H locs → lv_has ls 4 [(0, .ref (ad (20 + 3 * j))), (1, .ref (ad c1)), (2, .int (iI v2_1))] → W p l e (headSpec wsX4_takeOffAll rm_X4_takeOffAll).room s m args below meth c H locs 0 0 (fQv below D cy L ad s args post) (F0 m 33 ls [])) → (∀ (v2_1 : Int) (x_2 : Mm) (H : Heap) (locs : List Loc) (ls : Array Slot), bk_2 v2_1 x_2 → fG D cy L ad (fAr L ad s.heap.size) s x_2 H locs → lv_has ls 4 [(0, .ref (ad (20 + 3 * j))), (1, .ref (ad c1)), (2, .int (iI v2_1))] → W p l e (headSpec wsX4_takeOffAll rm_X4_takeOffAll).room s m args below meth c H locs 0 0 (fQv below D cy L ad s args post) (F0 m 2 ls [])) → ∀ (v2_1 : Int) (x_2 : Mm) (H : Heap) (locs : List Loc) (ls : Array Slot), wB_X4_takeOffAll_2 j c1 kx_2 bk_2 v2_1 x_2 → fG D cy L ad (fAr L ad s.heap.size) s x_2 H locs → lv_has ls 4 [(0, .ref (ad (20 + 3 * j))), (1, .ref (ad c1)), (2, .int (iI v2_1))] → W p l e (headSpec wsX4_takeOffAll rm_X4_takeOffAll).room s m args below meth c H locs 0 0 (fQv below D cy L ad s args post) (F0 m 2 ls []) := by
    intro kx_2 bk_2 hX2 ih2 v2_1 x_2 H locs ls hw G hl
    refine lv_iload_n C.1 C.2.1 dX4_takeOffAll_2 rfl (lv_at hl 2 rfl) ?_
    refine fr_ic C dX4_takeOffAll_3 ?_
    obtain ⟨hc_12, hw⟩ := hw
    refine fr_ge (tgt := 33) C dX4_takeOffAll_4 (by decide) ⟨hc_12, ⟨by decide, by decide⟩⟩ (fun q_3 => ?_) (fun q_3 => ?_)
    · have hw := if_p hw q_3
      exact hX2 v2_1 x_2 _ _ _ hw G (lv_sub hl [0, 1, 2] rfl)
    · have hw := if_n hw q_3
      refine fr_ic C dX4_takeOffAll_7 ?_
      refine lv_istore_n (lv' := [(3, .int (iI 0)), (0, .ref (ad (20 + 3 * j))), (1, .ref (ad c1)), (2, .int (iI v2_1))]) C.1 C.2.1 dX4_takeOffAll_8 rfl hl (by decide) rfl (fun ls hl => ?_)
      obtain ⟨n9, hw⟩ := hw
      have hS9 : ∀ (kx_9 bk_9 : Int → Mm → Prop), (∀ (v3_4 : Int) (x_5 : Mm) (H : Heap) (locs : List Loc) (ls : Array Slot), kx_9 v3_4 x_5 → fG D cy L ad (fAr L ad s.heap.size) s x_5 H locs → lv_has ls 4 [(0, .ref (ad (20 + 3 * j))), (1, .ref (ad c1)), (2, .int (iI v2_1)), (3, .int (iI v3_4))] → W p l e (headSpec wsX4_takeOffAll rm_X4_takeOffAll).room s m args below meth c H locs 0 0 (fQv below D cy L ad s args post) (F0 m 27 ls [])) → (∀ (v3_4 : Int) (x_5 : Mm) (H : Heap) (locs : List Loc) (ls : Array Slot), bk_9 v3_4 x_5 → fG D cy L ad (fAr L ad s.heap.size) s x_5 H locs → lv_has ls 4 [(0, .ref (ad (20 + 3 * j))), (1, .ref (ad c1)), (2, .int (iI v2_1)), (3, .int (iI v3_4))] → W p l e (headSpec wsX4_takeOffAll rm_X4_takeOffAll).room s m args below meth c H locs 0 0 (fQv below D cy L ad s args post) (F0 m 9 ls [])) → ∀ (v3_4 : Int) (x_5 : Mm) (H : Heap) (locs : List Loc) (ls : Array Slot), wB_X4_takeOffAll_9 j c1 v2_1 kx_9 bk_9 v3_4 x_5 → fG D cy L ad (fAr L ad s.heap.size) s x_5 H locs → lv_has ls 4 [(0, .ref (ad (20 + 3 * j))), (1, .ref (ad c1)), (2, .int (iI v2_1)), (3, .int (iI v3_4))] → W p l e (headSpec wsX4_takeOffAll rm_X4_takeOffAll).room s m args below meth c H locs 0 0 (fQv below D cy L ad s args post) (F0 m 9 ls []) := by
        intro kx_9 bk_9 hX9 ih9 v3_4 x_5 H locs ls hw G hl
        refine lv_iload_n C.1 C.2.1 dX4_takeOffAll_9 rfl (lv_at hl 3 rfl) ?_
        refine lv_aload_n C.1 C.2.1 dX4_takeOffAll_10 rfl (lv_at hl 1 rfl) ?_
        refine lv_iload_n C.1 C.2.1 dX4_takeOffAll_11 rfl (lv_at hl 2 rfl) ?_
        obtain ⟨hb_7, hw⟩ := hw
        refine fr_iald C G c1 4 hc1 hlc1 ⟨by decide, by decide⟩ hb_7 dX4_takeOffAll_12 ?_
        obtain ⟨hc_11, hw⟩ := hw
        refine fr_ge (tgt := 27) C dX4_takeOffAll_13 (by decide) hc_11 (fun q_8 => ?_) (fun q_8 => ?_)
        · have hw := if_p hw q_8
          exact hX9 v3_4 x_5 _ _ _ hw G (lv_sub hl [0, 1, 2, 3] rfl)
        · have hw := if_n hw q_8
          refine lv_aload_n C.1 C.2.1 dX4_takeOffAll_16 rfl (lv_at hl 0 rfl) ?_
          refine lv_iload_n C.1 C.2.1 dX4_takeOffAll_17 rfl (lv_at hl 2 rfl) ?_
          refine fr_Vv C G (c_X4_takeOff l D cy L ad _ hL j (by omega) v2_1 x_5 _ hw) (cwV 1 C.2.2.2.2 gX4_takeOffAll_X4_takeOff rfl rfl rfl (by decide +kernel) ⟨Nat.le_of_ble_eq_true rfl, Nat.le_of_ble_eq_true rfl⟩) (G.recv (hL _ (by omega)) (cell_pl _ (by omega)) rfl) rfl hl.1 rfl (Nat.le_of_ble_eq_true rfl) dX4_takeOffAll_18 ⟨Nat.zero_le _, Nat.zero_le _⟩ (fun x_9 H locs hw G => ?_)
          obtain ⟨v3_10, ev3_10⟩ : ∃ z : Int, z = v3_4 + 1 := ⟨_, rfl⟩
          have hw := hw v3_10 ev3_10
          refine lv_iinc (v := iI v3_10) (lv' := [(3, .int (iI v3_10)), (0, .ref (ad (20 + 3 * j))), (1, .ref (ad c1)), (2, .int (iI v2_1))]) C.1 C.2.1 dX4_takeOffAll_21 hl (k := 3) rfl (by rw [ev3_10]; exact iI_add _ _) (by decide) rfl (fun ls hl => ?_)
          refine lv_goto (tgt := 9) C.1 C.2.1 dX4_takeOffAll_24 (by decide) ?_
          exact ih9 v3_10 x_9 _ _ _ hw G (lv_sub hl [1, 2, 3, 0] rfl)
      have hX9 : ∀ (v3_4 : Int) (x_5 : Mm) (H : Heap) (locs : List Loc) (ls : Array Slot), wX_X4_takeOffAll_9 v2_1 bk_2 v3_4 x_5 → fG D cy L ad (fAr L ad s.heap.size) s x_5 H locs → lv_has ls 4 [(0, .ref (ad (20 + 3 * j))), (1, .ref (ad c1)), (2, .int (iI v2_1)), (3, .int (iI v3_4))] → W p l e (headSpec wsX4_takeOffAll rm_X4_takeOffAll).room s m args below meth c H locs 0 0 (fQv below D cy L ad s args post) (F0 m 27 ls []) := by
        intro v3_4 x_5 H locs ls hw G hl
        obtain ⟨v2_6, ev2_6⟩ : ∃ z : Int, z = v2_1 + 1 := ⟨_, rfl⟩
        have hw := hw v2_6 ev2_6
        refine lv_iinc (v := iI v2_6) (lv' := [(2, .int (iI v2_6)), (0, .ref (ad (20 + 3 * j))), (1, .ref (ad c1)), (3, .int (iI v3_4))]) C.1 C.2.1 dX4_takeOffAll_27 hl (k := 2) rfl (by rw [ev2_6]; exact iI_add _ _) (by decide) rfl (fun ls hl => ?_)
        refine lv_goto (tgt := 2) C.1 C.2.1 dX4_takeOffAll_30 (by decide) ?_
        exact ih2 v2_6 x_5 _ _ _ hw G (lv_sub hl [1, 2, 0] rfl)
      have hB9 : ∀ (n : Nat) (v3_4 : Int) (x_5 : Mm) (H : Heap) (locs : List Loc) (ls : Array Slot), lk2 (wB_X4_takeOffAll_9 j c1 v2_1 (wX_X4_takeOffAll_9 v2_1 bk_2)) n v3_4 x_5 → fG D cy L ad (fAr L ad s.heap.size) s x_5 H locs → lv_has ls 4 [(0, .ref (ad (20 + 3 * j))), (1, .ref (ad c1)), (2, .int (iI v2_1)), (3, .int (iI v3_4))] → W p l e (headSpec wsX4_takeOffAll rm_X4_takeOffAll).room s m args below meth c H locs 0 0 (fQv below D cy L ad s args post) (F0 m 9 ls []) := by
        intro n
        induction n with
        | zero =>
          intro v3_4 x_5 H locs ls hw
          exact hw.elim
        | succ n ih =>
          intro v3_4 x_5 H locs ls hw G hl
          exact hS9 _ _ hX9 ih v3_4 x_5 H locs ls hw G hl
      exact hB9 n9 0 x_2 _ _ _ hw G (lv_sub hl [1, 2, 3, 0] rfl)
  have hX2 : ∀ (v2_1 : Int) (x_2 : Mm) (H : Heap) (locs : List Loc) (ls : Array Slot), wX_X4_takeOffAll_2 post v2_1 x_2 → fG D cy L ad (fAr L ad s.heap.size) s x_2 H locs → lv_has ls 4 [(0, .ref (ad (20 + 3 * j))), (1, .ref (ad c1)), (2, .int (iI v2_1))] → W p l e (headSpec wsX4_takeOffAll rm_X4_takeOffAll).room s m args below meth c H locs 0 0 (fQv below D cy L ad s args post) (F0 m 33 ls []) := by
    intro v2_1 x_2 H locs ls hw G hl
    exact fr_vret C G hr hlk hw dX4_takeOffAll_33
  have hB2 : ∀ (n : Nat) (v2_1 : Int) (x_2 : Mm) (H : Heap) (locs : List Loc) (ls : Array Slot), lk2 (wB_X4_takeOffAll_2 j c1 (wX_X4_takeOffAll_2 post)) n v2_1 x_2 → fG D cy L ad (fAr L ad s.heap.size) s x_2 H locs → lv_has ls 4 [(0, .ref (ad (20 + 3 * j))), (1, .ref (ad c1)), (2, .int (iI v2_1))] → W p l e (headSpec wsX4_takeOffAll rm_X4_takeOffAll).room s m args below meth c H locs 0 0 (fQv below D cy L ad s args post) (F0 m 2 ls []) := by
    intro n
    induction n with
    | zero =>
      intro v2_1 x_2 H locs ls hw
      exact hw.elim
    | succ n ih =>
      intro v2_1 x_2 H locs ls hw G hl
      exact hS2 _ _ hX2 ih v2_1 x_2 H locs ls hw G hl
  exact hB2 n2 0 x _ _ _ hw G (lv_sub hl [1, 2, 0] rfl)
