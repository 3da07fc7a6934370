def wX_X2_dropTap_21 (a1 : Int) (x : Mm) (post : Mm → Prop) (v3_5 : Int) (x_6 : Mm) : Prop :=
  ∀ x_7 : Mm, x_7 = up2 x_6 2 1 ((x_6 2 1) - 1) → (0 ≤ x_7 2 1 ∧ x_7 2 1 < 12) ∧ (∀ x_9 : Mm, x_9 = up2 x_7 3 (x_7 2 1).toNat (x 3 (a1).toNat) → w_X2_sift x_9 (fun x_10 => post x_10))
def wB_X2_dropTap_21 (kx_21 bk_21 : Int → Mm → Prop) (v3_5 : Int) (x_6 : Mm) : Prop :=
  (rg (v3_5 + 1) ∧ rg (x_6 2 1)) ∧ (if (x_6 2 1) ≤ (v3_5 + 1) then (kx_21 v3_5 x_6) else ((0 ≤ v3_5 + 1 ∧ v3_5 + 1 < 12) ∧ (0 ≤ x_6 3 (v3_5 + 1).toNat ∧ x_6 3 (v3_5 + 1).toNat < 12) ∧ (0 ≤ v3_5 ∧ v3_5 < 12) ∧ (∀ x_15 : Mm, x_15 = up2 x_6 3 (v3_5).toNat (x_6 3 (v3_5 + 1).toNat) → ∀ v3_16 : Int, v3_16 = v3_5 + 1 → bk_21 v3_16 x_15)))
def w_X2_dropTap (a1 : Int) (x : Mm) (post : Mm → Prop) : Prop :=
  rg a1 ∧ (if a1 < 0 then (post x) else ((rg a1 ∧ rg (x 2 1)) ∧ (if (x 2 1) ≤ a1 then (post x) else ((0 ≤ a1 ∧ a1 < 12) ∧ (0 ≤ x 3 (a1).toNat ∧ x 3 (a1).toNat < 12) ∧ ∃ n : Nat, lk2 (wB_X2_dropTap_21 (wX_X2_dropTap_21 a1 x post)) n a1 x))))
abbrev rm_X2_dropTap : Room := { frames := 4, cells := 0, slots := 0, locals := 89 }
theorem iw_X2_dropTap_X2 : ∀ w ∈ u_ws RX2 TX2 7, w ∈ wsX2_dropTap := by decide +kernel
theorem fl_X2_dropTap_17 : Cond.fieldLink RX2 17 (TX2 1).1 (TX2 1).2.1 (TX2 1).2.2.1 ∈ wsX2_dropTap := by decide +kernel
theorem fl_X2_dropTap_11 : Cond.fieldLink RX2 11 (TX2 0).1 (TX2 0).2.1 (TX2 0).2.2.1 ∈ wsX2_dropTap := by decide +kernel
set_option maxHeartbeats 4000000 in
set_option maxRecDepth 100000 in
theorem c_X2_dropTap (l : Launch) (D : va_G) (cy : Nat → ClassId) (L : List Nat) (ad : Nat → Nat) (sz : Nat) (hL : fLH L) (a1 : Int) (x : Mm) (post : Mm → Prop) (hw : w_X2_dropTap a1 x post) : fMv l yX2_dropTap wsX2_dropTap rm_X2_dropTap [.ref (ad 2), .int (iI a1)] D cy L ad sz x post := by
  refine Met.ofW (cc := cX2_dropTap) (maxL := 4) (ret := none) (by decide) rfl ?_
  intro p e s m args below meth c s₁ B hml hv
  obtain ⟨hargs, hp⟩ := hv
  obtain ⟨C, hr, hlk, hsz, G⟩ := fr_start B hml hp
  subst hsz
  obtain ⟨ls, els, hl⟩ := fr_entry (m := m) (n := 4) hargs (Nat.le_of_ble_eq_true rfl)
  rw [els]
  have hl : lv_has ls 4 [(0, .ref (ad 2)), (1, .int (iI a1))] := hl
  clear els hargs hp B
  refine lv_iload_n C.1 C.2.1 dX2_dropTap_0 rfl (lv_at hl 1 rfl) ?_
  obtain ⟨hc_19, hw⟩ := hw
  refine fr_lt0 (tgt := 75) C dX2_dropTap_1 (by decide) hc_19 (fun q_1 => ?_) (fun q_1 => ?_)
  · have hw := if_p hw q_1
    exact fr_vret C G hr hlk hw dX2_dropTap_75
  · have hw := if_n hw q_1
    refine lv_iload_n C.1 C.2.1 dX2_dropTap_4 rfl (lv_at hl 1 rfl) ?_
    refine lv_aload_n C.1 C.2.1 dX2_dropTap_5 rfl (lv_at hl 0 rfl) ?_
    refine fr_get C G 2 (hL _ (by omega)) (cl_2 _) rfl iw_X2_dropTap_X2 1 (by decide) fl_X2_dropTap_17 rfl dX2_dropTap_6 ?_
    obtain ⟨hc_18, hw⟩ := hw
    refine fr_ge (tgt := 75) C dX2_dropTap_9 (by decide) hc_18 (fun q_2 => ?_) (fun q_2 => ?_)
    · have hw := if_p hw q_2
      exact fr_vret C G hr hlk hw dX2_dropTap_75
    · have hw := if_n hw q_2
      refine lv_aload_n C.1 C.2.1 dX2_dropTap_12 rfl (lv_at hl 0 rfl) ?_
      refine fr_get C G 2 (hL _ (by omega)) (cl_2 _) rfl iw_X2_dropTap_X2 0 (by decide) fl_X2_dropTap_11 rfl dX2_dropTap_13 ?_
      refine lv_iload_n C.1 C.2.1 dX2_dropTap_16 rfl (lv_at hl 1 rfl) ?_
      obtain ⟨hb_3, ht_4, hw⟩ := hw
      refine fr_atp C G (hL _ (by omega)) hb_3 dX2_dropTap_17 ?_
      refine lv_astore_n (lv' := [(2, .ref (ad (32 + 2 * (x 3 (a1).toNat).toNat))), (0, .ref (ad 2)), (1, .int (iI a1))]) C.1 C.2.1 dX2_dropTap_18 rfl hl (by decide) rfl (fun ls hl => ?_)
      refine lv_iload_n C.1 C.2.1 dX2_dropTap_19 rfl (lv_at hl 2 rfl) ?_
      refine lv_istore_n (lv' := [(3, .int (iI a1)), (2, .ref (ad (32 + 2 * (x 3 (a1).toNat).toNat))), (0, .ref (ad 2)), (1, .int (iI a1))]) C.1 C.2.1 dX2_dropTap_20 rfl hl (by decide) rfl (fun ls hl => ?_)
      obtain ⟨n21, hw⟩ := hw
      have hS21 : ∀ (kx_21 bk_21 : Int → Mm → Prop), (∀ (v3_5 : Int) (x_6 : Mm) (H : Heap) (locs : List Loc) (ls : Array Slot), kx_21 v3_5 x_6 → fG D cy L ad (fAr L ad s.heap.size) s x_6 H locs → lv_has ls 4 [(0, .ref (ad 2)), (1, .int (iI a1)), (2, .ref (ad (32 + 2 * (x 3 (a1).toNat).toNat))), (3, .int (iI v3_5))] → W p l e (headSpec wsX2_dropTap rm_X2_dropTap).room s m args below meth c H locs 0 0 (fQv below D cy L ad s args post) (F0 m 51 ls [])) → (∀ (v3_5 : Int) (x_6 : Mm) (H : Heap) (locs : List Loc) (ls : Array Slot), bk_21 v3_5 x_6 → fG D cy L ad (fAr L ad s.heap.size) s x_6 H locs → lv_has ls 4 [(0, .ref (ad 2)), (1, .int (iI a1)), (2, .ref (ad (32 + 2 * (x 3 (a1).toNat).toNat))), (3, .int (iI v3_5))] → W p l e (headSpec wsX2_dropTap rm_X2_dropTap).room s m args below meth c H locs 0 0 (fQv below D cy L ad s args post) (F0 m 21 ls [])) → ∀ (v3_5 : Int) (x_6 : Mm) (H : Heap) (locs : List Loc) (ls : Array Slot), wB_X2_dropTap_21 kx_21 bk_21 v3_5 x_6 → fG D cy L ad (fAr L ad s.heap.size) s x_6 H locs → lv_has ls 4 [(0, .ref (ad 2)), (1, .int (iI a1)), (2, .ref (ad (32 + 2 * (x 3 (a1).toNat).toNat))), (3, .int (iI v3_5))] → W p l e (headSpec wsX2_dropTap rm_X2_dropTap).room s m args below meth c H locs 0 0 (fQv below D cy L ad s args post) (F0 m 21 ls []) := by
        intro kx_21 bk_21 hX21 ih21 v3_5 x_6 H locs ls hw G hl
        refine lv_iload_n C.1 C.2.1 dX2_dropTap_21 rfl (lv_at hl 3 rfl) ?_
        refine fr_ic C dX2_dropTap_22 ?_
        refine fr_iadd C dX2_dropTap_23 ?_
        refine lv_aload_n C.1 C.2.1 dX2_dropTap_24 rfl (lv_at hl 0 rfl) ?_
        refine fr_get C G 2 (hL _ (by omega)) (cl_2 _) rfl iw_X2_dropTap_X2 1 (by decide) fl_X2_dropTap_17 rfl dX2_dropTap_25 ?_
        obtain ⟨hc_17, hw⟩ := hw
        refine fr_ge (tgt := 51) C dX2_dropTap_28 (by decide) hc_17 (fun q_11 => ?_) (fun q_11 => ?_)
        · have hw := if_p hw q_11
          exact hX21 v3_5 x_6 _ _ _ hw G (lv_sub hl [0, 1, 2, 3] rfl)
        · have hw := if_n hw q_11
          refine lv_aload_n C.1 C.2.1 dX2_dropTap_31 rfl (lv_at hl 0 rfl) ?_
          refine fr_get C G 2 (hL _ (by omega)) (cl_2 _) rfl iw_X2_dropTap_X2 0 (by decide) fl_X2_dropTap_11 rfl dX2_dropTap_32 ?_
          refine lv_iload_n C.1 C.2.1 dX2_dropTap_35 rfl (lv_at hl 3 rfl) ?_
          refine lv_aload_n C.1 C.2.1 dX2_dropTap_36 rfl (lv_at hl 0 rfl) ?_
          refine fr_get C G 2 (hL _ (by omega)) (cl_2 _) rfl iw_X2_dropTap_X2 0 (by decide) fl_X2_dropTap_11 rfl dX2_dropTap_37 ?_
          refine lv_iload_n C.1 C.2.1 dX2_dropTap_40 rfl (lv_at hl 3 rfl) ?_
          refine fr_ic C dX2_dropTap_41 ?_
          refine fr_iadd C dX2_dropTap_42 ?_
          obtain ⟨hb_12, ht_13, hw⟩ := hw
          refine fr_atp C G (hL _ (by omega)) hb_12 dX2_dropTap_43 ?_
          obtain ⟨hb_14, hw⟩ := hw
          refine fr_stp (v := x_6 3 (v3_5 + 1).toNat) C G (hL _ (by omega)) (by omega) (hL _ (by omega)) hb_14 dX2_dropTap_44 (fun x_15 H locs ex_15 G => ?_)
          have hw := hw x_15 ex_15
          obtain ⟨v3_16, ev3_16⟩ : ∃ z : Int, z = v3_5 + 1 := ⟨_, rfl⟩
          have hw := hw v3_16 ev3_16
          refine lv_iinc (v := iI v3_16) (lv' := [(3, .int (iI v3_16)), (0, .ref (ad 2)), (1, .int (iI a1)), (2, .ref (ad (32 + 2 * (x 3 (a1).toNat).toNat)))]) C.1 C.2.1 dX2_dropTap_45 hl (k := 3) rfl (by rw [ev3_16]; exact iI_add _ _) (by decide) rfl (fun ls hl => ?_)
          refine lv_goto (tgt := 21) C.1 C.2.1 dX2_dropTap_48 (by decide) ?_
          exact ih21 v3_16 x_15 _ _ _ hw G (lv_sub hl [1, 2, 3, 0] rfl)
      have hX21 : ∀ (v3_5 : Int) (x_6 : Mm) (H : Heap) (locs : List Loc) (ls : Array Slot), wX_X2_dropTap_21 a1 x post v3_5 x_6 → fG D cy L ad (fAr L ad s.heap.size) s x_6 H locs → lv_has ls 4 [(0, .ref (ad 2)), (1, .int (iI a1)), (2, .ref (ad (32 + 2 * (x 3 (a1).toNat).toNat))), (3, .int (iI v3_5))] → W p l e (headSpec wsX2_dropTap rm_X2_dropTap).room s m args below meth c H locs 0 0 (fQv below D cy L ad s args post) (F0 m 51 ls []) := by
        intro v3_5 x_6 H locs ls hw G hl
        refine lv_aload_n C.1 C.2.1 dX2_dropTap_51 rfl (lv_at hl 0 rfl) ?_
        refine lv_dup C.1 C.2.1 dX2_dropTap_52 rfl ?_
        refine fr_get C G 2 (hL _ (by omega)) (cl_2 _) rfl iw_X2_dropTap_X2 1 (by decide) fl_X2_dropTap_17 rfl dX2_dropTap_53 ?_
        refine fr_ic C dX2_dropTap_56 ?_
        refine fr_isub C dX2_dropTap_57 ?_
        refine fr_put C G 2 (hL _ (by omega)) (cl_2 _) rfl iw_X2_dropTap_X2 tyX2_ok nmX2 1 (by decide) fl_X2_dropTap_17 rfl (by decide +kernel) (Nat.le_of_ble_eq_true rfl) (st_2_1 _ _) dX2_dropTap_58 (fun x_7 H locs ex_7 G => ?_)
        have hw := hw x_7 ex_7
        refine lv_aload_n C.1 C.2.1 dX2_dropTap_61 rfl (lv_at hl 0 rfl) ?_
        refine fr_get C G 2 (hL _ (by omega)) (cl_2 _) rfl iw_X2_dropTap_X2 0 (by decide) fl_X2_dropTap_11 rfl dX2_dropTap_62 ?_
        refine lv_aload_n C.1 C.2.1 dX2_dropTap_65 rfl (lv_at hl 0 rfl) ?_
        refine fr_get C G 2 (hL _ (by omega)) (cl_2 _) rfl iw_X2_dropTap_X2 1 (by decide) fl_X2_dropTap_17 rfl dX2_dropTap_66 ?_
        refine lv_aload_n C.1 C.2.1 dX2_dropTap_69 rfl (lv_at hl 2 rfl) ?_
        obtain ⟨hb_8, hw⟩ := hw
        refine fr_stp (v := x 3 (a1).toNat) C G (hL _ (by omega)) (by omega) (hL _ (by omega)) hb_8 dX2_dropTap_70 (fun x_9 H locs ex_9 G => ?_)
        have hw := hw x_9 ex_9
        refine lv_aload_n C.1 C.2.1 dX2_dropTap_71 rfl (lv_at hl 0 rfl) ?_
        refine fr_Vv C G (c_X2_sift l D cy L ad _ hL x_9 _ hw) (cwV 0 C.2.2.2.2 gX2_dropTap_X2_sift rfl rfl rfl (by decide +kernel) ⟨Nat.le_of_ble_eq_true rfl, Nat.le_of_ble_eq_true rfl⟩) (G.recv (hL _ (by omega)) (cl_2 _) rfl) rfl hl.1 rfl (Nat.le_of_ble_eq_true rfl) dX2_dropTap_72 ⟨Nat.zero_le _, Nat.zero_le _⟩ (fun x_10 H locs hw G => ?_)
        exact fr_vret C G hr hlk hw dX2_dropTap_75
      have hB21 : ∀ (n : Nat) (v3_5 : Int) (x_6 : Mm) (H : Heap) (locs : List Loc) (ls : Array Slot), lk2 (wB_X2_dropTap_21 (wX_X2_dropTap_21 a1 x post)) n v3_5 x_6 → fG D cy L ad (fAr L ad s.heap.size) s x_6 H locs → lv_has ls 4 [(0, .ref (ad 2)), (1, .int (iI a1)), (2, .ref (ad (32 + 2 * (x 3 (a1).toNat).toNat))), (3, .int (iI v3_5))] → W p l e (headSpec wsX2_dropTap rm_X2_dropTap).room s m args below meth c H locs 0 0 (fQv below D cy L ad s args post) (F0 m 21 ls []) := by
        intro n
        induction n with
        | zero =>
          intro v3_5 x_6 H locs ls hw
          exact hw.elim
        | succ n ih =>
          intro v3_5 x_6 H locs ls hw G hl
          exact hS21 _ _ hX21 ih v3_5 x_6 H locs ls hw G hl
      exact hB21 n21 a1 x _ _ _ hw G (lv_sub hl [2, 3, 1, 0] rfl)
def wX_X2_leastTone_6 (post : Int → Mm → Prop) (v2_1 : Int) (v3_2 : Int) (x_3 : Mm) : Prop :=
  post v2_1 x_3
def wB_X2_leastTone_6 (c1 : Nat) (kx_6 bk_6 : Int → Int → Mm → Prop) (v2_1 : Int) (v3_2 : Int) (x_3 : Mm) : Prop :=
  rg v3_2 ∧ (if 9 < v3_2 then (kx_6 v2_1 v3_2 x_3) else ((0 ≤ v3_2 ∧ v3_2 < 10) ∧ rg (x_3 6 (v3_2).toNat) ∧ (if (x_3 6 (v3_2).toNat) ≤ 0 then (∀ v3_7 : Int, v3_7 = v3_2 + 1 → bk_6 v2_1 v3_7 x_3) else ((0 ≤ v3_2 ∧ v3_2 < 10) ∧ (0 ≤ v3_2 ∧ v3_2 < 10) ∧ w_X5_byWeight (x_3 c1 (v3_2).toNat) (x_3 6 (v3_2).toNat) x_3 (fun z_11 x_10 => (rg v2_1 ∧ rg z_11) ∧ ∀ v2_13 : Int, v2_13 = min v2_1 z_11 → ∀ v3_14 : Int, v3_14 = v3_2 + 1 → bk_6 v2_13 v3_14 x_10)))))
def w_X2_leastTone (c1 : Nat) (x : Mm) (post : Int → Mm → Prop) : Prop :=
  ∃ n : Nat, lk3 (wB_X2_leastTone_6 c1 (wX_X2_leastTone_6 post)) n 512 1 x
abbrev rm_X2_leastTone : Room := { frames := 1, cells := 0, slots := 0, locals := 21 }
theorem iw_X2_leastTone_X2 : ∀ w ∈ u_ws RX2 TX2 7, w ∈ wsX2_leastTone := by decide +kernel
theorem fl_X2_leastTone_31 : Cond.fieldLink RX2 31 (TX2 5).1 (TX2 5).2.1 (TX2 5).2.2.1 ∈ wsX2_leastTone := by decide +kernel
theorem mw_X2_leastTone_74_0 : Cond.methodLink RX2 74 Lib.Math.min.name ∈ wsX2_leastTone := by decide +kernel
theorem mw_X2_leastTone_74_1 : Cond.static Lib.Math.min.name ∈ wsX2_leastTone := by decide +kernel
theorem mw_X2_leastTone_74_2 : Cond.initialized "java/lang/Math" ∈ wsX2_leastTone := by decide +kernel
theorem mw_X2_leastTone_74_3 : Cond.code Lib.Math.min.name Lib.Math.min.code 2 (some .int) ∈ wsX2_leastTone := by decide +kernel
set_option maxHeartbeats 4000000 in
set_option maxRecDepth 100000 in
theorem c_X2_leastTone (l : Launch) (D : va_G) (cy : Nat → ClassId) (L : List Nat) (ad : Nat → Nat) (sz : Nat) (hL : fLH L) (c1 : Nat) (hc1 : c1 ∈ L) (hlc1 : al c1 = 10) (x : Mm) (post : Int → Mm → Prop) (hw : w_X2_leastTone c1 x post) : fMi l yX2_leastTone wsX2_leastTone rm_X2_leastTone [.ref (ad 2), .ref (ad c1)] D cy L ad sz x post := by
  refine Met.ofW (cc := cX2_leastTone) (maxL := 4) (ret := (some .int)) (by decide) rfl ?_
  intro p e s m args below meth c s₁ B hml hv
  obtain ⟨hargs, hp⟩ := hv
  obtain ⟨C, hr, hlk, hsz, G⟩ := fr_start B hml hp
  subst hsz
  obtain ⟨ls, els, hl⟩ := fr_entry (m := m) (n := 4) hargs (Nat.le_of_ble_eq_true rfl)
  rw [els]
  have hl : lv_has ls 4 [(0, .ref (ad 2)), (1, .ref (ad c1))] := hl
  clear els hargs hp B
  refine fr_si C dX2_leastTone_0 rfl ?_
  refine lv_istore_n (lv' := [(2, .int (iI 512)), (0, .ref (ad 2)), (1, .ref (ad c1))]) C.1 C.2.1 dX2_leastTone_3 rfl hl (by decide) rfl (fun ls hl => ?_)
  refine fr_ic C dX2_leastTone_4 ?_
  refine lv_istore_n (lv' := [(3, .int (iI 1)), (2, .int (iI 512)), (0, .ref (ad 2)), (1, .ref (ad c1))]) C.1 C.2.1 dX2_leastTone_5 rfl hl (by decide) rfl (fun ls hl => ?_)
  obtain ⟨n6, hw⟩ := hw
  have hS6 : ∀ (kx_6 bk_6 : Int → Int → Mm → Prop), (∀ (v2_1 : Int) (v3_2 : Int) (x_3 : Mm) (H : Heap) (locs : List Loc) (ls : Array Slot), kx_6 v2_1 v3_2 x_3 → fG D cy L ad (fAr L ad s.heap.size) s x_3 H locs → lv_has ls 4 [(0, .ref (ad 2)), (1, .ref (ad c1)), (2, .int (iI v2_1)), (3, .int (iI v3_2))] → W p l e (headSpec wsX2_leastTone rm_X2_leastTone).room s m args below meth c H locs 0 0 (fQi below D cy L ad s args post) (F0 m 44 ls [])) → (∀ (v2_1 : Int) (v3_2 : Int) (x_3 : Mm) (H : Heap) (locs : List Loc) (ls : Array Slot), bk_6 v2_1 v3_2 x_3 → fG D cy L ad (fAr L ad s.heap.size) s x_3 H locs → lv_has ls 4 [(0, .ref (ad 2)), (1, .ref (ad c1)), (2, .int (iI v2_1)), (3, .int (iI v3_2))] → W p l e (headSpec wsX2_leastTone rm_X2_leastTone).room s m args below meth c H locs 0 0 (fQi below D cy L ad s args post) (F0 m 6 ls [])) → ∀ (v2_1 : Int) (v3_2 : Int) (x_3 : Mm) (H : Heap) (locs : List Loc) (ls : Array Slot), wB_X2_leastTone_6 c1 kx_6 bk_6 v2_1 v3_2 x_3 → fG D cy L ad (fAr L ad s.heap.size) s x_3 H locs → lv_has ls 4 [(0, .ref (ad 2)), (1, .ref (ad c1)), (2, .int (iI v2_1)), (3, .int (iI v3_2))] → W p l e (headSpec wsX2_leastTone rm_X2_leastTone).room s m args below meth c H locs 0 0 (fQi below D cy L ad s args post) (F0 m 6 ls []) := by
    intro kx_6 bk_6 hX6 ih6 v2_1 v3_2 x_3 H locs ls hw G hl
    refine lv_iload_n C.1 C.2.1 dX2_leastTone_6 rfl (lv_at hl 3 rfl) ?_
    refine fr_bi C dX2_leastTone_7 rfl ?_
    obtain ⟨hc_16, hw⟩ := hw
    refine fr_gt (tgt := 44) C dX2_leastTone_9 (by decide) ⟨hc_16, ⟨by decide, by decide⟩⟩ (fun q_4 => ?_) (fun q_4 => ?_)
    · have hw := if_p hw q_4
      exact hX6 v2_1 v3_2 x_3 _ _ _ hw G (lv_sub hl [0, 1, 2, 3] rfl)
    · have hw := if_n hw q_4
      refine lv_aload_n C.1 C.2.1 dX2_leastTone_12 rfl (lv_at hl 0 rfl) ?_
      refine fr_get C G 2 (hL _ (by omega)) (cl_2 _) rfl iw_X2_leastTone_X2 5 (by decide) fl_X2_leastTone_31 rfl dX2_leastTone_13 ?_
      refine lv_iload_n C.1 C.2.1 dX2_leastTone_16 rfl (lv_at hl 3 rfl) ?_
      obtain ⟨hb_5, hw⟩ := hw
      refine fr_iald C G 6 10 (hL _ (by omega)) rfl ⟨by decide, by decide⟩ hb_5 dX2_leastTone_17 ?_
      obtain ⟨hc_15, hw⟩ := hw
      refine fr_le0 (tgt := 38) C dX2_leastTone_18 (by decide) hc_15 (fun q_6 => ?_) (fun q_6 => ?_)
      · have hw := if_p hw q_6
        obtain ⟨v3_7, ev3_7⟩ : ∃ z : Int, z = v3_2 + 1 := ⟨_, rfl⟩
        have hw := hw v3_7 ev3_7
        refine lv_iinc (v := iI v3_7) (lv' := [(3, .int (iI v3_7)), (0, .ref (ad 2)), (1, .ref (ad c1)), (2, .int (iI v2_1))]) C.1 C.2.1 dX2_leastTone_38 hl (k := 3) rfl (by rw [ev3_7]; exact iI_add _ _) (by decide) rfl (fun ls hl => ?_)
        refine lv_goto (tgt := 6) C.1 C.2.1 dX2_leastTone_41 (by decide) ?_
        exact ih6 v2_1 v3_7 x_3 _ _ _ hw G (lv_sub hl [1, 2, 3, 0] rfl)
      · have hw := if_n hw q_6
        refine lv_iload_n C.1 C.2.1 dX2_leastTone_21 rfl (lv_at hl 2 rfl) ?_
        refine lv_aload_n C.1 C.2.1 dX2_leastTone_22 rfl (lv_at hl 1 rfl) ?_
        refine lv_iload_n C.1 C.2.1 dX2_leastTone_23 rfl (lv_at hl 3 rfl) ?_
        obtain ⟨hb_8, hw⟩ := hw
        refine fr_iald C G c1 10 hc1 hlc1 ⟨by decide, by decide⟩ hb_8 dX2_leastTone_24 ?_
        refine lv_aload_n C.1 C.2.1 dX2_leastTone_25 rfl (lv_at hl 0 rfl) ?_
        refine fr_get C G 2 (hL _ (by omega)) (cl_2 _) rfl iw_X2_leastTone_X2 5 (by decide) fl_X2_leastTone_31 rfl dX2_leastTone_26 ?_
        refine lv_iload_n C.1 C.2.1 dX2_leastTone_29 rfl (lv_at hl 3 rfl) ?_
        obtain ⟨hb_9, hw⟩ := hw
        refine fr_iald C G 6 10 (hL _ (by omega)) rfl ⟨by decide, by decide⟩ hb_9 dX2_leastTone_30 ?_
        refine fr_Si C G (c_X5_byWeight l D cy L ad _ (x_3 c1 (v3_2).toNat) (x_3 6 (v3_2).toNat) x_3 _ hw) (va_cwS 2 C.2.2.2.2 gX2_leastTone_X5_byWeight rfl rfl rfl (by decide +kernel) ⟨Nat.le_of_ble_eq_true rfl, Nat.le_of_ble_eq_true rfl⟩) rfl hl.1 rfl (Nat.le_of_ble_eq_true rfl) dX2_leastTone_31 ⟨Nat.zero_le _, Nat.zero_le _⟩ (fun z_11 x_10 H locs hw G => ?_)
        obtain ⟨hm_12, hw⟩ := hw
        refine fr_mmin C hl.1 mw_X2_leastTone_74_0 mw_X2_leastTone_74_1 mw_X2_leastTone_74_2 mw_X2_leastTone_74_3 (by decide) (Nat.le_of_ble_eq_true rfl) (Nat.zero_le _) (Nat.zero_le _) hm_12 dX2_leastTone_34 ?_
        refine fr_nm (fun v2_13 ev2_13 => ?_)
        have hw := hw v2_13 ev2_13
        refine lv_istore_n (lv' := [(2, .int (iI v2_13)), (0, .ref (ad 2)), (1, .ref (ad c1)), (3, .int (iI v3_2))]) C.1 C.2.1 dX2_leastTone_37 rfl hl (by decide) rfl (fun ls hl => ?_)
        obtain ⟨v3_14, ev3_14⟩ : ∃ z : Int, z = v3_2 + 1 := ⟨_, rfl⟩
        have hw := hw v3_14 ev3_14
        refine lv_iinc (v := iI v3_14) (lv' := [(3, .int (iI v3_14)), (2, .int (iI v2_13)), (0, .ref (ad 2)), (1, .ref (ad c1))]) C.1 C.2.1 dX2_leastTone_38 hl (k := 3) rfl (by rw [ev3_14]; exact iI_add _ _) (by decide) rfl (fun ls hl => ?_)
        refine lv_goto (tgt := 6) C.1 C.2.1 dX2_leastTone_41 (by decide) ?_
        exact ih6 v2_13 v3_14 x_10 _ _ _ hw G (lv_sub hl [2, 3, 1, 0] rfl)
  have hX6 : ∀ (v2_1 : Int) (v3_2 : Int) (x_3 : Mm) (H : Heap) (locs : List Loc) (ls : Array Slot), wX_X2_leastTone_6 post v2_1 v3_2 x_3 → fG D cy L ad (fAr L ad s.heap.size) s x_3 H locs → lv_has ls 4 [(0, .ref (ad 2)), (1, .ref (ad c1)), (2, .int (iI v2_1)), (3, .int (iI v3_2))] → W p l e (headSpec wsX2_leastTone rm_X2_leastTone).room s m args below meth c H locs 0 0 (fQi below D cy L ad s args post) (F0 m 44 ls []) := by
    intro v2_1 v3_2 x_3 H locs ls hw G hl
    refine lv_iload_n C.1 C.2.1 dX2_leastTone_44 rfl (lv_at hl 2 rfl) ?_
    exact fr_iret C G hr hlk hw dX2_leastTone_45
  have hB6 : ∀ (n : Nat) (v2_1 : Int) (v3_2 : Int) (x_3 : Mm) (H : Heap) (locs : List Loc) (ls : Array Slot), lk3 (wB_X2_leastTone_6 c1 (wX_X2_leastTone_6 post)) n v2_1 v3_2 x_3 → fG D cy L ad (fAr L ad s.heap.size) s x_3 H locs → lv_has ls 4 [(0, .ref (ad 2)), (1, .ref (ad c1)), (2, .int (iI v2_1)), (3, .int (iI v3_2))] → W p l e (headSpec wsX2_leastTone rm_X2_leastTone).room s m args below meth c H locs 0 0 (fQi below D cy L ad s args post) (F0 m 6 ls []) := by
    intro n
    induction n with
    | zero =>
      intro v2_1 v3_2 x_3 H locs ls hw
      exact hw.elim
    | succ n ih =>
      intro v2_1 v3_2 x_3 H locs ls hw G hl
      exact hS6 _ _ hX6 ih v2_1 v3_2 x_3 H locs ls hw G hl
  exact hB6 n6 512 1 x _ _ _ hw G (lv_sub hl [2, 3, 1, 0] rfl)
def wX_X2_greatestTone_4 (post : Int → Mm → Prop) (v2_1 : Int) (v3_2 : Int) (x_3 : Mm) : Prop :=
  post v2_1 x_3
def wB_X2_greatestTone_4 (c1 : Nat) (kx_4 bk_4 : Int → Int → Mm → Prop) (v2_1 : Int) (v3_2 : Int) (x_3 : Mm) : Prop :=
  rg v3_2 ∧ (if 9 < v3_2 then (kx_4 v2_1 v3_2 x_3) else ((0 ≤ v3_2 ∧ v3_2 < 10) ∧ rg (x_3 7 (v3_2).toNat) ∧ (if (x_3 7 (v3_2).toNat) ≤ 0 then (∀ v3_7 : Int, v3_7 = v3_2 + 1 → bk_4 v2_1 v3_7 x_3) else ((0 ≤ v3_2 ∧ v3_2 < 10) ∧ (0 ≤ v3_2 ∧ v3_2 < 10) ∧ w_X5_byWeight (x_3 c1 (v3_2).toNat) (x_3 7 (v3_2).toNat) x_3 (fun z_11 x_10 => (rg v2_1 ∧ rg z_11) ∧ ∀ v2_13 : Int, v2_13 = max v2_1 z_11 → ∀ v3_14 : Int, v3_14 = v3_2 + 1 → bk_4 v2_13 v3_14 x_10)))))
def w_X2_greatestTone (c1 : Nat) (x : Mm) (post : Int → Mm → Prop) : Prop :=
  ∃ n : Nat, lk3 (wB_X2_greatestTone_4 c1 (wX_X2_greatestTone_4 post)) n 0 1 x
abbrev rm_X2_greatestTone : Room := { frames := 1, cells := 0, slots := 0, locals := 21 }
theorem iw_X2_greatestTone_X2 : ∀ w ∈ u_ws RX2 TX2 7, w ∈ wsX2_greatestTone := by decide +kernel
theorem fl_X2_greatestTone_34 : Cond.fieldLink RX2 34 (TX2 6).1 (TX2 6).2.1 (TX2 6).2.2.1 ∈ wsX2_greatestTone := by decide +kernel
theorem mw_X2_greatestTone_79_0 : Cond.methodLink RX2 79 Lib.Math.max.name ∈ wsX2_greatestTone := by decide +kernel
theorem mw_X2_greatestTone_79_1 : Cond.static Lib.Math.max.name ∈ wsX2_greatestTone := by decide +kernel
theorem mw_X2_greatestTone_79_2 : Cond.initialized "java/lang/Math" ∈ wsX2_greatestTone := by decide +kernel
theorem mw_X2_greatestTone_79_3 : Cond.code Lib.Math.max.name Lib.Math.max.code 2 (some .int) ∈ wsX2_greatestTone := by decide +kernel
set_option maxHeartbeats 4000000 in
set_option maxRecDepth 100000 in
theorem c_X2_greatestTone (l : Launch) (D : va_G) (cy : Nat → ClassId) (L : List Nat) (ad : Nat → Nat) (sz : Nat) (hL : fLH L) (c1 : Nat) (hc1 : c1 ∈ L) (hlc1 : al c1 = 10) (x : Mm) (post : Int → Mm → Prop) (hw : w_X2_greatestTone c1 x post) : fMi l yX2_greatestTone wsX2_greatestTone rm_X2_greatestTone [.ref (ad 2), .ref (ad c1)] D cy L ad sz x post := by
  refine Met.ofW (cc := cX2_greatestTone) (maxL := 4) (ret := (some .int)) (by decide) rfl ?_
  intro p e s m args below meth c s₁ B hml hv
  obtain ⟨hargs, hp⟩ := hv
  obtain ⟨C, hr, hlk, hsz, G⟩ := fr_start B hml hp
  subst hsz
  obtain ⟨ls, els, hl⟩ := fr_entry (m := m) (n := 4) hargs (Nat.le_of_ble_eq_true rfl)
  rw [els]
  have hl : lv_has ls 4 [(0, .ref (ad 2)), (1, .ref (ad c1))] := hl
  clear els hargs hp B
  refine fr_ic C dX2_greatestTone_0 ?_
  refine lv_istore_n (lv' := [(2, .int (iI 0)), (0, .ref (ad 2)), (1, .ref (ad c1))]) C.1 C.2.1 dX2_greatestTone_1 rfl hl (by decide) rfl (fun ls hl => ?_)
  refine fr_ic C dX2_greatestTone_2 ?_
  refine lv_istore_n (lv' := [(3, .int (iI 1)), (2, .int (iI 0)), (0, .ref (ad 2)), (1, .ref (ad c1))]) C.1 C.2.1 dX2_greatestTone_3 rfl hl (by decide) rfl (fun ls hl => ?_)
  obtain ⟨n4, hw⟩ := hw
  have hS4 : ∀ (kx_4 bk_4 : Int → Int → Mm → Prop), (∀ (v2_1 : Int) (v3_2 : Int) (x_3 : Mm) (H : Heap) (locs : List Loc) (ls : Array Slot), kx_4 v2_1 v3_2 x_3 → fG D cy L ad (fAr L ad s.heap.size) s x_3 H locs → lv_has ls 4 [(0, .ref (ad 2)), (1, .ref (ad c1)), (2, .int (iI v2_1)), (3, .int (iI v3_2))] → W p l e (headSpec wsX2_greatestTone rm_X2_greatestTone).room s m args below meth c H locs 0 0 (fQi below D cy L ad s args post) (F0 m 42 ls [])) → (∀ (v2_1 : Int) (v3_2 : Int) (x_3 : Mm) (H : Heap) (locs : List Loc) (ls : Array Slot), bk_4 v2_1 v3_2 x_3 → fG D cy L ad (fAr L ad s.heap.size) s x_3 H locs → lv_has ls 4 [(0, .ref (ad 2)), (1, .ref (ad c1)), (2, .int (iI v2_1)), (3, .int (iI v3_2))] → W p l e (headSpec wsX2_greatestTone rm_X2_greatestTone).room s m args below meth c H locs 0 0 (fQi below D cy L ad s args post) (F0 m 4 ls [])) → ∀ (v2_1 : Int) (v3_2 : Int) (x_3 : Mm) (H : Heap) (locs : List Loc) (ls : Array Slot), wB_X2_greatestTone_4 c1 kx_4 bk_4 v2_1 v3_2 x_3 → fG D cy L ad (fAr L ad s.heap.size) s x_3 H locs → lv_has ls 4 [(0, .ref (ad 2)), (1, .ref (ad c1)), (2, .int (iI v2_1)), (3, .int (iI v3_2))] → W p l e (headSpec wsX2_greatestTone rm_X2_greatestTone).room s m args below meth c H locs 0 0 (fQi below D cy L ad s args post) (F0 m 4 ls []) := by
    intro kx_4 bk_4 hX4 ih4 v2_1 v3_2 x_3 H locs ls hw G hl
    refine lv_iload_n C.1 C.2.1 dX2_greatestTone_4 rfl (lv_at hl 3 rfl) ?_
    refine fr_bi C dX2_greatestTone_5 rfl ?_
    obtain ⟨hc_16, hw⟩ := hw
    refine fr_gt (tgt := 42) C dX2_greatestTone_7 (by decide) ⟨hc_16, ⟨by decide, by decide⟩⟩ (fun q_4 => ?_) (fun q_4 => ?_)
    · have hw := if_p hw q_4
      exact hX4 v2_1 v3_2 x_3 _ _ _ hw G (lv_sub hl [0, 1, 2, 3] rfl)
    · have hw := if_n hw q_4
      refine lv_aload_n C.1 C.2.1 dX2_greatestTone_10 rfl (lv_at hl 0 rfl) ?_
      refine fr_get C G 2 (hL _ (by omega)) (cl_2 _) rfl iw_X2_greatestTone_X2 6 (by decide) fl_X2_greatestTone_34 rfl dX2_greatestTone_11 ?_
      refine lv_iload_n C.1 C.2.1 dX2_greatestTone_14 rfl (lv_at hl 3 rfl) ?_
      obtain ⟨hb_5, hw⟩ := hw
      refine fr_iald C G 7 10 (hL _ (by omega)) rfl ⟨by decide, by decide⟩ hb_5 dX2_greatestTone_15 ?_
      obtain ⟨hc_15, hw⟩ := hw
      refine fr_le0 (tgt := 36) C dX2_greatestTone_16 (by decide) hc_15 (fun q_6 => ?_) (fun q_6 => ?_)
      · have hw := if_p hw q_6
        obtain ⟨v3_7, ev3_7⟩ : ∃ z : Int, z = v3_2 + 1 := ⟨_, rfl⟩
        have hw := hw v3_7 ev3_7
        refine lv_iinc (v := iI v3_7) (lv' := [(3, .int (iI v3_7)), (0, .ref (ad 2)), (1, .ref (ad c1)), (2, .int (iI v2_1))]) C.1 C.2.1 dX2_greatestTone_36 hl (k := 3) rfl (by rw [ev3_7]; exact iI_add _ _) (by decide) rfl (fun ls hl => ?_)
        refine lv_goto (tgt := 4) C.1 C.2.1 dX2_greatestTone_39 (by decide) ?_
        exact ih4 v2_1 v3_7 x_3 _ _ _ hw G (lv_sub hl [1, 2, 3, 0] rfl)
      · have hw := if_n hw q_6
        refine lv_iload_n C.1 C.2.1 dX2_greatestTone_19 rfl (lv_at hl 2 rfl) ?_
        refine lv_aload_n C.1 C.2.1 dX2_greatestTone_20 rfl (lv_at hl 1 rfl) ?_
        refine lv_iload_n C.1 C.2.1 dX2_greatestTone_21 rfl (lv_at hl 3 rfl) ?_
        obtain ⟨hb_8, hw⟩ := hw
        refine fr_iald C G c1 10 hc1 hlc1 ⟨by decide, by decide⟩ hb_8 dX2_greatestTone_22 ?_
        refine lv_aload_n C.1 C.2.1 dX2_greatestTone_23 rfl (lv_at hl 0 rfl) ?_
        refine fr_get C G 2 (hL _ (by omega)) (cl_2 _) rfl iw_X2_greatestTone_X2 6 (by decide) fl_X2_greatestTone_34 rfl dX2_greatestTone_24 ?_
        refine lv_iload_n C.1 C.2.1 dX2_greatestTone_27 rfl (lv_at hl 3 rfl) ?_
        obtain ⟨hb_9, hw⟩ := hw
        refine fr_iald C G 7 10 (hL _ (by omega)) rfl ⟨by decide, by decide⟩ hb_9 dX2_greatestTone_28 ?_
        refine fr_Si C G (c_X5_byWeight l D cy L ad _ (x_3 c1 (v3_2).toNat) (x_3 7 (v3_2).toNat) x_3 _ hw) (va_cwS 2 C.2.2.2.2 gX2_greatestTone_X5_byWeight rfl rfl rfl (by decide +kernel) ⟨Nat.le_of_ble_eq_true rfl, Nat.le_of_ble_eq_true rfl⟩) rfl hl.1 rfl (Nat.le_of_ble_eq_true rfl) dX2_greatestTone_29 ⟨Nat.zero_le _, Nat.zero_le _⟩ (fun z_11 x_10 H locs hw G => ?_)
        obtain ⟨hm_12, hw⟩ := hw
        refine fr_mmax C hl.1 mw_X2_greatestTone_79_0 mw_X2_greatestTone_79_1 mw_X2_greatestTone_79_2 mw_X2_greatestTone_79_3 (by decide) (Nat.le_of_ble_eq_true rfl) (Nat.zero_le _) (Nat.zero_le _) hm_12 dX2_greatestTone_32 ?_
        refine fr_nm (fun v2_13 ev2_13 => ?_)
        have hw := hw v2_13 ev2_13
        refine lv_istore_n (lv' := [(2, .int (iI v2_13)), (0, .ref (ad 2)), (1, .ref (ad c1)), (3, .int (iI v3_2))]) C.1 C.2.1 dX2_greatestTone_35 rfl hl (by decide) rfl (fun ls hl => ?_)
        obtain ⟨v3_14, ev3_14⟩ : ∃ z : Int, z = v3_2 + 1 := ⟨_, rfl⟩
        have hw := hw v3_14 ev3_14
        refine lv_iinc (v := iI v3_14) (lv' := [(3, .int (iI v3_14)), (2, .int (iI v2_13)), (0, .ref (ad 2)), (1, .ref (ad c1))]) C.1 C.2.1 dX2_greatestTone_36 hl (k := 3) rfl (by rw [ev3_14]; exact iI_add _ _) (by decide) rfl (fun ls hl => ?_)
        refine lv_goto (tgt := 4) C.1 C.2.1 dX2_greatestTone_39 (by decide) ?_
        exact ih4 v2_13 v3_14 x_10 _ _ _ hw G (lv_sub hl [2, 3, 1, 0] rfl)
  have hX4 : ∀ (v2_1 : Int) (v3_2 : Int) (x_3 : Mm) (H : Heap) (locs : List Loc) (ls : Array Slot), wX_X2_greatestTone_4 post v2_1 v3_2 x_3 → fG D cy L ad (fAr L ad s.heap.size) s x_3 H locs → lv_has ls 4 [(0, .ref (ad 2)), (1, .ref (ad c1)), (2, .int (iI v2_1)), (3, .int (iI v3_2))] → W p l e (headSpec wsX2_greatestTone rm_X2_greatestTone).room s m args below meth c H locs 0 0 (fQi below D cy L ad s args post) (F0 m 42 ls []) := by
    intro v2_1 v3_2 x_3 H locs ls hw G hl
    refine lv_iload_n C.1 C.2.1 dX2_greatestTone_42 rfl (lv_at hl 2 rfl) ?_
    exact fr_iret C G hr hlk hw dX2_greatestTone_43
  have hB4 : ∀ (n : Nat) (v2_1 : Int) (v3_2 : Int) (x_3 : Mm) (H : Heap) (locs : List Loc) (ls : Array Slot), lk3 (wB_X2_greatestTone_4 c1 (wX_X2_greatestTone_4 post)) n v2_1 v3_2 x_3 → fG D cy L ad (fAr L ad s.heap.size) s x_3 H locs → lv_has ls 4 [(0, .ref (ad 2)), (1, .ref (ad c1)), (2, .int (iI v2_1)), (3, .int (iI v3_2))] → W p l e (headSpec wsX2_greatestTone rm_X2_greatestTone).room s m args below meth c H locs 0 0 (fQi below D cy L ad s args post) (F0 m 4 ls []) := by
    intro n
    induction n with
    | zero =>
      intro v2_1 v3_2 x_3 H locs ls hw
      exact hw.elim
    | succ n ih =>
      intro v2_1 v3_2 x_3 H locs ls hw G hl
      exact hS4 _ _ hX4 ih v2_1 v3_2 x_3 H locs ls hw G hl
  exact hB4 n4 0 1 x _ _ _ hw G (lv_sub hl [2, 3, 1, 0] rfl)
def wX_X2_farthest_5 (post : Int → Mm → Prop) (v3_1 : Int) (v4_2 : Int) (x_3 : Mm) : Prop :=
  post v3_1 x_3
def wB_X2_farthest_5 (c1 : Nat) (c2 : Nat) (kx_5 bk_5 : Int → Int → Mm → Prop) (v3_1 : Int) (v4_2 : Int) (x_3 : Mm) : Prop :=
  (rg v4_2 ∧ rg (x_3 2 4)) ∧ (if (x_3 2 4) ≤ v4_2 then (kx_5 v3_1 v4_2 x_3) else (w_X2_toneOfLeft c1 v4_2 x_3 (fun z_6 x_5 => w_X2_toneOfLeft c2 v4_2 x_5 (fun z_8 x_7 => rg (z_6 - z_8) ∧ ∀ v5_10 : Int, v5_10 = (if 0 ≤ z_6 - z_8 then z_6 - z_8 else -(z_6 - z_8)) → (rg v3_1 ∧ rg v5_10) ∧ ∀ v3_12 : Int, v3_12 = max v3_1 v5_10 → ∀ v4_13 : Int, v4_13 = v4_2 + 1 → bk_5 v3_12 v4_13 x_7))))
def w_X2_farthest (c1 c2 : Nat) (x : Mm) (post : Int → Mm → Prop) : Prop :=
  ∃ n : Nat, lk3 (wB_X2_farthest_5 c1 c2 (wX_X2_farthest_5 post)) n 0 0 x
abbrev rm_X2_farthest : Room := { frames := 2, cells := 0, slots := 0, locals := 43 }
theorem iw_X2_farthest_X2 : ∀ w ∈ u_ws RX2 TX2 7, w ∈ wsX2_farthest := by decide +kernel
theorem fl_X2_farthest_28 : Cond.fieldLink RX2 28 (TX2 4).1 (TX2 4).2.1 (TX2 4).2.2.1 ∈ wsX2_farthest := by decide +kernel
theorem mw_X2_farthest_86_0 : Cond.methodLink RX2 86 Lib.Math.abs.name ∈ wsX2_farthest := by decide +kernel
theorem mw_X2_farthest_86_1 : Cond.static Lib.Math.abs.name ∈ wsX2_farthest := by decide +kernel
theorem mw_X2_farthest_86_2 : Cond.initialized "java/lang/Math" ∈ wsX2_farthest := by decide +kernel
theorem mw_X2_farthest_86_3 : Cond.code Lib.Math.abs.name Lib.Math.abs.code 1 (some .int) ∈ wsX2_farthest := by decide +kernel
theorem mw_X2_farthest_79_0 : Cond.methodLink RX2 79 Lib.Math.max.name ∈ wsX2_farthest := by decide +kernel
theorem mw_X2_farthest_79_1 : Cond.static Lib.Math.max.name ∈ wsX2_farthest := by decide +kernel
theorem mw_X2_farthest_79_2 : Cond.initialized "java/lang/Math" ∈ wsX2_farthest := by decide +kernel
theorem mw_X2_farthest_79_3 : Cond.code Lib.Math.max.name Lib.Math.max.code 2 (some .int) ∈ wsX2_farthest := by decide +kernel
set_option maxHeartbeats 4000000 in
set_option maxRecDepth 100000 in
theorem c_X2_farthest (l : Launch) (D : va_G) (cy : Nat → ClassId) (L : List Nat) (ad : Nat → Nat) (sz : Nat) (hL : fLH L) (c1 : Nat) (hc1 : c1 ∈ L) (hlc1 : al c1 = 10) (c2 : Nat) (hc2 : c2 ∈ L) (hlc2 : al c2 = 10) (x : Mm) (post : Int → Mm → Prop) (hw : w_X2_farthest c1 c2 x post) : fMi l yX2_farthest wsX2_farthest rm_X2_farthest [.ref (ad 2), .ref (ad c1), .ref (ad c2)] D cy L ad sz x post := by
  refine Met.ofW (cc := cX2_farthest) (maxL := 6) (ret := (some .int)) (by decide) rfl ?_
  intro p e s m args below meth c s₁ B hml hv
  obtain ⟨hargs, hp⟩ := hv
  obtain ⟨C, hr, hlk, hsz, G⟩ := fr_start B hml hp
  subst hsz
  obtain ⟨ls, els, hl⟩ := fr_entry (m := m) (n := 6) hargs (Nat.le_of_ble_eq_true rfl)
  rw [els]
  have hl : lv_has ls 6 [(0, .ref (ad 2)), (1, .ref (ad c1)), (2, .ref (ad c2))] := hl
  clear els hargs hp B
  refine fr_ic C dX2_farthest_0 ?_
  refine lv_istore_n (lv' := [(3, .int (iI 0)), (0, .ref (ad 2)), (1, .ref (ad c1)), (2, .ref (ad c2))]) C.1 C.2.1 dX2_farthest_1 rfl hl (by decide) rfl (fun ls hl => ?_)
  refine fr_ic C dX2_farthest_2 ?_
  refine lv_istore (lv' := [(4, .int (iI 0)), (3, .int (iI 0)), (0, .ref (ad 2)), (1, .ref (ad c1)), (2, .ref (ad c2))]) C.1 C.2.1 dX2_farthest_3 hl (by decide) rfl (fun ls hl => ?_)
  obtain ⟨n5, hw⟩ := hw
  have hS5 : ∀ (kx_5 bk_5 : Int → Int → Mm → Prop), (∀ (v3_1 : Int) (v4_2 : Int) (x_3 : Mm) (H : Heap) (locs : List Loc) (ls : Array Slot), kx_5 v3_1 v4_2 x_3 → fG D cy L ad (fAr L ad s.heap.size) s x_3 H locs → lv_has ls 6 [(0, .ref (ad 2)), (1, .ref (ad c1)), (2, .ref (ad c2)), (3, .int (iI v3_1)), (4, .int (iI v4_2))] → W p l e (headSpec wsX2_farthest rm_X2_farthest).room s m args below meth c H locs 0 0 (fQi below D cy L ad s args post) (F0 m 47 ls [])) → (∀ (v3_1 : Int) (v4_2 : Int) (x_3 : Mm) (H : Heap) (locs : List Loc) (ls : Array Slot), bk_5 v3_1 v4_2 x_3 → fG D cy L ad (fAr L ad s.heap.size) s x_3 H locs → lv_has ls 6 [(0, .ref (ad 2)), (1, .ref (ad c1)), (2, .ref (ad c2)), (3, .int (iI v3_1)), (4, .int (iI v4_2))] → W p l e (headSpec wsX2_farthest rm_X2_farthest).room s m args below meth c H locs 0 0 (fQi below D cy L ad s args post) (F0 m 5 ls [])) → ∀ (v3_1 : Int) (v4_2 : Int) (x_3 : Mm) (H : Heap) (locs : List Loc) (ls : Array Slot), wB_X2_farthest_5 c1 c2 kx_5 bk_5 v3_1 v4_2 x_3 → fG D cy L ad (fAr L ad s.heap.size) s x_3 H locs → lv_has ls 6 [(0, .ref (ad 2)), (1, .ref (ad c1)), (2, .ref (ad c2)), (3, .int (iI v3_1)), (4, .int (iI v4_2))] → W p l e (headSpec wsX2_farthest rm_X2_farthest).room s m args below meth c H locs 0 0 (fQi below D cy L ad s args post) (F0 m 5 ls []) := by
    intro kx_5 bk_5 hX5 ih5 v3_1 v4_2 x_3 H locs ls hw G hl
    refine lv_iload C.1 C.2.1 dX2_farthest_5 (lv_at hl 4 rfl) ?_
    refine lv_aload_n C.1 C.2.1 dX2_farthest_7 rfl (lv_at hl 0 rfl) ?_
    refine fr_get C G 2 (hL _ (by omega)) (cl_2 _) rfl iw_X2_farthest_X2 4 (by decide) fl_X2_farthest_28 rfl dX2_farthest_8 ?_
    obtain ⟨hc_14, hw⟩ := hw
    refine fr_ge (tgt := 47) C dX2_farthest_11 (by decide) hc_14 (fun q_4 => ?_) (fun q_4 => ?_)
    · have hw := if_p hw q_4
      exact hX5 v3_1 v4_2 x_3 _ _ _ hw G (lv_sub hl [0, 1, 2, 3, 4] rfl)
    · have hw := if_n hw q_4
      refine lv_aload_n C.1 C.2.1 dX2_farthest_14 rfl (lv_at hl 0 rfl) ?_
      refine lv_iload C.1 C.2.1 dX2_farthest_15 (lv_at hl 4 rfl) ?_
      refine lv_aload_n C.1 C.2.1 dX2_farthest_17 rfl (lv_at hl 1 rfl) ?_
      refine fr_Vi C G (c_X2_toneOfLeft l D cy L ad _ hL c1 hc1 hlc1 v4_2 x_3 _ hw) (cwV 2 C.2.2.2.2 gX2_farthest_X2_toneOfLeft rfl rfl rfl (by decide +kernel) ⟨Nat.le_of_ble_eq_true rfl, Nat.le_of_ble_eq_true rfl⟩) (G.recv (hL _ (by omega)) (cl_2 _) rfl) rfl hl.1 rfl (Nat.le_of_ble_eq_true rfl) dX2_farthest_18 ⟨Nat.zero_le _, Nat.zero_le _⟩ (fun z_6 x_5 H locs hw G => ?_)
      refine lv_aload_n C.1 C.2.1 dX2_farthest_21 rfl (lv_at hl 0 rfl) ?_
      refine lv_iload C.1 C.2.1 dX2_farthest_22 (lv_at hl 4 rfl) ?_
      refine lv_aload_n C.1 C.2.1 dX2_farthest_24 rfl (lv_at hl 2 rfl) ?_
      refine fr_Vi C G (c_X2_toneOfLeft l D cy L ad _ hL c2 hc2 hlc2 v4_2 x_5 _ hw) (cwV 2 C.2.2.2.2 gX2_farthest_X2_toneOfLeft rfl rfl rfl (by decide +kernel) ⟨Nat.le_of_ble_eq_true rfl, Nat.le_of_ble_eq_true rfl⟩) (G.recv (hL _ (by omega)) (cl_2 _) rfl) rfl hl.1 rfl (Nat.le_of_ble_eq_true rfl) dX2_farthest_25 ⟨Nat.zero_le _, Nat.zero_le _⟩ (fun z_8 x_7 H locs hw G => ?_)
      refine fr_isub C dX2_farthest_28 ?_
      obtain ⟨hm_9, hw⟩ := hw
      refine fr_mabs C hl.1 mw_X2_farthest_86_0 mw_X2_farthest_86_1 mw_X2_farthest_86_2 mw_X2_farthest_86_3 (by decide) (Nat.le_of_ble_eq_true rfl) (Nat.zero_le _) (Nat.zero_le _) hm_9 dX2_farthest_29 ?_
      refine fr_nm (fun v5_10 ev5_10 => ?_)
      have hw := hw v5_10 ev5_10
      refine lv_istore (lv' := [(5, .int (iI v5_10)), (0, .ref (ad 2)), (1, .ref (ad c1)), (2, .ref (ad c2)), (3, .int (iI v3_1)), (4, .int (iI v4_2))]) C.1 C.2.1 dX2_farthest_32 hl (by decide) rfl (fun ls hl => ?_)
      refine lv_iload_n C.1 C.2.1 dX2_farthest_34 rfl (lv_at hl 4 rfl) ?_
      refine lv_iload C.1 C.2.1 dX2_farthest_35 (lv_at hl 0 rfl) ?_
      obtain ⟨hm_11, hw⟩ := hw
      refine fr_mmax C hl.1 mw_X2_farthest_79_0 mw_X2_farthest_79_1 mw_X2_farthest_79_2 mw_X2_farthest_79_3 (by decide) (Nat.le_of_ble_eq_true rfl) (Nat.zero_le _) (Nat.zero_le _) hm_11 dX2_farthest_37 ?_
      refine fr_nm (fun v3_12 ev3_12 => ?_)
      have hw := hw v3_12 ev3_12
      refine lv_istore_n (lv' := [(3, .int (iI v3_12)), (5, .int (iI v5_10)), (0, .ref (ad 2)), (1, .ref (ad c1)), (2, .ref (ad c2)), (4, .int (iI v4_2))]) C.1 C.2.1 dX2_farthest_40 rfl hl (by decide) rfl (fun ls hl => ?_)
      obtain ⟨v4_13, ev4_13⟩ : ∃ z : Int, z = v4_2 + 1 := ⟨_, rfl⟩
      have hw := hw v4_13 ev4_13
      refine lv_iinc (v := iI v4_13) (lv' := [(4, .int (iI v4_13)), (3, .int (iI v3_12)), (5, .int (iI v5_10)), (0, .ref (ad 2)), (1, .ref (ad c1)), (2, .ref (ad c2))]) C.1 C.2.1 dX2_farthest_41 hl (k := 5) rfl (by rw [ev4_13]; exact iI_add _ _) (by decide) rfl (fun ls hl => ?_)
      refine lv_goto (tgt := 5) C.1 C.2.1 dX2_farthest_44 (by decide) ?_
      exact ih5 v3_12 v4_13 x_7 _ _ _ hw G (lv_sub hl [3, 4, 5, 1, 0] rfl)
  have hX5 : ∀ (v3_1 : Int) (v4_2 : Int) (x_3 : Mm) (H : Heap) (locs : List Loc) (ls : Array Slot), wX_X2_farthest_5 post v3_1 v4_2 x_3 → fG D cy L ad (fAr L ad s.heap.size) s x_3 H locs → lv_has ls 6 [(0, .ref (ad 2)), (1, .ref (ad c1)), (2, .ref (ad c2)), (3, .int (iI v3_1)), (4, .int (iI v4_2))] → W p l e (headSpec wsX2_farthest rm_X2_farthest).room s m args below meth c H locs 0 0 (fQi below D cy L ad s args post) (F0 m 47 ls []) := by
    intro v3_1 v4_2 x_3 H locs ls hw G hl
    refine lv_iload_n C.1 C.2.1 dX2_farthest_47 rfl (lv_at hl 3 rfl) ?_
    exact fr_iret C G hr hlk hw dX2_farthest_48
  have hB5 : ∀ (n : Nat) (v3_1 : Int) (v4_2 : Int) (x_3 : Mm) (H : Heap) (locs : List Loc) (ls : Array Slot), lk3 (wB_X2_farthest_5 c1 c2 (wX_X2_farthest_5 post)) n v3_1 v4_2 x_3 → fG D cy L ad (fAr L ad s.heap.size) s x_3 H locs → lv_has ls 6 [(0, .ref (ad 2)), (1, .ref (ad c1)), (2, .ref (ad c2)), (3, .int (iI v3_1)), (4, .int (iI v4_2))] → W p l e (headSpec wsX2_farthest rm_X2_farthest).room s m args below meth c H locs 0 0 (fQi below D cy L ad s args post) (F0 m 5 ls []) := by
    intro n
    induction n with
    | zero =>
      intro v3_1 v4_2 x_3 H locs ls hw
      exact hw.elim
    | succ n ih =>
      intro v3_1 v4_2 x_3 H locs ls hw G hl
      exact hS5 _ _ hX5 ih v3_1 v4_2 x_3 H locs ls hw G hl
  exact hB5 n5 0 0 x _ _ _ hw G (lv_sub hl [2, 3, 4, 1, 0] rfl)
def w_X3_forget (x : Mm) (post : Mm → Prop) : Prop :=
  ∀ x_1 : Mm, x_1 = up2 x 12 4 (-1) → post x_1
abbrev rm_X3_forget : Room := { frames := 0, cells := 0, slots := 0, locals := 0 }
theorem iw_X3_forget_X3 : ∀ w ∈ u_ws RX3 TX3 5, w ∈ wsX3_forget := by decide +kernel
theorem fl_X3_forget_25 : Cond.fieldLink RX3 25 (TX3 4).1 (TX3 4).2.1 (TX3 4).2.2.1 ∈ wsX3_forget := by decide +kernel
set_option maxHeartbeats 4000000 in
set_option maxRecDepth 100000 in
theorem c_X3_forget (l : Launch) (D : va_G) (cy : Nat → ClassId) (L : List Nat) (ad : Nat → Nat) (sz : Nat) (hL : fLA L) (x : Mm) (post : Mm → Prop) (hw : w_X3_forget x post) : fMv l yX3_forget wsX3_forget rm_X3_forget [.ref (ad 12)] D cy L ad sz x post := by
  refine Met.ofW (cc := cX3_forget) (maxL := 1) (ret := none) (by decide) rfl ?_
  intro p e s m args below meth c s₁ B hml hv
  obtain ⟨hargs, hp⟩ := hv
  obtain ⟨C, hr, hlk, hsz, G⟩ := fr_start B hml hp
  subst hsz
  obtain ⟨ls, els, hl⟩ := fr_entry (m := m) (n := 1) hargs (Nat.le_of_ble_eq_true rfl)
  rw [els]
  have hl : lv_has ls 1 [(0, .ref (ad 12))] := hl
  clear els hargs hp B
  refine lv_aload_n C.1 C.2.1 dX3_forget_0 rfl (lv_at hl 0 rfl) ?_
  refine fr_ic C dX3_forget_1 ?_
  refine fr_put C G 12 (hL _ (by omega)) (cl_12 _) rfl iw_X3_forget_X3 tyX3_ok nmX3 4 (by decide) fl_X3_forget_25 rfl (by decide +kernel) (Nat.le_of_ble_eq_true rfl) (st_12_4 _ _) dX3_forget_2 (fun x_1 H locs ex_1 G => ?_)
  have hw := hw x_1 ex_1
  exact fr_vret C G hr hlk hw dX3_forget_5
