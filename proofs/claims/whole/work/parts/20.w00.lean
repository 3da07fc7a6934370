def w_X7_isTone (a1 : Int) (x : Mm) (post : Int → Mm → Prop) : Prop :=
  rg a1 ∧ (if a1 < 0 then (post 0 x) else (rg a1 ∧ (if 4 ≤ a1 then (post 0 x) else (post 1 x))))
abbrev rm_X7_isTone : Room := { frames := 0, cells := 0, slots := 0, locals := 0 }
set_option maxHeartbeats 4000000 in
set_option maxRecDepth 100000 in
theorem c_X7_isTone (l : Launch) (D : va_G) (cy : Nat → ClassId) (L : List Nat) (ad : Nat → Nat) (sz : Nat) (a1 : Int) (x : Mm) (post : Int → Mm → Prop) (hw : w_X7_isTone a1 x post) : fMi l yX7_isTone wsX7_isTone rm_X7_isTone [.int (iI a1)] D cy L ad sz x post := by
  refine Met.ofW (cc := cX7_isTone) (maxL := 1) (ret := (some .boolean)) (by decide) rfl ?_
  intro p e s m args below meth c s₁ B hml hv
  obtain ⟨hargs, hp⟩ := hv
  obtain ⟨C, hr, hlk, hsz, G⟩ := fr_start B hml hp
  subst hsz
  obtain ⟨ls, els, hl⟩ := fr_entry (m := m) (n := 1) hargs (Nat.le_of_ble_eq_true rfl)
  rw [els]
  have hl : lv_has ls 1 [(0, .int (iI a1))] := hl
  clear els hargs hp B
  refine lv_iload_n C.1 C.2.1 dX7_isTone_0 rfl (lv_at hl 0 rfl) ?_
  obtain ⟨hc_4, hw⟩ := hw
  refine fr_lt0 (tgt := 13) C dX7_isTone_1 (by decide) hc_4 (fun q_1 => ?_) (fun q_1 => ?_)
  · have hw := if_p hw q_1
    refine fr_ic C dX7_isTone_13 ?_
    exact fr_zret C G hr hlk (by decide) hw dX7_isTone_14
  · have hw := if_n hw q_1
    refine lv_iload_n C.1 C.2.1 dX7_isTone_4 rfl (lv_at hl 0 rfl) ?_
    refine fr_ic C dX7_isTone_5 ?_
    obtain ⟨hc_3, hw⟩ := hw
    refine fr_ge (tgt := 13) C dX7_isTone_6 (by decide) ⟨hc_3, ⟨by decide, by decide⟩⟩ (fun q_2 => ?_) (fun q_2 => ?_)
    · have hw := if_p hw q_2
      refine fr_ic C dX7_isTone_13 ?_
      exact fr_zret C G hr hlk (by decide) hw dX7_isTone_14
    · have hw := if_n hw q_2
      refine fr_ic C dX7_isTone_9 ?_
      refine lv_goto (tgt := 14) C.1 C.2.1 dX7_isTone_10 (by decide) ?_
      exact fr_zret C G hr hlk (by decide) hw dX7_isTone_14
def w_X0_put (a1 a2 a3 : Int) (x : Mm) (post : Mm → Prop) : Prop :=
  w_X7_isTone a1 x (fun z_2 x_1 => rg z_2 ∧ (if z_2 = 0 then (post x_1) else ((0 ≤ a1 ∧ a1 < 4) ∧ (∀ x_5 : Mm, x_5 = up2 x_1 9 (a1).toNat 1 → (0 ≤ a1 ∧ a1 < 4) ∧ (∀ x_7 : Mm, x_7 = up2 x_5 10 (a1).toNat a2 → (0 ≤ a1 ∧ a1 < 4) ∧ (∀ x_9 : Mm, x_9 = up2 x_7 11 (a1).toNat a3 → post x_9))))))
abbrev rm_X0_put : Room := { frames := 1, cells := 0, slots := 0, locals := 20 }
theorem iw_X0_put_X0 : ∀ w ∈ u_ws RX0 TX0 3, w ∈ wsX0_put := by decide +kernel
theorem fl_X0_put_9 : Cond.fieldLink RX0 9 (TX0 0).1 (TX0 0).2.1 (TX0 0).2.2.1 ∈ wsX0_put := by decide +kernel
theorem fl_X0_put_15 : Cond.fieldLink RX0 15 (TX0 1).1 (TX0 1).2.1 (TX0 1).2.2.1 ∈ wsX0_put := by decide +kernel
theorem fl_X0_put_19 : Cond.fieldLink RX0 19 (TX0 2).1 (TX0 2).2.1 (TX0 2).2.2.1 ∈ wsX0_put := by decide +kernel
theorem sw_X0_put_22 : Cond.static yX7_isTone ∈ wsX0_put := by decide +kernel
theorem nw_X0_put_22 : Cond.initialized RX7 ∈ wsX0_put := by decide +kernel
set_option maxHeartbeats 4000000 in
set_option maxRecDepth 100000 in
theorem c_X0_put (l : Launch) (D : va_G) (cy : Nat → ClassId) (L : List Nat) (ad : Nat → Nat) (sz : Nat) (hL : fLA L) (a1 a2 a3 : Int) (x : Mm) (post : Mm → Prop) (hw : w_X0_put a1 a2 a3 x post) : fMv l yX0_put wsX0_put rm_X0_put [.ref (ad 8), .int (iI a1), .int (iI a2), .int (iI a3)] D cy L ad sz x post := by
  refine Met.ofW (cc := cX0_put) (maxL := 4) (ret := none) (by decide) rfl ?_
  intro p e s m args below meth c s₁ B hml hv
  obtain ⟨hargs, hp⟩ := hv
  obtain ⟨C, hr, hlk, hsz, G⟩ := fr_start B hml hp
  subst hsz
  obtain ⟨ls, els, hl⟩ := fr_entry (m := m) (n := 4) hargs (Nat.le_of_ble_eq_true rfl)
  rw [els]
  have hl : lv_has ls 4 [(0, .ref (ad 8)), (1, .int (iI a1)), (2, .int (iI a2)), (3, .int (iI a3))] := hl
  clear els hargs hp B
  refine lv_iload_n C.1 C.2.1 dX0_put_0 rfl (lv_at hl 1 rfl) ?_
  refine fr_SNi C G (c_X7_isTone l D cy L ad _ a1 x _ hw) ⟨va_cnB 1 C.2.2.2.2 gX0_put_X7_isTone_n22 rfl rfl rfl G.2.2.2.2.2.1 (C.2.2.2.2 _ nw_X0_put_22) (by decide +kernel) ⟨Nat.le_of_ble_eq_true rfl, Nat.le_of_ble_eq_true rfl⟩, C.2.2.2.2 _ sw_X0_put_22, trivial⟩ rfl hl.1 rfl (Nat.le_of_ble_eq_true rfl) dX0_put_1 ⟨Nat.zero_le _, Nat.zero_le _⟩ (fun z_2 x_1 H locs hw G => ?_)
  obtain ⟨hc_10, hw⟩ := hw
  refine fr_eq0 (tgt := 28) C dX0_put_4 (by decide) hc_10 (fun q_3 => ?_) (fun q_3 => ?_)
  · have hw := if_p hw q_3
    exact fr_vret C G hr hlk hw dX0_put_28
  · have hw := if_n hw q_3
    refine lv_aload_n C.1 C.2.1 dX0_put_7 rfl (lv_at hl 0 rfl) ?_
    refine fr_get C G 8 (hL _ (by omega)) (cl_8 _) rfl iw_X0_put_X0 0 (by decide) fl_X0_put_9 rfl dX0_put_8 ?_
    refine lv_iload_n C.1 C.2.1 dX0_put_11 rfl (lv_at hl 1 rfl) ?_
    refine fr_ic C dX0_put_12 ?_
    obtain ⟨hb_4, hw⟩ := hw
    refine fr_zast C G 9 (hL _ (by omega)) (fun r => cl_9 r) (by decide) hb_4 dX0_put_13 (fun x_5 H locs ex_5 G => ?_)
    have hw := hw x_5 ex_5
    refine lv_aload_n C.1 C.2.1 dX0_put_14 rfl (lv_at hl 0 rfl) ?_
    refine fr_get C G 8 (hL _ (by omega)) (cl_8 _) rfl iw_X0_put_X0 1 (by decide) fl_X0_put_15 rfl dX0_put_15 ?_
    refine lv_iload_n C.1 C.2.1 dX0_put_18 rfl (lv_at hl 1 rfl) ?_
    refine lv_iload_n C.1 C.2.1 dX0_put_19 rfl (lv_at hl 2 rfl) ?_
    obtain ⟨hb_6, hw⟩ := hw
    refine fr_iast C G 10 4 (hL _ (by omega)) rfl ⟨by decide, by decide⟩ hb_6 dX0_put_20 (fun x_7 H locs ex_7 G => ?_)
    have hw := hw x_7 ex_7
    refine lv_aload_n C.1 C.2.1 dX0_put_21 rfl (lv_at hl 0 rfl) ?_
    refine fr_get C G 8 (hL _ (by omega)) (cl_8 _) rfl iw_X0_put_X0 2 (by decide) fl_X0_put_19 rfl dX0_put_22 ?_
    refine lv_iload_n C.1 C.2.1 dX0_put_25 rfl (lv_at hl 1 rfl) ?_
    refine lv_iload_n C.1 C.2.1 dX0_put_26 rfl (lv_at hl 3 rfl) ?_
    obtain ⟨hb_8, hw⟩ := hw
    refine fr_iast C G 11 4 (hL _ (by omega)) rfl ⟨by decide, by decide⟩ hb_8 dX0_put_27 (fun x_9 H locs ex_9 G => ?_)
    have hw := hw x_9 ex_9
    exact fr_vret C G hr hlk hw dX0_put_28
def wX_X0_clear_2 (post : Mm → Prop) (v1_1 : Int) (x_2 : Mm) : Prop :=
  post x_2
def wB_X0_clear_2 (kx_2 bk_2 : Int → Mm → Prop) (v1_1 : Int) (x_2 : Mm) : Prop :=
  rg v1_1 ∧ (if 4 ≤ v1_1 then (kx_2 v1_1 x_2) else ((0 ≤ v1_1 ∧ v1_1 < 4) ∧ (∀ x_5 : Mm, x_5 = up2 x_2 9 (v1_1).toNat 0 → ∀ v1_6 : Int, v1_6 = v1_1 + 1 → bk_2 v1_6 x_5)))
def w_X0_clear (x : Mm) (post : Mm → Prop) : Prop :=
  ∃ n : Nat, lk2 (wB_X0_clear_2 (wX_X0_clear_2 post)) n 0 x
abbrev rm_X0_clear : Room := { frames := 0, cells := 0, slots := 0, locals := 0 }
theorem iw_X0_clear_X0 : ∀ w ∈ u_ws RX0 TX0 3, w ∈ wsX0_clear := by decide +kernel
theorem fl_X0_clear_9 : Cond.fieldLink RX0 9 (TX0 0).1 (TX0 0).2.1 (TX0 0).2.2.1 ∈ wsX0_clear := by decide +kernel
set_option maxHeartbeats 4000000 in
set_option maxRecDepth 100000 in
theorem c_X0_clear (l : Launch) (D : va_G) (cy : Nat → ClassId) (L : List Nat) (ad : Nat → Nat) (sz : Nat) (hL : fLA L) (x : Mm) (post : Mm → Prop) (hw : w_X0_clear x post) : fMv l yX0_clear wsX0_clear rm_X0_clear [.ref (ad 8)] D cy L ad sz x post := by
  refine Met.ofW (cc := cX0_clear) (maxL := 2) (ret := none) (by decide) rfl ?_
  intro p e s m args below meth c s₁ B hml hv
  obtain ⟨hargs, hp⟩ := hv
  obtain ⟨C, hr, hlk, hsz, G⟩ := fr_start B hml hp
  subst hsz
  obtain ⟨ls, els, hl⟩ := fr_entry (m := m) (n := 2) hargs (Nat.le_of_ble_eq_true rfl)
  rw [els]
  have hl : lv_has ls 2 [(0, .ref (ad 8))] := hl
  clear els hargs hp B
  refine fr_ic C dX0_clear_0 ?_
  refine lv_istore_n (lv' := [(1, .int (iI 0)), (0, .ref (ad 8))]) C.1 C.2.1 dX0_clear_1 rfl hl (by decide) rfl (fun ls hl => ?_)
  obtain ⟨n2, hw⟩ := hw
  have hS2 : ∀ (kx_2 bk_2 : Int → Mm → Prop), (∀ (v1_1 : Int) (x_2 : Mm) (H : Heap) (locs : List Loc) (ls : Array Slot), kx_2 v1_1 x_2 → fG D cy L ad (fAr L ad s.heap.size) s x_2 H locs → lv_has ls 2 [(0, .ref (ad 8)), (1, .int (iI v1_1))] → W p l e (headSpec wsX0_clear rm_X0_clear).room s m args below meth c H locs 0 0 (fQv below D cy L ad s args post) (F0 m 20 ls [])) → (∀ (v1_1 : Int) (x_2 : Mm) (H : Heap) (locs : List Loc) (ls : Array Slot), bk_2 v1_1 x_2 → fG D cy L ad (fAr L ad s.heap.size) s x_2 H locs → lv_has ls 2 [(0, .ref (ad 8)), (1, .int (iI v1_1))] → W p l e (headSpec wsX0_clear rm_X0_clear).room s m args below meth c H locs 0 0 (fQv below D cy L ad s args post) (F0 m 2 ls [])) → ∀ (v1_1 : Int) (x_2 : Mm) (H : Heap) (locs : List Loc) (ls : Array Slot), wB_X0_clear_2 kx_2 bk_2 v1_1 x_2 → fG D cy L ad (fAr L ad s.heap.size) s x_2 H locs → lv_has ls 2 [(0, .ref (ad 8)), (1, .int (iI v1_1))] → W p l e (headSpec wsX0_clear rm_X0_clear).room s m args below meth c H locs 0 0 (fQv below D cy L ad s args post) (F0 m 2 ls []) := by
    intro kx_2 bk_2 hX2 ih2 v1_1 x_2 H locs ls hw G hl
    refine lv_iload_n C.1 C.2.1 dX0_clear_2 rfl (lv_at hl 1 rfl) ?_
    refine fr_ic C dX0_clear_3 ?_
    obtain ⟨hc_7, hw⟩ := hw
    refine fr_ge (tgt := 20) C dX0_clear_4 (by decide) ⟨hc_7, ⟨by decide, by decide⟩⟩ (fun q_3 => ?_) (fun q_3 => ?_)
    · have hw := if_p hw q_3
      exact hX2 v1_1 x_2 _ _ _ hw G (lv_sub hl [0, 1] rfl)
    · have hw := if_n hw q_3
      refine lv_aload_n C.1 C.2.1 dX0_clear_7 rfl (lv_at hl 0 rfl) ?_
      refine fr_get C G 8 (hL _ (by omega)) (cl_8 _) rfl iw_X0_clear_X0 0 (by decide) fl_X0_clear_9 rfl dX0_clear_8 ?_
      refine lv_iload_n C.1 C.2.1 dX0_clear_11 rfl (lv_at hl 1 rfl) ?_
      refine fr_ic C dX0_clear_12 ?_
      obtain ⟨hb_4, hw⟩ := hw
      refine fr_zast C G 9 (hL _ (by omega)) (fun r => cl_9 r) (by decide) hb_4 dX0_clear_13 (fun x_5 H locs ex_5 G => ?_)
      have hw := hw x_5 ex_5
      obtain ⟨v1_6, ev1_6⟩ : ∃ z : Int, z = v1_1 + 1 := ⟨_, rfl⟩
      have hw := hw v1_6 ev1_6
      refine lv_iinc (v := iI v1_6) (lv' := [(1, .int (iI v1_6)), (0, .ref (ad 8))]) C.1 C.2.1 dX0_clear_14 hl (k := 1) rfl (by rw [ev1_6]; exact iI_add _ _) (by decide) rfl (fun ls hl => ?_)
      refine lv_goto (tgt := 2) C.1 C.2.1 dX0_clear_17 (by decide) ?_
      exact ih2 v1_6 x_5 _ _ _ hw G (lv_sub hl [1, 0] rfl)
  have hX2 : ∀ (v1_1 : Int) (x_2 : Mm) (H : Heap) (locs : List Loc) (ls : Array Slot), wX_X0_clear_2 post v1_1 x_2 → fG D cy L ad (fAr L ad s.heap.size) s x_2 H locs → lv_has ls 2 [(0, .ref (ad 8)), (1, .int (iI v1_1))] → W p l e (headSpec wsX0_clear rm_X0_clear).room s m args below meth c H locs 0 0 (fQv below D cy L ad s args post) (F0 m 20 ls []) := by
    intro v1_1 x_2 H locs ls hw G hl
    exact fr_vret C G hr hlk hw dX0_clear_20
  have hB2 : ∀ (n : Nat) (v1_1 : Int) (x_2 : Mm) (H : Heap) (locs : List Loc) (ls : Array Slot), lk2 (wB_X0_clear_2 (wX_X0_clear_2 post)) n v1_1 x_2 → fG D cy L ad (fAr L ad s.heap.size) s x_2 H locs → lv_has ls 2 [(0, .ref (ad 8)), (1, .int (iI v1_1))] → W p l e (headSpec wsX0_clear rm_X0_clear).room s m args below meth c H locs 0 0 (fQv below D cy L ad s args post) (F0 m 2 ls []) := by
    intro n
    induction n with
    | zero =>
      intro v1_1 x_2 H locs ls hw
      exact hw.elim
    | succ n ih =>
      intro v1_1 x_2 H locs ls hw G hl
      exact hS2 _ _ hX2 ih v1_1 x_2 H locs ls hw G hl
  exact hB2 n2 0 x _ _ _ hw G (lv_sub hl [1, 0] rfl)
def wX_X0_spans_4 (x : Mm) (post : Int → Mm → Prop) (v1_1 : Int) (v2_2 : Int) : Prop :=
  post v1_1 x
def wB_X0_spans_4 (x : Mm) (kx_4 bk_4 : Int → Int → Prop) (v1_1 : Int) (v2_2 : Int) : Prop :=
  rg v2_2 ∧ (if 4 ≤ v2_2 then (kx_4 v1_1 v2_2) else ((0 ≤ v2_2 ∧ v2_2 < 4) ∧ rg (x 9 (v2_2).toNat) ∧ (if (x 9 (v2_2).toNat) = 0 then (∀ v2_6 : Int, v2_6 = v2_2 + 1 → bk_4 v1_1 v2_6) else (∀ v1_7 : Int, v1_7 = v1_1 + 1 → ∀ v2_8 : Int, v2_8 = v2_2 + 1 → bk_4 v1_7 v2_8))))
def w_X0_spans (x : Mm) (post : Int → Mm → Prop) : Prop :=
  ∃ n : Nat, lk2 (wB_X0_spans_4 x (wX_X0_spans_4 x post)) n 0 0
abbrev rm_X0_spans : Room := { frames := 0, cells := 0, slots := 0, locals := 0 }
theorem iw_X0_spans_X0 : ∀ w ∈ u_ws RX0 TX0 3, w ∈ wsX0_spans := by decide +kernel
theorem fl_X0_spans_9 : Cond.fieldLink RX0 9 (TX0 0).1 (TX0 0).2.1 (TX0 0).2.2.1 ∈ wsX0_spans := by decide +kernel
set_option maxHeartbeats 4000000 in
set_option maxRecDepth 100000 in
theorem c_X0_spans (l : Launch) (D : va_G) (cy : Nat → ClassId) (L : List Nat) (ad : Nat → Nat) (sz : Nat) (hL : fLA L) (x : Mm) (post : Int → Mm → Prop) (hw : w_X0_spans x post) : fMi l yX0_spans wsX0_spans rm_X0_spans [.ref (ad 8)] D cy L ad sz x post := by
  refine Met.ofW (cc := cX0_spans) (maxL := 3) (ret := (some .int)) (by decide) rfl ?_
  intro p e s m args below meth c s₁ B hml hv
  obtain ⟨hargs, hp⟩ := hv
  obtain ⟨C, hr, hlk, hsz, G⟩ := fr_start B hml hp
  subst hsz
  obtain ⟨ls, els, hl⟩ := fr_entry (m := m) (n := 3) hargs (Nat.le_of_ble_eq_true rfl)
  rw [els]
  have hl : lv_has ls 3 [(0, .ref (ad 8))] := hl
  clear els hargs hp B
  refine fr_ic C dX0_spans_0 ?_
  refine lv_istore_n (lv' := [(1, .int (iI 0)), (0, .ref (ad 8))]) C.1 C.2.1 dX0_spans_1 rfl hl (by decide) rfl (fun ls hl => ?_)
  refine fr_ic C dX0_spans_2 ?_
  refine lv_istore_n (lv' := [(2, .int (iI 0)), (1, .int (iI 0)), (0, .ref (ad 8))]) C.1 C.2.1 dX0_spans_3 rfl hl (by decide) rfl (fun ls hl => ?_)
  obtain ⟨n4, hw⟩ := hw
  have hS4 : ∀ (kx_4 bk_4 : Int → Int → Prop), (∀ (v1_1 : Int) (v2_2 : Int) (H : Heap) (locs : List Loc) (ls : Array Slot), kx_4 v1_1 v2_2 → fG D cy L ad (fAr L ad s.heap.size) s x H locs → lv_has ls 3 [(0, .ref (ad 8)), (1, .int (iI v1_1)), (2, .int (iI v2_2))] → W p l e (headSpec wsX0_spans rm_X0_spans).room s m args below meth c H locs 0 0 (fQi below D cy L ad s args post) (F0 m 27 ls [])) → (∀ (v1_1 : Int) (v2_2 : Int) (H : Heap) (locs : List Loc) (ls : Array Slot), bk_4 v1_1 v2_2 → fG D cy L ad (fAr L ad s.heap.size) s x H locs → lv_has ls 3 [(0, .ref (ad 8)), (1, .int (iI v1_1)), (2, .int (iI v2_2))] → W p l e (headSpec wsX0_spans rm_X0_spans).room s m args below meth c H locs 0 0 (fQi below D cy L ad s args post) (F0 m 4 ls [])) → ∀ (v1_1 : Int) (v2_2 : Int) (H : Heap) (locs : List Loc) (ls : Array Slot), wB_X0_spans_4 x kx_4 bk_4 v1_1 v2_2 → fG D cy L ad (fAr L ad s.heap.size) s x H locs → lv_has ls 3 [(0, .ref (ad 8)), (1, .int (iI v1_1)), (2, .int (iI v2_2))] → W p l e (headSpec wsX0_spans rm_X0_spans).room s m args below meth c H locs 0 0 (fQi below D cy L ad s args post) (F0 m 4 ls []) := by
    intro kx_4 bk_4 hX4 ih4 v1_1 v2_2 H locs ls hw G hl
    refine lv_iload_n C.1 C.2.1 dX0_spans_4 rfl (lv_at hl 2 rfl) ?_
    refine fr_ic C dX0_spans_5 ?_
    obtain ⟨hc_10, hw⟩ := hw
    refine fr_ge (tgt := 27) C dX0_spans_6 (by decide) ⟨hc_10, ⟨by decide, by decide⟩⟩ (fun q_3 => ?_) (fun q_3 => ?_)
    · have hw := if_p hw q_3
      exact hX4 v1_1 v2_2 _ _ _ hw G (lv_sub hl [0, 1, 2] rfl)
    · have hw := if_n hw q_3
      refine lv_aload_n C.1 C.2.1 dX0_spans_9 rfl (lv_at hl 0 rfl) ?_
      refine fr_get C G 8 (hL _ (by omega)) (cl_8 _) rfl iw_X0_spans_X0 0 (by decide) fl_X0_spans_9 rfl dX0_spans_10 ?_
      refine lv_iload_n C.1 C.2.1 dX0_spans_13 rfl (lv_at hl 2 rfl) ?_
      obtain ⟨hb_4, hw⟩ := hw
      refine fr_zald C G 9 (hL _ (by omega)) (cl_9 _) hb_4 dX0_spans_14 ?_
      obtain ⟨hc_9, hw⟩ := hw
      refine fr_eq0 (tgt := 21) C dX0_spans_15 (by decide) hc_9 (fun q_5 => ?_) (fun q_5 => ?_)
      · have hw := if_p hw q_5
        obtain ⟨v2_6, ev2_6⟩ : ∃ z : Int, z = v2_2 + 1 := ⟨_, rfl⟩
        have hw := hw v2_6 ev2_6
        refine lv_iinc (v := iI v2_6) (lv' := [(2, .int (iI v2_6)), (0, .ref (ad 8)), (1, .int (iI v1_1))]) C.1 C.2.1 dX0_spans_21 hl (k := 2) rfl (by rw [ev2_6]; exact iI_add _ _) (by decide) rfl (fun ls hl => ?_)
        refine lv_goto (tgt := 4) C.1 C.2.1 dX0_spans_24 (by decide) ?_
        exact ih4 v1_1 v2_6 _ _ _ hw G (lv_sub hl [1, 2, 0] rfl)
      · have hw := if_n hw q_5
        obtain ⟨v1_7, ev1_7⟩ : ∃ z : Int, z = v1_1 + 1 := ⟨_, rfl⟩
        have hw := hw v1_7 ev1_7
        refine lv_iinc (v := iI v1_7) (lv' := [(1, .int (iI v1_7)), (0, .ref (ad 8)), (2, .int (iI v2_2))]) C.1 C.2.1 dX0_spans_18 hl (k := 1) rfl (by rw [ev1_7]; exact iI_add _ _) (by decide) rfl (fun ls hl => ?_)
        obtain ⟨v2_8, ev2_8⟩ : ∃ z : Int, z = v2_2 + 1 := ⟨_, rfl⟩
        have hw := hw v2_8 ev2_8
        refine lv_iinc (v := iI v2_8) (lv' := [(2, .int (iI v2_8)), (1, .int (iI v1_7)), (0, .ref (ad 8))]) C.1 C.2.1 dX0_spans_21 hl (k := 2) rfl (by rw [ev2_8]; exact iI_add _ _) (by decide) rfl (fun ls hl => ?_)
        refine lv_goto (tgt := 4) C.1 C.2.1 dX0_spans_24 (by decide) ?_
        exact ih4 v1_7 v2_8 _ _ _ hw G (lv_sub hl [2, 1, 0] rfl)
  have hX4 : ∀ (v1_1 : Int) (v2_2 : Int) (H : Heap) (locs : List Loc) (ls : Array Slot), wX_X0_spans_4 x post v1_1 v2_2 → fG D cy L ad (fAr L ad s.heap.size) s x H locs → lv_has ls 3 [(0, .ref (ad 8)), (1, .int (iI v1_1)), (2, .int (iI v2_2))] → W p l e (headSpec wsX0_spans rm_X0_spans).room s m args below meth c H locs 0 0 (fQi below D cy L ad s args post) (F0 m 27 ls []) := by
    intro v1_1 v2_2 H locs ls hw G hl
    refine lv_iload_n C.1 C.2.1 dX0_spans_27 rfl (lv_at hl 1 rfl) ?_
    exact fr_iret C G hr hlk hw dX0_spans_28
  have hB4 : ∀ (n : Nat) (v1_1 : Int) (v2_2 : Int) (H : Heap) (locs : List Loc) (ls : Array Slot), lk2 (wB_X0_spans_4 x (wX_X0_spans_4 x post)) n v1_1 v2_2 → fG D cy L ad (fAr L ad s.heap.size) s x H locs → lv_has ls 3 [(0, .ref (ad 8)), (1, .int (iI v1_1)), (2, .int (iI v2_2))] → W p l e (headSpec wsX0_spans rm_X0_spans).room s m args below meth c H locs 0 0 (fQi below D cy L ad s args post) (F0 m 4 ls []) := by
    intro n
    induction n with
    | zero =>
      intro v1_1 v2_2 H locs ls hw
      exact hw.elim
    | succ n ih =>
      intro v1_1 v2_2 H locs ls hw G hl
      exact hS4 _ _ hX4 ih v1_1 v2_2 H locs ls hw G hl
  exact hB4 n4 0 0 _ _ _ hw G (lv_sub hl [2, 1, 0] rfl)
def w_X5_bondAt (c1 : Nat) (a1 a2 : Int) (x : Mm) (post : Int → Mm → Prop) : Prop :=
  rg a2 ∧ (if a2 ≤ 0 then (rg a2 ∧ (if 0 < a2 then (∀ v3_4 : Int, v3_4 = x c1 3 → (rg (((a1 * v3_4) * v3_4) * v3_4) ∧ 0 ≤ ((a1 * v3_4) * v3_4) * v3_4) ∧ post (((((a1 * v3_4) * v3_4) * v3_4) / 32) + 1) x) else (∀ v3_7 : Int, v3_7 = x c1 0 → (rg (((a1 * v3_7) * v3_7) * v3_7) ∧ 0 ≤ ((a1 * v3_7) * v3_7) * v3_7) ∧ post (((((a1 * v3_7) * v3_7) * v3_7) / 32) + 1) x))) else (rg a2 ∧ (if a2 < 4 then ((0 ≤ a2 - 1 ∧ a2 - 1 < 4) ∧ (0 ≤ a2 ∧ a2 < 4) ∧ (rg (x c1 (a2 - 1).toNat) ∧ rg (x c1 (a2).toNat)) ∧ (if (x c1 (a2).toNat) ≤ (x c1 (a2 - 1).toNat) then ((0 ≤ a2 ∧ a2 < 4) ∧ ∀ v3_15 : Int, v3_15 = x c1 (a2).toNat → (rg (((a1 * v3_15) * v3_15) * v3_15) ∧ 0 ≤ ((a1 * v3_15) * v3_15) * v3_15) ∧ post (((((a1 * v3_15) * v3_15) * v3_15) / 8) + 1) x) else ((0 ≤ a2 - 1 ∧ a2 - 1 < 4) ∧ ∀ v3_18 : Int, v3_18 = x c1 (a2 - 1).toNat → (rg (((a1 * v3_18) * v3_18) * v3_18) ∧ 0 ≤ ((a1 * v3_18) * v3_18) * v3_18) ∧ post (((((a1 * v3_18) * v3_18) * v3_18) / 8) + 1) x))) else (rg a2 ∧ (if 0 < a2 then (∀ v3_23 : Int, v3_23 = x c1 3 → (rg (((a1 * v3_23) * v3_23) * v3_23) ∧ 0 ≤ ((a1 * v3_23) * v3_23) * v3_23) ∧ post (((((a1 * v3_23) * v3_23) * v3_23) / 32) + 1) x) else (∀ v3_26 : Int, v3_26 = x c1 0 → (rg (((a1 * v3_26) * v3_26) * v3_26) ∧ 0 ≤ ((a1 * v3_26) * v3_26) * v3_26) ∧ post (((((a1 * v3_26) * v3_26) * v3_26) / 32) + 1) x))))))
abbrev rm_X5_bondAt : Room := { frames := 0, cells := 0, slots := 0, locals := 0 }
set_option maxHeartbeats 4000000 in
set_option maxRecDepth 100000 in
theorem c_X5_bondAt (l : Launch) (D : va_G) (cy : Nat → ClassId) (L : List Nat) (ad : Nat → Nat) (sz : Nat) (c1 : Nat) (hc1 : c1 ∈ L) (hlc1 : al c1 = 4) (a1 a2 : Int) (x : Mm) (post : Int → Mm → Prop) (hw : w_X5_bondAt c1 a1 a2 x post) : fMi l yX5_bondAt wsX5_bondAt rm_X5_bondAt [.ref (ad c1), .int (iI a1), .int (iI a2)] D cy L ad sz x post := by
  refine Met.ofW (cc := cX5_bondAt) (maxL := 4) (ret := (some .int)) (by decide) rfl ?_
  intro p e s m args below meth c s₁ B hml hv
  obtain ⟨hargs, hp⟩ := hv
  obtain ⟨C, hr, hlk, hsz, G⟩ := fr_start B hml hp
  subst hsz
  obtain ⟨ls, els, hl⟩ := fr_entry (m := m) (n := 4) hargs (Nat.le_of_ble_eq_true rfl)
  rw [els]
  have hl : lv_has ls 4 [(0, .ref (ad c1)), (1, .int (iI a1)), (2, .int (iI a2))] := hl
  clear els hargs hp B
  refine lv_iload_n C.1 C.2.1 dX5_bondAt_0 rfl (lv_at hl 2 rfl) ?_
  obtain ⟨hc_30, hw⟩ := hw
  refine fr_le0 (tgt := 9) C dX5_bondAt_1 (by decide) hc_30 (fun q_1 => ?_) (fun q_1 => ?_)
  · have hw := if_p hw q_1
    refine lv_iload_n C.1 C.2.1 dX5_bondAt_9 rfl (lv_at hl 2 rfl) ?_
    obtain ⟨hc_9, hw⟩ := hw
    refine fr_gt0 (tgt := 19) C dX5_bondAt_10 (by decide) hc_9 (fun q_2 => ?_) (fun q_2 => ?_)
    · have hw := if_p hw q_2
      refine lv_aload_n C.1 C.2.1 dX5_bondAt_19 rfl (lv_at hl 0 rfl) ?_
      refine fr_ic C dX5_bondAt_20 ?_
      refine fr_iald C G c1 4 hc1 hlc1 ⟨by decide, by decide⟩ ⟨by decide, by decide⟩ dX5_bondAt_21 ?_
      refine fr_nm (fun v3_4 ev3_4 => ?_)
      have hw := hw v3_4 ev3_4
      refine lv_istore_n (lv' := [(3, .int (iI v3_4)), (0, .ref (ad c1)), (1, .int (iI a1)), (2, .int (iI a2))]) C.1 C.2.1 dX5_bondAt_22 rfl hl (by decide) rfl (fun ls hl => ?_)
      refine lv_iload_n C.1 C.2.1 dX5_bondAt_23 rfl (lv_at hl 2 rfl) ?_
      refine lv_iload_n C.1 C.2.1 dX5_bondAt_24 rfl (lv_at hl 0 rfl) ?_
      refine fr_imul C dX5_bondAt_25 ?_
      refine lv_iload_n C.1 C.2.1 dX5_bondAt_26 rfl (lv_at hl 0 rfl) ?_
      refine fr_imul C dX5_bondAt_27 ?_
      refine lv_iload_n C.1 C.2.1 dX5_bondAt_28 rfl (lv_at hl 0 rfl) ?_
      refine fr_imul C dX5_bondAt_29 ?_
      refine fr_bi C dX5_bondAt_30 rfl ?_
      obtain ⟨hd_5, hw⟩ := hw
      refine fr_idiv C dX5_bondAt_32 ⟨hd_5.1, ⟨by decide, by decide⟩, hd_5.2, by decide⟩ ?_
      refine fr_ic C dX5_bondAt_33 ?_
      refine fr_iadd C dX5_bondAt_34 ?_
      exact fr_iret C G hr hlk hw dX5_bondAt_35
    · have hw := if_n hw q_2
      refine lv_aload_n C.1 C.2.1 dX5_bondAt_13 rfl (lv_at hl 0 rfl) ?_
      refine fr_ic C dX5_bondAt_14 ?_
      refine fr_iald C G c1 4 hc1 hlc1 ⟨by decide, by decide⟩ ⟨by decide, by decide⟩ dX5_bondAt_15 ?_
      refine lv_goto (tgt := 22) C.1 C.2.1 dX5_bondAt_16 (by decide) ?_
      refine fr_nm (fun v3_7 ev3_7 => ?_)
      have hw := hw v3_7 ev3_7
      refine lv_istore_n (lv' := [(3, .int (iI v3_7)), (0, .ref (ad c1)), (1, .int (iI a1)), (2, .int (iI a2))]) C.1 C.2.1 dX5_bondAt_22 rfl hl (by decide) rfl (fun ls hl => ?_)
      refine lv_iload_n C.1 C.2.1 dX5_bondAt_23 rfl (lv_at hl 2 rfl) ?_
      refine lv_iload_n C.1 C.2.1 dX5_bondAt_24 rfl (lv_at hl 0 rfl) ?_
      refine fr_imul C dX5_bondAt_25 ?_
      refine lv_iload_n C.1 C.2.1 dX5_bondAt_26 rfl (lv_at hl 0 rfl) ?_
      refine fr_imul C dX5_bondAt_27 ?_
      refine lv_iload_n C.1 C.2.1 dX5_bondAt_28 rfl (lv_at hl 0 rfl) ?_
      refine fr_imul C dX5_bondAt_29 ?_
      refine fr_bi C dX5_bondAt_30 rfl ?_
      obtain ⟨hd_8, hw⟩ := hw
      refine fr_idiv C dX5_bondAt_32 ⟨hd_8.1, ⟨by decide, by decide⟩, hd_8.2, by decide⟩ ?_
      refine fr_ic C dX5_bondAt_33 ?_
      refine fr_iadd C dX5_bondAt_34 ?_
      exact fr_iret C G hr hlk hw dX5_bondAt_35
  · have hw := if_n hw q_1
    refine lv_iload_n C.1 C.2.1 dX5_bondAt_4 rfl (lv_at hl 2 rfl) ?_
    refine fr_ic C dX5_bondAt_5 ?_
    obtain ⟨hc_29, hw⟩ := hw
    refine fr_lt (tgt := 36) C dX5_bondAt_6 (by decide) ⟨hc_29, ⟨by decide, by decide⟩⟩ (fun q_10 => ?_) (fun q_10 => ?_)
    · have hw := if_p hw q_10
      refine lv_aload_n C.1 C.2.1 dX5_bondAt_36 rfl (lv_at hl 0 rfl) ?_
      refine lv_iload_n C.1 C.2.1 dX5_bondAt_37 rfl (lv_at hl 2 rfl) ?_
      refine fr_ic C dX5_bondAt_38 ?_
      refine fr_isub C dX5_bondAt_39 ?_
      obtain ⟨hb_11, hw⟩ := hw
      refine fr_iald C G c1 4 hc1 hlc1 ⟨by decide, by decide⟩ hb_11 dX5_bondAt_40 ?_
      refine lv_aload_n C.1 C.2.1 dX5_bondAt_41 rfl (lv_at hl 0 rfl) ?_
      refine lv_iload_n C.1 C.2.1 dX5_bondAt_42 rfl (lv_at hl 2 rfl) ?_
      obtain ⟨hb_12, hw⟩ := hw
      refine fr_iald C G c1 4 hc1 hlc1 ⟨by decide, by decide⟩ hb_12 dX5_bondAt_43 ?_
      obtain ⟨hc_20, hw⟩ := hw
      refine fr_ge (tgt := 55) C dX5_bondAt_44 (by decide) hc_20 (fun q_13 => ?_) (fun q_13 => ?_)
      · have hw := if_p hw q_13
        refine lv_aload_n C.1 C.2.1 dX5_bondAt_55 rfl (lv_at hl 0 rfl) ?_
        refine lv_iload_n C.1 C.2.1 dX5_bondAt_56 rfl (lv_at hl 2 rfl) ?_
        obtain ⟨hb_14, hw⟩ := hw
        refine fr_iald C G c1 4 hc1 hlc1 ⟨by decide, by decide⟩ hb_14 dX5_bondAt_57 ?_
        refine fr_nm (fun v3_15 ev3_15 => ?_)
        have hw := hw v3_15 ev3_15
        refine lv_istore_n (lv' := [(3, .int (iI v3_15)), (0, .ref (ad c1)), (1, .int (iI a1)), (2, .int (iI a2))]) C.1 C.2.1 dX5_bondAt_58 rfl hl (by decide) rfl (fun ls hl => ?_)
        refine lv_iload_n C.1 C.2.1 dX5_bondAt_59 rfl (lv_at hl 2 rfl) ?_
        refine lv_iload_n C.1 C.2.1 dX5_bondAt_60 rfl (lv_at hl 0 rfl) ?_
        refine fr_imul C dX5_bondAt_61 ?_
        refine lv_iload_n C.1 C.2.1 dX5_bondAt_62 rfl (lv_at hl 0 rfl) ?_
        refine fr_imul C dX5_bondAt_63 ?_
        refine lv_iload_n C.1 C.2.1 dX5_bondAt_64 rfl (lv_at hl 0 rfl) ?_
        refine fr_imul C dX5_bondAt_65 ?_
        refine fr_bi C dX5_bondAt_66 rfl ?_
        obtain ⟨hd_16, hw⟩ := hw
        refine fr_idiv C dX5_bondAt_68 ⟨hd_16.1, ⟨by decide, by decide⟩, hd_16.2, by decide⟩ ?_
        refine fr_ic C dX5_bondAt_69 ?_
        refine fr_iadd C dX5_bondAt_70 ?_
        exact fr_iret C G hr hlk hw dX5_bondAt_71
      · have hw := if_n hw q_13
        refine lv_aload_n C.1 C.2.1 dX5_bondAt_47 rfl (lv_at hl 0 rfl) ?_
        refine lv_iload_n C.1 C.2.1 dX5_bondAt_48 rfl (lv_at hl 2 rfl) ?_
        refine fr_ic C dX5_bondAt_49 ?_
        refine fr_isub C dX5_bondAt_50 ?_
        obtain ⟨hb_17, hw⟩ := hw
        refine fr_iald C G c1 4 hc1 hlc1 ⟨by decide, by decide⟩ hb_17 dX5_bondAt_51 ?_
        refine lv_goto (tgt := 58) C.1 C.2.1 dX5_bondAt_52 (by decide) ?_
        refine fr_nm (fun v3_18 ev3_18 => ?_)
        have hw := hw v3_18 ev3_18
        refine lv_istore_n (lv' := [(3, .int (iI v3_18)), (0, .ref (ad c1)), (1, .int (iI a1)), (2, .int (iI a2))]) C.1 C.2.1 dX5_bondAt_58 rfl hl (by decide) rfl (fun ls hl => ?_)
        refine lv_iload_n C.1 C.2.1 dX5_bondAt_59 rfl (lv_at hl 2 rfl) ?_
        refine lv_iload_n C.1 C.2.1 dX5_bondAt_60 rfl (lv_at hl 0 rfl) ?_
        refine fr_imul C dX5_bondAt_61 ?_
        refine lv_iload_n C.1 C.2.1 dX5_bondAt_62 rfl (lv_at hl 0 rfl) ?_
        refine fr_imul C dX5_bondAt_63 ?_
        refine lv_iload_n C.1 C.2.1 dX5_bondAt_64 rfl (lv_at hl 0 rfl) ?_
        refine fr_imul C dX5_bondAt_65 ?_
        refine fr_bi C dX5_bondAt_66 rfl ?_
        obtain ⟨hd_19, hw⟩ := hw
        refine fr_idiv C dX5_bondAt_68 ⟨hd_19.1, ⟨by decide, by decide⟩, hd_19.2, by decide⟩ ?_
        refine fr_ic C dX5_bondAt_69 ?_
        refine fr_iadd C dX5_bondAt_70 ?_
        exact fr_iret C G hr hlk hw dX5_bondAt_71
    · have hw := if_n hw q_10
      refine lv_iload_n C.1 C.2.1 dX5_bondAt_9 rfl (lv_at hl 2 rfl) ?_
      obtain ⟨hc_28, hw⟩ := hw
      refine fr_gt0 (tgt := 19) C dX5_bondAt_10 (by decide) hc_28 (fun q_21 => ?_) (fun q_21 => ?_)
      · have hw := if_p hw q_21
        refine lv_aload_n C.1 C.2.1 dX5_bondAt_19 rfl (lv_at hl 0 rfl) ?_
        refine fr_ic C dX5_bondAt_20 ?_
        refine fr_iald C G c1 4 hc1 hlc1 ⟨by decide, by decide⟩ ⟨by decide, by decide⟩ dX5_bondAt_21 ?_
        refine fr_nm (fun v3_23 ev3_23 => ?_)
        have hw := hw v3_23 ev3_23
        refine lv_istore_n (lv' := [(3, .int (iI v3_23)), (0, .ref (ad c1)), (1, .int (iI a1)), (2, .int (iI a2))]) C.1 C.2.1 dX5_bondAt_22 rfl hl (by decide) rfl (fun ls hl => ?_)
        refine lv_iload_n C.1 C.2.1 dX5_bondAt_23 rfl (lv_at hl 2 rfl) ?_
        refine lv_iload_n C.1 C.2.1 dX5_bondAt_24 rfl (lv_at hl 0 rfl) ?_
        refine fr_imul C dX5_bondAt_25 ?_
        refine lv_iload_n C.1 C.2.1 dX5_bondAt_26 rfl (lv_at hl 0 rfl) ?_
        refine fr_imul C dX5_bondAt_27 ?_
        refine lv_iload_n C.1 C.2.1 dX5_bondAt_28 rfl (lv_at hl 0 rfl) ?_
        refine fr_imul C dX5_bondAt_29 ?_
        refine fr_bi C dX5_bondAt_30 rfl ?_
        obtain ⟨hd_24, hw⟩ := hw
        refine fr_idiv C dX5_bondAt_32 ⟨hd_24.1, ⟨by decide, by decide⟩, hd_24.2, by decide⟩ ?_
        refine fr_ic C dX5_bondAt_33 ?_
        refine fr_iadd C dX5_bondAt_34 ?_
        exact fr_iret C G hr hlk hw dX5_bondAt_35
      · have hw := if_n hw q_21
        refine lv_aload_n C.1 C.2.1 dX5_bondAt_13 rfl (lv_at hl 0 rfl) ?_
        refine fr_ic C dX5_bondAt_14 ?_
        refine fr_iald C G c1 4 hc1 hlc1 ⟨by decide, by decide⟩ ⟨by decide, by decide⟩ dX5_bondAt_15 ?_
        refine lv_goto (tgt := 22) C.1 C.2.1 dX5_bondAt_16 (by decide) ?_
        refine fr_nm (fun v3_26 ev3_26 => ?_)
        have hw := hw v3_26 ev3_26
        refine lv_istore_n (lv' := [(3, .int (iI v3_26)), (0, .ref (ad c1)), (1, .int (iI a1)), (2, .int (iI a2))]) C.1 C.2.1 dX5_bondAt_22 rfl hl (by decide) rfl (fun ls hl => ?_)
        refine lv_iload_n C.1 C.2.1 dX5_bondAt_23 rfl (lv_at hl 2 rfl) ?_
        refine lv_iload_n C.1 C.2.1 dX5_bondAt_24 rfl (lv_at hl 0 rfl) ?_
        refine fr_imul C dX5_bondAt_25 ?_
        refine lv_iload_n C.1 C.2.1 dX5_bondAt_26 rfl (lv_at hl 0 rfl) ?_
        refine fr_imul C dX5_bondAt_27 ?_
        refine lv_iload_n C.1 C.2.1 dX5_bondAt_28 rfl (lv_at hl 0 rfl) ?_
        refine fr_imul C dX5_bondAt_29 ?_
        refine fr_bi C dX5_bondAt_30 rfl ?_
        obtain ⟨hd_27, hw⟩ := hw
        refine fr_idiv C dX5_bondAt_32 ⟨hd_27.1, ⟨by decide, by decide⟩, hd_27.2, by decide⟩ ?_
        refine fr_ic C dX5_bondAt_33 ?_
        refine fr_iadd C dX5_bondAt_34 ?_
        exact fr_iret C G hr hlk hw dX5_bondAt_35
