def wX_X8_toneOf_8 (post : Int → Mm → Prop) (v4_1 : Int) (v5_2 : Int) (x_3 : Mm) : Prop :=
  post v4_1 x_3
def wB_X8_toneOf_8 (a1 : Int) (a2 : Int) (a3 : Int) (kx_8 bk_8 : Int → Int → Mm → Prop) (v4_1 : Int) (v5_2 : Int) (x_3 : Mm) : Prop :=
  (rg v4_1 ∧ rg v5_2) ∧ (if v5_2 ≤ v4_1 then (kx_8 v4_1 v5_2 x_3) else ((rg ((v4_1 + v5_2) + 1) ∧ 0 ≤ (v4_1 + v5_2) + 1) ∧ ∀ v6_6 : Int, v6_6 = ((v4_1 + v5_2) + 1) / 2 → w_X8_belowOf a1 a2 v6_6 x_3 (fun z_8 x_7 => (rg z_8 ∧ rg a3) ∧ (if a3 < z_8 then (∀ v5_10 : Int, v5_10 = v6_6 - 1 → bk_8 v4_1 v5_10 x_7) else (bk_8 v6_6 v5_2 x_7)))))
def w_X8_toneOf (a1 a2 a3 : Int) (x : Mm) (post : Int → Mm → Prop) : Prop :=
  ∃ n : Nat, lk3 (wB_X8_toneOf_8 a1 a2 a3 (wX_X8_toneOf_8 post)) n 0 500 x
abbrev rm_X8_toneOf : Room := { frames := 2, cells := 0, slots := 0, locals := 58 }
set_option maxHeartbeats 4000000 in
set_option maxRecDepth 100000 in
theorem c_X8_toneOf (l : Launch) (D : va_G) (cy : Nat → ClassId) (L : List Nat) (ad : Nat → Nat) (sz : Nat) (hL : fLM L) (a1 a2 a3 : Int) (x : Mm) (post : Int → Mm → Prop) (hw : w_X8_toneOf a1 a2 a3 x post) : fMi l yX8_toneOf wsX8_toneOf rm_X8_toneOf [.ref (ad 60), .int (iI a1), .int (iI a2), .int (iI a3)] D cy L ad sz x post := by
  refine Met.ofW (cc := cX8_toneOf) (maxL := 7) (ret := (some .int)) (by decide) rfl ?_
  intro p e s m args below meth c s₁ B hml hv
  obtain ⟨hargs, hp⟩ := hv
  obtain ⟨C, hr, hlk, hsz, G⟩ := fr_start B hml hp
  subst hsz
  obtain ⟨ls, els, hl⟩ := fr_entry (m := m) (n := 7) hargs (Nat.le_of_ble_eq_true rfl)
  rw [els]
  have hl : lv_has ls 7 [(0, .ref (ad 60)), (1, .int (iI a1)), (2, .int (iI a2)), (3, .int (iI a3))] := hl
  clear els hargs hp B
  refine fr_ic C dX8_toneOf_0 ?_
  refine lv_istore (lv' := [(4, .int (iI 0)), (0, .ref (ad 60)), (1, .int (iI a1)), (2, .int (iI a2)), (3, .int (iI a3))]) C.1 C.2.1 dX8_toneOf_1 hl (by decide) rfl (fun ls hl => ?_)
  refine fr_si C dX8_toneOf_3 rfl ?_
  refine lv_istore (lv' := [(5, .int (iI 500)), (4, .int (iI 0)), (0, .ref (ad 60)), (1, .int (iI a1)), (2, .int (iI a2)), (3, .int (iI a3))]) C.1 C.2.1 dX8_toneOf_6 hl (by decide) rfl (fun ls hl => ?_)
  obtain ⟨n8, hw⟩ := hw
  have hS8 : ∀ (kx_8 bk_8 : Int → Int → Mm → Prop), (∀ (v4_1 : Int) (v5_2 : Int) (x_3 : Mm) (H : Heap) (locs : List Loc) (ls : Array Slot), kx_8 v4_1 v5_2 x_3 → fG D cy L ad (fAr L ad s.heap.size) s x_3 H locs → lv_has ls 7 [(0, .ref (ad 60)), (1, .int (iI a1)), (2, .int (iI a2)), (3, .int (iI a3)), (4, .int (iI v4_1)), (5, .int (iI v5_2))] → W p l e (headSpec wsX8_toneOf rm_X8_toneOf).room s m args below meth c H locs 0 0 (fQi below D cy L ad s args post) (F0 m 54 ls [])) → (∀ (v4_1 : Int) (v5_2 : Int) (x_3 : Mm) (H : Heap) (locs : List Loc) (ls : Array Slot), bk_8 v4_1 v5_2 x_3 → fG D cy L ad (fAr L ad s.heap.size) s x_3 H locs → lv_has ls 7 [(0, .ref (ad 60)), (1, .int (iI a1)), (2, .int (iI a2)), (3, .int (iI a3)), (4, .int (iI v4_1)), (5, .int (iI v5_2))] → W p l e (headSpec wsX8_toneOf rm_X8_toneOf).room s m args below meth c H locs 0 0 (fQi below D cy L ad s args post) (F0 m 8 ls [])) → ∀ (v4_1 : Int) (v5_2 : Int) (x_3 : Mm) (H : Heap) (locs : List Loc) (ls : Array Slot), wB_X8_toneOf_8 a1 a2 a3 kx_8 bk_8 v4_1 v5_2 x_3 → fG D cy L ad (fAr L ad s.heap.size) s x_3 H locs → lv_has ls 7 [(0, .ref (ad 60)), (1, .int (iI a1)), (2, .int (iI a2)), (3, .int (iI a3)), (4, .int (iI v4_1)), (5, .int (iI v5_2))] → W p l e (headSpec wsX8_toneOf rm_X8_toneOf).room s m args below meth c H locs 0 0 (fQi below D cy L ad s args post) (F0 m 8 ls []) := by
    intro kx_8 bk_8 hX8 ih8 v4_1 v5_2 x_3 H locs ls hw G hl
    refine lv_iload C.1 C.2.1 dX8_toneOf_8 (lv_at hl 4 rfl) ?_
    refine lv_iload C.1 C.2.1 dX8_toneOf_10 (lv_at hl 5 rfl) ?_
    obtain ⟨hc_12, hw⟩ := hw
    refine fr_ge (tgt := 54) C dX8_toneOf_12 (by decide) hc_12 (fun q_4 => ?_) (fun q_4 => ?_)
    · have hw := if_p hw q_4
      exact hX8 v4_1 v5_2 x_3 _ _ _ hw G (lv_sub hl [0, 1, 2, 3, 4, 5] rfl)
    · have hw := if_n hw q_4
      refine lv_iload C.1 C.2.1 dX8_toneOf_15 (lv_at hl 4 rfl) ?_
      refine lv_iload C.1 C.2.1 dX8_toneOf_17 (lv_at hl 5 rfl) ?_
      refine fr_iadd C dX8_toneOf_19 ?_
      refine fr_ic C dX8_toneOf_20 ?_
      refine fr_iadd C dX8_toneOf_21 ?_
      refine fr_ic C dX8_toneOf_22 ?_
      obtain ⟨hd_5, hw⟩ := hw
      refine fr_idiv C dX8_toneOf_23 ⟨hd_5.1, ⟨by decide, by decide⟩, hd_5.2, by decide⟩ ?_
      refine fr_nm (fun v6_6 ev6_6 => ?_)
      have hw := hw v6_6 ev6_6
      refine lv_istore (lv' := [(6, .int (iI v6_6)), (0, .ref (ad 60)), (1, .int (iI a1)), (2, .int (iI a2)), (3, .int (iI a3)), (4, .int (iI v4_1)), (5, .int (iI v5_2))]) C.1 C.2.1 dX8_toneOf_24 hl (by decide) rfl (fun ls hl => ?_)
      refine lv_aload_n C.1 C.2.1 dX8_toneOf_26 rfl (lv_at hl 1 rfl) ?_
      refine lv_iload_n C.1 C.2.1 dX8_toneOf_27 rfl (lv_at hl 2 rfl) ?_
      refine lv_iload_n C.1 C.2.1 dX8_toneOf_28 rfl (lv_at hl 3 rfl) ?_
      refine lv_iload C.1 C.2.1 dX8_toneOf_29 (lv_at hl 0 rfl) ?_
      refine fr_Vi C G (c_X8_belowOf l D cy L ad _ hL a1 a2 v6_6 x_3 _ hw) (cwV 3 C.2.2.2.2 gX8_toneOf_X8_belowOf rfl rfl rfl (by decide +kernel) ⟨Nat.le_of_ble_eq_true rfl, Nat.le_of_ble_eq_true rfl⟩) (G.recv (hL _ (by omega)) (cl_60 _) rfl) rfl hl.1 rfl (Nat.le_of_ble_eq_true rfl) dX8_toneOf_31 ⟨Nat.zero_le _, Nat.zero_le _⟩ (fun z_8 x_7 H locs hw G => ?_)
      refine lv_iload_n C.1 C.2.1 dX8_toneOf_34 rfl (lv_at hl 4 rfl) ?_
      obtain ⟨hc_11, hw⟩ := hw
      refine fr_gt (tgt := 45) C dX8_toneOf_35 (by decide) hc_11 (fun q_9 => ?_) (fun q_9 => ?_)
      · have hw := if_p hw q_9
        refine lv_iload C.1 C.2.1 dX8_toneOf_45 (lv_at hl 0 rfl) ?_
        refine fr_ic C dX8_toneOf_47 ?_
        refine fr_isub C dX8_toneOf_48 ?_
        refine fr_nm (fun v5_10 ev5_10 => ?_)
        have hw := hw v5_10 ev5_10
        refine lv_istore (lv' := [(5, .int (iI v5_10)), (6, .int (iI v6_6)), (0, .ref (ad 60)), (1, .int (iI a1)), (2, .int (iI a2)), (3, .int (iI a3)), (4, .int (iI v4_1))]) C.1 C.2.1 dX8_toneOf_49 hl (by decide) rfl (fun ls hl => ?_)
        refine lv_goto (tgt := 8) C.1 C.2.1 dX8_toneOf_51 (by decide) ?_
        exact ih8 v4_1 v5_10 x_7 _ _ _ hw G (lv_sub hl [2, 3, 4, 5, 6, 0] rfl)
      · have hw := if_n hw q_9
        refine lv_iload C.1 C.2.1 dX8_toneOf_38 (lv_at hl 0 rfl) ?_
        refine lv_istore (lv' := [(4, .int (iI v6_6)), (6, .int (iI v6_6)), (0, .ref (ad 60)), (1, .int (iI a1)), (2, .int (iI a2)), (3, .int (iI a3)), (5, .int (iI v5_2))]) C.1 C.2.1 dX8_toneOf_40 hl (by decide) rfl (fun ls hl => ?_)
        refine lv_goto (tgt := 51) C.1 C.2.1 dX8_toneOf_42 (by decide) ?_
        refine lv_goto (tgt := 8) C.1 C.2.1 dX8_toneOf_51 (by decide) ?_
        exact ih8 v6_6 v5_2 x_7 _ _ _ hw G (lv_sub hl [2, 3, 4, 5, 0, 6] rfl)
  have hX8 : ∀ (v4_1 : Int) (v5_2 : Int) (x_3 : Mm) (H : Heap) (locs : List Loc) (ls : Array Slot), wX_X8_toneOf_8 post v4_1 v5_2 x_3 → fG D cy L ad (fAr L ad s.heap.size) s x_3 H locs → lv_has ls 7 [(0, .ref (ad 60)), (1, .int (iI a1)), (2, .int (iI a2)), (3, .int (iI a3)), (4, .int (iI v4_1)), (5, .int (iI v5_2))] → W p l e (headSpec wsX8_toneOf rm_X8_toneOf).room s m args below meth c H locs 0 0 (fQi below D cy L ad s args post) (F0 m 54 ls []) := by
    intro v4_1 v5_2 x_3 H locs ls hw G hl
    refine lv_iload C.1 C.2.1 dX8_toneOf_54 (lv_at hl 4 rfl) ?_
    exact fr_iret C G hr hlk hw dX8_toneOf_56
  have hB8 : ∀ (n : Nat) (v4_1 : Int) (v5_2 : Int) (x_3 : Mm) (H : Heap) (locs : List Loc) (ls : Array Slot), lk3 (wB_X8_toneOf_8 a1 a2 a3 (wX_X8_toneOf_8 post)) n v4_1 v5_2 x_3 → fG D cy L ad (fAr L ad s.heap.size) s x_3 H locs → lv_has ls 7 [(0, .ref (ad 60)), (1, .int (iI a1)), (2, .int (iI a2)), (3, .int (iI a3)), (4, .int (iI v4_1)), (5, .int (iI v5_2))] → W p l e (headSpec wsX8_toneOf rm_X8_toneOf).room s m args below meth c H locs 0 0 (fQi below D cy L ad s args post) (F0 m 8 ls []) := by
    intro n
    induction n with
    | zero =>
      intro v4_1 v5_2 x_3 H locs ls hw
      exact hw.elim
    | succ n ih =>
      intro v4_1 v5_2 x_3 H locs ls hw G hl
      exact hS8 _ _ hX8 ih v4_1 v5_2 x_3 H locs ls hw G hl
  exact hB8 n8 0 500 x _ _ _ hw G (lv_sub hl [2, 3, 4, 5, 1, 0] rfl)
def w_X8_isWood (a1 a2 : Int) (x : Mm) (post : Int → Mm → Prop) : Prop :=
  w_X8_isThick a1 x (fun z_2 x_1 => rg z_2 ∧ (if z_2 = 0 then (post 0 x_1) else (w_X8_isThick a2 x_1 (fun z_5 x_4 => rg z_5 ∧ (if z_5 = 0 then (post 0 x_4) else (post 1 x_4))))))
abbrev rm_X8_isWood : Room := { frames := 2, cells := 0, slots := 0, locals := 42 }
set_option maxHeartbeats 4000000 in
set_option maxRecDepth 100000 in
theorem c_X8_isWood (l : Launch) (D : va_G) (cy : Nat → ClassId) (L : List Nat) (ad : Nat → Nat) (sz : Nat) (a1 a2 : Int) (x : Mm) (post : Int → Mm → Prop) (hw : w_X8_isWood a1 a2 x post) : fMi l yX8_isWood wsX8_isWood rm_X8_isWood [.int (iI a1), .int (iI a2)] D cy L ad sz x post := by
  refine Met.ofW (cc := cX8_isWood) (maxL := 2) (ret := (some .boolean)) (by decide) rfl ?_
  intro p e s m args below meth c s₁ B hml hv
  obtain ⟨hargs, hp⟩ := hv
  obtain ⟨C, hr, hlk, hsz, G⟩ := fr_start B hml hp
  subst hsz
  obtain ⟨ls, els, hl⟩ := fr_entry (m := m) (n := 2) hargs (Nat.le_of_ble_eq_true rfl)
  rw [els]
  have hl : lv_has ls 2 [(0, .int (iI a1)), (1, .int (iI a2))] := hl
  clear els hargs hp B
  refine lv_iload_n C.1 C.2.1 dX8_isWood_0 rfl (lv_at hl 0 rfl) ?_
  refine fr_Si C G (c_X8_isThick l D cy L ad _ a1 x _ hw) (va_cwS 1 C.2.2.2.2 gX8_isWood_X8_isThick rfl rfl rfl (by decide +kernel) ⟨Nat.le_of_ble_eq_true rfl, Nat.le_of_ble_eq_true rfl⟩) rfl hl.1 rfl (Nat.le_of_ble_eq_true rfl) dX8_isWood_1 ⟨Nat.zero_le _, Nat.zero_le _⟩ (fun z_2 x_1 H locs hw G => ?_)
  obtain ⟨hc_8, hw⟩ := hw
  refine fr_eq0 (tgt := 18) C dX8_isWood_4 (by decide) hc_8 (fun q_3 => ?_) (fun q_3 => ?_)
  · have hw := if_p hw q_3
    refine fr_ic C dX8_isWood_18 ?_
    exact fr_zret C G hr hlk (by decide) hw dX8_isWood_19
  · have hw := if_n hw q_3
    refine lv_iload_n C.1 C.2.1 dX8_isWood_7 rfl (lv_at hl 1 rfl) ?_
    refine fr_Si C G (c_X8_isThick l D cy L ad _ a2 x_1 _ hw) (va_cwS 1 C.2.2.2.2 gX8_isWood_X8_isThick rfl rfl rfl (by decide +kernel) ⟨Nat.le_of_ble_eq_true rfl, Nat.le_of_ble_eq_true rfl⟩) rfl hl.1 rfl (Nat.le_of_ble_eq_true rfl) dX8_isWood_8 ⟨Nat.zero_le _, Nat.zero_le _⟩ (fun z_5 x_4 H locs hw G => ?_)
    obtain ⟨hc_7, hw⟩ := hw
    refine fr_eq0 (tgt := 18) C dX8_isWood_11 (by decide) hc_7 (fun q_6 => ?_) (fun q_6 => ?_)
    · have hw := if_p hw q_6
      refine fr_ic C dX8_isWood_18 ?_
      exact fr_zret C G hr hlk (by decide) hw dX8_isWood_19
    · have hw := if_n hw q_6
      refine fr_ic C dX8_isWood_14 ?_
      refine lv_goto (tgt := 19) C.1 C.2.1 dX8_isWood_15 (by decide) ?_
      exact fr_zret C G hr hlk (by decide) hw dX8_isWood_19
def w_X8_tone (a1 a2 a3 a4 : Int) (x : Mm) (post : Int → Mm → Prop) : Prop :=
  w_X8_isPlate a1 x (fun z_2 x_1 => rg z_2 ∧ (if z_2 = 0 then (post (-2) x_1) else (w_X8_isWood a2 a3 x_1 (fun z_5 x_4 => rg z_5 ∧ (if z_5 = 0 then (post (-2) x_4) else (w_X8_isFour a4 x_4 (fun z_8 x_7 => rg z_8 ∧ (if z_8 = 0 then (post (-2) x_7) else (w_X8_take 61 a1 x_7 (fun x_10 => w_X8_toneOf a2 a3 a4 x_10 (fun z_12 x_11 => post z_12 x_11)))))))))))
abbrev rm_X8_tone : Room := { frames := 3, cells := 0, slots := 0, locals := 84 }
theorem iw_X8_tone_X8 : ∀ w ∈ u_ws RX8 TX8 20, w ∈ wsX8_tone := by decide +kernel
theorem fl_X8_tone_7 : Cond.fieldLink RX8 7 (TX8 1).1 (TX8 1).2.1 (TX8 1).2.2.1 ∈ wsX8_tone := by decide +kernel
set_option maxHeartbeats 4000000 in
set_option maxRecDepth 100000 in
theorem c_X8_tone (l : Launch) (D : va_G) (cy : Nat → ClassId) (L : List Nat) (ad : Nat → Nat) (sz : Nat) (hL : fLM L) (a1 a2 a3 a4 : Int) (x : Mm) (post : Int → Mm → Prop) (hw : w_X8_tone a1 a2 a3 a4 x post) : fMi l yX8_tone wsX8_tone rm_X8_tone [.ref (ad 60), .int (iI a1), .int (iI a2), .int (iI a3), .int (iI a4)] D cy L ad sz x post := by
  refine Met.ofW (cc := cX8_tone) (maxL := 5) (ret := (some .int)) (by decide) rfl ?_
  intro p e s m args below meth c s₁ B hml hv
  obtain ⟨hargs, hp⟩ := hv
  obtain ⟨C, hr, hlk, hsz, G⟩ := fr_start B hml hp
  subst hsz
  obtain ⟨ls, els, hl⟩ := fr_entry (m := m) (n := 5) hargs (Nat.le_of_ble_eq_true rfl)
  rw [els]
  have hl : lv_has ls 5 [(0, .ref (ad 60)), (1, .int (iI a1)), (2, .int (iI a2)), (3, .int (iI a3)), (4, .int (iI a4))] := hl
  clear els hargs hp B
  refine lv_aload_n C.1 C.2.1 dX8_tone_0 rfl (lv_at hl 0 rfl) ?_
  refine lv_iload_n C.1 C.2.1 dX8_tone_1 rfl (lv_at hl 1 rfl) ?_
  refine fr_Vi C G (c_X8_isPlate l D cy L ad _ hL a1 x _ hw) (cwV 1 C.2.2.2.2 gX8_tone_X8_isPlate rfl rfl rfl (by decide +kernel) ⟨Nat.le_of_ble_eq_true rfl, Nat.le_of_ble_eq_true rfl⟩) (G.recv (hL _ (by omega)) (cl_60 _) rfl) rfl hl.1 rfl (Nat.le_of_ble_eq_true rfl) dX8_tone_2 ⟨Nat.zero_le _, Nat.zero_le _⟩ (fun z_2 x_1 H locs hw G => ?_)
  obtain ⟨hc_15, hw⟩ := hw
  refine fr_eq0 (tgt := 24) C dX8_tone_5 (by decide) hc_15 (fun q_3 => ?_) (fun q_3 => ?_)
  · have hw := if_p hw q_3
    refine fr_bi C dX8_tone_24 rfl ?_
    exact fr_iret C G hr hlk hw dX8_tone_26
  · have hw := if_n hw q_3
    refine lv_iload_n C.1 C.2.1 dX8_tone_8 rfl (lv_at hl 2 rfl) ?_
    refine lv_iload_n C.1 C.2.1 dX8_tone_9 rfl (lv_at hl 3 rfl) ?_
    refine fr_Si C G (c_X8_isWood l D cy L ad _ a2 a3 x_1 _ hw) (va_cwS 2 C.2.2.2.2 gX8_tone_X8_isWood rfl rfl rfl (by decide +kernel) ⟨Nat.le_of_ble_eq_true rfl, Nat.le_of_ble_eq_true rfl⟩) rfl hl.1 rfl (Nat.le_of_ble_eq_true rfl) dX8_tone_10 ⟨Nat.zero_le _, Nat.zero_le _⟩ (fun z_5 x_4 H locs hw G => ?_)
    obtain ⟨hc_14, hw⟩ := hw
    refine fr_eq0 (tgt := 24) C dX8_tone_13 (by decide) hc_14 (fun q_6 => ?_) (fun q_6 => ?_)
    · have hw := if_p hw q_6
      refine fr_bi C dX8_tone_24 rfl ?_
      exact fr_iret C G hr hlk hw dX8_tone_26
    · have hw := if_n hw q_6
      refine lv_iload C.1 C.2.1 dX8_tone_16 (lv_at hl 4 rfl) ?_
      refine fr_Si C G (c_X8_isFour l D cy L ad _ a4 x_4 _ hw) (va_cwS 1 C.2.2.2.2 gX8_tone_X8_isFour rfl rfl rfl (by decide +kernel) ⟨Nat.le_of_ble_eq_true rfl, Nat.le_of_ble_eq_true rfl⟩) rfl hl.1 rfl (Nat.le_of_ble_eq_true rfl) dX8_tone_18 ⟨Nat.zero_le _, Nat.zero_le _⟩ (fun z_8 x_7 H locs hw G => ?_)
      obtain ⟨hc_13, hw⟩ := hw
      refine fr_ne0 (tgt := 27) C dX8_tone_21 (by decide) hc_13 (fun q_9 => ?_) (fun q_9 => ?_)
      · have hw := if_p hw q_9
        refine fr_bi C dX8_tone_24 rfl ?_
        exact fr_iret C G hr hlk hw dX8_tone_26
      · have hw := if_n hw q_9
        refine lv_aload_n C.1 C.2.1 dX8_tone_27 rfl (lv_at hl 0 rfl) ?_
        refine lv_aload_n C.1 C.2.1 dX8_tone_28 rfl (lv_at hl 0 rfl) ?_
        refine fr_get C G 60 (hL _ (by omega)) (cl_60 _) rfl iw_X8_tone_X8 1 (by decide) fl_X8_tone_7 rfl dX8_tone_29 ?_
        refine lv_iload_n C.1 C.2.1 dX8_tone_32 rfl (lv_at hl 1 rfl) ?_
        refine fr_Vv C G (c_X8_take l D cy L ad _ hL 61 (hL _ (by omega)) ⟨by decide, by decide⟩ a1 x_7 _ hw) (cwV 2 C.2.2.2.2 gX8_tone_X8_take rfl rfl rfl (by decide +kernel) ⟨Nat.le_of_ble_eq_true rfl, Nat.le_of_ble_eq_true rfl⟩) (G.recv (hL _ (by omega)) (cl_60 _) rfl) rfl hl.1 rfl (Nat.le_of_ble_eq_true rfl) dX8_tone_33 ⟨Nat.zero_le _, Nat.zero_le _⟩ (fun x_10 H locs hw G => ?_)
        refine lv_aload_n C.1 C.2.1 dX8_tone_36 rfl (lv_at hl 0 rfl) ?_
        refine lv_iload_n C.1 C.2.1 dX8_tone_37 rfl (lv_at hl 2 rfl) ?_
        refine lv_iload_n C.1 C.2.1 dX8_tone_38 rfl (lv_at hl 3 rfl) ?_
        refine lv_iload C.1 C.2.1 dX8_tone_39 (lv_at hl 4 rfl) ?_
        refine fr_Vi C G (c_X8_toneOf l D cy L ad _ hL a2 a3 a4 x_10 _ hw) (cwV 3 C.2.2.2.2 gX8_tone_X8_toneOf rfl rfl rfl (by decide +kernel) ⟨Nat.le_of_ble_eq_true rfl, Nat.le_of_ble_eq_true rfl⟩) (G.recv (hL _ (by omega)) (cl_60 _) rfl) rfl hl.1 rfl (Nat.le_of_ble_eq_true rfl) dX8_tone_41 ⟨Nat.zero_le _, Nat.zero_le _⟩ (fun z_12 x_11 H locs hw G => ?_)
        exact fr_iret C G hr hlk hw dX8_tone_44
def w_X8_below (a1 a2 a3 a4 : Int) (x : Mm) (post : Int → Mm → Prop) : Prop :=
  w_X8_isPlate a1 x (fun z_2 x_1 => rg z_2 ∧ (if z_2 = 0 then (post (-2) x_1) else (w_X8_isWood a2 a3 x_1 (fun z_5 x_4 => rg z_5 ∧ (if z_5 = 0 then (post (-2) x_4) else (w_X8_in a4 0 500 x_4 (fun z_8 x_7 => rg z_8 ∧ (if z_8 = 0 then (post (-2) x_7) else (w_X8_take 61 a1 x_7 (fun x_10 => w_X8_belowOf a2 a3 a4 x_10 (fun z_12 x_11 => post z_12 x_11)))))))))))
abbrev rm_X8_below : Room := { frames := 3, cells := 0, slots := 0, locals := 63 }
theorem iw_X8_below_X8 : ∀ w ∈ u_ws RX8 TX8 20, w ∈ wsX8_below := by decide +kernel
theorem fl_X8_below_7 : Cond.fieldLink RX8 7 (TX8 1).1 (TX8 1).2.1 (TX8 1).2.2.1 ∈ wsX8_below := by decide +kernel
set_option maxHeartbeats 4000000 in
set_option maxRecDepth 100000 in
theorem c_X8_below (l : Launch) (D : va_G) (cy : Nat → ClassId) (L : List Nat) (ad : Nat → Nat) (sz : Nat) (hL : fLM L) (a1 a2 a3 a4 : Int) (x : Mm) (post : Int → Mm → Prop) (hw : w_X8_below a1 a2 a3 a4 x post) : fMi l yX8_below wsX8_below rm_X8_below [.ref (ad 60), .int (iI a1), .int (iI a2), .int (iI a3), .int (iI a4)] D cy L ad sz x post := by
  refine Met.ofW (cc := cX8_below) (maxL := 5) (ret := (some .int)) (by decide) rfl ?_
  intro p e s m args below meth c s₁ B hml hv
  obtain ⟨hargs, hp⟩ := hv
  obtain ⟨C, hr, hlk, hsz, G⟩ := fr_start B hml hp
  subst hsz
  obtain ⟨ls, els, hl⟩ := fr_entry (m := m) (n := 5) hargs (Nat.le_of_ble_eq_true rfl)
  rw [els]
  have hl : lv_has ls 5 [(0, .ref (ad 60)), (1, .int (iI a1)), (2, .int (iI a2)), (3, .int (iI a3)), (4, .int (iI a4))] := hl
  clear els hargs hp B
  refine lv_aload_n C.1 C.2.1 dX8_below_0 rfl (lv_at hl 0 rfl) ?_
  refine lv_iload_n C.1 C.2.1 dX8_below_1 rfl (lv_at hl 1 rfl) ?_
  refine fr_Vi C G (c_X8_isPlate l D cy L ad _ hL a1 x _ hw) (cwV 1 C.2.2.2.2 gX8_below_X8_isPlate rfl rfl rfl (by decide +kernel) ⟨Nat.le_of_ble_eq_true rfl, Nat.le_of_ble_eq_true rfl⟩) (G.recv (hL _ (by omega)) (cl_60 _) rfl) rfl hl.1 rfl (Nat.le_of_ble_eq_true rfl) dX8_below_2 ⟨Nat.zero_le _, Nat.zero_le _⟩ (fun z_2 x_1 H locs hw G => ?_)
  obtain ⟨hc_15, hw⟩ := hw
  refine fr_eq0 (tgt := 28) C dX8_below_5 (by decide) hc_15 (fun q_3 => ?_) (fun q_3 => ?_)
  · have hw := if_p hw q_3
    refine fr_bi C dX8_below_28 rfl ?_
    exact fr_iret C G hr hlk hw dX8_below_30
  · have hw := if_n hw q_3
    refine lv_iload_n C.1 C.2.1 dX8_below_8 rfl (lv_at hl 2 rfl) ?_
    refine lv_iload_n C.1 C.2.1 dX8_below_9 rfl (lv_at hl 3 rfl) ?_
    refine fr_Si C G (c_X8_isWood l D cy L ad _ a2 a3 x_1 _ hw) (va_cwS 2 C.2.2.2.2 gX8_below_X8_isWood rfl rfl rfl (by decide +kernel) ⟨Nat.le_of_ble_eq_true rfl, Nat.le_of_ble_eq_true rfl⟩) rfl hl.1 rfl (Nat.le_of_ble_eq_true rfl) dX8_below_10 ⟨Nat.zero_le _, Nat.zero_le _⟩ (fun z_5 x_4 H locs hw G => ?_)
    obtain ⟨hc_14, hw⟩ := hw
    refine fr_eq0 (tgt := 28) C dX8_below_13 (by decide) hc_14 (fun q_6 => ?_) (fun q_6 => ?_)
    · have hw := if_p hw q_6
      refine fr_bi C dX8_below_28 rfl ?_
      exact fr_iret C G hr hlk hw dX8_below_30
    · have hw := if_n hw q_6
      refine lv_iload C.1 C.2.1 dX8_below_16 (lv_at hl 4 rfl) ?_
      refine fr_ic C dX8_below_18 ?_
      refine fr_si C dX8_below_19 rfl ?_
      refine fr_Si C G (c_X8_in l D cy L ad _ a4 0 500 x_4 _ hw) (va_cwS 3 C.2.2.2.2 gX8_below_X8_in rfl rfl rfl (by decide +kernel) ⟨Nat.le_of_ble_eq_true rfl, Nat.le_of_ble_eq_true rfl⟩) rfl hl.1 rfl (Nat.le_of_ble_eq_true rfl) dX8_below_22 ⟨Nat.zero_le _, Nat.zero_le _⟩ (fun z_8 x_7 H locs hw G => ?_)
      obtain ⟨hc_13, hw⟩ := hw
      refine fr_ne0 (tgt := 31) C dX8_below_25 (by decide) hc_13 (fun q_9 => ?_) (fun q_9 => ?_)
      · have hw := if_p hw q_9
        refine fr_bi C dX8_below_28 rfl ?_
        exact fr_iret C G hr hlk hw dX8_below_30
      · have hw := if_n hw q_9
        refine lv_aload_n C.1 C.2.1 dX8_below_31 rfl (lv_at hl 0 rfl) ?_
        refine lv_aload_n C.1 C.2.1 dX8_below_32 rfl (lv_at hl 0 rfl) ?_
        refine fr_get C G 60 (hL _ (by omega)) (cl_60 _) rfl iw_X8_below_X8 1 (by decide) fl_X8_below_7 rfl dX8_below_33 ?_
        refine lv_iload_n C.1 C.2.1 dX8_below_36 rfl (lv_at hl 1 rfl) ?_
        refine fr_Vv C G (c_X8_take l D cy L ad _ hL 61 (hL _ (by omega)) ⟨by decide, by decide⟩ a1 x_7 _ hw) (cwV 2 C.2.2.2.2 gX8_below_X8_take rfl rfl rfl (by decide +kernel) ⟨Nat.le_of_ble_eq_true rfl, Nat.le_of_ble_eq_true rfl⟩) (G.recv (hL _ (by omega)) (cl_60 _) rfl) rfl hl.1 rfl (Nat.le_of_ble_eq_true rfl) dX8_below_37 ⟨Nat.zero_le _, Nat.zero_le _⟩ (fun x_10 H locs hw G => ?_)
        refine lv_aload_n C.1 C.2.1 dX8_below_40 rfl (lv_at hl 0 rfl) ?_
        refine lv_iload_n C.1 C.2.1 dX8_below_41 rfl (lv_at hl 2 rfl) ?_
        refine lv_iload_n C.1 C.2.1 dX8_below_42 rfl (lv_at hl 3 rfl) ?_
        refine lv_iload C.1 C.2.1 dX8_below_43 (lv_at hl 4 rfl) ?_
        refine fr_Vi C G (c_X8_belowOf l D cy L ad _ hL a2 a3 a4 x_10 _ hw) (cwV 3 C.2.2.2.2 gX8_below_X8_belowOf rfl rfl rfl (by decide +kernel) ⟨Nat.le_of_ble_eq_true rfl, Nat.le_of_ble_eq_true rfl⟩) (G.recv (hL _ (by omega)) (cl_60 _) rfl) rfl hl.1 rfl (Nat.le_of_ble_eq_true rfl) dX8_below_45 ⟨Nat.zero_le _, Nat.zero_le _⟩ (fun z_12 x_11 H locs hw G => ?_)
        exact fr_iret C G hr hlk hw dX8_below_48
def w_X8_bond (a1 a2 a3 : Int) (x : Mm) (post : Int → Mm → Prop) : Prop :=
  w_X8_isPlate a1 x (fun z_2 x_1 => rg z_2 ∧ (if z_2 = 0 then (post (-2) x_1) else (w_X8_isThick a2 x_1 (fun z_5 x_4 => rg z_5 ∧ (if z_5 = 0 then (post (-2) x_4) else (w_X8_in a3 0 4 x_4 (fun z_8 x_7 => rg z_8 ∧ (if z_8 = 0 then (post (-2) x_7) else (w_X8_take 61 a1 x_7 (fun x_10 => w_X8_bondOf a2 a3 x_10 (fun z_12 x_11 => post z_12 x_11)))))))))))
abbrev rm_X8_bond : Room := { frames := 2, cells := 0, slots := 0, locals := 43 }
theorem iw_X8_bond_X8 : ∀ w ∈ u_ws RX8 TX8 20, w ∈ wsX8_bond := by decide +kernel
theorem fl_X8_bond_7 : Cond.fieldLink RX8 7 (TX8 1).1 (TX8 1).2.1 (TX8 1).2.2.1 ∈ wsX8_bond := by decide +kernel
set_option maxHeartbeats 4000000 in
set_option maxRecDepth 100000 in
theorem c_X8_bond (l : Launch) (D : va_G) (cy : Nat → ClassId) (L : List Nat) (ad : Nat → Nat) (sz : Nat) (hL : fLM L) (a1 a2 a3 : Int) (x : Mm) (post : Int → Mm → Prop) (hw : w_X8_bond a1 a2 a3 x post) : fMi l yX8_bond wsX8_bond rm_X8_bond [.ref (ad 60), .int (iI a1), .int (iI a2), .int (iI a3)] D cy L ad sz x post := by
  refine Met.ofW (cc := cX8_bond) (maxL := 4) (ret := (some .int)) (by decide) rfl ?_
  intro p e s m args below meth c s₁ B hml hv
  obtain ⟨hargs, hp⟩ := hv
  obtain ⟨C, hr, hlk, hsz, G⟩ := fr_start B hml hp
  subst hsz
  obtain ⟨ls, els, hl⟩ := fr_entry (m := m) (n := 4) hargs (Nat.le_of_ble_eq_true rfl)
  rw [els]
  have hl : lv_has ls 4 [(0, .ref (ad 60)), (1, .int (iI a1)), (2, .int (iI a2)), (3, .int (iI a3))] := hl
  clear els hargs hp B
  refine lv_aload_n C.1 C.2.1 dX8_bond_0 rfl (lv_at hl 0 rfl) ?_
  refine lv_iload_n C.1 C.2.1 dX8_bond_1 rfl (lv_at hl 1 rfl) ?_
  refine fr_Vi C G (c_X8_isPlate l D cy L ad _ hL a1 x _ hw) (cwV 1 C.2.2.2.2 gX8_bond_X8_isPlate rfl rfl rfl (by decide +kernel) ⟨Nat.le_of_ble_eq_true rfl, Nat.le_of_ble_eq_true rfl⟩) (G.recv (hL _ (by omega)) (cl_60 _) rfl) rfl hl.1 rfl (Nat.le_of_ble_eq_true rfl) dX8_bond_2 ⟨Nat.zero_le _, Nat.zero_le _⟩ (fun z_2 x_1 H locs hw G => ?_)
  obtain ⟨hc_15, hw⟩ := hw
  refine fr_eq0 (tgt := 24) C dX8_bond_5 (by decide) hc_15 (fun q_3 => ?_) (fun q_3 => ?_)
  · have hw := if_p hw q_3
    refine fr_bi C dX8_bond_24 rfl ?_
    exact fr_iret C G hr hlk hw dX8_bond_26
  · have hw := if_n hw q_3
    refine lv_iload_n C.1 C.2.1 dX8_bond_8 rfl (lv_at hl 2 rfl) ?_
    refine fr_Si C G (c_X8_isThick l D cy L ad _ a2 x_1 _ hw) (va_cwS 1 C.2.2.2.2 gX8_bond_X8_isThick rfl rfl rfl (by decide +kernel) ⟨Nat.le_of_ble_eq_true rfl, Nat.le_of_ble_eq_true rfl⟩) rfl hl.1 rfl (Nat.le_of_ble_eq_true rfl) dX8_bond_9 ⟨Nat.zero_le _, Nat.zero_le _⟩ (fun z_5 x_4 H locs hw G => ?_)
    obtain ⟨hc_14, hw⟩ := hw
    refine fr_eq0 (tgt := 24) C dX8_bond_12 (by decide) hc_14 (fun q_6 => ?_) (fun q_6 => ?_)
    · have hw := if_p hw q_6
      refine fr_bi C dX8_bond_24 rfl ?_
      exact fr_iret C G hr hlk hw dX8_bond_26
    · have hw := if_n hw q_6
      refine lv_iload_n C.1 C.2.1 dX8_bond_15 rfl (lv_at hl 3 rfl) ?_
      refine fr_ic C dX8_bond_16 ?_
      refine fr_ic C dX8_bond_17 ?_
      refine fr_Si C G (c_X8_in l D cy L ad _ a3 0 4 x_4 _ hw) (va_cwS 3 C.2.2.2.2 gX8_bond_X8_in rfl rfl rfl (by decide +kernel) ⟨Nat.le_of_ble_eq_true rfl, Nat.le_of_ble_eq_true rfl⟩) rfl hl.1 rfl (Nat.le_of_ble_eq_true rfl) dX8_bond_18 ⟨Nat.zero_le _, Nat.zero_le _⟩ (fun z_8 x_7 H locs hw G => ?_)
      obtain ⟨hc_13, hw⟩ := hw
      refine fr_ne0 (tgt := 27) C dX8_bond_21 (by decide) hc_13 (fun q_9 => ?_) (fun q_9 => ?_)
      · have hw := if_p hw q_9
        refine fr_bi C dX8_bond_24 rfl ?_
        exact fr_iret C G hr hlk hw dX8_bond_26
      · have hw := if_n hw q_9
        refine lv_aload_n C.1 C.2.1 dX8_bond_27 rfl (lv_at hl 0 rfl) ?_
        refine lv_aload_n C.1 C.2.1 dX8_bond_28 rfl (lv_at hl 0 rfl) ?_
        refine fr_get C G 60 (hL _ (by omega)) (cl_60 _) rfl iw_X8_bond_X8 1 (by decide) fl_X8_bond_7 rfl dX8_bond_29 ?_
        refine lv_iload_n C.1 C.2.1 dX8_bond_32 rfl (lv_at hl 1 rfl) ?_
        refine fr_Vv C G (c_X8_take l D cy L ad _ hL 61 (hL _ (by omega)) ⟨by decide, by decide⟩ a1 x_7 _ hw) (cwV 2 C.2.2.2.2 gX8_bond_X8_take rfl rfl rfl (by decide +kernel) ⟨Nat.le_of_ble_eq_true rfl, Nat.le_of_ble_eq_true rfl⟩) (G.recv (hL _ (by omega)) (cl_60 _) rfl) rfl hl.1 rfl (Nat.le_of_ble_eq_true rfl) dX8_bond_33 ⟨Nat.zero_le _, Nat.zero_le _⟩ (fun x_10 H locs hw G => ?_)
        refine lv_aload_n C.1 C.2.1 dX8_bond_36 rfl (lv_at hl 0 rfl) ?_
        refine lv_iload_n C.1 C.2.1 dX8_bond_37 rfl (lv_at hl 2 rfl) ?_
        refine lv_iload_n C.1 C.2.1 dX8_bond_38 rfl (lv_at hl 3 rfl) ?_
        refine fr_Vl C G (c_X8_bondOf l D cy L ad _ hL a2 a3 x_10 _ hw) (cwV 2 C.2.2.2.2 gX8_bond_X8_bondOf rfl rfl rfl (by decide +kernel) ⟨Nat.le_of_ble_eq_true rfl, Nat.le_of_ble_eq_true rfl⟩) (G.recv (hL _ (by omega)) (cl_60 _) rfl) rfl hl.1 rfl (Nat.le_of_ble_eq_true rfl) dX8_bond_39 ⟨Nat.zero_le _, Nat.zero_le _⟩ (fun z_12 x_11 H locs hw G => ?_)
        refine fr_l2i C dX8_bond_42 ?_
        exact fr_iret C G hr hlk hw dX8_bond_43
def wX_X8_tap_56 (a2 : Int) (a3 : Int) (a4 : Int) (post : Int → Mm → Prop) (v5_14 : Int) (x_15 : Mm) : Prop :=
  (0 ≤ x_15 60 5 ∧ x_15 60 5 < 12) ∧ (∀ x_17 : Mm, x_17 = up2 x_15 65 (x_15 60 5).toNat a2 → (0 ≤ x_17 60 5 ∧ x_17 60 5 < 12) ∧ (∀ x_19 : Mm, x_19 = up2 x_17 66 (x_17 60 5).toNat a3 → (0 ≤ x_19 60 5 ∧ x_19 60 5 < 12) ∧ (∀ x_21 : Mm, x_21 = up2 x_19 67 (x_19 60 5).toNat a4 → ∀ x_22 : Mm, x_22 = up2 x_21 60 5 ((x_21 60 5) + 1) → post ((x_22 60 5) - 1) x_22)))
def wB_X8_tap_56 (a1 : Int) (kx_56 bk_56 : Int → Mm → Prop) (v5_14 : Int) (x_15 : Mm) : Prop :=
  rg v5_14 ∧ (if 4 ≤ v5_14 then (kx_56 v5_14 x_15) else ((0 ≤ (4 * a1) + v5_14 ∧ (4 * a1) + v5_14 < 16) ∧ (0 ≤ (4 * (x_15 60 5)) + v5_14 ∧ (4 * (x_15 60 5)) + v5_14 < 48) ∧ (∀ x_26 : Mm, x_26 = up2 x_15 64 ((4 * (x_15 60 5)) + v5_14).toNat (x_15 61 ((4 * a1) + v5_14).toNat) → ∀ v5_27 : Int, v5_27 = v5_14 + 1 → bk_56 v5_27 x_26)))
def w_X8_tap (a1 a2 a3 a4 : Int) (x : Mm) (post : Int → Mm → Prop) : Prop :=
  w_X8_isPlate a1 x (fun z_2 x_1 => rg z_2 ∧ (if z_2 = 0 then (post (-2) x_1) else (w_X8_isFour a2 x_1 (fun z_5 x_4 => rg z_5 ∧ (if z_5 = 0 then (post (-2) x_4) else (w_X8_in a3 0 500 x_4 (fun z_8 x_7 => rg z_8 ∧ (if z_8 = 0 then (post (-2) x_7) else (w_X8_in a4 a3 500 x_7 (fun z_11 x_10 => rg z_11 ∧ (if z_11 = 0 then (post (-2) x_10) else (rg (x_10 60 5) ∧ (if (x_10 60 5) = 12 then (post (-4) x_10) else (∃ n : Nat, lk2 (wB_X8_tap_56 a1 (wX_X8_tap_56 a2 a3 a4 post)) n 0 x_10))))))))))))))
abbrev rm_X8_tap : Room := { frames := 2, cells := 0, slots := 0, locals := 43 }
theorem iw_X8_tap_X8 : ∀ w ∈ u_ws RX8 TX8 20, w ∈ wsX8_tap := by decide +kernel
theorem fl_X8_tap_104 : Cond.fieldLink RX8 104 (TX8 5).1 (TX8 5).2.1 (TX8 5).2.2.1 ∈ wsX8_tap := by decide +kernel
theorem fl_X8_tap_26 : Cond.fieldLink RX8 26 (TX8 7).1 (TX8 7).2.1 (TX8 7).2.2.1 ∈ wsX8_tap := by decide +kernel
theorem fl_X8_tap_29 : Cond.fieldLink RX8 29 (TX8 8).1 (TX8 8).2.1 (TX8 8).2.2.1 ∈ wsX8_tap := by decide +kernel
theorem fl_X8_tap_32 : Cond.fieldLink RX8 32 (TX8 9).1 (TX8 9).2.1 (TX8 9).2.2.1 ∈ wsX8_tap := by decide +kernel
theorem fl_X8_tap_23 : Cond.fieldLink RX8 23 (TX8 6).1 (TX8 6).2.1 (TX8 6).2.2.1 ∈ wsX8_tap := by decide +kernel
theorem fl_X8_tap_7 : Cond.fieldLink RX8 7 (TX8 1).1 (TX8 1).2.1 (TX8 1).2.2.1 ∈ wsX8_tap := by decide +kernel
set_option maxHeartbeats 4000000 in
set_option maxRecDepth 100000 in
theorem c_X8_tap (l : Launch) (D : va_G) (cy : Nat → ClassId) (L : List Nat) (ad : Nat → Nat) (sz : Nat) (hL : fLM L) (a1 a2 a3 a4 : Int) (x : Mm) (post : Int → Mm → Prop) (hw : w_X8_tap a1 a2 a3 a4 x post) : fMi l yX8_tap wsX8_tap rm_X8_tap [.ref (ad 60), .int (iI a1), .int (iI a2), .int (iI a3), .int (iI a4)] D cy L ad sz x post := by
  refine Met.ofW (cc := cX8_tap) (maxL := 6) (ret := (some .int)) (by decide) rfl ?_
  intro p e s m args below meth c s₁ B hml hv
  obtain ⟨hargs, hp⟩ := hv
  obtain ⟨C, hr, hlk, hsz, G⟩ := fr_start B hml hp
  subst hsz
  obtain ⟨ls, els, hl⟩ := fr_entry (m := m) (n := 6) hargs (Nat.le_of_ble_eq_true rfl)
  rw [els]
  have hl : lv_has ls 6 [(0, .ref (ad 60)), (1, .int (iI a1)), (2, .int (iI a2)), (3, .int (iI a3)), (4, .int (iI a4))] := hl
  clear els hargs hp B
  refine lv_aload_n C.1 C.2.1 dX8_tap_0 rfl (lv_at hl 0 rfl) ?_
  refine lv_iload_n C.1 C.2.1 dX8_tap_1 rfl (lv_at hl 1 rfl) ?_
  refine fr_Vi C G (c_X8_isPlate l D cy L ad _ hL a1 x _ hw) (cwV 1 C.2.2.2.2 gX8_tap_X8_isPlate rfl rfl rfl (by decide +kernel) ⟨Nat.le_of_ble_eq_true rfl, Nat.le_of_ble_eq_true rfl⟩) (G.recv (hL _ (by omega)) (cl_60 _) rfl) rfl hl.1 rfl (Nat.le_of_ble_eq_true rfl) dX8_tap_2 ⟨Nat.zero_le _, Nat.zero_le _⟩ (fun z_2 x_1 H locs hw G => ?_)
  obtain ⟨hc_33, hw⟩ := hw
  refine fr_eq0 (tgt := 38) C dX8_tap_5 (by decide) hc_33 (fun q_3 => ?_) (fun q_3 => ?_)
  · have hw := if_p hw q_3
    refine fr_bi C dX8_tap_38 rfl ?_
    exact fr_iret C G hr hlk hw dX8_tap_40
  · have hw := if_n hw q_3
    refine lv_iload_n C.1 C.2.1 dX8_tap_8 rfl (lv_at hl 2 rfl) ?_
    refine fr_Si C G (c_X8_isFour l D cy L ad _ a2 x_1 _ hw) (va_cwS 1 C.2.2.2.2 gX8_tap_X8_isFour rfl rfl rfl (by decide +kernel) ⟨Nat.le_of_ble_eq_true rfl, Nat.le_of_ble_eq_true rfl⟩) rfl hl.1 rfl (Nat.le_of_ble_eq_true rfl) dX8_tap_9 ⟨Nat.zero_le _, Nat.zero_le _⟩ (fun z_5 x_4 H locs hw G => ?_)
    obtain ⟨hc_32, hw⟩ := hw
    refine fr_eq0 (tgt := 38) C dX8_tap_12 (by decide) hc_32 (fun q_6 => ?_) (fun q_6 => ?_)
    · have hw := if_p hw q_6
      refine fr_bi C dX8_tap_38 rfl ?_
      exact fr_iret C G hr hlk hw dX8_tap_40
    · have hw := if_n hw q_6
      refine lv_iload_n C.1 C.2.1 dX8_tap_15 rfl (lv_at hl 3 rfl) ?_
      refine fr_ic C dX8_tap_16 ?_
      refine fr_si C dX8_tap_17 rfl ?_
      refine fr_Si C G (c_X8_in l D cy L ad _ a3 0 500 x_4 _ hw) (va_cwS 3 C.2.2.2.2 gX8_tap_X8_in rfl rfl rfl (by decide +kernel) ⟨Nat.le_of_ble_eq_true rfl, Nat.le_of_ble_eq_true rfl⟩) rfl hl.1 rfl (Nat.le_of_ble_eq_true rfl) dX8_tap_20 ⟨Nat.zero_le _, Nat.zero_le _⟩ (fun z_8 x_7 H locs hw G => ?_)
      obtain ⟨hc_31, hw⟩ := hw
      refine fr_eq0 (tgt := 38) C dX8_tap_23 (by decide) hc_31 (fun q_9 => ?_) (fun q_9 => ?_)
      · have hw := if_p hw q_9
        refine fr_bi C dX8_tap_38 rfl ?_
        exact fr_iret C G hr hlk hw dX8_tap_40
      · have hw := if_n hw q_9
        refine lv_iload C.1 C.2.1 dX8_tap_26 (lv_at hl 4 rfl) ?_
        refine lv_iload_n C.1 C.2.1 dX8_tap_28 rfl (lv_at hl 3 rfl) ?_
        refine fr_si C dX8_tap_29 rfl ?_
        refine fr_Si C G (c_X8_in l D cy L ad _ a4 a3 500 x_7 _ hw) (va_cwS 3 C.2.2.2.2 gX8_tap_X8_in rfl rfl rfl (by decide +kernel) ⟨Nat.le_of_ble_eq_true rfl, Nat.le_of_ble_eq_true rfl⟩) rfl hl.1 rfl (Nat.le_of_ble_eq_true rfl) dX8_tap_32 ⟨Nat.zero_le _, Nat.zero_le _⟩ (fun z_11 x_10 H locs hw G => ?_)
        obtain ⟨hc_30, hw⟩ := hw
        refine fr_ne0 (tgt := 41) C dX8_tap_35 (by decide) hc_30 (fun q_12 => ?_) (fun q_12 => ?_)
        · have hw := if_p hw q_12
          refine fr_bi C dX8_tap_38 rfl ?_
          exact fr_iret C G hr hlk hw dX8_tap_40
        · have hw := if_n hw q_12
          refine lv_aload_n C.1 C.2.1 dX8_tap_41 rfl (lv_at hl 0 rfl) ?_
          refine fr_get C G 60 (hL _ (by omega)) (cl_60 _) rfl iw_X8_tap_X8 5 (by decide) fl_X8_tap_104 rfl dX8_tap_42 ?_
          refine fr_bi C dX8_tap_45 rfl ?_
          obtain ⟨hc_29, hw⟩ := hw
          refine fr_ne (tgt := 53) C dX8_tap_47 (by decide) ⟨hc_29, ⟨by decide, by decide⟩⟩ (fun q_13 => ?_) (fun q_13 => ?_)
          · have hw := if_p hw q_13
            refine fr_bi C dX8_tap_50 rfl ?_
            exact fr_iret C G hr hlk hw dX8_tap_52
          · have hw := if_n hw q_13
            refine fr_ic C dX8_tap_53 ?_
            refine lv_istore (lv' := [(5, .int (iI 0)), (0, .ref (ad 60)), (1, .int (iI a1)), (2, .int (iI a2)), (3, .int (iI a3)), (4, .int (iI a4))]) C.1 C.2.1 dX8_tap_54 hl (by decide) rfl (fun ls hl => ?_)
            obtain ⟨n56, hw⟩ := hw
            have hS56 : ∀ (kx_56 bk_56 : Int → Mm → Prop), (∀ (v5_14 : Int) (x_15 : Mm) (H : Heap) (locs : List Loc) (ls : Array Slot), kx_56 v5_14 x_15 → fG D cy L ad (fAr L ad s.heap.size) s x_15 H locs → lv_has ls 6 [(0, .ref (ad 60)), (1, .int (iI a1)), (2, .int (iI a2)), (3, .int (iI a3)), (4, .int (iI a4)), (5, .int (iI v5_14))] → W p l e (headSpec wsX8_tap rm_X8_tap).room s m args below meth c H locs 0 0 (fQi below D cy L ad s args post) (F0 m 93 ls [])) → (∀ (v5_14 : Int) (x_15 : Mm) (H : Heap) (locs : List Loc) (ls : Array Slot), bk_56 v5_14 x_15 → fG D cy L ad (fAr L ad s.heap.size) s x_15 H locs → lv_has ls 6 [(0, .ref (ad 60)), (1, .int (iI a1)), (2, .int (iI a2)), (3, .int (iI a3)), (4, .int (iI a4)), (5, .int (iI v5_14))] → W p l e (headSpec wsX8_tap rm_X8_tap).room s m args below meth c H locs 0 0 (fQi below D cy L ad s args post) (F0 m 56 ls [])) → ∀ (v5_14 : Int) (x_15 : Mm) (H : Heap) (locs : List Loc) (ls : Array Slot), wB_X8_tap_56 a1 kx_56 bk_56 v5_14 x_15 → fG D cy L ad (fAr L ad s.heap.size) s x_15 H locs → lv_has ls 6 [(0, .ref (ad 60)), (1, .int (iI a1)), (2, .int (iI a2)), (3, .int (iI a3)), (4, .int (iI a4)), (5, .int (iI v5_14))] → W p l e (headSpec wsX8_tap rm_X8_tap).room s m args below meth c H locs 0 0 (fQi below D cy L ad s args post) (F0 m 56 ls []) := by
              intro kx_56 bk_56 hX56 ih56 v5_14 x_15 H locs ls hw G hl
              refine lv_iload C.1 C.2.1 dX8_tap_56 (lv_at hl 5 rfl) ?_
              refine fr_ic C dX8_tap_58 ?_
              obtain ⟨hc_28, hw⟩ := hw
              refine fr_ge (tgt := 93) C dX8_tap_59 (by decide) ⟨hc_28, ⟨by decide, by decide⟩⟩ (fun q_23 => ?_) (fun q_23 => ?_)
              · have hw := if_p hw q_23
                exact hX56 v5_14 x_15 _ _ _ hw G (lv_sub hl [0, 1, 2, 3, 4, 5] rfl)
              · have hw := if_n hw q_23
                refine lv_aload_n C.1 C.2.1 dX8_tap_62 rfl (lv_at hl 0 rfl) ?_
                refine fr_get C G 60 (hL _ (by omega)) (cl_60 _) rfl iw_X8_tap_X8 6 (by decide) fl_X8_tap_23 rfl dX8_tap_63 ?_
                refine fr_ic C dX8_tap_66 ?_
                refine lv_aload_n C.1 C.2.1 dX8_tap_67 rfl (lv_at hl 0 rfl) ?_
                refine fr_get C G 60 (hL _ (by omega)) (cl_60 _) rfl iw_X8_tap_X8 5 (by decide) fl_X8_tap_104 rfl dX8_tap_68 ?_
                refine fr_imul C dX8_tap_71 ?_
                refine lv_iload C.1 C.2.1 dX8_tap_72 (lv_at hl 5 rfl) ?_
                refine fr_iadd C dX8_tap_74 ?_
                refine lv_aload_n C.1 C.2.1 dX8_tap_75 rfl (lv_at hl 0 rfl) ?_
                refine fr_get C G 60 (hL _ (by omega)) (cl_60 _) rfl iw_X8_tap_X8 1 (by decide) fl_X8_tap_7 rfl dX8_tap_76 ?_
                refine fr_ic C dX8_tap_79 ?_
                refine lv_iload_n C.1 C.2.1 dX8_tap_80 rfl (lv_at hl 1 rfl) ?_
                refine fr_imul C dX8_tap_81 ?_
                refine lv_iload C.1 C.2.1 dX8_tap_82 (lv_at hl 5 rfl) ?_
                refine fr_iadd C dX8_tap_84 ?_
                obtain ⟨hb_24, hw⟩ := hw
                refine fr_iald C G 61 16 (hL _ (by omega)) rfl ⟨by decide, by decide⟩ hb_24 dX8_tap_85 ?_
                obtain ⟨hb_25, hw⟩ := hw
                refine fr_iast C G 64 48 (hL _ (by omega)) rfl ⟨by decide, by decide⟩ hb_25 dX8_tap_86 (fun x_26 H locs ex_26 G => ?_)
                have hw := hw x_26 ex_26
                obtain ⟨v5_27, ev5_27⟩ : ∃ z : Int, z = v5_14 + 1 := ⟨_, rfl⟩
                have hw := hw v5_27 ev5_27
                refine lv_iinc (v := iI v5_27) (lv' := [(5, .int (iI v5_27)), (0, .ref (ad 60)), (1, .int (iI a1)), (2, .int (iI a2)), (3, .int (iI a3)), (4, .int (iI a4))]) C.1 C.2.1 dX8_tap_87 hl (k := 5) rfl (by rw [ev5_27]; exact iI_add _ _) (by decide) rfl (fun ls hl => ?_)
                refine lv_goto (tgt := 56) C.1 C.2.1 dX8_tap_90 (by decide) ?_
                exact ih56 v5_27 x_26 _ _ _ hw G (lv_sub hl [1, 2, 3, 4, 5, 0] rfl)
            have hX56 : ∀ (v5_14 : Int) (x_15 : Mm) (H : Heap) (locs : List Loc) (ls : Array Slot), wX_X8_tap_56 a2 a3 a4 post v5_14 x_15 → fG D cy L ad (fAr L ad s.heap.size) s x_15 H locs → lv_has ls 6 [(0, .ref (ad 60)), (1, .int (iI a1)), (2, .int (iI a2)), (3, .int (iI a3)), (4, .int (iI a4)), (5, .int (iI v5_14))] → W p l e (headSpec wsX8_tap rm_X8_tap).room s m args below meth c H locs 0 0 (fQi below D cy L ad s args post) (F0 m 93 ls []) := by
              intro v5_14 x_15 H locs ls hw G hl
              refine lv_aload_n C.1 C.2.1 dX8_tap_93 rfl (lv_at hl 0 rfl) ?_
              refine fr_get C G 60 (hL _ (by omega)) (cl_60 _) rfl iw_X8_tap_X8 7 (by decide) fl_X8_tap_26 rfl dX8_tap_94 ?_
              refine lv_aload_n C.1 C.2.1 dX8_tap_97 rfl (lv_at hl 0 rfl) ?_
              refine fr_get C G 60 (hL _ (by omega)) (cl_60 _) rfl iw_X8_tap_X8 5 (by decide) fl_X8_tap_104 rfl dX8_tap_98 ?_
              refine lv_iload_n C.1 C.2.1 dX8_tap_101 rfl (lv_at hl 2 rfl) ?_
              obtain ⟨hb_16, hw⟩ := hw
              refine fr_iast C G 65 12 (hL _ (by omega)) rfl ⟨by decide, by decide⟩ hb_16 dX8_tap_102 (fun x_17 H locs ex_17 G => ?_)
              have hw := hw x_17 ex_17
              refine lv_aload_n C.1 C.2.1 dX8_tap_103 rfl (lv_at hl 0 rfl) ?_
              refine fr_get C G 60 (hL _ (by omega)) (cl_60 _) rfl iw_X8_tap_X8 8 (by decide) fl_X8_tap_29 rfl dX8_tap_104 ?_
              refine lv_aload_n C.1 C.2.1 dX8_tap_107 rfl (lv_at hl 0 rfl) ?_
              refine fr_get C G 60 (hL _ (by omega)) (cl_60 _) rfl iw_X8_tap_X8 5 (by decide) fl_X8_tap_104 rfl dX8_tap_108 ?_
              refine lv_iload_n C.1 C.2.1 dX8_tap_111 rfl (lv_at hl 3 rfl) ?_
              obtain ⟨hb_18, hw⟩ := hw
              refine fr_iast C G 66 12 (hL _ (by omega)) rfl ⟨by decide, by decide⟩ hb_18 dX8_tap_112 (fun x_19 H locs ex_19 G => ?_)
              have hw := hw x_19 ex_19
              refine lv_aload_n C.1 C.2.1 dX8_tap_113 rfl (lv_at hl 0 rfl) ?_
              refine fr_get C G 60 (hL _ (by omega)) (cl_60 _) rfl iw_X8_tap_X8 9 (by decide) fl_X8_tap_32 rfl dX8_tap_114 ?_
              refine lv_aload_n C.1 C.2.1 dX8_tap_117 rfl (lv_at hl 0 rfl) ?_
              refine fr_get C G 60 (hL _ (by omega)) (cl_60 _) rfl iw_X8_tap_X8 5 (by decide) fl_X8_tap_104 rfl dX8_tap_118 ?_
              refine lv_iload C.1 C.2.1 dX8_tap_121 (lv_at hl 4 rfl) ?_
              obtain ⟨hb_20, hw⟩ := hw
              refine fr_iast C G 67 12 (hL _ (by omega)) rfl ⟨by decide, by decide⟩ hb_20 dX8_tap_123 (fun x_21 H locs ex_21 G => ?_)
              have hw := hw x_21 ex_21
              refine lv_aload_n C.1 C.2.1 dX8_tap_124 rfl (lv_at hl 0 rfl) ?_
              refine lv_dup C.1 C.2.1 dX8_tap_125 rfl ?_
              refine fr_get C G 60 (hL _ (by omega)) (cl_60 _) rfl iw_X8_tap_X8 5 (by decide) fl_X8_tap_104 rfl dX8_tap_126 ?_
              refine fr_ic C dX8_tap_129 ?_
              refine fr_iadd C dX8_tap_130 ?_
              refine fr_put C G 60 (hL _ (by omega)) (cl_60 _) rfl iw_X8_tap_X8 tyX8_ok nmX8 5 (by decide) fl_X8_tap_104 rfl (by decide +kernel) (Nat.le_of_ble_eq_true rfl) (st_60_5 _ _) dX8_tap_131 (fun x_22 H locs ex_22 G => ?_)
              have hw := hw x_22 ex_22
              refine lv_aload_n C.1 C.2.1 dX8_tap_134 rfl (lv_at hl 0 rfl) ?_
              refine fr_get C G 60 (hL _ (by omega)) (cl_60 _) rfl iw_X8_tap_X8 5 (by decide) fl_X8_tap_104 rfl dX8_tap_135 ?_
              refine fr_ic C dX8_tap_138 ?_
              refine fr_isub C dX8_tap_139 ?_
              exact fr_iret C G hr hlk hw dX8_tap_140
            have hB56 : ∀ (n : Nat) (v5_14 : Int) (x_15 : Mm) (H : Heap) (locs : List Loc) (ls : Array Slot), lk2 (wB_X8_tap_56 a1 (wX_X8_tap_56 a2 a3 a4 post)) n v5_14 x_15 → fG D cy L ad (fAr L ad s.heap.size) s x_15 H locs → lv_has ls 6 [(0, .ref (ad 60)), (1, .int (iI a1)), (2, .int (iI a2)), (3, .int (iI a3)), (4, .int (iI a4)), (5, .int (iI v5_14))] → W p l e (headSpec wsX8_tap rm_X8_tap).room s m args below meth c H locs 0 0 (fQi below D cy L ad s args post) (F0 m 56 ls []) := by
              intro n
              induction n with
              | zero =>
                intro v5_14 x_15 H locs ls hw
                exact hw.elim
              | succ n ih =>
                intro v5_14 x_15 H locs ls hw G hl
                exact hS56 _ _ hX56 ih v5_14 x_15 H locs ls hw G hl
            exact hB56 n56 0 x_10 _ _ _ hw G (lv_sub hl [1, 2, 3, 4, 5, 0] rfl)
