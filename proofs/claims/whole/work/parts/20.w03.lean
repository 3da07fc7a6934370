def wX_X5_wholeValue_7 (post : Int → Mm → Prop) (v3_1 : Int) (v4_2 : Int) (x_3 : Mm) : Prop :=
  post v3_1 x_3
def wB_X5_wholeValue_7 (c1 : Nat) (a1 : Int) (a2 : Int) (kx_7 bk_7 : Int → Int → Mm → Prop) (v3_1 : Int) (v4_2 : Int) (x_3 : Mm) : Prop :=
  rg v4_2 ∧ (if v4_2 ≤ 0 then (kx_7 v3_1 v4_2 x_3) else (w_X5_valuesBelow c1 a1 (v3_1 + v4_2) x_3 (fun z_6 x_5 => (rg z_6 ∧ rg a2) ∧ (if a2 < z_6 then ((rg v4_2 ∧ 0 ≤ v4_2) ∧ ∀ v4_9 : Int, v4_9 = v4_2 / 2 → bk_7 v3_1 v4_9 x_5) else (∀ v3_10 : Int, v3_10 = v3_1 + v4_2 → (rg v4_2 ∧ 0 ≤ v4_2) ∧ ∀ v4_12 : Int, v4_12 = v4_2 / 2 → bk_7 v3_10 v4_12 x_5)))))
def w_X5_wholeValue (c1 : Nat) (a1 a2 : Int) (x : Mm) (post : Int → Mm → Prop) : Prop :=
  ∃ n : Nat, lk3 (wB_X5_wholeValue_7 c1 a1 a2 (wX_X5_wholeValue_7 post)) n 0 256 x
abbrev rm_X5_wholeValue : Room := { frames := 2, cells := 0, slots := 0, locals := 60 }
set_option maxHeartbeats 4000000 in
set_option maxRecDepth 100000 in
theorem c_X5_wholeValue (l : Launch) (D : va_G) (cy : Nat → ClassId) (L : List Nat) (ad : Nat → Nat) (sz : Nat) (c1 : Nat) (hc1 : c1 ∈ L) (hlc1 : al c1 = 4) (a1 a2 : Int) (x : Mm) (post : Int → Mm → Prop) (hw : w_X5_wholeValue c1 a1 a2 x post) : fMi l yX5_wholeValue wsX5_wholeValue rm_X5_wholeValue [.ref (ad c1), .int (iI a1), .int (iI a2)] D cy L ad sz x post := by
  refine Met.ofW (cc := cX5_wholeValue) (maxL := 5) (ret := (some .int)) (by decide) rfl ?_
  intro p e s m args below meth c s₁ B hml hv
  obtain ⟨hargs, hp⟩ := hv
  obtain ⟨C, hr, hlk, hsz, G⟩ := fr_start B hml hp
  subst hsz
  obtain ⟨ls, els, hl⟩ := fr_entry (m := m) (n := 5) hargs (Nat.le_of_ble_eq_true rfl)
  rw [els]
  have hl : lv_has ls 5 [(0, .ref (ad c1)), (1, .int (iI a1)), (2, .int (iI a2))] := hl
  clear els hargs hp B
  refine fr_ic C dX5_wholeValue_0 ?_
  refine lv_istore_n (lv' := [(3, .int (iI 0)), (0, .ref (ad c1)), (1, .int (iI a1)), (2, .int (iI a2))]) C.1 C.2.1 dX5_wholeValue_1 rfl hl (by decide) rfl (fun ls hl => ?_)
  refine fr_si C dX5_wholeValue_2 rfl ?_
  refine lv_istore (lv' := [(4, .int (iI 256)), (3, .int (iI 0)), (0, .ref (ad c1)), (1, .int (iI a1)), (2, .int (iI a2))]) C.1 C.2.1 dX5_wholeValue_5 hl (by decide) rfl (fun ls hl => ?_)
  obtain ⟨n7, hw⟩ := hw
  have hS7 : ∀ (kx_7 bk_7 : Int → Int → Mm → Prop), (∀ (v3_1 : Int) (v4_2 : Int) (x_3 : Mm) (H : Heap) (locs : List Loc) (ls : Array Slot), kx_7 v3_1 v4_2 x_3 → fG D cy L ad (fAr L ad s.heap.size) s x_3 H locs → lv_has ls 5 [(0, .ref (ad c1)), (1, .int (iI a1)), (2, .int (iI a2)), (3, .int (iI v3_1)), (4, .int (iI v4_2))] → W p l e (headSpec wsX5_wholeValue rm_X5_wholeValue).room s m args below meth c H locs 0 0 (fQi below D cy L ad s args post) (F0 m 39 ls [])) → (∀ (v3_1 : Int) (v4_2 : Int) (x_3 : Mm) (H : Heap) (locs : List Loc) (ls : Array Slot), bk_7 v3_1 v4_2 x_3 → fG D cy L ad (fAr L ad s.heap.size) s x_3 H locs → lv_has ls 5 [(0, .ref (ad c1)), (1, .int (iI a1)), (2, .int (iI a2)), (3, .int (iI v3_1)), (4, .int (iI v4_2))] → W p l e (headSpec wsX5_wholeValue rm_X5_wholeValue).room s m args below meth c H locs 0 0 (fQi below D cy L ad s args post) (F0 m 7 ls [])) → ∀ (v3_1 : Int) (v4_2 : Int) (x_3 : Mm) (H : Heap) (locs : List Loc) (ls : Array Slot), wB_X5_wholeValue_7 c1 a1 a2 kx_7 bk_7 v3_1 v4_2 x_3 → fG D cy L ad (fAr L ad s.heap.size) s x_3 H locs → lv_has ls 5 [(0, .ref (ad c1)), (1, .int (iI a1)), (2, .int (iI a2)), (3, .int (iI v3_1)), (4, .int (iI v4_2))] → W p l e (headSpec wsX5_wholeValue rm_X5_wholeValue).room s m args below meth c H locs 0 0 (fQi below D cy L ad s args post) (F0 m 7 ls []) := by
    intro kx_7 bk_7 hX7 ih7 v3_1 v4_2 x_3 H locs ls hw G hl
    refine lv_iload C.1 C.2.1 dX5_wholeValue_7 (lv_at hl 4 rfl) ?_
    obtain ⟨hc_14, hw⟩ := hw
    refine fr_le0 (tgt := 39) C dX5_wholeValue_9 (by decide) hc_14 (fun q_4 => ?_) (fun q_4 => ?_)
    · have hw := if_p hw q_4
      exact hX7 v3_1 v4_2 x_3 _ _ _ hw G (lv_sub hl [0, 1, 2, 3, 4] rfl)
    · have hw := if_n hw q_4
      refine lv_aload_n C.1 C.2.1 dX5_wholeValue_12 rfl (lv_at hl 0 rfl) ?_
      refine lv_iload_n C.1 C.2.1 dX5_wholeValue_13 rfl (lv_at hl 1 rfl) ?_
      refine lv_iload_n C.1 C.2.1 dX5_wholeValue_14 rfl (lv_at hl 3 rfl) ?_
      refine lv_iload C.1 C.2.1 dX5_wholeValue_15 (lv_at hl 4 rfl) ?_
      refine fr_iadd C dX5_wholeValue_17 ?_
      refine fr_Si C G (c_X5_valuesBelow l D cy L ad _ c1 hc1 hlc1 a1 (v3_1 + v4_2) x_3 _ hw) (va_cwS 3 C.2.2.2.2 gX5_wholeValue_X5_valuesBelow rfl rfl rfl (by decide +kernel) ⟨Nat.le_of_ble_eq_true rfl, Nat.le_of_ble_eq_true rfl⟩) rfl hl.1 rfl (Nat.le_of_ble_eq_true rfl) dX5_wholeValue_18 ⟨Nat.zero_le _, Nat.zero_le _⟩ (fun z_6 x_5 H locs hw G => ?_)
      refine lv_iload_n C.1 C.2.1 dX5_wholeValue_21 rfl (lv_at hl 2 rfl) ?_
      obtain ⟨hc_13, hw⟩ := hw
      refine fr_gt (tgt := 30) C dX5_wholeValue_22 (by decide) hc_13 (fun q_7 => ?_) (fun q_7 => ?_)
      · have hw := if_p hw q_7
        refine lv_iload C.1 C.2.1 dX5_wholeValue_30 (lv_at hl 4 rfl) ?_
        refine fr_ic C dX5_wholeValue_32 ?_
        obtain ⟨hd_8, hw⟩ := hw
        refine fr_idiv C dX5_wholeValue_33 ⟨hd_8.1, ⟨by decide, by decide⟩, hd_8.2, by decide⟩ ?_
        refine fr_nm (fun v4_9 ev4_9 => ?_)
        have hw := hw v4_9 ev4_9
        refine lv_istore (lv' := [(4, .int (iI v4_9)), (0, .ref (ad c1)), (1, .int (iI a1)), (2, .int (iI a2)), (3, .int (iI v3_1))]) C.1 C.2.1 dX5_wholeValue_34 hl (by decide) rfl (fun ls hl => ?_)
        refine lv_goto (tgt := 7) C.1 C.2.1 dX5_wholeValue_36 (by decide) ?_
        exact ih7 v3_1 v4_9 x_5 _ _ _ hw G (lv_sub hl [1, 2, 3, 4, 0] rfl)
      · have hw := if_n hw q_7
        refine lv_iload_n C.1 C.2.1 dX5_wholeValue_25 rfl (lv_at hl 3 rfl) ?_
        refine lv_iload C.1 C.2.1 dX5_wholeValue_26 (lv_at hl 4 rfl) ?_
        refine fr_iadd C dX5_wholeValue_28 ?_
        refine fr_nm (fun v3_10 ev3_10 => ?_)
        have hw := hw v3_10 ev3_10
        refine lv_istore_n (lv' := [(3, .int (iI v3_10)), (0, .ref (ad c1)), (1, .int (iI a1)), (2, .int (iI a2)), (4, .int (iI v4_2))]) C.1 C.2.1 dX5_wholeValue_29 rfl hl (by decide) rfl (fun ls hl => ?_)
        refine lv_iload C.1 C.2.1 dX5_wholeValue_30 (lv_at hl 4 rfl) ?_
        refine fr_ic C dX5_wholeValue_32 ?_
        obtain ⟨hd_11, hw⟩ := hw
        refine fr_idiv C dX5_wholeValue_33 ⟨hd_11.1, ⟨by decide, by decide⟩, hd_11.2, by decide⟩ ?_
        refine fr_nm (fun v4_12 ev4_12 => ?_)
        have hw := hw v4_12 ev4_12
        refine lv_istore (lv' := [(4, .int (iI v4_12)), (3, .int (iI v3_10)), (0, .ref (ad c1)), (1, .int (iI a1)), (2, .int (iI a2))]) C.1 C.2.1 dX5_wholeValue_34 hl (by decide) rfl (fun ls hl => ?_)
        refine lv_goto (tgt := 7) C.1 C.2.1 dX5_wholeValue_36 (by decide) ?_
        exact ih7 v3_10 v4_12 x_5 _ _ _ hw G (lv_sub hl [2, 3, 4, 1, 0] rfl)
  have hX7 : ∀ (v3_1 : Int) (v4_2 : Int) (x_3 : Mm) (H : Heap) (locs : List Loc) (ls : Array Slot), wX_X5_wholeValue_7 post v3_1 v4_2 x_3 → fG D cy L ad (fAr L ad s.heap.size) s x_3 H locs → lv_has ls 5 [(0, .ref (ad c1)), (1, .int (iI a1)), (2, .int (iI a2)), (3, .int (iI v3_1)), (4, .int (iI v4_2))] → W p l e (headSpec wsX5_wholeValue rm_X5_wholeValue).room s m args below meth c H locs 0 0 (fQi below D cy L ad s args post) (F0 m 39 ls []) := by
    intro v3_1 v4_2 x_3 H locs ls hw G hl
    refine lv_iload_n C.1 C.2.1 dX5_wholeValue_39 rfl (lv_at hl 3 rfl) ?_
    exact fr_iret C G hr hlk hw dX5_wholeValue_40
  have hB7 : ∀ (n : Nat) (v3_1 : Int) (v4_2 : Int) (x_3 : Mm) (H : Heap) (locs : List Loc) (ls : Array Slot), lk3 (wB_X5_wholeValue_7 c1 a1 a2 (wX_X5_wholeValue_7 post)) n v3_1 v4_2 x_3 → fG D cy L ad (fAr L ad s.heap.size) s x_3 H locs → lv_has ls 5 [(0, .ref (ad c1)), (1, .int (iI a1)), (2, .int (iI a2)), (3, .int (iI v3_1)), (4, .int (iI v4_2))] → W p l e (headSpec wsX5_wholeValue rm_X5_wholeValue).room s m args below meth c H locs 0 0 (fQi below D cy L ad s args post) (F0 m 7 ls []) := by
    intro n
    induction n with
    | zero =>
      intro v3_1 v4_2 x_3 H locs ls hw
      exact hw.elim
    | succ n ih =>
      intro v3_1 v4_2 x_3 H locs ls hw G hl
      exact hS7 _ _ hX7 ih v3_1 v4_2 x_3 H locs ls hw G hl
  exact hB7 n7 0 256 x _ _ _ hw G (lv_sub hl [2, 3, 4, 1, 0] rfl)
def wX_X5_fillWholeValues_2 (post : Mm → Prop) (v3_1 : Int) (x_2 : Mm) : Prop :=
  post x_2
def wB_X5_fillWholeValues_2 (c1 : Nat) (c2 : Nat) (a1 : Int) (kx_2 bk_2 : Int → Mm → Prop) (v3_1 : Int) (x_2 : Mm) : Prop :=
  rg v3_1 ∧ (if 9 < v3_1 then (kx_2 v3_1 x_2) else (w_X5_wholeValue c2 v3_1 a1 x_2 (fun z_5 x_4 => (0 ≤ v3_1 ∧ v3_1 < 10) ∧ (∀ x_7 : Mm, x_7 = up2 x_4 c1 (v3_1).toNat z_5 → ∀ v3_8 : Int, v3_8 = v3_1 + 1 → bk_2 v3_8 x_7))))
def w_X5_fillWholeValues (c1 c2 : Nat) (a1 : Int) (x : Mm) (post : Mm → Prop) : Prop :=
  ∃ n : Nat, lk2 (wB_X5_fillWholeValues_2 c1 c2 a1 (wX_X5_fillWholeValues_2 post)) n 1 x
abbrev rm_X5_fillWholeValues : Room := { frames := 3, cells := 0, slots := 0, locals := 84 }
set_option maxHeartbeats 4000000 in
set_option maxRecDepth 100000 in
theorem c_X5_fillWholeValues (l : Launch) (D : va_G) (cy : Nat → ClassId) (L : List Nat) (ad : Nat → Nat) (sz : Nat) (c1 : Nat) (hc1 : c1 ∈ L) (hlc1 : al c1 = 10) (c2 : Nat) (hc2 : c2 ∈ L) (hlc2 : al c2 = 4) (a1 : Int) (x : Mm) (post : Mm → Prop) (hw : w_X5_fillWholeValues c1 c2 a1 x post) : fMv l yX5_fillWholeValues wsX5_fillWholeValues rm_X5_fillWholeValues [.ref (ad c1), .ref (ad c2), .int (iI a1)] D cy L ad sz x post := by
  refine Met.ofW (cc := cX5_fillWholeValues) (maxL := 4) (ret := none) (by decide) rfl ?_
  intro p e s m args below meth c s₁ B hml hv
  obtain ⟨hargs, hp⟩ := hv
  obtain ⟨C, hr, hlk, hsz, G⟩ := fr_start B hml hp
  subst hsz
  obtain ⟨ls, els, hl⟩ := fr_entry (m := m) (n := 4) hargs (Nat.le_of_ble_eq_true rfl)
  rw [els]
  have hl : lv_has ls 4 [(0, .ref (ad c1)), (1, .ref (ad c2)), (2, .int (iI a1))] := hl
  clear els hargs hp B
  refine fr_ic C dX5_fillWholeValues_0 ?_
  refine lv_istore_n (lv' := [(3, .int (iI 1)), (0, .ref (ad c1)), (1, .ref (ad c2)), (2, .int (iI a1))]) C.1 C.2.1 dX5_fillWholeValues_1 rfl hl (by decide) rfl (fun ls hl => ?_)
  obtain ⟨n2, hw⟩ := hw
  have hS2 : ∀ (kx_2 bk_2 : Int → Mm → Prop), (∀ (v3_1 : Int) (x_2 : Mm) (H : Heap) (locs : List Loc) (ls : Array Slot), kx_2 v3_1 x_2 → fG D cy L ad (fAr L ad s.heap.size) s x_2 H locs → lv_has ls 4 [(0, .ref (ad c1)), (1, .ref (ad c2)), (2, .int (iI a1)), (3, .int (iI v3_1))] → W p l e (headSpec wsX5_fillWholeValues rm_X5_fillWholeValues).room s m args below meth c H locs 0 0 (fQv below D cy L ad s args post) (F0 m 23 ls [])) → (∀ (v3_1 : Int) (x_2 : Mm) (H : Heap) (locs : List Loc) (ls : Array Slot), bk_2 v3_1 x_2 → fG D cy L ad (fAr L ad s.heap.size) s x_2 H locs → lv_has ls 4 [(0, .ref (ad c1)), (1, .ref (ad c2)), (2, .int (iI a1)), (3, .int (iI v3_1))] → W p l e (headSpec wsX5_fillWholeValues rm_X5_fillWholeValues).room s m args below meth c H locs 0 0 (fQv below D cy L ad s args post) (F0 m 2 ls [])) → ∀ (v3_1 : Int) (x_2 : Mm) (H : Heap) (locs : List Loc) (ls : Array Slot), wB_X5_fillWholeValues_2 c1 c2 a1 kx_2 bk_2 v3_1 x_2 → fG D cy L ad (fAr L ad s.heap.size) s x_2 H locs → lv_has ls 4 [(0, .ref (ad c1)), (1, .ref (ad c2)), (2, .int (iI a1)), (3, .int (iI v3_1))] → W p l e (headSpec wsX5_fillWholeValues rm_X5_fillWholeValues).room s m args below meth c H locs 0 0 (fQv below D cy L ad s args post) (F0 m 2 ls []) := by
    intro kx_2 bk_2 hX2 ih2 v3_1 x_2 H locs ls hw G hl
    refine lv_iload_n C.1 C.2.1 dX5_fillWholeValues_2 rfl (lv_at hl 3 rfl) ?_
    refine fr_bi C dX5_fillWholeValues_3 rfl ?_
    obtain ⟨hc_9, hw⟩ := hw
    refine fr_gt (tgt := 23) C dX5_fillWholeValues_5 (by decide) ⟨hc_9, ⟨by decide, by decide⟩⟩ (fun q_3 => ?_) (fun q_3 => ?_)
    · have hw := if_p hw q_3
      exact hX2 v3_1 x_2 _ _ _ hw G (lv_sub hl [0, 1, 2, 3] rfl)
    · have hw := if_n hw q_3
      refine lv_aload_n C.1 C.2.1 dX5_fillWholeValues_8 rfl (lv_at hl 0 rfl) ?_
      refine lv_iload_n C.1 C.2.1 dX5_fillWholeValues_9 rfl (lv_at hl 3 rfl) ?_
      refine lv_aload_n C.1 C.2.1 dX5_fillWholeValues_10 rfl (lv_at hl 1 rfl) ?_
      refine lv_iload_n C.1 C.2.1 dX5_fillWholeValues_11 rfl (lv_at hl 3 rfl) ?_
      refine lv_iload_n C.1 C.2.1 dX5_fillWholeValues_12 rfl (lv_at hl 2 rfl) ?_
      refine fr_Si C G (c_X5_wholeValue l D cy L ad _ c2 hc2 hlc2 v3_1 a1 x_2 _ hw) (va_cwS 3 C.2.2.2.2 gX5_fillWholeValues_X5_wholeValue rfl rfl rfl (by decide +kernel) ⟨Nat.le_of_ble_eq_true rfl, Nat.le_of_ble_eq_true rfl⟩) rfl hl.1 rfl (Nat.le_of_ble_eq_true rfl) dX5_fillWholeValues_13 ⟨Nat.zero_le _, Nat.zero_le _⟩ (fun z_5 x_4 H locs hw G => ?_)
      obtain ⟨hb_6, hw⟩ := hw
      refine fr_iast C G c1 10 hc1 hlc1 ⟨by decide, by decide⟩ hb_6 dX5_fillWholeValues_16 (fun x_7 H locs ex_7 G => ?_)
      have hw := hw x_7 ex_7
      obtain ⟨v3_8, ev3_8⟩ : ∃ z : Int, z = v3_1 + 1 := ⟨_, rfl⟩
      have hw := hw v3_8 ev3_8
      refine lv_iinc (v := iI v3_8) (lv' := [(3, .int (iI v3_8)), (0, .ref (ad c1)), (1, .ref (ad c2)), (2, .int (iI a1))]) C.1 C.2.1 dX5_fillWholeValues_17 hl (k := 3) rfl (by rw [ev3_8]; exact iI_add _ _) (by decide) rfl (fun ls hl => ?_)
      refine lv_goto (tgt := 2) C.1 C.2.1 dX5_fillWholeValues_20 (by decide) ?_
      exact ih2 v3_8 x_7 _ _ _ hw G (lv_sub hl [1, 2, 3, 0] rfl)
  have hX2 : ∀ (v3_1 : Int) (x_2 : Mm) (H : Heap) (locs : List Loc) (ls : Array Slot), wX_X5_fillWholeValues_2 post v3_1 x_2 → fG D cy L ad (fAr L ad s.heap.size) s x_2 H locs → lv_has ls 4 [(0, .ref (ad c1)), (1, .ref (ad c2)), (2, .int (iI a1)), (3, .int (iI v3_1))] → W p l e (headSpec wsX5_fillWholeValues rm_X5_fillWholeValues).room s m args below meth c H locs 0 0 (fQv below D cy L ad s args post) (F0 m 23 ls []) := by
    intro v3_1 x_2 H locs ls hw G hl
    exact fr_vret C G hr hlk hw dX5_fillWholeValues_23
  have hB2 : ∀ (n : Nat) (v3_1 : Int) (x_2 : Mm) (H : Heap) (locs : List Loc) (ls : Array Slot), lk2 (wB_X5_fillWholeValues_2 c1 c2 a1 (wX_X5_fillWholeValues_2 post)) n v3_1 x_2 → fG D cy L ad (fAr L ad s.heap.size) s x_2 H locs → lv_has ls 4 [(0, .ref (ad c1)), (1, .ref (ad c2)), (2, .int (iI a1)), (3, .int (iI v3_1))] → W p l e (headSpec wsX5_fillWholeValues rm_X5_fillWholeValues).room s m args below meth c H locs 0 0 (fQv below D cy L ad s args post) (F0 m 2 ls []) := by
    intro n
    induction n with
    | zero =>
      intro v3_1 x_2 H locs ls hw
      exact hw.elim
    | succ n ih =>
      intro v3_1 x_2 H locs ls hw G hl
      exact hS2 _ _ hX2 ih v3_1 x_2 H locs ls hw G hl
  exact hB2 n2 1 x _ _ _ hw G (lv_sub hl [1, 2, 3, 0] rfl)
def w_X6_fits (j : Nat) (a1 a2 : Int) (x : Mm) (post : Int → Mm → Prop) : Prop :=
  (0 ≤ a1 ∧ a1 < 10) ∧ w_X5_byWeight (x (32 + 2 * j + 1) (a1).toNat) a2 x (fun z_3 x_2 => (rg (x_2 (32 + 2 * j) 1) ∧ rg z_3) ∧ (if z_3 < (x_2 (32 + 2 * j) 1) then (post 0 x_2) else ((rg z_3 ∧ rg (x_2 (32 + 2 * j) 2)) ∧ (if (x_2 (32 + 2 * j) 2) < z_3 then (post 0 x_2) else (post 1 x_2)))))
abbrev rm_X6_fits : Room := { frames := 1, cells := 0, slots := 0, locals := 21 }
theorem iw_X6_fits_X6 : ∀ w ∈ u_ws RX6 TX6 3, w ∈ wsX6_fits := by decide +kernel
theorem fl_X6_fits_9 : Cond.fieldLink RX6 9 (TX6 0).1 (TX6 0).2.1 (TX6 0).2.2.1 ∈ wsX6_fits := by decide +kernel
theorem fl_X6_fits_15 : Cond.fieldLink RX6 15 (TX6 1).1 (TX6 1).2.1 (TX6 1).2.2.1 ∈ wsX6_fits := by decide +kernel
theorem fl_X6_fits_19 : Cond.fieldLink RX6 19 (TX6 2).1 (TX6 2).2.1 (TX6 2).2.2.1 ∈ wsX6_fits := by decide +kernel
set_option maxHeartbeats 4000000 in
set_option maxRecDepth 100000 in
theorem c_X6_fits (l : Launch) (D : va_G) (cy : Nat → ClassId) (L : List Nat) (ad : Nat → Nat) (sz : Nat) (hL : fLH L) (j : Nat) (hj : j < 12) (a1 a2 : Int) (x : Mm) (post : Int → Mm → Prop) (hw : w_X6_fits j a1 a2 x post) : fMi l yX6_fits wsX6_fits rm_X6_fits [.ref (ad (32 + 2 * j)), .int (iI a1), .int (iI a2)] D cy L ad sz x post := by
  refine Met.ofW (cc := cX6_fits) (maxL := 4) (ret := (some .boolean)) (by decide) rfl ?_
  intro p e s m args below meth c s₁ B hml hv
  obtain ⟨hargs, hp⟩ := hv
  obtain ⟨C, hr, hlk, hsz, G⟩ := fr_start B hml hp
  subst hsz
  obtain ⟨ls, els, hl⟩ := fr_entry (m := m) (n := 4) hargs (Nat.le_of_ble_eq_true rfl)
  rw [els]
  have hl : lv_has ls 4 [(0, .ref (ad (32 + 2 * j))), (1, .int (iI a1)), (2, .int (iI a2))] := hl
  clear els hargs hp B
  refine lv_aload_n C.1 C.2.1 dX6_fits_0 rfl (lv_at hl 0 rfl) ?_
  refine fr_get C G (32 + 2 * j) (hL _ (by omega)) (cell_tp _ (by omega)) rfl iw_X6_fits_X6 0 (by decide) fl_X6_fits_9 rfl dX6_fits_1 ?_
  refine lv_iload_n C.1 C.2.1 dX6_fits_4 rfl (lv_at hl 1 rfl) ?_
  obtain ⟨hb_1, hw⟩ := hw
  refine fr_iald C G (32 + 2 * j + 1) 10 (hL _ (by omega)) (al_tp _ (by omega)).2 ⟨by decide, by decide⟩ hb_1 dX6_fits_5 ?_
  refine lv_iload_n C.1 C.2.1 dX6_fits_6 rfl (lv_at hl 2 rfl) ?_
  refine fr_Si C G (c_X5_byWeight l D cy L ad _ (x (32 + 2 * j + 1) (a1).toNat) a2 x _ hw) (va_cwS 2 C.2.2.2.2 gX6_fits_X5_byWeight rfl rfl rfl (by decide +kernel) ⟨Nat.le_of_ble_eq_true rfl, Nat.le_of_ble_eq_true rfl⟩) rfl hl.1 rfl (Nat.le_of_ble_eq_true rfl) dX6_fits_7 ⟨Nat.zero_le _, Nat.zero_le _⟩ (fun z_3 x_2 H locs hw G => ?_)
  refine lv_istore_n (lv' := [(3, .int (iI z_3)), (0, .ref (ad (32 + 2 * j))), (1, .int (iI a1)), (2, .int (iI a2))]) C.1 C.2.1 dX6_fits_10 rfl hl (by decide) rfl (fun ls hl => ?_)
  refine lv_aload_n C.1 C.2.1 dX6_fits_11 rfl (lv_at hl 1 rfl) ?_
  refine fr_get C G (32 + 2 * j) (hL _ (by omega)) (cell_tp _ (by omega)) rfl iw_X6_fits_X6 1 (by decide) fl_X6_fits_15 rfl dX6_fits_12 ?_
  refine lv_iload_n C.1 C.2.1 dX6_fits_15 rfl (lv_at hl 0 rfl) ?_
  obtain ⟨hc_7, hw⟩ := hw
  refine fr_gt (tgt := 31) C dX6_fits_16 (by decide) hc_7 (fun q_4 => ?_) (fun q_4 => ?_)
  · have hw := if_p hw q_4
    refine fr_ic C dX6_fits_31 ?_
    exact fr_zret C G hr hlk (by decide) hw dX6_fits_32
  · have hw := if_n hw q_4
    refine lv_iload_n C.1 C.2.1 dX6_fits_19 rfl (lv_at hl 0 rfl) ?_
    refine lv_aload_n C.1 C.2.1 dX6_fits_20 rfl (lv_at hl 1 rfl) ?_
    refine fr_get C G (32 + 2 * j) (hL _ (by omega)) (cell_tp _ (by omega)) rfl iw_X6_fits_X6 2 (by decide) fl_X6_fits_19 rfl dX6_fits_21 ?_
    obtain ⟨hc_6, hw⟩ := hw
    refine fr_gt (tgt := 31) C dX6_fits_24 (by decide) hc_6 (fun q_5 => ?_) (fun q_5 => ?_)
    · have hw := if_p hw q_5
      refine fr_ic C dX6_fits_31 ?_
      exact fr_zret C G hr hlk (by decide) hw dX6_fits_32
    · have hw := if_n hw q_5
      refine fr_ic C dX6_fits_27 ?_
      refine lv_goto (tgt := 32) C.1 C.2.1 dX6_fits_28 (by decide) ?_
      exact fr_zret C G hr hlk (by decide) hw dX6_fits_32
def wX_X2_fitsAllTaps_2 (post : Int → Mm → Prop) (v3_1 : Int) (x_2 : Mm) : Prop :=
  post 1 x_2
def wB_X2_fitsAllTaps_2 (a1 : Int) (a2 : Int) (post : Int → Mm → Prop) (kx_2 bk_2 : Int → Mm → Prop) (v3_1 : Int) (x_2 : Mm) : Prop :=
  (rg v3_1 ∧ rg (x_2 2 1)) ∧ (if (x_2 2 1) ≤ v3_1 then (kx_2 v3_1 x_2) else ((0 ≤ v3_1 ∧ v3_1 < 12) ∧ (0 ≤ x_2 3 (v3_1).toNat ∧ x_2 3 (v3_1).toNat < 12) ∧ w_X6_fits ((x_2 3 (v3_1).toNat).toNat) a1 a2 x_2 (fun z_7 x_6 => rg z_7 ∧ (if z_7 = 0 then (post 0 x_6) else (∀ v3_9 : Int, v3_9 = v3_1 + 1 → bk_2 v3_9 x_6)))))
def w_X2_fitsAllTaps (a1 a2 : Int) (x : Mm) (post : Int → Mm → Prop) : Prop :=
  ∃ n : Nat, lk2 (wB_X2_fitsAllTaps_2 a1 a2 post (wX_X2_fitsAllTaps_2 post)) n 0 x
abbrev rm_X2_fitsAllTaps : Room := { frames := 2, cells := 0, slots := 0, locals := 44 }
theorem iw_X2_fitsAllTaps_X2 : ∀ w ∈ u_ws RX2 TX2 7, w ∈ wsX2_fitsAllTaps := by decide +kernel
theorem fl_X2_fitsAllTaps_17 : Cond.fieldLink RX2 17 (TX2 1).1 (TX2 1).2.1 (TX2 1).2.2.1 ∈ wsX2_fitsAllTaps := by decide +kernel
theorem fl_X2_fitsAllTaps_11 : Cond.fieldLink RX2 11 (TX2 0).1 (TX2 0).2.1 (TX2 0).2.2.1 ∈ wsX2_fitsAllTaps := by decide +kernel
set_option maxHeartbeats 4000000 in
set_option maxRecDepth 100000 in
theorem c_X2_fitsAllTaps (l : Launch) (D : va_G) (cy : Nat → ClassId) (L : List Nat) (ad : Nat → Nat) (sz : Nat) (hL : fLH L) (a1 a2 : Int) (x : Mm) (post : Int → Mm → Prop) (hw : w_X2_fitsAllTaps a1 a2 x post) : fMi l yX2_fitsAllTaps wsX2_fitsAllTaps rm_X2_fitsAllTaps [.ref (ad 2), .int (iI a1), .int (iI a2)] D cy L ad sz x post := by
  refine Met.ofW (cc := cX2_fitsAllTaps) (maxL := 4) (ret := (some .boolean)) (by decide) rfl ?_
  intro p e s m args below meth c s₁ B hml hv
  obtain ⟨hargs, hp⟩ := hv
  obtain ⟨C, hr, hlk, hsz, G⟩ := fr_start B hml hp
  subst hsz
  obtain ⟨ls, els, hl⟩ := fr_entry (m := m) (n := 4) hargs (Nat.le_of_ble_eq_true rfl)
  rw [els]
  have hl : lv_has ls 4 [(0, .ref (ad 2)), (1, .int (iI a1)), (2, .int (iI a2))] := hl
  clear els hargs hp B
  refine fr_ic C dX2_fitsAllTaps_0 ?_
  refine lv_istore_n (lv' := [(3, .int (iI 0)), (0, .ref (ad 2)), (1, .int (iI a1)), (2, .int (iI a2))]) C.1 C.2.1 dX2_fitsAllTaps_1 rfl hl (by decide) rfl (fun ls hl => ?_)
  obtain ⟨n2, hw⟩ := hw
  have hS2 : ∀ (kx_2 bk_2 : Int → Mm → Prop), (∀ (v3_1 : Int) (x_2 : Mm) (H : Heap) (locs : List Loc) (ls : Array Slot), kx_2 v3_1 x_2 → fG D cy L ad (fAr L ad s.heap.size) s x_2 H locs → lv_has ls 4 [(0, .ref (ad 2)), (1, .int (iI a1)), (2, .int (iI a2)), (3, .int (iI v3_1))] → W p l e (headSpec wsX2_fitsAllTaps rm_X2_fitsAllTaps).room s m args below meth c H locs 0 0 (fQi below D cy L ad s args post) (F0 m 32 ls [])) → (∀ (v3_1 : Int) (x_2 : Mm) (H : Heap) (locs : List Loc) (ls : Array Slot), bk_2 v3_1 x_2 → fG D cy L ad (fAr L ad s.heap.size) s x_2 H locs → lv_has ls 4 [(0, .ref (ad 2)), (1, .int (iI a1)), (2, .int (iI a2)), (3, .int (iI v3_1))] → W p l e (headSpec wsX2_fitsAllTaps rm_X2_fitsAllTaps).room s m args below meth c H locs 0 0 (fQi below D cy L ad s args post) (F0 m 2 ls [])) → ∀ (v3_1 : Int) (x_2 : Mm) (H : Heap) (locs : List Loc) (ls : Array Slot), wB_X2_fitsAllTaps_2 a1 a2 post kx_2 bk_2 v3_1 x_2 → fG D cy L ad (fAr L ad s.heap.size) s x_2 H locs → lv_has ls 4 [(0, .ref (ad 2)), (1, .int (iI a1)), (2, .int (iI a2)), (3, .int (iI v3_1))] → W p l e (headSpec wsX2_fitsAllTaps rm_X2_fitsAllTaps).room s m args below meth c H locs 0 0 (fQi below D cy L ad s args post) (F0 m 2 ls []) := by
    intro kx_2 bk_2 hX2 ih2 v3_1 x_2 H locs ls hw G hl
    refine lv_iload_n C.1 C.2.1 dX2_fitsAllTaps_2 rfl (lv_at hl 3 rfl) ?_
    refine lv_aload_n C.1 C.2.1 dX2_fitsAllTaps_3 rfl (lv_at hl 0 rfl) ?_
    refine fr_get C G 2 (hL _ (by omega)) (cl_2 _) rfl iw_X2_fitsAllTaps_X2 1 (by decide) fl_X2_fitsAllTaps_17 rfl dX2_fitsAllTaps_4 ?_
    obtain ⟨hc_11, hw⟩ := hw
    refine fr_ge (tgt := 32) C dX2_fitsAllTaps_7 (by decide) hc_11 (fun q_3 => ?_) (fun q_3 => ?_)
    · have hw := if_p hw q_3
      exact hX2 v3_1 x_2 _ _ _ hw G (lv_sub hl [0, 1, 2, 3] rfl)
    · have hw := if_n hw q_3
      refine lv_aload_n C.1 C.2.1 dX2_fitsAllTaps_10 rfl (lv_at hl 0 rfl) ?_
      refine fr_get C G 2 (hL _ (by omega)) (cl_2 _) rfl iw_X2_fitsAllTaps_X2 0 (by decide) fl_X2_fitsAllTaps_11 rfl dX2_fitsAllTaps_11 ?_
      refine lv_iload_n C.1 C.2.1 dX2_fitsAllTaps_14 rfl (lv_at hl 3 rfl) ?_
      obtain ⟨hb_4, ht_5, hw⟩ := hw
      refine fr_atp C G (hL _ (by omega)) hb_4 dX2_fitsAllTaps_15 ?_
      refine lv_iload_n C.1 C.2.1 dX2_fitsAllTaps_16 rfl (lv_at hl 1 rfl) ?_
      refine lv_iload_n C.1 C.2.1 dX2_fitsAllTaps_17 rfl (lv_at hl 2 rfl) ?_
      refine fr_Vi C G (c_X6_fits l D cy L ad _ hL ((x_2 3 (v3_1).toNat).toNat) (by omega) a1 a2 x_2 _ hw) (cwV 2 C.2.2.2.2 gX2_fitsAllTaps_X6_fits rfl rfl rfl (by decide +kernel) ⟨Nat.le_of_ble_eq_true rfl, Nat.le_of_ble_eq_true rfl⟩) (G.recv (hL _ (by omega)) (cell_tp _ (by omega)) rfl) rfl hl.1 rfl (Nat.le_of_ble_eq_true rfl) dX2_fitsAllTaps_18 ⟨Nat.zero_le _, Nat.zero_le _⟩ (fun z_7 x_6 H locs hw G => ?_)
      obtain ⟨hc_10, hw⟩ := hw
      refine fr_ne0 (tgt := 26) C dX2_fitsAllTaps_21 (by decide) hc_10 (fun q_8 => ?_) (fun q_8 => ?_)
      · have hw := if_p hw q_8
        refine fr_ic C dX2_fitsAllTaps_24 ?_
        exact fr_zret C G hr hlk (by decide) hw dX2_fitsAllTaps_25
      · have hw := if_n hw q_8
        obtain ⟨v3_9, ev3_9⟩ : ∃ z : Int, z = v3_1 + 1 := ⟨_, rfl⟩
        have hw := hw v3_9 ev3_9
        refine lv_iinc (v := iI v3_9) (lv' := [(3, .int (iI v3_9)), (0, .ref (ad 2)), (1, .int (iI a1)), (2, .int (iI a2))]) C.1 C.2.1 dX2_fitsAllTaps_26 hl (k := 3) rfl (by rw [ev3_9]; exact iI_add _ _) (by decide) rfl (fun ls hl => ?_)
        refine lv_goto (tgt := 2) C.1 C.2.1 dX2_fitsAllTaps_29 (by decide) ?_
        exact ih2 v3_9 x_6 _ _ _ hw G (lv_sub hl [1, 2, 3, 0] rfl)
  have hX2 : ∀ (v3_1 : Int) (x_2 : Mm) (H : Heap) (locs : List Loc) (ls : Array Slot), wX_X2_fitsAllTaps_2 post v3_1 x_2 → fG D cy L ad (fAr L ad s.heap.size) s x_2 H locs → lv_has ls 4 [(0, .ref (ad 2)), (1, .int (iI a1)), (2, .int (iI a2)), (3, .int (iI v3_1))] → W p l e (headSpec wsX2_fitsAllTaps rm_X2_fitsAllTaps).room s m args below meth c H locs 0 0 (fQi below D cy L ad s args post) (F0 m 32 ls []) := by
    intro v3_1 x_2 H locs ls hw G hl
    refine fr_ic C dX2_fitsAllTaps_32 ?_
    exact fr_zret C G hr hlk (by decide) hw dX2_fitsAllTaps_33
  have hB2 : ∀ (n : Nat) (v3_1 : Int) (x_2 : Mm) (H : Heap) (locs : List Loc) (ls : Array Slot), lk2 (wB_X2_fitsAllTaps_2 a1 a2 post (wX_X2_fitsAllTaps_2 post)) n v3_1 x_2 → fG D cy L ad (fAr L ad s.heap.size) s x_2 H locs → lv_has ls 4 [(0, .ref (ad 2)), (1, .int (iI a1)), (2, .int (iI a2)), (3, .int (iI v3_1))] → W p l e (headSpec wsX2_fitsAllTaps rm_X2_fitsAllTaps).room s m args below meth c H locs 0 0 (fQi below D cy L ad s args post) (F0 m 2 ls []) := by
    intro n
    induction n with
    | zero =>
      intro v3_1 x_2 H locs ls hw
      exact hw.elim
    | succ n ih =>
      intro v3_1 x_2 H locs ls hw G hl
      exact hS2 _ _ hX2 ih v3_1 x_2 H locs ls hw G hl
  exact hB2 n2 0 x _ _ _ hw G (lv_sub hl [1, 2, 3, 0] rfl)
def w_X2_keep (a1 a2 : Int) (x : Mm) (post : Mm → Prop) : Prop :=
  rg (x 2 4) ∧ (if 81 ≤ (x 2 4) then (post x) else ((0 ≤ x 2 4 ∧ x 2 4 < 81) ∧ (∀ x_3 : Mm, x_3 = up2 x 4 (x 2 4).toNat a1 → (0 ≤ x_3 2 4 ∧ x_3 2 4 < 81) ∧ (∀ x_5 : Mm, x_5 = up2 x_3 5 (x_3 2 4).toNat a2 → ∀ x_6 : Mm, x_6 = up2 x_5 2 4 ((x_5 2 4) + 1) → (0 ≤ a1 ∧ a1 < 10) ∧ (∀ x_8 : Mm, x_8 = up2 x_6 6 (a1).toNat a2 → (0 ≤ a1 ∧ a1 < 10) ∧ rg (x_8 7 (a1).toNat) ∧ (if (x_8 7 (a1).toNat) = 0 then ((0 ≤ a1 ∧ a1 < 10) ∧ (∀ x_12 : Mm, x_12 = up2 x_8 7 (a1).toNat a2 → post x_12)) else (post x_8)))))))
abbrev rm_X2_keep : Room := { frames := 0, cells := 0, slots := 0, locals := 0 }
theorem iw_X2_keep_X2 : ∀ w ∈ u_ws RX2 TX2 7, w ∈ wsX2_keep := by decide +kernel
theorem fl_X2_keep_28 : Cond.fieldLink RX2 28 (TX2 4).1 (TX2 4).2.1 (TX2 4).2.2.1 ∈ wsX2_keep := by decide +kernel
theorem fl_X2_keep_21 : Cond.fieldLink RX2 21 (TX2 2).1 (TX2 2).2.1 (TX2 2).2.2.1 ∈ wsX2_keep := by decide +kernel
theorem fl_X2_keep_25 : Cond.fieldLink RX2 25 (TX2 3).1 (TX2 3).2.1 (TX2 3).2.2.1 ∈ wsX2_keep := by decide +kernel
theorem fl_X2_keep_31 : Cond.fieldLink RX2 31 (TX2 5).1 (TX2 5).2.1 (TX2 5).2.2.1 ∈ wsX2_keep := by decide +kernel
theorem fl_X2_keep_34 : Cond.fieldLink RX2 34 (TX2 6).1 (TX2 6).2.1 (TX2 6).2.2.1 ∈ wsX2_keep := by decide +kernel
set_option maxHeartbeats 4000000 in
set_option maxRecDepth 100000 in
theorem c_X2_keep (l : Launch) (D : va_G) (cy : Nat → ClassId) (L : List Nat) (ad : Nat → Nat) (sz : Nat) (hL : fLH L) (a1 a2 : Int) (x : Mm) (post : Mm → Prop) (hw : w_X2_keep a1 a2 x post) : fMv l yX2_keep wsX2_keep rm_X2_keep [.ref (ad 2), .int (iI a1), .int (iI a2)] D cy L ad sz x post := by
  refine Met.ofW (cc := cX2_keep) (maxL := 3) (ret := none) (by decide) rfl ?_
  intro p e s m args below meth c s₁ B hml hv
  obtain ⟨hargs, hp⟩ := hv
  obtain ⟨C, hr, hlk, hsz, G⟩ := fr_start B hml hp
  subst hsz
  obtain ⟨ls, els, hl⟩ := fr_entry (m := m) (n := 3) hargs (Nat.le_of_ble_eq_true rfl)
  rw [els]
  have hl : lv_has ls 3 [(0, .ref (ad 2)), (1, .int (iI a1)), (2, .int (iI a2))] := hl
  clear els hargs hp B
  refine lv_aload_n C.1 C.2.1 dX2_keep_0 rfl (lv_at hl 0 rfl) ?_
  refine fr_get C G 2 (hL _ (by omega)) (cl_2 _) rfl iw_X2_keep_X2 4 (by decide) fl_X2_keep_28 rfl dX2_keep_1 ?_
  refine lv_aload_n C.1 C.2.1 dX2_keep_4 rfl (lv_at hl 0 rfl) ?_
  refine fr_get C G 2 (hL _ (by omega)) (cl_2 _) rfl iw_X2_keep_X2 2 (by decide) fl_X2_keep_21 rfl dX2_keep_5 ?_
  refine fr_alen C G 4 81 (hL _ (by omega)) rfl (by decide) dX2_keep_8 ?_
  obtain ⟨hc_14, hw⟩ := hw
  refine fr_ge (tgt := 65) C dX2_keep_9 (by decide) ⟨hc_14, ⟨by decide, by decide⟩⟩ (fun q_1 => ?_) (fun q_1 => ?_)
  · have hw := if_p hw q_1
    exact fr_vret C G hr hlk hw dX2_keep_65
  · have hw := if_n hw q_1
    refine lv_aload_n C.1 C.2.1 dX2_keep_12 rfl (lv_at hl 0 rfl) ?_
    refine fr_get C G 2 (hL _ (by omega)) (cl_2 _) rfl iw_X2_keep_X2 2 (by decide) fl_X2_keep_21 rfl dX2_keep_13 ?_
    refine lv_aload_n C.1 C.2.1 dX2_keep_16 rfl (lv_at hl 0 rfl) ?_
    refine fr_get C G 2 (hL _ (by omega)) (cl_2 _) rfl iw_X2_keep_X2 4 (by decide) fl_X2_keep_28 rfl dX2_keep_17 ?_
    refine lv_iload_n C.1 C.2.1 dX2_keep_20 rfl (lv_at hl 1 rfl) ?_
    obtain ⟨hb_2, hw⟩ := hw
    refine fr_iast C G 4 81 (hL _ (by omega)) rfl ⟨by decide, by decide⟩ hb_2 dX2_keep_21 (fun x_3 H locs ex_3 G => ?_)
    have hw := hw x_3 ex_3
    refine lv_aload_n C.1 C.2.1 dX2_keep_22 rfl (lv_at hl 0 rfl) ?_
    refine fr_get C G 2 (hL _ (by omega)) (cl_2 _) rfl iw_X2_keep_X2 3 (by decide) fl_X2_keep_25 rfl dX2_keep_23 ?_
    refine lv_aload_n C.1 C.2.1 dX2_keep_26 rfl (lv_at hl 0 rfl) ?_
    refine fr_get C G 2 (hL _ (by omega)) (cl_2 _) rfl iw_X2_keep_X2 4 (by decide) fl_X2_keep_28 rfl dX2_keep_27 ?_
    refine lv_iload_n C.1 C.2.1 dX2_keep_30 rfl (lv_at hl 2 rfl) ?_
    obtain ⟨hb_4, hw⟩ := hw
    refine fr_iast C G 5 81 (hL _ (by omega)) rfl ⟨by decide, by decide⟩ hb_4 dX2_keep_31 (fun x_5 H locs ex_5 G => ?_)
    have hw := hw x_5 ex_5
    refine lv_aload_n C.1 C.2.1 dX2_keep_32 rfl (lv_at hl 0 rfl) ?_
    refine lv_dup C.1 C.2.1 dX2_keep_33 rfl ?_
    refine fr_get C G 2 (hL _ (by omega)) (cl_2 _) rfl iw_X2_keep_X2 4 (by decide) fl_X2_keep_28 rfl dX2_keep_34 ?_
    refine fr_ic C dX2_keep_37 ?_
    refine fr_iadd C dX2_keep_38 ?_
    refine fr_put C G 2 (hL _ (by omega)) (cl_2 _) rfl iw_X2_keep_X2 tyX2_ok nmX2 4 (by decide) fl_X2_keep_28 rfl (by decide +kernel) (Nat.le_of_ble_eq_true rfl) (st_2_4 _ _) dX2_keep_39 (fun x_6 H locs ex_6 G => ?_)
    have hw := hw x_6 ex_6
    refine lv_aload_n C.1 C.2.1 dX2_keep_42 rfl (lv_at hl 0 rfl) ?_
    refine fr_get C G 2 (hL _ (by omega)) (cl_2 _) rfl iw_X2_keep_X2 5 (by decide) fl_X2_keep_31 rfl dX2_keep_43 ?_
    refine lv_iload_n C.1 C.2.1 dX2_keep_46 rfl (lv_at hl 1 rfl) ?_
    refine lv_iload_n C.1 C.2.1 dX2_keep_47 rfl (lv_at hl 2 rfl) ?_
    obtain ⟨hb_7, hw⟩ := hw
    refine fr_iast C G 6 10 (hL _ (by omega)) rfl ⟨by decide, by decide⟩ hb_7 dX2_keep_48 (fun x_8 H locs ex_8 G => ?_)
    have hw := hw x_8 ex_8
    refine lv_aload_n C.1 C.2.1 dX2_keep_49 rfl (lv_at hl 0 rfl) ?_
    refine fr_get C G 2 (hL _ (by omega)) (cl_2 _) rfl iw_X2_keep_X2 6 (by decide) fl_X2_keep_34 rfl dX2_keep_50 ?_
    refine lv_iload_n C.1 C.2.1 dX2_keep_53 rfl (lv_at hl 1 rfl) ?_
    obtain ⟨hb_9, hw⟩ := hw
    refine fr_iald C G 7 10 (hL _ (by omega)) rfl ⟨by decide, by decide⟩ hb_9 dX2_keep_54 ?_
    obtain ⟨hc_13, hw⟩ := hw
    refine fr_ne0 (tgt := 65) C dX2_keep_55 (by decide) hc_13 (fun q_10 => ?_) (fun q_10 => ?_)
    · have hw := if_p hw q_10
      refine lv_aload_n C.1 C.2.1 dX2_keep_58 rfl (lv_at hl 0 rfl) ?_
      refine fr_get C G 2 (hL _ (by omega)) (cl_2 _) rfl iw_X2_keep_X2 6 (by decide) fl_X2_keep_34 rfl dX2_keep_59 ?_
      refine lv_iload_n C.1 C.2.1 dX2_keep_62 rfl (lv_at hl 1 rfl) ?_
      refine lv_iload_n C.1 C.2.1 dX2_keep_63 rfl (lv_at hl 2 rfl) ?_
      obtain ⟨hb_11, hw⟩ := hw
      refine fr_iast C G 7 10 (hL _ (by omega)) rfl ⟨by decide, by decide⟩ hb_11 dX2_keep_64 (fun x_12 H locs ex_12 G => ?_)
      have hw := hw x_12 ex_12
      exact fr_vret C G hr hlk hw dX2_keep_65
    · have hw := if_n hw q_10
      exact fr_vret C G hr hlk hw dX2_keep_65
