abbrev rm_X6_init : Room := { frames := 1, cells := 1, slots := 10, locals := 12 }
theorem jo_X6_init_1 : Cond.methodLink RX6 3 objectInit ∈ wsX6_init := by decide +kernel
theorem jo_X6_init_2 : Cond.instanceMethod objectInit ∈ wsX6_init := by decide +kernel
theorem ja_X6_init_int : Cond.arrayClass .int ∈ wsX6_init := by decide +kernel
theorem jf_X6_init_9 : Cond.fieldLink RX6 9 (TX6 0).1 (TX6 0).2.1 (TX6 0).2.2.1 ∈ wsX6_init := by decide +kernel
theorem jw_X6_init_X6 : ∀ w ∈ u_ws RX6 TX6 3, w ∈ wsX6_init := by decide +kernel
theorem jf_X6_init_15 : Cond.fieldLink RX6 15 (TX6 1).1 (TX6 1).2.1 (TX6 1).2.2.1 ∈ wsX6_init := by decide +kernel
theorem jf_X6_init_19 : Cond.fieldLink RX6 19 (TX6 2).1 (TX6 2).2.1 (TX6 2).2.2.1 ∈ wsX6_init := by decide +kernel
set_option maxHeartbeats 8000000 in
set_option maxRecDepth 100000 in
theorem n_X6_init (l : Launch) (D : va_G) (cy : Nat → ClassId) (h0 sz : Nat) : fMn l yX6_init wsX6_init rm_X6_init h0 (.inr (5, [.null, .int (iI 0), .int (iI 0)])) D cy sz 1 10 (fun _ => True) (fun u => [(h0, .inr (5, [.ref (u.1 0), .int (iI 0), .int (iI 0)])), (u.1 0, .inl (cy 0, 10, .inl (fun _ => iI 0)))]) := by
  refine Met.ofW (cc := cX6_init) (maxL := 1) (ret := none) (by decide) rfl ?_
  intro p e s m args below meth c s₁ B hml hv
  obtain ⟨hargs, hp⟩ := hv
  obtain ⟨C, hr, hlk, hsz, hin, hK, hNw, hAo, hP, hD, hA⟩ := fn_start B hml hp
  subst hsz
  obtain ⟨ls, els, hl⟩ := fr_entry (m := m) (n := 1) hargs (Nat.le_of_ble_eq_true rfl)
  rw [els]
  have hl : lv_has ls 1 [(0, .ref h0)] := hl
  clear els hargs hp B
  generalize hAe : va_A [(h0, .inr (5, [.null, .int (iI 0), .int (iI 0)]))] s.heap.size = A at hD hA ⊢
  have hS : va_S A s.heap s.heap [] := va_S.rf
  refine lv_aload_n C.1 C.2.1 dX6_init_0 rfl (lv_at hl 0 rfl) ?_
  refine W.objInit C.1 C.2.1 C.2.2.2.1 (C.2.2.2.2 _ jo_X6_init_1) (C.2.2.2.2 _ jo_X6_init_2) (C.2.2.2.2 _ (List.mem_of_getElem? (i := 3) rfl)) rfl (by rw [C.2.2.1]; exact hl.1) rfl dX6_init_1 (Nat.le_of_ble_eq_true rfl) (Nat.le_of_ble_eq_true rfl) ?_
  refine W.eq (g2 := F0 m 4 ls []) rfl ?_
  refine lv_aload_n C.1 C.2.1 dX6_init_4 rfl (lv_at hl 0 rfl) ?_
  refine fr_bi C dX6_init_5 rfl ?_
  refine fn_int C hK hP hD hS hA 10 rfl (by decide) ja_X6_init_int (Nat.le_of_ble_eq_true rfl) (Nat.le_of_ble_eq_true rfl) dX6_init_7 (fun q1 H hP hD hS => ?_)
  have hP : va_P D vwCl [(h0, .inr (5, [.null, .int (iI 0), .int (iI 0)])), (q1, .inl (cy 0, 10, .inl (fun _ => iI 0)))] H := hP
  have hD : va_D A [(h0, .inr (5, [.null, .int (iI 0), .int (iI 0)])), (q1, .inl (cy 0, 10, .inl (fun _ => iI 0)))] := hD
  refine W.widen (k := 1) (n := 10) (Nat.le_of_ble_eq_true rfl) (Nat.le_of_ble_eq_true rfl) ?_
  refine va_putF (D := D) (ci := 5) (v := .ref q1) (ty := .array .int) (C := RX6) (T := TX6) (N := 3) C.1 C.2.1 C.2.2.2.2 jw_X6_init_X6 tyX6 tyX6_ok nmX6 C.2.2.2.1 hK hP hD hS 0 rfl rfl 0 (by decide) (C.2.2.2.2 _ jf_X6_init_9) (fun _ h9 => h9) rfl hin rfl (by decide +kernel) rfl rfl (Nat.le_of_ble_eq_true rfl) dX6_init_9 (fun H locs hP hD hS => ?_)
  have hP : va_P D vwCl [(h0, .inr (5, [.ref q1, .int (iI 0), .int (iI 0)])), (q1, .inl (cy 0, 10, .inl (fun _ => iI 0)))] H := hP
  have hD : va_D A [(h0, .inr (5, [.ref q1, .int (iI 0), .int (iI 0)])), (q1, .inl (cy 0, 10, .inl (fun _ => iI 0)))] := hD
  refine lv_aload_n C.1 C.2.1 dX6_init_12 rfl (lv_at hl 0 rfl) ?_
  refine fr_ic C dX6_init_13 ?_
  refine va_put (D := D) (ci := 5) (v := .int (iI 0)) (ty := .int) (C := RX6) (T := TX6) (N := 3) C.1 C.2.1 C.2.2.2.2 jw_X6_init_X6 tyX6 tyX6_ok nmX6 C.2.2.2.1 hK hP hD hS 0 rfl rfl 1 (by decide) (C.2.2.2.2 _ jf_X6_init_15) (fun _ h9 => h9) rfl (by decide +kernel) rfl rfl (Nat.le_of_ble_eq_true rfl) dX6_init_14 (fun H locs hP hD hS => ?_)
  have hP : va_P D vwCl [(h0, .inr (5, [.ref q1, .int (iI 0), .int (iI 0)])), (q1, .inl (cy 0, 10, .inl (fun _ => iI 0)))] H := hP
  have hD : va_D A [(h0, .inr (5, [.ref q1, .int (iI 0), .int (iI 0)])), (q1, .inl (cy 0, 10, .inl (fun _ => iI 0)))] := hD
  refine lv_aload_n C.1 C.2.1 dX6_init_17 rfl (lv_at hl 0 rfl) ?_
  refine fr_ic C dX6_init_18 ?_
  refine va_put (D := D) (ci := 5) (v := .int (iI 0)) (ty := .int) (C := RX6) (T := TX6) (N := 3) C.1 C.2.1 C.2.2.2.2 jw_X6_init_X6 tyX6 tyX6_ok nmX6 C.2.2.2.1 hK hP hD hS 0 rfl rfl 2 (by decide) (C.2.2.2.2 _ jf_X6_init_19) (fun _ h9 => h9) rfl (by decide +kernel) rfl rfl (Nat.le_of_ble_eq_true rfl) dX6_init_19 (fun H locs hP hD hS => ?_)
  have hP : va_P D vwCl [(h0, .inr (5, [.ref q1, .int (iI 0), .int (iI 0)])), (q1, .inl (cy 0, 10, .inl (fun _ => iI 0)))] H := hP
  have hD : va_D A [(h0, .inr (5, [.ref q1, .int (iI 0), .int (iI 0)])), (q1, .inl (cy 0, 10, .inl (fun _ => iI 0)))] := hD
  exact W.vret C.1 C.2.1 hr (fun t ht hW => ⟨⟨((fun i => ([q1] : List Nat).getD i 0), fun _ _ => 0), rfl, trivial, by rw [ht]; exact hP, hD⟩, hS.F ht⟩) hS.2.2 dX6_init_22 hlk
abbrev rm_X0_init : Room := { frames := 1, cells := 3, slots := 12, locals := 12 }
theorem jo_X0_init_1 : Cond.methodLink RX0 3 objectInit ∈ wsX0_init := by decide +kernel
theorem jo_X0_init_2 : Cond.instanceMethod objectInit ∈ wsX0_init := by decide +kernel
theorem ja_X0_init_boolean : Cond.arrayClass .boolean ∈ wsX0_init := by decide +kernel
theorem jf_X0_init_9 : Cond.fieldLink RX0 9 (TX0 0).1 (TX0 0).2.1 (TX0 0).2.2.1 ∈ wsX0_init := by decide +kernel
theorem jw_X0_init_X0 : ∀ w ∈ u_ws RX0 TX0 3, w ∈ wsX0_init := by decide +kernel
theorem ja_X0_init_int : Cond.arrayClass .int ∈ wsX0_init := by decide +kernel
theorem jf_X0_init_15 : Cond.fieldLink RX0 15 (TX0 1).1 (TX0 1).2.1 (TX0 1).2.2.1 ∈ wsX0_init := by decide +kernel
theorem jf_X0_init_19 : Cond.fieldLink RX0 19 (TX0 2).1 (TX0 2).2.1 (TX0 2).2.2.1 ∈ wsX0_init := by decide +kernel
set_option maxHeartbeats 8000000 in
set_option maxRecDepth 100000 in
theorem n_X0_init (l : Launch) (D : va_G) (cy : Nat → ClassId) (h0 sz : Nat) : fMn l yX0_init wsX0_init rm_X0_init h0 (.inr (0, [.null, .null, .null])) D cy sz 3 12 (fun _ => True) (fun u => [(h0, .inr (0, [.ref (u.1 0), .ref (u.1 1), .ref (u.1 2)])), (u.1 0, .inl (cy 1, 4, .inl (fun _ => iI 0))), (u.1 1, .inl (cy 0, 4, .inl (fun _ => iI 0))), (u.1 2, .inl (cy 0, 4, .inl (fun _ => iI 0)))]) := by
  refine Met.ofW (cc := cX0_init) (maxL := 1) (ret := none) (by decide) rfl ?_
  intro p e s m args below meth c s₁ B hml hv
  obtain ⟨hargs, hp⟩ := hv
  obtain ⟨C, hr, hlk, hsz, hin, hK, hNw, hAo, hP, hD, hA⟩ := fn_start B hml hp
  subst hsz
  obtain ⟨ls, els, hl⟩ := fr_entry (m := m) (n := 1) hargs (Nat.le_of_ble_eq_true rfl)
  rw [els]
  have hl : lv_has ls 1 [(0, .ref h0)] := hl
  clear els hargs hp B
  generalize hAe : va_A [(h0, .inr (0, [.null, .null, .null]))] s.heap.size = A at hD hA ⊢
  have hS : va_S A s.heap s.heap [] := va_S.rf
  refine lv_aload_n C.1 C.2.1 dX0_init_0 rfl (lv_at hl 0 rfl) ?_
  refine W.objInit C.1 C.2.1 C.2.2.2.1 (C.2.2.2.2 _ jo_X0_init_1) (C.2.2.2.2 _ jo_X0_init_2) (C.2.2.2.2 _ (List.mem_of_getElem? (i := 3) rfl)) rfl (by rw [C.2.2.1]; exact hl.1) rfl dX0_init_1 (Nat.le_of_ble_eq_true rfl) (Nat.le_of_ble_eq_true rfl) ?_
  refine W.eq (g2 := F0 m 4 ls []) rfl ?_
  refine lv_aload_n C.1 C.2.1 dX0_init_4 rfl (lv_at hl 0 rfl) ?_
  refine fr_ic C dX0_init_5 ?_
  refine fn_bool C hK hP hD hS hA 4 rfl (by decide) ja_X0_init_boolean (Nat.le_of_ble_eq_true rfl) (Nat.le_of_ble_eq_true rfl) dX0_init_6 (fun q1 H hP hD hS => ?_)
  have hP : va_P D vwCl [(h0, .inr (0, [.null, .null, .null])), (q1, .inl (cy 1, 4, .inl (fun _ => iI 0)))] H := hP
  have hD : va_D A [(h0, .inr (0, [.null, .null, .null])), (q1, .inl (cy 1, 4, .inl (fun _ => iI 0)))] := hD
  refine W.widen (k := 1) (n := 4) (Nat.le_of_ble_eq_true rfl) (Nat.le_of_ble_eq_true rfl) ?_
  refine va_putF (D := D) (ci := 0) (v := .ref q1) (ty := .array .boolean) (C := RX0) (T := TX0) (N := 3) C.1 C.2.1 C.2.2.2.2 jw_X0_init_X0 tyX0 tyX0_ok nmX0 C.2.2.2.1 hK hP hD hS 0 rfl rfl 0 (by decide) (C.2.2.2.2 _ jf_X0_init_9) (fun _ h9 => h9) rfl hin rfl (by decide +kernel) rfl rfl (Nat.le_of_ble_eq_true rfl) dX0_init_8 (fun H locs hP hD hS => ?_)
  have hP : va_P D vwCl [(h0, .inr (0, [.ref q1, .null, .null])), (q1, .inl (cy 1, 4, .inl (fun _ => iI 0)))] H := hP
  have hD : va_D A [(h0, .inr (0, [.ref q1, .null, .null])), (q1, .inl (cy 1, 4, .inl (fun _ => iI 0)))] := hD
  refine lv_aload_n C.1 C.2.1 dX0_init_11 rfl (lv_at hl 0 rfl) ?_
  refine fr_ic C dX0_init_12 ?_
  refine fn_int C hK hP hD hS hA 4 rfl (by decide) ja_X0_init_int (Nat.le_of_ble_eq_true rfl) (Nat.le_of_ble_eq_true rfl) dX0_init_13 (fun q2 H hP hD hS => ?_)
  have hP : va_P D vwCl [(h0, .inr (0, [.ref q1, .null, .null])), (q1, .inl (cy 1, 4, .inl (fun _ => iI 0))), (q2, .inl (cy 0, 4, .inl (fun _ => iI 0)))] H := hP
  have hD : va_D A [(h0, .inr (0, [.ref q1, .null, .null])), (q1, .inl (cy 1, 4, .inl (fun _ => iI 0))), (q2, .inl (cy 0, 4, .inl (fun _ => iI 0)))] := hD
  refine W.widen (k := 2) (n := 8) (Nat.le_of_ble_eq_true rfl) (Nat.le_of_ble_eq_true rfl) ?_
  refine va_putF (D := D) (ci := 0) (v := .ref q2) (ty := .array .int) (C := RX0) (T := TX0) (N := 3) C.1 C.2.1 C.2.2.2.2 jw_X0_init_X0 tyX0 tyX0_ok nmX0 C.2.2.2.1 hK hP hD hS 0 rfl rfl 1 (by decide) (C.2.2.2.2 _ jf_X0_init_15) (fun _ h9 => h9) rfl hin rfl (by decide +kernel) rfl rfl (Nat.le_of_ble_eq_true rfl) dX0_init_15 (fun H locs hP hD hS => ?_)
  have hP : va_P D vwCl [(h0, .inr (0, [.ref q1, .ref q2, .null])), (q1, .inl (cy 1, 4, .inl (fun _ => iI 0))), (q2, .inl (cy 0, 4, .inl (fun _ => iI 0)))] H := hP
  have hD : va_D A [(h0, .inr (0, [.ref q1, .ref q2, .null])), (q1, .inl (cy 1, 4, .inl (fun _ => iI 0))), (q2, .inl (cy 0, 4, .inl (fun _ => iI 0)))] := hD
  refine lv_aload_n C.1 C.2.1 dX0_init_18 rfl (lv_at hl 0 rfl) ?_
  refine fr_ic C dX0_init_19 ?_
  refine fn_int C hK hP hD hS hA 4 rfl (by decide) ja_X0_init_int (Nat.le_of_ble_eq_true rfl) (Nat.le_of_ble_eq_true rfl) dX0_init_20 (fun q3 H hP hD hS => ?_)
  have hP : va_P D vwCl [(h0, .inr (0, [.ref q1, .ref q2, .null])), (q1, .inl (cy 1, 4, .inl (fun _ => iI 0))), (q2, .inl (cy 0, 4, .inl (fun _ => iI 0))), (q3, .inl (cy 0, 4, .inl (fun _ => iI 0)))] H := hP
  have hD : va_D A [(h0, .inr (0, [.ref q1, .ref q2, .null])), (q1, .inl (cy 1, 4, .inl (fun _ => iI 0))), (q2, .inl (cy 0, 4, .inl (fun _ => iI 0))), (q3, .inl (cy 0, 4, .inl (fun _ => iI 0)))] := hD
  refine W.widen (k := 3) (n := 12) (Nat.le_of_ble_eq_true rfl) (Nat.le_of_ble_eq_true rfl) ?_
  refine va_putF (D := D) (ci := 0) (v := .ref q3) (ty := .array .int) (C := RX0) (T := TX0) (N := 3) C.1 C.2.1 C.2.2.2.2 jw_X0_init_X0 tyX0 tyX0_ok nmX0 C.2.2.2.1 hK hP hD hS 0 rfl rfl 2 (by decide) (C.2.2.2.2 _ jf_X0_init_19) (fun _ h9 => h9) rfl hin rfl (by decide +kernel) rfl rfl (Nat.le_of_ble_eq_true rfl) dX0_init_22 (fun H locs hP hD hS => ?_)
  have hP : va_P D vwCl [(h0, .inr (0, [.ref q1, .ref q2, .ref q3])), (q1, .inl (cy 1, 4, .inl (fun _ => iI 0))), (q2, .inl (cy 0, 4, .inl (fun _ => iI 0))), (q3, .inl (cy 0, 4, .inl (fun _ => iI 0)))] H := hP
  have hD : va_D A [(h0, .inr (0, [.ref q1, .ref q2, .ref q3])), (q1, .inl (cy 1, 4, .inl (fun _ => iI 0))), (q2, .inl (cy 0, 4, .inl (fun _ => iI 0))), (q3, .inl (cy 0, 4, .inl (fun _ => iI 0)))] := hD
  exact W.vret C.1 C.2.1 hr (fun t ht hW => ⟨⟨((fun i => ([q1, q2, q3] : List Nat).getD i 0), fun _ _ => 0), rfl, trivial, by rw [ht]; exact hP, hD⟩, hS.F ht⟩) hS.2.2 dX0_init_25 hlk
abbrev rm_X1_init : Room := { frames := 1, cells := 1, slots := 512, locals := 12 }
theorem jo_X1_init_1 : Cond.methodLink RX1 3 objectInit ∈ wsX1_init := by decide +kernel
theorem jo_X1_init_2 : Cond.instanceMethod objectInit ∈ wsX1_init := by decide +kernel
theorem ja_X1_init_int : Cond.arrayClass .int ∈ wsX1_init := by decide +kernel
theorem jf_X1_init_9 : Cond.fieldLink RX1 9 (TX1 0).1 (TX1 0).2.1 (TX1 0).2.2.1 ∈ wsX1_init := by decide +kernel
theorem jw_X1_init_X1 : ∀ w ∈ u_ws RX1 TX1 1, w ∈ wsX1_init := by decide +kernel
set_option maxHeartbeats 8000000 in
set_option maxRecDepth 100000 in
theorem n_X1_init (l : Launch) (D : va_G) (cy : Nat → ClassId) (h0 sz : Nat) : fMn l yX1_init wsX1_init rm_X1_init h0 (.inr (1, [.null])) D cy sz 1 512 (fun _ => True) (fun u => [(h0, .inr (1, [.ref (u.1 0)])), (u.1 0, .inl (cy 0, 512, .inl (fun _ => iI 0)))]) := by
  refine Met.ofW (cc := cX1_init) (maxL := 1) (ret := none) (by decide) rfl ?_
  intro p e s m args below meth c s₁ B hml hv
  obtain ⟨hargs, hp⟩ := hv
  obtain ⟨C, hr, hlk, hsz, hin, hK, hNw, hAo, hP, hD, hA⟩ := fn_start B hml hp
  subst hsz
  obtain ⟨ls, els, hl⟩ := fr_entry (m := m) (n := 1) hargs (Nat.le_of_ble_eq_true rfl)
  rw [els]
  have hl : lv_has ls 1 [(0, .ref h0)] := hl
  clear els hargs hp B
  generalize hAe : va_A [(h0, .inr (1, [.null]))] s.heap.size = A at hD hA ⊢
  have hS : va_S A s.heap s.heap [] := va_S.rf
  refine lv_aload_n C.1 C.2.1 dX1_init_0 rfl (lv_at hl 0 rfl) ?_
  refine W.objInit C.1 C.2.1 C.2.2.2.1 (C.2.2.2.2 _ jo_X1_init_1) (C.2.2.2.2 _ jo_X1_init_2) (C.2.2.2.2 _ (List.mem_of_getElem? (i := 3) rfl)) rfl (by rw [C.2.2.1]; exact hl.1) rfl dX1_init_1 (Nat.le_of_ble_eq_true rfl) (Nat.le_of_ble_eq_true rfl) ?_
  refine W.eq (g2 := F0 m 4 ls []) rfl ?_
  refine lv_aload_n C.1 C.2.1 dX1_init_4 rfl (lv_at hl 0 rfl) ?_
  refine fr_si C dX1_init_5 rfl ?_
  refine fn_int C hK hP hD hS hA 512 rfl (by decide) ja_X1_init_int (Nat.le_of_ble_eq_true rfl) (Nat.le_of_ble_eq_true rfl) dX1_init_8 (fun q1 H hP hD hS => ?_)
  have hP : va_P D vwCl [(h0, .inr (1, [.null])), (q1, .inl (cy 0, 512, .inl (fun _ => iI 0)))] H := hP
  have hD : va_D A [(h0, .inr (1, [.null])), (q1, .inl (cy 0, 512, .inl (fun _ => iI 0)))] := hD
  refine W.widen (k := 1) (n := 512) (Nat.le_of_ble_eq_true rfl) (Nat.le_of_ble_eq_true rfl) ?_
  refine va_putF (D := D) (ci := 1) (v := .ref q1) (ty := .array .int) (C := RX1) (T := TX1) (N := 1) C.1 C.2.1 C.2.2.2.2 jw_X1_init_X1 tyX1 tyX1_ok nmX1 C.2.2.2.1 hK hP hD hS 0 rfl rfl 0 (by decide) (C.2.2.2.2 _ jf_X1_init_9) (fun _ h9 => h9) rfl hin rfl (by decide +kernel) rfl rfl (Nat.le_of_ble_eq_true rfl) dX1_init_10 (fun H locs hP hD hS => ?_)
  have hP : va_P D vwCl [(h0, .inr (1, [.ref q1])), (q1, .inl (cy 0, 512, .inl (fun _ => iI 0)))] H := hP
  have hD : va_D A [(h0, .inr (1, [.ref q1])), (q1, .inl (cy 0, 512, .inl (fun _ => iI 0)))] := hD
  exact W.vret C.1 C.2.1 hr (fun t ht hW => ⟨⟨((fun i => ([q1] : List Nat).getD i 0), fun _ _ => 0), rfl, trivial, by rw [ht]; exact hP, hD⟩, hS.F ht⟩) hS.2.2 dX1_init_13 hlk
abbrev rm_X3_init : Room := { frames := 1, cells := 3, slots := 12, locals := 12 }
theorem jo_X3_init_1 : Cond.methodLink RX3 3 objectInit ∈ wsX3_init := by decide +kernel
theorem jo_X3_init_2 : Cond.instanceMethod objectInit ∈ wsX3_init := by decide +kernel
theorem ja_X3_init_int : Cond.arrayClass .int ∈ wsX3_init := by decide +kernel
theorem jf_X3_init_9 : Cond.fieldLink RX3 9 (TX3 0).1 (TX3 0).2.1 (TX3 0).2.2.1 ∈ wsX3_init := by decide +kernel
theorem jw_X3_init_X3 : ∀ w ∈ u_ws RX3 TX3 5, w ∈ wsX3_init := by decide +kernel
theorem jf_X3_init_15 : Cond.fieldLink RX3 15 (TX3 1).1 (TX3 1).2.1 (TX3 1).2.2.1 ∈ wsX3_init := by decide +kernel
theorem jf_X3_init_18 : Cond.fieldLink RX3 18 (TX3 2).1 (TX3 2).2.1 (TX3 2).2.2.1 ∈ wsX3_init := by decide +kernel
theorem jf_X3_init_21 : Cond.fieldLink RX3 21 (TX3 3).1 (TX3 3).2.1 (TX3 3).2.2.1 ∈ wsX3_init := by decide +kernel
theorem jf_X3_init_25 : Cond.fieldLink RX3 25 (TX3 4).1 (TX3 4).2.1 (TX3 4).2.2.1 ∈ wsX3_init := by decide +kernel
set_option maxHeartbeats 8000000 in
set_option maxRecDepth 100000 in
theorem n_X3_init (l : Launch) (D : va_G) (cy : Nat → ClassId) (h0 sz : Nat) : fMn l yX3_init wsX3_init rm_X3_init h0 (.inr (3, [.null, .null, .null, .int (iI 0), .int (iI 0)])) D cy sz 3 12 (fun _ => True) (fun u => [(h0, .inr (3, [.ref (u.1 0), .ref (u.1 1), .ref (u.1 2), .int (iI (-1)), .int (iI (-1))])), (u.1 0, .inl (cy 0, 4, .inl (fun _ => iI 0))), (u.1 1, .inl (cy 0, 4, .inl (fun _ => iI 0))), (u.1 2, .inl (cy 0, 4, .inl (fun _ => iI 0)))]) := by
  refine Met.ofW (cc := cX3_init) (maxL := 1) (ret := none) (by decide) rfl ?_
  intro p e s m args below meth c s₁ B hml hv
  obtain ⟨hargs, hp⟩ := hv
  obtain ⟨C, hr, hlk, hsz, hin, hK, hNw, hAo, hP, hD, hA⟩ := fn_start B hml hp
  subst hsz
  obtain ⟨ls, els, hl⟩ := fr_entry (m := m) (n := 1) hargs (Nat.le_of_ble_eq_true rfl)
  rw [els]
  have hl : lv_has ls 1 [(0, .ref h0)] := hl
  clear els hargs hp B
  generalize hAe : va_A [(h0, .inr (3, [.null, .null, .null, .int (iI 0), .int (iI 0)]))] s.heap.size = A at hD hA ⊢
  have hS : va_S A s.heap s.heap [] := va_S.rf
  refine lv_aload_n C.1 C.2.1 dX3_init_0 rfl (lv_at hl 0 rfl) ?_
  refine W.objInit C.1 C.2.1 C.2.2.2.1 (C.2.2.2.2 _ jo_X3_init_1) (C.2.2.2.2 _ jo_X3_init_2) (C.2.2.2.2 _ (List.mem_of_getElem? (i := 3) rfl)) rfl (by rw [C.2.2.1]; exact hl.1) rfl dX3_init_1 (Nat.le_of_ble_eq_true rfl) (Nat.le_of_ble_eq_true rfl) ?_
  refine W.eq (g2 := F0 m 4 ls []) rfl ?_
  refine lv_aload_n C.1 C.2.1 dX3_init_4 rfl (lv_at hl 0 rfl) ?_
  refine fr_ic C dX3_init_5 ?_
  refine fn_int C hK hP hD hS hA 4 rfl (by decide) ja_X3_init_int (Nat.le_of_ble_eq_true rfl) (Nat.le_of_ble_eq_true rfl) dX3_init_6 (fun q1 H hP hD hS => ?_)
  have hP : va_P D vwCl [(h0, .inr (3, [.null, .null, .null, .int (iI 0), .int (iI 0)])), (q1, .inl (cy 0, 4, .inl (fun _ => iI 0)))] H := hP
  have hD : va_D A [(h0, .inr (3, [.null, .null, .null, .int (iI 0), .int (iI 0)])), (q1, .inl (cy 0, 4, .inl (fun _ => iI 0)))] := hD
  refine W.widen (k := 1) (n := 4) (Nat.le_of_ble_eq_true rfl) (Nat.le_of_ble_eq_true rfl) ?_
  refine va_putF (D := D) (ci := 3) (v := .ref q1) (ty := .array .int) (C := RX3) (T := TX3) (N := 5) C.1 C.2.1 C.2.2.2.2 jw_X3_init_X3 tyX3 tyX3_ok nmX3 C.2.2.2.1 hK hP hD hS 0 rfl rfl 0 (by decide) (C.2.2.2.2 _ jf_X3_init_9) (fun _ h9 => h9) rfl hin rfl (by decide +kernel) rfl rfl (Nat.le_of_ble_eq_true rfl) dX3_init_8 (fun H locs hP hD hS => ?_)
  have hP : va_P D vwCl [(h0, .inr (3, [.ref q1, .null, .null, .int (iI 0), .int (iI 0)])), (q1, .inl (cy 0, 4, .inl (fun _ => iI 0)))] H := hP
  have hD : va_D A [(h0, .inr (3, [.ref q1, .null, .null, .int (iI 0), .int (iI 0)])), (q1, .inl (cy 0, 4, .inl (fun _ => iI 0)))] := hD
  refine lv_aload_n C.1 C.2.1 dX3_init_11 rfl (lv_at hl 0 rfl) ?_
  refine fr_ic C dX3_init_12 ?_
  refine fn_int C hK hP hD hS hA 4 rfl (by decide) ja_X3_init_int (Nat.le_of_ble_eq_true rfl) (Nat.le_of_ble_eq_true rfl) dX3_init_13 (fun q2 H hP hD hS => ?_)
  have hP : va_P D vwCl [(h0, .inr (3, [.ref q1, .null, .null, .int (iI 0), .int (iI 0)])), (q1, .inl (cy 0, 4, .inl (fun _ => iI 0))), (q2, .inl (cy 0, 4, .inl (fun _ => iI 0)))] H := hP
  have hD : va_D A [(h0, .inr (3, [.ref q1, .null, .null, .int (iI 0), .int (iI 0)])), (q1, .inl (cy 0, 4, .inl (fun _ => iI 0))), (q2, .inl (cy 0, 4, .inl (fun _ => iI 0)))] := hD
  refine W.widen (k := 2) (n := 8) (Nat.le_of_ble_eq_true rfl) (Nat.le_of_ble_eq_true rfl) ?_
  refine va_putF (D := D) (ci := 3) (v := .ref q2) (ty := .array .int) (C := RX3) (T := TX3) (N := 5) C.1 C.2.1 C.2.2.2.2 jw_X3_init_X3 tyX3 tyX3_ok nmX3 C.2.2.2.1 hK hP hD hS 0 rfl rfl 1 (by decide) (C.2.2.2.2 _ jf_X3_init_15) (fun _ h9 => h9) rfl hin rfl (by decide +kernel) rfl rfl (Nat.le_of_ble_eq_true rfl) dX3_init_15 (fun H locs hP hD hS => ?_)
  have hP : va_P D vwCl [(h0, .inr (3, [.ref q1, .ref q2, .null, .int (iI 0), .int (iI 0)])), (q1, .inl (cy 0, 4, .inl (fun _ => iI 0))), (q2, .inl (cy 0, 4, .inl (fun _ => iI 0)))] H := hP
  have hD : va_D A [(h0, .inr (3, [.ref q1, .ref q2, .null, .int (iI 0), .int (iI 0)])), (q1, .inl (cy 0, 4, .inl (fun _ => iI 0))), (q2, .inl (cy 0, 4, .inl (fun _ => iI 0)))] := hD
  refine lv_aload_n C.1 C.2.1 dX3_init_18 rfl (lv_at hl 0 rfl) ?_
  refine fr_ic C dX3_init_19 ?_
  refine fn_int C hK hP hD hS hA 4 rfl (by decide) ja_X3_init_int (Nat.le_of_ble_eq_true rfl) (Nat.le_of_ble_eq_true rfl) dX3_init_20 (fun q3 H hP hD hS => ?_)
  have hP : va_P D vwCl [(h0, .inr (3, [.ref q1, .ref q2, .null, .int (iI 0), .int (iI 0)])), (q1, .inl (cy 0, 4, .inl (fun _ => iI 0))), (q2, .inl (cy 0, 4, .inl (fun _ => iI 0))), (q3, .inl (cy 0, 4, .inl (fun _ => iI 0)))] H := hP
  have hD : va_D A [(h0, .inr (3, [.ref q1, .ref q2, .null, .int (iI 0), .int (iI 0)])), (q1, .inl (cy 0, 4, .inl (fun _ => iI 0))), (q2, .inl (cy 0, 4, .inl (fun _ => iI 0))), (q3, .inl (cy 0, 4, .inl (fun _ => iI 0)))] := hD
  refine W.widen (k := 3) (n := 12) (Nat.le_of_ble_eq_true rfl) (Nat.le_of_ble_eq_true rfl) ?_
  refine va_putF (D := D) (ci := 3) (v := .ref q3) (ty := .array .int) (C := RX3) (T := TX3) (N := 5) C.1 C.2.1 C.2.2.2.2 jw_X3_init_X3 tyX3 tyX3_ok nmX3 C.2.2.2.1 hK hP hD hS 0 rfl rfl 2 (by decide) (C.2.2.2.2 _ jf_X3_init_18) (fun _ h9 => h9) rfl hin rfl (by decide +kernel) rfl rfl (Nat.le_of_ble_eq_true rfl) dX3_init_22 (fun H locs hP hD hS => ?_)
  have hP : va_P D vwCl [(h0, .inr (3, [.ref q1, .ref q2, .ref q3, .int (iI 0), .int (iI 0)])), (q1, .inl (cy 0, 4, .inl (fun _ => iI 0))), (q2, .inl (cy 0, 4, .inl (fun _ => iI 0))), (q3, .inl (cy 0, 4, .inl (fun _ => iI 0)))] H := hP
  have hD : va_D A [(h0, .inr (3, [.ref q1, .ref q2, .ref q3, .int (iI 0), .int (iI 0)])), (q1, .inl (cy 0, 4, .inl (fun _ => iI 0))), (q2, .inl (cy 0, 4, .inl (fun _ => iI 0))), (q3, .inl (cy 0, 4, .inl (fun _ => iI 0)))] := hD
  refine lv_aload_n C.1 C.2.1 dX3_init_25 rfl (lv_at hl 0 rfl) ?_
  refine fr_ic C dX3_init_26 ?_
  refine va_put (D := D) (ci := 3) (v := .int (iI (-1))) (ty := .int) (C := RX3) (T := TX3) (N := 5) C.1 C.2.1 C.2.2.2.2 jw_X3_init_X3 tyX3 tyX3_ok nmX3 C.2.2.2.1 hK hP hD hS 0 rfl rfl 3 (by decide) (C.2.2.2.2 _ jf_X3_init_21) (fun _ h9 => h9) rfl (by decide +kernel) rfl rfl (Nat.le_of_ble_eq_true rfl) dX3_init_27 (fun H locs hP hD hS => ?_)
  have hP : va_P D vwCl [(h0, .inr (3, [.ref q1, .ref q2, .ref q3, .int (iI (-1)), .int (iI 0)])), (q1, .inl (cy 0, 4, .inl (fun _ => iI 0))), (q2, .inl (cy 0, 4, .inl (fun _ => iI 0))), (q3, .inl (cy 0, 4, .inl (fun _ => iI 0)))] H := hP
  have hD : va_D A [(h0, .inr (3, [.ref q1, .ref q2, .ref q3, .int (iI (-1)), .int (iI 0)])), (q1, .inl (cy 0, 4, .inl (fun _ => iI 0))), (q2, .inl (cy 0, 4, .inl (fun _ => iI 0))), (q3, .inl (cy 0, 4, .inl (fun _ => iI 0)))] := hD
  refine lv_aload_n C.1 C.2.1 dX3_init_30 rfl (lv_at hl 0 rfl) ?_
  refine fr_ic C dX3_init_31 ?_
  refine va_put (D := D) (ci := 3) (v := .int (iI (-1))) (ty := .int) (C := RX3) (T := TX3) (N := 5) C.1 C.2.1 C.2.2.2.2 jw_X3_init_X3 tyX3 tyX3_ok nmX3 C.2.2.2.1 hK hP hD hS 0 rfl rfl 4 (by decide) (C.2.2.2.2 _ jf_X3_init_25) (fun _ h9 => h9) rfl (by decide +kernel) rfl rfl (Nat.le_of_ble_eq_true rfl) dX3_init_32 (fun H locs hP hD hS => ?_)
  have hP : va_P D vwCl [(h0, .inr (3, [.ref q1, .ref q2, .ref q3, .int (iI (-1)), .int (iI (-1))])), (q1, .inl (cy 0, 4, .inl (fun _ => iI 0))), (q2, .inl (cy 0, 4, .inl (fun _ => iI 0))), (q3, .inl (cy 0, 4, .inl (fun _ => iI 0)))] H := hP
  have hD : va_D A [(h0, .inr (3, [.ref q1, .ref q2, .ref q3, .int (iI (-1)), .int (iI (-1))])), (q1, .inl (cy 0, 4, .inl (fun _ => iI 0))), (q2, .inl (cy 0, 4, .inl (fun _ => iI 0))), (q3, .inl (cy 0, 4, .inl (fun _ => iI 0)))] := hD
  exact W.vret C.1 C.2.1 hr (fun t ht hW => ⟨⟨((fun i => ([q1, q2, q3] : List Nat).getD i 0), fun _ _ => 0), rfl, trivial, by rw [ht]; exact hP, hD⟩, hS.F ht⟩) hS.2.2 dX3_init_35 hlk
abbrev rm_X4_init : Room := { frames := 1, cells := 2, slots := 24, locals := 12 }
theorem jo_X4_init_1 : Cond.methodLink RX4 3 objectInit ∈ wsX4_init := by decide +kernel
theorem jo_X4_init_2 : Cond.instanceMethod objectInit ∈ wsX4_init := by decide +kernel
theorem ja_X4_init_int : Cond.arrayClass .int ∈ wsX4_init := by decide +kernel
theorem jf_X4_init_9 : Cond.fieldLink RX4 9 (TX4 0).1 (TX4 0).2.1 (TX4 0).2.2.1 ∈ wsX4_init := by decide +kernel
theorem jw_X4_init_X4 : ∀ w ∈ u_ws RX4 TX4 3, w ∈ wsX4_init := by decide +kernel
theorem jf_X4_init_15 : Cond.fieldLink RX4 15 (TX4 1).1 (TX4 1).2.1 (TX4 1).2.2.1 ∈ wsX4_init := by decide +kernel
theorem jf_X4_init_18 : Cond.fieldLink RX4 18 (TX4 2).1 (TX4 2).2.1 (TX4 2).2.2.1 ∈ wsX4_init := by decide +kernel
set_option maxHeartbeats 8000000 in
set_option maxRecDepth 100000 in
theorem n_X4_init (l : Launch) (D : va_G) (cy : Nat → ClassId) (h0 sz : Nat) : fMn l yX4_init wsX4_init rm_X4_init h0 (.inr (4, [.null, .null, .int (iI 0)])) D cy sz 2 24 (fun _ => True) (fun u => [(h0, .inr (4, [.ref (u.1 0), .ref (u.1 1), .int (iI 0)])), (u.1 0, .inl (cy 0, 4, .inl (fun _ => iI 0))), (u.1 1, .inl (cy 0, 20, .inl (fun _ => iI 0)))]) := by
  refine Met.ofW (cc := cX4_init) (maxL := 1) (ret := none) (by decide) rfl ?_
  intro p e s m args below meth c s₁ B hml hv
  obtain ⟨hargs, hp⟩ := hv
  obtain ⟨C, hr, hlk, hsz, hin, hK, hNw, hAo, hP, hD, hA⟩ := fn_start B hml hp
  subst hsz
  obtain ⟨ls, els, hl⟩ := fr_entry (m := m) (n := 1) hargs (Nat.le_of_ble_eq_true rfl)
  rw [els]
  have hl : lv_has ls 1 [(0, .ref h0)] := hl
  clear els hargs hp B
  generalize hAe : va_A [(h0, .inr (4, [.null, .null, .int (iI 0)]))] s.heap.size = A at hD hA ⊢
  have hS : va_S A s.heap s.heap [] := va_S.rf
  refine lv_aload_n C.1 C.2.1 dX4_init_0 rfl (lv_at hl 0 rfl) ?_
  refine W.objInit C.1 C.2.1 C.2.2.2.1 (C.2.2.2.2 _ jo_X4_init_1) (C.2.2.2.2 _ jo_X4_init_2) (C.2.2.2.2 _ (List.mem_of_getElem? (i := 3) rfl)) rfl (by rw [C.2.2.1]; exact hl.1) rfl dX4_init_1 (Nat.le_of_ble_eq_true rfl) (Nat.le_of_ble_eq_true rfl) ?_
  refine W.eq (g2 := F0 m 4 ls []) rfl ?_
  refine lv_aload_n C.1 C.2.1 dX4_init_4 rfl (lv_at hl 0 rfl) ?_
  refine fr_ic C dX4_init_5 ?_
  refine fn_int C hK hP hD hS hA 4 rfl (by decide) ja_X4_init_int (Nat.le_of_ble_eq_true rfl) (Nat.le_of_ble_eq_true rfl) dX4_init_6 (fun q1 H hP hD hS => ?_)
  have hP : va_P D vwCl [(h0, .inr (4, [.null, .null, .int (iI 0)])), (q1, .inl (cy 0, 4, .inl (fun _ => iI 0)))] H := hP
  have hD : va_D A [(h0, .inr (4, [.null, .null, .int (iI 0)])), (q1, .inl (cy 0, 4, .inl (fun _ => iI 0)))] := hD
  refine W.widen (k := 1) (n := 4) (Nat.le_of_ble_eq_true rfl) (Nat.le_of_ble_eq_true rfl) ?_
  refine va_putF (D := D) (ci := 4) (v := .ref q1) (ty := .array .int) (C := RX4) (T := TX4) (N := 3) C.1 C.2.1 C.2.2.2.2 jw_X4_init_X4 tyX4 tyX4_ok nmX4 C.2.2.2.1 hK hP hD hS 0 rfl rfl 0 (by decide) (C.2.2.2.2 _ jf_X4_init_9) (fun _ h9 => h9) rfl hin rfl (by decide +kernel) rfl rfl (Nat.le_of_ble_eq_true rfl) dX4_init_8 (fun H locs hP hD hS => ?_)
  have hP : va_P D vwCl [(h0, .inr (4, [.ref q1, .null, .int (iI 0)])), (q1, .inl (cy 0, 4, .inl (fun _ => iI 0)))] H := hP
  have hD : va_D A [(h0, .inr (4, [.ref q1, .null, .int (iI 0)])), (q1, .inl (cy 0, 4, .inl (fun _ => iI 0)))] := hD
  refine lv_aload_n C.1 C.2.1 dX4_init_11 rfl (lv_at hl 0 rfl) ?_
  refine fr_bi C dX4_init_12 rfl ?_
  refine fn_int C hK hP hD hS hA 20 rfl (by decide) ja_X4_init_int (Nat.le_of_ble_eq_true rfl) (Nat.le_of_ble_eq_true rfl) dX4_init_14 (fun q2 H hP hD hS => ?_)
  have hP : va_P D vwCl [(h0, .inr (4, [.ref q1, .null, .int (iI 0)])), (q1, .inl (cy 0, 4, .inl (fun _ => iI 0))), (q2, .inl (cy 0, 20, .inl (fun _ => iI 0)))] H := hP
  have hD : va_D A [(h0, .inr (4, [.ref q1, .null, .int (iI 0)])), (q1, .inl (cy 0, 4, .inl (fun _ => iI 0))), (q2, .inl (cy 0, 20, .inl (fun _ => iI 0)))] := hD
  refine W.widen (k := 2) (n := 24) (Nat.le_of_ble_eq_true rfl) (Nat.le_of_ble_eq_true rfl) ?_
  refine va_putF (D := D) (ci := 4) (v := .ref q2) (ty := .array .int) (C := RX4) (T := TX4) (N := 3) C.1 C.2.1 C.2.2.2.2 jw_X4_init_X4 tyX4 tyX4_ok nmX4 C.2.2.2.1 hK hP hD hS 0 rfl rfl 1 (by decide) (C.2.2.2.2 _ jf_X4_init_15) (fun _ h9 => h9) rfl hin rfl (by decide +kernel) rfl rfl (Nat.le_of_ble_eq_true rfl) dX4_init_16 (fun H locs hP hD hS => ?_)
  have hP : va_P D vwCl [(h0, .inr (4, [.ref q1, .ref q2, .int (iI 0)])), (q1, .inl (cy 0, 4, .inl (fun _ => iI 0))), (q2, .inl (cy 0, 20, .inl (fun _ => iI 0)))] H := hP
  have hD : va_D A [(h0, .inr (4, [.ref q1, .ref q2, .int (iI 0)])), (q1, .inl (cy 0, 4, .inl (fun _ => iI 0))), (q2, .inl (cy 0, 20, .inl (fun _ => iI 0)))] := hD
  refine lv_aload_n C.1 C.2.1 dX4_init_19 rfl (lv_at hl 0 rfl) ?_
  refine fr_ic C dX4_init_20 ?_
  refine va_put (D := D) (ci := 4) (v := .int (iI 0)) (ty := .int) (C := RX4) (T := TX4) (N := 3) C.1 C.2.1 C.2.2.2.2 jw_X4_init_X4 tyX4 tyX4_ok nmX4 C.2.2.2.1 hK hP hD hS 0 rfl rfl 2 (by decide) (C.2.2.2.2 _ jf_X4_init_18) (fun _ h9 => h9) rfl (by decide +kernel) rfl rfl (Nat.le_of_ble_eq_true rfl) dX4_init_21 (fun H locs hP hD hS => ?_)
  have hP : va_P D vwCl [(h0, .inr (4, [.ref q1, .ref q2, .int (iI 0)])), (q1, .inl (cy 0, 4, .inl (fun _ => iI 0))), (q2, .inl (cy 0, 20, .inl (fun _ => iI 0)))] H := hP
  have hD : va_D A [(h0, .inr (4, [.ref q1, .ref q2, .int (iI 0)])), (q1, .inl (cy 0, 4, .inl (fun _ => iI 0))), (q2, .inl (cy 0, 20, .inl (fun _ => iI 0)))] := hD
  exact W.vret C.1 C.2.1 hr (fun t ht hW => ⟨⟨((fun i => ([q1, q2] : List Nat).getD i 0), fun _ _ => 0), rfl, trivial, by rw [ht]; exact hP, hD⟩, hS.F ht⟩) hS.2.2 dX4_init_24 hlk
