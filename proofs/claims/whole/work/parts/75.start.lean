/-! THE START of the law -/
theorem mi_X0 : Cond.instantiable RX0 3 ∈ wsL_law := List.mem_of_getElem? (i := 19) rfl
theorem mi_X1 : Cond.instantiable RX1 1 ∈ wsL_law := List.mem_of_getElem? (i := 27) rfl
theorem mi_X2 : Cond.instantiable RX2 7 ∈ wsL_law := List.mem_of_getElem? (i := 15) rfl
theorem mi_X3 : Cond.instantiable RX3 5 ∈ wsL_law := List.mem_of_getElem? (i := 23) rfl
theorem mi_X4 : Cond.instantiable RX4 3 ∈ wsL_law := List.mem_of_getElem? (i := 36) rfl
theorem mi_X6 : Cond.instantiable RX6 3 ∈ wsL_law := List.mem_of_getElem? (i := 50) rfl
theorem mi_X7 : Cond.instantiable RX7 10 ∈ wsL_law := List.mem_of_getElem? (i := 1) rfl
theorem mi_X8 : Cond.instantiable RX8 20 ∈ wsL_law := List.mem_of_getElem? (i := 4) rfl
theorem ma_int : Cond.arrayClass .int ∈ wsL_law := List.mem_of_getElem? (i := 30) rfl
theorem ma_bool : Cond.arrayClass .boolean ∈ wsL_law := List.mem_of_getElem? (i := 85) rfl
theorem mn_X7 : Cond.initialized RX7 ∈ wsL_law := List.mem_of_getElem? (i := 2) rfl
theorem mc_X7 : Cond.classLink RL 7 RX7 ∈ wsL_law := List.mem_of_getElem? (i := 0) rfl
theorem ml_X7 : Cond.methodLink RL 9 yX7_init ∈ wsL_law := List.mem_of_getElem? (i := 6) rfl
theorem mm_X7 : Cond.instanceMethod yX7_init ∈ wsL_law := List.mem_of_getElem? (i := 7) rfl
theorem mn_X8 : Cond.initialized RX8 ∈ wsL_law := List.mem_of_getElem? (i := 5) rfl
theorem mc_X8 : Cond.classLink RL 10 RX8 ∈ wsL_law := List.mem_of_getElem? (i := 3) rfl
theorem ml_X8 : Cond.methodLink RL 12 yX8_init ∈ wsL_law := List.mem_of_getElem? (i := 107) rfl
theorem mm_X8 : Cond.instanceMethod yX8_init ∈ wsL_law := List.mem_of_getElem? (i := 108) rfl
theorem mo_X4 : Cond.arrayOver (.object RX4) ∈ lw_tbl := List.mem_of_getElem? (i := 44) (by decide +kernel)
theorem mo_X6 : Cond.arrayOver (.object RX6) ∈ lw_tbl := List.mem_of_getElem? (i := 52) (by decide +kernel)
theorem mw_0 : Cond.methodLinkNest RX0 22 yX7_isTone RX7 ∈ lw_tbl := List.mem_of_getElem? (i := 391) (by decide +kernel)
theorem mw_1 : Cond.methodLinkNest RX4 22 yX7_isStrip RX7 ∈ lw_tbl := List.mem_of_getElem? (i := 262) (by decide +kernel)
theorem mw_2 : Cond.methodLinkNest RX2 37 yX6_init RX7 ∈ lw_tbl := List.mem_of_getElem? (i := 54) (by decide +kernel)
theorem mw_3 : Cond.methodLinkNest RX7 24 yX0_init RX7 ∈ lw_tbl := List.mem_of_getElem? (i := 126) (by decide +kernel)
theorem mw_4 : Cond.methodLinkNest RX7 31 yX3_init RX7 ∈ lw_tbl := List.mem_of_getElem? (i := 143) (by decide +kernel)
theorem mw_5 : Cond.methodLinkNest RX7 38 yX1_init RX7 ∈ lw_tbl := List.mem_of_getElem? (i := 168) (by decide +kernel)
theorem mw_6 : Cond.methodLinkNest RX7 60 yX4_init RX7 ∈ lw_tbl := List.mem_of_getElem? (i := 177) (by decide +kernel)
theorem inlX7 : ∀ w ∈ wsX70, w ∈ wsL_law := fun _ h => List.mem_append_left _ (List.mem_append_left _ (List.mem_append_left _ (List.mem_append_left _ (List.mem_append_left _ (List.mem_append_left _ (List.mem_append_left _ (List.mem_append_left _ (List.mem_append_right _ h))))))))
theorem inlX8 : ∀ w ∈ wsX80, w ∈ wsL_law := fun _ h => List.mem_append_left _ (List.mem_append_left _ (List.mem_append_left _ (List.mem_append_left _ (List.mem_append_left _ (List.mem_append_left _ (List.mem_append_left _ (List.mem_append_right _ h)))))))
theorem inlX2 : ∀ w ∈ wsX20, w ∈ wsL_law := fun _ h => List.mem_append_left _ (List.mem_append_left _ (List.mem_append_left _ (List.mem_append_left _ (List.mem_append_left _ (List.mem_append_left _ (List.mem_append_right _ h))))))
theorem inlX0 : ∀ w ∈ wsX00, w ∈ wsL_law := fun _ h => List.mem_append_left _ (List.mem_append_left _ (List.mem_append_left _ (List.mem_append_left _ (List.mem_append_left _ (List.mem_append_right _ h)))))
theorem inlX3 : ∀ w ∈ wsX30, w ∈ wsL_law := fun _ h => List.mem_append_left _ (List.mem_append_left _ (List.mem_append_left _ (List.mem_append_left _ (List.mem_append_right _ h))))
theorem inlX1 : ∀ w ∈ wsX10, w ∈ wsL_law := fun _ h => List.mem_append_left _ (List.mem_append_left _ (List.mem_append_left _ (List.mem_append_right _ h)))
theorem inlX4 : ∀ w ∈ wsX40, w ∈ wsL_law := fun _ h => List.mem_append_left _ (List.mem_append_left _ (List.mem_append_right _ h))
theorem inlX6 : ∀ w ∈ wsX60, w ∈ wsL_law := fun _ h => List.mem_append_left _ (List.mem_append_right _ h)
set_option maxHeartbeats 2000000 in
set_option maxRecDepth 100000 in
/-- what the tables say: the classes, the arrays, the links -/
theorem lw_tabs {s : State} {b : Nat} (hts0 : ∀ w ∈ lw_tbl, w.before #[Value.ref b] s = true) (hts : ∀ w ∈ wsL_law, w.before #[Value.ref b] s = true) : ∃ (D : va_G) (cy : Nat → ClassId), va_K D vwCl (fty cy) s ∧ fNw s ∧ fAo s := by
  obtain ⟨c0, i0, k0⟩ := u_known (C := RX0) (T := TX0) (N := 3) (n := 3) hts inlX0 (hts _ mi_X0)
  obtain ⟨c1, i1, k1⟩ := u_known (C := RX1) (T := TX1) (N := 1) (n := 1) hts inlX1 (hts _ mi_X1)
  obtain ⟨c2, i2, k2⟩ := u_known (C := RX2) (T := TX2) (N := 7) (n := 7) hts inlX2 (hts _ mi_X2)
  obtain ⟨c3, i3, k3⟩ := u_known (C := RX3) (T := TX3) (N := 5) (n := 5) hts inlX3 (hts _ mi_X3)
  obtain ⟨c4, i4, k4⟩ := u_known (C := RX4) (T := TX4) (N := 3) (n := 3) hts inlX4 (hts _ mi_X4)
  obtain ⟨c6, i6, k6⟩ := u_known (C := RX6) (T := TX6) (N := 3) (n := 3) hts inlX6 (hts _ mi_X6)
  obtain ⟨c7, i7, k7⟩ := u_known (C := RX7) (T := TX7) (N := 10) (n := 10) hts inlX7 (hts _ mi_X7)
  obtain ⟨c8, i8, k8⟩ := u_known (C := RX8) (T := TX8) (N := 20) (n := 20) hts inlX8 (hts _ mi_X8)
  obtain ⟨a0, ka0, cp0, fa0, ga0, ha0⟩ := Cond.arrayClass_spec (hts _ ma_int)
  obtain ⟨a1, ka1, cp1, fa1, ga1, ha1⟩ := Cond.arrayClass_spec (hts _ ma_bool)
  obtain ⟨cp2, a2, ka2, na2, -, ga2, ha2, fa2⟩ := Cond.arrayOver_spec (hts0 _ mo_X4)
  obtain ⟨cp3, a3, ka3, na3, -, ga3, ha3, fa3⟩ := Cond.arrayOver_spec (hts0 _ mo_X6)
  refine ⟨(fun k => ([c0, c1, c2, c3, c4, c6, c7, c8] : List ClassId).getD k c0, fun k => ([i0, i1, i2, i3, i4, i6, i7, i8] : List (Nat → Nat)).getD k i0), fun k => ([a0, a1, a2, a3] : List ClassId).getD k a0, ⟨fun k q hq => ?_, fun k q hq => ?_⟩, ⟨va_Nw.of rfl (hts0 _ mw_0), va_Nw.of rfl (hts0 _ mw_1), va_Nw.of rfl (hts0 _ mw_2), va_Nw.of rfl (hts0 _ mw_3), va_Nw.of rfl (hts0 _ mw_4), va_Nw.of rfl (hts0 _ mw_5), va_Nw.of rfl (hts0 _ mw_6)⟩, ⟨va_AO.of (hts0 _ mo_X4), va_AO.of (hts0 _ mo_X6)⟩⟩
  · match k, hq with
    | 0, hq => cases hq; exact k0
    | 1, hq => cases hq; exact k1
    | 2, hq => cases hq; exact k2
    | 3, hq => cases hq; exact k3
    | 4, hq => cases hq; exact k4
    | 5, hq => cases hq; exact k6
    | 6, hq => cases hq; exact k7
    | 7, hq => cases hq; exact k8
    | k + 8, hq => simp [vwCl] at hq
  · match k, hq with
    | 0, hq => cases hq; exact ⟨fun n z => ⟨fun k h => (by cases h), ka0, ga0, cp0, ha0⟩, fa0⟩
    | 1, hq => cases hq; exact ⟨fun n z => ⟨fun k h => (by cases h), ka1, ga1, cp1, ha1⟩, fa1⟩
    | 2, hq => cases hq; exact ⟨fun n z => ⟨fun k h => (by cases h), ka2, ga2, cp2, ha2⟩, ⟨ka2, cp2, ga2, ha2, na2, fa2⟩⟩
    | 3, hq => cases hq; exact ⟨fun n z => ⟨fun k h => (by cases h), ka3, ga3, cp3, ha3⟩, ⟨ka3, cp3, ga3, ha3, na3, fa3⟩⟩
    | k + 4, hq => simp [fty] at hq
/-- the object's own address is in no cell -/
theorem cell_ad7 {cy : Nat → ClassId} {ad ad2 : Nat → Nat} {c : Nat} (r : Nat → Int) (h : ∀ c, c ≠ 0 → ad2 c = ad c) : cellOf cy ad2 c r = cellOf cy ad c r := by
  have e1 : ∀ i, ad2 (20 + 3 * i) = ad (20 + 3 * i) := fun i => h _ (by omega)
  have e2 : ∀ i, ad2 (32 + 2 * (r i).toNat) = ad (32 + 2 * (r i).toNat) := fun i => h _ (by omega)
  have e3 : ad2 (c + 1) = ad (c + 1) := h _ (by omega)
  have e4 : ad2 (c + 2) = ad (c + 2) := h _ (by omega)
  unfold cellOf
  simp only [e1, e2, e3, e4, h 1 (by decide), h 2 (by decide), h 3 (by decide), h 4 (by decide), h 5 (by decide), h 6 (by decide), h 7 (by decide), h 8 (by decide), h 9 (by decide), h 10 (by decide), h 11 (by decide), h 12 (by decide), h 13 (by decide), h 14 (by decide), h 15 (by decide), h 16 (by decide), h 17 (by decide), h 18 (by decide), h 19 (by decide), h 61 (by decide), h 62 (by decide), h 63 (by decide), h 64 (by decide), h 65 (by decide), h 66 (by decide), h 67 (by decide), h 68 (by decide), h 69 (by decide), h 70 (by decide), h 71 (by decide), h 72 (by decide), h 73 (by decide), h 74 (by decide)]
theorem cell_ad8 {cy : Nat → ClassId} {ad ad2 : Nat → Nat} {c : Nat} (r : Nat → Int) (hc : 60 ≤ c) (h : ∀ c, c ≠ 60 → ad2 c = ad c) : cellOf cy ad2 c r = cellOf cy ad c r := by
  by_cases h8 : c = 68
  · subst h8
    rfl
  by_cases h0 : al c = 0
  · rw [cellOf, cellOf, if_pos h0, if_pos h0, if_neg (by omega), if_neg (by omega), if_neg (by omega), if_neg (by omega), if_neg (by omega), if_neg (by omega), if_neg (by omega), if_neg (by omega), if_neg (by omega), if_neg (by omega), if_neg (by omega), if_neg (by omega), if_neg (by omega), if_neg (by omega), if_neg (by omega), if_neg (by omega), if_neg (by omega), if_neg (by omega), if_neg (by omega), if_neg (by omega), if_neg (by omega), if_neg (by omega)]
    simp only [h 61 (by decide), h 62 (by decide), h 63 (by decide), h 64 (by decide), h 65 (by decide), h 66 (by decide), h 67 (by decide), h 68 (by decide), h 69 (by decide), h 70 (by decide), h 71 (by decide), h 72 (by decide), h 73 (by decide), h 74 (by decide)]
  · rw [cellOf, cellOf, if_neg h0, if_neg h0]
theorem wd_ad7 (cy : Nat → ClassId) (ad : Nat → Nat) (x : Mm) (q0 : Nat) : ∃ ad2 : Nat → Nat, ad2 0 = q0 ∧ (q0, cellOf cy ad 0 (x 0)) :: wd cy LA.tail ad x = wd cy LA ad2 x := by
  obtain ⟨ad2, e2⟩ : ∃ ad2 : Nat → Nat, ad2 = fun c => if c = 0 then q0 else ad c := ⟨_, rfl⟩
  have h0 : ad2 0 = q0 := by rw [e2]; exact if_pos rfl
  have h : ∀ c, c ≠ 0 → ad2 c = ad c := fun c hc => by rw [e2]; exact if_neg hc
  refine ⟨ad2, h0, ?_⟩
  have e : wd cy LA ad2 x = (ad2 0, cellOf cy ad2 0 (x 0)) :: wd cy LA.tail ad2 x := rfl
  rw [e, h0, cell_ad7 _ h]
  congr 1
  unfold wd
  refine List.map_congr_left (fun c hc => ?_)
  have key : ∀ c ∈ LA.tail, c ≠ 0 := by decide +kernel
  rw [h c (key c hc), cell_ad7 _ h]
theorem wd_ad8 (cy : Nat → ClassId) (ad : Nat → Nat) (x : Mm) (q0 : Nat) : ∃ ad2 : Nat → Nat, ad2 60 = q0 ∧ (q0, cellOf cy ad 60 (x 60)) :: wd cy LM.tail ad x = wd cy LM ad2 x := by
  obtain ⟨ad2, e2⟩ : ∃ ad2 : Nat → Nat, ad2 = fun c => if c = 60 then q0 else ad c := ⟨_, rfl⟩
  have h0 : ad2 60 = q0 := by rw [e2]; exact if_pos rfl
  have h : ∀ c, c ≠ 60 → ad2 c = ad c := fun c hc => by rw [e2]; exact if_neg hc
  refine ⟨ad2, h0, ?_⟩
  have e : wd cy LM ad2 x = (ad2 60, cellOf cy ad2 60 (x 60)) :: wd cy LM.tail ad2 x := rfl
  rw [e, h0, cell_ad8 _ (Nat.le_refl _) h]
  congr 1
  unfold wd
  refine List.map_congr_left (fun c hc => ?_)
  have key : ∀ c ∈ LM.tail, c ≠ 60 ∧ 60 ≤ c := by decide +kernel
  rw [h c (key c hc).1, cell_ad8 _ (key c hc).2 h]
theorem lw_apart {D : va_G} {cy : Nat → ClassId} {ad ad2 : Nat → Nat} {x x2 : Mm} {H : Heap} {q : Nat} {e0 : va_E} (hP : va_P D vwCl (wd cy LA ad x) H) (hq : ∀ c, c ∈ LA → ad c ≠ q) (hD2 : va_D (va_A [(q, e0)] H.size) (wd cy LM ad2 x2)) : ∀ c, c ∈ LA → ∀ c2, c2 ∈ LM → ad c ≠ ad2 c2 := by
  intro c hc c2 hc2 he
  obtain ⟨k, -, hk⟩ := wd_get (cy := cy) (ad := ad) x hc
  have hlt : ad c < H.size := (hP k _ hk).lt
  obtain ⟨k2, -, hk2⟩ := wd_get (cy := cy) (ad := ad2) x2 hc2
  rcases hD2.2 k2 _ hk2 with ⟨j, e1, hj⟩ | h
  · have e3 : ad2 c2 = q := by
      cases j with
      | zero => cases hj; rfl
      | succ j => cases hj
    exact hq c hc (he.trans e3)
  · have h : H.size ≤ ad2 c2 := h
    omega
set_option maxHeartbeats 4000000 in
set_option maxRecDepth 100000 in
/-- THE LAW, from its entry -/
theorem whole_start {p : Program} {e : Env} {s : State} {m : MethodId} {below : List Frame} {meth : Method} {c : Code} (l : Launch) {b L : Nat} {xs : Nat → Int32} (hL : L ≤ 2560) (C0 : lw_At p s m meth c b L xs) : W p l e room_1 s m #[Value.ref b] below meth c s.heap [] 0 0 (lw_Z below #[Value.ref b] s) (entryFrame m ([Value.ref b] : List Value).toArray 4) := by
  obtain ⟨hx, hb, hrt, hml, hown, hts0, hX, hbl, hlk, hgv⟩ := C0
  clear hgv
  have hts : ∀ w ∈ wsL_law, w.before #[Value.ref b] s = true := fun w h => hts0 w (wsL_law_in w h)
  obtain ⟨D, cy, hK, hNw, hAo⟩ := lw_tabs hts0 hts
  have C : CallFix p m c cL_law 4 s #[Value.ref b] wsL_law RL := ⟨hx, hb, hml, hown, hts⟩
  obtain ⟨X, eX⟩ : ∃ X : Nat → Int, X = fun j => (xs j).toInt := ⟨_, rfl⟩
  have hr : ∀ j, rg (X j) := fun j => by rw [eX]; exact rg_of _
  have exs : xs = fun j => iI (X j) := by
    funext j
    rw [eX]
    exact (iI_of _).symm
  rw [exs] at hX
  clear exs eX hts0
  have hA : ∀ q : Nat, s.heap.size ≤ q → lA s q := fun _ h => h
  have hS : va_S (lA s) s.heap s.heap [] := va_S.rf
  have hP : va_P D vwCl [] s.heap := fun k q h => by simp at h
  have hD : va_D (lA s) [] := ⟨fun i j p q h => by simp at h, fun k q h => by simp at h⟩
  obtain ⟨ls, els, hl⟩ := fr_entry (m := m) (args := ([Value.ref b] : List Value).toArray) (vs := [.ref b]) (n := 4) rfl (Nat.le_of_ble_eq_true rfl)
  rw [els]
  have hl : lv_has ls 4 [(0, .ref b)] := hl
  clear els
  refine va_new (ci := 6) (fs := [.null, .null, .null, .null, .null, .null, .null, .int (iI 0), .int (iI 0), .int (iI 0)]) (C := RX7) (T := TX7) (N := 10) C.1 C.2.1 C.2.2.2.2 inlX7 tyX7 tyX7_ok C.2.2.2.1 (hts _ mc_X7) (hts _ mi_X7) (hts _ mn_X7) hK hP hD hS hA rfl (fun j hj => by rcases (show j = 0 ∨ j = 1 ∨ j = 2 ∨ j = 3 ∨ j = 4 ∨ j = 5 ∨ j = 6 ∨ j = 7 ∨ j = 8 ∨ j = 9 by omega) with rfl | rfl | rfl | rfl | rfl | rfl | rfl | rfl | rfl | rfl <;> rfl) (Nat.le_of_ble_eq_true rfl) (Nat.le_of_ble_eq_true rfl) dL_law_0 (fun q0 H hP hD hS => ?_)
  have hP : va_P D vwCl [(q0, .inr (6, [.null, .null, .null, .null, .null, .null, .null, .int (iI 0), .int (iI 0), .int (iI 0)]))] H := hP
  have hD : va_D (lA s) [(q0, .inr (6, [.null, .null, .null, .null, .null, .null, .null, .int (iI 0), .int (iI 0), .int (iI 0)]))] := hD
  refine lv_dup C.1 C.2.1 dL_law_3 rfl ?_
  have hFc := va_free (wc := [(q0, .inr (6, [.null, .null, .null, .null, .null, .null, .null, .int (iI 0), .int (iI 0), .int (iI 0)]))]) hD hS hA [0] rfl
  refine va_callv (va_runI (As := []) (rest := [.ref q0]) C (n_X7_init l D cy q0 _) (cwI 0 C.2.2.2.2 gL_law_X7_init rfl rfl rfl (hts _ mn_X7) (hts _ ml_X7) (hts _ mm_X7) rfl (by decide +kernel) ⟨(Nat.le_of_ble_eq_true rfl), (Nat.le_of_ble_eq_true rfl)⟩) ⟨fNP.blind, fun U hU hW => fNP.pre hK hP hD hNw hAo U hU hW⟩ rfl rfl hl.1 rfl (lv_room (Nat.le_of_ble_eq_true rfl)) dL_law_4 ⟨(Nat.le_of_ble_eq_true rfl), (Nat.le_of_ble_eq_true rfl)⟩) hS (fun q _ h => hFc q h) hFc (fun u t H1 locs ht hvm hw hB hz1 hk1 hS => ?_)
  obtain ⟨a7, x7⟩ := u
  obtain ⟨hP1, hD1⟩ := hB
  rw [ht] at hP1
  obtain ⟨ad, had, ew⟩ := wd_ad7 cy a7 x7 q0
  have hP1 : va_P D vwCl ((q0, cellOf cy a7 0 (x7 0)) :: wd cy LA.tail a7 x7) H1 := hP1
  have hD1 : va_D (lA s) ((q0, cellOf cy a7 0 (x7 0)) :: wd cy LA.tail a7 x7) := va_D.weaken hD1 (fun k q _ h => hFc q.1 h)
  rw [ew] at hP1 hD1
  have hR : xC0ok x7 := hw
  clear ew hP hD hFc hw hk1 hz1 ht hvm
  refine lv_astore_n (lv' := [(1, .ref q0), (0, .ref b)]) C.1 C.2.1 dL_law_7 rfl hl (by decide) rfl (fun ls hl => ?_)
  refine va_new (ci := 7) (fs := [.int (iI 0), .null, .int (iI 0), .null, .null, .int (iI 0), .null, .null, .null, .null, .null, .null, .null, .int (iI 0), .null, .int (iI 0), .null, .null, .null, .int (iI 0)]) (C := RX8) (T := TX8) (N := 20) C.1 C.2.1 C.2.2.2.2 inlX8 tyX8 tyX8_ok C.2.2.2.1 (hts _ mc_X8) (hts _ mi_X8) (hts _ mn_X8) hK hP1 hD1 hS hA rfl (fun j hj => by rcases (show j = 0 ∨ j = 1 ∨ j = 2 ∨ j = 3 ∨ j = 4 ∨ j = 5 ∨ j = 6 ∨ j = 7 ∨ j = 8 ∨ j = 9 ∨ j = 10 ∨ j = 11 ∨ j = 12 ∨ j = 13 ∨ j = 14 ∨ j = 15 ∨ j = 16 ∨ j = 17 ∨ j = 18 ∨ j = 19 by omega) with rfl | rfl | rfl | rfl | rfl | rfl | rfl | rfl | rfl | rfl | rfl | rfl | rfl | rfl | rfl | rfl | rfl | rfl | rfl | rfl <;> rfl) (Nat.le_of_ble_eq_true rfl) (Nat.le_of_ble_eq_true rfl) dL_law_8 (fun q1 H hP hD hS => ?_)
  have eln : (wd cy LA ad x7).length = 56 := by simp [wd]
  have hq1 : (wd cy LA ad x7 ++ [(q1, .inr (7, [.int (iI 0), .null, .int (iI 0), .null, .null, .int (iI 0), .null, .null, .null, .null, .null, .null, .null, .int (iI 0), .null, .int (iI 0), .null, .null, .null, .int (iI 0)]))])[56]? = some (q1, .inr (7, [.int (iI 0), .null, .int (iI 0), .null, .null, .int (iI 0), .null, .null, .null, .null, .null, .null, .null, .int (iI 0), .null, .int (iI 0), .null, .null, .null, .int (iI 0)])) := by rw [List.getElem?_append_right (by omega), eln]; rfl
  have hPa : va_P D vwCl (wd cy LA ad x7) H := fun k q hk => hP k q (by rw [List.getElem?_append_left (List.getElem?_eq_some_iff.mp hk).1]; exact hk)
  have hqa : ∀ c, c ∈ LA → ad c ≠ q1 := fun c hc hq => by
    obtain ⟨k, -, hk⟩ := wd_get (cy := cy) (ad := ad) x7 hc
    have hkl := (List.getElem?_eq_some_iff.mp hk).1
    have h56 := hD.1 k 56 _ _ (by rw [List.getElem?_append_left hkl]; exact hk) hq1 hq
    omega
  have hPc : va_P D vwCl [(q1, .inr (7, [.int (iI 0), .null, .int (iI 0), .null, .null, .int (iI 0), .null, .null, .null, .null, .null, .null, .null, .int (iI 0), .null, .int (iI 0), .null, .null, .null, .int (iI 0)]))] H := fun k q hk => by
    cases k with
    | zero => cases hk; exact hP 56 _ hq1
    | succ k => cases hk
  have hDc : va_D (lA s) [(q1, .inr (7, [.int (iI 0), .null, .int (iI 0), .null, .null, .int (iI 0), .null, .null, .null, .null, .null, .null, .null, .int (iI 0), .null, .int (iI 0), .null, .null, .null, .int (iI 0)]))] := ⟨fun i j p q hi hj _ => by
    have h1 := (List.getElem?_eq_some_iff.mp hi).1
    have h2 := (List.getElem?_eq_some_iff.mp hj).1
    have h1 : i < 1 := h1
    have h2 : j < 1 := h2
    omega, fun k q hk => by
    cases k with
    | zero => cases hk; exact hD.2 56 _ hq1
    | succ k => cases hk⟩
  clear hP hD hP1 hq1 eln
  refine lv_dup C.1 C.2.1 dL_law_11 rfl ?_
  have hFc := va_free (wc := [(q1, .inr (7, [.int (iI 0), .null, .int (iI 0), .null, .null, .int (iI 0), .null, .null, .null, .null, .null, .null, .null, .int (iI 0), .null, .int (iI 0), .null, .null, .null, .int (iI 0)]))]) hDc hS hA [0] rfl
  refine va_callv (va_runI (As := []) (rest := [.ref q1]) C (n_X8_init l D cy q1 _) (cwI 0 C.2.2.2.2 gL_law_X8_init rfl rfl rfl (hts _ mn_X8) (hts _ ml_X8) (hts _ mm_X8) rfl (by decide +kernel) ⟨(Nat.le_of_ble_eq_true rfl), (Nat.le_of_ble_eq_true rfl)⟩) ⟨fNP.blind, fun U hU hW => fNP.pre hK hPc hDc hNw hAo U hU hW⟩ rfl rfl hl.1 rfl (lv_room (Nat.le_of_ble_eq_true rfl)) dL_law_12 ⟨(Nat.le_of_ble_eq_true rfl), (Nat.le_of_ble_eq_true rfl)⟩) hS (fun q _ h => hFc q h) hFc (fun u t H1 locs ht hvm hw hB hz1 hk1 hS => ?_)
  obtain ⟨a8, x8⟩ := u
  obtain ⟨hP2, hD2⟩ := hB
  rw [ht] at hP2
  have hw : x8 = xM0 := hw
  subst hw
  obtain ⟨ad2, had2, ew⟩ := wd_ad8 cy a8 xM0 q1
  have hP2 : va_P D vwCl ((q1, cellOf cy a8 60 (xM0 60)) :: wd cy LM.tail a8 xM0) H1 := hP2
  have hD2 : va_D (va_A [(q1, .inr (7, [.int (iI 0), .null, .int (iI 0), .null, .null, .int (iI 0), .null, .null, .null, .null, .null, .null, .null, .int (iI 0), .null, .int (iI 0), .null, .null, .null, .int (iI 0)]))] H.size) ((q1, cellOf cy a8 60 (xM0 60)) :: wd cy LM.tail a8 xM0) := hD2
  rw [ew] at hP2 hD2
  have hd := lw_apart hPa hqa hD2
  have hP3 : va_P D vwCl (wd cy LA ad x7) H1 := hPa.kept (fun k q hk => by
    have hlt := (hPa k q hk).lt
    obtain ⟨c2, hc2, rfl⟩ := wd_at hk
    refine hk1 _ hlt (fun h => ?_)
    rcases h with ⟨j, e1, hj⟩ | h
    · refine hqa c2 (List.mem_of_getElem? hc2) ?_
      cases j with
      | zero => cases hj; rfl
      | succ j => cases hj
    · exact absurd hlt (Nat.not_lt.mpr h))
  have hV : lG D cy ad ad2 s x7 xM0 H1 locs := ⟨⟨hK, hP3, hD1, hS, hA, hNw⟩, ⟨hK, hP2, va_D.weaken hD2 (fun k q _ h => hFc q.1 h), hS, hA, hNw⟩, hd⟩
  refine W.widen (k := 600000) (n := 7302250) (Nat.le_of_ble_eq_true rfl) (Nat.le_of_ble_eq_true rfl) ?_
  refine lv_astore_n (lv' := [(2, .ref q1), (1, .ref q0), (0, .ref b)]) C.1 C.2.1 dL_law_15 rfl hl (by decide) rfl (fun ls hl => ?_)
  refine fr_ic C dL_law_16 ?_
  refine lv_istore_n (lv' := [(3, .int (iI 0)), (2, .ref q1), (1, .ref q0), (0, .ref b)]) C.1 C.2.1 dL_law_17 rfl hl (by decide) rfl (fun ls hl => ?_)
  exact law_loop C hrt hlk hX hbl hL hr (L + 1) 0 x7 xM0 H1 locs ls (by omega) (Nat.zero_le _) (Rel_0 hR) hV (lv_sub hl [3, 2, 1, 0] (by rw [had, had2]; rfl))
