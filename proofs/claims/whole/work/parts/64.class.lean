/-! THE CLASS's object is made -/
def hH (c : Nat) : Nat := ([2, 0, 1, 1, 1, 1, 1, 1, 0, 0, 0, 0, 3, 0, 0, 0, 0, 0, 0, 0, 0, 0, 0, 0, 0, 0, 0, 0, 0, 0, 0, 0, 1, 1, 1, 1, 1, 1, 1, 1, 1, 1, 1, 1, 1, 1, 1, 1, 1, 1, 1, 1, 1, 1, 1, 1] : List Nat).getD c 0
def xC (xh : Mm) : Mm := fun c k => if hH c = 0 then 0 else if hH c = 1 then xh c k else if hH c = 2 then (if k = 8 then 2 else if k = 9 then 5 else 0) else (if k = 3 then -1 else if k = 4 then -1 else 0)
abbrev LA : List Nat := [0, 1, 2, 3, 4, 5, 6, 7, 32, 33, 34, 35, 36, 37, 38, 39, 40, 41, 42, 43, 44, 45, 46, 47, 48, 49, 50, 51, 52, 53, 54, 55, 8, 9, 10, 11, 12, 13, 14, 15, 16, 17, 18, 19, 20, 21, 22, 23, 24, 25, 26, 27, 28, 29, 30, 31]
abbrev L3 : List Nat := [8, 9, 10, 11, 12, 13, 14, 15, 16, 17, 18, 19, 20, 21, 22, 23, 24, 25, 26, 27, 28, 29, 30, 31]
theorem LA_ok : fLA LA := by
  intro c h
  have key : ∀ c : Fin 56, c.val ∈ LA := by decide +kernel
  exact key ⟨c, h⟩
theorem LH_tail {c : Nat} (h : (3 ≤ c ∧ c < 8) ∨ (32 ≤ c ∧ c < 56)) : c ∈ LH.tail := by
  have : c < 56 := by omega
  have key : ∀ c : Fin 56, ((3 ≤ c.val ∧ c.val < 8) ∨ (32 ≤ c.val ∧ c.val < 56)) → c.val ∈ LH.tail := by decide +kernel
  exact key ⟨c, this⟩ h
def xC0ok (x : Mm) : Prop := ∃ xh, x = xC xh ∧ SW xH0 xh ∧ WD (cft xH0) xh
theorem hH1 : ∀ c ∈ LH, hH c = 1 := by decide +kernel
theorem xC_h {xh : Mm} {c : Nat} (h : c ∈ LH) : xC xh c = xh c := by
  funext k
  unfold xC
  rw [hH1 c h, if_neg (by decide), if_pos rfl]
theorem xC_0 {xh : Mm} {c : Nat} (h : hH c = 0) (k : Nat) : xC xh c k = 0 := by
  unfold xC
  rw [h, if_pos rfl]
theorem xC_r {xh : Mm} {c : Nat} (h : hH c = 0) : xC xh c = fun _ => 0 := by
  funext k
  exact xC_0 h k
theorem wd_LHx (cy : Nat → ClassId) (ad : Nat → Nat) (xh : Mm) : wd cy LH ad (xC xh) = wd cy LH ad xh := by
  unfold wd
  exact List.map_congr_left (fun c hc => by rw [xC_h hc])
theorem al_hs : ∀ c : Fin 56, ((4 ≤ c.val ∧ c.val < 8) ∨ (32 ≤ c.val ∧ c.val < 56 ∧ c.val % 2 = 1)) → al c.val ≠ 0 := by decide +kernel
theorem cell_hs {cy : Nat → ClassId} {ad ad' : Nat → Nat} {c : Nat} (r : Nat → Int) (hc : c ∈ LH) (h3 : c ≠ 3) (h : ∀ c, c ∈ LH.tail → ad' c = ad c) : cellOf cy ad' c r = cellOf cy ad c r := by
  have hb : (2 ≤ c ∧ c < 8) ∨ (32 ≤ c ∧ c < 56) := by
    have key : ∀ c ∈ LH, (2 ≤ c ∧ c < 8) ∨ (32 ≤ c ∧ c < 56) := by decide +kernel
    exact key c hc
  by_cases e2 : c = 2
  · subst e2
    show (Sum.inr (2, [.ref (ad' 3), .int (iI (r 1)), .ref (ad' 4), .ref (ad' 5), .int (iI (r 4)), .ref (ad' 6), .ref (ad' 7)]) : va_E) = .inr (2, [.ref (ad 3), .int (iI (r 1)), .ref (ad 4), .ref (ad 5), .int (iI (r 4)), .ref (ad 6), .ref (ad 7)])
    rw [h 3 (LH_tail (by omega)), h 4 (LH_tail (by omega)), h 5 (LH_tail (by omega)), h 6 (LH_tail (by omega)), h 7 (LH_tail (by omega))]
  by_cases ea : (4 ≤ c ∧ c < 8) ∨ (32 ≤ c ∧ c < 56 ∧ c % 2 = 1)
  · have := al_hs ⟨c, by omega⟩ ea
    rw [cell_al r rfl this, cell_al r rfl this]
  · obtain ⟨j, rfl⟩ : ∃ j, c = 32 + 2 * j := ⟨(c - 32) / 2, by omega⟩
    rw [cell_tp r (by omega), cell_tp r (by omega), h _ (LH_tail (by omega))]
theorem wd_LH {cy : Nat → ClassId} {ad a3 : Nat → Nat} {xh : Mm} {q2 : Nat} (h2 : ad 2 = q2) (h : ∀ c, c ∈ LH.tail → ad c = a3 c) : (q2, cellOf cy a3 2 (xh 2)) :: (a3 3, .inl (cy 3, 12, .inr (.inr (.inr (.inr (fun i => some (ad (32 + 2 * (xh 3 i).toNat)))))))) :: wd cy LH.tail.tail a3 xh = wd cy LH ad xh := by
  have e : wd cy LH ad xh = (ad 2, cellOf cy ad 2 (xh 2)) :: (ad 3, .inl (cy 3, 12, .inr (.inr (.inr (.inr (fun i => some (ad (32 + 2 * (xh 3 i).toNat)))))))) :: wd cy LH.tail.tail ad xh := rfl
  rw [e, h2, cell_hs (c := 2) _ (LH_ok _ (by omega)) (by decide) h, h 3 (LH_tail (by omega))]
  congr 2
  unfold wd
  refine List.map_congr_left (fun c hc => ?_)
  have hc1 : c ∈ LH.tail := List.mem_of_mem_tail hc
  have hn3 : c ≠ 3 := by
    have key : ∀ c ∈ LH.tail.tail, c ≠ 3 := by decide +kernel
    exact key c hc
  rw [h c hc1, cell_hs _ (List.mem_of_mem_tail hc1) hn3 h]
set_option maxRecDepth 100000 in
theorem wd_L3 (cy : Nat → ClassId) (ad : Nat → Nat) (xh : Mm) : wd cy L3 ad (xC xh) = [(ad 8, .inr (0, [.ref (ad 9), .ref (ad 10), .ref (ad 11)])), (ad 9, .inl (cy 1, 4, .inl (fun _ => iI 0))), (ad 10, .inl (cy 0, 4, .inl (fun _ => iI 0))), (ad 11, .inl (cy 0, 4, .inl (fun _ => iI 0))), (ad 12, .inr (3, [.ref (ad 13), .ref (ad 14), .ref (ad 15), .int (iI (-1)), .int (iI (-1))])), (ad 13, .inl (cy 0, 4, .inl (fun _ => iI 0))), (ad 14, .inl (cy 0, 4, .inl (fun _ => iI 0))), (ad 15, .inl (cy 0, 4, .inl (fun _ => iI 0))), (ad 16, .inr (1, [.ref (ad 17)])), (ad 17, .inl (cy 0, 512, .inl (fun _ => iI 0))), (ad 18, .inl (cy 0, 10, .inl (fun _ => iI 0))), (ad 19, .inl (cy 0, 10, .inl (fun _ => iI 0))), (ad 20, .inr (4, [.ref (ad 21), .ref (ad 22), .int (iI 0)])), (ad 21, .inl (cy 0, 4, .inl (fun _ => iI 0))), (ad 22, .inl (cy 0, 20, .inl (fun _ => iI 0))), (ad 23, .inr (4, [.ref (ad 24), .ref (ad 25), .int (iI 0)])), (ad 24, .inl (cy 0, 4, .inl (fun _ => iI 0))), (ad 25, .inl (cy 0, 20, .inl (fun _ => iI 0))), (ad 26, .inr (4, [.ref (ad 27), .ref (ad 28), .int (iI 0)])), (ad 27, .inl (cy 0, 4, .inl (fun _ => iI 0))), (ad 28, .inl (cy 0, 20, .inl (fun _ => iI 0))), (ad 29, .inr (4, [.ref (ad 30), .ref (ad 31), .int (iI 0)])), (ad 30, .inl (cy 0, 4, .inl (fun _ => iI 0))), (ad 31, .inl (cy 0, 20, .inl (fun _ => iI 0)))] := rfl
theorem wd_LA (cy : Nat → ClassId) (ad : Nat → Nat) (xh : Mm) : wd cy LA ad (xC xh) = (ad 0, .inr (6, [.ref (ad 1), .ref (ad 2), .ref (ad 8), .ref (ad 12), .ref (ad 16), .ref (ad 18), .ref (ad 19), .int (iI 0), .int (iI 2), .int (iI 5)])) :: (ad 1, .inl (cy 2, 4, .inr (.inr (.inr (.inr (fun i => some (ad (20 + 3 * i)))))))) :: (wd cy LH ad xh ++ [(ad 8, .inr (0, [.ref (ad 9), .ref (ad 10), .ref (ad 11)])), (ad 9, .inl (cy 1, 4, .inl (fun _ => iI 0))), (ad 10, .inl (cy 0, 4, .inl (fun _ => iI 0))), (ad 11, .inl (cy 0, 4, .inl (fun _ => iI 0))), (ad 12, .inr (3, [.ref (ad 13), .ref (ad 14), .ref (ad 15), .int (iI (-1)), .int (iI (-1))])), (ad 13, .inl (cy 0, 4, .inl (fun _ => iI 0))), (ad 14, .inl (cy 0, 4, .inl (fun _ => iI 0))), (ad 15, .inl (cy 0, 4, .inl (fun _ => iI 0))), (ad 16, .inr (1, [.ref (ad 17)])), (ad 17, .inl (cy 0, 512, .inl (fun _ => iI 0))), (ad 18, .inl (cy 0, 10, .inl (fun _ => iI 0))), (ad 19, .inl (cy 0, 10, .inl (fun _ => iI 0))), (ad 20, .inr (4, [.ref (ad 21), .ref (ad 22), .int (iI 0)])), (ad 21, .inl (cy 0, 4, .inl (fun _ => iI 0))), (ad 22, .inl (cy 0, 20, .inl (fun _ => iI 0))), (ad 23, .inr (4, [.ref (ad 24), .ref (ad 25), .int (iI 0)])), (ad 24, .inl (cy 0, 4, .inl (fun _ => iI 0))), (ad 25, .inl (cy 0, 20, .inl (fun _ => iI 0))), (ad 26, .inr (4, [.ref (ad 27), .ref (ad 28), .int (iI 0)])), (ad 27, .inl (cy 0, 4, .inl (fun _ => iI 0))), (ad 28, .inl (cy 0, 20, .inl (fun _ => iI 0))), (ad 29, .inr (4, [.ref (ad 30), .ref (ad 31), .int (iI 0)])), (ad 30, .inl (cy 0, 4, .inl (fun _ => iI 0))), (ad 31, .inl (cy 0, 20, .inl (fun _ => iI 0)))]) := by
  rw [← wd_L3 cy ad xh, ← wd_LHx]
  rfl
