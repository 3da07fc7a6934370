/-! THE LAW: two worlds side by side -/
section LWA
variable {p : Program} {l : Launch} {e : Env} {R : Room} {s : State} {m : MethodId} {args : Array Value} {below : List Frame} {meth : Method} {c : Code} {H : Heap} {locs : List Loc} {cells slots : Nat} {Q : State → Prop}
variable {cc : ByteArray} {nL : Nat} {Ts : List Cond} {own : String} {pc : Nat} {ls : Array Slot} {rest : List Value} {D : va_G} {cy : Nat → ClassId} {ad ad2 : Nat → Nat} {A : Nat → Prop} {x x2 : Mm}
variable {L L2 : List Nat}
theorem fG.keep (G : fG D cy L ad A s x H locs) (G2 : fG D cy L2 ad2 A s x2 H locs) (hd : ∀ c, c ∈ L → ∀ c2, c2 ∈ L2 → ad c ≠ ad2 c2) {H1 : Heap} {locs1 : List Loc} (hk : ∀ q : Nat, q < H.size → ¬ fAr L ad H.size q → H1[q]? = H[q]?) (hS : va_S A s.heap H1 locs1) : fG D cy L2 ad2 A s x2 H1 locs1 := by
  refine ⟨G2.1, G2.2.1.kept (fun k q hq => ?_), G2.2.2.1, hS, G2.2.2.2.2⟩
  have hlt := (G2.2.1 k q hq).lt
  obtain ⟨c2, hc, rfl⟩ := wd_at hq
  refine hk _ hlt (fun h => ?_)
  rcases h with ⟨c0, h1, h2⟩ | h
  · exact hd c0 h1 c2 (List.mem_of_getElem? hc) h2
  · exact absurd hlt (Nat.not_lt.mpr h)
variable {y : MethodName} {bytes : ByteArray} {maxL n index : Nat} {ret : Option FieldType} {ws : List Cond} {rm : Room} {C0 : String} {As st0 : List Value}
theorem fr_Vi2 (C : CallFix p m c cc nL s args Ts own) (G : fG D cy L ad A s x H locs) (G2 : fG D cy L2 ad2 A s x2 H locs) (hd : ∀ c, c ∈ L → ∀ c2, c2 ∈ L2 → ad c ≠ ad2 c2) {cn : Nat} {post : Int → Mm → Prop} (hM : fMi l y ws rm (.ref (ad cn) :: As) D cy L ad H.size x post) (cw : CallW R s args own C0 index y bytes maxL ret ws rm 0 0 n) (hrc : ∃ cell : Cell, H[ad cn]? = some cell ∧ cell.vm.isStatics = false ∧ s.vm.findClass C0 = some cell.cls) (hn : As.length = n) (hls : ls.size = nL) (hst : st0 = As.reverse ++ .ref (ad cn) :: rest) (hr : (rest.map fun v => v.category).sum ≤ 8) (hdg : decode cc pc = .ok (.invokevirtual index, 3)) (hf : cells ≤ R.cells ∧ slots ≤ R.slots) (kk : ∀ (z : Int) (x' : Mm) (H1 : Heap) (locs1 : List Loc), post z x' → fG D cy L ad A s x' H1 locs1 → fG D cy L2 ad2 A s x2 H1 locs1 → W p l e R s m args below meth c H1 locs1 cells slots Q (F0 m (pc + 3) ls (.int (iI z) :: rest))) : W p l e R s m args below meth c H locs cells slots Q (F0 m pc ls st0) := by
  refine va_calli (va_runV (As := As) (rest := rest) C hM cw ⟨fPre.blind, hrc, fun U hU hW => G.pre U hU hW⟩ rfl hn hls hst (lv_room hr) hdg hf) G.2.2.2.1 (fun q _ h => G.free q h) G.free (fun r u t H1 locs1 ht hvm hw hB hz1 hk1 hS => ?_)
  obtain ⟨z, rfl, hp⟩ := hw
  exact kk z u H1 locs1 hp (G.post ht hB hS) (G.keep G2 hd hk1 hS)
end LWA
section LWB
variable {p : Program} {l : Launch} {e : Env} {R : Room} {s : State} {m : MethodId} {args : Array Value} {below : List Frame} {meth : Method} {c : Code} {H : Heap} {locs : List Loc} {cells slots : Nat} {Q : State → Prop}
variable {cc : ByteArray} {nL : Nat} {Ts : List Cond} {own : String} {pc : Nat} {ls : Array Slot} {rest : List Value} {D : va_G} {cy : Nat → ClassId} {ad ad2 : Nat → Nat} {A : Nat → Prop} {x x2 : Mm}

abbrev lA (s : State) : Nat → Prop := fun q => s.heap.size ≤ q
def lG (D : va_G) (cy : Nat → ClassId) (ad ad2 : Nat → Nat) (s : State) (x x2 : Mm) (H : Heap) (locs : List Loc) : Prop := fG D cy LA ad (lA s) s x H locs ∧ fG D cy LM ad2 (lA s) s x2 H locs ∧ ∀ c, c ∈ LA → ∀ c2, c2 ∈ LM → ad c ≠ ad2 c2
/-- a number of the script on the stack -/
theorem lw_ld (C : CallFix p m c cL_law 4 s args Ts own) {b n i : Nat} {X : Nat → Int} (hX : va_X b n (fun j => iI (X j)) s s.heap) (hbl : b < s.heap.size) (hS : va_S (lA s) s.heap H locs) (hn : n ≤ 2560) (hi : i + 5 ≤ n) (hl : lv_has ls 4 [(0, .ref b), (1, .ref (ad 0)), (2, .ref (ad2 60)), (3, .int (iI (i : Int)))]) (k : Nat) (hk : k < 5) {z : Int} (hz : z = (k : Int)) (d0 : decode cL_law pc = .ok (.aload_n 0, 1)) (d1 : decode cL_law (pc + 1) = .ok (.iload_n 3, 1)) (d2 : decode cL_law (pc + 1 + 1) = .ok (.iconst z, 1)) (d3 : decode cL_law (pc + 1 + 1 + 1) = .ok (.iadd, 1)) (d4 : decode cL_law (pc + 1 + 1 + 1 + 1) = .ok (.iaload, 1)) (kk : W p l e R s m args below meth c H locs cells slots Q (F0 m (pc + 1 + 1 + 1 + 1 + 1) ls (.int (iI (X (i + k))) :: rest))) : W p l e R s m args below meth c H locs cells slots Q (F0 m pc ls rest) := by
  subst hz
  refine lv_aload_n C.1 C.2.1 d0 rfl (lv_at hl 0 rfl) ?_
  refine lv_iload_n C.1 C.2.1 d1 rfl (lv_at hl 3 rfl) ?_
  refine fr_ic C d2 ?_
  refine fr_iadd C d3 ?_
  have h0 : (0 : Int) ≤ (i : Int) + (k : Int) := by omega
  have h1 : (i : Int) + (k : Int) < (n : Int) := by omega
  have e1 : (iI ((i : Int) + (k : Int))).toNatClampNeg = i + k := by
    rw [iI_cl (rg_in h0 h1 (by omega))]
    omega
  refine va_sld C.1 C.2.1 hX hbl (Nat.not_le.mpr hbl) hS (iI_in h0 h1 (by omega)) d4 ?_
  rw [e1]
  exact kk
/-- the loop's head -/
theorem lw_head (C : CallFix p m c cL_law 4 s args Ts own) {b n i : Nat} {X : Nat → Int} (hX : va_X b n (fun j => iI (X j)) s s.heap) (hbl : b < s.heap.size) (hS : va_S (lA s) s.heap H locs) (hn : n ≤ 2560) (hi : i ≤ n) (hl : lv_has ls 4 [(0, .ref b), (1, .ref (ad 0)), (2, .ref (ad2 60)), (3, .int (iI (i : Int)))]) (kt : n < i + 5 → W p l e R s m args below meth c H locs cells slots Q (F0 m 895 ls [])) (kf : i + 5 ≤ n → W p l e R s m args below meth c H locs cells slots Q (F0 m 26 ls [])) : W p l e R s m args below meth c H locs cells slots Q (F0 m 18 ls []) := by
  refine lv_iload_n C.1 C.2.1 dL_law_18 rfl (lv_at hl 3 rfl) ?_
  refine lv_aload_n C.1 C.2.1 dL_law_19 rfl (lv_at hl 0 rfl) ?_
  refine va_slen C.1 C.2.1 hX hbl (Nat.not_le.mpr hbl) hS dL_law_20 ?_
  have en : Int32.ofNat n = iI (n : Int) := by first | rfl | simp [iI, Int32.ofInt_eq_ofNat]
  rw [en]
  refine fr_ic C dL_law_21 ?_
  refine fr_isub C dL_law_22 ?_
  exact fr_gt C dL_law_23 (tgt := 895) (by decide) ⟨rg_sm (by omega) (by omega), rg_sm (by omega) (by omega)⟩ (fun q => kt (by omega)) (fun q => kf (by omega))
/-- which call -/
theorem lw_sw (C : CallFix p m c cL_law 4 s args Ts own) {b n i : Nat} {X : Nat → Int} (hX : va_X b n (fun j => iI (X j)) s s.heap) (hbl : b < s.heap.size) (hS : va_S (lA s) s.heap H locs) (hn : n ≤ 2560) (hi : i + 5 ≤ n) (hl : lv_has ls 4 [(0, .ref b), (1, .ref (ad 0)), (2, .ref (ad2 60)), (3, .int (iI (i : Int)))]) (K : ∀ t, t ∈ ([140, 193, 226, 249, 282, 305, 328, 381, 434, 477, 530, 553, 566, 599, 642, 675, 718, 731, 754, 787, 810, 833, 866, 889] : List Nat) → W p l e R s m args below meth c H locs cells slots Q (F0 m t ls [])) : W p l e R s m args below meth c H locs cells slots Q (F0 m 26 ls []) := by
  refine lv_aload_n C.1 C.2.1 dL_law_26 rfl (lv_at hl 0 rfl) ?_
  refine lv_iload_n C.1 C.2.1 dL_law_27 rfl (lv_at hl 3 rfl) ?_
  refine va_sld C.1 C.2.1 hX hbl (Nat.not_le.mpr hbl) hS (iI_in (by omega) (by omega) (by omega)) dL_law_28 ?_
  refine fr_bi C dL_law_29 rfl ?_
  refine lv_iand C.1 C.2.1 dL_law_31 ?_
  refine lv_topi (fun v ev => ?_)
  clear ev
  by_cases h0 : v.toInt = 0
  · exact lv_tableIn C.1 C.2.1 dL_law_32 (off := 108) (tgt := 140) (by rw [h0]; decide) (by rw [h0]; decide) (by rw [h0]; rfl) (by decide) (K 140 (by decide))
  by_cases h1 : v.toInt = 1
  · exact lv_tableIn C.1 C.2.1 dL_law_32 (off := 161) (tgt := 193) (by rw [h1]; decide) (by rw [h1]; decide) (by rw [h1]; rfl) (by decide) (K 193 (by decide))
  by_cases h2 : v.toInt = 2
  · exact lv_tableIn C.1 C.2.1 dL_law_32 (off := 194) (tgt := 226) (by rw [h2]; decide) (by rw [h2]; decide) (by rw [h2]; rfl) (by decide) (K 226 (by decide))
  by_cases h3 : v.toInt = 3
  · exact lv_tableIn C.1 C.2.1 dL_law_32 (off := 217) (tgt := 249) (by rw [h3]; decide) (by rw [h3]; decide) (by rw [h3]; rfl) (by decide) (K 249 (by decide))
  by_cases h4 : v.toInt = 4
  · exact lv_tableIn C.1 C.2.1 dL_law_32 (off := 250) (tgt := 282) (by rw [h4]; decide) (by rw [h4]; decide) (by rw [h4]; rfl) (by decide) (K 282 (by decide))
  by_cases h5 : v.toInt = 5
  · exact lv_tableIn C.1 C.2.1 dL_law_32 (off := 273) (tgt := 305) (by rw [h5]; decide) (by rw [h5]; decide) (by rw [h5]; rfl) (by decide) (K 305 (by decide))
  by_cases h6 : v.toInt = 6
  · exact lv_tableIn C.1 C.2.1 dL_law_32 (off := 296) (tgt := 328) (by rw [h6]; decide) (by rw [h6]; decide) (by rw [h6]; rfl) (by decide) (K 328 (by decide))
  by_cases h7 : v.toInt = 7
  · exact lv_tableIn C.1 C.2.1 dL_law_32 (off := 349) (tgt := 381) (by rw [h7]; decide) (by rw [h7]; decide) (by rw [h7]; rfl) (by decide) (K 381 (by decide))
  by_cases h8 : v.toInt = 8
  · exact lv_tableIn C.1 C.2.1 dL_law_32 (off := 402) (tgt := 434) (by rw [h8]; decide) (by rw [h8]; decide) (by rw [h8]; rfl) (by decide) (K 434 (by decide))
  by_cases h9 : v.toInt = 9
  · exact lv_tableIn C.1 C.2.1 dL_law_32 (off := 445) (tgt := 477) (by rw [h9]; decide) (by rw [h9]; decide) (by rw [h9]; rfl) (by decide) (K 477 (by decide))
  by_cases h10 : v.toInt = 10
  · exact lv_tableIn C.1 C.2.1 dL_law_32 (off := 498) (tgt := 530) (by rw [h10]; decide) (by rw [h10]; decide) (by rw [h10]; rfl) (by decide) (K 530 (by decide))
  by_cases h11 : v.toInt = 11
  · exact lv_tableIn C.1 C.2.1 dL_law_32 (off := 521) (tgt := 553) (by rw [h11]; decide) (by rw [h11]; decide) (by rw [h11]; rfl) (by decide) (K 553 (by decide))
  by_cases h12 : v.toInt = 12
  · exact lv_tableIn C.1 C.2.1 dL_law_32 (off := 534) (tgt := 566) (by rw [h12]; decide) (by rw [h12]; decide) (by rw [h12]; rfl) (by decide) (K 566 (by decide))
  by_cases h13 : v.toInt = 13
  · exact lv_tableIn C.1 C.2.1 dL_law_32 (off := 567) (tgt := 599) (by rw [h13]; decide) (by rw [h13]; decide) (by rw [h13]; rfl) (by decide) (K 599 (by decide))
  by_cases h14 : v.toInt = 14
  · exact lv_tableIn C.1 C.2.1 dL_law_32 (off := 610) (tgt := 642) (by rw [h14]; decide) (by rw [h14]; decide) (by rw [h14]; rfl) (by decide) (K 642 (by decide))
  by_cases h15 : v.toInt = 15
  · exact lv_tableIn C.1 C.2.1 dL_law_32 (off := 643) (tgt := 675) (by rw [h15]; decide) (by rw [h15]; decide) (by rw [h15]; rfl) (by decide) (K 675 (by decide))
  by_cases h16 : v.toInt = 16
  · exact lv_tableIn C.1 C.2.1 dL_law_32 (off := 686) (tgt := 718) (by rw [h16]; decide) (by rw [h16]; decide) (by rw [h16]; rfl) (by decide) (K 718 (by decide))
  by_cases h17 : v.toInt = 17
  · exact lv_tableIn C.1 C.2.1 dL_law_32 (off := 699) (tgt := 731) (by rw [h17]; decide) (by rw [h17]; decide) (by rw [h17]; rfl) (by decide) (K 731 (by decide))
  by_cases h18 : v.toInt = 18
  · exact lv_tableIn C.1 C.2.1 dL_law_32 (off := 722) (tgt := 754) (by rw [h18]; decide) (by rw [h18]; decide) (by rw [h18]; rfl) (by decide) (K 754 (by decide))
  by_cases h19 : v.toInt = 19
  · exact lv_tableIn C.1 C.2.1 dL_law_32 (off := 755) (tgt := 787) (by rw [h19]; decide) (by rw [h19]; decide) (by rw [h19]; rfl) (by decide) (K 787 (by decide))
  by_cases h20 : v.toInt = 20
  · exact lv_tableIn C.1 C.2.1 dL_law_32 (off := 778) (tgt := 810) (by rw [h20]; decide) (by rw [h20]; decide) (by rw [h20]; rfl) (by decide) (K 810 (by decide))
  by_cases h21 : v.toInt = 21
  · exact lv_tableIn C.1 C.2.1 dL_law_32 (off := 801) (tgt := 833) (by rw [h21]; decide) (by rw [h21]; decide) (by rw [h21]; rfl) (by decide) (K 833 (by decide))
  by_cases h22 : v.toInt = 22
  · exact lv_tableIn C.1 C.2.1 dL_law_32 (off := 834) (tgt := 866) (by rw [h22]; decide) (by rw [h22]; decide) (by rw [h22]; rfl) (by decide) (K 866 (by decide))
  exact lv_tableOut C.1 C.2.1 dL_law_32 (tgt := 889) (by omega) (by decide) (K 889 (by decide))
end LWB
