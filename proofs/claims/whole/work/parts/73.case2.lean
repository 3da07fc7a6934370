section LWC2
variable {p : Program} {l : Launch} {e : Env} {s : State} {m : MethodId} {args : Array Value} {below : List Frame} {meth : Method} {c : Code} {H : Heap} {locs : List Loc} {cells slots : Nat} {Q : State → Prop}
variable {ls : Array Slot} {D : va_G} {cy : Nat → ClassId} {ad ad2 : Nat → Nat} {x x2 : Mm}
set_option maxHeartbeats 2000000 in
set_option maxRecDepth 100000 in
/-- aimless -/
theorem lw_aimless (C : CallFix p m c cL_law 4 s args wsL_law RL) {b n i : Nat} {X : Nat → Int} (hX : va_X b n (fun j => iI (X j)) s s.heap) (hbl : b < s.heap.size) (hn : n ≤ 2560) (hi : i + 5 ≤ n) (hr : ∀ j, rg (X j)) (hf : cells ≤ room_1.cells ∧ slots ≤ room_1.slots) (hl : lv_has ls 4 [(0, .ref b), (1, .ref (ad 0)), (2, .ref (ad2 60)), (3, .int (iI (i : Int)))]) (hV : lG D cy ad ad2 s x x2 H locs) (hR : Rel x x2) (k : ∀ (x3 x4 : Mm) (H1 : Heap) (locs1 : List Loc), Rel x3 x4 → lG D cy ad ad2 s x3 x4 H1 locs1 → W p l e room_1 s m args below meth c H1 locs1 cells slots Q (F0 m 889 ls [])) : W p l e room_1 s m args below meth c H locs cells slots Q (F0 m 718 ls []) := by
  obtain ⟨G, G2, hd⟩ := hV
  refine lv_aload_n C.1 C.2.1 dL_law_718 rfl (lv_at hl 1 rfl) ?_
  refine fr_Vi2 C G G2 hd (c_X7_aimless l D cy LA ad H.size LA_ok x _ (sim_aimless hR)) (cwV 0 C.2.2.2.2 gL_law_X7_aimless rfl rfl rfl (by decide +kernel) ⟨Nat.le_of_ble_eq_true rfl, Nat.le_of_ble_eq_true rfl⟩) (G.recv (LA_ok 0 (by decide)) (cl_0 _) rfl) rfl hl.1 rfl (Nat.le_of_ble_eq_true rfl) dL_law_719 hf (fun r x3 H locs hp G G2 => ?_)
  refine lv_aload_n C.1 C.2.1 dL_law_722 rfl (lv_at hl 2 rfl) ?_
  refine fr_Vi2 C G2 G (fun c h c2 h2 q => hd c2 h2 c h q.symm) (c_X8_aimless l D cy LM ad2 H.size LM_ok x2 _ hp) (cwV 0 C.2.2.2.2 gL_law_X8_aimless rfl rfl rfl (by decide +kernel) ⟨Nat.le_of_ble_eq_true rfl, Nat.le_of_ble_eq_true rfl⟩) (G2.recv (LM_ok 60 (by omega)) (cl_60 _) rfl) rfl hl.1 rfl (Nat.le_of_ble_eq_true rfl) dL_law_723 hf (fun r2 x4 H locs hp G2 G => ?_)
  obtain ⟨er, hrg, hR3⟩ := hp
  subst er
  exact fr_eq C dL_law_726 (tgt := 889) (by decide) ⟨hrg, hrg⟩ (fun _ => k x3 x4 H locs hR3 ⟨G, G2, hd⟩) (fun q => absurd rfl q)
set_option maxHeartbeats 2000000 in
set_option maxRecDepth 100000 in
/-- plan -/
theorem lw_plan (C : CallFix p m c cL_law 4 s args wsL_law RL) {b n i : Nat} {X : Nat → Int} (hX : va_X b n (fun j => iI (X j)) s s.heap) (hbl : b < s.heap.size) (hn : n ≤ 2560) (hi : i + 5 ≤ n) (hr : ∀ j, rg (X j)) (hf : cells ≤ room_1.cells ∧ slots ≤ room_1.slots) (hl : lv_has ls 4 [(0, .ref b), (1, .ref (ad 0)), (2, .ref (ad2 60)), (3, .int (iI (i : Int)))]) (hV : lG D cy ad ad2 s x x2 H locs) (hR : Rel x x2) (k : ∀ (x3 x4 : Mm) (H1 : Heap) (locs1 : List Loc), Rel x3 x4 → lG D cy ad ad2 s x3 x4 H1 locs1 → W p l e room_1 s m args below meth c H1 locs1 cells slots Q (F0 m 889 ls [])) : W p l e room_1 s m args below meth c H locs cells slots Q (F0 m 731 ls []) := by
  obtain ⟨G, G2, hd⟩ := hV
  refine lv_aload_n C.1 C.2.1 dL_law_731 rfl (lv_at hl 1 rfl) ?_
  refine lw_ld C hX hbl G.2.2.2.1 hn hi hl 1 (by decide) rfl dL_law_732 dL_law_733 dL_law_734 dL_law_735 dL_law_736 ?_
  refine fr_Vi2 C G G2 hd (c_X7_plan l D cy LA ad H.size LA_ok (X (i + 1)) x _ (sim_plan hR (hr _))) (cwV 1 C.2.2.2.2 gL_law_X7_plan rfl rfl rfl (by decide +kernel) ⟨Nat.le_of_ble_eq_true rfl, Nat.le_of_ble_eq_true rfl⟩) (G.recv (LA_ok 0 (by decide)) (cl_0 _) rfl) rfl hl.1 rfl (Nat.le_of_ble_eq_true rfl) dL_law_737 hf (fun r x3 H locs hp G G2 => ?_)
  refine lv_aload_n C.1 C.2.1 dL_law_740 rfl (lv_at hl 2 rfl) ?_
  refine lw_ld C hX hbl G.2.2.2.1 hn hi hl 1 (by decide) rfl dL_law_741 dL_law_742 dL_law_743 dL_law_744 dL_law_745 ?_
  refine fr_Vi2 C G2 G (fun c h c2 h2 q => hd c2 h2 c h q.symm) (c_X8_plan l D cy LM ad2 H.size LM_ok (X (i + 1)) x2 _ hp) (cwV 1 C.2.2.2.2 gL_law_X8_plan rfl rfl rfl (by decide +kernel) ⟨Nat.le_of_ble_eq_true rfl, Nat.le_of_ble_eq_true rfl⟩) (G2.recv (LM_ok 60 (by omega)) (cl_60 _) rfl) rfl hl.1 rfl (Nat.le_of_ble_eq_true rfl) dL_law_746 hf (fun r2 x4 H locs hp G2 G => ?_)
  obtain ⟨er, hrg, hR3⟩ := hp
  subst er
  exact fr_eq C dL_law_749 (tgt := 889) (by decide) ⟨hrg, hrg⟩ (fun _ => k x3 x4 H locs hR3 ⟨G, G2, hd⟩) (fun q => absurd rfl q)
set_option maxHeartbeats 2000000 in
set_option maxRecDepth 100000 in
/-- planned -/
theorem lw_planned (C : CallFix p m c cL_law 4 s args wsL_law RL) {b n i : Nat} {X : Nat → Int} (hX : va_X b n (fun j => iI (X j)) s s.heap) (hbl : b < s.heap.size) (hn : n ≤ 2560) (hi : i + 5 ≤ n) (hr : ∀ j, rg (X j)) (hf : cells ≤ room_1.cells ∧ slots ≤ room_1.slots) (hl : lv_has ls 4 [(0, .ref b), (1, .ref (ad 0)), (2, .ref (ad2 60)), (3, .int (iI (i : Int)))]) (hV : lG D cy ad ad2 s x x2 H locs) (hR : Rel x x2) (k : ∀ (x3 x4 : Mm) (H1 : Heap) (locs1 : List Loc), Rel x3 x4 → lG D cy ad ad2 s x3 x4 H1 locs1 → W p l e room_1 s m args below meth c H1 locs1 cells slots Q (F0 m 889 ls [])) : W p l e room_1 s m args below meth c H locs cells slots Q (F0 m 754 ls []) := by
  obtain ⟨G, G2, hd⟩ := hV
  refine lv_aload_n C.1 C.2.1 dL_law_754 rfl (lv_at hl 1 rfl) ?_
  refine lw_ld C hX hbl G.2.2.2.1 hn hi hl 1 (by decide) rfl dL_law_755 dL_law_756 dL_law_757 dL_law_758 dL_law_759 ?_
  refine lw_ld C hX hbl G.2.2.2.1 hn hi hl 2 (by decide) rfl dL_law_760 dL_law_761 dL_law_762 dL_law_763 dL_law_764 ?_
  refine fr_Vi2 C G G2 hd (c_X7_planned l D cy LA ad H.size LA_ok (X (i + 1)) (X (i + 2)) x _ (sim_planned hR (hr _) (hr _))) (cwV 2 C.2.2.2.2 gL_law_X7_planned rfl rfl rfl (by decide +kernel) ⟨Nat.le_of_ble_eq_true rfl, Nat.le_of_ble_eq_true rfl⟩) (G.recv (LA_ok 0 (by decide)) (cl_0 _) rfl) rfl hl.1 rfl (Nat.le_of_ble_eq_true rfl) dL_law_765 hf (fun r x3 H locs hp G G2 => ?_)
  refine lv_aload_n C.1 C.2.1 dL_law_768 rfl (lv_at hl 2 rfl) ?_
  refine lw_ld C hX hbl G.2.2.2.1 hn hi hl 1 (by decide) rfl dL_law_769 dL_law_770 dL_law_771 dL_law_772 dL_law_773 ?_
  refine lw_ld C hX hbl G.2.2.2.1 hn hi hl 2 (by decide) rfl dL_law_774 dL_law_775 dL_law_776 dL_law_777 dL_law_778 ?_
  refine fr_Vi2 C G2 G (fun c h c2 h2 q => hd c2 h2 c h q.symm) (c_X8_planned l D cy LM ad2 H.size LM_ok (X (i + 1)) (X (i + 2)) x2 _ hp) (cwV 2 C.2.2.2.2 gL_law_X8_planned rfl rfl rfl (by decide +kernel) ⟨Nat.le_of_ble_eq_true rfl, Nat.le_of_ble_eq_true rfl⟩) (G2.recv (LM_ok 60 (by omega)) (cl_60 _) rfl) rfl hl.1 rfl (Nat.le_of_ble_eq_true rfl) dL_law_779 hf (fun r2 x4 H locs hp G2 G => ?_)
  obtain ⟨er, hrg, hR3⟩ := hp
  subst er
  exact fr_eq C dL_law_782 (tgt := 889) (by decide) ⟨hrg, hrg⟩ (fun _ => k x3 x4 H locs hR3 ⟨G, G2, hd⟩) (fun q => absurd rfl q)
set_option maxHeartbeats 2000000 in
set_option maxRecDepth 100000 in
/-- carve -/
theorem lw_carve (C : CallFix p m c cL_law 4 s args wsL_law RL) {b n i : Nat} {X : Nat → Int} (hX : va_X b n (fun j => iI (X j)) s s.heap) (hbl : b < s.heap.size) (hn : n ≤ 2560) (hi : i + 5 ≤ n) (hr : ∀ j, rg (X j)) (hf : cells ≤ room_1.cells ∧ slots ≤ room_1.slots) (hl : lv_has ls 4 [(0, .ref b), (1, .ref (ad 0)), (2, .ref (ad2 60)), (3, .int (iI (i : Int)))]) (hV : lG D cy ad ad2 s x x2 H locs) (hR : Rel x x2) (k : ∀ (x3 x4 : Mm) (H1 : Heap) (locs1 : List Loc), Rel x3 x4 → lG D cy ad ad2 s x3 x4 H1 locs1 → W p l e room_1 s m args below meth c H1 locs1 cells slots Q (F0 m 889 ls [])) : W p l e room_1 s m args below meth c H locs cells slots Q (F0 m 787 ls []) := by
  obtain ⟨G, G2, hd⟩ := hV
  refine lv_aload_n C.1 C.2.1 dL_law_787 rfl (lv_at hl 1 rfl) ?_
  refine lw_ld C hX hbl G.2.2.2.1 hn hi hl 1 (by decide) rfl dL_law_788 dL_law_789 dL_law_790 dL_law_791 dL_law_792 ?_
  refine fr_Vi2 C G G2 hd (c_X7_carve l D cy LA ad H.size LA_ok (X (i + 1)) x _ (sim_carve hR (hr _))) (cwV 1 C.2.2.2.2 gL_law_X7_carve rfl rfl rfl (by decide +kernel) ⟨Nat.le_of_ble_eq_true rfl, Nat.le_of_ble_eq_true rfl⟩) (G.recv (LA_ok 0 (by decide)) (cl_0 _) rfl) rfl hl.1 rfl (Nat.le_of_ble_eq_true rfl) dL_law_793 hf (fun r x3 H locs hp G G2 => ?_)
  refine lv_aload_n C.1 C.2.1 dL_law_796 rfl (lv_at hl 2 rfl) ?_
  refine lw_ld C hX hbl G.2.2.2.1 hn hi hl 1 (by decide) rfl dL_law_797 dL_law_798 dL_law_799 dL_law_800 dL_law_801 ?_
  refine fr_Vi2 C G2 G (fun c h c2 h2 q => hd c2 h2 c h q.symm) (c_X8_carve l D cy LM ad2 H.size LM_ok (X (i + 1)) x2 _ hp) (cwV 1 C.2.2.2.2 gL_law_X8_carve rfl rfl rfl (by decide +kernel) ⟨Nat.le_of_ble_eq_true rfl, Nat.le_of_ble_eq_true rfl⟩) (G2.recv (LM_ok 60 (by omega)) (cl_60 _) rfl) rfl hl.1 rfl (Nat.le_of_ble_eq_true rfl) dL_law_802 hf (fun r2 x4 H locs hp G2 G => ?_)
  obtain ⟨er, hrg, hR3⟩ := hp
  subst er
  exact fr_eq C dL_law_805 (tgt := 889) (by decide) ⟨hrg, hrg⟩ (fun _ => k x3 x4 H locs hR3 ⟨G, G2, hd⟩) (fun q => absurd rfl q)
set_option maxHeartbeats 2000000 in
set_option maxRecDepth 100000 in
/-- off -/
theorem lw_off (C : CallFix p m c cL_law 4 s args wsL_law RL) {b n i : Nat} {X : Nat → Int} (hX : va_X b n (fun j => iI (X j)) s s.heap) (hbl : b < s.heap.size) (hn : n ≤ 2560) (hi : i + 5 ≤ n) (hr : ∀ j, rg (X j)) (hf : cells ≤ room_1.cells ∧ slots ≤ room_1.slots) (hl : lv_has ls 4 [(0, .ref b), (1, .ref (ad 0)), (2, .ref (ad2 60)), (3, .int (iI (i : Int)))]) (hV : lG D cy ad ad2 s x x2 H locs) (hR : Rel x x2) (k : ∀ (x3 x4 : Mm) (H1 : Heap) (locs1 : List Loc), Rel x3 x4 → lG D cy ad ad2 s x3 x4 H1 locs1 → W p l e room_1 s m args below meth c H1 locs1 cells slots Q (F0 m 889 ls [])) : W p l e room_1 s m args below meth c H locs cells slots Q (F0 m 810 ls []) := by
  obtain ⟨G, G2, hd⟩ := hV
  refine lv_aload_n C.1 C.2.1 dL_law_810 rfl (lv_at hl 1 rfl) ?_
  refine lw_ld C hX hbl G.2.2.2.1 hn hi hl 1 (by decide) rfl dL_law_811 dL_law_812 dL_law_813 dL_law_814 dL_law_815 ?_
  refine fr_Vi2 C G G2 hd (c_X7_off l D cy LA ad H.size LA_ok (X (i + 1)) x _ (sim_off hR (hr _))) (cwV 1 C.2.2.2.2 gL_law_X7_off rfl rfl rfl (by decide +kernel) ⟨Nat.le_of_ble_eq_true rfl, Nat.le_of_ble_eq_true rfl⟩) (G.recv (LA_ok 0 (by decide)) (cl_0 _) rfl) rfl hl.1 rfl (Nat.le_of_ble_eq_true rfl) dL_law_816 hf (fun r x3 H locs hp G G2 => ?_)
  refine lv_aload_n C.1 C.2.1 dL_law_819 rfl (lv_at hl 2 rfl) ?_
  refine lw_ld C hX hbl G.2.2.2.1 hn hi hl 1 (by decide) rfl dL_law_820 dL_law_821 dL_law_822 dL_law_823 dL_law_824 ?_
  refine fr_Vi2 C G2 G (fun c h c2 h2 q => hd c2 h2 c h q.symm) (c_X8_off l D cy LM ad2 H.size LM_ok (X (i + 1)) x2 _ hp) (cwV 1 C.2.2.2.2 gL_law_X8_off rfl rfl rfl (by decide +kernel) ⟨Nat.le_of_ble_eq_true rfl, Nat.le_of_ble_eq_true rfl⟩) (G2.recv (LM_ok 60 (by omega)) (cl_60 _) rfl) rfl hl.1 rfl (Nat.le_of_ble_eq_true rfl) dL_law_825 hf (fun r2 x4 H locs hp G2 G => ?_)
  obtain ⟨er, hrg, hR3⟩ := hp
  subst er
  exact fr_eq C dL_law_828 (tgt := 889) (by decide) ⟨hrg, hrg⟩ (fun _ => k x3 x4 H locs hR3 ⟨G, G2, hd⟩) (fun q => absurd rfl q)
set_option maxHeartbeats 2000000 in
set_option maxRecDepth 100000 in
/-- even -/
theorem lw_even (C : CallFix p m c cL_law 4 s args wsL_law RL) {b n i : Nat} {X : Nat → Int} (hX : va_X b n (fun j => iI (X j)) s s.heap) (hbl : b < s.heap.size) (hn : n ≤ 2560) (hi : i + 5 ≤ n) (hr : ∀ j, rg (X j)) (hf : cells ≤ room_1.cells ∧ slots ≤ room_1.slots) (hl : lv_has ls 4 [(0, .ref b), (1, .ref (ad 0)), (2, .ref (ad2 60)), (3, .int (iI (i : Int)))]) (hV : lG D cy ad ad2 s x x2 H locs) (hR : Rel x x2) (k : ∀ (x3 x4 : Mm) (H1 : Heap) (locs1 : List Loc), Rel x3 x4 → lG D cy ad ad2 s x3 x4 H1 locs1 → W p l e room_1 s m args below meth c H1 locs1 cells slots Q (F0 m 889 ls [])) : W p l e room_1 s m args below meth c H locs cells slots Q (F0 m 833 ls []) := by
  obtain ⟨G, G2, hd⟩ := hV
  refine lv_aload_n C.1 C.2.1 dL_law_833 rfl (lv_at hl 1 rfl) ?_
  refine lw_ld C hX hbl G.2.2.2.1 hn hi hl 1 (by decide) rfl dL_law_834 dL_law_835 dL_law_836 dL_law_837 dL_law_838 ?_
  refine lw_ld C hX hbl G.2.2.2.1 hn hi hl 2 (by decide) rfl dL_law_839 dL_law_840 dL_law_841 dL_law_842 dL_law_843 ?_
  refine fr_Vi2 C G G2 hd (c_X7_even l D cy LA ad H.size LA_ok (X (i + 1)) (X (i + 2)) x _ (sim_even hR (hr _) (hr _))) (cwV 2 C.2.2.2.2 gL_law_X7_even rfl rfl rfl (by decide +kernel) ⟨Nat.le_of_ble_eq_true rfl, Nat.le_of_ble_eq_true rfl⟩) (G.recv (LA_ok 0 (by decide)) (cl_0 _) rfl) rfl hl.1 rfl (Nat.le_of_ble_eq_true rfl) dL_law_844 hf (fun r x3 H locs hp G G2 => ?_)
  refine lv_aload_n C.1 C.2.1 dL_law_847 rfl (lv_at hl 2 rfl) ?_
  refine lw_ld C hX hbl G.2.2.2.1 hn hi hl 1 (by decide) rfl dL_law_848 dL_law_849 dL_law_850 dL_law_851 dL_law_852 ?_
  refine lw_ld C hX hbl G.2.2.2.1 hn hi hl 2 (by decide) rfl dL_law_853 dL_law_854 dL_law_855 dL_law_856 dL_law_857 ?_
  refine fr_Vi2 C G2 G (fun c h c2 h2 q => hd c2 h2 c h q.symm) (c_X8_even l D cy LM ad2 H.size LM_ok (X (i + 1)) (X (i + 2)) x2 _ hp) (cwV 2 C.2.2.2.2 gL_law_X8_even rfl rfl rfl (by decide +kernel) ⟨Nat.le_of_ble_eq_true rfl, Nat.le_of_ble_eq_true rfl⟩) (G2.recv (LM_ok 60 (by omega)) (cl_60 _) rfl) rfl hl.1 rfl (Nat.le_of_ble_eq_true rfl) dL_law_858 hf (fun r2 x4 H locs hp G2 G => ?_)
  obtain ⟨er, hrg, hR3⟩ := hp
  subst er
  exact fr_eq C dL_law_861 (tgt := 889) (by decide) ⟨hrg, hrg⟩ (fun _ => k x3 x4 H locs hR3 ⟨G, G2, hd⟩) (fun q => absurd rfl q)
set_option maxHeartbeats 2000000 in
set_option maxRecDepth 100000 in
/-- count -/
theorem lw_count (C : CallFix p m c cL_law 4 s args wsL_law RL) {b n i : Nat} {X : Nat → Int} (hX : va_X b n (fun j => iI (X j)) s s.heap) (hbl : b < s.heap.size) (hn : n ≤ 2560) (hi : i + 5 ≤ n) (hr : ∀ j, rg (X j)) (hf : cells ≤ room_1.cells ∧ slots ≤ room_1.slots) (hl : lv_has ls 4 [(0, .ref b), (1, .ref (ad 0)), (2, .ref (ad2 60)), (3, .int (iI (i : Int)))]) (hV : lG D cy ad ad2 s x x2 H locs) (hR : Rel x x2) (k : ∀ (x3 x4 : Mm) (H1 : Heap) (locs1 : List Loc), Rel x3 x4 → lG D cy ad ad2 s x3 x4 H1 locs1 → W p l e room_1 s m args below meth c H1 locs1 cells slots Q (F0 m 889 ls [])) : W p l e room_1 s m args below meth c H locs cells slots Q (F0 m 866 ls []) := by
  obtain ⟨G, G2, hd⟩ := hV
  refine lv_aload_n C.1 C.2.1 dL_law_866 rfl (lv_at hl 1 rfl) ?_
  refine lw_ld C hX hbl G.2.2.2.1 hn hi hl 1 (by decide) rfl dL_law_867 dL_law_868 dL_law_869 dL_law_870 dL_law_871 ?_
  refine fr_Vi2 C G G2 hd (c_X7_count l D cy LA ad H.size LA_ok (X (i + 1)) x _ (sim_count hR (hr _))) (cwV 1 C.2.2.2.2 gL_law_X7_count rfl rfl rfl (by decide +kernel) ⟨Nat.le_of_ble_eq_true rfl, Nat.le_of_ble_eq_true rfl⟩) (G.recv (LA_ok 0 (by decide)) (cl_0 _) rfl) rfl hl.1 rfl (Nat.le_of_ble_eq_true rfl) dL_law_872 hf (fun r x3 H locs hp G G2 => ?_)
  refine lv_aload_n C.1 C.2.1 dL_law_875 rfl (lv_at hl 2 rfl) ?_
  refine lw_ld C hX hbl G.2.2.2.1 hn hi hl 1 (by decide) rfl dL_law_876 dL_law_877 dL_law_878 dL_law_879 dL_law_880 ?_
  refine fr_Vi2 C G2 G (fun c h c2 h2 q => hd c2 h2 c h q.symm) (c_X8_count l D cy LM ad2 H.size LM_ok (X (i + 1)) x2 _ hp) (cwV 1 C.2.2.2.2 gL_law_X8_count rfl rfl rfl (by decide +kernel) ⟨Nat.le_of_ble_eq_true rfl, Nat.le_of_ble_eq_true rfl⟩) (G2.recv (LM_ok 60 (by omega)) (cl_60 _) rfl) rfl hl.1 rfl (Nat.le_of_ble_eq_true rfl) dL_law_881 hf (fun r2 x4 H locs hp G2 G => ?_)
  obtain ⟨er, hrg, hR3⟩ := hp
  subst er
  exact fr_eq C dL_law_884 (tgt := 889) (by decide) ⟨hrg, hrg⟩ (fun _ => k x3 x4 H locs hR3 ⟨G, G2, hd⟩) (fun q => absurd rfl q)
end LWC2
