section LWC0
variable {p : Program} {l : Launch} {e : Env} {s : State} {m : MethodId} {args : Array Value} {below : List Frame} {meth : Method} {c : Code} {H : Heap} {locs : List Loc} {cells slots : Nat} {Q : State → Prop}
variable {ls : Array Slot} {D : va_G} {cy : Nat → ClassId} {ad ad2 : Nat → Nat} {x x2 : Mm}
set_option maxHeartbeats 2000000 in
set_option maxRecDepth 100000 in
/-- plate -/
theorem lw_plate (C : CallFix p m c cL_law 4 s args wsL_law RL) {b n i : Nat} {X : Nat → Int} (hX : va_X b n (fun j => iI (X j)) s s.heap) (hbl : b < s.heap.size) (hn : n ≤ 2560) (hi : i + 5 ≤ n) (hr : ∀ j, rg (X j)) (hf : cells ≤ room_1.cells ∧ slots ≤ room_1.slots) (hl : lv_has ls 4 [(0, .ref b), (1, .ref (ad 0)), (2, .ref (ad2 60)), (3, .int (iI (i : Int)))]) (hV : lG D cy ad ad2 s x x2 H locs) (hR : Rel x x2) (k : ∀ (x3 x4 : Mm) (H1 : Heap) (locs1 : List Loc), Rel x3 x4 → lG D cy ad ad2 s x3 x4 H1 locs1 → W p l e room_1 s m args below meth c H1 locs1 cells slots Q (F0 m 889 ls [])) : W p l e room_1 s m args below meth c H locs cells slots Q (F0 m 140 ls []) := by
  obtain ⟨G, G2, hd⟩ := hV
  refine lv_aload_n C.1 C.2.1 dL_law_140 rfl (lv_at hl 1 rfl) ?_
  refine lw_ld C hX hbl G.2.2.2.1 hn hi hl 1 (by decide) rfl dL_law_141 dL_law_142 dL_law_143 dL_law_144 dL_law_145 ?_
  refine lw_ld C hX hbl G.2.2.2.1 hn hi hl 2 (by decide) rfl dL_law_146 dL_law_147 dL_law_148 dL_law_149 dL_law_150 ?_
  refine lw_ld C hX hbl G.2.2.2.1 hn hi hl 3 (by decide) rfl dL_law_151 dL_law_152 dL_law_153 dL_law_154 dL_law_155 ?_
  refine lw_ld C hX hbl G.2.2.2.1 hn hi hl 4 (by decide) rfl dL_law_156 dL_law_157 dL_law_158 dL_law_159 dL_law_160 ?_
  refine fr_Vi2 C G G2 hd (c_X7_plate l D cy LA ad H.size LA_ok (X (i + 1)) (X (i + 2)) (X (i + 3)) (X (i + 4)) x _ (sim_plate hR (hr _) (hr _) (hr _) (hr _))) (cwV 4 C.2.2.2.2 gL_law_X7_plate rfl rfl rfl (by decide +kernel) ⟨Nat.le_of_ble_eq_true rfl, Nat.le_of_ble_eq_true rfl⟩) (G.recv (LA_ok 0 (by decide)) (cl_0 _) rfl) rfl hl.1 rfl (Nat.le_of_ble_eq_true rfl) dL_law_161 hf (fun r x3 H locs hp G G2 => ?_)
  refine lv_aload_n C.1 C.2.1 dL_law_164 rfl (lv_at hl 2 rfl) ?_
  refine lw_ld C hX hbl G.2.2.2.1 hn hi hl 1 (by decide) rfl dL_law_165 dL_law_166 dL_law_167 dL_law_168 dL_law_169 ?_
  refine lw_ld C hX hbl G.2.2.2.1 hn hi hl 2 (by decide) rfl dL_law_170 dL_law_171 dL_law_172 dL_law_173 dL_law_174 ?_
  refine lw_ld C hX hbl G.2.2.2.1 hn hi hl 3 (by decide) rfl dL_law_175 dL_law_176 dL_law_177 dL_law_178 dL_law_179 ?_
  refine lw_ld C hX hbl G.2.2.2.1 hn hi hl 4 (by decide) rfl dL_law_180 dL_law_181 dL_law_182 dL_law_183 dL_law_184 ?_
  refine fr_Vi2 C G2 G (fun c h c2 h2 q => hd c2 h2 c h q.symm) (c_X8_plate l D cy LM ad2 H.size LM_ok (X (i + 1)) (X (i + 2)) (X (i + 3)) (X (i + 4)) x2 _ hp) (cwV 4 C.2.2.2.2 gL_law_X8_plate rfl rfl rfl (by decide +kernel) ⟨Nat.le_of_ble_eq_true rfl, Nat.le_of_ble_eq_true rfl⟩) (G2.recv (LM_ok 60 (by omega)) (cl_60 _) rfl) rfl hl.1 rfl (Nat.le_of_ble_eq_true rfl) dL_law_185 hf (fun r2 x4 H locs hp G2 G => ?_)
  obtain ⟨er, hrg, hR3⟩ := hp
  subst er
  exact fr_eq C dL_law_188 (tgt := 889) (by decide) ⟨hrg, hrg⟩ (fun _ => k x3 x4 H locs hR3 ⟨G, G2, hd⟩) (fun q => absurd rfl q)
set_option maxHeartbeats 2000000 in
set_option maxRecDepth 100000 in
/-- thick -/
theorem lw_thick (C : CallFix p m c cL_law 4 s args wsL_law RL) {b n i : Nat} {X : Nat → Int} (hX : va_X b n (fun j => iI (X j)) s s.heap) (hbl : b < s.heap.size) (hn : n ≤ 2560) (hi : i + 5 ≤ n) (hr : ∀ j, rg (X j)) (hf : cells ≤ room_1.cells ∧ slots ≤ room_1.slots) (hl : lv_has ls 4 [(0, .ref b), (1, .ref (ad 0)), (2, .ref (ad2 60)), (3, .int (iI (i : Int)))]) (hV : lG D cy ad ad2 s x x2 H locs) (hR : Rel x x2) (k : ∀ (x3 x4 : Mm) (H1 : Heap) (locs1 : List Loc), Rel x3 x4 → lG D cy ad ad2 s x3 x4 H1 locs1 → W p l e room_1 s m args below meth c H1 locs1 cells slots Q (F0 m 889 ls [])) : W p l e room_1 s m args below meth c H locs cells slots Q (F0 m 193 ls []) := by
  obtain ⟨G, G2, hd⟩ := hV
  refine lv_aload_n C.1 C.2.1 dL_law_193 rfl (lv_at hl 1 rfl) ?_
  refine lw_ld C hX hbl G.2.2.2.1 hn hi hl 1 (by decide) rfl dL_law_194 dL_law_195 dL_law_196 dL_law_197 dL_law_198 ?_
  refine lw_ld C hX hbl G.2.2.2.1 hn hi hl 2 (by decide) rfl dL_law_199 dL_law_200 dL_law_201 dL_law_202 dL_law_203 ?_
  refine fr_Vi2 C G G2 hd (c_X7_thick l D cy LA ad H.size LA_ok (X (i + 1)) (X (i + 2)) x _ (sim_thick hR (hr _) (hr _))) (cwV 2 C.2.2.2.2 gL_law_X7_thick rfl rfl rfl (by decide +kernel) ⟨Nat.le_of_ble_eq_true rfl, Nat.le_of_ble_eq_true rfl⟩) (G.recv (LA_ok 0 (by decide)) (cl_0 _) rfl) rfl hl.1 rfl (Nat.le_of_ble_eq_true rfl) dL_law_204 hf (fun r x3 H locs hp G G2 => ?_)
  refine lv_aload_n C.1 C.2.1 dL_law_207 rfl (lv_at hl 2 rfl) ?_
  refine lw_ld C hX hbl G.2.2.2.1 hn hi hl 1 (by decide) rfl dL_law_208 dL_law_209 dL_law_210 dL_law_211 dL_law_212 ?_
  refine lw_ld C hX hbl G.2.2.2.1 hn hi hl 2 (by decide) rfl dL_law_213 dL_law_214 dL_law_215 dL_law_216 dL_law_217 ?_
  refine fr_Vi2 C G2 G (fun c h c2 h2 q => hd c2 h2 c h q.symm) (c_X8_thick l D cy LM ad2 H.size LM_ok (X (i + 1)) (X (i + 2)) x2 _ hp) (cwV 2 C.2.2.2.2 gL_law_X8_thick rfl rfl rfl (by decide +kernel) ⟨Nat.le_of_ble_eq_true rfl, Nat.le_of_ble_eq_true rfl⟩) (G2.recv (LM_ok 60 (by omega)) (cl_60 _) rfl) rfl hl.1 rfl (Nat.le_of_ble_eq_true rfl) dL_law_218 hf (fun r2 x4 H locs hp G2 G => ?_)
  obtain ⟨er, hrg, hR3⟩ := hp
  subst er
  exact fr_eq C dL_law_221 (tgt := 889) (by decide) ⟨hrg, hrg⟩ (fun _ => k x3 x4 H locs hR3 ⟨G, G2, hd⟩) (fun q => absurd rfl q)
set_option maxHeartbeats 2000000 in
set_option maxRecDepth 100000 in
/-- least -/
theorem lw_least (C : CallFix p m c cL_law 4 s args wsL_law RL) {b n i : Nat} {X : Nat → Int} (hX : va_X b n (fun j => iI (X j)) s s.heap) (hbl : b < s.heap.size) (hn : n ≤ 2560) (hi : i + 5 ≤ n) (hr : ∀ j, rg (X j)) (hf : cells ≤ room_1.cells ∧ slots ≤ room_1.slots) (hl : lv_has ls 4 [(0, .ref b), (1, .ref (ad 0)), (2, .ref (ad2 60)), (3, .int (iI (i : Int)))]) (hV : lG D cy ad ad2 s x x2 H locs) (hR : Rel x x2) (k : ∀ (x3 x4 : Mm) (H1 : Heap) (locs1 : List Loc), Rel x3 x4 → lG D cy ad ad2 s x3 x4 H1 locs1 → W p l e room_1 s m args below meth c H1 locs1 cells slots Q (F0 m 889 ls [])) : W p l e room_1 s m args below meth c H locs cells slots Q (F0 m 226 ls []) := by
  obtain ⟨G, G2, hd⟩ := hV
  refine lv_aload_n C.1 C.2.1 dL_law_226 rfl (lv_at hl 1 rfl) ?_
  refine lw_ld C hX hbl G.2.2.2.1 hn hi hl 1 (by decide) rfl dL_law_227 dL_law_228 dL_law_229 dL_law_230 dL_law_231 ?_
  refine fr_Vi2 C G G2 hd (c_X7_least l D cy LA ad H.size LA_ok (X (i + 1)) x _ (sim_least hR (hr _))) (cwV 1 C.2.2.2.2 gL_law_X7_least rfl rfl rfl (by decide +kernel) ⟨Nat.le_of_ble_eq_true rfl, Nat.le_of_ble_eq_true rfl⟩) (G.recv (LA_ok 0 (by decide)) (cl_0 _) rfl) rfl hl.1 rfl (Nat.le_of_ble_eq_true rfl) dL_law_232 hf (fun r x3 H locs hp G G2 => ?_)
  refine lv_aload_n C.1 C.2.1 dL_law_235 rfl (lv_at hl 2 rfl) ?_
  refine lw_ld C hX hbl G.2.2.2.1 hn hi hl 1 (by decide) rfl dL_law_236 dL_law_237 dL_law_238 dL_law_239 dL_law_240 ?_
  refine fr_Vi2 C G2 G (fun c h c2 h2 q => hd c2 h2 c h q.symm) (c_X8_least l D cy LM ad2 H.size LM_ok (X (i + 1)) x2 _ hp) (cwV 1 C.2.2.2.2 gL_law_X8_least rfl rfl rfl (by decide +kernel) ⟨Nat.le_of_ble_eq_true rfl, Nat.le_of_ble_eq_true rfl⟩) (G2.recv (LM_ok 60 (by omega)) (cl_60 _) rfl) rfl hl.1 rfl (Nat.le_of_ble_eq_true rfl) dL_law_241 hf (fun r2 x4 H locs hp G2 G => ?_)
  obtain ⟨er, hrg, hR3⟩ := hp
  subst er
  exact fr_eq C dL_law_244 (tgt := 889) (by decide) ⟨hrg, hrg⟩ (fun _ => k x3 x4 H locs hR3 ⟨G, G2, hd⟩) (fun q => absurd rfl q)
set_option maxHeartbeats 2000000 in
set_option maxRecDepth 100000 in
/-- shave -/
theorem lw_shave (C : CallFix p m c cL_law 4 s args wsL_law RL) {b n i : Nat} {X : Nat → Int} (hX : va_X b n (fun j => iI (X j)) s s.heap) (hbl : b < s.heap.size) (hn : n ≤ 2560) (hi : i + 5 ≤ n) (hr : ∀ j, rg (X j)) (hf : cells ≤ room_1.cells ∧ slots ≤ room_1.slots) (hl : lv_has ls 4 [(0, .ref b), (1, .ref (ad 0)), (2, .ref (ad2 60)), (3, .int (iI (i : Int)))]) (hV : lG D cy ad ad2 s x x2 H locs) (hR : Rel x x2) (k : ∀ (x3 x4 : Mm) (H1 : Heap) (locs1 : List Loc), Rel x3 x4 → lG D cy ad ad2 s x3 x4 H1 locs1 → W p l e room_1 s m args below meth c H1 locs1 cells slots Q (F0 m 889 ls [])) : W p l e room_1 s m args below meth c H locs cells slots Q (F0 m 249 ls []) := by
  obtain ⟨G, G2, hd⟩ := hV
  refine lv_aload_n C.1 C.2.1 dL_law_249 rfl (lv_at hl 1 rfl) ?_
  refine lw_ld C hX hbl G.2.2.2.1 hn hi hl 1 (by decide) rfl dL_law_250 dL_law_251 dL_law_252 dL_law_253 dL_law_254 ?_
  refine lw_ld C hX hbl G.2.2.2.1 hn hi hl 2 (by decide) rfl dL_law_255 dL_law_256 dL_law_257 dL_law_258 dL_law_259 ?_
  refine fr_Vi2 C G G2 hd (c_X7_shave l D cy LA ad H.size LA_ok (X (i + 1)) (X (i + 2)) x _ (sim_shave hR (hr _) (hr _))) (cwV 2 C.2.2.2.2 gL_law_X7_shave rfl rfl rfl (by decide +kernel) ⟨Nat.le_of_ble_eq_true rfl, Nat.le_of_ble_eq_true rfl⟩) (G.recv (LA_ok 0 (by decide)) (cl_0 _) rfl) rfl hl.1 rfl (Nat.le_of_ble_eq_true rfl) dL_law_260 hf (fun r x3 H locs hp G G2 => ?_)
  refine lv_aload_n C.1 C.2.1 dL_law_263 rfl (lv_at hl 2 rfl) ?_
  refine lw_ld C hX hbl G.2.2.2.1 hn hi hl 1 (by decide) rfl dL_law_264 dL_law_265 dL_law_266 dL_law_267 dL_law_268 ?_
  refine lw_ld C hX hbl G.2.2.2.1 hn hi hl 2 (by decide) rfl dL_law_269 dL_law_270 dL_law_271 dL_law_272 dL_law_273 ?_
  refine fr_Vi2 C G2 G (fun c h c2 h2 q => hd c2 h2 c h q.symm) (c_X8_shave l D cy LM ad2 H.size LM_ok (X (i + 1)) (X (i + 2)) x2 _ hp) (cwV 2 C.2.2.2.2 gL_law_X8_shave rfl rfl rfl (by decide +kernel) ⟨Nat.le_of_ble_eq_true rfl, Nat.le_of_ble_eq_true rfl⟩) (G2.recv (LM_ok 60 (by omega)) (cl_60 _) rfl) rfl hl.1 rfl (Nat.le_of_ble_eq_true rfl) dL_law_274 hf (fun r2 x4 H locs hp G2 G => ?_)
  obtain ⟨er, hrg, hR3⟩ := hp
  subst er
  exact fr_eq C dL_law_277 (tgt := 889) (by decide) ⟨hrg, hrg⟩ (fun _ => k x3 x4 H locs hR3 ⟨G, G2, hd⟩) (fun q => absurd rfl q)
set_option maxHeartbeats 2000000 in
set_option maxRecDepth 100000 in
/-- undo -/
theorem lw_undo (C : CallFix p m c cL_law 4 s args wsL_law RL) {b n i : Nat} {X : Nat → Int} (hX : va_X b n (fun j => iI (X j)) s s.heap) (hbl : b < s.heap.size) (hn : n ≤ 2560) (hi : i + 5 ≤ n) (hr : ∀ j, rg (X j)) (hf : cells ≤ room_1.cells ∧ slots ≤ room_1.slots) (hl : lv_has ls 4 [(0, .ref b), (1, .ref (ad 0)), (2, .ref (ad2 60)), (3, .int (iI (i : Int)))]) (hV : lG D cy ad ad2 s x x2 H locs) (hR : Rel x x2) (k : ∀ (x3 x4 : Mm) (H1 : Heap) (locs1 : List Loc), Rel x3 x4 → lG D cy ad ad2 s x3 x4 H1 locs1 → W p l e room_1 s m args below meth c H1 locs1 cells slots Q (F0 m 889 ls [])) : W p l e room_1 s m args below meth c H locs cells slots Q (F0 m 282 ls []) := by
  obtain ⟨G, G2, hd⟩ := hV
  refine lv_aload_n C.1 C.2.1 dL_law_282 rfl (lv_at hl 1 rfl) ?_
  refine lw_ld C hX hbl G.2.2.2.1 hn hi hl 1 (by decide) rfl dL_law_283 dL_law_284 dL_law_285 dL_law_286 dL_law_287 ?_
  refine fr_Vi2 C G G2 hd (c_X7_undo l D cy LA ad H.size LA_ok (X (i + 1)) x _ (sim_undo hR (hr _))) (cwV 1 C.2.2.2.2 gL_law_X7_undo rfl rfl rfl (by decide +kernel) ⟨Nat.le_of_ble_eq_true rfl, Nat.le_of_ble_eq_true rfl⟩) (G.recv (LA_ok 0 (by decide)) (cl_0 _) rfl) rfl hl.1 rfl (Nat.le_of_ble_eq_true rfl) dL_law_288 hf (fun r x3 H locs hp G G2 => ?_)
  refine lv_aload_n C.1 C.2.1 dL_law_291 rfl (lv_at hl 2 rfl) ?_
  refine lw_ld C hX hbl G.2.2.2.1 hn hi hl 1 (by decide) rfl dL_law_292 dL_law_293 dL_law_294 dL_law_295 dL_law_296 ?_
  refine fr_Vi2 C G2 G (fun c h c2 h2 q => hd c2 h2 c h q.symm) (c_X8_undo l D cy LM ad2 H.size LM_ok (X (i + 1)) x2 _ hp) (cwV 1 C.2.2.2.2 gL_law_X8_undo rfl rfl rfl (by decide +kernel) ⟨Nat.le_of_ble_eq_true rfl, Nat.le_of_ble_eq_true rfl⟩) (G2.recv (LM_ok 60 (by omega)) (cl_60 _) rfl) rfl hl.1 rfl (Nat.le_of_ble_eq_true rfl) dL_law_297 hf (fun r2 x4 H locs hp G2 G => ?_)
  obtain ⟨er, hrg, hR3⟩ := hp
  subst er
  exact fr_eq C dL_law_300 (tgt := 889) (by decide) ⟨hrg, hrg⟩ (fun _ => k x3 x4 H locs hR3 ⟨G, G2, hd⟩) (fun q => absurd rfl q)
set_option maxHeartbeats 2000000 in
set_option maxRecDepth 100000 in
/-- mirror -/
theorem lw_mirror (C : CallFix p m c cL_law 4 s args wsL_law RL) {b n i : Nat} {X : Nat → Int} (hX : va_X b n (fun j => iI (X j)) s s.heap) (hbl : b < s.heap.size) (hn : n ≤ 2560) (hi : i + 5 ≤ n) (hr : ∀ j, rg (X j)) (hf : cells ≤ room_1.cells ∧ slots ≤ room_1.slots) (hl : lv_has ls 4 [(0, .ref b), (1, .ref (ad 0)), (2, .ref (ad2 60)), (3, .int (iI (i : Int)))]) (hV : lG D cy ad ad2 s x x2 H locs) (hR : Rel x x2) (k : ∀ (x3 x4 : Mm) (H1 : Heap) (locs1 : List Loc), Rel x3 x4 → lG D cy ad ad2 s x3 x4 H1 locs1 → W p l e room_1 s m args below meth c H1 locs1 cells slots Q (F0 m 889 ls [])) : W p l e room_1 s m args below meth c H locs cells slots Q (F0 m 305 ls []) := by
  obtain ⟨G, G2, hd⟩ := hV
  refine lv_aload_n C.1 C.2.1 dL_law_305 rfl (lv_at hl 1 rfl) ?_
  refine lw_ld C hX hbl G.2.2.2.1 hn hi hl 1 (by decide) rfl dL_law_306 dL_law_307 dL_law_308 dL_law_309 dL_law_310 ?_
  refine fr_Vi2 C G G2 hd (c_X7_mirror l D cy LA ad H.size LA_ok (X (i + 1)) x _ (sim_mirror hR (hr _))) (cwV 1 C.2.2.2.2 gL_law_X7_mirror rfl rfl rfl (by decide +kernel) ⟨Nat.le_of_ble_eq_true rfl, Nat.le_of_ble_eq_true rfl⟩) (G.recv (LA_ok 0 (by decide)) (cl_0 _) rfl) rfl hl.1 rfl (Nat.le_of_ble_eq_true rfl) dL_law_311 hf (fun r x3 H locs hp G G2 => ?_)
  refine lv_aload_n C.1 C.2.1 dL_law_314 rfl (lv_at hl 2 rfl) ?_
  refine lw_ld C hX hbl G.2.2.2.1 hn hi hl 1 (by decide) rfl dL_law_315 dL_law_316 dL_law_317 dL_law_318 dL_law_319 ?_
  refine fr_Vi2 C G2 G (fun c h c2 h2 q => hd c2 h2 c h q.symm) (c_X8_mirror l D cy LM ad2 H.size LM_ok (X (i + 1)) x2 _ hp) (cwV 1 C.2.2.2.2 gL_law_X8_mirror rfl rfl rfl (by decide +kernel) ⟨Nat.le_of_ble_eq_true rfl, Nat.le_of_ble_eq_true rfl⟩) (G2.recv (LM_ok 60 (by omega)) (cl_60 _) rfl) rfl hl.1 rfl (Nat.le_of_ble_eq_true rfl) dL_law_320 hf (fun r2 x4 H locs hp G2 G => ?_)
  obtain ⟨er, hrg, hR3⟩ := hp
  subst er
  exact fr_eq C dL_law_323 (tgt := 889) (by decide) ⟨hrg, hrg⟩ (fun _ => k x3 x4 H locs hR3 ⟨G, G2, hd⟩) (fun q => absurd rfl q)
set_option maxHeartbeats 2000000 in
set_option maxRecDepth 100000 in
/-- tone -/
theorem lw_tone (C : CallFix p m c cL_law 4 s args wsL_law RL) {b n i : Nat} {X : Nat → Int} (hX : va_X b n (fun j => iI (X j)) s s.heap) (hbl : b < s.heap.size) (hn : n ≤ 2560) (hi : i + 5 ≤ n) (hr : ∀ j, rg (X j)) (hf : cells ≤ room_1.cells ∧ slots ≤ room_1.slots) (hl : lv_has ls 4 [(0, .ref b), (1, .ref (ad 0)), (2, .ref (ad2 60)), (3, .int (iI (i : Int)))]) (hV : lG D cy ad ad2 s x x2 H locs) (hR : Rel x x2) (k : ∀ (x3 x4 : Mm) (H1 : Heap) (locs1 : List Loc), Rel x3 x4 → lG D cy ad ad2 s x3 x4 H1 locs1 → W p l e room_1 s m args below meth c H1 locs1 cells slots Q (F0 m 889 ls [])) : W p l e room_1 s m args below meth c H locs cells slots Q (F0 m 328 ls []) := by
  obtain ⟨G, G2, hd⟩ := hV
  refine lv_aload_n C.1 C.2.1 dL_law_328 rfl (lv_at hl 1 rfl) ?_
  refine lw_ld C hX hbl G.2.2.2.1 hn hi hl 1 (by decide) rfl dL_law_329 dL_law_330 dL_law_331 dL_law_332 dL_law_333 ?_
  refine lw_ld C hX hbl G.2.2.2.1 hn hi hl 2 (by decide) rfl dL_law_334 dL_law_335 dL_law_336 dL_law_337 dL_law_338 ?_
  refine lw_ld C hX hbl G.2.2.2.1 hn hi hl 3 (by decide) rfl dL_law_339 dL_law_340 dL_law_341 dL_law_342 dL_law_343 ?_
  refine lw_ld C hX hbl G.2.2.2.1 hn hi hl 4 (by decide) rfl dL_law_344 dL_law_345 dL_law_346 dL_law_347 dL_law_348 ?_
  refine fr_Vi2 C G G2 hd (c_X7_tone l D cy LA ad H.size LA_ok (X (i + 1)) (X (i + 2)) (X (i + 3)) (X (i + 4)) x _ (sim_tone hR (hr _) (hr _) (hr _) (hr _))) (cwV 4 C.2.2.2.2 gL_law_X7_tone rfl rfl rfl (by decide +kernel) ⟨Nat.le_of_ble_eq_true rfl, Nat.le_of_ble_eq_true rfl⟩) (G.recv (LA_ok 0 (by decide)) (cl_0 _) rfl) rfl hl.1 rfl (Nat.le_of_ble_eq_true rfl) dL_law_349 hf (fun r x3 H locs hp G G2 => ?_)
  refine lv_aload_n C.1 C.2.1 dL_law_352 rfl (lv_at hl 2 rfl) ?_
  refine lw_ld C hX hbl G.2.2.2.1 hn hi hl 1 (by decide) rfl dL_law_353 dL_law_354 dL_law_355 dL_law_356 dL_law_357 ?_
  refine lw_ld C hX hbl G.2.2.2.1 hn hi hl 2 (by decide) rfl dL_law_358 dL_law_359 dL_law_360 dL_law_361 dL_law_362 ?_
  refine lw_ld C hX hbl G.2.2.2.1 hn hi hl 3 (by decide) rfl dL_law_363 dL_law_364 dL_law_365 dL_law_366 dL_law_367 ?_
  refine lw_ld C hX hbl G.2.2.2.1 hn hi hl 4 (by decide) rfl dL_law_368 dL_law_369 dL_law_370 dL_law_371 dL_law_372 ?_
  refine fr_Vi2 C G2 G (fun c h c2 h2 q => hd c2 h2 c h q.symm) (c_X8_tone l D cy LM ad2 H.size LM_ok (X (i + 1)) (X (i + 2)) (X (i + 3)) (X (i + 4)) x2 _ hp) (cwV 4 C.2.2.2.2 gL_law_X8_tone rfl rfl rfl (by decide +kernel) ⟨Nat.le_of_ble_eq_true rfl, Nat.le_of_ble_eq_true rfl⟩) (G2.recv (LM_ok 60 (by omega)) (cl_60 _) rfl) rfl hl.1 rfl (Nat.le_of_ble_eq_true rfl) dL_law_373 hf (fun r2 x4 H locs hp G2 G => ?_)
  obtain ⟨er, hrg, hR3⟩ := hp
  subst er
  exact fr_eq C dL_law_376 (tgt := 889) (by decide) ⟨hrg, hrg⟩ (fun _ => k x3 x4 H locs hR3 ⟨G, G2, hd⟩) (fun q => absurd rfl q)
set_option maxHeartbeats 2000000 in
set_option maxRecDepth 100000 in
/-- below -/
theorem lw_below (C : CallFix p m c cL_law 4 s args wsL_law RL) {b n i : Nat} {X : Nat → Int} (hX : va_X b n (fun j => iI (X j)) s s.heap) (hbl : b < s.heap.size) (hn : n ≤ 2560) (hi : i + 5 ≤ n) (hr : ∀ j, rg (X j)) (hf : cells ≤ room_1.cells ∧ slots ≤ room_1.slots) (hl : lv_has ls 4 [(0, .ref b), (1, .ref (ad 0)), (2, .ref (ad2 60)), (3, .int (iI (i : Int)))]) (hV : lG D cy ad ad2 s x x2 H locs) (hR : Rel x x2) (k : ∀ (x3 x4 : Mm) (H1 : Heap) (locs1 : List Loc), Rel x3 x4 → lG D cy ad ad2 s x3 x4 H1 locs1 → W p l e room_1 s m args below meth c H1 locs1 cells slots Q (F0 m 889 ls [])) : W p l e room_1 s m args below meth c H locs cells slots Q (F0 m 381 ls []) := by
  obtain ⟨G, G2, hd⟩ := hV
  refine lv_aload_n C.1 C.2.1 dL_law_381 rfl (lv_at hl 1 rfl) ?_
  refine lw_ld C hX hbl G.2.2.2.1 hn hi hl 1 (by decide) rfl dL_law_382 dL_law_383 dL_law_384 dL_law_385 dL_law_386 ?_
  refine lw_ld C hX hbl G.2.2.2.1 hn hi hl 2 (by decide) rfl dL_law_387 dL_law_388 dL_law_389 dL_law_390 dL_law_391 ?_
  refine lw_ld C hX hbl G.2.2.2.1 hn hi hl 3 (by decide) rfl dL_law_392 dL_law_393 dL_law_394 dL_law_395 dL_law_396 ?_
  refine lw_ld C hX hbl G.2.2.2.1 hn hi hl 4 (by decide) rfl dL_law_397 dL_law_398 dL_law_399 dL_law_400 dL_law_401 ?_
  refine fr_Vi2 C G G2 hd (c_X7_below l D cy LA ad H.size LA_ok (X (i + 1)) (X (i + 2)) (X (i + 3)) (X (i + 4)) x _ (sim_below hR (hr _) (hr _) (hr _) (hr _))) (cwV 4 C.2.2.2.2 gL_law_X7_below rfl rfl rfl (by decide +kernel) ⟨Nat.le_of_ble_eq_true rfl, Nat.le_of_ble_eq_true rfl⟩) (G.recv (LA_ok 0 (by decide)) (cl_0 _) rfl) rfl hl.1 rfl (Nat.le_of_ble_eq_true rfl) dL_law_402 hf (fun r x3 H locs hp G G2 => ?_)
  refine lv_aload_n C.1 C.2.1 dL_law_405 rfl (lv_at hl 2 rfl) ?_
  refine lw_ld C hX hbl G.2.2.2.1 hn hi hl 1 (by decide) rfl dL_law_406 dL_law_407 dL_law_408 dL_law_409 dL_law_410 ?_
  refine lw_ld C hX hbl G.2.2.2.1 hn hi hl 2 (by decide) rfl dL_law_411 dL_law_412 dL_law_413 dL_law_414 dL_law_415 ?_
  refine lw_ld C hX hbl G.2.2.2.1 hn hi hl 3 (by decide) rfl dL_law_416 dL_law_417 dL_law_418 dL_law_419 dL_law_420 ?_
  refine lw_ld C hX hbl G.2.2.2.1 hn hi hl 4 (by decide) rfl dL_law_421 dL_law_422 dL_law_423 dL_law_424 dL_law_425 ?_
  refine fr_Vi2 C G2 G (fun c h c2 h2 q => hd c2 h2 c h q.symm) (c_X8_below l D cy LM ad2 H.size LM_ok (X (i + 1)) (X (i + 2)) (X (i + 3)) (X (i + 4)) x2 _ hp) (cwV 4 C.2.2.2.2 gL_law_X8_below rfl rfl rfl (by decide +kernel) ⟨Nat.le_of_ble_eq_true rfl, Nat.le_of_ble_eq_true rfl⟩) (G2.recv (LM_ok 60 (by omega)) (cl_60 _) rfl) rfl hl.1 rfl (Nat.le_of_ble_eq_true rfl) dL_law_426 hf (fun r2 x4 H locs hp G2 G => ?_)
  obtain ⟨er, hrg, hR3⟩ := hp
  subst er
  exact fr_eq C dL_law_429 (tgt := 889) (by decide) ⟨hrg, hrg⟩ (fun _ => k x3 x4 H locs hR3 ⟨G, G2, hd⟩) (fun q => absurd rfl q)
end LWC0
