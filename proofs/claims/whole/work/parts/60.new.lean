/-! WHAT IS NEW: rows of the constructors -/
def fAo (U : State) : Prop := va_AO RX4 U ∧ va_AO RX6 U
theorem fAo.moved {u U : State} (hvm : u.vm.Alike U.vm) (h : fAo u) : fAo U := ⟨h.1.moved hvm, h.2.moved hvm⟩
def fNP (D : va_G) (cy : Nat → ClassId) (h0 : Nat) (c0 : va_E) (sz : Nat) : State → Prop := fun U => U.heap.size = sz ∧ va_K D vwCl (fty cy) U ∧ va_P D vwCl [(h0, c0)] U.heap ∧ va_D (fun _ => True) [(h0, c0)] ∧ fNw U ∧ fAo U
abbrev fMn (l : Launch) (y : MethodName) (ws : List Cond) (rm : Room) (h0 : Nat) (c0 : va_E) (D : va_G) (cy : Nat → ClassId) (sz mc ms : Nat) (good : Mm → Prop) (post : (Nat → Nat) × Mm → va_W) : Prop :=
  Met l y ws rm (va_Pc [.ref h0] (fNP D cy h0 c0 sz)) (va_Qv (fun u : (Nat → Nat) × Mm => good u.2) (fun u t => va_P D vwCl (post u) t.heap ∧ va_D (va_A [(h0, c0)] sz) (post u)) (va_A [(h0, c0)] sz)) mc ms (va_A [(h0, c0)] sz)
section FN
variable {p : Program} {l : Launch} {e : Env} {R : Room} {s : State} {m : MethodId} {args : Array Value} {below : List Frame} {meth : Method} {c : Code} {H : Heap} {locs : List Loc} {cells slots : Nat} {Q : State → Prop}
variable {cc : ByteArray} {nL : Nat} {Ts : List Cond} {own : String} {pc : Nat} {ls : Array Slot} {rest : List Value} {D : va_G} {cy : Nat → ClassId} {A : Nat → Prop} {ws : va_W}
theorem fty_i {U : State} {cA : ClassId} (h : va_K D vwCl (fty cy ++ [(cA, .int)]) U) : cA = cy 0 := by
  have a : U.vm.findClass ("[" ++ FieldType.int.toString) = some cA := (h.2 4 (cA, .int) rfl).2
  have b : U.vm.findClass ("[" ++ FieldType.int.toString) = some (cy 0) := (h.2 0 (cy 0, .int) rfl).2
  exact Option.some.inj (a.symm.trans b)
theorem fty_z {U : State} {cA : ClassId} (h : va_K D vwCl (fty cy ++ [(cA, .boolean)]) U) : cA = cy 1 := by
  have a : U.vm.findClass ("[" ++ FieldType.boolean.toString) = some cA := (h.2 4 (cA, .boolean) rfl).2
  have b : U.vm.findClass ("[" ++ FieldType.boolean.toString) = some (cy 1) := (h.2 1 (cy 1, .boolean) rfl).2
  exact Option.some.inj (a.symm.trans b)
theorem fty_p {U : State} {cA : ClassId} (h : va_K D vwCl (fty cy ++ [(cA, .object RX4)]) U) : cA = cy 2 := by
  obtain ⟨_, _, _, _, _, a⟩ := (h.2 4 (cA, .object RX4) rfl).2
  obtain ⟨_, _, _, _, _, b⟩ := (h.2 2 (cy 2, .object RX4) rfl).2
  exact Option.some.inj (a.symm.trans b)
theorem fty_t {U : State} {cA : ClassId} (h : va_K D vwCl (fty cy ++ [(cA, .object RX6)]) U) : cA = cy 3 := by
  obtain ⟨_, _, _, _, _, a⟩ := (h.2 4 (cA, .object RX6) rfl).2
  obtain ⟨_, _, _, _, _, b⟩ := (h.2 3 (cy 3, .object RX6) rfl).2
  exact Option.some.inj (a.symm.trans b)
theorem fn_cl {N : Nat} (hN : N ≤ 1000) : ¬ iI (N : Int) < 0 ∧ (iI (N : Int)).toNatClampNeg = N := by
  have hr : rg (N : Int) := rg_sm (by omega) (by omega)
  exact ⟨fun q => by have := (iI_lt hr rg0).mp q; omega, by rw [iI_cl hr]; omega⟩
theorem fn_int (C : CallFix p m c cc nL s args Ts own) (hK : va_K D vwCl (fty cy) s) (hP : va_P D vwCl ws H) (hD : va_D A ws) (hS : va_S A s.heap H locs) (hA : ∀ q, s.heap.size ≤ q → A q) (N : Nat) {n : Int} (hn : n = (N : Int)) (hN : N ≤ 1000) (harr : Cond.arrayClass .int ∈ Ts) (hc : cells + 1 ≤ R.cells) (hs : slots + N ≤ R.slots) (hdg : decode cc pc = .ok (.newarray .int, 2)) (kk : ∀ (q : Nat) (H1 : Heap), va_P D vwCl (ws ++ [(q, .inl (cy 0, N, .inl (fun _ => iI 0)))]) H1 → va_D A (ws ++ [(q, .inl (cy 0, N, .inl (fun _ => iI 0)))]) → va_S A s.heap H1 locs → W p l e R s m args below meth c H1 locs (cells + 1) (slots + N) Q (F0 m (pc + 2) ls (.ref q :: rest))) : W p l e R s m args below meth c H locs cells slots Q (F0 m pc ls (.int (iI n) :: rest)) := by
  subst hn
  refine va_newa (atype := .int) (a0 := (N, .inl (fun _ => iI 0))) (ty := .int) C.1 C.2.1 (C.2.2.2.2 _ harr) rfl hK hP hD hS hA (fun _ => rfl) (fn_cl hN).1 (fn_cl hN).2 (by show N * 4 ≤ _; omega) hc hs hdg (fun q cA H1 hK1 hP1 hD1 hS1 => ?_)
  obtain rfl := fty_i hK1
  exact kk q H1 hP1 hD1 hS1
theorem fn_bool (C : CallFix p m c cc nL s args Ts own) (hK : va_K D vwCl (fty cy) s) (hP : va_P D vwCl ws H) (hD : va_D A ws) (hS : va_S A s.heap H locs) (hA : ∀ q, s.heap.size ≤ q → A q) (N : Nat) {n : Int} (hn : n = (N : Int)) (hN : N ≤ 1000) (harr : Cond.arrayClass .boolean ∈ Ts) (hc : cells + 1 ≤ R.cells) (hs : slots + N ≤ R.slots) (hdg : decode cc pc = .ok (.newarray .boolean, 2)) (kk : ∀ (q : Nat) (H1 : Heap), va_P D vwCl (ws ++ [(q, .inl (cy 1, N, .inl (fun _ => iI 0)))]) H1 → va_D A (ws ++ [(q, .inl (cy 1, N, .inl (fun _ => iI 0)))]) → va_S A s.heap H1 locs → W p l e R s m args below meth c H1 locs (cells + 1) (slots + N) Q (F0 m (pc + 2) ls (.ref q :: rest))) : W p l e R s m args below meth c H locs cells slots Q (F0 m pc ls (.int (iI n) :: rest)) := by
  subst hn
  refine va_newa (atype := .boolean) (a0 := (N, .inl (fun _ => iI 0))) (ty := .boolean) C.1 C.2.1 (C.2.2.2.2 _ harr) rfl hK hP hD hS hA (fun _ => rfl) (fn_cl hN).1 (fn_cl hN).2 (by show N * 1 ≤ _; omega) hc hs hdg (fun q cA H1 hK1 hP1 hD1 hS1 => ?_)
  obtain rfl := fty_z hK1
  exact kk q H1 hP1 hD1 hS1
theorem fn_pls (C : CallFix p m c cc nL s args Ts own) (hK : va_K D vwCl (fty cy) s) (hAo : fAo s) (hP : va_P D vwCl ws H) (hD : va_D A ws) (hS : va_S A s.heap H locs) (hA : ∀ q, s.heap.size ≤ q → A q) (N : Nat) {n : Int} {index : Nat} (hn : n = (N : Int)) (hN : N ≤ 1000) (hcl : Cond.classLink own index RX4 ∈ Ts) (hc : cells + 1 ≤ R.cells) (hs : slots + N ≤ R.slots) (hdg : decode cc pc = .ok (.anewarray index, 3)) (kk : ∀ (q : Nat) (H1 : Heap), va_P D vwCl (ws ++ [(q, .inl (cy 2, N, .inr (.inr (.inr (.inr (fun _ => none))))))]) H1 → va_D A (ws ++ [(q, .inl (cy 2, N, .inr (.inr (.inr (.inr (fun _ => none))))))]) → va_S A s.heap H1 locs → W p l e R s m args below meth c H1 locs (cells + 1) (slots + N) Q (F0 m (pc + 3) ls (.ref q :: rest))) : W p l e R s m args below meth c H locs cells slots Q (F0 m pc ls (.int (iI n) :: rest)) := by
  subst hn
  refine va_newq (C := RX4) C.1 C.2.1 C.2.2.2.1 (C.2.2.2.2 _ hcl) hAo.1 hK hP hD hS hA (fn_cl hN).1 (fn_cl hN).2 (by omega) hc hs hdg (fun q cA H1 hK1 hP1 hD1 hS1 => ?_)
  obtain rfl := fty_p hK1
  exact kk q H1 hP1 hD1 hS1
theorem fn_tps (C : CallFix p m c cc nL s args Ts own) (hK : va_K D vwCl (fty cy) s) (hAo : fAo s) (hP : va_P D vwCl ws H) (hD : va_D A ws) (hS : va_S A s.heap H locs) (hA : ∀ q, s.heap.size ≤ q → A q) (N : Nat) {n : Int} {index : Nat} (hn : n = (N : Int)) (hN : N ≤ 1000) (hcl : Cond.classLink own index RX6 ∈ Ts) (hc : cells + 1 ≤ R.cells) (hs : slots + N ≤ R.slots) (hdg : decode cc pc = .ok (.anewarray index, 3)) (kk : ∀ (q : Nat) (H1 : Heap), va_P D vwCl (ws ++ [(q, .inl (cy 3, N, .inr (.inr (.inr (.inr (fun _ => none))))))]) H1 → va_D A (ws ++ [(q, .inl (cy 3, N, .inr (.inr (.inr (.inr (fun _ => none))))))]) → va_S A s.heap H1 locs → W p l e R s m args below meth c H1 locs (cells + 1) (slots + N) Q (F0 m (pc + 3) ls (.ref q :: rest))) : W p l e R s m args below meth c H locs cells slots Q (F0 m pc ls (.int (iI n) :: rest)) := by
  subst hn
  refine va_newq (C := RX6) C.1 C.2.1 C.2.2.2.1 (C.2.2.2.2 _ hcl) hAo.2 hK hP hD hS hA (fn_cl hN).1 (fn_cl hN).2 (by omega) hc hs hdg (fun q cA H1 hK1 hP1 hD1 hS1 => ?_)
  obtain rfl := fty_t hK1
  exact kk q H1 hP1 hD1 hS1
theorem fNP.blind {h0 : Nat} {c0 : va_E} {sz : Nat} {av : List Value} : FrameBlind (va_Pc av (fNP D cy h0 c0 sz)) := fun a U g mk q => ⟨q.1, q.2.1, va_K.moved (u := U) (U := U.calling g mk a) (Vm.Alike.refl U.vm) q.2.2.1, q.2.2.2.1, q.2.2.2.2.1, fNw.same (u := U) (U := U.calling g mk a) rfl q.2.2.2.2.2.1, fAo.moved (u := U) (U := U.calling g mk a) (Vm.Alike.refl U.vm) q.2.2.2.2.2.2⟩
theorem fNP.pre {h0 : Nat} {c0 : va_E} (hK : va_K D vwCl (fty cy) s) (hP : va_P D vwCl [(h0, c0)] H) (hD : va_D A [(h0, c0)]) (hN : fNw s) (hO : fAo s) (U : State) (hU : U.heap = H) (hW : s.WarmedH U.vm) : va_Pc [.ref h0] (fNP D cy h0 c0 H.size) ([.ref h0] : List Value).toArray U := ⟨rfl, by rw [hU], va_K.moved hW.alike hK, by rw [hU]; exact hP, hD.weaken (fun _ _ _ _ => trivial), fNw.warm hW hN, hO.moved hW.alike⟩
theorem fn_start {y : MethodName} {wl : List Cond} {rm : Room} {maxL : Nat} {ret : Option FieldType} {s₁ : State} {sz h0 : Nat} {c0 : va_E} (B : BodyLoose p l y (headSpec wl rm) cc maxL ret e s m args below meth c s₁) (hml : c.maxLocals = maxL) (hp : fNP D cy h0 c0 sz s) : CallFix p m c cc maxL s args wl y.cls ∧ meth.sig.returnType = ret ∧ meth.locks = false ∧ s.heap.size = sz ∧ meth.name = y.name ∧ va_K D vwCl (fty cy) s ∧ fNw s ∧ fAo s ∧ va_P D vwCl [(h0, c0)] s.heap ∧ va_D (va_A [(h0, c0)] s.heap.size) [(h0, c0)] ∧ (∀ q, s.heap.size ≤ q → va_A [(h0, c0)] s.heap.size q) := by
  obtain ⟨h1, h2, h3, h4, h5, h6⟩ := hp
  exact ⟨⟨B.exec, B.bytes, hml, findClass_of_methodNamed B.named, atoms_spec (ws := wl) B.pre⟩, B.returns, B.notSynchronized, h1, (name_of_methodNamed B.named B.method).1, h2, h5, h6, h3, h4.self, fun q h => Or.inr h⟩
end FN
theorem va_P_rep {D : va_G} {cl : List vw_C} {ws : va_W} {H : Heap} {k a : Nat} {e0 e1 : va_E} (hP : va_P D cl ws H) (hk : ws[k]? = some (a, e0)) (he : va_at D cl (a, e0) H → va_at D cl (a, e1) H) : va_P D cl (ws.set k (a, e1)) H := by
  intro j q hj
  rw [List.getElem?_set] at hj
  by_cases e : k = j
  · subst e
    rw [if_pos rfl] at hj
    split at hj
    · cases hj; exact he (hP k _ hk)
    · cases hj
  · rw [if_neg e] at hj
    exact hP j q hj
theorem arrV_cg {cI : ClassId} {N : Nat} {f g : Nat → Value} (h : ∀ i, i < N → f i = g i) : arrV cI N f = arrV cI N g := by
  have : (fun j : Fin N => f j.val) = fun j : Fin N => g j.val := by funext j; exact h j.val j.isLt
  unfold arrV
  rw [this]
theorem at_q {D : va_G} {cl : List vw_C} {H : Heap} {a : Nat} {cA : ClassId} {N : Nat} {f g : Nat → Option Nat} (h : ∀ i, i < N → f i = g i) (hP : va_at D cl (a, .inl (cA, N, .inr (.inr (.inr (.inr f))))) H) : va_at D cl (a, .inl (cA, N, .inr (.inr (.inr (.inr g))))) H := by
  show H[a]? = some (vp_cell cA (N, .inr (.inr (.inr (.inr g)))))
  have hP : H[a]? = some (vp_cell cA (N, .inr (.inr (.inr (.inr f))))) := hP
  rw [vp_cell_q] at hP ⊢
  rw [hP, arrV_cg (fun i hi => by rw [h i hi])]
/-- the house as it is at first -/
def xH0 : Mm := fun c k => if c = 3 then (k : Int) else 0
theorem xH0_CT : CT xH0 := ⟨⟨by decide, by decide⟩, fun t ht => ⟨by show (0 : Int) ≤ (t : Int); omega, by show (t : Int) < 12; omega⟩, fun t ht => by have h : (t : Int) < 0 := ht; omega⟩
abbrev LH : List Nat := [2, 3, 4, 5, 6, 7, 32, 33, 34, 35, 36, 37, 38, 39, 40, 41, 42, 43, 44, 45, 46, 47, 48, 49, 50, 51, 52, 53, 54, 55]
theorem LH_ok : fLH LH := by
  intro c h
  have : c < 56 := by omega
  have key : ∀ c : Fin 56, ((2 ≤ c.val ∧ c.val < 8) ∨ (32 ≤ c.val ∧ c.val < 56)) → c.val ∈ LH := by decide +kernel
  exact key ⟨c, this⟩ h
