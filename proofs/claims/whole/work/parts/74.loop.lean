/-! THE CLAIM OUT OF ONE WALK OF THE LAW'S BODY. Your part is whole_start (and what it stands on); all else here is the same for every law, but numbers. -/
def R_law : String := "FiddlePlatesLaw"
def lw_P (b : Addr) (xs : List Int32) (args : Array Value) (s : State) : Prop := args = #[.ref b] ∧ s.IntsAt b xs ∧ xs.length ≤ 2560 ∧ (Jvm.Cond.and given_1 narrow_1).before args s = true
def lw_Q (_ : Array Value) (s : State) (o : Outcome) (t : State) : Prop := o = .returned (some (.int 1)) ∧ Framed s o t [] 600000 7302250
def lw_Z (below : List Frame) (a : Array Value) (s : State) : State → Prop := fun t => ∃ o, t.status = .running ∧ Ended t below o ∧ lw_Q a s o t
/-- the law's own end, with 1 on the stack, nothing written that was there before, its room as the claim has it -/
theorem lw_ret {p : Program} {l : Launch} {e : Env} {s : State} {m : MethodId} {below : List Frame} {meth : Method} {c : Code} {b : Nat} (hx : p.tables.exec = Jvm.exec) (hb : c.code = code) (hr : meth.sig.returnType = ret) (hlocks : meth.locks = false) {pc : Nat} {H : Heap} {ls : Array Slot} (hdg : decode code pc = .ok (.ireturn, 1)) : W p l e room_1 s m #[Value.ref b] below meth c H [] 600000 7302250 (lw_Z below #[Value.ref b] s) (F0 m pc ls [.int 1]) := by
  intro T hT X
  obtain ⟨fs, hret, hrun, hended, hW, hframe⟩ := X.leave (v := some (.int 1)) (hlocks := hlocks) (fun h => by rw [hr] at h; cases h)
  have hmeth' : T.vm.method? m = some meth := X.method'
  refine ⟨T.setFrames fs, ?_, .returned (some (.int 1)), hrun, hended, rfl, ⟨_, rfl⟩, hW, hframe⟩
  jvm_step X.here [X.here.top, hx, hb, hdg, hmeth', hr, ret, narrow_b1]
  (try refine ⟨rfl, ?_⟩); (try refine ⟨rfl, ?_⟩)
  first | (intro acts; rw [hret _ acts rfl rfl rfl]) | rw [hret _ _ rfl rfl rfl]
  exact Steps.refl _
/-- what holds at the law's entry: the machine, the code, the tables' words (any of lw_tbl by 'hts w (by decide +kernel)'), the script of L ints xs at the cell b, what the Statement gives of the start (any of its parts by flat_of_before) -/
def lw_At (p : Program) (s : State) (m : MethodId) (meth : Method) (c : Code) (b L : Nat) (xs : Nat → Int32) : Prop :=
  p.tables.exec = Jvm.exec ∧ c.code = code ∧ meth.sig.returnType = ret ∧ c.maxLocals = 4 ∧ s.vm.findClass R_law = some m.cls ∧ (∀ w ∈ lw_tbl, w.before #[Value.ref b] s = true) ∧ va_X b L xs s s.heap ∧ b < s.heap.size ∧ meth.locks = false ∧ (Jvm.Cond.and given_1 narrow_1).before #[Value.ref b] s = true
section LWD
variable {p : Program} {l : Launch} {e : Env} {s : State} {m : MethodId} {args : Array Value} {below : List Frame} {meth : Method} {c : Code} {H : Heap} {locs : List Loc} {cells slots : Nat} {Q : State → Prop}
variable {ls : Array Slot} {D : va_G} {cy : Nat → ClassId} {ad ad2 : Nat → Nat} {x x2 : Mm}
set_option maxHeartbeats 2000000 in
set_option maxRecDepth 100000 in
/-- THE LAW's loop: the two stay related, the answers are one -/
theorem law_loop {b n : Nat} {X : Nat → Int} (C : CallFix p m c cL_law 4 s #[Value.ref b] wsL_law RL) (hrt : meth.sig.returnType = ret) (hlk : meth.locks = false) (hX : va_X b n (fun j => iI (X j)) s s.heap) (hbl : b < s.heap.size) (hn : n ≤ 2560) (hr : ∀ j, rg (X j)) : ∀ (f i : Nat) (x x2 : Mm) (H : Heap) (locs : List Loc) (ls : Array Slot), n < i + f → i ≤ n → Rel x x2 → lG D cy ad ad2 s x x2 H locs → lv_has ls 4 [(0, .ref b), (1, .ref (ad 0)), (2, .ref (ad2 60)), (3, .int (iI (i : Int)))] → W p l e room_1 s m #[Value.ref b] below meth c H locs 600000 7302250 (lw_Z below #[Value.ref b] s) (F0 m 18 ls []) := by
  intro f
  induction f with
  | zero =>
    intro i x x2 H locs ls h1 h2
    omega
  | succ f ih =>
    intro i x x2 H locs ls h1 h2 hR hV hl
    refine lw_head C hX hbl hV.1.2.2.2.1 hn h2 hl (fun q => ?_) (fun q => ?_)
    · refine lv_iconst (v := 1) C.1 C.2.1 dL_law_895 (by decide) ?_
      refine va_forget (fun q hq => hV.1.2.2.2.1.2.2 q hq) ?_
      exact lw_ret C.1 C.2.1 hrt hlk dL_law_896
    · have K : ∀ (x3 x4 : Mm) (H1 : Heap) (locs1 : List Loc), Rel x3 x4 → lG D cy ad ad2 s x3 x4 H1 locs1 → W p l e room_1 s m #[Value.ref b] below meth c H1 locs1 600000 7302250 (lw_Z below #[Value.ref b] s) (F0 m 889 ls []) := by
        intro x3 x4 H1 locs1 hR3 hV3
        have e5 : ((i + 5 : Nat) : Int) = (i : Int) + 5 := by omega
        refine lv_iinc (v := iI ((i + 5 : Nat) : Int)) (lv' := [(3, .int (iI ((i + 5 : Nat) : Int))), (0, .ref b), (1, .ref (ad 0)), (2, .ref (ad2 60))]) C.1 C.2.1 dL_law_889 hl (k := 3) rfl (by rw [e5]; exact iI_add _ _) (by decide) rfl (fun ls hl => ?_)
        refine lv_goto (tgt := 18) C.1 C.2.1 dL_law_892 (by decide) ?_
        exact ih (i + 5) x3 x4 H1 locs1 ls (by omega) (by omega) hR3 hV3 (lv_sub hl [1, 2, 3, 0] rfl)
      have hf : (600000 : Nat) ≤ room_1.cells ∧ (7302250 : Nat) ≤ room_1.slots := ⟨Nat.le_refl _, Nat.le_refl _⟩
      refine lw_sw C hX hbl hV.1.2.2.2.1 hn q hl ?_
      exact List.forall_mem_cons.mpr ⟨lw_plate C hX hbl hn q hr hf hl hV hR K, List.forall_mem_cons.mpr ⟨lw_thick C hX hbl hn q hr hf hl hV hR K, List.forall_mem_cons.mpr ⟨lw_least C hX hbl hn q hr hf hl hV hR K, List.forall_mem_cons.mpr ⟨lw_shave C hX hbl hn q hr hf hl hV hR K, List.forall_mem_cons.mpr ⟨lw_undo C hX hbl hn q hr hf hl hV hR K, List.forall_mem_cons.mpr ⟨lw_mirror C hX hbl hn q hr hf hl hV hR K, List.forall_mem_cons.mpr ⟨lw_tone C hX hbl hn q hr hf hl hV hR K, List.forall_mem_cons.mpr ⟨lw_below C hX hbl hn q hr hf hl hV hR K, List.forall_mem_cons.mpr ⟨lw_bond C hX hbl hn q hr hf hl hV hR K, List.forall_mem_cons.mpr ⟨lw_tap C hX hbl hn q hr hf hl hV hR K, List.forall_mem_cons.mpr ⟨lw_untap C hX hbl hn q hr hf hl hV hR K, List.forall_mem_cons.mpr ⟨lw_woods C hX hbl hn q hr hf hl hV hR K, List.forall_mem_cons.mpr ⟨lw_wood C hX hbl hn q hr hf hl hV hR K, List.forall_mem_cons.mpr ⟨lw_span C hX hbl hn q hr hf hl hV hR K, List.forall_mem_cons.mpr ⟨lw_next C hX hbl hn q hr hf hl hV hR K, List.forall_mem_cons.mpr ⟨lw_aim C hX hbl hn q hr hf hl hV hR K, List.forall_mem_cons.mpr ⟨lw_aimless C hX hbl hn q hr hf hl hV hR K, List.forall_mem_cons.mpr ⟨lw_plan C hX hbl hn q hr hf hl hV hR K, List.forall_mem_cons.mpr ⟨lw_planned C hX hbl hn q hr hf hl hV hR K, List.forall_mem_cons.mpr ⟨lw_carve C hX hbl hn q hr hf hl hV hR K, List.forall_mem_cons.mpr ⟨lw_off C hX hbl hn q hr hf hl hV hR K, List.forall_mem_cons.mpr ⟨lw_even C hX hbl hn q hr hf hl hV hR K, List.forall_mem_cons.mpr ⟨lw_count C hX hbl hn q hr hf hl hV hR K, List.forall_mem_cons.mpr ⟨K x x2 H locs hR hV, fun _ h => absurd h List.not_mem_nil⟩⟩⟩⟩⟩⟩⟩⟩⟩⟩⟩⟩⟩⟩⟩⟩⟩⟩⟩⟩⟩⟩⟩⟩
end LWD
