section
-- ===== PART A: goes FIRST, ahead of the names: the tables' words, and 'selects' of the private methods out of them =====
/-- a private method of a class that the tables say can be made, by its rows of tables_1 -/
def lw_okq (q : MethodName × Nat) : Prop := (q.1.cls ≠ "java/lang/invoke/MethodHandle" ∧ q.1.cls ≠ "java/lang/invoke/VarHandle") ∧ Cond.instantiable q.1.cls q.2 ∈ tables_1 ∧ Cond.privateMethod q.1 ∈ tables_1 ∧ Cond.instanceMethod q.1 ∈ tables_1
theorem lw_p0 : lw_okq (⟨"FiddlePlates$House", "sift", "()V"⟩, 7) := ⟨⟨by decide +kernel, by decide +kernel⟩, List.mem_of_getElem? (i := 23) (by decide +kernel), List.mem_of_getElem? (i := 50) (by decide +kernel), List.mem_of_getElem? (i := 51) (by decide +kernel)⟩
theorem lw_p1 : lw_okq (⟨"FiddlePlates$House", "fitsAllTaps", "(II)Z"⟩, 7) := ⟨⟨by decide +kernel, by decide +kernel⟩, List.mem_of_getElem? (i := 23) (by decide +kernel), List.mem_of_getElem? (i := 54) (by decide +kernel), List.mem_of_getElem? (i := 55) (by decide +kernel)⟩
theorem lw_p2 : lw_okq (⟨"FiddlePlates$House", "keep", "(II)V"⟩, 7) := ⟨⟨by decide +kernel, by decide +kernel⟩, List.mem_of_getElem? (i := 23) (by decide +kernel), List.mem_of_getElem? (i := 65) (by decide +kernel), List.mem_of_getElem? (i := 66) (by decide +kernel)⟩
theorem lw_p3 : lw_okq (⟨"FiddlePlates$House", "dropInnerWoods", "()V"⟩, 7) := ⟨⟨by decide +kernel, by decide +kernel⟩, List.mem_of_getElem? (i := 23) (by decide +kernel), List.mem_of_getElem? (i := 69) (by decide +kernel), List.mem_of_getElem? (i := 70) (by decide +kernel)⟩
theorem lw_p4 : lw_okq (⟨"FiddlePlates", "isPlate", "(I)Z"⟩, 10) := ⟨⟨by decide +kernel, by decide +kernel⟩, List.mem_of_getElem? (i := 13) (by decide +kernel), List.mem_of_getElem? (i := 217) (by decide +kernel), List.mem_of_getElem? (i := 218) (by decide +kernel)⟩
theorem lw_p5 : lw_okq (⟨"FiddlePlates", "makePlan", "(I)V"⟩, 10) := ⟨⟨by decide +kernel, by decide +kernel⟩, List.mem_of_getElem? (i := 13) (by decide +kernel), List.mem_of_getElem? (i := 387) (by decide +kernel), List.mem_of_getElem? (i := 388) (by decide +kernel)⟩
theorem lw_p6 : lw_okq (⟨"FiddlePlates$Planner", "foundOf", "(I[ILFiddlePlates$House;LFiddlePlates$Aims;)Z"⟩, 5) := ⟨⟨by decide +kernel, by decide +kernel⟩, List.mem_of_getElem? (i := 119) (by decide +kernel), List.mem_of_getElem? (i := 396) (by decide +kernel), List.mem_of_getElem? (i := 397) (by decide +kernel)⟩
theorem lw_p7 : lw_okq (⟨"FiddlePlates$Planner", "take", "([IIIII)V"⟩, 5) := ⟨⟨by decide +kernel, by decide +kernel⟩, List.mem_of_getElem? (i := 119) (by decide +kernel), List.mem_of_getElem? (i := 401) (by decide +kernel), List.mem_of_getElem? (i := 402) (by decide +kernel)⟩
theorem lw_p8 : lw_okq (⟨"FiddlePlates", "shavingsInLogs", "()I"⟩, 10) := ⟨⟨by decide +kernel, by decide +kernel⟩, List.mem_of_getElem? (i := 13) (by decide +kernel), List.mem_of_getElem? (i := 447) (by decide +kernel), List.mem_of_getElem? (i := 448) (by decide +kernel)⟩
theorem lw_p9 : lw_okq (⟨"FiddlePlatesModel", "isPlate", "(I)Z"⟩, 20) := ⟨⟨by decide +kernel, by decide +kernel⟩, List.mem_of_getElem? (i := 451) (by decide +kernel), List.mem_of_getElem? (i := 532) (by decide +kernel), List.mem_of_getElem? (i := 533) (by decide +kernel)⟩
theorem lw_p10 : lw_okq (⟨"FiddlePlatesModel", "shaveOff", "(II)V"⟩, 20) := ⟨⟨by decide +kernel, by decide +kernel⟩, List.mem_of_getElem? (i := 451) (by decide +kernel), List.mem_of_getElem? (i := 547) (by decide +kernel), List.mem_of_getElem? (i := 548) (by decide +kernel)⟩
theorem lw_p11 : lw_okq (⟨"FiddlePlatesModel", "take", "([II)V"⟩, 20) := ⟨⟨by decide +kernel, by decide +kernel⟩, List.mem_of_getElem? (i := 451) (by decide +kernel), List.mem_of_getElem? (i := 566) (by decide +kernel), List.mem_of_getElem? (i := 567) (by decide +kernel)⟩
theorem lw_p12 : lw_okq (⟨"FiddlePlatesModel", "toneOf", "(III)I"⟩, 20) := ⟨⟨by decide +kernel, by decide +kernel⟩, List.mem_of_getElem? (i := 451) (by decide +kernel), List.mem_of_getElem? (i := 570) (by decide +kernel), List.mem_of_getElem? (i := 571) (by decide +kernel)⟩
theorem lw_p13 : lw_okq (⟨"FiddlePlatesModel", "belowOf", "(III)I"⟩, 20) := ⟨⟨by decide +kernel, by decide +kernel⟩, List.mem_of_getElem? (i := 451) (by decide +kernel), List.mem_of_getElem? (i := 574) (by decide +kernel), List.mem_of_getElem? (i := 575) (by decide +kernel)⟩
theorem lw_p14 : lw_okq (⟨"FiddlePlatesModel", "bondOf", "(II)J"⟩, 20) := ⟨⟨by decide +kernel, by decide +kernel⟩, List.mem_of_getElem? (i := 451) (by decide +kernel), List.mem_of_getElem? (i := 578) (by decide +kernel), List.mem_of_getElem? (i := 579) (by decide +kernel)⟩
theorem lw_p15 : lw_okq (⟨"FiddlePlatesModel", "findWoods", "()V"⟩, 20) := ⟨⟨by decide +kernel, by decide +kernel⟩, List.mem_of_getElem? (i := 451) (by decide +kernel), List.mem_of_getElem? (i := 604) (by decide +kernel), List.mem_of_getElem? (i := 605) (by decide +kernel)⟩
def lw_privs_1 : List (MethodName × Nat) := [(⟨"FiddlePlates$House", "sift", "()V"⟩, 7), (⟨"FiddlePlates$House", "fitsAllTaps", "(II)Z"⟩, 7), (⟨"FiddlePlates$House", "keep", "(II)V"⟩, 7), (⟨"FiddlePlates$House", "dropInnerWoods", "()V"⟩, 7), (⟨"FiddlePlates", "isPlate", "(I)Z"⟩, 10), (⟨"FiddlePlates", "makePlan", "(I)V"⟩, 10), (⟨"FiddlePlates$Planner", "foundOf", "(I[ILFiddlePlates$House;LFiddlePlates$Aims;)Z"⟩, 5), (⟨"FiddlePlates$Planner", "take", "([IIIII)V"⟩, 5), (⟨"FiddlePlates", "shavingsInLogs", "()I"⟩, 10), (⟨"FiddlePlatesModel", "isPlate", "(I)Z"⟩, 20), (⟨"FiddlePlatesModel", "shaveOff", "(II)V"⟩, 20), (⟨"FiddlePlatesModel", "take", "([II)V"⟩, 20), (⟨"FiddlePlatesModel", "toneOf", "(III)I"⟩, 20), (⟨"FiddlePlatesModel", "belowOf", "(III)I"⟩, 20), (⟨"FiddlePlatesModel", "bondOf", "(II)J"⟩, 20), (⟨"FiddlePlatesModel", "findWoods", "()V"⟩, 20)]
theorem lw_r1 : ∀ q ∈ lw_privs_1, lw_okq q := List.forall_mem_cons.mpr ⟨lw_p0, List.forall_mem_cons.mpr ⟨lw_p1, List.forall_mem_cons.mpr ⟨lw_p2, List.forall_mem_cons.mpr ⟨lw_p3, List.forall_mem_cons.mpr ⟨lw_p4, List.forall_mem_cons.mpr ⟨lw_p5, List.forall_mem_cons.mpr ⟨lw_p6, List.forall_mem_cons.mpr ⟨lw_p7, List.forall_mem_cons.mpr ⟨lw_p8, List.forall_mem_cons.mpr ⟨lw_p9, List.forall_mem_cons.mpr ⟨lw_p10, List.forall_mem_cons.mpr ⟨lw_p11, List.forall_mem_cons.mpr ⟨lw_p12, List.forall_mem_cons.mpr ⟨lw_p13, List.forall_mem_cons.mpr ⟨lw_p14, List.forall_mem_cons.mpr ⟨lw_p15, fun _ h => absurd h List.not_mem_nil⟩⟩⟩⟩⟩⟩⟩⟩⟩⟩⟩⟩⟩⟩⟩⟩
theorem lw_p16 : lw_okq (⟨"FiddlePlatesModel", "lies", "(IIIII)Z"⟩, 20) := ⟨⟨by decide +kernel, by decide +kernel⟩, List.mem_of_getElem? (i := 451) (by decide +kernel), List.mem_of_getElem? (i := 608) (by decide +kernel), List.mem_of_getElem? (i := 609) (by decide +kernel)⟩
theorem lw_p17 : lw_okq (⟨"FiddlePlatesModel", "toneBy", "(II)I"⟩, 20) := ⟨⟨by decide +kernel, by decide +kernel⟩, List.mem_of_getElem? (i := 451) (by decide +kernel), List.mem_of_getElem? (i := 620) (by decide +kernel), List.mem_of_getElem? (i := 621) (by decide +kernel)⟩
theorem lw_p18 : lw_okq (⟨"FiddlePlatesModel", "greatestHeap", "(I)I"⟩, 20) := ⟨⟨by decide +kernel, by decide +kernel⟩, List.mem_of_getElem? (i := 451) (by decide +kernel), List.mem_of_getElem? (i := 628) (by decide +kernel), List.mem_of_getElem? (i := 629) (by decide +kernel)⟩
theorem lw_p19 : lw_okq (⟨"FiddlePlatesModel", "aims", "()I"⟩, 20) := ⟨⟨by decide +kernel, by decide +kernel⟩, List.mem_of_getElem? (i := 451) (by decide +kernel), List.mem_of_getElem? (i := 640) (by decide +kernel), List.mem_of_getElem? (i := 641) (by decide +kernel)⟩
theorem lw_p20 : lw_okq (⟨"FiddlePlatesModel", "findPlan", "(I)V"⟩, 20) := ⟨⟨by decide +kernel, by decide +kernel⟩, List.mem_of_getElem? (i := 451) (by decide +kernel), List.mem_of_getElem? (i := 648) (by decide +kernel), List.mem_of_getElem? (i := 649) (by decide +kernel)⟩
theorem lw_p21 : lw_okq (⟨"FiddlePlatesModel", "mayBe", "(III)Z"⟩, 20) := ⟨⟨by decide +kernel, by decide +kernel⟩, List.mem_of_getElem? (i := 451) (by decide +kernel), List.mem_of_getElem? (i := 652) (by decide +kernel), List.mem_of_getElem? (i := 653) (by decide +kernel)⟩
theorem lw_p22 : lw_okq (⟨"FiddlePlatesModel", "fits", "()Z"⟩, 20) := ⟨⟨by decide +kernel, by decide +kernel⟩, List.mem_of_getElem? (i := 451) (by decide +kernel), List.mem_of_getElem? (i := 656) (by decide +kernel), List.mem_of_getElem? (i := 657) (by decide +kernel)⟩
def lw_privs_2 : List (MethodName × Nat) := [(⟨"FiddlePlatesModel", "lies", "(IIIII)Z"⟩, 20), (⟨"FiddlePlatesModel", "toneBy", "(II)I"⟩, 20), (⟨"FiddlePlatesModel", "greatestHeap", "(I)I"⟩, 20), (⟨"FiddlePlatesModel", "aims", "()I"⟩, 20), (⟨"FiddlePlatesModel", "findPlan", "(I)V"⟩, 20), (⟨"FiddlePlatesModel", "mayBe", "(III)Z"⟩, 20), (⟨"FiddlePlatesModel", "fits", "()Z"⟩, 20)]
theorem lw_r2 : ∀ q ∈ lw_privs_2, lw_okq q := List.forall_mem_cons.mpr ⟨lw_p16, List.forall_mem_cons.mpr ⟨lw_p17, List.forall_mem_cons.mpr ⟨lw_p18, List.forall_mem_cons.mpr ⟨lw_p19, List.forall_mem_cons.mpr ⟨lw_p20, List.forall_mem_cons.mpr ⟨lw_p21, List.forall_mem_cons.mpr ⟨lw_p22, fun _ h => absurd h List.not_mem_nil⟩⟩⟩⟩⟩⟩⟩
def lw_privs : List (MethodName × Nat) := lw_privs_1 ++ (lw_privs_2)
def lw_tbl : List Cond := k2_sels lw_privs ++ tables_1
theorem lw_privs_ok : ∀ q ∈ lw_privs, lw_okq q := by
  show ∀ q ∈ lw_privs_1 ++ (lw_privs_2), lw_okq q
  exact List.forall_mem_append.mpr ⟨lw_r1, lw_r2⟩
end
section
/-! ===== BEGIN words of one list among another's, by their places ===== -/
theorem goodIn_r {big : List Cond} (ws : List Cond) (ps : List Nat) (hp : ws = ps.filterMap (fun i => big[i]?)) (h : ws.all goodWord = true) : GoodIn big ws := by
  intro w hw
  have h1 := List.all_eq_true.mp h w hw
  rw [hp] at hw
  obtain ⟨i, -, hi⟩ := List.mem_filterMap.mp hw
  have hm : w ∈ big := by first | exact List.mem_of_getElem? hi | exact List.getElem?_mem hi
  exact ⟨hm, good_of_word h1⟩
theorem goodIn_app {big a b : List Cond} (ha : GoodIn big a) (hb : GoodIn big b) : GoodIn big (a ++ b) := fun w h => (List.mem_append.mp h).elim (ha w) (hb w)
theorem goodIn_ca {big a b : List Cond} {c : Cond} (ha : GoodIn big (c :: a)) (hb : GoodIn big b) : GoodIn big (c :: (a ++ b)) := fun w h => (List.mem_cons.mp h).elim (fun e => ha w (List.mem_cons.mpr (Or.inl e))) (fun h => (List.mem_append.mp h).elim (fun h => ha w (List.mem_cons.mpr (Or.inr h))) (hb w))
theorem goodIn_sub {big ws : List Cond} (hm : ∀ w ∈ ws, w ∈ big) (h : ws.all goodWord = true) : GoodIn big ws := fun w hw => ⟨hm w hw, good_of_word (List.all_eq_true.mp h w hw)⟩
/-! ===== END ===== -/

/-! ===== BEGIN printed: names, fields, word lists, decode rows ===== -/
def RX0 : String := "FiddlePlates$Aims"
def TX0 : u_T := fun k => match k with
  | 0 => ("FiddlePlates$Aims", "set", "[Z", true)
  | 1 => ("FiddlePlates$Aims", "from", "[I", true)
  | _ => ("FiddlePlates$Aims", "to", "[I", true)
def tyX0 : Nat → FieldType := fun k => match k with
  | 0 => .array .boolean
  | 1 => .array .int
  | _ => .array .int
abbrev wsX00 : List Cond := u_ws RX0 TX0 3
theorem nmX0 : ∀ a, a < 3 → ∀ b, b < 3 → a ≠ b → (TX0 a).2.1 ≠ (TX0 b).2.1 := by decide +kernel
theorem tyX0_ok : ∀ k, k < 3 → parseFieldDescriptor (TX0 k).2.2.1 = some (tyX0 k) := by decide +kernel
abbrev cX0_init : ByteArray := prog_2_method_1_code
def yX0_init : MethodName := ⟨RX0, "<init>", "()V"⟩
abbrev cX0_put : ByteArray := prog_2_method_2_code
def yX0_put : MethodName := ⟨RX0, "put", "(III)V"⟩
abbrev cX0_clear : ByteArray := prog_2_method_3_code
def yX0_clear : MethodName := ⟨RX0, "clear", "()V"⟩
abbrev cX0_spans : ByteArray := prog_2_method_4_code
def yX0_spans : MethodName := ⟨RX0, "spans", "()I"⟩
abbrev cX0_metBy : ByteArray := prog_2_method_5_code
def yX0_metBy : MethodName := ⟨RX0, "metBy", "([ILFiddlePlates$House;)Z"⟩
def RX1 : String := "FiddlePlates$Heaps"
def TX1 : u_T := fun k => match k with
  | _ => ("FiddlePlates$Heaps", "sizes", "[I", true)
def tyX1 : Nat → FieldType := fun k => match k with
  | _ => .array .int
abbrev wsX10 : List Cond := u_ws RX1 TX1 1
theorem nmX1 : ∀ a, a < 1 → ∀ b, b < 1 → a ≠ b → (TX1 a).2.1 ≠ (TX1 b).2.1 := by decide +kernel
theorem tyX1_ok : ∀ k, k < 1 → parseFieldDescriptor (TX1 k).2.2.1 = some (tyX1 k) := by decide +kernel
abbrev cX1_init : ByteArray := prog_3_method_1_code
def yX1_init : MethodName := ⟨RX1, "<init>", "()V"⟩
abbrev cX1_greatest : ByteArray := prog_3_method_2_code
def yX1_greatest : MethodName := ⟨RX1, "greatest", "(LFiddlePlates$House;[I)I"⟩
def RX2 : String := "FiddlePlates$House"
def TX2 : u_T := fun k => match k with
  | 0 => ("FiddlePlates$House", "taps", "[LFiddlePlates$Tap;", true)
  | 1 => ("FiddlePlates$House", "tapCount", "I", false)
  | 2 => ("FiddlePlates$House", "stiffness", "[I", true)
  | 3 => ("FiddlePlates$House", "weight", "[I", true)
  | 4 => ("FiddlePlates$House", "left", "I", false)
  | 5 => ("FiddlePlates$House", "heavy", "[I", true)
  | _ => ("FiddlePlates$House", "light", "[I", true)
def tyX2 : Nat → FieldType := fun k => match k with
  | 0 => .array (.object "FiddlePlates$Tap")
  | 1 => .int
  | 2 => .array .int
  | 3 => .array .int
  | 4 => .int
  | 5 => .array .int
  | _ => .array .int
abbrev wsX20 : List Cond := u_ws RX2 TX2 7
theorem nmX2 : ∀ a, a < 7 → ∀ b, b < 7 → a ≠ b → (TX2 a).2.1 ≠ (TX2 b).2.1 := by decide +kernel
theorem tyX2_ok : ∀ k, k < 7 → parseFieldDescriptor (TX2 k).2.2.1 = some (tyX2 k) := by decide +kernel
abbrev cX2_init : ByteArray := prog_4_method_1_code
def yX2_init : MethodName := ⟨RX2, "<init>", "()V"⟩
abbrev cX2_addTap : ByteArray := prog_4_method_2_code
def yX2_addTap : MethodName := ⟨RX2, "addTap", "([IIII)V"⟩
abbrev cX2_dropTap : ByteArray := prog_4_method_3_code
def yX2_dropTap : MethodName := ⟨RX2, "dropTap", "(I)V"⟩
abbrev cX2_sift : ByteArray := prog_4_method_4_code
def yX2_sift : MethodName := ⟨RX2, "sift", "()V"⟩
abbrev cX2_fitsAllTaps : ByteArray := prog_4_method_5_code
def yX2_fitsAllTaps : MethodName := ⟨RX2, "fitsAllTaps", "(II)Z"⟩
abbrev cX2_keep : ByteArray := prog_4_method_6_code
def yX2_keep : MethodName := ⟨RX2, "keep", "(II)V"⟩
abbrev cX2_dropInnerWoods : ByteArray := prog_4_method_7_code
def yX2_dropInnerWoods : MethodName := ⟨RX2, "dropInnerWoods", "()V"⟩
abbrev cX2_leastTone : ByteArray := prog_4_method_8_code
def yX2_leastTone : MethodName := ⟨RX2, "leastTone", "([I)I"⟩
abbrev cX2_greatestTone : ByteArray := prog_4_method_9_code
def yX2_greatestTone : MethodName := ⟨RX2, "greatestTone", "([I)I"⟩
abbrev cX2_toneOfLeft : ByteArray := prog_4_method_10_code
def yX2_toneOfLeft : MethodName := ⟨RX2, "toneOfLeft", "(I[I)I"⟩
abbrev cX2_farthest : ByteArray := prog_4_method_11_code
def yX2_farthest : MethodName := ⟨RX2, "farthest", "([I[I)I"⟩
def RX3 : String := "FiddlePlates$Planner"
def TX3 : u_T := fun k => match k with
  | 0 => ("FiddlePlates$Planner", "taken", "[I", true)
  | 1 => ("FiddlePlates$Planner", "room", "[I", true)
  | 2 => ("FiddlePlates$Planner", "end", "[I", true)
  | 3 => ("FiddlePlates$Planner", "shavings", "I", false)
  | _ => ("FiddlePlates$Planner", "plate", "I", false)
def tyX3 : Nat → FieldType := fun k => match k with
  | 0 => .array .int
  | 1 => .array .int
  | 2 => .array .int
  | 3 => .int
  | _ => .int
abbrev wsX30 : List Cond := u_ws RX3 TX3 5
theorem nmX3 : ∀ a, a < 5 → ∀ b, b < 5 → a ≠ b → (TX3 a).2.1 ≠ (TX3 b).2.1 := by decide +kernel
theorem tyX3_ok : ∀ k, k < 5 → parseFieldDescriptor (TX3 k).2.2.1 = some (tyX3 k) := by decide +kernel
abbrev cX3_init : ByteArray := prog_5_method_1_code
def yX3_init : MethodName := ⟨RX3, "<init>", "()V"⟩
abbrev cX3_forget : ByteArray := prog_5_method_2_code
def yX3_forget : MethodName := ⟨RX3, "forget", "()V"⟩
abbrev cX3_search : ByteArray := prog_5_method_3_code
def yX3_search : MethodName := ⟨RX3, "search", "([IILFiddlePlates$House;LFiddlePlates$Aims;)V"⟩
abbrev cX3_foundOf : ByteArray := prog_5_method_4_code
def yX3_foundOf : MethodName := ⟨RX3, "foundOf", "(I[ILFiddlePlates$House;LFiddlePlates$Aims;)Z"⟩
abbrev cX3_take : ByteArray := prog_5_method_5_code
def yX3_take : MethodName := ⟨RX3, "take", "([IIIII)V"⟩
abbrev cX3_stripOf : ByteArray := prog_5_method_6_code
def yX3_stripOf : MethodName := ⟨RX3, "stripOf", "(I)I"⟩
def RX4 : String := "FiddlePlates$Plate"
def TX4 : u_T := fun k => match k with
  | 0 => ("FiddlePlates$Plate", "strips", "[I", true)
  | 1 => ("FiddlePlates$Plate", "log", "[I", true)
  | _ => ("FiddlePlates$Plate", "logged", "I", false)
def tyX4 : Nat → FieldType := fun k => match k with
  | 0 => .array .int
  | 1 => .array .int
  | _ => .int
abbrev wsX40 : List Cond := u_ws RX4 TX4 3
theorem nmX4 : ∀ a, a < 3 → ∀ b, b < 3 → a ≠ b → (TX4 a).2.1 ≠ (TX4 b).2.1 := by decide +kernel
theorem tyX4_ok : ∀ k, k < 3 → parseFieldDescriptor (TX4 k).2.2.1 = some (tyX4 k) := by decide +kernel
abbrev cX4_init : ByteArray := prog_6_method_1_code
def yX4_init : MethodName := ⟨RX4, "<init>", "()V"⟩
abbrev cX4_lay : ByteArray := prog_6_method_2_code
def yX4_lay : MethodName := ⟨RX4, "lay", "(IIII)V"⟩
abbrev cX4_takeOff : ByteArray := prog_6_method_3_code
def yX4_takeOff : MethodName := ⟨RX4, "takeOff", "(I)V"⟩
abbrev cX4_takeOffAll : ByteArray := prog_6_method_4_code
def yX4_takeOffAll : MethodName := ⟨RX4, "takeOffAll", "([I)V"⟩
abbrev cX4_putBack : ByteArray := prog_6_method_5_code
def yX4_putBack : MethodName := ⟨RX4, "putBack", "()I"⟩
abbrev cX4_turn : ByteArray := prog_6_method_6_code
def yX4_turn : MethodName := ⟨RX4, "turn", "()V"⟩
def RX5 : String := "FiddlePlates$Signs"
def TX5 : u_T := fun k => match k with
  | _ => ("", "", "", false)
def tyX5 : Nat → FieldType := fun k => match k with
  | _ => .int
abbrev wsX50 : List Cond := u_ws RX5 TX5 0
theorem nmX5 : ∀ a, a < 0 → ∀ b, b < 0 → a ≠ b → (TX5 a).2.1 ≠ (TX5 b).2.1 := by decide +kernel
theorem tyX5_ok : ∀ k, k < 0 → parseFieldDescriptor (TX5 k).2.2.1 = some (tyX5 k) := by decide +kernel
abbrev cX5_bondAt : ByteArray := prog_7_method_2_code
def yX5_bondAt : MethodName := ⟨RX5, "bondAt", "([III)I"⟩
abbrev cX5_valuesBelow : ByteArray := prog_7_method_3_code
def yX5_valuesBelow : MethodName := ⟨RX5, "valuesBelow", "([III)I"⟩
abbrev cX5_wholeValue : ByteArray := prog_7_method_4_code
def yX5_wholeValue : MethodName := ⟨RX5, "wholeValue", "([III)I"⟩
abbrev cX5_fillWholeValues : ByteArray := prog_7_method_5_code
def yX5_fillWholeValues : MethodName := ⟨RX5, "fillWholeValues", "([I[II)V"⟩
abbrev cX5_byWeight : ByteArray := prog_7_method_6_code
def yX5_byWeight : MethodName := ⟨RX5, "byWeight", "(II)I"⟩
def RX6 : String := "FiddlePlates$Tap"
def TX6 : u_T := fun k => match k with
  | 0 => ("FiddlePlates$Tap", "values", "[I", true)
  | 1 => ("FiddlePlates$Tap", "low", "I", false)
  | _ => ("FiddlePlates$Tap", "high", "I", false)
def tyX6 : Nat → FieldType := fun k => match k with
  | 0 => .array .int
  | 1 => .int
  | _ => .int
abbrev wsX60 : List Cond := u_ws RX6 TX6 3
theorem nmX6 : ∀ a, a < 3 → ∀ b, b < 3 → a ≠ b → (TX6 a).2.1 ≠ (TX6 b).2.1 := by decide +kernel
theorem tyX6_ok : ∀ k, k < 3 → parseFieldDescriptor (TX6 k).2.2.1 = some (tyX6 k) := by decide +kernel
abbrev cX6_init : ByteArray := prog_8_method_1_code
def yX6_init : MethodName := ⟨RX6, "<init>", "()V"⟩
abbrev cX6_fits : ByteArray := prog_8_method_2_code
def yX6_fits : MethodName := ⟨RX6, "fits", "(II)Z"⟩
def RX7 : String := "FiddlePlates"
def TX7 : u_T := fun k => match k with
  | 0 => ("FiddlePlates", "plates", "[LFiddlePlates$Plate;", true)
  | 1 => ("FiddlePlates", "house", "LFiddlePlates$House;", true)
  | 2 => ("FiddlePlates", "aims", "LFiddlePlates$Aims;", true)
  | 3 => ("FiddlePlates", "planner", "LFiddlePlates$Planner;", true)
  | 4 => ("FiddlePlates", "heaps", "LFiddlePlates$Heaps;", true)
  | 5 => ("FiddlePlates", "valuesOfOne", "[I", true)
  | 6 => ("FiddlePlates", "valuesOfOther", "[I", true)
  | 7 => ("FiddlePlates", "plateCount", "I", false)
  | 8 => ("FiddlePlates", "leastThickness", "I", false)
  | _ => ("FiddlePlates", "offAtMost", "I", false)
def tyX7 : Nat → FieldType := fun k => match k with
  | 0 => .array (.object "FiddlePlates$Plate")
  | 1 => .object "FiddlePlates$House"
  | 2 => .object "FiddlePlates$Aims"
  | 3 => .object "FiddlePlates$Planner"
  | 4 => .object "FiddlePlates$Heaps"
  | 5 => .array .int
  | 6 => .array .int
  | 7 => .int
  | 8 => .int
  | _ => .int
abbrev wsX70 : List Cond := u_ws RX7 TX7 10
theorem nmX7 : ∀ a, a < 10 → ∀ b, b < 10 → a ≠ b → (TX7 a).2.1 ≠ (TX7 b).2.1 := by decide +kernel
theorem tyX7_ok : ∀ k, k < 10 → parseFieldDescriptor (TX7 k).2.2.1 = some (tyX7 k) := by decide +kernel
abbrev cX7_init : ByteArray := prog_1_method_1_code
def yX7_init : MethodName := ⟨RX7, "<init>", "()V"⟩
abbrev cX7_plate : ByteArray := prog_1_method_2_code
def yX7_plate : MethodName := ⟨RX7, "plate", "(IIII)I"⟩
abbrev cX7_thick : ByteArray := prog_1_method_3_code
def yX7_thick : MethodName := ⟨RX7, "thick", "(II)I"⟩
abbrev cX7_least : ByteArray := prog_1_method_4_code
def yX7_least : MethodName := ⟨RX7, "least", "(I)I"⟩
abbrev cX7_shave : ByteArray := prog_1_method_5_code
def yX7_shave : MethodName := ⟨RX7, "shave", "(II)I"⟩
abbrev cX7_undo : ByteArray := prog_1_method_6_code
def yX7_undo : MethodName := ⟨RX7, "undo", "(I)I"⟩
abbrev cX7_mirror : ByteArray := prog_1_method_7_code
def yX7_mirror : MethodName := ⟨RX7, "mirror", "(I)I"⟩
abbrev cX7_tone : ByteArray := prog_1_method_8_code
def yX7_tone : MethodName := ⟨RX7, "tone", "(IIII)I"⟩
abbrev cX7_below : ByteArray := prog_1_method_9_code
def yX7_below : MethodName := ⟨RX7, "below", "(IIII)I"⟩
abbrev cX7_bond : ByteArray := prog_1_method_10_code
def yX7_bond : MethodName := ⟨RX7, "bond", "(III)I"⟩
abbrev cX7_tap : ByteArray := prog_1_method_11_code
def yX7_tap : MethodName := ⟨RX7, "tap", "(IIII)I"⟩
abbrev cX7_untap : ByteArray := prog_1_method_12_code
def yX7_untap : MethodName := ⟨RX7, "untap", "(I)I"⟩
abbrev cX7_woods : ByteArray := prog_1_method_13_code
def yX7_woods : MethodName := ⟨RX7, "woods", "()I"⟩
abbrev cX7_wood : ByteArray := prog_1_method_14_code
def yX7_wood : MethodName := ⟨RX7, "wood", "(II)I"⟩
abbrev cX7_span : ByteArray := prog_1_method_15_code
def yX7_span : MethodName := ⟨RX7, "span", "(III)I"⟩
abbrev cX7_next : ByteArray := prog_1_method_16_code
def yX7_next : MethodName := ⟨RX7, "next", "(II)I"⟩
abbrev cX7_aim : ByteArray := prog_1_method_17_code
def yX7_aim : MethodName := ⟨RX7, "aim", "(III)I"⟩
abbrev cX7_aimless : ByteArray := prog_1_method_18_code
def yX7_aimless : MethodName := ⟨RX7, "aimless", "()I"⟩
abbrev cX7_plan : ByteArray := prog_1_method_19_code
def yX7_plan : MethodName := ⟨RX7, "plan", "(I)I"⟩
abbrev cX7_planned : ByteArray := prog_1_method_20_code
def yX7_planned : MethodName := ⟨RX7, "planned", "(II)I"⟩
abbrev cX7_carve : ByteArray := prog_1_method_21_code
def yX7_carve : MethodName := ⟨RX7, "carve", "(I)I"⟩
abbrev cX7_off : ByteArray := prog_1_method_22_code
def yX7_off : MethodName := ⟨RX7, "off", "(I)I"⟩
abbrev cX7_even : ByteArray := prog_1_method_23_code
def yX7_even : MethodName := ⟨RX7, "even", "(II)I"⟩
abbrev cX7_count : ByteArray := prog_1_method_24_code
def yX7_count : MethodName := ⟨RX7, "count", "(I)I"⟩
abbrev cX7_shavingsInLogs : ByteArray := prog_1_method_25_code
def yX7_shavingsInLogs : MethodName := ⟨RX7, "shavingsInLogs", "()I"⟩
abbrev cX7_makePlan : ByteArray := prog_1_method_26_code
def yX7_makePlan : MethodName := ⟨RX7, "makePlan", "(I)V"⟩
abbrev cX7_isPlate : ByteArray := prog_1_method_27_code
def yX7_isPlate : MethodName := ⟨RX7, "isPlate", "(I)Z"⟩
abbrev cX7_isStrip : ByteArray := prog_1_method_28_code
def yX7_isStrip : MethodName := ⟨RX7, "isStrip", "(I)Z"⟩
abbrev cX7_isTone : ByteArray := prog_1_method_29_code
def yX7_isTone : MethodName := ⟨RX7, "isTone", "(I)Z"⟩
abbrev cX7_isThickness : ByteArray := prog_1_method_30_code
def yX7_isThickness : MethodName := ⟨RX7, "isThickness", "(I)Z"⟩
abbrev cX7_isWood : ByteArray := prog_1_method_31_code
def yX7_isWood : MethodName := ⟨RX7, "isWood", "(II)Z"⟩
abbrev cX7_isNumber : ByteArray := prog_1_method_32_code
def yX7_isNumber : MethodName := ⟨RX7, "isNumber", "(I)Z"⟩
abbrev cX7_isSpan : ByteArray := prog_1_method_33_code
def yX7_isSpan : MethodName := ⟨RX7, "isSpan", "(II)Z"⟩
abbrev cX7_isOneOfTwo : ByteArray := prog_1_method_34_code
def yX7_isOneOfTwo : MethodName := ⟨RX7, "isOneOfTwo", "(I)Z"⟩
def RX8 : String := "FiddlePlatesModel"
def TX8 : u_T := fun k => match k with
  | 0 => ("FiddlePlatesModel", "plates", "I", false)
  | 1 => ("FiddlePlatesModel", "thick", "[I", true)
  | 2 => ("FiddlePlatesModel", "least", "I", false)
  | 3 => ("FiddlePlatesModel", "logged", "[I", true)
  | 4 => ("FiddlePlatesModel", "logs", "[I", true)
  | 5 => ("FiddlePlatesModel", "taps", "I", false)
  | 6 => ("FiddlePlatesModel", "tapThick", "[I", true)
  | 7 => ("FiddlePlatesModel", "tapTone", "[I", true)
  | 8 => ("FiddlePlatesModel", "tapLow", "[I", true)
  | 9 => ("FiddlePlatesModel", "tapHigh", "[I", true)
  | 10 => ("FiddlePlatesModel", "hasAim", "[Z", true)
  | 11 => ("FiddlePlatesModel", "aimFrom", "[I", true)
  | 12 => ("FiddlePlatesModel", "aimTo", "[I", true)
  | 13 => ("FiddlePlatesModel", "off", "I", false)
  | 14 => ("FiddlePlatesModel", "now", "[I", true)
  | 15 => ("FiddlePlatesModel", "left", "I", false)
  | 16 => ("FiddlePlatesModel", "woods", "[I", true)
  | 17 => ("FiddlePlatesModel", "heaps", "[I", true)
  | 18 => ("FiddlePlatesModel", "end", "[I", true)
  | _ => ("FiddlePlatesModel", "planned", "I", false)
def tyX8 : Nat → FieldType := fun k => match k with
  | 0 => .int
  | 1 => .array .int
  | 2 => .int
  | 3 => .array .int
  | 4 => .array .int
  | 5 => .int
  | 6 => .array .int
  | 7 => .array .int
  | 8 => .array .int
  | 9 => .array .int
  | 10 => .array .boolean
  | 11 => .array .int
  | 12 => .array .int
  | 13 => .int
  | 14 => .array .int
  | 15 => .int
  | 16 => .array .int
  | 17 => .array .int
  | 18 => .array .int
  | _ => .int
abbrev wsX80 : List Cond := u_ws RX8 TX8 20
theorem nmX8 : ∀ a, a < 20 → ∀ b, b < 20 → a ≠ b → (TX8 a).2.1 ≠ (TX8 b).2.1 := by decide +kernel
theorem tyX8_ok : ∀ k, k < 20 → parseFieldDescriptor (TX8 k).2.2.1 = some (tyX8 k) := by decide +kernel
abbrev cX8_init : ByteArray := prog_10_method_1_code
def yX8_init : MethodName := ⟨RX8, "<init>", "()V"⟩
abbrev cX8_in : ByteArray := prog_10_method_2_code
def yX8_in : MethodName := ⟨RX8, "in", "(III)Z"⟩
abbrev cX8_isThick : ByteArray := prog_10_method_3_code
def yX8_isThick : MethodName := ⟨RX8, "isThick", "(I)Z"⟩
abbrev cX8_isPlate : ByteArray := prog_10_method_4_code
def yX8_isPlate : MethodName := ⟨RX8, "isPlate", "(I)Z"⟩
abbrev cX8_isFour : ByteArray := prog_10_method_5_code
def yX8_isFour : MethodName := ⟨RX8, "isFour", "(I)Z"⟩
abbrev cX8_plate : ByteArray := prog_10_method_6_code
def yX8_plate : MethodName := ⟨RX8, "plate", "(IIII)I"⟩
abbrev cX8_thick : ByteArray := prog_10_method_7_code
def yX8_thick : MethodName := ⟨RX8, "thick", "(II)I"⟩
abbrev cX8_least : ByteArray := prog_10_method_8_code
def yX8_least : MethodName := ⟨RX8, "least", "(I)I"⟩
abbrev cX8_shaveOff : ByteArray := prog_10_method_9_code
def yX8_shaveOff : MethodName := ⟨RX8, "shaveOff", "(II)V"⟩
abbrev cX8_shave : ByteArray := prog_10_method_10_code
def yX8_shave : MethodName := ⟨RX8, "shave", "(II)I"⟩
abbrev cX8_undo : ByteArray := prog_10_method_11_code
def yX8_undo : MethodName := ⟨RX8, "undo", "(I)I"⟩
abbrev cX8_mirror : ByteArray := prog_10_method_12_code
def yX8_mirror : MethodName := ⟨RX8, "mirror", "(I)I"⟩
abbrev cX8_take : ByteArray := prog_10_method_13_code
def yX8_take : MethodName := ⟨RX8, "take", "([II)V"⟩
abbrev cX8_bondOf : ByteArray := prog_10_method_14_code
def yX8_bondOf : MethodName := ⟨RX8, "bondOf", "(II)J"⟩
abbrev cX8_belowOf : ByteArray := prog_10_method_15_code
def yX8_belowOf : MethodName := ⟨RX8, "belowOf", "(III)I"⟩
abbrev cX8_toneOf : ByteArray := prog_10_method_16_code
def yX8_toneOf : MethodName := ⟨RX8, "toneOf", "(III)I"⟩
abbrev cX8_isWood : ByteArray := prog_10_method_17_code
def yX8_isWood : MethodName := ⟨RX8, "isWood", "(II)Z"⟩
abbrev cX8_tone : ByteArray := prog_10_method_18_code
def yX8_tone : MethodName := ⟨RX8, "tone", "(IIII)I"⟩
abbrev cX8_below : ByteArray := prog_10_method_19_code
def yX8_below : MethodName := ⟨RX8, "below", "(IIII)I"⟩
abbrev cX8_bond : ByteArray := prog_10_method_20_code
def yX8_bond : MethodName := ⟨RX8, "bond", "(III)I"⟩
abbrev cX8_tap : ByteArray := prog_10_method_21_code
def yX8_tap : MethodName := ⟨RX8, "tap", "(IIII)I"⟩
abbrev cX8_untap : ByteArray := prog_10_method_22_code
def yX8_untap : MethodName := ⟨RX8, "untap", "(I)I"⟩
abbrev cX8_lies : ByteArray := prog_10_method_23_code
def yX8_lies : MethodName := ⟨RX8, "lies", "(IIIII)Z"⟩
abbrev cX8_findWoods : ByteArray := prog_10_method_24_code
def yX8_findWoods : MethodName := ⟨RX8, "findWoods", "()V"⟩
abbrev cX8_toneBy : ByteArray := prog_10_method_25_code
def yX8_toneBy : MethodName := ⟨RX8, "toneBy", "(II)I"⟩
abbrev cX8_woods : ByteArray := prog_10_method_26_code
def yX8_woods : MethodName := ⟨RX8, "woods", "()I"⟩
abbrev cX8_wood : ByteArray := prog_10_method_27_code
def yX8_wood : MethodName := ⟨RX8, "wood", "(II)I"⟩
abbrev cX8_span : ByteArray := prog_10_method_28_code
def yX8_span : MethodName := ⟨RX8, "span", "(III)I"⟩
abbrev cX8_greatestHeap : ByteArray := prog_10_method_29_code
def yX8_greatestHeap : MethodName := ⟨RX8, "greatestHeap", "(I)I"⟩
abbrev cX8_next : ByteArray := prog_10_method_30_code
def yX8_next : MethodName := ⟨RX8, "next", "(II)I"⟩
abbrev cX8_aim : ByteArray := prog_10_method_31_code
def yX8_aim : MethodName := ⟨RX8, "aim", "(III)I"⟩
abbrev cX8_aims : ByteArray := prog_10_method_32_code
def yX8_aims : MethodName := ⟨RX8, "aims", "()I"⟩
abbrev cX8_aimless : ByteArray := prog_10_method_33_code
def yX8_aimless : MethodName := ⟨RX8, "aimless", "()I"⟩
abbrev cX8_fits : ByteArray := prog_10_method_34_code
def yX8_fits : MethodName := ⟨RX8, "fits", "()Z"⟩
abbrev cX8_mayBe : ByteArray := prog_10_method_35_code
def yX8_mayBe : MethodName := ⟨RX8, "mayBe", "(III)Z"⟩
abbrev cX8_findPlan : ByteArray := prog_10_method_36_code
def yX8_findPlan : MethodName := ⟨RX8, "findPlan", "(I)V"⟩
abbrev cX8_plan : ByteArray := prog_10_method_37_code
def yX8_plan : MethodName := ⟨RX8, "plan", "(I)I"⟩
abbrev cX8_planned : ByteArray := prog_10_method_38_code
def yX8_planned : MethodName := ⟨RX8, "planned", "(II)I"⟩
abbrev cX8_carve : ByteArray := prog_10_method_39_code
def yX8_carve : MethodName := ⟨RX8, "carve", "(I)I"⟩
abbrev cX8_off : ByteArray := prog_10_method_40_code
def yX8_off : MethodName := ⟨RX8, "off", "(I)I"⟩
abbrev cX8_even : ByteArray := prog_10_method_41_code
def yX8_even : MethodName := ⟨RX8, "even", "(II)I"⟩
abbrev cX8_count : ByteArray := prog_10_method_42_code
def yX8_count : MethodName := ⟨RX8, "count", "(I)I"⟩
def RJ9 : String := "java/lang/Math"
def TJ9 : u_T := fun k => match k with
  | _ => ("", "", "", false)
def tyJ9 : Nat → FieldType := fun k => match k with
  | _ => .int
abbrev wsJ90 : List Cond := u_ws RJ9 TJ9 0
theorem nmJ9 : ∀ a, a < 0 → ∀ b, b < 0 → a ≠ b → (TJ9 a).2.1 ≠ (TJ9 b).2.1 := by decide +kernel
theorem tyJ9_ok : ∀ k, k < 0 → parseFieldDescriptor (TJ9 k).2.2.1 = some (tyJ9 k) := by decide +kernel
abbrev cJ9_abs_0f7a4 : ByteArray := prog_11_method_59_code
def yJ9_abs_0f7a4 : MethodName := ⟨RJ9, "abs", "(I)I"⟩
abbrev cJ9_max_7cf53 : ByteArray := prog_11_method_65_code
def yJ9_max_7cf53 : MethodName := ⟨RJ9, "max", "(II)I"⟩
abbrev cJ9_min_7cf53 : ByteArray := prog_11_method_69_code
def yJ9_min_7cf53 : MethodName := ⟨RJ9, "min", "(II)I"⟩
def RJ7 : String := "java/util/Arrays"
def TJ7 : u_T := fun k => match k with
  | _ => ("", "", "", false)
def tyJ7 : Nat → FieldType := fun k => match k with
  | _ => .int
abbrev wsJ70 : List Cond := u_ws RJ7 TJ7 0
theorem nmJ7 : ∀ a, a < 0 → ∀ b, b < 0 → a ≠ b → (TJ7 a).2.1 ≠ (TJ7 b).2.1 := by decide +kernel
theorem tyJ7_ok : ∀ k, k < 0 → parseFieldDescriptor (TJ7 k).2.2.1 = some (tyJ7 k) := by decide +kernel
abbrev cJ7_fill_53178 : ByteArray := prog_12_method_103_code
def yJ7_fill_53178 : MethodName := ⟨RJ7, "fill", "([II)V"⟩
def RL : String := "FiddlePlatesLaw"
abbrev cL_law : ByteArray := code
def yL_law : MethodName := ⟨RL, "law", "([I)Z"⟩
def wsX0_init : List Cond := .code yX0_init cX0_init 1 none :: ([.methodLink RX0 3 objectInit, .instanceMethod objectInit, .code objectInit ⟨#[0xb1]⟩ 1 none, .arrayClass .boolean, .fieldLink RX0 9 "FiddlePlates$Aims" "set" "[Z", .arrayClass .int, .fieldLink RX0 15 "FiddlePlates$Aims" "from" "[I", .fieldLink RX0 19 "FiddlePlates$Aims" "to" "[I"] ++ wsX00)
def wsX7_isTone : List Cond := .code yX7_isTone cX7_isTone 1 (some .boolean) :: ([])
def wsX0_put : List Cond := .code yX0_put cX0_put 4 none :: ([.fieldLink RX0 9 "FiddlePlates$Aims" "set" "[Z", .fieldLink RX0 15 "FiddlePlates$Aims" "from" "[I", .fieldLink RX0 19 "FiddlePlates$Aims" "to" "[I", .static yX7_isTone, .initialized RX7, .code yX7_isTone cX7_isTone 1 (some .boolean)] ++ wsX00)
def wsX0_clear : List Cond := .code yX0_clear cX0_clear 2 none :: ([.fieldLink RX0 9 "FiddlePlates$Aims" "set" "[Z"] ++ wsX00)
def wsX0_spans : List Cond := .code yX0_spans cX0_spans 3 (some .int) :: ([.fieldLink RX0 9 "FiddlePlates$Aims" "set" "[Z"] ++ wsX00)
def wsX5_bondAt : List Cond := .code yX5_bondAt cX5_bondAt 4 (some .int) :: ([])
def wsX5_valuesBelow : List Cond := .code yX5_valuesBelow cX5_valuesBelow 18 (some .int) :: ([.methodLink RX5 9 yX5_bondAt, .static yX5_bondAt, .initialized RX5, .code yX5_bondAt cX5_bondAt 4 (some .int)])
def wsX0_metBy : List Cond := .code yX0_metBy cX0_metBy 7 (some .boolean) :: ([.fieldLink RX0 9 "FiddlePlates$Aims" "set" "[Z", .fieldLink RX0 26 "FiddlePlates$House" "heavy" "[I", .fieldLink RX0 15 "FiddlePlates$Aims" "from" "[I", .fieldLink RX0 37 "FiddlePlates$House" "light" "[I", .fieldLink RX0 19 "FiddlePlates$Aims" "to" "[I", .methodLink RX0 31 yX5_valuesBelow, .static yX5_valuesBelow, .initialized RX5, .code yX5_valuesBelow cX5_valuesBelow 18 (some .int), .methodLink RX5 9 yX5_bondAt, .static yX5_bondAt, .code yX5_bondAt cX5_bondAt 4 (some .int)] ++ wsX00 ++ wsX20)
def wsX1_init : List Cond := .code yX1_init cX1_init 1 none :: ([.methodLink RX1 3 objectInit, .instanceMethod objectInit, .code objectInit ⟨#[0xb1]⟩ 1 none, .arrayClass .int, .fieldLink RX1 9 "FiddlePlates$Heaps" "sizes" "[I"] ++ wsX10)
def wsJ7_fill_53178 : List Cond := .code yJ7_fill_53178 cJ7_fill_53178 4 none :: ([])
def wsX5_byWeight : List Cond := .code yX5_byWeight cX5_byWeight 2 (some .int) :: ([])
def wsX2_toneOfLeft : List Cond := .code yX2_toneOfLeft cX2_toneOfLeft 3 (some .int) :: ([.fieldLink RX2 21 "FiddlePlates$House" "stiffness" "[I", .fieldLink RX2 25 "FiddlePlates$House" "weight" "[I", .methodLink RX2 73 yX5_byWeight, .static yX5_byWeight, .initialized RX5, .code yX5_byWeight cX5_byWeight 2 (some .int)] ++ wsX20)
def wsX1_greatest : List Cond := .code yX1_greatest cX1_greatest 6 (some .int) :: ([.fieldLink RX1 9 "FiddlePlates$Heaps" "sizes" "[I", .fieldLink RX1 21 "FiddlePlates$House" "left" "I", .methodLink RX1 31 Lib.Math.max.name, .static Lib.Math.max.name, .initialized "java/lang/Math", .code Lib.Math.max.name Lib.Math.max.code 2 (some .int), .methodLink RX1 15 yJ7_fill_53178, .static yJ7_fill_53178, .initialized RJ7, .code yJ7_fill_53178 cJ7_fill_53178 4 none, .methodLink RX1 27 yX2_toneOfLeft, .instanceMethod yX2_toneOfLeft, .selects RX2 yX2_toneOfLeft yX2_toneOfLeft, .initialized RX2, .code yX2_toneOfLeft cX2_toneOfLeft 3 (some .int), .fieldLink RX2 21 "FiddlePlates$House" "stiffness" "[I", .fieldLink RX2 25 "FiddlePlates$House" "weight" "[I", .methodLink RX2 73 yX5_byWeight, .static yX5_byWeight, .initialized RX5, .code yX5_byWeight cX5_byWeight 2 (some .int)] ++ wsX10 ++ wsX20)
def wsX6_init : List Cond := .code yX6_init cX6_init 1 none :: ([.methodLink RX6 3 objectInit, .instanceMethod objectInit, .code objectInit ⟨#[0xb1]⟩ 1 none, .arrayClass .int, .fieldLink RX6 9 "FiddlePlates$Tap" "values" "[I", .fieldLink RX6 15 "FiddlePlates$Tap" "low" "I", .fieldLink RX6 19 "FiddlePlates$Tap" "high" "I"] ++ wsX60)
def wsX6_fits : List Cond := .code yX6_fits cX6_fits 4 (some .boolean) :: ([.fieldLink RX6 9 "FiddlePlates$Tap" "values" "[I", .fieldLink RX6 15 "FiddlePlates$Tap" "low" "I", .fieldLink RX6 19 "FiddlePlates$Tap" "high" "I", .methodLink RX6 22 yX5_byWeight, .static yX5_byWeight, .initialized RX5, .code yX5_byWeight cX5_byWeight 2 (some .int)] ++ wsX60)
def wsX2_fitsAllTaps : List Cond := .code yX2_fitsAllTaps cX2_fitsAllTaps 4 (some .boolean) :: ([.fieldLink RX2 17 "FiddlePlates$House" "tapCount" "I", .fieldLink RX2 11 "FiddlePlates$House" "taps" "[LFiddlePlates$Tap;", .methodLink RX2 67 yX6_fits, .instanceMethod yX6_fits, .selects RX6 yX6_fits yX6_fits, .initialized RX6, .code yX6_fits cX6_fits 4 (some .boolean), .fieldLink RX6 9 "FiddlePlates$Tap" "values" "[I", .fieldLink RX6 15 "FiddlePlates$Tap" "low" "I", .fieldLink RX6 19 "FiddlePlates$Tap" "high" "I", .methodLink RX6 22 yX5_byWeight, .static yX5_byWeight, .initialized RX5, .code yX5_byWeight cX5_byWeight 2 (some .int)] ++ wsX20 ++ wsX60)
def wsX2_keep : List Cond := .code yX2_keep cX2_keep 3 none :: ([.fieldLink RX2 28 "FiddlePlates$House" "left" "I", .fieldLink RX2 21 "FiddlePlates$House" "stiffness" "[I", .fieldLink RX2 25 "FiddlePlates$House" "weight" "[I", .fieldLink RX2 31 "FiddlePlates$House" "heavy" "[I", .fieldLink RX2 34 "FiddlePlates$House" "light" "[I"] ++ wsX20)
def wsX2_dropInnerWoods : List Cond := .code yX2_dropInnerWoods cX2_dropInnerWoods 4 none :: ([.fieldLink RX2 31 "FiddlePlates$House" "heavy" "[I", .fieldLink RX2 34 "FiddlePlates$House" "light" "[I"] ++ wsX20)
def wsX2_sift_r1 : List Cond := [Cond.fieldLink RX2 28 "FiddlePlates$House" "left" "I", Cond.fieldLink RX2 31 "FiddlePlates$House" "heavy" "[I", Cond.fieldLink RX2 34 "FiddlePlates$House" "light" "[I", Cond.methodLink RX2 56 yX2_fitsAllTaps, Cond.instanceMethod yX2_fitsAllTaps, Cond.selects RX2 yX2_fitsAllTaps yX2_fitsAllTaps, Cond.initialized RX2, Cond.code yX2_fitsAllTaps cX2_fitsAllTaps 4 (some .boolean), Cond.fieldLink RX2 17 "FiddlePlates$House" "tapCount" "I", Cond.fieldLink RX2 11 "FiddlePlates$House" "taps" "[LFiddlePlates$Tap;", Cond.methodLink RX2 67 yX6_fits, Cond.instanceMethod yX6_fits, Cond.selects RX6 yX6_fits yX6_fits, Cond.initialized RX6, Cond.code yX6_fits cX6_fits 4 (some .boolean), Cond.fieldLink RX6 9 "FiddlePlates$Tap" "values" "[I", Cond.fieldLink RX6 15 "FiddlePlates$Tap" "low" "I", Cond.fieldLink RX6 19 "FiddlePlates$Tap" "high" "I", Cond.methodLink RX6 22 yX5_byWeight, Cond.static yX5_byWeight, Cond.initialized RX5, Cond.code yX5_byWeight cX5_byWeight 2 (some .int), Cond.methodLink RX2 60 yX2_keep, Cond.instanceMethod yX2_keep]
def wsX2_sift_r2 : List Cond := [Cond.selects RX2 yX2_keep yX2_keep, Cond.code yX2_keep cX2_keep 3 none, Cond.fieldLink RX2 21 "FiddlePlates$House" "stiffness" "[I", Cond.fieldLink RX2 25 "FiddlePlates$House" "weight" "[I", Cond.methodLink RX2 64 yX2_dropInnerWoods, Cond.instanceMethod yX2_dropInnerWoods, Cond.selects RX2 yX2_dropInnerWoods yX2_dropInnerWoods, Cond.code yX2_dropInnerWoods cX2_dropInnerWoods 4 none]
def wsX2_sift : List Cond := .code yX2_sift cX2_sift 3 none :: ((wsX2_sift_r1 ++ wsX2_sift_r2) ++ wsX20 ++ wsX60)
def wsX2_init_r1 : List Cond := [Cond.methodLink RX2 3 objectInit, Cond.instanceMethod objectInit, Cond.code objectInit ⟨#[0xb1]⟩ 1 none, Cond.classLink RX2 9 RX6, Cond.fieldLink RX2 11 "FiddlePlates$House" "taps" "[LFiddlePlates$Tap;", Cond.fieldLink RX2 17 "FiddlePlates$House" "tapCount" "I", Cond.arrayClass .int, Cond.fieldLink RX2 21 "FiddlePlates$House" "stiffness" "[I", Cond.fieldLink RX2 25 "FiddlePlates$House" "weight" "[I", Cond.fieldLink RX2 28 "FiddlePlates$House" "left" "I", Cond.fieldLink RX2 31 "FiddlePlates$House" "heavy" "[I", Cond.fieldLink RX2 34 "FiddlePlates$House" "light" "[I", Cond.instantiable RX6 3, Cond.initialized RX6, Cond.instanceMethod yX6_init, Cond.code yX6_init cX6_init 1 none, Cond.methodLink RX6 3 objectInit, Cond.fieldLink RX6 9 "FiddlePlates$Tap" "values" "[I", Cond.fieldLink RX6 15 "FiddlePlates$Tap" "low" "I", Cond.fieldLink RX6 19 "FiddlePlates$Tap" "high" "I", Cond.methodLink RX2 38 yX2_sift, Cond.instanceMethod yX2_sift, Cond.selects RX2 yX2_sift yX2_sift, Cond.initialized RX2]
def wsX2_init_r2 : List Cond := [Cond.code yX2_sift cX2_sift 3 none, Cond.methodLink RX2 56 yX2_fitsAllTaps, Cond.instanceMethod yX2_fitsAllTaps, Cond.selects RX2 yX2_fitsAllTaps yX2_fitsAllTaps, Cond.code yX2_fitsAllTaps cX2_fitsAllTaps 4 (some .boolean), Cond.methodLink RX2 67 yX6_fits, Cond.instanceMethod yX6_fits, Cond.selects RX6 yX6_fits yX6_fits, Cond.code yX6_fits cX6_fits 4 (some .boolean), Cond.methodLink RX6 22 yX5_byWeight, Cond.static yX5_byWeight, Cond.initialized RX5, Cond.code yX5_byWeight cX5_byWeight 2 (some .int), Cond.methodLink RX2 60 yX2_keep, Cond.instanceMethod yX2_keep, Cond.selects RX2 yX2_keep yX2_keep, Cond.code yX2_keep cX2_keep 3 none, Cond.methodLink RX2 64 yX2_dropInnerWoods, Cond.instanceMethod yX2_dropInnerWoods, Cond.selects RX2 yX2_dropInnerWoods yX2_dropInnerWoods, Cond.code yX2_dropInnerWoods cX2_dropInnerWoods 4 none]
def wsX2_init : List Cond := .code yX2_init cX2_init 2 none :: ((wsX2_init_r1 ++ wsX2_init_r2) ++ wsX20 ++ wsX60)
def wsX5_wholeValue : List Cond := .code yX5_wholeValue cX5_wholeValue 5 (some .int) :: ([.methodLink RX5 15 yX5_valuesBelow, .static yX5_valuesBelow, .initialized RX5, .code yX5_valuesBelow cX5_valuesBelow 18 (some .int), .methodLink RX5 9 yX5_bondAt, .static yX5_bondAt, .code yX5_bondAt cX5_bondAt 4 (some .int)])
def wsX5_fillWholeValues : List Cond := .code yX5_fillWholeValues cX5_fillWholeValues 4 none :: ([.methodLink RX5 18 yX5_wholeValue, .static yX5_wholeValue, .initialized RX5, .code yX5_wholeValue cX5_wholeValue 5 (some .int), .methodLink RX5 15 yX5_valuesBelow, .static yX5_valuesBelow, .code yX5_valuesBelow cX5_valuesBelow 18 (some .int), .methodLink RX5 9 yX5_bondAt, .static yX5_bondAt, .code yX5_bondAt cX5_bondAt 4 (some .int)])
def wsX2_addTap_r1 : List Cond := [Cond.fieldLink RX2 17 "FiddlePlates$House" "tapCount" "I", Cond.fieldLink RX2 11 "FiddlePlates$House" "taps" "[LFiddlePlates$Tap;", Cond.fieldLink RX2 41 "FiddlePlates$Tap" "values" "[I", Cond.fieldLink RX2 50 "FiddlePlates$Tap" "low" "I", Cond.fieldLink RX2 53 "FiddlePlates$Tap" "high" "I", Cond.methodLink RX2 44 yX5_fillWholeValues, Cond.static yX5_fillWholeValues, Cond.initialized RX5, Cond.code yX5_fillWholeValues cX5_fillWholeValues 4 none, Cond.methodLink RX5 18 yX5_wholeValue, Cond.static yX5_wholeValue, Cond.code yX5_wholeValue cX5_wholeValue 5 (some .int), Cond.methodLink RX5 15 yX5_valuesBelow, Cond.static yX5_valuesBelow, Cond.code yX5_valuesBelow cX5_valuesBelow 18 (some .int), Cond.methodLink RX5 9 yX5_bondAt, Cond.static yX5_bondAt, Cond.code yX5_bondAt cX5_bondAt 4 (some .int), Cond.methodLink RX2 38 yX2_sift, Cond.instanceMethod yX2_sift, Cond.selects RX2 yX2_sift yX2_sift, Cond.initialized RX2, Cond.code yX2_sift cX2_sift 3 none, Cond.fieldLink RX2 28 "FiddlePlates$House" "left" "I"]
def wsX2_addTap_r2 : List Cond := [Cond.fieldLink RX2 31 "FiddlePlates$House" "heavy" "[I", Cond.fieldLink RX2 34 "FiddlePlates$House" "light" "[I", Cond.methodLink RX2 56 yX2_fitsAllTaps, Cond.instanceMethod yX2_fitsAllTaps, Cond.selects RX2 yX2_fitsAllTaps yX2_fitsAllTaps, Cond.code yX2_fitsAllTaps cX2_fitsAllTaps 4 (some .boolean), Cond.methodLink RX2 67 yX6_fits, Cond.instanceMethod yX6_fits, Cond.selects RX6 yX6_fits yX6_fits, Cond.initialized RX6, Cond.code yX6_fits cX6_fits 4 (some .boolean), Cond.fieldLink RX6 9 "FiddlePlates$Tap" "values" "[I", Cond.fieldLink RX6 15 "FiddlePlates$Tap" "low" "I", Cond.fieldLink RX6 19 "FiddlePlates$Tap" "high" "I", Cond.methodLink RX6 22 yX5_byWeight, Cond.static yX5_byWeight, Cond.code yX5_byWeight cX5_byWeight 2 (some .int), Cond.methodLink RX2 60 yX2_keep, Cond.instanceMethod yX2_keep, Cond.selects RX2 yX2_keep yX2_keep, Cond.code yX2_keep cX2_keep 3 none, Cond.fieldLink RX2 21 "FiddlePlates$House" "stiffness" "[I", Cond.fieldLink RX2 25 "FiddlePlates$House" "weight" "[I", Cond.methodLink RX2 64 yX2_dropInnerWoods]
def wsX2_addTap_r3 : List Cond := [Cond.instanceMethod yX2_dropInnerWoods, Cond.selects RX2 yX2_dropInnerWoods yX2_dropInnerWoods, Cond.code yX2_dropInnerWoods cX2_dropInnerWoods 4 none]
def wsX2_addTap : List Cond := .code yX2_addTap cX2_addTap 6 none :: ((wsX2_addTap_r1 ++ (wsX2_addTap_r2 ++ wsX2_addTap_r3)) ++ wsX20 ++ wsX60)
def wsX2_dropTap_r1 : List Cond := [Cond.fieldLink RX2 17 "FiddlePlates$House" "tapCount" "I", Cond.fieldLink RX2 11 "FiddlePlates$House" "taps" "[LFiddlePlates$Tap;", Cond.methodLink RX2 38 yX2_sift, Cond.instanceMethod yX2_sift, Cond.selects RX2 yX2_sift yX2_sift, Cond.initialized RX2, Cond.code yX2_sift cX2_sift 3 none, Cond.fieldLink RX2 28 "FiddlePlates$House" "left" "I", Cond.fieldLink RX2 31 "FiddlePlates$House" "heavy" "[I", Cond.fieldLink RX2 34 "FiddlePlates$House" "light" "[I", Cond.methodLink RX2 56 yX2_fitsAllTaps, Cond.instanceMethod yX2_fitsAllTaps, Cond.selects RX2 yX2_fitsAllTaps yX2_fitsAllTaps, Cond.code yX2_fitsAllTaps cX2_fitsAllTaps 4 (some .boolean), Cond.methodLink RX2 67 yX6_fits, Cond.instanceMethod yX6_fits, Cond.selects RX6 yX6_fits yX6_fits, Cond.initialized RX6, Cond.code yX6_fits cX6_fits 4 (some .boolean), Cond.fieldLink RX6 9 "FiddlePlates$Tap" "values" "[I", Cond.fieldLink RX6 15 "FiddlePlates$Tap" "low" "I", Cond.fieldLink RX6 19 "FiddlePlates$Tap" "high" "I", Cond.methodLink RX6 22 yX5_byWeight, Cond.static yX5_byWeight]
def wsX2_dropTap_r2 : List Cond := [Cond.initialized RX5, Cond.code yX5_byWeight cX5_byWeight 2 (some .int), Cond.methodLink RX2 60 yX2_keep, Cond.instanceMethod yX2_keep, Cond.selects RX2 yX2_keep yX2_keep, Cond.code yX2_keep cX2_keep 3 none, Cond.fieldLink RX2 21 "FiddlePlates$House" "stiffness" "[I", Cond.fieldLink RX2 25 "FiddlePlates$House" "weight" "[I", Cond.methodLink RX2 64 yX2_dropInnerWoods, Cond.instanceMethod yX2_dropInnerWoods, Cond.selects RX2 yX2_dropInnerWoods yX2_dropInnerWoods, Cond.code yX2_dropInnerWoods cX2_dropInnerWoods 4 none]
def wsX2_dropTap : List Cond := .code yX2_dropTap cX2_dropTap 4 none :: ((wsX2_dropTap_r1 ++ wsX2_dropTap_r2) ++ wsX20 ++ wsX60)
def wsX2_leastTone : List Cond := .code yX2_leastTone cX2_leastTone 4 (some .int) :: ([.constant RX2 72 (2147483647), .fieldLink RX2 31 "FiddlePlates$House" "heavy" "[I", .methodLink RX2 77 Lib.Math.min.name, .static Lib.Math.min.name, .initialized "java/lang/Math", .code Lib.Math.min.name Lib.Math.min.code 2 (some .int), .methodLink RX2 73 yX5_byWeight, .static yX5_byWeight, .initialized RX5, .code yX5_byWeight cX5_byWeight 2 (some .int)] ++ wsX20)
def wsX2_greatestTone : List Cond := .code yX2_greatestTone cX2_greatestTone 4 (some .int) :: ([.fieldLink RX2 34 "FiddlePlates$House" "light" "[I", .methodLink RX2 82 Lib.Math.max.name, .static Lib.Math.max.name, .initialized "java/lang/Math", .code Lib.Math.max.name Lib.Math.max.code 2 (some .int), .methodLink RX2 73 yX5_byWeight, .static yX5_byWeight, .initialized RX5, .code yX5_byWeight cX5_byWeight 2 (some .int)] ++ wsX20)
def wsX2_farthest : List Cond := .code yX2_farthest cX2_farthest 6 (some .int) :: ([.fieldLink RX2 28 "FiddlePlates$House" "left" "I", .methodLink RX2 89 Lib.Math.abs.name, .static Lib.Math.abs.name, .initialized "java/lang/Math", .code Lib.Math.abs.name Lib.Math.abs.code 1 (some .int), .methodLink RX2 82 Lib.Math.max.name, .static Lib.Math.max.name, .code Lib.Math.max.name Lib.Math.max.code 2 (some .int), .methodLink RX2 85 yX2_toneOfLeft, .instanceMethod yX2_toneOfLeft, .selects RX2 yX2_toneOfLeft yX2_toneOfLeft, .initialized RX2, .code yX2_toneOfLeft cX2_toneOfLeft 3 (some .int), .fieldLink RX2 21 "FiddlePlates$House" "stiffness" "[I", .fieldLink RX2 25 "FiddlePlates$House" "weight" "[I", .methodLink RX2 73 yX5_byWeight, .static yX5_byWeight, .initialized RX5, .code yX5_byWeight cX5_byWeight 2 (some .int)] ++ wsX20)
def wsX3_init : List Cond := .code yX3_init cX3_init 1 none :: ([.methodLink RX3 3 objectInit, .instanceMethod objectInit, .code objectInit ⟨#[0xb1]⟩ 1 none, .arrayClass .int, .fieldLink RX3 9 "FiddlePlates$Planner" "taken" "[I", .fieldLink RX3 15 "FiddlePlates$Planner" "room" "[I", .fieldLink RX3 18 "FiddlePlates$Planner" "end" "[I", .fieldLink RX3 21 "FiddlePlates$Planner" "shavings" "I", .fieldLink RX3 25 "FiddlePlates$Planner" "plate" "I"] ++ wsX30)
def wsX3_forget : List Cond := .code yX3_forget cX3_forget 1 none :: ([.fieldLink RX3 25 "FiddlePlates$Planner" "plate" "I"] ++ wsX30)
def wsX3_take : List Cond := .code yX3_take cX3_take 7 none :: ([.fieldLink RX3 9 "FiddlePlates$Planner" "taken" "[I", .fieldLink RX3 18 "FiddlePlates$Planner" "end" "[I"] ++ wsX30)
def wsX3_foundOf_r1 : List Cond := [Cond.fieldLink RX3 15 "FiddlePlates$Planner" "room" "[I", Cond.methodLink RX3 38 Lib.Math.min.name, Cond.static Lib.Math.min.name, Cond.initialized "java/lang/Math", Cond.code Lib.Math.min.name Lib.Math.min.code 2 (some .int), Cond.methodLink RX3 28 Lib.Math.max.name, Cond.static Lib.Math.max.name, Cond.code Lib.Math.max.name Lib.Math.max.code 2 (some .int), Cond.fieldLink RX3 18 "FiddlePlates$Planner" "end" "[I", Cond.methodLink RX3 41 yX3_take, Cond.instanceMethod yX3_take, Cond.selects RX3 yX3_take yX3_take, Cond.initialized RX3, Cond.code yX3_take cX3_take 7 none, Cond.fieldLink RX3 9 "FiddlePlates$Planner" "taken" "[I", Cond.methodLink RX3 45 yX0_metBy, Cond.instanceMethod yX0_metBy, Cond.selects RX0 yX0_metBy yX0_metBy, Cond.initialized RX0, Cond.code yX0_metBy cX0_metBy 7 (some .boolean), Cond.fieldLink RX0 9 "FiddlePlates$Aims" "set" "[Z", Cond.fieldLink RX0 26 "FiddlePlates$House" "heavy" "[I", Cond.fieldLink RX0 15 "FiddlePlates$Aims" "from" "[I", Cond.fieldLink RX0 37 "FiddlePlates$House" "light" "[I"]
def wsX3_foundOf_r2 : List Cond := [Cond.fieldLink RX0 19 "FiddlePlates$Aims" "to" "[I", Cond.methodLink RX0 31 yX5_valuesBelow, Cond.static yX5_valuesBelow, Cond.initialized RX5, Cond.code yX5_valuesBelow cX5_valuesBelow 18 (some .int), Cond.methodLink RX5 9 yX5_bondAt, Cond.static yX5_bondAt, Cond.code yX5_bondAt cX5_bondAt 4 (some .int)]
def wsX3_foundOf : List Cond := .code yX3_foundOf cX3_foundOf 9 (some .boolean) :: ((wsX3_foundOf_r1 ++ wsX3_foundOf_r2) ++ wsX30 ++ wsX00 ++ wsX20)
def wsX3_search_r1 : List Cond := [Cond.fieldLink RX3 15 "FiddlePlates$Planner" "room" "[I", Cond.methodLink RX3 28 Lib.Math.max.name, Cond.static Lib.Math.max.name, Cond.initialized "java/lang/Math", Cond.code Lib.Math.max.name Lib.Math.max.code 2 (some .int), Cond.fieldLink RX3 21 "FiddlePlates$Planner" "shavings" "I", Cond.methodLink RX3 34 yX3_foundOf, Cond.instanceMethod yX3_foundOf, Cond.selects RX3 yX3_foundOf yX3_foundOf, Cond.initialized RX3, Cond.code yX3_foundOf cX3_foundOf 9 (some .boolean), Cond.methodLink RX3 38 Lib.Math.min.name, Cond.static Lib.Math.min.name, Cond.code Lib.Math.min.name Lib.Math.min.code 2 (some .int), Cond.fieldLink RX3 18 "FiddlePlates$Planner" "end" "[I", Cond.methodLink RX3 41 yX3_take, Cond.instanceMethod yX3_take, Cond.selects RX3 yX3_take yX3_take, Cond.code yX3_take cX3_take 7 none, Cond.fieldLink RX3 9 "FiddlePlates$Planner" "taken" "[I", Cond.methodLink RX3 45 yX0_metBy, Cond.instanceMethod yX0_metBy, Cond.selects RX0 yX0_metBy yX0_metBy, Cond.initialized RX0]
def wsX3_search_r2 : List Cond := [Cond.code yX0_metBy cX0_metBy 7 (some .boolean), Cond.fieldLink RX0 9 "FiddlePlates$Aims" "set" "[Z", Cond.fieldLink RX0 26 "FiddlePlates$House" "heavy" "[I", Cond.fieldLink RX0 15 "FiddlePlates$Aims" "from" "[I", Cond.fieldLink RX0 37 "FiddlePlates$House" "light" "[I", Cond.fieldLink RX0 19 "FiddlePlates$Aims" "to" "[I", Cond.methodLink RX0 31 yX5_valuesBelow, Cond.static yX5_valuesBelow, Cond.initialized RX5, Cond.code yX5_valuesBelow cX5_valuesBelow 18 (some .int), Cond.methodLink RX5 9 yX5_bondAt, Cond.static yX5_bondAt, Cond.code yX5_bondAt cX5_bondAt 4 (some .int)]
def wsX3_search : List Cond := .code yX3_search cX3_search 7 none :: ((wsX3_search_r1 ++ wsX3_search_r2) ++ wsX30 ++ wsX00 ++ wsX20)
def wsX3_stripOf : List Cond := .code yX3_stripOf cX3_stripOf 4 (some .int) :: ([.fieldLink RX3 21 "FiddlePlates$Planner" "shavings" "I", .fieldLink RX3 9 "FiddlePlates$Planner" "taken" "[I"] ++ wsX30)
def wsX4_init : List Cond := .code yX4_init cX4_init 1 none :: ([.methodLink RX4 3 objectInit, .instanceMethod objectInit, .code objectInit ⟨#[0xb1]⟩ 1 none, .arrayClass .int, .fieldLink RX4 9 "FiddlePlates$Plate" "strips" "[I", .fieldLink RX4 15 "FiddlePlates$Plate" "log" "[I", .fieldLink RX4 18 "FiddlePlates$Plate" "logged" "I"] ++ wsX40)
def wsX4_lay : List Cond := .code yX4_lay cX4_lay 5 none :: ([.fieldLink RX4 9 "FiddlePlates$Plate" "strips" "[I"] ++ wsX40)
def wsX7_isStrip : List Cond := .code yX7_isStrip cX7_isStrip 1 (some .boolean) :: ([])
def wsX4_takeOff : List Cond := .code yX4_takeOff cX4_takeOff 2 none :: ([.fieldLink RX4 18 "FiddlePlates$Plate" "logged" "I", .fieldLink RX4 9 "FiddlePlates$Plate" "strips" "[I", .fieldLink RX4 15 "FiddlePlates$Plate" "log" "[I", .static yX7_isStrip, .initialized RX7, .code yX7_isStrip cX7_isStrip 1 (some .boolean)] ++ wsX40)
def wsX4_takeOffAll : List Cond := .code yX4_takeOffAll cX4_takeOffAll 4 none :: ([.methodLink RX4 26 yX4_takeOff, .instanceMethod yX4_takeOff, .selects RX4 yX4_takeOff yX4_takeOff, .initialized RX4, .code yX4_takeOff cX4_takeOff 2 none, .fieldLink RX4 18 "FiddlePlates$Plate" "logged" "I", .fieldLink RX4 9 "FiddlePlates$Plate" "strips" "[I", .fieldLink RX4 15 "FiddlePlates$Plate" "log" "[I", .static yX7_isStrip, .initialized RX7, .code yX7_isStrip cX7_isStrip 1 (some .boolean)] ++ wsX40)
def wsX4_putBack : List Cond := .code yX4_putBack cX4_putBack 2 (some .int) :: ([.fieldLink RX4 18 "FiddlePlates$Plate" "logged" "I", .fieldLink RX4 15 "FiddlePlates$Plate" "log" "[I", .fieldLink RX4 9 "FiddlePlates$Plate" "strips" "[I"] ++ wsX40)
def wsX4_turn : List Cond := .code yX4_turn cX4_turn 1 none :: ([.fieldLink RX4 9 "FiddlePlates$Plate" "strips" "[I", .fieldLink RX4 18 "FiddlePlates$Plate" "logged" "I", .methodLink RX4 30 yX4_lay, .instanceMethod yX4_lay, .selects RX4 yX4_lay yX4_lay, .initialized RX4, .code yX4_lay cX4_lay 5 none] ++ wsX40)
def wsX7_init_r1 : List Cond := [Cond.methodLink RX7 1 objectInit, Cond.instanceMethod objectInit, Cond.code objectInit ⟨#[0xb1]⟩ 1 none, Cond.classLink RX7 9 RX4, Cond.fieldLink RX7 11 "FiddlePlates" "plates" "[LFiddlePlates$Plate;", Cond.classLink RX7 15 RX2, Cond.instantiable RX2 7, Cond.initialized RX2, Cond.fieldLink RX7 18 "FiddlePlates" "house" "LFiddlePlates$House;", Cond.classLink RX7 22 RX0, Cond.instantiable RX0 3, Cond.initialized RX0, Cond.fieldLink RX7 25 "FiddlePlates" "aims" "LFiddlePlates$Aims;", Cond.classLink RX7 29 RX3, Cond.instantiable RX3 5, Cond.initialized RX3, Cond.fieldLink RX7 32 "FiddlePlates" "planner" "LFiddlePlates$Planner;", Cond.classLink RX7 36 RX1, Cond.instantiable RX1 1, Cond.initialized RX1, Cond.fieldLink RX7 39 "FiddlePlates" "heaps" "LFiddlePlates$Heaps;", Cond.arrayClass .int, Cond.fieldLink RX7 43 "FiddlePlates" "valuesOfOne" "[I", Cond.fieldLink RX7 47 "FiddlePlates" "valuesOfOther" "[I"]
def wsX7_init_r2 : List Cond := [Cond.fieldLink RX7 50 "FiddlePlates" "plateCount" "I", Cond.fieldLink RX7 54 "FiddlePlates" "leastThickness" "I", Cond.fieldLink RX7 57 "FiddlePlates" "offAtMost" "I", Cond.instantiable RX4 3, Cond.initialized RX4, Cond.methodLink RX7 17 yX2_init, Cond.instanceMethod yX2_init, Cond.code yX2_init cX2_init 2 none, Cond.methodLink RX2 3 objectInit, Cond.classLink RX2 9 RX6, Cond.fieldLink RX2 11 "FiddlePlates$House" "taps" "[LFiddlePlates$Tap;", Cond.fieldLink RX2 17 "FiddlePlates$House" "tapCount" "I", Cond.fieldLink RX2 21 "FiddlePlates$House" "stiffness" "[I", Cond.fieldLink RX2 25 "FiddlePlates$House" "weight" "[I", Cond.fieldLink RX2 28 "FiddlePlates$House" "left" "I", Cond.fieldLink RX2 31 "FiddlePlates$House" "heavy" "[I", Cond.fieldLink RX2 34 "FiddlePlates$House" "light" "[I", Cond.instantiable RX6 3, Cond.initialized RX6, Cond.instanceMethod yX6_init, Cond.code yX6_init cX6_init 1 none, Cond.methodLink RX6 3 objectInit, Cond.fieldLink RX6 9 "FiddlePlates$Tap" "values" "[I", Cond.fieldLink RX6 15 "FiddlePlates$Tap" "low" "I"]
def wsX7_init_r3 : List Cond := [Cond.fieldLink RX6 19 "FiddlePlates$Tap" "high" "I", Cond.methodLink RX2 38 yX2_sift, Cond.instanceMethod yX2_sift, Cond.selects RX2 yX2_sift yX2_sift, Cond.code yX2_sift cX2_sift 3 none, Cond.methodLink RX2 56 yX2_fitsAllTaps, Cond.instanceMethod yX2_fitsAllTaps, Cond.selects RX2 yX2_fitsAllTaps yX2_fitsAllTaps, Cond.code yX2_fitsAllTaps cX2_fitsAllTaps 4 (some .boolean), Cond.methodLink RX2 67 yX6_fits, Cond.instanceMethod yX6_fits, Cond.selects RX6 yX6_fits yX6_fits, Cond.code yX6_fits cX6_fits 4 (some .boolean), Cond.methodLink RX6 22 yX5_byWeight, Cond.static yX5_byWeight, Cond.initialized RX5, Cond.code yX5_byWeight cX5_byWeight 2 (some .int), Cond.methodLink RX2 60 yX2_keep, Cond.instanceMethod yX2_keep, Cond.selects RX2 yX2_keep yX2_keep, Cond.code yX2_keep cX2_keep 3 none, Cond.methodLink RX2 64 yX2_dropInnerWoods, Cond.instanceMethod yX2_dropInnerWoods, Cond.selects RX2 yX2_dropInnerWoods yX2_dropInnerWoods]
def wsX7_init_r4 : List Cond := [Cond.code yX2_dropInnerWoods cX2_dropInnerWoods 4 none, Cond.instanceMethod yX0_init, Cond.code yX0_init cX0_init 1 none, Cond.methodLink RX0 3 objectInit, Cond.arrayClass .boolean, Cond.fieldLink RX0 9 "FiddlePlates$Aims" "set" "[Z", Cond.fieldLink RX0 15 "FiddlePlates$Aims" "from" "[I", Cond.fieldLink RX0 19 "FiddlePlates$Aims" "to" "[I", Cond.instanceMethod yX3_init, Cond.code yX3_init cX3_init 1 none, Cond.methodLink RX3 3 objectInit, Cond.fieldLink RX3 9 "FiddlePlates$Planner" "taken" "[I", Cond.fieldLink RX3 15 "FiddlePlates$Planner" "room" "[I", Cond.fieldLink RX3 18 "FiddlePlates$Planner" "end" "[I", Cond.fieldLink RX3 21 "FiddlePlates$Planner" "shavings" "I", Cond.fieldLink RX3 25 "FiddlePlates$Planner" "plate" "I", Cond.instanceMethod yX1_init, Cond.code yX1_init cX1_init 1 none, Cond.methodLink RX1 3 objectInit, Cond.fieldLink RX1 9 "FiddlePlates$Heaps" "sizes" "[I", Cond.instanceMethod yX4_init, Cond.code yX4_init cX4_init 1 none, Cond.methodLink RX4 3 objectInit, Cond.fieldLink RX4 9 "FiddlePlates$Plate" "strips" "[I"]
def wsX7_init_r5 : List Cond := [Cond.fieldLink RX4 15 "FiddlePlates$Plate" "log" "[I", Cond.fieldLink RX4 18 "FiddlePlates$Plate" "logged" "I"]
def wsX7_init : List Cond := .code yX7_init cX7_init 2 none :: ((wsX7_init_r1 ++ (wsX7_init_r2 ++ (wsX7_init_r3 ++ (wsX7_init_r4 ++ wsX7_init_r5)))) ++ wsX70 ++ wsX20 ++ wsX00 ++ wsX30 ++ wsX10 ++ wsX40 ++ wsX60)
def wsX7_isThickness : List Cond := .code yX7_isThickness cX7_isThickness 1 (some .boolean) :: ([])
def wsX7_plate : List Cond := .code yX7_plate cX7_plate 5 (some .int) :: ([.fieldLink RX7 50 "FiddlePlates" "plateCount" "I", .fieldLink RX7 11 "FiddlePlates" "plates" "[LFiddlePlates$Plate;", .methodLink RX7 61 yX7_isThickness, .static yX7_isThickness, .initialized RX7, .code yX7_isThickness cX7_isThickness 1 (some .boolean), .methodLink RX7 65 yX4_lay, .instanceMethod yX4_lay, .selects RX4 yX4_lay yX4_lay, .initialized RX4, .code yX4_lay cX4_lay 5 none, .fieldLink RX4 9 "FiddlePlates$Plate" "strips" "[I"] ++ wsX70 ++ wsX40)
def wsX7_isPlate : List Cond := .code yX7_isPlate cX7_isPlate 2 (some .boolean) :: ([.fieldLink RX7 50 "FiddlePlates" "plateCount" "I"] ++ wsX70)
def wsX7_thick : List Cond := .code yX7_thick cX7_thick 3 (some .int) :: ([.fieldLink RX7 11 "FiddlePlates" "plates" "[LFiddlePlates$Plate;", .fieldLink RX7 75 "FiddlePlates$Plate" "strips" "[I", .methodLink RX7 69 yX7_isPlate, .instanceMethod yX7_isPlate, .selects RX7 yX7_isPlate yX7_isPlate, .initialized RX7, .code yX7_isPlate cX7_isPlate 2 (some .boolean), .fieldLink RX7 50 "FiddlePlates" "plateCount" "I", .methodLink RX7 72 yX7_isStrip, .static yX7_isStrip, .code yX7_isStrip cX7_isStrip 1 (some .boolean)] ++ wsX70 ++ wsX40)
def wsX7_least : List Cond := .code yX7_least cX7_least 3 (some .int) :: ([.fieldLink RX7 54 "FiddlePlates" "leastThickness" "I", .fieldLink RX7 32 "FiddlePlates" "planner" "LFiddlePlates$Planner;", .methodLink RX7 61 yX7_isThickness, .static yX7_isThickness, .initialized RX7, .code yX7_isThickness cX7_isThickness 1 (some .boolean), .methodLink RX7 78 yX3_forget, .instanceMethod yX3_forget, .selects RX3 yX3_forget yX3_forget, .initialized RX3, .code yX3_forget cX3_forget 1 none, .fieldLink RX3 25 "FiddlePlates$Planner" "plate" "I"] ++ wsX70 ++ wsX30)
def wsX7_shave_r1 : List Cond := [Cond.fieldLink RX7 11 "FiddlePlates" "plates" "[LFiddlePlates$Plate;", Cond.fieldLink RX7 75 "FiddlePlates$Plate" "strips" "[I", Cond.fieldLink RX7 54 "FiddlePlates" "leastThickness" "I", Cond.fieldLink RX7 81 "FiddlePlates$Plate" "logged" "I", Cond.fieldLink RX7 32 "FiddlePlates" "planner" "LFiddlePlates$Planner;", Cond.methodLink RX7 69 yX7_isPlate, Cond.instanceMethod yX7_isPlate, Cond.selects RX7 yX7_isPlate yX7_isPlate, Cond.initialized RX7, Cond.code yX7_isPlate cX7_isPlate 2 (some .boolean), Cond.fieldLink RX7 50 "FiddlePlates" "plateCount" "I", Cond.methodLink RX7 72 yX7_isStrip, Cond.static yX7_isStrip, Cond.code yX7_isStrip cX7_isStrip 1 (some .boolean), Cond.methodLink RX7 84 yX4_takeOff, Cond.instanceMethod yX4_takeOff, Cond.selects RX4 yX4_takeOff yX4_takeOff, Cond.initialized RX4, Cond.code yX4_takeOff cX4_takeOff 2 none, Cond.fieldLink RX4 18 "FiddlePlates$Plate" "logged" "I", Cond.fieldLink RX4 9 "FiddlePlates$Plate" "strips" "[I", Cond.fieldLink RX4 15 "FiddlePlates$Plate" "log" "[I", Cond.methodLink RX7 78 yX3_forget, Cond.instanceMethod yX3_forget]
def wsX7_shave_r2 : List Cond := [Cond.selects RX3 yX3_forget yX3_forget, Cond.initialized RX3, Cond.code yX3_forget cX3_forget 1 none, Cond.fieldLink RX3 25 "FiddlePlates$Planner" "plate" "I"]
def wsX7_shave : List Cond := .code yX7_shave cX7_shave 4 (some .int) :: ((wsX7_shave_r1 ++ wsX7_shave_r2) ++ wsX70 ++ wsX40 ++ wsX30)
def wsX7_undo : List Cond := .code yX7_undo cX7_undo 2 (some .int) :: ([.fieldLink RX7 11 "FiddlePlates" "plates" "[LFiddlePlates$Plate;", .fieldLink RX7 81 "FiddlePlates$Plate" "logged" "I", .fieldLink RX7 32 "FiddlePlates" "planner" "LFiddlePlates$Planner;", .methodLink RX7 69 yX7_isPlate, .instanceMethod yX7_isPlate, .selects RX7 yX7_isPlate yX7_isPlate, .initialized RX7, .code yX7_isPlate cX7_isPlate 2 (some .boolean), .fieldLink RX7 50 "FiddlePlates" "plateCount" "I", .methodLink RX7 78 yX3_forget, .instanceMethod yX3_forget, .selects RX3 yX3_forget yX3_forget, .initialized RX3, .code yX3_forget cX3_forget 1 none, .fieldLink RX3 25 "FiddlePlates$Planner" "plate" "I", .methodLink RX7 88 yX4_putBack, .instanceMethod yX4_putBack, .selects RX4 yX4_putBack yX4_putBack, .initialized RX4, .code yX4_putBack cX4_putBack 2 (some .int), .fieldLink RX4 18 "FiddlePlates$Plate" "logged" "I", .fieldLink RX4 15 "FiddlePlates$Plate" "log" "[I", .fieldLink RX4 9 "FiddlePlates$Plate" "strips" "[I"] ++ wsX70 ++ wsX40 ++ wsX30)
def wsX7_mirror_r1 : List Cond := [Cond.fieldLink RX7 11 "FiddlePlates" "plates" "[LFiddlePlates$Plate;", Cond.fieldLink RX7 32 "FiddlePlates" "planner" "LFiddlePlates$Planner;", Cond.methodLink RX7 69 yX7_isPlate, Cond.instanceMethod yX7_isPlate, Cond.selects RX7 yX7_isPlate yX7_isPlate, Cond.initialized RX7, Cond.code yX7_isPlate cX7_isPlate 2 (some .boolean), Cond.fieldLink RX7 50 "FiddlePlates" "plateCount" "I", Cond.methodLink RX7 92 yX4_turn, Cond.instanceMethod yX4_turn, Cond.selects RX4 yX4_turn yX4_turn, Cond.initialized RX4, Cond.code yX4_turn cX4_turn 1 none, Cond.fieldLink RX4 9 "FiddlePlates$Plate" "strips" "[I", Cond.fieldLink RX4 18 "FiddlePlates$Plate" "logged" "I", Cond.methodLink RX4 30 yX4_lay, Cond.instanceMethod yX4_lay, Cond.selects RX4 yX4_lay yX4_lay, Cond.code yX4_lay cX4_lay 5 none, Cond.methodLink RX7 78 yX3_forget, Cond.instanceMethod yX3_forget, Cond.selects RX3 yX3_forget yX3_forget, Cond.initialized RX3, Cond.code yX3_forget cX3_forget 1 none]
def wsX7_mirror_r2 : List Cond := [Cond.fieldLink RX3 25 "FiddlePlates$Planner" "plate" "I"]
def wsX7_mirror : List Cond := .code yX7_mirror cX7_mirror 2 (some .int) :: ((wsX7_mirror_r1 ++ wsX7_mirror_r2) ++ wsX70 ++ wsX40 ++ wsX30)
def wsX7_isWood : List Cond := .code yX7_isWood cX7_isWood 2 (some .boolean) :: ([])
def wsX7_tone_r1 : List Cond := [Cond.fieldLink RX7 11 "FiddlePlates" "plates" "[LFiddlePlates$Plate;", Cond.fieldLink RX7 75 "FiddlePlates$Plate" "strips" "[I", Cond.methodLink RX7 69 yX7_isPlate, Cond.instanceMethod yX7_isPlate, Cond.selects RX7 yX7_isPlate yX7_isPlate, Cond.initialized RX7, Cond.code yX7_isPlate cX7_isPlate 2 (some .boolean), Cond.fieldLink RX7 50 "FiddlePlates" "plateCount" "I", Cond.methodLink RX7 95 yX7_isWood, Cond.static yX7_isWood, Cond.code yX7_isWood cX7_isWood 2 (some .boolean), Cond.methodLink RX7 99 yX7_isTone, Cond.static yX7_isTone, Cond.code yX7_isTone cX7_isTone 1 (some .boolean), Cond.methodLink RX7 102 yX5_wholeValue, Cond.static yX5_wholeValue, Cond.initialized RX5, Cond.code yX5_wholeValue cX5_wholeValue 5 (some .int), Cond.methodLink RX5 15 yX5_valuesBelow, Cond.static yX5_valuesBelow, Cond.code yX5_valuesBelow cX5_valuesBelow 18 (some .int), Cond.methodLink RX5 9 yX5_bondAt, Cond.static yX5_bondAt, Cond.code yX5_bondAt cX5_bondAt 4 (some .int)]
def wsX7_tone_r2 : List Cond := [Cond.methodLink RX7 108 yX5_byWeight, Cond.static yX5_byWeight, Cond.code yX5_byWeight cX5_byWeight 2 (some .int)]
def wsX7_tone : List Cond := .code yX7_tone cX7_tone 5 (some .int) :: ((wsX7_tone_r1 ++ wsX7_tone_r2) ++ wsX70 ++ wsX40)
def wsX7_isNumber : List Cond := .code yX7_isNumber cX7_isNumber 1 (some .boolean) :: ([])
def wsX7_below : List Cond := .code yX7_below cX7_below 5 (some .int) :: ([.fieldLink RX7 11 "FiddlePlates" "plates" "[LFiddlePlates$Plate;", .fieldLink RX7 75 "FiddlePlates$Plate" "strips" "[I", .methodLink RX7 69 yX7_isPlate, .instanceMethod yX7_isPlate, .selects RX7 yX7_isPlate yX7_isPlate, .initialized RX7, .code yX7_isPlate cX7_isPlate 2 (some .boolean), .fieldLink RX7 50 "FiddlePlates" "plateCount" "I", .methodLink RX7 95 yX7_isWood, .static yX7_isWood, .code yX7_isWood cX7_isWood 2 (some .boolean), .methodLink RX7 112 yX7_isNumber, .static yX7_isNumber, .code yX7_isNumber cX7_isNumber 1 (some .boolean), .methodLink RX7 115 yX5_valuesBelow, .static yX5_valuesBelow, .initialized RX5, .code yX5_valuesBelow cX5_valuesBelow 18 (some .int), .methodLink RX5 9 yX5_bondAt, .static yX5_bondAt, .code yX5_bondAt cX5_bondAt 4 (some .int)] ++ wsX70 ++ wsX40)
def wsX7_bond : List Cond := .code yX7_bond cX7_bond 4 (some .int) :: ([.fieldLink RX7 11 "FiddlePlates" "plates" "[LFiddlePlates$Plate;", .fieldLink RX7 75 "FiddlePlates$Plate" "strips" "[I", .methodLink RX7 69 yX7_isPlate, .instanceMethod yX7_isPlate, .selects RX7 yX7_isPlate yX7_isPlate, .initialized RX7, .code yX7_isPlate cX7_isPlate 2 (some .boolean), .fieldLink RX7 50 "FiddlePlates" "plateCount" "I", .methodLink RX7 118 yX5_bondAt, .static yX5_bondAt, .initialized RX5, .code yX5_bondAt cX5_bondAt 4 (some .int)] ++ wsX70 ++ wsX40)
def wsX7_isSpan : List Cond := .code yX7_isSpan cX7_isSpan 2 (some .boolean) :: ([.methodLink RX7 112 yX7_isNumber, .static yX7_isNumber, .initialized RX7, .code yX7_isNumber cX7_isNumber 1 (some .boolean)])
def wsX7_tap_r1 : List Cond := [Cond.fieldLink RX7 18 "FiddlePlates" "house" "LFiddlePlates$House;", Cond.fieldLink RX7 124 "FiddlePlates$House" "tapCount" "I", Cond.fieldLink RX7 11 "FiddlePlates" "plates" "[LFiddlePlates$Plate;", Cond.fieldLink RX7 75 "FiddlePlates$Plate" "strips" "[I", Cond.fieldLink RX7 32 "FiddlePlates" "planner" "LFiddlePlates$Planner;", Cond.methodLink RX7 69 yX7_isPlate, Cond.instanceMethod yX7_isPlate, Cond.selects RX7 yX7_isPlate yX7_isPlate, Cond.initialized RX7, Cond.code yX7_isPlate cX7_isPlate 2 (some .boolean), Cond.fieldLink RX7 50 "FiddlePlates" "plateCount" "I", Cond.methodLink RX7 99 yX7_isTone, Cond.static yX7_isTone, Cond.code yX7_isTone cX7_isTone 1 (some .boolean), Cond.methodLink RX7 121 yX7_isSpan, Cond.static yX7_isSpan, Cond.code yX7_isSpan cX7_isSpan 2 (some .boolean), Cond.methodLink RX7 112 yX7_isNumber, Cond.static yX7_isNumber, Cond.code yX7_isNumber cX7_isNumber 1 (some .boolean), Cond.methodLink RX7 127 yX2_addTap, Cond.instanceMethod yX2_addTap, Cond.selects RX2 yX2_addTap yX2_addTap, Cond.initialized RX2]
def wsX7_tap_r2 : List Cond := [Cond.code yX2_addTap cX2_addTap 6 none, Cond.fieldLink RX2 17 "FiddlePlates$House" "tapCount" "I", Cond.fieldLink RX2 11 "FiddlePlates$House" "taps" "[LFiddlePlates$Tap;", Cond.fieldLink RX2 41 "FiddlePlates$Tap" "values" "[I", Cond.fieldLink RX2 50 "FiddlePlates$Tap" "low" "I", Cond.fieldLink RX2 53 "FiddlePlates$Tap" "high" "I", Cond.methodLink RX2 44 yX5_fillWholeValues, Cond.static yX5_fillWholeValues, Cond.initialized RX5, Cond.code yX5_fillWholeValues cX5_fillWholeValues 4 none, Cond.methodLink RX5 18 yX5_wholeValue, Cond.static yX5_wholeValue, Cond.code yX5_wholeValue cX5_wholeValue 5 (some .int), Cond.methodLink RX5 15 yX5_valuesBelow, Cond.static yX5_valuesBelow, Cond.code yX5_valuesBelow cX5_valuesBelow 18 (some .int), Cond.methodLink RX5 9 yX5_bondAt, Cond.static yX5_bondAt, Cond.code yX5_bondAt cX5_bondAt 4 (some .int), Cond.methodLink RX2 38 yX2_sift, Cond.instanceMethod yX2_sift, Cond.selects RX2 yX2_sift yX2_sift, Cond.code yX2_sift cX2_sift 3 none, Cond.fieldLink RX2 28 "FiddlePlates$House" "left" "I"]
def wsX7_tap_r3 : List Cond := [Cond.fieldLink RX2 31 "FiddlePlates$House" "heavy" "[I", Cond.fieldLink RX2 34 "FiddlePlates$House" "light" "[I", Cond.methodLink RX2 56 yX2_fitsAllTaps, Cond.instanceMethod yX2_fitsAllTaps, Cond.selects RX2 yX2_fitsAllTaps yX2_fitsAllTaps, Cond.code yX2_fitsAllTaps cX2_fitsAllTaps 4 (some .boolean), Cond.methodLink RX2 67 yX6_fits, Cond.instanceMethod yX6_fits, Cond.selects RX6 yX6_fits yX6_fits, Cond.initialized RX6, Cond.code yX6_fits cX6_fits 4 (some .boolean), Cond.fieldLink RX6 9 "FiddlePlates$Tap" "values" "[I", Cond.fieldLink RX6 15 "FiddlePlates$Tap" "low" "I", Cond.fieldLink RX6 19 "FiddlePlates$Tap" "high" "I", Cond.methodLink RX6 22 yX5_byWeight, Cond.static yX5_byWeight, Cond.code yX5_byWeight cX5_byWeight 2 (some .int), Cond.methodLink RX2 60 yX2_keep, Cond.instanceMethod yX2_keep, Cond.selects RX2 yX2_keep yX2_keep, Cond.code yX2_keep cX2_keep 3 none, Cond.fieldLink RX2 21 "FiddlePlates$House" "stiffness" "[I", Cond.fieldLink RX2 25 "FiddlePlates$House" "weight" "[I", Cond.methodLink RX2 64 yX2_dropInnerWoods]
def wsX7_tap_r4 : List Cond := [Cond.instanceMethod yX2_dropInnerWoods, Cond.selects RX2 yX2_dropInnerWoods yX2_dropInnerWoods, Cond.code yX2_dropInnerWoods cX2_dropInnerWoods 4 none, Cond.methodLink RX7 78 yX3_forget, Cond.instanceMethod yX3_forget, Cond.selects RX3 yX3_forget yX3_forget, Cond.initialized RX3, Cond.code yX3_forget cX3_forget 1 none, Cond.fieldLink RX3 25 "FiddlePlates$Planner" "plate" "I"]
def wsX7_tap : List Cond := .code yX7_tap cX7_tap 5 (some .int) :: ((wsX7_tap_r1 ++ (wsX7_tap_r2 ++ (wsX7_tap_r3 ++ wsX7_tap_r4))) ++ wsX70 ++ wsX20 ++ wsX40 ++ wsX60 ++ wsX30)
def wsX7_untap_r1 : List Cond := [Cond.fieldLink RX7 18 "FiddlePlates" "house" "LFiddlePlates$House;", Cond.fieldLink RX7 124 "FiddlePlates$House" "tapCount" "I", Cond.fieldLink RX7 32 "FiddlePlates" "planner" "LFiddlePlates$Planner;", Cond.methodLink RX7 131 yX2_dropTap, Cond.instanceMethod yX2_dropTap, Cond.selects RX2 yX2_dropTap yX2_dropTap, Cond.initialized RX2, Cond.code yX2_dropTap cX2_dropTap 4 none, Cond.fieldLink RX2 17 "FiddlePlates$House" "tapCount" "I", Cond.fieldLink RX2 11 "FiddlePlates$House" "taps" "[LFiddlePlates$Tap;", Cond.methodLink RX2 38 yX2_sift, Cond.instanceMethod yX2_sift, Cond.selects RX2 yX2_sift yX2_sift, Cond.code yX2_sift cX2_sift 3 none, Cond.fieldLink RX2 28 "FiddlePlates$House" "left" "I", Cond.fieldLink RX2 31 "FiddlePlates$House" "heavy" "[I", Cond.fieldLink RX2 34 "FiddlePlates$House" "light" "[I", Cond.methodLink RX2 56 yX2_fitsAllTaps, Cond.instanceMethod yX2_fitsAllTaps, Cond.selects RX2 yX2_fitsAllTaps yX2_fitsAllTaps, Cond.code yX2_fitsAllTaps cX2_fitsAllTaps 4 (some .boolean), Cond.methodLink RX2 67 yX6_fits, Cond.instanceMethod yX6_fits, Cond.selects RX6 yX6_fits yX6_fits]
def wsX7_untap_r2 : List Cond := [Cond.initialized RX6, Cond.code yX6_fits cX6_fits 4 (some .boolean), Cond.fieldLink RX6 9 "FiddlePlates$Tap" "values" "[I", Cond.fieldLink RX6 15 "FiddlePlates$Tap" "low" "I", Cond.fieldLink RX6 19 "FiddlePlates$Tap" "high" "I", Cond.methodLink RX6 22 yX5_byWeight, Cond.static yX5_byWeight, Cond.initialized RX5, Cond.code yX5_byWeight cX5_byWeight 2 (some .int), Cond.methodLink RX2 60 yX2_keep, Cond.instanceMethod yX2_keep, Cond.selects RX2 yX2_keep yX2_keep, Cond.code yX2_keep cX2_keep 3 none, Cond.fieldLink RX2 21 "FiddlePlates$House" "stiffness" "[I", Cond.fieldLink RX2 25 "FiddlePlates$House" "weight" "[I", Cond.methodLink RX2 64 yX2_dropInnerWoods, Cond.instanceMethod yX2_dropInnerWoods, Cond.selects RX2 yX2_dropInnerWoods yX2_dropInnerWoods, Cond.code yX2_dropInnerWoods cX2_dropInnerWoods 4 none, Cond.methodLink RX7 78 yX3_forget, Cond.instanceMethod yX3_forget, Cond.selects RX3 yX3_forget yX3_forget, Cond.initialized RX3, Cond.code yX3_forget cX3_forget 1 none]
def wsX7_untap_r3 : List Cond := [Cond.fieldLink RX3 25 "FiddlePlates$Planner" "plate" "I"]
def wsX7_untap : List Cond := .code yX7_untap cX7_untap 2 (some .int) :: ((wsX7_untap_r1 ++ (wsX7_untap_r2 ++ wsX7_untap_r3)) ++ wsX70 ++ wsX20 ++ wsX60 ++ wsX30)
def wsX7_woods : List Cond := .code yX7_woods cX7_woods 1 (some .int) :: ([.fieldLink RX7 18 "FiddlePlates" "house" "LFiddlePlates$House;", .fieldLink RX7 134 "FiddlePlates$House" "left" "I"] ++ wsX70 ++ wsX20)
def wsX7_isOneOfTwo : List Cond := .code yX7_isOneOfTwo cX7_isOneOfTwo 1 (some .boolean) :: ([])
def wsX7_wood : List Cond := .code yX7_wood cX7_wood 3 (some .int) :: ([.fieldLink RX7 18 "FiddlePlates" "house" "LFiddlePlates$House;", .fieldLink RX7 134 "FiddlePlates$House" "left" "I", .fieldLink RX7 140 "FiddlePlates$House" "stiffness" "[I", .fieldLink RX7 143 "FiddlePlates$House" "weight" "[I", .methodLink RX7 137 yX7_isOneOfTwo, .static yX7_isOneOfTwo, .initialized RX7, .code yX7_isOneOfTwo cX7_isOneOfTwo 1 (some .boolean)] ++ wsX70 ++ wsX20)
def wsX7_span_r1 : List Cond := [Cond.fieldLink RX7 18 "FiddlePlates" "house" "LFiddlePlates$House;", Cond.fieldLink RX7 134 "FiddlePlates$House" "left" "I", Cond.fieldLink RX7 43 "FiddlePlates" "valuesOfOne" "[I", Cond.fieldLink RX7 11 "FiddlePlates" "plates" "[LFiddlePlates$Plate;", Cond.fieldLink RX7 75 "FiddlePlates$Plate" "strips" "[I", Cond.methodLink RX7 69 yX7_isPlate, Cond.instanceMethod yX7_isPlate, Cond.selects RX7 yX7_isPlate yX7_isPlate, Cond.initialized RX7, Cond.code yX7_isPlate cX7_isPlate 2 (some .boolean), Cond.fieldLink RX7 50 "FiddlePlates" "plateCount" "I", Cond.methodLink RX7 99 yX7_isTone, Cond.static yX7_isTone, Cond.code yX7_isTone cX7_isTone 1 (some .boolean), Cond.methodLink RX7 137 yX7_isOneOfTwo, Cond.static yX7_isOneOfTwo, Cond.code yX7_isOneOfTwo cX7_isOneOfTwo 1 (some .boolean), Cond.methodLink RX7 146 yX5_fillWholeValues, Cond.static yX5_fillWholeValues, Cond.initialized RX5, Cond.code yX5_fillWholeValues cX5_fillWholeValues 4 none, Cond.methodLink RX5 18 yX5_wholeValue, Cond.static yX5_wholeValue, Cond.code yX5_wholeValue cX5_wholeValue 5 (some .int)]
def wsX7_span_r2 : List Cond := [Cond.methodLink RX5 15 yX5_valuesBelow, Cond.static yX5_valuesBelow, Cond.code yX5_valuesBelow cX5_valuesBelow 18 (some .int), Cond.methodLink RX5 9 yX5_bondAt, Cond.static yX5_bondAt, Cond.code yX5_bondAt cX5_bondAt 4 (some .int), Cond.methodLink RX7 150 yX2_leastTone, Cond.instanceMethod yX2_leastTone, Cond.selects RX2 yX2_leastTone yX2_leastTone, Cond.initialized RX2, Cond.code yX2_leastTone cX2_leastTone 4 (some .int), Cond.constant RX2 72 (2147483647), Cond.fieldLink RX2 31 "FiddlePlates$House" "heavy" "[I", Cond.methodLink RX2 77 Lib.Math.min.name, Cond.static Lib.Math.min.name, Cond.initialized "java/lang/Math", Cond.code Lib.Math.min.name Lib.Math.min.code 2 (some .int), Cond.methodLink RX2 73 yX5_byWeight, Cond.static yX5_byWeight, Cond.code yX5_byWeight cX5_byWeight 2 (some .int), Cond.methodLink RX7 154 yX2_greatestTone, Cond.instanceMethod yX2_greatestTone, Cond.selects RX2 yX2_greatestTone yX2_greatestTone, Cond.code yX2_greatestTone cX2_greatestTone 4 (some .int)]
def wsX7_span_r3 : List Cond := [Cond.fieldLink RX2 34 "FiddlePlates$House" "light" "[I", Cond.methodLink RX2 82 Lib.Math.max.name, Cond.static Lib.Math.max.name, Cond.code Lib.Math.max.name Lib.Math.max.code 2 (some .int)]
def wsX7_span : List Cond := .code yX7_span cX7_span 4 (some .int) :: ((wsX7_span_r1 ++ (wsX7_span_r2 ++ wsX7_span_r3)) ++ wsX70 ++ wsX20 ++ wsX40)
def wsX7_next_r1 : List Cond := [Cond.fieldLink RX7 18 "FiddlePlates" "house" "LFiddlePlates$House;", Cond.fieldLink RX7 134 "FiddlePlates$House" "left" "I", Cond.fieldLink RX7 43 "FiddlePlates" "valuesOfOne" "[I", Cond.fieldLink RX7 11 "FiddlePlates" "plates" "[LFiddlePlates$Plate;", Cond.fieldLink RX7 75 "FiddlePlates$Plate" "strips" "[I", Cond.fieldLink RX7 39 "FiddlePlates" "heaps" "LFiddlePlates$Heaps;", Cond.methodLink RX7 69 yX7_isPlate, Cond.instanceMethod yX7_isPlate, Cond.selects RX7 yX7_isPlate yX7_isPlate, Cond.initialized RX7, Cond.code yX7_isPlate cX7_isPlate 2 (some .boolean), Cond.fieldLink RX7 50 "FiddlePlates" "plateCount" "I", Cond.methodLink RX7 137 yX7_isOneOfTwo, Cond.static yX7_isOneOfTwo, Cond.code yX7_isOneOfTwo cX7_isOneOfTwo 1 (some .boolean), Cond.methodLink RX7 146 yX5_fillWholeValues, Cond.static yX5_fillWholeValues, Cond.initialized RX5, Cond.code yX5_fillWholeValues cX5_fillWholeValues 4 none, Cond.methodLink RX5 18 yX5_wholeValue, Cond.static yX5_wholeValue, Cond.code yX5_wholeValue cX5_wholeValue 5 (some .int), Cond.methodLink RX5 15 yX5_valuesBelow, Cond.static yX5_valuesBelow]
def wsX7_next_r2 : List Cond := [Cond.code yX5_valuesBelow cX5_valuesBelow 18 (some .int), Cond.methodLink RX5 9 yX5_bondAt, Cond.static yX5_bondAt, Cond.code yX5_bondAt cX5_bondAt 4 (some .int), Cond.methodLink RX7 157 yX1_greatest, Cond.instanceMethod yX1_greatest, Cond.selects RX1 yX1_greatest yX1_greatest, Cond.initialized RX1, Cond.code yX1_greatest cX1_greatest 6 (some .int), Cond.fieldLink RX1 9 "FiddlePlates$Heaps" "sizes" "[I", Cond.fieldLink RX1 21 "FiddlePlates$House" "left" "I", Cond.methodLink RX1 31 Lib.Math.max.name, Cond.static Lib.Math.max.name, Cond.initialized "java/lang/Math", Cond.code Lib.Math.max.name Lib.Math.max.code 2 (some .int), Cond.methodLink RX1 15 yJ7_fill_53178, Cond.static yJ7_fill_53178, Cond.initialized RJ7, Cond.code yJ7_fill_53178 cJ7_fill_53178 4 none, Cond.methodLink RX1 27 yX2_toneOfLeft, Cond.instanceMethod yX2_toneOfLeft, Cond.selects RX2 yX2_toneOfLeft yX2_toneOfLeft, Cond.initialized RX2, Cond.code yX2_toneOfLeft cX2_toneOfLeft 3 (some .int)]
def wsX7_next_r3 : List Cond := [Cond.fieldLink RX2 21 "FiddlePlates$House" "stiffness" "[I", Cond.fieldLink RX2 25 "FiddlePlates$House" "weight" "[I", Cond.methodLink RX2 73 yX5_byWeight, Cond.static yX5_byWeight, Cond.code yX5_byWeight cX5_byWeight 2 (some .int)]
def wsX7_next : List Cond := .code yX7_next cX7_next 7 (some .int) :: ((wsX7_next_r1 ++ (wsX7_next_r2 ++ wsX7_next_r3)) ++ wsX70 ++ wsX20 ++ wsX40 ++ wsX10)
def wsX7_aim_r1 : List Cond := [Cond.fieldLink RX7 25 "FiddlePlates" "aims" "LFiddlePlates$Aims;", Cond.fieldLink RX7 32 "FiddlePlates" "planner" "LFiddlePlates$Planner;", Cond.methodLink RX7 99 yX7_isTone, Cond.static yX7_isTone, Cond.initialized RX7, Cond.code yX7_isTone cX7_isTone 1 (some .boolean), Cond.methodLink RX7 121 yX7_isSpan, Cond.static yX7_isSpan, Cond.code yX7_isSpan cX7_isSpan 2 (some .boolean), Cond.methodLink RX7 112 yX7_isNumber, Cond.static yX7_isNumber, Cond.code yX7_isNumber cX7_isNumber 1 (some .boolean), Cond.methodLink RX7 161 yX0_put, Cond.instanceMethod yX0_put, Cond.selects RX0 yX0_put yX0_put, Cond.initialized RX0, Cond.code yX0_put cX0_put 4 none, Cond.fieldLink RX0 9 "FiddlePlates$Aims" "set" "[Z", Cond.fieldLink RX0 15 "FiddlePlates$Aims" "from" "[I", Cond.fieldLink RX0 19 "FiddlePlates$Aims" "to" "[I", Cond.methodLink RX7 78 yX3_forget, Cond.instanceMethod yX3_forget, Cond.selects RX3 yX3_forget yX3_forget, Cond.initialized RX3]
def wsX7_aim_r2 : List Cond := [Cond.code yX3_forget cX3_forget 1 none, Cond.fieldLink RX3 25 "FiddlePlates$Planner" "plate" "I"]
def wsX7_aim : List Cond := .code yX7_aim cX7_aim 4 (some .int) :: ((wsX7_aim_r1 ++ wsX7_aim_r2) ++ wsX70 ++ wsX00 ++ wsX30)
def wsX7_aimless : List Cond := .code yX7_aimless cX7_aimless 2 (some .int) :: ([.fieldLink RX7 25 "FiddlePlates" "aims" "LFiddlePlates$Aims;", .fieldLink RX7 32 "FiddlePlates" "planner" "LFiddlePlates$Planner;", .methodLink RX7 165 yX0_spans, .instanceMethod yX0_spans, .selects RX0 yX0_spans yX0_spans, .initialized RX0, .code yX0_spans cX0_spans 3 (some .int), .fieldLink RX0 9 "FiddlePlates$Aims" "set" "[Z", .methodLink RX7 168 yX0_clear, .instanceMethod yX0_clear, .selects RX0 yX0_clear yX0_clear, .code yX0_clear cX0_clear 2 none, .methodLink RX7 78 yX3_forget, .instanceMethod yX3_forget, .selects RX3 yX3_forget yX3_forget, .initialized RX3, .code yX3_forget cX3_forget 1 none, .fieldLink RX3 25 "FiddlePlates$Planner" "plate" "I"] ++ wsX70 ++ wsX00 ++ wsX30)
def wsX7_makePlan_r1 : List Cond := [Cond.fieldLink RX7 32 "FiddlePlates" "planner" "LFiddlePlates$Planner;", Cond.fieldLink RX7 195 "FiddlePlates$Planner" "plate" "I", Cond.fieldLink RX7 11 "FiddlePlates" "plates" "[LFiddlePlates$Plate;", Cond.fieldLink RX7 75 "FiddlePlates$Plate" "strips" "[I", Cond.fieldLink RX7 54 "FiddlePlates" "leastThickness" "I", Cond.fieldLink RX7 18 "FiddlePlates" "house" "LFiddlePlates$House;", Cond.fieldLink RX7 25 "FiddlePlates" "aims" "LFiddlePlates$Aims;", Cond.methodLink RX7 198 yX3_search, Cond.instanceMethod yX3_search, Cond.selects RX3 yX3_search yX3_search, Cond.initialized RX3, Cond.code yX3_search cX3_search 7 none, Cond.fieldLink RX3 15 "FiddlePlates$Planner" "room" "[I", Cond.methodLink RX3 28 Lib.Math.max.name, Cond.static Lib.Math.max.name, Cond.initialized "java/lang/Math", Cond.code Lib.Math.max.name Lib.Math.max.code 2 (some .int), Cond.fieldLink RX3 21 "FiddlePlates$Planner" "shavings" "I", Cond.methodLink RX3 34 yX3_foundOf, Cond.instanceMethod yX3_foundOf, Cond.selects RX3 yX3_foundOf yX3_foundOf, Cond.code yX3_foundOf cX3_foundOf 9 (some .boolean), Cond.methodLink RX3 38 Lib.Math.min.name, Cond.static Lib.Math.min.name]
def wsX7_makePlan_r2 : List Cond := [Cond.code Lib.Math.min.name Lib.Math.min.code 2 (some .int), Cond.fieldLink RX3 18 "FiddlePlates$Planner" "end" "[I", Cond.methodLink RX3 41 yX3_take, Cond.instanceMethod yX3_take, Cond.selects RX3 yX3_take yX3_take, Cond.code yX3_take cX3_take 7 none, Cond.fieldLink RX3 9 "FiddlePlates$Planner" "taken" "[I", Cond.methodLink RX3 45 yX0_metBy, Cond.instanceMethod yX0_metBy, Cond.selects RX0 yX0_metBy yX0_metBy, Cond.initialized RX0, Cond.code yX0_metBy cX0_metBy 7 (some .boolean), Cond.fieldLink RX0 9 "FiddlePlates$Aims" "set" "[Z", Cond.fieldLink RX0 26 "FiddlePlates$House" "heavy" "[I", Cond.fieldLink RX0 15 "FiddlePlates$Aims" "from" "[I", Cond.fieldLink RX0 37 "FiddlePlates$House" "light" "[I", Cond.fieldLink RX0 19 "FiddlePlates$Aims" "to" "[I", Cond.methodLink RX0 31 yX5_valuesBelow, Cond.static yX5_valuesBelow, Cond.initialized RX5, Cond.code yX5_valuesBelow cX5_valuesBelow 18 (some .int), Cond.methodLink RX5 9 yX5_bondAt, Cond.static yX5_bondAt, Cond.code yX5_bondAt cX5_bondAt 4 (some .int)]
def wsX7_makePlan : List Cond := .code yX7_makePlan cX7_makePlan 2 none :: ((wsX7_makePlan_r1 ++ wsX7_makePlan_r2) ++ wsX70 ++ wsX30 ++ wsX40 ++ wsX00 ++ wsX20)
def wsX7_plan_r1 : List Cond := [Cond.fieldLink RX7 18 "FiddlePlates" "house" "LFiddlePlates$House;", Cond.fieldLink RX7 134 "FiddlePlates$House" "left" "I", Cond.fieldLink RX7 32 "FiddlePlates" "planner" "LFiddlePlates$Planner;", Cond.fieldLink RX7 174 "FiddlePlates$Planner" "shavings" "I", Cond.methodLink RX7 69 yX7_isPlate, Cond.instanceMethod yX7_isPlate, Cond.selects RX7 yX7_isPlate yX7_isPlate, Cond.initialized RX7, Cond.code yX7_isPlate cX7_isPlate 2 (some .boolean), Cond.fieldLink RX7 50 "FiddlePlates" "plateCount" "I", Cond.methodLink RX7 171 yX7_makePlan, Cond.instanceMethod yX7_makePlan, Cond.selects RX7 yX7_makePlan yX7_makePlan, Cond.code yX7_makePlan cX7_makePlan 2 none, Cond.fieldLink RX7 195 "FiddlePlates$Planner" "plate" "I", Cond.fieldLink RX7 11 "FiddlePlates" "plates" "[LFiddlePlates$Plate;", Cond.fieldLink RX7 75 "FiddlePlates$Plate" "strips" "[I", Cond.fieldLink RX7 54 "FiddlePlates" "leastThickness" "I", Cond.fieldLink RX7 25 "FiddlePlates" "aims" "LFiddlePlates$Aims;", Cond.methodLink RX7 198 yX3_search, Cond.instanceMethod yX3_search, Cond.selects RX3 yX3_search yX3_search, Cond.initialized RX3, Cond.code yX3_search cX3_search 7 none]
def wsX7_plan_r2 : List Cond := [Cond.fieldLink RX3 15 "FiddlePlates$Planner" "room" "[I", Cond.methodLink RX3 28 Lib.Math.max.name, Cond.static Lib.Math.max.name, Cond.initialized "java/lang/Math", Cond.code Lib.Math.max.name Lib.Math.max.code 2 (some .int), Cond.fieldLink RX3 21 "FiddlePlates$Planner" "shavings" "I", Cond.methodLink RX3 34 yX3_foundOf, Cond.instanceMethod yX3_foundOf, Cond.selects RX3 yX3_foundOf yX3_foundOf, Cond.code yX3_foundOf cX3_foundOf 9 (some .boolean), Cond.methodLink RX3 38 Lib.Math.min.name, Cond.static Lib.Math.min.name, Cond.code Lib.Math.min.name Lib.Math.min.code 2 (some .int), Cond.fieldLink RX3 18 "FiddlePlates$Planner" "end" "[I", Cond.methodLink RX3 41 yX3_take, Cond.instanceMethod yX3_take, Cond.selects RX3 yX3_take yX3_take, Cond.code yX3_take cX3_take 7 none, Cond.fieldLink RX3 9 "FiddlePlates$Planner" "taken" "[I", Cond.methodLink RX3 45 yX0_metBy, Cond.instanceMethod yX0_metBy, Cond.selects RX0 yX0_metBy yX0_metBy, Cond.initialized RX0, Cond.code yX0_metBy cX0_metBy 7 (some .boolean)]
def wsX7_plan_r3 : List Cond := [Cond.fieldLink RX0 9 "FiddlePlates$Aims" "set" "[Z", Cond.fieldLink RX0 26 "FiddlePlates$House" "heavy" "[I", Cond.fieldLink RX0 15 "FiddlePlates$Aims" "from" "[I", Cond.fieldLink RX0 37 "FiddlePlates$House" "light" "[I", Cond.fieldLink RX0 19 "FiddlePlates$Aims" "to" "[I", Cond.methodLink RX0 31 yX5_valuesBelow, Cond.static yX5_valuesBelow, Cond.initialized RX5, Cond.code yX5_valuesBelow cX5_valuesBelow 18 (some .int), Cond.methodLink RX5 9 yX5_bondAt, Cond.static yX5_bondAt, Cond.code yX5_bondAt cX5_bondAt 4 (some .int)]
def wsX7_plan : List Cond := .code yX7_plan cX7_plan 2 (some .int) :: ((wsX7_plan_r1 ++ (wsX7_plan_r2 ++ wsX7_plan_r3)) ++ wsX70 ++ wsX20 ++ wsX30 ++ wsX40 ++ wsX00)
def wsX7_planned_r1 : List Cond := [Cond.fieldLink RX7 18 "FiddlePlates" "house" "LFiddlePlates$House;", Cond.fieldLink RX7 134 "FiddlePlates$House" "left" "I", Cond.fieldLink RX7 32 "FiddlePlates" "planner" "LFiddlePlates$Planner;", Cond.methodLink RX7 69 yX7_isPlate, Cond.instanceMethod yX7_isPlate, Cond.selects RX7 yX7_isPlate yX7_isPlate, Cond.initialized RX7, Cond.code yX7_isPlate cX7_isPlate 2 (some .boolean), Cond.fieldLink RX7 50 "FiddlePlates" "plateCount" "I", Cond.methodLink RX7 171 yX7_makePlan, Cond.instanceMethod yX7_makePlan, Cond.selects RX7 yX7_makePlan yX7_makePlan, Cond.code yX7_makePlan cX7_makePlan 2 none, Cond.fieldLink RX7 195 "FiddlePlates$Planner" "plate" "I", Cond.fieldLink RX7 11 "FiddlePlates" "plates" "[LFiddlePlates$Plate;", Cond.fieldLink RX7 75 "FiddlePlates$Plate" "strips" "[I", Cond.fieldLink RX7 54 "FiddlePlates" "leastThickness" "I", Cond.fieldLink RX7 25 "FiddlePlates" "aims" "LFiddlePlates$Aims;", Cond.methodLink RX7 198 yX3_search, Cond.instanceMethod yX3_search, Cond.selects RX3 yX3_search yX3_search, Cond.initialized RX3, Cond.code yX3_search cX3_search 7 none, Cond.fieldLink RX3 15 "FiddlePlates$Planner" "room" "[I"]
def wsX7_planned_r2 : List Cond := [Cond.methodLink RX3 28 Lib.Math.max.name, Cond.static Lib.Math.max.name, Cond.initialized "java/lang/Math", Cond.code Lib.Math.max.name Lib.Math.max.code 2 (some .int), Cond.fieldLink RX3 21 "FiddlePlates$Planner" "shavings" "I", Cond.methodLink RX3 34 yX3_foundOf, Cond.instanceMethod yX3_foundOf, Cond.selects RX3 yX3_foundOf yX3_foundOf, Cond.code yX3_foundOf cX3_foundOf 9 (some .boolean), Cond.methodLink RX3 38 Lib.Math.min.name, Cond.static Lib.Math.min.name, Cond.code Lib.Math.min.name Lib.Math.min.code 2 (some .int), Cond.fieldLink RX3 18 "FiddlePlates$Planner" "end" "[I", Cond.methodLink RX3 41 yX3_take, Cond.instanceMethod yX3_take, Cond.selects RX3 yX3_take yX3_take, Cond.code yX3_take cX3_take 7 none, Cond.fieldLink RX3 9 "FiddlePlates$Planner" "taken" "[I", Cond.methodLink RX3 45 yX0_metBy, Cond.instanceMethod yX0_metBy, Cond.selects RX0 yX0_metBy yX0_metBy, Cond.initialized RX0, Cond.code yX0_metBy cX0_metBy 7 (some .boolean), Cond.fieldLink RX0 9 "FiddlePlates$Aims" "set" "[Z"]
def wsX7_planned_r3 : List Cond := [Cond.fieldLink RX0 26 "FiddlePlates$House" "heavy" "[I", Cond.fieldLink RX0 15 "FiddlePlates$Aims" "from" "[I", Cond.fieldLink RX0 37 "FiddlePlates$House" "light" "[I", Cond.fieldLink RX0 19 "FiddlePlates$Aims" "to" "[I", Cond.methodLink RX0 31 yX5_valuesBelow, Cond.static yX5_valuesBelow, Cond.initialized RX5, Cond.code yX5_valuesBelow cX5_valuesBelow 18 (some .int), Cond.methodLink RX5 9 yX5_bondAt, Cond.static yX5_bondAt, Cond.code yX5_bondAt cX5_bondAt 4 (some .int), Cond.methodLink RX7 177 yX3_stripOf, Cond.instanceMethod yX3_stripOf, Cond.selects RX3 yX3_stripOf yX3_stripOf, Cond.code yX3_stripOf cX3_stripOf 4 (some .int)]
def wsX7_planned : List Cond := .code yX7_planned cX7_planned 3 (some .int) :: ((wsX7_planned_r1 ++ (wsX7_planned_r2 ++ wsX7_planned_r3)) ++ wsX70 ++ wsX20 ++ wsX30 ++ wsX40 ++ wsX00)
def wsX7_carve_r1 : List Cond := [Cond.fieldLink RX7 18 "FiddlePlates" "house" "LFiddlePlates$House;", Cond.fieldLink RX7 134 "FiddlePlates$House" "left" "I", Cond.fieldLink RX7 32 "FiddlePlates" "planner" "LFiddlePlates$Planner;", Cond.fieldLink RX7 174 "FiddlePlates$Planner" "shavings" "I", Cond.fieldLink RX7 11 "FiddlePlates" "plates" "[LFiddlePlates$Plate;", Cond.fieldLink RX7 81 "FiddlePlates$Plate" "logged" "I", Cond.fieldLink RX7 181 "FiddlePlates$Planner" "taken" "[I", Cond.methodLink RX7 69 yX7_isPlate, Cond.instanceMethod yX7_isPlate, Cond.selects RX7 yX7_isPlate yX7_isPlate, Cond.initialized RX7, Cond.code yX7_isPlate cX7_isPlate 2 (some .boolean), Cond.fieldLink RX7 50 "FiddlePlates" "plateCount" "I", Cond.methodLink RX7 171 yX7_makePlan, Cond.instanceMethod yX7_makePlan, Cond.selects RX7 yX7_makePlan yX7_makePlan, Cond.code yX7_makePlan cX7_makePlan 2 none, Cond.fieldLink RX7 195 "FiddlePlates$Planner" "plate" "I", Cond.fieldLink RX7 75 "FiddlePlates$Plate" "strips" "[I", Cond.fieldLink RX7 54 "FiddlePlates" "leastThickness" "I", Cond.fieldLink RX7 25 "FiddlePlates" "aims" "LFiddlePlates$Aims;", Cond.methodLink RX7 198 yX3_search, Cond.instanceMethod yX3_search, Cond.selects RX3 yX3_search yX3_search]
def wsX7_carve_r2 : List Cond := [Cond.initialized RX3, Cond.code yX3_search cX3_search 7 none, Cond.fieldLink RX3 15 "FiddlePlates$Planner" "room" "[I", Cond.methodLink RX3 28 Lib.Math.max.name, Cond.static Lib.Math.max.name, Cond.initialized "java/lang/Math", Cond.code Lib.Math.max.name Lib.Math.max.code 2 (some .int), Cond.fieldLink RX3 21 "FiddlePlates$Planner" "shavings" "I", Cond.methodLink RX3 34 yX3_foundOf, Cond.instanceMethod yX3_foundOf, Cond.selects RX3 yX3_foundOf yX3_foundOf, Cond.code yX3_foundOf cX3_foundOf 9 (some .boolean), Cond.methodLink RX3 38 Lib.Math.min.name, Cond.static Lib.Math.min.name, Cond.code Lib.Math.min.name Lib.Math.min.code 2 (some .int), Cond.fieldLink RX3 18 "FiddlePlates$Planner" "end" "[I", Cond.methodLink RX3 41 yX3_take, Cond.instanceMethod yX3_take, Cond.selects RX3 yX3_take yX3_take, Cond.code yX3_take cX3_take 7 none, Cond.fieldLink RX3 9 "FiddlePlates$Planner" "taken" "[I", Cond.methodLink RX3 45 yX0_metBy, Cond.instanceMethod yX0_metBy, Cond.selects RX0 yX0_metBy yX0_metBy]
def wsX7_carve_r3 : List Cond := [Cond.initialized RX0, Cond.code yX0_metBy cX0_metBy 7 (some .boolean), Cond.fieldLink RX0 9 "FiddlePlates$Aims" "set" "[Z", Cond.fieldLink RX0 26 "FiddlePlates$House" "heavy" "[I", Cond.fieldLink RX0 15 "FiddlePlates$Aims" "from" "[I", Cond.fieldLink RX0 37 "FiddlePlates$House" "light" "[I", Cond.fieldLink RX0 19 "FiddlePlates$Aims" "to" "[I", Cond.methodLink RX0 31 yX5_valuesBelow, Cond.static yX5_valuesBelow, Cond.initialized RX5, Cond.code yX5_valuesBelow cX5_valuesBelow 18 (some .int), Cond.methodLink RX5 9 yX5_bondAt, Cond.static yX5_bondAt, Cond.code yX5_bondAt cX5_bondAt 4 (some .int), Cond.methodLink RX7 184 yX4_takeOffAll, Cond.instanceMethod yX4_takeOffAll, Cond.selects RX4 yX4_takeOffAll yX4_takeOffAll, Cond.initialized RX4, Cond.code yX4_takeOffAll cX4_takeOffAll 4 none, Cond.methodLink RX4 26 yX4_takeOff, Cond.instanceMethod yX4_takeOff, Cond.selects RX4 yX4_takeOff yX4_takeOff, Cond.code yX4_takeOff cX4_takeOff 2 none, Cond.fieldLink RX4 18 "FiddlePlates$Plate" "logged" "I"]
def wsX7_carve_r4 : List Cond := [Cond.fieldLink RX4 9 "FiddlePlates$Plate" "strips" "[I", Cond.fieldLink RX4 15 "FiddlePlates$Plate" "log" "[I", Cond.static yX7_isStrip, Cond.code yX7_isStrip cX7_isStrip 1 (some .boolean), Cond.methodLink RX7 78 yX3_forget, Cond.instanceMethod yX3_forget, Cond.selects RX3 yX3_forget yX3_forget, Cond.code yX3_forget cX3_forget 1 none, Cond.fieldLink RX3 25 "FiddlePlates$Planner" "plate" "I"]
def wsX7_carve : List Cond := .code yX7_carve cX7_carve 3 (some .int) :: ((wsX7_carve_r1 ++ (wsX7_carve_r2 ++ (wsX7_carve_r3 ++ wsX7_carve_r4))) ++ wsX70 ++ wsX20 ++ wsX30 ++ wsX40 ++ wsX00)
def wsX7_off : List Cond := .code yX7_off cX7_off 3 (some .int) :: ([.fieldLink RX7 57 "FiddlePlates" "offAtMost" "I"] ++ wsX70)
def wsX7_even_r1 : List Cond := [Cond.fieldLink RX7 18 "FiddlePlates" "house" "LFiddlePlates$House;", Cond.fieldLink RX7 134 "FiddlePlates$House" "left" "I", Cond.fieldLink RX7 43 "FiddlePlates" "valuesOfOne" "[I", Cond.fieldLink RX7 11 "FiddlePlates" "plates" "[LFiddlePlates$Plate;", Cond.fieldLink RX7 75 "FiddlePlates$Plate" "strips" "[I", Cond.fieldLink RX7 47 "FiddlePlates" "valuesOfOther" "[I", Cond.fieldLink RX7 57 "FiddlePlates" "offAtMost" "I", Cond.methodLink RX7 69 yX7_isPlate, Cond.instanceMethod yX7_isPlate, Cond.selects RX7 yX7_isPlate yX7_isPlate, Cond.initialized RX7, Cond.code yX7_isPlate cX7_isPlate 2 (some .boolean), Cond.fieldLink RX7 50 "FiddlePlates" "plateCount" "I", Cond.methodLink RX7 146 yX5_fillWholeValues, Cond.static yX5_fillWholeValues, Cond.initialized RX5, Cond.code yX5_fillWholeValues cX5_fillWholeValues 4 none, Cond.methodLink RX5 18 yX5_wholeValue, Cond.static yX5_wholeValue, Cond.code yX5_wholeValue cX5_wholeValue 5 (some .int), Cond.methodLink RX5 15 yX5_valuesBelow, Cond.static yX5_valuesBelow, Cond.code yX5_valuesBelow cX5_valuesBelow 18 (some .int), Cond.methodLink RX5 9 yX5_bondAt]
def wsX7_even_r2 : List Cond := [Cond.static yX5_bondAt, Cond.code yX5_bondAt cX5_bondAt 4 (some .int), Cond.methodLink RX7 188 yX2_farthest, Cond.instanceMethod yX2_farthest, Cond.selects RX2 yX2_farthest yX2_farthest, Cond.initialized RX2, Cond.code yX2_farthest cX2_farthest 6 (some .int), Cond.fieldLink RX2 28 "FiddlePlates$House" "left" "I", Cond.methodLink RX2 89 Lib.Math.abs.name, Cond.static Lib.Math.abs.name, Cond.initialized "java/lang/Math", Cond.code Lib.Math.abs.name Lib.Math.abs.code 1 (some .int), Cond.methodLink RX2 82 Lib.Math.max.name, Cond.static Lib.Math.max.name, Cond.code Lib.Math.max.name Lib.Math.max.code 2 (some .int), Cond.methodLink RX2 85 yX2_toneOfLeft, Cond.instanceMethod yX2_toneOfLeft, Cond.selects RX2 yX2_toneOfLeft yX2_toneOfLeft, Cond.code yX2_toneOfLeft cX2_toneOfLeft 3 (some .int), Cond.fieldLink RX2 21 "FiddlePlates$House" "stiffness" "[I", Cond.fieldLink RX2 25 "FiddlePlates$House" "weight" "[I", Cond.methodLink RX2 73 yX5_byWeight, Cond.static yX5_byWeight, Cond.code yX5_byWeight cX5_byWeight 2 (some .int)]
def wsX7_even : List Cond := .code yX7_even cX7_even 3 (some .int) :: ((wsX7_even_r1 ++ wsX7_even_r2) ++ wsX70 ++ wsX20 ++ wsX40)
def wsX7_shavingsInLogs : List Cond := .code yX7_shavingsInLogs cX7_shavingsInLogs 3 (some .int) :: ([.fieldLink RX7 50 "FiddlePlates" "plateCount" "I", .fieldLink RX7 11 "FiddlePlates" "plates" "[LFiddlePlates$Plate;", .fieldLink RX7 81 "FiddlePlates$Plate" "logged" "I"] ++ wsX70 ++ wsX40)
def wsX7_count : List Cond := .code yX7_count cX7_count 2 (some .int) :: ([.fieldLink RX7 50 "FiddlePlates" "plateCount" "I", .fieldLink RX7 18 "FiddlePlates" "house" "LFiddlePlates$House;", .fieldLink RX7 124 "FiddlePlates$House" "tapCount" "I", .fieldLink RX7 25 "FiddlePlates" "aims" "LFiddlePlates$Aims;", .methodLink RX7 165 yX0_spans, .instanceMethod yX0_spans, .selects RX0 yX0_spans yX0_spans, .initialized RX0, .code yX0_spans cX0_spans 3 (some .int), .fieldLink RX0 9 "FiddlePlates$Aims" "set" "[Z", .methodLink RX7 192 yX7_shavingsInLogs, .instanceMethod yX7_shavingsInLogs, .selects RX7 yX7_shavingsInLogs yX7_shavingsInLogs, .initialized RX7, .code yX7_shavingsInLogs cX7_shavingsInLogs 3 (some .int), .fieldLink RX7 11 "FiddlePlates" "plates" "[LFiddlePlates$Plate;", .fieldLink RX7 81 "FiddlePlates$Plate" "logged" "I"] ++ wsX70 ++ wsX20 ++ wsX00 ++ wsX40)
def wsX8_init : List Cond := .code yX8_init cX8_init 1 none :: ([.methodLink RX8 1 objectInit, .instanceMethod objectInit, .code objectInit ⟨#[0xb1]⟩ 1 none, .arrayClass .int, .fieldLink RX8 7 "FiddlePlatesModel" "thick" "[I", .fieldLink RX8 13 "FiddlePlatesModel" "least" "I", .fieldLink RX8 17 "FiddlePlatesModel" "logged" "[I", .fieldLink RX8 20 "FiddlePlatesModel" "logs" "[I", .fieldLink RX8 23 "FiddlePlatesModel" "tapThick" "[I", .fieldLink RX8 26 "FiddlePlatesModel" "tapTone" "[I", .fieldLink RX8 29 "FiddlePlatesModel" "tapLow" "[I", .fieldLink RX8 32 "FiddlePlatesModel" "tapHigh" "[I", .arrayClass .boolean, .fieldLink RX8 35 "FiddlePlatesModel" "hasAim" "[Z", .fieldLink RX8 39 "FiddlePlatesModel" "aimFrom" "[I", .fieldLink RX8 42 "FiddlePlatesModel" "aimTo" "[I", .fieldLink RX8 45 "FiddlePlatesModel" "off" "I", .fieldLink RX8 48 "FiddlePlatesModel" "now" "[I", .fieldLink RX8 51 "FiddlePlatesModel" "woods" "[I", .fieldLink RX8 54 "FiddlePlatesModel" "heaps" "[I", .fieldLink RX8 57 "FiddlePlatesModel" "end" "[I"] ++ wsX80)
def wsX8_in : List Cond := .code yX8_in cX8_in 3 (some .boolean) :: ([])
def wsX8_isThick : List Cond := .code yX8_isThick cX8_isThick 1 (some .boolean) :: ([.methodLink RX8 60 yX8_in, .static yX8_in, .initialized RX8, .code yX8_in cX8_in 3 (some .boolean)])
def wsX8_isPlate : List Cond := .code yX8_isPlate cX8_isPlate 2 (some .boolean) :: ([.fieldLink RX8 64 "FiddlePlatesModel" "plates" "I", .methodLink RX8 60 yX8_in, .static yX8_in, .initialized RX8, .code yX8_in cX8_in 3 (some .boolean)] ++ wsX80)
def wsX8_isFour : List Cond := .code yX8_isFour cX8_isFour 1 (some .boolean) :: ([.methodLink RX8 60 yX8_in, .static yX8_in, .initialized RX8, .code yX8_in cX8_in 3 (some .boolean)])
def wsX8_plate : List Cond := .code yX8_plate cX8_plate 5 (some .int) :: ([.fieldLink RX8 64 "FiddlePlatesModel" "plates" "I", .fieldLink RX8 7 "FiddlePlatesModel" "thick" "[I", .methodLink RX8 67 yX8_isThick, .static yX8_isThick, .initialized RX8, .code yX8_isThick cX8_isThick 1 (some .boolean), .methodLink RX8 60 yX8_in, .static yX8_in, .code yX8_in cX8_in 3 (some .boolean)] ++ wsX80)
def wsX8_thick : List Cond := .code yX8_thick cX8_thick 3 (some .int) :: ([.fieldLink RX8 7 "FiddlePlatesModel" "thick" "[I", .methodLink RX8 71 yX8_isPlate, .instanceMethod yX8_isPlate, .selects RX8 yX8_isPlate yX8_isPlate, .initialized RX8, .code yX8_isPlate cX8_isPlate 2 (some .boolean), .fieldLink RX8 64 "FiddlePlatesModel" "plates" "I", .methodLink RX8 60 yX8_in, .static yX8_in, .code yX8_in cX8_in 3 (some .boolean), .methodLink RX8 74 yX8_isFour, .static yX8_isFour, .code yX8_isFour cX8_isFour 1 (some .boolean)] ++ wsX80)
def wsX8_least : List Cond := .code yX8_least cX8_least 3 (some .int) :: ([.fieldLink RX8 13 "FiddlePlatesModel" "least" "I", .methodLink RX8 67 yX8_isThick, .static yX8_isThick, .initialized RX8, .code yX8_isThick cX8_isThick 1 (some .boolean), .methodLink RX8 60 yX8_in, .static yX8_in, .code yX8_in cX8_in 3 (some .boolean)] ++ wsX80)
def wsX8_shaveOff : List Cond := .code yX8_shaveOff cX8_shaveOff 3 none :: ([.fieldLink RX8 7 "FiddlePlatesModel" "thick" "[I", .fieldLink RX8 20 "FiddlePlatesModel" "logs" "[I", .fieldLink RX8 17 "FiddlePlatesModel" "logged" "[I"] ++ wsX80)
def wsX8_shave : List Cond := .code yX8_shave cX8_shave 3 (some .int) :: ([.fieldLink RX8 7 "FiddlePlatesModel" "thick" "[I", .fieldLink RX8 13 "FiddlePlatesModel" "least" "I", .fieldLink RX8 17 "FiddlePlatesModel" "logged" "[I", .methodLink RX8 71 yX8_isPlate, .instanceMethod yX8_isPlate, .selects RX8 yX8_isPlate yX8_isPlate, .initialized RX8, .code yX8_isPlate cX8_isPlate 2 (some .boolean), .fieldLink RX8 64 "FiddlePlatesModel" "plates" "I", .methodLink RX8 60 yX8_in, .static yX8_in, .code yX8_in cX8_in 3 (some .boolean), .methodLink RX8 74 yX8_isFour, .static yX8_isFour, .code yX8_isFour cX8_isFour 1 (some .boolean), .methodLink RX8 77 yX8_shaveOff, .instanceMethod yX8_shaveOff, .selects RX8 yX8_shaveOff yX8_shaveOff, .code yX8_shaveOff cX8_shaveOff 3 none, .fieldLink RX8 20 "FiddlePlatesModel" "logs" "[I"] ++ wsX80)
def wsX8_undo : List Cond := .code yX8_undo cX8_undo 3 (some .int) :: ([.fieldLink RX8 17 "FiddlePlatesModel" "logged" "[I", .fieldLink RX8 20 "FiddlePlatesModel" "logs" "[I", .fieldLink RX8 7 "FiddlePlatesModel" "thick" "[I", .methodLink RX8 71 yX8_isPlate, .instanceMethod yX8_isPlate, .selects RX8 yX8_isPlate yX8_isPlate, .initialized RX8, .code yX8_isPlate cX8_isPlate 2 (some .boolean), .fieldLink RX8 64 "FiddlePlatesModel" "plates" "I", .methodLink RX8 60 yX8_in, .static yX8_in, .code yX8_in cX8_in 3 (some .boolean)] ++ wsX80)
def wsX8_mirror : List Cond := .code yX8_mirror cX8_mirror 4 (some .int) :: ([.fieldLink RX8 7 "FiddlePlatesModel" "thick" "[I", .fieldLink RX8 17 "FiddlePlatesModel" "logged" "[I", .methodLink RX8 71 yX8_isPlate, .instanceMethod yX8_isPlate, .selects RX8 yX8_isPlate yX8_isPlate, .initialized RX8, .code yX8_isPlate cX8_isPlate 2 (some .boolean), .fieldLink RX8 64 "FiddlePlatesModel" "plates" "I", .methodLink RX8 60 yX8_in, .static yX8_in, .code yX8_in cX8_in 3 (some .boolean)] ++ wsX80)
def wsX8_take : List Cond := .code yX8_take cX8_take 4 none :: ([.fieldLink RX8 48 "FiddlePlatesModel" "now" "[I"] ++ wsX80)
def wsX8_bondOf : List Cond := .code yX8_bondOf cX8_bondOf 4 (some .long) :: ([.fieldLink RX8 48 "FiddlePlatesModel" "now" "[I", .constantLong RX8 81 (32), .constantLong RX8 83 (8)] ++ wsX80)
def wsX8_belowOf : List Cond := .code yX8_belowOf cX8_belowOf 16 (some .int) :: ([.fieldLink RX8 48 "FiddlePlatesModel" "now" "[I", .methodLink RX8 85 yX8_bondOf, .instanceMethod yX8_bondOf, .selects RX8 yX8_bondOf yX8_bondOf, .initialized RX8, .code yX8_bondOf cX8_bondOf 4 (some .long), .constantLong RX8 81 (32), .constantLong RX8 83 (8)] ++ wsX80)
def wsX8_toneOf : List Cond := .code yX8_toneOf cX8_toneOf 7 (some .int) :: ([.methodLink RX8 89 yX8_belowOf, .instanceMethod yX8_belowOf, .selects RX8 yX8_belowOf yX8_belowOf, .initialized RX8, .code yX8_belowOf cX8_belowOf 16 (some .int), .fieldLink RX8 48 "FiddlePlatesModel" "now" "[I", .methodLink RX8 85 yX8_bondOf, .instanceMethod yX8_bondOf, .selects RX8 yX8_bondOf yX8_bondOf, .code yX8_bondOf cX8_bondOf 4 (some .long), .constantLong RX8 81 (32), .constantLong RX8 83 (8)] ++ wsX80)
def wsX8_isWood : List Cond := .code yX8_isWood cX8_isWood 2 (some .boolean) :: ([.methodLink RX8 67 yX8_isThick, .static yX8_isThick, .initialized RX8, .code yX8_isThick cX8_isThick 1 (some .boolean), .methodLink RX8 60 yX8_in, .static yX8_in, .code yX8_in cX8_in 3 (some .boolean)])
def wsX8_tone_r1 : List Cond := [Cond.fieldLink RX8 7 "FiddlePlatesModel" "thick" "[I", Cond.methodLink RX8 71 yX8_isPlate, Cond.instanceMethod yX8_isPlate, Cond.selects RX8 yX8_isPlate yX8_isPlate, Cond.initialized RX8, Cond.code yX8_isPlate cX8_isPlate 2 (some .boolean), Cond.fieldLink RX8 64 "FiddlePlatesModel" "plates" "I", Cond.methodLink RX8 60 yX8_in, Cond.static yX8_in, Cond.code yX8_in cX8_in 3 (some .boolean), Cond.methodLink RX8 93 yX8_isWood, Cond.static yX8_isWood, Cond.code yX8_isWood cX8_isWood 2 (some .boolean), Cond.methodLink RX8 67 yX8_isThick, Cond.static yX8_isThick, Cond.code yX8_isThick cX8_isThick 1 (some .boolean), Cond.methodLink RX8 74 yX8_isFour, Cond.static yX8_isFour, Cond.code yX8_isFour cX8_isFour 1 (some .boolean), Cond.methodLink RX8 97 yX8_take, Cond.instanceMethod yX8_take, Cond.selects RX8 yX8_take yX8_take, Cond.code yX8_take cX8_take 4 none, Cond.fieldLink RX8 48 "FiddlePlatesModel" "now" "[I"]
def wsX8_tone_r2 : List Cond := [Cond.methodLink RX8 101 yX8_toneOf, Cond.instanceMethod yX8_toneOf, Cond.selects RX8 yX8_toneOf yX8_toneOf, Cond.code yX8_toneOf cX8_toneOf 7 (some .int), Cond.methodLink RX8 89 yX8_belowOf, Cond.instanceMethod yX8_belowOf, Cond.selects RX8 yX8_belowOf yX8_belowOf, Cond.code yX8_belowOf cX8_belowOf 16 (some .int), Cond.methodLink RX8 85 yX8_bondOf, Cond.instanceMethod yX8_bondOf, Cond.selects RX8 yX8_bondOf yX8_bondOf, Cond.code yX8_bondOf cX8_bondOf 4 (some .long), Cond.constantLong RX8 81 (32), Cond.constantLong RX8 83 (8)]
def wsX8_tone : List Cond := .code yX8_tone cX8_tone 5 (some .int) :: ((wsX8_tone_r1 ++ wsX8_tone_r2) ++ wsX80)
def wsX8_below_r1 : List Cond := [Cond.fieldLink RX8 7 "FiddlePlatesModel" "thick" "[I", Cond.methodLink RX8 71 yX8_isPlate, Cond.instanceMethod yX8_isPlate, Cond.selects RX8 yX8_isPlate yX8_isPlate, Cond.initialized RX8, Cond.code yX8_isPlate cX8_isPlate 2 (some .boolean), Cond.fieldLink RX8 64 "FiddlePlatesModel" "plates" "I", Cond.methodLink RX8 60 yX8_in, Cond.static yX8_in, Cond.code yX8_in cX8_in 3 (some .boolean), Cond.methodLink RX8 93 yX8_isWood, Cond.static yX8_isWood, Cond.code yX8_isWood cX8_isWood 2 (some .boolean), Cond.methodLink RX8 67 yX8_isThick, Cond.static yX8_isThick, Cond.code yX8_isThick cX8_isThick 1 (some .boolean), Cond.methodLink RX8 97 yX8_take, Cond.instanceMethod yX8_take, Cond.selects RX8 yX8_take yX8_take, Cond.code yX8_take cX8_take 4 none, Cond.fieldLink RX8 48 "FiddlePlatesModel" "now" "[I", Cond.methodLink RX8 89 yX8_belowOf, Cond.instanceMethod yX8_belowOf, Cond.selects RX8 yX8_belowOf yX8_belowOf]
def wsX8_below_r2 : List Cond := [Cond.code yX8_belowOf cX8_belowOf 16 (some .int), Cond.methodLink RX8 85 yX8_bondOf, Cond.instanceMethod yX8_bondOf, Cond.selects RX8 yX8_bondOf yX8_bondOf, Cond.code yX8_bondOf cX8_bondOf 4 (some .long), Cond.constantLong RX8 81 (32), Cond.constantLong RX8 83 (8)]
def wsX8_below : List Cond := .code yX8_below cX8_below 5 (some .int) :: ((wsX8_below_r1 ++ wsX8_below_r2) ++ wsX80)
def wsX8_bond : List Cond := .code yX8_bond cX8_bond 4 (some .int) :: ([.fieldLink RX8 7 "FiddlePlatesModel" "thick" "[I", .methodLink RX8 71 yX8_isPlate, .instanceMethod yX8_isPlate, .selects RX8 yX8_isPlate yX8_isPlate, .initialized RX8, .code yX8_isPlate cX8_isPlate 2 (some .boolean), .fieldLink RX8 64 "FiddlePlatesModel" "plates" "I", .methodLink RX8 60 yX8_in, .static yX8_in, .code yX8_in cX8_in 3 (some .boolean), .methodLink RX8 67 yX8_isThick, .static yX8_isThick, .code yX8_isThick cX8_isThick 1 (some .boolean), .methodLink RX8 97 yX8_take, .instanceMethod yX8_take, .selects RX8 yX8_take yX8_take, .code yX8_take cX8_take 4 none, .fieldLink RX8 48 "FiddlePlatesModel" "now" "[I", .methodLink RX8 85 yX8_bondOf, .instanceMethod yX8_bondOf, .selects RX8 yX8_bondOf yX8_bondOf, .code yX8_bondOf cX8_bondOf 4 (some .long), .constantLong RX8 81 (32), .constantLong RX8 83 (8)] ++ wsX80)
def wsX8_tap : List Cond := .code yX8_tap cX8_tap 6 (some .int) :: ([.fieldLink RX8 104 "FiddlePlatesModel" "taps" "I", .fieldLink RX8 23 "FiddlePlatesModel" "tapThick" "[I", .fieldLink RX8 7 "FiddlePlatesModel" "thick" "[I", .fieldLink RX8 26 "FiddlePlatesModel" "tapTone" "[I", .fieldLink RX8 29 "FiddlePlatesModel" "tapLow" "[I", .fieldLink RX8 32 "FiddlePlatesModel" "tapHigh" "[I", .methodLink RX8 71 yX8_isPlate, .instanceMethod yX8_isPlate, .selects RX8 yX8_isPlate yX8_isPlate, .initialized RX8, .code yX8_isPlate cX8_isPlate 2 (some .boolean), .fieldLink RX8 64 "FiddlePlatesModel" "plates" "I", .methodLink RX8 60 yX8_in, .static yX8_in, .code yX8_in cX8_in 3 (some .boolean), .methodLink RX8 74 yX8_isFour, .static yX8_isFour, .code yX8_isFour cX8_isFour 1 (some .boolean)] ++ wsX80)
def wsX8_untap : List Cond := .code yX8_untap cX8_untap 4 (some .int) :: ([.fieldLink RX8 104 "FiddlePlatesModel" "taps" "I", .fieldLink RX8 23 "FiddlePlatesModel" "tapThick" "[I", .fieldLink RX8 26 "FiddlePlatesModel" "tapTone" "[I", .fieldLink RX8 29 "FiddlePlatesModel" "tapLow" "[I", .fieldLink RX8 32 "FiddlePlatesModel" "tapHigh" "[I", .methodLink RX8 60 yX8_in, .static yX8_in, .initialized RX8, .code yX8_in cX8_in 3 (some .boolean)] ++ wsX80)
def wsX8_lies : List Cond := .code yX8_lies cX8_lies 6 (some .boolean) :: ([.methodLink RX8 89 yX8_belowOf, .instanceMethod yX8_belowOf, .selects RX8 yX8_belowOf yX8_belowOf, .initialized RX8, .code yX8_belowOf cX8_belowOf 16 (some .int), .fieldLink RX8 48 "FiddlePlatesModel" "now" "[I", .methodLink RX8 85 yX8_bondOf, .instanceMethod yX8_bondOf, .selects RX8 yX8_bondOf yX8_bondOf, .code yX8_bondOf cX8_bondOf 4 (some .long), .constantLong RX8 81 (32), .constantLong RX8 83 (8)] ++ wsX80)
def wsX8_findWoods_r1 : List Cond := [Cond.fieldLink RX8 107 "FiddlePlatesModel" "left" "I", Cond.fieldLink RX8 104 "FiddlePlatesModel" "taps" "I", Cond.fieldLink RX8 23 "FiddlePlatesModel" "tapThick" "[I", Cond.fieldLink RX8 26 "FiddlePlatesModel" "tapTone" "[I", Cond.fieldLink RX8 29 "FiddlePlatesModel" "tapLow" "[I", Cond.fieldLink RX8 32 "FiddlePlatesModel" "tapHigh" "[I", Cond.fieldLink RX8 51 "FiddlePlatesModel" "woods" "[I", Cond.methodLink RX8 97 yX8_take, Cond.instanceMethod yX8_take, Cond.selects RX8 yX8_take yX8_take, Cond.initialized RX8, Cond.code yX8_take cX8_take 4 none, Cond.fieldLink RX8 48 "FiddlePlatesModel" "now" "[I", Cond.methodLink RX8 110 yX8_lies, Cond.instanceMethod yX8_lies, Cond.selects RX8 yX8_lies yX8_lies, Cond.code yX8_lies cX8_lies 6 (some .boolean), Cond.methodLink RX8 89 yX8_belowOf, Cond.instanceMethod yX8_belowOf, Cond.selects RX8 yX8_belowOf yX8_belowOf, Cond.code yX8_belowOf cX8_belowOf 16 (some .int), Cond.methodLink RX8 85 yX8_bondOf, Cond.instanceMethod yX8_bondOf, Cond.selects RX8 yX8_bondOf yX8_bondOf]
def wsX8_findWoods_r2 : List Cond := [Cond.code yX8_bondOf cX8_bondOf 4 (some .long), Cond.constantLong RX8 81 (32), Cond.constantLong RX8 83 (8)]
def wsX8_findWoods : List Cond := .code yX8_findWoods cX8_findWoods 4 none :: ((wsX8_findWoods_r1 ++ wsX8_findWoods_r2) ++ wsX80)
def wsX8_toneBy : List Cond := .code yX8_toneBy cX8_toneBy 3 (some .int) :: ([.fieldLink RX8 51 "FiddlePlatesModel" "woods" "[I", .methodLink RX8 101 yX8_toneOf, .instanceMethod yX8_toneOf, .selects RX8 yX8_toneOf yX8_toneOf, .initialized RX8, .code yX8_toneOf cX8_toneOf 7 (some .int), .methodLink RX8 89 yX8_belowOf, .instanceMethod yX8_belowOf, .selects RX8 yX8_belowOf yX8_belowOf, .code yX8_belowOf cX8_belowOf 16 (some .int), .fieldLink RX8 48 "FiddlePlatesModel" "now" "[I", .methodLink RX8 85 yX8_bondOf, .instanceMethod yX8_bondOf, .selects RX8 yX8_bondOf yX8_bondOf, .code yX8_bondOf cX8_bondOf 4 (some .long), .constantLong RX8 81 (32), .constantLong RX8 83 (8)] ++ wsX80)
def wsX8_woods_r1 : List Cond := [Cond.fieldLink RX8 107 "FiddlePlatesModel" "left" "I", Cond.methodLink RX8 114 yX8_findWoods, Cond.instanceMethod yX8_findWoods, Cond.selects RX8 yX8_findWoods yX8_findWoods, Cond.initialized RX8, Cond.code yX8_findWoods cX8_findWoods 4 none, Cond.fieldLink RX8 104 "FiddlePlatesModel" "taps" "I", Cond.fieldLink RX8 23 "FiddlePlatesModel" "tapThick" "[I", Cond.fieldLink RX8 26 "FiddlePlatesModel" "tapTone" "[I", Cond.fieldLink RX8 29 "FiddlePlatesModel" "tapLow" "[I", Cond.fieldLink RX8 32 "FiddlePlatesModel" "tapHigh" "[I", Cond.fieldLink RX8 51 "FiddlePlatesModel" "woods" "[I", Cond.methodLink RX8 97 yX8_take, Cond.instanceMethod yX8_take, Cond.selects RX8 yX8_take yX8_take, Cond.code yX8_take cX8_take 4 none, Cond.fieldLink RX8 48 "FiddlePlatesModel" "now" "[I", Cond.methodLink RX8 110 yX8_lies, Cond.instanceMethod yX8_lies, Cond.selects RX8 yX8_lies yX8_lies, Cond.code yX8_lies cX8_lies 6 (some .boolean), Cond.methodLink RX8 89 yX8_belowOf, Cond.instanceMethod yX8_belowOf, Cond.selects RX8 yX8_belowOf yX8_belowOf]
def wsX8_woods_r2 : List Cond := [Cond.code yX8_belowOf cX8_belowOf 16 (some .int), Cond.methodLink RX8 85 yX8_bondOf, Cond.instanceMethod yX8_bondOf, Cond.selects RX8 yX8_bondOf yX8_bondOf, Cond.code yX8_bondOf cX8_bondOf 4 (some .long), Cond.constantLong RX8 81 (32), Cond.constantLong RX8 83 (8)]
def wsX8_woods : List Cond := .code yX8_woods cX8_woods 1 (some .int) :: ((wsX8_woods_r1 ++ wsX8_woods_r2) ++ wsX80)
def wsX8_wood_r1 : List Cond := [Cond.fieldLink RX8 107 "FiddlePlatesModel" "left" "I", Cond.fieldLink RX8 51 "FiddlePlatesModel" "woods" "[I", Cond.methodLink RX8 114 yX8_findWoods, Cond.instanceMethod yX8_findWoods, Cond.selects RX8 yX8_findWoods yX8_findWoods, Cond.initialized RX8, Cond.code yX8_findWoods cX8_findWoods 4 none, Cond.fieldLink RX8 104 "FiddlePlatesModel" "taps" "I", Cond.fieldLink RX8 23 "FiddlePlatesModel" "tapThick" "[I", Cond.fieldLink RX8 26 "FiddlePlatesModel" "tapTone" "[I", Cond.fieldLink RX8 29 "FiddlePlatesModel" "tapLow" "[I", Cond.fieldLink RX8 32 "FiddlePlatesModel" "tapHigh" "[I", Cond.methodLink RX8 97 yX8_take, Cond.instanceMethod yX8_take, Cond.selects RX8 yX8_take yX8_take, Cond.code yX8_take cX8_take 4 none, Cond.fieldLink RX8 48 "FiddlePlatesModel" "now" "[I", Cond.methodLink RX8 110 yX8_lies, Cond.instanceMethod yX8_lies, Cond.selects RX8 yX8_lies yX8_lies, Cond.code yX8_lies cX8_lies 6 (some .boolean), Cond.methodLink RX8 89 yX8_belowOf, Cond.instanceMethod yX8_belowOf, Cond.selects RX8 yX8_belowOf yX8_belowOf]
def wsX8_wood_r2 : List Cond := [Cond.code yX8_belowOf cX8_belowOf 16 (some .int), Cond.methodLink RX8 85 yX8_bondOf, Cond.instanceMethod yX8_bondOf, Cond.selects RX8 yX8_bondOf yX8_bondOf, Cond.code yX8_bondOf cX8_bondOf 4 (some .long), Cond.constantLong RX8 81 (32), Cond.constantLong RX8 83 (8), Cond.methodLink RX8 60 yX8_in, Cond.static yX8_in, Cond.code yX8_in cX8_in 3 (some .boolean)]
def wsX8_wood : List Cond := .code yX8_wood cX8_wood 3 (some .int) :: ((wsX8_wood_r1 ++ wsX8_wood_r2) ++ wsX80)
def wsX8_span_r1 : List Cond := [Cond.fieldLink RX8 107 "FiddlePlatesModel" "left" "I", Cond.fieldLink RX8 7 "FiddlePlatesModel" "thick" "[I", Cond.methodLink RX8 71 yX8_isPlate, Cond.instanceMethod yX8_isPlate, Cond.selects RX8 yX8_isPlate yX8_isPlate, Cond.initialized RX8, Cond.code yX8_isPlate cX8_isPlate 2 (some .boolean), Cond.fieldLink RX8 64 "FiddlePlatesModel" "plates" "I", Cond.methodLink RX8 60 yX8_in, Cond.static yX8_in, Cond.code yX8_in cX8_in 3 (some .boolean), Cond.methodLink RX8 74 yX8_isFour, Cond.static yX8_isFour, Cond.code yX8_isFour cX8_isFour 1 (some .boolean), Cond.methodLink RX8 114 yX8_findWoods, Cond.instanceMethod yX8_findWoods, Cond.selects RX8 yX8_findWoods yX8_findWoods, Cond.code yX8_findWoods cX8_findWoods 4 none, Cond.fieldLink RX8 104 "FiddlePlatesModel" "taps" "I", Cond.fieldLink RX8 23 "FiddlePlatesModel" "tapThick" "[I", Cond.fieldLink RX8 26 "FiddlePlatesModel" "tapTone" "[I", Cond.fieldLink RX8 29 "FiddlePlatesModel" "tapLow" "[I", Cond.fieldLink RX8 32 "FiddlePlatesModel" "tapHigh" "[I", Cond.fieldLink RX8 51 "FiddlePlatesModel" "woods" "[I"]
def wsX8_span_r2 : List Cond := [Cond.methodLink RX8 97 yX8_take, Cond.instanceMethod yX8_take, Cond.selects RX8 yX8_take yX8_take, Cond.code yX8_take cX8_take 4 none, Cond.fieldLink RX8 48 "FiddlePlatesModel" "now" "[I", Cond.methodLink RX8 110 yX8_lies, Cond.instanceMethod yX8_lies, Cond.selects RX8 yX8_lies yX8_lies, Cond.code yX8_lies cX8_lies 6 (some .boolean), Cond.methodLink RX8 89 yX8_belowOf, Cond.instanceMethod yX8_belowOf, Cond.selects RX8 yX8_belowOf yX8_belowOf, Cond.code yX8_belowOf cX8_belowOf 16 (some .int), Cond.methodLink RX8 85 yX8_bondOf, Cond.instanceMethod yX8_bondOf, Cond.selects RX8 yX8_bondOf yX8_bondOf, Cond.code yX8_bondOf cX8_bondOf 4 (some .long), Cond.constantLong RX8 81 (32), Cond.constantLong RX8 83 (8), Cond.methodLink RX8 117 yX8_toneBy, Cond.instanceMethod yX8_toneBy, Cond.selects RX8 yX8_toneBy yX8_toneBy, Cond.code yX8_toneBy cX8_toneBy 3 (some .int), Cond.methodLink RX8 101 yX8_toneOf]
def wsX8_span_r3 : List Cond := [Cond.instanceMethod yX8_toneOf, Cond.selects RX8 yX8_toneOf yX8_toneOf, Cond.code yX8_toneOf cX8_toneOf 7 (some .int)]
def wsX8_span : List Cond := .code yX8_span cX8_span 7 (some .int) :: ((wsX8_span_r1 ++ (wsX8_span_r2 ++ wsX8_span_r3)) ++ wsX80)
def wsX8_greatestHeap : List Cond := .code yX8_greatestHeap cX8_greatestHeap 5 (some .int) :: ([.fieldLink RX8 54 "FiddlePlatesModel" "heaps" "[I", .fieldLink RX8 107 "FiddlePlatesModel" "left" "I", .methodLink RX8 117 yX8_toneBy, .instanceMethod yX8_toneBy, .selects RX8 yX8_toneBy yX8_toneBy, .initialized RX8, .code yX8_toneBy cX8_toneBy 3 (some .int), .fieldLink RX8 51 "FiddlePlatesModel" "woods" "[I", .methodLink RX8 101 yX8_toneOf, .instanceMethod yX8_toneOf, .selects RX8 yX8_toneOf yX8_toneOf, .code yX8_toneOf cX8_toneOf 7 (some .int), .methodLink RX8 89 yX8_belowOf, .instanceMethod yX8_belowOf, .selects RX8 yX8_belowOf yX8_belowOf, .code yX8_belowOf cX8_belowOf 16 (some .int), .fieldLink RX8 48 "FiddlePlatesModel" "now" "[I", .methodLink RX8 85 yX8_bondOf, .instanceMethod yX8_bondOf, .selects RX8 yX8_bondOf yX8_bondOf, .code yX8_bondOf cX8_bondOf 4 (some .long), .constantLong RX8 81 (32), .constantLong RX8 83 (8)] ++ wsX80)
def wsX8_next_r1 : List Cond := [Cond.fieldLink RX8 107 "FiddlePlatesModel" "left" "I", Cond.fieldLink RX8 7 "FiddlePlatesModel" "thick" "[I", Cond.methodLink RX8 71 yX8_isPlate, Cond.instanceMethod yX8_isPlate, Cond.selects RX8 yX8_isPlate yX8_isPlate, Cond.initialized RX8, Cond.code yX8_isPlate cX8_isPlate 2 (some .boolean), Cond.fieldLink RX8 64 "FiddlePlatesModel" "plates" "I", Cond.methodLink RX8 60 yX8_in, Cond.static yX8_in, Cond.code yX8_in cX8_in 3 (some .boolean), Cond.methodLink RX8 114 yX8_findWoods, Cond.instanceMethod yX8_findWoods, Cond.selects RX8 yX8_findWoods yX8_findWoods, Cond.code yX8_findWoods cX8_findWoods 4 none, Cond.fieldLink RX8 104 "FiddlePlatesModel" "taps" "I", Cond.fieldLink RX8 23 "FiddlePlatesModel" "tapThick" "[I", Cond.fieldLink RX8 26 "FiddlePlatesModel" "tapTone" "[I", Cond.fieldLink RX8 29 "FiddlePlatesModel" "tapLow" "[I", Cond.fieldLink RX8 32 "FiddlePlatesModel" "tapHigh" "[I", Cond.fieldLink RX8 51 "FiddlePlatesModel" "woods" "[I", Cond.methodLink RX8 97 yX8_take, Cond.instanceMethod yX8_take, Cond.selects RX8 yX8_take yX8_take]
def wsX8_next_r2 : List Cond := [Cond.code yX8_take cX8_take 4 none, Cond.fieldLink RX8 48 "FiddlePlatesModel" "now" "[I", Cond.methodLink RX8 110 yX8_lies, Cond.instanceMethod yX8_lies, Cond.selects RX8 yX8_lies yX8_lies, Cond.code yX8_lies cX8_lies 6 (some .boolean), Cond.methodLink RX8 89 yX8_belowOf, Cond.instanceMethod yX8_belowOf, Cond.selects RX8 yX8_belowOf yX8_belowOf, Cond.code yX8_belowOf cX8_belowOf 16 (some .int), Cond.methodLink RX8 85 yX8_bondOf, Cond.instanceMethod yX8_bondOf, Cond.selects RX8 yX8_bondOf yX8_bondOf, Cond.code yX8_bondOf cX8_bondOf 4 (some .long), Cond.constantLong RX8 81 (32), Cond.constantLong RX8 83 (8), Cond.methodLink RX8 121 yX8_greatestHeap, Cond.instanceMethod yX8_greatestHeap, Cond.selects RX8 yX8_greatestHeap yX8_greatestHeap, Cond.code yX8_greatestHeap cX8_greatestHeap 5 (some .int), Cond.fieldLink RX8 54 "FiddlePlatesModel" "heaps" "[I", Cond.methodLink RX8 117 yX8_toneBy, Cond.instanceMethod yX8_toneBy, Cond.selects RX8 yX8_toneBy yX8_toneBy]
def wsX8_next_r3 : List Cond := [Cond.code yX8_toneBy cX8_toneBy 3 (some .int), Cond.methodLink RX8 101 yX8_toneOf, Cond.instanceMethod yX8_toneOf, Cond.selects RX8 yX8_toneOf yX8_toneOf, Cond.code yX8_toneOf cX8_toneOf 7 (some .int)]
def wsX8_next : List Cond := .code yX8_next cX8_next 7 (some .int) :: ((wsX8_next_r1 ++ (wsX8_next_r2 ++ wsX8_next_r3)) ++ wsX80)
def wsX8_aim : List Cond := .code yX8_aim cX8_aim 4 (some .int) :: ([.fieldLink RX8 35 "FiddlePlatesModel" "hasAim" "[Z", .fieldLink RX8 39 "FiddlePlatesModel" "aimFrom" "[I", .fieldLink RX8 42 "FiddlePlatesModel" "aimTo" "[I", .methodLink RX8 74 yX8_isFour, .static yX8_isFour, .initialized RX8, .code yX8_isFour cX8_isFour 1 (some .boolean), .methodLink RX8 60 yX8_in, .static yX8_in, .code yX8_in cX8_in 3 (some .boolean)] ++ wsX80)
def wsX8_aims : List Cond := .code yX8_aims cX8_aims 3 (some .int) :: ([.fieldLink RX8 35 "FiddlePlatesModel" "hasAim" "[Z"] ++ wsX80)
def wsX8_aimless : List Cond := .code yX8_aimless cX8_aimless 3 (some .int) :: ([.fieldLink RX8 35 "FiddlePlatesModel" "hasAim" "[Z", .methodLink RX8 125 yX8_aims, .instanceMethod yX8_aims, .selects RX8 yX8_aims yX8_aims, .initialized RX8, .code yX8_aims cX8_aims 3 (some .int)] ++ wsX80)
def wsX8_fits : List Cond := .code yX8_fits cX8_fits 4 (some .boolean) :: ([.fieldLink RX8 107 "FiddlePlatesModel" "left" "I", .fieldLink RX8 35 "FiddlePlatesModel" "hasAim" "[Z", .fieldLink RX8 51 "FiddlePlatesModel" "woods" "[I", .fieldLink RX8 39 "FiddlePlatesModel" "aimFrom" "[I", .fieldLink RX8 42 "FiddlePlatesModel" "aimTo" "[I", .methodLink RX8 110 yX8_lies, .instanceMethod yX8_lies, .selects RX8 yX8_lies yX8_lies, .initialized RX8, .code yX8_lies cX8_lies 6 (some .boolean), .methodLink RX8 89 yX8_belowOf, .instanceMethod yX8_belowOf, .selects RX8 yX8_belowOf yX8_belowOf, .code yX8_belowOf cX8_belowOf 16 (some .int), .fieldLink RX8 48 "FiddlePlatesModel" "now" "[I", .methodLink RX8 85 yX8_bondOf, .instanceMethod yX8_bondOf, .selects RX8 yX8_bondOf yX8_bondOf, .code yX8_bondOf cX8_bondOf 4 (some .long), .constantLong RX8 81 (32), .constantLong RX8 83 (8)] ++ wsX80)
def wsX8_mayBe : List Cond := .code yX8_mayBe cX8_mayBe 5 (some .boolean) :: ([.fieldLink RX8 7 "FiddlePlatesModel" "thick" "[I", .fieldLink RX8 13 "FiddlePlatesModel" "least" "I"] ++ wsX80)
def wsX8_findPlan_r1 : List Cond := [Cond.fieldLink RX8 129 "FiddlePlatesModel" "planned" "I", Cond.fieldLink RX8 48 "FiddlePlatesModel" "now" "[I", Cond.fieldLink RX8 7 "FiddlePlatesModel" "thick" "[I", Cond.fieldLink RX8 57 "FiddlePlatesModel" "end" "[I", Cond.methodLink RX8 132 yX8_mayBe, Cond.instanceMethod yX8_mayBe, Cond.selects RX8 yX8_mayBe yX8_mayBe, Cond.initialized RX8, Cond.code yX8_mayBe cX8_mayBe 5 (some .boolean), Cond.fieldLink RX8 13 "FiddlePlatesModel" "least" "I", Cond.methodLink RX8 135 yX8_fits, Cond.instanceMethod yX8_fits, Cond.selects RX8 yX8_fits yX8_fits, Cond.code yX8_fits cX8_fits 4 (some .boolean), Cond.fieldLink RX8 107 "FiddlePlatesModel" "left" "I", Cond.fieldLink RX8 35 "FiddlePlatesModel" "hasAim" "[Z", Cond.fieldLink RX8 51 "FiddlePlatesModel" "woods" "[I", Cond.fieldLink RX8 39 "FiddlePlatesModel" "aimFrom" "[I", Cond.fieldLink RX8 42 "FiddlePlatesModel" "aimTo" "[I", Cond.methodLink RX8 110 yX8_lies, Cond.instanceMethod yX8_lies, Cond.selects RX8 yX8_lies yX8_lies, Cond.code yX8_lies cX8_lies 6 (some .boolean), Cond.methodLink RX8 89 yX8_belowOf]
def wsX8_findPlan_r2 : List Cond := [Cond.instanceMethod yX8_belowOf, Cond.selects RX8 yX8_belowOf yX8_belowOf, Cond.code yX8_belowOf cX8_belowOf 16 (some .int), Cond.methodLink RX8 85 yX8_bondOf, Cond.instanceMethod yX8_bondOf, Cond.selects RX8 yX8_bondOf yX8_bondOf, Cond.code yX8_bondOf cX8_bondOf 4 (some .long), Cond.constantLong RX8 81 (32), Cond.constantLong RX8 83 (8)]
def wsX8_findPlan : List Cond := .code yX8_findPlan cX8_findPlan 6 none :: ((wsX8_findPlan_r1 ++ wsX8_findPlan_r2) ++ wsX80)
def wsX8_plan_r1 : List Cond := [Cond.fieldLink RX8 107 "FiddlePlatesModel" "left" "I", Cond.fieldLink RX8 129 "FiddlePlatesModel" "planned" "I", Cond.methodLink RX8 71 yX8_isPlate, Cond.instanceMethod yX8_isPlate, Cond.selects RX8 yX8_isPlate yX8_isPlate, Cond.initialized RX8, Cond.code yX8_isPlate cX8_isPlate 2 (some .boolean), Cond.fieldLink RX8 64 "FiddlePlatesModel" "plates" "I", Cond.methodLink RX8 60 yX8_in, Cond.static yX8_in, Cond.code yX8_in cX8_in 3 (some .boolean), Cond.methodLink RX8 114 yX8_findWoods, Cond.instanceMethod yX8_findWoods, Cond.selects RX8 yX8_findWoods yX8_findWoods, Cond.code yX8_findWoods cX8_findWoods 4 none, Cond.fieldLink RX8 104 "FiddlePlatesModel" "taps" "I", Cond.fieldLink RX8 23 "FiddlePlatesModel" "tapThick" "[I", Cond.fieldLink RX8 26 "FiddlePlatesModel" "tapTone" "[I", Cond.fieldLink RX8 29 "FiddlePlatesModel" "tapLow" "[I", Cond.fieldLink RX8 32 "FiddlePlatesModel" "tapHigh" "[I", Cond.fieldLink RX8 51 "FiddlePlatesModel" "woods" "[I", Cond.methodLink RX8 97 yX8_take, Cond.instanceMethod yX8_take, Cond.selects RX8 yX8_take yX8_take]
def wsX8_plan_r2 : List Cond := [Cond.code yX8_take cX8_take 4 none, Cond.fieldLink RX8 48 "FiddlePlatesModel" "now" "[I", Cond.methodLink RX8 110 yX8_lies, Cond.instanceMethod yX8_lies, Cond.selects RX8 yX8_lies yX8_lies, Cond.code yX8_lies cX8_lies 6 (some .boolean), Cond.methodLink RX8 89 yX8_belowOf, Cond.instanceMethod yX8_belowOf, Cond.selects RX8 yX8_belowOf yX8_belowOf, Cond.code yX8_belowOf cX8_belowOf 16 (some .int), Cond.methodLink RX8 85 yX8_bondOf, Cond.instanceMethod yX8_bondOf, Cond.selects RX8 yX8_bondOf yX8_bondOf, Cond.code yX8_bondOf cX8_bondOf 4 (some .long), Cond.constantLong RX8 81 (32), Cond.constantLong RX8 83 (8), Cond.methodLink RX8 139 yX8_findPlan, Cond.instanceMethod yX8_findPlan, Cond.selects RX8 yX8_findPlan yX8_findPlan, Cond.code yX8_findPlan cX8_findPlan 6 none, Cond.fieldLink RX8 7 "FiddlePlatesModel" "thick" "[I", Cond.fieldLink RX8 57 "FiddlePlatesModel" "end" "[I", Cond.methodLink RX8 132 yX8_mayBe, Cond.instanceMethod yX8_mayBe]
def wsX8_plan_r3 : List Cond := [Cond.selects RX8 yX8_mayBe yX8_mayBe, Cond.code yX8_mayBe cX8_mayBe 5 (some .boolean), Cond.fieldLink RX8 13 "FiddlePlatesModel" "least" "I", Cond.methodLink RX8 135 yX8_fits, Cond.instanceMethod yX8_fits, Cond.selects RX8 yX8_fits yX8_fits, Cond.code yX8_fits cX8_fits 4 (some .boolean), Cond.fieldLink RX8 35 "FiddlePlatesModel" "hasAim" "[Z", Cond.fieldLink RX8 39 "FiddlePlatesModel" "aimFrom" "[I", Cond.fieldLink RX8 42 "FiddlePlatesModel" "aimTo" "[I"]
def wsX8_plan : List Cond := .code yX8_plan cX8_plan 2 (some .int) :: ((wsX8_plan_r1 ++ (wsX8_plan_r2 ++ wsX8_plan_r3)) ++ wsX80)
def wsX8_planned_r1 : List Cond := [Cond.fieldLink RX8 107 "FiddlePlatesModel" "left" "I", Cond.fieldLink RX8 129 "FiddlePlatesModel" "planned" "I", Cond.fieldLink RX8 7 "FiddlePlatesModel" "thick" "[I", Cond.fieldLink RX8 57 "FiddlePlatesModel" "end" "[I", Cond.methodLink RX8 71 yX8_isPlate, Cond.instanceMethod yX8_isPlate, Cond.selects RX8 yX8_isPlate yX8_isPlate, Cond.initialized RX8, Cond.code yX8_isPlate cX8_isPlate 2 (some .boolean), Cond.fieldLink RX8 64 "FiddlePlatesModel" "plates" "I", Cond.methodLink RX8 60 yX8_in, Cond.static yX8_in, Cond.code yX8_in cX8_in 3 (some .boolean), Cond.methodLink RX8 114 yX8_findWoods, Cond.instanceMethod yX8_findWoods, Cond.selects RX8 yX8_findWoods yX8_findWoods, Cond.code yX8_findWoods cX8_findWoods 4 none, Cond.fieldLink RX8 104 "FiddlePlatesModel" "taps" "I", Cond.fieldLink RX8 23 "FiddlePlatesModel" "tapThick" "[I", Cond.fieldLink RX8 26 "FiddlePlatesModel" "tapTone" "[I", Cond.fieldLink RX8 29 "FiddlePlatesModel" "tapLow" "[I", Cond.fieldLink RX8 32 "FiddlePlatesModel" "tapHigh" "[I", Cond.fieldLink RX8 51 "FiddlePlatesModel" "woods" "[I", Cond.methodLink RX8 97 yX8_take]
def wsX8_planned_r2 : List Cond := [Cond.instanceMethod yX8_take, Cond.selects RX8 yX8_take yX8_take, Cond.code yX8_take cX8_take 4 none, Cond.fieldLink RX8 48 "FiddlePlatesModel" "now" "[I", Cond.methodLink RX8 110 yX8_lies, Cond.instanceMethod yX8_lies, Cond.selects RX8 yX8_lies yX8_lies, Cond.code yX8_lies cX8_lies 6 (some .boolean), Cond.methodLink RX8 89 yX8_belowOf, Cond.instanceMethod yX8_belowOf, Cond.selects RX8 yX8_belowOf yX8_belowOf, Cond.code yX8_belowOf cX8_belowOf 16 (some .int), Cond.methodLink RX8 85 yX8_bondOf, Cond.instanceMethod yX8_bondOf, Cond.selects RX8 yX8_bondOf yX8_bondOf, Cond.code yX8_bondOf cX8_bondOf 4 (some .long), Cond.constantLong RX8 81 (32), Cond.constantLong RX8 83 (8), Cond.methodLink RX8 139 yX8_findPlan, Cond.instanceMethod yX8_findPlan, Cond.selects RX8 yX8_findPlan yX8_findPlan, Cond.code yX8_findPlan cX8_findPlan 6 none, Cond.methodLink RX8 132 yX8_mayBe, Cond.instanceMethod yX8_mayBe]
def wsX8_planned_r3 : List Cond := [Cond.selects RX8 yX8_mayBe yX8_mayBe, Cond.code yX8_mayBe cX8_mayBe 5 (some .boolean), Cond.fieldLink RX8 13 "FiddlePlatesModel" "least" "I", Cond.methodLink RX8 135 yX8_fits, Cond.instanceMethod yX8_fits, Cond.selects RX8 yX8_fits yX8_fits, Cond.code yX8_fits cX8_fits 4 (some .boolean), Cond.fieldLink RX8 35 "FiddlePlatesModel" "hasAim" "[Z", Cond.fieldLink RX8 39 "FiddlePlatesModel" "aimFrom" "[I", Cond.fieldLink RX8 42 "FiddlePlatesModel" "aimTo" "[I"]
def wsX8_planned : List Cond := .code yX8_planned cX8_planned 6 (some .int) :: ((wsX8_planned_r1 ++ (wsX8_planned_r2 ++ wsX8_planned_r3)) ++ wsX80)
def wsX8_carve_r1 : List Cond := [Cond.fieldLink RX8 107 "FiddlePlatesModel" "left" "I", Cond.fieldLink RX8 129 "FiddlePlatesModel" "planned" "I", Cond.fieldLink RX8 17 "FiddlePlatesModel" "logged" "[I", Cond.fieldLink RX8 7 "FiddlePlatesModel" "thick" "[I", Cond.fieldLink RX8 57 "FiddlePlatesModel" "end" "[I", Cond.methodLink RX8 71 yX8_isPlate, Cond.instanceMethod yX8_isPlate, Cond.selects RX8 yX8_isPlate yX8_isPlate, Cond.initialized RX8, Cond.code yX8_isPlate cX8_isPlate 2 (some .boolean), Cond.fieldLink RX8 64 "FiddlePlatesModel" "plates" "I", Cond.methodLink RX8 60 yX8_in, Cond.static yX8_in, Cond.code yX8_in cX8_in 3 (some .boolean), Cond.methodLink RX8 114 yX8_findWoods, Cond.instanceMethod yX8_findWoods, Cond.selects RX8 yX8_findWoods yX8_findWoods, Cond.code yX8_findWoods cX8_findWoods 4 none, Cond.fieldLink RX8 104 "FiddlePlatesModel" "taps" "I", Cond.fieldLink RX8 23 "FiddlePlatesModel" "tapThick" "[I", Cond.fieldLink RX8 26 "FiddlePlatesModel" "tapTone" "[I", Cond.fieldLink RX8 29 "FiddlePlatesModel" "tapLow" "[I", Cond.fieldLink RX8 32 "FiddlePlatesModel" "tapHigh" "[I", Cond.fieldLink RX8 51 "FiddlePlatesModel" "woods" "[I"]
def wsX8_carve_r2 : List Cond := [Cond.methodLink RX8 97 yX8_take, Cond.instanceMethod yX8_take, Cond.selects RX8 yX8_take yX8_take, Cond.code yX8_take cX8_take 4 none, Cond.fieldLink RX8 48 "FiddlePlatesModel" "now" "[I", Cond.methodLink RX8 110 yX8_lies, Cond.instanceMethod yX8_lies, Cond.selects RX8 yX8_lies yX8_lies, Cond.code yX8_lies cX8_lies 6 (some .boolean), Cond.methodLink RX8 89 yX8_belowOf, Cond.instanceMethod yX8_belowOf, Cond.selects RX8 yX8_belowOf yX8_belowOf, Cond.code yX8_belowOf cX8_belowOf 16 (some .int), Cond.methodLink RX8 85 yX8_bondOf, Cond.instanceMethod yX8_bondOf, Cond.selects RX8 yX8_bondOf yX8_bondOf, Cond.code yX8_bondOf cX8_bondOf 4 (some .long), Cond.constantLong RX8 81 (32), Cond.constantLong RX8 83 (8), Cond.methodLink RX8 139 yX8_findPlan, Cond.instanceMethod yX8_findPlan, Cond.selects RX8 yX8_findPlan yX8_findPlan, Cond.code yX8_findPlan cX8_findPlan 6 none, Cond.methodLink RX8 132 yX8_mayBe]
def wsX8_carve_r3 : List Cond := [Cond.instanceMethod yX8_mayBe, Cond.selects RX8 yX8_mayBe yX8_mayBe, Cond.code yX8_mayBe cX8_mayBe 5 (some .boolean), Cond.fieldLink RX8 13 "FiddlePlatesModel" "least" "I", Cond.methodLink RX8 135 yX8_fits, Cond.instanceMethod yX8_fits, Cond.selects RX8 yX8_fits yX8_fits, Cond.code yX8_fits cX8_fits 4 (some .boolean), Cond.fieldLink RX8 35 "FiddlePlatesModel" "hasAim" "[Z", Cond.fieldLink RX8 39 "FiddlePlatesModel" "aimFrom" "[I", Cond.fieldLink RX8 42 "FiddlePlatesModel" "aimTo" "[I", Cond.methodLink RX8 77 yX8_shaveOff, Cond.instanceMethod yX8_shaveOff, Cond.selects RX8 yX8_shaveOff yX8_shaveOff, Cond.code yX8_shaveOff cX8_shaveOff 3 none, Cond.fieldLink RX8 20 "FiddlePlatesModel" "logs" "[I"]
def wsX8_carve : List Cond := .code yX8_carve cX8_carve 3 (some .int) :: ((wsX8_carve_r1 ++ (wsX8_carve_r2 ++ wsX8_carve_r3)) ++ wsX80)
def wsX8_off : List Cond := .code yX8_off cX8_off 3 (some .int) :: ([.fieldLink RX8 45 "FiddlePlatesModel" "off" "I", .methodLink RX8 60 yX8_in, .static yX8_in, .initialized RX8, .code yX8_in cX8_in 3 (some .boolean)] ++ wsX80)
def wsX8_even_r1 : List Cond := [Cond.fieldLink RX8 107 "FiddlePlatesModel" "left" "I", Cond.fieldLink RX8 7 "FiddlePlatesModel" "thick" "[I", Cond.fieldLink RX8 45 "FiddlePlatesModel" "off" "I", Cond.methodLink RX8 71 yX8_isPlate, Cond.instanceMethod yX8_isPlate, Cond.selects RX8 yX8_isPlate yX8_isPlate, Cond.initialized RX8, Cond.code yX8_isPlate cX8_isPlate 2 (some .boolean), Cond.fieldLink RX8 64 "FiddlePlatesModel" "plates" "I", Cond.methodLink RX8 60 yX8_in, Cond.static yX8_in, Cond.code yX8_in cX8_in 3 (some .boolean), Cond.methodLink RX8 114 yX8_findWoods, Cond.instanceMethod yX8_findWoods, Cond.selects RX8 yX8_findWoods yX8_findWoods, Cond.code yX8_findWoods cX8_findWoods 4 none, Cond.fieldLink RX8 104 "FiddlePlatesModel" "taps" "I", Cond.fieldLink RX8 23 "FiddlePlatesModel" "tapThick" "[I", Cond.fieldLink RX8 26 "FiddlePlatesModel" "tapTone" "[I", Cond.fieldLink RX8 29 "FiddlePlatesModel" "tapLow" "[I", Cond.fieldLink RX8 32 "FiddlePlatesModel" "tapHigh" "[I", Cond.fieldLink RX8 51 "FiddlePlatesModel" "woods" "[I", Cond.methodLink RX8 97 yX8_take, Cond.instanceMethod yX8_take]
def wsX8_even_r2 : List Cond := [Cond.selects RX8 yX8_take yX8_take, Cond.code yX8_take cX8_take 4 none, Cond.fieldLink RX8 48 "FiddlePlatesModel" "now" "[I", Cond.methodLink RX8 110 yX8_lies, Cond.instanceMethod yX8_lies, Cond.selects RX8 yX8_lies yX8_lies, Cond.code yX8_lies cX8_lies 6 (some .boolean), Cond.methodLink RX8 89 yX8_belowOf, Cond.instanceMethod yX8_belowOf, Cond.selects RX8 yX8_belowOf yX8_belowOf, Cond.code yX8_belowOf cX8_belowOf 16 (some .int), Cond.methodLink RX8 85 yX8_bondOf, Cond.instanceMethod yX8_bondOf, Cond.selects RX8 yX8_bondOf yX8_bondOf, Cond.code yX8_bondOf cX8_bondOf 4 (some .long), Cond.constantLong RX8 81 (32), Cond.constantLong RX8 83 (8), Cond.methodLink RX8 117 yX8_toneBy, Cond.instanceMethod yX8_toneBy, Cond.selects RX8 yX8_toneBy yX8_toneBy, Cond.code yX8_toneBy cX8_toneBy 3 (some .int), Cond.methodLink RX8 101 yX8_toneOf, Cond.instanceMethod yX8_toneOf, Cond.selects RX8 yX8_toneOf yX8_toneOf]
def wsX8_even_r3 : List Cond := [Cond.code yX8_toneOf cX8_toneOf 7 (some .int)]
def wsX8_even : List Cond := .code yX8_even cX8_even 6 (some .int) :: ((wsX8_even_r1 ++ (wsX8_even_r2 ++ wsX8_even_r3)) ++ wsX80)
def wsX8_count : List Cond := .code yX8_count cX8_count 4 (some .int) :: ([.fieldLink RX8 64 "FiddlePlatesModel" "plates" "I", .fieldLink RX8 104 "FiddlePlatesModel" "taps" "I", .fieldLink RX8 17 "FiddlePlatesModel" "logged" "[I", .methodLink RX8 125 yX8_aims, .instanceMethod yX8_aims, .selects RX8 yX8_aims yX8_aims, .initialized RX8, .code yX8_aims cX8_aims 3 (some .int), .fieldLink RX8 35 "FiddlePlatesModel" "hasAim" "[Z"] ++ wsX80)
def wsJ9_abs_0f7a4 : List Cond := .code yJ9_abs_0f7a4 cJ9_abs_0f7a4 1 (some .int) :: ([])
def wsJ9_max_7cf53 : List Cond := .code yJ9_max_7cf53 cJ9_max_7cf53 2 (some .int) :: ([])
def wsJ9_min_7cf53 : List Cond := .code yJ9_min_7cf53 cJ9_min_7cf53 2 (some .int) :: ([])
def wsL_law_r1 : List Cond := [Cond.classLink RL 7 RX7, Cond.instantiable RX7 10, Cond.initialized RX7, Cond.classLink RL 10 RX8, Cond.instantiable RX8 20, Cond.initialized RX8, Cond.methodLink RL 9 yX7_init, Cond.instanceMethod yX7_init, Cond.code yX7_init cX7_init 2 none, Cond.methodLink RX7 1 objectInit, Cond.instanceMethod objectInit, Cond.code objectInit ⟨#[0xb1]⟩ 1 none, Cond.classLink RX7 9 RX4, Cond.fieldLink RX7 11 "FiddlePlates" "plates" "[LFiddlePlates$Plate;", Cond.classLink RX7 15 RX2, Cond.instantiable RX2 7, Cond.initialized RX2, Cond.fieldLink RX7 18 "FiddlePlates" "house" "LFiddlePlates$House;", Cond.classLink RX7 22 RX0, Cond.instantiable RX0 3, Cond.initialized RX0, Cond.fieldLink RX7 25 "FiddlePlates" "aims" "LFiddlePlates$Aims;", Cond.classLink RX7 29 RX3, Cond.instantiable RX3 5]
def wsL_law_r2 : List Cond := [Cond.initialized RX3, Cond.fieldLink RX7 32 "FiddlePlates" "planner" "LFiddlePlates$Planner;", Cond.classLink RX7 36 RX1, Cond.instantiable RX1 1, Cond.initialized RX1, Cond.fieldLink RX7 39 "FiddlePlates" "heaps" "LFiddlePlates$Heaps;", Cond.arrayClass .int, Cond.fieldLink RX7 43 "FiddlePlates" "valuesOfOne" "[I", Cond.fieldLink RX7 47 "FiddlePlates" "valuesOfOther" "[I", Cond.fieldLink RX7 50 "FiddlePlates" "plateCount" "I", Cond.fieldLink RX7 54 "FiddlePlates" "leastThickness" "I", Cond.fieldLink RX7 57 "FiddlePlates" "offAtMost" "I", Cond.instantiable RX4 3, Cond.initialized RX4, Cond.methodLink RX7 17 yX2_init, Cond.instanceMethod yX2_init, Cond.code yX2_init cX2_init 2 none, Cond.methodLink RX2 3 objectInit, Cond.classLink RX2 9 RX6, Cond.fieldLink RX2 11 "FiddlePlates$House" "taps" "[LFiddlePlates$Tap;", Cond.fieldLink RX2 17 "FiddlePlates$House" "tapCount" "I", Cond.fieldLink RX2 21 "FiddlePlates$House" "stiffness" "[I", Cond.fieldLink RX2 25 "FiddlePlates$House" "weight" "[I", Cond.fieldLink RX2 28 "FiddlePlates$House" "left" "I"]
def wsL_law_r3 : List Cond := [Cond.fieldLink RX2 31 "FiddlePlates$House" "heavy" "[I", Cond.fieldLink RX2 34 "FiddlePlates$House" "light" "[I", Cond.instantiable RX6 3, Cond.initialized RX6, Cond.instanceMethod yX6_init, Cond.code yX6_init cX6_init 1 none, Cond.methodLink RX6 3 objectInit, Cond.fieldLink RX6 9 "FiddlePlates$Tap" "values" "[I", Cond.fieldLink RX6 15 "FiddlePlates$Tap" "low" "I", Cond.fieldLink RX6 19 "FiddlePlates$Tap" "high" "I", Cond.methodLink RX2 38 yX2_sift, Cond.instanceMethod yX2_sift, Cond.selects RX2 yX2_sift yX2_sift, Cond.code yX2_sift cX2_sift 3 none, Cond.methodLink RX2 56 yX2_fitsAllTaps, Cond.instanceMethod yX2_fitsAllTaps, Cond.selects RX2 yX2_fitsAllTaps yX2_fitsAllTaps, Cond.code yX2_fitsAllTaps cX2_fitsAllTaps 4 (some .boolean), Cond.methodLink RX2 67 yX6_fits, Cond.instanceMethod yX6_fits, Cond.selects RX6 yX6_fits yX6_fits, Cond.code yX6_fits cX6_fits 4 (some .boolean), Cond.methodLink RX6 22 yX5_byWeight, Cond.static yX5_byWeight]
def wsL_law_r4 : List Cond := [Cond.initialized RX5, Cond.code yX5_byWeight cX5_byWeight 2 (some .int), Cond.methodLink RX2 60 yX2_keep, Cond.instanceMethod yX2_keep, Cond.selects RX2 yX2_keep yX2_keep, Cond.code yX2_keep cX2_keep 3 none, Cond.methodLink RX2 64 yX2_dropInnerWoods, Cond.instanceMethod yX2_dropInnerWoods, Cond.selects RX2 yX2_dropInnerWoods yX2_dropInnerWoods, Cond.code yX2_dropInnerWoods cX2_dropInnerWoods 4 none, Cond.instanceMethod yX0_init, Cond.code yX0_init cX0_init 1 none, Cond.methodLink RX0 3 objectInit, Cond.arrayClass .boolean, Cond.fieldLink RX0 9 "FiddlePlates$Aims" "set" "[Z", Cond.fieldLink RX0 15 "FiddlePlates$Aims" "from" "[I", Cond.fieldLink RX0 19 "FiddlePlates$Aims" "to" "[I", Cond.instanceMethod yX3_init, Cond.code yX3_init cX3_init 1 none, Cond.methodLink RX3 3 objectInit, Cond.fieldLink RX3 9 "FiddlePlates$Planner" "taken" "[I", Cond.fieldLink RX3 15 "FiddlePlates$Planner" "room" "[I", Cond.fieldLink RX3 18 "FiddlePlates$Planner" "end" "[I", Cond.fieldLink RX3 21 "FiddlePlates$Planner" "shavings" "I"]
def wsL_law_r5 : List Cond := [Cond.fieldLink RX3 25 "FiddlePlates$Planner" "plate" "I", Cond.instanceMethod yX1_init, Cond.code yX1_init cX1_init 1 none, Cond.methodLink RX1 3 objectInit, Cond.fieldLink RX1 9 "FiddlePlates$Heaps" "sizes" "[I", Cond.instanceMethod yX4_init, Cond.code yX4_init cX4_init 1 none, Cond.methodLink RX4 3 objectInit, Cond.fieldLink RX4 9 "FiddlePlates$Plate" "strips" "[I", Cond.fieldLink RX4 15 "FiddlePlates$Plate" "log" "[I", Cond.fieldLink RX4 18 "FiddlePlates$Plate" "logged" "I", Cond.methodLink RL 12 yX8_init, Cond.instanceMethod yX8_init, Cond.code yX8_init cX8_init 1 none, Cond.methodLink RX8 1 objectInit, Cond.fieldLink RX8 7 "FiddlePlatesModel" "thick" "[I", Cond.fieldLink RX8 13 "FiddlePlatesModel" "least" "I", Cond.fieldLink RX8 17 "FiddlePlatesModel" "logged" "[I", Cond.fieldLink RX8 20 "FiddlePlatesModel" "logs" "[I", Cond.fieldLink RX8 23 "FiddlePlatesModel" "tapThick" "[I", Cond.fieldLink RX8 26 "FiddlePlatesModel" "tapTone" "[I", Cond.fieldLink RX8 29 "FiddlePlatesModel" "tapLow" "[I", Cond.fieldLink RX8 32 "FiddlePlatesModel" "tapHigh" "[I", Cond.fieldLink RX8 35 "FiddlePlatesModel" "hasAim" "[Z"]
def wsL_law_r6 : List Cond := [Cond.fieldLink RX8 39 "FiddlePlatesModel" "aimFrom" "[I", Cond.fieldLink RX8 42 "FiddlePlatesModel" "aimTo" "[I", Cond.fieldLink RX8 45 "FiddlePlatesModel" "off" "I", Cond.fieldLink RX8 48 "FiddlePlatesModel" "now" "[I", Cond.fieldLink RX8 51 "FiddlePlatesModel" "woods" "[I", Cond.fieldLink RX8 54 "FiddlePlatesModel" "heaps" "[I", Cond.fieldLink RX8 57 "FiddlePlatesModel" "end" "[I", Cond.methodLink RL 13 yX7_plate, Cond.instanceMethod yX7_plate, Cond.selects RX7 yX7_plate yX7_plate, Cond.code yX7_plate cX7_plate 5 (some .int), Cond.methodLink RX7 61 yX7_isThickness, Cond.static yX7_isThickness, Cond.code yX7_isThickness cX7_isThickness 1 (some .boolean), Cond.methodLink RX7 65 yX4_lay, Cond.instanceMethod yX4_lay, Cond.selects RX4 yX4_lay yX4_lay, Cond.code yX4_lay cX4_lay 5 none, Cond.methodLink RL 17 yX8_plate, Cond.instanceMethod yX8_plate, Cond.selects RX8 yX8_plate yX8_plate, Cond.code yX8_plate cX8_plate 5 (some .int), Cond.fieldLink RX8 64 "FiddlePlatesModel" "plates" "I", Cond.methodLink RX8 67 yX8_isThick]
def wsL_law_r7 : List Cond := [Cond.static yX8_isThick, Cond.code yX8_isThick cX8_isThick 1 (some .boolean), Cond.methodLink RX8 60 yX8_in, Cond.static yX8_in, Cond.code yX8_in cX8_in 3 (some .boolean), Cond.methodLink RL 18 yX7_thick, Cond.instanceMethod yX7_thick, Cond.selects RX7 yX7_thick yX7_thick, Cond.code yX7_thick cX7_thick 3 (some .int), Cond.fieldLink RX7 75 "FiddlePlates$Plate" "strips" "[I", Cond.methodLink RX7 69 yX7_isPlate, Cond.instanceMethod yX7_isPlate, Cond.selects RX7 yX7_isPlate yX7_isPlate, Cond.code yX7_isPlate cX7_isPlate 2 (some .boolean), Cond.methodLink RX7 72 yX7_isStrip, Cond.static yX7_isStrip, Cond.code yX7_isStrip cX7_isStrip 1 (some .boolean), Cond.methodLink RL 22 yX8_thick, Cond.instanceMethod yX8_thick, Cond.selects RX8 yX8_thick yX8_thick, Cond.code yX8_thick cX8_thick 3 (some .int), Cond.methodLink RX8 71 yX8_isPlate, Cond.instanceMethod yX8_isPlate, Cond.selects RX8 yX8_isPlate yX8_isPlate]
def wsL_law_r8 : List Cond := [Cond.code yX8_isPlate cX8_isPlate 2 (some .boolean), Cond.methodLink RX8 74 yX8_isFour, Cond.static yX8_isFour, Cond.code yX8_isFour cX8_isFour 1 (some .boolean), Cond.methodLink RL 23 yX7_least, Cond.instanceMethod yX7_least, Cond.selects RX7 yX7_least yX7_least, Cond.code yX7_least cX7_least 3 (some .int), Cond.methodLink RX7 78 yX3_forget, Cond.instanceMethod yX3_forget, Cond.selects RX3 yX3_forget yX3_forget, Cond.code yX3_forget cX3_forget 1 none, Cond.methodLink RL 27 yX8_least, Cond.instanceMethod yX8_least, Cond.selects RX8 yX8_least yX8_least, Cond.code yX8_least cX8_least 3 (some .int), Cond.methodLink RL 28 yX7_shave, Cond.instanceMethod yX7_shave, Cond.selects RX7 yX7_shave yX7_shave, Cond.code yX7_shave cX7_shave 4 (some .int), Cond.fieldLink RX7 81 "FiddlePlates$Plate" "logged" "I", Cond.methodLink RX7 84 yX4_takeOff, Cond.instanceMethod yX4_takeOff, Cond.selects RX4 yX4_takeOff yX4_takeOff]
def wsL_law_r9 : List Cond := [Cond.code yX4_takeOff cX4_takeOff 2 none, Cond.methodLink RL 31 yX8_shave, Cond.instanceMethod yX8_shave, Cond.selects RX8 yX8_shave yX8_shave, Cond.code yX8_shave cX8_shave 3 (some .int), Cond.methodLink RX8 77 yX8_shaveOff, Cond.instanceMethod yX8_shaveOff, Cond.selects RX8 yX8_shaveOff yX8_shaveOff, Cond.code yX8_shaveOff cX8_shaveOff 3 none, Cond.methodLink RL 32 yX7_undo, Cond.instanceMethod yX7_undo, Cond.selects RX7 yX7_undo yX7_undo, Cond.code yX7_undo cX7_undo 2 (some .int), Cond.methodLink RX7 88 yX4_putBack, Cond.instanceMethod yX4_putBack, Cond.selects RX4 yX4_putBack yX4_putBack, Cond.code yX4_putBack cX4_putBack 2 (some .int), Cond.methodLink RL 35 yX8_undo, Cond.instanceMethod yX8_undo, Cond.selects RX8 yX8_undo yX8_undo, Cond.code yX8_undo cX8_undo 3 (some .int), Cond.methodLink RL 36 yX7_mirror, Cond.instanceMethod yX7_mirror, Cond.selects RX7 yX7_mirror yX7_mirror]
def wsL_law_r10 : List Cond := [Cond.code yX7_mirror cX7_mirror 2 (some .int), Cond.methodLink RX7 92 yX4_turn, Cond.instanceMethod yX4_turn, Cond.selects RX4 yX4_turn yX4_turn, Cond.code yX4_turn cX4_turn 1 none, Cond.methodLink RX4 30 yX4_lay, Cond.methodLink RL 39 yX8_mirror, Cond.instanceMethod yX8_mirror, Cond.selects RX8 yX8_mirror yX8_mirror, Cond.code yX8_mirror cX8_mirror 4 (some .int), Cond.methodLink RL 40 yX7_tone, Cond.instanceMethod yX7_tone, Cond.selects RX7 yX7_tone yX7_tone, Cond.code yX7_tone cX7_tone 5 (some .int), Cond.methodLink RX7 95 yX7_isWood, Cond.static yX7_isWood, Cond.code yX7_isWood cX7_isWood 2 (some .boolean), Cond.methodLink RX7 99 yX7_isTone, Cond.static yX7_isTone, Cond.code yX7_isTone cX7_isTone 1 (some .boolean), Cond.methodLink RX7 102 yX5_wholeValue, Cond.static yX5_wholeValue, Cond.code yX5_wholeValue cX5_wholeValue 5 (some .int), Cond.methodLink RX5 15 yX5_valuesBelow]
def wsL_law_r11 : List Cond := [Cond.static yX5_valuesBelow, Cond.code yX5_valuesBelow cX5_valuesBelow 18 (some .int), Cond.methodLink RX5 9 yX5_bondAt, Cond.static yX5_bondAt, Cond.code yX5_bondAt cX5_bondAt 4 (some .int), Cond.methodLink RX7 108 yX5_byWeight, Cond.methodLink RL 43 yX8_tone, Cond.instanceMethod yX8_tone, Cond.selects RX8 yX8_tone yX8_tone, Cond.code yX8_tone cX8_tone 5 (some .int), Cond.methodLink RX8 93 yX8_isWood, Cond.static yX8_isWood, Cond.code yX8_isWood cX8_isWood 2 (some .boolean), Cond.methodLink RX8 97 yX8_take, Cond.instanceMethod yX8_take, Cond.selects RX8 yX8_take yX8_take, Cond.code yX8_take cX8_take 4 none, Cond.methodLink RX8 101 yX8_toneOf, Cond.instanceMethod yX8_toneOf, Cond.selects RX8 yX8_toneOf yX8_toneOf, Cond.code yX8_toneOf cX8_toneOf 7 (some .int), Cond.methodLink RX8 89 yX8_belowOf, Cond.instanceMethod yX8_belowOf, Cond.selects RX8 yX8_belowOf yX8_belowOf]
def wsL_law_r12 : List Cond := [Cond.code yX8_belowOf cX8_belowOf 16 (some .int), Cond.methodLink RX8 85 yX8_bondOf, Cond.instanceMethod yX8_bondOf, Cond.selects RX8 yX8_bondOf yX8_bondOf, Cond.code yX8_bondOf cX8_bondOf 4 (some .long), Cond.constantLong RX8 81 (32), Cond.constantLong RX8 83 (8), Cond.methodLink RL 44 yX7_below, Cond.instanceMethod yX7_below, Cond.selects RX7 yX7_below yX7_below, Cond.code yX7_below cX7_below 5 (some .int), Cond.methodLink RX7 112 yX7_isNumber, Cond.static yX7_isNumber, Cond.code yX7_isNumber cX7_isNumber 1 (some .boolean), Cond.methodLink RX7 115 yX5_valuesBelow, Cond.methodLink RL 47 yX8_below, Cond.instanceMethod yX8_below, Cond.selects RX8 yX8_below yX8_below, Cond.code yX8_below cX8_below 5 (some .int), Cond.methodLink RL 48 yX7_bond, Cond.instanceMethod yX7_bond, Cond.selects RX7 yX7_bond yX7_bond, Cond.code yX7_bond cX7_bond 4 (some .int), Cond.methodLink RX7 118 yX5_bondAt]
def wsL_law_r13 : List Cond := [Cond.methodLink RL 52 yX8_bond, Cond.instanceMethod yX8_bond, Cond.selects RX8 yX8_bond yX8_bond, Cond.code yX8_bond cX8_bond 4 (some .int), Cond.methodLink RL 53 yX7_tap, Cond.instanceMethod yX7_tap, Cond.selects RX7 yX7_tap yX7_tap, Cond.code yX7_tap cX7_tap 5 (some .int), Cond.fieldLink RX7 124 "FiddlePlates$House" "tapCount" "I", Cond.methodLink RX7 121 yX7_isSpan, Cond.static yX7_isSpan, Cond.code yX7_isSpan cX7_isSpan 2 (some .boolean), Cond.methodLink RX7 127 yX2_addTap, Cond.instanceMethod yX2_addTap, Cond.selects RX2 yX2_addTap yX2_addTap, Cond.code yX2_addTap cX2_addTap 6 none, Cond.fieldLink RX2 41 "FiddlePlates$Tap" "values" "[I", Cond.fieldLink RX2 50 "FiddlePlates$Tap" "low" "I", Cond.fieldLink RX2 53 "FiddlePlates$Tap" "high" "I", Cond.methodLink RX2 44 yX5_fillWholeValues, Cond.static yX5_fillWholeValues, Cond.code yX5_fillWholeValues cX5_fillWholeValues 4 none, Cond.methodLink RX5 18 yX5_wholeValue, Cond.methodLink RL 56 yX8_tap]
def wsL_law_r14 : List Cond := [Cond.instanceMethod yX8_tap, Cond.selects RX8 yX8_tap yX8_tap, Cond.code yX8_tap cX8_tap 6 (some .int), Cond.fieldLink RX8 104 "FiddlePlatesModel" "taps" "I", Cond.methodLink RL 57 yX7_untap, Cond.instanceMethod yX7_untap, Cond.selects RX7 yX7_untap yX7_untap, Cond.code yX7_untap cX7_untap 2 (some .int), Cond.methodLink RX7 131 yX2_dropTap, Cond.instanceMethod yX2_dropTap, Cond.selects RX2 yX2_dropTap yX2_dropTap, Cond.code yX2_dropTap cX2_dropTap 4 none, Cond.methodLink RL 60 yX8_untap, Cond.instanceMethod yX8_untap, Cond.selects RX8 yX8_untap yX8_untap, Cond.code yX8_untap cX8_untap 4 (some .int), Cond.methodLink RL 61 yX7_woods, Cond.instanceMethod yX7_woods, Cond.selects RX7 yX7_woods yX7_woods, Cond.code yX7_woods cX7_woods 1 (some .int), Cond.fieldLink RX7 134 "FiddlePlates$House" "left" "I", Cond.methodLink RL 65 yX8_woods, Cond.instanceMethod yX8_woods, Cond.selects RX8 yX8_woods yX8_woods]
def wsL_law_r15 : List Cond := [Cond.code yX8_woods cX8_woods 1 (some .int), Cond.fieldLink RX8 107 "FiddlePlatesModel" "left" "I", Cond.methodLink RX8 114 yX8_findWoods, Cond.instanceMethod yX8_findWoods, Cond.selects RX8 yX8_findWoods yX8_findWoods, Cond.code yX8_findWoods cX8_findWoods 4 none, Cond.methodLink RX8 110 yX8_lies, Cond.instanceMethod yX8_lies, Cond.selects RX8 yX8_lies yX8_lies, Cond.code yX8_lies cX8_lies 6 (some .boolean), Cond.methodLink RL 66 yX7_wood, Cond.instanceMethod yX7_wood, Cond.selects RX7 yX7_wood yX7_wood, Cond.code yX7_wood cX7_wood 3 (some .int), Cond.fieldLink RX7 140 "FiddlePlates$House" "stiffness" "[I", Cond.fieldLink RX7 143 "FiddlePlates$House" "weight" "[I", Cond.methodLink RX7 137 yX7_isOneOfTwo, Cond.static yX7_isOneOfTwo, Cond.code yX7_isOneOfTwo cX7_isOneOfTwo 1 (some .boolean), Cond.methodLink RL 69 yX8_wood, Cond.instanceMethod yX8_wood, Cond.selects RX8 yX8_wood yX8_wood, Cond.code yX8_wood cX8_wood 3 (some .int), Cond.methodLink RL 70 yX7_span]
def wsL_law_r16 : List Cond := [Cond.instanceMethod yX7_span, Cond.selects RX7 yX7_span yX7_span, Cond.code yX7_span cX7_span 4 (some .int), Cond.methodLink RX7 146 yX5_fillWholeValues, Cond.methodLink RX7 150 yX2_leastTone, Cond.instanceMethod yX2_leastTone, Cond.selects RX2 yX2_leastTone yX2_leastTone, Cond.code yX2_leastTone cX2_leastTone 4 (some .int), Cond.constant RX2 72 (2147483647), Cond.methodLink RX2 77 Lib.Math.min.name, Cond.static Lib.Math.min.name, Cond.initialized "java/lang/Math", Cond.code Lib.Math.min.name Lib.Math.min.code 2 (some .int), Cond.methodLink RX2 73 yX5_byWeight, Cond.methodLink RX7 154 yX2_greatestTone, Cond.instanceMethod yX2_greatestTone, Cond.selects RX2 yX2_greatestTone yX2_greatestTone, Cond.code yX2_greatestTone cX2_greatestTone 4 (some .int), Cond.methodLink RX2 82 Lib.Math.max.name, Cond.static Lib.Math.max.name, Cond.code Lib.Math.max.name Lib.Math.max.code 2 (some .int), Cond.methodLink RL 73 yX8_span, Cond.instanceMethod yX8_span, Cond.selects RX8 yX8_span yX8_span]
def wsL_law_r17 : List Cond := [Cond.code yX8_span cX8_span 7 (some .int), Cond.methodLink RX8 117 yX8_toneBy, Cond.instanceMethod yX8_toneBy, Cond.selects RX8 yX8_toneBy yX8_toneBy, Cond.code yX8_toneBy cX8_toneBy 3 (some .int), Cond.methodLink RL 74 yX7_next, Cond.instanceMethod yX7_next, Cond.selects RX7 yX7_next yX7_next, Cond.code yX7_next cX7_next 7 (some .int), Cond.methodLink RX7 157 yX1_greatest, Cond.instanceMethod yX1_greatest, Cond.selects RX1 yX1_greatest yX1_greatest, Cond.code yX1_greatest cX1_greatest 6 (some .int), Cond.fieldLink RX1 21 "FiddlePlates$House" "left" "I", Cond.methodLink RX1 31 Lib.Math.max.name, Cond.methodLink RX1 15 yJ7_fill_53178, Cond.static yJ7_fill_53178, Cond.initialized RJ7, Cond.code yJ7_fill_53178 cJ7_fill_53178 4 none, Cond.methodLink RX1 27 yX2_toneOfLeft, Cond.instanceMethod yX2_toneOfLeft, Cond.selects RX2 yX2_toneOfLeft yX2_toneOfLeft, Cond.code yX2_toneOfLeft cX2_toneOfLeft 3 (some .int), Cond.methodLink RL 77 yX8_next]
def wsL_law_r18 : List Cond := [Cond.instanceMethod yX8_next, Cond.selects RX8 yX8_next yX8_next, Cond.code yX8_next cX8_next 7 (some .int), Cond.methodLink RX8 121 yX8_greatestHeap, Cond.instanceMethod yX8_greatestHeap, Cond.selects RX8 yX8_greatestHeap yX8_greatestHeap, Cond.code yX8_greatestHeap cX8_greatestHeap 5 (some .int), Cond.methodLink RL 78 yX7_aim, Cond.instanceMethod yX7_aim, Cond.selects RX7 yX7_aim yX7_aim, Cond.code yX7_aim cX7_aim 4 (some .int), Cond.methodLink RX7 161 yX0_put, Cond.instanceMethod yX0_put, Cond.selects RX0 yX0_put yX0_put, Cond.code yX0_put cX0_put 4 none, Cond.methodLink RL 81 yX8_aim, Cond.instanceMethod yX8_aim, Cond.selects RX8 yX8_aim yX8_aim, Cond.code yX8_aim cX8_aim 4 (some .int), Cond.methodLink RL 82 yX7_aimless, Cond.instanceMethod yX7_aimless, Cond.selects RX7 yX7_aimless yX7_aimless, Cond.code yX7_aimless cX7_aimless 2 (some .int), Cond.methodLink RX7 165 yX0_spans]
def wsL_law_r19 : List Cond := [Cond.instanceMethod yX0_spans, Cond.selects RX0 yX0_spans yX0_spans, Cond.code yX0_spans cX0_spans 3 (some .int), Cond.methodLink RX7 168 yX0_clear, Cond.instanceMethod yX0_clear, Cond.selects RX0 yX0_clear yX0_clear, Cond.code yX0_clear cX0_clear 2 none, Cond.methodLink RL 85 yX8_aimless, Cond.instanceMethod yX8_aimless, Cond.selects RX8 yX8_aimless yX8_aimless, Cond.code yX8_aimless cX8_aimless 3 (some .int), Cond.methodLink RX8 125 yX8_aims, Cond.instanceMethod yX8_aims, Cond.selects RX8 yX8_aims yX8_aims, Cond.code yX8_aims cX8_aims 3 (some .int), Cond.methodLink RL 86 yX7_plan, Cond.instanceMethod yX7_plan, Cond.selects RX7 yX7_plan yX7_plan, Cond.code yX7_plan cX7_plan 2 (some .int), Cond.fieldLink RX7 174 "FiddlePlates$Planner" "shavings" "I", Cond.methodLink RX7 171 yX7_makePlan, Cond.instanceMethod yX7_makePlan, Cond.selects RX7 yX7_makePlan yX7_makePlan, Cond.code yX7_makePlan cX7_makePlan 2 none]
def wsL_law_r20 : List Cond := [Cond.fieldLink RX7 195 "FiddlePlates$Planner" "plate" "I", Cond.methodLink RX7 198 yX3_search, Cond.instanceMethod yX3_search, Cond.selects RX3 yX3_search yX3_search, Cond.code yX3_search cX3_search 7 none, Cond.methodLink RX3 28 Lib.Math.max.name, Cond.methodLink RX3 34 yX3_foundOf, Cond.instanceMethod yX3_foundOf, Cond.selects RX3 yX3_foundOf yX3_foundOf, Cond.code yX3_foundOf cX3_foundOf 9 (some .boolean), Cond.methodLink RX3 38 Lib.Math.min.name, Cond.methodLink RX3 41 yX3_take, Cond.instanceMethod yX3_take, Cond.selects RX3 yX3_take yX3_take, Cond.code yX3_take cX3_take 7 none, Cond.methodLink RX3 45 yX0_metBy, Cond.instanceMethod yX0_metBy, Cond.selects RX0 yX0_metBy yX0_metBy, Cond.code yX0_metBy cX0_metBy 7 (some .boolean), Cond.fieldLink RX0 26 "FiddlePlates$House" "heavy" "[I", Cond.fieldLink RX0 37 "FiddlePlates$House" "light" "[I", Cond.methodLink RX0 31 yX5_valuesBelow, Cond.methodLink RL 89 yX8_plan, Cond.instanceMethod yX8_plan]
def wsL_law_r21 : List Cond := [Cond.selects RX8 yX8_plan yX8_plan, Cond.code yX8_plan cX8_plan 2 (some .int), Cond.fieldLink RX8 129 "FiddlePlatesModel" "planned" "I", Cond.methodLink RX8 139 yX8_findPlan, Cond.instanceMethod yX8_findPlan, Cond.selects RX8 yX8_findPlan yX8_findPlan, Cond.code yX8_findPlan cX8_findPlan 6 none, Cond.methodLink RX8 132 yX8_mayBe, Cond.instanceMethod yX8_mayBe, Cond.selects RX8 yX8_mayBe yX8_mayBe, Cond.code yX8_mayBe cX8_mayBe 5 (some .boolean), Cond.methodLink RX8 135 yX8_fits, Cond.instanceMethod yX8_fits, Cond.selects RX8 yX8_fits yX8_fits, Cond.code yX8_fits cX8_fits 4 (some .boolean), Cond.methodLink RL 90 yX7_planned, Cond.instanceMethod yX7_planned, Cond.selects RX7 yX7_planned yX7_planned, Cond.code yX7_planned cX7_planned 3 (some .int), Cond.methodLink RX7 177 yX3_stripOf, Cond.instanceMethod yX3_stripOf, Cond.selects RX3 yX3_stripOf yX3_stripOf, Cond.code yX3_stripOf cX3_stripOf 4 (some .int), Cond.methodLink RL 93 yX8_planned]
def wsL_law_r22 : List Cond := [Cond.instanceMethod yX8_planned, Cond.selects RX8 yX8_planned yX8_planned, Cond.code yX8_planned cX8_planned 6 (some .int), Cond.methodLink RL 94 yX7_carve, Cond.instanceMethod yX7_carve, Cond.selects RX7 yX7_carve yX7_carve, Cond.code yX7_carve cX7_carve 3 (some .int), Cond.fieldLink RX7 181 "FiddlePlates$Planner" "taken" "[I", Cond.methodLink RX7 184 yX4_takeOffAll, Cond.instanceMethod yX4_takeOffAll, Cond.selects RX4 yX4_takeOffAll yX4_takeOffAll, Cond.code yX4_takeOffAll cX4_takeOffAll 4 none, Cond.methodLink RX4 26 yX4_takeOff, Cond.methodLink RL 97 yX8_carve, Cond.instanceMethod yX8_carve, Cond.selects RX8 yX8_carve yX8_carve, Cond.code yX8_carve cX8_carve 3 (some .int), Cond.methodLink RL 98 yX7_off, Cond.instanceMethod yX7_off, Cond.selects RX7 yX7_off yX7_off, Cond.code yX7_off cX7_off 3 (some .int), Cond.methodLink RL 101 yX8_off, Cond.instanceMethod yX8_off, Cond.selects RX8 yX8_off yX8_off]
def wsL_law_r23 : List Cond := [Cond.code yX8_off cX8_off 3 (some .int), Cond.methodLink RL 102 yX7_even, Cond.instanceMethod yX7_even, Cond.selects RX7 yX7_even yX7_even, Cond.code yX7_even cX7_even 3 (some .int), Cond.methodLink RX7 188 yX2_farthest, Cond.instanceMethod yX2_farthest, Cond.selects RX2 yX2_farthest yX2_farthest, Cond.code yX2_farthest cX2_farthest 6 (some .int), Cond.methodLink RX2 89 Lib.Math.abs.name, Cond.static Lib.Math.abs.name, Cond.code Lib.Math.abs.name Lib.Math.abs.code 1 (some .int), Cond.methodLink RX2 85 yX2_toneOfLeft, Cond.methodLink RL 105 yX8_even, Cond.instanceMethod yX8_even, Cond.selects RX8 yX8_even yX8_even, Cond.code yX8_even cX8_even 6 (some .int), Cond.methodLink RL 106 yX7_count, Cond.instanceMethod yX7_count, Cond.selects RX7 yX7_count yX7_count, Cond.code yX7_count cX7_count 2 (some .int), Cond.methodLink RX7 192 yX7_shavingsInLogs, Cond.instanceMethod yX7_shavingsInLogs, Cond.selects RX7 yX7_shavingsInLogs yX7_shavingsInLogs]
def wsL_law_r24 : List Cond := [Cond.code yX7_shavingsInLogs cX7_shavingsInLogs 3 (some .int), Cond.methodLink RL 109 yX8_count, Cond.instanceMethod yX8_count, Cond.selects RX8 yX8_count yX8_count, Cond.code yX8_count cX8_count 4 (some .int)]
def wsL_law : List Cond := (wsL_law_r1 ++ (wsL_law_r2 ++ (wsL_law_r3 ++ (wsL_law_r4 ++ (wsL_law_r5 ++ (wsL_law_r6 ++ (wsL_law_r7 ++ (wsL_law_r8 ++ (wsL_law_r9 ++ (wsL_law_r10 ++ (wsL_law_r11 ++ (wsL_law_r12 ++ (wsL_law_r13 ++ (wsL_law_r14 ++ (wsL_law_r15 ++ (wsL_law_r16 ++ (wsL_law_r17 ++ (wsL_law_r18 ++ (wsL_law_r19 ++ (wsL_law_r20 ++ (wsL_law_r21 ++ (wsL_law_r22 ++ (wsL_law_r23 ++ wsL_law_r24))))))))))))))))))))))) ++ wsX70 ++ wsX80 ++ wsX20 ++ wsX00 ++ wsX30 ++ wsX10 ++ wsX40 ++ wsX60 ++ ([] : List Cond)
abbrev vwCl : List vw_C := [(RX0, TX0, 3), (RX1, TX1, 1), (RX2, TX2, 7), (RX3, TX3, 5), (RX4, TX4, 3), (RX6, TX6, 3), (RX7, TX7, 10), (RX8, TX8, 20)]
end
section
theorem dX0_init_0 : decode cX0_init 0 = .ok (.aload_n 0, 1) := by decide +kernel
theorem dX0_init_1 : decode cX0_init 1 = .ok (.invokespecial 3, 3) := by decide +kernel
theorem dX0_init_4 : decode cX0_init 4 = .ok (.aload_n 0, 1) := by decide +kernel
theorem dX0_init_5 : decode cX0_init 5 = .ok (.iconst 4, 1) := by decide +kernel
theorem dX0_init_6 : decode cX0_init 6 = .ok (.newarray .boolean, 2) := by decide +kernel
theorem dX0_init_8 : decode cX0_init 8 = .ok (.putfield 9, 3) := by decide +kernel
theorem dX0_init_11 : decode cX0_init 11 = .ok (.aload_n 0, 1) := by decide +kernel
theorem dX0_init_12 : decode cX0_init 12 = .ok (.iconst 4, 1) := by decide +kernel
theorem dX0_init_13 : decode cX0_init 13 = .ok (.newarray .int, 2) := by decide +kernel
theorem dX0_init_15 : decode cX0_init 15 = .ok (.putfield 15, 3) := by decide +kernel
theorem dX0_init_18 : decode cX0_init 18 = .ok (.aload_n 0, 1) := by decide +kernel
theorem dX0_init_19 : decode cX0_init 19 = .ok (.iconst 4, 1) := by decide +kernel
theorem dX0_init_20 : decode cX0_init 20 = .ok (.newarray .int, 2) := by decide +kernel
theorem dX0_init_22 : decode cX0_init 22 = .ok (.putfield 19, 3) := by decide +kernel
theorem dX0_init_25 : decode cX0_init 25 = .ok (.return_, 1) := by decide +kernel
set_option maxRecDepth 20000 in
theorem ggX0_put_X7_isTone : GoodIn wsX0_put wsX7_isTone := goodIn_r _ [6] (by decide +kernel) (by decide +kernel)
set_option maxRecDepth 20000 in
theorem gX0_put_X7_isTone_n22 : GoodIn wsX0_put (wsX7_isTone) := ggX0_put_X7_isTone
theorem dX0_put_0 : decode cX0_put 0 = .ok (.iload_n 1, 1) := by decide +kernel
theorem dX0_put_1 : decode cX0_put 1 = .ok (.invokestatic 22, 3) := by decide +kernel
theorem dX0_put_4 : decode cX0_put 4 = .ok (.ifCond .eq 24, 3) := by decide +kernel
theorem dX0_put_7 : decode cX0_put 7 = .ok (.aload_n 0, 1) := by decide +kernel
theorem dX0_put_8 : decode cX0_put 8 = .ok (.getfield 9, 3) := by decide +kernel
theorem dX0_put_11 : decode cX0_put 11 = .ok (.iload_n 1, 1) := by decide +kernel
theorem dX0_put_12 : decode cX0_put 12 = .ok (.iconst 1, 1) := by decide +kernel
theorem dX0_put_13 : decode cX0_put 13 = .ok (.bastore, 1) := by decide +kernel
theorem dX0_put_14 : decode cX0_put 14 = .ok (.aload_n 0, 1) := by decide +kernel
theorem dX0_put_15 : decode cX0_put 15 = .ok (.getfield 15, 3) := by decide +kernel
theorem dX0_put_18 : decode cX0_put 18 = .ok (.iload_n 1, 1) := by decide +kernel
theorem dX0_put_19 : decode cX0_put 19 = .ok (.iload_n 2, 1) := by decide +kernel
theorem dX0_put_20 : decode cX0_put 20 = .ok (.iastore, 1) := by decide +kernel
theorem dX0_put_21 : decode cX0_put 21 = .ok (.aload_n 0, 1) := by decide +kernel
theorem dX0_put_22 : decode cX0_put 22 = .ok (.getfield 19, 3) := by decide +kernel
theorem dX0_put_25 : decode cX0_put 25 = .ok (.iload_n 1, 1) := by decide +kernel
theorem dX0_put_26 : decode cX0_put 26 = .ok (.iload_n 3, 1) := by decide +kernel
theorem dX0_put_27 : decode cX0_put 27 = .ok (.iastore, 1) := by decide +kernel
theorem dX0_put_28 : decode cX0_put 28 = .ok (.return_, 1) := by decide +kernel
theorem dX0_clear_0 : decode cX0_clear 0 = .ok (.iconst 0, 1) := by decide +kernel
theorem dX0_clear_1 : decode cX0_clear 1 = .ok (.istore_n 1, 1) := by decide +kernel
theorem dX0_clear_2 : decode cX0_clear 2 = .ok (.iload_n 1, 1) := by decide +kernel
theorem dX0_clear_3 : decode cX0_clear 3 = .ok (.iconst 4, 1) := by decide +kernel
theorem dX0_clear_4 : decode cX0_clear 4 = .ok (.if_icmp .ge 16, 3) := by decide +kernel
theorem dX0_clear_7 : decode cX0_clear 7 = .ok (.aload_n 0, 1) := by decide +kernel
theorem dX0_clear_8 : decode cX0_clear 8 = .ok (.getfield 9, 3) := by decide +kernel
theorem dX0_clear_11 : decode cX0_clear 11 = .ok (.iload_n 1, 1) := by decide +kernel
theorem dX0_clear_12 : decode cX0_clear 12 = .ok (.iconst 0, 1) := by decide +kernel
theorem dX0_clear_13 : decode cX0_clear 13 = .ok (.bastore, 1) := by decide +kernel
theorem dX0_clear_14 : decode cX0_clear 14 = .ok (.iinc 1 1, 3) := by decide +kernel
theorem dX0_clear_17 : decode cX0_clear 17 = .ok (.goto (-15), 3) := by decide +kernel
theorem dX0_clear_20 : decode cX0_clear 20 = .ok (.return_, 1) := by decide +kernel
theorem dX0_spans_0 : decode cX0_spans 0 = .ok (.iconst 0, 1) := by decide +kernel
theorem dX0_spans_1 : decode cX0_spans 1 = .ok (.istore_n 1, 1) := by decide +kernel
theorem dX0_spans_2 : decode cX0_spans 2 = .ok (.iconst 0, 1) := by decide +kernel
theorem dX0_spans_3 : decode cX0_spans 3 = .ok (.istore_n 2, 1) := by decide +kernel
theorem dX0_spans_4 : decode cX0_spans 4 = .ok (.iload_n 2, 1) := by decide +kernel
theorem dX0_spans_5 : decode cX0_spans 5 = .ok (.iconst 4, 1) := by decide +kernel
theorem dX0_spans_6 : decode cX0_spans 6 = .ok (.if_icmp .ge 21, 3) := by decide +kernel
theorem dX0_spans_9 : decode cX0_spans 9 = .ok (.aload_n 0, 1) := by decide +kernel
theorem dX0_spans_10 : decode cX0_spans 10 = .ok (.getfield 9, 3) := by decide +kernel
theorem dX0_spans_13 : decode cX0_spans 13 = .ok (.iload_n 2, 1) := by decide +kernel
theorem dX0_spans_14 : decode cX0_spans 14 = .ok (.baload, 1) := by decide +kernel
theorem dX0_spans_15 : decode cX0_spans 15 = .ok (.ifCond .eq 6, 3) := by decide +kernel
theorem dX0_spans_18 : decode cX0_spans 18 = .ok (.iinc 1 1, 3) := by decide +kernel
theorem dX0_spans_21 : decode cX0_spans 21 = .ok (.iinc 2 1, 3) := by decide +kernel
theorem dX0_spans_24 : decode cX0_spans 24 = .ok (.goto (-20), 3) := by decide +kernel
theorem dX0_spans_27 : decode cX0_spans 27 = .ok (.iload_n 1, 1) := by decide +kernel
theorem dX0_spans_28 : decode cX0_spans 28 = .ok (.ireturn, 1) := by decide +kernel
set_option maxRecDepth 20000 in
theorem ggX0_metBy_X5_valuesBelow : GoodIn wsX0_metBy wsX5_valuesBelow := goodIn_r _ [9, 10, 11, 8, 12] (by decide +kernel) (by decide +kernel)
set_option maxRecDepth 20000 in
theorem gX0_metBy_X5_valuesBelow : GoodIn wsX0_metBy (va_wsS RX0 31 yX5_valuesBelow wsX5_valuesBelow) := goodIn_app (goodIn_of _ (by decide +kernel)) ggX0_metBy_X5_valuesBelow
theorem dX0_metBy_0 : decode cX0_metBy 0 = .ok (.iconst 0, 1) := by decide +kernel
theorem dX0_metBy_1 : decode cX0_metBy 1 = .ok (.istore_n 3, 1) := by decide +kernel
theorem dX0_metBy_2 : decode cX0_metBy 2 = .ok (.iload_n 3, 1) := by decide +kernel
theorem dX0_metBy_3 : decode cX0_metBy 3 = .ok (.iconst 4, 1) := by decide +kernel
theorem dX0_metBy_4 : decode cX0_metBy 4 = .ok (.if_icmp .ge 106, 3) := by decide +kernel
theorem dX0_metBy_7 : decode cX0_metBy 7 = .ok (.iconst 1, 1) := by decide +kernel
theorem dX0_metBy_8 : decode cX0_metBy 8 = .ok (.istore 4, 2) := by decide +kernel
theorem dX0_metBy_10 : decode cX0_metBy 10 = .ok (.aload_n 0, 1) := by decide +kernel
theorem dX0_metBy_11 : decode cX0_metBy 11 = .ok (.getfield 9, 3) := by decide +kernel
theorem dX0_metBy_14 : decode cX0_metBy 14 = .ok (.iload_n 3, 1) := by decide +kernel
theorem dX0_metBy_15 : decode cX0_metBy 15 = .ok (.baload, 1) := by decide +kernel
theorem dX0_metBy_16 : decode cX0_metBy 16 = .ok (.ifCond .eq 88, 3) := by decide +kernel
theorem dX0_metBy_19 : decode cX0_metBy 19 = .ok (.iload 4, 2) := by decide +kernel
theorem dX0_metBy_21 : decode cX0_metBy 21 = .ok (.bipush 9, 2) := by decide +kernel
theorem dX0_metBy_23 : decode cX0_metBy 23 = .ok (.if_icmp .gt 81, 3) := by decide +kernel
theorem dX0_metBy_26 : decode cX0_metBy 26 = .ok (.aload_n 2, 1) := by decide +kernel
theorem dX0_metBy_27 : decode cX0_metBy 27 = .ok (.getfield 26, 3) := by decide +kernel
theorem dX0_metBy_30 : decode cX0_metBy 30 = .ok (.iload 4, 2) := by decide +kernel
theorem dX0_metBy_32 : decode cX0_metBy 32 = .ok (.iaload, 1) := by decide +kernel
theorem dX0_metBy_33 : decode cX0_metBy 33 = .ok (.istore 5, 2) := by decide +kernel
theorem dX0_metBy_35 : decode cX0_metBy 35 = .ok (.iload 5, 2) := by decide +kernel
theorem dX0_metBy_37 : decode cX0_metBy 37 = .ok (.ifCond .le 24, 3) := by decide +kernel
theorem dX0_metBy_40 : decode cX0_metBy 40 = .ok (.aload_n 1, 1) := by decide +kernel
theorem dX0_metBy_41 : decode cX0_metBy 41 = .ok (.iload 4, 2) := by decide +kernel
theorem dX0_metBy_43 : decode cX0_metBy 43 = .ok (.aload_n 0, 1) := by decide +kernel
theorem dX0_metBy_44 : decode cX0_metBy 44 = .ok (.getfield 15, 3) := by decide +kernel
theorem dX0_metBy_47 : decode cX0_metBy 47 = .ok (.iload_n 3, 1) := by decide +kernel
theorem dX0_metBy_48 : decode cX0_metBy 48 = .ok (.iaload, 1) := by decide +kernel
theorem dX0_metBy_49 : decode cX0_metBy 49 = .ok (.iload 5, 2) := by decide +kernel
theorem dX0_metBy_51 : decode cX0_metBy 51 = .ok (.imul, 1) := by decide +kernel
theorem dX0_metBy_52 : decode cX0_metBy 52 = .ok (.invokestatic 31, 3) := by decide +kernel
theorem dX0_metBy_55 : decode cX0_metBy 55 = .ok (.iload_n 3, 1) := by decide +kernel
theorem dX0_metBy_56 : decode cX0_metBy 56 = .ok (.if_icmp .le 5, 3) := by decide +kernel
theorem dX0_metBy_59 : decode cX0_metBy 59 = .ok (.iconst 0, 1) := by decide +kernel
theorem dX0_metBy_60 : decode cX0_metBy 60 = .ok (.ireturn, 1) := by decide +kernel
theorem dX0_metBy_61 : decode cX0_metBy 61 = .ok (.aload_n 2, 1) := by decide +kernel
theorem dX0_metBy_62 : decode cX0_metBy 62 = .ok (.getfield 37, 3) := by decide +kernel
theorem dX0_metBy_65 : decode cX0_metBy 65 = .ok (.iload 4, 2) := by decide +kernel
theorem dX0_metBy_67 : decode cX0_metBy 67 = .ok (.iaload, 1) := by decide +kernel
theorem dX0_metBy_68 : decode cX0_metBy 68 = .ok (.istore 6, 2) := by decide +kernel
theorem dX0_metBy_70 : decode cX0_metBy 70 = .ok (.iload 6, 2) := by decide +kernel
theorem dX0_metBy_72 : decode cX0_metBy 72 = .ok (.ifCond .le 26, 3) := by decide +kernel
theorem dX0_metBy_75 : decode cX0_metBy 75 = .ok (.aload_n 1, 1) := by decide +kernel
theorem dX0_metBy_76 : decode cX0_metBy 76 = .ok (.iload 4, 2) := by decide +kernel
theorem dX0_metBy_78 : decode cX0_metBy 78 = .ok (.aload_n 0, 1) := by decide +kernel
theorem dX0_metBy_79 : decode cX0_metBy 79 = .ok (.getfield 19, 3) := by decide +kernel
theorem dX0_metBy_82 : decode cX0_metBy 82 = .ok (.iload_n 3, 1) := by decide +kernel
theorem dX0_metBy_83 : decode cX0_metBy 83 = .ok (.iaload, 1) := by decide +kernel
theorem dX0_metBy_84 : decode cX0_metBy 84 = .ok (.iconst 1, 1) := by decide +kernel
theorem dX0_metBy_85 : decode cX0_metBy 85 = .ok (.iadd, 1) := by decide +kernel
theorem dX0_metBy_86 : decode cX0_metBy 86 = .ok (.iload 6, 2) := by decide +kernel
theorem dX0_metBy_88 : decode cX0_metBy 88 = .ok (.imul, 1) := by decide +kernel
theorem dX0_metBy_89 : decode cX0_metBy 89 = .ok (.invokestatic 31, 3) := by decide +kernel
theorem dX0_metBy_92 : decode cX0_metBy 92 = .ok (.iload_n 3, 1) := by decide +kernel
theorem dX0_metBy_93 : decode cX0_metBy 93 = .ok (.if_icmp .gt 5, 3) := by decide +kernel
theorem dX0_metBy_96 : decode cX0_metBy 96 = .ok (.iconst 0, 1) := by decide +kernel
theorem dX0_metBy_97 : decode cX0_metBy 97 = .ok (.ireturn, 1) := by decide +kernel
theorem dX0_metBy_98 : decode cX0_metBy 98 = .ok (.iinc 4 1, 3) := by decide +kernel
theorem dX0_metBy_101 : decode cX0_metBy 101 = .ok (.goto (-91), 3) := by decide +kernel
theorem dX0_metBy_104 : decode cX0_metBy 104 = .ok (.iinc 3 1, 3) := by decide +kernel
theorem dX0_metBy_107 : decode cX0_metBy 107 = .ok (.goto (-105), 3) := by decide +kernel
theorem dX0_metBy_110 : decode cX0_metBy 110 = .ok (.iconst 1, 1) := by decide +kernel
theorem dX0_metBy_111 : decode cX0_metBy 111 = .ok (.ireturn, 1) := by decide +kernel
theorem dX1_init_0 : decode cX1_init 0 = .ok (.aload_n 0, 1) := by decide +kernel
theorem dX1_init_1 : decode cX1_init 1 = .ok (.invokespecial 3, 3) := by decide +kernel
theorem dX1_init_4 : decode cX1_init 4 = .ok (.aload_n 0, 1) := by decide +kernel
theorem dX1_init_5 : decode cX1_init 5 = .ok (.sipush 512, 3) := by decide +kernel
theorem dX1_init_8 : decode cX1_init 8 = .ok (.newarray .int, 2) := by decide +kernel
theorem dX1_init_10 : decode cX1_init 10 = .ok (.putfield 9, 3) := by decide +kernel
theorem dX1_init_13 : decode cX1_init 13 = .ok (.return_, 1) := by decide +kernel
set_option maxRecDepth 20000 in
theorem ggX1_greatest_J7_fill_53178 : GoodIn wsX1_greatest wsJ7_fill_53178 := goodIn_r _ [10] (by decide +kernel) (by decide +kernel)
set_option maxRecDepth 20000 in
theorem gX1_greatest_J7_fill_53178 : GoodIn wsX1_greatest (va_wsS RX1 15 yJ7_fill_53178 wsJ7_fill_53178) := goodIn_app (goodIn_of _ (by decide +kernel)) ggX1_greatest_J7_fill_53178
set_option maxRecDepth 20000 in
theorem ggX1_greatest_X2_toneOfLeft : GoodIn wsX1_greatest wsX2_toneOfLeft := goodIn_r _ [15, 16, 17, 18, 19, 20, 21, 23, 24, 25, 26, 27, 28, 29] (by decide +kernel) (by decide +kernel)
set_option maxRecDepth 20000 in
theorem gX1_greatest_X2_toneOfLeft : GoodIn wsX1_greatest (wsV RX1 27 RX2 yX2_toneOfLeft wsX2_toneOfLeft) := goodIn_app (goodIn_of _ (by decide +kernel)) ggX1_greatest_X2_toneOfLeft
theorem dX1_greatest_0 : decode cX1_greatest 0 = .ok (.aload_n 0, 1) := by decide +kernel
theorem dX1_greatest_1 : decode cX1_greatest 1 = .ok (.getfield 9, 3) := by decide +kernel
theorem dX1_greatest_4 : decode cX1_greatest 4 = .ok (.iconst 0, 1) := by decide +kernel
theorem dX1_greatest_5 : decode cX1_greatest 5 = .ok (.invokestatic 15, 3) := by decide +kernel
theorem dX1_greatest_8 : decode cX1_greatest 8 = .ok (.iconst 0, 1) := by decide +kernel
theorem dX1_greatest_9 : decode cX1_greatest 9 = .ok (.istore_n 3, 1) := by decide +kernel
theorem dX1_greatest_10 : decode cX1_greatest 10 = .ok (.iconst 0, 1) := by decide +kernel
theorem dX1_greatest_11 : decode cX1_greatest 11 = .ok (.istore 4, 2) := by decide +kernel
theorem dX1_greatest_13 : decode cX1_greatest 13 = .ok (.iload 4, 2) := by decide +kernel
theorem dX1_greatest_15 : decode cX1_greatest 15 = .ok (.aload_n 1, 1) := by decide +kernel
theorem dX1_greatest_16 : decode cX1_greatest 16 = .ok (.getfield 21, 3) := by decide +kernel
theorem dX1_greatest_19 : decode cX1_greatest 19 = .ok (.if_icmp .ge 56, 3) := by decide +kernel
theorem dX1_greatest_22 : decode cX1_greatest 22 = .ok (.aload_n 1, 1) := by decide +kernel
theorem dX1_greatest_23 : decode cX1_greatest 23 = .ok (.iload 4, 2) := by decide +kernel
theorem dX1_greatest_25 : decode cX1_greatest 25 = .ok (.aload_n 2, 1) := by decide +kernel
theorem dX1_greatest_26 : decode cX1_greatest 26 = .ok (.invokevirtual 27, 3) := by decide +kernel
theorem dX1_greatest_29 : decode cX1_greatest 29 = .ok (.istore 5, 2) := by decide +kernel
theorem dX1_greatest_31 : decode cX1_greatest 31 = .ok (.iload 5, 2) := by decide +kernel
theorem dX1_greatest_33 : decode cX1_greatest 33 = .ok (.ifCond .lt 36, 3) := by decide +kernel
theorem dX1_greatest_36 : decode cX1_greatest 36 = .ok (.iload 5, 2) := by decide +kernel
theorem dX1_greatest_38 : decode cX1_greatest 38 = .ok (.aload_n 0, 1) := by decide +kernel
theorem dX1_greatest_39 : decode cX1_greatest 39 = .ok (.getfield 9, 3) := by decide +kernel
theorem dX1_greatest_42 : decode cX1_greatest 42 = .ok (.arraylength, 1) := by decide +kernel
theorem dX1_greatest_43 : decode cX1_greatest 43 = .ok (.if_icmp .ge 26, 3) := by decide +kernel
theorem dX1_greatest_46 : decode cX1_greatest 46 = .ok (.aload_n 0, 1) := by decide +kernel
theorem dX1_greatest_47 : decode cX1_greatest 47 = .ok (.getfield 9, 3) := by decide +kernel
theorem dX1_greatest_50 : decode cX1_greatest 50 = .ok (.iload 5, 2) := by decide +kernel
theorem dX1_greatest_52 : decode cX1_greatest 52 = .ok (.dup2, 1) := by decide +kernel
theorem dX1_greatest_53 : decode cX1_greatest 53 = .ok (.iaload, 1) := by decide +kernel
theorem dX1_greatest_54 : decode cX1_greatest 54 = .ok (.iconst 1, 1) := by decide +kernel
theorem dX1_greatest_55 : decode cX1_greatest 55 = .ok (.iadd, 1) := by decide +kernel
theorem dX1_greatest_56 : decode cX1_greatest 56 = .ok (.iastore, 1) := by decide +kernel
theorem dX1_greatest_57 : decode cX1_greatest 57 = .ok (.iload_n 3, 1) := by decide +kernel
theorem dX1_greatest_58 : decode cX1_greatest 58 = .ok (.aload_n 0, 1) := by decide +kernel
theorem dX1_greatest_59 : decode cX1_greatest 59 = .ok (.getfield 9, 3) := by decide +kernel
theorem dX1_greatest_62 : decode cX1_greatest 62 = .ok (.iload 5, 2) := by decide +kernel
theorem dX1_greatest_64 : decode cX1_greatest 64 = .ok (.iaload, 1) := by decide +kernel
theorem dX1_greatest_65 : decode cX1_greatest 65 = .ok (.invokestatic 31, 3) := by decide +kernel
theorem dX1_greatest_68 : decode cX1_greatest 68 = .ok (.istore_n 3, 1) := by decide +kernel
theorem dX1_greatest_69 : decode cX1_greatest 69 = .ok (.iinc 4 1, 3) := by decide +kernel
theorem dX1_greatest_72 : decode cX1_greatest 72 = .ok (.goto (-59), 3) := by decide +kernel
theorem dX1_greatest_75 : decode cX1_greatest 75 = .ok (.iload_n 3, 1) := by decide +kernel
theorem dX1_greatest_76 : decode cX1_greatest 76 = .ok (.ireturn, 1) := by decide +kernel
set_option maxRecDepth 20000 in
theorem ggX2_init_X6_init : GoodIn wsX2_init wsX6_init := goodIn_r _ [16, 17, 2, 3, 7, 18, 19, 20, 53, 54, 55] (by decide +kernel) (by decide +kernel)
set_option maxRecDepth 20000 in
theorem gX2_init_X6_init_n37 : GoodIn wsX2_init (wsX6_init) := ggX2_init_X6_init
set_option maxRecDepth 20000 in
theorem ggX2_init_X2_sift : GoodIn wsX2_init wsX2_sift := goodIn_r _ [25, 10, 11, 12, 26, 27, 28, 24, 29, 6, 5, 30, 31, 32, 14, 33, 18, 19, 20, 34, 35, 36, 37, 38, 39, 40, 41, 8, 9, 42, 43, 44, 45, 46, 47, 48, 49, 50, 51, 52, 53, 54, 55] (by decide +kernel) (by decide +kernel)
set_option maxRecDepth 20000 in
theorem gX2_init_X2_sift : GoodIn wsX2_init (wsV RX2 38 RX2 yX2_sift wsX2_sift) := goodIn_app (goodIn_of _ (by decide +kernel)) ggX2_init_X2_sift
theorem dX2_init_0 : decode cX2_init 0 = .ok (.aload_n 0, 1) := by decide +kernel
theorem dX2_init_1 : decode cX2_init 1 = .ok (.invokespecial 3, 3) := by decide +kernel
theorem dX2_init_4 : decode cX2_init 4 = .ok (.aload_n 0, 1) := by decide +kernel
theorem dX2_init_5 : decode cX2_init 5 = .ok (.bipush 12, 2) := by decide +kernel
theorem dX2_init_7 : decode cX2_init 7 = .ok (.anewarray 9, 3) := by decide +kernel
theorem dX2_init_10 : decode cX2_init 10 = .ok (.putfield 11, 3) := by decide +kernel
theorem dX2_init_13 : decode cX2_init 13 = .ok (.aload_n 0, 1) := by decide +kernel
theorem dX2_init_14 : decode cX2_init 14 = .ok (.iconst 0, 1) := by decide +kernel
theorem dX2_init_15 : decode cX2_init 15 = .ok (.putfield 17, 3) := by decide +kernel
theorem dX2_init_18 : decode cX2_init 18 = .ok (.aload_n 0, 1) := by decide +kernel
theorem dX2_init_19 : decode cX2_init 19 = .ok (.bipush 81, 2) := by decide +kernel
theorem dX2_init_21 : decode cX2_init 21 = .ok (.newarray .int, 2) := by decide +kernel
theorem dX2_init_23 : decode cX2_init 23 = .ok (.putfield 21, 3) := by decide +kernel
theorem dX2_init_26 : decode cX2_init 26 = .ok (.aload_n 0, 1) := by decide +kernel
theorem dX2_init_27 : decode cX2_init 27 = .ok (.bipush 81, 2) := by decide +kernel
theorem dX2_init_29 : decode cX2_init 29 = .ok (.newarray .int, 2) := by decide +kernel
theorem dX2_init_31 : decode cX2_init 31 = .ok (.putfield 25, 3) := by decide +kernel
theorem dX2_init_34 : decode cX2_init 34 = .ok (.aload_n 0, 1) := by decide +kernel
theorem dX2_init_35 : decode cX2_init 35 = .ok (.iconst 0, 1) := by decide +kernel
theorem dX2_init_36 : decode cX2_init 36 = .ok (.putfield 28, 3) := by decide +kernel
theorem dX2_init_39 : decode cX2_init 39 = .ok (.aload_n 0, 1) := by decide +kernel
theorem dX2_init_40 : decode cX2_init 40 = .ok (.bipush 10, 2) := by decide +kernel
theorem dX2_init_42 : decode cX2_init 42 = .ok (.newarray .int, 2) := by decide +kernel
theorem dX2_init_44 : decode cX2_init 44 = .ok (.putfield 31, 3) := by decide +kernel
theorem dX2_init_47 : decode cX2_init 47 = .ok (.aload_n 0, 1) := by decide +kernel
theorem dX2_init_48 : decode cX2_init 48 = .ok (.bipush 10, 2) := by decide +kernel
theorem dX2_init_50 : decode cX2_init 50 = .ok (.newarray .int, 2) := by decide +kernel
theorem dX2_init_52 : decode cX2_init 52 = .ok (.putfield 34, 3) := by decide +kernel
theorem dX2_init_55 : decode cX2_init 55 = .ok (.iconst 0, 1) := by decide +kernel
theorem dX2_init_56 : decode cX2_init 56 = .ok (.istore_n 1, 1) := by decide +kernel
theorem dX2_init_57 : decode cX2_init 57 = .ok (.iload_n 1, 1) := by decide +kernel
theorem dX2_init_58 : decode cX2_init 58 = .ok (.bipush 12, 2) := by decide +kernel
theorem dX2_init_60 : decode cX2_init 60 = .ok (.if_icmp .ge 22, 3) := by decide +kernel
theorem dX2_init_63 : decode cX2_init 63 = .ok (.aload_n 0, 1) := by decide +kernel
theorem dX2_init_64 : decode cX2_init 64 = .ok (.getfield 11, 3) := by decide +kernel
theorem dX2_init_67 : decode cX2_init 67 = .ok (.iload_n 1, 1) := by decide +kernel
theorem dX2_init_68 : decode cX2_init 68 = .ok (.new 9, 3) := by decide +kernel
theorem dX2_init_71 : decode cX2_init 71 = .ok (.dup, 1) := by decide +kernel
theorem dX2_init_72 : decode cX2_init 72 = .ok (.invokespecial 37, 3) := by decide +kernel
theorem dX2_init_75 : decode cX2_init 75 = .ok (.aastore, 1) := by decide +kernel
theorem dX2_init_76 : decode cX2_init 76 = .ok (.iinc 1 1, 3) := by decide +kernel
theorem dX2_init_79 : decode cX2_init 79 = .ok (.goto (-22), 3) := by decide +kernel
theorem dX2_init_82 : decode cX2_init 82 = .ok (.aload_n 0, 1) := by decide +kernel
theorem dX2_init_83 : decode cX2_init 83 = .ok (.invokevirtual 38, 3) := by decide +kernel
theorem dX2_init_86 : decode cX2_init 86 = .ok (.return_, 1) := by decide +kernel
set_option maxRecDepth 20000 in
theorem ggX2_addTap_X5_fillWholeValues : GoodIn wsX2_addTap wsX5_fillWholeValues := goodIn_r _ [9, 10, 11, 8, 12, 13, 14, 15, 16, 17, 18] (by decide +kernel) (by decide +kernel)
set_option maxRecDepth 20000 in
theorem gX2_addTap_X5_fillWholeValues : GoodIn wsX2_addTap (va_wsS RX2 44 yX5_fillWholeValues wsX5_fillWholeValues) := goodIn_app (goodIn_of _ (by decide +kernel)) ggX2_addTap_X5_fillWholeValues
set_option maxRecDepth 20000 in
theorem ggX2_addTap_X2_sift : GoodIn wsX2_addTap wsX2_sift := goodIn_r _ [23, 24, 25, 26, 27, 28, 29, 22, 30, 1, 2, 31, 32, 33, 34, 35, 36, 37, 38, 39, 40, 8, 41, 42, 43, 44, 45, 46, 47, 48, 49, 50, 51, 52, 53, 54, 55, 56, 57, 58, 59, 60, 61] (by decide +kernel) (by decide +kernel)
set_option maxRecDepth 20000 in
theorem gX2_addTap_X2_sift : GoodIn wsX2_addTap (wsV RX2 38 RX2 yX2_sift wsX2_sift) := goodIn_app (goodIn_of _ (by decide +kernel)) ggX2_addTap_X2_sift
theorem dX2_addTap_0 : decode cX2_addTap 0 = .ok (.aload_n 0, 1) := by decide +kernel
theorem dX2_addTap_1 : decode cX2_addTap 1 = .ok (.getfield 17, 3) := by decide +kernel
theorem dX2_addTap_4 : decode cX2_addTap 4 = .ok (.bipush 12, 2) := by decide +kernel
theorem dX2_addTap_6 : decode cX2_addTap 6 = .ok (.if_icmp .ge 51, 3) := by decide +kernel
theorem dX2_addTap_9 : decode cX2_addTap 9 = .ok (.aload_n 0, 1) := by decide +kernel
theorem dX2_addTap_10 : decode cX2_addTap 10 = .ok (.getfield 11, 3) := by decide +kernel
theorem dX2_addTap_13 : decode cX2_addTap 13 = .ok (.aload_n 0, 1) := by decide +kernel
theorem dX2_addTap_14 : decode cX2_addTap 14 = .ok (.getfield 17, 3) := by decide +kernel
theorem dX2_addTap_17 : decode cX2_addTap 17 = .ok (.aaload, 1) := by decide +kernel
theorem dX2_addTap_18 : decode cX2_addTap 18 = .ok (.astore 5, 2) := by decide +kernel
theorem dX2_addTap_20 : decode cX2_addTap 20 = .ok (.aload 5, 2) := by decide +kernel
theorem dX2_addTap_22 : decode cX2_addTap 22 = .ok (.getfield 41, 3) := by decide +kernel
theorem dX2_addTap_25 : decode cX2_addTap 25 = .ok (.aload_n 1, 1) := by decide +kernel
theorem dX2_addTap_26 : decode cX2_addTap 26 = .ok (.iload_n 2, 1) := by decide +kernel
theorem dX2_addTap_27 : decode cX2_addTap 27 = .ok (.invokestatic 44, 3) := by decide +kernel
theorem dX2_addTap_30 : decode cX2_addTap 30 = .ok (.aload 5, 2) := by decide +kernel
theorem dX2_addTap_32 : decode cX2_addTap 32 = .ok (.iload_n 3, 1) := by decide +kernel
theorem dX2_addTap_33 : decode cX2_addTap 33 = .ok (.putfield 50, 3) := by decide +kernel
theorem dX2_addTap_36 : decode cX2_addTap 36 = .ok (.aload 5, 2) := by decide +kernel
theorem dX2_addTap_38 : decode cX2_addTap 38 = .ok (.iload 4, 2) := by decide +kernel
theorem dX2_addTap_40 : decode cX2_addTap 40 = .ok (.putfield 53, 3) := by decide +kernel
theorem dX2_addTap_43 : decode cX2_addTap 43 = .ok (.aload_n 0, 1) := by decide +kernel
theorem dX2_addTap_44 : decode cX2_addTap 44 = .ok (.dup, 1) := by decide +kernel
theorem dX2_addTap_45 : decode cX2_addTap 45 = .ok (.getfield 17, 3) := by decide +kernel
theorem dX2_addTap_48 : decode cX2_addTap 48 = .ok (.iconst 1, 1) := by decide +kernel
theorem dX2_addTap_49 : decode cX2_addTap 49 = .ok (.iadd, 1) := by decide +kernel
theorem dX2_addTap_50 : decode cX2_addTap 50 = .ok (.putfield 17, 3) := by decide +kernel
theorem dX2_addTap_53 : decode cX2_addTap 53 = .ok (.aload_n 0, 1) := by decide +kernel
theorem dX2_addTap_54 : decode cX2_addTap 54 = .ok (.invokevirtual 38, 3) := by decide +kernel
theorem dX2_addTap_57 : decode cX2_addTap 57 = .ok (.return_, 1) := by decide +kernel
set_option maxRecDepth 20000 in
theorem ggX2_dropTap_X2_sift : GoodIn wsX2_dropTap wsX2_sift := goodIn_r _ [7, 8, 9, 10, 11, 12, 13, 6, 14, 1, 2, 15, 16, 17, 18, 19, 20, 21, 22, 23, 24, 25, 26, 27, 28, 29, 30, 31, 32, 33, 34, 35, 36, 37, 38, 39, 40, 41, 42, 43, 44, 45, 46] (by decide +kernel) (by decide +kernel)
set_option maxRecDepth 20000 in
theorem gX2_dropTap_X2_sift : GoodIn wsX2_dropTap (wsV RX2 38 RX2 yX2_sift wsX2_sift) := goodIn_app (goodIn_of _ (by decide +kernel)) ggX2_dropTap_X2_sift
theorem dX2_dropTap_0 : decode cX2_dropTap 0 = .ok (.iload_n 1, 1) := by decide +kernel
theorem dX2_dropTap_1 : decode cX2_dropTap 1 = .ok (.ifCond .lt 74, 3) := by decide +kernel
theorem dX2_dropTap_4 : decode cX2_dropTap 4 = .ok (.iload_n 1, 1) := by decide +kernel
theorem dX2_dropTap_5 : decode cX2_dropTap 5 = .ok (.aload_n 0, 1) := by decide +kernel
theorem dX2_dropTap_6 : decode cX2_dropTap 6 = .ok (.getfield 17, 3) := by decide +kernel
theorem dX2_dropTap_9 : decode cX2_dropTap 9 = .ok (.if_icmp .ge 66, 3) := by decide +kernel
theorem dX2_dropTap_12 : decode cX2_dropTap 12 = .ok (.aload_n 0, 1) := by decide +kernel
theorem dX2_dropTap_13 : decode cX2_dropTap 13 = .ok (.getfield 11, 3) := by decide +kernel
theorem dX2_dropTap_16 : decode cX2_dropTap 16 = .ok (.iload_n 1, 1) := by decide +kernel
theorem dX2_dropTap_17 : decode cX2_dropTap 17 = .ok (.aaload, 1) := by decide +kernel
theorem dX2_dropTap_18 : decode cX2_dropTap 18 = .ok (.astore_n 2, 1) := by decide +kernel
theorem dX2_dropTap_19 : decode cX2_dropTap 19 = .ok (.iload_n 1, 1) := by decide +kernel
theorem dX2_dropTap_20 : decode cX2_dropTap 20 = .ok (.istore_n 3, 1) := by decide +kernel
theorem dX2_dropTap_21 : decode cX2_dropTap 21 = .ok (.iload_n 3, 1) := by decide +kernel
theorem dX2_dropTap_22 : decode cX2_dropTap 22 = .ok (.iconst 1, 1) := by decide +kernel
theorem dX2_dropTap_23 : decode cX2_dropTap 23 = .ok (.iadd, 1) := by decide +kernel
theorem dX2_dropTap_24 : decode cX2_dropTap 24 = .ok (.aload_n 0, 1) := by decide +kernel
theorem dX2_dropTap_25 : decode cX2_dropTap 25 = .ok (.getfield 17, 3) := by decide +kernel
theorem dX2_dropTap_28 : decode cX2_dropTap 28 = .ok (.if_icmp .ge 23, 3) := by decide +kernel
theorem dX2_dropTap_31 : decode cX2_dropTap 31 = .ok (.aload_n 0, 1) := by decide +kernel
theorem dX2_dropTap_32 : decode cX2_dropTap 32 = .ok (.getfield 11, 3) := by decide +kernel
theorem dX2_dropTap_35 : decode cX2_dropTap 35 = .ok (.iload_n 3, 1) := by decide +kernel
theorem dX2_dropTap_36 : decode cX2_dropTap 36 = .ok (.aload_n 0, 1) := by decide +kernel
theorem dX2_dropTap_37 : decode cX2_dropTap 37 = .ok (.getfield 11, 3) := by decide +kernel
theorem dX2_dropTap_40 : decode cX2_dropTap 40 = .ok (.iload_n 3, 1) := by decide +kernel
theorem dX2_dropTap_41 : decode cX2_dropTap 41 = .ok (.iconst 1, 1) := by decide +kernel
theorem dX2_dropTap_42 : decode cX2_dropTap 42 = .ok (.iadd, 1) := by decide +kernel
theorem dX2_dropTap_43 : decode cX2_dropTap 43 = .ok (.aaload, 1) := by decide +kernel
theorem dX2_dropTap_44 : decode cX2_dropTap 44 = .ok (.aastore, 1) := by decide +kernel
theorem dX2_dropTap_45 : decode cX2_dropTap 45 = .ok (.iinc 3 1, 3) := by decide +kernel
theorem dX2_dropTap_48 : decode cX2_dropTap 48 = .ok (.goto (-27), 3) := by decide +kernel
theorem dX2_dropTap_51 : decode cX2_dropTap 51 = .ok (.aload_n 0, 1) := by decide +kernel
theorem dX2_dropTap_52 : decode cX2_dropTap 52 = .ok (.dup, 1) := by decide +kernel
theorem dX2_dropTap_53 : decode cX2_dropTap 53 = .ok (.getfield 17, 3) := by decide +kernel
theorem dX2_dropTap_56 : decode cX2_dropTap 56 = .ok (.iconst 1, 1) := by decide +kernel
theorem dX2_dropTap_57 : decode cX2_dropTap 57 = .ok (.isub, 1) := by decide +kernel
theorem dX2_dropTap_58 : decode cX2_dropTap 58 = .ok (.putfield 17, 3) := by decide +kernel
theorem dX2_dropTap_61 : decode cX2_dropTap 61 = .ok (.aload_n 0, 1) := by decide +kernel
theorem dX2_dropTap_62 : decode cX2_dropTap 62 = .ok (.getfield 11, 3) := by decide +kernel
theorem dX2_dropTap_65 : decode cX2_dropTap 65 = .ok (.aload_n 0, 1) := by decide +kernel
theorem dX2_dropTap_66 : decode cX2_dropTap 66 = .ok (.getfield 17, 3) := by decide +kernel
theorem dX2_dropTap_69 : decode cX2_dropTap 69 = .ok (.aload_n 2, 1) := by decide +kernel
theorem dX2_dropTap_70 : decode cX2_dropTap 70 = .ok (.aastore, 1) := by decide +kernel
theorem dX2_dropTap_71 : decode cX2_dropTap 71 = .ok (.aload_n 0, 1) := by decide +kernel
theorem dX2_dropTap_72 : decode cX2_dropTap 72 = .ok (.invokevirtual 38, 3) := by decide +kernel
theorem dX2_dropTap_75 : decode cX2_dropTap 75 = .ok (.return_, 1) := by decide +kernel
set_option maxRecDepth 20000 in
theorem ggX2_sift_X2_fitsAllTaps : GoodIn wsX2_sift wsX2_fitsAllTaps := goodIn_r _ [8, 9, 10, 11, 12, 13, 14, 15, 16, 17, 18, 19, 20, 21, 22, 33, 34, 35, 36, 37, 38, 39, 40, 41, 42] (by decide +kernel) (by decide +kernel)
set_option maxRecDepth 20000 in
theorem gX2_sift_X2_fitsAllTaps : GoodIn wsX2_sift (wsV RX2 56 RX2 yX2_fitsAllTaps wsX2_fitsAllTaps) := goodIn_app (goodIn_of _ (by decide +kernel)) ggX2_sift_X2_fitsAllTaps
set_option maxRecDepth 20000 in
theorem ggX2_sift_X2_keep : GoodIn wsX2_sift wsX2_keep := goodIn_r _ [26, 1, 27, 28, 2, 3, 33, 34, 35, 36, 37, 38, 39] (by decide +kernel) (by decide +kernel)
set_option maxRecDepth 20000 in
theorem gX2_sift_X2_keep : GoodIn wsX2_sift (wsV RX2 60 RX2 yX2_keep wsX2_keep) := goodIn_app (goodIn_of _ (by decide +kernel)) ggX2_sift_X2_keep
set_option maxRecDepth 20000 in
theorem ggX2_sift_X2_dropInnerWoods : GoodIn wsX2_sift wsX2_dropInnerWoods := goodIn_r _ [32, 2, 3, 33, 34, 35, 36, 37, 38, 39] (by decide +kernel) (by decide +kernel)
set_option maxRecDepth 20000 in
theorem gX2_sift_X2_dropInnerWoods : GoodIn wsX2_sift (wsV RX2 64 RX2 yX2_dropInnerWoods wsX2_dropInnerWoods) := goodIn_app (goodIn_of _ (by decide +kernel)) ggX2_sift_X2_dropInnerWoods
theorem dX2_sift_0 : decode cX2_sift 0 = .ok (.aload_n 0, 1) := by decide +kernel
theorem dX2_sift_1 : decode cX2_sift 1 = .ok (.iconst 0, 1) := by decide +kernel
theorem dX2_sift_2 : decode cX2_sift 2 = .ok (.putfield 28, 3) := by decide +kernel
theorem dX2_sift_5 : decode cX2_sift 5 = .ok (.iconst 1, 1) := by decide +kernel
theorem dX2_sift_6 : decode cX2_sift 6 = .ok (.istore_n 1, 1) := by decide +kernel
theorem dX2_sift_7 : decode cX2_sift 7 = .ok (.iload_n 1, 1) := by decide +kernel
theorem dX2_sift_8 : decode cX2_sift 8 = .ok (.bipush 9, 2) := by decide +kernel
theorem dX2_sift_10 : decode cX2_sift 10 = .ok (.if_icmp .gt 52, 3) := by decide +kernel
theorem dX2_sift_13 : decode cX2_sift 13 = .ok (.aload_n 0, 1) := by decide +kernel
theorem dX2_sift_14 : decode cX2_sift 14 = .ok (.getfield 31, 3) := by decide +kernel
theorem dX2_sift_17 : decode cX2_sift 17 = .ok (.iload_n 1, 1) := by decide +kernel
theorem dX2_sift_18 : decode cX2_sift 18 = .ok (.iconst 0, 1) := by decide +kernel
theorem dX2_sift_19 : decode cX2_sift 19 = .ok (.iastore, 1) := by decide +kernel
theorem dX2_sift_20 : decode cX2_sift 20 = .ok (.aload_n 0, 1) := by decide +kernel
theorem dX2_sift_21 : decode cX2_sift 21 = .ok (.getfield 34, 3) := by decide +kernel
theorem dX2_sift_24 : decode cX2_sift 24 = .ok (.iload_n 1, 1) := by decide +kernel
theorem dX2_sift_25 : decode cX2_sift 25 = .ok (.iconst 0, 1) := by decide +kernel
theorem dX2_sift_26 : decode cX2_sift 26 = .ok (.iastore, 1) := by decide +kernel
theorem dX2_sift_27 : decode cX2_sift 27 = .ok (.iconst 1, 1) := by decide +kernel
theorem dX2_sift_28 : decode cX2_sift 28 = .ok (.istore_n 2, 1) := by decide +kernel
theorem dX2_sift_29 : decode cX2_sift 29 = .ok (.iload_n 2, 1) := by decide +kernel
theorem dX2_sift_30 : decode cX2_sift 30 = .ok (.bipush 9, 2) := by decide +kernel
theorem dX2_sift_32 : decode cX2_sift 32 = .ok (.if_icmp .gt 24, 3) := by decide +kernel
theorem dX2_sift_35 : decode cX2_sift 35 = .ok (.aload_n 0, 1) := by decide +kernel
theorem dX2_sift_36 : decode cX2_sift 36 = .ok (.iload_n 1, 1) := by decide +kernel
theorem dX2_sift_37 : decode cX2_sift 37 = .ok (.iload_n 2, 1) := by decide +kernel
theorem dX2_sift_38 : decode cX2_sift 38 = .ok (.invokevirtual 56, 3) := by decide +kernel
theorem dX2_sift_41 : decode cX2_sift 41 = .ok (.ifCond .eq 9, 3) := by decide +kernel
theorem dX2_sift_44 : decode cX2_sift 44 = .ok (.aload_n 0, 1) := by decide +kernel
theorem dX2_sift_45 : decode cX2_sift 45 = .ok (.iload_n 1, 1) := by decide +kernel
theorem dX2_sift_46 : decode cX2_sift 46 = .ok (.iload_n 2, 1) := by decide +kernel
theorem dX2_sift_47 : decode cX2_sift 47 = .ok (.invokevirtual 60, 3) := by decide +kernel
theorem dX2_sift_50 : decode cX2_sift 50 = .ok (.iinc 2 1, 3) := by decide +kernel
theorem dX2_sift_53 : decode cX2_sift 53 = .ok (.goto (-24), 3) := by decide +kernel
theorem dX2_sift_56 : decode cX2_sift 56 = .ok (.iinc 1 1, 3) := by decide +kernel
theorem dX2_sift_59 : decode cX2_sift 59 = .ok (.goto (-52), 3) := by decide +kernel
theorem dX2_sift_62 : decode cX2_sift 62 = .ok (.aload_n 0, 1) := by decide +kernel
theorem dX2_sift_63 : decode cX2_sift 63 = .ok (.invokevirtual 64, 3) := by decide +kernel
theorem dX2_sift_66 : decode cX2_sift 66 = .ok (.return_, 1) := by decide +kernel
set_option maxRecDepth 20000 in
theorem ggX2_fitsAllTaps_X6_fits : GoodIn wsX2_fitsAllTaps wsX6_fits := goodIn_r _ [7, 8, 9, 10, 11, 12, 13, 14, 22, 23, 24] (by decide +kernel) (by decide +kernel)
set_option maxRecDepth 20000 in
theorem gX2_fitsAllTaps_X6_fits : GoodIn wsX2_fitsAllTaps (wsV RX2 67 RX6 yX6_fits wsX6_fits) := goodIn_app (goodIn_of _ (by decide +kernel)) ggX2_fitsAllTaps_X6_fits
theorem dX2_fitsAllTaps_0 : decode cX2_fitsAllTaps 0 = .ok (.iconst 0, 1) := by decide +kernel
theorem dX2_fitsAllTaps_1 : decode cX2_fitsAllTaps 1 = .ok (.istore_n 3, 1) := by decide +kernel
theorem dX2_fitsAllTaps_2 : decode cX2_fitsAllTaps 2 = .ok (.iload_n 3, 1) := by decide +kernel
theorem dX2_fitsAllTaps_3 : decode cX2_fitsAllTaps 3 = .ok (.aload_n 0, 1) := by decide +kernel
theorem dX2_fitsAllTaps_4 : decode cX2_fitsAllTaps 4 = .ok (.getfield 17, 3) := by decide +kernel
theorem dX2_fitsAllTaps_7 : decode cX2_fitsAllTaps 7 = .ok (.if_icmp .ge 25, 3) := by decide +kernel
theorem dX2_fitsAllTaps_10 : decode cX2_fitsAllTaps 10 = .ok (.aload_n 0, 1) := by decide +kernel
theorem dX2_fitsAllTaps_11 : decode cX2_fitsAllTaps 11 = .ok (.getfield 11, 3) := by decide +kernel
theorem dX2_fitsAllTaps_14 : decode cX2_fitsAllTaps 14 = .ok (.iload_n 3, 1) := by decide +kernel
theorem dX2_fitsAllTaps_15 : decode cX2_fitsAllTaps 15 = .ok (.aaload, 1) := by decide +kernel
theorem dX2_fitsAllTaps_16 : decode cX2_fitsAllTaps 16 = .ok (.iload_n 1, 1) := by decide +kernel
theorem dX2_fitsAllTaps_17 : decode cX2_fitsAllTaps 17 = .ok (.iload_n 2, 1) := by decide +kernel
theorem dX2_fitsAllTaps_18 : decode cX2_fitsAllTaps 18 = .ok (.invokevirtual 67, 3) := by decide +kernel
theorem dX2_fitsAllTaps_21 : decode cX2_fitsAllTaps 21 = .ok (.ifCond .ne 5, 3) := by decide +kernel
theorem dX2_fitsAllTaps_24 : decode cX2_fitsAllTaps 24 = .ok (.iconst 0, 1) := by decide +kernel
theorem dX2_fitsAllTaps_25 : decode cX2_fitsAllTaps 25 = .ok (.ireturn, 1) := by decide +kernel
theorem dX2_fitsAllTaps_26 : decode cX2_fitsAllTaps 26 = .ok (.iinc 3 1, 3) := by decide +kernel
theorem dX2_fitsAllTaps_29 : decode cX2_fitsAllTaps 29 = .ok (.goto (-27), 3) := by decide +kernel
theorem dX2_fitsAllTaps_32 : decode cX2_fitsAllTaps 32 = .ok (.iconst 1, 1) := by decide +kernel
theorem dX2_fitsAllTaps_33 : decode cX2_fitsAllTaps 33 = .ok (.ireturn, 1) := by decide +kernel
theorem dX2_keep_0 : decode cX2_keep 0 = .ok (.aload_n 0, 1) := by decide +kernel
theorem dX2_keep_1 : decode cX2_keep 1 = .ok (.getfield 28, 3) := by decide +kernel
theorem dX2_keep_4 : decode cX2_keep 4 = .ok (.aload_n 0, 1) := by decide +kernel
theorem dX2_keep_5 : decode cX2_keep 5 = .ok (.getfield 21, 3) := by decide +kernel
theorem dX2_keep_8 : decode cX2_keep 8 = .ok (.arraylength, 1) := by decide +kernel
theorem dX2_keep_9 : decode cX2_keep 9 = .ok (.if_icmp .ge 56, 3) := by decide +kernel
theorem dX2_keep_12 : decode cX2_keep 12 = .ok (.aload_n 0, 1) := by decide +kernel
theorem dX2_keep_13 : decode cX2_keep 13 = .ok (.getfield 21, 3) := by decide +kernel
theorem dX2_keep_16 : decode cX2_keep 16 = .ok (.aload_n 0, 1) := by decide +kernel
theorem dX2_keep_17 : decode cX2_keep 17 = .ok (.getfield 28, 3) := by decide +kernel
theorem dX2_keep_20 : decode cX2_keep 20 = .ok (.iload_n 1, 1) := by decide +kernel
theorem dX2_keep_21 : decode cX2_keep 21 = .ok (.iastore, 1) := by decide +kernel
theorem dX2_keep_22 : decode cX2_keep 22 = .ok (.aload_n 0, 1) := by decide +kernel
theorem dX2_keep_23 : decode cX2_keep 23 = .ok (.getfield 25, 3) := by decide +kernel
theorem dX2_keep_26 : decode cX2_keep 26 = .ok (.aload_n 0, 1) := by decide +kernel
theorem dX2_keep_27 : decode cX2_keep 27 = .ok (.getfield 28, 3) := by decide +kernel
theorem dX2_keep_30 : decode cX2_keep 30 = .ok (.iload_n 2, 1) := by decide +kernel
theorem dX2_keep_31 : decode cX2_keep 31 = .ok (.iastore, 1) := by decide +kernel
theorem dX2_keep_32 : decode cX2_keep 32 = .ok (.aload_n 0, 1) := by decide +kernel
theorem dX2_keep_33 : decode cX2_keep 33 = .ok (.dup, 1) := by decide +kernel
theorem dX2_keep_34 : decode cX2_keep 34 = .ok (.getfield 28, 3) := by decide +kernel
theorem dX2_keep_37 : decode cX2_keep 37 = .ok (.iconst 1, 1) := by decide +kernel
theorem dX2_keep_38 : decode cX2_keep 38 = .ok (.iadd, 1) := by decide +kernel
theorem dX2_keep_39 : decode cX2_keep 39 = .ok (.putfield 28, 3) := by decide +kernel
theorem dX2_keep_42 : decode cX2_keep 42 = .ok (.aload_n 0, 1) := by decide +kernel
theorem dX2_keep_43 : decode cX2_keep 43 = .ok (.getfield 31, 3) := by decide +kernel
theorem dX2_keep_46 : decode cX2_keep 46 = .ok (.iload_n 1, 1) := by decide +kernel
theorem dX2_keep_47 : decode cX2_keep 47 = .ok (.iload_n 2, 1) := by decide +kernel
theorem dX2_keep_48 : decode cX2_keep 48 = .ok (.iastore, 1) := by decide +kernel
theorem dX2_keep_49 : decode cX2_keep 49 = .ok (.aload_n 0, 1) := by decide +kernel
theorem dX2_keep_50 : decode cX2_keep 50 = .ok (.getfield 34, 3) := by decide +kernel
theorem dX2_keep_53 : decode cX2_keep 53 = .ok (.iload_n 1, 1) := by decide +kernel
theorem dX2_keep_54 : decode cX2_keep 54 = .ok (.iaload, 1) := by decide +kernel
theorem dX2_keep_55 : decode cX2_keep 55 = .ok (.ifCond .ne 10, 3) := by decide +kernel
theorem dX2_keep_58 : decode cX2_keep 58 = .ok (.aload_n 0, 1) := by decide +kernel
theorem dX2_keep_59 : decode cX2_keep 59 = .ok (.getfield 34, 3) := by decide +kernel
theorem dX2_keep_62 : decode cX2_keep 62 = .ok (.iload_n 1, 1) := by decide +kernel
theorem dX2_keep_63 : decode cX2_keep 63 = .ok (.iload_n 2, 1) := by decide +kernel
theorem dX2_keep_64 : decode cX2_keep 64 = .ok (.iastore, 1) := by decide +kernel
theorem dX2_keep_65 : decode cX2_keep 65 = .ok (.return_, 1) := by decide +kernel
theorem dX2_dropInnerWoods_0 : decode cX2_dropInnerWoods 0 = .ok (.iconst 0, 1) := by decide +kernel
theorem dX2_dropInnerWoods_1 : decode cX2_dropInnerWoods 1 = .ok (.istore_n 1, 1) := by decide +kernel
theorem dX2_dropInnerWoods_2 : decode cX2_dropInnerWoods 2 = .ok (.iconst 1, 1) := by decide +kernel
theorem dX2_dropInnerWoods_3 : decode cX2_dropInnerWoods 3 = .ok (.istore_n 2, 1) := by decide +kernel
theorem dX2_dropInnerWoods_4 : decode cX2_dropInnerWoods 4 = .ok (.iload_n 2, 1) := by decide +kernel
theorem dX2_dropInnerWoods_5 : decode cX2_dropInnerWoods 5 = .ok (.bipush 9, 2) := by decide +kernel
theorem dX2_dropInnerWoods_7 : decode cX2_dropInnerWoods 7 = .ok (.if_icmp .gt 36, 3) := by decide +kernel
theorem dX2_dropInnerWoods_10 : decode cX2_dropInnerWoods 10 = .ok (.aload_n 0, 1) := by decide +kernel
theorem dX2_dropInnerWoods_11 : decode cX2_dropInnerWoods 11 = .ok (.getfield 31, 3) := by decide +kernel
theorem dX2_dropInnerWoods_14 : decode cX2_dropInnerWoods 14 = .ok (.iload_n 2, 1) := by decide +kernel
theorem dX2_dropInnerWoods_15 : decode cX2_dropInnerWoods 15 = .ok (.iaload, 1) := by decide +kernel
theorem dX2_dropInnerWoods_16 : decode cX2_dropInnerWoods 16 = .ok (.iload_n 1, 1) := by decide +kernel
theorem dX2_dropInnerWoods_17 : decode cX2_dropInnerWoods 17 = .ok (.if_icmp .gt 13, 3) := by decide +kernel
theorem dX2_dropInnerWoods_20 : decode cX2_dropInnerWoods 20 = .ok (.aload_n 0, 1) := by decide +kernel
theorem dX2_dropInnerWoods_21 : decode cX2_dropInnerWoods 21 = .ok (.getfield 31, 3) := by decide +kernel
theorem dX2_dropInnerWoods_24 : decode cX2_dropInnerWoods 24 = .ok (.iload_n 2, 1) := by decide +kernel
theorem dX2_dropInnerWoods_25 : decode cX2_dropInnerWoods 25 = .ok (.iconst 0, 1) := by decide +kernel
theorem dX2_dropInnerWoods_26 : decode cX2_dropInnerWoods 26 = .ok (.iastore, 1) := by decide +kernel
theorem dX2_dropInnerWoods_27 : decode cX2_dropInnerWoods 27 = .ok (.goto 10, 3) := by decide +kernel
theorem dX2_dropInnerWoods_30 : decode cX2_dropInnerWoods 30 = .ok (.aload_n 0, 1) := by decide +kernel
theorem dX2_dropInnerWoods_31 : decode cX2_dropInnerWoods 31 = .ok (.getfield 31, 3) := by decide +kernel
theorem dX2_dropInnerWoods_34 : decode cX2_dropInnerWoods 34 = .ok (.iload_n 2, 1) := by decide +kernel
theorem dX2_dropInnerWoods_35 : decode cX2_dropInnerWoods 35 = .ok (.iaload, 1) := by decide +kernel
theorem dX2_dropInnerWoods_36 : decode cX2_dropInnerWoods 36 = .ok (.istore_n 1, 1) := by decide +kernel
theorem dX2_dropInnerWoods_37 : decode cX2_dropInnerWoods 37 = .ok (.iinc 2 1, 3) := by decide +kernel
theorem dX2_dropInnerWoods_40 : decode cX2_dropInnerWoods 40 = .ok (.goto (-36), 3) := by decide +kernel
theorem dX2_dropInnerWoods_43 : decode cX2_dropInnerWoods 43 = .ok (.bipush 10, 2) := by decide +kernel
theorem dX2_dropInnerWoods_45 : decode cX2_dropInnerWoods 45 = .ok (.istore_n 2, 1) := by decide +kernel
theorem dX2_dropInnerWoods_46 : decode cX2_dropInnerWoods 46 = .ok (.bipush 9, 2) := by decide +kernel
theorem dX2_dropInnerWoods_48 : decode cX2_dropInnerWoods 48 = .ok (.istore_n 3, 1) := by decide +kernel
theorem dX2_dropInnerWoods_49 : decode cX2_dropInnerWoods 49 = .ok (.iload_n 3, 1) := by decide +kernel
theorem dX2_dropInnerWoods_50 : decode cX2_dropInnerWoods 50 = .ok (.iconst 1, 1) := by decide +kernel
theorem dX2_dropInnerWoods_51 : decode cX2_dropInnerWoods 51 = .ok (.if_icmp .lt 45, 3) := by decide +kernel
theorem dX2_dropInnerWoods_54 : decode cX2_dropInnerWoods 54 = .ok (.aload_n 0, 1) := by decide +kernel
theorem dX2_dropInnerWoods_55 : decode cX2_dropInnerWoods 55 = .ok (.getfield 34, 3) := by decide +kernel
theorem dX2_dropInnerWoods_58 : decode cX2_dropInnerWoods 58 = .ok (.iload_n 3, 1) := by decide +kernel
theorem dX2_dropInnerWoods_59 : decode cX2_dropInnerWoods 59 = .ok (.iaload, 1) := by decide +kernel
theorem dX2_dropInnerWoods_60 : decode cX2_dropInnerWoods 60 = .ok (.iload_n 2, 1) := by decide +kernel
theorem dX2_dropInnerWoods_61 : decode cX2_dropInnerWoods 61 = .ok (.if_icmp .lt 13, 3) := by decide +kernel
theorem dX2_dropInnerWoods_64 : decode cX2_dropInnerWoods 64 = .ok (.aload_n 0, 1) := by decide +kernel
theorem dX2_dropInnerWoods_65 : decode cX2_dropInnerWoods 65 = .ok (.getfield 34, 3) := by decide +kernel
theorem dX2_dropInnerWoods_68 : decode cX2_dropInnerWoods 68 = .ok (.iload_n 3, 1) := by decide +kernel
theorem dX2_dropInnerWoods_69 : decode cX2_dropInnerWoods 69 = .ok (.iconst 0, 1) := by decide +kernel
theorem dX2_dropInnerWoods_70 : decode cX2_dropInnerWoods 70 = .ok (.iastore, 1) := by decide +kernel
theorem dX2_dropInnerWoods_71 : decode cX2_dropInnerWoods 71 = .ok (.goto 19, 3) := by decide +kernel
theorem dX2_dropInnerWoods_74 : decode cX2_dropInnerWoods 74 = .ok (.aload_n 0, 1) := by decide +kernel
theorem dX2_dropInnerWoods_75 : decode cX2_dropInnerWoods 75 = .ok (.getfield 34, 3) := by decide +kernel
theorem dX2_dropInnerWoods_78 : decode cX2_dropInnerWoods 78 = .ok (.iload_n 3, 1) := by decide +kernel
theorem dX2_dropInnerWoods_79 : decode cX2_dropInnerWoods 79 = .ok (.iaload, 1) := by decide +kernel
theorem dX2_dropInnerWoods_80 : decode cX2_dropInnerWoods 80 = .ok (.ifCond .le 10, 3) := by decide +kernel
theorem dX2_dropInnerWoods_83 : decode cX2_dropInnerWoods 83 = .ok (.aload_n 0, 1) := by decide +kernel
theorem dX2_dropInnerWoods_84 : decode cX2_dropInnerWoods 84 = .ok (.getfield 34, 3) := by decide +kernel
theorem dX2_dropInnerWoods_87 : decode cX2_dropInnerWoods 87 = .ok (.iload_n 3, 1) := by decide +kernel
theorem dX2_dropInnerWoods_88 : decode cX2_dropInnerWoods 88 = .ok (.iaload, 1) := by decide +kernel
theorem dX2_dropInnerWoods_89 : decode cX2_dropInnerWoods 89 = .ok (.istore_n 2, 1) := by decide +kernel
theorem dX2_dropInnerWoods_90 : decode cX2_dropInnerWoods 90 = .ok (.iinc 3 (-1), 3) := by decide +kernel
theorem dX2_dropInnerWoods_93 : decode cX2_dropInnerWoods 93 = .ok (.goto (-44), 3) := by decide +kernel
theorem dX2_dropInnerWoods_96 : decode cX2_dropInnerWoods 96 = .ok (.return_, 1) := by decide +kernel
set_option maxRecDepth 20000 in
theorem ggX2_leastTone_X5_byWeight : GoodIn wsX2_leastTone wsX5_byWeight := goodIn_r _ [10] (by decide +kernel) (by decide +kernel)
set_option maxRecDepth 20000 in
theorem gX2_leastTone_X5_byWeight : GoodIn wsX2_leastTone (va_wsS RX2 73 yX5_byWeight wsX5_byWeight) := goodIn_app (goodIn_of _ (by decide +kernel)) ggX2_leastTone_X5_byWeight
theorem dX2_leastTone_0 : decode cX2_leastTone 0 = .ok (.ldc 72, 2) := by decide +kernel
theorem dX2_leastTone_2 : decode cX2_leastTone 2 = .ok (.istore_n 2, 1) := by decide +kernel
theorem dX2_leastTone_3 : decode cX2_leastTone 3 = .ok (.iconst 1, 1) := by decide +kernel
theorem dX2_leastTone_4 : decode cX2_leastTone 4 = .ok (.istore_n 3, 1) := by decide +kernel
theorem dX2_leastTone_5 : decode cX2_leastTone 5 = .ok (.iload_n 3, 1) := by decide +kernel
theorem dX2_leastTone_6 : decode cX2_leastTone 6 = .ok (.bipush 9, 2) := by decide +kernel
theorem dX2_leastTone_8 : decode cX2_leastTone 8 = .ok (.if_icmp .gt 35, 3) := by decide +kernel
theorem dX2_leastTone_11 : decode cX2_leastTone 11 = .ok (.aload_n 0, 1) := by decide +kernel
theorem dX2_leastTone_12 : decode cX2_leastTone 12 = .ok (.getfield 31, 3) := by decide +kernel
theorem dX2_leastTone_15 : decode cX2_leastTone 15 = .ok (.iload_n 3, 1) := by decide +kernel
theorem dX2_leastTone_16 : decode cX2_leastTone 16 = .ok (.iaload, 1) := by decide +kernel
theorem dX2_leastTone_17 : decode cX2_leastTone 17 = .ok (.ifCond .le 20, 3) := by decide +kernel
theorem dX2_leastTone_20 : decode cX2_leastTone 20 = .ok (.iload_n 2, 1) := by decide +kernel
theorem dX2_leastTone_21 : decode cX2_leastTone 21 = .ok (.aload_n 1, 1) := by decide +kernel
theorem dX2_leastTone_22 : decode cX2_leastTone 22 = .ok (.iload_n 3, 1) := by decide +kernel
theorem dX2_leastTone_23 : decode cX2_leastTone 23 = .ok (.iaload, 1) := by decide +kernel
theorem dX2_leastTone_24 : decode cX2_leastTone 24 = .ok (.aload_n 0, 1) := by decide +kernel
theorem dX2_leastTone_25 : decode cX2_leastTone 25 = .ok (.getfield 31, 3) := by decide +kernel
theorem dX2_leastTone_28 : decode cX2_leastTone 28 = .ok (.iload_n 3, 1) := by decide +kernel
theorem dX2_leastTone_29 : decode cX2_leastTone 29 = .ok (.iaload, 1) := by decide +kernel
theorem dX2_leastTone_30 : decode cX2_leastTone 30 = .ok (.invokestatic 73, 3) := by decide +kernel
theorem dX2_leastTone_33 : decode cX2_leastTone 33 = .ok (.invokestatic 77, 3) := by decide +kernel
theorem dX2_leastTone_36 : decode cX2_leastTone 36 = .ok (.istore_n 2, 1) := by decide +kernel
theorem dX2_leastTone_37 : decode cX2_leastTone 37 = .ok (.iinc 3 1, 3) := by decide +kernel
theorem dX2_leastTone_40 : decode cX2_leastTone 40 = .ok (.goto (-35), 3) := by decide +kernel
theorem dX2_leastTone_43 : decode cX2_leastTone 43 = .ok (.iload_n 2, 1) := by decide +kernel
theorem dX2_leastTone_44 : decode cX2_leastTone 44 = .ok (.ireturn, 1) := by decide +kernel
set_option maxRecDepth 20000 in
theorem ggX2_greatestTone_X5_byWeight : GoodIn wsX2_greatestTone wsX5_byWeight := goodIn_r _ [9] (by decide +kernel) (by decide +kernel)
set_option maxRecDepth 20000 in
theorem gX2_greatestTone_X5_byWeight : GoodIn wsX2_greatestTone (va_wsS RX2 73 yX5_byWeight wsX5_byWeight) := goodIn_app (goodIn_of _ (by decide +kernel)) ggX2_greatestTone_X5_byWeight
theorem dX2_greatestTone_0 : decode cX2_greatestTone 0 = .ok (.iconst 0, 1) := by decide +kernel
theorem dX2_greatestTone_1 : decode cX2_greatestTone 1 = .ok (.istore_n 2, 1) := by decide +kernel
theorem dX2_greatestTone_2 : decode cX2_greatestTone 2 = .ok (.iconst 1, 1) := by decide +kernel
theorem dX2_greatestTone_3 : decode cX2_greatestTone 3 = .ok (.istore_n 3, 1) := by decide +kernel
theorem dX2_greatestTone_4 : decode cX2_greatestTone 4 = .ok (.iload_n 3, 1) := by decide +kernel
theorem dX2_greatestTone_5 : decode cX2_greatestTone 5 = .ok (.bipush 9, 2) := by decide +kernel
theorem dX2_greatestTone_7 : decode cX2_greatestTone 7 = .ok (.if_icmp .gt 35, 3) := by decide +kernel
theorem dX2_greatestTone_10 : decode cX2_greatestTone 10 = .ok (.aload_n 0, 1) := by decide +kernel
theorem dX2_greatestTone_11 : decode cX2_greatestTone 11 = .ok (.getfield 34, 3) := by decide +kernel
theorem dX2_greatestTone_14 : decode cX2_greatestTone 14 = .ok (.iload_n 3, 1) := by decide +kernel
theorem dX2_greatestTone_15 : decode cX2_greatestTone 15 = .ok (.iaload, 1) := by decide +kernel
theorem dX2_greatestTone_16 : decode cX2_greatestTone 16 = .ok (.ifCond .le 20, 3) := by decide +kernel
theorem dX2_greatestTone_19 : decode cX2_greatestTone 19 = .ok (.iload_n 2, 1) := by decide +kernel
theorem dX2_greatestTone_20 : decode cX2_greatestTone 20 = .ok (.aload_n 1, 1) := by decide +kernel
theorem dX2_greatestTone_21 : decode cX2_greatestTone 21 = .ok (.iload_n 3, 1) := by decide +kernel
theorem dX2_greatestTone_22 : decode cX2_greatestTone 22 = .ok (.iaload, 1) := by decide +kernel
theorem dX2_greatestTone_23 : decode cX2_greatestTone 23 = .ok (.aload_n 0, 1) := by decide +kernel
theorem dX2_greatestTone_24 : decode cX2_greatestTone 24 = .ok (.getfield 34, 3) := by decide +kernel
theorem dX2_greatestTone_27 : decode cX2_greatestTone 27 = .ok (.iload_n 3, 1) := by decide +kernel
theorem dX2_greatestTone_28 : decode cX2_greatestTone 28 = .ok (.iaload, 1) := by decide +kernel
theorem dX2_greatestTone_29 : decode cX2_greatestTone 29 = .ok (.invokestatic 73, 3) := by decide +kernel
theorem dX2_greatestTone_32 : decode cX2_greatestTone 32 = .ok (.invokestatic 82, 3) := by decide +kernel
theorem dX2_greatestTone_35 : decode cX2_greatestTone 35 = .ok (.istore_n 2, 1) := by decide +kernel
theorem dX2_greatestTone_36 : decode cX2_greatestTone 36 = .ok (.iinc 3 1, 3) := by decide +kernel
theorem dX2_greatestTone_39 : decode cX2_greatestTone 39 = .ok (.goto (-35), 3) := by decide +kernel
theorem dX2_greatestTone_42 : decode cX2_greatestTone 42 = .ok (.iload_n 2, 1) := by decide +kernel
theorem dX2_greatestTone_43 : decode cX2_greatestTone 43 = .ok (.ireturn, 1) := by decide +kernel
set_option maxRecDepth 20000 in
theorem ggX2_toneOfLeft_X5_byWeight : GoodIn wsX2_toneOfLeft wsX5_byWeight := goodIn_r _ [6] (by decide +kernel) (by decide +kernel)
set_option maxRecDepth 20000 in
theorem gX2_toneOfLeft_X5_byWeight : GoodIn wsX2_toneOfLeft (va_wsS RX2 73 yX5_byWeight wsX5_byWeight) := goodIn_app (goodIn_of _ (by decide +kernel)) ggX2_toneOfLeft_X5_byWeight
theorem dX2_toneOfLeft_0 : decode cX2_toneOfLeft 0 = .ok (.aload_n 2, 1) := by decide +kernel
theorem dX2_toneOfLeft_1 : decode cX2_toneOfLeft 1 = .ok (.aload_n 0, 1) := by decide +kernel
theorem dX2_toneOfLeft_2 : decode cX2_toneOfLeft 2 = .ok (.getfield 21, 3) := by decide +kernel
theorem dX2_toneOfLeft_5 : decode cX2_toneOfLeft 5 = .ok (.iload_n 1, 1) := by decide +kernel
theorem dX2_toneOfLeft_6 : decode cX2_toneOfLeft 6 = .ok (.iaload, 1) := by decide +kernel
theorem dX2_toneOfLeft_7 : decode cX2_toneOfLeft 7 = .ok (.iaload, 1) := by decide +kernel
theorem dX2_toneOfLeft_8 : decode cX2_toneOfLeft 8 = .ok (.aload_n 0, 1) := by decide +kernel
theorem dX2_toneOfLeft_9 : decode cX2_toneOfLeft 9 = .ok (.getfield 25, 3) := by decide +kernel
theorem dX2_toneOfLeft_12 : decode cX2_toneOfLeft 12 = .ok (.iload_n 1, 1) := by decide +kernel
theorem dX2_toneOfLeft_13 : decode cX2_toneOfLeft 13 = .ok (.iaload, 1) := by decide +kernel
theorem dX2_toneOfLeft_14 : decode cX2_toneOfLeft 14 = .ok (.invokestatic 73, 3) := by decide +kernel
theorem dX2_toneOfLeft_17 : decode cX2_toneOfLeft 17 = .ok (.ireturn, 1) := by decide +kernel
set_option maxRecDepth 20000 in
theorem ggX2_farthest_X2_toneOfLeft : GoodIn wsX2_farthest wsX2_toneOfLeft := goodIn_r _ [13, 14, 15, 16, 17, 18, 19, 20, 21, 22, 23, 24, 25, 26] (by decide +kernel) (by decide +kernel)
set_option maxRecDepth 20000 in
theorem gX2_farthest_X2_toneOfLeft : GoodIn wsX2_farthest (wsV RX2 85 RX2 yX2_toneOfLeft wsX2_toneOfLeft) := goodIn_app (goodIn_of _ (by decide +kernel)) ggX2_farthest_X2_toneOfLeft
theorem dX2_farthest_0 : decode cX2_farthest 0 = .ok (.iconst 0, 1) := by decide +kernel
theorem dX2_farthest_1 : decode cX2_farthest 1 = .ok (.istore_n 3, 1) := by decide +kernel
theorem dX2_farthest_2 : decode cX2_farthest 2 = .ok (.iconst 0, 1) := by decide +kernel
theorem dX2_farthest_3 : decode cX2_farthest 3 = .ok (.istore 4, 2) := by decide +kernel
theorem dX2_farthest_5 : decode cX2_farthest 5 = .ok (.iload 4, 2) := by decide +kernel
theorem dX2_farthest_7 : decode cX2_farthest 7 = .ok (.aload_n 0, 1) := by decide +kernel
theorem dX2_farthest_8 : decode cX2_farthest 8 = .ok (.getfield 28, 3) := by decide +kernel
theorem dX2_farthest_11 : decode cX2_farthest 11 = .ok (.if_icmp .ge 36, 3) := by decide +kernel
theorem dX2_farthest_14 : decode cX2_farthest 14 = .ok (.aload_n 0, 1) := by decide +kernel
theorem dX2_farthest_15 : decode cX2_farthest 15 = .ok (.iload 4, 2) := by decide +kernel
theorem dX2_farthest_17 : decode cX2_farthest 17 = .ok (.aload_n 1, 1) := by decide +kernel
theorem dX2_farthest_18 : decode cX2_farthest 18 = .ok (.invokevirtual 85, 3) := by decide +kernel
theorem dX2_farthest_21 : decode cX2_farthest 21 = .ok (.aload_n 0, 1) := by decide +kernel
theorem dX2_farthest_22 : decode cX2_farthest 22 = .ok (.iload 4, 2) := by decide +kernel
theorem dX2_farthest_24 : decode cX2_farthest 24 = .ok (.aload_n 2, 1) := by decide +kernel
theorem dX2_farthest_25 : decode cX2_farthest 25 = .ok (.invokevirtual 85, 3) := by decide +kernel
theorem dX2_farthest_28 : decode cX2_farthest 28 = .ok (.isub, 1) := by decide +kernel
theorem dX2_farthest_29 : decode cX2_farthest 29 = .ok (.invokestatic 89, 3) := by decide +kernel
theorem dX2_farthest_32 : decode cX2_farthest 32 = .ok (.istore 5, 2) := by decide +kernel
theorem dX2_farthest_34 : decode cX2_farthest 34 = .ok (.iload_n 3, 1) := by decide +kernel
theorem dX2_farthest_35 : decode cX2_farthest 35 = .ok (.iload 5, 2) := by decide +kernel
theorem dX2_farthest_37 : decode cX2_farthest 37 = .ok (.invokestatic 82, 3) := by decide +kernel
theorem dX2_farthest_40 : decode cX2_farthest 40 = .ok (.istore_n 3, 1) := by decide +kernel
theorem dX2_farthest_41 : decode cX2_farthest 41 = .ok (.iinc 4 1, 3) := by decide +kernel
theorem dX2_farthest_44 : decode cX2_farthest 44 = .ok (.goto (-39), 3) := by decide +kernel
theorem dX2_farthest_47 : decode cX2_farthest 47 = .ok (.iload_n 3, 1) := by decide +kernel
theorem dX2_farthest_48 : decode cX2_farthest 48 = .ok (.ireturn, 1) := by decide +kernel
theorem dX3_init_0 : decode cX3_init 0 = .ok (.aload_n 0, 1) := by decide +kernel
theorem dX3_init_1 : decode cX3_init 1 = .ok (.invokespecial 3, 3) := by decide +kernel
theorem dX3_init_4 : decode cX3_init 4 = .ok (.aload_n 0, 1) := by decide +kernel
theorem dX3_init_5 : decode cX3_init 5 = .ok (.iconst 4, 1) := by decide +kernel
theorem dX3_init_6 : decode cX3_init 6 = .ok (.newarray .int, 2) := by decide +kernel
theorem dX3_init_8 : decode cX3_init 8 = .ok (.putfield 9, 3) := by decide +kernel
theorem dX3_init_11 : decode cX3_init 11 = .ok (.aload_n 0, 1) := by decide +kernel
theorem dX3_init_12 : decode cX3_init 12 = .ok (.iconst 4, 1) := by decide +kernel
theorem dX3_init_13 : decode cX3_init 13 = .ok (.newarray .int, 2) := by decide +kernel
theorem dX3_init_15 : decode cX3_init 15 = .ok (.putfield 15, 3) := by decide +kernel
theorem dX3_init_18 : decode cX3_init 18 = .ok (.aload_n 0, 1) := by decide +kernel
theorem dX3_init_19 : decode cX3_init 19 = .ok (.iconst 4, 1) := by decide +kernel
theorem dX3_init_20 : decode cX3_init 20 = .ok (.newarray .int, 2) := by decide +kernel
theorem dX3_init_22 : decode cX3_init 22 = .ok (.putfield 18, 3) := by decide +kernel
theorem dX3_init_25 : decode cX3_init 25 = .ok (.aload_n 0, 1) := by decide +kernel
theorem dX3_init_26 : decode cX3_init 26 = .ok (.iconst (-1), 1) := by decide +kernel
theorem dX3_init_27 : decode cX3_init 27 = .ok (.putfield 21, 3) := by decide +kernel
theorem dX3_init_30 : decode cX3_init 30 = .ok (.aload_n 0, 1) := by decide +kernel
theorem dX3_init_31 : decode cX3_init 31 = .ok (.iconst (-1), 1) := by decide +kernel
theorem dX3_init_32 : decode cX3_init 32 = .ok (.putfield 25, 3) := by decide +kernel
theorem dX3_init_35 : decode cX3_init 35 = .ok (.return_, 1) := by decide +kernel
theorem dX3_forget_0 : decode cX3_forget 0 = .ok (.aload_n 0, 1) := by decide +kernel
theorem dX3_forget_1 : decode cX3_forget 1 = .ok (.iconst (-1), 1) := by decide +kernel
theorem dX3_forget_2 : decode cX3_forget 2 = .ok (.putfield 25, 3) := by decide +kernel
theorem dX3_forget_5 : decode cX3_forget 5 = .ok (.return_, 1) := by decide +kernel
set_option maxRecDepth 20000 in
theorem ggX3_search_X3_foundOf : GoodIn wsX3_search wsX3_foundOf := goodIn_r _ [11, 1, 12, 13, 4, 14, 2, 3, 5, 15, 16, 17, 18, 10, 19, 20, 21, 22, 23, 24, 25, 26, 27, 28, 29, 30, 31, 32, 33, 34, 35, 36, 37, 38, 39, 40, 41, 42, 43, 44, 45, 46, 47, 48, 49, 50, 51, 52] (by decide +kernel) (by decide +kernel)
set_option maxRecDepth 20000 in
theorem gX3_search_X3_foundOf : GoodIn wsX3_search (wsV RX3 34 RX3 yX3_foundOf wsX3_foundOf) := goodIn_app (goodIn_of _ (by decide +kernel)) ggX3_search_X3_foundOf
theorem dX3_search_0 : decode cX3_search 0 = .ok (.iconst 0, 1) := by decide +kernel
theorem dX3_search_1 : decode cX3_search 1 = .ok (.istore 5, 2) := by decide +kernel
theorem dX3_search_3 : decode cX3_search 3 = .ok (.iconst 0, 1) := by decide +kernel
theorem dX3_search_4 : decode cX3_search 4 = .ok (.istore 6, 2) := by decide +kernel
theorem dX3_search_6 : decode cX3_search 6 = .ok (.iload 6, 2) := by decide +kernel
end
section
theorem dX3_search_8 : decode cX3_search 8 = .ok (.iconst 4, 1) := by decide +kernel
theorem dX3_search_9 : decode cX3_search 9 = .ok (.if_icmp .ge 38, 3) := by decide +kernel
theorem dX3_search_12 : decode cX3_search 12 = .ok (.aload_n 0, 1) := by decide +kernel
theorem dX3_search_13 : decode cX3_search 13 = .ok (.getfield 15, 3) := by decide +kernel
theorem dX3_search_16 : decode cX3_search 16 = .ok (.iload 6, 2) := by decide +kernel
theorem dX3_search_18 : decode cX3_search 18 = .ok (.iconst 0, 1) := by decide +kernel
theorem dX3_search_19 : decode cX3_search 19 = .ok (.aload_n 1, 1) := by decide +kernel
theorem dX3_search_20 : decode cX3_search 20 = .ok (.iload 6, 2) := by decide +kernel
theorem dX3_search_22 : decode cX3_search 22 = .ok (.iaload, 1) := by decide +kernel
theorem dX3_search_23 : decode cX3_search 23 = .ok (.iload_n 2, 1) := by decide +kernel
theorem dX3_search_24 : decode cX3_search 24 = .ok (.isub, 1) := by decide +kernel
theorem dX3_search_25 : decode cX3_search 25 = .ok (.invokestatic 28, 3) := by decide +kernel
theorem dX3_search_28 : decode cX3_search 28 = .ok (.iastore, 1) := by decide +kernel
theorem dX3_search_29 : decode cX3_search 29 = .ok (.iload 5, 2) := by decide +kernel
theorem dX3_search_31 : decode cX3_search 31 = .ok (.aload_n 0, 1) := by decide +kernel
theorem dX3_search_32 : decode cX3_search 32 = .ok (.getfield 15, 3) := by decide +kernel
theorem dX3_search_35 : decode cX3_search 35 = .ok (.iload 6, 2) := by decide +kernel
theorem dX3_search_37 : decode cX3_search 37 = .ok (.iaload, 1) := by decide +kernel
theorem dX3_search_38 : decode cX3_search 38 = .ok (.iadd, 1) := by decide +kernel
theorem dX3_search_39 : decode cX3_search 39 = .ok (.istore 5, 2) := by decide +kernel
theorem dX3_search_41 : decode cX3_search 41 = .ok (.iinc 6 1, 3) := by decide +kernel
theorem dX3_search_44 : decode cX3_search 44 = .ok (.goto (-38), 3) := by decide +kernel
theorem dX3_search_47 : decode cX3_search 47 = .ok (.aload_n 0, 1) := by decide +kernel
theorem dX3_search_48 : decode cX3_search 48 = .ok (.iconst (-1), 1) := by decide +kernel
theorem dX3_search_49 : decode cX3_search 49 = .ok (.putfield 21, 3) := by decide +kernel
theorem dX3_search_52 : decode cX3_search 52 = .ok (.iconst 0, 1) := by decide +kernel
theorem dX3_search_53 : decode cX3_search 53 = .ok (.istore 6, 2) := by decide +kernel
theorem dX3_search_55 : decode cX3_search 55 = .ok (.iload 6, 2) := by decide +kernel
theorem dX3_search_57 : decode cX3_search 57 = .ok (.iload 5, 2) := by decide +kernel
theorem dX3_search_59 : decode cX3_search 59 = .ok (.if_icmp .gt 36, 3) := by decide +kernel
theorem dX3_search_62 : decode cX3_search 62 = .ok (.aload_n 0, 1) := by decide +kernel
theorem dX3_search_63 : decode cX3_search 63 = .ok (.getfield 21, 3) := by decide +kernel
theorem dX3_search_66 : decode cX3_search 66 = .ok (.iconst (-1), 1) := by decide +kernel
theorem dX3_search_67 : decode cX3_search 67 = .ok (.if_icmp .ne 28, 3) := by decide +kernel
theorem dX3_search_70 : decode cX3_search 70 = .ok (.aload_n 0, 1) := by decide +kernel
theorem dX3_search_71 : decode cX3_search 71 = .ok (.iload 6, 2) := by decide +kernel
theorem dX3_search_73 : decode cX3_search 73 = .ok (.aload_n 1, 1) := by decide +kernel
theorem dX3_search_74 : decode cX3_search 74 = .ok (.aload_n 3, 1) := by decide +kernel
theorem dX3_search_75 : decode cX3_search 75 = .ok (.aload 4, 2) := by decide +kernel
theorem dX3_search_77 : decode cX3_search 77 = .ok (.invokevirtual 34, 3) := by decide +kernel
theorem dX3_search_80 : decode cX3_search 80 = .ok (.ifCond .eq 9, 3) := by decide +kernel
theorem dX3_search_83 : decode cX3_search 83 = .ok (.aload_n 0, 1) := by decide +kernel
theorem dX3_search_84 : decode cX3_search 84 = .ok (.iload 6, 2) := by decide +kernel
theorem dX3_search_86 : decode cX3_search 86 = .ok (.putfield 21, 3) := by decide +kernel
theorem dX3_search_89 : decode cX3_search 89 = .ok (.iinc 6 1, 3) := by decide +kernel
theorem dX3_search_92 : decode cX3_search 92 = .ok (.goto (-37), 3) := by decide +kernel
theorem dX3_search_95 : decode cX3_search 95 = .ok (.return_, 1) := by decide +kernel
set_option maxRecDepth 20000 in
theorem ggX3_foundOf_X3_take : GoodIn wsX3_foundOf wsX3_take := goodIn_r _ [14, 15, 9, 33, 34, 35, 36, 37] (by decide +kernel) (by decide +kernel)
set_option maxRecDepth 20000 in
theorem gX3_foundOf_X3_take : GoodIn wsX3_foundOf (wsV RX3 41 RX3 yX3_take wsX3_take) := goodIn_app (goodIn_of _ (by decide +kernel)) ggX3_foundOf_X3_take
set_option maxRecDepth 20000 in
theorem ggX3_foundOf_X0_metBy : GoodIn wsX3_foundOf wsX0_metBy := goodIn_r _ [20, 21, 22, 23, 24, 25, 26, 27, 28, 29, 30, 31, 32, 38, 39, 40, 41, 42, 43, 44, 45, 46, 47] (by decide +kernel) (by decide +kernel)
set_option maxRecDepth 20000 in
theorem gX3_foundOf_X0_metBy : GoodIn wsX3_foundOf (wsV RX3 45 RX0 yX0_metBy wsX0_metBy) := goodIn_app (goodIn_of _ (by decide +kernel)) ggX3_foundOf_X0_metBy
theorem dX3_foundOf_0 : decode cX3_foundOf 0 = .ok (.iconst 0, 1) := by decide +kernel
theorem dX3_foundOf_1 : decode cX3_foundOf 1 = .ok (.istore 5, 2) := by decide +kernel
theorem dX3_foundOf_3 : decode cX3_foundOf 3 = .ok (.iload 5, 2) := by decide +kernel
theorem dX3_foundOf_5 : decode cX3_foundOf 5 = .ok (.iload_n 1, 1) := by decide +kernel
theorem dX3_foundOf_6 : decode cX3_foundOf 6 = .ok (.aload_n 0, 1) := by decide +kernel
theorem dX3_foundOf_7 : decode cX3_foundOf 7 = .ok (.getfield 15, 3) := by decide +kernel
theorem dX3_foundOf_10 : decode cX3_foundOf 10 = .ok (.iconst 0, 1) := by decide +kernel
theorem dX3_foundOf_11 : decode cX3_foundOf 11 = .ok (.iaload, 1) := by decide +kernel
theorem dX3_foundOf_12 : decode cX3_foundOf 12 = .ok (.invokestatic 38, 3) := by decide +kernel
theorem dX3_foundOf_15 : decode cX3_foundOf 15 = .ok (.if_icmp .gt 113, 3) := by decide +kernel
theorem dX3_foundOf_18 : decode cX3_foundOf 18 = .ok (.iconst 0, 1) := by decide +kernel
theorem dX3_foundOf_19 : decode cX3_foundOf 19 = .ok (.istore 6, 2) := by decide +kernel
theorem dX3_foundOf_21 : decode cX3_foundOf 21 = .ok (.iload 6, 2) := by decide +kernel
theorem dX3_foundOf_23 : decode cX3_foundOf 23 = .ok (.iload_n 1, 1) := by decide +kernel
theorem dX3_foundOf_24 : decode cX3_foundOf 24 = .ok (.iload 5, 2) := by decide +kernel
theorem dX3_foundOf_26 : decode cX3_foundOf 26 = .ok (.isub, 1) := by decide +kernel
theorem dX3_foundOf_27 : decode cX3_foundOf 27 = .ok (.aload_n 0, 1) := by decide +kernel
theorem dX3_foundOf_28 : decode cX3_foundOf 28 = .ok (.getfield 15, 3) := by decide +kernel
theorem dX3_foundOf_31 : decode cX3_foundOf 31 = .ok (.iconst 1, 1) := by decide +kernel
theorem dX3_foundOf_32 : decode cX3_foundOf 32 = .ok (.iaload, 1) := by decide +kernel
theorem dX3_foundOf_33 : decode cX3_foundOf 33 = .ok (.invokestatic 38, 3) := by decide +kernel
theorem dX3_foundOf_36 : decode cX3_foundOf 36 = .ok (.if_icmp .gt 86, 3) := by decide +kernel
theorem dX3_foundOf_39 : decode cX3_foundOf 39 = .ok (.iload_n 1, 1) := by decide +kernel
theorem dX3_foundOf_40 : decode cX3_foundOf 40 = .ok (.iload 5, 2) := by decide +kernel
theorem dX3_foundOf_42 : decode cX3_foundOf 42 = .ok (.isub, 1) := by decide +kernel
theorem dX3_foundOf_43 : decode cX3_foundOf 43 = .ok (.iload 6, 2) := by decide +kernel
theorem dX3_foundOf_45 : decode cX3_foundOf 45 = .ok (.isub, 1) := by decide +kernel
theorem dX3_foundOf_46 : decode cX3_foundOf 46 = .ok (.istore 7, 2) := by decide +kernel
theorem dX3_foundOf_48 : decode cX3_foundOf 48 = .ok (.iconst 0, 1) := by decide +kernel
theorem dX3_foundOf_49 : decode cX3_foundOf 49 = .ok (.iload 7, 2) := by decide +kernel
theorem dX3_foundOf_51 : decode cX3_foundOf 51 = .ok (.aload_n 0, 1) := by decide +kernel
theorem dX3_foundOf_52 : decode cX3_foundOf 52 = .ok (.getfield 15, 3) := by decide +kernel
theorem dX3_foundOf_55 : decode cX3_foundOf 55 = .ok (.iconst 3, 1) := by decide +kernel
theorem dX3_foundOf_56 : decode cX3_foundOf 56 = .ok (.iaload, 1) := by decide +kernel
theorem dX3_foundOf_57 : decode cX3_foundOf 57 = .ok (.isub, 1) := by decide +kernel
theorem dX3_foundOf_58 : decode cX3_foundOf 58 = .ok (.invokestatic 28, 3) := by decide +kernel
theorem dX3_foundOf_61 : decode cX3_foundOf 61 = .ok (.istore 8, 2) := by decide +kernel
theorem dX3_foundOf_63 : decode cX3_foundOf 63 = .ok (.iload 8, 2) := by decide +kernel
theorem dX3_foundOf_65 : decode cX3_foundOf 65 = .ok (.iload 7, 2) := by decide +kernel
theorem dX3_foundOf_67 : decode cX3_foundOf 67 = .ok (.aload_n 0, 1) := by decide +kernel
theorem dX3_foundOf_68 : decode cX3_foundOf 68 = .ok (.getfield 15, 3) := by decide +kernel
theorem dX3_foundOf_71 : decode cX3_foundOf 71 = .ok (.iconst 2, 1) := by decide +kernel
theorem dX3_foundOf_72 : decode cX3_foundOf 72 = .ok (.iaload, 1) := by decide +kernel
theorem dX3_foundOf_73 : decode cX3_foundOf 73 = .ok (.invokestatic 38, 3) := by decide +kernel
theorem dX3_foundOf_76 : decode cX3_foundOf 76 = .ok (.if_icmp .gt 40, 3) := by decide +kernel
theorem dX3_foundOf_79 : decode cX3_foundOf 79 = .ok (.aload_n 0, 1) := by decide +kernel
theorem dX3_foundOf_80 : decode cX3_foundOf 80 = .ok (.aload_n 2, 1) := by decide +kernel
theorem dX3_foundOf_81 : decode cX3_foundOf 81 = .ok (.iload 5, 2) := by decide +kernel
theorem dX3_foundOf_83 : decode cX3_foundOf 83 = .ok (.iload 6, 2) := by decide +kernel
theorem dX3_foundOf_85 : decode cX3_foundOf 85 = .ok (.iload 8, 2) := by decide +kernel
theorem dX3_foundOf_87 : decode cX3_foundOf 87 = .ok (.iload 7, 2) := by decide +kernel
theorem dX3_foundOf_89 : decode cX3_foundOf 89 = .ok (.iload 8, 2) := by decide +kernel
theorem dX3_foundOf_91 : decode cX3_foundOf 91 = .ok (.isub, 1) := by decide +kernel
theorem dX3_foundOf_92 : decode cX3_foundOf 92 = .ok (.invokevirtual 41, 3) := by decide +kernel
theorem dX3_foundOf_95 : decode cX3_foundOf 95 = .ok (.aload 4, 2) := by decide +kernel
theorem dX3_foundOf_97 : decode cX3_foundOf 97 = .ok (.aload_n 0, 1) := by decide +kernel
theorem dX3_foundOf_98 : decode cX3_foundOf 98 = .ok (.getfield 18, 3) := by decide +kernel
theorem dX3_foundOf_101 : decode cX3_foundOf 101 = .ok (.aload_n 3, 1) := by decide +kernel
theorem dX3_foundOf_102 : decode cX3_foundOf 102 = .ok (.invokevirtual 45, 3) := by decide +kernel
theorem dX3_foundOf_105 : decode cX3_foundOf 105 = .ok (.ifCond .eq 5, 3) := by decide +kernel
theorem dX3_foundOf_108 : decode cX3_foundOf 108 = .ok (.iconst 1, 1) := by decide +kernel
theorem dX3_foundOf_109 : decode cX3_foundOf 109 = .ok (.ireturn, 1) := by decide +kernel
theorem dX3_foundOf_110 : decode cX3_foundOf 110 = .ok (.iinc 8 1, 3) := by decide +kernel
theorem dX3_foundOf_113 : decode cX3_foundOf 113 = .ok (.goto (-50), 3) := by decide +kernel
theorem dX3_foundOf_116 : decode cX3_foundOf 116 = .ok (.iinc 6 1, 3) := by decide +kernel
theorem dX3_foundOf_119 : decode cX3_foundOf 119 = .ok (.goto (-98), 3) := by decide +kernel
theorem dX3_foundOf_122 : decode cX3_foundOf 122 = .ok (.iinc 5 1, 3) := by decide +kernel
theorem dX3_foundOf_125 : decode cX3_foundOf 125 = .ok (.goto (-122), 3) := by decide +kernel
theorem dX3_foundOf_128 : decode cX3_foundOf 128 = .ok (.iconst 0, 1) := by decide +kernel
theorem dX3_foundOf_129 : decode cX3_foundOf 129 = .ok (.ireturn, 1) := by decide +kernel
theorem dX3_take_0 : decode cX3_take 0 = .ok (.aload_n 0, 1) := by decide +kernel
theorem dX3_take_1 : decode cX3_take 1 = .ok (.getfield 9, 3) := by decide +kernel
theorem dX3_take_4 : decode cX3_take 4 = .ok (.iconst 0, 1) := by decide +kernel
theorem dX3_take_5 : decode cX3_take 5 = .ok (.iload_n 2, 1) := by decide +kernel
theorem dX3_take_6 : decode cX3_take 6 = .ok (.iastore, 1) := by decide +kernel
theorem dX3_take_7 : decode cX3_take 7 = .ok (.aload_n 0, 1) := by decide +kernel
theorem dX3_take_8 : decode cX3_take 8 = .ok (.getfield 9, 3) := by decide +kernel
theorem dX3_take_11 : decode cX3_take 11 = .ok (.iconst 1, 1) := by decide +kernel
theorem dX3_take_12 : decode cX3_take 12 = .ok (.iload_n 3, 1) := by decide +kernel
theorem dX3_take_13 : decode cX3_take 13 = .ok (.iastore, 1) := by decide +kernel
theorem dX3_take_14 : decode cX3_take 14 = .ok (.aload_n 0, 1) := by decide +kernel
theorem dX3_take_15 : decode cX3_take 15 = .ok (.getfield 9, 3) := by decide +kernel
theorem dX3_take_18 : decode cX3_take 18 = .ok (.iconst 2, 1) := by decide +kernel
theorem dX3_take_19 : decode cX3_take 19 = .ok (.iload 4, 2) := by decide +kernel
theorem dX3_take_21 : decode cX3_take 21 = .ok (.iastore, 1) := by decide +kernel
theorem dX3_take_22 : decode cX3_take 22 = .ok (.aload_n 0, 1) := by decide +kernel
theorem dX3_take_23 : decode cX3_take 23 = .ok (.getfield 9, 3) := by decide +kernel
theorem dX3_take_26 : decode cX3_take 26 = .ok (.iconst 3, 1) := by decide +kernel
theorem dX3_take_27 : decode cX3_take 27 = .ok (.iload 5, 2) := by decide +kernel
theorem dX3_take_29 : decode cX3_take 29 = .ok (.iastore, 1) := by decide +kernel
theorem dX3_take_30 : decode cX3_take 30 = .ok (.iconst 0, 1) := by decide +kernel
theorem dX3_take_31 : decode cX3_take 31 = .ok (.istore 6, 2) := by decide +kernel
theorem dX3_take_33 : decode cX3_take 33 = .ok (.iload 6, 2) := by decide +kernel
theorem dX3_take_35 : decode cX3_take 35 = .ok (.iconst 4, 1) := by decide +kernel
theorem dX3_take_36 : decode cX3_take 36 = .ok (.if_icmp .ge 28, 3) := by decide +kernel
theorem dX3_take_39 : decode cX3_take 39 = .ok (.aload_n 0, 1) := by decide +kernel
theorem dX3_take_40 : decode cX3_take 40 = .ok (.getfield 18, 3) := by decide +kernel
theorem dX3_take_43 : decode cX3_take 43 = .ok (.iload 6, 2) := by decide +kernel
theorem dX3_take_45 : decode cX3_take 45 = .ok (.aload_n 1, 1) := by decide +kernel
theorem dX3_take_46 : decode cX3_take 46 = .ok (.iload 6, 2) := by decide +kernel
theorem dX3_take_48 : decode cX3_take 48 = .ok (.iaload, 1) := by decide +kernel
theorem dX3_take_49 : decode cX3_take 49 = .ok (.aload_n 0, 1) := by decide +kernel
theorem dX3_take_50 : decode cX3_take 50 = .ok (.getfield 9, 3) := by decide +kernel
theorem dX3_take_53 : decode cX3_take 53 = .ok (.iload 6, 2) := by decide +kernel
theorem dX3_take_55 : decode cX3_take 55 = .ok (.iaload, 1) := by decide +kernel
theorem dX3_take_56 : decode cX3_take 56 = .ok (.isub, 1) := by decide +kernel
theorem dX3_take_57 : decode cX3_take 57 = .ok (.iastore, 1) := by decide +kernel
theorem dX3_take_58 : decode cX3_take 58 = .ok (.iinc 6 1, 3) := by decide +kernel
theorem dX3_take_61 : decode cX3_take 61 = .ok (.goto (-28), 3) := by decide +kernel
theorem dX3_take_64 : decode cX3_take 64 = .ok (.return_, 1) := by decide +kernel
theorem dX3_stripOf_0 : decode cX3_stripOf 0 = .ok (.aload_n 0, 1) := by decide +kernel
theorem dX3_stripOf_1 : decode cX3_stripOf 1 = .ok (.getfield 21, 3) := by decide +kernel
theorem dX3_stripOf_4 : decode cX3_stripOf 4 = .ok (.iconst (-1), 1) := by decide +kernel
theorem dX3_stripOf_5 : decode cX3_stripOf 5 = .ok (.if_icmp .ne 5, 3) := by decide +kernel
theorem dX3_stripOf_8 : decode cX3_stripOf 8 = .ok (.iconst (-1), 1) := by decide +kernel
theorem dX3_stripOf_9 : decode cX3_stripOf 9 = .ok (.ireturn, 1) := by decide +kernel
theorem dX3_stripOf_10 : decode cX3_stripOf 10 = .ok (.iconst 0, 1) := by decide +kernel
theorem dX3_stripOf_11 : decode cX3_stripOf 11 = .ok (.istore_n 2, 1) := by decide +kernel
theorem dX3_stripOf_12 : decode cX3_stripOf 12 = .ok (.iconst 0, 1) := by decide +kernel
theorem dX3_stripOf_13 : decode cX3_stripOf 13 = .ok (.istore_n 3, 1) := by decide +kernel
theorem dX3_stripOf_14 : decode cX3_stripOf 14 = .ok (.iload_n 3, 1) := by decide +kernel
theorem dX3_stripOf_15 : decode cX3_stripOf 15 = .ok (.iconst 4, 1) := by decide +kernel
theorem dX3_stripOf_16 : decode cX3_stripOf 16 = .ok (.if_icmp .ge 25, 3) := by decide +kernel
theorem dX3_stripOf_19 : decode cX3_stripOf 19 = .ok (.iload_n 2, 1) := by decide +kernel
theorem dX3_stripOf_20 : decode cX3_stripOf 20 = .ok (.aload_n 0, 1) := by decide +kernel
theorem dX3_stripOf_21 : decode cX3_stripOf 21 = .ok (.getfield 9, 3) := by decide +kernel
theorem dX3_stripOf_24 : decode cX3_stripOf 24 = .ok (.iload_n 3, 1) := by decide +kernel
theorem dX3_stripOf_25 : decode cX3_stripOf 25 = .ok (.iaload, 1) := by decide +kernel
theorem dX3_stripOf_26 : decode cX3_stripOf 26 = .ok (.iadd, 1) := by decide +kernel
theorem dX3_stripOf_27 : decode cX3_stripOf 27 = .ok (.istore_n 2, 1) := by decide +kernel
theorem dX3_stripOf_28 : decode cX3_stripOf 28 = .ok (.iload_n 1, 1) := by decide +kernel
theorem dX3_stripOf_29 : decode cX3_stripOf 29 = .ok (.iload_n 2, 1) := by decide +kernel
theorem dX3_stripOf_30 : decode cX3_stripOf 30 = .ok (.if_icmp .ge 5, 3) := by decide +kernel
theorem dX3_stripOf_33 : decode cX3_stripOf 33 = .ok (.iload_n 3, 1) := by decide +kernel
theorem dX3_stripOf_34 : decode cX3_stripOf 34 = .ok (.ireturn, 1) := by decide +kernel
theorem dX3_stripOf_35 : decode cX3_stripOf 35 = .ok (.iinc 3 1, 3) := by decide +kernel
theorem dX3_stripOf_38 : decode cX3_stripOf 38 = .ok (.goto (-24), 3) := by decide +kernel
theorem dX3_stripOf_41 : decode cX3_stripOf 41 = .ok (.iconst (-1), 1) := by decide +kernel
theorem dX3_stripOf_42 : decode cX3_stripOf 42 = .ok (.ireturn, 1) := by decide +kernel
theorem dX4_init_0 : decode cX4_init 0 = .ok (.aload_n 0, 1) := by decide +kernel
theorem dX4_init_1 : decode cX4_init 1 = .ok (.invokespecial 3, 3) := by decide +kernel
theorem dX4_init_4 : decode cX4_init 4 = .ok (.aload_n 0, 1) := by decide +kernel
theorem dX4_init_5 : decode cX4_init 5 = .ok (.iconst 4, 1) := by decide +kernel
theorem dX4_init_6 : decode cX4_init 6 = .ok (.newarray .int, 2) := by decide +kernel
theorem dX4_init_8 : decode cX4_init 8 = .ok (.putfield 9, 3) := by decide +kernel
theorem dX4_init_11 : decode cX4_init 11 = .ok (.aload_n 0, 1) := by decide +kernel
theorem dX4_init_12 : decode cX4_init 12 = .ok (.bipush 20, 2) := by decide +kernel
theorem dX4_init_14 : decode cX4_init 14 = .ok (.newarray .int, 2) := by decide +kernel
theorem dX4_init_16 : decode cX4_init 16 = .ok (.putfield 15, 3) := by decide +kernel
theorem dX4_init_19 : decode cX4_init 19 = .ok (.aload_n 0, 1) := by decide +kernel
theorem dX4_init_20 : decode cX4_init 20 = .ok (.iconst 0, 1) := by decide +kernel
theorem dX4_init_21 : decode cX4_init 21 = .ok (.putfield 18, 3) := by decide +kernel
theorem dX4_init_24 : decode cX4_init 24 = .ok (.return_, 1) := by decide +kernel
theorem dX4_lay_0 : decode cX4_lay 0 = .ok (.aload_n 0, 1) := by decide +kernel
theorem dX4_lay_1 : decode cX4_lay 1 = .ok (.getfield 9, 3) := by decide +kernel
theorem dX4_lay_4 : decode cX4_lay 4 = .ok (.iconst 0, 1) := by decide +kernel
theorem dX4_lay_5 : decode cX4_lay 5 = .ok (.iload_n 1, 1) := by decide +kernel
theorem dX4_lay_6 : decode cX4_lay 6 = .ok (.iastore, 1) := by decide +kernel
theorem dX4_lay_7 : decode cX4_lay 7 = .ok (.aload_n 0, 1) := by decide +kernel
theorem dX4_lay_8 : decode cX4_lay 8 = .ok (.getfield 9, 3) := by decide +kernel
theorem dX4_lay_11 : decode cX4_lay 11 = .ok (.iconst 1, 1) := by decide +kernel
theorem dX4_lay_12 : decode cX4_lay 12 = .ok (.iload_n 2, 1) := by decide +kernel
theorem dX4_lay_13 : decode cX4_lay 13 = .ok (.iastore, 1) := by decide +kernel
theorem dX4_lay_14 : decode cX4_lay 14 = .ok (.aload_n 0, 1) := by decide +kernel
theorem dX4_lay_15 : decode cX4_lay 15 = .ok (.getfield 9, 3) := by decide +kernel
theorem dX4_lay_18 : decode cX4_lay 18 = .ok (.iconst 2, 1) := by decide +kernel
theorem dX4_lay_19 : decode cX4_lay 19 = .ok (.iload_n 3, 1) := by decide +kernel
theorem dX4_lay_20 : decode cX4_lay 20 = .ok (.iastore, 1) := by decide +kernel
theorem dX4_lay_21 : decode cX4_lay 21 = .ok (.aload_n 0, 1) := by decide +kernel
theorem dX4_lay_22 : decode cX4_lay 22 = .ok (.getfield 9, 3) := by decide +kernel
theorem dX4_lay_25 : decode cX4_lay 25 = .ok (.iconst 3, 1) := by decide +kernel
theorem dX4_lay_26 : decode cX4_lay 26 = .ok (.iload 4, 2) := by decide +kernel
theorem dX4_lay_28 : decode cX4_lay 28 = .ok (.iastore, 1) := by decide +kernel
theorem dX4_lay_29 : decode cX4_lay 29 = .ok (.return_, 1) := by decide +kernel
set_option maxRecDepth 20000 in
theorem ggX4_takeOff_X7_isStrip : GoodIn wsX4_takeOff wsX7_isStrip := goodIn_r _ [6] (by decide +kernel) (by decide +kernel)
set_option maxRecDepth 20000 in
theorem gX4_takeOff_X7_isStrip_n22 : GoodIn wsX4_takeOff (wsX7_isStrip) := ggX4_takeOff_X7_isStrip
theorem dX4_takeOff_0 : decode cX4_takeOff 0 = .ok (.iload_n 1, 1) := by decide +kernel
theorem dX4_takeOff_1 : decode cX4_takeOff 1 = .ok (.invokestatic 22, 3) := by decide +kernel
theorem dX4_takeOff_4 : decode cX4_takeOff 4 = .ok (.ifCond .eq 42, 3) := by decide +kernel
theorem dX4_takeOff_7 : decode cX4_takeOff 7 = .ok (.aload_n 0, 1) := by decide +kernel
theorem dX4_takeOff_8 : decode cX4_takeOff 8 = .ok (.getfield 18, 3) := by decide +kernel
theorem dX4_takeOff_11 : decode cX4_takeOff 11 = .ok (.bipush 20, 2) := by decide +kernel
theorem dX4_takeOff_13 : decode cX4_takeOff 13 = .ok (.if_icmp .ge 33, 3) := by decide +kernel
theorem dX4_takeOff_16 : decode cX4_takeOff 16 = .ok (.aload_n 0, 1) := by decide +kernel
theorem dX4_takeOff_17 : decode cX4_takeOff 17 = .ok (.getfield 9, 3) := by decide +kernel
theorem dX4_takeOff_20 : decode cX4_takeOff 20 = .ok (.iload_n 1, 1) := by decide +kernel
theorem dX4_takeOff_21 : decode cX4_takeOff 21 = .ok (.dup2, 1) := by decide +kernel
theorem dX4_takeOff_22 : decode cX4_takeOff 22 = .ok (.iaload, 1) := by decide +kernel
theorem dX4_takeOff_23 : decode cX4_takeOff 23 = .ok (.iconst 1, 1) := by decide +kernel
theorem dX4_takeOff_24 : decode cX4_takeOff 24 = .ok (.isub, 1) := by decide +kernel
theorem dX4_takeOff_25 : decode cX4_takeOff 25 = .ok (.iastore, 1) := by decide +kernel
theorem dX4_takeOff_26 : decode cX4_takeOff 26 = .ok (.aload_n 0, 1) := by decide +kernel
theorem dX4_takeOff_27 : decode cX4_takeOff 27 = .ok (.getfield 15, 3) := by decide +kernel
theorem dX4_takeOff_30 : decode cX4_takeOff 30 = .ok (.aload_n 0, 1) := by decide +kernel
theorem dX4_takeOff_31 : decode cX4_takeOff 31 = .ok (.getfield 18, 3) := by decide +kernel
theorem dX4_takeOff_34 : decode cX4_takeOff 34 = .ok (.iload_n 1, 1) := by decide +kernel
theorem dX4_takeOff_35 : decode cX4_takeOff 35 = .ok (.iastore, 1) := by decide +kernel
theorem dX4_takeOff_36 : decode cX4_takeOff 36 = .ok (.aload_n 0, 1) := by decide +kernel
theorem dX4_takeOff_37 : decode cX4_takeOff 37 = .ok (.dup, 1) := by decide +kernel
theorem dX4_takeOff_38 : decode cX4_takeOff 38 = .ok (.getfield 18, 3) := by decide +kernel
theorem dX4_takeOff_41 : decode cX4_takeOff 41 = .ok (.iconst 1, 1) := by decide +kernel
theorem dX4_takeOff_42 : decode cX4_takeOff 42 = .ok (.iadd, 1) := by decide +kernel
theorem dX4_takeOff_43 : decode cX4_takeOff 43 = .ok (.putfield 18, 3) := by decide +kernel
theorem dX4_takeOff_46 : decode cX4_takeOff 46 = .ok (.return_, 1) := by decide +kernel
set_option maxRecDepth 20000 in
theorem ggX4_takeOffAll_X4_takeOff : GoodIn wsX4_takeOffAll wsX4_takeOff := goodIn_r _ [5, 6, 7, 8, 9, 10, 11, 12, 13, 14] (by decide +kernel) (by decide +kernel)
set_option maxRecDepth 20000 in
theorem gX4_takeOffAll_X4_takeOff : GoodIn wsX4_takeOffAll (wsV RX4 26 RX4 yX4_takeOff wsX4_takeOff) := goodIn_app (goodIn_of _ (by decide +kernel)) ggX4_takeOffAll_X4_takeOff
theorem dX4_takeOffAll_0 : decode cX4_takeOffAll 0 = .ok (.iconst 0, 1) := by decide +kernel
theorem dX4_takeOffAll_1 : decode cX4_takeOffAll 1 = .ok (.istore_n 2, 1) := by decide +kernel
theorem dX4_takeOffAll_2 : decode cX4_takeOffAll 2 = .ok (.iload_n 2, 1) := by decide +kernel
theorem dX4_takeOffAll_3 : decode cX4_takeOffAll 3 = .ok (.iconst 4, 1) := by decide +kernel
theorem dX4_takeOffAll_4 : decode cX4_takeOffAll 4 = .ok (.if_icmp .ge 29, 3) := by decide +kernel
theorem dX4_takeOffAll_7 : decode cX4_takeOffAll 7 = .ok (.iconst 0, 1) := by decide +kernel
theorem dX4_takeOffAll_8 : decode cX4_takeOffAll 8 = .ok (.istore_n 3, 1) := by decide +kernel
theorem dX4_takeOffAll_9 : decode cX4_takeOffAll 9 = .ok (.iload_n 3, 1) := by decide +kernel
theorem dX4_takeOffAll_10 : decode cX4_takeOffAll 10 = .ok (.aload_n 1, 1) := by decide +kernel
theorem dX4_takeOffAll_11 : decode cX4_takeOffAll 11 = .ok (.iload_n 2, 1) := by decide +kernel
theorem dX4_takeOffAll_12 : decode cX4_takeOffAll 12 = .ok (.iaload, 1) := by decide +kernel
theorem dX4_takeOffAll_13 : decode cX4_takeOffAll 13 = .ok (.if_icmp .ge 14, 3) := by decide +kernel
theorem dX4_takeOffAll_16 : decode cX4_takeOffAll 16 = .ok (.aload_n 0, 1) := by decide +kernel
theorem dX4_takeOffAll_17 : decode cX4_takeOffAll 17 = .ok (.iload_n 2, 1) := by decide +kernel
theorem dX4_takeOffAll_18 : decode cX4_takeOffAll 18 = .ok (.invokevirtual 26, 3) := by decide +kernel
theorem dX4_takeOffAll_21 : decode cX4_takeOffAll 21 = .ok (.iinc 3 1, 3) := by decide +kernel
theorem dX4_takeOffAll_24 : decode cX4_takeOffAll 24 = .ok (.goto (-15), 3) := by decide +kernel
theorem dX4_takeOffAll_27 : decode cX4_takeOffAll 27 = .ok (.iinc 2 1, 3) := by decide +kernel
theorem dX4_takeOffAll_30 : decode cX4_takeOffAll 30 = .ok (.goto (-28), 3) := by decide +kernel
theorem dX4_takeOffAll_33 : decode cX4_takeOffAll 33 = .ok (.return_, 1) := by decide +kernel
theorem dX4_putBack_0 : decode cX4_putBack 0 = .ok (.aload_n 0, 1) := by decide +kernel
theorem dX4_putBack_1 : decode cX4_putBack 1 = .ok (.getfield 18, 3) := by decide +kernel
theorem dX4_putBack_4 : decode cX4_putBack 4 = .ok (.ifCond .gt 6, 3) := by decide +kernel
theorem dX4_putBack_7 : decode cX4_putBack 7 = .ok (.bipush (-3), 2) := by decide +kernel
theorem dX4_putBack_9 : decode cX4_putBack 9 = .ok (.ireturn, 1) := by decide +kernel
theorem dX4_putBack_10 : decode cX4_putBack 10 = .ok (.aload_n 0, 1) := by decide +kernel
theorem dX4_putBack_11 : decode cX4_putBack 11 = .ok (.dup, 1) := by decide +kernel
theorem dX4_putBack_12 : decode cX4_putBack 12 = .ok (.getfield 18, 3) := by decide +kernel
theorem dX4_putBack_15 : decode cX4_putBack 15 = .ok (.iconst 1, 1) := by decide +kernel
theorem dX4_putBack_16 : decode cX4_putBack 16 = .ok (.isub, 1) := by decide +kernel
theorem dX4_putBack_17 : decode cX4_putBack 17 = .ok (.putfield 18, 3) := by decide +kernel
theorem dX4_putBack_20 : decode cX4_putBack 20 = .ok (.aload_n 0, 1) := by decide +kernel
theorem dX4_putBack_21 : decode cX4_putBack 21 = .ok (.getfield 15, 3) := by decide +kernel
theorem dX4_putBack_24 : decode cX4_putBack 24 = .ok (.aload_n 0, 1) := by decide +kernel
theorem dX4_putBack_25 : decode cX4_putBack 25 = .ok (.getfield 18, 3) := by decide +kernel
theorem dX4_putBack_28 : decode cX4_putBack 28 = .ok (.iaload, 1) := by decide +kernel
theorem dX4_putBack_29 : decode cX4_putBack 29 = .ok (.istore_n 1, 1) := by decide +kernel
theorem dX4_putBack_30 : decode cX4_putBack 30 = .ok (.aload_n 0, 1) := by decide +kernel
theorem dX4_putBack_31 : decode cX4_putBack 31 = .ok (.getfield 9, 3) := by decide +kernel
theorem dX4_putBack_34 : decode cX4_putBack 34 = .ok (.iload_n 1, 1) := by decide +kernel
theorem dX4_putBack_35 : decode cX4_putBack 35 = .ok (.dup2, 1) := by decide +kernel
theorem dX4_putBack_36 : decode cX4_putBack 36 = .ok (.iaload, 1) := by decide +kernel
theorem dX4_putBack_37 : decode cX4_putBack 37 = .ok (.iconst 1, 1) := by decide +kernel
theorem dX4_putBack_38 : decode cX4_putBack 38 = .ok (.iadd, 1) := by decide +kernel
theorem dX4_putBack_39 : decode cX4_putBack 39 = .ok (.iastore, 1) := by decide +kernel
theorem dX4_putBack_40 : decode cX4_putBack 40 = .ok (.iload_n 1, 1) := by decide +kernel
theorem dX4_putBack_41 : decode cX4_putBack 41 = .ok (.ireturn, 1) := by decide +kernel
set_option maxRecDepth 20000 in
theorem ggX4_turn_X4_lay : GoodIn wsX4_turn wsX4_lay := goodIn_r _ [7, 1, 8, 9, 10] (by decide +kernel) (by decide +kernel)
set_option maxRecDepth 20000 in
theorem gX4_turn_X4_lay : GoodIn wsX4_turn (wsV RX4 30 RX4 yX4_lay wsX4_lay) := goodIn_app (goodIn_of _ (by decide +kernel)) ggX4_turn_X4_lay
theorem dX4_turn_0 : decode cX4_turn 0 = .ok (.aload_n 0, 1) := by decide +kernel
theorem dX4_turn_1 : decode cX4_turn 1 = .ok (.aload_n 0, 1) := by decide +kernel
theorem dX4_turn_2 : decode cX4_turn 2 = .ok (.getfield 9, 3) := by decide +kernel
theorem dX4_turn_5 : decode cX4_turn 5 = .ok (.iconst 3, 1) := by decide +kernel
theorem dX4_turn_6 : decode cX4_turn 6 = .ok (.iaload, 1) := by decide +kernel
theorem dX4_turn_7 : decode cX4_turn 7 = .ok (.aload_n 0, 1) := by decide +kernel
theorem dX4_turn_8 : decode cX4_turn 8 = .ok (.getfield 9, 3) := by decide +kernel
theorem dX4_turn_11 : decode cX4_turn 11 = .ok (.iconst 2, 1) := by decide +kernel
theorem dX4_turn_12 : decode cX4_turn 12 = .ok (.iaload, 1) := by decide +kernel
theorem dX4_turn_13 : decode cX4_turn 13 = .ok (.aload_n 0, 1) := by decide +kernel
theorem dX4_turn_14 : decode cX4_turn 14 = .ok (.getfield 9, 3) := by decide +kernel
theorem dX4_turn_17 : decode cX4_turn 17 = .ok (.iconst 1, 1) := by decide +kernel
theorem dX4_turn_18 : decode cX4_turn 18 = .ok (.iaload, 1) := by decide +kernel
theorem dX4_turn_19 : decode cX4_turn 19 = .ok (.aload_n 0, 1) := by decide +kernel
theorem dX4_turn_20 : decode cX4_turn 20 = .ok (.getfield 9, 3) := by decide +kernel
theorem dX4_turn_23 : decode cX4_turn 23 = .ok (.iconst 0, 1) := by decide +kernel
theorem dX4_turn_24 : decode cX4_turn 24 = .ok (.iaload, 1) := by decide +kernel
theorem dX4_turn_25 : decode cX4_turn 25 = .ok (.invokevirtual 30, 3) := by decide +kernel
theorem dX4_turn_28 : decode cX4_turn 28 = .ok (.aload_n 0, 1) := by decide +kernel
theorem dX4_turn_29 : decode cX4_turn 29 = .ok (.iconst 0, 1) := by decide +kernel
theorem dX4_turn_30 : decode cX4_turn 30 = .ok (.putfield 18, 3) := by decide +kernel
theorem dX4_turn_33 : decode cX4_turn 33 = .ok (.return_, 1) := by decide +kernel
theorem dX5_bondAt_0 : decode cX5_bondAt 0 = .ok (.iload_n 2, 1) := by decide +kernel
theorem dX5_bondAt_1 : decode cX5_bondAt 1 = .ok (.ifCond .le 8, 3) := by decide +kernel
theorem dX5_bondAt_4 : decode cX5_bondAt 4 = .ok (.iload_n 2, 1) := by decide +kernel
theorem dX5_bondAt_5 : decode cX5_bondAt 5 = .ok (.iconst 4, 1) := by decide +kernel
theorem dX5_bondAt_6 : decode cX5_bondAt 6 = .ok (.if_icmp .lt 30, 3) := by decide +kernel
theorem dX5_bondAt_9 : decode cX5_bondAt 9 = .ok (.iload_n 2, 1) := by decide +kernel
theorem dX5_bondAt_10 : decode cX5_bondAt 10 = .ok (.ifCond .gt 9, 3) := by decide +kernel
theorem dX5_bondAt_13 : decode cX5_bondAt 13 = .ok (.aload_n 0, 1) := by decide +kernel
theorem dX5_bondAt_14 : decode cX5_bondAt 14 = .ok (.iconst 0, 1) := by decide +kernel
theorem dX5_bondAt_15 : decode cX5_bondAt 15 = .ok (.iaload, 1) := by decide +kernel
theorem dX5_bondAt_16 : decode cX5_bondAt 16 = .ok (.goto 6, 3) := by decide +kernel
theorem dX5_bondAt_19 : decode cX5_bondAt 19 = .ok (.aload_n 0, 1) := by decide +kernel
theorem dX5_bondAt_20 : decode cX5_bondAt 20 = .ok (.iconst 3, 1) := by decide +kernel
theorem dX5_bondAt_21 : decode cX5_bondAt 21 = .ok (.iaload, 1) := by decide +kernel
theorem dX5_bondAt_22 : decode cX5_bondAt 22 = .ok (.istore_n 3, 1) := by decide +kernel
theorem dX5_bondAt_23 : decode cX5_bondAt 23 = .ok (.iload_n 1, 1) := by decide +kernel
theorem dX5_bondAt_24 : decode cX5_bondAt 24 = .ok (.iload_n 3, 1) := by decide +kernel
theorem dX5_bondAt_25 : decode cX5_bondAt 25 = .ok (.imul, 1) := by decide +kernel
theorem dX5_bondAt_26 : decode cX5_bondAt 26 = .ok (.iload_n 3, 1) := by decide +kernel
theorem dX5_bondAt_27 : decode cX5_bondAt 27 = .ok (.imul, 1) := by decide +kernel
theorem dX5_bondAt_28 : decode cX5_bondAt 28 = .ok (.iload_n 3, 1) := by decide +kernel
theorem dX5_bondAt_29 : decode cX5_bondAt 29 = .ok (.imul, 1) := by decide +kernel
theorem dX5_bondAt_30 : decode cX5_bondAt 30 = .ok (.bipush 32, 2) := by decide +kernel
theorem dX5_bondAt_32 : decode cX5_bondAt 32 = .ok (.idiv, 1) := by decide +kernel
theorem dX5_bondAt_33 : decode cX5_bondAt 33 = .ok (.iconst 1, 1) := by decide +kernel
theorem dX5_bondAt_34 : decode cX5_bondAt 34 = .ok (.iadd, 1) := by decide +kernel
theorem dX5_bondAt_35 : decode cX5_bondAt 35 = .ok (.ireturn, 1) := by decide +kernel
theorem dX5_bondAt_36 : decode cX5_bondAt 36 = .ok (.aload_n 0, 1) := by decide +kernel
theorem dX5_bondAt_37 : decode cX5_bondAt 37 = .ok (.iload_n 2, 1) := by decide +kernel
theorem dX5_bondAt_38 : decode cX5_bondAt 38 = .ok (.iconst 1, 1) := by decide +kernel
theorem dX5_bondAt_39 : decode cX5_bondAt 39 = .ok (.isub, 1) := by decide +kernel
theorem dX5_bondAt_40 : decode cX5_bondAt 40 = .ok (.iaload, 1) := by decide +kernel
theorem dX5_bondAt_41 : decode cX5_bondAt 41 = .ok (.aload_n 0, 1) := by decide +kernel
theorem dX5_bondAt_42 : decode cX5_bondAt 42 = .ok (.iload_n 2, 1) := by decide +kernel
theorem dX5_bondAt_43 : decode cX5_bondAt 43 = .ok (.iaload, 1) := by decide +kernel
theorem dX5_bondAt_44 : decode cX5_bondAt 44 = .ok (.if_icmp .ge 11, 3) := by decide +kernel
theorem dX5_bondAt_47 : decode cX5_bondAt 47 = .ok (.aload_n 0, 1) := by decide +kernel
theorem dX5_bondAt_48 : decode cX5_bondAt 48 = .ok (.iload_n 2, 1) := by decide +kernel
theorem dX5_bondAt_49 : decode cX5_bondAt 49 = .ok (.iconst 1, 1) := by decide +kernel
theorem dX5_bondAt_50 : decode cX5_bondAt 50 = .ok (.isub, 1) := by decide +kernel
theorem dX5_bondAt_51 : decode cX5_bondAt 51 = .ok (.iaload, 1) := by decide +kernel
theorem dX5_bondAt_52 : decode cX5_bondAt 52 = .ok (.goto 6, 3) := by decide +kernel
theorem dX5_bondAt_55 : decode cX5_bondAt 55 = .ok (.aload_n 0, 1) := by decide +kernel
theorem dX5_bondAt_56 : decode cX5_bondAt 56 = .ok (.iload_n 2, 1) := by decide +kernel
theorem dX5_bondAt_57 : decode cX5_bondAt 57 = .ok (.iaload, 1) := by decide +kernel
theorem dX5_bondAt_58 : decode cX5_bondAt 58 = .ok (.istore_n 3, 1) := by decide +kernel
theorem dX5_bondAt_59 : decode cX5_bondAt 59 = .ok (.iload_n 1, 1) := by decide +kernel
theorem dX5_bondAt_60 : decode cX5_bondAt 60 = .ok (.iload_n 3, 1) := by decide +kernel
theorem dX5_bondAt_61 : decode cX5_bondAt 61 = .ok (.imul, 1) := by decide +kernel
theorem dX5_bondAt_62 : decode cX5_bondAt 62 = .ok (.iload_n 3, 1) := by decide +kernel
theorem dX5_bondAt_63 : decode cX5_bondAt 63 = .ok (.imul, 1) := by decide +kernel
theorem dX5_bondAt_64 : decode cX5_bondAt 64 = .ok (.iload_n 3, 1) := by decide +kernel
theorem dX5_bondAt_65 : decode cX5_bondAt 65 = .ok (.imul, 1) := by decide +kernel
theorem dX5_bondAt_66 : decode cX5_bondAt 66 = .ok (.bipush 8, 2) := by decide +kernel
theorem dX5_bondAt_68 : decode cX5_bondAt 68 = .ok (.idiv, 1) := by decide +kernel
theorem dX5_bondAt_69 : decode cX5_bondAt 69 = .ok (.iconst 1, 1) := by decide +kernel
theorem dX5_bondAt_70 : decode cX5_bondAt 70 = .ok (.iadd, 1) := by decide +kernel
theorem dX5_bondAt_71 : decode cX5_bondAt 71 = .ok (.ireturn, 1) := by decide +kernel
set_option maxRecDepth 20000 in
theorem ggX5_valuesBelow_X5_bondAt : GoodIn wsX5_valuesBelow wsX5_bondAt := goodIn_r _ [4] (by decide +kernel) (by decide +kernel)
set_option maxRecDepth 20000 in
theorem gX5_valuesBelow_X5_bondAt : GoodIn wsX5_valuesBelow (va_wsS RX5 9 yX5_bondAt wsX5_bondAt) := goodIn_app (goodIn_of _ (by decide +kernel)) ggX5_valuesBelow_X5_bondAt
theorem dX5_valuesBelow_0 : decode cX5_valuesBelow 0 = .ok (.iload_n 2, 1) := by decide +kernel
theorem dX5_valuesBelow_1 : decode cX5_valuesBelow 1 = .ok (.ifCond .gt 5, 3) := by decide +kernel
theorem dX5_valuesBelow_4 : decode cX5_valuesBelow 4 = .ok (.iconst 0, 1) := by decide +kernel
theorem dX5_valuesBelow_5 : decode cX5_valuesBelow 5 = .ok (.ireturn, 1) := by decide +kernel
theorem dX5_valuesBelow_6 : decode cX5_valuesBelow 6 = .ok (.iload_n 2, 1) := by decide +kernel
theorem dX5_valuesBelow_7 : decode cX5_valuesBelow 7 = .ok (.sipush 512, 3) := by decide +kernel
theorem dX5_valuesBelow_10 : decode cX5_valuesBelow 10 = .ok (.if_icmp .lt 5, 3) := by decide +kernel
theorem dX5_valuesBelow_13 : decode cX5_valuesBelow 13 = .ok (.iconst 4, 1) := by decide +kernel
theorem dX5_valuesBelow_14 : decode cX5_valuesBelow 14 = .ok (.ireturn, 1) := by decide +kernel
theorem dX5_valuesBelow_15 : decode cX5_valuesBelow 15 = .ok (.iconst 0, 1) := by decide +kernel
theorem dX5_valuesBelow_16 : decode cX5_valuesBelow 16 = .ok (.istore_n 3, 1) := by decide +kernel
theorem dX5_valuesBelow_17 : decode cX5_valuesBelow 17 = .ok (.iconst 0, 1) := by decide +kernel
theorem dX5_valuesBelow_18 : decode cX5_valuesBelow 18 = .ok (.istore 4, 2) := by decide +kernel
theorem dX5_valuesBelow_20 : decode cX5_valuesBelow 20 = .ok (.lconst 0, 1) := by decide +kernel
theorem dX5_valuesBelow_21 : decode cX5_valuesBelow 21 = .ok (.lstore 5, 2) := by decide +kernel
theorem dX5_valuesBelow_23 : decode cX5_valuesBelow 23 = .ok (.lconst 1, 1) := by decide +kernel
theorem dX5_valuesBelow_24 : decode cX5_valuesBelow 24 = .ok (.lstore 7, 2) := by decide +kernel
theorem dX5_valuesBelow_26 : decode cX5_valuesBelow 26 = .ok (.aload_n 0, 1) := by decide +kernel
theorem dX5_valuesBelow_27 : decode cX5_valuesBelow 27 = .ok (.iload_n 1, 1) := by decide +kernel
theorem dX5_valuesBelow_28 : decode cX5_valuesBelow 28 = .ok (.iconst 0, 1) := by decide +kernel
theorem dX5_valuesBelow_29 : decode cX5_valuesBelow 29 = .ok (.invokestatic 9, 3) := by decide +kernel
theorem dX5_valuesBelow_32 : decode cX5_valuesBelow 32 = .ok (.i2l, 1) := by decide +kernel
theorem dX5_valuesBelow_33 : decode cX5_valuesBelow 33 = .ok (.lstore 9, 2) := by decide +kernel
theorem dX5_valuesBelow_35 : decode cX5_valuesBelow 35 = .ok (.iconst 0, 1) := by decide +kernel
theorem dX5_valuesBelow_36 : decode cX5_valuesBelow 36 = .ok (.istore 11, 2) := by decide +kernel
theorem dX5_valuesBelow_38 : decode cX5_valuesBelow 38 = .ok (.iload 11, 2) := by decide +kernel
theorem dX5_valuesBelow_40 : decode cX5_valuesBelow 40 = .ok (.iconst 4, 1) := by decide +kernel
theorem dX5_valuesBelow_41 : decode cX5_valuesBelow 41 = .ok (.if_icmp .ge 104, 3) := by decide +kernel
theorem dX5_valuesBelow_44 : decode cX5_valuesBelow 44 = .ok (.aload_n 0, 1) := by decide +kernel
theorem dX5_valuesBelow_45 : decode cX5_valuesBelow 45 = .ok (.iload_n 1, 1) := by decide +kernel
theorem dX5_valuesBelow_46 : decode cX5_valuesBelow 46 = .ok (.iload 11, 2) := by decide +kernel
theorem dX5_valuesBelow_48 : decode cX5_valuesBelow 48 = .ok (.iconst 1, 1) := by decide +kernel
theorem dX5_valuesBelow_49 : decode cX5_valuesBelow 49 = .ok (.iadd, 1) := by decide +kernel
theorem dX5_valuesBelow_50 : decode cX5_valuesBelow 50 = .ok (.invokestatic 9, 3) := by decide +kernel
theorem dX5_valuesBelow_53 : decode cX5_valuesBelow 53 = .ok (.i2l, 1) := by decide +kernel
theorem dX5_valuesBelow_54 : decode cX5_valuesBelow 54 = .ok (.lstore 12, 2) := by decide +kernel
theorem dX5_valuesBelow_56 : decode cX5_valuesBelow 56 = .ok (.lload 9, 2) := by decide +kernel
theorem dX5_valuesBelow_58 : decode cX5_valuesBelow 58 = .ok (.lload 12, 2) := by decide +kernel
theorem dX5_valuesBelow_60 : decode cX5_valuesBelow 60 = .ok (.ladd, 1) := by decide +kernel
theorem dX5_valuesBelow_61 : decode cX5_valuesBelow 61 = .ok (.iload_n 2, 1) := by decide +kernel
theorem dX5_valuesBelow_62 : decode cX5_valuesBelow 62 = .ok (.i2l, 1) := by decide +kernel
theorem dX5_valuesBelow_63 : decode cX5_valuesBelow 63 = .ok (.aload_n 0, 1) := by decide +kernel
theorem dX5_valuesBelow_64 : decode cX5_valuesBelow 64 = .ok (.iload 11, 2) := by decide +kernel
theorem dX5_valuesBelow_66 : decode cX5_valuesBelow 66 = .ok (.iaload, 1) := by decide +kernel
theorem dX5_valuesBelow_67 : decode cX5_valuesBelow 67 = .ok (.i2l, 1) := by decide +kernel
theorem dX5_valuesBelow_68 : decode cX5_valuesBelow 68 = .ok (.lmul, 1) := by decide +kernel
theorem dX5_valuesBelow_69 : decode cX5_valuesBelow 69 = .ok (.lsub, 1) := by decide +kernel
theorem dX5_valuesBelow_70 : decode cX5_valuesBelow 70 = .ok (.lstore 14, 2) := by decide +kernel
theorem dX5_valuesBelow_72 : decode cX5_valuesBelow 72 = .ok (.lload 14, 2) := by decide +kernel
theorem dX5_valuesBelow_74 : decode cX5_valuesBelow 74 = .ok (.lload 7, 2) := by decide +kernel
theorem dX5_valuesBelow_76 : decode cX5_valuesBelow 76 = .ok (.lmul, 1) := by decide +kernel
theorem dX5_valuesBelow_77 : decode cX5_valuesBelow 77 = .ok (.lload 9, 2) := by decide +kernel
theorem dX5_valuesBelow_79 : decode cX5_valuesBelow 79 = .ok (.lload 9, 2) := by decide +kernel
theorem dX5_valuesBelow_81 : decode cX5_valuesBelow 81 = .ok (.lmul, 1) := by decide +kernel
theorem dX5_valuesBelow_82 : decode cX5_valuesBelow 82 = .ok (.lload 5, 2) := by decide +kernel
theorem dX5_valuesBelow_84 : decode cX5_valuesBelow 84 = .ok (.lmul, 1) := by decide +kernel
theorem dX5_valuesBelow_85 : decode cX5_valuesBelow 85 = .ok (.lsub, 1) := by decide +kernel
theorem dX5_valuesBelow_86 : decode cX5_valuesBelow 86 = .ok (.lstore 16, 2) := by decide +kernel
theorem dX5_valuesBelow_88 : decode cX5_valuesBelow 88 = .ok (.lload 7, 2) := by decide +kernel
theorem dX5_valuesBelow_90 : decode cX5_valuesBelow 90 = .ok (.lstore 5, 2) := by decide +kernel
theorem dX5_valuesBelow_92 : decode cX5_valuesBelow 92 = .ok (.lload 16, 2) := by decide +kernel
theorem dX5_valuesBelow_94 : decode cX5_valuesBelow 94 = .ok (.lstore 7, 2) := by decide +kernel
theorem dX5_valuesBelow_96 : decode cX5_valuesBelow 96 = .ok (.lload 12, 2) := by decide +kernel
theorem dX5_valuesBelow_98 : decode cX5_valuesBelow 98 = .ok (.lstore 9, 2) := by decide +kernel
theorem dX5_valuesBelow_100 : decode cX5_valuesBelow 100 = .ok (.lload 7, 2) := by decide +kernel
theorem dX5_valuesBelow_102 : decode cX5_valuesBelow 102 = .ok (.lconst 0, 1) := by decide +kernel
theorem dX5_valuesBelow_103 : decode cX5_valuesBelow 103 = .ok (.lcmp, 1) := by decide +kernel
theorem dX5_valuesBelow_104 : decode cX5_valuesBelow 104 = .ok (.ifCond .eq 35, 3) := by decide +kernel
theorem dX5_valuesBelow_107 : decode cX5_valuesBelow 107 = .ok (.lload 7, 2) := by decide +kernel
theorem dX5_valuesBelow_109 : decode cX5_valuesBelow 109 = .ok (.lconst 0, 1) := by decide +kernel
theorem dX5_valuesBelow_110 : decode cX5_valuesBelow 110 = .ok (.lcmp, 1) := by decide +kernel
theorem dX5_valuesBelow_111 : decode cX5_valuesBelow 111 = .ok (.ifCond .ge 7, 3) := by decide +kernel
theorem dX5_valuesBelow_114 : decode cX5_valuesBelow 114 = .ok (.iconst 1, 1) := by decide +kernel
theorem dX5_valuesBelow_115 : decode cX5_valuesBelow 115 = .ok (.goto 4, 3) := by decide +kernel
theorem dX5_valuesBelow_118 : decode cX5_valuesBelow 118 = .ok (.iconst 0, 1) := by decide +kernel
theorem dX5_valuesBelow_119 : decode cX5_valuesBelow 119 = .ok (.iload 4, 2) := by decide +kernel
theorem dX5_valuesBelow_121 : decode cX5_valuesBelow 121 = .ok (.if_icmp .eq 18, 3) := by decide +kernel
theorem dX5_valuesBelow_124 : decode cX5_valuesBelow 124 = .ok (.iload 4, 2) := by decide +kernel
theorem dX5_valuesBelow_126 : decode cX5_valuesBelow 126 = .ok (.ifCond .ne 7, 3) := by decide +kernel
theorem dX5_valuesBelow_129 : decode cX5_valuesBelow 129 = .ok (.iconst 1, 1) := by decide +kernel
theorem dX5_valuesBelow_130 : decode cX5_valuesBelow 130 = .ok (.goto 4, 3) := by decide +kernel
theorem dX5_valuesBelow_133 : decode cX5_valuesBelow 133 = .ok (.iconst 0, 1) := by decide +kernel
theorem dX5_valuesBelow_134 : decode cX5_valuesBelow 134 = .ok (.istore 4, 2) := by decide +kernel
theorem dX5_valuesBelow_136 : decode cX5_valuesBelow 136 = .ok (.iinc 3 1, 3) := by decide +kernel
theorem dX5_valuesBelow_139 : decode cX5_valuesBelow 139 = .ok (.iinc 11 1, 3) := by decide +kernel
theorem dX5_valuesBelow_142 : decode cX5_valuesBelow 142 = .ok (.goto (-104), 3) := by decide +kernel
theorem dX5_valuesBelow_145 : decode cX5_valuesBelow 145 = .ok (.iload_n 3, 1) := by decide +kernel
theorem dX5_valuesBelow_146 : decode cX5_valuesBelow 146 = .ok (.ireturn, 1) := by decide +kernel
set_option maxRecDepth 20000 in
theorem ggX5_wholeValue_X5_valuesBelow : GoodIn wsX5_wholeValue wsX5_valuesBelow := goodIn_r _ [4, 5, 6, 3, 7] (by decide +kernel) (by decide +kernel)
set_option maxRecDepth 20000 in
theorem gX5_wholeValue_X5_valuesBelow : GoodIn wsX5_wholeValue (va_wsS RX5 15 yX5_valuesBelow wsX5_valuesBelow) := goodIn_app (goodIn_of _ (by decide +kernel)) ggX5_wholeValue_X5_valuesBelow
theorem dX5_wholeValue_0 : decode cX5_wholeValue 0 = .ok (.iconst 0, 1) := by decide +kernel
theorem dX5_wholeValue_1 : decode cX5_wholeValue 1 = .ok (.istore_n 3, 1) := by decide +kernel
theorem dX5_wholeValue_2 : decode cX5_wholeValue 2 = .ok (.sipush 256, 3) := by decide +kernel
theorem dX5_wholeValue_5 : decode cX5_wholeValue 5 = .ok (.istore 4, 2) := by decide +kernel
theorem dX5_wholeValue_7 : decode cX5_wholeValue 7 = .ok (.iload 4, 2) := by decide +kernel
theorem dX5_wholeValue_9 : decode cX5_wholeValue 9 = .ok (.ifCond .le 30, 3) := by decide +kernel
theorem dX5_wholeValue_12 : decode cX5_wholeValue 12 = .ok (.aload_n 0, 1) := by decide +kernel
theorem dX5_wholeValue_13 : decode cX5_wholeValue 13 = .ok (.iload_n 1, 1) := by decide +kernel
theorem dX5_wholeValue_14 : decode cX5_wholeValue 14 = .ok (.iload_n 3, 1) := by decide +kernel
theorem dX5_wholeValue_15 : decode cX5_wholeValue 15 = .ok (.iload 4, 2) := by decide +kernel
theorem dX5_wholeValue_17 : decode cX5_wholeValue 17 = .ok (.iadd, 1) := by decide +kernel
theorem dX5_wholeValue_18 : decode cX5_wholeValue 18 = .ok (.invokestatic 15, 3) := by decide +kernel
theorem dX5_wholeValue_21 : decode cX5_wholeValue 21 = .ok (.iload_n 2, 1) := by decide +kernel
theorem dX5_wholeValue_22 : decode cX5_wholeValue 22 = .ok (.if_icmp .gt 8, 3) := by decide +kernel
theorem dX5_wholeValue_25 : decode cX5_wholeValue 25 = .ok (.iload_n 3, 1) := by decide +kernel
theorem dX5_wholeValue_26 : decode cX5_wholeValue 26 = .ok (.iload 4, 2) := by decide +kernel
theorem dX5_wholeValue_28 : decode cX5_wholeValue 28 = .ok (.iadd, 1) := by decide +kernel
theorem dX5_wholeValue_29 : decode cX5_wholeValue 29 = .ok (.istore_n 3, 1) := by decide +kernel
theorem dX5_wholeValue_30 : decode cX5_wholeValue 30 = .ok (.iload 4, 2) := by decide +kernel
theorem dX5_wholeValue_32 : decode cX5_wholeValue 32 = .ok (.iconst 2, 1) := by decide +kernel
theorem dX5_wholeValue_33 : decode cX5_wholeValue 33 = .ok (.idiv, 1) := by decide +kernel
theorem dX5_wholeValue_34 : decode cX5_wholeValue 34 = .ok (.istore 4, 2) := by decide +kernel
theorem dX5_wholeValue_36 : decode cX5_wholeValue 36 = .ok (.goto (-29), 3) := by decide +kernel
theorem dX5_wholeValue_39 : decode cX5_wholeValue 39 = .ok (.iload_n 3, 1) := by decide +kernel
theorem dX5_wholeValue_40 : decode cX5_wholeValue 40 = .ok (.ireturn, 1) := by decide +kernel
set_option maxRecDepth 20000 in
theorem ggX5_fillWholeValues_X5_wholeValue : GoodIn wsX5_fillWholeValues wsX5_wholeValue := goodIn_r _ [4, 5, 6, 3, 7, 8, 9, 10] (by decide +kernel) (by decide +kernel)
set_option maxRecDepth 20000 in
theorem gX5_fillWholeValues_X5_wholeValue : GoodIn wsX5_fillWholeValues (va_wsS RX5 18 yX5_wholeValue wsX5_wholeValue) := goodIn_app (goodIn_of _ (by decide +kernel)) ggX5_fillWholeValues_X5_wholeValue
theorem dX5_fillWholeValues_0 : decode cX5_fillWholeValues 0 = .ok (.iconst 1, 1) := by decide +kernel
theorem dX5_fillWholeValues_1 : decode cX5_fillWholeValues 1 = .ok (.istore_n 3, 1) := by decide +kernel
theorem dX5_fillWholeValues_2 : decode cX5_fillWholeValues 2 = .ok (.iload_n 3, 1) := by decide +kernel
theorem dX5_fillWholeValues_3 : decode cX5_fillWholeValues 3 = .ok (.bipush 9, 2) := by decide +kernel
theorem dX5_fillWholeValues_5 : decode cX5_fillWholeValues 5 = .ok (.if_icmp .gt 18, 3) := by decide +kernel
theorem dX5_fillWholeValues_8 : decode cX5_fillWholeValues 8 = .ok (.aload_n 0, 1) := by decide +kernel
theorem dX5_fillWholeValues_9 : decode cX5_fillWholeValues 9 = .ok (.iload_n 3, 1) := by decide +kernel
theorem dX5_fillWholeValues_10 : decode cX5_fillWholeValues 10 = .ok (.aload_n 1, 1) := by decide +kernel
theorem dX5_fillWholeValues_11 : decode cX5_fillWholeValues 11 = .ok (.iload_n 3, 1) := by decide +kernel
theorem dX5_fillWholeValues_12 : decode cX5_fillWholeValues 12 = .ok (.iload_n 2, 1) := by decide +kernel
theorem dX5_fillWholeValues_13 : decode cX5_fillWholeValues 13 = .ok (.invokestatic 18, 3) := by decide +kernel
theorem dX5_fillWholeValues_16 : decode cX5_fillWholeValues 16 = .ok (.iastore, 1) := by decide +kernel
theorem dX5_fillWholeValues_17 : decode cX5_fillWholeValues 17 = .ok (.iinc 3 1, 3) := by decide +kernel
theorem dX5_fillWholeValues_20 : decode cX5_fillWholeValues 20 = .ok (.goto (-18), 3) := by decide +kernel
theorem dX5_fillWholeValues_23 : decode cX5_fillWholeValues 23 = .ok (.return_, 1) := by decide +kernel
theorem dX5_byWeight_0 : decode cX5_byWeight 0 = .ok (.iload_n 1, 1) := by decide +kernel
theorem dX5_byWeight_1 : decode cX5_byWeight 1 = .ok (.ifCond .le 9, 3) := by decide +kernel
theorem dX5_byWeight_4 : decode cX5_byWeight 4 = .ok (.iload_n 0, 1) := by decide +kernel
theorem dX5_byWeight_5 : decode cX5_byWeight 5 = .ok (.iload_n 1, 1) := by decide +kernel
theorem dX5_byWeight_6 : decode cX5_byWeight 6 = .ok (.idiv, 1) := by decide +kernel
theorem dX5_byWeight_7 : decode cX5_byWeight 7 = .ok (.goto 4, 3) := by decide +kernel
theorem dX5_byWeight_10 : decode cX5_byWeight 10 = .ok (.iload_n 0, 1) := by decide +kernel
theorem dX5_byWeight_11 : decode cX5_byWeight 11 = .ok (.ireturn, 1) := by decide +kernel
theorem dX6_init_0 : decode cX6_init 0 = .ok (.aload_n 0, 1) := by decide +kernel
theorem dX6_init_1 : decode cX6_init 1 = .ok (.invokespecial 3, 3) := by decide +kernel
theorem dX6_init_4 : decode cX6_init 4 = .ok (.aload_n 0, 1) := by decide +kernel
theorem dX6_init_5 : decode cX6_init 5 = .ok (.bipush 10, 2) := by decide +kernel
theorem dX6_init_7 : decode cX6_init 7 = .ok (.newarray .int, 2) := by decide +kernel
theorem dX6_init_9 : decode cX6_init 9 = .ok (.putfield 9, 3) := by decide +kernel
theorem dX6_init_12 : decode cX6_init 12 = .ok (.aload_n 0, 1) := by decide +kernel
theorem dX6_init_13 : decode cX6_init 13 = .ok (.iconst 0, 1) := by decide +kernel
theorem dX6_init_14 : decode cX6_init 14 = .ok (.putfield 15, 3) := by decide +kernel
theorem dX6_init_17 : decode cX6_init 17 = .ok (.aload_n 0, 1) := by decide +kernel
theorem dX6_init_18 : decode cX6_init 18 = .ok (.iconst 0, 1) := by decide +kernel
theorem dX6_init_19 : decode cX6_init 19 = .ok (.putfield 19, 3) := by decide +kernel
theorem dX6_init_22 : decode cX6_init 22 = .ok (.return_, 1) := by decide +kernel
set_option maxRecDepth 20000 in
theorem ggX6_fits_X5_byWeight : GoodIn wsX6_fits wsX5_byWeight := goodIn_r _ [7] (by decide +kernel) (by decide +kernel)
set_option maxRecDepth 20000 in
theorem gX6_fits_X5_byWeight : GoodIn wsX6_fits (va_wsS RX6 22 yX5_byWeight wsX5_byWeight) := goodIn_app (goodIn_of _ (by decide +kernel)) ggX6_fits_X5_byWeight
theorem dX6_fits_0 : decode cX6_fits 0 = .ok (.aload_n 0, 1) := by decide +kernel
theorem dX6_fits_1 : decode cX6_fits 1 = .ok (.getfield 9, 3) := by decide +kernel
theorem dX6_fits_4 : decode cX6_fits 4 = .ok (.iload_n 1, 1) := by decide +kernel
theorem dX6_fits_5 : decode cX6_fits 5 = .ok (.iaload, 1) := by decide +kernel
theorem dX6_fits_6 : decode cX6_fits 6 = .ok (.iload_n 2, 1) := by decide +kernel
theorem dX6_fits_7 : decode cX6_fits 7 = .ok (.invokestatic 22, 3) := by decide +kernel
theorem dX6_fits_10 : decode cX6_fits 10 = .ok (.istore_n 3, 1) := by decide +kernel
theorem dX6_fits_11 : decode cX6_fits 11 = .ok (.aload_n 0, 1) := by decide +kernel
theorem dX6_fits_12 : decode cX6_fits 12 = .ok (.getfield 15, 3) := by decide +kernel
theorem dX6_fits_15 : decode cX6_fits 15 = .ok (.iload_n 3, 1) := by decide +kernel
theorem dX6_fits_16 : decode cX6_fits 16 = .ok (.if_icmp .gt 15, 3) := by decide +kernel
theorem dX6_fits_19 : decode cX6_fits 19 = .ok (.iload_n 3, 1) := by decide +kernel
theorem dX6_fits_20 : decode cX6_fits 20 = .ok (.aload_n 0, 1) := by decide +kernel
theorem dX6_fits_21 : decode cX6_fits 21 = .ok (.getfield 19, 3) := by decide +kernel
theorem dX6_fits_24 : decode cX6_fits 24 = .ok (.if_icmp .gt 7, 3) := by decide +kernel
theorem dX6_fits_27 : decode cX6_fits 27 = .ok (.iconst 1, 1) := by decide +kernel
theorem dX6_fits_28 : decode cX6_fits 28 = .ok (.goto 4, 3) := by decide +kernel
theorem dX6_fits_31 : decode cX6_fits 31 = .ok (.iconst 0, 1) := by decide +kernel
theorem dX6_fits_32 : decode cX6_fits 32 = .ok (.ireturn, 1) := by decide +kernel
set_option maxRecDepth 20000 in
theorem ggX7_init_X2_init : GoodIn wsX7_init wsX2_init := goodIn_r _ [32, 33, 2, 3, 34, 35, 36, 22, 37, 38, 39, 40, 41, 42, 43, 44, 45, 46, 47, 48, 49, 50, 51, 52, 8, 53, 54, 55, 56, 57, 58, 59, 60, 61, 62, 63, 64, 65, 66, 67, 68, 69, 70, 71, 72, 73, 109, 110, 111, 112, 113, 114, 115, 128, 129, 130] (by decide +kernel) (by decide +kernel)
set_option maxRecDepth 20000 in
theorem gX7_init_X2_init : GoodIn wsX7_init (wsX2_init) := ggX7_init_X2_init
set_option maxRecDepth 20000 in
theorem ggX7_init_X0_init : GoodIn wsX7_init wsX0_init := goodIn_r _ [75, 76, 2, 3, 77, 78, 22, 79, 80, 116, 117, 118] (by decide +kernel) (by decide +kernel)
set_option maxRecDepth 20000 in
theorem gX7_init_X0_init_n24 : GoodIn wsX7_init (wsX0_init) := ggX7_init_X0_init
set_option maxRecDepth 20000 in
theorem ggX7_init_X3_init : GoodIn wsX7_init wsX3_init := goodIn_r _ [82, 83, 2, 3, 22, 84, 85, 86, 87, 88, 119, 120, 121, 122, 123] (by decide +kernel) (by decide +kernel)
set_option maxRecDepth 20000 in
theorem gX7_init_X3_init_n31 : GoodIn wsX7_init (wsX3_init) := ggX7_init_X3_init
set_option maxRecDepth 20000 in
theorem ggX7_init_X1_init : GoodIn wsX7_init wsX1_init := goodIn_r _ [90, 91, 2, 3, 22, 92, 124] (by decide +kernel) (by decide +kernel)
set_option maxRecDepth 20000 in
theorem gX7_init_X1_init_n38 : GoodIn wsX7_init (wsX1_init) := ggX7_init_X1_init
set_option maxRecDepth 20000 in
theorem ggX7_init_X4_init : GoodIn wsX7_init wsX4_init := goodIn_r _ [94, 95, 2, 3, 22, 96, 97, 98, 125, 126, 127] (by decide +kernel) (by decide +kernel)
set_option maxRecDepth 20000 in
theorem gX7_init_X4_init_n60 : GoodIn wsX7_init (wsX4_init) := ggX7_init_X4_init
theorem dX7_init_0 : decode cX7_init 0 = .ok (.aload_n 0, 1) := by decide +kernel
theorem dX7_init_1 : decode cX7_init 1 = .ok (.invokespecial 1, 3) := by decide +kernel
theorem dX7_init_4 : decode cX7_init 4 = .ok (.aload_n 0, 1) := by decide +kernel
theorem dX7_init_5 : decode cX7_init 5 = .ok (.iconst 4, 1) := by decide +kernel
theorem dX7_init_6 : decode cX7_init 6 = .ok (.anewarray 9, 3) := by decide +kernel
theorem dX7_init_9 : decode cX7_init 9 = .ok (.putfield 11, 3) := by decide +kernel
theorem dX7_init_12 : decode cX7_init 12 = .ok (.aload_n 0, 1) := by decide +kernel
theorem dX7_init_13 : decode cX7_init 13 = .ok (.new 15, 3) := by decide +kernel
theorem dX7_init_16 : decode cX7_init 16 = .ok (.dup, 1) := by decide +kernel
theorem dX7_init_17 : decode cX7_init 17 = .ok (.invokespecial 17, 3) := by decide +kernel
theorem dX7_init_20 : decode cX7_init 20 = .ok (.putfield 18, 3) := by decide +kernel
theorem dX7_init_23 : decode cX7_init 23 = .ok (.aload_n 0, 1) := by decide +kernel
theorem dX7_init_24 : decode cX7_init 24 = .ok (.new 22, 3) := by decide +kernel
theorem dX7_init_27 : decode cX7_init 27 = .ok (.dup, 1) := by decide +kernel
theorem dX7_init_28 : decode cX7_init 28 = .ok (.invokespecial 24, 3) := by decide +kernel
theorem dX7_init_31 : decode cX7_init 31 = .ok (.putfield 25, 3) := by decide +kernel
theorem dX7_init_34 : decode cX7_init 34 = .ok (.aload_n 0, 1) := by decide +kernel
theorem dX7_init_35 : decode cX7_init 35 = .ok (.new 29, 3) := by decide +kernel
theorem dX7_init_38 : decode cX7_init 38 = .ok (.dup, 1) := by decide +kernel
theorem dX7_init_39 : decode cX7_init 39 = .ok (.invokespecial 31, 3) := by decide +kernel
theorem dX7_init_42 : decode cX7_init 42 = .ok (.putfield 32, 3) := by decide +kernel
theorem dX7_init_45 : decode cX7_init 45 = .ok (.aload_n 0, 1) := by decide +kernel
theorem dX7_init_46 : decode cX7_init 46 = .ok (.new 36, 3) := by decide +kernel
theorem dX7_init_49 : decode cX7_init 49 = .ok (.dup, 1) := by decide +kernel
theorem dX7_init_50 : decode cX7_init 50 = .ok (.invokespecial 38, 3) := by decide +kernel
theorem dX7_init_53 : decode cX7_init 53 = .ok (.putfield 39, 3) := by decide +kernel
theorem dX7_init_56 : decode cX7_init 56 = .ok (.aload_n 0, 1) := by decide +kernel
theorem dX7_init_57 : decode cX7_init 57 = .ok (.bipush 10, 2) := by decide +kernel
theorem dX7_init_59 : decode cX7_init 59 = .ok (.newarray .int, 2) := by decide +kernel
theorem dX7_init_61 : decode cX7_init 61 = .ok (.putfield 43, 3) := by decide +kernel
theorem dX7_init_64 : decode cX7_init 64 = .ok (.aload_n 0, 1) := by decide +kernel
theorem dX7_init_65 : decode cX7_init 65 = .ok (.bipush 10, 2) := by decide +kernel
theorem dX7_init_67 : decode cX7_init 67 = .ok (.newarray .int, 2) := by decide +kernel
theorem dX7_init_69 : decode cX7_init 69 = .ok (.putfield 47, 3) := by decide +kernel
theorem dX7_init_72 : decode cX7_init 72 = .ok (.aload_n 0, 1) := by decide +kernel
theorem dX7_init_73 : decode cX7_init 73 = .ok (.iconst 0, 1) := by decide +kernel
theorem dX7_init_74 : decode cX7_init 74 = .ok (.putfield 50, 3) := by decide +kernel
theorem dX7_init_77 : decode cX7_init 77 = .ok (.aload_n 0, 1) := by decide +kernel
theorem dX7_init_78 : decode cX7_init 78 = .ok (.iconst 2, 1) := by decide +kernel
theorem dX7_init_79 : decode cX7_init 79 = .ok (.putfield 54, 3) := by decide +kernel
theorem dX7_init_82 : decode cX7_init 82 = .ok (.aload_n 0, 1) := by decide +kernel
theorem dX7_init_83 : decode cX7_init 83 = .ok (.iconst 5, 1) := by decide +kernel
theorem dX7_init_84 : decode cX7_init 84 = .ok (.putfield 57, 3) := by decide +kernel
theorem dX7_init_87 : decode cX7_init 87 = .ok (.iconst 0, 1) := by decide +kernel
theorem dX7_init_88 : decode cX7_init 88 = .ok (.istore_n 1, 1) := by decide +kernel
theorem dX7_init_89 : decode cX7_init 89 = .ok (.iload_n 1, 1) := by decide +kernel
theorem dX7_init_90 : decode cX7_init 90 = .ok (.iconst 4, 1) := by decide +kernel
theorem dX7_init_91 : decode cX7_init 91 = .ok (.if_icmp .ge 22, 3) := by decide +kernel
theorem dX7_init_94 : decode cX7_init 94 = .ok (.aload_n 0, 1) := by decide +kernel
theorem dX7_init_95 : decode cX7_init 95 = .ok (.getfield 11, 3) := by decide +kernel
end
section
theorem dX7_init_98 : decode cX7_init 98 = .ok (.iload_n 1, 1) := by decide +kernel
theorem dX7_init_99 : decode cX7_init 99 = .ok (.new 9, 3) := by decide +kernel
theorem dX7_init_102 : decode cX7_init 102 = .ok (.dup, 1) := by decide +kernel
theorem dX7_init_103 : decode cX7_init 103 = .ok (.invokespecial 60, 3) := by decide +kernel
theorem dX7_init_106 : decode cX7_init 106 = .ok (.aastore, 1) := by decide +kernel
theorem dX7_init_107 : decode cX7_init 107 = .ok (.iinc 1 1, 3) := by decide +kernel
theorem dX7_init_110 : decode cX7_init 110 = .ok (.goto (-21), 3) := by decide +kernel
theorem dX7_init_113 : decode cX7_init 113 = .ok (.return_, 1) := by decide +kernel
set_option maxRecDepth 20000 in
theorem ggX7_plate_X7_isThickness : GoodIn wsX7_plate wsX7_isThickness := goodIn_r _ [6] (by decide +kernel) (by decide +kernel)
set_option maxRecDepth 20000 in
theorem gX7_plate_X7_isThickness : GoodIn wsX7_plate (va_wsS RX7 61 yX7_isThickness wsX7_isThickness) := goodIn_app (goodIn_of _ (by decide +kernel)) ggX7_plate_X7_isThickness
set_option maxRecDepth 20000 in
theorem ggX7_plate_X4_lay : GoodIn wsX7_plate wsX4_lay := goodIn_r _ [11, 12, 23, 24, 25] (by decide +kernel) (by decide +kernel)
set_option maxRecDepth 20000 in
theorem gX7_plate_X4_lay : GoodIn wsX7_plate (wsV RX7 65 RX4 yX4_lay wsX4_lay) := goodIn_app (goodIn_of _ (by decide +kernel)) ggX7_plate_X4_lay
theorem dX7_plate_0 : decode cX7_plate 0 = .ok (.iload_n 1, 1) := by decide +kernel
theorem dX7_plate_1 : decode cX7_plate 1 = .ok (.invokestatic 61, 3) := by decide +kernel
theorem dX7_plate_4 : decode cX7_plate 4 = .ok (.ifCond .eq 25, 3) := by decide +kernel
theorem dX7_plate_7 : decode cX7_plate 7 = .ok (.iload_n 2, 1) := by decide +kernel
theorem dX7_plate_8 : decode cX7_plate 8 = .ok (.invokestatic 61, 3) := by decide +kernel
theorem dX7_plate_11 : decode cX7_plate 11 = .ok (.ifCond .eq 18, 3) := by decide +kernel
theorem dX7_plate_14 : decode cX7_plate 14 = .ok (.iload_n 3, 1) := by decide +kernel
theorem dX7_plate_15 : decode cX7_plate 15 = .ok (.invokestatic 61, 3) := by decide +kernel
theorem dX7_plate_18 : decode cX7_plate 18 = .ok (.ifCond .eq 11, 3) := by decide +kernel
theorem dX7_plate_21 : decode cX7_plate 21 = .ok (.iload 4, 2) := by decide +kernel
theorem dX7_plate_23 : decode cX7_plate 23 = .ok (.invokestatic 61, 3) := by decide +kernel
theorem dX7_plate_26 : decode cX7_plate 26 = .ok (.ifCond .ne 6, 3) := by decide +kernel
theorem dX7_plate_29 : decode cX7_plate 29 = .ok (.bipush (-2), 2) := by decide +kernel
theorem dX7_plate_31 : decode cX7_plate 31 = .ok (.ireturn, 1) := by decide +kernel
theorem dX7_plate_32 : decode cX7_plate 32 = .ok (.aload_n 0, 1) := by decide +kernel
theorem dX7_plate_33 : decode cX7_plate 33 = .ok (.getfield 50, 3) := by decide +kernel
theorem dX7_plate_36 : decode cX7_plate 36 = .ok (.iconst 4, 1) := by decide +kernel
theorem dX7_plate_37 : decode cX7_plate 37 = .ok (.if_icmp .lt 6, 3) := by decide +kernel
theorem dX7_plate_40 : decode cX7_plate 40 = .ok (.bipush (-4), 2) := by decide +kernel
theorem dX7_plate_42 : decode cX7_plate 42 = .ok (.ireturn, 1) := by decide +kernel
theorem dX7_plate_43 : decode cX7_plate 43 = .ok (.aload_n 0, 1) := by decide +kernel
theorem dX7_plate_44 : decode cX7_plate 44 = .ok (.getfield 11, 3) := by decide +kernel
theorem dX7_plate_47 : decode cX7_plate 47 = .ok (.aload_n 0, 1) := by decide +kernel
theorem dX7_plate_48 : decode cX7_plate 48 = .ok (.getfield 50, 3) := by decide +kernel
theorem dX7_plate_51 : decode cX7_plate 51 = .ok (.aaload, 1) := by decide +kernel
theorem dX7_plate_52 : decode cX7_plate 52 = .ok (.iload_n 1, 1) := by decide +kernel
theorem dX7_plate_53 : decode cX7_plate 53 = .ok (.iload_n 2, 1) := by decide +kernel
theorem dX7_plate_54 : decode cX7_plate 54 = .ok (.iload_n 3, 1) := by decide +kernel
theorem dX7_plate_55 : decode cX7_plate 55 = .ok (.iload 4, 2) := by decide +kernel
theorem dX7_plate_57 : decode cX7_plate 57 = .ok (.invokevirtual 65, 3) := by decide +kernel
theorem dX7_plate_60 : decode cX7_plate 60 = .ok (.aload_n 0, 1) := by decide +kernel
theorem dX7_plate_61 : decode cX7_plate 61 = .ok (.dup, 1) := by decide +kernel
theorem dX7_plate_62 : decode cX7_plate 62 = .ok (.getfield 50, 3) := by decide +kernel
theorem dX7_plate_65 : decode cX7_plate 65 = .ok (.iconst 1, 1) := by decide +kernel
theorem dX7_plate_66 : decode cX7_plate 66 = .ok (.iadd, 1) := by decide +kernel
theorem dX7_plate_67 : decode cX7_plate 67 = .ok (.putfield 50, 3) := by decide +kernel
theorem dX7_plate_70 : decode cX7_plate 70 = .ok (.aload_n 0, 1) := by decide +kernel
theorem dX7_plate_71 : decode cX7_plate 71 = .ok (.getfield 50, 3) := by decide +kernel
theorem dX7_plate_74 : decode cX7_plate 74 = .ok (.iconst 1, 1) := by decide +kernel
theorem dX7_plate_75 : decode cX7_plate 75 = .ok (.isub, 1) := by decide +kernel
theorem dX7_plate_76 : decode cX7_plate 76 = .ok (.ireturn, 1) := by decide +kernel
set_option maxRecDepth 20000 in
theorem ggX7_thick_X7_isPlate : GoodIn wsX7_thick wsX7_isPlate := goodIn_r _ [7, 8, 12, 13, 14, 15, 16, 17, 18, 19, 20, 21] (by decide +kernel) (by decide +kernel)
set_option maxRecDepth 20000 in
theorem gX7_thick_X7_isPlate : GoodIn wsX7_thick (wsV RX7 69 RX7 yX7_isPlate wsX7_isPlate) := goodIn_app (goodIn_of _ (by decide +kernel)) ggX7_thick_X7_isPlate
set_option maxRecDepth 20000 in
theorem ggX7_thick_X7_isStrip : GoodIn wsX7_thick wsX7_isStrip := goodIn_r _ [11] (by decide +kernel) (by decide +kernel)
set_option maxRecDepth 20000 in
theorem gX7_thick_X7_isStrip : GoodIn wsX7_thick (va_wsS RX7 72 yX7_isStrip wsX7_isStrip) := goodIn_app (goodIn_of _ (by decide +kernel)) ggX7_thick_X7_isStrip
theorem dX7_thick_0 : decode cX7_thick 0 = .ok (.aload_n 0, 1) := by decide +kernel
theorem dX7_thick_1 : decode cX7_thick 1 = .ok (.iload_n 1, 1) := by decide +kernel
theorem dX7_thick_2 : decode cX7_thick 2 = .ok (.invokevirtual 69, 3) := by decide +kernel
theorem dX7_thick_5 : decode cX7_thick 5 = .ok (.ifCond .eq 10, 3) := by decide +kernel
theorem dX7_thick_8 : decode cX7_thick 8 = .ok (.iload_n 2, 1) := by decide +kernel
theorem dX7_thick_9 : decode cX7_thick 9 = .ok (.invokestatic 72, 3) := by decide +kernel
theorem dX7_thick_12 : decode cX7_thick 12 = .ok (.ifCond .ne 6, 3) := by decide +kernel
theorem dX7_thick_15 : decode cX7_thick 15 = .ok (.bipush (-2), 2) := by decide +kernel
theorem dX7_thick_17 : decode cX7_thick 17 = .ok (.ireturn, 1) := by decide +kernel
theorem dX7_thick_18 : decode cX7_thick 18 = .ok (.aload_n 0, 1) := by decide +kernel
theorem dX7_thick_19 : decode cX7_thick 19 = .ok (.getfield 11, 3) := by decide +kernel
theorem dX7_thick_22 : decode cX7_thick 22 = .ok (.iload_n 1, 1) := by decide +kernel
theorem dX7_thick_23 : decode cX7_thick 23 = .ok (.aaload, 1) := by decide +kernel
theorem dX7_thick_24 : decode cX7_thick 24 = .ok (.getfield 75, 3) := by decide +kernel
theorem dX7_thick_27 : decode cX7_thick 27 = .ok (.iload_n 2, 1) := by decide +kernel
theorem dX7_thick_28 : decode cX7_thick 28 = .ok (.iaload, 1) := by decide +kernel
theorem dX7_thick_29 : decode cX7_thick 29 = .ok (.ireturn, 1) := by decide +kernel
set_option maxRecDepth 20000 in
theorem ggX7_least_X7_isThickness : GoodIn wsX7_least wsX7_isThickness := goodIn_r _ [6] (by decide +kernel) (by decide +kernel)
set_option maxRecDepth 20000 in
theorem gX7_least_X7_isThickness : GoodIn wsX7_least (va_wsS RX7 61 yX7_isThickness wsX7_isThickness) := goodIn_app (goodIn_of _ (by decide +kernel)) ggX7_least_X7_isThickness
set_option maxRecDepth 20000 in
theorem ggX7_least_X3_forget : GoodIn wsX7_least wsX3_forget := goodIn_r _ [11, 12, 23, 24, 25, 26, 27] (by decide +kernel) (by decide +kernel)
set_option maxRecDepth 20000 in
theorem gX7_least_X3_forget : GoodIn wsX7_least (wsV RX7 78 RX3 yX3_forget wsX3_forget) := goodIn_app (goodIn_of _ (by decide +kernel)) ggX7_least_X3_forget
theorem dX7_least_0 : decode cX7_least 0 = .ok (.iload_n 1, 1) := by decide +kernel
theorem dX7_least_1 : decode cX7_least 1 = .ok (.invokestatic 61, 3) := by decide +kernel
theorem dX7_least_4 : decode cX7_least 4 = .ok (.ifCond .ne 6, 3) := by decide +kernel
theorem dX7_least_7 : decode cX7_least 7 = .ok (.bipush (-2), 2) := by decide +kernel
theorem dX7_least_9 : decode cX7_least 9 = .ok (.ireturn, 1) := by decide +kernel
theorem dX7_least_10 : decode cX7_least 10 = .ok (.aload_n 0, 1) := by decide +kernel
theorem dX7_least_11 : decode cX7_least 11 = .ok (.getfield 54, 3) := by decide +kernel
theorem dX7_least_14 : decode cX7_least 14 = .ok (.istore_n 2, 1) := by decide +kernel
theorem dX7_least_15 : decode cX7_least 15 = .ok (.aload_n 0, 1) := by decide +kernel
theorem dX7_least_16 : decode cX7_least 16 = .ok (.iload_n 1, 1) := by decide +kernel
theorem dX7_least_17 : decode cX7_least 17 = .ok (.putfield 54, 3) := by decide +kernel
theorem dX7_least_20 : decode cX7_least 20 = .ok (.aload_n 0, 1) := by decide +kernel
theorem dX7_least_21 : decode cX7_least 21 = .ok (.getfield 32, 3) := by decide +kernel
theorem dX7_least_24 : decode cX7_least 24 = .ok (.invokevirtual 78, 3) := by decide +kernel
theorem dX7_least_27 : decode cX7_least 27 = .ok (.iload_n 2, 1) := by decide +kernel
theorem dX7_least_28 : decode cX7_least 28 = .ok (.ireturn, 1) := by decide +kernel
set_option maxRecDepth 20000 in
theorem ggX7_shave_X7_isPlate : GoodIn wsX7_shave wsX7_isPlate := goodIn_r _ [10, 11, 29, 30, 31, 32, 33, 34, 35, 36, 37, 38] (by decide +kernel) (by decide +kernel)
set_option maxRecDepth 20000 in
theorem gX7_shave_X7_isPlate : GoodIn wsX7_shave (wsV RX7 69 RX7 yX7_isPlate wsX7_isPlate) := goodIn_app (goodIn_of _ (by decide +kernel)) ggX7_shave_X7_isPlate
set_option maxRecDepth 20000 in
theorem ggX7_shave_X7_isStrip : GoodIn wsX7_shave wsX7_isStrip := goodIn_r _ [14] (by decide +kernel) (by decide +kernel)
set_option maxRecDepth 20000 in
theorem gX7_shave_X7_isStrip : GoodIn wsX7_shave (va_wsS RX7 72 yX7_isStrip wsX7_isStrip) := goodIn_app (goodIn_of _ (by decide +kernel)) ggX7_shave_X7_isStrip
set_option maxRecDepth 20000 in
theorem ggX7_shave_X4_takeOff : GoodIn wsX7_shave wsX4_takeOff := goodIn_r _ [19, 20, 21, 22, 13, 9, 14, 39, 40, 41] (by decide +kernel) (by decide +kernel)
set_option maxRecDepth 20000 in
theorem gX7_shave_X4_takeOff : GoodIn wsX7_shave (wsV RX7 84 RX4 yX4_takeOff wsX4_takeOff) := goodIn_app (goodIn_of _ (by decide +kernel)) ggX7_shave_X4_takeOff
set_option maxRecDepth 20000 in
theorem ggX7_shave_X3_forget : GoodIn wsX7_shave wsX3_forget := goodIn_r _ [27, 28, 42, 43, 44, 45, 46] (by decide +kernel) (by decide +kernel)
set_option maxRecDepth 20000 in
theorem gX7_shave_X3_forget : GoodIn wsX7_shave (wsV RX7 78 RX3 yX3_forget wsX3_forget) := goodIn_app (goodIn_of _ (by decide +kernel)) ggX7_shave_X3_forget
theorem dX7_shave_0 : decode cX7_shave 0 = .ok (.aload_n 0, 1) := by decide +kernel
theorem dX7_shave_1 : decode cX7_shave 1 = .ok (.iload_n 1, 1) := by decide +kernel
theorem dX7_shave_2 : decode cX7_shave 2 = .ok (.invokevirtual 69, 3) := by decide +kernel
theorem dX7_shave_5 : decode cX7_shave 5 = .ok (.ifCond .eq 10, 3) := by decide +kernel
theorem dX7_shave_8 : decode cX7_shave 8 = .ok (.iload_n 2, 1) := by decide +kernel
theorem dX7_shave_9 : decode cX7_shave 9 = .ok (.invokestatic 72, 3) := by decide +kernel
theorem dX7_shave_12 : decode cX7_shave 12 = .ok (.ifCond .ne 6, 3) := by decide +kernel
theorem dX7_shave_15 : decode cX7_shave 15 = .ok (.bipush (-2), 2) := by decide +kernel
theorem dX7_shave_17 : decode cX7_shave 17 = .ok (.ireturn, 1) := by decide +kernel
theorem dX7_shave_18 : decode cX7_shave 18 = .ok (.aload_n 0, 1) := by decide +kernel
theorem dX7_shave_19 : decode cX7_shave 19 = .ok (.getfield 11, 3) := by decide +kernel
theorem dX7_shave_22 : decode cX7_shave 22 = .ok (.iload_n 1, 1) := by decide +kernel
theorem dX7_shave_23 : decode cX7_shave 23 = .ok (.aaload, 1) := by decide +kernel
theorem dX7_shave_24 : decode cX7_shave 24 = .ok (.astore_n 3, 1) := by decide +kernel
theorem dX7_shave_25 : decode cX7_shave 25 = .ok (.aload_n 3, 1) := by decide +kernel
theorem dX7_shave_26 : decode cX7_shave 26 = .ok (.getfield 75, 3) := by decide +kernel
theorem dX7_shave_29 : decode cX7_shave 29 = .ok (.iload_n 2, 1) := by decide +kernel
theorem dX7_shave_30 : decode cX7_shave 30 = .ok (.iaload, 1) := by decide +kernel
theorem dX7_shave_31 : decode cX7_shave 31 = .ok (.aload_n 0, 1) := by decide +kernel
theorem dX7_shave_32 : decode cX7_shave 32 = .ok (.getfield 54, 3) := by decide +kernel
theorem dX7_shave_35 : decode cX7_shave 35 = .ok (.if_icmp .gt 6, 3) := by decide +kernel
theorem dX7_shave_38 : decode cX7_shave 38 = .ok (.bipush (-3), 2) := by decide +kernel
theorem dX7_shave_40 : decode cX7_shave 40 = .ok (.ireturn, 1) := by decide +kernel
theorem dX7_shave_41 : decode cX7_shave 41 = .ok (.aload_n 3, 1) := by decide +kernel
theorem dX7_shave_42 : decode cX7_shave 42 = .ok (.getfield 81, 3) := by decide +kernel
theorem dX7_shave_45 : decode cX7_shave 45 = .ok (.bipush 20, 2) := by decide +kernel
theorem dX7_shave_47 : decode cX7_shave 47 = .ok (.if_icmp .lt 6, 3) := by decide +kernel
theorem dX7_shave_50 : decode cX7_shave 50 = .ok (.bipush (-4), 2) := by decide +kernel
theorem dX7_shave_52 : decode cX7_shave 52 = .ok (.ireturn, 1) := by decide +kernel
theorem dX7_shave_53 : decode cX7_shave 53 = .ok (.aload_n 3, 1) := by decide +kernel
theorem dX7_shave_54 : decode cX7_shave 54 = .ok (.iload_n 2, 1) := by decide +kernel
theorem dX7_shave_55 : decode cX7_shave 55 = .ok (.invokevirtual 84, 3) := by decide +kernel
theorem dX7_shave_58 : decode cX7_shave 58 = .ok (.aload_n 0, 1) := by decide +kernel
theorem dX7_shave_59 : decode cX7_shave 59 = .ok (.getfield 32, 3) := by decide +kernel
theorem dX7_shave_62 : decode cX7_shave 62 = .ok (.invokevirtual 78, 3) := by decide +kernel
theorem dX7_shave_65 : decode cX7_shave 65 = .ok (.aload_n 3, 1) := by decide +kernel
theorem dX7_shave_66 : decode cX7_shave 66 = .ok (.getfield 75, 3) := by decide +kernel
theorem dX7_shave_69 : decode cX7_shave 69 = .ok (.iload_n 2, 1) := by decide +kernel
theorem dX7_shave_70 : decode cX7_shave 70 = .ok (.iaload, 1) := by decide +kernel
theorem dX7_shave_71 : decode cX7_shave 71 = .ok (.ireturn, 1) := by decide +kernel
set_option maxRecDepth 20000 in
theorem ggX7_undo_X7_isPlate : GoodIn wsX7_undo wsX7_isPlate := goodIn_r _ [8, 9, 24, 25, 26, 27, 28, 29, 30, 31, 32, 33] (by decide +kernel) (by decide +kernel)
set_option maxRecDepth 20000 in
theorem gX7_undo_X7_isPlate : GoodIn wsX7_undo (wsV RX7 69 RX7 yX7_isPlate wsX7_isPlate) := goodIn_app (goodIn_of _ (by decide +kernel)) ggX7_undo_X7_isPlate
set_option maxRecDepth 20000 in
theorem ggX7_undo_X3_forget : GoodIn wsX7_undo wsX3_forget := goodIn_r _ [14, 15, 37, 38, 39, 40, 41] (by decide +kernel) (by decide +kernel)
set_option maxRecDepth 20000 in
theorem gX7_undo_X3_forget : GoodIn wsX7_undo (wsV RX7 78 RX3 yX3_forget wsX3_forget) := goodIn_app (goodIn_of _ (by decide +kernel)) ggX7_undo_X3_forget
set_option maxRecDepth 20000 in
theorem ggX7_undo_X4_putBack : GoodIn wsX7_undo wsX4_putBack := goodIn_r _ [20, 21, 22, 23, 34, 35, 36] (by decide +kernel) (by decide +kernel)
set_option maxRecDepth 20000 in
theorem gX7_undo_X4_putBack : GoodIn wsX7_undo (wsV RX7 88 RX4 yX4_putBack wsX4_putBack) := goodIn_app (goodIn_of _ (by decide +kernel)) ggX7_undo_X4_putBack
theorem dX7_undo_0 : decode cX7_undo 0 = .ok (.aload_n 0, 1) := by decide +kernel
theorem dX7_undo_1 : decode cX7_undo 1 = .ok (.iload_n 1, 1) := by decide +kernel
theorem dX7_undo_2 : decode cX7_undo 2 = .ok (.invokevirtual 69, 3) := by decide +kernel
theorem dX7_undo_5 : decode cX7_undo 5 = .ok (.ifCond .ne 6, 3) := by decide +kernel
theorem dX7_undo_8 : decode cX7_undo 8 = .ok (.bipush (-2), 2) := by decide +kernel
theorem dX7_undo_10 : decode cX7_undo 10 = .ok (.ireturn, 1) := by decide +kernel
theorem dX7_undo_11 : decode cX7_undo 11 = .ok (.aload_n 0, 1) := by decide +kernel
theorem dX7_undo_12 : decode cX7_undo 12 = .ok (.getfield 11, 3) := by decide +kernel
theorem dX7_undo_15 : decode cX7_undo 15 = .ok (.iload_n 1, 1) := by decide +kernel
theorem dX7_undo_16 : decode cX7_undo 16 = .ok (.aaload, 1) := by decide +kernel
theorem dX7_undo_17 : decode cX7_undo 17 = .ok (.getfield 81, 3) := by decide +kernel
theorem dX7_undo_20 : decode cX7_undo 20 = .ok (.ifCond .gt 6, 3) := by decide +kernel
theorem dX7_undo_23 : decode cX7_undo 23 = .ok (.bipush (-3), 2) := by decide +kernel
theorem dX7_undo_25 : decode cX7_undo 25 = .ok (.ireturn, 1) := by decide +kernel
theorem dX7_undo_26 : decode cX7_undo 26 = .ok (.aload_n 0, 1) := by decide +kernel
theorem dX7_undo_27 : decode cX7_undo 27 = .ok (.getfield 32, 3) := by decide +kernel
theorem dX7_undo_30 : decode cX7_undo 30 = .ok (.invokevirtual 78, 3) := by decide +kernel
theorem dX7_undo_33 : decode cX7_undo 33 = .ok (.aload_n 0, 1) := by decide +kernel
theorem dX7_undo_34 : decode cX7_undo 34 = .ok (.getfield 11, 3) := by decide +kernel
theorem dX7_undo_37 : decode cX7_undo 37 = .ok (.iload_n 1, 1) := by decide +kernel
theorem dX7_undo_38 : decode cX7_undo 38 = .ok (.aaload, 1) := by decide +kernel
theorem dX7_undo_39 : decode cX7_undo 39 = .ok (.invokevirtual 88, 3) := by decide +kernel
theorem dX7_undo_42 : decode cX7_undo 42 = .ok (.ireturn, 1) := by decide +kernel
set_option maxRecDepth 20000 in
theorem ggX7_mirror_X7_isPlate : GoodIn wsX7_mirror wsX7_isPlate := goodIn_r _ [7, 8, 26, 27, 28, 29, 30, 31, 32, 33, 34, 35] (by decide +kernel) (by decide +kernel)
set_option maxRecDepth 20000 in
theorem gX7_mirror_X7_isPlate : GoodIn wsX7_mirror (wsV RX7 69 RX7 yX7_isPlate wsX7_isPlate) := goodIn_app (goodIn_of _ (by decide +kernel)) ggX7_mirror_X7_isPlate
set_option maxRecDepth 20000 in
theorem ggX7_mirror_X4_turn : GoodIn wsX7_mirror wsX4_turn := goodIn_r _ [13, 14, 15, 16, 17, 18, 12, 19, 36, 37, 38] (by decide +kernel) (by decide +kernel)
set_option maxRecDepth 20000 in
theorem gX7_mirror_X4_turn : GoodIn wsX7_mirror (wsV RX7 92 RX4 yX4_turn wsX4_turn) := goodIn_app (goodIn_of _ (by decide +kernel)) ggX7_mirror_X4_turn
set_option maxRecDepth 20000 in
theorem ggX7_mirror_X3_forget : GoodIn wsX7_mirror wsX3_forget := goodIn_r _ [24, 25, 39, 40, 41, 42, 43] (by decide +kernel) (by decide +kernel)
set_option maxRecDepth 20000 in
theorem gX7_mirror_X3_forget : GoodIn wsX7_mirror (wsV RX7 78 RX3 yX3_forget wsX3_forget) := goodIn_app (goodIn_of _ (by decide +kernel)) ggX7_mirror_X3_forget
theorem dX7_mirror_0 : decode cX7_mirror 0 = .ok (.aload_n 0, 1) := by decide +kernel
theorem dX7_mirror_1 : decode cX7_mirror 1 = .ok (.iload_n 1, 1) := by decide +kernel
theorem dX7_mirror_2 : decode cX7_mirror 2 = .ok (.invokevirtual 69, 3) := by decide +kernel
theorem dX7_mirror_5 : decode cX7_mirror 5 = .ok (.ifCond .ne 6, 3) := by decide +kernel
theorem dX7_mirror_8 : decode cX7_mirror 8 = .ok (.bipush (-2), 2) := by decide +kernel
theorem dX7_mirror_10 : decode cX7_mirror 10 = .ok (.ireturn, 1) := by decide +kernel
theorem dX7_mirror_11 : decode cX7_mirror 11 = .ok (.aload_n 0, 1) := by decide +kernel
theorem dX7_mirror_12 : decode cX7_mirror 12 = .ok (.getfield 11, 3) := by decide +kernel
theorem dX7_mirror_15 : decode cX7_mirror 15 = .ok (.iload_n 1, 1) := by decide +kernel
theorem dX7_mirror_16 : decode cX7_mirror 16 = .ok (.aaload, 1) := by decide +kernel
theorem dX7_mirror_17 : decode cX7_mirror 17 = .ok (.invokevirtual 92, 3) := by decide +kernel
theorem dX7_mirror_20 : decode cX7_mirror 20 = .ok (.aload_n 0, 1) := by decide +kernel
theorem dX7_mirror_21 : decode cX7_mirror 21 = .ok (.getfield 32, 3) := by decide +kernel
theorem dX7_mirror_24 : decode cX7_mirror 24 = .ok (.invokevirtual 78, 3) := by decide +kernel
theorem dX7_mirror_27 : decode cX7_mirror 27 = .ok (.iconst 1, 1) := by decide +kernel
theorem dX7_mirror_28 : decode cX7_mirror 28 = .ok (.ireturn, 1) := by decide +kernel
set_option maxRecDepth 20000 in
theorem ggX7_tone_X7_isPlate : GoodIn wsX7_tone wsX7_isPlate := goodIn_r _ [7, 8, 28, 29, 30, 31, 32, 33, 34, 35, 36, 37] (by decide +kernel) (by decide +kernel)
set_option maxRecDepth 20000 in
theorem gX7_tone_X7_isPlate : GoodIn wsX7_tone (wsV RX7 69 RX7 yX7_isPlate wsX7_isPlate) := goodIn_app (goodIn_of _ (by decide +kernel)) ggX7_tone_X7_isPlate
set_option maxRecDepth 20000 in
theorem ggX7_tone_X7_isWood : GoodIn wsX7_tone wsX7_isWood := goodIn_r _ [11] (by decide +kernel) (by decide +kernel)
set_option maxRecDepth 20000 in
theorem gX7_tone_X7_isWood : GoodIn wsX7_tone (va_wsS RX7 95 yX7_isWood wsX7_isWood) := goodIn_app (goodIn_of _ (by decide +kernel)) ggX7_tone_X7_isWood
set_option maxRecDepth 20000 in
theorem ggX7_tone_X7_isTone : GoodIn wsX7_tone wsX7_isTone := goodIn_r _ [14] (by decide +kernel) (by decide +kernel)
set_option maxRecDepth 20000 in
theorem gX7_tone_X7_isTone : GoodIn wsX7_tone (va_wsS RX7 99 yX7_isTone wsX7_isTone) := goodIn_app (goodIn_of _ (by decide +kernel)) ggX7_tone_X7_isTone
set_option maxRecDepth 20000 in
theorem ggX7_tone_X5_wholeValue : GoodIn wsX7_tone wsX5_wholeValue := goodIn_r _ [18, 19, 20, 17, 21, 22, 23, 24] (by decide +kernel) (by decide +kernel)
set_option maxRecDepth 20000 in
theorem gX7_tone_X5_wholeValue : GoodIn wsX7_tone (va_wsS RX7 102 yX5_wholeValue wsX5_wholeValue) := goodIn_app (goodIn_of _ (by decide +kernel)) ggX7_tone_X5_wholeValue
set_option maxRecDepth 20000 in
theorem ggX7_tone_X5_byWeight : GoodIn wsX7_tone wsX5_byWeight := goodIn_r _ [27] (by decide +kernel) (by decide +kernel)
set_option maxRecDepth 20000 in
theorem gX7_tone_X5_byWeight : GoodIn wsX7_tone (va_wsS RX7 108 yX5_byWeight wsX5_byWeight) := goodIn_app (goodIn_of _ (by decide +kernel)) ggX7_tone_X5_byWeight
theorem dX7_tone_0 : decode cX7_tone 0 = .ok (.aload_n 0, 1) := by decide +kernel
theorem dX7_tone_1 : decode cX7_tone 1 = .ok (.iload_n 1, 1) := by decide +kernel
theorem dX7_tone_2 : decode cX7_tone 2 = .ok (.invokevirtual 69, 3) := by decide +kernel
theorem dX7_tone_5 : decode cX7_tone 5 = .ok (.ifCond .eq 19, 3) := by decide +kernel
theorem dX7_tone_8 : decode cX7_tone 8 = .ok (.iload_n 2, 1) := by decide +kernel
theorem dX7_tone_9 : decode cX7_tone 9 = .ok (.iload_n 3, 1) := by decide +kernel
theorem dX7_tone_10 : decode cX7_tone 10 = .ok (.invokestatic 95, 3) := by decide +kernel
theorem dX7_tone_13 : decode cX7_tone 13 = .ok (.ifCond .eq 11, 3) := by decide +kernel
theorem dX7_tone_16 : decode cX7_tone 16 = .ok (.iload 4, 2) := by decide +kernel
theorem dX7_tone_18 : decode cX7_tone 18 = .ok (.invokestatic 99, 3) := by decide +kernel
theorem dX7_tone_21 : decode cX7_tone 21 = .ok (.ifCond .ne 6, 3) := by decide +kernel
theorem dX7_tone_24 : decode cX7_tone 24 = .ok (.bipush (-2), 2) := by decide +kernel
theorem dX7_tone_26 : decode cX7_tone 26 = .ok (.ireturn, 1) := by decide +kernel
theorem dX7_tone_27 : decode cX7_tone 27 = .ok (.aload_n 0, 1) := by decide +kernel
theorem dX7_tone_28 : decode cX7_tone 28 = .ok (.getfield 11, 3) := by decide +kernel
theorem dX7_tone_31 : decode cX7_tone 31 = .ok (.iload_n 1, 1) := by decide +kernel
theorem dX7_tone_32 : decode cX7_tone 32 = .ok (.aaload, 1) := by decide +kernel
theorem dX7_tone_33 : decode cX7_tone 33 = .ok (.getfield 75, 3) := by decide +kernel
theorem dX7_tone_36 : decode cX7_tone 36 = .ok (.iload_n 2, 1) := by decide +kernel
theorem dX7_tone_37 : decode cX7_tone 37 = .ok (.iload 4, 2) := by decide +kernel
theorem dX7_tone_39 : decode cX7_tone 39 = .ok (.invokestatic 102, 3) := by decide +kernel
theorem dX7_tone_42 : decode cX7_tone 42 = .ok (.iload_n 3, 1) := by decide +kernel
theorem dX7_tone_43 : decode cX7_tone 43 = .ok (.invokestatic 108, 3) := by decide +kernel
theorem dX7_tone_46 : decode cX7_tone 46 = .ok (.ireturn, 1) := by decide +kernel
set_option maxRecDepth 20000 in
theorem ggX7_below_X7_isPlate : GoodIn wsX7_below wsX7_isPlate := goodIn_r _ [7, 8, 22, 23, 24, 25, 26, 27, 28, 29, 30, 31] (by decide +kernel) (by decide +kernel)
set_option maxRecDepth 20000 in
theorem gX7_below_X7_isPlate : GoodIn wsX7_below (wsV RX7 69 RX7 yX7_isPlate wsX7_isPlate) := goodIn_app (goodIn_of _ (by decide +kernel)) ggX7_below_X7_isPlate
set_option maxRecDepth 20000 in
theorem ggX7_below_X7_isWood : GoodIn wsX7_below wsX7_isWood := goodIn_r _ [11] (by decide +kernel) (by decide +kernel)
set_option maxRecDepth 20000 in
theorem gX7_below_X7_isWood : GoodIn wsX7_below (va_wsS RX7 95 yX7_isWood wsX7_isWood) := goodIn_app (goodIn_of _ (by decide +kernel)) ggX7_below_X7_isWood
set_option maxRecDepth 20000 in
theorem ggX7_below_X7_isNumber : GoodIn wsX7_below wsX7_isNumber := goodIn_r _ [14] (by decide +kernel) (by decide +kernel)
set_option maxRecDepth 20000 in
theorem gX7_below_X7_isNumber : GoodIn wsX7_below (va_wsS RX7 112 yX7_isNumber wsX7_isNumber) := goodIn_app (goodIn_of _ (by decide +kernel)) ggX7_below_X7_isNumber
set_option maxRecDepth 20000 in
theorem ggX7_below_X5_valuesBelow : GoodIn wsX7_below wsX5_valuesBelow := goodIn_r _ [18, 19, 20, 17, 21] (by decide +kernel) (by decide +kernel)
set_option maxRecDepth 20000 in
theorem gX7_below_X5_valuesBelow : GoodIn wsX7_below (va_wsS RX7 115 yX5_valuesBelow wsX5_valuesBelow) := goodIn_app (goodIn_of _ (by decide +kernel)) ggX7_below_X5_valuesBelow
theorem dX7_below_0 : decode cX7_below 0 = .ok (.aload_n 0, 1) := by decide +kernel
theorem dX7_below_1 : decode cX7_below 1 = .ok (.iload_n 1, 1) := by decide +kernel
theorem dX7_below_2 : decode cX7_below 2 = .ok (.invokevirtual 69, 3) := by decide +kernel
theorem dX7_below_5 : decode cX7_below 5 = .ok (.ifCond .eq 19, 3) := by decide +kernel
theorem dX7_below_8 : decode cX7_below 8 = .ok (.iload_n 2, 1) := by decide +kernel
theorem dX7_below_9 : decode cX7_below 9 = .ok (.iload_n 3, 1) := by decide +kernel
theorem dX7_below_10 : decode cX7_below 10 = .ok (.invokestatic 95, 3) := by decide +kernel
theorem dX7_below_13 : decode cX7_below 13 = .ok (.ifCond .eq 11, 3) := by decide +kernel
theorem dX7_below_16 : decode cX7_below 16 = .ok (.iload 4, 2) := by decide +kernel
theorem dX7_below_18 : decode cX7_below 18 = .ok (.invokestatic 112, 3) := by decide +kernel
theorem dX7_below_21 : decode cX7_below 21 = .ok (.ifCond .ne 6, 3) := by decide +kernel
theorem dX7_below_24 : decode cX7_below 24 = .ok (.bipush (-2), 2) := by decide +kernel
theorem dX7_below_26 : decode cX7_below 26 = .ok (.ireturn, 1) := by decide +kernel
theorem dX7_below_27 : decode cX7_below 27 = .ok (.aload_n 0, 1) := by decide +kernel
theorem dX7_below_28 : decode cX7_below 28 = .ok (.getfield 11, 3) := by decide +kernel
theorem dX7_below_31 : decode cX7_below 31 = .ok (.iload_n 1, 1) := by decide +kernel
theorem dX7_below_32 : decode cX7_below 32 = .ok (.aaload, 1) := by decide +kernel
theorem dX7_below_33 : decode cX7_below 33 = .ok (.getfield 75, 3) := by decide +kernel
theorem dX7_below_36 : decode cX7_below 36 = .ok (.iload_n 2, 1) := by decide +kernel
theorem dX7_below_37 : decode cX7_below 37 = .ok (.iload 4, 2) := by decide +kernel
theorem dX7_below_39 : decode cX7_below 39 = .ok (.iload_n 3, 1) := by decide +kernel
theorem dX7_below_40 : decode cX7_below 40 = .ok (.imul, 1) := by decide +kernel
theorem dX7_below_41 : decode cX7_below 41 = .ok (.invokestatic 115, 3) := by decide +kernel
theorem dX7_below_44 : decode cX7_below 44 = .ok (.ireturn, 1) := by decide +kernel
set_option maxRecDepth 20000 in
theorem ggX7_bond_X7_isPlate : GoodIn wsX7_bond wsX7_isPlate := goodIn_r _ [7, 8, 13, 14, 15, 16, 17, 18, 19, 20, 21, 22] (by decide +kernel) (by decide +kernel)
set_option maxRecDepth 20000 in
theorem gX7_bond_X7_isPlate : GoodIn wsX7_bond (wsV RX7 69 RX7 yX7_isPlate wsX7_isPlate) := goodIn_app (goodIn_of _ (by decide +kernel)) ggX7_bond_X7_isPlate
set_option maxRecDepth 20000 in
theorem ggX7_bond_X5_bondAt : GoodIn wsX7_bond wsX5_bondAt := goodIn_r _ [12] (by decide +kernel) (by decide +kernel)
set_option maxRecDepth 20000 in
theorem gX7_bond_X5_bondAt : GoodIn wsX7_bond (va_wsS RX7 118 yX5_bondAt wsX5_bondAt) := goodIn_app (goodIn_of _ (by decide +kernel)) ggX7_bond_X5_bondAt
theorem dX7_bond_0 : decode cX7_bond 0 = .ok (.aload_n 0, 1) := by decide +kernel
theorem dX7_bond_1 : decode cX7_bond 1 = .ok (.iload_n 1, 1) := by decide +kernel
theorem dX7_bond_2 : decode cX7_bond 2 = .ok (.invokevirtual 69, 3) := by decide +kernel
theorem dX7_bond_5 : decode cX7_bond 5 = .ok (.ifCond .eq 23, 3) := by decide +kernel
theorem dX7_bond_8 : decode cX7_bond 8 = .ok (.iload_n 2, 1) := by decide +kernel
theorem dX7_bond_9 : decode cX7_bond 9 = .ok (.iconst 1, 1) := by decide +kernel
theorem dX7_bond_10 : decode cX7_bond 10 = .ok (.if_icmp .lt 18, 3) := by decide +kernel
theorem dX7_bond_13 : decode cX7_bond 13 = .ok (.iload_n 2, 1) := by decide +kernel
theorem dX7_bond_14 : decode cX7_bond 14 = .ok (.bipush 9, 2) := by decide +kernel
theorem dX7_bond_16 : decode cX7_bond 16 = .ok (.if_icmp .gt 12, 3) := by decide +kernel
theorem dX7_bond_19 : decode cX7_bond 19 = .ok (.iload_n 3, 1) := by decide +kernel
theorem dX7_bond_20 : decode cX7_bond 20 = .ok (.ifCond .lt 8, 3) := by decide +kernel
theorem dX7_bond_23 : decode cX7_bond 23 = .ok (.iload_n 3, 1) := by decide +kernel
theorem dX7_bond_24 : decode cX7_bond 24 = .ok (.iconst 4, 1) := by decide +kernel
theorem dX7_bond_25 : decode cX7_bond 25 = .ok (.if_icmp .le 6, 3) := by decide +kernel
theorem dX7_bond_28 : decode cX7_bond 28 = .ok (.bipush (-2), 2) := by decide +kernel
theorem dX7_bond_30 : decode cX7_bond 30 = .ok (.ireturn, 1) := by decide +kernel
theorem dX7_bond_31 : decode cX7_bond 31 = .ok (.aload_n 0, 1) := by decide +kernel
theorem dX7_bond_32 : decode cX7_bond 32 = .ok (.getfield 11, 3) := by decide +kernel
theorem dX7_bond_35 : decode cX7_bond 35 = .ok (.iload_n 1, 1) := by decide +kernel
theorem dX7_bond_36 : decode cX7_bond 36 = .ok (.aaload, 1) := by decide +kernel
theorem dX7_bond_37 : decode cX7_bond 37 = .ok (.getfield 75, 3) := by decide +kernel
theorem dX7_bond_40 : decode cX7_bond 40 = .ok (.iload_n 2, 1) := by decide +kernel
theorem dX7_bond_41 : decode cX7_bond 41 = .ok (.iload_n 3, 1) := by decide +kernel
theorem dX7_bond_42 : decode cX7_bond 42 = .ok (.invokestatic 118, 3) := by decide +kernel
theorem dX7_bond_45 : decode cX7_bond 45 = .ok (.ireturn, 1) := by decide +kernel
set_option maxRecDepth 20000 in
theorem ggX7_tap_X7_isPlate : GoodIn wsX7_tap wsX7_isPlate := goodIn_r _ [10, 11, 82, 83, 84, 85, 86, 87, 88, 89, 90, 91] (by decide +kernel) (by decide +kernel)
set_option maxRecDepth 20000 in
theorem gX7_tap_X7_isPlate : GoodIn wsX7_tap (wsV RX7 69 RX7 yX7_isPlate wsX7_isPlate) := goodIn_app (goodIn_of _ (by decide +kernel)) ggX7_tap_X7_isPlate
set_option maxRecDepth 20000 in
theorem ggX7_tap_X7_isTone : GoodIn wsX7_tap wsX7_isTone := goodIn_r _ [14] (by decide +kernel) (by decide +kernel)
set_option maxRecDepth 20000 in
theorem gX7_tap_X7_isTone : GoodIn wsX7_tap (va_wsS RX7 99 yX7_isTone wsX7_isTone) := goodIn_app (goodIn_of _ (by decide +kernel)) ggX7_tap_X7_isTone
set_option maxRecDepth 20000 in
theorem ggX7_tap_X7_isSpan : GoodIn wsX7_tap wsX7_isSpan := goodIn_r _ [17, 18, 19, 9, 20] (by decide +kernel) (by decide +kernel)
set_option maxRecDepth 20000 in
theorem gX7_tap_X7_isSpan : GoodIn wsX7_tap (va_wsS RX7 121 yX7_isSpan wsX7_isSpan) := goodIn_app (goodIn_of _ (by decide +kernel)) ggX7_tap_X7_isSpan
set_option maxRecDepth 20000 in
theorem ggX7_tap_X2_addTap : GoodIn wsX7_tap wsX2_addTap := goodIn_r _ [25, 26, 27, 28, 29, 30, 31, 32, 33, 34, 35, 36, 37, 38, 39, 40, 41, 42, 43, 44, 45, 46, 24, 47, 48, 49, 50, 51, 52, 53, 54, 55, 56, 57, 58, 59, 60, 61, 62, 63, 64, 65, 66, 67, 68, 69, 70, 71, 72, 73, 74, 75, 92, 93, 94, 95, 96, 97, 98, 102, 103, 104] (by decide +kernel) (by decide +kernel)
set_option maxRecDepth 20000 in
theorem gX7_tap_X2_addTap : GoodIn wsX7_tap (wsV RX7 127 RX2 yX2_addTap wsX2_addTap) := goodIn_app (goodIn_of _ (by decide +kernel)) ggX7_tap_X2_addTap
set_option maxRecDepth 20000 in
theorem ggX7_tap_X3_forget : GoodIn wsX7_tap wsX3_forget := goodIn_r _ [80, 81, 105, 106, 107, 108, 109] (by decide +kernel) (by decide +kernel)
set_option maxRecDepth 20000 in
theorem gX7_tap_X3_forget : GoodIn wsX7_tap (wsV RX7 78 RX3 yX3_forget wsX3_forget) := goodIn_app (goodIn_of _ (by decide +kernel)) ggX7_tap_X3_forget
theorem dX7_tap_0 : decode cX7_tap 0 = .ok (.aload_n 0, 1) := by decide +kernel
theorem dX7_tap_1 : decode cX7_tap 1 = .ok (.iload_n 1, 1) := by decide +kernel
theorem dX7_tap_2 : decode cX7_tap 2 = .ok (.invokevirtual 69, 3) := by decide +kernel
theorem dX7_tap_5 : decode cX7_tap 5 = .ok (.ifCond .eq 19, 3) := by decide +kernel
theorem dX7_tap_8 : decode cX7_tap 8 = .ok (.iload_n 2, 1) := by decide +kernel
theorem dX7_tap_9 : decode cX7_tap 9 = .ok (.invokestatic 99, 3) := by decide +kernel
theorem dX7_tap_12 : decode cX7_tap 12 = .ok (.ifCond .eq 12, 3) := by decide +kernel
theorem dX7_tap_15 : decode cX7_tap 15 = .ok (.iload_n 3, 1) := by decide +kernel
theorem dX7_tap_16 : decode cX7_tap 16 = .ok (.iload 4, 2) := by decide +kernel
theorem dX7_tap_18 : decode cX7_tap 18 = .ok (.invokestatic 121, 3) := by decide +kernel
theorem dX7_tap_21 : decode cX7_tap 21 = .ok (.ifCond .ne 6, 3) := by decide +kernel
theorem dX7_tap_24 : decode cX7_tap 24 = .ok (.bipush (-2), 2) := by decide +kernel
theorem dX7_tap_26 : decode cX7_tap 26 = .ok (.ireturn, 1) := by decide +kernel
theorem dX7_tap_27 : decode cX7_tap 27 = .ok (.aload_n 0, 1) := by decide +kernel
theorem dX7_tap_28 : decode cX7_tap 28 = .ok (.getfield 18, 3) := by decide +kernel
theorem dX7_tap_31 : decode cX7_tap 31 = .ok (.getfield 124, 3) := by decide +kernel
theorem dX7_tap_34 : decode cX7_tap 34 = .ok (.bipush 12, 2) := by decide +kernel
theorem dX7_tap_36 : decode cX7_tap 36 = .ok (.if_icmp .lt 6, 3) := by decide +kernel
theorem dX7_tap_39 : decode cX7_tap 39 = .ok (.bipush (-4), 2) := by decide +kernel
theorem dX7_tap_41 : decode cX7_tap 41 = .ok (.ireturn, 1) := by decide +kernel
theorem dX7_tap_42 : decode cX7_tap 42 = .ok (.aload_n 0, 1) := by decide +kernel
theorem dX7_tap_43 : decode cX7_tap 43 = .ok (.getfield 18, 3) := by decide +kernel
theorem dX7_tap_46 : decode cX7_tap 46 = .ok (.aload_n 0, 1) := by decide +kernel
theorem dX7_tap_47 : decode cX7_tap 47 = .ok (.getfield 11, 3) := by decide +kernel
theorem dX7_tap_50 : decode cX7_tap 50 = .ok (.iload_n 1, 1) := by decide +kernel
theorem dX7_tap_51 : decode cX7_tap 51 = .ok (.aaload, 1) := by decide +kernel
theorem dX7_tap_52 : decode cX7_tap 52 = .ok (.getfield 75, 3) := by decide +kernel
theorem dX7_tap_55 : decode cX7_tap 55 = .ok (.iload_n 2, 1) := by decide +kernel
theorem dX7_tap_56 : decode cX7_tap 56 = .ok (.iload_n 3, 1) := by decide +kernel
theorem dX7_tap_57 : decode cX7_tap 57 = .ok (.iload 4, 2) := by decide +kernel
theorem dX7_tap_59 : decode cX7_tap 59 = .ok (.invokevirtual 127, 3) := by decide +kernel
theorem dX7_tap_62 : decode cX7_tap 62 = .ok (.aload_n 0, 1) := by decide +kernel
theorem dX7_tap_63 : decode cX7_tap 63 = .ok (.getfield 32, 3) := by decide +kernel
theorem dX7_tap_66 : decode cX7_tap 66 = .ok (.invokevirtual 78, 3) := by decide +kernel
theorem dX7_tap_69 : decode cX7_tap 69 = .ok (.aload_n 0, 1) := by decide +kernel
theorem dX7_tap_70 : decode cX7_tap 70 = .ok (.getfield 18, 3) := by decide +kernel
theorem dX7_tap_73 : decode cX7_tap 73 = .ok (.getfield 124, 3) := by decide +kernel
theorem dX7_tap_76 : decode cX7_tap 76 = .ok (.iconst 1, 1) := by decide +kernel
theorem dX7_tap_77 : decode cX7_tap 77 = .ok (.isub, 1) := by decide +kernel
theorem dX7_tap_78 : decode cX7_tap 78 = .ok (.ireturn, 1) := by decide +kernel
set_option maxRecDepth 20000 in
theorem ggX7_untap_X2_dropTap : GoodIn wsX7_untap wsX2_dropTap := goodIn_r _ [8, 9, 10, 11, 12, 13, 7, 14, 15, 16, 17, 18, 19, 20, 21, 22, 23, 24, 25, 26, 27, 28, 29, 30, 31, 32, 33, 34, 35, 36, 37, 38, 39, 40, 41, 42, 43, 60, 61, 62, 63, 64, 65, 66, 67, 68, 69] (by decide +kernel) (by decide +kernel)
set_option maxRecDepth 20000 in
theorem gX7_untap_X2_dropTap : GoodIn wsX7_untap (wsV RX7 131 RX2 yX2_dropTap wsX2_dropTap) := goodIn_app (goodIn_of _ (by decide +kernel)) ggX7_untap_X2_dropTap
set_option maxRecDepth 20000 in
theorem ggX7_untap_X3_forget : GoodIn wsX7_untap wsX3_forget := goodIn_r _ [48, 49, 70, 71, 72, 73, 74] (by decide +kernel) (by decide +kernel)
set_option maxRecDepth 20000 in
theorem gX7_untap_X3_forget : GoodIn wsX7_untap (wsV RX7 78 RX3 yX3_forget wsX3_forget) := goodIn_app (goodIn_of _ (by decide +kernel)) ggX7_untap_X3_forget
theorem dX7_untap_0 : decode cX7_untap 0 = .ok (.iload_n 1, 1) := by decide +kernel
theorem dX7_untap_1 : decode cX7_untap 1 = .ok (.ifCond .lt 14, 3) := by decide +kernel
theorem dX7_untap_4 : decode cX7_untap 4 = .ok (.iload_n 1, 1) := by decide +kernel
theorem dX7_untap_5 : decode cX7_untap 5 = .ok (.aload_n 0, 1) := by decide +kernel
theorem dX7_untap_6 : decode cX7_untap 6 = .ok (.getfield 18, 3) := by decide +kernel
theorem dX7_untap_9 : decode cX7_untap 9 = .ok (.getfield 124, 3) := by decide +kernel
theorem dX7_untap_12 : decode cX7_untap 12 = .ok (.if_icmp .lt 6, 3) := by decide +kernel
theorem dX7_untap_15 : decode cX7_untap 15 = .ok (.bipush (-2), 2) := by decide +kernel
theorem dX7_untap_17 : decode cX7_untap 17 = .ok (.ireturn, 1) := by decide +kernel
theorem dX7_untap_18 : decode cX7_untap 18 = .ok (.aload_n 0, 1) := by decide +kernel
theorem dX7_untap_19 : decode cX7_untap 19 = .ok (.getfield 18, 3) := by decide +kernel
theorem dX7_untap_22 : decode cX7_untap 22 = .ok (.iload_n 1, 1) := by decide +kernel
theorem dX7_untap_23 : decode cX7_untap 23 = .ok (.invokevirtual 131, 3) := by decide +kernel
theorem dX7_untap_26 : decode cX7_untap 26 = .ok (.aload_n 0, 1) := by decide +kernel
theorem dX7_untap_27 : decode cX7_untap 27 = .ok (.getfield 32, 3) := by decide +kernel
theorem dX7_untap_30 : decode cX7_untap 30 = .ok (.invokevirtual 78, 3) := by decide +kernel
theorem dX7_untap_33 : decode cX7_untap 33 = .ok (.iconst 1, 1) := by decide +kernel
theorem dX7_untap_34 : decode cX7_untap 34 = .ok (.ireturn, 1) := by decide +kernel
theorem dX7_woods_0 : decode cX7_woods 0 = .ok (.aload_n 0, 1) := by decide +kernel
theorem dX7_woods_1 : decode cX7_woods 1 = .ok (.getfield 18, 3) := by decide +kernel
theorem dX7_woods_4 : decode cX7_woods 4 = .ok (.getfield 134, 3) := by decide +kernel
theorem dX7_woods_7 : decode cX7_woods 7 = .ok (.ireturn, 1) := by decide +kernel
set_option maxRecDepth 20000 in
theorem ggX7_wood_X7_isOneOfTwo : GoodIn wsX7_wood wsX7_isOneOfTwo := goodIn_r _ [8] (by decide +kernel) (by decide +kernel)
set_option maxRecDepth 20000 in
theorem gX7_wood_X7_isOneOfTwo : GoodIn wsX7_wood (va_wsS RX7 137 yX7_isOneOfTwo wsX7_isOneOfTwo) := goodIn_app (goodIn_of _ (by decide +kernel)) ggX7_wood_X7_isOneOfTwo
theorem dX7_wood_0 : decode cX7_wood 0 = .ok (.iload_n 1, 1) := by decide +kernel
theorem dX7_wood_1 : decode cX7_wood 1 = .ok (.ifCond .lt 21, 3) := by decide +kernel
theorem dX7_wood_4 : decode cX7_wood 4 = .ok (.iload_n 1, 1) := by decide +kernel
theorem dX7_wood_5 : decode cX7_wood 5 = .ok (.aload_n 0, 1) := by decide +kernel
theorem dX7_wood_6 : decode cX7_wood 6 = .ok (.getfield 18, 3) := by decide +kernel
theorem dX7_wood_9 : decode cX7_wood 9 = .ok (.getfield 134, 3) := by decide +kernel
theorem dX7_wood_12 : decode cX7_wood 12 = .ok (.if_icmp .ge 10, 3) := by decide +kernel
theorem dX7_wood_15 : decode cX7_wood 15 = .ok (.iload_n 2, 1) := by decide +kernel
theorem dX7_wood_16 : decode cX7_wood 16 = .ok (.invokestatic 137, 3) := by decide +kernel
theorem dX7_wood_19 : decode cX7_wood 19 = .ok (.ifCond .ne 6, 3) := by decide +kernel
theorem dX7_wood_22 : decode cX7_wood 22 = .ok (.bipush (-2), 2) := by decide +kernel
theorem dX7_wood_24 : decode cX7_wood 24 = .ok (.ireturn, 1) := by decide +kernel
theorem dX7_wood_25 : decode cX7_wood 25 = .ok (.iload_n 2, 1) := by decide +kernel
theorem dX7_wood_26 : decode cX7_wood 26 = .ok (.ifCond .ne 15, 3) := by decide +kernel
theorem dX7_wood_29 : decode cX7_wood 29 = .ok (.aload_n 0, 1) := by decide +kernel
theorem dX7_wood_30 : decode cX7_wood 30 = .ok (.getfield 18, 3) := by decide +kernel
theorem dX7_wood_33 : decode cX7_wood 33 = .ok (.getfield 140, 3) := by decide +kernel
theorem dX7_wood_36 : decode cX7_wood 36 = .ok (.iload_n 1, 1) := by decide +kernel
theorem dX7_wood_37 : decode cX7_wood 37 = .ok (.iaload, 1) := by decide +kernel
theorem dX7_wood_38 : decode cX7_wood 38 = .ok (.goto 12, 3) := by decide +kernel
theorem dX7_wood_41 : decode cX7_wood 41 = .ok (.aload_n 0, 1) := by decide +kernel
theorem dX7_wood_42 : decode cX7_wood 42 = .ok (.getfield 18, 3) := by decide +kernel
theorem dX7_wood_45 : decode cX7_wood 45 = .ok (.getfield 143, 3) := by decide +kernel
theorem dX7_wood_48 : decode cX7_wood 48 = .ok (.iload_n 1, 1) := by decide +kernel
theorem dX7_wood_49 : decode cX7_wood 49 = .ok (.iaload, 1) := by decide +kernel
theorem dX7_wood_50 : decode cX7_wood 50 = .ok (.ireturn, 1) := by decide +kernel
set_option maxRecDepth 20000 in
theorem ggX7_span_X7_isPlate : GoodIn wsX7_span wsX7_isPlate := goodIn_r _ [10, 11, 53, 54, 55, 56, 57, 58, 59, 60, 61, 62] (by decide +kernel) (by decide +kernel)
set_option maxRecDepth 20000 in
theorem gX7_span_X7_isPlate : GoodIn wsX7_span (wsV RX7 69 RX7 yX7_isPlate wsX7_isPlate) := goodIn_app (goodIn_of _ (by decide +kernel)) ggX7_span_X7_isPlate
set_option maxRecDepth 20000 in
theorem ggX7_span_X7_isTone : GoodIn wsX7_span wsX7_isTone := goodIn_r _ [14] (by decide +kernel) (by decide +kernel)
set_option maxRecDepth 20000 in
theorem gX7_span_X7_isTone : GoodIn wsX7_span (va_wsS RX7 99 yX7_isTone wsX7_isTone) := goodIn_app (goodIn_of _ (by decide +kernel)) ggX7_span_X7_isTone
set_option maxRecDepth 20000 in
theorem ggX7_span_X7_isOneOfTwo : GoodIn wsX7_span wsX7_isOneOfTwo := goodIn_r _ [17] (by decide +kernel) (by decide +kernel)
set_option maxRecDepth 20000 in
theorem gX7_span_X7_isOneOfTwo : GoodIn wsX7_span (va_wsS RX7 137 yX7_isOneOfTwo wsX7_isOneOfTwo) := goodIn_app (goodIn_of _ (by decide +kernel)) ggX7_span_X7_isOneOfTwo
set_option maxRecDepth 20000 in
theorem ggX7_span_X5_fillWholeValues : GoodIn wsX7_span wsX5_fillWholeValues := goodIn_r _ [21, 22, 23, 20, 24, 25, 26, 27, 28, 29, 30] (by decide +kernel) (by decide +kernel)
set_option maxRecDepth 20000 in
theorem gX7_span_X5_fillWholeValues : GoodIn wsX7_span (va_wsS RX7 146 yX5_fillWholeValues wsX5_fillWholeValues) := goodIn_app (goodIn_of _ (by decide +kernel)) ggX7_span_X5_fillWholeValues
set_option maxRecDepth 20000 in
theorem ggX7_span_X2_leastTone : GoodIn wsX7_span wsX2_leastTone := goodIn_r _ [35, 36, 37, 38, 39, 40, 41, 42, 43, 20, 44, 63, 64, 65, 66, 67, 68, 69] (by decide +kernel) (by decide +kernel)
set_option maxRecDepth 20000 in
theorem gX7_span_X2_leastTone : GoodIn wsX7_span (wsV RX7 150 RX2 yX2_leastTone wsX2_leastTone) := goodIn_app (goodIn_of _ (by decide +kernel)) ggX7_span_X2_leastTone
set_option maxRecDepth 20000 in
theorem ggX7_span_X2_greatestTone : GoodIn wsX7_span wsX2_greatestTone := goodIn_r _ [48, 49, 50, 51, 40, 52, 42, 43, 20, 44, 63, 64, 65, 66, 67, 68, 69] (by decide +kernel) (by decide +kernel)
set_option maxRecDepth 20000 in
theorem gX7_span_X2_greatestTone : GoodIn wsX7_span (wsV RX7 154 RX2 yX2_greatestTone wsX2_greatestTone) := goodIn_app (goodIn_of _ (by decide +kernel)) ggX7_span_X2_greatestTone
theorem dX7_span_0 : decode cX7_span 0 = .ok (.aload_n 0, 1) := by decide +kernel
theorem dX7_span_1 : decode cX7_span 1 = .ok (.iload_n 1, 1) := by decide +kernel
theorem dX7_span_2 : decode cX7_span 2 = .ok (.invokevirtual 69, 3) := by decide +kernel
theorem dX7_span_5 : decode cX7_span 5 = .ok (.ifCond .eq 17, 3) := by decide +kernel
theorem dX7_span_8 : decode cX7_span 8 = .ok (.iload_n 2, 1) := by decide +kernel
theorem dX7_span_9 : decode cX7_span 9 = .ok (.invokestatic 99, 3) := by decide +kernel
theorem dX7_span_12 : decode cX7_span 12 = .ok (.ifCond .eq 10, 3) := by decide +kernel
theorem dX7_span_15 : decode cX7_span 15 = .ok (.iload_n 3, 1) := by decide +kernel
theorem dX7_span_16 : decode cX7_span 16 = .ok (.invokestatic 137, 3) := by decide +kernel
theorem dX7_span_19 : decode cX7_span 19 = .ok (.ifCond .ne 6, 3) := by decide +kernel
theorem dX7_span_22 : decode cX7_span 22 = .ok (.bipush (-2), 2) := by decide +kernel
theorem dX7_span_24 : decode cX7_span 24 = .ok (.ireturn, 1) := by decide +kernel
theorem dX7_span_25 : decode cX7_span 25 = .ok (.aload_n 0, 1) := by decide +kernel
theorem dX7_span_26 : decode cX7_span 26 = .ok (.getfield 18, 3) := by decide +kernel
theorem dX7_span_29 : decode cX7_span 29 = .ok (.getfield 134, 3) := by decide +kernel
theorem dX7_span_32 : decode cX7_span 32 = .ok (.ifCond .ne 6, 3) := by decide +kernel
theorem dX7_span_35 : decode cX7_span 35 = .ok (.bipush (-3), 2) := by decide +kernel
theorem dX7_span_37 : decode cX7_span 37 = .ok (.ireturn, 1) := by decide +kernel
theorem dX7_span_38 : decode cX7_span 38 = .ok (.aload_n 0, 1) := by decide +kernel
theorem dX7_span_39 : decode cX7_span 39 = .ok (.getfield 43, 3) := by decide +kernel
theorem dX7_span_42 : decode cX7_span 42 = .ok (.aload_n 0, 1) := by decide +kernel
theorem dX7_span_43 : decode cX7_span 43 = .ok (.getfield 11, 3) := by decide +kernel
theorem dX7_span_46 : decode cX7_span 46 = .ok (.iload_n 1, 1) := by decide +kernel
theorem dX7_span_47 : decode cX7_span 47 = .ok (.aaload, 1) := by decide +kernel
theorem dX7_span_48 : decode cX7_span 48 = .ok (.getfield 75, 3) := by decide +kernel
theorem dX7_span_51 : decode cX7_span 51 = .ok (.iload_n 2, 1) := by decide +kernel
theorem dX7_span_52 : decode cX7_span 52 = .ok (.invokestatic 146, 3) := by decide +kernel
theorem dX7_span_55 : decode cX7_span 55 = .ok (.iload_n 3, 1) := by decide +kernel
theorem dX7_span_56 : decode cX7_span 56 = .ok (.ifCond .ne 17, 3) := by decide +kernel
theorem dX7_span_59 : decode cX7_span 59 = .ok (.aload_n 0, 1) := by decide +kernel
theorem dX7_span_60 : decode cX7_span 60 = .ok (.getfield 18, 3) := by decide +kernel
theorem dX7_span_63 : decode cX7_span 63 = .ok (.aload_n 0, 1) := by decide +kernel
theorem dX7_span_64 : decode cX7_span 64 = .ok (.getfield 43, 3) := by decide +kernel
theorem dX7_span_67 : decode cX7_span 67 = .ok (.invokevirtual 150, 3) := by decide +kernel
theorem dX7_span_70 : decode cX7_span 70 = .ok (.goto 14, 3) := by decide +kernel
theorem dX7_span_73 : decode cX7_span 73 = .ok (.aload_n 0, 1) := by decide +kernel
theorem dX7_span_74 : decode cX7_span 74 = .ok (.getfield 18, 3) := by decide +kernel
theorem dX7_span_77 : decode cX7_span 77 = .ok (.aload_n 0, 1) := by decide +kernel
theorem dX7_span_78 : decode cX7_span 78 = .ok (.getfield 43, 3) := by decide +kernel
theorem dX7_span_81 : decode cX7_span 81 = .ok (.invokevirtual 154, 3) := by decide +kernel
theorem dX7_span_84 : decode cX7_span 84 = .ok (.ireturn, 1) := by decide +kernel
set_option maxRecDepth 20000 in
theorem ggX7_next_X7_isPlate : GoodIn wsX7_next wsX7_isPlate := goodIn_r _ [11, 12, 54, 55, 56, 57, 58, 59, 60, 61, 62, 63] (by decide +kernel) (by decide +kernel)
set_option maxRecDepth 20000 in
theorem gX7_next_X7_isPlate : GoodIn wsX7_next (wsV RX7 69 RX7 yX7_isPlate wsX7_isPlate) := goodIn_app (goodIn_of _ (by decide +kernel)) ggX7_next_X7_isPlate
set_option maxRecDepth 20000 in
theorem ggX7_next_X7_isOneOfTwo : GoodIn wsX7_next wsX7_isOneOfTwo := goodIn_r _ [15] (by decide +kernel) (by decide +kernel)
set_option maxRecDepth 20000 in
theorem gX7_next_X7_isOneOfTwo : GoodIn wsX7_next (va_wsS RX7 137 yX7_isOneOfTwo wsX7_isOneOfTwo) := goodIn_app (goodIn_of _ (by decide +kernel)) ggX7_next_X7_isOneOfTwo
set_option maxRecDepth 20000 in
theorem ggX7_next_X5_fillWholeValues : GoodIn wsX7_next wsX5_fillWholeValues := goodIn_r _ [19, 20, 21, 18, 22, 23, 24, 25, 26, 27, 28] (by decide +kernel) (by decide +kernel)
set_option maxRecDepth 20000 in
theorem gX7_next_X5_fillWholeValues : GoodIn wsX7_next (va_wsS RX7 146 yX5_fillWholeValues wsX5_fillWholeValues) := goodIn_app (goodIn_of _ (by decide +kernel)) ggX7_next_X5_fillWholeValues
set_option maxRecDepth 20000 in
theorem ggX7_next_X1_greatest : GoodIn wsX7_next wsX1_greatest := goodIn_r _ [33, 34, 35, 36, 37, 38, 39, 40, 41, 42, 43, 44, 45, 46, 47, 48, 49, 50, 51, 52, 18, 53, 74, 64, 65, 66, 67, 68, 69, 70] (by decide +kernel) (by decide +kernel)
set_option maxRecDepth 20000 in
theorem gX7_next_X1_greatest : GoodIn wsX7_next (wsV RX7 157 RX1 yX1_greatest wsX1_greatest) := goodIn_app (goodIn_of _ (by decide +kernel)) ggX7_next_X1_greatest
theorem dX7_next_0 : decode cX7_next 0 = .ok (.aload_n 0, 1) := by decide +kernel
theorem dX7_next_1 : decode cX7_next 1 = .ok (.iload_n 1, 1) := by decide +kernel
theorem dX7_next_2 : decode cX7_next 2 = .ok (.invokevirtual 69, 3) := by decide +kernel
theorem dX7_next_5 : decode cX7_next 5 = .ok (.ifCond .eq 10, 3) := by decide +kernel
theorem dX7_next_8 : decode cX7_next 8 = .ok (.iload_n 2, 1) := by decide +kernel
theorem dX7_next_9 : decode cX7_next 9 = .ok (.invokestatic 137, 3) := by decide +kernel
theorem dX7_next_12 : decode cX7_next 12 = .ok (.ifCond .ne 6, 3) := by decide +kernel
theorem dX7_next_15 : decode cX7_next 15 = .ok (.bipush (-2), 2) := by decide +kernel
theorem dX7_next_17 : decode cX7_next 17 = .ok (.ireturn, 1) := by decide +kernel
theorem dX7_next_18 : decode cX7_next 18 = .ok (.aload_n 0, 1) := by decide +kernel
theorem dX7_next_19 : decode cX7_next 19 = .ok (.getfield 18, 3) := by decide +kernel
theorem dX7_next_22 : decode cX7_next 22 = .ok (.getfield 134, 3) := by decide +kernel
theorem dX7_next_25 : decode cX7_next 25 = .ok (.ifCond .ne 6, 3) := by decide +kernel
theorem dX7_next_28 : decode cX7_next 28 = .ok (.bipush (-3), 2) := by decide +kernel
theorem dX7_next_30 : decode cX7_next 30 = .ok (.ireturn, 1) := by decide +kernel
theorem dX7_next_31 : decode cX7_next 31 = .ok (.iconst 0, 1) := by decide +kernel
theorem dX7_next_32 : decode cX7_next 32 = .ok (.istore_n 3, 1) := by decide +kernel
theorem dX7_next_33 : decode cX7_next 33 = .ok (.aload_n 0, 1) := by decide +kernel
theorem dX7_next_34 : decode cX7_next 34 = .ok (.getfield 18, 3) := by decide +kernel
theorem dX7_next_37 : decode cX7_next 37 = .ok (.getfield 134, 3) := by decide +kernel
theorem dX7_next_40 : decode cX7_next 40 = .ok (.iconst 1, 1) := by decide +kernel
theorem dX7_next_41 : decode cX7_next 41 = .ok (.iadd, 1) := by decide +kernel
theorem dX7_next_42 : decode cX7_next 42 = .ok (.istore 4, 2) := by decide +kernel
theorem dX7_next_44 : decode cX7_next 44 = .ok (.iconst 0, 1) := by decide +kernel
theorem dX7_next_45 : decode cX7_next 45 = .ok (.istore 5, 2) := by decide +kernel
theorem dX7_next_47 : decode cX7_next 47 = .ok (.iload 5, 2) := by decide +kernel
theorem dX7_next_49 : decode cX7_next 49 = .ok (.iconst 4, 1) := by decide +kernel
theorem dX7_next_50 : decode cX7_next 50 = .ok (.if_icmp .ge 58, 3) := by decide +kernel
theorem dX7_next_53 : decode cX7_next 53 = .ok (.aload_n 0, 1) := by decide +kernel
theorem dX7_next_54 : decode cX7_next 54 = .ok (.getfield 43, 3) := by decide +kernel
theorem dX7_next_57 : decode cX7_next 57 = .ok (.aload_n 0, 1) := by decide +kernel
theorem dX7_next_58 : decode cX7_next 58 = .ok (.getfield 11, 3) := by decide +kernel
theorem dX7_next_61 : decode cX7_next 61 = .ok (.iload_n 1, 1) := by decide +kernel
theorem dX7_next_62 : decode cX7_next 62 = .ok (.aaload, 1) := by decide +kernel
theorem dX7_next_63 : decode cX7_next 63 = .ok (.getfield 75, 3) := by decide +kernel
theorem dX7_next_66 : decode cX7_next 66 = .ok (.iload 5, 2) := by decide +kernel
theorem dX7_next_68 : decode cX7_next 68 = .ok (.invokestatic 146, 3) := by decide +kernel
theorem dX7_next_71 : decode cX7_next 71 = .ok (.aload_n 0, 1) := by decide +kernel
theorem dX7_next_72 : decode cX7_next 72 = .ok (.getfield 39, 3) := by decide +kernel
theorem dX7_next_75 : decode cX7_next 75 = .ok (.aload_n 0, 1) := by decide +kernel
theorem dX7_next_76 : decode cX7_next 76 = .ok (.getfield 18, 3) := by decide +kernel
theorem dX7_next_79 : decode cX7_next 79 = .ok (.aload_n 0, 1) := by decide +kernel
theorem dX7_next_80 : decode cX7_next 80 = .ok (.getfield 43, 3) := by decide +kernel
theorem dX7_next_83 : decode cX7_next 83 = .ok (.invokevirtual 157, 3) := by decide +kernel
theorem dX7_next_86 : decode cX7_next 86 = .ok (.istore 6, 2) := by decide +kernel
theorem dX7_next_88 : decode cX7_next 88 = .ok (.iload 6, 2) := by decide +kernel
theorem dX7_next_90 : decode cX7_next 90 = .ok (.iload 4, 2) := by decide +kernel
theorem dX7_next_92 : decode cX7_next 92 = .ok (.if_icmp .ge 10, 3) := by decide +kernel
theorem dX7_next_95 : decode cX7_next 95 = .ok (.iload 6, 2) := by decide +kernel
theorem dX7_next_97 : decode cX7_next 97 = .ok (.istore 4, 2) := by decide +kernel
theorem dX7_next_99 : decode cX7_next 99 = .ok (.iload 5, 2) := by decide +kernel
theorem dX7_next_101 : decode cX7_next 101 = .ok (.istore_n 3, 1) := by decide +kernel
theorem dX7_next_102 : decode cX7_next 102 = .ok (.iinc 5 1, 3) := by decide +kernel
theorem dX7_next_105 : decode cX7_next 105 = .ok (.goto (-58), 3) := by decide +kernel
theorem dX7_next_108 : decode cX7_next 108 = .ok (.iload_n 2, 1) := by decide +kernel
theorem dX7_next_109 : decode cX7_next 109 = .ok (.ifCond .ne 7, 3) := by decide +kernel
theorem dX7_next_112 : decode cX7_next 112 = .ok (.iload_n 3, 1) := by decide +kernel
theorem dX7_next_113 : decode cX7_next 113 = .ok (.goto 5, 3) := by decide +kernel
theorem dX7_next_116 : decode cX7_next 116 = .ok (.iload 4, 2) := by decide +kernel
theorem dX7_next_118 : decode cX7_next 118 = .ok (.ireturn, 1) := by decide +kernel
set_option maxRecDepth 20000 in
theorem ggX7_aim_X7_isTone : GoodIn wsX7_aim wsX7_isTone := goodIn_r _ [6] (by decide +kernel) (by decide +kernel)
set_option maxRecDepth 20000 in
theorem gX7_aim_X7_isTone : GoodIn wsX7_aim (va_wsS RX7 99 yX7_isTone wsX7_isTone) := goodIn_app (goodIn_of _ (by decide +kernel)) ggX7_aim_X7_isTone
set_option maxRecDepth 20000 in
theorem ggX7_aim_X7_isSpan : GoodIn wsX7_aim wsX7_isSpan := goodIn_r _ [9, 10, 11, 5, 12] (by decide +kernel) (by decide +kernel)
set_option maxRecDepth 20000 in
theorem gX7_aim_X7_isSpan : GoodIn wsX7_aim (va_wsS RX7 121 yX7_isSpan wsX7_isSpan) := goodIn_app (goodIn_of _ (by decide +kernel)) ggX7_aim_X7_isSpan
set_option maxRecDepth 20000 in
theorem ggX7_aim_X0_put : GoodIn wsX7_aim wsX0_put := goodIn_r _ [17, 18, 19, 20, 4, 5, 6, 37, 38, 39] (by decide +kernel) (by decide +kernel)
set_option maxRecDepth 20000 in
theorem gX7_aim_X0_put : GoodIn wsX7_aim (wsV RX7 161 RX0 yX0_put wsX0_put) := goodIn_app (goodIn_of _ (by decide +kernel)) ggX7_aim_X0_put
set_option maxRecDepth 20000 in
theorem ggX7_aim_X3_forget : GoodIn wsX7_aim wsX3_forget := goodIn_r _ [25, 26, 40, 41, 42, 43, 44] (by decide +kernel) (by decide +kernel)
set_option maxRecDepth 20000 in
theorem gX7_aim_X3_forget : GoodIn wsX7_aim (wsV RX7 78 RX3 yX3_forget wsX3_forget) := goodIn_app (goodIn_of _ (by decide +kernel)) ggX7_aim_X3_forget
theorem dX7_aim_0 : decode cX7_aim 0 = .ok (.iload_n 1, 1) := by decide +kernel
theorem dX7_aim_1 : decode cX7_aim 1 = .ok (.invokestatic 99, 3) := by decide +kernel
theorem dX7_aim_4 : decode cX7_aim 4 = .ok (.ifCond .eq 11, 3) := by decide +kernel
theorem dX7_aim_7 : decode cX7_aim 7 = .ok (.iload_n 2, 1) := by decide +kernel
theorem dX7_aim_8 : decode cX7_aim 8 = .ok (.iload_n 3, 1) := by decide +kernel
theorem dX7_aim_9 : decode cX7_aim 9 = .ok (.invokestatic 121, 3) := by decide +kernel
theorem dX7_aim_12 : decode cX7_aim 12 = .ok (.ifCond .ne 6, 3) := by decide +kernel
theorem dX7_aim_15 : decode cX7_aim 15 = .ok (.bipush (-2), 2) := by decide +kernel
theorem dX7_aim_17 : decode cX7_aim 17 = .ok (.ireturn, 1) := by decide +kernel
theorem dX7_aim_18 : decode cX7_aim 18 = .ok (.aload_n 0, 1) := by decide +kernel
theorem dX7_aim_19 : decode cX7_aim 19 = .ok (.getfield 25, 3) := by decide +kernel
theorem dX7_aim_22 : decode cX7_aim 22 = .ok (.iload_n 1, 1) := by decide +kernel
theorem dX7_aim_23 : decode cX7_aim 23 = .ok (.iload_n 2, 1) := by decide +kernel
theorem dX7_aim_24 : decode cX7_aim 24 = .ok (.iload_n 3, 1) := by decide +kernel
theorem dX7_aim_25 : decode cX7_aim 25 = .ok (.invokevirtual 161, 3) := by decide +kernel
theorem dX7_aim_28 : decode cX7_aim 28 = .ok (.aload_n 0, 1) := by decide +kernel
theorem dX7_aim_29 : decode cX7_aim 29 = .ok (.getfield 32, 3) := by decide +kernel
theorem dX7_aim_32 : decode cX7_aim 32 = .ok (.invokevirtual 78, 3) := by decide +kernel
theorem dX7_aim_35 : decode cX7_aim 35 = .ok (.iconst 1, 1) := by decide +kernel
theorem dX7_aim_36 : decode cX7_aim 36 = .ok (.ireturn, 1) := by decide +kernel
set_option maxRecDepth 20000 in
theorem ggX7_aimless_X0_spans : GoodIn wsX7_aimless wsX0_spans := goodIn_r _ [7, 8, 29, 30, 31] (by decide +kernel) (by decide +kernel)
set_option maxRecDepth 20000 in
theorem gX7_aimless_X0_spans : GoodIn wsX7_aimless (wsV RX7 165 RX0 yX0_spans wsX0_spans) := goodIn_app (goodIn_of _ (by decide +kernel)) ggX7_aimless_X0_spans
set_option maxRecDepth 20000 in
theorem ggX7_aimless_X0_clear : GoodIn wsX7_aimless wsX0_clear := goodIn_r _ [12, 8, 29, 30, 31] (by decide +kernel) (by decide +kernel)
set_option maxRecDepth 20000 in
theorem gX7_aimless_X0_clear : GoodIn wsX7_aimless (wsV RX7 168 RX0 yX0_clear wsX0_clear) := goodIn_app (goodIn_of _ (by decide +kernel)) ggX7_aimless_X0_clear
set_option maxRecDepth 20000 in
theorem ggX7_aimless_X3_forget : GoodIn wsX7_aimless wsX3_forget := goodIn_r _ [17, 18, 32, 33, 34, 35, 36] (by decide +kernel) (by decide +kernel)
set_option maxRecDepth 20000 in
theorem gX7_aimless_X3_forget : GoodIn wsX7_aimless (wsV RX7 78 RX3 yX3_forget wsX3_forget) := goodIn_app (goodIn_of _ (by decide +kernel)) ggX7_aimless_X3_forget
theorem dX7_aimless_0 : decode cX7_aimless 0 = .ok (.aload_n 0, 1) := by decide +kernel
end
section
theorem dX7_aimless_1 : decode cX7_aimless 1 = .ok (.getfield 25, 3) := by decide +kernel
theorem dX7_aimless_4 : decode cX7_aimless 4 = .ok (.invokevirtual 165, 3) := by decide +kernel
theorem dX7_aimless_7 : decode cX7_aimless 7 = .ok (.istore_n 1, 1) := by decide +kernel
theorem dX7_aimless_8 : decode cX7_aimless 8 = .ok (.aload_n 0, 1) := by decide +kernel
theorem dX7_aimless_9 : decode cX7_aimless 9 = .ok (.getfield 25, 3) := by decide +kernel
theorem dX7_aimless_12 : decode cX7_aimless 12 = .ok (.invokevirtual 168, 3) := by decide +kernel
theorem dX7_aimless_15 : decode cX7_aimless 15 = .ok (.aload_n 0, 1) := by decide +kernel
theorem dX7_aimless_16 : decode cX7_aimless 16 = .ok (.getfield 32, 3) := by decide +kernel
theorem dX7_aimless_19 : decode cX7_aimless 19 = .ok (.invokevirtual 78, 3) := by decide +kernel
theorem dX7_aimless_22 : decode cX7_aimless 22 = .ok (.iload_n 1, 1) := by decide +kernel
theorem dX7_aimless_23 : decode cX7_aimless 23 = .ok (.ireturn, 1) := by decide +kernel
set_option maxRecDepth 20000 in
theorem ggX7_plan_X7_isPlate : GoodIn wsX7_plan wsX7_isPlate := goodIn_r _ [9, 10, 61, 62, 63, 64, 65, 66, 67, 68, 69, 70] (by decide +kernel) (by decide +kernel)
set_option maxRecDepth 20000 in
theorem gX7_plan_X7_isPlate : GoodIn wsX7_plan (wsV RX7 69 RX7 yX7_isPlate wsX7_isPlate) := goodIn_app (goodIn_of _ (by decide +kernel)) ggX7_plan_X7_isPlate
set_option maxRecDepth 20000 in
theorem ggX7_plan_X7_makePlan : GoodIn wsX7_plan wsX7_makePlan := goodIn_r _ [14, 3, 15, 16, 17, 18, 1, 19, 20, 21, 22, 23, 24, 25, 26, 27, 28, 29, 30, 31, 32, 33, 34, 35, 36, 37, 38, 39, 40, 41, 42, 43, 44, 45, 46, 47, 48, 49, 50, 51, 52, 53, 54, 55, 56, 57, 58, 59, 60, 61, 62, 63, 64, 65, 66, 67, 68, 69, 70, 78, 79, 80, 81, 82, 83, 84, 85, 86, 87, 88, 71, 72, 73, 74, 75, 76, 77] (by decide +kernel) (by decide +kernel)
set_option maxRecDepth 20000 in
theorem gX7_plan_X7_makePlan : GoodIn wsX7_plan (wsV RX7 171 RX7 yX7_makePlan wsX7_makePlan) := goodIn_app (goodIn_of _ (by decide +kernel)) ggX7_plan_X7_makePlan
theorem dX7_plan_0 : decode cX7_plan 0 = .ok (.aload_n 0, 1) := by decide +kernel
theorem dX7_plan_1 : decode cX7_plan 1 = .ok (.iload_n 1, 1) := by decide +kernel
theorem dX7_plan_2 : decode cX7_plan 2 = .ok (.invokevirtual 69, 3) := by decide +kernel
theorem dX7_plan_5 : decode cX7_plan 5 = .ok (.ifCond .ne 6, 3) := by decide +kernel
theorem dX7_plan_8 : decode cX7_plan 8 = .ok (.bipush (-2), 2) := by decide +kernel
theorem dX7_plan_10 : decode cX7_plan 10 = .ok (.ireturn, 1) := by decide +kernel
theorem dX7_plan_11 : decode cX7_plan 11 = .ok (.aload_n 0, 1) := by decide +kernel
theorem dX7_plan_12 : decode cX7_plan 12 = .ok (.getfield 18, 3) := by decide +kernel
theorem dX7_plan_15 : decode cX7_plan 15 = .ok (.getfield 134, 3) := by decide +kernel
theorem dX7_plan_18 : decode cX7_plan 18 = .ok (.ifCond .ne 6, 3) := by decide +kernel
theorem dX7_plan_21 : decode cX7_plan 21 = .ok (.bipush (-3), 2) := by decide +kernel
theorem dX7_plan_23 : decode cX7_plan 23 = .ok (.ireturn, 1) := by decide +kernel
theorem dX7_plan_24 : decode cX7_plan 24 = .ok (.aload_n 0, 1) := by decide +kernel
theorem dX7_plan_25 : decode cX7_plan 25 = .ok (.iload_n 1, 1) := by decide +kernel
theorem dX7_plan_26 : decode cX7_plan 26 = .ok (.invokevirtual 171, 3) := by decide +kernel
theorem dX7_plan_29 : decode cX7_plan 29 = .ok (.aload_n 0, 1) := by decide +kernel
theorem dX7_plan_30 : decode cX7_plan 30 = .ok (.getfield 32, 3) := by decide +kernel
theorem dX7_plan_33 : decode cX7_plan 33 = .ok (.getfield 174, 3) := by decide +kernel
theorem dX7_plan_36 : decode cX7_plan 36 = .ok (.ireturn, 1) := by decide +kernel
set_option maxRecDepth 20000 in
theorem ggX7_planned_X7_isPlate : GoodIn wsX7_planned wsX7_isPlate := goodIn_r _ [8, 9, 64, 65, 66, 67, 68, 69, 70, 71, 72, 73] (by decide +kernel) (by decide +kernel)
set_option maxRecDepth 20000 in
theorem gX7_planned_X7_isPlate : GoodIn wsX7_planned (wsV RX7 69 RX7 yX7_isPlate wsX7_isPlate) := goodIn_app (goodIn_of _ (by decide +kernel)) ggX7_planned_X7_isPlate
set_option maxRecDepth 20000 in
theorem ggX7_planned_X7_makePlan : GoodIn wsX7_planned wsX7_makePlan := goodIn_r _ [13, 3, 14, 15, 16, 17, 1, 18, 19, 20, 21, 22, 23, 24, 25, 26, 27, 28, 29, 30, 31, 32, 33, 34, 35, 36, 37, 38, 39, 40, 41, 42, 43, 44, 45, 46, 47, 48, 49, 50, 51, 52, 53, 54, 55, 56, 57, 58, 59, 64, 65, 66, 67, 68, 69, 70, 71, 72, 73, 81, 82, 83, 84, 85, 86, 87, 88, 89, 90, 91, 74, 75, 76, 77, 78, 79, 80] (by decide +kernel) (by decide +kernel)
set_option maxRecDepth 20000 in
theorem gX7_planned_X7_makePlan : GoodIn wsX7_planned (wsV RX7 171 RX7 yX7_makePlan wsX7_makePlan) := goodIn_app (goodIn_of _ (by decide +kernel)) ggX7_planned_X7_makePlan
set_option maxRecDepth 20000 in
theorem ggX7_planned_X3_stripOf : GoodIn wsX7_planned wsX3_stripOf := goodIn_r _ [63, 29, 42, 81, 82, 83, 84, 85] (by decide +kernel) (by decide +kernel)
set_option maxRecDepth 20000 in
theorem gX7_planned_X3_stripOf : GoodIn wsX7_planned (wsV RX7 177 RX3 yX3_stripOf wsX3_stripOf) := goodIn_app (goodIn_of _ (by decide +kernel)) ggX7_planned_X3_stripOf
theorem dX7_planned_0 : decode cX7_planned 0 = .ok (.aload_n 0, 1) := by decide +kernel
theorem dX7_planned_1 : decode cX7_planned 1 = .ok (.iload_n 1, 1) := by decide +kernel
theorem dX7_planned_2 : decode cX7_planned 2 = .ok (.invokevirtual 69, 3) := by decide +kernel
theorem dX7_planned_5 : decode cX7_planned 5 = .ok (.ifCond .eq 7, 3) := by decide +kernel
theorem dX7_planned_8 : decode cX7_planned 8 = .ok (.iload_n 2, 1) := by decide +kernel
theorem dX7_planned_9 : decode cX7_planned 9 = .ok (.ifCond .ge 6, 3) := by decide +kernel
theorem dX7_planned_12 : decode cX7_planned 12 = .ok (.bipush (-2), 2) := by decide +kernel
theorem dX7_planned_14 : decode cX7_planned 14 = .ok (.ireturn, 1) := by decide +kernel
theorem dX7_planned_15 : decode cX7_planned 15 = .ok (.aload_n 0, 1) := by decide +kernel
theorem dX7_planned_16 : decode cX7_planned 16 = .ok (.getfield 18, 3) := by decide +kernel
theorem dX7_planned_19 : decode cX7_planned 19 = .ok (.getfield 134, 3) := by decide +kernel
theorem dX7_planned_22 : decode cX7_planned 22 = .ok (.ifCond .ne 6, 3) := by decide +kernel
theorem dX7_planned_25 : decode cX7_planned 25 = .ok (.bipush (-3), 2) := by decide +kernel
theorem dX7_planned_27 : decode cX7_planned 27 = .ok (.ireturn, 1) := by decide +kernel
theorem dX7_planned_28 : decode cX7_planned 28 = .ok (.aload_n 0, 1) := by decide +kernel
theorem dX7_planned_29 : decode cX7_planned 29 = .ok (.iload_n 1, 1) := by decide +kernel
theorem dX7_planned_30 : decode cX7_planned 30 = .ok (.invokevirtual 171, 3) := by decide +kernel
theorem dX7_planned_33 : decode cX7_planned 33 = .ok (.aload_n 0, 1) := by decide +kernel
theorem dX7_planned_34 : decode cX7_planned 34 = .ok (.getfield 32, 3) := by decide +kernel
theorem dX7_planned_37 : decode cX7_planned 37 = .ok (.iload_n 2, 1) := by decide +kernel
theorem dX7_planned_38 : decode cX7_planned 38 = .ok (.invokevirtual 177, 3) := by decide +kernel
theorem dX7_planned_41 : decode cX7_planned 41 = .ok (.ireturn, 1) := by decide +kernel
set_option maxRecDepth 20000 in
theorem ggX7_carve_X7_isPlate : GoodIn wsX7_carve wsX7_isPlate := goodIn_r _ [12, 13, 82, 83, 84, 85, 86, 87, 88, 89, 90, 91] (by decide +kernel) (by decide +kernel)
set_option maxRecDepth 20000 in
theorem gX7_carve_X7_isPlate : GoodIn wsX7_carve (wsV RX7 69 RX7 yX7_isPlate wsX7_isPlate) := goodIn_app (goodIn_of _ (by decide +kernel)) ggX7_carve_X7_isPlate
set_option maxRecDepth 20000 in
theorem ggX7_carve_X7_makePlan : GoodIn wsX7_carve wsX7_makePlan := goodIn_r _ [17, 3, 18, 5, 19, 20, 1, 21, 22, 23, 24, 25, 26, 27, 28, 29, 30, 31, 32, 33, 34, 35, 36, 37, 38, 39, 40, 41, 42, 43, 44, 45, 46, 47, 48, 49, 50, 51, 52, 53, 54, 55, 56, 57, 58, 59, 60, 61, 62, 82, 83, 84, 85, 86, 87, 88, 89, 90, 91, 99, 100, 101, 102, 103, 104, 105, 106, 107, 108, 109, 92, 93, 94, 95, 96, 97, 98] (by decide +kernel) (by decide +kernel)
set_option maxRecDepth 20000 in
theorem gX7_carve_X7_makePlan : GoodIn wsX7_carve (wsV RX7 171 RX7 yX7_makePlan wsX7_makePlan) := goodIn_app (goodIn_of _ (by decide +kernel)) ggX7_carve_X7_makePlan
set_option maxRecDepth 20000 in
theorem ggX7_carve_X4_takeOffAll : GoodIn wsX7_carve wsX4_takeOffAll := goodIn_r _ [67, 68, 69, 70, 66, 71, 72, 73, 74, 75, 11, 76, 104, 105, 106] (by decide +kernel) (by decide +kernel)
set_option maxRecDepth 20000 in
theorem gX7_carve_X4_takeOffAll : GoodIn wsX7_carve (wsV RX7 184 RX4 yX4_takeOffAll wsX4_takeOffAll) := goodIn_app (goodIn_of _ (by decide +kernel)) ggX7_carve_X4_takeOffAll
set_option maxRecDepth 20000 in
theorem ggX7_carve_X3_forget : GoodIn wsX7_carve wsX3_forget := goodIn_r _ [80, 81, 99, 100, 101, 102, 103] (by decide +kernel) (by decide +kernel)
set_option maxRecDepth 20000 in
theorem gX7_carve_X3_forget : GoodIn wsX7_carve (wsV RX7 78 RX3 yX3_forget wsX3_forget) := goodIn_app (goodIn_of _ (by decide +kernel)) ggX7_carve_X3_forget
theorem dX7_carve_0 : decode cX7_carve 0 = .ok (.aload_n 0, 1) := by decide +kernel
theorem dX7_carve_1 : decode cX7_carve 1 = .ok (.iload_n 1, 1) := by decide +kernel
theorem dX7_carve_2 : decode cX7_carve 2 = .ok (.invokevirtual 69, 3) := by decide +kernel
theorem dX7_carve_5 : decode cX7_carve 5 = .ok (.ifCond .ne 6, 3) := by decide +kernel
theorem dX7_carve_8 : decode cX7_carve 8 = .ok (.bipush (-2), 2) := by decide +kernel
theorem dX7_carve_10 : decode cX7_carve 10 = .ok (.ireturn, 1) := by decide +kernel
theorem dX7_carve_11 : decode cX7_carve 11 = .ok (.aload_n 0, 1) := by decide +kernel
theorem dX7_carve_12 : decode cX7_carve 12 = .ok (.getfield 18, 3) := by decide +kernel
theorem dX7_carve_15 : decode cX7_carve 15 = .ok (.getfield 134, 3) := by decide +kernel
theorem dX7_carve_18 : decode cX7_carve 18 = .ok (.ifCond .ne 6, 3) := by decide +kernel
theorem dX7_carve_21 : decode cX7_carve 21 = .ok (.bipush (-3), 2) := by decide +kernel
theorem dX7_carve_23 : decode cX7_carve 23 = .ok (.ireturn, 1) := by decide +kernel
theorem dX7_carve_24 : decode cX7_carve 24 = .ok (.aload_n 0, 1) := by decide +kernel
theorem dX7_carve_25 : decode cX7_carve 25 = .ok (.iload_n 1, 1) := by decide +kernel
theorem dX7_carve_26 : decode cX7_carve 26 = .ok (.invokevirtual 171, 3) := by decide +kernel
theorem dX7_carve_29 : decode cX7_carve 29 = .ok (.aload_n 0, 1) := by decide +kernel
theorem dX7_carve_30 : decode cX7_carve 30 = .ok (.getfield 32, 3) := by decide +kernel
theorem dX7_carve_33 : decode cX7_carve 33 = .ok (.getfield 174, 3) := by decide +kernel
theorem dX7_carve_36 : decode cX7_carve 36 = .ok (.istore_n 2, 1) := by decide +kernel
theorem dX7_carve_37 : decode cX7_carve 37 = .ok (.iload_n 2, 1) := by decide +kernel
theorem dX7_carve_38 : decode cX7_carve 38 = .ok (.iconst (-1), 1) := by decide +kernel
theorem dX7_carve_39 : decode cX7_carve 39 = .ok (.if_icmp .ne 6, 3) := by decide +kernel
theorem dX7_carve_42 : decode cX7_carve 42 = .ok (.bipush (-3), 2) := by decide +kernel
theorem dX7_carve_44 : decode cX7_carve 44 = .ok (.ireturn, 1) := by decide +kernel
theorem dX7_carve_45 : decode cX7_carve 45 = .ok (.aload_n 0, 1) := by decide +kernel
theorem dX7_carve_46 : decode cX7_carve 46 = .ok (.getfield 11, 3) := by decide +kernel
theorem dX7_carve_49 : decode cX7_carve 49 = .ok (.iload_n 1, 1) := by decide +kernel
theorem dX7_carve_50 : decode cX7_carve 50 = .ok (.aaload, 1) := by decide +kernel
theorem dX7_carve_51 : decode cX7_carve 51 = .ok (.getfield 81, 3) := by decide +kernel
theorem dX7_carve_54 : decode cX7_carve 54 = .ok (.iload_n 2, 1) := by decide +kernel
theorem dX7_carve_55 : decode cX7_carve 55 = .ok (.iadd, 1) := by decide +kernel
theorem dX7_carve_56 : decode cX7_carve 56 = .ok (.bipush 20, 2) := by decide +kernel
theorem dX7_carve_58 : decode cX7_carve 58 = .ok (.if_icmp .le 6, 3) := by decide +kernel
theorem dX7_carve_61 : decode cX7_carve 61 = .ok (.bipush (-4), 2) := by decide +kernel
theorem dX7_carve_63 : decode cX7_carve 63 = .ok (.ireturn, 1) := by decide +kernel
theorem dX7_carve_64 : decode cX7_carve 64 = .ok (.aload_n 0, 1) := by decide +kernel
theorem dX7_carve_65 : decode cX7_carve 65 = .ok (.getfield 11, 3) := by decide +kernel
theorem dX7_carve_68 : decode cX7_carve 68 = .ok (.iload_n 1, 1) := by decide +kernel
theorem dX7_carve_69 : decode cX7_carve 69 = .ok (.aaload, 1) := by decide +kernel
theorem dX7_carve_70 : decode cX7_carve 70 = .ok (.aload_n 0, 1) := by decide +kernel
theorem dX7_carve_71 : decode cX7_carve 71 = .ok (.getfield 32, 3) := by decide +kernel
theorem dX7_carve_74 : decode cX7_carve 74 = .ok (.getfield 181, 3) := by decide +kernel
theorem dX7_carve_77 : decode cX7_carve 77 = .ok (.invokevirtual 184, 3) := by decide +kernel
theorem dX7_carve_80 : decode cX7_carve 80 = .ok (.aload_n 0, 1) := by decide +kernel
theorem dX7_carve_81 : decode cX7_carve 81 = .ok (.getfield 32, 3) := by decide +kernel
theorem dX7_carve_84 : decode cX7_carve 84 = .ok (.invokevirtual 78, 3) := by decide +kernel
theorem dX7_carve_87 : decode cX7_carve 87 = .ok (.iload_n 2, 1) := by decide +kernel
theorem dX7_carve_88 : decode cX7_carve 88 = .ok (.ireturn, 1) := by decide +kernel
theorem dX7_off_0 : decode cX7_off 0 = .ok (.iload_n 1, 1) := by decide +kernel
theorem dX7_off_1 : decode cX7_off 1 = .ok (.ifCond .lt 10, 3) := by decide +kernel
theorem dX7_off_4 : decode cX7_off 4 = .ok (.iload_n 1, 1) := by decide +kernel
theorem dX7_off_5 : decode cX7_off 5 = .ok (.sipush 200, 3) := by decide +kernel
theorem dX7_off_8 : decode cX7_off 8 = .ok (.if_icmp .le 6, 3) := by decide +kernel
theorem dX7_off_11 : decode cX7_off 11 = .ok (.bipush (-2), 2) := by decide +kernel
theorem dX7_off_13 : decode cX7_off 13 = .ok (.ireturn, 1) := by decide +kernel
theorem dX7_off_14 : decode cX7_off 14 = .ok (.aload_n 0, 1) := by decide +kernel
theorem dX7_off_15 : decode cX7_off 15 = .ok (.getfield 57, 3) := by decide +kernel
theorem dX7_off_18 : decode cX7_off 18 = .ok (.istore_n 2, 1) := by decide +kernel
theorem dX7_off_19 : decode cX7_off 19 = .ok (.aload_n 0, 1) := by decide +kernel
theorem dX7_off_20 : decode cX7_off 20 = .ok (.iload_n 1, 1) := by decide +kernel
theorem dX7_off_21 : decode cX7_off 21 = .ok (.putfield 57, 3) := by decide +kernel
theorem dX7_off_24 : decode cX7_off 24 = .ok (.iload_n 2, 1) := by decide +kernel
theorem dX7_off_25 : decode cX7_off 25 = .ok (.ireturn, 1) := by decide +kernel
set_option maxRecDepth 20000 in
theorem ggX7_even_X7_isPlate : GoodIn wsX7_even wsX7_isPlate := goodIn_r _ [12, 13, 49, 50, 51, 52, 53, 54, 55, 56, 57, 58] (by decide +kernel) (by decide +kernel)
set_option maxRecDepth 20000 in
theorem gX7_even_X7_isPlate : GoodIn wsX7_even (wsV RX7 69 RX7 yX7_isPlate wsX7_isPlate) := goodIn_app (goodIn_of _ (by decide +kernel)) ggX7_even_X7_isPlate
set_option maxRecDepth 20000 in
theorem ggX7_even_X5_fillWholeValues : GoodIn wsX7_even wsX5_fillWholeValues := goodIn_r _ [17, 18, 19, 16, 20, 21, 22, 23, 24, 25, 26] (by decide +kernel) (by decide +kernel)
set_option maxRecDepth 20000 in
theorem gX7_even_X5_fillWholeValues : GoodIn wsX7_even (va_wsS RX7 146 yX5_fillWholeValues wsX5_fillWholeValues) := goodIn_app (goodIn_of _ (by decide +kernel)) ggX7_even_X5_fillWholeValues
set_option maxRecDepth 20000 in
theorem ggX7_even_X2_farthest : GoodIn wsX7_even wsX2_farthest := goodIn_r _ [31, 32, 33, 34, 35, 36, 37, 38, 39, 40, 41, 42, 30, 43, 44, 45, 46, 47, 16, 48, 59, 60, 61, 62, 63, 64, 65] (by decide +kernel) (by decide +kernel)
set_option maxRecDepth 20000 in
theorem gX7_even_X2_farthest : GoodIn wsX7_even (wsV RX7 188 RX2 yX2_farthest wsX2_farthest) := goodIn_app (goodIn_of _ (by decide +kernel)) ggX7_even_X2_farthest
theorem dX7_even_0 : decode cX7_even 0 = .ok (.aload_n 0, 1) := by decide +kernel
theorem dX7_even_1 : decode cX7_even 1 = .ok (.iload_n 1, 1) := by decide +kernel
theorem dX7_even_2 : decode cX7_even 2 = .ok (.invokevirtual 69, 3) := by decide +kernel
theorem dX7_even_5 : decode cX7_even 5 = .ok (.ifCond .eq 11, 3) := by decide +kernel
theorem dX7_even_8 : decode cX7_even 8 = .ok (.aload_n 0, 1) := by decide +kernel
theorem dX7_even_9 : decode cX7_even 9 = .ok (.iload_n 2, 1) := by decide +kernel
theorem dX7_even_10 : decode cX7_even 10 = .ok (.invokevirtual 69, 3) := by decide +kernel
theorem dX7_even_13 : decode cX7_even 13 = .ok (.ifCond .ne 6, 3) := by decide +kernel
theorem dX7_even_16 : decode cX7_even 16 = .ok (.bipush (-2), 2) := by decide +kernel
theorem dX7_even_18 : decode cX7_even 18 = .ok (.ireturn, 1) := by decide +kernel
theorem dX7_even_19 : decode cX7_even 19 = .ok (.aload_n 0, 1) := by decide +kernel
theorem dX7_even_20 : decode cX7_even 20 = .ok (.getfield 18, 3) := by decide +kernel
theorem dX7_even_23 : decode cX7_even 23 = .ok (.getfield 134, 3) := by decide +kernel
theorem dX7_even_26 : decode cX7_even 26 = .ok (.ifCond .ne 6, 3) := by decide +kernel
theorem dX7_even_29 : decode cX7_even 29 = .ok (.bipush (-3), 2) := by decide +kernel
theorem dX7_even_31 : decode cX7_even 31 = .ok (.ireturn, 1) := by decide +kernel
theorem dX7_even_32 : decode cX7_even 32 = .ok (.aload_n 0, 1) := by decide +kernel
theorem dX7_even_33 : decode cX7_even 33 = .ok (.getfield 43, 3) := by decide +kernel
theorem dX7_even_36 : decode cX7_even 36 = .ok (.aload_n 0, 1) := by decide +kernel
theorem dX7_even_37 : decode cX7_even 37 = .ok (.getfield 11, 3) := by decide +kernel
theorem dX7_even_40 : decode cX7_even 40 = .ok (.iload_n 1, 1) := by decide +kernel
theorem dX7_even_41 : decode cX7_even 41 = .ok (.aaload, 1) := by decide +kernel
theorem dX7_even_42 : decode cX7_even 42 = .ok (.getfield 75, 3) := by decide +kernel
theorem dX7_even_45 : decode cX7_even 45 = .ok (.iconst 0, 1) := by decide +kernel
theorem dX7_even_46 : decode cX7_even 46 = .ok (.invokestatic 146, 3) := by decide +kernel
theorem dX7_even_49 : decode cX7_even 49 = .ok (.aload_n 0, 1) := by decide +kernel
theorem dX7_even_50 : decode cX7_even 50 = .ok (.getfield 47, 3) := by decide +kernel
theorem dX7_even_53 : decode cX7_even 53 = .ok (.aload_n 0, 1) := by decide +kernel
theorem dX7_even_54 : decode cX7_even 54 = .ok (.getfield 11, 3) := by decide +kernel
theorem dX7_even_57 : decode cX7_even 57 = .ok (.iload_n 2, 1) := by decide +kernel
theorem dX7_even_58 : decode cX7_even 58 = .ok (.aaload, 1) := by decide +kernel
theorem dX7_even_59 : decode cX7_even 59 = .ok (.getfield 75, 3) := by decide +kernel
theorem dX7_even_62 : decode cX7_even 62 = .ok (.iconst 0, 1) := by decide +kernel
theorem dX7_even_63 : decode cX7_even 63 = .ok (.invokestatic 146, 3) := by decide +kernel
theorem dX7_even_66 : decode cX7_even 66 = .ok (.aload_n 0, 1) := by decide +kernel
theorem dX7_even_67 : decode cX7_even 67 = .ok (.getfield 18, 3) := by decide +kernel
theorem dX7_even_70 : decode cX7_even 70 = .ok (.aload_n 0, 1) := by decide +kernel
theorem dX7_even_71 : decode cX7_even 71 = .ok (.getfield 43, 3) := by decide +kernel
theorem dX7_even_74 : decode cX7_even 74 = .ok (.aload_n 0, 1) := by decide +kernel
theorem dX7_even_75 : decode cX7_even 75 = .ok (.getfield 47, 3) := by decide +kernel
theorem dX7_even_78 : decode cX7_even 78 = .ok (.invokevirtual 188, 3) := by decide +kernel
theorem dX7_even_81 : decode cX7_even 81 = .ok (.aload_n 0, 1) := by decide +kernel
theorem dX7_even_82 : decode cX7_even 82 = .ok (.getfield 57, 3) := by decide +kernel
theorem dX7_even_85 : decode cX7_even 85 = .ok (.if_icmp .gt 7, 3) := by decide +kernel
theorem dX7_even_88 : decode cX7_even 88 = .ok (.iconst 1, 1) := by decide +kernel
theorem dX7_even_89 : decode cX7_even 89 = .ok (.goto 4, 3) := by decide +kernel
theorem dX7_even_92 : decode cX7_even 92 = .ok (.iconst 0, 1) := by decide +kernel
theorem dX7_even_93 : decode cX7_even 93 = .ok (.ireturn, 1) := by decide +kernel
set_option maxRecDepth 20000 in
theorem ggX7_count_X0_spans : GoodIn wsX7_count wsX0_spans := goodIn_r _ [9, 10, 35, 36, 37] (by decide +kernel) (by decide +kernel)
set_option maxRecDepth 20000 in
theorem gX7_count_X0_spans : GoodIn wsX7_count (wsV RX7 165 RX0 yX0_spans wsX0_spans) := goodIn_app (goodIn_of _ (by decide +kernel)) ggX7_count_X0_spans
set_option maxRecDepth 20000 in
theorem ggX7_count_X7_shavingsInLogs : GoodIn wsX7_count wsX7_shavingsInLogs := goodIn_r _ [15, 1, 16, 17, 18, 19, 20, 21, 22, 23, 24, 25, 26, 27, 38, 39, 40] (by decide +kernel) (by decide +kernel)
set_option maxRecDepth 20000 in
theorem gX7_count_X7_shavingsInLogs : GoodIn wsX7_count (wsV RX7 192 RX7 yX7_shavingsInLogs wsX7_shavingsInLogs) := goodIn_app (goodIn_of _ (by decide +kernel)) ggX7_count_X7_shavingsInLogs
theorem dX7_count_0 : decode cX7_count 0 = .ok (.iload_n 1, 1) := by decide +kernel
theorem dX7_count_1 : decode cX7_count 1 = .ok (.tableswitch 57 0 3 #[31, 36, 44, 52], 31) := by decide +kernel
theorem dX7_count_32 : decode cX7_count 32 = .ok (.aload_n 0, 1) := by decide +kernel
theorem dX7_count_33 : decode cX7_count 33 = .ok (.getfield 50, 3) := by decide +kernel
theorem dX7_count_36 : decode cX7_count 36 = .ok (.ireturn, 1) := by decide +kernel
theorem dX7_count_37 : decode cX7_count 37 = .ok (.aload_n 0, 1) := by decide +kernel
theorem dX7_count_38 : decode cX7_count 38 = .ok (.getfield 18, 3) := by decide +kernel
theorem dX7_count_41 : decode cX7_count 41 = .ok (.getfield 124, 3) := by decide +kernel
theorem dX7_count_44 : decode cX7_count 44 = .ok (.ireturn, 1) := by decide +kernel
theorem dX7_count_45 : decode cX7_count 45 = .ok (.aload_n 0, 1) := by decide +kernel
theorem dX7_count_46 : decode cX7_count 46 = .ok (.getfield 25, 3) := by decide +kernel
theorem dX7_count_49 : decode cX7_count 49 = .ok (.invokevirtual 165, 3) := by decide +kernel
theorem dX7_count_52 : decode cX7_count 52 = .ok (.ireturn, 1) := by decide +kernel
theorem dX7_count_53 : decode cX7_count 53 = .ok (.aload_n 0, 1) := by decide +kernel
theorem dX7_count_54 : decode cX7_count 54 = .ok (.invokevirtual 192, 3) := by decide +kernel
theorem dX7_count_57 : decode cX7_count 57 = .ok (.ireturn, 1) := by decide +kernel
theorem dX7_count_58 : decode cX7_count 58 = .ok (.bipush (-2), 2) := by decide +kernel
theorem dX7_count_60 : decode cX7_count 60 = .ok (.ireturn, 1) := by decide +kernel
theorem dX7_shavingsInLogs_0 : decode cX7_shavingsInLogs 0 = .ok (.iconst 0, 1) := by decide +kernel
theorem dX7_shavingsInLogs_1 : decode cX7_shavingsInLogs 1 = .ok (.istore_n 1, 1) := by decide +kernel
theorem dX7_shavingsInLogs_2 : decode cX7_shavingsInLogs 2 = .ok (.iconst 0, 1) := by decide +kernel
theorem dX7_shavingsInLogs_3 : decode cX7_shavingsInLogs 3 = .ok (.istore_n 2, 1) := by decide +kernel
theorem dX7_shavingsInLogs_4 : decode cX7_shavingsInLogs 4 = .ok (.iload_n 2, 1) := by decide +kernel
theorem dX7_shavingsInLogs_5 : decode cX7_shavingsInLogs 5 = .ok (.aload_n 0, 1) := by decide +kernel
theorem dX7_shavingsInLogs_6 : decode cX7_shavingsInLogs 6 = .ok (.getfield 50, 3) := by decide +kernel
theorem dX7_shavingsInLogs_9 : decode cX7_shavingsInLogs 9 = .ok (.if_icmp .ge 21, 3) := by decide +kernel
theorem dX7_shavingsInLogs_12 : decode cX7_shavingsInLogs 12 = .ok (.iload_n 1, 1) := by decide +kernel
theorem dX7_shavingsInLogs_13 : decode cX7_shavingsInLogs 13 = .ok (.aload_n 0, 1) := by decide +kernel
theorem dX7_shavingsInLogs_14 : decode cX7_shavingsInLogs 14 = .ok (.getfield 11, 3) := by decide +kernel
theorem dX7_shavingsInLogs_17 : decode cX7_shavingsInLogs 17 = .ok (.iload_n 2, 1) := by decide +kernel
theorem dX7_shavingsInLogs_18 : decode cX7_shavingsInLogs 18 = .ok (.aaload, 1) := by decide +kernel
theorem dX7_shavingsInLogs_19 : decode cX7_shavingsInLogs 19 = .ok (.getfield 81, 3) := by decide +kernel
theorem dX7_shavingsInLogs_22 : decode cX7_shavingsInLogs 22 = .ok (.iadd, 1) := by decide +kernel
theorem dX7_shavingsInLogs_23 : decode cX7_shavingsInLogs 23 = .ok (.istore_n 1, 1) := by decide +kernel
theorem dX7_shavingsInLogs_24 : decode cX7_shavingsInLogs 24 = .ok (.iinc 2 1, 3) := by decide +kernel
theorem dX7_shavingsInLogs_27 : decode cX7_shavingsInLogs 27 = .ok (.goto (-23), 3) := by decide +kernel
theorem dX7_shavingsInLogs_30 : decode cX7_shavingsInLogs 30 = .ok (.iload_n 1, 1) := by decide +kernel
theorem dX7_shavingsInLogs_31 : decode cX7_shavingsInLogs 31 = .ok (.ireturn, 1) := by decide +kernel
set_option maxRecDepth 20000 in
theorem ggX7_makePlan_X3_search : GoodIn wsX7_makePlan wsX3_search := goodIn_r _ [12, 13, 14, 15, 16, 17, 18, 19, 20, 21, 11, 22, 23, 24, 25, 26, 27, 28, 29, 30, 31, 32, 33, 34, 35, 36, 37, 38, 39, 40, 41, 42, 43, 44, 45, 46, 47, 48, 59, 60, 61, 62, 63, 67, 68, 69, 70, 71, 72, 73, 74, 75, 76] (by decide +kernel) (by decide +kernel)
set_option maxRecDepth 20000 in
theorem gX7_makePlan_X3_search : GoodIn wsX7_makePlan (wsV RX7 198 RX3 yX3_search wsX3_search) := goodIn_app (goodIn_of _ (by decide +kernel)) ggX7_makePlan_X3_search
theorem dX7_makePlan_0 : decode cX7_makePlan 0 = .ok (.aload_n 0, 1) := by decide +kernel
theorem dX7_makePlan_1 : decode cX7_makePlan 1 = .ok (.getfield 32, 3) := by decide +kernel
theorem dX7_makePlan_4 : decode cX7_makePlan 4 = .ok (.getfield 195, 3) := by decide +kernel
theorem dX7_makePlan_7 : decode cX7_makePlan 7 = .ok (.iload_n 1, 1) := by decide +kernel
theorem dX7_makePlan_8 : decode cX7_makePlan 8 = .ok (.if_icmp .eq 39, 3) := by decide +kernel
theorem dX7_makePlan_11 : decode cX7_makePlan 11 = .ok (.aload_n 0, 1) := by decide +kernel
theorem dX7_makePlan_12 : decode cX7_makePlan 12 = .ok (.getfield 32, 3) := by decide +kernel
theorem dX7_makePlan_15 : decode cX7_makePlan 15 = .ok (.aload_n 0, 1) := by decide +kernel
theorem dX7_makePlan_16 : decode cX7_makePlan 16 = .ok (.getfield 11, 3) := by decide +kernel
theorem dX7_makePlan_19 : decode cX7_makePlan 19 = .ok (.iload_n 1, 1) := by decide +kernel
theorem dX7_makePlan_20 : decode cX7_makePlan 20 = .ok (.aaload, 1) := by decide +kernel
theorem dX7_makePlan_21 : decode cX7_makePlan 21 = .ok (.getfield 75, 3) := by decide +kernel
theorem dX7_makePlan_24 : decode cX7_makePlan 24 = .ok (.aload_n 0, 1) := by decide +kernel
theorem dX7_makePlan_25 : decode cX7_makePlan 25 = .ok (.getfield 54, 3) := by decide +kernel
theorem dX7_makePlan_28 : decode cX7_makePlan 28 = .ok (.aload_n 0, 1) := by decide +kernel
theorem dX7_makePlan_29 : decode cX7_makePlan 29 = .ok (.getfield 18, 3) := by decide +kernel
theorem dX7_makePlan_32 : decode cX7_makePlan 32 = .ok (.aload_n 0, 1) := by decide +kernel
theorem dX7_makePlan_33 : decode cX7_makePlan 33 = .ok (.getfield 25, 3) := by decide +kernel
theorem dX7_makePlan_36 : decode cX7_makePlan 36 = .ok (.invokevirtual 198, 3) := by decide +kernel
theorem dX7_makePlan_39 : decode cX7_makePlan 39 = .ok (.aload_n 0, 1) := by decide +kernel
theorem dX7_makePlan_40 : decode cX7_makePlan 40 = .ok (.getfield 32, 3) := by decide +kernel
theorem dX7_makePlan_43 : decode cX7_makePlan 43 = .ok (.iload_n 1, 1) := by decide +kernel
theorem dX7_makePlan_44 : decode cX7_makePlan 44 = .ok (.putfield 195, 3) := by decide +kernel
theorem dX7_makePlan_47 : decode cX7_makePlan 47 = .ok (.return_, 1) := by decide +kernel
theorem dX7_isPlate_0 : decode cX7_isPlate 0 = .ok (.iload_n 1, 1) := by decide +kernel
theorem dX7_isPlate_1 : decode cX7_isPlate 1 = .ok (.ifCond .lt 15, 3) := by decide +kernel
theorem dX7_isPlate_4 : decode cX7_isPlate 4 = .ok (.iload_n 1, 1) := by decide +kernel
theorem dX7_isPlate_5 : decode cX7_isPlate 5 = .ok (.aload_n 0, 1) := by decide +kernel
theorem dX7_isPlate_6 : decode cX7_isPlate 6 = .ok (.getfield 50, 3) := by decide +kernel
theorem dX7_isPlate_9 : decode cX7_isPlate 9 = .ok (.if_icmp .ge 7, 3) := by decide +kernel
theorem dX7_isPlate_12 : decode cX7_isPlate 12 = .ok (.iconst 1, 1) := by decide +kernel
theorem dX7_isPlate_13 : decode cX7_isPlate 13 = .ok (.goto 4, 3) := by decide +kernel
theorem dX7_isPlate_16 : decode cX7_isPlate 16 = .ok (.iconst 0, 1) := by decide +kernel
theorem dX7_isPlate_17 : decode cX7_isPlate 17 = .ok (.ireturn, 1) := by decide +kernel
theorem dX7_isStrip_0 : decode cX7_isStrip 0 = .ok (.iload_n 0, 1) := by decide +kernel
theorem dX7_isStrip_1 : decode cX7_isStrip 1 = .ok (.ifCond .lt 12, 3) := by decide +kernel
theorem dX7_isStrip_4 : decode cX7_isStrip 4 = .ok (.iload_n 0, 1) := by decide +kernel
theorem dX7_isStrip_5 : decode cX7_isStrip 5 = .ok (.iconst 4, 1) := by decide +kernel
theorem dX7_isStrip_6 : decode cX7_isStrip 6 = .ok (.if_icmp .ge 7, 3) := by decide +kernel
theorem dX7_isStrip_9 : decode cX7_isStrip 9 = .ok (.iconst 1, 1) := by decide +kernel
theorem dX7_isStrip_10 : decode cX7_isStrip 10 = .ok (.goto 4, 3) := by decide +kernel
theorem dX7_isStrip_13 : decode cX7_isStrip 13 = .ok (.iconst 0, 1) := by decide +kernel
theorem dX7_isStrip_14 : decode cX7_isStrip 14 = .ok (.ireturn, 1) := by decide +kernel
theorem dX7_isTone_0 : decode cX7_isTone 0 = .ok (.iload_n 0, 1) := by decide +kernel
theorem dX7_isTone_1 : decode cX7_isTone 1 = .ok (.ifCond .lt 12, 3) := by decide +kernel
theorem dX7_isTone_4 : decode cX7_isTone 4 = .ok (.iload_n 0, 1) := by decide +kernel
theorem dX7_isTone_5 : decode cX7_isTone 5 = .ok (.iconst 4, 1) := by decide +kernel
theorem dX7_isTone_6 : decode cX7_isTone 6 = .ok (.if_icmp .ge 7, 3) := by decide +kernel
theorem dX7_isTone_9 : decode cX7_isTone 9 = .ok (.iconst 1, 1) := by decide +kernel
theorem dX7_isTone_10 : decode cX7_isTone 10 = .ok (.goto 4, 3) := by decide +kernel
theorem dX7_isTone_13 : decode cX7_isTone 13 = .ok (.iconst 0, 1) := by decide +kernel
theorem dX7_isTone_14 : decode cX7_isTone 14 = .ok (.ireturn, 1) := by decide +kernel
theorem dX7_isThickness_0 : decode cX7_isThickness 0 = .ok (.iload_n 0, 1) := by decide +kernel
theorem dX7_isThickness_1 : decode cX7_isThickness 1 = .ok (.iconst 1, 1) := by decide +kernel
theorem dX7_isThickness_2 : decode cX7_isThickness 2 = .ok (.if_icmp .lt 13, 3) := by decide +kernel
theorem dX7_isThickness_5 : decode cX7_isThickness 5 = .ok (.iload_n 0, 1) := by decide +kernel
theorem dX7_isThickness_6 : decode cX7_isThickness 6 = .ok (.bipush 9, 2) := by decide +kernel
theorem dX7_isThickness_8 : decode cX7_isThickness 8 = .ok (.if_icmp .gt 7, 3) := by decide +kernel
theorem dX7_isThickness_11 : decode cX7_isThickness 11 = .ok (.iconst 1, 1) := by decide +kernel
theorem dX7_isThickness_12 : decode cX7_isThickness 12 = .ok (.goto 4, 3) := by decide +kernel
theorem dX7_isThickness_15 : decode cX7_isThickness 15 = .ok (.iconst 0, 1) := by decide +kernel
theorem dX7_isThickness_16 : decode cX7_isThickness 16 = .ok (.ireturn, 1) := by decide +kernel
theorem dX7_isWood_0 : decode cX7_isWood 0 = .ok (.iload_n 0, 1) := by decide +kernel
theorem dX7_isWood_1 : decode cX7_isWood 1 = .ok (.iconst 1, 1) := by decide +kernel
theorem dX7_isWood_2 : decode cX7_isWood 2 = .ok (.if_icmp .lt 24, 3) := by decide +kernel
theorem dX7_isWood_5 : decode cX7_isWood 5 = .ok (.iload_n 0, 1) := by decide +kernel
theorem dX7_isWood_6 : decode cX7_isWood 6 = .ok (.bipush 9, 2) := by decide +kernel
theorem dX7_isWood_8 : decode cX7_isWood 8 = .ok (.if_icmp .gt 18, 3) := by decide +kernel
theorem dX7_isWood_11 : decode cX7_isWood 11 = .ok (.iload_n 1, 1) := by decide +kernel
theorem dX7_isWood_12 : decode cX7_isWood 12 = .ok (.iconst 1, 1) := by decide +kernel
theorem dX7_isWood_13 : decode cX7_isWood 13 = .ok (.if_icmp .lt 13, 3) := by decide +kernel
theorem dX7_isWood_16 : decode cX7_isWood 16 = .ok (.iload_n 1, 1) := by decide +kernel
theorem dX7_isWood_17 : decode cX7_isWood 17 = .ok (.bipush 9, 2) := by decide +kernel
theorem dX7_isWood_19 : decode cX7_isWood 19 = .ok (.if_icmp .gt 7, 3) := by decide +kernel
theorem dX7_isWood_22 : decode cX7_isWood 22 = .ok (.iconst 1, 1) := by decide +kernel
theorem dX7_isWood_23 : decode cX7_isWood 23 = .ok (.goto 4, 3) := by decide +kernel
theorem dX7_isWood_26 : decode cX7_isWood 26 = .ok (.iconst 0, 1) := by decide +kernel
theorem dX7_isWood_27 : decode cX7_isWood 27 = .ok (.ireturn, 1) := by decide +kernel
theorem dX7_isNumber_0 : decode cX7_isNumber 0 = .ok (.iload_n 0, 1) := by decide +kernel
theorem dX7_isNumber_1 : decode cX7_isNumber 1 = .ok (.ifCond .lt 14, 3) := by decide +kernel
theorem dX7_isNumber_4 : decode cX7_isNumber 4 = .ok (.iload_n 0, 1) := by decide +kernel
theorem dX7_isNumber_5 : decode cX7_isNumber 5 = .ok (.sipush 500, 3) := by decide +kernel
theorem dX7_isNumber_8 : decode cX7_isNumber 8 = .ok (.if_icmp .gt 7, 3) := by decide +kernel
theorem dX7_isNumber_11 : decode cX7_isNumber 11 = .ok (.iconst 1, 1) := by decide +kernel
theorem dX7_isNumber_12 : decode cX7_isNumber 12 = .ok (.goto 4, 3) := by decide +kernel
theorem dX7_isNumber_15 : decode cX7_isNumber 15 = .ok (.iconst 0, 1) := by decide +kernel
theorem dX7_isNumber_16 : decode cX7_isNumber 16 = .ok (.ireturn, 1) := by decide +kernel
set_option maxRecDepth 20000 in
theorem ggX7_isSpan_X7_isNumber : GoodIn wsX7_isSpan wsX7_isNumber := goodIn_r _ [4] (by decide +kernel) (by decide +kernel)
set_option maxRecDepth 20000 in
theorem gX7_isSpan_X7_isNumber : GoodIn wsX7_isSpan (va_wsS RX7 112 yX7_isNumber wsX7_isNumber) := goodIn_app (goodIn_of _ (by decide +kernel)) ggX7_isSpan_X7_isNumber
theorem dX7_isSpan_0 : decode cX7_isSpan 0 = .ok (.iload_n 0, 1) := by decide +kernel
theorem dX7_isSpan_1 : decode cX7_isSpan 1 = .ok (.invokestatic 112, 3) := by decide +kernel
theorem dX7_isSpan_4 : decode cX7_isSpan 4 = .ok (.ifCond .eq 19, 3) := by decide +kernel
theorem dX7_isSpan_7 : decode cX7_isSpan 7 = .ok (.iload_n 1, 1) := by decide +kernel
theorem dX7_isSpan_8 : decode cX7_isSpan 8 = .ok (.invokestatic 112, 3) := by decide +kernel
theorem dX7_isSpan_11 : decode cX7_isSpan 11 = .ok (.ifCond .eq 12, 3) := by decide +kernel
theorem dX7_isSpan_14 : decode cX7_isSpan 14 = .ok (.iload_n 0, 1) := by decide +kernel
theorem dX7_isSpan_15 : decode cX7_isSpan 15 = .ok (.iload_n 1, 1) := by decide +kernel
theorem dX7_isSpan_16 : decode cX7_isSpan 16 = .ok (.if_icmp .gt 7, 3) := by decide +kernel
theorem dX7_isSpan_19 : decode cX7_isSpan 19 = .ok (.iconst 1, 1) := by decide +kernel
theorem dX7_isSpan_20 : decode cX7_isSpan 20 = .ok (.goto 4, 3) := by decide +kernel
theorem dX7_isSpan_23 : decode cX7_isSpan 23 = .ok (.iconst 0, 1) := by decide +kernel
theorem dX7_isSpan_24 : decode cX7_isSpan 24 = .ok (.ireturn, 1) := by decide +kernel
theorem dX7_isOneOfTwo_0 : decode cX7_isOneOfTwo 0 = .ok (.iload_n 0, 1) := by decide +kernel
theorem dX7_isOneOfTwo_1 : decode cX7_isOneOfTwo 1 = .ok (.ifCond .eq 8, 3) := by decide +kernel
theorem dX7_isOneOfTwo_4 : decode cX7_isOneOfTwo 4 = .ok (.iload_n 0, 1) := by decide +kernel
theorem dX7_isOneOfTwo_5 : decode cX7_isOneOfTwo 5 = .ok (.iconst 1, 1) := by decide +kernel
theorem dX7_isOneOfTwo_6 : decode cX7_isOneOfTwo 6 = .ok (.if_icmp .ne 7, 3) := by decide +kernel
theorem dX7_isOneOfTwo_9 : decode cX7_isOneOfTwo 9 = .ok (.iconst 1, 1) := by decide +kernel
theorem dX7_isOneOfTwo_10 : decode cX7_isOneOfTwo 10 = .ok (.goto 4, 3) := by decide +kernel
theorem dX7_isOneOfTwo_13 : decode cX7_isOneOfTwo 13 = .ok (.iconst 0, 1) := by decide +kernel
theorem dX7_isOneOfTwo_14 : decode cX7_isOneOfTwo 14 = .ok (.ireturn, 1) := by decide +kernel
theorem dX8_init_0 : decode cX8_init 0 = .ok (.aload_n 0, 1) := by decide +kernel
theorem dX8_init_1 : decode cX8_init 1 = .ok (.invokespecial 1, 3) := by decide +kernel
theorem dX8_init_4 : decode cX8_init 4 = .ok (.aload_n 0, 1) := by decide +kernel
theorem dX8_init_5 : decode cX8_init 5 = .ok (.bipush 16, 2) := by decide +kernel
theorem dX8_init_7 : decode cX8_init 7 = .ok (.newarray .int, 2) := by decide +kernel
theorem dX8_init_9 : decode cX8_init 9 = .ok (.putfield 7, 3) := by decide +kernel
theorem dX8_init_12 : decode cX8_init 12 = .ok (.aload_n 0, 1) := by decide +kernel
theorem dX8_init_13 : decode cX8_init 13 = .ok (.iconst 2, 1) := by decide +kernel
theorem dX8_init_14 : decode cX8_init 14 = .ok (.putfield 13, 3) := by decide +kernel
theorem dX8_init_17 : decode cX8_init 17 = .ok (.aload_n 0, 1) := by decide +kernel
theorem dX8_init_18 : decode cX8_init 18 = .ok (.iconst 4, 1) := by decide +kernel
theorem dX8_init_19 : decode cX8_init 19 = .ok (.newarray .int, 2) := by decide +kernel
theorem dX8_init_21 : decode cX8_init 21 = .ok (.putfield 17, 3) := by decide +kernel
theorem dX8_init_24 : decode cX8_init 24 = .ok (.aload_n 0, 1) := by decide +kernel
theorem dX8_init_25 : decode cX8_init 25 = .ok (.bipush 80, 2) := by decide +kernel
theorem dX8_init_27 : decode cX8_init 27 = .ok (.newarray .int, 2) := by decide +kernel
theorem dX8_init_29 : decode cX8_init 29 = .ok (.putfield 20, 3) := by decide +kernel
theorem dX8_init_32 : decode cX8_init 32 = .ok (.aload_n 0, 1) := by decide +kernel
theorem dX8_init_33 : decode cX8_init 33 = .ok (.bipush 48, 2) := by decide +kernel
theorem dX8_init_35 : decode cX8_init 35 = .ok (.newarray .int, 2) := by decide +kernel
theorem dX8_init_37 : decode cX8_init 37 = .ok (.putfield 23, 3) := by decide +kernel
theorem dX8_init_40 : decode cX8_init 40 = .ok (.aload_n 0, 1) := by decide +kernel
theorem dX8_init_41 : decode cX8_init 41 = .ok (.bipush 12, 2) := by decide +kernel
theorem dX8_init_43 : decode cX8_init 43 = .ok (.newarray .int, 2) := by decide +kernel
theorem dX8_init_45 : decode cX8_init 45 = .ok (.putfield 26, 3) := by decide +kernel
theorem dX8_init_48 : decode cX8_init 48 = .ok (.aload_n 0, 1) := by decide +kernel
theorem dX8_init_49 : decode cX8_init 49 = .ok (.bipush 12, 2) := by decide +kernel
theorem dX8_init_51 : decode cX8_init 51 = .ok (.newarray .int, 2) := by decide +kernel
theorem dX8_init_53 : decode cX8_init 53 = .ok (.putfield 29, 3) := by decide +kernel
theorem dX8_init_56 : decode cX8_init 56 = .ok (.aload_n 0, 1) := by decide +kernel
theorem dX8_init_57 : decode cX8_init 57 = .ok (.bipush 12, 2) := by decide +kernel
theorem dX8_init_59 : decode cX8_init 59 = .ok (.newarray .int, 2) := by decide +kernel
theorem dX8_init_61 : decode cX8_init 61 = .ok (.putfield 32, 3) := by decide +kernel
theorem dX8_init_64 : decode cX8_init 64 = .ok (.aload_n 0, 1) := by decide +kernel
theorem dX8_init_65 : decode cX8_init 65 = .ok (.iconst 4, 1) := by decide +kernel
theorem dX8_init_66 : decode cX8_init 66 = .ok (.newarray .boolean, 2) := by decide +kernel
theorem dX8_init_68 : decode cX8_init 68 = .ok (.putfield 35, 3) := by decide +kernel
theorem dX8_init_71 : decode cX8_init 71 = .ok (.aload_n 0, 1) := by decide +kernel
theorem dX8_init_72 : decode cX8_init 72 = .ok (.iconst 4, 1) := by decide +kernel
theorem dX8_init_73 : decode cX8_init 73 = .ok (.newarray .int, 2) := by decide +kernel
theorem dX8_init_75 : decode cX8_init 75 = .ok (.putfield 39, 3) := by decide +kernel
theorem dX8_init_78 : decode cX8_init 78 = .ok (.aload_n 0, 1) := by decide +kernel
theorem dX8_init_79 : decode cX8_init 79 = .ok (.iconst 4, 1) := by decide +kernel
theorem dX8_init_80 : decode cX8_init 80 = .ok (.newarray .int, 2) := by decide +kernel
theorem dX8_init_82 : decode cX8_init 82 = .ok (.putfield 42, 3) := by decide +kernel
theorem dX8_init_85 : decode cX8_init 85 = .ok (.aload_n 0, 1) := by decide +kernel
theorem dX8_init_86 : decode cX8_init 86 = .ok (.iconst 5, 1) := by decide +kernel
theorem dX8_init_87 : decode cX8_init 87 = .ok (.putfield 45, 3) := by decide +kernel
theorem dX8_init_90 : decode cX8_init 90 = .ok (.aload_n 0, 1) := by decide +kernel
theorem dX8_init_91 : decode cX8_init 91 = .ok (.iconst 4, 1) := by decide +kernel
theorem dX8_init_92 : decode cX8_init 92 = .ok (.newarray .int, 2) := by decide +kernel
theorem dX8_init_94 : decode cX8_init 94 = .ok (.putfield 48, 3) := by decide +kernel
theorem dX8_init_97 : decode cX8_init 97 = .ok (.aload_n 0, 1) := by decide +kernel
theorem dX8_init_98 : decode cX8_init 98 = .ok (.bipush 81, 2) := by decide +kernel
theorem dX8_init_100 : decode cX8_init 100 = .ok (.newarray .int, 2) := by decide +kernel
theorem dX8_init_102 : decode cX8_init 102 = .ok (.putfield 51, 3) := by decide +kernel
theorem dX8_init_105 : decode cX8_init 105 = .ok (.aload_n 0, 1) := by decide +kernel
theorem dX8_init_106 : decode cX8_init 106 = .ok (.sipush 501, 3) := by decide +kernel
theorem dX8_init_109 : decode cX8_init 109 = .ok (.newarray .int, 2) := by decide +kernel
theorem dX8_init_111 : decode cX8_init 111 = .ok (.putfield 54, 3) := by decide +kernel
theorem dX8_init_114 : decode cX8_init 114 = .ok (.aload_n 0, 1) := by decide +kernel
theorem dX8_init_115 : decode cX8_init 115 = .ok (.iconst 4, 1) := by decide +kernel
theorem dX8_init_116 : decode cX8_init 116 = .ok (.newarray .int, 2) := by decide +kernel
theorem dX8_init_118 : decode cX8_init 118 = .ok (.putfield 57, 3) := by decide +kernel
theorem dX8_init_121 : decode cX8_init 121 = .ok (.return_, 1) := by decide +kernel
theorem dX8_in_0 : decode cX8_in 0 = .ok (.iload_n 0, 1) := by decide +kernel
theorem dX8_in_1 : decode cX8_in 1 = .ok (.iload_n 1, 1) := by decide +kernel
theorem dX8_in_2 : decode cX8_in 2 = .ok (.if_icmp .lt 12, 3) := by decide +kernel
theorem dX8_in_5 : decode cX8_in 5 = .ok (.iload_n 0, 1) := by decide +kernel
theorem dX8_in_6 : decode cX8_in 6 = .ok (.iload_n 2, 1) := by decide +kernel
theorem dX8_in_7 : decode cX8_in 7 = .ok (.if_icmp .gt 7, 3) := by decide +kernel
theorem dX8_in_10 : decode cX8_in 10 = .ok (.iconst 1, 1) := by decide +kernel
theorem dX8_in_11 : decode cX8_in 11 = .ok (.goto 4, 3) := by decide +kernel
theorem dX8_in_14 : decode cX8_in 14 = .ok (.iconst 0, 1) := by decide +kernel
theorem dX8_in_15 : decode cX8_in 15 = .ok (.ireturn, 1) := by decide +kernel
set_option maxRecDepth 20000 in
theorem ggX8_isThick_X8_in : GoodIn wsX8_isThick wsX8_in := goodIn_r _ [4] (by decide +kernel) (by decide +kernel)
set_option maxRecDepth 20000 in
theorem gX8_isThick_X8_in : GoodIn wsX8_isThick (va_wsS RX8 60 yX8_in wsX8_in) := goodIn_app (goodIn_of _ (by decide +kernel)) ggX8_isThick_X8_in
theorem dX8_isThick_0 : decode cX8_isThick 0 = .ok (.iload_n 0, 1) := by decide +kernel
theorem dX8_isThick_1 : decode cX8_isThick 1 = .ok (.iconst 1, 1) := by decide +kernel
theorem dX8_isThick_2 : decode cX8_isThick 2 = .ok (.bipush 9, 2) := by decide +kernel
theorem dX8_isThick_4 : decode cX8_isThick 4 = .ok (.invokestatic 60, 3) := by decide +kernel
theorem dX8_isThick_7 : decode cX8_isThick 7 = .ok (.ireturn, 1) := by decide +kernel
set_option maxRecDepth 20000 in
theorem ggX8_isPlate_X8_in : GoodIn wsX8_isPlate wsX8_in := goodIn_r _ [5] (by decide +kernel) (by decide +kernel)
set_option maxRecDepth 20000 in
theorem gX8_isPlate_X8_in : GoodIn wsX8_isPlate (va_wsS RX8 60 yX8_in wsX8_in) := goodIn_app (goodIn_of _ (by decide +kernel)) ggX8_isPlate_X8_in
theorem dX8_isPlate_0 : decode cX8_isPlate 0 = .ok (.iload_n 1, 1) := by decide +kernel
theorem dX8_isPlate_1 : decode cX8_isPlate 1 = .ok (.iconst 0, 1) := by decide +kernel
theorem dX8_isPlate_2 : decode cX8_isPlate 2 = .ok (.aload_n 0, 1) := by decide +kernel
theorem dX8_isPlate_3 : decode cX8_isPlate 3 = .ok (.getfield 64, 3) := by decide +kernel
theorem dX8_isPlate_6 : decode cX8_isPlate 6 = .ok (.iconst 1, 1) := by decide +kernel
theorem dX8_isPlate_7 : decode cX8_isPlate 7 = .ok (.isub, 1) := by decide +kernel
theorem dX8_isPlate_8 : decode cX8_isPlate 8 = .ok (.invokestatic 60, 3) := by decide +kernel
theorem dX8_isPlate_11 : decode cX8_isPlate 11 = .ok (.ireturn, 1) := by decide +kernel
set_option maxRecDepth 20000 in
theorem ggX8_isFour_X8_in : GoodIn wsX8_isFour wsX8_in := goodIn_r _ [4] (by decide +kernel) (by decide +kernel)
set_option maxRecDepth 20000 in
theorem gX8_isFour_X8_in : GoodIn wsX8_isFour (va_wsS RX8 60 yX8_in wsX8_in) := goodIn_app (goodIn_of _ (by decide +kernel)) ggX8_isFour_X8_in
theorem dX8_isFour_0 : decode cX8_isFour 0 = .ok (.iload_n 0, 1) := by decide +kernel
theorem dX8_isFour_1 : decode cX8_isFour 1 = .ok (.iconst 0, 1) := by decide +kernel
theorem dX8_isFour_2 : decode cX8_isFour 2 = .ok (.iconst 3, 1) := by decide +kernel
theorem dX8_isFour_3 : decode cX8_isFour 3 = .ok (.invokestatic 60, 3) := by decide +kernel
theorem dX8_isFour_6 : decode cX8_isFour 6 = .ok (.ireturn, 1) := by decide +kernel
set_option maxRecDepth 20000 in
theorem ggX8_plate_X8_isThick : GoodIn wsX8_plate wsX8_isThick := goodIn_r _ [6, 7, 8, 5, 9] (by decide +kernel) (by decide +kernel)
set_option maxRecDepth 20000 in
theorem gX8_plate_X8_isThick : GoodIn wsX8_plate (va_wsS RX8 67 yX8_isThick wsX8_isThick) := goodIn_app (goodIn_of _ (by decide +kernel)) ggX8_plate_X8_isThick
theorem dX8_plate_0 : decode cX8_plate 0 = .ok (.iload_n 1, 1) := by decide +kernel
theorem dX8_plate_1 : decode cX8_plate 1 = .ok (.invokestatic 67, 3) := by decide +kernel
theorem dX8_plate_4 : decode cX8_plate 4 = .ok (.ifCond .eq 25, 3) := by decide +kernel
theorem dX8_plate_7 : decode cX8_plate 7 = .ok (.iload_n 2, 1) := by decide +kernel
theorem dX8_plate_8 : decode cX8_plate 8 = .ok (.invokestatic 67, 3) := by decide +kernel
theorem dX8_plate_11 : decode cX8_plate 11 = .ok (.ifCond .eq 18, 3) := by decide +kernel
theorem dX8_plate_14 : decode cX8_plate 14 = .ok (.iload_n 3, 1) := by decide +kernel
theorem dX8_plate_15 : decode cX8_plate 15 = .ok (.invokestatic 67, 3) := by decide +kernel
theorem dX8_plate_18 : decode cX8_plate 18 = .ok (.ifCond .eq 11, 3) := by decide +kernel
theorem dX8_plate_21 : decode cX8_plate 21 = .ok (.iload 4, 2) := by decide +kernel
theorem dX8_plate_23 : decode cX8_plate 23 = .ok (.invokestatic 67, 3) := by decide +kernel
theorem dX8_plate_26 : decode cX8_plate 26 = .ok (.ifCond .ne 6, 3) := by decide +kernel
theorem dX8_plate_29 : decode cX8_plate 29 = .ok (.bipush (-2), 2) := by decide +kernel
theorem dX8_plate_31 : decode cX8_plate 31 = .ok (.ireturn, 1) := by decide +kernel
theorem dX8_plate_32 : decode cX8_plate 32 = .ok (.aload_n 0, 1) := by decide +kernel
theorem dX8_plate_33 : decode cX8_plate 33 = .ok (.getfield 64, 3) := by decide +kernel
theorem dX8_plate_36 : decode cX8_plate 36 = .ok (.iconst 4, 1) := by decide +kernel
theorem dX8_plate_37 : decode cX8_plate 37 = .ok (.if_icmp .ne 6, 3) := by decide +kernel
theorem dX8_plate_40 : decode cX8_plate 40 = .ok (.bipush (-4), 2) := by decide +kernel
theorem dX8_plate_42 : decode cX8_plate 42 = .ok (.ireturn, 1) := by decide +kernel
theorem dX8_plate_43 : decode cX8_plate 43 = .ok (.aload_n 0, 1) := by decide +kernel
theorem dX8_plate_44 : decode cX8_plate 44 = .ok (.getfield 7, 3) := by decide +kernel
theorem dX8_plate_47 : decode cX8_plate 47 = .ok (.iconst 4, 1) := by decide +kernel
theorem dX8_plate_48 : decode cX8_plate 48 = .ok (.aload_n 0, 1) := by decide +kernel
theorem dX8_plate_49 : decode cX8_plate 49 = .ok (.getfield 64, 3) := by decide +kernel
theorem dX8_plate_52 : decode cX8_plate 52 = .ok (.imul, 1) := by decide +kernel
theorem dX8_plate_53 : decode cX8_plate 53 = .ok (.iload_n 1, 1) := by decide +kernel
theorem dX8_plate_54 : decode cX8_plate 54 = .ok (.iastore, 1) := by decide +kernel
theorem dX8_plate_55 : decode cX8_plate 55 = .ok (.aload_n 0, 1) := by decide +kernel
theorem dX8_plate_56 : decode cX8_plate 56 = .ok (.getfield 7, 3) := by decide +kernel
theorem dX8_plate_59 : decode cX8_plate 59 = .ok (.iconst 4, 1) := by decide +kernel
theorem dX8_plate_60 : decode cX8_plate 60 = .ok (.aload_n 0, 1) := by decide +kernel
theorem dX8_plate_61 : decode cX8_plate 61 = .ok (.getfield 64, 3) := by decide +kernel
theorem dX8_plate_64 : decode cX8_plate 64 = .ok (.imul, 1) := by decide +kernel
theorem dX8_plate_65 : decode cX8_plate 65 = .ok (.iconst 1, 1) := by decide +kernel
theorem dX8_plate_66 : decode cX8_plate 66 = .ok (.iadd, 1) := by decide +kernel
theorem dX8_plate_67 : decode cX8_plate 67 = .ok (.iload_n 2, 1) := by decide +kernel
theorem dX8_plate_68 : decode cX8_plate 68 = .ok (.iastore, 1) := by decide +kernel
theorem dX8_plate_69 : decode cX8_plate 69 = .ok (.aload_n 0, 1) := by decide +kernel
theorem dX8_plate_70 : decode cX8_plate 70 = .ok (.getfield 7, 3) := by decide +kernel
theorem dX8_plate_73 : decode cX8_plate 73 = .ok (.iconst 4, 1) := by decide +kernel
theorem dX8_plate_74 : decode cX8_plate 74 = .ok (.aload_n 0, 1) := by decide +kernel
theorem dX8_plate_75 : decode cX8_plate 75 = .ok (.getfield 64, 3) := by decide +kernel
theorem dX8_plate_78 : decode cX8_plate 78 = .ok (.imul, 1) := by decide +kernel
theorem dX8_plate_79 : decode cX8_plate 79 = .ok (.iconst 2, 1) := by decide +kernel
theorem dX8_plate_80 : decode cX8_plate 80 = .ok (.iadd, 1) := by decide +kernel
theorem dX8_plate_81 : decode cX8_plate 81 = .ok (.iload_n 3, 1) := by decide +kernel
theorem dX8_plate_82 : decode cX8_plate 82 = .ok (.iastore, 1) := by decide +kernel
theorem dX8_plate_83 : decode cX8_plate 83 = .ok (.aload_n 0, 1) := by decide +kernel
theorem dX8_plate_84 : decode cX8_plate 84 = .ok (.getfield 7, 3) := by decide +kernel
theorem dX8_plate_87 : decode cX8_plate 87 = .ok (.iconst 4, 1) := by decide +kernel
theorem dX8_plate_88 : decode cX8_plate 88 = .ok (.aload_n 0, 1) := by decide +kernel
theorem dX8_plate_89 : decode cX8_plate 89 = .ok (.getfield 64, 3) := by decide +kernel
theorem dX8_plate_92 : decode cX8_plate 92 = .ok (.imul, 1) := by decide +kernel
theorem dX8_plate_93 : decode cX8_plate 93 = .ok (.iconst 3, 1) := by decide +kernel
theorem dX8_plate_94 : decode cX8_plate 94 = .ok (.iadd, 1) := by decide +kernel
theorem dX8_plate_95 : decode cX8_plate 95 = .ok (.iload 4, 2) := by decide +kernel
theorem dX8_plate_97 : decode cX8_plate 97 = .ok (.iastore, 1) := by decide +kernel
theorem dX8_plate_98 : decode cX8_plate 98 = .ok (.aload_n 0, 1) := by decide +kernel
theorem dX8_plate_99 : decode cX8_plate 99 = .ok (.dup, 1) := by decide +kernel
theorem dX8_plate_100 : decode cX8_plate 100 = .ok (.getfield 64, 3) := by decide +kernel
theorem dX8_plate_103 : decode cX8_plate 103 = .ok (.iconst 1, 1) := by decide +kernel
theorem dX8_plate_104 : decode cX8_plate 104 = .ok (.iadd, 1) := by decide +kernel
theorem dX8_plate_105 : decode cX8_plate 105 = .ok (.putfield 64, 3) := by decide +kernel
theorem dX8_plate_108 : decode cX8_plate 108 = .ok (.aload_n 0, 1) := by decide +kernel
theorem dX8_plate_109 : decode cX8_plate 109 = .ok (.getfield 64, 3) := by decide +kernel
theorem dX8_plate_112 : decode cX8_plate 112 = .ok (.iconst 1, 1) := by decide +kernel
theorem dX8_plate_113 : decode cX8_plate 113 = .ok (.isub, 1) := by decide +kernel
theorem dX8_plate_114 : decode cX8_plate 114 = .ok (.ireturn, 1) := by decide +kernel
set_option maxRecDepth 20000 in
theorem ggX8_thick_X8_isPlate : GoodIn wsX8_thick wsX8_isPlate := goodIn_r _ [6, 7, 8, 9, 5, 10, 14, 15, 16, 17, 18, 19, 20, 21, 22, 23, 24, 25, 26, 27, 28, 29, 30, 31, 32, 33] (by decide +kernel) (by decide +kernel)
set_option maxRecDepth 20000 in
theorem gX8_thick_X8_isPlate : GoodIn wsX8_thick (wsV RX8 71 RX8 yX8_isPlate wsX8_isPlate) := goodIn_app (goodIn_of _ (by decide +kernel)) ggX8_thick_X8_isPlate
set_option maxRecDepth 20000 in
theorem ggX8_thick_X8_isFour : GoodIn wsX8_thick wsX8_isFour := goodIn_r _ [13, 8, 9, 5, 10] (by decide +kernel) (by decide +kernel)
set_option maxRecDepth 20000 in
theorem gX8_thick_X8_isFour : GoodIn wsX8_thick (va_wsS RX8 74 yX8_isFour wsX8_isFour) := goodIn_app (goodIn_of _ (by decide +kernel)) ggX8_thick_X8_isFour
theorem dX8_thick_0 : decode cX8_thick 0 = .ok (.aload_n 0, 1) := by decide +kernel
theorem dX8_thick_1 : decode cX8_thick 1 = .ok (.iload_n 1, 1) := by decide +kernel
theorem dX8_thick_2 : decode cX8_thick 2 = .ok (.invokevirtual 71, 3) := by decide +kernel
theorem dX8_thick_5 : decode cX8_thick 5 = .ok (.ifCond .eq 23, 3) := by decide +kernel
theorem dX8_thick_8 : decode cX8_thick 8 = .ok (.iload_n 2, 1) := by decide +kernel
theorem dX8_thick_9 : decode cX8_thick 9 = .ok (.invokestatic 74, 3) := by decide +kernel
theorem dX8_thick_12 : decode cX8_thick 12 = .ok (.ifCond .eq 16, 3) := by decide +kernel
theorem dX8_thick_15 : decode cX8_thick 15 = .ok (.aload_n 0, 1) := by decide +kernel
theorem dX8_thick_16 : decode cX8_thick 16 = .ok (.getfield 7, 3) := by decide +kernel
theorem dX8_thick_19 : decode cX8_thick 19 = .ok (.iconst 4, 1) := by decide +kernel
theorem dX8_thick_20 : decode cX8_thick 20 = .ok (.iload_n 1, 1) := by decide +kernel
theorem dX8_thick_21 : decode cX8_thick 21 = .ok (.imul, 1) := by decide +kernel
theorem dX8_thick_22 : decode cX8_thick 22 = .ok (.iload_n 2, 1) := by decide +kernel
theorem dX8_thick_23 : decode cX8_thick 23 = .ok (.iadd, 1) := by decide +kernel
theorem dX8_thick_24 : decode cX8_thick 24 = .ok (.iaload, 1) := by decide +kernel
theorem dX8_thick_25 : decode cX8_thick 25 = .ok (.goto 5, 3) := by decide +kernel
theorem dX8_thick_28 : decode cX8_thick 28 = .ok (.bipush (-2), 2) := by decide +kernel
theorem dX8_thick_30 : decode cX8_thick 30 = .ok (.ireturn, 1) := by decide +kernel
set_option maxRecDepth 20000 in
theorem ggX8_least_X8_isThick : GoodIn wsX8_least wsX8_isThick := goodIn_r _ [5, 6, 7, 4, 8] (by decide +kernel) (by decide +kernel)
set_option maxRecDepth 20000 in
theorem gX8_least_X8_isThick : GoodIn wsX8_least (va_wsS RX8 67 yX8_isThick wsX8_isThick) := goodIn_app (goodIn_of _ (by decide +kernel)) ggX8_least_X8_isThick
theorem dX8_least_0 : decode cX8_least 0 = .ok (.iload_n 1, 1) := by decide +kernel
theorem dX8_least_1 : decode cX8_least 1 = .ok (.invokestatic 67, 3) := by decide +kernel
theorem dX8_least_4 : decode cX8_least 4 = .ok (.ifCond .ne 6, 3) := by decide +kernel
theorem dX8_least_7 : decode cX8_least 7 = .ok (.bipush (-2), 2) := by decide +kernel
theorem dX8_least_9 : decode cX8_least 9 = .ok (.ireturn, 1) := by decide +kernel
theorem dX8_least_10 : decode cX8_least 10 = .ok (.aload_n 0, 1) := by decide +kernel
theorem dX8_least_11 : decode cX8_least 11 = .ok (.getfield 13, 3) := by decide +kernel
theorem dX8_least_14 : decode cX8_least 14 = .ok (.istore_n 2, 1) := by decide +kernel
theorem dX8_least_15 : decode cX8_least 15 = .ok (.aload_n 0, 1) := by decide +kernel
theorem dX8_least_16 : decode cX8_least 16 = .ok (.iload_n 1, 1) := by decide +kernel
theorem dX8_least_17 : decode cX8_least 17 = .ok (.putfield 13, 3) := by decide +kernel
theorem dX8_least_20 : decode cX8_least 20 = .ok (.iload_n 2, 1) := by decide +kernel
theorem dX8_least_21 : decode cX8_least 21 = .ok (.ireturn, 1) := by decide +kernel
theorem dX8_shaveOff_0 : decode cX8_shaveOff 0 = .ok (.aload_n 0, 1) := by decide +kernel
theorem dX8_shaveOff_1 : decode cX8_shaveOff 1 = .ok (.getfield 7, 3) := by decide +kernel
theorem dX8_shaveOff_4 : decode cX8_shaveOff 4 = .ok (.iconst 4, 1) := by decide +kernel
theorem dX8_shaveOff_5 : decode cX8_shaveOff 5 = .ok (.iload_n 1, 1) := by decide +kernel
theorem dX8_shaveOff_6 : decode cX8_shaveOff 6 = .ok (.imul, 1) := by decide +kernel
theorem dX8_shaveOff_7 : decode cX8_shaveOff 7 = .ok (.iload_n 2, 1) := by decide +kernel
theorem dX8_shaveOff_8 : decode cX8_shaveOff 8 = .ok (.iadd, 1) := by decide +kernel
theorem dX8_shaveOff_9 : decode cX8_shaveOff 9 = .ok (.dup2, 1) := by decide +kernel
theorem dX8_shaveOff_10 : decode cX8_shaveOff 10 = .ok (.iaload, 1) := by decide +kernel
theorem dX8_shaveOff_11 : decode cX8_shaveOff 11 = .ok (.iconst 1, 1) := by decide +kernel
theorem dX8_shaveOff_12 : decode cX8_shaveOff 12 = .ok (.isub, 1) := by decide +kernel
theorem dX8_shaveOff_13 : decode cX8_shaveOff 13 = .ok (.iastore, 1) := by decide +kernel
theorem dX8_shaveOff_14 : decode cX8_shaveOff 14 = .ok (.aload_n 0, 1) := by decide +kernel
theorem dX8_shaveOff_15 : decode cX8_shaveOff 15 = .ok (.getfield 20, 3) := by decide +kernel
theorem dX8_shaveOff_18 : decode cX8_shaveOff 18 = .ok (.bipush 20, 2) := by decide +kernel
theorem dX8_shaveOff_20 : decode cX8_shaveOff 20 = .ok (.iload_n 1, 1) := by decide +kernel
theorem dX8_shaveOff_21 : decode cX8_shaveOff 21 = .ok (.imul, 1) := by decide +kernel
theorem dX8_shaveOff_22 : decode cX8_shaveOff 22 = .ok (.aload_n 0, 1) := by decide +kernel
theorem dX8_shaveOff_23 : decode cX8_shaveOff 23 = .ok (.getfield 17, 3) := by decide +kernel
theorem dX8_shaveOff_26 : decode cX8_shaveOff 26 = .ok (.iload_n 1, 1) := by decide +kernel
theorem dX8_shaveOff_27 : decode cX8_shaveOff 27 = .ok (.iaload, 1) := by decide +kernel
theorem dX8_shaveOff_28 : decode cX8_shaveOff 28 = .ok (.iadd, 1) := by decide +kernel
theorem dX8_shaveOff_29 : decode cX8_shaveOff 29 = .ok (.iload_n 2, 1) := by decide +kernel
theorem dX8_shaveOff_30 : decode cX8_shaveOff 30 = .ok (.iastore, 1) := by decide +kernel
theorem dX8_shaveOff_31 : decode cX8_shaveOff 31 = .ok (.aload_n 0, 1) := by decide +kernel
theorem dX8_shaveOff_32 : decode cX8_shaveOff 32 = .ok (.getfield 17, 3) := by decide +kernel
theorem dX8_shaveOff_35 : decode cX8_shaveOff 35 = .ok (.iload_n 1, 1) := by decide +kernel
theorem dX8_shaveOff_36 : decode cX8_shaveOff 36 = .ok (.dup2, 1) := by decide +kernel
theorem dX8_shaveOff_37 : decode cX8_shaveOff 37 = .ok (.iaload, 1) := by decide +kernel
theorem dX8_shaveOff_38 : decode cX8_shaveOff 38 = .ok (.iconst 1, 1) := by decide +kernel
theorem dX8_shaveOff_39 : decode cX8_shaveOff 39 = .ok (.iadd, 1) := by decide +kernel
theorem dX8_shaveOff_40 : decode cX8_shaveOff 40 = .ok (.iastore, 1) := by decide +kernel
theorem dX8_shaveOff_41 : decode cX8_shaveOff 41 = .ok (.return_, 1) := by decide +kernel
set_option maxRecDepth 20000 in
theorem ggX8_shave_X8_isPlate : GoodIn wsX8_shave wsX8_isPlate := goodIn_r _ [8, 9, 10, 11, 7, 12, 21, 22, 23, 24, 25, 26, 27, 28, 29, 30, 31, 32, 33, 34, 35, 36, 37, 38, 39, 40] (by decide +kernel) (by decide +kernel)
set_option maxRecDepth 20000 in
theorem gX8_shave_X8_isPlate : GoodIn wsX8_shave (wsV RX8 71 RX8 yX8_isPlate wsX8_isPlate) := goodIn_app (goodIn_of _ (by decide +kernel)) ggX8_shave_X8_isPlate
set_option maxRecDepth 20000 in
theorem ggX8_shave_X8_isFour : GoodIn wsX8_shave wsX8_isFour := goodIn_r _ [15, 10, 11, 7, 12] (by decide +kernel) (by decide +kernel)
set_option maxRecDepth 20000 in
theorem gX8_shave_X8_isFour : GoodIn wsX8_shave (va_wsS RX8 74 yX8_isFour wsX8_isFour) := goodIn_app (goodIn_of _ (by decide +kernel)) ggX8_shave_X8_isFour
set_option maxRecDepth 20000 in
theorem ggX8_shave_X8_shaveOff : GoodIn wsX8_shave wsX8_shaveOff := goodIn_r _ [19, 1, 20, 3, 21, 22, 23, 24, 25, 26, 27, 28, 29, 30, 31, 32, 33, 34, 35, 36, 37, 38, 39, 40] (by decide +kernel) (by decide +kernel)
set_option maxRecDepth 20000 in
theorem gX8_shave_X8_shaveOff : GoodIn wsX8_shave (wsV RX8 77 RX8 yX8_shaveOff wsX8_shaveOff) := goodIn_app (goodIn_of _ (by decide +kernel)) ggX8_shave_X8_shaveOff
theorem dX8_shave_0 : decode cX8_shave 0 = .ok (.aload_n 0, 1) := by decide +kernel
theorem dX8_shave_1 : decode cX8_shave 1 = .ok (.iload_n 1, 1) := by decide +kernel
theorem dX8_shave_2 : decode cX8_shave 2 = .ok (.invokevirtual 71, 3) := by decide +kernel
theorem dX8_shave_5 : decode cX8_shave 5 = .ok (.ifCond .eq 10, 3) := by decide +kernel
theorem dX8_shave_8 : decode cX8_shave 8 = .ok (.iload_n 2, 1) := by decide +kernel
theorem dX8_shave_9 : decode cX8_shave 9 = .ok (.invokestatic 74, 3) := by decide +kernel
theorem dX8_shave_12 : decode cX8_shave 12 = .ok (.ifCond .ne 6, 3) := by decide +kernel
theorem dX8_shave_15 : decode cX8_shave 15 = .ok (.bipush (-2), 2) := by decide +kernel
theorem dX8_shave_17 : decode cX8_shave 17 = .ok (.ireturn, 1) := by decide +kernel
theorem dX8_shave_18 : decode cX8_shave 18 = .ok (.aload_n 0, 1) := by decide +kernel
end
section
theorem dX8_shave_19 : decode cX8_shave 19 = .ok (.getfield 7, 3) := by decide +kernel
theorem dX8_shave_22 : decode cX8_shave 22 = .ok (.iconst 4, 1) := by decide +kernel
theorem dX8_shave_23 : decode cX8_shave 23 = .ok (.iload_n 1, 1) := by decide +kernel
theorem dX8_shave_24 : decode cX8_shave 24 = .ok (.imul, 1) := by decide +kernel
theorem dX8_shave_25 : decode cX8_shave 25 = .ok (.iload_n 2, 1) := by decide +kernel
theorem dX8_shave_26 : decode cX8_shave 26 = .ok (.iadd, 1) := by decide +kernel
theorem dX8_shave_27 : decode cX8_shave 27 = .ok (.iaload, 1) := by decide +kernel
theorem dX8_shave_28 : decode cX8_shave 28 = .ok (.aload_n 0, 1) := by decide +kernel
theorem dX8_shave_29 : decode cX8_shave 29 = .ok (.getfield 13, 3) := by decide +kernel
theorem dX8_shave_32 : decode cX8_shave 32 = .ok (.if_icmp .gt 6, 3) := by decide +kernel
theorem dX8_shave_35 : decode cX8_shave 35 = .ok (.bipush (-3), 2) := by decide +kernel
theorem dX8_shave_37 : decode cX8_shave 37 = .ok (.ireturn, 1) := by decide +kernel
theorem dX8_shave_38 : decode cX8_shave 38 = .ok (.aload_n 0, 1) := by decide +kernel
theorem dX8_shave_39 : decode cX8_shave 39 = .ok (.getfield 17, 3) := by decide +kernel
theorem dX8_shave_42 : decode cX8_shave 42 = .ok (.iload_n 1, 1) := by decide +kernel
theorem dX8_shave_43 : decode cX8_shave 43 = .ok (.iaload, 1) := by decide +kernel
theorem dX8_shave_44 : decode cX8_shave 44 = .ok (.bipush 20, 2) := by decide +kernel
theorem dX8_shave_46 : decode cX8_shave 46 = .ok (.if_icmp .ne 6, 3) := by decide +kernel
theorem dX8_shave_49 : decode cX8_shave 49 = .ok (.bipush (-4), 2) := by decide +kernel
theorem dX8_shave_51 : decode cX8_shave 51 = .ok (.ireturn, 1) := by decide +kernel
theorem dX8_shave_52 : decode cX8_shave 52 = .ok (.aload_n 0, 1) := by decide +kernel
theorem dX8_shave_53 : decode cX8_shave 53 = .ok (.iload_n 1, 1) := by decide +kernel
theorem dX8_shave_54 : decode cX8_shave 54 = .ok (.iload_n 2, 1) := by decide +kernel
theorem dX8_shave_55 : decode cX8_shave 55 = .ok (.invokevirtual 77, 3) := by decide +kernel
theorem dX8_shave_58 : decode cX8_shave 58 = .ok (.aload_n 0, 1) := by decide +kernel
theorem dX8_shave_59 : decode cX8_shave 59 = .ok (.getfield 7, 3) := by decide +kernel
theorem dX8_shave_62 : decode cX8_shave 62 = .ok (.iconst 4, 1) := by decide +kernel
theorem dX8_shave_63 : decode cX8_shave 63 = .ok (.iload_n 1, 1) := by decide +kernel
theorem dX8_shave_64 : decode cX8_shave 64 = .ok (.imul, 1) := by decide +kernel
theorem dX8_shave_65 : decode cX8_shave 65 = .ok (.iload_n 2, 1) := by decide +kernel
theorem dX8_shave_66 : decode cX8_shave 66 = .ok (.iadd, 1) := by decide +kernel
theorem dX8_shave_67 : decode cX8_shave 67 = .ok (.iaload, 1) := by decide +kernel
theorem dX8_shave_68 : decode cX8_shave 68 = .ok (.ireturn, 1) := by decide +kernel
set_option maxRecDepth 20000 in
theorem ggX8_undo_X8_isPlate : GoodIn wsX8_undo wsX8_isPlate := goodIn_r _ [8, 9, 10, 11, 7, 12, 13, 14, 15, 16, 17, 18, 19, 20, 21, 22, 23, 24, 25, 26, 27, 28, 29, 30, 31, 32] (by decide +kernel) (by decide +kernel)
set_option maxRecDepth 20000 in
theorem gX8_undo_X8_isPlate : GoodIn wsX8_undo (wsV RX8 71 RX8 yX8_isPlate wsX8_isPlate) := goodIn_app (goodIn_of _ (by decide +kernel)) ggX8_undo_X8_isPlate
theorem dX8_undo_0 : decode cX8_undo 0 = .ok (.aload_n 0, 1) := by decide +kernel
theorem dX8_undo_1 : decode cX8_undo 1 = .ok (.iload_n 1, 1) := by decide +kernel
theorem dX8_undo_2 : decode cX8_undo 2 = .ok (.invokevirtual 71, 3) := by decide +kernel
theorem dX8_undo_5 : decode cX8_undo 5 = .ok (.ifCond .ne 6, 3) := by decide +kernel
theorem dX8_undo_8 : decode cX8_undo 8 = .ok (.bipush (-2), 2) := by decide +kernel
theorem dX8_undo_10 : decode cX8_undo 10 = .ok (.ireturn, 1) := by decide +kernel
theorem dX8_undo_11 : decode cX8_undo 11 = .ok (.aload_n 0, 1) := by decide +kernel
theorem dX8_undo_12 : decode cX8_undo 12 = .ok (.getfield 17, 3) := by decide +kernel
theorem dX8_undo_15 : decode cX8_undo 15 = .ok (.iload_n 1, 1) := by decide +kernel
theorem dX8_undo_16 : decode cX8_undo 16 = .ok (.iaload, 1) := by decide +kernel
theorem dX8_undo_17 : decode cX8_undo 17 = .ok (.ifCond .ne 6, 3) := by decide +kernel
theorem dX8_undo_20 : decode cX8_undo 20 = .ok (.bipush (-3), 2) := by decide +kernel
theorem dX8_undo_22 : decode cX8_undo 22 = .ok (.ireturn, 1) := by decide +kernel
theorem dX8_undo_23 : decode cX8_undo 23 = .ok (.aload_n 0, 1) := by decide +kernel
theorem dX8_undo_24 : decode cX8_undo 24 = .ok (.getfield 17, 3) := by decide +kernel
theorem dX8_undo_27 : decode cX8_undo 27 = .ok (.iload_n 1, 1) := by decide +kernel
theorem dX8_undo_28 : decode cX8_undo 28 = .ok (.dup2, 1) := by decide +kernel
theorem dX8_undo_29 : decode cX8_undo 29 = .ok (.iaload, 1) := by decide +kernel
theorem dX8_undo_30 : decode cX8_undo 30 = .ok (.iconst 1, 1) := by decide +kernel
theorem dX8_undo_31 : decode cX8_undo 31 = .ok (.isub, 1) := by decide +kernel
theorem dX8_undo_32 : decode cX8_undo 32 = .ok (.iastore, 1) := by decide +kernel
theorem dX8_undo_33 : decode cX8_undo 33 = .ok (.aload_n 0, 1) := by decide +kernel
theorem dX8_undo_34 : decode cX8_undo 34 = .ok (.getfield 20, 3) := by decide +kernel
theorem dX8_undo_37 : decode cX8_undo 37 = .ok (.bipush 20, 2) := by decide +kernel
theorem dX8_undo_39 : decode cX8_undo 39 = .ok (.iload_n 1, 1) := by decide +kernel
theorem dX8_undo_40 : decode cX8_undo 40 = .ok (.imul, 1) := by decide +kernel
theorem dX8_undo_41 : decode cX8_undo 41 = .ok (.aload_n 0, 1) := by decide +kernel
theorem dX8_undo_42 : decode cX8_undo 42 = .ok (.getfield 17, 3) := by decide +kernel
theorem dX8_undo_45 : decode cX8_undo 45 = .ok (.iload_n 1, 1) := by decide +kernel
theorem dX8_undo_46 : decode cX8_undo 46 = .ok (.iaload, 1) := by decide +kernel
theorem dX8_undo_47 : decode cX8_undo 47 = .ok (.iadd, 1) := by decide +kernel
theorem dX8_undo_48 : decode cX8_undo 48 = .ok (.iaload, 1) := by decide +kernel
theorem dX8_undo_49 : decode cX8_undo 49 = .ok (.istore_n 2, 1) := by decide +kernel
theorem dX8_undo_50 : decode cX8_undo 50 = .ok (.aload_n 0, 1) := by decide +kernel
theorem dX8_undo_51 : decode cX8_undo 51 = .ok (.getfield 7, 3) := by decide +kernel
theorem dX8_undo_54 : decode cX8_undo 54 = .ok (.iconst 4, 1) := by decide +kernel
theorem dX8_undo_55 : decode cX8_undo 55 = .ok (.iload_n 1, 1) := by decide +kernel
theorem dX8_undo_56 : decode cX8_undo 56 = .ok (.imul, 1) := by decide +kernel
theorem dX8_undo_57 : decode cX8_undo 57 = .ok (.iload_n 2, 1) := by decide +kernel
theorem dX8_undo_58 : decode cX8_undo 58 = .ok (.iadd, 1) := by decide +kernel
theorem dX8_undo_59 : decode cX8_undo 59 = .ok (.dup2, 1) := by decide +kernel
theorem dX8_undo_60 : decode cX8_undo 60 = .ok (.iaload, 1) := by decide +kernel
theorem dX8_undo_61 : decode cX8_undo 61 = .ok (.iconst 1, 1) := by decide +kernel
theorem dX8_undo_62 : decode cX8_undo 62 = .ok (.iadd, 1) := by decide +kernel
theorem dX8_undo_63 : decode cX8_undo 63 = .ok (.iastore, 1) := by decide +kernel
theorem dX8_undo_64 : decode cX8_undo 64 = .ok (.iload_n 2, 1) := by decide +kernel
theorem dX8_undo_65 : decode cX8_undo 65 = .ok (.ireturn, 1) := by decide +kernel
set_option maxRecDepth 20000 in
theorem ggX8_mirror_X8_isPlate : GoodIn wsX8_mirror wsX8_isPlate := goodIn_r _ [7, 8, 9, 10, 6, 11, 12, 13, 14, 15, 16, 17, 18, 19, 20, 21, 22, 23, 24, 25, 26, 27, 28, 29, 30, 31] (by decide +kernel) (by decide +kernel)
set_option maxRecDepth 20000 in
theorem gX8_mirror_X8_isPlate : GoodIn wsX8_mirror (wsV RX8 71 RX8 yX8_isPlate wsX8_isPlate) := goodIn_app (goodIn_of _ (by decide +kernel)) ggX8_mirror_X8_isPlate
theorem dX8_mirror_0 : decode cX8_mirror 0 = .ok (.aload_n 0, 1) := by decide +kernel
theorem dX8_mirror_1 : decode cX8_mirror 1 = .ok (.iload_n 1, 1) := by decide +kernel
theorem dX8_mirror_2 : decode cX8_mirror 2 = .ok (.invokevirtual 71, 3) := by decide +kernel
theorem dX8_mirror_5 : decode cX8_mirror 5 = .ok (.ifCond .ne 6, 3) := by decide +kernel
theorem dX8_mirror_8 : decode cX8_mirror 8 = .ok (.bipush (-2), 2) := by decide +kernel
theorem dX8_mirror_10 : decode cX8_mirror 10 = .ok (.ireturn, 1) := by decide +kernel
theorem dX8_mirror_11 : decode cX8_mirror 11 = .ok (.iconst 0, 1) := by decide +kernel
theorem dX8_mirror_12 : decode cX8_mirror 12 = .ok (.istore_n 2, 1) := by decide +kernel
theorem dX8_mirror_13 : decode cX8_mirror 13 = .ok (.iload_n 2, 1) := by decide +kernel
theorem dX8_mirror_14 : decode cX8_mirror 14 = .ok (.iconst 2, 1) := by decide +kernel
theorem dX8_mirror_15 : decode cX8_mirror 15 = .ok (.if_icmp .ge 55, 3) := by decide +kernel
theorem dX8_mirror_18 : decode cX8_mirror 18 = .ok (.aload_n 0, 1) := by decide +kernel
theorem dX8_mirror_19 : decode cX8_mirror 19 = .ok (.getfield 7, 3) := by decide +kernel
theorem dX8_mirror_22 : decode cX8_mirror 22 = .ok (.iconst 4, 1) := by decide +kernel
theorem dX8_mirror_23 : decode cX8_mirror 23 = .ok (.iload_n 1, 1) := by decide +kernel
theorem dX8_mirror_24 : decode cX8_mirror 24 = .ok (.imul, 1) := by decide +kernel
theorem dX8_mirror_25 : decode cX8_mirror 25 = .ok (.iload_n 2, 1) := by decide +kernel
theorem dX8_mirror_26 : decode cX8_mirror 26 = .ok (.iadd, 1) := by decide +kernel
theorem dX8_mirror_27 : decode cX8_mirror 27 = .ok (.iaload, 1) := by decide +kernel
theorem dX8_mirror_28 : decode cX8_mirror 28 = .ok (.istore_n 3, 1) := by decide +kernel
theorem dX8_mirror_29 : decode cX8_mirror 29 = .ok (.aload_n 0, 1) := by decide +kernel
theorem dX8_mirror_30 : decode cX8_mirror 30 = .ok (.getfield 7, 3) := by decide +kernel
theorem dX8_mirror_33 : decode cX8_mirror 33 = .ok (.iconst 4, 1) := by decide +kernel
theorem dX8_mirror_34 : decode cX8_mirror 34 = .ok (.iload_n 1, 1) := by decide +kernel
theorem dX8_mirror_35 : decode cX8_mirror 35 = .ok (.imul, 1) := by decide +kernel
theorem dX8_mirror_36 : decode cX8_mirror 36 = .ok (.iload_n 2, 1) := by decide +kernel
theorem dX8_mirror_37 : decode cX8_mirror 37 = .ok (.iadd, 1) := by decide +kernel
theorem dX8_mirror_38 : decode cX8_mirror 38 = .ok (.aload_n 0, 1) := by decide +kernel
theorem dX8_mirror_39 : decode cX8_mirror 39 = .ok (.getfield 7, 3) := by decide +kernel
theorem dX8_mirror_42 : decode cX8_mirror 42 = .ok (.iconst 4, 1) := by decide +kernel
theorem dX8_mirror_43 : decode cX8_mirror 43 = .ok (.iload_n 1, 1) := by decide +kernel
theorem dX8_mirror_44 : decode cX8_mirror 44 = .ok (.imul, 1) := by decide +kernel
theorem dX8_mirror_45 : decode cX8_mirror 45 = .ok (.iconst 3, 1) := by decide +kernel
theorem dX8_mirror_46 : decode cX8_mirror 46 = .ok (.iadd, 1) := by decide +kernel
theorem dX8_mirror_47 : decode cX8_mirror 47 = .ok (.iload_n 2, 1) := by decide +kernel
theorem dX8_mirror_48 : decode cX8_mirror 48 = .ok (.isub, 1) := by decide +kernel
theorem dX8_mirror_49 : decode cX8_mirror 49 = .ok (.iaload, 1) := by decide +kernel
theorem dX8_mirror_50 : decode cX8_mirror 50 = .ok (.iastore, 1) := by decide +kernel
theorem dX8_mirror_51 : decode cX8_mirror 51 = .ok (.aload_n 0, 1) := by decide +kernel
theorem dX8_mirror_52 : decode cX8_mirror 52 = .ok (.getfield 7, 3) := by decide +kernel
theorem dX8_mirror_55 : decode cX8_mirror 55 = .ok (.iconst 4, 1) := by decide +kernel
theorem dX8_mirror_56 : decode cX8_mirror 56 = .ok (.iload_n 1, 1) := by decide +kernel
theorem dX8_mirror_57 : decode cX8_mirror 57 = .ok (.imul, 1) := by decide +kernel
theorem dX8_mirror_58 : decode cX8_mirror 58 = .ok (.iconst 3, 1) := by decide +kernel
theorem dX8_mirror_59 : decode cX8_mirror 59 = .ok (.iadd, 1) := by decide +kernel
theorem dX8_mirror_60 : decode cX8_mirror 60 = .ok (.iload_n 2, 1) := by decide +kernel
theorem dX8_mirror_61 : decode cX8_mirror 61 = .ok (.isub, 1) := by decide +kernel
theorem dX8_mirror_62 : decode cX8_mirror 62 = .ok (.iload_n 3, 1) := by decide +kernel
theorem dX8_mirror_63 : decode cX8_mirror 63 = .ok (.iastore, 1) := by decide +kernel
theorem dX8_mirror_64 : decode cX8_mirror 64 = .ok (.iinc 2 1, 3) := by decide +kernel
theorem dX8_mirror_67 : decode cX8_mirror 67 = .ok (.goto (-54), 3) := by decide +kernel
theorem dX8_mirror_70 : decode cX8_mirror 70 = .ok (.aload_n 0, 1) := by decide +kernel
theorem dX8_mirror_71 : decode cX8_mirror 71 = .ok (.getfield 17, 3) := by decide +kernel
theorem dX8_mirror_74 : decode cX8_mirror 74 = .ok (.iload_n 1, 1) := by decide +kernel
theorem dX8_mirror_75 : decode cX8_mirror 75 = .ok (.iconst 0, 1) := by decide +kernel
theorem dX8_mirror_76 : decode cX8_mirror 76 = .ok (.iastore, 1) := by decide +kernel
theorem dX8_mirror_77 : decode cX8_mirror 77 = .ok (.iconst 1, 1) := by decide +kernel
theorem dX8_mirror_78 : decode cX8_mirror 78 = .ok (.ireturn, 1) := by decide +kernel
theorem dX8_take_0 : decode cX8_take 0 = .ok (.iconst 0, 1) := by decide +kernel
theorem dX8_take_1 : decode cX8_take 1 = .ok (.istore_n 3, 1) := by decide +kernel
theorem dX8_take_2 : decode cX8_take 2 = .ok (.iload_n 3, 1) := by decide +kernel
theorem dX8_take_3 : decode cX8_take 3 = .ok (.iconst 4, 1) := by decide +kernel
theorem dX8_take_4 : decode cX8_take 4 = .ok (.if_icmp .ge 22, 3) := by decide +kernel
theorem dX8_take_7 : decode cX8_take 7 = .ok (.aload_n 0, 1) := by decide +kernel
theorem dX8_take_8 : decode cX8_take 8 = .ok (.getfield 48, 3) := by decide +kernel
theorem dX8_take_11 : decode cX8_take 11 = .ok (.iload_n 3, 1) := by decide +kernel
theorem dX8_take_12 : decode cX8_take 12 = .ok (.aload_n 1, 1) := by decide +kernel
theorem dX8_take_13 : decode cX8_take 13 = .ok (.iconst 4, 1) := by decide +kernel
theorem dX8_take_14 : decode cX8_take 14 = .ok (.iload_n 2, 1) := by decide +kernel
theorem dX8_take_15 : decode cX8_take 15 = .ok (.imul, 1) := by decide +kernel
theorem dX8_take_16 : decode cX8_take 16 = .ok (.iload_n 3, 1) := by decide +kernel
theorem dX8_take_17 : decode cX8_take 17 = .ok (.iadd, 1) := by decide +kernel
theorem dX8_take_18 : decode cX8_take 18 = .ok (.iaload, 1) := by decide +kernel
theorem dX8_take_19 : decode cX8_take 19 = .ok (.iastore, 1) := by decide +kernel
theorem dX8_take_20 : decode cX8_take 20 = .ok (.iinc 3 1, 3) := by decide +kernel
theorem dX8_take_23 : decode cX8_take 23 = .ok (.goto (-21), 3) := by decide +kernel
theorem dX8_take_26 : decode cX8_take 26 = .ok (.return_, 1) := by decide +kernel
theorem dX8_bondOf_0 : decode cX8_bondOf 0 = .ok (.iload_n 2, 1) := by decide +kernel
theorem dX8_bondOf_1 : decode cX8_bondOf 1 = .ok (.ifCond .eq 8, 3) := by decide +kernel
theorem dX8_bondOf_4 : decode cX8_bondOf 4 = .ok (.iload_n 2, 1) := by decide +kernel
theorem dX8_bondOf_5 : decode cX8_bondOf 5 = .ok (.iconst 4, 1) := by decide +kernel
theorem dX8_bondOf_6 : decode cX8_bondOf 6 = .ok (.if_icmp .ne 36, 3) := by decide +kernel
theorem dX8_bondOf_9 : decode cX8_bondOf 9 = .ok (.aload_n 0, 1) := by decide +kernel
theorem dX8_bondOf_10 : decode cX8_bondOf 10 = .ok (.getfield 48, 3) := by decide +kernel
theorem dX8_bondOf_13 : decode cX8_bondOf 13 = .ok (.iload_n 2, 1) := by decide +kernel
theorem dX8_bondOf_14 : decode cX8_bondOf 14 = .ok (.ifCond .ne 7, 3) := by decide +kernel
theorem dX8_bondOf_17 : decode cX8_bondOf 17 = .ok (.iconst 0, 1) := by decide +kernel
theorem dX8_bondOf_18 : decode cX8_bondOf 18 = .ok (.goto 4, 3) := by decide +kernel
theorem dX8_bondOf_21 : decode cX8_bondOf 21 = .ok (.iconst 3, 1) := by decide +kernel
theorem dX8_bondOf_22 : decode cX8_bondOf 22 = .ok (.iaload, 1) := by decide +kernel
theorem dX8_bondOf_23 : decode cX8_bondOf 23 = .ok (.istore_n 3, 1) := by decide +kernel
theorem dX8_bondOf_24 : decode cX8_bondOf 24 = .ok (.iload_n 1, 1) := by decide +kernel
theorem dX8_bondOf_25 : decode cX8_bondOf 25 = .ok (.i2l, 1) := by decide +kernel
theorem dX8_bondOf_26 : decode cX8_bondOf 26 = .ok (.iload_n 3, 1) := by decide +kernel
theorem dX8_bondOf_27 : decode cX8_bondOf 27 = .ok (.i2l, 1) := by decide +kernel
theorem dX8_bondOf_28 : decode cX8_bondOf 28 = .ok (.lmul, 1) := by decide +kernel
theorem dX8_bondOf_29 : decode cX8_bondOf 29 = .ok (.iload_n 3, 1) := by decide +kernel
theorem dX8_bondOf_30 : decode cX8_bondOf 30 = .ok (.i2l, 1) := by decide +kernel
theorem dX8_bondOf_31 : decode cX8_bondOf 31 = .ok (.lmul, 1) := by decide +kernel
theorem dX8_bondOf_32 : decode cX8_bondOf 32 = .ok (.iload_n 3, 1) := by decide +kernel
theorem dX8_bondOf_33 : decode cX8_bondOf 33 = .ok (.i2l, 1) := by decide +kernel
theorem dX8_bondOf_34 : decode cX8_bondOf 34 = .ok (.lmul, 1) := by decide +kernel
theorem dX8_bondOf_35 : decode cX8_bondOf 35 = .ok (.ldc2_w 81, 3) := by decide +kernel
theorem dX8_bondOf_38 : decode cX8_bondOf 38 = .ok (.ldiv, 1) := by decide +kernel
theorem dX8_bondOf_39 : decode cX8_bondOf 39 = .ok (.lconst 1, 1) := by decide +kernel
theorem dX8_bondOf_40 : decode cX8_bondOf 40 = .ok (.ladd, 1) := by decide +kernel
theorem dX8_bondOf_41 : decode cX8_bondOf 41 = .ok (.lreturn, 1) := by decide +kernel
theorem dX8_bondOf_42 : decode cX8_bondOf 42 = .ok (.aload_n 0, 1) := by decide +kernel
theorem dX8_bondOf_43 : decode cX8_bondOf 43 = .ok (.getfield 48, 3) := by decide +kernel
theorem dX8_bondOf_46 : decode cX8_bondOf 46 = .ok (.iload_n 2, 1) := by decide +kernel
theorem dX8_bondOf_47 : decode cX8_bondOf 47 = .ok (.iaload, 1) := by decide +kernel
theorem dX8_bondOf_48 : decode cX8_bondOf 48 = .ok (.aload_n 0, 1) := by decide +kernel
theorem dX8_bondOf_49 : decode cX8_bondOf 49 = .ok (.getfield 48, 3) := by decide +kernel
theorem dX8_bondOf_52 : decode cX8_bondOf 52 = .ok (.iload_n 2, 1) := by decide +kernel
theorem dX8_bondOf_53 : decode cX8_bondOf 53 = .ok (.iconst 1, 1) := by decide +kernel
theorem dX8_bondOf_54 : decode cX8_bondOf 54 = .ok (.isub, 1) := by decide +kernel
theorem dX8_bondOf_55 : decode cX8_bondOf 55 = .ok (.iaload, 1) := by decide +kernel
theorem dX8_bondOf_56 : decode cX8_bondOf 56 = .ok (.if_icmp .ge 12, 3) := by decide +kernel
theorem dX8_bondOf_59 : decode cX8_bondOf 59 = .ok (.aload_n 0, 1) := by decide +kernel
theorem dX8_bondOf_60 : decode cX8_bondOf 60 = .ok (.getfield 48, 3) := by decide +kernel
theorem dX8_bondOf_63 : decode cX8_bondOf 63 = .ok (.iload_n 2, 1) := by decide +kernel
theorem dX8_bondOf_64 : decode cX8_bondOf 64 = .ok (.iaload, 1) := by decide +kernel
theorem dX8_bondOf_65 : decode cX8_bondOf 65 = .ok (.goto 11, 3) := by decide +kernel
theorem dX8_bondOf_68 : decode cX8_bondOf 68 = .ok (.aload_n 0, 1) := by decide +kernel
theorem dX8_bondOf_69 : decode cX8_bondOf 69 = .ok (.getfield 48, 3) := by decide +kernel
theorem dX8_bondOf_72 : decode cX8_bondOf 72 = .ok (.iload_n 2, 1) := by decide +kernel
theorem dX8_bondOf_73 : decode cX8_bondOf 73 = .ok (.iconst 1, 1) := by decide +kernel
theorem dX8_bondOf_74 : decode cX8_bondOf 74 = .ok (.isub, 1) := by decide +kernel
theorem dX8_bondOf_75 : decode cX8_bondOf 75 = .ok (.iaload, 1) := by decide +kernel
theorem dX8_bondOf_76 : decode cX8_bondOf 76 = .ok (.istore_n 3, 1) := by decide +kernel
theorem dX8_bondOf_77 : decode cX8_bondOf 77 = .ok (.iload_n 1, 1) := by decide +kernel
theorem dX8_bondOf_78 : decode cX8_bondOf 78 = .ok (.i2l, 1) := by decide +kernel
theorem dX8_bondOf_79 : decode cX8_bondOf 79 = .ok (.iload_n 3, 1) := by decide +kernel
theorem dX8_bondOf_80 : decode cX8_bondOf 80 = .ok (.i2l, 1) := by decide +kernel
theorem dX8_bondOf_81 : decode cX8_bondOf 81 = .ok (.lmul, 1) := by decide +kernel
theorem dX8_bondOf_82 : decode cX8_bondOf 82 = .ok (.iload_n 3, 1) := by decide +kernel
theorem dX8_bondOf_83 : decode cX8_bondOf 83 = .ok (.i2l, 1) := by decide +kernel
theorem dX8_bondOf_84 : decode cX8_bondOf 84 = .ok (.lmul, 1) := by decide +kernel
theorem dX8_bondOf_85 : decode cX8_bondOf 85 = .ok (.iload_n 3, 1) := by decide +kernel
theorem dX8_bondOf_86 : decode cX8_bondOf 86 = .ok (.i2l, 1) := by decide +kernel
theorem dX8_bondOf_87 : decode cX8_bondOf 87 = .ok (.lmul, 1) := by decide +kernel
theorem dX8_bondOf_88 : decode cX8_bondOf 88 = .ok (.ldc2_w 83, 3) := by decide +kernel
theorem dX8_bondOf_91 : decode cX8_bondOf 91 = .ok (.ldiv, 1) := by decide +kernel
theorem dX8_bondOf_92 : decode cX8_bondOf 92 = .ok (.lconst 1, 1) := by decide +kernel
theorem dX8_bondOf_93 : decode cX8_bondOf 93 = .ok (.ladd, 1) := by decide +kernel
theorem dX8_bondOf_94 : decode cX8_bondOf 94 = .ok (.lreturn, 1) := by decide +kernel
set_option maxRecDepth 20000 in
theorem ggX8_belowOf_X8_bondOf : GoodIn wsX8_belowOf wsX8_bondOf := goodIn_r _ [6, 1, 7, 8, 9, 10, 11, 12, 13, 14, 15, 16, 17, 18, 19, 20, 21, 22, 23, 24, 25, 26, 27, 28] (by decide +kernel) (by decide +kernel)
set_option maxRecDepth 20000 in
theorem gX8_belowOf_X8_bondOf : GoodIn wsX8_belowOf (wsV RX8 85 RX8 yX8_bondOf wsX8_bondOf) := goodIn_app (goodIn_of _ (by decide +kernel)) ggX8_belowOf_X8_bondOf
theorem dX8_belowOf_0 : decode cX8_belowOf 0 = .ok (.lconst 0, 1) := by decide +kernel
theorem dX8_belowOf_1 : decode cX8_belowOf 1 = .ok (.lstore 4, 2) := by decide +kernel
theorem dX8_belowOf_3 : decode cX8_belowOf 3 = .ok (.lconst 1, 1) := by decide +kernel
theorem dX8_belowOf_4 : decode cX8_belowOf 4 = .ok (.lstore 6, 2) := by decide +kernel
theorem dX8_belowOf_6 : decode cX8_belowOf 6 = .ok (.lconst 1, 1) := by decide +kernel
theorem dX8_belowOf_7 : decode cX8_belowOf 7 = .ok (.lstore 8, 2) := by decide +kernel
theorem dX8_belowOf_9 : decode cX8_belowOf 9 = .ok (.iconst 0, 1) := by decide +kernel
theorem dX8_belowOf_10 : decode cX8_belowOf 10 = .ok (.istore 10, 2) := by decide +kernel
theorem dX8_belowOf_12 : decode cX8_belowOf 12 = .ok (.iconst 0, 1) := by decide +kernel
theorem dX8_belowOf_13 : decode cX8_belowOf 13 = .ok (.istore 11, 2) := by decide +kernel
theorem dX8_belowOf_15 : decode cX8_belowOf 15 = .ok (.iload 11, 2) := by decide +kernel
theorem dX8_belowOf_17 : decode cX8_belowOf 17 = .ok (.iconst 4, 1) := by decide +kernel
theorem dX8_belowOf_18 : decode cX8_belowOf 18 = .ok (.if_icmp .ge 129, 3) := by decide +kernel
theorem dX8_belowOf_21 : decode cX8_belowOf 21 = .ok (.iload 11, 2) := by decide +kernel
theorem dX8_belowOf_23 : decode cX8_belowOf 23 = .ok (.ifCond .ne 7, 3) := by decide +kernel
theorem dX8_belowOf_26 : decode cX8_belowOf 26 = .ok (.lconst 0, 1) := by decide +kernel
theorem dX8_belowOf_27 : decode cX8_belowOf 27 = .ok (.goto 10, 3) := by decide +kernel
theorem dX8_belowOf_30 : decode cX8_belowOf 30 = .ok (.aload_n 0, 1) := by decide +kernel
theorem dX8_belowOf_31 : decode cX8_belowOf 31 = .ok (.iload_n 1, 1) := by decide +kernel
theorem dX8_belowOf_32 : decode cX8_belowOf 32 = .ok (.iload 11, 2) := by decide +kernel
theorem dX8_belowOf_34 : decode cX8_belowOf 34 = .ok (.invokevirtual 85, 3) := by decide +kernel
theorem dX8_belowOf_37 : decode cX8_belowOf 37 = .ok (.lstore 12, 2) := by decide +kernel
theorem dX8_belowOf_39 : decode cX8_belowOf 39 = .ok (.aload_n 0, 1) := by decide +kernel
theorem dX8_belowOf_40 : decode cX8_belowOf 40 = .ok (.iload_n 1, 1) := by decide +kernel
theorem dX8_belowOf_41 : decode cX8_belowOf 41 = .ok (.iload 11, 2) := by decide +kernel
theorem dX8_belowOf_43 : decode cX8_belowOf 43 = .ok (.invokevirtual 85, 3) := by decide +kernel
theorem dX8_belowOf_46 : decode cX8_belowOf 46 = .ok (.aload_n 0, 1) := by decide +kernel
theorem dX8_belowOf_47 : decode cX8_belowOf 47 = .ok (.iload_n 1, 1) := by decide +kernel
theorem dX8_belowOf_48 : decode cX8_belowOf 48 = .ok (.iload 11, 2) := by decide +kernel
theorem dX8_belowOf_50 : decode cX8_belowOf 50 = .ok (.iconst 1, 1) := by decide +kernel
theorem dX8_belowOf_51 : decode cX8_belowOf 51 = .ok (.iadd, 1) := by decide +kernel
theorem dX8_belowOf_52 : decode cX8_belowOf 52 = .ok (.invokevirtual 85, 3) := by decide +kernel
theorem dX8_belowOf_55 : decode cX8_belowOf 55 = .ok (.ladd, 1) := by decide +kernel
theorem dX8_belowOf_56 : decode cX8_belowOf 56 = .ok (.iload_n 3, 1) := by decide +kernel
theorem dX8_belowOf_57 : decode cX8_belowOf 57 = .ok (.i2l, 1) := by decide +kernel
theorem dX8_belowOf_58 : decode cX8_belowOf 58 = .ok (.iload_n 2, 1) := by decide +kernel
theorem dX8_belowOf_59 : decode cX8_belowOf 59 = .ok (.i2l, 1) := by decide +kernel
theorem dX8_belowOf_60 : decode cX8_belowOf 60 = .ok (.lmul, 1) := by decide +kernel
theorem dX8_belowOf_61 : decode cX8_belowOf 61 = .ok (.aload_n 0, 1) := by decide +kernel
theorem dX8_belowOf_62 : decode cX8_belowOf 62 = .ok (.getfield 48, 3) := by decide +kernel
theorem dX8_belowOf_65 : decode cX8_belowOf 65 = .ok (.iload 11, 2) := by decide +kernel
theorem dX8_belowOf_67 : decode cX8_belowOf 67 = .ok (.iaload, 1) := by decide +kernel
theorem dX8_belowOf_68 : decode cX8_belowOf 68 = .ok (.i2l, 1) := by decide +kernel
theorem dX8_belowOf_69 : decode cX8_belowOf 69 = .ok (.lmul, 1) := by decide +kernel
theorem dX8_belowOf_70 : decode cX8_belowOf 70 = .ok (.lsub, 1) := by decide +kernel
theorem dX8_belowOf_71 : decode cX8_belowOf 71 = .ok (.lload 6, 2) := by decide +kernel
theorem dX8_belowOf_73 : decode cX8_belowOf 73 = .ok (.lmul, 1) := by decide +kernel
theorem dX8_belowOf_74 : decode cX8_belowOf 74 = .ok (.lload 12, 2) := by decide +kernel
theorem dX8_belowOf_76 : decode cX8_belowOf 76 = .ok (.lload 12, 2) := by decide +kernel
theorem dX8_belowOf_78 : decode cX8_belowOf 78 = .ok (.lmul, 1) := by decide +kernel
theorem dX8_belowOf_79 : decode cX8_belowOf 79 = .ok (.lload 4, 2) := by decide +kernel
theorem dX8_belowOf_81 : decode cX8_belowOf 81 = .ok (.lmul, 1) := by decide +kernel
theorem dX8_belowOf_82 : decode cX8_belowOf 82 = .ok (.lsub, 1) := by decide +kernel
theorem dX8_belowOf_83 : decode cX8_belowOf 83 = .ok (.lstore 14, 2) := by decide +kernel
theorem dX8_belowOf_85 : decode cX8_belowOf 85 = .ok (.lload 6, 2) := by decide +kernel
theorem dX8_belowOf_87 : decode cX8_belowOf 87 = .ok (.lstore 4, 2) := by decide +kernel
theorem dX8_belowOf_89 : decode cX8_belowOf 89 = .ok (.lload 14, 2) := by decide +kernel
theorem dX8_belowOf_91 : decode cX8_belowOf 91 = .ok (.lstore 6, 2) := by decide +kernel
theorem dX8_belowOf_93 : decode cX8_belowOf 93 = .ok (.lload 6, 2) := by decide +kernel
theorem dX8_belowOf_95 : decode cX8_belowOf 95 = .ok (.lconst 0, 1) := by decide +kernel
theorem dX8_belowOf_96 : decode cX8_belowOf 96 = .ok (.lcmp, 1) := by decide +kernel
theorem dX8_belowOf_97 : decode cX8_belowOf 97 = .ok (.ifCond .eq 44, 3) := by decide +kernel
theorem dX8_belowOf_100 : decode cX8_belowOf 100 = .ok (.iload 10, 2) := by decide +kernel
theorem dX8_belowOf_102 : decode cX8_belowOf 102 = .ok (.lload 6, 2) := by decide +kernel
theorem dX8_belowOf_104 : decode cX8_belowOf 104 = .ok (.lconst 0, 1) := by decide +kernel
theorem dX8_belowOf_105 : decode cX8_belowOf 105 = .ok (.lcmp, 1) := by decide +kernel
theorem dX8_belowOf_106 : decode cX8_belowOf 106 = .ok (.ifCond .le 7, 3) := by decide +kernel
theorem dX8_belowOf_109 : decode cX8_belowOf 109 = .ok (.iconst 1, 1) := by decide +kernel
theorem dX8_belowOf_110 : decode cX8_belowOf 110 = .ok (.goto 4, 3) := by decide +kernel
theorem dX8_belowOf_113 : decode cX8_belowOf 113 = .ok (.iconst 0, 1) := by decide +kernel
theorem dX8_belowOf_114 : decode cX8_belowOf 114 = .ok (.lload 8, 2) := by decide +kernel
theorem dX8_belowOf_116 : decode cX8_belowOf 116 = .ok (.lconst 0, 1) := by decide +kernel
theorem dX8_belowOf_117 : decode cX8_belowOf 117 = .ok (.lcmp, 1) := by decide +kernel
theorem dX8_belowOf_118 : decode cX8_belowOf 118 = .ok (.ifCond .le 7, 3) := by decide +kernel
theorem dX8_belowOf_121 : decode cX8_belowOf 121 = .ok (.iconst 1, 1) := by decide +kernel
theorem dX8_belowOf_122 : decode cX8_belowOf 122 = .ok (.goto 4, 3) := by decide +kernel
theorem dX8_belowOf_125 : decode cX8_belowOf 125 = .ok (.iconst 0, 1) := by decide +kernel
theorem dX8_belowOf_126 : decode cX8_belowOf 126 = .ok (.if_icmp .ne 7, 3) := by decide +kernel
theorem dX8_belowOf_129 : decode cX8_belowOf 129 = .ok (.iconst 0, 1) := by decide +kernel
theorem dX8_belowOf_130 : decode cX8_belowOf 130 = .ok (.goto 4, 3) := by decide +kernel
theorem dX8_belowOf_133 : decode cX8_belowOf 133 = .ok (.iconst 1, 1) := by decide +kernel
theorem dX8_belowOf_134 : decode cX8_belowOf 134 = .ok (.iadd, 1) := by decide +kernel
theorem dX8_belowOf_135 : decode cX8_belowOf 135 = .ok (.istore 10, 2) := by decide +kernel
theorem dX8_belowOf_137 : decode cX8_belowOf 137 = .ok (.lload 6, 2) := by decide +kernel
theorem dX8_belowOf_139 : decode cX8_belowOf 139 = .ok (.lstore 8, 2) := by decide +kernel
theorem dX8_belowOf_141 : decode cX8_belowOf 141 = .ok (.iinc 11 1, 3) := by decide +kernel
theorem dX8_belowOf_144 : decode cX8_belowOf 144 = .ok (.goto (-129), 3) := by decide +kernel
theorem dX8_belowOf_147 : decode cX8_belowOf 147 = .ok (.iload 10, 2) := by decide +kernel
theorem dX8_belowOf_149 : decode cX8_belowOf 149 = .ok (.ireturn, 1) := by decide +kernel
set_option maxRecDepth 20000 in
theorem ggX8_toneOf_X8_belowOf : GoodIn wsX8_toneOf wsX8_belowOf := goodIn_r _ [5, 6, 7, 8, 9, 4, 10, 11, 12, 13, 14, 15, 16, 17, 18, 19, 20, 21, 22, 23, 24, 25, 26, 27, 28, 29, 30, 31, 32] (by decide +kernel) (by decide +kernel)
set_option maxRecDepth 20000 in
theorem gX8_toneOf_X8_belowOf : GoodIn wsX8_toneOf (wsV RX8 89 RX8 yX8_belowOf wsX8_belowOf) := goodIn_app (goodIn_of _ (by decide +kernel)) ggX8_toneOf_X8_belowOf
theorem dX8_toneOf_0 : decode cX8_toneOf 0 = .ok (.iconst 0, 1) := by decide +kernel
theorem dX8_toneOf_1 : decode cX8_toneOf 1 = .ok (.istore 4, 2) := by decide +kernel
theorem dX8_toneOf_3 : decode cX8_toneOf 3 = .ok (.sipush 500, 3) := by decide +kernel
theorem dX8_toneOf_6 : decode cX8_toneOf 6 = .ok (.istore 5, 2) := by decide +kernel
theorem dX8_toneOf_8 : decode cX8_toneOf 8 = .ok (.iload 4, 2) := by decide +kernel
theorem dX8_toneOf_10 : decode cX8_toneOf 10 = .ok (.iload 5, 2) := by decide +kernel
theorem dX8_toneOf_12 : decode cX8_toneOf 12 = .ok (.if_icmp .ge 42, 3) := by decide +kernel
theorem dX8_toneOf_15 : decode cX8_toneOf 15 = .ok (.iload 4, 2) := by decide +kernel
theorem dX8_toneOf_17 : decode cX8_toneOf 17 = .ok (.iload 5, 2) := by decide +kernel
theorem dX8_toneOf_19 : decode cX8_toneOf 19 = .ok (.iadd, 1) := by decide +kernel
theorem dX8_toneOf_20 : decode cX8_toneOf 20 = .ok (.iconst 1, 1) := by decide +kernel
theorem dX8_toneOf_21 : decode cX8_toneOf 21 = .ok (.iadd, 1) := by decide +kernel
theorem dX8_toneOf_22 : decode cX8_toneOf 22 = .ok (.iconst 2, 1) := by decide +kernel
theorem dX8_toneOf_23 : decode cX8_toneOf 23 = .ok (.idiv, 1) := by decide +kernel
theorem dX8_toneOf_24 : decode cX8_toneOf 24 = .ok (.istore 6, 2) := by decide +kernel
theorem dX8_toneOf_26 : decode cX8_toneOf 26 = .ok (.aload_n 0, 1) := by decide +kernel
theorem dX8_toneOf_27 : decode cX8_toneOf 27 = .ok (.iload_n 1, 1) := by decide +kernel
theorem dX8_toneOf_28 : decode cX8_toneOf 28 = .ok (.iload_n 2, 1) := by decide +kernel
theorem dX8_toneOf_29 : decode cX8_toneOf 29 = .ok (.iload 6, 2) := by decide +kernel
theorem dX8_toneOf_31 : decode cX8_toneOf 31 = .ok (.invokevirtual 89, 3) := by decide +kernel
theorem dX8_toneOf_34 : decode cX8_toneOf 34 = .ok (.iload_n 3, 1) := by decide +kernel
theorem dX8_toneOf_35 : decode cX8_toneOf 35 = .ok (.if_icmp .gt 10, 3) := by decide +kernel
theorem dX8_toneOf_38 : decode cX8_toneOf 38 = .ok (.iload 6, 2) := by decide +kernel
theorem dX8_toneOf_40 : decode cX8_toneOf 40 = .ok (.istore 4, 2) := by decide +kernel
theorem dX8_toneOf_42 : decode cX8_toneOf 42 = .ok (.goto 9, 3) := by decide +kernel
theorem dX8_toneOf_45 : decode cX8_toneOf 45 = .ok (.iload 6, 2) := by decide +kernel
theorem dX8_toneOf_47 : decode cX8_toneOf 47 = .ok (.iconst 1, 1) := by decide +kernel
theorem dX8_toneOf_48 : decode cX8_toneOf 48 = .ok (.isub, 1) := by decide +kernel
theorem dX8_toneOf_49 : decode cX8_toneOf 49 = .ok (.istore 5, 2) := by decide +kernel
theorem dX8_toneOf_51 : decode cX8_toneOf 51 = .ok (.goto (-43), 3) := by decide +kernel
theorem dX8_toneOf_54 : decode cX8_toneOf 54 = .ok (.iload 4, 2) := by decide +kernel
theorem dX8_toneOf_56 : decode cX8_toneOf 56 = .ok (.ireturn, 1) := by decide +kernel
set_option maxRecDepth 20000 in
theorem ggX8_isWood_X8_isThick : GoodIn wsX8_isWood wsX8_isThick := goodIn_r _ [4, 5, 6, 3, 7] (by decide +kernel) (by decide +kernel)
set_option maxRecDepth 20000 in
theorem gX8_isWood_X8_isThick : GoodIn wsX8_isWood (va_wsS RX8 67 yX8_isThick wsX8_isThick) := goodIn_app (goodIn_of _ (by decide +kernel)) ggX8_isWood_X8_isThick
theorem dX8_isWood_0 : decode cX8_isWood 0 = .ok (.iload_n 0, 1) := by decide +kernel
theorem dX8_isWood_1 : decode cX8_isWood 1 = .ok (.invokestatic 67, 3) := by decide +kernel
theorem dX8_isWood_4 : decode cX8_isWood 4 = .ok (.ifCond .eq 14, 3) := by decide +kernel
theorem dX8_isWood_7 : decode cX8_isWood 7 = .ok (.iload_n 1, 1) := by decide +kernel
theorem dX8_isWood_8 : decode cX8_isWood 8 = .ok (.invokestatic 67, 3) := by decide +kernel
theorem dX8_isWood_11 : decode cX8_isWood 11 = .ok (.ifCond .eq 7, 3) := by decide +kernel
theorem dX8_isWood_14 : decode cX8_isWood 14 = .ok (.iconst 1, 1) := by decide +kernel
theorem dX8_isWood_15 : decode cX8_isWood 15 = .ok (.goto 4, 3) := by decide +kernel
theorem dX8_isWood_18 : decode cX8_isWood 18 = .ok (.iconst 0, 1) := by decide +kernel
theorem dX8_isWood_19 : decode cX8_isWood 19 = .ok (.ireturn, 1) := by decide +kernel
set_option maxRecDepth 20000 in
theorem ggX8_tone_X8_isPlate : GoodIn wsX8_tone wsX8_isPlate := goodIn_r _ [6, 7, 8, 9, 5, 10, 39, 40, 41, 42, 43, 44, 45, 46, 47, 48, 49, 50, 51, 52, 53, 54, 55, 56, 57, 58] (by decide +kernel) (by decide +kernel)
set_option maxRecDepth 20000 in
theorem gX8_tone_X8_isPlate : GoodIn wsX8_tone (wsV RX8 71 RX8 yX8_isPlate wsX8_isPlate) := goodIn_app (goodIn_of _ (by decide +kernel)) ggX8_tone_X8_isPlate
set_option maxRecDepth 20000 in
theorem ggX8_tone_X8_isWood : GoodIn wsX8_tone wsX8_isWood := goodIn_r _ [13, 14, 15, 5, 16, 8, 9, 10] (by decide +kernel) (by decide +kernel)
set_option maxRecDepth 20000 in
theorem gX8_tone_X8_isWood : GoodIn wsX8_tone (va_wsS RX8 93 yX8_isWood wsX8_isWood) := goodIn_app (goodIn_of _ (by decide +kernel)) ggX8_tone_X8_isWood
set_option maxRecDepth 20000 in
theorem ggX8_tone_X8_isFour : GoodIn wsX8_tone wsX8_isFour := goodIn_r _ [19, 8, 9, 5, 10] (by decide +kernel) (by decide +kernel)
set_option maxRecDepth 20000 in
theorem gX8_tone_X8_isFour : GoodIn wsX8_tone (va_wsS RX8 74 yX8_isFour wsX8_isFour) := goodIn_app (goodIn_of _ (by decide +kernel)) ggX8_tone_X8_isFour
set_option maxRecDepth 20000 in
theorem ggX8_tone_X8_take : GoodIn wsX8_tone wsX8_take := goodIn_r _ [23, 24, 39, 40, 41, 42, 43, 44, 45, 46, 47, 48, 49, 50, 51, 52, 53, 54, 55, 56, 57, 58] (by decide +kernel) (by decide +kernel)
set_option maxRecDepth 20000 in
theorem gX8_tone_X8_take : GoodIn wsX8_tone (wsV RX8 97 RX8 yX8_take wsX8_take) := goodIn_app (goodIn_of _ (by decide +kernel)) ggX8_tone_X8_take
set_option maxRecDepth 20000 in
theorem ggX8_tone_X8_toneOf : GoodIn wsX8_tone wsX8_toneOf := goodIn_r _ [28, 29, 30, 31, 5, 32, 24, 33, 34, 35, 36, 37, 38, 39, 40, 41, 42, 43, 44, 45, 46, 47, 48, 49, 50, 51, 52, 53, 54, 55, 56, 57, 58] (by decide +kernel) (by decide +kernel)
set_option maxRecDepth 20000 in
theorem gX8_tone_X8_toneOf : GoodIn wsX8_tone (wsV RX8 101 RX8 yX8_toneOf wsX8_toneOf) := goodIn_app (goodIn_of _ (by decide +kernel)) ggX8_tone_X8_toneOf
theorem dX8_tone_0 : decode cX8_tone 0 = .ok (.aload_n 0, 1) := by decide +kernel
theorem dX8_tone_1 : decode cX8_tone 1 = .ok (.iload_n 1, 1) := by decide +kernel
theorem dX8_tone_2 : decode cX8_tone 2 = .ok (.invokevirtual 71, 3) := by decide +kernel
theorem dX8_tone_5 : decode cX8_tone 5 = .ok (.ifCond .eq 19, 3) := by decide +kernel
theorem dX8_tone_8 : decode cX8_tone 8 = .ok (.iload_n 2, 1) := by decide +kernel
theorem dX8_tone_9 : decode cX8_tone 9 = .ok (.iload_n 3, 1) := by decide +kernel
theorem dX8_tone_10 : decode cX8_tone 10 = .ok (.invokestatic 93, 3) := by decide +kernel
theorem dX8_tone_13 : decode cX8_tone 13 = .ok (.ifCond .eq 11, 3) := by decide +kernel
theorem dX8_tone_16 : decode cX8_tone 16 = .ok (.iload 4, 2) := by decide +kernel
theorem dX8_tone_18 : decode cX8_tone 18 = .ok (.invokestatic 74, 3) := by decide +kernel
theorem dX8_tone_21 : decode cX8_tone 21 = .ok (.ifCond .ne 6, 3) := by decide +kernel
theorem dX8_tone_24 : decode cX8_tone 24 = .ok (.bipush (-2), 2) := by decide +kernel
theorem dX8_tone_26 : decode cX8_tone 26 = .ok (.ireturn, 1) := by decide +kernel
theorem dX8_tone_27 : decode cX8_tone 27 = .ok (.aload_n 0, 1) := by decide +kernel
theorem dX8_tone_28 : decode cX8_tone 28 = .ok (.aload_n 0, 1) := by decide +kernel
theorem dX8_tone_29 : decode cX8_tone 29 = .ok (.getfield 7, 3) := by decide +kernel
theorem dX8_tone_32 : decode cX8_tone 32 = .ok (.iload_n 1, 1) := by decide +kernel
theorem dX8_tone_33 : decode cX8_tone 33 = .ok (.invokevirtual 97, 3) := by decide +kernel
theorem dX8_tone_36 : decode cX8_tone 36 = .ok (.aload_n 0, 1) := by decide +kernel
theorem dX8_tone_37 : decode cX8_tone 37 = .ok (.iload_n 2, 1) := by decide +kernel
theorem dX8_tone_38 : decode cX8_tone 38 = .ok (.iload_n 3, 1) := by decide +kernel
theorem dX8_tone_39 : decode cX8_tone 39 = .ok (.iload 4, 2) := by decide +kernel
theorem dX8_tone_41 : decode cX8_tone 41 = .ok (.invokevirtual 101, 3) := by decide +kernel
theorem dX8_tone_44 : decode cX8_tone 44 = .ok (.ireturn, 1) := by decide +kernel
set_option maxRecDepth 20000 in
theorem ggX8_below_X8_isPlate : GoodIn wsX8_below wsX8_isPlate := goodIn_r _ [6, 7, 8, 9, 5, 10, 32, 33, 34, 35, 36, 37, 38, 39, 40, 41, 42, 43, 44, 45, 46, 47, 48, 49, 50, 51] (by decide +kernel) (by decide +kernel)
set_option maxRecDepth 20000 in
theorem gX8_below_X8_isPlate : GoodIn wsX8_below (wsV RX8 71 RX8 yX8_isPlate wsX8_isPlate) := goodIn_app (goodIn_of _ (by decide +kernel)) ggX8_below_X8_isPlate
set_option maxRecDepth 20000 in
theorem ggX8_below_X8_isWood : GoodIn wsX8_below wsX8_isWood := goodIn_r _ [13, 14, 15, 5, 16, 8, 9, 10] (by decide +kernel) (by decide +kernel)
set_option maxRecDepth 20000 in
theorem gX8_below_X8_isWood : GoodIn wsX8_below (va_wsS RX8 93 yX8_isWood wsX8_isWood) := goodIn_app (goodIn_of _ (by decide +kernel)) ggX8_below_X8_isWood
set_option maxRecDepth 20000 in
theorem ggX8_below_X8_in : GoodIn wsX8_below wsX8_in := goodIn_r _ [10] (by decide +kernel) (by decide +kernel)
set_option maxRecDepth 20000 in
theorem gX8_below_X8_in : GoodIn wsX8_below (va_wsS RX8 60 yX8_in wsX8_in) := goodIn_app (goodIn_of _ (by decide +kernel)) ggX8_below_X8_in
set_option maxRecDepth 20000 in
theorem ggX8_below_X8_take : GoodIn wsX8_below wsX8_take := goodIn_r _ [20, 21, 32, 33, 34, 35, 36, 37, 38, 39, 40, 41, 42, 43, 44, 45, 46, 47, 48, 49, 50, 51] (by decide +kernel) (by decide +kernel)
set_option maxRecDepth 20000 in
theorem gX8_below_X8_take : GoodIn wsX8_below (wsV RX8 97 RX8 yX8_take wsX8_take) := goodIn_app (goodIn_of _ (by decide +kernel)) ggX8_below_X8_take
set_option maxRecDepth 20000 in
theorem ggX8_below_X8_belowOf : GoodIn wsX8_below wsX8_belowOf := goodIn_r _ [25, 21, 26, 27, 28, 5, 29, 30, 31, 32, 33, 34, 35, 36, 37, 38, 39, 40, 41, 42, 43, 44, 45, 46, 47, 48, 49, 50, 51] (by decide +kernel) (by decide +kernel)
set_option maxRecDepth 20000 in
theorem gX8_below_X8_belowOf : GoodIn wsX8_below (wsV RX8 89 RX8 yX8_belowOf wsX8_belowOf) := goodIn_app (goodIn_of _ (by decide +kernel)) ggX8_below_X8_belowOf
theorem dX8_below_0 : decode cX8_below 0 = .ok (.aload_n 0, 1) := by decide +kernel
theorem dX8_below_1 : decode cX8_below 1 = .ok (.iload_n 1, 1) := by decide +kernel
theorem dX8_below_2 : decode cX8_below 2 = .ok (.invokevirtual 71, 3) := by decide +kernel
theorem dX8_below_5 : decode cX8_below 5 = .ok (.ifCond .eq 23, 3) := by decide +kernel
theorem dX8_below_8 : decode cX8_below 8 = .ok (.iload_n 2, 1) := by decide +kernel
theorem dX8_below_9 : decode cX8_below 9 = .ok (.iload_n 3, 1) := by decide +kernel
theorem dX8_below_10 : decode cX8_below 10 = .ok (.invokestatic 93, 3) := by decide +kernel
theorem dX8_below_13 : decode cX8_below 13 = .ok (.ifCond .eq 15, 3) := by decide +kernel
theorem dX8_below_16 : decode cX8_below 16 = .ok (.iload 4, 2) := by decide +kernel
theorem dX8_below_18 : decode cX8_below 18 = .ok (.iconst 0, 1) := by decide +kernel
theorem dX8_below_19 : decode cX8_below 19 = .ok (.sipush 500, 3) := by decide +kernel
theorem dX8_below_22 : decode cX8_below 22 = .ok (.invokestatic 60, 3) := by decide +kernel
theorem dX8_below_25 : decode cX8_below 25 = .ok (.ifCond .ne 6, 3) := by decide +kernel
theorem dX8_below_28 : decode cX8_below 28 = .ok (.bipush (-2), 2) := by decide +kernel
theorem dX8_below_30 : decode cX8_below 30 = .ok (.ireturn, 1) := by decide +kernel
theorem dX8_below_31 : decode cX8_below 31 = .ok (.aload_n 0, 1) := by decide +kernel
theorem dX8_below_32 : decode cX8_below 32 = .ok (.aload_n 0, 1) := by decide +kernel
theorem dX8_below_33 : decode cX8_below 33 = .ok (.getfield 7, 3) := by decide +kernel
theorem dX8_below_36 : decode cX8_below 36 = .ok (.iload_n 1, 1) := by decide +kernel
theorem dX8_below_37 : decode cX8_below 37 = .ok (.invokevirtual 97, 3) := by decide +kernel
theorem dX8_below_40 : decode cX8_below 40 = .ok (.aload_n 0, 1) := by decide +kernel
theorem dX8_below_41 : decode cX8_below 41 = .ok (.iload_n 2, 1) := by decide +kernel
theorem dX8_below_42 : decode cX8_below 42 = .ok (.iload_n 3, 1) := by decide +kernel
theorem dX8_below_43 : decode cX8_below 43 = .ok (.iload 4, 2) := by decide +kernel
theorem dX8_below_45 : decode cX8_below 45 = .ok (.invokevirtual 89, 3) := by decide +kernel
theorem dX8_below_48 : decode cX8_below 48 = .ok (.ireturn, 1) := by decide +kernel
set_option maxRecDepth 20000 in
theorem ggX8_bond_X8_isPlate : GoodIn wsX8_bond wsX8_isPlate := goodIn_r _ [6, 7, 8, 9, 5, 10, 25, 26, 27, 28, 29, 30, 31, 32, 33, 34, 35, 36, 37, 38, 39, 40, 41, 42, 43, 44] (by decide +kernel) (by decide +kernel)
set_option maxRecDepth 20000 in
theorem gX8_bond_X8_isPlate : GoodIn wsX8_bond (wsV RX8 71 RX8 yX8_isPlate wsX8_isPlate) := goodIn_app (goodIn_of _ (by decide +kernel)) ggX8_bond_X8_isPlate
set_option maxRecDepth 20000 in
theorem ggX8_bond_X8_isThick : GoodIn wsX8_bond wsX8_isThick := goodIn_r _ [13, 8, 9, 5, 10] (by decide +kernel) (by decide +kernel)
set_option maxRecDepth 20000 in
theorem gX8_bond_X8_isThick : GoodIn wsX8_bond (va_wsS RX8 67 yX8_isThick wsX8_isThick) := goodIn_app (goodIn_of _ (by decide +kernel)) ggX8_bond_X8_isThick
set_option maxRecDepth 20000 in
theorem ggX8_bond_X8_in : GoodIn wsX8_bond wsX8_in := goodIn_r _ [10] (by decide +kernel) (by decide +kernel)
set_option maxRecDepth 20000 in
theorem gX8_bond_X8_in : GoodIn wsX8_bond (va_wsS RX8 60 yX8_in wsX8_in) := goodIn_app (goodIn_of _ (by decide +kernel)) ggX8_bond_X8_in
set_option maxRecDepth 20000 in
theorem ggX8_bond_X8_take : GoodIn wsX8_bond wsX8_take := goodIn_r _ [17, 18, 25, 26, 27, 28, 29, 30, 31, 32, 33, 34, 35, 36, 37, 38, 39, 40, 41, 42, 43, 44] (by decide +kernel) (by decide +kernel)
set_option maxRecDepth 20000 in
theorem gX8_bond_X8_take : GoodIn wsX8_bond (wsV RX8 97 RX8 yX8_take wsX8_take) := goodIn_app (goodIn_of _ (by decide +kernel)) ggX8_bond_X8_take
set_option maxRecDepth 20000 in
theorem ggX8_bond_X8_bondOf : GoodIn wsX8_bond wsX8_bondOf := goodIn_r _ [22, 18, 23, 24, 25, 26, 27, 28, 29, 30, 31, 32, 33, 34, 35, 36, 37, 38, 39, 40, 41, 42, 43, 44] (by decide +kernel) (by decide +kernel)
set_option maxRecDepth 20000 in
theorem gX8_bond_X8_bondOf : GoodIn wsX8_bond (wsV RX8 85 RX8 yX8_bondOf wsX8_bondOf) := goodIn_app (goodIn_of _ (by decide +kernel)) ggX8_bond_X8_bondOf
theorem dX8_bond_0 : decode cX8_bond 0 = .ok (.aload_n 0, 1) := by decide +kernel
theorem dX8_bond_1 : decode cX8_bond 1 = .ok (.iload_n 1, 1) := by decide +kernel
theorem dX8_bond_2 : decode cX8_bond 2 = .ok (.invokevirtual 71, 3) := by decide +kernel
theorem dX8_bond_5 : decode cX8_bond 5 = .ok (.ifCond .eq 19, 3) := by decide +kernel
theorem dX8_bond_8 : decode cX8_bond 8 = .ok (.iload_n 2, 1) := by decide +kernel
theorem dX8_bond_9 : decode cX8_bond 9 = .ok (.invokestatic 67, 3) := by decide +kernel
theorem dX8_bond_12 : decode cX8_bond 12 = .ok (.ifCond .eq 12, 3) := by decide +kernel
theorem dX8_bond_15 : decode cX8_bond 15 = .ok (.iload_n 3, 1) := by decide +kernel
theorem dX8_bond_16 : decode cX8_bond 16 = .ok (.iconst 0, 1) := by decide +kernel
theorem dX8_bond_17 : decode cX8_bond 17 = .ok (.iconst 4, 1) := by decide +kernel
theorem dX8_bond_18 : decode cX8_bond 18 = .ok (.invokestatic 60, 3) := by decide +kernel
theorem dX8_bond_21 : decode cX8_bond 21 = .ok (.ifCond .ne 6, 3) := by decide +kernel
theorem dX8_bond_24 : decode cX8_bond 24 = .ok (.bipush (-2), 2) := by decide +kernel
theorem dX8_bond_26 : decode cX8_bond 26 = .ok (.ireturn, 1) := by decide +kernel
theorem dX8_bond_27 : decode cX8_bond 27 = .ok (.aload_n 0, 1) := by decide +kernel
theorem dX8_bond_28 : decode cX8_bond 28 = .ok (.aload_n 0, 1) := by decide +kernel
theorem dX8_bond_29 : decode cX8_bond 29 = .ok (.getfield 7, 3) := by decide +kernel
theorem dX8_bond_32 : decode cX8_bond 32 = .ok (.iload_n 1, 1) := by decide +kernel
theorem dX8_bond_33 : decode cX8_bond 33 = .ok (.invokevirtual 97, 3) := by decide +kernel
theorem dX8_bond_36 : decode cX8_bond 36 = .ok (.aload_n 0, 1) := by decide +kernel
theorem dX8_bond_37 : decode cX8_bond 37 = .ok (.iload_n 2, 1) := by decide +kernel
theorem dX8_bond_38 : decode cX8_bond 38 = .ok (.iload_n 3, 1) := by decide +kernel
theorem dX8_bond_39 : decode cX8_bond 39 = .ok (.invokevirtual 85, 3) := by decide +kernel
theorem dX8_bond_42 : decode cX8_bond 42 = .ok (.l2i, 1) := by decide +kernel
theorem dX8_bond_43 : decode cX8_bond 43 = .ok (.ireturn, 1) := by decide +kernel
set_option maxRecDepth 20000 in
theorem ggX8_tap_X8_isPlate : GoodIn wsX8_tap wsX8_isPlate := goodIn_r _ [11, 12, 13, 14, 10, 15, 19, 20, 21, 22, 23, 24, 25, 26, 27, 28, 29, 30, 31, 32, 33, 34, 35, 36, 37, 38] (by decide +kernel) (by decide +kernel)
set_option maxRecDepth 20000 in
theorem gX8_tap_X8_isPlate : GoodIn wsX8_tap (wsV RX8 71 RX8 yX8_isPlate wsX8_isPlate) := goodIn_app (goodIn_of _ (by decide +kernel)) ggX8_tap_X8_isPlate
set_option maxRecDepth 20000 in
theorem ggX8_tap_X8_isFour : GoodIn wsX8_tap wsX8_isFour := goodIn_r _ [18, 13, 14, 10, 15] (by decide +kernel) (by decide +kernel)
set_option maxRecDepth 20000 in
theorem gX8_tap_X8_isFour : GoodIn wsX8_tap (va_wsS RX8 74 yX8_isFour wsX8_isFour) := goodIn_app (goodIn_of _ (by decide +kernel)) ggX8_tap_X8_isFour
set_option maxRecDepth 20000 in
theorem ggX8_tap_X8_in : GoodIn wsX8_tap wsX8_in := goodIn_r _ [15] (by decide +kernel) (by decide +kernel)
set_option maxRecDepth 20000 in
theorem gX8_tap_X8_in : GoodIn wsX8_tap (va_wsS RX8 60 yX8_in wsX8_in) := goodIn_app (goodIn_of _ (by decide +kernel)) ggX8_tap_X8_in
theorem dX8_tap_0 : decode cX8_tap 0 = .ok (.aload_n 0, 1) := by decide +kernel
theorem dX8_tap_1 : decode cX8_tap 1 = .ok (.iload_n 1, 1) := by decide +kernel
theorem dX8_tap_2 : decode cX8_tap 2 = .ok (.invokevirtual 71, 3) := by decide +kernel
theorem dX8_tap_5 : decode cX8_tap 5 = .ok (.ifCond .eq 33, 3) := by decide +kernel
theorem dX8_tap_8 : decode cX8_tap 8 = .ok (.iload_n 2, 1) := by decide +kernel
theorem dX8_tap_9 : decode cX8_tap 9 = .ok (.invokestatic 74, 3) := by decide +kernel
theorem dX8_tap_12 : decode cX8_tap 12 = .ok (.ifCond .eq 26, 3) := by decide +kernel
theorem dX8_tap_15 : decode cX8_tap 15 = .ok (.iload_n 3, 1) := by decide +kernel
theorem dX8_tap_16 : decode cX8_tap 16 = .ok (.iconst 0, 1) := by decide +kernel
theorem dX8_tap_17 : decode cX8_tap 17 = .ok (.sipush 500, 3) := by decide +kernel
theorem dX8_tap_20 : decode cX8_tap 20 = .ok (.invokestatic 60, 3) := by decide +kernel
theorem dX8_tap_23 : decode cX8_tap 23 = .ok (.ifCond .eq 15, 3) := by decide +kernel
theorem dX8_tap_26 : decode cX8_tap 26 = .ok (.iload 4, 2) := by decide +kernel
theorem dX8_tap_28 : decode cX8_tap 28 = .ok (.iload_n 3, 1) := by decide +kernel
theorem dX8_tap_29 : decode cX8_tap 29 = .ok (.sipush 500, 3) := by decide +kernel
theorem dX8_tap_32 : decode cX8_tap 32 = .ok (.invokestatic 60, 3) := by decide +kernel
theorem dX8_tap_35 : decode cX8_tap 35 = .ok (.ifCond .ne 6, 3) := by decide +kernel
theorem dX8_tap_38 : decode cX8_tap 38 = .ok (.bipush (-2), 2) := by decide +kernel
theorem dX8_tap_40 : decode cX8_tap 40 = .ok (.ireturn, 1) := by decide +kernel
theorem dX8_tap_41 : decode cX8_tap 41 = .ok (.aload_n 0, 1) := by decide +kernel
theorem dX8_tap_42 : decode cX8_tap 42 = .ok (.getfield 104, 3) := by decide +kernel
theorem dX8_tap_45 : decode cX8_tap 45 = .ok (.bipush 12, 2) := by decide +kernel
theorem dX8_tap_47 : decode cX8_tap 47 = .ok (.if_icmp .ne 6, 3) := by decide +kernel
theorem dX8_tap_50 : decode cX8_tap 50 = .ok (.bipush (-4), 2) := by decide +kernel
theorem dX8_tap_52 : decode cX8_tap 52 = .ok (.ireturn, 1) := by decide +kernel
theorem dX8_tap_53 : decode cX8_tap 53 = .ok (.iconst 0, 1) := by decide +kernel
theorem dX8_tap_54 : decode cX8_tap 54 = .ok (.istore 5, 2) := by decide +kernel
theorem dX8_tap_56 : decode cX8_tap 56 = .ok (.iload 5, 2) := by decide +kernel
theorem dX8_tap_58 : decode cX8_tap 58 = .ok (.iconst 4, 1) := by decide +kernel
theorem dX8_tap_59 : decode cX8_tap 59 = .ok (.if_icmp .ge 34, 3) := by decide +kernel
theorem dX8_tap_62 : decode cX8_tap 62 = .ok (.aload_n 0, 1) := by decide +kernel
theorem dX8_tap_63 : decode cX8_tap 63 = .ok (.getfield 23, 3) := by decide +kernel
theorem dX8_tap_66 : decode cX8_tap 66 = .ok (.iconst 4, 1) := by decide +kernel
theorem dX8_tap_67 : decode cX8_tap 67 = .ok (.aload_n 0, 1) := by decide +kernel
theorem dX8_tap_68 : decode cX8_tap 68 = .ok (.getfield 104, 3) := by decide +kernel
theorem dX8_tap_71 : decode cX8_tap 71 = .ok (.imul, 1) := by decide +kernel
theorem dX8_tap_72 : decode cX8_tap 72 = .ok (.iload 5, 2) := by decide +kernel
theorem dX8_tap_74 : decode cX8_tap 74 = .ok (.iadd, 1) := by decide +kernel
theorem dX8_tap_75 : decode cX8_tap 75 = .ok (.aload_n 0, 1) := by decide +kernel
theorem dX8_tap_76 : decode cX8_tap 76 = .ok (.getfield 7, 3) := by decide +kernel
theorem dX8_tap_79 : decode cX8_tap 79 = .ok (.iconst 4, 1) := by decide +kernel
theorem dX8_tap_80 : decode cX8_tap 80 = .ok (.iload_n 1, 1) := by decide +kernel
theorem dX8_tap_81 : decode cX8_tap 81 = .ok (.imul, 1) := by decide +kernel
theorem dX8_tap_82 : decode cX8_tap 82 = .ok (.iload 5, 2) := by decide +kernel
theorem dX8_tap_84 : decode cX8_tap 84 = .ok (.iadd, 1) := by decide +kernel
theorem dX8_tap_85 : decode cX8_tap 85 = .ok (.iaload, 1) := by decide +kernel
theorem dX8_tap_86 : decode cX8_tap 86 = .ok (.iastore, 1) := by decide +kernel
theorem dX8_tap_87 : decode cX8_tap 87 = .ok (.iinc 5 1, 3) := by decide +kernel
theorem dX8_tap_90 : decode cX8_tap 90 = .ok (.goto (-34), 3) := by decide +kernel
theorem dX8_tap_93 : decode cX8_tap 93 = .ok (.aload_n 0, 1) := by decide +kernel
theorem dX8_tap_94 : decode cX8_tap 94 = .ok (.getfield 26, 3) := by decide +kernel
theorem dX8_tap_97 : decode cX8_tap 97 = .ok (.aload_n 0, 1) := by decide +kernel
theorem dX8_tap_98 : decode cX8_tap 98 = .ok (.getfield 104, 3) := by decide +kernel
theorem dX8_tap_101 : decode cX8_tap 101 = .ok (.iload_n 2, 1) := by decide +kernel
theorem dX8_tap_102 : decode cX8_tap 102 = .ok (.iastore, 1) := by decide +kernel
theorem dX8_tap_103 : decode cX8_tap 103 = .ok (.aload_n 0, 1) := by decide +kernel
theorem dX8_tap_104 : decode cX8_tap 104 = .ok (.getfield 29, 3) := by decide +kernel
theorem dX8_tap_107 : decode cX8_tap 107 = .ok (.aload_n 0, 1) := by decide +kernel
theorem dX8_tap_108 : decode cX8_tap 108 = .ok (.getfield 104, 3) := by decide +kernel
theorem dX8_tap_111 : decode cX8_tap 111 = .ok (.iload_n 3, 1) := by decide +kernel
theorem dX8_tap_112 : decode cX8_tap 112 = .ok (.iastore, 1) := by decide +kernel
theorem dX8_tap_113 : decode cX8_tap 113 = .ok (.aload_n 0, 1) := by decide +kernel
theorem dX8_tap_114 : decode cX8_tap 114 = .ok (.getfield 32, 3) := by decide +kernel
theorem dX8_tap_117 : decode cX8_tap 117 = .ok (.aload_n 0, 1) := by decide +kernel
theorem dX8_tap_118 : decode cX8_tap 118 = .ok (.getfield 104, 3) := by decide +kernel
theorem dX8_tap_121 : decode cX8_tap 121 = .ok (.iload 4, 2) := by decide +kernel
theorem dX8_tap_123 : decode cX8_tap 123 = .ok (.iastore, 1) := by decide +kernel
theorem dX8_tap_124 : decode cX8_tap 124 = .ok (.aload_n 0, 1) := by decide +kernel
theorem dX8_tap_125 : decode cX8_tap 125 = .ok (.dup, 1) := by decide +kernel
theorem dX8_tap_126 : decode cX8_tap 126 = .ok (.getfield 104, 3) := by decide +kernel
theorem dX8_tap_129 : decode cX8_tap 129 = .ok (.iconst 1, 1) := by decide +kernel
theorem dX8_tap_130 : decode cX8_tap 130 = .ok (.iadd, 1) := by decide +kernel
theorem dX8_tap_131 : decode cX8_tap 131 = .ok (.putfield 104, 3) := by decide +kernel
theorem dX8_tap_134 : decode cX8_tap 134 = .ok (.aload_n 0, 1) := by decide +kernel
theorem dX8_tap_135 : decode cX8_tap 135 = .ok (.getfield 104, 3) := by decide +kernel
theorem dX8_tap_138 : decode cX8_tap 138 = .ok (.iconst 1, 1) := by decide +kernel
theorem dX8_tap_139 : decode cX8_tap 139 = .ok (.isub, 1) := by decide +kernel
theorem dX8_tap_140 : decode cX8_tap 140 = .ok (.ireturn, 1) := by decide +kernel
set_option maxRecDepth 20000 in
theorem ggX8_untap_X8_in : GoodIn wsX8_untap wsX8_in := goodIn_r _ [9] (by decide +kernel) (by decide +kernel)
set_option maxRecDepth 20000 in
theorem gX8_untap_X8_in : GoodIn wsX8_untap (va_wsS RX8 60 yX8_in wsX8_in) := goodIn_app (goodIn_of _ (by decide +kernel)) ggX8_untap_X8_in
theorem dX8_untap_0 : decode cX8_untap 0 = .ok (.iload_n 1, 1) := by decide +kernel
theorem dX8_untap_1 : decode cX8_untap 1 = .ok (.iconst 0, 1) := by decide +kernel
theorem dX8_untap_2 : decode cX8_untap 2 = .ok (.aload_n 0, 1) := by decide +kernel
theorem dX8_untap_3 : decode cX8_untap 3 = .ok (.getfield 104, 3) := by decide +kernel
theorem dX8_untap_6 : decode cX8_untap 6 = .ok (.iconst 1, 1) := by decide +kernel
theorem dX8_untap_7 : decode cX8_untap 7 = .ok (.isub, 1) := by decide +kernel
theorem dX8_untap_8 : decode cX8_untap 8 = .ok (.invokestatic 60, 3) := by decide +kernel
theorem dX8_untap_11 : decode cX8_untap 11 = .ok (.ifCond .ne 6, 3) := by decide +kernel
theorem dX8_untap_14 : decode cX8_untap 14 = .ok (.bipush (-2), 2) := by decide +kernel
theorem dX8_untap_16 : decode cX8_untap 16 = .ok (.ireturn, 1) := by decide +kernel
theorem dX8_untap_17 : decode cX8_untap 17 = .ok (.aload_n 0, 1) := by decide +kernel
theorem dX8_untap_18 : decode cX8_untap 18 = .ok (.dup, 1) := by decide +kernel
theorem dX8_untap_19 : decode cX8_untap 19 = .ok (.getfield 104, 3) := by decide +kernel
theorem dX8_untap_22 : decode cX8_untap 22 = .ok (.iconst 1, 1) := by decide +kernel
theorem dX8_untap_23 : decode cX8_untap 23 = .ok (.isub, 1) := by decide +kernel
theorem dX8_untap_24 : decode cX8_untap 24 = .ok (.putfield 104, 3) := by decide +kernel
theorem dX8_untap_27 : decode cX8_untap 27 = .ok (.iload_n 1, 1) := by decide +kernel
theorem dX8_untap_28 : decode cX8_untap 28 = .ok (.istore_n 2, 1) := by decide +kernel
theorem dX8_untap_29 : decode cX8_untap 29 = .ok (.iload_n 2, 1) := by decide +kernel
theorem dX8_untap_30 : decode cX8_untap 30 = .ok (.aload_n 0, 1) := by decide +kernel
theorem dX8_untap_31 : decode cX8_untap 31 = .ok (.getfield 104, 3) := by decide +kernel
theorem dX8_untap_34 : decode cX8_untap 34 = .ok (.if_icmp .ge 86, 3) := by decide +kernel
theorem dX8_untap_37 : decode cX8_untap 37 = .ok (.iconst 0, 1) := by decide +kernel
theorem dX8_untap_38 : decode cX8_untap 38 = .ok (.istore_n 3, 1) := by decide +kernel
theorem dX8_untap_39 : decode cX8_untap 39 = .ok (.iload_n 3, 1) := by decide +kernel
theorem dX8_untap_40 : decode cX8_untap 40 = .ok (.iconst 4, 1) := by decide +kernel
theorem dX8_untap_41 : decode cX8_untap 41 = .ok (.if_icmp .ge 31, 3) := by decide +kernel
theorem dX8_untap_44 : decode cX8_untap 44 = .ok (.aload_n 0, 1) := by decide +kernel
theorem dX8_untap_45 : decode cX8_untap 45 = .ok (.getfield 23, 3) := by decide +kernel
theorem dX8_untap_48 : decode cX8_untap 48 = .ok (.iconst 4, 1) := by decide +kernel
theorem dX8_untap_49 : decode cX8_untap 49 = .ok (.iload_n 2, 1) := by decide +kernel
theorem dX8_untap_50 : decode cX8_untap 50 = .ok (.imul, 1) := by decide +kernel
theorem dX8_untap_51 : decode cX8_untap 51 = .ok (.iload_n 3, 1) := by decide +kernel
theorem dX8_untap_52 : decode cX8_untap 52 = .ok (.iadd, 1) := by decide +kernel
theorem dX8_untap_53 : decode cX8_untap 53 = .ok (.aload_n 0, 1) := by decide +kernel
theorem dX8_untap_54 : decode cX8_untap 54 = .ok (.getfield 23, 3) := by decide +kernel
theorem dX8_untap_57 : decode cX8_untap 57 = .ok (.iconst 4, 1) := by decide +kernel
theorem dX8_untap_58 : decode cX8_untap 58 = .ok (.iload_n 2, 1) := by decide +kernel
theorem dX8_untap_59 : decode cX8_untap 59 = .ok (.imul, 1) := by decide +kernel
theorem dX8_untap_60 : decode cX8_untap 60 = .ok (.iconst 4, 1) := by decide +kernel
theorem dX8_untap_61 : decode cX8_untap 61 = .ok (.iadd, 1) := by decide +kernel
theorem dX8_untap_62 : decode cX8_untap 62 = .ok (.iload_n 3, 1) := by decide +kernel
theorem dX8_untap_63 : decode cX8_untap 63 = .ok (.iadd, 1) := by decide +kernel
theorem dX8_untap_64 : decode cX8_untap 64 = .ok (.iaload, 1) := by decide +kernel
end
section
theorem dX8_untap_65 : decode cX8_untap 65 = .ok (.iastore, 1) := by decide +kernel
theorem dX8_untap_66 : decode cX8_untap 66 = .ok (.iinc 3 1, 3) := by decide +kernel
theorem dX8_untap_69 : decode cX8_untap 69 = .ok (.goto (-30), 3) := by decide +kernel
theorem dX8_untap_72 : decode cX8_untap 72 = .ok (.aload_n 0, 1) := by decide +kernel
theorem dX8_untap_73 : decode cX8_untap 73 = .ok (.getfield 26, 3) := by decide +kernel
theorem dX8_untap_76 : decode cX8_untap 76 = .ok (.iload_n 2, 1) := by decide +kernel
theorem dX8_untap_77 : decode cX8_untap 77 = .ok (.aload_n 0, 1) := by decide +kernel
theorem dX8_untap_78 : decode cX8_untap 78 = .ok (.getfield 26, 3) := by decide +kernel
theorem dX8_untap_81 : decode cX8_untap 81 = .ok (.iload_n 2, 1) := by decide +kernel
theorem dX8_untap_82 : decode cX8_untap 82 = .ok (.iconst 1, 1) := by decide +kernel
theorem dX8_untap_83 : decode cX8_untap 83 = .ok (.iadd, 1) := by decide +kernel
theorem dX8_untap_84 : decode cX8_untap 84 = .ok (.iaload, 1) := by decide +kernel
theorem dX8_untap_85 : decode cX8_untap 85 = .ok (.iastore, 1) := by decide +kernel
theorem dX8_untap_86 : decode cX8_untap 86 = .ok (.aload_n 0, 1) := by decide +kernel
theorem dX8_untap_87 : decode cX8_untap 87 = .ok (.getfield 29, 3) := by decide +kernel
theorem dX8_untap_90 : decode cX8_untap 90 = .ok (.iload_n 2, 1) := by decide +kernel
theorem dX8_untap_91 : decode cX8_untap 91 = .ok (.aload_n 0, 1) := by decide +kernel
theorem dX8_untap_92 : decode cX8_untap 92 = .ok (.getfield 29, 3) := by decide +kernel
theorem dX8_untap_95 : decode cX8_untap 95 = .ok (.iload_n 2, 1) := by decide +kernel
theorem dX8_untap_96 : decode cX8_untap 96 = .ok (.iconst 1, 1) := by decide +kernel
theorem dX8_untap_97 : decode cX8_untap 97 = .ok (.iadd, 1) := by decide +kernel
theorem dX8_untap_98 : decode cX8_untap 98 = .ok (.iaload, 1) := by decide +kernel
theorem dX8_untap_99 : decode cX8_untap 99 = .ok (.iastore, 1) := by decide +kernel
theorem dX8_untap_100 : decode cX8_untap 100 = .ok (.aload_n 0, 1) := by decide +kernel
theorem dX8_untap_101 : decode cX8_untap 101 = .ok (.getfield 32, 3) := by decide +kernel
theorem dX8_untap_104 : decode cX8_untap 104 = .ok (.iload_n 2, 1) := by decide +kernel
theorem dX8_untap_105 : decode cX8_untap 105 = .ok (.aload_n 0, 1) := by decide +kernel
theorem dX8_untap_106 : decode cX8_untap 106 = .ok (.getfield 32, 3) := by decide +kernel
theorem dX8_untap_109 : decode cX8_untap 109 = .ok (.iload_n 2, 1) := by decide +kernel
theorem dX8_untap_110 : decode cX8_untap 110 = .ok (.iconst 1, 1) := by decide +kernel
theorem dX8_untap_111 : decode cX8_untap 111 = .ok (.iadd, 1) := by decide +kernel
theorem dX8_untap_112 : decode cX8_untap 112 = .ok (.iaload, 1) := by decide +kernel
theorem dX8_untap_113 : decode cX8_untap 113 = .ok (.iastore, 1) := by decide +kernel
theorem dX8_untap_114 : decode cX8_untap 114 = .ok (.iinc 2 1, 3) := by decide +kernel
theorem dX8_untap_117 : decode cX8_untap 117 = .ok (.goto (-88), 3) := by decide +kernel
theorem dX8_untap_120 : decode cX8_untap 120 = .ok (.iconst 1, 1) := by decide +kernel
theorem dX8_untap_121 : decode cX8_untap 121 = .ok (.ireturn, 1) := by decide +kernel
set_option maxRecDepth 20000 in
theorem ggX8_lies_X8_belowOf : GoodIn wsX8_lies wsX8_belowOf := goodIn_r _ [5, 6, 7, 8, 9, 4, 10, 11, 12, 13, 14, 15, 16, 17, 18, 19, 20, 21, 22, 23, 24, 25, 26, 27, 28, 29, 30, 31, 32] (by decide +kernel) (by decide +kernel)
set_option maxRecDepth 20000 in
theorem gX8_lies_X8_belowOf : GoodIn wsX8_lies (wsV RX8 89 RX8 yX8_belowOf wsX8_belowOf) := goodIn_app (goodIn_of _ (by decide +kernel)) ggX8_lies_X8_belowOf
theorem dX8_lies_0 : decode cX8_lies 0 = .ok (.aload_n 0, 1) := by decide +kernel
theorem dX8_lies_1 : decode cX8_lies 1 = .ok (.iload_n 1, 1) := by decide +kernel
theorem dX8_lies_2 : decode cX8_lies 2 = .ok (.iload_n 2, 1) := by decide +kernel
theorem dX8_lies_3 : decode cX8_lies 3 = .ok (.iload 4, 2) := by decide +kernel
theorem dX8_lies_5 : decode cX8_lies 5 = .ok (.invokevirtual 89, 3) := by decide +kernel
theorem dX8_lies_8 : decode cX8_lies 8 = .ok (.iload_n 3, 1) := by decide +kernel
theorem dX8_lies_9 : decode cX8_lies 9 = .ok (.if_icmp .gt 21, 3) := by decide +kernel
theorem dX8_lies_12 : decode cX8_lies 12 = .ok (.aload_n 0, 1) := by decide +kernel
theorem dX8_lies_13 : decode cX8_lies 13 = .ok (.iload_n 1, 1) := by decide +kernel
theorem dX8_lies_14 : decode cX8_lies 14 = .ok (.iload_n 2, 1) := by decide +kernel
theorem dX8_lies_15 : decode cX8_lies 15 = .ok (.iload 5, 2) := by decide +kernel
theorem dX8_lies_17 : decode cX8_lies 17 = .ok (.iconst 1, 1) := by decide +kernel
theorem dX8_lies_18 : decode cX8_lies 18 = .ok (.iadd, 1) := by decide +kernel
theorem dX8_lies_19 : decode cX8_lies 19 = .ok (.invokevirtual 89, 3) := by decide +kernel
theorem dX8_lies_22 : decode cX8_lies 22 = .ok (.iload_n 3, 1) := by decide +kernel
theorem dX8_lies_23 : decode cX8_lies 23 = .ok (.if_icmp .le 7, 3) := by decide +kernel
theorem dX8_lies_26 : decode cX8_lies 26 = .ok (.iconst 1, 1) := by decide +kernel
theorem dX8_lies_27 : decode cX8_lies 27 = .ok (.goto 4, 3) := by decide +kernel
theorem dX8_lies_30 : decode cX8_lies 30 = .ok (.iconst 0, 1) := by decide +kernel
theorem dX8_lies_31 : decode cX8_lies 31 = .ok (.ireturn, 1) := by decide +kernel
set_option maxRecDepth 20000 in
theorem ggX8_findWoods_X8_take : GoodIn wsX8_findWoods wsX8_take := goodIn_r _ [12, 13, 28, 29, 30, 31, 32, 33, 34, 35, 36, 37, 38, 39, 40, 41, 42, 43, 44, 45, 46, 47] (by decide +kernel) (by decide +kernel)
set_option maxRecDepth 20000 in
theorem gX8_findWoods_X8_take : GoodIn wsX8_findWoods (wsV RX8 97 RX8 yX8_take wsX8_take) := goodIn_app (goodIn_of _ (by decide +kernel)) ggX8_findWoods_X8_take
set_option maxRecDepth 20000 in
theorem ggX8_findWoods_X8_lies : GoodIn wsX8_findWoods wsX8_lies := goodIn_r _ [17, 18, 19, 20, 11, 21, 13, 22, 23, 24, 25, 26, 27, 28, 29, 30, 31, 32, 33, 34, 35, 36, 37, 38, 39, 40, 41, 42, 43, 44, 45, 46, 47] (by decide +kernel) (by decide +kernel)
set_option maxRecDepth 20000 in
theorem gX8_findWoods_X8_lies : GoodIn wsX8_findWoods (wsV RX8 110 RX8 yX8_lies wsX8_lies) := goodIn_app (goodIn_of _ (by decide +kernel)) ggX8_findWoods_X8_lies
theorem dX8_findWoods_0 : decode cX8_findWoods 0 = .ok (.aload_n 0, 1) := by decide +kernel
theorem dX8_findWoods_1 : decode cX8_findWoods 1 = .ok (.iconst 0, 1) := by decide +kernel
theorem dX8_findWoods_2 : decode cX8_findWoods 2 = .ok (.putfield 107, 3) := by decide +kernel
theorem dX8_findWoods_5 : decode cX8_findWoods 5 = .ok (.iconst 0, 1) := by decide +kernel
theorem dX8_findWoods_6 : decode cX8_findWoods 6 = .ok (.istore_n 1, 1) := by decide +kernel
theorem dX8_findWoods_7 : decode cX8_findWoods 7 = .ok (.iload_n 1, 1) := by decide +kernel
theorem dX8_findWoods_8 : decode cX8_findWoods 8 = .ok (.bipush 81, 2) := by decide +kernel
theorem dX8_findWoods_10 : decode cX8_findWoods 10 = .ok (.if_icmp .ge 99, 3) := by decide +kernel
theorem dX8_findWoods_13 : decode cX8_findWoods 13 = .ok (.iconst 1, 1) := by decide +kernel
theorem dX8_findWoods_14 : decode cX8_findWoods 14 = .ok (.istore_n 2, 1) := by decide +kernel
theorem dX8_findWoods_15 : decode cX8_findWoods 15 = .ok (.iconst 0, 1) := by decide +kernel
theorem dX8_findWoods_16 : decode cX8_findWoods 16 = .ok (.istore_n 3, 1) := by decide +kernel
theorem dX8_findWoods_17 : decode cX8_findWoods 17 = .ok (.iload_n 3, 1) := by decide +kernel
theorem dX8_findWoods_18 : decode cX8_findWoods 18 = .ok (.aload_n 0, 1) := by decide +kernel
theorem dX8_findWoods_19 : decode cX8_findWoods 19 = .ok (.getfield 104, 3) := by decide +kernel
theorem dX8_findWoods_22 : decode cX8_findWoods 22 = .ok (.if_icmp .ge 57, 3) := by decide +kernel
theorem dX8_findWoods_25 : decode cX8_findWoods 25 = .ok (.iload_n 2, 1) := by decide +kernel
theorem dX8_findWoods_26 : decode cX8_findWoods 26 = .ok (.ifCond .eq 53, 3) := by decide +kernel
theorem dX8_findWoods_29 : decode cX8_findWoods 29 = .ok (.aload_n 0, 1) := by decide +kernel
theorem dX8_findWoods_30 : decode cX8_findWoods 30 = .ok (.aload_n 0, 1) := by decide +kernel
theorem dX8_findWoods_31 : decode cX8_findWoods 31 = .ok (.getfield 23, 3) := by decide +kernel
theorem dX8_findWoods_34 : decode cX8_findWoods 34 = .ok (.iload_n 3, 1) := by decide +kernel
theorem dX8_findWoods_35 : decode cX8_findWoods 35 = .ok (.invokevirtual 97, 3) := by decide +kernel
theorem dX8_findWoods_38 : decode cX8_findWoods 38 = .ok (.aload_n 0, 1) := by decide +kernel
theorem dX8_findWoods_39 : decode cX8_findWoods 39 = .ok (.iconst 1, 1) := by decide +kernel
theorem dX8_findWoods_40 : decode cX8_findWoods 40 = .ok (.iload_n 1, 1) := by decide +kernel
theorem dX8_findWoods_41 : decode cX8_findWoods 41 = .ok (.bipush 9, 2) := by decide +kernel
theorem dX8_findWoods_43 : decode cX8_findWoods 43 = .ok (.idiv, 1) := by decide +kernel
theorem dX8_findWoods_44 : decode cX8_findWoods 44 = .ok (.iadd, 1) := by decide +kernel
theorem dX8_findWoods_45 : decode cX8_findWoods 45 = .ok (.iconst 1, 1) := by decide +kernel
theorem dX8_findWoods_46 : decode cX8_findWoods 46 = .ok (.iload_n 1, 1) := by decide +kernel
theorem dX8_findWoods_47 : decode cX8_findWoods 47 = .ok (.bipush 9, 2) := by decide +kernel
theorem dX8_findWoods_49 : decode cX8_findWoods 49 = .ok (.irem, 1) := by decide +kernel
theorem dX8_findWoods_50 : decode cX8_findWoods 50 = .ok (.iadd, 1) := by decide +kernel
theorem dX8_findWoods_51 : decode cX8_findWoods 51 = .ok (.aload_n 0, 1) := by decide +kernel
theorem dX8_findWoods_52 : decode cX8_findWoods 52 = .ok (.getfield 26, 3) := by decide +kernel
theorem dX8_findWoods_55 : decode cX8_findWoods 55 = .ok (.iload_n 3, 1) := by decide +kernel
theorem dX8_findWoods_56 : decode cX8_findWoods 56 = .ok (.iaload, 1) := by decide +kernel
theorem dX8_findWoods_57 : decode cX8_findWoods 57 = .ok (.aload_n 0, 1) := by decide +kernel
theorem dX8_findWoods_58 : decode cX8_findWoods 58 = .ok (.getfield 29, 3) := by decide +kernel
theorem dX8_findWoods_61 : decode cX8_findWoods 61 = .ok (.iload_n 3, 1) := by decide +kernel
theorem dX8_findWoods_62 : decode cX8_findWoods 62 = .ok (.iaload, 1) := by decide +kernel
theorem dX8_findWoods_63 : decode cX8_findWoods 63 = .ok (.aload_n 0, 1) := by decide +kernel
theorem dX8_findWoods_64 : decode cX8_findWoods 64 = .ok (.getfield 32, 3) := by decide +kernel
theorem dX8_findWoods_67 : decode cX8_findWoods 67 = .ok (.iload_n 3, 1) := by decide +kernel
theorem dX8_findWoods_68 : decode cX8_findWoods 68 = .ok (.iaload, 1) := by decide +kernel
theorem dX8_findWoods_69 : decode cX8_findWoods 69 = .ok (.invokevirtual 110, 3) := by decide +kernel
theorem dX8_findWoods_72 : decode cX8_findWoods 72 = .ok (.istore_n 2, 1) := by decide +kernel
theorem dX8_findWoods_73 : decode cX8_findWoods 73 = .ok (.iinc 3 1, 3) := by decide +kernel
theorem dX8_findWoods_76 : decode cX8_findWoods 76 = .ok (.goto (-59), 3) := by decide +kernel
theorem dX8_findWoods_79 : decode cX8_findWoods 79 = .ok (.iload_n 2, 1) := by decide +kernel
theorem dX8_findWoods_80 : decode cX8_findWoods 80 = .ok (.ifCond .eq 23, 3) := by decide +kernel
theorem dX8_findWoods_83 : decode cX8_findWoods 83 = .ok (.aload_n 0, 1) := by decide +kernel
theorem dX8_findWoods_84 : decode cX8_findWoods 84 = .ok (.getfield 51, 3) := by decide +kernel
theorem dX8_findWoods_87 : decode cX8_findWoods 87 = .ok (.aload_n 0, 1) := by decide +kernel
theorem dX8_findWoods_88 : decode cX8_findWoods 88 = .ok (.getfield 107, 3) := by decide +kernel
theorem dX8_findWoods_91 : decode cX8_findWoods 91 = .ok (.iload_n 1, 1) := by decide +kernel
theorem dX8_findWoods_92 : decode cX8_findWoods 92 = .ok (.iastore, 1) := by decide +kernel
theorem dX8_findWoods_93 : decode cX8_findWoods 93 = .ok (.aload_n 0, 1) := by decide +kernel
theorem dX8_findWoods_94 : decode cX8_findWoods 94 = .ok (.dup, 1) := by decide +kernel
theorem dX8_findWoods_95 : decode cX8_findWoods 95 = .ok (.getfield 107, 3) := by decide +kernel
theorem dX8_findWoods_98 : decode cX8_findWoods 98 = .ok (.iconst 1, 1) := by decide +kernel
theorem dX8_findWoods_99 : decode cX8_findWoods 99 = .ok (.iadd, 1) := by decide +kernel
theorem dX8_findWoods_100 : decode cX8_findWoods 100 = .ok (.putfield 107, 3) := by decide +kernel
theorem dX8_findWoods_103 : decode cX8_findWoods 103 = .ok (.iinc 1 1, 3) := by decide +kernel
theorem dX8_findWoods_106 : decode cX8_findWoods 106 = .ok (.goto (-99), 3) := by decide +kernel
theorem dX8_findWoods_109 : decode cX8_findWoods 109 = .ok (.return_, 1) := by decide +kernel
set_option maxRecDepth 20000 in
theorem ggX8_toneBy_X8_toneOf : GoodIn wsX8_toneBy wsX8_toneOf := goodIn_r _ [6, 7, 8, 9, 5, 10, 11, 12, 13, 14, 15, 16, 17, 18, 19, 20, 21, 22, 23, 24, 25, 26, 27, 28, 29, 30, 31, 32, 33, 34, 35, 36, 37] (by decide +kernel) (by decide +kernel)
set_option maxRecDepth 20000 in
theorem gX8_toneBy_X8_toneOf : GoodIn wsX8_toneBy (wsV RX8 101 RX8 yX8_toneOf wsX8_toneOf) := goodIn_app (goodIn_of _ (by decide +kernel)) ggX8_toneBy_X8_toneOf
theorem dX8_toneBy_0 : decode cX8_toneBy 0 = .ok (.aload_n 0, 1) := by decide +kernel
theorem dX8_toneBy_1 : decode cX8_toneBy 1 = .ok (.iconst 1, 1) := by decide +kernel
theorem dX8_toneBy_2 : decode cX8_toneBy 2 = .ok (.aload_n 0, 1) := by decide +kernel
theorem dX8_toneBy_3 : decode cX8_toneBy 3 = .ok (.getfield 51, 3) := by decide +kernel
theorem dX8_toneBy_6 : decode cX8_toneBy 6 = .ok (.iload_n 1, 1) := by decide +kernel
theorem dX8_toneBy_7 : decode cX8_toneBy 7 = .ok (.iaload, 1) := by decide +kernel
theorem dX8_toneBy_8 : decode cX8_toneBy 8 = .ok (.bipush 9, 2) := by decide +kernel
theorem dX8_toneBy_10 : decode cX8_toneBy 10 = .ok (.idiv, 1) := by decide +kernel
theorem dX8_toneBy_11 : decode cX8_toneBy 11 = .ok (.iadd, 1) := by decide +kernel
theorem dX8_toneBy_12 : decode cX8_toneBy 12 = .ok (.iconst 1, 1) := by decide +kernel
theorem dX8_toneBy_13 : decode cX8_toneBy 13 = .ok (.aload_n 0, 1) := by decide +kernel
theorem dX8_toneBy_14 : decode cX8_toneBy 14 = .ok (.getfield 51, 3) := by decide +kernel
theorem dX8_toneBy_17 : decode cX8_toneBy 17 = .ok (.iload_n 1, 1) := by decide +kernel
theorem dX8_toneBy_18 : decode cX8_toneBy 18 = .ok (.iaload, 1) := by decide +kernel
theorem dX8_toneBy_19 : decode cX8_toneBy 19 = .ok (.bipush 9, 2) := by decide +kernel
theorem dX8_toneBy_21 : decode cX8_toneBy 21 = .ok (.irem, 1) := by decide +kernel
theorem dX8_toneBy_22 : decode cX8_toneBy 22 = .ok (.iadd, 1) := by decide +kernel
theorem dX8_toneBy_23 : decode cX8_toneBy 23 = .ok (.iload_n 2, 1) := by decide +kernel
theorem dX8_toneBy_24 : decode cX8_toneBy 24 = .ok (.invokevirtual 101, 3) := by decide +kernel
theorem dX8_toneBy_27 : decode cX8_toneBy 27 = .ok (.ireturn, 1) := by decide +kernel
set_option maxRecDepth 20000 in
theorem ggX8_woods_X8_findWoods : GoodIn wsX8_woods wsX8_findWoods := goodIn_r _ [6, 1, 7, 8, 9, 10, 11, 12, 13, 14, 15, 5, 16, 17, 18, 19, 20, 21, 22, 23, 24, 25, 26, 27, 28, 29, 30, 31, 32, 33, 34, 35, 36, 37, 38, 39, 40, 41, 42, 43, 44, 45, 46, 47, 48, 49, 50, 51] (by decide +kernel) (by decide +kernel)
set_option maxRecDepth 20000 in
theorem gX8_woods_X8_findWoods : GoodIn wsX8_woods (wsV RX8 114 RX8 yX8_findWoods wsX8_findWoods) := goodIn_app (goodIn_of _ (by decide +kernel)) ggX8_woods_X8_findWoods
theorem dX8_woods_0 : decode cX8_woods 0 = .ok (.aload_n 0, 1) := by decide +kernel
theorem dX8_woods_1 : decode cX8_woods 1 = .ok (.invokevirtual 114, 3) := by decide +kernel
theorem dX8_woods_4 : decode cX8_woods 4 = .ok (.aload_n 0, 1) := by decide +kernel
theorem dX8_woods_5 : decode cX8_woods 5 = .ok (.getfield 107, 3) := by decide +kernel
theorem dX8_woods_8 : decode cX8_woods 8 = .ok (.ireturn, 1) := by decide +kernel
set_option maxRecDepth 20000 in
theorem ggX8_wood_X8_findWoods : GoodIn wsX8_wood wsX8_findWoods := goodIn_r _ [7, 1, 8, 9, 10, 11, 12, 2, 13, 14, 15, 6, 16, 17, 18, 19, 20, 21, 22, 23, 24, 25, 26, 27, 28, 29, 30, 31, 35, 36, 37, 38, 39, 40, 41, 42, 43, 44, 45, 46, 47, 48, 49, 50, 51, 52, 53, 54] (by decide +kernel) (by decide +kernel)
set_option maxRecDepth 20000 in
theorem gX8_wood_X8_findWoods : GoodIn wsX8_wood (wsV RX8 114 RX8 yX8_findWoods wsX8_findWoods) := goodIn_app (goodIn_of _ (by decide +kernel)) ggX8_wood_X8_findWoods
set_option maxRecDepth 20000 in
theorem ggX8_wood_X8_in : GoodIn wsX8_wood wsX8_in := goodIn_r _ [34] (by decide +kernel) (by decide +kernel)
set_option maxRecDepth 20000 in
theorem gX8_wood_X8_in : GoodIn wsX8_wood (va_wsS RX8 60 yX8_in wsX8_in) := goodIn_app (goodIn_of _ (by decide +kernel)) ggX8_wood_X8_in
theorem dX8_wood_0 : decode cX8_wood 0 = .ok (.aload_n 0, 1) := by decide +kernel
theorem dX8_wood_1 : decode cX8_wood 1 = .ok (.invokevirtual 114, 3) := by decide +kernel
theorem dX8_wood_4 : decode cX8_wood 4 = .ok (.iload_n 1, 1) := by decide +kernel
theorem dX8_wood_5 : decode cX8_wood 5 = .ok (.iconst 0, 1) := by decide +kernel
theorem dX8_wood_6 : decode cX8_wood 6 = .ok (.aload_n 0, 1) := by decide +kernel
theorem dX8_wood_7 : decode cX8_wood 7 = .ok (.getfield 107, 3) := by decide +kernel
theorem dX8_wood_10 : decode cX8_wood 10 = .ok (.iconst 1, 1) := by decide +kernel
theorem dX8_wood_11 : decode cX8_wood 11 = .ok (.isub, 1) := by decide +kernel
theorem dX8_wood_12 : decode cX8_wood 12 = .ok (.invokestatic 60, 3) := by decide +kernel
theorem dX8_wood_15 : decode cX8_wood 15 = .ok (.ifCond .eq 12, 3) := by decide +kernel
theorem dX8_wood_18 : decode cX8_wood 18 = .ok (.iload_n 2, 1) := by decide +kernel
theorem dX8_wood_19 : decode cX8_wood 19 = .ok (.iconst 0, 1) := by decide +kernel
theorem dX8_wood_20 : decode cX8_wood 20 = .ok (.iconst 1, 1) := by decide +kernel
theorem dX8_wood_21 : decode cX8_wood 21 = .ok (.invokestatic 60, 3) := by decide +kernel
theorem dX8_wood_24 : decode cX8_wood 24 = .ok (.ifCond .ne 6, 3) := by decide +kernel
theorem dX8_wood_27 : decode cX8_wood 27 = .ok (.bipush (-2), 2) := by decide +kernel
theorem dX8_wood_29 : decode cX8_wood 29 = .ok (.ireturn, 1) := by decide +kernel
theorem dX8_wood_30 : decode cX8_wood 30 = .ok (.iconst 1, 1) := by decide +kernel
theorem dX8_wood_31 : decode cX8_wood 31 = .ok (.iload_n 2, 1) := by decide +kernel
theorem dX8_wood_32 : decode cX8_wood 32 = .ok (.ifCond .ne 15, 3) := by decide +kernel
theorem dX8_wood_35 : decode cX8_wood 35 = .ok (.aload_n 0, 1) := by decide +kernel
theorem dX8_wood_36 : decode cX8_wood 36 = .ok (.getfield 51, 3) := by decide +kernel
theorem dX8_wood_39 : decode cX8_wood 39 = .ok (.iload_n 1, 1) := by decide +kernel
theorem dX8_wood_40 : decode cX8_wood 40 = .ok (.iaload, 1) := by decide +kernel
theorem dX8_wood_41 : decode cX8_wood 41 = .ok (.bipush 9, 2) := by decide +kernel
theorem dX8_wood_43 : decode cX8_wood 43 = .ok (.idiv, 1) := by decide +kernel
theorem dX8_wood_44 : decode cX8_wood 44 = .ok (.goto 12, 3) := by decide +kernel
theorem dX8_wood_47 : decode cX8_wood 47 = .ok (.aload_n 0, 1) := by decide +kernel
theorem dX8_wood_48 : decode cX8_wood 48 = .ok (.getfield 51, 3) := by decide +kernel
theorem dX8_wood_51 : decode cX8_wood 51 = .ok (.iload_n 1, 1) := by decide +kernel
theorem dX8_wood_52 : decode cX8_wood 52 = .ok (.iaload, 1) := by decide +kernel
theorem dX8_wood_53 : decode cX8_wood 53 = .ok (.bipush 9, 2) := by decide +kernel
theorem dX8_wood_55 : decode cX8_wood 55 = .ok (.irem, 1) := by decide +kernel
theorem dX8_wood_56 : decode cX8_wood 56 = .ok (.iadd, 1) := by decide +kernel
theorem dX8_wood_57 : decode cX8_wood 57 = .ok (.ireturn, 1) := by decide +kernel
set_option maxRecDepth 20000 in
theorem ggX8_span_X8_isPlate : GoodIn wsX8_span wsX8_isPlate := goodIn_r _ [7, 8, 9, 10, 6, 11, 52, 53, 54, 55, 56, 57, 58, 59, 60, 61, 62, 63, 64, 65, 66, 67, 68, 69, 70, 71] (by decide +kernel) (by decide +kernel)
set_option maxRecDepth 20000 in
theorem gX8_span_X8_isPlate : GoodIn wsX8_span (wsV RX8 71 RX8 yX8_isPlate wsX8_isPlate) := goodIn_app (goodIn_of _ (by decide +kernel)) ggX8_span_X8_isPlate
set_option maxRecDepth 20000 in
theorem ggX8_span_X8_isFour : GoodIn wsX8_span wsX8_isFour := goodIn_r _ [14, 9, 10, 6, 11] (by decide +kernel) (by decide +kernel)
set_option maxRecDepth 20000 in
theorem gX8_span_X8_isFour : GoodIn wsX8_span (va_wsS RX8 74 yX8_isFour wsX8_isFour) := goodIn_app (goodIn_of _ (by decide +kernel)) ggX8_span_X8_isFour
set_option maxRecDepth 20000 in
theorem ggX8_span_X8_in : GoodIn wsX8_span wsX8_in := goodIn_r _ [11] (by decide +kernel) (by decide +kernel)
set_option maxRecDepth 20000 in
theorem gX8_span_X8_in : GoodIn wsX8_span (va_wsS RX8 60 yX8_in wsX8_in) := goodIn_app (goodIn_of _ (by decide +kernel)) ggX8_span_X8_in
set_option maxRecDepth 20000 in
theorem ggX8_span_X8_findWoods : GoodIn wsX8_span wsX8_findWoods := goodIn_r _ [18, 1, 19, 20, 21, 22, 23, 24, 25, 26, 27, 6, 28, 29, 30, 31, 32, 33, 34, 35, 36, 37, 38, 39, 40, 41, 42, 43, 52, 53, 54, 55, 56, 57, 58, 59, 60, 61, 62, 63, 64, 65, 66, 67, 68, 69, 70, 71] (by decide +kernel) (by decide +kernel)
set_option maxRecDepth 20000 in
theorem gX8_span_X8_findWoods : GoodIn wsX8_span (wsV RX8 114 RX8 yX8_findWoods wsX8_findWoods) := goodIn_app (goodIn_of _ (by decide +kernel)) ggX8_span_X8_findWoods
set_option maxRecDepth 20000 in
theorem ggX8_span_X8_take : GoodIn wsX8_span wsX8_take := goodIn_r _ [28, 29, 52, 53, 54, 55, 56, 57, 58, 59, 60, 61, 62, 63, 64, 65, 66, 67, 68, 69, 70, 71] (by decide +kernel) (by decide +kernel)
set_option maxRecDepth 20000 in
theorem gX8_span_X8_take : GoodIn wsX8_span (wsV RX8 97 RX8 yX8_take wsX8_take) := goodIn_app (goodIn_of _ (by decide +kernel)) ggX8_span_X8_take
set_option maxRecDepth 20000 in
theorem ggX8_span_X8_toneBy : GoodIn wsX8_span wsX8_toneBy := goodIn_r _ [47, 24, 48, 49, 50, 6, 51, 34, 35, 36, 37, 29, 38, 39, 40, 41, 42, 43, 52, 53, 54, 55, 56, 57, 58, 59, 60, 61, 62, 63, 64, 65, 66, 67, 68, 69, 70, 71] (by decide +kernel) (by decide +kernel)
set_option maxRecDepth 20000 in
theorem gX8_span_X8_toneBy : GoodIn wsX8_span (wsV RX8 117 RX8 yX8_toneBy wsX8_toneBy) := goodIn_app (goodIn_of _ (by decide +kernel)) ggX8_span_X8_toneBy
theorem dX8_span_0 : decode cX8_span 0 = .ok (.aload_n 0, 1) := by decide +kernel
theorem dX8_span_1 : decode cX8_span 1 = .ok (.iload_n 1, 1) := by decide +kernel
theorem dX8_span_2 : decode cX8_span 2 = .ok (.invokevirtual 71, 3) := by decide +kernel
theorem dX8_span_5 : decode cX8_span 5 = .ok (.ifCond .eq 19, 3) := by decide +kernel
theorem dX8_span_8 : decode cX8_span 8 = .ok (.iload_n 2, 1) := by decide +kernel
theorem dX8_span_9 : decode cX8_span 9 = .ok (.invokestatic 74, 3) := by decide +kernel
theorem dX8_span_12 : decode cX8_span 12 = .ok (.ifCond .eq 12, 3) := by decide +kernel
theorem dX8_span_15 : decode cX8_span 15 = .ok (.iload_n 3, 1) := by decide +kernel
theorem dX8_span_16 : decode cX8_span 16 = .ok (.iconst 0, 1) := by decide +kernel
theorem dX8_span_17 : decode cX8_span 17 = .ok (.iconst 1, 1) := by decide +kernel
theorem dX8_span_18 : decode cX8_span 18 = .ok (.invokestatic 60, 3) := by decide +kernel
theorem dX8_span_21 : decode cX8_span 21 = .ok (.ifCond .ne 6, 3) := by decide +kernel
theorem dX8_span_24 : decode cX8_span 24 = .ok (.bipush (-2), 2) := by decide +kernel
theorem dX8_span_26 : decode cX8_span 26 = .ok (.ireturn, 1) := by decide +kernel
theorem dX8_span_27 : decode cX8_span 27 = .ok (.aload_n 0, 1) := by decide +kernel
theorem dX8_span_28 : decode cX8_span 28 = .ok (.invokevirtual 114, 3) := by decide +kernel
theorem dX8_span_31 : decode cX8_span 31 = .ok (.aload_n 0, 1) := by decide +kernel
theorem dX8_span_32 : decode cX8_span 32 = .ok (.getfield 107, 3) := by decide +kernel
theorem dX8_span_35 : decode cX8_span 35 = .ok (.ifCond .ne 6, 3) := by decide +kernel
theorem dX8_span_38 : decode cX8_span 38 = .ok (.bipush (-3), 2) := by decide +kernel
theorem dX8_span_40 : decode cX8_span 40 = .ok (.ireturn, 1) := by decide +kernel
theorem dX8_span_41 : decode cX8_span 41 = .ok (.aload_n 0, 1) := by decide +kernel
theorem dX8_span_42 : decode cX8_span 42 = .ok (.aload_n 0, 1) := by decide +kernel
theorem dX8_span_43 : decode cX8_span 43 = .ok (.getfield 7, 3) := by decide +kernel
theorem dX8_span_46 : decode cX8_span 46 = .ok (.iload_n 1, 1) := by decide +kernel
theorem dX8_span_47 : decode cX8_span 47 = .ok (.invokevirtual 97, 3) := by decide +kernel
theorem dX8_span_50 : decode cX8_span 50 = .ok (.aload_n 0, 1) := by decide +kernel
theorem dX8_span_51 : decode cX8_span 51 = .ok (.iconst 0, 1) := by decide +kernel
theorem dX8_span_52 : decode cX8_span 52 = .ok (.iload_n 2, 1) := by decide +kernel
theorem dX8_span_53 : decode cX8_span 53 = .ok (.invokevirtual 117, 3) := by decide +kernel
theorem dX8_span_56 : decode cX8_span 56 = .ok (.istore 4, 2) := by decide +kernel
theorem dX8_span_58 : decode cX8_span 58 = .ok (.iconst 1, 1) := by decide +kernel
theorem dX8_span_59 : decode cX8_span 59 = .ok (.istore 5, 2) := by decide +kernel
theorem dX8_span_61 : decode cX8_span 61 = .ok (.iload 5, 2) := by decide +kernel
theorem dX8_span_63 : decode cX8_span 63 = .ok (.aload_n 0, 1) := by decide +kernel
theorem dX8_span_64 : decode cX8_span 64 = .ok (.getfield 107, 3) := by decide +kernel
theorem dX8_span_67 : decode cX8_span 67 = .ok (.if_icmp .ge 48, 3) := by decide +kernel
theorem dX8_span_70 : decode cX8_span 70 = .ok (.aload_n 0, 1) := by decide +kernel
theorem dX8_span_71 : decode cX8_span 71 = .ok (.iload 5, 2) := by decide +kernel
theorem dX8_span_73 : decode cX8_span 73 = .ok (.iload_n 2, 1) := by decide +kernel
theorem dX8_span_74 : decode cX8_span 74 = .ok (.invokevirtual 117, 3) := by decide +kernel
theorem dX8_span_77 : decode cX8_span 77 = .ok (.istore 6, 2) := by decide +kernel
theorem dX8_span_79 : decode cX8_span 79 = .ok (.iload_n 3, 1) := by decide +kernel
theorem dX8_span_80 : decode cX8_span 80 = .ok (.ifCond .ne 13, 3) := by decide +kernel
theorem dX8_span_83 : decode cX8_span 83 = .ok (.iload 6, 2) := by decide +kernel
theorem dX8_span_85 : decode cX8_span 85 = .ok (.iload 4, 2) := by decide +kernel
theorem dX8_span_87 : decode cX8_span 87 = .ok (.if_icmp .ge 18, 3) := by decide +kernel
theorem dX8_span_90 : decode cX8_span 90 = .ok (.goto 10, 3) := by decide +kernel
theorem dX8_span_93 : decode cX8_span 93 = .ok (.iload 6, 2) := by decide +kernel
theorem dX8_span_95 : decode cX8_span 95 = .ok (.iload 4, 2) := by decide +kernel
theorem dX8_span_97 : decode cX8_span 97 = .ok (.if_icmp .le 8, 3) := by decide +kernel
theorem dX8_span_100 : decode cX8_span 100 = .ok (.iload 6, 2) := by decide +kernel
theorem dX8_span_102 : decode cX8_span 102 = .ok (.goto 5, 3) := by decide +kernel
theorem dX8_span_105 : decode cX8_span 105 = .ok (.iload 4, 2) := by decide +kernel
theorem dX8_span_107 : decode cX8_span 107 = .ok (.istore 4, 2) := by decide +kernel
theorem dX8_span_109 : decode cX8_span 109 = .ok (.iinc 5 1, 3) := by decide +kernel
theorem dX8_span_112 : decode cX8_span 112 = .ok (.goto (-51), 3) := by decide +kernel
theorem dX8_span_115 : decode cX8_span 115 = .ok (.iload 4, 2) := by decide +kernel
theorem dX8_span_117 : decode cX8_span 117 = .ok (.ireturn, 1) := by decide +kernel
set_option maxRecDepth 20000 in
theorem ggX8_greatestHeap_X8_toneBy : GoodIn wsX8_greatestHeap wsX8_toneBy := goodIn_r _ [7, 8, 9, 10, 11, 6, 12, 13, 14, 15, 16, 17, 18, 19, 20, 21, 22, 23, 24, 25, 26, 27, 28, 29, 30, 31, 32, 33, 34, 35, 36, 37, 38, 39, 40, 41, 42, 43] (by decide +kernel) (by decide +kernel)
set_option maxRecDepth 20000 in
theorem gX8_greatestHeap_X8_toneBy : GoodIn wsX8_greatestHeap (wsV RX8 117 RX8 yX8_toneBy wsX8_toneBy) := goodIn_app (goodIn_of _ (by decide +kernel)) ggX8_greatestHeap_X8_toneBy
theorem dX8_greatestHeap_0 : decode cX8_greatestHeap 0 = .ok (.iconst 0, 1) := by decide +kernel
theorem dX8_greatestHeap_1 : decode cX8_greatestHeap 1 = .ok (.istore_n 2, 1) := by decide +kernel
theorem dX8_greatestHeap_2 : decode cX8_greatestHeap 2 = .ok (.iload_n 2, 1) := by decide +kernel
theorem dX8_greatestHeap_3 : decode cX8_greatestHeap 3 = .ok (.sipush 500, 3) := by decide +kernel
theorem dX8_greatestHeap_6 : decode cX8_greatestHeap 6 = .ok (.if_icmp .gt 16, 3) := by decide +kernel
theorem dX8_greatestHeap_9 : decode cX8_greatestHeap 9 = .ok (.aload_n 0, 1) := by decide +kernel
theorem dX8_greatestHeap_10 : decode cX8_greatestHeap 10 = .ok (.getfield 54, 3) := by decide +kernel
theorem dX8_greatestHeap_13 : decode cX8_greatestHeap 13 = .ok (.iload_n 2, 1) := by decide +kernel
theorem dX8_greatestHeap_14 : decode cX8_greatestHeap 14 = .ok (.iconst 0, 1) := by decide +kernel
theorem dX8_greatestHeap_15 : decode cX8_greatestHeap 15 = .ok (.iastore, 1) := by decide +kernel
theorem dX8_greatestHeap_16 : decode cX8_greatestHeap 16 = .ok (.iinc 2 1, 3) := by decide +kernel
theorem dX8_greatestHeap_19 : decode cX8_greatestHeap 19 = .ok (.goto (-17), 3) := by decide +kernel
theorem dX8_greatestHeap_22 : decode cX8_greatestHeap 22 = .ok (.iconst 0, 1) := by decide +kernel
theorem dX8_greatestHeap_23 : decode cX8_greatestHeap 23 = .ok (.istore_n 2, 1) := by decide +kernel
theorem dX8_greatestHeap_24 : decode cX8_greatestHeap 24 = .ok (.iconst 0, 1) := by decide +kernel
theorem dX8_greatestHeap_25 : decode cX8_greatestHeap 25 = .ok (.istore_n 3, 1) := by decide +kernel
theorem dX8_greatestHeap_26 : decode cX8_greatestHeap 26 = .ok (.iload_n 3, 1) := by decide +kernel
theorem dX8_greatestHeap_27 : decode cX8_greatestHeap 27 = .ok (.aload_n 0, 1) := by decide +kernel
theorem dX8_greatestHeap_28 : decode cX8_greatestHeap 28 = .ok (.getfield 107, 3) := by decide +kernel
theorem dX8_greatestHeap_31 : decode cX8_greatestHeap 31 = .ok (.if_icmp .ge 51, 3) := by decide +kernel
theorem dX8_greatestHeap_34 : decode cX8_greatestHeap 34 = .ok (.aload_n 0, 1) := by decide +kernel
theorem dX8_greatestHeap_35 : decode cX8_greatestHeap 35 = .ok (.iload_n 3, 1) := by decide +kernel
theorem dX8_greatestHeap_36 : decode cX8_greatestHeap 36 = .ok (.iload_n 1, 1) := by decide +kernel
theorem dX8_greatestHeap_37 : decode cX8_greatestHeap 37 = .ok (.invokevirtual 117, 3) := by decide +kernel
theorem dX8_greatestHeap_40 : decode cX8_greatestHeap 40 = .ok (.istore 4, 2) := by decide +kernel
theorem dX8_greatestHeap_42 : decode cX8_greatestHeap 42 = .ok (.aload_n 0, 1) := by decide +kernel
theorem dX8_greatestHeap_43 : decode cX8_greatestHeap 43 = .ok (.getfield 54, 3) := by decide +kernel
theorem dX8_greatestHeap_46 : decode cX8_greatestHeap 46 = .ok (.iload 4, 2) := by decide +kernel
theorem dX8_greatestHeap_48 : decode cX8_greatestHeap 48 = .ok (.dup2, 1) := by decide +kernel
theorem dX8_greatestHeap_49 : decode cX8_greatestHeap 49 = .ok (.iaload, 1) := by decide +kernel
theorem dX8_greatestHeap_50 : decode cX8_greatestHeap 50 = .ok (.iconst 1, 1) := by decide +kernel
theorem dX8_greatestHeap_51 : decode cX8_greatestHeap 51 = .ok (.iadd, 1) := by decide +kernel
theorem dX8_greatestHeap_52 : decode cX8_greatestHeap 52 = .ok (.iastore, 1) := by decide +kernel
theorem dX8_greatestHeap_53 : decode cX8_greatestHeap 53 = .ok (.aload_n 0, 1) := by decide +kernel
theorem dX8_greatestHeap_54 : decode cX8_greatestHeap 54 = .ok (.getfield 54, 3) := by decide +kernel
theorem dX8_greatestHeap_57 : decode cX8_greatestHeap 57 = .ok (.iload 4, 2) := by decide +kernel
theorem dX8_greatestHeap_59 : decode cX8_greatestHeap 59 = .ok (.iaload, 1) := by decide +kernel
theorem dX8_greatestHeap_60 : decode cX8_greatestHeap 60 = .ok (.iload_n 2, 1) := by decide +kernel
theorem dX8_greatestHeap_61 : decode cX8_greatestHeap 61 = .ok (.if_icmp .le 13, 3) := by decide +kernel
theorem dX8_greatestHeap_64 : decode cX8_greatestHeap 64 = .ok (.aload_n 0, 1) := by decide +kernel
theorem dX8_greatestHeap_65 : decode cX8_greatestHeap 65 = .ok (.getfield 54, 3) := by decide +kernel
theorem dX8_greatestHeap_68 : decode cX8_greatestHeap 68 = .ok (.iload 4, 2) := by decide +kernel
theorem dX8_greatestHeap_70 : decode cX8_greatestHeap 70 = .ok (.iaload, 1) := by decide +kernel
theorem dX8_greatestHeap_71 : decode cX8_greatestHeap 71 = .ok (.goto 4, 3) := by decide +kernel
theorem dX8_greatestHeap_74 : decode cX8_greatestHeap 74 = .ok (.iload_n 2, 1) := by decide +kernel
theorem dX8_greatestHeap_75 : decode cX8_greatestHeap 75 = .ok (.istore_n 2, 1) := by decide +kernel
theorem dX8_greatestHeap_76 : decode cX8_greatestHeap 76 = .ok (.iinc 3 1, 3) := by decide +kernel
theorem dX8_greatestHeap_79 : decode cX8_greatestHeap 79 = .ok (.goto (-53), 3) := by decide +kernel
theorem dX8_greatestHeap_82 : decode cX8_greatestHeap 82 = .ok (.iload_n 2, 1) := by decide +kernel
theorem dX8_greatestHeap_83 : decode cX8_greatestHeap 83 = .ok (.ireturn, 1) := by decide +kernel
set_option maxRecDepth 20000 in
theorem ggX8_next_X8_isPlate : GoodIn wsX8_next wsX8_isPlate := goodIn_r _ [7, 8, 9, 10, 6, 11, 54, 55, 56, 57, 58, 59, 60, 61, 62, 63, 64, 65, 66, 67, 68, 69, 70, 71, 72, 73] (by decide +kernel) (by decide +kernel)
set_option maxRecDepth 20000 in
theorem gX8_next_X8_isPlate : GoodIn wsX8_next (wsV RX8 71 RX8 yX8_isPlate wsX8_isPlate) := goodIn_app (goodIn_of _ (by decide +kernel)) ggX8_next_X8_isPlate
set_option maxRecDepth 20000 in
theorem ggX8_next_X8_in : GoodIn wsX8_next wsX8_in := goodIn_r _ [11] (by decide +kernel) (by decide +kernel)
set_option maxRecDepth 20000 in
theorem gX8_next_X8_in : GoodIn wsX8_next (va_wsS RX8 60 yX8_in wsX8_in) := goodIn_app (goodIn_of _ (by decide +kernel)) ggX8_next_X8_in
set_option maxRecDepth 20000 in
theorem ggX8_next_X8_findWoods : GoodIn wsX8_next wsX8_findWoods := goodIn_r _ [15, 1, 16, 17, 18, 19, 20, 21, 22, 23, 24, 6, 25, 26, 27, 28, 29, 30, 31, 32, 33, 34, 35, 36, 37, 38, 39, 40, 54, 55, 56, 57, 58, 59, 60, 61, 62, 63, 64, 65, 66, 67, 68, 69, 70, 71, 72, 73] (by decide +kernel) (by decide +kernel)
set_option maxRecDepth 20000 in
theorem gX8_next_X8_findWoods : GoodIn wsX8_next (wsV RX8 114 RX8 yX8_findWoods wsX8_findWoods) := goodIn_app (goodIn_of _ (by decide +kernel)) ggX8_next_X8_findWoods
set_option maxRecDepth 20000 in
theorem ggX8_next_X8_take : GoodIn wsX8_next wsX8_take := goodIn_r _ [25, 26, 54, 55, 56, 57, 58, 59, 60, 61, 62, 63, 64, 65, 66, 67, 68, 69, 70, 71, 72, 73] (by decide +kernel) (by decide +kernel)
set_option maxRecDepth 20000 in
theorem gX8_next_X8_take : GoodIn wsX8_next (wsV RX8 97 RX8 yX8_take wsX8_take) := goodIn_app (goodIn_of _ (by decide +kernel)) ggX8_next_X8_take
set_option maxRecDepth 20000 in
theorem ggX8_next_X8_greatestHeap : GoodIn wsX8_next wsX8_greatestHeap := goodIn_r _ [44, 45, 1, 46, 47, 48, 6, 49, 21, 50, 51, 52, 53, 31, 32, 33, 34, 26, 35, 36, 37, 38, 39, 40, 54, 55, 56, 57, 58, 59, 60, 61, 62, 63, 64, 65, 66, 67, 68, 69, 70, 71, 72, 73] (by decide +kernel) (by decide +kernel)
set_option maxRecDepth 20000 in
theorem gX8_next_X8_greatestHeap : GoodIn wsX8_next (wsV RX8 121 RX8 yX8_greatestHeap wsX8_greatestHeap) := goodIn_app (goodIn_of _ (by decide +kernel)) ggX8_next_X8_greatestHeap
theorem dX8_next_0 : decode cX8_next 0 = .ok (.aload_n 0, 1) := by decide +kernel
theorem dX8_next_1 : decode cX8_next 1 = .ok (.iload_n 1, 1) := by decide +kernel
theorem dX8_next_2 : decode cX8_next 2 = .ok (.invokevirtual 71, 3) := by decide +kernel
theorem dX8_next_5 : decode cX8_next 5 = .ok (.ifCond .eq 12, 3) := by decide +kernel
theorem dX8_next_8 : decode cX8_next 8 = .ok (.iload_n 2, 1) := by decide +kernel
theorem dX8_next_9 : decode cX8_next 9 = .ok (.iconst 0, 1) := by decide +kernel
theorem dX8_next_10 : decode cX8_next 10 = .ok (.iconst 1, 1) := by decide +kernel
theorem dX8_next_11 : decode cX8_next 11 = .ok (.invokestatic 60, 3) := by decide +kernel
theorem dX8_next_14 : decode cX8_next 14 = .ok (.ifCond .ne 6, 3) := by decide +kernel
theorem dX8_next_17 : decode cX8_next 17 = .ok (.bipush (-2), 2) := by decide +kernel
theorem dX8_next_19 : decode cX8_next 19 = .ok (.ireturn, 1) := by decide +kernel
theorem dX8_next_20 : decode cX8_next 20 = .ok (.aload_n 0, 1) := by decide +kernel
theorem dX8_next_21 : decode cX8_next 21 = .ok (.invokevirtual 114, 3) := by decide +kernel
theorem dX8_next_24 : decode cX8_next 24 = .ok (.aload_n 0, 1) := by decide +kernel
theorem dX8_next_25 : decode cX8_next 25 = .ok (.getfield 107, 3) := by decide +kernel
theorem dX8_next_28 : decode cX8_next 28 = .ok (.ifCond .ne 6, 3) := by decide +kernel
theorem dX8_next_31 : decode cX8_next 31 = .ok (.bipush (-3), 2) := by decide +kernel
theorem dX8_next_33 : decode cX8_next 33 = .ok (.ireturn, 1) := by decide +kernel
theorem dX8_next_34 : decode cX8_next 34 = .ok (.aload_n 0, 1) := by decide +kernel
theorem dX8_next_35 : decode cX8_next 35 = .ok (.aload_n 0, 1) := by decide +kernel
theorem dX8_next_36 : decode cX8_next 36 = .ok (.getfield 7, 3) := by decide +kernel
theorem dX8_next_39 : decode cX8_next 39 = .ok (.iload_n 1, 1) := by decide +kernel
theorem dX8_next_40 : decode cX8_next 40 = .ok (.invokevirtual 97, 3) := by decide +kernel
theorem dX8_next_43 : decode cX8_next 43 = .ok (.iconst 0, 1) := by decide +kernel
theorem dX8_next_44 : decode cX8_next 44 = .ok (.istore_n 3, 1) := by decide +kernel
theorem dX8_next_45 : decode cX8_next 45 = .ok (.aload_n 0, 1) := by decide +kernel
theorem dX8_next_46 : decode cX8_next 46 = .ok (.iconst 0, 1) := by decide +kernel
theorem dX8_next_47 : decode cX8_next 47 = .ok (.invokevirtual 121, 3) := by decide +kernel
theorem dX8_next_50 : decode cX8_next 50 = .ok (.istore 4, 2) := by decide +kernel
theorem dX8_next_52 : decode cX8_next 52 = .ok (.iconst 1, 1) := by decide +kernel
theorem dX8_next_53 : decode cX8_next 53 = .ok (.istore 5, 2) := by decide +kernel
theorem dX8_next_55 : decode cX8_next 55 = .ok (.iload 5, 2) := by decide +kernel
theorem dX8_next_57 : decode cX8_next 57 = .ok (.iconst 4, 1) := by decide +kernel
theorem dX8_next_58 : decode cX8_next 58 = .ok (.if_icmp .ge 47, 3) := by decide +kernel
theorem dX8_next_61 : decode cX8_next 61 = .ok (.aload_n 0, 1) := by decide +kernel
theorem dX8_next_62 : decode cX8_next 62 = .ok (.iload 5, 2) := by decide +kernel
theorem dX8_next_64 : decode cX8_next 64 = .ok (.invokevirtual 121, 3) := by decide +kernel
theorem dX8_next_67 : decode cX8_next 67 = .ok (.istore 6, 2) := by decide +kernel
theorem dX8_next_69 : decode cX8_next 69 = .ok (.iload 6, 2) := by decide +kernel
theorem dX8_next_71 : decode cX8_next 71 = .ok (.iload 4, 2) := by decide +kernel
theorem dX8_next_73 : decode cX8_next 73 = .ok (.if_icmp .ge 8, 3) := by decide +kernel
theorem dX8_next_76 : decode cX8_next 76 = .ok (.iload 5, 2) := by decide +kernel
theorem dX8_next_78 : decode cX8_next 78 = .ok (.goto 4, 3) := by decide +kernel
theorem dX8_next_81 : decode cX8_next 81 = .ok (.iload_n 3, 1) := by decide +kernel
theorem dX8_next_82 : decode cX8_next 82 = .ok (.istore_n 3, 1) := by decide +kernel
theorem dX8_next_83 : decode cX8_next 83 = .ok (.iload 6, 2) := by decide +kernel
theorem dX8_next_85 : decode cX8_next 85 = .ok (.iload 4, 2) := by decide +kernel
theorem dX8_next_87 : decode cX8_next 87 = .ok (.if_icmp .ge 8, 3) := by decide +kernel
theorem dX8_next_90 : decode cX8_next 90 = .ok (.iload 6, 2) := by decide +kernel
theorem dX8_next_92 : decode cX8_next 92 = .ok (.goto 5, 3) := by decide +kernel
theorem dX8_next_95 : decode cX8_next 95 = .ok (.iload 4, 2) := by decide +kernel
theorem dX8_next_97 : decode cX8_next 97 = .ok (.istore 4, 2) := by decide +kernel
theorem dX8_next_99 : decode cX8_next 99 = .ok (.iinc 5 1, 3) := by decide +kernel
theorem dX8_next_102 : decode cX8_next 102 = .ok (.goto (-47), 3) := by decide +kernel
theorem dX8_next_105 : decode cX8_next 105 = .ok (.iload_n 2, 1) := by decide +kernel
theorem dX8_next_106 : decode cX8_next 106 = .ok (.ifCond .ne 7, 3) := by decide +kernel
theorem dX8_next_109 : decode cX8_next 109 = .ok (.iload_n 3, 1) := by decide +kernel
theorem dX8_next_110 : decode cX8_next 110 = .ok (.goto 5, 3) := by decide +kernel
theorem dX8_next_113 : decode cX8_next 113 = .ok (.iload 4, 2) := by decide +kernel
theorem dX8_next_115 : decode cX8_next 115 = .ok (.ireturn, 1) := by decide +kernel
set_option maxRecDepth 20000 in
theorem ggX8_aim_X8_isFour : GoodIn wsX8_aim wsX8_isFour := goodIn_r _ [7, 8, 9, 6, 10] (by decide +kernel) (by decide +kernel)
set_option maxRecDepth 20000 in
theorem gX8_aim_X8_isFour : GoodIn wsX8_aim (va_wsS RX8 74 yX8_isFour wsX8_isFour) := goodIn_app (goodIn_of _ (by decide +kernel)) ggX8_aim_X8_isFour
set_option maxRecDepth 20000 in
theorem ggX8_aim_X8_in : GoodIn wsX8_aim wsX8_in := goodIn_r _ [10] (by decide +kernel) (by decide +kernel)
set_option maxRecDepth 20000 in
theorem gX8_aim_X8_in : GoodIn wsX8_aim (va_wsS RX8 60 yX8_in wsX8_in) := goodIn_app (goodIn_of _ (by decide +kernel)) ggX8_aim_X8_in
theorem dX8_aim_0 : decode cX8_aim 0 = .ok (.iload_n 1, 1) := by decide +kernel
theorem dX8_aim_1 : decode cX8_aim 1 = .ok (.invokestatic 74, 3) := by decide +kernel
theorem dX8_aim_4 : decode cX8_aim 4 = .ok (.ifCond .eq 25, 3) := by decide +kernel
theorem dX8_aim_7 : decode cX8_aim 7 = .ok (.iload_n 2, 1) := by decide +kernel
theorem dX8_aim_8 : decode cX8_aim 8 = .ok (.iconst 0, 1) := by decide +kernel
theorem dX8_aim_9 : decode cX8_aim 9 = .ok (.sipush 500, 3) := by decide +kernel
theorem dX8_aim_12 : decode cX8_aim 12 = .ok (.invokestatic 60, 3) := by decide +kernel
theorem dX8_aim_15 : decode cX8_aim 15 = .ok (.ifCond .eq 14, 3) := by decide +kernel
theorem dX8_aim_18 : decode cX8_aim 18 = .ok (.iload_n 3, 1) := by decide +kernel
theorem dX8_aim_19 : decode cX8_aim 19 = .ok (.iload_n 2, 1) := by decide +kernel
theorem dX8_aim_20 : decode cX8_aim 20 = .ok (.sipush 500, 3) := by decide +kernel
theorem dX8_aim_23 : decode cX8_aim 23 = .ok (.invokestatic 60, 3) := by decide +kernel
theorem dX8_aim_26 : decode cX8_aim 26 = .ok (.ifCond .ne 6, 3) := by decide +kernel
theorem dX8_aim_29 : decode cX8_aim 29 = .ok (.bipush (-2), 2) := by decide +kernel
theorem dX8_aim_31 : decode cX8_aim 31 = .ok (.ireturn, 1) := by decide +kernel
theorem dX8_aim_32 : decode cX8_aim 32 = .ok (.aload_n 0, 1) := by decide +kernel
theorem dX8_aim_33 : decode cX8_aim 33 = .ok (.getfield 35, 3) := by decide +kernel
theorem dX8_aim_36 : decode cX8_aim 36 = .ok (.iload_n 1, 1) := by decide +kernel
theorem dX8_aim_37 : decode cX8_aim 37 = .ok (.iconst 1, 1) := by decide +kernel
theorem dX8_aim_38 : decode cX8_aim 38 = .ok (.bastore, 1) := by decide +kernel
theorem dX8_aim_39 : decode cX8_aim 39 = .ok (.aload_n 0, 1) := by decide +kernel
theorem dX8_aim_40 : decode cX8_aim 40 = .ok (.getfield 39, 3) := by decide +kernel
theorem dX8_aim_43 : decode cX8_aim 43 = .ok (.iload_n 1, 1) := by decide +kernel
theorem dX8_aim_44 : decode cX8_aim 44 = .ok (.iload_n 2, 1) := by decide +kernel
theorem dX8_aim_45 : decode cX8_aim 45 = .ok (.iastore, 1) := by decide +kernel
theorem dX8_aim_46 : decode cX8_aim 46 = .ok (.aload_n 0, 1) := by decide +kernel
theorem dX8_aim_47 : decode cX8_aim 47 = .ok (.getfield 42, 3) := by decide +kernel
theorem dX8_aim_50 : decode cX8_aim 50 = .ok (.iload_n 1, 1) := by decide +kernel
theorem dX8_aim_51 : decode cX8_aim 51 = .ok (.iload_n 3, 1) := by decide +kernel
theorem dX8_aim_52 : decode cX8_aim 52 = .ok (.iastore, 1) := by decide +kernel
theorem dX8_aim_53 : decode cX8_aim 53 = .ok (.iconst 1, 1) := by decide +kernel
theorem dX8_aim_54 : decode cX8_aim 54 = .ok (.ireturn, 1) := by decide +kernel
theorem dX8_aims_0 : decode cX8_aims 0 = .ok (.iconst 0, 1) := by decide +kernel
theorem dX8_aims_1 : decode cX8_aims 1 = .ok (.istore_n 1, 1) := by decide +kernel
theorem dX8_aims_2 : decode cX8_aims 2 = .ok (.iconst 0, 1) := by decide +kernel
theorem dX8_aims_3 : decode cX8_aims 3 = .ok (.istore_n 2, 1) := by decide +kernel
theorem dX8_aims_4 : decode cX8_aims 4 = .ok (.iload_n 2, 1) := by decide +kernel
theorem dX8_aims_5 : decode cX8_aims 5 = .ok (.iconst 4, 1) := by decide +kernel
theorem dX8_aims_6 : decode cX8_aims 6 = .ok (.if_icmp .ge 26, 3) := by decide +kernel
theorem dX8_aims_9 : decode cX8_aims 9 = .ok (.iload_n 1, 1) := by decide +kernel
theorem dX8_aims_10 : decode cX8_aims 10 = .ok (.aload_n 0, 1) := by decide +kernel
theorem dX8_aims_11 : decode cX8_aims 11 = .ok (.getfield 35, 3) := by decide +kernel
theorem dX8_aims_14 : decode cX8_aims 14 = .ok (.iload_n 2, 1) := by decide +kernel
theorem dX8_aims_15 : decode cX8_aims 15 = .ok (.baload, 1) := by decide +kernel
theorem dX8_aims_16 : decode cX8_aims 16 = .ok (.ifCond .eq 7, 3) := by decide +kernel
theorem dX8_aims_19 : decode cX8_aims 19 = .ok (.iconst 1, 1) := by decide +kernel
theorem dX8_aims_20 : decode cX8_aims 20 = .ok (.goto 4, 3) := by decide +kernel
theorem dX8_aims_23 : decode cX8_aims 23 = .ok (.iconst 0, 1) := by decide +kernel
theorem dX8_aims_24 : decode cX8_aims 24 = .ok (.iadd, 1) := by decide +kernel
theorem dX8_aims_25 : decode cX8_aims 25 = .ok (.istore_n 1, 1) := by decide +kernel
theorem dX8_aims_26 : decode cX8_aims 26 = .ok (.iinc 2 1, 3) := by decide +kernel
theorem dX8_aims_29 : decode cX8_aims 29 = .ok (.goto (-25), 3) := by decide +kernel
theorem dX8_aims_32 : decode cX8_aims 32 = .ok (.iload_n 1, 1) := by decide +kernel
theorem dX8_aims_33 : decode cX8_aims 33 = .ok (.ireturn, 1) := by decide +kernel
set_option maxRecDepth 20000 in
theorem ggX8_aimless_X8_aims : GoodIn wsX8_aimless wsX8_aims := goodIn_r _ [6, 1, 7, 8, 9, 10, 11, 12, 13, 14, 15, 16, 17, 18, 19, 20, 21, 22, 23, 24, 25, 26] (by decide +kernel) (by decide +kernel)
set_option maxRecDepth 20000 in
theorem gX8_aimless_X8_aims : GoodIn wsX8_aimless (wsV RX8 125 RX8 yX8_aims wsX8_aims) := goodIn_app (goodIn_of _ (by decide +kernel)) ggX8_aimless_X8_aims
theorem dX8_aimless_0 : decode cX8_aimless 0 = .ok (.aload_n 0, 1) := by decide +kernel
theorem dX8_aimless_1 : decode cX8_aimless 1 = .ok (.invokevirtual 125, 3) := by decide +kernel
theorem dX8_aimless_4 : decode cX8_aimless 4 = .ok (.istore_n 1, 1) := by decide +kernel
theorem dX8_aimless_5 : decode cX8_aimless 5 = .ok (.iconst 0, 1) := by decide +kernel
theorem dX8_aimless_6 : decode cX8_aimless 6 = .ok (.istore_n 2, 1) := by decide +kernel
theorem dX8_aimless_7 : decode cX8_aimless 7 = .ok (.iload_n 2, 1) := by decide +kernel
theorem dX8_aimless_8 : decode cX8_aimless 8 = .ok (.iconst 4, 1) := by decide +kernel
theorem dX8_aimless_9 : decode cX8_aimless 9 = .ok (.if_icmp .ge 16, 3) := by decide +kernel
theorem dX8_aimless_12 : decode cX8_aimless 12 = .ok (.aload_n 0, 1) := by decide +kernel
theorem dX8_aimless_13 : decode cX8_aimless 13 = .ok (.getfield 35, 3) := by decide +kernel
theorem dX8_aimless_16 : decode cX8_aimless 16 = .ok (.iload_n 2, 1) := by decide +kernel
theorem dX8_aimless_17 : decode cX8_aimless 17 = .ok (.iconst 0, 1) := by decide +kernel
theorem dX8_aimless_18 : decode cX8_aimless 18 = .ok (.bastore, 1) := by decide +kernel
theorem dX8_aimless_19 : decode cX8_aimless 19 = .ok (.iinc 2 1, 3) := by decide +kernel
theorem dX8_aimless_22 : decode cX8_aimless 22 = .ok (.goto (-15), 3) := by decide +kernel
theorem dX8_aimless_25 : decode cX8_aimless 25 = .ok (.iload_n 1, 1) := by decide +kernel
theorem dX8_aimless_26 : decode cX8_aimless 26 = .ok (.ireturn, 1) := by decide +kernel
set_option maxRecDepth 20000 in
theorem ggX8_fits_X8_lies : GoodIn wsX8_fits wsX8_lies := goodIn_r _ [10, 11, 12, 13, 9, 14, 15, 16, 17, 18, 19, 20, 21, 22, 23, 24, 25, 26, 27, 28, 29, 30, 31, 32, 33, 34, 35, 36, 37, 38, 39, 40, 41] (by decide +kernel) (by decide +kernel)
set_option maxRecDepth 20000 in
theorem gX8_fits_X8_lies : GoodIn wsX8_fits (wsV RX8 110 RX8 yX8_lies wsX8_lies) := goodIn_app (goodIn_of _ (by decide +kernel)) ggX8_fits_X8_lies
theorem dX8_fits_0 : decode cX8_fits 0 = .ok (.iconst 1, 1) := by decide +kernel
theorem dX8_fits_1 : decode cX8_fits 1 = .ok (.istore_n 1, 1) := by decide +kernel
theorem dX8_fits_2 : decode cX8_fits 2 = .ok (.iconst 0, 1) := by decide +kernel
theorem dX8_fits_3 : decode cX8_fits 3 = .ok (.istore_n 2, 1) := by decide +kernel
theorem dX8_fits_4 : decode cX8_fits 4 = .ok (.iload_n 2, 1) := by decide +kernel
theorem dX8_fits_5 : decode cX8_fits 5 = .ok (.aload_n 0, 1) := by decide +kernel
theorem dX8_fits_6 : decode cX8_fits 6 = .ok (.getfield 107, 3) := by decide +kernel
theorem dX8_fits_9 : decode cX8_fits 9 = .ok (.if_icmp .ge 87, 3) := by decide +kernel
theorem dX8_fits_12 : decode cX8_fits 12 = .ok (.iload_n 1, 1) := by decide +kernel
theorem dX8_fits_13 : decode cX8_fits 13 = .ok (.ifCond .eq 83, 3) := by decide +kernel
theorem dX8_fits_16 : decode cX8_fits 16 = .ok (.iconst 0, 1) := by decide +kernel
theorem dX8_fits_17 : decode cX8_fits 17 = .ok (.istore_n 3, 1) := by decide +kernel
theorem dX8_fits_18 : decode cX8_fits 18 = .ok (.iload_n 3, 1) := by decide +kernel
theorem dX8_fits_19 : decode cX8_fits 19 = .ok (.iconst 4, 1) := by decide +kernel
theorem dX8_fits_20 : decode cX8_fits 20 = .ok (.if_icmp .ge 70, 3) := by decide +kernel
theorem dX8_fits_23 : decode cX8_fits 23 = .ok (.iload_n 1, 1) := by decide +kernel
theorem dX8_fits_24 : decode cX8_fits 24 = .ok (.ifCond .eq 66, 3) := by decide +kernel
theorem dX8_fits_27 : decode cX8_fits 27 = .ok (.aload_n 0, 1) := by decide +kernel
theorem dX8_fits_28 : decode cX8_fits 28 = .ok (.getfield 35, 3) := by decide +kernel
theorem dX8_fits_31 : decode cX8_fits 31 = .ok (.iload_n 3, 1) := by decide +kernel
theorem dX8_fits_32 : decode cX8_fits 32 = .ok (.baload, 1) := by decide +kernel
theorem dX8_fits_33 : decode cX8_fits 33 = .ok (.ifCond .eq 45, 3) := by decide +kernel
theorem dX8_fits_36 : decode cX8_fits 36 = .ok (.aload_n 0, 1) := by decide +kernel
theorem dX8_fits_37 : decode cX8_fits 37 = .ok (.iconst 1, 1) := by decide +kernel
theorem dX8_fits_38 : decode cX8_fits 38 = .ok (.aload_n 0, 1) := by decide +kernel
theorem dX8_fits_39 : decode cX8_fits 39 = .ok (.getfield 51, 3) := by decide +kernel
theorem dX8_fits_42 : decode cX8_fits 42 = .ok (.iload_n 2, 1) := by decide +kernel
theorem dX8_fits_43 : decode cX8_fits 43 = .ok (.iaload, 1) := by decide +kernel
theorem dX8_fits_44 : decode cX8_fits 44 = .ok (.bipush 9, 2) := by decide +kernel
theorem dX8_fits_46 : decode cX8_fits 46 = .ok (.idiv, 1) := by decide +kernel
theorem dX8_fits_47 : decode cX8_fits 47 = .ok (.iadd, 1) := by decide +kernel
theorem dX8_fits_48 : decode cX8_fits 48 = .ok (.iconst 1, 1) := by decide +kernel
theorem dX8_fits_49 : decode cX8_fits 49 = .ok (.aload_n 0, 1) := by decide +kernel
theorem dX8_fits_50 : decode cX8_fits 50 = .ok (.getfield 51, 3) := by decide +kernel
theorem dX8_fits_53 : decode cX8_fits 53 = .ok (.iload_n 2, 1) := by decide +kernel
theorem dX8_fits_54 : decode cX8_fits 54 = .ok (.iaload, 1) := by decide +kernel
theorem dX8_fits_55 : decode cX8_fits 55 = .ok (.bipush 9, 2) := by decide +kernel
theorem dX8_fits_57 : decode cX8_fits 57 = .ok (.irem, 1) := by decide +kernel
theorem dX8_fits_58 : decode cX8_fits 58 = .ok (.iadd, 1) := by decide +kernel
theorem dX8_fits_59 : decode cX8_fits 59 = .ok (.iload_n 3, 1) := by decide +kernel
theorem dX8_fits_60 : decode cX8_fits 60 = .ok (.aload_n 0, 1) := by decide +kernel
theorem dX8_fits_61 : decode cX8_fits 61 = .ok (.getfield 39, 3) := by decide +kernel
theorem dX8_fits_64 : decode cX8_fits 64 = .ok (.iload_n 3, 1) := by decide +kernel
theorem dX8_fits_65 : decode cX8_fits 65 = .ok (.iaload, 1) := by decide +kernel
theorem dX8_fits_66 : decode cX8_fits 66 = .ok (.aload_n 0, 1) := by decide +kernel
theorem dX8_fits_67 : decode cX8_fits 67 = .ok (.getfield 42, 3) := by decide +kernel
theorem dX8_fits_70 : decode cX8_fits 70 = .ok (.iload_n 3, 1) := by decide +kernel
theorem dX8_fits_71 : decode cX8_fits 71 = .ok (.iaload, 1) := by decide +kernel
theorem dX8_fits_72 : decode cX8_fits 72 = .ok (.invokevirtual 110, 3) := by decide +kernel
theorem dX8_fits_75 : decode cX8_fits 75 = .ok (.ifCond .eq 7, 3) := by decide +kernel
theorem dX8_fits_78 : decode cX8_fits 78 = .ok (.iconst 1, 1) := by decide +kernel
theorem dX8_fits_79 : decode cX8_fits 79 = .ok (.goto 4, 3) := by decide +kernel
theorem dX8_fits_82 : decode cX8_fits 82 = .ok (.iconst 0, 1) := by decide +kernel
theorem dX8_fits_83 : decode cX8_fits 83 = .ok (.istore_n 1, 1) := by decide +kernel
theorem dX8_fits_84 : decode cX8_fits 84 = .ok (.iinc 3 1, 3) := by decide +kernel
theorem dX8_fits_87 : decode cX8_fits 87 = .ok (.goto (-69), 3) := by decide +kernel
theorem dX8_fits_90 : decode cX8_fits 90 = .ok (.iinc 2 1, 3) := by decide +kernel
theorem dX8_fits_93 : decode cX8_fits 93 = .ok (.goto (-89), 3) := by decide +kernel
theorem dX8_fits_96 : decode cX8_fits 96 = .ok (.iload_n 1, 1) := by decide +kernel
theorem dX8_fits_97 : decode cX8_fits 97 = .ok (.ireturn, 1) := by decide +kernel
theorem dX8_mayBe_0 : decode cX8_mayBe 0 = .ok (.aload_n 0, 1) := by decide +kernel
theorem dX8_mayBe_1 : decode cX8_mayBe 1 = .ok (.getfield 7, 3) := by decide +kernel
theorem dX8_mayBe_4 : decode cX8_mayBe 4 = .ok (.iconst 4, 1) := by decide +kernel
theorem dX8_mayBe_5 : decode cX8_mayBe 5 = .ok (.iload_n 1, 1) := by decide +kernel
theorem dX8_mayBe_6 : decode cX8_mayBe 6 = .ok (.imul, 1) := by decide +kernel
theorem dX8_mayBe_7 : decode cX8_mayBe 7 = .ok (.iload_n 2, 1) := by decide +kernel
theorem dX8_mayBe_8 : decode cX8_mayBe 8 = .ok (.iadd, 1) := by decide +kernel
theorem dX8_mayBe_9 : decode cX8_mayBe 9 = .ok (.iaload, 1) := by decide +kernel
theorem dX8_mayBe_10 : decode cX8_mayBe 10 = .ok (.istore 4, 2) := by decide +kernel
theorem dX8_mayBe_12 : decode cX8_mayBe 12 = .ok (.iload_n 3, 1) := by decide +kernel
theorem dX8_mayBe_13 : decode cX8_mayBe 13 = .ok (.iload 4, 2) := by decide +kernel
theorem dX8_mayBe_15 : decode cX8_mayBe 15 = .ok (.if_icmp .eq 17, 3) := by decide +kernel
theorem dX8_mayBe_18 : decode cX8_mayBe 18 = .ok (.iload_n 3, 1) := by decide +kernel
theorem dX8_mayBe_19 : decode cX8_mayBe 19 = .ok (.iload 4, 2) := by decide +kernel
theorem dX8_mayBe_21 : decode cX8_mayBe 21 = .ok (.if_icmp .ge 15, 3) := by decide +kernel
theorem dX8_mayBe_24 : decode cX8_mayBe 24 = .ok (.iload_n 3, 1) := by decide +kernel
theorem dX8_mayBe_25 : decode cX8_mayBe 25 = .ok (.aload_n 0, 1) := by decide +kernel
theorem dX8_mayBe_26 : decode cX8_mayBe 26 = .ok (.getfield 13, 3) := by decide +kernel
theorem dX8_mayBe_29 : decode cX8_mayBe 29 = .ok (.if_icmp .lt 7, 3) := by decide +kernel
theorem dX8_mayBe_32 : decode cX8_mayBe 32 = .ok (.iconst 1, 1) := by decide +kernel
theorem dX8_mayBe_33 : decode cX8_mayBe 33 = .ok (.goto 4, 3) := by decide +kernel
theorem dX8_mayBe_36 : decode cX8_mayBe 36 = .ok (.iconst 0, 1) := by decide +kernel
theorem dX8_mayBe_37 : decode cX8_mayBe 37 = .ok (.ireturn, 1) := by decide +kernel
set_option maxRecDepth 20000 in
theorem ggX8_findPlan_X8_mayBe : GoodIn wsX8_findPlan wsX8_mayBe := goodIn_r _ [9, 3, 10, 34, 35, 36, 37, 38, 39, 40, 41, 42, 43, 44, 45, 46, 47, 48, 49, 50, 51, 52, 53] (by decide +kernel) (by decide +kernel)
set_option maxRecDepth 20000 in
theorem gX8_findPlan_X8_mayBe : GoodIn wsX8_findPlan (wsV RX8 132 RX8 yX8_mayBe wsX8_mayBe) := goodIn_app (goodIn_of _ (by decide +kernel)) ggX8_findPlan_X8_mayBe
set_option maxRecDepth 20000 in
theorem ggX8_findPlan_X8_fits : GoodIn wsX8_findPlan wsX8_fits := goodIn_r _ [14, 15, 16, 17, 18, 19, 20, 21, 22, 8, 23, 24, 25, 26, 27, 2, 28, 29, 30, 31, 32, 33, 34, 35, 36, 37, 38, 39, 40, 41, 42, 43, 44, 45, 46, 47, 48, 49, 50, 51, 52, 53] (by decide +kernel) (by decide +kernel)
set_option maxRecDepth 20000 in
theorem gX8_findPlan_X8_fits : GoodIn wsX8_findPlan (wsV RX8 135 RX8 yX8_fits wsX8_fits) := goodIn_app (goodIn_of _ (by decide +kernel)) ggX8_findPlan_X8_fits
theorem dX8_findPlan_0 : decode cX8_findPlan 0 = .ok (.aload_n 0, 1) := by decide +kernel
theorem dX8_findPlan_1 : decode cX8_findPlan 1 = .ok (.iconst (-1), 1) := by decide +kernel
theorem dX8_findPlan_2 : decode cX8_findPlan 2 = .ok (.putfield 129, 3) := by decide +kernel
theorem dX8_findPlan_5 : decode cX8_findPlan 5 = .ok (.sipush 6560, 3) := by decide +kernel
theorem dX8_findPlan_8 : decode cX8_findPlan 8 = .ok (.istore_n 2, 1) := by decide +kernel
theorem dX8_findPlan_9 : decode cX8_findPlan 9 = .ok (.iload_n 2, 1) := by decide +kernel
theorem dX8_findPlan_10 : decode cX8_findPlan 10 = .ok (.ifCond .lt 197, 3) := by decide +kernel
theorem dX8_findPlan_13 : decode cX8_findPlan 13 = .ok (.aload_n 0, 1) := by decide +kernel
theorem dX8_findPlan_14 : decode cX8_findPlan 14 = .ok (.getfield 48, 3) := by decide +kernel
theorem dX8_findPlan_17 : decode cX8_findPlan 17 = .ok (.iconst 0, 1) := by decide +kernel
theorem dX8_findPlan_18 : decode cX8_findPlan 18 = .ok (.iconst 1, 1) := by decide +kernel
theorem dX8_findPlan_19 : decode cX8_findPlan 19 = .ok (.iload_n 2, 1) := by decide +kernel
theorem dX8_findPlan_20 : decode cX8_findPlan 20 = .ok (.sipush 729, 3) := by decide +kernel
theorem dX8_findPlan_23 : decode cX8_findPlan 23 = .ok (.idiv, 1) := by decide +kernel
theorem dX8_findPlan_24 : decode cX8_findPlan 24 = .ok (.iadd, 1) := by decide +kernel
theorem dX8_findPlan_25 : decode cX8_findPlan 25 = .ok (.iastore, 1) := by decide +kernel
theorem dX8_findPlan_26 : decode cX8_findPlan 26 = .ok (.aload_n 0, 1) := by decide +kernel
theorem dX8_findPlan_27 : decode cX8_findPlan 27 = .ok (.getfield 48, 3) := by decide +kernel
theorem dX8_findPlan_30 : decode cX8_findPlan 30 = .ok (.iconst 1, 1) := by decide +kernel
theorem dX8_findPlan_31 : decode cX8_findPlan 31 = .ok (.iconst 1, 1) := by decide +kernel
theorem dX8_findPlan_32 : decode cX8_findPlan 32 = .ok (.iload_n 2, 1) := by decide +kernel
theorem dX8_findPlan_33 : decode cX8_findPlan 33 = .ok (.bipush 81, 2) := by decide +kernel
theorem dX8_findPlan_35 : decode cX8_findPlan 35 = .ok (.idiv, 1) := by decide +kernel
theorem dX8_findPlan_36 : decode cX8_findPlan 36 = .ok (.bipush 9, 2) := by decide +kernel
theorem dX8_findPlan_38 : decode cX8_findPlan 38 = .ok (.irem, 1) := by decide +kernel
theorem dX8_findPlan_39 : decode cX8_findPlan 39 = .ok (.iadd, 1) := by decide +kernel
theorem dX8_findPlan_40 : decode cX8_findPlan 40 = .ok (.iastore, 1) := by decide +kernel
theorem dX8_findPlan_41 : decode cX8_findPlan 41 = .ok (.aload_n 0, 1) := by decide +kernel
theorem dX8_findPlan_42 : decode cX8_findPlan 42 = .ok (.getfield 48, 3) := by decide +kernel
theorem dX8_findPlan_45 : decode cX8_findPlan 45 = .ok (.iconst 2, 1) := by decide +kernel
theorem dX8_findPlan_46 : decode cX8_findPlan 46 = .ok (.iconst 1, 1) := by decide +kernel
theorem dX8_findPlan_47 : decode cX8_findPlan 47 = .ok (.iload_n 2, 1) := by decide +kernel
theorem dX8_findPlan_48 : decode cX8_findPlan 48 = .ok (.bipush 9, 2) := by decide +kernel
theorem dX8_findPlan_50 : decode cX8_findPlan 50 = .ok (.idiv, 1) := by decide +kernel
theorem dX8_findPlan_51 : decode cX8_findPlan 51 = .ok (.bipush 9, 2) := by decide +kernel
theorem dX8_findPlan_53 : decode cX8_findPlan 53 = .ok (.irem, 1) := by decide +kernel
theorem dX8_findPlan_54 : decode cX8_findPlan 54 = .ok (.iadd, 1) := by decide +kernel
theorem dX8_findPlan_55 : decode cX8_findPlan 55 = .ok (.iastore, 1) := by decide +kernel
theorem dX8_findPlan_56 : decode cX8_findPlan 56 = .ok (.aload_n 0, 1) := by decide +kernel
theorem dX8_findPlan_57 : decode cX8_findPlan 57 = .ok (.getfield 48, 3) := by decide +kernel
theorem dX8_findPlan_60 : decode cX8_findPlan 60 = .ok (.iconst 3, 1) := by decide +kernel
theorem dX8_findPlan_61 : decode cX8_findPlan 61 = .ok (.iconst 1, 1) := by decide +kernel
theorem dX8_findPlan_62 : decode cX8_findPlan 62 = .ok (.iload_n 2, 1) := by decide +kernel
end
section
theorem dX8_findPlan_63 : decode cX8_findPlan 63 = .ok (.bipush 9, 2) := by decide +kernel
theorem dX8_findPlan_65 : decode cX8_findPlan 65 = .ok (.irem, 1) := by decide +kernel
theorem dX8_findPlan_66 : decode cX8_findPlan 66 = .ok (.iadd, 1) := by decide +kernel
theorem dX8_findPlan_67 : decode cX8_findPlan 67 = .ok (.iastore, 1) := by decide +kernel
theorem dX8_findPlan_68 : decode cX8_findPlan 68 = .ok (.iconst 0, 1) := by decide +kernel
theorem dX8_findPlan_69 : decode cX8_findPlan 69 = .ok (.istore_n 3, 1) := by decide +kernel
theorem dX8_findPlan_70 : decode cX8_findPlan 70 = .ok (.iconst 1, 1) := by decide +kernel
theorem dX8_findPlan_71 : decode cX8_findPlan 71 = .ok (.istore 4, 2) := by decide +kernel
theorem dX8_findPlan_73 : decode cX8_findPlan 73 = .ok (.iconst 0, 1) := by decide +kernel
theorem dX8_findPlan_74 : decode cX8_findPlan 74 = .ok (.istore 5, 2) := by decide +kernel
theorem dX8_findPlan_76 : decode cX8_findPlan 76 = .ok (.iload 5, 2) := by decide +kernel
theorem dX8_findPlan_78 : decode cX8_findPlan 78 = .ok (.iconst 4, 1) := by decide +kernel
theorem dX8_findPlan_79 : decode cX8_findPlan 79 = .ok (.if_icmp .ge 60, 3) := by decide +kernel
theorem dX8_findPlan_82 : decode cX8_findPlan 82 = .ok (.iload 4, 2) := by decide +kernel
theorem dX8_findPlan_84 : decode cX8_findPlan 84 = .ok (.ifCond .eq 24, 3) := by decide +kernel
theorem dX8_findPlan_87 : decode cX8_findPlan 87 = .ok (.aload_n 0, 1) := by decide +kernel
theorem dX8_findPlan_88 : decode cX8_findPlan 88 = .ok (.iload_n 1, 1) := by decide +kernel
theorem dX8_findPlan_89 : decode cX8_findPlan 89 = .ok (.iload 5, 2) := by decide +kernel
theorem dX8_findPlan_91 : decode cX8_findPlan 91 = .ok (.aload_n 0, 1) := by decide +kernel
theorem dX8_findPlan_92 : decode cX8_findPlan 92 = .ok (.getfield 48, 3) := by decide +kernel
theorem dX8_findPlan_95 : decode cX8_findPlan 95 = .ok (.iload 5, 2) := by decide +kernel
theorem dX8_findPlan_97 : decode cX8_findPlan 97 = .ok (.iaload, 1) := by decide +kernel
theorem dX8_findPlan_98 : decode cX8_findPlan 98 = .ok (.invokevirtual 132, 3) := by decide +kernel
theorem dX8_findPlan_101 : decode cX8_findPlan 101 = .ok (.ifCond .eq 7, 3) := by decide +kernel
theorem dX8_findPlan_104 : decode cX8_findPlan 104 = .ok (.iconst 1, 1) := by decide +kernel
theorem dX8_findPlan_105 : decode cX8_findPlan 105 = .ok (.goto 4, 3) := by decide +kernel
theorem dX8_findPlan_108 : decode cX8_findPlan 108 = .ok (.iconst 0, 1) := by decide +kernel
theorem dX8_findPlan_109 : decode cX8_findPlan 109 = .ok (.istore 4, 2) := by decide +kernel
theorem dX8_findPlan_111 : decode cX8_findPlan 111 = .ok (.iload_n 3, 1) := by decide +kernel
theorem dX8_findPlan_112 : decode cX8_findPlan 112 = .ok (.aload_n 0, 1) := by decide +kernel
theorem dX8_findPlan_113 : decode cX8_findPlan 113 = .ok (.getfield 7, 3) := by decide +kernel
theorem dX8_findPlan_116 : decode cX8_findPlan 116 = .ok (.iconst 4, 1) := by decide +kernel
theorem dX8_findPlan_117 : decode cX8_findPlan 117 = .ok (.iload_n 1, 1) := by decide +kernel
theorem dX8_findPlan_118 : decode cX8_findPlan 118 = .ok (.imul, 1) := by decide +kernel
theorem dX8_findPlan_119 : decode cX8_findPlan 119 = .ok (.iload 5, 2) := by decide +kernel
theorem dX8_findPlan_121 : decode cX8_findPlan 121 = .ok (.iadd, 1) := by decide +kernel
theorem dX8_findPlan_122 : decode cX8_findPlan 122 = .ok (.iaload, 1) := by decide +kernel
theorem dX8_findPlan_123 : decode cX8_findPlan 123 = .ok (.aload_n 0, 1) := by decide +kernel
theorem dX8_findPlan_124 : decode cX8_findPlan 124 = .ok (.getfield 48, 3) := by decide +kernel
theorem dX8_findPlan_127 : decode cX8_findPlan 127 = .ok (.iload 5, 2) := by decide +kernel
theorem dX8_findPlan_129 : decode cX8_findPlan 129 = .ok (.iaload, 1) := by decide +kernel
theorem dX8_findPlan_130 : decode cX8_findPlan 130 = .ok (.isub, 1) := by decide +kernel
theorem dX8_findPlan_131 : decode cX8_findPlan 131 = .ok (.iadd, 1) := by decide +kernel
theorem dX8_findPlan_132 : decode cX8_findPlan 132 = .ok (.istore_n 3, 1) := by decide +kernel
theorem dX8_findPlan_133 : decode cX8_findPlan 133 = .ok (.iinc 5 1, 3) := by decide +kernel
theorem dX8_findPlan_136 : decode cX8_findPlan 136 = .ok (.goto (-60), 3) := by decide +kernel
theorem dX8_findPlan_139 : decode cX8_findPlan 139 = .ok (.iload 4, 2) := by decide +kernel
theorem dX8_findPlan_141 : decode cX8_findPlan 141 = .ok (.ifCond .eq 60, 3) := by decide +kernel
theorem dX8_findPlan_144 : decode cX8_findPlan 144 = .ok (.aload_n 0, 1) := by decide +kernel
theorem dX8_findPlan_145 : decode cX8_findPlan 145 = .ok (.getfield 129, 3) := by decide +kernel
theorem dX8_findPlan_148 : decode cX8_findPlan 148 = .ok (.iconst (-1), 1) := by decide +kernel
theorem dX8_findPlan_149 : decode cX8_findPlan 149 = .ok (.if_icmp .eq 11, 3) := by decide +kernel
theorem dX8_findPlan_152 : decode cX8_findPlan 152 = .ok (.iload_n 3, 1) := by decide +kernel
theorem dX8_findPlan_153 : decode cX8_findPlan 153 = .ok (.aload_n 0, 1) := by decide +kernel
theorem dX8_findPlan_154 : decode cX8_findPlan 154 = .ok (.getfield 129, 3) := by decide +kernel
theorem dX8_findPlan_157 : decode cX8_findPlan 157 = .ok (.if_icmp .ge 44, 3) := by decide +kernel
theorem dX8_findPlan_160 : decode cX8_findPlan 160 = .ok (.aload_n 0, 1) := by decide +kernel
theorem dX8_findPlan_161 : decode cX8_findPlan 161 = .ok (.invokevirtual 135, 3) := by decide +kernel
theorem dX8_findPlan_164 : decode cX8_findPlan 164 = .ok (.ifCond .eq 37, 3) := by decide +kernel
theorem dX8_findPlan_167 : decode cX8_findPlan 167 = .ok (.aload_n 0, 1) := by decide +kernel
theorem dX8_findPlan_168 : decode cX8_findPlan 168 = .ok (.iload_n 3, 1) := by decide +kernel
theorem dX8_findPlan_169 : decode cX8_findPlan 169 = .ok (.putfield 129, 3) := by decide +kernel
theorem dX8_findPlan_172 : decode cX8_findPlan 172 = .ok (.iconst 0, 1) := by decide +kernel
theorem dX8_findPlan_173 : decode cX8_findPlan 173 = .ok (.istore 5, 2) := by decide +kernel
theorem dX8_findPlan_175 : decode cX8_findPlan 175 = .ok (.iload 5, 2) := by decide +kernel
theorem dX8_findPlan_177 : decode cX8_findPlan 177 = .ok (.iconst 4, 1) := by decide +kernel
theorem dX8_findPlan_178 : decode cX8_findPlan 178 = .ok (.if_icmp .ge 23, 3) := by decide +kernel
theorem dX8_findPlan_181 : decode cX8_findPlan 181 = .ok (.aload_n 0, 1) := by decide +kernel
theorem dX8_findPlan_182 : decode cX8_findPlan 182 = .ok (.getfield 57, 3) := by decide +kernel
theorem dX8_findPlan_185 : decode cX8_findPlan 185 = .ok (.iload 5, 2) := by decide +kernel
theorem dX8_findPlan_187 : decode cX8_findPlan 187 = .ok (.aload_n 0, 1) := by decide +kernel
theorem dX8_findPlan_188 : decode cX8_findPlan 188 = .ok (.getfield 48, 3) := by decide +kernel
theorem dX8_findPlan_191 : decode cX8_findPlan 191 = .ok (.iload 5, 2) := by decide +kernel
theorem dX8_findPlan_193 : decode cX8_findPlan 193 = .ok (.iaload, 1) := by decide +kernel
theorem dX8_findPlan_194 : decode cX8_findPlan 194 = .ok (.iastore, 1) := by decide +kernel
theorem dX8_findPlan_195 : decode cX8_findPlan 195 = .ok (.iinc 5 1, 3) := by decide +kernel
theorem dX8_findPlan_198 : decode cX8_findPlan 198 = .ok (.goto (-23), 3) := by decide +kernel
theorem dX8_findPlan_201 : decode cX8_findPlan 201 = .ok (.iinc 2 (-1), 3) := by decide +kernel
theorem dX8_findPlan_204 : decode cX8_findPlan 204 = .ok (.goto (-195), 3) := by decide +kernel
theorem dX8_findPlan_207 : decode cX8_findPlan 207 = .ok (.return_, 1) := by decide +kernel
set_option maxRecDepth 20000 in
theorem ggX8_plan_X8_isPlate : GoodIn wsX8_plan wsX8_isPlate := goodIn_r _ [7, 8, 9, 10, 6, 11, 59, 60, 61, 62, 63, 64, 65, 66, 67, 68, 69, 70, 71, 72, 73, 74, 75, 76, 77, 78] (by decide +kernel) (by decide +kernel)
set_option maxRecDepth 20000 in
theorem gX8_plan_X8_isPlate : GoodIn wsX8_plan (wsV RX8 71 RX8 yX8_isPlate wsX8_isPlate) := goodIn_app (goodIn_of _ (by decide +kernel)) ggX8_plan_X8_isPlate
set_option maxRecDepth 20000 in
theorem ggX8_plan_X8_findWoods : GoodIn wsX8_plan wsX8_findWoods := goodIn_r _ [15, 1, 16, 17, 18, 19, 20, 21, 22, 23, 24, 6, 25, 26, 27, 28, 29, 30, 31, 32, 33, 34, 35, 36, 37, 38, 39, 40, 59, 60, 61, 62, 63, 64, 65, 66, 67, 68, 69, 70, 71, 72, 73, 74, 75, 76, 77, 78] (by decide +kernel) (by decide +kernel)
set_option maxRecDepth 20000 in
theorem gX8_plan_X8_findWoods : GoodIn wsX8_plan (wsV RX8 114 RX8 yX8_findWoods wsX8_findWoods) := goodIn_app (goodIn_of _ (by decide +kernel)) ggX8_plan_X8_findWoods
set_option maxRecDepth 20000 in
theorem ggX8_plan_X8_findPlan : GoodIn wsX8_plan wsX8_findPlan := goodIn_r _ [44, 2, 26, 45, 46, 47, 48, 49, 6, 50, 51, 52, 53, 54, 55, 1, 56, 21, 57, 58, 27, 28, 29, 30, 31, 32, 33, 34, 35, 36, 37, 38, 39, 40, 59, 60, 61, 62, 63, 64, 65, 66, 67, 68, 69, 70, 71, 72, 73, 74, 75, 76, 77, 78] (by decide +kernel) (by decide +kernel)
set_option maxRecDepth 20000 in
theorem gX8_plan_X8_findPlan : GoodIn wsX8_plan (wsV RX8 139 RX8 yX8_findPlan wsX8_findPlan) := goodIn_app (goodIn_of _ (by decide +kernel)) ggX8_plan_X8_findPlan
theorem dX8_plan_0 : decode cX8_plan 0 = .ok (.aload_n 0, 1) := by decide +kernel
theorem dX8_plan_1 : decode cX8_plan 1 = .ok (.iload_n 1, 1) := by decide +kernel
theorem dX8_plan_2 : decode cX8_plan 2 = .ok (.invokevirtual 71, 3) := by decide +kernel
theorem dX8_plan_5 : decode cX8_plan 5 = .ok (.ifCond .ne 6, 3) := by decide +kernel
theorem dX8_plan_8 : decode cX8_plan 8 = .ok (.bipush (-2), 2) := by decide +kernel
theorem dX8_plan_10 : decode cX8_plan 10 = .ok (.ireturn, 1) := by decide +kernel
theorem dX8_plan_11 : decode cX8_plan 11 = .ok (.aload_n 0, 1) := by decide +kernel
theorem dX8_plan_12 : decode cX8_plan 12 = .ok (.invokevirtual 114, 3) := by decide +kernel
theorem dX8_plan_15 : decode cX8_plan 15 = .ok (.aload_n 0, 1) := by decide +kernel
theorem dX8_plan_16 : decode cX8_plan 16 = .ok (.getfield 107, 3) := by decide +kernel
theorem dX8_plan_19 : decode cX8_plan 19 = .ok (.ifCond .ne 6, 3) := by decide +kernel
theorem dX8_plan_22 : decode cX8_plan 22 = .ok (.bipush (-3), 2) := by decide +kernel
theorem dX8_plan_24 : decode cX8_plan 24 = .ok (.ireturn, 1) := by decide +kernel
theorem dX8_plan_25 : decode cX8_plan 25 = .ok (.aload_n 0, 1) := by decide +kernel
theorem dX8_plan_26 : decode cX8_plan 26 = .ok (.iload_n 1, 1) := by decide +kernel
theorem dX8_plan_27 : decode cX8_plan 27 = .ok (.invokevirtual 139, 3) := by decide +kernel
theorem dX8_plan_30 : decode cX8_plan 30 = .ok (.aload_n 0, 1) := by decide +kernel
theorem dX8_plan_31 : decode cX8_plan 31 = .ok (.getfield 129, 3) := by decide +kernel
theorem dX8_plan_34 : decode cX8_plan 34 = .ok (.ireturn, 1) := by decide +kernel
set_option maxRecDepth 20000 in
theorem ggX8_planned_X8_isPlate : GoodIn wsX8_planned wsX8_isPlate := goodIn_r _ [9, 10, 11, 12, 8, 13, 59, 60, 61, 62, 63, 64, 65, 66, 67, 68, 69, 70, 71, 72, 73, 74, 75, 76, 77, 78] (by decide +kernel) (by decide +kernel)
set_option maxRecDepth 20000 in
theorem gX8_planned_X8_isPlate : GoodIn wsX8_planned (wsV RX8 71 RX8 yX8_isPlate wsX8_isPlate) := goodIn_app (goodIn_of _ (by decide +kernel)) ggX8_planned_X8_isPlate
set_option maxRecDepth 20000 in
theorem ggX8_planned_X8_findWoods : GoodIn wsX8_planned wsX8_findWoods := goodIn_r _ [17, 1, 18, 19, 20, 21, 22, 23, 24, 25, 26, 8, 27, 28, 29, 30, 31, 32, 33, 34, 35, 36, 37, 38, 39, 40, 41, 42, 59, 60, 61, 62, 63, 64, 65, 66, 67, 68, 69, 70, 71, 72, 73, 74, 75, 76, 77, 78] (by decide +kernel) (by decide +kernel)
set_option maxRecDepth 20000 in
theorem gX8_planned_X8_findWoods : GoodIn wsX8_planned (wsV RX8 114 RX8 yX8_findWoods wsX8_findWoods) := goodIn_app (goodIn_of _ (by decide +kernel)) ggX8_planned_X8_findWoods
set_option maxRecDepth 20000 in
theorem ggX8_planned_X8_findPlan : GoodIn wsX8_planned wsX8_findPlan := goodIn_r _ [46, 2, 28, 3, 4, 47, 48, 49, 8, 50, 51, 52, 53, 54, 55, 1, 56, 23, 57, 58, 29, 30, 31, 32, 33, 34, 35, 36, 37, 38, 39, 40, 41, 42, 59, 60, 61, 62, 63, 64, 65, 66, 67, 68, 69, 70, 71, 72, 73, 74, 75, 76, 77, 78] (by decide +kernel) (by decide +kernel)
set_option maxRecDepth 20000 in
theorem gX8_planned_X8_findPlan : GoodIn wsX8_planned (wsV RX8 139 RX8 yX8_findPlan wsX8_findPlan) := goodIn_app (goodIn_of _ (by decide +kernel)) ggX8_planned_X8_findPlan
theorem dX8_planned_0 : decode cX8_planned 0 = .ok (.aload_n 0, 1) := by decide +kernel
theorem dX8_planned_1 : decode cX8_planned 1 = .ok (.iload_n 1, 1) := by decide +kernel
theorem dX8_planned_2 : decode cX8_planned 2 = .ok (.invokevirtual 71, 3) := by decide +kernel
theorem dX8_planned_5 : decode cX8_planned 5 = .ok (.ifCond .eq 7, 3) := by decide +kernel
theorem dX8_planned_8 : decode cX8_planned 8 = .ok (.iload_n 2, 1) := by decide +kernel
theorem dX8_planned_9 : decode cX8_planned 9 = .ok (.ifCond .ge 6, 3) := by decide +kernel
theorem dX8_planned_12 : decode cX8_planned 12 = .ok (.bipush (-2), 2) := by decide +kernel
theorem dX8_planned_14 : decode cX8_planned 14 = .ok (.ireturn, 1) := by decide +kernel
theorem dX8_planned_15 : decode cX8_planned 15 = .ok (.aload_n 0, 1) := by decide +kernel
theorem dX8_planned_16 : decode cX8_planned 16 = .ok (.invokevirtual 114, 3) := by decide +kernel
theorem dX8_planned_19 : decode cX8_planned 19 = .ok (.aload_n 0, 1) := by decide +kernel
theorem dX8_planned_20 : decode cX8_planned 20 = .ok (.getfield 107, 3) := by decide +kernel
theorem dX8_planned_23 : decode cX8_planned 23 = .ok (.ifCond .ne 6, 3) := by decide +kernel
theorem dX8_planned_26 : decode cX8_planned 26 = .ok (.bipush (-3), 2) := by decide +kernel
theorem dX8_planned_28 : decode cX8_planned 28 = .ok (.ireturn, 1) := by decide +kernel
theorem dX8_planned_29 : decode cX8_planned 29 = .ok (.aload_n 0, 1) := by decide +kernel
theorem dX8_planned_30 : decode cX8_planned 30 = .ok (.iload_n 1, 1) := by decide +kernel
theorem dX8_planned_31 : decode cX8_planned 31 = .ok (.invokevirtual 139, 3) := by decide +kernel
theorem dX8_planned_34 : decode cX8_planned 34 = .ok (.iload_n 2, 1) := by decide +kernel
theorem dX8_planned_35 : decode cX8_planned 35 = .ok (.istore_n 3, 1) := by decide +kernel
theorem dX8_planned_36 : decode cX8_planned 36 = .ok (.iconst 0, 1) := by decide +kernel
theorem dX8_planned_37 : decode cX8_planned 37 = .ok (.istore 4, 2) := by decide +kernel
theorem dX8_planned_39 : decode cX8_planned 39 = .ok (.iload 4, 2) := by decide +kernel
theorem dX8_planned_41 : decode cX8_planned 41 = .ok (.iconst 4, 1) := by decide +kernel
theorem dX8_planned_42 : decode cX8_planned 42 = .ok (.if_icmp .ge 52, 3) := by decide +kernel
theorem dX8_planned_45 : decode cX8_planned 45 = .ok (.aload_n 0, 1) := by decide +kernel
theorem dX8_planned_46 : decode cX8_planned 46 = .ok (.getfield 129, 3) := by decide +kernel
theorem dX8_planned_49 : decode cX8_planned 49 = .ok (.iconst (-1), 1) := by decide +kernel
theorem dX8_planned_50 : decode cX8_planned 50 = .ok (.if_icmp .eq 44, 3) := by decide +kernel
theorem dX8_planned_53 : decode cX8_planned 53 = .ok (.aload_n 0, 1) := by decide +kernel
theorem dX8_planned_54 : decode cX8_planned 54 = .ok (.getfield 7, 3) := by decide +kernel
theorem dX8_planned_57 : decode cX8_planned 57 = .ok (.iconst 4, 1) := by decide +kernel
theorem dX8_planned_58 : decode cX8_planned 58 = .ok (.iload_n 1, 1) := by decide +kernel
theorem dX8_planned_59 : decode cX8_planned 59 = .ok (.imul, 1) := by decide +kernel
theorem dX8_planned_60 : decode cX8_planned 60 = .ok (.iload 4, 2) := by decide +kernel
theorem dX8_planned_62 : decode cX8_planned 62 = .ok (.iadd, 1) := by decide +kernel
theorem dX8_planned_63 : decode cX8_planned 63 = .ok (.iaload, 1) := by decide +kernel
theorem dX8_planned_64 : decode cX8_planned 64 = .ok (.aload_n 0, 1) := by decide +kernel
theorem dX8_planned_65 : decode cX8_planned 65 = .ok (.getfield 57, 3) := by decide +kernel
theorem dX8_planned_68 : decode cX8_planned 68 = .ok (.iload 4, 2) := by decide +kernel
theorem dX8_planned_70 : decode cX8_planned 70 = .ok (.iaload, 1) := by decide +kernel
theorem dX8_planned_71 : decode cX8_planned 71 = .ok (.isub, 1) := by decide +kernel
theorem dX8_planned_72 : decode cX8_planned 72 = .ok (.istore 5, 2) := by decide +kernel
theorem dX8_planned_74 : decode cX8_planned 74 = .ok (.iload_n 3, 1) := by decide +kernel
theorem dX8_planned_75 : decode cX8_planned 75 = .ok (.iload 5, 2) := by decide +kernel
theorem dX8_planned_77 : decode cX8_planned 77 = .ok (.if_icmp .ge 6, 3) := by decide +kernel
theorem dX8_planned_80 : decode cX8_planned 80 = .ok (.iload 4, 2) := by decide +kernel
theorem dX8_planned_82 : decode cX8_planned 82 = .ok (.ireturn, 1) := by decide +kernel
theorem dX8_planned_83 : decode cX8_planned 83 = .ok (.iload_n 3, 1) := by decide +kernel
theorem dX8_planned_84 : decode cX8_planned 84 = .ok (.iload 5, 2) := by decide +kernel
theorem dX8_planned_86 : decode cX8_planned 86 = .ok (.isub, 1) := by decide +kernel
theorem dX8_planned_87 : decode cX8_planned 87 = .ok (.istore_n 3, 1) := by decide +kernel
theorem dX8_planned_88 : decode cX8_planned 88 = .ok (.iinc 4 1, 3) := by decide +kernel
theorem dX8_planned_91 : decode cX8_planned 91 = .ok (.goto (-52), 3) := by decide +kernel
theorem dX8_planned_94 : decode cX8_planned 94 = .ok (.iconst (-1), 1) := by decide +kernel
theorem dX8_planned_95 : decode cX8_planned 95 = .ok (.ireturn, 1) := by decide +kernel
set_option maxRecDepth 20000 in
theorem ggX8_carve_X8_isPlate : GoodIn wsX8_carve wsX8_isPlate := goodIn_r _ [10, 11, 12, 13, 9, 14, 65, 66, 67, 68, 69, 70, 71, 72, 73, 74, 75, 76, 77, 78, 79, 80, 81, 82, 83, 84] (by decide +kernel) (by decide +kernel)
set_option maxRecDepth 20000 in
theorem gX8_carve_X8_isPlate : GoodIn wsX8_carve (wsV RX8 71 RX8 yX8_isPlate wsX8_isPlate) := goodIn_app (goodIn_of _ (by decide +kernel)) ggX8_carve_X8_isPlate
set_option maxRecDepth 20000 in
theorem ggX8_carve_X8_findWoods : GoodIn wsX8_carve wsX8_findWoods := goodIn_r _ [18, 1, 19, 20, 21, 22, 23, 24, 25, 26, 27, 9, 28, 29, 30, 31, 32, 33, 34, 35, 36, 37, 38, 39, 40, 41, 42, 43, 65, 66, 67, 68, 69, 70, 71, 72, 73, 74, 75, 76, 77, 78, 79, 80, 81, 82, 83, 84] (by decide +kernel) (by decide +kernel)
set_option maxRecDepth 20000 in
theorem gX8_carve_X8_findWoods : GoodIn wsX8_carve (wsV RX8 114 RX8 yX8_findWoods wsX8_findWoods) := goodIn_app (goodIn_of _ (by decide +kernel)) ggX8_carve_X8_findWoods
set_option maxRecDepth 20000 in
theorem ggX8_carve_X8_findPlan : GoodIn wsX8_carve wsX8_findPlan := goodIn_r _ [47, 2, 29, 4, 5, 48, 49, 50, 9, 51, 52, 53, 54, 55, 56, 1, 57, 24, 58, 59, 30, 31, 32, 33, 34, 35, 36, 37, 38, 39, 40, 41, 42, 43, 65, 66, 67, 68, 69, 70, 71, 72, 73, 74, 75, 76, 77, 78, 79, 80, 81, 82, 83, 84] (by decide +kernel) (by decide +kernel)
set_option maxRecDepth 20000 in
theorem gX8_carve_X8_findPlan : GoodIn wsX8_carve (wsV RX8 139 RX8 yX8_findPlan wsX8_findPlan) := goodIn_app (goodIn_of _ (by decide +kernel)) ggX8_carve_X8_findPlan
set_option maxRecDepth 20000 in
theorem ggX8_carve_X8_shaveOff : GoodIn wsX8_carve wsX8_shaveOff := goodIn_r _ [63, 4, 64, 3, 65, 66, 67, 68, 69, 70, 71, 72, 73, 74, 75, 76, 77, 78, 79, 80, 81, 82, 83, 84] (by decide +kernel) (by decide +kernel)
set_option maxRecDepth 20000 in
theorem gX8_carve_X8_shaveOff : GoodIn wsX8_carve (wsV RX8 77 RX8 yX8_shaveOff wsX8_shaveOff) := goodIn_app (goodIn_of _ (by decide +kernel)) ggX8_carve_X8_shaveOff
theorem dX8_carve_0 : decode cX8_carve 0 = .ok (.aload_n 0, 1) := by decide +kernel
theorem dX8_carve_1 : decode cX8_carve 1 = .ok (.iload_n 1, 1) := by decide +kernel
theorem dX8_carve_2 : decode cX8_carve 2 = .ok (.invokevirtual 71, 3) := by decide +kernel
theorem dX8_carve_5 : decode cX8_carve 5 = .ok (.ifCond .ne 6, 3) := by decide +kernel
theorem dX8_carve_8 : decode cX8_carve 8 = .ok (.bipush (-2), 2) := by decide +kernel
theorem dX8_carve_10 : decode cX8_carve 10 = .ok (.ireturn, 1) := by decide +kernel
theorem dX8_carve_11 : decode cX8_carve 11 = .ok (.aload_n 0, 1) := by decide +kernel
theorem dX8_carve_12 : decode cX8_carve 12 = .ok (.invokevirtual 114, 3) := by decide +kernel
theorem dX8_carve_15 : decode cX8_carve 15 = .ok (.aload_n 0, 1) := by decide +kernel
theorem dX8_carve_16 : decode cX8_carve 16 = .ok (.getfield 107, 3) := by decide +kernel
theorem dX8_carve_19 : decode cX8_carve 19 = .ok (.ifCond .ne 6, 3) := by decide +kernel
theorem dX8_carve_22 : decode cX8_carve 22 = .ok (.bipush (-3), 2) := by decide +kernel
theorem dX8_carve_24 : decode cX8_carve 24 = .ok (.ireturn, 1) := by decide +kernel
theorem dX8_carve_25 : decode cX8_carve 25 = .ok (.aload_n 0, 1) := by decide +kernel
theorem dX8_carve_26 : decode cX8_carve 26 = .ok (.iload_n 1, 1) := by decide +kernel
theorem dX8_carve_27 : decode cX8_carve 27 = .ok (.invokevirtual 139, 3) := by decide +kernel
theorem dX8_carve_30 : decode cX8_carve 30 = .ok (.aload_n 0, 1) := by decide +kernel
theorem dX8_carve_31 : decode cX8_carve 31 = .ok (.getfield 129, 3) := by decide +kernel
theorem dX8_carve_34 : decode cX8_carve 34 = .ok (.iconst (-1), 1) := by decide +kernel
theorem dX8_carve_35 : decode cX8_carve 35 = .ok (.if_icmp .ne 6, 3) := by decide +kernel
theorem dX8_carve_38 : decode cX8_carve 38 = .ok (.bipush (-3), 2) := by decide +kernel
theorem dX8_carve_40 : decode cX8_carve 40 = .ok (.ireturn, 1) := by decide +kernel
theorem dX8_carve_41 : decode cX8_carve 41 = .ok (.aload_n 0, 1) := by decide +kernel
theorem dX8_carve_42 : decode cX8_carve 42 = .ok (.getfield 17, 3) := by decide +kernel
theorem dX8_carve_45 : decode cX8_carve 45 = .ok (.iload_n 1, 1) := by decide +kernel
theorem dX8_carve_46 : decode cX8_carve 46 = .ok (.iaload, 1) := by decide +kernel
theorem dX8_carve_47 : decode cX8_carve 47 = .ok (.aload_n 0, 1) := by decide +kernel
theorem dX8_carve_48 : decode cX8_carve 48 = .ok (.getfield 129, 3) := by decide +kernel
theorem dX8_carve_51 : decode cX8_carve 51 = .ok (.iadd, 1) := by decide +kernel
theorem dX8_carve_52 : decode cX8_carve 52 = .ok (.bipush 20, 2) := by decide +kernel
theorem dX8_carve_54 : decode cX8_carve 54 = .ok (.if_icmp .le 6, 3) := by decide +kernel
theorem dX8_carve_57 : decode cX8_carve 57 = .ok (.bipush (-4), 2) := by decide +kernel
theorem dX8_carve_59 : decode cX8_carve 59 = .ok (.ireturn, 1) := by decide +kernel
theorem dX8_carve_60 : decode cX8_carve 60 = .ok (.iconst 0, 1) := by decide +kernel
theorem dX8_carve_61 : decode cX8_carve 61 = .ok (.istore_n 2, 1) := by decide +kernel
theorem dX8_carve_62 : decode cX8_carve 62 = .ok (.iload_n 2, 1) := by decide +kernel
theorem dX8_carve_63 : decode cX8_carve 63 = .ok (.iconst 4, 1) := by decide +kernel
theorem dX8_carve_64 : decode cX8_carve 64 = .ok (.if_icmp .ge 37, 3) := by decide +kernel
theorem dX8_carve_67 : decode cX8_carve 67 = .ok (.aload_n 0, 1) := by decide +kernel
theorem dX8_carve_68 : decode cX8_carve 68 = .ok (.getfield 7, 3) := by decide +kernel
theorem dX8_carve_71 : decode cX8_carve 71 = .ok (.iconst 4, 1) := by decide +kernel
theorem dX8_carve_72 : decode cX8_carve 72 = .ok (.iload_n 1, 1) := by decide +kernel
theorem dX8_carve_73 : decode cX8_carve 73 = .ok (.imul, 1) := by decide +kernel
theorem dX8_carve_74 : decode cX8_carve 74 = .ok (.iload_n 2, 1) := by decide +kernel
theorem dX8_carve_75 : decode cX8_carve 75 = .ok (.iadd, 1) := by decide +kernel
theorem dX8_carve_76 : decode cX8_carve 76 = .ok (.iaload, 1) := by decide +kernel
theorem dX8_carve_77 : decode cX8_carve 77 = .ok (.aload_n 0, 1) := by decide +kernel
theorem dX8_carve_78 : decode cX8_carve 78 = .ok (.getfield 57, 3) := by decide +kernel
theorem dX8_carve_81 : decode cX8_carve 81 = .ok (.iload_n 2, 1) := by decide +kernel
theorem dX8_carve_82 : decode cX8_carve 82 = .ok (.iaload, 1) := by decide +kernel
theorem dX8_carve_83 : decode cX8_carve 83 = .ok (.if_icmp .le 12, 3) := by decide +kernel
theorem dX8_carve_86 : decode cX8_carve 86 = .ok (.aload_n 0, 1) := by decide +kernel
theorem dX8_carve_87 : decode cX8_carve 87 = .ok (.iload_n 1, 1) := by decide +kernel
theorem dX8_carve_88 : decode cX8_carve 88 = .ok (.iload_n 2, 1) := by decide +kernel
theorem dX8_carve_89 : decode cX8_carve 89 = .ok (.invokevirtual 77, 3) := by decide +kernel
theorem dX8_carve_92 : decode cX8_carve 92 = .ok (.goto (-25), 3) := by decide +kernel
theorem dX8_carve_95 : decode cX8_carve 95 = .ok (.iinc 2 1, 3) := by decide +kernel
theorem dX8_carve_98 : decode cX8_carve 98 = .ok (.goto (-36), 3) := by decide +kernel
theorem dX8_carve_101 : decode cX8_carve 101 = .ok (.aload_n 0, 1) := by decide +kernel
theorem dX8_carve_102 : decode cX8_carve 102 = .ok (.getfield 129, 3) := by decide +kernel
theorem dX8_carve_105 : decode cX8_carve 105 = .ok (.ireturn, 1) := by decide +kernel
set_option maxRecDepth 20000 in
theorem ggX8_off_X8_in : GoodIn wsX8_off wsX8_in := goodIn_r _ [5] (by decide +kernel) (by decide +kernel)
set_option maxRecDepth 20000 in
theorem gX8_off_X8_in : GoodIn wsX8_off (va_wsS RX8 60 yX8_in wsX8_in) := goodIn_app (goodIn_of _ (by decide +kernel)) ggX8_off_X8_in
theorem dX8_off_0 : decode cX8_off 0 = .ok (.iload_n 1, 1) := by decide +kernel
theorem dX8_off_1 : decode cX8_off 1 = .ok (.iconst 0, 1) := by decide +kernel
theorem dX8_off_2 : decode cX8_off 2 = .ok (.sipush 200, 3) := by decide +kernel
theorem dX8_off_5 : decode cX8_off 5 = .ok (.invokestatic 60, 3) := by decide +kernel
theorem dX8_off_8 : decode cX8_off 8 = .ok (.ifCond .ne 6, 3) := by decide +kernel
theorem dX8_off_11 : decode cX8_off 11 = .ok (.bipush (-2), 2) := by decide +kernel
theorem dX8_off_13 : decode cX8_off 13 = .ok (.ireturn, 1) := by decide +kernel
theorem dX8_off_14 : decode cX8_off 14 = .ok (.aload_n 0, 1) := by decide +kernel
theorem dX8_off_15 : decode cX8_off 15 = .ok (.getfield 45, 3) := by decide +kernel
theorem dX8_off_18 : decode cX8_off 18 = .ok (.istore_n 2, 1) := by decide +kernel
theorem dX8_off_19 : decode cX8_off 19 = .ok (.aload_n 0, 1) := by decide +kernel
theorem dX8_off_20 : decode cX8_off 20 = .ok (.iload_n 1, 1) := by decide +kernel
theorem dX8_off_21 : decode cX8_off 21 = .ok (.putfield 45, 3) := by decide +kernel
theorem dX8_off_24 : decode cX8_off 24 = .ok (.iload_n 2, 1) := by decide +kernel
theorem dX8_off_25 : decode cX8_off 25 = .ok (.ireturn, 1) := by decide +kernel
set_option maxRecDepth 20000 in
theorem ggX8_even_X8_isPlate : GoodIn wsX8_even wsX8_isPlate := goodIn_r _ [8, 9, 10, 11, 7, 12, 50, 51, 52, 53, 54, 55, 56, 57, 58, 59, 60, 61, 62, 63, 64, 65, 66, 67, 68, 69] (by decide +kernel) (by decide +kernel)
set_option maxRecDepth 20000 in
theorem gX8_even_X8_isPlate : GoodIn wsX8_even (wsV RX8 71 RX8 yX8_isPlate wsX8_isPlate) := goodIn_app (goodIn_of _ (by decide +kernel)) ggX8_even_X8_isPlate
set_option maxRecDepth 20000 in
theorem ggX8_even_X8_findWoods : GoodIn wsX8_even wsX8_findWoods := goodIn_r _ [16, 1, 17, 18, 19, 20, 21, 22, 23, 24, 25, 7, 26, 27, 28, 29, 30, 31, 32, 33, 34, 35, 36, 37, 38, 39, 40, 41, 50, 51, 52, 53, 54, 55, 56, 57, 58, 59, 60, 61, 62, 63, 64, 65, 66, 67, 68, 69] (by decide +kernel) (by decide +kernel)
set_option maxRecDepth 20000 in
theorem gX8_even_X8_findWoods : GoodIn wsX8_even (wsV RX8 114 RX8 yX8_findWoods wsX8_findWoods) := goodIn_app (goodIn_of _ (by decide +kernel)) ggX8_even_X8_findWoods
set_option maxRecDepth 20000 in
theorem ggX8_even_X8_take : GoodIn wsX8_even wsX8_take := goodIn_r _ [26, 27, 50, 51, 52, 53, 54, 55, 56, 57, 58, 59, 60, 61, 62, 63, 64, 65, 66, 67, 68, 69] (by decide +kernel) (by decide +kernel)
set_option maxRecDepth 20000 in
theorem gX8_even_X8_take : GoodIn wsX8_even (wsV RX8 97 RX8 yX8_take wsX8_take) := goodIn_app (goodIn_of _ (by decide +kernel)) ggX8_even_X8_take
set_option maxRecDepth 20000 in
theorem ggX8_even_X8_toneBy : GoodIn wsX8_even wsX8_toneBy := goodIn_r _ [45, 22, 46, 47, 48, 7, 49, 32, 33, 34, 35, 27, 36, 37, 38, 39, 40, 41, 50, 51, 52, 53, 54, 55, 56, 57, 58, 59, 60, 61, 62, 63, 64, 65, 66, 67, 68, 69] (by decide +kernel) (by decide +kernel)
set_option maxRecDepth 20000 in
theorem gX8_even_X8_toneBy : GoodIn wsX8_even (wsV RX8 117 RX8 yX8_toneBy wsX8_toneBy) := goodIn_app (goodIn_of _ (by decide +kernel)) ggX8_even_X8_toneBy
set_option maxRecDepth 20000 in
theorem ggX8_even_X8_in : GoodIn wsX8_even wsX8_in := goodIn_r _ [12] (by decide +kernel) (by decide +kernel)
set_option maxRecDepth 20000 in
theorem gX8_even_X8_in : GoodIn wsX8_even (va_wsS RX8 60 yX8_in wsX8_in) := goodIn_app (goodIn_of _ (by decide +kernel)) ggX8_even_X8_in
theorem dX8_even_0 : decode cX8_even 0 = .ok (.aload_n 0, 1) := by decide +kernel
theorem dX8_even_1 : decode cX8_even 1 = .ok (.iload_n 1, 1) := by decide +kernel
theorem dX8_even_2 : decode cX8_even 2 = .ok (.invokevirtual 71, 3) := by decide +kernel
theorem dX8_even_5 : decode cX8_even 5 = .ok (.ifCond .eq 11, 3) := by decide +kernel
theorem dX8_even_8 : decode cX8_even 8 = .ok (.aload_n 0, 1) := by decide +kernel
theorem dX8_even_9 : decode cX8_even 9 = .ok (.iload_n 2, 1) := by decide +kernel
theorem dX8_even_10 : decode cX8_even 10 = .ok (.invokevirtual 71, 3) := by decide +kernel
theorem dX8_even_13 : decode cX8_even 13 = .ok (.ifCond .ne 6, 3) := by decide +kernel
theorem dX8_even_16 : decode cX8_even 16 = .ok (.bipush (-2), 2) := by decide +kernel
theorem dX8_even_18 : decode cX8_even 18 = .ok (.ireturn, 1) := by decide +kernel
theorem dX8_even_19 : decode cX8_even 19 = .ok (.aload_n 0, 1) := by decide +kernel
theorem dX8_even_20 : decode cX8_even 20 = .ok (.invokevirtual 114, 3) := by decide +kernel
theorem dX8_even_23 : decode cX8_even 23 = .ok (.aload_n 0, 1) := by decide +kernel
theorem dX8_even_24 : decode cX8_even 24 = .ok (.getfield 107, 3) := by decide +kernel
theorem dX8_even_27 : decode cX8_even 27 = .ok (.ifCond .ne 6, 3) := by decide +kernel
theorem dX8_even_30 : decode cX8_even 30 = .ok (.bipush (-3), 2) := by decide +kernel
theorem dX8_even_32 : decode cX8_even 32 = .ok (.ireturn, 1) := by decide +kernel
theorem dX8_even_33 : decode cX8_even 33 = .ok (.iconst 1, 1) := by decide +kernel
theorem dX8_even_34 : decode cX8_even 34 = .ok (.istore_n 3, 1) := by decide +kernel
theorem dX8_even_35 : decode cX8_even 35 = .ok (.iconst 0, 1) := by decide +kernel
theorem dX8_even_36 : decode cX8_even 36 = .ok (.istore 4, 2) := by decide +kernel
theorem dX8_even_38 : decode cX8_even 38 = .ok (.iload 4, 2) := by decide +kernel
theorem dX8_even_40 : decode cX8_even 40 = .ok (.aload_n 0, 1) := by decide +kernel
theorem dX8_even_41 : decode cX8_even 41 = .ok (.getfield 107, 3) := by decide +kernel
theorem dX8_even_44 : decode cX8_even 44 = .ok (.if_icmp .ge 75, 3) := by decide +kernel
theorem dX8_even_47 : decode cX8_even 47 = .ok (.aload_n 0, 1) := by decide +kernel
theorem dX8_even_48 : decode cX8_even 48 = .ok (.aload_n 0, 1) := by decide +kernel
theorem dX8_even_49 : decode cX8_even 49 = .ok (.getfield 7, 3) := by decide +kernel
theorem dX8_even_52 : decode cX8_even 52 = .ok (.iload_n 1, 1) := by decide +kernel
theorem dX8_even_53 : decode cX8_even 53 = .ok (.invokevirtual 97, 3) := by decide +kernel
theorem dX8_even_56 : decode cX8_even 56 = .ok (.aload_n 0, 1) := by decide +kernel
theorem dX8_even_57 : decode cX8_even 57 = .ok (.iload 4, 2) := by decide +kernel
theorem dX8_even_59 : decode cX8_even 59 = .ok (.iconst 0, 1) := by decide +kernel
theorem dX8_even_60 : decode cX8_even 60 = .ok (.invokevirtual 117, 3) := by decide +kernel
theorem dX8_even_63 : decode cX8_even 63 = .ok (.istore 5, 2) := by decide +kernel
theorem dX8_even_65 : decode cX8_even 65 = .ok (.aload_n 0, 1) := by decide +kernel
theorem dX8_even_66 : decode cX8_even 66 = .ok (.aload_n 0, 1) := by decide +kernel
theorem dX8_even_67 : decode cX8_even 67 = .ok (.getfield 7, 3) := by decide +kernel
theorem dX8_even_70 : decode cX8_even 70 = .ok (.iload_n 2, 1) := by decide +kernel
theorem dX8_even_71 : decode cX8_even 71 = .ok (.invokevirtual 97, 3) := by decide +kernel
theorem dX8_even_74 : decode cX8_even 74 = .ok (.iload 5, 2) := by decide +kernel
theorem dX8_even_76 : decode cX8_even 76 = .ok (.aload_n 0, 1) := by decide +kernel
theorem dX8_even_77 : decode cX8_even 77 = .ok (.iload 4, 2) := by decide +kernel
theorem dX8_even_79 : decode cX8_even 79 = .ok (.iconst 0, 1) := by decide +kernel
theorem dX8_even_80 : decode cX8_even 80 = .ok (.invokevirtual 117, 3) := by decide +kernel
theorem dX8_even_83 : decode cX8_even 83 = .ok (.isub, 1) := by decide +kernel
theorem dX8_even_84 : decode cX8_even 84 = .ok (.istore 5, 2) := by decide +kernel
theorem dX8_even_86 : decode cX8_even 86 = .ok (.iload_n 3, 1) := by decide +kernel
theorem dX8_even_87 : decode cX8_even 87 = .ok (.ifCond .eq 24, 3) := by decide +kernel
theorem dX8_even_90 : decode cX8_even 90 = .ok (.iload 5, 2) := by decide +kernel
theorem dX8_even_92 : decode cX8_even 92 = .ok (.aload_n 0, 1) := by decide +kernel
theorem dX8_even_93 : decode cX8_even 93 = .ok (.getfield 45, 3) := by decide +kernel
theorem dX8_even_96 : decode cX8_even 96 = .ok (.ineg, 1) := by decide +kernel
theorem dX8_even_97 : decode cX8_even 97 = .ok (.aload_n 0, 1) := by decide +kernel
theorem dX8_even_98 : decode cX8_even 98 = .ok (.getfield 45, 3) := by decide +kernel
theorem dX8_even_101 : decode cX8_even 101 = .ok (.invokestatic 60, 3) := by decide +kernel
theorem dX8_even_104 : decode cX8_even 104 = .ok (.ifCond .eq 7, 3) := by decide +kernel
theorem dX8_even_107 : decode cX8_even 107 = .ok (.iconst 1, 1) := by decide +kernel
theorem dX8_even_108 : decode cX8_even 108 = .ok (.goto 4, 3) := by decide +kernel
theorem dX8_even_111 : decode cX8_even 111 = .ok (.iconst 0, 1) := by decide +kernel
theorem dX8_even_112 : decode cX8_even 112 = .ok (.istore_n 3, 1) := by decide +kernel
theorem dX8_even_113 : decode cX8_even 113 = .ok (.iinc 4 1, 3) := by decide +kernel
theorem dX8_even_116 : decode cX8_even 116 = .ok (.goto (-78), 3) := by decide +kernel
theorem dX8_even_119 : decode cX8_even 119 = .ok (.iload_n 3, 1) := by decide +kernel
theorem dX8_even_120 : decode cX8_even 120 = .ok (.ifCond .eq 7, 3) := by decide +kernel
theorem dX8_even_123 : decode cX8_even 123 = .ok (.iconst 1, 1) := by decide +kernel
theorem dX8_even_124 : decode cX8_even 124 = .ok (.goto 4, 3) := by decide +kernel
theorem dX8_even_127 : decode cX8_even 127 = .ok (.iconst 0, 1) := by decide +kernel
theorem dX8_even_128 : decode cX8_even 128 = .ok (.ireturn, 1) := by decide +kernel
set_option maxRecDepth 20000 in
theorem ggX8_count_X8_aims : GoodIn wsX8_count wsX8_aims := goodIn_r _ [8, 9, 10, 11, 12, 13, 14, 15, 16, 17, 18, 19, 20, 21, 22, 23, 24, 25, 26, 27, 28, 29] (by decide +kernel) (by decide +kernel)
set_option maxRecDepth 20000 in
theorem gX8_count_X8_aims : GoodIn wsX8_count (wsV RX8 125 RX8 yX8_aims wsX8_aims) := goodIn_app (goodIn_of _ (by decide +kernel)) ggX8_count_X8_aims
theorem dX8_count_0 : decode cX8_count 0 = .ok (.iconst 0, 1) := by decide +kernel
theorem dX8_count_1 : decode cX8_count 1 = .ok (.istore_n 2, 1) := by decide +kernel
theorem dX8_count_2 : decode cX8_count 2 = .ok (.iload_n 1, 1) := by decide +kernel
theorem dX8_count_3 : decode cX8_count 3 = .ok (.tableswitch 71 0 3 #[29, 34, 39, 44], 29) := by decide +kernel
theorem dX8_count_32 : decode cX8_count 32 = .ok (.aload_n 0, 1) := by decide +kernel
theorem dX8_count_33 : decode cX8_count 33 = .ok (.getfield 64, 3) := by decide +kernel
theorem dX8_count_36 : decode cX8_count 36 = .ok (.ireturn, 1) := by decide +kernel
theorem dX8_count_37 : decode cX8_count 37 = .ok (.aload_n 0, 1) := by decide +kernel
theorem dX8_count_38 : decode cX8_count 38 = .ok (.getfield 104, 3) := by decide +kernel
theorem dX8_count_41 : decode cX8_count 41 = .ok (.ireturn, 1) := by decide +kernel
theorem dX8_count_42 : decode cX8_count 42 = .ok (.aload_n 0, 1) := by decide +kernel
theorem dX8_count_43 : decode cX8_count 43 = .ok (.invokevirtual 125, 3) := by decide +kernel
theorem dX8_count_46 : decode cX8_count 46 = .ok (.ireturn, 1) := by decide +kernel
theorem dX8_count_47 : decode cX8_count 47 = .ok (.iconst 0, 1) := by decide +kernel
theorem dX8_count_48 : decode cX8_count 48 = .ok (.istore_n 3, 1) := by decide +kernel
theorem dX8_count_49 : decode cX8_count 49 = .ok (.iload_n 3, 1) := by decide +kernel
theorem dX8_count_50 : decode cX8_count 50 = .ok (.aload_n 0, 1) := by decide +kernel
theorem dX8_count_51 : decode cX8_count 51 = .ok (.getfield 64, 3) := by decide +kernel
theorem dX8_count_54 : decode cX8_count 54 = .ok (.if_icmp .ge 18, 3) := by decide +kernel
theorem dX8_count_57 : decode cX8_count 57 = .ok (.iload_n 2, 1) := by decide +kernel
theorem dX8_count_58 : decode cX8_count 58 = .ok (.aload_n 0, 1) := by decide +kernel
theorem dX8_count_59 : decode cX8_count 59 = .ok (.getfield 17, 3) := by decide +kernel
theorem dX8_count_62 : decode cX8_count 62 = .ok (.iload_n 3, 1) := by decide +kernel
theorem dX8_count_63 : decode cX8_count 63 = .ok (.iaload, 1) := by decide +kernel
theorem dX8_count_64 : decode cX8_count 64 = .ok (.iadd, 1) := by decide +kernel
theorem dX8_count_65 : decode cX8_count 65 = .ok (.istore_n 2, 1) := by decide +kernel
theorem dX8_count_66 : decode cX8_count 66 = .ok (.iinc 3 1, 3) := by decide +kernel
theorem dX8_count_69 : decode cX8_count 69 = .ok (.goto (-20), 3) := by decide +kernel
theorem dX8_count_72 : decode cX8_count 72 = .ok (.iload_n 2, 1) := by decide +kernel
theorem dX8_count_73 : decode cX8_count 73 = .ok (.ireturn, 1) := by decide +kernel
theorem dX8_count_74 : decode cX8_count 74 = .ok (.bipush (-2), 2) := by decide +kernel
theorem dX8_count_76 : decode cX8_count 76 = .ok (.ireturn, 1) := by decide +kernel
theorem dJ9_abs_0f7a4_0 : decode cJ9_abs_0f7a4 0 = .ok (.iload_n 0, 1) := by decide +kernel
theorem dJ9_abs_0f7a4_1 : decode cJ9_abs_0f7a4 1 = .ok (.ifCond .ge 8, 3) := by decide +kernel
theorem dJ9_abs_0f7a4_4 : decode cJ9_abs_0f7a4 4 = .ok (.iload_n 0, 1) := by decide +kernel
theorem dJ9_abs_0f7a4_5 : decode cJ9_abs_0f7a4 5 = .ok (.ineg, 1) := by decide +kernel
theorem dJ9_abs_0f7a4_6 : decode cJ9_abs_0f7a4 6 = .ok (.goto 4, 3) := by decide +kernel
theorem dJ9_abs_0f7a4_9 : decode cJ9_abs_0f7a4 9 = .ok (.iload_n 0, 1) := by decide +kernel
theorem dJ9_abs_0f7a4_10 : decode cJ9_abs_0f7a4 10 = .ok (.ireturn, 1) := by decide +kernel
theorem dJ9_max_7cf53_0 : decode cJ9_max_7cf53 0 = .ok (.iload_n 0, 1) := by decide +kernel
theorem dJ9_max_7cf53_1 : decode cJ9_max_7cf53 1 = .ok (.iload_n 1, 1) := by decide +kernel
theorem dJ9_max_7cf53_2 : decode cJ9_max_7cf53 2 = .ok (.if_icmp .lt 7, 3) := by decide +kernel
theorem dJ9_max_7cf53_5 : decode cJ9_max_7cf53 5 = .ok (.iload_n 0, 1) := by decide +kernel
theorem dJ9_max_7cf53_6 : decode cJ9_max_7cf53 6 = .ok (.goto 4, 3) := by decide +kernel
theorem dJ9_max_7cf53_9 : decode cJ9_max_7cf53 9 = .ok (.iload_n 1, 1) := by decide +kernel
theorem dJ9_max_7cf53_10 : decode cJ9_max_7cf53 10 = .ok (.ireturn, 1) := by decide +kernel
theorem dJ9_min_7cf53_0 : decode cJ9_min_7cf53 0 = .ok (.iload_n 0, 1) := by decide +kernel
theorem dJ9_min_7cf53_1 : decode cJ9_min_7cf53 1 = .ok (.iload_n 1, 1) := by decide +kernel
theorem dJ9_min_7cf53_2 : decode cJ9_min_7cf53 2 = .ok (.if_icmp .gt 7, 3) := by decide +kernel
theorem dJ9_min_7cf53_5 : decode cJ9_min_7cf53 5 = .ok (.iload_n 0, 1) := by decide +kernel
theorem dJ9_min_7cf53_6 : decode cJ9_min_7cf53 6 = .ok (.goto 4, 3) := by decide +kernel
theorem dJ9_min_7cf53_9 : decode cJ9_min_7cf53 9 = .ok (.iload_n 1, 1) := by decide +kernel
theorem dJ9_min_7cf53_10 : decode cJ9_min_7cf53 10 = .ok (.ireturn, 1) := by decide +kernel
theorem dJ7_fill_53178_0 : decode cJ7_fill_53178 0 = .ok (.iconst 0, 1) := by decide +kernel
theorem dJ7_fill_53178_1 : decode cJ7_fill_53178 1 = .ok (.istore_n 2, 1) := by decide +kernel
theorem dJ7_fill_53178_2 : decode cJ7_fill_53178 2 = .ok (.aload_n 0, 1) := by decide +kernel
theorem dJ7_fill_53178_3 : decode cJ7_fill_53178 3 = .ok (.arraylength, 1) := by decide +kernel
theorem dJ7_fill_53178_4 : decode cJ7_fill_53178 4 = .ok (.istore_n 3, 1) := by decide +kernel
theorem dJ7_fill_53178_5 : decode cJ7_fill_53178 5 = .ok (.iload_n 2, 1) := by decide +kernel
theorem dJ7_fill_53178_6 : decode cJ7_fill_53178 6 = .ok (.iload_n 3, 1) := by decide +kernel
theorem dJ7_fill_53178_7 : decode cJ7_fill_53178 7 = .ok (.if_icmp .ge 13, 3) := by decide +kernel
theorem dJ7_fill_53178_10 : decode cJ7_fill_53178 10 = .ok (.aload_n 0, 1) := by decide +kernel
theorem dJ7_fill_53178_11 : decode cJ7_fill_53178 11 = .ok (.iload_n 2, 1) := by decide +kernel
theorem dJ7_fill_53178_12 : decode cJ7_fill_53178 12 = .ok (.iload_n 1, 1) := by decide +kernel
theorem dJ7_fill_53178_13 : decode cJ7_fill_53178 13 = .ok (.iastore, 1) := by decide +kernel
theorem dJ7_fill_53178_14 : decode cJ7_fill_53178 14 = .ok (.iinc 2 1, 3) := by decide +kernel
theorem dJ7_fill_53178_17 : decode cJ7_fill_53178 17 = .ok (.goto (-12), 3) := by decide +kernel
theorem dJ7_fill_53178_20 : decode cJ7_fill_53178 20 = .ok (.return_, 1) := by decide +kernel
set_option maxRecDepth 20000 in
theorem ggL_law_X7_init : GoodIn wsL_law wsX7_init := goodIn_r _ [8, 9, 10, 11, 12, 13, 14, 15, 16, 17, 18, 19, 20, 21, 22, 23, 24, 25, 26, 27, 28, 29, 30, 31, 32, 33, 34, 35, 36, 37, 38, 39, 40, 41, 42, 43, 44, 45, 46, 47, 48, 49, 50, 51, 52, 53, 54, 55, 56, 57, 58, 59, 60, 61, 62, 63, 64, 65, 66, 67, 68, 69, 70, 71, 72, 73, 74, 75, 76, 77, 78, 79, 80, 81, 82, 83, 84, 85, 86, 87, 88, 89, 90, 91, 92, 93, 94, 95, 96, 97, 98, 99, 100, 101, 102, 103, 104, 105, 106, 557, 558, 559, 560, 561, 562, 563, 564, 565, 566, 587, 588, 589, 590, 591, 592, 593, 594, 595, 596, 597, 598, 599, 600, 601, 602, 603, 604, 605, 606, 607, 608] (by decide +kernel) (by decide +kernel)
set_option maxRecDepth 20000 in
theorem gL_law_X7_init : GoodIn wsL_law (wsX7_init) := ggL_law_X7_init
set_option maxRecDepth 20000 in
theorem ggL_law_X8_init : GoodIn wsL_law wsX8_init := goodIn_r _ [109, 110, 10, 11, 30, 111, 112, 113, 114, 115, 116, 117, 118, 85, 119, 120, 121, 122, 123, 124, 125, 126, 567, 568, 569, 570, 571, 572, 573, 574, 575, 576, 577, 578, 579, 580, 581, 582, 583, 584, 585, 586] (by decide +kernel) (by decide +kernel)
set_option maxRecDepth 20000 in
theorem gL_law_X8_init : GoodIn wsL_law (wsX8_init) := ggL_law_X8_init
set_option maxRecDepth 20000 in
theorem ggL_law_X7_plate : GoodIn wsL_law wsX7_plate := goodIn_r _ [130, 33, 13, 131, 132, 2, 133, 134, 135, 136, 37, 137, 104, 557, 558, 559, 560, 561, 562, 563, 564, 565, 566, 603, 604, 605] (by decide +kernel) (by decide +kernel)
set_option maxRecDepth 20000 in
theorem gL_law_X7_plate : GoodIn wsL_law (wsV RL 13 RX7 yX7_plate wsX7_plate) := goodIn_app (goodIn_of _ (by decide +kernel)) ggL_law_X7_plate
set_option maxRecDepth 20000 in
theorem ggL_law_X8_plate : GoodIn wsL_law wsX8_plate := goodIn_r _ [141, 142, 111, 143, 144, 5, 145, 146, 147, 148, 567, 568, 569, 570, 571, 572, 573, 574, 575, 576, 577, 578, 579, 580, 581, 582, 583, 584, 585, 586] (by decide +kernel) (by decide +kernel)
set_option maxRecDepth 20000 in
theorem gL_law_X8_plate : GoodIn wsL_law (wsV RL 17 RX8 yX8_plate wsX8_plate) := goodIn_app (goodIn_of _ (by decide +kernel)) ggL_law_X8_plate
set_option maxRecDepth 20000 in
theorem ggL_law_X7_thick : GoodIn wsL_law wsX7_thick := goodIn_r _ [152, 13, 153, 154, 155, 156, 2, 157, 33, 158, 159, 160, 557, 558, 559, 560, 561, 562, 563, 564, 565, 566, 603, 604, 605] (by decide +kernel) (by decide +kernel)
set_option maxRecDepth 20000 in
theorem gL_law_X7_thick : GoodIn wsL_law (wsV RL 18 RX7 yX7_thick wsX7_thick) := goodIn_app (goodIn_of _ (by decide +kernel)) ggL_law_X7_thick
set_option maxRecDepth 20000 in
theorem ggL_law_X8_thick : GoodIn wsL_law wsX8_thick := goodIn_r _ [164, 111, 165, 166, 167, 5, 168, 142, 146, 147, 148, 169, 170, 171, 567, 568, 569, 570, 571, 572, 573, 574, 575, 576, 577, 578, 579, 580, 581, 582, 583, 584, 585, 586] (by decide +kernel) (by decide +kernel)
set_option maxRecDepth 20000 in
theorem gL_law_X8_thick : GoodIn wsL_law (wsV RL 22 RX8 yX8_thick wsX8_thick) := goodIn_app (goodIn_of _ (by decide +kernel)) ggL_law_X8_thick
set_option maxRecDepth 20000 in
theorem ggL_law_X7_least : GoodIn wsL_law wsX7_least := goodIn_r _ [175, 34, 25, 131, 132, 2, 133, 176, 177, 178, 24, 179, 96, 557, 558, 559, 560, 561, 562, 563, 564, 565, 566, 597, 598, 599, 600, 601] (by decide +kernel) (by decide +kernel)
set_option maxRecDepth 20000 in
theorem gL_law_X7_least : GoodIn wsL_law (wsV RL 23 RX7 yX7_least wsX7_least) := goodIn_app (goodIn_of _ (by decide +kernel)) ggL_law_X7_least
set_option maxRecDepth 20000 in
theorem ggL_law_X8_least : GoodIn wsL_law wsX8_least := goodIn_r _ [183, 112, 143, 144, 5, 145, 146, 147, 148, 567, 568, 569, 570, 571, 572, 573, 574, 575, 576, 577, 578, 579, 580, 581, 582, 583, 584, 585, 586] (by decide +kernel) (by decide +kernel)
set_option maxRecDepth 20000 in
theorem gL_law_X8_least : GoodIn wsL_law (wsV RL 27 RX8 yX8_least wsX8_least) := goodIn_app (goodIn_of _ (by decide +kernel)) ggL_law_X8_least
set_option maxRecDepth 20000 in
theorem ggL_law_X7_shave : GoodIn wsL_law wsX7_shave := goodIn_r _ [187, 13, 153, 34, 188, 25, 154, 155, 156, 2, 157, 33, 158, 159, 160, 189, 190, 191, 37, 192, 106, 104, 105, 176, 177, 178, 24, 179, 96, 557, 558, 559, 560, 561, 562, 563, 564, 565, 566, 603, 604, 605, 597, 598, 599, 600, 601] (by decide +kernel) (by decide +kernel)
set_option maxRecDepth 20000 in
theorem gL_law_X7_shave : GoodIn wsL_law (wsV RL 28 RX7 yX7_shave wsX7_shave) := goodIn_app (goodIn_of _ (by decide +kernel)) ggL_law_X7_shave
set_option maxRecDepth 20000 in
theorem ggL_law_X8_shave : GoodIn wsL_law wsX8_shave := goodIn_r _ [196, 111, 112, 113, 165, 166, 167, 5, 168, 142, 146, 147, 148, 169, 170, 171, 197, 198, 199, 200, 114, 567, 568, 569, 570, 571, 572, 573, 574, 575, 576, 577, 578, 579, 580, 581, 582, 583, 584, 585, 586] (by decide +kernel) (by decide +kernel)
set_option maxRecDepth 20000 in
theorem gL_law_X8_shave : GoodIn wsL_law (wsV RL 31 RX8 yX8_shave wsX8_shave) := goodIn_app (goodIn_of _ (by decide +kernel)) ggL_law_X8_shave
set_option maxRecDepth 20000 in
theorem ggL_law_X7_undo : GoodIn wsL_law wsX7_undo := goodIn_r _ [204, 13, 188, 25, 154, 155, 156, 2, 157, 33, 176, 177, 178, 24, 179, 96, 205, 206, 207, 37, 208, 106, 105, 104, 557, 558, 559, 560, 561, 562, 563, 564, 565, 566, 603, 604, 605, 597, 598, 599, 600, 601] (by decide +kernel) (by decide +kernel)
set_option maxRecDepth 20000 in
theorem gL_law_X7_undo : GoodIn wsL_law (wsV RL 32 RX7 yX7_undo wsX7_undo) := goodIn_app (goodIn_of _ (by decide +kernel)) ggL_law_X7_undo
set_option maxRecDepth 20000 in
theorem ggL_law_X8_undo : GoodIn wsL_law wsX8_undo := goodIn_r _ [212, 113, 114, 111, 165, 166, 167, 5, 168, 142, 146, 147, 148, 567, 568, 569, 570, 571, 572, 573, 574, 575, 576, 577, 578, 579, 580, 581, 582, 583, 584, 585, 586] (by decide +kernel) (by decide +kernel)
set_option maxRecDepth 20000 in
theorem gL_law_X8_undo : GoodIn wsL_law (wsV RL 35 RX8 yX8_undo wsX8_undo) := goodIn_app (goodIn_of _ (by decide +kernel)) ggL_law_X8_undo
set_option maxRecDepth 20000 in
theorem ggL_law_X7_mirror : GoodIn wsL_law wsX7_mirror := goodIn_r _ [216, 13, 25, 154, 155, 156, 2, 157, 33, 217, 218, 219, 37, 220, 104, 106, 221, 135, 136, 137, 176, 177, 178, 24, 179, 96, 557, 558, 559, 560, 561, 562, 563, 564, 565, 566, 603, 604, 605, 597, 598, 599, 600, 601] (by decide +kernel) (by decide +kernel)
set_option maxRecDepth 20000 in
theorem gL_law_X7_mirror : GoodIn wsL_law (wsV RL 36 RX7 yX7_mirror wsX7_mirror) := goodIn_app (goodIn_of _ (by decide +kernel)) ggL_law_X7_mirror
set_option maxRecDepth 20000 in
theorem ggL_law_X8_mirror : GoodIn wsL_law wsX8_mirror := goodIn_r _ [225, 111, 113, 165, 166, 167, 5, 168, 142, 146, 147, 148, 567, 568, 569, 570, 571, 572, 573, 574, 575, 576, 577, 578, 579, 580, 581, 582, 583, 584, 585, 586] (by decide +kernel) (by decide +kernel)
set_option maxRecDepth 20000 in
theorem gL_law_X8_mirror : GoodIn wsL_law (wsV RL 39 RX8 yX8_mirror wsX8_mirror) := goodIn_app (goodIn_of _ (by decide +kernel)) ggL_law_X8_mirror
set_option maxRecDepth 20000 in
theorem ggL_law_X7_tone : GoodIn wsL_law wsX7_tone := goodIn_r _ [229, 13, 153, 154, 155, 156, 2, 157, 33, 230, 231, 232, 233, 234, 235, 236, 237, 72, 238, 239, 240, 241, 242, 243, 244, 245, 71, 73, 557, 558, 559, 560, 561, 562, 563, 564, 565, 566, 603, 604, 605] (by decide +kernel) (by decide +kernel)
set_option maxRecDepth 20000 in
theorem gL_law_X7_tone : GoodIn wsL_law (wsV RL 40 RX7 yX7_tone wsX7_tone) := goodIn_app (goodIn_of _ (by decide +kernel)) ggL_law_X7_tone
set_option maxRecDepth 20000 in
theorem ggL_law_X8_tone : GoodIn wsL_law wsX8_tone := goodIn_r _ [249, 111, 165, 166, 167, 5, 168, 142, 146, 147, 148, 250, 251, 252, 143, 144, 145, 169, 170, 171, 253, 254, 255, 256, 123, 257, 258, 259, 260, 261, 262, 263, 264, 265, 266, 267, 268, 269, 270, 567, 568, 569, 570, 571, 572, 573, 574, 575, 576, 577, 578, 579, 580, 581, 582, 583, 584, 585, 586] (by decide +kernel) (by decide +kernel)
set_option maxRecDepth 20000 in
theorem gL_law_X8_tone : GoodIn wsL_law (wsV RL 43 RX8 yX8_tone wsX8_tone) := goodIn_app (goodIn_of _ (by decide +kernel)) ggL_law_X8_tone
set_option maxRecDepth 20000 in
theorem ggL_law_X7_below : GoodIn wsL_law wsX7_below := goodIn_r _ [274, 13, 153, 154, 155, 156, 2, 157, 33, 230, 231, 232, 275, 276, 277, 278, 240, 72, 241, 242, 243, 244, 557, 558, 559, 560, 561, 562, 563, 564, 565, 566, 603, 604, 605] (by decide +kernel) (by decide +kernel)
set_option maxRecDepth 20000 in
theorem gL_law_X7_below : GoodIn wsL_law (wsV RL 44 RX7 yX7_below wsX7_below) := goodIn_app (goodIn_of _ (by decide +kernel)) ggL_law_X7_below
set_option maxRecDepth 20000 in
theorem ggL_law_X8_below : GoodIn wsL_law wsX8_below := goodIn_r _ [282, 111, 165, 166, 167, 5, 168, 142, 146, 147, 148, 250, 251, 252, 143, 144, 145, 253, 254, 255, 256, 123, 261, 262, 263, 264, 265, 266, 267, 268, 269, 270, 567, 568, 569, 570, 571, 572, 573, 574, 575, 576, 577, 578, 579, 580, 581, 582, 583, 584, 585, 586] (by decide +kernel) (by decide +kernel)
set_option maxRecDepth 20000 in
theorem gL_law_X8_below : GoodIn wsL_law (wsV RL 47 RX8 yX8_below wsX8_below) := goodIn_app (goodIn_of _ (by decide +kernel)) ggL_law_X8_below
set_option maxRecDepth 20000 in
theorem ggL_law_X7_bond : GoodIn wsL_law wsX7_bond := goodIn_r _ [286, 13, 153, 154, 155, 156, 2, 157, 33, 287, 243, 72, 244, 557, 558, 559, 560, 561, 562, 563, 564, 565, 566, 603, 604, 605] (by decide +kernel) (by decide +kernel)
set_option maxRecDepth 20000 in
theorem gL_law_X7_bond : GoodIn wsL_law (wsV RL 48 RX7 yX7_bond wsX7_bond) := goodIn_app (goodIn_of _ (by decide +kernel)) ggL_law_X7_bond
set_option maxRecDepth 20000 in
theorem ggL_law_X8_bond : GoodIn wsL_law wsX8_bond := goodIn_r _ [291, 111, 165, 166, 167, 5, 168, 142, 146, 147, 148, 143, 144, 145, 253, 254, 255, 256, 123, 265, 266, 267, 268, 269, 270, 567, 568, 569, 570, 571, 572, 573, 574, 575, 576, 577, 578, 579, 580, 581, 582, 583, 584, 585, 586] (by decide +kernel) (by decide +kernel)
set_option maxRecDepth 20000 in
theorem gL_law_X8_bond : GoodIn wsL_law (wsV RL 52 RX8 yX8_bond wsX8_bond) := goodIn_app (goodIn_of _ (by decide +kernel)) ggL_law_X8_bond
set_option maxRecDepth 20000 in
theorem ggL_law_X7_tap : GoodIn wsL_law wsX7_tap := goodIn_r _ [295, 17, 296, 13, 153, 25, 154, 155, 156, 2, 157, 33, 233, 234, 235, 297, 298, 299, 275, 276, 277, 300, 301, 302, 16, 303, 44, 43, 304, 305, 306, 307, 308, 72, 309, 310, 237, 238, 239, 240, 241, 242, 243, 244, 58, 59, 60, 61, 47, 48, 49, 62, 63, 64, 65, 66, 67, 68, 51, 69, 55, 56, 57, 70, 71, 73, 74, 75, 76, 77, 45, 46, 78, 79, 80, 81, 176, 177, 178, 24, 179, 96, 557, 558, 559, 560, 561, 562, 563, 564, 565, 566, 587, 588, 589, 590, 591, 592, 593, 603, 604, 605, 606, 607, 608, 597, 598, 599, 600, 601] (by decide +kernel) (by decide +kernel)
set_option maxRecDepth 20000 in
theorem gL_law_X7_tap : GoodIn wsL_law (wsV RL 53 RX7 yX7_tap wsX7_tap) := goodIn_app (goodIn_of _ (by decide +kernel)) ggL_law_X7_tap
set_option maxRecDepth 20000 in
theorem ggL_law_X8_tap : GoodIn wsL_law wsX8_tap := goodIn_r _ [314, 315, 115, 111, 116, 117, 118, 165, 166, 167, 5, 168, 142, 146, 147, 148, 169, 170, 171, 567, 568, 569, 570, 571, 572, 573, 574, 575, 576, 577, 578, 579, 580, 581, 582, 583, 584, 585, 586] (by decide +kernel) (by decide +kernel)
set_option maxRecDepth 20000 in
theorem gL_law_X8_tap : GoodIn wsL_law (wsV RL 56 RX8 yX8_tap wsX8_tap) := goodIn_app (goodIn_of _ (by decide +kernel)) ggL_law_X8_tap
set_option maxRecDepth 20000 in
theorem ggL_law_X7_untap : GoodIn wsL_law wsX7_untap := goodIn_r _ [319, 17, 296, 25, 320, 321, 322, 16, 323, 44, 43, 58, 59, 60, 61, 47, 48, 49, 62, 63, 64, 65, 66, 67, 68, 51, 69, 55, 56, 57, 70, 71, 72, 73, 74, 75, 76, 77, 45, 46, 78, 79, 80, 81, 176, 177, 178, 24, 179, 96, 557, 558, 559, 560, 561, 562, 563, 564, 565, 566, 587, 588, 589, 590, 591, 592, 593, 606, 607, 608, 597, 598, 599, 600, 601] (by decide +kernel) (by decide +kernel)
set_option maxRecDepth 20000 in
theorem gL_law_X7_untap : GoodIn wsL_law (wsV RL 57 RX7 yX7_untap wsX7_untap) := goodIn_app (goodIn_of _ (by decide +kernel)) ggL_law_X7_untap
set_option maxRecDepth 20000 in
theorem ggL_law_X8_untap : GoodIn wsL_law wsX8_untap := goodIn_r _ [327, 315, 115, 116, 117, 118, 146, 147, 5, 148, 567, 568, 569, 570, 571, 572, 573, 574, 575, 576, 577, 578, 579, 580, 581, 582, 583, 584, 585, 586] (by decide +kernel) (by decide +kernel)
set_option maxRecDepth 20000 in
theorem gL_law_X8_untap : GoodIn wsL_law (wsV RL 60 RX8 yX8_untap wsX8_untap) := goodIn_app (goodIn_of _ (by decide +kernel)) ggL_law_X8_untap
set_option maxRecDepth 20000 in
theorem ggL_law_X7_woods : GoodIn wsL_law wsX7_woods := goodIn_r _ [331, 17, 332, 557, 558, 559, 560, 561, 562, 563, 564, 565, 566, 587, 588, 589, 590, 591, 592, 593] (by decide +kernel) (by decide +kernel)
set_option maxRecDepth 20000 in
theorem gL_law_X7_woods : GoodIn wsL_law (wsV RL 61 RX7 yX7_woods wsX7_woods) := goodIn_app (goodIn_of _ (by decide +kernel)) ggL_law_X7_woods
set_option maxRecDepth 20000 in
theorem ggL_law_X8_woods : GoodIn wsL_law wsX8_woods := goodIn_r _ [336, 337, 338, 339, 340, 5, 341, 315, 115, 116, 117, 118, 124, 253, 254, 255, 256, 123, 342, 343, 344, 345, 261, 262, 263, 264, 265, 266, 267, 268, 269, 270, 567, 568, 569, 570, 571, 572, 573, 574, 575, 576, 577, 578, 579, 580, 581, 582, 583, 584, 585, 586] (by decide +kernel) (by decide +kernel)
set_option maxRecDepth 20000 in
theorem gL_law_X8_woods : GoodIn wsL_law (wsV RL 65 RX8 yX8_woods wsX8_woods) := goodIn_app (goodIn_of _ (by decide +kernel)) ggL_law_X8_woods
set_option maxRecDepth 20000 in
theorem ggL_law_X7_wood : GoodIn wsL_law wsX7_wood := goodIn_r _ [349, 17, 332, 350, 351, 352, 353, 2, 354, 557, 558, 559, 560, 561, 562, 563, 564, 565, 566, 587, 588, 589, 590, 591, 592, 593] (by decide +kernel) (by decide +kernel)
set_option maxRecDepth 20000 in
theorem gL_law_X7_wood : GoodIn wsL_law (wsV RL 66 RX7 yX7_wood wsX7_wood) := goodIn_app (goodIn_of _ (by decide +kernel)) ggL_law_X7_wood
set_option maxRecDepth 20000 in
theorem ggL_law_X8_wood : GoodIn wsL_law wsX8_wood := goodIn_r _ [358, 337, 124, 338, 339, 340, 5, 341, 315, 115, 116, 117, 118, 253, 254, 255, 256, 123, 342, 343, 344, 345, 261, 262, 263, 264, 265, 266, 267, 268, 269, 270, 146, 147, 148, 567, 568, 569, 570, 571, 572, 573, 574, 575, 576, 577, 578, 579, 580, 581, 582, 583, 584, 585, 586] (by decide +kernel) (by decide +kernel)
set_option maxRecDepth 20000 in
theorem gL_law_X8_wood : GoodIn wsL_law (wsV RL 69 RX8 yX8_wood wsX8_wood) := goodIn_app (goodIn_of _ (by decide +kernel)) ggL_law_X8_wood
set_option maxRecDepth 20000 in
theorem ggL_law_X7_span : GoodIn wsL_law wsX7_span := goodIn_r _ [362, 17, 332, 31, 13, 153, 154, 155, 156, 2, 157, 33, 233, 234, 235, 352, 353, 354, 363, 308, 72, 309, 310, 237, 238, 239, 240, 241, 242, 243, 244, 364, 365, 366, 16, 367, 368, 48, 369, 370, 371, 372, 373, 71, 73, 374, 375, 376, 377, 49, 378, 379, 380, 557, 558, 559, 560, 561, 562, 563, 564, 565, 566, 587, 588, 589, 590, 591, 592, 593, 603, 604, 605] (by decide +kernel) (by decide +kernel)
set_option maxRecDepth 20000 in
theorem gL_law_X7_span : GoodIn wsL_law (wsV RL 70 RX7 yX7_span wsX7_span) := goodIn_app (goodIn_of _ (by decide +kernel)) ggL_law_X7_span
set_option maxRecDepth 20000 in
theorem ggL_law_X8_span : GoodIn wsL_law wsX8_span := goodIn_r _ [384, 337, 111, 165, 166, 167, 5, 168, 142, 146, 147, 148, 169, 170, 171, 338, 339, 340, 341, 315, 115, 116, 117, 118, 124, 253, 254, 255, 256, 123, 342, 343, 344, 345, 261, 262, 263, 264, 265, 266, 267, 268, 269, 270, 385, 386, 387, 388, 257, 258, 259, 260, 567, 568, 569, 570, 571, 572, 573, 574, 575, 576, 577, 578, 579, 580, 581, 582, 583, 584, 585, 586] (by decide +kernel) (by decide +kernel)
set_option maxRecDepth 20000 in
theorem gL_law_X8_span : GoodIn wsL_law (wsV RL 73 RX8 yX8_span wsX8_span) := goodIn_app (goodIn_of _ (by decide +kernel)) ggL_law_X8_span
set_option maxRecDepth 20000 in
theorem ggL_law_X7_next : GoodIn wsL_law wsX7_next := goodIn_r _ [392, 17, 332, 31, 13, 153, 29, 154, 155, 156, 2, 157, 33, 352, 353, 354, 363, 308, 72, 309, 310, 237, 238, 239, 240, 241, 242, 243, 244, 393, 394, 395, 28, 396, 100, 397, 398, 379, 371, 380, 399, 400, 401, 402, 403, 404, 405, 16, 406, 45, 46, 373, 71, 73, 557, 558, 559, 560, 561, 562, 563, 564, 565, 566, 587, 588, 589, 590, 591, 592, 593, 603, 604, 605, 602] (by decide +kernel) (by decide +kernel)
set_option maxRecDepth 20000 in
theorem gL_law_X7_next : GoodIn wsL_law (wsV RL 74 RX7 yX7_next wsX7_next) := goodIn_app (goodIn_of _ (by decide +kernel)) ggL_law_X7_next
set_option maxRecDepth 20000 in
theorem ggL_law_X8_next : GoodIn wsL_law wsX8_next := goodIn_r _ [410, 337, 111, 165, 166, 167, 5, 168, 142, 146, 147, 148, 338, 339, 340, 341, 315, 115, 116, 117, 118, 124, 253, 254, 255, 256, 123, 342, 343, 344, 345, 261, 262, 263, 264, 265, 266, 267, 268, 269, 270, 411, 412, 413, 414, 125, 385, 386, 387, 388, 257, 258, 259, 260, 567, 568, 569, 570, 571, 572, 573, 574, 575, 576, 577, 578, 579, 580, 581, 582, 583, 584, 585, 586] (by decide +kernel) (by decide +kernel)
set_option maxRecDepth 20000 in
theorem gL_law_X8_next : GoodIn wsL_law (wsV RL 77 RX8 yX8_next wsX8_next) := goodIn_app (goodIn_of _ (by decide +kernel)) ggL_law_X8_next
set_option maxRecDepth 20000 in
theorem ggL_law_X7_aim : GoodIn wsL_law wsX7_aim := goodIn_r _ [418, 21, 25, 233, 234, 2, 235, 297, 298, 299, 275, 276, 277, 419, 420, 421, 20, 422, 86, 87, 88, 176, 177, 178, 24, 179, 96, 557, 558, 559, 560, 561, 562, 563, 564, 565, 566, 594, 595, 596, 597, 598, 599, 600, 601] (by decide +kernel) (by decide +kernel)
set_option maxRecDepth 20000 in
theorem gL_law_X7_aim : GoodIn wsL_law (wsV RL 78 RX7 yX7_aim wsX7_aim) := goodIn_app (goodIn_of _ (by decide +kernel)) ggL_law_X7_aim
set_option maxRecDepth 20000 in
theorem ggL_law_X8_aim : GoodIn wsL_law wsX8_aim := goodIn_r _ [426, 119, 120, 121, 169, 170, 5, 171, 146, 147, 148, 567, 568, 569, 570, 571, 572, 573, 574, 575, 576, 577, 578, 579, 580, 581, 582, 583, 584, 585, 586] (by decide +kernel) (by decide +kernel)
set_option maxRecDepth 20000 in
theorem gL_law_X8_aim : GoodIn wsL_law (wsV RL 81 RX8 yX8_aim wsX8_aim) := goodIn_app (goodIn_of _ (by decide +kernel)) ggL_law_X8_aim
set_option maxRecDepth 20000 in
theorem ggL_law_X7_aimless : GoodIn wsL_law wsX7_aimless := goodIn_r _ [430, 21, 25, 431, 432, 433, 20, 434, 86, 435, 436, 437, 438, 176, 177, 178, 24, 179, 96, 557, 558, 559, 560, 561, 562, 563, 564, 565, 566, 594, 595, 596, 597, 598, 599, 600, 601] (by decide +kernel) (by decide +kernel)
set_option maxRecDepth 20000 in
theorem gL_law_X7_aimless : GoodIn wsL_law (wsV RL 82 RX7 yX7_aimless wsX7_aimless) := goodIn_app (goodIn_of _ (by decide +kernel)) ggL_law_X7_aimless
set_option maxRecDepth 20000 in
theorem ggL_law_X8_aimless : GoodIn wsL_law wsX8_aimless := goodIn_r _ [442, 119, 443, 444, 445, 5, 446, 567, 568, 569, 570, 571, 572, 573, 574, 575, 576, 577, 578, 579, 580, 581, 582, 583, 584, 585, 586] (by decide +kernel) (by decide +kernel)
set_option maxRecDepth 20000 in
theorem gL_law_X8_aimless : GoodIn wsL_law (wsV RL 85 RX8 yX8_aimless wsX8_aimless) := goodIn_app (goodIn_of _ (by decide +kernel)) ggL_law_X8_aimless
set_option maxRecDepth 20000 in
theorem ggL_law_X7_plan : GoodIn wsL_law wsX7_plan := goodIn_r _ [450, 17, 332, 25, 451, 154, 155, 156, 2, 157, 33, 452, 453, 454, 455, 456, 13, 153, 34, 21, 457, 458, 459, 24, 460, 93, 461, 379, 371, 380, 95, 462, 463, 464, 465, 466, 370, 372, 94, 467, 468, 469, 470, 92, 471, 472, 473, 20, 474, 86, 475, 87, 476, 88, 477, 240, 72, 241, 242, 243, 244, 557, 558, 559, 560, 561, 562, 563, 564, 565, 566, 587, 588, 589, 590, 591, 592, 593, 597, 598, 599, 600, 601, 603, 604, 605, 594, 595, 596] (by decide +kernel) (by decide +kernel)
set_option maxRecDepth 20000 in
theorem gL_law_X7_plan : GoodIn wsL_law (wsV RL 86 RX7 yX7_plan wsX7_plan) := goodIn_app (goodIn_of _ (by decide +kernel)) ggL_law_X7_plan
set_option maxRecDepth 20000 in
theorem ggL_law_X8_plan : GoodIn wsL_law wsX8_plan := goodIn_r _ [481, 337, 482, 165, 166, 167, 5, 168, 142, 146, 147, 148, 338, 339, 340, 341, 315, 115, 116, 117, 118, 124, 253, 254, 255, 256, 123, 342, 343, 344, 345, 261, 262, 263, 264, 265, 266, 267, 268, 269, 270, 483, 484, 485, 486, 111, 126, 487, 488, 489, 490, 112, 491, 492, 493, 494, 119, 120, 121, 567, 568, 569, 570, 571, 572, 573, 574, 575, 576, 577, 578, 579, 580, 581, 582, 583, 584, 585, 586] (by decide +kernel) (by decide +kernel)
set_option maxRecDepth 20000 in
theorem gL_law_X8_plan : GoodIn wsL_law (wsV RL 89 RX8 yX8_plan wsX8_plan) := goodIn_app (goodIn_of _ (by decide +kernel)) ggL_law_X8_plan
set_option maxRecDepth 20000 in
theorem ggL_law_X7_planned : GoodIn wsL_law wsX7_planned := goodIn_r _ [498, 17, 332, 25, 154, 155, 156, 2, 157, 33, 452, 453, 454, 455, 456, 13, 153, 34, 21, 457, 458, 459, 24, 460, 93, 461, 379, 371, 380, 95, 462, 463, 464, 465, 466, 370, 372, 94, 467, 468, 469, 470, 92, 471, 472, 473, 20, 474, 86, 475, 87, 476, 88, 477, 240, 72, 241, 242, 243, 244, 499, 500, 501, 502, 557, 558, 559, 560, 561, 562, 563, 564, 565, 566, 587, 588, 589, 590, 591, 592, 593, 597, 598, 599, 600, 601, 603, 604, 605, 594, 595, 596] (by decide +kernel) (by decide +kernel)
set_option maxRecDepth 20000 in
theorem gL_law_X7_planned : GoodIn wsL_law (wsV RL 90 RX7 yX7_planned wsX7_planned) := goodIn_app (goodIn_of _ (by decide +kernel)) ggL_law_X7_planned
set_option maxRecDepth 20000 in
theorem ggL_law_X8_planned : GoodIn wsL_law wsX8_planned := goodIn_r _ [506, 337, 482, 111, 126, 165, 166, 167, 5, 168, 142, 146, 147, 148, 338, 339, 340, 341, 315, 115, 116, 117, 118, 124, 253, 254, 255, 256, 123, 342, 343, 344, 345, 261, 262, 263, 264, 265, 266, 267, 268, 269, 270, 483, 484, 485, 486, 487, 488, 489, 490, 112, 491, 492, 493, 494, 119, 120, 121, 567, 568, 569, 570, 571, 572, 573, 574, 575, 576, 577, 578, 579, 580, 581, 582, 583, 584, 585, 586] (by decide +kernel) (by decide +kernel)
set_option maxRecDepth 20000 in
theorem gL_law_X8_planned : GoodIn wsL_law (wsV RL 93 RX8 yX8_planned wsX8_planned) := goodIn_app (goodIn_of _ (by decide +kernel)) ggL_law_X8_planned
set_option maxRecDepth 20000 in
theorem ggL_law_X7_carve : GoodIn wsL_law wsX7_carve := goodIn_r _ [510, 17, 332, 25, 451, 13, 188, 511, 154, 155, 156, 2, 157, 33, 452, 453, 454, 455, 456, 153, 34, 21, 457, 458, 459, 24, 460, 93, 461, 379, 371, 380, 95, 462, 463, 464, 465, 466, 370, 372, 94, 467, 468, 469, 470, 92, 471, 472, 473, 20, 474, 86, 475, 87, 476, 88, 477, 240, 72, 241, 242, 243, 244, 512, 513, 514, 37, 515, 516, 190, 191, 192, 106, 104, 105, 159, 160, 176, 177, 178, 179, 96, 557, 558, 559, 560, 561, 562, 563, 564, 565, 566, 587, 588, 589, 590, 591, 592, 593, 597, 598, 599, 600, 601, 603, 604, 605, 594, 595, 596] (by decide +kernel) (by decide +kernel)
set_option maxRecDepth 20000 in
theorem gL_law_X7_carve : GoodIn wsL_law (wsV RL 94 RX7 yX7_carve wsX7_carve) := goodIn_app (goodIn_of _ (by decide +kernel)) ggL_law_X7_carve
set_option maxRecDepth 20000 in
theorem ggL_law_X8_carve : GoodIn wsL_law wsX8_carve := goodIn_r _ [520, 337, 482, 113, 111, 126, 165, 166, 167, 5, 168, 142, 146, 147, 148, 338, 339, 340, 341, 315, 115, 116, 117, 118, 124, 253, 254, 255, 256, 123, 342, 343, 344, 345, 261, 262, 263, 264, 265, 266, 267, 268, 269, 270, 483, 484, 485, 486, 487, 488, 489, 490, 112, 491, 492, 493, 494, 119, 120, 121, 197, 198, 199, 200, 114, 567, 568, 569, 570, 571, 572, 573, 574, 575, 576, 577, 578, 579, 580, 581, 582, 583, 584, 585, 586] (by decide +kernel) (by decide +kernel)
set_option maxRecDepth 20000 in
theorem gL_law_X8_carve : GoodIn wsL_law (wsV RL 97 RX8 yX8_carve wsX8_carve) := goodIn_app (goodIn_of _ (by decide +kernel)) ggL_law_X8_carve
set_option maxRecDepth 20000 in
theorem ggL_law_X7_off : GoodIn wsL_law wsX7_off := goodIn_r _ [524, 35, 557, 558, 559, 560, 561, 562, 563, 564, 565, 566] (by decide +kernel) (by decide +kernel)
set_option maxRecDepth 20000 in
theorem gL_law_X7_off : GoodIn wsL_law (wsV RL 98 RX7 yX7_off wsX7_off) := goodIn_app (goodIn_of _ (by decide +kernel)) ggL_law_X7_off
set_option maxRecDepth 20000 in
theorem ggL_law_X8_off : GoodIn wsL_law wsX8_off := goodIn_r _ [528, 122, 146, 147, 5, 148, 567, 568, 569, 570, 571, 572, 573, 574, 575, 576, 577, 578, 579, 580, 581, 582, 583, 584, 585, 586] (by decide +kernel) (by decide +kernel)
set_option maxRecDepth 20000 in
theorem gL_law_X8_off : GoodIn wsL_law (wsV RL 101 RX8 yX8_off wsX8_off) := goodIn_app (goodIn_of _ (by decide +kernel)) ggL_law_X8_off
set_option maxRecDepth 20000 in
theorem ggL_law_X7_even : GoodIn wsL_law wsX7_even := goodIn_r _ [532, 17, 332, 31, 13, 153, 32, 35, 154, 155, 156, 2, 157, 33, 363, 308, 72, 309, 310, 237, 238, 239, 240, 241, 242, 243, 244, 533, 534, 535, 16, 536, 47, 537, 538, 371, 539, 378, 379, 380, 540, 404, 405, 406, 45, 46, 373, 71, 73, 557, 558, 559, 560, 561, 562, 563, 564, 565, 566, 587, 588, 589, 590, 591, 592, 593, 603, 604, 605] (by decide +kernel) (by decide +kernel)
set_option maxRecDepth 20000 in
theorem gL_law_X7_even : GoodIn wsL_law (wsV RL 102 RX7 yX7_even wsX7_even) := goodIn_app (goodIn_of _ (by decide +kernel)) ggL_law_X7_even
set_option maxRecDepth 20000 in
theorem ggL_law_X8_even : GoodIn wsL_law wsX8_even := goodIn_r _ [544, 337, 111, 122, 165, 166, 167, 5, 168, 142, 146, 147, 148, 338, 339, 340, 341, 315, 115, 116, 117, 118, 124, 253, 254, 255, 256, 123, 342, 343, 344, 345, 261, 262, 263, 264, 265, 266, 267, 268, 269, 270, 385, 386, 387, 388, 257, 258, 259, 260, 567, 568, 569, 570, 571, 572, 573, 574, 575, 576, 577, 578, 579, 580, 581, 582, 583, 584, 585, 586] (by decide +kernel) (by decide +kernel)
set_option maxRecDepth 20000 in
theorem gL_law_X8_even : GoodIn wsL_law (wsV RL 105 RX8 yX8_even wsX8_even) := goodIn_app (goodIn_of _ (by decide +kernel)) ggL_law_X8_even
set_option maxRecDepth 20000 in
theorem ggL_law_X7_count : GoodIn wsL_law wsX7_count := goodIn_r _ [548, 33, 17, 296, 21, 431, 432, 433, 20, 434, 86, 549, 550, 551, 2, 552, 13, 188, 557, 558, 559, 560, 561, 562, 563, 564, 565, 566, 587, 588, 589, 590, 591, 592, 593, 594, 595, 596, 603, 604, 605] (by decide +kernel) (by decide +kernel)
set_option maxRecDepth 20000 in
theorem gL_law_X7_count : GoodIn wsL_law (wsV RL 106 RX7 yX7_count wsX7_count) := goodIn_app (goodIn_of _ (by decide +kernel)) ggL_law_X7_count
set_option maxRecDepth 20000 in
theorem ggL_law_X8_count : GoodIn wsL_law wsX8_count := goodIn_r _ [556, 142, 315, 113, 443, 444, 445, 5, 446, 119, 567, 568, 569, 570, 571, 572, 573, 574, 575, 576, 577, 578, 579, 580, 581, 582, 583, 584, 585, 586] (by decide +kernel) (by decide +kernel)
set_option maxRecDepth 20000 in
theorem gL_law_X8_count : GoodIn wsL_law (wsV RL 109 RX8 yX8_count wsX8_count) := goodIn_app (goodIn_of _ (by decide +kernel)) ggL_law_X8_count
theorem dL_law_0 : decode cL_law 0 = .ok (.new 7, 3) := by decide +kernel
theorem dL_law_3 : decode cL_law 3 = .ok (.dup, 1) := by decide +kernel
theorem dL_law_4 : decode cL_law 4 = .ok (.invokespecial 9, 3) := by decide +kernel
theorem dL_law_7 : decode cL_law 7 = .ok (.astore_n 1, 1) := by decide +kernel
theorem dL_law_8 : decode cL_law 8 = .ok (.new 10, 3) := by decide +kernel
theorem dL_law_11 : decode cL_law 11 = .ok (.dup, 1) := by decide +kernel
theorem dL_law_12 : decode cL_law 12 = .ok (.invokespecial 12, 3) := by decide +kernel
theorem dL_law_15 : decode cL_law 15 = .ok (.astore_n 2, 1) := by decide +kernel
theorem dL_law_16 : decode cL_law 16 = .ok (.iconst 0, 1) := by decide +kernel
theorem dL_law_17 : decode cL_law 17 = .ok (.istore_n 3, 1) := by decide +kernel
theorem dL_law_18 : decode cL_law 18 = .ok (.iload_n 3, 1) := by decide +kernel
theorem dL_law_19 : decode cL_law 19 = .ok (.aload_n 0, 1) := by decide +kernel
theorem dL_law_20 : decode cL_law 20 = .ok (.arraylength, 1) := by decide +kernel
theorem dL_law_21 : decode cL_law 21 = .ok (.iconst 5, 1) := by decide +kernel
theorem dL_law_22 : decode cL_law 22 = .ok (.isub, 1) := by decide +kernel
theorem dL_law_23 : decode cL_law 23 = .ok (.if_icmp .gt 872, 3) := by decide +kernel
theorem dL_law_26 : decode cL_law 26 = .ok (.aload_n 0, 1) := by decide +kernel
theorem dL_law_27 : decode cL_law 27 = .ok (.iload_n 3, 1) := by decide +kernel
theorem dL_law_28 : decode cL_law 28 = .ok (.iaload, 1) := by decide +kernel
theorem dL_law_29 : decode cL_law 29 = .ok (.bipush 31, 2) := by decide +kernel
theorem dL_law_31 : decode cL_law 31 = .ok (.iand, 1) := by decide +kernel
theorem dL_law_32 : decode cL_law 32 = .ok (.tableswitch 857 0 22 #[108, 161, 194, 217, 250, 273, 296, 349, 402, 445, 498, 521, 534, 567, 610, 643, 686, 699, 722, 755, 778, 801, 834], 108) := by decide +kernel
end
section
theorem dL_law_140 : decode cL_law 140 = .ok (.aload_n 1, 1) := by decide +kernel
theorem dL_law_141 : decode cL_law 141 = .ok (.aload_n 0, 1) := by decide +kernel
theorem dL_law_142 : decode cL_law 142 = .ok (.iload_n 3, 1) := by decide +kernel
theorem dL_law_143 : decode cL_law 143 = .ok (.iconst 1, 1) := by decide +kernel
theorem dL_law_144 : decode cL_law 144 = .ok (.iadd, 1) := by decide +kernel
theorem dL_law_145 : decode cL_law 145 = .ok (.iaload, 1) := by decide +kernel
theorem dL_law_146 : decode cL_law 146 = .ok (.aload_n 0, 1) := by decide +kernel
theorem dL_law_147 : decode cL_law 147 = .ok (.iload_n 3, 1) := by decide +kernel
theorem dL_law_148 : decode cL_law 148 = .ok (.iconst 2, 1) := by decide +kernel
theorem dL_law_149 : decode cL_law 149 = .ok (.iadd, 1) := by decide +kernel
theorem dL_law_150 : decode cL_law 150 = .ok (.iaload, 1) := by decide +kernel
theorem dL_law_151 : decode cL_law 151 = .ok (.aload_n 0, 1) := by decide +kernel
theorem dL_law_152 : decode cL_law 152 = .ok (.iload_n 3, 1) := by decide +kernel
theorem dL_law_153 : decode cL_law 153 = .ok (.iconst 3, 1) := by decide +kernel
theorem dL_law_154 : decode cL_law 154 = .ok (.iadd, 1) := by decide +kernel
theorem dL_law_155 : decode cL_law 155 = .ok (.iaload, 1) := by decide +kernel
theorem dL_law_156 : decode cL_law 156 = .ok (.aload_n 0, 1) := by decide +kernel
theorem dL_law_157 : decode cL_law 157 = .ok (.iload_n 3, 1) := by decide +kernel
theorem dL_law_158 : decode cL_law 158 = .ok (.iconst 4, 1) := by decide +kernel
theorem dL_law_159 : decode cL_law 159 = .ok (.iadd, 1) := by decide +kernel
theorem dL_law_160 : decode cL_law 160 = .ok (.iaload, 1) := by decide +kernel
theorem dL_law_161 : decode cL_law 161 = .ok (.invokevirtual 13, 3) := by decide +kernel
theorem dL_law_164 : decode cL_law 164 = .ok (.aload_n 2, 1) := by decide +kernel
theorem dL_law_165 : decode cL_law 165 = .ok (.aload_n 0, 1) := by decide +kernel
theorem dL_law_166 : decode cL_law 166 = .ok (.iload_n 3, 1) := by decide +kernel
theorem dL_law_167 : decode cL_law 167 = .ok (.iconst 1, 1) := by decide +kernel
theorem dL_law_168 : decode cL_law 168 = .ok (.iadd, 1) := by decide +kernel
theorem dL_law_169 : decode cL_law 169 = .ok (.iaload, 1) := by decide +kernel
theorem dL_law_170 : decode cL_law 170 = .ok (.aload_n 0, 1) := by decide +kernel
theorem dL_law_171 : decode cL_law 171 = .ok (.iload_n 3, 1) := by decide +kernel
theorem dL_law_172 : decode cL_law 172 = .ok (.iconst 2, 1) := by decide +kernel
theorem dL_law_173 : decode cL_law 173 = .ok (.iadd, 1) := by decide +kernel
theorem dL_law_174 : decode cL_law 174 = .ok (.iaload, 1) := by decide +kernel
theorem dL_law_175 : decode cL_law 175 = .ok (.aload_n 0, 1) := by decide +kernel
theorem dL_law_176 : decode cL_law 176 = .ok (.iload_n 3, 1) := by decide +kernel
theorem dL_law_177 : decode cL_law 177 = .ok (.iconst 3, 1) := by decide +kernel
theorem dL_law_178 : decode cL_law 178 = .ok (.iadd, 1) := by decide +kernel
theorem dL_law_179 : decode cL_law 179 = .ok (.iaload, 1) := by decide +kernel
theorem dL_law_180 : decode cL_law 180 = .ok (.aload_n 0, 1) := by decide +kernel
theorem dL_law_181 : decode cL_law 181 = .ok (.iload_n 3, 1) := by decide +kernel
theorem dL_law_182 : decode cL_law 182 = .ok (.iconst 4, 1) := by decide +kernel
theorem dL_law_183 : decode cL_law 183 = .ok (.iadd, 1) := by decide +kernel
theorem dL_law_184 : decode cL_law 184 = .ok (.iaload, 1) := by decide +kernel
theorem dL_law_185 : decode cL_law 185 = .ok (.invokevirtual 17, 3) := by decide +kernel
theorem dL_law_188 : decode cL_law 188 = .ok (.if_icmp .eq 701, 3) := by decide +kernel
theorem dL_law_191 : decode cL_law 191 = .ok (.iconst 0, 1) := by decide +kernel
theorem dL_law_192 : decode cL_law 192 = .ok (.ireturn, 1) := by decide +kernel
theorem dL_law_193 : decode cL_law 193 = .ok (.aload_n 1, 1) := by decide +kernel
theorem dL_law_194 : decode cL_law 194 = .ok (.aload_n 0, 1) := by decide +kernel
theorem dL_law_195 : decode cL_law 195 = .ok (.iload_n 3, 1) := by decide +kernel
theorem dL_law_196 : decode cL_law 196 = .ok (.iconst 1, 1) := by decide +kernel
theorem dL_law_197 : decode cL_law 197 = .ok (.iadd, 1) := by decide +kernel
theorem dL_law_198 : decode cL_law 198 = .ok (.iaload, 1) := by decide +kernel
theorem dL_law_199 : decode cL_law 199 = .ok (.aload_n 0, 1) := by decide +kernel
theorem dL_law_200 : decode cL_law 200 = .ok (.iload_n 3, 1) := by decide +kernel
theorem dL_law_201 : decode cL_law 201 = .ok (.iconst 2, 1) := by decide +kernel
theorem dL_law_202 : decode cL_law 202 = .ok (.iadd, 1) := by decide +kernel
theorem dL_law_203 : decode cL_law 203 = .ok (.iaload, 1) := by decide +kernel
theorem dL_law_204 : decode cL_law 204 = .ok (.invokevirtual 18, 3) := by decide +kernel
theorem dL_law_207 : decode cL_law 207 = .ok (.aload_n 2, 1) := by decide +kernel
theorem dL_law_208 : decode cL_law 208 = .ok (.aload_n 0, 1) := by decide +kernel
theorem dL_law_209 : decode cL_law 209 = .ok (.iload_n 3, 1) := by decide +kernel
theorem dL_law_210 : decode cL_law 210 = .ok (.iconst 1, 1) := by decide +kernel
theorem dL_law_211 : decode cL_law 211 = .ok (.iadd, 1) := by decide +kernel
theorem dL_law_212 : decode cL_law 212 = .ok (.iaload, 1) := by decide +kernel
theorem dL_law_213 : decode cL_law 213 = .ok (.aload_n 0, 1) := by decide +kernel
theorem dL_law_214 : decode cL_law 214 = .ok (.iload_n 3, 1) := by decide +kernel
theorem dL_law_215 : decode cL_law 215 = .ok (.iconst 2, 1) := by decide +kernel
theorem dL_law_216 : decode cL_law 216 = .ok (.iadd, 1) := by decide +kernel
theorem dL_law_217 : decode cL_law 217 = .ok (.iaload, 1) := by decide +kernel
theorem dL_law_218 : decode cL_law 218 = .ok (.invokevirtual 22, 3) := by decide +kernel
theorem dL_law_221 : decode cL_law 221 = .ok (.if_icmp .eq 668, 3) := by decide +kernel
theorem dL_law_224 : decode cL_law 224 = .ok (.iconst 0, 1) := by decide +kernel
theorem dL_law_225 : decode cL_law 225 = .ok (.ireturn, 1) := by decide +kernel
theorem dL_law_226 : decode cL_law 226 = .ok (.aload_n 1, 1) := by decide +kernel
theorem dL_law_227 : decode cL_law 227 = .ok (.aload_n 0, 1) := by decide +kernel
theorem dL_law_228 : decode cL_law 228 = .ok (.iload_n 3, 1) := by decide +kernel
theorem dL_law_229 : decode cL_law 229 = .ok (.iconst 1, 1) := by decide +kernel
theorem dL_law_230 : decode cL_law 230 = .ok (.iadd, 1) := by decide +kernel
theorem dL_law_231 : decode cL_law 231 = .ok (.iaload, 1) := by decide +kernel
theorem dL_law_232 : decode cL_law 232 = .ok (.invokevirtual 23, 3) := by decide +kernel
theorem dL_law_235 : decode cL_law 235 = .ok (.aload_n 2, 1) := by decide +kernel
theorem dL_law_236 : decode cL_law 236 = .ok (.aload_n 0, 1) := by decide +kernel
theorem dL_law_237 : decode cL_law 237 = .ok (.iload_n 3, 1) := by decide +kernel
theorem dL_law_238 : decode cL_law 238 = .ok (.iconst 1, 1) := by decide +kernel
theorem dL_law_239 : decode cL_law 239 = .ok (.iadd, 1) := by decide +kernel
theorem dL_law_240 : decode cL_law 240 = .ok (.iaload, 1) := by decide +kernel
theorem dL_law_241 : decode cL_law 241 = .ok (.invokevirtual 27, 3) := by decide +kernel
theorem dL_law_244 : decode cL_law 244 = .ok (.if_icmp .eq 645, 3) := by decide +kernel
theorem dL_law_247 : decode cL_law 247 = .ok (.iconst 0, 1) := by decide +kernel
theorem dL_law_248 : decode cL_law 248 = .ok (.ireturn, 1) := by decide +kernel
theorem dL_law_249 : decode cL_law 249 = .ok (.aload_n 1, 1) := by decide +kernel
theorem dL_law_250 : decode cL_law 250 = .ok (.aload_n 0, 1) := by decide +kernel
theorem dL_law_251 : decode cL_law 251 = .ok (.iload_n 3, 1) := by decide +kernel
theorem dL_law_252 : decode cL_law 252 = .ok (.iconst 1, 1) := by decide +kernel
theorem dL_law_253 : decode cL_law 253 = .ok (.iadd, 1) := by decide +kernel
theorem dL_law_254 : decode cL_law 254 = .ok (.iaload, 1) := by decide +kernel
theorem dL_law_255 : decode cL_law 255 = .ok (.aload_n 0, 1) := by decide +kernel
theorem dL_law_256 : decode cL_law 256 = .ok (.iload_n 3, 1) := by decide +kernel
theorem dL_law_257 : decode cL_law 257 = .ok (.iconst 2, 1) := by decide +kernel
theorem dL_law_258 : decode cL_law 258 = .ok (.iadd, 1) := by decide +kernel
theorem dL_law_259 : decode cL_law 259 = .ok (.iaload, 1) := by decide +kernel
theorem dL_law_260 : decode cL_law 260 = .ok (.invokevirtual 28, 3) := by decide +kernel
theorem dL_law_263 : decode cL_law 263 = .ok (.aload_n 2, 1) := by decide +kernel
theorem dL_law_264 : decode cL_law 264 = .ok (.aload_n 0, 1) := by decide +kernel
theorem dL_law_265 : decode cL_law 265 = .ok (.iload_n 3, 1) := by decide +kernel
theorem dL_law_266 : decode cL_law 266 = .ok (.iconst 1, 1) := by decide +kernel
theorem dL_law_267 : decode cL_law 267 = .ok (.iadd, 1) := by decide +kernel
theorem dL_law_268 : decode cL_law 268 = .ok (.iaload, 1) := by decide +kernel
theorem dL_law_269 : decode cL_law 269 = .ok (.aload_n 0, 1) := by decide +kernel
theorem dL_law_270 : decode cL_law 270 = .ok (.iload_n 3, 1) := by decide +kernel
theorem dL_law_271 : decode cL_law 271 = .ok (.iconst 2, 1) := by decide +kernel
theorem dL_law_272 : decode cL_law 272 = .ok (.iadd, 1) := by decide +kernel
theorem dL_law_273 : decode cL_law 273 = .ok (.iaload, 1) := by decide +kernel
theorem dL_law_274 : decode cL_law 274 = .ok (.invokevirtual 31, 3) := by decide +kernel
theorem dL_law_277 : decode cL_law 277 = .ok (.if_icmp .eq 612, 3) := by decide +kernel
theorem dL_law_280 : decode cL_law 280 = .ok (.iconst 0, 1) := by decide +kernel
theorem dL_law_281 : decode cL_law 281 = .ok (.ireturn, 1) := by decide +kernel
theorem dL_law_282 : decode cL_law 282 = .ok (.aload_n 1, 1) := by decide +kernel
theorem dL_law_283 : decode cL_law 283 = .ok (.aload_n 0, 1) := by decide +kernel
theorem dL_law_284 : decode cL_law 284 = .ok (.iload_n 3, 1) := by decide +kernel
theorem dL_law_285 : decode cL_law 285 = .ok (.iconst 1, 1) := by decide +kernel
theorem dL_law_286 : decode cL_law 286 = .ok (.iadd, 1) := by decide +kernel
theorem dL_law_287 : decode cL_law 287 = .ok (.iaload, 1) := by decide +kernel
theorem dL_law_288 : decode cL_law 288 = .ok (.invokevirtual 32, 3) := by decide +kernel
theorem dL_law_291 : decode cL_law 291 = .ok (.aload_n 2, 1) := by decide +kernel
theorem dL_law_292 : decode cL_law 292 = .ok (.aload_n 0, 1) := by decide +kernel
theorem dL_law_293 : decode cL_law 293 = .ok (.iload_n 3, 1) := by decide +kernel
theorem dL_law_294 : decode cL_law 294 = .ok (.iconst 1, 1) := by decide +kernel
theorem dL_law_295 : decode cL_law 295 = .ok (.iadd, 1) := by decide +kernel
theorem dL_law_296 : decode cL_law 296 = .ok (.iaload, 1) := by decide +kernel
theorem dL_law_297 : decode cL_law 297 = .ok (.invokevirtual 35, 3) := by decide +kernel
theorem dL_law_300 : decode cL_law 300 = .ok (.if_icmp .eq 589, 3) := by decide +kernel
theorem dL_law_303 : decode cL_law 303 = .ok (.iconst 0, 1) := by decide +kernel
theorem dL_law_304 : decode cL_law 304 = .ok (.ireturn, 1) := by decide +kernel
theorem dL_law_305 : decode cL_law 305 = .ok (.aload_n 1, 1) := by decide +kernel
theorem dL_law_306 : decode cL_law 306 = .ok (.aload_n 0, 1) := by decide +kernel
theorem dL_law_307 : decode cL_law 307 = .ok (.iload_n 3, 1) := by decide +kernel
theorem dL_law_308 : decode cL_law 308 = .ok (.iconst 1, 1) := by decide +kernel
theorem dL_law_309 : decode cL_law 309 = .ok (.iadd, 1) := by decide +kernel
theorem dL_law_310 : decode cL_law 310 = .ok (.iaload, 1) := by decide +kernel
theorem dL_law_311 : decode cL_law 311 = .ok (.invokevirtual 36, 3) := by decide +kernel
theorem dL_law_314 : decode cL_law 314 = .ok (.aload_n 2, 1) := by decide +kernel
theorem dL_law_315 : decode cL_law 315 = .ok (.aload_n 0, 1) := by decide +kernel
theorem dL_law_316 : decode cL_law 316 = .ok (.iload_n 3, 1) := by decide +kernel
theorem dL_law_317 : decode cL_law 317 = .ok (.iconst 1, 1) := by decide +kernel
theorem dL_law_318 : decode cL_law 318 = .ok (.iadd, 1) := by decide +kernel
theorem dL_law_319 : decode cL_law 319 = .ok (.iaload, 1) := by decide +kernel
theorem dL_law_320 : decode cL_law 320 = .ok (.invokevirtual 39, 3) := by decide +kernel
theorem dL_law_323 : decode cL_law 323 = .ok (.if_icmp .eq 566, 3) := by decide +kernel
theorem dL_law_326 : decode cL_law 326 = .ok (.iconst 0, 1) := by decide +kernel
theorem dL_law_327 : decode cL_law 327 = .ok (.ireturn, 1) := by decide +kernel
theorem dL_law_328 : decode cL_law 328 = .ok (.aload_n 1, 1) := by decide +kernel
theorem dL_law_329 : decode cL_law 329 = .ok (.aload_n 0, 1) := by decide +kernel
theorem dL_law_330 : decode cL_law 330 = .ok (.iload_n 3, 1) := by decide +kernel
theorem dL_law_331 : decode cL_law 331 = .ok (.iconst 1, 1) := by decide +kernel
theorem dL_law_332 : decode cL_law 332 = .ok (.iadd, 1) := by decide +kernel
theorem dL_law_333 : decode cL_law 333 = .ok (.iaload, 1) := by decide +kernel
theorem dL_law_334 : decode cL_law 334 = .ok (.aload_n 0, 1) := by decide +kernel
theorem dL_law_335 : decode cL_law 335 = .ok (.iload_n 3, 1) := by decide +kernel
theorem dL_law_336 : decode cL_law 336 = .ok (.iconst 2, 1) := by decide +kernel
theorem dL_law_337 : decode cL_law 337 = .ok (.iadd, 1) := by decide +kernel
theorem dL_law_338 : decode cL_law 338 = .ok (.iaload, 1) := by decide +kernel
theorem dL_law_339 : decode cL_law 339 = .ok (.aload_n 0, 1) := by decide +kernel
theorem dL_law_340 : decode cL_law 340 = .ok (.iload_n 3, 1) := by decide +kernel
theorem dL_law_341 : decode cL_law 341 = .ok (.iconst 3, 1) := by decide +kernel
theorem dL_law_342 : decode cL_law 342 = .ok (.iadd, 1) := by decide +kernel
theorem dL_law_343 : decode cL_law 343 = .ok (.iaload, 1) := by decide +kernel
theorem dL_law_344 : decode cL_law 344 = .ok (.aload_n 0, 1) := by decide +kernel
theorem dL_law_345 : decode cL_law 345 = .ok (.iload_n 3, 1) := by decide +kernel
theorem dL_law_346 : decode cL_law 346 = .ok (.iconst 4, 1) := by decide +kernel
theorem dL_law_347 : decode cL_law 347 = .ok (.iadd, 1) := by decide +kernel
theorem dL_law_348 : decode cL_law 348 = .ok (.iaload, 1) := by decide +kernel
theorem dL_law_349 : decode cL_law 349 = .ok (.invokevirtual 40, 3) := by decide +kernel
theorem dL_law_352 : decode cL_law 352 = .ok (.aload_n 2, 1) := by decide +kernel
theorem dL_law_353 : decode cL_law 353 = .ok (.aload_n 0, 1) := by decide +kernel
theorem dL_law_354 : decode cL_law 354 = .ok (.iload_n 3, 1) := by decide +kernel
theorem dL_law_355 : decode cL_law 355 = .ok (.iconst 1, 1) := by decide +kernel
theorem dL_law_356 : decode cL_law 356 = .ok (.iadd, 1) := by decide +kernel
theorem dL_law_357 : decode cL_law 357 = .ok (.iaload, 1) := by decide +kernel
theorem dL_law_358 : decode cL_law 358 = .ok (.aload_n 0, 1) := by decide +kernel
theorem dL_law_359 : decode cL_law 359 = .ok (.iload_n 3, 1) := by decide +kernel
theorem dL_law_360 : decode cL_law 360 = .ok (.iconst 2, 1) := by decide +kernel
theorem dL_law_361 : decode cL_law 361 = .ok (.iadd, 1) := by decide +kernel
theorem dL_law_362 : decode cL_law 362 = .ok (.iaload, 1) := by decide +kernel
theorem dL_law_363 : decode cL_law 363 = .ok (.aload_n 0, 1) := by decide +kernel
theorem dL_law_364 : decode cL_law 364 = .ok (.iload_n 3, 1) := by decide +kernel
theorem dL_law_365 : decode cL_law 365 = .ok (.iconst 3, 1) := by decide +kernel
theorem dL_law_366 : decode cL_law 366 = .ok (.iadd, 1) := by decide +kernel
theorem dL_law_367 : decode cL_law 367 = .ok (.iaload, 1) := by decide +kernel
theorem dL_law_368 : decode cL_law 368 = .ok (.aload_n 0, 1) := by decide +kernel
theorem dL_law_369 : decode cL_law 369 = .ok (.iload_n 3, 1) := by decide +kernel
theorem dL_law_370 : decode cL_law 370 = .ok (.iconst 4, 1) := by decide +kernel
theorem dL_law_371 : decode cL_law 371 = .ok (.iadd, 1) := by decide +kernel
theorem dL_law_372 : decode cL_law 372 = .ok (.iaload, 1) := by decide +kernel
theorem dL_law_373 : decode cL_law 373 = .ok (.invokevirtual 43, 3) := by decide +kernel
theorem dL_law_376 : decode cL_law 376 = .ok (.if_icmp .eq 513, 3) := by decide +kernel
theorem dL_law_379 : decode cL_law 379 = .ok (.iconst 0, 1) := by decide +kernel
theorem dL_law_380 : decode cL_law 380 = .ok (.ireturn, 1) := by decide +kernel
theorem dL_law_381 : decode cL_law 381 = .ok (.aload_n 1, 1) := by decide +kernel
theorem dL_law_382 : decode cL_law 382 = .ok (.aload_n 0, 1) := by decide +kernel
theorem dL_law_383 : decode cL_law 383 = .ok (.iload_n 3, 1) := by decide +kernel
theorem dL_law_384 : decode cL_law 384 = .ok (.iconst 1, 1) := by decide +kernel
theorem dL_law_385 : decode cL_law 385 = .ok (.iadd, 1) := by decide +kernel
theorem dL_law_386 : decode cL_law 386 = .ok (.iaload, 1) := by decide +kernel
theorem dL_law_387 : decode cL_law 387 = .ok (.aload_n 0, 1) := by decide +kernel
theorem dL_law_388 : decode cL_law 388 = .ok (.iload_n 3, 1) := by decide +kernel
theorem dL_law_389 : decode cL_law 389 = .ok (.iconst 2, 1) := by decide +kernel
theorem dL_law_390 : decode cL_law 390 = .ok (.iadd, 1) := by decide +kernel
theorem dL_law_391 : decode cL_law 391 = .ok (.iaload, 1) := by decide +kernel
theorem dL_law_392 : decode cL_law 392 = .ok (.aload_n 0, 1) := by decide +kernel
theorem dL_law_393 : decode cL_law 393 = .ok (.iload_n 3, 1) := by decide +kernel
theorem dL_law_394 : decode cL_law 394 = .ok (.iconst 3, 1) := by decide +kernel
theorem dL_law_395 : decode cL_law 395 = .ok (.iadd, 1) := by decide +kernel
theorem dL_law_396 : decode cL_law 396 = .ok (.iaload, 1) := by decide +kernel
theorem dL_law_397 : decode cL_law 397 = .ok (.aload_n 0, 1) := by decide +kernel
theorem dL_law_398 : decode cL_law 398 = .ok (.iload_n 3, 1) := by decide +kernel
theorem dL_law_399 : decode cL_law 399 = .ok (.iconst 4, 1) := by decide +kernel
theorem dL_law_400 : decode cL_law 400 = .ok (.iadd, 1) := by decide +kernel
theorem dL_law_401 : decode cL_law 401 = .ok (.iaload, 1) := by decide +kernel
theorem dL_law_402 : decode cL_law 402 = .ok (.invokevirtual 44, 3) := by decide +kernel
theorem dL_law_405 : decode cL_law 405 = .ok (.aload_n 2, 1) := by decide +kernel
theorem dL_law_406 : decode cL_law 406 = .ok (.aload_n 0, 1) := by decide +kernel
theorem dL_law_407 : decode cL_law 407 = .ok (.iload_n 3, 1) := by decide +kernel
theorem dL_law_408 : decode cL_law 408 = .ok (.iconst 1, 1) := by decide +kernel
theorem dL_law_409 : decode cL_law 409 = .ok (.iadd, 1) := by decide +kernel
theorem dL_law_410 : decode cL_law 410 = .ok (.iaload, 1) := by decide +kernel
theorem dL_law_411 : decode cL_law 411 = .ok (.aload_n 0, 1) := by decide +kernel
theorem dL_law_412 : decode cL_law 412 = .ok (.iload_n 3, 1) := by decide +kernel
theorem dL_law_413 : decode cL_law 413 = .ok (.iconst 2, 1) := by decide +kernel
theorem dL_law_414 : decode cL_law 414 = .ok (.iadd, 1) := by decide +kernel
theorem dL_law_415 : decode cL_law 415 = .ok (.iaload, 1) := by decide +kernel
theorem dL_law_416 : decode cL_law 416 = .ok (.aload_n 0, 1) := by decide +kernel
theorem dL_law_417 : decode cL_law 417 = .ok (.iload_n 3, 1) := by decide +kernel
theorem dL_law_418 : decode cL_law 418 = .ok (.iconst 3, 1) := by decide +kernel
theorem dL_law_419 : decode cL_law 419 = .ok (.iadd, 1) := by decide +kernel
theorem dL_law_420 : decode cL_law 420 = .ok (.iaload, 1) := by decide +kernel
theorem dL_law_421 : decode cL_law 421 = .ok (.aload_n 0, 1) := by decide +kernel
theorem dL_law_422 : decode cL_law 422 = .ok (.iload_n 3, 1) := by decide +kernel
theorem dL_law_423 : decode cL_law 423 = .ok (.iconst 4, 1) := by decide +kernel
theorem dL_law_424 : decode cL_law 424 = .ok (.iadd, 1) := by decide +kernel
theorem dL_law_425 : decode cL_law 425 = .ok (.iaload, 1) := by decide +kernel
theorem dL_law_426 : decode cL_law 426 = .ok (.invokevirtual 47, 3) := by decide +kernel
theorem dL_law_429 : decode cL_law 429 = .ok (.if_icmp .eq 460, 3) := by decide +kernel
theorem dL_law_432 : decode cL_law 432 = .ok (.iconst 0, 1) := by decide +kernel
theorem dL_law_433 : decode cL_law 433 = .ok (.ireturn, 1) := by decide +kernel
theorem dL_law_434 : decode cL_law 434 = .ok (.aload_n 1, 1) := by decide +kernel
theorem dL_law_435 : decode cL_law 435 = .ok (.aload_n 0, 1) := by decide +kernel
theorem dL_law_436 : decode cL_law 436 = .ok (.iload_n 3, 1) := by decide +kernel
theorem dL_law_437 : decode cL_law 437 = .ok (.iconst 1, 1) := by decide +kernel
theorem dL_law_438 : decode cL_law 438 = .ok (.iadd, 1) := by decide +kernel
theorem dL_law_439 : decode cL_law 439 = .ok (.iaload, 1) := by decide +kernel
theorem dL_law_440 : decode cL_law 440 = .ok (.aload_n 0, 1) := by decide +kernel
theorem dL_law_441 : decode cL_law 441 = .ok (.iload_n 3, 1) := by decide +kernel
theorem dL_law_442 : decode cL_law 442 = .ok (.iconst 2, 1) := by decide +kernel
theorem dL_law_443 : decode cL_law 443 = .ok (.iadd, 1) := by decide +kernel
theorem dL_law_444 : decode cL_law 444 = .ok (.iaload, 1) := by decide +kernel
theorem dL_law_445 : decode cL_law 445 = .ok (.aload_n 0, 1) := by decide +kernel
theorem dL_law_446 : decode cL_law 446 = .ok (.iload_n 3, 1) := by decide +kernel
theorem dL_law_447 : decode cL_law 447 = .ok (.iconst 3, 1) := by decide +kernel
theorem dL_law_448 : decode cL_law 448 = .ok (.iadd, 1) := by decide +kernel
theorem dL_law_449 : decode cL_law 449 = .ok (.iaload, 1) := by decide +kernel
theorem dL_law_450 : decode cL_law 450 = .ok (.invokevirtual 48, 3) := by decide +kernel
theorem dL_law_453 : decode cL_law 453 = .ok (.aload_n 2, 1) := by decide +kernel
theorem dL_law_454 : decode cL_law 454 = .ok (.aload_n 0, 1) := by decide +kernel
theorem dL_law_455 : decode cL_law 455 = .ok (.iload_n 3, 1) := by decide +kernel
theorem dL_law_456 : decode cL_law 456 = .ok (.iconst 1, 1) := by decide +kernel
theorem dL_law_457 : decode cL_law 457 = .ok (.iadd, 1) := by decide +kernel
theorem dL_law_458 : decode cL_law 458 = .ok (.iaload, 1) := by decide +kernel
theorem dL_law_459 : decode cL_law 459 = .ok (.aload_n 0, 1) := by decide +kernel
theorem dL_law_460 : decode cL_law 460 = .ok (.iload_n 3, 1) := by decide +kernel
theorem dL_law_461 : decode cL_law 461 = .ok (.iconst 2, 1) := by decide +kernel
theorem dL_law_462 : decode cL_law 462 = .ok (.iadd, 1) := by decide +kernel
theorem dL_law_463 : decode cL_law 463 = .ok (.iaload, 1) := by decide +kernel
theorem dL_law_464 : decode cL_law 464 = .ok (.aload_n 0, 1) := by decide +kernel
theorem dL_law_465 : decode cL_law 465 = .ok (.iload_n 3, 1) := by decide +kernel
theorem dL_law_466 : decode cL_law 466 = .ok (.iconst 3, 1) := by decide +kernel
theorem dL_law_467 : decode cL_law 467 = .ok (.iadd, 1) := by decide +kernel
theorem dL_law_468 : decode cL_law 468 = .ok (.iaload, 1) := by decide +kernel
theorem dL_law_469 : decode cL_law 469 = .ok (.invokevirtual 52, 3) := by decide +kernel
theorem dL_law_472 : decode cL_law 472 = .ok (.if_icmp .eq 417, 3) := by decide +kernel
theorem dL_law_475 : decode cL_law 475 = .ok (.iconst 0, 1) := by decide +kernel
theorem dL_law_476 : decode cL_law 476 = .ok (.ireturn, 1) := by decide +kernel
theorem dL_law_477 : decode cL_law 477 = .ok (.aload_n 1, 1) := by decide +kernel
theorem dL_law_478 : decode cL_law 478 = .ok (.aload_n 0, 1) := by decide +kernel
theorem dL_law_479 : decode cL_law 479 = .ok (.iload_n 3, 1) := by decide +kernel
theorem dL_law_480 : decode cL_law 480 = .ok (.iconst 1, 1) := by decide +kernel
theorem dL_law_481 : decode cL_law 481 = .ok (.iadd, 1) := by decide +kernel
theorem dL_law_482 : decode cL_law 482 = .ok (.iaload, 1) := by decide +kernel
theorem dL_law_483 : decode cL_law 483 = .ok (.aload_n 0, 1) := by decide +kernel
theorem dL_law_484 : decode cL_law 484 = .ok (.iload_n 3, 1) := by decide +kernel
theorem dL_law_485 : decode cL_law 485 = .ok (.iconst 2, 1) := by decide +kernel
theorem dL_law_486 : decode cL_law 486 = .ok (.iadd, 1) := by decide +kernel
theorem dL_law_487 : decode cL_law 487 = .ok (.iaload, 1) := by decide +kernel
theorem dL_law_488 : decode cL_law 488 = .ok (.aload_n 0, 1) := by decide +kernel
theorem dL_law_489 : decode cL_law 489 = .ok (.iload_n 3, 1) := by decide +kernel
theorem dL_law_490 : decode cL_law 490 = .ok (.iconst 3, 1) := by decide +kernel
theorem dL_law_491 : decode cL_law 491 = .ok (.iadd, 1) := by decide +kernel
theorem dL_law_492 : decode cL_law 492 = .ok (.iaload, 1) := by decide +kernel
theorem dL_law_493 : decode cL_law 493 = .ok (.aload_n 0, 1) := by decide +kernel
theorem dL_law_494 : decode cL_law 494 = .ok (.iload_n 3, 1) := by decide +kernel
theorem dL_law_495 : decode cL_law 495 = .ok (.iconst 4, 1) := by decide +kernel
theorem dL_law_496 : decode cL_law 496 = .ok (.iadd, 1) := by decide +kernel
theorem dL_law_497 : decode cL_law 497 = .ok (.iaload, 1) := by decide +kernel
theorem dL_law_498 : decode cL_law 498 = .ok (.invokevirtual 53, 3) := by decide +kernel
theorem dL_law_501 : decode cL_law 501 = .ok (.aload_n 2, 1) := by decide +kernel
theorem dL_law_502 : decode cL_law 502 = .ok (.aload_n 0, 1) := by decide +kernel
theorem dL_law_503 : decode cL_law 503 = .ok (.iload_n 3, 1) := by decide +kernel
theorem dL_law_504 : decode cL_law 504 = .ok (.iconst 1, 1) := by decide +kernel
theorem dL_law_505 : decode cL_law 505 = .ok (.iadd, 1) := by decide +kernel
theorem dL_law_506 : decode cL_law 506 = .ok (.iaload, 1) := by decide +kernel
theorem dL_law_507 : decode cL_law 507 = .ok (.aload_n 0, 1) := by decide +kernel
theorem dL_law_508 : decode cL_law 508 = .ok (.iload_n 3, 1) := by decide +kernel
theorem dL_law_509 : decode cL_law 509 = .ok (.iconst 2, 1) := by decide +kernel
theorem dL_law_510 : decode cL_law 510 = .ok (.iadd, 1) := by decide +kernel
theorem dL_law_511 : decode cL_law 511 = .ok (.iaload, 1) := by decide +kernel
theorem dL_law_512 : decode cL_law 512 = .ok (.aload_n 0, 1) := by decide +kernel
theorem dL_law_513 : decode cL_law 513 = .ok (.iload_n 3, 1) := by decide +kernel
theorem dL_law_514 : decode cL_law 514 = .ok (.iconst 3, 1) := by decide +kernel
theorem dL_law_515 : decode cL_law 515 = .ok (.iadd, 1) := by decide +kernel
theorem dL_law_516 : decode cL_law 516 = .ok (.iaload, 1) := by decide +kernel
theorem dL_law_517 : decode cL_law 517 = .ok (.aload_n 0, 1) := by decide +kernel
theorem dL_law_518 : decode cL_law 518 = .ok (.iload_n 3, 1) := by decide +kernel
theorem dL_law_519 : decode cL_law 519 = .ok (.iconst 4, 1) := by decide +kernel
theorem dL_law_520 : decode cL_law 520 = .ok (.iadd, 1) := by decide +kernel
theorem dL_law_521 : decode cL_law 521 = .ok (.iaload, 1) := by decide +kernel
theorem dL_law_522 : decode cL_law 522 = .ok (.invokevirtual 56, 3) := by decide +kernel
theorem dL_law_525 : decode cL_law 525 = .ok (.if_icmp .eq 364, 3) := by decide +kernel
theorem dL_law_528 : decode cL_law 528 = .ok (.iconst 0, 1) := by decide +kernel
theorem dL_law_529 : decode cL_law 529 = .ok (.ireturn, 1) := by decide +kernel
theorem dL_law_530 : decode cL_law 530 = .ok (.aload_n 1, 1) := by decide +kernel
theorem dL_law_531 : decode cL_law 531 = .ok (.aload_n 0, 1) := by decide +kernel
theorem dL_law_532 : decode cL_law 532 = .ok (.iload_n 3, 1) := by decide +kernel
theorem dL_law_533 : decode cL_law 533 = .ok (.iconst 1, 1) := by decide +kernel
theorem dL_law_534 : decode cL_law 534 = .ok (.iadd, 1) := by decide +kernel
theorem dL_law_535 : decode cL_law 535 = .ok (.iaload, 1) := by decide +kernel
theorem dL_law_536 : decode cL_law 536 = .ok (.invokevirtual 57, 3) := by decide +kernel
theorem dL_law_539 : decode cL_law 539 = .ok (.aload_n 2, 1) := by decide +kernel
theorem dL_law_540 : decode cL_law 540 = .ok (.aload_n 0, 1) := by decide +kernel
theorem dL_law_541 : decode cL_law 541 = .ok (.iload_n 3, 1) := by decide +kernel
theorem dL_law_542 : decode cL_law 542 = .ok (.iconst 1, 1) := by decide +kernel
theorem dL_law_543 : decode cL_law 543 = .ok (.iadd, 1) := by decide +kernel
theorem dL_law_544 : decode cL_law 544 = .ok (.iaload, 1) := by decide +kernel
theorem dL_law_545 : decode cL_law 545 = .ok (.invokevirtual 60, 3) := by decide +kernel
theorem dL_law_548 : decode cL_law 548 = .ok (.if_icmp .eq 341, 3) := by decide +kernel
theorem dL_law_551 : decode cL_law 551 = .ok (.iconst 0, 1) := by decide +kernel
theorem dL_law_552 : decode cL_law 552 = .ok (.ireturn, 1) := by decide +kernel
theorem dL_law_553 : decode cL_law 553 = .ok (.aload_n 1, 1) := by decide +kernel
theorem dL_law_554 : decode cL_law 554 = .ok (.invokevirtual 61, 3) := by decide +kernel
theorem dL_law_557 : decode cL_law 557 = .ok (.aload_n 2, 1) := by decide +kernel
theorem dL_law_558 : decode cL_law 558 = .ok (.invokevirtual 65, 3) := by decide +kernel
theorem dL_law_561 : decode cL_law 561 = .ok (.if_icmp .eq 328, 3) := by decide +kernel
theorem dL_law_564 : decode cL_law 564 = .ok (.iconst 0, 1) := by decide +kernel
theorem dL_law_565 : decode cL_law 565 = .ok (.ireturn, 1) := by decide +kernel
theorem dL_law_566 : decode cL_law 566 = .ok (.aload_n 1, 1) := by decide +kernel
theorem dL_law_567 : decode cL_law 567 = .ok (.aload_n 0, 1) := by decide +kernel
theorem dL_law_568 : decode cL_law 568 = .ok (.iload_n 3, 1) := by decide +kernel
theorem dL_law_569 : decode cL_law 569 = .ok (.iconst 1, 1) := by decide +kernel
theorem dL_law_570 : decode cL_law 570 = .ok (.iadd, 1) := by decide +kernel
theorem dL_law_571 : decode cL_law 571 = .ok (.iaload, 1) := by decide +kernel
theorem dL_law_572 : decode cL_law 572 = .ok (.aload_n 0, 1) := by decide +kernel
theorem dL_law_573 : decode cL_law 573 = .ok (.iload_n 3, 1) := by decide +kernel
theorem dL_law_574 : decode cL_law 574 = .ok (.iconst 2, 1) := by decide +kernel
theorem dL_law_575 : decode cL_law 575 = .ok (.iadd, 1) := by decide +kernel
theorem dL_law_576 : decode cL_law 576 = .ok (.iaload, 1) := by decide +kernel
theorem dL_law_577 : decode cL_law 577 = .ok (.invokevirtual 66, 3) := by decide +kernel
theorem dL_law_580 : decode cL_law 580 = .ok (.aload_n 2, 1) := by decide +kernel
theorem dL_law_581 : decode cL_law 581 = .ok (.aload_n 0, 1) := by decide +kernel
theorem dL_law_582 : decode cL_law 582 = .ok (.iload_n 3, 1) := by decide +kernel
theorem dL_law_583 : decode cL_law 583 = .ok (.iconst 1, 1) := by decide +kernel
theorem dL_law_584 : decode cL_law 584 = .ok (.iadd, 1) := by decide +kernel
theorem dL_law_585 : decode cL_law 585 = .ok (.iaload, 1) := by decide +kernel
theorem dL_law_586 : decode cL_law 586 = .ok (.aload_n 0, 1) := by decide +kernel
theorem dL_law_587 : decode cL_law 587 = .ok (.iload_n 3, 1) := by decide +kernel
theorem dL_law_588 : decode cL_law 588 = .ok (.iconst 2, 1) := by decide +kernel
theorem dL_law_589 : decode cL_law 589 = .ok (.iadd, 1) := by decide +kernel
theorem dL_law_590 : decode cL_law 590 = .ok (.iaload, 1) := by decide +kernel
theorem dL_law_591 : decode cL_law 591 = .ok (.invokevirtual 69, 3) := by decide +kernel
theorem dL_law_594 : decode cL_law 594 = .ok (.if_icmp .eq 295, 3) := by decide +kernel
theorem dL_law_597 : decode cL_law 597 = .ok (.iconst 0, 1) := by decide +kernel
theorem dL_law_598 : decode cL_law 598 = .ok (.ireturn, 1) := by decide +kernel
theorem dL_law_599 : decode cL_law 599 = .ok (.aload_n 1, 1) := by decide +kernel
theorem dL_law_600 : decode cL_law 600 = .ok (.aload_n 0, 1) := by decide +kernel
theorem dL_law_601 : decode cL_law 601 = .ok (.iload_n 3, 1) := by decide +kernel
theorem dL_law_602 : decode cL_law 602 = .ok (.iconst 1, 1) := by decide +kernel
theorem dL_law_603 : decode cL_law 603 = .ok (.iadd, 1) := by decide +kernel
theorem dL_law_604 : decode cL_law 604 = .ok (.iaload, 1) := by decide +kernel
theorem dL_law_605 : decode cL_law 605 = .ok (.aload_n 0, 1) := by decide +kernel
theorem dL_law_606 : decode cL_law 606 = .ok (.iload_n 3, 1) := by decide +kernel
theorem dL_law_607 : decode cL_law 607 = .ok (.iconst 2, 1) := by decide +kernel
theorem dL_law_608 : decode cL_law 608 = .ok (.iadd, 1) := by decide +kernel
theorem dL_law_609 : decode cL_law 609 = .ok (.iaload, 1) := by decide +kernel
theorem dL_law_610 : decode cL_law 610 = .ok (.aload_n 0, 1) := by decide +kernel
theorem dL_law_611 : decode cL_law 611 = .ok (.iload_n 3, 1) := by decide +kernel
theorem dL_law_612 : decode cL_law 612 = .ok (.iconst 3, 1) := by decide +kernel
theorem dL_law_613 : decode cL_law 613 = .ok (.iadd, 1) := by decide +kernel
theorem dL_law_614 : decode cL_law 614 = .ok (.iaload, 1) := by decide +kernel
theorem dL_law_615 : decode cL_law 615 = .ok (.invokevirtual 70, 3) := by decide +kernel
theorem dL_law_618 : decode cL_law 618 = .ok (.aload_n 2, 1) := by decide +kernel
theorem dL_law_619 : decode cL_law 619 = .ok (.aload_n 0, 1) := by decide +kernel
theorem dL_law_620 : decode cL_law 620 = .ok (.iload_n 3, 1) := by decide +kernel
theorem dL_law_621 : decode cL_law 621 = .ok (.iconst 1, 1) := by decide +kernel
theorem dL_law_622 : decode cL_law 622 = .ok (.iadd, 1) := by decide +kernel
theorem dL_law_623 : decode cL_law 623 = .ok (.iaload, 1) := by decide +kernel
theorem dL_law_624 : decode cL_law 624 = .ok (.aload_n 0, 1) := by decide +kernel
theorem dL_law_625 : decode cL_law 625 = .ok (.iload_n 3, 1) := by decide +kernel
theorem dL_law_626 : decode cL_law 626 = .ok (.iconst 2, 1) := by decide +kernel
theorem dL_law_627 : decode cL_law 627 = .ok (.iadd, 1) := by decide +kernel
theorem dL_law_628 : decode cL_law 628 = .ok (.iaload, 1) := by decide +kernel
theorem dL_law_629 : decode cL_law 629 = .ok (.aload_n 0, 1) := by decide +kernel
theorem dL_law_630 : decode cL_law 630 = .ok (.iload_n 3, 1) := by decide +kernel
theorem dL_law_631 : decode cL_law 631 = .ok (.iconst 3, 1) := by decide +kernel
theorem dL_law_632 : decode cL_law 632 = .ok (.iadd, 1) := by decide +kernel
theorem dL_law_633 : decode cL_law 633 = .ok (.iaload, 1) := by decide +kernel
theorem dL_law_634 : decode cL_law 634 = .ok (.invokevirtual 73, 3) := by decide +kernel
theorem dL_law_637 : decode cL_law 637 = .ok (.if_icmp .eq 252, 3) := by decide +kernel
theorem dL_law_640 : decode cL_law 640 = .ok (.iconst 0, 1) := by decide +kernel
theorem dL_law_641 : decode cL_law 641 = .ok (.ireturn, 1) := by decide +kernel
theorem dL_law_642 : decode cL_law 642 = .ok (.aload_n 1, 1) := by decide +kernel
theorem dL_law_643 : decode cL_law 643 = .ok (.aload_n 0, 1) := by decide +kernel
theorem dL_law_644 : decode cL_law 644 = .ok (.iload_n 3, 1) := by decide +kernel
theorem dL_law_645 : decode cL_law 645 = .ok (.iconst 1, 1) := by decide +kernel
theorem dL_law_646 : decode cL_law 646 = .ok (.iadd, 1) := by decide +kernel
theorem dL_law_647 : decode cL_law 647 = .ok (.iaload, 1) := by decide +kernel
theorem dL_law_648 : decode cL_law 648 = .ok (.aload_n 0, 1) := by decide +kernel
theorem dL_law_649 : decode cL_law 649 = .ok (.iload_n 3, 1) := by decide +kernel
theorem dL_law_650 : decode cL_law 650 = .ok (.iconst 2, 1) := by decide +kernel
theorem dL_law_651 : decode cL_law 651 = .ok (.iadd, 1) := by decide +kernel
theorem dL_law_652 : decode cL_law 652 = .ok (.iaload, 1) := by decide +kernel
theorem dL_law_653 : decode cL_law 653 = .ok (.invokevirtual 74, 3) := by decide +kernel
theorem dL_law_656 : decode cL_law 656 = .ok (.aload_n 2, 1) := by decide +kernel
theorem dL_law_657 : decode cL_law 657 = .ok (.aload_n 0, 1) := by decide +kernel
theorem dL_law_658 : decode cL_law 658 = .ok (.iload_n 3, 1) := by decide +kernel
theorem dL_law_659 : decode cL_law 659 = .ok (.iconst 1, 1) := by decide +kernel
theorem dL_law_660 : decode cL_law 660 = .ok (.iadd, 1) := by decide +kernel
theorem dL_law_661 : decode cL_law 661 = .ok (.iaload, 1) := by decide +kernel
theorem dL_law_662 : decode cL_law 662 = .ok (.aload_n 0, 1) := by decide +kernel
theorem dL_law_663 : decode cL_law 663 = .ok (.iload_n 3, 1) := by decide +kernel
theorem dL_law_664 : decode cL_law 664 = .ok (.iconst 2, 1) := by decide +kernel
theorem dL_law_665 : decode cL_law 665 = .ok (.iadd, 1) := by decide +kernel
theorem dL_law_666 : decode cL_law 666 = .ok (.iaload, 1) := by decide +kernel
theorem dL_law_667 : decode cL_law 667 = .ok (.invokevirtual 77, 3) := by decide +kernel
theorem dL_law_670 : decode cL_law 670 = .ok (.if_icmp .eq 219, 3) := by decide +kernel
theorem dL_law_673 : decode cL_law 673 = .ok (.iconst 0, 1) := by decide +kernel
theorem dL_law_674 : decode cL_law 674 = .ok (.ireturn, 1) := by decide +kernel
theorem dL_law_675 : decode cL_law 675 = .ok (.aload_n 1, 1) := by decide +kernel
theorem dL_law_676 : decode cL_law 676 = .ok (.aload_n 0, 1) := by decide +kernel
theorem dL_law_677 : decode cL_law 677 = .ok (.iload_n 3, 1) := by decide +kernel
theorem dL_law_678 : decode cL_law 678 = .ok (.iconst 1, 1) := by decide +kernel
theorem dL_law_679 : decode cL_law 679 = .ok (.iadd, 1) := by decide +kernel
theorem dL_law_680 : decode cL_law 680 = .ok (.iaload, 1) := by decide +kernel
theorem dL_law_681 : decode cL_law 681 = .ok (.aload_n 0, 1) := by decide +kernel
theorem dL_law_682 : decode cL_law 682 = .ok (.iload_n 3, 1) := by decide +kernel
theorem dL_law_683 : decode cL_law 683 = .ok (.iconst 2, 1) := by decide +kernel
theorem dL_law_684 : decode cL_law 684 = .ok (.iadd, 1) := by decide +kernel
theorem dL_law_685 : decode cL_law 685 = .ok (.iaload, 1) := by decide +kernel
theorem dL_law_686 : decode cL_law 686 = .ok (.aload_n 0, 1) := by decide +kernel
theorem dL_law_687 : decode cL_law 687 = .ok (.iload_n 3, 1) := by decide +kernel
theorem dL_law_688 : decode cL_law 688 = .ok (.iconst 3, 1) := by decide +kernel
theorem dL_law_689 : decode cL_law 689 = .ok (.iadd, 1) := by decide +kernel
theorem dL_law_690 : decode cL_law 690 = .ok (.iaload, 1) := by decide +kernel
theorem dL_law_691 : decode cL_law 691 = .ok (.invokevirtual 78, 3) := by decide +kernel
theorem dL_law_694 : decode cL_law 694 = .ok (.aload_n 2, 1) := by decide +kernel
theorem dL_law_695 : decode cL_law 695 = .ok (.aload_n 0, 1) := by decide +kernel
theorem dL_law_696 : decode cL_law 696 = .ok (.iload_n 3, 1) := by decide +kernel
theorem dL_law_697 : decode cL_law 697 = .ok (.iconst 1, 1) := by decide +kernel
theorem dL_law_698 : decode cL_law 698 = .ok (.iadd, 1) := by decide +kernel
theorem dL_law_699 : decode cL_law 699 = .ok (.iaload, 1) := by decide +kernel
theorem dL_law_700 : decode cL_law 700 = .ok (.aload_n 0, 1) := by decide +kernel
theorem dL_law_701 : decode cL_law 701 = .ok (.iload_n 3, 1) := by decide +kernel
theorem dL_law_702 : decode cL_law 702 = .ok (.iconst 2, 1) := by decide +kernel
theorem dL_law_703 : decode cL_law 703 = .ok (.iadd, 1) := by decide +kernel
theorem dL_law_704 : decode cL_law 704 = .ok (.iaload, 1) := by decide +kernel
theorem dL_law_705 : decode cL_law 705 = .ok (.aload_n 0, 1) := by decide +kernel
theorem dL_law_706 : decode cL_law 706 = .ok (.iload_n 3, 1) := by decide +kernel
theorem dL_law_707 : decode cL_law 707 = .ok (.iconst 3, 1) := by decide +kernel
theorem dL_law_708 : decode cL_law 708 = .ok (.iadd, 1) := by decide +kernel
theorem dL_law_709 : decode cL_law 709 = .ok (.iaload, 1) := by decide +kernel
theorem dL_law_710 : decode cL_law 710 = .ok (.invokevirtual 81, 3) := by decide +kernel
theorem dL_law_713 : decode cL_law 713 = .ok (.if_icmp .eq 176, 3) := by decide +kernel
theorem dL_law_716 : decode cL_law 716 = .ok (.iconst 0, 1) := by decide +kernel
theorem dL_law_717 : decode cL_law 717 = .ok (.ireturn, 1) := by decide +kernel
theorem dL_law_718 : decode cL_law 718 = .ok (.aload_n 1, 1) := by decide +kernel
theorem dL_law_719 : decode cL_law 719 = .ok (.invokevirtual 82, 3) := by decide +kernel
theorem dL_law_722 : decode cL_law 722 = .ok (.aload_n 2, 1) := by decide +kernel
theorem dL_law_723 : decode cL_law 723 = .ok (.invokevirtual 85, 3) := by decide +kernel
theorem dL_law_726 : decode cL_law 726 = .ok (.if_icmp .eq 163, 3) := by decide +kernel
theorem dL_law_729 : decode cL_law 729 = .ok (.iconst 0, 1) := by decide +kernel
theorem dL_law_730 : decode cL_law 730 = .ok (.ireturn, 1) := by decide +kernel
theorem dL_law_731 : decode cL_law 731 = .ok (.aload_n 1, 1) := by decide +kernel
theorem dL_law_732 : decode cL_law 732 = .ok (.aload_n 0, 1) := by decide +kernel
theorem dL_law_733 : decode cL_law 733 = .ok (.iload_n 3, 1) := by decide +kernel
theorem dL_law_734 : decode cL_law 734 = .ok (.iconst 1, 1) := by decide +kernel
theorem dL_law_735 : decode cL_law 735 = .ok (.iadd, 1) := by decide +kernel
theorem dL_law_736 : decode cL_law 736 = .ok (.iaload, 1) := by decide +kernel
theorem dL_law_737 : decode cL_law 737 = .ok (.invokevirtual 86, 3) := by decide +kernel
theorem dL_law_740 : decode cL_law 740 = .ok (.aload_n 2, 1) := by decide +kernel
theorem dL_law_741 : decode cL_law 741 = .ok (.aload_n 0, 1) := by decide +kernel
theorem dL_law_742 : decode cL_law 742 = .ok (.iload_n 3, 1) := by decide +kernel
theorem dL_law_743 : decode cL_law 743 = .ok (.iconst 1, 1) := by decide +kernel
theorem dL_law_744 : decode cL_law 744 = .ok (.iadd, 1) := by decide +kernel
theorem dL_law_745 : decode cL_law 745 = .ok (.iaload, 1) := by decide +kernel
theorem dL_law_746 : decode cL_law 746 = .ok (.invokevirtual 89, 3) := by decide +kernel
theorem dL_law_749 : decode cL_law 749 = .ok (.if_icmp .eq 140, 3) := by decide +kernel
theorem dL_law_752 : decode cL_law 752 = .ok (.iconst 0, 1) := by decide +kernel
theorem dL_law_753 : decode cL_law 753 = .ok (.ireturn, 1) := by decide +kernel
theorem dL_law_754 : decode cL_law 754 = .ok (.aload_n 1, 1) := by decide +kernel
theorem dL_law_755 : decode cL_law 755 = .ok (.aload_n 0, 1) := by decide +kernel
theorem dL_law_756 : decode cL_law 756 = .ok (.iload_n 3, 1) := by decide +kernel
theorem dL_law_757 : decode cL_law 757 = .ok (.iconst 1, 1) := by decide +kernel
theorem dL_law_758 : decode cL_law 758 = .ok (.iadd, 1) := by decide +kernel
theorem dL_law_759 : decode cL_law 759 = .ok (.iaload, 1) := by decide +kernel
theorem dL_law_760 : decode cL_law 760 = .ok (.aload_n 0, 1) := by decide +kernel
theorem dL_law_761 : decode cL_law 761 = .ok (.iload_n 3, 1) := by decide +kernel
theorem dL_law_762 : decode cL_law 762 = .ok (.iconst 2, 1) := by decide +kernel
theorem dL_law_763 : decode cL_law 763 = .ok (.iadd, 1) := by decide +kernel
theorem dL_law_764 : decode cL_law 764 = .ok (.iaload, 1) := by decide +kernel
theorem dL_law_765 : decode cL_law 765 = .ok (.invokevirtual 90, 3) := by decide +kernel
theorem dL_law_768 : decode cL_law 768 = .ok (.aload_n 2, 1) := by decide +kernel
theorem dL_law_769 : decode cL_law 769 = .ok (.aload_n 0, 1) := by decide +kernel
theorem dL_law_770 : decode cL_law 770 = .ok (.iload_n 3, 1) := by decide +kernel
theorem dL_law_771 : decode cL_law 771 = .ok (.iconst 1, 1) := by decide +kernel
theorem dL_law_772 : decode cL_law 772 = .ok (.iadd, 1) := by decide +kernel
theorem dL_law_773 : decode cL_law 773 = .ok (.iaload, 1) := by decide +kernel
theorem dL_law_774 : decode cL_law 774 = .ok (.aload_n 0, 1) := by decide +kernel
theorem dL_law_775 : decode cL_law 775 = .ok (.iload_n 3, 1) := by decide +kernel
theorem dL_law_776 : decode cL_law 776 = .ok (.iconst 2, 1) := by decide +kernel
theorem dL_law_777 : decode cL_law 777 = .ok (.iadd, 1) := by decide +kernel
theorem dL_law_778 : decode cL_law 778 = .ok (.iaload, 1) := by decide +kernel
theorem dL_law_779 : decode cL_law 779 = .ok (.invokevirtual 93, 3) := by decide +kernel
theorem dL_law_782 : decode cL_law 782 = .ok (.if_icmp .eq 107, 3) := by decide +kernel
theorem dL_law_785 : decode cL_law 785 = .ok (.iconst 0, 1) := by decide +kernel
theorem dL_law_786 : decode cL_law 786 = .ok (.ireturn, 1) := by decide +kernel
theorem dL_law_787 : decode cL_law 787 = .ok (.aload_n 1, 1) := by decide +kernel
theorem dL_law_788 : decode cL_law 788 = .ok (.aload_n 0, 1) := by decide +kernel
theorem dL_law_789 : decode cL_law 789 = .ok (.iload_n 3, 1) := by decide +kernel
theorem dL_law_790 : decode cL_law 790 = .ok (.iconst 1, 1) := by decide +kernel
theorem dL_law_791 : decode cL_law 791 = .ok (.iadd, 1) := by decide +kernel
theorem dL_law_792 : decode cL_law 792 = .ok (.iaload, 1) := by decide +kernel
theorem dL_law_793 : decode cL_law 793 = .ok (.invokevirtual 94, 3) := by decide +kernel
theorem dL_law_796 : decode cL_law 796 = .ok (.aload_n 2, 1) := by decide +kernel
theorem dL_law_797 : decode cL_law 797 = .ok (.aload_n 0, 1) := by decide +kernel
theorem dL_law_798 : decode cL_law 798 = .ok (.iload_n 3, 1) := by decide +kernel
theorem dL_law_799 : decode cL_law 799 = .ok (.iconst 1, 1) := by decide +kernel
theorem dL_law_800 : decode cL_law 800 = .ok (.iadd, 1) := by decide +kernel
theorem dL_law_801 : decode cL_law 801 = .ok (.iaload, 1) := by decide +kernel
theorem dL_law_802 : decode cL_law 802 = .ok (.invokevirtual 97, 3) := by decide +kernel
theorem dL_law_805 : decode cL_law 805 = .ok (.if_icmp .eq 84, 3) := by decide +kernel
theorem dL_law_808 : decode cL_law 808 = .ok (.iconst 0, 1) := by decide +kernel
theorem dL_law_809 : decode cL_law 809 = .ok (.ireturn, 1) := by decide +kernel
theorem dL_law_810 : decode cL_law 810 = .ok (.aload_n 1, 1) := by decide +kernel
theorem dL_law_811 : decode cL_law 811 = .ok (.aload_n 0, 1) := by decide +kernel
theorem dL_law_812 : decode cL_law 812 = .ok (.iload_n 3, 1) := by decide +kernel
theorem dL_law_813 : decode cL_law 813 = .ok (.iconst 1, 1) := by decide +kernel
theorem dL_law_814 : decode cL_law 814 = .ok (.iadd, 1) := by decide +kernel
theorem dL_law_815 : decode cL_law 815 = .ok (.iaload, 1) := by decide +kernel
theorem dL_law_816 : decode cL_law 816 = .ok (.invokevirtual 98, 3) := by decide +kernel
theorem dL_law_819 : decode cL_law 819 = .ok (.aload_n 2, 1) := by decide +kernel
theorem dL_law_820 : decode cL_law 820 = .ok (.aload_n 0, 1) := by decide +kernel
theorem dL_law_821 : decode cL_law 821 = .ok (.iload_n 3, 1) := by decide +kernel
theorem dL_law_822 : decode cL_law 822 = .ok (.iconst 1, 1) := by decide +kernel
theorem dL_law_823 : decode cL_law 823 = .ok (.iadd, 1) := by decide +kernel
theorem dL_law_824 : decode cL_law 824 = .ok (.iaload, 1) := by decide +kernel
theorem dL_law_825 : decode cL_law 825 = .ok (.invokevirtual 101, 3) := by decide +kernel
theorem dL_law_828 : decode cL_law 828 = .ok (.if_icmp .eq 61, 3) := by decide +kernel
theorem dL_law_831 : decode cL_law 831 = .ok (.iconst 0, 1) := by decide +kernel
theorem dL_law_832 : decode cL_law 832 = .ok (.ireturn, 1) := by decide +kernel
theorem dL_law_833 : decode cL_law 833 = .ok (.aload_n 1, 1) := by decide +kernel
theorem dL_law_834 : decode cL_law 834 = .ok (.aload_n 0, 1) := by decide +kernel
theorem dL_law_835 : decode cL_law 835 = .ok (.iload_n 3, 1) := by decide +kernel
theorem dL_law_836 : decode cL_law 836 = .ok (.iconst 1, 1) := by decide +kernel
theorem dL_law_837 : decode cL_law 837 = .ok (.iadd, 1) := by decide +kernel
theorem dL_law_838 : decode cL_law 838 = .ok (.iaload, 1) := by decide +kernel
theorem dL_law_839 : decode cL_law 839 = .ok (.aload_n 0, 1) := by decide +kernel
theorem dL_law_840 : decode cL_law 840 = .ok (.iload_n 3, 1) := by decide +kernel
theorem dL_law_841 : decode cL_law 841 = .ok (.iconst 2, 1) := by decide +kernel
theorem dL_law_842 : decode cL_law 842 = .ok (.iadd, 1) := by decide +kernel
theorem dL_law_843 : decode cL_law 843 = .ok (.iaload, 1) := by decide +kernel
theorem dL_law_844 : decode cL_law 844 = .ok (.invokevirtual 102, 3) := by decide +kernel
theorem dL_law_847 : decode cL_law 847 = .ok (.aload_n 2, 1) := by decide +kernel
theorem dL_law_848 : decode cL_law 848 = .ok (.aload_n 0, 1) := by decide +kernel
theorem dL_law_849 : decode cL_law 849 = .ok (.iload_n 3, 1) := by decide +kernel
theorem dL_law_850 : decode cL_law 850 = .ok (.iconst 1, 1) := by decide +kernel
theorem dL_law_851 : decode cL_law 851 = .ok (.iadd, 1) := by decide +kernel
theorem dL_law_852 : decode cL_law 852 = .ok (.iaload, 1) := by decide +kernel
theorem dL_law_853 : decode cL_law 853 = .ok (.aload_n 0, 1) := by decide +kernel
theorem dL_law_854 : decode cL_law 854 = .ok (.iload_n 3, 1) := by decide +kernel
theorem dL_law_855 : decode cL_law 855 = .ok (.iconst 2, 1) := by decide +kernel
theorem dL_law_856 : decode cL_law 856 = .ok (.iadd, 1) := by decide +kernel
theorem dL_law_857 : decode cL_law 857 = .ok (.iaload, 1) := by decide +kernel
theorem dL_law_858 : decode cL_law 858 = .ok (.invokevirtual 105, 3) := by decide +kernel
theorem dL_law_861 : decode cL_law 861 = .ok (.if_icmp .eq 28, 3) := by decide +kernel
theorem dL_law_864 : decode cL_law 864 = .ok (.iconst 0, 1) := by decide +kernel
theorem dL_law_865 : decode cL_law 865 = .ok (.ireturn, 1) := by decide +kernel
theorem dL_law_866 : decode cL_law 866 = .ok (.aload_n 1, 1) := by decide +kernel
theorem dL_law_867 : decode cL_law 867 = .ok (.aload_n 0, 1) := by decide +kernel
theorem dL_law_868 : decode cL_law 868 = .ok (.iload_n 3, 1) := by decide +kernel
theorem dL_law_869 : decode cL_law 869 = .ok (.iconst 1, 1) := by decide +kernel
theorem dL_law_870 : decode cL_law 870 = .ok (.iadd, 1) := by decide +kernel
theorem dL_law_871 : decode cL_law 871 = .ok (.iaload, 1) := by decide +kernel
theorem dL_law_872 : decode cL_law 872 = .ok (.invokevirtual 106, 3) := by decide +kernel
theorem dL_law_875 : decode cL_law 875 = .ok (.aload_n 2, 1) := by decide +kernel
theorem dL_law_876 : decode cL_law 876 = .ok (.aload_n 0, 1) := by decide +kernel
theorem dL_law_877 : decode cL_law 877 = .ok (.iload_n 3, 1) := by decide +kernel
theorem dL_law_878 : decode cL_law 878 = .ok (.iconst 1, 1) := by decide +kernel
theorem dL_law_879 : decode cL_law 879 = .ok (.iadd, 1) := by decide +kernel
theorem dL_law_880 : decode cL_law 880 = .ok (.iaload, 1) := by decide +kernel
theorem dL_law_881 : decode cL_law 881 = .ok (.invokevirtual 109, 3) := by decide +kernel
theorem dL_law_884 : decode cL_law 884 = .ok (.if_icmp .eq 5, 3) := by decide +kernel
theorem dL_law_887 : decode cL_law 887 = .ok (.iconst 0, 1) := by decide +kernel
theorem dL_law_888 : decode cL_law 888 = .ok (.ireturn, 1) := by decide +kernel
theorem dL_law_889 : decode cL_law 889 = .ok (.iinc 3 5, 3) := by decide +kernel
theorem dL_law_892 : decode cL_law 892 = .ok (.goto (-874), 3) := by decide +kernel
theorem dL_law_895 : decode cL_law 895 = .ok (.iconst 1, 1) := by decide +kernel
theorem dL_law_896 : decode cL_law 896 = .ok (.ireturn, 1) := by decide +kernel
end
