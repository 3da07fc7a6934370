theorem cl_0 {cy : Nat → ClassId} {ad : Nat → Nat} (r : Nat → Int) : cellOf cy ad 0 r = .inr (6, [.ref (ad 1), .ref (ad 2), .ref (ad 8), .ref (ad 12), .ref (ad 16), .ref (ad 18), .ref (ad 19), .int (iI (r 7)), .int (iI (r 8)), .int (iI (r 9))]) := rfl
theorem st_0_7 {cy : Nat → ClassId} {ad : Nat → Nat} (x : Mm) (z : Int) : cellOf cy ad 0 (up2 x 0 7 z 0) = .inr (6, List.set [.ref (ad 1), .ref (ad 2), .ref (ad 8), .ref (ad 12), .ref (ad 16), .ref (ad 18), .ref (ad 19), .int (iI (x 0 7)), .int (iI (x 0 8)), .int (iI (x 0 9))] 7 (.int (iI z))) := by rw [cl_0]; simp [up2]
theorem st_0_8 {cy : Nat → ClassId} {ad : Nat → Nat} (x : Mm) (z : Int) : cellOf cy ad 0 (up2 x 0 8 z 0) = .inr (6, List.set [.ref (ad 1), .ref (ad 2), .ref (ad 8), .ref (ad 12), .ref (ad 16), .ref (ad 18), .ref (ad 19), .int (iI (x 0 7)), .int (iI (x 0 8)), .int (iI (x 0 9))] 8 (.int (iI z))) := by rw [cl_0]; simp [up2]
theorem st_0_9 {cy : Nat → ClassId} {ad : Nat → Nat} (x : Mm) (z : Int) : cellOf cy ad 0 (up2 x 0 9 z 0) = .inr (6, List.set [.ref (ad 1), .ref (ad 2), .ref (ad 8), .ref (ad 12), .ref (ad 16), .ref (ad 18), .ref (ad 19), .int (iI (x 0 7)), .int (iI (x 0 8)), .int (iI (x 0 9))] 9 (.int (iI z))) := by rw [cl_0]; simp [up2]
theorem cl_2 {cy : Nat → ClassId} {ad : Nat → Nat} (r : Nat → Int) : cellOf cy ad 2 r = .inr (2, [.ref (ad 3), .int (iI (r 1)), .ref (ad 4), .ref (ad 5), .int (iI (r 4)), .ref (ad 6), .ref (ad 7)]) := rfl
theorem st_2_1 {cy : Nat → ClassId} {ad : Nat → Nat} (x : Mm) (z : Int) : cellOf cy ad 2 (up2 x 2 1 z 2) = .inr (2, List.set [.ref (ad 3), .int (iI (x 2 1)), .ref (ad 4), .ref (ad 5), .int (iI (x 2 4)), .ref (ad 6), .ref (ad 7)] 1 (.int (iI z))) := by rw [cl_2]; simp [up2]
theorem st_2_4 {cy : Nat → ClassId} {ad : Nat → Nat} (x : Mm) (z : Int) : cellOf cy ad 2 (up2 x 2 4 z 2) = .inr (2, List.set [.ref (ad 3), .int (iI (x 2 1)), .ref (ad 4), .ref (ad 5), .int (iI (x 2 4)), .ref (ad 6), .ref (ad 7)] 4 (.int (iI z))) := by rw [cl_2]; simp [up2]
theorem cl_8 {cy : Nat → ClassId} {ad : Nat → Nat} (r : Nat → Int) : cellOf cy ad 8 r = .inr (0, [.ref (ad 9), .ref (ad 10), .ref (ad 11)]) := rfl
theorem cl_12 {cy : Nat → ClassId} {ad : Nat → Nat} (r : Nat → Int) : cellOf cy ad 12 r = .inr (3, [.ref (ad 13), .ref (ad 14), .ref (ad 15), .int (iI (r 3)), .int (iI (r 4))]) := rfl
theorem st_12_3 {cy : Nat → ClassId} {ad : Nat → Nat} (x : Mm) (z : Int) : cellOf cy ad 12 (up2 x 12 3 z 12) = .inr (3, List.set [.ref (ad 13), .ref (ad 14), .ref (ad 15), .int (iI (x 12 3)), .int (iI (x 12 4))] 3 (.int (iI z))) := by rw [cl_12]; simp [up2]
theorem st_12_4 {cy : Nat → ClassId} {ad : Nat → Nat} (x : Mm) (z : Int) : cellOf cy ad 12 (up2 x 12 4 z 12) = .inr (3, List.set [.ref (ad 13), .ref (ad 14), .ref (ad 15), .int (iI (x 12 3)), .int (iI (x 12 4))] 4 (.int (iI z))) := by rw [cl_12]; simp [up2]
theorem cl_16 {cy : Nat → ClassId} {ad : Nat → Nat} (r : Nat → Int) : cellOf cy ad 16 r = .inr (1, [.ref (ad 17)]) := rfl
theorem cl_60 {cy : Nat → ClassId} {ad : Nat → Nat} (r : Nat → Int) : cellOf cy ad 60 r = .inr (7, [.int (iI (r 0)), .ref (ad 61), .int (iI (r 2)), .ref (ad 62), .ref (ad 63), .int (iI (r 5)), .ref (ad 64), .ref (ad 65), .ref (ad 66), .ref (ad 67), .ref (ad 68), .ref (ad 69), .ref (ad 70), .int (iI (r 13)), .ref (ad 71), .int (iI (r 15)), .ref (ad 72), .ref (ad 73), .ref (ad 74), .int (iI (r 19))]) := rfl
theorem st_60_0 {cy : Nat → ClassId} {ad : Nat → Nat} (x : Mm) (z : Int) : cellOf cy ad 60 (up2 x 60 0 z 60) = .inr (7, List.set [.int (iI (x 60 0)), .ref (ad 61), .int (iI (x 60 2)), .ref (ad 62), .ref (ad 63), .int (iI (x 60 5)), .ref (ad 64), .ref (ad 65), .ref (ad 66), .ref (ad 67), .ref (ad 68), .ref (ad 69), .ref (ad 70), .int (iI (x 60 13)), .ref (ad 71), .int (iI (x 60 15)), .ref (ad 72), .ref (ad 73), .ref (ad 74), .int (iI (x 60 19))] 0 (.int (iI z))) := by rw [cl_60]; simp [up2]
theorem st_60_2 {cy : Nat → ClassId} {ad : Nat → Nat} (x : Mm) (z : Int) : cellOf cy ad 60 (up2 x 60 2 z 60) = .inr (7, List.set [.int (iI (x 60 0)), .ref (ad 61), .int (iI (x 60 2)), .ref (ad 62), .ref (ad 63), .int (iI (x 60 5)), .ref (ad 64), .ref (ad 65), .ref (ad 66), .ref (ad 67), .ref (ad 68), .ref (ad 69), .ref (ad 70), .int (iI (x 60 13)), .ref (ad 71), .int (iI (x 60 15)), .ref (ad 72), .ref (ad 73), .ref (ad 74), .int (iI (x 60 19))] 2 (.int (iI z))) := by rw [cl_60]; simp [up2]
theorem st_60_5 {cy : Nat → ClassId} {ad : Nat → Nat} (x : Mm) (z : Int) : cellOf cy ad 60 (up2 x 60 5 z 60) = .inr (7, List.set [.int (iI (x 60 0)), .ref (ad 61), .int (iI (x 60 2)), .ref (ad 62), .ref (ad 63), .int (iI (x 60 5)), .ref (ad 64), .ref (ad 65), .ref (ad 66), .ref (ad 67), .ref (ad 68), .ref (ad 69), .ref (ad 70), .int (iI (x 60 13)), .ref (ad 71), .int (iI (x 60 15)), .ref (ad 72), .ref (ad 73), .ref (ad 74), .int (iI (x 60 19))] 5 (.int (iI z))) := by rw [cl_60]; simp [up2]
theorem st_60_13 {cy : Nat → ClassId} {ad : Nat → Nat} (x : Mm) (z : Int) : cellOf cy ad 60 (up2 x 60 13 z 60) = .inr (7, List.set [.int (iI (x 60 0)), .ref (ad 61), .int (iI (x 60 2)), .ref (ad 62), .ref (ad 63), .int (iI (x 60 5)), .ref (ad 64), .ref (ad 65), .ref (ad 66), .ref (ad 67), .ref (ad 68), .ref (ad 69), .ref (ad 70), .int (iI (x 60 13)), .ref (ad 71), .int (iI (x 60 15)), .ref (ad 72), .ref (ad 73), .ref (ad 74), .int (iI (x 60 19))] 13 (.int (iI z))) := by rw [cl_60]; simp [up2]
theorem st_60_15 {cy : Nat → ClassId} {ad : Nat → Nat} (x : Mm) (z : Int) : cellOf cy ad 60 (up2 x 60 15 z 60) = .inr (7, List.set [.int (iI (x 60 0)), .ref (ad 61), .int (iI (x 60 2)), .ref (ad 62), .ref (ad 63), .int (iI (x 60 5)), .ref (ad 64), .ref (ad 65), .ref (ad 66), .ref (ad 67), .ref (ad 68), .ref (ad 69), .ref (ad 70), .int (iI (x 60 13)), .ref (ad 71), .int (iI (x 60 15)), .ref (ad 72), .ref (ad 73), .ref (ad 74), .int (iI (x 60 19))] 15 (.int (iI z))) := by rw [cl_60]; simp [up2]
theorem st_60_19 {cy : Nat → ClassId} {ad : Nat → Nat} (x : Mm) (z : Int) : cellOf cy ad 60 (up2 x 60 19 z 60) = .inr (7, List.set [.int (iI (x 60 0)), .ref (ad 61), .int (iI (x 60 2)), .ref (ad 62), .ref (ad 63), .int (iI (x 60 5)), .ref (ad 64), .ref (ad 65), .ref (ad 66), .ref (ad 67), .ref (ad 68), .ref (ad 69), .ref (ad 70), .int (iI (x 60 13)), .ref (ad 71), .int (iI (x 60 15)), .ref (ad 72), .ref (ad 73), .ref (ad 74), .int (iI (x 60 19))] 19 (.int (iI z))) := by rw [cl_60]; simp [up2]
theorem cl_9 {cy : Nat → ClassId} {ad : Nat → Nat} (r : Nat → Int) : cellOf cy ad 9 r = .inl (cy 1, 4, .inl (fun k => iI (r k))) := rfl
theorem cl_68 {cy : Nat → ClassId} {ad : Nat → Nat} (r : Nat → Int) : cellOf cy ad 68 r = .inl (cy 1, 4, .inl (fun k => iI (r k))) := rfl
theorem st_pl_2 {cy : Nat → ClassId} {ad : Nat → Nat} {j : Nat} (x : Mm) (z : Int) (h : j < 4) : cellOf cy ad (20 + 3 * j) (up2 x (20 + 3 * j) 2 z (20 + 3 * j)) = .inr (4, List.set [.ref (ad (20 + 3 * j + 1)), .ref (ad (20 + 3 * j + 2)), .int (iI (x (20 + 3 * j) 2))] 2 (.int (iI z))) := by rw [cell_pl _ h]; simp [up2]
theorem st_tp_1 {cy : Nat → ClassId} {ad : Nat → Nat} {j : Nat} (x : Mm) (z : Int) (h : j < 12) : cellOf cy ad (32 + 2 * j) (up2 x (32 + 2 * j) 1 z (32 + 2 * j)) = .inr (5, List.set [.ref (ad (32 + 2 * j + 1)), .int (iI (x (32 + 2 * j) 1)), .int (iI (x (32 + 2 * j) 2))] 1 (.int (iI z))) := by rw [cell_tp _ h]; simp [up2]
theorem st_tp_2 {cy : Nat → ClassId} {ad : Nat → Nat} {j : Nat} (x : Mm) (z : Int) (h : j < 12) : cellOf cy ad (32 + 2 * j) (up2 x (32 + 2 * j) 2 z (32 + 2 * j)) = .inr (5, List.set [.ref (ad (32 + 2 * j + 1)), .int (iI (x (32 + 2 * j) 1)), .int (iI (x (32 + 2 * j) 2))] 2 (.int (iI z))) := by rw [cell_tp _ h]; simp [up2]
def fLA (L : List Nat) : Prop := ∀ c, c < 56 → c ∈ L
def fLH (L : List Nat) : Prop := ∀ c, (2 ≤ c ∧ c < 8) ∨ (32 ≤ c ∧ c < 56) → c ∈ L
def fLM (L : List Nat) : Prop := ∀ c, (60 ≤ c ∧ c < 75) → c ∈ L
theorem fLA.h {L : List Nat} (h : fLA L) : fLH L := fun c hc => h c (by omega)
abbrev fQi (below : List Frame) (D : va_G) (cy : Nat → ClassId) (L : List Nat) (ad : Nat → Nat) (s : State) (args : Array Value) (post : Int → Mm → Prop) : State → Prop := MQ below (va_Qi (fun r x' => ∃ z, r = iI z ∧ post z x') (fPost D cy L ad s.heap.size) (fAr L ad s.heap.size)) args s 0 0 (fAr L ad s.heap.size)
abbrev fQl (below : List Frame) (D : va_G) (cy : Nat → ClassId) (L : List Nat) (ad : Nat → Nat) (s : State) (args : Array Value) (post : Int → Mm → Prop) : State → Prop := MQ below (va_Ql (fun r x' => ∃ z, r = iL z ∧ post z x') (fPost D cy L ad s.heap.size) (fAr L ad s.heap.size)) args s 0 0 (fAr L ad s.heap.size)
abbrev fQv (below : List Frame) (D : va_G) (cy : Nat → ClassId) (L : List Nat) (ad : Nat → Nat) (s : State) (args : Array Value) (post : Mm → Prop) : State → Prop := MQ below (va_Qv (fun x' => post x') (fPost D cy L ad s.heap.size) (fAr L ad s.heap.size)) args s 0 0 (fAr L ad s.heap.size)
theorem fr_entry {m : MethodId} {args : Array Value} {vs : List Value} {n : Nat} (h : args = vs.toArray) (hn : (lg_sl vs).length ≤ n) : ∃ ls, entryFrame m args n = F0 m 0 ls [] ∧ lv_has ls n (lv_args 0 vs) := ⟨_, by rw [h]; exact lg_entry_eq _ _ _, lv_entry vs hn⟩
def lk1 {A1 : Type} (B : (A1 → Prop) → A1 → Prop) : Nat → A1 → Prop
  | 0 => fun _ => False
  | n + 1 => B (lk1 B n)
theorem lk1_inv {A1 : Type} {B : (A1 → Prop) → A1 → Prop} (I : A1 → Prop) (μ : A1 → Nat) (h : ∀ (bk : A1 → Prop) (a1 : A1), I a1 → (∀ (b1 : A1), I b1 → μ b1 < μ a1 → bk b1) → B bk a1) (a1 : A1) (hi : I a1) : ∃ n : Nat, lk1 B n a1 := by
  have key : ∀ (n : Nat) (a1 : A1), μ a1 < n → I a1 → lk1 B n a1 := by
    intro n
    induction n with
    | zero => intro a1 h1; exact absurd h1 (Nat.not_lt_zero _)
    | succ n ih => intro a1 h1 h2; exact h _ a1 h2 (fun b1 h3 h4 => ih b1 (by omega) h3)
  exact ⟨_, key _ a1 (Nat.lt_succ_self _) hi⟩
def lk2 {A1 A2 : Type} (B : (A1 → A2 → Prop) → A1 → A2 → Prop) : Nat → A1 → A2 → Prop
  | 0 => fun _ _ => False
  | n + 1 => B (lk2 B n)
theorem lk2_inv {A1 A2 : Type} {B : (A1 → A2 → Prop) → A1 → A2 → Prop} (I : A1 → A2 → Prop) (μ : A1 → A2 → Nat) (h : ∀ (bk : A1 → A2 → Prop) (a1 : A1) (a2 : A2), I a1 a2 → (∀ (b1 : A1) (b2 : A2), I b1 b2 → μ b1 b2 < μ a1 a2 → bk b1 b2) → B bk a1 a2) (a1 : A1) (a2 : A2) (hi : I a1 a2) : ∃ n : Nat, lk2 B n a1 a2 := by
  have key : ∀ (n : Nat) (a1 : A1) (a2 : A2), μ a1 a2 < n → I a1 a2 → lk2 B n a1 a2 := by
    intro n
    induction n with
    | zero => intro a1 a2 h1; exact absurd h1 (Nat.not_lt_zero _)
    | succ n ih => intro a1 a2 h1 h2; exact h _ a1 a2 h2 (fun b1 b2 h3 h4 => ih b1 b2 (by omega) h3)
  exact ⟨_, key _ a1 a2 (Nat.lt_succ_self _) hi⟩
def lk3 {A1 A2 A3 : Type} (B : (A1 → A2 → A3 → Prop) → A1 → A2 → A3 → Prop) : Nat → A1 → A2 → A3 → Prop
  | 0 => fun _ _ _ => False
  | n + 1 => B (lk3 B n)
theorem lk3_inv {A1 A2 A3 : Type} {B : (A1 → A2 → A3 → Prop) → A1 → A2 → A3 → Prop} (I : A1 → A2 → A3 → Prop) (μ : A1 → A2 → A3 → Nat) (h : ∀ (bk : A1 → A2 → A3 → Prop) (a1 : A1) (a2 : A2) (a3 : A3), I a1 a2 a3 → (∀ (b1 : A1) (b2 : A2) (b3 : A3), I b1 b2 b3 → μ b1 b2 b3 < μ a1 a2 a3 → bk b1 b2 b3) → B bk a1 a2 a3) (a1 : A1) (a2 : A2) (a3 : A3) (hi : I a1 a2 a3) : ∃ n : Nat, lk3 B n a1 a2 a3 := by
  have key : ∀ (n : Nat) (a1 : A1) (a2 : A2) (a3 : A3), μ a1 a2 a3 < n → I a1 a2 a3 → lk3 B n a1 a2 a3 := by
    intro n
    induction n with
    | zero => intro a1 a2 a3 h1; exact absurd h1 (Nat.not_lt_zero _)
    | succ n ih => intro a1 a2 a3 h1 h2; exact h _ a1 a2 a3 h2 (fun b1 b2 b3 h3 h4 => ih b1 b2 b3 (by omega) h3)
  exact ⟨_, key _ a1 a2 a3 (Nat.lt_succ_self _) hi⟩
def lk4 {A1 A2 A3 A4 : Type} (B : (A1 → A2 → A3 → A4 → Prop) → A1 → A2 → A3 → A4 → Prop) : Nat → A1 → A2 → A3 → A4 → Prop
  | 0 => fun _ _ _ _ => False
  | n + 1 => B (lk4 B n)
theorem lk4_inv {A1 A2 A3 A4 : Type} {B : (A1 → A2 → A3 → A4 → Prop) → A1 → A2 → A3 → A4 → Prop} (I : A1 → A2 → A3 → A4 → Prop) (μ : A1 → A2 → A3 → A4 → Nat) (h : ∀ (bk : A1 → A2 → A3 → A4 → Prop) (a1 : A1) (a2 : A2) (a3 : A3) (a4 : A4), I a1 a2 a3 a4 → (∀ (b1 : A1) (b2 : A2) (b3 : A3) (b4 : A4), I b1 b2 b3 b4 → μ b1 b2 b3 b4 < μ a1 a2 a3 a4 → bk b1 b2 b3 b4) → B bk a1 a2 a3 a4) (a1 : A1) (a2 : A2) (a3 : A3) (a4 : A4) (hi : I a1 a2 a3 a4) : ∃ n : Nat, lk4 B n a1 a2 a3 a4 := by
  have key : ∀ (n : Nat) (a1 : A1) (a2 : A2) (a3 : A3) (a4 : A4), μ a1 a2 a3 a4 < n → I a1 a2 a3 a4 → lk4 B n a1 a2 a3 a4 := by
    intro n
    induction n with
    | zero => intro a1 a2 a3 a4 h1; exact absurd h1 (Nat.not_lt_zero _)
    | succ n ih => intro a1 a2 a3 a4 h1 h2; exact h _ a1 a2 a3 a4 h2 (fun b1 b2 b3 b4 h3 h4 => ih b1 b2 b3 b4 (by omega) h3)
  exact ⟨_, key _ a1 a2 a3 a4 (Nat.lt_succ_self _) hi⟩
def lk5 {A1 A2 A3 A4 A5 : Type} (B : (A1 → A2 → A3 → A4 → A5 → Prop) → A1 → A2 → A3 → A4 → A5 → Prop) : Nat → A1 → A2 → A3 → A4 → A5 → Prop
  | 0 => fun _ _ _ _ _ => False
  | n + 1 => B (lk5 B n)
theorem lk5_inv {A1 A2 A3 A4 A5 : Type} {B : (A1 → A2 → A3 → A4 → A5 → Prop) → A1 → A2 → A3 → A4 → A5 → Prop} (I : A1 → A2 → A3 → A4 → A5 → Prop) (μ : A1 → A2 → A3 → A4 → A5 → Nat) (h : ∀ (bk : A1 → A2 → A3 → A4 → A5 → Prop) (a1 : A1) (a2 : A2) (a3 : A3) (a4 : A4) (a5 : A5), I a1 a2 a3 a4 a5 → (∀ (b1 : A1) (b2 : A2) (b3 : A3) (b4 : A4) (b5 : A5), I b1 b2 b3 b4 b5 → μ b1 b2 b3 b4 b5 < μ a1 a2 a3 a4 a5 → bk b1 b2 b3 b4 b5) → B bk a1 a2 a3 a4 a5) (a1 : A1) (a2 : A2) (a3 : A3) (a4 : A4) (a5 : A5) (hi : I a1 a2 a3 a4 a5) : ∃ n : Nat, lk5 B n a1 a2 a3 a4 a5 := by
  have key : ∀ (n : Nat) (a1 : A1) (a2 : A2) (a3 : A3) (a4 : A4) (a5 : A5), μ a1 a2 a3 a4 a5 < n → I a1 a2 a3 a4 a5 → lk5 B n a1 a2 a3 a4 a5 := by
    intro n
    induction n with
    | zero => intro a1 a2 a3 a4 a5 h1; exact absurd h1 (Nat.not_lt_zero _)
    | succ n ih => intro a1 a2 a3 a4 a5 h1 h2; exact h _ a1 a2 a3 a4 a5 h2 (fun b1 b2 b3 b4 b5 h3 h4 => ih b1 b2 b3 b4 b5 (by omega) h3)
  exact ⟨_, key _ a1 a2 a3 a4 a5 (Nat.lt_succ_self _) hi⟩
def lk6 {A1 A2 A3 A4 A5 A6 : Type} (B : (A1 → A2 → A3 → A4 → A5 → A6 → Prop) → A1 → A2 → A3 → A4 → A5 → A6 → Prop) : Nat → A1 → A2 → A3 → A4 → A5 → A6 → Prop
  | 0 => fun _ _ _ _ _ _ => False
  | n + 1 => B (lk6 B n)
theorem lk6_inv {A1 A2 A3 A4 A5 A6 : Type} {B : (A1 → A2 → A3 → A4 → A5 → A6 → Prop) → A1 → A2 → A3 → A4 → A5 → A6 → Prop} (I : A1 → A2 → A3 → A4 → A5 → A6 → Prop) (μ : A1 → A2 → A3 → A4 → A5 → A6 → Nat) (h : ∀ (bk : A1 → A2 → A3 → A4 → A5 → A6 → Prop) (a1 : A1) (a2 : A2) (a3 : A3) (a4 : A4) (a5 : A5) (a6 : A6), I a1 a2 a3 a4 a5 a6 → (∀ (b1 : A1) (b2 : A2) (b3 : A3) (b4 : A4) (b5 : A5) (b6 : A6), I b1 b2 b3 b4 b5 b6 → μ b1 b2 b3 b4 b5 b6 < μ a1 a2 a3 a4 a5 a6 → bk b1 b2 b3 b4 b5 b6) → B bk a1 a2 a3 a4 a5 a6) (a1 : A1) (a2 : A2) (a3 : A3) (a4 : A4) (a5 : A5) (a6 : A6) (hi : I a1 a2 a3 a4 a5 a6) : ∃ n : Nat, lk6 B n a1 a2 a3 a4 a5 a6 := by
  have key : ∀ (n : Nat) (a1 : A1) (a2 : A2) (a3 : A3) (a4 : A4) (a5 : A5) (a6 : A6), μ a1 a2 a3 a4 a5 a6 < n → I a1 a2 a3 a4 a5 a6 → lk6 B n a1 a2 a3 a4 a5 a6 := by
    intro n
    induction n with
    | zero => intro a1 a2 a3 a4 a5 a6 h1; exact absurd h1 (Nat.not_lt_zero _)
    | succ n ih => intro a1 a2 a3 a4 a5 a6 h1 h2; exact h _ a1 a2 a3 a4 a5 a6 h2 (fun b1 b2 b3 b4 b5 b6 h3 h4 => ih b1 b2 b3 b4 b5 b6 (by omega) h3)
  exact ⟨_, key _ a1 a2 a3 a4 a5 a6 (Nat.lt_succ_self _) hi⟩
def lk7 {A1 A2 A3 A4 A5 A6 A7 : Type} (B : (A1 → A2 → A3 → A4 → A5 → A6 → A7 → Prop) → A1 → A2 → A3 → A4 → A5 → A6 → A7 → Prop) : Nat → A1 → A2 → A3 → A4 → A5 → A6 → A7 → Prop
  | 0 => fun _ _ _ _ _ _ _ => False
  | n + 1 => B (lk7 B n)
theorem lk7_inv {A1 A2 A3 A4 A5 A6 A7 : Type} {B : (A1 → A2 → A3 → A4 → A5 → A6 → A7 → Prop) → A1 → A2 → A3 → A4 → A5 → A6 → A7 → Prop} (I : A1 → A2 → A3 → A4 → A5 → A6 → A7 → Prop) (μ : A1 → A2 → A3 → A4 → A5 → A6 → A7 → Nat) (h : ∀ (bk : A1 → A2 → A3 → A4 → A5 → A6 → A7 → Prop) (a1 : A1) (a2 : A2) (a3 : A3) (a4 : A4) (a5 : A5) (a6 : A6) (a7 : A7), I a1 a2 a3 a4 a5 a6 a7 → (∀ (b1 : A1) (b2 : A2) (b3 : A3) (b4 : A4) (b5 : A5) (b6 : A6) (b7 : A7), I b1 b2 b3 b4 b5 b6 b7 → μ b1 b2 b3 b4 b5 b6 b7 < μ a1 a2 a3 a4 a5 a6 a7 → bk b1 b2 b3 b4 b5 b6 b7) → B bk a1 a2 a3 a4 a5 a6 a7) (a1 : A1) (a2 : A2) (a3 : A3) (a4 : A4) (a5 : A5) (a6 : A6) (a7 : A7) (hi : I a1 a2 a3 a4 a5 a6 a7) : ∃ n : Nat, lk7 B n a1 a2 a3 a4 a5 a6 a7 := by
  have key : ∀ (n : Nat) (a1 : A1) (a2 : A2) (a3 : A3) (a4 : A4) (a5 : A5) (a6 : A6) (a7 : A7), μ a1 a2 a3 a4 a5 a6 a7 < n → I a1 a2 a3 a4 a5 a6 a7 → lk7 B n a1 a2 a3 a4 a5 a6 a7 := by
    intro n
    induction n with
    | zero => intro a1 a2 a3 a4 a5 a6 a7 h1; exact absurd h1 (Nat.not_lt_zero _)
    | succ n ih => intro a1 a2 a3 a4 a5 a6 a7 h1 h2; exact h _ a1 a2 a3 a4 a5 a6 a7 h2 (fun b1 b2 b3 b4 b5 b6 b7 h3 h4 => ih b1 b2 b3 b4 b5 b6 b7 (by omega) h3)
  exact ⟨_, key _ a1 a2 a3 a4 a5 a6 a7 (Nat.lt_succ_self _) hi⟩
def lk8 {A1 A2 A3 A4 A5 A6 A7 A8 : Type} (B : (A1 → A2 → A3 → A4 → A5 → A6 → A7 → A8 → Prop) → A1 → A2 → A3 → A4 → A5 → A6 → A7 → A8 → Prop) : Nat → A1 → A2 → A3 → A4 → A5 → A6 → A7 → A8 → Prop
  | 0 => fun _ _ _ _ _ _ _ _ => False
  | n + 1 => B (lk8 B n)
theorem lk8_inv {A1 A2 A3 A4 A5 A6 A7 A8 : Type} {B : (A1 → A2 → A3 → A4 → A5 → A6 → A7 → A8 → Prop) → A1 → A2 → A3 → A4 → A5 → A6 → A7 → A8 → Prop} (I : A1 → A2 → A3 → A4 → A5 → A6 → A7 → A8 → Prop) (μ : A1 → A2 → A3 → A4 → A5 → A6 → A7 → A8 → Nat) (h : ∀ (bk : A1 → A2 → A3 → A4 → A5 → A6 → A7 → A8 → Prop) (a1 : A1) (a2 : A2) (a3 : A3) (a4 : A4) (a5 : A5) (a6 : A6) (a7 : A7) (a8 : A8), I a1 a2 a3 a4 a5 a6 a7 a8 → (∀ (b1 : A1) (b2 : A2) (b3 : A3) (b4 : A4) (b5 : A5) (b6 : A6) (b7 : A7) (b8 : A8), I b1 b2 b3 b4 b5 b6 b7 b8 → μ b1 b2 b3 b4 b5 b6 b7 b8 < μ a1 a2 a3 a4 a5 a6 a7 a8 → bk b1 b2 b3 b4 b5 b6 b7 b8) → B bk a1 a2 a3 a4 a5 a6 a7 a8) (a1 : A1) (a2 : A2) (a3 : A3) (a4 : A4) (a5 : A5) (a6 : A6) (a7 : A7) (a8 : A8) (hi : I a1 a2 a3 a4 a5 a6 a7 a8) : ∃ n : Nat, lk8 B n a1 a2 a3 a4 a5 a6 a7 a8 := by
  have key : ∀ (n : Nat) (a1 : A1) (a2 : A2) (a3 : A3) (a4 : A4) (a5 : A5) (a6 : A6) (a7 : A7) (a8 : A8), μ a1 a2 a3 a4 a5 a6 a7 a8 < n → I a1 a2 a3 a4 a5 a6 a7 a8 → lk8 B n a1 a2 a3 a4 a5 a6 a7 a8 := by
    intro n
    induction n with
    | zero => intro a1 a2 a3 a4 a5 a6 a7 a8 h1; exact absurd h1 (Nat.not_lt_zero _)
    | succ n ih => intro a1 a2 a3 a4 a5 a6 a7 a8 h1 h2; exact h _ a1 a2 a3 a4 a5 a6 a7 a8 h2 (fun b1 b2 b3 b4 b5 b6 b7 b8 h3 h4 => ih b1 b2 b3 b4 b5 b6 b7 b8 (by omega) h3)
  exact ⟨_, key _ a1 a2 a3 a4 a5 a6 a7 a8 (Nat.lt_succ_self _) hi⟩
def lk9 {A1 A2 A3 A4 A5 A6 A7 A8 A9 : Type} (B : (A1 → A2 → A3 → A4 → A5 → A6 → A7 → A8 → A9 → Prop) → A1 → A2 → A3 → A4 → A5 → A6 → A7 → A8 → A9 → Prop) : Nat → A1 → A2 → A3 → A4 → A5 → A6 → A7 → A8 → A9 → Prop
  | 0 => fun _ _ _ _ _ _ _ _ _ => False
  | n + 1 => B (lk9 B n)
theorem lk9_inv {A1 A2 A3 A4 A5 A6 A7 A8 A9 : Type} {B : (A1 → A2 → A3 → A4 → A5 → A6 → A7 → A8 → A9 → Prop) → A1 → A2 → A3 → A4 → A5 → A6 → A7 → A8 → A9 → Prop} (I : A1 → A2 → A3 → A4 → A5 → A6 → A7 → A8 → A9 → Prop) (μ : A1 → A2 → A3 → A4 → A5 → A6 → A7 → A8 → A9 → Nat) (h : ∀ (bk : A1 → A2 → A3 → A4 → A5 → A6 → A7 → A8 → A9 → Prop) (a1 : A1) (a2 : A2) (a3 : A3) (a4 : A4) (a5 : A5) (a6 : A6) (a7 : A7) (a8 : A8) (a9 : A9), I a1 a2 a3 a4 a5 a6 a7 a8 a9 → (∀ (b1 : A1) (b2 : A2) (b3 : A3) (b4 : A4) (b5 : A5) (b6 : A6) (b7 : A7) (b8 : A8) (b9 : A9), I b1 b2 b3 b4 b5 b6 b7 b8 b9 → μ b1 b2 b3 b4 b5 b6 b7 b8 b9 < μ a1 a2 a3 a4 a5 a6 a7 a8 a9 → bk b1 b2 b3 b4 b5 b6 b7 b8 b9) → B bk a1 a2 a3 a4 a5 a6 a7 a8 a9) (a1 : A1) (a2 : A2) (a3 : A3) (a4 : A4) (a5 : A5) (a6 : A6) (a7 : A7) (a8 : A8) (a9 : A9) (hi : I a1 a2 a3 a4 a5 a6 a7 a8 a9) : ∃ n : Nat, lk9 B n a1 a2 a3 a4 a5 a6 a7 a8 a9 := by
  have key : ∀ (n : Nat) (a1 : A1) (a2 : A2) (a3 : A3) (a4 : A4) (a5 : A5) (a6 : A6) (a7 : A7) (a8 : A8) (a9 : A9), μ a1 a2 a3 a4 a5 a6 a7 a8 a9 < n → I a1 a2 a3 a4 a5 a6 a7 a8 a9 → lk9 B n a1 a2 a3 a4 a5 a6 a7 a8 a9 := by
    intro n
    induction n with
    | zero => intro a1 a2 a3 a4 a5 a6 a7 a8 a9 h1; exact absurd h1 (Nat.not_lt_zero _)
    | succ n ih => intro a1 a2 a3 a4 a5 a6 a7 a8 a9 h1 h2; exact h _ a1 a2 a3 a4 a5 a6 a7 a8 a9 h2 (fun b1 b2 b3 b4 b5 b6 b7 b8 b9 h3 h4 => ih b1 b2 b3 b4 b5 b6 b7 b8 b9 (by omega) h3)
  exact ⟨_, key _ a1 a2 a3 a4 a5 a6 a7 a8 a9 (Nat.lt_succ_self _) hi⟩
def lk10 {A1 A2 A3 A4 A5 A6 A7 A8 A9 A10 : Type} (B : (A1 → A2 → A3 → A4 → A5 → A6 → A7 → A8 → A9 → A10 → Prop) → A1 → A2 → A3 → A4 → A5 → A6 → A7 → A8 → A9 → A10 → Prop) : Nat → A1 → A2 → A3 → A4 → A5 → A6 → A7 → A8 → A9 → A10 → Prop
  | 0 => fun _ _ _ _ _ _ _ _ _ _ => False
  | n + 1 => B (lk10 B n)
theorem lk10_inv {A1 A2 A3 A4 A5 A6 A7 A8 A9 A10 : Type} {B : (A1 → A2 → A3 → A4 → A5 → A6 → A7 → A8 → A9 → A10 → Prop) → A1 → A2 → A3 → A4 → A5 → A6 → A7 → A8 → A9 → A10 → Prop} (I : A1 → A2 → A3 → A4 → A5 → A6 → A7 → A8 → A9 → A10 → Prop) (μ : A1 → A2 → A3 → A4 → A5 → A6 → A7 → A8 → A9 → A10 → Nat) (h : ∀ (bk : A1 → A2 → A3 → A4 → A5 → A6 → A7 → A8 → A9 → A10 → Prop) (a1 : A1) (a2 : A2) (a3 : A3) (a4 : A4) (a5 : A5) (a6 : A6) (a7 : A7) (a8 : A8) (a9 : A9) (a10 : A10), I a1 a2 a3 a4 a5 a6 a7 a8 a9 a10 → (∀ (b1 : A1) (b2 : A2) (b3 : A3) (b4 : A4) (b5 : A5) (b6 : A6) (b7 : A7) (b8 : A8) (b9 : A9) (b10 : A10), I b1 b2 b3 b4 b5 b6 b7 b8 b9 b10 → μ b1 b2 b3 b4 b5 b6 b7 b8 b9 b10 < μ a1 a2 a3 a4 a5 a6 a7 a8 a9 a10 → bk b1 b2 b3 b4 b5 b6 b7 b8 b9 b10) → B bk a1 a2 a3 a4 a5 a6 a7 a8 a9 a10) (a1 : A1) (a2 : A2) (a3 : A3) (a4 : A4) (a5 : A5) (a6 : A6) (a7 : A7) (a8 : A8) (a9 : A9) (a10 : A10) (hi : I a1 a2 a3 a4 a5 a6 a7 a8 a9 a10) : ∃ n : Nat, lk10 B n a1 a2 a3 a4 a5 a6 a7 a8 a9 a10 := by
  have key : ∀ (n : Nat) (a1 : A1) (a2 : A2) (a3 : A3) (a4 : A4) (a5 : A5) (a6 : A6) (a7 : A7) (a8 : A8) (a9 : A9) (a10 : A10), μ a1 a2 a3 a4 a5 a6 a7 a8 a9 a10 < n → I a1 a2 a3 a4 a5 a6 a7 a8 a9 a10 → lk10 B n a1 a2 a3 a4 a5 a6 a7 a8 a9 a10 := by
    intro n
    induction n with
    | zero => intro a1 a2 a3 a4 a5 a6 a7 a8 a9 a10 h1; exact absurd h1 (Nat.not_lt_zero _)
    | succ n ih => intro a1 a2 a3 a4 a5 a6 a7 a8 a9 a10 h1 h2; exact h _ a1 a2 a3 a4 a5 a6 a7 a8 a9 a10 h2 (fun b1 b2 b3 b4 b5 b6 b7 b8 b9 b10 h3 h4 => ih b1 b2 b3 b4 b5 b6 b7 b8 b9 b10 (by omega) h3)
  exact ⟨_, key _ a1 a2 a3 a4 a5 a6 a7 a8 a9 a10 (Nat.lt_succ_self _) hi⟩
