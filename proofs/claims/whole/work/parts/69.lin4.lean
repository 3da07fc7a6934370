theorem inX7 : ∀ w ∈ wsX70, w ∈ lw_tbl := by decide +kernel
theorem inX8 : ∀ w ∈ wsX80, w ∈ lw_tbl := by decide +kernel
theorem inX2 : ∀ w ∈ wsX20, w ∈ lw_tbl := by decide +kernel
theorem inX0 : ∀ w ∈ wsX00, w ∈ lw_tbl := by decide +kernel
theorem inX3 : ∀ w ∈ wsX30, w ∈ lw_tbl := by decide +kernel
theorem inX1 : ∀ w ∈ wsX10, w ∈ lw_tbl := by decide +kernel
theorem inX4 : ∀ w ∈ wsX40, w ∈ lw_tbl := by decide +kernel
theorem inX6 : ∀ w ∈ wsX60, w ∈ lw_tbl := by decide +kernel
theorem fa_app {a b : List Cond} {P : Cond → Prop} (h : ∀ w ∈ a, P w) (g : ∀ w ∈ b, P w) : ∀ w ∈ a ++ b, P w := fun w q => (List.mem_append.mp q).elim (h w) (g w)
theorem wsL_law_in : ∀ w ∈ wsL_law, w ∈ lw_tbl := (fa_app (fa_app (fa_app (fa_app (fa_app (fa_app (fa_app (fa_app (fa_app (fa_app lin_r1 (fa_app lin_r2 (fa_app lin_r3 (fa_app lin_r4 (fa_app lin_r5 (fa_app lin_r6 (fa_app lin_r7 (fa_app lin_r8 (fa_app lin_r9 (fa_app lin_r10 (fa_app lin_r11 (fa_app lin_r12 (fa_app lin_r13 (fa_app lin_r14 (fa_app lin_r15 (fa_app lin_r16 (fa_app lin_r17 (fa_app lin_r18 (fa_app lin_r19 (fa_app lin_r20 (fa_app lin_r21 (fa_app lin_r22 (fa_app lin_r23 lin_r24))))))))))))))))))))))) inX7) inX8) inX2) inX0) inX3) inX1) inX4) inX6) (fun _ h => absurd h List.not_mem_nil))
