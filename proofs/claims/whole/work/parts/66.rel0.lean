/-! THE TWO are related at first -/
theorem Rel_0 {x : Mm} (h : xC0ok x) : Rel x xM0 := by
  obtain ⟨xh, rfl, hS, hW⟩ := h
  have e2 : xC xh 2 = xh 2 := xC_h (LH_ok _ (by omega))
  have e3 : xC xh 3 = xH0 3 := by rw [xC_h (LH_ok _ (by omega))]; exact hS.1 3 (by decide) (by decide) (by decide) (by decide) (by decide)
  have et : ∀ c, 32 ≤ c → c < 56 → xC xh c = xH0 c := fun c h1 h2 => by rw [xC_h (LH_ok _ (by omega))]; exact hS.1 c (by omega) (by omega) (by omega) (by omega) (by omega)
  have e21 : xC xh 2 1 = xH0 2 1 := by rw [e2]; exact hS.2 1 (by decide)
  have hcf : cft (xC xh) = cft xH0 := cft_c (fun t ht => ⟨by show (0 : Int) ≤ (t : Int); omega, by show (t : Int) < 12; omega⟩) (by decide) e21 e3 et
  refine ⟨⟨⟨rfl, by decide, by decide⟩, ⟨rfl, by decide, by decide⟩, ⟨rfl, by decide, by decide⟩⟩, fun p hp => ⟨⟨?_, by show (0 : Int) ≤ 0; omega, by show (0 : Int) ≤ 20; omega⟩, fun _ => rfl, fun q => ?_⟩, ⟨⟨?_, by decide, by decide⟩, fun t ht => ?_, fun t u ht hu q => ?_, fun t ht => ?_⟩, ?_, fun k hk => ⟨?_, Or.inl rfl, fun q => ?_⟩, Or.inl rfl⟩
  · show _ = (0 : Int)
    refine xC_0 ?_ 2
    rcases (show p = 0 ∨ p = 1 ∨ p = 2 ∨ p = 3 by omega) with rfl | rfl | rfl | rfl <;> rfl
  · have : (p : Int) < 0 := q
    omega
  · rw [e21]; rfl
  · rw [e3]
    exact ⟨by show (0 : Int) ≤ (t : Int); omega, by show (t : Int) < 12; omega⟩
  · rw [e3] at q
    have : (t : Int) = (u : Int) := q
    omega
  · have : (t : Int) < 0 := ht
    omega
  · rw [hcf]
    exact WD_c hW (by rw [e2]) (xC_h (LH_ok _ (by omega))) (xC_h (LH_ok _ (by omega))) (xC_h (LH_ok _ (by omega))) (xC_h (LH_ok _ (by omega)))
  · exact xC_0 rfl k
  · have : (0 : Int) = 1 := q
    omega
