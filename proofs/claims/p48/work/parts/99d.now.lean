/-! PURE PART, 99d: a loop that ends at once -/
theorem lp_now {σ τ : Type} {f : σ → Option (σ ⊕ τ)} {F : Nat} {s : σ} {t : τ} (hF : 0 < F) (h : f s = some (.inr t)) : lp f F s = some t := by
  obtain ⟨F, rfl⟩ : ∃ G, F = G + 1 := ⟨F - 1, by omega⟩
  exact lp_end h
