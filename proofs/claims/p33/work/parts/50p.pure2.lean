/-! pure rows more -/
theorem zHere.at {σ : zS} {x : Int32} (h : zHere σ x) : x = nI (pn x) ∧ 1 ≤ pn x ∧ pn x < 41 := by
  have h1 := zin40 (Int32.not_le.mpr h.1) (Int32.not_lt.mpr h.2.1)
  refine ⟨h1.1, ?_, h1.2⟩
  have h0 : pn x ≠ 0 := fun q => by
    have := h1.1
    rw [q] at this
    have h2 := h.1
    rw [this] at h2
    exact absurd h2 (by decide)
  omega
