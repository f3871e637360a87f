/-! sets within sets -/
theorem sb_iff : ∀ s, s < 256 → ∀ m, m < 256 → (sbB s m = true ↔ s &&& m = s) := by decide +kernel
