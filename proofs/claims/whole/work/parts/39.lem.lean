theorem chT_lt : ∀ x, x < 24 → chT x < 1000 := by decide +kernel
