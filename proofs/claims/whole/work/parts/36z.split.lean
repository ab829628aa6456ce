set_option maxRecDepth 100000 in
theorem zsplit : ∀ S, S < 256 → ∀ Y, Y < 256 → (S &&& Y) + z_no S Y = S := by decide +kernel
