theorem tell_all : ∀ d, d < 64 → ∀ j, j < 6 → ((nI d ||| nI (2 ^ j)) = (if (nI d / nI (2 ^ j) - nI d / nI (2 ^ j) / 2 * 2) = 1 then nI d else nI d + nI (2 ^ j))) := by decide +kernel
theorem tell_lt : ∀ d, d < 64 → ∀ j, j < 6 → d ||| 2 ^ j < 64 := by decide +kernel
