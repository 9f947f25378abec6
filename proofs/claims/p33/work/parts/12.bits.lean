theorem bt_ts : ∀ k, k < 256 → ∀ i, i < 8 → ((nI k >>> (nI i &&& 31)) &&& 1 = 1 ↔ k.testBit i = true) := by decide +kernel
theorem bt_sh : ∀ i, i < 8 → (1 : Int32) <<< (nI i &&& 31) = nI (2 ^ i) := by decide +kernel
theorem bt_or : ∀ a, a < 256 → ∀ b, b < 256 → nI a ||| nI b = nI (a ||| b) := by decide +kernel
theorem bt_an : ∀ k, k < 256 → ∀ o, o < 256 → nI k &&& (nI o ^^^ (-1)) = nI (k &&& (255 - o)) := by decide +kernel
theorem bt_lt : ∀ k, k < 256 → ∀ o, o < 256 → o ≠ 0 → o &&& k = o → k &&& (255 - o) < k := by decide +kernel
theorem bt_p2 : ∀ k, k < 256 → ∀ i, i < 8 → k.testBit i = true → 2 ^ i &&& k = 2 ^ i := by decide +kernel
theorem bt_in : ∀ p, p ≤ 8 → (1 : Int32) <<< (nI p &&& 31) - 1 = nI (2 ^ p - 1) ∧ 2 ^ p - 1 < 256 := by decide +kernel
theorem bt_255 : ∀ k, k < 256 → k &&& (255 - 0) = k := by decide +kernel
