/-- the lowest type that isn't there yet is added, j times -/
def nxS : Nat → Nat → Nat
  | 0, s => s
  | j + 1, s => nxS j (s ||| (s + 1))
theorem nx_1 : ∀ s, s < 255 → s ||| (s + 1) < 256 ∧ popc 31 (s ||| (s + 1)) = popc 31 s + 1 ∧ s ||| (s ||| (s + 1)) = s ||| (s + 1) := by decide +kernel
theorem nx_255 : 255 ||| (255 + 1) = 511 := by decide
theorem pc_p8 : popc 31 255 = 8 := by decide +kernel
theorem nx_min : ∀ b, b < 256 → ∀ e, e < 256 → b ||| e = e → popc 31 b ≤ popc 31 e ∧ nxS (popc 31 e - popc 31 b) b ≤ e := by decide +kernel
theorem sub_iff : ∀ a, a < 256 → ∀ e, e < 256 → (nI a &&& (nI e ^^^ -1) = 0 ↔ a ||| e = e) := by decide +kernel
theorem pc_or : ∀ a, a < 256 → ∀ e, e < 256 → a ||| e = e → e &&& a = a := by decide +kernel
