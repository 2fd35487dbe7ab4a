/-! PURE2: who is away -/
theorem aw_eq {k a : Nat} (hk : k < 6) (ha : a ≤ 6) : nI k = awI a ↔ k = a := by
  revert k a
  have h : ∀ k, k < 6 → ∀ a, a < 7 → (nI k = awI a ↔ k = a) := by decide
  intro k a hk ha
  exact h k hk a (by omega)
