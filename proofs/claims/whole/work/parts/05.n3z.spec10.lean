/-! SPEC10: rows of weights -/
def zer9 : Nat → Nat := fun _ => 0
def lwF (w : Nat → Nat) : Nat → Int32
  | 0 => -1
  | k + 1 => if w k = 0 then lwF w k else nI k
theorem lwF_at {w : Nat → Nat} : ∀ {n : Nat}, ¬ lwF w n = -1 → ∃ j, j < n ∧ lwF w n = nI j ∧ ¬ w j = 0
  | 0, h => absurd rfl h
  | n + 1, h => by
    unfold lwF at h ⊢
    split at h
    · rename_i q
      rw [if_pos q]
      obtain ⟨j, h1, h2, h3⟩ := lwF_at h
      exact ⟨j, by omega, h2, h3⟩
    · rename_i q
      rw [if_neg q]
      exact ⟨n, by omega, rfl, q⟩
abbrev paW (S : Sch) (t : Nat) : Nat → Nat := updN zer9 (sA S).log2 t
/-- the row moved: from the last weighed place one to the last allowed one before it, the rest to the last of all -/
def mvW (S : Sch) (i j : Nat) : Nat → Nat := updN (updN (updN (sW S) i 0) j (updN (sW S) i 0 j + 1)) (sA S).log2 (sW S i - 1)
def mvI (S : Sch) : Nat := (lwF (sW S) (sN S)).toNatClampNeg
def mvB (S : Sch) : Bool := decide (¬ lwF (sW S) (sN S) = -1) && decide (¬ sA S &&& (2 ^ mvI S - 1) = 0)
def mvT (S : Sch) : Nat → Nat := if mvB S then mvW S (mvI S) (sA S &&& (2 ^ mvI S - 1)).log2 else sW S
