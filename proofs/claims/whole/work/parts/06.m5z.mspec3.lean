/-! MSPEC3: what-ifs -/
theorem sp_c (S : Sch) : ∀ k, spM S (k + 1) = mwI S (spF S (k + 1))
  | 0 => by rw [spM_1, spF_1]
  | k + 1 => by
    have ih := sp_c S k
    by_cases h : spM S (k + 1) < mwI S (k + 1)
    · rw [spM, if_pos h, spF, if_pos h]
    · rw [spM, if_neg h, spF, if_neg h, ih]
theorem sp_k (S : Sch) {k : Nat} (h : 1 ≤ k) : spM S k = mwI S (spF S k) := by
  obtain ⟨j, rfl⟩ : ∃ j, k = j + 1 := ⟨k - 1, by omega⟩
  exact sp_c S j
theorem spF_lt (S : Sch) : ∀ k, spF S (k + 1) ≤ k
  | 0 => by rw [spF_1]; exact Nat.le_refl _
  | k + 1 => by
    have := spF_lt S k
    rw [spF]; split <;> omega
theorem spF_k (S : Sch) {k : Nat} (h : 1 ≤ k) : spF S k < k := by
  obtain ⟨j, rfl⟩ : ∃ j, k = j + 1 := ⟨k - 1, by omega⟩
  have := spF_lt S j
  omega
theorem dif_00 (a : Nat) : dif 0 a = 0 := Nat.le_zero.mp (dif_le 0 a)
theorem hMI_n {S : Sch} {k : Nat} (h : ¬ dif k (sA S) = 0) : hMI S (k + 1) = hMI S k := by
  have h0 : ¬ k = 0 := fun e => h (by rw [e]; exact dif_00 _)
  rw [hMI, hMI, if_neg h0, if_neg (by omega), hM_n (fun q => h q.2.1)]
theorem hMI_1 (S : Sch) : nI (hC S 0) = hMI S 1 := by
  rw [hMI, if_neg (by decide), (h_1 S).2, hC_0]
