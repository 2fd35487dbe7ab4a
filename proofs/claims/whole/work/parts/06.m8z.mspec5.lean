/-! MSPEC5: terms -/
theorem bcn_z : ∀ x, x < 512 → ((bcn x = 0) ↔ (x = 0)) := by decide +kernel
theorem pick_in {S : Sch} {r k : Nat} (hk : k ≤ sN S) (hq : wsum (sW S) (sA S) k ≤ r) (hr : r < wsum (sW S) (sA S) (sN S)) : k < sN S := by
  refine Nat.lt_of_le_of_ne hk (fun e => ?_)
  rw [e] at hq
  omega
theorem trm_0 {S : Sch} (h : whoE S 6 (pkS S) = 0) : trmS S = (sN S, sA S, sW S, sD S, sP S, sK S, sO S, nxt (sG S), sT S + nI 1, sF S + (nI (sP S) - nI (bcn (whoE S 6 (pkS S)))), sX S) := by
  unfold trmS
  rw [if_pos (show bcn (whoE S 6 (pkS S)) = 0 by rw [h]; decide)]
theorem trm_1 {S : Sch} (hS : sOk S) (h : ¬ whoE S 6 (pkS S) = 0) : trmS S = (sN S, sA S, sW S, sD S, sP S, sK S, sO S, nxt (sG S), sT S + nI 1, sF S + (nI (sP S) - nI (bcn (whoE S 6 (pkS S)))), sX S + nI 1) := by
  have q := whoE_64 hS 6 (pkS S)
  unfold trmS
  rw [if_neg (fun z => h ((bcn_z _ (by omega)).mp z))]
