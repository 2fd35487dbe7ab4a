/-! SPEC7: statements of a school's text -/
abbrev numP (le : Nat → Nat) (p : Nat × Nat × Nat) (lo hi : Int32) : Int32 := numH le p.1 p.2.1 p.2.2 lo hi
theorem numH_at {le : Nat → Nat} {s e k a b : Nat} (ha : a < 2 ^ 31) (hb : b < 2 ^ 31) (h : ¬ numH le s e k (nI a) (nI b) = -1) : ∃ j, (a ≤ j ∧ j ≤ b) ∧ numH le s e k (nI a) (nI b) = nI j := by
  unfold numH at h ⊢
  split at h
  · rename_i h1
    rw [if_pos h1]
    split at h
    · exact absurd rfl h
    · rename_i h2
      rw [if_neg h2]
      split at h
      · rename_i h3
        rw [if_pos h3]
        obtain ⟨j, h4, h5⟩ := wi_at ha hb h3
        exact ⟨j, h4, h5⟩
      · exact absurd rfl h
  · exact absurd rfl h
theorem nmS_le {z : Nat} (le : Nat → Nat) (lo hi : Int32) {p : Nat × Nat × Nat} (h : p.1 ≤ p.2.1 ∧ p.2.1 ≤ z ∧ p.2.2 ≤ 4) : (nmS le z p lo hi).1 ≤ (nmS le z p lo hi).2.1 ∧ (nmS le z p lo hi).2.1 ≤ z ∧ (nmS le z p lo hi).2.2 ≤ 4 := by
  unfold nmS
  split
  · exact h
  · have := st_le (le := le) (z := z) (e := p.2.1) h.2.1
    exact ⟨this.1, this.2, tkK_le _ _ _⟩
abbrev bgT (S : Sch) (n : Nat) : Sch := (n, 2 ^ n - 1, one9, sD S, sP S, sK S, sO S, sG S, sT S, sF S, sX S)
abbrev adS (S : Sch) (k u : Nat) : Sch := (sN S, sA S, sW S, sD S, sP S + 1, updN (sK S) (sP S) k, updN (sO S) (sP S) u, sG S, sT S, sF S, sX S)
abbrev TkS : Type := Bool × Sch × Nat × Nat × Nat
def rdT (le : Nat → Nat) (z : Nat) (S : Sch) (e : Nat) : TkS :=
  if numP le (stp le z e) (nI 1) (nI 9) = -1 then (false, S, nmS le z (stp le z e) (nI 1) (nI 9)) else (true, bgT S (numP le (stp le z e) (nI 1) (nI 9)).toNatClampNeg, nmS le z (stp le z e) (nI 1) (nI 9))
def rdN (le : Nat → Nat) (z : Nat) (S : Sch) (e : Nat) : TkS :=
  if numP le (stp le z e) (nI 0) (nI (sN S - 1)) = -1 then (false, S, nmS le z (stp le z e) (nI 0) (nI (sN S - 1))) else (true, stA S (dif (sA S) (2 ^ (numP le (stp le z e) (nI 0) (nI (sN S - 1))).toNatClampNeg)), nmS le z (stp le z e) (nI 0) (nI (sN S - 1)))
def rdS (le : Nat → Nat) (z : Nat) (S : Sch) (e : Nat) : TkS :=
  if numP le (stp le z e) (nI 0) (nI 9) = -1 then (false, S, nmS le z (stp le z e) (nI 0) (nI 9)) else (true, stD S (numP le (stp le z e) (nI 0) (nI 9)).toNatClampNeg, nmS le z (stp le z e) (nI 0) (nI 9))
def rdW (le : Nat → Nat) (z : Nat) (S : Sch) (e : Nat) : TkS :=
  if numP le (stp le z e) (nI 0) (nI (sN S - 1)) = -1 then (false, S, nmS le z (stp le z e) (nI 0) (nI (sN S - 1)))
  else if numP le (nmS le z (stp le z e) (nI 0) (nI (sN S - 1))) (nI 0) (nI 9) = -1 then (false, S, nmS le z (nmS le z (stp le z e) (nI 0) (nI (sN S - 1))) (nI 0) (nI 9))
  else (true, stW S (updN (sW S) (numP le (stp le z e) (nI 0) (nI (sN S - 1))).toNatClampNeg (numP le (nmS le z (stp le z e) (nI 0) (nI (sN S - 1))) (nI 0) (nI 9)).toNatClampNeg), nmS le z (nmS le z (stp le z e) (nI 0) (nI (sN S - 1))) (nI 0) (nI 9))
def rdP (le : Nat → Nat) (z : Nat) (S : Sch) (p : Nat × Nat × Nat) : TkS :=
  if 6 ≤ sP S then (false, S, p)
  else if numP le (stp le z p.2.1) (nI 0) (nI 5) = -1 then (false, S, nmS le z (stp le z p.2.1) (nI 0) (nI 5))
  else if numP le (nmS le z (stp le z p.2.1) (nI 0) (nI 5)) (nI 0) (nI 9) = -1 then (false, S, nmS le z (nmS le z (stp le z p.2.1) (nI 0) (nI 5)) (nI 0) (nI 9))
  else (true, adS S (numP le (stp le z p.2.1) (nI 0) (nI 5)).toNatClampNeg (numP le (nmS le z (stp le z p.2.1) (nI 0) (nI 5)) (nI 0) (nI 9)).toNatClampNeg, nmS le z (nmS le z (stp le z p.2.1) (nI 0) (nI 5)) (nI 0) (nI 9))
abbrev tsW (g : gT) (a q : Nat) (z : Nat) (le : Nat → Nat) (b rw rk rr : Nat) (R : Sch × Nat × Nat × Nat) : va_W := tpW g a q z le R.2.1 R.2.2.1 R.2.2.2 ++ schW g b rw rk rr R.1
theorem m1_ni {x : Int32} {j : Nat} (h : x = nI j) (hj : j < 2 ^ 31) : ¬ x = -1 := fun e => m1_ne hj (e.symm.trans h)
theorem cl_at {x : Int32} {j : Nat} (h : x = nI j) (hj : j < 2 ^ 31) : x.toNatClampNeg = j := by rw [h, nI_clamp hj]
theorem rdT_n {le : Nat → Nat} {z : Nat} {S : Sch} {e : Nat} (h : numP le (stp le z e) (nI 1) (nI 9) = -1) : rdT le z S e = (false, S, nmS le z (stp le z e) (nI 1) (nI 9)) := by rw [rdT, if_pos h]
theorem rdT_y {le : Nat → Nat} {z : Nat} {S : Sch} {e j : Nat} (h : numP le (stp le z e) (nI 1) (nI 9) = nI j) (hj : j < 2 ^ 31) : rdT le z S e = (true, bgT S j, nmS le z (stp le z e) (nI 1) (nI 9)) := by rw [rdT, if_neg (m1_ni h hj), cl_at h hj]
theorem rdN_n {le : Nat → Nat} {z : Nat} {S : Sch} {e : Nat} (h : numP le (stp le z e) (nI 0) (nI (sN S - 1)) = -1) : rdN le z S e = (false, S, nmS le z (stp le z e) (nI 0) (nI (sN S - 1))) := by rw [rdN, if_pos h]
theorem rdN_y {le : Nat → Nat} {z : Nat} {S : Sch} {e j : Nat} (h : numP le (stp le z e) (nI 0) (nI (sN S - 1)) = nI j) (hj : j < 2 ^ 31) : rdN le z S e = (true, stA S (dif (sA S) (2 ^ j)), nmS le z (stp le z e) (nI 0) (nI (sN S - 1))) := by rw [rdN, if_neg (m1_ni h hj), cl_at h hj]
theorem rdS_n {le : Nat → Nat} {z : Nat} {S : Sch} {e : Nat} (h : numP le (stp le z e) (nI 0) (nI 9) = -1) : rdS le z S e = (false, S, nmS le z (stp le z e) (nI 0) (nI 9)) := by rw [rdS, if_pos h]
theorem rdS_y {le : Nat → Nat} {z : Nat} {S : Sch} {e j : Nat} (h : numP le (stp le z e) (nI 0) (nI 9) = nI j) (hj : j < 2 ^ 31) : rdS le z S e = (true, stD S j, nmS le z (stp le z e) (nI 0) (nI 9)) := by rw [rdS, if_neg (m1_ni h hj), cl_at h hj]
theorem rdW_n {le : Nat → Nat} {z : Nat} {S : Sch} {e : Nat} (h : numP le (stp le z e) (nI 0) (nI (sN S - 1)) = -1) : rdW le z S e = (false, S, nmS le z (stp le z e) (nI 0) (nI (sN S - 1))) := by rw [rdW, if_pos h]
theorem rdW_m {le : Nat → Nat} {z : Nat} {S : Sch} {e j : Nat} (h : numP le (stp le z e) (nI 0) (nI (sN S - 1)) = nI j) (hj : j < 2 ^ 31) (h2 : numP le (nmS le z (stp le z e) (nI 0) (nI (sN S - 1))) (nI 0) (nI 9) = -1) : rdW le z S e = (false, S, nmS le z (nmS le z (stp le z e) (nI 0) (nI (sN S - 1))) (nI 0) (nI 9)) := by rw [rdW, if_neg (m1_ni h hj), if_pos h2]
theorem rdW_y {le : Nat → Nat} {z : Nat} {S : Sch} {e j i : Nat} (h : numP le (stp le z e) (nI 0) (nI (sN S - 1)) = nI j) (hj : j < 2 ^ 31) (h2 : numP le (nmS le z (stp le z e) (nI 0) (nI (sN S - 1))) (nI 0) (nI 9) = nI i) (hi : i < 2 ^ 31) : rdW le z S e = (true, stW S (updN (sW S) j i), nmS le z (nmS le z (stp le z e) (nI 0) (nI (sN S - 1))) (nI 0) (nI 9)) := by rw [rdW, if_neg (m1_ni h hj), if_neg (m1_ni h2 hi), cl_at h hj, cl_at h2 hi]
theorem rdP_0 {le : Nat → Nat} {z : Nat} {S : Sch} {p : Nat × Nat × Nat} (h : 6 ≤ sP S) : rdP le z S p = (false, S, p) := by rw [rdP, if_pos h]
theorem rdP_n {le : Nat → Nat} {z : Nat} {S : Sch} {p : Nat × Nat × Nat} (h0 : sP S < 6) (h : numP le (stp le z p.2.1) (nI 0) (nI 5) = -1) : rdP le z S p = (false, S, nmS le z (stp le z p.2.1) (nI 0) (nI 5)) := by rw [rdP, if_neg (by omega), if_pos h]
theorem rdP_m {le : Nat → Nat} {z : Nat} {S : Sch} {p : Nat × Nat × Nat} {j : Nat} (h0 : sP S < 6) (h : numP le (stp le z p.2.1) (nI 0) (nI 5) = nI j) (hj : j < 2 ^ 31) (h2 : numP le (nmS le z (stp le z p.2.1) (nI 0) (nI 5)) (nI 0) (nI 9) = -1) : rdP le z S p = (false, S, nmS le z (nmS le z (stp le z p.2.1) (nI 0) (nI 5)) (nI 0) (nI 9)) := by rw [rdP, if_neg (by omega), if_neg (m1_ni h hj), if_pos h2]
theorem rdP_y {le : Nat → Nat} {z : Nat} {S : Sch} {p : Nat × Nat × Nat} {j i : Nat} (h0 : sP S < 6) (h : numP le (stp le z p.2.1) (nI 0) (nI 5) = nI j) (hj : j < 2 ^ 31) (h2 : numP le (nmS le z (stp le z p.2.1) (nI 0) (nI 5)) (nI 0) (nI 9) = nI i) (hi : i < 2 ^ 31) : rdP le z S p = (true, adS S j i, nmS le z (nmS le z (stp le z p.2.1) (nI 0) (nI 5)) (nI 0) (nI 9)) := by rw [rdP, if_neg (by omega), if_neg (m1_ni h hj), if_neg (m1_ni h2 hi), cl_at h hj, cl_at h2 hi]
