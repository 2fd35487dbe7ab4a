/-! SPEC8: hints told on the tape, statements, the text -/
def hnF (le : Nat → Nat) (z n : Nat) : Nat → Nat → Nat → Nat × Nat × Nat → Bool × Nat × Nat × Nat × Nat
  | 0, _, s, p => (true, s, p)
  | f + 1, i, s, p =>
    if n < i ∨ (¬ i = 0 ∧ ¬ p.2.2 = 2) then (true, s, p)
    else if numP le p (nI 0) (nI (n - 1)) = -1 then (false, s, p)
    else if s.testBit (numP le p (nI 0) (nI (n - 1))).toNatClampNeg then (false, s, p)
    else hnF le z n f (i + 1) (s ||| 2 ^ (numP le p (nI 0) (nI (n - 1))).toNatClampNeg) (stp le z p.2.1)
theorem hnF_0 {le : Nat → Nat} {z n f i s : Nat} {p : Nat × Nat × Nat} (h : n < i ∨ (¬ i = 0 ∧ ¬ p.2.2 = 2)) : hnF le z n f i s p = (true, s, p) := by
  cases f with
  | zero => rfl
  | succ f => rw [hnF, if_pos h]
theorem hnF_n {le : Nat → Nat} {z n f i s : Nat} {p : Nat × Nat × Nat} (hf : 0 < f) (h : ¬ (n < i ∨ (¬ i = 0 ∧ ¬ p.2.2 = 2))) (h1 : numP le p (nI 0) (nI (n - 1)) = -1) : hnF le z n f i s p = (false, s, p) := by
  cases f with
  | zero => omega
  | succ f => rw [hnF, if_neg h, if_pos h1]
theorem hnF_b {le : Nat → Nat} {z n f i s j : Nat} {p : Nat × Nat × Nat} (hf : 0 < f) (h : ¬ (n < i ∨ (¬ i = 0 ∧ ¬ p.2.2 = 2))) (h1 : numP le p (nI 0) (nI (n - 1)) = nI j) (hj : j < 2 ^ 31) (h2 : s.testBit j = true) : hnF le z n f i s p = (false, s, p) := by
  cases f with
  | zero => omega
  | succ f => rw [hnF, if_neg h, if_neg (m1_ni h1 hj), cl_at h1 hj, if_pos h2]
theorem hnF_s {le : Nat → Nat} {z n f i s j : Nat} {p : Nat × Nat × Nat} (hf : 0 < f) (h : ¬ (n < i ∨ (¬ i = 0 ∧ ¬ p.2.2 = 2))) (h1 : numP le p (nI 0) (nI (n - 1)) = nI j) (hj : j < 2 ^ 31) (h2 : s.testBit j = false) : hnF le z n f i s p = hnF le z n (f - 1) (i + 1) (s ||| 2 ^ j) (stp le z p.2.1) := by
  cases f with
  | zero => omega
  | succ f => rw [hnF, if_neg h, if_neg (m1_ni h1 hj), cl_at h1 hj, if_neg (by rw [h2]; decide)]; rfl
abbrev hnR (le : Nat → Nat) (z : Nat) (S : Sch) (e : Nat) : Bool × Nat × Nat × Nat × Nat := hnF le z (sN S) (sN S + 2) 0 0 (stp le z e)
def rdH (le : Nat → Nat) (z : Nat) (S : Sch) (e : Nat) : TkS := ((hnR le z S e).1, if (hnR le z S e).1 then stA S (sA S &&& (hnR le z S e).2.1) else S, (hnR le z S e).2.2)
theorem rdH_t {le : Nat → Nat} {z : Nat} {S : Sch} {e s : Nat} {p : Nat × Nat × Nat} (h : hnR le z S e = (true, s, p)) : rdH le z S e = (true, stA S (sA S &&& s), p) := by rw [rdH, h]; rfl
theorem rdH_f {le : Nat → Nat} {z : Nat} {S : Sch} {e s : Nat} {p : Nat × Nat × Nat} (h : hnR le z S e = (false, s, p)) : rdH le z S e = (false, S, p) := by rw [rdH, h]; rfl
def rdX (le : Nat → Nat) (z : Nat) (S : Sch) (p : Nat × Nat × Nat) : TkS :=
  if wrd le p.1 p.2.1 p.2.2 0 then rdT le z S p.2.1
  else if wrd le p.1 p.2.1 p.2.2 1 then rdN le z S p.2.1
  else if wrd le p.1 p.2.1 p.2.2 2 then rdW le z S p.2.1
  else if wrd le p.1 p.2.1 p.2.2 3 then rdS le z S p.2.1
  else if wrd le p.1 p.2.1 p.2.2 4 then rdP le z S p
  else if wrd le p.1 p.2.1 p.2.2 5 then rdH le z S p.2.1
  else (false, S, p)
