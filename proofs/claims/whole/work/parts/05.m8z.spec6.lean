/-! SPEC6: the tape -/
def tokK (c : Nat) : Nat := if 97 ≤ c ∧ c ≤ 122 then 1 else if 48 ≤ c ∧ c ≤ 57 then 2 else if c = 59 then 3 else 4
def scF (P : Nat → Bool) (z : Nat) : Nat → Nat → Nat
  | 0, e => e
  | f + 1, e => if decide (e < z) && P e then scF P z f (e + 1) else e
/-- the first place from e on, at most z, at which P fails -/
def scn (P : Nat → Bool) (z e : Nat) : Nat := scF P z (z - e) e
theorem scn_s {P : Nat → Bool} {z e : Nat} (h : e < z) (hp : P e = true) : scn P z e = scn P z (e + 1) := by
  unfold scn
  rw [show z - e = (z - (e + 1)) + 1 by omega, scF, decide_eq_true h, hp]; rfl
theorem scn_z {P : Nat → Bool} {z e : Nat} (h : z ≤ e) : scn P z e = e := by
  unfold scn
  rw [show z - e = 0 by omega]; rfl
theorem scn_p {P : Nat → Bool} {z e : Nat} (hp : P e = false) : scn P z e = e := by
  unfold scn
  cases q : z - e with
  | zero => rfl
  | succ n => rw [scF, hp, Bool.and_false]; rfl
theorem scF_le (P : Nat → Bool) (z : Nat) : ∀ f e, e ≤ z → e ≤ scF P z f e ∧ scF P z f e ≤ z
  | 0, e, h => ⟨Nat.le_refl _, h⟩
  | f + 1, e, h => by
    unfold scF
    split
    · rename_i q
      simp only [Bool.and_eq_true, decide_eq_true_eq] at q
      have := scF_le P z f (e + 1) (by omega)
      omega
    · exact ⟨Nat.le_refl _, h⟩
theorem scn_le {P : Nat → Bool} {z e : Nat} (h : e ≤ z) : e ≤ scn P z e ∧ scn P z e ≤ z := scF_le P z _ e h
abbrev skp (le : Nat → Nat) (z e : Nat) : Nat := scn (fun i => decide (le i = 32)) z e
abbrev run (le : Nat → Nat) (z k e : Nat) : Nat := scn (fun i => decide (tokK (le i) = k)) z e
def tkK (le : Nat → Nat) (z e : Nat) : Nat := if z ≤ skp le z e then 0 else tokK (le (skp le z e))
def tkE (le : Nat → Nat) (z e : Nat) : Nat := if z ≤ skp le z e then skp le z e else if tokK (le (skp le z e)) = 1 ∨ tokK (le (skp le z e)) = 2 then run le z (tokK (le (skp le z e))) (skp le z e + 1) else skp le z e + 1
theorem st_0 {le : Nat → Nat} {z e : Nat} (h : z ≤ skp le z e) : tkK le z e = 0 ∧ tkE le z e = skp le z e := ⟨by rw [tkK, if_pos h], by rw [tkE, if_pos h]⟩
theorem tkK_1 {le : Nat → Nat} {z e : Nat} (h : skp le z e < z) : tkK le z e = tokK (le (skp le z e)) := by rw [tkK, if_neg (by omega)]
theorem tkE_1 {le : Nat → Nat} {z e x : Nat} (h : skp le z e < z) (h1 : tokK (le (skp le z e)) = 1 ∨ tokK (le (skp le z e)) = 2 → run le z (tokK (le (skp le z e))) (skp le z e + 1) = x) (h2 : ¬ (tokK (le (skp le z e)) = 1 ∨ tokK (le (skp le z e)) = 2) → x = skp le z e + 1) : tkE le z e = x := by
  rw [tkE, if_neg (by omega)]
  split
  · rename_i q; exact h1 q
  · rename_i q; exact (h2 q).symm
theorem st_le {le : Nat → Nat} {z e : Nat} (h : e ≤ z) : skp le z e ≤ tkE le z e ∧ tkE le z e ≤ z := by
  have h1 : e ≤ skp le z e ∧ skp le z e ≤ z := scn_le h
  unfold tkE
  split
  · omega
  · split
    · have h2 : skp le z e + 1 ≤ run le z (tokK (le (skp le z e))) (skp le z e + 1) ∧ run le z (tokK (le (skp le z e))) (skp le z e + 1) ≤ z := scn_le (by omega)
      omega
    · omega
theorem tokK_le (c : Nat) : 1 ≤ tokK c ∧ tokK c ≤ 4 := by unfold tokK; (repeat' split) <;> omega
theorem tkK_le (le : Nat → Nat) (z e : Nat) : tkK le z e ≤ 4 := by
  unfold tkK
  split
  · omega
  · exact (tokK_le _).2
/-- the number at hand, as the ints have it -/
def numF (le : Nat → Nat) (s : Nat) : Nat → Int32
  | 0 => nI 0
  | k + 1 => nI 10 * numF le s k + nI (le (s + k)) - nI 48
def numH (le : Nat → Nat) (s e k : Nat) (lo hi : Int32) : Int32 := if k = 2 then (if 2 < e - s then -1 else if wi (numF le s (e - s)) lo hi then numF le s (e - s) else -1) else -1
def wrd (le : Nat → Nat) (s e k i : Nat) : Bool := decide (k = 1) && decide (e - s = strLen.getD i 0) && allB (fun j => decide (le (s + j) = wb i j)) (strLen.getD i 0)
def stp (le : Nat → Nat) (z e : Nat) : Nat × Nat × Nat := (skp le z e, tkE le z e, tkK le z e)
def nmS (le : Nat → Nat) (z : Nat) (p : Nat × Nat × Nat) (lo hi : Int32) : Nat × Nat × Nat := if numH le p.1 p.2.1 p.2.2 lo hi = -1 then p else stp le z p.2.1
theorem sl_lt : ∀ i, i < 6 → strLen.getD i 0 < 20 := by decide
