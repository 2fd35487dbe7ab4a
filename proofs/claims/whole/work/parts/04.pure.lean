/-! PURE: what the school means, in natural numbers. S: mornings, allowed, weights, said, people, kinds, own numbers a; seed, terms, faces, failed -/
abbrev Sch : Type := Nat × Nat × (Nat → Nat) × Nat × Nat × (Nat → Nat) × (Nat → Nat) × Int32 × Int32 × Int32 × Int32
abbrev sN (S : Sch) : Nat := S.1
abbrev sA (S : Sch) : Nat := S.2.1
abbrev sW (S : Sch) : Nat → Nat := S.2.2.1
abbrev sD (S : Sch) : Nat := S.2.2.2.1
abbrev sP (S : Sch) : Nat := S.2.2.2.2.1
abbrev sK (S : Sch) : Nat → Nat := S.2.2.2.2.2.1
abbrev sO (S : Sch) : Nat → Nat := S.2.2.2.2.2.2.1
abbrev sG (S : Sch) : Int32 := S.2.2.2.2.2.2.2.1
abbrev sT (S : Sch) : Int32 := S.2.2.2.2.2.2.2.2.1
abbrev sF (S : Sch) : Int32 := S.2.2.2.2.2.2.2.2.2.1
abbrev sX (S : Sch) : Int32 := S.2.2.2.2.2.2.2.2.2.2
def sOk (S : Sch) : Prop := 1 ≤ sN S ∧ sN S ≤ 9 ∧ sA S < 2 ^ sN S ∧ (∀ i, i < 9 → sW S i ≤ 9) ∧ sD S ≤ 9 ∧ sP S ≤ 6 ∧ (∀ i, i < 6 → sK S i < 6) ∧ (∀ i, i < 6 → sO S i ≤ 9)
/-! numbers and bits -/
/-- a without the bits of b -/
def dif (a b : Nat) : Nat := a ^^^ (a &&& b)
theorem dif_tb (a b k : Nat) : (dif a b).testBit k = (a.testBit k && !b.testBit k) := by
  simp only [dif, Nat.testBit_xor, Nat.testBit_and]
  cases a.testBit k <;> cases b.testBit k <;> rfl
theorem nI_bv (a : Nat) : (nI a).toBitVec = BitVec.ofNat 32 a := rfl
theorem i32_ext {x y : Int32} (h : x.toBitVec = y.toBitVec) : x = y := Int32.toBitVec_inj.mp h
theorem nI_and (a b : Nat) : nI a &&& nI b = nI (a &&& b) := i32_ext (by
  rw [Int32.toBitVec_and, nI_bv, nI_bv, nI_bv]
  apply BitVec.eq_of_getLsbD_eq
  intro i hi
  simp [BitVec.getLsbD_ofNat, hi])
theorem nI_or (a b : Nat) : nI a ||| nI b = nI (a ||| b) := i32_ext (by
  rw [Int32.toBitVec_or, nI_bv, nI_bv, nI_bv]
  apply BitVec.eq_of_getLsbD_eq
  intro i hi
  simp [BitVec.getLsbD_ofNat, hi])
theorem nI_xor (a b : Nat) : nI a ^^^ nI b = nI (a ^^^ b) := i32_ext (by
  rw [Int32.toBitVec_xor, nI_bv, nI_bv, nI_bv]
  apply BitVec.eq_of_getLsbD_eq
  intro i hi
  simp [BitVec.getLsbD_ofNat, hi])
theorem nI_andnot (a b : Nat) : nI a &&& (nI b ^^^ (-1)) = nI (dif a b) := by
  rw [dif, ← nI_xor a (a &&& b), ← nI_and]
  refine i32_ext ?_
  simp only [Int32.toBitVec_and, Int32.toBitVec_xor]
  apply BitVec.eq_of_getLsbD_eq
  intro i hi
  have h1 : (-1 : Int32).toBitVec.getLsbD i = true := by
    have : (-1 : Int32).toBitVec = BitVec.allOnes 32 := by decide
    rw [this, BitVec.getLsbD_allOnes]
    simpa using hi
  simp only [BitVec.getLsbD_and, BitVec.getLsbD_xor, h1]
  cases (nI a).toBitVec.getLsbD i <;> cases (nI b).toBitVec.getLsbD i <;> rfl
theorem sh_mask {b : Nat} (hb : b < 32) : nI b &&& 31 = nI b := by
  have h : ∀ b, b < 32 → nI b &&& 31 = nI b := by decide +kernel
  exact h b hb
theorem sh_smod {b : Nat} (hb : b < 32) : ((nI b).toBitVec.smod 32).toNat = b := by
  have h : ∀ b, b < 32 → ((nI b).toBitVec.smod 32).toNat = b := by decide +kernel
  exact h b hb
theorem nI_shl1 {b : Nat} (hb : b < 31) : nI 1 <<< (nI b &&& 31) = nI (2 ^ b) := by
  have h : ∀ b, b < 31 → nI 1 <<< (nI b &&& 31) = nI (2 ^ b) := by decide +kernel
  exact h b hb
theorem nI_shl2 {b : Nat} (hb : b < 30) : nI 2 <<< (nI b &&& 31) = nI (2 ^ (b + 1)) := by
  have h : ∀ b, b < 30 → nI 2 <<< (nI b &&& 31) = nI (2 ^ (b + 1)) := by decide +kernel
  exact h b hb
theorem nI_shl {a b : Nat} (hb : b < 32) (h : a * 2 ^ b < 2 ^ 32) : nI a <<< (nI b &&& 31) = nI (a <<< b) := by
  rw [sh_mask hb, pk_shlN (nI b) b (sh_smod hb) h, Nat.shiftLeft_eq]
theorem nI_shr {a b : Nat} (ha : a < 2 ^ 31) (hb : b < 32) : nI a >>> (nI b &&& 31) = nI (a >>> b) := by
  rw [sh_mask hb, pk_shrN ha (nI b) b (sh_smod hb), Nat.shiftRight_eq_div_pow]
theorem shr_tb (a b : Nat) : (a >>> b) &&& 1 = if a.testBit b then 1 else 0 := by
  have h : a.testBit b = (1 &&& (a >>> b) != 0) := rfl
  rw [Nat.and_comm, h]
  have h2 : 1 &&& a >>> b = 0 ∨ 1 &&& a >>> b = 1 := by
    rw [Nat.and_comm, Nat.and_one_is_mod]
    omega
  rcases h2 with h2 | h2 <;> rw [h2] <;> rfl
/-- bits -/
def bts (P : Nat → Bool) : Nat → Nat
  | 0 => 0
  | k + 1 => bts P k ||| (if P k then 2 ^ k else 0)
theorem bts_tb (P : Nat → Bool) (n k : Nat) : (bts P n).testBit k = (decide (k < n) && P k) := by
  induction n with
  | zero => simp [bts]
  | succ n ih =>
    rw [bts, Nat.testBit_or, ih]
    by_cases h : P n
    · rw [if_pos h, Nat.testBit_two_pow]
      by_cases e : n = k
      · subst e; simp [h]
      · have : (k < n + 1) ↔ (k < n) := by omega
        simp [e, this]
    · rw [if_neg h]
      by_cases e : n = k
      · subst e; simp [h]
      · have : (k < n + 1) ↔ (k < n) := by omega
        simp [this]
theorem tb_lt {a n : Nat} (h : ∀ k, n ≤ k → a.testBit k = false) : a < 2 ^ n := by
  apply Nat.lt_pow_two_of_testBit
  exact h
theorem bts_lt (P : Nat → Bool) (n : Nat) : bts P n < 2 ^ n := tb_lt fun k hk => by
  rw [bts_tb]
  have : ¬ k < n := by omega
  simp [this]
theorem tb_ge {a n k : Nat} (h : a < 2 ^ n) (hk : n ≤ k) : a.testBit k = false := Nat.testBit_lt_two_pow (Nat.lt_of_lt_of_le h (Nat.pow_le_pow_right (by decide) hk))
theorem bts_ext {P Q : Nat → Bool} {n : Nat} (h : ∀ k, k < n → P k = Q k) : bts P n = bts Q n := by
  refine Nat.eq_of_testBit_eq fun k => ?_
  rw [bts_tb, bts_tb]
  by_cases hk : k < n
  · rw [h k hk]
  · simp [hk]
theorem p2_9 {n : Nat} (h : n ≤ 9) : 2 ^ n ≤ 512 := Nat.le_trans (Nat.pow_le_pow_right (by decide) h) (by decide)
theorem p2_6 {n : Nat} (h : n ≤ 6) : 2 ^ n ≤ 64 := Nat.le_trans (Nat.pow_le_pow_right (by decide) h) (by decide)
/-- the places from m on -/
def still (a m : Nat) : Nat := a >>> m <<< m
theorem still_tb (a m k : Nat) : (still a m).testBit k = (decide (m ≤ k) && a.testBit k) := by
  rw [still, Nat.testBit_shiftLeft, Nat.testBit_shiftRight]
  by_cases h : m ≤ k
  · simp [h, Nat.add_sub_cancel' h]
  · simp [h]
theorem still_le (a m : Nat) : still a m ≤ a := by
  rw [still, Nat.shiftLeft_eq, Nat.shiftRight_eq_div_pow]
  exact Nat.div_mul_le_self a (2 ^ m)
theorem still_dif (a m : Nat) : dif a (2 ^ m - 1) = still a m := by
  refine Nat.eq_of_testBit_eq fun k => ?_
  rw [dif_tb, still_tb, Nat.testBit_two_pow_sub_one]
  by_cases h : k < m
  · have : ¬ m ≤ k := by omega
    simp [h, this]
  · have : m ≤ k := by omega
    simp [h, this]
theorem dif_le (a b : Nat) : dif a b ≤ a := by
  refine Nat.le_of_testBit fun k => ?_
  rw [dif_tb]
  intro h
  simp at h
  exact h.1
/-- weights together -/
def wsum (w : Nat → Nat) (s : Nat) : Nat → Nat
  | 0 => 0
  | k + 1 => wsum w s k + (if s.testBit k then w k else 0)
theorem wsum_le {w : Nat → Nat} {s c n : Nat} (h : ∀ i, i < n → w i ≤ c) : wsum w s n ≤ c * n := by
  induction n with
  | zero => simp [wsum]
  | succ n ih =>
    have h1 := ih (fun i hi => h i (by omega))
    have h2 := h n (by omega)
    rw [wsum, Nat.mul_succ]
    split <;> omega
theorem wsum_81 {S : Sch} (h : sOk S) (s : Nat) : wsum (sW S) s (sN S) ≤ 81 := by
  obtain ⟨h1, h2, h3, h4, -⟩ := h
  have := wsum_le (w := sW S) (s := s) (c := 9) (n := sN S) (fun i hi => h4 i (by omega))
  omega
def lotN (S : Sch) (m : Nat) : Nat := if (sA S).testBit m then sW S m else 0
theorem lotN_le {S : Sch} (h : sOk S) {m : Nat} (hm : m < 9) : lotN S m ≤ 9 := by
  have := h.2.2.2.1 m hm
  rw [lotN]; split <;> omega
/-! who reasons how deep -/
def ownD (S : Sch) (i : Nat) : Nat := min (sO S i) (sD S) + (if sK S i = 3 then 1 else 0)
def mxD (S : Sch) (aw : Nat) : Nat → Nat
  | 0 => 0
  | j + 1 => if sK S j ≠ 4 ∧ j ≠ aw then max (mxD S aw j) (ownD S j + 1) else mxD S aw j
def dep (S : Sch) (aw i : Nat) : Nat := if sK S i = 4 then min (mxD S aw (sP S)) (sD S) else ownD S i
theorem ownD_le {S : Sch} (h : sOk S) (i : Nat) : ownD S i ≤ 10 := by
  have := h.2.2.2.2.1
  rw [ownD]
  split <;> omega
theorem mxD_le {S : Sch} (h : sOk S) (aw j : Nat) : mxD S aw j ≤ 11 := by
  induction j with
  | zero => simp [mxD]
  | succ j ih =>
    rw [mxD]
    have := ownD_le h j
    split <;> omega
theorem dep_le {S : Sch} (h : sOk S) (aw i : Nat) : dep S aw i ≤ 10 := by
  have h1 := h.2.2.2.2.1
  have h2 := ownD_le h i
  rw [dep]
  split <;> omega
/-- without the last d ones -/
def drp : Nat → Nat → Nat
  | a, 0 => a
  | a, d + 1 => drp (a - 2 ^ a.log2) d
theorem drp_le (a d : Nat) : drp a d ≤ a := by
  induction d generalizing a with
  | zero => exact Nat.le_refl _
  | succ d ih => rw [drp]; exact Nat.le_trans (ih _) (Nat.sub_le _ _)
theorem drp_0 (d : Nat) : drp 0 d = 0 := Nat.le_zero.mp (drp_le 0 d)
theorem drp_s (a d : Nat) : drp a (d + 1) = drp a d - 2 ^ (drp a d).log2 := by
  induction d generalizing a with
  | zero => rfl
  | succ d ih => rw [drp, ih]; rfl
def canB (S : Sch) (aw i m : Nat) : Nat := still (drp (sA S) (dep S aw i)) m
def slp (S : Sch) (i m : Nat) : Bool := (sK S i == 1 || sK S i == 3) && m % (2 + sO S i % 3) == 0
def betP (S : Sch) (i m : Nat) : Bool := (sK S i == 2 || sK S i == 5) && ((sA S).testBit m && (decide (0 < sW S m) && decide (sO S i * wsum (sW S) (still (sA S) m) (sN S) ≤ 10 * sW S m)))
def expP (S : Sch) (aw i m : Nat) : Bool := betP S i m || (sK S i != 2 && (canB S aw i m == 2 ^ m && !slp S i m))
def expd (S : Sch) (aw i : Nat) : Nat := bts (expP S aw i) (sN S)
def whoE (S : Sch) (aw m : Nat) : Nat := bts (fun i => i != aw && expP S aw i m) (sP S)
def sur (S : Sch) (aw : Nat) : Nat := bts (fun m => (sA S).testBit m && whoE S aw m == 0) (sN S)
theorem log2_lt9 {a : Nat} (h : a < 512) : a.log2 < 9 := by
  by_cases h0 : a = 0
  · subst h0; decide
  · exact (Nat.log2_lt h0).mpr h
theorem sA_512 {S : Sch} (h : sOk S) : sA S < 512 := Nat.lt_of_lt_of_le h.2.2.1 (p2_9 h.2.1)
theorem drp_512 {S : Sch} (h : sOk S) (d : Nat) : drp (sA S) d < 512 := Nat.lt_of_le_of_lt (drp_le _ _) (sA_512 h)
theorem can_512 {S : Sch} (h : sOk S) (aw i m : Nat) : canB S aw i m < 512 := Nat.lt_of_le_of_lt (still_le _ _) (drp_512 h _)
theorem expd_512 {S : Sch} (h : sOk S) (aw i : Nat) : expd S aw i < 512 := Nat.lt_of_lt_of_le (bts_lt _ _) (p2_9 h.2.1)
theorem whoE_64 {S : Sch} (h : sOk S) (aw m : Nat) : whoE S aw m < 64 := Nat.lt_of_lt_of_le (bts_lt _ _) (p2_6 h.2.2.2.2.2.1)
theorem sur_512 {S : Sch} (h : sOk S) (aw : Nat) : sur S aw < 512 := Nat.lt_of_lt_of_le (bts_lt _ _) (p2_9 h.2.1)
theorem still_1 : ∀ x, x < 512 → ∀ m, m < 9 → ((still x m == 2 ^ m) = (x != 0 && x.log2 == m)) := by decide +kernel
/-! tests on ints -/
def wi (v lo hi : Int32) : Bool := decide (lo ≤ v) && decide (v ≤ hi)
def inb (x : Int32) (n : Nat) : Bool := decide (0 ≤ x) && decide (x < nI n)
theorem inb_at {x : Int32} {n : Nat} (hn : n < 2 ^ 31) (h : inb x n = true) : ∃ j, j < n ∧ x = nI j := by
  simp only [inb, Bool.and_eq_true, decide_eq_true_eq] at h
  obtain ⟨j, hj, rfl⟩ := nI_of (Int32.not_lt.mpr h.1)
  exact ⟨j, (nI_ltI hj hn).mp h.2, rfl⟩
theorem inb_nI {j n : Nat} (hj : j < 2 ^ 31) (hn : n < 2 ^ 31) : inb (nI j) n = decide (j < n) := by
  rw [inb]
  have h1 : (0 : Int32) ≤ nI j := nI_pos' hj
  simp only [h1, decide_true, Bool.true_and]
  exact decide_eq_decide.mpr (nI_ltI hj hn)
theorem wi_inb {x : Int32} {n : Nat} (hn : n < 2 ^ 31) (h1 : 0 < n) : wi x (nI 0) (nI (n - 1)) = inb x n := by
  rw [wi, inb]
  have e0 : (nI 0 : Int32) = 0 := nI_0
  rw [e0]
  by_cases h : (0 : Int32) ≤ x
  · obtain ⟨j, hj, rfl⟩ := nI_of (Int32.not_lt.mpr h)
    simp only [h, decide_true, Bool.true_and]
    refine decide_eq_decide.mpr ((nI_leI hj (by omega)).trans (Iff.trans ?_ (nI_ltI hj hn).symm))
    omega
  · simp [h]
def inS (s : Nat) (x : Int32) : Bool := inb x 9 && s.testBit x.toNatClampNeg
theorem inS_nI {s m : Nat} (hm : m < 9) : inS s (nI m) = s.testBit m := by
  rw [inS, inb_nI (by omega) (by decide), nI_clamp (by omega)]
  simp [hm]
def lstI (a : Nat) : Int32 := if a = 0 then -1 else nI a.log2
def ctz : Nat → Nat → Nat → Nat
  | 0, _, k => k
  | f + 1, a, k => if a.testBit k then k else ctz f a (k + 1)
def fstI (a : Nat) : Int32 := if a = 0 then -1 else nI (ctz 9 a 0)
theorem wi_inb0 {x : Int32} {n : Nat} (hn : n < 2 ^ 31) : wi x (nI 0) (nI n - nI 1) = inb x n := by
  by_cases h1 : 0 < n
  · rw [pk_sub (by omega)]; exact wi_inb hn h1
  · have e : n = 0 := by omega
    subst e
    rw [wi, inb, show nI 0 - nI 1 = (-1 : Int32) from by decide, show nI 0 = (0 : Int32) from nI_0]
    by_cases h : (0 : Int32) ≤ x
    · have h2 : ¬ x ≤ -1 := fun q => absurd (Int32.le_trans h q) (by decide)
      have h3 : ¬ x < 0 := Int32.not_lt.mpr h
      simp [h2, h3]
    · simp [h]
def isK (k u : Nat) : Bool := k == u || u == 0 || (k == 3 && u == 1) || (k == 5 && u == 2)
theorem isK_1 {k : Nat} : isK k 1 = (k == 1 || k == 3) := by
  simp [isK]
theorem isK_2 {k : Nat} : isK k 2 = (k == 2 || k == 5) := by
  simp [isK]
theorem m1_ne {u : Nat} (h : u < 2 ^ 31) : ¬ (-1 : Int32) = nI u := fun q => nI_pos h (by rw [← q]; decide)
/-- one less, also below 0 -/
def pI (k : Nat) : Int32 := nI k + (-1)
theorem pI_at {k : Nat} (h : ¬ k = 0) : pI k = nI (k - 1) := i_m1 (by omega)
theorem pI_1 (k : Nat) : pI k + nI 1 = nI k := by
  rw [pI, Int32.add_assoc, show (-1 : Int32) + nI 1 = 0 from by decide, Int32.add_zero]
theorem pI_lt {a b : Nat} (ha : a < 2 ^ 31) (hb : b < 2 ^ 31) : pI a < nI b ↔ a < b + 1 := by
  by_cases h : a = 0
  · subst h
    refine iff_of_true ?_ (by omega)
    rw [show pI 0 = (-1 : Int32) from by decide]
    rcases Nat.eq_zero_or_pos b with q | q
    · subst q; decide
    · exact Int32.lt_trans (show (-1 : Int32) < 0 from by decide) (nI_lt (a := 0) q hb)
  · rw [pI_at h, nI_ltI (by omega) hb]
    omega
theorem max_pI {a b : Nat} (ha : a < 2 ^ 31) (hb : b < 2 ^ 30) : (if pI a < nI b then nI b else pI a) = pI (max a (b + 1)) := by
  by_cases h : a < b + 1
  · rw [if_pos ((pI_lt ha (by omega)).mpr h), Nat.max_eq_right (by omega), pI_at (by omega)]
    rfl
  · rw [if_neg (fun q => h ((pI_lt ha (by omega)).mp q)), Nat.max_eq_left (by omega)]
theorem ctz_at : ∀ (f a k j : Nat), j < k + f → k ≤ j → (∀ i, k ≤ i → i < j → a.testBit i = false) → a.testBit j = true → ctz f a k = j
  | 0, a, k, j, h1, h2, _, _ => by omega
  | f + 1, a, k, j, h1, h2, h3, h4 => by
    rw [ctz]
    by_cases e : k = j
    · subst e; rw [if_pos h4]
    · have h5 := h3 k (Nat.le_refl _) (by omega)
      rw [if_neg (by rw [h5]; decide)]
      exact ctz_at f a (k + 1) j (by omega) (by omega) (fun i hi hj => h3 i (by omega) hj) h4
theorem fsI_at {s k : Nat} (hs : s < 512) (hz : ∀ j, j < k → Nat.testBit s j = false) (hb : Nat.testBit s k = true) (hk : k < 9) : nI k = fstI s := by
  have h0 : ¬ s = 0 := fun e => by subst e; simp at hb
  rw [fstI, if_neg h0, ctz_at 9 s 0 k (by omega) (by omega) (fun i _ hi => hz i hi) hb]
theorem tb_zero {s : Nat} (hz : ∀ j, Nat.testBit s j = false) : s = 0 := Nat.eq_of_testBit_eq fun j => by rw [hz j]; simp
theorem fst_no {s : Nat} (hs : s < 512) (hz : ∀ j, j < 9 → Nat.testBit s j = false) : (-1 : Int32) = fstI s := by
  have h : s = 0 := tb_zero fun j => by
    by_cases hj : j < 9
    · exact hz j hj
    · exact tb_ge (n := 9) hs (by omega)
  rw [fstI, if_pos h]
theorem lst_at {s k : Nat} (hs : s < 512) (hz : ∀ j, k ≤ j → Nat.testBit s j = false) (hb : Nat.testBit s (k - 1) = true) (hk : 0 < k) : nI (k - 1) = lstI s := by
  have h0 : ¬ s = 0 := fun e => by subst e; simp at hb
  have h1 : 2 ^ (k - 1) ≤ s := Nat.ge_two_pow_of_testBit hb
  have h2 : s < 2 ^ k := tb_lt hz
  have h3 : s.log2 < k := (Nat.log2_lt h0).mpr h2
  have h4 : k - 1 ≤ s.log2 := (Nat.le_log2 h0).mpr h1
  rw [lstI, if_neg h0, show s.log2 = k - 1 by omega]
theorem lst_no {s : Nat} (hs : s < 512) (hz : ∀ j, Nat.testBit s j = false) : (-1 : Int32) = lstI s := by
  rw [lstI, if_pos (tb_zero hz)]
def shI (x y : Nat) : Int32 := if y = 0 then -1 else nI ((1000000 * x) / y)
def wgr (x w y : Nat) : Int32 := nI ((1000000 * (x * w)) / y) - nI 1000000
def cnt (P : Nat → Bool) : Nat → Nat
  | 0 => 0
  | k + 1 => cnt P k + (if P k then 1 else 0)
theorem cnt_le (P : Nat → Bool) (n : Nat) : cnt P n ≤ n := by
  induction n with
  | zero => exact Nat.le_refl _
  | succ n ih => rw [cnt]; split <;> omega
theorem dif_log9 : ∀ x, x < 512 → dif x (2 ^ x.log2) = (if x = 0 then 0 else x - 2 ^ x.log2) := by decide +kernel
theorem dif_log {x : Nat} (hx : x < 512) (h : ¬ x = 0) : dif x (2 ^ x.log2) = x - 2 ^ x.log2 := by rw [dif_log9 x hx, if_neg h]
theorem drp_z {a k d : Nat} (h : drp a k = 0) (hk : k ≤ d) : drp a d = 0 := by
  obtain ⟨e, rfl⟩ : ∃ e, d = k + e := ⟨d - k, by omega⟩
  clear hk
  induction e with
  | zero => exact h
  | succ e ih => rw [← Nat.add_assoc, drp_s, ih]; rfl
def reas (S : Sch) (i : Nat) : Nat := if sK S i = 2 then 0 else if drp (sA S) (dep S 6 i) = 0 then 0 else if slp S i (drp (sA S) (dep S 6 i)).log2 = true then 0 else 2 ^ (drp (sA S) (dep S 6 i)).log2
def betF (S : Sch) (i k : Nat) : Nat := bts (fun m => decide (k ≤ m) && betP S i m) (sN S)
def bet (S : Sch) (i : Nat) : Nat := bts (betP S i) (sN S)
def orF (f : Nat → Nat) : Nat → Nat
  | 0 => 0
  | k + 1 => orF f k ||| f k
/-! more of the school's readers -/
theorem canB_le {S : Sch} (h : sOk S) (aw i m : Nat) : canB S aw i m < 512 := can_512 h aw i m
theorem reas_512 {S : Sch} (h : sOk S) (i : Nat) : reas S i < 512 := by
  rw [reas]
  split
  · decide
  · split
    · decide
    · split
      · decide
      · exact Nat.lt_of_lt_of_le (Nat.pow_lt_pow_right (by decide) (log2_lt9 (drp_512 h _))) (by decide)
theorem bet_512 {S : Sch} (h : sOk S) (i : Nat) : bet S i < 512 := Nat.lt_of_lt_of_le (bts_lt _ _) (p2_9 h.2.1)
theorem betF_0 (S : Sch) (i : Nat) : betF S i 0 = bet S i := bts_ext fun k _ => by simp
theorem betF_n (S : Sch) (i : Nat) : betF S i (sN S) = 0 := tb_zero fun j => by
  rw [betF, bts_tb]
  by_cases h : j < sN S
  · have : ¬ sN S ≤ j := by omega
    simp [this]
  · simp [h]
theorem betF_s (S : Sch) (i k : Nat) (hk : k < sN S) : betF S i k = betF S i (k + 1) ||| (if betP S i k = true then 2 ^ k else 0) := by
  refine Nat.eq_of_testBit_eq fun j => ?_
  rw [Nat.testBit_or, betF, betF, bts_tb, bts_tb]
  by_cases e : j = k
  · subst e
    have h2 : ¬ j + 1 ≤ j := by omega
    by_cases h : betP S i j = true
    · simp [h, hk, h2]
    · simp [h, hk, h2]
  · have h2 : (k ≤ j) ↔ (k + 1 ≤ j) := by omega
    have h3 : (if betP S i k = true then 2 ^ k else 0).testBit j = false := by
      split
      · rw [Nat.testBit_two_pow]; simp [Ne.symm e]
      · simp
    simp [h2, h3]
theorem betF_512 {S : Sch} (h : sOk S) (i k : Nat) : betF S i k < 512 := Nat.lt_of_lt_of_le (bts_lt _ _) (p2_9 h.2.1)
theorem wsum_ext {w : Nat → Nat} {s t n : Nat} (h : ∀ i, i < n → s.testBit i = t.testBit i) : wsum w s n = wsum w t n := by
  induction n with
  | zero => rfl
  | succ n ih => rw [wsum, wsum, ih (fun i hi => h i (by omega)), h n (by omega)]
theorem wsum_none {w : Nat → Nat} {s n : Nat} (h : ∀ i, i < n → s.testBit i = false) : wsum w s n = 0 := by
  induction n with
  | zero => rfl
  | succ n ih => rw [wsum, ih (fun i hi => h i (by omega)), h n (by omega)]; rfl
theorem wsum_still {w : Nat → Nat} {a m n : Nat} (hm : m < n) : wsum w (still a m) n = wsum w (still a (m + 1)) n + (if a.testBit m then w m else 0) := by
  induction n with
  | zero => omega
  | succ n ih =>
    by_cases e : m = n
    · subst e
      rw [wsum, wsum, wsum_none (s := still a m) (fun i hi => by rw [still_tb]; have : ¬ m ≤ i := (by omega); simp [this]), wsum_none (s := still a (m + 1)) (fun i hi => by rw [still_tb]; have : ¬ m + 1 ≤ i := (by omega); simp [this]), still_tb, still_tb]
      have : ¬ m + 1 ≤ m := by omega
      simp [this]
    · rw [wsum, wsum, ih (by omega), still_tb, still_tb]
      have h1 : m ≤ n := by omega
      have h2 : m + 1 ≤ n := by omega
      simp [h1, h2]
      omega
theorem wsum_still_n {w : Nat → Nat} {a n : Nat} : wsum w (still a n) n = 0 := wsum_none fun i hi => by
  rw [still_tb]; have : ¬ n ≤ i := by omega
  simp [this]
theorem orF_512 {f : Nat → Nat} (h : ∀ i, f i < 512) (n : Nat) : orF f n < 512 := by
  induction n with
  | zero => show 0 < 512; decide
  | succ n ih => exact Nat.or_lt_two_pow (n := 9) ih (h n)
theorem orF_tb (f : Nat → Nat) (n k : Nat) : (orF f n).testBit k = true ↔ ∃ i, i < n ∧ (f i).testBit k = true := by
  induction n with
  | zero => simp [orF]
  | succ n ih =>
    rw [orF, Nat.testBit_or, Bool.or_eq_true, ih]
    constructor
    · rintro (⟨i, hi, h⟩ | h)
      · exact ⟨i, by omega, h⟩
      · exact ⟨n, by omega, h⟩
    · rintro ⟨i, hi, h⟩
      by_cases e : i = n
      · subst e; exact Or.inr h
      · exact Or.inl ⟨i, by omega, h⟩
/-- what one expects: by reasoning, or by a bet -/
theorem expd_eq {S : Sch} (h : sOk S) (i : Nat) : reas S i ||| bet S i = expd S 6 i := by
  refine Nat.eq_of_testBit_eq fun k => ?_
  have hx := drp_512 h (dep S 6 i)
  rw [Nat.testBit_or, expd, bts_tb, bet, bts_tb]
  by_cases hk : k < sN S
  · have hk9 : k < 9 := by have := h.2.1; omega
    have hc : (canB S 6 i k == 2 ^ k) = (drp (sA S) (dep S 6 i) != 0 && (drp (sA S) (dep S 6 i)).log2 == k) := still_1 _ hx k hk9
    have hr : (reas S i).testBit k = (sK S i != 2 && (canB S 6 i k == 2 ^ k && !slp S i k)) := by
      rw [hc, reas]
      by_cases e2 : sK S i = 2
      · simp [e2]
      · by_cases e0 : drp (sA S) (dep S 6 i) = 0
        · simp [e2, e0]
        · by_cases el : (drp (sA S) (dep S 6 i)).log2 = k
          · by_cases es : slp S i k = true
            · simp [e2, e0, el, es]
            · simp [e2, e0, el, es, Nat.testBit_two_pow]
          · by_cases es : slp S i (drp (sA S) (dep S 6 i)).log2 = true
            · simp [e2, e0, es, el]
            · simp [e2, e0, es, el, Nat.testBit_two_pow]
    rw [hr, expP]
    simp only [hk, decide_true, Bool.true_and]
    exact Bool.or_comm _ _
  · have h1 : (reas S i).testBit k = false := by
      rw [reas]
      split
      · simp
      · split
        · simp
        · split
          · simp
          · rename_i e2 e0 es
            have hlt : drp (sA S) (dep S 6 i) < 2 ^ sN S := Nat.lt_of_le_of_lt (drp_le _ _) h.2.2.1
            have := (Nat.log2_lt e0).mpr hlt
            rw [Nat.testBit_two_pow]
            simp; omega
    simp [h1, hk]
theorem or_512 {a b : Nat} (ha : a < 512) (hb : b < 512) : a ||| b < 512 := Nat.or_lt_two_pow (n := 9) ha hb
/-- by surprise: as the class has it -/
theorem whoE_0 (S : Sch) (aw m : Nat) : whoE S aw m = 0 ↔ ∀ i, i < sP S → i ≠ aw → expP S aw i m = false := by
  constructor
  · intro h i hi hne
    have h1 : (whoE S aw m).testBit i = false := by rw [h]; simp
    rw [whoE, bts_tb] at h1
    simpa [hi, hne] using h1
  · intro h
    refine tb_zero fun i => ?_
    rw [whoE, bts_tb]
    by_cases hi : i < sP S
    · by_cases hne : i = aw
      · simp [hne]
      · simp [h i hi hne]
    · simp [hi]
theorem sur_tb (S : Sch) (aw m : Nat) : (sur S aw).testBit m = (decide (m < sN S) && ((sA S).testBit m && whoE S aw m == 0)) := by rw [sur, bts_tb]
theorem sur_eq {S : Sch} (h : sOk S) : dif (sA S) (orF (reas S) (sP S) ||| orF (bet S) (sP S)) = sur S 6 := by
  refine Nat.eq_of_testBit_eq fun m => ?_
  rw [dif_tb, sur_tb, Nat.testBit_or]
  by_cases hm : m < sN S
  · simp only [hm, decide_true, Bool.true_and]
    congr 1
    have key : ((orF (reas S) (sP S)).testBit m || (orF (bet S) (sP S)).testBit m) = true ↔ ∃ i, i < sP S ∧ expP S 6 i m = true := by
      rw [Bool.or_eq_true, orF_tb, orF_tb]
      have e : ∀ i, expP S 6 i m = ((reas S i).testBit m || (bet S i).testBit m) := by
        intro i
        rw [← Nat.testBit_or, expd_eq h, expd, bts_tb]
        simp [hm]
      constructor
      · rintro (⟨i, hi, q⟩ | ⟨i, hi, q⟩)
        · exact ⟨i, hi, by rw [e, q]; rfl⟩
        · exact ⟨i, hi, by rw [e, q]; simp⟩
      · rintro ⟨i, hi, q⟩
        rw [e, Bool.or_eq_true] at q
        rcases q with q | q
        · exact Or.inl ⟨i, hi, q⟩
        · exact Or.inr ⟨i, hi, q⟩
    have hp := h.2.2.2.2.2.1
    by_cases hw : whoE S 6 m = 0
    · have h2 := (whoE_0 S 6 m).mp hw
      have h3 : ((orF (reas S) (sP S)).testBit m || (orF (bet S) (sP S)).testBit m) = false := by
        cases q : ((orF (reas S) (sP S)).testBit m || (orF (bet S) (sP S)).testBit m) with
        | false => rfl
        | true =>
          obtain ⟨i, hi, q2⟩ := key.mp q
          rw [h2 i hi (by omega)] at q2
          cases q2
      rw [h3, hw]; rfl
    · have h3 : ((orF (reas S) (sP S)).testBit m || (orF (bet S) (sP S)).testBit m) = true := by
        refine key.mpr ?_
        by_cases q : ∃ i, i < sP S ∧ expP S 6 i m = true
        · exact q
        · exfalso
          refine hw ((whoE_0 S 6 m).mpr fun i hi _ => ?_)
          cases q2 : expP S 6 i m with
          | false => rfl
          | true => exact absurd ⟨i, hi, q2⟩ q
      rw [h3]
      simp [hw]
  · have h1 : (sA S).testBit m = false := tb_ge h.2.2.1 (by omega)
    simp [h1]
/-- the world of one school -/
abbrev schE (qw qk qr : Nat) (S : Sch) : va_E := .inr (0, [.int (nI (sN S)), .int (nI (sA S)), .ref qw, .int (nI (sD S)), .int (nI (sP S)), .ref qk, .ref qr, .int (sG S), .int (sT S), .int (sF S), .int (sX S)])
abbrev arI (g : gT) (n : Nat) (w : Nat → Nat) : va_E := .inl (gI g, n, .inl (aN w))
abbrev arF (g : gT) (n : Nat) (f : Nat → Int32) : va_E := .inl (gI g, n, .inl f)
abbrev arJ (g : gT) (n : Nat) (f : Nat → Int64) : va_E := .inl (gJ g, n, .inr (.inl f))
abbrev schW (g : gT) (a qw qk qr : Nat) (S : Sch) : va_W := [(a, schE qw qk qr S), (qw, arI g 9 (sW S)), (qk, arI g 6 (sK S)), (qr, arI g 6 (sO S))]
theorem bet_no {S : Sch} {i : Nat} (h : isK (sK S i) 2 = false) : bet S i = 0 := tb_zero fun j => by
  rw [bet, bts_tb, betP]
  rw [isK_2] at h
  rw [h]; simp
theorem bet_n {S : Sch} {i k : Nat} (hk0 : ¬ k = 0) (hk : k ≤ sN S) (hb : betP S i (k - 1) = false) : betF S i k = betF S i (k - 1) := by
  rw [betF_s S i (k - 1) (by omega), show k - 1 + 1 = k by omega, hb]
  simp
theorem bet_y {S : Sch} {i k : Nat} (hk0 : ¬ k = 0) (hk : k ≤ sN S) (hb : betP S i (k - 1) = true) : betF S i k ||| 2 ^ (k - 1) = betF S i (k - 1) := by
  rw [betF_s S i (k - 1) (by omega), show k - 1 + 1 = k by omega, if_pos hb]
theorem ws_step {S : Sch} {k : Nat} (hk0 : ¬ k = 0) (hk : k ≤ sN S) : wsum (sW S) (still (sA S) k) (sN S) + lotN S (k - 1) = wsum (sW S) (still (sA S) (k - 1)) (sN S) := by
  rw [wsum_still (m := k - 1) (by omega), show k - 1 + 1 = k by omega]
  rfl
theorem betP_n0 {S : Sch} {i m : Nat} (h : lotN S m = 0) : betP S i m = false := by
  rw [lotN] at h
  by_cases q : (sA S).testBit m = true
  · rw [if_pos q] at h
    simp [betP, h]
  · simp [betP, q]
theorem betP_n1 {S : Sch} {i k : Nat} (hk0 : ¬ k = 0) (hk : k ≤ sN S) (h : 10 * lotN S (k - 1) < sO S i * (wsum (sW S) (still (sA S) k) (sN S) + lotN S (k - 1))) : betP S i (k - 1) = false := by
  rw [ws_step hk0 hk] at h
  by_cases q : (sA S).testBit (k - 1) = true
  · rw [lotN, if_pos q] at h
    have h2 : ¬ sO S i * wsum (sW S) (still (sA S) (k - 1)) (sN S) ≤ 10 * sW S (k - 1) := by omega
    simp only [betP]
    rw [decide_eq_false h2]
    simp
  · simp [betP, q]
theorem betP_y {S : Sch} {i k : Nat} (h10 : isK (sK S i) 2 = true) (hk0 : ¬ k = 0) (hk : k ≤ sN S) (h0 : ¬ lotN S (k - 1) = 0) (h : sO S i * (wsum (sW S) (still (sA S) k) (sN S) + lotN S (k - 1)) ≤ 10 * lotN S (k - 1)) : betP S i (k - 1) = true := by
  rw [ws_step hk0 hk] at h
  rw [isK_2] at h10
  by_cases q : (sA S).testBit (k - 1) = true
  · rw [lotN, if_pos q] at h h0
    simp only [betP]
    rw [h10, q, decide_eq_true h, decide_eq_true (show 0 < sW S (k - 1) by omega)]
    rfl
  · rw [lotN, if_neg q] at h0
    exact absurd rfl h0
theorem expd_bit {S : Sch} {i m : Nat} (hm : m < sN S) : (expd S 6 i).testBit m = expP S 6 i m := by
  rw [expd, bts_tb]; simp [hm]
theorem ext_dn {k : Nat} {P : Nat → Prop} (h : ∀ j, k ≤ j → P j) (h1 : P (k - 1)) : ∀ j, k - 1 ≤ j → P j := by
  intro j hj
  by_cases q : j = k - 1
  · exact q ▸ h1
  · exact h j (by omega)
/-! the JDK's members -/
def bcn (a : Nat) : Nat := cnt (fun k => Nat.testBit a k) 9
theorem bcn_9 (a : Nat) : bcn a ≤ 9 := cnt_le _ 9
theorem nI_notand (a b : Nat) : (nI a ^^^ (-1)) &&& nI b = nI (dif b a) := by
  rw [← nI_andnot]
  refine i32_ext ?_
  simp only [Int32.toBitVec_and, Int32.toBitVec_xor]
  exact BitVec.and_comm _ _
theorem us_mod {b : Nat} (hb : b < 32) : (((nI b).toUInt32 &&& Int32.toUInt32 31).toBitVec % 32).toNat = b := by
  have h : ∀ b, b < 32 → (((nI b).toUInt32 &&& Int32.toUInt32 31).toBitVec % 32).toNat = b := by decide +kernel
  exact h b hb
theorem nI_ushr {a b : Nat} (ha : a < 2 ^ 31) (hb : b < 32) : ((nI a).toUInt32 >>> ((nI b).toUInt32 &&& Int32.toUInt32 31)).toInt32 = nI (a >>> b) := by
  rw [pk_ushrN (by omega) (nI b) b (us_mod hb), Nat.shiftRight_eq_div_pow]
theorem strLen_100 {i : Nat} (hi : i < 6) : strLen.getD i 0 < 100 := by
  have h : ∀ i, i < 6 → strLen.getD i 0 < 100 := by decide +kernel
  exact h i hi
def wb (i k : Nat) : Nat := ((strByt.getD i []).getD k 0).toNatClampNeg
theorem wb_at : ∀ i, i < 6 → ∀ k, k < strLen.getD i 0 → (((strByt.getD i []).getD k 0 &&& nI 255).toUInt32 % 65536).toInt32 = nI (wb i k) := by decide +kernel
theorem wb_lt : ∀ i, i < 6 → ∀ k, k < strLen.getD i 0 → wb i k < 65536 := by decide +kernel
/-! what writes in a school -/
def fillN (w : Nat → Nat) (v k : Nat) : Nat → Nat := fun i => if i < k then v else w i
def one9 : Nat → Nat := fun _ => 1
theorem fill_0 (w : Nat → Nat) (v : Nat) : fillN w v 0 = w := by funext i; simp [fillN]
theorem fill_s (w : Nat → Nat) (v k : Nat) : updN (fillN w v k) k v = fillN w v (k + 1) := by
  funext i
  by_cases h : i = k
  · subst h; simp [updN, fillN]
  · by_cases h2 : i < k
    · have : i < k + 1 := by omega
      simp [updN, fillN, h, h2, this]
    · have : ¬ i < k + 1 := by omega
      simp [updN, fillN, h, h2, this]
def shf (f : Nat → Nat) (i k : Nat) : Nat → Nat := fun j => if i ≤ j ∧ j + 1 < k then f (j + 1) else f j
theorem shf_0 (f : Nat → Nat) (i : Nat) : shf f i (i + 1) = f := by
  funext j
  have : ¬ (i ≤ j ∧ j + 1 < i + 1) := by omega
  exact if_neg this
theorem shf_s {f : Nat → Nat} {i k : Nat} (h : i < k) : updN (shf f i k) (k - 1) (shf f i k k) = shf f i (k + 1) := by
  funext j
  by_cases e : j = k - 1
  · subst e
    have h1 : i ≤ k - 1 ∧ k - 1 + 1 < k + 1 := by omega
    have h2 : ¬ (i ≤ k ∧ k + 1 < k) := by omega
    have e1 : shf f i k k = f k := if_neg h2
    have e2 : shf f i (k + 1) (k - 1) = f (k - 1 + 1) := if_pos h1
    rw [show updN (shf f i k) (k - 1) (shf f i k k) (k - 1) = shf f i k k from if_pos rfl, e1, e2, show k - 1 + 1 = k by omega]
  · have h1 : (i ≤ j ∧ j + 1 < k) ↔ (i ≤ j ∧ j + 1 < k + 1) := by omega
    simp only [updN, shf]
    rw [if_neg e]
    by_cases q : i ≤ j ∧ j + 1 < k
    · rw [if_pos q, if_pos (h1.mp q)]
    · rw [if_neg q, if_neg (fun z => q (h1.mpr z))]
theorem nxt_ex : ∃ f : Int32 → Int32, ∀ x, f x = x * nI 1103515245 + nI 12345 := ⟨fun x => x * nI 1103515245 + nI 12345, fun _ => rfl⟩
/-- the next seed; by choice, so that no one unfolds the great number -/
noncomputable def nxt : Int32 → Int32 := Classical.choose nxt_ex
theorem nxt_eq (x : Int32) : nxt x = x * nI 1103515245 + nI 12345 := Classical.choose_spec nxt_ex x
def ush (x : Int32) : Nat := x.toBitVec.toNat / 65536
theorem ush_lt (x : Int32) : ush x < 65536 := by
  have := x.toBitVec.isLt
  rw [ush]; omega
theorem ush_at (x : Int32) : (x.toUInt32 >>> ((nI 16).toUInt32 &&& Int32.toUInt32 31)).toInt32 = nI (ush x) := by
  refine i32_ext (BitVec.eq_of_toNat_eq ?_)
  rw [pk_ushr x (nI 16) 16 (us_mod (by decide)), nI_bv, BitVec.toNat_ofNat]
  have h1 := ush_lt x
  rw [ush] at h1 ⊢
  omega
theorem wsum_mono {w : Nat → Nat} {s : Nat} {a b : Nat} (h : a ≤ b) : wsum w s a ≤ wsum w s b := by
  induction b with
  | zero => have : a = 0 := (by omega); subst this; exact Nat.le_refl _
  | succ b ih =>
    by_cases e : a = b + 1
    · subst e; exact Nat.le_refl _
    · exact Nat.le_trans (ih (by omega)) (Nat.le_add_right _ _)
def fff (P : Nat → Bool) : Nat → Nat → Nat
  | 0, k => k
  | f + 1, k => if P k then k else fff P f (k + 1)
theorem fff_at (P : Nat → Bool) : ∀ (f k j : Nat), j < k + f → k ≤ j → (∀ i, k ≤ i → i < j → P i = false) → P j = true → fff P f k = j
  | 0, k, j, h1, h2, _, _ => by omega
  | f + 1, k, j, h1, h2, h3, h4 => by
    rw [fff]
    by_cases e : k = j
    · subst e; rw [if_pos h4]
    · rw [if_neg (by rw [h3 k (Nat.le_refl _) (by omega)]; decide)]
      exact fff_at P f (k + 1) j (by omega) (by omega) (fun i hi hj => h3 i (by omega) hj) h4
/-- the morning that a draw r picks -/
def pickM (S : Sch) (r : Nat) : Nat := fff (fun m => decide (r < wsum (sW S) (sA S) (m + 1))) (sN S) 0
theorem pick_at {S : Sch} {r k : Nat} (hk : k < sN S) (hq : wsum (sW S) (sA S) k ≤ r) (hb : r < wsum (sW S) (sA S) (k + 1)) : k = pickM S r := by
  refine (fff_at _ (sN S) 0 k (by omega) (Nat.zero_le _) (fun i _ hi => ?_) (by simpa using hb)).symm
  have := wsum_mono (w := sW S) (s := sA S) (show i + 1 ≤ k by omega)
  simp; omega
theorem pick_ex {S : Sch} {r : Nat} : ∀ n, r < wsum (sW S) (sA S) n → ∃ k, k < n ∧ wsum (sW S) (sA S) k ≤ r ∧ r < wsum (sW S) (sA S) (k + 1)
  | 0, h => by simp [wsum] at h
  | n + 1, h => by
    by_cases q : r < wsum (sW S) (sA S) n
    · obtain ⟨k, h1, h2, h3⟩ := pick_ex n q
      exact ⟨k, by omega, h2, h3⟩
    · exact ⟨n, by omega, by omega, h⟩
theorem pick_lt {S : Sch} {r : Nat} (h : r < wsum (sW S) (sA S) (sN S)) : pickM S r < sN S := by
  obtain ⟨k, h1, h2, h3⟩ := pick_ex _ h
  rw [← pick_at h1 h2 h3]
  exact h1
noncomputable def drawR (S : Sch) : Nat := ush (nxt (sG S)) % wsum (sW S) (sA S) (sN S)
noncomputable def pkS (S : Sch) : Nat := pickM S (drawR S)
theorem pkS_lt {S : Sch} (h : 0 < wsum (sW S) (sA S) (sN S)) : pkS S < sN S := pick_lt (Nat.mod_lt _ h)
abbrev sgS (S : Sch) (x y z u : Int32) : Sch := (sN S, sA S, sW S, sD S, sP S, sK S, sO S, x, y, z, u)
theorem mxD_sg (S : Sch) (x y z u : Int32) (aw j : Nat) : mxD (sgS S x y z u) aw j = mxD S aw j := by
  induction j with
  | zero => rfl
  | succ j ih => rw [mxD, mxD, ih]; rfl
theorem dep_sg (S : Sch) (x y z u : Int32) (aw j : Nat) : dep (sgS S x y z u) aw j = dep S aw j := by
  show (if sK S j = 4 then min (mxD (sgS S x y z u) aw (sP S)) (sD S) else ownD S j) = _
  rw [mxD_sg]; rfl
theorem expP_sg (S : Sch) (x y z u : Int32) (aw i m : Nat) : expP (sgS S x y z u) aw i m = expP S aw i m := by
  show (betP S i m || (sK S i != 2 && (still (drp (sA S) (dep (sgS S x y z u) aw i)) m == 2 ^ m && !slp S i m))) = _
  rw [dep_sg]; rfl
theorem whoE_sg (S : Sch) (x y z u : Int32) (aw m : Nat) : whoE (sgS S x y z u) aw m = whoE S aw m := bts_ext fun i _ => by rw [expP_sg]
theorem left_s {r a b : Nat} (h : a + b ≤ r) : nI (r - a) - nI b = nI (r - (a + b)) := by
  rw [pk_sub (by omega), Nat.sub_sub]
/-- a term in truth -/
noncomputable def trmS (S : Sch) : Sch := (sN S, sA S, sW S, sD S, sP S, sK S, sO S, nxt (sG S), sT S + nI 1, sF S + (nI (sP S) - nI (bcn (whoE S 6 (pkS S)))), if bcn (whoE S 6 (pkS S)) = 0 then sX S else sX S + nI 1)
/-! the shelf -/
abbrev slfW (g : gT) (a qv : Nat) (c : Int32) (l : Nat) (vl : Nat → Int64) : va_W := [(a, .inr (1, [.int c, .int (nI l), .ref qv])), (qv, arJ g 40 vl)]
def zeroJ : Nat → Int64 := fun _ => 0
def fillJ (f : Nat → Int64) (k : Nat) : Nat → Int64 := fun i => if i < k then 0 else f i
theorem fillJ_0 (f : Nat → Int64) : fillJ f 0 = f := by funext i; simp [fillJ]
theorem fillJ_s (f : Nat → Int64) (k : Nat) : vp_updL (fillJ f k) k 0 = fillJ f (k + 1) := by
  funext i
  unfold vp_updL fillJ
  by_cases h : i = k
  · subst h; simp
  · simp only [h, if_false]
    by_cases h2 : i < k
    · simp [h2, show i < k + 1 by omega]
    · simp [h2, show ¬ i < k + 1 by omega]
def hasR (i n : Int32) (l : Nat) : Bool := decide (¬ i < 0) && decide (¬ n < 0) && decide (n ≤ nI l - i)
theorem hasR_1 {i n : Int32} {l : Nat} (h : i < 0) : false = hasR i n l := by simp [hasR, h]
theorem hasR_2 {i n : Int32} {l : Nat} (h : n < 0) : false = hasR i n l := by simp [hasR, h]
theorem hasR_3 {i n : Int32} {l : Nat} (h : nI l - i < n) : false = hasR i n l := by simp [hasR, Int32.not_le.mpr h]
theorem hasR_4 {i n : Int32} {l : Nat} (h1 : ¬ i < 0) (h2 : ¬ n < 0) (h3 : ¬ nI l - i < n) : true = hasR i n l := by simp [hasR, h1, h2, Int32.not_lt.mp h3]
def cutS (c : Int32) (v : Int64) : Int64 :=
  if c = nI 0 then v.toInt32.toInt8.toInt32.toInt64
  else if c = nI 1 then v.toInt32.toInt16.toInt32.toInt64
  else if c = nI 2 then v.toInt32.toInt64
  else if c = nI 4 then (if v = 0 then 0 else 1)
  else v
theorem lc0 {v : Int64} (h : lg_cmp v 0 = 0) : v = 0 := by
  unfold lg_cmp at h
  split at h
  · exact absurd h (by decide)
  · split at h
    · assumption
    · exact absurd h (by decide)
theorem lc1 {v : Int64} (h : ¬ lg_cmp v 0 = 0) : ¬ v = 0 := fun e => h (by subst e; decide)
