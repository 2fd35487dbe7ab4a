/-! SPEC2: readers -/
/-- the first place below n at which P holds -/
def fP (P : Nat → Bool) : Nat → Int32
  | 0 => -1
  | k + 1 => if fP P k = -1 then (if P k then nI k else -1) else fP P k
theorem fP_no {P : Nat → Bool} : ∀ {n : Nat}, (∀ j, j < n → P j = false) → fP P n = -1
  | 0, _ => rfl
  | n + 1, h => by
    unfold fP
    rw [if_pos (fP_no (fun j hj => h j (by omega))), h n (by omega)]; rfl
theorem fP_at {P : Nat → Bool} {k : Nat} (hk : k < 2 ^ 31) (hp : P k = true) (h : ∀ j, j < k → P j = false) : ∀ {n : Nat}, k < n → fP P n = nI k
  | 0, q => by omega
  | n + 1, q => by
    unfold fP
    by_cases e : k = n
    · subst e; rw [if_pos (fP_no h), if_pos hp]
    · rw [fP_at hk hp h (n := n) (by omega), if_neg (fun z => m1_ne hk z.symm)]
theorem fP_s {P : Nat → Bool} {k : Nat} (h : ∀ j, j < k → P j = false) (hk : P k = false) : ∀ j, j < k + 1 → P j = false := by
  intro j hj
  by_cases e : j = k
  · rw [e]; exact hk
  · exact h j (by omega)
def noL (S : Sch) (m w : Nat) : Bool := decide (wsum (sW S) (still (sA S) m) (sN S) ≠ 0) && decide (¬ wgr (lotN S m) w (wsum (sW S) (still (sA S) m) (sN S)) < 0)
def x_personOf (B : Bx) (i w : Int32) : Bx × Int32 := match B with
  | (N, K) => if inb i (sP N) then (if w = nI 0 then ((N, K), nI (sK N i.toNatClampNeg)) else if w = nI 1 then ((N, K), nI (sO N i.toNatClampNeg)) else if w = nI 2 then ((N, K), nI (dep N 6 i.toNatClampNeg)) else if w = nI 3 then ((N, K), nI (expd N 6 i.toNatClampNeg)) else rfS B 0 (-2)) else rfS B 0 (-2)
def x_morningOf (B : Bx) (m w : Int32) : Bx × Int32 := match B with
  | (N, K) => if inb m (sN N) then (if w = nI 0 then ((N, K), if (sA N).testBit m.toNatClampNeg then nI 1 else nI 0) else if w = nI 1 then ((N, K), nI (sW N m.toNatClampNeg)) else if w = nI 2 then ((N, K), nI (still (sA N) m.toNatClampNeg)) else if w = nI 3 then ((N, K), nI (wsum (sW N) (still (sA N) m.toNatClampNeg) (sN N))) else rfS B 0 (-2)) else rfS B 0 (-2)
def x_can (B : Bx) (i m : Int32) : Bx × Int32 := match B with
  | (N, K) => if inb i (sP N) && inb m (sN N) then ((N, K), nI (canB N 6 i.toNatClampNeg m.toNatClampNeg)) else rfS B 0 (-2)
def x_expects (B : Bx) (i m : Int32) : Bx × Int32 := match B with
  | (N, K) => if inb i (sP N) && inb m (sN N) then ((N, K), if (expd N 6 i.toNatClampNeg).testBit m.toNatClampNeg then nI 1 else nI 0) else rfS B 0 (-2)
def x_who (B : Bx) (m : Int32) : Bx × Int32 := match B with
  | (N, K) => if inb m (sN N) then ((N, K), nI (whoE N 6 m.toNatClampNeg)) else rfS B 0 (-2)
def x_first (B : Bx) (i : Int32) : Bx × Int32 := match B with
  | (N, K) => if inb i (sP N) then ((N, K), fstI (expd N 6 i.toNatClampNeg)) else rfS B 0 (-2)
def x_lasts (B : Bx) (i : Int32) : Bx × Int32 := match B with
  | (N, K) => if inb i (sP N) then ((N, K), lstI (canB N 6 i.toNatClampNeg 0)) else rfS B 0 (-2)
def x_ends (B : Bx) : Bx × Int32 := match B with
  | (N, K) => ((N, K), lstI (sA N))
/-- pairs: those of i with a later one below j; all with the first below k -/
def prR (f : Nat → Nat → Bool) (i : Nat) : Nat → Nat
  | 0 => 0
  | j + 1 => prR f i j + if decide (i < j) && f i j then 1 else 0
def prs (f : Nat → Nat → Bool) (p : Nat) : Nat → Nat
  | 0 => 0
  | k + 1 => prs f p k + prR f k p
theorem prR_0 (f : Nat → Nat → Bool) (i : Nat) : ∀ {j : Nat}, j ≤ i + 1 → prR f i j = 0
  | 0, _ => rfl
  | j + 1, h => by
    unfold prR
    rw [prR_0 f i (j := j) (by omega), decide_eq_false (show ¬ i < j by omega)]; rfl
theorem prR_t {f : Nat → Nat → Bool} {i j : Nat} (hij : i < j) (h : f i j = true) : prR f i (j + 1) = prR f i j + 1 := by
  rw [prR, decide_eq_true hij, h]; rfl
theorem prR_f {f : Nat → Nat → Bool} {i j : Nat} (h : f i j = false) : prR f i (j + 1) = prR f i j := by
  rw [prR, h, Bool.and_false]; rfl
theorem prR_le (f : Nat → Nat → Bool) (i : Nat) : ∀ j, prR f i j ≤ j
  | 0 => Nat.le_refl _
  | j + 1 => by
    have := prR_le f i j
    unfold prR; split <;> omega
theorem prs_le (f : Nat → Nat → Bool) (p : Nat) : ∀ k, prs f p k ≤ p * k
  | 0 => Nat.le_refl _
  | k + 1 => by
    have h1 := prs_le f p k
    have h2 := prR_le f k p
    unfold prs
    rw [Nat.mul_succ]; omega
abbrev agF (S : Sch) (m : Nat) : Nat → Nat → Bool := fun i j => decide (canB S 6 i m = canB S 6 j m)
def x_agree (B : Bx) (m : Int32) : Bx × Int32 := match B with
  | (N, K) => if inb m (sN N) then ((N, K), nI (prs (agF N m.toNatClampNeg) (sP N) (sP N))) else rfS B 0 (-2)
abbrev forS (S : Sch) (i j : Nat) : Bool := !isK (sK S j) 2 && decide (dep S 6 j < dep S 6 i)
def x_foresees (B : Bx) (i j : Int32) : Bx × Int32 := match B with
  | (N, K) => if inb i (sP N) && inb j (sP N) then (if i.toNatClampNeg = j.toNatClampNeg then rfS B 0 (-2) else ((N, K), if forS N i.toNatClampNeg j.toNatClampNeg then nI 1 else nI 0)) else rfS B 0 (-2)
def x_foreseen (B : Bx) (i : Int32) : Bx × Int32 := match B with
  | (N, K) => if inb i (sP N) then ((N, K), nI (bts (fun j => decide (j ≠ i.toNatClampNeg) && forS N j i.toNatClampNeg) (sP N))) else rfS B 0 (-2)
def dpI (S : Sch) : Nat → Nat
  | 0 => 0
  | k + 1 => if dep S 6 (dpI S k) < dep S 6 k then k else dpI S k
theorem dpI_1 (S : Sch) : dpI S 1 = 0 := by simp [dpI]
theorem dpI_lt (S : Sch) : ∀ k, dpI S (k + 1) ≤ k
  | 0 => by rw [dpI_1]; exact Nat.le_refl _
  | k + 1 => by
    have := dpI_lt S k
    rw [dpI]; split <;> omega
theorem dpI_t {S : Sch} {k : Nat} (h : dep S 6 (dpI S k) < dep S 6 k) : dpI S (k + 1) = k := by rw [dpI, if_pos h]
theorem dpI_f {S : Sch} {k : Nat} (h : ¬ dep S 6 (dpI S k) < dep S 6 k) : dpI S (k + 1) = dpI S k := by rw [dpI, if_neg h]
def x_deepest (B : Bx) : Bx × Int32 := match B with
  | (N, K) => if sP N = 0 then rfS B 3 (-5) else ((N, K), nI (dpI N (sP N)))
def x_asleep (B : Bx) (m : Int32) : Bx × Int32 := match B with
  | (N, K) => if inb m (sN N) then ((N, K), nI (bts (fun i => slp N i m.toNatClampNeg) (sP N))) else rfS B 0 (-2)
def x_surprises (B : Bx) : Bx × Int32 := match B with
  | (N, K) => ((N, K), nI (sur N 6))
/-- the run up to a morning and the longest so far -/
def lonL (s : Nat) : Nat → Nat
  | 0 => 0
  | k + 1 => if s.testBit k then lonL s k + 1 else 0
def lonM (s : Nat) : Nat → Nat
  | 0 => 0
  | k + 1 => max (lonM s k) (lonL s (k + 1))
theorem lonL_le (s : Nat) : ∀ k, lonL s k ≤ k
  | 0 => Nat.le_refl _
  | k + 1 => by have := lonL_le s k; unfold lonL; split <;> omega
theorem lonM_le (s : Nat) : ∀ k, lonM s k ≤ k
  | 0 => Nat.le_refl _
  | k + 1 => by have h1 := lonM_le s k; have h2 := lonL_le s (k + 1); unfold lonM; omega
theorem lonL_t {s k : Nat} (h : s.testBit k = true) : lonL s (k + 1) = lonL s k + 1 := by rw [lonL, if_pos h]
theorem lonL_f {s k : Nat} (h : s.testBit k = false) : lonL s (k + 1) = 0 := by rw [lonL, if_neg (by simp [h])]
def x_longest (B : Bx) : Bx × Int32 := match B with
  | (N, K) => ((N, K), nI (lonM (sur N 6) (sN N)))
abbrev wst (S : Sch) (m : Nat) : Nat := wsum (sW S) (still (sA S) m) (sN S)
abbrev wal (S : Sch) : Nat := wsum (sW S) (sA S) (sN S)
def x_odds (B : Bx) (m : Int32) : Bx × Int32 := match B with
  | (N, K) => if inb m (sN N) then if wst N m.toNatClampNeg = 0 then rfS B 3 (-5) else ((N, K), shI (lotN N m.toNatClampNeg) (wst N m.toNatClampNeg)) else rfS B 0 (-2)
abbrev odI (S : Sch) (m : Nat) : Int32 := shI (lotN S m) (wst S m)
def likM (S : Sch) : Nat → Int32
  | 0 => -1
  | k + 1 => if likM S k < odI S k then odI S k else likM S k
def likF (S : Sch) : Nat → Int32
  | 0 => -1
  | k + 1 => if likM S k < odI S k then nI k else likF S k
def x_likeliest (B : Bx) : Bx × Int32 := match B with
  | (N, K) => if likF N (sN N) = -1 then rfS B 3 (-5) else ((N, K), likF N (sN N))
def x_caught (B : Bx) : Bx × Int32 := match B with
  | (N, K) => if wal N = 0 then rfS B 3 (-5) else ((N, K), shI (wsum (sW N) (dif (sA N) (sur N 6)) (sN N)) (wal N))
def x_by (B : Bx) (m : Int32) : Bx × Int32 := match B with
  | (N, K) => if inb m (sN N) then if wal N = 0 then rfS B 3 (-5) else ((N, K), shI (wsum (sW N) (dif (sA N) (dif (still (sA N) m.toNatClampNeg) (2 ^ m.toNatClampNeg))) (sN N)) (wal N)) else rfS B 0 (-2)
def meanS (S : Sch) : Nat → Nat
  | 0 => 0
  | k + 1 => meanS S k + k * lotN S k
theorem meanS_le {S : Sch} (h : sOk S) : ∀ k, k ≤ 9 → meanS S k ≤ 81 * k
  | 0, _ => Nat.le_refl _
  | k + 1, hk => by
    have h1 := meanS_le h k (by omega)
    have h2 := lotN_le h (show k < 9 by omega)
    have h3 : k * lotN S k ≤ 9 * 9 := Nat.mul_le_mul (by omega) h2
    unfold meanS; omega
def x_mean (B : Bx) : Bx × Int32 := match B with
  | (N, K) => if wal N = 0 then rfS B 3 (-5) else ((N, K), nI ((1000 * meanS N (sN N)) / wal N))
def x_gain (B : Bx) (m w : Int32) : Bx × Int32 := match B with
  | (N, K) => if inb m (sN N) && wi w (nI 1) (nI 40) then if wst N m.toNatClampNeg = 0 then rfS B 3 (-10000005) else ((N, K), wgr (lotN N m.toNatClampNeg) w.toNatClampNeg (wst N m.toNatClampNeg)) else rfS B 0 (-10000002)
def x_bet (B : Bx) (w : Int32) : Bx × Int32 := match B with
  | (N, K) => if wi w (nI 1) (nI 40) then ((N, K), fP (fun m => (sA N).testBit m && noL N m w.toNatClampNeg) (sN N)) else rfS B 0 (-2)
def x_fair (B : Bx) (m : Int32) : Bx × Int32 := match B with
  | (N, K) => if inb m (sN N) then ((N, K), fP (fun w => decide (1 ≤ w) && noL N m.toNatClampNeg w) 41) else rfS B 0 (-2)
def x_second (B : Bx) (m v : Int32) : Bx × Int32 := match B with
  | (N, K) => if inb m (sN N) && inb v 9 then ((N, K), nI (bts (fun r => (sA N).testBit r && decide (m.toNatClampNeg < r + v.toNatClampNeg)) (sN N))) else rfS B 0 (-2)
theorem sec_c : ∀ m, m < 9 → ∀ v, v < 9 → ∀ r, r < 9 → decide (nI m - nI v < nI r) = decide (m < r + v) := by decide +kernel
def x_status (B : Bx) (w : Int32) : Bx × Int32 := match B with
  | (N, K, b, z, le, rf, hd, ln, vl) => (B, if w = nI 0 then nI (sN N) else if w = nI 1 then nI (sP N) else if w = nI 2 then nI (sD N) else if w = nI 3 then nI (sA N) else if w = nI 4 then nI (wal N) else if w = nI 5 then sT N else if w = nI 6 then sF N else if w = nI 7 then sX N else if w = nI 8 then nI z else if w = nI 9 then sG N else if w = nI 10 then nI (cnt (fun s => decide (hd s ≠ -1)) 8) else if w = nI 11 then nI (sur N 6) else if wi w (nI 12) (nI 16) then rf (w.toNatClampNeg - 12) else -1)
noncomputable def x_ring (B : Bx) : Bx × Int32 := match B with
  | (N, K) => if wal N = 0 then rfS B 3 (-5) else ((trmS N, K), nI (pkS N))
noncomputable def trmN (S : Sch) : Nat → Sch
  | 0 => S
  | k + 1 => trmS (trmN S k)
theorem trm_ok {S : Sch} (h : sOk S) : sOk (trmS S) := by unfold trmS; split <;> exact h
theorem trm_w (S : Sch) : wal (trmS S) = wal S := by unfold trmS; split <;> rfl
theorem trmN_ok {S : Sch} (h : sOk S) : ∀ k, sOk (trmN S k)
  | 0 => h
  | k + 1 => trm_ok (trmN_ok h k)
theorem trmN_w (S : Sch) : ∀ k, wal (trmN S k) = wal S
  | 0 => rfl
  | k + 1 => (trm_w _).trans (trmN_w S k)
noncomputable def x_rings (B : Bx) (n : Int32) : Bx × Int32 := match B with
  | (N, K) => if wi n (nI 1) (nI 40) then if wal N = 0 then rfS B 3 (-5) else ((trmN N n.toNatClampNeg, K), sX (trmN N n.toNatClampNeg) - sX N) else rfS B 0 (-2)
