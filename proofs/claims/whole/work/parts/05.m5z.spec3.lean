/-! SPEC3: what-ifs -/
abbrev stA (S : Sch) (a : Nat) : Sch := (sN S, a, sW S, sD S, sP S, sK S, sO S, sG S, sT S, sF S, sX S)
abbrev stD (S : Sch) (v : Nat) : Sch := (sN S, sA S, sW S, v, sP S, sK S, sO S, sG S, sT S, sF S, sX S)
abbrev stK (S : Sch) (f : Nat → Nat) : Sch := (sN S, sA S, sW S, sD S, sP S, f, sO S, sG S, sT S, sF S, sX S)
abbrev stO (S : Sch) (f : Nat → Nat) : Sch := (sN S, sA S, sW S, sD S, sP S, sK S, f, sG S, sT S, sF S, sX S)
abbrev stW (S : Sch) (f : Nat → Nat) : Sch := (sN S, sA S, f, sD S, sP S, sK S, sO S, sG S, sT S, sF S, sX S)
abbrev rmS (S : Sch) (i : Nat) : Sch := (sN S, sA S, sW S, sD S, sP S - 1, shf (sK S) i (sP S), shf (sO S) i (sP S), sG S, sT S, sF S, sX S)
theorem ok_A {S : Sch} (h : sOk S) {a : Nat} (ha : a < 2 ^ sN S) : sOk (stA S a) := ⟨h.1, h.2.1, ha, h.2.2.2.1, h.2.2.2.2.1, h.2.2.2.2.2.1, h.2.2.2.2.2.2.1, h.2.2.2.2.2.2.2⟩
theorem ok_D {S : Sch} (h : sOk S) {v : Nat} (hv : v ≤ 9) : sOk (stD S v) := ⟨h.1, h.2.1, h.2.2.1, h.2.2.2.1, hv, h.2.2.2.2.2.1, h.2.2.2.2.2.2.1, h.2.2.2.2.2.2.2⟩
theorem ok_K {S : Sch} (h : sOk S) {f : Nat → Nat} (hf : ∀ i, i < 6 → f i < 6) : sOk (stK S f) := ⟨h.1, h.2.1, h.2.2.1, h.2.2.2.1, h.2.2.2.2.1, h.2.2.2.2.2.1, hf, h.2.2.2.2.2.2.2⟩
theorem ok_O {S : Sch} (h : sOk S) {f : Nat → Nat} (hf : ∀ i, i < 6 → f i ≤ 9) : sOk (stO S f) := ⟨h.1, h.2.1, h.2.2.1, h.2.2.2.1, h.2.2.2.2.1, h.2.2.2.2.2.1, h.2.2.2.2.2.2.1, hf⟩
theorem ok_W {S : Sch} (h : sOk S) {f : Nat → Nat} (hf : ∀ i, i < 9 → f i ≤ 9) : sOk (stW S f) := ⟨h.1, h.2.1, h.2.2.1, hf, h.2.2.2.2.1, h.2.2.2.2.2.1, h.2.2.2.2.2.2.1, h.2.2.2.2.2.2.2⟩
theorem shf_le {f : Nat → Nat} {n b : Nat} (h : ∀ i, i < n → f i ≤ b) (i p : Nat) (hp : p ≤ n) : ∀ j, j < n → shf f i p j ≤ b := by
  intro j hj
  unfold shf
  split
  · exact h _ (by omega)
  · exact h _ hj
theorem ok_R {S : Sch} (h : sOk S) (i : Nat) : sOk (rmS S i) := by
  refine ⟨h.1, h.2.1, h.2.2.1, h.2.2.2.1, h.2.2.2.2.1, ?_, ?_, ?_⟩
  · show sP S - 1 ≤ 6; have := h.2.2.2.2.2.1; omega
  · intro j hj
    have := shf_le (f := sK S) (n := 6) (b := 5) (fun i hi => by have := h.2.2.2.2.2.2.1 i hi; omega) i (sP S) h.2.2.2.2.2.1 j hj
    show shf (sK S) i (sP S) j < 6
    omega
  · exact shf_le (f := sO S) (n := 6) (b := 9) h.2.2.2.2.2.2.2 i (sP S) h.2.2.2.2.2.1
theorem up_le {f : Nat → Nat} {n b i v : Nat} (h : ∀ j, j < n → f j ≤ b) (hv : v ≤ b) : ∀ j, j < n → updN f i v j ≤ b := by
  intro j hj
  unfold updN
  split
  · exact hv
  · exact h j hj
theorem up_up (f : Nat → Nat) (i v w : Nat) : updN (updN f i v) i w = updN f i w := by
  funext j; unfold updN; split <;> rfl
theorem fil_le {f : Nat → Nat} {n b v : Nat} (h : ∀ j, j < n → f j ≤ b) (hv : v ≤ b) (k : Nat) : ∀ j, j < n → fillN f v k j ≤ b := by
  intro j hj
  unfold fillN
  split
  · exact hv
  · exact h j hj
theorem bcn_le (a : Nat) : bcn a ≤ 9 := cnt_le _ 9
def lsA (S : Sch) (s : Nat) : Int32 := fP (fun v => decide (sur (stD S v) 6 &&& s = 0)) 10
def x_will (B : Bx) : Bx × Int32 := match B with
  | (N, K) => ((N, K), lsA N (2 ^ sN N - 1))
def x_level (B : Bx) (m : Int32) : Bx × Int32 := match B with
  | (N, K) => if inb m (sN N) then ((N, K), lsA N (2 ^ m.toNatClampNeg)) else rfS B 0 (-2)
def mwI (S : Sch) (i : Nat) : Int32 := nI (bcn (sur (rmS S i) 6)) - nI (bcn (sur S 6))
def x_spoils (B : Bx) (i : Int32) : Bx × Int32 := match B with
  | (N, K) => if inb i (sP N) then ((N, K), mwI N i.toNatClampNeg) else rfS B 0 (-10000002)
def spM (S : Sch) : Nat → Int32
  | 0 => mwI S 0
  | k + 1 => if spM S k < mwI S k then mwI S k else spM S k
def spF (S : Sch) : Nat → Nat
  | 0 => 0
  | k + 1 => if spM S k < mwI S k then k else spF S k
theorem spM_1 (S : Sch) : spM S 1 = mwI S 0 := by simp [spM]
theorem spF_1 (S : Sch) : spF S 1 = 0 := by simp [spF]
theorem spF_le (S : Sch) : ∀ k, spF S k ≤ k
  | 0 => Nat.le_refl _
  | k + 1 => by have := spF_le S k; unfold spF; split <;> omega
def x_spoiler (B : Bx) : Bx × Int32 := match B with
  | (N, K) => if sP N = 0 then rfS B 3 (-5) else ((N, K), nI (spF N (sP N)))
def x_deeper (B : Bx) (i m : Int32) : Bx × Int32 := match B with
  | (N, K) => if inb i (sP N) && inb m (sN N) then ((N, K), fP (fun a => (expd (stO N (updN (sO N) i.toNatClampNeg a)) 6 i.toNatClampNeg).testBit m.toNatClampNeg) 10) else rfS B 0 (-2)
def x_crowd (B : Bx) (k : Int32) : Bx × Int32 := match B with
  | (N, K) => if inb k 6 then ((N, K), nI (sur (stK N (fillN (sK N) k.toNatClampNeg (sP N))) 6)) else rfS B 0 (-2)
abbrev hC (S : Sch) (s : Nat) : Nat := bcn (sur (stA S s) 6)
def hM (S : Sch) : Nat → Nat
  | 0 => 0
  | k + 1 => if 1 ≤ k ∧ dif k (sA S) = 0 ∧ hM S k < hC S k then hC S k else hM S k
def hF (S : Sch) : Nat → Nat
  | 0 => 0
  | k + 1 => if 1 ≤ k ∧ dif k (sA S) = 0 ∧ (hM S k < hC S k ∨ (hC S k = hM S k ∧ bcn k < bcn (hF S k))) then k else hF S k
theorem hF_le (S : Sch) : ∀ k, hF S k ≤ k
  | 0 => Nat.le_refl _
  | k + 1 => by have := hF_le S k; unfold hF; split <;> omega
theorem hF_A (S : Sch) : ∀ k, k ≤ sA S + 1 → hF S k ≤ sA S
  | 0, _ => Nat.zero_le _
  | k + 1, h => by have := hF_A S k (by omega); unfold hF; split <;> omega
theorem hM_le (S : Sch) : ∀ k, hM S k ≤ 9
  | 0 => Nat.zero_le _
  | k + 1 => by have := hM_le S k; have := bcn_le (sur (stA S k) 6); unfold hM; split <;> omega
theorem hF_y {S : Sch} {k : Nat} (h : 1 ≤ k ∧ dif k (sA S) = 0 ∧ (hM S k < hC S k ∨ (hC S k = hM S k ∧ bcn k < bcn (hF S k)))) : hF S (k + 1) = k := by rw [hF, if_pos h]
theorem hF_n {S : Sch} {k : Nat} (h : ¬ (1 ≤ k ∧ dif k (sA S) = 0 ∧ (hM S k < hC S k ∨ (hC S k = hM S k ∧ bcn k < bcn (hF S k))))) : hF S (k + 1) = hF S k := by rw [hF, if_neg h]
theorem hM_y {S : Sch} {k : Nat} (h1 : 1 ≤ k) (h2 : dif k (sA S) = 0) (h : hM S k ≤ hC S k) : hM S (k + 1) = hC S k := by
  rw [hM]; split
  · rfl
  · rename_i q; have : ¬ hM S k < hC S k := fun z => q ⟨h1, h2, z⟩
    omega
theorem hM_n {S : Sch} {k : Nat} (h : ¬ (1 ≤ k ∧ dif k (sA S) = 0 ∧ hM S k < hC S k)) : hM S (k + 1) = hM S k := by rw [hM, if_neg h]
theorem h_1 (S : Sch) : hF S 1 = 0 ∧ hM S 1 = 0 := ⟨by simp [hF], by simp [hM]⟩
def x_hints (B : Bx) (w : Int32) : Bx × Int32 := match B with
  | (N, K) => if inb w 2 then ((N, K), if w.toNatClampNeg = 0 then nI (hF N (sA N + 1)) else nI (hC N (hF N (sA N + 1)))) else rfS B 0 (-2)
def saiB (S : Sch) (i : Nat) : Bool := decide (sA S ≠ 0) && (expd S 6 i).testBit (sA S).log2
def saiI (S : Sch) (i k : Nat) : Int32 := if k = 0 then fstI (expd S 6 i) else if k = 1 then nI (cnt (slp S i) (sN S)) else if k = 2 then nI (bcn (expd S 6 i)) else if k = 5 then (if saiB S i then nI 1 else nI 0) else nI (dep S 6 i)
def x_says (B : Bx) (s k : Int32) : Bx × Int32 := match B with
  | (N, K, b, z, le, rf, hd, ln, vl) =>
    if inb s 8 && inb k 6 then
      if inb (hd s.toNatClampNeg) 5 then rfS B 1 (-3)
      else if nI 10 ≤ hd s.toNatClampNeg then
        if inb (hd s.toNatClampNeg - nI 10) (sP N) then
          if isK (sK N (hd s.toNatClampNeg - nI 10).toNatClampNeg) k.toNatClampNeg then (B, saiI N (hd s.toNatClampNeg - nI 10).toNatClampNeg k.toNatClampNeg) else rfS B 1 (-3)
        else rfS B 1 (-3)
      else rfS B 2 (-4)
    else rfS B 0 (-2)
/-- the set that a hint tells must lie within the mornings -/
def hinO (S : Sch) (x : Int32) : Bool := decide (x &&& (nI (2 ^ sN S - 1) ^^^ (-1)) = 0)
def x_hint (B : Bx) (x : Int32) : Bx × Int32 := match B with
  | (N, K) => if hinO N x then ((stA N (sA N &&& x.toNatClampNeg), K), nI (bcn (sA N &&& x.toNatClampNeg))) else rfS B 0 (-2)
theorem rr_c (hd : Nat → Int32) (s : Int32) : (inb s 8 = false ∧ rrS hd s = -2) ∨ (∃ j, j < 8 ∧ s = nI j ∧ inb (nI j) 8 = true ∧ nI 10 ≤ hd j ∧ rrS hd s = -3) ∨ (∃ j, j < 8 ∧ s = nI j ∧ inb (nI j) 8 = true ∧ (¬ nI 10 ≤ hd j) ∧ inb (hd j) 5 = true ∧ rrS hd s = nI 0) ∨ (∃ j, j < 8 ∧ s = nI j ∧ inb (nI j) 8 = true ∧ (¬ nI 10 ≤ hd j) ∧ inb (hd j) 5 = false ∧ rrS hd s = -4) := by
  cases h : inb s 8
  · exact .inl ⟨rfl, by simp [rrS, h]⟩
  · obtain ⟨j, hj, rfl⟩ := inb_at (by decide) h
    have e : (nI j).toNatClampNeg = j := nI_clamp (by omega)
    by_cases h1 : nI 10 ≤ hd j
    · exact .inr (.inl ⟨j, hj, rfl, h, h1, by simp [rrS, h, e, h1]⟩)
    · cases h2 : inb (hd j) 5
      · exact .inr (.inr (.inr ⟨j, hj, rfl, h, h1, h2, by simp [rrS, h, e, h1, h2]⟩))
      · exact .inr (.inr (.inl ⟨j, hj, rfl, h, h1, h2, by simp [rrS, h, e, h1, h2]⟩))
