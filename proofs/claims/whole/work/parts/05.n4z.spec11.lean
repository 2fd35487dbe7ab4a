/-! SPEC11: the least row -/
def sm (w : Nat → Nat) : Nat → Nat
  | 0 => 0
  | k + 1 => sm w k + w k
theorem sm_eq {w v : Nat → Nat} : ∀ {n : Nat}, (∀ k, k < n → w k = v k) → sm w n = sm v n
  | 0, _ => rfl
  | n + 1, h => by rw [sm, sm, sm_eq (fun k hk => h k (by omega)), h n (by omega)]
theorem sm_up {w : Nat → Nat} {i v : Nat} : ∀ {n : Nat}, i < n → sm (updN w i v) n + w i = sm w n + v
  | 0, h => by omega
  | n + 1, h => by
    rw [sm, sm]
    by_cases e : i = n
    · subst e
      rw [sm_eq (w := updN w i v) (v := w) (fun k hk => by unfold updN; rw [if_neg (by omega)])]
      have : updN w i v i = v := by unfold updN; rw [if_pos rfl]
      omega
    · have q := sm_up (w := w) (v := v) (n := n) (i := i) (by omega)
      have : updN w i v n = w n := by unfold updN; rw [if_neg (by omega)]
      omega
theorem sm_le {w : Nat → Nat} {i : Nat} : ∀ {n : Nat}, i < n → w i ≤ sm w n
  | 0, h => by omega
  | n + 1, h => by
    rw [sm]
    by_cases e : i = n
    · subst e; omega
    · have q := sm_le (w := w) (n := n) (i := i) (by omega)
      omega
theorem lwF_hi {w : Nat → Nat} {j : Nat} (hj : j < 2 ^ 31) : ∀ {n : Nat}, n < 2 ^ 31 → lwF w n = nI j → ∀ k, j < k → k < n → w k = 0
  | 0, _, _, k, _, h => by omega
  | n + 1, hn, h, k, h1, h2 => by
    unfold lwF at h
    split at h
    · rename_i q
      by_cases e : k = n
      · rw [e]; exact q
      · exact lwF_hi hj (n := n) (by omega) h k h1 (by omega)
    · have e : n = j := by have := congrArg Int32.toNatClampNeg h; rw [nI_clamp (by omega), nI_clamp hj] at this; exact this
      omega
abbrev wIv (S : Sch) (t : Nat) : Prop := (∀ k, k < 9 → ¬ sW S k = 0 → (sA S).testBit k = true) ∧ sm (sW S) 9 = t
theorem lg_tb : ∀ x, x < 512 → x = 0 ∨ x.testBit x.log2 = true := by decide +kernel
theorem lg_hi : ∀ x, x < 512 → ∀ k, k < 9 → ¬ x.testBit k = true ∨ k ≤ x.log2 := by decide +kernel
theorem lg_lo : ∀ x, x < 512 → ∀ i, i < 9 → (x &&& (2 ^ i - 1)) = 0 ∨ (x &&& (2 ^ i - 1)).log2 < i ∧ x.testBit (x &&& (2 ^ i - 1)).log2 = true := by decide +kernel
theorem mv_at {S : Sch} (hS : sOk S) (h : mvB S = true) : ∃ i, i < sN S ∧ lwF (sW S) (sN S) = nI i ∧ ¬ sW S i = 0 ∧ mvI S = i ∧ ¬ (sA S &&& (2 ^ i - 1)) = 0 := by
  simp only [mvB, Bool.and_eq_true, decide_eq_true_eq] at h
  obtain ⟨i, h1, h2, h3⟩ := lwF_at h.1
  have o2 := hS.2.1
  have e : mvI S = i := by rw [mvI, h2, nI_clamp (by omega)]
  exact ⟨i, h1, h2, h3, e, by rw [← e]; exact h.2⟩
theorem mv_inv {S : Sch} {t : Nat} (hS : sOk S) (hw : wIv S t) (h : mvB S = true) : wIv (stW S (mvT S)) t := by
  obtain ⟨i, h1, h2, h3, h4, h5⟩ := mv_at hS h
  have o2 := hS.2.1
  have oA := sA_512 hS
  have a0 : ¬ sA S = 0 := fun q => h5 (by rw [q]; exact Nat.zero_and _)
  have hL := (lg_tb (sA S) oA).resolve_left a0
  have hL9 := log2_lt9 oA
  have hj := (lg_lo (sA S) oA i (by omega)).resolve_left h5
  have hiL := (lg_hi (sA S) oA i (by omega)).resolve_left (fun q => q (hw.1 i (by omega) h3))
  have hLn : (sA S).log2 < sN S := by
    refine Nat.lt_of_not_le (fun q => ?_)
    rw [tb_ge hS.2.2.1 q] at hL
    exact absurd hL (by decide)
  have e : mvT S = mvW S i (sA S &&& (2 ^ i - 1)).log2 := by rw [mvT, if_pos h, h4]
  generalize hjj : (sA S &&& (2 ^ i - 1)).log2 = j at hj e
  generalize hll : (sA S).log2 = L at hL hL9 hiL hLn
  have eW : sW (stW S (mvT S)) = updN (updN (updN (sW S) i 0) j (updN (sW S) i 0 j + 1)) L (sW S i - 1) := by
    show mvT S = _
    rw [e, mvW, hll]
  have w2 : updN (updN (sW S) i 0) j (updN (sW S) i 0 j + 1) L = 0 := by
    unfold updN
    rw [if_neg (show ¬ L = j by omega)]
    by_cases q : L = i
    · rw [if_pos q]
    · rw [if_neg q]
      exact lwF_hi (by omega) (by omega) h2 L (by omega) hLn
  refine ⟨?_, ?_⟩
  · intro k hk
    rw [eW]
    show _ → (sA S).testBit k = true
    intro q
    by_cases k1 : k = L
    · rw [k1]; exact hL
    · by_cases k2 : k = j
      · rw [k2]; exact hj.2
      · apply hw.1 k hk
        intro z
        apply q
        unfold updN
        rw [if_neg k1, if_neg k2]
        split
        · rfl
        · exact z
  · rw [eW]
    have s1 := sm_up (w := sW S) (i := i) (v := 0) (n := 9) (by omega)
    have s2 := sm_up (w := updN (sW S) i 0) (i := j) (v := updN (sW S) i 0 j + 1) (n := 9) (by omega)
    have s3 := sm_up (w := updN (updN (sW S) i 0) j (updN (sW S) i 0 j + 1)) (i := L) (v := sW S i - 1) (n := 9) hL9
    rw [w2] at s3
    have := hw.2
    omega
theorem mv_ok {S : Sch} {t : Nat} (hS : sOk S) (hw : wIv S t) (ht : t ≤ 9) (h : mvB S = true) : sOk (stW S (mvT S)) := by
  have q := mv_inv hS hw h
  refine ok_W hS (fun k hk => ?_)
  have := sm_le (w := sW (stW S (mvT S))) (i := k) (n := 9) hk
  have e := q.2
  show sW (stW S (mvT S)) k ≤ 9
  omega
theorem pa_inv {S : Sch} (hS : sOk S) (hA : ¬ sA S = 0) (t : Nat) : wIv (stW S (updN zer9 (sA S).log2 t)) t := by
  have oA := sA_512 hS
  refine ⟨?_, ?_⟩
  · intro k hk q
    by_cases e : k = (sA S).log2
    · rw [e]; exact (lg_tb (sA S) oA).resolve_left hA
    · exact absurd (show updN zer9 (sA S).log2 t k = 0 by unfold updN; rw [if_neg e]; rfl) q
  · have s1 := sm_up (w := zer9) (i := (sA S).log2) (v := t) (n := 9) (log2_lt9 oA)
    have z0 : sm zer9 9 = 0 := by decide
    have z1 : zer9 (sA S).log2 = 0 := rfl
    show sm (updN zer9 (sA S).log2 t) 9 = t
    omega
theorem pa_ok {S : Sch} (hS : sOk S) (hA : ¬ sA S = 0) {t : Nat} (ht : t ≤ 9) : sOk (stW S (updN zer9 (sA S).log2 t)) := by
  have q := pa_inv hS hA t
  refine ok_W hS (fun k hk => ?_)
  have := sm_le (w := sW (stW S (updN zer9 (sA S).log2 t))) (i := k) (n := 9) hk
  have e := q.2
  show sW (stW S (updN zer9 (sA S).log2 t)) k ≤ 9
  omega
/-- the search: R what is reasoned, l the least so far (-1: none), S the row at hand, br the best row -/
abbrev sbC (R : Nat) (S : Sch) : Nat := wsum (sW S) (sA S &&& (R ||| orF (bet S) (sP S))) (sN S)
def sbF (R : Nat) : Nat → Int32 → Sch → (Nat → Nat) → Int32 × (Nat → Nat)
  | 0, l, _, br => (l, br)
  | f + 1, l, S, br =>
    if l = -1 ∨ nI (sbC R S) < l then
      (if sbC R S = 0 ∨ mvB S = false then (nI (sbC R S), sW S) else sbF R f (nI (sbC R S)) (stW S (mvT S)) (sW S))
    else if l = 0 ∨ mvB S = false then (l, br) else sbF R f l (stW S (mvT S)) br
theorem sbF_1 {R f : Nat} {l : Int32} {S : Sch} {br : Nat → Nat} (hf : 0 < f) (h : l = -1 ∨ nI (sbC R S) < l) (h2 : sbC R S = 0 ∨ mvB S = false) : sbF R f l S br = (nI (sbC R S), sW S) := by
  cases f with
  | zero => omega
  | succ f => rw [sbF, if_pos h, if_pos h2]
theorem sbF_2 {R f : Nat} {l : Int32} {S : Sch} {br : Nat → Nat} (hf : 0 < f) (h : l = -1 ∨ nI (sbC R S) < l) (h2 : ¬ (sbC R S = 0 ∨ mvB S = false)) : sbF R f l S br = sbF R (f - 1) (nI (sbC R S)) (stW S (mvT S)) (sW S) := by
  cases f with
  | zero => omega
  | succ f => rw [sbF, if_pos h, if_neg h2]; rfl
theorem sbF_3 {R f : Nat} {l : Int32} {S : Sch} {br : Nat → Nat} (hf : 0 < f) (h : ¬ (l = -1 ∨ nI (sbC R S) < l)) (h2 : l = 0 ∨ mvB S = false) : sbF R f l S br = (l, br) := by
  cases f with
  | zero => omega
  | succ f => rw [sbF, if_neg h, if_pos h2]
theorem sbF_4 {R f : Nat} {l : Int32} {S : Sch} {br : Nat → Nat} (hf : 0 < f) (h : ¬ (l = -1 ∨ nI (sbC R S) < l)) (h2 : ¬ (l = 0 ∨ mvB S = false)) : sbF R f l S br = sbF R (f - 1) l (stW S (mvT S)) br := by
  cases f with
  | zero => omega
  | succ f => rw [sbF, if_neg h, if_neg h2]; rfl
theorem sbF_i {R f : Nat} {S : Sch} (br br' : Nat → Nat) (hf : 0 < f) : sbF R f (-1) S br = sbF R f (-1) S br' := by
  cases f with
  | zero => omega
  | succ f => rw [sbF, sbF, if_pos (Or.inl rfl), if_pos (Or.inl rfl)]
abbrev paS (S : Sch) (t : Nat) : Sch := stW S (updN zer9 (sA S).log2 t)
def sbT (S : Sch) (t : Nat) : Int32 × (Nat → Nat) := sbF (orF (reas (paS S t)) (sP S)) 100000 (-1) (paS S t) zer9
def x_best (B : Bx) (x m : Int32) : Bx × Int32 := match B with
  | (N, K) =>
    if wi x (nI 1) (nI 6) then
      if m = -1 then (if sA N = 0 then rfS B 3 (-5) else ((N, K), (sbT N x.toNatClampNeg).1))
      else if inb m (sN N) then (if sA N = 0 then rfS B 3 (-5) else ((N, K), nI ((sbT N x.toNatClampNeg).2 m.toNatClampNeg)))
      else rfS B 0 (-2)
    else rfS B 0 (-2)
