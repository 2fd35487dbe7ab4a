/-! MSPEC2: the model's readers against the specs -/
theorem i64_k : ∀ n, n ≤ 100 → (nI n : Int32).toInt64.toInt = (n : Int) := by decide
theorem i64_ne {n : Nat} (h0 : 0 < n) (h : n ≤ 100) : ¬ (nI n : Int32).toInt64 = 0 := fun q => by
  have q2 := congrArg Int64.toInt q
  rw [i64_k n h, show (0 : Int64).toInt = 0 from by decide] at q2
  omega
theorem gl_at {a w y : Nat} (ha : a ≤ 9) (hw : w ≤ 40) (hy : 0 < y) (hy2 : y ≤ 81) : ((1000000 : Int64) * (nI a : Int32).toInt64 * (nI w : Int32).toInt64 / (nI y : Int32).toInt64).toInt32 = nI ((1000000 * (a * w)) / y) := by
  have p : a * w ≤ 9 * 40 := Nat.mul_le_mul ha hw
  have q : (1000000 * (a * w)) / y ≤ 1000000 * (a * w) := Nat.div_le_self _ _
  have e0 : (1000000 : Int64).toInt = 1000000 := by decide
  have e1 : ((1000000 : Int64) * (nI a : Int32).toInt64).toInt = 1000000 * (a : Int) := by
    rw [Int64.toInt_mul, e0, i64_k a (by omega)]
    apply Int.bmod_eq_of_le <;> omega
  have e2 : ((1000000 : Int64) * (nI a : Int32).toInt64 * (nI w : Int32).toInt64).toInt = ((1000000 * (a * w) : Nat) : Int) := by
    rw [Int64.toInt_mul, e1, i64_k w (by omega), Int.mul_assoc, ← Int.natCast_mul]
    have : (1000000 : Int) * ((a * w : Nat) : Int) = ((1000000 * (a * w) : Nat) : Int) := by omega
    rw [this]
    apply Int.bmod_eq_of_le <;> omega
  have e3 : ((1000000 : Int64) * (nI a : Int32).toInt64 * (nI w : Int32).toInt64 / (nI y : Int32).toInt64).toInt = (((1000000 * (a * w)) / y : Nat) : Int) := by
    rw [Int64.toInt_div, e2, i64_k y (by omega), ← Int.ofNat_tdiv]
    clear e2 e1
    generalize (1000000 * (a * w)) / y = c at q ⊢
    apply Int.bmod_eq_of_le <;> omega
  apply Int32.toInt_inj.mp
  rw [Int64.toInt_toInt32, e3, nI_toInt (by omega)]
  clear e3 e2 e1
  generalize (1000000 * (a * w)) / y = c at q ⊢
  apply Int.bmod_eq_of_le <;> omega
theorem nw4 {w : Int32} (h : inb w 4 = false) : ¬ w = nI 0 ∧ ¬ w = nI 1 ∧ ¬ w = nI 2 ∧ ¬ w = nI 3 := by
  refine ⟨?_, ?_, ?_, ?_⟩ <;> (intro e; rw [e] at h; exact absurd h (by decide))
theorem prR_s {f : Nat → Nat → Bool} {i p : Nat} (h : i < p) : prR f i (p + 1) = prR f i p + if f i p then 1 else 0 := by
  rw [prR, decide_eq_true h, Bool.true_and]
theorem prs_s (f : Nat → Nat → Bool) (p : Nat) : ∀ {k : Nat}, k ≤ p → prs f (p + 1) k = prs f p k + cnt (fun i => f i p) k
  | 0, _ => rfl
  | k + 1, h => by
    rw [prs, prs, cnt, prs_s f p (k := k) (by omega), prR_s (by omega)]
    omega
/-- pairs counted the other way round -/
def pmS (f : Nat → Nat → Bool) : Nat → Nat
  | 0 => 0
  | k + 1 => pmS f k + cnt (fun j => f k j) k
theorem prs_pm {f : Nat → Nat → Bool} (h : ∀ i j, f i j = f j i) : ∀ n, prs f n n = pmS f n
  | 0 => rfl
  | n + 1 => by
    rw [prs, prs_s f n (Nat.le_refl _), prR_0 f n (Nat.le_refl _), prs_pm h n, pmS]
    have e : (fun i => f i n) = (fun j => f n j) := funext fun i => h i n
    rw [e]; rfl
theorem pmS_le (f : Nat → Nat → Bool) (n : Nat) : ∀ k, k ≤ n → pmS f k ≤ n * k
  | 0, _ => Nat.le_refl _
  | k + 1, h => by
    have h1 := pmS_le f n k (by omega)
    have h2 := cnt_le (fun j => f k j) k
    rw [pmS, Nat.mul_succ]; omega
theorem ag_sym (S : Sch) (m i j : Nat) : agF S m i j = agF S m j i := by
  show decide _ = decide _
  exact decide_eq_decide.mpr eq_comm
theorem od_z {S : Sch} {k : Nat} (h : wst S k = 0) : odI S k = -1 := by rw [odI, shI, if_pos h]
theorem od_lt {S : Sch} (hS : sOk S) {k : Nat} (hk : k < 9) : (1000000 * lotN S k) / wst S k < 2 ^ 31 := by
  have h1 := lotN_le hS hk
  have h2 : (1000000 * lotN S k) / wst S k ≤ 1000000 * lotN S k := Nat.div_le_self _ _
  omega
theorem od_n {S : Sch} {k : Nat} (h : ¬ wst S k = 0) : odI S k = nI ((1000000 * lotN S k) / wst S k) := by rw [odI, shI, if_neg h]
theorem m1_lt {a : Nat} (ha : a < 2 ^ 31) : (-1 : Int32) < nI a := Int32.lt_of_lt_of_le (show (-1 : Int32) < 0 by decide) (nI_pos' ha)
theorem od_pos {S : Sch} (hS : sOk S) {k : Nat} (hk : k < 9) (h : ¬ wst S k = 0) : (-1 : Int32) < odI S k := by
  rw [od_n h]; exact m1_lt (od_lt hS hk)
theorem lik_c {S : Sch} (hS : sOk S) : ∀ {k : Nat}, k ≤ 9 → (likF S k = -1 ∧ likM S k = -1) ∨ (∃ j, j < k ∧ likF S k = nI j ∧ likM S k = odI S j ∧ ¬ wst S j = 0)
  | 0, _ => .inl ⟨rfl, rfl⟩
  | k + 1, h => by
    by_cases q : likM S k < odI S k
    · have hw : ¬ wst S k = 0 := by
        intro z
        rw [od_z z] at q
        rcases lik_c hS (k := k) (by omega) with ⟨e1, e2⟩ | ⟨j, hj, e1, e2, e3⟩
        · rw [e2] at q; exact absurd q (by decide)
        · rw [e2] at q; exact absurd (Int32.lt_trans q (od_pos hS (show j < 9 by omega) e3)) (fun z => Int32.lt_irrefl z)
      exact .inr ⟨k, by omega, by rw [likF, if_pos q], by rw [likM, if_pos q], hw⟩
    · rcases lik_c hS (k := k) (by omega) with ⟨e1, e2⟩ | ⟨j, hj, e1, e2, e3⟩
      · exact .inl ⟨by rw [likF, if_neg q, e1], by rw [likM, if_neg q, e2]⟩
      · exact .inr ⟨j, by omega, by rw [likF, if_neg q, e1], by rw [likM, if_neg q, e2], e3⟩
theorem lik_z {S : Sch} (hS : sOk S) {k : Nat} (hk : k < 9) (h : wst S k = 0) : ¬ likM S k < odI S k := by
  intro q
  rw [od_z h] at q
  rcases lik_c hS (k := k) (by omega) with ⟨e1, e2⟩ | ⟨j, hj, e1, e2, e3⟩
  · rw [e2] at q; exact absurd q (by decide)
  · rw [e2] at q; exact absurd (Int32.lt_trans q (od_pos hS (show j < 9 by omega) e3)) (fun z => Int32.lt_irrefl z)
theorem by_eq (a m : Nat) : a &&& (2 ^ (m + 1) - 1) = dif a (dif (still a m) (2 ^ m)) := by
  refine Nat.eq_of_testBit_eq fun k => ?_
  rw [dif_tb, dif_tb, still_tb, Nat.testBit_and, Nat.testBit_two_pow_sub_one, Nat.testBit_two_pow]
  by_cases h1 : k < m + 1
  · by_cases h2 : m = k
    · subst h2; simp
    · have : ¬ m ≤ k := by omega
      simp [h1, this]
  · have h2 : m ≤ k := by omega
    have h3 : ¬ m = k := by omega
    simp [h1, h2, h3]
/-- runs by shifting -/
theorem lon_b : ∀ x, x < 512 → x = 0 ∨ lonM x 9 = lonM (x &&& (x >>> 1)) 9 + 1 := by decide +kernel
theorem lon_0 : lonM 0 9 = 0 := by decide
theorem lon_hi {x n : Nat} (h : x < 2 ^ n) : ∀ d, lonM x (n + d) = lonM x n
  | 0 => rfl
  | d + 1 => by
    rw [← Nat.add_assoc, lonM, lon_hi h d, lonL_f (tb_ge h (by omega))]
    omega
theorem lon_9 {S : Sch} (hS : sOk S) : lonM (sur S 6) 9 = lonM (sur S 6) (sN S) := by
  have o2 := hS.2.1
  have := lon_hi (x := sur S 6) (n := sN S) (bts_lt _ _) (9 - sN S)
  rw [show sN S + (9 - sN S) = 9 by omega] at this
  exact this
theorem sh1_lt {x : Nat} (h : ¬ x = 0) : x &&& (x >>> 1) < x := by
  have h1 : x &&& (x >>> 1) ≤ x >>> 1 := Nat.and_le_right
  rw [Nat.shiftRight_eq_div_pow] at h1
  have : x / 2 ^ 1 < x := Nat.div_lt_self (by omega) (by decide)
  rw [Nat.shiftRight_eq_div_pow]
  omega
theorem say_e {P : Nat → Bool} {F : Int32} {k n : Nat} (hq : (F = -1 ∧ ∀ j, j < k → P j = false) ∨ (0 ≤ F ∧ F = fP P n)) (h : n ≤ k ∨ 0 ≤ F) : F = fP P n := by
  rcases hq with ⟨e, q⟩ | ⟨_, e⟩
  · rcases h with h | h
    · rw [e, fP_no (fun j hj => q j (by omega))]
    · rw [e] at h; exact absurd h (by decide)
  · exact e
theorem say_n {P : Nat → Bool} {F : Int32} {k n : Nat} (hq : (F = -1 ∧ ∀ j, j < k → P j = false) ∨ (0 ≤ F ∧ F = fP P n)) (h : ¬ 0 ≤ F) : F = -1 ∧ ∀ j, j < k → P j = false := by
  rcases hq with q | ⟨e, _⟩
  · exact q
  · exact absurd e h
theorem fP_ext {P Q : Nat → Bool} : ∀ {n : Nat}, (∀ j, j < n → P j = Q j) → fP P n = fP Q n
  | 0, _ => rfl
  | n + 1, h => by rw [fP, fP, fP_ext (fun j hj => h j (by omega)), h n (by omega)]
theorem and_all {x n : Nat} (h : x < 2 ^ n) : x &&& (2 ^ n - 1) = x := by
  rw [Nat.and_two_pow_sub_one_eq_mod, Nat.mod_eq_of_lt h]
theorem lsA_511 {S : Sch} (h : sN S ≤ 9) : lsA S 511 = lsA S (2 ^ sN S - 1) := by
  refine fP_ext fun v _ => ?_
  have h1 : sur (stD S v) 6 < 2 ^ sN S := bts_lt _ _
  have h2 : sur (stD S v) 6 < 2 ^ 9 := Nat.lt_of_lt_of_le h1 (Nat.pow_le_pow_right (by decide) h)
  rw [show (511 : Nat) = 2 ^ 9 - 1 from rfl, and_all h1, and_all h2]
theorem upN_id (f : Nat → Nat) (i : Nat) : updN f i (f i) = f := by
  funext j; unfold updN; split
  · rename_i e; rw [e]
  · rfl
theorem awI_n {i : Nat} (h : i < 6) : nI i = awI i := by unfold awI; rw [if_neg (by omega)]
/-! without somebody: two ways -/
theorem mxD_iff (S : Sch) (aw x : Nat) : ∀ n, mxD S aw n ≤ x ↔ ∀ j, j < n → sK S j ≠ 4 → j ≠ aw → ownD S j + 1 ≤ x
  | 0 => ⟨fun _ j hj => by omega, fun _ => Nat.zero_le _⟩
  | n + 1 => by
    rw [mxD]
    have ih := mxD_iff S aw x n
    constructor
    · intro h j hj h1 h2
      by_cases e : j = n
      · subst e; rw [if_pos ⟨h1, h2⟩] at h; omega
      · refine ih.mp ?_ j (by omega) h1 h2
        split at h <;> omega
    · intro h
      have h3 := ih.mpr (fun j hj => h j (by omega))
      split
      · rename_i q
        have := h n (by omega) q.1 q.2
        omega
      · exact h3
theorem shf_at (f : Nat → Nat) {i p j : Nat} (h : j < p - 1) : shf f i p j = f (if i ≤ j then j + 1 else j) := by
  unfold shf
  by_cases e : i ≤ j
  · rw [if_pos ⟨e, by omega⟩, if_pos e]
  · rw [if_neg (fun q => e q.1), if_neg e]
abbrev rho (i j : Nat) : Nat := if i ≤ j then j + 1 else j
theorem ownD_rm {S : Sch} {i j : Nat} (h : j < sP S - 1) : ownD (rmS S i) j = ownD S (rho i j) := by
  show min (shf (sO S) i (sP S) j) (sD S) + (if shf (sK S) i (sP S) j = 3 then 1 else 0) = _
  rw [shf_at _ h, shf_at _ h]; rfl
theorem rho_ex {i k p : Nat} (hk : k < p) (hi : ¬ k = i) (hip : i < p) : ∃ j, j < p - 1 ∧ rho i j = k := by
  by_cases q : i ≤ k
  · exact ⟨k - 1, by omega, by unfold rho; rw [if_pos (by omega)]; omega⟩
  · exact ⟨k, by omega, by unfold rho; rw [if_neg q]⟩
theorem rho_lt {i j p : Nat} (h : j < p - 1) : rho i j < p := by unfold rho; split <;> omega
theorem rho_ne (i j : Nat) : ¬ rho i j = i := by unfold rho; split <;> omega
theorem mxD_rm {S : Sch} {i : Nat} (hi : i < sP S) (hp : sP S ≤ 6) : mxD (rmS S i) 6 (sP S - 1) = mxD S i (sP S) := by
  apply Nat.le_antisymm
  · refine (mxD_iff _ _ _ _).mpr fun j hj h1 h2 => ?_
    have e : sK (rmS S i) j = sK S (rho i j) := shf_at _ hj
    rw [ownD_rm hj]
    refine (mxD_iff S i _ (sP S)).mp (Nat.le_refl _) _ (rho_lt hj) (by rw [← e]; exact h1) (rho_ne i j)
  · refine (mxD_iff _ _ _ _).mpr fun k hk h1 h2 => ?_
    obtain ⟨j, hj, rfl⟩ := rho_ex hk h2 hi
    have e : sK (rmS S i) j = sK S (rho i j) := shf_at _ hj
    rw [← ownD_rm hj]
    exact (mxD_iff (rmS S i) 6 _ (sP S - 1)).mp (Nat.le_refl _) j hj (by rw [e]; exact h1) (by omega)
theorem dep_rm {S : Sch} {i j : Nat} (hi : i < sP S) (hp : sP S ≤ 6) (hj : j < sP S - 1) : dep (rmS S i) 6 j = dep S i (rho i j) := by
  show (if shf (sK S) i (sP S) j = 4 then min (mxD (rmS S i) 6 (sP S - 1)) (sD S) else ownD (rmS S i) j) = _
  rw [mxD_rm hi hp, ownD_rm hj, shf_at _ hj]; rfl
theorem expP_rm {S : Sch} {i j m : Nat} (hi : i < sP S) (hp : sP S ≤ 6) (hj : j < sP S - 1) : expP (rmS S i) 6 j m = expP S i (rho i j) m := by
  have ek : sK (rmS S i) j = sK S (rho i j) := shf_at _ hj
  have eo : sO (rmS S i) j = sO S (rho i j) := shf_at _ hj
  have eb : betP (rmS S i) j m = betP S (rho i j) m := by
    unfold betP; rw [ek, eo]
  have es : slp (rmS S i) j m = slp S (rho i j) m := by
    unfold slp; rw [ek, eo]
  have ec : canB (rmS S i) 6 j m = canB S i (rho i j) m := by
    unfold canB; rw [dep_rm hi hp hj]
  unfold expP; rw [eb, es, ec, ek]
theorem sur_rm {S : Sch} {i : Nat} (hi : i < sP S) (hp : sP S ≤ 6) : sur (rmS S i) 6 = sur S i := by
  refine bts_ext fun m _ => ?_
  show ((sA S).testBit m && whoE (rmS S i) 6 m == 0) = ((sA S).testBit m && whoE S i m == 0)
  congr 1
  have key : whoE (rmS S i) 6 m = 0 ↔ whoE S i m = 0 := by
    rw [whoE_0, whoE_0]
    constructor
    · intro h k hk hne
      obtain ⟨j, hj, rfl⟩ := rho_ex hk hne hi
      rw [← expP_rm hi hp hj]
      exact h j hj (by omega)
    · intro h j hj _
      rw [expP_rm hi hp hj]
      exact h _ (rho_lt hj) (rho_ne i j)
  by_cases q : whoE S i m = 0
  · rw [q, key.mpr q]
  · have q2 : ¬ whoE (rmS S i) 6 m = 0 := fun z => q (key.mp z)
    rw [beq_eq_false_iff_ne.mpr q, beq_eq_false_iff_ne.mpr q2]
theorem mw_eq {S : Sch} {i : Nat} (hi : i < sP S) (hp : sP S ≤ 6) : nI (bcn (sur S i)) - nI (bcn (sur S 6)) = mwI S i := by
  unfold mwI; rw [sur_rm hi hp]
/-! hints -/
theorem sur_A0 (S : Sch) : sur (stA S 0) 6 = 0 := tb_zero fun k => by
  rw [sur_tb]
  show (decide (k < sN S) && ((0 : Nat).testBit k && _)) = false
  simp
theorem hC_0 (S : Sch) : hC S 0 = 0 := by rw [hC, sur_A0]; decide
theorem dif_0 {k a : Nat} (h : dif k a = 0) : k ≤ a := by
  refine Nat.le_of_testBit fun i hi => ?_
  have := congrArg (fun z => z.testBit i) h
  simp only [dif_tb, Nat.zero_testBit, hi, Bool.true_and] at this
  simpa using this
theorem h_hi (S : Sch) : ∀ d, hF S (sA S + 1 + d) = hF S (sA S + 1) ∧ hM S (sA S + 1 + d) = hM S (sA S + 1)
  | 0 => ⟨rfl, rfl⟩
  | d + 1 => by
    have ih := h_hi S d
    have q : ¬ dif (sA S + 1 + d) (sA S) = 0 := fun z => by have := dif_0 z; omega
    constructor
    · rw [← Nat.add_assoc, hF_n (fun z => q z.2.1)]; exact ih.1
    · rw [← Nat.add_assoc, hM_n (fun z => q z.2.1)]; exact ih.2
theorem h_512 {S : Sch} (h : sA S < 512) : hF S 512 = hF S (sA S + 1) ∧ hM S 512 = hM S (sA S + 1) := by
  have := h_hi S (511 - sA S)
  rw [show sA S + 1 + (511 - sA S) = 512 by omega] at this
  exact this
theorem hM_hC (S : Sch) : ∀ k, hM S (k + 1) = hC S (hF S (k + 1))
  | 0 => by rw [(h_1 S).1, (h_1 S).2, hC_0]
  | k + 1 => by
    have ih := hM_hC S k
    by_cases h : 1 ≤ k + 1 ∧ dif (k + 1) (sA S) = 0 ∧ (hM S (k + 1) < hC S (k + 1) ∨ (hC S (k + 1) = hM S (k + 1) ∧ bcn (k + 1) < bcn (hF S (k + 1))))
    · rw [hF_y h, hM_y h.1 h.2.1 (by omega)]
    · rw [hF_n h, hM_n (fun z => h ⟨z.1, z.2.1, .inl z.2.2⟩), ih]
def hMI (S : Sch) (k : Nat) : Int32 := if k = 0 then -1 else nI (hM S k)
theorem hF_0 (S : Sch) : hF S 0 = 0 := rfl
