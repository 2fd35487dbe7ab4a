/-! SPEC4: told rows -/
theorem nI_tbv (x : Int32) : x = nI x.toBitVec.toNat := by
  apply Int32.toBitVec_inj.mp
  show x.toBitVec = BitVec.ofNat 32 x.toBitVec.toNat
  simp
theorem bv_sub {n : Nat} {x y : BitVec n} (h : x &&& ~~~ y = 0) : x.toNat ≤ y.toNat := by
  have e : x = x &&& y := by
    apply BitVec.eq_of_getLsbD_eq
    intro i hi
    have q := congrArg (fun z => z.getLsbD i) h
    simp [hi] at q
    simp
    exact fun z => q z
  rw [e, BitVec.toNat_and]
  exact Nat.and_le_right
theorem hin_at {S : Sch} (h : sN S ≤ 9) {x : Int32} (hx : hinO S x = true) : ∃ j, j < 2 ^ sN S ∧ x = nI j := by
  have hx := of_decide_eq_true hx
  have hm : 2 ^ sN S - 1 < 2 ^ 31 := by have := Nat.pow_le_pow_right (n := 2) (by decide) h; omega
  have hb := congrArg Int32.toBitVec hx
  have e1 : (nI (2 ^ sN S - 1) ^^^ (-1)).toBitVec = ~~~ (nI (2 ^ sN S - 1)).toBitVec := by
    have q : (nI (2 ^ sN S - 1) ^^^ (-1)) = ~~~ (nI (2 ^ sN S - 1)) := by
      apply Int32.toBitVec_inj.mp
      rw [Int32.toBitVec_xor, Int32.toBitVec_not]
      show _ ^^^ (BitVec.allOnes 32) = _
      rw [BitVec.xor_allOnes]
    rw [q, Int32.toBitVec_not]
  rw [Int32.toBitVec_and, e1] at hb
  have hle := bv_sub (x := x.toBitVec) hb
  have e2 : (nI (2 ^ sN S - 1)).toBitVec.toNat = 2 ^ sN S - 1 := by
    show (BitVec.ofNat 32 (2 ^ sN S - 1)).toNat = _
    rw [BitVec.toNat_ofNat]; exact Nat.mod_eq_of_lt (by omega)
  rw [e2] at hle
  have := Nat.one_le_two_pow (n := sN S)
  exact ⟨x.toBitVec.toNat, by omega, nI_tbv x⟩
theorem sgx (z : BitVec 64) : BitVec.signExtend 32 z = z.setWidth 32 := by
  first
    | exact BitVec.signExtend_eq_setWidth_of_le z (by decide)
    | exact BitVec.signExtend_eq_setWidth_of_lt z (by decide)
    | exact BitVec.signExtend_eq_truncate_of_lt z (by decide)
    | (apply BitVec.eq_of_getLsbD_eq; intro i hi; simp [BitVec.getLsbD_signExtend]; omega)
def tolN (v : Int64) (p : Nat) : Nat := (v &&& (nI (2 ^ p - 1) : Int32).toInt64).toInt32.toNatClampNeg
theorem tol_at (v : Int64) {p : Nat} (hp : p ≤ 6) : (v &&& (nI (2 ^ p - 1) : Int32).toInt64).toInt32 = nI (tolN v p) ∧ tolN v p < 2 ^ 6 := by
  have key : ((v &&& (nI (2 ^ p - 1) : Int32).toInt64).toInt32).toBitVec.toNat < 2 ^ 6 := by
    have e : (nI (2 ^ p - 1) : Int32).toInt64.toBitVec.toNat ≤ 63 := by
      rcases (show p = 0 ∨ p = 1 ∨ p = 2 ∨ p = 3 ∨ p = 4 ∨ p = 5 ∨ p = 6 by omega) with rfl | rfl | rfl | rfl | rfl | rfl | rfl <;> decide
    have h1 : ((v &&& (nI (2 ^ p - 1) : Int32).toInt64).toInt32).toBitVec.toNat ≤ (v &&& (nI (2 ^ p - 1) : Int32).toInt64).toBitVec.toNat := by
      rw [Int64.toBitVec_toInt32, sgx, BitVec.toNat_setWidth]
      exact Nat.mod_le _ _
    have h2 : (v &&& (nI (2 ^ p - 1) : Int32).toInt64).toBitVec.toNat ≤ 63 := by
      rw [Int64.toBitVec_and, BitVec.toNat_and]
      exact Nat.le_trans Nat.and_le_right e
    omega
  have e := nI_tbv ((v &&& (nI (2 ^ p - 1) : Int32).toInt64).toInt32)
  have e2 : tolN v p = ((v &&& (nI (2 ^ p - 1) : Int32).toInt64).toInt32).toBitVec.toNat := by
    unfold tolN
    rw [e, nI_clamp (by omega), ← e]
  exact ⟨by rw [e2]; exact e, by rw [e2]; exact key⟩

/-- all of the first -/
def allB (P : Nat → Bool) : Nat → Bool
  | 0 => true
  | k + 1 => allB P k && P k
theorem allB_at {P : Nat → Bool} {k : Nat} : ∀ {n : Nat}, allB P n = true → k < n → P k = true
  | 0, _, h => by omega
  | n + 1, h, q => by
    simp only [allB, Bool.and_eq_true] at h
    by_cases e : k = n
    · rw [e]; exact h.2
    · exact allB_at (n := n) h.1 (by omega)
theorem allB_f {P : Nat → Bool} {k n : Nat} (q : k < n) (h : P k = false) : allB P n = false := by
  cases e : allB P n
  · rfl
  · rw [allB_at e q] at h; exact h
theorem allB_t {P : Nat → Bool} : ∀ {n : Nat}, (∀ j, j < n → P j = true) → allB P n = true
  | 0, _ => rfl
  | n + 1, h => by rw [allB, allB_t (fun j hj => h j (by omega)), h n (by omega)]; rfl
theorem all_s {P : Nat → Bool} {k : Nat} (h : ∀ j, j < k → P j = true) (hk : P k = true) : ∀ j, j < k + 1 → P j = true := by
  intro j hj
  by_cases e : j = k
  · rw [e]; exact hk
  · exact h j (by omega)
theorem hasR_N {n l : Nat} (hn : n < 2 ^ 31) (hl : l ≤ 40) : hasR (nI 0) (nI n) l = decide (n ≤ l) := by
  have h0 : ¬ nI 0 < 0 := by decide
  have h1 : ¬ nI n < 0 := nI_pos hn
  rw [hasR, decide_eq_true h0, decide_eq_true h1]
  rw [show nI l - nI 0 = nI l from by rw [pk_sub (Nat.zero_le _)]; rfl]
  simp only [Bool.true_and, decide_eq_decide]
  constructor
  · intro q; exact Nat.le_of_not_lt (fun z => absurd (nI_lt z hn) (Int32.not_lt.mpr q))
  · intro q; exact Int32.not_lt.mp (fun z => absurd ((nI_ltI (by omega) hn).mp z) (by omega))
def wagP (S : Sch) (v : Int64) : Bool := decide (¬ v < 0) && decide (¬ (nI (sN S) : Int32).toInt64 ≤ v / 100) && wi ((v - v / 100 * 100).toInt32) (nI 1) (nI 40)
def tI (v : Int64) : Nat := v.toInt32.toNatClampNeg
def morP (S : Sch) (v : Int64) : Bool := decide (¬ v < 0) && decide (v < (nI (sN S) : Int32).toInt64)
def fitP (S : Sch) (f : Nat → Int64) (c k j : Nat) : Bool := decide (f j = (nI ((c + k * j) % sN S) : Int32).toInt64)
def bkS (S : Sch) (f : Nat → Int64) : Nat → Int32
  | 0 => nI 0
  | k + 1 => bkS S f k + wgr (lotN S (tI (f k) / 100)) (tI (f k) % 100) (wal S)
def x_book (B : Bx) (s n : Int32) : Bx × Int32 := match B with
  | (N, K, b, z, le, rf, hd, ln, vl) =>
    if inb n 6 then
      if inb s 8 then
        if nI 10 ≤ hd s.toNatClampNeg then rfS B 1 (-10000003)
        else if inb (hd s.toNatClampNeg) 5 then
          if decide (n.toNatClampNeg ≤ ln s.toNatClampNeg) && allB (fun j => wagP N (vl s.toNatClampNeg j)) n.toNatClampNeg then
            if wal N = 0 then rfS B 3 (-10000005) else (B, bkS N (vl s.toNatClampNeg) n.toNatClampNeg)
          else rfS B 0 (-10000002)
        else rfS B 2 (-10000004)
      else rfS B 0 (-10000002)
    else rfS B 0 (-10000002)
def ruC (P : Nat → Nat → Bool) (c : Nat) : Nat → Nat
  | 0 => 0
  | k + 1 => if P c k then ruC P c k + 1 else ruC P c k
def ruT (P : Nat → Nat → Bool) (p : Nat) : Nat → Nat
  | 0 => 0
  | c + 1 => ruT P p c + ruC P c p
def ruX (P : Nat → Nat → Bool) (m n c : Nat) : Nat → Nat
  | 0 => 0
  | k + 1 => if P c k then ruX P m n c k ||| 2 ^ ((c + k * n) % m) else ruX P m n c k
def ruY (P : Nat → Nat → Bool) (m n : Nat) : Nat → Nat
  | 0 => 0
  | c + 1 => ruY P m n c ||| ruX P m n c m
abbrev ruP (S : Sch) (f : Nat → Int64) (n : Nat) : Nat → Nat → Bool := fun c k => allB (fitP S f c k) n
def x_rules (B : Bx) (s n w : Int32) : Bx × Int32 := match B with
  | (N, K, b, z, le, rf, hd, ln, vl) =>
    if wi n (nI 1) (nI 40) && inb w 2 then
      if inb s 8 then
        if nI 10 ≤ hd s.toNatClampNeg then rfS B 1 (-3)
        else if inb (hd s.toNatClampNeg) 5 then
          if decide (n.toNatClampNeg ≤ ln s.toNatClampNeg) && allB (fun j => morP N (vl s.toNatClampNeg j)) n.toNatClampNeg then
            (B, if w.toNatClampNeg = 0 then nI (ruT (ruP N (vl s.toNatClampNeg) n.toNatClampNeg) (sN N) (sN N)) else nI (ruY (ruP N (vl s.toNatClampNeg) n.toNatClampNeg) (sN N) n.toNatClampNeg (sN N)))
          else rfS B 0 (-2)
        else rfS B 2 (-4)
      else rfS B 0 (-2)
    else rfS B 0 (-2)
def wrg (S : Sch) (f : Nat → Int64) (m : Nat) : Nat := tolN (f m) (sP S) ^^^ whoE S 6 m
theorem wrg_lt {S : Sch} (h : sOk S) (f : Nat → Int64) (m : Nat) : wrg S f m < 2 ^ 6 := Nat.xor_lt_two_pow (tol_at (f m) h.2.2.2.2.2.1).2 (whoE_64 h 6 m)
def lrS (S : Sch) (hd : Nat → Int32) (ln : Nat → Nat) (s : Int32) : Int32 := if inb s 8 then (if nI 10 ≤ hd s.toNatClampNeg then -3 else if inb (hd s.toNatClampNeg) 5 then (if sN S ≤ ln s.toNatClampNeg then nI 0 else -2) else -4) else -2
def listS (B : Bx) (s : Int32) (r : Int32) : Bx × Int32 := match B with
  | (N, K, b, z, le, rf, hd, ln, vl) =>
      if inb s 8 then
        if nI 10 ≤ hd s.toNatClampNeg then rfS B 1 (-3)
        else if inb (hd s.toNatClampNeg) 5 then
          if sN N ≤ ln s.toNatClampNeg then (B, r) else rfS B 0 (-2)
        else rfS B 2 (-4)
      else rfS B 0 (-2)
def x_judge (B : Bx) (s : Int32) : Bx × Int32 := listS B s (fP (fun m => decide (wrg (bN B) (bV B s.toNatClampNeg) m ≠ 0)) (sN (bN B)))
def unS (S : Sch) (f : Nat → Int64) : Nat → Nat
  | 0 => 0
  | k + 1 => unS S f k + bcn (wrg S f k)
def x_unlike (B : Bx) (s : Int32) : Bx × Int32 := listS B s (nI (unS (bN B) (bV B s.toNatClampNeg) (sN (bN B))))
theorem lr_c (S : Sch) (hd : Nat → Int32) (ln : Nat → Nat) (s : Int32) : (inb s 8 = false ∧ lrS S hd ln s = -2) ∨ (∃ j, j < 8 ∧ s = nI j ∧ inb (nI j) 8 = true ∧ nI 10 ≤ hd j ∧ lrS S hd ln s = -3) ∨ (∃ j, j < 8 ∧ s = nI j ∧ inb (nI j) 8 = true ∧ (¬ nI 10 ≤ hd j) ∧ inb (hd j) 5 = true ∧ sN S ≤ ln j ∧ lrS S hd ln s = nI 0) ∨ (∃ j, j < 8 ∧ s = nI j ∧ inb (nI j) 8 = true ∧ (¬ nI 10 ≤ hd j) ∧ inb (hd j) 5 = true ∧ (¬ sN S ≤ ln j) ∧ lrS S hd ln s = -2) ∨ (∃ j, j < 8 ∧ s = nI j ∧ inb (nI j) 8 = true ∧ (¬ nI 10 ≤ hd j) ∧ inb (hd j) 5 = false ∧ lrS S hd ln s = -4) := by
  cases h : inb s 8
  · exact .inl ⟨rfl, by simp [lrS, h]⟩
  · obtain ⟨j, hj, rfl⟩ := inb_at (by decide) h
    have e : (nI j).toNatClampNeg = j := nI_clamp (by omega)
    by_cases h1 : nI 10 ≤ hd j
    · exact .inr (.inl ⟨j, hj, rfl, h, h1, by simp [lrS, h, e, h1]⟩)
    · cases h2 : inb (hd j) 5
      · exact .inr (.inr (.inr (.inr ⟨j, hj, rfl, h, h1, h2, by simp [lrS, h, e, h1, h2]⟩)))
      · by_cases h3 : sN S ≤ ln j
        · exact .inr (.inr (.inl ⟨j, hj, rfl, h, h1, h2, h3, by simp [lrS, h, e, h1, h2, h3]⟩))
        · exact .inr (.inr (.inr (.inl ⟨j, hj, rfl, h, h1, h2, h3, by simp [lrS, h, e, h1, h2, h3]⟩)))
theorem lc_e {a b : Int64} (h : lg_cmp a b = 0) : a = b := (lg_cmp_eq a b).mp h
theorem lc_n {a b : Int64} (h : ¬ lg_cmp a b = 0) : ¬ a = b := fun e => h ((lg_cmp_eq a b).mpr e)
theorem wag_y {S : Sch} {v : Int64} (h1 : ¬ lg_cmp v 0 < 0) (h2 : ¬ 0 ≤ lg_cmp (v / 100) (nI (sN S) : Int32).toInt64) (h3 : wi ((v - v / 100 * 100).toInt32) (nI 1) (nI 40) = true) : wagP S v = true := by
  have a1 : ¬ v < 0 := fun q => h1 ((lg_cmp_lt _ _).mpr q)
  have a2 : ¬ (nI (sN S) : Int32).toInt64 ≤ v / 100 := fun q => h2 ((lg_cmp_ge _ _).mpr q)
  rw [wagP, decide_eq_true a1, decide_eq_true a2, h3]; rfl
theorem wag_n1 {S : Sch} {v : Int64} (h1 : lg_cmp v 0 < 0) : wagP S v = false := by
  rw [wagP, decide_eq_false (fun q => q ((lg_cmp_lt _ _).mp h1)), Bool.false_and, Bool.false_and]
theorem wag_n2 {S : Sch} {v : Int64} (h2 : 0 ≤ lg_cmp (v / 100) (nI (sN S) : Int32).toInt64) : wagP S v = false := by
  rw [wagP, decide_eq_false (p := ¬ (nI (sN S) : Int32).toInt64 ≤ v / 100) (fun q => q ((lg_cmp_ge _ _).mp h2)), Bool.and_false, Bool.false_and]
theorem wag_n3 {S : Sch} {v : Int64} (h3 : wi ((v - v / 100 * 100).toInt32) (nI 1) (nI 40) = false) : wagP S v = false := by
  rw [wagP, h3, Bool.and_false]
theorem mor_y {S : Sch} {v : Int64} (h1 : ¬ lg_cmp v 0 < 0) (h2 : lg_cmp v (nI (sN S) : Int32).toInt64 < 0) : morP S v = true := by
  have a1 : ¬ v < 0 := fun q => h1 ((lg_cmp_lt _ _).mpr q)
  rw [morP, decide_eq_true a1, decide_eq_true ((lg_cmp_lt _ _).mp h2)]; rfl
theorem mor_n1 {S : Sch} {v : Int64} (h1 : lg_cmp v 0 < 0) : morP S v = false := by
  rw [morP, decide_eq_false (fun q => q ((lg_cmp_lt _ _).mp h1)), Bool.false_and]
theorem mor_n2 {S : Sch} {v : Int64} (h2 : ¬ lg_cmp v (nI (sN S) : Int32).toInt64 < 0) : morP S v = false := by
  rw [morP, decide_eq_false (p := v < (nI (sN S) : Int32).toInt64) (fun q => h2 ((lg_cmp_lt _ _).mpr q)), Bool.and_false]
