/-! MSPEC4: rows told -/
theorem rr_c2 {hd : Nat → Int32} {s : Nat} (hs : s < 8) : (nI 10 ≤ hd s ∧ rrS hd (nI s) = -3) ∨ (¬ nI 10 ≤ hd s ∧ inb (hd s) 5 = true ∧ rrS hd (nI s) = nI 0) ∨ (¬ nI 10 ≤ hd s ∧ inb (hd s) 5 = false ∧ rrS hd (nI s) = -4) := by
  have e : (nI s).toNatClampNeg = s := nI_clamp (by omega)
  have h : inb (nI s) 8 = true := by rw [inb_nI (by omega) (by decide), decide_eq_true hs]
  by_cases h1 : nI 10 ≤ hd s
  · exact .inl ⟨h1, by simp [rrS, h, e, h1]⟩
  · cases h2 : inb (hd s) 5
    · exact .inr (.inr ⟨h1, rfl, by simp [rrS, h, e, h1, h2]⟩)
    · exact .inr (.inl ⟨h1, rfl, by simp [rrS, h, e, h1, h2]⟩)
theorem tol_m (v : Int64) {p : Nat} (hp : p ≤ 6) : v.toInt32 &&& nI (2 ^ p - 1) = nI (tolN v p) := by
  rw [← (tol_at v hp).1, Int64.toInt32_and, Int32.toInt32_toInt64]
theorem xor_0 {a b : Nat} : a ^^^ b = 0 ↔ a = b := by
  constructor
  · intro h
    refine Nat.eq_of_testBit_eq fun k => ?_
    have := congrArg (fun z => z.testBit k) h
    simp only [Nat.testBit_xor, Nat.zero_testBit] at this
    cases h1 : a.testBit k <;> cases h2 : b.testBit k <;> simp_all
  · intro h; rw [h, Nat.xor_self]
theorem wrg_y {S : Sch} {f : Nat → Int64} {m : Nat} (h : tolN (f m) (sP S) = whoE S 6 m) : decide (wrg S f m ≠ 0) = false := decide_eq_false (fun q => q (xor_0.mpr h))
theorem wrg_n {S : Sch} {f : Nat → Int64} {m : Nat} (h : ¬ tolN (f m) (sP S) = whoE S 6 m) : decide (wrg S f m ≠ 0) = true := decide_eq_true (fun q => h (xor_0.mp q))
/-! wagers -/
theorem i64_h : ∀ n, n ≤ 9 → (100 * (nI n : Int32).toInt64).toInt = 100 * (n : Int) := by decide
theorem wgm_n1 {S : Sch} {v : Int64} (h : lg_cmp v 0 < 0) : wagP S v = false := wag_n1 h
theorem wgm_d {S : Sch} (hS : sN S ≤ 9) {v : Int64} {t : Nat} (ht : v.toInt = (t : Int)) : (nI (sN S) : Int32).toInt64 ≤ v / 100 ↔ 100 * sN S ≤ t := by
  rw [Int64.le_iff_toInt_le, i64_n _ hS, i64_div ht]
  omega
theorem wgm_n2 {S : Sch} (hS : sN S ≤ 9) {v : Int64} (h1 : ¬ lg_cmp v 0 < 0) (h : 0 ≤ lg_cmp v (100 * (nI (sN S) : Int32).toInt64)) : wagP S v = false := by
  obtain ⟨t, ht, _⟩ := i64_of (v := v) (fun q => h1 ((lg_cmp_lt _ _).mpr q))
  have q := (lg_cmp_ge _ _).mp h
  rw [Int64.le_iff_toInt_le, i64_h _ hS, ht] at q
  exact wag_n2 ((lg_cmp_ge _ _).mpr ((wgm_d hS ht).mpr (by omega)))
theorem wgm_lt {S : Sch} (hS : sN S ≤ 9) {v : Int64} (h1 : ¬ lg_cmp v 0 < 0) (h : ¬ 0 ≤ lg_cmp v (100 * (nI (sN S) : Int32).toInt64)) : ∃ t : Nat, v = Int64.ofNat t ∧ t < 900 ∧ ¬ 0 ≤ lg_cmp (v / 100) (nI (sN S) : Int32).toInt64 := by
  obtain ⟨t, ht, _⟩ := i64_of (v := v) (fun q => h1 ((lg_cmp_lt _ _).mpr q))
  have q : ¬ (100 * (nI (sN S) : Int32).toInt64) ≤ v := fun z => h ((lg_cmp_ge _ _).mpr z)
  rw [Int64.le_iff_toInt_le, i64_h _ hS, ht] at q
  exact ⟨t, i64_nat ht, by omega, fun z => by
    have := (wgm_d hS ht).mp ((lg_cmp_ge _ _).mp z)
    omega⟩
abbrev w100 (v : Int64) : Int64 := v - v / 100 * 100
theorem wgm_b : ∀ t, t < 900 → (decide (lg_cmp (w100 (Int64.ofNat t)) 1 < 0) || decide (¬ lg_cmp (w100 (Int64.ofNat t)) 40 ≤ 0)) = !(wi ((w100 (Int64.ofNat t)).toInt32) (nI 1) (nI 40)) := by decide +kernel
theorem wgm_n3 {S : Sch} (hS : sN S ≤ 9) {v : Int64} (h1 : ¬ lg_cmp v 0 < 0) (h : ¬ 0 ≤ lg_cmp v (100 * (nI (sN S) : Int32).toInt64)) (h3 : lg_cmp (v - v / 100 * 100) 1 < 0) : wagP S v = false := by
  obtain ⟨t, rfl, ht, _⟩ := wgm_lt hS h1 h
  have q := wgm_b t ht
  rw [decide_eq_true h3, Bool.true_or] at q
  refine wag_n3 ?_
  cases e : wi ((Int64.ofNat t - Int64.ofNat t / 100 * 100).toInt32) (nI 1) (nI 40)
  · rfl
  · rw [e] at q; exact absurd q (by decide)
theorem wgm_n4 {S : Sch} (hS : sN S ≤ 9) {v : Int64} (h1 : ¬ lg_cmp v 0 < 0) (h : ¬ 0 ≤ lg_cmp v (100 * (nI (sN S) : Int32).toInt64)) (h3 : ¬ lg_cmp (v - v / 100 * 100) 40 ≤ 0) : wagP S v = false := by
  obtain ⟨t, rfl, ht, _⟩ := wgm_lt hS h1 h
  have q := wgm_b t ht
  rw [decide_eq_true (p := ¬ _) h3, Bool.or_true] at q
  refine wag_n3 ?_
  cases e : wi ((Int64.ofNat t - Int64.ofNat t / 100 * 100).toInt32) (nI 1) (nI 40)
  · rfl
  · rw [e] at q; exact absurd q (by decide)
theorem wgm_y {S : Sch} (hS : sN S ≤ 9) {v : Int64} (h1 : ¬ lg_cmp v 0 < 0) (h : ¬ 0 ≤ lg_cmp v (100 * (nI (sN S) : Int32).toInt64)) (h3 : ¬ lg_cmp (v - v / 100 * 100) 1 < 0) (h4 : lg_cmp (v - v / 100 * 100) 40 ≤ 0) : wagP S v = true := by
  obtain ⟨t, rfl, ht, h5⟩ := wgm_lt hS h1 h
  have q := wgm_b t ht
  rw [decide_eq_false h3, decide_eq_false (p := ¬ _) (fun z => z h4)] at q
  refine wag_y h1 h5 ?_
  cases e : wi ((Int64.ofNat t - Int64.ofNat t / 100 * 100).toInt32) (nI 1) (nI 40)
  · rw [e] at q; exact absurd q (by decide)
  · rfl
theorem wgm_w : ∀ t, t < 900 → w100 (Int64.ofNat t) = (nI ((Int64.ofNat t).toInt32.toNatClampNeg % 100) : Int32).toInt64 := by decide +kernel
theorem wgm_v {S : Sch} (hS : sN S ≤ 9) {v : Int64} (h : wagP S v = true) : v - v / 100 * 100 = (nI (tI v % 100) : Int32).toInt64 := by
  have h' := h
  simp only [wagP, Bool.and_eq_true, decide_eq_true_eq] at h'
  obtain ⟨⟨h1, h2⟩, _⟩ := h'
  obtain ⟨t, ht, _⟩ := i64_of h1
  have h3 : ¬ 100 * sN S ≤ t := fun z => h2 ((wgm_d hS ht).mpr z)
  rw [i64_nat ht]
  exact wgm_w t (by omega)
theorem fit_n {S : Sch} {f : Nat → Int64} {c k j : Nat} (h : ¬ lg_cmp (nI ((c + k * j) % sN S) : Int32).toInt64 (f j) = 0) : fitP S f c k j = false := decide_eq_false (fun q => h ((lg_cmp_eq _ _).mpr q.symm))
theorem fit_y {S : Sch} {f : Nat → Int64} {c k j : Nat} (h : lg_cmp (nI ((c + k * j) % sN S) : Int32).toInt64 (f j) = 0) : fitP S f c k j = true := decide_eq_true ((lg_cmp_eq _ _).mp h).symm
/-! copies -/
theorem i32l (x : Int32) : x.toInt64.toInt = x.toInt := Int32.toInt_toInt64 x
theorem cp_b {i n : Int32} {l : Nat} (hl : l ≤ 40) (hi : ¬ i < 0) (hn : ¬ n < 0) : 0 < lg_cmp (i.toInt64 + n.toInt64) (nI l : Int32).toInt64 ↔ ¬ hasR i n l = true := by
  obtain ⟨a, ha, rfl⟩ := nI_of hi
  obtain ⟨c, hc, rfl⟩ := nI_of hn
  rw [lg_cmp_gt, Int64.lt_iff_toInt_lt, Int64.toInt_add, i32l, i32l, i32l, nI_toInt ha, nI_toInt hc, nI_toInt (show l < 2 ^ 31 by omega)]
  have e : ((a : Int) + (c : Int)).bmod (2 ^ 64) = (a : Int) + (c : Int) := by apply Int.bmod_eq_of_le <;> omega
  rw [e]
  have q : hasR (nI a) (nI c) l = decide (a + c ≤ l) := by
    rw [hasR, decide_eq_true hi, decide_eq_true hn, Bool.true_and, Bool.true_and]
    refine decide_eq_decide.mpr ?_
    rw [Int32.le_iff_toInt_le, nI_toInt hc, Int32.toInt_sub, nI_toInt ha, nI_toInt (show l < 2 ^ 31 by omega)]
    have e2 : ((l : Int) - (a : Int)).bmod (2 ^ 32) = (l : Int) - (a : Int) := by apply Int.bmod_eq_of_le <;> omega
    rw [e2]; omega
  rw [q, decide_eq_true_eq]
  omega
theorem cp_n {i n : Int32} {l : Nat} (hl : l ≤ 40) (hi : ¬ i < 0) (hn : ¬ n < 0) (h : 0 < lg_cmp (i.toInt64 + n.toInt64) (nI l : Int32).toInt64) : hasR i n l = false := by
  cases e : hasR i n l
  · rfl
  · exact absurd e ((cp_b hl hi hn).mp h)
theorem cp_y {i n : Int32} {l : Nat} (hl : l ≤ 40) (hi : ¬ i < 0) (hn : ¬ n < 0) (h : ¬ 0 < lg_cmp (i.toInt64 + n.toInt64) (nI l : Int32).toInt64) : hasR i n l = true := by
  cases e : hasR i n l
  · exact absurd ((cp_b hl hi hn).mpr (by rw [e]; decide)) h
  · rfl
theorem le_ng {a b : Int64} (h : lg_cmp a b ≤ 0) : ¬ 0 < lg_cmp a b := Int32.not_lt.mpr h
theorem nle_g {a b : Int64} (h : ¬ lg_cmp a b ≤ 0) : 0 < lg_cmp a b := Int32.not_le.mp h
theorem hasR_1' {i n : Int32} {l : Nat} (h : i < 0) : hasR i n l = false := (hasR_1 h).symm
theorem hasR_2' {i n : Int32} {l : Nat} (h : n < 0) : hasR i n l = false := (hasR_2 h).symm
/-- copied from behind: the places k to n -/
def cpB (f g : Nat → Int64) (sp dp n k : Nat) : Nat → Int64 := fun x => if dp + k ≤ x ∧ x < dp + n then f (sp + (x - dp)) else g x
theorem cpB_n (f g : Nat → Int64) (sp dp n : Nat) : cpB f g sp dp n n = g := by
  funext x; exact if_neg (by omega)
theorem cpB_0 (f g : Nat → Int64) (sp dp n : Nat) : cpB f g sp dp n 0 = va_cpy f g sp dp n := by
  funext x; rfl
theorem cpB_s (f g : Nat → Int64) (sp dp : Nat) {n k : Nat} (hk : ¬ k = 0) (hn : k ≤ n) : vp_updL (cpB f g sp dp n k) (dp + (k - 1)) (f (sp + (k - 1))) = cpB f g sp dp n (k - 1) := by
  funext x
  unfold vp_updL cpB
  by_cases e : x = dp + (k - 1)
  · rw [if_pos e, if_pos (by omega), e, show dp + (k - 1) - dp = k - 1 by omega]
  · rw [if_neg e]
    by_cases q : dp + k ≤ x ∧ x < dp + n
    · rw [if_pos q, if_pos (by omega)]
    · rw [if_neg q, if_neg (by omega)]
theorem cpF_0 (f g : Nat → Int64) (sp dp : Nat) : va_cpy f g sp dp 0 = g := by
  funext x; exact if_neg (by omega)
theorem cpF_s (f g : Nat → Int64) (sp dp k : Nat) : vp_updL (va_cpy f g sp dp k) (dp + k) (f (sp + k)) = va_cpy f g sp dp (k + 1) := by
  funext x
  unfold vp_updL va_cpy
  by_cases e : x = dp + k
  · rw [if_pos e, if_pos (by omega), e, show dp + k - dp = k by omega]
  · rw [if_neg e]
    by_cases q : dp ≤ x ∧ x < dp + k
    · rw [if_pos q, if_pos (by omega)]
    · rw [if_neg q, if_neg (by omega)]
theorem cpB_r (f g : Nat → Int64) {sp dp n k x : Nat} (h : x < dp + k) : cpB f g sp dp n k x = g x := if_neg (by omega)
theorem cpF_r (f g : Nat → Int64) {sp dp k x : Nat} (h : dp + k ≤ x) : va_cpy f g sp dp k x = g x := if_neg (by omega)
/-- the place read is as it was -/
theorem cpF_v {vl : Nat → Nat → Int64} {p q i j k : Nat} (h : ¬ p = q ∨ j ≤ i) : upS vl q (va_cpy (vl p) (vl q) i j k) p (i + k) = vl p (i + k) := by
  by_cases e : p = q
  · subst e
    rw [upS_at, cpF_r _ _ (by omega)]
  · rw [upS_ne _ _ e]
theorem cpB_v {vl : Nat → Nat → Int64} {p q i j n k : Nat} (h : p = q) (hij : i < j) (hk : ¬ k = 0) : upS vl q (cpB (vl p) (vl q) i j n k) p (i + (k - 1)) = vl p (i + (k - 1)) := by
  subst h
  rw [upS_at, cpB_r _ _ (by omega)]
theorem pI_sub (k : Nat) : nI k - nI 1 = pI k := by
  rw [pI, Int32.sub_eq_add_neg, show -(nI 1) = (-1 : Int32) from by decide]
