/-! MSPEC: what the model's scratch keeps, and the shelves -/
def mOk (B : Bx) (J : Mx) : Prop := mA J = 6 ∧ (∀ s, s < 8 → inb (bH B s) 5 = true → mL J s = bE B s) ∧ (bB B = true → ∀ j, j < 28 → mO J j = encK (bK B) j)
def hOk (p : Nat) (hd : Nat → Int32) : Prop := ∀ s, s < 8 → hd s = -1 ∨ (∃ k, k < 5 ∧ hd s = nI k) ∨ (∃ i, i < p ∧ hd s = nI (10 + i))
theorem row3_at (vl : Nat → Nat → Int64) {s i : Nat} (hi : i < 40) : row3 vl (40 * s + i) = vl s i := by
  unfold row3
  rw [show (40 * s + i) / 40 = s by omega, show (40 * s + i) % 40 = i by omega]
theorem mdW_row (g : gT) (ad : Nat → Nat) (N K : Sch) (b : Bool) (z : Nat) (le : Nat → Nat) (rf hd : Nat → Int32) (ln : Nat → Nat) (vl : Nat → Nat → Int64) (J : Mx) {s i : Nat} (v : Int64) (hi : i < 40) : (mdW g ad (N, K, b, z, le, rf, hd, ln, vl) J).set 3 (ad 3, arJ g 320 (vp_updL (row3 vl) (40 * s + i) v)) = mdW g ad (N, K, b, z, le, rf, hd, ln, upS vl s (vp_updL (vl s) i v)) J := by
  rw [row3_u _ _ _ _ hi]; rfl
theorem upS_up {α : Type} (f : Nat → α) (i : Nat) (v w : α) : upS (upS f i v) i w = upS f i w := by
  funext j; unfold upS; split <;> rfl
theorem upS_at {α : Type} (f : Nat → α) (i : Nat) (v : α) : upS f i v i = v := by unfold upS; rw [if_pos rfl]
theorem upS_ne {α : Type} (f : Nat → α) {i j : Nat} (v : α) (h : ¬ j = i) : upS f i v j = f j := by unfold upS; rw [if_neg h]
theorem row3_z (vl : Nat → Nat → Int64) (s : Nat) : row3 (upS vl s (fillJ (vl s) 40)) = row3 (upS vl s zeroJ) := by
  funext j
  unfold row3 upS fillJ zeroJ
  split
  · exact if_pos (Nat.mod_lt j (by decide))
  · rfl
theorem mdW_z (g : gT) (ad : Nat → Nat) (N K : Sch) (b : Bool) (z : Nat) (le : Nat → Nat) (rf hd : Nat → Int32) (ln : Nat → Nat) (vl : Nat → Nat → Int64) (J : Mx) (s : Nat) : mdW g ad (N, K, b, z, le, rf, hd, ln, upS vl s (fillJ (vl s) 40)) J = mdW g ad (N, K, b, z, le, rf, hd, ln, upS vl s zeroJ) J := by
  have h := row3_z vl s
  unfold mdW
  show _ :: _ :: _ :: (ad 3, arJ g 320 (row3 (upS vl s (fillJ (vl s) 40)))) :: _ = _
  rw [h]
theorem fl_row {hd : Nat → Int32} {lm ln : Nat → Nat} (h : ∀ s, s < 8 → inb (hd s) 5 = true → lm s = ln s) (s : Nat) (d : Int32) (n : Nat) : ∀ j, j < 8 → inb (upS hd s d j) 5 = true → updN lm s n j = upS ln s n j := by
  intro j hj q
  unfold updN upS
  unfold upS at q
  by_cases e : j = s
  · rw [if_pos e, if_pos e]
  · rw [if_neg e, if_neg e]
    rw [if_neg e] at q
    exact h j hj q
theorem fl_show {hd : Nat → Int32} {lm ln : Nat → Nat} (h : ∀ s, s < 8 → inb (hd s) 5 = true → lm s = ln s) (s : Nat) {v : Int32} (hv : inb v 5 = false) : ∀ j, j < 8 → inb (upS hd s v j) 5 = true → lm j = upS ln s 0 j := by
  intro j hj q
  unfold upS
  unfold upS at q
  by_cases e : j = s
  · rw [if_pos e, hv] at q; exact absurd q (by decide)
  · rw [if_neg e]
    rw [if_neg e] at q
    exact h j hj q
theorem fl_gone {hd : Nat → Int32} {lm ln : Nat → Nat} (h : ∀ s, s < 8 → inb (hd s) 5 = true → lm s = ln s) (p k : Nat) : ∀ j, j < 8 → inb (gone p hd k j) 5 = true → lm j = gonL p hd ln k j := by
  intro j hj q
  unfold gonL
  unfold gone at q
  by_cases e : j < k
  · rw [if_pos e] at q ⊢
    by_cases e2 : nI (10 + p) ≤ hd j
    · rw [if_pos e2] at q; exact absurd q (by decide)
    · rw [if_neg e2] at q ⊢; exact h j hj q
  · rw [if_neg e] at q ⊢; exact h j hj q
theorem inb_m1 (n : Nat) : inb (-1) n = false := by
  unfold inb
  rw [decide_eq_false (show ¬ (0 : Int32) ≤ -1 by decide)]; rfl
theorem inb_10 {i : Nat} (hi : i < 1000) : inb (nI (10 + i)) 5 = false := by
  rw [inb_nI (by omega) (by decide), decide_eq_false (by omega)]
/-- three answers of a shelf -/
theorem hd_c {p : Nat} {hd : Nat → Int32} (hp : p ≤ 6) (h : hOk p hd) {s : Nat} (hs : s < 8) : (hd s = -1) ∨ (∃ k, k < 5 ∧ hd s = nI k) ∨ (∃ i, i < p ∧ hd s = nI (10 + i)) := h s hs
theorem rr_3 {p : Nat} {hd : Nat → Int32} (hp : p ≤ 6) (h : hOk p hd) {s : Nat} (hs : s < 8) (q : ¬ hd s ≤ nI 4) : (-3 : Int32) = rrS hd (nI s) := by
  rcases h s hs with e | ⟨k, hk, e⟩ | ⟨i, hi, e⟩
  · rw [e] at q; exact absurd (by decide) q
  · rw [e] at q; exact absurd ((nI_leI (by omega) (by decide)).mpr (by omega)) q
  · rw [rrS, inb_nI (by omega) (by decide), decide_eq_true hs, nI_clamp (by omega), e, if_pos rfl, if_pos ((nI_leI (by decide) (by omega)).mpr (by omega))]
theorem rr_4 {p : Nat} {hd : Nat → Int32} (hp : p ≤ 6) (h : hOk p hd) {s : Nat} (hs : s < 8) (q : ¬ 0 ≤ hd s) : (-4 : Int32) = rrS hd (nI s) := by
  rcases h s hs with e | ⟨k, hk, e⟩ | ⟨i, hi, e⟩
  · rw [rrS, inb_nI (by omega) (by decide), decide_eq_true hs, nI_clamp (by omega), e]; decide
  · rw [e] at q; exact absurd (nI_pos' (by omega)) q
  · rw [e] at q; exact absurd (nI_pos' (by omega)) q
theorem rr_0 {p : Nat} {hd : Nat → Int32} (hp : p ≤ 6) (h : hOk p hd) {s : Nat} (hs : s < 8) (q1 : hd s ≤ nI 4) (q : 0 ≤ hd s) : nI 0 = rrS hd (nI s) := by
  rcases h s hs with e | ⟨k, hk, e⟩ | ⟨i, hi, e⟩
  · rw [e] at q; exact absurd q (by decide)
  · rw [rrS, inb_nI (by omega) (by decide), decide_eq_true hs, nI_clamp (by omega), e, if_pos rfl, if_neg (fun z => absurd ((nI_leI (by decide) (by omega)).mp z) (by omega)), inb_nI (by omega) (by decide), decide_eq_true hk, if_pos rfl]
  · rw [e] at q1; exact absurd ((nI_leI (by omega) (by decide)).mp q1) (by omega)
theorem rr_2 {hd : Nat → Int32} {s : Int32} (h : inb s 8 = false) : (-2 : Int32) = rrS hd s := by rw [rrS, h]; rfl
theorem shf_l {p : Nat} (f : Nat → Nat) (hp : 0 < p) : shf f (p - 1) p = f := by
  funext j
  exact if_neg (by omega)
theorem m1_le {a : Nat} (ha : a < 2 ^ 31) (z : nI a ≤ -1) : False := absurd (Int32.le_trans (nI_pos' ha) z) (by decide)
theorem gone_y {p k : Nat} {hd : Nat → Int32} (hp : p < 7) (h : hOk (p + 1) hd) (hk : k < 8) (q : gone p hd k k = nI (10 + p)) : upS (gone p hd k) k (-1) = gone p hd (k + 1) := gone_t (by rw [q]; exact Int32.le_refl _)
theorem gone_n {p k : Nat} {hd : Nat → Int32} (hp : p < 7) (h : hOk (p + 1) hd) (hk : k < 8) (q : ¬ gone p hd k k = nI (10 + p)) : gone p hd k = gone p hd (k + 1) := by
  refine gone_f (fun z => ?_)
  have e : gone p hd k k = hd k := by simp [gone]
  rw [e] at q z
  rcases h k hk with e | ⟨i, hi, e⟩ | ⟨i, hi, e⟩
  · rw [e] at z; exact m1_le (by omega) z
  · rw [e] at z; exact absurd ((nI_leI (by omega) (by omega)).mp z) (by omega)
  · rw [e] at z
    have := (nI_leI (by omega) (by omega)).mp z
    exact q (by rw [e, show i = p by omega])
theorem hin_wi (S : Sch) (h : sN S ≤ 9) (x : Int32) : wi x (nI 0) (nI (2 ^ sN S) - nI 1) = hinO S x := by
  have h9 := p2_9 h
  rw [wi_inb0 (by omega)]
  cases hq : hinO S x with
  | true =>
    obtain ⟨j, hj, rfl⟩ := hin_at h hq
    rw [inb_nI (by omega) (by omega), decide_eq_true hj]
  | false =>
    cases hb : inb x (2 ^ sN S) with
    | false => rfl
    | true =>
      obtain ⟨j, hj, rfl⟩ := inb_at (by omega) hb
      have e : hinO S (nI j) = true := by
        unfold hinO
        rw [nI_andnot, show dif j (2 ^ sN S - 1) = 0 from tb_zero fun k => by
          rw [dif_tb, Nat.testBit_two_pow_sub_one]
          by_cases hk : k < sN S
          · simp [hk]
          · rw [tb_ge hj (by omega)]; rfl]
        decide
      rw [hq] at e
      exact absurd e (by decide)
theorem ke_1 {S : Sch} {f : Nat → Int32} {k : Nat} (hk : k < 9) (h : ∀ j, j < k → f j = encK S j) : ∀ j, j < k + 1 → upd f k (nI (sW S k)) j = encK S j := by
  intro j hj
  unfold upd
  by_cases e : j = k
  · rw [if_pos e, e, encK, if_pos hk]
  · rw [if_neg e]; exact h j (by omega)
theorem ke_2 {S : Sch} {f : Nat → Int32} {k : Nat} (hk : k < 6) (h : ∀ j, j < 9 + k ∨ (15 ≤ j ∧ j < 15 + k) → f j = encK S j) : ∀ j, j < 9 + (k + 1) ∨ (15 ≤ j ∧ j < 15 + (k + 1)) → upd (upd f (9 + k) (nI (sK S k))) (15 + k) (nI (sO S k)) j = encK S j := by
  intro j hj
  unfold upd
  by_cases e : j = 15 + k
  · rw [if_pos e, e, encK, if_neg (by omega), if_neg (by omega), if_pos (by omega), show 15 + k - 15 = k by omega]
  · rw [if_neg e]
    by_cases e2 : j = 9 + k
    · rw [if_pos e2, e2, encK, if_neg (by omega), if_pos (by omega), show 9 + k - 9 = k by omega]
    · rw [if_neg e2]; exact h j (by omega)
theorem ke_3 {S : Sch} {f : Nat → Int32} (h : ∀ j, j < 21 → f j = encK S j) : ∀ j, j < 28 → upd (upd (upd (upd (upd (upd (upd f 21 (nI (sN S))) 22 (nI (sA S))) 23 (nI (10 * sP S + sD S))) 24 (sT S)) 25 (sF S)) 26 (sX S)) 27 (sG S) j = encK S j := by
  intro j hj
  by_cases e : j < 21
  · simp only [upd]
    rw [if_neg (by omega), if_neg (by omega), if_neg (by omega), if_neg (by omega), if_neg (by omega), if_neg (by omega), if_neg (by omega)]
    exact h j e
  · rcases (show j = 21 ∨ j = 22 ∨ j = 23 ∨ j = 24 ∨ j = 25 ∨ j = 26 ∨ j = 27 by omega) with rfl | rfl | rfl | rfl | rfl | rfl | rfl <;> rfl
theorem ec_w (S : Sch) {k : Nat} (hk : k < 9) : encK S k = nI (sW S k) := by rw [encK, if_pos hk]
theorem ec_k (S : Sch) {k : Nat} (hk : k < 6) : encK S (9 + k) = nI (sK S k) := by rw [encK, if_neg (by omega), if_pos (by omega), show 9 + k - 9 = k by omega]
theorem ec_o (S : Sch) {k : Nat} (hk : k < 6) : encK S (15 + k) = nI (sO S k) := by rw [encK, if_neg (by omega), if_neg (by omega), if_pos (by omega), show 15 + k - 15 = k by omega]
theorem up_w {f w : Nat → Nat} {k : Nat} (h : ∀ j, j < k → f j = w j) : ∀ j, j < k + 1 → updN f k (w k) j = w j := by
  intro j hj
  unfold updN
  by_cases e : j = k
  · rw [if_pos e, e]
  · rw [if_neg e]; exact h j (by omega)
theorem rf7_at (rf : Nat → Int32) {j : Nat} (h : 12 ≤ j) : rf7 rf (j - 10) = rf (j - 12) := by
  unfold rf7
  rw [if_neg (by omega), show j - 10 - 2 = j - 12 by omega]
