/-! INV: what stands between the calls -/
def bOk (B : Bx) : Prop := sOk (bN B) ∧ sOk (bK B) ∧ bZ B ≤ 250 ∧ (∀ i, i < 250 → bL B i < 256) ∧ (∀ s, s < 8 → bE B s ≤ 40) ∧ hOk (sP (bN B)) (bH B)
theorem k_rf {B : Bx} (h : bOk B) (p : Nat) (r : Int32) : bOk (rfS B p r).1 := h
theorem inb_c {x : Int32} {n : Nat} (hn : n < 2 ^ 31) (h : inb x n = true) : x.toNatClampNeg < n := by
  obtain ⟨j, hj, rfl⟩ := inb_at hn h
  rw [nI_clamp (by omega)]; exact hj
theorem wi_c {x : Int32} {a b : Nat} (ha : a < 2 ^ 31) (hb : b < 2 ^ 31) (h : wi x (nI a) (nI b) = true) : a ≤ x.toNatClampNeg ∧ x.toNatClampNeg ≤ b := by
  obtain ⟨j, hj, rfl⟩ := wi_at ha hb h
  rw [nI_clamp (by omega)]; exact hj
theorem hOk_up {p : Nat} {hd : Nat → Int32} (h : hOk p hd) (s : Nat) {v : Int32} (hv : v = -1 ∨ (∃ k, k < 5 ∧ v = nI k) ∨ (∃ i, i < p ∧ v = nI (10 + i))) : hOk p (upS hd s v) := by
  intro j hj
  unfold upS
  split
  · exact hv
  · exact h j hj
theorem hOk_mono {p q : Nat} {hd : Nat → Int32} (h : hOk p hd) (hpq : p ≤ q) : hOk q hd := fun s hs => (h s hs).imp id (fun z => z.imp id (fun ⟨i, h1, h2⟩ => ⟨i, by omega, h2⟩))
/-- who is gone holds no shelf: p or more -/
theorem hOk_gone {p q : Nat} {hd : Nat → Int32} (hq : q ≤ 6) (h : hOk q hd) (hp : p ≤ 6) : hOk p (gone p hd 8) := by
  intro s hs
  unfold gone
  rw [if_pos hs]
  by_cases e : nI (10 + p) ≤ hd s
  · rw [if_pos e]; exact .inl rfl
  · rw [if_neg e]
    rcases h s hs with e1 | e1 | ⟨i, h1, h2⟩
    · exact .inl e1
    · exact .inr (.inl e1)
    · refine .inr (.inr ⟨i, ?_, h2⟩)
      rw [h2] at e
      exact Nat.lt_of_not_le (fun z => e ((nI_leI (by omega) (by omega)).mpr (by omega)))
theorem gonL_le {p k : Nat} {hd : Nat → Int32} {ln : Nat → Nat} (h : ∀ s, s < 8 → ln s ≤ 40) : ∀ s, s < 8 → gonL p hd ln k s ≤ 40 := by
  intro s hs
  unfold gonL
  split
  · split
    · omega
    · exact h s hs
  · exact h s hs
theorem upS_le {ln : Nat → Nat} (h : ∀ s, s < 8 → ln s ≤ 40) (j : Nat) {v : Nat} (hv : v ≤ 40) : ∀ s, s < 8 → upS ln j v s ≤ 40 := by
  intro s hs
  unfold upS
  split
  · exact hv
  · exact h s hs
theorem k_N {N N1 K : Sch} {R : Bool × Nat × (Nat → Nat) × (Nat → Int32) × (Nat → Int32) × (Nat → Nat) × (Nat → Nat → Int64)} (h : bOk (N, K, R)) (h1 : sOk N1) (h2 : sP N ≤ sP N1) : bOk (N1, K, R) := ⟨h1, h.2.1, h.2.2.1, h.2.2.2.1, h.2.2.2.2.1, hOk_mono h.2.2.2.2.2 h2⟩
theorem k_row {B : Bx} (h : bOk B) (s d n : Int32) : bOk (x_row B s d n).1 := by
  obtain ⟨N, K, b, z, le, rf, hd, ln, vl⟩ := B
  unfold x_row
  dsimp only
  split
  · rename_i q
    simp only [Bool.and_eq_true] at q
    obtain ⟨j, hj, rfl⟩ := inb_at (by decide) q.1.2
    have hn := inb_c (by decide) q.2
    exact ⟨h.1, h.2.1, h.2.2.1, h.2.2.2.1, upS_le h.2.2.2.2.1 _ (by omega), hOk_up h.2.2.2.2.2 _ (.inr (.inl ⟨j, hj, rfl⟩))⟩
  · exact k_rf h _ _
theorem k_set {B : Bx} (h : bOk B) (s i : Int32) (v : Int64) : bOk (x_set B s i v).1 := by
  obtain ⟨N, K, b, z, le, rf, hd, ln, vl⟩ := B
  unfold x_set
  dsimp only
  (repeat' split) <;> exact h
theorem k_copy {B : Bx} (h : bOk B) (p q i j n : Int32) : bOk (x_copy B p q i j n).1 := by
  obtain ⟨N, K, b, z, le, rf, hd, ln, vl⟩ := B
  unfold x_copy
  dsimp only
  (repeat' split) <;> exact h
theorem k_element {B : Bx} (h : bOk B) (s i : Int32) : bOk (x_element B s i).1 := by
  unfold x_element
  (repeat' split) <;> exact h
theorem k_holds {B : Bx} (h : bOk B) (s : Int32) : bOk (x_holds B s).1 := by
  unfold x_holds
  (repeat' split) <;> exact h
theorem k_show {B : Bx} (h : bOk B) (s i : Int32) : bOk (x_show B s i).1 := by
  obtain ⟨N, K, b, z, le, rf, hd, ln, vl⟩ := B
  unfold x_show
  dsimp only
  split
  · split
    · exact ⟨h.1, h.2.1, h.2.2.1, h.2.2.2.1, upS_le h.2.2.2.2.1 _ (Nat.zero_le _), hOk_up h.2.2.2.2.2 _ (.inl rfl)⟩
    · split
      · rename_i q
        have o6 := h.1.2.2.2.2.2.1
        have hi := inb_c (show sP N < 2 ^ 31 by have : sP N ≤ 6 := o6; omega) q
        exact ⟨h.1, h.2.1, h.2.2.1, h.2.2.2.1, upS_le h.2.2.2.2.1 _ (Nat.zero_le _), hOk_up h.2.2.2.2.2 _ (.inr (.inr ⟨_, hi, rfl⟩))⟩
      · exact h
  · exact h
theorem k_says {B : Bx} (h : bOk B) (s k : Int32) : bOk (x_says B s k).1 := by
  obtain ⟨N, K, b, z, le, rf, hd, ln, vl⟩ := B
  unfold x_says
  dsimp only
  (repeat' split) <;> exact h
theorem k_term {B : Bx} (h : bOk B) (n : Int32) : bOk (x_term B n).1 := by
  obtain ⟨N, K, R⟩ := B
  unfold x_term
  dsimp only
  split
  · rename_i q
    have hn := wi_c (by decide) (by decide) q
    exact k_N h (ok_T h.1 hn.1 hn.2) (Nat.le_refl _)
  · exact h
theorem k_person {B : Bx} (h : bOk B) (k a : Int32) : bOk (x_person B k a).1 := by
  obtain ⟨N, K, R⟩ := B
  unfold x_person
  dsimp only
  split
  · rename_i q
    simp only [Bool.and_eq_true] at q
    have hk := inb_c (by decide) q.1
    have ha := inb_c (by decide) q.2
    split
    · rename_i hp
      exact k_N h (ok_P (k := k.toNatClampNeg) (u := a.toNatClampNeg) h.1 hp hk (by omega)) (Nat.le_succ _)
    · exact h
  · exact h
theorem k_allow {B : Bx} (h : bOk B) (m : Int32) (is : Bool) : bOk (x_allow B m is).1 := by
  obtain ⟨N, K, R⟩ := B
  unfold x_allow
  dsimp only
  split
  · rename_i q
    have o2 : sN N ≤ 9 := h.1.2.1
    have hm := inb_c (show sN N < 2 ^ 31 by omega) q
    split
    · exact h
    · exact k_N h (ok_A (a := sA N ^^^ 2 ^ m.toNatClampNeg) h.1 (Nat.xor_lt_two_pow h.1.2.2.1 (Nat.pow_lt_pow_right (by decide) hm))) (Nat.le_refl _)
  · exact h
theorem k_weight {B : Bx} (h : bOk B) (m v : Int32) : bOk (x_weight B m v).1 := by
  obtain ⟨N, K, R⟩ := B
  unfold x_weight
  dsimp only
  split
  · rename_i q
    simp only [Bool.and_eq_true] at q
    have hv := inb_c (by decide) q.2
    exact k_N h (ok_W (f := updN (sW N) m.toNatClampNeg v.toNatClampNeg) h.1 (up_le h.1.2.2.2.1 (by omega))) (Nat.le_refl _)
  · exact h
theorem k_say {B : Bx} (h : bOk B) : bOk (x_say B).1 := by
  obtain ⟨N, K, R⟩ := B
  unfold x_say
  dsimp only
  split
  · exact k_N h (ok_D (v := sD N + 1) h.1 (by omega)) (Nat.le_refl _)
  · exact h
theorem k_unsay {B : Bx} (h : bOk B) (v : Int32) : bOk (x_unsay B v).1 := by
  obtain ⟨N, K, R⟩ := B
  unfold x_unsay
  dsimp only
  split
  · rename_i q
    have hv := inb_c (by decide) q
    exact k_N h (ok_D (v := v.toNatClampNeg) h.1 (by omega)) (Nat.le_refl _)
  · exact h
theorem k_learn {B : Bx} (h : bOk B) (i v : Int32) : bOk (x_learn B i v).1 := by
  obtain ⟨N, K, R⟩ := B
  unfold x_learn
  dsimp only
  split
  · rename_i q
    simp only [Bool.and_eq_true] at q
    have hv := inb_c (by decide) q.2
    exact k_N h (ok_O (f := updN (sO N) i.toNatClampNeg v.toNatClampNeg) h.1 (up_le h.1.2.2.2.2.2.2.2 (by omega))) (Nat.le_refl _)
  · exact h
theorem k_seed {B : Bx} (h : bOk B) (v : Int32) : bOk (x_seed B v).1 := by
  obtain ⟨N, K, R⟩ := B
  exact k_N (N1 := (sN N, sA N, sW N, sD N, sP N, sK N, sO N, v, sT N, sF N, sX N)) h h.1 (Nat.le_refl _)
theorem k_wipe {B : Bx} (h : bOk B) : bOk (x_wipe B).1 := by
  obtain ⟨N, K, b, z, le, R⟩ := B
  exact ⟨h.1, h.2.1, Nat.zero_le _, h.2.2.2.1, h.2.2.2.2.1, h.2.2.2.2.2⟩
theorem k_feed {B : Bx} (h : bOk B) (v : Int32) : bOk (x_feed B v).1 := by
  obtain ⟨N, K, b, z, le, R⟩ := B
  unfold x_feed
  dsimp only
  split
  · rename_i q
    have hv := inb_c (by decide) q
    split
    · refine ⟨h.1, h.2.1, by show z + 1 ≤ 250; omega, fun i hi => ?_, h.2.2.2.2.1, h.2.2.2.2.2⟩
      show updN le z v.toNatClampNeg i < 256
      unfold updN
      split
      · exact hv
      · exact h.2.2.2.1 i hi
    · exact h
  · exact h
theorem k_image {B : Bx} (h : bOk B) : bOk (x_image B).1 := by
  obtain ⟨N, K, b, R⟩ := B
  exact ⟨h.1, h.1, h.2.2.1, h.2.2.2.1, h.2.2.2.2.1, h.2.2.2.2.2⟩
theorem k_hint {B : Bx} (h : bOk B) (x : Int32) : bOk (x_hint B x).1 := by
  obtain ⟨N, K, R⟩ := B
  unfold x_hint
  dsimp only
  split
  · exact k_N h (ok_A (a := sA N &&& x.toNatClampNeg) h.1 (Nat.lt_of_le_of_lt Nat.and_le_left h.1.2.2.1)) (Nat.le_refl _)
  · exact h
theorem ok_L {S : Sch} (h : sOk S) : sOk (sN S, sA S, sW S, sD S, sP S - 1, shf (sK S) (sP S - 1) (sP S), shf (sO S) (sP S - 1) (sP S), sG S, sT S, sF S, sX S) := ok_R h (sP S - 1)
theorem k_leave {B : Bx} (h : bOk B) : bOk (x_leave B).1 := by
  obtain ⟨N, K, b, z, le, rf, hd, ln, vl⟩ := B
  unfold x_leave
  dsimp only
  split
  · exact h
  · have o6 : sP N ≤ 6 := h.1.2.2.2.2.2.1
    exact ⟨ok_L h.1, h.2.1, h.2.2.1, h.2.2.2.1, gonL_le h.2.2.2.2.1, hOk_gone (p := sP N - 1) o6 h.2.2.2.2.2 (by omega)⟩
theorem k_back {B : Bx} (h : bOk B) : bOk (x_back B).1 := by
  obtain ⟨N, K, b, z, le, rf, hd, ln, vl⟩ := B
  unfold x_back
  dsimp only
  split
  · have o6 : sP N ≤ 6 := h.1.2.2.2.2.2.1
    have k6 : sP K ≤ 6 := h.2.1.2.2.2.2.2.1
    exact ⟨h.2.1, h.2.1, h.2.2.1, h.2.2.2.1, gonL_le h.2.2.2.2.1, hOk_gone o6 h.2.2.2.2.2 k6⟩
  · exact h
/-! a text only adds people -/
theorem rdX_p {le : Nat → Nat} {z : Nat} {S : Sch} {p : Nat × Nat × Nat} : sP S ≤ sP (rdX le z S p).2.1 := by
  unfold rdX
  split
  · unfold rdT; split <;> exact Nat.le_refl _
  · split
    · unfold rdN; split <;> exact Nat.le_refl _
    · split
      · unfold rdW; split
        · exact Nat.le_refl _
        · split <;> exact Nat.le_refl _
      · split
        · unfold rdS; split <;> exact Nat.le_refl _
        · split
          · unfold rdP; split
            · exact Nat.le_refl _
            · split
              · exact Nat.le_refl _
              · split
                · exact Nat.le_refl _
                · exact Nat.le_succ _
          · split
            · unfold rdH; dsimp only; split <;> exact Nat.le_refl _
            · exact Nat.le_refl _
theorem rtF_p {le : Nat → Nat} {z : Nat} : ∀ (f n : Nat) (S : Sch) (p : Nat × Nat × Nat), sP S ≤ sP (rtF le z f n S p).2.1
  | 0, _, _, _ => Nat.le_refl _
  | f + 1, n, S, p => by
    have q := rdX_p (le := le) (z := z) (S := S) (p := p)
    unfold rtF
    split
    · exact q
    · split
      · exact q
      · split
        · exact Nat.le_trans q (rtF_p f _ _ _)
        · exact q
theorem k_school {B : Bx} (h : bOk B) : bOk (x_school B).1 := by
  obtain ⟨N, K, b, z, le, rf, hd, ln, vl⟩ := B
  unfold x_school
  dsimp only
  have q := rtF_ok (le := le) (z := z) 250 1 N (stp le z 0) h.1 (stp_ok (Nat.zero_le _))
  split
  · exact ⟨h.1, h.2.1, Nat.zero_le _, h.2.2.2.1, h.2.2.2.2.1, h.2.2.2.2.2⟩
  · exact ⟨q.1, h.2.1, Nat.zero_le _, h.2.2.2.1, h.2.2.2.2.1, hOk_mono h.2.2.2.2.2 (rtF_p 250 1 N (stp le z 0))⟩
theorem trm_p (S : Sch) : sP (trmS S) = sP S := by unfold trmS; split <;> rfl
theorem trmN_p (S : Sch) : ∀ k, sP (trmN S k) = sP S
  | 0 => rfl
  | k + 1 => (trm_p _).trans (trmN_p S k)
theorem k_ring {B : Bx} (h : bOk B) : bOk (x_ring B).1 := by
  obtain ⟨N, K, R⟩ := B
  unfold x_ring
  dsimp only
  split
  · exact h
  · exact k_N h (trm_ok h.1) (by rw [trm_p]; exact Nat.le_refl _)
theorem k_rings {B : Bx} (h : bOk B) (n : Int32) : bOk (x_rings B n).1 := by
  obtain ⟨N, K, R⟩ := B
  unfold x_rings
  dsimp only
  split
  · split
    · exact h
    · exact k_N h (trmN_ok h.1 _) (by rw [trmN_p]; exact Nat.le_refl _)
  · exact h
theorem k_judge {B : Bx} (h : bOk B) (s : Int32) : bOk (x_judge B s).1 := by
  obtain ⟨N, K, b, z, le, rf, hd, ln, vl⟩ := B
  unfold x_judge listS
  dsimp only
  (repeat' split) <;> exact h
theorem k_unlike {B : Bx} (h : bOk B) (s : Int32) : bOk (x_unlike B s).1 := by
  obtain ⟨N, K, b, z, le, rf, hd, ln, vl⟩ := B
  unfold x_unlike listS
  dsimp only
  (repeat' split) <;> exact h
theorem k_personOf {B : Bx} (h : bOk B) (i w : Int32) : bOk (x_personOf B i w).1 := by
  obtain ⟨N, K, R⟩ := B
  unfold x_personOf
  dsimp only
  first
    | exact h
    | ((repeat' split) <;> exact h)
theorem k_morningOf {B : Bx} (h : bOk B) (m w : Int32) : bOk (x_morningOf B m w).1 := by
  obtain ⟨N, K, R⟩ := B
  unfold x_morningOf
  dsimp only
  first
    | exact h
    | ((repeat' split) <;> exact h)
theorem k_can {B : Bx} (h : bOk B) (i m : Int32) : bOk (x_can B i m).1 := by
  obtain ⟨N, K, R⟩ := B
  unfold x_can
  dsimp only
  first
    | exact h
    | ((repeat' split) <;> exact h)
theorem k_expects {B : Bx} (h : bOk B) (i m : Int32) : bOk (x_expects B i m).1 := by
  obtain ⟨N, K, R⟩ := B
  unfold x_expects
  dsimp only
  first
    | exact h
    | ((repeat' split) <;> exact h)
theorem k_who {B : Bx} (h : bOk B) (m : Int32) : bOk (x_who B m).1 := by
  obtain ⟨N, K, R⟩ := B
  unfold x_who
  dsimp only
  first
    | exact h
    | ((repeat' split) <;> exact h)
theorem k_first {B : Bx} (h : bOk B) (i : Int32) : bOk (x_first B i).1 := by
  obtain ⟨N, K, R⟩ := B
  unfold x_first
  dsimp only
  first
    | exact h
    | ((repeat' split) <;> exact h)
theorem k_lasts {B : Bx} (h : bOk B) (i : Int32) : bOk (x_lasts B i).1 := by
  obtain ⟨N, K, R⟩ := B
  unfold x_lasts
  dsimp only
  first
    | exact h
    | ((repeat' split) <;> exact h)
theorem k_ends {B : Bx} (h : bOk B) : bOk (x_ends B).1 := by
  obtain ⟨N, K, R⟩ := B
  unfold x_ends
  dsimp only
  first
    | exact h
    | ((repeat' split) <;> exact h)
theorem k_agree {B : Bx} (h : bOk B) (m : Int32) : bOk (x_agree B m).1 := by
  obtain ⟨N, K, R⟩ := B
  unfold x_agree
  dsimp only
  first
    | exact h
    | ((repeat' split) <;> exact h)
theorem k_surprises {B : Bx} (h : bOk B) : bOk (x_surprises B).1 := by
  obtain ⟨N, K, R⟩ := B
  unfold x_surprises
  dsimp only
  first
    | exact h
    | ((repeat' split) <;> exact h)
theorem k_odds {B : Bx} (h : bOk B) (m : Int32) : bOk (x_odds B m).1 := by
  obtain ⟨N, K, R⟩ := B
  unfold x_odds
  dsimp only
  first
    | exact h
    | ((repeat' split) <;> exact h)
theorem k_likeliest {B : Bx} (h : bOk B) : bOk (x_likeliest B).1 := by
  obtain ⟨N, K, R⟩ := B
  unfold x_likeliest
  dsimp only
  first
    | exact h
    | ((repeat' split) <;> exact h)
theorem k_caught {B : Bx} (h : bOk B) : bOk (x_caught B).1 := by
  obtain ⟨N, K, R⟩ := B
  unfold x_caught
  dsimp only
  first
    | exact h
    | ((repeat' split) <;> exact h)
theorem k_best {B : Bx} (h : bOk B) (x m : Int32) : bOk (x_best B x m).1 := by
  obtain ⟨N, K, R⟩ := B
  unfold x_best
  dsimp only
  first
    | exact h
    | ((repeat' split) <;> exact h)
theorem k_gain {B : Bx} (h : bOk B) (m w : Int32) : bOk (x_gain B m w).1 := by
  obtain ⟨N, K, R⟩ := B
  unfold x_gain
  dsimp only
  first
    | exact h
    | ((repeat' split) <;> exact h)
theorem k_bet {B : Bx} (h : bOk B) (w : Int32) : bOk (x_bet B w).1 := by
  obtain ⟨N, K, R⟩ := B
  unfold x_bet
  dsimp only
  first
    | exact h
    | ((repeat' split) <;> exact h)
theorem k_will {B : Bx} (h : bOk B) : bOk (x_will B).1 := by
  obtain ⟨N, K, R⟩ := B
  unfold x_will
  dsimp only
  first
    | exact h
    | ((repeat' split) <;> exact h)
theorem k_spoils {B : Bx} (h : bOk B) (i : Int32) : bOk (x_spoils B i).1 := by
  obtain ⟨N, K, R⟩ := B
  unfold x_spoils
  dsimp only
  first
    | exact h
    | ((repeat' split) <;> exact h)
theorem k_spoiler {B : Bx} (h : bOk B) : bOk (x_spoiler B).1 := by
  obtain ⟨N, K, R⟩ := B
  unfold x_spoiler
  dsimp only
  first
    | exact h
    | ((repeat' split) <;> exact h)
theorem k_deeper {B : Bx} (h : bOk B) (i m : Int32) : bOk (x_deeper B i m).1 := by
  obtain ⟨N, K, R⟩ := B
  unfold x_deeper
  dsimp only
  first
    | exact h
    | ((repeat' split) <;> exact h)
theorem k_foresees {B : Bx} (h : bOk B) (i j : Int32) : bOk (x_foresees B i j).1 := by
  obtain ⟨N, K, R⟩ := B
  unfold x_foresees
  dsimp only
  first
    | exact h
    | ((repeat' split) <;> exact h)
theorem k_foreseen {B : Bx} (h : bOk B) (i : Int32) : bOk (x_foreseen B i).1 := by
  obtain ⟨N, K, R⟩ := B
  unfold x_foreseen
  dsimp only
  first
    | exact h
    | ((repeat' split) <;> exact h)
theorem k_deepest {B : Bx} (h : bOk B) : bOk (x_deepest B).1 := by
  obtain ⟨N, K, R⟩ := B
  unfold x_deepest
  dsimp only
  first
    | exact h
    | ((repeat' split) <;> exact h)
theorem k_asleep {B : Bx} (h : bOk B) (m : Int32) : bOk (x_asleep B m).1 := by
  obtain ⟨N, K, R⟩ := B
  unfold x_asleep
  dsimp only
  first
    | exact h
    | ((repeat' split) <;> exact h)
theorem k_crowd {B : Bx} (h : bOk B) (k : Int32) : bOk (x_crowd B k).1 := by
  obtain ⟨N, K, R⟩ := B
  unfold x_crowd
  dsimp only
  first
    | exact h
    | ((repeat' split) <;> exact h)
theorem k_level {B : Bx} (h : bOk B) (m : Int32) : bOk (x_level B m).1 := by
  obtain ⟨N, K, R⟩ := B
  unfold x_level
  dsimp only
  first
    | exact h
    | ((repeat' split) <;> exact h)
theorem k_longest {B : Bx} (h : bOk B) : bOk (x_longest B).1 := by
  obtain ⟨N, K, R⟩ := B
  unfold x_longest
  dsimp only
  first
    | exact h
    | ((repeat' split) <;> exact h)
theorem k_by {B : Bx} (h : bOk B) (m : Int32) : bOk (x_by B m).1 := by
  obtain ⟨N, K, R⟩ := B
  unfold x_by
  dsimp only
  first
    | exact h
    | ((repeat' split) <;> exact h)
theorem k_mean {B : Bx} (h : bOk B) : bOk (x_mean B).1 := by
  obtain ⟨N, K, R⟩ := B
  unfold x_mean
  dsimp only
  first
    | exact h
    | ((repeat' split) <;> exact h)
theorem k_fair {B : Bx} (h : bOk B) (m : Int32) : bOk (x_fair B m).1 := by
  obtain ⟨N, K, R⟩ := B
  unfold x_fair
  dsimp only
  first
    | exact h
    | ((repeat' split) <;> exact h)
theorem k_second {B : Bx} (h : bOk B) (m v : Int32) : bOk (x_second B m v).1 := by
  obtain ⟨N, K, R⟩ := B
  unfold x_second
  dsimp only
  first
    | exact h
    | ((repeat' split) <;> exact h)
theorem k_hints {B : Bx} (h : bOk B) (w : Int32) : bOk (x_hints B w).1 := by
  obtain ⟨N, K, R⟩ := B
  unfold x_hints
  dsimp only
  first
    | exact h
    | ((repeat' split) <;> exact h)
theorem k_book {B : Bx} (h : bOk B) (s n : Int32) : bOk (x_book B s n).1 := by
  obtain ⟨N, K, b, z, le, rf, hd, ln, vl⟩ := B
  unfold x_book
  dsimp only
  first
    | exact h
    | ((repeat' split) <;> exact h)
theorem k_rules {B : Bx} (h : bOk B) (s n w : Int32) : bOk (x_rules B s n w).1 := by
  obtain ⟨N, K, b, z, le, rf, hd, ln, vl⟩ := B
  unfold x_rules
  dsimp only
  first
    | exact h
    | ((repeat' split) <;> exact h)
theorem k_status {B : Bx} (h : bOk B) (w : Int32) : bOk (x_status B w).1 := by
  obtain ⟨N, K, b, z, le, rf, hd, ln, vl⟩ := B
  unfold x_status
  dsimp only
  first
    | exact h
    | ((repeat' split) <;> exact h)
