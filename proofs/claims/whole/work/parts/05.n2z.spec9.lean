/-! SPEC9: the whole text -/
abbrev pok (z : Nat) (p : Nat × Nat × Nat) : Prop := p.1 ≤ p.2.1 ∧ p.2.1 ≤ z ∧ p.2.2 ≤ 4
theorem stp_ok {le : Nat → Nat} {z e : Nat} (h : e ≤ z) : pok z (stp le z e) := ⟨(st_le h).1, (st_le h).2, tkK_le _ _ _⟩
theorem ok_T {S : Sch} (h : sOk S) {n : Nat} (h1 : 1 ≤ n) (h9 : n ≤ 9) : sOk (bgT S n) := ⟨h1, h9, by show 2 ^ n - 1 < 2 ^ n; have := Nat.one_le_two_pow (n := n); omega, fun i _ => by show 1 ≤ 9; decide, h.2.2.2.2.1, h.2.2.2.2.2.1, h.2.2.2.2.2.2.1, h.2.2.2.2.2.2.2⟩
theorem ok_P {S : Sch} (h : sOk S) {k u : Nat} (hp : sP S < 6) (hk : k < 6) (hu : u ≤ 9) : sOk (adS S k u) := ⟨h.1, h.2.1, h.2.2.1, h.2.2.2.1, h.2.2.2.2.1, by show sP S + 1 ≤ 6; omega, fun i hi => by
    have := up_le (f := sK S) (n := 6) (b := 5) (i := sP S) (v := k) (fun j hj => by have := h.2.2.2.2.2.2.1 j hj; omega) (by omega) i hi
    show updN (sK S) (sP S) k i < 6
    omega, up_le (f := sO S) h.2.2.2.2.2.2.2 hu⟩
theorem rdT_ok {le : Nat → Nat} {z : Nat} {S : Sch} {e : Nat} (h : sOk S) (he : e ≤ z) : sOk (rdT le z S e).2.1 ∧ pok z (rdT le z S e).2.2 := by
  by_cases q : numP le (stp le z e) (nI 1) (nI 9) = -1
  · rw [rdT_n q]; exact ⟨h, nmS_le le _ _ (stp_ok he)⟩
  · obtain ⟨j, hj, ej⟩ := numH_at (by decide) (by decide) q
    rw [rdT_y ej (by omega)]; exact ⟨ok_T h hj.1 hj.2, nmS_le le _ _ (stp_ok he)⟩
theorem rdN_ok {le : Nat → Nat} {z : Nat} {S : Sch} {e : Nat} (h : sOk S) (he : e ≤ z) : sOk (rdN le z S e).2.1 ∧ pok z (rdN le z S e).2.2 := by
  have o2 := h.2.1
  by_cases q : numP le (stp le z e) (nI 0) (nI (sN S - 1)) = -1
  · rw [rdN_n q]; exact ⟨h, nmS_le le _ _ (stp_ok he)⟩
  · obtain ⟨j, hj, ej⟩ := numH_at (by decide) (by omega) q
    rw [rdN_y ej (by omega)]; exact ⟨ok_A h (Nat.lt_of_le_of_lt (dif_le _ _) h.2.2.1), nmS_le le _ _ (stp_ok he)⟩
theorem rdS_ok {le : Nat → Nat} {z : Nat} {S : Sch} {e : Nat} (h : sOk S) (he : e ≤ z) : sOk (rdS le z S e).2.1 ∧ pok z (rdS le z S e).2.2 := by
  by_cases q : numP le (stp le z e) (nI 0) (nI 9) = -1
  · rw [rdS_n q]; exact ⟨h, nmS_le le _ _ (stp_ok he)⟩
  · obtain ⟨j, hj, ej⟩ := numH_at (by decide) (by decide) q
    rw [rdS_y ej (by omega)]; exact ⟨ok_D h hj.2, nmS_le le _ _ (stp_ok he)⟩
theorem rdW_ok {le : Nat → Nat} {z : Nat} {S : Sch} {e : Nat} (h : sOk S) (he : e ≤ z) : sOk (rdW le z S e).2.1 ∧ pok z (rdW le z S e).2.2 := by
  have o2 := h.2.1
  have p2 := nmS_le le (nI 0) (nI (sN S - 1)) (stp_ok (le := le) he)
  by_cases q : numP le (stp le z e) (nI 0) (nI (sN S - 1)) = -1
  · rw [rdW_n q]; exact ⟨h, p2⟩
  · obtain ⟨j, hj, ej⟩ := numH_at (by decide) (by omega) q
    by_cases q2 : numP le (nmS le z (stp le z e) (nI 0) (nI (sN S - 1))) (nI 0) (nI 9) = -1
    · rw [rdW_m ej (by omega) q2]; exact ⟨h, nmS_le le _ _ p2⟩
    · obtain ⟨i, hi, ei⟩ := numH_at (by decide) (by decide) q2
      rw [rdW_y ej (by omega) ei (by omega)]; exact ⟨ok_W h (up_le h.2.2.2.1 hi.2), nmS_le le _ _ p2⟩
theorem rdP_ok {le : Nat → Nat} {z : Nat} {S : Sch} {p : Nat × Nat × Nat} (h : sOk S) (hp : pok z p) : sOk (rdP le z S p).2.1 ∧ pok z (rdP le z S p).2.2 := by
  have p2 := nmS_le le (nI 0) (nI 5) (stp_ok (le := le) hp.2.1)
  by_cases q0 : 6 ≤ sP S
  · rw [rdP_0 q0]; exact ⟨h, hp⟩
  · by_cases q : numP le (stp le z p.2.1) (nI 0) (nI 5) = -1
    · rw [rdP_n (by omega) q]; exact ⟨h, p2⟩
    · obtain ⟨j, hj, ej⟩ := numH_at (by decide) (by decide) q
      by_cases q2 : numP le (nmS le z (stp le z p.2.1) (nI 0) (nI 5)) (nI 0) (nI 9) = -1
      · rw [rdP_m (by omega) ej (by omega) q2]; exact ⟨h, nmS_le le _ _ p2⟩
      · obtain ⟨i, hi, ei⟩ := numH_at (by decide) (by decide) q2
        rw [rdP_y (by omega) ej (by omega) ei (by omega)]; exact ⟨ok_P h (by omega) (by omega) hi.2, nmS_le le _ _ p2⟩
theorem hnF_ok {le : Nat → Nat} {z n : Nat} : ∀ (f i s : Nat) (p : Nat × Nat × Nat), pok z p → pok z (hnF le z n f i s p).2.2
  | 0, _, _, _, h => h
  | f + 1, i, s, p, h => by
    unfold hnF
    split
    · exact h
    · split
      · exact h
      · split
        · exact h
        · exact hnF_ok f _ _ _ (stp_ok h.2.1)
theorem rdH_ok {le : Nat → Nat} {z : Nat} {S : Sch} {e : Nat} (h : sOk S) (he : e ≤ z) : sOk (rdH le z S e).2.1 ∧ pok z (rdH le z S e).2.2 := by
  refine ⟨?_, hnF_ok _ _ _ _ (stp_ok he)⟩
  show sOk (if (hnR le z S e).1 then stA S (sA S &&& (hnR le z S e).2.1) else S)
  split
  · exact ok_A h (Nat.lt_of_le_of_lt Nat.and_le_left h.2.2.1)
  · exact h
theorem rdX_ok {le : Nat → Nat} {z : Nat} {S : Sch} {p : Nat × Nat × Nat} (h : sOk S) (hp : pok z p) : sOk (rdX le z S p).2.1 ∧ pok z (rdX le z S p).2.2 := by
  unfold rdX
  split
  · exact rdT_ok h hp.2.1
  · split
    · exact rdN_ok h hp.2.1
    · split
      · exact rdW_ok h hp.2.1
      · split
        · exact rdS_ok h hp.2.1
        · split
          · exact rdP_ok h hp
          · split
            · exact rdH_ok h hp.2.1
            · exact ⟨h, hp⟩
def rtF (le : Nat → Nat) (z : Nat) : Nat → Nat → Sch → Nat × Nat × Nat → Int32 × Sch × Nat × Nat × Nat
  | 0, _, S, p => (-1, S, p)
  | f + 1, n, S, p =>
    if (rdX le z S p).1 = false then (-1, (rdX le z S p).2)
    else if (rdX le z S p).2.2.2.2 = 0 then (nI n, (rdX le z S p).2)
    else if (rdX le z S p).2.2.2.2 = 3 then rtF le z f (n + 1) (rdX le z S p).2.1 (stp le z (rdX le z S p).2.2.2.1)
    else (-1, (rdX le z S p).2)
theorem rtF_f {le : Nat → Nat} {z f n : Nat} {S : Sch} {p : Nat × Nat × Nat} (hf : 0 < f) (h : (rdX le z S p).1 = false) : rtF le z f n S p = (-1, (rdX le z S p).2) := by
  cases f with
  | zero => omega
  | succ f => rw [rtF, if_pos h]
theorem rtF_e {le : Nat → Nat} {z f n : Nat} {S : Sch} {p : Nat × Nat × Nat} (hf : 0 < f) (h : (rdX le z S p).1 = true) (h2 : (rdX le z S p).2.2.2.2 = 0) : rtF le z f n S p = (nI n, (rdX le z S p).2) := by
  cases f with
  | zero => omega
  | succ f => rw [rtF, if_neg (by rw [h]; decide), if_pos h2]
theorem rtF_n {le : Nat → Nat} {z f n : Nat} {S : Sch} {p : Nat × Nat × Nat} (hf : 0 < f) (h : (rdX le z S p).1 = true) (h2 : ¬ (rdX le z S p).2.2.2.2 = 0) (h3 : ¬ (rdX le z S p).2.2.2.2 = 3) : rtF le z f n S p = (-1, (rdX le z S p).2) := by
  cases f with
  | zero => omega
  | succ f => rw [rtF, if_neg (by rw [h]; decide), if_neg h2, if_neg h3]
theorem rtF_s {le : Nat → Nat} {z f n : Nat} {S : Sch} {p : Nat × Nat × Nat} (hf : 0 < f) (h : (rdX le z S p).1 = true) (h2 : ¬ (rdX le z S p).2.2.2.2 = 0) (h3 : (rdX le z S p).2.2.2.2 = 3) : rtF le z f n S p = rtF le z (f - 1) (n + 1) (rdX le z S p).2.1 (stp le z (rdX le z S p).2.2.2.1) := by
  cases f with
  | zero => omega
  | succ f => rw [rtF, if_neg (by rw [h]; decide), if_neg h2, if_pos h3]; rfl
def rtT (le : Nat → Nat) (z : Nat) (S : Sch) : Int32 × Sch × Nat × Nat × Nat := rtF le z 250 1 S (stp le z 0)
theorem rtF_ok {le : Nat → Nat} {z : Nat} : ∀ (f n : Nat) (S : Sch) (p : Nat × Nat × Nat), sOk S → pok z p → sOk (rtF le z f n S p).2.1 ∧ pok z (rtF le z f n S p).2.2
  | 0, _, _, _, h, hp => ⟨h, hp⟩
  | f + 1, n, S, p, h, hp => by
    have q := rdX_ok (le := le) h hp
    unfold rtF
    split
    · exact q
    · split
      · exact q
      · split
        · exact rtF_ok f _ _ _ q.1 (stp_ok q.2.2.1)
        · exact q
def x_school (B : Bx) : Bx × Int32 := match B with
  | (N, K, b, z, le, rf, hd, ln, vl) => if (rtT le z N).1 = -1 then ((N, K, b, 0, le, inc rf 0, hd, ln, vl), (-20) - nI (rtT le z N).2.2.1) else (((rtT le z N).2.1, K, b, 0, le, rf, hd, ln, vl), (rtT le z N).1)
