/-! MSPEC6: the tape of the model -/
def kI (k : Nat) : Int32 := if k = 4 then -1 else nI k
theorem kI_eq : ∀ w, w ≤ 4 → ∀ k, k ≤ 3 → (kI w = nI k ↔ w = k) := by decide
theorem kI_z {w : Nat} (hw : w ≤ 4) : kI w = 0 ↔ w = 0 := kI_eq w hw 0 (by decide)
def vaF (le : Nat → Nat) (x y : Nat) : Int32 := if 2 < y - x then nI 1000 else numF le x (y - x)
def vaS (le : Nat → Nat) (z e : Nat) (v : Int32) : Int32 := if tkK le z e = 2 then vaF le (skp le z e) (tkE le z e) else v
abbrev vaP (le : Nat → Nat) (p : Nat × Nat × Nat) (v : Int32) : Prop := p.2.2 = 2 → v = vaF le p.1 p.2.1
theorem vaS_P (le : Nat → Nat) (z e : Nat) (v : Int32) : vaP le (stp le z e) (vaS le z e v) := fun h => if_pos h
theorem num_t {le : Nat → Nat} {p : Nat × Nat × Nat} {v : Int32} {lo hi : Nat} (hk : p.2.2 = 2) (hv : vaP le p v) (hhi : hi ≤ 9) (h : wi v (nI lo) (nI hi) = true) : numP le p (nI lo) (nI hi) = v := by
  have e := hv hk
  unfold vaF at e
  unfold numP numH
  rw [if_pos hk]
  by_cases q : 2 < p.2.1 - p.1
  · rw [if_pos q] at e
    rw [e] at h
    simp only [wi, Bool.and_eq_true, decide_eq_true_eq] at h
    exact absurd ((nI_leI (by decide) (by omega)).mp h.2) (by omega)
  · rw [if_neg q] at e
    rw [if_neg q, ← e, if_pos h]
theorem num_f {le : Nat → Nat} {p : Nat × Nat × Nat} {v : Int32} {lo hi : Nat} (hv : vaP le p v) (h : ¬ p.2.2 = 2 ∨ wi v (nI lo) (nI hi) = false) : numP le p (nI lo) (nI hi) = -1 := by
  unfold numP numH
  by_cases hk : p.2.2 = 2
  · rw [if_pos hk]
    have e := hv hk
    unfold vaF at e
    have h := h.resolve_left (fun z => z hk)
    by_cases q : 2 < p.2.1 - p.1
    · rw [if_pos q]
    · rw [if_neg q] at e
      rw [if_neg q, ← e, if_neg (by rw [h]; decide)]
  · rw [if_neg hk]
def nok (le : Nat → Nat) (z e lo hi : Nat) : Bool := decide (¬ numP le (stp le z e) (nI lo) (nI hi) = -1)
theorem nok_1 {le : Nat → Nat} {z e lo hi : Nat} (h : ¬ kI (tkK le z e) = nI 2) : nok le z e lo hi = false := by
  refine decide_eq_false (fun q => q ?_)
  refine num_f (p := stp le z e) (vaS_P le z e 0) (.inl fun q2 => h ?_)
  exact (kI_eq _ (tkK_le _ _ _) 2 (by decide)).mpr q2
theorem nok_2 {le : Nat → Nat} {z e lo hi : Nat} {v : Int32} (h : wi (vaS le z e v) (nI lo) (nI hi) = false) : nok le z e lo hi = false :=
  decide_eq_false (fun q => q (num_f (p := stp le z e) (vaS_P le z e v) (.inr h)))
theorem nok_3 {le : Nat → Nat} {z e lo hi : Nat} {v : Int32} (hlo : lo ≤ 9) (hhi : hi ≤ 9) (h1 : kI (tkK le z e) = nI 2) (h : wi (vaS le z e v) (nI lo) (nI hi) = true) : nok le z e lo hi = true := by
  have hk : (stp le z e).2.2 = 2 := (kI_eq _ (tkK_le _ _ _) 2 (by decide)).mp h1
  have q := num_t (p := stp le z e) hk (vaS_P le z e v) hhi h
  refine decide_eq_true (fun q2 => ?_)
  rw [q] at q2
  rw [q2] at h
  simp only [wi, Bool.and_eq_true, decide_eq_true_eq] at h
  exact m1_le (by omega) h.1
theorem num_k {le : Nat → Nat} {p : Nat × Nat × Nat} {lo hi : Int32} (h : ¬ numP le p lo hi = -1) : p.2.2 = 2 := by
  by_cases q : p.2.2 = 2
  · exact q
  · exact absurd (by unfold numP numH; rw [if_neg q]) h
theorem nok_at {le : Nat → Nat} {z e lo hi : Nat} (v : Int32) (hlo : lo ≤ 9) (hhi : hi ≤ 9) (h : nok le z e lo hi = true) : ∃ j, (lo ≤ j ∧ j ≤ hi) ∧ numP le (stp le z e) (nI lo) (nI hi) = nI j ∧ vaS le z e v = nI j := by
  have h := of_decide_eq_true h
  have hk := num_k h
  obtain ⟨j, hj, ej⟩ := numH_at (a := lo) (b := hi) (by omega) (by omega) h
  refine ⟨j, hj, ej, ?_⟩
  cases q : wi (vaS le z e v) (nI lo) (nI hi) with
  | true => rw [← num_t (p := stp le z e) hk (vaS_P le z e v) hhi q]; exact ej
  | false => exact absurd (num_f (p := stp le z e) (vaS_P le z e v) (.inr q)) h
theorem nok_no {le : Nat → Nat} {z e lo hi : Nat} (h : nok le z e lo hi = false) : numP le (stp le z e) (nI lo) (nI hi) = -1 := Decidable.not_not.mp (of_decide_eq_false h)
theorem nmS_f {le : Nat → Nat} {z : Nat} {p : Nat × Nat × Nat} {lo hi : Int32} (h : numP le p lo hi = -1) : nmS le z p lo hi = p := by rw [nmS, if_pos h]
theorem nmS_t {le : Nat → Nat} {z : Nat} {p : Nat × Nat × Nat} {lo hi : Int32} {j : Nat} (h : numP le p lo hi = nI j) (hj : j < 2 ^ 31) : nmS le z p lo hi = stp le z p.2.1 := by rw [nmS, if_neg (m1_ni h hj)]
/-! a token read -/
theorem tok_1 {le : Nat → Nat} {z e x : Nat} (h : skp le z e < z) (hk : tokK (le (skp le z e)) = 1) (hr : run le z 1 (skp le z e) = x) : tkK le z e = 1 ∧ tkE le z e = x := by
  refine ⟨by rw [tkK_1 h, hk], tkE_1 h (fun _ => ?_) (fun q => absurd (.inl hk) q)⟩
  rw [hk]
  rw [← hr]
  exact (scn_s h (decide_eq_true hk)).symm
theorem tok_2 {le : Nat → Nat} {z e x : Nat} (h : skp le z e < z) (hk : tokK (le (skp le z e)) = 2) (hr : run le z 2 (skp le z e) = x) : tkK le z e = 2 ∧ tkE le z e = x := by
  refine ⟨by rw [tkK_1 h, hk], tkE_1 h (fun _ => ?_) (fun q => absurd (.inr hk) q)⟩
  rw [hk]
  rw [← hr]
  exact (scn_s h (decide_eq_true hk)).symm
theorem tok_3 {le : Nat → Nat} {z e : Nat} (h : skp le z e < z) (h1 : ¬ tokK (le (skp le z e)) = 1) (h2 : ¬ tokK (le (skp le z e)) = 2) : tkK le z e = (if le (skp le z e) = 59 then 3 else 4) ∧ tkE le z e = skp le z e + 1 := by
  refine ⟨?_, tkE_1 h (fun q => (q.elim h1 h2).elim) (fun _ => rfl)⟩
  rw [tkK_1 h]
  unfold tokK at h1 h2 ⊢
  split
  · rename_i q; rw [if_pos q] at h1; exact absurd rfl h1
  · rename_i q
    rw [if_neg q] at h2
    split
    · rename_i q2; rw [if_pos q2] at h2; exact absurd rfl h2
    · rfl
theorem vaS_2 {le : Nat → Nat} {z e x : Nat} {v u : Int32} (h1 : tkK le z e = 2) (h2 : tkE le z e = x) (h3 : u = if 2 < x - skp le z e then nI 1000 else numF le (skp le z e) (x - skp le z e)) : vaS le z e v = u := by
  rw [vaS, if_pos h1, vaF, h2, h3]
theorem vaS_n {le : Nat → Nat} {z e : Nat} {v : Int32} (h1 : ¬ tkK le z e = 2) : vaS le z e v = v := by rw [vaS, if_neg h1]
/-! how far a statement reaches -/
theorem skp_ge {le : Nat → Nat} {z e : Nat} (h : e ≤ z) : e ≤ skp le z e ∧ skp le z e ≤ z := scn_le h
theorem tkE_gt {le : Nat → Nat} {z e : Nat} (h : e ≤ z) (hk : ¬ tkK le z e = 0) : skp le z e + 1 ≤ tkE le z e := by
  have h1 := skp_ge (le := le) h
  unfold tkK at hk
  unfold tkE
  split
  · rename_i q; rw [if_pos q] at hk; exact absurd rfl hk
  · split
    · have h2 : skp le z e + 1 ≤ run le z (tokK (le (skp le z e))) (skp le z e + 1) ∧ run le z (tokK (le (skp le z e))) (skp le z e + 1) ≤ z := scn_le (by omega)
      omega
    · omega
/-- a place reached from y on -/
abbrev frm (le : Nat → Nat) (z y : Nat) (p : Nat × Nat × Nat) : Prop := ∃ e, y ≤ e ∧ e ≤ z ∧ p = stp le z e
theorem frm_s {le : Nat → Nat} {z y : Nat} (h : y ≤ z) : frm le z y (stp le z y) := ⟨y, Nat.le_refl _, h, rfl⟩
theorem frm_n {le : Nat → Nat} {z y : Nat} {p : Nat × Nat × Nat} (h : frm le z y p) : y ≤ p.2.1 ∧ p.2.1 ≤ z := by
  obtain ⟨e, h1, h2, rfl⟩ := h
  have := st_le (le := le) h2
  have := skp_ge (le := le) h2
  show y ≤ tkE le z e ∧ tkE le z e ≤ z
  omega
theorem frm_g {le : Nat → Nat} {z y : Nat} {p : Nat × Nat × Nat} (h : frm le z y p) : frm le z y (stp le z p.2.1) := ⟨p.2.1, (frm_n h).1, (frm_n h).2, rfl⟩
theorem frm_m {le : Nat → Nat} {z y : Nat} {p : Nat × Nat × Nat} (lo hi : Int32) (h : frm le z y p) : frm le z y (nmS le z p lo hi) := by
  unfold nmS
  split
  · exact h
  · exact frm_g h
theorem rdT_m {le : Nat → Nat} {z : Nat} {S : Sch} {e : Nat} (he : e ≤ z) : frm le z e (rdT le z S e).2.2 := by
  unfold rdT
  split <;> exact frm_m _ _ (frm_s he)
theorem rdN_m {le : Nat → Nat} {z : Nat} {S : Sch} {e : Nat} (he : e ≤ z) : frm le z e (rdN le z S e).2.2 := by
  unfold rdN
  split <;> exact frm_m _ _ (frm_s he)
theorem rdS_m {le : Nat → Nat} {z : Nat} {S : Sch} {e : Nat} (he : e ≤ z) : frm le z e (rdS le z S e).2.2 := by
  unfold rdS
  split <;> exact frm_m _ _ (frm_s he)
theorem rdW_m2 {le : Nat → Nat} {z : Nat} {S : Sch} {e : Nat} (he : e ≤ z) : frm le z e (rdW le z S e).2.2 := by
  unfold rdW
  split
  · exact frm_m _ _ (frm_s he)
  · split <;> exact frm_m _ _ (frm_m _ _ (frm_s he))
theorem rdP_m2 {le : Nat → Nat} {z : Nat} {S : Sch} {p : Nat × Nat × Nat} (he : p.2.1 ≤ z) (h : (rdP le z S p).1 = true) : frm le z p.2.1 (rdP le z S p).2.2 := by
  unfold rdP at h ⊢
  by_cases q : 6 ≤ sP S
  · rw [if_pos q] at h; exact absurd h Bool.false_ne_true
  · rw [if_neg q]
    split
    · exact frm_m _ _ (frm_s he)
    · split <;> exact frm_m _ _ (frm_m _ _ (frm_s he))
theorem hnF_m {le : Nat → Nat} {z n y : Nat} : ∀ (f i s : Nat) (p : Nat × Nat × Nat), frm le z y p → frm le z y (hnF le z n f i s p).2.2
  | 0, _, _, _, h => h
  | f + 1, i, s, p, h => by
    unfold hnF
    split
    · exact h
    · split
      · exact h
      · split
        · exact h
        · exact hnF_m f _ _ _ (frm_g h)
theorem rdX_m {le : Nat → Nat} {z : Nat} {S : Sch} {p : Nat × Nat × Nat} (he : p.2.1 ≤ z) (h : (rdX le z S p).1 = true) : frm le z p.2.1 (rdX le z S p).2.2 := by
  unfold rdX at h ⊢
  by_cases h0 : wrd le p.1 p.2.1 p.2.2 0 = true
  · rw [if_pos h0]; exact rdT_m he
  · rw [if_neg h0] at h ⊢
    by_cases h1 : wrd le p.1 p.2.1 p.2.2 1 = true
    · rw [if_pos h1]; exact rdN_m he
    · rw [if_neg h1] at h ⊢
      by_cases h2 : wrd le p.1 p.2.1 p.2.2 2 = true
      · rw [if_pos h2]; exact rdW_m2 he
      · rw [if_neg h2] at h ⊢
        by_cases h3 : wrd le p.1 p.2.1 p.2.2 3 = true
        · rw [if_pos h3]; exact rdS_m he
        · rw [if_neg h3] at h ⊢
          by_cases h4 : wrd le p.1 p.2.1 p.2.2 4 = true
          · rw [if_pos h4] at h ⊢; exact rdP_m2 he h
          · rw [if_neg h4] at h ⊢
            by_cases h5 : wrd le p.1 p.2.1 p.2.2 5 = true
            · rw [if_pos h5]; exact hnF_m _ _ _ _ (frm_s he)
            · rw [if_neg h5] at h; exact absurd h Bool.false_ne_true
theorem rdX_w {le : Nat → Nat} {z : Nat} {S : Sch} {p : Nat × Nat × Nat} (h : (rdX le z S p).1 = true) : p.2.2 = 1 := by
  by_cases q : p.2.2 = 1
  · exact q
  · have w : ∀ i, wrd le p.1 p.2.1 p.2.2 i = false := fun i => by rw [wrd, decide_eq_false q]; rfl
    unfold rdX at h
    rw [w, w, w, w, w, w] at h
    exact absurd h Bool.false_ne_true
theorem wrd_45 {le : Nat → Nat} {x y w : Nat} (h : wrd le x y w 5 = true) : wrd le x y w 4 = false := by
  simp only [wrd, Bool.and_eq_true, decide_eq_true_eq] at h
  have e5 : strLen.getD 5 0 = 4 := by decide
  have e4 : strLen.getD 4 0 = 6 := by decide
  rw [wrd, decide_eq_false (show ¬ y - x = strLen.getD 4 0 by rw [e4]; rw [e5] at h; omega), Bool.and_false]; rfl
/-! bits told once each -/
theorem bcn_s : ∀ s, s < 512 → ∀ j, j < 9 → s.testBit j = true ∨ bcn (s ||| 2 ^ j) = bcn s + 1 := by decide +kernel
theorem bcn_n : ∀ s, s < 512 → ∀ n, n < 10 → ¬ s < 2 ^ n ∨ bcn s ≤ n := by decide +kernel
theorem hnR_0 {le : Nat → Nat} {z : Nat} {S : Sch} {e : Nat} (h : numP le (stp le z e) (nI 0) (nI (sN S - 1)) = -1) : hnR le z S e = (false, 0, stp le z e) := by
  show hnF le z (sN S) (sN S + 2) 0 0 (stp le z e) = _
  exact hnF_n (by omega) (by omega) h
/-- what the search for a school's text comes to, at the end of a round -/
theorem rt_go {le : Nat → Nat} {z m e : Nat} {D : Sch} (h : e ≤ z) (hm : 2 * m ≤ e) (hx : (rdX le z D (stp le z e)).1 = true) (h3 : (rdX le z D (stp le z e)).2.2.2.2 = 3) : 2 * (m + 1) ≤ (rdX le z D (stp le z e)).2.2.2.1 ∧ (rdX le z D (stp le z e)).2.2.2.1 ≤ z := by
  have hw := rdX_w hx
  have g1 := tkE_gt (le := le) h (show ¬ tkK le z e = 0 from fun q => by
    have : tkK le z e = 1 := hw
    omega)
  have g0 := skp_ge (le := le) h
  obtain ⟨e2, h1, h2, h4⟩ := rdX_m (le := le) (z := z) (S := D) (p := stp le z e) (st_le h).2 hx
  have q : tkK le z e2 = 3 := by rw [h4] at h3; exact h3
  have g2 := tkE_gt (le := le) h2 (by omega)
  have g3 := skp_ge (le := le) h2
  have h1' : tkE le z e ≤ e2 := h1
  rw [h4]
  have g4 := st_le (le := le) h2
  show 2 * (m + 1) ≤ tkE le z e2 ∧ tkE le z e2 ≤ z
  omega
