/-! MSPEC7: all rows of weights, and the search among them -/
def cW (S : Sch) (w : Nat → Nat) : Nat := wsum w (dif (sA S) (sur (stW S w) 6)) (sN S)
abbrev Ls : Type := Int32 × (Nat → Int32)
def lfo (S : Sch) (s : Ls) (w : Nat → Nat) : Ls := if s.1 < 0 ∨ nI (cW S w) < s.1 then (nI (cW S w), aN w) else s
def fo (S : Sch) (s : Ls) (L : List (Nat → Nat)) : Ls := L.foldl (lfo S) s
theorem fo_app (S : Sch) (s : Ls) (L M : List (Nat → Nat)) : fo S s (L ++ M) = fo S (fo S s L) M := List.foldl_append
def sg {α : Type} (F : Nat → List α) : Nat → List α
  | 0 => []
  | v + 1 => sg F v ++ F v
def rws (A : Nat) : Nat → Nat → Nat → (Nat → Nat) → List (Nat → Nat)
  | 0, _, left, w => if left = 0 then [w] else []
  | d + 1, m, left, w => sg (fun v => rws A d (m + 1) (left - v) (updN w m v)) ((if A.testBit m then left else 0) + 1)
theorem rws_ext (A : Nat) : ∀ (d m left : Nat) (w w' : Nat → Nat), (∀ i, i < m ∨ m + d ≤ i → w i = w' i) → rws A d m left w = rws A d m left w'
  | 0, m, left, w, w', h => by
    have e : w = w' := funext fun i => h i (by omega)
    rw [e]
  | d + 1, m, left, w, w', h => by
    have e : (fun v => rws A d (m + 1) (left - v) (updN w m v)) = (fun v => rws A d (m + 1) (left - v) (updN w' m v)) := funext fun v => rws_ext A d (m + 1) (left - v) _ _ (fun i hi => by
      unfold updN
      by_cases q : i = m
      · rw [if_pos q, if_pos q]
      · rw [if_neg q, if_neg q]; exact h i (by omega))
    rw [rws, rws, e]
/-! the reckoning depends on the mornings alone -/
theorem wsm_ext {w v : Nat → Nat} {s : Nat} : ∀ {n : Nat}, (∀ k, k < n → w k = v k) → wsum w s n = wsum v s n
  | 0, _ => rfl
  | n + 1, h => by rw [wsum, wsum, wsm_ext (fun k hk => h k (by omega)), h n (by omega)]
theorem mxD_w (S : Sch) (f : Nat → Nat) (aw j : Nat) : mxD (stW S f) aw j = mxD S aw j := by
  induction j with
  | zero => rfl
  | succ j ih => rw [mxD, mxD, ih]; rfl
theorem dep_w (S : Sch) (f : Nat → Nat) (aw j : Nat) : dep (stW S f) aw j = dep S aw j := by
  show (if sK S j = 4 then min (mxD (stW S f) aw (sP S)) (sD S) else ownD S j) = _
  rw [mxD_w]; rfl
theorem reas_w (S : Sch) (f : Nat → Nat) : reas (stW S f) = reas S := by
  funext i
  show (if sK S i = 2 then 0 else if drp (sA S) (dep (stW S f) 6 i) = 0 then 0 else if slp S i (drp (sA S) (dep (stW S f) 6 i)).log2 = true then 0 else 2 ^ (drp (sA S) (dep (stW S f) 6 i)).log2) = _
  rw [dep_w]; rfl
theorem betP_w {S : Sch} {w v : Nat → Nat} (h : ∀ k, k < sN S → w k = v k) {i m : Nat} (hm : m < sN S) : betP (stW S w) i m = betP (stW S v) i m := by
  show ((sK S i == 2 || sK S i == 5) && ((sA S).testBit m && (decide (0 < w m) && decide (sO S i * wsum w (still (sA S) m) (sN S) ≤ 10 * w m)))) = _
  rw [wsm_ext h, h m hm]; rfl
theorem expP_w {S : Sch} {w v : Nat → Nat} (h : ∀ k, k < sN S → w k = v k) {aw i m : Nat} (hm : m < sN S) : expP (stW S w) aw i m = expP (stW S v) aw i m := by
  show (betP (stW S w) i m || (sK S i != 2 && (still (drp (sA S) (dep (stW S w) aw i)) m == 2 ^ m && !slp S i m))) = (betP (stW S v) i m || (sK S i != 2 && (still (drp (sA S) (dep (stW S v) aw i)) m == 2 ^ m && !slp S i m)))
  rw [betP_w h hm, dep_w S w, dep_w S v]
theorem sur_w {S : Sch} {w v : Nat → Nat} (h : ∀ k, k < sN S → w k = v k) (aw : Nat) : sur (stW S w) aw = sur (stW S v) aw := by
  refine bts_ext fun m hm => ?_
  have e : whoE (stW S w) aw m = whoE (stW S v) aw m := bts_ext fun i _ => by rw [expP_w h hm]
  show ((sA S).testBit m && whoE (stW S w) aw m == 0) = ((sA S).testBit m && whoE (stW S v) aw m == 0)
  rw [e]
theorem cW_ext {S : Sch} {w v : Nat → Nat} (h : ∀ k, k < sN S → w k = v k) : cW S w = cW S v := by
  rw [cW, cW, sur_w h, wsm_ext h]
/-- two folds over rows that differ behind the mornings alone -/
theorem fo_rel (S : Sch) (A : Nat) : ∀ (d m left : Nat) (w v : Nat → Nat), m + d = sN S → (∀ i, i < m → w i = v i) → ∀ (s t : Ls), s.1 = t.1 → (∀ k, k < sN S → s.2 k = t.2 k) →
    (fo S s (rws A d m left w)).1 = (fo S t (rws A d m left v)).1 ∧ (∀ k, k < sN S → (fo S s (rws A d m left w)).2 k = (fo S t (rws A d m left v)).2 k)
  | 0, m, left, w, v, hm, h, s, t, h1, h2 => by
    unfold rws
    by_cases q : left = 0
    · rw [if_pos q, if_pos q]
      have hw : ∀ k, k < sN S → w k = v k := fun k hk => h k (by omega)
      show (lfo S s w).1 = (lfo S t v).1 ∧ ∀ k, k < sN S → (lfo S s w).2 k = (lfo S t v).2 k
      unfold lfo
      rw [cW_ext hw, h1]
      split
      · exact ⟨rfl, fun k hk => congrArg nI (hw k hk)⟩
      · exact ⟨h1, h2⟩
    · rw [if_neg q, if_neg q]; exact ⟨h1, h2⟩
  | d + 1, m, left, w, v, hm, h, s, t, h1, h2 => by
    unfold rws
    generalize (if A.testBit m then left else 0) + 1 = c
    induction c with
    | zero => exact ⟨h1, h2⟩
    | succ c ih =>
      rw [sg, sg, fo_app, fo_app]
      exact fo_rel S A d (m + 1) (left - c) _ _ (by omega) (fun i hi => by
        unfold updN
        by_cases q : i = m
        · rw [if_pos q, if_pos q]
        · rw [if_neg q, if_neg q]; exact h i (by omega)) _ _ ih.1 ih.2
/-! rows one behind the other -/
abbrev nx (S : Sch) (r r' : Nat → Nat) : Prop := mvB (stW S r) = true ∧ mvT (stW S r) = r'
def pth (S : Sch) : (Nat → Nat) → List (Nat → Nat) → (Nat → Nat) → Prop
  | r, [], e => r = e
  | r, r' :: L, e => nx S r r' ∧ pth S r' L e
theorem pth_app {S : Sch} : ∀ {L : List (Nat → Nat)} {r e r2 e2 : Nat → Nat} {M : List (Nat → Nat)}, pth S r L e → nx S e r2 → pth S r2 M e2 → pth S r (L ++ r2 :: M) e2
  | [], r, e, r2, e2, M, h, h1, h2 => by
    have h : r = e := h
    exact ⟨by rw [h]; exact h1, h2⟩
  | x :: L, r, e, r2, e2, M, h, h1, h2 => ⟨h.1, pth_app h.2 h1 h2⟩
abbrev can (S : Sch) (w : Nat → Nat) (m : Nat) : Prop := ∀ k, m ≤ k → w k = 0
abbrev frw (A left : Nat) (w : Nat → Nat) : Nat → Nat := if left = 0 then w else updN w A.log2 left
def lsC (A m left : Nat) (w e : Nat → Nat) : Prop := (left = 0 ∧ e = w) ∨ (¬ left = 0 ∧ ∃ k, m ≤ k ∧ A.testBit k = true ∧ (∀ j, m ≤ j → j < k → A.testBit j = false) ∧ e = updN w k left)
theorem up_can {w : Nat → Nat} {m : Nat} (h : w m = 0) : updN w m 0 = w := by
  funext i; unfold updN; split
  · rename_i q; rw [q, h]
  · rfl
theorem rws_0 (A : Nat) : ∀ (d m : Nat) (w : Nat → Nat), (∀ k, m ≤ k → w k = 0) → rws A d m 0 w = [w]
  | 0, m, w, h => by rw [rws, if_pos rfl]
  | d + 1, m, w, h => by
    have e : (if A.testBit m then 0 else 0) = 0 := by split <;> rfl
    rw [rws, e]
    show [] ++ rws A d (m + 1) (0 - 0) (updN w m 0) = [w]
    rw [up_can (h m (Nat.le_refl _)), List.nil_append]
    exact rws_0 A d (m + 1) w (fun k hk => h k (by omega))
theorem rws_no (A : Nat) : ∀ (d m left : Nat) (w : Nat → Nat), ¬ left = 0 → (∀ k, m ≤ k → A.testBit k = false) → rws A d m left w = []
  | 0, m, left, w, h, _ => by rw [rws, if_neg h]
  | d + 1, m, left, w, h, h2 => by
    rw [rws, if_neg (by rw [h2 m (Nat.le_refl _)]; decide)]
    show [] ++ rws A d (m + 1) (left - 0) (updN w m 0) = []
    rw [List.nil_append]
    exact rws_no A d (m + 1) left _ h (fun k hk => h2 k (by omega))
theorem lwF_is {W : Nat → Nat} {k : Nat} (hw : ¬ W k = 0) : ∀ {n : Nat}, k < n → (∀ j, k < j → j < n → W j = 0) → lwF W n = nI k
  | 0, h, _ => by omega
  | n + 1, h, hz => by
    unfold lwF
    by_cases q : k = n
    · subst q; rw [if_neg hw]
    · rw [if_pos (hz n (by omega) (by omega))]
      exact lwF_is hw (by omega) (fun j h1 h2 => hz j h1 (by omega))
theorem lg_is {x m : Nat} (h1 : x.testBit m = true) (h2 : ∀ j, m < j → x.testBit j = false) : x.log2 = m := by
  have h0 : ¬ x = 0 := fun e => by subst e; simp at h1
  have h3 : 2 ^ m ≤ x := Nat.ge_two_pow_of_testBit h1
  have h4 : x < 2 ^ (m + 1) := tb_lt fun k hk => h2 k (by omega)
  have h5 : x.log2 < m + 1 := (Nat.log2_lt h0).mpr h4
  have h6 : m ≤ x.log2 := (Nat.le_log2 h0).mpr h3
  omega
theorem lg_ge {x k : Nat} (h : x.testBit k = true) : k ≤ x.log2 := by
  have h0 : ¬ x = 0 := fun e => by subst e; simp at h
  exact (Nat.le_log2 h0).mpr (Nat.ge_two_pow_of_testBit h)
theorem lnk_r {S : Sch} (hS : sOk S) {w : Nat → Nat} {m k v x : Nat} (hc : ∀ j, m ≤ j → w j = 0) (hm : (sA S).testBit m = true) (hk : m < k) (hA : (sA S).testBit k = true) (hz : ∀ j, m + 1 ≤ j → j < k → (sA S).testBit j = false) (hx : ¬ x = 0) :
    nx S (updN (updN w m v) k x) (frw (sA S) (x - 1) (updN w m (v + 1))) := by
  have o2 := hS.2.1
  have hkn : k < sN S := Nat.lt_of_not_le (fun q => by rw [tb_ge hS.2.2.1 q] at hA; exact absurd hA (by decide))
  have hL := lg_ge hA
  have e1 : lwF (updN (updN w m v) k x) (sN S) = nI k := lwF_is (by unfold updN; rw [if_pos rfl]; exact hx) hkn (fun j h1 h2 => by
    unfold updN; rw [if_neg (by omega), if_neg (by omega)]; exact hc j (by omega))
  have e2 : mvI (stW S (updN (updN w m v) k x)) = k := by
    show (lwF (updN (updN w m v) k x) (sN S)).toNatClampNeg = k
    rw [e1, nI_clamp (by omega)]
  have e3 : ((sA S) &&& (2 ^ k - 1)).log2 = m := lg_is (by rw [Nat.testBit_and, Nat.testBit_two_pow_sub_one, hm]; simp [hk]) (fun j hj => by
    rw [Nat.testBit_and, Nat.testBit_two_pow_sub_one]
    by_cases q : j < k
    · rw [hz j (by omega) q]; rfl
    · simp [q])
  have e4 : ¬ (sA S) &&& (2 ^ k - 1) = 0 := fun q => by
    have := congrArg (fun z => z.testBit m) q
    simp [Nat.testBit_and, Nat.testBit_two_pow_sub_one, hm, hk] at this
  have eB : mvB (stW S (updN (updN w m v) k x)) = true := by
    unfold mvB
    rw [e2, decide_eq_true (show ¬ lwF (updN (updN w m v) k x) (sN S) = -1 by rw [e1]; exact fun q => m1_ne (by omega) q.symm), decide_eq_true (show ¬ (sA S) &&& (2 ^ k - 1) = 0 from e4)]; rfl
  refine ⟨eB, ?_⟩
  unfold mvT
  rw [if_pos eB, e2]
  show mvW (stW S (updN (updN w m v) k x)) k ((sA S) &&& (2 ^ k - 1)).log2 = _
  rw [e3]
  show updN (updN (updN (updN (updN w m v) k x) k 0) m (updN (updN (updN w m v) k x) k 0 m + 1)) (sA S).log2 (updN (updN w m v) k x k - 1) = _
  have z1 : updN (updN (updN w m v) k x) k 0 m = v := by unfold updN; rw [if_neg (by omega), if_neg (by omega), if_pos rfl]
  have z2 : updN (updN w m v) k x k = x := by unfold updN; rw [if_pos rfl]
  rw [z1, z2]
  funext i
  unfold frw
  by_cases iL : i = (sA S).log2
  · have z3 : updN (updN (updN (updN (updN w m v) k x) k 0) m (v + 1)) (sA S).log2 (x - 1) i = x - 1 := by rw [iL]; exact if_pos rfl
    rw [z3]
    split
    · rename_i q; unfold updN; rw [if_neg (by omega), hc i (by omega), q]
    · rw [iL]; exact (if_pos rfl).symm
  · have z3 : updN (updN (updN (updN (updN w m v) k x) k 0) m (v + 1)) (sA S).log2 (x - 1) i = updN (updN (updN (updN w m v) k x) k 0) m (v + 1) i := if_neg iL
    have z4 : (if x - 1 = 0 then updN w m (v + 1) else updN (updN w m (v + 1)) (sA S).log2 (x - 1)) i = updN w m (v + 1) i := by
      split
      · rfl
      · exact if_neg iL
    rw [z3, z4]
    unfold updN
    by_cases im : i = m
    · rw [if_pos im, if_pos im]
    · rw [if_neg im, if_neg im]
      by_cases ik : i = k
      · rw [if_pos ik, hc i (by omega), if_neg im]
      · rw [if_neg ik, if_neg ik, if_neg im]
theorem rws_ch {S : Sch} (hS : sOk S) : ∀ (d m left : Nat) (w : Nat → Nat), m + d = sN S → (∀ j, m ≤ j → w j = 0) → (left = 0 ∨ ∃ k, m ≤ k ∧ (sA S).testBit k = true ∧ k < m + d) → ∃ L e, rws (sA S) d m left w = frw (sA S) left w :: L ∧ pth S (frw (sA S) left w) L e ∧ lsC (sA S) m left w e
  | 0, m, left, w, hmd, hc, h => by
    have q : left = 0 := h.elim id (fun ⟨k, h1, _, h3⟩ => by omega)
    subst q
    exact ⟨[], w, by rw [rws, if_pos rfl]; rfl, rfl, .inl ⟨rfl, rfl⟩⟩
  | d + 1, m, left, w, hmd, hc, h => by
    have ew : updN w m 0 = w := up_can (hc m (Nat.le_refl _))
    cases hm : (sA S).testBit m with
    | false =>
      have hc' : ∀ j, m + 1 ≤ j → w j = 0 := fun j hj => hc j (by omega)
      have h' : left = 0 ∨ ∃ k, m + 1 ≤ k ∧ (sA S).testBit k = true ∧ k < m + 1 + d := h.elim .inl (fun ⟨k, h1, h2, h3⟩ => .inr ⟨k, by
        by_cases q : k = m
        · rw [q, hm] at h2; exact absurd h2 (by decide)
        · omega, h2, by omega⟩)
      obtain ⟨L, e, e1, e2, e3⟩ := rws_ch hS d (m + 1) left w (by omega) hc' h'
      refine ⟨L, e, ?_, e2, ?_⟩
      · rw [rws, if_neg (by rw [hm]; decide)]
        show [] ++ rws (sA S) d (m + 1) (left - 0) (updN w m 0) = _
        rw [ew, List.nil_append]; exact e1
      · rcases e3 with ⟨q1, q2⟩ | ⟨q1, k, q2, q3, q4, q5⟩
        · exact .inl ⟨q1, q2⟩
        · exact .inr ⟨q1, k, by omega, q3, fun j j1 j2 => by
            by_cases q : j = m
            · rw [q]; exact hm
            · exact q4 j (by omega) j2, q5⟩
    | true =>
      by_cases hP : ∃ k, m + 1 ≤ k ∧ (sA S).testBit k = true ∧ k < m + 1 + d
      · have key : ∀ v, v ≤ left → ∃ L e, sg (fun v => rws (sA S) d (m + 1) (left - v) (updN w m v)) (v + 1) = frw (sA S) left w :: L ∧ pth S (frw (sA S) left w) L e ∧ lsC (sA S) (m + 1) (left - v) (updN w m v) e := by
          intro v
          induction v with
          | zero =>
            intro _
            obtain ⟨L, e, e1, e2, e3⟩ := rws_ch hS d (m + 1) left w (by omega) (fun j hj => hc j (by omega)) (.inr hP)
            refine ⟨L, e, ?_, e2, by rw [ew]; exact e3⟩
            show [] ++ rws (sA S) d (m + 1) (left - 0) (updN w m 0) = _
            rw [ew, List.nil_append]; exact e1
          | succ v ih =>
            intro hv
            obtain ⟨L, e, e1, e2, e3⟩ := ih (by omega)
            have hcv : ∀ j, m + 1 ≤ j → updN w m (v + 1) j = 0 := fun j hj => by
              unfold updN; rw [if_neg (by omega)]; exact hc j (by omega)
            obtain ⟨L2, g, g1, g2, g3⟩ := rws_ch hS d (m + 1) (left - (v + 1)) (updN w m (v + 1)) (by omega) hcv (.inr hP)
            refine ⟨L ++ frw (sA S) (left - (v + 1)) (updN w m (v + 1)) :: L2, g, ?_, ?_, g3⟩
            · rw [sg, e1]
              show (frw (sA S) left w :: L) ++ rws (sA S) d (m + 1) (left - (v + 1)) (updN w m (v + 1)) = _
              rw [g1]; rfl
            · refine pth_app e2 ?_ g2
              rcases e3 with ⟨q1, q2⟩ | ⟨q1, k, q2, q3, q4, q5⟩
              · omega
              · rw [q5, show left - (v + 1) = left - v - 1 by omega]
                exact lnk_r hS hc hm (by omega) q3 (fun j j1 j2 => q4 j j1 j2) q1
        obtain ⟨L, e, e1, e2, e3⟩ := key left (Nat.le_refl _)
        refine ⟨L, e, ?_, e2, ?_⟩
        · rw [rws, if_pos hm]; exact e1
        · rcases e3 with ⟨q1, q2⟩ | ⟨q1, _⟩
          · by_cases z : left = 0
            · exact .inl ⟨z, by rw [q2, z]; exact ew⟩
            · exact .inr ⟨z, m, Nat.le_refl _, hm, fun j j1 j2 => by omega, q2⟩
          · omega
      · have hno : ∀ k, m + 1 ≤ k → (sA S).testBit k = true → ¬ k < m + 1 + d := fun k h1 h2 h3 => hP ⟨k, h1, h2, h3⟩
        by_cases z : left = 0
        · subst z
          refine ⟨[], w, ?_, rfl, .inl ⟨rfl, rfl⟩⟩
          exact rws_0 _ (d + 1) m w hc
        · have hn2 : ∀ k, m + 1 ≤ k → (sA S).testBit k = false := fun k hk => by
            by_cases q : k < m + 1 + d
            · cases q2 : (sA S).testBit k with
              | false => rfl
              | true => exact absurd q (hno k hk q2)
            · exact tb_ge hS.2.2.1 (by omega)
          have eL : (sA S).log2 = m := lg_is hm (fun j hj => hn2 j hj)
          have e0 : ∀ v, v ≤ left → sg (fun v => rws (sA S) d (m + 1) (left - v) (updN w m v)) v = [] := by
            intro v
            induction v with
            | zero => intro _; rfl
            | succ v ih =>
              intro hv
              rw [sg, ih (by omega), List.nil_append]
              exact rws_no _ d (m + 1) (left - v) _ (by omega) hn2
          refine ⟨[], updN w m left, ?_, ?_, .inr ⟨z, m, Nat.le_refl _, hm, fun j j1 j2 => by omega, rfl⟩⟩
          · rw [rws, if_pos hm]
            show sg (fun v => rws (sA S) d (m + 1) (left - v) (updN w m v)) left ++ rws (sA S) d (m + 1) (left - left) (updN w m left) = _
            rw [e0 left (Nat.le_refl _), List.nil_append, Nat.sub_self, rws_0 _ d (m + 1) _ (fun k hk => by unfold updN; rw [if_neg (by omega)]; exact hc k (by omega))]
            unfold frw
            rw [if_neg z, eL]
          · show frw (sA S) left w = updN w m left
            unfold frw
            rw [if_neg z, eL]
/-! how many rows, and how high -/
def cs (f : Nat → Nat) : Nat → Nat
  | 0 => 0
  | k + 1 => cs f k + f k
def cn : Nat → Nat → Nat
  | 0, _ => 1
  | d + 1, left => cs (fun v => cn d (left - v)) (left + 1)
theorem sg_len {α : Type} {F : Nat → List α} {f : Nat → Nat} (h : ∀ v, (F v).length ≤ f v) : ∀ k, (sg F k).length ≤ cs f k
  | 0 => Nat.le_refl _
  | k + 1 => by
    rw [sg, cs, List.length_append]
    have h1 := sg_len h k
    have h2 := h k
    omega
theorem cs_mono (f : Nat → Nat) : ∀ {a b : Nat}, a ≤ b → cs f a ≤ cs f b
  | a, 0, h => by have : a = 0 := (by omega); subst this; exact Nat.le_refl _
  | a, b + 1, h => by
    by_cases q : a = b + 1
    · subst q; exact Nat.le_refl _
    · exact Nat.le_trans (cs_mono f (a := a) (b := b) (by omega)) (Nat.le_add_right _ _)
theorem rws_len (A : Nat) : ∀ (d m left : Nat) (w : Nat → Nat), (rws A d m left w).length ≤ cn d left
  | 0, m, left, w => by
    rw [rws, cn]; split
    · exact Nat.le_refl _
    · exact Nat.zero_le _
  | d + 1, m, left, w => by
    rw [rws, cn]
    refine Nat.le_trans (sg_len (f := fun v => cn d (left - v)) (fun v => rws_len A d (m + 1) (left - v) _) _) (cs_mono _ ?_)
    split <;> omega
theorem cn_9 : ∀ d, d < 10 → ∀ t, t < 7 → cn d t ≤ 100000 := by decide +kernel
theorem rws_hi (A : Nat) : ∀ (d m left : Nat) (w : Nat → Nat), left ≤ 9 → (∀ i, w i ≤ 9) → ∀ x ∈ rws A d m left w, ∀ i, x i ≤ 9
  | 0, m, left, w, hl, hw, x, hx => by
    unfold rws at hx
    split at hx
    · rw [List.mem_singleton] at hx; subst hx; exact hw
    · exact absurd hx (by simp)
  | d + 1, m, left, w, hl, hw, x, hx => by
    unfold rws at hx
    have key : ∀ c, c ≤ left + 1 → x ∈ sg (fun v => rws A d (m + 1) (left - v) (updN w m v)) c → ∀ i, x i ≤ 9 := by
      intro c
      induction c with
      | zero => intro _ h; exact absurd h (by simp [sg])
      | succ c ih =>
        intro hc h
        rw [sg, List.mem_append] at h
        rcases h with h | h
        · exact ih (by omega) h
        · exact rws_hi A d (m + 1) (left - c) _ (by omega) (fun i => by
            unfold updN; split
            · omega
            · exact hw i) x h
    refine key _ ?_ hx
    split <;> omega
/-! the search -/
theorem dif_dif (a b : Nat) : dif a (dif a b) = a &&& b := by
  refine Nat.eq_of_testBit_eq fun k => ?_
  rw [dif_tb, dif_tb, Nat.testBit_and]
  cases a.testBit k <;> cases b.testBit k <;> rfl
theorem sb_c {S : Sch} {w : Nat → Nat} (h : sOk (stW S w)) (t : Nat) : sbC (orF (reas (paS S t)) (sP S)) (stW S w) = cW S w := by
  have e : reas (paS S t) = reas (stW S w) := (reas_w S _).trans (reas_w S w).symm
  rw [e]
  have q := sur_eq h
  show wsum w (sA S &&& (orF (reas (stW S w)) (sP S) ||| orF (bet (stW S w)) (sP S))) (sN S) = cW S w
  unfold cW
  rw [← q]
  show _ = wsum w (dif (sA S) (dif (sA S) (orF (reas (stW S w)) (sP S) ||| orF (bet (stW S w)) (sP S)))) (sN S)
  rw [dif_dif]
theorem fo_z (S : Sch) (b : Nat → Int32) : ∀ L : List (Nat → Nat), (∀ x ∈ L, cW S x < 2 ^ 31) → fo S (nI 0, b) L = (nI 0, b)
  | [], _ => rfl
  | x :: L, h => by
    have hx := h x (List.mem_cons_self ..)
    have e : lfo S (nI 0, b) x = (nI 0, b) := by
      unfold lfo
      rw [if_neg]
      rintro (q | q)
      · exact absurd q (show ¬ (nI 0 : Int32) < 0 by decide)
      · exact absurd q (by show ¬ nI (cW S x) < nI 0; rw [nI_0]; exact nI_pos hx)
    show fo S (lfo S (nI 0, b) x) L = _
    rw [e]
    exact fo_z S b L (fun y hy => h y (List.mem_cons_of_mem _ hy))
theorem ch_sb {S : Sch} {R : Nat} : ∀ (L : List (Nat → Nat)) (r e : Nat → Nat) (f : Nat) (l : Int32) (br : Nat → Nat), pth S r L e → mvB (stW S e) = false → (∀ x ∈ r :: L, sbC R (stW S x) = cW S x ∧ cW S x < 2 ^ 31) → L.length < f → (l = -1 ∨ 0 ≤ l) →
    (sbF R f l (stW S r) br).1 = (fo S (l, aN br) (r :: L)).1 ∧ aN (sbF R f l (stW S r) br).2 = (fo S (l, aN br) (r :: L)).2
  | [], r, e, f, l, br, hp, hE, hx, hf, hl => by
    have hp : r = e := hp
    subst hp
    obtain ⟨hc, hb⟩ := hx r (List.mem_cons_self ..)
    show (sbF R f l (stW S r) br).1 = (lfo S (l, aN br) r).1 ∧ aN (sbF R f l (stW S r) br).2 = (lfo S (l, aN br) r).2
    by_cases q : l = -1 ∨ nI (sbC R (stW S r)) < l
    · rw [sbF_1 (by omega) q (.inr hE)]
      have q2 : l < 0 ∨ nI (cW S r) < l := q.elim (fun z => .inl (by rw [z]; decide)) (fun z => .inr (by rw [← hc]; exact z))
      unfold lfo
      rw [if_pos q2, hc]
      exact ⟨rfl, rfl⟩
    · rw [sbF_3 (by omega) q (.inr hE)]
      have q2 : ¬ (l < 0 ∨ nI (cW S r) < l) := fun z => z.elim (fun y => q (.inl (hl.elim id (fun k => absurd y (Int32.not_lt.mpr k))))) (fun y => q (.inr (by rw [hc]; exact y)))
      unfold lfo
      rw [if_neg q2]
      exact ⟨rfl, rfl⟩
  | r' :: L, r, e, f, l, br, hp, hE, hx, hf, hl => by
    obtain ⟨⟨h1, h2⟩, h3⟩ := hp
    obtain ⟨hc, hb⟩ := hx r (List.mem_cons_self ..)
    have hf : L.length + 1 < f := hf
    have hx' : ∀ x ∈ r' :: L, sbC R (stW S x) = cW S x ∧ cW S x < 2 ^ 31 := fun x h => hx x (List.mem_cons_of_mem _ h)
    have hnb : ¬ mvB (stW S r) = false := by rw [h1]; decide
    show (sbF R f l (stW S r) br).1 = (fo S (lfo S (l, aN br) r) (r' :: L)).1 ∧ aN (sbF R f l (stW S r) br).2 = (fo S (lfo S (l, aN br) r) (r' :: L)).2
    by_cases q : l = -1 ∨ nI (sbC R (stW S r)) < l
    · have q2 : l < 0 ∨ nI (cW S r) < l := q.elim (fun z => .inl (by rw [z]; decide)) (fun z => .inr (by rw [← hc]; exact z))
      have e1 : lfo S (l, aN br) r = (nI (cW S r), aN r) := if_pos q2
      rw [e1]
      by_cases z : sbC R (stW S r) = 0
      · rw [sbF_1 (by omega) q (.inl z)]
        rw [show cW S r = 0 by rw [← hc]; exact z, fo_z S _ _ (fun x h => (hx' x h).2), z]
        exact ⟨rfl, rfl⟩
      · rw [sbF_2 (by omega) q (fun y => y.elim z hnb)]
        have := ch_sb L r' e (f - 1) (nI (sbC R (stW S r))) r h3 hE hx' (by omega) (.inr (nI_pos' (by rw [hc]; exact hb)))
        rw [← hc]
        rw [← h2] at this ⊢
        exact this
    · have q2 : ¬ (l < 0 ∨ nI (cW S r) < l) := fun z => z.elim (fun y => q (.inl (hl.elim id (fun k => absurd y (Int32.not_lt.mpr k))))) (fun y => q (.inr (by rw [hc]; exact y)))
      have e1 : lfo S (l, aN br) r = (l, aN br) := if_neg q2
      rw [e1]
      by_cases z : l = 0
      · rw [sbF_3 (by omega) q (.inl z)]
        rw [z, show (0 : Int32) = nI 0 from nI_0.symm, fo_z S _ _ (fun x h => (hx' x h).2)]
        exact ⟨rfl, rfl⟩
      · rw [sbF_4 (by omega) q (fun y => y.elim z hnb)]
        have := ch_sb L r' e (f - 1) l br h3 hE hx' (by omega) hl
        rw [← h2] at this ⊢
        exact this
/-- with least -1 the lots ahead don't count -/
theorem fo_lo (S : Sch) {r : Nat → Nat} {L M : List (Nat → Nat)} (h : M = r :: L) (a b : Nat → Int32) : fo S (-1, a) M = fo S (-1, b) M := by
  have e : ∀ c : Nat → Int32, lfo S (-1, c) r = (nI (cW S r), aN r) := fun c => if_pos (.inl (show (-1 : Int32) < 0 by decide))
  rw [h]
  show fo S (lfo S (-1, a) r) L = fo S (lfo S (-1, b) r) L
  rw [e, e]
theorem best_eq {S : Sch} (hS : sOk S) (hA : ¬ sA S = 0) {t : Nat} (h1 : 1 ≤ t) (h6 : t ≤ 6) (w : Nat → Nat) (lo : Nat → Int32) :
    (fo S (-1, lo) (rws (sA S) (sN S) 0 t w)).1 = (sbT S t).1 ∧ ∀ k, k < sN S → (fo S (-1, lo) (rws (sA S) (sN S) 0 t w)).2 k = nI ((sbT S t).2 k) := by
  have o2 := hS.2.1
  have oA := sA_512 hS
  have hL := (lg_tb (sA S) oA).resolve_left hA
  have hLn : (sA S).log2 < sN S := Nat.lt_of_not_le (fun q => by rw [tb_ge hS.2.2.1 q] at hL; exact absurd hL (by decide))
  obtain ⟨L, e, e1, e2, e3⟩ := rws_ch hS (sN S) 0 t zer9 (by omega) (fun _ _ => rfl) (.inr ⟨_, Nat.zero_le _, hL, by omega⟩)
  have hE : mvB (stW S e) = false := by
    rcases e3 with ⟨q1, _⟩ | ⟨_, k, _, q3, q4, q5⟩
    · omega
    · have hkn : k < sN S := Nat.lt_of_not_le (fun q => by rw [tb_ge hS.2.2.1 q] at q3; exact absurd q3 (by decide))
      have f1 : lwF e (sN S) = nI k := by
        rw [q5]
        exact lwF_is (by unfold updN; rw [if_pos rfl]; omega) hkn (fun j j1 _ => by unfold updN; rw [if_neg (by omega)]; rfl)
      have f2 : mvI (stW S e) = k := by
        show (lwF e (sN S)).toNatClampNeg = k
        rw [f1, nI_clamp (by omega)]
      have f3 : (sA S) &&& (2 ^ k - 1) = 0 := tb_zero fun j => by
        rw [Nat.testBit_and, Nat.testBit_two_pow_sub_one]
        by_cases q : j < k
        · rw [q4 j (Nat.zero_le _) q]; rfl
        · simp [q]
      unfold mvB
      rw [f2, decide_eq_false (show ¬ ¬ (sA S) &&& (2 ^ k - 1) = 0 from fun q => q f3), Bool.and_false]
  have hhi := rws_hi (sA S) (sN S) 0 t zer9 (by omega) (fun i => by show 0 ≤ 9; omega)
  have hlen := rws_len (sA S) (sN S) 0 t zer9
  rw [e1] at hhi hlen
  have hcn := cn_9 (sN S) (by omega) t (by omega)
  have hlen : L.length + 1 ≤ cn (sN S) t := hlen
  have ok : ∀ x ∈ frw (sA S) t zer9 :: L, sOk (stW S x) := fun x hx => ok_W hS (fun i _ => hhi x hx i)
  have C := ch_sb (S := S) (R := orF (reas (paS S t)) (sP S)) L (frw (sA S) t zer9) e 100000 (-1) zer9 e2 hE (fun x hx => ⟨sb_c (ok x hx) t, by
    have := wsum_81 (ok x hx) (dif (sA S) (sur (stW S x) 6))
    have this : cW S x ≤ 81 := this
    omega⟩) (by omega) (.inl rfl)
  have ef : frw (sA S) t zer9 = updN zer9 (sA S).log2 t := if_neg (by omega)
  rw [← e1] at C
  rw [ef] at C
  have D := fo_rel S (sA S) (sN S) 0 t w zer9 (by omega) (fun i hi => by omega) (-1, lo) (-1, lo) rfl (fun _ _ => rfl)
  refine ⟨?_, ?_⟩
  · rw [D.1, sbT, C.1]
    exact congrArg Prod.fst (fo_lo S e1 lo (aN zer9))
  · intro k hk
    rw [D.2 k hk]
    have C2 := congrFun C.2 k
    show _ = aN (sbT S t).2 k
    rw [sbT, C2]
    exact congrFun (congrArg Prod.snd (fo_lo S e1 lo (aN zer9))) k

/-- the rows of one lot more at a morning -/
def dF (A d m left : Nat) (w : Nat → Nat) : Nat → List (Nat → Nat) := fun v => rws A d (m + 1) (left - v) (updN w m v)
theorem rws_dF (A d m left : Nat) (w : Nat → Nat) : rws A (d + 1) m left w = sg (dF A d m left w) ((if A.testBit m then left else 0) + 1) := rfl
theorem fo_sg (S : Sch) (s : Ls) (F : Nat → List (Nat → Nat)) (v : Nat) : fo S s (sg F (v + 1)) = fo S (fo S s (sg F v)) (F v) := fo_app S s _ _
theorem dF_ext {A d m left : Nat} {w u : Nat → Nat} {v : Nat} (h : ∀ i, i < m ∨ m + (d + 1) ≤ i → u i = w i) : rws A d (m + 1) (left - v) (updN u m v) = dF A d m left w v := rws_ext A d (m + 1) (left - v) _ _ (fun i hi => by
  unfold updN
  by_cases q : i = m
  · rw [if_pos q, if_pos q]
  · rw [if_neg q, if_neg q]; exact h i (by omega))
theorem up_keep {w u u2 : Nat → Nat} {m v n : Nat} (h : ∀ i, i < m ∨ n ≤ i → u i = w i) (hmn : m < n) (h2 : ∀ i, i < m + 1 ∨ n ≤ i → u2 i = updN u m v i) : ∀ i, i < m ∨ n ≤ i → u2 i = w i := by
  intro i hi
  rw [h2 i (by omega)]
  unfold updN
  rw [if_neg (by omega)]
  exact h i hi
theorem lfo_y {S : Sch} {l : Int32} {br : Nat → Int32} {w : Nat → Nat} (h : l < 0 ∨ nI (cW S w) < l) : lfo S (l, br) w = (nI (cW S w), aN w) := if_pos h
theorem lfo_n {S : Sch} {l : Int32} {br : Nat → Int32} {w : Nat → Nat} (h : ¬ l < 0) (h2 : ¬ nI (cW S w) < l) : lfo S (l, br) w = (l, br) := if_neg (fun q => q.elim h h2)
theorem rws_00 (A m : Nat) (w : Nat → Nat) (S : Sch) (s : Ls) {left : Nat} (h : left = 0) : fo S s (rws A 0 m left w) = lfo S s w := by rw [rws, if_pos h]; rfl
theorem rws_01 (A m : Nat) (w : Nat → Nat) (S : Sch) (s : Ls) {left : Nat} (h : ¬ left = 0) : fo S s (rws A 0 m left w) = s := by rw [rws, if_neg h]; rfl
theorem up_f {f : Nat → Int32} {w : Nat → Nat} {k : Nat} (h : ∀ j, j < k → f j = aN w j) : ∀ j, j < k + 1 → upd f k (nI (w k)) j = aN w j := by
  intro j hj
  unfold upd
  by_cases e : j = k
  · rw [if_pos e, e]; rfl
  · rw [if_neg e]; exact h j (by omega)
