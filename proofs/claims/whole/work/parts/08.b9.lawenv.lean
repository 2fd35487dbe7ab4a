/-! LAW: what stands around it -/
def lw_tm : Nat → Term := fun i => .string RX2 (match i with | 0 => 32 | 1 => 41 | 2 => 46 | 3 => 51 | 4 => 56 | _ => 61)
theorem lw_nest : ∀ q ∈ nestL, Cond.methodLinkNest q.1 q.2.1 q.2.2.1 q.2.2.2 ∈ lw_tbl := fun q hq => wr_of (ws := nestL.map fun q => Cond.methodLinkNest q.1 q.2.1 q.2.2.1 q.2.2.2) [257, 298, 349, 359, 372, 560, 588, 695, 156, 181] (by decide +kernel) _ (List.mem_map.mpr ⟨q, hq, rfl⟩)
theorem lw_strR : ∀ q ∈ strL, Cond.stringRef q.1 q.2.1 q.2.2.1 ∈ lw_tbl := fun q hq => wr_of (ws := strL.map fun q => Cond.stringRef q.1 q.2.1 q.2.2.1) [495, 562, 567, 572, 577, 583, 1156, 1167, 1168, 1169, 1170, 1171] (by decide +kernel) _ (List.mem_map.mpr ⟨q, hq, rfl⟩)
section LENV
variable {s : State} {b : Nat}
theorem lw_words (hgv : (Jvm.Cond.and given_1 narrow_1).before #[Value.ref b] s = true) (hA : ∀ a : Nat, a < s.heap.size → ¬ (fun q : Nat => s.heap.size ≤ q) a) : ∃ adK adV : Nat → Nat, vk_S 6 strLen strByt adK adV (fun q : Nat => s.heap.size ≤ q) s s.heap ∧ ∀ i : Nat, i < 6 → (lw_tm i).eval #[Value.ref b] s none [] s = some (.ref (adK i)) := by
  have hs := flat_of_before _ hgv
  refine vk_Sof (tm := lw_tm) (fun i hi => ?_) (fun i hi => ?_) (fun i hi => ?_) (fun i hi => ?_) (fun i hi => ?_) (fun i hi j hj => ?_) (fun i j hi hj hij => ?_) hA
  · rcases (show i = 0 ∨ i = 1 ∨ i = 2 ∨ i = 3 ∨ i = 4 ∨ i = 5 by omega) with rfl | rfl | rfl | rfl | rfl | rfl <;> decide
  · rcases (show i = 0 ∨ i = 1 ∨ i = 2 ∨ i = 3 ∨ i = 4 ∨ i = 5 by omega) with rfl | rfl | rfl | rfl | rfl | rfl
    · exact hs _ (by decide +kernel)
    · exact hs _ (by decide +kernel)
    · exact hs _ (by decide +kernel)
    · exact hs _ (by decide +kernel)
    · exact hs _ (by decide +kernel)
    · exact hs _ (by decide +kernel)
  · rcases (show i = 0 ∨ i = 1 ∨ i = 2 ∨ i = 3 ∨ i = 4 ∨ i = 5 by omega) with rfl | rfl | rfl | rfl | rfl | rfl
    · exact hs _ (by decide +kernel)
    · exact hs _ (by decide +kernel)
    · exact hs _ (by decide +kernel)
    · exact hs _ (by decide +kernel)
    · exact hs _ (by decide +kernel)
    · exact hs _ (by decide +kernel)
  · rcases (show i = 0 ∨ i = 1 ∨ i = 2 ∨ i = 3 ∨ i = 4 ∨ i = 5 by omega) with rfl | rfl | rfl | rfl | rfl | rfl
    · exact hs _ (by decide +kernel)
    · exact hs _ (by decide +kernel)
    · exact hs _ (by decide +kernel)
    · exact hs _ (by decide +kernel)
    · exact hs _ (by decide +kernel)
    · exact hs _ (by decide +kernel)
  · rcases (show i = 0 ∨ i = 1 ∨ i = 2 ∨ i = 3 ∨ i = 4 ∨ i = 5 by omega) with rfl | rfl | rfl | rfl | rfl | rfl
    · exact hs _ (by decide +kernel)
    · exact hs _ (by decide +kernel)
    · exact hs _ (by decide +kernel)
    · exact hs _ (by decide +kernel)
    · exact hs _ (by decide +kernel)
    · exact hs _ (by decide +kernel)
  · rcases (show i = 0 ∨ i = 1 ∨ i = 2 ∨ i = 3 ∨ i = 4 ∨ i = 5 by omega) with rfl | rfl | rfl | rfl | rfl | rfl
    · have hj : j < 4 := hj
      rcases (show j = 0 ∨ j = 1 ∨ j = 2 ∨ j = 3 by omega) with rfl | rfl | rfl | rfl
      · exact hs _ (by decide +kernel)
      · exact hs _ (by decide +kernel)
      · exact hs _ (by decide +kernel)
      · exact hs _ (by decide +kernel)
    · have hj : j < 5 := hj
      rcases (show j = 0 ∨ j = 1 ∨ j = 2 ∨ j = 3 ∨ j = 4 by omega) with rfl | rfl | rfl | rfl | rfl
      · exact hs _ (by decide +kernel)
      · exact hs _ (by decide +kernel)
      · exact hs _ (by decide +kernel)
      · exact hs _ (by decide +kernel)
      · exact hs _ (by decide +kernel)
    · have hj : j < 6 := hj
      rcases (show j = 0 ∨ j = 1 ∨ j = 2 ∨ j = 3 ∨ j = 4 ∨ j = 5 by omega) with rfl | rfl | rfl | rfl | rfl | rfl
      · exact hs _ (by decide +kernel)
      · exact hs _ (by decide +kernel)
      · exact hs _ (by decide +kernel)
      · exact hs _ (by decide +kernel)
      · exact hs _ (by decide +kernel)
      · exact hs _ (by decide +kernel)
    · have hj : j < 4 := hj
      rcases (show j = 0 ∨ j = 1 ∨ j = 2 ∨ j = 3 by omega) with rfl | rfl | rfl | rfl
      · exact hs _ (by decide +kernel)
      · exact hs _ (by decide +kernel)
      · exact hs _ (by decide +kernel)
      · exact hs _ (by decide +kernel)
    · have hj : j < 6 := hj
      rcases (show j = 0 ∨ j = 1 ∨ j = 2 ∨ j = 3 ∨ j = 4 ∨ j = 5 by omega) with rfl | rfl | rfl | rfl | rfl | rfl
      · exact hs _ (by decide +kernel)
      · exact hs _ (by decide +kernel)
      · exact hs _ (by decide +kernel)
      · exact hs _ (by decide +kernel)
      · exact hs _ (by decide +kernel)
      · exact hs _ (by decide +kernel)
    · have hj : j < 4 := hj
      rcases (show j = 0 ∨ j = 1 ∨ j = 2 ∨ j = 3 by omega) with rfl | rfl | rfl | rfl
      · exact hs _ (by decide +kernel)
      · exact hs _ (by decide +kernel)
      · exact hs _ (by decide +kernel)
      · exact hs _ (by decide +kernel)
  · rcases (show i = 0 ∨ i = 1 ∨ i = 2 ∨ i = 3 ∨ i = 4 ∨ i = 5 by omega) with rfl | rfl | rfl | rfl | rfl | rfl <;> rcases (show j = 0 ∨ j = 1 ∨ j = 2 ∨ j = 3 ∨ j = 4 ∨ j = 5 by omega) with rfl | rfl | rfl | rfl | rfl | rfl
    · exact absurd rfl hij
    · exact .inl (hs _ (by decide +kernel))
    · exact .inl (hs _ (by decide +kernel))
    · exact .inl (hs _ (by decide +kernel))
    · exact .inl (hs _ (by decide +kernel))
    · exact .inl (hs _ (by decide +kernel))
    · exact .inr (hs _ (by decide +kernel))
    · exact absurd rfl hij
    · exact .inl (hs _ (by decide +kernel))
    · exact .inl (hs _ (by decide +kernel))
    · exact .inl (hs _ (by decide +kernel))
    · exact .inl (hs _ (by decide +kernel))
    · exact .inr (hs _ (by decide +kernel))
    · exact .inr (hs _ (by decide +kernel))
    · exact absurd rfl hij
    · exact .inl (hs _ (by decide +kernel))
    · exact .inl (hs _ (by decide +kernel))
    · exact .inl (hs _ (by decide +kernel))
    · exact .inr (hs _ (by decide +kernel))
    · exact .inr (hs _ (by decide +kernel))
    · exact .inr (hs _ (by decide +kernel))
    · exact absurd rfl hij
    · exact .inl (hs _ (by decide +kernel))
    · exact .inl (hs _ (by decide +kernel))
    · exact .inr (hs _ (by decide +kernel))
    · exact .inr (hs _ (by decide +kernel))
    · exact .inr (hs _ (by decide +kernel))
    · exact .inr (hs _ (by decide +kernel))
    · exact absurd rfl hij
    · exact .inl (hs _ (by decide +kernel))
    · exact .inr (hs _ (by decide +kernel))
    · exact .inr (hs _ (by decide +kernel))
    · exact .inr (hs _ (by decide +kernel))
    · exact .inr (hs _ (by decide +kernel))
    · exact .inr (hs _ (by decide +kernel))
    · exact absurd rfl hij
theorem lw_ka (hgv : (Jvm.Cond.and given_1 narrow_1).before #[Value.ref b] s = true) (hA : ∀ a : Nat, a < s.heap.size → ¬ (fun q : Nat => s.heap.size ≤ q) a) : ∃ t : Nat, (Term.static RX3 "KIND_ABOVE" "[I").eval #[Value.ref b] s none [] s = some (.ref t) ∧ va_T .int t 6 kaV (fun q : Nat => s.heap.size ≤ q) s s.heap := by
  have hs := flat_of_before _ hgv
  refine va_Tof (by decide) (hs _ (by decide +kernel)) (va_eqt (hs (.eq (.length (.static RX3 "KIND_ABOVE" "[I")) (.int (Int32.ofNat 6))) (by decide +kernel))) (fun i hi => ?_) hA
  rcases (show i = 0 ∨ i = 1 ∨ i = 2 ∨ i = 3 ∨ i = 4 ∨ i = 5 by omega) with rfl | rfl | rfl | rfl | rfl | rfl
  · exact va_eqt (z := -1) (hs (.eq (.elem (.static RX3 "KIND_ABOVE" "[I") (.int (Int32.ofNat 0))) (.int (-1))) (by decide +kernel))
  · exact va_eqt (z := 0) (hs (.eq (.elem (.static RX3 "KIND_ABOVE" "[I") (.int (Int32.ofNat 1))) (.int (0))) (by decide +kernel))
  · exact va_eqt (z := 0) (hs (.eq (.elem (.static RX3 "KIND_ABOVE" "[I") (.int (Int32.ofNat 2))) (.int (0))) (by decide +kernel))
  · exact va_eqt (z := 1) (hs (.eq (.elem (.static RX3 "KIND_ABOVE" "[I") (.int (Int32.ofNat 3))) (.int (1))) (by decide +kernel))
  · exact va_eqt (z := 0) (hs (.eq (.elem (.static RX3 "KIND_ABOVE" "[I") (.int (Int32.ofNat 4))) (.int (0))) (by decide +kernel))
  · exact va_eqt (z := 2) (hs (.eq (.elem (.static RX3 "KIND_ABOVE" "[I") (.int (Int32.ofNat 5))) (.int (2))) (by decide +kernel))
theorem lw_env (hts : ∀ w ∈ lw_tbl, w.before #[Value.ref b] s = true) (hgv : (Jvm.Cond.and given_1 narrow_1).before #[Value.ref b] s = true) : ∃ g : gT, va_K g.1 vwCl (gTys g) s ∧ EV g (fun q : Nat => s.heap.size ≤ q) s s.heap := by
  have hA : ∀ a : Nat, a < s.heap.size → ¬ (fun q : Nat => s.heap.size ≤ q) a := fun a h => Nat.not_le.mpr h
  have hs := flat_of_before _ hgv
  obtain ⟨c0, iS0, hKn0⟩ := u_known (C := RX0) (T := TX0) (N := 11) (n := 11) hts inX0 (hts (.instantiable RX0 11) (List.mem_of_getElem? (i := 90) (by decide +kernel)))
  obtain ⟨c1, iS1, hKn1⟩ := u_known (C := RX1) (T := TX1) (N := 3) (n := 3) hts inX1 (hts (.instantiable RX1 3) (List.mem_of_getElem? (i := 180) (by decide +kernel)))
  obtain ⟨c2, iS2, hKn2⟩ := u_known (C := RX2) (T := TX2) (N := 5) (n := 5) hts inX2 (hts (.instantiable RX2 5) (List.mem_of_getElem? (i := 155) (by decide +kernel)))
  obtain ⟨c3, iS3, hKn3⟩ := u_known (C := RX3) (T := TX3) (N := 8) (n := 8) hts inX3 (hts (.instantiable RX3 8) (List.mem_of_getElem? (i := 82) (by decide +kernel)))
  obtain ⟨c4, iS4, hKn4⟩ := u_known (C := RX4) (T := TX4) (N := 27) (n := 27) hts inX4 (hts (.instantiable RX4 27) (List.mem_of_getElem? (i := 892) (by decide +kernel)))
  obtain ⟨dC, dI, hKc⟩ : ∃ (dC : Nat → ClassId) (dI : Nat → Nat → Nat), ∀ (k : Nat) (q : vw_C), vwCl[k]? = some q → u_Kn s q.1 q.2.1 q.2.2 (dC k) (dI k) := by
    refine ⟨fun k => match k with | 0 => c0 | 1 => c1 | 2 => c2 | 3 => c3 | _ => c4, fun k => match k with | 0 => iS0 | 1 => iS1 | 2 => iS2 | 3 => iS3 | _ => iS4, ?_⟩
    intro k q hq
    match k, hq with
    | 0, hq => cases hq; exact hKn0
    | 1, hq => cases hq; exact hKn1
    | 2, hq => cases hq; exact hKn2
    | 3, hq => cases hq; exact hKn3
    | 4, hq => cases hq; exact hKn4
    | k + 5, hq => simp at hq
  obtain ⟨cI, kI, pI, i1, i2, i3⟩ := Cond.arrayClass_spec (hts (.arrayClass .int) (List.mem_of_getElem? (i := 153) (by decide +kernel)))
  obtain ⟨cJ, kJ, pJ, j1, j2, j3⟩ := Cond.arrayClass_spec (hts (.arrayClass .long) (List.mem_of_getElem? (i := 197) (by decide +kernel)))
  obtain ⟨pQ, cQ, kQ, q1, q2, q3, q4, q5⟩ := Cond.arrayOver_spec (hts (.arrayOver (.object RX1)) (List.mem_of_getElem? (i := 179) (by decide +kernel)))
  obtain ⟨adK, adV, hS6, hev⟩ := lw_words hgv hA
  obtain ⟨tk, hk1, hk2⟩ := lw_ka hgv hA
  refine ⟨((dC, dI), (cI, cJ, cQ), tk, adK, adV), ⟨hKc, fun k q hq => ?_⟩, fun q hq => va_Nw.of rfl (hts _ (lw_nest q hq)), ?_, hk2, hS6, fun q hq => ?_, ?_, ?_⟩
  · match k, hq with
    | 0, hq => cases hq; exact ⟨fun n z => ⟨fun k h => (by cases h), kI, i2, pI, i3⟩, i1⟩
    | 1, hq => cases hq; exact ⟨fun n z => ⟨fun k h => (by cases h), kJ, j2, pJ, j3⟩, j1⟩
    | 2, hq => cases hq; exact ⟨fun n z => ⟨fun k h => (by cases h), kQ, q3, pQ, q4⟩, kQ, pQ, q3, q4, q1, q5⟩
    | k + 3, hq => simp [gTys] at hq
  · exact va_Zref (hts _ (List.mem_of_getElem? (i := 318) (by decide +kernel))) (hts _ (List.mem_of_getElem? (i := 69) (by decide +kernel))) hk1 hA
  · refine vk_R.of (A := #[Value.ref b]) (hts _ (lw_strR q hq)) ?_
    simp only [strL, List.mem_cons, List.not_mem_nil, or_false] at hq
    rcases hq with rfl | rfl | rfl | rfl | rfl | rfl | rfl | rfl | rfl | rfl | rfl | rfl
    · exact hev 0 (by decide)
    · exact hev 1 (by decide)
    · exact hev 2 (by decide)
    · exact hev 3 (by decide)
    · exact hev 4 (by decide)
    · exact hev 5 (by decide)
    · exact va_eqR (hs (.eq (.string RX2 32) (.string RX4 157)) (by decide +kernel)) (hev 0 (by decide))
    · exact va_eqR (hs (.eq (.string RX2 41) (.string RX4 166)) (by decide +kernel)) (hev 1 (by decide))
    · exact va_eqR (hs (.eq (.string RX2 46) (.string RX4 168)) (by decide +kernel)) (hev 2 (by decide))
    · exact va_eqR (hs (.eq (.string RX2 51) (.string RX4 169)) (by decide +kernel)) (hev 3 (by decide))
    · exact va_eqR (hs (.eq (.string RX2 56) (.string RX4 170)) (by decide +kernel)) (hev 4 (by decide))
    · exact va_eqR (hs (.eq (.string RX2 61) (.string RX4 172)) (by decide +kernel)) (hev 5 (by decide))
  · exact va_Zof (hts _ (List.mem_of_getElem? (i := 509) (by decide +kernel))) (hts _ (List.mem_of_getElem? (i := 77) (by decide +kernel))) (va_eqi (hs (.eq (.static RJ0 "COMPACT_STRINGS" "Z") (.int 1)) (by decide +kernel))) hA
  · exact va_Zqof (hts _ (List.mem_of_getElem? (i := 525) (by decide +kernel))) (hts _ (List.mem_of_getElem? (i := 79) (by decide +kernel))) (hs (.isRef (.static RJ3 "SIOOBE_FORMATTER" "Ljava/util/function/BiFunction;")) (by decide +kernel)) hA
end LENV
