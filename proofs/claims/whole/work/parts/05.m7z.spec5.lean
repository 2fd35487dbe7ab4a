/-! SPEC5: wagers told, copies -/
theorem i64_of {v : Int64} (h : ¬ v < 0) : ∃ t : Nat, v.toInt = (t : Int) ∧ t < 2 ^ 63 := by
  have h0 : (0 : Int) ≤ v.toInt := by
    rw [Int64.lt_iff_toInt_lt] at h
    have e : (0 : Int64).toInt = 0 := by decide
    omega
  have h1 := Int64.toInt_lt v
  exact ⟨v.toInt.toNat, by omega, by omega⟩
theorem i64_nat {v : Int64} {t : Nat} (h : v.toInt = (t : Int)) : v = Int64.ofNat t := by
  have h1 := Int64.toInt_lt v
  apply Int64.toInt_inj.mp
  rw [h, Int64.toInt_ofNat_of_lt (by omega)]
theorem i64_div {v : Int64} {t : Nat} (h : v.toInt = (t : Int)) : (v / 100).toInt = ((t / 100 : Nat) : Int) := by
  have h1 := Int64.toInt_lt v
  rw [Int64.toInt_div, h, show (100 : Int64).toInt = ((100 : Nat) : Int) from by decide, ← Int.ofNat_tdiv]
  apply Int.bmod_eq_of_le <;> omega
theorem i64_n : ∀ n, n ≤ 9 → (nI n : Int32).toInt64.toInt = (n : Int) := by decide
theorem wag_b : ∀ t, t < 900 → wi ((Int64.ofNat t - Int64.ofNat t / 100 * 100).toInt32) (nI 1) (nI 40) = true → 1 ≤ t % 100 ∧ t % 100 ≤ 40 := by decide +kernel
theorem wag_c : ∀ t, t < 900 → (Int64.ofNat t).toInt32 = nI t := by decide +kernel
theorem wag_at {S : Sch} (h : sN S ≤ 9) {v : Int64} (hv : wagP S v = true) : v.toInt32 = nI (tI v) ∧ tI v / 100 < sN S ∧ 1 ≤ tI v % 100 ∧ tI v % 100 ≤ 40 ∧ tI v < 900 := by
  simp only [wagP, Bool.and_eq_true, decide_eq_true_eq] at hv
  obtain ⟨⟨h1, h2⟩, h3⟩ := hv
  obtain ⟨t, ht, _⟩ := i64_of h1
  have hd := i64_div ht
  have h4 : t / 100 < sN S := by
    rw [Int64.le_iff_toInt_le, i64_n _ h, hd] at h2
    omega
  have h5 : t < 900 := by omega
  have e := i64_nat ht
  have e2 : tI v = t := by rw [tI, e, wag_c t h5, nI_clamp (by omega)]
  have e3 := wag_b t h5 (by rw [e] at h3; exact h3)
  rw [e2]
  exact ⟨by rw [e, wag_c t h5], h4, e3.1, e3.2, h5⟩
theorem hasR_at {i n : Int32} {l : Nat} (hl : l ≤ 40) (h : hasR i n l = true) : ∃ a c, i = nI a ∧ n = nI c ∧ a + c ≤ l := by
  simp only [hasR, Bool.and_eq_true, decide_eq_true_eq] at h
  obtain ⟨⟨h1, h2⟩, h3⟩ := h
  obtain ⟨a, ha, rfl⟩ := nI_of h1
  obtain ⟨c, hc, rfl⟩ := nI_of h2
  refine ⟨a, c, rfl, rfl, ?_⟩
  have q := Int32.le_iff_toInt_le.mp h3
  rw [nI_toInt hc, Int32.toInt_sub, nI_toInt ha, nI_toInt (show l < 2 ^ 31 by omega)] at q
  have e : ((l : Int) - (a : Int)).bmod (2 ^ 32) = (l : Int) - (a : Int) := by apply Int.bmod_eq_of_le <;> omega
  rw [e] at q
  omega
theorem bx_setv (g : gT) (ad : Nat → Nat) (N K : Sch) (b : Bool) (z : Nat) (le : Nat → Nat) (rf hd : Nat → Int32) (ln : Nat → Nat) (vl : Nat → Nat → Int64) (J : Jx) {s : Nat} (h : s < 8) (v : Nat → Int64) : (bxW g ad (N, K, b, z, le, rf, hd, ln, vl) J).set (19 + 2 * s) (ad (19 + 2 * s), arJ g 40 v) = bxW g ad (N, K, b, z, le, rf, hd, ln, upS vl s v) J := by
  rcases eight h with rfl | rfl | rfl | rfl | rfl | rfl | rfl | rfl <;> rfl
theorem Go.copyL {Γ : GT} {g : gT} {nL : Nat} {R : Room} {k n : Nat} {M : va_W} {pc : Nat} {lv : List (Nat × Value)} {st : List Value} {cc : ByteArray} {own : String} {Ts : List Cond} (X : Cx Γ g nL cc own Ts) {index a0 a N0 N1 x y z : Nat} {f f1 : Nat → Int64} (q0 q1 : Nat) (M1 : va_W) (h1 : Cond.methodLink own index arraycopyName ∈ Ts) (h2 : Cond.native arraycopyName ∈ Ts) (h3 : Cond.static arraycopyName ∈ Ts) (h4 : Cond.initialized "java/lang/System" ∈ Ts) (he0 : M[q0]? = some (a0, arJ g N0 f)) (he1 : M[q1]? = some (a, arJ g N1 f1)) (hN : N0 ≤ 100000) (hN1 : N1 ≤ 100000) (hxz : x + z ≤ N0) (hyz : y + z ≤ N1) (hR : (Nat.ble 1 R.frames && Nat.ble ((st.map fun v => v.category).sum + (nativeFrameWords "java/lang/System" "arraycopy" 5 + 11)) R.locals) = true) (hd : decode cc pc = .ok (.invokestatic index, 3)) (hM : M.set q1 (a, arJ g N1 (va_cpy f f1 x y z)) = M1) (kk : Go Γ g nL R k n M1 (pc + 3) lv st) : Go Γ g nL R k n M pc lv (.int (nI z) :: .int (nI y) :: .ref a :: .int (nI x) :: .ref a0 :: st) := by
  simp only [Bool.and_eq_true] at hR
  have c0 : (nI x).toNatClampNeg = x := nI_clamp (by omega)
  have c1 : (nI y).toNatClampNeg = y := nI_clamp (by omega)
  have c2 : (nI z).toNatClampNeg = z := nI_clamp (by omega)
  obtain ⟨p, l, e, s, m, args, below, meth, c, A, Q⟩ := Γ
  obtain ⟨hx, hb, hml, hown, hts, hK, hA, hE⟩ := X
  intro H locs ls hP hD hS hl
  refine va_copyl hx hb (hml.trans hl.1.symm) hown (hts _ h1) (hts _ h2) (hts _ h3) (hts _ h4) hK hP hD hS q0 q1 1 1 he0 he1 rfl rfl rfl (nI_pos (by omega)) (nI_pos (by omega)) (nI_pos (by omega)) (by rw [c0, c2]; omega) (by rw [c1, c2]; omega) (fun i _ => rfl) (Nat.le_of_ble_eq_true hR.1) (Nat.le_of_ble_eq_true hR.2) hd (fun H1 locs1 hP1 hD1 hS1 => ?_)
  rw [c0, c1, c2] at hP1 hD1
  subst hM
  exact kk H1 locs1 ls hP1 hD1 hS1 hl
def x_copy (B : Bx) (p q i j n : Int32) : Bx × Int32 := match B with
  | (N, K, b, z, le, rf, hd, ln, vl) =>
    if inb p 8 && inb q 8 then
      if decide (nI 10 ≤ hd p.toNatClampNeg) || decide (nI 10 ≤ hd q.toNatClampNeg) then rfS B 1 (-3)
      else if inb (hd p.toNatClampNeg) 5 && inb (hd q.toNatClampNeg) 5 then
        if hd p.toNatClampNeg = hd q.toNatClampNeg then
          if hasR i n (ln p.toNatClampNeg) && hasR j n (ln q.toNatClampNeg) then ((N, K, b, z, le, rf, hd, ln, upS vl q.toNatClampNeg (va_cpy (vl p.toNatClampNeg) (vl q.toNatClampNeg) i.toNatClampNeg j.toNatClampNeg n.toNatClampNeg)), n) else rfS B 0 (-2)
        else rfS B 1 (-3)
      else rfS B 2 (-4)
    else rfS B 0 (-2)
