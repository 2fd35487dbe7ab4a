/-! SPEC: what each call answers and what it leaves -/
def rrS (hd : Nat → Int32) (s : Int32) : Int32 := if inb s 8 then (if nI 10 ≤ hd s.toNatClampNeg then -3 else if inb (hd s.toNatClampNeg) 5 then nI 0 else -4) else -2
def x_row (B : Bx) (s d n : Int32) : Bx × Int32 := match B with
  | (N, K, b, z, le, rf, hd, ln, vl) => if inb s 8 && inb d 5 && inb n 41 then ((N, K, b, z, le, rf, upS hd s.toNatClampNeg d, upS ln s.toNatClampNeg n.toNatClampNeg, upS vl s.toNatClampNeg zeroJ), nI 1) else rfS B 0 (-2)
def x_set (B : Bx) (s i : Int32) (v : Int64) : Bx × Int32 := match B with
  | (N, K, b, z, le, rf, hd, ln, vl) =>
    if inb s 8 then
      if nI 10 ≤ hd s.toNatClampNeg then rfS B 1 (-3)
      else if inb (hd s.toNatClampNeg) 5 then
        if inb i (ln s.toNatClampNeg) then ((N, K, b, z, le, rf, hd, ln, upS vl s.toNatClampNeg (vp_updL (vl s.toNatClampNeg) i.toNatClampNeg (cutS (hd s.toNatClampNeg) v))), nI 1) else rfS B 0 (-2)
      else rfS B 2 (-4)
    else rfS B 0 (-2)
def x_element (B : Bx) (s i : Int32) : Bx × Int64 :=
  if inb s 8 then if inb (bH B s.toNatClampNeg) 5 then if inb i (bE B s.toNatClampNeg) then (B, bV B s.toNatClampNeg i.toNatClampNeg) else (B, 0) else (B, 0) else (B, 0)
def x_holds (B : Bx) (s : Int32) : Bx × Int32 := if inb s 8 then (B, bH B s.toNatClampNeg) else (B, -1)
def x_show (B : Bx) (s i : Int32) : Bx × Int32 := match B with
  | (N, K, b, z, le, rf, hd, ln, vl) =>
    if inb s 8 then
      if i = -1 then ((N, K, b, z, le, rf, upS hd s.toNatClampNeg (-1), upS ln s.toNatClampNeg 0, vl), nI 1)
      else if inb i (sP N) then ((N, K, b, z, le, rf, upS hd s.toNatClampNeg (nI (10 + i.toNatClampNeg)), upS ln s.toNatClampNeg 0, vl), nI 1) else rfS B 0 (-2)
    else rfS B 0 (-2)
def wN (B : Bx) (S : Sch) : Bx := (S, B.2)
def x_term (B : Bx) (n : Int32) : Bx × Int32 := match B with
  | (N, K) => if wi n (nI 1) (nI 9) then (((n.toNatClampNeg, 2 ^ n.toNatClampNeg - 1, one9, sD N, sP N, sK N, sO N, sG N, sT N, sF N, sX N), K), nI (sN N)) else rfS B 0 (-2)
def x_person (B : Bx) (k a : Int32) : Bx × Int32 := match B with
  | (N, K) => if inb k 6 && inb a 10 then if sP N < 6 then (((sN N, sA N, sW N, sD N, sP N + 1, updN (sK N) (sP N) k.toNatClampNeg, updN (sO N) (sP N) a.toNatClampNeg, sG N, sT N, sF N, sX N), K), nI (sP N)) else rfS B 4 (-6) else rfS B 0 (-2)
def x_allow (B : Bx) (m : Int32) (is : Bool) : Bx × Int32 := match B with
  | (N, K) => if inb m (sN N) then if Nat.testBit (sA N) m.toNatClampNeg = is then ((N, K), nI 0) else (((sN N, sA N ^^^ 2 ^ m.toNatClampNeg, sW N, sD N, sP N, sK N, sO N, sG N, sT N, sF N, sX N), K), nI 1) else rfS B 0 (-2)
def x_weight (B : Bx) (m v : Int32) : Bx × Int32 := match B with
  | (N, K) => if inb m (sN N) && inb v 10 then (((sN N, sA N, updN (sW N) m.toNatClampNeg v.toNatClampNeg, sD N, sP N, sK N, sO N, sG N, sT N, sF N, sX N), K), nI (sW N m.toNatClampNeg)) else rfS B 0 (-2)
def x_say (B : Bx) : Bx × Int32 := match B with
  | (N, K) => if sD N < 9 then (((sN N, sA N, sW N, sD N + 1, sP N, sK N, sO N, sG N, sT N, sF N, sX N), K), nI (sD N + 1)) else rfS B 4 (-6)
def x_unsay (B : Bx) (v : Int32) : Bx × Int32 := match B with
  | (N, K) => if inb v 10 then (((sN N, sA N, sW N, v.toNatClampNeg, sP N, sK N, sO N, sG N, sT N, sF N, sX N), K), nI (sD N)) else rfS B 0 (-2)
def x_learn (B : Bx) (i v : Int32) : Bx × Int32 := match B with
  | (N, K) => if inb i (sP N) && inb v 10 then (((sN N, sA N, sW N, sD N, sP N, sK N, updN (sO N) i.toNatClampNeg v.toNatClampNeg, sG N, sT N, sF N, sX N), K), nI (sO N i.toNatClampNeg)) else rfS B 0 (-2)
def x_seed (B : Bx) (v : Int32) : Bx × Int32 := match B with
  | (N, K) => (((sN N, sA N, sW N, sD N, sP N, sK N, sO N, v, sT N, sF N, sX N), K), sG N)
def x_wipe (B : Bx) : Bx × Int32 := match B with
  | (N, K, b, z, le) => ((N, K, b, 0, le), nI z)
def x_feed (B : Bx) (v : Int32) : Bx × Int32 := match B with
  | (N, K, b, z, le, R) => if inb v 256 then if z < 250 then ((N, K, b, z + 1, updN le z v.toNatClampNeg, R), nI (z + 1)) else rfS B 4 (-6) else rfS B 0 (-2)
def x_image (B : Bx) : Bx × Int32 := match B with
  | (N, _, _, R) => ((N, N, true, R), nI 1)
/-- who is gone is no longer on the shelves -/
def gone (p : Nat) (hd : Nat → Int32) (k : Nat) : Nat → Int32 := fun s => if s < k then (if nI (10 + p) ≤ hd s then -1 else hd s) else hd s
def gonL (p : Nat) (hd : Nat → Int32) (ln : Nat → Nat) (k : Nat) : Nat → Nat := fun s => if s < k then (if nI (10 + p) ≤ hd s then 0 else ln s) else ln s
theorem gone_0 (p : Nat) (hd : Nat → Int32) : gone p hd 0 = hd := by funext s; simp [gone]
theorem gonL_0 (p : Nat) (hd : Nat → Int32) (ln : Nat → Nat) : gonL p hd ln 0 = ln := by funext s; simp [gonL]
theorem gone_t {p : Nat} {hd : Nat → Int32} {k : Nat} (h : nI (10 + p) ≤ gone p hd k k) : upS (gone p hd k) k (-1) = gone p hd (k + 1) := by
  have h' : nI (10 + p) ≤ hd k := by simpa [gone] using h
  funext s; unfold upS gone
  by_cases e : s = k
  · subst e; simp [h']
  · by_cases q : s < k
    · simp [e, q, show s < k + 1 by omega]
    · simp [e, q, show ¬ s < k + 1 by omega]
theorem gone_f {p : Nat} {hd : Nat → Int32} {k : Nat} (h : ¬ nI (10 + p) ≤ gone p hd k k) : gone p hd k = gone p hd (k + 1) := by
  have h' : ¬ nI (10 + p) ≤ hd k := by simpa [gone] using h
  funext s; unfold gone
  by_cases e : s = k
  · subst e; simp [h']
  · by_cases q : s < k
    · simp [q, show s < k + 1 by omega]
    · simp [q, show ¬ s < k + 1 by omega]
theorem gonL_t {p : Nat} {hd : Nat → Int32} {ln : Nat → Nat} {k : Nat} (h : nI (10 + p) ≤ gone p hd k k) : upS (gonL p hd ln k) k 0 = gonL p hd ln (k + 1) := by
  have h' : nI (10 + p) ≤ hd k := by simpa [gone] using h
  funext s; unfold upS gonL
  by_cases e : s = k
  · subst e; simp [h']
  · by_cases q : s < k
    · simp [e, q, show s < k + 1 by omega]
    · simp [e, q, show ¬ s < k + 1 by omega]
theorem gonL_f {p : Nat} {hd : Nat → Int32} {ln : Nat → Nat} {k : Nat} (h : ¬ nI (10 + p) ≤ gone p hd k k) : gonL p hd ln k = gonL p hd ln (k + 1) := by
  have h' : ¬ nI (10 + p) ≤ hd k := by simpa [gone] using h
  funext s; unfold gonL
  by_cases e : s = k
  · subst e; simp [h']
  · by_cases q : s < k
    · simp [q, show s < k + 1 by omega]
    · simp [q, show ¬ s < k + 1 by omega]
def x_leave (B : Bx) : Bx × Int32 := match B with
  | (N, K, b, z, le, rf, hd, ln, vl) => if sP N = 0 then rfS B 3 (-5) else (((sN N, sA N, sW N, sD N, sP N - 1, shf (sK N) (sP N - 1) (sP N), shf (sO N) (sP N - 1) (sP N), sG N, sT N, sF N, sX N), K, b, z, le, rf, gone (sP N - 1) hd 8, gonL (sP N - 1) hd ln 8, vl), nI (sP N - 1))
def x_back (B : Bx) : Bx × Int32 := match B with
  | (_, K, b, z, le, rf, hd, ln, vl) => if b then ((K, K, b, z, le, rf, gone (sP K) hd 8, gonL (sP K) hd ln 8, vl), nI 1) else rfS B 3 (-5)
theorem wi_at {x : Int32} {a b : Nat} (ha : a < 2 ^ 31) (hb : b < 2 ^ 31) (h : wi x (nI a) (nI b) = true) : ∃ j, (a ≤ j ∧ j ≤ b) ∧ x = nI j := by
  simp only [wi, Bool.and_eq_true, decide_eq_true_eq] at h
  have h0 : ¬ x < 0 := Int32.not_lt.mpr (Int32.le_trans (nI_pos' ha) h.1)
  obtain ⟨j, hj, rfl⟩ := nI_of h0
  refine ⟨j, ⟨?_, ?_⟩, rfl⟩
  · exact Nat.le_of_not_lt (fun q => absurd (nI_lt q ha) (Int32.not_lt.mpr h.1))
  · exact Nat.le_of_not_lt (fun q => absurd (nI_lt q hj) (Int32.not_lt.mpr h.2))
theorem b2i_inj : ∀ {a b : Bool}, b2i a = b2i b → a = b := by decide
