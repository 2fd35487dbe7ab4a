/-! MDW: the whole model as one list -/
abbrev Mx : Type := Nat × Nat × Nat × Int32 × Int32 × (Nat → Nat) × (Nat → Int32) × (Nat → Int32) × Int32 × (Nat → Int32)
abbrev mA (J : Mx) : Nat := J.1
abbrev mT (J : Mx) : Nat := J.2.1
abbrev mK (J : Mx) : Nat := J.2.2.1
abbrev mS (J : Mx) : Int32 := J.2.2.2.1
abbrev mV (J : Mx) : Int32 := J.2.2.2.2.1
abbrev mL (J : Mx) : Nat → Nat := J.2.2.2.2.2.1
abbrev mO (J : Mx) : Nat → Int32 := J.2.2.2.2.2.2.1
abbrev mH (J : Mx) : Nat → Int32 := J.2.2.2.2.2.2.2.1
abbrev mE (J : Mx) : Int32 := J.2.2.2.2.2.2.2.2.1
abbrev mB (J : Mx) : Nat → Int32 := J.2.2.2.2.2.2.2.2.2
/-- who is away: 6 is nobody -/
def awI (a : Nat) : Int32 := if a = 6 then -1 else nI a
def rf7 (rf : Nat → Int32) : Nat → Int32 := fun j => if j < 2 then 0 else rf (j - 2)
def row3 (vl : Nat → Nat → Int64) : Nat → Int64 := fun j => vl (j / 40) (j % 40)
def mdW (g : gT) (ad : Nat → Nat) (B : Bx) (J : Mx) : va_W := [
  (ad 0, .inr (4, [.ref (ad 1), .ref (ad 2), .ref (ad 3), .int (nI (sN (bN B))), .int (nI (sA (bN B))), .ref (ad 4), .int (nI (sD (bN B))), .int (nI (sP (bN B))), .ref (ad 5), .ref (ad 6), .int (sT (bN B)), .int (sF (bN B)), .int (sX (bN B)), .int (sG (bN B)), .int (awI (mA J)), .int (nI (bZ B)), .ref (ad 7), .int (nI (mT J)), .int (nI (mK J)), .int (mS J), .int (mV J), .ref (ad 8), .int (b2i (bB B)), .ref (ad 9), .ref (ad 10), .int (mE J), .ref (ad 11)])),
  (ad 1, arF g 8 (bH B)),
  (ad 2, arI g 8 (mL J)),
  (ad 3, arJ g 320 (row3 (bV B))),
  (ad 4, arI g 9 (sW (bN B))),
  (ad 5, arI g 6 (sK (bN B))),
  (ad 6, arI g 6 (sO (bN B))),
  (ad 7, arI g 250 (bL B)),
  (ad 8, arF g 7 (rf7 (bR B))),
  (ad 9, arF g 28 (mO J)),
  (ad 10, arF g 28 (mH J)),
  (ad 11, arF g 9 (mB J))]
theorem rf7_u (rf : Nat → Int32) (p : Nat) : upd (rf7 rf) (p + 2) (rf7 rf (p + 2) + nI 1) = rf7 (inc rf p) := by
  funext j
  unfold upd rf7 inc
  by_cases h : j < 2
  · simp [h, show ¬ j = p + 2 by omega]
  · by_cases e : j = p + 2
    · subst e; simp [upd, show ¬ p + 2 < 2 by omega]
    · simp [h, e, upd, show ¬ j - 2 = p by omega]
/-- rows of forty: one place set -/
theorem row3_u (vl : Nat → Nat → Int64) (s i : Nat) (v : Int64) (hi : i < 40) : vp_updL (row3 vl) (40 * s + i) v = row3 (upS vl s (vp_updL (vl s) i v)) := by
  funext j
  unfold vp_updL row3 upS
  by_cases h : j = 40 * s + i
  · subst h
    simp [show (40 * s + i) / 40 = s by omega, show (40 * s + i) % 40 = i by omega]
  · by_cases e : j / 40 = s
    · have : ¬ j % 40 = i := by omega
      simp [h, e, this]
    · simp [h, e]
def encK (S : Sch) : Nat → Int32 := fun j => if j < 9 then nI (sW S j) else if j < 15 then nI (sK S (j - 9)) else if j < 21 then nI (sO S (j - 15)) else if j = 21 then nI (sN S) else if j = 22 then nI (sA S) else if j = 23 then nI (10 * sP S + sD S) else if j = 24 then sT S else if j = 25 then sF S else if j = 26 then sX S else sG S
theorem mdW_rf (g : gT) (ad : Nat → Nat) (N K : Sch) (b : Bool) (z : Nat) (le : Nat → Nat) (rf hd : Nat → Int32) (ln : Nat → Nat) (vl : Nat → Nat → Int64) (J : Mx) (p : Nat) : (mdW g ad (N, K, b, z, le, rf, hd, ln, vl) J).set 8 (ad 8, arF g 7 (upd (rf7 rf) (p + 2) (rf7 rf (p + 2) + nI 1))) = mdW g ad (N, K, b, z, le, inc rf p, hd, ln, vl) J := by
  rw [rf7_u]; rfl
