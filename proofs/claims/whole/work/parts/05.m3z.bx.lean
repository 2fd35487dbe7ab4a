/-! BX: the whole bell as one list -/
abbrev Bx : Type := Sch × Sch × Bool × Nat × (Nat → Nat) × (Nat → Int32) × (Nat → Int32) × (Nat → Nat) × (Nat → Nat → Int64)
abbrev bN (B : Bx) : Sch := B.1
abbrev bK (B : Bx) : Sch := B.2.1
abbrev bB (B : Bx) : Bool := B.2.2.1
abbrev bZ (B : Bx) : Nat := B.2.2.2.1
abbrev bL (B : Bx) : Nat → Nat := B.2.2.2.2.1
abbrev bR (B : Bx) : Nat → Int32 := B.2.2.2.2.2.1
abbrev bH (B : Bx) : Nat → Int32 := B.2.2.2.2.2.2.1
abbrev bE (B : Bx) : Nat → Nat := B.2.2.2.2.2.2.2.1
abbrev bV (B : Bx) : Nat → Nat → Int64 := B.2.2.2.2.2.2.2.2
abbrev Jx : Type := Sch × Nat × Nat × Nat × (Nat → Nat)
abbrev jT (J : Jx) : Sch := J.1
abbrev jS (J : Jx) : Nat := J.2.1
abbrev jE (J : Jx) : Nat := J.2.2.1
abbrev jK (J : Jx) : Nat := J.2.2.2.1
abbrev jB (J : Jx) : Nat → Nat := J.2.2.2.2
def bxW (g : gT) (ad : Nat → Nat) (B : Bx) (J : Jx) : va_W := [(ad 0, .inr (3, [.ref (ad 1), .ref (ad 5), .ref (ad 9), .int (b2i (bB B)), .ref (ad 13), .ref (ad 15), .ref (ad 16), .ref (ad 17)])),
  (ad 1, schE (ad 2) (ad 3) (ad 4) (bN B)),
  (ad 2, arI g 9 (sW (bN B))),
  (ad 3, arI g 6 (sK (bN B))),
  (ad 4, arI g 6 (sO (bN B))),
  (ad 5, schE (ad 6) (ad 7) (ad 8) (jT J)),
  (ad 6, arI g 9 (sW (jT J))),
  (ad 7, arI g 6 (sK (jT J))),
  (ad 8, arI g 6 (sO (jT J))),
  (ad 9, schE (ad 10) (ad 11) (ad 12) (bK B)),
  (ad 10, arI g 9 (sW (bK B))),
  (ad 11, arI g 6 (sK (bK B))),
  (ad 12, arI g 6 (sO (bK B))),
  (ad 13, .inr (2, [.ref (ad 14), .int (nI (bZ B)), .int (nI (jS J)), .int (nI (jE J)), .int (nI (jK J))])),
  (ad 14, arI g 250 (bL B)),
  (ad 15, .inl (gQ g, 8, .inr (.inr (.inr (.inr (fun s => some (ad (18 + 2 * s)))))))),
  (ad 16, arF g 5 (bR B)),
  (ad 17, arI g 9 (jB J)),
  (ad 18, .inr (1, [.int (bH B 0), .int (nI (bE B 0)), .ref (ad 19)])),
  (ad 19, arJ g 40 (bV B 0)),
  (ad 20, .inr (1, [.int (bH B 1), .int (nI (bE B 1)), .ref (ad 21)])),
  (ad 21, arJ g 40 (bV B 1)),
  (ad 22, .inr (1, [.int (bH B 2), .int (nI (bE B 2)), .ref (ad 23)])),
  (ad 23, arJ g 40 (bV B 2)),
  (ad 24, .inr (1, [.int (bH B 3), .int (nI (bE B 3)), .ref (ad 25)])),
  (ad 25, arJ g 40 (bV B 3)),
  (ad 26, .inr (1, [.int (bH B 4), .int (nI (bE B 4)), .ref (ad 27)])),
  (ad 27, arJ g 40 (bV B 4)),
  (ad 28, .inr (1, [.int (bH B 5), .int (nI (bE B 5)), .ref (ad 29)])),
  (ad 29, arJ g 40 (bV B 5)),
  (ad 30, .inr (1, [.int (bH B 6), .int (nI (bE B 6)), .ref (ad 31)])),
  (ad 31, arJ g 40 (bV B 6)),
  (ad 32, .inr (1, [.int (bH B 7), .int (nI (bE B 7)), .ref (ad 33)])),
  (ad 33, arJ g 40 (bV B 7))]
def upS {α : Type} (f : Nat → α) (i : Nat) (v : α) : Nat → α := fun j => if j = i then v else f j
abbrev tpW (g : gT) (a q : Nat) (z : Nat) (le : Nat → Nat) (s e k : Nat) : va_W := [(a, .inr (2, [.ref q, .int (nI z), .int (nI s), .int (nI e), .int (nI k)])), (q, arI g 250 le)]
theorem eight {s : Nat} (h : s < 8) : s = 0 ∨ s = 1 ∨ s = 2 ∨ s = 3 ∨ s = 4 ∨ s = 5 ∨ s = 6 ∨ s = 7 := by omega
theorem bx_sh (g : gT) (ad : Nat → Nat) (B : Bx) (J : Jx) {s : Nat} (h : s < 8) : (bxW g ad B J)[18 + 2 * s]? = some (ad (18 + 2 * s), .inr (1, [.int (bH B s), .int (nI (bE B s)), .ref (ad (19 + 2 * s))])) := by
  rcases eight h with rfl | rfl | rfl | rfl | rfl | rfl | rfl | rfl <;> rfl
theorem bx_va (g : gT) (ad : Nat → Nat) (B : Bx) (J : Jx) {s : Nat} (h : s < 8) : (bxW g ad B J)[19 + 2 * s]? = some (ad (19 + 2 * s), arJ g 40 (bV B s)) := by
  rcases eight h with rfl | rfl | rfl | rfl | rfl | rfl | rfl | rfl <;> rfl
theorem bx_pos (g : gT) (ad : Nat → Nat) (B : Bx) (J : Jx) {s : Nat} (h : s < 8) : [18 + 2 * s, 19 + 2 * s].map (fun i => (bxW g ad B J)[i]?) = (slfW g (ad (18 + 2 * s)) (ad (19 + 2 * s)) (bH B s) (bE B s) (bV B s)).map some := by
  rcases eight h with rfl | rfl | rfl | rfl | rfl | rfl | rfl | rfl <;> rfl
theorem bx_nd {s : Nat} (h : s < 8) : va_nd [18 + 2 * s, 19 + 2 * s] = true := by
  rcases eight h with rfl | rfl | rfl | rfl | rfl | rfl | rfl | rfl <;> rfl
theorem bx_put (g : gT) (ad : Nat → Nat) (N K : Sch) (b : Bool) (z : Nat) (le : Nat → Nat) (rf hd : Nat → Int32) (ln : Nat → Nat) (vl : Nat → Nat → Int64) (J : Jx) {s : Nat} (h : s < 8) (c : Int32) (l : Nat) (v : Nat → Int64) : putL (bxW g ad (N, K, b, z, le, rf, hd, ln, vl) J) [18 + 2 * s, 19 + 2 * s] (slfW g (ad (18 + 2 * s)) (ad (19 + 2 * s)) c l v) = bxW g ad (N, K, b, z, le, rf, upS hd s c, upS ln s l, upS vl s v) J := by
  rcases eight h with rfl | rfl | rfl | rfl | rfl | rfl | rfl | rfl <;> rfl
theorem upS_id {α : Type} (f : Nat → α) (i : Nat) : upS f i (f i) = f := by
  funext j; unfold upS; split
  · rename_i e; rw [e]
  · rfl
def inc (rf : Nat → Int32) (p : Nat) : Nat → Int32 := upd rf p (rf p + nI 1)
/-- a refusal -/
def rfS (B : Bx) (p : Nat) (r : Int32) : Bx × Int32 := ((B.1, B.2.1, B.2.2.1, B.2.2.2.1, B.2.2.2.2.1, inc (bR B) p, bH B, bE B, bV B), r)
