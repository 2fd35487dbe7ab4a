/-! LAWROWS: the law's own rows -/
/-! THE CLAIM OUT OF ONE WALK OF THE LAW'S BODY. Your part is whole_start (and what it stands on); all else here is the same for every law, but numbers. -/
def R_law : String := "UnexpectedBellLaw"
def lw_P (b : Addr) (xs : List Int32) (args : Array Value) (s : State) : Prop := args = #[.ref b] ∧ s.IntsAt b xs ∧ xs.length ≤ 3072 ∧ (Jvm.Cond.and given_1 narrow_1).before args s = true
def lw_Q (_ : Array Value) (s : State) (o : Outcome) (t : State) : Prop := o = .returned (some (.int 1)) ∧ Framed s o t [] 600000 7302250
def lw_Z (below : List Frame) (a : Array Value) (s : State) : State → Prop := fun t => ∃ o, t.status = .running ∧ Ended t below o ∧ lw_Q a s o t
/-- the law's own end, with 1 on the stack, nothing written that was there before, its room as the claim has it -/
theorem lw_ret {p : Program} {l : Launch} {e : Env} {s : State} {m : MethodId} {below : List Frame} {meth : Method} {c : Code} {b : Nat} (hx : p.tables.exec = Jvm.exec) (hb : c.code = code) (hr : meth.sig.returnType = ret) (hlocks : meth.locks = false) {pc : Nat} {H : Heap} {ls : Array Slot} (hdg : decode code pc = .ok (.ireturn, 1)) : W p l e room_1 s m #[Value.ref b] below meth c H [] 600000 7302250 (lw_Z below #[Value.ref b] s) (F0 m pc ls [.int 1]) := by
  intro T hT X
  obtain ⟨fs, hret, hrun, hended, hW, hframe⟩ := X.leave (v := some (.int 1)) (hlocks := hlocks) (fun h => by rw [hr] at h; cases h)
  have hmeth' : T.vm.method? m = some meth := X.method'
  refine ⟨T.setFrames fs, ?_, .returned (some (.int 1)), hrun, hended, rfl, ⟨_, rfl⟩, hW, hframe⟩
  jvm_step X.here [X.here.top, hx, hb, hdg, hmeth', hr, ret, narrow_b1]
  (try refine ⟨rfl, ?_⟩); (try refine ⟨rfl, ?_⟩)
  first | (intro acts; rw [hret _ acts rfl rfl rfl]) | rw [hret _ _ rfl rfl rfl]
  exact Steps.refl _
/-- what holds at the law's entry: the machine, the code, the tables' words (any of lw_tbl by 'hts w (by decide +kernel)'), the script of L ints xs at the cell b, what the Statement gives of the start (any of its parts by flat_of_before) -/
def lw_At (p : Program) (s : State) (m : MethodId) (meth : Method) (c : Code) (b L : Nat) (xs : Nat → Int32) : Prop :=
  p.tables.exec = Jvm.exec ∧ c.code = code ∧ meth.sig.returnType = ret ∧ c.maxLocals = 4 ∧ s.vm.findClass R_law = some m.cls ∧ (∀ w ∈ lw_tbl, w.before #[Value.ref b] s = true) ∧ va_X b L xs s s.heap ∧ b < s.heap.size ∧ meth.locks = false ∧ (Jvm.Cond.and given_1 narrow_1).before #[Value.ref b] s = true
/-- the system's world and the model's, one behind the other -/
def LX (g : gT) (ad ad2 : Nat → Nat) (B : Bx) (J : Jx) (B2 : Bx) (J2 : Mx) : va_W := bxW g ad B J ++ mdW g ad2 B2 J2
theorem putL_front : ∀ (w v pre u : va_W), w.length = v.length → putL (pre ++ (v ++ u)) (List.range' pre.length w.length) w = pre ++ (w ++ u)
  | [], [], pre, u, _ => rfl
  | [], _ :: _, pre, u, h => by cases h
  | x :: w, [], pre, u, h => by cases h
  | x :: w, y :: v, pre, u, h => by
    have h1 := putL_front w v (pre ++ [x]) u (by simpa using h)
    have e : (pre ++ (y :: v ++ u)).set pre.length x = (pre ++ [x]) ++ (v ++ u) := by
      rw [List.set_append_right _ _ (Nat.le_refl _), Nat.sub_self]
      simp
    show putL _ (pre.length :: List.range' (pre.length + 1) w.length) (x :: w) = _
    simp only [putL]
    rw [e]
    rw [show pre.length + 1 = (pre ++ [x]).length by simp]
    rw [h1]
    simp
theorem LX_c (g : gT) (ad ad2 : Nat → Nat) (B : Bx) (J : Jx) (B2 : Bx) (J2 : Mx) : (List.range' 0 34).map (fun i => (LX g ad ad2 B J B2 J2)[i]?) = (bxW g ad B J).map some := rfl
theorem LX_m (g : gT) (ad ad2 : Nat → Nat) (B : Bx) (J : Jx) (B2 : Bx) (J2 : Mx) : [34, 35, 36, 37, 38, 39, 40, 41, 42, 43, 44, 45].map (fun i => (LX g ad ad2 B J B2 J2)[i]?) = (mdW g ad2 B2 J2).map some := rfl
theorem LX_pc (g : gT) (ad ad2 : Nat → Nat) (B : Bx) (J : Jx) (B2 : Bx) (J2 : Mx) (B1 : Bx) (J1 : Jx) : putL (LX g ad ad2 B J B2 J2) (List.range' 0 34) (bxW g ad B1 J1) = LX g ad ad2 B1 J1 B2 J2 := putL_front (bxW g ad B1 J1) (bxW g ad B J) [] (mdW g ad2 B2 J2) rfl
theorem LX_pm (g : gT) (ad ad2 : Nat → Nat) (B : Bx) (J : Jx) (B2 : Bx) (J2 : Mx) (B1 : Bx) (J1 : Mx) : putL (LX g ad ad2 B J B2 J2) [34, 35, 36, 37, 38, 39, 40, 41, 42, 43, 44, 45] (mdW g ad2 B1 J1) = LX g ad ad2 B J B1 J1 := rfl
theorem LX_0 (g : gT) (ad ad2 : Nat → Nat) (B : Bx) (J : Jx) (B2 : Bx) (J2 : Mx) : ∃ fs, (LX g ad ad2 B J B2 J2)[0]? = some (ad 0, .inr (3, fs)) := ⟨_, rfl⟩
theorem LX_34 (g : gT) (ad ad2 : Nat → Nat) (B : Bx) (J : Jx) (B2 : Bx) (J2 : Mx) : ∃ fs, (LX g ad ad2 B J B2 J2)[34]? = some (ad2 0, .inr (4, fs)) := ⟨_, rfl⟩
def Sx (Γ : GT) (b L : Nat) (xs : Nat → Int32) : Prop := match Γ with
  | (_, _, _, s, _, _, _, _, _, A, _) => va_X b L xs s s.heap ∧ b < s.heap.size ∧ ¬ A b
def Lz (Γ : GT) (b : Nat) : Prop := match Γ with
  | (_, _, _, s, _, args, below, meth, _, A, Q) => args = #[.ref b] ∧ meth.sig.returnType = ret ∧ meth.locks = false ∧ A = (fun q : Nat => s.heap.size ≤ q) ∧ Q = lw_Z below #[.ref b] s
theorem i_sub {a b : Nat} (h : b ≤ a) : nI a - nI b = nI (a - b) := by
  have e : nI a = nI (a - b) + nI b := by rw [nI_add, show a - b + b = a by omega]
  rw [e, Int32.add_sub_cancel]
theorem lt_6 : ∀ L, L < 6 → nI L - nI 6 < 0 := by decide
theorem lg_same (x : Int64) : lg_cmp x x = 0 := by
  unfold lg_cmp
  rw [if_neg (Int64.lt_irrefl (a := x)), if_pos rfl]
section GL
variable {Γ : GT} {g : gT} {nL : Nat} {R : Room} {k n : Nat} {M : va_W} {pc : Nat} {lv : List (Nat × Value)} {st : List Value} {cc : ByteArray} {own : String} {Ts : List Cond}
theorem Go.callC (X : Cx Γ g nL cc own Ts) {y : MethodName} {ws : List Cond} {bytes : ByteArray} {maxL na index fr lo : Nat} {rt : Option FieldType} {rest As : List Value} {ad ad2 : Nat → Nat} {B B1 B2 : Bx} {J : Jx} {J2 : Mx} {v : Value}
    (hC : Ct g y ws fr lo (.ref (ad 0) :: As) (bxW g ad B J) (fun v9 w9 => v9 = some v ∧ ∃ J9, w9 = bxW g ad B1 J9)) (hc : Cal y ws bytes maxL rt RX3 na) (hG : GoodIn Ts (wsV own index RX3 y ws)) (hn : As.length = na) (hst : st = As.reverse ++ .ref (ad 0) :: rest) (hR : okR fr lo maxL k n R rest = true) (hd : decode cc pc = .ok (.invokevirtual index, 3))
    (kk : ∀ J9, Go Γ g nL R k n (LX g ad ad2 B1 J9 B2 J2) (pc + 3) lv (v :: rest)) : Go Γ g nL R k n (LX g ad ad2 B J B2 J2) pc lv st := by
  obtain ⟨fs, hfs⟩ := LX_0 g ad ad2 B J B2 J2
  refine Go.callV X hC hc (List.range' 0 34) (LX_c g ad ad2 B J B2 J2) (by decide) hG (ci := 3) (q0 := 0) rfl hfs hn hst hR hd (fun v9 w9 h _ => ?_)
  obtain ⟨rfl, J9, rfl⟩ := h
  rw [LX_pc]
  exact kk J9
theorem Go.callM (X : Cx Γ g nL cc own Ts) {y : MethodName} {ws : List Cond} {bytes : ByteArray} {maxL na index fr lo : Nat} {rt : Option FieldType} {rest As : List Value} {ad ad2 : Nat → Nat} {B B1 B2 : Bx} {J : Jx} {J2 : Mx} {v : Value}
    (hC : Ct g y ws fr lo (.ref (ad2 0) :: As) (mdW g ad2 B2 J2) (fun v9 w9 => v9 = some v ∧ ∃ J9, mOk B1 J9 ∧ w9 = mdW g ad2 B1 J9)) (hc : Cal y ws bytes maxL rt RX4 na) (hG : GoodIn Ts (wsV own index RX4 y ws)) (hn : As.length = na) (hst : st = As.reverse ++ .ref (ad2 0) :: rest) (hR : okR fr lo maxL k n R rest = true) (hd : decode cc pc = .ok (.invokevirtual index, 3))
    (kk : ∀ J9, mOk B1 J9 → Go Γ g nL R k n (LX g ad ad2 B J B1 J9) (pc + 3) lv (v :: rest)) : Go Γ g nL R k n (LX g ad ad2 B J B2 J2) pc lv st := by
  obtain ⟨fs, hfs⟩ := LX_34 g ad ad2 B J B2 J2
  refine Go.callV X hC hc [34, 35, 36, 37, 38, 39, 40, 41, 42, 43, 44, 45] (LX_m g ad ad2 B J B2 J2) (by decide) hG (ci := 4) (q0 := 34) rfl hfs hn hst hR hd (fun v9 w9 h _ => ?_)
  obtain ⟨rfl, J9, hJ, rfl⟩ := h
  rw [LX_pm]
  exact kk J9 hJ
theorem Go.sld (X : Cx Γ g nL cc own Ts) {b L : Nat} {xs : Nat → Int32} (S : Sx Γ b L xs) {j : Nat} (hj : j < L) (hL : L ≤ 3072) (hd : decode cc pc = .ok (.iaload, 1)) (kk : Go Γ g nL R k n M (pc + 1) lv (.int (xs j) :: st)) : Go Γ g nL R k n M pc lv (.int (nI j) :: .ref b :: st) := by
  obtain ⟨p, l, e, s, m, args, below, meth, c, A, Q⟩ := Γ
  obtain ⟨hx, hb, hml, hown, hts, hK, hA, hE⟩ := X
  obtain ⟨hX, hbl, hbA⟩ := S
  intro H locs ls hP hD hS hl
  refine va_sld hx hb hX hbl hbA hS (vp_in_nI hj (by omega)) hd ?_
  rw [nI_clamp (by omega)]
  exact kk H locs ls hP hD hS hl
theorem Go.slen (X : Cx Γ g nL cc own Ts) {b L : Nat} {xs : Nat → Int32} (S : Sx Γ b L xs) (hd : decode cc pc = .ok (.arraylength, 1)) (kk : Go Γ g nL R k n M (pc + 1) lv (.int (nI L) :: st)) : Go Γ g nL R k n M pc lv (.ref b :: st) := by
  obtain ⟨p, l, e, s, m, args, below, meth, c, A, Q⟩ := Γ
  obtain ⟨hx, hb, hml, hown, hts, hK, hA, hE⟩ := X
  obtain ⟨hX, hbl, hbA⟩ := S
  intro H locs ls hP hD hS hl
  exact va_slen hx hb hX hbl hbA hS hd (kk H locs ls hP hD hS hl)
/-- one of a call's ints: script[i + c] -/
theorem Go.arg (X : Cx Γ g nL cc own Ts) {b L : Nat} {xs : Nat → Int32} (S : Sx Γ b L xs) {i a1 a2 : Nat} (c : Nat) {z : Int} (d0 : decode cc pc = .ok (.aload_n 0, 1)) (d1 : decode cc (pc + 1) = .ok (.iload_n 3, 1)) (d2 : decode cc (pc + 2) = .ok (.iconst z, 1)) (d3 : decode cc (pc + 3) = .ok (.iadd, 1)) (d4 : decode cc (pc + 4) = .ok (.iaload, 1)) (hz : Int32.ofInt z = nI c) (hc : i + c < L) (hL : L ≤ 3072)
    (kk : Go Γ g nL R k n M (pc + 5) [(3, .int (nI i)), (2, .ref a2), (1, .ref a1), (0, .ref b)] (.int (xs (i + c)) :: st)) : Go Γ g nL R k n M pc [(3, .int (nI i)), (2, .ref a2), (1, .ref a1), (0, .ref b)] st :=
  Go.aload_n X 3 d0 rfl (Go.iload_n X 0 d1 rfl (Go.iconst X (nI c) d2 hz (Go.iadd_e X (nI (i + c)) d3 (nI_add i c) (Go.sld X S hc hL d4 kk))))
theorem Go.lwret (X : Cx Γ g nL cc own Ts) {b : Nat} (hcc : cc = code) (hRR : R = room_1) (Z : Lz Γ b) (hk : k ≤ 600000) (hn : n ≤ 7302250) (hd : decode cc pc = .ok (.ireturn, 1)) : Go Γ g nL R k n M pc lv [.int 1] := by
  subst hcc
  subst hRR
  obtain ⟨p, l, e, s, m, args, below, meth, c, A, Q⟩ := Γ
  obtain ⟨hx, hb, hml, hown, hts, hK, hA, hE⟩ := X
  obtain ⟨rfl, hr, hlk, rfl, rfl⟩ := Z
  intro H locs ls hP hD hS hl
  refine va_forget (fun q hq => hS.2.2 q hq) ?_
  refine W.widen (k := 600000) (n := 7302250) hk hn ?_
  exact lw_ret hx hb hr hlk hd
end GL
