/-! ALLOC: what is made, constructors, the law's own rows -/
def zN : Nat → Nat := fun _ => 0
def zJ : Nat → Int64 := fun _ => 0
theorem aN_z : aN zN = fun _ => 0 := by funext i; exact nI_0
def QnW (g : gT) (A : Nat → Prop) (post : va_W → Prop) : Array Value → State → Outcome → State → Prop := fun _ st oc t => (∃ M1 : va_W, oc = .returned none ∧ post M1 ∧ va_P g.1 vwCl M1 t.heap ∧ va_D A M1) ∧ va_F A st t
abbrev rmN (fr lo mc ms : Nat) : Room := { frames := fr, cells := mc, slots := ms, locals := lo }
/-- a constructor's contract: from the new object alone it comes to a world with post; mc cells of ms slots are new -/
def Cn (g : gT) (y : MethodName) (ws : List Cond) (fr lo mc ms a ci : Nat) (fs0 : List Value) (post : va_W → Prop) : Prop :=
  ∀ (l : Launch) (sz : Nat), Met l y ws (rmN fr lo mc ms) (va_Pc [.ref a] (PreW g [(a, .inr (ci, fs0))] sz)) (QnW g (va_A [(a, .inr (ci, fs0))] sz) post) mc ms (va_A [(a, .inr (ci, fs0))] sz)
def En (Γ : GT) (g : gT) (post : va_W → Prop) (mc ms : Nat) : Prop := match Γ with
  | (_, _, _, s, _, args, below, meth, _, A, Q) => meth.sig.returnType = none ∧ meth.locks = false ∧ meth.name = "<init>" ∧ Q = MQ below (QnW g A post) args s mc ms A
theorem Cn.start {g : gT} {y : MethodName} {ws ws' : List Cond} {fr lo mc ms a ci : Nat} {fs0 : List Value} {post : va_W → Prop} {cc : ByteArray} {nL : Nat} {own : String}
    (hy : plainName y.cls = true) (ho : y.cls = own) (hw : ws = Cond.code y cc nL none :: ws') (hn : y.name = "<init>") (hlen : Nat.ble 1 nL = true)
    (body : ∀ Γ : GT, Cx Γ g nL cc own ws → En Γ g post mc ms → Go Γ g nL (rmN fr lo mc ms) 0 0 [(a, .inr (ci, fs0))] 0 [(0, .ref a)] []) : Cn g y ws fr lo mc ms a ci fs0 post := by
  intro l sz
  refine Met.ofW (cc := cc) (maxL := nL) (ret := none) hy hw ?_
  intro p e s m args below meth c s₁ B hml hv
  obtain ⟨rfl, hsz, hP, hK, hD0, hE⟩ := hv
  subst hsz
  have hts := atoms_spec (ws := ws) B.pre
  have hown : s.vm.findClass own = some m.cls := by rw [← ho]; exact findClass_of_methodNamed B.named
  have hin : meth.name = "<init>" := (name_of_methodNamed B.named B.method).1.trans hn
  have hD := hD0.self (sz := s.heap.size)
  generalize hAe : va_A [(a, .inr (ci, fs0))] s.heap.size = A at hD hE ⊢
  have hA : ∀ q : Nat, s.heap.size ≤ q → A q := fun q h => by rw [← hAe]; exact Or.inr h
  have h1 := body (p, l, e, s, m, [Value.ref a].toArray, below, meth, c, A, MQ below (QnW g A post) [Value.ref a].toArray s mc ms A) ⟨B.exec, B.bytes, hml, hown, hts, hK, hA, hE⟩ ⟨B.returns, B.notSynchronized, hin, rfl⟩
  rw [lg_entry_eq]
  exact h1 s.heap [] _ hP hD va_S.rf (lv_entry [.ref a] (Nat.le_of_ble_eq_true hlen))
/-- that a row of shelves has been made ahead -/
def AOk (Γ : GT) : Prop := match Γ with
  | (_, _, _, s, _) => va_AO RX1 s
def CnO (g : gT) (y : MethodName) (ws : List Cond) (fr lo mc ms a ci : Nat) (fs0 : List Value) (post : va_W → Prop) : Prop :=
  ∀ (l : Launch) (sz : Nat), Met l y ws (rmN fr lo mc ms) (va_Pc [.ref a] (fun U => PreW g [(a, .inr (ci, fs0))] sz U ∧ va_AO RX1 U)) (QnW g (va_A [(a, .inr (ci, fs0))] sz) post) mc ms (va_A [(a, .inr (ci, fs0))] sz)
theorem PreO.blind {g : gT} {M : va_W} {sz : Nat} {as : List Value} : FrameBlind (va_Pc as (fun U => PreW g M sz U ∧ va_AO RX1 U)) := fun a U f mk q =>
  ⟨q.1, (PreW.blind (g := g) (M := M) (sz := sz) (as := as) a U f mk ⟨q.1, q.2.1⟩).2, va_AO.moved (u := U) (U := U.calling f mk a) (Vm.Alike.refl U.vm) q.2.2⟩
theorem CnO.start {g : gT} {y : MethodName} {ws ws' : List Cond} {fr lo mc ms a ci : Nat} {fs0 : List Value} {post : va_W → Prop} {cc : ByteArray} {nL : Nat} {own : String}
    (hy : plainName y.cls = true) (ho : y.cls = own) (hw : ws = Cond.code y cc nL none :: ws') (hn : y.name = "<init>") (hlen : Nat.ble 1 nL = true)
    (body : ∀ Γ : GT, Cx Γ g nL cc own ws → En Γ g post mc ms → AOk Γ → Go Γ g nL (rmN fr lo mc ms) 0 0 [(a, .inr (ci, fs0))] 0 [(0, .ref a)] []) : CnO g y ws fr lo mc ms a ci fs0 post := by
  intro l sz
  refine Met.ofW (cc := cc) (maxL := nL) (ret := none) hy hw ?_
  intro p e s m args below meth c s₁ B hml hv
  obtain ⟨rfl, ⟨hsz, hP, hK, hD0, hE⟩, hO⟩ := hv
  subst hsz
  have hts := atoms_spec (ws := ws) B.pre
  have hown : s.vm.findClass own = some m.cls := by rw [← ho]; exact findClass_of_methodNamed B.named
  have hin : meth.name = "<init>" := (name_of_methodNamed B.named B.method).1.trans hn
  have hD := hD0.self (sz := s.heap.size)
  generalize hAe : va_A [(a, .inr (ci, fs0))] s.heap.size = A at hD hE ⊢
  have hA : ∀ q : Nat, s.heap.size ≤ q → A q := fun q h => by rw [← hAe]; exact Or.inr h
  have h1 := body (p, l, e, s, m, [Value.ref a].toArray, below, meth, c, A, MQ below (QnW g A post) [Value.ref a].toArray s mc ms A) ⟨B.exec, B.bytes, hml, hown, hts, hK, hA, hE⟩ ⟨B.returns, B.notSynchronized, hin, rfl⟩ hO
  rw [lg_entry_eq]
  exact h1 s.heap [] _ hP hD va_S.rf (lv_entry [.ref a] (Nat.le_of_ble_eq_true hlen))
def FPF (own : String) (ci k : Nat) (ty : FieldType) : Prop := ∃ (C : String) (T : u_T) (N : Nat) (ty0 : Nat → FieldType), vwCl[ci]? = some (C, T, N) ∧ (∀ j, j < N → parseFieldDescriptor (T j).2.2.1 = some (ty0 j)) ∧ (∀ a, a < N → ∀ b, b < N → a ≠ b → (T a).2.1 ≠ (T b).2.1) ∧ (T k).2.2.2 = true ∧ (T k).1 = own ∧ parseFieldDescriptor (T k).2.2.1 = some ty
section GN
variable {Γ : GT} {g : gT} {nL : Nat} {R : Room} {k n : Nat} {M : va_W} {pc : Nat} {lv : List (Nat × Value)} {st : List Value} {cc : ByteArray} {own : String} {Ts : List Cond}
theorem Go.newO (X : Cx Γ g nL cc own Ts) {index ci : Nat} {C : String} {T : u_T} {N : Nat} {ty : Nat → FieldType} (hc : vwCl[ci]? = some (C, T, N)) (hin : ∀ w ∈ u_ws C T N, w ∈ Ts) (hty : ∀ k, k < N → parseFieldDescriptor (T k).2.2.1 = some (ty k)) (h1 : Cond.classLink own index C ∈ Ts) (h2 : Cond.instantiable C N ∈ Ts) (h3 : Cond.initialized C ∈ Ts) (fs : List Value) (hfs : ∀ j, j < N → defaultValue (ty j) = vp_V fs j) (hk : Nat.ble (k + 1) R.cells = true) (hn : Nat.ble (n + N) R.slots = true) (hd : decode cc pc = .ok (.new index, 3)) (kk : ∀ q : Nat, Go Γ g nL R (k + 1) (n + N) (M ++ [(q, .inr (ci, fs))]) (pc + 3) lv (.ref q :: st)) : Go Γ g nL R k n M pc lv st := by
  obtain ⟨p, l, e, s, m, args, below, meth, c, A, Q⟩ := Γ
  obtain ⟨hx, hb, hml, hown, hts, hK, hA, hE⟩ := X
  intro H locs ls hP hD hS hl
  exact va_new hx hb hts hin ty hty hown (hts _ h1) (hts _ h2) (hts _ h3) hK hP hD hS hA hc hfs (Nat.le_of_ble_eq_true hk) (Nat.le_of_ble_eq_true hn) hd (fun q H1 hP1 hD1 hS1 => kk q H1 locs ls hP1 hD1 hS1 hl)
theorem Go.newI (X : Cx Γ g nL cc own Ts) {N : Nat} (h : Cond.arrayClass .int ∈ Ts) (hN : Nat.ble N 1000 = true) (hk : Nat.ble (k + 1) R.cells = true) (hn : Nat.ble (n + N) R.slots = true) (hd : decode cc pc = .ok (.newarray .int, 2)) (kk : ∀ q : Nat, Go Γ g nL R (k + 1) (n + N) (M ++ [(q, arI g N zN)]) (pc + 2) lv (.ref q :: st)) : Go Γ g nL R k n M pc lv (.int (nI N) :: st) := by
  have hN := Nat.le_of_ble_eq_true hN
  obtain ⟨p, l, e, s, m, args, below, meth, c, A, Q⟩ := Γ
  obtain ⟨hx, hb, hml, hown, hts, hK, hA, hE⟩ := X
  intro H locs ls hP hD hS hl
  refine va_newa (atype := .int) (a0 := (N, .inl fun _ => 0)) (ty := .int) hx hb (hts _ h) rfl hK hP hD hS hA (fun _ => rfl) (nI_pos (by omega)) (nI_clamp (by omega)) (by show N * 4 ≤ _; omega) (Nat.le_of_ble_eq_true hk) (Nat.le_of_ble_eq_true hn) hd (fun q cA H1 hK1 hP1 hD1 hS1 => ?_)
  have e1 : cA = gI g := Option.some.inj ((va_nm_int (hK1.2 3 (cA, .int) rfl).2).symm.trans (va_nm_int (hK.2 0 (gI g, .int) rfl).2))
  rw [e1] at hP1 hD1
  have e2 : (q, (Sum.inl (gI g, N, Sum.inl fun _ => (0 : Int32)) : va_E)) = (q, arI g N zN) := by
    show _ = (q, Sum.inl (gI g, N, Sum.inl (aN zN)))
    rw [aN_z]
  rw [e2] at hP1 hD1
  exact kk q H1 locs ls hP1 hD1 hS1 hl
theorem Go.newJ (X : Cx Γ g nL cc own Ts) {N : Nat} (h : Cond.arrayClass .long ∈ Ts) (hN : Nat.ble N 1000 = true) (hk : Nat.ble (k + 1) R.cells = true) (hn : Nat.ble (n + N) R.slots = true) (hd : decode cc pc = .ok (.newarray .long, 2)) (kk : ∀ q : Nat, Go Γ g nL R (k + 1) (n + N) (M ++ [(q, arJ g N zJ)]) (pc + 2) lv (.ref q :: st)) : Go Γ g nL R k n M pc lv (.int (nI N) :: st) := by
  have hN := Nat.le_of_ble_eq_true hN
  obtain ⟨p, l, e, s, m, args, below, meth, c, A, Q⟩ := Γ
  obtain ⟨hx, hb, hml, hown, hts, hK, hA, hE⟩ := X
  intro H locs ls hP hD hS hl
  refine va_newa (atype := .long) (a0 := (N, .inr (.inl fun _ => 0))) (ty := .long) hx hb (hts _ h) rfl hK hP hD hS hA (fun _ => rfl) (nI_pos (by omega)) (nI_clamp (by omega)) (by show N * 8 ≤ _; omega) (Nat.le_of_ble_eq_true hk) (Nat.le_of_ble_eq_true hn) hd (fun q cA H1 hK1 hP1 hD1 hS1 => ?_)
  have e1 : cA = gJ g := Option.some.inj ((va_nm_long (hK1.2 3 (cA, .long) rfl).2).symm.trans (va_nm_long (hK.2 1 (gJ g, .long) rfl).2))
  rw [e1] at hP1 hD1
  exact kk q H1 locs ls hP1 hD1 hS1 hl
theorem Go.newQ (X : Cx Γ g nL cc own Ts) (O : AOk Γ) {index N : Nat} (h1 : Cond.classLink own index RX1 ∈ Ts) (hN : Nat.ble N 1000 = true) (hk : Nat.ble (k + 1) R.cells = true) (hn : Nat.ble (n + N) R.slots = true) (hd : decode cc pc = .ok (.anewarray index, 3)) (kk : ∀ q : Nat, Go Γ g nL R (k + 1) (n + N) (M ++ [(q, .inl (gQ g, N, .inr (.inr (.inr (.inr (fun _ => none))))))]) (pc + 3) lv (.ref q :: st)) : Go Γ g nL R k n M pc lv (.int (nI N) :: st) := by
  have hN := Nat.le_of_ble_eq_true hN
  obtain ⟨p, l, e, s, m, args, below, meth, c, A, Q⟩ := Γ
  obtain ⟨hx, hb, hml, hown, hts, hK, hA, hE⟩ := X
  intro H locs ls hP hD hS hl
  refine va_newq (N' := N) hx hb hown (hts _ h1) O hK hP hD hS hA (nI_pos (by omega)) (nI_clamp (by omega)) (by omega) (Nat.le_of_ble_eq_true hk) (Nat.le_of_ble_eq_true hn) hd (fun q cA H1 hK1 hP1 hD1 hS1 => ?_)
  obtain ⟨_, _, _, _, _, b1⟩ := (hK1.2 3 (cA, .object RX1) rfl).2
  obtain ⟨_, _, _, _, _, b2⟩ := (hK.2 2 (gQ g, .object RX1) rfl).2
  have e1 : cA = gQ g := Option.some.inj (b1.symm.trans b2)
  rw [e1] at hP1 hD1
  exact kk q H1 locs ls hP1 hD1 hS1 hl
theorem Go.putF (X : Cx Γ g nL cc own Ts) {post : va_W → Prop} {mc ms : Nat} (E : En Γ g post mc ms) {index ci j : Nat} {ty : FieldType} (F : FL Ts own index ci j) (P : FPF own ci j ty) (q : Nat) (M1 : va_W) {a : Nat} {fs : List Value} {v : Value} (he : M[q]? = some (a, .inr (ci, fs))) (hn : narrow ty v = v) (hf : fits ty v = true) (hl9 : Nat.ble (j + 1) fs.length = true) (hd : decode cc pc = .ok (.putfield index, 3)) (hM : M.set q (a, .inr (ci, fs.set j v)) = M1) (kk : Go Γ g nL R k n M1 (pc + 3) lv st) : Go Γ g nL R k n M pc lv (v :: .ref a :: st) := by
  obtain ⟨C, T, N, f1, f2, f3, f4⟩ := F
  obtain ⟨C', T', N', ty0, p1, p2, p3, p4, p6, p5⟩ := P
  obtain ⟨p, l, e, s, m, args, below, meth, c, A, Q⟩ := Γ
  obtain ⟨hx, hb, hml, hown, hts, hK, hA, hE⟩ := X
  obtain ⟨_, _, hin, _⟩ := E
  rw [f1] at p1
  cases p1
  intro H locs ls hP hD hS hl
  exact va_putF hx hb hts f2 ty0 p2 p3 hown hK hP hD hS q he f1 j f3 (hts _ f4) (fun _ h => h) p4 hin p6 p5 hn hf (Nat.le_of_ble_eq_true hl9) hd (fun H1 locs1 hP1 hD1 hS1 => by rw [hM] at hP1 hD1; exact kk H1 locs1 ls hP1 hD1 hS1 hl)
theorem Go.objI (X : Cx Γ g nL cc own Ts) {index a : Nat} (h1 : Cond.methodLink own index objectInit ∈ Ts) (h2 : Cond.instanceMethod objectInit ∈ Ts) (h3 : Cond.code objectInit ⟨#[0xb1]⟩ 1 none ∈ Ts) (hR : (Nat.ble 1 R.frames && Nat.ble ((st.map fun v => v.category).sum + 12) R.locals) = true) (hd : decode cc pc = .ok (.invokespecial index, 3)) (kk : Go Γ g nL R k n M (pc + 3) lv st) : Go Γ g nL R k n M pc lv (.ref a :: st) := by
  simp only [Bool.and_eq_true] at hR
  obtain ⟨p, l, e, s, m, args, below, meth, c, A, Q⟩ := Γ
  obtain ⟨hx, hb, hml, hown, hts, hK, hA, hE⟩ := X
  intro H locs ls hP hD hS hl
  have hr := Nat.le_of_ble_eq_true hR.2
  refine W.objInit hx hb hown (hts _ h1) (hts _ h2) (hts _ h3) rfl (by rw [hml]; exact hl.1) rfl hd (Nat.le_of_ble_eq_true hR.1) (by show 2 * 0 + _ + 12 ≤ _; omega) ?_
  exact kk H locs ls hP hD hS hl
theorem Go.aast (X : Cx Γ g nL cc own Ts) (q0 qk : Nat) (M1 : va_W) {a v N ci i : Nat} {vs : List Value} {T : u_T} {NN : Nat} {f : Nat → Option Nat} (ha : M[q0]? = some (a, .inl (gQ g, N, .inr (.inr (.inr (.inr f)))))) (hv : M[qk]? = some (v, .inr (ci, vs))) (hc : vwCl[ci]? = some (RX1, T, NN)) (hi : i < N) (hN : Nat.ble N 1000 = true) (hd : decode cc pc = .ok (.aastore, 1)) (hM : M.set q0 (a, .inl (gQ g, N, .inr (.inr (.inr (.inr (va_up f i (some v))))))) = M1) (kk : Go Γ g nL R k n M1 (pc + 1) lv st) : Go Γ g nL R k n M pc lv (.ref v :: .int (nI i) :: .ref a :: st) := by
  have hN := Nat.le_of_ble_eq_true hN
  obtain ⟨p, l, e, s, m, args, below, meth, c, A, Q⟩ := Γ
  obtain ⟨hx, hb, hml, hown, hts, hK, hA, hE⟩ := X
  intro H locs ls hP hD hS hl
  have ei : (nI i).toNatClampNeg = i := nI_clamp (by omega)
  refine va_astq hx hb hK hP hD hS q0 2 qk ci ha rfl hv hc (vp_in_nI hi (by omega)) hd (fun H1 locs1 hP1 hD1 hS1 => ?_)
  rw [ei, hM] at hP1 hD1
  exact kk H1 locs1 ls hP1 hD1 hS1 hl
theorem Go.extQ {q a N : Nat} {cA : ClassId} {f f1 : Nat → Option Nat} {M1 : va_W} (he : M[q]? = some (a, .inl (cA, N, .inr (.inr (.inr (.inr f)))))) (hf : ∀ i, i < N → f i = f1 i) (hM : M.set q (a, .inl (cA, N, .inr (.inr (.inr (.inr f1))))) = M1) (kk : Go Γ g nL R k n M1 pc lv st) : Go Γ g nL R k n M pc lv st := by
  obtain ⟨p, l, e, s, m, args, below, meth, c, A, Q⟩ := Γ
  intro H locs ls hP hD hS hl
  subst hM
  refine kk H locs ls (hP.set hD he ?_ (fun _ _ => rfl)) (hD.set he) hS hl
  have h1 : H[a]? = some (vp_cell cA (N, .inr (.inr (.inr (.inr f))))) := hP q _ he
  show H[a]? = some (vp_cell cA (N, .inr (.inr (.inr (.inr f1)))))
  rw [h1]
  refine congrArg some ?_
  show arrV cA N (fun j => va_rf (f j)) = arrV cA N (fun j => va_rf (f1 j))
  unfold arrV
  congr 1
  apply Array.ext
  · simp
  · intro j h1 h2
    simp at h1
    simp [hf j h1]
theorem go_afterN {p : Program} {l : Launch} {e : Env} {R : Room} {s : State} {m : MethodId} {args : Array Value} {below : List Frame} {meth : Method} {c : Code} {H : Heap} {locs : List Loc} {cells slots mc ms : Nat} {Q : State → Prop} {pc : Nat} {ls : Array Slot} {rest st0 : List Value} {a : Array Value} {A0 A1 : Nat → Prop} {H0 : Heap} {free : Addr → Prop} {g : gT} {post : va_W → Prop}
    (hr : va_Run p l e R s m args below meth c H locs cells slots mc ms (F0 m pc ls st0) rest (QnW g A1 post a) free) (hS : va_S A0 H0 H locs) (hA : ∀ q, q < H.size → A1 q → A0 q) (hf : ∀ q, free q → A0 q)
    (kk : ∀ (w1 : va_W) (H1 : Heap) (locs1 : List Loc), post w1 → va_P g.1 vwCl w1 H1 → va_D A1 w1 → (∀ q : Nat, q < H.size → ¬ A1 q → H1[q]? = H[q]?) → va_S A0 H0 H1 locs1 → W p l e R s m args below meth c H1 locs1 (cells + mc) (slots + ms) Q (F0 m (pc + 3) ls rest)) : W p l e R s m args below meth c H locs cells slots Q (F0 m pc ls st0) := by
  intro T hT X
  obtain ⟨v, st₀, t, T', L, h0, X', hL, e1, e2, ⟨⟨w1, hv, hp, hP1, hD1⟩, hz, hk⟩, st⟩ := hr T hT X
  cases hv
  rw [h0] at hz hk
  obtain ⟨t2, a1, b1⟩ := kk w1 T'.heap (locs ++ L) hp (by rw [e1]; exact hP1) hD1 (fun q h1 h2 => by rw [e1]; exact hk q h1 h2)
    ⟨Nat.le_trans hS.1 (by rw [e1]; exact hz), fun q h1 h2 => by rw [e1, hk q (Nat.lt_of_lt_of_le h1 hS.1) (fun z => h2 (hA q (Nat.lt_of_lt_of_le h1 hS.1) z))]; exact hS.2.1 q h1 h2, fun q hq => by
      rcases List.mem_append.mp hq with h | h
      · exact hS.2.2 q h
      · exact hf _ (hL q h)⟩ T' rfl X'
  exact ⟨t2, st t2 a1, b1⟩
def okN (fr lo maxL k n mc ms : Nat) (R : Room) (rest : List Value) : Bool := Nat.ble (fr + 1) R.frames && Nat.ble (8 + (maxL + 11) + lo) R.locals && Nat.ble (k + mc) R.cells && Nat.ble (n + ms) R.slots && Nat.ble (rest.map fun v => v.category).sum 8
theorem okN_at {fr lo maxL k n mc ms : Nat} {R : Room} {rest : List Value} (h : okN fr lo maxL k n mc ms R rest = true) : fr + 1 ≤ R.frames ∧ 8 + (maxL + 11) + lo ≤ R.locals ∧ k + mc ≤ R.cells ∧ n + ms ≤ R.slots ∧ (rest.map fun v => v.category).sum ≤ 8 := by
  simp only [okN, Bool.and_eq_true] at h
  exact ⟨Nat.le_of_ble_eq_true h.1.1.1.1, Nat.le_of_ble_eq_true h.1.1.1.2, Nat.le_of_ble_eq_true h.1.1.2, Nat.le_of_ble_eq_true h.1.2, Nat.le_of_ble_eq_true h.2⟩
/-- a constructor that this class may link -/
theorem Go.callN (X : Cx Γ g nL cc own Ts) {y : MethodName} {ws : List Cond} {bytes : ByteArray} {maxL index fr lo mc ms b ci : Nat} {C : String} {fs0 : List Value} {post : va_W → Prop} {rest : List Value} (hC : Cn g y ws fr lo mc ms b ci fs0 post) (hc : Cal y ws bytes maxL none C 0) (hy1 : y.name = "<init>") (q0 : Nat) (wr : va_W) (isR : List Nat) (hpos : [q0].map (fun i => M[i]?) = ([(b, .inr (ci, fs0))] : va_W).map some) (hRm : isR.map (fun i => M[i]?) = wr.map some) (hnd : va_nd isR = true) (hdis : ∀ i ∈ isR, i ∉ [q0]) (hG : GoodIn Ts ws) (h1 : Cond.initialized y.cls ∈ Ts) (h2 : Cond.methodLink own index y ∈ Ts) (h3 : Cond.instanceMethod y ∈ Ts) (hR : okN fr lo maxL k n mc ms R rest = true) (hd : decode cc pc = .ok (.invokespecial index, 3))
    (kk : ∀ w1 : va_W, post w1 → Go Γ g nL R (k + mc) (n + ms) (wr ++ w1) (pc + 3) lv rest) : Go Γ g nL R k n M pc lv (.ref b :: rest) := by
  obtain ⟨⟨ws', hw⟩, hd2⟩ := hc
  obtain ⟨r1, r2, r3, r4, r5⟩ := okN_at hR
  obtain ⟨p, l, e, s, m, args, below, meth, c, A, Q⟩ := Γ
  obtain ⟨hx, hb, hml, hown, hts, hK, hA, hE⟩ := X
  intro H locs ls hP hD hS hl
  have hPc := hP.sub (ws' := [(b, .inr (ci, fs0))]) [q0] (pos_fm hpos)
  have hDc := hD.sub [q0] rfl hpos
  have hFc := va_free hD hS hA [q0] hpos
  exact go_afterN (va_runI (As := []) (rest := rest) ⟨hx, hb, hml, hown, hts⟩ (hC l H.size) (cwI 0 hts hG hw rfl rfl (hts _ h1) (hts _ h2) (hts _ h3) hy1 hd2.2 ⟨r1, r2⟩) ⟨PreW.blind, fun U hU hW => ⟨rfl, by rw [hU], by rw [hU]; exact hPc, va_K.moved hW.alike hK, hDc.weaken (fun _ _ _ _ => trivial), EV.call hE hS hU hW hFc⟩⟩ rfl rfl hl.1 rfl (lv_room r5) hd ⟨r3, r4⟩) hS (fun q _ h => hFc q h) hFc (fun w1 H1 locs1 hp hP1 hD1 hk1 hS1 => by
    obtain ⟨hP2, hD2⟩ := va_join (wr := wr) (w1 := w1) hP hD [q0] isR hpos hRm hnd hdis hk1 hFc hP1 hD1
    exact kk w1 hp H1 locs1 ls hP2 hD2 hS1 hl)
/-- the same, of one that makes a row of shelves -/
theorem Go.callNO (X : Cx Γ g nL cc own Ts) (O : AOk Γ) {y : MethodName} {ws : List Cond} {bytes : ByteArray} {maxL index fr lo mc ms b ci : Nat} {C : String} {fs0 : List Value} {post : va_W → Prop} {rest : List Value} (hC : CnO g y ws fr lo mc ms b ci fs0 post) (hc : Cal y ws bytes maxL none C 0) (hy1 : y.name = "<init>") (q0 : Nat) (wr : va_W) (isR : List Nat) (hpos : [q0].map (fun i => M[i]?) = ([(b, .inr (ci, fs0))] : va_W).map some) (hRm : isR.map (fun i => M[i]?) = wr.map some) (hnd : va_nd isR = true) (hdis : ∀ i ∈ isR, i ∉ [q0]) (hG : GoodIn Ts ws) (h1 : Cond.initialized y.cls ∈ Ts) (h2 : Cond.methodLink own index y ∈ Ts) (h3 : Cond.instanceMethod y ∈ Ts) (hR : okN fr lo maxL k n mc ms R rest = true) (hd : decode cc pc = .ok (.invokespecial index, 3))
    (kk : ∀ w1 : va_W, post w1 → Go Γ g nL R (k + mc) (n + ms) (wr ++ w1) (pc + 3) lv rest) : Go Γ g nL R k n M pc lv (.ref b :: rest) := by
  obtain ⟨⟨ws', hw⟩, hd2⟩ := hc
  obtain ⟨r1, r2, r3, r4, r5⟩ := okN_at hR
  obtain ⟨p, l, e, s, m, args, below, meth, c, A, Q⟩ := Γ
  obtain ⟨hx, hb, hml, hown, hts, hK, hA, hE⟩ := X
  intro H locs ls hP hD hS hl
  have hPc := hP.sub (ws' := [(b, .inr (ci, fs0))]) [q0] (pos_fm hpos)
  have hDc := hD.sub [q0] rfl hpos
  have hFc := va_free hD hS hA [q0] hpos
  exact go_afterN (va_runI (As := []) (rest := rest) ⟨hx, hb, hml, hown, hts⟩ (hC l H.size) (cwI 0 hts hG hw rfl rfl (hts _ h1) (hts _ h2) (hts _ h3) hy1 hd2.2 ⟨r1, r2⟩) ⟨PreO.blind, fun U hU hW => ⟨rfl, ⟨by rw [hU], by rw [hU]; exact hPc, va_K.moved hW.alike hK, hDc.weaken (fun _ _ _ _ => trivial), EV.call hE hS hU hW hFc⟩, va_AO.moved hW.alike O⟩⟩ rfl rfl hl.1 rfl (lv_room r5) hd ⟨r3, r4⟩) hS (fun q _ h => hFc q h) hFc (fun w1 H1 locs1 hp hP1 hD1 hk1 hS1 => by
    obtain ⟨hP2, hD2⟩ := va_join (wr := wr) (w1 := w1) hP hD [q0] isR hpos hRm hnd hdis hk1 hFc hP1 hD1
    exact kk w1 hp H1 locs1 ls hP2 hD2 hS1 hl)
/-- a private one of a nest mate -/
theorem Go.callNN (X : Cx Γ g nL cc own Ts) {y : MethodName} {ws : List Cond} {bytes : ByteArray} {maxL index fr lo mc ms b ci : Nat} {C : String} {fs0 : List Value} {post : va_W → Prop} {rest : List Value} (hC : Cn g y ws fr lo mc ms b ci fs0 post) (hc : Cal y ws bytes maxL none C 0) (hy1 : y.name = "<init>") (q0 : Nat) (wr : va_W) (isR : List Nat) (hpos : [q0].map (fun i => M[i]?) = ([(b, .inr (ci, fs0))] : va_W).map some) (hRm : isR.map (fun i => M[i]?) = wr.map some) (hnd : va_nd isR = true) (hdis : ∀ i ∈ isR, i ∉ [q0]) (hG : GoodIn Ts ws) (h1 : Cond.initialized y.cls ∈ Ts) (h2 : (own, index, y, RX3) ∈ nestL) (h3 : Cond.instanceMethod y ∈ Ts) (hR : okN fr lo maxL k n mc ms R rest = true) (hd : decode cc pc = .ok (.invokespecial index, 3))
    (kk : ∀ w1 : va_W, post w1 → Go Γ g nL R (k + mc) (n + ms) (wr ++ w1) (pc + 3) lv rest) : Go Γ g nL R k n M pc lv (.ref b :: rest) := by
  obtain ⟨⟨ws', hw⟩, hd2⟩ := hc
  obtain ⟨r1, r2, r3, r4, r5⟩ := okN_at hR
  obtain ⟨p, l, e, s, m, args, below, meth, c, A, Q⟩ := Γ
  obtain ⟨hx, hb, hml, hown, hts, hK, hA, hE⟩ := X
  intro H locs ls hP hD hS hl
  have hPc := hP.sub (ws' := [(b, .inr (ci, fs0))]) [q0] (pos_fm hpos)
  have hDc := hD.sub [q0] rfl hpos
  have hFc := va_free hD hS hA [q0] hpos
  exact go_afterN (va_runIN (As := []) (rest := rest) ⟨hx, hb, hml, hown, hts⟩ (hC l H.size) ⟨va_cnB 0 hts hG hw rfl rfl (hE.1 _ h2) (hts _ h1) hd2.2 ⟨r1, r2⟩, hy1, hts _ h3⟩ ⟨PreW.blind, fun U hU hW => ⟨rfl, by rw [hU], by rw [hU]; exact hPc, va_K.moved hW.alike hK, hDc.weaken (fun _ _ _ _ => trivial), EV.call hE hS hU hW hFc⟩⟩ rfl rfl hl.1 rfl (lv_room r5) hd ⟨r3, r4⟩) hS (fun q _ h => hFc q h) hFc (fun w1 H1 locs1 hp hP1 hD1 hk1 hS1 => by
    obtain ⟨hP2, hD2⟩ := va_join (wr := wr) (w1 := w1) hP hD [q0] isR hpos hRm hnd hdis hk1 hFc hP1 hD1
    exact kk w1 hp H1 locs1 ls hP2 hD2 hS1 hl)
theorem Go.vretN (X : Cx Γ g nL cc own Ts) {post : va_W → Prop} {mc ms : Nat} (E : En Γ g post mc ms) (hd : decode cc pc = .ok (.return_, 1)) (hp : post M) : Go Γ g nL R mc ms M pc lv [] := by
  obtain ⟨p, l, e, s, m, args, below, meth, c, A, Q⟩ := Γ
  obtain ⟨hx, hb, hml, hown, hts, hK, hA, hE⟩ := X
  obtain ⟨hr, hlk, hin, hQ⟩ := E
  subst hQ
  intro H locs ls hP hD hS hl
  exact W.vret hx hb hr (fun t ht hW => ⟨⟨M, rfl, hp, by rw [ht]; exact hP, hD⟩, hS.F ht⟩) hS.2.2 hd hlk
end GN
