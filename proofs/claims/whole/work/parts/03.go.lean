/-! GO: a layer over the kit's rows. Γ: the machine's fixed parts; M: the world's cells; lv: the locals; st: the stack. -/
abbrev gT : Type := va_G × (ClassId × ClassId × ClassId) × Nat × (Nat → Nat) × (Nat → Nat)
abbrev gI (g : gT) : ClassId := g.2.1.1
abbrev gJ (g : gT) : ClassId := g.2.1.2.1
abbrev gQ (g : gT) : ClassId := g.2.1.2.2
def gTys (g : gT) : List (ClassId × FieldType) := [(g.2.1.1, .int), (g.2.1.2.1, .long), (g.2.1.2.2, .object RX1)]
def kaV : Nat → Value := fun j => .int (match j with | 0 => -1 | 1 => 0 | 2 => 0 | 3 => 1 | 4 => 0 | _ => 2)
def strLen : List Nat := [4, 5, 6, 4, 6, 4]
def strByt : List (List Int32) := [[116, 101, 114, 109], [110, 101, 118, 101, 114], [119, 101, 105, 103, 104, 116], [115, 97, 105, 100], [112, 101, 114, 115, 111, 110], [104, 105, 110, 116]]
def strL : List (String × Nat × String × Nat) := [(RX2, 32, "term", 0), (RX2, 41, "never", 1), (RX2, 46, "weight", 2), (RX2, 51, "said", 3), (RX2, 56, "person", 4), (RX2, 61, "hint", 5), (RX4, 157, "term", 0), (RX4, 166, "never", 1), (RX4, 168, "weight", 2), (RX4, 169, "said", 3), (RX4, 170, "person", 4), (RX4, 172, "hint", 5)]
def nestL : List (String × Nat × MethodName × String) := [(RX1, 22, yX3_isWithin, RX3), (RX0, 64, yX3_isWithin, RX3), (RX0, 106, yX3_lastOf, RX3), (RX0, 109, yX3_isOfKind, RX3), (RX0, 68, yX3_isIn, RX3), (RX2, 104, yX3_isWithin, RX3), (RX2, 97, yX3_isIn, RX3), (RX0, 85, yX3_shareOf, RX3), (RX3, 24, yX2_init, RX3), (RX3, 42, yX1_init, RX3)]
/-- what stands outside the world: links of nest mates, the table KIND_ABOVE, the words of a school's text -/
def EV (g : gT) (A : Nat → Prop) (U : State) (H : Heap) : Prop :=
  (∀ q ∈ nestL, va_Nw (.methodLinkNest q.1 q.2.1 q.2.2.1 q.2.2.2) U) ∧ va_Z RX3 "KIND_ABOVE" "[I" (.ref g.2.2.1) A U H ∧ va_T .int g.2.2.1 6 kaV A U H ∧
  vk_S 6 strLen strByt g.2.2.2.1 g.2.2.2.2 A U H ∧ (∀ q ∈ strL, vk_R q.1 q.2.1 q.2.2.1 (g.2.2.2.1 q.2.2.2) U) ∧ va_Z RJ0 "COMPACT_STRINGS" "Z" (.int 1) A U H ∧ va_Zq RJ3 "SIOOBE_FORMATTER" "Ljava/util/function/BiFunction;" A U H
theorem EV.call {g : gT} {A B : Nat → Prop} {s U : State} {H : Heap} {locs : List Loc} (h : EV g A s s.heap) (hS : va_S A s.heap H locs) (hU : U.heap = H) (hW : s.WarmedH U.vm) (hAB : ∀ q, B q → A q) : EV g B U U.heap := by
  obtain ⟨h1, h2, h3, h4, h5, h6, h7⟩ := h
  have hk : ∀ a : Nat, a < s.heap.size → ¬ A a → U.heap[a]? = s.heap[a]? := by rw [hU]; exact hS.2.1
  exact ⟨fun q hq => va_Nw.warmM hW (h1 q hq), (va_Z.moved hW.alike (h2.kept hk)).narrow hAB, (va_T.moved hW.alike (h3.kept hk)).narrow hAB, (vk_S.moved hW.alike (h4.kept hk)).narrow hAB, fun q hq => vk_R.warm hW (h5 q hq), (va_Z.moved hW.alike (h6.kept hk)).narrow hAB, (va_Zq.moved hW.alike (h7.kept hk)).narrow hAB⟩
theorem EV.blind {g : gT} {A : Nat → Prop} {U : State} {f : JFrame} {mk : MethodId} {a : Array Value} (h : EV g A U U.heap) : EV g A (U.calling f mk a) (U.calling f mk a).heap := by
  obtain ⟨h1, h2, h3, h4, h5, h6, h7⟩ := h
  have hv : U.vm.Alike (U.calling f mk a).vm := Vm.Alike.refl U.vm
  exact ⟨fun q hq => va_Nw.same (u := U) rfl rfl (h1 q hq), va_Z.moved (u := U) hv h2, va_T.moved (u := U) hv h3, vk_S.moved (u := U) hv h4, fun q hq => vk_R.same (u := U) rfl (h5 q hq), va_Z.moved (u := U) hv h6, va_Zq.moved (u := U) hv h7⟩
def PreW (g : gT) (M : va_W) (sz : Nat) (U : State) : Prop := U.heap.size = sz ∧ va_P g.1 vwCl M U.heap ∧ va_K g.1 vwCl (gTys g) U ∧ va_D (fun _ => True) M ∧ EV g (va_A M sz) U U.heap
theorem PreW.blind {g : gT} {M : va_W} {sz : Nat} {as : List Value} : FrameBlind (va_Pc as (PreW g M sz)) := fun a U f mk q =>
  ⟨q.1, q.2.1, q.2.2.1, va_K.moved (u := U) (U := U.calling f mk a) (Vm.Alike.refl U.vm) q.2.2.2.1, q.2.2.2.2.1, EV.blind q.2.2.2.2.2⟩
def Qw (g : gT) (A : Nat → Prop) (M : va_W) (post : Option Value → va_W → Prop) : Array Value → State → Outcome → State → Prop := fun _ st oc t =>
  (∃ (v : Option Value) (M1 : va_W), oc = .returned v ∧ post v M1 ∧ M1.map Prod.fst = M.map Prod.fst ∧ va_P g.1 vwCl M1 t.heap) ∧ va_F A st t
abbrev rmC (fr lo : Nat) : Room := { frames := fr, cells := 0, slots := 0, locals := lo }
/-- a contract: from every world M the method returns v in a world M1 (of the same addresses) with post v M1 -/
def Ct (g : gT) (y : MethodName) (ws : List Cond) (fr lo : Nat) (as : List Value) (M : va_W) (post : Option Value → va_W → Prop) : Prop :=
  ∀ (l : Launch) (sz : Nat), Met l y ws (rmC fr lo) (va_Pc as (PreW g M sz)) (Qw g (va_A M sz) M post) 0 0 (va_A M sz)
/-- exact: the answer and the world behind it -/
abbrev Cw (g : gT) (y : MethodName) (ws : List Cond) (fr lo : Nat) (as : List Value) (M : va_W) (v : Option Value) (M1 : va_W) : Prop := Ct g y ws fr lo as M (fun v' M' => v' = v ∧ M' = M1)
/-- a reader of an int -/
abbrev Ci (g : gT) (y : MethodName) (ws : List Cond) (fr lo : Nat) (as : List Value) (M : va_W) (x : Int32) : Prop := Cw g y ws fr lo as M (some (.int x)) M
abbrev GT : Type := Program × Launch × Env × State × MethodId × Array Value × List Frame × Method × Code × (Nat → Prop) × (State → Prop)
def Cx (Γ : GT) (g : gT) (nL : Nat) (cc : ByteArray) (own : String) (Ts : List Cond) : Prop := match Γ with
  | (p, _, _, s, m, args, _, _, c, A, _) => p.tables.exec = Jvm.exec ∧ c.code = cc ∧ c.maxLocals = nL ∧ s.vm.findClass own = some m.cls ∧ (∀ w ∈ Ts, w.before args s = true) ∧ va_K g.1 vwCl (gTys g) s ∧ (∀ q : Nat, s.heap.size ≤ q → A q) ∧ EV g A s s.heap
def Ex (Γ : GT) (g : gT) (ret : Option FieldType) (M : va_W) (post : Option Value → va_W → Prop) : Prop := match Γ with
  | (_, _, _, s, _, args, below, meth, _, A, Q) => meth.sig.returnType = ret ∧ meth.locks = false ∧ Q = MQ below (Qw g A M post) args s 0 0 A
def Go (Γ : GT) (g : gT) (nL : Nat) (R : Room) (k n : Nat) (M : va_W) (pc : Nat) (lv : List (Nat × Value)) (st : List Value) : Prop := match Γ with
  | (p, l, e, s, m, args, below, meth, c, A, Q) => ∀ (H : Heap) (locs : List Loc) (ls : Array Slot), va_P g.1 vwCl M H → va_D A M → va_S A s.heap H locs → lv_has ls nL lv → W p l e R s m args below meth c H locs k n Q (F0 m pc ls st)
theorem Ct.start {g : gT} {y : MethodName} {ws ws' : List Cond} {fr lo : Nat} {as : List Value} {M : va_W} {post : Option Value → va_W → Prop} {cc : ByteArray} {nL : Nat} {ret : Option FieldType} {own : String}
    (hy : plainName y.cls = true) (ho : y.cls = own) (hw : ws = Cond.code y cc nL ret :: ws') (hlen : Nat.ble (lg_sl as).length nL = true)
    (body : ∀ Γ : GT, Cx Γ g nL cc own ws → Ex Γ g ret M post → Go Γ g nL (rmC fr lo) 0 0 M 0 (lv_args 0 as) []) : Ct g y ws fr lo as M post := by
  intro l sz
  refine Met.ofW (cc := cc) (maxL := nL) (ret := ret) hy hw ?_
  intro p e s m args below meth c s₁ B hml hv
  obtain ⟨rfl, hsz, hP, hK, hD0, hE⟩ := hv
  subst hsz
  have hts := atoms_spec (ws := ws) B.pre
  have hown : s.vm.findClass own = some m.cls := by rw [← ho]; exact findClass_of_methodNamed B.named
  have hD := hD0.self (sz := s.heap.size)
  generalize hAe : va_A M s.heap.size = A at hD hE ⊢
  have hA : ∀ q : Nat, s.heap.size ≤ q → A q := fun q h => by rw [← hAe]; exact Or.inr h
  have h1 := body (p, l, e, s, m, as.toArray, below, meth, c, A, MQ below (Qw g A M post) as.toArray s 0 0 A) ⟨B.exec, B.bytes, hml, hown, hts, hK, hA, hE⟩ ⟨B.returns, B.notSynchronized, rfl⟩
  rw [lg_entry_eq]
  exact h1 s.heap [] _ hP hD va_S.rf (lv_entry as (Nat.le_of_ble_eq_true hlen))
theorem Ct.weaken {g : gT} {y : MethodName} {ws : List Cond} {fr lo : Nat} {as : List Value} {M : va_W} {post post' : Option Value → va_W → Prop} (h : Ct g y ws fr lo as M post) (hp : ∀ v M1, post v M1 → post' v M1) : Ct g y ws fr lo as M post' := by
  intro l sz p e ha hc hk s m args below hf happ hP hT
  obtain ⟨t, o, h1, h2, h3, hQ⟩ := h l sz p e ha hc hk s m args below hf happ hP hT
  obtain ⟨⟨⟨v, M1, q1, q2, q3, q4⟩, q5⟩, q6⟩ := hQ
  exact ⟨t, o, h1, h2, h3, ⟨⟨v, M1, q1, hp v M1 q2, q3, q4⟩, q5⟩, q6⟩
/-! worlds in place -/
def putL : va_W → List Nat → va_W → va_W
  | M, p :: ps, w :: ws => putL (M.set p w) ps ws
  | M, _, _ => M
theorem putL_out : ∀ (pos : List Nat) (w M : va_W) (k : Nat), k ∉ pos → (putL M pos w)[k]? = M[k]?
  | [], w, M, k, _ => by simp [putL]
  | p :: ps, [], M, k, _ => by simp [putL]
  | p :: ps, x :: w, M, k, h => by
    have h1 : k ≠ p := fun e => h (by rw [e]; exact List.mem_cons_self)
    have h2 : k ∉ ps := fun e => h (List.mem_cons_of_mem _ e)
    show (putL (M.set p x) ps w)[k]? = _
    rw [putL_out ps w _ k h2, List.getElem?_set_ne (Ne.symm h1)]
theorem putL_in : ∀ (pos : List Nat) (w M : va_W) (j k : Nat) (x : Nat × va_E), va_nd pos = true → pos[j]? = some k → w[j]? = some x → k < M.length → (putL M pos w)[k]? = some x
  | [], w, M, j, k, x, _, h, _, _ => by simp at h
  | p :: ps, [], M, j, k, x, _, _, h, _ => by simp at h
  | p :: ps, y :: w, M, j, k, x, hn, h1, h2, hk => by
    simp only [va_nd, Bool.and_eq_true, decide_eq_true_eq] at hn
    show (putL (M.set p y) ps w)[k]? = _
    cases j with
    | zero =>
      simp only [List.getElem?_cons_zero, Option.some.injEq] at h1 h2
      subst h1; subst h2
      rw [putL_out ps w _ _ hn.1, List.getElem?_set_self hk]
    | succ j =>
      simp only [List.getElem?_cons_succ] at h1 h2
      exact putL_in ps w _ j k x hn.2 h1 h2 (by rw [List.length_set]; exact hk)
theorem pos_at {M wc : va_W} {pos : List Nat} (h : pos.map (fun i => M[i]?) = wc.map some) {j k : Nat} (hj : pos[j]? = some k) : ∃ q, wc[j]? = some q ∧ M[k]? = some q := by
  have h1 : (pos.map (fun i => M[i]?))[j]? = some (M[k]?) := by rw [List.getElem?_map, hj]; rfl
  rw [h, List.getElem?_map] at h1
  cases hw : wc[j]? with
  | none => rw [hw] at h1; cases h1
  | some q =>
    rw [hw] at h1
    exact ⟨q, rfl, (Option.some.inj h1).symm⟩
theorem pos_fm {M wc : va_W} {pos : List Nat} (h : pos.map (fun i => M[i]?) = wc.map some) : pos.filterMap (fun i => M[i]?) = wc := by
  have e : pos.filterMap (fun i => M[i]?) = (pos.map (fun i => M[i]?)).filterMap id := by
    rw [List.filterMap_map]; rfl
  rw [e, h, List.filterMap_map]
  simp
theorem putL_self {M wc : va_W} {pos : List Nat} (h : pos.map (fun i => M[i]?) = wc.map some) (hn : va_nd pos = true) : putL M pos wc = M := by
  refine List.ext_getElem? fun k => ?_
  by_cases hk : k ∈ pos
  · obtain ⟨j, hj⟩ := List.getElem?_of_mem hk
    obtain ⟨q, h1, h2⟩ := pos_at h hj
    rw [putL_in pos wc M j k q hn hj h1 (List.getElem?_eq_some_iff.mp h2).1, h2]
  · exact putL_out pos wc M k hk
theorem fst_at {M1 M : va_W} (h : M1.map Prod.fst = M.map Prod.fst) {k : Nat} {q : Nat × va_E} (hk : M1[k]? = some q) : ∃ q0, M[k]? = some q0 ∧ q0.1 = q.1 := by
  have h1 : (M1.map Prod.fst)[k]? = some q.1 := by rw [List.getElem?_map, hk]; rfl
  rw [h, List.getElem?_map] at h1
  cases hw : M[k]? with
  | none => rw [hw] at h1; cases h1
  | some q0 => rw [hw] at h1; exact ⟨q0, rfl, Option.some.inj h1⟩
theorem va_D.congr {A : Nat → Prop} {M1 M : va_W} (h : M1.map Prod.fst = M.map Prod.fst) (hD : va_D A M) : va_D A M1 := by
  refine ⟨fun i j x y hi hj e => ?_, fun k q hk => ?_⟩
  · obtain ⟨x0, h1, h2⟩ := fst_at h hi
    obtain ⟨y0, h3, h4⟩ := fst_at h hj
    exact hD.1 i j x0 y0 h1 h3 (h2.trans (e.trans h4.symm))
  · obtain ⟨q0, h1, h2⟩ := fst_at h hk
    rw [← h2]
    exact hD.2 k q0 h1
theorem putL_fst {M wc w1 : va_W} {pos : List Nat} (h : pos.map (fun i => M[i]?) = wc.map some) (hn : va_nd pos = true) (hw : w1.map Prod.fst = wc.map Prod.fst) : (putL M pos w1).map Prod.fst = M.map Prod.fst := by
  refine List.ext_getElem? fun k => ?_
  rw [List.getElem?_map, List.getElem?_map]
  by_cases hk : k ∈ pos
  · obtain ⟨j, hj⟩ := List.getElem?_of_mem hk
    obtain ⟨q, h1, h2⟩ := pos_at h hj
    obtain ⟨q1, h3, h4⟩ := fst_at hw.symm h1
    rw [putL_in pos w1 M j k q1 hn hj h3 (List.getElem?_eq_some_iff.mp h2).1, h2]
    show some q1.1 = some q.1
    rw [h4]
  · rw [putL_out pos w1 M k hk]
theorem putL_P {D : va_G} {cl : List vw_C} {A : Nat → Prop} {M wc w1 : va_W} {H H1 : Heap} {pos : List Nat} (hP : va_P D cl M H) (hD : va_D A M) (h : pos.map (fun i => M[i]?) = wc.map some) (hn : va_nd pos = true) (hw : w1.map Prod.fst = wc.map Prod.fst) (hP1 : va_P D cl w1 H1)
    (hk1 : ∀ q : Nat, q < H.size → ¬ va_A wc H.size q → H1[q]? = H[q]?) : va_P D cl (putL M pos w1) H1 := by
  intro k q hq
  by_cases hk : k ∈ pos
  · obtain ⟨j, hj⟩ := List.getElem?_of_mem hk
    obtain ⟨q0, h1, h2⟩ := pos_at h hj
    obtain ⟨q1, h3, h4⟩ := fst_at hw.symm h1
    rw [putL_in pos w1 M j k q1 hn hj h3 (List.getElem?_eq_some_iff.mp h2).1] at hq
    cases hq
    exact hP1 j _ h3
  · rw [putL_out pos w1 M k hk] at hq
    have hl := (hP k q hq).lt
    refine (hP k q hq).kept (hk1 q.1 hl fun z => ?_)
    rcases z with ⟨j, e, hj⟩ | z
    · have h1 : (pos.map (fun i => M[i]?))[j]? = some (some (q.1, e)) := by rw [h, List.getElem?_map, hj]; rfl
      rw [List.getElem?_map] at h1
      cases hp : pos[j]? with
      | none => rw [hp] at h1; cases h1
      | some i =>
        rw [hp] at h1
        have h2 : M[i]? = some (q.1, e) := Option.some.inj h1
        have e1 := hD.1 k i q (q.1, e) hq h2 rfl
        subst e1
        exact hk (List.mem_of_getElem? hp)
    · omega

section GO
variable {Γ : GT} {g : gT} {nL : Nat} {R : Room} {k n : Nat} {M : va_W} {pc : Nat} {lv : List (Nat × Value)} {st : List Value} {cc : ByteArray} {own : String} {Ts : List Cond}
theorem Go.iconst (X : Cx Γ g nL cc own Ts) {z : Int} (v : Int32) (hd : decode cc pc = .ok (.iconst z, 1)) (hv : Int32.ofInt z = v) (kk : Go Γ g nL R k n M (pc + 1) lv (.int v :: st)) : Go Γ g nL R k n M pc lv st := by
  obtain ⟨p, l, e, s, m, args, below, meth, c, A, Q⟩ := Γ
  obtain ⟨hx, hb, hml, hown, hts, hK, hA, hE⟩ := X
  intro H locs ls hP hD hS hl
  exact lv_iconst hx hb hd hv (kk H locs ls hP hD hS hl)
theorem Go.bipush (X : Cx Γ g nL cc own Ts) {z : Int} (v : Int32) (hd : decode cc pc = .ok (.bipush z, 2)) (hv : (Int8.ofInt z).toInt32 = v) (kk : Go Γ g nL R k n M (pc + 2) lv (.int v :: st)) : Go Γ g nL R k n M pc lv st := by
  obtain ⟨p, l, e, s, m, args, below, meth, c, A, Q⟩ := Γ
  obtain ⟨hx, hb, hml, hown, hts, hK, hA, hE⟩ := X
  intro H locs ls hP hD hS hl
  exact lv_bipush hx hb hd hv (kk H locs ls hP hD hS hl)
theorem Go.sipush (X : Cx Γ g nL cc own Ts) {z : Int} (v : Int32) (hd : decode cc pc = .ok (.sipush z, 3)) (hv : (Int16.ofInt z).toInt32 = v) (kk : Go Γ g nL R k n M (pc + 3) lv (.int v :: st)) : Go Γ g nL R k n M pc lv st := by
  obtain ⟨p, l, e, s, m, args, below, meth, c, A, Q⟩ := Γ
  obtain ⟨hx, hb, hml, hown, hts, hK, hA, hE⟩ := X
  intro H locs ls hP hD hS hl
  exact lv_sipush hx hb hd hv (kk H locs ls hP hD hS hl)
theorem Go.lconst (X : Cx Γ g nL cc own Ts) {z : Fin 2} (v : Int64) (hd : decode cc pc = .ok (.lconst z, 1)) (hv : Int64.ofNat (z : Nat) = v) (kk : Go Γ g nL R k n M (pc + 1) lv (.long v :: st)) : Go Γ g nL R k n M pc lv st := by
  obtain ⟨p, l, e, s, m, args, below, meth, c, A, Q⟩ := Γ
  obtain ⟨hx, hb, hml, hown, hts, hK, hA, hE⟩ := X
  intro H locs ls hP hD hS hl
  exact lv_lconst hx hb hd hv (kk H locs ls hP hD hS hl)
theorem Go.ldc (X : Cx Γ g nL cc own Ts) {i : Nat} (v : Int32) (hd : decode cc pc = .ok (.ldc i, 2)) (hm : Cond.constant own i v ∈ Ts) (kk : Go Γ g nL R k n M (pc + 2) lv (.int v :: st)) : Go Γ g nL R k n M pc lv st := by
  obtain ⟨p, l, e, s, m, args, below, meth, c, A, Q⟩ := Γ
  obtain ⟨hx, hb, hml, hown, hts, hK, hA, hE⟩ := X
  intro H locs ls hP hD hS hl
  exact lv_ldc hx hb hown (hts _ hm) hd (kk H locs ls hP hD hS hl)
theorem Go.ldcw (X : Cx Γ g nL cc own Ts) {i : Nat} (v : Int32) (hd : decode cc pc = .ok (.ldc_w i, 3)) (hm : Cond.constant own i v ∈ Ts) (kk : Go Γ g nL R k n M (pc + 3) lv (.int v :: st)) : Go Γ g nL R k n M pc lv st := by
  obtain ⟨p, l, e, s, m, args, below, meth, c, A, Q⟩ := Γ
  obtain ⟨hx, hb, hml, hown, hts, hK, hA, hE⟩ := X
  intro H locs ls hP hD hS hl
  exact lv_ldcw hx hb hown (hts _ hm) hd (kk H locs ls hP hD hS hl)
theorem Go.ldc2 (X : Cx Γ g nL cc own Ts) {i : Nat} (v : Int64) (hd : decode cc pc = .ok (.ldc2_w i, 3)) (hm : Cond.constantLong own i v ∈ Ts) (kk : Go Γ g nL R k n M (pc + 3) lv (.long v :: st)) : Go Γ g nL R k n M pc lv st := by
  obtain ⟨p, l, e, s, m, args, below, meth, c, A, Q⟩ := Γ
  obtain ⟨hx, hb, hml, hown, hts, hK, hA, hE⟩ := X
  intro H locs ls hP hD hS hl
  exact lv_ldc2 hx hb hown (hts _ hm) hd (kk H locs ls hP hD hS hl)
theorem Go.iload (X : Cx Γ g nL cc own Ts) (q : Nat) {i : Nat} {x : Int32} (hd : decode cc pc = .ok (.iload i, 2)) (hq : lv[q]? = some (i, Value.int x)) (kk : Go Γ g nL R k n M (pc + 2) lv (Value.int x :: st)) : Go Γ g nL R k n M pc lv st := by
  obtain ⟨p, l, e, s, m, args, below, meth, c, A, Q⟩ := Γ
  obtain ⟨hx, hb, hml, hown, hts, hK, hA, hE⟩ := X
  intro H locs ls hP hD hS hl
  exact lv_iload hx hb hd (lv_at hl q hq) (kk H locs ls hP hD hS hl)
theorem Go.iload_n (X : Cx Γ g nL cc own Ts) (q : Nat) {z : Fin 4} {x : Int32} (hd : decode cc pc = .ok (.iload_n z, 1)) (hq : lv[q]? = some ((z : Nat), Value.int x)) (kk : Go Γ g nL R k n M (pc + 1) lv (Value.int x :: st)) : Go Γ g nL R k n M pc lv st := by
  obtain ⟨p, l, e, s, m, args, below, meth, c, A, Q⟩ := Γ
  obtain ⟨hx, hb, hml, hown, hts, hK, hA, hE⟩ := X
  intro H locs ls hP hD hS hl
  exact lv_iload_n hx hb hd rfl (lv_at hl q hq) (kk H locs ls hP hD hS hl)
theorem Go.lload (X : Cx Γ g nL cc own Ts) (q : Nat) {i : Nat} {x : Int64} (hd : decode cc pc = .ok (.lload i, 2)) (hq : lv[q]? = some (i, Value.long x)) (kk : Go Γ g nL R k n M (pc + 2) lv (Value.long x :: st)) : Go Γ g nL R k n M pc lv st := by
  obtain ⟨p, l, e, s, m, args, below, meth, c, A, Q⟩ := Γ
  obtain ⟨hx, hb, hml, hown, hts, hK, hA, hE⟩ := X
  intro H locs ls hP hD hS hl
  exact lv_lload hx hb hd (lv_at hl q hq) (kk H locs ls hP hD hS hl)
theorem Go.lload_n (X : Cx Γ g nL cc own Ts) (q : Nat) {z : Fin 4} {x : Int64} (hd : decode cc pc = .ok (.lload_n z, 1)) (hq : lv[q]? = some ((z : Nat), Value.long x)) (kk : Go Γ g nL R k n M (pc + 1) lv (Value.long x :: st)) : Go Γ g nL R k n M pc lv st := by
  obtain ⟨p, l, e, s, m, args, below, meth, c, A, Q⟩ := Γ
  obtain ⟨hx, hb, hml, hown, hts, hK, hA, hE⟩ := X
  intro H locs ls hP hD hS hl
  exact lv_lload_n hx hb hd rfl (lv_at hl q hq) (kk H locs ls hP hD hS hl)
theorem Go.aload (X : Cx Γ g nL cc own Ts) (q : Nat) {i : Nat} {x : Nat} (hd : decode cc pc = .ok (.aload i, 2)) (hq : lv[q]? = some (i, Value.ref x)) (kk : Go Γ g nL R k n M (pc + 2) lv (Value.ref x :: st)) : Go Γ g nL R k n M pc lv st := by
  obtain ⟨p, l, e, s, m, args, below, meth, c, A, Q⟩ := Γ
  obtain ⟨hx, hb, hml, hown, hts, hK, hA, hE⟩ := X
  intro H locs ls hP hD hS hl
  exact lv_aload hx hb hd (lv_at hl q hq) (kk H locs ls hP hD hS hl)
theorem Go.aload_n (X : Cx Γ g nL cc own Ts) (q : Nat) {z : Fin 4} {x : Nat} (hd : decode cc pc = .ok (.aload_n z, 1)) (hq : lv[q]? = some ((z : Nat), Value.ref x)) (kk : Go Γ g nL R k n M (pc + 1) lv (Value.ref x :: st)) : Go Γ g nL R k n M pc lv st := by
  obtain ⟨p, l, e, s, m, args, below, meth, c, A, Q⟩ := Γ
  obtain ⟨hx, hb, hml, hown, hts, hK, hA, hE⟩ := X
  intro H locs ls hP hD hS hl
  exact lv_aload_n hx hb hd rfl (lv_at hl q hq) (kk H locs ls hP hD hS hl)
def okS (lv : List (Nat × Value)) (i : Nat) : Bool := lv.all fun q => !(Nat.beq q.1 i) && !(Nat.beq (q.1 + 1) i && Nat.beq q.2.category 2)
def okL (lv : List (Nat × Value)) (i : Nat) : Bool := lv.all fun q => !(Nat.beq q.1 i) && !(Nat.beq q.1 (i + 1)) && !(Nat.beq (q.1 + 1) i && Nat.beq q.2.category 2)
theorem nb_eq (a b : Nat) : Nat.beq a b = (a == b) := by
  by_cases h : a = b
  · subst h; simp
  · have : Nat.beq a b = false := by
      cases q : Nat.beq a b with
      | false => rfl
      | true => exact absurd (Nat.eq_of_beq_eq_true q) h
    simp [this, h]
theorem okS_at {lv : List (Nat × Value)} {i : Nat} (h : okS lv i = true) {q : Nat × Value} (hq : q ∈ lv) : (!(q.1 == i) && !(q.1 + 1 == i && q.2.category == 2)) = true := by
  have h1 := List.all_eq_true.mp h q hq
  simp only [nb_eq] at h1
  exact h1
theorem okL_at {lv : List (Nat × Value)} {i : Nat} (h : okL lv i = true) {q : Nat × Value} (hq : q ∈ lv) : (!(q.1 == i) && (!(q.1 == i + 1) && !(q.1 + 1 == i && q.2.category == 2))) = true := by
  have h1 := List.all_eq_true.mp h q hq
  simp only [nb_eq, Bool.and_assoc] at h1
  exact h1
/-- what is kept of the locals behind a store at i: any lv' whose entries are the new one, or old ones that it doesn't touch -/
theorem st1 {ls' : Array Slot} {nL i : Nat} {v : Value} {lv lv' : List (Nat × Value)} (h : lv_has ls' nL ((i, v) :: lv.filter (fun q => !(q.1 == i) && !(q.1 + 1 == i && q.2.category == 2)))) (hs : ∀ q ∈ lv', q = (i, v) ∨ (q ∈ lv ∧ (!(q.1 == i) && !(q.1 + 1 == i && q.2.category == 2)) = true)) : lv_has ls' nL lv' := by
  refine ⟨h.1, h.2.1, fun q hq => h.2.2 q ?_⟩
  rcases hs q hq with e | ⟨e1, e2⟩
  · rw [e]; exact List.mem_cons_self
  · exact List.mem_cons_of_mem _ (List.mem_filter.mpr ⟨e1, e2⟩)
theorem st2 {ls' : Array Slot} {nL i : Nat} {v : Value} {lv lv' : List (Nat × Value)} (h : lv_has ls' nL ((i, v) :: lv.filter (fun q => !(q.1 == i) && (!(q.1 == i + 1) && !(q.1 + 1 == i && q.2.category == 2))))) (hs : ∀ q ∈ lv', q = (i, v) ∨ (q ∈ lv ∧ (!(q.1 == i) && (!(q.1 == i + 1) && !(q.1 + 1 == i && q.2.category == 2))) = true)) : lv_has ls' nL lv' := by
  refine ⟨h.1, h.2.1, fun q hq => h.2.2 q ?_⟩
  rcases hs q hq with e | ⟨e1, e2⟩
  · rw [e]; exact List.mem_cons_self
  · exact List.mem_cons_of_mem _ (List.mem_filter.mpr ⟨e1, e2⟩)
theorem st_new {i : Nat} {v : Value} {lv : List (Nat × Value)} (ho : okS lv i = true) : ∀ q ∈ (i, v) :: lv, q = (i, v) ∨ (q ∈ lv ∧ (!(q.1 == i) && !(q.1 + 1 == i && q.2.category == 2)) = true) := fun q hq => (List.mem_cons.mp hq).elim Or.inl fun h => Or.inr ⟨h, okS_at ho h⟩
theorem stl_new {i : Nat} {v : Value} {lv : List (Nat × Value)} (ho : okL lv i = true) : ∀ q ∈ (i, v) :: lv, q = (i, v) ∨ (q ∈ lv ∧ (!(q.1 == i) && (!(q.1 == i + 1) && !(q.1 + 1 == i && q.2.category == 2))) = true) := fun q hq => (List.mem_cons.mp hq).elim Or.inl fun h => Or.inr ⟨h, okL_at ho h⟩
theorem st_mid {i : Nat} {v w : Value} {a b : List (Nat × Value)} (ho : (okS a i && okS b i) = true) : ∀ q ∈ a ++ (i, v) :: b, q = (i, v) ∨ (q ∈ a ++ (i, w) :: b ∧ (!(q.1 == i) && !(q.1 + 1 == i && q.2.category == 2)) = true) := by
  simp only [Bool.and_eq_true] at ho
  intro q hq
  rcases List.mem_append.mp hq with h | h
  · exact Or.inr ⟨List.mem_append_left _ h, okS_at ho.1 h⟩
  · rcases List.mem_cons.mp h with h | h
    · exact Or.inl h
    · exact Or.inr ⟨List.mem_append_right _ (List.mem_cons_of_mem _ h), okS_at ho.2 h⟩
theorem stl_mid {i : Nat} {v w : Value} {a b : List (Nat × Value)} (ho : (okL a i && okL b i) = true) : ∀ q ∈ a ++ (i, v) :: b, q = (i, v) ∨ (q ∈ a ++ (i, w) :: b ∧ (!(q.1 == i) && (!(q.1 == i + 1) && !(q.1 + 1 == i && q.2.category == 2))) = true) := by
  simp only [Bool.and_eq_true] at ho
  intro q hq
  rcases List.mem_append.mp hq with h | h
  · exact Or.inr ⟨List.mem_append_left _ h, okL_at ho.1 h⟩
  · rcases List.mem_cons.mp h with h | h
    · exact Or.inl h
    · exact Or.inr ⟨List.mem_append_right _ (List.mem_cons_of_mem _ h), okL_at ho.2 h⟩
theorem Go.istore_new (X : Cx Γ g nL cc own Ts) {i : Nat} {x : Int32} (hd : decode cc pc = .ok (.istore i, 2)) (hn : i < nL) (ho : okS lv i = true) (kk : Go Γ g nL R k n M (pc + 2) ((i, Value.int x) :: lv) st) : Go Γ g nL R k n M pc lv (Value.int x :: st) := by
  obtain ⟨p, l, e, s, m, args, below, meth, c, A, Q⟩ := Γ
  obtain ⟨hx, hb, hml, hown, hts, hK, hA, hE⟩ := X
  intro H locs ls hP hD hS hl
  exact lv_istore hx hb hd hl hn rfl (fun ls' hl' => kk H locs ls' hP hD hS (st1 hl' (st_new ho)))
theorem Go.istore_0 (X : Cx Γ g nL cc own Ts) {r : List (Nat × Value)} {w : Value} {i : Nat} {x : Int32} (hd : decode cc pc = .ok (.istore i, 2)) (hn : i < nL) (ho : (okS [] i && okS r i) = true) (kk : Go Γ g nL R k n M (pc + 2) ((i, Value.int x) :: r) st) : Go Γ g nL R k n M pc ((i, w) :: r) (Value.int x :: st) := by
  obtain ⟨p, l, e, s, m, args, below, meth, c, A, Q⟩ := Γ
  obtain ⟨hx, hb, hml, hown, hts, hK, hA, hE⟩ := X
  intro H locs ls hP hD hS hl
  exact lv_istore hx hb hd hl hn rfl (fun ls' hl' => kk H locs ls' hP hD hS (st1 hl' (st_mid (a := []) (w := w) ho)))
theorem Go.istore_1 (X : Cx Γ g nL cc own Ts) {a0 : Nat × Value} {r : List (Nat × Value)} {w : Value} {i : Nat} {x : Int32} (hd : decode cc pc = .ok (.istore i, 2)) (hn : i < nL) (ho : (okS [a0] i && okS r i) = true) (kk : Go Γ g nL R k n M (pc + 2) (a0 :: (i, Value.int x) :: r) st) : Go Γ g nL R k n M pc (a0 :: (i, w) :: r) (Value.int x :: st) := by
  obtain ⟨p, l, e, s, m, args, below, meth, c, A, Q⟩ := Γ
  obtain ⟨hx, hb, hml, hown, hts, hK, hA, hE⟩ := X
  intro H locs ls hP hD hS hl
  exact lv_istore hx hb hd hl hn rfl (fun ls' hl' => kk H locs ls' hP hD hS (st1 hl' (st_mid (a := [a0]) (w := w) ho)))
theorem Go.istore_2 (X : Cx Γ g nL cc own Ts) {a0 a1 : Nat × Value} {r : List (Nat × Value)} {w : Value} {i : Nat} {x : Int32} (hd : decode cc pc = .ok (.istore i, 2)) (hn : i < nL) (ho : (okS [a0, a1] i && okS r i) = true) (kk : Go Γ g nL R k n M (pc + 2) (a0 :: a1 :: (i, Value.int x) :: r) st) : Go Γ g nL R k n M pc (a0 :: a1 :: (i, w) :: r) (Value.int x :: st) := by
  obtain ⟨p, l, e, s, m, args, below, meth, c, A, Q⟩ := Γ
  obtain ⟨hx, hb, hml, hown, hts, hK, hA, hE⟩ := X
  intro H locs ls hP hD hS hl
  exact lv_istore hx hb hd hl hn rfl (fun ls' hl' => kk H locs ls' hP hD hS (st1 hl' (st_mid (a := [a0, a1]) (w := w) ho)))
theorem Go.istore_3 (X : Cx Γ g nL cc own Ts) {a0 a1 a2 : Nat × Value} {r : List (Nat × Value)} {w : Value} {i : Nat} {x : Int32} (hd : decode cc pc = .ok (.istore i, 2)) (hn : i < nL) (ho : (okS [a0, a1, a2] i && okS r i) = true) (kk : Go Γ g nL R k n M (pc + 2) (a0 :: a1 :: a2 :: (i, Value.int x) :: r) st) : Go Γ g nL R k n M pc (a0 :: a1 :: a2 :: (i, w) :: r) (Value.int x :: st) := by
  obtain ⟨p, l, e, s, m, args, below, meth, c, A, Q⟩ := Γ
  obtain ⟨hx, hb, hml, hown, hts, hK, hA, hE⟩ := X
  intro H locs ls hP hD hS hl
  exact lv_istore hx hb hd hl hn rfl (fun ls' hl' => kk H locs ls' hP hD hS (st1 hl' (st_mid (a := [a0, a1, a2]) (w := w) ho)))
theorem Go.istore_4 (X : Cx Γ g nL cc own Ts) {a0 a1 a2 a3 : Nat × Value} {r : List (Nat × Value)} {w : Value} {i : Nat} {x : Int32} (hd : decode cc pc = .ok (.istore i, 2)) (hn : i < nL) (ho : (okS [a0, a1, a2, a3] i && okS r i) = true) (kk : Go Γ g nL R k n M (pc + 2) (a0 :: a1 :: a2 :: a3 :: (i, Value.int x) :: r) st) : Go Γ g nL R k n M pc (a0 :: a1 :: a2 :: a3 :: (i, w) :: r) (Value.int x :: st) := by
  obtain ⟨p, l, e, s, m, args, below, meth, c, A, Q⟩ := Γ
  obtain ⟨hx, hb, hml, hown, hts, hK, hA, hE⟩ := X
  intro H locs ls hP hD hS hl
  exact lv_istore hx hb hd hl hn rfl (fun ls' hl' => kk H locs ls' hP hD hS (st1 hl' (st_mid (a := [a0, a1, a2, a3]) (w := w) ho)))
theorem Go.istore_5 (X : Cx Γ g nL cc own Ts) {a0 a1 a2 a3 a4 : Nat × Value} {r : List (Nat × Value)} {w : Value} {i : Nat} {x : Int32} (hd : decode cc pc = .ok (.istore i, 2)) (hn : i < nL) (ho : (okS [a0, a1, a2, a3, a4] i && okS r i) = true) (kk : Go Γ g nL R k n M (pc + 2) (a0 :: a1 :: a2 :: a3 :: a4 :: (i, Value.int x) :: r) st) : Go Γ g nL R k n M pc (a0 :: a1 :: a2 :: a3 :: a4 :: (i, w) :: r) (Value.int x :: st) := by
  obtain ⟨p, l, e, s, m, args, below, meth, c, A, Q⟩ := Γ
  obtain ⟨hx, hb, hml, hown, hts, hK, hA, hE⟩ := X
  intro H locs ls hP hD hS hl
  exact lv_istore hx hb hd hl hn rfl (fun ls' hl' => kk H locs ls' hP hD hS (st1 hl' (st_mid (a := [a0, a1, a2, a3, a4]) (w := w) ho)))
theorem Go.istore_6 (X : Cx Γ g nL cc own Ts) {a0 a1 a2 a3 a4 a5 : Nat × Value} {r : List (Nat × Value)} {w : Value} {i : Nat} {x : Int32} (hd : decode cc pc = .ok (.istore i, 2)) (hn : i < nL) (ho : (okS [a0, a1, a2, a3, a4, a5] i && okS r i) = true) (kk : Go Γ g nL R k n M (pc + 2) (a0 :: a1 :: a2 :: a3 :: a4 :: a5 :: (i, Value.int x) :: r) st) : Go Γ g nL R k n M pc (a0 :: a1 :: a2 :: a3 :: a4 :: a5 :: (i, w) :: r) (Value.int x :: st) := by
  obtain ⟨p, l, e, s, m, args, below, meth, c, A, Q⟩ := Γ
  obtain ⟨hx, hb, hml, hown, hts, hK, hA, hE⟩ := X
  intro H locs ls hP hD hS hl
  exact lv_istore hx hb hd hl hn rfl (fun ls' hl' => kk H locs ls' hP hD hS (st1 hl' (st_mid (a := [a0, a1, a2, a3, a4, a5]) (w := w) ho)))
theorem Go.istore_7 (X : Cx Γ g nL cc own Ts) {a0 a1 a2 a3 a4 a5 a6 : Nat × Value} {r : List (Nat × Value)} {w : Value} {i : Nat} {x : Int32} (hd : decode cc pc = .ok (.istore i, 2)) (hn : i < nL) (ho : (okS [a0, a1, a2, a3, a4, a5, a6] i && okS r i) = true) (kk : Go Γ g nL R k n M (pc + 2) (a0 :: a1 :: a2 :: a3 :: a4 :: a5 :: a6 :: (i, Value.int x) :: r) st) : Go Γ g nL R k n M pc (a0 :: a1 :: a2 :: a3 :: a4 :: a5 :: a6 :: (i, w) :: r) (Value.int x :: st) := by
  obtain ⟨p, l, e, s, m, args, below, meth, c, A, Q⟩ := Γ
  obtain ⟨hx, hb, hml, hown, hts, hK, hA, hE⟩ := X
  intro H locs ls hP hD hS hl
  exact lv_istore hx hb hd hl hn rfl (fun ls' hl' => kk H locs ls' hP hD hS (st1 hl' (st_mid (a := [a0, a1, a2, a3, a4, a5, a6]) (w := w) ho)))
theorem Go.istore_8 (X : Cx Γ g nL cc own Ts) {a0 a1 a2 a3 a4 a5 a6 a7 : Nat × Value} {r : List (Nat × Value)} {w : Value} {i : Nat} {x : Int32} (hd : decode cc pc = .ok (.istore i, 2)) (hn : i < nL) (ho : (okS [a0, a1, a2, a3, a4, a5, a6, a7] i && okS r i) = true) (kk : Go Γ g nL R k n M (pc + 2) (a0 :: a1 :: a2 :: a3 :: a4 :: a5 :: a6 :: a7 :: (i, Value.int x) :: r) st) : Go Γ g nL R k n M pc (a0 :: a1 :: a2 :: a3 :: a4 :: a5 :: a6 :: a7 :: (i, w) :: r) (Value.int x :: st) := by
  obtain ⟨p, l, e, s, m, args, below, meth, c, A, Q⟩ := Γ
  obtain ⟨hx, hb, hml, hown, hts, hK, hA, hE⟩ := X
  intro H locs ls hP hD hS hl
  exact lv_istore hx hb hd hl hn rfl (fun ls' hl' => kk H locs ls' hP hD hS (st1 hl' (st_mid (a := [a0, a1, a2, a3, a4, a5, a6, a7]) (w := w) ho)))
theorem Go.istore_9 (X : Cx Γ g nL cc own Ts) {a0 a1 a2 a3 a4 a5 a6 a7 a8 : Nat × Value} {r : List (Nat × Value)} {w : Value} {i : Nat} {x : Int32} (hd : decode cc pc = .ok (.istore i, 2)) (hn : i < nL) (ho : (okS [a0, a1, a2, a3, a4, a5, a6, a7, a8] i && okS r i) = true) (kk : Go Γ g nL R k n M (pc + 2) (a0 :: a1 :: a2 :: a3 :: a4 :: a5 :: a6 :: a7 :: a8 :: (i, Value.int x) :: r) st) : Go Γ g nL R k n M pc (a0 :: a1 :: a2 :: a3 :: a4 :: a5 :: a6 :: a7 :: a8 :: (i, w) :: r) (Value.int x :: st) := by
  obtain ⟨p, l, e, s, m, args, below, meth, c, A, Q⟩ := Γ
  obtain ⟨hx, hb, hml, hown, hts, hK, hA, hE⟩ := X
  intro H locs ls hP hD hS hl
  exact lv_istore hx hb hd hl hn rfl (fun ls' hl' => kk H locs ls' hP hD hS (st1 hl' (st_mid (a := [a0, a1, a2, a3, a4, a5, a6, a7, a8]) (w := w) ho)))
theorem Go.istore_n_new (X : Cx Γ g nL cc own Ts) {z : Fin 4} {x : Int32} (hd : decode cc pc = .ok (.istore_n z, 1)) (hn : (z : Nat) < nL) (ho : okS lv (z : Nat) = true) (kk : Go Γ g nL R k n M (pc + 1) (((z : Nat), Value.int x) :: lv) st) : Go Γ g nL R k n M pc lv (Value.int x :: st) := by
  obtain ⟨p, l, e, s, m, args, below, meth, c, A, Q⟩ := Γ
  obtain ⟨hx, hb, hml, hown, hts, hK, hA, hE⟩ := X
  intro H locs ls hP hD hS hl
  exact lv_istore_n hx hb hd rfl hl hn rfl (fun ls' hl' => kk H locs ls' hP hD hS (st1 hl' (st_new ho)))
theorem Go.istore_n_0 (X : Cx Γ g nL cc own Ts) {r : List (Nat × Value)} {w : Value} {z : Fin 4} {x : Int32} (hd : decode cc pc = .ok (.istore_n z, 1)) (hn : (z : Nat) < nL) (ho : (okS [] (z : Nat) && okS r (z : Nat)) = true) (kk : Go Γ g nL R k n M (pc + 1) (((z : Nat), Value.int x) :: r) st) : Go Γ g nL R k n M pc (((z : Nat), w) :: r) (Value.int x :: st) := by
  obtain ⟨p, l, e, s, m, args, below, meth, c, A, Q⟩ := Γ
  obtain ⟨hx, hb, hml, hown, hts, hK, hA, hE⟩ := X
  intro H locs ls hP hD hS hl
  exact lv_istore_n hx hb hd rfl hl hn rfl (fun ls' hl' => kk H locs ls' hP hD hS (st1 hl' (st_mid (a := []) (w := w) ho)))
theorem Go.istore_n_1 (X : Cx Γ g nL cc own Ts) {a0 : Nat × Value} {r : List (Nat × Value)} {w : Value} {z : Fin 4} {x : Int32} (hd : decode cc pc = .ok (.istore_n z, 1)) (hn : (z : Nat) < nL) (ho : (okS [a0] (z : Nat) && okS r (z : Nat)) = true) (kk : Go Γ g nL R k n M (pc + 1) (a0 :: ((z : Nat), Value.int x) :: r) st) : Go Γ g nL R k n M pc (a0 :: ((z : Nat), w) :: r) (Value.int x :: st) := by
  obtain ⟨p, l, e, s, m, args, below, meth, c, A, Q⟩ := Γ
  obtain ⟨hx, hb, hml, hown, hts, hK, hA, hE⟩ := X
  intro H locs ls hP hD hS hl
  exact lv_istore_n hx hb hd rfl hl hn rfl (fun ls' hl' => kk H locs ls' hP hD hS (st1 hl' (st_mid (a := [a0]) (w := w) ho)))
theorem Go.istore_n_2 (X : Cx Γ g nL cc own Ts) {a0 a1 : Nat × Value} {r : List (Nat × Value)} {w : Value} {z : Fin 4} {x : Int32} (hd : decode cc pc = .ok (.istore_n z, 1)) (hn : (z : Nat) < nL) (ho : (okS [a0, a1] (z : Nat) && okS r (z : Nat)) = true) (kk : Go Γ g nL R k n M (pc + 1) (a0 :: a1 :: ((z : Nat), Value.int x) :: r) st) : Go Γ g nL R k n M pc (a0 :: a1 :: ((z : Nat), w) :: r) (Value.int x :: st) := by
  obtain ⟨p, l, e, s, m, args, below, meth, c, A, Q⟩ := Γ
  obtain ⟨hx, hb, hml, hown, hts, hK, hA, hE⟩ := X
  intro H locs ls hP hD hS hl
  exact lv_istore_n hx hb hd rfl hl hn rfl (fun ls' hl' => kk H locs ls' hP hD hS (st1 hl' (st_mid (a := [a0, a1]) (w := w) ho)))
theorem Go.istore_n_3 (X : Cx Γ g nL cc own Ts) {a0 a1 a2 : Nat × Value} {r : List (Nat × Value)} {w : Value} {z : Fin 4} {x : Int32} (hd : decode cc pc = .ok (.istore_n z, 1)) (hn : (z : Nat) < nL) (ho : (okS [a0, a1, a2] (z : Nat) && okS r (z : Nat)) = true) (kk : Go Γ g nL R k n M (pc + 1) (a0 :: a1 :: a2 :: ((z : Nat), Value.int x) :: r) st) : Go Γ g nL R k n M pc (a0 :: a1 :: a2 :: ((z : Nat), w) :: r) (Value.int x :: st) := by
  obtain ⟨p, l, e, s, m, args, below, meth, c, A, Q⟩ := Γ
  obtain ⟨hx, hb, hml, hown, hts, hK, hA, hE⟩ := X
  intro H locs ls hP hD hS hl
  exact lv_istore_n hx hb hd rfl hl hn rfl (fun ls' hl' => kk H locs ls' hP hD hS (st1 hl' (st_mid (a := [a0, a1, a2]) (w := w) ho)))
theorem Go.istore_n_4 (X : Cx Γ g nL cc own Ts) {a0 a1 a2 a3 : Nat × Value} {r : List (Nat × Value)} {w : Value} {z : Fin 4} {x : Int32} (hd : decode cc pc = .ok (.istore_n z, 1)) (hn : (z : Nat) < nL) (ho : (okS [a0, a1, a2, a3] (z : Nat) && okS r (z : Nat)) = true) (kk : Go Γ g nL R k n M (pc + 1) (a0 :: a1 :: a2 :: a3 :: ((z : Nat), Value.int x) :: r) st) : Go Γ g nL R k n M pc (a0 :: a1 :: a2 :: a3 :: ((z : Nat), w) :: r) (Value.int x :: st) := by
  obtain ⟨p, l, e, s, m, args, below, meth, c, A, Q⟩ := Γ
  obtain ⟨hx, hb, hml, hown, hts, hK, hA, hE⟩ := X
  intro H locs ls hP hD hS hl
  exact lv_istore_n hx hb hd rfl hl hn rfl (fun ls' hl' => kk H locs ls' hP hD hS (st1 hl' (st_mid (a := [a0, a1, a2, a3]) (w := w) ho)))
theorem Go.istore_n_5 (X : Cx Γ g nL cc own Ts) {a0 a1 a2 a3 a4 : Nat × Value} {r : List (Nat × Value)} {w : Value} {z : Fin 4} {x : Int32} (hd : decode cc pc = .ok (.istore_n z, 1)) (hn : (z : Nat) < nL) (ho : (okS [a0, a1, a2, a3, a4] (z : Nat) && okS r (z : Nat)) = true) (kk : Go Γ g nL R k n M (pc + 1) (a0 :: a1 :: a2 :: a3 :: a4 :: ((z : Nat), Value.int x) :: r) st) : Go Γ g nL R k n M pc (a0 :: a1 :: a2 :: a3 :: a4 :: ((z : Nat), w) :: r) (Value.int x :: st) := by
  obtain ⟨p, l, e, s, m, args, below, meth, c, A, Q⟩ := Γ
  obtain ⟨hx, hb, hml, hown, hts, hK, hA, hE⟩ := X
  intro H locs ls hP hD hS hl
  exact lv_istore_n hx hb hd rfl hl hn rfl (fun ls' hl' => kk H locs ls' hP hD hS (st1 hl' (st_mid (a := [a0, a1, a2, a3, a4]) (w := w) ho)))
theorem Go.istore_n_6 (X : Cx Γ g nL cc own Ts) {a0 a1 a2 a3 a4 a5 : Nat × Value} {r : List (Nat × Value)} {w : Value} {z : Fin 4} {x : Int32} (hd : decode cc pc = .ok (.istore_n z, 1)) (hn : (z : Nat) < nL) (ho : (okS [a0, a1, a2, a3, a4, a5] (z : Nat) && okS r (z : Nat)) = true) (kk : Go Γ g nL R k n M (pc + 1) (a0 :: a1 :: a2 :: a3 :: a4 :: a5 :: ((z : Nat), Value.int x) :: r) st) : Go Γ g nL R k n M pc (a0 :: a1 :: a2 :: a3 :: a4 :: a5 :: ((z : Nat), w) :: r) (Value.int x :: st) := by
  obtain ⟨p, l, e, s, m, args, below, meth, c, A, Q⟩ := Γ
  obtain ⟨hx, hb, hml, hown, hts, hK, hA, hE⟩ := X
  intro H locs ls hP hD hS hl
  exact lv_istore_n hx hb hd rfl hl hn rfl (fun ls' hl' => kk H locs ls' hP hD hS (st1 hl' (st_mid (a := [a0, a1, a2, a3, a4, a5]) (w := w) ho)))
theorem Go.istore_n_7 (X : Cx Γ g nL cc own Ts) {a0 a1 a2 a3 a4 a5 a6 : Nat × Value} {r : List (Nat × Value)} {w : Value} {z : Fin 4} {x : Int32} (hd : decode cc pc = .ok (.istore_n z, 1)) (hn : (z : Nat) < nL) (ho : (okS [a0, a1, a2, a3, a4, a5, a6] (z : Nat) && okS r (z : Nat)) = true) (kk : Go Γ g nL R k n M (pc + 1) (a0 :: a1 :: a2 :: a3 :: a4 :: a5 :: a6 :: ((z : Nat), Value.int x) :: r) st) : Go Γ g nL R k n M pc (a0 :: a1 :: a2 :: a3 :: a4 :: a5 :: a6 :: ((z : Nat), w) :: r) (Value.int x :: st) := by
  obtain ⟨p, l, e, s, m, args, below, meth, c, A, Q⟩ := Γ
  obtain ⟨hx, hb, hml, hown, hts, hK, hA, hE⟩ := X
  intro H locs ls hP hD hS hl
  exact lv_istore_n hx hb hd rfl hl hn rfl (fun ls' hl' => kk H locs ls' hP hD hS (st1 hl' (st_mid (a := [a0, a1, a2, a3, a4, a5, a6]) (w := w) ho)))
theorem Go.istore_n_8 (X : Cx Γ g nL cc own Ts) {a0 a1 a2 a3 a4 a5 a6 a7 : Nat × Value} {r : List (Nat × Value)} {w : Value} {z : Fin 4} {x : Int32} (hd : decode cc pc = .ok (.istore_n z, 1)) (hn : (z : Nat) < nL) (ho : (okS [a0, a1, a2, a3, a4, a5, a6, a7] (z : Nat) && okS r (z : Nat)) = true) (kk : Go Γ g nL R k n M (pc + 1) (a0 :: a1 :: a2 :: a3 :: a4 :: a5 :: a6 :: a7 :: ((z : Nat), Value.int x) :: r) st) : Go Γ g nL R k n M pc (a0 :: a1 :: a2 :: a3 :: a4 :: a5 :: a6 :: a7 :: ((z : Nat), w) :: r) (Value.int x :: st) := by
  obtain ⟨p, l, e, s, m, args, below, meth, c, A, Q⟩ := Γ
  obtain ⟨hx, hb, hml, hown, hts, hK, hA, hE⟩ := X
  intro H locs ls hP hD hS hl
  exact lv_istore_n hx hb hd rfl hl hn rfl (fun ls' hl' => kk H locs ls' hP hD hS (st1 hl' (st_mid (a := [a0, a1, a2, a3, a4, a5, a6, a7]) (w := w) ho)))
theorem Go.istore_n_9 (X : Cx Γ g nL cc own Ts) {a0 a1 a2 a3 a4 a5 a6 a7 a8 : Nat × Value} {r : List (Nat × Value)} {w : Value} {z : Fin 4} {x : Int32} (hd : decode cc pc = .ok (.istore_n z, 1)) (hn : (z : Nat) < nL) (ho : (okS [a0, a1, a2, a3, a4, a5, a6, a7, a8] (z : Nat) && okS r (z : Nat)) = true) (kk : Go Γ g nL R k n M (pc + 1) (a0 :: a1 :: a2 :: a3 :: a4 :: a5 :: a6 :: a7 :: a8 :: ((z : Nat), Value.int x) :: r) st) : Go Γ g nL R k n M pc (a0 :: a1 :: a2 :: a3 :: a4 :: a5 :: a6 :: a7 :: a8 :: ((z : Nat), w) :: r) (Value.int x :: st) := by
  obtain ⟨p, l, e, s, m, args, below, meth, c, A, Q⟩ := Γ
  obtain ⟨hx, hb, hml, hown, hts, hK, hA, hE⟩ := X
  intro H locs ls hP hD hS hl
  exact lv_istore_n hx hb hd rfl hl hn rfl (fun ls' hl' => kk H locs ls' hP hD hS (st1 hl' (st_mid (a := [a0, a1, a2, a3, a4, a5, a6, a7, a8]) (w := w) ho)))
theorem Go.lstore_new (X : Cx Γ g nL cc own Ts) {i : Nat} {x : Int64} (hd : decode cc pc = .ok (.lstore i, 2)) (hn : i + 1 < nL) (ho : okL lv i = true) (kk : Go Γ g nL R k n M (pc + 2) ((i, Value.long x) :: lv) st) : Go Γ g nL R k n M pc lv (Value.long x :: st) := by
  obtain ⟨p, l, e, s, m, args, below, meth, c, A, Q⟩ := Γ
  obtain ⟨hx, hb, hml, hown, hts, hK, hA, hE⟩ := X
  intro H locs ls hP hD hS hl
  exact lv_lstore hx hb hd hl hn rfl (fun ls' hl' => kk H locs ls' hP hD hS (st2 hl' (stl_new ho)))
theorem Go.lstore_0 (X : Cx Γ g nL cc own Ts) {r : List (Nat × Value)} {w : Value} {i : Nat} {x : Int64} (hd : decode cc pc = .ok (.lstore i, 2)) (hn : i + 1 < nL) (ho : (okL [] i && okL r i) = true) (kk : Go Γ g nL R k n M (pc + 2) ((i, Value.long x) :: r) st) : Go Γ g nL R k n M pc ((i, w) :: r) (Value.long x :: st) := by
  obtain ⟨p, l, e, s, m, args, below, meth, c, A, Q⟩ := Γ
  obtain ⟨hx, hb, hml, hown, hts, hK, hA, hE⟩ := X
  intro H locs ls hP hD hS hl
  exact lv_lstore hx hb hd hl hn rfl (fun ls' hl' => kk H locs ls' hP hD hS (st2 hl' (stl_mid (a := []) (w := w) ho)))
theorem Go.lstore_1 (X : Cx Γ g nL cc own Ts) {a0 : Nat × Value} {r : List (Nat × Value)} {w : Value} {i : Nat} {x : Int64} (hd : decode cc pc = .ok (.lstore i, 2)) (hn : i + 1 < nL) (ho : (okL [a0] i && okL r i) = true) (kk : Go Γ g nL R k n M (pc + 2) (a0 :: (i, Value.long x) :: r) st) : Go Γ g nL R k n M pc (a0 :: (i, w) :: r) (Value.long x :: st) := by
  obtain ⟨p, l, e, s, m, args, below, meth, c, A, Q⟩ := Γ
  obtain ⟨hx, hb, hml, hown, hts, hK, hA, hE⟩ := X
  intro H locs ls hP hD hS hl
  exact lv_lstore hx hb hd hl hn rfl (fun ls' hl' => kk H locs ls' hP hD hS (st2 hl' (stl_mid (a := [a0]) (w := w) ho)))
theorem Go.lstore_2 (X : Cx Γ g nL cc own Ts) {a0 a1 : Nat × Value} {r : List (Nat × Value)} {w : Value} {i : Nat} {x : Int64} (hd : decode cc pc = .ok (.lstore i, 2)) (hn : i + 1 < nL) (ho : (okL [a0, a1] i && okL r i) = true) (kk : Go Γ g nL R k n M (pc + 2) (a0 :: a1 :: (i, Value.long x) :: r) st) : Go Γ g nL R k n M pc (a0 :: a1 :: (i, w) :: r) (Value.long x :: st) := by
  obtain ⟨p, l, e, s, m, args, below, meth, c, A, Q⟩ := Γ
  obtain ⟨hx, hb, hml, hown, hts, hK, hA, hE⟩ := X
  intro H locs ls hP hD hS hl
  exact lv_lstore hx hb hd hl hn rfl (fun ls' hl' => kk H locs ls' hP hD hS (st2 hl' (stl_mid (a := [a0, a1]) (w := w) ho)))
theorem Go.lstore_3 (X : Cx Γ g nL cc own Ts) {a0 a1 a2 : Nat × Value} {r : List (Nat × Value)} {w : Value} {i : Nat} {x : Int64} (hd : decode cc pc = .ok (.lstore i, 2)) (hn : i + 1 < nL) (ho : (okL [a0, a1, a2] i && okL r i) = true) (kk : Go Γ g nL R k n M (pc + 2) (a0 :: a1 :: a2 :: (i, Value.long x) :: r) st) : Go Γ g nL R k n M pc (a0 :: a1 :: a2 :: (i, w) :: r) (Value.long x :: st) := by
  obtain ⟨p, l, e, s, m, args, below, meth, c, A, Q⟩ := Γ
  obtain ⟨hx, hb, hml, hown, hts, hK, hA, hE⟩ := X
  intro H locs ls hP hD hS hl
  exact lv_lstore hx hb hd hl hn rfl (fun ls' hl' => kk H locs ls' hP hD hS (st2 hl' (stl_mid (a := [a0, a1, a2]) (w := w) ho)))
theorem Go.lstore_4 (X : Cx Γ g nL cc own Ts) {a0 a1 a2 a3 : Nat × Value} {r : List (Nat × Value)} {w : Value} {i : Nat} {x : Int64} (hd : decode cc pc = .ok (.lstore i, 2)) (hn : i + 1 < nL) (ho : (okL [a0, a1, a2, a3] i && okL r i) = true) (kk : Go Γ g nL R k n M (pc + 2) (a0 :: a1 :: a2 :: a3 :: (i, Value.long x) :: r) st) : Go Γ g nL R k n M pc (a0 :: a1 :: a2 :: a3 :: (i, w) :: r) (Value.long x :: st) := by
  obtain ⟨p, l, e, s, m, args, below, meth, c, A, Q⟩ := Γ
  obtain ⟨hx, hb, hml, hown, hts, hK, hA, hE⟩ := X
  intro H locs ls hP hD hS hl
  exact lv_lstore hx hb hd hl hn rfl (fun ls' hl' => kk H locs ls' hP hD hS (st2 hl' (stl_mid (a := [a0, a1, a2, a3]) (w := w) ho)))
theorem Go.lstore_5 (X : Cx Γ g nL cc own Ts) {a0 a1 a2 a3 a4 : Nat × Value} {r : List (Nat × Value)} {w : Value} {i : Nat} {x : Int64} (hd : decode cc pc = .ok (.lstore i, 2)) (hn : i + 1 < nL) (ho : (okL [a0, a1, a2, a3, a4] i && okL r i) = true) (kk : Go Γ g nL R k n M (pc + 2) (a0 :: a1 :: a2 :: a3 :: a4 :: (i, Value.long x) :: r) st) : Go Γ g nL R k n M pc (a0 :: a1 :: a2 :: a3 :: a4 :: (i, w) :: r) (Value.long x :: st) := by
  obtain ⟨p, l, e, s, m, args, below, meth, c, A, Q⟩ := Γ
  obtain ⟨hx, hb, hml, hown, hts, hK, hA, hE⟩ := X
  intro H locs ls hP hD hS hl
  exact lv_lstore hx hb hd hl hn rfl (fun ls' hl' => kk H locs ls' hP hD hS (st2 hl' (stl_mid (a := [a0, a1, a2, a3, a4]) (w := w) ho)))
theorem Go.lstore_6 (X : Cx Γ g nL cc own Ts) {a0 a1 a2 a3 a4 a5 : Nat × Value} {r : List (Nat × Value)} {w : Value} {i : Nat} {x : Int64} (hd : decode cc pc = .ok (.lstore i, 2)) (hn : i + 1 < nL) (ho : (okL [a0, a1, a2, a3, a4, a5] i && okL r i) = true) (kk : Go Γ g nL R k n M (pc + 2) (a0 :: a1 :: a2 :: a3 :: a4 :: a5 :: (i, Value.long x) :: r) st) : Go Γ g nL R k n M pc (a0 :: a1 :: a2 :: a3 :: a4 :: a5 :: (i, w) :: r) (Value.long x :: st) := by
  obtain ⟨p, l, e, s, m, args, below, meth, c, A, Q⟩ := Γ
  obtain ⟨hx, hb, hml, hown, hts, hK, hA, hE⟩ := X
  intro H locs ls hP hD hS hl
  exact lv_lstore hx hb hd hl hn rfl (fun ls' hl' => kk H locs ls' hP hD hS (st2 hl' (stl_mid (a := [a0, a1, a2, a3, a4, a5]) (w := w) ho)))
theorem Go.lstore_7 (X : Cx Γ g nL cc own Ts) {a0 a1 a2 a3 a4 a5 a6 : Nat × Value} {r : List (Nat × Value)} {w : Value} {i : Nat} {x : Int64} (hd : decode cc pc = .ok (.lstore i, 2)) (hn : i + 1 < nL) (ho : (okL [a0, a1, a2, a3, a4, a5, a6] i && okL r i) = true) (kk : Go Γ g nL R k n M (pc + 2) (a0 :: a1 :: a2 :: a3 :: a4 :: a5 :: a6 :: (i, Value.long x) :: r) st) : Go Γ g nL R k n M pc (a0 :: a1 :: a2 :: a3 :: a4 :: a5 :: a6 :: (i, w) :: r) (Value.long x :: st) := by
  obtain ⟨p, l, e, s, m, args, below, meth, c, A, Q⟩ := Γ
  obtain ⟨hx, hb, hml, hown, hts, hK, hA, hE⟩ := X
  intro H locs ls hP hD hS hl
  exact lv_lstore hx hb hd hl hn rfl (fun ls' hl' => kk H locs ls' hP hD hS (st2 hl' (stl_mid (a := [a0, a1, a2, a3, a4, a5, a6]) (w := w) ho)))
theorem Go.lstore_8 (X : Cx Γ g nL cc own Ts) {a0 a1 a2 a3 a4 a5 a6 a7 : Nat × Value} {r : List (Nat × Value)} {w : Value} {i : Nat} {x : Int64} (hd : decode cc pc = .ok (.lstore i, 2)) (hn : i + 1 < nL) (ho : (okL [a0, a1, a2, a3, a4, a5, a6, a7] i && okL r i) = true) (kk : Go Γ g nL R k n M (pc + 2) (a0 :: a1 :: a2 :: a3 :: a4 :: a5 :: a6 :: a7 :: (i, Value.long x) :: r) st) : Go Γ g nL R k n M pc (a0 :: a1 :: a2 :: a3 :: a4 :: a5 :: a6 :: a7 :: (i, w) :: r) (Value.long x :: st) := by
  obtain ⟨p, l, e, s, m, args, below, meth, c, A, Q⟩ := Γ
  obtain ⟨hx, hb, hml, hown, hts, hK, hA, hE⟩ := X
  intro H locs ls hP hD hS hl
  exact lv_lstore hx hb hd hl hn rfl (fun ls' hl' => kk H locs ls' hP hD hS (st2 hl' (stl_mid (a := [a0, a1, a2, a3, a4, a5, a6, a7]) (w := w) ho)))
theorem Go.lstore_9 (X : Cx Γ g nL cc own Ts) {a0 a1 a2 a3 a4 a5 a6 a7 a8 : Nat × Value} {r : List (Nat × Value)} {w : Value} {i : Nat} {x : Int64} (hd : decode cc pc = .ok (.lstore i, 2)) (hn : i + 1 < nL) (ho : (okL [a0, a1, a2, a3, a4, a5, a6, a7, a8] i && okL r i) = true) (kk : Go Γ g nL R k n M (pc + 2) (a0 :: a1 :: a2 :: a3 :: a4 :: a5 :: a6 :: a7 :: a8 :: (i, Value.long x) :: r) st) : Go Γ g nL R k n M pc (a0 :: a1 :: a2 :: a3 :: a4 :: a5 :: a6 :: a7 :: a8 :: (i, w) :: r) (Value.long x :: st) := by
  obtain ⟨p, l, e, s, m, args, below, meth, c, A, Q⟩ := Γ
  obtain ⟨hx, hb, hml, hown, hts, hK, hA, hE⟩ := X
  intro H locs ls hP hD hS hl
  exact lv_lstore hx hb hd hl hn rfl (fun ls' hl' => kk H locs ls' hP hD hS (st2 hl' (stl_mid (a := [a0, a1, a2, a3, a4, a5, a6, a7, a8]) (w := w) ho)))
theorem Go.lstore_n_new (X : Cx Γ g nL cc own Ts) {z : Fin 4} {x : Int64} (hd : decode cc pc = .ok (.lstore_n z, 1)) (hn : (z : Nat) + 1 < nL) (ho : okL lv (z : Nat) = true) (kk : Go Γ g nL R k n M (pc + 1) (((z : Nat), Value.long x) :: lv) st) : Go Γ g nL R k n M pc lv (Value.long x :: st) := by
  obtain ⟨p, l, e, s, m, args, below, meth, c, A, Q⟩ := Γ
  obtain ⟨hx, hb, hml, hown, hts, hK, hA, hE⟩ := X
  intro H locs ls hP hD hS hl
  exact lv_lstore_n hx hb hd rfl hl hn rfl (fun ls' hl' => kk H locs ls' hP hD hS (st2 hl' (stl_new ho)))
theorem Go.lstore_n_0 (X : Cx Γ g nL cc own Ts) {r : List (Nat × Value)} {w : Value} {z : Fin 4} {x : Int64} (hd : decode cc pc = .ok (.lstore_n z, 1)) (hn : (z : Nat) + 1 < nL) (ho : (okL [] (z : Nat) && okL r (z : Nat)) = true) (kk : Go Γ g nL R k n M (pc + 1) (((z : Nat), Value.long x) :: r) st) : Go Γ g nL R k n M pc (((z : Nat), w) :: r) (Value.long x :: st) := by
  obtain ⟨p, l, e, s, m, args, below, meth, c, A, Q⟩ := Γ
  obtain ⟨hx, hb, hml, hown, hts, hK, hA, hE⟩ := X
  intro H locs ls hP hD hS hl
  exact lv_lstore_n hx hb hd rfl hl hn rfl (fun ls' hl' => kk H locs ls' hP hD hS (st2 hl' (stl_mid (a := []) (w := w) ho)))
theorem Go.lstore_n_1 (X : Cx Γ g nL cc own Ts) {a0 : Nat × Value} {r : List (Nat × Value)} {w : Value} {z : Fin 4} {x : Int64} (hd : decode cc pc = .ok (.lstore_n z, 1)) (hn : (z : Nat) + 1 < nL) (ho : (okL [a0] (z : Nat) && okL r (z : Nat)) = true) (kk : Go Γ g nL R k n M (pc + 1) (a0 :: ((z : Nat), Value.long x) :: r) st) : Go Γ g nL R k n M pc (a0 :: ((z : Nat), w) :: r) (Value.long x :: st) := by
  obtain ⟨p, l, e, s, m, args, below, meth, c, A, Q⟩ := Γ
  obtain ⟨hx, hb, hml, hown, hts, hK, hA, hE⟩ := X
  intro H locs ls hP hD hS hl
  exact lv_lstore_n hx hb hd rfl hl hn rfl (fun ls' hl' => kk H locs ls' hP hD hS (st2 hl' (stl_mid (a := [a0]) (w := w) ho)))
theorem Go.lstore_n_2 (X : Cx Γ g nL cc own Ts) {a0 a1 : Nat × Value} {r : List (Nat × Value)} {w : Value} {z : Fin 4} {x : Int64} (hd : decode cc pc = .ok (.lstore_n z, 1)) (hn : (z : Nat) + 1 < nL) (ho : (okL [a0, a1] (z : Nat) && okL r (z : Nat)) = true) (kk : Go Γ g nL R k n M (pc + 1) (a0 :: a1 :: ((z : Nat), Value.long x) :: r) st) : Go Γ g nL R k n M pc (a0 :: a1 :: ((z : Nat), w) :: r) (Value.long x :: st) := by
  obtain ⟨p, l, e, s, m, args, below, meth, c, A, Q⟩ := Γ
  obtain ⟨hx, hb, hml, hown, hts, hK, hA, hE⟩ := X
  intro H locs ls hP hD hS hl
  exact lv_lstore_n hx hb hd rfl hl hn rfl (fun ls' hl' => kk H locs ls' hP hD hS (st2 hl' (stl_mid (a := [a0, a1]) (w := w) ho)))
theorem Go.lstore_n_3 (X : Cx Γ g nL cc own Ts) {a0 a1 a2 : Nat × Value} {r : List (Nat × Value)} {w : Value} {z : Fin 4} {x : Int64} (hd : decode cc pc = .ok (.lstore_n z, 1)) (hn : (z : Nat) + 1 < nL) (ho : (okL [a0, a1, a2] (z : Nat) && okL r (z : Nat)) = true) (kk : Go Γ g nL R k n M (pc + 1) (a0 :: a1 :: a2 :: ((z : Nat), Value.long x) :: r) st) : Go Γ g nL R k n M pc (a0 :: a1 :: a2 :: ((z : Nat), w) :: r) (Value.long x :: st) := by
  obtain ⟨p, l, e, s, m, args, below, meth, c, A, Q⟩ := Γ
  obtain ⟨hx, hb, hml, hown, hts, hK, hA, hE⟩ := X
  intro H locs ls hP hD hS hl
  exact lv_lstore_n hx hb hd rfl hl hn rfl (fun ls' hl' => kk H locs ls' hP hD hS (st2 hl' (stl_mid (a := [a0, a1, a2]) (w := w) ho)))
theorem Go.lstore_n_4 (X : Cx Γ g nL cc own Ts) {a0 a1 a2 a3 : Nat × Value} {r : List (Nat × Value)} {w : Value} {z : Fin 4} {x : Int64} (hd : decode cc pc = .ok (.lstore_n z, 1)) (hn : (z : Nat) + 1 < nL) (ho : (okL [a0, a1, a2, a3] (z : Nat) && okL r (z : Nat)) = true) (kk : Go Γ g nL R k n M (pc + 1) (a0 :: a1 :: a2 :: a3 :: ((z : Nat), Value.long x) :: r) st) : Go Γ g nL R k n M pc (a0 :: a1 :: a2 :: a3 :: ((z : Nat), w) :: r) (Value.long x :: st) := by
  obtain ⟨p, l, e, s, m, args, below, meth, c, A, Q⟩ := Γ
  obtain ⟨hx, hb, hml, hown, hts, hK, hA, hE⟩ := X
  intro H locs ls hP hD hS hl
  exact lv_lstore_n hx hb hd rfl hl hn rfl (fun ls' hl' => kk H locs ls' hP hD hS (st2 hl' (stl_mid (a := [a0, a1, a2, a3]) (w := w) ho)))
theorem Go.lstore_n_5 (X : Cx Γ g nL cc own Ts) {a0 a1 a2 a3 a4 : Nat × Value} {r : List (Nat × Value)} {w : Value} {z : Fin 4} {x : Int64} (hd : decode cc pc = .ok (.lstore_n z, 1)) (hn : (z : Nat) + 1 < nL) (ho : (okL [a0, a1, a2, a3, a4] (z : Nat) && okL r (z : Nat)) = true) (kk : Go Γ g nL R k n M (pc + 1) (a0 :: a1 :: a2 :: a3 :: a4 :: ((z : Nat), Value.long x) :: r) st) : Go Γ g nL R k n M pc (a0 :: a1 :: a2 :: a3 :: a4 :: ((z : Nat), w) :: r) (Value.long x :: st) := by
  obtain ⟨p, l, e, s, m, args, below, meth, c, A, Q⟩ := Γ
  obtain ⟨hx, hb, hml, hown, hts, hK, hA, hE⟩ := X
  intro H locs ls hP hD hS hl
  exact lv_lstore_n hx hb hd rfl hl hn rfl (fun ls' hl' => kk H locs ls' hP hD hS (st2 hl' (stl_mid (a := [a0, a1, a2, a3, a4]) (w := w) ho)))
theorem Go.lstore_n_6 (X : Cx Γ g nL cc own Ts) {a0 a1 a2 a3 a4 a5 : Nat × Value} {r : List (Nat × Value)} {w : Value} {z : Fin 4} {x : Int64} (hd : decode cc pc = .ok (.lstore_n z, 1)) (hn : (z : Nat) + 1 < nL) (ho : (okL [a0, a1, a2, a3, a4, a5] (z : Nat) && okL r (z : Nat)) = true) (kk : Go Γ g nL R k n M (pc + 1) (a0 :: a1 :: a2 :: a3 :: a4 :: a5 :: ((z : Nat), Value.long x) :: r) st) : Go Γ g nL R k n M pc (a0 :: a1 :: a2 :: a3 :: a4 :: a5 :: ((z : Nat), w) :: r) (Value.long x :: st) := by
  obtain ⟨p, l, e, s, m, args, below, meth, c, A, Q⟩ := Γ
  obtain ⟨hx, hb, hml, hown, hts, hK, hA, hE⟩ := X
  intro H locs ls hP hD hS hl
  exact lv_lstore_n hx hb hd rfl hl hn rfl (fun ls' hl' => kk H locs ls' hP hD hS (st2 hl' (stl_mid (a := [a0, a1, a2, a3, a4, a5]) (w := w) ho)))
theorem Go.lstore_n_7 (X : Cx Γ g nL cc own Ts) {a0 a1 a2 a3 a4 a5 a6 : Nat × Value} {r : List (Nat × Value)} {w : Value} {z : Fin 4} {x : Int64} (hd : decode cc pc = .ok (.lstore_n z, 1)) (hn : (z : Nat) + 1 < nL) (ho : (okL [a0, a1, a2, a3, a4, a5, a6] (z : Nat) && okL r (z : Nat)) = true) (kk : Go Γ g nL R k n M (pc + 1) (a0 :: a1 :: a2 :: a3 :: a4 :: a5 :: a6 :: ((z : Nat), Value.long x) :: r) st) : Go Γ g nL R k n M pc (a0 :: a1 :: a2 :: a3 :: a4 :: a5 :: a6 :: ((z : Nat), w) :: r) (Value.long x :: st) := by
  obtain ⟨p, l, e, s, m, args, below, meth, c, A, Q⟩ := Γ
  obtain ⟨hx, hb, hml, hown, hts, hK, hA, hE⟩ := X
  intro H locs ls hP hD hS hl
  exact lv_lstore_n hx hb hd rfl hl hn rfl (fun ls' hl' => kk H locs ls' hP hD hS (st2 hl' (stl_mid (a := [a0, a1, a2, a3, a4, a5, a6]) (w := w) ho)))
theorem Go.lstore_n_8 (X : Cx Γ g nL cc own Ts) {a0 a1 a2 a3 a4 a5 a6 a7 : Nat × Value} {r : List (Nat × Value)} {w : Value} {z : Fin 4} {x : Int64} (hd : decode cc pc = .ok (.lstore_n z, 1)) (hn : (z : Nat) + 1 < nL) (ho : (okL [a0, a1, a2, a3, a4, a5, a6, a7] (z : Nat) && okL r (z : Nat)) = true) (kk : Go Γ g nL R k n M (pc + 1) (a0 :: a1 :: a2 :: a3 :: a4 :: a5 :: a6 :: a7 :: ((z : Nat), Value.long x) :: r) st) : Go Γ g nL R k n M pc (a0 :: a1 :: a2 :: a3 :: a4 :: a5 :: a6 :: a7 :: ((z : Nat), w) :: r) (Value.long x :: st) := by
  obtain ⟨p, l, e, s, m, args, below, meth, c, A, Q⟩ := Γ
  obtain ⟨hx, hb, hml, hown, hts, hK, hA, hE⟩ := X
  intro H locs ls hP hD hS hl
  exact lv_lstore_n hx hb hd rfl hl hn rfl (fun ls' hl' => kk H locs ls' hP hD hS (st2 hl' (stl_mid (a := [a0, a1, a2, a3, a4, a5, a6, a7]) (w := w) ho)))
theorem Go.lstore_n_9 (X : Cx Γ g nL cc own Ts) {a0 a1 a2 a3 a4 a5 a6 a7 a8 : Nat × Value} {r : List (Nat × Value)} {w : Value} {z : Fin 4} {x : Int64} (hd : decode cc pc = .ok (.lstore_n z, 1)) (hn : (z : Nat) + 1 < nL) (ho : (okL [a0, a1, a2, a3, a4, a5, a6, a7, a8] (z : Nat) && okL r (z : Nat)) = true) (kk : Go Γ g nL R k n M (pc + 1) (a0 :: a1 :: a2 :: a3 :: a4 :: a5 :: a6 :: a7 :: a8 :: ((z : Nat), Value.long x) :: r) st) : Go Γ g nL R k n M pc (a0 :: a1 :: a2 :: a3 :: a4 :: a5 :: a6 :: a7 :: a8 :: ((z : Nat), w) :: r) (Value.long x :: st) := by
  obtain ⟨p, l, e, s, m, args, below, meth, c, A, Q⟩ := Γ
  obtain ⟨hx, hb, hml, hown, hts, hK, hA, hE⟩ := X
  intro H locs ls hP hD hS hl
  exact lv_lstore_n hx hb hd rfl hl hn rfl (fun ls' hl' => kk H locs ls' hP hD hS (st2 hl' (stl_mid (a := [a0, a1, a2, a3, a4, a5, a6, a7, a8]) (w := w) ho)))
theorem Go.astore_new (X : Cx Γ g nL cc own Ts) {i : Nat} {x : Nat} (hd : decode cc pc = .ok (.astore i, 2)) (hn : i < nL) (ho : okS lv i = true) (kk : Go Γ g nL R k n M (pc + 2) ((i, Value.ref x) :: lv) st) : Go Γ g nL R k n M pc lv (Value.ref x :: st) := by
  obtain ⟨p, l, e, s, m, args, below, meth, c, A, Q⟩ := Γ
  obtain ⟨hx, hb, hml, hown, hts, hK, hA, hE⟩ := X
  intro H locs ls hP hD hS hl
  exact lv_astore hx hb hd hl hn rfl (fun ls' hl' => kk H locs ls' hP hD hS (st1 hl' (st_new ho)))
theorem Go.astore_0 (X : Cx Γ g nL cc own Ts) {r : List (Nat × Value)} {w : Value} {i : Nat} {x : Nat} (hd : decode cc pc = .ok (.astore i, 2)) (hn : i < nL) (ho : (okS [] i && okS r i) = true) (kk : Go Γ g nL R k n M (pc + 2) ((i, Value.ref x) :: r) st) : Go Γ g nL R k n M pc ((i, w) :: r) (Value.ref x :: st) := by
  obtain ⟨p, l, e, s, m, args, below, meth, c, A, Q⟩ := Γ
  obtain ⟨hx, hb, hml, hown, hts, hK, hA, hE⟩ := X
  intro H locs ls hP hD hS hl
  exact lv_astore hx hb hd hl hn rfl (fun ls' hl' => kk H locs ls' hP hD hS (st1 hl' (st_mid (a := []) (w := w) ho)))
theorem Go.astore_1 (X : Cx Γ g nL cc own Ts) {a0 : Nat × Value} {r : List (Nat × Value)} {w : Value} {i : Nat} {x : Nat} (hd : decode cc pc = .ok (.astore i, 2)) (hn : i < nL) (ho : (okS [a0] i && okS r i) = true) (kk : Go Γ g nL R k n M (pc + 2) (a0 :: (i, Value.ref x) :: r) st) : Go Γ g nL R k n M pc (a0 :: (i, w) :: r) (Value.ref x :: st) := by
  obtain ⟨p, l, e, s, m, args, below, meth, c, A, Q⟩ := Γ
  obtain ⟨hx, hb, hml, hown, hts, hK, hA, hE⟩ := X
  intro H locs ls hP hD hS hl
  exact lv_astore hx hb hd hl hn rfl (fun ls' hl' => kk H locs ls' hP hD hS (st1 hl' (st_mid (a := [a0]) (w := w) ho)))
theorem Go.astore_2 (X : Cx Γ g nL cc own Ts) {a0 a1 : Nat × Value} {r : List (Nat × Value)} {w : Value} {i : Nat} {x : Nat} (hd : decode cc pc = .ok (.astore i, 2)) (hn : i < nL) (ho : (okS [a0, a1] i && okS r i) = true) (kk : Go Γ g nL R k n M (pc + 2) (a0 :: a1 :: (i, Value.ref x) :: r) st) : Go Γ g nL R k n M pc (a0 :: a1 :: (i, w) :: r) (Value.ref x :: st) := by
  obtain ⟨p, l, e, s, m, args, below, meth, c, A, Q⟩ := Γ
  obtain ⟨hx, hb, hml, hown, hts, hK, hA, hE⟩ := X
  intro H locs ls hP hD hS hl
  exact lv_astore hx hb hd hl hn rfl (fun ls' hl' => kk H locs ls' hP hD hS (st1 hl' (st_mid (a := [a0, a1]) (w := w) ho)))
theorem Go.astore_3 (X : Cx Γ g nL cc own Ts) {a0 a1 a2 : Nat × Value} {r : List (Nat × Value)} {w : Value} {i : Nat} {x : Nat} (hd : decode cc pc = .ok (.astore i, 2)) (hn : i < nL) (ho : (okS [a0, a1, a2] i && okS r i) = true) (kk : Go Γ g nL R k n M (pc + 2) (a0 :: a1 :: a2 :: (i, Value.ref x) :: r) st) : Go Γ g nL R k n M pc (a0 :: a1 :: a2 :: (i, w) :: r) (Value.ref x :: st) := by
  obtain ⟨p, l, e, s, m, args, below, meth, c, A, Q⟩ := Γ
  obtain ⟨hx, hb, hml, hown, hts, hK, hA, hE⟩ := X
  intro H locs ls hP hD hS hl
  exact lv_astore hx hb hd hl hn rfl (fun ls' hl' => kk H locs ls' hP hD hS (st1 hl' (st_mid (a := [a0, a1, a2]) (w := w) ho)))
theorem Go.astore_4 (X : Cx Γ g nL cc own Ts) {a0 a1 a2 a3 : Nat × Value} {r : List (Nat × Value)} {w : Value} {i : Nat} {x : Nat} (hd : decode cc pc = .ok (.astore i, 2)) (hn : i < nL) (ho : (okS [a0, a1, a2, a3] i && okS r i) = true) (kk : Go Γ g nL R k n M (pc + 2) (a0 :: a1 :: a2 :: a3 :: (i, Value.ref x) :: r) st) : Go Γ g nL R k n M pc (a0 :: a1 :: a2 :: a3 :: (i, w) :: r) (Value.ref x :: st) := by
  obtain ⟨p, l, e, s, m, args, below, meth, c, A, Q⟩ := Γ
  obtain ⟨hx, hb, hml, hown, hts, hK, hA, hE⟩ := X
  intro H locs ls hP hD hS hl
  exact lv_astore hx hb hd hl hn rfl (fun ls' hl' => kk H locs ls' hP hD hS (st1 hl' (st_mid (a := [a0, a1, a2, a3]) (w := w) ho)))
theorem Go.astore_5 (X : Cx Γ g nL cc own Ts) {a0 a1 a2 a3 a4 : Nat × Value} {r : List (Nat × Value)} {w : Value} {i : Nat} {x : Nat} (hd : decode cc pc = .ok (.astore i, 2)) (hn : i < nL) (ho : (okS [a0, a1, a2, a3, a4] i && okS r i) = true) (kk : Go Γ g nL R k n M (pc + 2) (a0 :: a1 :: a2 :: a3 :: a4 :: (i, Value.ref x) :: r) st) : Go Γ g nL R k n M pc (a0 :: a1 :: a2 :: a3 :: a4 :: (i, w) :: r) (Value.ref x :: st) := by
  obtain ⟨p, l, e, s, m, args, below, meth, c, A, Q⟩ := Γ
  obtain ⟨hx, hb, hml, hown, hts, hK, hA, hE⟩ := X
  intro H locs ls hP hD hS hl
  exact lv_astore hx hb hd hl hn rfl (fun ls' hl' => kk H locs ls' hP hD hS (st1 hl' (st_mid (a := [a0, a1, a2, a3, a4]) (w := w) ho)))
theorem Go.astore_6 (X : Cx Γ g nL cc own Ts) {a0 a1 a2 a3 a4 a5 : Nat × Value} {r : List (Nat × Value)} {w : Value} {i : Nat} {x : Nat} (hd : decode cc pc = .ok (.astore i, 2)) (hn : i < nL) (ho : (okS [a0, a1, a2, a3, a4, a5] i && okS r i) = true) (kk : Go Γ g nL R k n M (pc + 2) (a0 :: a1 :: a2 :: a3 :: a4 :: a5 :: (i, Value.ref x) :: r) st) : Go Γ g nL R k n M pc (a0 :: a1 :: a2 :: a3 :: a4 :: a5 :: (i, w) :: r) (Value.ref x :: st) := by
  obtain ⟨p, l, e, s, m, args, below, meth, c, A, Q⟩ := Γ
  obtain ⟨hx, hb, hml, hown, hts, hK, hA, hE⟩ := X
  intro H locs ls hP hD hS hl
  exact lv_astore hx hb hd hl hn rfl (fun ls' hl' => kk H locs ls' hP hD hS (st1 hl' (st_mid (a := [a0, a1, a2, a3, a4, a5]) (w := w) ho)))
theorem Go.astore_7 (X : Cx Γ g nL cc own Ts) {a0 a1 a2 a3 a4 a5 a6 : Nat × Value} {r : List (Nat × Value)} {w : Value} {i : Nat} {x : Nat} (hd : decode cc pc = .ok (.astore i, 2)) (hn : i < nL) (ho : (okS [a0, a1, a2, a3, a4, a5, a6] i && okS r i) = true) (kk : Go Γ g nL R k n M (pc + 2) (a0 :: a1 :: a2 :: a3 :: a4 :: a5 :: a6 :: (i, Value.ref x) :: r) st) : Go Γ g nL R k n M pc (a0 :: a1 :: a2 :: a3 :: a4 :: a5 :: a6 :: (i, w) :: r) (Value.ref x :: st) := by
  obtain ⟨p, l, e, s, m, args, below, meth, c, A, Q⟩ := Γ
  obtain ⟨hx, hb, hml, hown, hts, hK, hA, hE⟩ := X
  intro H locs ls hP hD hS hl
  exact lv_astore hx hb hd hl hn rfl (fun ls' hl' => kk H locs ls' hP hD hS (st1 hl' (st_mid (a := [a0, a1, a2, a3, a4, a5, a6]) (w := w) ho)))
theorem Go.astore_8 (X : Cx Γ g nL cc own Ts) {a0 a1 a2 a3 a4 a5 a6 a7 : Nat × Value} {r : List (Nat × Value)} {w : Value} {i : Nat} {x : Nat} (hd : decode cc pc = .ok (.astore i, 2)) (hn : i < nL) (ho : (okS [a0, a1, a2, a3, a4, a5, a6, a7] i && okS r i) = true) (kk : Go Γ g nL R k n M (pc + 2) (a0 :: a1 :: a2 :: a3 :: a4 :: a5 :: a6 :: a7 :: (i, Value.ref x) :: r) st) : Go Γ g nL R k n M pc (a0 :: a1 :: a2 :: a3 :: a4 :: a5 :: a6 :: a7 :: (i, w) :: r) (Value.ref x :: st) := by
  obtain ⟨p, l, e, s, m, args, below, meth, c, A, Q⟩ := Γ
  obtain ⟨hx, hb, hml, hown, hts, hK, hA, hE⟩ := X
  intro H locs ls hP hD hS hl
  exact lv_astore hx hb hd hl hn rfl (fun ls' hl' => kk H locs ls' hP hD hS (st1 hl' (st_mid (a := [a0, a1, a2, a3, a4, a5, a6, a7]) (w := w) ho)))
theorem Go.astore_9 (X : Cx Γ g nL cc own Ts) {a0 a1 a2 a3 a4 a5 a6 a7 a8 : Nat × Value} {r : List (Nat × Value)} {w : Value} {i : Nat} {x : Nat} (hd : decode cc pc = .ok (.astore i, 2)) (hn : i < nL) (ho : (okS [a0, a1, a2, a3, a4, a5, a6, a7, a8] i && okS r i) = true) (kk : Go Γ g nL R k n M (pc + 2) (a0 :: a1 :: a2 :: a3 :: a4 :: a5 :: a6 :: a7 :: a8 :: (i, Value.ref x) :: r) st) : Go Γ g nL R k n M pc (a0 :: a1 :: a2 :: a3 :: a4 :: a5 :: a6 :: a7 :: a8 :: (i, w) :: r) (Value.ref x :: st) := by
  obtain ⟨p, l, e, s, m, args, below, meth, c, A, Q⟩ := Γ
  obtain ⟨hx, hb, hml, hown, hts, hK, hA, hE⟩ := X
  intro H locs ls hP hD hS hl
  exact lv_astore hx hb hd hl hn rfl (fun ls' hl' => kk H locs ls' hP hD hS (st1 hl' (st_mid (a := [a0, a1, a2, a3, a4, a5, a6, a7, a8]) (w := w) ho)))
theorem Go.astore_n_new (X : Cx Γ g nL cc own Ts) {z : Fin 4} {x : Nat} (hd : decode cc pc = .ok (.astore_n z, 1)) (hn : (z : Nat) < nL) (ho : okS lv (z : Nat) = true) (kk : Go Γ g nL R k n M (pc + 1) (((z : Nat), Value.ref x) :: lv) st) : Go Γ g nL R k n M pc lv (Value.ref x :: st) := by
  obtain ⟨p, l, e, s, m, args, below, meth, c, A, Q⟩ := Γ
  obtain ⟨hx, hb, hml, hown, hts, hK, hA, hE⟩ := X
  intro H locs ls hP hD hS hl
  exact lv_astore_n hx hb hd rfl hl hn rfl (fun ls' hl' => kk H locs ls' hP hD hS (st1 hl' (st_new ho)))
theorem Go.astore_n_0 (X : Cx Γ g nL cc own Ts) {r : List (Nat × Value)} {w : Value} {z : Fin 4} {x : Nat} (hd : decode cc pc = .ok (.astore_n z, 1)) (hn : (z : Nat) < nL) (ho : (okS [] (z : Nat) && okS r (z : Nat)) = true) (kk : Go Γ g nL R k n M (pc + 1) (((z : Nat), Value.ref x) :: r) st) : Go Γ g nL R k n M pc (((z : Nat), w) :: r) (Value.ref x :: st) := by
  obtain ⟨p, l, e, s, m, args, below, meth, c, A, Q⟩ := Γ
  obtain ⟨hx, hb, hml, hown, hts, hK, hA, hE⟩ := X
  intro H locs ls hP hD hS hl
  exact lv_astore_n hx hb hd rfl hl hn rfl (fun ls' hl' => kk H locs ls' hP hD hS (st1 hl' (st_mid (a := []) (w := w) ho)))
theorem Go.astore_n_1 (X : Cx Γ g nL cc own Ts) {a0 : Nat × Value} {r : List (Nat × Value)} {w : Value} {z : Fin 4} {x : Nat} (hd : decode cc pc = .ok (.astore_n z, 1)) (hn : (z : Nat) < nL) (ho : (okS [a0] (z : Nat) && okS r (z : Nat)) = true) (kk : Go Γ g nL R k n M (pc + 1) (a0 :: ((z : Nat), Value.ref x) :: r) st) : Go Γ g nL R k n M pc (a0 :: ((z : Nat), w) :: r) (Value.ref x :: st) := by
  obtain ⟨p, l, e, s, m, args, below, meth, c, A, Q⟩ := Γ
  obtain ⟨hx, hb, hml, hown, hts, hK, hA, hE⟩ := X
  intro H locs ls hP hD hS hl
  exact lv_astore_n hx hb hd rfl hl hn rfl (fun ls' hl' => kk H locs ls' hP hD hS (st1 hl' (st_mid (a := [a0]) (w := w) ho)))
theorem Go.astore_n_2 (X : Cx Γ g nL cc own Ts) {a0 a1 : Nat × Value} {r : List (Nat × Value)} {w : Value} {z : Fin 4} {x : Nat} (hd : decode cc pc = .ok (.astore_n z, 1)) (hn : (z : Nat) < nL) (ho : (okS [a0, a1] (z : Nat) && okS r (z : Nat)) = true) (kk : Go Γ g nL R k n M (pc + 1) (a0 :: a1 :: ((z : Nat), Value.ref x) :: r) st) : Go Γ g nL R k n M pc (a0 :: a1 :: ((z : Nat), w) :: r) (Value.ref x :: st) := by
  obtain ⟨p, l, e, s, m, args, below, meth, c, A, Q⟩ := Γ
  obtain ⟨hx, hb, hml, hown, hts, hK, hA, hE⟩ := X
  intro H locs ls hP hD hS hl
  exact lv_astore_n hx hb hd rfl hl hn rfl (fun ls' hl' => kk H locs ls' hP hD hS (st1 hl' (st_mid (a := [a0, a1]) (w := w) ho)))
theorem Go.astore_n_3 (X : Cx Γ g nL cc own Ts) {a0 a1 a2 : Nat × Value} {r : List (Nat × Value)} {w : Value} {z : Fin 4} {x : Nat} (hd : decode cc pc = .ok (.astore_n z, 1)) (hn : (z : Nat) < nL) (ho : (okS [a0, a1, a2] (z : Nat) && okS r (z : Nat)) = true) (kk : Go Γ g nL R k n M (pc + 1) (a0 :: a1 :: a2 :: ((z : Nat), Value.ref x) :: r) st) : Go Γ g nL R k n M pc (a0 :: a1 :: a2 :: ((z : Nat), w) :: r) (Value.ref x :: st) := by
  obtain ⟨p, l, e, s, m, args, below, meth, c, A, Q⟩ := Γ
  obtain ⟨hx, hb, hml, hown, hts, hK, hA, hE⟩ := X
  intro H locs ls hP hD hS hl
  exact lv_astore_n hx hb hd rfl hl hn rfl (fun ls' hl' => kk H locs ls' hP hD hS (st1 hl' (st_mid (a := [a0, a1, a2]) (w := w) ho)))
theorem Go.astore_n_4 (X : Cx Γ g nL cc own Ts) {a0 a1 a2 a3 : Nat × Value} {r : List (Nat × Value)} {w : Value} {z : Fin 4} {x : Nat} (hd : decode cc pc = .ok (.astore_n z, 1)) (hn : (z : Nat) < nL) (ho : (okS [a0, a1, a2, a3] (z : Nat) && okS r (z : Nat)) = true) (kk : Go Γ g nL R k n M (pc + 1) (a0 :: a1 :: a2 :: a3 :: ((z : Nat), Value.ref x) :: r) st) : Go Γ g nL R k n M pc (a0 :: a1 :: a2 :: a3 :: ((z : Nat), w) :: r) (Value.ref x :: st) := by
  obtain ⟨p, l, e, s, m, args, below, meth, c, A, Q⟩ := Γ
  obtain ⟨hx, hb, hml, hown, hts, hK, hA, hE⟩ := X
  intro H locs ls hP hD hS hl
  exact lv_astore_n hx hb hd rfl hl hn rfl (fun ls' hl' => kk H locs ls' hP hD hS (st1 hl' (st_mid (a := [a0, a1, a2, a3]) (w := w) ho)))
theorem Go.astore_n_5 (X : Cx Γ g nL cc own Ts) {a0 a1 a2 a3 a4 : Nat × Value} {r : List (Nat × Value)} {w : Value} {z : Fin 4} {x : Nat} (hd : decode cc pc = .ok (.astore_n z, 1)) (hn : (z : Nat) < nL) (ho : (okS [a0, a1, a2, a3, a4] (z : Nat) && okS r (z : Nat)) = true) (kk : Go Γ g nL R k n M (pc + 1) (a0 :: a1 :: a2 :: a3 :: a4 :: ((z : Nat), Value.ref x) :: r) st) : Go Γ g nL R k n M pc (a0 :: a1 :: a2 :: a3 :: a4 :: ((z : Nat), w) :: r) (Value.ref x :: st) := by
  obtain ⟨p, l, e, s, m, args, below, meth, c, A, Q⟩ := Γ
  obtain ⟨hx, hb, hml, hown, hts, hK, hA, hE⟩ := X
  intro H locs ls hP hD hS hl
  exact lv_astore_n hx hb hd rfl hl hn rfl (fun ls' hl' => kk H locs ls' hP hD hS (st1 hl' (st_mid (a := [a0, a1, a2, a3, a4]) (w := w) ho)))
theorem Go.astore_n_6 (X : Cx Γ g nL cc own Ts) {a0 a1 a2 a3 a4 a5 : Nat × Value} {r : List (Nat × Value)} {w : Value} {z : Fin 4} {x : Nat} (hd : decode cc pc = .ok (.astore_n z, 1)) (hn : (z : Nat) < nL) (ho : (okS [a0, a1, a2, a3, a4, a5] (z : Nat) && okS r (z : Nat)) = true) (kk : Go Γ g nL R k n M (pc + 1) (a0 :: a1 :: a2 :: a3 :: a4 :: a5 :: ((z : Nat), Value.ref x) :: r) st) : Go Γ g nL R k n M pc (a0 :: a1 :: a2 :: a3 :: a4 :: a5 :: ((z : Nat), w) :: r) (Value.ref x :: st) := by
  obtain ⟨p, l, e, s, m, args, below, meth, c, A, Q⟩ := Γ
  obtain ⟨hx, hb, hml, hown, hts, hK, hA, hE⟩ := X
  intro H locs ls hP hD hS hl
  exact lv_astore_n hx hb hd rfl hl hn rfl (fun ls' hl' => kk H locs ls' hP hD hS (st1 hl' (st_mid (a := [a0, a1, a2, a3, a4, a5]) (w := w) ho)))
theorem Go.astore_n_7 (X : Cx Γ g nL cc own Ts) {a0 a1 a2 a3 a4 a5 a6 : Nat × Value} {r : List (Nat × Value)} {w : Value} {z : Fin 4} {x : Nat} (hd : decode cc pc = .ok (.astore_n z, 1)) (hn : (z : Nat) < nL) (ho : (okS [a0, a1, a2, a3, a4, a5, a6] (z : Nat) && okS r (z : Nat)) = true) (kk : Go Γ g nL R k n M (pc + 1) (a0 :: a1 :: a2 :: a3 :: a4 :: a5 :: a6 :: ((z : Nat), Value.ref x) :: r) st) : Go Γ g nL R k n M pc (a0 :: a1 :: a2 :: a3 :: a4 :: a5 :: a6 :: ((z : Nat), w) :: r) (Value.ref x :: st) := by
  obtain ⟨p, l, e, s, m, args, below, meth, c, A, Q⟩ := Γ
  obtain ⟨hx, hb, hml, hown, hts, hK, hA, hE⟩ := X
  intro H locs ls hP hD hS hl
  exact lv_astore_n hx hb hd rfl hl hn rfl (fun ls' hl' => kk H locs ls' hP hD hS (st1 hl' (st_mid (a := [a0, a1, a2, a3, a4, a5, a6]) (w := w) ho)))
theorem Go.astore_n_8 (X : Cx Γ g nL cc own Ts) {a0 a1 a2 a3 a4 a5 a6 a7 : Nat × Value} {r : List (Nat × Value)} {w : Value} {z : Fin 4} {x : Nat} (hd : decode cc pc = .ok (.astore_n z, 1)) (hn : (z : Nat) < nL) (ho : (okS [a0, a1, a2, a3, a4, a5, a6, a7] (z : Nat) && okS r (z : Nat)) = true) (kk : Go Γ g nL R k n M (pc + 1) (a0 :: a1 :: a2 :: a3 :: a4 :: a5 :: a6 :: a7 :: ((z : Nat), Value.ref x) :: r) st) : Go Γ g nL R k n M pc (a0 :: a1 :: a2 :: a3 :: a4 :: a5 :: a6 :: a7 :: ((z : Nat), w) :: r) (Value.ref x :: st) := by
  obtain ⟨p, l, e, s, m, args, below, meth, c, A, Q⟩ := Γ
  obtain ⟨hx, hb, hml, hown, hts, hK, hA, hE⟩ := X
  intro H locs ls hP hD hS hl
  exact lv_astore_n hx hb hd rfl hl hn rfl (fun ls' hl' => kk H locs ls' hP hD hS (st1 hl' (st_mid (a := [a0, a1, a2, a3, a4, a5, a6, a7]) (w := w) ho)))
theorem Go.astore_n_9 (X : Cx Γ g nL cc own Ts) {a0 a1 a2 a3 a4 a5 a6 a7 a8 : Nat × Value} {r : List (Nat × Value)} {w : Value} {z : Fin 4} {x : Nat} (hd : decode cc pc = .ok (.astore_n z, 1)) (hn : (z : Nat) < nL) (ho : (okS [a0, a1, a2, a3, a4, a5, a6, a7, a8] (z : Nat) && okS r (z : Nat)) = true) (kk : Go Γ g nL R k n M (pc + 1) (a0 :: a1 :: a2 :: a3 :: a4 :: a5 :: a6 :: a7 :: a8 :: ((z : Nat), Value.ref x) :: r) st) : Go Γ g nL R k n M pc (a0 :: a1 :: a2 :: a3 :: a4 :: a5 :: a6 :: a7 :: a8 :: ((z : Nat), w) :: r) (Value.ref x :: st) := by
  obtain ⟨p, l, e, s, m, args, below, meth, c, A, Q⟩ := Γ
  obtain ⟨hx, hb, hml, hown, hts, hK, hA, hE⟩ := X
  intro H locs ls hP hD hS hl
  exact lv_astore_n hx hb hd rfl hl hn rfl (fun ls' hl' => kk H locs ls' hP hD hS (st1 hl' (st_mid (a := [a0, a1, a2, a3, a4, a5, a6, a7, a8]) (w := w) ho)))
theorem Go.iinc_0 (X : Cx Γ g nL cc own Ts) {r : List (Nat × Value)} {i : Nat} {z : Int} {x : Int32} (v : Int32) (hd : decode cc pc = .ok (.iinc i z, 3)) (hn : i < nL) (ho : (okS [] i && okS r i) = true) (hv : x + Int32.ofInt z = v) (kk : Go Γ g nL R k n M (pc + 3) ((i, Value.int v) :: r) st) : Go Γ g nL R k n M pc ((i, Value.int x) :: r) st := by
  obtain ⟨p, l, e, s, m, args, below, meth, c, A, Q⟩ := Γ
  obtain ⟨hx, hb, hml, hown, hts, hK, hA, hE⟩ := X
  intro H locs ls hP hD hS hl
  exact lv_iinc hx hb hd hl (k := 0) rfl hv hn rfl (fun ls' hl' => kk H locs ls' hP hD hS (st1 hl' (st_mid (a := []) (w := .int x) ho)))
theorem Go.iinc_1 (X : Cx Γ g nL cc own Ts) {a0 : Nat × Value} {r : List (Nat × Value)} {i : Nat} {z : Int} {x : Int32} (v : Int32) (hd : decode cc pc = .ok (.iinc i z, 3)) (hn : i < nL) (ho : (okS [a0] i && okS r i) = true) (hv : x + Int32.ofInt z = v) (kk : Go Γ g nL R k n M (pc + 3) (a0 :: (i, Value.int v) :: r) st) : Go Γ g nL R k n M pc (a0 :: (i, Value.int x) :: r) st := by
  obtain ⟨p, l, e, s, m, args, below, meth, c, A, Q⟩ := Γ
  obtain ⟨hx, hb, hml, hown, hts, hK, hA, hE⟩ := X
  intro H locs ls hP hD hS hl
  exact lv_iinc hx hb hd hl (k := 1) rfl hv hn rfl (fun ls' hl' => kk H locs ls' hP hD hS (st1 hl' (st_mid (a := [a0]) (w := .int x) ho)))
theorem Go.iinc_2 (X : Cx Γ g nL cc own Ts) {a0 a1 : Nat × Value} {r : List (Nat × Value)} {i : Nat} {z : Int} {x : Int32} (v : Int32) (hd : decode cc pc = .ok (.iinc i z, 3)) (hn : i < nL) (ho : (okS [a0, a1] i && okS r i) = true) (hv : x + Int32.ofInt z = v) (kk : Go Γ g nL R k n M (pc + 3) (a0 :: a1 :: (i, Value.int v) :: r) st) : Go Γ g nL R k n M pc (a0 :: a1 :: (i, Value.int x) :: r) st := by
  obtain ⟨p, l, e, s, m, args, below, meth, c, A, Q⟩ := Γ
  obtain ⟨hx, hb, hml, hown, hts, hK, hA, hE⟩ := X
  intro H locs ls hP hD hS hl
  exact lv_iinc hx hb hd hl (k := 2) rfl hv hn rfl (fun ls' hl' => kk H locs ls' hP hD hS (st1 hl' (st_mid (a := [a0, a1]) (w := .int x) ho)))
theorem Go.iinc_3 (X : Cx Γ g nL cc own Ts) {a0 a1 a2 : Nat × Value} {r : List (Nat × Value)} {i : Nat} {z : Int} {x : Int32} (v : Int32) (hd : decode cc pc = .ok (.iinc i z, 3)) (hn : i < nL) (ho : (okS [a0, a1, a2] i && okS r i) = true) (hv : x + Int32.ofInt z = v) (kk : Go Γ g nL R k n M (pc + 3) (a0 :: a1 :: a2 :: (i, Value.int v) :: r) st) : Go Γ g nL R k n M pc (a0 :: a1 :: a2 :: (i, Value.int x) :: r) st := by
  obtain ⟨p, l, e, s, m, args, below, meth, c, A, Q⟩ := Γ
  obtain ⟨hx, hb, hml, hown, hts, hK, hA, hE⟩ := X
  intro H locs ls hP hD hS hl
  exact lv_iinc hx hb hd hl (k := 3) rfl hv hn rfl (fun ls' hl' => kk H locs ls' hP hD hS (st1 hl' (st_mid (a := [a0, a1, a2]) (w := .int x) ho)))
theorem Go.iinc_4 (X : Cx Γ g nL cc own Ts) {a0 a1 a2 a3 : Nat × Value} {r : List (Nat × Value)} {i : Nat} {z : Int} {x : Int32} (v : Int32) (hd : decode cc pc = .ok (.iinc i z, 3)) (hn : i < nL) (ho : (okS [a0, a1, a2, a3] i && okS r i) = true) (hv : x + Int32.ofInt z = v) (kk : Go Γ g nL R k n M (pc + 3) (a0 :: a1 :: a2 :: a3 :: (i, Value.int v) :: r) st) : Go Γ g nL R k n M pc (a0 :: a1 :: a2 :: a3 :: (i, Value.int x) :: r) st := by
  obtain ⟨p, l, e, s, m, args, below, meth, c, A, Q⟩ := Γ
  obtain ⟨hx, hb, hml, hown, hts, hK, hA, hE⟩ := X
  intro H locs ls hP hD hS hl
  exact lv_iinc hx hb hd hl (k := 4) rfl hv hn rfl (fun ls' hl' => kk H locs ls' hP hD hS (st1 hl' (st_mid (a := [a0, a1, a2, a3]) (w := .int x) ho)))
theorem Go.iinc_5 (X : Cx Γ g nL cc own Ts) {a0 a1 a2 a3 a4 : Nat × Value} {r : List (Nat × Value)} {i : Nat} {z : Int} {x : Int32} (v : Int32) (hd : decode cc pc = .ok (.iinc i z, 3)) (hn : i < nL) (ho : (okS [a0, a1, a2, a3, a4] i && okS r i) = true) (hv : x + Int32.ofInt z = v) (kk : Go Γ g nL R k n M (pc + 3) (a0 :: a1 :: a2 :: a3 :: a4 :: (i, Value.int v) :: r) st) : Go Γ g nL R k n M pc (a0 :: a1 :: a2 :: a3 :: a4 :: (i, Value.int x) :: r) st := by
  obtain ⟨p, l, e, s, m, args, below, meth, c, A, Q⟩ := Γ
  obtain ⟨hx, hb, hml, hown, hts, hK, hA, hE⟩ := X
  intro H locs ls hP hD hS hl
  exact lv_iinc hx hb hd hl (k := 5) rfl hv hn rfl (fun ls' hl' => kk H locs ls' hP hD hS (st1 hl' (st_mid (a := [a0, a1, a2, a3, a4]) (w := .int x) ho)))
theorem Go.iinc_6 (X : Cx Γ g nL cc own Ts) {a0 a1 a2 a3 a4 a5 : Nat × Value} {r : List (Nat × Value)} {i : Nat} {z : Int} {x : Int32} (v : Int32) (hd : decode cc pc = .ok (.iinc i z, 3)) (hn : i < nL) (ho : (okS [a0, a1, a2, a3, a4, a5] i && okS r i) = true) (hv : x + Int32.ofInt z = v) (kk : Go Γ g nL R k n M (pc + 3) (a0 :: a1 :: a2 :: a3 :: a4 :: a5 :: (i, Value.int v) :: r) st) : Go Γ g nL R k n M pc (a0 :: a1 :: a2 :: a3 :: a4 :: a5 :: (i, Value.int x) :: r) st := by
  obtain ⟨p, l, e, s, m, args, below, meth, c, A, Q⟩ := Γ
  obtain ⟨hx, hb, hml, hown, hts, hK, hA, hE⟩ := X
  intro H locs ls hP hD hS hl
  exact lv_iinc hx hb hd hl (k := 6) rfl hv hn rfl (fun ls' hl' => kk H locs ls' hP hD hS (st1 hl' (st_mid (a := [a0, a1, a2, a3, a4, a5]) (w := .int x) ho)))
theorem Go.iinc_7 (X : Cx Γ g nL cc own Ts) {a0 a1 a2 a3 a4 a5 a6 : Nat × Value} {r : List (Nat × Value)} {i : Nat} {z : Int} {x : Int32} (v : Int32) (hd : decode cc pc = .ok (.iinc i z, 3)) (hn : i < nL) (ho : (okS [a0, a1, a2, a3, a4, a5, a6] i && okS r i) = true) (hv : x + Int32.ofInt z = v) (kk : Go Γ g nL R k n M (pc + 3) (a0 :: a1 :: a2 :: a3 :: a4 :: a5 :: a6 :: (i, Value.int v) :: r) st) : Go Γ g nL R k n M pc (a0 :: a1 :: a2 :: a3 :: a4 :: a5 :: a6 :: (i, Value.int x) :: r) st := by
  obtain ⟨p, l, e, s, m, args, below, meth, c, A, Q⟩ := Γ
  obtain ⟨hx, hb, hml, hown, hts, hK, hA, hE⟩ := X
  intro H locs ls hP hD hS hl
  exact lv_iinc hx hb hd hl (k := 7) rfl hv hn rfl (fun ls' hl' => kk H locs ls' hP hD hS (st1 hl' (st_mid (a := [a0, a1, a2, a3, a4, a5, a6]) (w := .int x) ho)))
theorem Go.iinc_8 (X : Cx Γ g nL cc own Ts) {a0 a1 a2 a3 a4 a5 a6 a7 : Nat × Value} {r : List (Nat × Value)} {i : Nat} {z : Int} {x : Int32} (v : Int32) (hd : decode cc pc = .ok (.iinc i z, 3)) (hn : i < nL) (ho : (okS [a0, a1, a2, a3, a4, a5, a6, a7] i && okS r i) = true) (hv : x + Int32.ofInt z = v) (kk : Go Γ g nL R k n M (pc + 3) (a0 :: a1 :: a2 :: a3 :: a4 :: a5 :: a6 :: a7 :: (i, Value.int v) :: r) st) : Go Γ g nL R k n M pc (a0 :: a1 :: a2 :: a3 :: a4 :: a5 :: a6 :: a7 :: (i, Value.int x) :: r) st := by
  obtain ⟨p, l, e, s, m, args, below, meth, c, A, Q⟩ := Γ
  obtain ⟨hx, hb, hml, hown, hts, hK, hA, hE⟩ := X
  intro H locs ls hP hD hS hl
  exact lv_iinc hx hb hd hl (k := 8) rfl hv hn rfl (fun ls' hl' => kk H locs ls' hP hD hS (st1 hl' (st_mid (a := [a0, a1, a2, a3, a4, a5, a6, a7]) (w := .int x) ho)))
theorem Go.iinc_9 (X : Cx Γ g nL cc own Ts) {a0 a1 a2 a3 a4 a5 a6 a7 a8 : Nat × Value} {r : List (Nat × Value)} {i : Nat} {z : Int} {x : Int32} (v : Int32) (hd : decode cc pc = .ok (.iinc i z, 3)) (hn : i < nL) (ho : (okS [a0, a1, a2, a3, a4, a5, a6, a7, a8] i && okS r i) = true) (hv : x + Int32.ofInt z = v) (kk : Go Γ g nL R k n M (pc + 3) (a0 :: a1 :: a2 :: a3 :: a4 :: a5 :: a6 :: a7 :: a8 :: (i, Value.int v) :: r) st) : Go Γ g nL R k n M pc (a0 :: a1 :: a2 :: a3 :: a4 :: a5 :: a6 :: a7 :: a8 :: (i, Value.int x) :: r) st := by
  obtain ⟨p, l, e, s, m, args, below, meth, c, A, Q⟩ := Γ
  obtain ⟨hx, hb, hml, hown, hts, hK, hA, hE⟩ := X
  intro H locs ls hP hD hS hl
  exact lv_iinc hx hb hd hl (k := 9) rfl hv hn rfl (fun ls' hl' => kk H locs ls' hP hD hS (st1 hl' (st_mid (a := [a0, a1, a2, a3, a4, a5, a6, a7, a8]) (w := .int x) ho)))
theorem Go.iadd (X : Cx Γ g nL cc own Ts) {x y : Int32} (hd : decode cc pc = .ok (.iadd, 1)) (kk : Go Γ g nL R k n M (pc + 1) lv (.int (x + y) :: st)) : Go Γ g nL R k n M pc lv (.int y :: .int x :: st) := by
  obtain ⟨p, l, e, s, m, args, below, meth, c, A, Q⟩ := Γ
  obtain ⟨hx, hb, hml, hown, hts, hK, hA, hE⟩ := X
  intro H locs ls hP hD hS hl
  exact lv_iadd hx hb hd (kk H locs ls hP hD hS hl)
theorem Go.iadd_e (X : Cx Γ g nL cc own Ts) {x y : Int32} (z : Int32) (hd : decode cc pc = .ok (.iadd, 1)) (hz : x + y = z) (kk : Go Γ g nL R k n M (pc + 1) lv (.int z :: st)) : Go Γ g nL R k n M pc lv (.int y :: .int x :: st) := by
  obtain ⟨p, l, e, s, m, args, below, meth, c, A, Q⟩ := Γ
  obtain ⟨hx, hb, hml, hown, hts, hK, hA, hE⟩ := X
  intro H locs ls hP hD hS hl
  exact lv_iadd hx hb hd (hz ▸ (kk H locs ls hP hD hS hl))
theorem Go.isub (X : Cx Γ g nL cc own Ts) {x y : Int32} (hd : decode cc pc = .ok (.isub, 1)) (kk : Go Γ g nL R k n M (pc + 1) lv (.int (x - y) :: st)) : Go Γ g nL R k n M pc lv (.int y :: .int x :: st) := by
  obtain ⟨p, l, e, s, m, args, below, meth, c, A, Q⟩ := Γ
  obtain ⟨hx, hb, hml, hown, hts, hK, hA, hE⟩ := X
  intro H locs ls hP hD hS hl
  exact lv_isub hx hb hd (kk H locs ls hP hD hS hl)
theorem Go.isub_e (X : Cx Γ g nL cc own Ts) {x y : Int32} (z : Int32) (hd : decode cc pc = .ok (.isub, 1)) (hz : x - y = z) (kk : Go Γ g nL R k n M (pc + 1) lv (.int z :: st)) : Go Γ g nL R k n M pc lv (.int y :: .int x :: st) := by
  obtain ⟨p, l, e, s, m, args, below, meth, c, A, Q⟩ := Γ
  obtain ⟨hx, hb, hml, hown, hts, hK, hA, hE⟩ := X
  intro H locs ls hP hD hS hl
  exact lv_isub hx hb hd (hz ▸ (kk H locs ls hP hD hS hl))
theorem Go.imul (X : Cx Γ g nL cc own Ts) {x y : Int32} (hd : decode cc pc = .ok (.imul, 1)) (kk : Go Γ g nL R k n M (pc + 1) lv (.int (x * y) :: st)) : Go Γ g nL R k n M pc lv (.int y :: .int x :: st) := by
  obtain ⟨p, l, e, s, m, args, below, meth, c, A, Q⟩ := Γ
  obtain ⟨hx, hb, hml, hown, hts, hK, hA, hE⟩ := X
  intro H locs ls hP hD hS hl
  exact lv_imul hx hb hd (kk H locs ls hP hD hS hl)
theorem Go.imul_e (X : Cx Γ g nL cc own Ts) {x y : Int32} (z : Int32) (hd : decode cc pc = .ok (.imul, 1)) (hz : x * y = z) (kk : Go Γ g nL R k n M (pc + 1) lv (.int z :: st)) : Go Γ g nL R k n M pc lv (.int y :: .int x :: st) := by
  obtain ⟨p, l, e, s, m, args, below, meth, c, A, Q⟩ := Γ
  obtain ⟨hx, hb, hml, hown, hts, hK, hA, hE⟩ := X
  intro H locs ls hP hD hS hl
  exact lv_imul hx hb hd (hz ▸ (kk H locs ls hP hD hS hl))
theorem Go.iand (X : Cx Γ g nL cc own Ts) {x y : Int32} (hd : decode cc pc = .ok (.iand, 1)) (kk : Go Γ g nL R k n M (pc + 1) lv (.int (x &&& y) :: st)) : Go Γ g nL R k n M pc lv (.int y :: .int x :: st) := by
  obtain ⟨p, l, e, s, m, args, below, meth, c, A, Q⟩ := Γ
  obtain ⟨hx, hb, hml, hown, hts, hK, hA, hE⟩ := X
  intro H locs ls hP hD hS hl
  exact lv_iand hx hb hd (kk H locs ls hP hD hS hl)
theorem Go.iand_e (X : Cx Γ g nL cc own Ts) {x y : Int32} (z : Int32) (hd : decode cc pc = .ok (.iand, 1)) (hz : x &&& y = z) (kk : Go Γ g nL R k n M (pc + 1) lv (.int z :: st)) : Go Γ g nL R k n M pc lv (.int y :: .int x :: st) := by
  obtain ⟨p, l, e, s, m, args, below, meth, c, A, Q⟩ := Γ
  obtain ⟨hx, hb, hml, hown, hts, hK, hA, hE⟩ := X
  intro H locs ls hP hD hS hl
  exact lv_iand hx hb hd (hz ▸ (kk H locs ls hP hD hS hl))
theorem Go.ior (X : Cx Γ g nL cc own Ts) {x y : Int32} (hd : decode cc pc = .ok (.ior, 1)) (kk : Go Γ g nL R k n M (pc + 1) lv (.int (x ||| y) :: st)) : Go Γ g nL R k n M pc lv (.int y :: .int x :: st) := by
  obtain ⟨p, l, e, s, m, args, below, meth, c, A, Q⟩ := Γ
  obtain ⟨hx, hb, hml, hown, hts, hK, hA, hE⟩ := X
  intro H locs ls hP hD hS hl
  exact lv_ior hx hb hd (kk H locs ls hP hD hS hl)
theorem Go.ior_e (X : Cx Γ g nL cc own Ts) {x y : Int32} (z : Int32) (hd : decode cc pc = .ok (.ior, 1)) (hz : x ||| y = z) (kk : Go Γ g nL R k n M (pc + 1) lv (.int z :: st)) : Go Γ g nL R k n M pc lv (.int y :: .int x :: st) := by
  obtain ⟨p, l, e, s, m, args, below, meth, c, A, Q⟩ := Γ
  obtain ⟨hx, hb, hml, hown, hts, hK, hA, hE⟩ := X
  intro H locs ls hP hD hS hl
  exact lv_ior hx hb hd (hz ▸ (kk H locs ls hP hD hS hl))
theorem Go.ixor (X : Cx Γ g nL cc own Ts) {x y : Int32} (hd : decode cc pc = .ok (.ixor, 1)) (kk : Go Γ g nL R k n M (pc + 1) lv (.int (x ^^^ y) :: st)) : Go Γ g nL R k n M pc lv (.int y :: .int x :: st) := by
  obtain ⟨p, l, e, s, m, args, below, meth, c, A, Q⟩ := Γ
  obtain ⟨hx, hb, hml, hown, hts, hK, hA, hE⟩ := X
  intro H locs ls hP hD hS hl
  exact lv_ixor hx hb hd (kk H locs ls hP hD hS hl)
theorem Go.ixor_e (X : Cx Γ g nL cc own Ts) {x y : Int32} (z : Int32) (hd : decode cc pc = .ok (.ixor, 1)) (hz : x ^^^ y = z) (kk : Go Γ g nL R k n M (pc + 1) lv (.int z :: st)) : Go Γ g nL R k n M pc lv (.int y :: .int x :: st) := by
  obtain ⟨p, l, e, s, m, args, below, meth, c, A, Q⟩ := Γ
  obtain ⟨hx, hb, hml, hown, hts, hK, hA, hE⟩ := X
  intro H locs ls hP hD hS hl
  exact lv_ixor hx hb hd (hz ▸ (kk H locs ls hP hD hS hl))
theorem Go.ishl (X : Cx Γ g nL cc own Ts) {x y : Int32} (hd : decode cc pc = .ok (.ishl, 1)) (kk : Go Γ g nL R k n M (pc + 1) lv (.int (x <<< (y &&& 31)) :: st)) : Go Γ g nL R k n M pc lv (.int y :: .int x :: st) := by
  obtain ⟨p, l, e, s, m, args, below, meth, c, A, Q⟩ := Γ
  obtain ⟨hx, hb, hml, hown, hts, hK, hA, hE⟩ := X
  intro H locs ls hP hD hS hl
  exact lv_ishl hx hb hd (kk H locs ls hP hD hS hl)
theorem Go.ishl_e (X : Cx Γ g nL cc own Ts) {x y : Int32} (z : Int32) (hd : decode cc pc = .ok (.ishl, 1)) (hz : x <<< (y &&& 31) = z) (kk : Go Γ g nL R k n M (pc + 1) lv (.int z :: st)) : Go Γ g nL R k n M pc lv (.int y :: .int x :: st) := by
  obtain ⟨p, l, e, s, m, args, below, meth, c, A, Q⟩ := Γ
  obtain ⟨hx, hb, hml, hown, hts, hK, hA, hE⟩ := X
  intro H locs ls hP hD hS hl
  exact lv_ishl hx hb hd (hz ▸ (kk H locs ls hP hD hS hl))
theorem Go.ishr (X : Cx Γ g nL cc own Ts) {x y : Int32} (hd : decode cc pc = .ok (.ishr, 1)) (kk : Go Γ g nL R k n M (pc + 1) lv (.int (x >>> (y &&& 31)) :: st)) : Go Γ g nL R k n M pc lv (.int y :: .int x :: st) := by
  obtain ⟨p, l, e, s, m, args, below, meth, c, A, Q⟩ := Γ
  obtain ⟨hx, hb, hml, hown, hts, hK, hA, hE⟩ := X
  intro H locs ls hP hD hS hl
  exact lv_ishr hx hb hd (kk H locs ls hP hD hS hl)
theorem Go.ishr_e (X : Cx Γ g nL cc own Ts) {x y : Int32} (z : Int32) (hd : decode cc pc = .ok (.ishr, 1)) (hz : x >>> (y &&& 31) = z) (kk : Go Γ g nL R k n M (pc + 1) lv (.int z :: st)) : Go Γ g nL R k n M pc lv (.int y :: .int x :: st) := by
  obtain ⟨p, l, e, s, m, args, below, meth, c, A, Q⟩ := Γ
  obtain ⟨hx, hb, hml, hown, hts, hK, hA, hE⟩ := X
  intro H locs ls hP hD hS hl
  exact lv_ishr hx hb hd (hz ▸ (kk H locs ls hP hD hS hl))
theorem Go.idiv (X : Cx Γ g nL cc own Ts) {x y : Int32} (hd : decode cc pc = .ok (.idiv, 1)) (hne : ¬ y = 0) (kk : Go Γ g nL R k n M (pc + 1) lv (.int (x / y) :: st)) : Go Γ g nL R k n M pc lv (.int y :: .int x :: st) := by
  obtain ⟨p, l, e, s, m, args, below, meth, c, A, Q⟩ := Γ
  obtain ⟨hx, hb, hml, hown, hts, hK, hA, hE⟩ := X
  intro H locs ls hP hD hS hl
  exact lv_idiv hx hb hd hne (kk H locs ls hP hD hS hl)
theorem Go.idiv_e (X : Cx Γ g nL cc own Ts) {x y : Int32} (z : Int32) (hd : decode cc pc = .ok (.idiv, 1)) (hne : ¬ y = 0) (hz : x / y = z) (kk : Go Γ g nL R k n M (pc + 1) lv (.int z :: st)) : Go Γ g nL R k n M pc lv (.int y :: .int x :: st) := by
  obtain ⟨p, l, e, s, m, args, below, meth, c, A, Q⟩ := Γ
  obtain ⟨hx, hb, hml, hown, hts, hK, hA, hE⟩ := X
  intro H locs ls hP hD hS hl
  exact lv_idiv hx hb hd hne (hz ▸ (kk H locs ls hP hD hS hl))
theorem Go.irem (X : Cx Γ g nL cc own Ts) {x y : Int32} (hd : decode cc pc = .ok (.irem, 1)) (hne : ¬ y = 0) (kk : Go Γ g nL R k n M (pc + 1) lv (.int (x - x / y * y) :: st)) : Go Γ g nL R k n M pc lv (.int y :: .int x :: st) := by
  obtain ⟨p, l, e, s, m, args, below, meth, c, A, Q⟩ := Γ
  obtain ⟨hx, hb, hml, hown, hts, hK, hA, hE⟩ := X
  intro H locs ls hP hD hS hl
  exact lv_irem hx hb hd hne (kk H locs ls hP hD hS hl)
theorem Go.irem_e (X : Cx Γ g nL cc own Ts) {x y : Int32} (z : Int32) (hd : decode cc pc = .ok (.irem, 1)) (hne : ¬ y = 0) (hz : x - x / y * y = z) (kk : Go Γ g nL R k n M (pc + 1) lv (.int z :: st)) : Go Γ g nL R k n M pc lv (.int y :: .int x :: st) := by
  obtain ⟨p, l, e, s, m, args, below, meth, c, A, Q⟩ := Γ
  obtain ⟨hx, hb, hml, hown, hts, hK, hA, hE⟩ := X
  intro H locs ls hP hD hS hl
  exact lv_irem hx hb hd hne (hz ▸ (kk H locs ls hP hD hS hl))
theorem Go.ineg (X : Cx Γ g nL cc own Ts) {x : Int32} (hd : decode cc pc = .ok (.ineg, 1)) (kk : Go Γ g nL R k n M (pc + 1) lv (.int (-x) :: st)) : Go Γ g nL R k n M pc lv (.int x :: st) := by
  obtain ⟨p, l, e, s, m, args, below, meth, c, A, Q⟩ := Γ
  obtain ⟨hx, hb, hml, hown, hts, hK, hA, hE⟩ := X
  intro H locs ls hP hD hS hl
  exact lv_ineg hx hb hd (kk H locs ls hP hD hS hl)
theorem Go.iushr (X : Cx Γ g nL cc own Ts) {x y : Int32} (v : Int32) (hd : decode cc pc = .ok (.iushr, 1)) (hv : (x.toUInt32 >>> (y.toUInt32 &&& Int32.toUInt32 31)).toInt32 = v) (kk : Go Γ g nL R k n M (pc + 1) lv (.int v :: st)) : Go Γ g nL R k n M pc lv (.int y :: .int x :: st) := by
  obtain ⟨p, l, e, s, m, args, below, meth, c, A, Q⟩ := Γ
  obtain ⟨hx, hb, hml, hown, hts, hK, hA, hE⟩ := X
  intro H locs ls hP hD hS hl
  exact lv_iushr hx hb hd hv (kk H locs ls hP hD hS hl)
theorem Go.ladd (X : Cx Γ g nL cc own Ts) {x y : Int64} (z : Int64) (hd : decode cc pc = .ok (.ladd, 1)) (hz : x + y = z) (kk : Go Γ g nL R k n M (pc + 1) lv (.long z :: st)) : Go Γ g nL R k n M pc lv (.long y :: .long x :: st) := by
  obtain ⟨p, l, e, s, m, args, below, meth, c, A, Q⟩ := Γ
  obtain ⟨hx, hb, hml, hown, hts, hK, hA, hE⟩ := X
  intro H locs ls hP hD hS hl
  exact lv_ladd hx hb hd (hz ▸ (kk H locs ls hP hD hS hl))
theorem Go.lsub (X : Cx Γ g nL cc own Ts) {x y : Int64} (z : Int64) (hd : decode cc pc = .ok (.lsub, 1)) (hz : x - y = z) (kk : Go Γ g nL R k n M (pc + 1) lv (.long z :: st)) : Go Γ g nL R k n M pc lv (.long y :: .long x :: st) := by
  obtain ⟨p, l, e, s, m, args, below, meth, c, A, Q⟩ := Γ
  obtain ⟨hx, hb, hml, hown, hts, hK, hA, hE⟩ := X
  intro H locs ls hP hD hS hl
  exact lv_lsub hx hb hd (hz ▸ (kk H locs ls hP hD hS hl))
theorem Go.lmul (X : Cx Γ g nL cc own Ts) {x y : Int64} (z : Int64) (hd : decode cc pc = .ok (.lmul, 1)) (hz : x * y = z) (kk : Go Γ g nL R k n M (pc + 1) lv (.long z :: st)) : Go Γ g nL R k n M pc lv (.long y :: .long x :: st) := by
  obtain ⟨p, l, e, s, m, args, below, meth, c, A, Q⟩ := Γ
  obtain ⟨hx, hb, hml, hown, hts, hK, hA, hE⟩ := X
  intro H locs ls hP hD hS hl
  exact lv_lmul hx hb hd (hz ▸ (kk H locs ls hP hD hS hl))
theorem Go.land (X : Cx Γ g nL cc own Ts) {x y : Int64} (z : Int64) (hd : decode cc pc = .ok (.land, 1)) (hz : x &&& y = z) (kk : Go Γ g nL R k n M (pc + 1) lv (.long z :: st)) : Go Γ g nL R k n M pc lv (.long y :: .long x :: st) := by
  obtain ⟨p, l, e, s, m, args, below, meth, c, A, Q⟩ := Γ
  obtain ⟨hx, hb, hml, hown, hts, hK, hA, hE⟩ := X
  intro H locs ls hP hD hS hl
  exact lv_land hx hb hd (hz ▸ (kk H locs ls hP hD hS hl))
theorem Go.lor (X : Cx Γ g nL cc own Ts) {x y : Int64} (z : Int64) (hd : decode cc pc = .ok (.lor, 1)) (hz : x ||| y = z) (kk : Go Γ g nL R k n M (pc + 1) lv (.long z :: st)) : Go Γ g nL R k n M pc lv (.long y :: .long x :: st) := by
  obtain ⟨p, l, e, s, m, args, below, meth, c, A, Q⟩ := Γ
  obtain ⟨hx, hb, hml, hown, hts, hK, hA, hE⟩ := X
  intro H locs ls hP hD hS hl
  exact lv_lor hx hb hd (hz ▸ (kk H locs ls hP hD hS hl))
theorem Go.ldiv (X : Cx Γ g nL cc own Ts) {x y : Int64} (z : Int64) (hd : decode cc pc = .ok (.ldiv, 1)) (hne : ¬ y = 0) (hz : x / y = z) (kk : Go Γ g nL R k n M (pc + 1) lv (.long z :: st)) : Go Γ g nL R k n M pc lv (.long y :: .long x :: st) := by
  obtain ⟨p, l, e, s, m, args, below, meth, c, A, Q⟩ := Γ
  obtain ⟨hx, hb, hml, hown, hts, hK, hA, hE⟩ := X
  intro H locs ls hP hD hS hl
  exact lv_ldiv hx hb hd hne (hz ▸ (kk H locs ls hP hD hS hl))
theorem Go.lrem (X : Cx Γ g nL cc own Ts) {x y : Int64} (z : Int64) (hd : decode cc pc = .ok (.lrem, 1)) (hne : ¬ y = 0) (hz : x - x / y * y = z) (kk : Go Γ g nL R k n M (pc + 1) lv (.long z :: st)) : Go Γ g nL R k n M pc lv (.long y :: .long x :: st) := by
  obtain ⟨p, l, e, s, m, args, below, meth, c, A, Q⟩ := Γ
  obtain ⟨hx, hb, hml, hown, hts, hK, hA, hE⟩ := X
  intro H locs ls hP hD hS hl
  exact lv_lrem hx hb hd hne (hz ▸ (kk H locs ls hP hD hS hl))
theorem Go.lshl (X : Cx Γ g nL cc own Ts) {x : Int64} {y : Int32} (v : Int64) (hd : decode cc pc = .ok (.lshl, 1)) (hv : x <<< (y.toInt64 &&& 63) = v) (kk : Go Γ g nL R k n M (pc + 1) lv (.long v :: st)) : Go Γ g nL R k n M pc lv (.int y :: .long x :: st) := by
  obtain ⟨p, l, e, s, m, args, below, meth, c, A, Q⟩ := Γ
  obtain ⟨hx, hb, hml, hown, hts, hK, hA, hE⟩ := X
  intro H locs ls hP hD hS hl
  exact lv_lshl hx hb hd hv (kk H locs ls hP hD hS hl)
theorem Go.lcmp (X : Cx Γ g nL cc own Ts) {x y : Int64} (hd : decode cc pc = .ok (.lcmp, 1)) (kk : Go Γ g nL R k n M (pc + 1) lv (.int (lg_cmp x y) :: st)) : Go Γ g nL R k n M pc lv (.long y :: .long x :: st) := by
  obtain ⟨p, l, e, s, m, args, below, meth, c, A, Q⟩ := Γ
  obtain ⟨hx, hb, hml, hown, hts, hK, hA, hE⟩ := X
  intro H locs ls hP hD hS hl
  exact W.lcmp hx hb hd (kk H locs ls hP hD hS hl)
theorem Go.i2l (X : Cx Γ g nL cc own Ts) {x : Int32} (v : Int64) (hd : decode cc pc = .ok (.i2l, 1)) (hv : x.toInt64 = v) (kk : Go Γ g nL R k n M (pc + 1) lv (.long v :: st)) : Go Γ g nL R k n M pc lv (.int x :: st) := by
  obtain ⟨p, l, e, s, m, args, below, meth, c, A, Q⟩ := Γ
  obtain ⟨hx, hb, hml, hown, hts, hK, hA, hE⟩ := X
  intro H locs ls hP hD hS hl
  exact lv_i2l hx hb hd hv (kk H locs ls hP hD hS hl)
theorem Go.l2i (X : Cx Γ g nL cc own Ts) {x : Int64} (v : Int32) (hd : decode cc pc = .ok (.l2i, 1)) (hv : x.toInt32 = v) (kk : Go Γ g nL R k n M (pc + 1) lv (.int v :: st)) : Go Γ g nL R k n M pc lv (.long x :: st) := by
  obtain ⟨p, l, e, s, m, args, below, meth, c, A, Q⟩ := Γ
  obtain ⟨hx, hb, hml, hown, hts, hK, hA, hE⟩ := X
  intro H locs ls hP hD hS hl
  exact lv_l2i hx hb hd hv (kk H locs ls hP hD hS hl)
theorem Go.i2b (X : Cx Γ g nL cc own Ts) {x : Int32} (v : Int32) (hd : decode cc pc = .ok (.i2b, 1)) (hv : x.toInt8.toInt32 = v) (kk : Go Γ g nL R k n M (pc + 1) lv (.int v :: st)) : Go Γ g nL R k n M pc lv (.int x :: st) := by
  obtain ⟨p, l, e, s, m, args, below, meth, c, A, Q⟩ := Γ
  obtain ⟨hx, hb, hml, hown, hts, hK, hA, hE⟩ := X
  intro H locs ls hP hD hS hl
  exact lv_i2b hx hb hd hv (kk H locs ls hP hD hS hl)
theorem Go.i2s (X : Cx Γ g nL cc own Ts) {x : Int32} (v : Int32) (hd : decode cc pc = .ok (.i2s, 1)) (hv : x.toInt16.toInt32 = v) (kk : Go Γ g nL R k n M (pc + 1) lv (.int v :: st)) : Go Γ g nL R k n M pc lv (.int x :: st) := by
  obtain ⟨p, l, e, s, m, args, below, meth, c, A, Q⟩ := Γ
  obtain ⟨hx, hb, hml, hown, hts, hK, hA, hE⟩ := X
  intro H locs ls hP hD hS hl
  exact lv_i2s hx hb hd hv (kk H locs ls hP hD hS hl)
theorem Go.dup (X : Cx Γ g nL cc own Ts) {v : Value} (hd : decode cc pc = .ok (.dup, 1)) (hc : v.category = 1) (kk : Go Γ g nL R k n M (pc + 1) lv (v :: v :: st)) : Go Γ g nL R k n M pc lv (v :: st) := by
  obtain ⟨p, l, e, s, m, args, below, meth, c, A, Q⟩ := Γ
  obtain ⟨hx, hb, hml, hown, hts, hK, hA, hE⟩ := X
  intro H locs ls hP hD hS hl
  exact lv_dup hx hb hd hc (kk H locs ls hP hD hS hl)
theorem Go.pop (X : Cx Γ g nL cc own Ts) {v : Value} (hd : decode cc pc = .ok (.pop, 1)) (hc : v.category = 1) (kk : Go Γ g nL R k n M (pc + 1) lv st) : Go Γ g nL R k n M pc lv (v :: st) := by
  obtain ⟨p, l, e, s, m, args, below, meth, c, A, Q⟩ := Γ
  obtain ⟨hx, hb, hml, hown, hts, hK, hA, hE⟩ := X
  intro H locs ls hP hD hS hl
  exact lv_pop hx hb hd hc (kk H locs ls hP hD hS hl)
theorem Go.dup_x1 (X : Cx Γ g nL cc own Ts) {v w : Value} (hd : decode cc pc = .ok (.dup_x1, 1)) (hc : v.category = 1) (hw : w.category = 1) (kk : Go Γ g nL R k n M (pc + 1) lv (v :: w :: v :: st)) : Go Γ g nL R k n M pc lv (v :: w :: st) := by
  obtain ⟨p, l, e, s, m, args, below, meth, c, A, Q⟩ := Γ
  obtain ⟨hx, hb, hml, hown, hts, hK, hA, hE⟩ := X
  intro H locs ls hP hD hS hl
  exact lv_dup_x1 hx hb hd hc hw (kk H locs ls hP hD hS hl)
theorem Go.dup2 (X : Cx Γ g nL cc own Ts) {v w : Value} (hd : decode cc pc = .ok (.dup2, 1)) (hc : v.category = 1) (hw : w.category = 1) (kk : Go Γ g nL R k n M (pc + 1) lv (v :: w :: v :: w :: st)) : Go Γ g nL R k n M pc lv (v :: w :: st) := by
  obtain ⟨p, l, e, s, m, args, below, meth, c, A, Q⟩ := Γ
  obtain ⟨hx, hb, hml, hown, hts, hK, hA, hE⟩ := X
  intro H locs ls hP hD hS hl
  exact lv_dup2_11 hx hb hd hc hw (kk H locs ls hP hD hS hl)
theorem Go.top {v w : Value} (h : v = w) (kk : Go Γ g nL R k n M pc lv (w :: st)) : Go Γ g nL R k n M pc lv (v :: st) := h ▸ kk
theorem Go.top2 {u v w : Value} (h : v = w) (kk : Go Γ g nL R k n M pc lv (u :: w :: st)) : Go Γ g nL R k n M pc lv (u :: v :: st) := h ▸ kk
theorem Go.conv {M1 : va_W} {lv1 : List (Nat × Value)} {st1 : List Value} (kk : Go Γ g nL R k n M1 pc lv1 st1) (hM : M = M1) (hl : lv = lv1) (hs : st = st1) : Go Γ g nL R k n M pc lv st := by subst hM; subst hl; subst hs; exact kk
theorem Go.sub {lv1 : List (Nat × Value)} (ks : List Nat) (hq : lv_pick lv ks = lv1) (kk : Go Γ g nL R k n M pc lv1 st) : Go Γ g nL R k n M pc lv st := by
  obtain ⟨p, l, e, s, m, args, below, meth, c, A, Q⟩ := Γ
  intro H locs ls hP hD hS hl
  exact kk H locs ls hP hD hS (lv_sub hl ks hq)
theorem Go.goto (X : Cx Γ g nL cc own Ts) {off : Int} (tgt : Nat) (hd : decode cc pc = .ok (.goto off, 3)) (ht : (pc : Int) + off = (tgt : Int)) (kk : Go Γ g nL R k n M tgt lv st) : Go Γ g nL R k n M pc lv st := by
  obtain ⟨p, l, e, s, m, args, below, meth, c, A, Q⟩ := Γ
  obtain ⟨hx, hb, hml, hown, hts, hK, hA, hE⟩ := X
  intro H locs ls hP hD hS hl
  exact lv_goto hx hb hd ht (kk H locs ls hP hD hS hl)
theorem Go.if_eq (X : Cx Γ g nL cc own Ts) {x : Int32} {off : Int} (tgt : Nat) (hd : decode cc pc = .ok (.ifCond .eq off, 3)) (ht : (pc : Int) + off = (tgt : Int)) (kt : x = 0 → Go Γ g nL R k n M tgt lv st) (kf : ¬ x = 0 → Go Γ g nL R k n M (pc + 3) lv st) : Go Γ g nL R k n M pc lv (.int x :: st) := by
  obtain ⟨p, l, e, s, m, args, below, meth, c, A, Q⟩ := Γ
  obtain ⟨hx, hb, hml, hown, hts, hK, hA, hE⟩ := X
  intro H locs ls hP hD hS hl
  exact lv_if_eq hx hb hd ht (fun z => kt z H locs ls hP hD hS hl) (fun z => kf z H locs ls hP hD hS hl)
theorem Go.if_ne (X : Cx Γ g nL cc own Ts) {x : Int32} {off : Int} (tgt : Nat) (hd : decode cc pc = .ok (.ifCond .ne off, 3)) (ht : (pc : Int) + off = (tgt : Int)) (kt : ¬ x = 0 → Go Γ g nL R k n M tgt lv st) (kf : x = 0 → Go Γ g nL R k n M (pc + 3) lv st) : Go Γ g nL R k n M pc lv (.int x :: st) := by
  obtain ⟨p, l, e, s, m, args, below, meth, c, A, Q⟩ := Γ
  obtain ⟨hx, hb, hml, hown, hts, hK, hA, hE⟩ := X
  intro H locs ls hP hD hS hl
  exact lv_if_ne hx hb hd ht (fun z => kt z H locs ls hP hD hS hl) (fun z => kf z H locs ls hP hD hS hl)
theorem Go.if_lt (X : Cx Γ g nL cc own Ts) {x : Int32} {off : Int} (tgt : Nat) (hd : decode cc pc = .ok (.ifCond .lt off, 3)) (ht : (pc : Int) + off = (tgt : Int)) (kt : x < 0 → Go Γ g nL R k n M tgt lv st) (kf : ¬ x < 0 → Go Γ g nL R k n M (pc + 3) lv st) : Go Γ g nL R k n M pc lv (.int x :: st) := by
  obtain ⟨p, l, e, s, m, args, below, meth, c, A, Q⟩ := Γ
  obtain ⟨hx, hb, hml, hown, hts, hK, hA, hE⟩ := X
  intro H locs ls hP hD hS hl
  exact lv_if_lt hx hb hd ht (fun z => kt z H locs ls hP hD hS hl) (fun z => kf z H locs ls hP hD hS hl)
theorem Go.if_ge (X : Cx Γ g nL cc own Ts) {x : Int32} {off : Int} (tgt : Nat) (hd : decode cc pc = .ok (.ifCond .ge off, 3)) (ht : (pc : Int) + off = (tgt : Int)) (kt : 0 ≤ x → Go Γ g nL R k n M tgt lv st) (kf : ¬ 0 ≤ x → Go Γ g nL R k n M (pc + 3) lv st) : Go Γ g nL R k n M pc lv (.int x :: st) := by
  obtain ⟨p, l, e, s, m, args, below, meth, c, A, Q⟩ := Γ
  obtain ⟨hx, hb, hml, hown, hts, hK, hA, hE⟩ := X
  intro H locs ls hP hD hS hl
  exact lv_if_ge hx hb hd ht (fun z => kt z H locs ls hP hD hS hl) (fun z => kf z H locs ls hP hD hS hl)
theorem Go.if_gt (X : Cx Γ g nL cc own Ts) {x : Int32} {off : Int} (tgt : Nat) (hd : decode cc pc = .ok (.ifCond .gt off, 3)) (ht : (pc : Int) + off = (tgt : Int)) (kt : 0 < x → Go Γ g nL R k n M tgt lv st) (kf : ¬ 0 < x → Go Γ g nL R k n M (pc + 3) lv st) : Go Γ g nL R k n M pc lv (.int x :: st) := by
  obtain ⟨p, l, e, s, m, args, below, meth, c, A, Q⟩ := Γ
  obtain ⟨hx, hb, hml, hown, hts, hK, hA, hE⟩ := X
  intro H locs ls hP hD hS hl
  exact lv_if_gt hx hb hd ht (fun z => kt z H locs ls hP hD hS hl) (fun z => kf z H locs ls hP hD hS hl)
theorem Go.if_le (X : Cx Γ g nL cc own Ts) {x : Int32} {off : Int} (tgt : Nat) (hd : decode cc pc = .ok (.ifCond .le off, 3)) (ht : (pc : Int) + off = (tgt : Int)) (kt : x ≤ 0 → Go Γ g nL R k n M tgt lv st) (kf : ¬ x ≤ 0 → Go Γ g nL R k n M (pc + 3) lv st) : Go Γ g nL R k n M pc lv (.int x :: st) := by
  obtain ⟨p, l, e, s, m, args, below, meth, c, A, Q⟩ := Γ
  obtain ⟨hx, hb, hml, hown, hts, hK, hA, hE⟩ := X
  intro H locs ls hP hD hS hl
  exact lv_if_le hx hb hd ht (fun z => kt z H locs ls hP hD hS hl) (fun z => kf z H locs ls hP hD hS hl)
theorem Go.icmp_eq (X : Cx Γ g nL cc own Ts) {x y : Int32} {off : Int} (tgt : Nat) (hd : decode cc pc = .ok (.if_icmp .eq off, 3)) (ht : (pc : Int) + off = (tgt : Int)) (kt : x = y → Go Γ g nL R k n M tgt lv st) (kf : ¬ x = y → Go Γ g nL R k n M (pc + 3) lv st) : Go Γ g nL R k n M pc lv (.int y :: .int x :: st) := by
  obtain ⟨p, l, e, s, m, args, below, meth, c, A, Q⟩ := Γ
  obtain ⟨hx, hb, hml, hown, hts, hK, hA, hE⟩ := X
  intro H locs ls hP hD hS hl
  exact lv_icmp_eq hx hb hd ht (fun z => kt z H locs ls hP hD hS hl) (fun z => kf z H locs ls hP hD hS hl)
theorem Go.icmp_ne (X : Cx Γ g nL cc own Ts) {x y : Int32} {off : Int} (tgt : Nat) (hd : decode cc pc = .ok (.if_icmp .ne off, 3)) (ht : (pc : Int) + off = (tgt : Int)) (kt : ¬ x = y → Go Γ g nL R k n M tgt lv st) (kf : x = y → Go Γ g nL R k n M (pc + 3) lv st) : Go Γ g nL R k n M pc lv (.int y :: .int x :: st) := by
  obtain ⟨p, l, e, s, m, args, below, meth, c, A, Q⟩ := Γ
  obtain ⟨hx, hb, hml, hown, hts, hK, hA, hE⟩ := X
  intro H locs ls hP hD hS hl
  exact lv_icmp_ne hx hb hd ht (fun z => kt z H locs ls hP hD hS hl) (fun z => kf z H locs ls hP hD hS hl)
theorem Go.icmp_lt (X : Cx Γ g nL cc own Ts) {x y : Int32} {off : Int} (tgt : Nat) (hd : decode cc pc = .ok (.if_icmp .lt off, 3)) (ht : (pc : Int) + off = (tgt : Int)) (kt : x < y → Go Γ g nL R k n M tgt lv st) (kf : ¬ x < y → Go Γ g nL R k n M (pc + 3) lv st) : Go Γ g nL R k n M pc lv (.int y :: .int x :: st) := by
  obtain ⟨p, l, e, s, m, args, below, meth, c, A, Q⟩ := Γ
  obtain ⟨hx, hb, hml, hown, hts, hK, hA, hE⟩ := X
  intro H locs ls hP hD hS hl
  exact lv_icmp_lt hx hb hd ht (fun z => kt z H locs ls hP hD hS hl) (fun z => kf z H locs ls hP hD hS hl)
theorem Go.icmp_ge (X : Cx Γ g nL cc own Ts) {x y : Int32} {off : Int} (tgt : Nat) (hd : decode cc pc = .ok (.if_icmp .ge off, 3)) (ht : (pc : Int) + off = (tgt : Int)) (kt : y ≤ x → Go Γ g nL R k n M tgt lv st) (kf : ¬ y ≤ x → Go Γ g nL R k n M (pc + 3) lv st) : Go Γ g nL R k n M pc lv (.int y :: .int x :: st) := by
  obtain ⟨p, l, e, s, m, args, below, meth, c, A, Q⟩ := Γ
  obtain ⟨hx, hb, hml, hown, hts, hK, hA, hE⟩ := X
  intro H locs ls hP hD hS hl
  exact lv_icmp_ge hx hb hd ht (fun z => kt z H locs ls hP hD hS hl) (fun z => kf z H locs ls hP hD hS hl)
theorem Go.icmp_gt (X : Cx Γ g nL cc own Ts) {x y : Int32} {off : Int} (tgt : Nat) (hd : decode cc pc = .ok (.if_icmp .gt off, 3)) (ht : (pc : Int) + off = (tgt : Int)) (kt : y < x → Go Γ g nL R k n M tgt lv st) (kf : ¬ y < x → Go Γ g nL R k n M (pc + 3) lv st) : Go Γ g nL R k n M pc lv (.int y :: .int x :: st) := by
  obtain ⟨p, l, e, s, m, args, below, meth, c, A, Q⟩ := Γ
  obtain ⟨hx, hb, hml, hown, hts, hK, hA, hE⟩ := X
  intro H locs ls hP hD hS hl
  exact lv_icmp_gt hx hb hd ht (fun z => kt z H locs ls hP hD hS hl) (fun z => kf z H locs ls hP hD hS hl)
theorem Go.icmp_le (X : Cx Γ g nL cc own Ts) {x y : Int32} {off : Int} (tgt : Nat) (hd : decode cc pc = .ok (.if_icmp .le off, 3)) (ht : (pc : Int) + off = (tgt : Int)) (kt : x ≤ y → Go Γ g nL R k n M tgt lv st) (kf : ¬ x ≤ y → Go Γ g nL R k n M (pc + 3) lv st) : Go Γ g nL R k n M pc lv (.int y :: .int x :: st) := by
  obtain ⟨p, l, e, s, m, args, below, meth, c, A, Q⟩ := Γ
  obtain ⟨hx, hb, hml, hown, hts, hK, hA, hE⟩ := X
  intro H locs ls hP hD hS hl
  exact lv_icmp_le hx hb hd ht (fun z => kt z H locs ls hP hD hS hl) (fun z => kf z H locs ls hP hD hS hl)
def b2i (b : Bool) : Int32 := bif b then 1 else 0
theorem b2i_0 {b : Bool} : b2i b = 0 ↔ b = false := by cases b <;> decide
theorem b2i_n {b : Bool} : ¬ b2i b = 0 ↔ b = true := by cases b <;> decide
theorem b2i_nar (b : Bool) : narrow .boolean (.int (b2i b)) = .int (b2i b) := by cases b <;> rfl
theorem Go.if_eqB (X : Cx Γ g nL cc own Ts) {b : Bool} {off : Int} (tgt : Nat) (hd : decode cc pc = .ok (.ifCond .eq off, 3)) (ht : (pc : Int) + off = (tgt : Int)) (kt : b = false → Go Γ g nL R k n M tgt lv st) (kf : b = true → Go Γ g nL R k n M (pc + 3) lv st) : Go Γ g nL R k n M pc lv (.int (b2i b) :: st) := Go.if_eq X tgt hd ht (fun z => kt (b2i_0.mp z)) (fun z => kf (b2i_n.mp z))
theorem Go.if_neB (X : Cx Γ g nL cc own Ts) {b : Bool} {off : Int} (tgt : Nat) (hd : decode cc pc = .ok (.ifCond .ne off, 3)) (ht : (pc : Int) + off = (tgt : Int)) (kt : b = true → Go Γ g nL R k n M tgt lv st) (kf : b = false → Go Γ g nL R k n M (pc + 3) lv st) : Go Γ g nL R k n M pc lv (.int (b2i b) :: st) := Go.if_ne X tgt hd ht (fun z => kt (b2i_n.mp z)) (fun z => kf (b2i_0.mp z))
theorem gtN1 {a : Nat} (z : 0 < nI a) : 0 < a := Nat.pos_of_ne_zero fun q => by subst q; exact absurd z (by decide)
theorem gtN0 {a : Nat} (ha : a < 2 ^ 31) (z : ¬ 0 < nI a) : a = 0 := by
  rcases Nat.eq_zero_or_pos a with q | q
  · exact q
  · exact absurd (nI_lt (a := 0) q ha) z
theorem leN1 {a : Nat} (ha : a < 2 ^ 31) (z : nI a ≤ 0) : a = 0 := by
  rcases Nat.eq_zero_or_pos a with q | q
  · exact q
  · exact absurd z (nI_nle q ha)
theorem leN0 {a : Nat} (z : ¬ nI a ≤ 0) : 0 < a := Nat.pos_of_ne_zero fun q => by subst q; exact absurd (show nI 0 ≤ 0 by decide) z
theorem nI_0i {a : Nat} (ha : a < 2 ^ 31) : nI a = 0 ↔ a = 0 := nI_eq ha (b := 0) (by decide)
theorem Go.if_eqN (X : Cx Γ g nL cc own Ts) {a : Nat} {off : Int} (tgt : Nat) (hd : decode cc pc = .ok (.ifCond .eq off, 3)) (ht : (pc : Int) + off = (tgt : Int)) (ha : a < 2 ^ 31) (kt : a = 0 → Go Γ g nL R k n M tgt lv st) (kf : ¬ a = 0 → Go Γ g nL R k n M (pc + 3) lv st) : Go Γ g nL R k n M pc lv (.int (nI a) :: st) := Go.if_eq X tgt hd ht (fun z => kt ((nI_0i ha).mp z)) (fun z => kf (fun q => z ((nI_0i ha).mpr q)))
theorem Go.if_neN (X : Cx Γ g nL cc own Ts) {a : Nat} {off : Int} (tgt : Nat) (hd : decode cc pc = .ok (.ifCond .ne off, 3)) (ht : (pc : Int) + off = (tgt : Int)) (ha : a < 2 ^ 31) (kt : ¬ a = 0 → Go Γ g nL R k n M tgt lv st) (kf : a = 0 → Go Γ g nL R k n M (pc + 3) lv st) : Go Γ g nL R k n M pc lv (.int (nI a) :: st) := Go.if_ne X tgt hd ht (fun z => kt (fun q => z ((nI_0i ha).mpr q))) (fun z => kf ((nI_0i ha).mp z))
theorem Go.if_gtN (X : Cx Γ g nL cc own Ts) {a : Nat} {off : Int} (tgt : Nat) (hd : decode cc pc = .ok (.ifCond .gt off, 3)) (ht : (pc : Int) + off = (tgt : Int)) (ha : a < 2 ^ 31) (kt : 0 < a → Go Γ g nL R k n M tgt lv st) (kf : a = 0 → Go Γ g nL R k n M (pc + 3) lv st) : Go Γ g nL R k n M pc lv (.int (nI a) :: st) := Go.if_gt X tgt hd ht (fun z => kt (gtN1 z)) (fun z => kf (gtN0 ha z))
theorem Go.if_leN (X : Cx Γ g nL cc own Ts) {a : Nat} {off : Int} (tgt : Nat) (hd : decode cc pc = .ok (.ifCond .le off, 3)) (ht : (pc : Int) + off = (tgt : Int)) (ha : a < 2 ^ 31) (kt : a = 0 → Go Γ g nL R k n M tgt lv st) (kf : 0 < a → Go Γ g nL R k n M (pc + 3) lv st) : Go Γ g nL R k n M pc lv (.int (nI a) :: st) := Go.if_le X tgt hd ht (fun z => kt (leN1 ha z)) (fun z => kf (leN0 z))
theorem Go.if_ltN (X : Cx Γ g nL cc own Ts) {a : Nat} {off : Int} (tgt : Nat) (hd : decode cc pc = .ok (.ifCond .lt off, 3)) (ht : (pc : Int) + off = (tgt : Int)) (ha : a < 2 ^ 31) (kf : Go Γ g nL R k n M (pc + 3) lv st) : Go Γ g nL R k n M pc lv (.int (nI a) :: st) := Go.if_lt X tgt hd ht (fun z => absurd z (nI_pos ha)) (fun _ => kf)
theorem Go.if_geN (X : Cx Γ g nL cc own Ts) {a : Nat} {off : Int} (tgt : Nat) (hd : decode cc pc = .ok (.ifCond .ge off, 3)) (ht : (pc : Int) + off = (tgt : Int)) (ha : a < 2 ^ 31) (kt : Go Γ g nL R k n M tgt lv st) : Go Γ g nL R k n M pc lv (.int (nI a) :: st) := Go.if_ge X tgt hd ht (fun _ => kt) (fun z => absurd (nI_pos' ha) z)
theorem Go.icmp_eqN (X : Cx Γ g nL cc own Ts) {a b : Nat} {off : Int} (tgt : Nat) (hd : decode cc pc = .ok (.if_icmp .eq off, 3)) (ht : (pc : Int) + off = (tgt : Int)) (ha : a < 2 ^ 31) (hb2 : b < 2 ^ 31) (kt : a = b → Go Γ g nL R k n M tgt lv st) (kf : ¬ a = b → Go Γ g nL R k n M (pc + 3) lv st) : Go Γ g nL R k n M pc lv (.int (nI b) :: .int (nI a) :: st) := Go.icmp_eq X tgt hd ht (fun z => kt ((nI_eq ha hb2).mp z)) (fun z => kf (fun q => z ((nI_eq ha hb2).mpr q)))
theorem Go.icmp_neN (X : Cx Γ g nL cc own Ts) {a b : Nat} {off : Int} (tgt : Nat) (hd : decode cc pc = .ok (.if_icmp .ne off, 3)) (ht : (pc : Int) + off = (tgt : Int)) (ha : a < 2 ^ 31) (hb2 : b < 2 ^ 31) (kt : ¬ a = b → Go Γ g nL R k n M tgt lv st) (kf : a = b → Go Γ g nL R k n M (pc + 3) lv st) : Go Γ g nL R k n M pc lv (.int (nI b) :: .int (nI a) :: st) := Go.icmp_ne X tgt hd ht (fun z => kt (fun q => z ((nI_eq ha hb2).mpr q))) (fun z => kf ((nI_eq ha hb2).mp z))
theorem Go.icmp_ltN (X : Cx Γ g nL cc own Ts) {a b : Nat} {off : Int} (tgt : Nat) (hd : decode cc pc = .ok (.if_icmp .lt off, 3)) (ht : (pc : Int) + off = (tgt : Int)) (ha : a < 2 ^ 31) (hb2 : b < 2 ^ 31) (kt : a < b → Go Γ g nL R k n M tgt lv st) (kf : b ≤ a → Go Γ g nL R k n M (pc + 3) lv st) : Go Γ g nL R k n M pc lv (.int (nI b) :: .int (nI a) :: st) := Go.icmp_lt X tgt hd ht (fun z => kt ((nI_ltI ha hb2).mp z)) (fun z => kf (Nat.not_lt.mp fun q => z ((nI_ltI ha hb2).mpr q)))
theorem Go.icmp_geN (X : Cx Γ g nL cc own Ts) {a b : Nat} {off : Int} (tgt : Nat) (hd : decode cc pc = .ok (.if_icmp .ge off, 3)) (ht : (pc : Int) + off = (tgt : Int)) (ha : a < 2 ^ 31) (hb2 : b < 2 ^ 31) (kt : b ≤ a → Go Γ g nL R k n M tgt lv st) (kf : a < b → Go Γ g nL R k n M (pc + 3) lv st) : Go Γ g nL R k n M pc lv (.int (nI b) :: .int (nI a) :: st) := Go.icmp_ge X tgt hd ht (fun z => kt ((nI_leI hb2 ha).mp z)) (fun z => kf (Nat.not_le.mp fun q => z ((nI_leI hb2 ha).mpr q)))
theorem Go.icmp_gtN (X : Cx Γ g nL cc own Ts) {a b : Nat} {off : Int} (tgt : Nat) (hd : decode cc pc = .ok (.if_icmp .gt off, 3)) (ht : (pc : Int) + off = (tgt : Int)) (ha : a < 2 ^ 31) (hb2 : b < 2 ^ 31) (kt : b < a → Go Γ g nL R k n M tgt lv st) (kf : a ≤ b → Go Γ g nL R k n M (pc + 3) lv st) : Go Γ g nL R k n M pc lv (.int (nI b) :: .int (nI a) :: st) := Go.icmp_gt X tgt hd ht (fun z => kt ((nI_ltI hb2 ha).mp z)) (fun z => kf (Nat.not_lt.mp fun q => z ((nI_ltI hb2 ha).mpr q)))
theorem Go.icmp_leN (X : Cx Γ g nL cc own Ts) {a b : Nat} {off : Int} (tgt : Nat) (hd : decode cc pc = .ok (.if_icmp .le off, 3)) (ht : (pc : Int) + off = (tgt : Int)) (ha : a < 2 ^ 31) (hb2 : b < 2 ^ 31) (kt : a ≤ b → Go Γ g nL R k n M tgt lv st) (kf : b < a → Go Γ g nL R k n M (pc + 3) lv st) : Go Γ g nL R k n M pc lv (.int (nI b) :: .int (nI a) :: st) := Go.icmp_le X tgt hd ht (fun z => kt ((nI_leI ha hb2).mp z)) (fun z => kf (Nat.not_le.mp fun q => z ((nI_leI ha hb2).mpr q)))
theorem Go.tableOut (X : Cx Γ g nL cc own Ts) {dflt lo hi : Int} {offs : Array Int} {len : Nat} {x : Int32} (tgt : Nat) (hd : decode cc pc = .ok (.tableswitch dflt lo hi offs, len)) (h : x.toInt < lo ∨ hi < x.toInt) (ht : (pc : Int) + dflt = (tgt : Int)) (kk : Go Γ g nL R k n M tgt lv st) : Go Γ g nL R k n M pc lv (.int x :: st) := by
  obtain ⟨p, l, e, s, m, args, below, meth, c, A, Q⟩ := Γ
  obtain ⟨hx, hb, hml, hown, hts, hK, hA, hE⟩ := X
  intro H locs ls hP hD hS hl
  exact lv_tableOut hx hb hd h ht (kk H locs ls hP hD hS hl)
theorem Go.tableIn (X : Cx Γ g nL cc own Ts) {dflt lo hi : Int} {offs : Array Int} {len : Nat} {x : Int32} {off : Int} (tgt : Nat) (hd : decode cc pc = .ok (.tableswitch dflt lo hi offs, len)) (h1 : ¬ x.toInt < lo) (h2 : ¬ hi < x.toInt) (ho : offs[(x.toInt - lo).toNat]? = some off) (ht : (pc : Int) + off = (tgt : Int)) (kk : Go Γ g nL R k n M tgt lv st) : Go Γ g nL R k n M pc lv (.int x :: st) := by
  obtain ⟨p, l, e, s, m, args, below, meth, c, A, Q⟩ := Γ
  obtain ⟨hx, hb, hml, hown, hts, hK, hA, hE⟩ := X
  intro H locs ls hP hD hS hl
  exact lv_tableIn hx hb hd h1 h2 ho ht (kk H locs ls hP hD hS hl)
/-- a field's facts in a method: place ci of the class, place k of the field -/
def FL (Ts : List Cond) (own : String) (index ci k : Nat) : Prop := ∃ (C : String) (T : u_T) (N : Nat), vwCl[ci]? = some (C, T, N) ∧ (∀ w ∈ u_ws C T N, w ∈ Ts) ∧ k < N ∧ Cond.fieldLink own index (T k).1 (T k).2.1 (T k).2.2.1 ∈ Ts
def FP (ci k : Nat) (ty : FieldType) : Prop := ∃ (C : String) (T : u_T) (N : Nat) (ty0 : Nat → FieldType), vwCl[ci]? = some (C, T, N) ∧ (∀ j, j < N → parseFieldDescriptor (T j).2.2.1 = some (ty0 j)) ∧ (∀ a, a < N → ∀ b, b < N → a ≠ b → (T a).2.1 ≠ (T b).2.1) ∧ (T k).2.2.2 = false ∧ parseFieldDescriptor (T k).2.2.1 = some ty
theorem Go.get (X : Cx Γ g nL cc own Ts) {index ci j : Nat} (F : FL Ts own index ci j) (q : Nat) {a : Nat} {fs : List Value} {v : Value} (he : M[q]? = some (a, .inr (ci, fs))) (hv : fs[j]? = some v) (hd : decode cc pc = .ok (.getfield index, 3)) (kk : Go Γ g nL R k n M (pc + 3) lv (v :: st)) : Go Γ g nL R k n M pc lv (.ref a :: st) := by
  obtain ⟨C, T, N, f1, f2, f3, f4⟩ := F
  obtain ⟨p, l, e, s, m, args, below, meth, c, A, Q⟩ := Γ
  obtain ⟨hx, hb, hml, hown, hts, hK, hA, hE⟩ := X
  intro H locs ls hP hD hS hl
  exact va_get hx hb hts f2 hown hK hP q he f1 j f3 (hts _ f4) (fun _ h => h) hv hd (kk H locs ls hP hD hS hl)
theorem Go.put (X : Cx Γ g nL cc own Ts) {index ci j : Nat} {ty : FieldType} (F : FL Ts own index ci j) (P : FP ci j ty) (q : Nat) {a : Nat} {fs : List Value} {v : Value} (he : M[q]? = some (a, .inr (ci, fs))) (hn : narrow ty v = v) (hf : fits ty v = true) (hl9 : Nat.ble (j + 1) fs.length = true) (hd : decode cc pc = .ok (.putfield index, 3)) (kk : Go Γ g nL R k n (M.set q (a, .inr (ci, fs.set j v))) (pc + 3) lv st) : Go Γ g nL R k n M pc lv (v :: .ref a :: st) := by
  obtain ⟨C, T, N, f1, f2, f3, f4⟩ := F
  obtain ⟨C', T', N', ty0, g1, g2, g3, g4, g5⟩ := P
  cases f1.symm.trans g1
  obtain ⟨p, l, e, s, m, args, below, meth, c, A, Q⟩ := Γ
  obtain ⟨hx, hb, hml, hown, hts, hK, hA, hE⟩ := X
  intro H locs ls hP hD hS hl
  exact va_put hx hb hts f2 ty0 g2 g3 hown hK hP hD hS q he f1 j f3 (hts _ f4) (fun _ h => h) g4 g5 hn hf (Nat.le_of_ble_eq_true hl9) hd (fun H1 locs1 hP1 hD1 hS1 => kk H1 locs1 ls hP1 hD1 hS1 hl)
/-! arrays -/
theorem Go.iald (X : Cx Γ g nL cc own Ts) (q : Nat) {a N : Nat} {f : Nat → Int32} {i : Int32} (he : M[q]? = some (a, .inl (gI g, N, .inl f))) (hin : vp_in i N) (hd : decode cc pc = .ok (.iaload, 1)) (kk : Go Γ g nL R k n M (pc + 1) lv (.int (f i.toNatClampNeg) :: st)) : Go Γ g nL R k n M pc lv (.int i :: .ref a :: st) := by
  obtain ⟨p, l, e, s, m, args, below, meth, c, A, Q⟩ := Γ
  obtain ⟨hx, hb, hml, hown, hts, hK, hA, hE⟩ := X
  intro H locs ls hP hD hS hl
  exact va_iald hx hb hK hP q 0 he rfl hin hd (kk H locs ls hP hD hS hl)
theorem Go.iast (X : Cx Γ g nL cc own Ts) (q : Nat) {a N : Nat} {f : Nat → Int32} {i x : Int32} (he : M[q]? = some (a, .inl (gI g, N, .inl f))) (hin : vp_in i N) (hd : decode cc pc = .ok (.iastore, 1)) (kk : Go Γ g nL R k n (M.set q (a, .inl (gI g, N, .inl (upd f i.toNatClampNeg x)))) (pc + 1) lv st) : Go Γ g nL R k n M pc lv (.int x :: .int i :: .ref a :: st) := by
  obtain ⟨p, l, e, s, m, args, below, meth, c, A, Q⟩ := Γ
  obtain ⟨hx, hb, hml, hown, hts, hK, hA, hE⟩ := X
  intro H locs ls hP hD hS hl
  exact va_iast hx hb hK hP hD hS q 0 he rfl hin hd (fun H1 locs1 hP1 hD1 hS1 => kk H1 locs1 ls hP1 hD1 hS1 hl)
theorem Go.lald (X : Cx Γ g nL cc own Ts) (q : Nat) {a N : Nat} {f : Nat → Int64} {i : Int32} (he : M[q]? = some (a, .inl (gJ g, N, .inr (.inl f)))) (hin : vp_in i N) (hd : decode cc pc = .ok (.laload, 1)) (kk : Go Γ g nL R k n M (pc + 1) lv (.long (f i.toNatClampNeg) :: st)) : Go Γ g nL R k n M pc lv (.int i :: .ref a :: st) := by
  obtain ⟨p, l, e, s, m, args, below, meth, c, A, Q⟩ := Γ
  obtain ⟨hx, hb, hml, hown, hts, hK, hA, hE⟩ := X
  intro H locs ls hP hD hS hl
  exact va_lald hx hb hK hP q 1 he rfl hin hd (kk H locs ls hP hD hS hl)
theorem Go.last (X : Cx Γ g nL cc own Ts) (q : Nat) {a N : Nat} {f : Nat → Int64} {i : Int32} {x : Int64} (he : M[q]? = some (a, .inl (gJ g, N, .inr (.inl f)))) (hin : vp_in i N) (hd : decode cc pc = .ok (.lastore, 1)) (kk : Go Γ g nL R k n (M.set q (a, .inl (gJ g, N, .inr (.inl (vp_updL f i.toNatClampNeg x))))) (pc + 1) lv st) : Go Γ g nL R k n M pc lv (.long x :: .int i :: .ref a :: st) := by
  obtain ⟨p, l, e, s, m, args, below, meth, c, A, Q⟩ := Γ
  obtain ⟨hx, hb, hml, hown, hts, hK, hA, hE⟩ := X
  intro H locs ls hP hD hS hl
  exact va_last hx hb hK hP hD hS q 1 he rfl hin hd (fun H1 locs1 hP1 hD1 hS1 => kk H1 locs1 ls hP1 hD1 hS1 hl)
theorem Go.aald (X : Cx Γ g nL cc own Ts) (q : Nat) {a N x : Nat} {f : Nat → Option Nat} {i : Int32} (he : M[q]? = some (a, .inl (gQ g, N, .inr (.inr (.inr (.inr f)))))) (hin : vp_in i N) (hf : f i.toNatClampNeg = some x) (hd : decode cc pc = .ok (.aaload, 1)) (kk : Go Γ g nL R k n M (pc + 1) lv (.ref x :: st)) : Go Γ g nL R k n M pc lv (.int i :: .ref a :: st) := by
  obtain ⟨p, l, e, s, m, args, below, meth, c, A, Q⟩ := Γ
  obtain ⟨hx, hb, hml, hown, hts, hK, hA, hE⟩ := X
  intro H locs ls hP hD hS hl
  refine va_aldq hx hb hK hP q 2 he rfl hin hd ?_
  rw [hf]
  exact (kk H locs ls hP hD hS hl)
theorem Go.alenI (X : Cx Γ g nL cc own Ts) (q : Nat) {a N : Nat} {f : Nat → Int32} (he : M[q]? = some (a, .inl (gI g, N, .inl f))) (hd : decode cc pc = .ok (.arraylength, 1)) (kk : Go Γ g nL R k n M (pc + 1) lv (.int (nI N) :: st)) : Go Γ g nL R k n M pc lv (.ref a :: st) := by
  obtain ⟨p, l, e, s, m, args, below, meth, c, A, Q⟩ := Γ
  obtain ⟨hx, hb, hml, hown, hts, hK, hA, hE⟩ := X
  intro H locs ls hP hD hS hl
  exact va_alen hx hb hK hP q 0 he (ty := .int) rfl rfl hd (kk H locs ls hP hD hS hl)
/-- the rows of numbers nI -/
def aN (w : Nat → Nat) : Nat → Int32 := fun i => nI (w i)
def updN (w : Nat → Nat) (j v : Nat) : Nat → Nat := fun i => if i = j then v else w i
theorem aN_upd (w : Nat → Nat) (j v : Nat) : upd (aN w) j (nI v) = aN (updN w j v) := by
  funext i
  by_cases h : i = j <;> simp [upd, aN, updN, h]
theorem Go.ialdN (X : Cx Γ g nL cc own Ts) (q : Nat) {a N j : Nat} {w : Nat → Nat} (he : M[q]? = some (a, .inl (gI g, N, .inl (aN w)))) (hj : j < N) (hN : Nat.ble N 100000 = true) (hd : decode cc pc = .ok (.iaload, 1)) (kk : Go Γ g nL R k n M (pc + 1) lv (.int (nI (w j)) :: st)) : Go Γ g nL R k n M pc lv (.int (nI j) :: .ref a :: st) := by
  have hN := Nat.le_of_ble_eq_true hN
  refine Go.iald X q he (vp_in_nI hj (by omega)) hd ?_
  rw [nI_clamp (by omega)]
  exact kk
theorem Go.ialdF (X : Cx Γ g nL cc own Ts) (q : Nat) {a N j : Nat} {f : Nat → Int32} (he : M[q]? = some (a, .inl (gI g, N, .inl f))) (hj : j < N) (hN : Nat.ble N 100000 = true) (hd : decode cc pc = .ok (.iaload, 1)) (kk : Go Γ g nL R k n M (pc + 1) lv (.int (f j) :: st)) : Go Γ g nL R k n M pc lv (.int (nI j) :: .ref a :: st) := by
  have hN := Nat.le_of_ble_eq_true hN
  refine Go.iald X q he (vp_in_nI hj (by omega)) hd ?_
  rw [nI_clamp (by omega)]
  exact kk
theorem Go.iastN (X : Cx Γ g nL cc own Ts) (q : Nat) {a N j v : Nat} {w : Nat → Nat} (he : M[q]? = some (a, .inl (gI g, N, .inl (aN w)))) (hj : j < N) (hN : Nat.ble N 100000 = true) (hd : decode cc pc = .ok (.iastore, 1)) (kk : Go Γ g nL R k n (M.set q (a, .inl (gI g, N, .inl (aN (updN w j v))))) (pc + 1) lv st) : Go Γ g nL R k n M pc lv (.int (nI v) :: .int (nI j) :: .ref a :: st) := by
  have hN := Nat.le_of_ble_eq_true hN
  refine Go.iast X q he (vp_in_nI hj (by omega)) hd ?_
  rw [nI_clamp (by omega), aN_upd]
  exact kk
theorem Go.iastF (X : Cx Γ g nL cc own Ts) (q : Nat) {a N j : Nat} {x : Int32} {f : Nat → Int32} (he : M[q]? = some (a, .inl (gI g, N, .inl f))) (hj : j < N) (hN : Nat.ble N 100000 = true) (hd : decode cc pc = .ok (.iastore, 1)) (kk : Go Γ g nL R k n (M.set q (a, .inl (gI g, N, .inl (upd f j x)))) (pc + 1) lv st) : Go Γ g nL R k n M pc lv (.int x :: .int (nI j) :: .ref a :: st) := by
  have hN := Nat.le_of_ble_eq_true hN
  refine Go.iast X q he (vp_in_nI hj (by omega)) hd ?_
  rw [nI_clamp (by omega)]
  exact kk
theorem Go.laldF (X : Cx Γ g nL cc own Ts) (q : Nat) {a N j : Nat} {f : Nat → Int64} (he : M[q]? = some (a, .inl (gJ g, N, .inr (.inl f)))) (hj : j < N) (hN : Nat.ble N 100000 = true) (hd : decode cc pc = .ok (.laload, 1)) (kk : Go Γ g nL R k n M (pc + 1) lv (.long (f j) :: st)) : Go Γ g nL R k n M pc lv (.int (nI j) :: .ref a :: st) := by
  have hN := Nat.le_of_ble_eq_true hN
  refine Go.lald X q he (vp_in_nI hj (by omega)) hd ?_
  rw [nI_clamp (by omega)]
  exact kk
theorem Go.lastF (X : Cx Γ g nL cc own Ts) (q : Nat) {a N j : Nat} {x : Int64} {f : Nat → Int64} (he : M[q]? = some (a, .inl (gJ g, N, .inr (.inl f)))) (hj : j < N) (hN : Nat.ble N 100000 = true) (hd : decode cc pc = .ok (.lastore, 1)) (kk : Go Γ g nL R k n (M.set q (a, .inl (gJ g, N, .inr (.inl (vp_updL f j x))))) (pc + 1) lv st) : Go Γ g nL R k n M pc lv (.long x :: .int (nI j) :: .ref a :: st) := by
  have hN := Nat.le_of_ble_eq_true hN
  refine Go.last X q he (vp_in_nI hj (by omega)) hd ?_
  rw [nI_clamp (by omega)]
  exact kk
/-- the table KIND_ABOVE -/
theorem Go.kaRef (X : Cx Γ g nL cc own Ts) {index : Nat} (hm : Cond.fieldLink own index RX3 "KIND_ABOVE" "[I" ∈ Ts) (hd : decode cc pc = .ok (.getstatic index, 3)) (kk : Go Γ g nL R k n M (pc + 3) lv (.ref g.2.2.1 :: st)) : Go Γ g nL R k n M pc lv st := by
  obtain ⟨p, l, e, s, m, args, below, meth, c, A, Q⟩ := Γ
  obtain ⟨hx, hb, hml, hown, hts, hK, hA, hE⟩ := X
  intro H locs ls hP hD hS hl
  exact va_gets hx hb hE.2.1 hS hown (hts _ hm) (fun _ h => h) hd (kk H locs ls hP hD hS hl)
theorem Go.kaLen (X : Cx Γ g nL cc own Ts) (hd : decode cc pc = .ok (.arraylength, 1)) (kk : Go Γ g nL R k n M (pc + 1) lv (.int (nI 6) :: st)) : Go Γ g nL R k n M pc lv (.ref g.2.2.1 :: st) := by
  obtain ⟨p, l, e, s, m, args, below, meth, c, A, Q⟩ := Γ
  obtain ⟨hx, hb, hml, hown, hts, hK, hA, hE⟩ := X
  intro H locs ls hP hD hS hl
  exact va_tlen hx hb hE.2.2.1 hS rfl hd (kk H locs ls hP hD hS hl)
theorem Go.kaAt (X : Cx Γ g nL cc own Ts) {i v : Int32} (hin : vp_in i 6) (hv : kaV i.toNatClampNeg = .int v) (hd : decode cc pc = .ok (.iaload, 1)) (kk : Go Γ g nL R k n M (pc + 1) lv (.int v :: st)) : Go Γ g nL R k n M pc lv (.int i :: .ref g.2.2.1 :: st) := by
  obtain ⟨p, l, e, s, m, args, below, meth, c, A, Q⟩ := Γ
  obtain ⟨hx, hb, hml, hown, hts, hK, hA, hE⟩ := X
  intro H locs ls hP hD hS hl
  exact va_ti hx hb hE.2.2.1 hS hin hv hd (kk H locs ls hP hD hS hl)
/-! ends -/
theorem Go.iret (X : Cx Γ g nL cc own Ts) {M0 : va_W} {post : Option Value → va_W → Prop} (E : Ex Γ g (some .int) M0 post) {v : Int32} (hd : decode cc pc = .ok (.ireturn, 1)) (hp : post (some (.int v)) M) (hm : M.map Prod.fst = M0.map Prod.fst) : Go Γ g nL R 0 0 M pc lv [.int v] := by
  obtain ⟨p, l, e, s, m, args, below, meth, c, A, Q⟩ := Γ
  obtain ⟨hx, hb, hml, hown, hts, hK, hA, hE⟩ := X
  obtain ⟨hr, hlk, hQ⟩ := E
  subst hQ
  intro H locs ls hP hD hS hl
  exact W.iret hx hb hr (fun t ht hW => ⟨⟨_, M, rfl, hp, hm, by rw [ht]; exact hP⟩, hS.F ht⟩) hS.2.2 hd hlk
theorem Go.nret (X : Cx Γ g nL cc own Ts) {M0 : va_W} {post : Option Value → va_W → Prop} {ty : FieldType} (E : Ex Γ g (some ty) M0 post) {v : Int32} (hn : narrow ty (.int v) = .int v) (hd : decode cc pc = .ok (.ireturn, 1)) (hp : post (some (.int v)) M) (hm : M.map Prod.fst = M0.map Prod.fst) : Go Γ g nL R 0 0 M pc lv [.int v] := by
  obtain ⟨p, l, e, s, m, args, below, meth, c, A, Q⟩ := Γ
  obtain ⟨hx, hb, hml, hown, hts, hK, hA, hE⟩ := X
  obtain ⟨hr, hlk, hQ⟩ := E
  subst hQ
  intro H locs ls hP hD hS hl
  exact W.zret hx hb hr hn (fun t ht hW => ⟨⟨_, M, rfl, hp, hm, by rw [ht]; exact hP⟩, hS.F ht⟩) hS.2.2 hd hlk
theorem Go.lret (X : Cx Γ g nL cc own Ts) {M0 : va_W} {post : Option Value → va_W → Prop} (E : Ex Γ g (some .long) M0 post) {v : Int64} (hd : decode cc pc = .ok (.lreturn, 1)) (hp : post (some (.long v)) M) (hm : M.map Prod.fst = M0.map Prod.fst) : Go Γ g nL R 0 0 M pc lv [.long v] := by
  obtain ⟨p, l, e, s, m, args, below, meth, c, A, Q⟩ := Γ
  obtain ⟨hx, hb, hml, hown, hts, hK, hA, hE⟩ := X
  obtain ⟨hr, hlk, hQ⟩ := E
  subst hQ
  intro H locs ls hP hD hS hl
  exact W.lret hx hb hr (fun t ht hW => ⟨⟨_, M, rfl, hp, hm, by rw [ht]; exact hP⟩, hS.F ht⟩) hS.2.2 hd hlk
theorem Go.vret (X : Cx Γ g nL cc own Ts) {M0 : va_W} {post : Option Value → va_W → Prop} (E : Ex Γ g none M0 post) (hd : decode cc pc = .ok (.return_, 1)) (hp : post none M) (hm : M.map Prod.fst = M0.map Prod.fst) : Go Γ g nL R 0 0 M pc lv [] := by
  obtain ⟨p, l, e, s, m, args, below, meth, c, A, Q⟩ := Γ
  obtain ⟨hx, hb, hml, hown, hts, hK, hA, hE⟩ := X
  obtain ⟨hr, hlk, hQ⟩ := E
  subst hQ
  intro H locs ls hP hD hS hl
  exact W.vret hx hb hr (fun t ht hW => ⟨⟨_, M, rfl, hp, hm, by rw [ht]; exact hP⟩, hS.F ht⟩) hS.2.2 hd hlk
theorem Go.lv_0 {r : List (Nat × Value)} {i : Nat} {v w : Value} (h : v = w) (kk : Go Γ g nL R k n M pc ((i, w) :: r) st) : Go Γ g nL R k n M pc ((i, v) :: r) st := h ▸ kk
theorem Go.lv_1 {a0 : Nat × Value} {r : List (Nat × Value)} {i : Nat} {v w : Value} (h : v = w) (kk : Go Γ g nL R k n M pc (a0 :: (i, w) :: r) st) : Go Γ g nL R k n M pc (a0 :: (i, v) :: r) st := h ▸ kk
theorem Go.lv_2 {a0 a1 : Nat × Value} {r : List (Nat × Value)} {i : Nat} {v w : Value} (h : v = w) (kk : Go Γ g nL R k n M pc (a0 :: a1 :: (i, w) :: r) st) : Go Γ g nL R k n M pc (a0 :: a1 :: (i, v) :: r) st := h ▸ kk
theorem Go.lv_3 {a0 a1 a2 : Nat × Value} {r : List (Nat × Value)} {i : Nat} {v w : Value} (h : v = w) (kk : Go Γ g nL R k n M pc (a0 :: a1 :: a2 :: (i, w) :: r) st) : Go Γ g nL R k n M pc (a0 :: a1 :: a2 :: (i, v) :: r) st := h ▸ kk
theorem Go.lv_4 {a0 a1 a2 a3 : Nat × Value} {r : List (Nat × Value)} {i : Nat} {v w : Value} (h : v = w) (kk : Go Γ g nL R k n M pc (a0 :: a1 :: a2 :: a3 :: (i, w) :: r) st) : Go Γ g nL R k n M pc (a0 :: a1 :: a2 :: a3 :: (i, v) :: r) st := h ▸ kk
theorem Go.lv_5 {a0 a1 a2 a3 a4 : Nat × Value} {r : List (Nat × Value)} {i : Nat} {v w : Value} (h : v = w) (kk : Go Γ g nL R k n M pc (a0 :: a1 :: a2 :: a3 :: a4 :: (i, w) :: r) st) : Go Γ g nL R k n M pc (a0 :: a1 :: a2 :: a3 :: a4 :: (i, v) :: r) st := h ▸ kk
theorem Go.lv_6 {a0 a1 a2 a3 a4 a5 : Nat × Value} {r : List (Nat × Value)} {i : Nat} {v w : Value} (h : v = w) (kk : Go Γ g nL R k n M pc (a0 :: a1 :: a2 :: a3 :: a4 :: a5 :: (i, w) :: r) st) : Go Γ g nL R k n M pc (a0 :: a1 :: a2 :: a3 :: a4 :: a5 :: (i, v) :: r) st := h ▸ kk
theorem Go.lv_7 {a0 a1 a2 a3 a4 a5 a6 : Nat × Value} {r : List (Nat × Value)} {i : Nat} {v w : Value} (h : v = w) (kk : Go Γ g nL R k n M pc (a0 :: a1 :: a2 :: a3 :: a4 :: a5 :: a6 :: (i, w) :: r) st) : Go Γ g nL R k n M pc (a0 :: a1 :: a2 :: a3 :: a4 :: a5 :: a6 :: (i, v) :: r) st := h ▸ kk
theorem Go.lv_8 {a0 a1 a2 a3 a4 a5 a6 a7 : Nat × Value} {r : List (Nat × Value)} {i : Nat} {v w : Value} (h : v = w) (kk : Go Γ g nL R k n M pc (a0 :: a1 :: a2 :: a3 :: a4 :: a5 :: a6 :: a7 :: (i, w) :: r) st) : Go Γ g nL R k n M pc (a0 :: a1 :: a2 :: a3 :: a4 :: a5 :: a6 :: a7 :: (i, v) :: r) st := h ▸ kk
theorem Go.lv_9 {a0 a1 a2 a3 a4 a5 a6 a7 a8 : Nat × Value} {r : List (Nat × Value)} {i : Nat} {v w : Value} (h : v = w) (kk : Go Γ g nL R k n M pc (a0 :: a1 :: a2 :: a3 :: a4 :: a5 :: a6 :: a7 :: a8 :: (i, w) :: r) st) : Go Γ g nL R k n M pc (a0 :: a1 :: a2 :: a3 :: a4 :: a5 :: a6 :: a7 :: a8 :: (i, v) :: r) st := h ▸ kk
theorem Go.putM (X : Cx Γ g nL cc own Ts) {index ci j : Nat} {ty : FieldType} (F : FL Ts own index ci j) (P : FP ci j ty) (q : Nat) (M1 : va_W) {a : Nat} {fs : List Value} {v : Value} (he : M[q]? = some (a, .inr (ci, fs))) (hn : narrow ty v = v) (hf : fits ty v = true) (hl9 : Nat.ble (j + 1) fs.length = true) (hd : decode cc pc = .ok (.putfield index, 3)) (hM : M.set q (a, .inr (ci, fs.set j v)) = M1) (kk : Go Γ g nL R k n M1 (pc + 3) lv st) : Go Γ g nL R k n M pc lv (v :: .ref a :: st) := Go.put X F P q he hn hf hl9 hd (hM ▸ kk)
theorem Go.iastNM (X : Cx Γ g nL cc own Ts) (q : Nat) (M1 : va_W) {a N j v : Nat} {w : Nat → Nat} (he : M[q]? = some (a, .inl (gI g, N, .inl (aN w)))) (hj : j < N) (hN : Nat.ble N 100000 = true) (hd : decode cc pc = .ok (.iastore, 1)) (hM : M.set q (a, .inl (gI g, N, .inl (aN (updN w j v)))) = M1) (kk : Go Γ g nL R k n M1 (pc + 1) lv st) : Go Γ g nL R k n M pc lv (.int (nI v) :: .int (nI j) :: .ref a :: st) := Go.iastN X q he hj hN hd (hM ▸ kk)
theorem Go.iastFM (X : Cx Γ g nL cc own Ts) (q : Nat) (M1 : va_W) {a N j : Nat} {x : Int32} {f : Nat → Int32} (he : M[q]? = some (a, .inl (gI g, N, .inl f))) (hj : j < N) (hN : Nat.ble N 100000 = true) (hd : decode cc pc = .ok (.iastore, 1)) (hM : M.set q (a, .inl (gI g, N, .inl (upd f j x))) = M1) (kk : Go Γ g nL R k n M1 (pc + 1) lv st) : Go Γ g nL R k n M pc lv (.int x :: .int (nI j) :: .ref a :: st) := Go.iastF X q he hj hN hd (hM ▸ kk)
theorem Go.lastFM (X : Cx Γ g nL cc own Ts) (q : Nat) (M1 : va_W) {a N j : Nat} {x : Int64} {f : Nat → Int64} (he : M[q]? = some (a, .inl (gJ g, N, .inr (.inl f)))) (hj : j < N) (hN : Nat.ble N 100000 = true) (hd : decode cc pc = .ok (.lastore, 1)) (hM : M.set q (a, .inl (gJ g, N, .inr (.inl (vp_updL f j x)))) = M1) (kk : Go Γ g nL R k n M1 (pc + 1) lv st) : Go Γ g nL R k n M pc lv (.long x :: .int (nI j) :: .ref a :: st) := Go.lastF X q he hj hN hd (hM ▸ kk)
/-! the words of a school's text, and what the JDK's String asks -/
theorem Go.sVal (X : Cx Γ g nL cc own Ts) {i index : Nat} (hi : i < 6) (hm : Cond.fieldLink own index RJ0 "value" "[B" ∈ Ts) (hd : decode cc pc = .ok (.getfield index, 3)) (kk : Go Γ g nL R k n M (pc + 3) lv (.ref (g.2.2.2.2 i) :: st)) : Go Γ g nL R k n M pc lv (.ref (g.2.2.2.1 i) :: st) := by
  obtain ⟨p, l, e, s, m, args, below, meth, c, A, Q⟩ := Γ
  obtain ⟨hx, hb, hml, hown, hts, hK, hA, hE⟩ := X
  intro H locs ls hP hD hS hl
  exact vk_getf hx hb (hE.2.2.2.1.1 i hi).2.2.1 hS hown (hts _ hm) (fun _ h => h) hd (kk H locs ls hP hD hS hl)
theorem Go.sCoder (X : Cx Γ g nL cc own Ts) {i index : Nat} (hi : i < 6) (hm : Cond.fieldLink own index RJ0 "coder" "B" ∈ Ts) (hd : decode cc pc = .ok (.getfield index, 3)) (kk : Go Γ g nL R k n M (pc + 3) lv (.int (nI 0) :: st)) : Go Γ g nL R k n M pc lv (.ref (g.2.2.2.1 i) :: st) := by
  obtain ⟨p, l, e, s, m, args, below, meth, c, A, Q⟩ := Γ
  obtain ⟨hx, hb, hml, hown, hts, hK, hA, hE⟩ := X
  intro H locs ls hP hD hS hl
  exact vk_getf hx hb (hE.2.2.2.1.1 i hi).2.1 hS hown (hts _ hm) (fun _ h => h) hd (kk H locs ls hP hD hS hl)
theorem Go.sLen (X : Cx Γ g nL cc own Ts) {i : Nat} (hi : i < 6) (hd : decode cc pc = .ok (.arraylength, 1)) (kk : Go Γ g nL R k n M (pc + 1) lv (.int (nI (strLen.getD i 0)) :: st)) : Go Γ g nL R k n M pc lv (.ref (g.2.2.2.2 i) :: st) := by
  obtain ⟨p, l, e, s, m, args, below, meth, c, A, Q⟩ := Γ
  obtain ⟨hx, hb, hml, hown, hts, hK, hA, hE⟩ := X
  intro H locs ls hP hD hS hl
  exact va_tlen hx hb (hE.2.2.2.1.1 i hi).2.2.2 hS rfl hd (kk H locs ls hP hD hS hl)
theorem Go.sAt (X : Cx Γ g nL cc own Ts) {i k9 : Nat} (hi : i < 6) (hk : k9 < strLen.getD i 0) (hs : strLen.getD i 0 < 100) (hd : decode cc pc = .ok (.baload, 1)) (kk : Go Γ g nL R k n M (pc + 1) lv (.int ((strByt.getD i []).getD k9 0) :: st)) : Go Γ g nL R k n M pc lv (.int (nI k9) :: .ref (g.2.2.2.2 i) :: st) := by
  obtain ⟨p, l, e, s, m, args, below, meth, c, A, Q⟩ := Γ
  obtain ⟨hx, hb, hml, hown, hts, hK, hA, hE⟩ := X
  intro H locs ls hP hD hS hl
  refine va_tb hx hb (hE.2.2.2.1.1 i hi).2.2.2 hS (vp_in_nI hk (by omega)) rfl hd ?_
  rw [nI_clamp (by omega)]
  exact (kk H locs ls hP hD hS hl)
theorem Go.ldcS (X : Cx Γ g nL cc own Ts) {index i : Nat} (tx : String) (hm : (own, index, tx, i) ∈ strL) (hd : decode cc pc = .ok (.ldc index, 2)) (kk : Go Γ g nL R k n M (pc + 2) lv (.ref (g.2.2.2.1 i) :: st)) : Go Γ g nL R k n M pc lv st := by
  obtain ⟨p, l, e, s, m, args, below, meth, c, A, Q⟩ := Γ
  obtain ⟨hx, hb, hml, hown, hts, hK, hA, hE⟩ := X
  intro H locs ls hP hD hS hl
  exact va_ldcS hx hb hown (hE.2.2.2.2.1 _ hm) hd (kk H locs ls hP hD hS hl)
theorem Go.compact (X : Cx Γ g nL cc own Ts) {index : Nat} (hm : Cond.fieldLink own index RJ0 "COMPACT_STRINGS" "Z" ∈ Ts) (hd : decode cc pc = .ok (.getstatic index, 3)) (kk : Go Γ g nL R k n M (pc + 3) lv (.int (nI 1) :: st)) : Go Γ g nL R k n M pc lv st := by
  obtain ⟨p, l, e, s, m, args, below, meth, c, A, Q⟩ := Γ
  obtain ⟨hx, hb, hml, hown, hts, hK, hA, hE⟩ := X
  intro H locs ls hP hD hS hl
  exact va_gets hx hb hE.2.2.2.2.2.1 hS hown (hts _ hm) (fun _ h => h) hd (kk H locs ls hP hD hS hl)
theorem Go.sioobe (X : Cx Γ g nL cc own Ts) {index : Nat} (hm : Cond.fieldLink own index RJ3 "SIOOBE_FORMATTER" "Ljava/util/function/BiFunction;" ∈ Ts) (hd : decode cc pc = .ok (.getstatic index, 3)) (k0 : Go Γ g nL R k n M (pc + 3) lv (.null :: st)) (k1 : ∀ t9 : Nat, Go Γ g nL R k n M (pc + 3) lv (.ref t9 :: st)) : Go Γ g nL R k n M pc lv st := by
  obtain ⟨p, l, e, s, m, args, below, meth, c, A, Q⟩ := Γ
  obtain ⟨hx, hb, hml, hown, hts, hK, hA, hE⟩ := X
  intro H locs ls hP hD hS hl
  rcases hE.2.2.2.2.2.2 with h | ⟨t9, h⟩
  · exact va_gets hx hb h hS hown (hts _ hm) (fun _ h => h) hd (k0 H locs ls hP hD hS hl)
  · exact va_gets hx hb h hS hown (hts _ hm) (fun _ h => h) hd (k1 t9 H locs ls hP hD hS hl)
theorem Go.i2c (X : Cx Γ g nL cc own Ts) {x : Int32} (v : Int32) (hv : (x.toUInt32 % 65536).toInt32 = v) (hd : decode cc pc = .ok (.i2c, 1)) (kk : Go Γ g nL R k n M (pc + 1) lv (.int v :: st)) : Go Γ g nL R k n M pc lv (.int x :: st) := by
  obtain ⟨p, l, e, s, m, args, below, meth, c, A, Q⟩ := Γ
  obtain ⟨hx, hb, hml, hown, hts, hK, hA, hE⟩ := X
  intro H locs ls hP hD hS hl
  exact lv_i2c hx hb hd hv (kk H locs ls hP hD hS hl)
/-- an array's row may be named by another function that agrees on its places -/
theorem Go.ext {q a N : Nat} {cA : ClassId} {f f1 : Nat → Int32} {M1 : va_W} (he : M[q]? = some (a, .inl (cA, N, .inl f))) (hf : ∀ i, i < N → f i = f1 i) (hM : M.set q (a, .inl (cA, N, .inl f1)) = M1) (kk : Go Γ g nL R k n M1 pc lv st) : Go Γ g nL R k n M pc lv st := by
  obtain ⟨p, l, e, s, m, args, below, meth, c, A, Q⟩ := Γ
  intro H locs ls hP hD hS hl
  subst hM
  refine kk H locs ls (hP.set hD he ?_ (fun _ _ => rfl)) (hD.set he) hS hl
  have h1 : H[a]? = some (vp_cell cA (N, .inl f)) := hP q _ he
  show H[a]? = some (vp_cell cA (N, .inl f1))
  rw [h1]
  refine congrArg some ?_
  show arrV cA N (fun j => .int (f j)) = arrV cA N (fun j => .int (f1 j))
  unfold arrV
  congr 1
  apply Array.ext
  · simp
  · intro j h1 h2
    simp at h1
    simp [hf j h1]
theorem Go.extJ {q a N : Nat} {cA : ClassId} {f f1 : Nat → Int64} {M1 : va_W} (he : M[q]? = some (a, .inl (cA, N, .inr (.inl f)))) (hf : ∀ i, i < N → f i = f1 i) (hM : M.set q (a, .inl (cA, N, .inr (.inl f1))) = M1) (kk : Go Γ g nL R k n M1 pc lv st) : Go Γ g nL R k n M pc lv st := by
  obtain ⟨p, l, e, s, m, args, below, meth, c, A, Q⟩ := Γ
  intro H locs ls hP hD hS hl
  subst hM
  refine kk H locs ls (hP.set hD he ?_ (fun _ _ => rfl)) (hD.set he) hS hl
  have h1 : H[a]? = some (vp_cell cA (N, .inr (.inl f))) := hP q _ he
  show H[a]? = some (vp_cell cA (N, .inr (.inl f1)))
  rw [h1]
  refine congrArg some ?_
  show arrV cA N (fun j => .long (f j)) = arrV cA N (fun j => .long (f1 j))
  unfold arrV
  congr 1
  apply Array.ext
  · simp
  · intro j h1 h2
    simp at h1
    simp [hf j h1]
/-- System.arraycopy of a row of numbers onto another, whole, from place 0 on -/
theorem Go.copyN (X : Cx Γ g nL cc own Ts) {index a0 a N : Nat} {w v : Nat → Nat} (q0 q1 : Nat) (M1 : va_W) (h1 : Cond.methodLink own index arraycopyName ∈ Ts) (h2 : Cond.native arraycopyName ∈ Ts) (h3 : Cond.static arraycopyName ∈ Ts) (h4 : Cond.initialized "java/lang/System" ∈ Ts) (he0 : M[q0]? = some (a0, .inl (gI g, N, .inl (aN w)))) (he1 : M[q1]? = some (a, .inl (gI g, N, .inl (aN v)))) (hN : Nat.ble N 100000 = true) (hR : (Nat.ble 1 R.frames && Nat.ble ((st.map fun v => v.category).sum + (nativeFrameWords "java/lang/System" "arraycopy" 5 + 11)) R.locals) = true) (hd : decode cc pc = .ok (.invokestatic index, 3)) (hM : M.set q1 (a, .inl (gI g, N, .inl (aN w))) = M1) (kk : Go Γ g nL R k n M1 (pc + 3) lv st) : Go Γ g nL R k n M pc lv (.int (nI N) :: .int (nI 0) :: .ref a :: .int (nI 0) :: .ref a0 :: st) := by
  have hN := Nat.le_of_ble_eq_true hN
  simp only [Bool.and_eq_true] at hR
  have c0 : (nI 0).toNatClampNeg = 0 := nI_clamp (by decide)
  have c1 : (nI N).toNatClampNeg = N := nI_clamp (by omega)
  obtain ⟨p, l, e, s, m, args, below, meth, c, A, Q⟩ := Γ
  obtain ⟨hx, hb, hml, hown, hts, hK, hA, hE⟩ := X
  intro H locs ls hP hD hS hl
  refine va_copyi hx hb (hml.trans hl.1.symm) hown (hts _ h1) (hts _ h2) (hts _ h3) (hts _ h4) hK hP hD hS q0 q1 0 0 he0 he1 rfl rfl rfl (nI_pos (by decide)) (nI_pos (by decide)) (nI_pos (by omega)) (by rw [c0, c1]; omega) (by rw [c0, c1]; omega) (fun i _ => rfl) (Nat.le_of_ble_eq_true hR.1) (Nat.le_of_ble_eq_true hR.2) hd (fun H1 locs1 hP1 hD1 hS1 => ?_)
  rw [c0, c1] at hP1 hD1
  have hq : q1 < M.length := (List.getElem?_eq_some_iff.mp he1).1
  exact Go.ext (Γ := (p, l, e, s, m, args, below, meth, c, A, Q)) (M1 := M1) (f1 := aN w) (List.getElem?_set_self hq) (fun i hi => by rw [pk_cpy_in (Nat.zero_le _) (by omega)]; simp) (by rw [List.set_set]; exact hM) kk H1 locs1 ls hP1 hD1 hS1 hl
end GO
/-! calls -/
def Cal (y : MethodName) (ws : List Cond) (bytes : ByteArray) (maxL : Nat) (rt : Option FieldType) (C : String) (na : Nat) : Prop := (∃ ws', ws = Cond.code y bytes maxL rt :: ws') ∧ (y.cls = C ∧ y.cls ≠ "java/lang/invoke/MethodHandle" ∧ y.cls ≠ "java/lang/invoke/VarHandle" ∧ (parseMethodDescriptor y.desc).map (fun d => d.parameters.length) = some na)
def okR (fr lo maxL k n : Nat) (R : Room) (rest : List Value) : Bool := Nat.ble (fr + 1) R.frames && Nat.ble (8 + (maxL + 11) + lo) R.locals && Nat.ble k R.cells && Nat.ble n R.slots && Nat.ble (rest.map fun v => v.category).sum 8
theorem okR_at {fr lo maxL k n : Nat} {R : Room} {rest : List Value} (h : okR fr lo maxL k n R rest = true) : fr + 1 ≤ R.frames ∧ 8 + (maxL + 11) + lo ≤ R.locals ∧ k ≤ R.cells ∧ n ≤ R.slots ∧ (rest.map fun v => v.category).sum ≤ 8 := by
  simp only [okR, Bool.and_eq_true] at h
  exact ⟨Nat.le_of_ble_eq_true h.1.1.1.1, Nat.le_of_ble_eq_true h.1.1.1.2, Nat.le_of_ble_eq_true h.1.1.2, Nat.le_of_ble_eq_true h.1.2, Nat.le_of_ble_eq_true h.2⟩
theorem go_after {p : Program} {l : Launch} {e : Env} {R : Room} {s : State} {m : MethodId} {args : Array Value} {below : List Frame} {meth : Method} {c : Code} {H : Heap} {locs : List Loc} {cells slots : Nat} {Q : State → Prop} {pc : Nat} {ls : Array Slot} {rest st0 : List Value} {a : Array Value} {A0 A1 : Nat → Prop} {H0 : Heap} {free : Addr → Prop} {g : gT} {wc : va_W} {post : Option Value → va_W → Prop}
    (hr : va_Run p l e R s m args below meth c H locs cells slots 0 0 (F0 m pc ls st0) rest (Qw g A1 wc post a) free) (hS : va_S A0 H0 H locs) (hA : ∀ q, q < H.size → A1 q → A0 q) (hf : ∀ q, free q → A0 q)
    (kk : ∀ (v : Option Value) (w1 : va_W) (H1 : Heap) (locs1 : List Loc), post v w1 → w1.map Prod.fst = wc.map Prod.fst → va_P g.1 vwCl w1 H1 → (∀ q : Nat, q < H.size → ¬ A1 q → H1[q]? = H[q]?) → va_S A0 H0 H1 locs1 → W p l e R s m args below meth c H1 locs1 cells slots Q (F0 m (pc + 3) ls (v.toList ++ rest))) : W p l e R s m args below meth c H locs cells slots Q (F0 m pc ls st0) := by
  intro T hT X
  obtain ⟨v, st₀, t, T', L, h0, X', hL, e1, e2, ⟨⟨v', w1, hv, hp, hm, hP1⟩, hz, hk⟩, st⟩ := hr T hT X
  cases hv
  rw [h0] at hz hk
  obtain ⟨t2, a1, b1⟩ := kk v w1 T'.heap (locs ++ L) hp hm (by rw [e1]; exact hP1) (fun q h1 h2 => by rw [e1]; exact hk q h1 h2)
    ⟨Nat.le_trans hS.1 (by rw [e1]; exact hz), fun q h1 h2 => by rw [e1, hk q (Nat.lt_of_lt_of_le h1 hS.1) (fun z => h2 (hA q (Nat.lt_of_lt_of_le h1 hS.1) z))]; exact hS.2.1 q h1 h2, fun q hq => by
      rcases List.mem_append.mp hq with h | h
      · exact hS.2.2 q h
      · exact hf _ (hL q h)⟩ T' rfl X'
  exact ⟨t2, st t2 a1, b1⟩
section GC
variable {Γ : GT} {g : gT} {nL : Nat} {R : Room} {k n : Nat} {M : va_W} {pc : Nat} {lv : List (Nat × Value)} {st : List Value} {cc : ByteArray} {own : String} {Ts : List Cond}
theorem Go.callV (X : Cx Γ g nL cc own Ts) {y : MethodName} {ws : List Cond} {bytes : ByteArray} {maxL na index fr lo : Nat} {rt : Option FieldType} {C : String} {wc : va_W} {rest As : List Value} {post : Option Value → va_W → Prop} {b ci q0 : Nat} {fs : List Value} (hC : Ct g y ws fr lo (.ref b :: As) wc post) (hc : Cal y ws bytes maxL rt C na) (pos : List Nat) (hpos : pos.map (fun i => M[i]?) = wc.map some) (hnd : va_nd pos = true) (hG : GoodIn Ts (wsV own index C y ws)) (hrc : (vwCl[ci]?).map Prod.fst = some C) (he : M[q0]? = some (b, .inr (ci, fs))) (hn : As.length = na) (hst : st = As.reverse ++ .ref b :: rest) (hR : okR fr lo maxL k n R rest = true) (hd : decode cc pc = .ok (.invokevirtual index, 3))
    (kk : ∀ (v : Option Value) (w1 : va_W), post v w1 → w1.map Prod.fst = wc.map Prod.fst → Go Γ g nL R k n (putL M pos w1) (pc + 3) lv (v.toList ++ rest)) : Go Γ g nL R k n M pc lv st := by
  obtain ⟨⟨ws', hw⟩, hd2⟩ := hc
  obtain ⟨r1, r2, r3, r4, r5⟩ := okR_at hR
  obtain ⟨p, l, e, s, m, args, below, meth, c, A, Q⟩ := Γ
  obtain ⟨hx, hb, hml, hown, hts, hK, hA, hE⟩ := X
  intro H locs ls hP hD hS hl
  subst hst
  have hPc := hP.sub (ws' := wc) pos (pos_fm hpos)
  have hDc := hD.sub pos hnd hpos
  have hFc := va_free hD hS hA pos hpos
  obtain ⟨r, hr1, hr2⟩ := Option.map_eq_some_iff.mp hrc
  subst hr2
  exact go_after (va_runV (As := As) (rest := rest) ⟨hx, hb, hml, hown, hts⟩ (hC l H.size) (cwV na hts hG hw rfl rfl hd2 ⟨r1, r2⟩) ⟨PreW.blind, va_recv hK hP hr1 he, fun U hU hW => ⟨rfl, by rw [hU], by rw [hU]; exact hPc, va_K.moved hW.alike hK, hDc.weaken (fun _ _ _ _ => trivial), EV.call hE hS hU hW hFc⟩⟩ rfl hn hl.1 rfl (lv_room r5) hd ⟨r3, r4⟩) hS (fun q _ h => hFc q h) hFc (fun v w1 H1 locs1 hp hm hP1 hk1 hS1 => kk v w1 hp hm H1 locs1 ls (putL_P hP hD hpos hnd hm hP1 hk1) (hD.congr (putL_fst hpos hnd hm)) hS1 hl)
theorem Go.callS (X : Cx Γ g nL cc own Ts) {y : MethodName} {ws : List Cond} {bytes : ByteArray} {maxL na index fr lo : Nat} {rt : Option FieldType} {C : String} {wc : va_W} {rest As : List Value} {post : Option Value → va_W → Prop} (hC : Ct g y ws fr lo As wc post) (hc : Cal y ws bytes maxL rt C na) (pos : List Nat) (hpos : pos.map (fun i => M[i]?) = wc.map some) (hnd : va_nd pos = true) (hG : GoodIn Ts (va_wsS own index y ws)) (hn : As.length = na) (hst : st = As.reverse ++ rest) (hR : okR fr lo maxL k n R rest = true) (hd : decode cc pc = .ok (.invokestatic index, 3))
    (kk : ∀ (v : Option Value) (w1 : va_W), post v w1 → w1.map Prod.fst = wc.map Prod.fst → Go Γ g nL R k n (putL M pos w1) (pc + 3) lv (v.toList ++ rest)) : Go Γ g nL R k n M pc lv st := by
  obtain ⟨⟨ws', hw⟩, hd2⟩ := hc
  obtain ⟨r1, r2, r3, r4, r5⟩ := okR_at hR
  obtain ⟨p, l, e, s, m, args, below, meth, c, A, Q⟩ := Γ
  obtain ⟨hx, hb, hml, hown, hts, hK, hA, hE⟩ := X
  intro H locs ls hP hD hS hl
  subst hst
  have hPc := hP.sub (ws' := wc) pos (pos_fm hpos)
  have hDc := hD.sub pos hnd hpos
  have hFc := va_free hD hS hA pos hpos
  exact go_after (va_runS (As := As) (rest := rest) ⟨hx, hb, hml, hown, hts⟩ (hC l H.size) (va_cwS na hts hG hw rfl rfl hd2.2 ⟨r1, r2⟩) ⟨PreW.blind, fun U hU hW => ⟨rfl, by rw [hU], by rw [hU]; exact hPc, va_K.moved hW.alike hK, hDc.weaken (fun _ _ _ _ => trivial), EV.call hE hS hU hW hFc⟩⟩ rfl hn hl.1 rfl (lv_room r5) hd ⟨r3, r4⟩) hS (fun q _ h => hFc q h) hFc (fun v w1 H1 locs1 hp hm hP1 hk1 hS1 => kk v w1 hp hm H1 locs1 ls (putL_P hP hD hpos hnd hm hP1 hk1) (hD.congr (putL_fst hpos hnd hm)) hS1 hl)
theorem Go.callSN (X : Cx Γ g nL cc own Ts) {y : MethodName} {ws : List Cond} {bytes : ByteArray} {maxL na index fr lo : Nat} {rt : Option FieldType} {C : String} {wc : va_W} {rest As : List Value} {post : Option Value → va_W → Prop} (hC : Ct g y ws fr lo As wc post) (hc : Cal y ws bytes maxL rt C na) (pos : List Nat) (hpos : pos.map (fun i => M[i]?) = wc.map some) (hnd : va_nd pos = true) (hG : GoodIn Ts ws) (hne : (own, index, y, RX3) ∈ nestL) (hi1 : Cond.initialized y.cls ∈ Ts) (hi2 : Cond.static y ∈ Ts) (hn : As.length = na) (hst : st = As.reverse ++ rest) (hR : okR fr lo maxL k n R rest = true) (hd : decode cc pc = .ok (.invokestatic index, 3))
    (kk : ∀ (v : Option Value) (w1 : va_W), post v w1 → w1.map Prod.fst = wc.map Prod.fst → Go Γ g nL R k n (putL M pos w1) (pc + 3) lv (v.toList ++ rest)) : Go Γ g nL R k n M pc lv st := by
  obtain ⟨⟨ws', hw⟩, hd2⟩ := hc
  obtain ⟨r1, r2, r3, r4, r5⟩ := okR_at hR
  obtain ⟨p, l, e, s, m, args, below, meth, c, A, Q⟩ := Γ
  obtain ⟨hx, hb, hml, hown, hts, hK, hA, hE⟩ := X
  intro H locs ls hP hD hS hl
  subst hst
  have hPc := hP.sub (ws' := wc) pos (pos_fm hpos)
  have hDc := hD.sub pos hnd hpos
  have hFc := va_free hD hS hA pos hpos
  exact go_after (va_runSN (As := As) (rest := rest) ⟨hx, hb, hml, hown, hts⟩ (hC l H.size) ⟨va_cnB na hts hG hw rfl rfl (hE.1 _ hne) (hts _ hi1) hd2.2 ⟨r1, r2⟩, hts _ hi2, trivial⟩ ⟨PreW.blind, fun U hU hW => ⟨rfl, by rw [hU], by rw [hU]; exact hPc, va_K.moved hW.alike hK, hDc.weaken (fun _ _ _ _ => trivial), EV.call hE hS hU hW hFc⟩⟩ rfl hn hl.1 rfl (lv_room r5) hd ⟨r3, r4⟩) hS (fun q _ h => hFc q h) hFc (fun v w1 H1 locs1 hp hm hP1 hk1 hS1 => kk v w1 hp hm H1 locs1 ls (putL_P hP hD hpos hnd hm hP1 hk1) (hD.congr (putL_fst hpos hnd hm)) hS1 hl)
theorem Go.callVi (X : Cx Γ g nL cc own Ts) {y : MethodName} {ws : List Cond} {bytes : ByteArray} {maxL na index fr lo : Nat} {rt : Option FieldType} {C : String} {wc : va_W} {rest As : List Value} {x : Int32} {b ci q0 : Nat} {fs : List Value} (hC : Cw g y ws fr lo (.ref b :: As) wc (some (.int x)) wc) (hc : Cal y ws bytes maxL rt C na) (pos : List Nat) (hpos : pos.map (fun i => M[i]?) = wc.map some) (hnd : va_nd pos = true) (hG : GoodIn Ts (wsV own index C y ws)) (hrc : (vwCl[ci]?).map Prod.fst = some C) (he : M[q0]? = some (b, .inr (ci, fs))) (hn : As.length = na) (hst : st = As.reverse ++ .ref b :: rest) (hR : okR fr lo maxL k n R rest = true) (hd : decode cc pc = .ok (.invokevirtual index, 3)) (kk : Go Γ g nL R k n M (pc + 3) lv (.int x :: rest)) : Go Γ g nL R k n M pc lv st := Go.callV X hC hc pos hpos hnd hG hrc he hn hst hR hd (fun v w1 h1 _ => by obtain ⟨rfl, rfl⟩ := h1; rw [putL_self hpos hnd]; exact kk)
theorem Go.callViw (X : Cx Γ g nL cc own Ts) {y : MethodName} {ws : List Cond} {bytes : ByteArray} {maxL na index fr lo : Nat} {rt : Option FieldType} {C : String} {wc : va_W} {rest As : List Value} {x : Int32} {b ci q0 : Nat} {fs : List Value} {w9 M9 : va_W} (hC : Cw g y ws fr lo (.ref b :: As) wc (some (.int x)) w9) (hc : Cal y ws bytes maxL rt C na) (pos : List Nat) (hpos : pos.map (fun i => M[i]?) = wc.map some) (hnd : va_nd pos = true) (hG : GoodIn Ts (wsV own index C y ws)) (hrc : (vwCl[ci]?).map Prod.fst = some C) (he : M[q0]? = some (b, .inr (ci, fs))) (hn : As.length = na) (hst : st = As.reverse ++ .ref b :: rest) (hR : okR fr lo maxL k n R rest = true) (hd : decode cc pc = .ok (.invokevirtual index, 3)) (hM : putL M pos w9 = M9) (kk : Go Γ g nL R k n M9 (pc + 3) lv (.int x :: rest)) : Go Γ g nL R k n M pc lv st := Go.callV X hC hc pos hpos hnd hG hrc he hn hst hR hd (fun v w1 h1 _ => by obtain ⟨rfl, rfl⟩ := h1; rw [hM]; exact kk)
theorem Go.callVl (X : Cx Γ g nL cc own Ts) {y : MethodName} {ws : List Cond} {bytes : ByteArray} {maxL na index fr lo : Nat} {rt : Option FieldType} {C : String} {wc : va_W} {rest As : List Value} {x : Int64} {b ci q0 : Nat} {fs : List Value} (hC : Cw g y ws fr lo (.ref b :: As) wc (some (.long x)) wc) (hc : Cal y ws bytes maxL rt C na) (pos : List Nat) (hpos : pos.map (fun i => M[i]?) = wc.map some) (hnd : va_nd pos = true) (hG : GoodIn Ts (wsV own index C y ws)) (hrc : (vwCl[ci]?).map Prod.fst = some C) (he : M[q0]? = some (b, .inr (ci, fs))) (hn : As.length = na) (hst : st = As.reverse ++ .ref b :: rest) (hR : okR fr lo maxL k n R rest = true) (hd : decode cc pc = .ok (.invokevirtual index, 3)) (kk : Go Γ g nL R k n M (pc + 3) lv (.long x :: rest)) : Go Γ g nL R k n M pc lv st := Go.callV X hC hc pos hpos hnd hG hrc he hn hst hR hd (fun v w1 h1 _ => by obtain ⟨rfl, rfl⟩ := h1; rw [putL_self hpos hnd]; exact kk)
theorem Go.callVlw (X : Cx Γ g nL cc own Ts) {y : MethodName} {ws : List Cond} {bytes : ByteArray} {maxL na index fr lo : Nat} {rt : Option FieldType} {C : String} {wc : va_W} {rest As : List Value} {x : Int64} {b ci q0 : Nat} {fs : List Value} {w9 M9 : va_W} (hC : Cw g y ws fr lo (.ref b :: As) wc (some (.long x)) w9) (hc : Cal y ws bytes maxL rt C na) (pos : List Nat) (hpos : pos.map (fun i => M[i]?) = wc.map some) (hnd : va_nd pos = true) (hG : GoodIn Ts (wsV own index C y ws)) (hrc : (vwCl[ci]?).map Prod.fst = some C) (he : M[q0]? = some (b, .inr (ci, fs))) (hn : As.length = na) (hst : st = As.reverse ++ .ref b :: rest) (hR : okR fr lo maxL k n R rest = true) (hd : decode cc pc = .ok (.invokevirtual index, 3)) (hM : putL M pos w9 = M9) (kk : Go Γ g nL R k n M9 (pc + 3) lv (.long x :: rest)) : Go Γ g nL R k n M pc lv st := Go.callV X hC hc pos hpos hnd hG hrc he hn hst hR hd (fun v w1 h1 _ => by obtain ⟨rfl, rfl⟩ := h1; rw [hM]; exact kk)
theorem Go.callVv (X : Cx Γ g nL cc own Ts) {y : MethodName} {ws : List Cond} {bytes : ByteArray} {maxL na index fr lo : Nat} {rt : Option FieldType} {C : String} {wc : va_W} {rest As : List Value}  {b ci q0 : Nat} {fs : List Value} (hC : Cw g y ws fr lo (.ref b :: As) wc none wc) (hc : Cal y ws bytes maxL rt C na) (pos : List Nat) (hpos : pos.map (fun i => M[i]?) = wc.map some) (hnd : va_nd pos = true) (hG : GoodIn Ts (wsV own index C y ws)) (hrc : (vwCl[ci]?).map Prod.fst = some C) (he : M[q0]? = some (b, .inr (ci, fs))) (hn : As.length = na) (hst : st = As.reverse ++ .ref b :: rest) (hR : okR fr lo maxL k n R rest = true) (hd : decode cc pc = .ok (.invokevirtual index, 3)) (kk : Go Γ g nL R k n M (pc + 3) lv rest) : Go Γ g nL R k n M pc lv st := Go.callV X hC hc pos hpos hnd hG hrc he hn hst hR hd (fun v w1 h1 _ => by obtain ⟨rfl, rfl⟩ := h1; rw [putL_self hpos hnd]; exact kk)
theorem Go.callVvw (X : Cx Γ g nL cc own Ts) {y : MethodName} {ws : List Cond} {bytes : ByteArray} {maxL na index fr lo : Nat} {rt : Option FieldType} {C : String} {wc : va_W} {rest As : List Value}  {b ci q0 : Nat} {fs : List Value} {w9 M9 : va_W} (hC : Cw g y ws fr lo (.ref b :: As) wc none w9) (hc : Cal y ws bytes maxL rt C na) (pos : List Nat) (hpos : pos.map (fun i => M[i]?) = wc.map some) (hnd : va_nd pos = true) (hG : GoodIn Ts (wsV own index C y ws)) (hrc : (vwCl[ci]?).map Prod.fst = some C) (he : M[q0]? = some (b, .inr (ci, fs))) (hn : As.length = na) (hst : st = As.reverse ++ .ref b :: rest) (hR : okR fr lo maxL k n R rest = true) (hd : decode cc pc = .ok (.invokevirtual index, 3)) (hM : putL M pos w9 = M9) (kk : Go Γ g nL R k n M9 (pc + 3) lv rest) : Go Γ g nL R k n M pc lv st := Go.callV X hC hc pos hpos hnd hG hrc he hn hst hR hd (fun v w1 h1 _ => by obtain ⟨rfl, rfl⟩ := h1; rw [hM]; exact kk)
theorem Go.callSi (X : Cx Γ g nL cc own Ts) {y : MethodName} {ws : List Cond} {bytes : ByteArray} {maxL na index fr lo : Nat} {rt : Option FieldType} {C : String} {wc : va_W} {rest As : List Value} {x : Int32}  (hC : Cw g y ws fr lo As wc (some (.int x)) wc) (hc : Cal y ws bytes maxL rt C na) (pos : List Nat) (hpos : pos.map (fun i => M[i]?) = wc.map some) (hnd : va_nd pos = true) (hG : GoodIn Ts (va_wsS own index y ws)) (hn : As.length = na) (hst : st = As.reverse ++ rest) (hR : okR fr lo maxL k n R rest = true) (hd : decode cc pc = .ok (.invokestatic index, 3)) (kk : Go Γ g nL R k n M (pc + 3) lv (.int x :: rest)) : Go Γ g nL R k n M pc lv st := Go.callS X hC hc pos hpos hnd hG hn hst hR hd (fun v w1 h1 _ => by obtain ⟨rfl, rfl⟩ := h1; rw [putL_self hpos hnd]; exact kk)
theorem Go.callSiw (X : Cx Γ g nL cc own Ts) {y : MethodName} {ws : List Cond} {bytes : ByteArray} {maxL na index fr lo : Nat} {rt : Option FieldType} {C : String} {wc : va_W} {rest As : List Value} {x : Int32}  {w9 M9 : va_W} (hC : Cw g y ws fr lo As wc (some (.int x)) w9) (hc : Cal y ws bytes maxL rt C na) (pos : List Nat) (hpos : pos.map (fun i => M[i]?) = wc.map some) (hnd : va_nd pos = true) (hG : GoodIn Ts (va_wsS own index y ws)) (hn : As.length = na) (hst : st = As.reverse ++ rest) (hR : okR fr lo maxL k n R rest = true) (hd : decode cc pc = .ok (.invokestatic index, 3)) (hM : putL M pos w9 = M9) (kk : Go Γ g nL R k n M9 (pc + 3) lv (.int x :: rest)) : Go Γ g nL R k n M pc lv st := Go.callS X hC hc pos hpos hnd hG hn hst hR hd (fun v w1 h1 _ => by obtain ⟨rfl, rfl⟩ := h1; rw [hM]; exact kk)
theorem Go.callSl (X : Cx Γ g nL cc own Ts) {y : MethodName} {ws : List Cond} {bytes : ByteArray} {maxL na index fr lo : Nat} {rt : Option FieldType} {C : String} {wc : va_W} {rest As : List Value} {x : Int64}  (hC : Cw g y ws fr lo As wc (some (.long x)) wc) (hc : Cal y ws bytes maxL rt C na) (pos : List Nat) (hpos : pos.map (fun i => M[i]?) = wc.map some) (hnd : va_nd pos = true) (hG : GoodIn Ts (va_wsS own index y ws)) (hn : As.length = na) (hst : st = As.reverse ++ rest) (hR : okR fr lo maxL k n R rest = true) (hd : decode cc pc = .ok (.invokestatic index, 3)) (kk : Go Γ g nL R k n M (pc + 3) lv (.long x :: rest)) : Go Γ g nL R k n M pc lv st := Go.callS X hC hc pos hpos hnd hG hn hst hR hd (fun v w1 h1 _ => by obtain ⟨rfl, rfl⟩ := h1; rw [putL_self hpos hnd]; exact kk)
theorem Go.callSlw (X : Cx Γ g nL cc own Ts) {y : MethodName} {ws : List Cond} {bytes : ByteArray} {maxL na index fr lo : Nat} {rt : Option FieldType} {C : String} {wc : va_W} {rest As : List Value} {x : Int64}  {w9 M9 : va_W} (hC : Cw g y ws fr lo As wc (some (.long x)) w9) (hc : Cal y ws bytes maxL rt C na) (pos : List Nat) (hpos : pos.map (fun i => M[i]?) = wc.map some) (hnd : va_nd pos = true) (hG : GoodIn Ts (va_wsS own index y ws)) (hn : As.length = na) (hst : st = As.reverse ++ rest) (hR : okR fr lo maxL k n R rest = true) (hd : decode cc pc = .ok (.invokestatic index, 3)) (hM : putL M pos w9 = M9) (kk : Go Γ g nL R k n M9 (pc + 3) lv (.long x :: rest)) : Go Γ g nL R k n M pc lv st := Go.callS X hC hc pos hpos hnd hG hn hst hR hd (fun v w1 h1 _ => by obtain ⟨rfl, rfl⟩ := h1; rw [hM]; exact kk)
theorem Go.callSv (X : Cx Γ g nL cc own Ts) {y : MethodName} {ws : List Cond} {bytes : ByteArray} {maxL na index fr lo : Nat} {rt : Option FieldType} {C : String} {wc : va_W} {rest As : List Value}   (hC : Cw g y ws fr lo As wc none wc) (hc : Cal y ws bytes maxL rt C na) (pos : List Nat) (hpos : pos.map (fun i => M[i]?) = wc.map some) (hnd : va_nd pos = true) (hG : GoodIn Ts (va_wsS own index y ws)) (hn : As.length = na) (hst : st = As.reverse ++ rest) (hR : okR fr lo maxL k n R rest = true) (hd : decode cc pc = .ok (.invokestatic index, 3)) (kk : Go Γ g nL R k n M (pc + 3) lv rest) : Go Γ g nL R k n M pc lv st := Go.callS X hC hc pos hpos hnd hG hn hst hR hd (fun v w1 h1 _ => by obtain ⟨rfl, rfl⟩ := h1; rw [putL_self hpos hnd]; exact kk)
theorem Go.callSvw (X : Cx Γ g nL cc own Ts) {y : MethodName} {ws : List Cond} {bytes : ByteArray} {maxL na index fr lo : Nat} {rt : Option FieldType} {C : String} {wc : va_W} {rest As : List Value}   {w9 M9 : va_W} (hC : Cw g y ws fr lo As wc none w9) (hc : Cal y ws bytes maxL rt C na) (pos : List Nat) (hpos : pos.map (fun i => M[i]?) = wc.map some) (hnd : va_nd pos = true) (hG : GoodIn Ts (va_wsS own index y ws)) (hn : As.length = na) (hst : st = As.reverse ++ rest) (hR : okR fr lo maxL k n R rest = true) (hd : decode cc pc = .ok (.invokestatic index, 3)) (hM : putL M pos w9 = M9) (kk : Go Γ g nL R k n M9 (pc + 3) lv rest) : Go Γ g nL R k n M pc lv st := Go.callS X hC hc pos hpos hnd hG hn hst hR hd (fun v w1 h1 _ => by obtain ⟨rfl, rfl⟩ := h1; rw [hM]; exact kk)
theorem Go.callSNi (X : Cx Γ g nL cc own Ts) {y : MethodName} {ws : List Cond} {bytes : ByteArray} {maxL na index fr lo : Nat} {rt : Option FieldType} {C : String} {wc : va_W} {rest As : List Value} {x : Int32}  (hC : Cw g y ws fr lo As wc (some (.int x)) wc) (hc : Cal y ws bytes maxL rt C na) (pos : List Nat) (hpos : pos.map (fun i => M[i]?) = wc.map some) (hnd : va_nd pos = true) (hG : GoodIn Ts ws) (hne : (own, index, y, RX3) ∈ nestL) (hi1 : Cond.initialized y.cls ∈ Ts) (hi2 : Cond.static y ∈ Ts) (hn : As.length = na) (hst : st = As.reverse ++ rest) (hR : okR fr lo maxL k n R rest = true) (hd : decode cc pc = .ok (.invokestatic index, 3)) (kk : Go Γ g nL R k n M (pc + 3) lv (.int x :: rest)) : Go Γ g nL R k n M pc lv st := Go.callSN X hC hc pos hpos hnd hG hne hi1 hi2 hn hst hR hd (fun v w1 h1 _ => by obtain ⟨rfl, rfl⟩ := h1; rw [putL_self hpos hnd]; exact kk)
theorem Go.callSNiw (X : Cx Γ g nL cc own Ts) {y : MethodName} {ws : List Cond} {bytes : ByteArray} {maxL na index fr lo : Nat} {rt : Option FieldType} {C : String} {wc : va_W} {rest As : List Value} {x : Int32}  {w9 M9 : va_W} (hC : Cw g y ws fr lo As wc (some (.int x)) w9) (hc : Cal y ws bytes maxL rt C na) (pos : List Nat) (hpos : pos.map (fun i => M[i]?) = wc.map some) (hnd : va_nd pos = true) (hG : GoodIn Ts ws) (hne : (own, index, y, RX3) ∈ nestL) (hi1 : Cond.initialized y.cls ∈ Ts) (hi2 : Cond.static y ∈ Ts) (hn : As.length = na) (hst : st = As.reverse ++ rest) (hR : okR fr lo maxL k n R rest = true) (hd : decode cc pc = .ok (.invokestatic index, 3)) (hM : putL M pos w9 = M9) (kk : Go Γ g nL R k n M9 (pc + 3) lv (.int x :: rest)) : Go Γ g nL R k n M pc lv st := Go.callSN X hC hc pos hpos hnd hG hne hi1 hi2 hn hst hR hd (fun v w1 h1 _ => by obtain ⟨rfl, rfl⟩ := h1; rw [hM]; exact kk)
theorem Go.callSNl (X : Cx Γ g nL cc own Ts) {y : MethodName} {ws : List Cond} {bytes : ByteArray} {maxL na index fr lo : Nat} {rt : Option FieldType} {C : String} {wc : va_W} {rest As : List Value} {x : Int64}  (hC : Cw g y ws fr lo As wc (some (.long x)) wc) (hc : Cal y ws bytes maxL rt C na) (pos : List Nat) (hpos : pos.map (fun i => M[i]?) = wc.map some) (hnd : va_nd pos = true) (hG : GoodIn Ts ws) (hne : (own, index, y, RX3) ∈ nestL) (hi1 : Cond.initialized y.cls ∈ Ts) (hi2 : Cond.static y ∈ Ts) (hn : As.length = na) (hst : st = As.reverse ++ rest) (hR : okR fr lo maxL k n R rest = true) (hd : decode cc pc = .ok (.invokestatic index, 3)) (kk : Go Γ g nL R k n M (pc + 3) lv (.long x :: rest)) : Go Γ g nL R k n M pc lv st := Go.callSN X hC hc pos hpos hnd hG hne hi1 hi2 hn hst hR hd (fun v w1 h1 _ => by obtain ⟨rfl, rfl⟩ := h1; rw [putL_self hpos hnd]; exact kk)
theorem Go.callSNlw (X : Cx Γ g nL cc own Ts) {y : MethodName} {ws : List Cond} {bytes : ByteArray} {maxL na index fr lo : Nat} {rt : Option FieldType} {C : String} {wc : va_W} {rest As : List Value} {x : Int64}  {w9 M9 : va_W} (hC : Cw g y ws fr lo As wc (some (.long x)) w9) (hc : Cal y ws bytes maxL rt C na) (pos : List Nat) (hpos : pos.map (fun i => M[i]?) = wc.map some) (hnd : va_nd pos = true) (hG : GoodIn Ts ws) (hne : (own, index, y, RX3) ∈ nestL) (hi1 : Cond.initialized y.cls ∈ Ts) (hi2 : Cond.static y ∈ Ts) (hn : As.length = na) (hst : st = As.reverse ++ rest) (hR : okR fr lo maxL k n R rest = true) (hd : decode cc pc = .ok (.invokestatic index, 3)) (hM : putL M pos w9 = M9) (kk : Go Γ g nL R k n M9 (pc + 3) lv (.long x :: rest)) : Go Γ g nL R k n M pc lv st := Go.callSN X hC hc pos hpos hnd hG hne hi1 hi2 hn hst hR hd (fun v w1 h1 _ => by obtain ⟨rfl, rfl⟩ := h1; rw [hM]; exact kk)
theorem Go.callSNv (X : Cx Γ g nL cc own Ts) {y : MethodName} {ws : List Cond} {bytes : ByteArray} {maxL na index fr lo : Nat} {rt : Option FieldType} {C : String} {wc : va_W} {rest As : List Value}   (hC : Cw g y ws fr lo As wc none wc) (hc : Cal y ws bytes maxL rt C na) (pos : List Nat) (hpos : pos.map (fun i => M[i]?) = wc.map some) (hnd : va_nd pos = true) (hG : GoodIn Ts ws) (hne : (own, index, y, RX3) ∈ nestL) (hi1 : Cond.initialized y.cls ∈ Ts) (hi2 : Cond.static y ∈ Ts) (hn : As.length = na) (hst : st = As.reverse ++ rest) (hR : okR fr lo maxL k n R rest = true) (hd : decode cc pc = .ok (.invokestatic index, 3)) (kk : Go Γ g nL R k n M (pc + 3) lv rest) : Go Γ g nL R k n M pc lv st := Go.callSN X hC hc pos hpos hnd hG hne hi1 hi2 hn hst hR hd (fun v w1 h1 _ => by obtain ⟨rfl, rfl⟩ := h1; rw [putL_self hpos hnd]; exact kk)
theorem Go.callSNvw (X : Cx Γ g nL cc own Ts) {y : MethodName} {ws : List Cond} {bytes : ByteArray} {maxL na index fr lo : Nat} {rt : Option FieldType} {C : String} {wc : va_W} {rest As : List Value}   {w9 M9 : va_W} (hC : Cw g y ws fr lo As wc none w9) (hc : Cal y ws bytes maxL rt C na) (pos : List Nat) (hpos : pos.map (fun i => M[i]?) = wc.map some) (hnd : va_nd pos = true) (hG : GoodIn Ts ws) (hne : (own, index, y, RX3) ∈ nestL) (hi1 : Cond.initialized y.cls ∈ Ts) (hi2 : Cond.static y ∈ Ts) (hn : As.length = na) (hst : st = As.reverse ++ rest) (hR : okR fr lo maxL k n R rest = true) (hd : decode cc pc = .ok (.invokestatic index, 3)) (hM : putL M pos w9 = M9) (kk : Go Γ g nL R k n M9 (pc + 3) lv rest) : Go Γ g nL R k n M pc lv st := Go.callSN X hC hc pos hpos hnd hG hne hi1 hi2 hn hst hR hd (fun v w1 h1 _ => by obtain ⟨rfl, rfl⟩ := h1; rw [hM]; exact kk)
theorem Go.callVs (X : Cx Γ g nL cc own Ts) {y : MethodName} {ws : List Cond} {bytes : ByteArray} {maxL na index fr lo : Nat} {rt : Option FieldType} {wc : va_W} {rest As : List Value} {post : Option Value → va_W → Prop} {i : Nat} (hi : i < 6) (hC : Ct g y ws fr lo (.ref (g.2.2.2.1 i) :: As) wc post) (hc : Cal y ws bytes maxL rt RJ0 na) (pos : List Nat) (hpos : pos.map (fun i => M[i]?) = wc.map some) (hnd : va_nd pos = true) (hG : GoodIn Ts (wsV own index RJ0 y ws)) (hn : As.length = na) (hst : st = As.reverse ++ .ref (g.2.2.2.1 i) :: rest) (hR : okR fr lo maxL k n R rest = true) (hd : decode cc pc = .ok (.invokevirtual index, 3))
    (kk : ∀ (v : Option Value) (w1 : va_W), post v w1 → w1.map Prod.fst = wc.map Prod.fst → Go Γ g nL R k n (putL M pos w1) (pc + 3) lv (v.toList ++ rest)) : Go Γ g nL R k n M pc lv st := by
  obtain ⟨⟨ws', hw⟩, hd2⟩ := hc
  obtain ⟨r1, r2, r3, r4, r5⟩ := okR_at hR
  obtain ⟨p, l, e, s, m, args, below, meth, c, A, Q⟩ := Γ
  obtain ⟨hx, hb, hml, hown, hts, hK, hA, hE⟩ := X
  intro H locs ls hP hD hS hl
  subst hst
  have hPc := hP.sub (ws' := wc) pos (pos_fm hpos)
  have hDc := hD.sub pos hnd hpos
  have hFc := va_free hD hS hA pos hpos
  exact go_after (va_runV (As := As) (rest := rest) ⟨hx, hb, hml, hown, hts⟩ (hC l H.size) (cwV na hts hG hw rfl rfl hd2 ⟨r1, r2⟩) ⟨PreW.blind, vk_recv hE.2.2.2.1 hi hS, fun U hU hW => ⟨rfl, by rw [hU], by rw [hU]; exact hPc, va_K.moved hW.alike hK, hDc.weaken (fun _ _ _ _ => trivial), EV.call hE hS hU hW hFc⟩⟩ rfl hn hl.1 rfl (lv_room r5) hd ⟨r3, r4⟩) hS (fun q _ h => hFc q h) hFc (fun v w1 H1 locs1 hp hm hP1 hk1 hS1 => kk v w1 hp hm H1 locs1 ls (putL_P hP hD hpos hnd hm hP1 hk1) (hD.congr (putL_fst hpos hnd hm)) hS1 hl)
theorem Go.callVsi (X : Cx Γ g nL cc own Ts) {y : MethodName} {ws : List Cond} {bytes : ByteArray} {maxL na index fr lo : Nat} {rt : Option FieldType} {wc : va_W} {rest As : List Value} {x : Int32} {i : Nat} (hi : i < 6) (hC : Cw g y ws fr lo (.ref (g.2.2.2.1 i) :: As) wc (some (.int x)) wc) (hc : Cal y ws bytes maxL rt RJ0 na) (pos : List Nat) (hpos : pos.map (fun i => M[i]?) = wc.map some) (hnd : va_nd pos = true) (hG : GoodIn Ts (wsV own index RJ0 y ws)) (hn : As.length = na) (hst : st = As.reverse ++ .ref (g.2.2.2.1 i) :: rest) (hR : okR fr lo maxL k n R rest = true) (hd : decode cc pc = .ok (.invokevirtual index, 3)) (kk : Go Γ g nL R k n M (pc + 3) lv (.int x :: rest)) : Go Γ g nL R k n M pc lv st := Go.callVs X hi hC hc pos hpos hnd hG hn hst hR hd (fun v w1 h1 _ => by obtain ⟨rfl, rfl⟩ := h1; rw [putL_self hpos hnd]; exact kk)
theorem Go.mmax (X : Cx Γ g nL cc own Ts) {index : Nat} {x y : Int32} (z : Int32) (h1 : Cond.methodLink own index Lib.Math.max.name ∈ Ts) (h2 : Cond.static Lib.Math.max.name ∈ Ts) (h3 : Cond.initialized "java/lang/Math" ∈ Ts) (h4 : Cond.code Lib.Math.max.name Lib.Math.max.code 2 (some .int) ∈ Ts) (hR : okR 0 0 2 k n R st = true) (hz : (if x < y then y else x) = z) (hd : decode cc pc = .ok (.invokestatic index, 3)) (kk : Go Γ g nL R k n M (pc + 3) lv (.int z :: st)) : Go Γ g nL R k n M pc lv (.int y :: .int x :: st) := by
  obtain ⟨r1, r2, r3, r4, r5⟩ := okR_at hR
  subst hz
  obtain ⟨p, l, e, s, m, args, below, meth, c, A, Q⟩ := Γ
  obtain ⟨hx, hb, hml, hown, hts, hK, hA, hE⟩ := X
  intro H locs ls hP hD hS hl
  exact va_mmax hx hb (hml.trans hl.1.symm) hown (hts _ h1) (hts _ h2) (hts _ h3) (hts _ h4) r1 (by omega) r3 r4 hd (kk H locs ls hP hD hS hl)
theorem Go.mmin (X : Cx Γ g nL cc own Ts) {index : Nat} {x y : Int32} (z : Int32) (h1 : Cond.methodLink own index Lib.Math.min.name ∈ Ts) (h2 : Cond.static Lib.Math.min.name ∈ Ts) (h3 : Cond.initialized "java/lang/Math" ∈ Ts) (h4 : Cond.code Lib.Math.min.name Lib.Math.min.code 2 (some .int) ∈ Ts) (hR : okR 0 0 2 k n R st = true) (hz : (if y < x then y else x) = z) (hd : decode cc pc = .ok (.invokestatic index, 3)) (kk : Go Γ g nL R k n M (pc + 3) lv (.int z :: st)) : Go Γ g nL R k n M pc lv (.int y :: .int x :: st) := by
  obtain ⟨r1, r2, r3, r4, r5⟩ := okR_at hR
  subst hz
  obtain ⟨p, l, e, s, m, args, below, meth, c, A, Q⟩ := Γ
  obtain ⟨hx, hb, hml, hown, hts, hK, hA, hE⟩ := X
  intro H locs ls hP hD hS hl
  exact va_mmin hx hb (hml.trans hl.1.symm) hown (hts _ h1) (hts _ h2) (hts _ h3) (hts _ h4) r1 (by omega) r3 r4 hd (kk H locs ls hP hD hS hl)
end GC
theorem nmax {a b : Nat} (ha : a < 2 ^ 31) (hb : b < 2 ^ 31) : (if nI a < nI b then nI b else nI a) = nI (max a b) := by
  by_cases h : a < b
  · rw [if_pos (nI_lt h hb), Nat.max_eq_right (by omega)]
  · rw [if_neg (nI_nlt (by omega) ha), Nat.max_eq_left (by omega)]
theorem nmin {a b : Nat} (ha : a < 2 ^ 31) (hb : b < 2 ^ 31) : (if nI b < nI a then nI b else nI a) = nI (min a b) := by
  by_cases h : b < a
  · rw [if_pos (nI_lt h ha), Nat.min_eq_right (by omega)]
  · rw [if_neg (nI_nlt (by omega) hb), Nat.min_eq_left (by omega)]
theorem i_m1 {a : Nat} (h : 0 < a) : nI a + (-1) = nI (a - 1) := by
  obtain ⟨b, rfl⟩ : ∃ b, a = b + 1 := ⟨a - 1, by omega⟩
  exact pk_m1 b
theorem i_dec {a : Nat} (h : 0 < a) : nI a + Int32.ofInt (-1) = nI (a - 1) := i_m1 h
theorem rv {v x : Int32} (h : v = x) : some (Value.int v) = some (Value.int x) := by rw [h]
theorem rvl {v x : Int64} (h : v = x) : some (Value.long v) = some (Value.long x) := by rw [h]
theorem b2i_t {b : Bool} (h : b = true) : nI 1 = b2i b := by rw [h]; rfl
theorem b2i_f {b : Bool} (h : b = false) : nI 0 = b2i b := by rw [h]; rfl
theorem ne_toInt {x : Int32} {k : Nat} (h : ¬ x = nI k) (hk : k < 2 ^ 31) : ¬ x.toInt = (k : Int) := fun q => h (Int32.toInt_inj.mp (by rw [q, nI_toInt hk]))
