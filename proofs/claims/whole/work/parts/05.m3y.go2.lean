/-! GO2: calls that are given the whole world -/
section GQ
variable {Γ : GT} {g : gT} {nL : Nat} {R : Room} {k n : Nat} {M : va_W} {pc : Nat} {lv : List (Nat × Value)} {st : List Value} {cc : ByteArray} {own : String} {Ts : List Cond}
theorem rg_map (M : va_W) : (List.range M.length).map (fun i => M[i]?) = M.map some := by
  apply List.ext_getElem
  · simp
  · intro i h1 h2
    simp at h1 h2
    simp [h1]
theorem rg_nd : ∀ (l : List Nat), l.Nodup → va_nd l = true
  | [], _ => rfl
  | a :: l, h => by
    rw [List.nodup_cons] at h
    show (decide (a ∉ l) && va_nd l) = true
    rw [rg_nd l h.2, decide_eq_true h.1]; rfl
theorem rg_put {M w1 : va_W} (h : w1.map Prod.fst = M.map Prod.fst) : putL M (List.range M.length) w1 = w1 := by
  have hl : w1.length = M.length := by simpa using congrArg List.length h
  apply List.ext_getElem?
  intro i
  by_cases hi : i < M.length
  · rw [putL_in (List.range M.length) w1 M i i w1[i] (rg_nd _ List.nodup_range) (by simp [hi]) (by simp [hl, hi]) hi]
    simp [hl, hi]
  · rw [putL_out _ _ _ _ (by simpa using hi), List.getElem?_eq_none (by omega), List.getElem?_eq_none (by omega)]

theorem Go.callV0 (X : Cx Γ g nL cc own Ts) {y : MethodName} {ws : List Cond} {bytes : ByteArray} {maxL na index fr lo : Nat} {rt : Option FieldType} {C : String} {rest As : List Value} {b ci q0 : Nat} {fs : List Value} {post : Option Value → va_W → Prop} (hC : Ct g y ws fr lo (.ref b :: As) M post) (hc : Cal y ws bytes maxL rt C na) (hG : GoodIn Ts (wsV own index C y ws)) (hrc : (vwCl[ci]?).map Prod.fst = some C) (he : M[q0]? = some (b, .inr (ci, fs))) (hn : As.length = na) (hst : st = As.reverse ++ .ref b :: rest) (hR : okR fr lo maxL k n R rest = true) (hd : decode cc pc = .ok (.invokevirtual index, 3))
    (kk : ∀ (v : Option Value) (w1 : va_W), post v w1 → Go Γ g nL R k n w1 (pc + 3) lv (v.toList ++ rest)) : Go Γ g nL R k n M pc lv st :=
  Go.callV X hC hc (List.range M.length) (rg_map M) (rg_nd _ List.nodup_range) hG hrc he hn hst hR hd (fun v w1 h1 h2 => by rw [rg_put h2]; exact kk v w1 h1)
theorem Go.callV0i (X : Cx Γ g nL cc own Ts) {y : MethodName} {ws : List Cond} {bytes : ByteArray} {maxL na index fr lo : Nat} {rt : Option FieldType} {C : String} {rest As : List Value} {b ci q0 : Nat} {fs : List Value} {x : Int32} {M9 : va_W} (hC : Cw g y ws fr lo (.ref b :: As) M (some (.int x)) M9) (hc : Cal y ws bytes maxL rt C na) (hG : GoodIn Ts (wsV own index C y ws)) (hrc : (vwCl[ci]?).map Prod.fst = some C) (he : M[q0]? = some (b, .inr (ci, fs))) (hn : As.length = na) (hst : st = As.reverse ++ .ref b :: rest) (hR : okR fr lo maxL k n R rest = true) (hd : decode cc pc = .ok (.invokevirtual index, 3)) (kk : Go Γ g nL R k n M9 (pc + 3) lv (.int x :: rest)) : Go Γ g nL R k n M pc lv st := Go.callV0 X hC hc hG hrc he hn hst hR hd (fun v w1 h1 => by obtain ⟨rfl, rfl⟩ := h1; exact kk)
theorem Go.callV0l (X : Cx Γ g nL cc own Ts) {y : MethodName} {ws : List Cond} {bytes : ByteArray} {maxL na index fr lo : Nat} {rt : Option FieldType} {C : String} {rest As : List Value} {b ci q0 : Nat} {fs : List Value} {x : Int64} {M9 : va_W} (hC : Cw g y ws fr lo (.ref b :: As) M (some (.long x)) M9) (hc : Cal y ws bytes maxL rt C na) (hG : GoodIn Ts (wsV own index C y ws)) (hrc : (vwCl[ci]?).map Prod.fst = some C) (he : M[q0]? = some (b, .inr (ci, fs))) (hn : As.length = na) (hst : st = As.reverse ++ .ref b :: rest) (hR : okR fr lo maxL k n R rest = true) (hd : decode cc pc = .ok (.invokevirtual index, 3)) (kk : Go Γ g nL R k n M9 (pc + 3) lv (.long x :: rest)) : Go Γ g nL R k n M pc lv st := Go.callV0 X hC hc hG hrc he hn hst hR hd (fun v w1 h1 => by obtain ⟨rfl, rfl⟩ := h1; exact kk)
theorem Go.callV0v (X : Cx Γ g nL cc own Ts) {y : MethodName} {ws : List Cond} {bytes : ByteArray} {maxL na index fr lo : Nat} {rt : Option FieldType} {C : String} {rest As : List Value} {b ci q0 : Nat} {fs : List Value}  {M9 : va_W} (hC : Cw g y ws fr lo (.ref b :: As) M none M9) (hc : Cal y ws bytes maxL rt C na) (hG : GoodIn Ts (wsV own index C y ws)) (hrc : (vwCl[ci]?).map Prod.fst = some C) (he : M[q0]? = some (b, .inr (ci, fs))) (hn : As.length = na) (hst : st = As.reverse ++ .ref b :: rest) (hR : okR fr lo maxL k n R rest = true) (hd : decode cc pc = .ok (.invokevirtual index, 3)) (kk : Go Γ g nL R k n M9 (pc + 3) lv rest) : Go Γ g nL R k n M pc lv st := Go.callV0 X hC hc hG hrc he hn hst hR hd (fun v w1 h1 => by obtain ⟨rfl, rfl⟩ := h1; exact kk)
end GQ
