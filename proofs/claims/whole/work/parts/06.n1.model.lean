/-! 06.n1.model -/
theorem f_X4_next_127 : FL wsX4_next RX4 127 4 17 := ⟨RX4, TX4, 27, rfl, fun _ h => List.mem_cons_of_mem _ (List.mem_append_right _ h), by decide, List.mem_of_getElem? (i := 1) (by decide +kernel)⟩
theorem f_X4_next_124 : FL wsX4_next RX4 124 4 15 := ⟨RX4, TX4, 27, rfl, fun _ h => List.mem_cons_of_mem _ (List.mem_append_right _ h), by decide, List.mem_of_getElem? (i := 2) (by decide +kernel)⟩
theorem f_X4_next_130 : FL wsX4_next RX4 130 4 18 := ⟨RX4, TX4, 27, rfl, fun _ h => List.mem_cons_of_mem _ (List.mem_append_right _ h), by decide, List.mem_of_getElem? (i := 4) (by decide +kernel)⟩
theorem fp_4_18 : FP 4 18 .int := ⟨RX4, TX4, 27, tyX4, rfl, tyX4_ok, nmX4, rfl, by decide +kernel⟩
theorem f_X4_next_29 : FL wsX4_next RX4 29 4 16 := ⟨RX4, TX4, 27, rfl, fun _ h => List.mem_cons_of_mem _ (List.mem_append_right _ h), by decide, List.mem_of_getElem? (i := 3) (by decide +kernel)⟩
theorem cal_X4_isLetter : Cal yX4_isLetter wsX4_isLetter cX4_isLetter 1 (some .boolean) RX4 1 := ⟨⟨_, rfl⟩, by decide +kernel⟩
theorem cal_X4_isDigit : Cal yX4_isDigit wsX4_isDigit cX4_isDigit 1 (some .boolean) RX4 1 := ⟨⟨_, rfl⟩, by decide +kernel⟩
theorem f_X4_next_133 : FL wsX4_next RX4 133 4 19 := ⟨RX4, TX4, 27, rfl, fun _ h => List.mem_cons_of_mem _ (List.mem_append_right _ h), by decide, List.mem_of_getElem? (i := 5) (by decide +kernel)⟩
theorem fp_4_19 : FP 4 19 .int := ⟨RX4, TX4, 27, tyX4, rfl, tyX4_ok, nmX4, rfl, by decide +kernel⟩
theorem fp_4_17 : FP 4 17 .int := ⟨RX4, TX4, 27, tyX4, rfl, tyX4_ok, nmX4, rfl, by decide +kernel⟩
theorem f_X4_next_142 : FL wsX4_next RX4 142 4 20 := ⟨RX4, TX4, 27, rfl, fun _ h => List.mem_cons_of_mem _ (List.mem_append_right _ h), by decide, List.mem_of_getElem? (i := 6) (by decide +kernel)⟩
theorem fp_4_20 : FP 4 20 .int := ⟨RX4, TX4, 27, tyX4, rfl, tyX4_ok, nmX4, rfl, by decide +kernel⟩
theorem f_X4_isWord_133 : FL wsX4_isWord RX4 133 4 19 := ⟨RX4, TX4, 27, rfl, fun _ h => List.mem_cons_of_mem _ (List.mem_append_right _ h), by decide, List.mem_of_getElem? (i := 1) (by decide +kernel)⟩
theorem f_X4_isWord_127 : FL wsX4_isWord RX4 127 4 17 := ⟨RX4, TX4, 27, rfl, fun _ h => List.mem_cons_of_mem _ (List.mem_append_right _ h), by decide, List.mem_of_getElem? (i := 2) (by decide +kernel)⟩
theorem f_X4_isWord_130 : FL wsX4_isWord RX4 130 4 18 := ⟨RX4, TX4, 27, rfl, fun _ h => List.mem_cons_of_mem _ (List.mem_append_right _ h), by decide, List.mem_of_getElem? (i := 3) (by decide +kernel)⟩
theorem f_X4_isWord_29 : FL wsX4_isWord RX4 29 4 16 := ⟨RX4, TX4, 27, rfl, fun _ h => List.mem_cons_of_mem _ (List.mem_append_right _ h), by decide, List.mem_of_getElem? (i := 4) (by decide +kernel)⟩
theorem cal_X4_next : Cal yX4_next wsX4_next cX4_next 2 none RX4 0 := ⟨⟨_, rfl⟩, by decide +kernel⟩
theorem f_X4_number_133 : FL wsX4_number RX4 133 4 19 := ⟨RX4, TX4, 27, rfl, fun _ h => List.mem_cons_of_mem _ (List.mem_append_right _ h), by decide, List.mem_of_getElem? (i := 1) (by decide +kernel)⟩
theorem f_X4_number_142 : FL wsX4_number RX4 142 4 20 := ⟨RX4, TX4, 27, rfl, fun _ h => List.mem_cons_of_mem _ (List.mem_append_right _ h), by decide, List.mem_of_getElem? (i := 2) (by decide +kernel)⟩
set_option maxHeartbeats 4000000 in
set_option maxRecDepth 100000 in
theorem d_next (g : gT) (ad : Nat → Nat) (N : Sch) (K : Sch) (b : Bool) (z : Nat) (le : Nat → Nat) (rf : Nat → Int32) (hd : Nat → Int32) (ln : Nat → Nat) (vl : Nat → Nat → Int64) (at1 : Nat) (tk : Nat) (so : Int32) (va : Int32) (lm : Nat → Nat) (ol : Nat → Int32) (ah : Nat → Int32) (lt : Int32) (lo : Nat → Int32) (hz : z ≤ 250) (hb : ∀ i, i < 250 → le i < 256) (he : at1 ≤ z) : Cw g yX4_next wsX4_next 1 20 [.ref (ad 0)] (mdW g ad (N, K, b, z, le, rf, hd, ln, vl) (6, at1, tk, so, va, lm, ol, ah, lt, lo)) none (mdW g ad (N, K, b, z, le, rf, hd, ln, vl) (6, tkE le z at1, skp le z at1, kI (tkK le z at1), vaS le z at1 va, lm, ol, ah, lt, lo)) := by
  refine Ct.start (cc := cX4_next) (nL := 2) (ret := none) (own := RX4) (by decide) rfl rfl rfl ?_
  intro Γ X E
  show Go Γ g 2 (rmC 1 20) 0 0 (mdW g ad (N, K, b, z, le, rf, hd, ln, vl) (6, at1, tk, so, va, lm, ol, ah, lt, lo)) 0 [(0, .ref (ad 0))] []
  have L0 : ∀ (f0 : Nat) (e : Nat) (h1 : e ≤ z) (h2 : skp le z at1 = skp le z e) (hf0 : z - e < f0), Go Γ g 2 (rmC 1 20) 0 0 (mdW g ad (N, K, b, z, le, rf, hd, ln, vl) (6, e, tk, so, va, lm, ol, ah, lt, lo)) 0 [(0, .ref (ad 0))] [] := by
    intro f0
    induction f0 with
    | zero => intro e h1 h2 hf0; exact absurd hf0 (Nat.not_lt_zero _)
    | succ f0 ih0 =>
      intro e h1 h2 hf0
      refine Go.aload_n X 0 dX4_next_0 rfl ?_
      refine Go.get X f_X4_next_127 0 (v := .int (nI e)) rfl rfl dX4_next_1 ?_
      refine Go.aload_n X 0 dX4_next_4 rfl ?_
      refine Go.get X f_X4_next_124 0 (v := .int (nI z)) rfl rfl dX4_next_5 ?_
      refine Go.icmp_geN X 38 dX4_next_8 (by decide) (by first | omega | (split <;> omega)) (by first | omega | (split <;> omega)) (fun h8 => ?_) (fun h8 => ?_)
      · --
        have q2 : skp le z at1 = e := h2.trans (scn_z h8)
        refine Go.conv (M1 := mdW g ad (N, K, b, z, le, rf, hd, ln, vl) (6, skp le z at1, tk, so, va, lm, ol, ah, lt, lo)) ?_ (by rw [q2]) rfl rfl
        have h54a : skp le z at1 ≤ z := by omega
        refine Go.aload_n X 0 dX4_next_38 rfl ?_
        refine Go.aload_n X 0 dX4_next_39 rfl ?_
        refine Go.get X f_X4_next_127 0 (v := .int (nI (skp le z at1))) rfl rfl dX4_next_40 ?_
        refine Go.putM X f_X4_next_130 fp_4_18 0 (mdW g ad (N, K, b, z, le, rf, hd, ln, vl) (6, skp le z at1, skp le z at1, so, va, lm, ol, ah, lt, lo)) rfl rfl rfl rfl dX4_next_43 rfl ?_
        refine Go.aload_n X 0 dX4_next_46 rfl ?_
        refine Go.get X f_X4_next_127 0 (v := .int (nI (skp le z at1))) rfl rfl dX4_next_47 ?_
        refine Go.aload_n X 0 dX4_next_50 rfl ?_
        refine Go.get X f_X4_next_124 0 (v := .int (nI z)) rfl rfl dX4_next_51 ?_
        refine Go.icmp_neN X 63 dX4_next_54 (by decide) (by first | omega | (split <;> omega)) (by first | omega | (split <;> omega)) (fun h54 => ?_) (fun h54 => ?_)
        · --
          have h54b : skp le z at1 < z := by omega
          refine Go.aload_n X 0 dX4_next_63 rfl ?_
          refine Go.get X f_X4_next_29 0 (v := .ref (ad 7)) rfl rfl dX4_next_64 ?_
          refine Go.aload_n X 0 dX4_next_67 rfl ?_
          refine Go.get X f_X4_next_127 0 (v := .int (nI (skp le z at1))) rfl rfl dX4_next_68 ?_
          refine Go.ialdN X 7 (w := le) rfl (by first | omega | (split <;> omega)) rfl dX4_next_71 ?_
          have q3 := hb (skp le z at1) (by omega)
          refine Go.istore_n_new X dX4_next_72 (by decide) rfl ?_
          refine Go.iload_n X 0 dX4_next_73 rfl ?_
          refine Go.callSi X  (d_isLetter g (le (skp le z at1)) (by first | omega | (split <;> omega))) cal_X4_isLetter [] rfl rfl gX4_next_X4_isLetter rfl rfl rfl dX4_next_74 ?_
          refine Go.if_eqB X 124 dX4_next_77 (by decide) (fun h77 => ?_) (fun h77 => ?_)
          · --
            refine Go.iload_n X 0 dX4_next_124 rfl ?_
            refine Go.callSi X  (d_isDigit g (le (skp le z at1)) (by first | omega | (split <;> omega))) cal_X4_isDigit [] rfl rfl gX4_next_X4_isDigit rfl rfl rfl dX4_next_125 ?_
            refine Go.if_eqB X 240 dX4_next_128 (by decide) (fun h128 => ?_) (fun h128 => ?_)
            · --
              refine Go.aload_n X 1 dX4_next_240 rfl ?_
              refine Go.iload_n X 0 dX4_next_241 rfl ?_
              refine Go.bipush X (nI 59) dX4_next_242 k_bp_59 ?_
              refine Go.icmp_neN X 251 dX4_next_244 (by decide) (by first | omega | (split <;> omega)) (by decide) (fun h244 => ?_) (fun h244 => ?_)
              · --
                refine Go.iconst X ((-1 : Int32)) dX4_next_251 k_ic_m1 ?_
                refine Go.putM X f_X4_next_133 fp_4_19 0 (mdW g ad (N, K, b, z, le, rf, hd, ln, vl) (6, skp le z at1, skp le z at1, (-1), va, lm, ol, ah, lt, lo)) rfl rfl rfl rfl dX4_next_252 rfl ?_
                refine Go.aload_n X 1 dX4_next_255 rfl ?_
                refine Go.dup X dX4_next_256 rfl ?_
                refine Go.get X f_X4_next_127 0 (v := .int (nI (skp le z at1))) rfl rfl dX4_next_257 ?_
                refine Go.iconst X (nI 1) dX4_next_260 k_ic_1 ?_
                refine Go.iadd_e X (nI (skp le z at1 + 1)) dX4_next_261 (nI_add _ _) ?_
                refine Go.putM X f_X4_next_127 fp_4_17 0 (mdW g ad (N, K, b, z, le, rf, hd, ln, vl) (6, skp le z at1 + 1, skp le z at1, (-1), va, lm, ol, ah, lt, lo)) rfl rfl rfl rfl dX4_next_262 rfl ?_
                have t1 := tok_3 h54b (of_decide_eq_false h77) (of_decide_eq_false h128)
                exact Go.vret X E dX4_next_265 ⟨rfl, (by rw [vaS_n (show ¬ tkK le z at1 = 2 by rw [t1.1]; rw [if_neg h244]; decide), t1.1, t1.2, if_neg h244]; rfl)⟩ rfl
              · --
                refine Go.iconst X (nI 3) dX4_next_247 k_ic_3 ?_
                refine Go.goto X 252 dX4_next_248 (by decide) ?_
                refine Go.putM X f_X4_next_133 fp_4_19 0 (mdW g ad (N, K, b, z, le, rf, hd, ln, vl) (6, skp le z at1, skp le z at1, (nI 3), va, lm, ol, ah, lt, lo)) rfl rfl rfl rfl dX4_next_252 rfl ?_
                refine Go.aload_n X 1 dX4_next_255 rfl ?_
                refine Go.dup X dX4_next_256 rfl ?_
                refine Go.get X f_X4_next_127 0 (v := .int (nI (skp le z at1))) rfl rfl dX4_next_257 ?_
                refine Go.iconst X (nI 1) dX4_next_260 k_ic_1 ?_
                refine Go.iadd_e X (nI (skp le z at1 + 1)) dX4_next_261 (nI_add _ _) ?_
                refine Go.putM X f_X4_next_127 fp_4_17 0 (mdW g ad (N, K, b, z, le, rf, hd, ln, vl) (6, skp le z at1 + 1, skp le z at1, (nI 3), va, lm, ol, ah, lt, lo)) rfl rfl rfl rfl dX4_next_262 rfl ?_
                have t1 := tok_3 h54b (of_decide_eq_false h77) (of_decide_eq_false h128)
                exact Go.vret X E dX4_next_265 ⟨rfl, (by rw [vaS_n (show ¬ tkK le z at1 = 2 by rw [t1.1]; rw [if_pos h244]; decide), t1.1, t1.2, if_pos h244]; rfl)⟩ rfl
            · --
              refine Go.aload_n X 1 dX4_next_131 rfl ?_
              refine Go.iconst X (nI 2) dX4_next_132 k_ic_2 ?_
              refine Go.putM X f_X4_next_133 fp_4_19 0 (mdW g ad (N, K, b, z, le, rf, hd, ln, vl) (6, skp le z at1, skp le z at1, (nI 2), va, lm, ol, ah, lt, lo)) rfl rfl rfl rfl dX4_next_133 rfl ?_
              refine Go.aload_n X 1 dX4_next_136 rfl ?_
              refine Go.iconst X (nI 0) dX4_next_137 k_ic_0 ?_
              refine Go.putM X f_X4_next_142 fp_4_20 0 (mdW g ad (N, K, b, z, le, rf, hd, ln, vl) (6, skp le z at1, skp le z at1, (nI 2), (nI 0), lm, ol, ah, lt, lo)) rfl rfl rfl rfl dX4_next_138 rfl ?_
              have L141 : ∀ (f141 : Nat) (e : Nat) (h3 : skp le z at1 ≤ e ∧ e ≤ z) (h4 : run le z 2 (skp le z at1) = run le z 2 e) (hf141 : z - e < f141), Go Γ g 2 (rmC 1 20) 0 0 (mdW g ad (N, K, b, z, le, rf, hd, ln, vl) (6, e, skp le z at1, (nI 2), numF le (skp le z at1) (min (e - (skp le z at1)) 3), lm, ol, ah, lt, lo)) 141 [(1, .int (nI (le (skp le z at1)))), (0, .ref (ad 0))] [] := by
                intro f141
                induction f141 with
                | zero => intro e h3 h4 hf141; exact absurd hf141 (Nat.not_lt_zero _)
                | succ f141 ih141 =>
                  intro e h3 h4 hf141
                  refine Go.aload_n X 1 dX4_next_141 rfl ?_
                  refine Go.get X f_X4_next_127 0 (v := .int (nI e)) rfl rfl dX4_next_142 ?_
                  refine Go.aload_n X 1 dX4_next_145 rfl ?_
                  refine Go.get X f_X4_next_124 0 (v := .int (nI z)) rfl rfl dX4_next_146 ?_
                  refine Go.icmp_geN X 217 dX4_next_149 (by decide) (by first | omega | (split <;> omega)) (by first | omega | (split <;> omega)) (fun h149 => ?_) (fun h149 => ?_)
                  · --
                    refine Go.aload_n X 1 dX4_next_217 rfl ?_
                    refine Go.get X f_X4_next_127 0 (v := .int (nI e)) rfl rfl dX4_next_218 ?_
                    refine Go.aload_n X 1 dX4_next_221 rfl ?_
                    refine Go.get X f_X4_next_130 0 (v := .int (nI (skp le z at1))) rfl rfl dX4_next_222 ?_
                    refine Go.isub_e X (nI (e - (skp le z at1))) dX4_next_225 (pk_sub (by first | omega | (split <;> omega))) ?_
                    refine Go.iconst X (nI 2) dX4_next_226 k_ic_2 ?_
                    refine Go.icmp_leN X 265 dX4_next_227 (by decide) (by first | omega | (split <;> omega)) (by decide) (fun h227 => ?_) (fun h227 => ?_)
                    · --
                      have t1 := tok_2 (x := e) h54b (of_decide_eq_true h128) (h4.trans (scn_z h149))
                      have t2 : numF le (skp le z at1) (min (e - skp le z at1) 3) = (if 2 < e - skp le z at1 then nI 1000 else numF le (skp le z at1) (e - skp le z at1)) := by rw [if_neg (by omega), show min (e - skp le z at1) 3 = e - skp le z at1 by omega]
                      exact Go.vret X E dX4_next_265 ⟨rfl, (by rw [vaS_2 t1.1 t1.2 t2, t1.1, t1.2]; rfl)⟩ rfl
                    · --
                      refine Go.aload_n X 1 dX4_next_230 rfl ?_
                      refine Go.sipush X (nI 1000) dX4_next_231 k_sp_1000 ?_
                      refine Go.putM X f_X4_next_142 fp_4_20 0 (mdW g ad (N, K, b, z, le, rf, hd, ln, vl) (6, e, skp le z at1, (nI 2), (nI 1000), lm, ol, ah, lt, lo)) rfl rfl rfl rfl dX4_next_234 rfl ?_
                      refine Go.goto X 265 dX4_next_237 (by decide) ?_
                      have t1 := tok_2 (x := e) h54b (of_decide_eq_true h128) (h4.trans (scn_z h149))
                      have t2 : nI 1000 = (if 2 < e - skp le z at1 then nI 1000 else numF le (skp le z at1) (e - skp le z at1)) := by rw [if_pos (by omega)]
                      exact Go.vret X E dX4_next_265 ⟨rfl, (by rw [vaS_2 t1.1 t1.2 t2, t1.1, t1.2]; rfl)⟩ rfl
                  · --
                    refine Go.aload_n X 1 dX4_next_152 rfl ?_
                    refine Go.get X f_X4_next_29 0 (v := .ref (ad 7)) rfl rfl dX4_next_153 ?_
                    refine Go.aload_n X 1 dX4_next_156 rfl ?_
                    refine Go.get X f_X4_next_127 0 (v := .int (nI e)) rfl rfl dX4_next_157 ?_
                    refine Go.ialdN X 7 (w := le) rfl (by first | omega | (split <;> omega)) rfl dX4_next_160 ?_
                    have q4 := hb e (by omega)
                    refine Go.callSi X  (d_isDigit g (le e) (by first | omega | (split <;> omega))) cal_X4_isDigit [] rfl rfl gX4_next_X4_isDigit rfl rfl rfl dX4_next_161 ?_
                    refine Go.if_eqB X 217 dX4_next_164 (by decide) (fun h164 => ?_) (fun h164 => ?_)
                    · --
                      refine Go.aload_n X 1 dX4_next_217 rfl ?_
                      refine Go.get X f_X4_next_127 0 (v := .int (nI e)) rfl rfl dX4_next_218 ?_
                      refine Go.aload_n X 1 dX4_next_221 rfl ?_
                      refine Go.get X f_X4_next_130 0 (v := .int (nI (skp le z at1))) rfl rfl dX4_next_222 ?_
                      refine Go.isub_e X (nI (e - (skp le z at1))) dX4_next_225 (pk_sub (by first | omega | (split <;> omega))) ?_
                      refine Go.iconst X (nI 2) dX4_next_226 k_ic_2 ?_
                      refine Go.icmp_leN X 265 dX4_next_227 (by decide) (by first | omega | (split <;> omega)) (by decide) (fun h227 => ?_) (fun h227 => ?_)
                      · --
                        have t1 := tok_2 (x := e) h54b (of_decide_eq_true h128) (h4.trans (scn_p h164))
                        have t2 : numF le (skp le z at1) (min (e - skp le z at1) 3) = (if 2 < e - skp le z at1 then nI 1000 else numF le (skp le z at1) (e - skp le z at1)) := by rw [if_neg (by omega), show min (e - skp le z at1) 3 = e - skp le z at1 by omega]
                        exact Go.vret X E dX4_next_265 ⟨rfl, (by rw [vaS_2 t1.1 t1.2 t2, t1.1, t1.2]; rfl)⟩ rfl
                      · --
                        refine Go.aload_n X 1 dX4_next_230 rfl ?_
                        refine Go.sipush X (nI 1000) dX4_next_231 k_sp_1000 ?_
                        refine Go.putM X f_X4_next_142 fp_4_20 0 (mdW g ad (N, K, b, z, le, rf, hd, ln, vl) (6, e, skp le z at1, (nI 2), (nI 1000), lm, ol, ah, lt, lo)) rfl rfl rfl rfl dX4_next_234 rfl ?_
                        refine Go.goto X 265 dX4_next_237 (by decide) ?_
                        have t1 := tok_2 (x := e) h54b (of_decide_eq_true h128) (h4.trans (scn_p h164))
                        have t2 : nI 1000 = (if 2 < e - skp le z at1 then nI 1000 else numF le (skp le z at1) (e - skp le z at1)) := by rw [if_pos (by omega)]
                        exact Go.vret X E dX4_next_265 ⟨rfl, (by rw [vaS_2 t1.1 t1.2 t2, t1.1, t1.2]; rfl)⟩ rfl
                    · --
                      refine Go.aload_n X 1 dX4_next_167 rfl ?_
                      refine Go.get X f_X4_next_127 0 (v := .int (nI e)) rfl rfl dX4_next_168 ?_
                      refine Go.aload_n X 1 dX4_next_171 rfl ?_
                      refine Go.get X f_X4_next_130 0 (v := .int (nI (skp le z at1))) rfl rfl dX4_next_172 ?_
                      refine Go.isub_e X (nI (e - (skp le z at1))) dX4_next_175 (pk_sub (by first | omega | (split <;> omega))) ?_
                      refine Go.iconst X (nI 3) dX4_next_176 k_ic_3 ?_
                      refine Go.icmp_geN X 204 dX4_next_177 (by decide) (by first | omega | (split <;> omega)) (by decide) (fun h177 => ?_) (fun h177 => ?_)
                      · --
                        refine Go.aload_n X 1 dX4_next_204 rfl ?_
                        refine Go.dup X dX4_next_205 rfl ?_
                        refine Go.get X f_X4_next_127 0 (v := .int (nI e)) rfl rfl dX4_next_206 ?_
                        refine Go.iconst X (nI 1) dX4_next_209 k_ic_1 ?_
                        refine Go.iadd_e X (nI (e + 1)) dX4_next_210 (nI_add _ _) ?_
                        refine Go.putM X f_X4_next_127 fp_4_17 0 (mdW g ad (N, K, b, z, le, rf, hd, ln, vl) (6, e + 1, skp le z at1, (nI 2), numF le (skp le z at1) (min (e - (skp le z at1)) 3), lm, ol, ah, lt, lo)) rfl rfl rfl rfl dX4_next_211 rfl ?_
                        refine Go.goto X 141 dX4_next_214 (by decide) ?_
                        refine Go.conv (M1 := mdW g ad (N, K, b, z, le, rf, hd, ln, vl) (6, (e + 1), skp le z at1, (nI 2), numF le (skp le z at1) (min ((e + 1) - (skp le z at1)) 3), lm, ol, ah, lt, lo)) ?_ (by rw [show min (e + 1 - (skp le z at1)) 3 = min (e - (skp le z at1)) 3 by omega]) rfl rfl
                        exact ih141 (e + 1) (by first | omega | (split <;> omega)) (by rw [h4]; exact scn_s h149 h164) (by first | omega | (split <;> omega))
                      · --
                        refine Go.aload_n X 1 dX4_next_180 rfl ?_
                        refine Go.bipush X (nI 10) dX4_next_181 k_bp_10 ?_
                        refine Go.aload_n X 1 dX4_next_183 rfl ?_
                        refine Go.get X f_X4_next_142 0 (v := .int (numF le (skp le z at1) (min (e - (skp le z at1)) 3))) rfl rfl dX4_next_184 ?_
                        refine Go.imul_e X ((nI 10) * (numF le (skp le z at1) (min (e - (skp le z at1)) 3))) dX4_next_187 rfl ?_
                        refine Go.aload_n X 1 dX4_next_188 rfl ?_
                        refine Go.get X f_X4_next_29 0 (v := .ref (ad 7)) rfl rfl dX4_next_189 ?_
                        refine Go.aload_n X 1 dX4_next_192 rfl ?_
                        refine Go.get X f_X4_next_127 0 (v := .int (nI e)) rfl rfl dX4_next_193 ?_
                        refine Go.ialdN X 7 (w := le) rfl (by first | omega | (split <;> omega)) rfl dX4_next_196 ?_
                        refine Go.iadd_e X (((nI 10) * (numF le (skp le z at1) (min (e - (skp le z at1)) 3))) + (nI (le e))) dX4_next_197 rfl ?_
                        refine Go.bipush X (nI 48) dX4_next_198 k_bp_48 ?_
                        refine Go.isub_e X ((((nI 10) * (numF le (skp le z at1) (min (e - (skp le z at1)) 3))) + (nI (le e))) - (nI 48)) dX4_next_200 rfl ?_
                        refine Go.putM X f_X4_next_142 fp_4_20 0 (mdW g ad (N, K, b, z, le, rf, hd, ln, vl) (6, e, skp le z at1, (nI 2), (((nI 10) * (numF le (skp le z at1) (min (e - (skp le z at1)) 3))) + (nI (le e))) - (nI 48), lm, ol, ah, lt, lo)) rfl rfl rfl rfl dX4_next_201 rfl ?_
                        refine Go.aload_n X 1 dX4_next_204 rfl ?_
                        refine Go.dup X dX4_next_205 rfl ?_
                        refine Go.get X f_X4_next_127 0 (v := .int (nI e)) rfl rfl dX4_next_206 ?_
                        refine Go.iconst X (nI 1) dX4_next_209 k_ic_1 ?_
                        refine Go.iadd_e X (nI (e + 1)) dX4_next_210 (nI_add _ _) ?_
                        refine Go.putM X f_X4_next_127 fp_4_17 0 (mdW g ad (N, K, b, z, le, rf, hd, ln, vl) (6, e + 1, skp le z at1, (nI 2), (((nI 10) * (numF le (skp le z at1) (min (e - (skp le z at1)) 3))) + (nI (le e))) - (nI 48), lm, ol, ah, lt, lo)) rfl rfl rfl rfl dX4_next_211 rfl ?_
                        refine Go.goto X 141 dX4_next_214 (by decide) ?_
                        refine Go.conv (M1 := mdW g ad (N, K, b, z, le, rf, hd, ln, vl) (6, (e + 1), skp le z at1, (nI 2), numF le (skp le z at1) (min ((e + 1) - (skp le z at1)) 3), lm, ol, ah, lt, lo)) ?_ (by rw [show min (e - (skp le z at1)) 3 = e - (skp le z at1) by omega, show min (e + 1 - (skp le z at1)) 3 = (e - (skp le z at1)) + 1 by omega, numF, show (skp le z at1) + (e - (skp le z at1)) = e by omega]) rfl rfl
                        exact ih141 (e + 1) (by first | omega | (split <;> omega)) (by rw [h4]; exact scn_s h149 h164) (by first | omega | (split <;> omega))
              refine Go.conv (M1 := mdW g ad (N, K, b, z, le, rf, hd, ln, vl) (6, (skp le z at1), skp le z at1, (nI 2), numF le (skp le z at1) (min ((skp le z at1) - (skp le z at1)) 3), lm, ol, ah, lt, lo)) ?_ (by rw [Nat.sub_self]; rfl) rfl rfl
              exact L141 (z - (skp le z at1) + 1) (skp le z at1) (by first | omega | (split <;> omega)) (by rfl) (Nat.lt_succ_self _)
          · --
            refine Go.aload_n X 1 dX4_next_80 rfl ?_
            refine Go.iconst X (nI 1) dX4_next_81 k_ic_1 ?_
            refine Go.putM X f_X4_next_133 fp_4_19 0 (mdW g ad (N, K, b, z, le, rf, hd, ln, vl) (6, skp le z at1, skp le z at1, (nI 1), va, lm, ol, ah, lt, lo)) rfl rfl rfl rfl dX4_next_82 rfl ?_
            have L85 : ∀ (f85 : Nat) (e : Nat) (h3 : skp le z at1 ≤ e ∧ e ≤ z) (h4 : run le z 1 (skp le z at1) = run le z 1 e) (hf85 : z - e < f85), Go Γ g 2 (rmC 1 20) 0 0 (mdW g ad (N, K, b, z, le, rf, hd, ln, vl) (6, e, skp le z at1, (nI 1), va, lm, ol, ah, lt, lo)) 85 [(1, .int (nI (le (skp le z at1)))), (0, .ref (ad 0))] [] := by
              intro f85
              induction f85 with
              | zero => intro e h3 h4 hf85; exact absurd hf85 (Nat.not_lt_zero _)
              | succ f85 ih85 =>
                intro e h3 h4 hf85
                refine Go.aload_n X 1 dX4_next_85 rfl ?_
                refine Go.get X f_X4_next_127 0 (v := .int (nI e)) rfl rfl dX4_next_86 ?_
                refine Go.aload_n X 1 dX4_next_89 rfl ?_
                refine Go.get X f_X4_next_124 0 (v := .int (nI z)) rfl rfl dX4_next_90 ?_
                refine Go.icmp_geN X 265 dX4_next_93 (by decide) (by first | omega | (split <;> omega)) (by first | omega | (split <;> omega)) (fun h93 => ?_) (fun h93 => ?_)
                · --
                  have t1 := tok_1 (x := e) h54b (of_decide_eq_true h77) (h4.trans (scn_z h93))
                  exact Go.vret X E dX4_next_265 ⟨rfl, (by rw [t1.1, t1.2, vaS_n (show ¬ tkK le z at1 = 2 by rw [t1.1]; decide)]; rfl)⟩ rfl
                · --
                  refine Go.aload_n X 1 dX4_next_96 rfl ?_
                  refine Go.get X f_X4_next_29 0 (v := .ref (ad 7)) rfl rfl dX4_next_97 ?_
                  refine Go.aload_n X 1 dX4_next_100 rfl ?_
                  refine Go.get X f_X4_next_127 0 (v := .int (nI e)) rfl rfl dX4_next_101 ?_
                  refine Go.ialdN X 7 (w := le) rfl (by first | omega | (split <;> omega)) rfl dX4_next_104 ?_
                  have q4 := hb e (by omega)
                  refine Go.callSi X  (d_isLetter g (le e) (by first | omega | (split <;> omega))) cal_X4_isLetter [] rfl rfl gX4_next_X4_isLetter rfl rfl rfl dX4_next_105 ?_
                  refine Go.if_eqB X 265 dX4_next_108 (by decide) (fun h108 => ?_) (fun h108 => ?_)
                  · --
                    have t1 := tok_1 (x := e) h54b (of_decide_eq_true h77) (h4.trans (scn_p h108))
                    exact Go.vret X E dX4_next_265 ⟨rfl, (by rw [t1.1, t1.2, vaS_n (show ¬ tkK le z at1 = 2 by rw [t1.1]; decide)]; rfl)⟩ rfl
                  · --
                    refine Go.aload_n X 1 dX4_next_111 rfl ?_
                    refine Go.dup X dX4_next_112 rfl ?_
                    refine Go.get X f_X4_next_127 0 (v := .int (nI e)) rfl rfl dX4_next_113 ?_
                    refine Go.iconst X (nI 1) dX4_next_116 k_ic_1 ?_
                    refine Go.iadd_e X (nI (e + 1)) dX4_next_117 (nI_add _ _) ?_
                    refine Go.putM X f_X4_next_127 fp_4_17 0 (mdW g ad (N, K, b, z, le, rf, hd, ln, vl) (6, e + 1, skp le z at1, (nI 1), va, lm, ol, ah, lt, lo)) rfl rfl rfl rfl dX4_next_118 rfl ?_
                    refine Go.goto X 85 dX4_next_121 (by decide) ?_
                    refine Go.conv (M1 := mdW g ad (N, K, b, z, le, rf, hd, ln, vl) (6, (e + 1), skp le z at1, (nI 1), va, lm, ol, ah, lt, lo)) ?_ (by rfl) rfl rfl
                    exact ih85 (e + 1) (by first | omega | (split <;> omega)) (by rw [h4]; exact scn_s h93 h108) (by first | omega | (split <;> omega))
            refine Go.conv (M1 := mdW g ad (N, K, b, z, le, rf, hd, ln, vl) (6, (skp le z at1), skp le z at1, (nI 1), va, lm, ol, ah, lt, lo)) ?_ (by rfl) rfl rfl
            exact L85 (z - (skp le z at1) + 1) (skp le z at1) (by first | omega | (split <;> omega)) (by rfl) (Nat.lt_succ_self _)
        · --
          refine Go.aload_n X 0 dX4_next_57 rfl ?_
          refine Go.iconst X (nI 0) dX4_next_58 k_ic_0 ?_
          refine Go.putM X f_X4_next_133 fp_4_19 0 (mdW g ad (N, K, b, z, le, rf, hd, ln, vl) (6, skp le z at1, skp le z at1, (nI 0), va, lm, ol, ah, lt, lo)) rfl rfl rfl rfl dX4_next_59 rfl ?_
          exact Go.vret X E dX4_next_62 ⟨rfl, (by rw [(st_0 (show z ≤ skp le z at1 by omega)).1, (st_0 (show z ≤ skp le z at1 by omega)).2, vaS_n (show ¬ tkK le z at1 = 2 by rw [(st_0 (show z ≤ skp le z at1 by omega)).1]; decide)]; rfl)⟩ rfl
      · --
        refine Go.aload_n X 0 dX4_next_11 rfl ?_
        refine Go.get X f_X4_next_29 0 (v := .ref (ad 7)) rfl rfl dX4_next_12 ?_
        refine Go.aload_n X 0 dX4_next_15 rfl ?_
        refine Go.get X f_X4_next_127 0 (v := .int (nI e)) rfl rfl dX4_next_16 ?_
        refine Go.ialdN X 7 (w := le) rfl (by first | omega | (split <;> omega)) rfl dX4_next_19 ?_
        have q1 := hb e (by omega)
        refine Go.bipush X (nI 32) dX4_next_20 k_bp_32 ?_
        refine Go.icmp_neN X 38 dX4_next_22 (by decide) (by first | omega | (split <;> omega)) (by decide) (fun h22 => ?_) (fun h22 => ?_)
        · --
          have q2 : skp le z at1 = e := h2.trans (scn_p (decide_eq_false h22))
          refine Go.conv (M1 := mdW g ad (N, K, b, z, le, rf, hd, ln, vl) (6, skp le z at1, tk, so, va, lm, ol, ah, lt, lo)) ?_ (by rw [q2]) rfl rfl
          have h54a : skp le z at1 ≤ z := by omega
          refine Go.aload_n X 0 dX4_next_38 rfl ?_
          refine Go.aload_n X 0 dX4_next_39 rfl ?_
          refine Go.get X f_X4_next_127 0 (v := .int (nI (skp le z at1))) rfl rfl dX4_next_40 ?_
          refine Go.putM X f_X4_next_130 fp_4_18 0 (mdW g ad (N, K, b, z, le, rf, hd, ln, vl) (6, skp le z at1, skp le z at1, so, va, lm, ol, ah, lt, lo)) rfl rfl rfl rfl dX4_next_43 rfl ?_
          refine Go.aload_n X 0 dX4_next_46 rfl ?_
          refine Go.get X f_X4_next_127 0 (v := .int (nI (skp le z at1))) rfl rfl dX4_next_47 ?_
          refine Go.aload_n X 0 dX4_next_50 rfl ?_
          refine Go.get X f_X4_next_124 0 (v := .int (nI z)) rfl rfl dX4_next_51 ?_
          refine Go.icmp_neN X 63 dX4_next_54 (by decide) (by first | omega | (split <;> omega)) (by first | omega | (split <;> omega)) (fun h54 => ?_) (fun h54 => ?_)
          · --
            have h54b : skp le z at1 < z := by omega
            refine Go.aload_n X 0 dX4_next_63 rfl ?_
            refine Go.get X f_X4_next_29 0 (v := .ref (ad 7)) rfl rfl dX4_next_64 ?_
            refine Go.aload_n X 0 dX4_next_67 rfl ?_
            refine Go.get X f_X4_next_127 0 (v := .int (nI (skp le z at1))) rfl rfl dX4_next_68 ?_
            refine Go.ialdN X 7 (w := le) rfl (by first | omega | (split <;> omega)) rfl dX4_next_71 ?_
            have q3 := hb (skp le z at1) (by omega)
            refine Go.istore_n_new X dX4_next_72 (by decide) rfl ?_
            refine Go.iload_n X 0 dX4_next_73 rfl ?_
            refine Go.callSi X  (d_isLetter g (le (skp le z at1)) (by first | omega | (split <;> omega))) cal_X4_isLetter [] rfl rfl gX4_next_X4_isLetter rfl rfl rfl dX4_next_74 ?_
            refine Go.if_eqB X 124 dX4_next_77 (by decide) (fun h77 => ?_) (fun h77 => ?_)
            · --
              refine Go.iload_n X 0 dX4_next_124 rfl ?_
              refine Go.callSi X  (d_isDigit g (le (skp le z at1)) (by first | omega | (split <;> omega))) cal_X4_isDigit [] rfl rfl gX4_next_X4_isDigit rfl rfl rfl dX4_next_125 ?_
              refine Go.if_eqB X 240 dX4_next_128 (by decide) (fun h128 => ?_) (fun h128 => ?_)
              · --
                refine Go.aload_n X 1 dX4_next_240 rfl ?_
                refine Go.iload_n X 0 dX4_next_241 rfl ?_
                refine Go.bipush X (nI 59) dX4_next_242 k_bp_59 ?_
                refine Go.icmp_neN X 251 dX4_next_244 (by decide) (by first | omega | (split <;> omega)) (by decide) (fun h244 => ?_) (fun h244 => ?_)
                · --
                  refine Go.iconst X ((-1 : Int32)) dX4_next_251 k_ic_m1 ?_
                  refine Go.putM X f_X4_next_133 fp_4_19 0 (mdW g ad (N, K, b, z, le, rf, hd, ln, vl) (6, skp le z at1, skp le z at1, (-1), va, lm, ol, ah, lt, lo)) rfl rfl rfl rfl dX4_next_252 rfl ?_
                  refine Go.aload_n X 1 dX4_next_255 rfl ?_
                  refine Go.dup X dX4_next_256 rfl ?_
                  refine Go.get X f_X4_next_127 0 (v := .int (nI (skp le z at1))) rfl rfl dX4_next_257 ?_
                  refine Go.iconst X (nI 1) dX4_next_260 k_ic_1 ?_
                  refine Go.iadd_e X (nI (skp le z at1 + 1)) dX4_next_261 (nI_add _ _) ?_
                  refine Go.putM X f_X4_next_127 fp_4_17 0 (mdW g ad (N, K, b, z, le, rf, hd, ln, vl) (6, skp le z at1 + 1, skp le z at1, (-1), va, lm, ol, ah, lt, lo)) rfl rfl rfl rfl dX4_next_262 rfl ?_
                  have t1 := tok_3 h54b (of_decide_eq_false h77) (of_decide_eq_false h128)
                  exact Go.vret X E dX4_next_265 ⟨rfl, (by rw [vaS_n (show ¬ tkK le z at1 = 2 by rw [t1.1]; rw [if_neg h244]; decide), t1.1, t1.2, if_neg h244]; rfl)⟩ rfl
                · --
                  refine Go.iconst X (nI 3) dX4_next_247 k_ic_3 ?_
                  refine Go.goto X 252 dX4_next_248 (by decide) ?_
                  refine Go.putM X f_X4_next_133 fp_4_19 0 (mdW g ad (N, K, b, z, le, rf, hd, ln, vl) (6, skp le z at1, skp le z at1, (nI 3), va, lm, ol, ah, lt, lo)) rfl rfl rfl rfl dX4_next_252 rfl ?_
                  refine Go.aload_n X 1 dX4_next_255 rfl ?_
                  refine Go.dup X dX4_next_256 rfl ?_
                  refine Go.get X f_X4_next_127 0 (v := .int (nI (skp le z at1))) rfl rfl dX4_next_257 ?_
                  refine Go.iconst X (nI 1) dX4_next_260 k_ic_1 ?_
                  refine Go.iadd_e X (nI (skp le z at1 + 1)) dX4_next_261 (nI_add _ _) ?_
                  refine Go.putM X f_X4_next_127 fp_4_17 0 (mdW g ad (N, K, b, z, le, rf, hd, ln, vl) (6, skp le z at1 + 1, skp le z at1, (nI 3), va, lm, ol, ah, lt, lo)) rfl rfl rfl rfl dX4_next_262 rfl ?_
                  have t1 := tok_3 h54b (of_decide_eq_false h77) (of_decide_eq_false h128)
                  exact Go.vret X E dX4_next_265 ⟨rfl, (by rw [vaS_n (show ¬ tkK le z at1 = 2 by rw [t1.1]; rw [if_pos h244]; decide), t1.1, t1.2, if_pos h244]; rfl)⟩ rfl
              · --
                refine Go.aload_n X 1 dX4_next_131 rfl ?_
                refine Go.iconst X (nI 2) dX4_next_132 k_ic_2 ?_
                refine Go.putM X f_X4_next_133 fp_4_19 0 (mdW g ad (N, K, b, z, le, rf, hd, ln, vl) (6, skp le z at1, skp le z at1, (nI 2), va, lm, ol, ah, lt, lo)) rfl rfl rfl rfl dX4_next_133 rfl ?_
                refine Go.aload_n X 1 dX4_next_136 rfl ?_
                refine Go.iconst X (nI 0) dX4_next_137 k_ic_0 ?_
                refine Go.putM X f_X4_next_142 fp_4_20 0 (mdW g ad (N, K, b, z, le, rf, hd, ln, vl) (6, skp le z at1, skp le z at1, (nI 2), (nI 0), lm, ol, ah, lt, lo)) rfl rfl rfl rfl dX4_next_138 rfl ?_
                have L141 : ∀ (f141 : Nat) (e : Nat) (h3 : skp le z at1 ≤ e ∧ e ≤ z) (h4 : run le z 2 (skp le z at1) = run le z 2 e) (hf141 : z - e < f141), Go Γ g 2 (rmC 1 20) 0 0 (mdW g ad (N, K, b, z, le, rf, hd, ln, vl) (6, e, skp le z at1, (nI 2), numF le (skp le z at1) (min (e - (skp le z at1)) 3), lm, ol, ah, lt, lo)) 141 [(1, .int (nI (le (skp le z at1)))), (0, .ref (ad 0))] [] := by
                  intro f141
                  induction f141 with
                  | zero => intro e h3 h4 hf141; exact absurd hf141 (Nat.not_lt_zero _)
                  | succ f141 ih141 =>
                    intro e h3 h4 hf141
                    refine Go.aload_n X 1 dX4_next_141 rfl ?_
                    refine Go.get X f_X4_next_127 0 (v := .int (nI e)) rfl rfl dX4_next_142 ?_
                    refine Go.aload_n X 1 dX4_next_145 rfl ?_
                    refine Go.get X f_X4_next_124 0 (v := .int (nI z)) rfl rfl dX4_next_146 ?_
                    refine Go.icmp_geN X 217 dX4_next_149 (by decide) (by first | omega | (split <;> omega)) (by first | omega | (split <;> omega)) (fun h149 => ?_) (fun h149 => ?_)
                    · --
                      refine Go.aload_n X 1 dX4_next_217 rfl ?_
                      refine Go.get X f_X4_next_127 0 (v := .int (nI e)) rfl rfl dX4_next_218 ?_
                      refine Go.aload_n X 1 dX4_next_221 rfl ?_
                      refine Go.get X f_X4_next_130 0 (v := .int (nI (skp le z at1))) rfl rfl dX4_next_222 ?_
                      refine Go.isub_e X (nI (e - (skp le z at1))) dX4_next_225 (pk_sub (by first | omega | (split <;> omega))) ?_
                      refine Go.iconst X (nI 2) dX4_next_226 k_ic_2 ?_
                      refine Go.icmp_leN X 265 dX4_next_227 (by decide) (by first | omega | (split <;> omega)) (by decide) (fun h227 => ?_) (fun h227 => ?_)
                      · --
                        have t1 := tok_2 (x := e) h54b (of_decide_eq_true h128) (h4.trans (scn_z h149))
                        have t2 : numF le (skp le z at1) (min (e - skp le z at1) 3) = (if 2 < e - skp le z at1 then nI 1000 else numF le (skp le z at1) (e - skp le z at1)) := by rw [if_neg (by omega), show min (e - skp le z at1) 3 = e - skp le z at1 by omega]
                        exact Go.vret X E dX4_next_265 ⟨rfl, (by rw [vaS_2 t1.1 t1.2 t2, t1.1, t1.2]; rfl)⟩ rfl
                      · --
                        refine Go.aload_n X 1 dX4_next_230 rfl ?_
                        refine Go.sipush X (nI 1000) dX4_next_231 k_sp_1000 ?_
                        refine Go.putM X f_X4_next_142 fp_4_20 0 (mdW g ad (N, K, b, z, le, rf, hd, ln, vl) (6, e, skp le z at1, (nI 2), (nI 1000), lm, ol, ah, lt, lo)) rfl rfl rfl rfl dX4_next_234 rfl ?_
                        refine Go.goto X 265 dX4_next_237 (by decide) ?_
                        have t1 := tok_2 (x := e) h54b (of_decide_eq_true h128) (h4.trans (scn_z h149))
                        have t2 : nI 1000 = (if 2 < e - skp le z at1 then nI 1000 else numF le (skp le z at1) (e - skp le z at1)) := by rw [if_pos (by omega)]
                        exact Go.vret X E dX4_next_265 ⟨rfl, (by rw [vaS_2 t1.1 t1.2 t2, t1.1, t1.2]; rfl)⟩ rfl
                    · --
                      refine Go.aload_n X 1 dX4_next_152 rfl ?_
                      refine Go.get X f_X4_next_29 0 (v := .ref (ad 7)) rfl rfl dX4_next_153 ?_
                      refine Go.aload_n X 1 dX4_next_156 rfl ?_
                      refine Go.get X f_X4_next_127 0 (v := .int (nI e)) rfl rfl dX4_next_157 ?_
                      refine Go.ialdN X 7 (w := le) rfl (by first | omega | (split <;> omega)) rfl dX4_next_160 ?_
                      have q4 := hb e (by omega)
                      refine Go.callSi X  (d_isDigit g (le e) (by first | omega | (split <;> omega))) cal_X4_isDigit [] rfl rfl gX4_next_X4_isDigit rfl rfl rfl dX4_next_161 ?_
                      refine Go.if_eqB X 217 dX4_next_164 (by decide) (fun h164 => ?_) (fun h164 => ?_)
                      · --
                        refine Go.aload_n X 1 dX4_next_217 rfl ?_
                        refine Go.get X f_X4_next_127 0 (v := .int (nI e)) rfl rfl dX4_next_218 ?_
                        refine Go.aload_n X 1 dX4_next_221 rfl ?_
                        refine Go.get X f_X4_next_130 0 (v := .int (nI (skp le z at1))) rfl rfl dX4_next_222 ?_
                        refine Go.isub_e X (nI (e - (skp le z at1))) dX4_next_225 (pk_sub (by first | omega | (split <;> omega))) ?_
                        refine Go.iconst X (nI 2) dX4_next_226 k_ic_2 ?_
                        refine Go.icmp_leN X 265 dX4_next_227 (by decide) (by first | omega | (split <;> omega)) (by decide) (fun h227 => ?_) (fun h227 => ?_)
                        · --
                          have t1 := tok_2 (x := e) h54b (of_decide_eq_true h128) (h4.trans (scn_p h164))
                          have t2 : numF le (skp le z at1) (min (e - skp le z at1) 3) = (if 2 < e - skp le z at1 then nI 1000 else numF le (skp le z at1) (e - skp le z at1)) := by rw [if_neg (by omega), show min (e - skp le z at1) 3 = e - skp le z at1 by omega]
                          exact Go.vret X E dX4_next_265 ⟨rfl, (by rw [vaS_2 t1.1 t1.2 t2, t1.1, t1.2]; rfl)⟩ rfl
                        · --
                          refine Go.aload_n X 1 dX4_next_230 rfl ?_
                          refine Go.sipush X (nI 1000) dX4_next_231 k_sp_1000 ?_
                          refine Go.putM X f_X4_next_142 fp_4_20 0 (mdW g ad (N, K, b, z, le, rf, hd, ln, vl) (6, e, skp le z at1, (nI 2), (nI 1000), lm, ol, ah, lt, lo)) rfl rfl rfl rfl dX4_next_234 rfl ?_
                          refine Go.goto X 265 dX4_next_237 (by decide) ?_
                          have t1 := tok_2 (x := e) h54b (of_decide_eq_true h128) (h4.trans (scn_p h164))
                          have t2 : nI 1000 = (if 2 < e - skp le z at1 then nI 1000 else numF le (skp le z at1) (e - skp le z at1)) := by rw [if_pos (by omega)]
                          exact Go.vret X E dX4_next_265 ⟨rfl, (by rw [vaS_2 t1.1 t1.2 t2, t1.1, t1.2]; rfl)⟩ rfl
                      · --
                        refine Go.aload_n X 1 dX4_next_167 rfl ?_
                        refine Go.get X f_X4_next_127 0 (v := .int (nI e)) rfl rfl dX4_next_168 ?_
                        refine Go.aload_n X 1 dX4_next_171 rfl ?_
                        refine Go.get X f_X4_next_130 0 (v := .int (nI (skp le z at1))) rfl rfl dX4_next_172 ?_
                        refine Go.isub_e X (nI (e - (skp le z at1))) dX4_next_175 (pk_sub (by first | omega | (split <;> omega))) ?_
                        refine Go.iconst X (nI 3) dX4_next_176 k_ic_3 ?_
                        refine Go.icmp_geN X 204 dX4_next_177 (by decide) (by first | omega | (split <;> omega)) (by decide) (fun h177 => ?_) (fun h177 => ?_)
                        · --
                          refine Go.aload_n X 1 dX4_next_204 rfl ?_
                          refine Go.dup X dX4_next_205 rfl ?_
                          refine Go.get X f_X4_next_127 0 (v := .int (nI e)) rfl rfl dX4_next_206 ?_
                          refine Go.iconst X (nI 1) dX4_next_209 k_ic_1 ?_
                          refine Go.iadd_e X (nI (e + 1)) dX4_next_210 (nI_add _ _) ?_
                          refine Go.putM X f_X4_next_127 fp_4_17 0 (mdW g ad (N, K, b, z, le, rf, hd, ln, vl) (6, e + 1, skp le z at1, (nI 2), numF le (skp le z at1) (min (e - (skp le z at1)) 3), lm, ol, ah, lt, lo)) rfl rfl rfl rfl dX4_next_211 rfl ?_
                          refine Go.goto X 141 dX4_next_214 (by decide) ?_
                          refine Go.conv (M1 := mdW g ad (N, K, b, z, le, rf, hd, ln, vl) (6, (e + 1), skp le z at1, (nI 2), numF le (skp le z at1) (min ((e + 1) - (skp le z at1)) 3), lm, ol, ah, lt, lo)) ?_ (by rw [show min (e + 1 - (skp le z at1)) 3 = min (e - (skp le z at1)) 3 by omega]) rfl rfl
                          exact ih141 (e + 1) (by first | omega | (split <;> omega)) (by rw [h4]; exact scn_s h149 h164) (by first | omega | (split <;> omega))
                        · --
                          refine Go.aload_n X 1 dX4_next_180 rfl ?_
                          refine Go.bipush X (nI 10) dX4_next_181 k_bp_10 ?_
                          refine Go.aload_n X 1 dX4_next_183 rfl ?_
                          refine Go.get X f_X4_next_142 0 (v := .int (numF le (skp le z at1) (min (e - (skp le z at1)) 3))) rfl rfl dX4_next_184 ?_
                          refine Go.imul_e X ((nI 10) * (numF le (skp le z at1) (min (e - (skp le z at1)) 3))) dX4_next_187 rfl ?_
                          refine Go.aload_n X 1 dX4_next_188 rfl ?_
                          refine Go.get X f_X4_next_29 0 (v := .ref (ad 7)) rfl rfl dX4_next_189 ?_
                          refine Go.aload_n X 1 dX4_next_192 rfl ?_
                          refine Go.get X f_X4_next_127 0 (v := .int (nI e)) rfl rfl dX4_next_193 ?_
                          refine Go.ialdN X 7 (w := le) rfl (by first | omega | (split <;> omega)) rfl dX4_next_196 ?_
                          refine Go.iadd_e X (((nI 10) * (numF le (skp le z at1) (min (e - (skp le z at1)) 3))) + (nI (le e))) dX4_next_197 rfl ?_
                          refine Go.bipush X (nI 48) dX4_next_198 k_bp_48 ?_
                          refine Go.isub_e X ((((nI 10) * (numF le (skp le z at1) (min (e - (skp le z at1)) 3))) + (nI (le e))) - (nI 48)) dX4_next_200 rfl ?_
                          refine Go.putM X f_X4_next_142 fp_4_20 0 (mdW g ad (N, K, b, z, le, rf, hd, ln, vl) (6, e, skp le z at1, (nI 2), (((nI 10) * (numF le (skp le z at1) (min (e - (skp le z at1)) 3))) + (nI (le e))) - (nI 48), lm, ol, ah, lt, lo)) rfl rfl rfl rfl dX4_next_201 rfl ?_
                          refine Go.aload_n X 1 dX4_next_204 rfl ?_
                          refine Go.dup X dX4_next_205 rfl ?_
                          refine Go.get X f_X4_next_127 0 (v := .int (nI e)) rfl rfl dX4_next_206 ?_
                          refine Go.iconst X (nI 1) dX4_next_209 k_ic_1 ?_
                          refine Go.iadd_e X (nI (e + 1)) dX4_next_210 (nI_add _ _) ?_
                          refine Go.putM X f_X4_next_127 fp_4_17 0 (mdW g ad (N, K, b, z, le, rf, hd, ln, vl) (6, e + 1, skp le z at1, (nI 2), (((nI 10) * (numF le (skp le z at1) (min (e - (skp le z at1)) 3))) + (nI (le e))) - (nI 48), lm, ol, ah, lt, lo)) rfl rfl rfl rfl dX4_next_211 rfl ?_
                          refine Go.goto X 141 dX4_next_214 (by decide) ?_
                          refine Go.conv (M1 := mdW g ad (N, K, b, z, le, rf, hd, ln, vl) (6, (e + 1), skp le z at1, (nI 2), numF le (skp le z at1) (min ((e + 1) - (skp le z at1)) 3), lm, ol, ah, lt, lo)) ?_ (by rw [show min (e - (skp le z at1)) 3 = e - (skp le z at1) by omega, show min (e + 1 - (skp le z at1)) 3 = (e - (skp le z at1)) + 1 by omega, numF, show (skp le z at1) + (e - (skp le z at1)) = e by omega]) rfl rfl
                          exact ih141 (e + 1) (by first | omega | (split <;> omega)) (by rw [h4]; exact scn_s h149 h164) (by first | omega | (split <;> omega))
                refine Go.conv (M1 := mdW g ad (N, K, b, z, le, rf, hd, ln, vl) (6, (skp le z at1), skp le z at1, (nI 2), numF le (skp le z at1) (min ((skp le z at1) - (skp le z at1)) 3), lm, ol, ah, lt, lo)) ?_ (by rw [Nat.sub_self]; rfl) rfl rfl
                exact L141 (z - (skp le z at1) + 1) (skp le z at1) (by first | omega | (split <;> omega)) (by rfl) (Nat.lt_succ_self _)
            · --
              refine Go.aload_n X 1 dX4_next_80 rfl ?_
              refine Go.iconst X (nI 1) dX4_next_81 k_ic_1 ?_
              refine Go.putM X f_X4_next_133 fp_4_19 0 (mdW g ad (N, K, b, z, le, rf, hd, ln, vl) (6, skp le z at1, skp le z at1, (nI 1), va, lm, ol, ah, lt, lo)) rfl rfl rfl rfl dX4_next_82 rfl ?_
              have L85 : ∀ (f85 : Nat) (e : Nat) (h3 : skp le z at1 ≤ e ∧ e ≤ z) (h4 : run le z 1 (skp le z at1) = run le z 1 e) (hf85 : z - e < f85), Go Γ g 2 (rmC 1 20) 0 0 (mdW g ad (N, K, b, z, le, rf, hd, ln, vl) (6, e, skp le z at1, (nI 1), va, lm, ol, ah, lt, lo)) 85 [(1, .int (nI (le (skp le z at1)))), (0, .ref (ad 0))] [] := by
                intro f85
                induction f85 with
                | zero => intro e h3 h4 hf85; exact absurd hf85 (Nat.not_lt_zero _)
                | succ f85 ih85 =>
                  intro e h3 h4 hf85
                  refine Go.aload_n X 1 dX4_next_85 rfl ?_
                  refine Go.get X f_X4_next_127 0 (v := .int (nI e)) rfl rfl dX4_next_86 ?_
                  refine Go.aload_n X 1 dX4_next_89 rfl ?_
                  refine Go.get X f_X4_next_124 0 (v := .int (nI z)) rfl rfl dX4_next_90 ?_
                  refine Go.icmp_geN X 265 dX4_next_93 (by decide) (by first | omega | (split <;> omega)) (by first | omega | (split <;> omega)) (fun h93 => ?_) (fun h93 => ?_)
                  · --
                    have t1 := tok_1 (x := e) h54b (of_decide_eq_true h77) (h4.trans (scn_z h93))
                    exact Go.vret X E dX4_next_265 ⟨rfl, (by rw [t1.1, t1.2, vaS_n (show ¬ tkK le z at1 = 2 by rw [t1.1]; decide)]; rfl)⟩ rfl
                  · --
                    refine Go.aload_n X 1 dX4_next_96 rfl ?_
                    refine Go.get X f_X4_next_29 0 (v := .ref (ad 7)) rfl rfl dX4_next_97 ?_
                    refine Go.aload_n X 1 dX4_next_100 rfl ?_
                    refine Go.get X f_X4_next_127 0 (v := .int (nI e)) rfl rfl dX4_next_101 ?_
                    refine Go.ialdN X 7 (w := le) rfl (by first | omega | (split <;> omega)) rfl dX4_next_104 ?_
                    have q4 := hb e (by omega)
                    refine Go.callSi X  (d_isLetter g (le e) (by first | omega | (split <;> omega))) cal_X4_isLetter [] rfl rfl gX4_next_X4_isLetter rfl rfl rfl dX4_next_105 ?_
                    refine Go.if_eqB X 265 dX4_next_108 (by decide) (fun h108 => ?_) (fun h108 => ?_)
                    · --
                      have t1 := tok_1 (x := e) h54b (of_decide_eq_true h77) (h4.trans (scn_p h108))
                      exact Go.vret X E dX4_next_265 ⟨rfl, (by rw [t1.1, t1.2, vaS_n (show ¬ tkK le z at1 = 2 by rw [t1.1]; decide)]; rfl)⟩ rfl
                    · --
                      refine Go.aload_n X 1 dX4_next_111 rfl ?_
                      refine Go.dup X dX4_next_112 rfl ?_
                      refine Go.get X f_X4_next_127 0 (v := .int (nI e)) rfl rfl dX4_next_113 ?_
                      refine Go.iconst X (nI 1) dX4_next_116 k_ic_1 ?_
                      refine Go.iadd_e X (nI (e + 1)) dX4_next_117 (nI_add _ _) ?_
                      refine Go.putM X f_X4_next_127 fp_4_17 0 (mdW g ad (N, K, b, z, le, rf, hd, ln, vl) (6, e + 1, skp le z at1, (nI 1), va, lm, ol, ah, lt, lo)) rfl rfl rfl rfl dX4_next_118 rfl ?_
                      refine Go.goto X 85 dX4_next_121 (by decide) ?_
                      refine Go.conv (M1 := mdW g ad (N, K, b, z, le, rf, hd, ln, vl) (6, (e + 1), skp le z at1, (nI 1), va, lm, ol, ah, lt, lo)) ?_ (by rfl) rfl rfl
                      exact ih85 (e + 1) (by first | omega | (split <;> omega)) (by rw [h4]; exact scn_s h93 h108) (by first | omega | (split <;> omega))
              refine Go.conv (M1 := mdW g ad (N, K, b, z, le, rf, hd, ln, vl) (6, (skp le z at1), skp le z at1, (nI 1), va, lm, ol, ah, lt, lo)) ?_ (by rfl) rfl rfl
              exact L85 (z - (skp le z at1) + 1) (skp le z at1) (by first | omega | (split <;> omega)) (by rfl) (Nat.lt_succ_self _)
          · --
            refine Go.aload_n X 0 dX4_next_57 rfl ?_
            refine Go.iconst X (nI 0) dX4_next_58 k_ic_0 ?_
            refine Go.putM X f_X4_next_133 fp_4_19 0 (mdW g ad (N, K, b, z, le, rf, hd, ln, vl) (6, skp le z at1, skp le z at1, (nI 0), va, lm, ol, ah, lt, lo)) rfl rfl rfl rfl dX4_next_59 rfl ?_
            exact Go.vret X E dX4_next_62 ⟨rfl, (by rw [(st_0 (show z ≤ skp le z at1 by omega)).1, (st_0 (show z ≤ skp le z at1 by omega)).2, vaS_n (show ¬ tkK le z at1 = 2 by rw [(st_0 (show z ≤ skp le z at1 by omega)).1]; decide)]; rfl)⟩ rfl
        · --
          refine Go.aload_n X 0 dX4_next_25 rfl ?_
          refine Go.dup X dX4_next_26 rfl ?_
          refine Go.get X f_X4_next_127 0 (v := .int (nI e)) rfl rfl dX4_next_27 ?_
          refine Go.iconst X (nI 1) dX4_next_30 k_ic_1 ?_
          refine Go.iadd_e X (nI (e + 1)) dX4_next_31 (nI_add _ _) ?_
          refine Go.putM X f_X4_next_127 fp_4_17 0 (mdW g ad (N, K, b, z, le, rf, hd, ln, vl) (6, e + 1, tk, so, va, lm, ol, ah, lt, lo)) rfl rfl rfl rfl dX4_next_32 rfl ?_
          refine Go.goto X 0 dX4_next_35 (by decide) ?_
          refine Go.conv (M1 := mdW g ad (N, K, b, z, le, rf, hd, ln, vl) (6, (e + 1), tk, so, va, lm, ol, ah, lt, lo)) ?_ (by rfl) rfl rfl
          exact ih0 (e + 1) (by first | omega | (split <;> omega)) (by rw [h2]; exact scn_s h8 (decide_eq_true h22)) (by first | omega | (split <;> omega))
  refine Go.conv (M1 := mdW g ad (N, K, b, z, le, rf, hd, ln, vl) (6, at1, tk, so, va, lm, ol, ah, lt, lo)) ?_ (by rfl) rfl rfl
  exact L0 (z - at1 + 1) at1 (by first | omega | (split <;> omega)) (by rfl) (Nat.lt_succ_self _)
set_option maxHeartbeats 4000000 in
set_option maxRecDepth 100000 in
theorem d_isWord (g : gT) (ad : Nat → Nat) (N : Sch) (K : Sch) (b : Bool) (z : Nat) (le : Nat → Nat) (rf : Nat → Int32) (hd : Nat → Int32) (ln : Nat → Nat) (vl : Nat → Nat → Int64) (va : Int32) (lm : Nat → Nat) (ol : Nat → Int32) (ah : Nat → Int32) (lt : Int32) (lo : Nat → Int32) (x : Nat) (y : Nat) (w : Nat) (i : Nat) (hz : z ≤ 250) (hb : ∀ i, i < 250 → le i < 256) (hp : x ≤ y ∧ y ≤ z ∧ w ≤ 4) (hi : i < 6) : Cw g yX4_isWord wsX4_isWord 4 85 [.ref (ad 0), .ref (g.2.2.2.1 i)] (mdW g ad (N, K, b, z, le, rf, hd, ln, vl) (6, y, x, kI w, va, lm, ol, ah, lt, lo)) (some (.int (b2i (wrd le x y w i)))) (mdW g ad (N, K, b, z, le, rf, hd, ln, vl) (6, y, x, kI w, va, lm, ol, ah, lt, lo)) := by
  refine Ct.start (cc := cX4_isWord) (nL := 3) (ret := (some .boolean)) (own := RX4) (by decide) rfl rfl rfl ?_
  intro Γ X E
  show Go Γ g 3 (rmC 4 85) 0 0 (mdW g ad (N, K, b, z, le, rf, hd, ln, vl) (6, y, x, kI w, va, lm, ol, ah, lt, lo)) 0 [(0, .ref (ad 0)), (1, .ref (g.2.2.2.1 i))] []
  refine Go.aload_n X 0 dX4_isWord_0 rfl ?_
  refine Go.get X f_X4_isWord_133 0 (v := .int (kI w)) rfl rfl dX4_isWord_1 ?_
  refine Go.iconst X (nI 1) dX4_isWord_4 k_ic_1 ?_
  refine Go.icmp_ne X 24 dX4_isWord_5 (by decide) (fun h5 => ?_) (fun h5 => ?_)
  · --
    refine Go.iconst X (nI 0) dX4_isWord_24 k_ic_0 ?_
    exact Go.nret X E rfl dX4_isWord_25 ⟨rv (b2i_f (by rw [wrd, decide_eq_false (show ¬ w = 1 from fun q => h5 ((kI_eq w (by omega) 1 (by decide)).mpr q))]; rfl)), rfl⟩ rfl
  · --
    refine Go.aload_n X 0 dX4_isWord_8 rfl ?_
    refine Go.get X f_X4_isWord_127 0 (v := .int (nI y)) rfl rfl dX4_isWord_9 ?_
    refine Go.aload_n X 0 dX4_isWord_12 rfl ?_
    refine Go.get X f_X4_isWord_130 0 (v := .int (nI x)) rfl rfl dX4_isWord_13 ?_
    refine Go.isub_e X (nI (y - x)) dX4_isWord_16 (pk_sub (by first | omega | (split <;> omega))) ?_
    have q0 := sl_lt i hi
    refine Go.aload_n X 1 dX4_isWord_17 rfl ?_
    refine Go.callVsi X (by first | omega | (split <;> omega)) (c_strlen g i (by first | omega | (split <;> omega))) cal_J0_length_8abf5 [] rfl rfl gX4_isWord_J0_length_8abf5 rfl rfl rfl dX4_isWord_18 ?_
    have f18_1 := strLen_100 (show i < 6 by omega)
    refine Go.icmp_eqN X 26 dX4_isWord_21 (by decide) (by first | omega | (split <;> omega)) (by first | omega | (split <;> omega)) (fun h21 => ?_) (fun h21 => ?_)
    · --
      refine Go.iconst X (nI 0) dX4_isWord_26 k_ic_0 ?_
      refine Go.istore_n_new X dX4_isWord_27 (by decide) rfl ?_
      have L28 : ∀ (f28 : Nat) (k : Nat) (hj : k ≤ strLen.getD i 0) (hq : ∀ j, j < k → decide (le (x + j) = wb i j) = true) (hf28 : strLen.getD i 0 - k < f28), Go Γ g 3 (rmC 4 85) 0 0 (mdW g ad (N, K, b, z, le, rf, hd, ln, vl) (6, y, x, kI w, va, lm, ol, ah, lt, lo)) 28 [(2, .int (nI k)), (0, .ref (ad 0)), (1, .ref (g.2.2.2.1 i))] [] := by
        intro f28
        induction f28 with
        | zero => intro k hj hq hf28; exact absurd hf28 (Nat.not_lt_zero _)
        | succ f28 ih28 =>
          intro k hj hq hf28
          refine Go.iload_n X 0 dX4_isWord_28 rfl ?_
          refine Go.aload_n X 2 dX4_isWord_29 rfl ?_
          refine Go.callVsi X (by first | omega | (split <;> omega)) (c_strlen g i (by first | omega | (split <;> omega))) cal_J0_length_8abf5 [] rfl rfl gX4_isWord_J0_length_8abf5 rfl rfl rfl dX4_isWord_30 ?_
          have f30_2 := strLen_100 (show i < 6 by omega)
          refine Go.icmp_geN X 63 dX4_isWord_33 (by decide) (by first | omega | (split <;> omega)) (by first | omega | (split <;> omega)) (fun h33 => ?_) (fun h33 => ?_)
          · --
            refine Go.iconst X (nI 1) dX4_isWord_63 k_ic_1 ?_
            exact Go.nret X E rfl dX4_isWord_64 ⟨rv (b2i_t (by rw [wrd, decide_eq_true ((kI_eq w (by omega) 1 (by decide)).mp h5), decide_eq_true h21, allB_t (fun j hj2 => hq j (by omega))]; rfl)), rfl⟩ rfl
          · --
            refine Go.aload_n X 1 dX4_isWord_36 rfl ?_
            refine Go.get X f_X4_isWord_29 0 (v := .ref (ad 7)) rfl rfl dX4_isWord_37 ?_
            refine Go.aload_n X 1 dX4_isWord_40 rfl ?_
            refine Go.get X f_X4_isWord_130 0 (v := .int (nI x)) rfl rfl dX4_isWord_41 ?_
            refine Go.iload_n X 0 dX4_isWord_44 rfl ?_
            refine Go.iadd_e X (nI (x + k)) dX4_isWord_45 (nI_add _ _) ?_
            have q1 := hb (x + k) (by omega)
            refine Go.ialdN X 7 (w := le) rfl (by first | omega | (split <;> omega)) rfl dX4_isWord_46 ?_
            refine Go.aload_n X 2 dX4_isWord_47 rfl ?_
            refine Go.iload_n X 0 dX4_isWord_48 rfl ?_
            refine Go.callVsi X (by first | omega | (split <;> omega)) (c_charAt g i k (by first | omega | (split <;> omega)) (by first | omega | (split <;> omega))) cal_J0_charAt_5068e [] rfl rfl gX4_isWord_J0_charAt_5068e rfl rfl rfl dX4_isWord_49 ?_
            have f49_3 := wb_lt i (by omega) k (by omega)
            refine Go.icmp_eqN X 57 dX4_isWord_52 (by decide) (by first | omega | (split <;> omega)) (by first | omega | (split <;> omega)) (fun h52 => ?_) (fun h52 => ?_)
            · --
              refine Go.iinc_0 X (nI (k + 1)) dX4_isWord_57 (by decide) rfl (show nI k + Int32.ofInt 1 = nI (k + 1) from nI_add _ 1) ?_
              refine Go.goto X 28 dX4_isWord_60 (by decide) ?_
              exact ih28 (k + 1) (by first | omega | (split <;> omega)) (by exact all_s (P := fun j => decide (le (x + j) = wb i j)) hq (decide_eq_true h52)) (by first | omega | (split <;> omega))
            · --
              refine Go.iconst X (nI 0) dX4_isWord_55 k_ic_0 ?_
              exact Go.nret X E rfl dX4_isWord_56 ⟨rv (b2i_f (by rw [wrd, allB_f (P := fun j => decide (le (x + j) = wb i j)) h33 (decide_eq_false h52), Bool.and_false])), rfl⟩ rfl
      exact L28 (strLen.getD i 0 - 0 + 1) 0 (by first | omega | (split <;> omega)) (by intro j hj2; omega) (Nat.lt_succ_self _)
    · --
      refine Go.iconst X (nI 0) dX4_isWord_24 k_ic_0 ?_
      exact Go.nret X E rfl dX4_isWord_25 ⟨rv (b2i_f (by rw [wrd, decide_eq_false h21, Bool.and_false]; rfl)), rfl⟩ rfl
set_option maxHeartbeats 4000000 in
set_option maxRecDepth 100000 in
theorem d_number (g : gT) (ad : Nat → Nat) (N : Sch) (K : Sch) (b : Bool) (z : Nat) (le : Nat → Nat) (rf : Nat → Int32) (hd : Nat → Int32) (ln : Nat → Nat) (vl : Nat → Nat → Int64) (at1 : Nat) (tk : Nat) (so : Int32) (va : Int32) (lm : Nat → Nat) (ol : Nat → Int32) (ah : Nat → Int32) (lt : Int32) (lo : Nat → Int32) (mn : Nat) (mx : Nat) (hz : z ≤ 250) (hb : ∀ i, i < 250 → le i < 256) (he : at1 ≤ z) (hlo : mn ≤ 9) (hhi : mx ≤ 9) : Cw g yX4_number wsX4_number 2 41 [.ref (ad 0), .int (nI mn), .int (nI mx)] (mdW g ad (N, K, b, z, le, rf, hd, ln, vl) (6, at1, tk, so, va, lm, ol, ah, lt, lo)) (some (.int (b2i (nok le z at1 mn mx)))) (mdW g ad (N, K, b, z, le, rf, hd, ln, vl) (6, tkE le z at1, skp le z at1, kI (tkK le z at1), vaS le z at1 va, lm, ol, ah, lt, lo)) := by
  refine Ct.start (cc := cX4_number) (nL := 3) (ret := (some .boolean)) (own := RX4) (by decide) rfl rfl rfl ?_
  intro Γ X E
  show Go Γ g 3 (rmC 2 41) 0 0 (mdW g ad (N, K, b, z, le, rf, hd, ln, vl) (6, at1, tk, so, va, lm, ol, ah, lt, lo)) 0 [(0, .ref (ad 0)), (1, .int (nI mn)), (2, .int (nI mx))] []
  refine Go.aload_n X 0 dX4_number_0 rfl ?_
  refine Go.callV0v X (d_next g ad N K b z le rf hd ln vl at1 tk so va lm ol ah lt lo (by first | omega | (split <;> omega)) (by first | omega | (split <;> omega)) (by first | omega | (split <;> omega))) cal_X4_next gX4_number_X4_next (ci := 4) (q0 := 0) rfl rfl rfl rfl rfl dX4_number_1 ?_
  have f1_1 := st_le (le := le) (z := z) (e := at1) (by omega)
  have f1_2 := tkK_le le z at1
  refine Go.aload_n X 0 dX4_number_4 rfl ?_
  refine Go.get X f_X4_number_133 0 (v := .int (kI (tkK le z at1))) rfl rfl dX4_number_5 ?_
  refine Go.iconst X (nI 2) dX4_number_8 k_ic_2 ?_
  refine Go.icmp_ne X 28 dX4_number_9 (by decide) (fun h9 => ?_) (fun h9 => ?_)
  · --
    refine Go.iconst X (nI 0) dX4_number_28 k_ic_0 ?_
    exact Go.nret X E rfl dX4_number_29 ⟨rv (b2i_f (by exact nok_1 h9)), rfl⟩ rfl
  · --
    refine Go.aload_n X 0 dX4_number_12 rfl ?_
    refine Go.get X f_X4_number_142 0 (v := .int (vaS le z at1 va)) rfl rfl dX4_number_13 ?_
    refine Go.iload_n X 1 dX4_number_16 rfl ?_
    refine Go.iload_n X 2 dX4_number_17 rfl ?_
    refine Go.callSi X  (d_within g (vaS le z at1 va) (nI mn) (nI mx)) cal_X4_within [] rfl rfl gX4_number_X4_within rfl rfl rfl dX4_number_18 ?_
    refine Go.if_eqB X 28 dX4_number_21 (by decide) (fun h21 => ?_) (fun h21 => ?_)
    · --
      refine Go.iconst X (nI 0) dX4_number_28 k_ic_0 ?_
      exact Go.nret X E rfl dX4_number_29 ⟨rv (b2i_f (by exact nok_2 h21)), rfl⟩ rfl
    · --
      refine Go.iconst X (nI 1) dX4_number_24 k_ic_1 ?_
      refine Go.goto X 29 dX4_number_25 (by decide) ?_
      exact Go.nret X E rfl dX4_number_29 ⟨rv (b2i_t (by exact nok_3 hlo hhi h9 h21)), rfl⟩ rfl
