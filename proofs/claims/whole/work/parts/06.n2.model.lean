/-! 06.n2.model -/
theorem cal_X4_isWord : Cal yX4_isWord wsX4_isWord cX4_isWord 3 (some .boolean) RX4 1 := ⟨⟨_, rfl⟩, by decide +kernel⟩
theorem f_X4_statement_59 : FL wsX4_statement RX4 59 4 7 := ⟨RX4, TX4, 27, rfl, fun _ h => List.mem_cons_of_mem _ (List.mem_append_right _ h), by decide, List.mem_of_getElem? (i := 6) (by decide +kernel)⟩
theorem f_X4_statement_66 : FL wsX4_statement RX4 66 4 3 := ⟨RX4, TX4, 27, rfl, fun _ h => List.mem_cons_of_mem _ (List.mem_append_right _ h), by decide, List.mem_of_getElem? (i := 2) (by decide +kernel)⟩
theorem cal_X4_number : Cal yX4_number wsX4_number cX4_number 3 (some .boolean) RX4 2 := ⟨⟨_, rfl⟩, by decide +kernel⟩
theorem f_X4_statement_133 : FL wsX4_statement RX4 133 4 19 := ⟨RX4, TX4, 27, rfl, fun _ h => List.mem_cons_of_mem _ (List.mem_append_right _ h), by decide, List.mem_of_getElem? (i := 7) (by decide +kernel)⟩
theorem f_X4_statement_111 : FL wsX4_statement RX4 111 4 4 := ⟨RX4, TX4, 27, rfl, fun _ h => List.mem_cons_of_mem _ (List.mem_append_right _ h), by decide, List.mem_of_getElem? (i := 3) (by decide +kernel)⟩
theorem f_X4_statement_142 : FL wsX4_statement RX4 142 4 20 := ⟨RX4, TX4, 27, rfl, fun _ h => List.mem_cons_of_mem _ (List.mem_append_right _ h), by decide, List.mem_of_getElem? (i := 1) (by decide +kernel)⟩
theorem f_X4_statement_48 : FL wsX4_statement RX4 48 4 6 := ⟨RX4, TX4, 27, rfl, fun _ h => List.mem_cons_of_mem _ (List.mem_append_right _ h), by decide, List.mem_of_getElem? (i := 5) (by decide +kernel)⟩
theorem f_X4_statement_20 : FL wsX4_statement RX4 20 4 5 := ⟨RX4, TX4, 27, rfl, fun _ h => List.mem_cons_of_mem _ (List.mem_append_right _ h), by decide, List.mem_of_getElem? (i := 4) (by decide +kernel)⟩
theorem f_X4_school_38 : FL wsX4_school RX4 38 4 24 := ⟨RX4, TX4, 27, rfl, fun _ h => List.mem_cons_of_mem _ (List.mem_append_right _ h), by decide, List.mem_of_getElem? (i := 1) (by decide +kernel)⟩
theorem f_X4_school_127 : FL wsX4_school RX4 127 4 17 := ⟨RX4, TX4, 27, rfl, fun _ h => List.mem_cons_of_mem _ (List.mem_append_right _ h), by decide, List.mem_of_getElem? (i := 2) (by decide +kernel)⟩
theorem f_X4_school_124 : FL wsX4_school RX4 124 4 15 := ⟨RX4, TX4, 27, rfl, fun _ h => List.mem_cons_of_mem _ (List.mem_append_right _ h), by decide, List.mem_of_getElem? (i := 4) (by decide +kernel)⟩
theorem f_X4_school_130 : FL wsX4_school RX4 130 4 18 := ⟨RX4, TX4, 27, rfl, fun _ h => List.mem_cons_of_mem _ (List.mem_append_right _ h), by decide, List.mem_of_getElem? (i := 5) (by decide +kernel)⟩
theorem cal_X4_statement : Cal yX4_statement wsX4_statement cX4_statement 2 (some .boolean) RX4 0 := ⟨⟨_, rfl⟩, by decide +kernel⟩
theorem f_X4_school_133 : FL wsX4_school RX4 133 4 19 := ⟨RX4, TX4, 27, rfl, fun _ h => List.mem_cons_of_mem _ (List.mem_append_right _ h), by decide, List.mem_of_getElem? (i := 3) (by decide +kernel)⟩
set_option maxHeartbeats 4000000 in
set_option maxRecDepth 100000 in
theorem d_statement (g : gT) (ad : Nat → Nat) (N : Sch) (K : Sch) (b : Bool) (z : Nat) (le : Nat → Nat) (rf : Nat → Int32) (hd : Nat → Int32) (ln : Nat → Nat) (vl : Nat → Nat → Int64) (va : Int32) (lm : Nat → Nat) (ol : Nat → Int32) (ah : Nat → Int32) (lt : Int32) (lo : Nat → Int32) (x : Nat) (y : Nat) (w : Nat) (hN : sOk N) (hz : z ≤ 250) (hb : ∀ i, i < 250 → le i < 256) (hp : x ≤ y ∧ y ≤ z ∧ w ≤ 4) : Ct g yX4_statement wsX4_statement 5 107 [.ref (ad 0)] (mdW g ad (N, K, b, z, le, rf, hd, ln, vl) (6, y, x, kI w, va, lm, ol, ah, lt, lo)) (fun v9 w9 => v9 = (some (.int (b2i ((rdX le z N (x, y, w)).1)))) ∧ ∃ (va1 : Int32), w9 = mdW g ad ((rdX le z N (x, y, w)).2.1, K, b, z, le, rf, hd, ln, vl) (6, (rdX le z N (x, y, w)).2.2.2.1, (rdX le z N (x, y, w)).2.2.1, kI (rdX le z N (x, y, w)).2.2.2.2, va1, lm, ol, ah, lt, lo)) := by
  refine Ct.start (cc := cX4_statement) (nL := 2) (ret := (some .boolean)) (own := RX4) (by decide) rfl rfl rfl ?_
  intro Γ X E
  show Go Γ g 2 (rmC 5 107) 0 0 (mdW g ad (N, K, b, z, le, rf, hd, ln, vl) (6, y, x, kI w, va, lm, ol, ah, lt, lo)) 0 [(0, .ref (ad 0))] []
  obtain ⟨o1, o2, o3, o4, o5, o6, o7, o8⟩ := id hN
  have o9 := p2_9 o2
  have o10 := sA_512 hN
  refine Go.aload_n X 0 dX4_statement_0 rfl ?_
  refine Go.ldcS X "term" (i := 0) (by decide) dX4_statement_1 ?_
  refine Go.callV0i X (d_isWord g ad N K b z le rf hd ln vl va lm ol ah lt lo x y w 0 (by exact hz) (by exact hb) (by first | omega | (split <;> omega)) (by first | omega | (split <;> omega))) cal_X4_isWord gX4_statement_X4_isWord (ci := 4) (q0 := 0) rfl rfl rfl rfl rfl dX4_statement_3 ?_
  refine Go.if_eqB X 32 dX4_statement_6 (by decide) (fun h6 => ?_) (fun h6 => ?_)
  · --
    refine Go.aload_n X 0 dX4_statement_32 rfl ?_
    refine Go.ldcS X "never" (i := 1) (by decide) dX4_statement_33 ?_
    refine Go.callV0i X (d_isWord g ad N K b z le rf hd ln vl va lm ol ah lt lo x y w 1 (by exact hz) (by exact hb) (by first | omega | (split <;> omega)) (by first | omega | (split <;> omega))) cal_X4_isWord gX4_statement_X4_isWord (ci := 4) (q0 := 0) rfl rfl rfl rfl rfl dX4_statement_35 ?_
    refine Go.if_eqB X 77 dX4_statement_38 (by decide) (fun h38 => ?_) (fun h38 => ?_)
    · --
      refine Go.aload_n X 0 dX4_statement_77 rfl ?_
      refine Go.ldcS X "weight" (i := 2) (by decide) dX4_statement_78 ?_
      refine Go.callV0i X (d_isWord g ad N K b z le rf hd ln vl va lm ol ah lt lo x y w 2 (by exact hz) (by exact hb) (by first | omega | (split <;> omega)) (by first | omega | (split <;> omega))) cal_X4_isWord gX4_statement_X4_isWord (ci := 4) (q0 := 0) rfl rfl rfl rfl rfl dX4_statement_80 ?_
      refine Go.if_eqB X 132 dX4_statement_83 (by decide) (fun h83 => ?_) (fun h83 => ?_)
      · --
        refine Go.aload_n X 0 dX4_statement_132 rfl ?_
        refine Go.ldcS X "said" (i := 3) (by decide) dX4_statement_133 ?_
        refine Go.callV0i X (d_isWord g ad N K b z le rf hd ln vl va lm ol ah lt lo x y w 3 (by exact hz) (by exact hb) (by first | omega | (split <;> omega)) (by first | omega | (split <;> omega))) cal_X4_isWord gX4_statement_X4_isWord (ci := 4) (q0 := 0) rfl rfl rfl rfl rfl dX4_statement_135 ?_
        refine Go.if_eqB X 164 dX4_statement_138 (by decide) (fun h138 => ?_) (fun h138 => ?_)
        · --
          refine Go.aload_n X 0 dX4_statement_164 rfl ?_
          refine Go.get X f_X4_statement_59 0 (v := .int (nI (sP N))) rfl rfl dX4_statement_165 ?_
          refine Go.bipush X (nI 6) dX4_statement_168 k_bp_6 ?_
          refine Go.icmp_geN X 223 dX4_statement_170 (by decide) (by first | omega | (split <;> omega)) (by decide) (fun h170 => ?_) (fun h170 => ?_)
          · --
            refine Go.aload_n X 0 dX4_statement_223 rfl ?_
            refine Go.ldcS X "hint" (i := 5) (by decide) dX4_statement_224 ?_
            refine Go.callV0i X (d_isWord g ad N K b z le rf hd ln vl va lm ol ah lt lo x y w 5 (by exact hz) (by exact hb) (by first | omega | (split <;> omega)) (by first | omega | (split <;> omega))) cal_X4_isWord gX4_statement_X4_isWord (ci := 4) (q0 := 0) rfl rfl rfl rfl rfl dX4_statement_226 ?_
            refine Go.if_eqB X 316 dX4_statement_229 (by decide) (fun h229 => ?_) (fun h229 => ?_)
            · --
              refine Go.iconst X (nI 0) dX4_statement_316 k_ic_0 ?_
              have e9 : rdX le z N (x, y, w) = (false, N, x, y, w) := by unfold rdX; rw [if_neg (show ¬ wrd le x y w 0 = true by rw [h6]; decide), if_neg (show ¬ wrd le x y w 1 = true by rw [h38]; decide), if_neg (show ¬ wrd le x y w 2 = true by rw [h83]; decide), if_neg (show ¬ wrd le x y w 3 = true by rw [h138]; decide)]; (by_cases q4 : wrd le x y w 4 = true); (· rw [if_pos q4]; exact rdP_0 h170); (· rw [if_neg q4, if_neg (show ¬ wrd le x y w 5 = true by rw [h229]; decide)])
              exact Go.nret X E rfl dX4_statement_317 ⟨by rw [e9]; rfl, va, by rw [e9]⟩ rfl
            · --
              refine Go.aload_n X 0 dX4_statement_232 rfl ?_
              refine Go.iconst X (nI 0) dX4_statement_233 k_ic_0 ?_
              refine Go.aload_n X 0 dX4_statement_234 rfl ?_
              refine Go.get X f_X4_statement_66 0 (v := .int (nI (sN N))) rfl rfl dX4_statement_235 ?_
              refine Go.iconst X (nI 1) dX4_statement_238 k_ic_1 ?_
              refine Go.isub_e X (nI (sN N - 1)) dX4_statement_239 (pk_sub (by first | omega | (split <;> omega))) ?_
              refine Go.callV0i X (d_number g ad N K b z le rf hd ln vl y x (kI w) va lm ol ah lt lo 0 (sN N - 1) (by exact hz) (by exact hb) (by first | omega | (split <;> omega)) (by first | omega | (split <;> omega)) (by first | omega | (split <;> omega))) cal_X4_number gX4_statement_X4_number (ci := 4) (q0 := 0) rfl rfl rfl rfl rfl dX4_statement_240 ?_
              have f240_1 := st_le (le := le) (z := z) (e := y) (by omega)
              have f240_2 := tkK_le le z y
              refine Go.if_neB X 248 dX4_statement_243 (by decide) (fun h243 => ?_) (fun h243 => ?_)
              · --
                refine Go.iconst X (nI 0) dX4_statement_248 k_ic_0 ?_
                refine Go.istore_n_new X dX4_statement_249 (by decide) rfl ?_
                have L250 : ∀ (f250 : Nat) (i : Nat) (s : Nat) (x2 : Nat) (y2 : Nat) (w2 : Nat) (u : Int32) (hp2 : x2 ≤ y2 ∧ y2 ≤ z ∧ w2 ≤ 4) (hs : s < 2 ^ sN N) (hi : bcn s = i) (hin : i ≤ sN N) (hv : vaP le (x2, y2, w2) u) (h0 : i = 0 → w2 = 2) (hh : hnF le z (sN N) (sN N + 2 - i) i s (x2, y2, w2) = hnR le z N y) (hf250 : sN N - i < f250), Go Γ g 2 (rmC 5 107) 0 0 (mdW g ad (N, K, b, z, le, rf, hd, ln, vl) (6, y2, x2, kI w2, u, lm, ol, ah, lt, lo)) 250 [(1, .int (nI s)), (0, .ref (ad 0))] [] := by
                  intro f250
                  induction f250 with
                  | zero => intro i s x2 y2 w2 u hp2 hs hi hin hv h0 hh hf250; exact absurd hf250 (Nat.not_lt_zero _)
                  | succ f250 ih250 =>
                    intro i s x2 y2 w2 u hp2 hs hi hin hv h0 hh hf250
                    refine Go.aload_n X 1 dX4_statement_250 rfl ?_
                    refine Go.get X f_X4_statement_133 0 (v := .int (kI w2)) rfl rfl dX4_statement_251 ?_
                    refine Go.iconst X (nI 2) dX4_statement_254 k_ic_2 ?_
                    refine Go.icmp_ne X 304 dX4_statement_255 (by decide) (fun h255 => ?_) (fun h255 => ?_)
                    · --
                      have o11 : sA N &&& s ≤ sA N := Nat.and_le_left
                      refine Go.aload_n X 1 dX4_statement_304 rfl ?_
                      refine Go.dup X dX4_statement_305 rfl ?_
                      refine Go.get X f_X4_statement_111 0 (v := .int (nI (sA N))) rfl rfl dX4_statement_306 ?_
                      refine Go.iload_n X 0 dX4_statement_309 rfl ?_
                      refine Go.iand_e X (nI ((sA N) &&& s)) dX4_statement_310 (nI_and _ _) ?_
                      refine Go.putM X f_X4_statement_111 fp_4_4 0 (mdW g ad ((sN N, (sA N) &&& s, sW N, sD N, sP N, sK N, sO N, sG N, sT N, sF N, sX N), K, b, z, le, rf, hd, ln, vl) (6, y2, x2, kI w2, u, lm, ol, ah, lt, lo)) rfl rfl rfl rfl dX4_statement_311 rfl ?_
                      refine Go.iconst X (nI 1) dX4_statement_314 k_ic_1 ?_
                      have e9 : rdX le z N (x, y, w) = (true, (sN N, (sA N) &&& s, sW N, sD N, sP N, sK N, sO N, sG N, sT N, sF N, sX N), x2, y2, w2) := by have k3 : ¬ w2 = 2 := (fun q => h255 (by rw [q]; rfl)); have k4 : ¬ i = 0 := (fun q => k3 (h0 q)); exact (show rdX le z N (x, y, w) = rdH le z N y from by unfold rdX; rw [if_neg (show ¬ wrd le x y w 0 = true by rw [h6]; decide), if_neg (show ¬ wrd le x y w 1 = true by rw [h38]; decide), if_neg (show ¬ wrd le x y w 2 = true by rw [h83]; decide), if_neg (show ¬ wrd le x y w 3 = true by rw [h138]; decide), if_neg (show ¬ wrd le x y w 4 = true by rw [wrd_45 h229]; decide), if_pos (show wrd le x y w 5 = true from h229)]).trans (rdH_t (hh.symm.trans (hnF_0 (p := (x2, y2, w2)) (.inr ⟨k4, k3⟩))))
                      exact Go.nret X E rfl dX4_statement_315 ⟨by rw [e9]; rfl, u, by rw [e9]⟩ rfl
                    · --
                      refine Go.aload_n X 1 dX4_statement_258 rfl ?_
                      refine Go.get X f_X4_statement_142 0 (v := .int u) rfl rfl dX4_statement_259 ?_
                      have k2 : w2 = 2 := (kI_eq w2 (by omega) 2 (by decide)).mp h255
                      refine Go.iconst X (nI 0) dX4_statement_262 k_ic_0 ?_
                      refine Go.aload_n X 1 dX4_statement_263 rfl ?_
                      refine Go.get X f_X4_statement_66 0 (v := .int (nI (sN N))) rfl rfl dX4_statement_264 ?_
                      refine Go.iconst X (nI 1) dX4_statement_267 k_ic_1 ?_
                      refine Go.isub_e X (nI (sN N - 1)) dX4_statement_268 (pk_sub (by first | omega | (split <;> omega))) ?_
                      refine Go.callSi X  (d_within g u (nI 0) (nI (sN N - 1))) cal_X4_within [] rfl rfl gX4_statement_X4_within rfl rfl rfl dX4_statement_269 ?_
                      refine Go.if_eqB X 286 dX4_statement_272 (by decide) (fun h272 => ?_) (fun h272 => ?_)
                      · --
                        refine Go.iconst X (nI 0) dX4_statement_286 k_ic_0 ?_
                        have e9 : rdX le z N (x, y, w) = (false, N, x2, y2, w2) := by exact (show rdX le z N (x, y, w) = rdH le z N y from by unfold rdX; rw [if_neg (show ¬ wrd le x y w 0 = true by rw [h6]; decide), if_neg (show ¬ wrd le x y w 1 = true by rw [h38]; decide), if_neg (show ¬ wrd le x y w 2 = true by rw [h83]; decide), if_neg (show ¬ wrd le x y w 3 = true by rw [h138]; decide), if_neg (show ¬ wrd le x y w 4 = true by rw [wrd_45 h229]; decide), if_pos (show wrd le x y w 5 = true from h229)]).trans (rdH_f (hh.symm.trans (hnF_n (p := (x2, y2, w2)) (by omega) (show ¬ (sN N < i ∨ (¬ i = 0 ∧ ¬ w2 = 2)) by omega) (num_f (p := (x2, y2, w2)) hv (.inr h272)))))
                        exact Go.nret X E rfl dX4_statement_287 ⟨by rw [e9]; rfl, u, by rw [e9]⟩ rfl
                      · --
                        obtain ⟨j, hj, ej⟩ := wi_at (by decide) (by omega) h272
                        have nj : numP le (x2, y2, w2) (nI 0) (nI (sN N - 1)) = nI j := (num_t (p := (x2, y2, w2)) k2 hv (by omega) h272).trans ej
                        refine Go.iload_n X 0 dX4_statement_275 rfl ?_
                        refine Go.aload_n X 1 dX4_statement_276 rfl ?_
                        refine Go.get X f_X4_statement_142 0 (v := .int u) rfl rfl dX4_statement_277 ?_
                        refine Go.top (w := .int (nI j)) (by rw [ej]) ?_
                        refine Go.callSi X  (d_has g s j (by first | omega | (split <;> omega)) (by first | omega | (split <;> omega))) cal_X4_has [] rfl rfl gX4_statement_X4_has rfl rfl rfl dX4_statement_280 ?_
                        refine Go.if_eqB X 288 dX4_statement_283 (by decide) (fun h283 => ?_) (fun h283 => ?_)
                        · --
                          have b2 : s ||| 2 ^ j < 2 ^ sN N := Nat.or_lt_two_pow hs (Nat.pow_lt_pow_right (by decide) (by omega))
                          have b1 := (bcn_s s (by omega) j (by omega)).resolve_left (by rw [h283]; decide)
                          have b3 := (bcn_n (s ||| 2 ^ j) (by omega) (sN N) (by omega)).resolve_left (fun q => q b2)
                          refine Go.iload_n X 0 dX4_statement_288 rfl ?_
                          refine Go.iconst X (nI 1) dX4_statement_289 k_ic_1 ?_
                          refine Go.aload_n X 1 dX4_statement_290 rfl ?_
                          refine Go.get X f_X4_statement_142 0 (v := .int u) rfl rfl dX4_statement_291 ?_
                          refine Go.top (w := .int (nI j)) (by rw [ej]) ?_
                          refine Go.ishl_e X (nI (2 ^ j)) dX4_statement_294 (nI_shl1 (by first | omega | (split <;> omega))) ?_
                          refine Go.ior_e X (nI (s ||| (2 ^ j))) dX4_statement_295 (nI_or _ _) ?_
                          refine Go.istore_n_0 X dX4_statement_296 (by decide) rfl ?_
                          refine Go.aload_n X 1 dX4_statement_297 rfl ?_
                          refine Go.callV0v X (d_next g ad N K b z le rf hd ln vl y2 x2 (kI w2) u lm ol ah lt lo (by exact hz) (by exact hb) (by first | omega | (split <;> omega))) cal_X4_next gX4_statement_X4_next (ci := 4) (q0 := 0) rfl rfl rfl rfl rfl dX4_statement_298 ?_
                          have f298_3 := st_le (le := le) (z := z) (e := y2) (by omega)
                          have f298_4 := tkK_le le z y2
                          refine Go.goto X 250 dX4_statement_301 (by decide) ?_
                          refine Go.lv_0 (congrArg (fun z => Value.int (nI z)) (show s ||| (2 ^ j) = (s ||| 2 ^ j) from by rfl)) ?_
                          refine Go.conv (M1 := mdW g ad (N, K, b, z, le, rf, hd, ln, vl) (6, (tkE le z y2), (skp le z y2), kI (tkK le z y2), (vaS le z y2 u), lm, ol, ah, lt, lo)) ?_ (by rfl) rfl rfl
                          exact ih250 (i + 1) (s ||| 2 ^ j) (skp le z y2) (tkE le z y2) (tkK le z y2) (vaS le z y2 u) (by exact stp_ok (le := le) (show y2 ≤ z by omega)) (by exact b2) (by rw [b1, hi]) (by omega) (by exact vaS_P le z y2 u) (by intro q; omega) (by rw [← hh, hnF_s (p := (x2, y2, w2)) (by omega) (show ¬ (sN N < i ∨ (¬ i = 0 ∧ ¬ w2 = 2)) by omega) nj (by omega) h283]; rfl) (by first | omega | (split <;> omega))
                        · --
                          refine Go.iconst X (nI 0) dX4_statement_286 k_ic_0 ?_
                          have e9 : rdX le z N (x, y, w) = (false, N, x2, y2, w2) := by exact (show rdX le z N (x, y, w) = rdH le z N y from by unfold rdX; rw [if_neg (show ¬ wrd le x y w 0 = true by rw [h6]; decide), if_neg (show ¬ wrd le x y w 1 = true by rw [h38]; decide), if_neg (show ¬ wrd le x y w 2 = true by rw [h83]; decide), if_neg (show ¬ wrd le x y w 3 = true by rw [h138]; decide), if_neg (show ¬ wrd le x y w 4 = true by rw [wrd_45 h229]; decide), if_pos (show wrd le x y w 5 = true from h229)]).trans (rdH_f (hh.symm.trans (hnF_b (p := (x2, y2, w2)) (by omega) (show ¬ (sN N < i ∨ (¬ i = 0 ∧ ¬ w2 = 2)) by omega) nj (by omega) h283)))
                          exact Go.nret X E rfl dX4_statement_287 ⟨by rw [e9]; rfl, u, by rw [e9]⟩ rfl
                refine Go.conv (M1 := mdW g ad (N, K, b, z, le, rf, hd, ln, vl) (6, (tkE le z y), (skp le z y), kI (tkK le z y), (vaS le z y va), lm, ol, ah, lt, lo)) ?_ (by rfl) rfl rfl
                exact L250 (sN N - 0 + 1) 0 0 (skp le z y) (tkE le z y) (tkK le z y) (vaS le z y va) (by exact stp_ok (le := le) (show y ≤ z by omega)) (by exact Nat.two_pow_pos _) (by decide) (by omega) (by exact vaS_P le z y va) (by intro _; exact num_k (p := stp le z y) (of_decide_eq_true h243)) (by rfl) (Nat.lt_succ_self _)
              · --
                refine Go.iconst X (nI 0) dX4_statement_246 k_ic_0 ?_
                have e9 : rdX le z N (x, y, w) = (false, N, skp le z y, tkE le z y, tkK le z y) := by have n1 : numP le (stp le z y) (nI 0) (nI (sN N - 1)) = -1 := nok_no h243; exact (show rdX le z N (x, y, w) = rdH le z N y from by unfold rdX; rw [if_neg (show ¬ wrd le x y w 0 = true by rw [h6]; decide), if_neg (show ¬ wrd le x y w 1 = true by rw [h38]; decide), if_neg (show ¬ wrd le x y w 2 = true by rw [h83]; decide), if_neg (show ¬ wrd le x y w 3 = true by rw [h138]; decide), if_neg (show ¬ wrd le x y w 4 = true by rw [wrd_45 h229]; decide), if_pos (show wrd le x y w 5 = true from h229)]).trans (rdH_f (hnR_0 n1))
                exact Go.nret X E rfl dX4_statement_247 ⟨by rw [e9]; rfl, (vaS le z y va), by rw [e9]⟩ rfl
          · --
            refine Go.aload_n X 0 dX4_statement_173 rfl ?_
            refine Go.ldcS X "person" (i := 4) (by decide) dX4_statement_174 ?_
            refine Go.callV0i X (d_isWord g ad N K b z le rf hd ln vl va lm ol ah lt lo x y w 4 (by exact hz) (by exact hb) (by first | omega | (split <;> omega)) (by first | omega | (split <;> omega))) cal_X4_isWord gX4_statement_X4_isWord (ci := 4) (q0 := 0) rfl rfl rfl rfl rfl dX4_statement_176 ?_
            refine Go.if_eqB X 223 dX4_statement_179 (by decide) (fun h179 => ?_) (fun h179 => ?_)
            · --
              refine Go.aload_n X 0 dX4_statement_223 rfl ?_
              refine Go.ldcS X "hint" (i := 5) (by decide) dX4_statement_224 ?_
              refine Go.callV0i X (d_isWord g ad N K b z le rf hd ln vl va lm ol ah lt lo x y w 5 (by exact hz) (by exact hb) (by first | omega | (split <;> omega)) (by first | omega | (split <;> omega))) cal_X4_isWord gX4_statement_X4_isWord (ci := 4) (q0 := 0) rfl rfl rfl rfl rfl dX4_statement_226 ?_
              refine Go.if_eqB X 316 dX4_statement_229 (by decide) (fun h229 => ?_) (fun h229 => ?_)
              · --
                refine Go.iconst X (nI 0) dX4_statement_316 k_ic_0 ?_
                have e9 : rdX le z N (x, y, w) = (false, N, x, y, w) := by unfold rdX; rw [if_neg (show ¬ wrd le x y w 0 = true by rw [h6]; decide), if_neg (show ¬ wrd le x y w 1 = true by rw [h38]; decide), if_neg (show ¬ wrd le x y w 2 = true by rw [h83]; decide), if_neg (show ¬ wrd le x y w 3 = true by rw [h138]; decide), if_neg (show ¬ wrd le x y w 4 = true by rw [h179]; decide), if_neg (show ¬ wrd le x y w 5 = true by rw [h229]; decide)]
                exact Go.nret X E rfl dX4_statement_317 ⟨by rw [e9]; rfl, va, by rw [e9]⟩ rfl
              · --
                refine Go.aload_n X 0 dX4_statement_232 rfl ?_
                refine Go.iconst X (nI 0) dX4_statement_233 k_ic_0 ?_
                refine Go.aload_n X 0 dX4_statement_234 rfl ?_
                refine Go.get X f_X4_statement_66 0 (v := .int (nI (sN N))) rfl rfl dX4_statement_235 ?_
                refine Go.iconst X (nI 1) dX4_statement_238 k_ic_1 ?_
                refine Go.isub_e X (nI (sN N - 1)) dX4_statement_239 (pk_sub (by first | omega | (split <;> omega))) ?_
                refine Go.callV0i X (d_number g ad N K b z le rf hd ln vl y x (kI w) va lm ol ah lt lo 0 (sN N - 1) (by exact hz) (by exact hb) (by first | omega | (split <;> omega)) (by first | omega | (split <;> omega)) (by first | omega | (split <;> omega))) cal_X4_number gX4_statement_X4_number (ci := 4) (q0 := 0) rfl rfl rfl rfl rfl dX4_statement_240 ?_
                have f240_5 := st_le (le := le) (z := z) (e := y) (by omega)
                have f240_6 := tkK_le le z y
                refine Go.if_neB X 248 dX4_statement_243 (by decide) (fun h243 => ?_) (fun h243 => ?_)
                · --
                  refine Go.iconst X (nI 0) dX4_statement_248 k_ic_0 ?_
                  refine Go.istore_n_new X dX4_statement_249 (by decide) rfl ?_
                  have L250 : ∀ (f250 : Nat) (i : Nat) (s : Nat) (x2 : Nat) (y2 : Nat) (w2 : Nat) (u : Int32) (hp2 : x2 ≤ y2 ∧ y2 ≤ z ∧ w2 ≤ 4) (hs : s < 2 ^ sN N) (hi : bcn s = i) (hin : i ≤ sN N) (hv : vaP le (x2, y2, w2) u) (h0 : i = 0 → w2 = 2) (hh : hnF le z (sN N) (sN N + 2 - i) i s (x2, y2, w2) = hnR le z N y) (hf250 : sN N - i < f250), Go Γ g 2 (rmC 5 107) 0 0 (mdW g ad (N, K, b, z, le, rf, hd, ln, vl) (6, y2, x2, kI w2, u, lm, ol, ah, lt, lo)) 250 [(1, .int (nI s)), (0, .ref (ad 0))] [] := by
                    intro f250
                    induction f250 with
                    | zero => intro i s x2 y2 w2 u hp2 hs hi hin hv h0 hh hf250; exact absurd hf250 (Nat.not_lt_zero _)
                    | succ f250 ih250 =>
                      intro i s x2 y2 w2 u hp2 hs hi hin hv h0 hh hf250
                      refine Go.aload_n X 1 dX4_statement_250 rfl ?_
                      refine Go.get X f_X4_statement_133 0 (v := .int (kI w2)) rfl rfl dX4_statement_251 ?_
                      refine Go.iconst X (nI 2) dX4_statement_254 k_ic_2 ?_
                      refine Go.icmp_ne X 304 dX4_statement_255 (by decide) (fun h255 => ?_) (fun h255 => ?_)
                      · --
                        have o11 : sA N &&& s ≤ sA N := Nat.and_le_left
                        refine Go.aload_n X 1 dX4_statement_304 rfl ?_
                        refine Go.dup X dX4_statement_305 rfl ?_
                        refine Go.get X f_X4_statement_111 0 (v := .int (nI (sA N))) rfl rfl dX4_statement_306 ?_
                        refine Go.iload_n X 0 dX4_statement_309 rfl ?_
                        refine Go.iand_e X (nI ((sA N) &&& s)) dX4_statement_310 (nI_and _ _) ?_
                        refine Go.putM X f_X4_statement_111 fp_4_4 0 (mdW g ad ((sN N, (sA N) &&& s, sW N, sD N, sP N, sK N, sO N, sG N, sT N, sF N, sX N), K, b, z, le, rf, hd, ln, vl) (6, y2, x2, kI w2, u, lm, ol, ah, lt, lo)) rfl rfl rfl rfl dX4_statement_311 rfl ?_
                        refine Go.iconst X (nI 1) dX4_statement_314 k_ic_1 ?_
                        have e9 : rdX le z N (x, y, w) = (true, (sN N, (sA N) &&& s, sW N, sD N, sP N, sK N, sO N, sG N, sT N, sF N, sX N), x2, y2, w2) := by have k3 : ¬ w2 = 2 := (fun q => h255 (by rw [q]; rfl)); have k4 : ¬ i = 0 := (fun q => k3 (h0 q)); exact (show rdX le z N (x, y, w) = rdH le z N y from by unfold rdX; rw [if_neg (show ¬ wrd le x y w 0 = true by rw [h6]; decide), if_neg (show ¬ wrd le x y w 1 = true by rw [h38]; decide), if_neg (show ¬ wrd le x y w 2 = true by rw [h83]; decide), if_neg (show ¬ wrd le x y w 3 = true by rw [h138]; decide), if_neg (show ¬ wrd le x y w 4 = true by rw [h179]; decide), if_pos (show wrd le x y w 5 = true from h229)]).trans (rdH_t (hh.symm.trans (hnF_0 (p := (x2, y2, w2)) (.inr ⟨k4, k3⟩))))
                        exact Go.nret X E rfl dX4_statement_315 ⟨by rw [e9]; rfl, u, by rw [e9]⟩ rfl
                      · --
                        refine Go.aload_n X 1 dX4_statement_258 rfl ?_
                        refine Go.get X f_X4_statement_142 0 (v := .int u) rfl rfl dX4_statement_259 ?_
                        have k2 : w2 = 2 := (kI_eq w2 (by omega) 2 (by decide)).mp h255
                        refine Go.iconst X (nI 0) dX4_statement_262 k_ic_0 ?_
                        refine Go.aload_n X 1 dX4_statement_263 rfl ?_
                        refine Go.get X f_X4_statement_66 0 (v := .int (nI (sN N))) rfl rfl dX4_statement_264 ?_
                        refine Go.iconst X (nI 1) dX4_statement_267 k_ic_1 ?_
                        refine Go.isub_e X (nI (sN N - 1)) dX4_statement_268 (pk_sub (by first | omega | (split <;> omega))) ?_
                        refine Go.callSi X  (d_within g u (nI 0) (nI (sN N - 1))) cal_X4_within [] rfl rfl gX4_statement_X4_within rfl rfl rfl dX4_statement_269 ?_
                        refine Go.if_eqB X 286 dX4_statement_272 (by decide) (fun h272 => ?_) (fun h272 => ?_)
                        · --
                          refine Go.iconst X (nI 0) dX4_statement_286 k_ic_0 ?_
                          have e9 : rdX le z N (x, y, w) = (false, N, x2, y2, w2) := by exact (show rdX le z N (x, y, w) = rdH le z N y from by unfold rdX; rw [if_neg (show ¬ wrd le x y w 0 = true by rw [h6]; decide), if_neg (show ¬ wrd le x y w 1 = true by rw [h38]; decide), if_neg (show ¬ wrd le x y w 2 = true by rw [h83]; decide), if_neg (show ¬ wrd le x y w 3 = true by rw [h138]; decide), if_neg (show ¬ wrd le x y w 4 = true by rw [h179]; decide), if_pos (show wrd le x y w 5 = true from h229)]).trans (rdH_f (hh.symm.trans (hnF_n (p := (x2, y2, w2)) (by omega) (show ¬ (sN N < i ∨ (¬ i = 0 ∧ ¬ w2 = 2)) by omega) (num_f (p := (x2, y2, w2)) hv (.inr h272)))))
                          exact Go.nret X E rfl dX4_statement_287 ⟨by rw [e9]; rfl, u, by rw [e9]⟩ rfl
                        · --
                          obtain ⟨j, hj, ej⟩ := wi_at (by decide) (by omega) h272
                          have nj : numP le (x2, y2, w2) (nI 0) (nI (sN N - 1)) = nI j := (num_t (p := (x2, y2, w2)) k2 hv (by omega) h272).trans ej
                          refine Go.iload_n X 0 dX4_statement_275 rfl ?_
                          refine Go.aload_n X 1 dX4_statement_276 rfl ?_
                          refine Go.get X f_X4_statement_142 0 (v := .int u) rfl rfl dX4_statement_277 ?_
                          refine Go.top (w := .int (nI j)) (by rw [ej]) ?_
                          refine Go.callSi X  (d_has g s j (by first | omega | (split <;> omega)) (by first | omega | (split <;> omega))) cal_X4_has [] rfl rfl gX4_statement_X4_has rfl rfl rfl dX4_statement_280 ?_
                          refine Go.if_eqB X 288 dX4_statement_283 (by decide) (fun h283 => ?_) (fun h283 => ?_)
                          · --
                            have b2 : s ||| 2 ^ j < 2 ^ sN N := Nat.or_lt_two_pow hs (Nat.pow_lt_pow_right (by decide) (by omega))
                            have b1 := (bcn_s s (by omega) j (by omega)).resolve_left (by rw [h283]; decide)
                            have b3 := (bcn_n (s ||| 2 ^ j) (by omega) (sN N) (by omega)).resolve_left (fun q => q b2)
                            refine Go.iload_n X 0 dX4_statement_288 rfl ?_
                            refine Go.iconst X (nI 1) dX4_statement_289 k_ic_1 ?_
                            refine Go.aload_n X 1 dX4_statement_290 rfl ?_
                            refine Go.get X f_X4_statement_142 0 (v := .int u) rfl rfl dX4_statement_291 ?_
                            refine Go.top (w := .int (nI j)) (by rw [ej]) ?_
                            refine Go.ishl_e X (nI (2 ^ j)) dX4_statement_294 (nI_shl1 (by first | omega | (split <;> omega))) ?_
                            refine Go.ior_e X (nI (s ||| (2 ^ j))) dX4_statement_295 (nI_or _ _) ?_
                            refine Go.istore_n_0 X dX4_statement_296 (by decide) rfl ?_
                            refine Go.aload_n X 1 dX4_statement_297 rfl ?_
                            refine Go.callV0v X (d_next g ad N K b z le rf hd ln vl y2 x2 (kI w2) u lm ol ah lt lo (by exact hz) (by exact hb) (by first | omega | (split <;> omega))) cal_X4_next gX4_statement_X4_next (ci := 4) (q0 := 0) rfl rfl rfl rfl rfl dX4_statement_298 ?_
                            have f298_7 := st_le (le := le) (z := z) (e := y2) (by omega)
                            have f298_8 := tkK_le le z y2
                            refine Go.goto X 250 dX4_statement_301 (by decide) ?_
                            refine Go.lv_0 (congrArg (fun z => Value.int (nI z)) (show s ||| (2 ^ j) = (s ||| 2 ^ j) from by rfl)) ?_
                            refine Go.conv (M1 := mdW g ad (N, K, b, z, le, rf, hd, ln, vl) (6, (tkE le z y2), (skp le z y2), kI (tkK le z y2), (vaS le z y2 u), lm, ol, ah, lt, lo)) ?_ (by rfl) rfl rfl
                            exact ih250 (i + 1) (s ||| 2 ^ j) (skp le z y2) (tkE le z y2) (tkK le z y2) (vaS le z y2 u) (by exact stp_ok (le := le) (show y2 ≤ z by omega)) (by exact b2) (by rw [b1, hi]) (by omega) (by exact vaS_P le z y2 u) (by intro q; omega) (by rw [← hh, hnF_s (p := (x2, y2, w2)) (by omega) (show ¬ (sN N < i ∨ (¬ i = 0 ∧ ¬ w2 = 2)) by omega) nj (by omega) h283]; rfl) (by first | omega | (split <;> omega))
                          · --
                            refine Go.iconst X (nI 0) dX4_statement_286 k_ic_0 ?_
                            have e9 : rdX le z N (x, y, w) = (false, N, x2, y2, w2) := by exact (show rdX le z N (x, y, w) = rdH le z N y from by unfold rdX; rw [if_neg (show ¬ wrd le x y w 0 = true by rw [h6]; decide), if_neg (show ¬ wrd le x y w 1 = true by rw [h38]; decide), if_neg (show ¬ wrd le x y w 2 = true by rw [h83]; decide), if_neg (show ¬ wrd le x y w 3 = true by rw [h138]; decide), if_neg (show ¬ wrd le x y w 4 = true by rw [h179]; decide), if_pos (show wrd le x y w 5 = true from h229)]).trans (rdH_f (hh.symm.trans (hnF_b (p := (x2, y2, w2)) (by omega) (show ¬ (sN N < i ∨ (¬ i = 0 ∧ ¬ w2 = 2)) by omega) nj (by omega) h283)))
                            exact Go.nret X E rfl dX4_statement_287 ⟨by rw [e9]; rfl, u, by rw [e9]⟩ rfl
                  refine Go.conv (M1 := mdW g ad (N, K, b, z, le, rf, hd, ln, vl) (6, (tkE le z y), (skp le z y), kI (tkK le z y), (vaS le z y va), lm, ol, ah, lt, lo)) ?_ (by rfl) rfl rfl
                  exact L250 (sN N - 0 + 1) 0 0 (skp le z y) (tkE le z y) (tkK le z y) (vaS le z y va) (by exact stp_ok (le := le) (show y ≤ z by omega)) (by exact Nat.two_pow_pos _) (by decide) (by omega) (by exact vaS_P le z y va) (by intro _; exact num_k (p := stp le z y) (of_decide_eq_true h243)) (by rfl) (Nat.lt_succ_self _)
                · --
                  refine Go.iconst X (nI 0) dX4_statement_246 k_ic_0 ?_
                  have e9 : rdX le z N (x, y, w) = (false, N, skp le z y, tkE le z y, tkK le z y) := by have n1 : numP le (stp le z y) (nI 0) (nI (sN N - 1)) = -1 := nok_no h243; exact (show rdX le z N (x, y, w) = rdH le z N y from by unfold rdX; rw [if_neg (show ¬ wrd le x y w 0 = true by rw [h6]; decide), if_neg (show ¬ wrd le x y w 1 = true by rw [h38]; decide), if_neg (show ¬ wrd le x y w 2 = true by rw [h83]; decide), if_neg (show ¬ wrd le x y w 3 = true by rw [h138]; decide), if_neg (show ¬ wrd le x y w 4 = true by rw [h179]; decide), if_pos (show wrd le x y w 5 = true from h229)]).trans (rdH_f (hnR_0 n1))
                  exact Go.nret X E rfl dX4_statement_247 ⟨by rw [e9]; rfl, (vaS le z y va), by rw [e9]⟩ rfl
            · --
              refine Go.aload_n X 0 dX4_statement_182 rfl ?_
              refine Go.iconst X (nI 0) dX4_statement_183 k_ic_0 ?_
              refine Go.iconst X (nI 5) dX4_statement_184 k_ic_5 ?_
              refine Go.callV0i X (d_number g ad N K b z le rf hd ln vl y x (kI w) va lm ol ah lt lo 0 5 (by exact hz) (by exact hb) (by first | omega | (split <;> omega)) (by first | omega | (split <;> omega)) (by first | omega | (split <;> omega))) cal_X4_number gX4_statement_X4_number (ci := 4) (q0 := 0) rfl rfl rfl rfl rfl dX4_statement_185 ?_
              have f185_9 := st_le (le := le) (z := z) (e := y) (by omega)
              have f185_10 := tkK_le le z y
              refine Go.if_neB X 193 dX4_statement_188 (by decide) (fun h188 => ?_) (fun h188 => ?_)
              · --
                refine Go.aload_n X 0 dX4_statement_193 rfl ?_
                refine Go.get X f_X4_statement_142 0 (v := .int (vaS le z y va)) rfl rfl dX4_statement_194 ?_
                obtain ⟨j, hj, e1, e2⟩ := nok_at (le := le) (z := z) (e := y) (va) (by omega) (by omega) h188
                refine Go.top (w := .int (nI j)) (by rw [e2]) ?_
                refine Go.istore_n_new X dX4_statement_197 (by decide) rfl ?_
                refine Go.aload_n X 1 dX4_statement_198 rfl ?_
                refine Go.iconst X (nI 0) dX4_statement_199 k_ic_0 ?_
                refine Go.bipush X (nI 9) dX4_statement_200 k_bp_9 ?_
                refine Go.callV0i X (d_number g ad N K b z le rf hd ln vl (tkE le z y) (skp le z y) (kI (tkK le z y)) (vaS le z y va) lm ol ah lt lo 0 9 (by exact hz) (by exact hb) (by first | omega | (split <;> omega)) (by first | omega | (split <;> omega)) (by first | omega | (split <;> omega))) cal_X4_number gX4_statement_X4_number (ci := 4) (q0 := 0) rfl rfl rfl rfl rfl dX4_statement_202 ?_
                have f202_11 := st_le (le := le) (z := z) (e := (tkE le z y)) (by omega)
                have f202_12 := tkK_le le z (tkE le z y)
                refine Go.if_neB X 210 dX4_statement_205 (by decide) (fun h205 => ?_) (fun h205 => ?_)
                · --
                  refine Go.aload_n X 1 dX4_statement_210 rfl ?_
                  refine Go.iload_n X 0 dX4_statement_211 rfl ?_
                  refine Go.aload_n X 1 dX4_statement_212 rfl ?_
                  refine Go.get X f_X4_statement_142 0 (v := .int (vaS le z (tkE le z y) (vaS le z y va))) rfl rfl dX4_statement_213 ?_
                  obtain ⟨i, hi, e3, e4⟩ := nok_at (le := le) (z := z) (e := tkE le z y) (vaS le z y va) (by omega) (by omega) h205
                  refine Go.top (w := .int (nI i)) (by rw [e4]) ?_
                  refine Go.callV0i X (d_newOne g ad N K b z le rf hd ln vl 6 (tkE le z (tkE le z y)) (skp le z (tkE le z y)) (kI (tkK le z (tkE le z y))) (vaS le z (tkE le z y) (vaS le z y va)) lm ol ah lt lo j i (by first | omega | (split <;> omega))) cal_X4_newOne gX4_statement_X4_newOne (ci := 4) (q0 := 0) rfl rfl rfl rfl rfl dX4_statement_216 ?_
                  refine Go.pop X dX4_statement_219 rfl ?_
                  refine Go.goto X 318 dX4_statement_220 (by decide) ?_
                  refine Go.aload_n X 1 dX4_statement_318 rfl ?_
                  refine Go.callV0v X (d_next g ad (adS N j i) K b z le rf hd ln vl (tkE le z (tkE le z y)) (skp le z (tkE le z y)) (kI (tkK le z (tkE le z y))) (vaS le z (tkE le z y) (vaS le z y va)) lm ol ah lt lo (by exact hz) (by exact hb) (by first | omega | (split <;> omega))) cal_X4_next gX4_statement_X4_next (ci := 4) (q0 := 0) rfl rfl rfl rfl rfl dX4_statement_319 ?_
                  have f319_13 := st_le (le := le) (z := z) (e := (tkE le z (tkE le z y))) (by omega)
                  have f319_14 := tkK_le le z (tkE le z (tkE le z y))
                  refine Go.iconst X (nI 1) dX4_statement_322 k_ic_1 ?_
                  have e9 : rdX le z N (x, y, w) = (true, adS N j i, skp le z (tkE le z (tkE le z y)), tkE le z (tkE le z (tkE le z y)), tkK le z (tkE le z (tkE le z y))) := by have e5 : numP le (stp le z (x, y, w).2.1) (nI 0) (nI 5) = nI j := e1; have m1 : nmS le z (stp le z (x, y, w).2.1) (nI 0) (nI 5) = stp le z (stp le z (x, y, w).2.1).2.1 := nmS_t e5 (by omega); have e6 : numP le (stp le z (stp le z (x, y, w).2.1).2.1) (nI 0) (nI 9) = nI i := e3; exact (show rdX le z N (x, y, w) = rdP le z N (x, y, w) from by unfold rdX; rw [if_neg (show ¬ wrd le x y w 0 = true by rw [h6]; decide), if_neg (show ¬ wrd le x y w 1 = true by rw [h38]; decide), if_neg (show ¬ wrd le x y w 2 = true by rw [h83]; decide), if_neg (show ¬ wrd le x y w 3 = true by rw [h138]; decide), if_pos (show wrd le x y w 4 = true from h179)]).trans (by rw [rdP_y (by omega) e5 (by omega) (by rw [m1]; exact e6) (by omega), m1, nmS_t e6 (by omega)]; rfl)
                  exact Go.nret X E rfl dX4_statement_323 ⟨by rw [e9]; rfl, (vaS le z (tkE le z (tkE le z y)) (vaS le z (tkE le z y) (vaS le z y va))), by rw [e9]⟩ rfl
                · --
                  refine Go.iconst X (nI 0) dX4_statement_208 k_ic_0 ?_
                  have e9 : rdX le z N (x, y, w) = (false, N, skp le z (tkE le z y), tkE le z (tkE le z y), tkK le z (tkE le z y)) := by have e5 : numP le (stp le z (x, y, w).2.1) (nI 0) (nI 5) = nI j := e1; have m1 : nmS le z (stp le z (x, y, w).2.1) (nI 0) (nI 5) = stp le z (stp le z (x, y, w).2.1).2.1 := nmS_t e5 (by omega); have n2 : numP le (stp le z (stp le z (x, y, w).2.1).2.1) (nI 0) (nI 9) = -1 := nok_no h205; exact (show rdX le z N (x, y, w) = rdP le z N (x, y, w) from by unfold rdX; rw [if_neg (show ¬ wrd le x y w 0 = true by rw [h6]; decide), if_neg (show ¬ wrd le x y w 1 = true by rw [h38]; decide), if_neg (show ¬ wrd le x y w 2 = true by rw [h83]; decide), if_neg (show ¬ wrd le x y w 3 = true by rw [h138]; decide), if_pos (show wrd le x y w 4 = true from h179)]).trans (by rw [rdP_m (by omega) e5 (by omega) (by rw [m1]; exact n2), m1, nmS_f n2]; rfl)
                  exact Go.nret X E rfl dX4_statement_209 ⟨by rw [e9]; rfl, (vaS le z (tkE le z y) (vaS le z y va)), by rw [e9]⟩ rfl
              · --
                refine Go.iconst X (nI 0) dX4_statement_191 k_ic_0 ?_
                have e9 : rdX le z N (x, y, w) = (false, N, skp le z y, tkE le z y, tkK le z y) := by have n1 : numP le (stp le z (x, y, w).2.1) (nI 0) (nI 5) = -1 := nok_no h188; exact (show rdX le z N (x, y, w) = rdP le z N (x, y, w) from by unfold rdX; rw [if_neg (show ¬ wrd le x y w 0 = true by rw [h6]; decide), if_neg (show ¬ wrd le x y w 1 = true by rw [h38]; decide), if_neg (show ¬ wrd le x y w 2 = true by rw [h83]; decide), if_neg (show ¬ wrd le x y w 3 = true by rw [h138]; decide), if_pos (show wrd le x y w 4 = true from h179)]).trans (by rw [rdP_n (by omega) n1, nmS_f n1]; rfl)
                exact Go.nret X E rfl dX4_statement_192 ⟨by rw [e9]; rfl, (vaS le z y va), by rw [e9]⟩ rfl
        · --
          refine Go.aload_n X 0 dX4_statement_141 rfl ?_
          refine Go.iconst X (nI 0) dX4_statement_142 k_ic_0 ?_
          refine Go.bipush X (nI 9) dX4_statement_143 k_bp_9 ?_
          refine Go.callV0i X (d_number g ad N K b z le rf hd ln vl y x (kI w) va lm ol ah lt lo 0 9 (by exact hz) (by exact hb) (by first | omega | (split <;> omega)) (by first | omega | (split <;> omega)) (by first | omega | (split <;> omega))) cal_X4_number gX4_statement_X4_number (ci := 4) (q0 := 0) rfl rfl rfl rfl rfl dX4_statement_145 ?_
          have f145_15 := st_le (le := le) (z := z) (e := y) (by omega)
          have f145_16 := tkK_le le z y
          refine Go.if_neB X 153 dX4_statement_148 (by decide) (fun h148 => ?_) (fun h148 => ?_)
          · --
            refine Go.aload_n X 0 dX4_statement_153 rfl ?_
            refine Go.aload_n X 0 dX4_statement_154 rfl ?_
            refine Go.get X f_X4_statement_142 0 (v := .int (vaS le z y va)) rfl rfl dX4_statement_155 ?_
            obtain ⟨j, hj, e1, e2⟩ := nok_at (le := le) (z := z) (e := y) (va) (by omega) (by omega) h148
            refine Go.top (w := .int (nI j)) (by rw [e2]) ?_
            refine Go.putM X f_X4_statement_48 fp_4_6 0 (mdW g ad ((sN N, sA N, sW N, j, sP N, sK N, sO N, sG N, sT N, sF N, sX N), K, b, z, le, rf, hd, ln, vl) (6, tkE le z y, skp le z y, kI (tkK le z y), vaS le z y va, lm, ol, ah, lt, lo)) rfl rfl rfl rfl dX4_statement_158 rfl ?_
            refine Go.goto X 318 dX4_statement_161 (by decide) ?_
            refine Go.aload_n X 0 dX4_statement_318 rfl ?_
            refine Go.callV0v X (d_next g ad (sN N, sA N, sW N, j, sP N, sK N, sO N, sG N, sT N, sF N, sX N) K b z le rf hd ln vl (tkE le z y) (skp le z y) (kI (tkK le z y)) (vaS le z y va) lm ol ah lt lo (by exact hz) (by exact hb) (by first | omega | (split <;> omega))) cal_X4_next gX4_statement_X4_next (ci := 4) (q0 := 0) rfl rfl rfl rfl rfl dX4_statement_319 ?_
            have f319_17 := st_le (le := le) (z := z) (e := (tkE le z y)) (by omega)
            have f319_18 := tkK_le le z (tkE le z y)
            refine Go.iconst X (nI 1) dX4_statement_322 k_ic_1 ?_
            have e9 : rdX le z N (x, y, w) = (true, (sN N, sA N, sW N, j, sP N, sK N, sO N, sG N, sT N, sF N, sX N), skp le z (tkE le z y), tkE le z (tkE le z y), tkK le z (tkE le z y)) := by have e5 : numP le (stp le z y) (nI 0) (nI 9) = nI j := e1; exact (show rdX le z N (x, y, w) = rdS le z N y from by unfold rdX; rw [if_neg (show ¬ wrd le x y w 0 = true by rw [h6]; decide), if_neg (show ¬ wrd le x y w 1 = true by rw [h38]; decide), if_neg (show ¬ wrd le x y w 2 = true by rw [h83]; decide), if_pos (show wrd le x y w 3 = true from h138)]).trans (by rw [rdS_y e5 (by omega), nmS_t e5 (by omega)]; rfl)
            exact Go.nret X E rfl dX4_statement_323 ⟨by rw [e9]; rfl, (vaS le z (tkE le z y) (vaS le z y va)), by rw [e9]⟩ rfl
          · --
            refine Go.iconst X (nI 0) dX4_statement_151 k_ic_0 ?_
            have e9 : rdX le z N (x, y, w) = (false, N, skp le z y, tkE le z y, tkK le z y) := by have n1 : numP le (stp le z y) (nI 0) (nI 9) = -1 := nok_no h148; exact (show rdX le z N (x, y, w) = rdS le z N y from by unfold rdX; rw [if_neg (show ¬ wrd le x y w 0 = true by rw [h6]; decide), if_neg (show ¬ wrd le x y w 1 = true by rw [h38]; decide), if_neg (show ¬ wrd le x y w 2 = true by rw [h83]; decide), if_pos (show wrd le x y w 3 = true from h138)]).trans (by rw [rdS_n n1, nmS_f n1]; rfl)
            exact Go.nret X E rfl dX4_statement_152 ⟨by rw [e9]; rfl, (vaS le z y va), by rw [e9]⟩ rfl
      · --
        refine Go.aload_n X 0 dX4_statement_86 rfl ?_
        refine Go.iconst X (nI 0) dX4_statement_87 k_ic_0 ?_
        refine Go.aload_n X 0 dX4_statement_88 rfl ?_
        refine Go.get X f_X4_statement_66 0 (v := .int (nI (sN N))) rfl rfl dX4_statement_89 ?_
        refine Go.iconst X (nI 1) dX4_statement_92 k_ic_1 ?_
        refine Go.isub_e X (nI (sN N - 1)) dX4_statement_93 (pk_sub (by first | omega | (split <;> omega))) ?_
        refine Go.callV0i X (d_number g ad N K b z le rf hd ln vl y x (kI w) va lm ol ah lt lo 0 (sN N - 1) (by exact hz) (by exact hb) (by first | omega | (split <;> omega)) (by first | omega | (split <;> omega)) (by first | omega | (split <;> omega))) cal_X4_number gX4_statement_X4_number (ci := 4) (q0 := 0) rfl rfl rfl rfl rfl dX4_statement_94 ?_
        have f94_19 := st_le (le := le) (z := z) (e := y) (by omega)
        have f94_20 := tkK_le le z y
        refine Go.if_neB X 102 dX4_statement_97 (by decide) (fun h97 => ?_) (fun h97 => ?_)
        · --
          refine Go.aload_n X 0 dX4_statement_102 rfl ?_
          refine Go.get X f_X4_statement_142 0 (v := .int (vaS le z y va)) rfl rfl dX4_statement_103 ?_
          obtain ⟨j, hj, e1, e2⟩ := nok_at (le := le) (z := z) (e := y) (va) (by omega) (by omega) h97
          refine Go.top (w := .int (nI j)) (by rw [e2]) ?_
          refine Go.istore_n_new X dX4_statement_106 (by decide) rfl ?_
          refine Go.aload_n X 1 dX4_statement_107 rfl ?_
          refine Go.iconst X (nI 0) dX4_statement_108 k_ic_0 ?_
          refine Go.bipush X (nI 9) dX4_statement_109 k_bp_9 ?_
          refine Go.callV0i X (d_number g ad N K b z le rf hd ln vl (tkE le z y) (skp le z y) (kI (tkK le z y)) (vaS le z y va) lm ol ah lt lo 0 9 (by exact hz) (by exact hb) (by first | omega | (split <;> omega)) (by first | omega | (split <;> omega)) (by first | omega | (split <;> omega))) cal_X4_number gX4_statement_X4_number (ci := 4) (q0 := 0) rfl rfl rfl rfl rfl dX4_statement_111 ?_
          have f111_21 := st_le (le := le) (z := z) (e := (tkE le z y)) (by omega)
          have f111_22 := tkK_le le z (tkE le z y)
          refine Go.if_neB X 119 dX4_statement_114 (by decide) (fun h114 => ?_) (fun h114 => ?_)
          · --
            refine Go.aload_n X 1 dX4_statement_119 rfl ?_
            refine Go.get X f_X4_statement_20 0 (v := .ref (ad 4)) rfl rfl dX4_statement_120 ?_
            refine Go.iload_n X 0 dX4_statement_123 rfl ?_
            refine Go.aload_n X 1 dX4_statement_124 rfl ?_
            refine Go.get X f_X4_statement_142 0 (v := .int (vaS le z (tkE le z y) (vaS le z y va))) rfl rfl dX4_statement_125 ?_
            obtain ⟨i, hi, e3, e4⟩ := nok_at (le := le) (z := z) (e := tkE le z y) (vaS le z y va) (by omega) (by omega) h114
            refine Go.top (w := .int (nI i)) (by rw [e4]) ?_
            refine Go.iastNM X 4 (mdW g ad ((sN N, sA N, updN (sW N) j i, sD N, sP N, sK N, sO N, sG N, sT N, sF N, sX N), K, b, z, le, rf, hd, ln, vl) (6, tkE le z (tkE le z y), skp le z (tkE le z y), kI (tkK le z (tkE le z y)), vaS le z (tkE le z y) (vaS le z y va), lm, ol, ah, lt, lo)) (w := sW N) rfl (by first | omega | (split <;> omega)) rfl dX4_statement_128 rfl ?_
            refine Go.goto X 318 dX4_statement_129 (by decide) ?_
            refine Go.aload_n X 1 dX4_statement_318 rfl ?_
            refine Go.callV0v X (d_next g ad (sN N, sA N, updN (sW N) j i, sD N, sP N, sK N, sO N, sG N, sT N, sF N, sX N) K b z le rf hd ln vl (tkE le z (tkE le z y)) (skp le z (tkE le z y)) (kI (tkK le z (tkE le z y))) (vaS le z (tkE le z y) (vaS le z y va)) lm ol ah lt lo (by exact hz) (by exact hb) (by first | omega | (split <;> omega))) cal_X4_next gX4_statement_X4_next (ci := 4) (q0 := 0) rfl rfl rfl rfl rfl dX4_statement_319 ?_
            have f319_23 := st_le (le := le) (z := z) (e := (tkE le z (tkE le z y))) (by omega)
            have f319_24 := tkK_le le z (tkE le z (tkE le z y))
            refine Go.iconst X (nI 1) dX4_statement_322 k_ic_1 ?_
            have e9 : rdX le z N (x, y, w) = (true, (sN N, sA N, updN (sW N) j i, sD N, sP N, sK N, sO N, sG N, sT N, sF N, sX N), skp le z (tkE le z (tkE le z y)), tkE le z (tkE le z (tkE le z y)), tkK le z (tkE le z (tkE le z y))) := by have e5 : numP le (stp le z y) (nI 0) (nI (sN N - 1)) = nI j := e1; have m1 : nmS le z (stp le z y) (nI 0) (nI (sN N - 1)) = stp le z (stp le z y).2.1 := nmS_t e5 (by omega); have e6 : numP le (stp le z (stp le z y).2.1) (nI 0) (nI 9) = nI i := e3; exact (show rdX le z N (x, y, w) = rdW le z N y from by unfold rdX; rw [if_neg (show ¬ wrd le x y w 0 = true by rw [h6]; decide), if_neg (show ¬ wrd le x y w 1 = true by rw [h38]; decide), if_pos (show wrd le x y w 2 = true from h83)]).trans (by rw [rdW_y e5 (by omega) (by rw [m1]; exact e6) (by omega), m1, nmS_t e6 (by omega)]; rfl)
            exact Go.nret X E rfl dX4_statement_323 ⟨by rw [e9]; rfl, (vaS le z (tkE le z (tkE le z y)) (vaS le z (tkE le z y) (vaS le z y va))), by rw [e9]⟩ rfl
          · --
            refine Go.iconst X (nI 0) dX4_statement_117 k_ic_0 ?_
            have e9 : rdX le z N (x, y, w) = (false, N, skp le z (tkE le z y), tkE le z (tkE le z y), tkK le z (tkE le z y)) := by have e5 : numP le (stp le z y) (nI 0) (nI (sN N - 1)) = nI j := e1; have m1 : nmS le z (stp le z y) (nI 0) (nI (sN N - 1)) = stp le z (stp le z y).2.1 := nmS_t e5 (by omega); have n2 : numP le (stp le z (stp le z y).2.1) (nI 0) (nI 9) = -1 := nok_no h114; exact (show rdX le z N (x, y, w) = rdW le z N y from by unfold rdX; rw [if_neg (show ¬ wrd le x y w 0 = true by rw [h6]; decide), if_neg (show ¬ wrd le x y w 1 = true by rw [h38]; decide), if_pos (show wrd le x y w 2 = true from h83)]).trans (by rw [rdW_m e5 (by omega) (by rw [m1]; exact n2), m1, nmS_f n2]; rfl)
            exact Go.nret X E rfl dX4_statement_118 ⟨by rw [e9]; rfl, (vaS le z (tkE le z y) (vaS le z y va)), by rw [e9]⟩ rfl
        · --
          refine Go.iconst X (nI 0) dX4_statement_100 k_ic_0 ?_
          have e9 : rdX le z N (x, y, w) = (false, N, skp le z y, tkE le z y, tkK le z y) := by have n1 : numP le (stp le z y) (nI 0) (nI (sN N - 1)) = -1 := nok_no h97; exact (show rdX le z N (x, y, w) = rdW le z N y from by unfold rdX; rw [if_neg (show ¬ wrd le x y w 0 = true by rw [h6]; decide), if_neg (show ¬ wrd le x y w 1 = true by rw [h38]; decide), if_pos (show wrd le x y w 2 = true from h83)]).trans (by rw [rdW_n n1, nmS_f n1]; rfl)
          exact Go.nret X E rfl dX4_statement_101 ⟨by rw [e9]; rfl, (vaS le z y va), by rw [e9]⟩ rfl
    · --
      refine Go.aload_n X 0 dX4_statement_41 rfl ?_
      refine Go.iconst X (nI 0) dX4_statement_42 k_ic_0 ?_
      refine Go.aload_n X 0 dX4_statement_43 rfl ?_
      refine Go.get X f_X4_statement_66 0 (v := .int (nI (sN N))) rfl rfl dX4_statement_44 ?_
      refine Go.iconst X (nI 1) dX4_statement_47 k_ic_1 ?_
      refine Go.isub_e X (nI (sN N - 1)) dX4_statement_48 (pk_sub (by first | omega | (split <;> omega))) ?_
      refine Go.callV0i X (d_number g ad N K b z le rf hd ln vl y x (kI w) va lm ol ah lt lo 0 (sN N - 1) (by exact hz) (by exact hb) (by first | omega | (split <;> omega)) (by first | omega | (split <;> omega)) (by first | omega | (split <;> omega))) cal_X4_number gX4_statement_X4_number (ci := 4) (q0 := 0) rfl rfl rfl rfl rfl dX4_statement_49 ?_
      have f49_25 := st_le (le := le) (z := z) (e := y) (by omega)
      have f49_26 := tkK_le le z y
      refine Go.if_neB X 57 dX4_statement_52 (by decide) (fun h52 => ?_) (fun h52 => ?_)
      · --
        refine Go.aload_n X 0 dX4_statement_57 rfl ?_
        refine Go.dup X dX4_statement_58 rfl ?_
        refine Go.get X f_X4_statement_111 0 (v := .int (nI (sA N))) rfl rfl dX4_statement_59 ?_
        refine Go.iconst X (nI 1) dX4_statement_62 k_ic_1 ?_
        refine Go.aload_n X 0 dX4_statement_63 rfl ?_
        refine Go.get X f_X4_statement_142 0 (v := .int (vaS le z y va)) rfl rfl dX4_statement_64 ?_
        obtain ⟨j, hj, e1, e2⟩ := nok_at (le := le) (z := z) (e := y) (va) (by omega) (by omega) h52
        refine Go.top (w := .int (nI j)) (by rw [e2]) ?_
        refine Go.ishl_e X (nI (2 ^ j)) dX4_statement_67 (nI_shl1 (by first | omega | (split <;> omega))) ?_
        refine Go.iconst X ((-1 : Int32)) dX4_statement_68 k_ic_m1 ?_
        refine Go.ixor_e X (nI (2 ^ j) ^^^ (-1)) dX4_statement_69 rfl ?_
        refine Go.iand_e X (nI (dif (sA N) (2 ^ j))) dX4_statement_70 (nI_andnot _ _) ?_
        refine Go.putM X f_X4_statement_111 fp_4_4 0 (mdW g ad ((sN N, dif (sA N) (2 ^ j), sW N, sD N, sP N, sK N, sO N, sG N, sT N, sF N, sX N), K, b, z, le, rf, hd, ln, vl) (6, tkE le z y, skp le z y, kI (tkK le z y), vaS le z y va, lm, ol, ah, lt, lo)) rfl rfl rfl rfl dX4_statement_71 rfl ?_
        refine Go.goto X 318 dX4_statement_74 (by decide) ?_
        refine Go.aload_n X 0 dX4_statement_318 rfl ?_
        refine Go.callV0v X (d_next g ad (sN N, dif (sA N) (2 ^ j), sW N, sD N, sP N, sK N, sO N, sG N, sT N, sF N, sX N) K b z le rf hd ln vl (tkE le z y) (skp le z y) (kI (tkK le z y)) (vaS le z y va) lm ol ah lt lo (by exact hz) (by exact hb) (by first | omega | (split <;> omega))) cal_X4_next gX4_statement_X4_next (ci := 4) (q0 := 0) rfl rfl rfl rfl rfl dX4_statement_319 ?_
        have f319_27 := st_le (le := le) (z := z) (e := (tkE le z y)) (by omega)
        have f319_28 := tkK_le le z (tkE le z y)
        refine Go.iconst X (nI 1) dX4_statement_322 k_ic_1 ?_
        have e9 : rdX le z N (x, y, w) = (true, (sN N, dif (sA N) (2 ^ j), sW N, sD N, sP N, sK N, sO N, sG N, sT N, sF N, sX N), skp le z (tkE le z y), tkE le z (tkE le z y), tkK le z (tkE le z y)) := by have e5 : numP le (stp le z y) (nI 0) (nI (sN N - 1)) = nI j := e1; exact (show rdX le z N (x, y, w) = rdN le z N y from by unfold rdX; rw [if_neg (show ¬ wrd le x y w 0 = true by rw [h6]; decide), if_pos (show wrd le x y w 1 = true from h38)]).trans (by rw [rdN_y e5 (by omega), nmS_t e5 (by omega)]; rfl)
        exact Go.nret X E rfl dX4_statement_323 ⟨by rw [e9]; rfl, (vaS le z (tkE le z y) (vaS le z y va)), by rw [e9]⟩ rfl
      · --
        refine Go.iconst X (nI 0) dX4_statement_55 k_ic_0 ?_
        have e9 : rdX le z N (x, y, w) = (false, N, skp le z y, tkE le z y, tkK le z y) := by have n1 : numP le (stp le z y) (nI 0) (nI (sN N - 1)) = -1 := nok_no h52; exact (show rdX le z N (x, y, w) = rdN le z N y from by unfold rdX; rw [if_neg (show ¬ wrd le x y w 0 = true by rw [h6]; decide), if_pos (show wrd le x y w 1 = true from h38)]).trans (by rw [rdN_n n1, nmS_f n1]; rfl)
        exact Go.nret X E rfl dX4_statement_56 ⟨by rw [e9]; rfl, (vaS le z y va), by rw [e9]⟩ rfl
  · --
    refine Go.aload_n X 0 dX4_statement_9 rfl ?_
    refine Go.iconst X (nI 1) dX4_statement_10 k_ic_1 ?_
    refine Go.bipush X (nI 9) dX4_statement_11 k_bp_9 ?_
    refine Go.callV0i X (d_number g ad N K b z le rf hd ln vl y x (kI w) va lm ol ah lt lo 1 9 (by exact hz) (by exact hb) (by first | omega | (split <;> omega)) (by first | omega | (split <;> omega)) (by first | omega | (split <;> omega))) cal_X4_number gX4_statement_X4_number (ci := 4) (q0 := 0) rfl rfl rfl rfl rfl dX4_statement_13 ?_
    have f13_29 := st_le (le := le) (z := z) (e := y) (by omega)
    have f13_30 := tkK_le le z y
    refine Go.if_neB X 21 dX4_statement_16 (by decide) (fun h16 => ?_) (fun h16 => ?_)
    · --
      refine Go.aload_n X 0 dX4_statement_21 rfl ?_
      refine Go.aload_n X 0 dX4_statement_22 rfl ?_
      refine Go.get X f_X4_statement_142 0 (v := .int (vaS le z y va)) rfl rfl dX4_statement_23 ?_
      obtain ⟨j, hj, e1, e2⟩ := nok_at (le := le) (z := z) (e := y) (va) (by omega) (by omega) h16
      refine Go.top (w := .int (nI j)) (by rw [e2]) ?_
      refine Go.callV0v X (d_freshTerm g ad N K b z le rf hd ln vl 6 (tkE le z y) (skp le z y) (kI (tkK le z y)) (vaS le z y va) lm ol ah lt lo j (by first | omega | (split <;> omega))) cal_X4_freshTerm gX4_statement_X4_freshTerm (ci := 4) (q0 := 0) rfl rfl rfl rfl rfl dX4_statement_26 ?_
      refine Go.goto X 318 dX4_statement_29 (by decide) ?_
      refine Go.aload_n X 0 dX4_statement_318 rfl ?_
      refine Go.callV0v X (d_next g ad (bgT N j) K b z le rf hd ln vl (tkE le z y) (skp le z y) (kI (tkK le z y)) (vaS le z y va) lm ol ah lt lo (by exact hz) (by exact hb) (by first | omega | (split <;> omega))) cal_X4_next gX4_statement_X4_next (ci := 4) (q0 := 0) rfl rfl rfl rfl rfl dX4_statement_319 ?_
      have f319_31 := st_le (le := le) (z := z) (e := (tkE le z y)) (by omega)
      have f319_32 := tkK_le le z (tkE le z y)
      refine Go.iconst X (nI 1) dX4_statement_322 k_ic_1 ?_
      have e9 : rdX le z N (x, y, w) = (true, bgT N j, skp le z (tkE le z y), tkE le z (tkE le z y), tkK le z (tkE le z y)) := by have e5 : numP le (stp le z y) (nI 1) (nI 9) = nI j := e1; exact (show rdX le z N (x, y, w) = rdT le z N y from by unfold rdX; rw [if_pos (show wrd le x y w 0 = true from h6)]).trans (by rw [rdT_y e5 (by omega), nmS_t e5 (by omega)]; rfl)
      exact Go.nret X E rfl dX4_statement_323 ⟨by rw [e9]; rfl, (vaS le z (tkE le z y) (vaS le z y va)), by rw [e9]⟩ rfl
    · --
      refine Go.iconst X (nI 0) dX4_statement_19 k_ic_0 ?_
      have e9 : rdX le z N (x, y, w) = (false, N, skp le z y, tkE le z y, tkK le z y) := by have n1 : numP le (stp le z y) (nI 1) (nI 9) = -1 := nok_no h16; exact (show rdX le z N (x, y, w) = rdT le z N y from by unfold rdX; rw [if_pos (show wrd le x y w 0 = true from h6)]).trans (by rw [rdT_n n1, nmS_f n1]; rfl)
      exact Go.nret X E rfl dX4_statement_20 ⟨by rw [e9]; rfl, (vaS le z y va), by rw [e9]⟩ rfl
set_option maxHeartbeats 4000000 in
set_option maxRecDepth 100000 in
theorem e_school (g : gT) (ad : Nat → Nat) (N : Sch) (K : Sch) (b : Bool) (z : Nat) (le : Nat → Nat) (rf : Nat → Int32) (hd : Nat → Int32) (ln : Nat → Nat) (vl : Nat → Nat → Int64) (at1 : Nat) (tk : Nat) (so : Int32) (va : Int32) (lm : Nat → Nat) (ol : Nat → Int32) (ah : Nat → Int32) (lt : Int32) (lo : Nat → Int32) (hN : sOk N) (hH : hOk (sP N) hd) (hz : z ≤ 250) (hb : ∀ i, i < 250 → le i < 256) (hm : mOk (N, K, b, z, le, rf, hd, ln, vl) (6, at1, tk, so, va, lm, ol, ah, lt, lo)) : Ct g yX4_school wsX4_school 6 128 [.ref (ad 0)] (mdW g ad (N, K, b, z, le, rf, hd, ln, vl) (6, at1, tk, so, va, lm, ol, ah, lt, lo)) (fun v9 w9 => v9 = (some (.int (x_school (N, K, b, z, le, rf, hd, ln, vl)).2)) ∧ ∃ J9, mOk (x_school (N, K, b, z, le, rf, hd, ln, vl)).1 J9 ∧ w9 = mdW g ad (x_school (N, K, b, z, le, rf, hd, ln, vl)).1 J9) := by
  refine Ct.start (cc := cX4_school) (nL := 3) (ret := (some .int)) (own := RX4) (by decide) rfl rfl rfl ?_
  intro Γ X E
  show Go Γ g 3 (rmC 6 128) 0 0 (mdW g ad (N, K, b, z, le, rf, hd, ln, vl) (6, at1, tk, so, va, lm, ol, ah, lt, lo)) 0 [(0, .ref (ad 0))] []
  obtain ⟨o1, o2, o3, o4, o5, o6, o7, o8⟩ := id hN
  have o9 := p2_9 o2
  have o10 := sA_512 hN
  refine Go.aload_n X 0 dX4_school_0 rfl ?_
  refine Go.aload_n X 0 dX4_school_1 rfl ?_
  refine Go.get X f_X4_school_38 0 (v := .ref (ad 10)) rfl rfl dX4_school_2 ?_
  refine Go.callV0v X (d_keep_ahead g ad N K b z le rf hd ln vl 6 at1 tk so va lm ol ah lt lo (by exact hN)) cal_X4_keep gX4_school_X4_keep (ci := 4) (q0 := 0) rfl rfl rfl rfl rfl dX4_school_5 ?_
  refine Go.aload_n X 0 dX4_school_8 rfl ?_
  refine Go.iconst X (nI 0) dX4_school_9 k_ic_0 ?_
  refine Go.putM X f_X4_school_127 fp_4_17 0 (mdW g ad (N, K, b, z, le, rf, hd, ln, vl) (6, 0, tk, so, va, lm, ol, encK N, lt, lo)) rfl rfl rfl rfl dX4_school_10 rfl ?_
  refine Go.iconst X (nI 0) dX4_school_13 k_ic_0 ?_
  refine Go.istore_n_new X dX4_school_14 (by decide) rfl ?_
  refine Go.iconst X (nI 1) dX4_school_15 k_ic_1 ?_
  refine Go.istore_n_new X dX4_school_16 (by decide) rfl ?_
  have L17 : ∀ (f17 : Nat) (m : Nat) (e : Nat) (D : Sch) (gg : Bool) (x : Nat) (u : Int32) (v1 : Int32) (hg1 : gg = true → 2 * m ≤ e ∧ e ≤ z ∧ sOk D ∧ rtF le z (250 - m) (m + 1) D (stp le z e) = rtT le z N) (hg0 : gg = false → (rtT le z N).1 = -1 ∧ (rtT le z N).2.2.1 = x) (hf17 : gg.toNat + (300 - m) < f17), Go Γ g 3 (rmC 6 128) 0 0 (mdW g ad (D, K, b, z, le, rf, hd, ln, vl) (6, e, x, u, v1, lm, ol, encK N, lt, lo)) 17 [(2, .int (b2i gg)), (1, .int (nI m)), (0, .ref (ad 0))] [] := by
    intro f17
    induction f17 with
    | zero => intro m e D gg x u v1 hg1 hg0 hf17; exact absurd hf17 (Nat.not_lt_zero _)
    | succ f17 ih17 =>
      intro m e D gg x u v1 hg1 hg0 hf17
      refine Go.iload_n X 0 dX4_school_17 rfl ?_
      refine Go.if_eqB X 76 dX4_school_18 (by decide) (fun h18 => ?_) (fun h18 => ?_)
      · --
        obtain ⟨r1, r2⟩ := hg0 h18
        refine Go.aload_n X 2 dX4_school_76 rfl ?_
        refine Go.aload_n X 2 dX4_school_77 rfl ?_
        refine Go.get X f_X4_school_38 0 (v := .ref (ad 10)) rfl rfl dX4_school_78 ?_
        refine Go.callV0v X (d_again_ahead g ad D K b z le rf hd ln vl 6 e x u v1 lm ol (encK N) lt lo N (by exact hN) (by exact fun j _ => rfl)) cal_X4_again gX4_school_X4_again (ci := 4) (q0 := 0) rfl rfl rfl rfl rfl dX4_school_81 ?_
        refine Go.aload_n X 2 dX4_school_84 rfl ?_
        refine Go.iconst X (nI 0) dX4_school_85 k_ic_0 ?_
        refine Go.putM X f_X4_school_124 fp_4_15 0 (mdW g ad (N, K, b, 0, le, rf, hd, ln, vl) (6, e, x, u, v1, lm, ol, encK N, lt, lo)) rfl rfl rfl rfl dX4_school_86 rfl ?_
        refine Go.aload_n X 2 dX4_school_89 rfl ?_
        refine Go.bipush X ((-2 : Int32)) dX4_school_90 k_bp_m2 ?_
        refine Go.callV0i X (d_no_0 g ad N K b 0 le rf hd ln vl 6 e x u v1 lm ol (encK N) lt lo) cal_X4_no gX4_school_X4_no (ci := 4) (q0 := 0) rfl rfl rfl rfl rfl dX4_school_92 ?_
        refine Go.pop X dX4_school_95 rfl ?_
        refine Go.bipush X ((-20 : Int32)) dX4_school_96 k_bp_m20 ?_
        refine Go.aload_n X 2 dX4_school_98 rfl ?_
        refine Go.get X f_X4_school_130 0 (v := .int (nI x)) rfl rfl dX4_school_99 ?_
        refine Go.isub_e X ((-20) - (nI x)) dX4_school_102 rfl ?_
        have e9 : x_school (N, K, b, z, le, rf, hd, ln, vl) = ((N, K, b, 0, le, inc rf 0, hd, ln, vl), ((-20) - (nI x))) := by show (if (rtT le z N).1 = -1 then _ else _) = _; rw [if_pos r1, r2]
        have m9 : mOk (N, K, b, 0, le, inc rf 0, hd, ln, vl) (6, e, x, u, v1, lm, ol, encK N, lt, lo) := ⟨rfl, hm.2.1, hm.2.2⟩
        exact Go.iret X E dX4_school_103 ⟨by rw [e9], _, by rw [e9]; exact m9, by rw [e9]⟩ rfl
      · --
        obtain ⟨g1, g2, g3, g4⟩ := hg1 h18
        have q8 := rdX_ok (le := le) g3 (stp_ok (le := le) g2)
        refine Go.aload_n X 2 dX4_school_21 rfl ?_
        refine Go.callV0v X (d_next g ad D K b z le rf hd ln vl e x u v1 lm ol (encK N) lt lo (by exact hz) (by exact hb) (by first | omega | (split <;> omega))) cal_X4_next gX4_school_X4_next (ci := 4) (q0 := 0) rfl rfl rfl rfl rfl dX4_school_22 ?_
        have f22_1 := st_le (le := le) (z := z) (e := e) (by omega)
        have f22_2 := tkK_le le z e
        refine Go.aload_n X 2 dX4_school_25 rfl ?_
        have z26 : sOk D := by exact g3
        refine Go.callV0 X (d_statement g ad D K b z le rf hd ln vl (vaS le z e v1) lm ol (encK N) lt lo (skp le z e) (tkE le z e) (tkK le z e) (by exact z26) (by exact hz) (by exact hb) (by exact stp_ok (le := le) g2)) cal_X4_statement gX4_school_X4_statement (ci := 4) (q0 := 0) rfl rfl rfl rfl rfl dX4_school_26 (fun v9 w9 e9 => ?_)
        obtain ⟨rfl, va1_26, rfl⟩ := e9
        show Go Γ g 3 (rmC 6 128) 0 0 (mdW g ad ((rdX le z D ((skp le z e), (tkE le z e), (tkK le z e))).2.1, K, b, z, le, rf, hd, ln, vl) (6, (rdX le z D ((skp le z e), (tkE le z e), (tkK le z e))).2.2.2.1, (rdX le z D ((skp le z e), (tkE le z e), (tkK le z e))).2.2.1, kI (rdX le z D ((skp le z e), (tkE le z e), (tkK le z e))).2.2.2.2, va1_26, lm, ol, encK N, lt, lo)) 29 [(2, .int (b2i gg)), (1, .int (nI m)), (0, .ref (ad 0))] [.int (b2i ((rdX le z D ((skp le z e), (tkE le z e), (tkK le z e))).1))]
        refine Go.istore_n_0 X dX4_school_29 (by decide) rfl ?_
        refine Go.iload_n X 0 dX4_school_30 rfl ?_
        refine Go.if_eqB X 37 dX4_school_31 (by decide) (fun h31 => ?_) (fun h31 => ?_)
        · --
          refine Go.iload_n X 0 dX4_school_37 rfl ?_
          refine Go.if_eqB X 55 dX4_school_38 (by decide) (fun h38 => ?_) (fun h38 => ?_)
          · --
            refine Go.iload_n X 0 dX4_school_55 rfl ?_
            refine Go.if_eqB X 71 dX4_school_56 (by decide) (fun h56 => ?_) (fun h56 => ?_)
            · --
              refine Go.iconst X (nI 0) dX4_school_71 k_ic_0 ?_
              refine Go.istore_n_0 X dX4_school_72 (by decide) rfl ?_
              refine Go.goto X 17 dX4_school_73 (by decide) ?_
              refine Go.lv_0 (show (.int (nI 0) : Value) = .int (b2i false) from by rfl) ?_
              refine Go.conv (M1 := mdW g ad (((rdX le z D ((skp le z e), (tkE le z e), (tkK le z e))).2.1), K, b, z, le, rf, hd, ln, vl) (6, ((rdX le z D ((skp le z e), (tkE le z e), (tkK le z e))).2.2.2.1), ((rdX le z D ((skp le z e), (tkE le z e), (tkK le z e))).2.2.1), (kI (rdX le z D ((skp le z e), (tkE le z e), (tkK le z e))).2.2.2.2), va1_26, lm, ol, encK N, lt, lo)) ?_ (by rfl) rfl rfl
              exact ih17 m ((rdX le z D ((skp le z e), (tkE le z e), (tkK le z e))).2.2.2.1) ((rdX le z D ((skp le z e), (tkE le z e), (tkK le z e))).2.1) false ((rdX le z D ((skp le z e), (tkE le z e), (tkK le z e))).2.2.1) (kI (rdX le z D ((skp le z e), (tkE le z e), (tkK le z e))).2.2.2.2) va1_26 (by intro q; exact absurd q (by decide)) (by intro _; rw [← g4, rtF_f (p := stp le z e) (by omega) h31]; exact ⟨rfl, rfl⟩) (by rw [h18] at hf17; change 1 + (300 - m) < _ at hf17; show 0 + (300 - m) < _; omega)
            · --
              rw [h31] at h56; exact absurd h56 (by decide)
          · --
            rw [h31] at h38; exact absurd h38 (by decide)
        · --
          refine Go.iinc_1 X (nI (m + 1)) dX4_school_34 (by decide) rfl (show nI m + Int32.ofInt 1 = nI (m + 1) from nI_add _ 1) ?_
          refine Go.iload_n X 0 dX4_school_37 rfl ?_
          refine Go.if_eqB X 55 dX4_school_38 (by decide) (fun h38 => ?_) (fun h38 => ?_)
          · --
            rw [h31] at h38; exact absurd h38 (by decide)
          · --
            refine Go.aload_n X 2 dX4_school_41 rfl ?_
            refine Go.get X f_X4_school_133 0 (v := .int (kI (rdX le z D ((skp le z e), (tkE le z e), (tkK le z e))).2.2.2.2)) rfl rfl dX4_school_42 ?_
            refine Go.if_ne X 55 dX4_school_45 (by decide) (fun h45 => ?_) (fun h45 => ?_)
            · --
              refine Go.iload_n X 0 dX4_school_55 rfl ?_
              refine Go.if_eqB X 71 dX4_school_56 (by decide) (fun h56 => ?_) (fun h56 => ?_)
              · --
                rw [h31] at h56; exact absurd h56 (by decide)
              · --
                refine Go.aload_n X 2 dX4_school_59 rfl ?_
                refine Go.get X f_X4_school_133 0 (v := .int (kI (rdX le z D ((skp le z e), (tkE le z e), (tkK le z e))).2.2.2.2)) rfl rfl dX4_school_60 ?_
                refine Go.iconst X (nI 3) dX4_school_63 k_ic_3 ?_
                refine Go.icmp_ne X 71 dX4_school_64 (by decide) (fun h64 => ?_) (fun h64 => ?_)
                · --
                  have k0 : ¬ (rdX le z D (skp le z e, tkE le z e, tkK le z e)).2.2.2.2 = 0 := fun q => h45 ((kI_z q8.2.2.2).mpr q)
                  have k3 : ¬ (rdX le z D (skp le z e, tkE le z e, tkK le z e)).2.2.2.2 = 3 := fun q => h64 ((kI_eq _ q8.2.2.2 3 (by decide)).mpr q)
                  refine Go.iconst X (nI 0) dX4_school_71 k_ic_0 ?_
                  refine Go.istore_n_0 X dX4_school_72 (by decide) rfl ?_
                  refine Go.goto X 17 dX4_school_73 (by decide) ?_
                  refine Go.lv_0 (show (.int (nI 0) : Value) = .int (b2i false) from by rfl) ?_
                  refine Go.conv (M1 := mdW g ad (((rdX le z D ((skp le z e), (tkE le z e), (tkK le z e))).2.1), K, b, z, le, rf, hd, ln, vl) (6, ((rdX le z D ((skp le z e), (tkE le z e), (tkK le z e))).2.2.2.1), ((rdX le z D ((skp le z e), (tkE le z e), (tkK le z e))).2.2.1), (kI (rdX le z D ((skp le z e), (tkE le z e), (tkK le z e))).2.2.2.2), va1_26, lm, ol, encK N, lt, lo)) ?_ (by rfl) rfl rfl
                  exact ih17 (m + 1) ((rdX le z D ((skp le z e), (tkE le z e), (tkK le z e))).2.2.2.1) ((rdX le z D ((skp le z e), (tkE le z e), (tkK le z e))).2.1) false ((rdX le z D ((skp le z e), (tkE le z e), (tkK le z e))).2.2.1) (kI (rdX le z D ((skp le z e), (tkE le z e), (tkK le z e))).2.2.2.2) va1_26 (by intro q; exact absurd q (by decide)) (by intro _; rw [← g4, rtF_n (p := stp le z e) (by omega) h31 k0 k3]; exact ⟨rfl, rfl⟩) (by rw [h18] at hf17; change 1 + (300 - m) < _ at hf17; show 0 + (300 - (m + 1)) < _; omega)
                · --
                  have k3 : (rdX le z D (skp le z e, tkE le z e, tkK le z e)).2.2.2.2 = 3 := (kI_eq _ q8.2.2.2 3 (by decide)).mp h64
                  refine Go.iconst X (nI 1) dX4_school_67 k_ic_1 ?_
                  refine Go.goto X 72 dX4_school_68 (by decide) ?_
                  refine Go.istore_n_0 X dX4_school_72 (by decide) rfl ?_
                  refine Go.goto X 17 dX4_school_73 (by decide) ?_
                  refine Go.lv_0 (show (.int (nI 1) : Value) = .int (b2i true) from by rfl) ?_
                  refine Go.conv (M1 := mdW g ad (((rdX le z D ((skp le z e), (tkE le z e), (tkK le z e))).2.1), K, b, z, le, rf, hd, ln, vl) (6, ((rdX le z D ((skp le z e), (tkE le z e), (tkK le z e))).2.2.2.1), ((rdX le z D ((skp le z e), (tkE le z e), (tkK le z e))).2.2.1), (kI (rdX le z D ((skp le z e), (tkE le z e), (tkK le z e))).2.2.2.2), va1_26, lm, ol, encK N, lt, lo)) ?_ (by rfl) rfl rfl
                  exact ih17 (m + 1) ((rdX le z D ((skp le z e), (tkE le z e), (tkK le z e))).2.2.2.1) ((rdX le z D ((skp le z e), (tkE le z e), (tkK le z e))).2.1) true ((rdX le z D ((skp le z e), (tkE le z e), (tkK le z e))).2.2.1) (kI (rdX le z D ((skp le z e), (tkE le z e), (tkK le z e))).2.2.2.2) va1_26 (by intro _; have q := rt_go g2 g1 h31 k3; exact ⟨q.1, q.2, q8.1, by rw [← g4, rtF_s (p := stp le z e) (by omega) h31 (fun q9 => absurd (k3.symm.trans q9) (by decide)) k3]; rfl⟩) (by intro q; exact absurd q (by decide)) (by rw [h18] at hf17; change 1 + (300 - m) < _ at hf17; show 1 + (300 - (m + 1)) < _; omega)
            · --
              refine Go.aload_n X 2 dX4_school_48 rfl ?_
              have k0 : (rdX le z D (skp le z e, tkE le z e, tkK le z e)).2.2.2.2 = 0 := (kI_z q8.2.2.2).mp h45
              refine Go.iconst X (nI 0) dX4_school_49 k_ic_0 ?_
              refine Go.putM X f_X4_school_124 fp_4_15 0 (mdW g ad ((rdX le z D ((skp le z e), (tkE le z e), (tkK le z e))).2.1, K, b, 0, le, rf, hd, ln, vl) (6, (rdX le z D ((skp le z e), (tkE le z e), (tkK le z e))).2.2.2.1, (rdX le z D ((skp le z e), (tkE le z e), (tkK le z e))).2.2.1, kI (rdX le z D ((skp le z e), (tkE le z e), (tkK le z e))).2.2.2.2, va1_26, lm, ol, encK N, lt, lo)) rfl rfl rfl rfl dX4_school_50 rfl ?_
              refine Go.iload_n X 1 dX4_school_53 rfl ?_
              have e9 : x_school (N, K, b, z, le, rf, hd, ln, vl) = (((rdX le z D ((skp le z e), (tkE le z e), (tkK le z e))).2.1, K, b, 0, le, rf, hd, ln, vl), (nI (m + 1))) := by have r : rtT le z N = (nI (m + 1), (rdX le z D (skp le z e, tkE le z e, tkK le z e)).2) := (by rw [← g4]; exact rtF_e (p := stp le z e) (by omega) h31 k0); show (if (rtT le z N).1 = -1 then _ else _) = _; rw [if_neg (by rw [r]; exact fun q => m1_ne (by omega) q.symm), r]
              have m9 : mOk ((rdX le z D ((skp le z e), (tkE le z e), (tkK le z e))).2.1, K, b, 0, le, rf, hd, ln, vl) (6, (rdX le z D ((skp le z e), (tkE le z e), (tkK le z e))).2.2.2.1, (rdX le z D ((skp le z e), (tkE le z e), (tkK le z e))).2.2.1, kI (rdX le z D ((skp le z e), (tkE le z e), (tkK le z e))).2.2.2.2, va1_26, lm, ol, encK N, lt, lo) := ⟨rfl, hm.2.1, hm.2.2⟩
              exact Go.iret X E dX4_school_54 ⟨by rw [e9], _, by rw [e9]; exact m9, by rw [e9]⟩ rfl
  refine Go.lv_0 (show (.int (nI 1) : Value) = .int (b2i true) from by rfl) ?_
  refine Go.conv (M1 := mdW g ad (N, K, b, z, le, rf, hd, ln, vl) (6, 0, tk, so, va, lm, ol, encK N, lt, lo)) ?_ (by rfl) rfl rfl
  exact L17 (true.toNat + (300 - 0) + 1) 0 0 N true tk so va (by intro _; exact ⟨Nat.le_refl _, Nat.zero_le _, hN, rfl⟩) (by intro q; exact absurd q (by decide)) (Nat.lt_succ_self _)
