/-! ## the law: its loop -/
/-- the loop goes on from the end of its body -/
def NXl (k : KX) (v : VV) (cj cp ou e ce sl : Nat) : Prop := ∀ {P : Nat → S9} {n : Nat} {lo hi : Nat → Nat} {H H' : Nat → HE9} {c c' : Nat} {tx tx' : Nat → Nat} {w u : va_W} {f : Nat → Int32} {ce' sl' : Nat}, IC9 v cj P n lo hi H c tx 0 w → IC9 v cp P n lo hi H' c' tx' 0 u → WF P n → AsW lo hi → ce' ≤ ce + 4 → sl' ≤ sl + 24 → GG k ce' sl' [w, u, cOi v ou f] [(4, .int (nI e)), (0, .ref (v.2.2.2 900)), (1, .ref cj), (2, .ref cp), (3, .ref ou)] 247 []
set_option maxHeartbeats 4000000 in
set_option maxRecDepth 100000 in
theorem law_tail {k : KX} {l : Launch} {v : VV} {cj cp ou e c0 s0 ce sl : Nat} {x : Int32} (X : CX k l v cL_law "ClaimJudgeLaw" room_1 10) (hst : l.stackTraces = false) (hL9 : v.2.2.1 900 ≤ 260) {P : Nat → S9} {n : Nat} {lo hi : Nat → Nat} {H H' : Nat → HE9} {c c' : Nat} {tx tx' : Nat → Nat} {w9 u9 : va_W} {f : Nat → Int32} (hC : IC9 v cj P n lo hi H c tx 0 w9) (hD : IC9 v cp P n lo hi H' c' tx' 0 u9) (hW : WF P n) (hL : AsW lo hi) (h1 : ce ≤ c0 + 3) (h2 : sl ≤ s0 + 18) (h3 : c0 ≤ 600000) (h4 : s0 ≤ 7300000) (KN : NXl k v cj cp ou e c0 s0) : GG k ce sl [w9, u9, cOi v ou f] [(5, .int x), (4, .int (nI e)), (0, .ref (v.2.2.2 900)), (1, .ref cj), (2, .ref cp), (3, .ref ou)] 196 [] := by
  refine g_aload_n X dL_law_196 3 rfl rfl ?_
  refine g_iload X dL_law_197 0 rfl ?_
  refine g_iconst (x := nI 5) X dL_law_199 (by decide +kernel) ?_
  refine g_ishr X dL_law_200 ?_
  refine g_sipush (x := nI 512) X dL_law_201 (by decide +kernel) ?_
  refine g_callS (As := [.int (x >>> ((nI 5) &&& 31)), .int (nI 512)]) (rest := [.ref cj]) (wr := [w9, u9, cOi v ou f]) X (c_L_low l v (x >>> ((nI 5) &&& 31)) 512 (by omega) (by omega)) f_L_low q_4_22 dL_law_204 [] [0, 1, 2] rfl rfl (by decide) rfl rfl (Nat.le_of_ble_eq_true rfl) ⟨rfl, rfl, by decide +kernel, by decide +kernel, (by show _ ≤ 600104; omega), (by show _ ≤ 7301314; omega)⟩ (fun r_ w_ hp1 => ?_)
  obtain ⟨rfl, rfl⟩ := hp1
  have hl204 := low9_lt (x >>> ((nI 5) &&& 31)) (m := 512) (by omega)
  show GG k _ _ [w9, u9, cOi v ou f] _ _ [.int (nI (low9 (x >>> ((nI 5) &&& 31)) 512)), .ref cj]
  refine g_callS (As := [.ref cj, .int (nI (low9 (x >>> ((nI 5) &&& 31)) 512))]) (rest := []) (wr := [u9, cOi v ou f]) X (c_L_areRunsSo l v cj (low9 (x >>> ((nI 5) &&& 31)) 512) hC hW hL (by omega)) f_L_areRunsSo q_22_2 dL_law_207 [0] [1, 2] rfl rfl (by decide) rfl rfl (Nat.le_of_ble_eq_true rfl) ⟨rfl, rfl, by decide +kernel, by decide +kernel, (by show _ ≤ 600104; omega), (by show _ ≤ 7301314; omega)⟩ (fun r_ w_ hp3 => ?_)
  obtain ⟨rfl, wk2, hCk2, rfl⟩ := hp3
  show GG k _ _ [wk2, u9, cOi v ou f] _ _ [.int (nI 1)]
  refine g_if_eqN (tgt := 245) X dL_law_210 (by decide) (by omega) (fun c210 => ?_) (fun c210 => ?_)
  · exact absurd c210 (by decide)
  · refine g_aload_n X dL_law_213 3 rfl rfl ?_
    refine g_callS (As := [.ref cj]) (rest := []) (wr := [u9, cOi v ou f]) X (c_L_areClaimsSo l v cj hCk2 hW hL) f_L_areClaimsSo q_23_4 dL_law_214 [0] [1, 2] rfl rfl (by decide) rfl rfl (Nat.le_of_ble_eq_true rfl) ⟨rfl, rfl, by decide +kernel, by decide +kernel, (by show _ ≤ 600104; omega), (by show _ ≤ 7301314; omega)⟩ (fun r_ w_ hp5 => ?_)
    obtain ⟨rfl, wk4, hCk4, rfl⟩ := hp5
    show GG k _ _ [wk4, u9, cOi v ou f] _ _ [.int (nI 1)]
    refine g_if_eqN (tgt := 245) X dL_law_217 (by decide) (by omega) (fun c217 => ?_) (fun c217 => ?_)
    · exact absurd c217 (by decide)
    · refine g_aload_n X dL_law_220 3 rfl rfl ?_
      refine g_iload X dL_law_221 0 rfl ?_
      refine g_bipush (x := nI 7) X dL_law_223 (by decide +kernel) ?_
      refine g_ishr X dL_law_225 ?_
      refine g_iconst (x := nI 3) X dL_law_226 (by decide +kernel) ?_
      refine g_callS (As := [.int (x >>> ((nI 7) &&& 31)), .int (nI 3)]) (rest := [.ref cj]) (wr := [wk4, u9, cOi v ou f]) X (c_L_low l v (x >>> ((nI 7) &&& 31)) 3 (by omega) (by omega)) f_L_low q_4_22 dL_law_227 [] [0, 1, 2] rfl rfl (by decide) rfl rfl (Nat.le_of_ble_eq_true rfl) ⟨rfl, rfl, by decide +kernel, by decide +kernel, (by show _ ≤ 600104; omega), (by show _ ≤ 7301314; omega)⟩ (fun r_ w_ hp6 => ?_)
      obtain ⟨rfl, rfl⟩ := hp6
      have hl227 := low9_lt (x >>> ((nI 7) &&& 31)) (m := 3) (by omega)
      show GG k _ _ [wk4, u9, cOi v ou f] _ _ [.int (nI (low9 (x >>> ((nI 7) &&& 31)) 3)), .ref cj]
      refine g_aload_n X dL_law_230 5 rfl rfl ?_
      refine g_callS (As := [.ref cj, .int (nI (low9 (x >>> ((nI 7) &&& 31)) 3)), .ref ou]) (rest := []) (wr := [u9]) X (c_L_isWidestSo l v cj ou (low9 (x >>> ((nI 7) &&& 31)) 3) f hst (by omega) hCk4 hW hL) f_L_isWidestSo q_23_7 dL_law_231 [0, 2] [1] rfl rfl (by decide) rfl rfl (Nat.le_of_ble_eq_true rfl) ⟨rfl, rfl, by decide +kernel, by decide +kernel, (by show _ ≤ 600104; omega), (by show _ ≤ 7301314; omega)⟩ (fun r_ w_ hp8 => ?_)
      obtain ⟨rfl, wk7, fk7, Hk7, ck7, txk7, hCk7, rfl⟩ := hp8
      show GG k _ _ [wk7, cOi v ou fk7, u9] _ _ [.int (nI 1)]
      refine g_pick (cs' := [wk7, u9, cOi v ou fk7]) [0, 2, 1] rfl rfl ?_
      refine g_if_eqN (tgt := 245) X dL_law_234 (by decide) (by omega) (fun c234 => ?_) (fun c234 => ?_)
      · exact absurd c234 (by decide)
      · refine g_aload_n X dL_law_237 3 rfl rfl ?_
        refine g_aload_n X dL_law_238 4 rfl rfl ?_
        refine g_callS (As := [.ref cj, .ref cp]) (rest := []) (wr := [cOi v ou fk7]) X (c_L_areAlike l v cj cp hCk7 hD hW hL) f_L_areAlike q_16_8 dL_law_239 [0, 1] [2] rfl rfl (by decide) rfl rfl (Nat.le_of_ble_eq_true rfl) ⟨rfl, rfl, by decide +kernel, by decide +kernel, (by show _ ≤ 600104; omega), (by show _ ≤ 7301314; omega)⟩ (fun r_ w_ hp10 => ?_)
        obtain ⟨rfl, wk9, uk9, hCk9, hDk9, rfl⟩ := hp10
        obtain ⟨fsk9, hqk9⟩ := IC9_hd hCk9
        obtain ⟨gsk9, hrk9⟩ := IC9_hd hDk9
        show GG k _ _ [wk9, uk9, cOi v ou fk7] _ _ [.int (nI 1)]
        refine g_if_neN (tgt := 247) X dL_law_242 (by decide) (by omega) (fun c242 => ?_) (fun c242 => ?_)
        · refine g_lv (lv' := [(4, .int (nI e)), (0, .ref (v.2.2.2 900)), (1, .ref cj), (2, .ref cp), (3, .ref ou)]) [1, 2, 3, 4, 5] rfl ?_
          exact KN hCk9 hDk9 hW hL (by omega) (by omega)
        · exact absurd c242 (by decide)

set_option maxHeartbeats 4000000 in
set_option maxRecDepth 100000 in
theorem law_body {k : KX} {l : Launch} {v : VV} {cj cp ou e ce sl : Nat} (X : CX k l v cL_law "ClaimJudgeLaw" room_1 10) (hst : l.stackTraces = false) (hL9 : v.2.2.1 900 ≤ 260) {P : Nat → S9} {n : Nat} {lo hi : Nat → Nat} {H H' : Nat → HE9} {c c' : Nat} {tx tx' : Nat → Nat} {w9 u9 : va_W} {f : Nat → Int32} (hC : IC9 v cj P n lo hi H c tx 0 w9) (hD : IC9 v cp P n lo hi H' c' tx' 0 u9) (hW : WF P n) (hL : AsW lo hi) (he : e < 12) (h3 : ce ≤ 600000) (h4 : sl ≤ 7300000) (KN : NXl k v cj cp ou e ce sl) : GG k ce sl [w9, u9, cOi v ou f] [(4, .int (nI e)), (0, .ref (v.2.2.2 900)), (1, .ref cj), (2, .ref cp), (3, .ref ou)] 30 [] := by
  obtain ⟨fs9, hq⟩ := IC9_hd hC
  obtain ⟨gs9, hr⟩ := IC9_hd hD
  have hT6 := (IC9_T hC).2
  have hcu := hC9_rng c hT6
  obtain ⟨x, hx⟩ : ∃ x, cl9 v (5 * e) = x := ⟨_, rfl⟩
  obtain ⟨R, hR⟩ : ∃ R, acT v e (P, n, lo, hi) = R := ⟨_, rfl⟩
  have hR4 : R.1 < 4 := by rw [← hR]; exact ac_rng
  have hRW : WF R.2.1.1 R.2.1.2.1 ∧ AsW R.2.1.2.2.1 R.2.1.2.2.2 := by rw [← hR]; exact ac_WF hW hL
  refine g_aload_n X dL_law_30 1 rfl rfl ?_
  refine g_iconst (x := nI 5) X dL_law_31 (by decide +kernel) ?_
  refine g_iload X dL_law_32 0 rfl ?_
  refine g_imulN X dL_law_34 ?_
  refine g_callS (As := [.ref (v.2.2.2 900), .int (nI (5 * e))]) (rest := []) (wr := [w9, u9, cOi v ou f]) X (c_L_cell l v (5 * e) (by omega) hL9) f_L_cell q_4_11 dL_law_35 [] [0, 1, 2] rfl rfl (by decide) rfl rfl (Nat.le_of_ble_eq_true rfl) ⟨rfl, rfl, by decide +kernel, by decide +kernel, (by show _ ≤ 600104; omega), (by show _ ≤ 7301314; omega)⟩ (fun r_ w_ hp1 => ?_)
  obtain ⟨rfl, rfl⟩ := hp1
  show GG k _ _ [w9, u9, cOi v ou f] _ _ [.int (cl9 v (5 * e))]
  refine g_v (y := x) (hx) ?_
  refine g_istore (lv' := [(5, .int x), (4, .int (nI e)), (0, .ref (v.2.2.2 900)), (1, .ref cj), (2, .ref cp), (3, .ref ou)]) X dL_law_38 (by decide) rfl ?_
  refine g_aload_n X dL_law_40 3 rfl rfl ?_
  refine g_callV (As := []) (rest := []) (wr := [u9, cOi v ou f]) X (Cc_X6_savedStates l v cj hC hW hL ) f_X6_savedStates q_4_15 dL_law_41 [0] [1, 2] rfl rfl (by decide) 0 hq rfl rfl rfl (Nat.le_of_ble_eq_true rfl) ⟨rfl, rfl, by decide +kernel, by decide +kernel, (by show _ ≤ 600104; omega), (by show _ ≤ 7301314; omega)⟩ (fun r_ w_ hp3 => ?_)
  obtain ⟨rfl, wk2, hCk2, rfl⟩ := hp3
  obtain ⟨fsk2, hqk2⟩ := IC9_hd hCk2
  show GG k _ _ [wk2, u9, cOi v ou f] _ _ [.int (nI c)]
  refine g_istore (lv' := [(6, .int (nI c)), (5, .int x), (4, .int (nI e)), (0, .ref (v.2.2.2 900)), (1, .ref cj), (2, .ref cp), (3, .ref ou)]) X dL_law_44 (by decide) rfl ?_
  refine g_aload_n X dL_law_46 4 rfl rfl ?_
  refine g_aload_n X dL_law_47 3 rfl rfl ?_
  refine g_iload X dL_law_48 2 rfl ?_
  refine g_aload_n X dL_law_50 6 rfl rfl ?_
  refine g_callS (As := [.ref cj, .ref (v.2.2.2 900), .int (nI e), .ref ou]) (rest := []) (wr := [u9]) X (c_L_act l v cj ou e f hst hL9 he hCk2 hW hL) f_L_act q_4_19 dL_law_51 [0, 2] [1] rfl rfl (by decide) rfl rfl (Nat.le_of_ble_eq_true rfl) ⟨rfl, rfl, by decide +kernel, by decide +kernel, (by show _ ≤ 600104; omega), (by show _ ≤ 7301314; omega)⟩ (fun r_ w_ hp5 => ?_)
  rw [hR] at hp5
  obtain ⟨rfl, wk4, fk4, hAk4, rfl⟩ := hp5
  show GG k _ _ [wk4, cOi v ou fk4, u9] _ _ [.int (nI R.1)]
  refine g_pick (cs' := [wk4, u9, cOi v ou fk4]) [0, 2, 1] rfl rfl ?_
  refine g_istore (lv' := [(7, .int (nI R.1)), (6, .int (nI c)), (5, .int x), (4, .int (nI e)), (0, .ref (v.2.2.2 900)), (1, .ref cj), (2, .ref cp), (3, .ref ou)]) X dL_law_54 (by decide) rfl ?_
  refine g_aload_n X dL_law_56 7 rfl rfl ?_
  refine g_iconst (x := nI 0) X dL_law_57 (by decide +kernel) ?_
  refine g_iald X dL_law_58 2 0 rfl rfl (by omega) (by omega) ?_
  refine g_istore (lv' := [(8, .int (fk4 0)), (7, .int (nI R.1)), (6, .int (nI c)), (5, .int x), (4, .int (nI e)), (0, .ref (v.2.2.2 900)), (1, .ref cj), (2, .ref cp), (3, .ref ou)]) X dL_law_59 (by decide) rfl ?_
  refine g_iload X dL_law_61 1 rfl ?_
  refine g_bipush (x := nI 9) X dL_law_63 (by decide +kernel) ?_
  refine g_icmp_eqN (tgt := 90) X dL_law_65 (by decide) (by omega) (by omega) (fun c65 => ?_) (fun c65 => ?_)
  · exact absurd c65 (by omega)
  · refine g_iload X dL_law_68 1 rfl ?_
    refine g_if_eqN (tgt := 92) X dL_law_70 (by decide) (by omega) (fun c70 => ?_) (fun c70 => ?_)
    · have hz := c70
      obtain ⟨txk4, hBk4, hfk4⟩ := hAk4.1 hz
      have hBk4 : IC9 v cj R.2.1.1 R.2.1.2.1 R.2.1.2.2.1 R.2.1.2.2.2 (hS9 H c (P, n, lo, hi)) (hC9 c) txk4 0 wk4 := hBk4
      obtain ⟨fyk4, hyk4⟩ := IC9_hd hBk4
      have j160 : ∀ (w6 : va_W) (fs6 : List Value) (H6 : Nat → HE9) (c6 : Nat) (tx6 : Nat → Nat) (f6 : Nat → Int32) (u6 : va_W) (gs6 : List Value) (hD6 : IC9 v cp P n lo hi H' c' tx' 0 u6) (hr6 : ([u6] : List va_W).flatten[0]? = some (cp, .inr (6, gs6))) (hC6 : IC9 v cj R.2.1.1 R.2.1.2.1 R.2.1.2.2.1 R.2.1.2.2.2 H6 c6 tx6 0 w6) (hq6 : ([w6] : List va_W).flatten[0]? = some (cj, .inr (6, fs6))), GG k (ce + 2) (sl + 12) [w6, u6, cOi v ou f6] [(8, .int (fk4 0)), (7, .int (nI R.1)), (6, .int (nI c)), (5, .int x), (4, .int (nI e)), (0, .ref (v.2.2.2 900)), (1, .ref cj), (2, .ref cp), (3, .ref ou)] 160 [] := by
        intro w6 fs6 H6 c6 tx6 f6 u6 gs6 hD6 hr6 hC6 hq6
        refine g_aload_n X dL_law_160 7 rfl rfl ?_
        refine g_aload_n X dL_law_161 5 rfl rfl ?_
        refine g_iload X dL_law_162 4 rfl ?_
        refine g_aload_n X dL_law_164 8 rfl rfl ?_
        refine g_callS (As := [.ref cp, .ref (v.2.2.2 900), .int (nI e), .ref ou]) (rest := []) (wr := [w6]) X (c_L_act l v cp ou e f6 hst hL9 he hD6 hW hL) f_L_act q_4_19 dL_law_165 [1, 2] [0] rfl rfl (by decide) rfl rfl (Nat.le_of_ble_eq_true rfl) ⟨rfl, rfl, by decide +kernel, by decide +kernel, (by show _ ≤ 600104; omega), (by show _ ≤ 7301314; omega)⟩ (fun r_ w_ hp7 => ?_)
        rw [hR] at hp7
        obtain ⟨rfl, wk6, fk6, hAk6, rfl⟩ := hp7
        show GG k _ _ [wk6, cOi v ou fk6, w6] _ _ [.int (nI R.1)]
        refine g_pick (cs' := [w6, wk6, cOi v ou fk6]) [2, 0, 1] rfl rfl ?_
        refine g_iload X dL_law_168 1 rfl ?_
        refine g_icmp_ne (tgt := 194) X dL_law_170 (by decide) (fun c170 => ?_) (fun c170 => ?_)
        · exact absurd rfl c170
        · obtain ⟨txk6, hBk6, hfk6⟩ := hAk6.1 hz
          have hBk6 : IC9 v cp R.2.1.1 R.2.1.2.1 R.2.1.2.2.1 R.2.1.2.2.2 (hS9 H' c' (P, n, lo, hi)) (hC9 c') txk6 0 wk6 := hBk6
          obtain ⟨fyk6, hyk6⟩ := IC9_hd hBk6
          refine g_iload X dL_law_173 1 rfl ?_
          refine g_if_neN (tgt := 186) X dL_law_175 (by decide) (by omega) (fun c175 => ?_) (fun c175 => ?_)
          · exact absurd hz c175
          · refine g_aload_n X dL_law_178 8 rfl rfl ?_
            refine g_iconst (x := nI 0) X dL_law_179 (by decide +kernel) ?_
            refine g_iald X dL_law_180 2 0 rfl rfl (by omega) (by omega) ?_
            refine g_iload X dL_law_181 0 rfl ?_
            refine g_icmp_ne (tgt := 194) X dL_law_183 (by decide) (fun c183 => ?_) (fun c183 => ?_)
            · exact absurd (hfk6.trans hfk4.symm) c183
            · refine g_aload_n X dL_law_186 6 rfl rfl ?_
              refine g_aload_n X dL_law_187 7 rfl rfl ?_
              refine g_callS (As := [.ref cj, .ref cp]) (rest := []) (wr := [cOi v ou fk6]) X (c_L_areAlike l v cj cp hC6 hBk6 hRW.1 hRW.2) f_L_areAlike q_16_8 dL_law_188 [0, 1] [2] rfl rfl (by decide) rfl rfl (Nat.le_of_ble_eq_true rfl) ⟨rfl, rfl, by decide +kernel, by decide +kernel, (by show _ ≤ 600104; omega), (by show _ ≤ 7301314; omega)⟩ (fun r_ w_ hp9 => ?_)
              obtain ⟨rfl, wk8, uk8, hCk8, hDk8, rfl⟩ := hp9
              obtain ⟨fsk8, hqk8⟩ := IC9_hd hCk8
              obtain ⟨gsk8, hrk8⟩ := IC9_hd hDk8
              show GG k _ _ [wk8, uk8, cOi v ou fk6] _ _ [.int (nI 1)]
              refine g_if_neN (tgt := 196) X dL_law_191 (by decide) (by omega) (fun c191 => ?_) (fun c191 => ?_)
              · refine g_lv (lv' := [(5, .int x), (4, .int (nI e)), (0, .ref (v.2.2.2 900)), (1, .ref cj), (2, .ref cp), (3, .ref ou)]) [3, 4, 5, 6, 7, 8] rfl ?_
                exact law_tail X hst hL9 hCk8 hDk8 hRW.1 hRW.2 (by omega) (by omega) h3 h4 KN
              · exact absurd c191 (by decide)
      refine g_iload X dL_law_92 1 rfl ?_
      refine g_if_neN (tgt := 160) X dL_law_94 (by decide) (by omega) (fun c94 => ?_) (fun c94 => ?_)
      · exact absurd hz c94
      · refine g_iload X dL_law_97 3 rfl ?_
        refine g_bipush (x := nI 9) X dL_law_99 (by decide +kernel) ?_
        refine g_ishr X dL_law_101 ?_
        refine g_iconst (x := nI 1) X dL_law_102 (by decide +kernel) ?_
        refine g_iand X dL_law_103 ?_
        refine g_if_ne (tgt := 160) X dL_law_104 (by decide) (fun c104 => ?_) (fun c104 => ?_)
        · refine g_widen (c2 := ce + 2) (s2 := sl + 12) (by omega) (by omega) ?_
          exact j160 wk4 _ _ _ _ fk4 u9 _ hD hr hBk4 hyk4
        · refine g_aload_n X dL_law_107 6 rfl rfl ?_
          refine g_callV (As := []) (rest := []) (wr := [u9, cOi v ou fk4]) X (Cu_X6_undo l v cj hBk4 hRW.1 hRW.2 hT6) f_X6_undo q_21_18 dL_law_108 [0] [1, 2] rfl rfl (by decide) 0 hyk4 rfl rfl rfl (Nat.le_of_ble_eq_true rfl) ⟨rfl, rfl, by decide +kernel, by decide +kernel, (by show _ ≤ 600104; omega), (by show _ ≤ 7301314; omega)⟩ (fun r_ w_ hp11 => ?_)
          obtain ⟨rfl, wk10, hCk10, rfl⟩ := hp11
          obtain ⟨fsk10, hqk10⟩ := IC9_hd hCk10
          show GG k _ _ [wk10, u9, cOi v ou fk4] _ _ [.int (nI (hC9 c - 1))]
          refine g_istore (lv' := [(9, .int (nI (hC9 c - 1))), (8, .int (fk4 0)), (7, .int (nI R.1)), (6, .int (nI c)), (5, .int x), (4, .int (nI e)), (0, .ref (v.2.2.2 900)), (1, .ref cj), (2, .ref cp), (3, .ref ou)]) X dL_law_111 (by decide) rfl ?_
          refine g_iload X dL_law_113 0 rfl ?_
          refine g_iload X dL_law_115 3 rfl ?_
          refine g_bipush (x := nI 6) X dL_law_117 (by decide +kernel) ?_
          refine g_icmp_neN (tgt := 126) X dL_law_119 (by decide) (by omega) (by omega) (fun c119 => ?_) (fun c119 => ?_)
          · refine g_iload X dL_law_126 3 rfl ?_
            refine g_icmp_neN (tgt := 158) X dL_law_128 (by decide) (by omega) (by omega) (fun c128 => ?_) (fun c128 => ?_)
            · exact absurd (hcu.2.2.trans (if_neg c119)) c128
            · refine g_aload_n X dL_law_131 7 rfl rfl ?_
              refine g_aload_n X dL_law_132 8 rfl rfl ?_
              refine g_callS (As := [.ref cj, .ref cp]) (rest := []) (wr := [cOi v ou fk4]) X (c_L_areAlike l v cj cp hCk10 hD hW hL) f_L_areAlike q_16_8 dL_law_133 [0, 1] [2] rfl rfl (by decide) rfl rfl (Nat.le_of_ble_eq_true rfl) ⟨rfl, rfl, by decide +kernel, by decide +kernel, (by show _ ≤ 600104; omega), (by show _ ≤ 7301314; omega)⟩ (fun r_ w_ hp13 => ?_)
              obtain ⟨rfl, wk12, uk12, hCk12, hDk12, rfl⟩ := hp13
              obtain ⟨fsk12, hqk12⟩ := IC9_hd hCk12
              obtain ⟨gsk12, hrk12⟩ := IC9_hd hDk12
              show GG k _ _ [wk12, uk12, cOi v ou fk4] _ _ [.int (nI 1)]
              refine g_if_eqN (tgt := 158) X dL_law_136 (by decide) (by omega) (fun c136 => ?_) (fun c136 => ?_)
              · exact absurd c136 (by decide)
              · refine g_aload_n X dL_law_139 7 rfl rfl ?_
                refine g_aload_n X dL_law_140 6 rfl rfl ?_
                refine g_iload X dL_law_141 5 rfl ?_
                refine g_aload_n X dL_law_143 9 rfl rfl ?_
                refine g_callS (As := [.ref cj, .ref (v.2.2.2 900), .int (nI e), .ref ou]) (rest := []) (wr := [uk12]) X (c_L_act l v cj ou e fk4 hst hL9 he hCk12 hW hL) f_L_act q_4_19 dL_law_144 [0, 2] [1] rfl rfl (by decide) rfl rfl (Nat.le_of_ble_eq_true rfl) ⟨rfl, rfl, by decide +kernel, by decide +kernel, (by show _ ≤ 600104; omega), (by show _ ≤ 7301314; omega)⟩ (fun r_ w_ hp15 => ?_)
                rw [hR] at hp15
                obtain ⟨rfl, wk14, fk14, hAk14, rfl⟩ := hp15
                show GG k _ _ [wk14, cOi v ou fk14, uk12] _ _ [.int (nI R.1)]
                refine g_pick (cs' := [wk14, uk12, cOi v ou fk14]) [0, 2, 1] rfl rfl ?_
                refine g_if_neN (tgt := 158) X dL_law_147 (by decide) (by omega) (fun c147 => ?_) (fun c147 => ?_)
                · exact absurd hz c147
                · obtain ⟨txk14, hBk14, hfk14⟩ := hAk14.1 hz
                  have hBk14 : IC9 v cj R.2.1.1 R.2.1.2.1 R.2.1.2.2.1 R.2.1.2.2.2 (hS9 (hS9 H c (P, n, lo, hi)) (hC9 c - 1) (P, n, lo, hi)) (hC9 (hC9 c - 1)) txk14 0 wk14 := hBk14
                  obtain ⟨fyk14, hyk14⟩ := IC9_hd hBk14
                  refine g_aload_n X dL_law_150 9 rfl rfl ?_
                  refine g_iconst (x := nI 0) X dL_law_151 (by decide +kernel) ?_
                  refine g_iald X dL_law_152 2 0 rfl rfl (by omega) (by omega) ?_
                  refine g_iload X dL_law_153 1 rfl ?_
                  refine g_icmp_eq (tgt := 160) X dL_law_155 (by decide) (fun c155 => ?_) (fun c155 => ?_)
                  · refine g_lv (lv' := [(8, .int (fk4 0)), (7, .int (nI R.1)), (6, .int (nI c)), (5, .int x), (4, .int (nI e)), (0, .ref (v.2.2.2 900)), (1, .ref cj), (2, .ref cp), (3, .ref ou)]) [1, 2, 3, 4, 5, 6, 7, 8, 9] rfl ?_
                    exact j160 wk14 _ _ _ _ fk14 uk12 _ hDk12 hrk12 hBk14 hyk14
                  · exact absurd (hfk14.trans hfk4.symm) c155
          · refine g_iconst (x := nI 5) X dL_law_122 (by decide +kernel) ?_
            refine g_goto (tgt := 128) X dL_law_123 (by decide) ?_
            refine g_icmp_neN (tgt := 158) X dL_law_128 (by decide) (by omega) (by omega) (fun c128 => ?_) (fun c128 => ?_)
            · exact absurd (hcu.2.2.trans (if_pos c119)) c128
            · refine g_aload_n X dL_law_131 7 rfl rfl ?_
              refine g_aload_n X dL_law_132 8 rfl rfl ?_
              refine g_callS (As := [.ref cj, .ref cp]) (rest := []) (wr := [cOi v ou fk4]) X (c_L_areAlike l v cj cp hCk10 hD hW hL) f_L_areAlike q_16_8 dL_law_133 [0, 1] [2] rfl rfl (by decide) rfl rfl (Nat.le_of_ble_eq_true rfl) ⟨rfl, rfl, by decide +kernel, by decide +kernel, (by show _ ≤ 600104; omega), (by show _ ≤ 7301314; omega)⟩ (fun r_ w_ hp17 => ?_)
              obtain ⟨rfl, wk16, uk16, hCk16, hDk16, rfl⟩ := hp17
              obtain ⟨fsk16, hqk16⟩ := IC9_hd hCk16
              obtain ⟨gsk16, hrk16⟩ := IC9_hd hDk16
              show GG k _ _ [wk16, uk16, cOi v ou fk4] _ _ [.int (nI 1)]
              refine g_if_eqN (tgt := 158) X dL_law_136 (by decide) (by omega) (fun c136 => ?_) (fun c136 => ?_)
              · exact absurd c136 (by decide)
              · refine g_aload_n X dL_law_139 7 rfl rfl ?_
                refine g_aload_n X dL_law_140 6 rfl rfl ?_
                refine g_iload X dL_law_141 5 rfl ?_
                refine g_aload_n X dL_law_143 9 rfl rfl ?_
                refine g_callS (As := [.ref cj, .ref (v.2.2.2 900), .int (nI e), .ref ou]) (rest := []) (wr := [uk16]) X (c_L_act l v cj ou e fk4 hst hL9 he hCk16 hW hL) f_L_act q_4_19 dL_law_144 [0, 2] [1] rfl rfl (by decide) rfl rfl (Nat.le_of_ble_eq_true rfl) ⟨rfl, rfl, by decide +kernel, by decide +kernel, (by show _ ≤ 600104; omega), (by show _ ≤ 7301314; omega)⟩ (fun r_ w_ hp19 => ?_)
                rw [hR] at hp19
                obtain ⟨rfl, wk18, fk18, hAk18, rfl⟩ := hp19
                show GG k _ _ [wk18, cOi v ou fk18, uk16] _ _ [.int (nI R.1)]
                refine g_pick (cs' := [wk18, uk16, cOi v ou fk18]) [0, 2, 1] rfl rfl ?_
                refine g_if_neN (tgt := 158) X dL_law_147 (by decide) (by omega) (fun c147 => ?_) (fun c147 => ?_)
                · exact absurd hz c147
                · obtain ⟨txk18, hBk18, hfk18⟩ := hAk18.1 hz
                  have hBk18 : IC9 v cj R.2.1.1 R.2.1.2.1 R.2.1.2.2.1 R.2.1.2.2.2 (hS9 (hS9 H c (P, n, lo, hi)) (hC9 c - 1) (P, n, lo, hi)) (hC9 (hC9 c - 1)) txk18 0 wk18 := hBk18
                  obtain ⟨fyk18, hyk18⟩ := IC9_hd hBk18
                  refine g_aload_n X dL_law_150 9 rfl rfl ?_
                  refine g_iconst (x := nI 0) X dL_law_151 (by decide +kernel) ?_
                  refine g_iald X dL_law_152 2 0 rfl rfl (by omega) (by omega) ?_
                  refine g_iload X dL_law_153 1 rfl ?_
                  refine g_icmp_eq (tgt := 160) X dL_law_155 (by decide) (fun c155 => ?_) (fun c155 => ?_)
                  · refine g_lv (lv' := [(8, .int (fk4 0)), (7, .int (nI R.1)), (6, .int (nI c)), (5, .int x), (4, .int (nI e)), (0, .ref (v.2.2.2 900)), (1, .ref cj), (2, .ref cp), (3, .ref ou)]) [1, 2, 3, 4, 5, 6, 7, 8, 9] rfl ?_
                    exact j160 wk18 _ _ _ _ fk18 uk16 _ hDk16 hrk16 hBk18 hyk18
                  · exact absurd (hfk18.trans hfk4.symm) c155
    · have hz := c70
      obtain ⟨txk4, hBk4⟩ := hAk4.2 hz
      have hBk4 : IC9 v cj P n lo hi H c txk4 0 wk4 := hBk4
      obtain ⟨fyk4, hyk4⟩ := IC9_hd hBk4
      refine g_aload_n X dL_law_73 6 rfl rfl ?_
      refine g_aload_n X dL_law_74 7 rfl rfl ?_
      refine g_callS (As := [.ref cj, .ref cp]) (rest := []) (wr := [cOi v ou fk4]) X (c_L_areAlike l v cj cp hBk4 hD hW hL) f_L_areAlike q_16_8 dL_law_75 [0, 1] [2] rfl rfl (by decide) rfl rfl (Nat.le_of_ble_eq_true rfl) ⟨rfl, rfl, by decide +kernel, by decide +kernel, (by show _ ≤ 600104; omega), (by show _ ≤ 7301314; omega)⟩ (fun r_ w_ hp21 => ?_)
      obtain ⟨rfl, wk20, uk20, hCk20, hDk20, rfl⟩ := hp21
      obtain ⟨fsk20, hqk20⟩ := IC9_hd hCk20
      obtain ⟨gsk20, hrk20⟩ := IC9_hd hDk20
      show GG k _ _ [wk20, uk20, cOi v ou fk4] _ _ [.int (nI 1)]
      refine g_if_eqN (tgt := 90) X dL_law_78 (by decide) (by omega) (fun c78 => ?_) (fun c78 => ?_)
      · exact absurd c78 (by decide)
      · refine g_aload_n X dL_law_81 6 rfl rfl ?_
        refine g_callV (As := []) (rest := []) (wr := [uk20, cOi v ou fk4]) X (Cc_X6_savedStates l v cj hCk20 hW hL ) f_X6_savedStates q_4_15 dL_law_82 [0] [1, 2] rfl rfl (by decide) 0 hqk20 rfl rfl rfl (Nat.le_of_ble_eq_true rfl) ⟨rfl, rfl, by decide +kernel, by decide +kernel, (by show _ ≤ 600104; omega), (by show _ ≤ 7301314; omega)⟩ (fun r_ w_ hp23 => ?_)
        obtain ⟨rfl, wk22, hCk22, rfl⟩ := hp23
        obtain ⟨fsk22, hqk22⟩ := IC9_hd hCk22
        show GG k _ _ [wk22, uk20, cOi v ou fk4] _ _ [.int (nI c)]
        refine g_iload X dL_law_85 2 rfl ?_
        refine g_icmp_eq (tgt := 92) X dL_law_87 (by decide) (fun c87 => ?_) (fun c87 => ?_)
        · refine g_iload X dL_law_92 1 rfl ?_
          refine g_if_neN (tgt := 160) X dL_law_94 (by decide) (by omega) (fun c94 => ?_) (fun c94 => ?_)
          · refine g_aload_n X dL_law_160 7 rfl rfl ?_
            refine g_aload_n X dL_law_161 5 rfl rfl ?_
            refine g_iload X dL_law_162 4 rfl ?_
            refine g_aload_n X dL_law_164 8 rfl rfl ?_
            refine g_callS (As := [.ref cp, .ref (v.2.2.2 900), .int (nI e), .ref ou]) (rest := []) (wr := [wk22]) X (c_L_act l v cp ou e fk4 hst hL9 he hDk20 hW hL) f_L_act q_4_19 dL_law_165 [1, 2] [0] rfl rfl (by decide) rfl rfl (Nat.le_of_ble_eq_true rfl) ⟨rfl, rfl, by decide +kernel, by decide +kernel, (by show _ ≤ 600104; omega), (by show _ ≤ 7301314; omega)⟩ (fun r_ w_ hp25 => ?_)
            rw [hR] at hp25
            obtain ⟨rfl, wk24, fk24, hAk24, rfl⟩ := hp25
            show GG k _ _ [wk24, cOi v ou fk24, wk22] _ _ [.int (nI R.1)]
            refine g_pick (cs' := [wk22, wk24, cOi v ou fk24]) [2, 0, 1] rfl rfl ?_
            refine g_iload X dL_law_168 1 rfl ?_
            refine g_icmp_ne (tgt := 194) X dL_law_170 (by decide) (fun c170 => ?_) (fun c170 => ?_)
            · exact absurd rfl c170
            · obtain ⟨txk24, hBk24⟩ := hAk24.2 hz
              have hBk24 : IC9 v cp P n lo hi H' c' txk24 0 wk24 := hBk24
              obtain ⟨fyk24, hyk24⟩ := IC9_hd hBk24
              refine g_iload X dL_law_173 1 rfl ?_
              refine g_if_neN (tgt := 186) X dL_law_175 (by decide) (by omega) (fun c175 => ?_) (fun c175 => ?_)
              · refine g_aload_n X dL_law_186 6 rfl rfl ?_
                refine g_aload_n X dL_law_187 7 rfl rfl ?_
                refine g_callS (As := [.ref cj, .ref cp]) (rest := []) (wr := [cOi v ou fk24]) X (c_L_areAlike l v cj cp hCk22 hBk24 hW hL) f_L_areAlike q_16_8 dL_law_188 [0, 1] [2] rfl rfl (by decide) rfl rfl (Nat.le_of_ble_eq_true rfl) ⟨rfl, rfl, by decide +kernel, by decide +kernel, (by show _ ≤ 600104; omega), (by show _ ≤ 7301314; omega)⟩ (fun r_ w_ hp27 => ?_)
                obtain ⟨rfl, wk26, uk26, hCk26, hDk26, rfl⟩ := hp27
                obtain ⟨fsk26, hqk26⟩ := IC9_hd hCk26
                obtain ⟨gsk26, hrk26⟩ := IC9_hd hDk26
                show GG k _ _ [wk26, uk26, cOi v ou fk24] _ _ [.int (nI 1)]
                refine g_if_neN (tgt := 196) X dL_law_191 (by decide) (by omega) (fun c191 => ?_) (fun c191 => ?_)
                · refine g_lv (lv' := [(5, .int x), (4, .int (nI e)), (0, .ref (v.2.2.2 900)), (1, .ref cj), (2, .ref cp), (3, .ref ou)]) [3, 4, 5, 6, 7, 8] rfl ?_
                  exact law_tail X hst hL9 hCk26 hDk26 hW hL (by omega) (by omega) h3 h4 KN
                · exact absurd c191 (by decide)
              · exact absurd c175 hz
          · exact absurd c94 hz
        · exact absurd rfl c87

set_option maxHeartbeats 4000000 in
set_option maxRecDepth 100000 in
theorem law_loop {k : KX} {l : Launch} {v : VV} {cj cp ou : Nat} (X : CX k l v cL_law "ClaimJudgeLaw" room_1 10) (hst : l.stackTraces = false) (hL9 : v.2.2.1 900 ≤ 260) (E : ∀ {ce sl : Nat} {cs : List va_W} {lv : List (Nat × Value)}, ce ≤ 600104 → sl ≤ 7301314 → GG k ce sl cs lv 254 [.int (nI 1)]) : ∀ (N e : Nat), e ≤ 12 → 13 ≤ e + N → ∀ {P : Nat → S9} {n : Nat} {lo hi : Nat → Nat} {H H' : Nat → HE9} {c c' : Nat} {tx tx' : Nat → Nat} {w9 u9 : va_W} {f : Nat → Int32} {ce sl : Nat}, IC9 v cj P n lo hi H c tx 0 w9 → IC9 v cp P n lo hi H' c' tx' 0 u9 → WF P n → AsW lo hi → ce ≤ 200 + 4 * e → sl ≤ 16000 + 24 * e → GG k ce sl [w9, u9, cOi v ou f] [(4, .int (nI e)), (0, .ref (v.2.2.2 900)), (1, .ref cj), (2, .ref cp), (3, .ref ou)] 23 [] := by
  intro N
  induction N with
  | zero => intro e h1 h2; exact absurd h2 (by omega)
  | succ N ih =>
    intro e h1 h2 P n lo hi H H' c c' tx tx' w9 u9 f ce sl hC hD hW hL hce hsl
    refine g_iload X dL_law_23 0 rfl ?_
    refine g_bipush (x := nI 12) X dL_law_25 (by decide +kernel) ?_
    refine g_icmp_geN (tgt := 253) X dL_law_27 (by decide) (by omega) (by omega) (fun c27 => ?_) (fun c27 => ?_)
    · refine g_iconst (x := nI 1) X dL_law_253 (by decide +kernel) ?_
      exact E (by omega) (by omega)
    · refine law_body X hst hL9 hC hD hW hL c27 (by omega) (by omega) ?_
      intro P n lo hi H H' c c' tx tx' w u f ce' sl' hC hD hW hL h3 h4
      refine g_iinc (y := nI (e + 1)) (lv' := [(4, .int (nI (e + 1))), (0, .ref (v.2.2.2 900)), (1, .ref cj), (2, .ref cp), (3, .ref ou)]) (j := 0) X dL_law_247 rfl (nI_add e 1) (by decide) rfl ?_
      refine g_goto (tgt := 23) X dL_law_250 (by decide) ?_
      exact ih (e + 1) (by omega) (by omega) hC hD hW hL (by omega) (by omega)
set_option maxHeartbeats 4000000 in
set_option maxRecDepth 100000 in
theorem law_go {k : KX} {l : Launch} {v : VV} (X : CX k l v cL_law "ClaimJudgeLaw" room_1 10) (hst : l.stackTraces = false) (hL9 : v.2.2.1 900 ≤ 260) (E : ∀ {ce sl : Nat} {cs : List va_W} {lv : List (Nat × Value)}, ce ≤ 600104 → sl ≤ 7301314 → GG k ce sl cs lv 254 [.int (nI 1)]) : GG k 0 0 [] [(0, .ref (v.2.2.2 900))] 0 [] := by
  refine g_new (fs := [.null, .null, .null, .null, .null, .null]) X cb6 q_1_0 q_1_1 q_1_2 dL_law_0 (fun j hj => by rcases (show j = 0 ∨ j = 1 ∨ j = 2 ∨ j = 3 ∨ j = 4 ∨ j = 5 by omega) with rfl | rfl | rfl | rfl | rfl | rfl <;> rfl) (by decide) (by decide) (fun z6 => ?_)
  show GG k 1 6 [[(z6, .inr (6, [.null, .null, .null, .null, .null, .null]))]] _ _ _
  refine g_dup X dL_law_3 rfl ?_
  refine g_callI (As := []) (rest := [.ref z6]) (wr := []) X (c_X6_init l v z6) f_X6_init q_1_4 dL_law_4 [0] [] rfl rfl (by decide) rfl rfl (Nat.le_of_ble_eq_true rfl) (by decide +kernel) (fun w_ hp1 => ?_)
  obtain ⟨a, b, d, j, h, t, al, g, e, ex, lw, hg, vs, pw, bw, ns, fs, gs, fc, hG, hH, rfl⟩ := hp1
  show GG k _ _ [cCJ v z6 (a 0) (b 0) (d 0) (j 0) (h 0) (t 0), cPg v a 0 (fun _ _ => 0), cAs v b g, cRu v d (a 0) true, cEn v d e, cJu v j (a 0) (b 0) (d 0) 0 0 0 true, cEx v j ex, cLo v j lw, cHi v j hg, cVi v j vs, cHi9 v h pw bw 0 0, cPg v (pw 0) (ns 0) (fs 0), cPg v (pw 1) (ns 1) (fs 1), cPg v (pw 2) (ns 2) (fs 2), cPg v (pw 3) (ns 3) (fs 3), cPg v (pw 4) (ns 4) (fs 4), cPg v (pw 5) (ns 5) (fs 5), cAs v (bw 0) (gs 0), cAs v (bw 1) (gs 1), cAs v (bw 2) (gs 2), cAs v (bw 3) (gs 3), cAs v (bw 4) (gs 4), cAs v (bw 5) (gs 5), cTx v t (al 0) 0 0 0 0 0 0 0, cCh v t fc, cPg v al 0 (fun _ _ => 0)] _ _ [.ref z6]
  obtain ⟨wo, ewo, hCwo⟩ : ∃ w, w = ([cCJ v z6 (a 0) (b 0) (d 0) (j 0) (h 0) (t 0), cPg v a 0 (fun _ _ => 0), cAs v b g, cRu v d (a 0) true, cEn v d e, cJu v j (a 0) (b 0) (d 0) 0 0 0 true, cEx v j ex, cLo v j lw, cHi v j hg, cVi v j vs, cHi9 v h pw bw 0 0, cPg v (pw 0) (ns 0) (fs 0), cPg v (pw 1) (ns 1) (fs 1), cPg v (pw 2) (ns 2) (fs 2), cPg v (pw 3) (ns 3) (fs 3), cPg v (pw 4) (ns 4) (fs 4), cPg v (pw 5) (ns 5) (fs 5), cAs v (bw 0) (gs 0), cAs v (bw 1) (gs 1), cAs v (bw 2) (gs 2), cAs v (bw 3) (gs 3), cAs v (bw 4) (gs 4), cAs v (bw 5) (gs 5), cTx v t (al 0) 0 0 0 0 0 0 0, cCh v t fc, cPg v al 0 (fun _ _ => 0)] : List va_W).flatten ∧ IC9 v z6 (fun _ => (0, 0, 0, 0, 0)) 0 (fun _ => 0) (fun _ => 7) H9z 0 (fun _ => 0) 0 w := ⟨_, rfl, _, _, _, _, _, _, _, _, _, _, _, _, _, _, _, _, _, _, _, _, _, _, _, _, _, _, _, _, _, _, _, _, _, _, (fun i h => absurd h (Nat.not_lt_zero _)), hG, (fun h => by cases h), (fun h => by cases h), hH, ⟨by omega, fun i h => absurd h (Nat.not_lt_zero _)⟩, Nat.zero_le _, rfl⟩
  refine g_flat (cs' := [wo]) (by rw [ewo]; rfl) ?_
  refine g_astore_n (lv' := [(1, .ref z6), (0, .ref (v.2.2.2 900))]) X dL_law_7 rfl (by decide) rfl ?_
  refine g_new (fs := [.null, .null, .null, .null, .null, .null]) X cb6 q_1_0 q_1_1 q_1_2 dL_law_8 (fun j hj => by rcases (show j = 0 ∨ j = 1 ∨ j = 2 ∨ j = 3 ∨ j = 4 ∨ j = 5 by omega) with rfl | rfl | rfl | rfl | rfl | rfl <;> rfl) (by decide) (by decide) (fun z7 => ?_)
  show GG k 91 7649 [wo, [(z7, .inr (6, [.null, .null, .null, .null, .null, .null]))]] _ _ _
  refine g_dup X dL_law_11 rfl ?_
  refine g_callI (As := []) (rest := [.ref z7]) (wr := [wo]) X (c_X6_init l v z7) f_X6_init q_1_4 dL_law_12 [1] [0] rfl rfl (by decide) rfl rfl (Nat.le_of_ble_eq_true rfl) (by decide +kernel) (fun w_ hp2 => ?_)
  obtain ⟨a7, b7, d7, j7, h7, t7, al7, g7, e7, ex7, lw7, hg7, vs7, pw7, bw7, ns7, fs7, gs7, fc7, hG7, hH7, rfl⟩ := hp2
  show GG k _ _ [cCJ v z7 (a7 0) (b7 0) (d7 0) (j7 0) (h7 0) (t7 0), cPg v a7 0 (fun _ _ => 0), cAs v b7 g7, cRu v d7 (a7 0) true, cEn v d7 e7, cJu v j7 (a7 0) (b7 0) (d7 0) 0 0 0 true, cEx v j7 ex7, cLo v j7 lw7, cHi v j7 hg7, cVi v j7 vs7, cHi9 v h7 pw7 bw7 0 0, cPg v (pw7 0) (ns7 0) (fs7 0), cPg v (pw7 1) (ns7 1) (fs7 1), cPg v (pw7 2) (ns7 2) (fs7 2), cPg v (pw7 3) (ns7 3) (fs7 3), cPg v (pw7 4) (ns7 4) (fs7 4), cPg v (pw7 5) (ns7 5) (fs7 5), cAs v (bw7 0) (gs7 0), cAs v (bw7 1) (gs7 1), cAs v (bw7 2) (gs7 2), cAs v (bw7 3) (gs7 3), cAs v (bw7 4) (gs7 4), cAs v (bw7 5) (gs7 5), cTx v t7 (al7 0) 0 0 0 0 0 0 0, cCh v t7 fc7, cPg v al7 0 (fun _ _ => 0), wo] _ _ [.ref z7]
  refine g_pick (cs' := [wo, cCJ v z7 (a7 0) (b7 0) (d7 0) (j7 0) (h7 0) (t7 0), cPg v a7 0 (fun _ _ => 0), cAs v b7 g7, cRu v d7 (a7 0) true, cEn v d7 e7, cJu v j7 (a7 0) (b7 0) (d7 0) 0 0 0 true, cEx v j7 ex7, cLo v j7 lw7, cHi v j7 hg7, cVi v j7 vs7, cHi9 v h7 pw7 bw7 0 0, cPg v (pw7 0) (ns7 0) (fs7 0), cPg v (pw7 1) (ns7 1) (fs7 1), cPg v (pw7 2) (ns7 2) (fs7 2), cPg v (pw7 3) (ns7 3) (fs7 3), cPg v (pw7 4) (ns7 4) (fs7 4), cPg v (pw7 5) (ns7 5) (fs7 5), cAs v (bw7 0) (gs7 0), cAs v (bw7 1) (gs7 1), cAs v (bw7 2) (gs7 2), cAs v (bw7 3) (gs7 3), cAs v (bw7 4) (gs7 4), cAs v (bw7 5) (gs7 5), cTx v t7 (al7 0) 0 0 0 0 0 0 0, cCh v t7 fc7, cPg v al7 0 (fun _ _ => 0)]) [26, 0, 1, 2, 3, 4, 5, 6, 7, 8, 9, 10, 11, 12, 13, 14, 15, 16, 17, 18, 19, 20, 21, 22, 23, 24, 25] rfl rfl ?_
  obtain ⟨wp, ewp, hCwp⟩ : ∃ w, w = ([cCJ v z7 (a7 0) (b7 0) (d7 0) (j7 0) (h7 0) (t7 0), cPg v a7 0 (fun _ _ => 0), cAs v b7 g7, cRu v d7 (a7 0) true, cEn v d7 e7, cJu v j7 (a7 0) (b7 0) (d7 0) 0 0 0 true, cEx v j7 ex7, cLo v j7 lw7, cHi v j7 hg7, cVi v j7 vs7, cHi9 v h7 pw7 bw7 0 0, cPg v (pw7 0) (ns7 0) (fs7 0), cPg v (pw7 1) (ns7 1) (fs7 1), cPg v (pw7 2) (ns7 2) (fs7 2), cPg v (pw7 3) (ns7 3) (fs7 3), cPg v (pw7 4) (ns7 4) (fs7 4), cPg v (pw7 5) (ns7 5) (fs7 5), cAs v (bw7 0) (gs7 0), cAs v (bw7 1) (gs7 1), cAs v (bw7 2) (gs7 2), cAs v (bw7 3) (gs7 3), cAs v (bw7 4) (gs7 4), cAs v (bw7 5) (gs7 5), cTx v t7 (al7 0) 0 0 0 0 0 0 0, cCh v t7 fc7, cPg v al7 0 (fun _ _ => 0)] : List va_W).flatten ∧ IC9 v z7 (fun _ => (0, 0, 0, 0, 0)) 0 (fun _ => 0) (fun _ => 7) H9z 0 (fun _ => 0) 0 w := ⟨_, rfl, _, _, _, _, _, _, _, _, _, _, _, _, _, _, _, _, _, _, _, _, _, _, _, _, _, _, _, _, _, _, _, _, _, _, (fun i h => absurd h (Nat.not_lt_zero _)), hG7, (fun h => by cases h), (fun h => by cases h), hH7, ⟨by omega, fun i h => absurd h (Nat.not_lt_zero _)⟩, Nat.zero_le _, rfl⟩
  refine g_flat (cs' := [wo, wp]) (by rw [ewp]; rfl) ?_
  refine g_astore_n (lv' := [(2, .ref z7), (1, .ref z6), (0, .ref (v.2.2.2 900))]) X dL_law_15 rfl (by decide) rfl ?_
  refine g_iconst (x := nI 1) X dL_law_16 (by decide +kernel) ?_
  refine g_newa 0 (N := 1) (atype := .int) (ty := .int) (a0 := (1, .inl (fun _ => 0))) X q_1_3 rfl dL_law_17 rfl (fun _ => rfl) (by decide) (by decide) (by decide) (by decide) (fun ou => ?_)
  show GG k 181 15287 [wo, wp, [(ou, .inl (v.2.1 0, 1, .inl (fun _ => 0)))]] _ _ _
  refine g_astore_n (lv' := [(3, .ref ou), (2, .ref z7), (1, .ref z6), (0, .ref (v.2.2.2 900))]) X dL_law_19 rfl (by decide) rfl ?_
  refine g_iconst (x := nI 0) X dL_law_20 (by decide +kernel) ?_
  refine g_istore (lv' := [(4, .int (nI 0)), (3, .ref ou), (2, .ref z7), (1, .ref z6), (0, .ref (v.2.2.2 900))]) X dL_law_21 (by decide) rfl ?_
  refine g_lv (lv' := [(4, .int (nI 0)), (0, .ref (v.2.2.2 900)), (1, .ref z6), (2, .ref z7), (3, .ref ou)]) [0, 4, 3, 2, 1] rfl ?_
  exact law_loop X hst hL9 E 13 0 (by omega) (by omega) hCwo hCwp ⟨by omega, fun i h => absurd h (Nat.not_lt_zero _)⟩ AsW_new (by omega) (by omega)
