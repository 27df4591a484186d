/-! ## the law: a call of each kind (1) -/
set_option maxHeartbeats 4000000 in
set_option maxRecDepth 100000 in
theorem op_load {k : KX} {l : Launch} {v : VV} {cj mz o b L i ce sl : Nat} {xs : Nat → Int32} (X : CX k l v cL_law "ClaimJudgeLaw" room_1 9) (hs : SCk k b L xs) (hnc : NCk k) (hst : l.stackTraces = false) (hL9 : L ≤ 2560) {P : Nat → S9} {n : Nat} {lo hi : Nat → Nat} {H : Nat → HE9} {c : Nat} {tx : Nat → Nat} {ln : Nat} {th : Int32} {w9 u9 : va_W} {f : Nat → Int64} (hC : IC9 v cj P n lo hi H c tx ln w9) (hM : IM9 v mz P n lo hi H c tx ln th u9) (hW : WF P n) (hL : AsW lo hi) (hi9 : i + 4 < L) (hce : ce + 1 ≤ 601024) (hsl : sl + 6 ≤ 7293034) (KN : NX9 k v cj mz o b i ce sl) : GG k ce sl [w9, u9, cOut v o f] [(4, .int (nI i)), (0, .ref b), (1, .ref cj), (2, .ref mz), (3, .ref o)] 152 [] := by
  obtain ⟨fs9, hq⟩ := IC9_hd hC
  obtain ⟨fs8, hqM⟩ := IM9_hd hM
  have hn12 := hW.1
  have hT6 := IC9_T hC
  by_cases hok : ldOK tx ln
  · refine g_aload_n X dL_law_152 2 rfl rfl ?_
    refine g_aload_n X dL_law_153 4 rfl rfl ?_
    refine g_callW (As := [.ref cj, .ref o]) (rest := []) (wr := [u9]) X hnc (w_L_load l v cj o  w9 f (fun w => IC9 v cj (lg9 (pAll tx ln 12 0 []).2.2) ((pAll tx ln 12 0 []).2.2.length) lo hi (hS9 H c (P, n, lo, hi)) (hC9 c) tx 0 w) ({ frames := 8, cells := 0, slots := 0, locals := 173 }) (nI (pAll tx ln 12 0 []).2.2.length) hq rfl rfl (by decide) (by decide) (Cc_X6_load l v cj hC hW hL  hok)) f_L_load q_5_1 dL_law_154 [0, 2] [1] rfl rfl (by decide) rfl rfl (Nat.le_of_ble_eq_true rfl) ⟨rfl, rfl, by decide +kernel, by decide +kernel, (by show _ ≤ 601024; omega), (by show _ ≤ 7293034; omega)⟩ (fun r_ w_ hp1 => ?_)
    obtain ⟨rfl, w1, f1, hC1, hf1, rfl⟩ := hp1
    show GG k _ _ [w1, cOut v o f1, u9] _ _ [.int (nI 0)]
    refine g_pick (cs' := [w1, u9, cOut v o f1]) [0, 2, 1] rfl rfl ?_
    refine g_istore (lv' := [(5, .int (nI 0)), (4, .int (nI i)), (0, .ref b), (1, .ref cj), (2, .ref mz), (3, .ref o)]) X dL_law_157 (by decide) rfl ?_
    refine g_aload_n X dL_law_159 4 rfl rfl ?_
    refine g_callV (As := []) (rest := []) (wr := [w1, cOut v o f1]) X (Mc_X7_load l v hM hW hL  hok) f_X7_load q_13_23 dL_law_160 [1] [0, 2] rfl rfl (by decide) 0 hqM rfl rfl rfl (Nat.le_of_ble_eq_true rfl) ⟨rfl, rfl, by decide +kernel, by decide +kernel, (by show _ ≤ 601024; omega), (by show _ ≤ 7293034; omega)⟩ (fun r_ w_ hp2 => ?_)
    obtain ⟨rfl, u1, hM1, rfl⟩ := hp2
    obtain ⟨fs7, hqN⟩ := IM9_hd hM1
    show GG k _ _ [u1, w1, cOut v o f1] _ _ [.int (nI (pAll tx ln 12 0 []).2.2.length)]
    refine g_pick (cs' := [w1, u1, cOut v o f1]) [1, 0, 2] rfl rfl ?_
    refine g_istore (lv' := [(6, .int (nI (pAll tx ln 12 0 []).2.2.length)), (5, .int (nI 0)), (4, .int (nI i)), (0, .ref b), (1, .ref cj), (2, .ref mz), (3, .ref o)]) X dL_law_163 (by decide) rfl ?_
    refine g_aload_n X dL_law_165 5 rfl rfl ?_
    refine g_callV (As := []) (rest := []) (wr := [w1, cOut v o f1]) X (Mc_X7_thrown l v hM1 (WF_ld hok) hL) f_X7_thrown q_16_9 dL_law_166 [1] [0, 2] rfl rfl (by decide) 0 hqN rfl rfl rfl (Nat.le_of_ble_eq_true rfl) ⟨rfl, rfl, by decide +kernel, by decide +kernel, (by show _ ≤ 601024; omega), (by show _ ≤ 7293034; omega)⟩ (fun r_ w_ hp3 => ?_)
    obtain ⟨rfl, u2, hM2, rfl⟩ := hp3
    show GG k _ _ [u2, w1, cOut v o f1] _ _ [.int (nI 0)]
    refine g_pick (cs' := [w1, u2, cOut v o f1]) [1, 0, 2] rfl rfl ?_
    refine g_iload X dL_law_169 1 rfl ?_
    refine g_icmp_eqN (tgt := 176) X dL_law_171 (by decide) (by omega) (by omega) (fun c171 => ?_) (fun c171 => ?_)
    · refine g_iload X dL_law_176 1 rfl ?_
      refine g_if_neN (tgt := 193) X dL_law_178 (by decide) (by omega) (fun c178 => ?_) (fun c178 => ?_)
      · exact absurd rfl c178
      · refine g_aload_n X dL_law_181 6 rfl rfl ?_
        refine g_iconst (x := nI 0) X dL_law_182 (by decide +kernel) ?_
        refine g_lald X dL_law_183 2 0 rfl rfl (by omega) (by omega) ?_
        refine g_vl (y := (nI (pAll tx ln 12 0 []).2.2.length).toInt64) (hf1) ?_
        refine g_iload X dL_law_184 0 rfl ?_
        refine g_i2l X dL_law_186 rfl ?_
        refine g_lcmp X dL_law_187 ?_
        refine g_v (y := nI 0) (lg_self _) ?_
        refine g_if_eqN (tgt := 193) X dL_law_188 (by decide) (by omega) (fun c188 => ?_) (fun c188 => ?_)
        · refine g_goto (tgt := 1328) X dL_law_193 (by decide) ?_
          refine g_lv (lv' := [(4, .int (nI i)), (0, .ref b), (1, .ref cj), (2, .ref mz), (3, .ref o)]) [2, 3, 4, 5, 6] rfl ?_
          exact KN hC1 hM2 (WF_ld hok) hL (by omega) (by omega)
        · exact absurd rfl c188
    · exact absurd c171 (by decide)
  · refine g_aload_n X dL_law_152 2 rfl rfl ?_
    refine g_aload_n X dL_law_153 4 rfl rfl ?_
    refine g_callW (As := [.ref cj, .ref o]) (rest := []) (wr := [u9]) X hnc (w1_L_load l v cj o  w9 f (fun w => IC9 v cj P n lo hi H c tx ln w) ({ frames := 8, cells := 1, slots := 6, locals := 173 }) hq rfl rfl (by decide) (by decide) (Cb_X6_load l v hst cj hC hW hL  hok)) f_L_load q_5_1 dL_law_154 [0, 2] [1] rfl rfl (by decide) rfl rfl (Nat.le_of_ble_eq_true rfl) ⟨rfl, rfl, by decide +kernel, by decide +kernel, (by show _ ≤ 601024; omega), (by show _ ≤ 7293034; omega)⟩ (fun r_ w_ hp4 => ?_)
    obtain ⟨rfl, w1, hC1, rfl⟩ := hp4
    show GG k _ _ [w1, cOut v o f, u9] _ _ [.int (nI 1)]
    refine g_pick (cs' := [w1, u9, cOut v o f]) [0, 2, 1] rfl rfl ?_
    refine g_istore (lv' := [(5, .int (nI 1)), (4, .int (nI i)), (0, .ref b), (1, .ref cj), (2, .ref mz), (3, .ref o)]) X dL_law_157 (by decide) rfl ?_
    refine g_aload_n X dL_law_159 4 rfl rfl ?_
    refine g_callV (As := []) (rest := []) (wr := [w1, cOut v o f]) X (Mb_X7_load l v hM hW hL  hok) f_X7_load q_13_23 dL_law_160 [1] [0, 2] rfl rfl (by decide) 0 hqM rfl rfl rfl (Nat.le_of_ble_eq_true rfl) ⟨rfl, rfl, by decide +kernel, by decide +kernel, (by show _ ≤ 601024; omega), (by show _ ≤ 7293034; omega)⟩ (fun r_ w_ hp5 => ?_)
    obtain ⟨rfl, u1, hM1, rfl⟩ := hp5
    obtain ⟨fs7, hqN⟩ := IM9_hd hM1
    show GG k _ _ [u1, w1, cOut v o f] _ _ [.int (nI 0)]
    refine g_pick (cs' := [w1, u1, cOut v o f]) [1, 0, 2] rfl rfl ?_
    refine g_istore (lv' := [(6, .int (nI 0)), (5, .int (nI 1)), (4, .int (nI i)), (0, .ref b), (1, .ref cj), (2, .ref mz), (3, .ref o)]) X dL_law_163 (by decide) rfl ?_
    refine g_aload_n X dL_law_165 5 rfl rfl ?_
    refine g_callV (As := []) (rest := []) (wr := [w1, cOut v o f]) X (Mc_X7_thrown l v hM1 hW hL) f_X7_thrown q_16_9 dL_law_166 [1] [0, 2] rfl rfl (by decide) 0 hqN rfl rfl rfl (Nat.le_of_ble_eq_true rfl) ⟨rfl, rfl, by decide +kernel, by decide +kernel, (by show _ ≤ 601024; omega), (by show _ ≤ 7293034; omega)⟩ (fun r_ w_ hp6 => ?_)
    obtain ⟨rfl, u2, hM2, rfl⟩ := hp6
    show GG k _ _ [u2, w1, cOut v o f] _ _ [.int (nI 1)]
    refine g_pick (cs' := [w1, u2, cOut v o f]) [1, 0, 2] rfl rfl ?_
    refine g_iload X dL_law_169 1 rfl ?_
    refine g_icmp_eqN (tgt := 176) X dL_law_171 (by decide) (by omega) (by omega) (fun c171 => ?_) (fun c171 => ?_)
    · refine g_iload X dL_law_176 1 rfl ?_
      refine g_if_neN (tgt := 193) X dL_law_178 (by decide) (by omega) (fun c178 => ?_) (fun c178 => ?_)
      · refine g_goto (tgt := 1328) X dL_law_193 (by decide) ?_
        refine g_lv (lv' := [(4, .int (nI i)), (0, .ref b), (1, .ref cj), (2, .ref mz), (3, .ref o)]) [2, 3, 4, 5, 6] rfl ?_
        exact KN hC1 hM2 hW hL (by omega) (by omega)
      · exact absurd c178 (by decide)
    · exact absurd c171 (by decide)

set_option maxHeartbeats 4000000 in
set_option maxRecDepth 100000 in
theorem op_add {k : KX} {l : Launch} {v : VV} {cj mz o b L i ce sl : Nat} {xs : Nat → Int32} (X : CX k l v cL_law "ClaimJudgeLaw" room_1 9) (hs : SCk k b L xs) (hnc : NCk k) (hst : l.stackTraces = false) (hL9 : L ≤ 2560) {P : Nat → S9} {n : Nat} {lo hi : Nat → Nat} {H : Nat → HE9} {c : Nat} {tx : Nat → Nat} {ln : Nat} {th : Int32} {w9 u9 : va_W} {f : Nat → Int64} (hC : IC9 v cj P n lo hi H c tx ln w9) (hM : IM9 v mz P n lo hi H c tx ln th u9) (hW : WF P n) (hL : AsW lo hi) (hi9 : i + 4 < L) (hce : ce + 1 ≤ 601024) (hsl : sl + 6 ≤ 7293034) (KN : NX9 k v cj mz o b i ce sl) : GG k ce sl [w9, u9, cOut v o f] [(4, .int (nI i)), (0, .ref b), (1, .ref cj), (2, .ref mz), (3, .ref o)] 196 [] := by
  obtain ⟨fs9, hq⟩ := IC9_hd hC
  obtain ⟨fs8, hqM⟩ := IM9_hd hM
  have hn12 := hW.1
  have hT6 := IC9_T hC
  by_cases hok : adOK tx ln n
  · refine g_aload_n X dL_law_196 2 rfl rfl ?_
    refine g_aload_n X dL_law_197 4 rfl rfl ?_
    refine g_callW (As := [.ref cj, .ref o]) (rest := []) (wr := [u9]) X hnc (w_L_add l v cj o  w9 f (fun w => IC9 v cj (ap9 P n (lg9 (pAll tx ln 12 0 []).2.2)) (n + (pAll tx ln 12 0 []).2.2.length) lo hi (hS9 H c (P, n, lo, hi)) (hC9 c) tx 0 w) ({ frames := 8, cells := 0, slots := 0, locals := 173 }) (nI (n + (pAll tx ln 12 0 []).2.2.length)) hq rfl rfl (by decide) (by decide) (Cc_X6_add l v cj hC hW hL  hok)) f_L_add q_16_13 dL_law_198 [0, 2] [1] rfl rfl (by decide) rfl rfl (Nat.le_of_ble_eq_true rfl) ⟨rfl, rfl, by decide +kernel, by decide +kernel, (by show _ ≤ 601024; omega), (by show _ ≤ 7293034; omega)⟩ (fun r_ w_ hp1 => ?_)
    obtain ⟨rfl, w1, f1, hC1, hf1, rfl⟩ := hp1
    show GG k _ _ [w1, cOut v o f1, u9] _ _ [.int (nI 0)]
    refine g_pick (cs' := [w1, u9, cOut v o f1]) [0, 2, 1] rfl rfl ?_
    refine g_istore (lv' := [(5, .int (nI 0)), (4, .int (nI i)), (0, .ref b), (1, .ref cj), (2, .ref mz), (3, .ref o)]) X dL_law_201 (by decide) rfl ?_
    refine g_aload_n X dL_law_203 4 rfl rfl ?_
    refine g_callV (As := []) (rest := []) (wr := [w1, cOut v o f1]) X (Mc_X7_add l v hM hW hL  hok) f_X7_add q_17_1 dL_law_204 [1] [0, 2] rfl rfl (by decide) 0 hqM rfl rfl rfl (Nat.le_of_ble_eq_true rfl) ⟨rfl, rfl, by decide +kernel, by decide +kernel, (by show _ ≤ 601024; omega), (by show _ ≤ 7293034; omega)⟩ (fun r_ w_ hp2 => ?_)
    obtain ⟨rfl, u1, hM1, rfl⟩ := hp2
    obtain ⟨fs7, hqN⟩ := IM9_hd hM1
    show GG k _ _ [u1, w1, cOut v o f1] _ _ [.int (nI (n + (pAll tx ln 12 0 []).2.2.length))]
    refine g_pick (cs' := [w1, u1, cOut v o f1]) [1, 0, 2] rfl rfl ?_
    refine g_istore (lv' := [(6, .int (nI (n + (pAll tx ln 12 0 []).2.2.length))), (5, .int (nI 0)), (4, .int (nI i)), (0, .ref b), (1, .ref cj), (2, .ref mz), (3, .ref o)]) X dL_law_207 (by decide) rfl ?_
    refine g_aload_n X dL_law_209 5 rfl rfl ?_
    refine g_callV (As := []) (rest := []) (wr := [w1, cOut v o f1]) X (Mc_X7_thrown l v hM1 (WF_ad hW hok) hL) f_X7_thrown q_16_9 dL_law_210 [1] [0, 2] rfl rfl (by decide) 0 hqN rfl rfl rfl (Nat.le_of_ble_eq_true rfl) ⟨rfl, rfl, by decide +kernel, by decide +kernel, (by show _ ≤ 601024; omega), (by show _ ≤ 7293034; omega)⟩ (fun r_ w_ hp3 => ?_)
    obtain ⟨rfl, u2, hM2, rfl⟩ := hp3
    show GG k _ _ [u2, w1, cOut v o f1] _ _ [.int (nI 0)]
    refine g_pick (cs' := [w1, u2, cOut v o f1]) [1, 0, 2] rfl rfl ?_
    refine g_iload X dL_law_213 1 rfl ?_
    refine g_icmp_eqN (tgt := 220) X dL_law_215 (by decide) (by omega) (by omega) (fun c215 => ?_) (fun c215 => ?_)
    · refine g_iload X dL_law_220 1 rfl ?_
      refine g_if_neN (tgt := 237) X dL_law_222 (by decide) (by omega) (fun c222 => ?_) (fun c222 => ?_)
      · exact absurd rfl c222
      · refine g_aload_n X dL_law_225 6 rfl rfl ?_
        refine g_iconst (x := nI 0) X dL_law_226 (by decide +kernel) ?_
        refine g_lald X dL_law_227 2 0 rfl rfl (by omega) (by omega) ?_
        refine g_vl (y := (nI (n + (pAll tx ln 12 0 []).2.2.length)).toInt64) (hf1) ?_
        refine g_iload X dL_law_228 0 rfl ?_
        refine g_i2l X dL_law_230 rfl ?_
        refine g_lcmp X dL_law_231 ?_
        refine g_v (y := nI 0) (lg_self _) ?_
        refine g_if_eqN (tgt := 237) X dL_law_232 (by decide) (by omega) (fun c232 => ?_) (fun c232 => ?_)
        · refine g_goto (tgt := 1328) X dL_law_237 (by decide) ?_
          refine g_lv (lv' := [(4, .int (nI i)), (0, .ref b), (1, .ref cj), (2, .ref mz), (3, .ref o)]) [2, 3, 4, 5, 6] rfl ?_
          exact KN hC1 hM2 (WF_ad hW hok) hL (by omega) (by omega)
        · exact absurd rfl c232
    · exact absurd c215 (by decide)
  · refine g_aload_n X dL_law_196 2 rfl rfl ?_
    refine g_aload_n X dL_law_197 4 rfl rfl ?_
    refine g_callW (As := [.ref cj, .ref o]) (rest := []) (wr := [u9]) X hnc (w1_L_add l v cj o  w9 f (fun w => IC9 v cj P n lo hi H c tx ln w) ({ frames := 8, cells := 1, slots := 6, locals := 173 }) hq rfl rfl (by decide) (by decide) (Cb_X6_add l v hst cj hC hW hL  hok)) f_L_add q_16_13 dL_law_198 [0, 2] [1] rfl rfl (by decide) rfl rfl (Nat.le_of_ble_eq_true rfl) ⟨rfl, rfl, by decide +kernel, by decide +kernel, (by show _ ≤ 601024; omega), (by show _ ≤ 7293034; omega)⟩ (fun r_ w_ hp4 => ?_)
    obtain ⟨rfl, w1, hC1, rfl⟩ := hp4
    show GG k _ _ [w1, cOut v o f, u9] _ _ [.int (nI 1)]
    refine g_pick (cs' := [w1, u9, cOut v o f]) [0, 2, 1] rfl rfl ?_
    refine g_istore (lv' := [(5, .int (nI 1)), (4, .int (nI i)), (0, .ref b), (1, .ref cj), (2, .ref mz), (3, .ref o)]) X dL_law_201 (by decide) rfl ?_
    refine g_aload_n X dL_law_203 4 rfl rfl ?_
    refine g_callV (As := []) (rest := []) (wr := [w1, cOut v o f]) X (Mb_X7_add l v hM hW hL  hok) f_X7_add q_17_1 dL_law_204 [1] [0, 2] rfl rfl (by decide) 0 hqM rfl rfl rfl (Nat.le_of_ble_eq_true rfl) ⟨rfl, rfl, by decide +kernel, by decide +kernel, (by show _ ≤ 601024; omega), (by show _ ≤ 7293034; omega)⟩ (fun r_ w_ hp5 => ?_)
    obtain ⟨rfl, u1, hM1, rfl⟩ := hp5
    obtain ⟨fs7, hqN⟩ := IM9_hd hM1
    show GG k _ _ [u1, w1, cOut v o f] _ _ [.int (nI 0)]
    refine g_pick (cs' := [w1, u1, cOut v o f]) [1, 0, 2] rfl rfl ?_
    refine g_istore (lv' := [(6, .int (nI 0)), (5, .int (nI 1)), (4, .int (nI i)), (0, .ref b), (1, .ref cj), (2, .ref mz), (3, .ref o)]) X dL_law_207 (by decide) rfl ?_
    refine g_aload_n X dL_law_209 5 rfl rfl ?_
    refine g_callV (As := []) (rest := []) (wr := [w1, cOut v o f]) X (Mc_X7_thrown l v hM1 hW hL) f_X7_thrown q_16_9 dL_law_210 [1] [0, 2] rfl rfl (by decide) 0 hqN rfl rfl rfl (Nat.le_of_ble_eq_true rfl) ⟨rfl, rfl, by decide +kernel, by decide +kernel, (by show _ ≤ 601024; omega), (by show _ ≤ 7293034; omega)⟩ (fun r_ w_ hp6 => ?_)
    obtain ⟨rfl, u2, hM2, rfl⟩ := hp6
    show GG k _ _ [u2, w1, cOut v o f] _ _ [.int (nI 1)]
    refine g_pick (cs' := [w1, u2, cOut v o f]) [1, 0, 2] rfl rfl ?_
    refine g_iload X dL_law_213 1 rfl ?_
    refine g_icmp_eqN (tgt := 220) X dL_law_215 (by decide) (by omega) (by omega) (fun c215 => ?_) (fun c215 => ?_)
    · refine g_iload X dL_law_220 1 rfl ?_
      refine g_if_neN (tgt := 237) X dL_law_222 (by decide) (by omega) (fun c222 => ?_) (fun c222 => ?_)
      · refine g_goto (tgt := 1328) X dL_law_237 (by decide) ?_
        refine g_lv (lv' := [(4, .int (nI i)), (0, .ref b), (1, .ref cj), (2, .ref mz), (3, .ref o)]) [2, 3, 4, 5, 6] rfl ?_
        exact KN hC1 hM2 hW hL (by omega) (by omega)
      · exact absurd c222 (by decide)
    · exact absurd c215 (by decide)

set_option maxHeartbeats 4000000 in
set_option maxRecDepth 100000 in
theorem op_removeLast {k : KX} {l : Launch} {v : VV} {cj mz o b L i ce sl : Nat} {xs : Nat → Int32} (X : CX k l v cL_law "ClaimJudgeLaw" room_1 9) (hs : SCk k b L xs) (hnc : NCk k) (hst : l.stackTraces = false) (hL9 : L ≤ 2560) {P : Nat → S9} {n : Nat} {lo hi : Nat → Nat} {H : Nat → HE9} {c : Nat} {tx : Nat → Nat} {ln : Nat} {th : Int32} {w9 u9 : va_W} {f : Nat → Int64} (hC : IC9 v cj P n lo hi H c tx ln w9) (hM : IM9 v mz P n lo hi H c tx ln th u9) (hW : WF P n) (hL : AsW lo hi) (hi9 : i + 4 < L) (hce : ce + 1 ≤ 601024) (hsl : sl + 6 ≤ 7293034) (KN : NX9 k v cj mz o b i ce sl) : GG k ce sl [w9, u9, cOut v o f] [(4, .int (nI i)), (0, .ref b), (1, .ref cj), (2, .ref mz), (3, .ref o)] 240 [] := by
  obtain ⟨fs9, hq⟩ := IC9_hd hC
  obtain ⟨fs8, hqM⟩ := IM9_hd hM
  have hn12 := hW.1
  have hT6 := IC9_T hC
  by_cases hok : 0 < n
  · refine g_aload_n X dL_law_240 2 rfl rfl ?_
    refine g_aload_n X dL_law_241 4 rfl rfl ?_
    refine g_callW (As := [.ref cj, .ref o]) (rest := []) (wr := [u9]) X hnc (w_L_removeLast l v cj o  w9 f (fun w => IC9 v cj (dr9 P (n - 1)) (n - 1) lo hi (hS9 H c (P, n, lo, hi)) (hC9 c) tx ln w) ({ frames := 5, cells := 0, slots := 0, locals := 112 }) (nI (n - 1)) hq rfl rfl (by decide) (by decide) (Cc_X6_removeLast l v cj hC hW hL  hok)) f_L_removeLast q_17_5 dL_law_242 [0, 2] [1] rfl rfl (by decide) rfl rfl (Nat.le_of_ble_eq_true rfl) ⟨rfl, rfl, by decide +kernel, by decide +kernel, (by show _ ≤ 601024; omega), (by show _ ≤ 7293034; omega)⟩ (fun r_ w_ hp1 => ?_)
    obtain ⟨rfl, w1, f1, hC1, hf1, rfl⟩ := hp1
    show GG k _ _ [w1, cOut v o f1, u9] _ _ [.int (nI 0)]
    refine g_pick (cs' := [w1, u9, cOut v o f1]) [0, 2, 1] rfl rfl ?_
    refine g_istore (lv' := [(5, .int (nI 0)), (4, .int (nI i)), (0, .ref b), (1, .ref cj), (2, .ref mz), (3, .ref o)]) X dL_law_245 (by decide) rfl ?_
    refine g_aload_n X dL_law_247 4 rfl rfl ?_
    refine g_callV (As := []) (rest := []) (wr := [w1, cOut v o f1]) X (Mc_X7_removeLast l v hM hW hL  hok) f_X7_removeLast q_17_19 dL_law_248 [1] [0, 2] rfl rfl (by decide) 0 hqM rfl rfl rfl (Nat.le_of_ble_eq_true rfl) ⟨rfl, rfl, by decide +kernel, by decide +kernel, (by show _ ≤ 601024; omega), (by show _ ≤ 7293034; omega)⟩ (fun r_ w_ hp2 => ?_)
    obtain ⟨rfl, u1, hM1, rfl⟩ := hp2
    obtain ⟨fs7, hqN⟩ := IM9_hd hM1
    show GG k _ _ [u1, w1, cOut v o f1] _ _ [.int (nI (n - 1))]
    refine g_pick (cs' := [w1, u1, cOut v o f1]) [1, 0, 2] rfl rfl ?_
    refine g_istore (lv' := [(6, .int (nI (n - 1))), (5, .int (nI 0)), (4, .int (nI i)), (0, .ref b), (1, .ref cj), (2, .ref mz), (3, .ref o)]) X dL_law_251 (by decide) rfl ?_
    refine g_aload_n X dL_law_253 5 rfl rfl ?_
    refine g_callV (As := []) (rest := []) (wr := [w1, cOut v o f1]) X (Mc_X7_thrown l v hM1 (WF_dr hW hok) hL) f_X7_thrown q_16_9 dL_law_254 [1] [0, 2] rfl rfl (by decide) 0 hqN rfl rfl rfl (Nat.le_of_ble_eq_true rfl) ⟨rfl, rfl, by decide +kernel, by decide +kernel, (by show _ ≤ 601024; omega), (by show _ ≤ 7293034; omega)⟩ (fun r_ w_ hp3 => ?_)
    obtain ⟨rfl, u2, hM2, rfl⟩ := hp3
    show GG k _ _ [u2, w1, cOut v o f1] _ _ [.int (nI 0)]
    refine g_pick (cs' := [w1, u2, cOut v o f1]) [1, 0, 2] rfl rfl ?_
    refine g_iload X dL_law_257 1 rfl ?_
    refine g_icmp_eqN (tgt := 264) X dL_law_259 (by decide) (by omega) (by omega) (fun c259 => ?_) (fun c259 => ?_)
    · refine g_iload X dL_law_264 1 rfl ?_
      refine g_if_neN (tgt := 281) X dL_law_266 (by decide) (by omega) (fun c266 => ?_) (fun c266 => ?_)
      · exact absurd rfl c266
      · refine g_aload_n X dL_law_269 6 rfl rfl ?_
        refine g_iconst (x := nI 0) X dL_law_270 (by decide +kernel) ?_
        refine g_lald X dL_law_271 2 0 rfl rfl (by omega) (by omega) ?_
        refine g_vl (y := (nI (n - 1)).toInt64) (hf1) ?_
        refine g_iload X dL_law_272 0 rfl ?_
        refine g_i2l X dL_law_274 rfl ?_
        refine g_lcmp X dL_law_275 ?_
        refine g_v (y := nI 0) (lg_self _) ?_
        refine g_if_eqN (tgt := 281) X dL_law_276 (by decide) (by omega) (fun c276 => ?_) (fun c276 => ?_)
        · refine g_goto (tgt := 1328) X dL_law_281 (by decide) ?_
          refine g_lv (lv' := [(4, .int (nI i)), (0, .ref b), (1, .ref cj), (2, .ref mz), (3, .ref o)]) [2, 3, 4, 5, 6] rfl ?_
          exact KN hC1 hM2 (WF_dr hW hok) hL (by omega) (by omega)
        · exact absurd rfl c276
    · exact absurd c259 (by decide)
  · obtain rfl : n = 0 := by omega
    refine g_aload_n X dL_law_240 2 rfl rfl ?_
    refine g_aload_n X dL_law_241 4 rfl rfl ?_
    refine g_callW (As := [.ref cj, .ref o]) (rest := []) (wr := [u9]) X hnc (w1_L_removeLast l v cj o  w9 f (fun w => IC9 v cj P 0 lo hi H c tx ln w) ({ frames := 7, cells := 1, slots := 6, locals := 120 }) hq rfl rfl (by decide) (by decide) (Cb_X6_removeLast l v hst cj hC hW hL  )) f_L_removeLast q_17_5 dL_law_242 [0, 2] [1] rfl rfl (by decide) rfl rfl (Nat.le_of_ble_eq_true rfl) ⟨rfl, rfl, by decide +kernel, by decide +kernel, (by show _ ≤ 601024; omega), (by show _ ≤ 7293034; omega)⟩ (fun r_ w_ hp4 => ?_)
    obtain ⟨rfl, w1, hC1, rfl⟩ := hp4
    show GG k _ _ [w1, cOut v o f, u9] _ _ [.int (nI 1)]
    refine g_pick (cs' := [w1, u9, cOut v o f]) [0, 2, 1] rfl rfl ?_
    refine g_istore (lv' := [(5, .int (nI 1)), (4, .int (nI i)), (0, .ref b), (1, .ref cj), (2, .ref mz), (3, .ref o)]) X dL_law_245 (by decide) rfl ?_
    refine g_aload_n X dL_law_247 4 rfl rfl ?_
    refine g_callV (As := []) (rest := []) (wr := [w1, cOut v o f]) X (Mb_X7_removeLast l v hM hW hL  ) f_X7_removeLast q_17_19 dL_law_248 [1] [0, 2] rfl rfl (by decide) 0 hqM rfl rfl rfl (Nat.le_of_ble_eq_true rfl) ⟨rfl, rfl, by decide +kernel, by decide +kernel, (by show _ ≤ 601024; omega), (by show _ ≤ 7293034; omega)⟩ (fun r_ w_ hp5 => ?_)
    obtain ⟨rfl, u1, hM1, rfl⟩ := hp5
    obtain ⟨fs7, hqN⟩ := IM9_hd hM1
    show GG k _ _ [u1, w1, cOut v o f] _ _ [.int (nI 0)]
    refine g_pick (cs' := [w1, u1, cOut v o f]) [1, 0, 2] rfl rfl ?_
    refine g_istore (lv' := [(6, .int (nI 0)), (5, .int (nI 1)), (4, .int (nI i)), (0, .ref b), (1, .ref cj), (2, .ref mz), (3, .ref o)]) X dL_law_251 (by decide) rfl ?_
    refine g_aload_n X dL_law_253 5 rfl rfl ?_
    refine g_callV (As := []) (rest := []) (wr := [w1, cOut v o f]) X (Mc_X7_thrown l v hM1 hW hL) f_X7_thrown q_16_9 dL_law_254 [1] [0, 2] rfl rfl (by decide) 0 hqN rfl rfl rfl (Nat.le_of_ble_eq_true rfl) ⟨rfl, rfl, by decide +kernel, by decide +kernel, (by show _ ≤ 601024; omega), (by show _ ≤ 7293034; omega)⟩ (fun r_ w_ hp6 => ?_)
    obtain ⟨rfl, u2, hM2, rfl⟩ := hp6
    show GG k _ _ [u2, w1, cOut v o f] _ _ [.int (nI 1)]
    refine g_pick (cs' := [w1, u2, cOut v o f]) [1, 0, 2] rfl rfl ?_
    refine g_iload X dL_law_257 1 rfl ?_
    refine g_icmp_eqN (tgt := 264) X dL_law_259 (by decide) (by omega) (by omega) (fun c259 => ?_) (fun c259 => ?_)
    · refine g_iload X dL_law_264 1 rfl ?_
      refine g_if_neN (tgt := 281) X dL_law_266 (by decide) (by omega) (fun c266 => ?_) (fun c266 => ?_)
      · refine g_goto (tgt := 1328) X dL_law_281 (by decide) ?_
        refine g_lv (lv' := [(4, .int (nI i)), (0, .ref b), (1, .ref cj), (2, .ref mz), (3, .ref o)]) [2, 3, 4, 5, 6] rfl ?_
        exact KN hC1 hM2 hW hL (by omega) (by omega)
      · exact absurd c266 (by decide)
    · exact absurd c259 (by decide)

set_option maxHeartbeats 4000000 in
set_option maxRecDepth 100000 in
theorem op_statements {k : KX} {l : Launch} {v : VV} {cj mz o b L i ce sl : Nat} {xs : Nat → Int32} (X : CX k l v cL_law "ClaimJudgeLaw" room_1 9) (hs : SCk k b L xs) (hnc : NCk k) (hst : l.stackTraces = false) (hL9 : L ≤ 2560) {P : Nat → S9} {n : Nat} {lo hi : Nat → Nat} {H : Nat → HE9} {c : Nat} {tx : Nat → Nat} {ln : Nat} {th : Int32} {w9 u9 : va_W} {f : Nat → Int64} (hC : IC9 v cj P n lo hi H c tx ln w9) (hM : IM9 v mz P n lo hi H c tx ln th u9) (hW : WF P n) (hL : AsW lo hi) (hi9 : i + 4 < L) (hce : ce + 1 ≤ 601024) (hsl : sl + 6 ≤ 7293034) (KN : NX9 k v cj mz o b i ce sl) : GG k ce sl [w9, u9, cOut v o f] [(4, .int (nI i)), (0, .ref b), (1, .ref cj), (2, .ref mz), (3, .ref o)] 284 [] := by
  obtain ⟨fs9, hq⟩ := IC9_hd hC
  obtain ⟨fs8, hqM⟩ := IM9_hd hM
  have hn12 := hW.1
  have hT6 := IC9_T hC
  refine g_aload_n X dL_law_284 2 rfl rfl ?_
  refine g_callV (As := []) (rest := []) (wr := [u9, cOut v o f]) X (Cc_X6_statements l v cj hC hW hL) f_X6_statements q_18_2 dL_law_285 [0] [1, 2] rfl rfl (by decide) 0 hq rfl rfl rfl (Nat.le_of_ble_eq_true rfl) ⟨rfl, rfl, by decide +kernel, by decide +kernel, (by show _ ≤ 601024; omega), (by show _ ≤ 7293034; omega)⟩ (fun r_ w_ hp1 => ?_)
  obtain ⟨rfl, w1, hC1, rfl⟩ := hp1
  show GG k _ _ [w1, u9, cOut v o f] _ _ [.int (nI n)]
  refine g_aload_n X dL_law_288 3 rfl rfl ?_
  refine g_callV (As := []) (rest := [.int (nI n)]) (wr := [w1, cOut v o f]) X (Mc_X7_statements l v hM hW hL  ) f_X7_statements q_18_6 dL_law_289 [1] [0, 2] rfl rfl (by decide) 0 hqM rfl rfl rfl (Nat.le_of_ble_eq_true rfl) ⟨rfl, rfl, by decide +kernel, by decide +kernel, (by show _ ≤ 601024; omega), (by show _ ≤ 7293034; omega)⟩ (fun r_ w_ hp2 => ?_)
  obtain ⟨rfl, u1, hM1, rfl⟩ := hp2
  obtain ⟨fs7, hqN⟩ := IM9_hd hM1
  show GG k _ _ [u1, w1, cOut v o f] _ _ [.int (nI n), .int (nI n)]
  refine g_pick (cs' := [w1, u1, cOut v o f]) [1, 0, 2] rfl rfl ?_
  refine g_icmp_eq (tgt := 1328) X dL_law_292 (by decide) (fun c292 => ?_) (fun c292 => ?_)
  · exact KN hC1 hM1 hW hL (by omega) (by omega)
  · exact absurd rfl c292

set_option maxHeartbeats 4000000 in
set_option maxRecDepth 100000 in
theorem op_kind {k : KX} {l : Launch} {v : VV} {cj mz o b L i ce sl : Nat} {xs : Nat → Int32} (X : CX k l v cL_law "ClaimJudgeLaw" room_1 9) (hs : SCk k b L xs) (hnc : NCk k) (hst : l.stackTraces = false) (hL9 : L ≤ 2560) {P : Nat → S9} {n : Nat} {lo hi : Nat → Nat} {H : Nat → HE9} {c : Nat} {tx : Nat → Nat} {ln : Nat} {th : Int32} {w9 u9 : va_W} {f : Nat → Int64} (hC : IC9 v cj P n lo hi H c tx ln w9) (hM : IM9 v mz P n lo hi H c tx ln th u9) (hW : WF P n) (hL : AsW lo hi) (hi9 : i + 4 < L) (hce : ce + 1 ≤ 601024) (hsl : sl + 6 ≤ 7293034) (KN : NX9 k v cj mz o b i ce sl) : GG k ce sl [w9, u9, cOut v o f] [(4, .int (nI i)), (0, .ref b), (1, .ref cj), (2, .ref mz), (3, .ref o)] 297 [] := by
  obtain ⟨fs9, hq⟩ := IC9_hd hC
  obtain ⟨fs8, hqM⟩ := IM9_hd hM
  have hn12 := hW.1
  have hT6 := IC9_T hC
  rcases rng9 (xs (i + 1)) (n := n) (by omega) with ⟨i0, h0, e0⟩ | h0
  · refine g_aload_n X dL_law_297 2 rfl rfl ?_
    refine g_aload_n X dL_law_298 1 rfl rfl ?_
    refine g_iload X dL_law_299 0 rfl ?_
    refine g_iconst (x := nI 1) X dL_law_301 (by decide +kernel) ?_
    refine g_iaddN X dL_law_302 ?_
    refine g_sld X hs dL_law_303 (by omega) hL9 ?_
    refine g_v (y := nI i0) (e0) ?_
    refine g_aload_n X dL_law_304 4 rfl rfl ?_
    refine g_callW (As := [.ref cj, .int (nI i0), .ref o]) (rest := []) (wr := [u9]) X hnc (w_L_kind l v cj o (nI i0) w9 f (fun w => IC9 v cj P n lo hi H c tx ln w) ({ frames := 7, cells := 0, slots := 0, locals := 111 }) (nI (P i0).1) hq rfl rfl (by decide) (by decide) (Cc_X6_kind l v cj hC hW hL i0 h0)) f_L_kind q_18_10 dL_law_305 [0, 2] [1] rfl rfl (by decide) rfl rfl (Nat.le_of_ble_eq_true rfl) ⟨rfl, rfl, by decide +kernel, by decide +kernel, (by show _ ≤ 601024; omega), (by show _ ≤ 7293034; omega)⟩ (fun r_ w_ hp1 => ?_)
    obtain ⟨rfl, w1, f1, hC1, hf1, rfl⟩ := hp1
    show GG k _ _ [w1, cOut v o f1, u9] _ _ [.int (nI 0)]
    refine g_pick (cs' := [w1, u9, cOut v o f1]) [0, 2, 1] rfl rfl ?_
    refine g_istore (lv' := [(5, .int (nI 0)), (4, .int (nI i)), (0, .ref b), (1, .ref cj), (2, .ref mz), (3, .ref o)]) X dL_law_308 (by decide) rfl ?_
    refine g_aload_n X dL_law_310 4 rfl rfl ?_
    refine g_aload_n X dL_law_311 2 rfl rfl ?_
    refine g_iload X dL_law_312 1 rfl ?_
    refine g_iconst (x := nI 1) X dL_law_314 (by decide +kernel) ?_
    refine g_iaddN X dL_law_315 ?_
    refine g_sld X hs dL_law_316 (by omega) hL9 ?_
    refine g_v (y := nI i0) (e0) ?_
    refine g_callV (As := [.int (nI i0)]) (rest := []) (wr := [w1, cOut v o f1]) X (Mc_X7_kind l v hM hW hL i0 h0) f_X7_kind q_18_23 dL_law_317 [1] [0, 2] rfl rfl (by decide) 0 hqM rfl rfl rfl (Nat.le_of_ble_eq_true rfl) ⟨rfl, rfl, by decide +kernel, by decide +kernel, (by show _ ≤ 601024; omega), (by show _ ≤ 7293034; omega)⟩ (fun r_ w_ hp2 => ?_)
    obtain ⟨rfl, u1, hM1, rfl⟩ := hp2
    obtain ⟨fs7, hqN⟩ := IM9_hd hM1
    show GG k _ _ [u1, w1, cOut v o f1] _ _ [.int (nI (P i0).1)]
    refine g_pick (cs' := [w1, u1, cOut v o f1]) [1, 0, 2] rfl rfl ?_
    refine g_istore (lv' := [(6, .int (nI (P i0).1)), (5, .int (nI 0)), (4, .int (nI i)), (0, .ref b), (1, .ref cj), (2, .ref mz), (3, .ref o)]) X dL_law_320 (by decide) rfl ?_
    refine g_aload_n X dL_law_322 5 rfl rfl ?_
    refine g_callV (As := []) (rest := []) (wr := [w1, cOut v o f1]) X (Mc_X7_thrown l v hM1 hW hL) f_X7_thrown q_16_9 dL_law_323 [1] [0, 2] rfl rfl (by decide) 0 hqN rfl rfl rfl (Nat.le_of_ble_eq_true rfl) ⟨rfl, rfl, by decide +kernel, by decide +kernel, (by show _ ≤ 601024; omega), (by show _ ≤ 7293034; omega)⟩ (fun r_ w_ hp3 => ?_)
    obtain ⟨rfl, u2, hM2, rfl⟩ := hp3
    show GG k _ _ [u2, w1, cOut v o f1] _ _ [.int (nI 0)]
    refine g_pick (cs' := [w1, u2, cOut v o f1]) [1, 0, 2] rfl rfl ?_
    refine g_iload X dL_law_326 1 rfl ?_
    refine g_icmp_eqN (tgt := 333) X dL_law_328 (by decide) (by omega) (by omega) (fun c328 => ?_) (fun c328 => ?_)
    · refine g_iload X dL_law_333 1 rfl ?_
      refine g_if_neN (tgt := 350) X dL_law_335 (by decide) (by omega) (fun c335 => ?_) (fun c335 => ?_)
      · exact absurd rfl c335
      · refine g_aload_n X dL_law_338 6 rfl rfl ?_
        refine g_iconst (x := nI 0) X dL_law_339 (by decide +kernel) ?_
        refine g_lald X dL_law_340 2 0 rfl rfl (by omega) (by omega) ?_
        refine g_vl (y := (nI (P i0).1).toInt64) (hf1) ?_
        refine g_iload X dL_law_341 0 rfl ?_
        refine g_i2l X dL_law_343 rfl ?_
        refine g_lcmp X dL_law_344 ?_
        refine g_v (y := nI 0) (lg_self _) ?_
        refine g_if_eqN (tgt := 350) X dL_law_345 (by decide) (by omega) (fun c345 => ?_) (fun c345 => ?_)
        · refine g_goto (tgt := 1328) X dL_law_350 (by decide) ?_
          refine g_lv (lv' := [(4, .int (nI i)), (0, .ref b), (1, .ref cj), (2, .ref mz), (3, .ref o)]) [2, 3, 4, 5, 6] rfl ?_
          exact KN hC1 hM2 hW hL (by omega) (by omega)
        · exact absurd rfl c345
    · exact absurd c328 (by decide)
  · refine g_aload_n X dL_law_297 2 rfl rfl ?_
    refine g_aload_n X dL_law_298 1 rfl rfl ?_
    refine g_iload X dL_law_299 0 rfl ?_
    refine g_iconst (x := nI 1) X dL_law_301 (by decide +kernel) ?_
    refine g_iaddN X dL_law_302 ?_
    refine g_sld X hs dL_law_303 (by omega) hL9 ?_
    refine g_aload_n X dL_law_304 4 rfl rfl ?_
    refine g_callW (As := [.ref cj, .int (xs (i + 1)), .ref o]) (rest := []) (wr := [u9]) X hnc (w1_L_kind l v cj o (xs (i + 1)) w9 f (fun w => IC9 v cj P n lo hi H c tx ln w) ({ frames := 7, cells := 1, slots := 6, locals := 120 }) hq rfl rfl (by decide) (by decide) (Cb_X6_kind l v hst cj hC hW hL (xs (i + 1)) h0)) f_L_kind q_18_10 dL_law_305 [0, 2] [1] rfl rfl (by decide) rfl rfl (Nat.le_of_ble_eq_true rfl) ⟨rfl, rfl, by decide +kernel, by decide +kernel, (by show _ ≤ 601024; omega), (by show _ ≤ 7293034; omega)⟩ (fun r_ w_ hp4 => ?_)
    obtain ⟨rfl, w1, hC1, rfl⟩ := hp4
    show GG k _ _ [w1, cOut v o f, u9] _ _ [.int (nI 1)]
    refine g_pick (cs' := [w1, u9, cOut v o f]) [0, 2, 1] rfl rfl ?_
    refine g_istore (lv' := [(5, .int (nI 1)), (4, .int (nI i)), (0, .ref b), (1, .ref cj), (2, .ref mz), (3, .ref o)]) X dL_law_308 (by decide) rfl ?_
    refine g_aload_n X dL_law_310 4 rfl rfl ?_
    refine g_aload_n X dL_law_311 2 rfl rfl ?_
    refine g_iload X dL_law_312 1 rfl ?_
    refine g_iconst (x := nI 1) X dL_law_314 (by decide +kernel) ?_
    refine g_iaddN X dL_law_315 ?_
    refine g_sld X hs dL_law_316 (by omega) hL9 ?_
    refine g_callV (As := [.int (xs (i + 1))]) (rest := []) (wr := [w1, cOut v o f]) X (Mb_X7_kind l v hM hW hL (xs (i + 1)) h0) f_X7_kind q_18_23 dL_law_317 [1] [0, 2] rfl rfl (by decide) 0 hqM rfl rfl rfl (Nat.le_of_ble_eq_true rfl) ⟨rfl, rfl, by decide +kernel, by decide +kernel, (by show _ ≤ 601024; omega), (by show _ ≤ 7293034; omega)⟩ (fun r_ w_ hp5 => ?_)
    obtain ⟨rfl, u1, hM1, rfl⟩ := hp5
    obtain ⟨fs7, hqN⟩ := IM9_hd hM1
    show GG k _ _ [u1, w1, cOut v o f] _ _ [.int (nI 0)]
    refine g_pick (cs' := [w1, u1, cOut v o f]) [1, 0, 2] rfl rfl ?_
    refine g_istore (lv' := [(6, .int (nI 0)), (5, .int (nI 1)), (4, .int (nI i)), (0, .ref b), (1, .ref cj), (2, .ref mz), (3, .ref o)]) X dL_law_320 (by decide) rfl ?_
    refine g_aload_n X dL_law_322 5 rfl rfl ?_
    refine g_callV (As := []) (rest := []) (wr := [w1, cOut v o f]) X (Mc_X7_thrown l v hM1 hW hL) f_X7_thrown q_16_9 dL_law_323 [1] [0, 2] rfl rfl (by decide) 0 hqN rfl rfl rfl (Nat.le_of_ble_eq_true rfl) ⟨rfl, rfl, by decide +kernel, by decide +kernel, (by show _ ≤ 601024; omega), (by show _ ≤ 7293034; omega)⟩ (fun r_ w_ hp6 => ?_)
    obtain ⟨rfl, u2, hM2, rfl⟩ := hp6
    show GG k _ _ [u2, w1, cOut v o f] _ _ [.int (nI 1)]
    refine g_pick (cs' := [w1, u2, cOut v o f]) [1, 0, 2] rfl rfl ?_
    refine g_iload X dL_law_326 1 rfl ?_
    refine g_icmp_eqN (tgt := 333) X dL_law_328 (by decide) (by omega) (by omega) (fun c328 => ?_) (fun c328 => ?_)
    · refine g_iload X dL_law_333 1 rfl ?_
      refine g_if_neN (tgt := 350) X dL_law_335 (by decide) (by omega) (fun c335 => ?_) (fun c335 => ?_)
      · refine g_goto (tgt := 1328) X dL_law_350 (by decide) ?_
        refine g_lv (lv' := [(4, .int (nI i)), (0, .ref b), (1, .ref cj), (2, .ref mz), (3, .ref o)]) [2, 3, 4, 5, 6] rfl ?_
        exact KN hC1 hM2 hW hL (by omega) (by omega)
      · exact absurd c335 (by decide)
    · exact absurd c328 (by decide)

set_option maxHeartbeats 4000000 in
set_option maxRecDepth 100000 in
theorem op_target {k : KX} {l : Launch} {v : VV} {cj mz o b L i ce sl : Nat} {xs : Nat → Int32} (X : CX k l v cL_law "ClaimJudgeLaw" room_1 9) (hs : SCk k b L xs) (hnc : NCk k) (hst : l.stackTraces = false) (hL9 : L ≤ 2560) {P : Nat → S9} {n : Nat} {lo hi : Nat → Nat} {H : Nat → HE9} {c : Nat} {tx : Nat → Nat} {ln : Nat} {th : Int32} {w9 u9 : va_W} {f : Nat → Int64} (hC : IC9 v cj P n lo hi H c tx ln w9) (hM : IM9 v mz P n lo hi H c tx ln th u9) (hW : WF P n) (hL : AsW lo hi) (hi9 : i + 4 < L) (hce : ce + 1 ≤ 601024) (hsl : sl + 6 ≤ 7293034) (KN : NX9 k v cj mz o b i ce sl) : GG k ce sl [w9, u9, cOut v o f] [(4, .int (nI i)), (0, .ref b), (1, .ref cj), (2, .ref mz), (3, .ref o)] 353 [] := by
  obtain ⟨fs9, hq⟩ := IC9_hd hC
  obtain ⟨fs8, hqM⟩ := IM9_hd hM
  have hn12 := hW.1
  have hT6 := IC9_T hC
  rcases rng9 (xs (i + 1)) (n := n) (by omega) with ⟨i0, h0, e0⟩ | h0
  · refine g_aload_n X dL_law_353 2 rfl rfl ?_
    refine g_aload_n X dL_law_354 1 rfl rfl ?_
    refine g_iload X dL_law_355 0 rfl ?_
    refine g_iconst (x := nI 1) X dL_law_357 (by decide +kernel) ?_
    refine g_iaddN X dL_law_358 ?_
    refine g_sld X hs dL_law_359 (by omega) hL9 ?_
    refine g_v (y := nI i0) (e0) ?_
    refine g_aload_n X dL_law_360 4 rfl rfl ?_
    refine g_callW (As := [.ref cj, .int (nI i0), .ref o]) (rest := []) (wr := [u9]) X hnc (w_L_target l v cj o (nI i0) w9 f (fun w => IC9 v cj P n lo hi H c tx ln w) ({ frames := 7, cells := 0, slots := 0, locals := 111 }) (zI (tg9 (P i0))) hq rfl rfl (by decide) (by decide) (Cc_X6_target l v cj hC hW hL i0 h0)) f_L_target q_19_7 dL_law_361 [0, 2] [1] rfl rfl (by decide) rfl rfl (Nat.le_of_ble_eq_true rfl) ⟨rfl, rfl, by decide +kernel, by decide +kernel, (by show _ ≤ 601024; omega), (by show _ ≤ 7293034; omega)⟩ (fun r_ w_ hp1 => ?_)
    obtain ⟨rfl, w1, f1, hC1, hf1, rfl⟩ := hp1
    show GG k _ _ [w1, cOut v o f1, u9] _ _ [.int (nI 0)]
    refine g_pick (cs' := [w1, u9, cOut v o f1]) [0, 2, 1] rfl rfl ?_
    refine g_istore (lv' := [(5, .int (nI 0)), (4, .int (nI i)), (0, .ref b), (1, .ref cj), (2, .ref mz), (3, .ref o)]) X dL_law_364 (by decide) rfl ?_
    refine g_aload_n X dL_law_366 4 rfl rfl ?_
    refine g_aload_n X dL_law_367 2 rfl rfl ?_
    refine g_iload X dL_law_368 1 rfl ?_
    refine g_iconst (x := nI 1) X dL_law_370 (by decide +kernel) ?_
    refine g_iaddN X dL_law_371 ?_
    refine g_sld X hs dL_law_372 (by omega) hL9 ?_
    refine g_v (y := nI i0) (e0) ?_
    refine g_callV (As := [.int (nI i0)]) (rest := []) (wr := [w1, cOut v o f1]) X (Mc_X7_target l v hM hW hL i0 h0) f_X7_target q_19_14 dL_law_373 [1] [0, 2] rfl rfl (by decide) 0 hqM rfl rfl rfl (Nat.le_of_ble_eq_true rfl) ⟨rfl, rfl, by decide +kernel, by decide +kernel, (by show _ ≤ 601024; omega), (by show _ ≤ 7293034; omega)⟩ (fun r_ w_ hp2 => ?_)
    obtain ⟨rfl, u1, hM1, rfl⟩ := hp2
    obtain ⟨fs7, hqN⟩ := IM9_hd hM1
    show GG k _ _ [u1, w1, cOut v o f1] _ _ [.int (zI (tg9 (P i0)))]
    refine g_pick (cs' := [w1, u1, cOut v o f1]) [1, 0, 2] rfl rfl ?_
    refine g_istore (lv' := [(6, .int (zI (tg9 (P i0)))), (5, .int (nI 0)), (4, .int (nI i)), (0, .ref b), (1, .ref cj), (2, .ref mz), (3, .ref o)]) X dL_law_376 (by decide) rfl ?_
    refine g_aload_n X dL_law_378 5 rfl rfl ?_
    refine g_callV (As := []) (rest := []) (wr := [w1, cOut v o f1]) X (Mc_X7_thrown l v hM1 hW hL) f_X7_thrown q_16_9 dL_law_379 [1] [0, 2] rfl rfl (by decide) 0 hqN rfl rfl rfl (Nat.le_of_ble_eq_true rfl) ⟨rfl, rfl, by decide +kernel, by decide +kernel, (by show _ ≤ 601024; omega), (by show _ ≤ 7293034; omega)⟩ (fun r_ w_ hp3 => ?_)
    obtain ⟨rfl, u2, hM2, rfl⟩ := hp3
    show GG k _ _ [u2, w1, cOut v o f1] _ _ [.int (nI 0)]
    refine g_pick (cs' := [w1, u2, cOut v o f1]) [1, 0, 2] rfl rfl ?_
    refine g_iload X dL_law_382 1 rfl ?_
    refine g_icmp_eqN (tgt := 389) X dL_law_384 (by decide) (by omega) (by omega) (fun c384 => ?_) (fun c384 => ?_)
    · refine g_iload X dL_law_389 1 rfl ?_
      refine g_if_neN (tgt := 406) X dL_law_391 (by decide) (by omega) (fun c391 => ?_) (fun c391 => ?_)
      · exact absurd rfl c391
      · refine g_aload_n X dL_law_394 6 rfl rfl ?_
        refine g_iconst (x := nI 0) X dL_law_395 (by decide +kernel) ?_
        refine g_lald X dL_law_396 2 0 rfl rfl (by omega) (by omega) ?_
        refine g_vl (y := (zI (tg9 (P i0))).toInt64) (hf1) ?_
        refine g_iload X dL_law_397 0 rfl ?_
        refine g_i2l X dL_law_399 rfl ?_
        refine g_lcmp X dL_law_400 ?_
        refine g_v (y := nI 0) (lg_self _) ?_
        refine g_if_eqN (tgt := 406) X dL_law_401 (by decide) (by omega) (fun c401 => ?_) (fun c401 => ?_)
        · refine g_goto (tgt := 1328) X dL_law_406 (by decide) ?_
          refine g_lv (lv' := [(4, .int (nI i)), (0, .ref b), (1, .ref cj), (2, .ref mz), (3, .ref o)]) [2, 3, 4, 5, 6] rfl ?_
          exact KN hC1 hM2 hW hL (by omega) (by omega)
        · exact absurd rfl c401
    · exact absurd c384 (by decide)
  · refine g_aload_n X dL_law_353 2 rfl rfl ?_
    refine g_aload_n X dL_law_354 1 rfl rfl ?_
    refine g_iload X dL_law_355 0 rfl ?_
    refine g_iconst (x := nI 1) X dL_law_357 (by decide +kernel) ?_
    refine g_iaddN X dL_law_358 ?_
    refine g_sld X hs dL_law_359 (by omega) hL9 ?_
    refine g_aload_n X dL_law_360 4 rfl rfl ?_
    refine g_callW (As := [.ref cj, .int (xs (i + 1)), .ref o]) (rest := []) (wr := [u9]) X hnc (w1_L_target l v cj o (xs (i + 1)) w9 f (fun w => IC9 v cj P n lo hi H c tx ln w) ({ frames := 7, cells := 1, slots := 6, locals := 120 }) hq rfl rfl (by decide) (by decide) (Cb_X6_target l v hst cj hC hW hL (xs (i + 1)) h0)) f_L_target q_19_7 dL_law_361 [0, 2] [1] rfl rfl (by decide) rfl rfl (Nat.le_of_ble_eq_true rfl) ⟨rfl, rfl, by decide +kernel, by decide +kernel, (by show _ ≤ 601024; omega), (by show _ ≤ 7293034; omega)⟩ (fun r_ w_ hp4 => ?_)
    obtain ⟨rfl, w1, hC1, rfl⟩ := hp4
    show GG k _ _ [w1, cOut v o f, u9] _ _ [.int (nI 1)]
    refine g_pick (cs' := [w1, u9, cOut v o f]) [0, 2, 1] rfl rfl ?_
    refine g_istore (lv' := [(5, .int (nI 1)), (4, .int (nI i)), (0, .ref b), (1, .ref cj), (2, .ref mz), (3, .ref o)]) X dL_law_364 (by decide) rfl ?_
    refine g_aload_n X dL_law_366 4 rfl rfl ?_
    refine g_aload_n X dL_law_367 2 rfl rfl ?_
    refine g_iload X dL_law_368 1 rfl ?_
    refine g_iconst (x := nI 1) X dL_law_370 (by decide +kernel) ?_
    refine g_iaddN X dL_law_371 ?_
    refine g_sld X hs dL_law_372 (by omega) hL9 ?_
    refine g_callV (As := [.int (xs (i + 1))]) (rest := []) (wr := [w1, cOut v o f]) X (Mb_X7_target l v hM hW hL (xs (i + 1)) h0) f_X7_target q_19_14 dL_law_373 [1] [0, 2] rfl rfl (by decide) 0 hqM rfl rfl rfl (Nat.le_of_ble_eq_true rfl) ⟨rfl, rfl, by decide +kernel, by decide +kernel, (by show _ ≤ 601024; omega), (by show _ ≤ 7293034; omega)⟩ (fun r_ w_ hp5 => ?_)
    obtain ⟨rfl, u1, hM1, rfl⟩ := hp5
    obtain ⟨fs7, hqN⟩ := IM9_hd hM1
    show GG k _ _ [u1, w1, cOut v o f] _ _ [.int (nI 0)]
    refine g_pick (cs' := [w1, u1, cOut v o f]) [1, 0, 2] rfl rfl ?_
    refine g_istore (lv' := [(6, .int (nI 0)), (5, .int (nI 1)), (4, .int (nI i)), (0, .ref b), (1, .ref cj), (2, .ref mz), (3, .ref o)]) X dL_law_376 (by decide) rfl ?_
    refine g_aload_n X dL_law_378 5 rfl rfl ?_
    refine g_callV (As := []) (rest := []) (wr := [w1, cOut v o f]) X (Mc_X7_thrown l v hM1 hW hL) f_X7_thrown q_16_9 dL_law_379 [1] [0, 2] rfl rfl (by decide) 0 hqN rfl rfl rfl (Nat.le_of_ble_eq_true rfl) ⟨rfl, rfl, by decide +kernel, by decide +kernel, (by show _ ≤ 601024; omega), (by show _ ≤ 7293034; omega)⟩ (fun r_ w_ hp6 => ?_)
    obtain ⟨rfl, u2, hM2, rfl⟩ := hp6
    show GG k _ _ [u2, w1, cOut v o f] _ _ [.int (nI 1)]
    refine g_pick (cs' := [w1, u2, cOut v o f]) [1, 0, 2] rfl rfl ?_
    refine g_iload X dL_law_382 1 rfl ?_
    refine g_icmp_eqN (tgt := 389) X dL_law_384 (by decide) (by omega) (by omega) (fun c384 => ?_) (fun c384 => ?_)
    · refine g_iload X dL_law_389 1 rfl ?_
      refine g_if_neN (tgt := 406) X dL_law_391 (by decide) (by omega) (fun c391 => ?_) (fun c391 => ?_)
      · refine g_goto (tgt := 1328) X dL_law_406 (by decide) ?_
        refine g_lv (lv' := [(4, .int (nI i)), (0, .ref b), (1, .ref cj), (2, .ref mz), (3, .ref o)]) [2, 3, 4, 5, 6] rfl ?_
        exact KN hC1 hM2 hW hL (by omega) (by omega)
      · exact absurd c391 (by decide)
    · exact absurd c384 (by decide)

set_option maxHeartbeats 4000000 in
set_option maxRecDepth 100000 in
theorem op_run {k : KX} {l : Launch} {v : VV} {cj mz o b L i ce sl : Nat} {xs : Nat → Int32} (X : CX k l v cL_law "ClaimJudgeLaw" room_1 9) (hs : SCk k b L xs) (hnc : NCk k) (hst : l.stackTraces = false) (hL9 : L ≤ 2560) {P : Nat → S9} {n : Nat} {lo hi : Nat → Nat} {H : Nat → HE9} {c : Nat} {tx : Nat → Nat} {ln : Nat} {th : Int32} {w9 u9 : va_W} {f : Nat → Int64} (hC : IC9 v cj P n lo hi H c tx ln w9) (hM : IM9 v mz P n lo hi H c tx ln th u9) (hW : WF P n) (hL : AsW lo hi) (hi9 : i + 4 < L) (hce : ce + 1 ≤ 601024) (hsl : sl + 6 ≤ 7293034) (KN : NX9 k v cj mz o b i ce sl) : GG k ce sl [w9, u9, cOut v o f] [(4, .int (nI i)), (0, .ref b), (1, .ref cj), (2, .ref mz), (3, .ref o)] 409 [] := by
  obtain ⟨fs9, hq⟩ := IC9_hd hC
  obtain ⟨fs8, hqM⟩ := IM9_hd hM
  have hn12 := hW.1
  have hT6 := IC9_T hC
  rcases rng9 (xs (i + 1)) (n := 8) (by omega) with ⟨i0, h0, e0⟩ | h0
  · rcases rng9 (xs (i + 2)) (n := 8) (by omega) with ⟨i1, h1, e1⟩ | h1
    · rcases rng9 (xs (i + 3)) (n := 8) (by omega) with ⟨i2, h2, e2⟩ | h2
      · refine g_aload_n X dL_law_409 2 rfl rfl ?_
        refine g_aload_n X dL_law_410 1 rfl rfl ?_
        refine g_iload X dL_law_411 0 rfl ?_
        refine g_iconst (x := nI 1) X dL_law_413 (by decide +kernel) ?_
        refine g_iaddN X dL_law_414 ?_
        refine g_sld X hs dL_law_415 (by omega) hL9 ?_
        refine g_v (y := nI i0) (e0) ?_
        refine g_aload_n X dL_law_416 1 rfl rfl ?_
        refine g_iload X dL_law_417 0 rfl ?_
        refine g_iconst (x := nI 2) X dL_law_419 (by decide +kernel) ?_
        refine g_iaddN X dL_law_420 ?_
        refine g_sld X hs dL_law_421 (by omega) hL9 ?_
        refine g_v (y := nI i1) (e1) ?_
        refine g_aload_n X dL_law_422 1 rfl rfl ?_
        refine g_iload X dL_law_423 0 rfl ?_
        refine g_iconst (x := nI 3) X dL_law_425 (by decide +kernel) ?_
        refine g_iaddN X dL_law_426 ?_
        refine g_sld X hs dL_law_427 (by omega) hL9 ?_
        refine g_v (y := nI i2) (e2) ?_
        refine g_aload_n X dL_law_428 4 rfl rfl ?_
        refine g_callW (As := [.ref cj, .int (nI i0), .int (nI i1), .int (nI i2), .ref o]) (rest := []) (wr := [u9]) X hnc (w_L_run l v cj o (nI i0) (nI i1) (nI i2) w9 f (fun w => IC9 v cj P n lo hi H c tx ln w) ({ frames := 7, cells := 0, slots := 0, locals := 112 }) (zI (EE P n (64 * i0 + 8 * i1 + i2))) hq rfl rfl (by decide) (by decide) (Cc_X6_run l v cj hC hW hL i0 i1 i2 h0 h1 h2)) f_L_run q_19_22 dL_law_429 [0, 2] [1] rfl rfl (by decide) rfl rfl (Nat.le_of_ble_eq_true rfl) ⟨rfl, rfl, by decide +kernel, by decide +kernel, (by show _ ≤ 601024; omega), (by show _ ≤ 7293034; omega)⟩ (fun r_ w_ hp1 => ?_)
        obtain ⟨rfl, w1, f1, hC1, hf1, rfl⟩ := hp1
        show GG k _ _ [w1, cOut v o f1, u9] _ _ [.int (nI 0)]
        refine g_pick (cs' := [w1, u9, cOut v o f1]) [0, 2, 1] rfl rfl ?_
        refine g_istore (lv' := [(5, .int (nI 0)), (4, .int (nI i)), (0, .ref b), (1, .ref cj), (2, .ref mz), (3, .ref o)]) X dL_law_432 (by decide) rfl ?_
        refine g_aload_n X dL_law_434 4 rfl rfl ?_
        refine g_aload_n X dL_law_435 2 rfl rfl ?_
        refine g_iload X dL_law_436 1 rfl ?_
        refine g_iconst (x := nI 1) X dL_law_438 (by decide +kernel) ?_
        refine g_iaddN X dL_law_439 ?_
        refine g_sld X hs dL_law_440 (by omega) hL9 ?_
        refine g_v (y := nI i0) (e0) ?_
        refine g_aload_n X dL_law_441 2 rfl rfl ?_
        refine g_iload X dL_law_442 1 rfl ?_
        refine g_iconst (x := nI 2) X dL_law_444 (by decide +kernel) ?_
        refine g_iaddN X dL_law_445 ?_
        refine g_sld X hs dL_law_446 (by omega) hL9 ?_
        refine g_v (y := nI i1) (e1) ?_
        refine g_aload_n X dL_law_447 2 rfl rfl ?_
        refine g_iload X dL_law_448 1 rfl ?_
        refine g_iconst (x := nI 3) X dL_law_450 (by decide +kernel) ?_
        refine g_iaddN X dL_law_451 ?_
        refine g_sld X hs dL_law_452 (by omega) hL9 ?_
        refine g_v (y := nI i2) (e2) ?_
        refine g_callV (As := [.int (nI i0), .int (nI i1), .int (nI i2)]) (rest := []) (wr := [w1, cOut v o f1]) X (Mc_X7_run l v hM hW hL i0 i1 i2 h0 h1 h2) f_X7_run q_22_3 dL_law_453 [1] [0, 2] rfl rfl (by decide) 0 hqM rfl rfl rfl (Nat.le_of_ble_eq_true rfl) ⟨rfl, rfl, by decide +kernel, by decide +kernel, (by show _ ≤ 601024; omega), (by show _ ≤ 7293034; omega)⟩ (fun r_ w_ hp2 => ?_)
        obtain ⟨rfl, u1, hM1, rfl⟩ := hp2
        obtain ⟨fs7, hqN⟩ := IM9_hd hM1
        show GG k _ _ [u1, w1, cOut v o f1] _ _ [.int (zI (EE P n (64 * i0 + 8 * i1 + i2)))]
        refine g_pick (cs' := [w1, u1, cOut v o f1]) [1, 0, 2] rfl rfl ?_
        refine g_istore (lv' := [(6, .int (zI (EE P n (64 * i0 + 8 * i1 + i2)))), (5, .int (nI 0)), (4, .int (nI i)), (0, .ref b), (1, .ref cj), (2, .ref mz), (3, .ref o)]) X dL_law_456 (by decide) rfl ?_
        refine g_aload_n X dL_law_458 5 rfl rfl ?_
        refine g_callV (As := []) (rest := []) (wr := [w1, cOut v o f1]) X (Mc_X7_thrown l v hM1 hW hL) f_X7_thrown q_16_9 dL_law_459 [1] [0, 2] rfl rfl (by decide) 0 hqN rfl rfl rfl (Nat.le_of_ble_eq_true rfl) ⟨rfl, rfl, by decide +kernel, by decide +kernel, (by show _ ≤ 601024; omega), (by show _ ≤ 7293034; omega)⟩ (fun r_ w_ hp3 => ?_)
        obtain ⟨rfl, u2, hM2, rfl⟩ := hp3
        show GG k _ _ [u2, w1, cOut v o f1] _ _ [.int (nI 0)]
        refine g_pick (cs' := [w1, u2, cOut v o f1]) [1, 0, 2] rfl rfl ?_
        refine g_iload X dL_law_462 1 rfl ?_
        refine g_icmp_eqN (tgt := 469) X dL_law_464 (by decide) (by omega) (by omega) (fun c464 => ?_) (fun c464 => ?_)
        · refine g_iload X dL_law_469 1 rfl ?_
          refine g_if_neN (tgt := 486) X dL_law_471 (by decide) (by omega) (fun c471 => ?_) (fun c471 => ?_)
          · exact absurd rfl c471
          · refine g_aload_n X dL_law_474 6 rfl rfl ?_
            refine g_iconst (x := nI 0) X dL_law_475 (by decide +kernel) ?_
            refine g_lald X dL_law_476 2 0 rfl rfl (by omega) (by omega) ?_
            refine g_vl (y := (zI (EE P n (64 * i0 + 8 * i1 + i2))).toInt64) (hf1) ?_
            refine g_iload X dL_law_477 0 rfl ?_
            refine g_i2l X dL_law_479 rfl ?_
            refine g_lcmp X dL_law_480 ?_
            refine g_v (y := nI 0) (lg_self _) ?_
            refine g_if_eqN (tgt := 486) X dL_law_481 (by decide) (by omega) (fun c481 => ?_) (fun c481 => ?_)
            · refine g_goto (tgt := 1328) X dL_law_486 (by decide) ?_
              refine g_lv (lv' := [(4, .int (nI i)), (0, .ref b), (1, .ref cj), (2, .ref mz), (3, .ref o)]) [2, 3, 4, 5, 6] rfl ?_
              exact KN hC1 hM2 hW hL (by omega) (by omega)
            · exact absurd rfl c481
        · exact absurd c464 (by decide)
      · refine g_aload_n X dL_law_409 2 rfl rfl ?_
        refine g_aload_n X dL_law_410 1 rfl rfl ?_
        refine g_iload X dL_law_411 0 rfl ?_
        refine g_iconst (x := nI 1) X dL_law_413 (by decide +kernel) ?_
        refine g_iaddN X dL_law_414 ?_
        refine g_sld X hs dL_law_415 (by omega) hL9 ?_
        refine g_v (y := nI i0) (e0) ?_
        refine g_aload_n X dL_law_416 1 rfl rfl ?_
        refine g_iload X dL_law_417 0 rfl ?_
        refine g_iconst (x := nI 2) X dL_law_419 (by decide +kernel) ?_
        refine g_iaddN X dL_law_420 ?_
        refine g_sld X hs dL_law_421 (by omega) hL9 ?_
        refine g_v (y := nI i1) (e1) ?_
        refine g_aload_n X dL_law_422 1 rfl rfl ?_
        refine g_iload X dL_law_423 0 rfl ?_
        refine g_iconst (x := nI 3) X dL_law_425 (by decide +kernel) ?_
        refine g_iaddN X dL_law_426 ?_
        refine g_sld X hs dL_law_427 (by omega) hL9 ?_
        refine g_aload_n X dL_law_428 4 rfl rfl ?_
        refine g_callW (As := [.ref cj, .int (nI i0), .int (nI i1), .int (xs (i + 3)), .ref o]) (rest := []) (wr := [u9]) X hnc (w1_L_run l v cj o (nI i0) (nI i1) (xs (i + 3)) w9 f (fun w => IC9 v cj P n lo hi H c tx ln w) ({ frames := 7, cells := 1, slots := 6, locals := 120 }) hq rfl rfl (by decide) (by decide) (Cb2_X6_run l v hst cj hC hW hL i0 i1 (xs (i + 3)) h0 h1 h2)) f_L_run q_19_22 dL_law_429 [0, 2] [1] rfl rfl (by decide) rfl rfl (Nat.le_of_ble_eq_true rfl) ⟨rfl, rfl, by decide +kernel, by decide +kernel, (by show _ ≤ 601024; omega), (by show _ ≤ 7293034; omega)⟩ (fun r_ w_ hp4 => ?_)
        obtain ⟨rfl, w1, hC1, rfl⟩ := hp4
        show GG k _ _ [w1, cOut v o f, u9] _ _ [.int (nI 1)]
        refine g_pick (cs' := [w1, u9, cOut v o f]) [0, 2, 1] rfl rfl ?_
        refine g_istore (lv' := [(5, .int (nI 1)), (4, .int (nI i)), (0, .ref b), (1, .ref cj), (2, .ref mz), (3, .ref o)]) X dL_law_432 (by decide) rfl ?_
        refine g_aload_n X dL_law_434 4 rfl rfl ?_
        refine g_aload_n X dL_law_435 2 rfl rfl ?_
        refine g_iload X dL_law_436 1 rfl ?_
        refine g_iconst (x := nI 1) X dL_law_438 (by decide +kernel) ?_
        refine g_iaddN X dL_law_439 ?_
        refine g_sld X hs dL_law_440 (by omega) hL9 ?_
        refine g_v (y := nI i0) (e0) ?_
        refine g_aload_n X dL_law_441 2 rfl rfl ?_
        refine g_iload X dL_law_442 1 rfl ?_
        refine g_iconst (x := nI 2) X dL_law_444 (by decide +kernel) ?_
        refine g_iaddN X dL_law_445 ?_
        refine g_sld X hs dL_law_446 (by omega) hL9 ?_
        refine g_v (y := nI i1) (e1) ?_
        refine g_aload_n X dL_law_447 2 rfl rfl ?_
        refine g_iload X dL_law_448 1 rfl ?_
        refine g_iconst (x := nI 3) X dL_law_450 (by decide +kernel) ?_
        refine g_iaddN X dL_law_451 ?_
        refine g_sld X hs dL_law_452 (by omega) hL9 ?_
        refine g_callV (As := [.int (nI i0), .int (nI i1), .int (xs (i + 3))]) (rest := []) (wr := [w1, cOut v o f]) X (Mb2_X7_run l v hM hW hL i0 i1 (xs (i + 3)) h0 h1 h2) f_X7_run q_22_3 dL_law_453 [1] [0, 2] rfl rfl (by decide) 0 hqM rfl rfl rfl (Nat.le_of_ble_eq_true rfl) ⟨rfl, rfl, by decide +kernel, by decide +kernel, (by show _ ≤ 601024; omega), (by show _ ≤ 7293034; omega)⟩ (fun r_ w_ hp5 => ?_)
        obtain ⟨rfl, u1, hM1, rfl⟩ := hp5
        obtain ⟨fs7, hqN⟩ := IM9_hd hM1
        show GG k _ _ [u1, w1, cOut v o f] _ _ [.int (nI 0)]
        refine g_pick (cs' := [w1, u1, cOut v o f]) [1, 0, 2] rfl rfl ?_
        refine g_istore (lv' := [(6, .int (nI 0)), (5, .int (nI 1)), (4, .int (nI i)), (0, .ref b), (1, .ref cj), (2, .ref mz), (3, .ref o)]) X dL_law_456 (by decide) rfl ?_
        refine g_aload_n X dL_law_458 5 rfl rfl ?_
        refine g_callV (As := []) (rest := []) (wr := [w1, cOut v o f]) X (Mc_X7_thrown l v hM1 hW hL) f_X7_thrown q_16_9 dL_law_459 [1] [0, 2] rfl rfl (by decide) 0 hqN rfl rfl rfl (Nat.le_of_ble_eq_true rfl) ⟨rfl, rfl, by decide +kernel, by decide +kernel, (by show _ ≤ 601024; omega), (by show _ ≤ 7293034; omega)⟩ (fun r_ w_ hp6 => ?_)
        obtain ⟨rfl, u2, hM2, rfl⟩ := hp6
        show GG k _ _ [u2, w1, cOut v o f] _ _ [.int (nI 1)]
        refine g_pick (cs' := [w1, u2, cOut v o f]) [1, 0, 2] rfl rfl ?_
        refine g_iload X dL_law_462 1 rfl ?_
        refine g_icmp_eqN (tgt := 469) X dL_law_464 (by decide) (by omega) (by omega) (fun c464 => ?_) (fun c464 => ?_)
        · refine g_iload X dL_law_469 1 rfl ?_
          refine g_if_neN (tgt := 486) X dL_law_471 (by decide) (by omega) (fun c471 => ?_) (fun c471 => ?_)
          · refine g_goto (tgt := 1328) X dL_law_486 (by decide) ?_
            refine g_lv (lv' := [(4, .int (nI i)), (0, .ref b), (1, .ref cj), (2, .ref mz), (3, .ref o)]) [2, 3, 4, 5, 6] rfl ?_
            exact KN hC1 hM2 hW hL (by omega) (by omega)
          · exact absurd c471 (by decide)
        · exact absurd c464 (by decide)
    · refine g_aload_n X dL_law_409 2 rfl rfl ?_
      refine g_aload_n X dL_law_410 1 rfl rfl ?_
      refine g_iload X dL_law_411 0 rfl ?_
      refine g_iconst (x := nI 1) X dL_law_413 (by decide +kernel) ?_
      refine g_iaddN X dL_law_414 ?_
      refine g_sld X hs dL_law_415 (by omega) hL9 ?_
      refine g_v (y := nI i0) (e0) ?_
      refine g_aload_n X dL_law_416 1 rfl rfl ?_
      refine g_iload X dL_law_417 0 rfl ?_
      refine g_iconst (x := nI 2) X dL_law_419 (by decide +kernel) ?_
      refine g_iaddN X dL_law_420 ?_
      refine g_sld X hs dL_law_421 (by omega) hL9 ?_
      refine g_aload_n X dL_law_422 1 rfl rfl ?_
      refine g_iload X dL_law_423 0 rfl ?_
      refine g_iconst (x := nI 3) X dL_law_425 (by decide +kernel) ?_
      refine g_iaddN X dL_law_426 ?_
      refine g_sld X hs dL_law_427 (by omega) hL9 ?_
      refine g_aload_n X dL_law_428 4 rfl rfl ?_
      refine g_callW (As := [.ref cj, .int (nI i0), .int (xs (i + 2)), .int (xs (i + 3)), .ref o]) (rest := []) (wr := [u9]) X hnc (w1_L_run l v cj o (nI i0) (xs (i + 2)) (xs (i + 3)) w9 f (fun w => IC9 v cj P n lo hi H c tx ln w) ({ frames := 7, cells := 1, slots := 6, locals := 120 }) hq rfl rfl (by decide) (by decide) (Cb1_X6_run l v hst cj hC hW hL i0 (xs (i + 2)) (xs (i + 3)) h0 h1)) f_L_run q_19_22 dL_law_429 [0, 2] [1] rfl rfl (by decide) rfl rfl (Nat.le_of_ble_eq_true rfl) ⟨rfl, rfl, by decide +kernel, by decide +kernel, (by show _ ≤ 601024; omega), (by show _ ≤ 7293034; omega)⟩ (fun r_ w_ hp7 => ?_)
      obtain ⟨rfl, w1, hC1, rfl⟩ := hp7
      show GG k _ _ [w1, cOut v o f, u9] _ _ [.int (nI 1)]
      refine g_pick (cs' := [w1, u9, cOut v o f]) [0, 2, 1] rfl rfl ?_
      refine g_istore (lv' := [(5, .int (nI 1)), (4, .int (nI i)), (0, .ref b), (1, .ref cj), (2, .ref mz), (3, .ref o)]) X dL_law_432 (by decide) rfl ?_
      refine g_aload_n X dL_law_434 4 rfl rfl ?_
      refine g_aload_n X dL_law_435 2 rfl rfl ?_
      refine g_iload X dL_law_436 1 rfl ?_
      refine g_iconst (x := nI 1) X dL_law_438 (by decide +kernel) ?_
      refine g_iaddN X dL_law_439 ?_
      refine g_sld X hs dL_law_440 (by omega) hL9 ?_
      refine g_v (y := nI i0) (e0) ?_
      refine g_aload_n X dL_law_441 2 rfl rfl ?_
      refine g_iload X dL_law_442 1 rfl ?_
      refine g_iconst (x := nI 2) X dL_law_444 (by decide +kernel) ?_
      refine g_iaddN X dL_law_445 ?_
      refine g_sld X hs dL_law_446 (by omega) hL9 ?_
      refine g_aload_n X dL_law_447 2 rfl rfl ?_
      refine g_iload X dL_law_448 1 rfl ?_
      refine g_iconst (x := nI 3) X dL_law_450 (by decide +kernel) ?_
      refine g_iaddN X dL_law_451 ?_
      refine g_sld X hs dL_law_452 (by omega) hL9 ?_
      refine g_callV (As := [.int (nI i0), .int (xs (i + 2)), .int (xs (i + 3))]) (rest := []) (wr := [w1, cOut v o f]) X (Mb1_X7_run l v hM hW hL i0 (xs (i + 2)) (xs (i + 3)) h0 h1) f_X7_run q_22_3 dL_law_453 [1] [0, 2] rfl rfl (by decide) 0 hqM rfl rfl rfl (Nat.le_of_ble_eq_true rfl) ⟨rfl, rfl, by decide +kernel, by decide +kernel, (by show _ ≤ 601024; omega), (by show _ ≤ 7293034; omega)⟩ (fun r_ w_ hp8 => ?_)
      obtain ⟨rfl, u1, hM1, rfl⟩ := hp8
      obtain ⟨fs7, hqN⟩ := IM9_hd hM1
      show GG k _ _ [u1, w1, cOut v o f] _ _ [.int (nI 0)]
      refine g_pick (cs' := [w1, u1, cOut v o f]) [1, 0, 2] rfl rfl ?_
      refine g_istore (lv' := [(6, .int (nI 0)), (5, .int (nI 1)), (4, .int (nI i)), (0, .ref b), (1, .ref cj), (2, .ref mz), (3, .ref o)]) X dL_law_456 (by decide) rfl ?_
      refine g_aload_n X dL_law_458 5 rfl rfl ?_
      refine g_callV (As := []) (rest := []) (wr := [w1, cOut v o f]) X (Mc_X7_thrown l v hM1 hW hL) f_X7_thrown q_16_9 dL_law_459 [1] [0, 2] rfl rfl (by decide) 0 hqN rfl rfl rfl (Nat.le_of_ble_eq_true rfl) ⟨rfl, rfl, by decide +kernel, by decide +kernel, (by show _ ≤ 601024; omega), (by show _ ≤ 7293034; omega)⟩ (fun r_ w_ hp9 => ?_)
      obtain ⟨rfl, u2, hM2, rfl⟩ := hp9
      show GG k _ _ [u2, w1, cOut v o f] _ _ [.int (nI 1)]
      refine g_pick (cs' := [w1, u2, cOut v o f]) [1, 0, 2] rfl rfl ?_
      refine g_iload X dL_law_462 1 rfl ?_
      refine g_icmp_eqN (tgt := 469) X dL_law_464 (by decide) (by omega) (by omega) (fun c464 => ?_) (fun c464 => ?_)
      · refine g_iload X dL_law_469 1 rfl ?_
        refine g_if_neN (tgt := 486) X dL_law_471 (by decide) (by omega) (fun c471 => ?_) (fun c471 => ?_)
        · refine g_goto (tgt := 1328) X dL_law_486 (by decide) ?_
          refine g_lv (lv' := [(4, .int (nI i)), (0, .ref b), (1, .ref cj), (2, .ref mz), (3, .ref o)]) [2, 3, 4, 5, 6] rfl ?_
          exact KN hC1 hM2 hW hL (by omega) (by omega)
        · exact absurd c471 (by decide)
      · exact absurd c464 (by decide)
  · refine g_aload_n X dL_law_409 2 rfl rfl ?_
    refine g_aload_n X dL_law_410 1 rfl rfl ?_
    refine g_iload X dL_law_411 0 rfl ?_
    refine g_iconst (x := nI 1) X dL_law_413 (by decide +kernel) ?_
    refine g_iaddN X dL_law_414 ?_
    refine g_sld X hs dL_law_415 (by omega) hL9 ?_
    refine g_aload_n X dL_law_416 1 rfl rfl ?_
    refine g_iload X dL_law_417 0 rfl ?_
    refine g_iconst (x := nI 2) X dL_law_419 (by decide +kernel) ?_
    refine g_iaddN X dL_law_420 ?_
    refine g_sld X hs dL_law_421 (by omega) hL9 ?_
    refine g_aload_n X dL_law_422 1 rfl rfl ?_
    refine g_iload X dL_law_423 0 rfl ?_
    refine g_iconst (x := nI 3) X dL_law_425 (by decide +kernel) ?_
    refine g_iaddN X dL_law_426 ?_
    refine g_sld X hs dL_law_427 (by omega) hL9 ?_
    refine g_aload_n X dL_law_428 4 rfl rfl ?_
    refine g_callW (As := [.ref cj, .int (xs (i + 1)), .int (xs (i + 2)), .int (xs (i + 3)), .ref o]) (rest := []) (wr := [u9]) X hnc (w1_L_run l v cj o (xs (i + 1)) (xs (i + 2)) (xs (i + 3)) w9 f (fun w => IC9 v cj P n lo hi H c tx ln w) ({ frames := 7, cells := 1, slots := 6, locals := 120 }) hq rfl rfl (by decide) (by decide) (Cb0_X6_run l v hst cj hC hW hL (xs (i + 1)) (xs (i + 2)) (xs (i + 3)) h0)) f_L_run q_19_22 dL_law_429 [0, 2] [1] rfl rfl (by decide) rfl rfl (Nat.le_of_ble_eq_true rfl) ⟨rfl, rfl, by decide +kernel, by decide +kernel, (by show _ ≤ 601024; omega), (by show _ ≤ 7293034; omega)⟩ (fun r_ w_ hp10 => ?_)
    obtain ⟨rfl, w1, hC1, rfl⟩ := hp10
    show GG k _ _ [w1, cOut v o f, u9] _ _ [.int (nI 1)]
    refine g_pick (cs' := [w1, u9, cOut v o f]) [0, 2, 1] rfl rfl ?_
    refine g_istore (lv' := [(5, .int (nI 1)), (4, .int (nI i)), (0, .ref b), (1, .ref cj), (2, .ref mz), (3, .ref o)]) X dL_law_432 (by decide) rfl ?_
    refine g_aload_n X dL_law_434 4 rfl rfl ?_
    refine g_aload_n X dL_law_435 2 rfl rfl ?_
    refine g_iload X dL_law_436 1 rfl ?_
    refine g_iconst (x := nI 1) X dL_law_438 (by decide +kernel) ?_
    refine g_iaddN X dL_law_439 ?_
    refine g_sld X hs dL_law_440 (by omega) hL9 ?_
    refine g_aload_n X dL_law_441 2 rfl rfl ?_
    refine g_iload X dL_law_442 1 rfl ?_
    refine g_iconst (x := nI 2) X dL_law_444 (by decide +kernel) ?_
    refine g_iaddN X dL_law_445 ?_
    refine g_sld X hs dL_law_446 (by omega) hL9 ?_
    refine g_aload_n X dL_law_447 2 rfl rfl ?_
    refine g_iload X dL_law_448 1 rfl ?_
    refine g_iconst (x := nI 3) X dL_law_450 (by decide +kernel) ?_
    refine g_iaddN X dL_law_451 ?_
    refine g_sld X hs dL_law_452 (by omega) hL9 ?_
    refine g_callV (As := [.int (xs (i + 1)), .int (xs (i + 2)), .int (xs (i + 3))]) (rest := []) (wr := [w1, cOut v o f]) X (Mb0_X7_run l v hM hW hL (xs (i + 1)) (xs (i + 2)) (xs (i + 3)) h0) f_X7_run q_22_3 dL_law_453 [1] [0, 2] rfl rfl (by decide) 0 hqM rfl rfl rfl (Nat.le_of_ble_eq_true rfl) ⟨rfl, rfl, by decide +kernel, by decide +kernel, (by show _ ≤ 601024; omega), (by show _ ≤ 7293034; omega)⟩ (fun r_ w_ hp11 => ?_)
    obtain ⟨rfl, u1, hM1, rfl⟩ := hp11
    obtain ⟨fs7, hqN⟩ := IM9_hd hM1
    show GG k _ _ [u1, w1, cOut v o f] _ _ [.int (nI 0)]
    refine g_pick (cs' := [w1, u1, cOut v o f]) [1, 0, 2] rfl rfl ?_
    refine g_istore (lv' := [(6, .int (nI 0)), (5, .int (nI 1)), (4, .int (nI i)), (0, .ref b), (1, .ref cj), (2, .ref mz), (3, .ref o)]) X dL_law_456 (by decide) rfl ?_
    refine g_aload_n X dL_law_458 5 rfl rfl ?_
    refine g_callV (As := []) (rest := []) (wr := [w1, cOut v o f]) X (Mc_X7_thrown l v hM1 hW hL) f_X7_thrown q_16_9 dL_law_459 [1] [0, 2] rfl rfl (by decide) 0 hqN rfl rfl rfl (Nat.le_of_ble_eq_true rfl) ⟨rfl, rfl, by decide +kernel, by decide +kernel, (by show _ ≤ 601024; omega), (by show _ ≤ 7293034; omega)⟩ (fun r_ w_ hp12 => ?_)
    obtain ⟨rfl, u2, hM2, rfl⟩ := hp12
    show GG k _ _ [u2, w1, cOut v o f] _ _ [.int (nI 1)]
    refine g_pick (cs' := [w1, u2, cOut v o f]) [1, 0, 2] rfl rfl ?_
    refine g_iload X dL_law_462 1 rfl ?_
    refine g_icmp_eqN (tgt := 469) X dL_law_464 (by decide) (by omega) (by omega) (fun c464 => ?_) (fun c464 => ?_)
    · refine g_iload X dL_law_469 1 rfl ?_
      refine g_if_neN (tgt := 486) X dL_law_471 (by decide) (by omega) (fun c471 => ?_) (fun c471 => ?_)
      · refine g_goto (tgt := 1328) X dL_law_486 (by decide) ?_
        refine g_lv (lv' := [(4, .int (nI i)), (0, .ref b), (1, .ref cj), (2, .ref mz), (3, .ref o)]) [2, 3, 4, 5, 6] rfl ?_
        exact KN hC1 hM2 hW hL (by omega) (by omega)
      · exact absurd c471 (by decide)
    · exact absurd c464 (by decide)

set_option maxHeartbeats 4000000 in
set_option maxRecDepth 100000 in
theorem op_steps {k : KX} {l : Launch} {v : VV} {cj mz o b L i ce sl : Nat} {xs : Nat → Int32} (X : CX k l v cL_law "ClaimJudgeLaw" room_1 9) (hs : SCk k b L xs) (hnc : NCk k) (hst : l.stackTraces = false) (hL9 : L ≤ 2560) {P : Nat → S9} {n : Nat} {lo hi : Nat → Nat} {H : Nat → HE9} {c : Nat} {tx : Nat → Nat} {ln : Nat} {th : Int32} {w9 u9 : va_W} {f : Nat → Int64} (hC : IC9 v cj P n lo hi H c tx ln w9) (hM : IM9 v mz P n lo hi H c tx ln th u9) (hW : WF P n) (hL : AsW lo hi) (hi9 : i + 4 < L) (hce : ce + 1 ≤ 601024) (hsl : sl + 6 ≤ 7293034) (KN : NX9 k v cj mz o b i ce sl) : GG k ce sl [w9, u9, cOut v o f] [(4, .int (nI i)), (0, .ref b), (1, .ref cj), (2, .ref mz), (3, .ref o)] 489 [] := by
  obtain ⟨fs9, hq⟩ := IC9_hd hC
  obtain ⟨fs8, hqM⟩ := IM9_hd hM
  have hn12 := hW.1
  have hT6 := IC9_T hC
  rcases rng9 (xs (i + 1)) (n := 8) (by omega) with ⟨i0, h0, e0⟩ | h0
  · rcases rng9 (xs (i + 2)) (n := 8) (by omega) with ⟨i1, h1, e1⟩ | h1
    · rcases rng9 (xs (i + 3)) (n := 8) (by omega) with ⟨i2, h2, e2⟩ | h2
      · refine g_aload_n X dL_law_489 2 rfl rfl ?_
        refine g_aload_n X dL_law_490 1 rfl rfl ?_
        refine g_iload X dL_law_491 0 rfl ?_
        refine g_iconst (x := nI 1) X dL_law_493 (by decide +kernel) ?_
        refine g_iaddN X dL_law_494 ?_
        refine g_sld X hs dL_law_495 (by omega) hL9 ?_
        refine g_v (y := nI i0) (e0) ?_
        refine g_aload_n X dL_law_496 1 rfl rfl ?_
        refine g_iload X dL_law_497 0 rfl ?_
        refine g_iconst (x := nI 2) X dL_law_499 (by decide +kernel) ?_
        refine g_iaddN X dL_law_500 ?_
        refine g_sld X hs dL_law_501 (by omega) hL9 ?_
        refine g_v (y := nI i1) (e1) ?_
        refine g_aload_n X dL_law_502 1 rfl rfl ?_
        refine g_iload X dL_law_503 0 rfl ?_
        refine g_iconst (x := nI 3) X dL_law_505 (by decide +kernel) ?_
        refine g_iaddN X dL_law_506 ?_
        refine g_sld X hs dL_law_507 (by omega) hL9 ?_
        refine g_v (y := nI i2) (e2) ?_
        refine g_aload_n X dL_law_508 4 rfl rfl ?_
        refine g_callW (As := [.ref cj, .int (nI i0), .int (nI i1), .int (nI i2), .ref o]) (rest := []) (wr := [u9]) X hnc (w_L_steps l v cj o (nI i0) (nI i1) (nI i2) w9 f (fun w => IC9 v cj P n lo hi H c tx ln w) ({ frames := 7, cells := 0, slots := 0, locals := 121 }) (if EE P n (64 * i0 + 8 * i1 + i2) = -1 then zI (-1) else nI (LL P n (64 * i0 + 8 * i1 + i2))) hq rfl rfl (by decide) (by decide) (Cc_X6_steps l v cj hC hW hL i0 i1 i2 h0 h1 h2)) f_L_steps q_23_19 dL_law_509 [0, 2] [1] rfl rfl (by decide) rfl rfl (Nat.le_of_ble_eq_true rfl) ⟨rfl, rfl, by decide +kernel, by decide +kernel, (by show _ ≤ 601024; omega), (by show _ ≤ 7293034; omega)⟩ (fun r_ w_ hp1 => ?_)
        obtain ⟨rfl, w1, f1, hC1, hf1, rfl⟩ := hp1
        show GG k _ _ [w1, cOut v o f1, u9] _ _ [.int (nI 0)]
        refine g_pick (cs' := [w1, u9, cOut v o f1]) [0, 2, 1] rfl rfl ?_
        refine g_istore (lv' := [(5, .int (nI 0)), (4, .int (nI i)), (0, .ref b), (1, .ref cj), (2, .ref mz), (3, .ref o)]) X dL_law_512 (by decide) rfl ?_
        refine g_aload_n X dL_law_514 4 rfl rfl ?_
        refine g_aload_n X dL_law_515 2 rfl rfl ?_
        refine g_iload X dL_law_516 1 rfl ?_
        refine g_iconst (x := nI 1) X dL_law_518 (by decide +kernel) ?_
        refine g_iaddN X dL_law_519 ?_
        refine g_sld X hs dL_law_520 (by omega) hL9 ?_
        refine g_v (y := nI i0) (e0) ?_
        refine g_aload_n X dL_law_521 2 rfl rfl ?_
        refine g_iload X dL_law_522 1 rfl ?_
        refine g_iconst (x := nI 2) X dL_law_524 (by decide +kernel) ?_
        refine g_iaddN X dL_law_525 ?_
        refine g_sld X hs dL_law_526 (by omega) hL9 ?_
        refine g_v (y := nI i1) (e1) ?_
        refine g_aload_n X dL_law_527 2 rfl rfl ?_
        refine g_iload X dL_law_528 1 rfl ?_
        refine g_iconst (x := nI 3) X dL_law_530 (by decide +kernel) ?_
        refine g_iaddN X dL_law_531 ?_
        refine g_sld X hs dL_law_532 (by omega) hL9 ?_
        refine g_v (y := nI i2) (e2) ?_
        refine g_callV (As := [.int (nI i0), .int (nI i1), .int (nI i2)]) (rest := []) (wr := [w1, cOut v o f1]) X (Mc_X7_steps l v hM hW hL i0 i1 i2 h0 h1 h2) f_X7_steps q_24_7 dL_law_533 [1] [0, 2] rfl rfl (by decide) 0 hqM rfl rfl rfl (Nat.le_of_ble_eq_true rfl) ⟨rfl, rfl, by decide +kernel, by decide +kernel, (by show _ ≤ 601024; omega), (by show _ ≤ 7293034; omega)⟩ (fun r_ w_ hp2 => ?_)
        obtain ⟨rfl, u1, hM1, rfl⟩ := hp2
        obtain ⟨fs7, hqN⟩ := IM9_hd hM1
        show GG k _ _ [u1, w1, cOut v o f1] _ _ [.int (if EE P n (64 * i0 + 8 * i1 + i2) = -1 then zI (-1) else nI (LL P n (64 * i0 + 8 * i1 + i2)))]
        refine g_pick (cs' := [w1, u1, cOut v o f1]) [1, 0, 2] rfl rfl ?_
        refine g_istore (lv' := [(6, .int (if EE P n (64 * i0 + 8 * i1 + i2) = -1 then zI (-1) else nI (LL P n (64 * i0 + 8 * i1 + i2)))), (5, .int (nI 0)), (4, .int (nI i)), (0, .ref b), (1, .ref cj), (2, .ref mz), (3, .ref o)]) X dL_law_536 (by decide) rfl ?_
        refine g_aload_n X dL_law_538 5 rfl rfl ?_
        refine g_callV (As := []) (rest := []) (wr := [w1, cOut v o f1]) X (Mc_X7_thrown l v hM1 hW hL) f_X7_thrown q_16_9 dL_law_539 [1] [0, 2] rfl rfl (by decide) 0 hqN rfl rfl rfl (Nat.le_of_ble_eq_true rfl) ⟨rfl, rfl, by decide +kernel, by decide +kernel, (by show _ ≤ 601024; omega), (by show _ ≤ 7293034; omega)⟩ (fun r_ w_ hp3 => ?_)
        obtain ⟨rfl, u2, hM2, rfl⟩ := hp3
        show GG k _ _ [u2, w1, cOut v o f1] _ _ [.int (nI 0)]
        refine g_pick (cs' := [w1, u2, cOut v o f1]) [1, 0, 2] rfl rfl ?_
        refine g_iload X dL_law_542 1 rfl ?_
        refine g_icmp_eqN (tgt := 549) X dL_law_544 (by decide) (by omega) (by omega) (fun c544 => ?_) (fun c544 => ?_)
        · refine g_iload X dL_law_549 1 rfl ?_
          refine g_if_neN (tgt := 566) X dL_law_551 (by decide) (by omega) (fun c551 => ?_) (fun c551 => ?_)
          · exact absurd rfl c551
          · refine g_aload_n X dL_law_554 6 rfl rfl ?_
            refine g_iconst (x := nI 0) X dL_law_555 (by decide +kernel) ?_
            refine g_lald X dL_law_556 2 0 rfl rfl (by omega) (by omega) ?_
            refine g_vl (y := (if EE P n (64 * i0 + 8 * i1 + i2) = -1 then zI (-1) else nI (LL P n (64 * i0 + 8 * i1 + i2))).toInt64) (hf1) ?_
            refine g_iload X dL_law_557 0 rfl ?_
            refine g_i2l X dL_law_559 rfl ?_
            refine g_lcmp X dL_law_560 ?_
            refine g_v (y := nI 0) (lg_self _) ?_
            refine g_if_eqN (tgt := 566) X dL_law_561 (by decide) (by omega) (fun c561 => ?_) (fun c561 => ?_)
            · refine g_goto (tgt := 1328) X dL_law_566 (by decide) ?_
              refine g_lv (lv' := [(4, .int (nI i)), (0, .ref b), (1, .ref cj), (2, .ref mz), (3, .ref o)]) [2, 3, 4, 5, 6] rfl ?_
              exact KN hC1 hM2 hW hL (by omega) (by omega)
            · exact absurd rfl c561
        · exact absurd c544 (by decide)
      · refine g_aload_n X dL_law_489 2 rfl rfl ?_
        refine g_aload_n X dL_law_490 1 rfl rfl ?_
        refine g_iload X dL_law_491 0 rfl ?_
        refine g_iconst (x := nI 1) X dL_law_493 (by decide +kernel) ?_
        refine g_iaddN X dL_law_494 ?_
        refine g_sld X hs dL_law_495 (by omega) hL9 ?_
        refine g_v (y := nI i0) (e0) ?_
        refine g_aload_n X dL_law_496 1 rfl rfl ?_
        refine g_iload X dL_law_497 0 rfl ?_
        refine g_iconst (x := nI 2) X dL_law_499 (by decide +kernel) ?_
        refine g_iaddN X dL_law_500 ?_
        refine g_sld X hs dL_law_501 (by omega) hL9 ?_
        refine g_v (y := nI i1) (e1) ?_
        refine g_aload_n X dL_law_502 1 rfl rfl ?_
        refine g_iload X dL_law_503 0 rfl ?_
        refine g_iconst (x := nI 3) X dL_law_505 (by decide +kernel) ?_
        refine g_iaddN X dL_law_506 ?_
        refine g_sld X hs dL_law_507 (by omega) hL9 ?_
        refine g_aload_n X dL_law_508 4 rfl rfl ?_
        refine g_callW (As := [.ref cj, .int (nI i0), .int (nI i1), .int (xs (i + 3)), .ref o]) (rest := []) (wr := [u9]) X hnc (w1_L_steps l v cj o (nI i0) (nI i1) (xs (i + 3)) w9 f (fun w => IC9 v cj P n lo hi H c tx ln w) ({ frames := 7, cells := 1, slots := 6, locals := 120 }) hq rfl rfl (by decide) (by decide) (Cb2_X6_steps l v hst cj hC hW hL i0 i1 (xs (i + 3)) h0 h1 h2)) f_L_steps q_23_19 dL_law_509 [0, 2] [1] rfl rfl (by decide) rfl rfl (Nat.le_of_ble_eq_true rfl) ⟨rfl, rfl, by decide +kernel, by decide +kernel, (by show _ ≤ 601024; omega), (by show _ ≤ 7293034; omega)⟩ (fun r_ w_ hp4 => ?_)
        obtain ⟨rfl, w1, hC1, rfl⟩ := hp4
        show GG k _ _ [w1, cOut v o f, u9] _ _ [.int (nI 1)]
        refine g_pick (cs' := [w1, u9, cOut v o f]) [0, 2, 1] rfl rfl ?_
        refine g_istore (lv' := [(5, .int (nI 1)), (4, .int (nI i)), (0, .ref b), (1, .ref cj), (2, .ref mz), (3, .ref o)]) X dL_law_512 (by decide) rfl ?_
        refine g_aload_n X dL_law_514 4 rfl rfl ?_
        refine g_aload_n X dL_law_515 2 rfl rfl ?_
        refine g_iload X dL_law_516 1 rfl ?_
        refine g_iconst (x := nI 1) X dL_law_518 (by decide +kernel) ?_
        refine g_iaddN X dL_law_519 ?_
        refine g_sld X hs dL_law_520 (by omega) hL9 ?_
        refine g_v (y := nI i0) (e0) ?_
        refine g_aload_n X dL_law_521 2 rfl rfl ?_
        refine g_iload X dL_law_522 1 rfl ?_
        refine g_iconst (x := nI 2) X dL_law_524 (by decide +kernel) ?_
        refine g_iaddN X dL_law_525 ?_
        refine g_sld X hs dL_law_526 (by omega) hL9 ?_
        refine g_v (y := nI i1) (e1) ?_
        refine g_aload_n X dL_law_527 2 rfl rfl ?_
        refine g_iload X dL_law_528 1 rfl ?_
        refine g_iconst (x := nI 3) X dL_law_530 (by decide +kernel) ?_
        refine g_iaddN X dL_law_531 ?_
        refine g_sld X hs dL_law_532 (by omega) hL9 ?_
        refine g_callV (As := [.int (nI i0), .int (nI i1), .int (xs (i + 3))]) (rest := []) (wr := [w1, cOut v o f]) X (Mb2_X7_steps l v hM hW hL i0 i1 (xs (i + 3)) h0 h1 h2) f_X7_steps q_24_7 dL_law_533 [1] [0, 2] rfl rfl (by decide) 0 hqM rfl rfl rfl (Nat.le_of_ble_eq_true rfl) ⟨rfl, rfl, by decide +kernel, by decide +kernel, (by show _ ≤ 601024; omega), (by show _ ≤ 7293034; omega)⟩ (fun r_ w_ hp5 => ?_)
        obtain ⟨rfl, u1, hM1, rfl⟩ := hp5
        obtain ⟨fs7, hqN⟩ := IM9_hd hM1
        show GG k _ _ [u1, w1, cOut v o f] _ _ [.int (nI 0)]
        refine g_pick (cs' := [w1, u1, cOut v o f]) [1, 0, 2] rfl rfl ?_
        refine g_istore (lv' := [(6, .int (nI 0)), (5, .int (nI 1)), (4, .int (nI i)), (0, .ref b), (1, .ref cj), (2, .ref mz), (3, .ref o)]) X dL_law_536 (by decide) rfl ?_
        refine g_aload_n X dL_law_538 5 rfl rfl ?_
        refine g_callV (As := []) (rest := []) (wr := [w1, cOut v o f]) X (Mc_X7_thrown l v hM1 hW hL) f_X7_thrown q_16_9 dL_law_539 [1] [0, 2] rfl rfl (by decide) 0 hqN rfl rfl rfl (Nat.le_of_ble_eq_true rfl) ⟨rfl, rfl, by decide +kernel, by decide +kernel, (by show _ ≤ 601024; omega), (by show _ ≤ 7293034; omega)⟩ (fun r_ w_ hp6 => ?_)
        obtain ⟨rfl, u2, hM2, rfl⟩ := hp6
        show GG k _ _ [u2, w1, cOut v o f] _ _ [.int (nI 1)]
        refine g_pick (cs' := [w1, u2, cOut v o f]) [1, 0, 2] rfl rfl ?_
        refine g_iload X dL_law_542 1 rfl ?_
        refine g_icmp_eqN (tgt := 549) X dL_law_544 (by decide) (by omega) (by omega) (fun c544 => ?_) (fun c544 => ?_)
        · refine g_iload X dL_law_549 1 rfl ?_
          refine g_if_neN (tgt := 566) X dL_law_551 (by decide) (by omega) (fun c551 => ?_) (fun c551 => ?_)
          · refine g_goto (tgt := 1328) X dL_law_566 (by decide) ?_
            refine g_lv (lv' := [(4, .int (nI i)), (0, .ref b), (1, .ref cj), (2, .ref mz), (3, .ref o)]) [2, 3, 4, 5, 6] rfl ?_
            exact KN hC1 hM2 hW hL (by omega) (by omega)
          · exact absurd c551 (by decide)
        · exact absurd c544 (by decide)
    · refine g_aload_n X dL_law_489 2 rfl rfl ?_
      refine g_aload_n X dL_law_490 1 rfl rfl ?_
      refine g_iload X dL_law_491 0 rfl ?_
      refine g_iconst (x := nI 1) X dL_law_493 (by decide +kernel) ?_
      refine g_iaddN X dL_law_494 ?_
      refine g_sld X hs dL_law_495 (by omega) hL9 ?_
      refine g_v (y := nI i0) (e0) ?_
      refine g_aload_n X dL_law_496 1 rfl rfl ?_
      refine g_iload X dL_law_497 0 rfl ?_
      refine g_iconst (x := nI 2) X dL_law_499 (by decide +kernel) ?_
      refine g_iaddN X dL_law_500 ?_
      refine g_sld X hs dL_law_501 (by omega) hL9 ?_
      refine g_aload_n X dL_law_502 1 rfl rfl ?_
      refine g_iload X dL_law_503 0 rfl ?_
      refine g_iconst (x := nI 3) X dL_law_505 (by decide +kernel) ?_
      refine g_iaddN X dL_law_506 ?_
      refine g_sld X hs dL_law_507 (by omega) hL9 ?_
      refine g_aload_n X dL_law_508 4 rfl rfl ?_
      refine g_callW (As := [.ref cj, .int (nI i0), .int (xs (i + 2)), .int (xs (i + 3)), .ref o]) (rest := []) (wr := [u9]) X hnc (w1_L_steps l v cj o (nI i0) (xs (i + 2)) (xs (i + 3)) w9 f (fun w => IC9 v cj P n lo hi H c tx ln w) ({ frames := 7, cells := 1, slots := 6, locals := 120 }) hq rfl rfl (by decide) (by decide) (Cb1_X6_steps l v hst cj hC hW hL i0 (xs (i + 2)) (xs (i + 3)) h0 h1)) f_L_steps q_23_19 dL_law_509 [0, 2] [1] rfl rfl (by decide) rfl rfl (Nat.le_of_ble_eq_true rfl) ⟨rfl, rfl, by decide +kernel, by decide +kernel, (by show _ ≤ 601024; omega), (by show _ ≤ 7293034; omega)⟩ (fun r_ w_ hp7 => ?_)
      obtain ⟨rfl, w1, hC1, rfl⟩ := hp7
      show GG k _ _ [w1, cOut v o f, u9] _ _ [.int (nI 1)]
      refine g_pick (cs' := [w1, u9, cOut v o f]) [0, 2, 1] rfl rfl ?_
      refine g_istore (lv' := [(5, .int (nI 1)), (4, .int (nI i)), (0, .ref b), (1, .ref cj), (2, .ref mz), (3, .ref o)]) X dL_law_512 (by decide) rfl ?_
      refine g_aload_n X dL_law_514 4 rfl rfl ?_
      refine g_aload_n X dL_law_515 2 rfl rfl ?_
      refine g_iload X dL_law_516 1 rfl ?_
      refine g_iconst (x := nI 1) X dL_law_518 (by decide +kernel) ?_
      refine g_iaddN X dL_law_519 ?_
      refine g_sld X hs dL_law_520 (by omega) hL9 ?_
      refine g_v (y := nI i0) (e0) ?_
      refine g_aload_n X dL_law_521 2 rfl rfl ?_
      refine g_iload X dL_law_522 1 rfl ?_
      refine g_iconst (x := nI 2) X dL_law_524 (by decide +kernel) ?_
      refine g_iaddN X dL_law_525 ?_
      refine g_sld X hs dL_law_526 (by omega) hL9 ?_
      refine g_aload_n X dL_law_527 2 rfl rfl ?_
      refine g_iload X dL_law_528 1 rfl ?_
      refine g_iconst (x := nI 3) X dL_law_530 (by decide +kernel) ?_
      refine g_iaddN X dL_law_531 ?_
      refine g_sld X hs dL_law_532 (by omega) hL9 ?_
      refine g_callV (As := [.int (nI i0), .int (xs (i + 2)), .int (xs (i + 3))]) (rest := []) (wr := [w1, cOut v o f]) X (Mb1_X7_steps l v hM hW hL i0 (xs (i + 2)) (xs (i + 3)) h0 h1) f_X7_steps q_24_7 dL_law_533 [1] [0, 2] rfl rfl (by decide) 0 hqM rfl rfl rfl (Nat.le_of_ble_eq_true rfl) ⟨rfl, rfl, by decide +kernel, by decide +kernel, (by show _ ≤ 601024; omega), (by show _ ≤ 7293034; omega)⟩ (fun r_ w_ hp8 => ?_)
      obtain ⟨rfl, u1, hM1, rfl⟩ := hp8
      obtain ⟨fs7, hqN⟩ := IM9_hd hM1
      show GG k _ _ [u1, w1, cOut v o f] _ _ [.int (nI 0)]
      refine g_pick (cs' := [w1, u1, cOut v o f]) [1, 0, 2] rfl rfl ?_
      refine g_istore (lv' := [(6, .int (nI 0)), (5, .int (nI 1)), (4, .int (nI i)), (0, .ref b), (1, .ref cj), (2, .ref mz), (3, .ref o)]) X dL_law_536 (by decide) rfl ?_
      refine g_aload_n X dL_law_538 5 rfl rfl ?_
      refine g_callV (As := []) (rest := []) (wr := [w1, cOut v o f]) X (Mc_X7_thrown l v hM1 hW hL) f_X7_thrown q_16_9 dL_law_539 [1] [0, 2] rfl rfl (by decide) 0 hqN rfl rfl rfl (Nat.le_of_ble_eq_true rfl) ⟨rfl, rfl, by decide +kernel, by decide +kernel, (by show _ ≤ 601024; omega), (by show _ ≤ 7293034; omega)⟩ (fun r_ w_ hp9 => ?_)
      obtain ⟨rfl, u2, hM2, rfl⟩ := hp9
      show GG k _ _ [u2, w1, cOut v o f] _ _ [.int (nI 1)]
      refine g_pick (cs' := [w1, u2, cOut v o f]) [1, 0, 2] rfl rfl ?_
      refine g_iload X dL_law_542 1 rfl ?_
      refine g_icmp_eqN (tgt := 549) X dL_law_544 (by decide) (by omega) (by omega) (fun c544 => ?_) (fun c544 => ?_)
      · refine g_iload X dL_law_549 1 rfl ?_
        refine g_if_neN (tgt := 566) X dL_law_551 (by decide) (by omega) (fun c551 => ?_) (fun c551 => ?_)
        · refine g_goto (tgt := 1328) X dL_law_566 (by decide) ?_
          refine g_lv (lv' := [(4, .int (nI i)), (0, .ref b), (1, .ref cj), (2, .ref mz), (3, .ref o)]) [2, 3, 4, 5, 6] rfl ?_
          exact KN hC1 hM2 hW hL (by omega) (by omega)
        · exact absurd c551 (by decide)
      · exact absurd c544 (by decide)
  · refine g_aload_n X dL_law_489 2 rfl rfl ?_
    refine g_aload_n X dL_law_490 1 rfl rfl ?_
    refine g_iload X dL_law_491 0 rfl ?_
    refine g_iconst (x := nI 1) X dL_law_493 (by decide +kernel) ?_
    refine g_iaddN X dL_law_494 ?_
    refine g_sld X hs dL_law_495 (by omega) hL9 ?_
    refine g_aload_n X dL_law_496 1 rfl rfl ?_
    refine g_iload X dL_law_497 0 rfl ?_
    refine g_iconst (x := nI 2) X dL_law_499 (by decide +kernel) ?_
    refine g_iaddN X dL_law_500 ?_
    refine g_sld X hs dL_law_501 (by omega) hL9 ?_
    refine g_aload_n X dL_law_502 1 rfl rfl ?_
    refine g_iload X dL_law_503 0 rfl ?_
    refine g_iconst (x := nI 3) X dL_law_505 (by decide +kernel) ?_
    refine g_iaddN X dL_law_506 ?_
    refine g_sld X hs dL_law_507 (by omega) hL9 ?_
    refine g_aload_n X dL_law_508 4 rfl rfl ?_
    refine g_callW (As := [.ref cj, .int (xs (i + 1)), .int (xs (i + 2)), .int (xs (i + 3)), .ref o]) (rest := []) (wr := [u9]) X hnc (w1_L_steps l v cj o (xs (i + 1)) (xs (i + 2)) (xs (i + 3)) w9 f (fun w => IC9 v cj P n lo hi H c tx ln w) ({ frames := 7, cells := 1, slots := 6, locals := 120 }) hq rfl rfl (by decide) (by decide) (Cb0_X6_steps l v hst cj hC hW hL (xs (i + 1)) (xs (i + 2)) (xs (i + 3)) h0)) f_L_steps q_23_19 dL_law_509 [0, 2] [1] rfl rfl (by decide) rfl rfl (Nat.le_of_ble_eq_true rfl) ⟨rfl, rfl, by decide +kernel, by decide +kernel, (by show _ ≤ 601024; omega), (by show _ ≤ 7293034; omega)⟩ (fun r_ w_ hp10 => ?_)
    obtain ⟨rfl, w1, hC1, rfl⟩ := hp10
    show GG k _ _ [w1, cOut v o f, u9] _ _ [.int (nI 1)]
    refine g_pick (cs' := [w1, u9, cOut v o f]) [0, 2, 1] rfl rfl ?_
    refine g_istore (lv' := [(5, .int (nI 1)), (4, .int (nI i)), (0, .ref b), (1, .ref cj), (2, .ref mz), (3, .ref o)]) X dL_law_512 (by decide) rfl ?_
    refine g_aload_n X dL_law_514 4 rfl rfl ?_
    refine g_aload_n X dL_law_515 2 rfl rfl ?_
    refine g_iload X dL_law_516 1 rfl ?_
    refine g_iconst (x := nI 1) X dL_law_518 (by decide +kernel) ?_
    refine g_iaddN X dL_law_519 ?_
    refine g_sld X hs dL_law_520 (by omega) hL9 ?_
    refine g_aload_n X dL_law_521 2 rfl rfl ?_
    refine g_iload X dL_law_522 1 rfl ?_
    refine g_iconst (x := nI 2) X dL_law_524 (by decide +kernel) ?_
    refine g_iaddN X dL_law_525 ?_
    refine g_sld X hs dL_law_526 (by omega) hL9 ?_
    refine g_aload_n X dL_law_527 2 rfl rfl ?_
    refine g_iload X dL_law_528 1 rfl ?_
    refine g_iconst (x := nI 3) X dL_law_530 (by decide +kernel) ?_
    refine g_iaddN X dL_law_531 ?_
    refine g_sld X hs dL_law_532 (by omega) hL9 ?_
    refine g_callV (As := [.int (xs (i + 1)), .int (xs (i + 2)), .int (xs (i + 3))]) (rest := []) (wr := [w1, cOut v o f]) X (Mb0_X7_steps l v hM hW hL (xs (i + 1)) (xs (i + 2)) (xs (i + 3)) h0) f_X7_steps q_24_7 dL_law_533 [1] [0, 2] rfl rfl (by decide) 0 hqM rfl rfl rfl (Nat.le_of_ble_eq_true rfl) ⟨rfl, rfl, by decide +kernel, by decide +kernel, (by show _ ≤ 601024; omega), (by show _ ≤ 7293034; omega)⟩ (fun r_ w_ hp11 => ?_)
    obtain ⟨rfl, u1, hM1, rfl⟩ := hp11
    obtain ⟨fs7, hqN⟩ := IM9_hd hM1
    show GG k _ _ [u1, w1, cOut v o f] _ _ [.int (nI 0)]
    refine g_pick (cs' := [w1, u1, cOut v o f]) [1, 0, 2] rfl rfl ?_
    refine g_istore (lv' := [(6, .int (nI 0)), (5, .int (nI 1)), (4, .int (nI i)), (0, .ref b), (1, .ref cj), (2, .ref mz), (3, .ref o)]) X dL_law_536 (by decide) rfl ?_
    refine g_aload_n X dL_law_538 5 rfl rfl ?_
    refine g_callV (As := []) (rest := []) (wr := [w1, cOut v o f]) X (Mc_X7_thrown l v hM1 hW hL) f_X7_thrown q_16_9 dL_law_539 [1] [0, 2] rfl rfl (by decide) 0 hqN rfl rfl rfl (Nat.le_of_ble_eq_true rfl) ⟨rfl, rfl, by decide +kernel, by decide +kernel, (by show _ ≤ 601024; omega), (by show _ ≤ 7293034; omega)⟩ (fun r_ w_ hp12 => ?_)
    obtain ⟨rfl, u2, hM2, rfl⟩ := hp12
    show GG k _ _ [u2, w1, cOut v o f] _ _ [.int (nI 1)]
    refine g_pick (cs' := [w1, u2, cOut v o f]) [1, 0, 2] rfl rfl ?_
    refine g_iload X dL_law_542 1 rfl ?_
    refine g_icmp_eqN (tgt := 549) X dL_law_544 (by decide) (by omega) (by omega) (fun c544 => ?_) (fun c544 => ?_)
    · refine g_iload X dL_law_549 1 rfl ?_
      refine g_if_neN (tgt := 566) X dL_law_551 (by decide) (by omega) (fun c551 => ?_) (fun c551 => ?_)
      · refine g_goto (tgt := 1328) X dL_law_566 (by decide) ?_
        refine g_lv (lv' := [(4, .int (nI i)), (0, .ref b), (1, .ref cj), (2, .ref mz), (3, .ref o)]) [2, 3, 4, 5, 6] rfl ?_
        exact KN hC1 hM2 hW hL (by omega) (by omega)
      · exact absurd c551 (by decide)
    · exact absurd c544 (by decide)

