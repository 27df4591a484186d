/-! ## the law: the widest range -/
theorem Cu_X6_undo (l : Launch) (v : VV) {P P' : Nat → S9} {n n' : Nat} {lo hi lo' hi' : Nat → Nat} {H : Nat → HE9} {c : Nat} {tx : Nat → Nat} {ln : Nat} {w9 : va_W} (cj : Nat) (hI : IC9 v cj P' n' lo' hi' (hS9 H c (P, n, lo, hi)) (hC9 c) tx ln w9) (hW : WF P' n') (hL : AsW lo' hi') (hc : c ≤ 6) : MI l v yX6_undo cX6_undo 1 (some .int) ({ frames := 4, cells := 0, slots := 0, locals := 92 }) [.ref cj] [w9] (fun r w_ => r = nI (hC9 c - 1) ∧ ∃ w1, IC9 v cj P n lo hi (hS9 H c (P, n, lo, hi)) (hC9 c - 1) tx ln w1 ∧ w_ = [w1]) 0 0 := by
  have h := Cc_X6_undo l v cj hI hW hL (hC9_rng c hc).1
  rw [hS9_last H c (P, n, lo, hi) hc] at h
  exact h
set_option maxHeartbeats 4000000 in
set_option maxRecDepth 100000 in
theorem c_L_isWidestSo (l : Launch) (v : VV) (cj : Nat) (ou : Nat) (w : Nat) (f : Nat → Int32) {P : Nat → S9} {n : Nat} {lo hi : Nat → Nat} {H : Nat → HE9} {c : Nat} {tx : Nat → Nat} {w9 : va_W} (hst : l.stackTraces = false) (hw9 : w < 3) (hC : IC9 v cj P n lo hi H c tx 0 w9) (hW : WF P n) (hL : AsW lo hi) : MI l v yL_isWidestSo cL_isWidestSo 10 (some .boolean) ({ frames := 10, cells := 1, slots := 6, locals := 320 }) [.ref cj, .int (nI w), .ref ou] [w9, cOi v ou f] (fun r w_ => r = nI 1 ∧ ∃ w1 f' H' c' tx', IC9 v cj P n lo hi H' c' tx' 0 w1 ∧ w_ = [w1, cOi v ou f']) 1 6 := by
  refine mm_int (by decide) (Nat.le_of_ble_eq_true rfl) [(0, .ref cj), (1, .int (nI w)), (2, .ref ou)] rfl (fun k X E => ?_)
  have hnc := nck_of X
  obtain ⟨fs9, hq⟩ := IC9_hd hC
  have hn12 := hW.1
  have hT6 := (IC9_T hC).2
  refine g_aload_n X dL_isWidestSo_0 0 rfl rfl ?_
  refine g_iload_n X dL_isWidestSo_1 1 rfl rfl ?_
  refine g_callV (As := [.int (nI w)]) (rest := []) (wr := [cOi v ou f]) X (Cc_X6_widest l v cj hC hW hL w hw9) f_X6_widest q_23_10 dL_isWidestSo_2 [0] [1] rfl rfl (by decide) 0 hq rfl rfl rfl (Nat.le_of_ble_eq_true rfl) (by decide) (fun r_ w_ hp2 => ?_)
  obtain ⟨rfl, wk1, hCk1, rfl⟩ := hp2
  obtain ⟨fsk1, hqk1⟩ := IC9_hd hCk1
  show GG k _ _ [wk1, cOi v ou f] _ _ [.int (zI (wdV lo hi P n w))]
  refine g_istore_n (lv' := [(3, .int (zI (wdV lo hi P n w))), (0, .ref cj), (1, .int (nI w)), (2, .ref ou)]) X dL_isWidestSo_5 rfl (by decide) rfl ?_
  refine g_aload_n X dL_isWidestSo_6 1 rfl rfl ?_
  refine g_callV (As := []) (rest := []) (wr := [cOi v ou f]) X (Cc_X6_proof l v cj hCk1 hW hL ) f_X6_proof q_19_20 dL_isWidestSo_7 [0] [1] rfl rfl (by decide) 0 hqk1 rfl rfl rfl (Nat.le_of_ble_eq_true rfl) (by decide) (fun r_ w_ hp4 => ?_)
  obtain ⟨rfl, wk3, hCk3, rfl⟩ := hp4
  obtain ⟨fsk3, hqk3⟩ := IC9_hd hCk3
  show GG k _ _ [wk3, cOi v ou f] _ _ [.int (zI (pfV lo hi P n))]
  refine g_istore (lv' := [(4, .int (zI (pfV lo hi P n))), (3, .int (zI (wdV lo hi P n w))), (0, .ref cj), (1, .int (nI w)), (2, .ref ou)]) X dL_isWidestSo_10 (by decide) rfl ?_
  refine g_aload_n X dL_isWidestSo_12 2 rfl rfl ?_
  refine g_callV (As := []) (rest := []) (wr := [cOi v ou f]) X (Cc_X6_endless l v cj hCk3 hW hL ) f_X6_endless q_16_11 dL_isWidestSo_13 [0] [1] rfl rfl (by decide) 0 hqk3 rfl rfl rfl (Nat.le_of_ble_eq_true rfl) (by decide) (fun r_ w_ hp6 => ?_)
  obtain ⟨rfl, wk5, hCk5, rfl⟩ := hp6
  obtain ⟨fsk5, hqk5⟩ := IC9_hd hCk5
  show GG k _ _ [wk5, cOi v ou f] _ _ [.int (nI (ctb (jE lo hi P n) 512))]
  refine g_istore (lv' := [(5, .int (nI (ctb (jE lo hi P n) 512))), (4, .int (zI (pfV lo hi P n))), (3, .int (zI (wdV lo hi P n w))), (0, .ref cj), (1, .int (nI w)), (2, .ref ou)]) X dL_isWidestSo_16 (by decide) rfl ?_
  have hwp : pfV lo hi P n = 1 → 0 ≤ wdV lo hi P n w := wd_proof hW hL hw9
  have hpr := pf_rng (lo := lo) (hi := hi) (P := P) (n := n)
  have hje := ctb_le (jE lo hi P n) 512
  rcases wd_tells (lo := lo) (hi := hi) (P := P) (n := n) (w := w) with ⟨e1, u1⟩ | ⟨a9, b9, e1, u1, u2, u3, u4, u5⟩
  · refine g_iload_n X dL_isWidestSo_18 2 rfl rfl ?_
    refine g_v (y := zI (-1)) (by rw [e1]) ?_
    refine g_iconst (x := zI (-1)) X dL_isWidestSo_19 (by decide +kernel) ?_
    refine g_icmp_lt (tgt := 33) X dL_isWidestSo_20 (by decide) (fun c20 => ?_) (fun c20 => ?_)
    · rw [zI_lt (by omega) (by omega) (by omega) (by omega)] at c20
      exact absurd c20 (by omega)
    · rw [zI_lt (by omega) (by omega) (by omega) (by omega)] at c20
      refine g_iload_n X dL_isWidestSo_23 2 rfl rfl ?_
      refine g_v (y := zI (-1)) (by rw [e1]) ?_
      refine g_bipush (x := nI 78) X dL_isWidestSo_24 (by decide +kernel) ?_
      refine g_icmp_ge (tgt := 33) X dL_isWidestSo_26 (by decide) (fun c26 => ?_) (fun c26 => ?_)
      · rw [zI_nI 78, zI_le (by omega) (by omega) (by omega) (by omega)] at c26
        exact absurd c26 (by omega)
      · rw [zI_nI 78, zI_le (by omega) (by omega) (by omega) (by omega)] at c26
        refine g_iconst (x := nI 1) X dL_isWidestSo_29 (by decide +kernel) ?_
        refine g_goto (tgt := 34) X dL_isWidestSo_30 (by decide) ?_
        refine g_istore (lv' := [(6, .int (nI 1)), (5, .int (nI (ctb (jE lo hi P n) 512))), (4, .int (zI (pfV lo hi P n))), (3, .int (zI (wdV lo hi P n w))), (0, .ref cj), (1, .int (nI w)), (2, .ref ou)]) X dL_isWidestSo_34 (by decide) rfl ?_
        refine g_iconst (x := zI (-1)) X dL_isWidestSo_36 (by decide +kernel) ?_
        refine g_istore (lv' := [(7, .int (zI (-1))), (6, .int (nI 1)), (5, .int (nI (ctb (jE lo hi P n) 512))), (4, .int (zI (pfV lo hi P n))), (3, .int (zI (wdV lo hi P n w))), (0, .ref cj), (1, .int (nI w)), (2, .ref ou)]) X dL_isWidestSo_37 (by decide) rfl ?_
        refine g_iload X dL_isWidestSo_39 0 rfl ?_
        refine g_iconst (x := nI 2) X dL_isWidestSo_41 (by decide +kernel) ?_
        refine g_icmp_ge (tgt := 160) X dL_isWidestSo_42 (by decide) (fun c42 => ?_) (fun c42 => ?_)
        · rw [zI_nI 2, zI_le (by omega) (by omega) (by omega) (by omega)] at c42
          exact absurd c42 (by omega)
        · rw [zI_nI 2, zI_le (by omega) (by omega) (by omega) (by omega)] at c42
          refine g_iload_n X dL_isWidestSo_45 4 rfl rfl ?_
          refine g_v (y := zI (-1)) (by rw [e1]) ?_
          refine g_if_lt (tgt := 160) X dL_isWidestSo_46 (by decide) (fun c46 => ?_) (fun c46 => ?_)
          · refine g_iconst (x := nI 0) X dL_isWidestSo_160 (by decide +kernel) ?_
            refine g_istore (lv' := [(7, .int (nI 0)), (6, .int (nI 1)), (5, .int (nI (ctb (jE lo hi P n) 512))), (4, .int (zI (pfV lo hi P n))), (3, .int (zI (wdV lo hi P n w))), (0, .ref cj), (1, .int (nI w)), (2, .ref ou)]) X dL_isWidestSo_161 (by decide) rfl ?_
            have lp163 : ∀ (zN : Nat) (k2 : Nat) (w2 : va_W) (fs2 : List Value) (H2 : Nat → HE9) (c2 : Nat) (hk2 : k2 ≤ 8) (hc2 : c2 ≤ 6) (hC2 : IC9 v cj P n lo hi H2 c2 tx 0 w2) (hq2 : ([w2] : List va_W).flatten[0]? = some (cj, .inr (6, fs2))) (zM : zN = 8 - k2), GG k 0 0 [w2, cOi v ou f] [(7, .int (nI k2)), (6, .int (nI 1)), (5, .int (nI (ctb (jE lo hi P n) 512))), (4, .int (zI (pfV lo hi P n))), (3, .int (zI (wdV lo hi P n w))), (0, .ref cj), (1, .int (nI w)), (2, .ref ou)] 163 [] := by
              intro zN
              induction zN using Nat.strongRecOn with
              | _ zN zih =>
                have ih163 := zih
                clear zih
                intro k2 w2 fs2 H2 c2 hk2 hc2 hC2 hq2 zM
                refine g_iload X dL_isWidestSo_163 0 rfl ?_
                refine g_bipush (x := nI 8) X dL_isWidestSo_165 (by decide +kernel) ?_
                refine g_icmp_geN (tgt := 220) X dL_isWidestSo_167 (by decide) (by omega) (by omega) (fun c167 => ?_) (fun c167 => ?_)
                · refine g_iload X dL_isWidestSo_220 1 rfl ?_
                  refine g_if_eqN (tgt := 277) X dL_isWidestSo_222 (by decide) (by omega) (fun c222 => ?_) (fun c222 => ?_)
                  · exact absurd c222 (by decide)
                  · refine g_iload X dL_isWidestSo_225 3 rfl ?_
                    refine g_iconst (x := nI 1) X dL_isWidestSo_227 (by decide +kernel) ?_
                    refine g_icmp_ne (tgt := 235) X dL_isWidestSo_228 (by decide) (fun c228 => ?_) (fun c228 => ?_)
                    · rw [zI_nI 1, zI_inj (by omega) (by omega) (by omega) (by omega)] at c228
                      refine g_aload_n X dL_isWidestSo_235 5 rfl rfl ?_
                      refine g_callV (As := []) (rest := []) (wr := [cOi v ou f]) X (Cc_X6_proof l v cj hC2 hW hL ) f_X6_proof q_19_20 dL_isWidestSo_236 [0] [1] rfl rfl (by decide) 0 hq2 rfl rfl rfl (Nat.le_of_ble_eq_true rfl) (by decide) (fun r_ w_ hp8 => ?_)
                      obtain ⟨rfl, wk7, hCk7, rfl⟩ := hp8
                      obtain ⟨fsk7, hqk7⟩ := IC9_hd hCk7
                      show GG k _ _ [wk7, cOi v ou f] _ _ [.int (zI (pfV lo hi P n))]
                      refine g_iload X dL_isWidestSo_239 3 rfl ?_
                      refine g_icmp_ne (tgt := 277) X dL_isWidestSo_241 (by decide) (fun c241 => ?_) (fun c241 => ?_)
                      · exact absurd rfl c241
                      · refine g_aload_n X dL_isWidestSo_244 5 rfl rfl ?_
                        refine g_callV (As := []) (rest := []) (wr := [cOi v ou f]) X (Cc_X6_endless l v cj hCk7 hW hL ) f_X6_endless q_16_11 dL_isWidestSo_245 [0] [1] rfl rfl (by decide) 0 hqk7 rfl rfl rfl (Nat.le_of_ble_eq_true rfl) (by decide) (fun r_ w_ hp10 => ?_)
                        obtain ⟨rfl, wk9, hCk9, rfl⟩ := hp10
                        obtain ⟨fsk9, hqk9⟩ := IC9_hd hCk9
                        show GG k _ _ [wk9, cOi v ou f] _ _ [.int (nI (ctb (jE lo hi P n) 512))]
                        refine g_iload X dL_isWidestSo_248 2 rfl ?_
                        refine g_icmp_ne (tgt := 277) X dL_isWidestSo_250 (by decide) (fun c250 => ?_) (fun c250 => ?_)
                        · exact absurd rfl c250
                        · refine g_aload_n X dL_isWidestSo_253 5 rfl rfl ?_
                          refine g_callV (As := []) (rest := []) (wr := [cOi v ou f]) X (Cc_X6_clearBuffer l v cj hCk9 hW hL ) f_X6_clearBuffer q_16_4 dL_isWidestSo_254 [0] [1] rfl rfl (by decide) 0 hqk9 rfl rfl rfl (Nat.le_of_ble_eq_true rfl) (by decide) (fun r_ w_ hp12 => ?_)
                          obtain ⟨rfl, wk11, hCk11, rfl⟩ := hp12
                          obtain ⟨fsk11, hqk11⟩ := IC9_hd hCk11
                          show GG k _ _ [wk11, cOi v ou f] _ _ [.int (nI 0)]
                          refine g_if_neN (tgt := 277) X dL_isWidestSo_257 (by decide) (by omega) (fun c257 => ?_) (fun c257 => ?_)
                          · exact absurd rfl c257
                          · refine g_aload_n X dL_isWidestSo_260 5 rfl rfl ?_
                            refine g_iconst (x := nI 3) X dL_isWidestSo_261 (by decide +kernel) ?_
                            refine g_iconst (x := nI 3) X dL_isWidestSo_262 (by decide +kernel) ?_
                            refine g_iconst (x := nI 0) X dL_isWidestSo_263 (by decide +kernel) ?_
                            refine g_iconst (x := nI 0) X dL_isWidestSo_264 (by decide +kernel) ?_
                            refine g_aload_n X dL_isWidestSo_265 7 rfl rfl ?_
                            refine g_callW (As := [.ref cj, .int (nI 3), .int (nI 3), .int (nI 0), .int (nI 0), .ref ou]) (rest := []) (wr := []) X hnc (w1_ch3 l v cj ou (nI 3) (nI 0) (nI 0) wk11 f (fun w => IC9 v cj P n lo hi H2 c2 tx 0 w) ({ frames := 7, cells := 1, slots := 6, locals := 120 }) hqk11 rfl rfl (by decide) (by decide) (Cb_X6_assume l v hst cj hCk11 hW hL (nI 3) (nI 0) (nI 0) (Or.inr (by decide)))) f_L_changes q_5_22 dL_isWidestSo_266 [0, 1] [] rfl rfl (by decide) rfl rfl (Nat.le_of_ble_eq_true rfl) (by decide) (fun r_ w_ hp14 => ?_)
                            obtain ⟨rfl, wk13, hCk13, rfl⟩ := hp14
                            obtain ⟨fsk13, hqk13⟩ := IC9_hd hCk13
                            show GG k _ _ [wk13, cOi v ou f] _ _ [.int (nI 1)]
                            refine g_iconst (x := nI 1) X dL_isWidestSo_269 (by decide +kernel) ?_
                            refine g_icmp_neN (tgt := 277) X dL_isWidestSo_270 (by decide) (by omega) (by omega) (fun c270 => ?_) (fun c270 => ?_)
                            · exact absurd c270 (by decide)
                            · refine g_iconst (x := nI 1) X dL_isWidestSo_273 (by decide +kernel) ?_
                              refine g_goto (tgt := 278) X dL_isWidestSo_274 (by decide) ?_
                              exact E dL_isWidestSo_278 rfl (rfl) (by decide) (by decide) (⟨rfl, wk13, f, _, _, _, hCk13, rfl⟩)
                    · rw [zI_nI 1, zI_inj (by omega) (by omega) (by omega) (by omega)] at c228
                      exact absurd (hwp (by omega)) (by omega)
                · refine g_iload_n X dL_isWidestSo_170 4 rfl rfl ?_
                  refine g_v (y := zI (-1)) (by rw [e1]) ?_
                  refine g_iconst (x := zI (-1)) X dL_isWidestSo_171 (by decide +kernel) ?_
                  refine g_icmp_ne (tgt := 220) X dL_isWidestSo_172 (by decide) (fun c172 => ?_) (fun c172 => ?_)
                  · rw [zI_inj (by omega) (by omega) (by omega) (by omega)] at c172
                    exact absurd rfl c172
                  · rw [zI_inj (by omega) (by omega) (by omega) (by omega)] at c172
                    refine g_iload X dL_isWidestSo_175 1 rfl ?_
                    refine g_if_eqN (tgt := 211) X dL_isWidestSo_177 (by decide) (by omega) (fun c177 => ?_) (fun c177 => ?_)
                    · exact absurd c177 (by decide)
                    · refine g_aload_n X dL_isWidestSo_180 5 rfl rfl ?_
                      refine g_iload_n X dL_isWidestSo_181 6 rfl rfl ?_
                      refine g_iload X dL_isWidestSo_182 0 rfl ?_
                      refine g_iload X dL_isWidestSo_184 0 rfl ?_
                      refine g_callV (As := [.int (nI w), .int (nI k2), .int (nI k2)]) (rest := []) (wr := [cOi v ou f]) X (Cc_X6_assume l v cj hC2 hW hL w k2 k2 hw9 (by omega) (by omega)) f_X6_assume q_15_11 dL_isWidestSo_186 [0] [1] rfl rfl (by decide) 0 hq2 rfl rfl rfl (Nat.le_of_ble_eq_true rfl) (by decide) (fun r_ w_ hp16 => ?_)
                      obtain ⟨rfl, wk15, hCk15, rfl⟩ := hp16
                      obtain ⟨fsk15, hqk15⟩ := IC9_hd hCk15
                      have hL1 := AsW_up (w := w) (x := k2) (y := k2) hL (by omega) (by omega)
                      have hcr := cnt9_rng hL1
                      have hp1 := pf_rng (lo := hU9 lo w k2) (hi := hU9 hi w k2) (P := P) (n := n)
                      show GG k _ _ [wk15, cOi v ou f] _ _ [.int (nI (cnt9 (hU9 lo w k2) (hU9 hi w k2) 3))]
                      refine g_if_leN (tgt := 211) X dL_isWidestSo_189 (by decide) (by omega) (fun c189 => ?_) (fun c189 => ?_)
                      · exact absurd hcr.2.1 (by omega)
                      · refine g_aload_n X dL_isWidestSo_192 5 rfl rfl ?_
                        refine g_callV (As := []) (rest := []) (wr := [cOi v ou f]) X (Cc_X6_proof l v cj hCk15 hW hL1 ) f_X6_proof q_19_20 dL_isWidestSo_193 [0] [1] rfl rfl (by decide) 0 hqk15 rfl rfl rfl (Nat.le_of_ble_eq_true rfl) (by decide) (fun r_ w_ hp18 => ?_)
                        obtain ⟨rfl, wk17, hCk17, rfl⟩ := hp18
                        obtain ⟨fsk17, hqk17⟩ := IC9_hd hCk17
                        show GG k _ _ [wk17, cOi v ou f] _ _ [.int (zI (pfV (hU9 lo w k2) (hU9 hi w k2) P n))]
                        refine g_iconst (x := nI 1) X dL_isWidestSo_196 (by decide +kernel) ?_
                        refine g_icmp_eq (tgt := 211) X dL_isWidestSo_197 (by decide) (fun c197 => ?_) (fun c197 => ?_)
                        · rw [zI_nI 1, zI_inj (by omega) (by omega) (by omega) (by omega)] at c197
                          exact absurd (u1 k2 (by omega)) ((pf_set (lo := lo) (hi := hi) (a := k2) (b := k2) hW hw9).mp (by omega) k2 (Nat.le_refl _) (Nat.le_refl _))
                        · rw [zI_nI 1, zI_inj (by omega) (by omega) (by omega) (by omega)] at c197
                          refine g_aload_n X dL_isWidestSo_200 5 rfl rfl ?_
                          refine g_callV (As := []) (rest := []) (wr := [cOi v ou f]) X (Cu_X6_undo l v cj hCk17 hW hL1 hc2) f_X6_undo q_21_18 dL_isWidestSo_201 [0] [1] rfl rfl (by decide) 0 hqk17 rfl rfl rfl (Nat.le_of_ble_eq_true rfl) (by decide) (fun r_ w_ hp20 => ?_)
                          obtain ⟨rfl, wk19, hCk19, rfl⟩ := hp20
                          obtain ⟨fsk19, hqk19⟩ := IC9_hd hCk19
                          have hcu := hC9_rng c2 hc2
                          show GG k _ _ [wk19, cOi v ou f] _ _ [.int (nI (hC9 c2 - 1))]
                          refine g_if_ltN (tgt := 211) X dL_isWidestSo_204 (by decide) (by omega) ?_
                          obtain ⟨Hu21, cu21, hcu21, hCu21⟩ : ∃ H1 c1, c1 ≤ 6 ∧ IC9 v cj P n lo hi H1 c1 tx 0 wk19 := ⟨_, _, by omega, hCk19⟩
                          refine g_iconst (x := nI 1) X dL_isWidestSo_207 (by decide +kernel) ?_
                          refine g_goto (tgt := 212) X dL_isWidestSo_208 (by decide) ?_
                          refine g_istore (lv' := [(6, .int (nI 1)), (7, .int (nI k2)), (5, .int (nI (ctb (jE lo hi P n) 512))), (4, .int (zI (pfV lo hi P n))), (3, .int (zI (wdV lo hi P n w))), (0, .ref cj), (1, .int (nI w)), (2, .ref ou)]) X dL_isWidestSo_212 (by decide) rfl ?_
                          refine g_iinc (y := nI (k2 + 1)) (lv' := [(7, .int (nI (k2 + 1))), (6, .int (nI 1)), (5, .int (nI (ctb (jE lo hi P n) 512))), (4, .int (zI (pfV lo hi P n))), (3, .int (zI (wdV lo hi P n w))), (0, .ref cj), (1, .int (nI w)), (2, .ref ou)]) (j := 1) X dL_isWidestSo_214 rfl (nI_add k2 1) (by decide) rfl ?_
                          refine g_goto (tgt := 163) X dL_isWidestSo_217 (by decide) ?_
                          exact ih163 _ (by omega) (k2 + 1) wk19 _ _ _ (by omega) hcu21 hCu21 hqk19 rfl
            exact lp163 _ 0 wk5 _ _ _ (by omega) hT6 hCk5 hqk5 rfl
          · exact absurd c46 (by decide)
  · refine g_iload_n X dL_isWidestSo_18 2 rfl rfl ?_
    refine g_v (y := nI (10 * a9 + b9)) (by rw [e1, zI_nI]) ?_
    refine g_iconst (x := zI (-1)) X dL_isWidestSo_19 (by decide +kernel) ?_
    refine g_icmp_lt (tgt := 33) X dL_isWidestSo_20 (by decide) (fun c20 => ?_) (fun c20 => ?_)
    · rw [zI_nI (10 * a9 + b9), zI_lt (by omega) (by omega) (by omega) (by omega)] at c20
      exact absurd c20 (by omega)
    · rw [zI_nI (10 * a9 + b9), zI_lt (by omega) (by omega) (by omega) (by omega)] at c20
      refine g_iload_n X dL_isWidestSo_23 2 rfl rfl ?_
      refine g_v (y := nI (10 * a9 + b9)) (by rw [e1, zI_nI]) ?_
      refine g_bipush (x := nI 78) X dL_isWidestSo_24 (by decide +kernel) ?_
      refine g_icmp_geN (tgt := 33) X dL_isWidestSo_26 (by decide) (by omega) (by omega) (fun c26 => ?_) (fun c26 => ?_)
      · exact absurd c26 (by omega)
      · refine g_iconst (x := nI 1) X dL_isWidestSo_29 (by decide +kernel) ?_
        refine g_goto (tgt := 34) X dL_isWidestSo_30 (by decide) ?_
        refine g_istore (lv' := [(6, .int (nI 1)), (5, .int (nI (ctb (jE lo hi P n) 512))), (4, .int (zI (pfV lo hi P n))), (3, .int (zI (wdV lo hi P n w))), (0, .ref cj), (1, .int (nI w)), (2, .ref ou)]) X dL_isWidestSo_34 (by decide) rfl ?_
        refine g_iconst (x := zI (-1)) X dL_isWidestSo_36 (by decide +kernel) ?_
        refine g_istore (lv' := [(7, .int (zI (-1))), (6, .int (nI 1)), (5, .int (nI (ctb (jE lo hi P n) 512))), (4, .int (zI (pfV lo hi P n))), (3, .int (zI (wdV lo hi P n w))), (0, .ref cj), (1, .int (nI w)), (2, .ref ou)]) X dL_isWidestSo_37 (by decide) rfl ?_
        refine g_iload X dL_isWidestSo_39 0 rfl ?_
        refine g_iconst (x := nI 2) X dL_isWidestSo_41 (by decide +kernel) ?_
        refine g_icmp_ge (tgt := 160) X dL_isWidestSo_42 (by decide) (fun c42 => ?_) (fun c42 => ?_)
        · rw [zI_nI 2, zI_le (by omega) (by omega) (by omega) (by omega)] at c42
          exact absurd c42 (by omega)
        · rw [zI_nI 2, zI_le (by omega) (by omega) (by omega) (by omega)] at c42
          have j39 : ∀ (w2 : va_W) (fs2 : List Value) (H2 : Nat → HE9) (c2 : Nat) (hc2 : c2 ≤ 6) (hC2 : IC9 v cj P n lo hi H2 c2 tx 0 w2) (hq2 : ([w2] : List va_W).flatten[0]? = some (cj, .inr (6, fs2))), GG k 0 0 [w2, cOi v ou f] [(7, .int (nI 0)), (6, .int (nI 1)), (5, .int (nI (ctb (jE lo hi P n) 512))), (4, .int (zI (pfV lo hi P n))), (3, .int (zI (wdV lo hi P n w))), (0, .ref cj), (1, .int (nI w)), (2, .ref ou)] 39 [] := by
            intro w2 fs2 H2 c2 hc2 hC2 hq2
            refine g_iload X dL_isWidestSo_39 0 rfl ?_
            refine g_iconst (x := nI 2) X dL_isWidestSo_41 (by decide +kernel) ?_
            refine g_icmp_geN (tgt := 160) X dL_isWidestSo_42 (by decide) (by omega) (by omega) (fun c42 => ?_) (fun c42 => ?_)
            · exact absurd c42 (by decide)
            · have j39 : ∀ (w2 : va_W) (fs2 : List Value) (H2 : Nat → HE9) (c2 : Nat) (hc2 : c2 ≤ 6) (hC2 : IC9 v cj P n lo hi H2 c2 tx 0 w2) (hq2 : ([w2] : List va_W).flatten[0]? = some (cj, .inr (6, fs2))), GG k 0 0 [w2, cOi v ou f] [(7, .int (nI 1)), (6, .int (nI 1)), (5, .int (nI (ctb (jE lo hi P n) 512))), (4, .int (zI (pfV lo hi P n))), (3, .int (zI (wdV lo hi P n w))), (0, .ref cj), (1, .int (nI w)), (2, .ref ou)] 39 [] := by
                intro w2 fs2 H2 c2 hc2 hC2 hq2
                refine g_iload X dL_isWidestSo_39 0 rfl ?_
                refine g_iconst (x := nI 2) X dL_isWidestSo_41 (by decide +kernel) ?_
                refine g_icmp_geN (tgt := 160) X dL_isWidestSo_42 (by decide) (by omega) (by omega) (fun c42 => ?_) (fun c42 => ?_)
                · exact absurd c42 (by decide)
                · have j39 : ∀ (w2 : va_W) (fs2 : List Value) (H2 : Nat → HE9) (c2 : Nat) (hc2 : c2 ≤ 6) (hC2 : IC9 v cj P n lo hi H2 c2 tx 0 w2) (hq2 : ([w2] : List va_W).flatten[0]? = some (cj, .inr (6, fs2))), GG k 0 0 [w2, cOi v ou f] [(7, .int (nI 2)), (6, .int (nI 1)), (5, .int (nI (ctb (jE lo hi P n) 512))), (4, .int (zI (pfV lo hi P n))), (3, .int (zI (wdV lo hi P n w))), (0, .ref cj), (1, .int (nI w)), (2, .ref ou)] 39 [] := by
                    intro w2 fs2 H2 c2 hc2 hC2 hq2
                    refine g_iload X dL_isWidestSo_39 0 rfl ?_
                    refine g_iconst (x := nI 2) X dL_isWidestSo_41 (by decide +kernel) ?_
                    refine g_icmp_geN (tgt := 160) X dL_isWidestSo_42 (by decide) (by omega) (by omega) (fun c42 => ?_) (fun c42 => ?_)
                    · refine g_iconst (x := nI 0) X dL_isWidestSo_160 (by decide +kernel) ?_
                      refine g_istore (lv' := [(7, .int (nI 0)), (6, .int (nI 1)), (5, .int (nI (ctb (jE lo hi P n) 512))), (4, .int (zI (pfV lo hi P n))), (3, .int (zI (wdV lo hi P n w))), (0, .ref cj), (1, .int (nI w)), (2, .ref ou)]) X dL_isWidestSo_161 (by decide) rfl ?_
                      refine g_iload X dL_isWidestSo_163 0 rfl ?_
                      refine g_bipush (x := nI 8) X dL_isWidestSo_165 (by decide +kernel) ?_
                      refine g_icmp_geN (tgt := 220) X dL_isWidestSo_167 (by decide) (by omega) (by omega) (fun c167 => ?_) (fun c167 => ?_)
                      · exact absurd c167 (by decide)
                      · refine g_iload_n X dL_isWidestSo_170 4 rfl rfl ?_
                        refine g_v (y := nI (10 * a9 + b9)) (by rw [e1, zI_nI]) ?_
                        refine g_iconst (x := zI (-1)) X dL_isWidestSo_171 (by decide +kernel) ?_
                        refine g_icmp_ne (tgt := 220) X dL_isWidestSo_172 (by decide) (fun c172 => ?_) (fun c172 => ?_)
                        · rw [zI_nI (10 * a9 + b9), zI_inj (by omega) (by omega) (by omega) (by omega)] at c172
                          refine g_iload X dL_isWidestSo_220 1 rfl ?_
                          refine g_if_eqN (tgt := 277) X dL_isWidestSo_222 (by decide) (by omega) (fun c222 => ?_) (fun c222 => ?_)
                          · exact absurd c222 (by decide)
                          · refine g_iload X dL_isWidestSo_225 3 rfl ?_
                            refine g_iconst (x := nI 1) X dL_isWidestSo_227 (by decide +kernel) ?_
                            refine g_icmp_ne (tgt := 235) X dL_isWidestSo_228 (by decide) (fun c228 => ?_) (fun c228 => ?_)
                            · rw [zI_nI 1, zI_inj (by omega) (by omega) (by omega) (by omega)] at c228
                              refine g_aload_n X dL_isWidestSo_235 5 rfl rfl ?_
                              refine g_callV (As := []) (rest := []) (wr := [cOi v ou f]) X (Cc_X6_proof l v cj hC2 hW hL ) f_X6_proof q_19_20 dL_isWidestSo_236 [0] [1] rfl rfl (by decide) 0 hq2 rfl rfl rfl (Nat.le_of_ble_eq_true rfl) (by decide) (fun r_ w_ hp23 => ?_)
                              obtain ⟨rfl, wk22, hCk22, rfl⟩ := hp23
                              obtain ⟨fsk22, hqk22⟩ := IC9_hd hCk22
                              show GG k _ _ [wk22, cOi v ou f] _ _ [.int (zI (pfV lo hi P n))]
                              refine g_iload X dL_isWidestSo_239 3 rfl ?_
                              refine g_icmp_ne (tgt := 277) X dL_isWidestSo_241 (by decide) (fun c241 => ?_) (fun c241 => ?_)
                              · exact absurd rfl c241
                              · refine g_aload_n X dL_isWidestSo_244 5 rfl rfl ?_
                                refine g_callV (As := []) (rest := []) (wr := [cOi v ou f]) X (Cc_X6_endless l v cj hCk22 hW hL ) f_X6_endless q_16_11 dL_isWidestSo_245 [0] [1] rfl rfl (by decide) 0 hqk22 rfl rfl rfl (Nat.le_of_ble_eq_true rfl) (by decide) (fun r_ w_ hp25 => ?_)
                                obtain ⟨rfl, wk24, hCk24, rfl⟩ := hp25
                                obtain ⟨fsk24, hqk24⟩ := IC9_hd hCk24
                                show GG k _ _ [wk24, cOi v ou f] _ _ [.int (nI (ctb (jE lo hi P n) 512))]
                                refine g_iload X dL_isWidestSo_248 2 rfl ?_
                                refine g_icmp_ne (tgt := 277) X dL_isWidestSo_250 (by decide) (fun c250 => ?_) (fun c250 => ?_)
                                · exact absurd rfl c250
                                · refine g_aload_n X dL_isWidestSo_253 5 rfl rfl ?_
                                  refine g_callV (As := []) (rest := []) (wr := [cOi v ou f]) X (Cc_X6_clearBuffer l v cj hCk24 hW hL ) f_X6_clearBuffer q_16_4 dL_isWidestSo_254 [0] [1] rfl rfl (by decide) 0 hqk24 rfl rfl rfl (Nat.le_of_ble_eq_true rfl) (by decide) (fun r_ w_ hp27 => ?_)
                                  obtain ⟨rfl, wk26, hCk26, rfl⟩ := hp27
                                  obtain ⟨fsk26, hqk26⟩ := IC9_hd hCk26
                                  show GG k _ _ [wk26, cOi v ou f] _ _ [.int (nI 0)]
                                  refine g_if_neN (tgt := 277) X dL_isWidestSo_257 (by decide) (by omega) (fun c257 => ?_) (fun c257 => ?_)
                                  · exact absurd rfl c257
                                  · refine g_aload_n X dL_isWidestSo_260 5 rfl rfl ?_
                                    refine g_iconst (x := nI 3) X dL_isWidestSo_261 (by decide +kernel) ?_
                                    refine g_iconst (x := nI 3) X dL_isWidestSo_262 (by decide +kernel) ?_
                                    refine g_iconst (x := nI 0) X dL_isWidestSo_263 (by decide +kernel) ?_
                                    refine g_iconst (x := nI 0) X dL_isWidestSo_264 (by decide +kernel) ?_
                                    refine g_aload_n X dL_isWidestSo_265 7 rfl rfl ?_
                                    refine g_callW (As := [.ref cj, .int (nI 3), .int (nI 3), .int (nI 0), .int (nI 0), .ref ou]) (rest := []) (wr := []) X hnc (w1_ch3 l v cj ou (nI 3) (nI 0) (nI 0) wk26 f (fun w => IC9 v cj P n lo hi H2 c2 tx 0 w) ({ frames := 7, cells := 1, slots := 6, locals := 120 }) hqk26 rfl rfl (by decide) (by decide) (Cb_X6_assume l v hst cj hCk26 hW hL (nI 3) (nI 0) (nI 0) (Or.inr (by decide)))) f_L_changes q_5_22 dL_isWidestSo_266 [0, 1] [] rfl rfl (by decide) rfl rfl (Nat.le_of_ble_eq_true rfl) (by decide) (fun r_ w_ hp29 => ?_)
                                    obtain ⟨rfl, wk28, hCk28, rfl⟩ := hp29
                                    obtain ⟨fsk28, hqk28⟩ := IC9_hd hCk28
                                    show GG k _ _ [wk28, cOi v ou f] _ _ [.int (nI 1)]
                                    refine g_iconst (x := nI 1) X dL_isWidestSo_269 (by decide +kernel) ?_
                                    refine g_icmp_neN (tgt := 277) X dL_isWidestSo_270 (by decide) (by omega) (by omega) (fun c270 => ?_) (fun c270 => ?_)
                                    · exact absurd c270 (by decide)
                                    · refine g_iconst (x := nI 1) X dL_isWidestSo_273 (by decide +kernel) ?_
                                      refine g_goto (tgt := 278) X dL_isWidestSo_274 (by decide) ?_
                                      exact E dL_isWidestSo_278 rfl (rfl) (by decide) (by decide) (⟨rfl, wk28, f, _, _, _, hCk28, rfl⟩)
                            · rw [zI_nI 1, zI_inj (by omega) (by omega) (by omega) (by omega)] at c228
                              refine g_iload_n X dL_isWidestSo_231 4 rfl rfl ?_
                              refine g_v (y := nI (10 * a9 + b9)) (by rw [e1, zI_nI]) ?_
                              refine g_if_ltN (tgt := 277) X dL_isWidestSo_232 (by decide) (by omega) ?_
                              refine g_aload_n X dL_isWidestSo_235 5 rfl rfl ?_
                              refine g_callV (As := []) (rest := []) (wr := [cOi v ou f]) X (Cc_X6_proof l v cj hC2 hW hL ) f_X6_proof q_19_20 dL_isWidestSo_236 [0] [1] rfl rfl (by decide) 0 hq2 rfl rfl rfl (Nat.le_of_ble_eq_true rfl) (by decide) (fun r_ w_ hp31 => ?_)
                              obtain ⟨rfl, wk30, hCk30, rfl⟩ := hp31
                              obtain ⟨fsk30, hqk30⟩ := IC9_hd hCk30
                              show GG k _ _ [wk30, cOi v ou f] _ _ [.int (zI (pfV lo hi P n))]
                              refine g_iload X dL_isWidestSo_239 3 rfl ?_
                              refine g_icmp_ne (tgt := 277) X dL_isWidestSo_241 (by decide) (fun c241 => ?_) (fun c241 => ?_)
                              · exact absurd rfl c241
                              · refine g_aload_n X dL_isWidestSo_244 5 rfl rfl ?_
                                refine g_callV (As := []) (rest := []) (wr := [cOi v ou f]) X (Cc_X6_endless l v cj hCk30 hW hL ) f_X6_endless q_16_11 dL_isWidestSo_245 [0] [1] rfl rfl (by decide) 0 hqk30 rfl rfl rfl (Nat.le_of_ble_eq_true rfl) (by decide) (fun r_ w_ hp33 => ?_)
                                obtain ⟨rfl, wk32, hCk32, rfl⟩ := hp33
                                obtain ⟨fsk32, hqk32⟩ := IC9_hd hCk32
                                show GG k _ _ [wk32, cOi v ou f] _ _ [.int (nI (ctb (jE lo hi P n) 512))]
                                refine g_iload X dL_isWidestSo_248 2 rfl ?_
                                refine g_icmp_ne (tgt := 277) X dL_isWidestSo_250 (by decide) (fun c250 => ?_) (fun c250 => ?_)
                                · exact absurd rfl c250
                                · refine g_aload_n X dL_isWidestSo_253 5 rfl rfl ?_
                                  refine g_callV (As := []) (rest := []) (wr := [cOi v ou f]) X (Cc_X6_clearBuffer l v cj hCk32 hW hL ) f_X6_clearBuffer q_16_4 dL_isWidestSo_254 [0] [1] rfl rfl (by decide) 0 hqk32 rfl rfl rfl (Nat.le_of_ble_eq_true rfl) (by decide) (fun r_ w_ hp35 => ?_)
                                  obtain ⟨rfl, wk34, hCk34, rfl⟩ := hp35
                                  obtain ⟨fsk34, hqk34⟩ := IC9_hd hCk34
                                  show GG k _ _ [wk34, cOi v ou f] _ _ [.int (nI 0)]
                                  refine g_if_neN (tgt := 277) X dL_isWidestSo_257 (by decide) (by omega) (fun c257 => ?_) (fun c257 => ?_)
                                  · exact absurd rfl c257
                                  · refine g_aload_n X dL_isWidestSo_260 5 rfl rfl ?_
                                    refine g_iconst (x := nI 3) X dL_isWidestSo_261 (by decide +kernel) ?_
                                    refine g_iconst (x := nI 3) X dL_isWidestSo_262 (by decide +kernel) ?_
                                    refine g_iconst (x := nI 0) X dL_isWidestSo_263 (by decide +kernel) ?_
                                    refine g_iconst (x := nI 0) X dL_isWidestSo_264 (by decide +kernel) ?_
                                    refine g_aload_n X dL_isWidestSo_265 7 rfl rfl ?_
                                    refine g_callW (As := [.ref cj, .int (nI 3), .int (nI 3), .int (nI 0), .int (nI 0), .ref ou]) (rest := []) (wr := []) X hnc (w1_ch3 l v cj ou (nI 3) (nI 0) (nI 0) wk34 f (fun w => IC9 v cj P n lo hi H2 c2 tx 0 w) ({ frames := 7, cells := 1, slots := 6, locals := 120 }) hqk34 rfl rfl (by decide) (by decide) (Cb_X6_assume l v hst cj hCk34 hW hL (nI 3) (nI 0) (nI 0) (Or.inr (by decide)))) f_L_changes q_5_22 dL_isWidestSo_266 [0, 1] [] rfl rfl (by decide) rfl rfl (Nat.le_of_ble_eq_true rfl) (by decide) (fun r_ w_ hp37 => ?_)
                                    obtain ⟨rfl, wk36, hCk36, rfl⟩ := hp37
                                    obtain ⟨fsk36, hqk36⟩ := IC9_hd hCk36
                                    show GG k _ _ [wk36, cOi v ou f] _ _ [.int (nI 1)]
                                    refine g_iconst (x := nI 1) X dL_isWidestSo_269 (by decide +kernel) ?_
                                    refine g_icmp_neN (tgt := 277) X dL_isWidestSo_270 (by decide) (by omega) (by omega) (fun c270 => ?_) (fun c270 => ?_)
                                    · exact absurd c270 (by decide)
                                    · refine g_iconst (x := nI 1) X dL_isWidestSo_273 (by decide +kernel) ?_
                                      refine g_goto (tgt := 278) X dL_isWidestSo_274 (by decide) ?_
                                      exact E dL_isWidestSo_278 rfl (rfl) (by decide) (by decide) (⟨rfl, wk36, f, _, _, _, hCk36, rfl⟩)
                        · rw [zI_nI (10 * a9 + b9), zI_inj (by omega) (by omega) (by omega) (by omega)] at c172
                          exact absurd c172 (by omega)
                    · exact absurd c42 (by decide)
                  refine g_iload_n X dL_isWidestSo_45 4 rfl rfl ?_
                  refine g_v (y := nI (10 * a9 + b9)) (by rw [e1, zI_nI]) ?_
                  refine g_if_ltN (tgt := 160) X dL_isWidestSo_46 (by decide) (by omega) ?_
                  refine g_iload_n X dL_isWidestSo_49 4 rfl rfl ?_
                  refine g_v (y := nI (10 * a9 + b9)) (by rw [e1, zI_nI]) ?_
                  refine g_bipush (x := nI 10) X dL_isWidestSo_50 (by decide +kernel) ?_
                  refine g_idivN X dL_isWidestSo_52 (by omega) (by omega) (by omega) ?_
                  refine g_v (y := nI a9) (by rw [show (10 * a9 + b9) / 10 = a9 by omega]) ?_
                  refine g_iload X dL_isWidestSo_53 0 rfl ?_
                  refine g_iconst (x := zI (-1)) X dL_isWidestSo_55 (by decide +kernel) ?_
                  refine g_icmp_ne (tgt := 63) X dL_isWidestSo_56 (by decide) (fun c56 => ?_) (fun c56 => ?_)
                  · rw [zI_nI 1, zI_inj (by omega) (by omega) (by omega) (by omega)] at c56
                    refine g_iconst (x := nI 0) X dL_isWidestSo_63 (by decide +kernel) ?_
                    refine g_iaddN X dL_isWidestSo_64 ?_
                    refine g_v (y := nI a9) (rfl) ?_
                    refine g_istore (lv' := [(8, .int (nI a9)), (7, .int (nI 1)), (6, .int (nI 1)), (5, .int (nI (ctb (jE lo hi P n) 512))), (4, .int (zI (pfV lo hi P n))), (3, .int (zI (wdV lo hi P n w))), (0, .ref cj), (1, .int (nI w)), (2, .ref ou)]) X dL_isWidestSo_65 (by decide) rfl ?_
                    refine g_iload_n X dL_isWidestSo_67 5 rfl rfl ?_
                    refine g_v (y := nI (10 * a9 + b9)) (by rw [e1, zI_nI]) ?_
                    refine g_bipush (x := nI 10) X dL_isWidestSo_68 (by decide +kernel) ?_
                    refine g_iremN X dL_isWidestSo_70 (by omega) (by omega) (by omega) ?_
                    refine g_v (y := nI b9) (by rw [show (10 * a9 + b9) % 10 = b9 by omega]) ?_
                    refine g_iload X dL_isWidestSo_71 1 rfl ?_
                    refine g_iconst (x := nI 1) X dL_isWidestSo_73 (by decide +kernel) ?_
                    refine g_icmp_neN (tgt := 81) X dL_isWidestSo_74 (by decide) (by omega) (by omega) (fun c74 => ?_) (fun c74 => ?_)
                    · exact absurd c74 (by decide)
                    · refine g_iconst (x := nI 1) X dL_isWidestSo_77 (by decide +kernel) ?_
                      refine g_goto (tgt := 82) X dL_isWidestSo_78 (by decide) ?_
                      refine g_iaddN X dL_isWidestSo_82 ?_
                      refine g_v (y := nI (b9 + 1)) (rfl) ?_
                      refine g_istore (lv' := [(9, .int (nI (b9 + 1))), (8, .int (nI a9)), (7, .int (nI 1)), (6, .int (nI 1)), (5, .int (nI (ctb (jE lo hi P n) 512))), (4, .int (zI (pfV lo hi P n))), (3, .int (zI (wdV lo hi P n w))), (0, .ref cj), (1, .int (nI w)), (2, .ref ou)]) X dL_isWidestSo_83 (by decide) rfl ?_
                      refine g_iload X dL_isWidestSo_85 1 rfl ?_
                      refine g_if_ltN (tgt := 154) X dL_isWidestSo_87 (by decide) (by omega) ?_
                      refine g_iload X dL_isWidestSo_90 0 rfl ?_
                      refine g_bipush (x := nI 8) X dL_isWidestSo_92 (by decide +kernel) ?_
                      refine g_icmp_geN (tgt := 154) X dL_isWidestSo_94 (by decide) (by omega) (by omega) (fun c94 => ?_) (fun c94 => ?_)
                      · refine g_iinc (y := nI 2) (lv' := [(7, .int (nI 2)), (9, .int (nI (b9 + 1))), (8, .int (nI a9)), (6, .int (nI 1)), (5, .int (nI (ctb (jE lo hi P n) 512))), (4, .int (zI (pfV lo hi P n))), (3, .int (zI (wdV lo hi P n w))), (0, .ref cj), (1, .int (nI w)), (2, .ref ou)]) (j := 2) X dL_isWidestSo_154 rfl (nI_add 1 1) (by decide) rfl ?_
                        refine g_goto (tgt := 39) X dL_isWidestSo_157 (by decide) ?_
                        refine g_lv (lv' := [(7, .int (nI 2)), (6, .int (nI 1)), (5, .int (nI (ctb (jE lo hi P n) 512))), (4, .int (zI (pfV lo hi P n))), (3, .int (zI (wdV lo hi P n w))), (0, .ref cj), (1, .int (nI w)), (2, .ref ou)]) [0, 3, 4, 5, 6, 7, 8, 9] rfl ?_
                        exact j39 w2 _ _ _ hc2 hC2 hq2
                      · refine g_iload X dL_isWidestSo_97 3 rfl ?_
                        refine g_if_eqN (tgt := 151) X dL_isWidestSo_99 (by decide) (by omega) (fun c99 => ?_) (fun c99 => ?_)
                        · exact absurd c99 (by decide)
                        · refine g_aload_n X dL_isWidestSo_102 7 rfl rfl ?_
                          refine g_iload_n X dL_isWidestSo_103 8 rfl rfl ?_
                          refine g_iload X dL_isWidestSo_104 1 rfl ?_
                          refine g_iload X dL_isWidestSo_106 0 rfl ?_
                          refine g_callV (As := [.int (nI w), .int (nI a9), .int (nI (b9 + 1))]) (rest := []) (wr := [cOi v ou f]) X (Cc_X6_assume l v cj hC2 hW hL w a9 (b9 + 1) hw9 (by omega) (by omega)) f_X6_assume q_15_11 dL_isWidestSo_108 [0] [1] rfl rfl (by decide) 0 hq2 rfl rfl rfl (Nat.le_of_ble_eq_true rfl) (by decide) (fun r_ w_ hp39 => ?_)
                          obtain ⟨rfl, wk38, hCk38, rfl⟩ := hp39
                          obtain ⟨fsk38, hqk38⟩ := IC9_hd hCk38
                          have hL1 := AsW_up (w := w) (x := a9) (y := (b9 + 1)) hL (by omega) (by omega)
                          have hcr := cnt9_rng hL1
                          have hp1 := pf_rng (lo := hU9 lo w a9) (hi := hU9 hi w (b9 + 1)) (P := P) (n := n)
                          show GG k _ _ [wk38, cOi v ou f] _ _ [.int (nI (cnt9 (hU9 lo w a9) (hU9 hi w (b9 + 1)) 3))]
                          refine g_if_leN (tgt := 151) X dL_isWidestSo_111 (by decide) (by omega) (fun c111 => ?_) (fun c111 => ?_)
                          · exact absurd hcr.2.1 (by omega)
                          · refine g_aload_n X dL_isWidestSo_114 7 rfl rfl ?_
                            refine g_callV (As := []) (rest := []) (wr := [cOi v ou f]) X (Cc_X6_proof l v cj hCk38 hW hL1 ) f_X6_proof q_19_20 dL_isWidestSo_115 [0] [1] rfl rfl (by decide) 0 hqk38 rfl rfl rfl (Nat.le_of_ble_eq_true rfl) (by decide) (fun r_ w_ hp41 => ?_)
                            obtain ⟨rfl, wk40, hCk40, rfl⟩ := hp41
                            obtain ⟨fsk40, hqk40⟩ := IC9_hd hCk40
                            show GG k _ _ [wk40, cOi v ou f] _ _ [.int (zI (pfV (hU9 lo w a9) (hU9 hi w (b9 + 1)) P n))]
                            refine g_iconst (x := nI 1) X dL_isWidestSo_118 (by decide +kernel) ?_
                            refine g_icmp_ne (tgt := 126) X dL_isWidestSo_119 (by decide) (fun c119 => ?_) (fun c119 => ?_)
                            · rw [zI_nI 1, zI_inj (by omega) (by omega) (by omega) (by omega)] at c119
                              refine g_iconst (x := nI 0) X dL_isWidestSo_126 (by decide +kernel) ?_
                              refine g_iload X dL_isWidestSo_127 2 rfl ?_
                              refine g_if_neN (tgt := 136) X dL_isWidestSo_129 (by decide) (by omega) (fun c129 => ?_) (fun c129 => ?_)
                              · refine g_iconst (x := nI 0) X dL_isWidestSo_136 (by decide +kernel) ?_
                                refine g_icmp_neN (tgt := 151) X dL_isWidestSo_137 (by decide) (by omega) (by omega) (fun c137 => ?_) (fun c137 => ?_)
                                · exact absurd c137 (by decide)
                                · refine g_aload_n X dL_isWidestSo_140 7 rfl rfl ?_
                                  refine g_callV (As := []) (rest := []) (wr := [cOi v ou f]) X (Cu_X6_undo l v cj hCk40 hW hL1 hc2) f_X6_undo q_21_18 dL_isWidestSo_141 [0] [1] rfl rfl (by decide) 0 hqk40 rfl rfl rfl (Nat.le_of_ble_eq_true rfl) (by decide) (fun r_ w_ hp43 => ?_)
                                  obtain ⟨rfl, wk42, hCk42, rfl⟩ := hp43
                                  obtain ⟨fsk42, hqk42⟩ := IC9_hd hCk42
                                  have hcu := hC9_rng c2 hc2
                                  show GG k _ _ [wk42, cOi v ou f] _ _ [.int (nI (hC9 c2 - 1))]
                                  refine g_if_ltN (tgt := 151) X dL_isWidestSo_144 (by decide) (by omega) ?_
                                  obtain ⟨Hu44, cu44, hcu44, hCu44⟩ : ∃ H1 c1, c1 ≤ 6 ∧ IC9 v cj P n lo hi H1 c1 tx 0 wk42 := ⟨_, _, by omega, hCk42⟩
                                  refine g_iconst (x := nI 1) X dL_isWidestSo_147 (by decide +kernel) ?_
                                  refine g_goto (tgt := 152) X dL_isWidestSo_148 (by decide) ?_
                                  refine g_istore (lv' := [(6, .int (nI 1)), (9, .int (nI (b9 + 1))), (8, .int (nI a9)), (7, .int (nI 1)), (5, .int (nI (ctb (jE lo hi P n) 512))), (4, .int (zI (pfV lo hi P n))), (3, .int (zI (wdV lo hi P n w))), (0, .ref cj), (1, .int (nI w)), (2, .ref ou)]) X dL_isWidestSo_152 (by decide) rfl ?_
                                  refine g_iinc (y := nI 2) (lv' := [(7, .int (nI 2)), (6, .int (nI 1)), (9, .int (nI (b9 + 1))), (8, .int (nI a9)), (5, .int (nI (ctb (jE lo hi P n) 512))), (4, .int (zI (pfV lo hi P n))), (3, .int (zI (wdV lo hi P n w))), (0, .ref cj), (1, .int (nI w)), (2, .ref ou)]) (j := 3) X dL_isWidestSo_154 rfl (nI_add 1 1) (by decide) rfl ?_
                                  refine g_goto (tgt := 39) X dL_isWidestSo_157 (by decide) ?_
                                  refine g_lv (lv' := [(7, .int (nI 2)), (6, .int (nI 1)), (5, .int (nI (ctb (jE lo hi P n) 512))), (4, .int (zI (pfV lo hi P n))), (3, .int (zI (wdV lo hi P n w))), (0, .ref cj), (1, .int (nI w)), (2, .ref ou)]) [0, 1, 4, 5, 6, 7, 8, 9] rfl ?_
                                  exact j39 wk42 _ _ _ hcu44 hCu44 hqk42
                              · exact absurd c129 (by decide)
                            · rw [zI_nI 1, zI_inj (by omega) (by omega) (by omega) (by omega)] at c119
                              exact absurd (u5 (by omega)) ((pf_set (lo := lo) (hi := hi) (a := a9) (b := (b9 + 1)) hW hw9).mp (by omega) (b9 + 1) (by omega) (by omega))
                  · rw [zI_nI 1, zI_inj (by omega) (by omega) (by omega) (by omega)] at c56
                    exact absurd c56 (by omega)
              refine g_iload_n X dL_isWidestSo_45 4 rfl rfl ?_
              refine g_v (y := nI (10 * a9 + b9)) (by rw [e1, zI_nI]) ?_
              refine g_if_ltN (tgt := 160) X dL_isWidestSo_46 (by decide) (by omega) ?_
              refine g_iload_n X dL_isWidestSo_49 4 rfl rfl ?_
              refine g_v (y := nI (10 * a9 + b9)) (by rw [e1, zI_nI]) ?_
              refine g_bipush (x := nI 10) X dL_isWidestSo_50 (by decide +kernel) ?_
              refine g_idivN X dL_isWidestSo_52 (by omega) (by omega) (by omega) ?_
              refine g_v (y := nI a9) (by rw [show (10 * a9 + b9) / 10 = a9 by omega]) ?_
              refine g_iload X dL_isWidestSo_53 0 rfl ?_
              refine g_iconst (x := zI (-1)) X dL_isWidestSo_55 (by decide +kernel) ?_
              refine g_icmp_ne (tgt := 63) X dL_isWidestSo_56 (by decide) (fun c56 => ?_) (fun c56 => ?_)
              · rw [zI_nI 0, zI_inj (by omega) (by omega) (by omega) (by omega)] at c56
                refine g_iconst (x := nI 0) X dL_isWidestSo_63 (by decide +kernel) ?_
                refine g_iaddN X dL_isWidestSo_64 ?_
                refine g_v (y := nI a9) (rfl) ?_
                refine g_istore (lv' := [(8, .int (nI a9)), (7, .int (nI 0)), (6, .int (nI 1)), (5, .int (nI (ctb (jE lo hi P n) 512))), (4, .int (zI (pfV lo hi P n))), (3, .int (zI (wdV lo hi P n w))), (0, .ref cj), (1, .int (nI w)), (2, .ref ou)]) X dL_isWidestSo_65 (by decide) rfl ?_
                refine g_iload_n X dL_isWidestSo_67 5 rfl rfl ?_
                refine g_v (y := nI (10 * a9 + b9)) (by rw [e1, zI_nI]) ?_
                refine g_bipush (x := nI 10) X dL_isWidestSo_68 (by decide +kernel) ?_
                refine g_iremN X dL_isWidestSo_70 (by omega) (by omega) (by omega) ?_
                refine g_v (y := nI b9) (by rw [show (10 * a9 + b9) % 10 = b9 by omega]) ?_
                refine g_iload X dL_isWidestSo_71 1 rfl ?_
                refine g_iconst (x := nI 1) X dL_isWidestSo_73 (by decide +kernel) ?_
                refine g_icmp_neN (tgt := 81) X dL_isWidestSo_74 (by decide) (by omega) (by omega) (fun c74 => ?_) (fun c74 => ?_)
                · refine g_iconst (x := nI 0) X dL_isWidestSo_81 (by decide +kernel) ?_
                  refine g_iaddN X dL_isWidestSo_82 ?_
                  refine g_v (y := nI b9) (rfl) ?_
                  refine g_istore (lv' := [(9, .int (nI b9)), (8, .int (nI a9)), (7, .int (nI 0)), (6, .int (nI 1)), (5, .int (nI (ctb (jE lo hi P n) 512))), (4, .int (zI (pfV lo hi P n))), (3, .int (zI (wdV lo hi P n w))), (0, .ref cj), (1, .int (nI w)), (2, .ref ou)]) X dL_isWidestSo_83 (by decide) rfl ?_
                  refine g_iload X dL_isWidestSo_85 1 rfl ?_
                  refine g_if_ltN (tgt := 154) X dL_isWidestSo_87 (by decide) (by omega) ?_
                  refine g_iload X dL_isWidestSo_90 0 rfl ?_
                  refine g_bipush (x := nI 8) X dL_isWidestSo_92 (by decide +kernel) ?_
                  refine g_icmp_geN (tgt := 154) X dL_isWidestSo_94 (by decide) (by omega) (by omega) (fun c94 => ?_) (fun c94 => ?_)
                  · exact absurd c94 (by omega)
                  · refine g_iload X dL_isWidestSo_97 3 rfl ?_
                    refine g_if_eqN (tgt := 151) X dL_isWidestSo_99 (by decide) (by omega) (fun c99 => ?_) (fun c99 => ?_)
                    · exact absurd c99 (by decide)
                    · refine g_aload_n X dL_isWidestSo_102 7 rfl rfl ?_
                      refine g_iload_n X dL_isWidestSo_103 8 rfl rfl ?_
                      refine g_iload X dL_isWidestSo_104 1 rfl ?_
                      refine g_iload X dL_isWidestSo_106 0 rfl ?_
                      refine g_callV (As := [.int (nI w), .int (nI a9), .int (nI b9)]) (rest := []) (wr := [cOi v ou f]) X (Cc_X6_assume l v cj hC2 hW hL w a9 b9 hw9 (by omega) (by omega)) f_X6_assume q_15_11 dL_isWidestSo_108 [0] [1] rfl rfl (by decide) 0 hq2 rfl rfl rfl (Nat.le_of_ble_eq_true rfl) (by decide) (fun r_ w_ hp46 => ?_)
                      obtain ⟨rfl, wk45, hCk45, rfl⟩ := hp46
                      obtain ⟨fsk45, hqk45⟩ := IC9_hd hCk45
                      have hL1 := AsW_up (w := w) (x := a9) (y := b9) hL (by omega) (by omega)
                      have hcr := cnt9_rng hL1
                      have hp1 := pf_rng (lo := hU9 lo w a9) (hi := hU9 hi w b9) (P := P) (n := n)
                      show GG k _ _ [wk45, cOi v ou f] _ _ [.int (nI (cnt9 (hU9 lo w a9) (hU9 hi w b9) 3))]
                      refine g_if_leN (tgt := 151) X dL_isWidestSo_111 (by decide) (by omega) (fun c111 => ?_) (fun c111 => ?_)
                      · exact absurd hcr.2.1 (by omega)
                      · refine g_aload_n X dL_isWidestSo_114 7 rfl rfl ?_
                        refine g_callV (As := []) (rest := []) (wr := [cOi v ou f]) X (Cc_X6_proof l v cj hCk45 hW hL1 ) f_X6_proof q_19_20 dL_isWidestSo_115 [0] [1] rfl rfl (by decide) 0 hqk45 rfl rfl rfl (Nat.le_of_ble_eq_true rfl) (by decide) (fun r_ w_ hp48 => ?_)
                        obtain ⟨rfl, wk47, hCk47, rfl⟩ := hp48
                        obtain ⟨fsk47, hqk47⟩ := IC9_hd hCk47
                        show GG k _ _ [wk47, cOi v ou f] _ _ [.int (zI (pfV (hU9 lo w a9) (hU9 hi w b9) P n))]
                        refine g_v (y := nI 1) (by rw [(pf_set (lo := lo) (hi := hi) (a := a9) (b := b9) hW hw9).mpr u3]; rfl) ?_
                        refine g_iconst (x := nI 1) X dL_isWidestSo_118 (by decide +kernel) ?_
                        refine g_icmp_neN (tgt := 126) X dL_isWidestSo_119 (by decide) (by omega) (by omega) (fun c119 => ?_) (fun c119 => ?_)
                        · exact absurd c119 (by decide)
                        · refine g_iconst (x := nI 1) X dL_isWidestSo_122 (by decide +kernel) ?_
                          refine g_goto (tgt := 127) X dL_isWidestSo_123 (by decide) ?_
                          refine g_iload X dL_isWidestSo_127 2 rfl ?_
                          refine g_if_neN (tgt := 136) X dL_isWidestSo_129 (by decide) (by omega) (fun c129 => ?_) (fun c129 => ?_)
                          · exact absurd rfl c129
                          · refine g_iconst (x := nI 1) X dL_isWidestSo_132 (by decide +kernel) ?_
                            refine g_goto (tgt := 137) X dL_isWidestSo_133 (by decide) ?_
                            refine g_icmp_neN (tgt := 151) X dL_isWidestSo_137 (by decide) (by omega) (by omega) (fun c137 => ?_) (fun c137 => ?_)
                            · exact absurd c137 (by decide)
                            · refine g_aload_n X dL_isWidestSo_140 7 rfl rfl ?_
                              refine g_callV (As := []) (rest := []) (wr := [cOi v ou f]) X (Cu_X6_undo l v cj hCk47 hW hL1 hc2) f_X6_undo q_21_18 dL_isWidestSo_141 [0] [1] rfl rfl (by decide) 0 hqk47 rfl rfl rfl (Nat.le_of_ble_eq_true rfl) (by decide) (fun r_ w_ hp50 => ?_)
                              obtain ⟨rfl, wk49, hCk49, rfl⟩ := hp50
                              obtain ⟨fsk49, hqk49⟩ := IC9_hd hCk49
                              have hcu := hC9_rng c2 hc2
                              show GG k _ _ [wk49, cOi v ou f] _ _ [.int (nI (hC9 c2 - 1))]
                              refine g_if_ltN (tgt := 151) X dL_isWidestSo_144 (by decide) (by omega) ?_
                              obtain ⟨Hu51, cu51, hcu51, hCu51⟩ : ∃ H1 c1, c1 ≤ 6 ∧ IC9 v cj P n lo hi H1 c1 tx 0 wk49 := ⟨_, _, by omega, hCk49⟩
                              refine g_iconst (x := nI 1) X dL_isWidestSo_147 (by decide +kernel) ?_
                              refine g_goto (tgt := 152) X dL_isWidestSo_148 (by decide) ?_
                              refine g_istore (lv' := [(6, .int (nI 1)), (9, .int (nI b9)), (8, .int (nI a9)), (7, .int (nI 0)), (5, .int (nI (ctb (jE lo hi P n) 512))), (4, .int (zI (pfV lo hi P n))), (3, .int (zI (wdV lo hi P n w))), (0, .ref cj), (1, .int (nI w)), (2, .ref ou)]) X dL_isWidestSo_152 (by decide) rfl ?_
                              refine g_iinc (y := nI 1) (lv' := [(7, .int (nI 1)), (6, .int (nI 1)), (9, .int (nI b9)), (8, .int (nI a9)), (5, .int (nI (ctb (jE lo hi P n) 512))), (4, .int (zI (pfV lo hi P n))), (3, .int (zI (wdV lo hi P n w))), (0, .ref cj), (1, .int (nI w)), (2, .ref ou)]) (j := 3) X dL_isWidestSo_154 rfl (nI_add 0 1) (by decide) rfl ?_
                              refine g_goto (tgt := 39) X dL_isWidestSo_157 (by decide) ?_
                              refine g_lv (lv' := [(7, .int (nI 1)), (6, .int (nI 1)), (5, .int (nI (ctb (jE lo hi P n) 512))), (4, .int (zI (pfV lo hi P n))), (3, .int (zI (wdV lo hi P n w))), (0, .ref cj), (1, .int (nI w)), (2, .ref ou)]) [0, 1, 4, 5, 6, 7, 8, 9] rfl ?_
                              exact j39 wk49 _ _ _ hcu51 hCu51 hqk49
                · exact absurd c74 (by decide)
              · rw [zI_nI 0, zI_inj (by omega) (by omega) (by omega) (by omega)] at c56
                exact absurd c56 (by omega)
          refine g_iload_n X dL_isWidestSo_45 4 rfl rfl ?_
          refine g_v (y := nI (10 * a9 + b9)) (by rw [e1, zI_nI]) ?_
          refine g_if_ltN (tgt := 160) X dL_isWidestSo_46 (by decide) (by omega) ?_
          refine g_iload_n X dL_isWidestSo_49 4 rfl rfl ?_
          refine g_v (y := nI (10 * a9 + b9)) (by rw [e1, zI_nI]) ?_
          refine g_bipush (x := nI 10) X dL_isWidestSo_50 (by decide +kernel) ?_
          refine g_idivN X dL_isWidestSo_52 (by omega) (by omega) (by omega) ?_
          refine g_v (y := nI a9) (by rw [show (10 * a9 + b9) / 10 = a9 by omega]) ?_
          refine g_iload X dL_isWidestSo_53 0 rfl ?_
          refine g_iconst (x := zI (-1)) X dL_isWidestSo_55 (by decide +kernel) ?_
          refine g_icmp_ne (tgt := 63) X dL_isWidestSo_56 (by decide) (fun c56 => ?_) (fun c56 => ?_)
          · rw [zI_inj (by omega) (by omega) (by omega) (by omega)] at c56
            exact absurd rfl c56
          · rw [zI_inj (by omega) (by omega) (by omega) (by omega)] at c56
            refine g_iconst (x := zI (-1)) X dL_isWidestSo_59 (by decide +kernel) ?_
            refine g_goto (tgt := 64) X dL_isWidestSo_60 (by decide) ?_
            refine g_iadd X dL_isWidestSo_64 ?_
            refine g_v (y := zI (((a9 : Nat) : Int) + (-1))) (by rw [zI_nI a9, zI_add]) ?_
            by_cases ha : a9 = 0
            · refine g_v (y := zI (-1)) (by rw [ha]; rfl) ?_
              refine g_istore (lv' := [(8, .int (zI (-1))), (7, .int (zI (-1))), (6, .int (nI 1)), (5, .int (nI (ctb (jE lo hi P n) 512))), (4, .int (zI (pfV lo hi P n))), (3, .int (zI (wdV lo hi P n w))), (0, .ref cj), (1, .int (nI w)), (2, .ref ou)]) X dL_isWidestSo_65 (by decide) rfl ?_
              refine g_iload_n X dL_isWidestSo_67 5 rfl rfl ?_
              refine g_v (y := nI (10 * a9 + b9)) (by rw [e1, zI_nI]) ?_
              refine g_bipush (x := nI 10) X dL_isWidestSo_68 (by decide +kernel) ?_
              refine g_iremN X dL_isWidestSo_70 (by omega) (by omega) (by omega) ?_
              refine g_v (y := nI b9) (by rw [show (10 * a9 + b9) % 10 = b9 by omega]) ?_
              refine g_iload X dL_isWidestSo_71 1 rfl ?_
              refine g_iconst (x := nI 1) X dL_isWidestSo_73 (by decide +kernel) ?_
              refine g_icmp_ne (tgt := 81) X dL_isWidestSo_74 (by decide) (fun c74 => ?_) (fun c74 => ?_)
              · rw [zI_nI 1, zI_inj (by omega) (by omega) (by omega) (by omega)] at c74
                refine g_iconst (x := nI 0) X dL_isWidestSo_81 (by decide +kernel) ?_
                refine g_iaddN X dL_isWidestSo_82 ?_
                refine g_v (y := nI b9) (rfl) ?_
                refine g_istore (lv' := [(9, .int (nI b9)), (8, .int (zI (-1))), (7, .int (zI (-1))), (6, .int (nI 1)), (5, .int (nI (ctb (jE lo hi P n) 512))), (4, .int (zI (pfV lo hi P n))), (3, .int (zI (wdV lo hi P n w))), (0, .ref cj), (1, .int (nI w)), (2, .ref ou)]) X dL_isWidestSo_83 (by decide) rfl ?_
                refine g_iload X dL_isWidestSo_85 1 rfl ?_
                refine g_if_lt (tgt := 154) X dL_isWidestSo_87 (by decide) (fun c87 => ?_) (fun c87 => ?_)
                · refine g_iinc (y := nI 0) (lv' := [(7, .int (nI 0)), (9, .int (nI b9)), (8, .int (zI (-1))), (6, .int (nI 1)), (5, .int (nI (ctb (jE lo hi P n) 512))), (4, .int (zI (pfV lo hi P n))), (3, .int (zI (wdV lo hi P n w))), (0, .ref cj), (1, .int (nI w)), (2, .ref ou)]) (j := 2) X dL_isWidestSo_154 rfl (by decide +kernel) (by decide) rfl ?_
                  refine g_goto (tgt := 39) X dL_isWidestSo_157 (by decide) ?_
                  refine g_lv (lv' := [(7, .int (nI 0)), (6, .int (nI 1)), (5, .int (nI (ctb (jE lo hi P n) 512))), (4, .int (zI (pfV lo hi P n))), (3, .int (zI (wdV lo hi P n w))), (0, .ref cj), (1, .int (nI w)), (2, .ref ou)]) [0, 3, 4, 5, 6, 7, 8, 9] rfl ?_
                  exact j39 wk5 _ _ _ hT6 hCk5 hqk5
                · exact absurd c87 (by decide)
              · rw [zI_nI 1, zI_inj (by omega) (by omega) (by omega) (by omega)] at c74
                exact absurd c74 (by omega)
            · refine g_v (y := nI (a9 - 1)) (by rw [zI_nI]; congr 1; omega) ?_
              refine g_istore (lv' := [(8, .int (nI (a9 - 1))), (7, .int (zI (-1))), (6, .int (nI 1)), (5, .int (nI (ctb (jE lo hi P n) 512))), (4, .int (zI (pfV lo hi P n))), (3, .int (zI (wdV lo hi P n w))), (0, .ref cj), (1, .int (nI w)), (2, .ref ou)]) X dL_isWidestSo_65 (by decide) rfl ?_
              refine g_iload_n X dL_isWidestSo_67 5 rfl rfl ?_
              refine g_v (y := nI (10 * a9 + b9)) (by rw [e1, zI_nI]) ?_
              refine g_bipush (x := nI 10) X dL_isWidestSo_68 (by decide +kernel) ?_
              refine g_iremN X dL_isWidestSo_70 (by omega) (by omega) (by omega) ?_
              refine g_v (y := nI b9) (by rw [show (10 * a9 + b9) % 10 = b9 by omega]) ?_
              refine g_iload X dL_isWidestSo_71 1 rfl ?_
              refine g_iconst (x := nI 1) X dL_isWidestSo_73 (by decide +kernel) ?_
              refine g_icmp_ne (tgt := 81) X dL_isWidestSo_74 (by decide) (fun c74 => ?_) (fun c74 => ?_)
              · rw [zI_nI 1, zI_inj (by omega) (by omega) (by omega) (by omega)] at c74
                refine g_iconst (x := nI 0) X dL_isWidestSo_81 (by decide +kernel) ?_
                refine g_iaddN X dL_isWidestSo_82 ?_
                refine g_v (y := nI b9) (rfl) ?_
                refine g_istore (lv' := [(9, .int (nI b9)), (8, .int (nI (a9 - 1))), (7, .int (zI (-1))), (6, .int (nI 1)), (5, .int (nI (ctb (jE lo hi P n) 512))), (4, .int (zI (pfV lo hi P n))), (3, .int (zI (wdV lo hi P n w))), (0, .ref cj), (1, .int (nI w)), (2, .ref ou)]) X dL_isWidestSo_83 (by decide) rfl ?_
                refine g_iload X dL_isWidestSo_85 1 rfl ?_
                refine g_if_ltN (tgt := 154) X dL_isWidestSo_87 (by decide) (by omega) ?_
                refine g_iload X dL_isWidestSo_90 0 rfl ?_
                refine g_bipush (x := nI 8) X dL_isWidestSo_92 (by decide +kernel) ?_
                refine g_icmp_geN (tgt := 154) X dL_isWidestSo_94 (by decide) (by omega) (by omega) (fun c94 => ?_) (fun c94 => ?_)
                · exact absurd c94 (by omega)
                · refine g_iload X dL_isWidestSo_97 3 rfl ?_
                  refine g_if_eqN (tgt := 151) X dL_isWidestSo_99 (by decide) (by omega) (fun c99 => ?_) (fun c99 => ?_)
                  · exact absurd c99 (by decide)
                  · refine g_aload_n X dL_isWidestSo_102 7 rfl rfl ?_
                    refine g_iload_n X dL_isWidestSo_103 8 rfl rfl ?_
                    refine g_iload X dL_isWidestSo_104 1 rfl ?_
                    refine g_iload X dL_isWidestSo_106 0 rfl ?_
                    refine g_callV (As := [.int (nI w), .int (nI (a9 - 1)), .int (nI b9)]) (rest := []) (wr := [cOi v ou f]) X (Cc_X6_assume l v cj hCk5 hW hL w (a9 - 1) b9 hw9 (by omega) (by omega)) f_X6_assume q_15_11 dL_isWidestSo_108 [0] [1] rfl rfl (by decide) 0 hqk5 rfl rfl rfl (Nat.le_of_ble_eq_true rfl) (by decide) (fun r_ w_ hp53 => ?_)
                    obtain ⟨rfl, wk52, hCk52, rfl⟩ := hp53
                    obtain ⟨fsk52, hqk52⟩ := IC9_hd hCk52
                    have hL1 := AsW_up (w := w) (x := (a9 - 1)) (y := b9) hL (by omega) (by omega)
                    have hcr := cnt9_rng hL1
                    have hp1 := pf_rng (lo := hU9 lo w (a9 - 1)) (hi := hU9 hi w b9) (P := P) (n := n)
                    show GG k _ _ [wk52, cOi v ou f] _ _ [.int (nI (cnt9 (hU9 lo w (a9 - 1)) (hU9 hi w b9) 3))]
                    refine g_if_leN (tgt := 151) X dL_isWidestSo_111 (by decide) (by omega) (fun c111 => ?_) (fun c111 => ?_)
                    · exact absurd hcr.2.1 (by omega)
                    · refine g_aload_n X dL_isWidestSo_114 7 rfl rfl ?_
                      refine g_callV (As := []) (rest := []) (wr := [cOi v ou f]) X (Cc_X6_proof l v cj hCk52 hW hL1 ) f_X6_proof q_19_20 dL_isWidestSo_115 [0] [1] rfl rfl (by decide) 0 hqk52 rfl rfl rfl (Nat.le_of_ble_eq_true rfl) (by decide) (fun r_ w_ hp55 => ?_)
                      obtain ⟨rfl, wk54, hCk54, rfl⟩ := hp55
                      obtain ⟨fsk54, hqk54⟩ := IC9_hd hCk54
                      show GG k _ _ [wk54, cOi v ou f] _ _ [.int (zI (pfV (hU9 lo w (a9 - 1)) (hU9 hi w b9) P n))]
                      refine g_iconst (x := nI 1) X dL_isWidestSo_118 (by decide +kernel) ?_
                      refine g_icmp_ne (tgt := 126) X dL_isWidestSo_119 (by decide) (fun c119 => ?_) (fun c119 => ?_)
                      · rw [zI_nI 1, zI_inj (by omega) (by omega) (by omega) (by omega)] at c119
                        refine g_iconst (x := nI 0) X dL_isWidestSo_126 (by decide +kernel) ?_
                        refine g_iload X dL_isWidestSo_127 2 rfl ?_
                        refine g_if_ne (tgt := 136) X dL_isWidestSo_129 (by decide) (fun c129 => ?_) (fun c129 => ?_)
                        · refine g_iconst (x := nI 0) X dL_isWidestSo_136 (by decide +kernel) ?_
                          refine g_icmp_neN (tgt := 151) X dL_isWidestSo_137 (by decide) (by omega) (by omega) (fun c137 => ?_) (fun c137 => ?_)
                          · exact absurd c137 (by decide)
                          · refine g_aload_n X dL_isWidestSo_140 7 rfl rfl ?_
                            refine g_callV (As := []) (rest := []) (wr := [cOi v ou f]) X (Cu_X6_undo l v cj hCk54 hW hL1 hT6) f_X6_undo q_21_18 dL_isWidestSo_141 [0] [1] rfl rfl (by decide) 0 hqk54 rfl rfl rfl (Nat.le_of_ble_eq_true rfl) (by decide) (fun r_ w_ hp57 => ?_)
                            obtain ⟨rfl, wk56, hCk56, rfl⟩ := hp57
                            obtain ⟨fsk56, hqk56⟩ := IC9_hd hCk56
                            have hcu := hC9_rng c hT6
                            show GG k _ _ [wk56, cOi v ou f] _ _ [.int (nI (hC9 c - 1))]
                            refine g_if_ltN (tgt := 151) X dL_isWidestSo_144 (by decide) (by omega) ?_
                            obtain ⟨Hu58, cu58, hcu58, hCu58⟩ : ∃ H1 c1, c1 ≤ 6 ∧ IC9 v cj P n lo hi H1 c1 tx 0 wk56 := ⟨_, _, by omega, hCk56⟩
                            refine g_iconst (x := nI 1) X dL_isWidestSo_147 (by decide +kernel) ?_
                            refine g_goto (tgt := 152) X dL_isWidestSo_148 (by decide) ?_
                            refine g_istore (lv' := [(6, .int (nI 1)), (9, .int (nI b9)), (8, .int (nI (a9 - 1))), (7, .int (zI (-1))), (5, .int (nI (ctb (jE lo hi P n) 512))), (4, .int (zI (pfV lo hi P n))), (3, .int (zI (wdV lo hi P n w))), (0, .ref cj), (1, .int (nI w)), (2, .ref ou)]) X dL_isWidestSo_152 (by decide) rfl ?_
                            refine g_iinc (y := nI 0) (lv' := [(7, .int (nI 0)), (6, .int (nI 1)), (9, .int (nI b9)), (8, .int (nI (a9 - 1))), (5, .int (nI (ctb (jE lo hi P n) 512))), (4, .int (zI (pfV lo hi P n))), (3, .int (zI (wdV lo hi P n w))), (0, .ref cj), (1, .int (nI w)), (2, .ref ou)]) (j := 3) X dL_isWidestSo_154 rfl (by decide +kernel) (by decide) rfl ?_
                            refine g_goto (tgt := 39) X dL_isWidestSo_157 (by decide) ?_
                            refine g_lv (lv' := [(7, .int (nI 0)), (6, .int (nI 1)), (5, .int (nI (ctb (jE lo hi P n) 512))), (4, .int (zI (pfV lo hi P n))), (3, .int (zI (wdV lo hi P n w))), (0, .ref cj), (1, .int (nI w)), (2, .ref ou)]) [0, 1, 4, 5, 6, 7, 8, 9] rfl ?_
                            exact j39 wk56 _ _ _ hcu58 hCu58 hqk56
                        · exact absurd c129 (by decide)
                      · rw [zI_nI 1, zI_inj (by omega) (by omega) (by omega) (by omega)] at c119
                        exact absurd (u4 (by omega)) ((pf_set (lo := lo) (hi := hi) (a := (a9 - 1)) (b := b9) hW hw9).mp (by omega) (a9 - 1) (by omega) (by omega))
              · rw [zI_nI 1, zI_inj (by omega) (by omega) (by omega) (by omega)] at c74
                exact absurd c74 (by omega)

