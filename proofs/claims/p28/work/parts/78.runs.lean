/-! ## the law: runs -/
theorem zI_one : zI 1 = nI 1 := rfl
set_option maxHeartbeats 4000000 in
set_option maxRecDepth 100000 in
theorem c_L_areRunsSo (l : Launch) (v : VV) (cj : Nat) (fr : Nat) {P : Nat → S9} {n : Nat} {lo hi : Nat → Nat} {H : Nat → HE9} {c : Nat} {tx : Nat → Nat} {ln : Nat} {w9 : va_W} (hC : IC9 v cj P n lo hi H c tx ln w9) (hW : WF P n) (hL : AsW lo hi) (hf : fr < 512) : MI l v yL_areRunsSo cL_areRunsSo 11 (some .boolean) ({ frames := 8, cells := 0, slots := 0, locals := 150 }) [.ref cj, .int (nI fr)] [w9] (fun r w_ => r = nI 1 ∧ ∃ w1, IC9 v cj P n lo hi H c tx ln w1 ∧ w_ = [w1]) 0 0 := by
  refine mm_int (by decide) (Nat.le_of_ble_eq_true rfl) [(0, .ref cj), (1, .int (nI fr))] rfl (fun k X E => ?_)
  obtain ⟨fs9, hq⟩ := IC9_hd hC
  have hn12 := hW.1
  refine g_aload_n X dL_areRunsSo_0 0 rfl rfl ?_
  refine g_callV (As := []) (rest := []) (wr := []) X (Cc_X6_statements l v cj hC hW hL ) f_X6_statements q_5_2 dL_areRunsSo_1 [0] [] rfl rfl (by decide) 0 hq rfl rfl rfl (Nat.le_of_ble_eq_true rfl) (by decide) (fun r_ w_ hp2 => ?_)
  obtain ⟨rfl, wk1, hCk1, rfl⟩ := hp2
  obtain ⟨fsk1, hqk1⟩ := IC9_hd hCk1
  show GG k _ _ [wk1] _ _ [.int (nI n)]
  refine g_istore_n (lv' := [(2, .int (nI n)), (0, .ref cj), (1, .int (nI fr))]) X dL_areRunsSo_4 rfl (by decide) rfl ?_
  have j31 : ∀ (w1 : va_W) (fs1 : List Value) (hC1 : IC9 v cj P n lo hi H c tx ln w1) (hq1 : ([w1] : List va_W).flatten[0]? = some (cj, .inr (6, fs1))), GG k 0 0 [w1] [(2, .int (nI n)), (0, .ref cj), (1, .int (nI fr))] 31 [.int (nI 1)] := by
    intro w1 fs1 hC1 hq1
    refine g_istore_n (lv' := [(3, .int (nI 1)), (2, .int (nI n)), (0, .ref cj), (1, .int (nI fr))]) X dL_areRunsSo_31 rfl (by decide) rfl ?_
    refine g_iconst (x := nI 0) X dL_areRunsSo_32 (by decide +kernel) ?_
    refine g_istore (lv' := [(4, .int (nI 0)), (3, .int (nI 1)), (2, .int (nI n)), (0, .ref cj), (1, .int (nI fr))]) X dL_areRunsSo_33 (by decide) rfl ?_
    have lp35 : ∀ (zN : Nat) (k2 : Nat) (w2 : va_W) (fs2 : List Value) (hk2 : k2 ≤ 8) (hC2 : IC9 v cj P n lo hi H c tx ln w2) (hq2 : ([w2] : List va_W).flatten[0]? = some (cj, .inr (6, fs2))) (zM : zN = 8 - k2), GG k 0 0 [w2] [(4, .int (nI k2)), (3, .int (nI 1)), (2, .int (nI n)), (0, .ref cj), (1, .int (nI fr))] 35 [] := by
      intro zN
      induction zN using Nat.strongRecOn with
      | _ zN zih =>
        have ih35 := zih
        clear zih
        intro k2 w2 fs2 hk2 hC2 hq2 zM
        refine g_iload X dL_areRunsSo_35 0 rfl ?_
        refine g_bipush (x := nI 8) X dL_areRunsSo_37 (by decide +kernel) ?_
        refine g_icmp_geN (tgt := 257) X dL_areRunsSo_39 (by decide) (by omega) (by omega) (fun c39 => ?_) (fun c39 => ?_)
        · refine g_iload_n X dL_areRunsSo_257 1 rfl rfl ?_
          exact E dL_areRunsSo_258 rfl (rfl) (by decide) (by decide) (⟨rfl, w2, hC2, rfl⟩)
        · refine g_iload_n X dL_areRunsSo_42 4 rfl rfl ?_
          refine g_bipush (x := nI 73) X dL_areRunsSo_43 (by decide +kernel) ?_
          refine g_iload X dL_areRunsSo_45 0 rfl ?_
          refine g_imulN X dL_areRunsSo_47 ?_
          refine g_iaddN X dL_areRunsSo_48 ?_
          refine g_sipush (x := nI 512) X dL_areRunsSo_49 (by decide +kernel) ?_
          refine g_iremN X dL_areRunsSo_52 (by omega) (by omega) (by omega) ?_
          obtain ⟨t, ht9, et⟩ : ∃ t : Nat, t < 512 ∧ (fr + (73 * k2)) % 512 = t := ⟨_, by omega, rfl⟩
          refine g_v (y := nI t) (by rw [et]) ?_
          refine g_istore (lv' := [(5, .int (nI t)), (4, .int (nI k2)), (3, .int (nI 1)), (2, .int (nI n)), (0, .ref cj), (1, .int (nI fr))]) X dL_areRunsSo_53 (by decide) rfl ?_
          refine g_iload X dL_areRunsSo_55 0 rfl ?_
          refine g_bipush (x := nI 64) X dL_areRunsSo_57 (by decide +kernel) ?_
          refine g_idivN X dL_areRunsSo_59 (by omega) (by omega) (by omega) ?_
          refine g_istore (lv' := [(6, .int (nI (t / 64))), (5, .int (nI t)), (4, .int (nI k2)), (3, .int (nI 1)), (2, .int (nI n)), (0, .ref cj), (1, .int (nI fr))]) X dL_areRunsSo_60 (by decide) rfl ?_
          refine g_iload X dL_areRunsSo_62 1 rfl ?_
          refine g_bipush (x := nI 8) X dL_areRunsSo_64 (by decide +kernel) ?_
          refine g_idivN X dL_areRunsSo_66 (by omega) (by omega) (by omega) ?_
          refine g_bipush (x := nI 8) X dL_areRunsSo_67 (by decide +kernel) ?_
          refine g_iremN X dL_areRunsSo_69 (by omega) (by omega) (by omega) ?_
          refine g_istore (lv' := [(7, .int (nI ((t / 8) % 8))), (6, .int (nI (t / 64))), (5, .int (nI t)), (4, .int (nI k2)), (3, .int (nI 1)), (2, .int (nI n)), (0, .ref cj), (1, .int (nI fr))]) X dL_areRunsSo_70 (by decide) rfl ?_
          refine g_iload X dL_areRunsSo_72 2 rfl ?_
          refine g_bipush (x := nI 8) X dL_areRunsSo_74 (by decide +kernel) ?_
          refine g_iremN X dL_areRunsSo_76 (by omega) (by omega) (by omega) ?_
          refine g_istore (lv' := [(8, .int (nI (t % 8))), (7, .int (nI ((t / 8) % 8))), (6, .int (nI (t / 64))), (5, .int (nI t)), (4, .int (nI k2)), (3, .int (nI 1)), (2, .int (nI n)), (0, .ref cj), (1, .int (nI fr))]) X dL_areRunsSo_77 (by decide) rfl ?_
          have hE := EE_rng hW (q := t) (by omega)
          have hLn := LL_n (P := P) (n := n) t
          by_cases h1 : EE P n t = -1
          · have hEt : EE P n (64 * (t / 64) + 8 * (t / 8 % 8) + t % 8) = -1 := by rw [show 64 * (t / 64) + 8 * (t / 8 % 8) + t % 8 = t by omega]; exact h1
            refine g_aload_n X dL_areRunsSo_79 7 rfl rfl ?_
            refine g_iload X dL_areRunsSo_80 2 rfl ?_
            refine g_iload X dL_areRunsSo_82 1 rfl ?_
            refine g_iload X dL_areRunsSo_84 0 rfl ?_
            refine g_callV (As := [.int (nI (t / 64)), .int (nI ((t / 8) % 8)), .int (nI (t % 8))]) (rest := []) (wr := []) X (Cc_X6_run l v cj hC2 hW hL (t / 64) ((t / 8) % 8) (t % 8) (by omega) (by omega) (by omega)) f_X6_run q_22_5 dL_areRunsSo_86 [0] [] rfl rfl (by decide) 0 hq2 rfl rfl rfl (Nat.le_of_ble_eq_true rfl) (by decide) (fun r_ w_ hp4 => ?_)
            obtain ⟨rfl, wk3, hCk3, rfl⟩ := hp4
            obtain ⟨fsk3, hqk3⟩ := IC9_hd hCk3
            show GG k _ _ [wk3] _ _ [.int (zI (EE P n (64 * (t / 64) + 8 * ((t / 8) % 8) + (t % 8))))]
            refine g_v (y := zI (-1)) (by rw [hEt]) ?_
            refine g_istore (lv' := [(9, .int (zI (-1))), (8, .int (nI (t % 8))), (7, .int (nI ((t / 8) % 8))), (6, .int (nI (t / 64))), (5, .int (nI t)), (4, .int (nI k2)), (3, .int (nI 1)), (2, .int (nI n)), (0, .ref cj), (1, .int (nI fr))]) X dL_areRunsSo_89 (by decide) rfl ?_
            refine g_aload_n X dL_areRunsSo_91 8 rfl rfl ?_
            refine g_iload X dL_areRunsSo_92 3 rfl ?_
            refine g_iload X dL_areRunsSo_94 2 rfl ?_
            refine g_iload X dL_areRunsSo_96 1 rfl ?_
            refine g_callV (As := [.int (nI (t / 64)), .int (nI ((t / 8) % 8)), .int (nI (t % 8))]) (rest := []) (wr := []) X (Cc_X6_steps l v cj hCk3 hW hL (t / 64) ((t / 8) % 8) (t % 8) (by omega) (by omega) (by omega)) f_X6_steps q_22_16 dL_areRunsSo_98 [0] [] rfl rfl (by decide) 0 hqk3 rfl rfl rfl (Nat.le_of_ble_eq_true rfl) (by decide) (fun r_ w_ hp6 => ?_)
            obtain ⟨rfl, wk5, hCk5, rfl⟩ := hp6
            obtain ⟨fsk5, hqk5⟩ := IC9_hd hCk5
            show GG k _ _ [wk5] _ _ [.int (if EE P n (64 * (t / 64) + 8 * ((t / 8) % 8) + (t % 8)) = -1 then zI (-1) else nI (LL P n (64 * (t / 64) + 8 * ((t / 8) % 8) + (t % 8))))]
            refine g_v (y := zI (-1)) (by rw [if_pos hEt]) ?_
            refine g_istore (lv' := [(10, .int (zI (-1))), (9, .int (zI (-1))), (8, .int (nI (t % 8))), (7, .int (nI ((t / 8) % 8))), (6, .int (nI (t / 64))), (5, .int (nI t)), (4, .int (nI k2)), (3, .int (nI 1)), (2, .int (nI n)), (0, .ref cj), (1, .int (nI fr))]) X dL_areRunsSo_101 (by decide) rfl ?_
            refine g_iload_n X dL_areRunsSo_103 7 rfl rfl ?_
            refine g_if_eqN (tgt := 249) X dL_areRunsSo_104 (by decide) (by omega) (fun c104 => ?_) (fun c104 => ?_)
            · exact absurd c104 (by decide)
            · refine g_iload X dL_areRunsSo_107 1 rfl ?_
              refine g_sipush (x := nI 1000) X dL_areRunsSo_109 (by decide +kernel) ?_
              refine g_icmp_lt (tgt := 119) X dL_areRunsSo_112 (by decide) (fun c112 => ?_) (fun c112 => ?_)
              · rw [zI_nI 1000, zI_lt (by omega) (by omega) (by omega) (by omega)] at c112
                refine g_iconst (x := nI 0) X dL_areRunsSo_119 (by decide +kernel) ?_
                refine g_aload_n X dL_areRunsSo_120 9 rfl rfl ?_
                refine g_iconst (x := nI 0) X dL_areRunsSo_121 (by decide +kernel) ?_
                refine g_iload X dL_areRunsSo_122 4 rfl ?_
                refine g_iload X dL_areRunsSo_124 3 rfl ?_
                refine g_iload X dL_areRunsSo_126 2 rfl ?_
                refine g_callV (As := [.int (nI 0), .int (nI (t / 64)), .int (nI ((t / 8) % 8)), .int (nI (t % 8))]) (rest := [.int (nI 0)]) (wr := []) X (Cc_X6_demands l v cj hCk5 hW hL 0 (t / 64) ((t / 8) % 8) (t % 8) (by omega) (by omega) (by omega) (by omega)) f_X6_demands q_23_0 dL_areRunsSo_128 [0] [] rfl rfl (by decide) 0 hqk5 rfl rfl rfl (Nat.le_of_ble_eq_true rfl) (by decide) (fun r_ w_ hp8 => ?_)
                obtain ⟨rfl, wk7, hCk7, rfl⟩ := hp8
                obtain ⟨fsk7, hqk7⟩ := IC9_hd hCk7
                show GG k _ _ [wk7] _ _ [.int (bI (decide (1000 ≤ EE P n (0 * 512 + (64 * (t / 64) + 8 * ((t / 8) % 8) + (t % 8)))))), .int (nI 0)]
                refine g_v (y := nI 0) ((bI_zero (decide_eq_false (by rw [show 0 * 512 + (64 * (t / 64) + 8 * (t / 8 % 8) + t % 8) = t by omega]; omega))).symm) ?_
                refine g_icmp_neN (tgt := 249) X dL_areRunsSo_131 (by decide) (by omega) (by omega) (fun c131 => ?_) (fun c131 => ?_)
                · exact absurd c131 (by decide)
                · refine g_iload X dL_areRunsSo_134 1 rfl ?_
                  refine g_iconst (x := zI (-1)) X dL_areRunsSo_136 (by decide +kernel) ?_
                  refine g_icmp_ne (tgt := 144) X dL_areRunsSo_137 (by decide) (fun c137 => ?_) (fun c137 => ?_)
                  · rw [zI_inj (by omega) (by omega) (by omega) (by omega)] at c137
                    exact absurd rfl c137
                  · rw [zI_inj (by omega) (by omega) (by omega) (by omega)] at c137
                    refine g_iconst (x := nI 1) X dL_areRunsSo_140 (by decide +kernel) ?_
                    refine g_goto (tgt := 145) X dL_areRunsSo_141 (by decide) ?_
                    refine g_iload X dL_areRunsSo_145 0 rfl ?_
                    refine g_iconst (x := zI (-1)) X dL_areRunsSo_147 (by decide +kernel) ?_
                    refine g_icmp_ne (tgt := 155) X dL_areRunsSo_148 (by decide) (fun c148 => ?_) (fun c148 => ?_)
                    · rw [zI_inj (by omega) (by omega) (by omega) (by omega)] at c148
                      exact absurd rfl c148
                    · rw [zI_inj (by omega) (by omega) (by omega) (by omega)] at c148
                      refine g_iconst (x := nI 1) X dL_areRunsSo_151 (by decide +kernel) ?_
                      refine g_goto (tgt := 156) X dL_areRunsSo_152 (by decide) ?_
                      refine g_icmp_neN (tgt := 249) X dL_areRunsSo_156 (by decide) (by omega) (by omega) (fun c156 => ?_) (fun c156 => ?_)
                      · exact absurd c156 (by decide)
                      · refine g_iload X dL_areRunsSo_159 0 rfl ?_
                        refine g_sipush (x := nI 512) X dL_areRunsSo_161 (by decide +kernel) ?_
                        refine g_iload_n X dL_areRunsSo_164 8 rfl rfl ?_
                        refine g_imulN X dL_areRunsSo_165 ?_
                        refine g_icmp_gt (tgt := 249) X dL_areRunsSo_166 (by decide) (fun c166 => ?_) (fun c166 => ?_)
                        · rw [zI_nI (512 * n), zI_lt (by omega) (by omega) (by omega) (by omega)] at c166
                          exact absurd c166 (by omega)
                        · rw [zI_nI (512 * n), zI_lt (by omega) (by omega) (by omega) (by omega)] at c166
                          refine g_iload X dL_areRunsSo_169 1 rfl ?_
                          refine g_sipush (x := nI 1512) X dL_areRunsSo_171 (by decide +kernel) ?_
                          refine g_icmp_ge (tgt := 249) X dL_areRunsSo_174 (by decide) (fun c174 => ?_) (fun c174 => ?_)
                          · rw [zI_nI 1512, zI_le (by omega) (by omega) (by omega) (by omega)] at c174
                            exact absurd c174 (by omega)
                          · rw [zI_nI 1512, zI_le (by omega) (by omega) (by omega) (by omega)] at c174
                            refine g_iload X dL_areRunsSo_177 1 rfl ?_
                            refine g_if_lt (tgt := 211) X dL_areRunsSo_179 (by decide) (fun c179 => ?_) (fun c179 => ?_)
                            · refine g_iload_n X dL_areRunsSo_211 8 rfl rfl ?_
                              refine g_if_gtN (tgt := 231) X dL_areRunsSo_212 (by decide) (by omega) (fun c212 => ?_) (fun c212 => ?_)
                              · refine g_aload_n X dL_areRunsSo_231 9 rfl rfl ?_
                                refine g_iload_n X dL_areRunsSo_232 8 rfl rfl ?_
                                refine g_iload X dL_areRunsSo_233 4 rfl ?_
                                refine g_iload X dL_areRunsSo_235 3 rfl ?_
                                refine g_iload X dL_areRunsSo_237 2 rfl ?_
                                refine g_callV (As := [.int (nI n), .int (nI (t / 64)), .int (nI ((t / 8) % 8)), .int (nI (t % 8))]) (rest := []) (wr := []) X (Cc_X6_demands l v cj hCk7 hW hL n (t / 64) ((t / 8) % 8) (t % 8) (by omega) (by omega) (by omega) (by omega)) f_X6_demands q_23_0 dL_areRunsSo_239 [0] [] rfl rfl (by decide) 0 hqk7 rfl rfl rfl (Nat.le_of_ble_eq_true rfl) (by decide) (fun r_ w_ hp10 => ?_)
                                obtain ⟨rfl, wk9, hCk9, rfl⟩ := hp10
                                obtain ⟨fsk9, hqk9⟩ := IC9_hd hCk9
                                show GG k _ _ [wk9] _ _ [.int (bI (decide (1000 ≤ EE P n (n * 512 + (64 * (t / 64) + 8 * ((t / 8) % 8) + (t % 8))))))]
                                refine g_v (y := nI 1) ((bI_one (decide_eq_true (by rw [show n * 512 + (64 * (t / 64) + 8 * (t / 8 % 8) + t % 8) = n * 512 + t by omega, EE_n ht9]; omega))).symm) ?_
                                refine g_if_eqN (tgt := 249) X dL_areRunsSo_242 (by decide) (by omega) (fun c242 => ?_) (fun c242 => ?_)
                                · exact absurd c242 (by decide)
                                · refine g_iconst (x := nI 1) X dL_areRunsSo_245 (by decide +kernel) ?_
                                  refine g_goto (tgt := 250) X dL_areRunsSo_246 (by decide) ?_
                                  refine g_istore_n (lv' := [(3, .int (nI 1)), (10, .int (zI (-1))), (9, .int (zI (-1))), (8, .int (nI (t % 8))), (7, .int (nI ((t / 8) % 8))), (6, .int (nI (t / 64))), (5, .int (nI t)), (4, .int (nI k2)), (2, .int (nI n)), (0, .ref cj), (1, .int (nI fr))]) X dL_areRunsSo_250 rfl (by decide) rfl ?_
                                  refine g_iinc (y := nI (k2 + 1)) (lv' := [(4, .int (nI (k2 + 1))), (3, .int (nI 1)), (10, .int (zI (-1))), (9, .int (zI (-1))), (8, .int (nI (t % 8))), (7, .int (nI ((t / 8) % 8))), (6, .int (nI (t / 64))), (5, .int (nI t)), (2, .int (nI n)), (0, .ref cj), (1, .int (nI fr))]) (j := 7) X dL_areRunsSo_251 rfl (nI_add k2 1) (by decide) rfl ?_
                                  refine g_goto (tgt := 35) X dL_areRunsSo_254 (by decide) ?_
                                  refine g_lv (lv' := [(4, .int (nI (k2 + 1))), (3, .int (nI 1)), (2, .int (nI n)), (0, .ref cj), (1, .int (nI fr))]) [0, 1, 8, 9, 10] rfl ?_
                                  exact ih35 _ (by omega) (k2 + 1) wk9 _ (by omega) hCk9 hqk9 rfl
                              · exact absurd h1 (by subst c212; rw [EE_0 ht9]; omega)
                            · exact absurd c179 (by decide)
              · rw [zI_nI 1000, zI_lt (by omega) (by omega) (by omega) (by omega)] at c112
                exact absurd c112 (by omega)
          by_cases h2 : EE P n t < 1000
          · obtain ⟨cc, kk, zz, e1, e2, e3, e4, e5, e6⟩ := EE_claim hW (q := t) (by omega) (by omega)
            have hEt : EE P n (64 * (t / 64) + 8 * (t / 8 % 8) + t % 8) = (cc : Int) := by rw [show 64 * (t / 64) + 8 * (t / 8 % 8) + t % 8 = t by omega]; exact e1
            refine g_aload_n X dL_areRunsSo_79 7 rfl rfl ?_
            refine g_iload X dL_areRunsSo_80 2 rfl ?_
            refine g_iload X dL_areRunsSo_82 1 rfl ?_
            refine g_iload X dL_areRunsSo_84 0 rfl ?_
            refine g_callV (As := [.int (nI (t / 64)), .int (nI ((t / 8) % 8)), .int (nI (t % 8))]) (rest := []) (wr := []) X (Cc_X6_run l v cj hC2 hW hL (t / 64) ((t / 8) % 8) (t % 8) (by omega) (by omega) (by omega)) f_X6_run q_22_5 dL_areRunsSo_86 [0] [] rfl rfl (by decide) 0 hq2 rfl rfl rfl (Nat.le_of_ble_eq_true rfl) (by decide) (fun r_ w_ hp12 => ?_)
            obtain ⟨rfl, wk11, hCk11, rfl⟩ := hp12
            obtain ⟨fsk11, hqk11⟩ := IC9_hd hCk11
            show GG k _ _ [wk11] _ _ [.int (zI (EE P n (64 * (t / 64) + 8 * ((t / 8) % 8) + (t % 8))))]
            refine g_v (y := nI cc) (by rw [hEt, zI_nI]) ?_
            refine g_istore (lv' := [(9, .int (nI cc)), (8, .int (nI (t % 8))), (7, .int (nI ((t / 8) % 8))), (6, .int (nI (t / 64))), (5, .int (nI t)), (4, .int (nI k2)), (3, .int (nI 1)), (2, .int (nI n)), (0, .ref cj), (1, .int (nI fr))]) X dL_areRunsSo_89 (by decide) rfl ?_
            refine g_aload_n X dL_areRunsSo_91 8 rfl rfl ?_
            refine g_iload X dL_areRunsSo_92 3 rfl ?_
            refine g_iload X dL_areRunsSo_94 2 rfl ?_
            refine g_iload X dL_areRunsSo_96 1 rfl ?_
            refine g_callV (As := [.int (nI (t / 64)), .int (nI ((t / 8) % 8)), .int (nI (t % 8))]) (rest := []) (wr := []) X (Cc_X6_steps l v cj hCk11 hW hL (t / 64) ((t / 8) % 8) (t % 8) (by omega) (by omega) (by omega)) f_X6_steps q_22_16 dL_areRunsSo_98 [0] [] rfl rfl (by decide) 0 hqk11 rfl rfl rfl (Nat.le_of_ble_eq_true rfl) (by decide) (fun r_ w_ hp14 => ?_)
            obtain ⟨rfl, wk13, hCk13, rfl⟩ := hp14
            obtain ⟨fsk13, hqk13⟩ := IC9_hd hCk13
            show GG k _ _ [wk13] _ _ [.int (if EE P n (64 * (t / 64) + 8 * ((t / 8) % 8) + (t % 8)) = -1 then zI (-1) else nI (LL P n (64 * (t / 64) + 8 * ((t / 8) % 8) + (t % 8))))]
            refine g_v (y := nI (kk + 1)) (by rw [if_neg (by omega), show 64 * (t / 64) + 8 * (t / 8 % 8) + t % 8 = t by omega, e6]) ?_
            refine g_istore (lv' := [(10, .int (nI (kk + 1))), (9, .int (nI cc)), (8, .int (nI (t % 8))), (7, .int (nI ((t / 8) % 8))), (6, .int (nI (t / 64))), (5, .int (nI t)), (4, .int (nI k2)), (3, .int (nI 1)), (2, .int (nI n)), (0, .ref cj), (1, .int (nI fr))]) X dL_areRunsSo_101 (by decide) rfl ?_
            refine g_iload_n X dL_areRunsSo_103 7 rfl rfl ?_
            refine g_if_eqN (tgt := 249) X dL_areRunsSo_104 (by decide) (by omega) (fun c104 => ?_) (fun c104 => ?_)
            · exact absurd c104 (by decide)
            · refine g_iload X dL_areRunsSo_107 1 rfl ?_
              refine g_sipush (x := nI 1000) X dL_areRunsSo_109 (by decide +kernel) ?_
              refine g_icmp_ltN (tgt := 119) X dL_areRunsSo_112 (by decide) (by omega) (by omega) (fun c112 => ?_) (fun c112 => ?_)
              · refine g_iconst (x := nI 0) X dL_areRunsSo_119 (by decide +kernel) ?_
                refine g_aload_n X dL_areRunsSo_120 9 rfl rfl ?_
                refine g_iconst (x := nI 0) X dL_areRunsSo_121 (by decide +kernel) ?_
                refine g_iload X dL_areRunsSo_122 4 rfl ?_
                refine g_iload X dL_areRunsSo_124 3 rfl ?_
                refine g_iload X dL_areRunsSo_126 2 rfl ?_
                refine g_callV (As := [.int (nI 0), .int (nI (t / 64)), .int (nI ((t / 8) % 8)), .int (nI (t % 8))]) (rest := [.int (nI 0)]) (wr := []) X (Cc_X6_demands l v cj hCk13 hW hL 0 (t / 64) ((t / 8) % 8) (t % 8) (by omega) (by omega) (by omega) (by omega)) f_X6_demands q_23_0 dL_areRunsSo_128 [0] [] rfl rfl (by decide) 0 hqk13 rfl rfl rfl (Nat.le_of_ble_eq_true rfl) (by decide) (fun r_ w_ hp16 => ?_)
                obtain ⟨rfl, wk15, hCk15, rfl⟩ := hp16
                obtain ⟨fsk15, hqk15⟩ := IC9_hd hCk15
                show GG k _ _ [wk15] _ _ [.int (bI (decide (1000 ≤ EE P n (0 * 512 + (64 * (t / 64) + 8 * ((t / 8) % 8) + (t % 8)))))), .int (nI 0)]
                refine g_v (y := nI 0) ((bI_zero (decide_eq_false (by rw [show 0 * 512 + (64 * (t / 64) + 8 * (t / 8 % 8) + t % 8) = t by omega]; omega))).symm) ?_
                refine g_icmp_neN (tgt := 249) X dL_areRunsSo_131 (by decide) (by omega) (by omega) (fun c131 => ?_) (fun c131 => ?_)
                · exact absurd c131 (by decide)
                · refine g_iload X dL_areRunsSo_134 1 rfl ?_
                  refine g_iconst (x := zI (-1)) X dL_areRunsSo_136 (by decide +kernel) ?_
                  refine g_icmp_ne (tgt := 144) X dL_areRunsSo_137 (by decide) (fun c137 => ?_) (fun c137 => ?_)
                  · rw [zI_nI cc, zI_inj (by omega) (by omega) (by omega) (by omega)] at c137
                    refine g_iconst (x := nI 0) X dL_areRunsSo_144 (by decide +kernel) ?_
                    refine g_iload X dL_areRunsSo_145 0 rfl ?_
                    refine g_iconst (x := zI (-1)) X dL_areRunsSo_147 (by decide +kernel) ?_
                    refine g_icmp_ne (tgt := 155) X dL_areRunsSo_148 (by decide) (fun c148 => ?_) (fun c148 => ?_)
                    · rw [zI_nI (kk + 1), zI_inj (by omega) (by omega) (by omega) (by omega)] at c148
                      refine g_iconst (x := nI 0) X dL_areRunsSo_155 (by decide +kernel) ?_
                      refine g_icmp_neN (tgt := 249) X dL_areRunsSo_156 (by decide) (by omega) (by omega) (fun c156 => ?_) (fun c156 => ?_)
                      · exact absurd c156 (by decide)
                      · refine g_iload X dL_areRunsSo_159 0 rfl ?_
                        refine g_sipush (x := nI 512) X dL_areRunsSo_161 (by decide +kernel) ?_
                        refine g_iload_n X dL_areRunsSo_164 8 rfl rfl ?_
                        refine g_imulN X dL_areRunsSo_165 ?_
                        refine g_icmp_gtN (tgt := 249) X dL_areRunsSo_166 (by decide) (by omega) (by omega) (fun c166 => ?_) (fun c166 => ?_)
                        · exact absurd c166 (by omega)
                        · refine g_iload X dL_areRunsSo_169 1 rfl ?_
                          refine g_sipush (x := nI 1512) X dL_areRunsSo_171 (by decide +kernel) ?_
                          refine g_icmp_geN (tgt := 249) X dL_areRunsSo_174 (by decide) (by omega) (by omega) (fun c174 => ?_) (fun c174 => ?_)
                          · exact absurd c174 (by omega)
                          · refine g_iload X dL_areRunsSo_177 1 rfl ?_
                            refine g_if_ltN (tgt := 211) X dL_areRunsSo_179 (by decide) (by omega) ?_
                            refine g_iload X dL_areRunsSo_182 1 rfl ?_
                            refine g_sipush (x := nI 999) X dL_areRunsSo_184 (by decide +kernel) ?_
                            refine g_icmp_gtN (tgt := 211) X dL_areRunsSo_187 (by decide) (by omega) (by omega) (fun c187 => ?_) (fun c187 => ?_)
                            · exact absurd c187 (by omega)
                            · refine g_iload X dL_areRunsSo_190 1 rfl ?_
                              refine g_iload_n X dL_areRunsSo_192 8 rfl rfl ?_
                              refine g_icmp_geN (tgt := 249) X dL_areRunsSo_193 (by decide) (by omega) (by omega) (fun c193 => ?_) (fun c193 => ?_)
                              · exact absurd c193 (by omega)
                              · refine g_aload_n X dL_areRunsSo_196 9 rfl rfl ?_
                                refine g_iload X dL_areRunsSo_197 1 rfl ?_
                                refine g_callV (As := [.int (nI cc)]) (rest := []) (wr := []) X (Cc_X6_kind l v cj hCk15 hW hL cc e2) f_X6_kind q_20_4 dL_areRunsSo_199 [0] [] rfl rfl (by decide) 0 hqk15 rfl rfl rfl (Nat.le_of_ble_eq_true rfl) (by decide) (fun r_ w_ hp18 => ?_)
                                obtain ⟨rfl, wk17, hCk17, rfl⟩ := hp18
                                obtain ⟨fsk17, hqk17⟩ := IC9_hd hCk17
                                show GG k _ _ [wk17] _ _ [.int (nI ((P cc).1))]
                                refine g_v (y := nI 1) (by rw [e3]) ?_
                                refine g_iconst (x := nI 1) X dL_areRunsSo_202 (by decide +kernel) ?_
                                refine g_icmp_neN (tgt := 249) X dL_areRunsSo_203 (by decide) (by omega) (by omega) (fun c203 => ?_) (fun c203 => ?_)
                                · exact absurd c203 (by decide)
                                · refine g_iload X dL_areRunsSo_206 0 rfl ?_
                                  refine g_if_leN (tgt := 249) X dL_areRunsSo_208 (by decide) (by omega) (fun c208 => ?_) (fun c208 => ?_)
                                  · exact absurd c208 (by omega)
                                  · refine g_iload_n X dL_areRunsSo_211 8 rfl rfl ?_
                                    refine g_if_gtN (tgt := 231) X dL_areRunsSo_212 (by decide) (by omega) (fun c212 => ?_) (fun c212 => ?_)
                                    · refine g_aload_n X dL_areRunsSo_231 9 rfl rfl ?_
                                      refine g_iload_n X dL_areRunsSo_232 8 rfl rfl ?_
                                      refine g_iload X dL_areRunsSo_233 4 rfl ?_
                                      refine g_iload X dL_areRunsSo_235 3 rfl ?_
                                      refine g_iload X dL_areRunsSo_237 2 rfl ?_
                                      refine g_callV (As := [.int (nI n), .int (nI (t / 64)), .int (nI ((t / 8) % 8)), .int (nI (t % 8))]) (rest := []) (wr := []) X (Cc_X6_demands l v cj hCk17 hW hL n (t / 64) ((t / 8) % 8) (t % 8) (by omega) (by omega) (by omega) (by omega)) f_X6_demands q_23_0 dL_areRunsSo_239 [0] [] rfl rfl (by decide) 0 hqk17 rfl rfl rfl (Nat.le_of_ble_eq_true rfl) (by decide) (fun r_ w_ hp20 => ?_)
                                      obtain ⟨rfl, wk19, hCk19, rfl⟩ := hp20
                                      obtain ⟨fsk19, hqk19⟩ := IC9_hd hCk19
                                      show GG k _ _ [wk19] _ _ [.int (bI (decide (1000 ≤ EE P n (n * 512 + (64 * (t / 64) + 8 * ((t / 8) % 8) + (t % 8))))))]
                                      refine g_v (y := nI 1) ((bI_one (decide_eq_true (by rw [show n * 512 + (64 * (t / 64) + 8 * (t / 8 % 8) + t % 8) = n * 512 + t by omega, EE_n ht9]; omega))).symm) ?_
                                      refine g_if_eqN (tgt := 249) X dL_areRunsSo_242 (by decide) (by omega) (fun c242 => ?_) (fun c242 => ?_)
                                      · exact absurd c242 (by decide)
                                      · refine g_iconst (x := nI 1) X dL_areRunsSo_245 (by decide +kernel) ?_
                                        refine g_goto (tgt := 250) X dL_areRunsSo_246 (by decide) ?_
                                        refine g_istore_n (lv' := [(3, .int (nI 1)), (10, .int (nI (kk + 1))), (9, .int (nI cc)), (8, .int (nI (t % 8))), (7, .int (nI ((t / 8) % 8))), (6, .int (nI (t / 64))), (5, .int (nI t)), (4, .int (nI k2)), (2, .int (nI n)), (0, .ref cj), (1, .int (nI fr))]) X dL_areRunsSo_250 rfl (by decide) rfl ?_
                                        refine g_iinc (y := nI (k2 + 1)) (lv' := [(4, .int (nI (k2 + 1))), (3, .int (nI 1)), (10, .int (nI (kk + 1))), (9, .int (nI cc)), (8, .int (nI (t % 8))), (7, .int (nI ((t / 8) % 8))), (6, .int (nI (t / 64))), (5, .int (nI t)), (2, .int (nI n)), (0, .ref cj), (1, .int (nI fr))]) (j := 7) X dL_areRunsSo_251 rfl (nI_add k2 1) (by decide) rfl ?_
                                        refine g_goto (tgt := 35) X dL_areRunsSo_254 (by decide) ?_
                                        refine g_lv (lv' := [(4, .int (nI (k2 + 1))), (3, .int (nI 1)), (2, .int (nI n)), (0, .ref cj), (1, .int (nI fr))]) [0, 1, 8, 9, 10] rfl ?_
                                        exact ih35 _ (by omega) (k2 + 1) wk19 _ (by omega) hCk19 hqk19 rfl
                                    · exact absurd e2 (by omega)
                    · rw [zI_nI (kk + 1), zI_inj (by omega) (by omega) (by omega) (by omega)] at c148
                      exact absurd c148 (by omega)
                  · rw [zI_nI cc, zI_inj (by omega) (by omega) (by omega) (by omega)] at c137
                    exact absurd c137 (by omega)
              · exact absurd c112 (by omega)
          obtain ⟨uu, hu1, hu2⟩ : ∃ u : Nat, EE P n t = ((1000 + u : Nat) : Int) ∧ u < 512 := ⟨(EE P n t - 1000).toNat, by omega, by omega⟩
          have hEt : EE P n (64 * (t / 64) + 8 * (t / 8 % 8) + t % 8) = ((1000 + uu : Nat) : Int) := by rw [show 64 * (t / 64) + 8 * (t / 8 % 8) + t % 8 = t by omega]; exact hu1
          refine g_aload_n X dL_areRunsSo_79 7 rfl rfl ?_
          refine g_iload X dL_areRunsSo_80 2 rfl ?_
          refine g_iload X dL_areRunsSo_82 1 rfl ?_
          refine g_iload X dL_areRunsSo_84 0 rfl ?_
          refine g_callV (As := [.int (nI (t / 64)), .int (nI ((t / 8) % 8)), .int (nI (t % 8))]) (rest := []) (wr := []) X (Cc_X6_run l v cj hC2 hW hL (t / 64) ((t / 8) % 8) (t % 8) (by omega) (by omega) (by omega)) f_X6_run q_22_5 dL_areRunsSo_86 [0] [] rfl rfl (by decide) 0 hq2 rfl rfl rfl (Nat.le_of_ble_eq_true rfl) (by decide) (fun r_ w_ hp22 => ?_)
          obtain ⟨rfl, wk21, hCk21, rfl⟩ := hp22
          obtain ⟨fsk21, hqk21⟩ := IC9_hd hCk21
          show GG k _ _ [wk21] _ _ [.int (zI (EE P n (64 * (t / 64) + 8 * ((t / 8) % 8) + (t % 8))))]
          refine g_v (y := nI (1000 + uu)) (by rw [hEt, zI_nI]) ?_
          refine g_istore (lv' := [(9, .int (nI (1000 + uu))), (8, .int (nI (t % 8))), (7, .int (nI ((t / 8) % 8))), (6, .int (nI (t / 64))), (5, .int (nI t)), (4, .int (nI k2)), (3, .int (nI 1)), (2, .int (nI n)), (0, .ref cj), (1, .int (nI fr))]) X dL_areRunsSo_89 (by decide) rfl ?_
          refine g_aload_n X dL_areRunsSo_91 8 rfl rfl ?_
          refine g_iload X dL_areRunsSo_92 3 rfl ?_
          refine g_iload X dL_areRunsSo_94 2 rfl ?_
          refine g_iload X dL_areRunsSo_96 1 rfl ?_
          refine g_callV (As := [.int (nI (t / 64)), .int (nI ((t / 8) % 8)), .int (nI (t % 8))]) (rest := []) (wr := []) X (Cc_X6_steps l v cj hCk21 hW hL (t / 64) ((t / 8) % 8) (t % 8) (by omega) (by omega) (by omega)) f_X6_steps q_22_16 dL_areRunsSo_98 [0] [] rfl rfl (by decide) 0 hqk21 rfl rfl rfl (Nat.le_of_ble_eq_true rfl) (by decide) (fun r_ w_ hp24 => ?_)
          obtain ⟨rfl, wk23, hCk23, rfl⟩ := hp24
          obtain ⟨fsk23, hqk23⟩ := IC9_hd hCk23
          show GG k _ _ [wk23] _ _ [.int (if EE P n (64 * (t / 64) + 8 * ((t / 8) % 8) + (t % 8)) = -1 then zI (-1) else nI (LL P n (64 * (t / 64) + 8 * ((t / 8) % 8) + (t % 8))))]
          refine g_v (y := nI (LL P n t)) (by rw [if_neg (by omega), show 64 * (t / 64) + 8 * (t / 8 % 8) + t % 8 = t by omega]) ?_
          refine g_istore (lv' := [(10, .int (nI (LL P n t))), (9, .int (nI (1000 + uu))), (8, .int (nI (t % 8))), (7, .int (nI ((t / 8) % 8))), (6, .int (nI (t / 64))), (5, .int (nI t)), (4, .int (nI k2)), (3, .int (nI 1)), (2, .int (nI n)), (0, .ref cj), (1, .int (nI fr))]) X dL_areRunsSo_101 (by decide) rfl ?_
          refine g_iload_n X dL_areRunsSo_103 7 rfl rfl ?_
          refine g_if_eqN (tgt := 249) X dL_areRunsSo_104 (by decide) (by omega) (fun c104 => ?_) (fun c104 => ?_)
          · exact absurd c104 (by decide)
          · refine g_iload X dL_areRunsSo_107 1 rfl ?_
            refine g_sipush (x := nI 1000) X dL_areRunsSo_109 (by decide +kernel) ?_
            refine g_icmp_ltN (tgt := 119) X dL_areRunsSo_112 (by decide) (by omega) (by omega) (fun c112 => ?_) (fun c112 => ?_)
            · exact absurd c112 (by omega)
            · refine g_iconst (x := nI 1) X dL_areRunsSo_115 (by decide +kernel) ?_
              refine g_goto (tgt := 120) X dL_areRunsSo_116 (by decide) ?_
              refine g_aload_n X dL_areRunsSo_120 9 rfl rfl ?_
              refine g_iconst (x := nI 0) X dL_areRunsSo_121 (by decide +kernel) ?_
              refine g_iload X dL_areRunsSo_122 4 rfl ?_
              refine g_iload X dL_areRunsSo_124 3 rfl ?_
              refine g_iload X dL_areRunsSo_126 2 rfl ?_
              refine g_callV (As := [.int (nI 0), .int (nI (t / 64)), .int (nI ((t / 8) % 8)), .int (nI (t % 8))]) (rest := [.int (nI 1)]) (wr := []) X (Cc_X6_demands l v cj hCk23 hW hL 0 (t / 64) ((t / 8) % 8) (t % 8) (by omega) (by omega) (by omega) (by omega)) f_X6_demands q_23_0 dL_areRunsSo_128 [0] [] rfl rfl (by decide) 0 hqk23 rfl rfl rfl (Nat.le_of_ble_eq_true rfl) (by decide) (fun r_ w_ hp26 => ?_)
              obtain ⟨rfl, wk25, hCk25, rfl⟩ := hp26
              obtain ⟨fsk25, hqk25⟩ := IC9_hd hCk25
              show GG k _ _ [wk25] _ _ [.int (bI (decide (1000 ≤ EE P n (0 * 512 + (64 * (t / 64) + 8 * ((t / 8) % 8) + (t % 8)))))), .int (nI 1)]
              refine g_v (y := nI 1) ((bI_one (decide_eq_true (by rw [show 0 * 512 + (64 * (t / 64) + 8 * (t / 8 % 8) + t % 8) = t by omega]; omega))).symm) ?_
              refine g_icmp_neN (tgt := 249) X dL_areRunsSo_131 (by decide) (by omega) (by omega) (fun c131 => ?_) (fun c131 => ?_)
              · exact absurd c131 (by decide)
              · refine g_iload X dL_areRunsSo_134 1 rfl ?_
                refine g_iconst (x := zI (-1)) X dL_areRunsSo_136 (by decide +kernel) ?_
                refine g_icmp_ne (tgt := 144) X dL_areRunsSo_137 (by decide) (fun c137 => ?_) (fun c137 => ?_)
                · rw [zI_nI (1000 + uu), zI_inj (by omega) (by omega) (by omega) (by omega)] at c137
                  refine g_iconst (x := nI 0) X dL_areRunsSo_144 (by decide +kernel) ?_
                  refine g_iload X dL_areRunsSo_145 0 rfl ?_
                  refine g_iconst (x := zI (-1)) X dL_areRunsSo_147 (by decide +kernel) ?_
                  refine g_icmp_ne (tgt := 155) X dL_areRunsSo_148 (by decide) (fun c148 => ?_) (fun c148 => ?_)
                  · rw [zI_nI (LL P n t), zI_inj (by omega) (by omega) (by omega) (by omega)] at c148
                    refine g_iconst (x := nI 0) X dL_areRunsSo_155 (by decide +kernel) ?_
                    refine g_icmp_neN (tgt := 249) X dL_areRunsSo_156 (by decide) (by omega) (by omega) (fun c156 => ?_) (fun c156 => ?_)
                    · exact absurd c156 (by decide)
                    · refine g_iload X dL_areRunsSo_159 0 rfl ?_
                      refine g_sipush (x := nI 512) X dL_areRunsSo_161 (by decide +kernel) ?_
                      refine g_iload_n X dL_areRunsSo_164 8 rfl rfl ?_
                      refine g_imulN X dL_areRunsSo_165 ?_
                      refine g_icmp_gtN (tgt := 249) X dL_areRunsSo_166 (by decide) (by omega) (by omega) (fun c166 => ?_) (fun c166 => ?_)
                      · exact absurd c166 (by omega)
                      · refine g_iload X dL_areRunsSo_169 1 rfl ?_
                        refine g_sipush (x := nI 1512) X dL_areRunsSo_171 (by decide +kernel) ?_
                        refine g_icmp_geN (tgt := 249) X dL_areRunsSo_174 (by decide) (by omega) (by omega) (fun c174 => ?_) (fun c174 => ?_)
                        · exact absurd c174 (by omega)
                        · refine g_iload X dL_areRunsSo_177 1 rfl ?_
                          refine g_if_ltN (tgt := 211) X dL_areRunsSo_179 (by decide) (by omega) ?_
                          refine g_iload X dL_areRunsSo_182 1 rfl ?_
                          refine g_sipush (x := nI 999) X dL_areRunsSo_184 (by decide +kernel) ?_
                          refine g_icmp_gtN (tgt := 211) X dL_areRunsSo_187 (by decide) (by omega) (by omega) (fun c187 => ?_) (fun c187 => ?_)
                          · refine g_iload_n X dL_areRunsSo_211 8 rfl rfl ?_
                            refine g_if_gtN (tgt := 231) X dL_areRunsSo_212 (by decide) (by omega) (fun c212 => ?_) (fun c212 => ?_)
                            · refine g_aload_n X dL_areRunsSo_231 9 rfl rfl ?_
                              refine g_iload_n X dL_areRunsSo_232 8 rfl rfl ?_
                              refine g_iload X dL_areRunsSo_233 4 rfl ?_
                              refine g_iload X dL_areRunsSo_235 3 rfl ?_
                              refine g_iload X dL_areRunsSo_237 2 rfl ?_
                              refine g_callV (As := [.int (nI n), .int (nI (t / 64)), .int (nI ((t / 8) % 8)), .int (nI (t % 8))]) (rest := []) (wr := []) X (Cc_X6_demands l v cj hCk25 hW hL n (t / 64) ((t / 8) % 8) (t % 8) (by omega) (by omega) (by omega) (by omega)) f_X6_demands q_23_0 dL_areRunsSo_239 [0] [] rfl rfl (by decide) 0 hqk25 rfl rfl rfl (Nat.le_of_ble_eq_true rfl) (by decide) (fun r_ w_ hp28 => ?_)
                              obtain ⟨rfl, wk27, hCk27, rfl⟩ := hp28
                              obtain ⟨fsk27, hqk27⟩ := IC9_hd hCk27
                              show GG k _ _ [wk27] _ _ [.int (bI (decide (1000 ≤ EE P n (n * 512 + (64 * (t / 64) + 8 * ((t / 8) % 8) + (t % 8))))))]
                              refine g_v (y := nI 1) ((bI_one (decide_eq_true (by rw [show n * 512 + (64 * (t / 64) + 8 * (t / 8 % 8) + t % 8) = n * 512 + t by omega, EE_n ht9]; omega))).symm) ?_
                              refine g_if_eqN (tgt := 249) X dL_areRunsSo_242 (by decide) (by omega) (fun c242 => ?_) (fun c242 => ?_)
                              · exact absurd c242 (by decide)
                              · refine g_iconst (x := nI 1) X dL_areRunsSo_245 (by decide +kernel) ?_
                                refine g_goto (tgt := 250) X dL_areRunsSo_246 (by decide) ?_
                                refine g_istore_n (lv' := [(3, .int (nI 1)), (10, .int (nI (LL P n t))), (9, .int (nI (1000 + uu))), (8, .int (nI (t % 8))), (7, .int (nI ((t / 8) % 8))), (6, .int (nI (t / 64))), (5, .int (nI t)), (4, .int (nI k2)), (2, .int (nI n)), (0, .ref cj), (1, .int (nI fr))]) X dL_areRunsSo_250 rfl (by decide) rfl ?_
                                refine g_iinc (y := nI (k2 + 1)) (lv' := [(4, .int (nI (k2 + 1))), (3, .int (nI 1)), (10, .int (nI (LL P n t))), (9, .int (nI (1000 + uu))), (8, .int (nI (t % 8))), (7, .int (nI ((t / 8) % 8))), (6, .int (nI (t / 64))), (5, .int (nI t)), (2, .int (nI n)), (0, .ref cj), (1, .int (nI fr))]) (j := 7) X dL_areRunsSo_251 rfl (nI_add k2 1) (by decide) rfl ?_
                                refine g_goto (tgt := 35) X dL_areRunsSo_254 (by decide) ?_
                                refine g_lv (lv' := [(4, .int (nI (k2 + 1))), (3, .int (nI 1)), (2, .int (nI n)), (0, .ref cj), (1, .int (nI fr))]) [0, 1, 8, 9, 10] rfl ?_
                                exact ih35 _ (by omega) (k2 + 1) wk27 _ (by omega) hCk27 hqk27 rfl
                            · refine g_iload X dL_areRunsSo_215 1 rfl ?_
                              refine g_sipush (x := nI 1000) X dL_areRunsSo_217 (by decide +kernel) ?_
                              refine g_iload X dL_areRunsSo_220 5 rfl ?_
                              refine g_iaddN X dL_areRunsSo_222 ?_
                              refine g_icmp_neN (tgt := 249) X dL_areRunsSo_223 (by decide) (by omega) (by omega) (fun c223 => ?_) (fun c223 => ?_)
                              · exact absurd (by have h0 := EE_0 (P := P) ht9; subst c212; omega) c223
                              · refine g_iload X dL_areRunsSo_226 0 rfl ?_
                                refine g_if_neN (tgt := 249) X dL_areRunsSo_228 (by decide) (by omega) (fun c228 => ?_) (fun c228 => ?_)
                                · exact absurd (by subst c212; exact LL_0 t) c228
                                · refine g_aload_n X dL_areRunsSo_231 9 rfl rfl ?_
                                  refine g_iload_n X dL_areRunsSo_232 8 rfl rfl ?_
                                  refine g_iload X dL_areRunsSo_233 4 rfl ?_
                                  refine g_iload X dL_areRunsSo_235 3 rfl ?_
                                  refine g_iload X dL_areRunsSo_237 2 rfl ?_
                                  refine g_callV (As := [.int (nI n), .int (nI (t / 64)), .int (nI ((t / 8) % 8)), .int (nI (t % 8))]) (rest := []) (wr := []) X (Cc_X6_demands l v cj hCk25 hW hL n (t / 64) ((t / 8) % 8) (t % 8) (by omega) (by omega) (by omega) (by omega)) f_X6_demands q_23_0 dL_areRunsSo_239 [0] [] rfl rfl (by decide) 0 hqk25 rfl rfl rfl (Nat.le_of_ble_eq_true rfl) (by decide) (fun r_ w_ hp30 => ?_)
                                  obtain ⟨rfl, wk29, hCk29, rfl⟩ := hp30
                                  obtain ⟨fsk29, hqk29⟩ := IC9_hd hCk29
                                  show GG k _ _ [wk29] _ _ [.int (bI (decide (1000 ≤ EE P n (n * 512 + (64 * (t / 64) + 8 * ((t / 8) % 8) + (t % 8))))))]
                                  refine g_v (y := nI 1) ((bI_one (decide_eq_true (by rw [show n * 512 + (64 * (t / 64) + 8 * (t / 8 % 8) + t % 8) = n * 512 + t by omega, EE_n ht9]; omega))).symm) ?_
                                  refine g_if_eqN (tgt := 249) X dL_areRunsSo_242 (by decide) (by omega) (fun c242 => ?_) (fun c242 => ?_)
                                  · exact absurd c242 (by decide)
                                  · refine g_iconst (x := nI 1) X dL_areRunsSo_245 (by decide +kernel) ?_
                                    refine g_goto (tgt := 250) X dL_areRunsSo_246 (by decide) ?_
                                    refine g_istore_n (lv' := [(3, .int (nI 1)), (10, .int (nI (LL P n t))), (9, .int (nI (1000 + uu))), (8, .int (nI (t % 8))), (7, .int (nI ((t / 8) % 8))), (6, .int (nI (t / 64))), (5, .int (nI t)), (4, .int (nI k2)), (2, .int (nI n)), (0, .ref cj), (1, .int (nI fr))]) X dL_areRunsSo_250 rfl (by decide) rfl ?_
                                    refine g_iinc (y := nI (k2 + 1)) (lv' := [(4, .int (nI (k2 + 1))), (3, .int (nI 1)), (10, .int (nI (LL P n t))), (9, .int (nI (1000 + uu))), (8, .int (nI (t % 8))), (7, .int (nI ((t / 8) % 8))), (6, .int (nI (t / 64))), (5, .int (nI t)), (2, .int (nI n)), (0, .ref cj), (1, .int (nI fr))]) (j := 7) X dL_areRunsSo_251 rfl (nI_add k2 1) (by decide) rfl ?_
                                    refine g_goto (tgt := 35) X dL_areRunsSo_254 (by decide) ?_
                                    refine g_lv (lv' := [(4, .int (nI (k2 + 1))), (3, .int (nI 1)), (2, .int (nI n)), (0, .ref cj), (1, .int (nI fr))]) [0, 1, 8, 9, 10] rfl ?_
                                    exact ih35 _ (by omega) (k2 + 1) wk29 _ (by omega) hCk29 hqk29 rfl
                          · exact absurd c187 (by omega)
                  · rw [zI_nI (LL P n t), zI_inj (by omega) (by omega) (by omega) (by omega)] at c148
                    exact absurd c148 (by omega)
                · rw [zI_nI (1000 + uu), zI_inj (by omega) (by omega) (by omega) (by omega)] at c137
                  exact absurd c137 (by omega)
    exact lp35 _ 0 w1 _ (by omega) hC1 hq1 rfl
  refine g_iload_n X dL_areRunsSo_5 0 rfl rfl ?_
  refine g_if_gtN (tgt := 26) X dL_areRunsSo_6 (by decide) (by omega) (fun c6 => ?_) (fun c6 => ?_)
  · refine g_iconst (x := nI 1) X dL_areRunsSo_26 (by decide +kernel) ?_
    refine g_goto (tgt := 31) X dL_areRunsSo_27 (by decide) ?_
    exact j31 wk1 _ hCk1 hqk1
  · refine g_aload_n X dL_areRunsSo_9 1 rfl rfl ?_
    refine g_callV (As := []) (rest := []) (wr := []) X (Cc_X6_proof l v cj hCk1 hW hL ) f_X6_proof q_19_20 dL_areRunsSo_10 [0] [] rfl rfl (by decide) 0 hqk1 rfl rfl rfl (Nat.le_of_ble_eq_true rfl) (by decide) (fun r_ w_ hp32 => ?_)
    obtain ⟨rfl, wk31, hCk31, rfl⟩ := hp32
    obtain ⟨fsk31, hqk31⟩ := IC9_hd hCk31
    show GG k _ _ [wk31] _ _ [.int (zI (pfV lo hi P n))]
    have hpf : pfV lo hi P n = 1 := by subst c6; exact pf_n0 hW
    refine g_v (y := nI 1) ((congrArg zI hpf).trans zI_one) ?_
    refine g_iconst (x := nI 1) X dL_areRunsSo_13 (by decide +kernel) ?_
    refine g_icmp_neN (tgt := 30) X dL_areRunsSo_14 (by decide) (by omega) (by omega) (fun c14 => ?_) (fun c14 => ?_)
    · exact absurd c14 (by decide)
    · refine g_aload_n X dL_areRunsSo_17 1 rfl rfl ?_
      refine g_callV (As := []) (rest := []) (wr := []) X (Cc_X6_provedShare l v cj hCk31 hW hL ) f_X6_provedShare q_20_0 dL_areRunsSo_18 [0] [] rfl rfl (by decide) 0 hqk31 rfl rfl rfl (Nat.le_of_ble_eq_true rfl) (by decide) (fun r_ w_ hp34 => ?_)
      obtain ⟨rfl, wk33, hCk33, rfl⟩ := hp34
      obtain ⟨fsk33, hqk33⟩ := IC9_hd hCk33
      show GG k _ _ [wk33] _ _ [.double (psV lo hi P n)]
      refine g_dconst1 X dL_areRunsSo_21 ?_
      refine g_dcmp (z := nI 0) X dL_areRunsSo_22 ((ps_one hW hL hpf).trans (by decide)) ?_
      refine g_if_neN (tgt := 30) X dL_areRunsSo_23 (by decide) (by omega) (fun c23 => ?_) (fun c23 => ?_)
      · exact absurd rfl c23
      · refine g_iconst (x := nI 1) X dL_areRunsSo_26 (by decide +kernel) ?_
        refine g_goto (tgt := 31) X dL_areRunsSo_27 (by decide) ?_
        exact j31 wk33 _ hCk33 hqk33

