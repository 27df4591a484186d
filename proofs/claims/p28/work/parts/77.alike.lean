/-! ## the law: alike -/
theorem dm_small (P : Nat → S9) (n i : Nat) : dmV P n i < 2147483648 := by have := dm_le (P := P) (n := n) i; omega
set_option maxHeartbeats 4000000 in
set_option maxRecDepth 100000 in
theorem c_L_areAlike (l : Launch) (v : VV) (cj : Nat) (cp : Nat) {P : Nat → S9} {n : Nat} {lo hi : Nat → Nat} {H H' : Nat → HE9} {c c' : Nat} {tx tx' : Nat → Nat} {ln ln' : Nat} {w9 u9 : va_W} (hC : IC9 v cj P n lo hi H c tx ln w9) (hD : IC9 v cp P n lo hi H' c' tx' ln' u9) (hW : WF P n) (hL : AsW lo hi) : MI l v yL_areAlike cL_areAlike 4 (some .boolean) ({ frames := 8, cells := 0, slots := 0, locals := 150 }) [.ref cj, .ref cp] [w9, u9] (fun r w_ => r = nI 1 ∧ ∃ w1 u1, IC9 v cj P n lo hi H c tx ln w1 ∧ IC9 v cp P n lo hi H' c' tx' ln' u1 ∧ w_ = [w1, u1]) 0 0 := by
  refine mm_int (by decide) (Nat.le_of_ble_eq_true rfl) [(0, .ref cj), (1, .ref cp)] rfl (fun k X E => ?_)
  obtain ⟨fs9, hq⟩ := IC9_hd hC
  obtain ⟨gs9, hr⟩ := IC9_hd hD
  have hn12 := hW.1
  refine g_aload_n X dL_areAlike_0 0 rfl rfl ?_
  refine g_callV (As := []) (rest := []) (wr := [u9]) X (Cc_X6_statements l v cj hC hW hL ) f_X6_statements q_5_2 dL_areAlike_1 [0] [1] rfl rfl (by decide) 0 hq rfl rfl rfl (Nat.le_of_ble_eq_true rfl) (by decide) (fun r_ w_ hp2 => ?_)
  obtain ⟨rfl, wk1, hCk1, rfl⟩ := hp2
  obtain ⟨fsk1, hqk1⟩ := IC9_hd hCk1
  show GG k _ _ [wk1, u9] _ _ [.int (nI n)]
  refine g_aload_n X dL_areAlike_4 1 rfl rfl ?_
  refine g_callV (As := []) (rest := [.int (nI n)]) (wr := [wk1]) X (Cc_X6_statements l v cp hD hW hL ) f_X6_statements q_5_2 dL_areAlike_5 [1] [0] rfl rfl (by decide) 0 hr rfl rfl rfl (Nat.le_of_ble_eq_true rfl) (by decide) (fun r_ w_ hp4 => ?_)
  obtain ⟨rfl, wk3, hCk3, rfl⟩ := hp4
  obtain ⟨fsk3, hqk3⟩ := IC9_hd hCk3
  show GG k _ _ [wk3, wk1] _ _ [.int (nI n), .int (nI n)]
  refine g_pick (cs' := [wk1, wk3]) [1, 0] rfl rfl ?_
  refine g_icmp_ne (tgt := 49) X dL_areAlike_8 (by decide) (fun c8 => ?_) (fun c8 => ?_)
  · exact absurd rfl c8
  · refine g_aload_n X dL_areAlike_11 0 rfl rfl ?_
    refine g_callV (As := []) (rest := []) (wr := [wk3]) X (Cc_X6_endless l v cj hCk1 hW hL ) f_X6_endless q_16_11 dL_areAlike_12 [0] [1] rfl rfl (by decide) 0 hqk1 rfl rfl rfl (Nat.le_of_ble_eq_true rfl) (by decide) (fun r_ w_ hp6 => ?_)
    obtain ⟨rfl, wk5, hCk5, rfl⟩ := hp6
    obtain ⟨fsk5, hqk5⟩ := IC9_hd hCk5
    show GG k _ _ [wk5, wk3] _ _ [.int (nI (ctb (jE lo hi P n) 512))]
    refine g_aload_n X dL_areAlike_15 1 rfl rfl ?_
    refine g_callV (As := []) (rest := [.int (nI (ctb (jE lo hi P n) 512))]) (wr := [wk5]) X (Cc_X6_endless l v cp hCk3 hW hL ) f_X6_endless q_16_11 dL_areAlike_16 [1] [0] rfl rfl (by decide) 0 hqk3 rfl rfl rfl (Nat.le_of_ble_eq_true rfl) (by decide) (fun r_ w_ hp8 => ?_)
    obtain ⟨rfl, wk7, hCk7, rfl⟩ := hp8
    obtain ⟨fsk7, hqk7⟩ := IC9_hd hCk7
    show GG k _ _ [wk7, wk5] _ _ [.int (nI (ctb (jE lo hi P n) 512)), .int (nI (ctb (jE lo hi P n) 512))]
    refine g_pick (cs' := [wk5, wk7]) [1, 0] rfl rfl ?_
    refine g_icmp_ne (tgt := 49) X dL_areAlike_19 (by decide) (fun c19 => ?_) (fun c19 => ?_)
    · exact absurd rfl c19
    · refine g_aload_n X dL_areAlike_22 0 rfl rfl ?_
      refine g_callV (As := []) (rest := []) (wr := [wk7]) X (Cc_X6_proof l v cj hCk5 hW hL ) f_X6_proof q_19_20 dL_areAlike_23 [0] [1] rfl rfl (by decide) 0 hqk5 rfl rfl rfl (Nat.le_of_ble_eq_true rfl) (by decide) (fun r_ w_ hp10 => ?_)
      obtain ⟨rfl, wk9, hCk9, rfl⟩ := hp10
      obtain ⟨fsk9, hqk9⟩ := IC9_hd hCk9
      show GG k _ _ [wk9, wk7] _ _ [.int (zI (pfV lo hi P n))]
      refine g_aload_n X dL_areAlike_26 1 rfl rfl ?_
      refine g_callV (As := []) (rest := [.int (zI (pfV lo hi P n))]) (wr := [wk9]) X (Cc_X6_proof l v cp hCk7 hW hL ) f_X6_proof q_19_20 dL_areAlike_27 [1] [0] rfl rfl (by decide) 0 hqk7 rfl rfl rfl (Nat.le_of_ble_eq_true rfl) (by decide) (fun r_ w_ hp12 => ?_)
      obtain ⟨rfl, wk11, hCk11, rfl⟩ := hp12
      obtain ⟨fsk11, hqk11⟩ := IC9_hd hCk11
      show GG k _ _ [wk11, wk9] _ _ [.int (zI (pfV lo hi P n)), .int (zI (pfV lo hi P n))]
      refine g_pick (cs' := [wk9, wk11]) [1, 0] rfl rfl ?_
      refine g_icmp_ne (tgt := 49) X dL_areAlike_30 (by decide) (fun c30 => ?_) (fun c30 => ?_)
      · exact absurd rfl c30
      · refine g_aload_n X dL_areAlike_33 0 rfl rfl ?_
        refine g_callV (As := []) (rest := []) (wr := [wk11]) X (Cc_X6_provedShare l v cj hCk9 hW hL ) f_X6_provedShare q_20_0 dL_areAlike_34 [0] [1] rfl rfl (by decide) 0 hqk9 rfl rfl rfl (Nat.le_of_ble_eq_true rfl) (by decide) (fun r_ w_ hp14 => ?_)
        obtain ⟨rfl, wk13, hCk13, rfl⟩ := hp14
        obtain ⟨fsk13, hqk13⟩ := IC9_hd hCk13
        show GG k _ _ [wk13, wk11] _ _ [.double (psV lo hi P n)]
        refine g_aload_n X dL_areAlike_37 1 rfl rfl ?_
        refine g_callV (As := []) (rest := [.double (psV lo hi P n)]) (wr := [wk13]) X (Cc_X6_provedShare l v cp hCk11 hW hL ) f_X6_provedShare q_20_0 dL_areAlike_38 [1] [0] rfl rfl (by decide) 0 hqk11 rfl rfl rfl (Nat.le_of_ble_eq_true rfl) (by decide) (fun r_ w_ hp16 => ?_)
        obtain ⟨rfl, wk15, hCk15, rfl⟩ := hp16
        obtain ⟨fsk15, hqk15⟩ := IC9_hd hCk15
        show GG k _ _ [wk15, wk13] _ _ [.double (psV lo hi P n), .double (psV lo hi P n)]
        refine g_pick (cs' := [wk13, wk15]) [1, 0] rfl rfl ?_
        refine g_dcmp (z := nI 0) X dL_areAlike_41 ((ps_self hL).trans (by decide)) ?_
        refine g_if_neN (tgt := 49) X dL_areAlike_42 (by decide) (by omega) (fun c42 => ?_) (fun c42 => ?_)
        · exact absurd rfl c42
        · refine g_iconst (x := nI 1) X dL_areAlike_45 (by decide +kernel) ?_
          refine g_goto (tgt := 50) X dL_areAlike_46 (by decide) ?_
          refine g_istore_n (lv' := [(2, .int (nI 1)), (0, .ref cj), (1, .ref cp)]) X dL_areAlike_50 rfl (by decide) rfl ?_
          refine g_iconst (x := nI 0) X dL_areAlike_51 (by decide +kernel) ?_
          refine g_istore_n (lv' := [(3, .int (nI 0)), (2, .int (nI 1)), (0, .ref cj), (1, .ref cp)]) X dL_areAlike_52 rfl (by decide) rfl ?_
          have lp53 : ∀ (zN : Nat) (k2 : Nat) (w2 : va_W) (fs2 : List Value) (u2 : va_W) (gs2 : List Value) (hk2 : k2 ≤ n) (hC2 : IC9 v cj P n lo hi H c tx ln w2) (hq2 : ([w2] : List va_W).flatten[0]? = some (cj, .inr (6, fs2))) (hD2 : IC9 v cp P n lo hi H' c' tx' ln' u2) (hr2 : ([u2] : List va_W).flatten[0]? = some (cp, .inr (6, gs2))) (zM : zN = n - k2), GG k 0 0 [w2, u2] [(3, .int (nI k2)), (2, .int (nI 1)), (0, .ref cj), (1, .ref cp)] 53 [] := by
            intro zN
            induction zN using Nat.strongRecOn with
            | _ zN zih =>
              have ih53 := zih
              clear zih
              intro k2 w2 fs2 u2 gs2 hk2 hC2 hq2 hD2 hr2 zM
              refine g_iload_n X dL_areAlike_53 0 rfl rfl ?_
              refine g_aload_n X dL_areAlike_54 2 rfl rfl ?_
              refine g_callV (As := []) (rest := [.int (nI k2)]) (wr := [u2]) X (Cc_X6_statements l v cj hC2 hW hL ) f_X6_statements q_5_2 dL_areAlike_55 [0] [1] rfl rfl (by decide) 0 hq2 rfl rfl rfl (Nat.le_of_ble_eq_true rfl) (by decide) (fun r_ w_ hp18 => ?_)
              obtain ⟨rfl, wk17, hCk17, rfl⟩ := hp18
              obtain ⟨fsk17, hqk17⟩ := IC9_hd hCk17
              show GG k _ _ [wk17, u2] _ _ [.int (nI n), .int (nI k2)]
              refine g_icmp_geN (tgt := 142) X dL_areAlike_58 (by decide) (by omega) (by omega) (fun c58 => ?_) (fun c58 => ?_)
              · refine g_iconst (x := nI 0) X dL_areAlike_142 (by decide +kernel) ?_
                refine g_istore_n (lv' := [(3, .int (nI 0)), (2, .int (nI 1)), (0, .ref cj), (1, .ref cp)]) X dL_areAlike_143 rfl (by decide) rfl ?_
                have lp144 : ∀ (zN : Nat) (k2 : Nat) (w2 : va_W) (fs2 : List Value) (u2 : va_W) (gs2 : List Value) (hk2 : k2 ≤ 3) (hC2 : IC9 v cj P n lo hi H c tx ln w2) (hq2 : ([w2] : List va_W).flatten[0]? = some (cj, .inr (6, fs2))) (hD2 : IC9 v cp P n lo hi H' c' tx' ln' u2) (hr2 : ([u2] : List va_W).flatten[0]? = some (cp, .inr (6, gs2))) (zM : zN = 3 - k2), GG k 0 0 [w2, u2] [(3, .int (nI k2)), (2, .int (nI 1)), (0, .ref cj), (1, .ref cp)] 144 [] := by
                  intro zN
                  induction zN using Nat.strongRecOn with
                  | _ zN zih =>
                    have ih144 := zih
                    clear zih
                    intro k2 w2 fs2 u2 gs2 hk2 hC2 hq2 hD2 hr2 zM
                    refine g_iload_n X dL_areAlike_144 0 rfl rfl ?_
                    refine g_iconst (x := nI 3) X dL_areAlike_145 (by decide +kernel) ?_
                    refine g_icmp_geN (tgt := 195) X dL_areAlike_146 (by decide) (by omega) (by omega) (fun c146 => ?_) (fun c146 => ?_)
                    · refine g_iload_n X dL_areAlike_195 1 rfl rfl ?_
                      exact E dL_areAlike_196 rfl (rfl) (by decide) (by decide) (⟨rfl, w2, u2, hC2, hD2, rfl⟩)
                    · refine g_iload_n X dL_areAlike_149 1 rfl rfl ?_
                      refine g_if_eqN (tgt := 187) X dL_areAlike_150 (by decide) (by omega) (fun c150 => ?_) (fun c150 => ?_)
                      · exact absurd c150 (by decide)
                      · refine g_aload_n X dL_areAlike_153 2 rfl rfl ?_
                        refine g_iconst (x := nI 0) X dL_areAlike_154 (by decide +kernel) ?_
                        refine g_iload_n X dL_areAlike_155 0 rfl rfl ?_
                        refine g_callV (As := [.int (nI 0), .int (nI k2)]) (rest := []) (wr := [u2]) X (Cc_X6_least l v cj hC2 hW hL 0 k2 (by omega) (by omega)) f_X6_least q_21_10 dL_areAlike_156 [0] [1] rfl rfl (by decide) 0 hq2 rfl rfl rfl (Nat.le_of_ble_eq_true rfl) (by decide) (fun r_ w_ hp20 => ?_)
                        obtain ⟨rfl, wk19, hCk19, rfl⟩ := hp20
                        obtain ⟨fsk19, hqk19⟩ := IC9_hd hCk19
                        show GG k _ _ [wk19, u2] _ _ [.int (zI (mnV lo hi P n 0 k2))]
                        refine g_aload_n X dL_areAlike_159 3 rfl rfl ?_
                        refine g_iconst (x := nI 0) X dL_areAlike_160 (by decide +kernel) ?_
                        refine g_iload_n X dL_areAlike_161 0 rfl rfl ?_
                        refine g_callV (As := [.int (nI 0), .int (nI k2)]) (rest := [.int (zI (mnV lo hi P n 0 k2))]) (wr := [wk19]) X (Cc_X6_least l v cp hD2 hW hL 0 k2 (by omega) (by omega)) f_X6_least q_21_10 dL_areAlike_162 [1] [0] rfl rfl (by decide) 0 hr2 rfl rfl rfl (Nat.le_of_ble_eq_true rfl) (by decide) (fun r_ w_ hp22 => ?_)
                        obtain ⟨rfl, wk21, hCk21, rfl⟩ := hp22
                        obtain ⟨fsk21, hqk21⟩ := IC9_hd hCk21
                        show GG k _ _ [wk21, wk19] _ _ [.int (zI (mnV lo hi P n 0 k2)), .int (zI (mnV lo hi P n 0 k2))]
                        refine g_pick (cs' := [wk19, wk21]) [1, 0] rfl rfl ?_
                        refine g_icmp_ne (tgt := 187) X dL_areAlike_165 (by decide) (fun c165 => ?_) (fun c165 => ?_)
                        · exact absurd rfl c165
                        · refine g_aload_n X dL_areAlike_168 2 rfl rfl ?_
                          refine g_iconst (x := nI 0) X dL_areAlike_169 (by decide +kernel) ?_
                          refine g_iload_n X dL_areAlike_170 0 rfl rfl ?_
                          refine g_callV (As := [.int (nI 0), .int (nI k2)]) (rest := []) (wr := [wk21]) X (Cc_X6_greatest l v cj hCk19 hW hL 0 k2 (by omega) (by omega)) f_X6_greatest q_21_14 dL_areAlike_171 [0] [1] rfl rfl (by decide) 0 hqk19 rfl rfl rfl (Nat.le_of_ble_eq_true rfl) (by decide) (fun r_ w_ hp24 => ?_)
                          obtain ⟨rfl, wk23, hCk23, rfl⟩ := hp24
                          obtain ⟨fsk23, hqk23⟩ := IC9_hd hCk23
                          show GG k _ _ [wk23, wk21] _ _ [.int (zI (mxV lo hi P n 0 k2))]
                          refine g_aload_n X dL_areAlike_174 3 rfl rfl ?_
                          refine g_iconst (x := nI 0) X dL_areAlike_175 (by decide +kernel) ?_
                          refine g_iload_n X dL_areAlike_176 0 rfl rfl ?_
                          refine g_callV (As := [.int (nI 0), .int (nI k2)]) (rest := [.int (zI (mxV lo hi P n 0 k2))]) (wr := [wk23]) X (Cc_X6_greatest l v cp hCk21 hW hL 0 k2 (by omega) (by omega)) f_X6_greatest q_21_14 dL_areAlike_177 [1] [0] rfl rfl (by decide) 0 hqk21 rfl rfl rfl (Nat.le_of_ble_eq_true rfl) (by decide) (fun r_ w_ hp26 => ?_)
                          obtain ⟨rfl, wk25, hCk25, rfl⟩ := hp26
                          obtain ⟨fsk25, hqk25⟩ := IC9_hd hCk25
                          show GG k _ _ [wk25, wk23] _ _ [.int (zI (mxV lo hi P n 0 k2)), .int (zI (mxV lo hi P n 0 k2))]
                          refine g_pick (cs' := [wk23, wk25]) [1, 0] rfl rfl ?_
                          refine g_icmp_ne (tgt := 187) X dL_areAlike_180 (by decide) (fun c180 => ?_) (fun c180 => ?_)
                          · exact absurd rfl c180
                          · refine g_iconst (x := nI 1) X dL_areAlike_183 (by decide +kernel) ?_
                            refine g_goto (tgt := 188) X dL_areAlike_184 (by decide) ?_
                            refine g_istore_n (lv' := [(2, .int (nI 1)), (3, .int (nI k2)), (0, .ref cj), (1, .ref cp)]) X dL_areAlike_188 rfl (by decide) rfl ?_
                            refine g_iinc (y := nI (k2 + 1)) (lv' := [(3, .int (nI (k2 + 1))), (2, .int (nI 1)), (0, .ref cj), (1, .ref cp)]) (j := 1) X dL_areAlike_189 rfl (nI_add k2 1) (by decide) rfl ?_
                            refine g_goto (tgt := 144) X dL_areAlike_192 (by decide) ?_
                            exact ih144 _ (by omega) (k2 + 1) wk23 _ wk25 _ (by omega) hCk23 hqk23 hCk25 hqk25 rfl
                exact lp144 _ 0 wk17 _ u2 _ (by omega) hCk17 hqk17 hD2 hr2 rfl
              · refine g_iload_n X dL_areAlike_61 1 rfl rfl ?_
                refine g_if_eqN (tgt := 134) X dL_areAlike_62 (by decide) (by omega) (fun c62 => ?_) (fun c62 => ?_)
                · exact absurd c62 (by decide)
                · refine g_aload_n X dL_areAlike_65 2 rfl rfl ?_
                  refine g_iload_n X dL_areAlike_66 0 rfl rfl ?_
                  refine g_callV (As := [.int (nI k2)]) (rest := []) (wr := [u2]) X (Cc_X6_kind l v cj hCk17 hW hL k2 (by omega)) f_X6_kind q_20_4 dL_areAlike_67 [0] [1] rfl rfl (by decide) 0 hqk17 rfl rfl rfl (Nat.le_of_ble_eq_true rfl) (by decide) (fun r_ w_ hp28 => ?_)
                  obtain ⟨rfl, wk27, hCk27, rfl⟩ := hp28
                  obtain ⟨fsk27, hqk27⟩ := IC9_hd hCk27
                  show GG k _ _ [wk27, u2] _ _ [.int (nI ((P k2).1))]
                  refine g_aload_n X dL_areAlike_70 3 rfl rfl ?_
                  refine g_iload_n X dL_areAlike_71 0 rfl rfl ?_
                  refine g_callV (As := [.int (nI k2)]) (rest := [.int (nI ((P k2).1))]) (wr := [wk27]) X (Cc_X6_kind l v cp hD2 hW hL k2 (by omega)) f_X6_kind q_20_4 dL_areAlike_72 [1] [0] rfl rfl (by decide) 0 hr2 rfl rfl rfl (Nat.le_of_ble_eq_true rfl) (by decide) (fun r_ w_ hp30 => ?_)
                  obtain ⟨rfl, wk29, hCk29, rfl⟩ := hp30
                  obtain ⟨fsk29, hqk29⟩ := IC9_hd hCk29
                  show GG k _ _ [wk29, wk27] _ _ [.int (nI ((P k2).1)), .int (nI ((P k2).1))]
                  refine g_pick (cs' := [wk27, wk29]) [1, 0] rfl rfl ?_
                  refine g_icmp_ne (tgt := 134) X dL_areAlike_75 (by decide) (fun c75 => ?_) (fun c75 => ?_)
                  · exact absurd rfl c75
                  · refine g_aload_n X dL_areAlike_78 2 rfl rfl ?_
                    refine g_iload_n X dL_areAlike_79 0 rfl rfl ?_
                    refine g_callV (As := [.int (nI k2)]) (rest := []) (wr := [wk29]) X (Cc_X6_target l v cj hCk27 hW hL k2 (by omega)) f_X6_target q_20_8 dL_areAlike_80 [0] [1] rfl rfl (by decide) 0 hqk27 rfl rfl rfl (Nat.le_of_ble_eq_true rfl) (by decide) (fun r_ w_ hp32 => ?_)
                    obtain ⟨rfl, wk31, hCk31, rfl⟩ := hp32
                    obtain ⟨fsk31, hqk31⟩ := IC9_hd hCk31
                    show GG k _ _ [wk31, wk29] _ _ [.int (zI (tg9 (P k2)))]
                    refine g_aload_n X dL_areAlike_83 3 rfl rfl ?_
                    refine g_iload_n X dL_areAlike_84 0 rfl rfl ?_
                    refine g_callV (As := [.int (nI k2)]) (rest := [.int (zI (tg9 (P k2)))]) (wr := [wk31]) X (Cc_X6_target l v cp hCk29 hW hL k2 (by omega)) f_X6_target q_20_8 dL_areAlike_85 [1] [0] rfl rfl (by decide) 0 hqk29 rfl rfl rfl (Nat.le_of_ble_eq_true rfl) (by decide) (fun r_ w_ hp34 => ?_)
                    obtain ⟨rfl, wk33, hCk33, rfl⟩ := hp34
                    obtain ⟨fsk33, hqk33⟩ := IC9_hd hCk33
                    show GG k _ _ [wk33, wk31] _ _ [.int (zI (tg9 (P k2))), .int (zI (tg9 (P k2)))]
                    refine g_pick (cs' := [wk31, wk33]) [1, 0] rfl rfl ?_
                    refine g_icmp_ne (tgt := 134) X dL_areAlike_88 (by decide) (fun c88 => ?_) (fun c88 => ?_)
                    · exact absurd rfl c88
                    · refine g_aload_n X dL_areAlike_91 2 rfl rfl ?_
                      refine g_iload_n X dL_areAlike_92 0 rfl rfl ?_
                      refine g_callV (As := [.int (nI k2)]) (rest := []) (wr := [wk33]) X (Cc_X6_demand l v cj hCk31 hW hL k2 (by omega)) f_X6_demand q_20_12 dL_areAlike_93 [0] [1] rfl rfl (by decide) 0 hqk31 rfl rfl rfl (Nat.le_of_ble_eq_true rfl) (by decide) (fun r_ w_ hp36 => ?_)
                      obtain ⟨rfl, wk35, hCk35, rfl⟩ := hp36
                      obtain ⟨fsk35, hqk35⟩ := IC9_hd hCk35
                      show GG k _ _ [wk35, wk33] _ _ [.int (nI (dmV P n k2))]
                      refine g_aload_n X dL_areAlike_96 3 rfl rfl ?_
                      refine g_iload_n X dL_areAlike_97 0 rfl rfl ?_
                      refine g_callV (As := [.int (nI k2)]) (rest := [.int (nI (dmV P n k2))]) (wr := [wk35]) X (Cc_X6_demand l v cp hCk33 hW hL k2 (by omega)) f_X6_demand q_20_12 dL_areAlike_98 [1] [0] rfl rfl (by decide) 0 hqk33 rfl rfl rfl (Nat.le_of_ble_eq_true rfl) (by decide) (fun r_ w_ hp38 => ?_)
                      obtain ⟨rfl, wk37, hCk37, rfl⟩ := hp38
                      obtain ⟨fsk37, hqk37⟩ := IC9_hd hCk37
                      show GG k _ _ [wk37, wk35] _ _ [.int (nI (dmV P n k2)), .int (nI (dmV P n k2))]
                      refine g_pick (cs' := [wk35, wk37]) [1, 0] rfl rfl ?_
                      refine g_icmp_ne (tgt := 134) X dL_areAlike_101 (by decide) (fun c101 => ?_) (fun c101 => ?_)
                      · exact absurd rfl c101
                      · refine g_aload_n X dL_areAlike_104 2 rfl rfl ?_
                        refine g_iload_n X dL_areAlike_105 0 rfl rfl ?_
                        refine g_callV (As := [.int (nI k2)]) (rest := []) (wr := [wk37]) X (Cc_X6_verdict l v cj hCk35 hW hL k2 (by omega)) f_X6_verdict q_20_22 dL_areAlike_106 [0] [1] rfl rfl (by decide) 0 hqk35 rfl rfl rfl (Nat.le_of_ble_eq_true rfl) (by decide) (fun r_ w_ hp40 => ?_)
                        obtain ⟨rfl, wk39, hCk39, rfl⟩ := hp40
                        obtain ⟨fsk39, hqk39⟩ := IC9_hd hCk39
                        show GG k _ _ [wk39, wk37] _ _ [.int (zI (vdV lo hi P n k2))]
                        refine g_aload_n X dL_areAlike_109 3 rfl rfl ?_
                        refine g_iload_n X dL_areAlike_110 0 rfl rfl ?_
                        refine g_callV (As := [.int (nI k2)]) (rest := [.int (zI (vdV lo hi P n k2))]) (wr := [wk39]) X (Cc_X6_verdict l v cp hCk37 hW hL k2 (by omega)) f_X6_verdict q_20_22 dL_areAlike_111 [1] [0] rfl rfl (by decide) 0 hqk37 rfl rfl rfl (Nat.le_of_ble_eq_true rfl) (by decide) (fun r_ w_ hp42 => ?_)
                        obtain ⟨rfl, wk41, hCk41, rfl⟩ := hp42
                        obtain ⟨fsk41, hqk41⟩ := IC9_hd hCk41
                        show GG k _ _ [wk41, wk39] _ _ [.int (zI (vdV lo hi P n k2)), .int (zI (vdV lo hi P n k2))]
                        refine g_pick (cs' := [wk39, wk41]) [1, 0] rfl rfl ?_
                        refine g_icmp_ne (tgt := 134) X dL_areAlike_114 (by decide) (fun c114 => ?_) (fun c114 => ?_)
                        · exact absurd rfl c114
                        · refine g_aload_n X dL_areAlike_117 2 rfl rfl ?_
                          refine g_iload_n X dL_areAlike_118 0 rfl rfl ?_
                          refine g_callV (As := [.int (nI k2)]) (rest := []) (wr := [wk41]) X (Cc_X6_example l v cj hCk39 hW hL k2 (by omega)) f_X6_example q_21_6 dL_areAlike_119 [0] [1] rfl rfl (by decide) 0 hqk39 rfl rfl rfl (Nat.le_of_ble_eq_true rfl) (by decide) (fun r_ w_ hp44 => ?_)
                          obtain ⟨rfl, wk43, hCk43, rfl⟩ := hp44
                          obtain ⟨fsk43, hqk43⟩ := IC9_hd hCk43
                          show GG k _ _ [wk43, wk41] _ _ [.int (zI (exV lo hi P n k2))]
                          refine g_aload_n X dL_areAlike_122 3 rfl rfl ?_
                          refine g_iload_n X dL_areAlike_123 0 rfl rfl ?_
                          refine g_callV (As := [.int (nI k2)]) (rest := [.int (zI (exV lo hi P n k2))]) (wr := [wk43]) X (Cc_X6_example l v cp hCk41 hW hL k2 (by omega)) f_X6_example q_21_6 dL_areAlike_124 [1] [0] rfl rfl (by decide) 0 hqk41 rfl rfl rfl (Nat.le_of_ble_eq_true rfl) (by decide) (fun r_ w_ hp46 => ?_)
                          obtain ⟨rfl, wk45, hCk45, rfl⟩ := hp46
                          obtain ⟨fsk45, hqk45⟩ := IC9_hd hCk45
                          show GG k _ _ [wk45, wk43] _ _ [.int (zI (exV lo hi P n k2)), .int (zI (exV lo hi P n k2))]
                          refine g_pick (cs' := [wk43, wk45]) [1, 0] rfl rfl ?_
                          refine g_icmp_ne (tgt := 134) X dL_areAlike_127 (by decide) (fun c127 => ?_) (fun c127 => ?_)
                          · exact absurd rfl c127
                          · refine g_iconst (x := nI 1) X dL_areAlike_130 (by decide +kernel) ?_
                            refine g_goto (tgt := 135) X dL_areAlike_131 (by decide) ?_
                            refine g_istore_n (lv' := [(2, .int (nI 1)), (3, .int (nI k2)), (0, .ref cj), (1, .ref cp)]) X dL_areAlike_135 rfl (by decide) rfl ?_
                            refine g_iinc (y := nI (k2 + 1)) (lv' := [(3, .int (nI (k2 + 1))), (2, .int (nI 1)), (0, .ref cj), (1, .ref cp)]) (j := 1) X dL_areAlike_136 rfl (nI_add k2 1) (by decide) rfl ?_
                            refine g_goto (tgt := 53) X dL_areAlike_139 (by decide) ?_
                            exact ih53 _ (by omega) (k2 + 1) wk43 _ wk45 _ (by omega) hCk43 hqk43 hCk45 hqk45 rfl
          exact lp53 _ 0 wk13 _ wk15 _ (by omega) hCk13 hqk13 hCk15 hqk15 rfl

