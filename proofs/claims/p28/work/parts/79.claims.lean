/-! ## the law: claims -/
set_option maxHeartbeats 4000000 in
set_option maxRecDepth 100000 in
theorem c_L_areClaimsSo (l : Launch) (v : VV) (cj : Nat) {P : Nat → S9} {n : Nat} {lo hi : Nat → Nat} {H : Nat → HE9} {c : Nat} {tx : Nat → Nat} {ln : Nat} {w9 : va_W} (hC : IC9 v cj P n lo hi H c tx ln w9) (hW : WF P n) (hL : AsW lo hi) : MI l v yL_areClaimsSo cL_areClaimsSo 10 (some .boolean) ({ frames := 8, cells := 0, slots := 0, locals := 150 }) [.ref cj] [w9] (fun r w_ => r = nI 1 ∧ ∃ w1, IC9 v cj P n lo hi H c tx ln w1 ∧ w_ = [w1]) 0 0 := by
  refine mm_int (by decide) (Nat.le_of_ble_eq_true rfl) [(0, .ref cj)] rfl (fun k X E => ?_)
  obtain ⟨fs9, hq⟩ := IC9_hd hC
  have hn12 := hW.1
  refine g_aload_n X dL_areClaimsSo_0 0 rfl rfl ?_
  refine g_callV (As := []) (rest := []) (wr := []) X (Cc_X6_statements l v cj hC hW hL ) f_X6_statements q_5_2 dL_areClaimsSo_1 [0] [] rfl rfl (by decide) 0 hq rfl rfl rfl (Nat.le_of_ble_eq_true rfl) (by decide) (fun r_ w_ hp2 => ?_)
  obtain ⟨rfl, wk1, hCk1, rfl⟩ := hp2
  obtain ⟨fsk1, hqk1⟩ := IC9_hd hCk1
  show GG k _ _ [wk1] _ _ [.int (nI n)]
  refine g_istore_n (lv' := [(1, .int (nI n)), (0, .ref cj)]) X dL_areClaimsSo_4 rfl (by decide) rfl ?_
  refine g_iconst (x := nI 0) X dL_areClaimsSo_5 (by decide +kernel) ?_
  refine g_istore_n (lv' := [(2, .int (nI 0)), (1, .int (nI n)), (0, .ref cj)]) X dL_areClaimsSo_6 rfl (by decide) rfl ?_
  refine g_aload_n X dL_areClaimsSo_7 2 rfl rfl ?_
  refine g_iload_n X dL_areClaimsSo_8 1 rfl rfl ?_
  refine g_callV (As := [.int (nI n)]) (rest := []) (wr := []) X (Cc_X6_demand l v cj hCk1 hW hL n (by omega)) f_X6_demand q_20_12 dL_areClaimsSo_9 [0] [] rfl rfl (by decide) 0 hqk1 rfl rfl rfl (Nat.le_of_ble_eq_true rfl) (by decide) (fun r_ w_ hp4 => ?_)
  obtain ⟨rfl, wk3, hCk3, rfl⟩ := hp4
  obtain ⟨fsk3, hqk3⟩ := IC9_hd hCk3
  show GG k _ _ [wk3] _ _ [.int (nI (dmV P n n))]
  refine g_v (y := nI 512) (by rw [dm_n]) ?_
  refine g_sipush (x := nI 512) X dL_areClaimsSo_12 (by decide +kernel) ?_
  refine g_icmp_neN (tgt := 22) X dL_areClaimsSo_15 (by decide) (by omega) (by omega) (fun c15 => ?_) (fun c15 => ?_)
  · exact absurd c15 (by decide)
  · refine g_iconst (x := nI 1) X dL_areClaimsSo_18 (by decide +kernel) ?_
    refine g_goto (tgt := 23) X dL_areClaimsSo_19 (by decide) ?_
    refine g_istore_n (lv' := [(3, .int (nI 1)), (2, .int (nI 0)), (1, .int (nI n)), (0, .ref cj)]) X dL_areClaimsSo_23 rfl (by decide) rfl ?_
    refine g_iconst (x := nI 0) X dL_areClaimsSo_24 (by decide +kernel) ?_
    refine g_istore (lv' := [(4, .int (nI 0)), (3, .int (nI 1)), (2, .int (nI 0)), (1, .int (nI n)), (0, .ref cj)]) X dL_areClaimsSo_25 (by decide) rfl ?_
    have lp27 : ∀ (zN : Nat) (k2 : Nat) (w2 : va_W) (fs2 : List Value) (hk2 : k2 ≤ n) (hC2 : IC9 v cj P n lo hi H c tx ln w2) (hq2 : ([w2] : List va_W).flatten[0]? = some (cj, .inr (6, fs2))) (zM : zN = n - k2), GG k 0 0 [w2] [(4, .int (nI k2)), (3, .int (nI 1)), (2, .int (nI (rfC lo hi P n k2))), (1, .int (nI n)), (0, .ref cj)] 27 [] := by
      intro zN
      induction zN using Nat.strongRecOn with
      | _ zN zih =>
        have ih27 := zih
        clear zih
        intro k2 w2 fs2 hk2 hC2 hq2 zM
        refine g_iload X dL_areClaimsSo_27 0 rfl ?_
        refine g_iload_n X dL_areClaimsSo_29 3 rfl rfl ?_
        refine g_icmp_geN (tgt := 414) X dL_areClaimsSo_30 (by decide) (by omega) (by omega) (fun c30 => ?_) (fun c30 => ?_)
        · have hpr := pf_rng (lo := lo) (hi := hi) (P := P) (n := n)
          have hrl := rf_le (lo := lo) (hi := hi) (P := P) (n := n) n
          rcases (show pfV lo hi P n = 0 ∨ pfV lo hi P n = 1 ∨ pfV lo hi P n = 2 by omega) with hp | hp | hp
          · refine g_iload_n X dL_areClaimsSo_414 1 rfl rfl ?_
            refine g_if_eqN (tgt := 503) X dL_areClaimsSo_415 (by decide) (by omega) (fun c415 => ?_) (fun c415 => ?_)
            · exact absurd c415 (by decide)
            · refine g_aload_n X dL_areClaimsSo_418 4 rfl rfl ?_
              refine g_callV (As := []) (rest := []) (wr := []) X (Cc_X6_proof l v cj hC2 hW hL ) f_X6_proof q_19_20 dL_areClaimsSo_419 [0] [] rfl rfl (by decide) 0 hq2 rfl rfl rfl (Nat.le_of_ble_eq_true rfl) (by decide) (fun r_ w_ hp6 => ?_)
              obtain ⟨rfl, wk5, hCk5, rfl⟩ := hp6
              obtain ⟨fsk5, hqk5⟩ := IC9_hd hCk5
              show GG k _ _ [wk5] _ _ [.int (zI (pfV lo hi P n))]
              refine g_v (y := nI 0) (by rw [hp]; rfl) ?_
              refine g_iconst (x := nI 2) X dL_areClaimsSo_422 (by decide +kernel) ?_
              refine g_icmp_neN (tgt := 430) X dL_areClaimsSo_423 (by decide) (by omega) (by omega) (fun c423 => ?_) (fun c423 => ?_)
              · refine g_iconst (x := nI 0) X dL_areClaimsSo_430 (by decide +kernel) ?_
                refine g_iload_n X dL_areClaimsSo_431 2 rfl rfl ?_
                refine g_v (y := nI (rfC lo hi P n n)) (by rw [show k2 = n by omega]) ?_
                refine g_if_leN (tgt := 439) X dL_areClaimsSo_432 (by decide) (by omega) (fun c432 => ?_) (fun c432 => ?_)
                · refine g_iconst (x := nI 0) X dL_areClaimsSo_439 (by decide +kernel) ?_
                  refine g_icmp_neN (tgt := 503) X dL_areClaimsSo_440 (by decide) (by omega) (by omega) (fun c440 => ?_) (fun c440 => ?_)
                  · exact absurd c440 (by decide)
                  · refine g_aload_n X dL_areClaimsSo_443 4 rfl rfl ?_
                    refine g_callV (As := []) (rest := []) (wr := []) X (Cc_X6_proof l v cj hCk5 hW hL ) f_X6_proof q_19_20 dL_areClaimsSo_444 [0] [] rfl rfl (by decide) 0 hqk5 rfl rfl rfl (Nat.le_of_ble_eq_true rfl) (by decide) (fun r_ w_ hp8 => ?_)
                    obtain ⟨rfl, wk7, hCk7, rfl⟩ := hp8
                    obtain ⟨fsk7, hqk7⟩ := IC9_hd hCk7
                    show GG k _ _ [wk7] _ _ [.int (zI (pfV lo hi P n))]
                    refine g_v (y := nI 0) (by rw [hp]; rfl) ?_
                    refine g_iconst (x := nI 1) X dL_areClaimsSo_447 (by decide +kernel) ?_
                    refine g_icmp_neN (tgt := 467) X dL_areClaimsSo_448 (by decide) (by omega) (by omega) (fun c448 => ?_) (fun c448 => ?_)
                    · refine g_aload_n X dL_areClaimsSo_467 4 rfl rfl ?_
                      refine g_callV (As := []) (rest := []) (wr := []) X (Cc_X6_proof l v cj hCk7 hW hL ) f_X6_proof q_19_20 dL_areClaimsSo_468 [0] [] rfl rfl (by decide) 0 hqk7 rfl rfl rfl (Nat.le_of_ble_eq_true rfl) (by decide) (fun r_ w_ hp10 => ?_)
                      obtain ⟨rfl, wk9, hCk9, rfl⟩ := hp10
                      obtain ⟨fsk9, hqk9⟩ := IC9_hd hCk9
                      show GG k _ _ [wk9] _ _ [.int (zI (pfV lo hi P n))]
                      refine g_v (y := nI 0) (by rw [hp]; rfl) ?_
                      refine g_if_neN (tgt := 481) X dL_areClaimsSo_471 (by decide) (by omega) (fun c471 => ?_) (fun c471 => ?_)
                      · exact absurd rfl c471
                      · refine g_aload_n X dL_areClaimsSo_474 4 rfl rfl ?_
                        refine g_callV (As := []) (rest := []) (wr := []) X (Cc_X6_endless l v cj hCk9 hW hL ) f_X6_endless q_16_11 dL_areClaimsSo_475 [0] [] rfl rfl (by decide) 0 hqk9 rfl rfl rfl (Nat.le_of_ble_eq_true rfl) (by decide) (fun r_ w_ hp12 => ?_)
                        obtain ⟨rfl, wk11, hCk11, rfl⟩ := hp12
                        obtain ⟨fsk11, hqk11⟩ := IC9_hd hCk11
                        show GG k _ _ [wk11] _ _ [.int (nI (ctb (jE lo hi P n) 512))]
                        refine g_if_leN (tgt := 503) X dL_areClaimsSo_478 (by decide) (by have := ctb_le (jE lo hi P n) 512; omega) (fun c478 => ?_) (fun c478 => ?_)
                        · exact absurd (pf_0 hp) (by omega)
                        · refine g_aload_n X dL_areClaimsSo_481 4 rfl rfl ?_
                          refine g_callV (As := []) (rest := []) (wr := []) X (Cc_X6_provedShare l v cj hCk11 hW hL ) f_X6_provedShare q_20_0 dL_areClaimsSo_482 [0] [] rfl rfl (by decide) 0 hqk11 rfl rfl rfl (Nat.le_of_ble_eq_true rfl) (by decide) (fun r_ w_ hp14 => ?_)
                          obtain ⟨rfl, wk13, hCk13, rfl⟩ := hp14
                          obtain ⟨fsk13, hqk13⟩ := IC9_hd hCk13
                          show GG k _ _ [wk13] _ _ [.double (psV lo hi P n)]
                          refine g_dconst0 X dL_areClaimsSo_485 ?_
                          refine g_dcmp (z := (Op.cmpValue (FP.dcmp (psV lo hi P n) FP.dconst0) .l)) X dL_areClaimsSo_486 (rfl) ?_
                          refine g_if_lt (tgt := 503) X dL_areClaimsSo_487 (by decide) (fun c487 => ?_) (fun c487 => ?_)
                          · exact absurd c487 (ps_ge hL)
                          · refine g_aload_n X dL_areClaimsSo_490 4 rfl rfl ?_
                            refine g_callV (As := []) (rest := []) (wr := []) X (Cc_X6_provedShare l v cj hCk13 hW hL ) f_X6_provedShare q_20_0 dL_areClaimsSo_491 [0] [] rfl rfl (by decide) 0 hqk13 rfl rfl rfl (Nat.le_of_ble_eq_true rfl) (by decide) (fun r_ w_ hp16 => ?_)
                            obtain ⟨rfl, wk15, hCk15, rfl⟩ := hp16
                            obtain ⟨fsk15, hqk15⟩ := IC9_hd hCk15
                            show GG k _ _ [wk15] _ _ [.double (psV lo hi P n)]
                            refine g_dconst1 X dL_areClaimsSo_494 ?_
                            refine g_dcmp (z := (Op.cmpValue (FP.dcmp (psV lo hi P n) FP.dconst1) .g)) X dL_areClaimsSo_495 (rfl) ?_
                            refine g_if_gt (tgt := 503) X dL_areClaimsSo_496 (by decide) (fun c496 => ?_) (fun c496 => ?_)
                            · exact absurd c496 (Int32.not_lt.mpr (ps_le hL))
                            · refine g_iconst (x := nI 1) X dL_areClaimsSo_499 (by decide +kernel) ?_
                              refine g_goto (tgt := 504) X dL_areClaimsSo_500 (by decide) ?_
                              exact E dL_areClaimsSo_504 rfl (rfl) (by decide) (by decide) (⟨rfl, wk15, hCk15, rfl⟩)
                    · exact absurd c448 (by decide)
                · exact absurd ((pf_2 hW).mpr c432) (by rw [hp]; decide)
              · exact absurd c423 (by decide)
          · refine g_iload_n X dL_areClaimsSo_414 1 rfl rfl ?_
            refine g_if_eqN (tgt := 503) X dL_areClaimsSo_415 (by decide) (by omega) (fun c415 => ?_) (fun c415 => ?_)
            · exact absurd c415 (by decide)
            · refine g_aload_n X dL_areClaimsSo_418 4 rfl rfl ?_
              refine g_callV (As := []) (rest := []) (wr := []) X (Cc_X6_proof l v cj hC2 hW hL ) f_X6_proof q_19_20 dL_areClaimsSo_419 [0] [] rfl rfl (by decide) 0 hq2 rfl rfl rfl (Nat.le_of_ble_eq_true rfl) (by decide) (fun r_ w_ hp18 => ?_)
              obtain ⟨rfl, wk17, hCk17, rfl⟩ := hp18
              obtain ⟨fsk17, hqk17⟩ := IC9_hd hCk17
              show GG k _ _ [wk17] _ _ [.int (zI (pfV lo hi P n))]
              refine g_v (y := nI 1) (by rw [hp]; rfl) ?_
              refine g_iconst (x := nI 2) X dL_areClaimsSo_422 (by decide +kernel) ?_
              refine g_icmp_neN (tgt := 430) X dL_areClaimsSo_423 (by decide) (by omega) (by omega) (fun c423 => ?_) (fun c423 => ?_)
              · refine g_iconst (x := nI 0) X dL_areClaimsSo_430 (by decide +kernel) ?_
                refine g_iload_n X dL_areClaimsSo_431 2 rfl rfl ?_
                refine g_v (y := nI (rfC lo hi P n n)) (by rw [show k2 = n by omega]) ?_
                refine g_if_leN (tgt := 439) X dL_areClaimsSo_432 (by decide) (by omega) (fun c432 => ?_) (fun c432 => ?_)
                · refine g_iconst (x := nI 0) X dL_areClaimsSo_439 (by decide +kernel) ?_
                  refine g_icmp_neN (tgt := 503) X dL_areClaimsSo_440 (by decide) (by omega) (by omega) (fun c440 => ?_) (fun c440 => ?_)
                  · exact absurd c440 (by decide)
                  · refine g_aload_n X dL_areClaimsSo_443 4 rfl rfl ?_
                    refine g_callV (As := []) (rest := []) (wr := []) X (Cc_X6_proof l v cj hCk17 hW hL ) f_X6_proof q_19_20 dL_areClaimsSo_444 [0] [] rfl rfl (by decide) 0 hqk17 rfl rfl rfl (Nat.le_of_ble_eq_true rfl) (by decide) (fun r_ w_ hp20 => ?_)
                    obtain ⟨rfl, wk19, hCk19, rfl⟩ := hp20
                    obtain ⟨fsk19, hqk19⟩ := IC9_hd hCk19
                    show GG k _ _ [wk19] _ _ [.int (zI (pfV lo hi P n))]
                    refine g_v (y := nI 1) (by rw [hp]; rfl) ?_
                    refine g_iconst (x := nI 1) X dL_areClaimsSo_447 (by decide +kernel) ?_
                    refine g_icmp_neN (tgt := 467) X dL_areClaimsSo_448 (by decide) (by omega) (by omega) (fun c448 => ?_) (fun c448 => ?_)
                    · exact absurd c448 (by decide)
                    · refine g_aload_n X dL_areClaimsSo_451 4 rfl rfl ?_
                      refine g_callV (As := []) (rest := []) (wr := []) X (Cc_X6_endless l v cj hCk19 hW hL ) f_X6_endless q_16_11 dL_areClaimsSo_452 [0] [] rfl rfl (by decide) 0 hqk19 rfl rfl rfl (Nat.le_of_ble_eq_true rfl) (by decide) (fun r_ w_ hp22 => ?_)
                      obtain ⟨rfl, wk21, hCk21, rfl⟩ := hp22
                      obtain ⟨fsk21, hqk21⟩ := IC9_hd hCk21
                      show GG k _ _ [wk21] _ _ [.int (nI (ctb (jE lo hi P n) 512))]
                      refine g_v (y := nI 0) (by rw [jE_0 hW hp]) ?_
                      refine g_if_neN (tgt := 503) X dL_areClaimsSo_455 (by decide) (by omega) (fun c455 => ?_) (fun c455 => ?_)
                      · exact absurd rfl c455
                      · refine g_aload_n X dL_areClaimsSo_458 4 rfl rfl ?_
                        refine g_callV (As := []) (rest := []) (wr := []) X (Cc_X6_provedShare l v cj hCk21 hW hL ) f_X6_provedShare q_20_0 dL_areClaimsSo_459 [0] [] rfl rfl (by decide) 0 hqk21 rfl rfl rfl (Nat.le_of_ble_eq_true rfl) (by decide) (fun r_ w_ hp24 => ?_)
                        obtain ⟨rfl, wk23, hCk23, rfl⟩ := hp24
                        obtain ⟨fsk23, hqk23⟩ := IC9_hd hCk23
                        show GG k _ _ [wk23] _ _ [.double (psV lo hi P n)]
                        refine g_dconst1 X dL_areClaimsSo_462 ?_
                        refine g_dcmp (z := nI 0) X dL_areClaimsSo_463 ((ps_one hW hL hp).trans (by decide)) ?_
                        refine g_if_neN (tgt := 503) X dL_areClaimsSo_464 (by decide) (by omega) (fun c464 => ?_) (fun c464 => ?_)
                        · exact absurd rfl c464
                        · refine g_aload_n X dL_areClaimsSo_467 4 rfl rfl ?_
                          refine g_callV (As := []) (rest := []) (wr := []) X (Cc_X6_proof l v cj hCk23 hW hL ) f_X6_proof q_19_20 dL_areClaimsSo_468 [0] [] rfl rfl (by decide) 0 hqk23 rfl rfl rfl (Nat.le_of_ble_eq_true rfl) (by decide) (fun r_ w_ hp26 => ?_)
                          obtain ⟨rfl, wk25, hCk25, rfl⟩ := hp26
                          obtain ⟨fsk25, hqk25⟩ := IC9_hd hCk25
                          show GG k _ _ [wk25] _ _ [.int (zI (pfV lo hi P n))]
                          refine g_v (y := nI 1) (by rw [hp]; rfl) ?_
                          refine g_if_neN (tgt := 481) X dL_areClaimsSo_471 (by decide) (by omega) (fun c471 => ?_) (fun c471 => ?_)
                          · refine g_aload_n X dL_areClaimsSo_481 4 rfl rfl ?_
                            refine g_callV (As := []) (rest := []) (wr := []) X (Cc_X6_provedShare l v cj hCk25 hW hL ) f_X6_provedShare q_20_0 dL_areClaimsSo_482 [0] [] rfl rfl (by decide) 0 hqk25 rfl rfl rfl (Nat.le_of_ble_eq_true rfl) (by decide) (fun r_ w_ hp28 => ?_)
                            obtain ⟨rfl, wk27, hCk27, rfl⟩ := hp28
                            obtain ⟨fsk27, hqk27⟩ := IC9_hd hCk27
                            show GG k _ _ [wk27] _ _ [.double (psV lo hi P n)]
                            refine g_dconst0 X dL_areClaimsSo_485 ?_
                            refine g_dcmp (z := (Op.cmpValue (FP.dcmp (psV lo hi P n) FP.dconst0) .l)) X dL_areClaimsSo_486 (rfl) ?_
                            refine g_if_lt (tgt := 503) X dL_areClaimsSo_487 (by decide) (fun c487 => ?_) (fun c487 => ?_)
                            · exact absurd c487 (ps_ge hL)
                            · refine g_aload_n X dL_areClaimsSo_490 4 rfl rfl ?_
                              refine g_callV (As := []) (rest := []) (wr := []) X (Cc_X6_provedShare l v cj hCk27 hW hL ) f_X6_provedShare q_20_0 dL_areClaimsSo_491 [0] [] rfl rfl (by decide) 0 hqk27 rfl rfl rfl (Nat.le_of_ble_eq_true rfl) (by decide) (fun r_ w_ hp30 => ?_)
                              obtain ⟨rfl, wk29, hCk29, rfl⟩ := hp30
                              obtain ⟨fsk29, hqk29⟩ := IC9_hd hCk29
                              show GG k _ _ [wk29] _ _ [.double (psV lo hi P n)]
                              refine g_dconst1 X dL_areClaimsSo_494 ?_
                              refine g_dcmp (z := (Op.cmpValue (FP.dcmp (psV lo hi P n) FP.dconst1) .g)) X dL_areClaimsSo_495 (rfl) ?_
                              refine g_if_gt (tgt := 503) X dL_areClaimsSo_496 (by decide) (fun c496 => ?_) (fun c496 => ?_)
                              · exact absurd c496 (Int32.not_lt.mpr (ps_le hL))
                              · refine g_iconst (x := nI 1) X dL_areClaimsSo_499 (by decide +kernel) ?_
                                refine g_goto (tgt := 504) X dL_areClaimsSo_500 (by decide) ?_
                                exact E dL_areClaimsSo_504 rfl (rfl) (by decide) (by decide) (⟨rfl, wk29, hCk29, rfl⟩)
                          · exact absurd c471 (by decide)
                · exact absurd ((pf_2 hW).mpr c432) (by rw [hp]; decide)
              · exact absurd c423 (by decide)
          · refine g_iload_n X dL_areClaimsSo_414 1 rfl rfl ?_
            refine g_if_eqN (tgt := 503) X dL_areClaimsSo_415 (by decide) (by omega) (fun c415 => ?_) (fun c415 => ?_)
            · exact absurd c415 (by decide)
            · refine g_aload_n X dL_areClaimsSo_418 4 rfl rfl ?_
              refine g_callV (As := []) (rest := []) (wr := []) X (Cc_X6_proof l v cj hC2 hW hL ) f_X6_proof q_19_20 dL_areClaimsSo_419 [0] [] rfl rfl (by decide) 0 hq2 rfl rfl rfl (Nat.le_of_ble_eq_true rfl) (by decide) (fun r_ w_ hp32 => ?_)
              obtain ⟨rfl, wk31, hCk31, rfl⟩ := hp32
              obtain ⟨fsk31, hqk31⟩ := IC9_hd hCk31
              show GG k _ _ [wk31] _ _ [.int (zI (pfV lo hi P n))]
              refine g_v (y := nI 2) (by rw [hp]; rfl) ?_
              refine g_iconst (x := nI 2) X dL_areClaimsSo_422 (by decide +kernel) ?_
              refine g_icmp_neN (tgt := 430) X dL_areClaimsSo_423 (by decide) (by omega) (by omega) (fun c423 => ?_) (fun c423 => ?_)
              · exact absurd c423 (by decide)
              · refine g_iconst (x := nI 1) X dL_areClaimsSo_426 (by decide +kernel) ?_
                refine g_goto (tgt := 431) X dL_areClaimsSo_427 (by decide) ?_
                refine g_iload_n X dL_areClaimsSo_431 2 rfl rfl ?_
                refine g_v (y := nI (rfC lo hi P n n)) (by rw [show k2 = n by omega]) ?_
                refine g_if_leN (tgt := 439) X dL_areClaimsSo_432 (by decide) (by omega) (fun c432 => ?_) (fun c432 => ?_)
                · exact absurd ((pf_2 hW).mp hp) (by omega)
                · refine g_iconst (x := nI 1) X dL_areClaimsSo_435 (by decide +kernel) ?_
                  refine g_goto (tgt := 440) X dL_areClaimsSo_436 (by decide) ?_
                  refine g_icmp_neN (tgt := 503) X dL_areClaimsSo_440 (by decide) (by omega) (by omega) (fun c440 => ?_) (fun c440 => ?_)
                  · exact absurd c440 (by decide)
                  · refine g_aload_n X dL_areClaimsSo_443 4 rfl rfl ?_
                    refine g_callV (As := []) (rest := []) (wr := []) X (Cc_X6_proof l v cj hCk31 hW hL ) f_X6_proof q_19_20 dL_areClaimsSo_444 [0] [] rfl rfl (by decide) 0 hqk31 rfl rfl rfl (Nat.le_of_ble_eq_true rfl) (by decide) (fun r_ w_ hp34 => ?_)
                    obtain ⟨rfl, wk33, hCk33, rfl⟩ := hp34
                    obtain ⟨fsk33, hqk33⟩ := IC9_hd hCk33
                    show GG k _ _ [wk33] _ _ [.int (zI (pfV lo hi P n))]
                    refine g_v (y := nI 2) (by rw [hp]; rfl) ?_
                    refine g_iconst (x := nI 1) X dL_areClaimsSo_447 (by decide +kernel) ?_
                    refine g_icmp_neN (tgt := 467) X dL_areClaimsSo_448 (by decide) (by omega) (by omega) (fun c448 => ?_) (fun c448 => ?_)
                    · refine g_aload_n X dL_areClaimsSo_467 4 rfl rfl ?_
                      refine g_callV (As := []) (rest := []) (wr := []) X (Cc_X6_proof l v cj hCk33 hW hL ) f_X6_proof q_19_20 dL_areClaimsSo_468 [0] [] rfl rfl (by decide) 0 hqk33 rfl rfl rfl (Nat.le_of_ble_eq_true rfl) (by decide) (fun r_ w_ hp36 => ?_)
                      obtain ⟨rfl, wk35, hCk35, rfl⟩ := hp36
                      obtain ⟨fsk35, hqk35⟩ := IC9_hd hCk35
                      show GG k _ _ [wk35] _ _ [.int (zI (pfV lo hi P n))]
                      refine g_v (y := nI 2) (by rw [hp]; rfl) ?_
                      refine g_if_neN (tgt := 481) X dL_areClaimsSo_471 (by decide) (by omega) (fun c471 => ?_) (fun c471 => ?_)
                      · refine g_aload_n X dL_areClaimsSo_481 4 rfl rfl ?_
                        refine g_callV (As := []) (rest := []) (wr := []) X (Cc_X6_provedShare l v cj hCk35 hW hL ) f_X6_provedShare q_20_0 dL_areClaimsSo_482 [0] [] rfl rfl (by decide) 0 hqk35 rfl rfl rfl (Nat.le_of_ble_eq_true rfl) (by decide) (fun r_ w_ hp38 => ?_)
                        obtain ⟨rfl, wk37, hCk37, rfl⟩ := hp38
                        obtain ⟨fsk37, hqk37⟩ := IC9_hd hCk37
                        show GG k _ _ [wk37] _ _ [.double (psV lo hi P n)]
                        refine g_dconst0 X dL_areClaimsSo_485 ?_
                        refine g_dcmp (z := (Op.cmpValue (FP.dcmp (psV lo hi P n) FP.dconst0) .l)) X dL_areClaimsSo_486 (rfl) ?_
                        refine g_if_lt (tgt := 503) X dL_areClaimsSo_487 (by decide) (fun c487 => ?_) (fun c487 => ?_)
                        · exact absurd c487 (ps_ge hL)
                        · refine g_aload_n X dL_areClaimsSo_490 4 rfl rfl ?_
                          refine g_callV (As := []) (rest := []) (wr := []) X (Cc_X6_provedShare l v cj hCk37 hW hL ) f_X6_provedShare q_20_0 dL_areClaimsSo_491 [0] [] rfl rfl (by decide) 0 hqk37 rfl rfl rfl (Nat.le_of_ble_eq_true rfl) (by decide) (fun r_ w_ hp40 => ?_)
                          obtain ⟨rfl, wk39, hCk39, rfl⟩ := hp40
                          obtain ⟨fsk39, hqk39⟩ := IC9_hd hCk39
                          show GG k _ _ [wk39] _ _ [.double (psV lo hi P n)]
                          refine g_dconst1 X dL_areClaimsSo_494 ?_
                          refine g_dcmp (z := (Op.cmpValue (FP.dcmp (psV lo hi P n) FP.dconst1) .g)) X dL_areClaimsSo_495 (rfl) ?_
                          refine g_if_gt (tgt := 503) X dL_areClaimsSo_496 (by decide) (fun c496 => ?_) (fun c496 => ?_)
                          · exact absurd c496 (Int32.not_lt.mpr (ps_le hL))
                          · refine g_iconst (x := nI 1) X dL_areClaimsSo_499 (by decide +kernel) ?_
                            refine g_goto (tgt := 504) X dL_areClaimsSo_500 (by decide) ?_
                            exact E dL_areClaimsSo_504 rfl (rfl) (by decide) (by decide) (⟨rfl, wk39, hCk39, rfl⟩)
                      · exact absurd c471 (by decide)
                    · exact absurd c448 (by decide)
        · have hm0 := mn_rd (lo := lo) (hi := hi) (P := P) (n := n) k2 0
          have hxr := exV_rng (lo := lo) (hi := hi) (P := P) (n := n) k2
          have hvr := vd_rng (lo := lo) (hi := hi) (P := P) (n := n) k2
          by_cases hrd : Rd lo hi P n k2
          · refine g_aload_n X dL_areClaimsSo_33 4 rfl rfl ?_
            refine g_iload X dL_areClaimsSo_34 0 rfl ?_
            refine g_callV (As := [.int (nI k2)]) (rest := []) (wr := []) X (Cc_X6_verdict l v cj hC2 hW hL k2 c30) f_X6_verdict q_20_22 dL_areClaimsSo_36 [0] [] rfl rfl (by decide) 0 hq2 rfl rfl rfl (Nat.le_of_ble_eq_true rfl) (by decide) (fun r_ w_ hp42 => ?_)
            obtain ⟨rfl, wk41, hCk41, rfl⟩ := hp42
            obtain ⟨fsk41, hqk41⟩ := IC9_hd hCk41
            show GG k _ _ [wk41] _ _ [.int (zI (vdV lo hi P n k2))]
            refine g_istore (lv' := [(5, .int (zI (vdV lo hi P n k2))), (4, .int (nI k2)), (3, .int (nI 1)), (2, .int (nI (rfC lo hi P n k2))), (1, .int (nI n)), (0, .ref cj)]) X dL_areClaimsSo_39 (by decide) rfl ?_
            refine g_aload_n X dL_areClaimsSo_41 5 rfl rfl ?_
            refine g_iload X dL_areClaimsSo_42 1 rfl ?_
            refine g_callV (As := [.int (nI k2)]) (rest := []) (wr := []) X (Cc_X6_example l v cj hCk41 hW hL k2 c30) f_X6_example q_21_6 dL_areClaimsSo_44 [0] [] rfl rfl (by decide) 0 hqk41 rfl rfl rfl (Nat.le_of_ble_eq_true rfl) (by decide) (fun r_ w_ hp44 => ?_)
            obtain ⟨rfl, wk43, hCk43, rfl⟩ := hp44
            obtain ⟨fsk43, hqk43⟩ := IC9_hd hCk43
            show GG k _ _ [wk43] _ _ [.int (zI (exV lo hi P n k2))]
            refine g_istore (lv' := [(6, .int (zI (exV lo hi P n k2))), (5, .int (zI (vdV lo hi P n k2))), (4, .int (nI k2)), (3, .int (nI 1)), (2, .int (nI (rfC lo hi P n k2))), (1, .int (nI n)), (0, .ref cj)]) X dL_areClaimsSo_47 (by decide) rfl ?_
            refine g_aload_n X dL_areClaimsSo_49 6 rfl rfl ?_
            refine g_iload X dL_areClaimsSo_50 2 rfl ?_
            refine g_iconst (x := nI 0) X dL_areClaimsSo_52 (by decide +kernel) ?_
            refine g_callV (As := [.int (nI k2), .int (nI 0)]) (rest := []) (wr := []) X (Cc_X6_least l v cj hCk43 hW hL k2 0 (by omega) (by omega)) f_X6_least q_21_10 dL_areClaimsSo_53 [0] [] rfl rfl (by decide) 0 hqk43 rfl rfl rfl (Nat.le_of_ble_eq_true rfl) (by decide) (fun r_ w_ hp46 => ?_)
            obtain ⟨rfl, wk45, hCk45, rfl⟩ := hp46
            obtain ⟨fsk45, hqk45⟩ := IC9_hd hCk45
            show GG k _ _ [wk45] _ _ [.int (zI (mnV lo hi P n k2 0))]
            refine g_if_lt (tgt := 63) X dL_areClaimsSo_56 (by decide) (fun c56 => ?_) (fun c56 => ?_)
            · rw [zI_lt0 (by omega) (by omega)] at c56
              exact absurd (hm0.1.mpr hrd) (by omega)
            · rw [zI_lt0 (by omega) (by omega)] at c56
              refine g_iconst (x := nI 1) X dL_areClaimsSo_59 (by decide +kernel) ?_
              refine g_goto (tgt := 64) X dL_areClaimsSo_60 (by decide) ?_
              refine g_istore (lv' := [(7, .int (nI 1)), (6, .int (zI (exV lo hi P n k2))), (5, .int (zI (vdV lo hi P n k2))), (4, .int (nI k2)), (3, .int (nI 1)), (2, .int (nI (rfC lo hi P n k2))), (1, .int (nI n)), (0, .ref cj)]) X dL_areClaimsSo_64 (by decide) rfl ?_
              refine g_iconst (x := nI 1) X dL_areClaimsSo_66 (by decide +kernel) ?_
              refine g_istore (lv' := [(8, .int (nI 1)), (7, .int (nI 1)), (6, .int (zI (exV lo hi P n k2))), (5, .int (zI (vdV lo hi P n k2))), (4, .int (nI k2)), (3, .int (nI 1)), (2, .int (nI (rfC lo hi P n k2))), (1, .int (nI n)), (0, .ref cj)]) X dL_areClaimsSo_67 (by decide) rfl ?_
              refine g_iconst (x := nI 0) X dL_areClaimsSo_69 (by decide +kernel) ?_
              refine g_istore (lv' := [(9, .int (nI 0)), (8, .int (nI 1)), (7, .int (nI 1)), (6, .int (zI (exV lo hi P n k2))), (5, .int (zI (vdV lo hi P n k2))), (4, .int (nI k2)), (3, .int (nI 1)), (2, .int (nI (rfC lo hi P n k2))), (1, .int (nI n)), (0, .ref cj)]) X dL_areClaimsSo_70 (by decide) rfl ?_
              have lp72 : ∀ (zN : Nat) (i2 : Nat) (w3 : va_W) (fs3 : List Value) (hi2 : i2 ≤ 3) (hC3 : IC9 v cj P n lo hi H c tx ln w3) (hq3 : ([w3] : List va_W).flatten[0]? = some (cj, .inr (6, fs3))) (zM : zN = 3 - i2), GG k 0 0 [w3] [(9, .int (nI i2)), (8, .int (nI 1)), (7, .int (nI 1)), (6, .int (zI (exV lo hi P n k2))), (5, .int (zI (vdV lo hi P n k2))), (4, .int (nI k2)), (3, .int (nI 1)), (2, .int (nI (rfC lo hi P n k2))), (1, .int (nI n)), (0, .ref cj)] 72 [] := by
                intro zN
                induction zN using Nat.strongRecOn with
                | _ zN zih =>
                  have ih72 := zih
                  clear zih
                  intro i2 w3 fs3 hi2 hC3 hq3 zM
                  refine g_iload X dL_areClaimsSo_72 0 rfl ?_
                  refine g_iconst (x := nI 3) X dL_areClaimsSo_74 (by decide +kernel) ?_
                  refine g_icmp_geN (tgt := 170) X dL_areClaimsSo_75 (by decide) (by omega) (by omega) (fun c75 => ?_) (fun c75 => ?_)
                  · have hw3 := (hW.2 k2 c30).1
                    by_cases hk : (P k2).1 = 1
                    · obtain ⟨v1, v2, v3, v4⟩ := vd_claim (lo := lo) (hi := hi) (P := P) (n := n) hW c30 hk
                      by_cases hx : exV lo hi P n k2 = -1
                      · have hv2 : vdV lo hi P n k2 ≠ 2 := fun z => by have := v4.mp z; omega
                        have hv : vdV lo hi P n k2 = 1 := by have : vdV lo hi P n k2 ≠ 0 := (fun z => v3.mp z hrd); omega
                        refine g_iload_n X dL_areClaimsSo_170 7 rfl rfl ?_
                        refine g_iload X dL_areClaimsSo_171 4 rfl ?_
                        refine g_v (y := nI 1) (by rw [hv]; rfl) ?_
                        refine g_iconst (x := nI 2) X dL_areClaimsSo_173 (by decide +kernel) ?_
                        refine g_icmp_neN (tgt := 181) X dL_areClaimsSo_174 (by decide) (by omega) (by omega) (fun c174 => ?_) (fun c174 => ?_)
                        · refine g_iconst (x := nI 0) X dL_areClaimsSo_181 (by decide +kernel) ?_
                          refine g_iaddN X dL_areClaimsSo_182 ?_
                          refine g_v (y := nI (rfC lo hi P n (k2 + 1))) (by rw [rf_f (by rw [hv]; decide), Nat.add_zero]) ?_
                          refine g_istore_n (lv' := [(2, .int (nI (rfC lo hi P n (k2 + 1)))), (9, .int (nI i2)), (8, .int (nI 1)), (7, .int (nI 1)), (6, .int (zI (exV lo hi P n k2))), (5, .int (zI (vdV lo hi P n k2))), (4, .int (nI k2)), (3, .int (nI 1)), (1, .int (nI n)), (0, .ref cj)]) X dL_areClaimsSo_183 rfl (by decide) rfl ?_
                          refine g_iload_n X dL_areClaimsSo_184 7 rfl rfl ?_
                          refine g_if_eqN (tgt := 406) X dL_areClaimsSo_185 (by decide) (by omega) (fun c185 => ?_) (fun c185 => ?_)
                          · exact absurd c185 (by decide)
                          · refine g_iload X dL_areClaimsSo_188 2 rfl ?_
                            refine g_if_eqN (tgt := 406) X dL_areClaimsSo_190 (by decide) (by omega) (fun c190 => ?_) (fun c190 => ?_)
                            · exact absurd c190 (by decide)
                            · refine g_aload_n X dL_areClaimsSo_193 9 rfl rfl ?_
                              refine g_iload X dL_areClaimsSo_194 6 rfl ?_
                              refine g_callV (As := [.int (nI k2)]) (rest := []) (wr := []) X (Cc_X6_kind l v cj hC3 hW hL k2 c30) f_X6_kind q_20_4 dL_areClaimsSo_196 [0] [] rfl rfl (by decide) 0 hq3 rfl rfl rfl (Nat.le_of_ble_eq_true rfl) (by decide) (fun r_ w_ hp48 => ?_)
                              obtain ⟨rfl, wk47, hCk47, rfl⟩ := hp48
                              obtain ⟨fsk47, hqk47⟩ := IC9_hd hCk47
                              show GG k _ _ [wk47] _ _ [.int (nI ((P k2).1))]
                              refine g_v (y := nI 1) (by rw [hk]) ?_
                              refine g_iconst (x := nI 1) X dL_areClaimsSo_199 (by decide +kernel) ?_
                              refine g_icmp_neN (tgt := 281) X dL_areClaimsSo_200 (by decide) (by omega) (by omega) (fun c200 => ?_) (fun c200 => ?_)
                              · exact absurd c200 (by decide)
                              · refine g_iload X dL_areClaimsSo_203 5 rfl ?_
                                refine g_v (y := nI 1) (by rw [hv]; rfl) ?_
                                refine g_if_ltN (tgt := 406) X dL_areClaimsSo_205 (by decide) (by omega) ?_
                                refine g_iload X dL_areClaimsSo_208 5 rfl ?_
                                refine g_v (y := nI 1) (by rw [hv]; rfl) ?_
                                refine g_iconst (x := nI 3) X dL_areClaimsSo_210 (by decide +kernel) ?_
                                refine g_icmp_geN (tgt := 406) X dL_areClaimsSo_211 (by decide) (by omega) (by omega) (fun c211 => ?_) (fun c211 => ?_)
                                · exact absurd c211 (by decide)
                                · refine g_iload X dL_areClaimsSo_214 5 rfl ?_
                                  refine g_v (y := nI 1) (by rw [hv]; rfl) ?_
                                  refine g_if_neN (tgt := 223) X dL_areClaimsSo_216 (by decide) (by omega) (fun c216 => ?_) (fun c216 => ?_)
                                  · refine g_iconst (x := nI 0) X dL_areClaimsSo_223 (by decide +kernel) ?_
                                    refine g_iload X dL_areClaimsSo_224 3 rfl ?_
                                    refine g_if_neN (tgt := 233) X dL_areClaimsSo_226 (by decide) (by omega) (fun c226 => ?_) (fun c226 => ?_)
                                    · refine g_iconst (x := nI 0) X dL_areClaimsSo_233 (by decide +kernel) ?_
                                      refine g_icmp_neN (tgt := 406) X dL_areClaimsSo_234 (by decide) (by omega) (by omega) (fun c234 => ?_) (fun c234 => ?_)
                                      · exact absurd c234 (by decide)
                                      · refine g_iload X dL_areClaimsSo_237 5 rfl ?_
                                        refine g_v (y := nI 1) (by rw [hv]; rfl) ?_
                                        refine g_iconst (x := nI 2) X dL_areClaimsSo_239 (by decide +kernel) ?_
                                        refine g_icmp_neN (tgt := 247) X dL_areClaimsSo_240 (by decide) (by omega) (by omega) (fun c240 => ?_) (fun c240 => ?_)
                                        · refine g_iconst (x := nI 0) X dL_areClaimsSo_247 (by decide +kernel) ?_
                                          refine g_iload X dL_areClaimsSo_248 4 rfl ?_
                                          refine g_v (y := zI (-1)) (by rw [hx]) ?_
                                          refine g_if_lt (tgt := 257) X dL_areClaimsSo_250 (by decide) (fun c250 => ?_) (fun c250 => ?_)
                                          · refine g_iconst (x := nI 0) X dL_areClaimsSo_257 (by decide +kernel) ?_
                                            refine g_icmp_neN (tgt := 406) X dL_areClaimsSo_258 (by decide) (by omega) (by omega) (fun c258 => ?_) (fun c258 => ?_)
                                            · exact absurd c258 (by decide)
                                            · refine g_aload_n X dL_areClaimsSo_261 9 rfl rfl ?_
                                              refine g_iload X dL_areClaimsSo_262 6 rfl ?_
                                              refine g_callV (As := [.int (nI k2)]) (rest := []) (wr := []) X (Cc_X6_demand l v cj hCk47 hW hL k2 (by omega)) f_X6_demand q_20_12 dL_areClaimsSo_264 [0] [] rfl rfl (by decide) 0 hqk47 rfl rfl rfl (Nat.le_of_ble_eq_true rfl) (by decide) (fun r_ w_ hp50 => ?_)
                                              obtain ⟨rfl, wk49, hCk49, rfl⟩ := hp50
                                              obtain ⟨fsk49, hqk49⟩ := IC9_hd hCk49
                                              show GG k _ _ [wk49] _ _ [.int (nI (dmV P n k2))]
                                              refine g_aload_n X dL_areClaimsSo_267 9 rfl rfl ?_
                                              refine g_iload X dL_areClaimsSo_268 6 rfl ?_
                                              refine g_iconst (x := nI 1) X dL_areClaimsSo_270 (by decide +kernel) ?_
                                              refine g_iaddN X dL_areClaimsSo_271 ?_
                                              refine g_callV (As := [.int (nI (k2 + 1))]) (rest := [.int (nI (dmV P n k2))]) (wr := []) X (Cc_X6_demand l v cj hCk49 hW hL (k2 + 1) (by omega)) f_X6_demand q_20_12 dL_areClaimsSo_272 [0] [] rfl rfl (by decide) 0 hqk49 rfl rfl rfl (Nat.le_of_ble_eq_true rfl) (by decide) (fun r_ w_ hp52 => ?_)
                                              obtain ⟨rfl, wk51, hCk51, rfl⟩ := hp52
                                              obtain ⟨fsk51, hqk51⟩ := IC9_hd hCk51
                                              show GG k _ _ [wk51] _ _ [.int (nI (dmV P n (k2 + 1))), .int (nI (dmV P n k2))]
                                              refine g_icmp_gtN (tgt := 406) X dL_areClaimsSo_275 (by decide) (by have := dm_le (P := P) (n := n) k2; have := dm_le (P := P) (n := n) (k2 + 1); omega) (by have := dm_le (P := P) (n := n) k2; have := dm_le (P := P) (n := n) (k2 + 1); omega) (fun c275 => ?_) (fun c275 => ?_)
                                              · exact absurd (dm_claim hW c30 hk) (by omega)
                                              · refine g_goto (tgt := 293) X dL_areClaimsSo_278 (by decide) ?_
                                                refine g_aload_n X dL_areClaimsSo_293 9 rfl rfl ?_
                                                refine g_iload X dL_areClaimsSo_294 6 rfl ?_
                                                refine g_callV (As := [.int (nI k2)]) (rest := []) (wr := []) X (Cc_X6_kind l v cj hCk51 hW hL k2 c30) f_X6_kind q_20_4 dL_areClaimsSo_296 [0] [] rfl rfl (by decide) 0 hqk51 rfl rfl rfl (Nat.le_of_ble_eq_true rfl) (by decide) (fun r_ w_ hp54 => ?_)
                                                obtain ⟨rfl, wk53, hCk53, rfl⟩ := hp54
                                                obtain ⟨fsk53, hqk53⟩ := IC9_hd hCk53
                                                show GG k _ _ [wk53] _ _ [.int (nI ((P k2).1))]
                                                refine g_v (y := nI 1) (by rw [hk]) ?_
                                                refine g_iconst (x := nI 2) X dL_areClaimsSo_299 (by decide +kernel) ?_
                                                refine g_icmp_neN (tgt := 350) X dL_areClaimsSo_300 (by decide) (by omega) (by omega) (fun c300 => ?_) (fun c300 => ?_)
                                                · refine g_aload_n X dL_areClaimsSo_350 9 rfl rfl ?_
                                                  refine g_iload X dL_areClaimsSo_351 6 rfl ?_
                                                  refine g_callV (As := [.int (nI k2)]) (rest := []) (wr := []) X (Cc_X6_kind l v cj hCk53 hW hL k2 c30) f_X6_kind q_20_4 dL_areClaimsSo_353 [0] [] rfl rfl (by decide) 0 hqk53 rfl rfl rfl (Nat.le_of_ble_eq_true rfl) (by decide) (fun r_ w_ hp56 => ?_)
                                                  obtain ⟨rfl, wk55, hCk55, rfl⟩ := hp56
                                                  obtain ⟨fsk55, hqk55⟩ := IC9_hd hCk55
                                                  show GG k _ _ [wk55] _ _ [.int (nI ((P k2).1))]
                                                  refine g_v (y := nI 1) (by rw [hk]) ?_
                                                  refine g_iconst (x := nI 2) X dL_areClaimsSo_356 (by decide +kernel) ?_
                                                  refine g_icmp_eqN (tgt := 370) X dL_areClaimsSo_357 (by decide) (by omega) (by omega) (fun c357 => ?_) (fun c357 => ?_)
                                                  · exact absurd c357 (by decide)
                                                  · refine g_aload_n X dL_areClaimsSo_360 9 rfl rfl ?_
                                                    refine g_iload X dL_areClaimsSo_361 6 rfl ?_
                                                    refine g_callV (As := [.int (nI k2)]) (rest := []) (wr := []) X (Cc_X6_target l v cj hCk55 hW hL k2 c30) f_X6_target q_20_8 dL_areClaimsSo_363 [0] [] rfl rfl (by decide) 0 hqk55 rfl rfl rfl (Nat.le_of_ble_eq_true rfl) (by decide) (fun r_ w_ hp58 => ?_)
                                                    obtain ⟨rfl, wk57, hCk57, rfl⟩ := hp58
                                                    obtain ⟨fsk57, hqk57⟩ := IC9_hd hCk57
                                                    show GG k _ _ [wk57] _ _ [.int (zI (tg9 (P k2)))]
                                                    refine g_v (y := zI (-1)) (by rw [tg_kind (by omega)]) ?_
                                                    refine g_iconst (x := zI (-1)) X dL_areClaimsSo_366 (by decide +kernel) ?_
                                                    refine g_icmp_ne (tgt := 406) X dL_areClaimsSo_367 (by decide) (fun c367 => ?_) (fun c367 => ?_)
                                                    · rw [zI_inj (by omega) (by omega) (by omega) (by omega)] at c367
                                                      exact absurd rfl c367
                                                    · rw [zI_inj (by omega) (by omega) (by omega) (by omega)] at c367
                                                      refine g_iload X dL_areClaimsSo_370 4 rfl ?_
                                                      refine g_v (y := zI (-1)) (by rw [hx]) ?_
                                                      refine g_if_lt (tgt := 402) X dL_areClaimsSo_372 (by decide) (fun c372 => ?_) (fun c372 => ?_)
                                                      · refine g_iconst (x := nI 1) X dL_areClaimsSo_402 (by decide +kernel) ?_
                                                        refine g_goto (tgt := 407) X dL_areClaimsSo_403 (by decide) ?_
                                                        refine g_istore_n (lv' := [(3, .int (nI 1)), (2, .int (nI (rfC lo hi P n (k2 + 1)))), (9, .int (nI i2)), (8, .int (nI 1)), (7, .int (nI 1)), (6, .int (zI (exV lo hi P n k2))), (5, .int (zI (vdV lo hi P n k2))), (4, .int (nI k2)), (1, .int (nI n)), (0, .ref cj)]) X dL_areClaimsSo_407 rfl (by decide) rfl ?_
                                                        refine g_iinc (y := nI (k2 + 1)) (lv' := [(4, .int (nI (k2 + 1))), (3, .int (nI 1)), (2, .int (nI (rfC lo hi P n (k2 + 1)))), (9, .int (nI i2)), (8, .int (nI 1)), (7, .int (nI 1)), (6, .int (zI (exV lo hi P n k2))), (5, .int (zI (vdV lo hi P n k2))), (1, .int (nI n)), (0, .ref cj)]) (j := 7) X dL_areClaimsSo_408 rfl (nI_add k2 1) (by decide) rfl ?_
                                                        refine g_goto (tgt := 27) X dL_areClaimsSo_411 (by decide) ?_
                                                        refine g_lv (lv' := [(4, .int (nI (k2 + 1))), (3, .int (nI 1)), (2, .int (nI (rfC lo hi P n (k2 + 1)))), (1, .int (nI n)), (0, .ref cj)]) [0, 1, 2, 8, 9] rfl ?_
                                                        exact ih27 _ (by omega) (k2 + 1) wk57 _ (by omega) hCk57 hqk57 rfl
                                                      · exact absurd c372 (by decide)
                                                · exact absurd c300 (by decide)
                                          · exact absurd c250 (by decide)
                                        · exact absurd c240 (by decide)
                                    · exact absurd c226 (by decide)
                                  · exact absurd c216 (by decide)
                        · exact absurd c174 (by decide)
                      · have hv : vdV lo hi P n k2 = 2 := v4.mpr (by omega)
                        obtain ⟨t, ht9, ext, eab, eEE⟩ := exV_pos hx
                        refine g_iload_n X dL_areClaimsSo_170 7 rfl rfl ?_
                        refine g_iload X dL_areClaimsSo_171 4 rfl ?_
                        refine g_v (y := nI 2) (by rw [hv]; rfl) ?_
                        refine g_iconst (x := nI 2) X dL_areClaimsSo_173 (by decide +kernel) ?_
                        refine g_icmp_neN (tgt := 181) X dL_areClaimsSo_174 (by decide) (by omega) (by omega) (fun c174 => ?_) (fun c174 => ?_)
                        · exact absurd c174 (by decide)
                        · refine g_iconst (x := nI 1) X dL_areClaimsSo_177 (by decide +kernel) ?_
                          refine g_goto (tgt := 182) X dL_areClaimsSo_178 (by decide) ?_
                          refine g_iaddN X dL_areClaimsSo_182 ?_
                          refine g_v (y := nI (rfC lo hi P n (k2 + 1))) (by rw [rf_t hv]) ?_
                          refine g_istore_n (lv' := [(2, .int (nI (rfC lo hi P n (k2 + 1)))), (9, .int (nI i2)), (8, .int (nI 1)), (7, .int (nI 1)), (6, .int (zI (exV lo hi P n k2))), (5, .int (zI (vdV lo hi P n k2))), (4, .int (nI k2)), (3, .int (nI 1)), (1, .int (nI n)), (0, .ref cj)]) X dL_areClaimsSo_183 rfl (by decide) rfl ?_
                          refine g_iload_n X dL_areClaimsSo_184 7 rfl rfl ?_
                          refine g_if_eqN (tgt := 406) X dL_areClaimsSo_185 (by decide) (by omega) (fun c185 => ?_) (fun c185 => ?_)
                          · exact absurd c185 (by decide)
                          · refine g_iload X dL_areClaimsSo_188 2 rfl ?_
                            refine g_if_eqN (tgt := 406) X dL_areClaimsSo_190 (by decide) (by omega) (fun c190 => ?_) (fun c190 => ?_)
                            · exact absurd c190 (by decide)
                            · refine g_aload_n X dL_areClaimsSo_193 9 rfl rfl ?_
                              refine g_iload X dL_areClaimsSo_194 6 rfl ?_
                              refine g_callV (As := [.int (nI k2)]) (rest := []) (wr := []) X (Cc_X6_kind l v cj hC3 hW hL k2 c30) f_X6_kind q_20_4 dL_areClaimsSo_196 [0] [] rfl rfl (by decide) 0 hq3 rfl rfl rfl (Nat.le_of_ble_eq_true rfl) (by decide) (fun r_ w_ hp60 => ?_)
                              obtain ⟨rfl, wk59, hCk59, rfl⟩ := hp60
                              obtain ⟨fsk59, hqk59⟩ := IC9_hd hCk59
                              show GG k _ _ [wk59] _ _ [.int (nI ((P k2).1))]
                              refine g_v (y := nI 1) (by rw [hk]) ?_
                              refine g_iconst (x := nI 1) X dL_areClaimsSo_199 (by decide +kernel) ?_
                              refine g_icmp_neN (tgt := 281) X dL_areClaimsSo_200 (by decide) (by omega) (by omega) (fun c200 => ?_) (fun c200 => ?_)
                              · exact absurd c200 (by decide)
                              · refine g_iload X dL_areClaimsSo_203 5 rfl ?_
                                refine g_v (y := nI 2) (by rw [hv]; rfl) ?_
                                refine g_if_ltN (tgt := 406) X dL_areClaimsSo_205 (by decide) (by omega) ?_
                                refine g_iload X dL_areClaimsSo_208 5 rfl ?_
                                refine g_v (y := nI 2) (by rw [hv]; rfl) ?_
                                refine g_iconst (x := nI 3) X dL_areClaimsSo_210 (by decide +kernel) ?_
                                refine g_icmp_geN (tgt := 406) X dL_areClaimsSo_211 (by decide) (by omega) (by omega) (fun c211 => ?_) (fun c211 => ?_)
                                · exact absurd c211 (by decide)
                                · refine g_iload X dL_areClaimsSo_214 5 rfl ?_
                                  refine g_v (y := nI 2) (by rw [hv]; rfl) ?_
                                  refine g_if_neN (tgt := 223) X dL_areClaimsSo_216 (by decide) (by omega) (fun c216 => ?_) (fun c216 => ?_)
                                  · refine g_iconst (x := nI 0) X dL_areClaimsSo_223 (by decide +kernel) ?_
                                    refine g_iload X dL_areClaimsSo_224 3 rfl ?_
                                    refine g_if_neN (tgt := 233) X dL_areClaimsSo_226 (by decide) (by omega) (fun c226 => ?_) (fun c226 => ?_)
                                    · refine g_iconst (x := nI 0) X dL_areClaimsSo_233 (by decide +kernel) ?_
                                      refine g_icmp_neN (tgt := 406) X dL_areClaimsSo_234 (by decide) (by omega) (by omega) (fun c234 => ?_) (fun c234 => ?_)
                                      · exact absurd c234 (by decide)
                                      · refine g_iload X dL_areClaimsSo_237 5 rfl ?_
                                        refine g_v (y := nI 2) (by rw [hv]; rfl) ?_
                                        refine g_iconst (x := nI 2) X dL_areClaimsSo_239 (by decide +kernel) ?_
                                        refine g_icmp_neN (tgt := 247) X dL_areClaimsSo_240 (by decide) (by omega) (by omega) (fun c240 => ?_) (fun c240 => ?_)
                                        · exact absurd c240 (by decide)
                                        · refine g_iconst (x := nI 1) X dL_areClaimsSo_243 (by decide +kernel) ?_
                                          refine g_goto (tgt := 248) X dL_areClaimsSo_244 (by decide) ?_
                                          refine g_iload X dL_areClaimsSo_248 4 rfl ?_
                                          refine g_v (y := nI t) (by rw [ext, zI_nI]) ?_
                                          refine g_if_ltN (tgt := 257) X dL_areClaimsSo_250 (by decide) (by omega) ?_
                                          refine g_iconst (x := nI 1) X dL_areClaimsSo_253 (by decide +kernel) ?_
                                          refine g_goto (tgt := 258) X dL_areClaimsSo_254 (by decide) ?_
                                          refine g_icmp_neN (tgt := 406) X dL_areClaimsSo_258 (by decide) (by omega) (by omega) (fun c258 => ?_) (fun c258 => ?_)
                                          · exact absurd c258 (by decide)
                                          · refine g_aload_n X dL_areClaimsSo_261 9 rfl rfl ?_
                                            refine g_iload X dL_areClaimsSo_262 6 rfl ?_
                                            refine g_callV (As := [.int (nI k2)]) (rest := []) (wr := []) X (Cc_X6_demand l v cj hCk59 hW hL k2 (by omega)) f_X6_demand q_20_12 dL_areClaimsSo_264 [0] [] rfl rfl (by decide) 0 hqk59 rfl rfl rfl (Nat.le_of_ble_eq_true rfl) (by decide) (fun r_ w_ hp62 => ?_)
                                            obtain ⟨rfl, wk61, hCk61, rfl⟩ := hp62
                                            obtain ⟨fsk61, hqk61⟩ := IC9_hd hCk61
                                            show GG k _ _ [wk61] _ _ [.int (nI (dmV P n k2))]
                                            refine g_aload_n X dL_areClaimsSo_267 9 rfl rfl ?_
                                            refine g_iload X dL_areClaimsSo_268 6 rfl ?_
                                            refine g_iconst (x := nI 1) X dL_areClaimsSo_270 (by decide +kernel) ?_
                                            refine g_iaddN X dL_areClaimsSo_271 ?_
                                            refine g_callV (As := [.int (nI (k2 + 1))]) (rest := [.int (nI (dmV P n k2))]) (wr := []) X (Cc_X6_demand l v cj hCk61 hW hL (k2 + 1) (by omega)) f_X6_demand q_20_12 dL_areClaimsSo_272 [0] [] rfl rfl (by decide) 0 hqk61 rfl rfl rfl (Nat.le_of_ble_eq_true rfl) (by decide) (fun r_ w_ hp64 => ?_)
                                            obtain ⟨rfl, wk63, hCk63, rfl⟩ := hp64
                                            obtain ⟨fsk63, hqk63⟩ := IC9_hd hCk63
                                            show GG k _ _ [wk63] _ _ [.int (nI (dmV P n (k2 + 1))), .int (nI (dmV P n k2))]
                                            refine g_icmp_gtN (tgt := 406) X dL_areClaimsSo_275 (by decide) (by have := dm_le (P := P) (n := n) k2; have := dm_le (P := P) (n := n) (k2 + 1); omega) (by have := dm_le (P := P) (n := n) k2; have := dm_le (P := P) (n := n) (k2 + 1); omega) (fun c275 => ?_) (fun c275 => ?_)
                                            · exact absurd (dm_claim hW c30 hk) (by omega)
                                            · refine g_goto (tgt := 293) X dL_areClaimsSo_278 (by decide) ?_
                                              refine g_aload_n X dL_areClaimsSo_293 9 rfl rfl ?_
                                              refine g_iload X dL_areClaimsSo_294 6 rfl ?_
                                              refine g_callV (As := [.int (nI k2)]) (rest := []) (wr := []) X (Cc_X6_kind l v cj hCk63 hW hL k2 c30) f_X6_kind q_20_4 dL_areClaimsSo_296 [0] [] rfl rfl (by decide) 0 hqk63 rfl rfl rfl (Nat.le_of_ble_eq_true rfl) (by decide) (fun r_ w_ hp66 => ?_)
                                              obtain ⟨rfl, wk65, hCk65, rfl⟩ := hp66
                                              obtain ⟨fsk65, hqk65⟩ := IC9_hd hCk65
                                              show GG k _ _ [wk65] _ _ [.int (nI ((P k2).1))]
                                              refine g_v (y := nI 1) (by rw [hk]) ?_
                                              refine g_iconst (x := nI 2) X dL_areClaimsSo_299 (by decide +kernel) ?_
                                              refine g_icmp_neN (tgt := 350) X dL_areClaimsSo_300 (by decide) (by omega) (by omega) (fun c300 => ?_) (fun c300 => ?_)
                                              · refine g_aload_n X dL_areClaimsSo_350 9 rfl rfl ?_
                                                refine g_iload X dL_areClaimsSo_351 6 rfl ?_
                                                refine g_callV (As := [.int (nI k2)]) (rest := []) (wr := []) X (Cc_X6_kind l v cj hCk65 hW hL k2 c30) f_X6_kind q_20_4 dL_areClaimsSo_353 [0] [] rfl rfl (by decide) 0 hqk65 rfl rfl rfl (Nat.le_of_ble_eq_true rfl) (by decide) (fun r_ w_ hp68 => ?_)
                                                obtain ⟨rfl, wk67, hCk67, rfl⟩ := hp68
                                                obtain ⟨fsk67, hqk67⟩ := IC9_hd hCk67
                                                show GG k _ _ [wk67] _ _ [.int (nI ((P k2).1))]
                                                refine g_v (y := nI 1) (by rw [hk]) ?_
                                                refine g_iconst (x := nI 2) X dL_areClaimsSo_356 (by decide +kernel) ?_
                                                refine g_icmp_eqN (tgt := 370) X dL_areClaimsSo_357 (by decide) (by omega) (by omega) (fun c357 => ?_) (fun c357 => ?_)
                                                · exact absurd c357 (by decide)
                                                · refine g_aload_n X dL_areClaimsSo_360 9 rfl rfl ?_
                                                  refine g_iload X dL_areClaimsSo_361 6 rfl ?_
                                                  refine g_callV (As := [.int (nI k2)]) (rest := []) (wr := []) X (Cc_X6_target l v cj hCk67 hW hL k2 c30) f_X6_target q_20_8 dL_areClaimsSo_363 [0] [] rfl rfl (by decide) 0 hqk67 rfl rfl rfl (Nat.le_of_ble_eq_true rfl) (by decide) (fun r_ w_ hp70 => ?_)
                                                  obtain ⟨rfl, wk69, hCk69, rfl⟩ := hp70
                                                  obtain ⟨fsk69, hqk69⟩ := IC9_hd hCk69
                                                  show GG k _ _ [wk69] _ _ [.int (zI (tg9 (P k2)))]
                                                  refine g_v (y := zI (-1)) (by rw [tg_kind (by omega)]) ?_
                                                  refine g_iconst (x := zI (-1)) X dL_areClaimsSo_366 (by decide +kernel) ?_
                                                  refine g_icmp_ne (tgt := 406) X dL_areClaimsSo_367 (by decide) (fun c367 => ?_) (fun c367 => ?_)
                                                  · rw [zI_inj (by omega) (by omega) (by omega) (by omega)] at c367
                                                    exact absurd rfl c367
                                                  · rw [zI_inj (by omega) (by omega) (by omega) (by omega)] at c367
                                                    refine g_iload X dL_areClaimsSo_370 4 rfl ?_
                                                    refine g_v (y := nI t) (by rw [ext, zI_nI]) ?_
                                                    refine g_if_ltN (tgt := 402) X dL_areClaimsSo_372 (by decide) (by omega) ?_
                                                    refine g_aload_n X dL_areClaimsSo_375 9 rfl rfl ?_
                                                    refine g_iload X dL_areClaimsSo_376 4 rfl ?_
                                                    refine g_v (y := nI t) (by rw [ext, zI_nI]) ?_
                                                    refine g_bipush (x := nI 64) X dL_areClaimsSo_378 (by decide +kernel) ?_
                                                    refine g_idivN X dL_areClaimsSo_380 (by omega) (by omega) (by omega) ?_
                                                    refine g_iload X dL_areClaimsSo_381 4 rfl ?_
                                                    refine g_v (y := nI t) (by rw [ext, zI_nI]) ?_
                                                    refine g_bipush (x := nI 8) X dL_areClaimsSo_383 (by decide +kernel) ?_
                                                    refine g_idivN X dL_areClaimsSo_385 (by omega) (by omega) (by omega) ?_
                                                    refine g_bipush (x := nI 8) X dL_areClaimsSo_386 (by decide +kernel) ?_
                                                    refine g_iremN X dL_areClaimsSo_388 (by omega) (by omega) (by omega) ?_
                                                    refine g_iload X dL_areClaimsSo_389 4 rfl ?_
                                                    refine g_v (y := nI t) (by rw [ext, zI_nI]) ?_
                                                    refine g_bipush (x := nI 8) X dL_areClaimsSo_391 (by decide +kernel) ?_
                                                    refine g_iremN X dL_areClaimsSo_393 (by omega) (by omega) (by omega) ?_
                                                    refine g_callV (As := [.int (nI (t / 64)), .int (nI ((t / 8) % 8)), .int (nI (t % 8))]) (rest := []) (wr := []) X (Cc_X6_run l v cj hCk69 hW hL (t / 64) ((t / 8) % 8) (t % 8) (by omega) (by omega) (by omega)) f_X6_run q_22_5 dL_areClaimsSo_394 [0] [] rfl rfl (by decide) 0 hqk69 rfl rfl rfl (Nat.le_of_ble_eq_true rfl) (by decide) (fun r_ w_ hp72 => ?_)
                                                    obtain ⟨rfl, wk71, hCk71, rfl⟩ := hp72
                                                    obtain ⟨fsk71, hqk71⟩ := IC9_hd hCk71
                                                    show GG k _ _ [wk71] _ _ [.int (zI (EE P n (64 * (t / 64) + 8 * ((t / 8) % 8) + (t % 8))))]
                                                    refine g_v (y := nI k2) (by rw [show 64 * (t / 64) + 8 * (t / 8 % 8) + t % 8 = t by omega, eEE, zI_nI]) ?_
                                                    refine g_iload X dL_areClaimsSo_397 6 rfl ?_
                                                    refine g_icmp_ne (tgt := 406) X dL_areClaimsSo_399 (by decide) (fun c399 => ?_) (fun c399 => ?_)
                                                    · exact absurd rfl c399
                                                    · refine g_iconst (x := nI 1) X dL_areClaimsSo_402 (by decide +kernel) ?_
                                                      refine g_goto (tgt := 407) X dL_areClaimsSo_403 (by decide) ?_
                                                      refine g_istore_n (lv' := [(3, .int (nI 1)), (2, .int (nI (rfC lo hi P n (k2 + 1)))), (9, .int (nI i2)), (8, .int (nI 1)), (7, .int (nI 1)), (6, .int (zI (exV lo hi P n k2))), (5, .int (zI (vdV lo hi P n k2))), (4, .int (nI k2)), (1, .int (nI n)), (0, .ref cj)]) X dL_areClaimsSo_407 rfl (by decide) rfl ?_
                                                      refine g_iinc (y := nI (k2 + 1)) (lv' := [(4, .int (nI (k2 + 1))), (3, .int (nI 1)), (2, .int (nI (rfC lo hi P n (k2 + 1)))), (9, .int (nI i2)), (8, .int (nI 1)), (7, .int (nI 1)), (6, .int (zI (exV lo hi P n k2))), (5, .int (zI (vdV lo hi P n k2))), (1, .int (nI n)), (0, .ref cj)]) (j := 7) X dL_areClaimsSo_408 rfl (nI_add k2 1) (by decide) rfl ?_
                                                      refine g_goto (tgt := 27) X dL_areClaimsSo_411 (by decide) ?_
                                                      refine g_lv (lv' := [(4, .int (nI (k2 + 1))), (3, .int (nI 1)), (2, .int (nI (rfC lo hi P n (k2 + 1)))), (1, .int (nI n)), (0, .ref cj)]) [0, 1, 2, 8, 9] rfl ?_
                                                      exact ih27 _ (by omega) (k2 + 1) wk71 _ (by omega) hCk71 hqk71 rfl
                                              · exact absurd c300 (by decide)
                                    · exact absurd c226 (by decide)
                                  · exact absurd c216 (by decide)
                    · obtain ⟨hv, hx⟩ := vd_other (lo := lo) (hi := hi) (P := P) (n := n) hW c30 hk
                      by_cases hj : (P k2).1 = 2
                      · have hk := hj
                        obtain ⟨g1, g2, g3, g4⟩ := tg_jump hW c30 hk
                        refine g_iload_n X dL_areClaimsSo_170 7 rfl rfl ?_
                        refine g_iload X dL_areClaimsSo_171 4 rfl ?_
                        refine g_v (y := zI (-1)) (by rw [hv]) ?_
                        refine g_iconst (x := nI 2) X dL_areClaimsSo_173 (by decide +kernel) ?_
                        refine g_icmp_ne (tgt := 181) X dL_areClaimsSo_174 (by decide) (fun c174 => ?_) (fun c174 => ?_)
                        · rw [zI_nI 2, zI_inj (by omega) (by omega) (by omega) (by omega)] at c174
                          refine g_iconst (x := nI 0) X dL_areClaimsSo_181 (by decide +kernel) ?_
                          refine g_iaddN X dL_areClaimsSo_182 ?_
                          refine g_v (y := nI (rfC lo hi P n (k2 + 1))) (by rw [rf_f (by rw [hv]; decide), Nat.add_zero]) ?_
                          refine g_istore_n (lv' := [(2, .int (nI (rfC lo hi P n (k2 + 1)))), (9, .int (nI i2)), (8, .int (nI 1)), (7, .int (nI 1)), (6, .int (zI (exV lo hi P n k2))), (5, .int (zI (vdV lo hi P n k2))), (4, .int (nI k2)), (3, .int (nI 1)), (1, .int (nI n)), (0, .ref cj)]) X dL_areClaimsSo_183 rfl (by decide) rfl ?_
                          refine g_iload_n X dL_areClaimsSo_184 7 rfl rfl ?_
                          refine g_if_eqN (tgt := 406) X dL_areClaimsSo_185 (by decide) (by omega) (fun c185 => ?_) (fun c185 => ?_)
                          · exact absurd c185 (by decide)
                          · refine g_iload X dL_areClaimsSo_188 2 rfl ?_
                            refine g_if_eqN (tgt := 406) X dL_areClaimsSo_190 (by decide) (by omega) (fun c190 => ?_) (fun c190 => ?_)
                            · exact absurd c190 (by decide)
                            · refine g_aload_n X dL_areClaimsSo_193 9 rfl rfl ?_
                              refine g_iload X dL_areClaimsSo_194 6 rfl ?_
                              refine g_callV (As := [.int (nI k2)]) (rest := []) (wr := []) X (Cc_X6_kind l v cj hC3 hW hL k2 c30) f_X6_kind q_20_4 dL_areClaimsSo_196 [0] [] rfl rfl (by decide) 0 hq3 rfl rfl rfl (Nat.le_of_ble_eq_true rfl) (by decide) (fun r_ w_ hp74 => ?_)
                              obtain ⟨rfl, wk73, hCk73, rfl⟩ := hp74
                              obtain ⟨fsk73, hqk73⟩ := IC9_hd hCk73
                              show GG k _ _ [wk73] _ _ [.int (nI ((P k2).1))]
                              refine g_v (y := nI 2) (by rw [hk]) ?_
                              refine g_iconst (x := nI 1) X dL_areClaimsSo_199 (by decide +kernel) ?_
                              refine g_icmp_neN (tgt := 281) X dL_areClaimsSo_200 (by decide) (by omega) (by omega) (fun c200 => ?_) (fun c200 => ?_)
                              · refine g_iload X dL_areClaimsSo_281 5 rfl ?_
                                refine g_v (y := zI (-1)) (by rw [hv]) ?_
                                refine g_iconst (x := zI (-1)) X dL_areClaimsSo_283 (by decide +kernel) ?_
                                refine g_icmp_ne (tgt := 406) X dL_areClaimsSo_284 (by decide) (fun c284 => ?_) (fun c284 => ?_)
                                · rw [zI_inj (by omega) (by omega) (by omega) (by omega)] at c284
                                  exact absurd rfl c284
                                · rw [zI_inj (by omega) (by omega) (by omega) (by omega)] at c284
                                  refine g_iload X dL_areClaimsSo_287 4 rfl ?_
                                  refine g_v (y := zI (-1)) (by rw [hx]) ?_
                                  refine g_iconst (x := zI (-1)) X dL_areClaimsSo_289 (by decide +kernel) ?_
                                  refine g_icmp_ne (tgt := 406) X dL_areClaimsSo_290 (by decide) (fun c290 => ?_) (fun c290 => ?_)
                                  · rw [zI_inj (by omega) (by omega) (by omega) (by omega)] at c290
                                    exact absurd rfl c290
                                  · rw [zI_inj (by omega) (by omega) (by omega) (by omega)] at c290
                                    refine g_aload_n X dL_areClaimsSo_293 9 rfl rfl ?_
                                    refine g_iload X dL_areClaimsSo_294 6 rfl ?_
                                    refine g_callV (As := [.int (nI k2)]) (rest := []) (wr := []) X (Cc_X6_kind l v cj hCk73 hW hL k2 c30) f_X6_kind q_20_4 dL_areClaimsSo_296 [0] [] rfl rfl (by decide) 0 hqk73 rfl rfl rfl (Nat.le_of_ble_eq_true rfl) (by decide) (fun r_ w_ hp76 => ?_)
                                    obtain ⟨rfl, wk75, hCk75, rfl⟩ := hp76
                                    obtain ⟨fsk75, hqk75⟩ := IC9_hd hCk75
                                    show GG k _ _ [wk75] _ _ [.int (nI ((P k2).1))]
                                    refine g_v (y := nI 2) (by rw [hk]) ?_
                                    refine g_iconst (x := nI 2) X dL_areClaimsSo_299 (by decide +kernel) ?_
                                    refine g_icmp_neN (tgt := 350) X dL_areClaimsSo_300 (by decide) (by omega) (by omega) (fun c300 => ?_) (fun c300 => ?_)
                                    · exact absurd c300 (by decide)
                                    · refine g_aload_n X dL_areClaimsSo_303 9 rfl rfl ?_
                                      refine g_iload X dL_areClaimsSo_304 6 rfl ?_
                                      refine g_callV (As := [.int (nI k2)]) (rest := []) (wr := []) X (Cc_X6_target l v cj hCk75 hW hL k2 c30) f_X6_target q_20_8 dL_areClaimsSo_306 [0] [] rfl rfl (by decide) 0 hqk75 rfl rfl rfl (Nat.le_of_ble_eq_true rfl) (by decide) (fun r_ w_ hp78 => ?_)
                                      obtain ⟨rfl, wk77, hCk77, rfl⟩ := hp78
                                      obtain ⟨fsk77, hqk77⟩ := IC9_hd hCk77
                                      show GG k _ _ [wk77] _ _ [.int (zI (tg9 (P k2)))]
                                      refine g_v (y := nI ((P k2).2.2.2.2.toNat)) (by rw [g3, zI_nI]) ?_
                                      refine g_if_ltN (tgt := 406) X dL_areClaimsSo_309 (by decide) (by omega) ?_
                                      refine g_aload_n X dL_areClaimsSo_312 9 rfl rfl ?_
                                      refine g_iload X dL_areClaimsSo_313 6 rfl ?_
                                      refine g_callV (As := [.int (nI k2)]) (rest := []) (wr := []) X (Cc_X6_target l v cj hCk77 hW hL k2 c30) f_X6_target q_20_8 dL_areClaimsSo_315 [0] [] rfl rfl (by decide) 0 hqk77 rfl rfl rfl (Nat.le_of_ble_eq_true rfl) (by decide) (fun r_ w_ hp80 => ?_)
                                      obtain ⟨rfl, wk79, hCk79, rfl⟩ := hp80
                                      obtain ⟨fsk79, hqk79⟩ := IC9_hd hCk79
                                      show GG k _ _ [wk79] _ _ [.int (zI (tg9 (P k2)))]
                                      refine g_v (y := nI ((P k2).2.2.2.2.toNat)) (by rw [g3, zI_nI]) ?_
                                      refine g_iload_n X dL_areClaimsSo_318 8 rfl rfl ?_
                                      refine g_icmp_gtN (tgt := 406) X dL_areClaimsSo_319 (by decide) (by omega) (by omega) (fun c319 => ?_) (fun c319 => ?_)
                                      · exact absurd c319 (by omega)
                                      · refine g_aload_n X dL_areClaimsSo_322 9 rfl rfl ?_
                                        refine g_iload X dL_areClaimsSo_323 6 rfl ?_
                                        refine g_callV (As := [.int (nI k2)]) (rest := []) (wr := []) X (Cc_X6_demand l v cj hCk79 hW hL k2 (by omega)) f_X6_demand q_20_12 dL_areClaimsSo_325 [0] [] rfl rfl (by decide) 0 hqk79 rfl rfl rfl (Nat.le_of_ble_eq_true rfl) (by decide) (fun r_ w_ hp82 => ?_)
                                        obtain ⟨rfl, wk81, hCk81, rfl⟩ := hp82
                                        obtain ⟨fsk81, hqk81⟩ := IC9_hd hCk81
                                        show GG k _ _ [wk81] _ _ [.int (nI (dmV P n k2))]
                                        refine g_aload_n X dL_areClaimsSo_328 9 rfl rfl ?_
                                        refine g_iload X dL_areClaimsSo_329 6 rfl ?_
                                        refine g_iconst (x := nI 1) X dL_areClaimsSo_331 (by decide +kernel) ?_
                                        refine g_iaddN X dL_areClaimsSo_332 ?_
                                        refine g_callV (As := [.int (nI (k2 + 1))]) (rest := [.int (nI (dmV P n k2))]) (wr := []) X (Cc_X6_demand l v cj hCk81 hW hL (k2 + 1) (by omega)) f_X6_demand q_20_12 dL_areClaimsSo_333 [0] [] rfl rfl (by decide) 0 hqk81 rfl rfl rfl (Nat.le_of_ble_eq_true rfl) (by decide) (fun r_ w_ hp84 => ?_)
                                        obtain ⟨rfl, wk83, hCk83, rfl⟩ := hp84
                                        obtain ⟨fsk83, hqk83⟩ := IC9_hd hCk83
                                        show GG k _ _ [wk83] _ _ [.int (nI (dmV P n (k2 + 1))), .int (nI (dmV P n k2))]
                                        refine g_aload_n X dL_areClaimsSo_336 9 rfl rfl ?_
                                        refine g_aload_n X dL_areClaimsSo_337 9 rfl rfl ?_
                                        refine g_iload X dL_areClaimsSo_338 6 rfl ?_
                                        refine g_callV (As := [.int (nI k2)]) (rest := [.ref cj, .int (nI (dmV P n (k2 + 1))), .int (nI (dmV P n k2))]) (wr := []) X (Cc_X6_target l v cj hCk83 hW hL k2 c30) f_X6_target q_20_8 dL_areClaimsSo_340 [0] [] rfl rfl (by decide) 0 hqk83 rfl rfl rfl (Nat.le_of_ble_eq_true rfl) (by decide) (fun r_ w_ hp86 => ?_)
                                        obtain ⟨rfl, wk85, hCk85, rfl⟩ := hp86
                                        obtain ⟨fsk85, hqk85⟩ := IC9_hd hCk85
                                        show GG k _ _ [wk85] _ _ [.int (zI (tg9 (P k2))), .ref cj, .int (nI (dmV P n (k2 + 1))), .int (nI (dmV P n k2))]
                                        refine g_v (y := nI ((P k2).2.2.2.2.toNat)) (by rw [g3, zI_nI]) ?_
                                        refine g_callV (As := [.int (nI ((P k2).2.2.2.2.toNat))]) (rest := [.int (nI (dmV P n (k2 + 1))), .int (nI (dmV P n k2))]) (wr := []) X (Cc_X6_demand l v cj hCk85 hW hL ((P k2).2.2.2.2.toNat) (by omega)) f_X6_demand q_20_12 dL_areClaimsSo_343 [0] [] rfl rfl (by decide) 0 hqk85 rfl rfl rfl (Nat.le_of_ble_eq_true rfl) (by decide) (fun r_ w_ hp88 => ?_)
                                        obtain ⟨rfl, wk87, hCk87, rfl⟩ := hp88
                                        obtain ⟨fsk87, hqk87⟩ := IC9_hd hCk87
                                        show GG k _ _ [wk87] _ _ [.int (nI (dmV P n ((P k2).2.2.2.2.toNat))), .int (nI (dmV P n (k2 + 1))), .int (nI (dmV P n k2))]
                                        refine g_iaddN X dL_areClaimsSo_346 ?_
                                        refine g_icmp_gtN (tgt := 406) X dL_areClaimsSo_347 (by decide) (by have := dm_le (P := P) (n := n) k2; have := dm_le (P := P) (n := n) (k2 + 1); have := dm_le (P := P) (n := n) (P k2).2.2.2.2.toNat; omega) (by have := dm_le (P := P) (n := n) k2; have := dm_le (P := P) (n := n) (k2 + 1); have := dm_le (P := P) (n := n) (P k2).2.2.2.2.toNat; omega) (fun c347 => ?_) (fun c347 => ?_)
                                        · exact absurd (dm_jump hW c30 hk) (by omega)
                                        · refine g_aload_n X dL_areClaimsSo_350 9 rfl rfl ?_
                                          refine g_iload X dL_areClaimsSo_351 6 rfl ?_
                                          refine g_callV (As := [.int (nI k2)]) (rest := []) (wr := []) X (Cc_X6_kind l v cj hCk87 hW hL k2 c30) f_X6_kind q_20_4 dL_areClaimsSo_353 [0] [] rfl rfl (by decide) 0 hqk87 rfl rfl rfl (Nat.le_of_ble_eq_true rfl) (by decide) (fun r_ w_ hp90 => ?_)
                                          obtain ⟨rfl, wk89, hCk89, rfl⟩ := hp90
                                          obtain ⟨fsk89, hqk89⟩ := IC9_hd hCk89
                                          show GG k _ _ [wk89] _ _ [.int (nI ((P k2).1))]
                                          refine g_v (y := nI 2) (by rw [hk]) ?_
                                          refine g_iconst (x := nI 2) X dL_areClaimsSo_356 (by decide +kernel) ?_
                                          refine g_icmp_eqN (tgt := 370) X dL_areClaimsSo_357 (by decide) (by omega) (by omega) (fun c357 => ?_) (fun c357 => ?_)
                                          · refine g_iload X dL_areClaimsSo_370 4 rfl ?_
                                            refine g_v (y := zI (-1)) (by rw [hx]) ?_
                                            refine g_if_lt (tgt := 402) X dL_areClaimsSo_372 (by decide) (fun c372 => ?_) (fun c372 => ?_)
                                            · refine g_iconst (x := nI 1) X dL_areClaimsSo_402 (by decide +kernel) ?_
                                              refine g_goto (tgt := 407) X dL_areClaimsSo_403 (by decide) ?_
                                              refine g_istore_n (lv' := [(3, .int (nI 1)), (2, .int (nI (rfC lo hi P n (k2 + 1)))), (9, .int (nI i2)), (8, .int (nI 1)), (7, .int (nI 1)), (6, .int (zI (exV lo hi P n k2))), (5, .int (zI (vdV lo hi P n k2))), (4, .int (nI k2)), (1, .int (nI n)), (0, .ref cj)]) X dL_areClaimsSo_407 rfl (by decide) rfl ?_
                                              refine g_iinc (y := nI (k2 + 1)) (lv' := [(4, .int (nI (k2 + 1))), (3, .int (nI 1)), (2, .int (nI (rfC lo hi P n (k2 + 1)))), (9, .int (nI i2)), (8, .int (nI 1)), (7, .int (nI 1)), (6, .int (zI (exV lo hi P n k2))), (5, .int (zI (vdV lo hi P n k2))), (1, .int (nI n)), (0, .ref cj)]) (j := 7) X dL_areClaimsSo_408 rfl (nI_add k2 1) (by decide) rfl ?_
                                              refine g_goto (tgt := 27) X dL_areClaimsSo_411 (by decide) ?_
                                              refine g_lv (lv' := [(4, .int (nI (k2 + 1))), (3, .int (nI 1)), (2, .int (nI (rfC lo hi P n (k2 + 1)))), (1, .int (nI n)), (0, .ref cj)]) [0, 1, 2, 8, 9] rfl ?_
                                              exact ih27 _ (by omega) (k2 + 1) wk89 _ (by omega) hCk89 hqk89 rfl
                                            · exact absurd c372 (by decide)
                                          · exact absurd c357 (by decide)
                              · exact absurd c200 (by decide)
                        · rw [zI_nI 2, zI_inj (by omega) (by omega) (by omega) (by omega)] at c174
                          exact absurd c174 (by omega)
                      · have hk : (P k2).1 = 0 := by omega
                        refine g_iload_n X dL_areClaimsSo_170 7 rfl rfl ?_
                        refine g_iload X dL_areClaimsSo_171 4 rfl ?_
                        refine g_v (y := zI (-1)) (by rw [hv]) ?_
                        refine g_iconst (x := nI 2) X dL_areClaimsSo_173 (by decide +kernel) ?_
                        refine g_icmp_ne (tgt := 181) X dL_areClaimsSo_174 (by decide) (fun c174 => ?_) (fun c174 => ?_)
                        · rw [zI_nI 2, zI_inj (by omega) (by omega) (by omega) (by omega)] at c174
                          refine g_iconst (x := nI 0) X dL_areClaimsSo_181 (by decide +kernel) ?_
                          refine g_iaddN X dL_areClaimsSo_182 ?_
                          refine g_v (y := nI (rfC lo hi P n (k2 + 1))) (by rw [rf_f (by rw [hv]; decide), Nat.add_zero]) ?_
                          refine g_istore_n (lv' := [(2, .int (nI (rfC lo hi P n (k2 + 1)))), (9, .int (nI i2)), (8, .int (nI 1)), (7, .int (nI 1)), (6, .int (zI (exV lo hi P n k2))), (5, .int (zI (vdV lo hi P n k2))), (4, .int (nI k2)), (3, .int (nI 1)), (1, .int (nI n)), (0, .ref cj)]) X dL_areClaimsSo_183 rfl (by decide) rfl ?_
                          refine g_iload_n X dL_areClaimsSo_184 7 rfl rfl ?_
                          refine g_if_eqN (tgt := 406) X dL_areClaimsSo_185 (by decide) (by omega) (fun c185 => ?_) (fun c185 => ?_)
                          · exact absurd c185 (by decide)
                          · refine g_iload X dL_areClaimsSo_188 2 rfl ?_
                            refine g_if_eqN (tgt := 406) X dL_areClaimsSo_190 (by decide) (by omega) (fun c190 => ?_) (fun c190 => ?_)
                            · exact absurd c190 (by decide)
                            · refine g_aload_n X dL_areClaimsSo_193 9 rfl rfl ?_
                              refine g_iload X dL_areClaimsSo_194 6 rfl ?_
                              refine g_callV (As := [.int (nI k2)]) (rest := []) (wr := []) X (Cc_X6_kind l v cj hC3 hW hL k2 c30) f_X6_kind q_20_4 dL_areClaimsSo_196 [0] [] rfl rfl (by decide) 0 hq3 rfl rfl rfl (Nat.le_of_ble_eq_true rfl) (by decide) (fun r_ w_ hp92 => ?_)
                              obtain ⟨rfl, wk91, hCk91, rfl⟩ := hp92
                              obtain ⟨fsk91, hqk91⟩ := IC9_hd hCk91
                              show GG k _ _ [wk91] _ _ [.int (nI ((P k2).1))]
                              refine g_v (y := nI 0) (by rw [hk]) ?_
                              refine g_iconst (x := nI 1) X dL_areClaimsSo_199 (by decide +kernel) ?_
                              refine g_icmp_neN (tgt := 281) X dL_areClaimsSo_200 (by decide) (by omega) (by omega) (fun c200 => ?_) (fun c200 => ?_)
                              · refine g_iload X dL_areClaimsSo_281 5 rfl ?_
                                refine g_v (y := zI (-1)) (by rw [hv]) ?_
                                refine g_iconst (x := zI (-1)) X dL_areClaimsSo_283 (by decide +kernel) ?_
                                refine g_icmp_ne (tgt := 406) X dL_areClaimsSo_284 (by decide) (fun c284 => ?_) (fun c284 => ?_)
                                · rw [zI_inj (by omega) (by omega) (by omega) (by omega)] at c284
                                  exact absurd rfl c284
                                · rw [zI_inj (by omega) (by omega) (by omega) (by omega)] at c284
                                  refine g_iload X dL_areClaimsSo_287 4 rfl ?_
                                  refine g_v (y := zI (-1)) (by rw [hx]) ?_
                                  refine g_iconst (x := zI (-1)) X dL_areClaimsSo_289 (by decide +kernel) ?_
                                  refine g_icmp_ne (tgt := 406) X dL_areClaimsSo_290 (by decide) (fun c290 => ?_) (fun c290 => ?_)
                                  · rw [zI_inj (by omega) (by omega) (by omega) (by omega)] at c290
                                    exact absurd rfl c290
                                  · rw [zI_inj (by omega) (by omega) (by omega) (by omega)] at c290
                                    refine g_aload_n X dL_areClaimsSo_293 9 rfl rfl ?_
                                    refine g_iload X dL_areClaimsSo_294 6 rfl ?_
                                    refine g_callV (As := [.int (nI k2)]) (rest := []) (wr := []) X (Cc_X6_kind l v cj hCk91 hW hL k2 c30) f_X6_kind q_20_4 dL_areClaimsSo_296 [0] [] rfl rfl (by decide) 0 hqk91 rfl rfl rfl (Nat.le_of_ble_eq_true rfl) (by decide) (fun r_ w_ hp94 => ?_)
                                    obtain ⟨rfl, wk93, hCk93, rfl⟩ := hp94
                                    obtain ⟨fsk93, hqk93⟩ := IC9_hd hCk93
                                    show GG k _ _ [wk93] _ _ [.int (nI ((P k2).1))]
                                    refine g_v (y := nI 0) (by rw [hk]) ?_
                                    refine g_iconst (x := nI 2) X dL_areClaimsSo_299 (by decide +kernel) ?_
                                    refine g_icmp_neN (tgt := 350) X dL_areClaimsSo_300 (by decide) (by omega) (by omega) (fun c300 => ?_) (fun c300 => ?_)
                                    · refine g_aload_n X dL_areClaimsSo_350 9 rfl rfl ?_
                                      refine g_iload X dL_areClaimsSo_351 6 rfl ?_
                                      refine g_callV (As := [.int (nI k2)]) (rest := []) (wr := []) X (Cc_X6_kind l v cj hCk93 hW hL k2 c30) f_X6_kind q_20_4 dL_areClaimsSo_353 [0] [] rfl rfl (by decide) 0 hqk93 rfl rfl rfl (Nat.le_of_ble_eq_true rfl) (by decide) (fun r_ w_ hp96 => ?_)
                                      obtain ⟨rfl, wk95, hCk95, rfl⟩ := hp96
                                      obtain ⟨fsk95, hqk95⟩ := IC9_hd hCk95
                                      show GG k _ _ [wk95] _ _ [.int (nI ((P k2).1))]
                                      refine g_v (y := nI 0) (by rw [hk]) ?_
                                      refine g_iconst (x := nI 2) X dL_areClaimsSo_356 (by decide +kernel) ?_
                                      refine g_icmp_eqN (tgt := 370) X dL_areClaimsSo_357 (by decide) (by omega) (by omega) (fun c357 => ?_) (fun c357 => ?_)
                                      · exact absurd c357 (by decide)
                                      · refine g_aload_n X dL_areClaimsSo_360 9 rfl rfl ?_
                                        refine g_iload X dL_areClaimsSo_361 6 rfl ?_
                                        refine g_callV (As := [.int (nI k2)]) (rest := []) (wr := []) X (Cc_X6_target l v cj hCk95 hW hL k2 c30) f_X6_target q_20_8 dL_areClaimsSo_363 [0] [] rfl rfl (by decide) 0 hqk95 rfl rfl rfl (Nat.le_of_ble_eq_true rfl) (by decide) (fun r_ w_ hp98 => ?_)
                                        obtain ⟨rfl, wk97, hCk97, rfl⟩ := hp98
                                        obtain ⟨fsk97, hqk97⟩ := IC9_hd hCk97
                                        show GG k _ _ [wk97] _ _ [.int (zI (tg9 (P k2)))]
                                        refine g_v (y := zI (-1)) (by rw [tg_kind (by omega)]) ?_
                                        refine g_iconst (x := zI (-1)) X dL_areClaimsSo_366 (by decide +kernel) ?_
                                        refine g_icmp_ne (tgt := 406) X dL_areClaimsSo_367 (by decide) (fun c367 => ?_) (fun c367 => ?_)
                                        · rw [zI_inj (by omega) (by omega) (by omega) (by omega)] at c367
                                          exact absurd rfl c367
                                        · rw [zI_inj (by omega) (by omega) (by omega) (by omega)] at c367
                                          refine g_iload X dL_areClaimsSo_370 4 rfl ?_
                                          refine g_v (y := zI (-1)) (by rw [hx]) ?_
                                          refine g_if_lt (tgt := 402) X dL_areClaimsSo_372 (by decide) (fun c372 => ?_) (fun c372 => ?_)
                                          · refine g_iconst (x := nI 1) X dL_areClaimsSo_402 (by decide +kernel) ?_
                                            refine g_goto (tgt := 407) X dL_areClaimsSo_403 (by decide) ?_
                                            refine g_istore_n (lv' := [(3, .int (nI 1)), (2, .int (nI (rfC lo hi P n (k2 + 1)))), (9, .int (nI i2)), (8, .int (nI 1)), (7, .int (nI 1)), (6, .int (zI (exV lo hi P n k2))), (5, .int (zI (vdV lo hi P n k2))), (4, .int (nI k2)), (1, .int (nI n)), (0, .ref cj)]) X dL_areClaimsSo_407 rfl (by decide) rfl ?_
                                            refine g_iinc (y := nI (k2 + 1)) (lv' := [(4, .int (nI (k2 + 1))), (3, .int (nI 1)), (2, .int (nI (rfC lo hi P n (k2 + 1)))), (9, .int (nI i2)), (8, .int (nI 1)), (7, .int (nI 1)), (6, .int (zI (exV lo hi P n k2))), (5, .int (zI (vdV lo hi P n k2))), (1, .int (nI n)), (0, .ref cj)]) (j := 7) X dL_areClaimsSo_408 rfl (nI_add k2 1) (by decide) rfl ?_
                                            refine g_goto (tgt := 27) X dL_areClaimsSo_411 (by decide) ?_
                                            refine g_lv (lv' := [(4, .int (nI (k2 + 1))), (3, .int (nI 1)), (2, .int (nI (rfC lo hi P n (k2 + 1)))), (1, .int (nI n)), (0, .ref cj)]) [0, 1, 2, 8, 9] rfl ?_
                                            exact ih27 _ (by omega) (k2 + 1) wk97 _ (by omega) hCk97 hqk97 rfl
                                          · exact absurd c372 (by decide)
                                    · exact absurd c300 (by decide)
                              · exact absurd c200 (by decide)
                        · rw [zI_nI 2, zI_inj (by omega) (by omega) (by omega) (by omega)] at c174
                          exact absurd c174 (by omega)
                  · have hmn := mn_rd (lo := lo) (hi := hi) (P := P) (n := n) k2 i2
                    have hmx := mx_rd (lo := lo) (hi := hi) (P := P) (n := n) k2 i2
                    have hmm := mn_mx (lo := lo) (hi := hi) (P := P) (n := n) k2 i2
                    refine g_iload X dL_areClaimsSo_78 1 rfl ?_
                    refine g_if_eqN (tgt := 161) X dL_areClaimsSo_80 (by decide) (by omega) (fun c80 => ?_) (fun c80 => ?_)
                    · exact absurd c80 (by decide)
                    · refine g_aload_n X dL_areClaimsSo_83 9 rfl rfl ?_
                      refine g_iload X dL_areClaimsSo_84 5 rfl ?_
                      refine g_iload X dL_areClaimsSo_86 0 rfl ?_
                      refine g_callV (As := [.int (nI k2), .int (nI i2)]) (rest := []) (wr := []) X (Cc_X6_least l v cj hC3 hW hL k2 i2 (by omega) (by omega)) f_X6_least q_21_10 dL_areClaimsSo_88 [0] [] rfl rfl (by decide) 0 hq3 rfl rfl rfl (Nat.le_of_ble_eq_true rfl) (by decide) (fun r_ w_ hp100 => ?_)
                      obtain ⟨rfl, wk99, hCk99, rfl⟩ := hp100
                      obtain ⟨fsk99, hqk99⟩ := IC9_hd hCk99
                      show GG k _ _ [wk99] _ _ [.int (zI (mnV lo hi P n k2 i2))]
                      refine g_if_lt (tgt := 98) X dL_areClaimsSo_91 (by decide) (fun c91 => ?_) (fun c91 => ?_)
                      · rw [zI_lt0 (by omega) (by omega)] at c91
                        exact absurd (hmn.1.mpr hrd) (by omega)
                      · rw [zI_lt0 (by omega) (by omega)] at c91
                        refine g_iconst (x := nI 1) X dL_areClaimsSo_94 (by decide +kernel) ?_
                        refine g_goto (tgt := 99) X dL_areClaimsSo_95 (by decide) ?_
                        refine g_iload X dL_areClaimsSo_99 2 rfl ?_
                        refine g_icmp_neN (tgt := 161) X dL_areClaimsSo_101 (by decide) (by omega) (by omega) (fun c101 => ?_) (fun c101 => ?_)
                        · exact absurd c101 (by decide)
                        · refine g_aload_n X dL_areClaimsSo_104 9 rfl rfl ?_
                          refine g_iload X dL_areClaimsSo_105 5 rfl ?_
                          refine g_iload X dL_areClaimsSo_107 0 rfl ?_
                          refine g_callV (As := [.int (nI k2), .int (nI i2)]) (rest := []) (wr := []) X (Cc_X6_greatest l v cj hCk99 hW hL k2 i2 (by omega) (by omega)) f_X6_greatest q_21_14 dL_areClaimsSo_109 [0] [] rfl rfl (by decide) 0 hqk99 rfl rfl rfl (Nat.le_of_ble_eq_true rfl) (by decide) (fun r_ w_ hp102 => ?_)
                          obtain ⟨rfl, wk101, hCk101, rfl⟩ := hp102
                          obtain ⟨fsk101, hqk101⟩ := IC9_hd hCk101
                          show GG k _ _ [wk101] _ _ [.int (zI (mxV lo hi P n k2 i2))]
                          refine g_if_lt (tgt := 119) X dL_areClaimsSo_112 (by decide) (fun c112 => ?_) (fun c112 => ?_)
                          · rw [zI_lt0 (by omega) (by omega)] at c112
                            exact absurd (hmx.1.mpr hrd) (by omega)
                          · rw [zI_lt0 (by omega) (by omega)] at c112
                            refine g_iconst (x := nI 1) X dL_areClaimsSo_115 (by decide +kernel) ?_
                            refine g_goto (tgt := 120) X dL_areClaimsSo_116 (by decide) ?_
                            refine g_iload X dL_areClaimsSo_120 2 rfl ?_
                            refine g_icmp_neN (tgt := 161) X dL_areClaimsSo_122 (by decide) (by omega) (by omega) (fun c122 => ?_) (fun c122 => ?_)
                            · exact absurd c122 (by decide)
                            · refine g_aload_n X dL_areClaimsSo_125 9 rfl rfl ?_
                              refine g_iload X dL_areClaimsSo_126 5 rfl ?_
                              refine g_iload X dL_areClaimsSo_128 0 rfl ?_
                              refine g_callV (As := [.int (nI k2), .int (nI i2)]) (rest := []) (wr := []) X (Cc_X6_least l v cj hCk101 hW hL k2 i2 (by omega) (by omega)) f_X6_least q_21_10 dL_areClaimsSo_130 [0] [] rfl rfl (by decide) 0 hqk101 rfl rfl rfl (Nat.le_of_ble_eq_true rfl) (by decide) (fun r_ w_ hp104 => ?_)
                              obtain ⟨rfl, wk103, hCk103, rfl⟩ := hp104
                              obtain ⟨fsk103, hqk103⟩ := IC9_hd hCk103
                              show GG k _ _ [wk103] _ _ [.int (zI (mnV lo hi P n k2 i2))]
                              refine g_aload_n X dL_areClaimsSo_133 9 rfl rfl ?_
                              refine g_iload X dL_areClaimsSo_134 5 rfl ?_
                              refine g_iload X dL_areClaimsSo_136 0 rfl ?_
                              refine g_callV (As := [.int (nI k2), .int (nI i2)]) (rest := [.int (zI (mnV lo hi P n k2 i2))]) (wr := []) X (Cc_X6_greatest l v cj hCk103 hW hL k2 i2 (by omega) (by omega)) f_X6_greatest q_21_14 dL_areClaimsSo_138 [0] [] rfl rfl (by decide) 0 hqk103 rfl rfl rfl (Nat.le_of_ble_eq_true rfl) (by decide) (fun r_ w_ hp106 => ?_)
                              obtain ⟨rfl, wk105, hCk105, rfl⟩ := hp106
                              obtain ⟨fsk105, hqk105⟩ := IC9_hd hCk105
                              show GG k _ _ [wk105] _ _ [.int (zI (mxV lo hi P n k2 i2)), .int (zI (mnV lo hi P n k2 i2))]
                              refine g_icmp_gt (tgt := 161) X dL_areClaimsSo_141 (by decide) (fun c141 => ?_) (fun c141 => ?_)
                              · rw [zI_lt (by omega) (by omega) (by omega) (by omega)] at c141
                                exact absurd c141 (by omega)
                              · rw [zI_lt (by omega) (by omega) (by omega) (by omega)] at c141
                                refine g_aload_n X dL_areClaimsSo_144 9 rfl rfl ?_
                                refine g_iload X dL_areClaimsSo_145 5 rfl ?_
                                refine g_iload X dL_areClaimsSo_147 0 rfl ?_
                                refine g_callV (As := [.int (nI k2), .int (nI i2)]) (rest := []) (wr := []) X (Cc_X6_greatest l v cj hCk105 hW hL k2 i2 (by omega) (by omega)) f_X6_greatest q_21_14 dL_areClaimsSo_149 [0] [] rfl rfl (by decide) 0 hqk105 rfl rfl rfl (Nat.le_of_ble_eq_true rfl) (by decide) (fun r_ w_ hp108 => ?_)
                                obtain ⟨rfl, wk107, hCk107, rfl⟩ := hp108
                                obtain ⟨fsk107, hqk107⟩ := IC9_hd hCk107
                                show GG k _ _ [wk107] _ _ [.int (zI (mxV lo hi P n k2 i2))]
                                refine g_bipush (x := nI 8) X dL_areClaimsSo_152 (by decide +kernel) ?_
                                refine g_icmp_ge (tgt := 161) X dL_areClaimsSo_154 (by decide) (fun c154 => ?_) (fun c154 => ?_)
                                · rw [zI_nI 8, zI_le (by omega) (by omega) (by omega) (by omega)] at c154
                                  exact absurd c154 (by omega)
                                · rw [zI_nI 8, zI_le (by omega) (by omega) (by omega) (by omega)] at c154
                                  refine g_iconst (x := nI 1) X dL_areClaimsSo_157 (by decide +kernel) ?_
                                  refine g_goto (tgt := 162) X dL_areClaimsSo_158 (by decide) ?_
                                  refine g_istore (lv' := [(8, .int (nI 1)), (9, .int (nI i2)), (7, .int (nI 1)), (6, .int (zI (exV lo hi P n k2))), (5, .int (zI (vdV lo hi P n k2))), (4, .int (nI k2)), (3, .int (nI 1)), (2, .int (nI (rfC lo hi P n k2))), (1, .int (nI n)), (0, .ref cj)]) X dL_areClaimsSo_162 (by decide) rfl ?_
                                  refine g_iinc (y := nI (i2 + 1)) (lv' := [(9, .int (nI (i2 + 1))), (8, .int (nI 1)), (7, .int (nI 1)), (6, .int (zI (exV lo hi P n k2))), (5, .int (zI (vdV lo hi P n k2))), (4, .int (nI k2)), (3, .int (nI 1)), (2, .int (nI (rfC lo hi P n k2))), (1, .int (nI n)), (0, .ref cj)]) (j := 1) X dL_areClaimsSo_164 rfl (nI_add i2 1) (by decide) rfl ?_
                                  refine g_goto (tgt := 72) X dL_areClaimsSo_167 (by decide) ?_
                                  exact ih72 _ (by omega) (i2 + 1) wk107 _ (by omega) hCk107 hqk107 rfl
              exact lp72 _ 0 wk45 _ (by omega) hCk45 hqk45 rfl
          · refine g_aload_n X dL_areClaimsSo_33 4 rfl rfl ?_
            refine g_iload X dL_areClaimsSo_34 0 rfl ?_
            refine g_callV (As := [.int (nI k2)]) (rest := []) (wr := []) X (Cc_X6_verdict l v cj hC2 hW hL k2 c30) f_X6_verdict q_20_22 dL_areClaimsSo_36 [0] [] rfl rfl (by decide) 0 hq2 rfl rfl rfl (Nat.le_of_ble_eq_true rfl) (by decide) (fun r_ w_ hp110 => ?_)
            obtain ⟨rfl, wk109, hCk109, rfl⟩ := hp110
            obtain ⟨fsk109, hqk109⟩ := IC9_hd hCk109
            show GG k _ _ [wk109] _ _ [.int (zI (vdV lo hi P n k2))]
            refine g_istore (lv' := [(5, .int (zI (vdV lo hi P n k2))), (4, .int (nI k2)), (3, .int (nI 1)), (2, .int (nI (rfC lo hi P n k2))), (1, .int (nI n)), (0, .ref cj)]) X dL_areClaimsSo_39 (by decide) rfl ?_
            refine g_aload_n X dL_areClaimsSo_41 5 rfl rfl ?_
            refine g_iload X dL_areClaimsSo_42 1 rfl ?_
            refine g_callV (As := [.int (nI k2)]) (rest := []) (wr := []) X (Cc_X6_example l v cj hCk109 hW hL k2 c30) f_X6_example q_21_6 dL_areClaimsSo_44 [0] [] rfl rfl (by decide) 0 hqk109 rfl rfl rfl (Nat.le_of_ble_eq_true rfl) (by decide) (fun r_ w_ hp112 => ?_)
            obtain ⟨rfl, wk111, hCk111, rfl⟩ := hp112
            obtain ⟨fsk111, hqk111⟩ := IC9_hd hCk111
            show GG k _ _ [wk111] _ _ [.int (zI (exV lo hi P n k2))]
            refine g_istore (lv' := [(6, .int (zI (exV lo hi P n k2))), (5, .int (zI (vdV lo hi P n k2))), (4, .int (nI k2)), (3, .int (nI 1)), (2, .int (nI (rfC lo hi P n k2))), (1, .int (nI n)), (0, .ref cj)]) X dL_areClaimsSo_47 (by decide) rfl ?_
            refine g_aload_n X dL_areClaimsSo_49 6 rfl rfl ?_
            refine g_iload X dL_areClaimsSo_50 2 rfl ?_
            refine g_iconst (x := nI 0) X dL_areClaimsSo_52 (by decide +kernel) ?_
            refine g_callV (As := [.int (nI k2), .int (nI 0)]) (rest := []) (wr := []) X (Cc_X6_least l v cj hCk111 hW hL k2 0 (by omega) (by omega)) f_X6_least q_21_10 dL_areClaimsSo_53 [0] [] rfl rfl (by decide) 0 hqk111 rfl rfl rfl (Nat.le_of_ble_eq_true rfl) (by decide) (fun r_ w_ hp114 => ?_)
            obtain ⟨rfl, wk113, hCk113, rfl⟩ := hp114
            obtain ⟨fsk113, hqk113⟩ := IC9_hd hCk113
            show GG k _ _ [wk113] _ _ [.int (zI (mnV lo hi P n k2 0))]
            refine g_if_lt (tgt := 63) X dL_areClaimsSo_56 (by decide) (fun c56 => ?_) (fun c56 => ?_)
            · rw [zI_lt0 (by omega) (by omega)] at c56
              refine g_iconst (x := nI 0) X dL_areClaimsSo_63 (by decide +kernel) ?_
              refine g_istore (lv' := [(7, .int (nI 0)), (6, .int (zI (exV lo hi P n k2))), (5, .int (zI (vdV lo hi P n k2))), (4, .int (nI k2)), (3, .int (nI 1)), (2, .int (nI (rfC lo hi P n k2))), (1, .int (nI n)), (0, .ref cj)]) X dL_areClaimsSo_64 (by decide) rfl ?_
              refine g_iconst (x := nI 1) X dL_areClaimsSo_66 (by decide +kernel) ?_
              refine g_istore (lv' := [(8, .int (nI 1)), (7, .int (nI 0)), (6, .int (zI (exV lo hi P n k2))), (5, .int (zI (vdV lo hi P n k2))), (4, .int (nI k2)), (3, .int (nI 1)), (2, .int (nI (rfC lo hi P n k2))), (1, .int (nI n)), (0, .ref cj)]) X dL_areClaimsSo_67 (by decide) rfl ?_
              refine g_iconst (x := nI 0) X dL_areClaimsSo_69 (by decide +kernel) ?_
              refine g_istore (lv' := [(9, .int (nI 0)), (8, .int (nI 1)), (7, .int (nI 0)), (6, .int (zI (exV lo hi P n k2))), (5, .int (zI (vdV lo hi P n k2))), (4, .int (nI k2)), (3, .int (nI 1)), (2, .int (nI (rfC lo hi P n k2))), (1, .int (nI n)), (0, .ref cj)]) X dL_areClaimsSo_70 (by decide) rfl ?_
              have lp72 : ∀ (zN : Nat) (i2 : Nat) (w3 : va_W) (fs3 : List Value) (hi2 : i2 ≤ 3) (hC3 : IC9 v cj P n lo hi H c tx ln w3) (hq3 : ([w3] : List va_W).flatten[0]? = some (cj, .inr (6, fs3))) (zM : zN = 3 - i2), GG k 0 0 [w3] [(9, .int (nI i2)), (8, .int (nI 1)), (7, .int (nI 0)), (6, .int (zI (exV lo hi P n k2))), (5, .int (zI (vdV lo hi P n k2))), (4, .int (nI k2)), (3, .int (nI 1)), (2, .int (nI (rfC lo hi P n k2))), (1, .int (nI n)), (0, .ref cj)] 72 [] := by
                intro zN
                induction zN using Nat.strongRecOn with
                | _ zN zih =>
                  have ih72 := zih
                  clear zih
                  intro i2 w3 fs3 hi2 hC3 hq3 zM
                  refine g_iload X dL_areClaimsSo_72 0 rfl ?_
                  refine g_iconst (x := nI 3) X dL_areClaimsSo_74 (by decide +kernel) ?_
                  refine g_icmp_geN (tgt := 170) X dL_areClaimsSo_75 (by decide) (by omega) (by omega) (fun c75 => ?_) (fun c75 => ?_)
                  · have hw3 := (hW.2 k2 c30).1
                    by_cases hk : (P k2).1 = 1
                    · obtain ⟨v1, v2, v3, v4⟩ := vd_claim (lo := lo) (hi := hi) (P := P) (n := n) hW c30 hk
                      by_cases hx : exV lo hi P n k2 = -1
                      · have hv2 : vdV lo hi P n k2 ≠ 2 := fun z => by have := v4.mp z; omega
                        have hv : vdV lo hi P n k2 = 0 := v3.mpr hrd
                        refine g_iload_n X dL_areClaimsSo_170 7 rfl rfl ?_
                        refine g_iload X dL_areClaimsSo_171 4 rfl ?_
                        refine g_v (y := nI 0) (by rw [hv]; rfl) ?_
                        refine g_iconst (x := nI 2) X dL_areClaimsSo_173 (by decide +kernel) ?_
                        refine g_icmp_neN (tgt := 181) X dL_areClaimsSo_174 (by decide) (by omega) (by omega) (fun c174 => ?_) (fun c174 => ?_)
                        · refine g_iconst (x := nI 0) X dL_areClaimsSo_181 (by decide +kernel) ?_
                          refine g_iaddN X dL_areClaimsSo_182 ?_
                          refine g_v (y := nI (rfC lo hi P n (k2 + 1))) (by rw [rf_f (by rw [hv]; decide), Nat.add_zero]) ?_
                          refine g_istore_n (lv' := [(2, .int (nI (rfC lo hi P n (k2 + 1)))), (9, .int (nI i2)), (8, .int (nI 1)), (7, .int (nI 0)), (6, .int (zI (exV lo hi P n k2))), (5, .int (zI (vdV lo hi P n k2))), (4, .int (nI k2)), (3, .int (nI 1)), (1, .int (nI n)), (0, .ref cj)]) X dL_areClaimsSo_183 rfl (by decide) rfl ?_
                          refine g_iload_n X dL_areClaimsSo_184 7 rfl rfl ?_
                          refine g_if_eqN (tgt := 406) X dL_areClaimsSo_185 (by decide) (by omega) (fun c185 => ?_) (fun c185 => ?_)
                          · exact absurd c185 (by decide)
                          · refine g_iload X dL_areClaimsSo_188 2 rfl ?_
                            refine g_if_eqN (tgt := 406) X dL_areClaimsSo_190 (by decide) (by omega) (fun c190 => ?_) (fun c190 => ?_)
                            · exact absurd c190 (by decide)
                            · refine g_aload_n X dL_areClaimsSo_193 9 rfl rfl ?_
                              refine g_iload X dL_areClaimsSo_194 6 rfl ?_
                              refine g_callV (As := [.int (nI k2)]) (rest := []) (wr := []) X (Cc_X6_kind l v cj hC3 hW hL k2 c30) f_X6_kind q_20_4 dL_areClaimsSo_196 [0] [] rfl rfl (by decide) 0 hq3 rfl rfl rfl (Nat.le_of_ble_eq_true rfl) (by decide) (fun r_ w_ hp116 => ?_)
                              obtain ⟨rfl, wk115, hCk115, rfl⟩ := hp116
                              obtain ⟨fsk115, hqk115⟩ := IC9_hd hCk115
                              show GG k _ _ [wk115] _ _ [.int (nI ((P k2).1))]
                              refine g_v (y := nI 1) (by rw [hk]) ?_
                              refine g_iconst (x := nI 1) X dL_areClaimsSo_199 (by decide +kernel) ?_
                              refine g_icmp_neN (tgt := 281) X dL_areClaimsSo_200 (by decide) (by omega) (by omega) (fun c200 => ?_) (fun c200 => ?_)
                              · exact absurd c200 (by decide)
                              · refine g_iload X dL_areClaimsSo_203 5 rfl ?_
                                refine g_v (y := nI 0) (by rw [hv]; rfl) ?_
                                refine g_if_ltN (tgt := 406) X dL_areClaimsSo_205 (by decide) (by omega) ?_
                                refine g_iload X dL_areClaimsSo_208 5 rfl ?_
                                refine g_v (y := nI 0) (by rw [hv]; rfl) ?_
                                refine g_iconst (x := nI 3) X dL_areClaimsSo_210 (by decide +kernel) ?_
                                refine g_icmp_geN (tgt := 406) X dL_areClaimsSo_211 (by decide) (by omega) (by omega) (fun c211 => ?_) (fun c211 => ?_)
                                · exact absurd c211 (by decide)
                                · refine g_iload X dL_areClaimsSo_214 5 rfl ?_
                                  refine g_v (y := nI 0) (by rw [hv]; rfl) ?_
                                  refine g_if_neN (tgt := 223) X dL_areClaimsSo_216 (by decide) (by omega) (fun c216 => ?_) (fun c216 => ?_)
                                  · exact absurd rfl c216
                                  · refine g_iconst (x := nI 1) X dL_areClaimsSo_219 (by decide +kernel) ?_
                                    refine g_goto (tgt := 224) X dL_areClaimsSo_220 (by decide) ?_
                                    refine g_iload X dL_areClaimsSo_224 3 rfl ?_
                                    refine g_if_neN (tgt := 233) X dL_areClaimsSo_226 (by decide) (by omega) (fun c226 => ?_) (fun c226 => ?_)
                                    · exact absurd rfl c226
                                    · refine g_iconst (x := nI 1) X dL_areClaimsSo_229 (by decide +kernel) ?_
                                      refine g_goto (tgt := 234) X dL_areClaimsSo_230 (by decide) ?_
                                      refine g_icmp_neN (tgt := 406) X dL_areClaimsSo_234 (by decide) (by omega) (by omega) (fun c234 => ?_) (fun c234 => ?_)
                                      · exact absurd c234 (by decide)
                                      · refine g_iload X dL_areClaimsSo_237 5 rfl ?_
                                        refine g_v (y := nI 0) (by rw [hv]; rfl) ?_
                                        refine g_iconst (x := nI 2) X dL_areClaimsSo_239 (by decide +kernel) ?_
                                        refine g_icmp_neN (tgt := 247) X dL_areClaimsSo_240 (by decide) (by omega) (by omega) (fun c240 => ?_) (fun c240 => ?_)
                                        · refine g_iconst (x := nI 0) X dL_areClaimsSo_247 (by decide +kernel) ?_
                                          refine g_iload X dL_areClaimsSo_248 4 rfl ?_
                                          refine g_v (y := zI (-1)) (by rw [hx]) ?_
                                          refine g_if_lt (tgt := 257) X dL_areClaimsSo_250 (by decide) (fun c250 => ?_) (fun c250 => ?_)
                                          · refine g_iconst (x := nI 0) X dL_areClaimsSo_257 (by decide +kernel) ?_
                                            refine g_icmp_neN (tgt := 406) X dL_areClaimsSo_258 (by decide) (by omega) (by omega) (fun c258 => ?_) (fun c258 => ?_)
                                            · exact absurd c258 (by decide)
                                            · refine g_aload_n X dL_areClaimsSo_261 9 rfl rfl ?_
                                              refine g_iload X dL_areClaimsSo_262 6 rfl ?_
                                              refine g_callV (As := [.int (nI k2)]) (rest := []) (wr := []) X (Cc_X6_demand l v cj hCk115 hW hL k2 (by omega)) f_X6_demand q_20_12 dL_areClaimsSo_264 [0] [] rfl rfl (by decide) 0 hqk115 rfl rfl rfl (Nat.le_of_ble_eq_true rfl) (by decide) (fun r_ w_ hp118 => ?_)
                                              obtain ⟨rfl, wk117, hCk117, rfl⟩ := hp118
                                              obtain ⟨fsk117, hqk117⟩ := IC9_hd hCk117
                                              show GG k _ _ [wk117] _ _ [.int (nI (dmV P n k2))]
                                              refine g_aload_n X dL_areClaimsSo_267 9 rfl rfl ?_
                                              refine g_iload X dL_areClaimsSo_268 6 rfl ?_
                                              refine g_iconst (x := nI 1) X dL_areClaimsSo_270 (by decide +kernel) ?_
                                              refine g_iaddN X dL_areClaimsSo_271 ?_
                                              refine g_callV (As := [.int (nI (k2 + 1))]) (rest := [.int (nI (dmV P n k2))]) (wr := []) X (Cc_X6_demand l v cj hCk117 hW hL (k2 + 1) (by omega)) f_X6_demand q_20_12 dL_areClaimsSo_272 [0] [] rfl rfl (by decide) 0 hqk117 rfl rfl rfl (Nat.le_of_ble_eq_true rfl) (by decide) (fun r_ w_ hp120 => ?_)
                                              obtain ⟨rfl, wk119, hCk119, rfl⟩ := hp120
                                              obtain ⟨fsk119, hqk119⟩ := IC9_hd hCk119
                                              show GG k _ _ [wk119] _ _ [.int (nI (dmV P n (k2 + 1))), .int (nI (dmV P n k2))]
                                              refine g_icmp_gtN (tgt := 406) X dL_areClaimsSo_275 (by decide) (by have := dm_le (P := P) (n := n) k2; have := dm_le (P := P) (n := n) (k2 + 1); omega) (by have := dm_le (P := P) (n := n) k2; have := dm_le (P := P) (n := n) (k2 + 1); omega) (fun c275 => ?_) (fun c275 => ?_)
                                              · exact absurd (dm_claim hW c30 hk) (by omega)
                                              · refine g_goto (tgt := 293) X dL_areClaimsSo_278 (by decide) ?_
                                                refine g_aload_n X dL_areClaimsSo_293 9 rfl rfl ?_
                                                refine g_iload X dL_areClaimsSo_294 6 rfl ?_
                                                refine g_callV (As := [.int (nI k2)]) (rest := []) (wr := []) X (Cc_X6_kind l v cj hCk119 hW hL k2 c30) f_X6_kind q_20_4 dL_areClaimsSo_296 [0] [] rfl rfl (by decide) 0 hqk119 rfl rfl rfl (Nat.le_of_ble_eq_true rfl) (by decide) (fun r_ w_ hp122 => ?_)
                                                obtain ⟨rfl, wk121, hCk121, rfl⟩ := hp122
                                                obtain ⟨fsk121, hqk121⟩ := IC9_hd hCk121
                                                show GG k _ _ [wk121] _ _ [.int (nI ((P k2).1))]
                                                refine g_v (y := nI 1) (by rw [hk]) ?_
                                                refine g_iconst (x := nI 2) X dL_areClaimsSo_299 (by decide +kernel) ?_
                                                refine g_icmp_neN (tgt := 350) X dL_areClaimsSo_300 (by decide) (by omega) (by omega) (fun c300 => ?_) (fun c300 => ?_)
                                                · refine g_aload_n X dL_areClaimsSo_350 9 rfl rfl ?_
                                                  refine g_iload X dL_areClaimsSo_351 6 rfl ?_
                                                  refine g_callV (As := [.int (nI k2)]) (rest := []) (wr := []) X (Cc_X6_kind l v cj hCk121 hW hL k2 c30) f_X6_kind q_20_4 dL_areClaimsSo_353 [0] [] rfl rfl (by decide) 0 hqk121 rfl rfl rfl (Nat.le_of_ble_eq_true rfl) (by decide) (fun r_ w_ hp124 => ?_)
                                                  obtain ⟨rfl, wk123, hCk123, rfl⟩ := hp124
                                                  obtain ⟨fsk123, hqk123⟩ := IC9_hd hCk123
                                                  show GG k _ _ [wk123] _ _ [.int (nI ((P k2).1))]
                                                  refine g_v (y := nI 1) (by rw [hk]) ?_
                                                  refine g_iconst (x := nI 2) X dL_areClaimsSo_356 (by decide +kernel) ?_
                                                  refine g_icmp_eqN (tgt := 370) X dL_areClaimsSo_357 (by decide) (by omega) (by omega) (fun c357 => ?_) (fun c357 => ?_)
                                                  · exact absurd c357 (by decide)
                                                  · refine g_aload_n X dL_areClaimsSo_360 9 rfl rfl ?_
                                                    refine g_iload X dL_areClaimsSo_361 6 rfl ?_
                                                    refine g_callV (As := [.int (nI k2)]) (rest := []) (wr := []) X (Cc_X6_target l v cj hCk123 hW hL k2 c30) f_X6_target q_20_8 dL_areClaimsSo_363 [0] [] rfl rfl (by decide) 0 hqk123 rfl rfl rfl (Nat.le_of_ble_eq_true rfl) (by decide) (fun r_ w_ hp126 => ?_)
                                                    obtain ⟨rfl, wk125, hCk125, rfl⟩ := hp126
                                                    obtain ⟨fsk125, hqk125⟩ := IC9_hd hCk125
                                                    show GG k _ _ [wk125] _ _ [.int (zI (tg9 (P k2)))]
                                                    refine g_v (y := zI (-1)) (by rw [tg_kind (by omega)]) ?_
                                                    refine g_iconst (x := zI (-1)) X dL_areClaimsSo_366 (by decide +kernel) ?_
                                                    refine g_icmp_ne (tgt := 406) X dL_areClaimsSo_367 (by decide) (fun c367 => ?_) (fun c367 => ?_)
                                                    · rw [zI_inj (by omega) (by omega) (by omega) (by omega)] at c367
                                                      exact absurd rfl c367
                                                    · rw [zI_inj (by omega) (by omega) (by omega) (by omega)] at c367
                                                      refine g_iload X dL_areClaimsSo_370 4 rfl ?_
                                                      refine g_v (y := zI (-1)) (by rw [hx]) ?_
                                                      refine g_if_lt (tgt := 402) X dL_areClaimsSo_372 (by decide) (fun c372 => ?_) (fun c372 => ?_)
                                                      · refine g_iconst (x := nI 1) X dL_areClaimsSo_402 (by decide +kernel) ?_
                                                        refine g_goto (tgt := 407) X dL_areClaimsSo_403 (by decide) ?_
                                                        refine g_istore_n (lv' := [(3, .int (nI 1)), (2, .int (nI (rfC lo hi P n (k2 + 1)))), (9, .int (nI i2)), (8, .int (nI 1)), (7, .int (nI 0)), (6, .int (zI (exV lo hi P n k2))), (5, .int (zI (vdV lo hi P n k2))), (4, .int (nI k2)), (1, .int (nI n)), (0, .ref cj)]) X dL_areClaimsSo_407 rfl (by decide) rfl ?_
                                                        refine g_iinc (y := nI (k2 + 1)) (lv' := [(4, .int (nI (k2 + 1))), (3, .int (nI 1)), (2, .int (nI (rfC lo hi P n (k2 + 1)))), (9, .int (nI i2)), (8, .int (nI 1)), (7, .int (nI 0)), (6, .int (zI (exV lo hi P n k2))), (5, .int (zI (vdV lo hi P n k2))), (1, .int (nI n)), (0, .ref cj)]) (j := 7) X dL_areClaimsSo_408 rfl (nI_add k2 1) (by decide) rfl ?_
                                                        refine g_goto (tgt := 27) X dL_areClaimsSo_411 (by decide) ?_
                                                        refine g_lv (lv' := [(4, .int (nI (k2 + 1))), (3, .int (nI 1)), (2, .int (nI (rfC lo hi P n (k2 + 1)))), (1, .int (nI n)), (0, .ref cj)]) [0, 1, 2, 8, 9] rfl ?_
                                                        exact ih27 _ (by omega) (k2 + 1) wk125 _ (by omega) hCk125 hqk125 rfl
                                                      · exact absurd c372 (by decide)
                                                · exact absurd c300 (by decide)
                                          · exact absurd c250 (by decide)
                                        · exact absurd c240 (by decide)
                        · exact absurd c174 (by decide)
                      · exact absurd (exV_kind hW c30 hx).2 hrd
                    · obtain ⟨hv, hx⟩ := vd_other (lo := lo) (hi := hi) (P := P) (n := n) hW c30 hk
                      by_cases hj : (P k2).1 = 2
                      · have hk := hj
                        obtain ⟨g1, g2, g3, g4⟩ := tg_jump hW c30 hk
                        refine g_iload_n X dL_areClaimsSo_170 7 rfl rfl ?_
                        refine g_iload X dL_areClaimsSo_171 4 rfl ?_
                        refine g_v (y := zI (-1)) (by rw [hv]) ?_
                        refine g_iconst (x := nI 2) X dL_areClaimsSo_173 (by decide +kernel) ?_
                        refine g_icmp_ne (tgt := 181) X dL_areClaimsSo_174 (by decide) (fun c174 => ?_) (fun c174 => ?_)
                        · rw [zI_nI 2, zI_inj (by omega) (by omega) (by omega) (by omega)] at c174
                          refine g_iconst (x := nI 0) X dL_areClaimsSo_181 (by decide +kernel) ?_
                          refine g_iaddN X dL_areClaimsSo_182 ?_
                          refine g_v (y := nI (rfC lo hi P n (k2 + 1))) (by rw [rf_f (by rw [hv]; decide), Nat.add_zero]) ?_
                          refine g_istore_n (lv' := [(2, .int (nI (rfC lo hi P n (k2 + 1)))), (9, .int (nI i2)), (8, .int (nI 1)), (7, .int (nI 0)), (6, .int (zI (exV lo hi P n k2))), (5, .int (zI (vdV lo hi P n k2))), (4, .int (nI k2)), (3, .int (nI 1)), (1, .int (nI n)), (0, .ref cj)]) X dL_areClaimsSo_183 rfl (by decide) rfl ?_
                          refine g_iload_n X dL_areClaimsSo_184 7 rfl rfl ?_
                          refine g_if_eqN (tgt := 406) X dL_areClaimsSo_185 (by decide) (by omega) (fun c185 => ?_) (fun c185 => ?_)
                          · exact absurd c185 (by decide)
                          · refine g_iload X dL_areClaimsSo_188 2 rfl ?_
                            refine g_if_eqN (tgt := 406) X dL_areClaimsSo_190 (by decide) (by omega) (fun c190 => ?_) (fun c190 => ?_)
                            · exact absurd c190 (by decide)
                            · refine g_aload_n X dL_areClaimsSo_193 9 rfl rfl ?_
                              refine g_iload X dL_areClaimsSo_194 6 rfl ?_
                              refine g_callV (As := [.int (nI k2)]) (rest := []) (wr := []) X (Cc_X6_kind l v cj hC3 hW hL k2 c30) f_X6_kind q_20_4 dL_areClaimsSo_196 [0] [] rfl rfl (by decide) 0 hq3 rfl rfl rfl (Nat.le_of_ble_eq_true rfl) (by decide) (fun r_ w_ hp128 => ?_)
                              obtain ⟨rfl, wk127, hCk127, rfl⟩ := hp128
                              obtain ⟨fsk127, hqk127⟩ := IC9_hd hCk127
                              show GG k _ _ [wk127] _ _ [.int (nI ((P k2).1))]
                              refine g_v (y := nI 2) (by rw [hk]) ?_
                              refine g_iconst (x := nI 1) X dL_areClaimsSo_199 (by decide +kernel) ?_
                              refine g_icmp_neN (tgt := 281) X dL_areClaimsSo_200 (by decide) (by omega) (by omega) (fun c200 => ?_) (fun c200 => ?_)
                              · refine g_iload X dL_areClaimsSo_281 5 rfl ?_
                                refine g_v (y := zI (-1)) (by rw [hv]) ?_
                                refine g_iconst (x := zI (-1)) X dL_areClaimsSo_283 (by decide +kernel) ?_
                                refine g_icmp_ne (tgt := 406) X dL_areClaimsSo_284 (by decide) (fun c284 => ?_) (fun c284 => ?_)
                                · rw [zI_inj (by omega) (by omega) (by omega) (by omega)] at c284
                                  exact absurd rfl c284
                                · rw [zI_inj (by omega) (by omega) (by omega) (by omega)] at c284
                                  refine g_iload X dL_areClaimsSo_287 4 rfl ?_
                                  refine g_v (y := zI (-1)) (by rw [hx]) ?_
                                  refine g_iconst (x := zI (-1)) X dL_areClaimsSo_289 (by decide +kernel) ?_
                                  refine g_icmp_ne (tgt := 406) X dL_areClaimsSo_290 (by decide) (fun c290 => ?_) (fun c290 => ?_)
                                  · rw [zI_inj (by omega) (by omega) (by omega) (by omega)] at c290
                                    exact absurd rfl c290
                                  · rw [zI_inj (by omega) (by omega) (by omega) (by omega)] at c290
                                    refine g_aload_n X dL_areClaimsSo_293 9 rfl rfl ?_
                                    refine g_iload X dL_areClaimsSo_294 6 rfl ?_
                                    refine g_callV (As := [.int (nI k2)]) (rest := []) (wr := []) X (Cc_X6_kind l v cj hCk127 hW hL k2 c30) f_X6_kind q_20_4 dL_areClaimsSo_296 [0] [] rfl rfl (by decide) 0 hqk127 rfl rfl rfl (Nat.le_of_ble_eq_true rfl) (by decide) (fun r_ w_ hp130 => ?_)
                                    obtain ⟨rfl, wk129, hCk129, rfl⟩ := hp130
                                    obtain ⟨fsk129, hqk129⟩ := IC9_hd hCk129
                                    show GG k _ _ [wk129] _ _ [.int (nI ((P k2).1))]
                                    refine g_v (y := nI 2) (by rw [hk]) ?_
                                    refine g_iconst (x := nI 2) X dL_areClaimsSo_299 (by decide +kernel) ?_
                                    refine g_icmp_neN (tgt := 350) X dL_areClaimsSo_300 (by decide) (by omega) (by omega) (fun c300 => ?_) (fun c300 => ?_)
                                    · exact absurd c300 (by decide)
                                    · refine g_aload_n X dL_areClaimsSo_303 9 rfl rfl ?_
                                      refine g_iload X dL_areClaimsSo_304 6 rfl ?_
                                      refine g_callV (As := [.int (nI k2)]) (rest := []) (wr := []) X (Cc_X6_target l v cj hCk129 hW hL k2 c30) f_X6_target q_20_8 dL_areClaimsSo_306 [0] [] rfl rfl (by decide) 0 hqk129 rfl rfl rfl (Nat.le_of_ble_eq_true rfl) (by decide) (fun r_ w_ hp132 => ?_)
                                      obtain ⟨rfl, wk131, hCk131, rfl⟩ := hp132
                                      obtain ⟨fsk131, hqk131⟩ := IC9_hd hCk131
                                      show GG k _ _ [wk131] _ _ [.int (zI (tg9 (P k2)))]
                                      refine g_v (y := nI ((P k2).2.2.2.2.toNat)) (by rw [g3, zI_nI]) ?_
                                      refine g_if_ltN (tgt := 406) X dL_areClaimsSo_309 (by decide) (by omega) ?_
                                      refine g_aload_n X dL_areClaimsSo_312 9 rfl rfl ?_
                                      refine g_iload X dL_areClaimsSo_313 6 rfl ?_
                                      refine g_callV (As := [.int (nI k2)]) (rest := []) (wr := []) X (Cc_X6_target l v cj hCk131 hW hL k2 c30) f_X6_target q_20_8 dL_areClaimsSo_315 [0] [] rfl rfl (by decide) 0 hqk131 rfl rfl rfl (Nat.le_of_ble_eq_true rfl) (by decide) (fun r_ w_ hp134 => ?_)
                                      obtain ⟨rfl, wk133, hCk133, rfl⟩ := hp134
                                      obtain ⟨fsk133, hqk133⟩ := IC9_hd hCk133
                                      show GG k _ _ [wk133] _ _ [.int (zI (tg9 (P k2)))]
                                      refine g_v (y := nI ((P k2).2.2.2.2.toNat)) (by rw [g3, zI_nI]) ?_
                                      refine g_iload_n X dL_areClaimsSo_318 8 rfl rfl ?_
                                      refine g_icmp_gtN (tgt := 406) X dL_areClaimsSo_319 (by decide) (by omega) (by omega) (fun c319 => ?_) (fun c319 => ?_)
                                      · exact absurd c319 (by omega)
                                      · refine g_aload_n X dL_areClaimsSo_322 9 rfl rfl ?_
                                        refine g_iload X dL_areClaimsSo_323 6 rfl ?_
                                        refine g_callV (As := [.int (nI k2)]) (rest := []) (wr := []) X (Cc_X6_demand l v cj hCk133 hW hL k2 (by omega)) f_X6_demand q_20_12 dL_areClaimsSo_325 [0] [] rfl rfl (by decide) 0 hqk133 rfl rfl rfl (Nat.le_of_ble_eq_true rfl) (by decide) (fun r_ w_ hp136 => ?_)
                                        obtain ⟨rfl, wk135, hCk135, rfl⟩ := hp136
                                        obtain ⟨fsk135, hqk135⟩ := IC9_hd hCk135
                                        show GG k _ _ [wk135] _ _ [.int (nI (dmV P n k2))]
                                        refine g_aload_n X dL_areClaimsSo_328 9 rfl rfl ?_
                                        refine g_iload X dL_areClaimsSo_329 6 rfl ?_
                                        refine g_iconst (x := nI 1) X dL_areClaimsSo_331 (by decide +kernel) ?_
                                        refine g_iaddN X dL_areClaimsSo_332 ?_
                                        refine g_callV (As := [.int (nI (k2 + 1))]) (rest := [.int (nI (dmV P n k2))]) (wr := []) X (Cc_X6_demand l v cj hCk135 hW hL (k2 + 1) (by omega)) f_X6_demand q_20_12 dL_areClaimsSo_333 [0] [] rfl rfl (by decide) 0 hqk135 rfl rfl rfl (Nat.le_of_ble_eq_true rfl) (by decide) (fun r_ w_ hp138 => ?_)
                                        obtain ⟨rfl, wk137, hCk137, rfl⟩ := hp138
                                        obtain ⟨fsk137, hqk137⟩ := IC9_hd hCk137
                                        show GG k _ _ [wk137] _ _ [.int (nI (dmV P n (k2 + 1))), .int (nI (dmV P n k2))]
                                        refine g_aload_n X dL_areClaimsSo_336 9 rfl rfl ?_
                                        refine g_aload_n X dL_areClaimsSo_337 9 rfl rfl ?_
                                        refine g_iload X dL_areClaimsSo_338 6 rfl ?_
                                        refine g_callV (As := [.int (nI k2)]) (rest := [.ref cj, .int (nI (dmV P n (k2 + 1))), .int (nI (dmV P n k2))]) (wr := []) X (Cc_X6_target l v cj hCk137 hW hL k2 c30) f_X6_target q_20_8 dL_areClaimsSo_340 [0] [] rfl rfl (by decide) 0 hqk137 rfl rfl rfl (Nat.le_of_ble_eq_true rfl) (by decide) (fun r_ w_ hp140 => ?_)
                                        obtain ⟨rfl, wk139, hCk139, rfl⟩ := hp140
                                        obtain ⟨fsk139, hqk139⟩ := IC9_hd hCk139
                                        show GG k _ _ [wk139] _ _ [.int (zI (tg9 (P k2))), .ref cj, .int (nI (dmV P n (k2 + 1))), .int (nI (dmV P n k2))]
                                        refine g_v (y := nI ((P k2).2.2.2.2.toNat)) (by rw [g3, zI_nI]) ?_
                                        refine g_callV (As := [.int (nI ((P k2).2.2.2.2.toNat))]) (rest := [.int (nI (dmV P n (k2 + 1))), .int (nI (dmV P n k2))]) (wr := []) X (Cc_X6_demand l v cj hCk139 hW hL ((P k2).2.2.2.2.toNat) (by omega)) f_X6_demand q_20_12 dL_areClaimsSo_343 [0] [] rfl rfl (by decide) 0 hqk139 rfl rfl rfl (Nat.le_of_ble_eq_true rfl) (by decide) (fun r_ w_ hp142 => ?_)
                                        obtain ⟨rfl, wk141, hCk141, rfl⟩ := hp142
                                        obtain ⟨fsk141, hqk141⟩ := IC9_hd hCk141
                                        show GG k _ _ [wk141] _ _ [.int (nI (dmV P n ((P k2).2.2.2.2.toNat))), .int (nI (dmV P n (k2 + 1))), .int (nI (dmV P n k2))]
                                        refine g_iaddN X dL_areClaimsSo_346 ?_
                                        refine g_icmp_gtN (tgt := 406) X dL_areClaimsSo_347 (by decide) (by have := dm_le (P := P) (n := n) k2; have := dm_le (P := P) (n := n) (k2 + 1); have := dm_le (P := P) (n := n) (P k2).2.2.2.2.toNat; omega) (by have := dm_le (P := P) (n := n) k2; have := dm_le (P := P) (n := n) (k2 + 1); have := dm_le (P := P) (n := n) (P k2).2.2.2.2.toNat; omega) (fun c347 => ?_) (fun c347 => ?_)
                                        · exact absurd (dm_jump hW c30 hk) (by omega)
                                        · refine g_aload_n X dL_areClaimsSo_350 9 rfl rfl ?_
                                          refine g_iload X dL_areClaimsSo_351 6 rfl ?_
                                          refine g_callV (As := [.int (nI k2)]) (rest := []) (wr := []) X (Cc_X6_kind l v cj hCk141 hW hL k2 c30) f_X6_kind q_20_4 dL_areClaimsSo_353 [0] [] rfl rfl (by decide) 0 hqk141 rfl rfl rfl (Nat.le_of_ble_eq_true rfl) (by decide) (fun r_ w_ hp144 => ?_)
                                          obtain ⟨rfl, wk143, hCk143, rfl⟩ := hp144
                                          obtain ⟨fsk143, hqk143⟩ := IC9_hd hCk143
                                          show GG k _ _ [wk143] _ _ [.int (nI ((P k2).1))]
                                          refine g_v (y := nI 2) (by rw [hk]) ?_
                                          refine g_iconst (x := nI 2) X dL_areClaimsSo_356 (by decide +kernel) ?_
                                          refine g_icmp_eqN (tgt := 370) X dL_areClaimsSo_357 (by decide) (by omega) (by omega) (fun c357 => ?_) (fun c357 => ?_)
                                          · refine g_iload X dL_areClaimsSo_370 4 rfl ?_
                                            refine g_v (y := zI (-1)) (by rw [hx]) ?_
                                            refine g_if_lt (tgt := 402) X dL_areClaimsSo_372 (by decide) (fun c372 => ?_) (fun c372 => ?_)
                                            · refine g_iconst (x := nI 1) X dL_areClaimsSo_402 (by decide +kernel) ?_
                                              refine g_goto (tgt := 407) X dL_areClaimsSo_403 (by decide) ?_
                                              refine g_istore_n (lv' := [(3, .int (nI 1)), (2, .int (nI (rfC lo hi P n (k2 + 1)))), (9, .int (nI i2)), (8, .int (nI 1)), (7, .int (nI 0)), (6, .int (zI (exV lo hi P n k2))), (5, .int (zI (vdV lo hi P n k2))), (4, .int (nI k2)), (1, .int (nI n)), (0, .ref cj)]) X dL_areClaimsSo_407 rfl (by decide) rfl ?_
                                              refine g_iinc (y := nI (k2 + 1)) (lv' := [(4, .int (nI (k2 + 1))), (3, .int (nI 1)), (2, .int (nI (rfC lo hi P n (k2 + 1)))), (9, .int (nI i2)), (8, .int (nI 1)), (7, .int (nI 0)), (6, .int (zI (exV lo hi P n k2))), (5, .int (zI (vdV lo hi P n k2))), (1, .int (nI n)), (0, .ref cj)]) (j := 7) X dL_areClaimsSo_408 rfl (nI_add k2 1) (by decide) rfl ?_
                                              refine g_goto (tgt := 27) X dL_areClaimsSo_411 (by decide) ?_
                                              refine g_lv (lv' := [(4, .int (nI (k2 + 1))), (3, .int (nI 1)), (2, .int (nI (rfC lo hi P n (k2 + 1)))), (1, .int (nI n)), (0, .ref cj)]) [0, 1, 2, 8, 9] rfl ?_
                                              exact ih27 _ (by omega) (k2 + 1) wk143 _ (by omega) hCk143 hqk143 rfl
                                            · exact absurd c372 (by decide)
                                          · exact absurd c357 (by decide)
                              · exact absurd c200 (by decide)
                        · rw [zI_nI 2, zI_inj (by omega) (by omega) (by omega) (by omega)] at c174
                          exact absurd c174 (by omega)
                      · have hk : (P k2).1 = 0 := by omega
                        refine g_iload_n X dL_areClaimsSo_170 7 rfl rfl ?_
                        refine g_iload X dL_areClaimsSo_171 4 rfl ?_
                        refine g_v (y := zI (-1)) (by rw [hv]) ?_
                        refine g_iconst (x := nI 2) X dL_areClaimsSo_173 (by decide +kernel) ?_
                        refine g_icmp_ne (tgt := 181) X dL_areClaimsSo_174 (by decide) (fun c174 => ?_) (fun c174 => ?_)
                        · rw [zI_nI 2, zI_inj (by omega) (by omega) (by omega) (by omega)] at c174
                          refine g_iconst (x := nI 0) X dL_areClaimsSo_181 (by decide +kernel) ?_
                          refine g_iaddN X dL_areClaimsSo_182 ?_
                          refine g_v (y := nI (rfC lo hi P n (k2 + 1))) (by rw [rf_f (by rw [hv]; decide), Nat.add_zero]) ?_
                          refine g_istore_n (lv' := [(2, .int (nI (rfC lo hi P n (k2 + 1)))), (9, .int (nI i2)), (8, .int (nI 1)), (7, .int (nI 0)), (6, .int (zI (exV lo hi P n k2))), (5, .int (zI (vdV lo hi P n k2))), (4, .int (nI k2)), (3, .int (nI 1)), (1, .int (nI n)), (0, .ref cj)]) X dL_areClaimsSo_183 rfl (by decide) rfl ?_
                          refine g_iload_n X dL_areClaimsSo_184 7 rfl rfl ?_
                          refine g_if_eqN (tgt := 406) X dL_areClaimsSo_185 (by decide) (by omega) (fun c185 => ?_) (fun c185 => ?_)
                          · exact absurd c185 (by decide)
                          · refine g_iload X dL_areClaimsSo_188 2 rfl ?_
                            refine g_if_eqN (tgt := 406) X dL_areClaimsSo_190 (by decide) (by omega) (fun c190 => ?_) (fun c190 => ?_)
                            · exact absurd c190 (by decide)
                            · refine g_aload_n X dL_areClaimsSo_193 9 rfl rfl ?_
                              refine g_iload X dL_areClaimsSo_194 6 rfl ?_
                              refine g_callV (As := [.int (nI k2)]) (rest := []) (wr := []) X (Cc_X6_kind l v cj hC3 hW hL k2 c30) f_X6_kind q_20_4 dL_areClaimsSo_196 [0] [] rfl rfl (by decide) 0 hq3 rfl rfl rfl (Nat.le_of_ble_eq_true rfl) (by decide) (fun r_ w_ hp146 => ?_)
                              obtain ⟨rfl, wk145, hCk145, rfl⟩ := hp146
                              obtain ⟨fsk145, hqk145⟩ := IC9_hd hCk145
                              show GG k _ _ [wk145] _ _ [.int (nI ((P k2).1))]
                              refine g_v (y := nI 0) (by rw [hk]) ?_
                              refine g_iconst (x := nI 1) X dL_areClaimsSo_199 (by decide +kernel) ?_
                              refine g_icmp_neN (tgt := 281) X dL_areClaimsSo_200 (by decide) (by omega) (by omega) (fun c200 => ?_) (fun c200 => ?_)
                              · refine g_iload X dL_areClaimsSo_281 5 rfl ?_
                                refine g_v (y := zI (-1)) (by rw [hv]) ?_
                                refine g_iconst (x := zI (-1)) X dL_areClaimsSo_283 (by decide +kernel) ?_
                                refine g_icmp_ne (tgt := 406) X dL_areClaimsSo_284 (by decide) (fun c284 => ?_) (fun c284 => ?_)
                                · rw [zI_inj (by omega) (by omega) (by omega) (by omega)] at c284
                                  exact absurd rfl c284
                                · rw [zI_inj (by omega) (by omega) (by omega) (by omega)] at c284
                                  refine g_iload X dL_areClaimsSo_287 4 rfl ?_
                                  refine g_v (y := zI (-1)) (by rw [hx]) ?_
                                  refine g_iconst (x := zI (-1)) X dL_areClaimsSo_289 (by decide +kernel) ?_
                                  refine g_icmp_ne (tgt := 406) X dL_areClaimsSo_290 (by decide) (fun c290 => ?_) (fun c290 => ?_)
                                  · rw [zI_inj (by omega) (by omega) (by omega) (by omega)] at c290
                                    exact absurd rfl c290
                                  · rw [zI_inj (by omega) (by omega) (by omega) (by omega)] at c290
                                    refine g_aload_n X dL_areClaimsSo_293 9 rfl rfl ?_
                                    refine g_iload X dL_areClaimsSo_294 6 rfl ?_
                                    refine g_callV (As := [.int (nI k2)]) (rest := []) (wr := []) X (Cc_X6_kind l v cj hCk145 hW hL k2 c30) f_X6_kind q_20_4 dL_areClaimsSo_296 [0] [] rfl rfl (by decide) 0 hqk145 rfl rfl rfl (Nat.le_of_ble_eq_true rfl) (by decide) (fun r_ w_ hp148 => ?_)
                                    obtain ⟨rfl, wk147, hCk147, rfl⟩ := hp148
                                    obtain ⟨fsk147, hqk147⟩ := IC9_hd hCk147
                                    show GG k _ _ [wk147] _ _ [.int (nI ((P k2).1))]
                                    refine g_v (y := nI 0) (by rw [hk]) ?_
                                    refine g_iconst (x := nI 2) X dL_areClaimsSo_299 (by decide +kernel) ?_
                                    refine g_icmp_neN (tgt := 350) X dL_areClaimsSo_300 (by decide) (by omega) (by omega) (fun c300 => ?_) (fun c300 => ?_)
                                    · refine g_aload_n X dL_areClaimsSo_350 9 rfl rfl ?_
                                      refine g_iload X dL_areClaimsSo_351 6 rfl ?_
                                      refine g_callV (As := [.int (nI k2)]) (rest := []) (wr := []) X (Cc_X6_kind l v cj hCk147 hW hL k2 c30) f_X6_kind q_20_4 dL_areClaimsSo_353 [0] [] rfl rfl (by decide) 0 hqk147 rfl rfl rfl (Nat.le_of_ble_eq_true rfl) (by decide) (fun r_ w_ hp150 => ?_)
                                      obtain ⟨rfl, wk149, hCk149, rfl⟩ := hp150
                                      obtain ⟨fsk149, hqk149⟩ := IC9_hd hCk149
                                      show GG k _ _ [wk149] _ _ [.int (nI ((P k2).1))]
                                      refine g_v (y := nI 0) (by rw [hk]) ?_
                                      refine g_iconst (x := nI 2) X dL_areClaimsSo_356 (by decide +kernel) ?_
                                      refine g_icmp_eqN (tgt := 370) X dL_areClaimsSo_357 (by decide) (by omega) (by omega) (fun c357 => ?_) (fun c357 => ?_)
                                      · exact absurd c357 (by decide)
                                      · refine g_aload_n X dL_areClaimsSo_360 9 rfl rfl ?_
                                        refine g_iload X dL_areClaimsSo_361 6 rfl ?_
                                        refine g_callV (As := [.int (nI k2)]) (rest := []) (wr := []) X (Cc_X6_target l v cj hCk149 hW hL k2 c30) f_X6_target q_20_8 dL_areClaimsSo_363 [0] [] rfl rfl (by decide) 0 hqk149 rfl rfl rfl (Nat.le_of_ble_eq_true rfl) (by decide) (fun r_ w_ hp152 => ?_)
                                        obtain ⟨rfl, wk151, hCk151, rfl⟩ := hp152
                                        obtain ⟨fsk151, hqk151⟩ := IC9_hd hCk151
                                        show GG k _ _ [wk151] _ _ [.int (zI (tg9 (P k2)))]
                                        refine g_v (y := zI (-1)) (by rw [tg_kind (by omega)]) ?_
                                        refine g_iconst (x := zI (-1)) X dL_areClaimsSo_366 (by decide +kernel) ?_
                                        refine g_icmp_ne (tgt := 406) X dL_areClaimsSo_367 (by decide) (fun c367 => ?_) (fun c367 => ?_)
                                        · rw [zI_inj (by omega) (by omega) (by omega) (by omega)] at c367
                                          exact absurd rfl c367
                                        · rw [zI_inj (by omega) (by omega) (by omega) (by omega)] at c367
                                          refine g_iload X dL_areClaimsSo_370 4 rfl ?_
                                          refine g_v (y := zI (-1)) (by rw [hx]) ?_
                                          refine g_if_lt (tgt := 402) X dL_areClaimsSo_372 (by decide) (fun c372 => ?_) (fun c372 => ?_)
                                          · refine g_iconst (x := nI 1) X dL_areClaimsSo_402 (by decide +kernel) ?_
                                            refine g_goto (tgt := 407) X dL_areClaimsSo_403 (by decide) ?_
                                            refine g_istore_n (lv' := [(3, .int (nI 1)), (2, .int (nI (rfC lo hi P n (k2 + 1)))), (9, .int (nI i2)), (8, .int (nI 1)), (7, .int (nI 0)), (6, .int (zI (exV lo hi P n k2))), (5, .int (zI (vdV lo hi P n k2))), (4, .int (nI k2)), (1, .int (nI n)), (0, .ref cj)]) X dL_areClaimsSo_407 rfl (by decide) rfl ?_
                                            refine g_iinc (y := nI (k2 + 1)) (lv' := [(4, .int (nI (k2 + 1))), (3, .int (nI 1)), (2, .int (nI (rfC lo hi P n (k2 + 1)))), (9, .int (nI i2)), (8, .int (nI 1)), (7, .int (nI 0)), (6, .int (zI (exV lo hi P n k2))), (5, .int (zI (vdV lo hi P n k2))), (1, .int (nI n)), (0, .ref cj)]) (j := 7) X dL_areClaimsSo_408 rfl (nI_add k2 1) (by decide) rfl ?_
                                            refine g_goto (tgt := 27) X dL_areClaimsSo_411 (by decide) ?_
                                            refine g_lv (lv' := [(4, .int (nI (k2 + 1))), (3, .int (nI 1)), (2, .int (nI (rfC lo hi P n (k2 + 1)))), (1, .int (nI n)), (0, .ref cj)]) [0, 1, 2, 8, 9] rfl ?_
                                            exact ih27 _ (by omega) (k2 + 1) wk151 _ (by omega) hCk151 hqk151 rfl
                                          · exact absurd c372 (by decide)
                                    · exact absurd c300 (by decide)
                              · exact absurd c200 (by decide)
                        · rw [zI_nI 2, zI_inj (by omega) (by omega) (by omega) (by omega)] at c174
                          exact absurd c174 (by omega)
                  · have hmn := mn_rd (lo := lo) (hi := hi) (P := P) (n := n) k2 i2
                    have hmx := mx_rd (lo := lo) (hi := hi) (P := P) (n := n) k2 i2
                    have hmm := mn_mx (lo := lo) (hi := hi) (P := P) (n := n) k2 i2
                    refine g_iload X dL_areClaimsSo_78 1 rfl ?_
                    refine g_if_eqN (tgt := 161) X dL_areClaimsSo_80 (by decide) (by omega) (fun c80 => ?_) (fun c80 => ?_)
                    · exact absurd c80 (by decide)
                    · refine g_aload_n X dL_areClaimsSo_83 9 rfl rfl ?_
                      refine g_iload X dL_areClaimsSo_84 5 rfl ?_
                      refine g_iload X dL_areClaimsSo_86 0 rfl ?_
                      refine g_callV (As := [.int (nI k2), .int (nI i2)]) (rest := []) (wr := []) X (Cc_X6_least l v cj hC3 hW hL k2 i2 (by omega) (by omega)) f_X6_least q_21_10 dL_areClaimsSo_88 [0] [] rfl rfl (by decide) 0 hq3 rfl rfl rfl (Nat.le_of_ble_eq_true rfl) (by decide) (fun r_ w_ hp154 => ?_)
                      obtain ⟨rfl, wk153, hCk153, rfl⟩ := hp154
                      obtain ⟨fsk153, hqk153⟩ := IC9_hd hCk153
                      show GG k _ _ [wk153] _ _ [.int (zI (mnV lo hi P n k2 i2))]
                      refine g_if_lt (tgt := 98) X dL_areClaimsSo_91 (by decide) (fun c91 => ?_) (fun c91 => ?_)
                      · rw [zI_lt0 (by omega) (by omega)] at c91
                        refine g_iconst (x := nI 0) X dL_areClaimsSo_98 (by decide +kernel) ?_
                        refine g_iload X dL_areClaimsSo_99 2 rfl ?_
                        refine g_icmp_neN (tgt := 161) X dL_areClaimsSo_101 (by decide) (by omega) (by omega) (fun c101 => ?_) (fun c101 => ?_)
                        · exact absurd c101 (by decide)
                        · refine g_aload_n X dL_areClaimsSo_104 9 rfl rfl ?_
                          refine g_iload X dL_areClaimsSo_105 5 rfl ?_
                          refine g_iload X dL_areClaimsSo_107 0 rfl ?_
                          refine g_callV (As := [.int (nI k2), .int (nI i2)]) (rest := []) (wr := []) X (Cc_X6_greatest l v cj hCk153 hW hL k2 i2 (by omega) (by omega)) f_X6_greatest q_21_14 dL_areClaimsSo_109 [0] [] rfl rfl (by decide) 0 hqk153 rfl rfl rfl (Nat.le_of_ble_eq_true rfl) (by decide) (fun r_ w_ hp156 => ?_)
                          obtain ⟨rfl, wk155, hCk155, rfl⟩ := hp156
                          obtain ⟨fsk155, hqk155⟩ := IC9_hd hCk155
                          show GG k _ _ [wk155] _ _ [.int (zI (mxV lo hi P n k2 i2))]
                          refine g_if_lt (tgt := 119) X dL_areClaimsSo_112 (by decide) (fun c112 => ?_) (fun c112 => ?_)
                          · rw [zI_lt0 (by omega) (by omega)] at c112
                            refine g_iconst (x := nI 0) X dL_areClaimsSo_119 (by decide +kernel) ?_
                            refine g_iload X dL_areClaimsSo_120 2 rfl ?_
                            refine g_icmp_neN (tgt := 161) X dL_areClaimsSo_122 (by decide) (by omega) (by omega) (fun c122 => ?_) (fun c122 => ?_)
                            · exact absurd c122 (by decide)
                            · refine g_aload_n X dL_areClaimsSo_125 9 rfl rfl ?_
                              refine g_iload X dL_areClaimsSo_126 5 rfl ?_
                              refine g_iload X dL_areClaimsSo_128 0 rfl ?_
                              refine g_callV (As := [.int (nI k2), .int (nI i2)]) (rest := []) (wr := []) X (Cc_X6_least l v cj hCk155 hW hL k2 i2 (by omega) (by omega)) f_X6_least q_21_10 dL_areClaimsSo_130 [0] [] rfl rfl (by decide) 0 hqk155 rfl rfl rfl (Nat.le_of_ble_eq_true rfl) (by decide) (fun r_ w_ hp158 => ?_)
                              obtain ⟨rfl, wk157, hCk157, rfl⟩ := hp158
                              obtain ⟨fsk157, hqk157⟩ := IC9_hd hCk157
                              show GG k _ _ [wk157] _ _ [.int (zI (mnV lo hi P n k2 i2))]
                              refine g_aload_n X dL_areClaimsSo_133 9 rfl rfl ?_
                              refine g_iload X dL_areClaimsSo_134 5 rfl ?_
                              refine g_iload X dL_areClaimsSo_136 0 rfl ?_
                              refine g_callV (As := [.int (nI k2), .int (nI i2)]) (rest := [.int (zI (mnV lo hi P n k2 i2))]) (wr := []) X (Cc_X6_greatest l v cj hCk157 hW hL k2 i2 (by omega) (by omega)) f_X6_greatest q_21_14 dL_areClaimsSo_138 [0] [] rfl rfl (by decide) 0 hqk157 rfl rfl rfl (Nat.le_of_ble_eq_true rfl) (by decide) (fun r_ w_ hp160 => ?_)
                              obtain ⟨rfl, wk159, hCk159, rfl⟩ := hp160
                              obtain ⟨fsk159, hqk159⟩ := IC9_hd hCk159
                              show GG k _ _ [wk159] _ _ [.int (zI (mxV lo hi P n k2 i2)), .int (zI (mnV lo hi P n k2 i2))]
                              refine g_icmp_gt (tgt := 161) X dL_areClaimsSo_141 (by decide) (fun c141 => ?_) (fun c141 => ?_)
                              · rw [zI_lt (by omega) (by omega) (by omega) (by omega)] at c141
                                exact absurd c141 (by omega)
                              · rw [zI_lt (by omega) (by omega) (by omega) (by omega)] at c141
                                refine g_aload_n X dL_areClaimsSo_144 9 rfl rfl ?_
                                refine g_iload X dL_areClaimsSo_145 5 rfl ?_
                                refine g_iload X dL_areClaimsSo_147 0 rfl ?_
                                refine g_callV (As := [.int (nI k2), .int (nI i2)]) (rest := []) (wr := []) X (Cc_X6_greatest l v cj hCk159 hW hL k2 i2 (by omega) (by omega)) f_X6_greatest q_21_14 dL_areClaimsSo_149 [0] [] rfl rfl (by decide) 0 hqk159 rfl rfl rfl (Nat.le_of_ble_eq_true rfl) (by decide) (fun r_ w_ hp162 => ?_)
                                obtain ⟨rfl, wk161, hCk161, rfl⟩ := hp162
                                obtain ⟨fsk161, hqk161⟩ := IC9_hd hCk161
                                show GG k _ _ [wk161] _ _ [.int (zI (mxV lo hi P n k2 i2))]
                                refine g_bipush (x := nI 8) X dL_areClaimsSo_152 (by decide +kernel) ?_
                                refine g_icmp_ge (tgt := 161) X dL_areClaimsSo_154 (by decide) (fun c154 => ?_) (fun c154 => ?_)
                                · rw [zI_nI 8, zI_le (by omega) (by omega) (by omega) (by omega)] at c154
                                  exact absurd c154 (by omega)
                                · rw [zI_nI 8, zI_le (by omega) (by omega) (by omega) (by omega)] at c154
                                  refine g_iconst (x := nI 1) X dL_areClaimsSo_157 (by decide +kernel) ?_
                                  refine g_goto (tgt := 162) X dL_areClaimsSo_158 (by decide) ?_
                                  refine g_istore (lv' := [(8, .int (nI 1)), (9, .int (nI i2)), (7, .int (nI 0)), (6, .int (zI (exV lo hi P n k2))), (5, .int (zI (vdV lo hi P n k2))), (4, .int (nI k2)), (3, .int (nI 1)), (2, .int (nI (rfC lo hi P n k2))), (1, .int (nI n)), (0, .ref cj)]) X dL_areClaimsSo_162 (by decide) rfl ?_
                                  refine g_iinc (y := nI (i2 + 1)) (lv' := [(9, .int (nI (i2 + 1))), (8, .int (nI 1)), (7, .int (nI 0)), (6, .int (zI (exV lo hi P n k2))), (5, .int (zI (vdV lo hi P n k2))), (4, .int (nI k2)), (3, .int (nI 1)), (2, .int (nI (rfC lo hi P n k2))), (1, .int (nI n)), (0, .ref cj)]) (j := 1) X dL_areClaimsSo_164 rfl (nI_add i2 1) (by decide) rfl ?_
                                  refine g_goto (tgt := 72) X dL_areClaimsSo_167 (by decide) ?_
                                  exact ih72 _ (by omega) (i2 + 1) wk161 _ (by omega) hCk161 hqk161 rfl
                          · rw [zI_lt0 (by omega) (by omega)] at c112
                            exact absurd (hmx.1.mp (by omega)) hrd
                      · rw [zI_lt0 (by omega) (by omega)] at c91
                        exact absurd (hmn.1.mp (by omega)) hrd
              exact lp72 _ 0 wk113 _ (by omega) hCk113 hqk113 rfl
            · rw [zI_lt0 (by omega) (by omega)] at c56
              exact absurd (hm0.1.mp (by omega)) hrd
    exact lp27 _ 0 wk3 _ (by omega) hCk3 hqk3 rfl

