/-! ## the law: a call of each kind (2) -/
set_option maxHeartbeats 4000000 in
set_option maxRecDepth 100000 in
theorem op_demand {k : KX} {l : Launch} {v : VV} {cj mz o b L i ce sl : Nat} {xs : Nat → Int32} (X : CX k l v cL_law "ClaimJudgeLaw" room_1 9) (hs : SCk k b L xs) (hnc : NCk k) (hst : l.stackTraces = false) (hL9 : L ≤ 2560) {P : Nat → S9} {n : Nat} {lo hi : Nat → Nat} {H : Nat → HE9} {c : Nat} {tx : Nat → Nat} {ln : Nat} {th : Int32} {w9 u9 : va_W} {f : Nat → Int64} (hC : IC9 v cj P n lo hi H c tx ln w9) (hM : IM9 v mz P n lo hi H c tx ln th u9) (hW : WF P n) (hL : AsW lo hi) (hi9 : i + 4 < L) (hce : ce + 1 ≤ 601024) (hsl : sl + 6 ≤ 7293034) (KN : NX9 k v cj mz o b i ce sl) : GG k ce sl [w9, u9, cOut v o f] [(4, .int (nI i)), (0, .ref b), (1, .ref cj), (2, .ref mz), (3, .ref o)] 569 [] := by
  obtain ⟨fs9, hq⟩ := IC9_hd hC
  obtain ⟨fs8, hqM⟩ := IM9_hd hM
  have hn12 := hW.1
  have hT6 := IC9_T hC
  rcases rng9 (xs (i + 1)) (n := n + 1) (by omega) with ⟨i0, h0, e0⟩ | h0
  · refine g_aload_n X dL_law_569 2 rfl rfl ?_
    refine g_aload_n X dL_law_570 1 rfl rfl ?_
    refine g_iload X dL_law_571 0 rfl ?_
    refine g_iconst (x := nI 1) X dL_law_573 (by decide +kernel) ?_
    refine g_iaddN X dL_law_574 ?_
    refine g_sld X hs dL_law_575 (by omega) hL9 ?_
    refine g_v (y := nI i0) (e0) ?_
    refine g_aload_n X dL_law_576 4 rfl rfl ?_
    refine g_callW (As := [.ref cj, .int (nI i0), .ref o]) (rest := []) (wr := [u9]) X hnc (w_L_demand l v cj o (nI i0) w9 f (fun w => IC9 v cj P n lo hi H c tx ln w) ({ frames := 7, cells := 0, slots := 0, locals := 118 }) (nI (dmV P n i0)) hq rfl rfl (by decide) (by decide) (Cc_X6_demand l v cj hC hW hL i0 h0)) f_L_demand q_24_11 dL_law_577 [0, 2] [1] rfl rfl (by decide) rfl rfl (Nat.le_of_ble_eq_true rfl) ⟨rfl, rfl, by decide +kernel, by decide +kernel, (by show _ ≤ 601024; omega), (by show _ ≤ 7293034; omega)⟩ (fun r_ w_ hp1 => ?_)
    obtain ⟨rfl, w1, f1, hC1, hf1, rfl⟩ := hp1
    show GG k _ _ [w1, cOut v o f1, u9] _ _ [.int (nI 0)]
    refine g_pick (cs' := [w1, u9, cOut v o f1]) [0, 2, 1] rfl rfl ?_
    refine g_istore (lv' := [(5, .int (nI 0)), (4, .int (nI i)), (0, .ref b), (1, .ref cj), (2, .ref mz), (3, .ref o)]) X dL_law_580 (by decide) rfl ?_
    refine g_aload_n X dL_law_582 4 rfl rfl ?_
    refine g_aload_n X dL_law_583 2 rfl rfl ?_
    refine g_iload X dL_law_584 1 rfl ?_
    refine g_iconst (x := nI 1) X dL_law_586 (by decide +kernel) ?_
    refine g_iaddN X dL_law_587 ?_
    refine g_sld X hs dL_law_588 (by omega) hL9 ?_
    refine g_v (y := nI i0) (e0) ?_
    refine g_callV (As := [.int (nI i0)]) (rest := []) (wr := [w1, cOut v o f1]) X (Mc_X7_demand l v hM hW hL i0 h0) f_X7_demand q_24_23 dL_law_589 [1] [0, 2] rfl rfl (by decide) 0 hqM rfl rfl rfl (Nat.le_of_ble_eq_true rfl) ⟨rfl, rfl, by decide +kernel, by decide +kernel, (by show _ ≤ 601024; omega), (by show _ ≤ 7293034; omega)⟩ (fun r_ w_ hp2 => ?_)
    obtain ⟨rfl, u1, hM1, rfl⟩ := hp2
    obtain ⟨fs7, hqN⟩ := IM9_hd hM1
    show GG k _ _ [u1, w1, cOut v o f1] _ _ [.int (nI (dmV P n i0))]
    refine g_pick (cs' := [w1, u1, cOut v o f1]) [1, 0, 2] rfl rfl ?_
    refine g_istore (lv' := [(6, .int (nI (dmV P n i0))), (5, .int (nI 0)), (4, .int (nI i)), (0, .ref b), (1, .ref cj), (2, .ref mz), (3, .ref o)]) X dL_law_592 (by decide) rfl ?_
    refine g_aload_n X dL_law_594 5 rfl rfl ?_
    refine g_callV (As := []) (rest := []) (wr := [w1, cOut v o f1]) X (Mc_X7_thrown l v hM1 hW hL) f_X7_thrown q_16_9 dL_law_595 [1] [0, 2] rfl rfl (by decide) 0 hqN rfl rfl rfl (Nat.le_of_ble_eq_true rfl) ⟨rfl, rfl, by decide +kernel, by decide +kernel, (by show _ ≤ 601024; omega), (by show _ ≤ 7293034; omega)⟩ (fun r_ w_ hp3 => ?_)
    obtain ⟨rfl, u2, hM2, rfl⟩ := hp3
    show GG k _ _ [u2, w1, cOut v o f1] _ _ [.int (nI 0)]
    refine g_pick (cs' := [w1, u2, cOut v o f1]) [1, 0, 2] rfl rfl ?_
    refine g_iload X dL_law_598 1 rfl ?_
    refine g_icmp_eqN (tgt := 605) X dL_law_600 (by decide) (by omega) (by omega) (fun c600 => ?_) (fun c600 => ?_)
    · refine g_iload X dL_law_605 1 rfl ?_
      refine g_if_neN (tgt := 622) X dL_law_607 (by decide) (by omega) (fun c607 => ?_) (fun c607 => ?_)
      · exact absurd rfl c607
      · refine g_aload_n X dL_law_610 6 rfl rfl ?_
        refine g_iconst (x := nI 0) X dL_law_611 (by decide +kernel) ?_
        refine g_lald X dL_law_612 2 0 rfl rfl (by omega) (by omega) ?_
        refine g_vl (y := (nI (dmV P n i0)).toInt64) (hf1) ?_
        refine g_iload X dL_law_613 0 rfl ?_
        refine g_i2l X dL_law_615 rfl ?_
        refine g_lcmp X dL_law_616 ?_
        refine g_v (y := nI 0) (lg_self _) ?_
        refine g_if_eqN (tgt := 622) X dL_law_617 (by decide) (by omega) (fun c617 => ?_) (fun c617 => ?_)
        · refine g_goto (tgt := 1328) X dL_law_622 (by decide) ?_
          refine g_lv (lv' := [(4, .int (nI i)), (0, .ref b), (1, .ref cj), (2, .ref mz), (3, .ref o)]) [2, 3, 4, 5, 6] rfl ?_
          exact KN hC1 hM2 hW hL (by omega) (by omega)
        · exact absurd rfl c617
    · exact absurd c600 (by decide)
  · refine g_aload_n X dL_law_569 2 rfl rfl ?_
    refine g_aload_n X dL_law_570 1 rfl rfl ?_
    refine g_iload X dL_law_571 0 rfl ?_
    refine g_iconst (x := nI 1) X dL_law_573 (by decide +kernel) ?_
    refine g_iaddN X dL_law_574 ?_
    refine g_sld X hs dL_law_575 (by omega) hL9 ?_
    refine g_aload_n X dL_law_576 4 rfl rfl ?_
    refine g_callW (As := [.ref cj, .int (xs (i + 1)), .ref o]) (rest := []) (wr := [u9]) X hnc (w1_L_demand l v cj o (xs (i + 1)) w9 f (fun w => IC9 v cj P n lo hi H c tx ln w) ({ frames := 7, cells := 1, slots := 6, locals := 120 }) hq rfl rfl (by decide) (by decide) (Cb_X6_demand l v hst cj hC hW hL (xs (i + 1)) h0)) f_L_demand q_24_11 dL_law_577 [0, 2] [1] rfl rfl (by decide) rfl rfl (Nat.le_of_ble_eq_true rfl) ⟨rfl, rfl, by decide +kernel, by decide +kernel, (by show _ ≤ 601024; omega), (by show _ ≤ 7293034; omega)⟩ (fun r_ w_ hp4 => ?_)
    obtain ⟨rfl, w1, hC1, rfl⟩ := hp4
    show GG k _ _ [w1, cOut v o f, u9] _ _ [.int (nI 1)]
    refine g_pick (cs' := [w1, u9, cOut v o f]) [0, 2, 1] rfl rfl ?_
    refine g_istore (lv' := [(5, .int (nI 1)), (4, .int (nI i)), (0, .ref b), (1, .ref cj), (2, .ref mz), (3, .ref o)]) X dL_law_580 (by decide) rfl ?_
    refine g_aload_n X dL_law_582 4 rfl rfl ?_
    refine g_aload_n X dL_law_583 2 rfl rfl ?_
    refine g_iload X dL_law_584 1 rfl ?_
    refine g_iconst (x := nI 1) X dL_law_586 (by decide +kernel) ?_
    refine g_iaddN X dL_law_587 ?_
    refine g_sld X hs dL_law_588 (by omega) hL9 ?_
    refine g_callV (As := [.int (xs (i + 1))]) (rest := []) (wr := [w1, cOut v o f]) X (Mb_X7_demand l v hM hW hL (xs (i + 1)) h0) f_X7_demand q_24_23 dL_law_589 [1] [0, 2] rfl rfl (by decide) 0 hqM rfl rfl rfl (Nat.le_of_ble_eq_true rfl) ⟨rfl, rfl, by decide +kernel, by decide +kernel, (by show _ ≤ 601024; omega), (by show _ ≤ 7293034; omega)⟩ (fun r_ w_ hp5 => ?_)
    obtain ⟨rfl, u1, hM1, rfl⟩ := hp5
    obtain ⟨fs7, hqN⟩ := IM9_hd hM1
    show GG k _ _ [u1, w1, cOut v o f] _ _ [.int (nI 0)]
    refine g_pick (cs' := [w1, u1, cOut v o f]) [1, 0, 2] rfl rfl ?_
    refine g_istore (lv' := [(6, .int (nI 0)), (5, .int (nI 1)), (4, .int (nI i)), (0, .ref b), (1, .ref cj), (2, .ref mz), (3, .ref o)]) X dL_law_592 (by decide) rfl ?_
    refine g_aload_n X dL_law_594 5 rfl rfl ?_
    refine g_callV (As := []) (rest := []) (wr := [w1, cOut v o f]) X (Mc_X7_thrown l v hM1 hW hL) f_X7_thrown q_16_9 dL_law_595 [1] [0, 2] rfl rfl (by decide) 0 hqN rfl rfl rfl (Nat.le_of_ble_eq_true rfl) ⟨rfl, rfl, by decide +kernel, by decide +kernel, (by show _ ≤ 601024; omega), (by show _ ≤ 7293034; omega)⟩ (fun r_ w_ hp6 => ?_)
    obtain ⟨rfl, u2, hM2, rfl⟩ := hp6
    show GG k _ _ [u2, w1, cOut v o f] _ _ [.int (nI 1)]
    refine g_pick (cs' := [w1, u2, cOut v o f]) [1, 0, 2] rfl rfl ?_
    refine g_iload X dL_law_598 1 rfl ?_
    refine g_icmp_eqN (tgt := 605) X dL_law_600 (by decide) (by omega) (by omega) (fun c600 => ?_) (fun c600 => ?_)
    · refine g_iload X dL_law_605 1 rfl ?_
      refine g_if_neN (tgt := 622) X dL_law_607 (by decide) (by omega) (fun c607 => ?_) (fun c607 => ?_)
      · refine g_goto (tgt := 1328) X dL_law_622 (by decide) ?_
        refine g_lv (lv' := [(4, .int (nI i)), (0, .ref b), (1, .ref cj), (2, .ref mz), (3, .ref o)]) [2, 3, 4, 5, 6] rfl ?_
        exact KN hC1 hM2 hW hL (by omega) (by omega)
      · exact absurd c607 (by decide)
    · exact absurd c600 (by decide)

set_option maxHeartbeats 4000000 in
set_option maxRecDepth 100000 in
theorem op_demands {k : KX} {l : Launch} {v : VV} {cj mz o b L i ce sl : Nat} {xs : Nat → Int32} (X : CX k l v cL_law "ClaimJudgeLaw" room_1 9) (hs : SCk k b L xs) (hnc : NCk k) (hst : l.stackTraces = false) (hL9 : L ≤ 2560) {P : Nat → S9} {n : Nat} {lo hi : Nat → Nat} {H : Nat → HE9} {c : Nat} {tx : Nat → Nat} {ln : Nat} {th : Int32} {w9 u9 : va_W} {f : Nat → Int64} (hC : IC9 v cj P n lo hi H c tx ln w9) (hM : IM9 v mz P n lo hi H c tx ln th u9) (hW : WF P n) (hL : AsW lo hi) (hi9 : i + 4 < L) (hce : ce + 1 ≤ 601024) (hsl : sl + 6 ≤ 7293034) (KN : NX9 k v cj mz o b i ce sl) : GG k ce sl [w9, u9, cOut v o f] [(4, .int (nI i)), (0, .ref b), (1, .ref cj), (2, .ref mz), (3, .ref o)] 625 [] := by
  obtain ⟨fs9, hq⟩ := IC9_hd hC
  obtain ⟨fs8, hqM⟩ := IM9_hd hM
  have hn12 := hW.1
  have hT6 := IC9_T hC
  rcases rng9 (xs (i + 1)) (n := n + 1) (by omega) with ⟨i0, h0, e0⟩ | h0
  · rcases rng9 (xs (i + 2)) (n := 8) (by omega) with ⟨i1, h1, e1⟩ | h1
    · rcases rng9 (xs (i + 3)) (n := 8) (by omega) with ⟨i2, h2, e2⟩ | h2
      · rcases rng9 (xs (i + 4)) (n := 8) (by omega) with ⟨i3, h3, e3⟩ | h3
        · refine g_aload_n X dL_law_625 2 rfl rfl ?_
          refine g_aload_n X dL_law_626 1 rfl rfl ?_
          refine g_iload X dL_law_627 0 rfl ?_
          refine g_iconst (x := nI 1) X dL_law_629 (by decide +kernel) ?_
          refine g_iaddN X dL_law_630 ?_
          refine g_sld X hs dL_law_631 (by omega) hL9 ?_
          refine g_v (y := nI i0) (e0) ?_
          refine g_aload_n X dL_law_632 1 rfl rfl ?_
          refine g_iload X dL_law_633 0 rfl ?_
          refine g_iconst (x := nI 2) X dL_law_635 (by decide +kernel) ?_
          refine g_iaddN X dL_law_636 ?_
          refine g_sld X hs dL_law_637 (by omega) hL9 ?_
          refine g_v (y := nI i1) (e1) ?_
          refine g_aload_n X dL_law_638 1 rfl rfl ?_
          refine g_iload X dL_law_639 0 rfl ?_
          refine g_iconst (x := nI 3) X dL_law_641 (by decide +kernel) ?_
          refine g_iaddN X dL_law_642 ?_
          refine g_sld X hs dL_law_643 (by omega) hL9 ?_
          refine g_v (y := nI i2) (e2) ?_
          refine g_aload_n X dL_law_644 1 rfl rfl ?_
          refine g_iload X dL_law_645 0 rfl ?_
          refine g_iconst (x := nI 4) X dL_law_647 (by decide +kernel) ?_
          refine g_iaddN X dL_law_648 ?_
          refine g_sld X hs dL_law_649 (by omega) hL9 ?_
          refine g_v (y := nI i3) (e3) ?_
          refine g_aload_n X dL_law_650 4 rfl rfl ?_
          refine g_callW (As := [.ref cj, .int (nI i0), .int (nI i1), .int (nI i2), .int (nI i3), .ref o]) (rest := []) (wr := [u9]) X hnc (w_L_demands l v cj o (nI i0) (nI i1) (nI i2) (nI i3) w9 f (fun w => IC9 v cj P n lo hi H c tx ln w) ({ frames := 7, cells := 0, slots := 0, locals := 118 }) (decide (1000 ≤ EE P n (i0 * 512 + (64 * i1 + 8 * i2 + i3)))) hq rfl rfl (by decide) (by decide) (Cc_X6_demands l v cj hC hW hL i0 i1 i2 i3 h0 h1 h2 h3)) f_L_demands q_25_7 dL_law_651 [0, 2] [1] rfl rfl (by decide) rfl rfl (Nat.le_of_ble_eq_true rfl) ⟨rfl, rfl, by decide +kernel, by decide +kernel, (by show _ ≤ 601024; omega), (by show _ ≤ 7293034; omega)⟩ (fun r_ w_ hp1 => ?_)
          obtain ⟨rfl, w1, f1, hC1, hf1, rfl⟩ := hp1
          show GG k _ _ [w1, cOut v o f1, u9] _ _ [.int (nI 0)]
          refine g_pick (cs' := [w1, u9, cOut v o f1]) [0, 2, 1] rfl rfl ?_
          refine g_istore (lv' := [(5, .int (nI 0)), (4, .int (nI i)), (0, .ref b), (1, .ref cj), (2, .ref mz), (3, .ref o)]) X dL_law_654 (by decide) rfl ?_
          refine g_aload_n X dL_law_656 4 rfl rfl ?_
          refine g_aload_n X dL_law_657 2 rfl rfl ?_
          refine g_iload X dL_law_658 1 rfl ?_
          refine g_iconst (x := nI 1) X dL_law_660 (by decide +kernel) ?_
          refine g_iaddN X dL_law_661 ?_
          refine g_sld X hs dL_law_662 (by omega) hL9 ?_
          refine g_v (y := nI i0) (e0) ?_
          refine g_aload_n X dL_law_663 2 rfl rfl ?_
          refine g_iload X dL_law_664 1 rfl ?_
          refine g_iconst (x := nI 2) X dL_law_666 (by decide +kernel) ?_
          refine g_iaddN X dL_law_667 ?_
          refine g_sld X hs dL_law_668 (by omega) hL9 ?_
          refine g_v (y := nI i1) (e1) ?_
          refine g_aload_n X dL_law_669 2 rfl rfl ?_
          refine g_iload X dL_law_670 1 rfl ?_
          refine g_iconst (x := nI 3) X dL_law_672 (by decide +kernel) ?_
          refine g_iaddN X dL_law_673 ?_
          refine g_sld X hs dL_law_674 (by omega) hL9 ?_
          refine g_v (y := nI i2) (e2) ?_
          refine g_aload_n X dL_law_675 2 rfl rfl ?_
          refine g_iload X dL_law_676 1 rfl ?_
          refine g_iconst (x := nI 4) X dL_law_678 (by decide +kernel) ?_
          refine g_iaddN X dL_law_679 ?_
          refine g_sld X hs dL_law_680 (by omega) hL9 ?_
          refine g_v (y := nI i3) (e3) ?_
          refine g_callV (As := [.int (nI i0), .int (nI i1), .int (nI i2), .int (nI i3)]) (rest := []) (wr := [w1, cOut v o f1]) X (Mc_X7_demands l v hM hW hL i0 i1 i2 i3 h0 h1 h2 h3) f_X7_demands q_25_14 dL_law_681 [1] [0, 2] rfl rfl (by decide) 0 hqM rfl rfl rfl (Nat.le_of_ble_eq_true rfl) ⟨rfl, rfl, by decide +kernel, by decide +kernel, (by show _ ≤ 601024; omega), (by show _ ≤ 7293034; omega)⟩ (fun r_ w_ hp2 => ?_)
          obtain ⟨rfl, u1, hM1, rfl⟩ := hp2
          obtain ⟨fs7, hqN⟩ := IM9_hd hM1
          show GG k _ _ [u1, w1, cOut v o f1] _ _ [.int (bI (decide (1000 ≤ EE P n (i0 * 512 + (64 * i1 + 8 * i2 + i3)))))]
          refine g_pick (cs' := [w1, u1, cOut v o f1]) [1, 0, 2] rfl rfl ?_
          refine g_istore (lv' := [(6, .int (bI (decide (1000 ≤ EE P n (i0 * 512 + (64 * i1 + 8 * i2 + i3)))))), (5, .int (nI 0)), (4, .int (nI i)), (0, .ref b), (1, .ref cj), (2, .ref mz), (3, .ref o)]) X dL_law_684 (by decide) rfl ?_
          refine g_aload_n X dL_law_686 5 rfl rfl ?_
          refine g_callV (As := []) (rest := []) (wr := [w1, cOut v o f1]) X (Mc_X7_thrown l v hM1 hW hL) f_X7_thrown q_16_9 dL_law_687 [1] [0, 2] rfl rfl (by decide) 0 hqN rfl rfl rfl (Nat.le_of_ble_eq_true rfl) ⟨rfl, rfl, by decide +kernel, by decide +kernel, (by show _ ≤ 601024; omega), (by show _ ≤ 7293034; omega)⟩ (fun r_ w_ hp3 => ?_)
          obtain ⟨rfl, u2, hM2, rfl⟩ := hp3
          show GG k _ _ [u2, w1, cOut v o f1] _ _ [.int (nI 0)]
          refine g_pick (cs' := [w1, u2, cOut v o f1]) [1, 0, 2] rfl rfl ?_
          refine g_iload X dL_law_690 1 rfl ?_
          refine g_icmp_eqN (tgt := 697) X dL_law_692 (by decide) (by omega) (by omega) (fun c692 => ?_) (fun c692 => ?_)
          · refine g_iload X dL_law_697 1 rfl ?_
            refine g_if_neN (tgt := 721) X dL_law_699 (by decide) (by omega) (fun c699 => ?_) (fun c699 => ?_)
            · exact absurd rfl c699
            · refine g_aload_n X dL_law_702 6 rfl rfl ?_
              refine g_iconst (x := nI 0) X dL_law_703 (by decide +kernel) ?_
              refine g_lald X dL_law_704 2 0 rfl rfl (by omega) (by omega) ?_
              refine g_vl (y := bL ((decide (1000 ≤ EE P n (i0 * 512 + (64 * i1 + 8 * i2 + i3)))))) (hf1) ?_
              refine g_iload X dL_law_705 0 rfl ?_
              refine g_if_eqB (tgt := 714) X dL_law_707 (by decide) (fun c707 => ?_) (fun c707 => ?_)
              · refine g_lconst (x := (0 : Int64)) X dL_law_714 (by decide +kernel) ?_
                refine g_lcmp X dL_law_715 ?_
                refine g_v (y := nI 0) (by rw [c707]; decide) ?_
                refine g_if_eqN (tgt := 721) X dL_law_716 (by decide) (by omega) (fun c716 => ?_) (fun c716 => ?_)
                · refine g_goto (tgt := 1328) X dL_law_721 (by decide) ?_
                  refine g_lv (lv' := [(4, .int (nI i)), (0, .ref b), (1, .ref cj), (2, .ref mz), (3, .ref o)]) [2, 3, 4, 5, 6] rfl ?_
                  exact KN hC1 hM2 hW hL (by omega) (by omega)
                · exact absurd rfl c716
              · refine g_lconst (x := (1 : Int64)) X dL_law_710 (by decide +kernel) ?_
                refine g_goto (tgt := 715) X dL_law_711 (by decide) ?_
                refine g_lcmp X dL_law_715 ?_
                refine g_v (y := nI 0) (by rw [c707]; decide) ?_
                refine g_if_eqN (tgt := 721) X dL_law_716 (by decide) (by omega) (fun c716 => ?_) (fun c716 => ?_)
                · refine g_goto (tgt := 1328) X dL_law_721 (by decide) ?_
                  refine g_lv (lv' := [(4, .int (nI i)), (0, .ref b), (1, .ref cj), (2, .ref mz), (3, .ref o)]) [2, 3, 4, 5, 6] rfl ?_
                  exact KN hC1 hM2 hW hL (by omega) (by omega)
                · exact absurd rfl c716
          · exact absurd c692 (by decide)
        · refine g_aload_n X dL_law_625 2 rfl rfl ?_
          refine g_aload_n X dL_law_626 1 rfl rfl ?_
          refine g_iload X dL_law_627 0 rfl ?_
          refine g_iconst (x := nI 1) X dL_law_629 (by decide +kernel) ?_
          refine g_iaddN X dL_law_630 ?_
          refine g_sld X hs dL_law_631 (by omega) hL9 ?_
          refine g_v (y := nI i0) (e0) ?_
          refine g_aload_n X dL_law_632 1 rfl rfl ?_
          refine g_iload X dL_law_633 0 rfl ?_
          refine g_iconst (x := nI 2) X dL_law_635 (by decide +kernel) ?_
          refine g_iaddN X dL_law_636 ?_
          refine g_sld X hs dL_law_637 (by omega) hL9 ?_
          refine g_v (y := nI i1) (e1) ?_
          refine g_aload_n X dL_law_638 1 rfl rfl ?_
          refine g_iload X dL_law_639 0 rfl ?_
          refine g_iconst (x := nI 3) X dL_law_641 (by decide +kernel) ?_
          refine g_iaddN X dL_law_642 ?_
          refine g_sld X hs dL_law_643 (by omega) hL9 ?_
          refine g_v (y := nI i2) (e2) ?_
          refine g_aload_n X dL_law_644 1 rfl rfl ?_
          refine g_iload X dL_law_645 0 rfl ?_
          refine g_iconst (x := nI 4) X dL_law_647 (by decide +kernel) ?_
          refine g_iaddN X dL_law_648 ?_
          refine g_sld X hs dL_law_649 (by omega) hL9 ?_
          refine g_aload_n X dL_law_650 4 rfl rfl ?_
          refine g_callW (As := [.ref cj, .int (nI i0), .int (nI i1), .int (nI i2), .int (xs (i + 4)), .ref o]) (rest := []) (wr := [u9]) X hnc (w2_L_demands l v cj o (nI i0) (nI i1) (nI i2) (xs (i + 4)) w9 f (fun w => IC9 v cj P n lo hi H c tx ln w) ({ frames := 7, cells := 1, slots := 6, locals := 120 }) hq rfl rfl (by decide) (by decide) (Cb2_X6_demands l v hst cj hC hW hL i0 i1 i2 (xs (i + 4)) h0 h1 h2 h3)) f_L_demands q_25_7 dL_law_651 [0, 2] [1] rfl rfl (by decide) rfl rfl (Nat.le_of_ble_eq_true rfl) ⟨rfl, rfl, by decide +kernel, by decide +kernel, (by show _ ≤ 601024; omega), (by show _ ≤ 7293034; omega)⟩ (fun r_ w_ hp4 => ?_)
          obtain ⟨rfl, w1, hC1, rfl⟩ := hp4
          show GG k _ _ [w1, cOut v o f, u9] _ _ [.int (nI 2)]
          refine g_pick (cs' := [w1, u9, cOut v o f]) [0, 2, 1] rfl rfl ?_
          refine g_istore (lv' := [(5, .int (nI 2)), (4, .int (nI i)), (0, .ref b), (1, .ref cj), (2, .ref mz), (3, .ref o)]) X dL_law_654 (by decide) rfl ?_
          refine g_aload_n X dL_law_656 4 rfl rfl ?_
          refine g_aload_n X dL_law_657 2 rfl rfl ?_
          refine g_iload X dL_law_658 1 rfl ?_
          refine g_iconst (x := nI 1) X dL_law_660 (by decide +kernel) ?_
          refine g_iaddN X dL_law_661 ?_
          refine g_sld X hs dL_law_662 (by omega) hL9 ?_
          refine g_v (y := nI i0) (e0) ?_
          refine g_aload_n X dL_law_663 2 rfl rfl ?_
          refine g_iload X dL_law_664 1 rfl ?_
          refine g_iconst (x := nI 2) X dL_law_666 (by decide +kernel) ?_
          refine g_iaddN X dL_law_667 ?_
          refine g_sld X hs dL_law_668 (by omega) hL9 ?_
          refine g_v (y := nI i1) (e1) ?_
          refine g_aload_n X dL_law_669 2 rfl rfl ?_
          refine g_iload X dL_law_670 1 rfl ?_
          refine g_iconst (x := nI 3) X dL_law_672 (by decide +kernel) ?_
          refine g_iaddN X dL_law_673 ?_
          refine g_sld X hs dL_law_674 (by omega) hL9 ?_
          refine g_v (y := nI i2) (e2) ?_
          refine g_aload_n X dL_law_675 2 rfl rfl ?_
          refine g_iload X dL_law_676 1 rfl ?_
          refine g_iconst (x := nI 4) X dL_law_678 (by decide +kernel) ?_
          refine g_iaddN X dL_law_679 ?_
          refine g_sld X hs dL_law_680 (by omega) hL9 ?_
          refine g_callV (As := [.int (nI i0), .int (nI i1), .int (nI i2), .int (xs (i + 4))]) (rest := []) (wr := [w1, cOut v o f]) X (Mb2_X7_demands l v hM hW hL i0 i1 i2 (xs (i + 4)) h0 h1 h2 h3) f_X7_demands q_25_14 dL_law_681 [1] [0, 2] rfl rfl (by decide) 0 hqM rfl rfl rfl (Nat.le_of_ble_eq_true rfl) ⟨rfl, rfl, by decide +kernel, by decide +kernel, (by show _ ≤ 601024; omega), (by show _ ≤ 7293034; omega)⟩ (fun r_ w_ hp5 => ?_)
          obtain ⟨rfl, u1, hM1, rfl⟩ := hp5
          obtain ⟨fs7, hqN⟩ := IM9_hd hM1
          show GG k _ _ [u1, w1, cOut v o f] _ _ [.int (nI 0)]
          refine g_pick (cs' := [w1, u1, cOut v o f]) [1, 0, 2] rfl rfl ?_
          refine g_istore (lv' := [(6, .int (nI 0)), (5, .int (nI 2)), (4, .int (nI i)), (0, .ref b), (1, .ref cj), (2, .ref mz), (3, .ref o)]) X dL_law_684 (by decide) rfl ?_
          refine g_aload_n X dL_law_686 5 rfl rfl ?_
          refine g_callV (As := []) (rest := []) (wr := [w1, cOut v o f]) X (Mc_X7_thrown l v hM1 hW hL) f_X7_thrown q_16_9 dL_law_687 [1] [0, 2] rfl rfl (by decide) 0 hqN rfl rfl rfl (Nat.le_of_ble_eq_true rfl) ⟨rfl, rfl, by decide +kernel, by decide +kernel, (by show _ ≤ 601024; omega), (by show _ ≤ 7293034; omega)⟩ (fun r_ w_ hp6 => ?_)
          obtain ⟨rfl, u2, hM2, rfl⟩ := hp6
          show GG k _ _ [u2, w1, cOut v o f] _ _ [.int (nI 2)]
          refine g_pick (cs' := [w1, u2, cOut v o f]) [1, 0, 2] rfl rfl ?_
          refine g_iload X dL_law_690 1 rfl ?_
          refine g_icmp_eqN (tgt := 697) X dL_law_692 (by decide) (by omega) (by omega) (fun c692 => ?_) (fun c692 => ?_)
          · refine g_iload X dL_law_697 1 rfl ?_
            refine g_if_neN (tgt := 721) X dL_law_699 (by decide) (by omega) (fun c699 => ?_) (fun c699 => ?_)
            · refine g_goto (tgt := 1328) X dL_law_721 (by decide) ?_
              refine g_lv (lv' := [(4, .int (nI i)), (0, .ref b), (1, .ref cj), (2, .ref mz), (3, .ref o)]) [2, 3, 4, 5, 6] rfl ?_
              exact KN hC1 hM2 hW hL (by omega) (by omega)
            · exact absurd c699 (by decide)
          · exact absurd c692 (by decide)
      · refine g_aload_n X dL_law_625 2 rfl rfl ?_
        refine g_aload_n X dL_law_626 1 rfl rfl ?_
        refine g_iload X dL_law_627 0 rfl ?_
        refine g_iconst (x := nI 1) X dL_law_629 (by decide +kernel) ?_
        refine g_iaddN X dL_law_630 ?_
        refine g_sld X hs dL_law_631 (by omega) hL9 ?_
        refine g_v (y := nI i0) (e0) ?_
        refine g_aload_n X dL_law_632 1 rfl rfl ?_
        refine g_iload X dL_law_633 0 rfl ?_
        refine g_iconst (x := nI 2) X dL_law_635 (by decide +kernel) ?_
        refine g_iaddN X dL_law_636 ?_
        refine g_sld X hs dL_law_637 (by omega) hL9 ?_
        refine g_v (y := nI i1) (e1) ?_
        refine g_aload_n X dL_law_638 1 rfl rfl ?_
        refine g_iload X dL_law_639 0 rfl ?_
        refine g_iconst (x := nI 3) X dL_law_641 (by decide +kernel) ?_
        refine g_iaddN X dL_law_642 ?_
        refine g_sld X hs dL_law_643 (by omega) hL9 ?_
        refine g_aload_n X dL_law_644 1 rfl rfl ?_
        refine g_iload X dL_law_645 0 rfl ?_
        refine g_iconst (x := nI 4) X dL_law_647 (by decide +kernel) ?_
        refine g_iaddN X dL_law_648 ?_
        refine g_sld X hs dL_law_649 (by omega) hL9 ?_
        refine g_aload_n X dL_law_650 4 rfl rfl ?_
        refine g_callW (As := [.ref cj, .int (nI i0), .int (nI i1), .int (xs (i + 3)), .int (xs (i + 4)), .ref o]) (rest := []) (wr := [u9]) X hnc (w2_L_demands l v cj o (nI i0) (nI i1) (xs (i + 3)) (xs (i + 4)) w9 f (fun w => IC9 v cj P n lo hi H c tx ln w) ({ frames := 7, cells := 1, slots := 6, locals := 120 }) hq rfl rfl (by decide) (by decide) (Cb1_X6_demands l v hst cj hC hW hL i0 i1 (xs (i + 3)) (xs (i + 4)) h0 h1 h2)) f_L_demands q_25_7 dL_law_651 [0, 2] [1] rfl rfl (by decide) rfl rfl (Nat.le_of_ble_eq_true rfl) ⟨rfl, rfl, by decide +kernel, by decide +kernel, (by show _ ≤ 601024; omega), (by show _ ≤ 7293034; omega)⟩ (fun r_ w_ hp7 => ?_)
        obtain ⟨rfl, w1, hC1, rfl⟩ := hp7
        show GG k _ _ [w1, cOut v o f, u9] _ _ [.int (nI 2)]
        refine g_pick (cs' := [w1, u9, cOut v o f]) [0, 2, 1] rfl rfl ?_
        refine g_istore (lv' := [(5, .int (nI 2)), (4, .int (nI i)), (0, .ref b), (1, .ref cj), (2, .ref mz), (3, .ref o)]) X dL_law_654 (by decide) rfl ?_
        refine g_aload_n X dL_law_656 4 rfl rfl ?_
        refine g_aload_n X dL_law_657 2 rfl rfl ?_
        refine g_iload X dL_law_658 1 rfl ?_
        refine g_iconst (x := nI 1) X dL_law_660 (by decide +kernel) ?_
        refine g_iaddN X dL_law_661 ?_
        refine g_sld X hs dL_law_662 (by omega) hL9 ?_
        refine g_v (y := nI i0) (e0) ?_
        refine g_aload_n X dL_law_663 2 rfl rfl ?_
        refine g_iload X dL_law_664 1 rfl ?_
        refine g_iconst (x := nI 2) X dL_law_666 (by decide +kernel) ?_
        refine g_iaddN X dL_law_667 ?_
        refine g_sld X hs dL_law_668 (by omega) hL9 ?_
        refine g_v (y := nI i1) (e1) ?_
        refine g_aload_n X dL_law_669 2 rfl rfl ?_
        refine g_iload X dL_law_670 1 rfl ?_
        refine g_iconst (x := nI 3) X dL_law_672 (by decide +kernel) ?_
        refine g_iaddN X dL_law_673 ?_
        refine g_sld X hs dL_law_674 (by omega) hL9 ?_
        refine g_aload_n X dL_law_675 2 rfl rfl ?_
        refine g_iload X dL_law_676 1 rfl ?_
        refine g_iconst (x := nI 4) X dL_law_678 (by decide +kernel) ?_
        refine g_iaddN X dL_law_679 ?_
        refine g_sld X hs dL_law_680 (by omega) hL9 ?_
        refine g_callV (As := [.int (nI i0), .int (nI i1), .int (xs (i + 3)), .int (xs (i + 4))]) (rest := []) (wr := [w1, cOut v o f]) X (Mb1_X7_demands l v hM hW hL i0 i1 (xs (i + 3)) (xs (i + 4)) h0 h1 h2) f_X7_demands q_25_14 dL_law_681 [1] [0, 2] rfl rfl (by decide) 0 hqM rfl rfl rfl (Nat.le_of_ble_eq_true rfl) ⟨rfl, rfl, by decide +kernel, by decide +kernel, (by show _ ≤ 601024; omega), (by show _ ≤ 7293034; omega)⟩ (fun r_ w_ hp8 => ?_)
        obtain ⟨rfl, u1, hM1, rfl⟩ := hp8
        obtain ⟨fs7, hqN⟩ := IM9_hd hM1
        show GG k _ _ [u1, w1, cOut v o f] _ _ [.int (nI 0)]
        refine g_pick (cs' := [w1, u1, cOut v o f]) [1, 0, 2] rfl rfl ?_
        refine g_istore (lv' := [(6, .int (nI 0)), (5, .int (nI 2)), (4, .int (nI i)), (0, .ref b), (1, .ref cj), (2, .ref mz), (3, .ref o)]) X dL_law_684 (by decide) rfl ?_
        refine g_aload_n X dL_law_686 5 rfl rfl ?_
        refine g_callV (As := []) (rest := []) (wr := [w1, cOut v o f]) X (Mc_X7_thrown l v hM1 hW hL) f_X7_thrown q_16_9 dL_law_687 [1] [0, 2] rfl rfl (by decide) 0 hqN rfl rfl rfl (Nat.le_of_ble_eq_true rfl) ⟨rfl, rfl, by decide +kernel, by decide +kernel, (by show _ ≤ 601024; omega), (by show _ ≤ 7293034; omega)⟩ (fun r_ w_ hp9 => ?_)
        obtain ⟨rfl, u2, hM2, rfl⟩ := hp9
        show GG k _ _ [u2, w1, cOut v o f] _ _ [.int (nI 2)]
        refine g_pick (cs' := [w1, u2, cOut v o f]) [1, 0, 2] rfl rfl ?_
        refine g_iload X dL_law_690 1 rfl ?_
        refine g_icmp_eqN (tgt := 697) X dL_law_692 (by decide) (by omega) (by omega) (fun c692 => ?_) (fun c692 => ?_)
        · refine g_iload X dL_law_697 1 rfl ?_
          refine g_if_neN (tgt := 721) X dL_law_699 (by decide) (by omega) (fun c699 => ?_) (fun c699 => ?_)
          · refine g_goto (tgt := 1328) X dL_law_721 (by decide) ?_
            refine g_lv (lv' := [(4, .int (nI i)), (0, .ref b), (1, .ref cj), (2, .ref mz), (3, .ref o)]) [2, 3, 4, 5, 6] rfl ?_
            exact KN hC1 hM2 hW hL (by omega) (by omega)
          · exact absurd c699 (by decide)
        · exact absurd c692 (by decide)
    · refine g_aload_n X dL_law_625 2 rfl rfl ?_
      refine g_aload_n X dL_law_626 1 rfl rfl ?_
      refine g_iload X dL_law_627 0 rfl ?_
      refine g_iconst (x := nI 1) X dL_law_629 (by decide +kernel) ?_
      refine g_iaddN X dL_law_630 ?_
      refine g_sld X hs dL_law_631 (by omega) hL9 ?_
      refine g_v (y := nI i0) (e0) ?_
      refine g_aload_n X dL_law_632 1 rfl rfl ?_
      refine g_iload X dL_law_633 0 rfl ?_
      refine g_iconst (x := nI 2) X dL_law_635 (by decide +kernel) ?_
      refine g_iaddN X dL_law_636 ?_
      refine g_sld X hs dL_law_637 (by omega) hL9 ?_
      refine g_aload_n X dL_law_638 1 rfl rfl ?_
      refine g_iload X dL_law_639 0 rfl ?_
      refine g_iconst (x := nI 3) X dL_law_641 (by decide +kernel) ?_
      refine g_iaddN X dL_law_642 ?_
      refine g_sld X hs dL_law_643 (by omega) hL9 ?_
      refine g_aload_n X dL_law_644 1 rfl rfl ?_
      refine g_iload X dL_law_645 0 rfl ?_
      refine g_iconst (x := nI 4) X dL_law_647 (by decide +kernel) ?_
      refine g_iaddN X dL_law_648 ?_
      refine g_sld X hs dL_law_649 (by omega) hL9 ?_
      refine g_aload_n X dL_law_650 4 rfl rfl ?_
      refine g_callW (As := [.ref cj, .int (nI i0), .int (xs (i + 2)), .int (xs (i + 3)), .int (xs (i + 4)), .ref o]) (rest := []) (wr := [u9]) X hnc (w2_L_demands l v cj o (nI i0) (xs (i + 2)) (xs (i + 3)) (xs (i + 4)) w9 f (fun w => IC9 v cj P n lo hi H c tx ln w) ({ frames := 7, cells := 1, slots := 6, locals := 120 }) hq rfl rfl (by decide) (by decide) (Cb0_X6_demands l v hst cj hC hW hL i0 (xs (i + 2)) (xs (i + 3)) (xs (i + 4)) h0 h1)) f_L_demands q_25_7 dL_law_651 [0, 2] [1] rfl rfl (by decide) rfl rfl (Nat.le_of_ble_eq_true rfl) ⟨rfl, rfl, by decide +kernel, by decide +kernel, (by show _ ≤ 601024; omega), (by show _ ≤ 7293034; omega)⟩ (fun r_ w_ hp10 => ?_)
      obtain ⟨rfl, w1, hC1, rfl⟩ := hp10
      show GG k _ _ [w1, cOut v o f, u9] _ _ [.int (nI 2)]
      refine g_pick (cs' := [w1, u9, cOut v o f]) [0, 2, 1] rfl rfl ?_
      refine g_istore (lv' := [(5, .int (nI 2)), (4, .int (nI i)), (0, .ref b), (1, .ref cj), (2, .ref mz), (3, .ref o)]) X dL_law_654 (by decide) rfl ?_
      refine g_aload_n X dL_law_656 4 rfl rfl ?_
      refine g_aload_n X dL_law_657 2 rfl rfl ?_
      refine g_iload X dL_law_658 1 rfl ?_
      refine g_iconst (x := nI 1) X dL_law_660 (by decide +kernel) ?_
      refine g_iaddN X dL_law_661 ?_
      refine g_sld X hs dL_law_662 (by omega) hL9 ?_
      refine g_v (y := nI i0) (e0) ?_
      refine g_aload_n X dL_law_663 2 rfl rfl ?_
      refine g_iload X dL_law_664 1 rfl ?_
      refine g_iconst (x := nI 2) X dL_law_666 (by decide +kernel) ?_
      refine g_iaddN X dL_law_667 ?_
      refine g_sld X hs dL_law_668 (by omega) hL9 ?_
      refine g_aload_n X dL_law_669 2 rfl rfl ?_
      refine g_iload X dL_law_670 1 rfl ?_
      refine g_iconst (x := nI 3) X dL_law_672 (by decide +kernel) ?_
      refine g_iaddN X dL_law_673 ?_
      refine g_sld X hs dL_law_674 (by omega) hL9 ?_
      refine g_aload_n X dL_law_675 2 rfl rfl ?_
      refine g_iload X dL_law_676 1 rfl ?_
      refine g_iconst (x := nI 4) X dL_law_678 (by decide +kernel) ?_
      refine g_iaddN X dL_law_679 ?_
      refine g_sld X hs dL_law_680 (by omega) hL9 ?_
      refine g_callV (As := [.int (nI i0), .int (xs (i + 2)), .int (xs (i + 3)), .int (xs (i + 4))]) (rest := []) (wr := [w1, cOut v o f]) X (Mb0_X7_demands l v hM hW hL i0 (xs (i + 2)) (xs (i + 3)) (xs (i + 4)) h0 h1) f_X7_demands q_25_14 dL_law_681 [1] [0, 2] rfl rfl (by decide) 0 hqM rfl rfl rfl (Nat.le_of_ble_eq_true rfl) ⟨rfl, rfl, by decide +kernel, by decide +kernel, (by show _ ≤ 601024; omega), (by show _ ≤ 7293034; omega)⟩ (fun r_ w_ hp11 => ?_)
      obtain ⟨rfl, u1, hM1, rfl⟩ := hp11
      obtain ⟨fs7, hqN⟩ := IM9_hd hM1
      show GG k _ _ [u1, w1, cOut v o f] _ _ [.int (nI 0)]
      refine g_pick (cs' := [w1, u1, cOut v o f]) [1, 0, 2] rfl rfl ?_
      refine g_istore (lv' := [(6, .int (nI 0)), (5, .int (nI 2)), (4, .int (nI i)), (0, .ref b), (1, .ref cj), (2, .ref mz), (3, .ref o)]) X dL_law_684 (by decide) rfl ?_
      refine g_aload_n X dL_law_686 5 rfl rfl ?_
      refine g_callV (As := []) (rest := []) (wr := [w1, cOut v o f]) X (Mc_X7_thrown l v hM1 hW hL) f_X7_thrown q_16_9 dL_law_687 [1] [0, 2] rfl rfl (by decide) 0 hqN rfl rfl rfl (Nat.le_of_ble_eq_true rfl) ⟨rfl, rfl, by decide +kernel, by decide +kernel, (by show _ ≤ 601024; omega), (by show _ ≤ 7293034; omega)⟩ (fun r_ w_ hp12 => ?_)
      obtain ⟨rfl, u2, hM2, rfl⟩ := hp12
      show GG k _ _ [u2, w1, cOut v o f] _ _ [.int (nI 2)]
      refine g_pick (cs' := [w1, u2, cOut v o f]) [1, 0, 2] rfl rfl ?_
      refine g_iload X dL_law_690 1 rfl ?_
      refine g_icmp_eqN (tgt := 697) X dL_law_692 (by decide) (by omega) (by omega) (fun c692 => ?_) (fun c692 => ?_)
      · refine g_iload X dL_law_697 1 rfl ?_
        refine g_if_neN (tgt := 721) X dL_law_699 (by decide) (by omega) (fun c699 => ?_) (fun c699 => ?_)
        · refine g_goto (tgt := 1328) X dL_law_721 (by decide) ?_
          refine g_lv (lv' := [(4, .int (nI i)), (0, .ref b), (1, .ref cj), (2, .ref mz), (3, .ref o)]) [2, 3, 4, 5, 6] rfl ?_
          exact KN hC1 hM2 hW hL (by omega) (by omega)
        · exact absurd c699 (by decide)
      · exact absurd c692 (by decide)
  · refine g_aload_n X dL_law_625 2 rfl rfl ?_
    refine g_aload_n X dL_law_626 1 rfl rfl ?_
    refine g_iload X dL_law_627 0 rfl ?_
    refine g_iconst (x := nI 1) X dL_law_629 (by decide +kernel) ?_
    refine g_iaddN X dL_law_630 ?_
    refine g_sld X hs dL_law_631 (by omega) hL9 ?_
    refine g_aload_n X dL_law_632 1 rfl rfl ?_
    refine g_iload X dL_law_633 0 rfl ?_
    refine g_iconst (x := nI 2) X dL_law_635 (by decide +kernel) ?_
    refine g_iaddN X dL_law_636 ?_
    refine g_sld X hs dL_law_637 (by omega) hL9 ?_
    refine g_aload_n X dL_law_638 1 rfl rfl ?_
    refine g_iload X dL_law_639 0 rfl ?_
    refine g_iconst (x := nI 3) X dL_law_641 (by decide +kernel) ?_
    refine g_iaddN X dL_law_642 ?_
    refine g_sld X hs dL_law_643 (by omega) hL9 ?_
    refine g_aload_n X dL_law_644 1 rfl rfl ?_
    refine g_iload X dL_law_645 0 rfl ?_
    refine g_iconst (x := nI 4) X dL_law_647 (by decide +kernel) ?_
    refine g_iaddN X dL_law_648 ?_
    refine g_sld X hs dL_law_649 (by omega) hL9 ?_
    refine g_aload_n X dL_law_650 4 rfl rfl ?_
    refine g_callW (As := [.ref cj, .int (xs (i + 1)), .int (xs (i + 2)), .int (xs (i + 3)), .int (xs (i + 4)), .ref o]) (rest := []) (wr := [u9]) X hnc (w1_L_demands l v cj o (xs (i + 1)) (xs (i + 2)) (xs (i + 3)) (xs (i + 4)) w9 f (fun w => IC9 v cj P n lo hi H c tx ln w) ({ frames := 7, cells := 1, slots := 6, locals := 120 }) hq rfl rfl (by decide) (by decide) (Cb_X6_demands l v hst cj hC hW hL (xs (i + 1)) (xs (i + 2)) (xs (i + 3)) (xs (i + 4)) h0)) f_L_demands q_25_7 dL_law_651 [0, 2] [1] rfl rfl (by decide) rfl rfl (Nat.le_of_ble_eq_true rfl) ⟨rfl, rfl, by decide +kernel, by decide +kernel, (by show _ ≤ 601024; omega), (by show _ ≤ 7293034; omega)⟩ (fun r_ w_ hp13 => ?_)
    obtain ⟨rfl, w1, hC1, rfl⟩ := hp13
    show GG k _ _ [w1, cOut v o f, u9] _ _ [.int (nI 1)]
    refine g_pick (cs' := [w1, u9, cOut v o f]) [0, 2, 1] rfl rfl ?_
    refine g_istore (lv' := [(5, .int (nI 1)), (4, .int (nI i)), (0, .ref b), (1, .ref cj), (2, .ref mz), (3, .ref o)]) X dL_law_654 (by decide) rfl ?_
    refine g_aload_n X dL_law_656 4 rfl rfl ?_
    refine g_aload_n X dL_law_657 2 rfl rfl ?_
    refine g_iload X dL_law_658 1 rfl ?_
    refine g_iconst (x := nI 1) X dL_law_660 (by decide +kernel) ?_
    refine g_iaddN X dL_law_661 ?_
    refine g_sld X hs dL_law_662 (by omega) hL9 ?_
    refine g_aload_n X dL_law_663 2 rfl rfl ?_
    refine g_iload X dL_law_664 1 rfl ?_
    refine g_iconst (x := nI 2) X dL_law_666 (by decide +kernel) ?_
    refine g_iaddN X dL_law_667 ?_
    refine g_sld X hs dL_law_668 (by omega) hL9 ?_
    refine g_aload_n X dL_law_669 2 rfl rfl ?_
    refine g_iload X dL_law_670 1 rfl ?_
    refine g_iconst (x := nI 3) X dL_law_672 (by decide +kernel) ?_
    refine g_iaddN X dL_law_673 ?_
    refine g_sld X hs dL_law_674 (by omega) hL9 ?_
    refine g_aload_n X dL_law_675 2 rfl rfl ?_
    refine g_iload X dL_law_676 1 rfl ?_
    refine g_iconst (x := nI 4) X dL_law_678 (by decide +kernel) ?_
    refine g_iaddN X dL_law_679 ?_
    refine g_sld X hs dL_law_680 (by omega) hL9 ?_
    refine g_callV (As := [.int (xs (i + 1)), .int (xs (i + 2)), .int (xs (i + 3)), .int (xs (i + 4))]) (rest := []) (wr := [w1, cOut v o f]) X (Mb_X7_demands l v hM hW hL (xs (i + 1)) (xs (i + 2)) (xs (i + 3)) (xs (i + 4)) h0) f_X7_demands q_25_14 dL_law_681 [1] [0, 2] rfl rfl (by decide) 0 hqM rfl rfl rfl (Nat.le_of_ble_eq_true rfl) ⟨rfl, rfl, by decide +kernel, by decide +kernel, (by show _ ≤ 601024; omega), (by show _ ≤ 7293034; omega)⟩ (fun r_ w_ hp14 => ?_)
    obtain ⟨rfl, u1, hM1, rfl⟩ := hp14
    obtain ⟨fs7, hqN⟩ := IM9_hd hM1
    show GG k _ _ [u1, w1, cOut v o f] _ _ [.int (nI 0)]
    refine g_pick (cs' := [w1, u1, cOut v o f]) [1, 0, 2] rfl rfl ?_
    refine g_istore (lv' := [(6, .int (nI 0)), (5, .int (nI 1)), (4, .int (nI i)), (0, .ref b), (1, .ref cj), (2, .ref mz), (3, .ref o)]) X dL_law_684 (by decide) rfl ?_
    refine g_aload_n X dL_law_686 5 rfl rfl ?_
    refine g_callV (As := []) (rest := []) (wr := [w1, cOut v o f]) X (Mc_X7_thrown l v hM1 hW hL) f_X7_thrown q_16_9 dL_law_687 [1] [0, 2] rfl rfl (by decide) 0 hqN rfl rfl rfl (Nat.le_of_ble_eq_true rfl) ⟨rfl, rfl, by decide +kernel, by decide +kernel, (by show _ ≤ 601024; omega), (by show _ ≤ 7293034; omega)⟩ (fun r_ w_ hp15 => ?_)
    obtain ⟨rfl, u2, hM2, rfl⟩ := hp15
    show GG k _ _ [u2, w1, cOut v o f] _ _ [.int (nI 1)]
    refine g_pick (cs' := [w1, u2, cOut v o f]) [1, 0, 2] rfl rfl ?_
    refine g_iload X dL_law_690 1 rfl ?_
    refine g_icmp_eqN (tgt := 697) X dL_law_692 (by decide) (by omega) (by omega) (fun c692 => ?_) (fun c692 => ?_)
    · refine g_iload X dL_law_697 1 rfl ?_
      refine g_if_neN (tgt := 721) X dL_law_699 (by decide) (by omega) (fun c699 => ?_) (fun c699 => ?_)
      · refine g_goto (tgt := 1328) X dL_law_721 (by decide) ?_
        refine g_lv (lv' := [(4, .int (nI i)), (0, .ref b), (1, .ref cj), (2, .ref mz), (3, .ref o)]) [2, 3, 4, 5, 6] rfl ?_
        exact KN hC1 hM2 hW hL (by omega) (by omega)
      · exact absurd c699 (by decide)
    · exact absurd c692 (by decide)

set_option maxHeartbeats 4000000 in
set_option maxRecDepth 100000 in
theorem op_assume {k : KX} {l : Launch} {v : VV} {cj mz o b L i ce sl : Nat} {xs : Nat → Int32} (X : CX k l v cL_law "ClaimJudgeLaw" room_1 9) (hs : SCk k b L xs) (hnc : NCk k) (hst : l.stackTraces = false) (hL9 : L ≤ 2560) {P : Nat → S9} {n : Nat} {lo hi : Nat → Nat} {H : Nat → HE9} {c : Nat} {tx : Nat → Nat} {ln : Nat} {th : Int32} {w9 u9 : va_W} {f : Nat → Int64} (hC : IC9 v cj P n lo hi H c tx ln w9) (hM : IM9 v mz P n lo hi H c tx ln th u9) (hW : WF P n) (hL : AsW lo hi) (hi9 : i + 4 < L) (hce : ce + 1 ≤ 601024) (hsl : sl + 6 ≤ 7293034) (KN : NX9 k v cj mz o b i ce sl) : GG k ce sl [w9, u9, cOut v o f] [(4, .int (nI i)), (0, .ref b), (1, .ref cj), (2, .ref mz), (3, .ref o)] 724 [] := by
  obtain ⟨fs9, hq⟩ := IC9_hd hC
  obtain ⟨fs8, hqM⟩ := IM9_hd hM
  have hn12 := hW.1
  have hT6 := IC9_T hC
  rcases rng9 (xs (i + 1)) (n := 3) (by omega) with ⟨i0, h0, e0⟩ | h0
  · rcases rng9 (xs (i + 2)) (n := 8) (by omega) with ⟨i1, h1, e1⟩ | h1
    · rcases rng9 (xs (i + 3)) (n := 8) (by omega) with ⟨i2, h2, e2⟩ | h2
      · by_cases hok : i1 ≤ i2
        · refine g_aload_n X dL_law_724 2 rfl rfl ?_
          refine g_aload_n X dL_law_725 1 rfl rfl ?_
          refine g_iload X dL_law_726 0 rfl ?_
          refine g_iconst (x := nI 1) X dL_law_728 (by decide +kernel) ?_
          refine g_iaddN X dL_law_729 ?_
          refine g_sld X hs dL_law_730 (by omega) hL9 ?_
          refine g_v (y := nI i0) (e0) ?_
          refine g_aload_n X dL_law_731 1 rfl rfl ?_
          refine g_iload X dL_law_732 0 rfl ?_
          refine g_iconst (x := nI 2) X dL_law_734 (by decide +kernel) ?_
          refine g_iaddN X dL_law_735 ?_
          refine g_sld X hs dL_law_736 (by omega) hL9 ?_
          refine g_v (y := nI i1) (e1) ?_
          refine g_aload_n X dL_law_737 1 rfl rfl ?_
          refine g_iload X dL_law_738 0 rfl ?_
          refine g_iconst (x := nI 3) X dL_law_740 (by decide +kernel) ?_
          refine g_iaddN X dL_law_741 ?_
          refine g_sld X hs dL_law_742 (by omega) hL9 ?_
          refine g_v (y := nI i2) (e2) ?_
          refine g_aload_n X dL_law_743 4 rfl rfl ?_
          refine g_callW (As := [.ref cj, .int (nI i0), .int (nI i1), .int (nI i2), .ref o]) (rest := []) (wr := [u9]) X hnc (w_L_assume l v cj o (nI i0) (nI i1) (nI i2) w9 f (fun w => IC9 v cj P n (hU9 lo i0 i1) (hU9 hi i0 i2) (hS9 H c (P, n, lo, hi)) (hC9 c) tx ln w) ({ frames := 7, cells := 0, slots := 0, locals := 112 }) (nI (cnt9 (hU9 lo i0 i1) (hU9 hi i0 i2) 3)) hq rfl rfl (by decide) (by decide) (Cc_X6_assume l v cj hC hW hL i0 i1 i2 h0 hok (by omega))) f_L_assume q_25_18 dL_law_744 [0, 2] [1] rfl rfl (by decide) rfl rfl (Nat.le_of_ble_eq_true rfl) ⟨rfl, rfl, by decide +kernel, by decide +kernel, (by show _ ≤ 601024; omega), (by show _ ≤ 7293034; omega)⟩ (fun r_ w_ hp1 => ?_)
          obtain ⟨rfl, w1, f1, hC1, hf1, rfl⟩ := hp1
          show GG k _ _ [w1, cOut v o f1, u9] _ _ [.int (nI 0)]
          refine g_pick (cs' := [w1, u9, cOut v o f1]) [0, 2, 1] rfl rfl ?_
          refine g_istore (lv' := [(5, .int (nI 0)), (4, .int (nI i)), (0, .ref b), (1, .ref cj), (2, .ref mz), (3, .ref o)]) X dL_law_747 (by decide) rfl ?_
          refine g_aload_n X dL_law_749 4 rfl rfl ?_
          refine g_aload_n X dL_law_750 2 rfl rfl ?_
          refine g_iload X dL_law_751 1 rfl ?_
          refine g_iconst (x := nI 1) X dL_law_753 (by decide +kernel) ?_
          refine g_iaddN X dL_law_754 ?_
          refine g_sld X hs dL_law_755 (by omega) hL9 ?_
          refine g_v (y := nI i0) (e0) ?_
          refine g_aload_n X dL_law_756 2 rfl rfl ?_
          refine g_iload X dL_law_757 1 rfl ?_
          refine g_iconst (x := nI 2) X dL_law_759 (by decide +kernel) ?_
          refine g_iaddN X dL_law_760 ?_
          refine g_sld X hs dL_law_761 (by omega) hL9 ?_
          refine g_v (y := nI i1) (e1) ?_
          refine g_aload_n X dL_law_762 2 rfl rfl ?_
          refine g_iload X dL_law_763 1 rfl ?_
          refine g_iconst (x := nI 3) X dL_law_765 (by decide +kernel) ?_
          refine g_iaddN X dL_law_766 ?_
          refine g_sld X hs dL_law_767 (by omega) hL9 ?_
          refine g_v (y := nI i2) (e2) ?_
          refine g_callV (As := [.int (nI i0), .int (nI i1), .int (nI i2)]) (rest := []) (wr := [w1, cOut v o f1]) X (Mc_X7_assume l v hM hW hL i0 i1 i2 h0 hok (by omega)) f_X7_assume q_26_6 dL_law_768 [1] [0, 2] rfl rfl (by decide) 0 hqM rfl rfl rfl (Nat.le_of_ble_eq_true rfl) ⟨rfl, rfl, by decide +kernel, by decide +kernel, (by show _ ≤ 601024; omega), (by show _ ≤ 7293034; omega)⟩ (fun r_ w_ hp2 => ?_)
          obtain ⟨rfl, u1, hM1, rfl⟩ := hp2
          obtain ⟨fs7, hqN⟩ := IM9_hd hM1
          show GG k _ _ [u1, w1, cOut v o f1] _ _ [.int (nI (cnt9 (hU9 lo i0 i1) (hU9 hi i0 i2) 3))]
          refine g_pick (cs' := [w1, u1, cOut v o f1]) [1, 0, 2] rfl rfl ?_
          refine g_istore (lv' := [(6, .int (nI (cnt9 (hU9 lo i0 i1) (hU9 hi i0 i2) 3))), (5, .int (nI 0)), (4, .int (nI i)), (0, .ref b), (1, .ref cj), (2, .ref mz), (3, .ref o)]) X dL_law_771 (by decide) rfl ?_
          refine g_aload_n X dL_law_773 5 rfl rfl ?_
          refine g_callV (As := []) (rest := []) (wr := [w1, cOut v o f1]) X (Mc_X7_thrown l v hM1 hW (AsW_up hL hok (by omega))) f_X7_thrown q_16_9 dL_law_774 [1] [0, 2] rfl rfl (by decide) 0 hqN rfl rfl rfl (Nat.le_of_ble_eq_true rfl) ⟨rfl, rfl, by decide +kernel, by decide +kernel, (by show _ ≤ 601024; omega), (by show _ ≤ 7293034; omega)⟩ (fun r_ w_ hp3 => ?_)
          obtain ⟨rfl, u2, hM2, rfl⟩ := hp3
          show GG k _ _ [u2, w1, cOut v o f1] _ _ [.int (nI 0)]
          refine g_pick (cs' := [w1, u2, cOut v o f1]) [1, 0, 2] rfl rfl ?_
          refine g_iload X dL_law_777 1 rfl ?_
          refine g_icmp_eqN (tgt := 784) X dL_law_779 (by decide) (by omega) (by omega) (fun c779 => ?_) (fun c779 => ?_)
          · refine g_iload X dL_law_784 1 rfl ?_
            refine g_if_neN (tgt := 801) X dL_law_786 (by decide) (by omega) (fun c786 => ?_) (fun c786 => ?_)
            · exact absurd rfl c786
            · refine g_aload_n X dL_law_789 6 rfl rfl ?_
              refine g_iconst (x := nI 0) X dL_law_790 (by decide +kernel) ?_
              refine g_lald X dL_law_791 2 0 rfl rfl (by omega) (by omega) ?_
              refine g_vl (y := (nI (cnt9 (hU9 lo i0 i1) (hU9 hi i0 i2) 3)).toInt64) (hf1) ?_
              refine g_iload X dL_law_792 0 rfl ?_
              refine g_i2l X dL_law_794 rfl ?_
              refine g_lcmp X dL_law_795 ?_
              refine g_v (y := nI 0) (lg_self _) ?_
              refine g_if_eqN (tgt := 801) X dL_law_796 (by decide) (by omega) (fun c796 => ?_) (fun c796 => ?_)
              · refine g_goto (tgt := 1328) X dL_law_801 (by decide) ?_
                refine g_lv (lv' := [(4, .int (nI i)), (0, .ref b), (1, .ref cj), (2, .ref mz), (3, .ref o)]) [2, 3, 4, 5, 6] rfl ?_
                exact KN hC1 hM2 hW (AsW_up hL hok (by omega)) (by omega) (by omega)
              · exact absurd rfl c796
          · exact absurd c779 (by decide)
        · refine g_aload_n X dL_law_724 2 rfl rfl ?_
          refine g_aload_n X dL_law_725 1 rfl rfl ?_
          refine g_iload X dL_law_726 0 rfl ?_
          refine g_iconst (x := nI 1) X dL_law_728 (by decide +kernel) ?_
          refine g_iaddN X dL_law_729 ?_
          refine g_sld X hs dL_law_730 (by omega) hL9 ?_
          refine g_v (y := nI i0) (e0) ?_
          refine g_aload_n X dL_law_731 1 rfl rfl ?_
          refine g_iload X dL_law_732 0 rfl ?_
          refine g_iconst (x := nI 2) X dL_law_734 (by decide +kernel) ?_
          refine g_iaddN X dL_law_735 ?_
          refine g_sld X hs dL_law_736 (by omega) hL9 ?_
          refine g_v (y := nI i1) (e1) ?_
          refine g_aload_n X dL_law_737 1 rfl rfl ?_
          refine g_iload X dL_law_738 0 rfl ?_
          refine g_iconst (x := nI 3) X dL_law_740 (by decide +kernel) ?_
          refine g_iaddN X dL_law_741 ?_
          refine g_sld X hs dL_law_742 (by omega) hL9 ?_
          refine g_v (y := nI i2) (e2) ?_
          refine g_aload_n X dL_law_743 4 rfl rfl ?_
          refine g_callW (As := [.ref cj, .int (nI i0), .int (nI i1), .int (nI i2), .ref o]) (rest := []) (wr := [u9]) X hnc (w2_L_assume l v cj o (nI i0) (nI i1) (nI i2) w9 f (fun w => IC9 v cj P n lo hi H c tx ln w) ({ frames := 7, cells := 1, slots := 6, locals := 120 }) hq rfl rfl (by decide) (by decide) (Cb2_X6_assume l v hst cj hC hW hL i0 i1 i2 h0 h1 h2 (by omega))) f_L_assume q_25_18 dL_law_744 [0, 2] [1] rfl rfl (by decide) rfl rfl (Nat.le_of_ble_eq_true rfl) ⟨rfl, rfl, by decide +kernel, by decide +kernel, (by show _ ≤ 601024; omega), (by show _ ≤ 7293034; omega)⟩ (fun r_ w_ hp4 => ?_)
          obtain ⟨rfl, w1, hC1, rfl⟩ := hp4
          show GG k _ _ [w1, cOut v o f, u9] _ _ [.int (nI 2)]
          refine g_pick (cs' := [w1, u9, cOut v o f]) [0, 2, 1] rfl rfl ?_
          refine g_istore (lv' := [(5, .int (nI 2)), (4, .int (nI i)), (0, .ref b), (1, .ref cj), (2, .ref mz), (3, .ref o)]) X dL_law_747 (by decide) rfl ?_
          refine g_aload_n X dL_law_749 4 rfl rfl ?_
          refine g_aload_n X dL_law_750 2 rfl rfl ?_
          refine g_iload X dL_law_751 1 rfl ?_
          refine g_iconst (x := nI 1) X dL_law_753 (by decide +kernel) ?_
          refine g_iaddN X dL_law_754 ?_
          refine g_sld X hs dL_law_755 (by omega) hL9 ?_
          refine g_v (y := nI i0) (e0) ?_
          refine g_aload_n X dL_law_756 2 rfl rfl ?_
          refine g_iload X dL_law_757 1 rfl ?_
          refine g_iconst (x := nI 2) X dL_law_759 (by decide +kernel) ?_
          refine g_iaddN X dL_law_760 ?_
          refine g_sld X hs dL_law_761 (by omega) hL9 ?_
          refine g_v (y := nI i1) (e1) ?_
          refine g_aload_n X dL_law_762 2 rfl rfl ?_
          refine g_iload X dL_law_763 1 rfl ?_
          refine g_iconst (x := nI 3) X dL_law_765 (by decide +kernel) ?_
          refine g_iaddN X dL_law_766 ?_
          refine g_sld X hs dL_law_767 (by omega) hL9 ?_
          refine g_v (y := nI i2) (e2) ?_
          refine g_callV (As := [.int (nI i0), .int (nI i1), .int (nI i2)]) (rest := []) (wr := [w1, cOut v o f]) X (Mb2_X7_assume l v hM hW hL i0 i1 i2 h0 h1 h2 (by omega)) f_X7_assume q_26_6 dL_law_768 [1] [0, 2] rfl rfl (by decide) 0 hqM rfl rfl rfl (Nat.le_of_ble_eq_true rfl) ⟨rfl, rfl, by decide +kernel, by decide +kernel, (by show _ ≤ 601024; omega), (by show _ ≤ 7293034; omega)⟩ (fun r_ w_ hp5 => ?_)
          obtain ⟨rfl, u1, hM1, rfl⟩ := hp5
          obtain ⟨fs7, hqN⟩ := IM9_hd hM1
          show GG k _ _ [u1, w1, cOut v o f] _ _ [.int (nI 0)]
          refine g_pick (cs' := [w1, u1, cOut v o f]) [1, 0, 2] rfl rfl ?_
          refine g_istore (lv' := [(6, .int (nI 0)), (5, .int (nI 2)), (4, .int (nI i)), (0, .ref b), (1, .ref cj), (2, .ref mz), (3, .ref o)]) X dL_law_771 (by decide) rfl ?_
          refine g_aload_n X dL_law_773 5 rfl rfl ?_
          refine g_callV (As := []) (rest := []) (wr := [w1, cOut v o f]) X (Mc_X7_thrown l v hM1 hW hL) f_X7_thrown q_16_9 dL_law_774 [1] [0, 2] rfl rfl (by decide) 0 hqN rfl rfl rfl (Nat.le_of_ble_eq_true rfl) ⟨rfl, rfl, by decide +kernel, by decide +kernel, (by show _ ≤ 601024; omega), (by show _ ≤ 7293034; omega)⟩ (fun r_ w_ hp6 => ?_)
          obtain ⟨rfl, u2, hM2, rfl⟩ := hp6
          show GG k _ _ [u2, w1, cOut v o f] _ _ [.int (nI 2)]
          refine g_pick (cs' := [w1, u2, cOut v o f]) [1, 0, 2] rfl rfl ?_
          refine g_iload X dL_law_777 1 rfl ?_
          refine g_icmp_eqN (tgt := 784) X dL_law_779 (by decide) (by omega) (by omega) (fun c779 => ?_) (fun c779 => ?_)
          · refine g_iload X dL_law_784 1 rfl ?_
            refine g_if_neN (tgt := 801) X dL_law_786 (by decide) (by omega) (fun c786 => ?_) (fun c786 => ?_)
            · refine g_goto (tgt := 1328) X dL_law_801 (by decide) ?_
              refine g_lv (lv' := [(4, .int (nI i)), (0, .ref b), (1, .ref cj), (2, .ref mz), (3, .ref o)]) [2, 3, 4, 5, 6] rfl ?_
              exact KN hC1 hM2 hW hL (by omega) (by omega)
            · exact absurd c786 (by decide)
          · exact absurd c779 (by decide)
      · refine g_aload_n X dL_law_724 2 rfl rfl ?_
        refine g_aload_n X dL_law_725 1 rfl rfl ?_
        refine g_iload X dL_law_726 0 rfl ?_
        refine g_iconst (x := nI 1) X dL_law_728 (by decide +kernel) ?_
        refine g_iaddN X dL_law_729 ?_
        refine g_sld X hs dL_law_730 (by omega) hL9 ?_
        refine g_v (y := nI i0) (e0) ?_
        refine g_aload_n X dL_law_731 1 rfl rfl ?_
        refine g_iload X dL_law_732 0 rfl ?_
        refine g_iconst (x := nI 2) X dL_law_734 (by decide +kernel) ?_
        refine g_iaddN X dL_law_735 ?_
        refine g_sld X hs dL_law_736 (by omega) hL9 ?_
        refine g_v (y := nI i1) (e1) ?_
        refine g_aload_n X dL_law_737 1 rfl rfl ?_
        refine g_iload X dL_law_738 0 rfl ?_
        refine g_iconst (x := nI 3) X dL_law_740 (by decide +kernel) ?_
        refine g_iaddN X dL_law_741 ?_
        refine g_sld X hs dL_law_742 (by omega) hL9 ?_
        refine g_aload_n X dL_law_743 4 rfl rfl ?_
        refine g_callW (As := [.ref cj, .int (nI i0), .int (nI i1), .int (xs (i + 3)), .ref o]) (rest := []) (wr := [u9]) X hnc (w2_L_assume l v cj o (nI i0) (nI i1) (xs (i + 3)) w9 f (fun w => IC9 v cj P n lo hi H c tx ln w) ({ frames := 7, cells := 1, slots := 6, locals := 120 }) hq rfl rfl (by decide) (by decide) (Cb1_X6_assume l v hst cj hC hW hL i0 i1 (xs (i + 3)) h0 h1 h2)) f_L_assume q_25_18 dL_law_744 [0, 2] [1] rfl rfl (by decide) rfl rfl (Nat.le_of_ble_eq_true rfl) ⟨rfl, rfl, by decide +kernel, by decide +kernel, (by show _ ≤ 601024; omega), (by show _ ≤ 7293034; omega)⟩ (fun r_ w_ hp7 => ?_)
        obtain ⟨rfl, w1, hC1, rfl⟩ := hp7
        show GG k _ _ [w1, cOut v o f, u9] _ _ [.int (nI 2)]
        refine g_pick (cs' := [w1, u9, cOut v o f]) [0, 2, 1] rfl rfl ?_
        refine g_istore (lv' := [(5, .int (nI 2)), (4, .int (nI i)), (0, .ref b), (1, .ref cj), (2, .ref mz), (3, .ref o)]) X dL_law_747 (by decide) rfl ?_
        refine g_aload_n X dL_law_749 4 rfl rfl ?_
        refine g_aload_n X dL_law_750 2 rfl rfl ?_
        refine g_iload X dL_law_751 1 rfl ?_
        refine g_iconst (x := nI 1) X dL_law_753 (by decide +kernel) ?_
        refine g_iaddN X dL_law_754 ?_
        refine g_sld X hs dL_law_755 (by omega) hL9 ?_
        refine g_v (y := nI i0) (e0) ?_
        refine g_aload_n X dL_law_756 2 rfl rfl ?_
        refine g_iload X dL_law_757 1 rfl ?_
        refine g_iconst (x := nI 2) X dL_law_759 (by decide +kernel) ?_
        refine g_iaddN X dL_law_760 ?_
        refine g_sld X hs dL_law_761 (by omega) hL9 ?_
        refine g_v (y := nI i1) (e1) ?_
        refine g_aload_n X dL_law_762 2 rfl rfl ?_
        refine g_iload X dL_law_763 1 rfl ?_
        refine g_iconst (x := nI 3) X dL_law_765 (by decide +kernel) ?_
        refine g_iaddN X dL_law_766 ?_
        refine g_sld X hs dL_law_767 (by omega) hL9 ?_
        refine g_callV (As := [.int (nI i0), .int (nI i1), .int (xs (i + 3))]) (rest := []) (wr := [w1, cOut v o f]) X (Mb1_X7_assume l v hM hW hL i0 i1 (xs (i + 3)) h0 h1 h2) f_X7_assume q_26_6 dL_law_768 [1] [0, 2] rfl rfl (by decide) 0 hqM rfl rfl rfl (Nat.le_of_ble_eq_true rfl) ⟨rfl, rfl, by decide +kernel, by decide +kernel, (by show _ ≤ 601024; omega), (by show _ ≤ 7293034; omega)⟩ (fun r_ w_ hp8 => ?_)
        obtain ⟨rfl, u1, hM1, rfl⟩ := hp8
        obtain ⟨fs7, hqN⟩ := IM9_hd hM1
        show GG k _ _ [u1, w1, cOut v o f] _ _ [.int (nI 0)]
        refine g_pick (cs' := [w1, u1, cOut v o f]) [1, 0, 2] rfl rfl ?_
        refine g_istore (lv' := [(6, .int (nI 0)), (5, .int (nI 2)), (4, .int (nI i)), (0, .ref b), (1, .ref cj), (2, .ref mz), (3, .ref o)]) X dL_law_771 (by decide) rfl ?_
        refine g_aload_n X dL_law_773 5 rfl rfl ?_
        refine g_callV (As := []) (rest := []) (wr := [w1, cOut v o f]) X (Mc_X7_thrown l v hM1 hW hL) f_X7_thrown q_16_9 dL_law_774 [1] [0, 2] rfl rfl (by decide) 0 hqN rfl rfl rfl (Nat.le_of_ble_eq_true rfl) ⟨rfl, rfl, by decide +kernel, by decide +kernel, (by show _ ≤ 601024; omega), (by show _ ≤ 7293034; omega)⟩ (fun r_ w_ hp9 => ?_)
        obtain ⟨rfl, u2, hM2, rfl⟩ := hp9
        show GG k _ _ [u2, w1, cOut v o f] _ _ [.int (nI 2)]
        refine g_pick (cs' := [w1, u2, cOut v o f]) [1, 0, 2] rfl rfl ?_
        refine g_iload X dL_law_777 1 rfl ?_
        refine g_icmp_eqN (tgt := 784) X dL_law_779 (by decide) (by omega) (by omega) (fun c779 => ?_) (fun c779 => ?_)
        · refine g_iload X dL_law_784 1 rfl ?_
          refine g_if_neN (tgt := 801) X dL_law_786 (by decide) (by omega) (fun c786 => ?_) (fun c786 => ?_)
          · refine g_goto (tgt := 1328) X dL_law_801 (by decide) ?_
            refine g_lv (lv' := [(4, .int (nI i)), (0, .ref b), (1, .ref cj), (2, .ref mz), (3, .ref o)]) [2, 3, 4, 5, 6] rfl ?_
            exact KN hC1 hM2 hW hL (by omega) (by omega)
          · exact absurd c786 (by decide)
        · exact absurd c779 (by decide)
    · refine g_aload_n X dL_law_724 2 rfl rfl ?_
      refine g_aload_n X dL_law_725 1 rfl rfl ?_
      refine g_iload X dL_law_726 0 rfl ?_
      refine g_iconst (x := nI 1) X dL_law_728 (by decide +kernel) ?_
      refine g_iaddN X dL_law_729 ?_
      refine g_sld X hs dL_law_730 (by omega) hL9 ?_
      refine g_v (y := nI i0) (e0) ?_
      refine g_aload_n X dL_law_731 1 rfl rfl ?_
      refine g_iload X dL_law_732 0 rfl ?_
      refine g_iconst (x := nI 2) X dL_law_734 (by decide +kernel) ?_
      refine g_iaddN X dL_law_735 ?_
      refine g_sld X hs dL_law_736 (by omega) hL9 ?_
      refine g_aload_n X dL_law_737 1 rfl rfl ?_
      refine g_iload X dL_law_738 0 rfl ?_
      refine g_iconst (x := nI 3) X dL_law_740 (by decide +kernel) ?_
      refine g_iaddN X dL_law_741 ?_
      refine g_sld X hs dL_law_742 (by omega) hL9 ?_
      refine g_aload_n X dL_law_743 4 rfl rfl ?_
      refine g_callW (As := [.ref cj, .int (nI i0), .int (xs (i + 2)), .int (xs (i + 3)), .ref o]) (rest := []) (wr := [u9]) X hnc (w2_L_assume l v cj o (nI i0) (xs (i + 2)) (xs (i + 3)) w9 f (fun w => IC9 v cj P n lo hi H c tx ln w) ({ frames := 7, cells := 1, slots := 6, locals := 120 }) hq rfl rfl (by decide) (by decide) (Cb0_X6_assume l v hst cj hC hW hL i0 (xs (i + 2)) (xs (i + 3)) h0 h1)) f_L_assume q_25_18 dL_law_744 [0, 2] [1] rfl rfl (by decide) rfl rfl (Nat.le_of_ble_eq_true rfl) ⟨rfl, rfl, by decide +kernel, by decide +kernel, (by show _ ≤ 601024; omega), (by show _ ≤ 7293034; omega)⟩ (fun r_ w_ hp10 => ?_)
      obtain ⟨rfl, w1, hC1, rfl⟩ := hp10
      show GG k _ _ [w1, cOut v o f, u9] _ _ [.int (nI 2)]
      refine g_pick (cs' := [w1, u9, cOut v o f]) [0, 2, 1] rfl rfl ?_
      refine g_istore (lv' := [(5, .int (nI 2)), (4, .int (nI i)), (0, .ref b), (1, .ref cj), (2, .ref mz), (3, .ref o)]) X dL_law_747 (by decide) rfl ?_
      refine g_aload_n X dL_law_749 4 rfl rfl ?_
      refine g_aload_n X dL_law_750 2 rfl rfl ?_
      refine g_iload X dL_law_751 1 rfl ?_
      refine g_iconst (x := nI 1) X dL_law_753 (by decide +kernel) ?_
      refine g_iaddN X dL_law_754 ?_
      refine g_sld X hs dL_law_755 (by omega) hL9 ?_
      refine g_v (y := nI i0) (e0) ?_
      refine g_aload_n X dL_law_756 2 rfl rfl ?_
      refine g_iload X dL_law_757 1 rfl ?_
      refine g_iconst (x := nI 2) X dL_law_759 (by decide +kernel) ?_
      refine g_iaddN X dL_law_760 ?_
      refine g_sld X hs dL_law_761 (by omega) hL9 ?_
      refine g_aload_n X dL_law_762 2 rfl rfl ?_
      refine g_iload X dL_law_763 1 rfl ?_
      refine g_iconst (x := nI 3) X dL_law_765 (by decide +kernel) ?_
      refine g_iaddN X dL_law_766 ?_
      refine g_sld X hs dL_law_767 (by omega) hL9 ?_
      refine g_callV (As := [.int (nI i0), .int (xs (i + 2)), .int (xs (i + 3))]) (rest := []) (wr := [w1, cOut v o f]) X (Mb0_X7_assume l v hM hW hL i0 (xs (i + 2)) (xs (i + 3)) h0 h1) f_X7_assume q_26_6 dL_law_768 [1] [0, 2] rfl rfl (by decide) 0 hqM rfl rfl rfl (Nat.le_of_ble_eq_true rfl) ⟨rfl, rfl, by decide +kernel, by decide +kernel, (by show _ ≤ 601024; omega), (by show _ ≤ 7293034; omega)⟩ (fun r_ w_ hp11 => ?_)
      obtain ⟨rfl, u1, hM1, rfl⟩ := hp11
      obtain ⟨fs7, hqN⟩ := IM9_hd hM1
      show GG k _ _ [u1, w1, cOut v o f] _ _ [.int (nI 0)]
      refine g_pick (cs' := [w1, u1, cOut v o f]) [1, 0, 2] rfl rfl ?_
      refine g_istore (lv' := [(6, .int (nI 0)), (5, .int (nI 2)), (4, .int (nI i)), (0, .ref b), (1, .ref cj), (2, .ref mz), (3, .ref o)]) X dL_law_771 (by decide) rfl ?_
      refine g_aload_n X dL_law_773 5 rfl rfl ?_
      refine g_callV (As := []) (rest := []) (wr := [w1, cOut v o f]) X (Mc_X7_thrown l v hM1 hW hL) f_X7_thrown q_16_9 dL_law_774 [1] [0, 2] rfl rfl (by decide) 0 hqN rfl rfl rfl (Nat.le_of_ble_eq_true rfl) ⟨rfl, rfl, by decide +kernel, by decide +kernel, (by show _ ≤ 601024; omega), (by show _ ≤ 7293034; omega)⟩ (fun r_ w_ hp12 => ?_)
      obtain ⟨rfl, u2, hM2, rfl⟩ := hp12
      show GG k _ _ [u2, w1, cOut v o f] _ _ [.int (nI 2)]
      refine g_pick (cs' := [w1, u2, cOut v o f]) [1, 0, 2] rfl rfl ?_
      refine g_iload X dL_law_777 1 rfl ?_
      refine g_icmp_eqN (tgt := 784) X dL_law_779 (by decide) (by omega) (by omega) (fun c779 => ?_) (fun c779 => ?_)
      · refine g_iload X dL_law_784 1 rfl ?_
        refine g_if_neN (tgt := 801) X dL_law_786 (by decide) (by omega) (fun c786 => ?_) (fun c786 => ?_)
        · refine g_goto (tgt := 1328) X dL_law_801 (by decide) ?_
          refine g_lv (lv' := [(4, .int (nI i)), (0, .ref b), (1, .ref cj), (2, .ref mz), (3, .ref o)]) [2, 3, 4, 5, 6] rfl ?_
          exact KN hC1 hM2 hW hL (by omega) (by omega)
        · exact absurd c786 (by decide)
      · exact absurd c779 (by decide)
  · refine g_aload_n X dL_law_724 2 rfl rfl ?_
    refine g_aload_n X dL_law_725 1 rfl rfl ?_
    refine g_iload X dL_law_726 0 rfl ?_
    refine g_iconst (x := nI 1) X dL_law_728 (by decide +kernel) ?_
    refine g_iaddN X dL_law_729 ?_
    refine g_sld X hs dL_law_730 (by omega) hL9 ?_
    refine g_aload_n X dL_law_731 1 rfl rfl ?_
    refine g_iload X dL_law_732 0 rfl ?_
    refine g_iconst (x := nI 2) X dL_law_734 (by decide +kernel) ?_
    refine g_iaddN X dL_law_735 ?_
    refine g_sld X hs dL_law_736 (by omega) hL9 ?_
    refine g_aload_n X dL_law_737 1 rfl rfl ?_
    refine g_iload X dL_law_738 0 rfl ?_
    refine g_iconst (x := nI 3) X dL_law_740 (by decide +kernel) ?_
    refine g_iaddN X dL_law_741 ?_
    refine g_sld X hs dL_law_742 (by omega) hL9 ?_
    refine g_aload_n X dL_law_743 4 rfl rfl ?_
    refine g_callW (As := [.ref cj, .int (xs (i + 1)), .int (xs (i + 2)), .int (xs (i + 3)), .ref o]) (rest := []) (wr := [u9]) X hnc (w1_L_assume l v cj o (xs (i + 1)) (xs (i + 2)) (xs (i + 3)) w9 f (fun w => IC9 v cj P n lo hi H c tx ln w) ({ frames := 7, cells := 1, slots := 6, locals := 120 }) hq rfl rfl (by decide) (by decide) (Cb_X6_assume l v hst cj hC hW hL (xs (i + 1)) (xs (i + 2)) (xs (i + 3)) h0)) f_L_assume q_25_18 dL_law_744 [0, 2] [1] rfl rfl (by decide) rfl rfl (Nat.le_of_ble_eq_true rfl) ⟨rfl, rfl, by decide +kernel, by decide +kernel, (by show _ ≤ 601024; omega), (by show _ ≤ 7293034; omega)⟩ (fun r_ w_ hp13 => ?_)
    obtain ⟨rfl, w1, hC1, rfl⟩ := hp13
    show GG k _ _ [w1, cOut v o f, u9] _ _ [.int (nI 1)]
    refine g_pick (cs' := [w1, u9, cOut v o f]) [0, 2, 1] rfl rfl ?_
    refine g_istore (lv' := [(5, .int (nI 1)), (4, .int (nI i)), (0, .ref b), (1, .ref cj), (2, .ref mz), (3, .ref o)]) X dL_law_747 (by decide) rfl ?_
    refine g_aload_n X dL_law_749 4 rfl rfl ?_
    refine g_aload_n X dL_law_750 2 rfl rfl ?_
    refine g_iload X dL_law_751 1 rfl ?_
    refine g_iconst (x := nI 1) X dL_law_753 (by decide +kernel) ?_
    refine g_iaddN X dL_law_754 ?_
    refine g_sld X hs dL_law_755 (by omega) hL9 ?_
    refine g_aload_n X dL_law_756 2 rfl rfl ?_
    refine g_iload X dL_law_757 1 rfl ?_
    refine g_iconst (x := nI 2) X dL_law_759 (by decide +kernel) ?_
    refine g_iaddN X dL_law_760 ?_
    refine g_sld X hs dL_law_761 (by omega) hL9 ?_
    refine g_aload_n X dL_law_762 2 rfl rfl ?_
    refine g_iload X dL_law_763 1 rfl ?_
    refine g_iconst (x := nI 3) X dL_law_765 (by decide +kernel) ?_
    refine g_iaddN X dL_law_766 ?_
    refine g_sld X hs dL_law_767 (by omega) hL9 ?_
    refine g_callV (As := [.int (xs (i + 1)), .int (xs (i + 2)), .int (xs (i + 3))]) (rest := []) (wr := [w1, cOut v o f]) X (Mb_X7_assume l v hM hW hL (xs (i + 1)) (xs (i + 2)) (xs (i + 3)) h0) f_X7_assume q_26_6 dL_law_768 [1] [0, 2] rfl rfl (by decide) 0 hqM rfl rfl rfl (Nat.le_of_ble_eq_true rfl) ⟨rfl, rfl, by decide +kernel, by decide +kernel, (by show _ ≤ 601024; omega), (by show _ ≤ 7293034; omega)⟩ (fun r_ w_ hp14 => ?_)
    obtain ⟨rfl, u1, hM1, rfl⟩ := hp14
    obtain ⟨fs7, hqN⟩ := IM9_hd hM1
    show GG k _ _ [u1, w1, cOut v o f] _ _ [.int (nI 0)]
    refine g_pick (cs' := [w1, u1, cOut v o f]) [1, 0, 2] rfl rfl ?_
    refine g_istore (lv' := [(6, .int (nI 0)), (5, .int (nI 1)), (4, .int (nI i)), (0, .ref b), (1, .ref cj), (2, .ref mz), (3, .ref o)]) X dL_law_771 (by decide) rfl ?_
    refine g_aload_n X dL_law_773 5 rfl rfl ?_
    refine g_callV (As := []) (rest := []) (wr := [w1, cOut v o f]) X (Mc_X7_thrown l v hM1 hW hL) f_X7_thrown q_16_9 dL_law_774 [1] [0, 2] rfl rfl (by decide) 0 hqN rfl rfl rfl (Nat.le_of_ble_eq_true rfl) ⟨rfl, rfl, by decide +kernel, by decide +kernel, (by show _ ≤ 601024; omega), (by show _ ≤ 7293034; omega)⟩ (fun r_ w_ hp15 => ?_)
    obtain ⟨rfl, u2, hM2, rfl⟩ := hp15
    show GG k _ _ [u2, w1, cOut v o f] _ _ [.int (nI 1)]
    refine g_pick (cs' := [w1, u2, cOut v o f]) [1, 0, 2] rfl rfl ?_
    refine g_iload X dL_law_777 1 rfl ?_
    refine g_icmp_eqN (tgt := 784) X dL_law_779 (by decide) (by omega) (by omega) (fun c779 => ?_) (fun c779 => ?_)
    · refine g_iload X dL_law_784 1 rfl ?_
      refine g_if_neN (tgt := 801) X dL_law_786 (by decide) (by omega) (fun c786 => ?_) (fun c786 => ?_)
      · refine g_goto (tgt := 1328) X dL_law_801 (by decide) ?_
        refine g_lv (lv' := [(4, .int (nI i)), (0, .ref b), (1, .ref cj), (2, .ref mz), (3, .ref o)]) [2, 3, 4, 5, 6] rfl ?_
        exact KN hC1 hM2 hW hL (by omega) (by omega)
      · exact absurd c786 (by decide)
    · exact absurd c779 (by decide)

set_option maxHeartbeats 4000000 in
set_option maxRecDepth 100000 in
theorem op_verdict {k : KX} {l : Launch} {v : VV} {cj mz o b L i ce sl : Nat} {xs : Nat → Int32} (X : CX k l v cL_law "ClaimJudgeLaw" room_1 9) (hs : SCk k b L xs) (hnc : NCk k) (hst : l.stackTraces = false) (hL9 : L ≤ 2560) {P : Nat → S9} {n : Nat} {lo hi : Nat → Nat} {H : Nat → HE9} {c : Nat} {tx : Nat → Nat} {ln : Nat} {th : Int32} {w9 u9 : va_W} {f : Nat → Int64} (hC : IC9 v cj P n lo hi H c tx ln w9) (hM : IM9 v mz P n lo hi H c tx ln th u9) (hW : WF P n) (hL : AsW lo hi) (hi9 : i + 4 < L) (hce : ce + 1 ≤ 601024) (hsl : sl + 6 ≤ 7293034) (KN : NX9 k v cj mz o b i ce sl) : GG k ce sl [w9, u9, cOut v o f] [(4, .int (nI i)), (0, .ref b), (1, .ref cj), (2, .ref mz), (3, .ref o)] 804 [] := by
  obtain ⟨fs9, hq⟩ := IC9_hd hC
  obtain ⟨fs8, hqM⟩ := IM9_hd hM
  have hn12 := hW.1
  have hT6 := IC9_T hC
  rcases rng9 (xs (i + 1)) (n := n) (by omega) with ⟨i0, h0, e0⟩ | h0
  · refine g_aload_n X dL_law_804 2 rfl rfl ?_
    refine g_aload_n X dL_law_805 1 rfl rfl ?_
    refine g_iload X dL_law_806 0 rfl ?_
    refine g_iconst (x := nI 1) X dL_law_808 (by decide +kernel) ?_
    refine g_iaddN X dL_law_809 ?_
    refine g_sld X hs dL_law_810 (by omega) hL9 ?_
    refine g_v (y := nI i0) (e0) ?_
    refine g_aload_n X dL_law_811 4 rfl rfl ?_
    refine g_callW (As := [.ref cj, .int (nI i0), .ref o]) (rest := []) (wr := [u9]) X hnc (w_L_verdict l v cj o (nI i0) w9 f (fun w => IC9 v cj P n lo hi H c tx ln w) ({ frames := 7, cells := 0, slots := 0, locals := 118 }) (zI (vdV lo hi P n i0)) hq rfl rfl (by decide) (by decide) (Cc_X6_verdict l v cj hC hW hL i0 h0)) f_L_verdict q_26_14 dL_law_812 [0, 2] [1] rfl rfl (by decide) rfl rfl (Nat.le_of_ble_eq_true rfl) ⟨rfl, rfl, by decide +kernel, by decide +kernel, (by show _ ≤ 601024; omega), (by show _ ≤ 7293034; omega)⟩ (fun r_ w_ hp1 => ?_)
    obtain ⟨rfl, w1, f1, hC1, hf1, rfl⟩ := hp1
    show GG k _ _ [w1, cOut v o f1, u9] _ _ [.int (nI 0)]
    refine g_pick (cs' := [w1, u9, cOut v o f1]) [0, 2, 1] rfl rfl ?_
    refine g_istore (lv' := [(5, .int (nI 0)), (4, .int (nI i)), (0, .ref b), (1, .ref cj), (2, .ref mz), (3, .ref o)]) X dL_law_815 (by decide) rfl ?_
    refine g_aload_n X dL_law_817 4 rfl rfl ?_
    refine g_aload_n X dL_law_818 2 rfl rfl ?_
    refine g_iload X dL_law_819 1 rfl ?_
    refine g_iconst (x := nI 1) X dL_law_821 (by decide +kernel) ?_
    refine g_iaddN X dL_law_822 ?_
    refine g_sld X hs dL_law_823 (by omega) hL9 ?_
    refine g_v (y := nI i0) (e0) ?_
    refine g_callV (As := [.int (nI i0)]) (rest := []) (wr := [w1, cOut v o f1]) X (Mc_X7_verdict l v hM hW hL i0 h0) f_X7_verdict q_28_18 dL_law_824 [1] [0, 2] rfl rfl (by decide) 0 hqM rfl rfl rfl (Nat.le_of_ble_eq_true rfl) ⟨rfl, rfl, by decide +kernel, by decide +kernel, (by show _ ≤ 601024; omega), (by show _ ≤ 7293034; omega)⟩ (fun r_ w_ hp2 => ?_)
    obtain ⟨rfl, u1, hM1, rfl⟩ := hp2
    obtain ⟨fs7, hqN⟩ := IM9_hd hM1
    show GG k _ _ [u1, w1, cOut v o f1] _ _ [.int (zI (vdV lo hi P n i0))]
    refine g_pick (cs' := [w1, u1, cOut v o f1]) [1, 0, 2] rfl rfl ?_
    refine g_istore (lv' := [(6, .int (zI (vdV lo hi P n i0))), (5, .int (nI 0)), (4, .int (nI i)), (0, .ref b), (1, .ref cj), (2, .ref mz), (3, .ref o)]) X dL_law_827 (by decide) rfl ?_
    refine g_aload_n X dL_law_829 5 rfl rfl ?_
    refine g_callV (As := []) (rest := []) (wr := [w1, cOut v o f1]) X (Mc_X7_thrown l v hM1 hW hL) f_X7_thrown q_16_9 dL_law_830 [1] [0, 2] rfl rfl (by decide) 0 hqN rfl rfl rfl (Nat.le_of_ble_eq_true rfl) ⟨rfl, rfl, by decide +kernel, by decide +kernel, (by show _ ≤ 601024; omega), (by show _ ≤ 7293034; omega)⟩ (fun r_ w_ hp3 => ?_)
    obtain ⟨rfl, u2, hM2, rfl⟩ := hp3
    show GG k _ _ [u2, w1, cOut v o f1] _ _ [.int (nI 0)]
    refine g_pick (cs' := [w1, u2, cOut v o f1]) [1, 0, 2] rfl rfl ?_
    refine g_iload X dL_law_833 1 rfl ?_
    refine g_icmp_eqN (tgt := 840) X dL_law_835 (by decide) (by omega) (by omega) (fun c835 => ?_) (fun c835 => ?_)
    · refine g_iload X dL_law_840 1 rfl ?_
      refine g_if_neN (tgt := 857) X dL_law_842 (by decide) (by omega) (fun c842 => ?_) (fun c842 => ?_)
      · exact absurd rfl c842
      · refine g_aload_n X dL_law_845 6 rfl rfl ?_
        refine g_iconst (x := nI 0) X dL_law_846 (by decide +kernel) ?_
        refine g_lald X dL_law_847 2 0 rfl rfl (by omega) (by omega) ?_
        refine g_vl (y := (zI (vdV lo hi P n i0)).toInt64) (hf1) ?_
        refine g_iload X dL_law_848 0 rfl ?_
        refine g_i2l X dL_law_850 rfl ?_
        refine g_lcmp X dL_law_851 ?_
        refine g_v (y := nI 0) (lg_self _) ?_
        refine g_if_eqN (tgt := 857) X dL_law_852 (by decide) (by omega) (fun c852 => ?_) (fun c852 => ?_)
        · refine g_goto (tgt := 1328) X dL_law_857 (by decide) ?_
          refine g_lv (lv' := [(4, .int (nI i)), (0, .ref b), (1, .ref cj), (2, .ref mz), (3, .ref o)]) [2, 3, 4, 5, 6] rfl ?_
          exact KN hC1 hM2 hW hL (by omega) (by omega)
        · exact absurd rfl c852
    · exact absurd c835 (by decide)
  · refine g_aload_n X dL_law_804 2 rfl rfl ?_
    refine g_aload_n X dL_law_805 1 rfl rfl ?_
    refine g_iload X dL_law_806 0 rfl ?_
    refine g_iconst (x := nI 1) X dL_law_808 (by decide +kernel) ?_
    refine g_iaddN X dL_law_809 ?_
    refine g_sld X hs dL_law_810 (by omega) hL9 ?_
    refine g_aload_n X dL_law_811 4 rfl rfl ?_
    refine g_callW (As := [.ref cj, .int (xs (i + 1)), .ref o]) (rest := []) (wr := [u9]) X hnc (w1_L_verdict l v cj o (xs (i + 1)) w9 f (fun w => IC9 v cj P n lo hi H c tx ln w) ({ frames := 7, cells := 1, slots := 6, locals := 120 }) hq rfl rfl (by decide) (by decide) (Cb_X6_verdict l v hst cj hC hW hL (xs (i + 1)) h0)) f_L_verdict q_26_14 dL_law_812 [0, 2] [1] rfl rfl (by decide) rfl rfl (Nat.le_of_ble_eq_true rfl) ⟨rfl, rfl, by decide +kernel, by decide +kernel, (by show _ ≤ 601024; omega), (by show _ ≤ 7293034; omega)⟩ (fun r_ w_ hp4 => ?_)
    obtain ⟨rfl, w1, hC1, rfl⟩ := hp4
    show GG k _ _ [w1, cOut v o f, u9] _ _ [.int (nI 1)]
    refine g_pick (cs' := [w1, u9, cOut v o f]) [0, 2, 1] rfl rfl ?_
    refine g_istore (lv' := [(5, .int (nI 1)), (4, .int (nI i)), (0, .ref b), (1, .ref cj), (2, .ref mz), (3, .ref o)]) X dL_law_815 (by decide) rfl ?_
    refine g_aload_n X dL_law_817 4 rfl rfl ?_
    refine g_aload_n X dL_law_818 2 rfl rfl ?_
    refine g_iload X dL_law_819 1 rfl ?_
    refine g_iconst (x := nI 1) X dL_law_821 (by decide +kernel) ?_
    refine g_iaddN X dL_law_822 ?_
    refine g_sld X hs dL_law_823 (by omega) hL9 ?_
    refine g_callV (As := [.int (xs (i + 1))]) (rest := []) (wr := [w1, cOut v o f]) X (Mb_X7_verdict l v hM hW hL (xs (i + 1)) h0) f_X7_verdict q_28_18 dL_law_824 [1] [0, 2] rfl rfl (by decide) 0 hqM rfl rfl rfl (Nat.le_of_ble_eq_true rfl) ⟨rfl, rfl, by decide +kernel, by decide +kernel, (by show _ ≤ 601024; omega), (by show _ ≤ 7293034; omega)⟩ (fun r_ w_ hp5 => ?_)
    obtain ⟨rfl, u1, hM1, rfl⟩ := hp5
    obtain ⟨fs7, hqN⟩ := IM9_hd hM1
    show GG k _ _ [u1, w1, cOut v o f] _ _ [.int (nI 0)]
    refine g_pick (cs' := [w1, u1, cOut v o f]) [1, 0, 2] rfl rfl ?_
    refine g_istore (lv' := [(6, .int (nI 0)), (5, .int (nI 1)), (4, .int (nI i)), (0, .ref b), (1, .ref cj), (2, .ref mz), (3, .ref o)]) X dL_law_827 (by decide) rfl ?_
    refine g_aload_n X dL_law_829 5 rfl rfl ?_
    refine g_callV (As := []) (rest := []) (wr := [w1, cOut v o f]) X (Mc_X7_thrown l v hM1 hW hL) f_X7_thrown q_16_9 dL_law_830 [1] [0, 2] rfl rfl (by decide) 0 hqN rfl rfl rfl (Nat.le_of_ble_eq_true rfl) ⟨rfl, rfl, by decide +kernel, by decide +kernel, (by show _ ≤ 601024; omega), (by show _ ≤ 7293034; omega)⟩ (fun r_ w_ hp6 => ?_)
    obtain ⟨rfl, u2, hM2, rfl⟩ := hp6
    show GG k _ _ [u2, w1, cOut v o f] _ _ [.int (nI 1)]
    refine g_pick (cs' := [w1, u2, cOut v o f]) [1, 0, 2] rfl rfl ?_
    refine g_iload X dL_law_833 1 rfl ?_
    refine g_icmp_eqN (tgt := 840) X dL_law_835 (by decide) (by omega) (by omega) (fun c835 => ?_) (fun c835 => ?_)
    · refine g_iload X dL_law_840 1 rfl ?_
      refine g_if_neN (tgt := 857) X dL_law_842 (by decide) (by omega) (fun c842 => ?_) (fun c842 => ?_)
      · refine g_goto (tgt := 1328) X dL_law_857 (by decide) ?_
        refine g_lv (lv' := [(4, .int (nI i)), (0, .ref b), (1, .ref cj), (2, .ref mz), (3, .ref o)]) [2, 3, 4, 5, 6] rfl ?_
        exact KN hC1 hM2 hW hL (by omega) (by omega)
      · exact absurd c842 (by decide)
    · exact absurd c835 (by decide)

set_option maxHeartbeats 4000000 in
set_option maxRecDepth 100000 in
theorem op_example {k : KX} {l : Launch} {v : VV} {cj mz o b L i ce sl : Nat} {xs : Nat → Int32} (X : CX k l v cL_law "ClaimJudgeLaw" room_1 9) (hs : SCk k b L xs) (hnc : NCk k) (hst : l.stackTraces = false) (hL9 : L ≤ 2560) {P : Nat → S9} {n : Nat} {lo hi : Nat → Nat} {H : Nat → HE9} {c : Nat} {tx : Nat → Nat} {ln : Nat} {th : Int32} {w9 u9 : va_W} {f : Nat → Int64} (hC : IC9 v cj P n lo hi H c tx ln w9) (hM : IM9 v mz P n lo hi H c tx ln th u9) (hW : WF P n) (hL : AsW lo hi) (hi9 : i + 4 < L) (hce : ce + 1 ≤ 601024) (hsl : sl + 6 ≤ 7293034) (KN : NX9 k v cj mz o b i ce sl) : GG k ce sl [w9, u9, cOut v o f] [(4, .int (nI i)), (0, .ref b), (1, .ref cj), (2, .ref mz), (3, .ref o)] 860 [] := by
  obtain ⟨fs9, hq⟩ := IC9_hd hC
  obtain ⟨fs8, hqM⟩ := IM9_hd hM
  have hn12 := hW.1
  have hT6 := IC9_T hC
  rcases rng9 (xs (i + 1)) (n := n) (by omega) with ⟨i0, h0, e0⟩ | h0
  · refine g_aload_n X dL_law_860 2 rfl rfl ?_
    refine g_aload_n X dL_law_861 1 rfl rfl ?_
    refine g_iload X dL_law_862 0 rfl ?_
    refine g_iconst (x := nI 1) X dL_law_864 (by decide +kernel) ?_
    refine g_iaddN X dL_law_865 ?_
    refine g_sld X hs dL_law_866 (by omega) hL9 ?_
    refine g_v (y := nI i0) (e0) ?_
    refine g_aload_n X dL_law_867 4 rfl rfl ?_
    refine g_callW (As := [.ref cj, .int (nI i0), .ref o]) (rest := []) (wr := [u9]) X hnc (w_L_example l v cj o (nI i0) w9 f (fun w => IC9 v cj P n lo hi H c tx ln w) ({ frames := 7, cells := 0, slots := 0, locals := 118 }) (zI (exV lo hi P n i0)) hq rfl rfl (by decide) (by decide) (Cc_X6_example l v cj hC hW hL i0 h0)) f_L_example q_29_18 dL_law_868 [0, 2] [1] rfl rfl (by decide) rfl rfl (Nat.le_of_ble_eq_true rfl) ⟨rfl, rfl, by decide +kernel, by decide +kernel, (by show _ ≤ 601024; omega), (by show _ ≤ 7293034; omega)⟩ (fun r_ w_ hp1 => ?_)
    obtain ⟨rfl, w1, f1, hC1, hf1, rfl⟩ := hp1
    show GG k _ _ [w1, cOut v o f1, u9] _ _ [.int (nI 0)]
    refine g_pick (cs' := [w1, u9, cOut v o f1]) [0, 2, 1] rfl rfl ?_
    refine g_istore (lv' := [(5, .int (nI 0)), (4, .int (nI i)), (0, .ref b), (1, .ref cj), (2, .ref mz), (3, .ref o)]) X dL_law_871 (by decide) rfl ?_
    refine g_aload_n X dL_law_873 4 rfl rfl ?_
    refine g_aload_n X dL_law_874 2 rfl rfl ?_
    refine g_iload X dL_law_875 1 rfl ?_
    refine g_iconst (x := nI 1) X dL_law_877 (by decide +kernel) ?_
    refine g_iaddN X dL_law_878 ?_
    refine g_sld X hs dL_law_879 (by omega) hL9 ?_
    refine g_v (y := nI i0) (e0) ?_
    refine g_callV (As := [.int (nI i0)]) (rest := []) (wr := [w1, cOut v o f1]) X (Mc_X7_example l v hM hW hL i0 h0) f_X7_example q_30_1 dL_law_880 [1] [0, 2] rfl rfl (by decide) 0 hqM rfl rfl rfl (Nat.le_of_ble_eq_true rfl) ⟨rfl, rfl, by decide +kernel, by decide +kernel, (by show _ ≤ 601024; omega), (by show _ ≤ 7293034; omega)⟩ (fun r_ w_ hp2 => ?_)
    obtain ⟨rfl, u1, hM1, rfl⟩ := hp2
    obtain ⟨fs7, hqN⟩ := IM9_hd hM1
    show GG k _ _ [u1, w1, cOut v o f1] _ _ [.int (zI (exV lo hi P n i0))]
    refine g_pick (cs' := [w1, u1, cOut v o f1]) [1, 0, 2] rfl rfl ?_
    refine g_istore (lv' := [(6, .int (zI (exV lo hi P n i0))), (5, .int (nI 0)), (4, .int (nI i)), (0, .ref b), (1, .ref cj), (2, .ref mz), (3, .ref o)]) X dL_law_883 (by decide) rfl ?_
    refine g_aload_n X dL_law_885 5 rfl rfl ?_
    refine g_callV (As := []) (rest := []) (wr := [w1, cOut v o f1]) X (Mc_X7_thrown l v hM1 hW hL) f_X7_thrown q_16_9 dL_law_886 [1] [0, 2] rfl rfl (by decide) 0 hqN rfl rfl rfl (Nat.le_of_ble_eq_true rfl) ⟨rfl, rfl, by decide +kernel, by decide +kernel, (by show _ ≤ 601024; omega), (by show _ ≤ 7293034; omega)⟩ (fun r_ w_ hp3 => ?_)
    obtain ⟨rfl, u2, hM2, rfl⟩ := hp3
    show GG k _ _ [u2, w1, cOut v o f1] _ _ [.int (nI 0)]
    refine g_pick (cs' := [w1, u2, cOut v o f1]) [1, 0, 2] rfl rfl ?_
    refine g_iload X dL_law_889 1 rfl ?_
    refine g_icmp_eqN (tgt := 896) X dL_law_891 (by decide) (by omega) (by omega) (fun c891 => ?_) (fun c891 => ?_)
    · refine g_iload X dL_law_896 1 rfl ?_
      refine g_if_neN (tgt := 913) X dL_law_898 (by decide) (by omega) (fun c898 => ?_) (fun c898 => ?_)
      · exact absurd rfl c898
      · refine g_aload_n X dL_law_901 6 rfl rfl ?_
        refine g_iconst (x := nI 0) X dL_law_902 (by decide +kernel) ?_
        refine g_lald X dL_law_903 2 0 rfl rfl (by omega) (by omega) ?_
        refine g_vl (y := (zI (exV lo hi P n i0)).toInt64) (hf1) ?_
        refine g_iload X dL_law_904 0 rfl ?_
        refine g_i2l X dL_law_906 rfl ?_
        refine g_lcmp X dL_law_907 ?_
        refine g_v (y := nI 0) (lg_self _) ?_
        refine g_if_eqN (tgt := 913) X dL_law_908 (by decide) (by omega) (fun c908 => ?_) (fun c908 => ?_)
        · refine g_goto (tgt := 1328) X dL_law_913 (by decide) ?_
          refine g_lv (lv' := [(4, .int (nI i)), (0, .ref b), (1, .ref cj), (2, .ref mz), (3, .ref o)]) [2, 3, 4, 5, 6] rfl ?_
          exact KN hC1 hM2 hW hL (by omega) (by omega)
        · exact absurd rfl c908
    · exact absurd c891 (by decide)
  · refine g_aload_n X dL_law_860 2 rfl rfl ?_
    refine g_aload_n X dL_law_861 1 rfl rfl ?_
    refine g_iload X dL_law_862 0 rfl ?_
    refine g_iconst (x := nI 1) X dL_law_864 (by decide +kernel) ?_
    refine g_iaddN X dL_law_865 ?_
    refine g_sld X hs dL_law_866 (by omega) hL9 ?_
    refine g_aload_n X dL_law_867 4 rfl rfl ?_
    refine g_callW (As := [.ref cj, .int (xs (i + 1)), .ref o]) (rest := []) (wr := [u9]) X hnc (w1_L_example l v cj o (xs (i + 1)) w9 f (fun w => IC9 v cj P n lo hi H c tx ln w) ({ frames := 7, cells := 1, slots := 6, locals := 120 }) hq rfl rfl (by decide) (by decide) (Cb_X6_example l v hst cj hC hW hL (xs (i + 1)) h0)) f_L_example q_29_18 dL_law_868 [0, 2] [1] rfl rfl (by decide) rfl rfl (Nat.le_of_ble_eq_true rfl) ⟨rfl, rfl, by decide +kernel, by decide +kernel, (by show _ ≤ 601024; omega), (by show _ ≤ 7293034; omega)⟩ (fun r_ w_ hp4 => ?_)
    obtain ⟨rfl, w1, hC1, rfl⟩ := hp4
    show GG k _ _ [w1, cOut v o f, u9] _ _ [.int (nI 1)]
    refine g_pick (cs' := [w1, u9, cOut v o f]) [0, 2, 1] rfl rfl ?_
    refine g_istore (lv' := [(5, .int (nI 1)), (4, .int (nI i)), (0, .ref b), (1, .ref cj), (2, .ref mz), (3, .ref o)]) X dL_law_871 (by decide) rfl ?_
    refine g_aload_n X dL_law_873 4 rfl rfl ?_
    refine g_aload_n X dL_law_874 2 rfl rfl ?_
    refine g_iload X dL_law_875 1 rfl ?_
    refine g_iconst (x := nI 1) X dL_law_877 (by decide +kernel) ?_
    refine g_iaddN X dL_law_878 ?_
    refine g_sld X hs dL_law_879 (by omega) hL9 ?_
    refine g_callV (As := [.int (xs (i + 1))]) (rest := []) (wr := [w1, cOut v o f]) X (Mb_X7_example l v hM hW hL (xs (i + 1)) h0) f_X7_example q_30_1 dL_law_880 [1] [0, 2] rfl rfl (by decide) 0 hqM rfl rfl rfl (Nat.le_of_ble_eq_true rfl) ⟨rfl, rfl, by decide +kernel, by decide +kernel, (by show _ ≤ 601024; omega), (by show _ ≤ 7293034; omega)⟩ (fun r_ w_ hp5 => ?_)
    obtain ⟨rfl, u1, hM1, rfl⟩ := hp5
    obtain ⟨fs7, hqN⟩ := IM9_hd hM1
    show GG k _ _ [u1, w1, cOut v o f] _ _ [.int (nI 0)]
    refine g_pick (cs' := [w1, u1, cOut v o f]) [1, 0, 2] rfl rfl ?_
    refine g_istore (lv' := [(6, .int (nI 0)), (5, .int (nI 1)), (4, .int (nI i)), (0, .ref b), (1, .ref cj), (2, .ref mz), (3, .ref o)]) X dL_law_883 (by decide) rfl ?_
    refine g_aload_n X dL_law_885 5 rfl rfl ?_
    refine g_callV (As := []) (rest := []) (wr := [w1, cOut v o f]) X (Mc_X7_thrown l v hM1 hW hL) f_X7_thrown q_16_9 dL_law_886 [1] [0, 2] rfl rfl (by decide) 0 hqN rfl rfl rfl (Nat.le_of_ble_eq_true rfl) ⟨rfl, rfl, by decide +kernel, by decide +kernel, (by show _ ≤ 601024; omega), (by show _ ≤ 7293034; omega)⟩ (fun r_ w_ hp6 => ?_)
    obtain ⟨rfl, u2, hM2, rfl⟩ := hp6
    show GG k _ _ [u2, w1, cOut v o f] _ _ [.int (nI 1)]
    refine g_pick (cs' := [w1, u2, cOut v o f]) [1, 0, 2] rfl rfl ?_
    refine g_iload X dL_law_889 1 rfl ?_
    refine g_icmp_eqN (tgt := 896) X dL_law_891 (by decide) (by omega) (by omega) (fun c891 => ?_) (fun c891 => ?_)
    · refine g_iload X dL_law_896 1 rfl ?_
      refine g_if_neN (tgt := 913) X dL_law_898 (by decide) (by omega) (fun c898 => ?_) (fun c898 => ?_)
      · refine g_goto (tgt := 1328) X dL_law_913 (by decide) ?_
        refine g_lv (lv' := [(4, .int (nI i)), (0, .ref b), (1, .ref cj), (2, .ref mz), (3, .ref o)]) [2, 3, 4, 5, 6] rfl ?_
        exact KN hC1 hM2 hW hL (by omega) (by omega)
      · exact absurd c898 (by decide)
    · exact absurd c891 (by decide)

