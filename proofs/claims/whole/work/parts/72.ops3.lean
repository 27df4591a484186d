/-! ## the law: a call of each kind (3) -/
set_option maxHeartbeats 4000000 in
set_option maxRecDepth 100000 in
theorem op_endless {k : KX} {l : Launch} {v : VV} {cj mz o b L i ce sl : Nat} {xs : Nat → Int32} (X : CX k l v cL_law "ClaimJudgeLaw" room_1 9) (hs : SCk k b L xs) (hnc : NCk k) (hst : l.stackTraces = false) (hL9 : L ≤ 2560) {P : Nat → S9} {n : Nat} {lo hi : Nat → Nat} {H : Nat → HE9} {c : Nat} {tx : Nat → Nat} {ln : Nat} {th : Int32} {w9 u9 : va_W} {f : Nat → Int64} (hC : IC9 v cj P n lo hi H c tx ln w9) (hM : IM9 v mz P n lo hi H c tx ln th u9) (hW : WF P n) (hL : AsW lo hi) (hi9 : i + 4 < L) (hce : ce + 1 ≤ 601024) (hsl : sl + 6 ≤ 7293034) (KN : NX9 k v cj mz o b i ce sl) : GG k ce sl [w9, u9, cOut v o f] [(4, .int (nI i)), (0, .ref b), (1, .ref cj), (2, .ref mz), (3, .ref o)] 916 [] := by
  obtain ⟨fs9, hq⟩ := IC9_hd hC
  obtain ⟨fs8, hqM⟩ := IM9_hd hM
  have hn12 := hW.1
  have hT6 := IC9_T hC
  refine g_aload_n X dL_law_916 2 rfl rfl ?_
  refine g_callV (As := []) (rest := []) (wr := [u9, cOut v o f]) X (Cc_X6_endless l v cj hC hW hL) f_X6_endless q_30_5 dL_law_917 [0] [1, 2] rfl rfl (by decide) 0 hq rfl rfl rfl (Nat.le_of_ble_eq_true rfl) ⟨rfl, rfl, by decide +kernel, by decide +kernel, (by show _ ≤ 601024; omega), (by show _ ≤ 7293034; omega)⟩ (fun r_ w_ hp1 => ?_)
  obtain ⟨rfl, w1, hC1, rfl⟩ := hp1
  show GG k _ _ [w1, u9, cOut v o f] _ _ [.int (nI (ctb (jE lo hi P n) 512))]
  refine g_aload_n X dL_law_920 3 rfl rfl ?_
  refine g_callV (As := []) (rest := [.int (nI (ctb (jE lo hi P n) 512))]) (wr := [w1, cOut v o f]) X (Mc_X7_endless l v hM hW hL  ) f_X7_endless q_30_9 dL_law_921 [1] [0, 2] rfl rfl (by decide) 0 hqM rfl rfl rfl (Nat.le_of_ble_eq_true rfl) ⟨rfl, rfl, by decide +kernel, by decide +kernel, (by show _ ≤ 601024; omega), (by show _ ≤ 7293034; omega)⟩ (fun r_ w_ hp2 => ?_)
  obtain ⟨rfl, u1, hM1, rfl⟩ := hp2
  obtain ⟨fs7, hqN⟩ := IM9_hd hM1
  show GG k _ _ [u1, w1, cOut v o f] _ _ [.int (nI (ctb (jE lo hi P n) 512)), .int (nI (ctb (jE lo hi P n) 512))]
  refine g_pick (cs' := [w1, u1, cOut v o f]) [1, 0, 2] rfl rfl ?_
  refine g_icmp_eq (tgt := 1328) X dL_law_924 (by decide) (fun c924 => ?_) (fun c924 => ?_)
  · exact KN hC1 hM1 hW hL (by omega) (by omega)
  · exact absurd rfl c924

set_option maxHeartbeats 4000000 in
set_option maxRecDepth 100000 in
theorem op_proof {k : KX} {l : Launch} {v : VV} {cj mz o b L i ce sl : Nat} {xs : Nat → Int32} (X : CX k l v cL_law "ClaimJudgeLaw" room_1 9) (hs : SCk k b L xs) (hnc : NCk k) (hst : l.stackTraces = false) (hL9 : L ≤ 2560) {P : Nat → S9} {n : Nat} {lo hi : Nat → Nat} {H : Nat → HE9} {c : Nat} {tx : Nat → Nat} {ln : Nat} {th : Int32} {w9 u9 : va_W} {f : Nat → Int64} (hC : IC9 v cj P n lo hi H c tx ln w9) (hM : IM9 v mz P n lo hi H c tx ln th u9) (hW : WF P n) (hL : AsW lo hi) (hi9 : i + 4 < L) (hce : ce + 1 ≤ 601024) (hsl : sl + 6 ≤ 7293034) (KN : NX9 k v cj mz o b i ce sl) : GG k ce sl [w9, u9, cOut v o f] [(4, .int (nI i)), (0, .ref b), (1, .ref cj), (2, .ref mz), (3, .ref o)] 929 [] := by
  obtain ⟨fs9, hq⟩ := IC9_hd hC
  obtain ⟨fs8, hqM⟩ := IM9_hd hM
  have hn12 := hW.1
  have hT6 := IC9_T hC
  refine g_aload_n X dL_law_929 2 rfl rfl ?_
  refine g_callV (As := []) (rest := []) (wr := [u9, cOut v o f]) X (Cc_X6_proof l v cj hC hW hL) f_X6_proof q_30_17 dL_law_930 [0] [1, 2] rfl rfl (by decide) 0 hq rfl rfl rfl (Nat.le_of_ble_eq_true rfl) ⟨rfl, rfl, by decide +kernel, by decide +kernel, (by show _ ≤ 601024; omega), (by show _ ≤ 7293034; omega)⟩ (fun r_ w_ hp1 => ?_)
  obtain ⟨rfl, w1, hC1, rfl⟩ := hp1
  show GG k _ _ [w1, u9, cOut v o f] _ _ [.int (zI (pfV lo hi P n))]
  refine g_aload_n X dL_law_933 3 rfl rfl ?_
  refine g_callV (As := []) (rest := [.int (zI (pfV lo hi P n))]) (wr := [w1, cOut v o f]) X (Mc_X7_proof l v hM hW hL  ) f_X7_proof q_30_21 dL_law_934 [1] [0, 2] rfl rfl (by decide) 0 hqM rfl rfl rfl (Nat.le_of_ble_eq_true rfl) ⟨rfl, rfl, by decide +kernel, by decide +kernel, (by show _ ≤ 601024; omega), (by show _ ≤ 7293034; omega)⟩ (fun r_ w_ hp2 => ?_)
  obtain ⟨rfl, u1, hM1, rfl⟩ := hp2
  obtain ⟨fs7, hqN⟩ := IM9_hd hM1
  show GG k _ _ [u1, w1, cOut v o f] _ _ [.int (zI (pfV lo hi P n)), .int (zI (pfV lo hi P n))]
  refine g_pick (cs' := [w1, u1, cOut v o f]) [1, 0, 2] rfl rfl ?_
  refine g_icmp_eq (tgt := 1328) X dL_law_937 (by decide) (fun c937 => ?_) (fun c937 => ?_)
  · exact KN hC1 hM1 hW hL (by omega) (by omega)
  · exact absurd rfl c937

set_option maxHeartbeats 4000000 in
set_option maxRecDepth 100000 in
theorem op_provedShare {k : KX} {l : Launch} {v : VV} {cj mz o b L i ce sl : Nat} {xs : Nat → Int32} (X : CX k l v cL_law "ClaimJudgeLaw" room_1 9) (hs : SCk k b L xs) (hnc : NCk k) (hst : l.stackTraces = false) (hL9 : L ≤ 2560) {P : Nat → S9} {n : Nat} {lo hi : Nat → Nat} {H : Nat → HE9} {c : Nat} {tx : Nat → Nat} {ln : Nat} {th : Int32} {w9 u9 : va_W} {f : Nat → Int64} (hC : IC9 v cj P n lo hi H c tx ln w9) (hM : IM9 v mz P n lo hi H c tx ln th u9) (hW : WF P n) (hL : AsW lo hi) (hi9 : i + 4 < L) (hce : ce + 1 ≤ 601024) (hsl : sl + 6 ≤ 7293034) (KN : NX9 k v cj mz o b i ce sl) : GG k ce sl [w9, u9, cOut v o f] [(4, .int (nI i)), (0, .ref b), (1, .ref cj), (2, .ref mz), (3, .ref o)] 942 [] := by
  obtain ⟨fs9, hq⟩ := IC9_hd hC
  obtain ⟨fs8, hqM⟩ := IM9_hd hM
  have hn12 := hW.1
  have hT6 := IC9_T hC
  refine g_aload_n X dL_law_942 2 rfl rfl ?_
  refine g_callV (As := []) (rest := []) (wr := [u9, cOut v o f]) X (Cc_X6_provedShare l v cj hC hW hL) f_X6_provedShare q_31_5 dL_law_943 [0] [1, 2] rfl rfl (by decide) 0 hq rfl rfl rfl (Nat.le_of_ble_eq_true rfl) ⟨rfl, rfl, by decide +kernel, by decide +kernel, (by show _ ≤ 601024; omega), (by show _ ≤ 7293034; omega)⟩ (fun r_ w_ hp1 => ?_)
  obtain ⟨rfl, w1, hC1, rfl⟩ := hp1
  show GG k _ _ [w1, u9, cOut v o f] _ _ [.double (psV lo hi P n)]
  refine g_dstore (lv' := [(5, .double (psV lo hi P n)), (4, .int (nI i)), (0, .ref b), (1, .ref cj), (2, .ref mz), (3, .ref o)]) X dL_law_946 (by decide) rfl ?_
  refine g_aload_n X dL_law_948 4 rfl rfl ?_
  refine g_callV (As := []) (rest := []) (wr := [w1, cOut v o f]) X (Mc_X7_provedShare l v hM hW hL  ) f_X7_provedShare q_31_9 dL_law_949 [1] [0, 2] rfl rfl (by decide) 0 hqM rfl rfl rfl (Nat.le_of_ble_eq_true rfl) ⟨rfl, rfl, by decide +kernel, by decide +kernel, (by show _ ≤ 601024; omega), (by show _ ≤ 7293034; omega)⟩ (fun r_ w_ hp2 => ?_)
  obtain ⟨rfl, u1, hM1, rfl⟩ := hp2
  obtain ⟨fs7, hqN⟩ := IM9_hd hM1
  show GG k _ _ [u1, w1, cOut v o f] _ _ [.double (psV lo hi P n)]
  refine g_pick (cs' := [w1, u1, cOut v o f]) [1, 0, 2] rfl rfl ?_
  refine g_dstore (lv' := [(7, .double (psV lo hi P n)), (5, .double (psV lo hi P n)), (4, .int (nI i)), (0, .ref b), (1, .ref cj), (2, .ref mz), (3, .ref o)]) X dL_law_952 (by decide) rfl ?_
  refine g_dload X dL_law_954 1 rfl ?_
  refine g_dload X dL_law_956 0 rfl ?_
  obtain ⟨zq, hzq⟩ : ∃ z, Op.cmpValue (FP.dcmp (psV lo hi P n) (psV lo hi P n)) .l = z := ⟨_, rfl⟩
  refine g_dcmp X dL_law_958 hzq ?_
  refine g_if_eq (tgt := 980) X dL_law_959 (by decide) (fun c959 => ?_) (fun c959 => ?_)
  · refine g_goto (tgt := 1328) X dL_law_980 (by decide) ?_
    refine g_lv (lv' := [(4, .int (nI i)), (0, .ref b), (1, .ref cj), (2, .ref mz), (3, .ref o)]) [2, 3, 4, 5, 6] rfl ?_
    exact KN hC1 hM1 hW hL (by omega) (by omega)
  · refine g_dload X dL_law_962 1 rfl ?_
    refine g_dload X dL_law_964 1 rfl ?_
    refine g_dcmp X dL_law_966 hzq ?_
    refine g_if_eq (tgt := 978) X dL_law_967 (by decide) (fun c967 => ?_) (fun c967 => ?_)
    · exact absurd c967 c959
    · refine g_dload X dL_law_970 0 rfl ?_
      refine g_dload X dL_law_972 0 rfl ?_
      refine g_dcmp X dL_law_974 hzq ?_
      refine g_if_ne (tgt := 980) X dL_law_975 (by decide) (fun c975 => ?_) (fun c975 => ?_)
      · refine g_goto (tgt := 1328) X dL_law_980 (by decide) ?_
        refine g_lv (lv' := [(4, .int (nI i)), (0, .ref b), (1, .ref cj), (2, .ref mz), (3, .ref o)]) [2, 3, 4, 5, 6] rfl ?_
        exact KN hC1 hM1 hW hL (by omega) (by omega)
      · exact absurd c975 c959

set_option maxHeartbeats 4000000 in
set_option maxRecDepth 100000 in
theorem op_least {k : KX} {l : Launch} {v : VV} {cj mz o b L i ce sl : Nat} {xs : Nat → Int32} (X : CX k l v cL_law "ClaimJudgeLaw" room_1 9) (hs : SCk k b L xs) (hnc : NCk k) (hst : l.stackTraces = false) (hL9 : L ≤ 2560) {P : Nat → S9} {n : Nat} {lo hi : Nat → Nat} {H : Nat → HE9} {c : Nat} {tx : Nat → Nat} {ln : Nat} {th : Int32} {w9 u9 : va_W} {f : Nat → Int64} (hC : IC9 v cj P n lo hi H c tx ln w9) (hM : IM9 v mz P n lo hi H c tx ln th u9) (hW : WF P n) (hL : AsW lo hi) (hi9 : i + 4 < L) (hce : ce + 1 ≤ 601024) (hsl : sl + 6 ≤ 7293034) (KN : NX9 k v cj mz o b i ce sl) : GG k ce sl [w9, u9, cOut v o f] [(4, .int (nI i)), (0, .ref b), (1, .ref cj), (2, .ref mz), (3, .ref o)] 983 [] := by
  obtain ⟨fs9, hq⟩ := IC9_hd hC
  obtain ⟨fs8, hqM⟩ := IM9_hd hM
  have hn12 := hW.1
  have hT6 := IC9_T hC
  rcases rng9 (xs (i + 1)) (n := n + 1) (by omega) with ⟨i0, h0, e0⟩ | h0
  · rcases rng9 (xs (i + 2)) (n := 3) (by omega) with ⟨i1, h1, e1⟩ | h1
    · refine g_aload_n X dL_law_983 2 rfl rfl ?_
      refine g_aload_n X dL_law_984 1 rfl rfl ?_
      refine g_iload X dL_law_985 0 rfl ?_
      refine g_iconst (x := nI 1) X dL_law_987 (by decide +kernel) ?_
      refine g_iaddN X dL_law_988 ?_
      refine g_sld X hs dL_law_989 (by omega) hL9 ?_
      refine g_v (y := nI i0) (e0) ?_
      refine g_aload_n X dL_law_990 1 rfl rfl ?_
      refine g_iload X dL_law_991 0 rfl ?_
      refine g_iconst (x := nI 2) X dL_law_993 (by decide +kernel) ?_
      refine g_iaddN X dL_law_994 ?_
      refine g_sld X hs dL_law_995 (by omega) hL9 ?_
      refine g_v (y := nI i1) (e1) ?_
      refine g_aload_n X dL_law_996 4 rfl rfl ?_
      refine g_callW (As := [.ref cj, .int (nI i0), .int (nI i1), .ref o]) (rest := []) (wr := [u9]) X hnc (w_L_least l v cj o (nI i0) (nI i1) w9 f (fun w => IC9 v cj P n lo hi H c tx ln w) ({ frames := 7, cells := 0, slots := 0, locals := 118 }) (zI (mnV lo hi P n i0 i1)) hq rfl rfl (by decide) (by decide) (Cc_X6_least l v cj hC hW hL i0 i1 h0 h1)) f_L_least q_31_13 dL_law_997 [0, 2] [1] rfl rfl (by decide) rfl rfl (Nat.le_of_ble_eq_true rfl) ⟨rfl, rfl, by decide +kernel, by decide +kernel, (by show _ ≤ 601024; omega), (by show _ ≤ 7293034; omega)⟩ (fun r_ w_ hp1 => ?_)
      obtain ⟨rfl, w1, f1, hC1, hf1, rfl⟩ := hp1
      show GG k _ _ [w1, cOut v o f1, u9] _ _ [.int (nI 0)]
      refine g_pick (cs' := [w1, u9, cOut v o f1]) [0, 2, 1] rfl rfl ?_
      refine g_istore (lv' := [(5, .int (nI 0)), (4, .int (nI i)), (0, .ref b), (1, .ref cj), (2, .ref mz), (3, .ref o)]) X dL_law_1000 (by decide) rfl ?_
      refine g_aload_n X dL_law_1002 4 rfl rfl ?_
      refine g_aload_n X dL_law_1003 2 rfl rfl ?_
      refine g_iload X dL_law_1004 1 rfl ?_
      refine g_iconst (x := nI 1) X dL_law_1006 (by decide +kernel) ?_
      refine g_iaddN X dL_law_1007 ?_
      refine g_sld X hs dL_law_1008 (by omega) hL9 ?_
      refine g_v (y := nI i0) (e0) ?_
      refine g_aload_n X dL_law_1009 2 rfl rfl ?_
      refine g_iload X dL_law_1010 1 rfl ?_
      refine g_iconst (x := nI 2) X dL_law_1012 (by decide +kernel) ?_
      refine g_iaddN X dL_law_1013 ?_
      refine g_sld X hs dL_law_1014 (by omega) hL9 ?_
      refine g_v (y := nI i1) (e1) ?_
      refine g_callV (As := [.int (nI i0), .int (nI i1)]) (rest := []) (wr := [w1, cOut v o f1]) X (Mc_X7_least l v hM hW hL i0 i1 h0 h1) f_X7_least q_31_20 dL_law_1015 [1] [0, 2] rfl rfl (by decide) 0 hqM rfl rfl rfl (Nat.le_of_ble_eq_true rfl) ⟨rfl, rfl, by decide +kernel, by decide +kernel, (by show _ ≤ 601024; omega), (by show _ ≤ 7293034; omega)⟩ (fun r_ w_ hp2 => ?_)
      obtain ⟨rfl, u1, hM1, rfl⟩ := hp2
      obtain ⟨fs7, hqN⟩ := IM9_hd hM1
      show GG k _ _ [u1, w1, cOut v o f1] _ _ [.int (zI (mnV lo hi P n i0 i1))]
      refine g_pick (cs' := [w1, u1, cOut v o f1]) [1, 0, 2] rfl rfl ?_
      refine g_istore (lv' := [(6, .int (zI (mnV lo hi P n i0 i1))), (5, .int (nI 0)), (4, .int (nI i)), (0, .ref b), (1, .ref cj), (2, .ref mz), (3, .ref o)]) X dL_law_1018 (by decide) rfl ?_
      refine g_aload_n X dL_law_1020 5 rfl rfl ?_
      refine g_callV (As := []) (rest := []) (wr := [w1, cOut v o f1]) X (Mc_X7_thrown l v hM1 hW hL) f_X7_thrown q_16_9 dL_law_1021 [1] [0, 2] rfl rfl (by decide) 0 hqN rfl rfl rfl (Nat.le_of_ble_eq_true rfl) ⟨rfl, rfl, by decide +kernel, by decide +kernel, (by show _ ≤ 601024; omega), (by show _ ≤ 7293034; omega)⟩ (fun r_ w_ hp3 => ?_)
      obtain ⟨rfl, u2, hM2, rfl⟩ := hp3
      show GG k _ _ [u2, w1, cOut v o f1] _ _ [.int (nI 0)]
      refine g_pick (cs' := [w1, u2, cOut v o f1]) [1, 0, 2] rfl rfl ?_
      refine g_iload X dL_law_1024 1 rfl ?_
      refine g_icmp_eqN (tgt := 1031) X dL_law_1026 (by decide) (by omega) (by omega) (fun c1026 => ?_) (fun c1026 => ?_)
      · refine g_iload X dL_law_1031 1 rfl ?_
        refine g_if_neN (tgt := 1048) X dL_law_1033 (by decide) (by omega) (fun c1033 => ?_) (fun c1033 => ?_)
        · exact absurd rfl c1033
        · refine g_aload_n X dL_law_1036 6 rfl rfl ?_
          refine g_iconst (x := nI 0) X dL_law_1037 (by decide +kernel) ?_
          refine g_lald X dL_law_1038 2 0 rfl rfl (by omega) (by omega) ?_
          refine g_vl (y := (zI (mnV lo hi P n i0 i1)).toInt64) (hf1) ?_
          refine g_iload X dL_law_1039 0 rfl ?_
          refine g_i2l X dL_law_1041 rfl ?_
          refine g_lcmp X dL_law_1042 ?_
          refine g_v (y := nI 0) (lg_self _) ?_
          refine g_if_eqN (tgt := 1048) X dL_law_1043 (by decide) (by omega) (fun c1043 => ?_) (fun c1043 => ?_)
          · refine g_goto (tgt := 1328) X dL_law_1048 (by decide) ?_
            refine g_lv (lv' := [(4, .int (nI i)), (0, .ref b), (1, .ref cj), (2, .ref mz), (3, .ref o)]) [2, 3, 4, 5, 6] rfl ?_
            exact KN hC1 hM2 hW hL (by omega) (by omega)
          · exact absurd rfl c1043
      · exact absurd c1026 (by decide)
    · refine g_aload_n X dL_law_983 2 rfl rfl ?_
      refine g_aload_n X dL_law_984 1 rfl rfl ?_
      refine g_iload X dL_law_985 0 rfl ?_
      refine g_iconst (x := nI 1) X dL_law_987 (by decide +kernel) ?_
      refine g_iaddN X dL_law_988 ?_
      refine g_sld X hs dL_law_989 (by omega) hL9 ?_
      refine g_v (y := nI i0) (e0) ?_
      refine g_aload_n X dL_law_990 1 rfl rfl ?_
      refine g_iload X dL_law_991 0 rfl ?_
      refine g_iconst (x := nI 2) X dL_law_993 (by decide +kernel) ?_
      refine g_iaddN X dL_law_994 ?_
      refine g_sld X hs dL_law_995 (by omega) hL9 ?_
      refine g_aload_n X dL_law_996 4 rfl rfl ?_
      refine g_callW (As := [.ref cj, .int (nI i0), .int (xs (i + 2)), .ref o]) (rest := []) (wr := [u9]) X hnc (w1_L_least l v cj o (nI i0) (xs (i + 2)) w9 f (fun w => IC9 v cj P n lo hi H c tx ln w) ({ frames := 7, cells := 1, slots := 6, locals := 120 }) hq rfl rfl (by decide) (by decide) (Cb1_X6_least l v hst cj hC hW hL i0 (xs (i + 2)) h0 h1)) f_L_least q_31_13 dL_law_997 [0, 2] [1] rfl rfl (by decide) rfl rfl (Nat.le_of_ble_eq_true rfl) ⟨rfl, rfl, by decide +kernel, by decide +kernel, (by show _ ≤ 601024; omega), (by show _ ≤ 7293034; omega)⟩ (fun r_ w_ hp4 => ?_)
      obtain ⟨rfl, w1, hC1, rfl⟩ := hp4
      show GG k _ _ [w1, cOut v o f, u9] _ _ [.int (nI 1)]
      refine g_pick (cs' := [w1, u9, cOut v o f]) [0, 2, 1] rfl rfl ?_
      refine g_istore (lv' := [(5, .int (nI 1)), (4, .int (nI i)), (0, .ref b), (1, .ref cj), (2, .ref mz), (3, .ref o)]) X dL_law_1000 (by decide) rfl ?_
      refine g_aload_n X dL_law_1002 4 rfl rfl ?_
      refine g_aload_n X dL_law_1003 2 rfl rfl ?_
      refine g_iload X dL_law_1004 1 rfl ?_
      refine g_iconst (x := nI 1) X dL_law_1006 (by decide +kernel) ?_
      refine g_iaddN X dL_law_1007 ?_
      refine g_sld X hs dL_law_1008 (by omega) hL9 ?_
      refine g_v (y := nI i0) (e0) ?_
      refine g_aload_n X dL_law_1009 2 rfl rfl ?_
      refine g_iload X dL_law_1010 1 rfl ?_
      refine g_iconst (x := nI 2) X dL_law_1012 (by decide +kernel) ?_
      refine g_iaddN X dL_law_1013 ?_
      refine g_sld X hs dL_law_1014 (by omega) hL9 ?_
      refine g_callV (As := [.int (nI i0), .int (xs (i + 2))]) (rest := []) (wr := [w1, cOut v o f]) X (Mb1_X7_least l v hM hW hL i0 (xs (i + 2)) h0 h1) f_X7_least q_31_20 dL_law_1015 [1] [0, 2] rfl rfl (by decide) 0 hqM rfl rfl rfl (Nat.le_of_ble_eq_true rfl) ⟨rfl, rfl, by decide +kernel, by decide +kernel, (by show _ ≤ 601024; omega), (by show _ ≤ 7293034; omega)⟩ (fun r_ w_ hp5 => ?_)
      obtain ⟨rfl, u1, hM1, rfl⟩ := hp5
      obtain ⟨fs7, hqN⟩ := IM9_hd hM1
      show GG k _ _ [u1, w1, cOut v o f] _ _ [.int (nI 0)]
      refine g_pick (cs' := [w1, u1, cOut v o f]) [1, 0, 2] rfl rfl ?_
      refine g_istore (lv' := [(6, .int (nI 0)), (5, .int (nI 1)), (4, .int (nI i)), (0, .ref b), (1, .ref cj), (2, .ref mz), (3, .ref o)]) X dL_law_1018 (by decide) rfl ?_
      refine g_aload_n X dL_law_1020 5 rfl rfl ?_
      refine g_callV (As := []) (rest := []) (wr := [w1, cOut v o f]) X (Mc_X7_thrown l v hM1 hW hL) f_X7_thrown q_16_9 dL_law_1021 [1] [0, 2] rfl rfl (by decide) 0 hqN rfl rfl rfl (Nat.le_of_ble_eq_true rfl) ⟨rfl, rfl, by decide +kernel, by decide +kernel, (by show _ ≤ 601024; omega), (by show _ ≤ 7293034; omega)⟩ (fun r_ w_ hp6 => ?_)
      obtain ⟨rfl, u2, hM2, rfl⟩ := hp6
      show GG k _ _ [u2, w1, cOut v o f] _ _ [.int (nI 1)]
      refine g_pick (cs' := [w1, u2, cOut v o f]) [1, 0, 2] rfl rfl ?_
      refine g_iload X dL_law_1024 1 rfl ?_
      refine g_icmp_eqN (tgt := 1031) X dL_law_1026 (by decide) (by omega) (by omega) (fun c1026 => ?_) (fun c1026 => ?_)
      · refine g_iload X dL_law_1031 1 rfl ?_
        refine g_if_neN (tgt := 1048) X dL_law_1033 (by decide) (by omega) (fun c1033 => ?_) (fun c1033 => ?_)
        · refine g_goto (tgt := 1328) X dL_law_1048 (by decide) ?_
          refine g_lv (lv' := [(4, .int (nI i)), (0, .ref b), (1, .ref cj), (2, .ref mz), (3, .ref o)]) [2, 3, 4, 5, 6] rfl ?_
          exact KN hC1 hM2 hW hL (by omega) (by omega)
        · exact absurd c1033 (by decide)
      · exact absurd c1026 (by decide)
  · refine g_aload_n X dL_law_983 2 rfl rfl ?_
    refine g_aload_n X dL_law_984 1 rfl rfl ?_
    refine g_iload X dL_law_985 0 rfl ?_
    refine g_iconst (x := nI 1) X dL_law_987 (by decide +kernel) ?_
    refine g_iaddN X dL_law_988 ?_
    refine g_sld X hs dL_law_989 (by omega) hL9 ?_
    refine g_aload_n X dL_law_990 1 rfl rfl ?_
    refine g_iload X dL_law_991 0 rfl ?_
    refine g_iconst (x := nI 2) X dL_law_993 (by decide +kernel) ?_
    refine g_iaddN X dL_law_994 ?_
    refine g_sld X hs dL_law_995 (by omega) hL9 ?_
    refine g_aload_n X dL_law_996 4 rfl rfl ?_
    refine g_callW (As := [.ref cj, .int (xs (i + 1)), .int (xs (i + 2)), .ref o]) (rest := []) (wr := [u9]) X hnc (w1_L_least l v cj o (xs (i + 1)) (xs (i + 2)) w9 f (fun w => IC9 v cj P n lo hi H c tx ln w) ({ frames := 7, cells := 1, slots := 6, locals := 120 }) hq rfl rfl (by decide) (by decide) (Cb_X6_least l v hst cj hC hW hL (xs (i + 1)) (xs (i + 2)) h0)) f_L_least q_31_13 dL_law_997 [0, 2] [1] rfl rfl (by decide) rfl rfl (Nat.le_of_ble_eq_true rfl) ⟨rfl, rfl, by decide +kernel, by decide +kernel, (by show _ ≤ 601024; omega), (by show _ ≤ 7293034; omega)⟩ (fun r_ w_ hp7 => ?_)
    obtain ⟨rfl, w1, hC1, rfl⟩ := hp7
    show GG k _ _ [w1, cOut v o f, u9] _ _ [.int (nI 1)]
    refine g_pick (cs' := [w1, u9, cOut v o f]) [0, 2, 1] rfl rfl ?_
    refine g_istore (lv' := [(5, .int (nI 1)), (4, .int (nI i)), (0, .ref b), (1, .ref cj), (2, .ref mz), (3, .ref o)]) X dL_law_1000 (by decide) rfl ?_
    refine g_aload_n X dL_law_1002 4 rfl rfl ?_
    refine g_aload_n X dL_law_1003 2 rfl rfl ?_
    refine g_iload X dL_law_1004 1 rfl ?_
    refine g_iconst (x := nI 1) X dL_law_1006 (by decide +kernel) ?_
    refine g_iaddN X dL_law_1007 ?_
    refine g_sld X hs dL_law_1008 (by omega) hL9 ?_
    refine g_aload_n X dL_law_1009 2 rfl rfl ?_
    refine g_iload X dL_law_1010 1 rfl ?_
    refine g_iconst (x := nI 2) X dL_law_1012 (by decide +kernel) ?_
    refine g_iaddN X dL_law_1013 ?_
    refine g_sld X hs dL_law_1014 (by omega) hL9 ?_
    refine g_callV (As := [.int (xs (i + 1)), .int (xs (i + 2))]) (rest := []) (wr := [w1, cOut v o f]) X (Mb_X7_least l v hM hW hL (xs (i + 1)) (xs (i + 2)) h0) f_X7_least q_31_20 dL_law_1015 [1] [0, 2] rfl rfl (by decide) 0 hqM rfl rfl rfl (Nat.le_of_ble_eq_true rfl) ⟨rfl, rfl, by decide +kernel, by decide +kernel, (by show _ ≤ 601024; omega), (by show _ ≤ 7293034; omega)⟩ (fun r_ w_ hp8 => ?_)
    obtain ⟨rfl, u1, hM1, rfl⟩ := hp8
    obtain ⟨fs7, hqN⟩ := IM9_hd hM1
    show GG k _ _ [u1, w1, cOut v o f] _ _ [.int (nI 0)]
    refine g_pick (cs' := [w1, u1, cOut v o f]) [1, 0, 2] rfl rfl ?_
    refine g_istore (lv' := [(6, .int (nI 0)), (5, .int (nI 1)), (4, .int (nI i)), (0, .ref b), (1, .ref cj), (2, .ref mz), (3, .ref o)]) X dL_law_1018 (by decide) rfl ?_
    refine g_aload_n X dL_law_1020 5 rfl rfl ?_
    refine g_callV (As := []) (rest := []) (wr := [w1, cOut v o f]) X (Mc_X7_thrown l v hM1 hW hL) f_X7_thrown q_16_9 dL_law_1021 [1] [0, 2] rfl rfl (by decide) 0 hqN rfl rfl rfl (Nat.le_of_ble_eq_true rfl) ⟨rfl, rfl, by decide +kernel, by decide +kernel, (by show _ ≤ 601024; omega), (by show _ ≤ 7293034; omega)⟩ (fun r_ w_ hp9 => ?_)
    obtain ⟨rfl, u2, hM2, rfl⟩ := hp9
    show GG k _ _ [u2, w1, cOut v o f] _ _ [.int (nI 1)]
    refine g_pick (cs' := [w1, u2, cOut v o f]) [1, 0, 2] rfl rfl ?_
    refine g_iload X dL_law_1024 1 rfl ?_
    refine g_icmp_eqN (tgt := 1031) X dL_law_1026 (by decide) (by omega) (by omega) (fun c1026 => ?_) (fun c1026 => ?_)
    · refine g_iload X dL_law_1031 1 rfl ?_
      refine g_if_neN (tgt := 1048) X dL_law_1033 (by decide) (by omega) (fun c1033 => ?_) (fun c1033 => ?_)
      · refine g_goto (tgt := 1328) X dL_law_1048 (by decide) ?_
        refine g_lv (lv' := [(4, .int (nI i)), (0, .ref b), (1, .ref cj), (2, .ref mz), (3, .ref o)]) [2, 3, 4, 5, 6] rfl ?_
        exact KN hC1 hM2 hW hL (by omega) (by omega)
      · exact absurd c1033 (by decide)
    · exact absurd c1026 (by decide)

set_option maxHeartbeats 4000000 in
set_option maxRecDepth 100000 in
theorem op_greatest {k : KX} {l : Launch} {v : VV} {cj mz o b L i ce sl : Nat} {xs : Nat → Int32} (X : CX k l v cL_law "ClaimJudgeLaw" room_1 9) (hs : SCk k b L xs) (hnc : NCk k) (hst : l.stackTraces = false) (hL9 : L ≤ 2560) {P : Nat → S9} {n : Nat} {lo hi : Nat → Nat} {H : Nat → HE9} {c : Nat} {tx : Nat → Nat} {ln : Nat} {th : Int32} {w9 u9 : va_W} {f : Nat → Int64} (hC : IC9 v cj P n lo hi H c tx ln w9) (hM : IM9 v mz P n lo hi H c tx ln th u9) (hW : WF P n) (hL : AsW lo hi) (hi9 : i + 4 < L) (hce : ce + 1 ≤ 601024) (hsl : sl + 6 ≤ 7293034) (KN : NX9 k v cj mz o b i ce sl) : GG k ce sl [w9, u9, cOut v o f] [(4, .int (nI i)), (0, .ref b), (1, .ref cj), (2, .ref mz), (3, .ref o)] 1051 [] := by
  obtain ⟨fs9, hq⟩ := IC9_hd hC
  obtain ⟨fs8, hqM⟩ := IM9_hd hM
  have hn12 := hW.1
  have hT6 := IC9_T hC
  rcases rng9 (xs (i + 1)) (n := n + 1) (by omega) with ⟨i0, h0, e0⟩ | h0
  · rcases rng9 (xs (i + 2)) (n := 3) (by omega) with ⟨i1, h1, e1⟩ | h1
    · refine g_aload_n X dL_law_1051 2 rfl rfl ?_
      refine g_aload_n X dL_law_1052 1 rfl rfl ?_
      refine g_iload X dL_law_1053 0 rfl ?_
      refine g_iconst (x := nI 1) X dL_law_1055 (by decide +kernel) ?_
      refine g_iaddN X dL_law_1056 ?_
      refine g_sld X hs dL_law_1057 (by omega) hL9 ?_
      refine g_v (y := nI i0) (e0) ?_
      refine g_aload_n X dL_law_1058 1 rfl rfl ?_
      refine g_iload X dL_law_1059 0 rfl ?_
      refine g_iconst (x := nI 2) X dL_law_1061 (by decide +kernel) ?_
      refine g_iaddN X dL_law_1062 ?_
      refine g_sld X hs dL_law_1063 (by omega) hL9 ?_
      refine g_v (y := nI i1) (e1) ?_
      refine g_aload_n X dL_law_1064 4 rfl rfl ?_
      refine g_callW (As := [.ref cj, .int (nI i0), .int (nI i1), .ref o]) (rest := []) (wr := [u9]) X hnc (w_L_greatest l v cj o (nI i0) (nI i1) w9 f (fun w => IC9 v cj P n lo hi H c tx ln w) ({ frames := 7, cells := 0, slots := 0, locals := 118 }) (zI (mxV lo hi P n i0 i1)) hq rfl rfl (by decide) (by decide) (Cc_X6_greatest l v cj hC hW hL i0 i1 h0 h1)) f_L_greatest q_32_4 dL_law_1065 [0, 2] [1] rfl rfl (by decide) rfl rfl (Nat.le_of_ble_eq_true rfl) ⟨rfl, rfl, by decide +kernel, by decide +kernel, (by show _ ≤ 601024; omega), (by show _ ≤ 7293034; omega)⟩ (fun r_ w_ hp1 => ?_)
      obtain ⟨rfl, w1, f1, hC1, hf1, rfl⟩ := hp1
      show GG k _ _ [w1, cOut v o f1, u9] _ _ [.int (nI 0)]
      refine g_pick (cs' := [w1, u9, cOut v o f1]) [0, 2, 1] rfl rfl ?_
      refine g_istore (lv' := [(5, .int (nI 0)), (4, .int (nI i)), (0, .ref b), (1, .ref cj), (2, .ref mz), (3, .ref o)]) X dL_law_1068 (by decide) rfl ?_
      refine g_aload_n X dL_law_1070 4 rfl rfl ?_
      refine g_aload_n X dL_law_1071 2 rfl rfl ?_
      refine g_iload X dL_law_1072 1 rfl ?_
      refine g_iconst (x := nI 1) X dL_law_1074 (by decide +kernel) ?_
      refine g_iaddN X dL_law_1075 ?_
      refine g_sld X hs dL_law_1076 (by omega) hL9 ?_
      refine g_v (y := nI i0) (e0) ?_
      refine g_aload_n X dL_law_1077 2 rfl rfl ?_
      refine g_iload X dL_law_1078 1 rfl ?_
      refine g_iconst (x := nI 2) X dL_law_1080 (by decide +kernel) ?_
      refine g_iaddN X dL_law_1081 ?_
      refine g_sld X hs dL_law_1082 (by omega) hL9 ?_
      refine g_v (y := nI i1) (e1) ?_
      refine g_callV (As := [.int (nI i0), .int (nI i1)]) (rest := []) (wr := [w1, cOut v o f1]) X (Mc_X7_greatest l v hM hW hL i0 i1 h0 h1) f_X7_greatest q_32_11 dL_law_1083 [1] [0, 2] rfl rfl (by decide) 0 hqM rfl rfl rfl (Nat.le_of_ble_eq_true rfl) ⟨rfl, rfl, by decide +kernel, by decide +kernel, (by show _ ≤ 601024; omega), (by show _ ≤ 7293034; omega)⟩ (fun r_ w_ hp2 => ?_)
      obtain ⟨rfl, u1, hM1, rfl⟩ := hp2
      obtain ⟨fs7, hqN⟩ := IM9_hd hM1
      show GG k _ _ [u1, w1, cOut v o f1] _ _ [.int (zI (mxV lo hi P n i0 i1))]
      refine g_pick (cs' := [w1, u1, cOut v o f1]) [1, 0, 2] rfl rfl ?_
      refine g_istore (lv' := [(6, .int (zI (mxV lo hi P n i0 i1))), (5, .int (nI 0)), (4, .int (nI i)), (0, .ref b), (1, .ref cj), (2, .ref mz), (3, .ref o)]) X dL_law_1086 (by decide) rfl ?_
      refine g_aload_n X dL_law_1088 5 rfl rfl ?_
      refine g_callV (As := []) (rest := []) (wr := [w1, cOut v o f1]) X (Mc_X7_thrown l v hM1 hW hL) f_X7_thrown q_16_9 dL_law_1089 [1] [0, 2] rfl rfl (by decide) 0 hqN rfl rfl rfl (Nat.le_of_ble_eq_true rfl) ⟨rfl, rfl, by decide +kernel, by decide +kernel, (by show _ ≤ 601024; omega), (by show _ ≤ 7293034; omega)⟩ (fun r_ w_ hp3 => ?_)
      obtain ⟨rfl, u2, hM2, rfl⟩ := hp3
      show GG k _ _ [u2, w1, cOut v o f1] _ _ [.int (nI 0)]
      refine g_pick (cs' := [w1, u2, cOut v o f1]) [1, 0, 2] rfl rfl ?_
      refine g_iload X dL_law_1092 1 rfl ?_
      refine g_icmp_eqN (tgt := 1099) X dL_law_1094 (by decide) (by omega) (by omega) (fun c1094 => ?_) (fun c1094 => ?_)
      · refine g_iload X dL_law_1099 1 rfl ?_
        refine g_if_neN (tgt := 1116) X dL_law_1101 (by decide) (by omega) (fun c1101 => ?_) (fun c1101 => ?_)
        · exact absurd rfl c1101
        · refine g_aload_n X dL_law_1104 6 rfl rfl ?_
          refine g_iconst (x := nI 0) X dL_law_1105 (by decide +kernel) ?_
          refine g_lald X dL_law_1106 2 0 rfl rfl (by omega) (by omega) ?_
          refine g_vl (y := (zI (mxV lo hi P n i0 i1)).toInt64) (hf1) ?_
          refine g_iload X dL_law_1107 0 rfl ?_
          refine g_i2l X dL_law_1109 rfl ?_
          refine g_lcmp X dL_law_1110 ?_
          refine g_v (y := nI 0) (lg_self _) ?_
          refine g_if_eqN (tgt := 1116) X dL_law_1111 (by decide) (by omega) (fun c1111 => ?_) (fun c1111 => ?_)
          · refine g_goto (tgt := 1328) X dL_law_1116 (by decide) ?_
            refine g_lv (lv' := [(4, .int (nI i)), (0, .ref b), (1, .ref cj), (2, .ref mz), (3, .ref o)]) [2, 3, 4, 5, 6] rfl ?_
            exact KN hC1 hM2 hW hL (by omega) (by omega)
          · exact absurd rfl c1111
      · exact absurd c1094 (by decide)
    · refine g_aload_n X dL_law_1051 2 rfl rfl ?_
      refine g_aload_n X dL_law_1052 1 rfl rfl ?_
      refine g_iload X dL_law_1053 0 rfl ?_
      refine g_iconst (x := nI 1) X dL_law_1055 (by decide +kernel) ?_
      refine g_iaddN X dL_law_1056 ?_
      refine g_sld X hs dL_law_1057 (by omega) hL9 ?_
      refine g_v (y := nI i0) (e0) ?_
      refine g_aload_n X dL_law_1058 1 rfl rfl ?_
      refine g_iload X dL_law_1059 0 rfl ?_
      refine g_iconst (x := nI 2) X dL_law_1061 (by decide +kernel) ?_
      refine g_iaddN X dL_law_1062 ?_
      refine g_sld X hs dL_law_1063 (by omega) hL9 ?_
      refine g_aload_n X dL_law_1064 4 rfl rfl ?_
      refine g_callW (As := [.ref cj, .int (nI i0), .int (xs (i + 2)), .ref o]) (rest := []) (wr := [u9]) X hnc (w1_L_greatest l v cj o (nI i0) (xs (i + 2)) w9 f (fun w => IC9 v cj P n lo hi H c tx ln w) ({ frames := 7, cells := 1, slots := 6, locals := 120 }) hq rfl rfl (by decide) (by decide) (Cb1_X6_greatest l v hst cj hC hW hL i0 (xs (i + 2)) h0 h1)) f_L_greatest q_32_4 dL_law_1065 [0, 2] [1] rfl rfl (by decide) rfl rfl (Nat.le_of_ble_eq_true rfl) ⟨rfl, rfl, by decide +kernel, by decide +kernel, (by show _ ≤ 601024; omega), (by show _ ≤ 7293034; omega)⟩ (fun r_ w_ hp4 => ?_)
      obtain ⟨rfl, w1, hC1, rfl⟩ := hp4
      show GG k _ _ [w1, cOut v o f, u9] _ _ [.int (nI 1)]
      refine g_pick (cs' := [w1, u9, cOut v o f]) [0, 2, 1] rfl rfl ?_
      refine g_istore (lv' := [(5, .int (nI 1)), (4, .int (nI i)), (0, .ref b), (1, .ref cj), (2, .ref mz), (3, .ref o)]) X dL_law_1068 (by decide) rfl ?_
      refine g_aload_n X dL_law_1070 4 rfl rfl ?_
      refine g_aload_n X dL_law_1071 2 rfl rfl ?_
      refine g_iload X dL_law_1072 1 rfl ?_
      refine g_iconst (x := nI 1) X dL_law_1074 (by decide +kernel) ?_
      refine g_iaddN X dL_law_1075 ?_
      refine g_sld X hs dL_law_1076 (by omega) hL9 ?_
      refine g_v (y := nI i0) (e0) ?_
      refine g_aload_n X dL_law_1077 2 rfl rfl ?_
      refine g_iload X dL_law_1078 1 rfl ?_
      refine g_iconst (x := nI 2) X dL_law_1080 (by decide +kernel) ?_
      refine g_iaddN X dL_law_1081 ?_
      refine g_sld X hs dL_law_1082 (by omega) hL9 ?_
      refine g_callV (As := [.int (nI i0), .int (xs (i + 2))]) (rest := []) (wr := [w1, cOut v o f]) X (Mb1_X7_greatest l v hM hW hL i0 (xs (i + 2)) h0 h1) f_X7_greatest q_32_11 dL_law_1083 [1] [0, 2] rfl rfl (by decide) 0 hqM rfl rfl rfl (Nat.le_of_ble_eq_true rfl) ⟨rfl, rfl, by decide +kernel, by decide +kernel, (by show _ ≤ 601024; omega), (by show _ ≤ 7293034; omega)⟩ (fun r_ w_ hp5 => ?_)
      obtain ⟨rfl, u1, hM1, rfl⟩ := hp5
      obtain ⟨fs7, hqN⟩ := IM9_hd hM1
      show GG k _ _ [u1, w1, cOut v o f] _ _ [.int (nI 0)]
      refine g_pick (cs' := [w1, u1, cOut v o f]) [1, 0, 2] rfl rfl ?_
      refine g_istore (lv' := [(6, .int (nI 0)), (5, .int (nI 1)), (4, .int (nI i)), (0, .ref b), (1, .ref cj), (2, .ref mz), (3, .ref o)]) X dL_law_1086 (by decide) rfl ?_
      refine g_aload_n X dL_law_1088 5 rfl rfl ?_
      refine g_callV (As := []) (rest := []) (wr := [w1, cOut v o f]) X (Mc_X7_thrown l v hM1 hW hL) f_X7_thrown q_16_9 dL_law_1089 [1] [0, 2] rfl rfl (by decide) 0 hqN rfl rfl rfl (Nat.le_of_ble_eq_true rfl) ⟨rfl, rfl, by decide +kernel, by decide +kernel, (by show _ ≤ 601024; omega), (by show _ ≤ 7293034; omega)⟩ (fun r_ w_ hp6 => ?_)
      obtain ⟨rfl, u2, hM2, rfl⟩ := hp6
      show GG k _ _ [u2, w1, cOut v o f] _ _ [.int (nI 1)]
      refine g_pick (cs' := [w1, u2, cOut v o f]) [1, 0, 2] rfl rfl ?_
      refine g_iload X dL_law_1092 1 rfl ?_
      refine g_icmp_eqN (tgt := 1099) X dL_law_1094 (by decide) (by omega) (by omega) (fun c1094 => ?_) (fun c1094 => ?_)
      · refine g_iload X dL_law_1099 1 rfl ?_
        refine g_if_neN (tgt := 1116) X dL_law_1101 (by decide) (by omega) (fun c1101 => ?_) (fun c1101 => ?_)
        · refine g_goto (tgt := 1328) X dL_law_1116 (by decide) ?_
          refine g_lv (lv' := [(4, .int (nI i)), (0, .ref b), (1, .ref cj), (2, .ref mz), (3, .ref o)]) [2, 3, 4, 5, 6] rfl ?_
          exact KN hC1 hM2 hW hL (by omega) (by omega)
        · exact absurd c1101 (by decide)
      · exact absurd c1094 (by decide)
  · refine g_aload_n X dL_law_1051 2 rfl rfl ?_
    refine g_aload_n X dL_law_1052 1 rfl rfl ?_
    refine g_iload X dL_law_1053 0 rfl ?_
    refine g_iconst (x := nI 1) X dL_law_1055 (by decide +kernel) ?_
    refine g_iaddN X dL_law_1056 ?_
    refine g_sld X hs dL_law_1057 (by omega) hL9 ?_
    refine g_aload_n X dL_law_1058 1 rfl rfl ?_
    refine g_iload X dL_law_1059 0 rfl ?_
    refine g_iconst (x := nI 2) X dL_law_1061 (by decide +kernel) ?_
    refine g_iaddN X dL_law_1062 ?_
    refine g_sld X hs dL_law_1063 (by omega) hL9 ?_
    refine g_aload_n X dL_law_1064 4 rfl rfl ?_
    refine g_callW (As := [.ref cj, .int (xs (i + 1)), .int (xs (i + 2)), .ref o]) (rest := []) (wr := [u9]) X hnc (w1_L_greatest l v cj o (xs (i + 1)) (xs (i + 2)) w9 f (fun w => IC9 v cj P n lo hi H c tx ln w) ({ frames := 7, cells := 1, slots := 6, locals := 120 }) hq rfl rfl (by decide) (by decide) (Cb_X6_greatest l v hst cj hC hW hL (xs (i + 1)) (xs (i + 2)) h0)) f_L_greatest q_32_4 dL_law_1065 [0, 2] [1] rfl rfl (by decide) rfl rfl (Nat.le_of_ble_eq_true rfl) ⟨rfl, rfl, by decide +kernel, by decide +kernel, (by show _ ≤ 601024; omega), (by show _ ≤ 7293034; omega)⟩ (fun r_ w_ hp7 => ?_)
    obtain ⟨rfl, w1, hC1, rfl⟩ := hp7
    show GG k _ _ [w1, cOut v o f, u9] _ _ [.int (nI 1)]
    refine g_pick (cs' := [w1, u9, cOut v o f]) [0, 2, 1] rfl rfl ?_
    refine g_istore (lv' := [(5, .int (nI 1)), (4, .int (nI i)), (0, .ref b), (1, .ref cj), (2, .ref mz), (3, .ref o)]) X dL_law_1068 (by decide) rfl ?_
    refine g_aload_n X dL_law_1070 4 rfl rfl ?_
    refine g_aload_n X dL_law_1071 2 rfl rfl ?_
    refine g_iload X dL_law_1072 1 rfl ?_
    refine g_iconst (x := nI 1) X dL_law_1074 (by decide +kernel) ?_
    refine g_iaddN X dL_law_1075 ?_
    refine g_sld X hs dL_law_1076 (by omega) hL9 ?_
    refine g_aload_n X dL_law_1077 2 rfl rfl ?_
    refine g_iload X dL_law_1078 1 rfl ?_
    refine g_iconst (x := nI 2) X dL_law_1080 (by decide +kernel) ?_
    refine g_iaddN X dL_law_1081 ?_
    refine g_sld X hs dL_law_1082 (by omega) hL9 ?_
    refine g_callV (As := [.int (xs (i + 1)), .int (xs (i + 2))]) (rest := []) (wr := [w1, cOut v o f]) X (Mb_X7_greatest l v hM hW hL (xs (i + 1)) (xs (i + 2)) h0) f_X7_greatest q_32_11 dL_law_1083 [1] [0, 2] rfl rfl (by decide) 0 hqM rfl rfl rfl (Nat.le_of_ble_eq_true rfl) ⟨rfl, rfl, by decide +kernel, by decide +kernel, (by show _ ≤ 601024; omega), (by show _ ≤ 7293034; omega)⟩ (fun r_ w_ hp8 => ?_)
    obtain ⟨rfl, u1, hM1, rfl⟩ := hp8
    obtain ⟨fs7, hqN⟩ := IM9_hd hM1
    show GG k _ _ [u1, w1, cOut v o f] _ _ [.int (nI 0)]
    refine g_pick (cs' := [w1, u1, cOut v o f]) [1, 0, 2] rfl rfl ?_
    refine g_istore (lv' := [(6, .int (nI 0)), (5, .int (nI 1)), (4, .int (nI i)), (0, .ref b), (1, .ref cj), (2, .ref mz), (3, .ref o)]) X dL_law_1086 (by decide) rfl ?_
    refine g_aload_n X dL_law_1088 5 rfl rfl ?_
    refine g_callV (As := []) (rest := []) (wr := [w1, cOut v o f]) X (Mc_X7_thrown l v hM1 hW hL) f_X7_thrown q_16_9 dL_law_1089 [1] [0, 2] rfl rfl (by decide) 0 hqN rfl rfl rfl (Nat.le_of_ble_eq_true rfl) ⟨rfl, rfl, by decide +kernel, by decide +kernel, (by show _ ≤ 601024; omega), (by show _ ≤ 7293034; omega)⟩ (fun r_ w_ hp9 => ?_)
    obtain ⟨rfl, u2, hM2, rfl⟩ := hp9
    show GG k _ _ [u2, w1, cOut v o f] _ _ [.int (nI 1)]
    refine g_pick (cs' := [w1, u2, cOut v o f]) [1, 0, 2] rfl rfl ?_
    refine g_iload X dL_law_1092 1 rfl ?_
    refine g_icmp_eqN (tgt := 1099) X dL_law_1094 (by decide) (by omega) (by omega) (fun c1094 => ?_) (fun c1094 => ?_)
    · refine g_iload X dL_law_1099 1 rfl ?_
      refine g_if_neN (tgt := 1116) X dL_law_1101 (by decide) (by omega) (fun c1101 => ?_) (fun c1101 => ?_)
      · refine g_goto (tgt := 1328) X dL_law_1116 (by decide) ?_
        refine g_lv (lv' := [(4, .int (nI i)), (0, .ref b), (1, .ref cj), (2, .ref mz), (3, .ref o)]) [2, 3, 4, 5, 6] rfl ?_
        exact KN hC1 hM2 hW hL (by omega) (by omega)
      · exact absurd c1101 (by decide)
    · exact absurd c1094 (by decide)

set_option maxHeartbeats 4000000 in
set_option maxRecDepth 100000 in
theorem op_widest {k : KX} {l : Launch} {v : VV} {cj mz o b L i ce sl : Nat} {xs : Nat → Int32} (X : CX k l v cL_law "ClaimJudgeLaw" room_1 9) (hs : SCk k b L xs) (hnc : NCk k) (hst : l.stackTraces = false) (hL9 : L ≤ 2560) {P : Nat → S9} {n : Nat} {lo hi : Nat → Nat} {H : Nat → HE9} {c : Nat} {tx : Nat → Nat} {ln : Nat} {th : Int32} {w9 u9 : va_W} {f : Nat → Int64} (hC : IC9 v cj P n lo hi H c tx ln w9) (hM : IM9 v mz P n lo hi H c tx ln th u9) (hW : WF P n) (hL : AsW lo hi) (hi9 : i + 4 < L) (hce : ce + 1 ≤ 601024) (hsl : sl + 6 ≤ 7293034) (KN : NX9 k v cj mz o b i ce sl) : GG k ce sl [w9, u9, cOut v o f] [(4, .int (nI i)), (0, .ref b), (1, .ref cj), (2, .ref mz), (3, .ref o)] 1119 [] := by
  obtain ⟨fs9, hq⟩ := IC9_hd hC
  obtain ⟨fs8, hqM⟩ := IM9_hd hM
  have hn12 := hW.1
  have hT6 := IC9_T hC
  rcases rng9 (xs (i + 1)) (n := 3) (by omega) with ⟨i0, h0, e0⟩ | h0
  · refine g_aload_n X dL_law_1119 2 rfl rfl ?_
    refine g_aload_n X dL_law_1120 1 rfl rfl ?_
    refine g_iload X dL_law_1121 0 rfl ?_
    refine g_iconst (x := nI 1) X dL_law_1123 (by decide +kernel) ?_
    refine g_iaddN X dL_law_1124 ?_
    refine g_sld X hs dL_law_1125 (by omega) hL9 ?_
    refine g_v (y := nI i0) (e0) ?_
    refine g_aload_n X dL_law_1126 4 rfl rfl ?_
    refine g_callW (As := [.ref cj, .int (nI i0), .ref o]) (rest := []) (wr := [u9]) X hnc (w_L_widest l v cj o (nI i0) w9 f (fun w => IC9 v cj P n lo hi H c tx ln w) ({ frames := 7, cells := 0, slots := 0, locals := 120 }) (zI (wdV lo hi P n i0)) hq rfl rfl (by decide) (by decide) (Cc_X6_widest l v cj hC hW hL i0 h0)) f_L_widest q_32_15 dL_law_1127 [0, 2] [1] rfl rfl (by decide) rfl rfl (Nat.le_of_ble_eq_true rfl) ⟨rfl, rfl, by decide +kernel, by decide +kernel, (by show _ ≤ 601024; omega), (by show _ ≤ 7293034; omega)⟩ (fun r_ w_ hp1 => ?_)
    obtain ⟨rfl, w1, f1, hC1, hf1, rfl⟩ := hp1
    show GG k _ _ [w1, cOut v o f1, u9] _ _ [.int (nI 0)]
    refine g_pick (cs' := [w1, u9, cOut v o f1]) [0, 2, 1] rfl rfl ?_
    refine g_istore (lv' := [(5, .int (nI 0)), (4, .int (nI i)), (0, .ref b), (1, .ref cj), (2, .ref mz), (3, .ref o)]) X dL_law_1130 (by decide) rfl ?_
    refine g_aload_n X dL_law_1132 4 rfl rfl ?_
    refine g_aload_n X dL_law_1133 2 rfl rfl ?_
    refine g_iload X dL_law_1134 1 rfl ?_
    refine g_iconst (x := nI 1) X dL_law_1136 (by decide +kernel) ?_
    refine g_iaddN X dL_law_1137 ?_
    refine g_sld X hs dL_law_1138 (by omega) hL9 ?_
    refine g_v (y := nI i0) (e0) ?_
    refine g_callV (As := [.int (nI i0)]) (rest := []) (wr := [w1, cOut v o f1]) X (Mc_X7_widest l v hM hW hL i0 h0) f_X7_widest q_33_7 dL_law_1139 [1] [0, 2] rfl rfl (by decide) 0 hqM rfl rfl rfl (Nat.le_of_ble_eq_true rfl) ⟨rfl, rfl, by decide +kernel, by decide +kernel, (by show _ ≤ 601024; omega), (by show _ ≤ 7293034; omega)⟩ (fun r_ w_ hp2 => ?_)
    obtain ⟨rfl, u1, hM1, rfl⟩ := hp2
    obtain ⟨fs7, hqN⟩ := IM9_hd hM1
    show GG k _ _ [u1, w1, cOut v o f1] _ _ [.int (zI (wdV lo hi P n i0))]
    refine g_pick (cs' := [w1, u1, cOut v o f1]) [1, 0, 2] rfl rfl ?_
    refine g_istore (lv' := [(6, .int (zI (wdV lo hi P n i0))), (5, .int (nI 0)), (4, .int (nI i)), (0, .ref b), (1, .ref cj), (2, .ref mz), (3, .ref o)]) X dL_law_1142 (by decide) rfl ?_
    refine g_aload_n X dL_law_1144 5 rfl rfl ?_
    refine g_callV (As := []) (rest := []) (wr := [w1, cOut v o f1]) X (Mc_X7_thrown l v hM1 hW hL) f_X7_thrown q_16_9 dL_law_1145 [1] [0, 2] rfl rfl (by decide) 0 hqN rfl rfl rfl (Nat.le_of_ble_eq_true rfl) ⟨rfl, rfl, by decide +kernel, by decide +kernel, (by show _ ≤ 601024; omega), (by show _ ≤ 7293034; omega)⟩ (fun r_ w_ hp3 => ?_)
    obtain ⟨rfl, u2, hM2, rfl⟩ := hp3
    show GG k _ _ [u2, w1, cOut v o f1] _ _ [.int (nI 0)]
    refine g_pick (cs' := [w1, u2, cOut v o f1]) [1, 0, 2] rfl rfl ?_
    refine g_iload X dL_law_1148 1 rfl ?_
    refine g_icmp_eqN (tgt := 1155) X dL_law_1150 (by decide) (by omega) (by omega) (fun c1150 => ?_) (fun c1150 => ?_)
    · refine g_iload X dL_law_1155 1 rfl ?_
      refine g_if_neN (tgt := 1172) X dL_law_1157 (by decide) (by omega) (fun c1157 => ?_) (fun c1157 => ?_)
      · exact absurd rfl c1157
      · refine g_aload_n X dL_law_1160 6 rfl rfl ?_
        refine g_iconst (x := nI 0) X dL_law_1161 (by decide +kernel) ?_
        refine g_lald X dL_law_1162 2 0 rfl rfl (by omega) (by omega) ?_
        refine g_vl (y := (zI (wdV lo hi P n i0)).toInt64) (hf1) ?_
        refine g_iload X dL_law_1163 0 rfl ?_
        refine g_i2l X dL_law_1165 rfl ?_
        refine g_lcmp X dL_law_1166 ?_
        refine g_v (y := nI 0) (lg_self _) ?_
        refine g_if_eqN (tgt := 1172) X dL_law_1167 (by decide) (by omega) (fun c1167 => ?_) (fun c1167 => ?_)
        · refine g_goto (tgt := 1328) X dL_law_1172 (by decide) ?_
          refine g_lv (lv' := [(4, .int (nI i)), (0, .ref b), (1, .ref cj), (2, .ref mz), (3, .ref o)]) [2, 3, 4, 5, 6] rfl ?_
          exact KN hC1 hM2 hW hL (by omega) (by omega)
        · exact absurd rfl c1167
    · exact absurd c1150 (by decide)
  · refine g_aload_n X dL_law_1119 2 rfl rfl ?_
    refine g_aload_n X dL_law_1120 1 rfl rfl ?_
    refine g_iload X dL_law_1121 0 rfl ?_
    refine g_iconst (x := nI 1) X dL_law_1123 (by decide +kernel) ?_
    refine g_iaddN X dL_law_1124 ?_
    refine g_sld X hs dL_law_1125 (by omega) hL9 ?_
    refine g_aload_n X dL_law_1126 4 rfl rfl ?_
    refine g_callW (As := [.ref cj, .int (xs (i + 1)), .ref o]) (rest := []) (wr := [u9]) X hnc (w1_L_widest l v cj o (xs (i + 1)) w9 f (fun w => IC9 v cj P n lo hi H c tx ln w) ({ frames := 7, cells := 1, slots := 6, locals := 120 }) hq rfl rfl (by decide) (by decide) (Cb_X6_widest l v hst cj hC hW hL (xs (i + 1)) h0)) f_L_widest q_32_15 dL_law_1127 [0, 2] [1] rfl rfl (by decide) rfl rfl (Nat.le_of_ble_eq_true rfl) ⟨rfl, rfl, by decide +kernel, by decide +kernel, (by show _ ≤ 601024; omega), (by show _ ≤ 7293034; omega)⟩ (fun r_ w_ hp4 => ?_)
    obtain ⟨rfl, w1, hC1, rfl⟩ := hp4
    show GG k _ _ [w1, cOut v o f, u9] _ _ [.int (nI 1)]
    refine g_pick (cs' := [w1, u9, cOut v o f]) [0, 2, 1] rfl rfl ?_
    refine g_istore (lv' := [(5, .int (nI 1)), (4, .int (nI i)), (0, .ref b), (1, .ref cj), (2, .ref mz), (3, .ref o)]) X dL_law_1130 (by decide) rfl ?_
    refine g_aload_n X dL_law_1132 4 rfl rfl ?_
    refine g_aload_n X dL_law_1133 2 rfl rfl ?_
    refine g_iload X dL_law_1134 1 rfl ?_
    refine g_iconst (x := nI 1) X dL_law_1136 (by decide +kernel) ?_
    refine g_iaddN X dL_law_1137 ?_
    refine g_sld X hs dL_law_1138 (by omega) hL9 ?_
    refine g_callV (As := [.int (xs (i + 1))]) (rest := []) (wr := [w1, cOut v o f]) X (Mb_X7_widest l v hM hW hL (xs (i + 1)) h0) f_X7_widest q_33_7 dL_law_1139 [1] [0, 2] rfl rfl (by decide) 0 hqM rfl rfl rfl (Nat.le_of_ble_eq_true rfl) ⟨rfl, rfl, by decide +kernel, by decide +kernel, (by show _ ≤ 601024; omega), (by show _ ≤ 7293034; omega)⟩ (fun r_ w_ hp5 => ?_)
    obtain ⟨rfl, u1, hM1, rfl⟩ := hp5
    obtain ⟨fs7, hqN⟩ := IM9_hd hM1
    show GG k _ _ [u1, w1, cOut v o f] _ _ [.int (nI 0)]
    refine g_pick (cs' := [w1, u1, cOut v o f]) [1, 0, 2] rfl rfl ?_
    refine g_istore (lv' := [(6, .int (nI 0)), (5, .int (nI 1)), (4, .int (nI i)), (0, .ref b), (1, .ref cj), (2, .ref mz), (3, .ref o)]) X dL_law_1142 (by decide) rfl ?_
    refine g_aload_n X dL_law_1144 5 rfl rfl ?_
    refine g_callV (As := []) (rest := []) (wr := [w1, cOut v o f]) X (Mc_X7_thrown l v hM1 hW hL) f_X7_thrown q_16_9 dL_law_1145 [1] [0, 2] rfl rfl (by decide) 0 hqN rfl rfl rfl (Nat.le_of_ble_eq_true rfl) ⟨rfl, rfl, by decide +kernel, by decide +kernel, (by show _ ≤ 601024; omega), (by show _ ≤ 7293034; omega)⟩ (fun r_ w_ hp6 => ?_)
    obtain ⟨rfl, u2, hM2, rfl⟩ := hp6
    show GG k _ _ [u2, w1, cOut v o f] _ _ [.int (nI 1)]
    refine g_pick (cs' := [w1, u2, cOut v o f]) [1, 0, 2] rfl rfl ?_
    refine g_iload X dL_law_1148 1 rfl ?_
    refine g_icmp_eqN (tgt := 1155) X dL_law_1150 (by decide) (by omega) (by omega) (fun c1150 => ?_) (fun c1150 => ?_)
    · refine g_iload X dL_law_1155 1 rfl ?_
      refine g_if_neN (tgt := 1172) X dL_law_1157 (by decide) (by omega) (fun c1157 => ?_) (fun c1157 => ?_)
      · refine g_goto (tgt := 1328) X dL_law_1172 (by decide) ?_
        refine g_lv (lv' := [(4, .int (nI i)), (0, .ref b), (1, .ref cj), (2, .ref mz), (3, .ref o)]) [2, 3, 4, 5, 6] rfl ?_
        exact KN hC1 hM2 hW hL (by omega) (by omega)
      · exact absurd c1157 (by decide)
    · exact absurd c1150 (by decide)

set_option maxHeartbeats 4000000 in
set_option maxRecDepth 100000 in
theorem op_append {k : KX} {l : Launch} {v : VV} {cj mz o b L i ce sl : Nat} {xs : Nat → Int32} (X : CX k l v cL_law "ClaimJudgeLaw" room_1 9) (hs : SCk k b L xs) (hnc : NCk k) (hst : l.stackTraces = false) (hL9 : L ≤ 2560) {P : Nat → S9} {n : Nat} {lo hi : Nat → Nat} {H : Nat → HE9} {c : Nat} {tx : Nat → Nat} {ln : Nat} {th : Int32} {w9 u9 : va_W} {f : Nat → Int64} (hC : IC9 v cj P n lo hi H c tx ln w9) (hM : IM9 v mz P n lo hi H c tx ln th u9) (hW : WF P n) (hL : AsW lo hi) (hi9 : i + 4 < L) (hce : ce + 1 ≤ 601024) (hsl : sl + 6 ≤ 7293034) (KN : NX9 k v cj mz o b i ce sl) : GG k ce sl [w9, u9, cOut v o f] [(4, .int (nI i)), (0, .ref b), (1, .ref cj), (2, .ref mz), (3, .ref o)] 1175 [] := by
  obtain ⟨fs9, hq⟩ := IC9_hd hC
  obtain ⟨fs8, hqM⟩ := IM9_hd hM
  have hn12 := hW.1
  have hT6 := IC9_T hC
  rcases rng128 (xs (i + 1)) with ⟨i0, h0, h0b, e0⟩ | h0
  · by_cases hok : ln < 60
    · refine g_aload_n X dL_law_1175 2 rfl rfl ?_
      refine g_aload_n X dL_law_1176 1 rfl rfl ?_
      refine g_iload X dL_law_1177 0 rfl ?_
      refine g_iconst (x := nI 1) X dL_law_1179 (by decide +kernel) ?_
      refine g_iaddN X dL_law_1180 ?_
      refine g_sld X hs dL_law_1181 (by omega) hL9 ?_
      refine g_v (y := nI i0) (e0) ?_
      refine g_aload_n X dL_law_1182 4 rfl rfl ?_
      refine g_callW (As := [.ref cj, .int (nI i0), .ref o]) (rest := []) (wr := [u9]) X hnc (w_L_append l v cj o (nI i0) w9 f (fun w => IC9 v cj P n lo hi H c (hU9 tx ln i0) (ln + 1) w) ({ frames := 1, cells := 0, slots := 0, locals := 21 }) (nI (ln + 1)) hq rfl rfl (by decide) (by decide) (Cc_X6_append l v cj hC hW hL i0 hok h0 h0b)) f_L_append q_33_15 dL_law_1183 [0, 2] [1] rfl rfl (by decide) rfl rfl (Nat.le_of_ble_eq_true rfl) ⟨rfl, rfl, by decide +kernel, by decide +kernel, (by show _ ≤ 601024; omega), (by show _ ≤ 7293034; omega)⟩ (fun r_ w_ hp1 => ?_)
      obtain ⟨rfl, w1, f1, hC1, hf1, rfl⟩ := hp1
      show GG k _ _ [w1, cOut v o f1, u9] _ _ [.int (nI 0)]
      refine g_pick (cs' := [w1, u9, cOut v o f1]) [0, 2, 1] rfl rfl ?_
      refine g_istore (lv' := [(5, .int (nI 0)), (4, .int (nI i)), (0, .ref b), (1, .ref cj), (2, .ref mz), (3, .ref o)]) X dL_law_1186 (by decide) rfl ?_
      refine g_aload_n X dL_law_1188 4 rfl rfl ?_
      refine g_aload_n X dL_law_1189 2 rfl rfl ?_
      refine g_iload X dL_law_1190 1 rfl ?_
      refine g_iconst (x := nI 1) X dL_law_1192 (by decide +kernel) ?_
      refine g_iaddN X dL_law_1193 ?_
      refine g_sld X hs dL_law_1194 (by omega) hL9 ?_
      refine g_v (y := nI i0) (e0) ?_
      refine g_callV (As := [.int (nI i0)]) (rest := []) (wr := [w1, cOut v o f1]) X (Mc_X7_append l v hM hW hL i0 hok h0 h0b) f_X7_append q_34_2 dL_law_1195 [1] [0, 2] rfl rfl (by decide) 0 hqM rfl rfl rfl (Nat.le_of_ble_eq_true rfl) ⟨rfl, rfl, by decide +kernel, by decide +kernel, (by show _ ≤ 601024; omega), (by show _ ≤ 7293034; omega)⟩ (fun r_ w_ hp2 => ?_)
      obtain ⟨rfl, u1, hM1, rfl⟩ := hp2
      obtain ⟨fs7, hqN⟩ := IM9_hd hM1
      show GG k _ _ [u1, w1, cOut v o f1] _ _ [.int (nI (ln + 1))]
      refine g_pick (cs' := [w1, u1, cOut v o f1]) [1, 0, 2] rfl rfl ?_
      refine g_istore (lv' := [(6, .int (nI (ln + 1))), (5, .int (nI 0)), (4, .int (nI i)), (0, .ref b), (1, .ref cj), (2, .ref mz), (3, .ref o)]) X dL_law_1198 (by decide) rfl ?_
      refine g_aload_n X dL_law_1200 5 rfl rfl ?_
      refine g_callV (As := []) (rest := []) (wr := [w1, cOut v o f1]) X (Mc_X7_thrown l v hM1 hW hL) f_X7_thrown q_16_9 dL_law_1201 [1] [0, 2] rfl rfl (by decide) 0 hqN rfl rfl rfl (Nat.le_of_ble_eq_true rfl) ⟨rfl, rfl, by decide +kernel, by decide +kernel, (by show _ ≤ 601024; omega), (by show _ ≤ 7293034; omega)⟩ (fun r_ w_ hp3 => ?_)
      obtain ⟨rfl, u2, hM2, rfl⟩ := hp3
      show GG k _ _ [u2, w1, cOut v o f1] _ _ [.int (nI 0)]
      refine g_pick (cs' := [w1, u2, cOut v o f1]) [1, 0, 2] rfl rfl ?_
      refine g_iload X dL_law_1204 1 rfl ?_
      refine g_icmp_eqN (tgt := 1211) X dL_law_1206 (by decide) (by omega) (by omega) (fun c1206 => ?_) (fun c1206 => ?_)
      · refine g_iload X dL_law_1211 1 rfl ?_
        refine g_if_neN (tgt := 1228) X dL_law_1213 (by decide) (by omega) (fun c1213 => ?_) (fun c1213 => ?_)
        · exact absurd rfl c1213
        · refine g_aload_n X dL_law_1216 6 rfl rfl ?_
          refine g_iconst (x := nI 0) X dL_law_1217 (by decide +kernel) ?_
          refine g_lald X dL_law_1218 2 0 rfl rfl (by omega) (by omega) ?_
          refine g_vl (y := (nI (ln + 1)).toInt64) (hf1) ?_
          refine g_iload X dL_law_1219 0 rfl ?_
          refine g_i2l X dL_law_1221 rfl ?_
          refine g_lcmp X dL_law_1222 ?_
          refine g_v (y := nI 0) (lg_self _) ?_
          refine g_if_eqN (tgt := 1228) X dL_law_1223 (by decide) (by omega) (fun c1223 => ?_) (fun c1223 => ?_)
          · refine g_goto (tgt := 1328) X dL_law_1228 (by decide) ?_
            refine g_lv (lv' := [(4, .int (nI i)), (0, .ref b), (1, .ref cj), (2, .ref mz), (3, .ref o)]) [2, 3, 4, 5, 6] rfl ?_
            exact KN hC1 hM2 hW hL (by omega) (by omega)
          · exact absurd rfl c1223
      · exact absurd c1206 (by decide)
    · refine g_aload_n X dL_law_1175 2 rfl rfl ?_
      refine g_aload_n X dL_law_1176 1 rfl rfl ?_
      refine g_iload X dL_law_1177 0 rfl ?_
      refine g_iconst (x := nI 1) X dL_law_1179 (by decide +kernel) ?_
      refine g_iaddN X dL_law_1180 ?_
      refine g_sld X hs dL_law_1181 (by omega) hL9 ?_
      refine g_v (y := nI i0) (e0) ?_
      refine g_aload_n X dL_law_1182 4 rfl rfl ?_
      refine g_callW (As := [.ref cj, .int (nI i0), .ref o]) (rest := []) (wr := [u9]) X hnc (w2_L_append l v cj o (nI i0) w9 f (fun w => IC9 v cj P n lo hi H c tx ln w) ({ frames := 7, cells := 1, slots := 6, locals := 120 }) hq rfl rfl (by decide) (by decide) (Cb1_X6_append l v hst cj hC hW hL i0 (by omega) h0 h0b)) f_L_append q_33_15 dL_law_1183 [0, 2] [1] rfl rfl (by decide) rfl rfl (Nat.le_of_ble_eq_true rfl) ⟨rfl, rfl, by decide +kernel, by decide +kernel, (by show _ ≤ 601024; omega), (by show _ ≤ 7293034; omega)⟩ (fun r_ w_ hp4 => ?_)
      obtain ⟨rfl, w1, hC1, rfl⟩ := hp4
      show GG k _ _ [w1, cOut v o f, u9] _ _ [.int (nI 2)]
      refine g_pick (cs' := [w1, u9, cOut v o f]) [0, 2, 1] rfl rfl ?_
      refine g_istore (lv' := [(5, .int (nI 2)), (4, .int (nI i)), (0, .ref b), (1, .ref cj), (2, .ref mz), (3, .ref o)]) X dL_law_1186 (by decide) rfl ?_
      refine g_aload_n X dL_law_1188 4 rfl rfl ?_
      refine g_aload_n X dL_law_1189 2 rfl rfl ?_
      refine g_iload X dL_law_1190 1 rfl ?_
      refine g_iconst (x := nI 1) X dL_law_1192 (by decide +kernel) ?_
      refine g_iaddN X dL_law_1193 ?_
      refine g_sld X hs dL_law_1194 (by omega) hL9 ?_
      refine g_v (y := nI i0) (e0) ?_
      refine g_callV (As := [.int (nI i0)]) (rest := []) (wr := [w1, cOut v o f]) X (Mb1_X7_append l v hM hW hL i0 (by omega) h0 h0b) f_X7_append q_34_2 dL_law_1195 [1] [0, 2] rfl rfl (by decide) 0 hqM rfl rfl rfl (Nat.le_of_ble_eq_true rfl) ⟨rfl, rfl, by decide +kernel, by decide +kernel, (by show _ ≤ 601024; omega), (by show _ ≤ 7293034; omega)⟩ (fun r_ w_ hp5 => ?_)
      obtain ⟨rfl, u1, hM1, rfl⟩ := hp5
      obtain ⟨fs7, hqN⟩ := IM9_hd hM1
      show GG k _ _ [u1, w1, cOut v o f] _ _ [.int (nI 0)]
      refine g_pick (cs' := [w1, u1, cOut v o f]) [1, 0, 2] rfl rfl ?_
      refine g_istore (lv' := [(6, .int (nI 0)), (5, .int (nI 2)), (4, .int (nI i)), (0, .ref b), (1, .ref cj), (2, .ref mz), (3, .ref o)]) X dL_law_1198 (by decide) rfl ?_
      refine g_aload_n X dL_law_1200 5 rfl rfl ?_
      refine g_callV (As := []) (rest := []) (wr := [w1, cOut v o f]) X (Mc_X7_thrown l v hM1 hW hL) f_X7_thrown q_16_9 dL_law_1201 [1] [0, 2] rfl rfl (by decide) 0 hqN rfl rfl rfl (Nat.le_of_ble_eq_true rfl) ⟨rfl, rfl, by decide +kernel, by decide +kernel, (by show _ ≤ 601024; omega), (by show _ ≤ 7293034; omega)⟩ (fun r_ w_ hp6 => ?_)
      obtain ⟨rfl, u2, hM2, rfl⟩ := hp6
      show GG k _ _ [u2, w1, cOut v o f] _ _ [.int (nI 2)]
      refine g_pick (cs' := [w1, u2, cOut v o f]) [1, 0, 2] rfl rfl ?_
      refine g_iload X dL_law_1204 1 rfl ?_
      refine g_icmp_eqN (tgt := 1211) X dL_law_1206 (by decide) (by omega) (by omega) (fun c1206 => ?_) (fun c1206 => ?_)
      · refine g_iload X dL_law_1211 1 rfl ?_
        refine g_if_neN (tgt := 1228) X dL_law_1213 (by decide) (by omega) (fun c1213 => ?_) (fun c1213 => ?_)
        · refine g_goto (tgt := 1328) X dL_law_1228 (by decide) ?_
          refine g_lv (lv' := [(4, .int (nI i)), (0, .ref b), (1, .ref cj), (2, .ref mz), (3, .ref o)]) [2, 3, 4, 5, 6] rfl ?_
          exact KN hC1 hM2 hW hL (by omega) (by omega)
        · exact absurd c1213 (by decide)
      · exact absurd c1206 (by decide)
  · refine g_aload_n X dL_law_1175 2 rfl rfl ?_
    refine g_aload_n X dL_law_1176 1 rfl rfl ?_
    refine g_iload X dL_law_1177 0 rfl ?_
    refine g_iconst (x := nI 1) X dL_law_1179 (by decide +kernel) ?_
    refine g_iaddN X dL_law_1180 ?_
    refine g_sld X hs dL_law_1181 (by omega) hL9 ?_
    refine g_aload_n X dL_law_1182 4 rfl rfl ?_
    refine g_callW (As := [.ref cj, .int (xs (i + 1)), .ref o]) (rest := []) (wr := [u9]) X hnc (w1_L_append l v cj o (xs (i + 1)) w9 f (fun w => IC9 v cj P n lo hi H c tx ln w) ({ frames := 7, cells := 1, slots := 6, locals := 120 }) hq rfl rfl (by decide) (by decide) (Cb_X6_append l v hst cj hC hW hL (xs (i + 1)) h0)) f_L_append q_33_15 dL_law_1183 [0, 2] [1] rfl rfl (by decide) rfl rfl (Nat.le_of_ble_eq_true rfl) ⟨rfl, rfl, by decide +kernel, by decide +kernel, (by show _ ≤ 601024; omega), (by show _ ≤ 7293034; omega)⟩ (fun r_ w_ hp7 => ?_)
    obtain ⟨rfl, w1, hC1, rfl⟩ := hp7
    show GG k _ _ [w1, cOut v o f, u9] _ _ [.int (nI 1)]
    refine g_pick (cs' := [w1, u9, cOut v o f]) [0, 2, 1] rfl rfl ?_
    refine g_istore (lv' := [(5, .int (nI 1)), (4, .int (nI i)), (0, .ref b), (1, .ref cj), (2, .ref mz), (3, .ref o)]) X dL_law_1186 (by decide) rfl ?_
    refine g_aload_n X dL_law_1188 4 rfl rfl ?_
    refine g_aload_n X dL_law_1189 2 rfl rfl ?_
    refine g_iload X dL_law_1190 1 rfl ?_
    refine g_iconst (x := nI 1) X dL_law_1192 (by decide +kernel) ?_
    refine g_iaddN X dL_law_1193 ?_
    refine g_sld X hs dL_law_1194 (by omega) hL9 ?_
    refine g_callV (As := [.int (xs (i + 1))]) (rest := []) (wr := [w1, cOut v o f]) X (Mb_X7_append l v hM hW hL (xs (i + 1)) h0) f_X7_append q_34_2 dL_law_1195 [1] [0, 2] rfl rfl (by decide) 0 hqM rfl rfl rfl (Nat.le_of_ble_eq_true rfl) ⟨rfl, rfl, by decide +kernel, by decide +kernel, (by show _ ≤ 601024; omega), (by show _ ≤ 7293034; omega)⟩ (fun r_ w_ hp8 => ?_)
    obtain ⟨rfl, u1, hM1, rfl⟩ := hp8
    obtain ⟨fs7, hqN⟩ := IM9_hd hM1
    show GG k _ _ [u1, w1, cOut v o f] _ _ [.int (nI 0)]
    refine g_pick (cs' := [w1, u1, cOut v o f]) [1, 0, 2] rfl rfl ?_
    refine g_istore (lv' := [(6, .int (nI 0)), (5, .int (nI 1)), (4, .int (nI i)), (0, .ref b), (1, .ref cj), (2, .ref mz), (3, .ref o)]) X dL_law_1198 (by decide) rfl ?_
    refine g_aload_n X dL_law_1200 5 rfl rfl ?_
    refine g_callV (As := []) (rest := []) (wr := [w1, cOut v o f]) X (Mc_X7_thrown l v hM1 hW hL) f_X7_thrown q_16_9 dL_law_1201 [1] [0, 2] rfl rfl (by decide) 0 hqN rfl rfl rfl (Nat.le_of_ble_eq_true rfl) ⟨rfl, rfl, by decide +kernel, by decide +kernel, (by show _ ≤ 601024; omega), (by show _ ≤ 7293034; omega)⟩ (fun r_ w_ hp9 => ?_)
    obtain ⟨rfl, u2, hM2, rfl⟩ := hp9
    show GG k _ _ [u2, w1, cOut v o f] _ _ [.int (nI 1)]
    refine g_pick (cs' := [w1, u2, cOut v o f]) [1, 0, 2] rfl rfl ?_
    refine g_iload X dL_law_1204 1 rfl ?_
    refine g_icmp_eqN (tgt := 1211) X dL_law_1206 (by decide) (by omega) (by omega) (fun c1206 => ?_) (fun c1206 => ?_)
    · refine g_iload X dL_law_1211 1 rfl ?_
      refine g_if_neN (tgt := 1228) X dL_law_1213 (by decide) (by omega) (fun c1213 => ?_) (fun c1213 => ?_)
      · refine g_goto (tgt := 1328) X dL_law_1228 (by decide) ?_
        refine g_lv (lv' := [(4, .int (nI i)), (0, .ref b), (1, .ref cj), (2, .ref mz), (3, .ref o)]) [2, 3, 4, 5, 6] rfl ?_
        exact KN hC1 hM2 hW hL (by omega) (by omega)
      · exact absurd c1213 (by decide)
    · exact absurd c1206 (by decide)

set_option maxHeartbeats 4000000 in
set_option maxRecDepth 100000 in
theorem op_clearBuffer {k : KX} {l : Launch} {v : VV} {cj mz o b L i ce sl : Nat} {xs : Nat → Int32} (X : CX k l v cL_law "ClaimJudgeLaw" room_1 9) (hs : SCk k b L xs) (hnc : NCk k) (hst : l.stackTraces = false) (hL9 : L ≤ 2560) {P : Nat → S9} {n : Nat} {lo hi : Nat → Nat} {H : Nat → HE9} {c : Nat} {tx : Nat → Nat} {ln : Nat} {th : Int32} {w9 u9 : va_W} {f : Nat → Int64} (hC : IC9 v cj P n lo hi H c tx ln w9) (hM : IM9 v mz P n lo hi H c tx ln th u9) (hW : WF P n) (hL : AsW lo hi) (hi9 : i + 4 < L) (hce : ce + 1 ≤ 601024) (hsl : sl + 6 ≤ 7293034) (KN : NX9 k v cj mz o b i ce sl) : GG k ce sl [w9, u9, cOut v o f] [(4, .int (nI i)), (0, .ref b), (1, .ref cj), (2, .ref mz), (3, .ref o)] 1231 [] := by
  obtain ⟨fs9, hq⟩ := IC9_hd hC
  obtain ⟨fs8, hqM⟩ := IM9_hd hM
  have hn12 := hW.1
  have hT6 := IC9_T hC
  refine g_aload_n X dL_law_1231 2 rfl rfl ?_
  refine g_callV (As := []) (rest := []) (wr := [u9, cOut v o f]) X (Cc_X6_clearBuffer l v cj hC hW hL) f_X6_clearBuffer q_34_6 dL_law_1232 [0] [1, 2] rfl rfl (by decide) 0 hq rfl rfl rfl (Nat.le_of_ble_eq_true rfl) ⟨rfl, rfl, by decide +kernel, by decide +kernel, (by show _ ≤ 601024; omega), (by show _ ≤ 7293034; omega)⟩ (fun r_ w_ hp1 => ?_)
  obtain ⟨rfl, w1, hC1, rfl⟩ := hp1
  show GG k _ _ [w1, u9, cOut v o f] _ _ [.int (nI ln)]
  refine g_aload_n X dL_law_1235 3 rfl rfl ?_
  refine g_callV (As := []) (rest := [.int (nI ln)]) (wr := [w1, cOut v o f]) X (Mc_X7_clearBuffer l v hM hW hL  ) f_X7_clearBuffer q_34_10 dL_law_1236 [1] [0, 2] rfl rfl (by decide) 0 hqM rfl rfl rfl (Nat.le_of_ble_eq_true rfl) ⟨rfl, rfl, by decide +kernel, by decide +kernel, (by show _ ≤ 601024; omega), (by show _ ≤ 7293034; omega)⟩ (fun r_ w_ hp2 => ?_)
  obtain ⟨rfl, u1, hM1, rfl⟩ := hp2
  obtain ⟨fs7, hqN⟩ := IM9_hd hM1
  show GG k _ _ [u1, w1, cOut v o f] _ _ [.int (nI ln), .int (nI ln)]
  refine g_pick (cs' := [w1, u1, cOut v o f]) [1, 0, 2] rfl rfl ?_
  refine g_icmp_eq (tgt := 1328) X dL_law_1239 (by decide) (fun c1239 => ?_) (fun c1239 => ?_)
  · exact KN hC1 hM1 hW hL (by omega) (by omega)
  · exact absurd rfl c1239

set_option maxHeartbeats 4000000 in
set_option maxRecDepth 100000 in
theorem op_firstError {k : KX} {l : Launch} {v : VV} {cj mz o b L i ce sl : Nat} {xs : Nat → Int32} (X : CX k l v cL_law "ClaimJudgeLaw" room_1 9) (hs : SCk k b L xs) (hnc : NCk k) (hst : l.stackTraces = false) (hL9 : L ≤ 2560) {P : Nat → S9} {n : Nat} {lo hi : Nat → Nat} {H : Nat → HE9} {c : Nat} {tx : Nat → Nat} {ln : Nat} {th : Int32} {w9 u9 : va_W} {f : Nat → Int64} (hC : IC9 v cj P n lo hi H c tx ln w9) (hM : IM9 v mz P n lo hi H c tx ln th u9) (hW : WF P n) (hL : AsW lo hi) (hi9 : i + 4 < L) (hce : ce + 1 ≤ 601024) (hsl : sl + 6 ≤ 7293034) (KN : NX9 k v cj mz o b i ce sl) : GG k ce sl [w9, u9, cOut v o f] [(4, .int (nI i)), (0, .ref b), (1, .ref cj), (2, .ref mz), (3, .ref o)] 1244 [] := by
  obtain ⟨fs9, hq⟩ := IC9_hd hC
  obtain ⟨fs8, hqM⟩ := IM9_hd hM
  have hn12 := hW.1
  have hT6 := IC9_T hC
  refine g_aload_n X dL_law_1244 2 rfl rfl ?_
  refine g_callV (As := []) (rest := []) (wr := [u9, cOut v o f]) X (Cc_X6_firstError l v cj hC hW hL) f_X6_firstError q_34_14 dL_law_1245 [0] [1, 2] rfl rfl (by decide) 0 hq rfl rfl rfl (Nat.le_of_ble_eq_true rfl) ⟨rfl, rfl, by decide +kernel, by decide +kernel, (by show _ ≤ 601024; omega), (by show _ ≤ 7293034; omega)⟩ (fun r_ w_ hp1 => ?_)
  obtain ⟨rfl, w1, hC1, rfl⟩ := hp1
  show GG k _ _ [w1, u9, cOut v o f] _ _ [.int (nI (pAll tx ln 12 0 []).2.1)]
  refine g_aload_n X dL_law_1248 3 rfl rfl ?_
  refine g_callV (As := []) (rest := [.int (nI (pAll tx ln 12 0 []).2.1)]) (wr := [w1, cOut v o f]) X (Mc_X7_firstError l v hM hW hL  ) f_X7_firstError q_34_18 dL_law_1249 [1] [0, 2] rfl rfl (by decide) 0 hqM rfl rfl rfl (Nat.le_of_ble_eq_true rfl) ⟨rfl, rfl, by decide +kernel, by decide +kernel, (by show _ ≤ 601024; omega), (by show _ ≤ 7293034; omega)⟩ (fun r_ w_ hp2 => ?_)
  obtain ⟨rfl, u1, hM1, rfl⟩ := hp2
  obtain ⟨fs7, hqN⟩ := IM9_hd hM1
  show GG k _ _ [u1, w1, cOut v o f] _ _ [.int (nI (pAll tx ln 12 0 []).2.1), .int (nI (pAll tx ln 12 0 []).2.1)]
  refine g_pick (cs' := [w1, u1, cOut v o f]) [1, 0, 2] rfl rfl ?_
  refine g_icmp_eq (tgt := 1328) X dL_law_1252 (by decide) (fun c1252 => ?_) (fun c1252 => ?_)
  · exact KN hC1 hM1 hW hL (by omega) (by omega)
  · exact absurd rfl c1252

set_option maxHeartbeats 4000000 in
set_option maxRecDepth 100000 in
theorem op_undo {k : KX} {l : Launch} {v : VV} {cj mz o b L i ce sl : Nat} {xs : Nat → Int32} (X : CX k l v cL_law "ClaimJudgeLaw" room_1 9) (hs : SCk k b L xs) (hnc : NCk k) (hst : l.stackTraces = false) (hL9 : L ≤ 2560) {P : Nat → S9} {n : Nat} {lo hi : Nat → Nat} {H : Nat → HE9} {c : Nat} {tx : Nat → Nat} {ln : Nat} {th : Int32} {w9 u9 : va_W} {f : Nat → Int64} (hC : IC9 v cj P n lo hi H c tx ln w9) (hM : IM9 v mz P n lo hi H c tx ln th u9) (hW : WF P n) (hL : AsW lo hi) (hi9 : i + 4 < L) (hce : ce + 1 ≤ 601024) (hsl : sl + 6 ≤ 7293034) (KN : NX9 k v cj mz o b i ce sl) : GG k ce sl [w9, u9, cOut v o f] [(4, .int (nI i)), (0, .ref b), (1, .ref cj), (2, .ref mz), (3, .ref o)] 1257 [] := by
  obtain ⟨fs9, hq⟩ := IC9_hd hC
  obtain ⟨fs8, hqM⟩ := IM9_hd hM
  have hn12 := hW.1
  have hT6 := IC9_T hC
  by_cases hok : 0 < c
  · refine g_aload_n X dL_law_1257 2 rfl rfl ?_
    refine g_aload_n X dL_law_1258 4 rfl rfl ?_
    refine g_callW (As := [.ref cj, .ref o]) (rest := []) (wr := [u9]) X hnc (w_L_undo l v cj o  w9 f (fun w => IC9 v cj ((H (c - 1)).1) ((H (c - 1)).2.1) ((H (c - 1)).2.2.1) ((H (c - 1)).2.2.2) H (c - 1) tx ln w) ({ frames := 4, cells := 0, slots := 0, locals := 92 }) (nI (c - 1)) hq rfl rfl (by decide) (by decide) (Cc_X6_undo l v cj hC hW hL  hok)) f_L_undo q_34_22 dL_law_1259 [0, 2] [1] rfl rfl (by decide) rfl rfl (Nat.le_of_ble_eq_true rfl) ⟨rfl, rfl, by decide +kernel, by decide +kernel, (by show _ ≤ 601024; omega), (by show _ ≤ 7293034; omega)⟩ (fun r_ w_ hp1 => ?_)
    obtain ⟨rfl, w1, f1, hC1, hf1, rfl⟩ := hp1
    show GG k _ _ [w1, cOut v o f1, u9] _ _ [.int (nI 0)]
    refine g_pick (cs' := [w1, u9, cOut v o f1]) [0, 2, 1] rfl rfl ?_
    refine g_istore (lv' := [(5, .int (nI 0)), (4, .int (nI i)), (0, .ref b), (1, .ref cj), (2, .ref mz), (3, .ref o)]) X dL_law_1262 (by decide) rfl ?_
    refine g_aload_n X dL_law_1264 4 rfl rfl ?_
    refine g_callV (As := []) (rest := []) (wr := [w1, cOut v o f1]) X (Mc_X7_undo l v hM hW hL  hok) f_X7_undo q_35_9 dL_law_1265 [1] [0, 2] rfl rfl (by decide) 0 hqM rfl rfl rfl (Nat.le_of_ble_eq_true rfl) ⟨rfl, rfl, by decide +kernel, by decide +kernel, (by show _ ≤ 601024; omega), (by show _ ≤ 7293034; omega)⟩ (fun r_ w_ hp2 => ?_)
    obtain ⟨rfl, u1, hM1, rfl⟩ := hp2
    obtain ⟨fs7, hqN⟩ := IM9_hd hM1
    show GG k _ _ [u1, w1, cOut v o f1] _ _ [.int (nI (c - 1))]
    refine g_pick (cs' := [w1, u1, cOut v o f1]) [1, 0, 2] rfl rfl ?_
    refine g_istore (lv' := [(6, .int (nI (c - 1))), (5, .int (nI 0)), (4, .int (nI i)), (0, .ref b), (1, .ref cj), (2, .ref mz), (3, .ref o)]) X dL_law_1268 (by decide) rfl ?_
    refine g_aload_n X dL_law_1270 5 rfl rfl ?_
    refine g_callV (As := []) (rest := []) (wr := [w1, cOut v o f1]) X (Mc_X7_thrown l v hM1 ((IC9_W hC hok).1) ((IC9_W hC hok).2)) f_X7_thrown q_16_9 dL_law_1271 [1] [0, 2] rfl rfl (by decide) 0 hqN rfl rfl rfl (Nat.le_of_ble_eq_true rfl) ⟨rfl, rfl, by decide +kernel, by decide +kernel, (by show _ ≤ 601024; omega), (by show _ ≤ 7293034; omega)⟩ (fun r_ w_ hp3 => ?_)
    obtain ⟨rfl, u2, hM2, rfl⟩ := hp3
    show GG k _ _ [u2, w1, cOut v o f1] _ _ [.int (nI 0)]
    refine g_pick (cs' := [w1, u2, cOut v o f1]) [1, 0, 2] rfl rfl ?_
    refine g_iload X dL_law_1274 1 rfl ?_
    refine g_icmp_eqN (tgt := 1281) X dL_law_1276 (by decide) (by omega) (by omega) (fun c1276 => ?_) (fun c1276 => ?_)
    · refine g_iload X dL_law_1281 1 rfl ?_
      refine g_if_neN (tgt := 1298) X dL_law_1283 (by decide) (by omega) (fun c1283 => ?_) (fun c1283 => ?_)
      · exact absurd rfl c1283
      · refine g_aload_n X dL_law_1286 6 rfl rfl ?_
        refine g_iconst (x := nI 0) X dL_law_1287 (by decide +kernel) ?_
        refine g_lald X dL_law_1288 2 0 rfl rfl (by omega) (by omega) ?_
        refine g_vl (y := (nI (c - 1)).toInt64) (hf1) ?_
        refine g_iload X dL_law_1289 0 rfl ?_
        refine g_i2l X dL_law_1291 rfl ?_
        refine g_lcmp X dL_law_1292 ?_
        refine g_v (y := nI 0) (lg_self _) ?_
        refine g_if_eqN (tgt := 1298) X dL_law_1293 (by decide) (by omega) (fun c1293 => ?_) (fun c1293 => ?_)
        · refine g_goto (tgt := 1328) X dL_law_1298 (by decide) ?_
          refine g_lv (lv' := [(4, .int (nI i)), (0, .ref b), (1, .ref cj), (2, .ref mz), (3, .ref o)]) [2, 3, 4, 5, 6] rfl ?_
          exact KN hC1 hM2 ((IC9_W hC hok).1) ((IC9_W hC hok).2) (by omega) (by omega)
        · exact absurd rfl c1293
    · exact absurd c1276 (by decide)
  · obtain rfl : c = 0 := by omega
    refine g_aload_n X dL_law_1257 2 rfl rfl ?_
    refine g_aload_n X dL_law_1258 4 rfl rfl ?_
    refine g_callW (As := [.ref cj, .ref o]) (rest := []) (wr := [u9]) X hnc (w1_L_undo l v cj o  w9 f (fun w => IC9 v cj P n lo hi H 0 tx ln w) ({ frames := 7, cells := 1, slots := 6, locals := 120 }) hq rfl rfl (by decide) (by decide) (Cb_X6_undo l v hst cj hC hW hL  )) f_L_undo q_34_22 dL_law_1259 [0, 2] [1] rfl rfl (by decide) rfl rfl (Nat.le_of_ble_eq_true rfl) ⟨rfl, rfl, by decide +kernel, by decide +kernel, (by show _ ≤ 601024; omega), (by show _ ≤ 7293034; omega)⟩ (fun r_ w_ hp4 => ?_)
    obtain ⟨rfl, w1, hC1, rfl⟩ := hp4
    show GG k _ _ [w1, cOut v o f, u9] _ _ [.int (nI 1)]
    refine g_pick (cs' := [w1, u9, cOut v o f]) [0, 2, 1] rfl rfl ?_
    refine g_istore (lv' := [(5, .int (nI 1)), (4, .int (nI i)), (0, .ref b), (1, .ref cj), (2, .ref mz), (3, .ref o)]) X dL_law_1262 (by decide) rfl ?_
    refine g_aload_n X dL_law_1264 4 rfl rfl ?_
    refine g_callV (As := []) (rest := []) (wr := [w1, cOut v o f]) X (Mb_X7_undo l v hM hW hL  ) f_X7_undo q_35_9 dL_law_1265 [1] [0, 2] rfl rfl (by decide) 0 hqM rfl rfl rfl (Nat.le_of_ble_eq_true rfl) ⟨rfl, rfl, by decide +kernel, by decide +kernel, (by show _ ≤ 601024; omega), (by show _ ≤ 7293034; omega)⟩ (fun r_ w_ hp5 => ?_)
    obtain ⟨rfl, u1, hM1, rfl⟩ := hp5
    obtain ⟨fs7, hqN⟩ := IM9_hd hM1
    show GG k _ _ [u1, w1, cOut v o f] _ _ [.int (nI 0)]
    refine g_pick (cs' := [w1, u1, cOut v o f]) [1, 0, 2] rfl rfl ?_
    refine g_istore (lv' := [(6, .int (nI 0)), (5, .int (nI 1)), (4, .int (nI i)), (0, .ref b), (1, .ref cj), (2, .ref mz), (3, .ref o)]) X dL_law_1268 (by decide) rfl ?_
    refine g_aload_n X dL_law_1270 5 rfl rfl ?_
    refine g_callV (As := []) (rest := []) (wr := [w1, cOut v o f]) X (Mc_X7_thrown l v hM1 hW hL) f_X7_thrown q_16_9 dL_law_1271 [1] [0, 2] rfl rfl (by decide) 0 hqN rfl rfl rfl (Nat.le_of_ble_eq_true rfl) ⟨rfl, rfl, by decide +kernel, by decide +kernel, (by show _ ≤ 601024; omega), (by show _ ≤ 7293034; omega)⟩ (fun r_ w_ hp6 => ?_)
    obtain ⟨rfl, u2, hM2, rfl⟩ := hp6
    show GG k _ _ [u2, w1, cOut v o f] _ _ [.int (nI 1)]
    refine g_pick (cs' := [w1, u2, cOut v o f]) [1, 0, 2] rfl rfl ?_
    refine g_iload X dL_law_1274 1 rfl ?_
    refine g_icmp_eqN (tgt := 1281) X dL_law_1276 (by decide) (by omega) (by omega) (fun c1276 => ?_) (fun c1276 => ?_)
    · refine g_iload X dL_law_1281 1 rfl ?_
      refine g_if_neN (tgt := 1298) X dL_law_1283 (by decide) (by omega) (fun c1283 => ?_) (fun c1283 => ?_)
      · refine g_goto (tgt := 1328) X dL_law_1298 (by decide) ?_
        refine g_lv (lv' := [(4, .int (nI i)), (0, .ref b), (1, .ref cj), (2, .ref mz), (3, .ref o)]) [2, 3, 4, 5, 6] rfl ?_
        exact KN hC1 hM2 hW hL (by omega) (by omega)
      · exact absurd c1283 (by decide)
    · exact absurd c1276 (by decide)

set_option maxHeartbeats 4000000 in
set_option maxRecDepth 100000 in
theorem op_savedStates {k : KX} {l : Launch} {v : VV} {cj mz o b L i ce sl : Nat} {xs : Nat → Int32} (X : CX k l v cL_law "ClaimJudgeLaw" room_1 9) (hs : SCk k b L xs) (hnc : NCk k) (hst : l.stackTraces = false) (hL9 : L ≤ 2560) {P : Nat → S9} {n : Nat} {lo hi : Nat → Nat} {H : Nat → HE9} {c : Nat} {tx : Nat → Nat} {ln : Nat} {th : Int32} {w9 u9 : va_W} {f : Nat → Int64} (hC : IC9 v cj P n lo hi H c tx ln w9) (hM : IM9 v mz P n lo hi H c tx ln th u9) (hW : WF P n) (hL : AsW lo hi) (hi9 : i + 4 < L) (hce : ce + 1 ≤ 601024) (hsl : sl + 6 ≤ 7293034) (KN : NX9 k v cj mz o b i ce sl) : GG k ce sl [w9, u9, cOut v o f] [(4, .int (nI i)), (0, .ref b), (1, .ref cj), (2, .ref mz), (3, .ref o)] 1301 [] := by
  obtain ⟨fs9, hq⟩ := IC9_hd hC
  obtain ⟨fs8, hqM⟩ := IM9_hd hM
  have hn12 := hW.1
  have hT6 := IC9_T hC
  refine g_aload_n X dL_law_1301 2 rfl rfl ?_
  refine g_callV (As := []) (rest := []) (wr := [u9, cOut v o f]) X (Cc_X6_savedStates l v cj hC hW hL) f_X6_savedStates q_35_13 dL_law_1302 [0] [1, 2] rfl rfl (by decide) 0 hq rfl rfl rfl (Nat.le_of_ble_eq_true rfl) ⟨rfl, rfl, by decide +kernel, by decide +kernel, (by show _ ≤ 601024; omega), (by show _ ≤ 7293034; omega)⟩ (fun r_ w_ hp1 => ?_)
  obtain ⟨rfl, w1, hC1, rfl⟩ := hp1
  show GG k _ _ [w1, u9, cOut v o f] _ _ [.int (nI c)]
  refine g_aload_n X dL_law_1305 3 rfl rfl ?_
  refine g_callV (As := []) (rest := [.int (nI c)]) (wr := [w1, cOut v o f]) X (Mc_X7_savedStates l v hM hW hL  ) f_X7_savedStates q_35_17 dL_law_1306 [1] [0, 2] rfl rfl (by decide) 0 hqM rfl rfl rfl (Nat.le_of_ble_eq_true rfl) ⟨rfl, rfl, by decide +kernel, by decide +kernel, (by show _ ≤ 601024; omega), (by show _ ≤ 7293034; omega)⟩ (fun r_ w_ hp2 => ?_)
  obtain ⟨rfl, u1, hM1, rfl⟩ := hp2
  obtain ⟨fs7, hqN⟩ := IM9_hd hM1
  show GG k _ _ [u1, w1, cOut v o f] _ _ [.int (nI c), .int (nI c)]
  refine g_pick (cs' := [w1, u1, cOut v o f]) [1, 0, 2] rfl rfl ?_
  refine g_icmp_eq (tgt := 1328) X dL_law_1309 (by decide) (fun c1309 => ?_) (fun c1309 => ?_)
  · exact KN hC1 hM1 hW hL (by omega) (by omega)
  · exact absurd rfl c1309

set_option maxHeartbeats 4000000 in
set_option maxRecDepth 100000 in
theorem op_digest {k : KX} {l : Launch} {v : VV} {cj mz o b L i ce sl : Nat} {xs : Nat → Int32} (X : CX k l v cL_law "ClaimJudgeLaw" room_1 9) (hs : SCk k b L xs) (hnc : NCk k) (hst : l.stackTraces = false) (hL9 : L ≤ 2560) {P : Nat → S9} {n : Nat} {lo hi : Nat → Nat} {H : Nat → HE9} {c : Nat} {tx : Nat → Nat} {ln : Nat} {th : Int32} {w9 u9 : va_W} {f : Nat → Int64} (hC : IC9 v cj P n lo hi H c tx ln w9) (hM : IM9 v mz P n lo hi H c tx ln th u9) (hW : WF P n) (hL : AsW lo hi) (hi9 : i + 4 < L) (hce : ce + 1 ≤ 601024) (hsl : sl + 6 ≤ 7293034) (KN : NX9 k v cj mz o b i ce sl) : GG k ce sl [w9, u9, cOut v o f] [(4, .int (nI i)), (0, .ref b), (1, .ref cj), (2, .ref mz), (3, .ref o)] 1314 [] := by
  obtain ⟨fs9, hq⟩ := IC9_hd hC
  obtain ⟨fs8, hqM⟩ := IM9_hd hM
  have hn12 := hW.1
  have hT6 := IC9_T hC
  refine g_aload_n X dL_law_1314 2 rfl rfl ?_
  refine g_callV (As := []) (rest := []) (wr := [u9, cOut v o f]) X (Cc_X6_digest l v cj hC hW hL) f_X6_digest q_35_21 dL_law_1315 [0] [1, 2] rfl rfl (by decide) 0 hq rfl rfl rfl (Nat.le_of_ble_eq_true rfl) ⟨rfl, rfl, by decide +kernel, by decide +kernel, (by show _ ≤ 601024; omega), (by show _ ≤ 7293034; omega)⟩ (fun r_ w_ hp1 => ?_)
  obtain ⟨rfl, w1, hC1, rfl⟩ := hp1
  show GG k _ _ [w1, u9, cOut v o f] _ _ [.long (dGV lo hi P n)]
  refine g_aload_n X dL_law_1318 3 rfl rfl ?_
  refine g_callV (As := []) (rest := [.long (dGV lo hi P n)]) (wr := [w1, cOut v o f]) X (Mc_X7_digest l v hM hW hL  ) f_X7_digest q_36_14 dL_law_1319 [1] [0, 2] rfl rfl (by decide) 0 hqM rfl rfl rfl (Nat.le_of_ble_eq_true rfl) ⟨rfl, rfl, by decide +kernel, by decide +kernel, (by show _ ≤ 601024; omega), (by show _ ≤ 7293034; omega)⟩ (fun r_ w_ hp2 => ?_)
  obtain ⟨rfl, u1, hM1, rfl⟩ := hp2
  obtain ⟨fs7, hqN⟩ := IM9_hd hM1
  show GG k _ _ [u1, w1, cOut v o f] _ _ [.long (dGV lo hi P n), .long (dGV lo hi P n)]
  refine g_pick (cs' := [w1, u1, cOut v o f]) [1, 0, 2] rfl rfl ?_
  refine g_lcmp X dL_law_1322 ?_
  refine g_v (y := nI 0) (lg_self _) ?_
  refine g_if_eqN (tgt := 1328) X dL_law_1323 (by decide) (by omega) (fun c1323 => ?_) (fun c1323 => ?_)
  · exact KN hC1 hM1 hW hL (by omega) (by omega)
  · exact absurd rfl c1323

