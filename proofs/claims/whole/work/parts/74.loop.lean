/-! ## the law: its loop, its start -/
theorem and31 (x : Int32) : ∃ j : Nat, j < 32 ∧ x &&& nI 31 = nI j := pk_andE x 5 (by decide +kernel)
set_option maxHeartbeats 4000000 in
set_option maxRecDepth 100000 in
theorem law_loop {k : KX} {l : Launch} {v : VV} {cj mz o b L : Nat} {xs : Nat → Int32} (X : CX k l v cL_law "ClaimJudgeLaw" room_1 9) (hs : SCk k b L xs) (hnc : NCk k) (hst : l.stackTraces = false) (hL9 : L ≤ 2560) (E : ∀ {ce sl : Nat} {cs : List va_W} {lv : List (Nat × Value)}, ce ≤ 601024 → sl ≤ 7293034 → GG k ce sl cs lv 1335 [.int (nI 1)]) : ∀ (N i : Nat), i ≤ L → L + 1 ≤ i + N → ∀ {P : Nat → S9} {n : Nat} {lo hi : Nat → Nat} {H : Nat → HE9} {c : Nat} {tx : Nat → Nat} {ln : Nat} {th : Int32} {w9 u9 : va_W} {f : Nat → Int64} {ce sl : Nat}, IC9 v cj P n lo hi H c tx ln w9 → IM9 v mz P n lo hi H c tx ln th u9 → WF P n → AsW lo hi → ce ≤ 200 + i → sl ≤ 30000 + 6 * i → GG k ce sl [w9, u9, cOut v o f] [(4, .int (nI i)), (0, .ref b), (1, .ref cj), (2, .ref mz), (3, .ref o)] 23 [] := by
  intro N
  induction N with
  | zero => intro i h1 h2; exact absurd h2 (by omega)
  | succ N ih =>
    intro i h1 h2 P n lo hi H c tx ln th w9 u9 f ce sl hC hM hW hL hce hsl
    refine g_iload X dL_law_23 0 rfl ?_
    refine g_aload_n X dL_law_25 1 rfl rfl ?_
    refine g_slen X hs dL_law_26 ?_
    refine g_iconst (x := nI 5) X dL_law_27 (by decide +kernel) ?_
    refine g_isub X dL_law_28 ?_
    refine g_v (y := zI ((L : Int) - ((5 : Nat) : Int))) (by rw [zI_nI L, zI_nI 5, zI_sub]) ?_
    refine g_icmp_gt (tgt := 1334) X dL_law_29 (by decide) (fun c29 => ?_) (fun c29 => ?_)
    · refine g_iconst (x := nI 1) X dL_law_1334 (by decide +kernel) ?_
      exact E (by omega) (by omega)
    · rw [zI_nI i, zI_lt (by omega) (by omega) (by omega) (by omega)] at c29
      have hi5 : i + 5 ≤ L := by omega
      refine g_aload_n X dL_law_32 1 rfl rfl ?_
      refine g_iload X dL_law_33 0 rfl ?_
      refine g_sld X hs dL_law_35 (by omega) hL9 ?_
      refine g_bipush (x := nI 31) X dL_law_36 (by decide +kernel) ?_
      refine g_iand X dL_law_38 ?_
      obtain ⟨j, hj, ej⟩ := and31 (xs i)
      refine g_v (y := nI j) ej ?_
      have KN : NX9 k v cj mz o b i ce sl := by
        intro P n lo hi H c tx ln th w u f ce9 sl9 hC hM hW hL h3 h4
        refine g_iinc (y := nI (i + 5)) (lv' := [(4, .int (nI (i + 5))), (0, .ref b), (1, .ref cj), (2, .ref mz), (3, .ref o)]) (j := 0) X dL_law_1328 rfl (nI_add i 5) (by decide) rfl ?_
        refine g_goto (tgt := 23) X dL_law_1331 (by decide) ?_
        exact ih (i + 5) (by omega) (by omega) hC hM hW hL (by omega) (by omega)
      rcases (show j = 0 ∨ j = 1 ∨ j = 2 ∨ j = 3 ∨ j = 4 ∨ j = 5 ∨ j = 6 ∨ j = 7 ∨ j = 8 ∨ j = 9 ∨ j = 10 ∨ j = 11 ∨ j = 12 ∨ j = 13 ∨ j = 14 ∨ j = 15 ∨ j = 16 ∨ j = 17 ∨ j = 18 ∨ j = 19 ∨ j = 20 ∨ j = 21 ∨ j = 22 ∨ j = 23 ∨ j = 24 ∨ j = 25 ∨ j = 26 ∨ j = 27 ∨ j = 28 ∨ j = 29 ∨ j = 30 ∨ j = 31 by omega) with rfl | rfl | rfl | rfl | rfl | rfl | rfl | rfl | rfl | rfl | rfl | rfl | rfl | rfl | rfl | rfl | rfl | rfl | rfl | rfl | rfl | rfl | rfl | rfl | rfl | rfl | rfl | rfl | rfl | rfl | rfl | rfl
      · refine g_tabIn (tgt := 152) X dL_law_39 (by decide +kernel) (by decide +kernel) (by rfl) (by decide) ?_
        exact op_load X hs hnc hst hL9 hC hM hW hL (by omega) (by omega) (by omega) KN
      · refine g_tabIn (tgt := 196) X dL_law_39 (by decide +kernel) (by decide +kernel) (by rfl) (by decide) ?_
        exact op_add X hs hnc hst hL9 hC hM hW hL (by omega) (by omega) (by omega) KN
      · refine g_tabIn (tgt := 240) X dL_law_39 (by decide +kernel) (by decide +kernel) (by rfl) (by decide) ?_
        exact op_removeLast X hs hnc hst hL9 hC hM hW hL (by omega) (by omega) (by omega) KN
      · refine g_tabIn (tgt := 284) X dL_law_39 (by decide +kernel) (by decide +kernel) (by rfl) (by decide) ?_
        exact op_statements X hs hnc hst hL9 hC hM hW hL (by omega) (by omega) (by omega) KN
      · refine g_tabIn (tgt := 297) X dL_law_39 (by decide +kernel) (by decide +kernel) (by rfl) (by decide) ?_
        exact op_kind X hs hnc hst hL9 hC hM hW hL (by omega) (by omega) (by omega) KN
      · refine g_tabIn (tgt := 353) X dL_law_39 (by decide +kernel) (by decide +kernel) (by rfl) (by decide) ?_
        exact op_target X hs hnc hst hL9 hC hM hW hL (by omega) (by omega) (by omega) KN
      · refine g_tabIn (tgt := 409) X dL_law_39 (by decide +kernel) (by decide +kernel) (by rfl) (by decide) ?_
        exact op_run X hs hnc hst hL9 hC hM hW hL (by omega) (by omega) (by omega) KN
      · refine g_tabIn (tgt := 489) X dL_law_39 (by decide +kernel) (by decide +kernel) (by rfl) (by decide) ?_
        exact op_steps X hs hnc hst hL9 hC hM hW hL (by omega) (by omega) (by omega) KN
      · refine g_tabIn (tgt := 569) X dL_law_39 (by decide +kernel) (by decide +kernel) (by rfl) (by decide) ?_
        exact op_demand X hs hnc hst hL9 hC hM hW hL (by omega) (by omega) (by omega) KN
      · refine g_tabIn (tgt := 625) X dL_law_39 (by decide +kernel) (by decide +kernel) (by rfl) (by decide) ?_
        exact op_demands X hs hnc hst hL9 hC hM hW hL (by omega) (by omega) (by omega) KN
      · refine g_tabIn (tgt := 724) X dL_law_39 (by decide +kernel) (by decide +kernel) (by rfl) (by decide) ?_
        exact op_assume X hs hnc hst hL9 hC hM hW hL (by omega) (by omega) (by omega) KN
      · refine g_tabIn (tgt := 804) X dL_law_39 (by decide +kernel) (by decide +kernel) (by rfl) (by decide) ?_
        exact op_verdict X hs hnc hst hL9 hC hM hW hL (by omega) (by omega) (by omega) KN
      · refine g_tabIn (tgt := 860) X dL_law_39 (by decide +kernel) (by decide +kernel) (by rfl) (by decide) ?_
        exact op_example X hs hnc hst hL9 hC hM hW hL (by omega) (by omega) (by omega) KN
      · refine g_tabIn (tgt := 916) X dL_law_39 (by decide +kernel) (by decide +kernel) (by rfl) (by decide) ?_
        exact op_endless X hs hnc hst hL9 hC hM hW hL (by omega) (by omega) (by omega) KN
      · refine g_tabIn (tgt := 929) X dL_law_39 (by decide +kernel) (by decide +kernel) (by rfl) (by decide) ?_
        exact op_proof X hs hnc hst hL9 hC hM hW hL (by omega) (by omega) (by omega) KN
      · refine g_tabIn (tgt := 942) X dL_law_39 (by decide +kernel) (by decide +kernel) (by rfl) (by decide) ?_
        exact op_provedShare X hs hnc hst hL9 hC hM hW hL (by omega) (by omega) (by omega) KN
      · refine g_tabIn (tgt := 983) X dL_law_39 (by decide +kernel) (by decide +kernel) (by rfl) (by decide) ?_
        exact op_least X hs hnc hst hL9 hC hM hW hL (by omega) (by omega) (by omega) KN
      · refine g_tabIn (tgt := 1051) X dL_law_39 (by decide +kernel) (by decide +kernel) (by rfl) (by decide) ?_
        exact op_greatest X hs hnc hst hL9 hC hM hW hL (by omega) (by omega) (by omega) KN
      · refine g_tabIn (tgt := 1119) X dL_law_39 (by decide +kernel) (by decide +kernel) (by rfl) (by decide) ?_
        exact op_widest X hs hnc hst hL9 hC hM hW hL (by omega) (by omega) (by omega) KN
      · refine g_tabIn (tgt := 1175) X dL_law_39 (by decide +kernel) (by decide +kernel) (by rfl) (by decide) ?_
        exact op_append X hs hnc hst hL9 hC hM hW hL (by omega) (by omega) (by omega) KN
      · refine g_tabIn (tgt := 1231) X dL_law_39 (by decide +kernel) (by decide +kernel) (by rfl) (by decide) ?_
        exact op_clearBuffer X hs hnc hst hL9 hC hM hW hL (by omega) (by omega) (by omega) KN
      · refine g_tabIn (tgt := 1244) X dL_law_39 (by decide +kernel) (by decide +kernel) (by rfl) (by decide) ?_
        exact op_firstError X hs hnc hst hL9 hC hM hW hL (by omega) (by omega) (by omega) KN
      · refine g_tabIn (tgt := 1257) X dL_law_39 (by decide +kernel) (by decide +kernel) (by rfl) (by decide) ?_
        exact op_undo X hs hnc hst hL9 hC hM hW hL (by omega) (by omega) (by omega) KN
      · refine g_tabIn (tgt := 1301) X dL_law_39 (by decide +kernel) (by decide +kernel) (by rfl) (by decide) ?_
        exact op_savedStates X hs hnc hst hL9 hC hM hW hL (by omega) (by omega) (by omega) KN
      · refine g_tabIn (tgt := 1314) X dL_law_39 (by decide +kernel) (by decide +kernel) (by rfl) (by decide) ?_
        exact op_digest X hs hnc hst hL9 hC hM hW hL (by omega) (by omega) (by omega) KN
      · refine g_tabOut (tgt := 1328) X dL_law_39 (by decide +kernel) (by decide) ?_
        exact KN hC hM hW hL (by omega) (by omega)
      · refine g_tabOut (tgt := 1328) X dL_law_39 (by decide +kernel) (by decide) ?_
        exact KN hC hM hW hL (by omega) (by omega)
      · refine g_tabOut (tgt := 1328) X dL_law_39 (by decide +kernel) (by decide) ?_
        exact KN hC hM hW hL (by omega) (by omega)
      · refine g_tabOut (tgt := 1328) X dL_law_39 (by decide +kernel) (by decide) ?_
        exact KN hC hM hW hL (by omega) (by omega)
      · refine g_tabOut (tgt := 1328) X dL_law_39 (by decide +kernel) (by decide) ?_
        exact KN hC hM hW hL (by omega) (by omega)
      · refine g_tabOut (tgt := 1328) X dL_law_39 (by decide +kernel) (by decide) ?_
        exact KN hC hM hW hL (by omega) (by omega)
      · refine g_tabOut (tgt := 1328) X dL_law_39 (by decide +kernel) (by decide) ?_
        exact KN hC hM hW hL (by omega) (by omega)
set_option maxHeartbeats 4000000 in
set_option maxRecDepth 100000 in
theorem law_go {k : KX} {l : Launch} {v : VV} {b L : Nat} {xs : Nat → Int32} (X : CX k l v cL_law "ClaimJudgeLaw" room_1 9) (hs : SCk k b L xs) (hnc : NCk k) (hst : l.stackTraces = false) (hL9 : L ≤ 2560) (E : ∀ {ce sl : Nat} {cs : List va_W} {lv : List (Nat × Value)}, ce ≤ 601024 → sl ≤ 7293034 → GG k ce sl cs lv 1335 [.int (nI 1)]) : GG k 0 0 [] [(0, .ref b)] 0 [] := by
  refine g_new (fs := [.null, .null, .null, .null, .null, .null]) X cb6 q_1_0 q_1_1 q_1_2 dL_law_0 (fun j hj => by rcases (show j = 0 ∨ j = 1 ∨ j = 2 ∨ j = 3 ∨ j = 4 ∨ j = 5 by omega) with rfl | rfl | rfl | rfl | rfl | rfl <;> rfl) (by decide) (by decide) (fun z6 => ?_)
  show GG k 1 6 [[(z6, .inr (6, [.null, .null, .null, .null, .null, .null]))]] _ _ _
  refine g_dup X dL_law_3 rfl ?_
  refine g_callI (As := []) (rest := [.ref z6]) (wr := []) X (c_X6_init l v z6) f_X6_init q_1_7 dL_law_4 [0] [] rfl rfl (by decide) rfl rfl (Nat.le_of_ble_eq_true rfl) (by decide) (fun w_ hp1 => ?_)
  obtain ⟨a, b9, d, j, h, t, al, g, e, ex, lw, hg, vs, pw, bw, ns, fs, gs, fc, hG6, hH6, rfl⟩ := hp1
  show GG k _ _ [cCJ v z6 (a 0) (b9 0) (d 0) (j 0) (h 0) (t 0), cPg v a 0 (fun _ _ => 0), cAs v b9 g, cRu v d (a 0) true, cEn v d e, cJu v j (a 0) (b9 0) (d 0) 0 0 0 true, cEx v j ex, cLo v j lw, cHi v j hg, cVi v j vs, cHi9 v h pw bw 0 0, cPg v (pw 0) (ns 0) (fs 0), cPg v (pw 1) (ns 1) (fs 1), cPg v (pw 2) (ns 2) (fs 2), cPg v (pw 3) (ns 3) (fs 3), cPg v (pw 4) (ns 4) (fs 4), cPg v (pw 5) (ns 5) (fs 5), cAs v (bw 0) (gs 0), cAs v (bw 1) (gs 1), cAs v (bw 2) (gs 2), cAs v (bw 3) (gs 3), cAs v (bw 4) (gs 4), cAs v (bw 5) (gs 5), cTx v t (al 0) 0 0 0 0 0 0 0, cCh v t fc, cPg v al 0 (fun _ _ => 0)] _ _ [.ref z6]
  refine g_astore_n (lv' := [(1, .ref z6), (0, .ref b)]) X dL_law_7 rfl (by decide) rfl ?_
  refine g_new (fs := [.int 0, .null, .null, .int 0, .null, .int 0, .null, .int 0, .int 0, .null, .null, .int 0, .int 0, .long 0]) X cb7 q_1_3 q_1_4 q_1_5 dL_law_8 (fun j hj => by rcases (show j = 0 ∨ j = 1 ∨ j = 2 ∨ j = 3 ∨ j = 4 ∨ j = 5 ∨ j = 6 ∨ j = 7 ∨ j = 8 ∨ j = 9 ∨ j = 10 ∨ j = 11 ∨ j = 12 ∨ j = 13 by omega) with rfl | rfl | rfl | rfl | rfl | rfl | rfl | rfl | rfl | rfl | rfl | rfl | rfl | rfl <;> rfl) (by decide) (by decide) (fun z7 => ?_)
  show GG k 91 7657 [cCJ v z6 (a 0) (b9 0) (d 0) (j 0) (h 0) (t 0), cPg v a 0 (fun _ _ => 0), cAs v b9 g, cRu v d (a 0) true, cEn v d e, cJu v j (a 0) (b9 0) (d 0) 0 0 0 true, cEx v j ex, cLo v j lw, cHi v j hg, cVi v j vs, cHi9 v h pw bw 0 0, cPg v (pw 0) (ns 0) (fs 0), cPg v (pw 1) (ns 1) (fs 1), cPg v (pw 2) (ns 2) (fs 2), cPg v (pw 3) (ns 3) (fs 3), cPg v (pw 4) (ns 4) (fs 4), cPg v (pw 5) (ns 5) (fs 5), cAs v (bw 0) (gs 0), cAs v (bw 1) (gs 1), cAs v (bw 2) (gs 2), cAs v (bw 3) (gs 3), cAs v (bw 4) (gs 4), cAs v (bw 5) (gs 5), cTx v t (al 0) 0 0 0 0 0 0 0, cCh v t fc, cPg v al 0 (fun _ _ => 0), [(z7, .inr (7, [.int 0, .null, .null, .int 0, .null, .int 0, .null, .int 0, .int 0, .null, .null, .int 0, .int 0, .long 0]))]] _ _ _
  refine g_dup X dL_law_11 rfl ?_
  refine g_callI (As := []) (rest := [.ref z7]) (wr := [cCJ v z6 (a 0) (b9 0) (d 0) (j 0) (h 0) (t 0), cPg v a 0 (fun _ _ => 0), cAs v b9 g, cRu v d (a 0) true, cEn v d e, cJu v j (a 0) (b9 0) (d 0) 0 0 0 true, cEx v j ex, cLo v j lw, cHi v j hg, cVi v j vs, cHi9 v h pw bw 0 0, cPg v (pw 0) (ns 0) (fs 0), cPg v (pw 1) (ns 1) (fs 1), cPg v (pw 2) (ns 2) (fs 2), cPg v (pw 3) (ns 3) (fs 3), cPg v (pw 4) (ns 4) (fs 4), cPg v (pw 5) (ns 5) (fs 5), cAs v (bw 0) (gs 0), cAs v (bw 1) (gs 1), cAs v (bw 2) (gs 2), cAs v (bw 3) (gs 3), cAs v (bw 4) (gs 4), cAs v (bw 5) (gs 5), cTx v t (al 0) 0 0 0 0 0 0 0, cCh v t fc, cPg v al 0 (fun _ _ => 0)]) X (c_X7_init l v z7 (fun _ => (0, 0, 0, 0, 0))) f_X7_init q_4_14 dL_law_12 [26] [0, 1, 2, 3, 4, 5, 6, 7, 8, 9, 10, 11, 12, 13, 14, 15, 16, 17, 18, 19, 20, 21, 22, 23, 24, 25] rfl rfl (by decide) rfl rfl (Nat.le_of_ble_eq_true rfl) (by decide) (fun w_ hp2 => ?_)
  obtain ⟨mo, ms, mv, mt, mr, me, mn, hz7, hS7, rfl⟩ := hp2
  show GG k _ _ [cMo v mo 0 0 0 0 0 0 0 0, cMs v mo ms, cMv v mo mv, cMt v mo mt, cMr v mo mr, cMe v mo me, cMn v mo mn, cCJ v z6 (a 0) (b9 0) (d 0) (j 0) (h 0) (t 0), cPg v a 0 (fun _ _ => 0), cAs v b9 g, cRu v d (a 0) true, cEn v d e, cJu v j (a 0) (b9 0) (d 0) 0 0 0 true, cEx v j ex, cLo v j lw, cHi v j hg, cVi v j vs, cHi9 v h pw bw 0 0, cPg v (pw 0) (ns 0) (fs 0), cPg v (pw 1) (ns 1) (fs 1), cPg v (pw 2) (ns 2) (fs 2), cPg v (pw 3) (ns 3) (fs 3), cPg v (pw 4) (ns 4) (fs 4), cPg v (pw 5) (ns 5) (fs 5), cAs v (bw 0) (gs 0), cAs v (bw 1) (gs 1), cAs v (bw 2) (gs 2), cAs v (bw 3) (gs 3), cAs v (bw 4) (gs 4), cAs v (bw 5) (gs 5), cTx v t (al 0) 0 0 0 0 0 0 0, cCh v t fc, cPg v al 0 (fun _ _ => 0)] _ _ [.ref z7]
  refine g_pick (cs' := [cCJ v z6 (a 0) (b9 0) (d 0) (j 0) (h 0) (t 0), cPg v a 0 (fun _ _ => 0), cAs v b9 g, cRu v d (a 0) true, cEn v d e, cJu v j (a 0) (b9 0) (d 0) 0 0 0 true, cEx v j ex, cLo v j lw, cHi v j hg, cVi v j vs, cHi9 v h pw bw 0 0, cPg v (pw 0) (ns 0) (fs 0), cPg v (pw 1) (ns 1) (fs 1), cPg v (pw 2) (ns 2) (fs 2), cPg v (pw 3) (ns 3) (fs 3), cPg v (pw 4) (ns 4) (fs 4), cPg v (pw 5) (ns 5) (fs 5), cAs v (bw 0) (gs 0), cAs v (bw 1) (gs 1), cAs v (bw 2) (gs 2), cAs v (bw 3) (gs 3), cAs v (bw 4) (gs 4), cAs v (bw 5) (gs 5), cTx v t (al 0) 0 0 0 0 0 0 0, cCh v t fc, cPg v al 0 (fun _ _ => 0), cMo v mo 0 0 0 0 0 0 0 0, cMs v mo ms, cMv v mo mv, cMt v mo mt, cMr v mo mr, cMe v mo me, cMn v mo mn]) [7, 8, 9, 10, 11, 12, 13, 14, 15, 16, 17, 18, 19, 20, 21, 22, 23, 24, 25, 26, 27, 28, 29, 30, 31, 32, 0, 1, 2, 3, 4, 5, 6] rfl rfl ?_
  refine g_astore_n (lv' := [(2, .ref z7), (1, .ref z6), (0, .ref b)]) X dL_law_15 rfl (by decide) rfl ?_
  refine g_iconst (x := nI 1) X dL_law_16 (by decide +kernel) ?_
  refine g_newa 1 (N := 1) (atype := .long) (ty := .long) (a0 := (1, .inr (.inl (fun _ => 0)))) X q_1_6 rfl dL_law_17 rfl (fun _ => rfl) (by decide) (by decide) (by decide) (by decide) (fun o => ?_)
  show GG k 98 21559 [cCJ v z6 (a 0) (b9 0) (d 0) (j 0) (h 0) (t 0), cPg v a 0 (fun _ _ => 0), cAs v b9 g, cRu v d (a 0) true, cEn v d e, cJu v j (a 0) (b9 0) (d 0) 0 0 0 true, cEx v j ex, cLo v j lw, cHi v j hg, cVi v j vs, cHi9 v h pw bw 0 0, cPg v (pw 0) (ns 0) (fs 0), cPg v (pw 1) (ns 1) (fs 1), cPg v (pw 2) (ns 2) (fs 2), cPg v (pw 3) (ns 3) (fs 3), cPg v (pw 4) (ns 4) (fs 4), cPg v (pw 5) (ns 5) (fs 5), cAs v (bw 0) (gs 0), cAs v (bw 1) (gs 1), cAs v (bw 2) (gs 2), cAs v (bw 3) (gs 3), cAs v (bw 4) (gs 4), cAs v (bw 5) (gs 5), cTx v t (al 0) 0 0 0 0 0 0 0, cCh v t fc, cPg v al 0 (fun _ _ => 0), cMo v mo 0 0 0 0 0 0 0 0, cMs v mo ms, cMv v mo mv, cMt v mo mt, cMr v mo mr, cMe v mo me, cMn v mo mn, [(o, .inl (v.2.1 1, 1, .inr (.inl (fun _ => 0))))]] _ _ _
  refine g_astore_n (lv' := [(3, .ref o), (2, .ref z7), (1, .ref z6), (0, .ref b)]) X dL_law_19 rfl (by decide) rfl ?_
  refine g_iconst (x := nI 0) X dL_law_20 (by decide +kernel) ?_
  refine g_istore (lv' := [(4, .int (nI 0)), (3, .ref o), (2, .ref z7), (1, .ref z6), (0, .ref b)]) X dL_law_21 (by decide) rfl ?_
  refine g_lv (lv' := [(4, .int (nI 0)), (0, .ref b), (1, .ref z6), (2, .ref z7), (3, .ref o)]) [0, 4, 3, 2, 1] rfl ?_
  refine g_flat (cs' := [([cCJ v z6 (a 0) (b9 0) (d 0) (j 0) (h 0) (t 0), cPg v a 0 (fun _ _ => 0), cAs v b9 g, cRu v d (a 0) true, cEn v d e, cJu v j (a 0) (b9 0) (d 0) 0 0 0 true, cEx v j ex, cLo v j lw, cHi v j hg, cVi v j vs, cHi9 v h pw bw 0 0, cPg v (pw 0) (ns 0) (fs 0), cPg v (pw 1) (ns 1) (fs 1), cPg v (pw 2) (ns 2) (fs 2), cPg v (pw 3) (ns 3) (fs 3), cPg v (pw 4) (ns 4) (fs 4), cPg v (pw 5) (ns 5) (fs 5), cAs v (bw 0) (gs 0), cAs v (bw 1) (gs 1), cAs v (bw 2) (gs 2), cAs v (bw 3) (gs 3), cAs v (bw 4) (gs 4), cAs v (bw 5) (gs 5), cTx v t (al 0) 0 0 0 0 0 0 0, cCh v t fc, cPg v al 0 (fun _ _ => 0)] : List va_W).flatten, ([cMo v mo 0 0 0 0 0 0 0 0, cMs v mo ms, cMv v mo mv, cMt v mo mt, cMr v mo mr, cMe v mo me, cMn v mo mn] : List va_W).flatten, cOut v o (fun _ => 0)]) rfl ?_
  have hC : IC9 v z6 (fun _ => (0, 0, 0, 0, 0)) 0 (fun _ => 0) (fun _ => 7) H9z 0 (fun _ => 0) 0 (([cCJ v z6 (a 0) (b9 0) (d 0) (j 0) (h 0) (t 0), cPg v a 0 (fun _ _ => 0), cAs v b9 g, cRu v d (a 0) true, cEn v d e, cJu v j (a 0) (b9 0) (d 0) 0 0 0 true, cEx v j ex, cLo v j lw, cHi v j hg, cVi v j vs, cHi9 v h pw bw 0 0, cPg v (pw 0) (ns 0) (fs 0), cPg v (pw 1) (ns 1) (fs 1), cPg v (pw 2) (ns 2) (fs 2), cPg v (pw 3) (ns 3) (fs 3), cPg v (pw 4) (ns 4) (fs 4), cPg v (pw 5) (ns 5) (fs 5), cAs v (bw 0) (gs 0), cAs v (bw 1) (gs 1), cAs v (bw 2) (gs 2), cAs v (bw 3) (gs 3), cAs v (bw 4) (gs 4), cAs v (bw 5) (gs 5), cTx v t (al 0) 0 0 0 0 0 0 0, cCh v t fc, cPg v al 0 (fun _ _ => 0)] : List va_W).flatten) := ⟨_, _, _, _, _, _, _, _, _, _, _, _, _, _, _, _, _, _, _, _, _, _, _, _, _, _, _, _, _, _, _, _, _, _, (fun i h => absurd h (Nat.not_lt_zero _)), hG6, (fun h => by cases h), (fun h => by cases h), hH6, ⟨by omega, fun i h => absurd h (Nat.not_lt_zero _)⟩, Nat.zero_le _, rfl⟩
  have hM : IM9 v z7 (fun _ => (0, 0, 0, 0, 0)) 0 (fun _ => 0) (fun _ => 7) H9z 0 (fun _ => 0) 0 0 (([cMo v mo 0 0 0 0 0 0 0 0, cMs v mo ms, cMv v mo mv, cMt v mo mt, cMr v mo mr, cMe v mo me, cMn v mo mn] : List va_W).flatten) := ⟨_, _, _, _, _, _, _, _, _, _, _, _, hz7, hS7, ⟨by omega, fun i h => absurd h (Nat.not_lt_zero _)⟩, ⟨by omega, fun i h => absurd h (Nat.not_lt_zero _)⟩, rfl⟩
  exact law_loop X hs hnc hst hL9 E (L + 1) 0 (Nat.zero_le _) (by omega) hC hM ⟨by omega, fun i h => absurd h (Nat.not_lt_zero _)⟩ AsW_new (by omega) (by omega)
