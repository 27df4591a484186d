/-! ## the model: append, firstError, undo -/
theorem inI_bdC {x : Int32} (h : bdC x) : inI x (nI 33) (nI 126) = false := decide_eq_false (fun ⟨h1, h2⟩ => h.elim (fun z => absurd z (Int32.not_lt.mpr h1)) (fun z => absurd z (Int32.not_lt.mpr h2)))
theorem pAll_len {tx : Nat → Nat} {ln : Nat} : ∀ (f p : Nat) (L : List S9), (pAll tx ln f p L).1 = true → (pAll tx ln f p L).2.1 = ln
  | 0, _, _, h => by cases h
  | f + 1, p, L, h => by
    unfold pAll at h ⊢
    split
    · rename_i e; rw [e] at h; cases h
    · rename_i s e
      rw [e] at h
      dsimp only at h
      by_cases c : (pStmt tx ln p).2 = ln
      · rw [if_pos c]; exact c
      · rw [if_neg c] at h ⊢
        by_cases c2 : f = 0
        · rw [if_pos c2] at h; cases h
        · rw [if_neg c2] at h ⊢
          by_cases c3 : nxc tx ln (pStmt tx ln p).2 = 59
          · rw [if_pos c3] at h ⊢; exact pAll_len f _ _ h
          · rw [if_neg c3] at h; cases h

set_option maxHeartbeats 4000000 in
set_option maxRecDepth 100000 in
theorem c_X7_append (l : Launch) (v : VV) (mo : Nat → Nat) (th : Int32) (sm : Nat) (ln : Nat) (rm : Int32) (fa : Int32) (sp : Int32) (wr : Int32) (dd : Int64) (ft : Nat → Int32) (w : Nat) (hl : ln < 60) (hw1 : 33 ≤ w) (hw2 : w < 127) : MI l v yX7_append cX7_append 2 (some .int) ({ frames := 1, cells := 0, slots := 0, locals := 22 }) [.ref (mo 0), .int (nI w)] [[((mo 0), .inr (7, [.int th, .ref (mo 1), .ref (mo 2), .int (nI sm), .ref (mo 3), .int (nI ln), .ref (mo 4), .int rm, .int fa, .ref (mo 5), .ref (mo 6), .int sp, .int wr, .long dd]))], cMt v mo ft] (fun r w_ => r = nI (ln + 1) ∧ w_ = [[((mo 0), .inr (7, [.int (nI 0), .ref (mo 1), .ref (mo 2), .int (nI sm), .ref (mo 3), .int (nI (ln + 1)), .ref (mo 4), .int rm, .int fa, .ref (mo 5), .ref (mo 6), .int sp, .int wr, .long dd]))], cMt v mo (upd ft ln (nI w))]) 0 0 := by
  refine mm_int (by decide) (Nat.le_of_ble_eq_true rfl) [(0, .ref (mo 0)), (1, .int (nI w))] rfl (fun k X E => ?_)
  refine g_aload_n X dX7_append_0 0 rfl rfl ?_
  refine g_iload_n X dX7_append_1 1 rfl rfl ?_
  refine g_bipush (x := nI 33) X dX7_append_2 (by decide +kernel) ?_
  refine g_bipush (x := nI 126) X dX7_append_4 (by decide +kernel) ?_
  refine g_callS (As := [.int (nI w), .int (nI 33), .int (nI 126)]) (rest := [.ref (mo 0)]) (wr := [[((mo 0), .inr (7, [.int th, .ref (mo 1), .ref (mo 2), .int (nI sm), .ref (mo 3), .int (nI ln), .ref (mo 4), .int rm, .int fa, .ref (mo 5), .ref (mo 6), .int sp, .int wr, .long dd]))], cMt v mo ft]) X (c_X7_in l v (nI w) (nI 33) (nI 126)) f_X7_in q_14_20 dX7_append_6 [] [0, 1] rfl rfl (by decide) rfl rfl (Nat.le_of_ble_eq_true rfl) (by decide) (fun r_ w_ hp1 => ?_)
  rw [inI_N (by omega) (by omega) (by omega)] at hp1
  obtain ⟨rfl, rfl⟩ := hp1
  show GG k _ _ [[((mo 0), .inr (7, [.int th, .ref (mo 1), .ref (mo 2), .int (nI sm), .ref (mo 3), .int (nI ln), .ref (mo 4), .int rm, .int fa, .ref (mo 5), .ref (mo 6), .int sp, .int wr, .long dd]))], cMt v mo ft] _ _ [.int (bI (decide (33 ≤ w ∧ w ≤ 126))), .ref (mo 0)]
  refine g_if_neB (tgt := 16) X dX7_append_9 (by decide) (fun c9 => ?_) (fun c9 => ?_)
  · refine g_aload_n X dX7_append_16 0 rfl rfl ?_
    refine g_get X cb7 5 q_14_11 dX7_append_17 0 0 rfl rfl (by decide) rfl rfl ?_
    refine g_bipush (x := nI 60) X dX7_append_20 (by decide +kernel) ?_
    refine g_icmp_neN (tgt := 29) X dX7_append_22 (by decide) (by omega) (by omega) (fun c22 => ?_) (fun c22 => ?_)
    · refine g_iconst (x := nI 0) X dX7_append_29 (by decide +kernel) ?_
      refine g_callV (As := [.int (nI 0)]) (rest := []) (wr := [cMt v mo ft]) X (c_X7_holds l v mo th sm ln rm fa sp wr dd 0 (by omega)) f_X7_holds q_15_19 dX7_append_30 [0] [1] rfl rfl (by decide) 0 rfl rfl rfl rfl (Nat.le_of_ble_eq_true rfl) (by decide) (fun r_ w_ hp2 => ?_)
      obtain ⟨rfl, rfl⟩ := hp2
      show GG k _ _ [[((mo 0), .inr (7, [.int (nI 0), .ref (mo 1), .ref (mo 2), .int (nI sm), .ref (mo 3), .int (nI ln), .ref (mo 4), .int rm, .int fa, .ref (mo 5), .ref (mo 6), .int sp, .int wr, .long dd]))], cMt v mo ft] _ _ [.int (nI 1)]
      refine g_if_neN (tgt := 38) X dX7_append_33 (by decide) (by omega) (fun c33 => ?_) (fun c33 => ?_)
      · refine g_aload_n X dX7_append_38 0 rfl rfl ?_
        refine g_get X cb7 4 q_4_20 dX7_append_39 0 0 rfl rfl (by decide) rfl rfl ?_
        refine g_aload_n X dX7_append_42 0 rfl rfl ?_
        refine g_get X cb7 5 q_14_11 dX7_append_43 0 0 rfl rfl (by decide) rfl rfl ?_
        refine g_iload_n X dX7_append_46 1 rfl rfl ?_
        refine g_iast (cs' := [[((mo 0), .inr (7, [.int (nI 0), .ref (mo 1), .ref (mo 2), .int (nI sm), .ref (mo 3), .int (nI ln), .ref (mo 4), .int rm, .int fa, .ref (mo 5), .ref (mo 6), .int sp, .int wr, .long dd]))], [((mo 3), .inl (v.2.1 0, 60, .inl (upd ft ln (nI w))))]]) X dX7_append_47 1 0 rfl rfl (by omega) (by omega) rfl ?_
        refine g_aload_n X dX7_append_48 0 rfl rfl ?_
        refine g_dup X dX7_append_49 rfl ?_
        refine g_get X cb7 5 q_14_11 dX7_append_50 0 0 rfl rfl (by decide) rfl rfl ?_
        refine g_iconst (x := nI 1) X dX7_append_53 (by decide +kernel) ?_
        refine g_iaddN X dX7_append_54 ?_
        refine g_put (cs' := [[((mo 0), .inr (7, [.int (nI 0), .ref (mo 1), .ref (mo 2), .int (nI sm), .ref (mo 3), .int (nI (ln + 1)), .ref (mo 4), .int rm, .int fa, .ref (mo 5), .ref (mo 6), .int sp, .int wr, .long dd]))], [((mo 3), .inl (v.2.1 0, 60, .inl (upd ft ln (nI w))))]]) X cb7 5 q_14_11 dX7_append_55 0 0 rfl rfl (by decide) rfl rfl (rfl) (rfl) (Nat.le_of_ble_eq_true rfl) rfl ?_
        refine g_aload_n X dX7_append_58 0 rfl rfl ?_
        refine g_get X cb7 5 q_14_11 dX7_append_59 0 0 rfl rfl (by decide) rfl rfl ?_
        exact E dX7_append_62 rfl (rfl) (by decide) (by decide) (⟨rfl, rfl⟩)
      · exact absurd c33 (by decide)
    · omega
  · exact (of_decide_eq_false c9 ⟨by omega, by omega⟩).elim

set_option maxHeartbeats 4000000 in
set_option maxRecDepth 100000 in
theorem b_X7_append (l : Launch) (v : VV) (mo : Nat → Nat) (th : Int32) (sm : Nat) (ln : Nat) (rm : Int32) (fa : Int32) (sp : Int32) (wr : Int32) (dd : Int64) (x : Int32) (hx : bdC x) : MI l v yX7_append cX7_append 2 (some .int) ({ frames := 1, cells := 0, slots := 0, locals := 22 }) [.ref (mo 0), .int x] [[((mo 0), .inr (7, [.int th, .ref (mo 1), .ref (mo 2), .int (nI sm), .ref (mo 3), .int (nI ln), .ref (mo 4), .int rm, .int fa, .ref (mo 5), .ref (mo 6), .int sp, .int wr, .long dd]))]] (fun r w_ => r = nI 0 ∧ w_ = [[((mo 0), .inr (7, [.int (nI 1), .ref (mo 1), .ref (mo 2), .int (nI sm), .ref (mo 3), .int (nI ln), .ref (mo 4), .int rm, .int fa, .ref (mo 5), .ref (mo 6), .int sp, .int wr, .long dd]))]]) 0 0 := by
  refine mm_int (by decide) (Nat.le_of_ble_eq_true rfl) [(0, .ref (mo 0)), (1, .int x)] rfl (fun k X E => ?_)
  refine g_aload_n X dX7_append_0 0 rfl rfl ?_
  refine g_iload_n X dX7_append_1 1 rfl rfl ?_
  refine g_bipush (x := nI 33) X dX7_append_2 (by decide +kernel) ?_
  refine g_bipush (x := nI 126) X dX7_append_4 (by decide +kernel) ?_
  refine g_callS (As := [.int x, .int (nI 33), .int (nI 126)]) (rest := [.ref (mo 0)]) (wr := [[((mo 0), .inr (7, [.int th, .ref (mo 1), .ref (mo 2), .int (nI sm), .ref (mo 3), .int (nI ln), .ref (mo 4), .int rm, .int fa, .ref (mo 5), .ref (mo 6), .int sp, .int wr, .long dd]))]]) X (c_X7_in l v x (nI 33) (nI 126)) f_X7_in q_14_20 dX7_append_6 [] [0] rfl rfl (by decide) rfl rfl (Nat.le_of_ble_eq_true rfl) (by decide) (fun r_ w_ hp1 => ?_)
  obtain ⟨rfl, rfl⟩ := hp1
  show GG k _ _ [[((mo 0), .inr (7, [.int th, .ref (mo 1), .ref (mo 2), .int (nI sm), .ref (mo 3), .int (nI ln), .ref (mo 4), .int rm, .int fa, .ref (mo 5), .ref (mo 6), .int sp, .int wr, .long dd]))]] _ _ [.int (bI (inI x (nI 33) (nI 126))), .ref (mo 0)]
  refine g_if_neB (tgt := 16) X dX7_append_9 (by decide) (fun c9 => ?_) (fun c9 => ?_)
  · exact absurd c9 (by rw [inI_bdC hx]; decide)
  · refine g_iconst (x := nI 1) X dX7_append_12 (by decide +kernel) ?_
    refine g_goto (tgt := 30) X dX7_append_13 (by decide) ?_
    refine g_callV (As := [.int (nI 1)]) (rest := []) (wr := []) X (c_X7_holds l v mo th sm ln rm fa sp wr dd 1 (by omega)) f_X7_holds q_15_19 dX7_append_30 [0] [] rfl rfl (by decide) 0 rfl rfl rfl rfl (Nat.le_of_ble_eq_true rfl) (by decide) (fun r_ w_ hp2 => ?_)
    obtain ⟨rfl, rfl⟩ := hp2
    show GG k _ _ [[((mo 0), .inr (7, [.int (nI 1), .ref (mo 1), .ref (mo 2), .int (nI sm), .ref (mo 3), .int (nI ln), .ref (mo 4), .int rm, .int fa, .ref (mo 5), .ref (mo 6), .int sp, .int wr, .long dd]))]] _ _ [.int (nI 0)]
    refine g_if_neN (tgt := 38) X dX7_append_33 (by decide) (by omega) (fun c33 => ?_) (fun c33 => ?_)
    · exact absurd rfl c33
    · refine g_iconst (x := nI 0) X dX7_append_36 (by decide +kernel) ?_
      exact E dX7_append_37 rfl (rfl) (by decide) (by decide) (⟨rfl, rfl⟩)

set_option maxHeartbeats 4000000 in
set_option maxRecDepth 100000 in
theorem b1_X7_append (l : Launch) (v : VV) (mo : Nat → Nat) (th : Int32) (sm : Nat) (ln : Nat) (rm : Int32) (fa : Int32) (sp : Int32) (wr : Int32) (dd : Int64) (w : Nat) (hl : ln = 60) (hw1 : 33 ≤ w) (hw2 : w < 127) : MI l v yX7_append cX7_append 2 (some .int) ({ frames := 1, cells := 0, slots := 0, locals := 22 }) [.ref (mo 0), .int (nI w)] [[((mo 0), .inr (7, [.int th, .ref (mo 1), .ref (mo 2), .int (nI sm), .ref (mo 3), .int (nI ln), .ref (mo 4), .int rm, .int fa, .ref (mo 5), .ref (mo 6), .int sp, .int wr, .long dd]))]] (fun r w_ => r = nI 0 ∧ w_ = [[((mo 0), .inr (7, [.int (nI 2), .ref (mo 1), .ref (mo 2), .int (nI sm), .ref (mo 3), .int (nI ln), .ref (mo 4), .int rm, .int fa, .ref (mo 5), .ref (mo 6), .int sp, .int wr, .long dd]))]]) 0 0 := by
  refine mm_int (by decide) (Nat.le_of_ble_eq_true rfl) [(0, .ref (mo 0)), (1, .int (nI w))] rfl (fun k X E => ?_)
  refine g_aload_n X dX7_append_0 0 rfl rfl ?_
  refine g_iload_n X dX7_append_1 1 rfl rfl ?_
  refine g_bipush (x := nI 33) X dX7_append_2 (by decide +kernel) ?_
  refine g_bipush (x := nI 126) X dX7_append_4 (by decide +kernel) ?_
  refine g_callS (As := [.int (nI w), .int (nI 33), .int (nI 126)]) (rest := [.ref (mo 0)]) (wr := [[((mo 0), .inr (7, [.int th, .ref (mo 1), .ref (mo 2), .int (nI sm), .ref (mo 3), .int (nI ln), .ref (mo 4), .int rm, .int fa, .ref (mo 5), .ref (mo 6), .int sp, .int wr, .long dd]))]]) X (c_X7_in l v (nI w) (nI 33) (nI 126)) f_X7_in q_14_20 dX7_append_6 [] [0] rfl rfl (by decide) rfl rfl (Nat.le_of_ble_eq_true rfl) (by decide) (fun r_ w_ hp1 => ?_)
  rw [inI_N (by omega) (by omega) (by omega)] at hp1
  obtain ⟨rfl, rfl⟩ := hp1
  show GG k _ _ [[((mo 0), .inr (7, [.int th, .ref (mo 1), .ref (mo 2), .int (nI sm), .ref (mo 3), .int (nI ln), .ref (mo 4), .int rm, .int fa, .ref (mo 5), .ref (mo 6), .int sp, .int wr, .long dd]))]] _ _ [.int (bI (decide (33 ≤ w ∧ w ≤ 126))), .ref (mo 0)]
  refine g_if_neB (tgt := 16) X dX7_append_9 (by decide) (fun c9 => ?_) (fun c9 => ?_)
  · refine g_aload_n X dX7_append_16 0 rfl rfl ?_
    refine g_get X cb7 5 q_14_11 dX7_append_17 0 0 rfl rfl (by decide) rfl rfl ?_
    refine g_bipush (x := nI 60) X dX7_append_20 (by decide +kernel) ?_
    refine g_icmp_neN (tgt := 29) X dX7_append_22 (by decide) (by omega) (by omega) (fun c22 => ?_) (fun c22 => ?_)
    · omega
    · refine g_iconst (x := nI 2) X dX7_append_25 (by decide +kernel) ?_
      refine g_goto (tgt := 30) X dX7_append_26 (by decide) ?_
      refine g_callV (As := [.int (nI 2)]) (rest := []) (wr := []) X (c_X7_holds l v mo th sm ln rm fa sp wr dd 2 (by omega)) f_X7_holds q_15_19 dX7_append_30 [0] [] rfl rfl (by decide) 0 rfl rfl rfl rfl (Nat.le_of_ble_eq_true rfl) (by decide) (fun r_ w_ hp2 => ?_)
      obtain ⟨rfl, rfl⟩ := hp2
      show GG k _ _ [[((mo 0), .inr (7, [.int (nI 2), .ref (mo 1), .ref (mo 2), .int (nI sm), .ref (mo 3), .int (nI ln), .ref (mo 4), .int rm, .int fa, .ref (mo 5), .ref (mo 6), .int sp, .int wr, .long dd]))]] _ _ [.int (nI 0)]
      refine g_if_neN (tgt := 38) X dX7_append_33 (by decide) (by omega) (fun c33 => ?_) (fun c33 => ?_)
      · exact absurd rfl c33
      · refine g_iconst (x := nI 0) X dX7_append_36 (by decide +kernel) ?_
        exact E dX7_append_37 rfl (rfl) (by decide) (by decide) (⟨rfl, rfl⟩)
  · exact (of_decide_eq_false c9 ⟨by omega, by omega⟩).elim

set_option maxHeartbeats 4000000 in
set_option maxRecDepth 100000 in
theorem c_X7_firstError (l : Launch) (v : VV) (mo : Nat → Nat) (th : Int32) (sm : Nat) (ln : Nat) (rm : Int32) (fa : Int32) (sp : Int32) (wr : Int32) (dd : Int64) (tx : Nat → Nat) (ft : Nat → Int32) (fr : Nat → Int32) (hT : TxR tx ln ft) : MI l v yX7_firstError cX7_firstError 1 (some .int) ({ frames := 7, cells := 0, slots := 0, locals := 155 }) [.ref (mo 0)] [[((mo 0), .inr (7, [.int th, .ref (mo 1), .ref (mo 2), .int (nI sm), .ref (mo 3), .int (nI ln), .ref (mo 4), .int rm, .int fa, .ref (mo 5), .ref (mo 6), .int sp, .int wr, .long dd]))], cMt v mo ft, cMr v mo fr] (fun r w_ => ∃ fr' fa' wr', r = nI (pAll tx ln 12 0 []).2.1 ∧ w_ = [[((mo 0), .inr (7, [.int (nI 0), .ref (mo 1), .ref (mo 2), .int (nI sm), .ref (mo 3), .int (nI ln), .ref (mo 4), .int (nI ((pAll tx ln 12 0 []).2.2.length)), .int (nI fa'), .ref (mo 5), .ref (mo 6), .int (nI ((pAll tx ln 12 0 []).2.1)), .int wr', .long dd]))], cMt v mo ft, cMr v mo fr']) 0 0 := by
  refine mm_int (by decide) (Nat.le_of_ble_eq_true rfl) [(0, .ref (mo 0))] rfl (fun k X E => ?_)
  refine g_aload_n X dX7_firstError_0 0 rfl rfl ?_
  refine g_iconst (x := nI 0) X dX7_firstError_1 (by decide +kernel) ?_
  refine g_put (cs' := [[((mo 0), .inr (7, [.int (nI 0), .ref (mo 1), .ref (mo 2), .int (nI sm), .ref (mo 3), .int (nI ln), .ref (mo 4), .int rm, .int fa, .ref (mo 5), .ref (mo 6), .int sp, .int wr, .long dd]))], cMt v mo ft, cMr v mo fr]) X cb7 0 q_15_23 dX7_firstError_2 0 0 rfl rfl (by decide) rfl rfl (rfl) (rfl) (Nat.le_of_ble_eq_true rfl) rfl ?_
  refine g_aload_n X dX7_firstError_5 0 rfl rfl ?_
  refine g_callV (As := []) (rest := []) (wr := []) X (c_X7_reads l v mo (nI 0) sm ln rm fa sp wr dd tx ft fr hT) f_X7_reads q_14_5 dX7_firstError_6 [0, 1, 2] [] rfl rfl (by decide) 0 rfl rfl rfl rfl (Nat.le_of_ble_eq_true rfl) (by decide) (fun r_ w_ hp2 => ?_)
  obtain ⟨rd1, rd1f, rd1w, rfl, rd1R, rd1W, rd1F, rfl⟩ := hp2
  have hlr := rd1W.1
  have hfr := rd1F.1
  show GG k _ _ [[((mo 0), .inr (7, [.int (nI 0), .ref (mo 1), .ref (mo 2), .int (nI sm), .ref (mo 3), .int (nI ln), .ref (mo 4), .int (nI ((pAll tx ln 12 0 []).2.2.length)), .int (nI rd1f), .ref (mo 5), .ref (mo 6), .int (nI ((pAll tx ln 12 0 []).2.1)), .int rd1w, .long dd]))], cMt v mo ft, cMr v mo rd1] _ _ [.int (bI ((pAll tx ln 12 0 []).1))]
  refine g_if_eqB (tgt := 19) X dX7_firstError_9 (by decide) (fun c9 => ?_) (fun c9 => ?_)
  · refine g_aload_n X dX7_firstError_19 0 rfl rfl ?_
    refine g_get X cb7 11 q_14_9 dX7_firstError_20 0 0 rfl rfl (by decide) rfl rfl ?_
    exact E dX7_firstError_23 rfl (rfl) (by decide) (by decide) (⟨_, _, _, rfl, rfl⟩)
  · refine g_aload_n X dX7_firstError_12 0 rfl rfl ?_
    refine g_get X cb7 5 q_14_11 dX7_firstError_13 0 0 rfl rfl (by decide) rfl rfl ?_
    refine g_goto (tgt := 23) X dX7_firstError_16 (by decide) ?_
    exact E dX7_firstError_23 rfl (rfl) (by decide) (by decide) (⟨_, _, _, by rw [pAll_len _ _ _ c9], rfl⟩)

set_option maxHeartbeats 4000000 in
set_option maxRecDepth 100000 in
theorem c_X7_undo (l : Launch) (v : VV) (mo : Nat → Nat) (th : Int32) (sm : Nat) (ln : Nat) (rm : Int32) (fa : Int32) (sp : Int32) (wr : Int32) (dd : Int64) (fs : Nat → Int32) (fv : Nat → Int32) (H : Nat → HE9) (hH : HMR H sm fv) (hsm : 0 < sm) : MI l v yX7_undo cX7_undo 2 (some .int) ({ frames := 1, cells := 0, slots := 0, locals := 21 }) [.ref (mo 0)] [[((mo 0), .inr (7, [.int th, .ref (mo 1), .ref (mo 2), .int (nI sm), .ref (mo 3), .int (nI ln), .ref (mo 4), .int rm, .int fa, .ref (mo 5), .ref (mo 6), .int sp, .int wr, .long dd]))], cMs v mo fs, cMv v mo fv] (fun r w_ => ∃ fs', r = nI (sm - 1) ∧ SR (H (sm - 1)).1 (H (sm - 1)).2.1 (H (sm - 1)).2.2.1 (H (sm - 1)).2.2.2 fs' ∧ HMR H (sm - 1) fv ∧ w_ = [[((mo 0), .inr (7, [.int (nI 0), .ref (mo 1), .ref (mo 2), .int (nI (sm - 1)), .ref (mo 3), .int (nI ln), .ref (mo 4), .int rm, .int fa, .ref (mo 5), .ref (mo 6), .int sp, .int wr, .long dd]))], cMs v mo fs', cMv v mo fv]) 0 0 := by
  refine mm_int (by decide) (Nat.le_of_ble_eq_true rfl) [(0, .ref (mo 0))] rfl (fun k X E => ?_)
  have hc7 := hH.1
  refine g_aload_n X dX7_undo_0 0 rfl rfl ?_
  refine g_aload_n X dX7_undo_1 0 rfl rfl ?_
  refine g_get X cb7 3 q_16_4 dX7_undo_2 0 0 rfl rfl (by decide) rfl rfl ?_
  refine g_if_leN (tgt := 12) X dX7_undo_5 (by decide) (by omega) (fun c5 => ?_) (fun c5 => ?_)
  · omega
  · refine g_iconst (x := nI 0) X dX7_undo_8 (by decide +kernel) ?_
    refine g_goto (tgt := 13) X dX7_undo_9 (by decide) ?_
    refine g_callV (As := [.int (nI 0)]) (rest := []) (wr := [cMs v mo fs, cMv v mo fv]) X (c_X7_holds l v mo th sm ln rm fa sp wr dd 0 (by omega)) f_X7_holds q_15_19 dX7_undo_13 [0] [1, 2] rfl rfl (by decide) 0 rfl rfl rfl rfl (Nat.le_of_ble_eq_true rfl) (by decide) (fun r_ w_ hp1 => ?_)
    obtain ⟨rfl, rfl⟩ := hp1
    show GG k _ _ [[((mo 0), .inr (7, [.int (nI 0), .ref (mo 1), .ref (mo 2), .int (nI sm), .ref (mo 3), .int (nI ln), .ref (mo 4), .int rm, .int fa, .ref (mo 5), .ref (mo 6), .int sp, .int wr, .long dd]))], cMs v mo fs, cMv v mo fv] _ _ [.int (nI 1)]
    refine g_if_neN (tgt := 21) X dX7_undo_16 (by decide) (by omega) (fun c16 => ?_) (fun c16 => ?_)
    · refine g_aload_n X dX7_undo_21 0 rfl rfl ?_
      refine g_dup X dX7_undo_22 rfl ?_
      refine g_get X cb7 3 q_16_4 dX7_undo_23 0 0 rfl rfl (by decide) rfl rfl ?_
      refine g_iconst (x := nI 1) X dX7_undo_26 (by decide +kernel) ?_
      refine g_isubN X dX7_undo_27 (by omega) ?_
      refine g_put (cs' := [[((mo 0), .inr (7, [.int (nI 0), .ref (mo 1), .ref (mo 2), .int (nI (sm - 1)), .ref (mo 3), .int (nI ln), .ref (mo 4), .int rm, .int fa, .ref (mo 5), .ref (mo 6), .int sp, .int wr, .long dd]))], cMs v mo fs, cMv v mo fv]) X cb7 3 q_16_4 dX7_undo_28 0 0 rfl rfl (by decide) rfl rfl (rfl) (rfl) (Nat.le_of_ble_eq_true rfl) rfl ?_
      refine g_iconst (x := nI 0) X dX7_undo_31 (by decide +kernel) ?_
      refine g_istore_n (lv' := [(1, .int (nI 0)), (0, .ref (mo 0))]) X dX7_undo_32 rfl (by decide) rfl ?_
      have lp33 : ∀ (zN : Nat) (k9 : Nat) (fs' : Nat → Int32) (hk9 : k9 ≤ 67) (e1 : ∀ m, m < k9 → fs' m = fv (67 * (sm - 1) + m)) (zM : zN = 67 - k9), GG k 0 0 [[((mo 0), .inr (7, [.int (nI 0), .ref (mo 1), .ref (mo 2), .int (nI (sm - 1)), .ref (mo 3), .int (nI ln), .ref (mo 4), .int rm, .int fa, .ref (mo 5), .ref (mo 6), .int sp, .int wr, .long dd]))], cMs v mo fs', cMv v mo fv] [(1, .int (nI k9)), (0, .ref (mo 0))] 33 [] := by
        intro zN
        induction zN using Nat.strongRecOn with
        | _ zN zih =>
          have ih33 := zih
          clear zih
          intro k9 fs' hk9 e1 zM
          refine g_iload_n X dX7_undo_33 0 rfl rfl ?_
          refine g_bipush (x := nI 67) X dX7_undo_34 (by decide +kernel) ?_
          refine g_icmp_geN (tgt := 65) X dX7_undo_36 (by decide) (by omega) (by omega) (fun c36 => ?_) (fun c36 => ?_)
          · refine g_aload_n X dX7_undo_65 1 rfl rfl ?_
            refine g_get X cb7 3 q_16_4 dX7_undo_66 0 0 rfl rfl (by decide) rfl rfl ?_
            exact E dX7_undo_69 rfl (rfl) (by decide) (by decide) (⟨_, rfl, SR_cong (hH.2 (sm - 1) (by omega)).1.1 (hH.2 (sm - 1) (by omega)).2.2 (fun k hk => e1 k (by omega)), ⟨by omega, fun i hi => hH.2 i (by omega)⟩, rfl⟩)
          · refine g_aload_n X dX7_undo_39 1 rfl rfl ?_
            refine g_get X cb7 1 q_4_18 dX7_undo_40 0 0 rfl rfl (by decide) rfl rfl ?_
            refine g_iload_n X dX7_undo_43 0 rfl rfl ?_
            refine g_aload_n X dX7_undo_44 1 rfl rfl ?_
            refine g_get X cb7 2 q_4_19 dX7_undo_45 0 0 rfl rfl (by decide) rfl rfl ?_
            refine g_bipush (x := nI 67) X dX7_undo_48 (by decide +kernel) ?_
            refine g_aload_n X dX7_undo_50 1 rfl rfl ?_
            refine g_get X cb7 3 q_16_4 dX7_undo_51 0 0 rfl rfl (by decide) rfl rfl ?_
            refine g_imulN X dX7_undo_54 ?_
            refine g_iload_n X dX7_undo_55 0 rfl rfl ?_
            refine g_iaddN X dX7_undo_56 ?_
            refine g_iald X dX7_undo_57 2 0 rfl rfl (by omega) (by omega) ?_
            refine g_iast (cs' := [[((mo 0), .inr (7, [.int (nI 0), .ref (mo 1), .ref (mo 2), .int (nI (sm - 1)), .ref (mo 3), .int (nI ln), .ref (mo 4), .int rm, .int fa, .ref (mo 5), .ref (mo 6), .int sp, .int wr, .long dd]))], [((mo 1), .inl (v.2.1 0, 67, .inl (upd fs' k9 (fv ((67 * (sm - 1)) + k9)))))], cMv v mo fv]) X dX7_undo_58 1 0 rfl rfl (by omega) (by omega) rfl ?_
            refine g_iinc (y := nI (k9 + 1)) (lv' := [(1, .int (nI (k9 + 1))), (0, .ref (mo 0))]) (j := 0) X dX7_undo_59 rfl (nI_add k9 1) (by decide) rfl ?_
            refine g_goto (tgt := 33) X dX7_undo_62 (by decide) ?_
            exact ih33 _ (by omega) (k9 + 1) (upd fs' k9 (fv ((67 * (sm - 1)) + k9))) (by omega) (fun m hm => by by_cases z : m = k9; subst z; exact pk_us; exact (pk_un (by omega)).trans (e1 m (by omega))) rfl
      exact lp33 _ 0 fs (by omega) (fun m h => absurd h (Nat.not_lt_zero _)) rfl
    · exact absurd c16 (by decide)

set_option maxHeartbeats 4000000 in
set_option maxRecDepth 100000 in
theorem b_X7_undo (l : Launch) (v : VV) (mo : Nat → Nat) (th : Int32) (ln : Nat) (rm : Int32) (fa : Int32) (sp : Int32) (wr : Int32) (dd : Int64) : MI l v yX7_undo cX7_undo 2 (some .int) ({ frames := 1, cells := 0, slots := 0, locals := 21 }) [.ref (mo 0)] [[((mo 0), .inr (7, [.int th, .ref (mo 1), .ref (mo 2), .int (nI 0), .ref (mo 3), .int (nI ln), .ref (mo 4), .int rm, .int fa, .ref (mo 5), .ref (mo 6), .int sp, .int wr, .long dd]))]] (fun r w_ => r = nI 0 ∧ w_ = [[((mo 0), .inr (7, [.int (nI 1), .ref (mo 1), .ref (mo 2), .int (nI 0), .ref (mo 3), .int (nI ln), .ref (mo 4), .int rm, .int fa, .ref (mo 5), .ref (mo 6), .int sp, .int wr, .long dd]))]]) 0 0 := by
  refine mm_int (by decide) (Nat.le_of_ble_eq_true rfl) [(0, .ref (mo 0))] rfl (fun k X E => ?_)
  refine g_aload_n X dX7_undo_0 0 rfl rfl ?_
  refine g_aload_n X dX7_undo_1 0 rfl rfl ?_
  refine g_get X cb7 3 q_16_4 dX7_undo_2 0 0 rfl rfl (by decide) rfl rfl ?_
  refine g_if_leN (tgt := 12) X dX7_undo_5 (by decide) (by omega) (fun c5 => ?_) (fun c5 => ?_)
  · refine g_iconst (x := nI 1) X dX7_undo_12 (by decide +kernel) ?_
    refine g_callV (As := [.int (nI 1)]) (rest := []) (wr := []) X (c_X7_holds l v mo th 0 ln rm fa sp wr dd 1 (by omega)) f_X7_holds q_15_19 dX7_undo_13 [0] [] rfl rfl (by decide) 0 rfl rfl rfl rfl (Nat.le_of_ble_eq_true rfl) (by decide) (fun r_ w_ hp1 => ?_)
    obtain ⟨rfl, rfl⟩ := hp1
    show GG k _ _ [[((mo 0), .inr (7, [.int (nI 1), .ref (mo 1), .ref (mo 2), .int (nI 0), .ref (mo 3), .int (nI ln), .ref (mo 4), .int rm, .int fa, .ref (mo 5), .ref (mo 6), .int sp, .int wr, .long dd]))]] _ _ [.int (nI 0)]
    refine g_if_neN (tgt := 21) X dX7_undo_16 (by decide) (by omega) (fun c16 => ?_) (fun c16 => ?_)
    · exact absurd rfl c16
    · refine g_iconst (x := nI 0) X dX7_undo_19 (by decide +kernel) ?_
      exact E dX7_undo_20 rfl (rfl) (by decide) (by decide) (⟨rfl, rfl⟩)
  · exact absurd c5 (by decide)

