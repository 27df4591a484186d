/-! ## the model: the face, what changes nothing -/
set_option maxHeartbeats 4000000 in
set_option maxRecDepth 100000 in
theorem c_X7_statements (l : Launch) (v : VV) (mo : Nat → Nat) (th : Int32) (sm : Nat) (ln : Nat) (rm : Int32) (fa : Int32) (sp : Int32) (wr : Int32) (dd : Int64) (P : Nat → S9) (n : Nat) (lo : Nat → Nat) (hi : Nat → Nat) (fs : Nat → Int32) (hW : WF P n) (hS : SR P n lo hi fs) : MI l v yX7_statements cX7_statements 1 (some .int) ({ frames := 0, cells := 0, slots := 0, locals := 0 }) [.ref (mo 0)] [[((mo 0), .inr (7, [.int th, .ref (mo 1), .ref (mo 2), .int (nI sm), .ref (mo 3), .int (nI ln), .ref (mo 4), .int rm, .int fa, .ref (mo 5), .ref (mo 6), .int sp, .int wr, .long dd]))], cMs v mo fs] (fun r w_ => r = nI n ∧ w_ = [[((mo 0), .inr (7, [.int (nI 0), .ref (mo 1), .ref (mo 2), .int (nI sm), .ref (mo 3), .int (nI ln), .ref (mo 4), .int rm, .int fa, .ref (mo 5), .ref (mo 6), .int sp, .int wr, .long dd]))], cMs v mo fs]) 0 0 := by
  refine mm_int (by decide) (Nat.le_of_ble_eq_true rfl) [(0, .ref (mo 0))] rfl (fun k X E => ?_)
  have hn12 := hW.1
  refine g_aload_n X dX7_statements_0 0 rfl rfl ?_
  refine g_iconst (x := nI 0) X dX7_statements_1 (by decide +kernel) ?_
  refine g_put (cs' := [[((mo 0), .inr (7, [.int (nI 0), .ref (mo 1), .ref (mo 2), .int (nI sm), .ref (mo 3), .int (nI ln), .ref (mo 4), .int rm, .int fa, .ref (mo 5), .ref (mo 6), .int sp, .int wr, .long dd]))], cMs v mo fs]) X cb7 0 q_15_23 dX7_statements_2 0 0 rfl rfl (by decide) rfl rfl (rfl) (rfl) (Nat.le_of_ble_eq_true rfl) rfl ?_
  refine g_aload_n X dX7_statements_5 0 rfl rfl ?_
  refine g_get X cb7 1 q_4_18 dX7_statements_6 0 0 rfl rfl (by decide) rfl rfl ?_
  refine g_iconst (x := nI 0) X dX7_statements_9 (by decide +kernel) ?_
  refine g_iald X dX7_statements_10 1 0 rfl rfl (by omega) (by omega) ?_
  exact E dX7_statements_11 rfl (rfl) (by decide) (by decide) (⟨hS.1, rfl⟩)

set_option maxHeartbeats 4000000 in
set_option maxRecDepth 100000 in
theorem c_X7_kind (l : Launch) (v : VV) (mo : Nat → Nat) (th : Int32) (sm : Nat) (ln : Nat) (rm : Int32) (fa : Int32) (sp : Int32) (wr : Int32) (dd : Int64) (P : Nat → S9) (n : Nat) (lo : Nat → Nat) (hi : Nat → Nat) (fs : Nat → Int32) (i : Nat) (hW : WF P n) (hS : SR P n lo hi fs) (hi9 : i < n) : MI l v yX7_kind cX7_kind 2 (some .int) ({ frames := 2, cells := 0, slots := 0, locals := 43 }) [.ref (mo 0), .int (nI i)] [[((mo 0), .inr (7, [.int th, .ref (mo 1), .ref (mo 2), .int (nI sm), .ref (mo 3), .int (nI ln), .ref (mo 4), .int rm, .int fa, .ref (mo 5), .ref (mo 6), .int sp, .int wr, .long dd]))], cMs v mo fs] (fun r w_ => r = nI (P i).1 ∧ w_ = [[((mo 0), .inr (7, [.int (nI 0), .ref (mo 1), .ref (mo 2), .int (nI sm), .ref (mo 3), .int (nI ln), .ref (mo 4), .int rm, .int fa, .ref (mo 5), .ref (mo 6), .int sp, .int wr, .long dd]))], cMs v mo fs]) 0 0 := by
  refine mm_int (by decide) (Nat.le_of_ble_eq_true rfl) [(0, .ref (mo 0)), (1, .int (nI i))] rfl (fun k X E => ?_)
  have hn12 := hW.1
  refine g_aload_n X dX7_kind_0 0 rfl rfl ?_
  refine g_aload_n X dX7_kind_1 0 rfl rfl ?_
  refine g_iload_n X dX7_kind_2 1 rfl rfl ?_
  refine g_callV (As := [.int (nI i)]) (rest := [.ref (mo 0)]) (wr := []) X (c_X7_isStatement l v mo th sm ln rm fa sp wr dd P n lo hi fs i hW hS (by omega)) f_X7_isStatement q_19_3 dX7_kind_3 [0, 1] [] rfl rfl (by decide) 0 rfl rfl rfl rfl (Nat.le_of_ble_eq_true rfl) (by decide) (fun r_ w_ hp1 => ?_)
  obtain ⟨rfl, rfl⟩ := hp1
  show GG k _ _ [[((mo 0), .inr (7, [.int th, .ref (mo 1), .ref (mo 2), .int (nI sm), .ref (mo 3), .int (nI ln), .ref (mo 4), .int rm, .int fa, .ref (mo 5), .ref (mo 6), .int sp, .int wr, .long dd]))], cMs v mo fs] _ _ [.int (nI 1), .ref (mo 0)]
  refine g_if_eqN (tgt := 13) X dX7_kind_6 (by decide) (by omega) (fun c6 => ?_) (fun c6 => ?_)
  · exact absurd c6 (by decide)
  · refine g_iconst (x := nI 0) X dX7_kind_9 (by decide +kernel) ?_
    refine g_goto (tgt := 14) X dX7_kind_10 (by decide) ?_
    refine g_callV (As := [.int (nI 0)]) (rest := []) (wr := [cMs v mo fs]) X (c_X7_holds l v mo th sm ln rm fa sp wr dd 0 (by omega)) f_X7_holds q_15_19 dX7_kind_14 [0] [1] rfl rfl (by decide) 0 rfl rfl rfl rfl (Nat.le_of_ble_eq_true rfl) (by decide) (fun r_ w_ hp2 => ?_)
    obtain ⟨rfl, rfl⟩ := hp2
    show GG k _ _ [[((mo 0), .inr (7, [.int (nI 0), .ref (mo 1), .ref (mo 2), .int (nI sm), .ref (mo 3), .int (nI ln), .ref (mo 4), .int rm, .int fa, .ref (mo 5), .ref (mo 6), .int sp, .int wr, .long dd]))], cMs v mo fs] _ _ [.int (nI 1)]
    refine g_if_eqN (tgt := 33) X dX7_kind_17 (by decide) (by omega) (fun c17 => ?_) (fun c17 => ?_)
    · exact absurd c17 (by decide)
    · refine g_aload_n X dX7_kind_20 0 rfl rfl ?_
      refine g_get X cb7 1 q_4_18 dX7_kind_21 0 0 rfl rfl (by decide) rfl rfl ?_
      refine g_iload_n X dX7_kind_24 1 rfl rfl ?_
      refine g_iconst (x := nI 0) X dX7_kind_25 (by decide +kernel) ?_
      refine g_callS (As := [.int (nI i), .int (nI 0)]) (rest := [.ref (mo 1)]) (wr := [[((mo 0), .inr (7, [.int (nI 0), .ref (mo 1), .ref (mo 2), .int (nI sm), .ref (mo 3), .int (nI ln), .ref (mo 4), .int rm, .int fa, .ref (mo 5), .ref (mo 6), .int sp, .int wr, .long dd]))], cMs v mo fs]) X (c_X7_of l v i 0) f_X7_of q_17_23 dX7_kind_26 [] [0, 1] rfl rfl (by decide) rfl rfl (Nat.le_of_ble_eq_true rfl) (by decide) (fun r_ w_ hp3 => ?_)
      obtain ⟨rfl, rfl⟩ := hp3
      show GG k _ _ [[((mo 0), .inr (7, [.int (nI 0), .ref (mo 1), .ref (mo 2), .int (nI sm), .ref (mo 3), .int (nI ln), .ref (mo 4), .int rm, .int fa, .ref (mo 5), .ref (mo 6), .int sp, .int wr, .long dd]))], cMs v mo fs] _ _ [.int (nI (1 + 5 * i + 0)), .ref (mo 1)]
      refine g_iald X dX7_kind_29 1 0 rfl rfl (by omega) (by omega) ?_
      refine g_goto (tgt := 34) X dX7_kind_30 (by decide) ?_
      exact E dX7_kind_34 rfl (rfl) (by decide) (by decide) (⟨(hS.2.1 i hi9).1, rfl⟩)

set_option maxHeartbeats 4000000 in
set_option maxRecDepth 100000 in
theorem c_X7_target (l : Launch) (v : VV) (mo : Nat → Nat) (th : Int32) (sm : Nat) (ln : Nat) (rm : Int32) (fa : Int32) (sp : Int32) (wr : Int32) (dd : Int64) (P : Nat → S9) (n : Nat) (lo : Nat → Nat) (hi : Nat → Nat) (fs : Nat → Int32) (i : Nat) (hW : WF P n) (hS : SR P n lo hi fs) (hi9 : i < n) : MI l v yX7_target cX7_target 2 (some .int) ({ frames := 2, cells := 0, slots := 0, locals := 43 }) [.ref (mo 0), .int (nI i)] [[((mo 0), .inr (7, [.int th, .ref (mo 1), .ref (mo 2), .int (nI sm), .ref (mo 3), .int (nI ln), .ref (mo 4), .int rm, .int fa, .ref (mo 5), .ref (mo 6), .int sp, .int wr, .long dd]))], cMs v mo fs] (fun r w_ => r = zI (tg9 (P i)) ∧ w_ = [[((mo 0), .inr (7, [.int (nI 0), .ref (mo 1), .ref (mo 2), .int (nI sm), .ref (mo 3), .int (nI ln), .ref (mo 4), .int rm, .int fa, .ref (mo 5), .ref (mo 6), .int sp, .int wr, .long dd]))], cMs v mo fs]) 0 0 := by
  refine mm_int (by decide) (Nat.le_of_ble_eq_true rfl) [(0, .ref (mo 0)), (1, .int (nI i))] rfl (fun k X E => ?_)
  have hn12 := hW.1
  refine g_aload_n X dX7_target_0 0 rfl rfl ?_
  refine g_aload_n X dX7_target_1 0 rfl rfl ?_
  refine g_iload_n X dX7_target_2 1 rfl rfl ?_
  refine g_callV (As := [.int (nI i)]) (rest := [.ref (mo 0)]) (wr := []) X (c_X7_isStatement l v mo th sm ln rm fa sp wr dd P n lo hi fs i hW hS (by omega)) f_X7_isStatement q_19_3 dX7_target_3 [0, 1] [] rfl rfl (by decide) 0 rfl rfl rfl rfl (Nat.le_of_ble_eq_true rfl) (by decide) (fun r_ w_ hp1 => ?_)
  obtain ⟨rfl, rfl⟩ := hp1
  show GG k _ _ [[((mo 0), .inr (7, [.int th, .ref (mo 1), .ref (mo 2), .int (nI sm), .ref (mo 3), .int (nI ln), .ref (mo 4), .int rm, .int fa, .ref (mo 5), .ref (mo 6), .int sp, .int wr, .long dd]))], cMs v mo fs] _ _ [.int (nI 1), .ref (mo 0)]
  refine g_if_eqN (tgt := 13) X dX7_target_6 (by decide) (by omega) (fun c6 => ?_) (fun c6 => ?_)
  · exact absurd c6 (by decide)
  · refine g_iconst (x := nI 0) X dX7_target_9 (by decide +kernel) ?_
    refine g_goto (tgt := 14) X dX7_target_10 (by decide) ?_
    refine g_callV (As := [.int (nI 0)]) (rest := []) (wr := [cMs v mo fs]) X (c_X7_holds l v mo th sm ln rm fa sp wr dd 0 (by omega)) f_X7_holds q_15_19 dX7_target_14 [0] [1] rfl rfl (by decide) 0 rfl rfl rfl rfl (Nat.le_of_ble_eq_true rfl) (by decide) (fun r_ w_ hp2 => ?_)
    obtain ⟨rfl, rfl⟩ := hp2
    show GG k _ _ [[((mo 0), .inr (7, [.int (nI 0), .ref (mo 1), .ref (mo 2), .int (nI sm), .ref (mo 3), .int (nI ln), .ref (mo 4), .int rm, .int fa, .ref (mo 5), .ref (mo 6), .int sp, .int wr, .long dd]))], cMs v mo fs] _ _ [.int (nI 1)]
    refine g_if_eqN (tgt := 28) X dX7_target_17 (by decide) (by omega) (fun c17 => ?_) (fun c17 => ?_)
    · exact absurd c17 (by decide)
    · refine g_aload_n X dX7_target_20 0 rfl rfl ?_
      refine g_iload_n X dX7_target_21 1 rfl rfl ?_
      refine g_callV (As := [.int (nI i)]) (rest := []) (wr := []) X (c_X7_targetOf l v mo (nI 0) sm ln rm fa sp wr dd P n lo hi fs i hW hS (by omega)) f_X7_targetOf q_19_18 dX7_target_22 [0, 1] [] rfl rfl (by decide) 0 rfl rfl rfl rfl (Nat.le_of_ble_eq_true rfl) (by decide) (fun r_ w_ hp3 => ?_)
      obtain ⟨rfl, rfl⟩ := hp3
      show GG k _ _ [[((mo 0), .inr (7, [.int (nI 0), .ref (mo 1), .ref (mo 2), .int (nI sm), .ref (mo 3), .int (nI ln), .ref (mo 4), .int rm, .int fa, .ref (mo 5), .ref (mo 6), .int sp, .int wr, .long dd]))], cMs v mo fs] _ _ [.int (zI (tg9 (P i)))]
      refine g_goto (tgt := 29) X dX7_target_25 (by decide) ?_
      exact E dX7_target_29 rfl (rfl) (by decide) (by decide) (⟨rfl, rfl⟩)

set_option maxHeartbeats 4000000 in
set_option maxRecDepth 100000 in
theorem b_X7_kind (l : Launch) (v : VV) (mo : Nat → Nat) (th : Int32) (sm : Nat) (ln : Nat) (rm : Int32) (fa : Int32) (sp : Int32) (wr : Int32) (dd : Int64) (P : Nat → S9) (n : Nat) (lo : Nat → Nat) (hi : Nat → Nat) (fs : Nat → Int32) (x : Int32) (hW : WF P n) (hS : SR P n lo hi fs) (hx : bdI x n) : MI l v yX7_kind cX7_kind 2 (some .int) ({ frames := 2, cells := 0, slots := 0, locals := 43 }) [.ref (mo 0), .int x] [[((mo 0), .inr (7, [.int th, .ref (mo 1), .ref (mo 2), .int (nI sm), .ref (mo 3), .int (nI ln), .ref (mo 4), .int rm, .int fa, .ref (mo 5), .ref (mo 6), .int sp, .int wr, .long dd]))], cMs v mo fs] (fun r w_ => r = nI 0 ∧ w_ = [[((mo 0), .inr (7, [.int (nI 1), .ref (mo 1), .ref (mo 2), .int (nI sm), .ref (mo 3), .int (nI ln), .ref (mo 4), .int rm, .int fa, .ref (mo 5), .ref (mo 6), .int sp, .int wr, .long dd]))], cMs v mo fs]) 0 0 := by
  refine mm_int (by decide) (Nat.le_of_ble_eq_true rfl) [(0, .ref (mo 0)), (1, .int x)] rfl (fun k X E => ?_)
  have hn12 := hW.1
  refine g_aload_n X dX7_kind_0 0 rfl rfl ?_
  refine g_aload_n X dX7_kind_1 0 rfl rfl ?_
  refine g_iload_n X dX7_kind_2 1 rfl rfl ?_
  refine g_callV (As := [.int x]) (rest := [.ref (mo 0)]) (wr := []) X (b_X7_isStatement l v mo th sm ln rm fa sp wr dd P n lo hi fs x hW hS hx) f_X7_isStatement q_19_3 dX7_kind_3 [0, 1] [] rfl rfl (by decide) 0 rfl rfl rfl rfl (Nat.le_of_ble_eq_true rfl) (by decide) (fun r_ w_ hp1 => ?_)
  obtain ⟨rfl, rfl⟩ := hp1
  show GG k _ _ [[((mo 0), .inr (7, [.int th, .ref (mo 1), .ref (mo 2), .int (nI sm), .ref (mo 3), .int (nI ln), .ref (mo 4), .int rm, .int fa, .ref (mo 5), .ref (mo 6), .int sp, .int wr, .long dd]))], cMs v mo fs] _ _ [.int (nI 0), .ref (mo 0)]
  refine g_if_eqN (tgt := 13) X dX7_kind_6 (by decide) (by omega) (fun c6 => ?_) (fun c6 => ?_)
  · refine g_iconst (x := nI 1) X dX7_kind_13 (by decide +kernel) ?_
    refine g_callV (As := [.int (nI 1)]) (rest := []) (wr := [cMs v mo fs]) X (c_X7_holds l v mo th sm ln rm fa sp wr dd 1 (by omega)) f_X7_holds q_15_19 dX7_kind_14 [0] [1] rfl rfl (by decide) 0 rfl rfl rfl rfl (Nat.le_of_ble_eq_true rfl) (by decide) (fun r_ w_ hp2 => ?_)
    obtain ⟨rfl, rfl⟩ := hp2
    show GG k _ _ [[((mo 0), .inr (7, [.int (nI 1), .ref (mo 1), .ref (mo 2), .int (nI sm), .ref (mo 3), .int (nI ln), .ref (mo 4), .int rm, .int fa, .ref (mo 5), .ref (mo 6), .int sp, .int wr, .long dd]))], cMs v mo fs] _ _ [.int (nI 0)]
    refine g_if_eqN (tgt := 33) X dX7_kind_17 (by decide) (by omega) (fun c17 => ?_) (fun c17 => ?_)
    · refine g_iconst (x := nI 0) X dX7_kind_33 (by decide +kernel) ?_
      exact E dX7_kind_34 rfl (rfl) (by decide) (by decide) (⟨rfl, rfl⟩)
    · exact absurd rfl c17
  · exact absurd rfl c6

set_option maxHeartbeats 4000000 in
set_option maxRecDepth 100000 in
theorem b_X7_target (l : Launch) (v : VV) (mo : Nat → Nat) (th : Int32) (sm : Nat) (ln : Nat) (rm : Int32) (fa : Int32) (sp : Int32) (wr : Int32) (dd : Int64) (P : Nat → S9) (n : Nat) (lo : Nat → Nat) (hi : Nat → Nat) (fs : Nat → Int32) (x : Int32) (hW : WF P n) (hS : SR P n lo hi fs) (hx : bdI x n) : MI l v yX7_target cX7_target 2 (some .int) ({ frames := 2, cells := 0, slots := 0, locals := 43 }) [.ref (mo 0), .int x] [[((mo 0), .inr (7, [.int th, .ref (mo 1), .ref (mo 2), .int (nI sm), .ref (mo 3), .int (nI ln), .ref (mo 4), .int rm, .int fa, .ref (mo 5), .ref (mo 6), .int sp, .int wr, .long dd]))], cMs v mo fs] (fun r w_ => r = nI 0 ∧ w_ = [[((mo 0), .inr (7, [.int (nI 1), .ref (mo 1), .ref (mo 2), .int (nI sm), .ref (mo 3), .int (nI ln), .ref (mo 4), .int rm, .int fa, .ref (mo 5), .ref (mo 6), .int sp, .int wr, .long dd]))], cMs v mo fs]) 0 0 := by
  refine mm_int (by decide) (Nat.le_of_ble_eq_true rfl) [(0, .ref (mo 0)), (1, .int x)] rfl (fun k X E => ?_)
  have hn12 := hW.1
  refine g_aload_n X dX7_target_0 0 rfl rfl ?_
  refine g_aload_n X dX7_target_1 0 rfl rfl ?_
  refine g_iload_n X dX7_target_2 1 rfl rfl ?_
  refine g_callV (As := [.int x]) (rest := [.ref (mo 0)]) (wr := []) X (b_X7_isStatement l v mo th sm ln rm fa sp wr dd P n lo hi fs x hW hS hx) f_X7_isStatement q_19_3 dX7_target_3 [0, 1] [] rfl rfl (by decide) 0 rfl rfl rfl rfl (Nat.le_of_ble_eq_true rfl) (by decide) (fun r_ w_ hp1 => ?_)
  obtain ⟨rfl, rfl⟩ := hp1
  show GG k _ _ [[((mo 0), .inr (7, [.int th, .ref (mo 1), .ref (mo 2), .int (nI sm), .ref (mo 3), .int (nI ln), .ref (mo 4), .int rm, .int fa, .ref (mo 5), .ref (mo 6), .int sp, .int wr, .long dd]))], cMs v mo fs] _ _ [.int (nI 0), .ref (mo 0)]
  refine g_if_eqN (tgt := 13) X dX7_target_6 (by decide) (by omega) (fun c6 => ?_) (fun c6 => ?_)
  · refine g_iconst (x := nI 1) X dX7_target_13 (by decide +kernel) ?_
    refine g_callV (As := [.int (nI 1)]) (rest := []) (wr := [cMs v mo fs]) X (c_X7_holds l v mo th sm ln rm fa sp wr dd 1 (by omega)) f_X7_holds q_15_19 dX7_target_14 [0] [1] rfl rfl (by decide) 0 rfl rfl rfl rfl (Nat.le_of_ble_eq_true rfl) (by decide) (fun r_ w_ hp2 => ?_)
    obtain ⟨rfl, rfl⟩ := hp2
    show GG k _ _ [[((mo 0), .inr (7, [.int (nI 1), .ref (mo 1), .ref (mo 2), .int (nI sm), .ref (mo 3), .int (nI ln), .ref (mo 4), .int rm, .int fa, .ref (mo 5), .ref (mo 6), .int sp, .int wr, .long dd]))], cMs v mo fs] _ _ [.int (nI 0)]
    refine g_if_eqN (tgt := 28) X dX7_target_17 (by decide) (by omega) (fun c17 => ?_) (fun c17 => ?_)
    · refine g_iconst (x := nI 0) X dX7_target_28 (by decide +kernel) ?_
      exact E dX7_target_29 rfl (rfl) (by decide) (by decide) (⟨rfl, rfl⟩)
    · exact absurd rfl c17
  · exact absurd rfl c6

set_option maxHeartbeats 4000000 in
set_option maxRecDepth 100000 in
theorem b_X7_verdict (l : Launch) (v : VV) (mo : Nat → Nat) (th : Int32) (sm : Nat) (ln : Nat) (rm : Int32) (fa : Int32) (sp : Int32) (wr : Int32) (dd : Int64) (P : Nat → S9) (n : Nat) (lo : Nat → Nat) (hi : Nat → Nat) (fs : Nat → Int32) (x : Int32) (hW : WF P n) (hS : SR P n lo hi fs) (hx : bdI x n) : MI l v yX7_verdict cX7_verdict 2 (some .int) ({ frames := 2, cells := 0, slots := 0, locals := 43 }) [.ref (mo 0), .int x] [[((mo 0), .inr (7, [.int th, .ref (mo 1), .ref (mo 2), .int (nI sm), .ref (mo 3), .int (nI ln), .ref (mo 4), .int rm, .int fa, .ref (mo 5), .ref (mo 6), .int sp, .int wr, .long dd]))], cMs v mo fs] (fun r w_ => r = nI 0 ∧ w_ = [[((mo 0), .inr (7, [.int (nI 1), .ref (mo 1), .ref (mo 2), .int (nI sm), .ref (mo 3), .int (nI ln), .ref (mo 4), .int rm, .int fa, .ref (mo 5), .ref (mo 6), .int sp, .int wr, .long dd]))], cMs v mo fs]) 0 0 := by
  refine mm_int (by decide) (Nat.le_of_ble_eq_true rfl) [(0, .ref (mo 0)), (1, .int x)] rfl (fun k X E => ?_)
  have hn12 := hW.1
  refine g_aload_n X dX7_verdict_0 0 rfl rfl ?_
  refine g_aload_n X dX7_verdict_1 0 rfl rfl ?_
  refine g_iload_n X dX7_verdict_2 1 rfl rfl ?_
  refine g_callV (As := [.int x]) (rest := [.ref (mo 0)]) (wr := []) X (b_X7_isStatement l v mo th sm ln rm fa sp wr dd P n lo hi fs x hW hS hx) f_X7_isStatement q_19_3 dX7_verdict_3 [0, 1] [] rfl rfl (by decide) 0 rfl rfl rfl rfl (Nat.le_of_ble_eq_true rfl) (by decide) (fun r_ w_ hp1 => ?_)
  obtain ⟨rfl, rfl⟩ := hp1
  show GG k _ _ [[((mo 0), .inr (7, [.int th, .ref (mo 1), .ref (mo 2), .int (nI sm), .ref (mo 3), .int (nI ln), .ref (mo 4), .int rm, .int fa, .ref (mo 5), .ref (mo 6), .int sp, .int wr, .long dd]))], cMs v mo fs] _ _ [.int (nI 0), .ref (mo 0)]
  refine g_if_eqN (tgt := 13) X dX7_verdict_6 (by decide) (by omega) (fun c6 => ?_) (fun c6 => ?_)
  · refine g_iconst (x := nI 1) X dX7_verdict_13 (by decide +kernel) ?_
    refine g_callV (As := [.int (nI 1)]) (rest := []) (wr := [cMs v mo fs]) X (c_X7_holds l v mo th sm ln rm fa sp wr dd 1 (by omega)) f_X7_holds q_15_19 dX7_verdict_14 [0] [1] rfl rfl (by decide) 0 rfl rfl rfl rfl (Nat.le_of_ble_eq_true rfl) (by decide) (fun r_ w_ hp2 => ?_)
    obtain ⟨rfl, rfl⟩ := hp2
    show GG k _ _ [[((mo 0), .inr (7, [.int (nI 1), .ref (mo 1), .ref (mo 2), .int (nI sm), .ref (mo 3), .int (nI ln), .ref (mo 4), .int rm, .int fa, .ref (mo 5), .ref (mo 6), .int sp, .int wr, .long dd]))], cMs v mo fs] _ _ [.int (nI 0)]
    refine g_if_neN (tgt := 22) X dX7_verdict_17 (by decide) (by omega) (fun c17 => ?_) (fun c17 => ?_)
    · exact absurd rfl c17
    · refine g_iconst (x := nI 0) X dX7_verdict_20 (by decide +kernel) ?_
      exact E dX7_verdict_21 rfl (rfl) (by decide) (by decide) (⟨rfl, rfl⟩)
  · exact absurd rfl c6

set_option maxHeartbeats 4000000 in
set_option maxRecDepth 100000 in
theorem b_X7_example (l : Launch) (v : VV) (mo : Nat → Nat) (th : Int32) (sm : Nat) (ln : Nat) (rm : Int32) (fa : Int32) (sp : Int32) (wr : Int32) (dd : Int64) (P : Nat → S9) (n : Nat) (lo : Nat → Nat) (hi : Nat → Nat) (fs : Nat → Int32) (x : Int32) (hW : WF P n) (hS : SR P n lo hi fs) (hx : bdI x n) : MI l v yX7_example cX7_example 2 (some .int) ({ frames := 2, cells := 0, slots := 0, locals := 43 }) [.ref (mo 0), .int x] [[((mo 0), .inr (7, [.int th, .ref (mo 1), .ref (mo 2), .int (nI sm), .ref (mo 3), .int (nI ln), .ref (mo 4), .int rm, .int fa, .ref (mo 5), .ref (mo 6), .int sp, .int wr, .long dd]))], cMs v mo fs] (fun r w_ => r = nI 0 ∧ w_ = [[((mo 0), .inr (7, [.int (nI 1), .ref (mo 1), .ref (mo 2), .int (nI sm), .ref (mo 3), .int (nI ln), .ref (mo 4), .int rm, .int fa, .ref (mo 5), .ref (mo 6), .int sp, .int wr, .long dd]))], cMs v mo fs]) 0 0 := by
  refine mm_int (by decide) (Nat.le_of_ble_eq_true rfl) [(0, .ref (mo 0)), (1, .int x)] rfl (fun k X E => ?_)
  have hn12 := hW.1
  refine g_aload_n X dX7_example_0 0 rfl rfl ?_
  refine g_aload_n X dX7_example_1 0 rfl rfl ?_
  refine g_iload_n X dX7_example_2 1 rfl rfl ?_
  refine g_callV (As := [.int x]) (rest := [.ref (mo 0)]) (wr := []) X (b_X7_isStatement l v mo th sm ln rm fa sp wr dd P n lo hi fs x hW hS hx) f_X7_isStatement q_19_3 dX7_example_3 [0, 1] [] rfl rfl (by decide) 0 rfl rfl rfl rfl (Nat.le_of_ble_eq_true rfl) (by decide) (fun r_ w_ hp1 => ?_)
  obtain ⟨rfl, rfl⟩ := hp1
  show GG k _ _ [[((mo 0), .inr (7, [.int th, .ref (mo 1), .ref (mo 2), .int (nI sm), .ref (mo 3), .int (nI ln), .ref (mo 4), .int rm, .int fa, .ref (mo 5), .ref (mo 6), .int sp, .int wr, .long dd]))], cMs v mo fs] _ _ [.int (nI 0), .ref (mo 0)]
  refine g_if_eqN (tgt := 13) X dX7_example_6 (by decide) (by omega) (fun c6 => ?_) (fun c6 => ?_)
  · refine g_iconst (x := nI 1) X dX7_example_13 (by decide +kernel) ?_
    refine g_callV (As := [.int (nI 1)]) (rest := []) (wr := [cMs v mo fs]) X (c_X7_holds l v mo th sm ln rm fa sp wr dd 1 (by omega)) f_X7_holds q_15_19 dX7_example_14 [0] [1] rfl rfl (by decide) 0 rfl rfl rfl rfl (Nat.le_of_ble_eq_true rfl) (by decide) (fun r_ w_ hp2 => ?_)
    obtain ⟨rfl, rfl⟩ := hp2
    show GG k _ _ [[((mo 0), .inr (7, [.int (nI 1), .ref (mo 1), .ref (mo 2), .int (nI sm), .ref (mo 3), .int (nI ln), .ref (mo 4), .int rm, .int fa, .ref (mo 5), .ref (mo 6), .int sp, .int wr, .long dd]))], cMs v mo fs] _ _ [.int (nI 0)]
    refine g_if_neN (tgt := 22) X dX7_example_17 (by decide) (by omega) (fun c17 => ?_) (fun c17 => ?_)
    · exact absurd rfl c17
    · refine g_iconst (x := nI 0) X dX7_example_20 (by decide +kernel) ?_
      exact E dX7_example_21 rfl (rfl) (by decide) (by decide) (⟨rfl, rfl⟩)
  · exact absurd rfl c6

set_option maxHeartbeats 4000000 in
set_option maxRecDepth 100000 in
theorem c_X7_run (l : Launch) (v : VV) (mo : Nat → Nat) (th : Int32) (sm : Nat) (ln : Nat) (rm : Int32) (fa : Int32) (sp : Int32) (wr : Int32) (dd : Int64) (P : Nat → S9) (n : Nat) (lo : Nat → Nat) (hi : Nat → Nat) (fs : Nat → Int32) (fe : Nat → Int32) (x : Nat) (y : Nat) (z : Nat) (hW : WF P n) (hS : SR P n lo hi fs) (hx : x < 8) (hy : y < 8) (hz : z < 8) : MI l v yX7_run cX7_run 4 (some .int) ({ frames := 6, cells := 0, slots := 0, locals := 138 }) [.ref (mo 0), .int (nI x), .int (nI y), .int (nI z)] [[((mo 0), .inr (7, [.int th, .ref (mo 1), .ref (mo 2), .int (nI sm), .ref (mo 3), .int (nI ln), .ref (mo 4), .int rm, .int fa, .ref (mo 5), .ref (mo 6), .int sp, .int wr, .long dd]))], cMs v mo fs, cMe v mo fe] (fun r w_ => ∃ fe', r = zI (EE P n (64 * x + 8 * y + z)) ∧ w_ = [[((mo 0), .inr (7, [.int (nI 0), .ref (mo 1), .ref (mo 2), .int (nI sm), .ref (mo 3), .int (nI ln), .ref (mo 4), .int rm, .int fa, .ref (mo 5), .ref (mo 6), .int sp, .int wr, .long dd]))], cMs v mo fs, cMe v mo fe']) 0 0 := by
  refine mm_int (by decide) (Nat.le_of_ble_eq_true rfl) [(0, .ref (mo 0)), (1, .int (nI x)), (2, .int (nI y)), (3, .int (nI z))] rfl (fun k X E => ?_)
  have hn12 := hW.1
  refine g_aload_n X dX7_run_0 0 rfl rfl ?_
  refine g_iload_n X dX7_run_1 1 rfl rfl ?_
  refine g_iload_n X dX7_run_2 2 rfl rfl ?_
  refine g_iload_n X dX7_run_3 3 rfl rfl ?_
  refine g_callS (As := [.int (nI x), .int (nI y), .int (nI z)]) (rest := [.ref (mo 0)]) (wr := [[((mo 0), .inr (7, [.int th, .ref (mo 1), .ref (mo 2), .int (nI sm), .ref (mo 3), .int (nI ln), .ref (mo 4), .int rm, .int fa, .ref (mo 5), .ref (mo 6), .int sp, .int wr, .long dd]))], cMs v mo fs, cMe v mo fe]) X (c_X7_areValues l v x y z (by omega) (by omega) (by omega)) f_X7_areValues q_22_7 dX7_run_4 [] [0, 1, 2] rfl rfl (by decide) rfl rfl (Nat.le_of_ble_eq_true rfl) (by decide) (fun r_ w_ hp1 => ?_)
  obtain ⟨rfl, rfl⟩ := hp1
  show GG k _ _ [[((mo 0), .inr (7, [.int th, .ref (mo 1), .ref (mo 2), .int (nI sm), .ref (mo 3), .int (nI ln), .ref (mo 4), .int rm, .int fa, .ref (mo 5), .ref (mo 6), .int sp, .int wr, .long dd]))], cMs v mo fs, cMe v mo fe] _ _ [.int (nI 1), .ref (mo 0)]
  refine g_if_eqN (tgt := 14) X dX7_run_7 (by decide) (by omega) (fun c7 => ?_) (fun c7 => ?_)
  · exact absurd c7 (by decide)
  · refine g_iconst (x := nI 0) X dX7_run_10 (by decide +kernel) ?_
    refine g_goto (tgt := 15) X dX7_run_11 (by decide) ?_
    refine g_callV (As := [.int (nI 0)]) (rest := []) (wr := [cMs v mo fs, cMe v mo fe]) X (c_X7_holds l v mo th sm ln rm fa sp wr dd 0 (by omega)) f_X7_holds q_15_19 dX7_run_15 [0] [1, 2] rfl rfl (by decide) 0 rfl rfl rfl rfl (Nat.le_of_ble_eq_true rfl) (by decide) (fun r_ w_ hp2 => ?_)
    obtain ⟨rfl, rfl⟩ := hp2
    show GG k _ _ [[((mo 0), .inr (7, [.int (nI 0), .ref (mo 1), .ref (mo 2), .int (nI sm), .ref (mo 3), .int (nI ln), .ref (mo 4), .int rm, .int fa, .ref (mo 5), .ref (mo 6), .int sp, .int wr, .long dd]))], cMs v mo fs, cMe v mo fe] _ _ [.int (nI 1)]
    refine g_if_neN (tgt := 23) X dX7_run_18 (by decide) (by omega) (fun c18 => ?_) (fun c18 => ?_)
    · refine g_aload_n X dX7_run_23 0 rfl rfl ?_
      refine g_callV (As := []) (rest := []) (wr := []) X (c_X7_worksOut l v mo (nI 0) sm ln rm fa sp wr dd P n lo hi fs fe hW hS) f_X7_worksOut q_22_10 dX7_run_24 [0, 1, 2] [] rfl rfl (by decide) 0 rfl rfl rfl rfl (Nat.le_of_ble_eq_true rfl) (by decide) (fun r_ w_ hp4 => ?_)
      obtain ⟨wo3, wo3E, rfl⟩ := hp4
      show GG k _ _ [[((mo 0), .inr (7, [.int (nI 0), .ref (mo 1), .ref (mo 2), .int (nI sm), .ref (mo 3), .int (nI ln), .ref (mo 4), .int rm, .int fa, .ref (mo 5), .ref (mo 6), .int sp, .int wr, .long dd]))], cMs v mo fs, cMe v mo wo3] _ _ []
      refine g_aload_n X dX7_run_27 0 rfl rfl ?_
      refine g_get X cb7 9 q_4_22 dX7_run_28 0 0 rfl rfl (by decide) rfl rfl ?_
      refine g_iload_n X dX7_run_31 1 rfl rfl ?_
      refine g_iload_n X dX7_run_32 2 rfl rfl ?_
      refine g_iload_n X dX7_run_33 3 rfl rfl ?_
      refine g_callS (As := [.int (nI x), .int (nI y), .int (nI z)]) (rest := [.ref (mo 5)]) (wr := [[((mo 0), .inr (7, [.int (nI 0), .ref (mo 1), .ref (mo 2), .int (nI sm), .ref (mo 3), .int (nI ln), .ref (mo 4), .int rm, .int fa, .ref (mo 5), .ref (mo 6), .int sp, .int wr, .long dd]))], cMs v mo fs, cMe v mo wo3]) X (c_X7_triple l v x y z) f_X7_triple q_23_16 dX7_run_34 [] [0, 1, 2] rfl rfl (by decide) rfl rfl (Nat.le_of_ble_eq_true rfl) (by decide) (fun r_ w_ hp5 => ?_)
      obtain ⟨rfl, rfl⟩ := hp5
      show GG k _ _ [[((mo 0), .inr (7, [.int (nI 0), .ref (mo 1), .ref (mo 2), .int (nI sm), .ref (mo 3), .int (nI ln), .ref (mo 4), .int rm, .int fa, .ref (mo 5), .ref (mo 6), .int sp, .int wr, .long dd]))], cMs v mo fs, cMe v mo wo3] _ _ [.int (nI (64 * x + 8 * y + z)), .ref (mo 5)]
      refine g_iald X dX7_run_37 2 0 rfl rfl (by omega) (by omega) ?_
      exact E dX7_run_38 rfl (rfl) (by decide) (by decide) (⟨_, wo3E _ (by omega), rfl⟩)
    · exact absurd c18 (by decide)

set_option maxHeartbeats 4000000 in
set_option maxRecDepth 100000 in
theorem b0_X7_run (l : Launch) (v : VV) (mo : Nat → Nat) (th : Int32) (sm : Nat) (ln : Nat) (rm : Int32) (fa : Int32) (sp : Int32) (wr : Int32) (dd : Int64) (x : Int32) (y : Int32) (z : Int32) (hx : bdI x 8) : MI l v yX7_run cX7_run 4 (some .int) ({ frames := 2, cells := 0, slots := 0, locals := 44 }) [.ref (mo 0), .int x, .int y, .int z] [[((mo 0), .inr (7, [.int th, .ref (mo 1), .ref (mo 2), .int (nI sm), .ref (mo 3), .int (nI ln), .ref (mo 4), .int rm, .int fa, .ref (mo 5), .ref (mo 6), .int sp, .int wr, .long dd]))]] (fun r w_ => r = nI 0 ∧ w_ = [[((mo 0), .inr (7, [.int (nI 1), .ref (mo 1), .ref (mo 2), .int (nI sm), .ref (mo 3), .int (nI ln), .ref (mo 4), .int rm, .int fa, .ref (mo 5), .ref (mo 6), .int sp, .int wr, .long dd]))]]) 0 0 := by
  refine mm_int (by decide) (Nat.le_of_ble_eq_true rfl) [(0, .ref (mo 0)), (1, .int x), (2, .int y), (3, .int z)] rfl (fun k X E => ?_)
  refine g_aload_n X dX7_run_0 0 rfl rfl ?_
  refine g_iload_n X dX7_run_1 1 rfl rfl ?_
  refine g_iload_n X dX7_run_2 2 rfl rfl ?_
  refine g_iload_n X dX7_run_3 3 rfl rfl ?_
  refine g_callS (As := [.int x, .int y, .int z]) (rest := [.ref (mo 0)]) (wr := [[((mo 0), .inr (7, [.int th, .ref (mo 1), .ref (mo 2), .int (nI sm), .ref (mo 3), .int (nI ln), .ref (mo 4), .int rm, .int fa, .ref (mo 5), .ref (mo 6), .int sp, .int wr, .long dd]))]]) X (b0_X7_areValues l v x y z hx) f_X7_areValues q_22_7 dX7_run_4 [] [0] rfl rfl (by decide) rfl rfl (Nat.le_of_ble_eq_true rfl) (by decide) (fun r_ w_ hp1 => ?_)
  obtain ⟨rfl, rfl⟩ := hp1
  show GG k _ _ [[((mo 0), .inr (7, [.int th, .ref (mo 1), .ref (mo 2), .int (nI sm), .ref (mo 3), .int (nI ln), .ref (mo 4), .int rm, .int fa, .ref (mo 5), .ref (mo 6), .int sp, .int wr, .long dd]))]] _ _ [.int (nI 0), .ref (mo 0)]
  refine g_if_eqN (tgt := 14) X dX7_run_7 (by decide) (by omega) (fun c7 => ?_) (fun c7 => ?_)
  · refine g_iconst (x := nI 1) X dX7_run_14 (by decide +kernel) ?_
    refine g_callV (As := [.int (nI 1)]) (rest := []) (wr := []) X (c_X7_holds l v mo th sm ln rm fa sp wr dd 1 (by omega)) f_X7_holds q_15_19 dX7_run_15 [0] [] rfl rfl (by decide) 0 rfl rfl rfl rfl (Nat.le_of_ble_eq_true rfl) (by decide) (fun r_ w_ hp2 => ?_)
    obtain ⟨rfl, rfl⟩ := hp2
    show GG k _ _ [[((mo 0), .inr (7, [.int (nI 1), .ref (mo 1), .ref (mo 2), .int (nI sm), .ref (mo 3), .int (nI ln), .ref (mo 4), .int rm, .int fa, .ref (mo 5), .ref (mo 6), .int sp, .int wr, .long dd]))]] _ _ [.int (nI 0)]
    refine g_if_neN (tgt := 23) X dX7_run_18 (by decide) (by omega) (fun c18 => ?_) (fun c18 => ?_)
    · exact absurd rfl c18
    · refine g_iconst (x := nI 0) X dX7_run_21 (by decide +kernel) ?_
      exact E dX7_run_22 rfl (rfl) (by decide) (by decide) (⟨rfl, rfl⟩)
  · exact absurd rfl c7

set_option maxHeartbeats 4000000 in
set_option maxRecDepth 100000 in
theorem b0_X7_steps (l : Launch) (v : VV) (mo : Nat → Nat) (th : Int32) (sm : Nat) (ln : Nat) (rm : Int32) (fa : Int32) (sp : Int32) (wr : Int32) (dd : Int64) (x : Int32) (y : Int32) (z : Int32) (hx : bdI x 8) : MI l v yX7_steps cX7_steps 6 (some .int) ({ frames := 2, cells := 0, slots := 0, locals := 44 }) [.ref (mo 0), .int x, .int y, .int z] [[((mo 0), .inr (7, [.int th, .ref (mo 1), .ref (mo 2), .int (nI sm), .ref (mo 3), .int (nI ln), .ref (mo 4), .int rm, .int fa, .ref (mo 5), .ref (mo 6), .int sp, .int wr, .long dd]))]] (fun r w_ => r = nI 0 ∧ w_ = [[((mo 0), .inr (7, [.int (nI 1), .ref (mo 1), .ref (mo 2), .int (nI sm), .ref (mo 3), .int (nI ln), .ref (mo 4), .int rm, .int fa, .ref (mo 5), .ref (mo 6), .int sp, .int wr, .long dd]))]]) 0 0 := by
  refine mm_int (by decide) (Nat.le_of_ble_eq_true rfl) [(0, .ref (mo 0)), (1, .int x), (2, .int y), (3, .int z)] rfl (fun k X E => ?_)
  refine g_aload_n X dX7_steps_0 0 rfl rfl ?_
  refine g_iload_n X dX7_steps_1 1 rfl rfl ?_
  refine g_iload_n X dX7_steps_2 2 rfl rfl ?_
  refine g_iload_n X dX7_steps_3 3 rfl rfl ?_
  refine g_callS (As := [.int x, .int y, .int z]) (rest := [.ref (mo 0)]) (wr := [[((mo 0), .inr (7, [.int th, .ref (mo 1), .ref (mo 2), .int (nI sm), .ref (mo 3), .int (nI ln), .ref (mo 4), .int rm, .int fa, .ref (mo 5), .ref (mo 6), .int sp, .int wr, .long dd]))]]) X (b0_X7_areValues l v x y z hx) f_X7_areValues q_22_7 dX7_steps_4 [] [0] rfl rfl (by decide) rfl rfl (Nat.le_of_ble_eq_true rfl) (by decide) (fun r_ w_ hp1 => ?_)
  obtain ⟨rfl, rfl⟩ := hp1
  show GG k _ _ [[((mo 0), .inr (7, [.int th, .ref (mo 1), .ref (mo 2), .int (nI sm), .ref (mo 3), .int (nI ln), .ref (mo 4), .int rm, .int fa, .ref (mo 5), .ref (mo 6), .int sp, .int wr, .long dd]))]] _ _ [.int (nI 0), .ref (mo 0)]
  refine g_if_eqN (tgt := 14) X dX7_steps_7 (by decide) (by omega) (fun c7 => ?_) (fun c7 => ?_)
  · refine g_iconst (x := nI 1) X dX7_steps_14 (by decide +kernel) ?_
    refine g_callV (As := [.int (nI 1)]) (rest := []) (wr := []) X (c_X7_holds l v mo th sm ln rm fa sp wr dd 1 (by omega)) f_X7_holds q_15_19 dX7_steps_15 [0] [] rfl rfl (by decide) 0 rfl rfl rfl rfl (Nat.le_of_ble_eq_true rfl) (by decide) (fun r_ w_ hp2 => ?_)
    obtain ⟨rfl, rfl⟩ := hp2
    show GG k _ _ [[((mo 0), .inr (7, [.int (nI 1), .ref (mo 1), .ref (mo 2), .int (nI sm), .ref (mo 3), .int (nI ln), .ref (mo 4), .int rm, .int fa, .ref (mo 5), .ref (mo 6), .int sp, .int wr, .long dd]))]] _ _ [.int (nI 0)]
    refine g_if_neN (tgt := 23) X dX7_steps_18 (by decide) (by omega) (fun c18 => ?_) (fun c18 => ?_)
    · exact absurd rfl c18
    · refine g_iconst (x := nI 0) X dX7_steps_21 (by decide +kernel) ?_
      exact E dX7_steps_22 rfl (rfl) (by decide) (by decide) (⟨rfl, rfl⟩)
  · exact absurd rfl c7

set_option maxHeartbeats 4000000 in
set_option maxRecDepth 100000 in
theorem b1_X7_run (l : Launch) (v : VV) (mo : Nat → Nat) (th : Int32) (sm : Nat) (ln : Nat) (rm : Int32) (fa : Int32) (sp : Int32) (wr : Int32) (dd : Int64) (x : Nat) (y : Int32) (z : Int32) (h1 : x < 8) (hx : bdI y 8) : MI l v yX7_run cX7_run 4 (some .int) ({ frames := 2, cells := 0, slots := 0, locals := 44 }) [.ref (mo 0), .int (nI x), .int y, .int z] [[((mo 0), .inr (7, [.int th, .ref (mo 1), .ref (mo 2), .int (nI sm), .ref (mo 3), .int (nI ln), .ref (mo 4), .int rm, .int fa, .ref (mo 5), .ref (mo 6), .int sp, .int wr, .long dd]))]] (fun r w_ => r = nI 0 ∧ w_ = [[((mo 0), .inr (7, [.int (nI 1), .ref (mo 1), .ref (mo 2), .int (nI sm), .ref (mo 3), .int (nI ln), .ref (mo 4), .int rm, .int fa, .ref (mo 5), .ref (mo 6), .int sp, .int wr, .long dd]))]]) 0 0 := by
  refine mm_int (by decide) (Nat.le_of_ble_eq_true rfl) [(0, .ref (mo 0)), (1, .int (nI x)), (2, .int y), (3, .int z)] rfl (fun k X E => ?_)
  refine g_aload_n X dX7_run_0 0 rfl rfl ?_
  refine g_iload_n X dX7_run_1 1 rfl rfl ?_
  refine g_iload_n X dX7_run_2 2 rfl rfl ?_
  refine g_iload_n X dX7_run_3 3 rfl rfl ?_
  refine g_callS (As := [.int (nI x), .int y, .int z]) (rest := [.ref (mo 0)]) (wr := [[((mo 0), .inr (7, [.int th, .ref (mo 1), .ref (mo 2), .int (nI sm), .ref (mo 3), .int (nI ln), .ref (mo 4), .int rm, .int fa, .ref (mo 5), .ref (mo 6), .int sp, .int wr, .long dd]))]]) X (b1_X7_areValues l v x y z h1 hx) f_X7_areValues q_22_7 dX7_run_4 [] [0] rfl rfl (by decide) rfl rfl (Nat.le_of_ble_eq_true rfl) (by decide) (fun r_ w_ hp1 => ?_)
  obtain ⟨rfl, rfl⟩ := hp1
  show GG k _ _ [[((mo 0), .inr (7, [.int th, .ref (mo 1), .ref (mo 2), .int (nI sm), .ref (mo 3), .int (nI ln), .ref (mo 4), .int rm, .int fa, .ref (mo 5), .ref (mo 6), .int sp, .int wr, .long dd]))]] _ _ [.int (nI 0), .ref (mo 0)]
  refine g_if_eqN (tgt := 14) X dX7_run_7 (by decide) (by omega) (fun c7 => ?_) (fun c7 => ?_)
  · refine g_iconst (x := nI 1) X dX7_run_14 (by decide +kernel) ?_
    refine g_callV (As := [.int (nI 1)]) (rest := []) (wr := []) X (c_X7_holds l v mo th sm ln rm fa sp wr dd 1 (by omega)) f_X7_holds q_15_19 dX7_run_15 [0] [] rfl rfl (by decide) 0 rfl rfl rfl rfl (Nat.le_of_ble_eq_true rfl) (by decide) (fun r_ w_ hp2 => ?_)
    obtain ⟨rfl, rfl⟩ := hp2
    show GG k _ _ [[((mo 0), .inr (7, [.int (nI 1), .ref (mo 1), .ref (mo 2), .int (nI sm), .ref (mo 3), .int (nI ln), .ref (mo 4), .int rm, .int fa, .ref (mo 5), .ref (mo 6), .int sp, .int wr, .long dd]))]] _ _ [.int (nI 0)]
    refine g_if_neN (tgt := 23) X dX7_run_18 (by decide) (by omega) (fun c18 => ?_) (fun c18 => ?_)
    · exact absurd rfl c18
    · refine g_iconst (x := nI 0) X dX7_run_21 (by decide +kernel) ?_
      exact E dX7_run_22 rfl (rfl) (by decide) (by decide) (⟨rfl, rfl⟩)
  · exact absurd rfl c7

set_option maxHeartbeats 4000000 in
set_option maxRecDepth 100000 in
theorem b1_X7_steps (l : Launch) (v : VV) (mo : Nat → Nat) (th : Int32) (sm : Nat) (ln : Nat) (rm : Int32) (fa : Int32) (sp : Int32) (wr : Int32) (dd : Int64) (x : Nat) (y : Int32) (z : Int32) (h1 : x < 8) (hx : bdI y 8) : MI l v yX7_steps cX7_steps 6 (some .int) ({ frames := 2, cells := 0, slots := 0, locals := 44 }) [.ref (mo 0), .int (nI x), .int y, .int z] [[((mo 0), .inr (7, [.int th, .ref (mo 1), .ref (mo 2), .int (nI sm), .ref (mo 3), .int (nI ln), .ref (mo 4), .int rm, .int fa, .ref (mo 5), .ref (mo 6), .int sp, .int wr, .long dd]))]] (fun r w_ => r = nI 0 ∧ w_ = [[((mo 0), .inr (7, [.int (nI 1), .ref (mo 1), .ref (mo 2), .int (nI sm), .ref (mo 3), .int (nI ln), .ref (mo 4), .int rm, .int fa, .ref (mo 5), .ref (mo 6), .int sp, .int wr, .long dd]))]]) 0 0 := by
  refine mm_int (by decide) (Nat.le_of_ble_eq_true rfl) [(0, .ref (mo 0)), (1, .int (nI x)), (2, .int y), (3, .int z)] rfl (fun k X E => ?_)
  refine g_aload_n X dX7_steps_0 0 rfl rfl ?_
  refine g_iload_n X dX7_steps_1 1 rfl rfl ?_
  refine g_iload_n X dX7_steps_2 2 rfl rfl ?_
  refine g_iload_n X dX7_steps_3 3 rfl rfl ?_
  refine g_callS (As := [.int (nI x), .int y, .int z]) (rest := [.ref (mo 0)]) (wr := [[((mo 0), .inr (7, [.int th, .ref (mo 1), .ref (mo 2), .int (nI sm), .ref (mo 3), .int (nI ln), .ref (mo 4), .int rm, .int fa, .ref (mo 5), .ref (mo 6), .int sp, .int wr, .long dd]))]]) X (b1_X7_areValues l v x y z h1 hx) f_X7_areValues q_22_7 dX7_steps_4 [] [0] rfl rfl (by decide) rfl rfl (Nat.le_of_ble_eq_true rfl) (by decide) (fun r_ w_ hp1 => ?_)
  obtain ⟨rfl, rfl⟩ := hp1
  show GG k _ _ [[((mo 0), .inr (7, [.int th, .ref (mo 1), .ref (mo 2), .int (nI sm), .ref (mo 3), .int (nI ln), .ref (mo 4), .int rm, .int fa, .ref (mo 5), .ref (mo 6), .int sp, .int wr, .long dd]))]] _ _ [.int (nI 0), .ref (mo 0)]
  refine g_if_eqN (tgt := 14) X dX7_steps_7 (by decide) (by omega) (fun c7 => ?_) (fun c7 => ?_)
  · refine g_iconst (x := nI 1) X dX7_steps_14 (by decide +kernel) ?_
    refine g_callV (As := [.int (nI 1)]) (rest := []) (wr := []) X (c_X7_holds l v mo th sm ln rm fa sp wr dd 1 (by omega)) f_X7_holds q_15_19 dX7_steps_15 [0] [] rfl rfl (by decide) 0 rfl rfl rfl rfl (Nat.le_of_ble_eq_true rfl) (by decide) (fun r_ w_ hp2 => ?_)
    obtain ⟨rfl, rfl⟩ := hp2
    show GG k _ _ [[((mo 0), .inr (7, [.int (nI 1), .ref (mo 1), .ref (mo 2), .int (nI sm), .ref (mo 3), .int (nI ln), .ref (mo 4), .int rm, .int fa, .ref (mo 5), .ref (mo 6), .int sp, .int wr, .long dd]))]] _ _ [.int (nI 0)]
    refine g_if_neN (tgt := 23) X dX7_steps_18 (by decide) (by omega) (fun c18 => ?_) (fun c18 => ?_)
    · exact absurd rfl c18
    · refine g_iconst (x := nI 0) X dX7_steps_21 (by decide +kernel) ?_
      exact E dX7_steps_22 rfl (rfl) (by decide) (by decide) (⟨rfl, rfl⟩)
  · exact absurd rfl c7

set_option maxHeartbeats 4000000 in
set_option maxRecDepth 100000 in
theorem b2_X7_run (l : Launch) (v : VV) (mo : Nat → Nat) (th : Int32) (sm : Nat) (ln : Nat) (rm : Int32) (fa : Int32) (sp : Int32) (wr : Int32) (dd : Int64) (x : Nat) (y : Nat) (z : Int32) (h1 : x < 8) (h2 : y < 8) (hx : bdI z 8) : MI l v yX7_run cX7_run 4 (some .int) ({ frames := 2, cells := 0, slots := 0, locals := 44 }) [.ref (mo 0), .int (nI x), .int (nI y), .int z] [[((mo 0), .inr (7, [.int th, .ref (mo 1), .ref (mo 2), .int (nI sm), .ref (mo 3), .int (nI ln), .ref (mo 4), .int rm, .int fa, .ref (mo 5), .ref (mo 6), .int sp, .int wr, .long dd]))]] (fun r w_ => r = nI 0 ∧ w_ = [[((mo 0), .inr (7, [.int (nI 1), .ref (mo 1), .ref (mo 2), .int (nI sm), .ref (mo 3), .int (nI ln), .ref (mo 4), .int rm, .int fa, .ref (mo 5), .ref (mo 6), .int sp, .int wr, .long dd]))]]) 0 0 := by
  refine mm_int (by decide) (Nat.le_of_ble_eq_true rfl) [(0, .ref (mo 0)), (1, .int (nI x)), (2, .int (nI y)), (3, .int z)] rfl (fun k X E => ?_)
  refine g_aload_n X dX7_run_0 0 rfl rfl ?_
  refine g_iload_n X dX7_run_1 1 rfl rfl ?_
  refine g_iload_n X dX7_run_2 2 rfl rfl ?_
  refine g_iload_n X dX7_run_3 3 rfl rfl ?_
  refine g_callS (As := [.int (nI x), .int (nI y), .int z]) (rest := [.ref (mo 0)]) (wr := [[((mo 0), .inr (7, [.int th, .ref (mo 1), .ref (mo 2), .int (nI sm), .ref (mo 3), .int (nI ln), .ref (mo 4), .int rm, .int fa, .ref (mo 5), .ref (mo 6), .int sp, .int wr, .long dd]))]]) X (b2_X7_areValues l v x y z h1 h2 hx) f_X7_areValues q_22_7 dX7_run_4 [] [0] rfl rfl (by decide) rfl rfl (Nat.le_of_ble_eq_true rfl) (by decide) (fun r_ w_ hp1 => ?_)
  obtain ⟨rfl, rfl⟩ := hp1
  show GG k _ _ [[((mo 0), .inr (7, [.int th, .ref (mo 1), .ref (mo 2), .int (nI sm), .ref (mo 3), .int (nI ln), .ref (mo 4), .int rm, .int fa, .ref (mo 5), .ref (mo 6), .int sp, .int wr, .long dd]))]] _ _ [.int (nI 0), .ref (mo 0)]
  refine g_if_eqN (tgt := 14) X dX7_run_7 (by decide) (by omega) (fun c7 => ?_) (fun c7 => ?_)
  · refine g_iconst (x := nI 1) X dX7_run_14 (by decide +kernel) ?_
    refine g_callV (As := [.int (nI 1)]) (rest := []) (wr := []) X (c_X7_holds l v mo th sm ln rm fa sp wr dd 1 (by omega)) f_X7_holds q_15_19 dX7_run_15 [0] [] rfl rfl (by decide) 0 rfl rfl rfl rfl (Nat.le_of_ble_eq_true rfl) (by decide) (fun r_ w_ hp2 => ?_)
    obtain ⟨rfl, rfl⟩ := hp2
    show GG k _ _ [[((mo 0), .inr (7, [.int (nI 1), .ref (mo 1), .ref (mo 2), .int (nI sm), .ref (mo 3), .int (nI ln), .ref (mo 4), .int rm, .int fa, .ref (mo 5), .ref (mo 6), .int sp, .int wr, .long dd]))]] _ _ [.int (nI 0)]
    refine g_if_neN (tgt := 23) X dX7_run_18 (by decide) (by omega) (fun c18 => ?_) (fun c18 => ?_)
    · exact absurd rfl c18
    · refine g_iconst (x := nI 0) X dX7_run_21 (by decide +kernel) ?_
      exact E dX7_run_22 rfl (rfl) (by decide) (by decide) (⟨rfl, rfl⟩)
  · exact absurd rfl c7

set_option maxHeartbeats 4000000 in
set_option maxRecDepth 100000 in
theorem b2_X7_steps (l : Launch) (v : VV) (mo : Nat → Nat) (th : Int32) (sm : Nat) (ln : Nat) (rm : Int32) (fa : Int32) (sp : Int32) (wr : Int32) (dd : Int64) (x : Nat) (y : Nat) (z : Int32) (h1 : x < 8) (h2 : y < 8) (hx : bdI z 8) : MI l v yX7_steps cX7_steps 6 (some .int) ({ frames := 2, cells := 0, slots := 0, locals := 44 }) [.ref (mo 0), .int (nI x), .int (nI y), .int z] [[((mo 0), .inr (7, [.int th, .ref (mo 1), .ref (mo 2), .int (nI sm), .ref (mo 3), .int (nI ln), .ref (mo 4), .int rm, .int fa, .ref (mo 5), .ref (mo 6), .int sp, .int wr, .long dd]))]] (fun r w_ => r = nI 0 ∧ w_ = [[((mo 0), .inr (7, [.int (nI 1), .ref (mo 1), .ref (mo 2), .int (nI sm), .ref (mo 3), .int (nI ln), .ref (mo 4), .int rm, .int fa, .ref (mo 5), .ref (mo 6), .int sp, .int wr, .long dd]))]]) 0 0 := by
  refine mm_int (by decide) (Nat.le_of_ble_eq_true rfl) [(0, .ref (mo 0)), (1, .int (nI x)), (2, .int (nI y)), (3, .int z)] rfl (fun k X E => ?_)
  refine g_aload_n X dX7_steps_0 0 rfl rfl ?_
  refine g_iload_n X dX7_steps_1 1 rfl rfl ?_
  refine g_iload_n X dX7_steps_2 2 rfl rfl ?_
  refine g_iload_n X dX7_steps_3 3 rfl rfl ?_
  refine g_callS (As := [.int (nI x), .int (nI y), .int z]) (rest := [.ref (mo 0)]) (wr := [[((mo 0), .inr (7, [.int th, .ref (mo 1), .ref (mo 2), .int (nI sm), .ref (mo 3), .int (nI ln), .ref (mo 4), .int rm, .int fa, .ref (mo 5), .ref (mo 6), .int sp, .int wr, .long dd]))]]) X (b2_X7_areValues l v x y z h1 h2 hx) f_X7_areValues q_22_7 dX7_steps_4 [] [0] rfl rfl (by decide) rfl rfl (Nat.le_of_ble_eq_true rfl) (by decide) (fun r_ w_ hp1 => ?_)
  obtain ⟨rfl, rfl⟩ := hp1
  show GG k _ _ [[((mo 0), .inr (7, [.int th, .ref (mo 1), .ref (mo 2), .int (nI sm), .ref (mo 3), .int (nI ln), .ref (mo 4), .int rm, .int fa, .ref (mo 5), .ref (mo 6), .int sp, .int wr, .long dd]))]] _ _ [.int (nI 0), .ref (mo 0)]
  refine g_if_eqN (tgt := 14) X dX7_steps_7 (by decide) (by omega) (fun c7 => ?_) (fun c7 => ?_)
  · refine g_iconst (x := nI 1) X dX7_steps_14 (by decide +kernel) ?_
    refine g_callV (As := [.int (nI 1)]) (rest := []) (wr := []) X (c_X7_holds l v mo th sm ln rm fa sp wr dd 1 (by omega)) f_X7_holds q_15_19 dX7_steps_15 [0] [] rfl rfl (by decide) 0 rfl rfl rfl rfl (Nat.le_of_ble_eq_true rfl) (by decide) (fun r_ w_ hp2 => ?_)
    obtain ⟨rfl, rfl⟩ := hp2
    show GG k _ _ [[((mo 0), .inr (7, [.int (nI 1), .ref (mo 1), .ref (mo 2), .int (nI sm), .ref (mo 3), .int (nI ln), .ref (mo 4), .int rm, .int fa, .ref (mo 5), .ref (mo 6), .int sp, .int wr, .long dd]))]] _ _ [.int (nI 0)]
    refine g_if_neN (tgt := 23) X dX7_steps_18 (by decide) (by omega) (fun c18 => ?_) (fun c18 => ?_)
    · exact absurd rfl c18
    · refine g_iconst (x := nI 0) X dX7_steps_21 (by decide +kernel) ?_
      exact E dX7_steps_22 rfl (rfl) (by decide) (by decide) (⟨rfl, rfl⟩)
  · exact absurd rfl c7

set_option maxHeartbeats 4000000 in
set_option maxRecDepth 100000 in
theorem c_X7_example (l : Launch) (v : VV) (mo : Nat → Nat) (th : Int32) (sm : Nat) (ln : Nat) (rm : Int32) (fa : Int32) (sp : Int32) (wr : Int32) (dd : Int64) (P : Nat → S9) (n : Nat) (lo : Nat → Nat) (hi : Nat → Nat) (fs : Nat → Int32) (fe : Nat → Int32) (i : Nat) (hW : WF P n) (hS : SR P n lo hi fs) (hL : AsW lo hi) (hi9 : i < n) : MI l v yX7_example cX7_example 2 (some .int) ({ frames := 6, cells := 0, slots := 0, locals := 138 }) [.ref (mo 0), .int (nI i)] [[((mo 0), .inr (7, [.int th, .ref (mo 1), .ref (mo 2), .int (nI sm), .ref (mo 3), .int (nI ln), .ref (mo 4), .int rm, .int fa, .ref (mo 5), .ref (mo 6), .int sp, .int wr, .long dd]))], cMs v mo fs, cMe v mo fe] (fun r w_ => ∃ fe', r = zI (exV lo hi P n i) ∧ w_ = [[((mo 0), .inr (7, [.int (nI 0), .ref (mo 1), .ref (mo 2), .int (nI sm), .ref (mo 3), .int (nI ln), .ref (mo 4), .int rm, .int fa, .ref (mo 5), .ref (mo 6), .int sp, .int wr, .long dd]))], cMs v mo fs, cMe v mo fe']) 0 0 := by
  refine mm_int (by decide) (Nat.le_of_ble_eq_true rfl) [(0, .ref (mo 0)), (1, .int (nI i))] rfl (fun k X E => ?_)
  have hn12 := hW.1
  refine g_aload_n X dX7_example_0 0 rfl rfl ?_
  refine g_aload_n X dX7_example_1 0 rfl rfl ?_
  refine g_iload_n X dX7_example_2 1 rfl rfl ?_
  refine g_callV (As := [.int (nI i)]) (rest := [.ref (mo 0)]) (wr := [cMe v mo fe]) X (c_X7_isStatement l v mo th sm ln rm fa sp wr dd P n lo hi fs i hW hS (by omega)) f_X7_isStatement q_19_3 dX7_example_3 [0, 1] [2] rfl rfl (by decide) 0 rfl rfl rfl rfl (Nat.le_of_ble_eq_true rfl) (by decide) (fun r_ w_ hp1 => ?_)
  obtain ⟨rfl, rfl⟩ := hp1
  show GG k _ _ [[((mo 0), .inr (7, [.int th, .ref (mo 1), .ref (mo 2), .int (nI sm), .ref (mo 3), .int (nI ln), .ref (mo 4), .int rm, .int fa, .ref (mo 5), .ref (mo 6), .int sp, .int wr, .long dd]))], cMs v mo fs, cMe v mo fe] _ _ [.int (nI 1), .ref (mo 0)]
  refine g_if_eqN (tgt := 13) X dX7_example_6 (by decide) (by omega) (fun c6 => ?_) (fun c6 => ?_)
  · exact absurd c6 (by decide)
  · refine g_iconst (x := nI 0) X dX7_example_9 (by decide +kernel) ?_
    refine g_goto (tgt := 14) X dX7_example_10 (by decide) ?_
    refine g_callV (As := [.int (nI 0)]) (rest := []) (wr := [cMs v mo fs, cMe v mo fe]) X (c_X7_holds l v mo th sm ln rm fa sp wr dd 0 (by omega)) f_X7_holds q_15_19 dX7_example_14 [0] [1, 2] rfl rfl (by decide) 0 rfl rfl rfl rfl (Nat.le_of_ble_eq_true rfl) (by decide) (fun r_ w_ hp2 => ?_)
    obtain ⟨rfl, rfl⟩ := hp2
    show GG k _ _ [[((mo 0), .inr (7, [.int (nI 0), .ref (mo 1), .ref (mo 2), .int (nI sm), .ref (mo 3), .int (nI ln), .ref (mo 4), .int rm, .int fa, .ref (mo 5), .ref (mo 6), .int sp, .int wr, .long dd]))], cMs v mo fs, cMe v mo fe] _ _ [.int (nI 1)]
    refine g_if_neN (tgt := 22) X dX7_example_17 (by decide) (by omega) (fun c17 => ?_) (fun c17 => ?_)
    · refine g_aload_n X dX7_example_22 0 rfl rfl ?_
      refine g_callV (As := []) (rest := []) (wr := []) X (c_X7_worksOut l v mo (nI 0) sm ln rm fa sp wr dd P n lo hi fs fe hW hS) f_X7_worksOut q_22_10 dX7_example_23 [0, 1, 2] [] rfl rfl (by decide) 0 rfl rfl rfl rfl (Nat.le_of_ble_eq_true rfl) (by decide) (fun r_ w_ hp4 => ?_)
      obtain ⟨wo3, wo3E, rfl⟩ := hp4
      show GG k _ _ [[((mo 0), .inr (7, [.int (nI 0), .ref (mo 1), .ref (mo 2), .int (nI sm), .ref (mo 3), .int (nI ln), .ref (mo 4), .int rm, .int fa, .ref (mo 5), .ref (mo 6), .int sp, .int wr, .long dd]))], cMs v mo fs, cMe v mo wo3] _ _ []
      refine g_aload_n X dX7_example_26 0 rfl rfl ?_
      refine g_iload_n X dX7_example_27 1 rfl rfl ?_
      refine g_callV (As := [.int (nI i)]) (rest := []) (wr := []) X (c_X7_exampleOf l v mo (nI 0) sm ln rm fa sp wr dd P n lo hi fs wo3 i hW hS hL wo3E (by omega)) f_X7_exampleOf q_29_14 dX7_example_28 [0, 1, 2] [] rfl rfl (by decide) 0 rfl rfl rfl rfl (Nat.le_of_ble_eq_true rfl) (by decide) (fun r_ w_ hp5 => ?_)
      obtain ⟨rfl, rfl⟩ := hp5
      show GG k _ _ [[((mo 0), .inr (7, [.int (nI 0), .ref (mo 1), .ref (mo 2), .int (nI sm), .ref (mo 3), .int (nI ln), .ref (mo 4), .int rm, .int fa, .ref (mo 5), .ref (mo 6), .int sp, .int wr, .long dd]))], cMs v mo fs, cMe v mo wo3] _ _ [.int (zI (exV lo hi P n i))]
      exact E dX7_example_31 rfl (rfl) (by decide) (by decide) (⟨_, rfl, rfl⟩)
    · exact absurd c17 (by decide)

set_option maxHeartbeats 4000000 in
set_option maxRecDepth 100000 in
theorem c_X7_endless (l : Launch) (v : VV) (mo : Nat → Nat) (th : Int32) (sm : Nat) (ln : Nat) (rm : Int32) (fa : Int32) (sp : Int32) (wr : Int32) (dd : Int64) (P : Nat → S9) (n : Nat) (lo : Nat → Nat) (hi : Nat → Nat) (fs : Nat → Int32) (fe : Nat → Int32) (hW : WF P n) (hS : SR P n lo hi fs) (hL : AsW lo hi) : MI l v yX7_endless cX7_endless 1 (some .int) ({ frames := 6, cells := 0, slots := 0, locals := 138 }) [.ref (mo 0)] [[((mo 0), .inr (7, [.int th, .ref (mo 1), .ref (mo 2), .int (nI sm), .ref (mo 3), .int (nI ln), .ref (mo 4), .int rm, .int fa, .ref (mo 5), .ref (mo 6), .int sp, .int wr, .long dd]))], cMs v mo fs, cMe v mo fe] (fun r w_ => ∃ fe', r = nI (ctb (jE lo hi P n) 512) ∧ w_ = [[((mo 0), .inr (7, [.int (nI 0), .ref (mo 1), .ref (mo 2), .int (nI sm), .ref (mo 3), .int (nI ln), .ref (mo 4), .int rm, .int fa, .ref (mo 5), .ref (mo 6), .int sp, .int wr, .long dd]))], cMs v mo fs, cMe v mo fe']) 0 0 := by
  refine mm_int (by decide) (Nat.le_of_ble_eq_true rfl) [(0, .ref (mo 0))] rfl (fun k X E => ?_)
  have hn12 := hW.1
  refine g_aload_n X dX7_endless_0 0 rfl rfl ?_
  refine g_iconst (x := nI 0) X dX7_endless_1 (by decide +kernel) ?_
  refine g_put (cs' := [[((mo 0), .inr (7, [.int (nI 0), .ref (mo 1), .ref (mo 2), .int (nI sm), .ref (mo 3), .int (nI ln), .ref (mo 4), .int rm, .int fa, .ref (mo 5), .ref (mo 6), .int sp, .int wr, .long dd]))], cMs v mo fs, cMe v mo fe]) X cb7 0 q_15_23 dX7_endless_2 0 0 rfl rfl (by decide) rfl rfl (rfl) (rfl) (Nat.le_of_ble_eq_true rfl) rfl ?_
  refine g_aload_n X dX7_endless_5 0 rfl rfl ?_
  refine g_callV (As := []) (rest := []) (wr := []) X (c_X7_worksOut l v mo (nI 0) sm ln rm fa sp wr dd P n lo hi fs fe hW hS) f_X7_worksOut q_22_10 dX7_endless_6 [0, 1, 2] [] rfl rfl (by decide) 0 rfl rfl rfl rfl (Nat.le_of_ble_eq_true rfl) (by decide) (fun r_ w_ hp2 => ?_)
  obtain ⟨wo1, wo1E, rfl⟩ := hp2
  show GG k _ _ [[((mo 0), .inr (7, [.int (nI 0), .ref (mo 1), .ref (mo 2), .int (nI sm), .ref (mo 3), .int (nI ln), .ref (mo 4), .int rm, .int fa, .ref (mo 5), .ref (mo 6), .int sp, .int wr, .long dd]))], cMs v mo fs, cMe v mo wo1] _ _ []
  refine g_aload_n X dX7_endless_9 0 rfl rfl ?_
  refine g_iconst (x := nI 0) X dX7_endless_10 (by decide +kernel) ?_
  refine g_callV (As := [.int (nI 0)]) (rest := []) (wr := []) X (c_X7_runsThat l v mo (nI 0) sm ln rm fa sp wr dd P n lo hi fs wo1 0 hW hS hL wo1E (by omega)) f_X7_runsThat q_30_13 dX7_endless_11 [0, 1, 2] [] rfl rfl (by decide) 0 rfl rfl rfl rfl (Nat.le_of_ble_eq_true rfl) (by decide) (fun r_ w_ hp3 => ?_)
  rw [rt_0] at hp3
  obtain ⟨rfl, rfl⟩ := hp3
  have hcljE := ctb_le (jE lo hi P n) 512
  show GG k _ _ [[((mo 0), .inr (7, [.int (nI 0), .ref (mo 1), .ref (mo 2), .int (nI sm), .ref (mo 3), .int (nI ln), .ref (mo 4), .int rm, .int fa, .ref (mo 5), .ref (mo 6), .int sp, .int wr, .long dd]))], cMs v mo fs, cMe v mo wo1] _ _ [.int (nI (ctb (jE lo hi P n) 512))]
  exact E dX7_endless_14 rfl (rfl) (by decide) (by decide) (⟨_, rfl, rfl⟩)

set_option maxHeartbeats 4000000 in
set_option maxRecDepth 100000 in
theorem c_X7_proof (l : Launch) (v : VV) (mo : Nat → Nat) (th : Int32) (sm : Nat) (ln : Nat) (rm : Int32) (fa : Int32) (sp : Int32) (wr : Int32) (dd : Int64) (P : Nat → S9) (n : Nat) (lo : Nat → Nat) (hi : Nat → Nat) (fs : Nat → Int32) (fe : Nat → Int32) (hW : WF P n) (hS : SR P n lo hi fs) (hL : AsW lo hi) : MI l v yX7_proof cX7_proof 1 (some .int) ({ frames := 6, cells := 0, slots := 0, locals := 138 }) [.ref (mo 0)] [[((mo 0), .inr (7, [.int th, .ref (mo 1), .ref (mo 2), .int (nI sm), .ref (mo 3), .int (nI ln), .ref (mo 4), .int rm, .int fa, .ref (mo 5), .ref (mo 6), .int sp, .int wr, .long dd]))], cMs v mo fs, cMe v mo fe] (fun r w_ => ∃ fe', r = zI (pfV lo hi P n) ∧ w_ = [[((mo 0), .inr (7, [.int (nI 0), .ref (mo 1), .ref (mo 2), .int (nI sm), .ref (mo 3), .int (nI ln), .ref (mo 4), .int rm, .int fa, .ref (mo 5), .ref (mo 6), .int sp, .int wr, .long dd]))], cMs v mo fs, cMe v mo fe']) 0 0 := by
  refine mm_int (by decide) (Nat.le_of_ble_eq_true rfl) [(0, .ref (mo 0))] rfl (fun k X E => ?_)
  have hn12 := hW.1
  refine g_aload_n X dX7_proof_0 0 rfl rfl ?_
  refine g_iconst (x := nI 0) X dX7_proof_1 (by decide +kernel) ?_
  refine g_put (cs' := [[((mo 0), .inr (7, [.int (nI 0), .ref (mo 1), .ref (mo 2), .int (nI sm), .ref (mo 3), .int (nI ln), .ref (mo 4), .int rm, .int fa, .ref (mo 5), .ref (mo 6), .int sp, .int wr, .long dd]))], cMs v mo fs, cMe v mo fe]) X cb7 0 q_15_23 dX7_proof_2 0 0 rfl rfl (by decide) rfl rfl (rfl) (rfl) (Nat.le_of_ble_eq_true rfl) rfl ?_
  refine g_aload_n X dX7_proof_5 0 rfl rfl ?_
  refine g_callV (As := []) (rest := []) (wr := []) X (c_X7_worksOut l v mo (nI 0) sm ln rm fa sp wr dd P n lo hi fs fe hW hS) f_X7_worksOut q_22_10 dX7_proof_6 [0, 1, 2] [] rfl rfl (by decide) 0 rfl rfl rfl rfl (Nat.le_of_ble_eq_true rfl) (by decide) (fun r_ w_ hp2 => ?_)
  obtain ⟨wo1, wo1E, rfl⟩ := hp2
  show GG k _ _ [[((mo 0), .inr (7, [.int (nI 0), .ref (mo 1), .ref (mo 2), .int (nI sm), .ref (mo 3), .int (nI ln), .ref (mo 4), .int rm, .int fa, .ref (mo 5), .ref (mo 6), .int sp, .int wr, .long dd]))], cMs v mo fs, cMe v mo wo1] _ _ []
  refine g_aload_n X dX7_proof_9 0 rfl rfl ?_
  refine g_callV (As := []) (rest := []) (wr := []) X (c_X7_judged l v mo (nI 0) sm ln rm fa sp wr dd P n lo hi fs wo1 hW hS hL wo1E) f_X7_judged q_31_1 dX7_proof_10 [0, 1, 2] [] rfl rfl (by decide) 0 rfl rfl rfl rfl (Nat.le_of_ble_eq_true rfl) (by decide) (fun r_ w_ hp3 => ?_)
  obtain ⟨rfl, rfl⟩ := hp3
  show GG k _ _ [[((mo 0), .inr (7, [.int (nI 0), .ref (mo 1), .ref (mo 2), .int (nI sm), .ref (mo 3), .int (nI ln), .ref (mo 4), .int rm, .int fa, .ref (mo 5), .ref (mo 6), .int sp, .int wr, .long dd]))], cMs v mo fs, cMe v mo wo1] _ _ [.int (zI (pfV lo hi P n))]
  exact E dX7_proof_13 rfl (rfl) (by decide) (by decide) (⟨_, rfl, rfl⟩)

set_option maxHeartbeats 4000000 in
set_option maxRecDepth 100000 in
theorem c_X7_verdict (l : Launch) (v : VV) (mo : Nat → Nat) (th : Int32) (sm : Nat) (ln : Nat) (rm : Int32) (fa : Int32) (sp : Int32) (wr : Int32) (dd : Int64) (P : Nat → S9) (n : Nat) (lo : Nat → Nat) (hi : Nat → Nat) (fs : Nat → Int32) (fe : Nat → Int32) (fn : Nat → Int32) (i : Nat) (hW : WF P n) (hS : SR P n lo hi fs) (hL : AsW lo hi) (hi9 : i < n) : MI l v yX7_verdict cX7_verdict 2 (some .int) ({ frames := 6, cells := 0, slots := 0, locals := 138 }) [.ref (mo 0), .int (nI i)] [[((mo 0), .inr (7, [.int th, .ref (mo 1), .ref (mo 2), .int (nI sm), .ref (mo 3), .int (nI ln), .ref (mo 4), .int rm, .int fa, .ref (mo 5), .ref (mo 6), .int sp, .int wr, .long dd]))], cMs v mo fs, cMe v mo fe, cMn v mo fn] (fun r w_ => ∃ fe' fn', r = zI (vdV lo hi P n i) ∧ w_ = [[((mo 0), .inr (7, [.int (nI 0), .ref (mo 1), .ref (mo 2), .int (nI sm), .ref (mo 3), .int (nI ln), .ref (mo 4), .int rm, .int fa, .ref (mo 5), .ref (mo 6), .int sp, .int wr, .long dd]))], cMs v mo fs, cMe v mo fe', cMn v mo fn']) 0 0 := by
  refine mm_int (by decide) (Nat.le_of_ble_eq_true rfl) [(0, .ref (mo 0)), (1, .int (nI i))] rfl (fun k X E => ?_)
  have hn12 := hW.1
  refine g_aload_n X dX7_verdict_0 0 rfl rfl ?_
  refine g_aload_n X dX7_verdict_1 0 rfl rfl ?_
  refine g_iload_n X dX7_verdict_2 1 rfl rfl ?_
  refine g_callV (As := [.int (nI i)]) (rest := [.ref (mo 0)]) (wr := [cMe v mo fe, cMn v mo fn]) X (c_X7_isStatement l v mo th sm ln rm fa sp wr dd P n lo hi fs i hW hS (by omega)) f_X7_isStatement q_19_3 dX7_verdict_3 [0, 1] [2, 3] rfl rfl (by decide) 0 rfl rfl rfl rfl (Nat.le_of_ble_eq_true rfl) (by decide) (fun r_ w_ hp1 => ?_)
  obtain ⟨rfl, rfl⟩ := hp1
  show GG k _ _ [[((mo 0), .inr (7, [.int th, .ref (mo 1), .ref (mo 2), .int (nI sm), .ref (mo 3), .int (nI ln), .ref (mo 4), .int rm, .int fa, .ref (mo 5), .ref (mo 6), .int sp, .int wr, .long dd]))], cMs v mo fs, cMe v mo fe, cMn v mo fn] _ _ [.int (nI 1), .ref (mo 0)]
  refine g_if_eqN (tgt := 13) X dX7_verdict_6 (by decide) (by omega) (fun c6 => ?_) (fun c6 => ?_)
  · exact absurd c6 (by decide)
  · refine g_iconst (x := nI 0) X dX7_verdict_9 (by decide +kernel) ?_
    refine g_goto (tgt := 14) X dX7_verdict_10 (by decide) ?_
    refine g_callV (As := [.int (nI 0)]) (rest := []) (wr := [cMs v mo fs, cMe v mo fe, cMn v mo fn]) X (c_X7_holds l v mo th sm ln rm fa sp wr dd 0 (by omega)) f_X7_holds q_15_19 dX7_verdict_14 [0] [1, 2, 3] rfl rfl (by decide) 0 rfl rfl rfl rfl (Nat.le_of_ble_eq_true rfl) (by decide) (fun r_ w_ hp2 => ?_)
    obtain ⟨rfl, rfl⟩ := hp2
    show GG k _ _ [[((mo 0), .inr (7, [.int (nI 0), .ref (mo 1), .ref (mo 2), .int (nI sm), .ref (mo 3), .int (nI ln), .ref (mo 4), .int rm, .int fa, .ref (mo 5), .ref (mo 6), .int sp, .int wr, .long dd]))], cMs v mo fs, cMe v mo fe, cMn v mo fn] _ _ [.int (nI 1)]
    refine g_if_neN (tgt := 22) X dX7_verdict_17 (by decide) (by omega) (fun c17 => ?_) (fun c17 => ?_)
    · refine g_aload_n X dX7_verdict_22 0 rfl rfl ?_
      refine g_callV (As := []) (rest := []) (wr := [cMn v mo fn]) X (c_X7_worksOut l v mo (nI 0) sm ln rm fa sp wr dd P n lo hi fs fe hW hS) f_X7_worksOut q_22_10 dX7_verdict_23 [0, 1, 2] [3] rfl rfl (by decide) 0 rfl rfl rfl rfl (Nat.le_of_ble_eq_true rfl) (by decide) (fun r_ w_ hp4 => ?_)
      obtain ⟨wo3, wo3E, rfl⟩ := hp4
      show GG k _ _ [[((mo 0), .inr (7, [.int (nI 0), .ref (mo 1), .ref (mo 2), .int (nI sm), .ref (mo 3), .int (nI ln), .ref (mo 4), .int rm, .int fa, .ref (mo 5), .ref (mo 6), .int sp, .int wr, .long dd]))], cMs v mo fs, cMe v mo wo3, cMn v mo fn] _ _ []
      refine g_aload_n X dX7_verdict_26 0 rfl rfl ?_
      refine g_callV (As := []) (rest := []) (wr := [cMe v mo wo3]) X (c_X7_looks l v mo (nI 0) sm ln rm fa sp wr dd P n lo hi fs fn hW hS hL) f_X7_looks q_28_22 dX7_verdict_27 [0, 1, 3] [2] rfl rfl (by decide) 0 rfl rfl rfl rfl (Nat.le_of_ble_eq_true rfl) (by decide) (fun r_ w_ hp6 => ?_)
      obtain ⟨lk5, lk5N, rfl⟩ := hp6
      show GG k _ _ [[((mo 0), .inr (7, [.int (nI 0), .ref (mo 1), .ref (mo 2), .int (nI sm), .ref (mo 3), .int (nI ln), .ref (mo 4), .int rm, .int fa, .ref (mo 5), .ref (mo 6), .int sp, .int wr, .long dd]))], cMs v mo fs, cMn v mo lk5, cMe v mo wo3] _ _ []
      refine g_pick (cs' := [[((mo 0), .inr (7, [.int (nI 0), .ref (mo 1), .ref (mo 2), .int (nI sm), .ref (mo 3), .int (nI ln), .ref (mo 4), .int rm, .int fa, .ref (mo 5), .ref (mo 6), .int sp, .int wr, .long dd]))], cMs v mo fs, cMe v mo wo3, cMn v mo lk5]) [0, 1, 3, 2] rfl rfl ?_
      refine g_aload_n X dX7_verdict_30 0 rfl rfl ?_
      refine g_iload_n X dX7_verdict_31 1 rfl rfl ?_
      refine g_callV (As := [.int (nI i)]) (rest := []) (wr := []) X (c_X7_verdictOf l v mo (nI 0) sm ln rm fa sp wr dd P n lo hi fs wo3 lk5 i hW hS hL wo3E lk5N (by omega)) f_X7_verdictOf q_29_6 dX7_verdict_32 [0, 1, 2, 3] [] rfl rfl (by decide) 0 rfl rfl rfl rfl (Nat.le_of_ble_eq_true rfl) (by decide) (fun r_ w_ hp7 => ?_)
      obtain ⟨rfl, rfl⟩ := hp7
      show GG k _ _ [[((mo 0), .inr (7, [.int (nI 0), .ref (mo 1), .ref (mo 2), .int (nI sm), .ref (mo 3), .int (nI ln), .ref (mo 4), .int rm, .int fa, .ref (mo 5), .ref (mo 6), .int sp, .int wr, .long dd]))], cMs v mo fs, cMe v mo wo3, cMn v mo lk5] _ _ [.int (zI (vdV lo hi P n i))]
      exact E dX7_verdict_35 rfl (rfl) (by decide) (by decide) (⟨_, _, rfl, rfl⟩)
    · exact absurd c17 (by decide)

set_option maxHeartbeats 4000000 in
set_option maxRecDepth 100000 in
theorem c_X7_savedStates (l : Launch) (v : VV) (mo : Nat → Nat) (th : Int32) (sm : Nat) (ln : Nat) (rm : Int32) (fa : Int32) (sp : Int32) (wr : Int32) (dd : Int64) : MI l v yX7_savedStates cX7_savedStates 1 (some .int) ({ frames := 0, cells := 0, slots := 0, locals := 0 }) [.ref (mo 0)] [[((mo 0), .inr (7, [.int th, .ref (mo 1), .ref (mo 2), .int (nI sm), .ref (mo 3), .int (nI ln), .ref (mo 4), .int rm, .int fa, .ref (mo 5), .ref (mo 6), .int sp, .int wr, .long dd]))]] (fun r w_ => r = nI sm ∧ w_ = [[((mo 0), .inr (7, [.int (nI 0), .ref (mo 1), .ref (mo 2), .int (nI sm), .ref (mo 3), .int (nI ln), .ref (mo 4), .int rm, .int fa, .ref (mo 5), .ref (mo 6), .int sp, .int wr, .long dd]))]]) 0 0 := by
  refine mm_int (by decide) (Nat.le_of_ble_eq_true rfl) [(0, .ref (mo 0))] rfl (fun k X E => ?_)
  refine g_aload_n X dX7_savedStates_0 0 rfl rfl ?_
  refine g_iconst (x := nI 0) X dX7_savedStates_1 (by decide +kernel) ?_
  refine g_put (cs' := [[((mo 0), .inr (7, [.int (nI 0), .ref (mo 1), .ref (mo 2), .int (nI sm), .ref (mo 3), .int (nI ln), .ref (mo 4), .int rm, .int fa, .ref (mo 5), .ref (mo 6), .int sp, .int wr, .long dd]))]]) X cb7 0 q_15_23 dX7_savedStates_2 0 0 rfl rfl (by decide) rfl rfl (rfl) (rfl) (Nat.le_of_ble_eq_true rfl) rfl ?_
  refine g_aload_n X dX7_savedStates_5 0 rfl rfl ?_
  refine g_get X cb7 3 q_16_4 dX7_savedStates_6 0 0 rfl rfl (by decide) rfl rfl ?_
  exact E dX7_savedStates_9 rfl (rfl) (by decide) (by decide) (⟨rfl, rfl⟩)

set_option maxHeartbeats 4000000 in
set_option maxRecDepth 100000 in
theorem c_X7_clearBuffer (l : Launch) (v : VV) (mo : Nat → Nat) (th : Int32) (sm : Nat) (ln : Nat) (rm : Int32) (fa : Int32) (sp : Int32) (wr : Int32) (dd : Int64) : MI l v yX7_clearBuffer cX7_clearBuffer 2 (some .int) ({ frames := 0, cells := 0, slots := 0, locals := 0 }) [.ref (mo 0)] [[((mo 0), .inr (7, [.int th, .ref (mo 1), .ref (mo 2), .int (nI sm), .ref (mo 3), .int (nI ln), .ref (mo 4), .int rm, .int fa, .ref (mo 5), .ref (mo 6), .int sp, .int wr, .long dd]))]] (fun r w_ => r = nI ln ∧ w_ = [[((mo 0), .inr (7, [.int (nI 0), .ref (mo 1), .ref (mo 2), .int (nI sm), .ref (mo 3), .int (nI 0), .ref (mo 4), .int rm, .int fa, .ref (mo 5), .ref (mo 6), .int sp, .int wr, .long dd]))]]) 0 0 := by
  refine mm_int (by decide) (Nat.le_of_ble_eq_true rfl) [(0, .ref (mo 0))] rfl (fun k X E => ?_)
  refine g_aload_n X dX7_clearBuffer_0 0 rfl rfl ?_
  refine g_iconst (x := nI 0) X dX7_clearBuffer_1 (by decide +kernel) ?_
  refine g_put (cs' := [[((mo 0), .inr (7, [.int (nI 0), .ref (mo 1), .ref (mo 2), .int (nI sm), .ref (mo 3), .int (nI ln), .ref (mo 4), .int rm, .int fa, .ref (mo 5), .ref (mo 6), .int sp, .int wr, .long dd]))]]) X cb7 0 q_15_23 dX7_clearBuffer_2 0 0 rfl rfl (by decide) rfl rfl (rfl) (rfl) (Nat.le_of_ble_eq_true rfl) rfl ?_
  refine g_aload_n X dX7_clearBuffer_5 0 rfl rfl ?_
  refine g_get X cb7 5 q_14_11 dX7_clearBuffer_6 0 0 rfl rfl (by decide) rfl rfl ?_
  refine g_istore_n (lv' := [(1, .int (nI ln)), (0, .ref (mo 0))]) X dX7_clearBuffer_9 rfl (by decide) rfl ?_
  refine g_aload_n X dX7_clearBuffer_10 1 rfl rfl ?_
  refine g_iconst (x := nI 0) X dX7_clearBuffer_11 (by decide +kernel) ?_
  refine g_put (cs' := [[((mo 0), .inr (7, [.int (nI 0), .ref (mo 1), .ref (mo 2), .int (nI sm), .ref (mo 3), .int (nI 0), .ref (mo 4), .int rm, .int fa, .ref (mo 5), .ref (mo 6), .int sp, .int wr, .long dd]))]]) X cb7 5 q_14_11 dX7_clearBuffer_12 0 0 rfl rfl (by decide) rfl rfl (rfl) (rfl) (Nat.le_of_ble_eq_true rfl) rfl ?_
  refine g_iload_n X dX7_clearBuffer_15 0 rfl rfl ?_
  exact E dX7_clearBuffer_16 rfl (rfl) (by decide) (by decide) (⟨rfl, rfl⟩)

