/-! ## the model: the face, places and bounds -/
theorem inI_badN {x : Int32} {n : Nat} (h : bdI x (n + 1)) (hn : n < 2147483647) : inI x (nI 0) (nI n) = false := by
  have h9 := inI_bad h (by omega)
  rwa [show zI (((n + 1 : Nat) : Int) - 1) = nI n from by rw [zI_nI]; congr 1; omega] at h9

set_option maxHeartbeats 4000000 in
set_option maxRecDepth 100000 in
theorem c_X7_demand (l : Launch) (v : VV) (mo : Nat → Nat) (th : Int32) (sm : Nat) (ln : Nat) (rm : Int32) (fa : Int32) (sp : Int32) (wr : Int32) (dd : Int64) (P : Nat → S9) (n : Nat) (lo : Nat → Nat) (hi : Nat → Nat) (fs : Nat → Int32) (fe : Nat → Int32) (i : Nat) (hW : WF P n) (hS : SR P n lo hi fs) (hi9 : i < n + 1) : MI l v yX7_demand cX7_demand 2 (some .int) ({ frames := 6, cells := 0, slots := 0, locals := 138 }) [.ref (mo 0), .int (nI i)] [[((mo 0), .inr (7, [.int th, .ref (mo 1), .ref (mo 2), .int (nI sm), .ref (mo 3), .int (nI ln), .ref (mo 4), .int rm, .int fa, .ref (mo 5), .ref (mo 6), .int sp, .int wr, .long dd]))], cMs v mo fs, cMe v mo fe] (fun r w_ => ∃ fe', r = nI (dmV P n i) ∧ w_ = [[((mo 0), .inr (7, [.int (nI 0), .ref (mo 1), .ref (mo 2), .int (nI sm), .ref (mo 3), .int (nI ln), .ref (mo 4), .int rm, .int fa, .ref (mo 5), .ref (mo 6), .int sp, .int wr, .long dd]))], cMs v mo fs, cMe v mo fe']) 0 0 := by
  refine mm_int (by decide) (Nat.le_of_ble_eq_true rfl) [(0, .ref (mo 0)), (1, .int (nI i))] rfl (fun k X E => ?_)
  have hn12 := hW.1
  refine g_aload_n X dX7_demand_0 0 rfl rfl ?_
  refine g_iload_n X dX7_demand_1 1 rfl rfl ?_
  refine g_iconst (x := nI 0) X dX7_demand_2 (by decide +kernel) ?_
  refine g_aload_n X dX7_demand_3 0 rfl rfl ?_
  refine g_get X cb7 1 q_4_18 dX7_demand_4 0 0 rfl rfl (by decide) rfl rfl ?_
  refine g_iconst (x := nI 0) X dX7_demand_7 (by decide +kernel) ?_
  refine g_iald X dX7_demand_8 1 0 rfl rfl (by omega) (by omega) ?_
  refine g_v (y := nI n) (hS.1) ?_
  refine g_callS (As := [.int (nI i), .int (nI 0), .int (nI n)]) (rest := [.ref (mo 0)]) (wr := [[((mo 0), .inr (7, [.int th, .ref (mo 1), .ref (mo 2), .int (nI sm), .ref (mo 3), .int (nI ln), .ref (mo 4), .int rm, .int fa, .ref (mo 5), .ref (mo 6), .int sp, .int wr, .long dd]))], cMs v mo fs, cMe v mo fe]) X (c_X7_in l v (nI i) (nI 0) (nI n)) f_X7_in q_14_20 dX7_demand_9 [] [0, 1, 2] rfl rfl (by decide) rfl rfl (Nat.le_of_ble_eq_true rfl) (by decide) (fun r_ w_ hp1 => ?_)
  rw [inI_N (by omega) (by omega) (by omega)] at hp1
  obtain ⟨rfl, rfl⟩ := hp1
  show GG k _ _ [[((mo 0), .inr (7, [.int th, .ref (mo 1), .ref (mo 2), .int (nI sm), .ref (mo 3), .int (nI ln), .ref (mo 4), .int rm, .int fa, .ref (mo 5), .ref (mo 6), .int sp, .int wr, .long dd]))], cMs v mo fs, cMe v mo fe] _ _ [.int (bI (decide (0 ≤ i ∧ i ≤ n))), .ref (mo 0)]
  refine g_if_eqB (tgt := 19) X dX7_demand_12 (by decide) (fun c12 => ?_) (fun c12 => ?_)
  · exact (of_decide_eq_false c12 ⟨by omega, by omega⟩).elim
  · refine g_iconst (x := nI 0) X dX7_demand_15 (by decide +kernel) ?_
    refine g_goto (tgt := 20) X dX7_demand_16 (by decide) ?_
    refine g_callV (As := [.int (nI 0)]) (rest := []) (wr := [cMs v mo fs, cMe v mo fe]) X (c_X7_holds l v mo th sm ln rm fa sp wr dd 0 (by omega)) f_X7_holds q_15_19 dX7_demand_20 [0] [1, 2] rfl rfl (by decide) 0 rfl rfl rfl rfl (Nat.le_of_ble_eq_true rfl) (by decide) (fun r_ w_ hp2 => ?_)
    obtain ⟨rfl, rfl⟩ := hp2
    show GG k _ _ [[((mo 0), .inr (7, [.int (nI 0), .ref (mo 1), .ref (mo 2), .int (nI sm), .ref (mo 3), .int (nI ln), .ref (mo 4), .int rm, .int fa, .ref (mo 5), .ref (mo 6), .int sp, .int wr, .long dd]))], cMs v mo fs, cMe v mo fe] _ _ [.int (nI 1)]
    refine g_if_neN (tgt := 28) X dX7_demand_23 (by decide) (by omega) (fun c23 => ?_) (fun c23 => ?_)
    · refine g_aload_n X dX7_demand_28 0 rfl rfl ?_
      refine g_callV (As := []) (rest := []) (wr := []) X (c_X7_worksOut l v mo (nI 0) sm ln rm fa sp wr dd P n lo hi fs fe hW hS) f_X7_worksOut q_22_10 dX7_demand_29 [0, 1, 2] [] rfl rfl (by decide) 0 rfl rfl rfl rfl (Nat.le_of_ble_eq_true rfl) (by decide) (fun r_ w_ hp4 => ?_)
      obtain ⟨wo3, wo3E, rfl⟩ := hp4
      show GG k _ _ [[((mo 0), .inr (7, [.int (nI 0), .ref (mo 1), .ref (mo 2), .int (nI sm), .ref (mo 3), .int (nI ln), .ref (mo 4), .int rm, .int fa, .ref (mo 5), .ref (mo 6), .int sp, .int wr, .long dd]))], cMs v mo fs, cMe v mo wo3] _ _ []
      refine g_aload_n X dX7_demand_32 0 rfl rfl ?_
      refine g_iload_n X dX7_demand_33 1 rfl rfl ?_
      refine g_callV (As := [.int (nI i)]) (rest := []) (wr := [cMs v mo fs]) X (c_X7_demanded l v mo (nI 0) sm ln rm fa sp wr dd P n wo3 i hW wo3E (by omega)) f_X7_demanded q_25_3 dX7_demand_34 [0, 2] [1] rfl rfl (by decide) 0 rfl rfl rfl rfl (Nat.le_of_ble_eq_true rfl) (by decide) (fun r_ w_ hp5 => ?_)
      obtain ⟨rfl, rfl⟩ := hp5
      show GG k _ _ [[((mo 0), .inr (7, [.int (nI 0), .ref (mo 1), .ref (mo 2), .int (nI sm), .ref (mo 3), .int (nI ln), .ref (mo 4), .int rm, .int fa, .ref (mo 5), .ref (mo 6), .int sp, .int wr, .long dd]))], cMe v mo wo3, cMs v mo fs] _ _ [.int (nI (dmV P n i))]
      refine g_pick (cs' := [[((mo 0), .inr (7, [.int (nI 0), .ref (mo 1), .ref (mo 2), .int (nI sm), .ref (mo 3), .int (nI ln), .ref (mo 4), .int rm, .int fa, .ref (mo 5), .ref (mo 6), .int sp, .int wr, .long dd]))], cMs v mo fs, cMe v mo wo3]) [0, 2, 1] rfl rfl ?_
      exact E dX7_demand_37 rfl (rfl) (by decide) (by decide) (⟨_, rfl, rfl⟩)
    · exact absurd c23 (by decide)

set_option maxHeartbeats 4000000 in
set_option maxRecDepth 100000 in
theorem b_X7_demand (l : Launch) (v : VV) (mo : Nat → Nat) (th : Int32) (sm : Nat) (ln : Nat) (rm : Int32) (fa : Int32) (sp : Int32) (wr : Int32) (dd : Int64) (P : Nat → S9) (n : Nat) (lo : Nat → Nat) (hi : Nat → Nat) (fs : Nat → Int32) (x : Int32) (hW : WF P n) (hS : SR P n lo hi fs) (hx : bdI x (n + 1)) : MI l v yX7_demand cX7_demand 2 (some .int) ({ frames := 1, cells := 0, slots := 0, locals := 22 }) [.ref (mo 0), .int x] [[((mo 0), .inr (7, [.int th, .ref (mo 1), .ref (mo 2), .int (nI sm), .ref (mo 3), .int (nI ln), .ref (mo 4), .int rm, .int fa, .ref (mo 5), .ref (mo 6), .int sp, .int wr, .long dd]))], cMs v mo fs] (fun r w_ => r = nI 0 ∧ w_ = [[((mo 0), .inr (7, [.int (nI 1), .ref (mo 1), .ref (mo 2), .int (nI sm), .ref (mo 3), .int (nI ln), .ref (mo 4), .int rm, .int fa, .ref (mo 5), .ref (mo 6), .int sp, .int wr, .long dd]))], cMs v mo fs]) 0 0 := by
  refine mm_int (by decide) (Nat.le_of_ble_eq_true rfl) [(0, .ref (mo 0)), (1, .int x)] rfl (fun k X E => ?_)
  have hn12 := hW.1
  refine g_aload_n X dX7_demand_0 0 rfl rfl ?_
  refine g_iload_n X dX7_demand_1 1 rfl rfl ?_
  refine g_iconst (x := nI 0) X dX7_demand_2 (by decide +kernel) ?_
  refine g_aload_n X dX7_demand_3 0 rfl rfl ?_
  refine g_get X cb7 1 q_4_18 dX7_demand_4 0 0 rfl rfl (by decide) rfl rfl ?_
  refine g_iconst (x := nI 0) X dX7_demand_7 (by decide +kernel) ?_
  refine g_iald X dX7_demand_8 1 0 rfl rfl (by omega) (by omega) ?_
  refine g_v (y := nI n) (hS.1) ?_
  refine g_callS (As := [.int x, .int (nI 0), .int (nI n)]) (rest := [.ref (mo 0)]) (wr := [[((mo 0), .inr (7, [.int th, .ref (mo 1), .ref (mo 2), .int (nI sm), .ref (mo 3), .int (nI ln), .ref (mo 4), .int rm, .int fa, .ref (mo 5), .ref (mo 6), .int sp, .int wr, .long dd]))], cMs v mo fs]) X (c_X7_in l v x (nI 0) (nI n)) f_X7_in q_14_20 dX7_demand_9 [] [0, 1] rfl rfl (by decide) rfl rfl (Nat.le_of_ble_eq_true rfl) (by decide) (fun r_ w_ hp1 => ?_)
  obtain ⟨rfl, rfl⟩ := hp1
  show GG k _ _ [[((mo 0), .inr (7, [.int th, .ref (mo 1), .ref (mo 2), .int (nI sm), .ref (mo 3), .int (nI ln), .ref (mo 4), .int rm, .int fa, .ref (mo 5), .ref (mo 6), .int sp, .int wr, .long dd]))], cMs v mo fs] _ _ [.int (bI (inI x (nI 0) (nI n))), .ref (mo 0)]
  refine g_if_eqB (tgt := 19) X dX7_demand_12 (by decide) (fun c12 => ?_) (fun c12 => ?_)
  · refine g_iconst (x := nI 1) X dX7_demand_19 (by decide +kernel) ?_
    refine g_callV (As := [.int (nI 1)]) (rest := []) (wr := [cMs v mo fs]) X (c_X7_holds l v mo th sm ln rm fa sp wr dd 1 (by omega)) f_X7_holds q_15_19 dX7_demand_20 [0] [1] rfl rfl (by decide) 0 rfl rfl rfl rfl (Nat.le_of_ble_eq_true rfl) (by decide) (fun r_ w_ hp2 => ?_)
    obtain ⟨rfl, rfl⟩ := hp2
    show GG k _ _ [[((mo 0), .inr (7, [.int (nI 1), .ref (mo 1), .ref (mo 2), .int (nI sm), .ref (mo 3), .int (nI ln), .ref (mo 4), .int rm, .int fa, .ref (mo 5), .ref (mo 6), .int sp, .int wr, .long dd]))], cMs v mo fs] _ _ [.int (nI 0)]
    refine g_if_neN (tgt := 28) X dX7_demand_23 (by decide) (by omega) (fun c23 => ?_) (fun c23 => ?_)
    · exact absurd rfl c23
    · refine g_iconst (x := nI 0) X dX7_demand_26 (by decide +kernel) ?_
      exact E dX7_demand_27 rfl (rfl) (by decide) (by decide) (⟨rfl, rfl⟩)
  · exact absurd c12 (by rw [inI_badN hx (by omega)]; decide)

set_option maxHeartbeats 4000000 in
set_option maxRecDepth 100000 in
theorem c_X7_least (l : Launch) (v : VV) (mo : Nat → Nat) (th : Int32) (sm : Nat) (ln : Nat) (rm : Int32) (fa : Int32) (sp : Int32) (wr : Int32) (dd : Int64) (P : Nat → S9) (n : Nat) (lo : Nat → Nat) (hi : Nat → Nat) (fs : Nat → Int32) (fn : Nat → Int32) (i : Nat) (w : Nat) (hW : WF P n) (hS : SR P n lo hi fs) (hL : AsW lo hi) (hi9 : i < n + 1) (hw9 : w < 3) : MI l v yX7_least cX7_least 3 (some .int) ({ frames := 5, cells := 0, slots := 0, locals := 115 }) [.ref (mo 0), .int (nI i), .int (nI w)] [[((mo 0), .inr (7, [.int th, .ref (mo 1), .ref (mo 2), .int (nI sm), .ref (mo 3), .int (nI ln), .ref (mo 4), .int rm, .int fa, .ref (mo 5), .ref (mo 6), .int sp, .int wr, .long dd]))], cMs v mo fs, cMn v mo fn] (fun r w_ => ∃ fn', r = zI (mnV lo hi P n i w) ∧ w_ = [[((mo 0), .inr (7, [.int (nI 0), .ref (mo 1), .ref (mo 2), .int (nI sm), .ref (mo 3), .int (nI ln), .ref (mo 4), .int rm, .int fa, .ref (mo 5), .ref (mo 6), .int sp, .int wr, .long dd]))], cMs v mo fs, cMn v mo fn']) 0 0 := by
  refine mm_int (by decide) (Nat.le_of_ble_eq_true rfl) [(0, .ref (mo 0)), (1, .int (nI i)), (2, .int (nI w))] rfl (fun k X E => ?_)
  have hn12 := hW.1
  refine g_aload_n X dX7_least_0 0 rfl rfl ?_
  refine g_iload_n X dX7_least_1 1 rfl rfl ?_
  refine g_iconst (x := nI 0) X dX7_least_2 (by decide +kernel) ?_
  refine g_aload_n X dX7_least_3 0 rfl rfl ?_
  refine g_get X cb7 1 q_4_18 dX7_least_4 0 0 rfl rfl (by decide) rfl rfl ?_
  refine g_iconst (x := nI 0) X dX7_least_7 (by decide +kernel) ?_
  refine g_iald X dX7_least_8 1 0 rfl rfl (by omega) (by omega) ?_
  refine g_v (y := nI n) (hS.1) ?_
  refine g_callS (As := [.int (nI i), .int (nI 0), .int (nI n)]) (rest := [.ref (mo 0)]) (wr := [[((mo 0), .inr (7, [.int th, .ref (mo 1), .ref (mo 2), .int (nI sm), .ref (mo 3), .int (nI ln), .ref (mo 4), .int rm, .int fa, .ref (mo 5), .ref (mo 6), .int sp, .int wr, .long dd]))], cMs v mo fs, cMn v mo fn]) X (c_X7_in l v (nI i) (nI 0) (nI n)) f_X7_in q_14_20 dX7_least_9 [] [0, 1, 2] rfl rfl (by decide) rfl rfl (Nat.le_of_ble_eq_true rfl) (by decide) (fun r_ w_ hp1 => ?_)
  rw [inI_N (by omega) (by omega) (by omega)] at hp1
  obtain ⟨rfl, rfl⟩ := hp1
  show GG k _ _ [[((mo 0), .inr (7, [.int th, .ref (mo 1), .ref (mo 2), .int (nI sm), .ref (mo 3), .int (nI ln), .ref (mo 4), .int rm, .int fa, .ref (mo 5), .ref (mo 6), .int sp, .int wr, .long dd]))], cMs v mo fs, cMn v mo fn] _ _ [.int (bI (decide (0 ≤ i ∧ i ≤ n))), .ref (mo 0)]
  refine g_if_eqB (tgt := 28) X dX7_least_12 (by decide) (fun c12 => ?_) (fun c12 => ?_)
  · exact (of_decide_eq_false c12 ⟨by omega, by omega⟩).elim
  · refine g_iload_n X dX7_least_15 2 rfl rfl ?_
    refine g_iconst (x := nI 0) X dX7_least_16 (by decide +kernel) ?_
    refine g_iconst (x := nI 2) X dX7_least_17 (by decide +kernel) ?_
    refine g_callS (As := [.int (nI w), .int (nI 0), .int (nI 2)]) (rest := [.ref (mo 0)]) (wr := [[((mo 0), .inr (7, [.int th, .ref (mo 1), .ref (mo 2), .int (nI sm), .ref (mo 3), .int (nI ln), .ref (mo 4), .int rm, .int fa, .ref (mo 5), .ref (mo 6), .int sp, .int wr, .long dd]))], cMs v mo fs, cMn v mo fn]) X (c_X7_in l v (nI w) (nI 0) (nI 2)) f_X7_in q_14_20 dX7_least_18 [] [0, 1, 2] rfl rfl (by decide) rfl rfl (Nat.le_of_ble_eq_true rfl) (by decide) (fun r_ w_ hp2 => ?_)
    rw [inI_N (by omega) (by omega) (by omega)] at hp2
    obtain ⟨rfl, rfl⟩ := hp2
    show GG k _ _ [[((mo 0), .inr (7, [.int th, .ref (mo 1), .ref (mo 2), .int (nI sm), .ref (mo 3), .int (nI ln), .ref (mo 4), .int rm, .int fa, .ref (mo 5), .ref (mo 6), .int sp, .int wr, .long dd]))], cMs v mo fs, cMn v mo fn] _ _ [.int (bI (decide (0 ≤ w ∧ w ≤ 2))), .ref (mo 0)]
    refine g_if_eqB (tgt := 28) X dX7_least_21 (by decide) (fun c21 => ?_) (fun c21 => ?_)
    · exact (of_decide_eq_false c21 ⟨by omega, by omega⟩).elim
    · refine g_iconst (x := nI 0) X dX7_least_24 (by decide +kernel) ?_
      refine g_goto (tgt := 29) X dX7_least_25 (by decide) ?_
      refine g_callV (As := [.int (nI 0)]) (rest := []) (wr := [cMs v mo fs, cMn v mo fn]) X (c_X7_holds l v mo th sm ln rm fa sp wr dd 0 (by omega)) f_X7_holds q_15_19 dX7_least_29 [0] [1, 2] rfl rfl (by decide) 0 rfl rfl rfl rfl (Nat.le_of_ble_eq_true rfl) (by decide) (fun r_ w_ hp3 => ?_)
      obtain ⟨rfl, rfl⟩ := hp3
      show GG k _ _ [[((mo 0), .inr (7, [.int (nI 0), .ref (mo 1), .ref (mo 2), .int (nI sm), .ref (mo 3), .int (nI ln), .ref (mo 4), .int rm, .int fa, .ref (mo 5), .ref (mo 6), .int sp, .int wr, .long dd]))], cMs v mo fs, cMn v mo fn] _ _ [.int (nI 1)]
      refine g_if_neN (tgt := 37) X dX7_least_32 (by decide) (by omega) (fun c32 => ?_) (fun c32 => ?_)
      · refine g_aload_n X dX7_least_37 0 rfl rfl ?_
        refine g_callV (As := []) (rest := []) (wr := []) X (c_X7_looks l v mo (nI 0) sm ln rm fa sp wr dd P n lo hi fs fn hW hS hL) f_X7_looks q_28_22 dX7_least_38 [0, 1, 2] [] rfl rfl (by decide) 0 rfl rfl rfl rfl (Nat.le_of_ble_eq_true rfl) (by decide) (fun r_ w_ hp5 => ?_)
        obtain ⟨lk4, lk4N, rfl⟩ := hp5
        show GG k _ _ [[((mo 0), .inr (7, [.int (nI 0), .ref (mo 1), .ref (mo 2), .int (nI sm), .ref (mo 3), .int (nI ln), .ref (mo 4), .int rm, .int fa, .ref (mo 5), .ref (mo 6), .int sp, .int wr, .long dd]))], cMs v mo fs, cMn v mo lk4] _ _ []
        refine g_aload_n X dX7_least_41 0 rfl rfl ?_
        refine g_iload_n X dX7_least_42 1 rfl rfl ?_
        refine g_iload_n X dX7_least_43 2 rfl rfl ?_
        refine g_iconst (x := nI 1) X dX7_least_44 (by decide +kernel) ?_
        refine g_callV (As := [.int (nI i), .int (nI w), .int (nI 1)]) (rest := []) (wr := [cMs v mo fs]) X (cMn_X7_bound l v mo (nI 0) sm ln rm fa sp wr dd lo hi P n lk4 i w hn12 lk4N (by omega) (by omega)) f_X7_bound q_32_0 dX7_least_45 [0, 2] [1] rfl rfl (by decide) 0 rfl rfl rfl rfl (Nat.le_of_ble_eq_true rfl) (by decide) (fun r_ w_ hp6 => ?_)
        obtain ⟨rfl, rfl⟩ := hp6
        show GG k _ _ [[((mo 0), .inr (7, [.int (nI 0), .ref (mo 1), .ref (mo 2), .int (nI sm), .ref (mo 3), .int (nI ln), .ref (mo 4), .int rm, .int fa, .ref (mo 5), .ref (mo 6), .int sp, .int wr, .long dd]))], cMn v mo lk4, cMs v mo fs] _ _ [.int (zI (mnV lo hi P n i w))]
        refine g_pick (cs' := [[((mo 0), .inr (7, [.int (nI 0), .ref (mo 1), .ref (mo 2), .int (nI sm), .ref (mo 3), .int (nI ln), .ref (mo 4), .int rm, .int fa, .ref (mo 5), .ref (mo 6), .int sp, .int wr, .long dd]))], cMs v mo fs, cMn v mo lk4]) [0, 2, 1] rfl rfl ?_
        exact E dX7_least_48 rfl (rfl) (by decide) (by decide) (⟨_, rfl, rfl⟩)
      · exact absurd c32 (by decide)

set_option maxHeartbeats 4000000 in
set_option maxRecDepth 100000 in
theorem b_X7_least (l : Launch) (v : VV) (mo : Nat → Nat) (th : Int32) (sm : Nat) (ln : Nat) (rm : Int32) (fa : Int32) (sp : Int32) (wr : Int32) (dd : Int64) (P : Nat → S9) (n : Nat) (lo : Nat → Nat) (hi : Nat → Nat) (fs : Nat → Int32) (x : Int32) (y : Int32) (hW : WF P n) (hS : SR P n lo hi fs) (hx : bdI x (n + 1)) : MI l v yX7_least cX7_least 3 (some .int) ({ frames := 1, cells := 0, slots := 0, locals := 22 }) [.ref (mo 0), .int x, .int y] [[((mo 0), .inr (7, [.int th, .ref (mo 1), .ref (mo 2), .int (nI sm), .ref (mo 3), .int (nI ln), .ref (mo 4), .int rm, .int fa, .ref (mo 5), .ref (mo 6), .int sp, .int wr, .long dd]))], cMs v mo fs] (fun r w_ => r = nI 0 ∧ w_ = [[((mo 0), .inr (7, [.int (nI 1), .ref (mo 1), .ref (mo 2), .int (nI sm), .ref (mo 3), .int (nI ln), .ref (mo 4), .int rm, .int fa, .ref (mo 5), .ref (mo 6), .int sp, .int wr, .long dd]))], cMs v mo fs]) 0 0 := by
  refine mm_int (by decide) (Nat.le_of_ble_eq_true rfl) [(0, .ref (mo 0)), (1, .int x), (2, .int y)] rfl (fun k X E => ?_)
  have hn12 := hW.1
  refine g_aload_n X dX7_least_0 0 rfl rfl ?_
  refine g_iload_n X dX7_least_1 1 rfl rfl ?_
  refine g_iconst (x := nI 0) X dX7_least_2 (by decide +kernel) ?_
  refine g_aload_n X dX7_least_3 0 rfl rfl ?_
  refine g_get X cb7 1 q_4_18 dX7_least_4 0 0 rfl rfl (by decide) rfl rfl ?_
  refine g_iconst (x := nI 0) X dX7_least_7 (by decide +kernel) ?_
  refine g_iald X dX7_least_8 1 0 rfl rfl (by omega) (by omega) ?_
  refine g_v (y := nI n) (hS.1) ?_
  refine g_callS (As := [.int x, .int (nI 0), .int (nI n)]) (rest := [.ref (mo 0)]) (wr := [[((mo 0), .inr (7, [.int th, .ref (mo 1), .ref (mo 2), .int (nI sm), .ref (mo 3), .int (nI ln), .ref (mo 4), .int rm, .int fa, .ref (mo 5), .ref (mo 6), .int sp, .int wr, .long dd]))], cMs v mo fs]) X (c_X7_in l v x (nI 0) (nI n)) f_X7_in q_14_20 dX7_least_9 [] [0, 1] rfl rfl (by decide) rfl rfl (Nat.le_of_ble_eq_true rfl) (by decide) (fun r_ w_ hp1 => ?_)
  obtain ⟨rfl, rfl⟩ := hp1
  show GG k _ _ [[((mo 0), .inr (7, [.int th, .ref (mo 1), .ref (mo 2), .int (nI sm), .ref (mo 3), .int (nI ln), .ref (mo 4), .int rm, .int fa, .ref (mo 5), .ref (mo 6), .int sp, .int wr, .long dd]))], cMs v mo fs] _ _ [.int (bI (inI x (nI 0) (nI n))), .ref (mo 0)]
  refine g_if_eqB (tgt := 28) X dX7_least_12 (by decide) (fun c12 => ?_) (fun c12 => ?_)
  · refine g_iconst (x := nI 1) X dX7_least_28 (by decide +kernel) ?_
    refine g_callV (As := [.int (nI 1)]) (rest := []) (wr := [cMs v mo fs]) X (c_X7_holds l v mo th sm ln rm fa sp wr dd 1 (by omega)) f_X7_holds q_15_19 dX7_least_29 [0] [1] rfl rfl (by decide) 0 rfl rfl rfl rfl (Nat.le_of_ble_eq_true rfl) (by decide) (fun r_ w_ hp2 => ?_)
    obtain ⟨rfl, rfl⟩ := hp2
    show GG k _ _ [[((mo 0), .inr (7, [.int (nI 1), .ref (mo 1), .ref (mo 2), .int (nI sm), .ref (mo 3), .int (nI ln), .ref (mo 4), .int rm, .int fa, .ref (mo 5), .ref (mo 6), .int sp, .int wr, .long dd]))], cMs v mo fs] _ _ [.int (nI 0)]
    refine g_if_neN (tgt := 37) X dX7_least_32 (by decide) (by omega) (fun c32 => ?_) (fun c32 => ?_)
    · exact absurd rfl c32
    · refine g_iconst (x := nI 0) X dX7_least_35 (by decide +kernel) ?_
      exact E dX7_least_36 rfl (rfl) (by decide) (by decide) (⟨rfl, rfl⟩)
  · exact absurd c12 (by rw [inI_badN hx (by omega)]; decide)

set_option maxHeartbeats 4000000 in
set_option maxRecDepth 100000 in
theorem b1_X7_least (l : Launch) (v : VV) (mo : Nat → Nat) (th : Int32) (sm : Nat) (ln : Nat) (rm : Int32) (fa : Int32) (sp : Int32) (wr : Int32) (dd : Int64) (P : Nat → S9) (n : Nat) (lo : Nat → Nat) (hi : Nat → Nat) (fs : Nat → Int32) (i : Nat) (y : Int32) (hW : WF P n) (hS : SR P n lo hi fs) (hi9 : i < n + 1) (hx : bdI y 3) : MI l v yX7_least cX7_least 3 (some .int) ({ frames := 1, cells := 0, slots := 0, locals := 22 }) [.ref (mo 0), .int (nI i), .int y] [[((mo 0), .inr (7, [.int th, .ref (mo 1), .ref (mo 2), .int (nI sm), .ref (mo 3), .int (nI ln), .ref (mo 4), .int rm, .int fa, .ref (mo 5), .ref (mo 6), .int sp, .int wr, .long dd]))], cMs v mo fs] (fun r w_ => r = nI 0 ∧ w_ = [[((mo 0), .inr (7, [.int (nI 1), .ref (mo 1), .ref (mo 2), .int (nI sm), .ref (mo 3), .int (nI ln), .ref (mo 4), .int rm, .int fa, .ref (mo 5), .ref (mo 6), .int sp, .int wr, .long dd]))], cMs v mo fs]) 0 0 := by
  refine mm_int (by decide) (Nat.le_of_ble_eq_true rfl) [(0, .ref (mo 0)), (1, .int (nI i)), (2, .int y)] rfl (fun k X E => ?_)
  have hn12 := hW.1
  refine g_aload_n X dX7_least_0 0 rfl rfl ?_
  refine g_iload_n X dX7_least_1 1 rfl rfl ?_
  refine g_iconst (x := nI 0) X dX7_least_2 (by decide +kernel) ?_
  refine g_aload_n X dX7_least_3 0 rfl rfl ?_
  refine g_get X cb7 1 q_4_18 dX7_least_4 0 0 rfl rfl (by decide) rfl rfl ?_
  refine g_iconst (x := nI 0) X dX7_least_7 (by decide +kernel) ?_
  refine g_iald X dX7_least_8 1 0 rfl rfl (by omega) (by omega) ?_
  refine g_v (y := nI n) (hS.1) ?_
  refine g_callS (As := [.int (nI i), .int (nI 0), .int (nI n)]) (rest := [.ref (mo 0)]) (wr := [[((mo 0), .inr (7, [.int th, .ref (mo 1), .ref (mo 2), .int (nI sm), .ref (mo 3), .int (nI ln), .ref (mo 4), .int rm, .int fa, .ref (mo 5), .ref (mo 6), .int sp, .int wr, .long dd]))], cMs v mo fs]) X (c_X7_in l v (nI i) (nI 0) (nI n)) f_X7_in q_14_20 dX7_least_9 [] [0, 1] rfl rfl (by decide) rfl rfl (Nat.le_of_ble_eq_true rfl) (by decide) (fun r_ w_ hp1 => ?_)
  rw [inI_N (by omega) (by omega) (by omega)] at hp1
  obtain ⟨rfl, rfl⟩ := hp1
  show GG k _ _ [[((mo 0), .inr (7, [.int th, .ref (mo 1), .ref (mo 2), .int (nI sm), .ref (mo 3), .int (nI ln), .ref (mo 4), .int rm, .int fa, .ref (mo 5), .ref (mo 6), .int sp, .int wr, .long dd]))], cMs v mo fs] _ _ [.int (bI (decide (0 ≤ i ∧ i ≤ n))), .ref (mo 0)]
  refine g_if_eqB (tgt := 28) X dX7_least_12 (by decide) (fun c12 => ?_) (fun c12 => ?_)
  · exact (of_decide_eq_false c12 ⟨by omega, by omega⟩).elim
  · refine g_iload_n X dX7_least_15 2 rfl rfl ?_
    refine g_iconst (x := nI 0) X dX7_least_16 (by decide +kernel) ?_
    refine g_iconst (x := nI 2) X dX7_least_17 (by decide +kernel) ?_
    refine g_callS (As := [.int y, .int (nI 0), .int (nI 2)]) (rest := [.ref (mo 0)]) (wr := [[((mo 0), .inr (7, [.int th, .ref (mo 1), .ref (mo 2), .int (nI sm), .ref (mo 3), .int (nI ln), .ref (mo 4), .int rm, .int fa, .ref (mo 5), .ref (mo 6), .int sp, .int wr, .long dd]))], cMs v mo fs]) X (c_X7_in l v y (nI 0) (nI 2)) f_X7_in q_14_20 dX7_least_18 [] [0, 1] rfl rfl (by decide) rfl rfl (Nat.le_of_ble_eq_true rfl) (by decide) (fun r_ w_ hp2 => ?_)
    obtain ⟨rfl, rfl⟩ := hp2
    show GG k _ _ [[((mo 0), .inr (7, [.int th, .ref (mo 1), .ref (mo 2), .int (nI sm), .ref (mo 3), .int (nI ln), .ref (mo 4), .int rm, .int fa, .ref (mo 5), .ref (mo 6), .int sp, .int wr, .long dd]))], cMs v mo fs] _ _ [.int (bI (inI y (nI 0) (nI 2))), .ref (mo 0)]
    refine g_if_eqB (tgt := 28) X dX7_least_21 (by decide) (fun c21 => ?_) (fun c21 => ?_)
    · refine g_iconst (x := nI 1) X dX7_least_28 (by decide +kernel) ?_
      refine g_callV (As := [.int (nI 1)]) (rest := []) (wr := [cMs v mo fs]) X (c_X7_holds l v mo th sm ln rm fa sp wr dd 1 (by omega)) f_X7_holds q_15_19 dX7_least_29 [0] [1] rfl rfl (by decide) 0 rfl rfl rfl rfl (Nat.le_of_ble_eq_true rfl) (by decide) (fun r_ w_ hp3 => ?_)
      obtain ⟨rfl, rfl⟩ := hp3
      show GG k _ _ [[((mo 0), .inr (7, [.int (nI 1), .ref (mo 1), .ref (mo 2), .int (nI sm), .ref (mo 3), .int (nI ln), .ref (mo 4), .int rm, .int fa, .ref (mo 5), .ref (mo 6), .int sp, .int wr, .long dd]))], cMs v mo fs] _ _ [.int (nI 0)]
      refine g_if_neN (tgt := 37) X dX7_least_32 (by decide) (by omega) (fun c32 => ?_) (fun c32 => ?_)
      · exact absurd rfl c32
      · refine g_iconst (x := nI 0) X dX7_least_35 (by decide +kernel) ?_
        exact E dX7_least_36 rfl (rfl) (by decide) (by decide) (⟨rfl, rfl⟩)
    · exact absurd c21 (by rw [inI_badN hx (by omega)]; decide)

set_option maxHeartbeats 4000000 in
set_option maxRecDepth 100000 in
theorem c_X7_greatest (l : Launch) (v : VV) (mo : Nat → Nat) (th : Int32) (sm : Nat) (ln : Nat) (rm : Int32) (fa : Int32) (sp : Int32) (wr : Int32) (dd : Int64) (P : Nat → S9) (n : Nat) (lo : Nat → Nat) (hi : Nat → Nat) (fs : Nat → Int32) (fn : Nat → Int32) (i : Nat) (w : Nat) (hW : WF P n) (hS : SR P n lo hi fs) (hL : AsW lo hi) (hi9 : i < n + 1) (hw9 : w < 3) : MI l v yX7_greatest cX7_greatest 3 (some .int) ({ frames := 5, cells := 0, slots := 0, locals := 115 }) [.ref (mo 0), .int (nI i), .int (nI w)] [[((mo 0), .inr (7, [.int th, .ref (mo 1), .ref (mo 2), .int (nI sm), .ref (mo 3), .int (nI ln), .ref (mo 4), .int rm, .int fa, .ref (mo 5), .ref (mo 6), .int sp, .int wr, .long dd]))], cMs v mo fs, cMn v mo fn] (fun r w_ => ∃ fn', r = zI (mxV lo hi P n i w) ∧ w_ = [[((mo 0), .inr (7, [.int (nI 0), .ref (mo 1), .ref (mo 2), .int (nI sm), .ref (mo 3), .int (nI ln), .ref (mo 4), .int rm, .int fa, .ref (mo 5), .ref (mo 6), .int sp, .int wr, .long dd]))], cMs v mo fs, cMn v mo fn']) 0 0 := by
  refine mm_int (by decide) (Nat.le_of_ble_eq_true rfl) [(0, .ref (mo 0)), (1, .int (nI i)), (2, .int (nI w))] rfl (fun k X E => ?_)
  have hn12 := hW.1
  refine g_aload_n X dX7_greatest_0 0 rfl rfl ?_
  refine g_iload_n X dX7_greatest_1 1 rfl rfl ?_
  refine g_iconst (x := nI 0) X dX7_greatest_2 (by decide +kernel) ?_
  refine g_aload_n X dX7_greatest_3 0 rfl rfl ?_
  refine g_get X cb7 1 q_4_18 dX7_greatest_4 0 0 rfl rfl (by decide) rfl rfl ?_
  refine g_iconst (x := nI 0) X dX7_greatest_7 (by decide +kernel) ?_
  refine g_iald X dX7_greatest_8 1 0 rfl rfl (by omega) (by omega) ?_
  refine g_v (y := nI n) (hS.1) ?_
  refine g_callS (As := [.int (nI i), .int (nI 0), .int (nI n)]) (rest := [.ref (mo 0)]) (wr := [[((mo 0), .inr (7, [.int th, .ref (mo 1), .ref (mo 2), .int (nI sm), .ref (mo 3), .int (nI ln), .ref (mo 4), .int rm, .int fa, .ref (mo 5), .ref (mo 6), .int sp, .int wr, .long dd]))], cMs v mo fs, cMn v mo fn]) X (c_X7_in l v (nI i) (nI 0) (nI n)) f_X7_in q_14_20 dX7_greatest_9 [] [0, 1, 2] rfl rfl (by decide) rfl rfl (Nat.le_of_ble_eq_true rfl) (by decide) (fun r_ w_ hp1 => ?_)
  rw [inI_N (by omega) (by omega) (by omega)] at hp1
  obtain ⟨rfl, rfl⟩ := hp1
  show GG k _ _ [[((mo 0), .inr (7, [.int th, .ref (mo 1), .ref (mo 2), .int (nI sm), .ref (mo 3), .int (nI ln), .ref (mo 4), .int rm, .int fa, .ref (mo 5), .ref (mo 6), .int sp, .int wr, .long dd]))], cMs v mo fs, cMn v mo fn] _ _ [.int (bI (decide (0 ≤ i ∧ i ≤ n))), .ref (mo 0)]
  refine g_if_eqB (tgt := 28) X dX7_greatest_12 (by decide) (fun c12 => ?_) (fun c12 => ?_)
  · exact (of_decide_eq_false c12 ⟨by omega, by omega⟩).elim
  · refine g_iload_n X dX7_greatest_15 2 rfl rfl ?_
    refine g_iconst (x := nI 0) X dX7_greatest_16 (by decide +kernel) ?_
    refine g_iconst (x := nI 2) X dX7_greatest_17 (by decide +kernel) ?_
    refine g_callS (As := [.int (nI w), .int (nI 0), .int (nI 2)]) (rest := [.ref (mo 0)]) (wr := [[((mo 0), .inr (7, [.int th, .ref (mo 1), .ref (mo 2), .int (nI sm), .ref (mo 3), .int (nI ln), .ref (mo 4), .int rm, .int fa, .ref (mo 5), .ref (mo 6), .int sp, .int wr, .long dd]))], cMs v mo fs, cMn v mo fn]) X (c_X7_in l v (nI w) (nI 0) (nI 2)) f_X7_in q_14_20 dX7_greatest_18 [] [0, 1, 2] rfl rfl (by decide) rfl rfl (Nat.le_of_ble_eq_true rfl) (by decide) (fun r_ w_ hp2 => ?_)
    rw [inI_N (by omega) (by omega) (by omega)] at hp2
    obtain ⟨rfl, rfl⟩ := hp2
    show GG k _ _ [[((mo 0), .inr (7, [.int th, .ref (mo 1), .ref (mo 2), .int (nI sm), .ref (mo 3), .int (nI ln), .ref (mo 4), .int rm, .int fa, .ref (mo 5), .ref (mo 6), .int sp, .int wr, .long dd]))], cMs v mo fs, cMn v mo fn] _ _ [.int (bI (decide (0 ≤ w ∧ w ≤ 2))), .ref (mo 0)]
    refine g_if_eqB (tgt := 28) X dX7_greatest_21 (by decide) (fun c21 => ?_) (fun c21 => ?_)
    · exact (of_decide_eq_false c21 ⟨by omega, by omega⟩).elim
    · refine g_iconst (x := nI 0) X dX7_greatest_24 (by decide +kernel) ?_
      refine g_goto (tgt := 29) X dX7_greatest_25 (by decide) ?_
      refine g_callV (As := [.int (nI 0)]) (rest := []) (wr := [cMs v mo fs, cMn v mo fn]) X (c_X7_holds l v mo th sm ln rm fa sp wr dd 0 (by omega)) f_X7_holds q_15_19 dX7_greatest_29 [0] [1, 2] rfl rfl (by decide) 0 rfl rfl rfl rfl (Nat.le_of_ble_eq_true rfl) (by decide) (fun r_ w_ hp3 => ?_)
      obtain ⟨rfl, rfl⟩ := hp3
      show GG k _ _ [[((mo 0), .inr (7, [.int (nI 0), .ref (mo 1), .ref (mo 2), .int (nI sm), .ref (mo 3), .int (nI ln), .ref (mo 4), .int rm, .int fa, .ref (mo 5), .ref (mo 6), .int sp, .int wr, .long dd]))], cMs v mo fs, cMn v mo fn] _ _ [.int (nI 1)]
      refine g_if_neN (tgt := 37) X dX7_greatest_32 (by decide) (by omega) (fun c32 => ?_) (fun c32 => ?_)
      · refine g_aload_n X dX7_greatest_37 0 rfl rfl ?_
        refine g_callV (As := []) (rest := []) (wr := []) X (c_X7_looks l v mo (nI 0) sm ln rm fa sp wr dd P n lo hi fs fn hW hS hL) f_X7_looks q_28_22 dX7_greatest_38 [0, 1, 2] [] rfl rfl (by decide) 0 rfl rfl rfl rfl (Nat.le_of_ble_eq_true rfl) (by decide) (fun r_ w_ hp5 => ?_)
        obtain ⟨lk4, lk4N, rfl⟩ := hp5
        show GG k _ _ [[((mo 0), .inr (7, [.int (nI 0), .ref (mo 1), .ref (mo 2), .int (nI sm), .ref (mo 3), .int (nI ln), .ref (mo 4), .int rm, .int fa, .ref (mo 5), .ref (mo 6), .int sp, .int wr, .long dd]))], cMs v mo fs, cMn v mo lk4] _ _ []
        refine g_aload_n X dX7_greatest_41 0 rfl rfl ?_
        refine g_iload_n X dX7_greatest_42 1 rfl rfl ?_
        refine g_iload_n X dX7_greatest_43 2 rfl rfl ?_
        refine g_iconst (x := nI 0) X dX7_greatest_44 (by decide +kernel) ?_
        refine g_callV (As := [.int (nI i), .int (nI w), .int (nI 0)]) (rest := []) (wr := [cMs v mo fs]) X (cMx_X7_bound l v mo (nI 0) sm ln rm fa sp wr dd lo hi P n lk4 i w hn12 lk4N (by omega) (by omega)) f_X7_bound q_32_0 dX7_greatest_45 [0, 2] [1] rfl rfl (by decide) 0 rfl rfl rfl rfl (Nat.le_of_ble_eq_true rfl) (by decide) (fun r_ w_ hp6 => ?_)
        obtain ⟨rfl, rfl⟩ := hp6
        show GG k _ _ [[((mo 0), .inr (7, [.int (nI 0), .ref (mo 1), .ref (mo 2), .int (nI sm), .ref (mo 3), .int (nI ln), .ref (mo 4), .int rm, .int fa, .ref (mo 5), .ref (mo 6), .int sp, .int wr, .long dd]))], cMn v mo lk4, cMs v mo fs] _ _ [.int (zI (mxV lo hi P n i w))]
        refine g_pick (cs' := [[((mo 0), .inr (7, [.int (nI 0), .ref (mo 1), .ref (mo 2), .int (nI sm), .ref (mo 3), .int (nI ln), .ref (mo 4), .int rm, .int fa, .ref (mo 5), .ref (mo 6), .int sp, .int wr, .long dd]))], cMs v mo fs, cMn v mo lk4]) [0, 2, 1] rfl rfl ?_
        exact E dX7_greatest_48 rfl (rfl) (by decide) (by decide) (⟨_, rfl, rfl⟩)
      · exact absurd c32 (by decide)

set_option maxHeartbeats 4000000 in
set_option maxRecDepth 100000 in
theorem b_X7_greatest (l : Launch) (v : VV) (mo : Nat → Nat) (th : Int32) (sm : Nat) (ln : Nat) (rm : Int32) (fa : Int32) (sp : Int32) (wr : Int32) (dd : Int64) (P : Nat → S9) (n : Nat) (lo : Nat → Nat) (hi : Nat → Nat) (fs : Nat → Int32) (x : Int32) (y : Int32) (hW : WF P n) (hS : SR P n lo hi fs) (hx : bdI x (n + 1)) : MI l v yX7_greatest cX7_greatest 3 (some .int) ({ frames := 1, cells := 0, slots := 0, locals := 22 }) [.ref (mo 0), .int x, .int y] [[((mo 0), .inr (7, [.int th, .ref (mo 1), .ref (mo 2), .int (nI sm), .ref (mo 3), .int (nI ln), .ref (mo 4), .int rm, .int fa, .ref (mo 5), .ref (mo 6), .int sp, .int wr, .long dd]))], cMs v mo fs] (fun r w_ => r = nI 0 ∧ w_ = [[((mo 0), .inr (7, [.int (nI 1), .ref (mo 1), .ref (mo 2), .int (nI sm), .ref (mo 3), .int (nI ln), .ref (mo 4), .int rm, .int fa, .ref (mo 5), .ref (mo 6), .int sp, .int wr, .long dd]))], cMs v mo fs]) 0 0 := by
  refine mm_int (by decide) (Nat.le_of_ble_eq_true rfl) [(0, .ref (mo 0)), (1, .int x), (2, .int y)] rfl (fun k X E => ?_)
  have hn12 := hW.1
  refine g_aload_n X dX7_greatest_0 0 rfl rfl ?_
  refine g_iload_n X dX7_greatest_1 1 rfl rfl ?_
  refine g_iconst (x := nI 0) X dX7_greatest_2 (by decide +kernel) ?_
  refine g_aload_n X dX7_greatest_3 0 rfl rfl ?_
  refine g_get X cb7 1 q_4_18 dX7_greatest_4 0 0 rfl rfl (by decide) rfl rfl ?_
  refine g_iconst (x := nI 0) X dX7_greatest_7 (by decide +kernel) ?_
  refine g_iald X dX7_greatest_8 1 0 rfl rfl (by omega) (by omega) ?_
  refine g_v (y := nI n) (hS.1) ?_
  refine g_callS (As := [.int x, .int (nI 0), .int (nI n)]) (rest := [.ref (mo 0)]) (wr := [[((mo 0), .inr (7, [.int th, .ref (mo 1), .ref (mo 2), .int (nI sm), .ref (mo 3), .int (nI ln), .ref (mo 4), .int rm, .int fa, .ref (mo 5), .ref (mo 6), .int sp, .int wr, .long dd]))], cMs v mo fs]) X (c_X7_in l v x (nI 0) (nI n)) f_X7_in q_14_20 dX7_greatest_9 [] [0, 1] rfl rfl (by decide) rfl rfl (Nat.le_of_ble_eq_true rfl) (by decide) (fun r_ w_ hp1 => ?_)
  obtain ⟨rfl, rfl⟩ := hp1
  show GG k _ _ [[((mo 0), .inr (7, [.int th, .ref (mo 1), .ref (mo 2), .int (nI sm), .ref (mo 3), .int (nI ln), .ref (mo 4), .int rm, .int fa, .ref (mo 5), .ref (mo 6), .int sp, .int wr, .long dd]))], cMs v mo fs] _ _ [.int (bI (inI x (nI 0) (nI n))), .ref (mo 0)]
  refine g_if_eqB (tgt := 28) X dX7_greatest_12 (by decide) (fun c12 => ?_) (fun c12 => ?_)
  · refine g_iconst (x := nI 1) X dX7_greatest_28 (by decide +kernel) ?_
    refine g_callV (As := [.int (nI 1)]) (rest := []) (wr := [cMs v mo fs]) X (c_X7_holds l v mo th sm ln rm fa sp wr dd 1 (by omega)) f_X7_holds q_15_19 dX7_greatest_29 [0] [1] rfl rfl (by decide) 0 rfl rfl rfl rfl (Nat.le_of_ble_eq_true rfl) (by decide) (fun r_ w_ hp2 => ?_)
    obtain ⟨rfl, rfl⟩ := hp2
    show GG k _ _ [[((mo 0), .inr (7, [.int (nI 1), .ref (mo 1), .ref (mo 2), .int (nI sm), .ref (mo 3), .int (nI ln), .ref (mo 4), .int rm, .int fa, .ref (mo 5), .ref (mo 6), .int sp, .int wr, .long dd]))], cMs v mo fs] _ _ [.int (nI 0)]
    refine g_if_neN (tgt := 37) X dX7_greatest_32 (by decide) (by omega) (fun c32 => ?_) (fun c32 => ?_)
    · exact absurd rfl c32
    · refine g_iconst (x := nI 0) X dX7_greatest_35 (by decide +kernel) ?_
      exact E dX7_greatest_36 rfl (rfl) (by decide) (by decide) (⟨rfl, rfl⟩)
  · exact absurd c12 (by rw [inI_badN hx (by omega)]; decide)

set_option maxHeartbeats 4000000 in
set_option maxRecDepth 100000 in
theorem b1_X7_greatest (l : Launch) (v : VV) (mo : Nat → Nat) (th : Int32) (sm : Nat) (ln : Nat) (rm : Int32) (fa : Int32) (sp : Int32) (wr : Int32) (dd : Int64) (P : Nat → S9) (n : Nat) (lo : Nat → Nat) (hi : Nat → Nat) (fs : Nat → Int32) (i : Nat) (y : Int32) (hW : WF P n) (hS : SR P n lo hi fs) (hi9 : i < n + 1) (hx : bdI y 3) : MI l v yX7_greatest cX7_greatest 3 (some .int) ({ frames := 1, cells := 0, slots := 0, locals := 22 }) [.ref (mo 0), .int (nI i), .int y] [[((mo 0), .inr (7, [.int th, .ref (mo 1), .ref (mo 2), .int (nI sm), .ref (mo 3), .int (nI ln), .ref (mo 4), .int rm, .int fa, .ref (mo 5), .ref (mo 6), .int sp, .int wr, .long dd]))], cMs v mo fs] (fun r w_ => r = nI 0 ∧ w_ = [[((mo 0), .inr (7, [.int (nI 1), .ref (mo 1), .ref (mo 2), .int (nI sm), .ref (mo 3), .int (nI ln), .ref (mo 4), .int rm, .int fa, .ref (mo 5), .ref (mo 6), .int sp, .int wr, .long dd]))], cMs v mo fs]) 0 0 := by
  refine mm_int (by decide) (Nat.le_of_ble_eq_true rfl) [(0, .ref (mo 0)), (1, .int (nI i)), (2, .int y)] rfl (fun k X E => ?_)
  have hn12 := hW.1
  refine g_aload_n X dX7_greatest_0 0 rfl rfl ?_
  refine g_iload_n X dX7_greatest_1 1 rfl rfl ?_
  refine g_iconst (x := nI 0) X dX7_greatest_2 (by decide +kernel) ?_
  refine g_aload_n X dX7_greatest_3 0 rfl rfl ?_
  refine g_get X cb7 1 q_4_18 dX7_greatest_4 0 0 rfl rfl (by decide) rfl rfl ?_
  refine g_iconst (x := nI 0) X dX7_greatest_7 (by decide +kernel) ?_
  refine g_iald X dX7_greatest_8 1 0 rfl rfl (by omega) (by omega) ?_
  refine g_v (y := nI n) (hS.1) ?_
  refine g_callS (As := [.int (nI i), .int (nI 0), .int (nI n)]) (rest := [.ref (mo 0)]) (wr := [[((mo 0), .inr (7, [.int th, .ref (mo 1), .ref (mo 2), .int (nI sm), .ref (mo 3), .int (nI ln), .ref (mo 4), .int rm, .int fa, .ref (mo 5), .ref (mo 6), .int sp, .int wr, .long dd]))], cMs v mo fs]) X (c_X7_in l v (nI i) (nI 0) (nI n)) f_X7_in q_14_20 dX7_greatest_9 [] [0, 1] rfl rfl (by decide) rfl rfl (Nat.le_of_ble_eq_true rfl) (by decide) (fun r_ w_ hp1 => ?_)
  rw [inI_N (by omega) (by omega) (by omega)] at hp1
  obtain ⟨rfl, rfl⟩ := hp1
  show GG k _ _ [[((mo 0), .inr (7, [.int th, .ref (mo 1), .ref (mo 2), .int (nI sm), .ref (mo 3), .int (nI ln), .ref (mo 4), .int rm, .int fa, .ref (mo 5), .ref (mo 6), .int sp, .int wr, .long dd]))], cMs v mo fs] _ _ [.int (bI (decide (0 ≤ i ∧ i ≤ n))), .ref (mo 0)]
  refine g_if_eqB (tgt := 28) X dX7_greatest_12 (by decide) (fun c12 => ?_) (fun c12 => ?_)
  · exact (of_decide_eq_false c12 ⟨by omega, by omega⟩).elim
  · refine g_iload_n X dX7_greatest_15 2 rfl rfl ?_
    refine g_iconst (x := nI 0) X dX7_greatest_16 (by decide +kernel) ?_
    refine g_iconst (x := nI 2) X dX7_greatest_17 (by decide +kernel) ?_
    refine g_callS (As := [.int y, .int (nI 0), .int (nI 2)]) (rest := [.ref (mo 0)]) (wr := [[((mo 0), .inr (7, [.int th, .ref (mo 1), .ref (mo 2), .int (nI sm), .ref (mo 3), .int (nI ln), .ref (mo 4), .int rm, .int fa, .ref (mo 5), .ref (mo 6), .int sp, .int wr, .long dd]))], cMs v mo fs]) X (c_X7_in l v y (nI 0) (nI 2)) f_X7_in q_14_20 dX7_greatest_18 [] [0, 1] rfl rfl (by decide) rfl rfl (Nat.le_of_ble_eq_true rfl) (by decide) (fun r_ w_ hp2 => ?_)
    obtain ⟨rfl, rfl⟩ := hp2
    show GG k _ _ [[((mo 0), .inr (7, [.int th, .ref (mo 1), .ref (mo 2), .int (nI sm), .ref (mo 3), .int (nI ln), .ref (mo 4), .int rm, .int fa, .ref (mo 5), .ref (mo 6), .int sp, .int wr, .long dd]))], cMs v mo fs] _ _ [.int (bI (inI y (nI 0) (nI 2))), .ref (mo 0)]
    refine g_if_eqB (tgt := 28) X dX7_greatest_21 (by decide) (fun c21 => ?_) (fun c21 => ?_)
    · refine g_iconst (x := nI 1) X dX7_greatest_28 (by decide +kernel) ?_
      refine g_callV (As := [.int (nI 1)]) (rest := []) (wr := [cMs v mo fs]) X (c_X7_holds l v mo th sm ln rm fa sp wr dd 1 (by omega)) f_X7_holds q_15_19 dX7_greatest_29 [0] [1] rfl rfl (by decide) 0 rfl rfl rfl rfl (Nat.le_of_ble_eq_true rfl) (by decide) (fun r_ w_ hp3 => ?_)
      obtain ⟨rfl, rfl⟩ := hp3
      show GG k _ _ [[((mo 0), .inr (7, [.int (nI 1), .ref (mo 1), .ref (mo 2), .int (nI sm), .ref (mo 3), .int (nI ln), .ref (mo 4), .int rm, .int fa, .ref (mo 5), .ref (mo 6), .int sp, .int wr, .long dd]))], cMs v mo fs] _ _ [.int (nI 0)]
      refine g_if_neN (tgt := 37) X dX7_greatest_32 (by decide) (by omega) (fun c32 => ?_) (fun c32 => ?_)
      · exact absurd rfl c32
      · refine g_iconst (x := nI 0) X dX7_greatest_35 (by decide +kernel) ?_
        exact E dX7_greatest_36 rfl (rfl) (by decide) (by decide) (⟨rfl, rfl⟩)
    · exact absurd c21 (by rw [inI_badN hx (by omega)]; decide)

