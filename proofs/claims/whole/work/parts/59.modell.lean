/-! ## the model: where assume throws -/
theorem inI_badU {y : Int32} {u : Nat} (h : bdI y 8) : inI y (nI u) (nI 7) = true → nI u < 0 := by
  intro e
  have h9 := of_decide_eq_true e
  rcases h with h | h
  · exact Int32.lt_of_le_of_lt h9.1 h
  · exact absurd h9.2 (Int32.not_le.mpr (Int32.lt_of_lt_of_le (by decide) h))
theorem inI_badV {y : Int32} {u : Nat} (hu : u < 8) (h : bdI y 8) : inI y (nI u) (nI 7) = false := by
  cases e : inI y (nI u) (nI 7) with
  | false => rfl
  | true =>
    have h9 := inI_badU h e
    rw [Int32.lt_iff_toInt_lt, nI_toInt (by omega)] at h9
    have : (0 : Int32).toInt = 0 := rfl
    omega

set_option maxHeartbeats 4000000 in
set_option maxRecDepth 100000 in
theorem b_X7_assume (l : Launch) (v : VV) (mo : Nat → Nat) (th : Int32) (sm : Nat) (ln : Nat) (rm : Int32) (fa : Int32) (sp : Int32) (wr : Int32) (dd : Int64) (w : Int32) (x : Int32) (y : Int32) (hx : bdI w 3) : MI l v yX7_assume cX7_assume 5 (some .int) ({ frames := 1, cells := 0, slots := 0, locals := 22 }) [.ref (mo 0), .int w, .int x, .int y] [[((mo 0), .inr (7, [.int th, .ref (mo 1), .ref (mo 2), .int (nI sm), .ref (mo 3), .int (nI ln), .ref (mo 4), .int rm, .int fa, .ref (mo 5), .ref (mo 6), .int sp, .int wr, .long dd]))]] (fun r w_ => r = nI 0 ∧ w_ = [[((mo 0), .inr (7, [.int (nI 1), .ref (mo 1), .ref (mo 2), .int (nI sm), .ref (mo 3), .int (nI ln), .ref (mo 4), .int rm, .int fa, .ref (mo 5), .ref (mo 6), .int sp, .int wr, .long dd]))]]) 0 0 := by
  refine mm_int (by decide) (Nat.le_of_ble_eq_true rfl) [(0, .ref (mo 0)), (1, .int w), (2, .int x), (3, .int y)] rfl (fun k X E => ?_)
  refine g_iload_n X dX7_assume_0 2 rfl rfl ?_
  refine g_iconst (x := nI 0) X dX7_assume_1 (by decide +kernel) ?_
  refine g_bipush (x := nI 7) X dX7_assume_2 (by decide +kernel) ?_
  refine g_callS (As := [.int x, .int (nI 0), .int (nI 7)]) (rest := []) (wr := [[((mo 0), .inr (7, [.int th, .ref (mo 1), .ref (mo 2), .int (nI sm), .ref (mo 3), .int (nI ln), .ref (mo 4), .int rm, .int fa, .ref (mo 5), .ref (mo 6), .int sp, .int wr, .long dd]))]]) X (c_X7_in l v x (nI 0) (nI 7)) f_X7_in q_14_20 dX7_assume_4 [] [0] rfl rfl (by decide) rfl rfl (Nat.le_of_ble_eq_true rfl) (by decide) (fun r_ w_ hp1 => ?_)
  obtain ⟨rfl, rfl⟩ := hp1
  show GG k _ _ [[((mo 0), .inr (7, [.int th, .ref (mo 1), .ref (mo 2), .int (nI sm), .ref (mo 3), .int (nI ln), .ref (mo 4), .int rm, .int fa, .ref (mo 5), .ref (mo 6), .int sp, .int wr, .long dd]))]] _ _ [.int (bI (inI x (nI 0) (nI 7)))]
  refine g_if_eqB (tgt := 24) X dX7_assume_7 (by decide) (fun c7 => ?_) (fun c7 => ?_)
  · refine g_iconst (x := nI 0) X dX7_assume_24 (by decide +kernel) ?_
    refine g_istore (lv' := [(4, .int (nI 0)), (0, .ref (mo 0)), (1, .int w), (2, .int x), (3, .int y)]) X dX7_assume_25 (by decide) rfl ?_
    refine g_aload_n X dX7_assume_27 1 rfl rfl ?_
    refine g_iload_n X dX7_assume_28 2 rfl rfl ?_
    refine g_iconst (x := nI 0) X dX7_assume_29 (by decide +kernel) ?_
    refine g_iconst (x := nI 2) X dX7_assume_30 (by decide +kernel) ?_
    refine g_callS (As := [.int w, .int (nI 0), .int (nI 2)]) (rest := [.ref (mo 0)]) (wr := [[((mo 0), .inr (7, [.int th, .ref (mo 1), .ref (mo 2), .int (nI sm), .ref (mo 3), .int (nI ln), .ref (mo 4), .int rm, .int fa, .ref (mo 5), .ref (mo 6), .int sp, .int wr, .long dd]))]]) X (c_X7_in l v w (nI 0) (nI 2)) f_X7_in q_14_20 dX7_assume_31 [] [0] rfl rfl (by decide) rfl rfl (Nat.le_of_ble_eq_true rfl) (by decide) (fun r_ w_ hp2 => ?_)
    obtain ⟨rfl, rfl⟩ := hp2
    show GG k _ _ [[((mo 0), .inr (7, [.int th, .ref (mo 1), .ref (mo 2), .int (nI sm), .ref (mo 3), .int (nI ln), .ref (mo 4), .int rm, .int fa, .ref (mo 5), .ref (mo 6), .int sp, .int wr, .long dd]))]] _ _ [.int (bI (inI w (nI 0) (nI 2))), .ref (mo 0)]
    refine g_if_neB (tgt := 41) X dX7_assume_34 (by decide) (fun c34 => ?_) (fun c34 => ?_)
    · exact absurd c34 (by rw [inI_badN hx (by omega)]; decide)
    · refine g_iconst (x := nI 1) X dX7_assume_37 (by decide +kernel) ?_
      refine g_goto (tgt := 51) X dX7_assume_38 (by decide) ?_
      refine g_callV (As := [.int (nI 1)]) (rest := []) (wr := []) X (c_X7_holds l v mo th sm ln rm fa sp wr dd 1 (by omega)) f_X7_holds q_15_19 dX7_assume_51 [0] [] rfl rfl (by decide) 0 rfl rfl rfl rfl (Nat.le_of_ble_eq_true rfl) (by decide) (fun r_ w_ hp3 => ?_)
      obtain ⟨rfl, rfl⟩ := hp3
      show GG k _ _ [[((mo 0), .inr (7, [.int (nI 1), .ref (mo 1), .ref (mo 2), .int (nI sm), .ref (mo 3), .int (nI ln), .ref (mo 4), .int rm, .int fa, .ref (mo 5), .ref (mo 6), .int sp, .int wr, .long dd]))]] _ _ [.int (nI 0)]
      refine g_if_neN (tgt := 59) X dX7_assume_54 (by decide) (by omega) (fun c54 => ?_) (fun c54 => ?_)
      · exact absurd rfl c54
      · refine g_iconst (x := nI 0) X dX7_assume_57 (by decide +kernel) ?_
        exact E dX7_assume_58 rfl (rfl) (by decide) (by decide) (⟨rfl, rfl⟩)
  · refine g_iload_n X dX7_assume_10 3 rfl rfl ?_
    refine g_iload_n X dX7_assume_11 2 rfl rfl ?_
    refine g_bipush (x := nI 7) X dX7_assume_12 (by decide +kernel) ?_
    refine g_callS (As := [.int y, .int x, .int (nI 7)]) (rest := []) (wr := [[((mo 0), .inr (7, [.int th, .ref (mo 1), .ref (mo 2), .int (nI sm), .ref (mo 3), .int (nI ln), .ref (mo 4), .int rm, .int fa, .ref (mo 5), .ref (mo 6), .int sp, .int wr, .long dd]))]]) X (c_X7_in l v y x (nI 7)) f_X7_in q_14_20 dX7_assume_14 [] [0] rfl rfl (by decide) rfl rfl (Nat.le_of_ble_eq_true rfl) (by decide) (fun r_ w_ hp4 => ?_)
    obtain ⟨rfl, rfl⟩ := hp4
    show GG k _ _ [[((mo 0), .inr (7, [.int th, .ref (mo 1), .ref (mo 2), .int (nI sm), .ref (mo 3), .int (nI ln), .ref (mo 4), .int rm, .int fa, .ref (mo 5), .ref (mo 6), .int sp, .int wr, .long dd]))]] _ _ [.int (bI (inI y x (nI 7)))]
    refine g_if_eqB (tgt := 24) X dX7_assume_17 (by decide) (fun c17 => ?_) (fun c17 => ?_)
    · refine g_iconst (x := nI 0) X dX7_assume_24 (by decide +kernel) ?_
      refine g_istore (lv' := [(4, .int (nI 0)), (0, .ref (mo 0)), (1, .int w), (2, .int x), (3, .int y)]) X dX7_assume_25 (by decide) rfl ?_
      refine g_aload_n X dX7_assume_27 1 rfl rfl ?_
      refine g_iload_n X dX7_assume_28 2 rfl rfl ?_
      refine g_iconst (x := nI 0) X dX7_assume_29 (by decide +kernel) ?_
      refine g_iconst (x := nI 2) X dX7_assume_30 (by decide +kernel) ?_
      refine g_callS (As := [.int w, .int (nI 0), .int (nI 2)]) (rest := [.ref (mo 0)]) (wr := [[((mo 0), .inr (7, [.int th, .ref (mo 1), .ref (mo 2), .int (nI sm), .ref (mo 3), .int (nI ln), .ref (mo 4), .int rm, .int fa, .ref (mo 5), .ref (mo 6), .int sp, .int wr, .long dd]))]]) X (c_X7_in l v w (nI 0) (nI 2)) f_X7_in q_14_20 dX7_assume_31 [] [0] rfl rfl (by decide) rfl rfl (Nat.le_of_ble_eq_true rfl) (by decide) (fun r_ w_ hp5 => ?_)
      obtain ⟨rfl, rfl⟩ := hp5
      show GG k _ _ [[((mo 0), .inr (7, [.int th, .ref (mo 1), .ref (mo 2), .int (nI sm), .ref (mo 3), .int (nI ln), .ref (mo 4), .int rm, .int fa, .ref (mo 5), .ref (mo 6), .int sp, .int wr, .long dd]))]] _ _ [.int (bI (inI w (nI 0) (nI 2))), .ref (mo 0)]
      refine g_if_neB (tgt := 41) X dX7_assume_34 (by decide) (fun c34 => ?_) (fun c34 => ?_)
      · exact absurd c34 (by rw [inI_badN hx (by omega)]; decide)
      · refine g_iconst (x := nI 1) X dX7_assume_37 (by decide +kernel) ?_
        refine g_goto (tgt := 51) X dX7_assume_38 (by decide) ?_
        refine g_callV (As := [.int (nI 1)]) (rest := []) (wr := []) X (c_X7_holds l v mo th sm ln rm fa sp wr dd 1 (by omega)) f_X7_holds q_15_19 dX7_assume_51 [0] [] rfl rfl (by decide) 0 rfl rfl rfl rfl (Nat.le_of_ble_eq_true rfl) (by decide) (fun r_ w_ hp6 => ?_)
        obtain ⟨rfl, rfl⟩ := hp6
        show GG k _ _ [[((mo 0), .inr (7, [.int (nI 1), .ref (mo 1), .ref (mo 2), .int (nI sm), .ref (mo 3), .int (nI ln), .ref (mo 4), .int rm, .int fa, .ref (mo 5), .ref (mo 6), .int sp, .int wr, .long dd]))]] _ _ [.int (nI 0)]
        refine g_if_neN (tgt := 59) X dX7_assume_54 (by decide) (by omega) (fun c54 => ?_) (fun c54 => ?_)
        · exact absurd rfl c54
        · refine g_iconst (x := nI 0) X dX7_assume_57 (by decide +kernel) ?_
          exact E dX7_assume_58 rfl (rfl) (by decide) (by decide) (⟨rfl, rfl⟩)
    · refine g_iconst (x := nI 1) X dX7_assume_20 (by decide +kernel) ?_
      refine g_goto (tgt := 25) X dX7_assume_21 (by decide) ?_
      refine g_istore (lv' := [(4, .int (nI 1)), (0, .ref (mo 0)), (1, .int w), (2, .int x), (3, .int y)]) X dX7_assume_25 (by decide) rfl ?_
      refine g_aload_n X dX7_assume_27 1 rfl rfl ?_
      refine g_iload_n X dX7_assume_28 2 rfl rfl ?_
      refine g_iconst (x := nI 0) X dX7_assume_29 (by decide +kernel) ?_
      refine g_iconst (x := nI 2) X dX7_assume_30 (by decide +kernel) ?_
      refine g_callS (As := [.int w, .int (nI 0), .int (nI 2)]) (rest := [.ref (mo 0)]) (wr := [[((mo 0), .inr (7, [.int th, .ref (mo 1), .ref (mo 2), .int (nI sm), .ref (mo 3), .int (nI ln), .ref (mo 4), .int rm, .int fa, .ref (mo 5), .ref (mo 6), .int sp, .int wr, .long dd]))]]) X (c_X7_in l v w (nI 0) (nI 2)) f_X7_in q_14_20 dX7_assume_31 [] [0] rfl rfl (by decide) rfl rfl (Nat.le_of_ble_eq_true rfl) (by decide) (fun r_ w_ hp7 => ?_)
      obtain ⟨rfl, rfl⟩ := hp7
      show GG k _ _ [[((mo 0), .inr (7, [.int th, .ref (mo 1), .ref (mo 2), .int (nI sm), .ref (mo 3), .int (nI ln), .ref (mo 4), .int rm, .int fa, .ref (mo 5), .ref (mo 6), .int sp, .int wr, .long dd]))]] _ _ [.int (bI (inI w (nI 0) (nI 2))), .ref (mo 0)]
      refine g_if_neB (tgt := 41) X dX7_assume_34 (by decide) (fun c34 => ?_) (fun c34 => ?_)
      · exact absurd c34 (by rw [inI_badN hx (by omega)]; decide)
      · refine g_iconst (x := nI 1) X dX7_assume_37 (by decide +kernel) ?_
        refine g_goto (tgt := 51) X dX7_assume_38 (by decide) ?_
        refine g_callV (As := [.int (nI 1)]) (rest := []) (wr := []) X (c_X7_holds l v mo th sm ln rm fa sp wr dd 1 (by omega)) f_X7_holds q_15_19 dX7_assume_51 [0] [] rfl rfl (by decide) 0 rfl rfl rfl rfl (Nat.le_of_ble_eq_true rfl) (by decide) (fun r_ w_ hp8 => ?_)
        obtain ⟨rfl, rfl⟩ := hp8
        show GG k _ _ [[((mo 0), .inr (7, [.int (nI 1), .ref (mo 1), .ref (mo 2), .int (nI sm), .ref (mo 3), .int (nI ln), .ref (mo 4), .int rm, .int fa, .ref (mo 5), .ref (mo 6), .int sp, .int wr, .long dd]))]] _ _ [.int (nI 0)]
        refine g_if_neN (tgt := 59) X dX7_assume_54 (by decide) (by omega) (fun c54 => ?_) (fun c54 => ?_)
        · exact absurd rfl c54
        · refine g_iconst (x := nI 0) X dX7_assume_57 (by decide +kernel) ?_
          exact E dX7_assume_58 rfl (rfl) (by decide) (by decide) (⟨rfl, rfl⟩)

set_option maxHeartbeats 4000000 in
set_option maxRecDepth 100000 in
theorem b0_X7_assume (l : Launch) (v : VV) (mo : Nat → Nat) (th : Int32) (sm : Nat) (ln : Nat) (rm : Int32) (fa : Int32) (sp : Int32) (wr : Int32) (dd : Int64) (w : Nat) (x : Int32) (y : Int32) (hw9 : w < 3) (hx : bdI x 8) : MI l v yX7_assume cX7_assume 5 (some .int) ({ frames := 1, cells := 0, slots := 0, locals := 22 }) [.ref (mo 0), .int (nI w), .int x, .int y] [[((mo 0), .inr (7, [.int th, .ref (mo 1), .ref (mo 2), .int (nI sm), .ref (mo 3), .int (nI ln), .ref (mo 4), .int rm, .int fa, .ref (mo 5), .ref (mo 6), .int sp, .int wr, .long dd]))]] (fun r w_ => r = nI 0 ∧ w_ = [[((mo 0), .inr (7, [.int (nI 2), .ref (mo 1), .ref (mo 2), .int (nI sm), .ref (mo 3), .int (nI ln), .ref (mo 4), .int rm, .int fa, .ref (mo 5), .ref (mo 6), .int sp, .int wr, .long dd]))]]) 0 0 := by
  refine mm_int (by decide) (Nat.le_of_ble_eq_true rfl) [(0, .ref (mo 0)), (1, .int (nI w)), (2, .int x), (3, .int y)] rfl (fun k X E => ?_)
  refine g_iload_n X dX7_assume_0 2 rfl rfl ?_
  refine g_iconst (x := nI 0) X dX7_assume_1 (by decide +kernel) ?_
  refine g_bipush (x := nI 7) X dX7_assume_2 (by decide +kernel) ?_
  refine g_callS (As := [.int x, .int (nI 0), .int (nI 7)]) (rest := []) (wr := [[((mo 0), .inr (7, [.int th, .ref (mo 1), .ref (mo 2), .int (nI sm), .ref (mo 3), .int (nI ln), .ref (mo 4), .int rm, .int fa, .ref (mo 5), .ref (mo 6), .int sp, .int wr, .long dd]))]]) X (c_X7_in l v x (nI 0) (nI 7)) f_X7_in q_14_20 dX7_assume_4 [] [0] rfl rfl (by decide) rfl rfl (Nat.le_of_ble_eq_true rfl) (by decide) (fun r_ w_ hp1 => ?_)
  obtain ⟨rfl, rfl⟩ := hp1
  show GG k _ _ [[((mo 0), .inr (7, [.int th, .ref (mo 1), .ref (mo 2), .int (nI sm), .ref (mo 3), .int (nI ln), .ref (mo 4), .int rm, .int fa, .ref (mo 5), .ref (mo 6), .int sp, .int wr, .long dd]))]] _ _ [.int (bI (inI x (nI 0) (nI 7)))]
  refine g_if_eqB (tgt := 24) X dX7_assume_7 (by decide) (fun c7 => ?_) (fun c7 => ?_)
  · refine g_iconst (x := nI 0) X dX7_assume_24 (by decide +kernel) ?_
    refine g_istore (lv' := [(4, .int (nI 0)), (0, .ref (mo 0)), (1, .int (nI w)), (2, .int x), (3, .int y)]) X dX7_assume_25 (by decide) rfl ?_
    refine g_aload_n X dX7_assume_27 1 rfl rfl ?_
    refine g_iload_n X dX7_assume_28 2 rfl rfl ?_
    refine g_iconst (x := nI 0) X dX7_assume_29 (by decide +kernel) ?_
    refine g_iconst (x := nI 2) X dX7_assume_30 (by decide +kernel) ?_
    refine g_callS (As := [.int (nI w), .int (nI 0), .int (nI 2)]) (rest := [.ref (mo 0)]) (wr := [[((mo 0), .inr (7, [.int th, .ref (mo 1), .ref (mo 2), .int (nI sm), .ref (mo 3), .int (nI ln), .ref (mo 4), .int rm, .int fa, .ref (mo 5), .ref (mo 6), .int sp, .int wr, .long dd]))]]) X (c_X7_in l v (nI w) (nI 0) (nI 2)) f_X7_in q_14_20 dX7_assume_31 [] [0] rfl rfl (by decide) rfl rfl (Nat.le_of_ble_eq_true rfl) (by decide) (fun r_ w_ hp2 => ?_)
    rw [inI_N (by omega) (by omega) (by omega)] at hp2
    obtain ⟨rfl, rfl⟩ := hp2
    show GG k _ _ [[((mo 0), .inr (7, [.int th, .ref (mo 1), .ref (mo 2), .int (nI sm), .ref (mo 3), .int (nI ln), .ref (mo 4), .int rm, .int fa, .ref (mo 5), .ref (mo 6), .int sp, .int wr, .long dd]))]] _ _ [.int (bI (decide (0 ≤ w ∧ w ≤ 2))), .ref (mo 0)]
    refine g_if_neB (tgt := 41) X dX7_assume_34 (by decide) (fun c34 => ?_) (fun c34 => ?_)
    · refine g_iload X dX7_assume_41 0 rfl ?_
      refine g_if_eqN (tgt := 50) X dX7_assume_43 (by decide) (by omega) (fun c43 => ?_) (fun c43 => ?_)
      · refine g_iconst (x := nI 2) X dX7_assume_50 (by decide +kernel) ?_
        refine g_callV (As := [.int (nI 2)]) (rest := []) (wr := []) X (c_X7_holds l v mo th sm ln rm fa sp wr dd 2 (by omega)) f_X7_holds q_15_19 dX7_assume_51 [0] [] rfl rfl (by decide) 0 rfl rfl rfl rfl (Nat.le_of_ble_eq_true rfl) (by decide) (fun r_ w_ hp3 => ?_)
        obtain ⟨rfl, rfl⟩ := hp3
        show GG k _ _ [[((mo 0), .inr (7, [.int (nI 2), .ref (mo 1), .ref (mo 2), .int (nI sm), .ref (mo 3), .int (nI ln), .ref (mo 4), .int rm, .int fa, .ref (mo 5), .ref (mo 6), .int sp, .int wr, .long dd]))]] _ _ [.int (nI 0)]
        refine g_if_neN (tgt := 59) X dX7_assume_54 (by decide) (by omega) (fun c54 => ?_) (fun c54 => ?_)
        · exact absurd rfl c54
        · refine g_iconst (x := nI 0) X dX7_assume_57 (by decide +kernel) ?_
          exact E dX7_assume_58 rfl (rfl) (by decide) (by decide) (⟨rfl, rfl⟩)
      · exact absurd rfl c43
    · exact (of_decide_eq_false c34 ⟨by omega, by omega⟩).elim
  · exact absurd c7 (by rw [inI_bad8 hx]; decide)

set_option maxHeartbeats 4000000 in
set_option maxRecDepth 100000 in
theorem b1_X7_assume (l : Launch) (v : VV) (mo : Nat → Nat) (th : Int32) (sm : Nat) (ln : Nat) (rm : Int32) (fa : Int32) (sp : Int32) (wr : Int32) (dd : Int64) (w : Nat) (u : Nat) (y : Int32) (hw9 : w < 3) (hu : u < 8) (hx : bdI y 8) : MI l v yX7_assume cX7_assume 5 (some .int) ({ frames := 1, cells := 0, slots := 0, locals := 22 }) [.ref (mo 0), .int (nI w), .int (nI u), .int y] [[((mo 0), .inr (7, [.int th, .ref (mo 1), .ref (mo 2), .int (nI sm), .ref (mo 3), .int (nI ln), .ref (mo 4), .int rm, .int fa, .ref (mo 5), .ref (mo 6), .int sp, .int wr, .long dd]))]] (fun r w_ => r = nI 0 ∧ w_ = [[((mo 0), .inr (7, [.int (nI 2), .ref (mo 1), .ref (mo 2), .int (nI sm), .ref (mo 3), .int (nI ln), .ref (mo 4), .int rm, .int fa, .ref (mo 5), .ref (mo 6), .int sp, .int wr, .long dd]))]]) 0 0 := by
  refine mm_int (by decide) (Nat.le_of_ble_eq_true rfl) [(0, .ref (mo 0)), (1, .int (nI w)), (2, .int (nI u)), (3, .int y)] rfl (fun k X E => ?_)
  refine g_iload_n X dX7_assume_0 2 rfl rfl ?_
  refine g_iconst (x := nI 0) X dX7_assume_1 (by decide +kernel) ?_
  refine g_bipush (x := nI 7) X dX7_assume_2 (by decide +kernel) ?_
  refine g_callS (As := [.int (nI u), .int (nI 0), .int (nI 7)]) (rest := []) (wr := [[((mo 0), .inr (7, [.int th, .ref (mo 1), .ref (mo 2), .int (nI sm), .ref (mo 3), .int (nI ln), .ref (mo 4), .int rm, .int fa, .ref (mo 5), .ref (mo 6), .int sp, .int wr, .long dd]))]]) X (c_X7_in l v (nI u) (nI 0) (nI 7)) f_X7_in q_14_20 dX7_assume_4 [] [0] rfl rfl (by decide) rfl rfl (Nat.le_of_ble_eq_true rfl) (by decide) (fun r_ w_ hp1 => ?_)
  rw [inI_N (by omega) (by omega) (by omega)] at hp1
  obtain ⟨rfl, rfl⟩ := hp1
  show GG k _ _ [[((mo 0), .inr (7, [.int th, .ref (mo 1), .ref (mo 2), .int (nI sm), .ref (mo 3), .int (nI ln), .ref (mo 4), .int rm, .int fa, .ref (mo 5), .ref (mo 6), .int sp, .int wr, .long dd]))]] _ _ [.int (bI (decide (0 ≤ u ∧ u ≤ 7)))]
  refine g_if_eqB (tgt := 24) X dX7_assume_7 (by decide) (fun c7 => ?_) (fun c7 => ?_)
  · exact (of_decide_eq_false c7 ⟨by omega, by omega⟩).elim
  · refine g_iload_n X dX7_assume_10 3 rfl rfl ?_
    refine g_iload_n X dX7_assume_11 2 rfl rfl ?_
    refine g_bipush (x := nI 7) X dX7_assume_12 (by decide +kernel) ?_
    refine g_callS (As := [.int y, .int (nI u), .int (nI 7)]) (rest := []) (wr := [[((mo 0), .inr (7, [.int th, .ref (mo 1), .ref (mo 2), .int (nI sm), .ref (mo 3), .int (nI ln), .ref (mo 4), .int rm, .int fa, .ref (mo 5), .ref (mo 6), .int sp, .int wr, .long dd]))]]) X (c_X7_in l v y (nI u) (nI 7)) f_X7_in q_14_20 dX7_assume_14 [] [0] rfl rfl (by decide) rfl rfl (Nat.le_of_ble_eq_true rfl) (by decide) (fun r_ w_ hp2 => ?_)
    obtain ⟨rfl, rfl⟩ := hp2
    show GG k _ _ [[((mo 0), .inr (7, [.int th, .ref (mo 1), .ref (mo 2), .int (nI sm), .ref (mo 3), .int (nI ln), .ref (mo 4), .int rm, .int fa, .ref (mo 5), .ref (mo 6), .int sp, .int wr, .long dd]))]] _ _ [.int (bI (inI y (nI u) (nI 7)))]
    refine g_if_eqB (tgt := 24) X dX7_assume_17 (by decide) (fun c17 => ?_) (fun c17 => ?_)
    · refine g_iconst (x := nI 0) X dX7_assume_24 (by decide +kernel) ?_
      refine g_istore (lv' := [(4, .int (nI 0)), (0, .ref (mo 0)), (1, .int (nI w)), (2, .int (nI u)), (3, .int y)]) X dX7_assume_25 (by decide) rfl ?_
      refine g_aload_n X dX7_assume_27 1 rfl rfl ?_
      refine g_iload_n X dX7_assume_28 2 rfl rfl ?_
      refine g_iconst (x := nI 0) X dX7_assume_29 (by decide +kernel) ?_
      refine g_iconst (x := nI 2) X dX7_assume_30 (by decide +kernel) ?_
      refine g_callS (As := [.int (nI w), .int (nI 0), .int (nI 2)]) (rest := [.ref (mo 0)]) (wr := [[((mo 0), .inr (7, [.int th, .ref (mo 1), .ref (mo 2), .int (nI sm), .ref (mo 3), .int (nI ln), .ref (mo 4), .int rm, .int fa, .ref (mo 5), .ref (mo 6), .int sp, .int wr, .long dd]))]]) X (c_X7_in l v (nI w) (nI 0) (nI 2)) f_X7_in q_14_20 dX7_assume_31 [] [0] rfl rfl (by decide) rfl rfl (Nat.le_of_ble_eq_true rfl) (by decide) (fun r_ w_ hp3 => ?_)
      rw [inI_N (by omega) (by omega) (by omega)] at hp3
      obtain ⟨rfl, rfl⟩ := hp3
      show GG k _ _ [[((mo 0), .inr (7, [.int th, .ref (mo 1), .ref (mo 2), .int (nI sm), .ref (mo 3), .int (nI ln), .ref (mo 4), .int rm, .int fa, .ref (mo 5), .ref (mo 6), .int sp, .int wr, .long dd]))]] _ _ [.int (bI (decide (0 ≤ w ∧ w ≤ 2))), .ref (mo 0)]
      refine g_if_neB (tgt := 41) X dX7_assume_34 (by decide) (fun c34 => ?_) (fun c34 => ?_)
      · refine g_iload X dX7_assume_41 0 rfl ?_
        refine g_if_eqN (tgt := 50) X dX7_assume_43 (by decide) (by omega) (fun c43 => ?_) (fun c43 => ?_)
        · refine g_iconst (x := nI 2) X dX7_assume_50 (by decide +kernel) ?_
          refine g_callV (As := [.int (nI 2)]) (rest := []) (wr := []) X (c_X7_holds l v mo th sm ln rm fa sp wr dd 2 (by omega)) f_X7_holds q_15_19 dX7_assume_51 [0] [] rfl rfl (by decide) 0 rfl rfl rfl rfl (Nat.le_of_ble_eq_true rfl) (by decide) (fun r_ w_ hp4 => ?_)
          obtain ⟨rfl, rfl⟩ := hp4
          show GG k _ _ [[((mo 0), .inr (7, [.int (nI 2), .ref (mo 1), .ref (mo 2), .int (nI sm), .ref (mo 3), .int (nI ln), .ref (mo 4), .int rm, .int fa, .ref (mo 5), .ref (mo 6), .int sp, .int wr, .long dd]))]] _ _ [.int (nI 0)]
          refine g_if_neN (tgt := 59) X dX7_assume_54 (by decide) (by omega) (fun c54 => ?_) (fun c54 => ?_)
          · exact absurd rfl c54
          · refine g_iconst (x := nI 0) X dX7_assume_57 (by decide +kernel) ?_
            exact E dX7_assume_58 rfl (rfl) (by decide) (by decide) (⟨rfl, rfl⟩)
        · exact absurd rfl c43
      · exact (of_decide_eq_false c34 ⟨by omega, by omega⟩).elim
    · exact absurd c17 (by rw [inI_badV hu hx]; decide)

set_option maxHeartbeats 4000000 in
set_option maxRecDepth 100000 in
theorem b2_X7_assume (l : Launch) (v : VV) (mo : Nat → Nat) (th : Int32) (sm : Nat) (ln : Nat) (rm : Int32) (fa : Int32) (sp : Int32) (wr : Int32) (dd : Int64) (w : Nat) (u : Nat) (q : Nat) (hw9 : w < 3) (hu : u < 8) (hq : q < 8) (hx : q < u) : MI l v yX7_assume cX7_assume 5 (some .int) ({ frames := 1, cells := 0, slots := 0, locals := 22 }) [.ref (mo 0), .int (nI w), .int (nI u), .int (nI q)] [[((mo 0), .inr (7, [.int th, .ref (mo 1), .ref (mo 2), .int (nI sm), .ref (mo 3), .int (nI ln), .ref (mo 4), .int rm, .int fa, .ref (mo 5), .ref (mo 6), .int sp, .int wr, .long dd]))]] (fun r w_ => r = nI 0 ∧ w_ = [[((mo 0), .inr (7, [.int (nI 2), .ref (mo 1), .ref (mo 2), .int (nI sm), .ref (mo 3), .int (nI ln), .ref (mo 4), .int rm, .int fa, .ref (mo 5), .ref (mo 6), .int sp, .int wr, .long dd]))]]) 0 0 := by
  refine mm_int (by decide) (Nat.le_of_ble_eq_true rfl) [(0, .ref (mo 0)), (1, .int (nI w)), (2, .int (nI u)), (3, .int (nI q))] rfl (fun k X E => ?_)
  refine g_iload_n X dX7_assume_0 2 rfl rfl ?_
  refine g_iconst (x := nI 0) X dX7_assume_1 (by decide +kernel) ?_
  refine g_bipush (x := nI 7) X dX7_assume_2 (by decide +kernel) ?_
  refine g_callS (As := [.int (nI u), .int (nI 0), .int (nI 7)]) (rest := []) (wr := [[((mo 0), .inr (7, [.int th, .ref (mo 1), .ref (mo 2), .int (nI sm), .ref (mo 3), .int (nI ln), .ref (mo 4), .int rm, .int fa, .ref (mo 5), .ref (mo 6), .int sp, .int wr, .long dd]))]]) X (c_X7_in l v (nI u) (nI 0) (nI 7)) f_X7_in q_14_20 dX7_assume_4 [] [0] rfl rfl (by decide) rfl rfl (Nat.le_of_ble_eq_true rfl) (by decide) (fun r_ w_ hp1 => ?_)
  rw [inI_N (by omega) (by omega) (by omega)] at hp1
  obtain ⟨rfl, rfl⟩ := hp1
  show GG k _ _ [[((mo 0), .inr (7, [.int th, .ref (mo 1), .ref (mo 2), .int (nI sm), .ref (mo 3), .int (nI ln), .ref (mo 4), .int rm, .int fa, .ref (mo 5), .ref (mo 6), .int sp, .int wr, .long dd]))]] _ _ [.int (bI (decide (0 ≤ u ∧ u ≤ 7)))]
  refine g_if_eqB (tgt := 24) X dX7_assume_7 (by decide) (fun c7 => ?_) (fun c7 => ?_)
  · exact (of_decide_eq_false c7 ⟨by omega, by omega⟩).elim
  · refine g_iload_n X dX7_assume_10 3 rfl rfl ?_
    refine g_iload_n X dX7_assume_11 2 rfl rfl ?_
    refine g_bipush (x := nI 7) X dX7_assume_12 (by decide +kernel) ?_
    refine g_callS (As := [.int (nI q), .int (nI u), .int (nI 7)]) (rest := []) (wr := [[((mo 0), .inr (7, [.int th, .ref (mo 1), .ref (mo 2), .int (nI sm), .ref (mo 3), .int (nI ln), .ref (mo 4), .int rm, .int fa, .ref (mo 5), .ref (mo 6), .int sp, .int wr, .long dd]))]]) X (c_X7_in l v (nI q) (nI u) (nI 7)) f_X7_in q_14_20 dX7_assume_14 [] [0] rfl rfl (by decide) rfl rfl (Nat.le_of_ble_eq_true rfl) (by decide) (fun r_ w_ hp2 => ?_)
    rw [inI_N (by omega) (by omega) (by omega)] at hp2
    obtain ⟨rfl, rfl⟩ := hp2
    show GG k _ _ [[((mo 0), .inr (7, [.int th, .ref (mo 1), .ref (mo 2), .int (nI sm), .ref (mo 3), .int (nI ln), .ref (mo 4), .int rm, .int fa, .ref (mo 5), .ref (mo 6), .int sp, .int wr, .long dd]))]] _ _ [.int (bI (decide (u ≤ q ∧ q ≤ 7)))]
    refine g_if_eqB (tgt := 24) X dX7_assume_17 (by decide) (fun c17 => ?_) (fun c17 => ?_)
    · refine g_iconst (x := nI 0) X dX7_assume_24 (by decide +kernel) ?_
      refine g_istore (lv' := [(4, .int (nI 0)), (0, .ref (mo 0)), (1, .int (nI w)), (2, .int (nI u)), (3, .int (nI q))]) X dX7_assume_25 (by decide) rfl ?_
      refine g_aload_n X dX7_assume_27 1 rfl rfl ?_
      refine g_iload_n X dX7_assume_28 2 rfl rfl ?_
      refine g_iconst (x := nI 0) X dX7_assume_29 (by decide +kernel) ?_
      refine g_iconst (x := nI 2) X dX7_assume_30 (by decide +kernel) ?_
      refine g_callS (As := [.int (nI w), .int (nI 0), .int (nI 2)]) (rest := [.ref (mo 0)]) (wr := [[((mo 0), .inr (7, [.int th, .ref (mo 1), .ref (mo 2), .int (nI sm), .ref (mo 3), .int (nI ln), .ref (mo 4), .int rm, .int fa, .ref (mo 5), .ref (mo 6), .int sp, .int wr, .long dd]))]]) X (c_X7_in l v (nI w) (nI 0) (nI 2)) f_X7_in q_14_20 dX7_assume_31 [] [0] rfl rfl (by decide) rfl rfl (Nat.le_of_ble_eq_true rfl) (by decide) (fun r_ w_ hp3 => ?_)
      rw [inI_N (by omega) (by omega) (by omega)] at hp3
      obtain ⟨rfl, rfl⟩ := hp3
      show GG k _ _ [[((mo 0), .inr (7, [.int th, .ref (mo 1), .ref (mo 2), .int (nI sm), .ref (mo 3), .int (nI ln), .ref (mo 4), .int rm, .int fa, .ref (mo 5), .ref (mo 6), .int sp, .int wr, .long dd]))]] _ _ [.int (bI (decide (0 ≤ w ∧ w ≤ 2))), .ref (mo 0)]
      refine g_if_neB (tgt := 41) X dX7_assume_34 (by decide) (fun c34 => ?_) (fun c34 => ?_)
      · refine g_iload X dX7_assume_41 0 rfl ?_
        refine g_if_eqN (tgt := 50) X dX7_assume_43 (by decide) (by omega) (fun c43 => ?_) (fun c43 => ?_)
        · refine g_iconst (x := nI 2) X dX7_assume_50 (by decide +kernel) ?_
          refine g_callV (As := [.int (nI 2)]) (rest := []) (wr := []) X (c_X7_holds l v mo th sm ln rm fa sp wr dd 2 (by omega)) f_X7_holds q_15_19 dX7_assume_51 [0] [] rfl rfl (by decide) 0 rfl rfl rfl rfl (Nat.le_of_ble_eq_true rfl) (by decide) (fun r_ w_ hp4 => ?_)
          obtain ⟨rfl, rfl⟩ := hp4
          show GG k _ _ [[((mo 0), .inr (7, [.int (nI 2), .ref (mo 1), .ref (mo 2), .int (nI sm), .ref (mo 3), .int (nI ln), .ref (mo 4), .int rm, .int fa, .ref (mo 5), .ref (mo 6), .int sp, .int wr, .long dd]))]] _ _ [.int (nI 0)]
          refine g_if_neN (tgt := 59) X dX7_assume_54 (by decide) (by omega) (fun c54 => ?_) (fun c54 => ?_)
          · exact absurd rfl c54
          · refine g_iconst (x := nI 0) X dX7_assume_57 (by decide +kernel) ?_
            exact E dX7_assume_58 rfl (rfl) (by decide) (by decide) (⟨rfl, rfl⟩)
        · exact absurd rfl c43
      · exact (of_decide_eq_false c34 ⟨by omega, by omega⟩).elim
    · exact absurd (of_decide_eq_true c17) (by omega)

