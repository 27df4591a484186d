/-! ## the model: demands, and where assume, demands throw -/
set_option maxHeartbeats 4000000 in
set_option maxRecDepth 100000 in
theorem c_X7_demands (l : Launch) (v : VV) (mo : Nat → Nat) (th : Int32) (sm : Nat) (ln : Nat) (rm : Int32) (fa : Int32) (sp : Int32) (wr : Int32) (dd : Int64) (P : Nat → S9) (n : Nat) (lo : Nat → Nat) (hi : Nat → Nat) (fs : Nat → Int32) (fe : Nat → Int32) (i : Nat) (x : Nat) (y : Nat) (z : Nat) (hW : WF P n) (hS : SR P n lo hi fs) (hi9 : i < n + 1) (hx : x < 8) (hy : y < 8) (hz : z < 8) : MI l v yX7_demands cX7_demands 5 (some .boolean) ({ frames := 6, cells := 0, slots := 0, locals := 138 }) [.ref (mo 0), .int (nI i), .int (nI x), .int (nI y), .int (nI z)] [[((mo 0), .inr (7, [.int th, .ref (mo 1), .ref (mo 2), .int (nI sm), .ref (mo 3), .int (nI ln), .ref (mo 4), .int rm, .int fa, .ref (mo 5), .ref (mo 6), .int sp, .int wr, .long dd]))], cMs v mo fs, cMe v mo fe] (fun r w_ => ∃ fe', r = bI (decide (1000 ≤ EE P n (i * 512 + (64 * x + 8 * y + z)))) ∧ w_ = [[((mo 0), .inr (7, [.int (nI 0), .ref (mo 1), .ref (mo 2), .int (nI sm), .ref (mo 3), .int (nI ln), .ref (mo 4), .int rm, .int fa, .ref (mo 5), .ref (mo 6), .int sp, .int wr, .long dd]))], cMs v mo fs, cMe v mo fe']) 0 0 := by
  refine mm_int (by decide) (Nat.le_of_ble_eq_true rfl) [(0, .ref (mo 0)), (1, .int (nI i)), (2, .int (nI x)), (3, .int (nI y)), (4, .int (nI z))] rfl (fun k X E => ?_)
  have hn12 := hW.1
  refine g_aload_n X dX7_demands_0 0 rfl rfl ?_
  refine g_iload_n X dX7_demands_1 1 rfl rfl ?_
  refine g_iconst (x := nI 0) X dX7_demands_2 (by decide +kernel) ?_
  refine g_aload_n X dX7_demands_3 0 rfl rfl ?_
  refine g_get X cb7 1 q_4_18 dX7_demands_4 0 0 rfl rfl (by decide) rfl rfl ?_
  refine g_iconst (x := nI 0) X dX7_demands_7 (by decide +kernel) ?_
  refine g_iald X dX7_demands_8 1 0 rfl rfl (by omega) (by omega) ?_
  refine g_v (y := nI n) (hS.1) ?_
  refine g_callS (As := [.int (nI i), .int (nI 0), .int (nI n)]) (rest := [.ref (mo 0)]) (wr := [[((mo 0), .inr (7, [.int th, .ref (mo 1), .ref (mo 2), .int (nI sm), .ref (mo 3), .int (nI ln), .ref (mo 4), .int rm, .int fa, .ref (mo 5), .ref (mo 6), .int sp, .int wr, .long dd]))], cMs v mo fs, cMe v mo fe]) X (c_X7_in l v (nI i) (nI 0) (nI n)) f_X7_in q_14_20 dX7_demands_9 [] [0, 1, 2] rfl rfl (by decide) rfl rfl (Nat.le_of_ble_eq_true rfl) (by decide) (fun r_ w_ hp1 => ?_)
  rw [inI_N (by omega) (by omega) (by omega)] at hp1
  obtain ⟨rfl, rfl⟩ := hp1
  show GG k _ _ [[((mo 0), .inr (7, [.int th, .ref (mo 1), .ref (mo 2), .int (nI sm), .ref (mo 3), .int (nI ln), .ref (mo 4), .int rm, .int fa, .ref (mo 5), .ref (mo 6), .int sp, .int wr, .long dd]))], cMs v mo fs, cMe v mo fe] _ _ [.int (bI (decide (0 ≤ i ∧ i ≤ n))), .ref (mo 0)]
  refine g_if_neB (tgt := 19) X dX7_demands_12 (by decide) (fun c12 => ?_) (fun c12 => ?_)
  · refine g_iload_n X dX7_demands_19 2 rfl rfl ?_
    refine g_iload_n X dX7_demands_20 3 rfl rfl ?_
    refine g_iload X dX7_demands_21 4 rfl ?_
    refine g_callS (As := [.int (nI x), .int (nI y), .int (nI z)]) (rest := [.ref (mo 0)]) (wr := [[((mo 0), .inr (7, [.int th, .ref (mo 1), .ref (mo 2), .int (nI sm), .ref (mo 3), .int (nI ln), .ref (mo 4), .int rm, .int fa, .ref (mo 5), .ref (mo 6), .int sp, .int wr, .long dd]))], cMs v mo fs, cMe v mo fe]) X (c_X7_areValues l v x y z (by omega) (by omega) (by omega)) f_X7_areValues q_22_7 dX7_demands_23 [] [0, 1, 2] rfl rfl (by decide) rfl rfl (Nat.le_of_ble_eq_true rfl) (by decide) (fun r_ w_ hp2 => ?_)
    obtain ⟨rfl, rfl⟩ := hp2
    show GG k _ _ [[((mo 0), .inr (7, [.int th, .ref (mo 1), .ref (mo 2), .int (nI sm), .ref (mo 3), .int (nI ln), .ref (mo 4), .int rm, .int fa, .ref (mo 5), .ref (mo 6), .int sp, .int wr, .long dd]))], cMs v mo fs, cMe v mo fe] _ _ [.int (nI 1), .ref (mo 0)]
    refine g_if_eqN (tgt := 33) X dX7_demands_26 (by decide) (by omega) (fun c26 => ?_) (fun c26 => ?_)
    · exact absurd c26 (by decide)
    · refine g_iconst (x := nI 0) X dX7_demands_29 (by decide +kernel) ?_
      refine g_goto (tgt := 34) X dX7_demands_30 (by decide) ?_
      refine g_callV (As := [.int (nI 0)]) (rest := []) (wr := [cMs v mo fs, cMe v mo fe]) X (c_X7_holds l v mo th sm ln rm fa sp wr dd 0 (by omega)) f_X7_holds q_15_19 dX7_demands_34 [0] [1, 2] rfl rfl (by decide) 0 rfl rfl rfl rfl (Nat.le_of_ble_eq_true rfl) (by decide) (fun r_ w_ hp3 => ?_)
      obtain ⟨rfl, rfl⟩ := hp3
      show GG k _ _ [[((mo 0), .inr (7, [.int (nI 0), .ref (mo 1), .ref (mo 2), .int (nI sm), .ref (mo 3), .int (nI ln), .ref (mo 4), .int rm, .int fa, .ref (mo 5), .ref (mo 6), .int sp, .int wr, .long dd]))], cMs v mo fs, cMe v mo fe] _ _ [.int (nI 1)]
      refine g_if_neN (tgt := 42) X dX7_demands_37 (by decide) (by omega) (fun c37 => ?_) (fun c37 => ?_)
      · refine g_aload_n X dX7_demands_42 0 rfl rfl ?_
        refine g_callV (As := []) (rest := []) (wr := []) X (c_X7_worksOut l v mo (nI 0) sm ln rm fa sp wr dd P n lo hi fs fe hW hS) f_X7_worksOut q_22_10 dX7_demands_43 [0, 1, 2] [] rfl rfl (by decide) 0 rfl rfl rfl rfl (Nat.le_of_ble_eq_true rfl) (by decide) (fun r_ w_ hp5 => ?_)
        obtain ⟨wo4, wo4E, rfl⟩ := hp5
        show GG k _ _ [[((mo 0), .inr (7, [.int (nI 0), .ref (mo 1), .ref (mo 2), .int (nI sm), .ref (mo 3), .int (nI ln), .ref (mo 4), .int rm, .int fa, .ref (mo 5), .ref (mo 6), .int sp, .int wr, .long dd]))], cMs v mo fs, cMe v mo wo4] _ _ []
        refine g_aload_n X dX7_demands_46 0 rfl rfl ?_
        refine g_get X cb7 9 q_4_22 dX7_demands_47 0 0 rfl rfl (by decide) rfl rfl ?_
        refine g_sipush (x := nI 512) X dX7_demands_50 (by decide +kernel) ?_
        refine g_iload_n X dX7_demands_53 1 rfl rfl ?_
        refine g_imulN X dX7_demands_54 ?_
        refine g_iload_n X dX7_demands_55 2 rfl rfl ?_
        refine g_iload_n X dX7_demands_56 3 rfl rfl ?_
        refine g_iload X dX7_demands_57 4 rfl ?_
        refine g_callS (As := [.int (nI x), .int (nI y), .int (nI z)]) (rest := [.int (nI (512 * i)), .ref (mo 5)]) (wr := [[((mo 0), .inr (7, [.int (nI 0), .ref (mo 1), .ref (mo 2), .int (nI sm), .ref (mo 3), .int (nI ln), .ref (mo 4), .int rm, .int fa, .ref (mo 5), .ref (mo 6), .int sp, .int wr, .long dd]))], cMs v mo fs, cMe v mo wo4]) X (c_X7_triple l v x y z) f_X7_triple q_23_16 dX7_demands_59 [] [0, 1, 2] rfl rfl (by decide) rfl rfl (Nat.le_of_ble_eq_true rfl) (by decide) (fun r_ w_ hp6 => ?_)
        obtain ⟨rfl, rfl⟩ := hp6
        show GG k _ _ [[((mo 0), .inr (7, [.int (nI 0), .ref (mo 1), .ref (mo 2), .int (nI sm), .ref (mo 3), .int (nI ln), .ref (mo 4), .int rm, .int fa, .ref (mo 5), .ref (mo 6), .int sp, .int wr, .long dd]))], cMs v mo fs, cMe v mo wo4] _ _ [.int (nI (64 * x + 8 * y + z)), .int (nI (512 * i)), .ref (mo 5)]
        refine g_iaddN X dX7_demands_62 ?_
        refine g_iald X dX7_demands_63 2 0 rfl rfl (by omega) (by omega) ?_
        have hrE := EE_rng hW (show i * 512 + (64 * x + 8 * y + z) < 512 * (n + 1) by omega)
        refine g_v (y := zI (EE P n (i * 512 + (64 * x + 8 * y + z)))) (by rw [wo4E _ (by omega), show 512 * i + (64 * x + 8 * y + z) = i * 512 + (64 * x + 8 * y + z) from by omega]) ?_
        refine g_sipush (x := nI 1000) X dX7_demands_64 (by decide +kernel) ?_
        refine g_icmp_lt (tgt := 74) X dX7_demands_67 (by decide) (fun c67 => ?_) (fun c67 => ?_)
        · rw [zI_nI 1000, zI_lt (by omega) (by omega) (by omega) (by omega)] at c67
          refine g_iconst (x := nI 0) X dX7_demands_74 (by decide +kernel) ?_
          exact E dX7_demands_75 rfl (rfl) (by decide) (by decide) (⟨_, bI_zero (decide_eq_false (by omega)), rfl⟩)
        · rw [zI_nI 1000, zI_lt (by omega) (by omega) (by omega) (by omega)] at c67
          refine g_iconst (x := nI 1) X dX7_demands_70 (by decide +kernel) ?_
          refine g_goto (tgt := 75) X dX7_demands_71 (by decide) ?_
          exact E dX7_demands_75 rfl (rfl) (by decide) (by decide) (⟨_, bI_one (decide_eq_true (by omega)), rfl⟩)
      · exact absurd c37 (by decide)
  · exact (of_decide_eq_false c12 ⟨by omega, by omega⟩).elim

set_option maxHeartbeats 4000000 in
set_option maxRecDepth 100000 in
theorem b_X7_demands (l : Launch) (v : VV) (mo : Nat → Nat) (th : Int32) (sm : Nat) (ln : Nat) (rm : Int32) (fa : Int32) (sp : Int32) (wr : Int32) (dd : Int64) (P : Nat → S9) (n : Nat) (lo : Nat → Nat) (hi : Nat → Nat) (fs : Nat → Int32) (u : Int32) (x : Int32) (y : Int32) (z : Int32) (hW : WF P n) (hS : SR P n lo hi fs) (hx : bdI u (n + 1)) : MI l v yX7_demands cX7_demands 5 (some .boolean) ({ frames := 1, cells := 0, slots := 0, locals := 22 }) [.ref (mo 0), .int u, .int x, .int y, .int z] [[((mo 0), .inr (7, [.int th, .ref (mo 1), .ref (mo 2), .int (nI sm), .ref (mo 3), .int (nI ln), .ref (mo 4), .int rm, .int fa, .ref (mo 5), .ref (mo 6), .int sp, .int wr, .long dd]))], cMs v mo fs] (fun r w_ => r = nI 0 ∧ w_ = [[((mo 0), .inr (7, [.int (nI 1), .ref (mo 1), .ref (mo 2), .int (nI sm), .ref (mo 3), .int (nI ln), .ref (mo 4), .int rm, .int fa, .ref (mo 5), .ref (mo 6), .int sp, .int wr, .long dd]))], cMs v mo fs]) 0 0 := by
  refine mm_int (by decide) (Nat.le_of_ble_eq_true rfl) [(0, .ref (mo 0)), (1, .int u), (2, .int x), (3, .int y), (4, .int z)] rfl (fun k X E => ?_)
  have hn12 := hW.1
  refine g_aload_n X dX7_demands_0 0 rfl rfl ?_
  refine g_iload_n X dX7_demands_1 1 rfl rfl ?_
  refine g_iconst (x := nI 0) X dX7_demands_2 (by decide +kernel) ?_
  refine g_aload_n X dX7_demands_3 0 rfl rfl ?_
  refine g_get X cb7 1 q_4_18 dX7_demands_4 0 0 rfl rfl (by decide) rfl rfl ?_
  refine g_iconst (x := nI 0) X dX7_demands_7 (by decide +kernel) ?_
  refine g_iald X dX7_demands_8 1 0 rfl rfl (by omega) (by omega) ?_
  refine g_v (y := nI n) (hS.1) ?_
  refine g_callS (As := [.int u, .int (nI 0), .int (nI n)]) (rest := [.ref (mo 0)]) (wr := [[((mo 0), .inr (7, [.int th, .ref (mo 1), .ref (mo 2), .int (nI sm), .ref (mo 3), .int (nI ln), .ref (mo 4), .int rm, .int fa, .ref (mo 5), .ref (mo 6), .int sp, .int wr, .long dd]))], cMs v mo fs]) X (c_X7_in l v u (nI 0) (nI n)) f_X7_in q_14_20 dX7_demands_9 [] [0, 1] rfl rfl (by decide) rfl rfl (Nat.le_of_ble_eq_true rfl) (by decide) (fun r_ w_ hp1 => ?_)
  obtain ⟨rfl, rfl⟩ := hp1
  show GG k _ _ [[((mo 0), .inr (7, [.int th, .ref (mo 1), .ref (mo 2), .int (nI sm), .ref (mo 3), .int (nI ln), .ref (mo 4), .int rm, .int fa, .ref (mo 5), .ref (mo 6), .int sp, .int wr, .long dd]))], cMs v mo fs] _ _ [.int (bI (inI u (nI 0) (nI n))), .ref (mo 0)]
  refine g_if_neB (tgt := 19) X dX7_demands_12 (by decide) (fun c12 => ?_) (fun c12 => ?_)
  · exact absurd c12 (by rw [inI_badN hx (by omega)]; decide)
  · refine g_iconst (x := nI 1) X dX7_demands_15 (by decide +kernel) ?_
    refine g_goto (tgt := 34) X dX7_demands_16 (by decide) ?_
    refine g_callV (As := [.int (nI 1)]) (rest := []) (wr := [cMs v mo fs]) X (c_X7_holds l v mo th sm ln rm fa sp wr dd 1 (by omega)) f_X7_holds q_15_19 dX7_demands_34 [0] [1] rfl rfl (by decide) 0 rfl rfl rfl rfl (Nat.le_of_ble_eq_true rfl) (by decide) (fun r_ w_ hp2 => ?_)
    obtain ⟨rfl, rfl⟩ := hp2
    show GG k _ _ [[((mo 0), .inr (7, [.int (nI 1), .ref (mo 1), .ref (mo 2), .int (nI sm), .ref (mo 3), .int (nI ln), .ref (mo 4), .int rm, .int fa, .ref (mo 5), .ref (mo 6), .int sp, .int wr, .long dd]))], cMs v mo fs] _ _ [.int (nI 0)]
    refine g_if_neN (tgt := 42) X dX7_demands_37 (by decide) (by omega) (fun c37 => ?_) (fun c37 => ?_)
    · exact absurd rfl c37
    · refine g_iconst (x := nI 0) X dX7_demands_40 (by decide +kernel) ?_
      exact E dX7_demands_41 rfl (rfl) (by decide) (by decide) (⟨rfl, rfl⟩)

set_option maxHeartbeats 4000000 in
set_option maxRecDepth 100000 in
theorem b0_X7_demands (l : Launch) (v : VV) (mo : Nat → Nat) (th : Int32) (sm : Nat) (ln : Nat) (rm : Int32) (fa : Int32) (sp : Int32) (wr : Int32) (dd : Int64) (P : Nat → S9) (n : Nat) (lo : Nat → Nat) (hi : Nat → Nat) (fs : Nat → Int32) (i : Nat) (x : Int32) (y : Int32) (z : Int32) (hW : WF P n) (hS : SR P n lo hi fs) (hi9 : i < n + 1) (hx : bdI x 8) : MI l v yX7_demands cX7_demands 5 (some .boolean) ({ frames := 2, cells := 0, slots := 0, locals := 44 }) [.ref (mo 0), .int (nI i), .int x, .int y, .int z] [[((mo 0), .inr (7, [.int th, .ref (mo 1), .ref (mo 2), .int (nI sm), .ref (mo 3), .int (nI ln), .ref (mo 4), .int rm, .int fa, .ref (mo 5), .ref (mo 6), .int sp, .int wr, .long dd]))], cMs v mo fs] (fun r w_ => r = nI 0 ∧ w_ = [[((mo 0), .inr (7, [.int (nI 2), .ref (mo 1), .ref (mo 2), .int (nI sm), .ref (mo 3), .int (nI ln), .ref (mo 4), .int rm, .int fa, .ref (mo 5), .ref (mo 6), .int sp, .int wr, .long dd]))], cMs v mo fs]) 0 0 := by
  refine mm_int (by decide) (Nat.le_of_ble_eq_true rfl) [(0, .ref (mo 0)), (1, .int (nI i)), (2, .int x), (3, .int y), (4, .int z)] rfl (fun k X E => ?_)
  have hn12 := hW.1
  refine g_aload_n X dX7_demands_0 0 rfl rfl ?_
  refine g_iload_n X dX7_demands_1 1 rfl rfl ?_
  refine g_iconst (x := nI 0) X dX7_demands_2 (by decide +kernel) ?_
  refine g_aload_n X dX7_demands_3 0 rfl rfl ?_
  refine g_get X cb7 1 q_4_18 dX7_demands_4 0 0 rfl rfl (by decide) rfl rfl ?_
  refine g_iconst (x := nI 0) X dX7_demands_7 (by decide +kernel) ?_
  refine g_iald X dX7_demands_8 1 0 rfl rfl (by omega) (by omega) ?_
  refine g_v (y := nI n) (hS.1) ?_
  refine g_callS (As := [.int (nI i), .int (nI 0), .int (nI n)]) (rest := [.ref (mo 0)]) (wr := [[((mo 0), .inr (7, [.int th, .ref (mo 1), .ref (mo 2), .int (nI sm), .ref (mo 3), .int (nI ln), .ref (mo 4), .int rm, .int fa, .ref (mo 5), .ref (mo 6), .int sp, .int wr, .long dd]))], cMs v mo fs]) X (c_X7_in l v (nI i) (nI 0) (nI n)) f_X7_in q_14_20 dX7_demands_9 [] [0, 1] rfl rfl (by decide) rfl rfl (Nat.le_of_ble_eq_true rfl) (by decide) (fun r_ w_ hp1 => ?_)
  rw [inI_N (by omega) (by omega) (by omega)] at hp1
  obtain ⟨rfl, rfl⟩ := hp1
  show GG k _ _ [[((mo 0), .inr (7, [.int th, .ref (mo 1), .ref (mo 2), .int (nI sm), .ref (mo 3), .int (nI ln), .ref (mo 4), .int rm, .int fa, .ref (mo 5), .ref (mo 6), .int sp, .int wr, .long dd]))], cMs v mo fs] _ _ [.int (bI (decide (0 ≤ i ∧ i ≤ n))), .ref (mo 0)]
  refine g_if_neB (tgt := 19) X dX7_demands_12 (by decide) (fun c12 => ?_) (fun c12 => ?_)
  · refine g_iload_n X dX7_demands_19 2 rfl rfl ?_
    refine g_iload_n X dX7_demands_20 3 rfl rfl ?_
    refine g_iload X dX7_demands_21 4 rfl ?_
    refine g_callS (As := [.int x, .int y, .int z]) (rest := [.ref (mo 0)]) (wr := [[((mo 0), .inr (7, [.int th, .ref (mo 1), .ref (mo 2), .int (nI sm), .ref (mo 3), .int (nI ln), .ref (mo 4), .int rm, .int fa, .ref (mo 5), .ref (mo 6), .int sp, .int wr, .long dd]))], cMs v mo fs]) X (b0_X7_areValues l v x y z hx) f_X7_areValues q_22_7 dX7_demands_23 [] [0, 1] rfl rfl (by decide) rfl rfl (Nat.le_of_ble_eq_true rfl) (by decide) (fun r_ w_ hp2 => ?_)
    obtain ⟨rfl, rfl⟩ := hp2
    show GG k _ _ [[((mo 0), .inr (7, [.int th, .ref (mo 1), .ref (mo 2), .int (nI sm), .ref (mo 3), .int (nI ln), .ref (mo 4), .int rm, .int fa, .ref (mo 5), .ref (mo 6), .int sp, .int wr, .long dd]))], cMs v mo fs] _ _ [.int (nI 0), .ref (mo 0)]
    refine g_if_eqN (tgt := 33) X dX7_demands_26 (by decide) (by omega) (fun c26 => ?_) (fun c26 => ?_)
    · refine g_iconst (x := nI 2) X dX7_demands_33 (by decide +kernel) ?_
      refine g_callV (As := [.int (nI 2)]) (rest := []) (wr := [cMs v mo fs]) X (c_X7_holds l v mo th sm ln rm fa sp wr dd 2 (by omega)) f_X7_holds q_15_19 dX7_demands_34 [0] [1] rfl rfl (by decide) 0 rfl rfl rfl rfl (Nat.le_of_ble_eq_true rfl) (by decide) (fun r_ w_ hp3 => ?_)
      obtain ⟨rfl, rfl⟩ := hp3
      show GG k _ _ [[((mo 0), .inr (7, [.int (nI 2), .ref (mo 1), .ref (mo 2), .int (nI sm), .ref (mo 3), .int (nI ln), .ref (mo 4), .int rm, .int fa, .ref (mo 5), .ref (mo 6), .int sp, .int wr, .long dd]))], cMs v mo fs] _ _ [.int (nI 0)]
      refine g_if_neN (tgt := 42) X dX7_demands_37 (by decide) (by omega) (fun c37 => ?_) (fun c37 => ?_)
      · exact absurd rfl c37
      · refine g_iconst (x := nI 0) X dX7_demands_40 (by decide +kernel) ?_
        exact E dX7_demands_41 rfl (rfl) (by decide) (by decide) (⟨rfl, rfl⟩)
    · exact absurd rfl c26
  · exact (of_decide_eq_false c12 ⟨by omega, by omega⟩).elim

set_option maxHeartbeats 4000000 in
set_option maxRecDepth 100000 in
theorem b1_X7_demands (l : Launch) (v : VV) (mo : Nat → Nat) (th : Int32) (sm : Nat) (ln : Nat) (rm : Int32) (fa : Int32) (sp : Int32) (wr : Int32) (dd : Int64) (P : Nat → S9) (n : Nat) (lo : Nat → Nat) (hi : Nat → Nat) (fs : Nat → Int32) (i : Nat) (x : Nat) (y : Int32) (z : Int32) (hW : WF P n) (hS : SR P n lo hi fs) (hi9 : i < n + 1) (h1 : x < 8) (hx : bdI y 8) : MI l v yX7_demands cX7_demands 5 (some .boolean) ({ frames := 2, cells := 0, slots := 0, locals := 44 }) [.ref (mo 0), .int (nI i), .int (nI x), .int y, .int z] [[((mo 0), .inr (7, [.int th, .ref (mo 1), .ref (mo 2), .int (nI sm), .ref (mo 3), .int (nI ln), .ref (mo 4), .int rm, .int fa, .ref (mo 5), .ref (mo 6), .int sp, .int wr, .long dd]))], cMs v mo fs] (fun r w_ => r = nI 0 ∧ w_ = [[((mo 0), .inr (7, [.int (nI 2), .ref (mo 1), .ref (mo 2), .int (nI sm), .ref (mo 3), .int (nI ln), .ref (mo 4), .int rm, .int fa, .ref (mo 5), .ref (mo 6), .int sp, .int wr, .long dd]))], cMs v mo fs]) 0 0 := by
  refine mm_int (by decide) (Nat.le_of_ble_eq_true rfl) [(0, .ref (mo 0)), (1, .int (nI i)), (2, .int (nI x)), (3, .int y), (4, .int z)] rfl (fun k X E => ?_)
  have hn12 := hW.1
  refine g_aload_n X dX7_demands_0 0 rfl rfl ?_
  refine g_iload_n X dX7_demands_1 1 rfl rfl ?_
  refine g_iconst (x := nI 0) X dX7_demands_2 (by decide +kernel) ?_
  refine g_aload_n X dX7_demands_3 0 rfl rfl ?_
  refine g_get X cb7 1 q_4_18 dX7_demands_4 0 0 rfl rfl (by decide) rfl rfl ?_
  refine g_iconst (x := nI 0) X dX7_demands_7 (by decide +kernel) ?_
  refine g_iald X dX7_demands_8 1 0 rfl rfl (by omega) (by omega) ?_
  refine g_v (y := nI n) (hS.1) ?_
  refine g_callS (As := [.int (nI i), .int (nI 0), .int (nI n)]) (rest := [.ref (mo 0)]) (wr := [[((mo 0), .inr (7, [.int th, .ref (mo 1), .ref (mo 2), .int (nI sm), .ref (mo 3), .int (nI ln), .ref (mo 4), .int rm, .int fa, .ref (mo 5), .ref (mo 6), .int sp, .int wr, .long dd]))], cMs v mo fs]) X (c_X7_in l v (nI i) (nI 0) (nI n)) f_X7_in q_14_20 dX7_demands_9 [] [0, 1] rfl rfl (by decide) rfl rfl (Nat.le_of_ble_eq_true rfl) (by decide) (fun r_ w_ hp1 => ?_)
  rw [inI_N (by omega) (by omega) (by omega)] at hp1
  obtain ⟨rfl, rfl⟩ := hp1
  show GG k _ _ [[((mo 0), .inr (7, [.int th, .ref (mo 1), .ref (mo 2), .int (nI sm), .ref (mo 3), .int (nI ln), .ref (mo 4), .int rm, .int fa, .ref (mo 5), .ref (mo 6), .int sp, .int wr, .long dd]))], cMs v mo fs] _ _ [.int (bI (decide (0 ≤ i ∧ i ≤ n))), .ref (mo 0)]
  refine g_if_neB (tgt := 19) X dX7_demands_12 (by decide) (fun c12 => ?_) (fun c12 => ?_)
  · refine g_iload_n X dX7_demands_19 2 rfl rfl ?_
    refine g_iload_n X dX7_demands_20 3 rfl rfl ?_
    refine g_iload X dX7_demands_21 4 rfl ?_
    refine g_callS (As := [.int (nI x), .int y, .int z]) (rest := [.ref (mo 0)]) (wr := [[((mo 0), .inr (7, [.int th, .ref (mo 1), .ref (mo 2), .int (nI sm), .ref (mo 3), .int (nI ln), .ref (mo 4), .int rm, .int fa, .ref (mo 5), .ref (mo 6), .int sp, .int wr, .long dd]))], cMs v mo fs]) X (b1_X7_areValues l v x y z h1 hx) f_X7_areValues q_22_7 dX7_demands_23 [] [0, 1] rfl rfl (by decide) rfl rfl (Nat.le_of_ble_eq_true rfl) (by decide) (fun r_ w_ hp2 => ?_)
    obtain ⟨rfl, rfl⟩ := hp2
    show GG k _ _ [[((mo 0), .inr (7, [.int th, .ref (mo 1), .ref (mo 2), .int (nI sm), .ref (mo 3), .int (nI ln), .ref (mo 4), .int rm, .int fa, .ref (mo 5), .ref (mo 6), .int sp, .int wr, .long dd]))], cMs v mo fs] _ _ [.int (nI 0), .ref (mo 0)]
    refine g_if_eqN (tgt := 33) X dX7_demands_26 (by decide) (by omega) (fun c26 => ?_) (fun c26 => ?_)
    · refine g_iconst (x := nI 2) X dX7_demands_33 (by decide +kernel) ?_
      refine g_callV (As := [.int (nI 2)]) (rest := []) (wr := [cMs v mo fs]) X (c_X7_holds l v mo th sm ln rm fa sp wr dd 2 (by omega)) f_X7_holds q_15_19 dX7_demands_34 [0] [1] rfl rfl (by decide) 0 rfl rfl rfl rfl (Nat.le_of_ble_eq_true rfl) (by decide) (fun r_ w_ hp3 => ?_)
      obtain ⟨rfl, rfl⟩ := hp3
      show GG k _ _ [[((mo 0), .inr (7, [.int (nI 2), .ref (mo 1), .ref (mo 2), .int (nI sm), .ref (mo 3), .int (nI ln), .ref (mo 4), .int rm, .int fa, .ref (mo 5), .ref (mo 6), .int sp, .int wr, .long dd]))], cMs v mo fs] _ _ [.int (nI 0)]
      refine g_if_neN (tgt := 42) X dX7_demands_37 (by decide) (by omega) (fun c37 => ?_) (fun c37 => ?_)
      · exact absurd rfl c37
      · refine g_iconst (x := nI 0) X dX7_demands_40 (by decide +kernel) ?_
        exact E dX7_demands_41 rfl (rfl) (by decide) (by decide) (⟨rfl, rfl⟩)
    · exact absurd rfl c26
  · exact (of_decide_eq_false c12 ⟨by omega, by omega⟩).elim

set_option maxHeartbeats 4000000 in
set_option maxRecDepth 100000 in
theorem b2_X7_demands (l : Launch) (v : VV) (mo : Nat → Nat) (th : Int32) (sm : Nat) (ln : Nat) (rm : Int32) (fa : Int32) (sp : Int32) (wr : Int32) (dd : Int64) (P : Nat → S9) (n : Nat) (lo : Nat → Nat) (hi : Nat → Nat) (fs : Nat → Int32) (i : Nat) (x : Nat) (y : Nat) (z : Int32) (hW : WF P n) (hS : SR P n lo hi fs) (hi9 : i < n + 1) (h1 : x < 8) (h2 : y < 8) (hx : bdI z 8) : MI l v yX7_demands cX7_demands 5 (some .boolean) ({ frames := 2, cells := 0, slots := 0, locals := 44 }) [.ref (mo 0), .int (nI i), .int (nI x), .int (nI y), .int z] [[((mo 0), .inr (7, [.int th, .ref (mo 1), .ref (mo 2), .int (nI sm), .ref (mo 3), .int (nI ln), .ref (mo 4), .int rm, .int fa, .ref (mo 5), .ref (mo 6), .int sp, .int wr, .long dd]))], cMs v mo fs] (fun r w_ => r = nI 0 ∧ w_ = [[((mo 0), .inr (7, [.int (nI 2), .ref (mo 1), .ref (mo 2), .int (nI sm), .ref (mo 3), .int (nI ln), .ref (mo 4), .int rm, .int fa, .ref (mo 5), .ref (mo 6), .int sp, .int wr, .long dd]))], cMs v mo fs]) 0 0 := by
  refine mm_int (by decide) (Nat.le_of_ble_eq_true rfl) [(0, .ref (mo 0)), (1, .int (nI i)), (2, .int (nI x)), (3, .int (nI y)), (4, .int z)] rfl (fun k X E => ?_)
  have hn12 := hW.1
  refine g_aload_n X dX7_demands_0 0 rfl rfl ?_
  refine g_iload_n X dX7_demands_1 1 rfl rfl ?_
  refine g_iconst (x := nI 0) X dX7_demands_2 (by decide +kernel) ?_
  refine g_aload_n X dX7_demands_3 0 rfl rfl ?_
  refine g_get X cb7 1 q_4_18 dX7_demands_4 0 0 rfl rfl (by decide) rfl rfl ?_
  refine g_iconst (x := nI 0) X dX7_demands_7 (by decide +kernel) ?_
  refine g_iald X dX7_demands_8 1 0 rfl rfl (by omega) (by omega) ?_
  refine g_v (y := nI n) (hS.1) ?_
  refine g_callS (As := [.int (nI i), .int (nI 0), .int (nI n)]) (rest := [.ref (mo 0)]) (wr := [[((mo 0), .inr (7, [.int th, .ref (mo 1), .ref (mo 2), .int (nI sm), .ref (mo 3), .int (nI ln), .ref (mo 4), .int rm, .int fa, .ref (mo 5), .ref (mo 6), .int sp, .int wr, .long dd]))], cMs v mo fs]) X (c_X7_in l v (nI i) (nI 0) (nI n)) f_X7_in q_14_20 dX7_demands_9 [] [0, 1] rfl rfl (by decide) rfl rfl (Nat.le_of_ble_eq_true rfl) (by decide) (fun r_ w_ hp1 => ?_)
  rw [inI_N (by omega) (by omega) (by omega)] at hp1
  obtain ⟨rfl, rfl⟩ := hp1
  show GG k _ _ [[((mo 0), .inr (7, [.int th, .ref (mo 1), .ref (mo 2), .int (nI sm), .ref (mo 3), .int (nI ln), .ref (mo 4), .int rm, .int fa, .ref (mo 5), .ref (mo 6), .int sp, .int wr, .long dd]))], cMs v mo fs] _ _ [.int (bI (decide (0 ≤ i ∧ i ≤ n))), .ref (mo 0)]
  refine g_if_neB (tgt := 19) X dX7_demands_12 (by decide) (fun c12 => ?_) (fun c12 => ?_)
  · refine g_iload_n X dX7_demands_19 2 rfl rfl ?_
    refine g_iload_n X dX7_demands_20 3 rfl rfl ?_
    refine g_iload X dX7_demands_21 4 rfl ?_
    refine g_callS (As := [.int (nI x), .int (nI y), .int z]) (rest := [.ref (mo 0)]) (wr := [[((mo 0), .inr (7, [.int th, .ref (mo 1), .ref (mo 2), .int (nI sm), .ref (mo 3), .int (nI ln), .ref (mo 4), .int rm, .int fa, .ref (mo 5), .ref (mo 6), .int sp, .int wr, .long dd]))], cMs v mo fs]) X (b2_X7_areValues l v x y z h1 h2 hx) f_X7_areValues q_22_7 dX7_demands_23 [] [0, 1] rfl rfl (by decide) rfl rfl (Nat.le_of_ble_eq_true rfl) (by decide) (fun r_ w_ hp2 => ?_)
    obtain ⟨rfl, rfl⟩ := hp2
    show GG k _ _ [[((mo 0), .inr (7, [.int th, .ref (mo 1), .ref (mo 2), .int (nI sm), .ref (mo 3), .int (nI ln), .ref (mo 4), .int rm, .int fa, .ref (mo 5), .ref (mo 6), .int sp, .int wr, .long dd]))], cMs v mo fs] _ _ [.int (nI 0), .ref (mo 0)]
    refine g_if_eqN (tgt := 33) X dX7_demands_26 (by decide) (by omega) (fun c26 => ?_) (fun c26 => ?_)
    · refine g_iconst (x := nI 2) X dX7_demands_33 (by decide +kernel) ?_
      refine g_callV (As := [.int (nI 2)]) (rest := []) (wr := [cMs v mo fs]) X (c_X7_holds l v mo th sm ln rm fa sp wr dd 2 (by omega)) f_X7_holds q_15_19 dX7_demands_34 [0] [1] rfl rfl (by decide) 0 rfl rfl rfl rfl (Nat.le_of_ble_eq_true rfl) (by decide) (fun r_ w_ hp3 => ?_)
      obtain ⟨rfl, rfl⟩ := hp3
      show GG k _ _ [[((mo 0), .inr (7, [.int (nI 2), .ref (mo 1), .ref (mo 2), .int (nI sm), .ref (mo 3), .int (nI ln), .ref (mo 4), .int rm, .int fa, .ref (mo 5), .ref (mo 6), .int sp, .int wr, .long dd]))], cMs v mo fs] _ _ [.int (nI 0)]
      refine g_if_neN (tgt := 42) X dX7_demands_37 (by decide) (by omega) (fun c37 => ?_) (fun c37 => ?_)
      · exact absurd rfl c37
      · refine g_iconst (x := nI 0) X dX7_demands_40 (by decide +kernel) ?_
        exact E dX7_demands_41 rfl (rfl) (by decide) (by decide) (⟨rfl, rfl⟩)
    · exact absurd rfl c26
  · exact (of_decide_eq_false c12 ⟨by omega, by omega⟩).elim

