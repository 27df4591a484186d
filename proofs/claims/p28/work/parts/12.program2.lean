/-! ## Program -/
set_option maxHeartbeats 4000000 in
set_option maxRecDepth 100000 in
theorem c_X3_compares (l : Launch) (v : VV) (a : Nat) (s : Nat) (b : Nat) (ha : a < 2147483648) (hs : s < 4) (hb : b < 2147483648) : MI l v yX3_compares cX3_compares 3 (some .boolean) ({ frames := 0, cells := 0, slots := 0, locals := 0 }) [.int (nI a), .int (nI s), .int (nI b)] [] (fun r w_ => r = bI (tst s a b) ∧ w_ = []) 0 0 := by
  refine mm_int (by decide) (Nat.le_of_ble_eq_true rfl) [(0, .int (nI a)), (1, .int (nI s)), (2, .int (nI b))] rfl (fun k X E => ?_)
  refine g_iload_n X dX3_compares_0 1 rfl rfl ?_
  rcases (show s = 0 ∨ s = 1 ∨ s = 2 ∨ s = 3 from by omega) with rfl | rfl | rfl | rfl
  · refine g_tabIn (tgt := 28) X dX3_compares_1 (by decide +kernel) (by decide +kernel) (by rfl) (by decide) ?_
    refine g_iload_n X dX3_compares_28 0 rfl rfl ?_
    refine g_iload_n X dX3_compares_29 2 rfl rfl ?_
    refine g_icmp_neN (tgt := 37) X dX3_compares_30 (by decide) (by omega) (by omega) (fun c30 => ?_) (fun c30 => ?_)
    · refine g_iconst (x := nI 0) X dX3_compares_37 (by decide +kernel) ?_
      exact E dX3_compares_38 rfl (rfl) (by decide) (by decide) (⟨bI_zero (by simp [tst] <;> omega), rfl⟩)
    · refine g_iconst (x := nI 1) X dX3_compares_33 (by decide +kernel) ?_
      refine g_goto (tgt := 38) X dX3_compares_34 (by decide) ?_
      exact E dX3_compares_38 rfl (rfl) (by decide) (by decide) (⟨bI_one (by simp [tst] <;> omega), rfl⟩)
  · refine g_tabIn (tgt := 39) X dX3_compares_1 (by decide +kernel) (by decide +kernel) (by rfl) (by decide) ?_
    refine g_iload_n X dX3_compares_39 0 rfl rfl ?_
    refine g_iload_n X dX3_compares_40 2 rfl rfl ?_
    refine g_icmp_geN (tgt := 48) X dX3_compares_41 (by decide) (by omega) (by omega) (fun c41 => ?_) (fun c41 => ?_)
    · refine g_iconst (x := nI 0) X dX3_compares_48 (by decide +kernel) ?_
      exact E dX3_compares_49 rfl (rfl) (by decide) (by decide) (⟨bI_zero (by simp [tst] <;> omega), rfl⟩)
    · refine g_iconst (x := nI 1) X dX3_compares_44 (by decide +kernel) ?_
      refine g_goto (tgt := 49) X dX3_compares_45 (by decide) ?_
      exact E dX3_compares_49 rfl (rfl) (by decide) (by decide) (⟨bI_one (by simp [tst] <;> omega), rfl⟩)
  · refine g_tabIn (tgt := 50) X dX3_compares_1 (by decide +kernel) (by decide +kernel) (by rfl) (by decide) ?_
    refine g_iload_n X dX3_compares_50 0 rfl rfl ?_
    refine g_iload_n X dX3_compares_51 2 rfl rfl ?_
    refine g_icmp_leN (tgt := 59) X dX3_compares_52 (by decide) (by omega) (by omega) (fun c52 => ?_) (fun c52 => ?_)
    · refine g_iconst (x := nI 0) X dX3_compares_59 (by decide +kernel) ?_
      exact E dX3_compares_60 rfl (rfl) (by decide) (by decide) (⟨bI_zero (by simp [tst] <;> omega), rfl⟩)
    · refine g_iconst (x := nI 1) X dX3_compares_55 (by decide +kernel) ?_
      refine g_goto (tgt := 60) X dX3_compares_56 (by decide) ?_
      exact E dX3_compares_60 rfl (rfl) (by decide) (by decide) (⟨bI_one (by simp [tst] <;> omega), rfl⟩)
  · refine g_tabOut (tgt := 61) X dX3_compares_1 (by decide +kernel) (by decide) ?_
    refine g_iload_n X dX3_compares_61 0 rfl rfl ?_
    refine g_iload_n X dX3_compares_62 2 rfl rfl ?_
    refine g_icmp_eqN (tgt := 70) X dX3_compares_63 (by decide) (by omega) (by omega) (fun c63 => ?_) (fun c63 => ?_)
    · refine g_iconst (x := nI 0) X dX3_compares_70 (by decide +kernel) ?_
      exact E dX3_compares_71 rfl (rfl) (by decide) (by decide) (⟨bI_zero (by simp [tst] <;> omega), rfl⟩)
    · refine g_iconst (x := nI 1) X dX3_compares_66 (by decide +kernel) ?_
      refine g_goto (tgt := 71) X dX3_compares_67 (by decide) ?_
      exact E dX3_compares_71 rfl (rfl) (by decide) (by decide) (⟨bI_one (by simp [tst] <;> omega), rfl⟩)

set_option maxHeartbeats 4000000 in
set_option maxRecDepth 100000 in
theorem c_X3_isEnd (l : Launch) (v : VV) (a : Nat → Nat) (n : Nat) (f : Nat → Nat → Int32) (q : Nat) (hn : n ≤ 12) (hq : q < 2147483648) : MI l v yX3_isEnd cX3_isEnd 2 (some .boolean) ({ frames := 1, cells := 0, slots := 0, locals := 20 }) [.ref (a 0), .int (nI q)] [cPg v a n f] (fun r w_ => r = bI (decide (n ≤ q / 512)) ∧ w_ = [cPg v a n f]) 0 0 := by
  refine mm_int (by decide) (Nat.le_of_ble_eq_true rfl) [(0, .ref (a 0)), (1, .int (nI q))] rfl (fun k X E => ?_)
  refine g_iload_n X dX3_isEnd_0 1 rfl rfl ?_
  refine g_callSN (As := [.int (nI q)]) (rest := []) (wr := [cPg v a n f]) X (c_X6_statementAt l v q (by omega)) f_X6_statementAt 7 rfl dX3_isEnd_1 [] [0] rfl rfl (by decide) rfl rfl (Nat.le_of_ble_eq_true rfl) (by decide) (fun r_ w_ hp1 => ?_)
  obtain ⟨rfl, rfl⟩ := hp1
  show GG k _ _ [cPg v a n f] _ _ [.int (nI (q / 512))]
  refine g_aload_n X dX3_isEnd_4 0 rfl rfl ?_
  refine g_get X cb3 0 q_6_17 dX3_isEnd_5 0 0 rfl rfl (by decide) rfl rfl ?_
  refine g_icmp_ltN (tgt := 15) X dX3_isEnd_8 (by decide) (by omega) (by omega) (fun c8 => ?_) (fun c8 => ?_)
  · refine g_iconst (x := nI 0) X dX3_isEnd_15 (by decide +kernel) ?_
    exact E dX3_isEnd_16 rfl (rfl) (by decide) (by decide) (⟨bI_zero (decide_eq_false (by omega)), rfl⟩)
  · refine g_iconst (x := nI 1) X dX3_isEnd_11 (by decide +kernel) ?_
    refine g_goto (tgt := 16) X dX3_isEnd_12 (by decide) ?_
    exact E dX3_isEnd_16 rfl (rfl) (by decide) (by decide) (⟨bI_one (decide_eq_true c8), rfl⟩)

set_option maxHeartbeats 4000000 in
set_option maxRecDepth 100000 in
theorem c_X3_placeAfter (l : Launch) (v : VV) (a : Nat → Nat) (n : Nat) (f : Nat → Nat → Int32) (P : Nat → S9) (q : Nat) (hW : WF P n) (hR : PgR P n f) (hq : q < 2147483648) : MI l v yX3_placeAfter cX3_placeAfter 7 (some .int) ({ frames := 1, cells := 0, slots := 0, locals := 23 }) [.ref (a 0), .int (nI q)] [cPg v a n f] (fun r w_ => r = eo (nxt P n q) ∧ w_ = [cPg v a n f]) 0 0 := by
  refine mm_int (by decide) (Nat.le_of_ble_eq_true rfl) [(0, .ref (a 0)), (1, .int (nI q))] rfl (fun k X E => ?_)
  refine g_iload_n X dX3_placeAfter_0 1 rfl rfl ?_
  refine g_callSN (As := [.int (nI q)]) (rest := []) (wr := [cPg v a n f]) X (c_X6_statementAt l v q (by omega)) f_X6_statementAt 7 rfl dX3_placeAfter_1 [] [0] rfl rfl (by decide) rfl rfl (Nat.le_of_ble_eq_true rfl) (by decide) (fun r_ w_ hp1 => ?_)
  obtain ⟨rfl, rfl⟩ := hp1
  show GG k _ _ [cPg v a n f] _ _ [.int (nI (q / 512))]
  refine g_istore_n (lv' := [(2, .int (nI (q / 512))), (0, .ref (a 0)), (1, .int (nI q))]) X dX3_placeAfter_4 rfl (by decide) rfl ?_
  refine g_iload_n X dX3_placeAfter_5 2 rfl rfl ?_
  refine g_callSN (As := [.int (nI q)]) (rest := []) (wr := [cPg v a n f]) X (c_X6_tripleAt l v q (by omega)) f_X6_tripleAt 8 rfl dX3_placeAfter_6 [] [0] rfl rfl (by decide) rfl rfl (Nat.le_of_ble_eq_true rfl) (by decide) (fun r_ w_ hp2 => ?_)
  obtain ⟨rfl, rfl⟩ := hp2
  show GG k _ _ [cPg v a n f] _ _ [.int (nI (q % 512))]
  refine g_istore_n (lv' := [(3, .int (nI (q % 512))), (2, .int (nI (q / 512))), (0, .ref (a 0)), (1, .int (nI q))]) X dX3_placeAfter_9 rfl (by decide) rfl ?_
  refine g_iload_n X dX3_placeAfter_10 1 rfl rfl ?_
  refine g_aload_n X dX3_placeAfter_11 2 rfl rfl ?_
  refine g_get X cb3 0 q_6_17 dX3_placeAfter_12 0 0 rfl rfl (by decide) rfl rfl ?_
  refine g_icmp_ltN (tgt := 20) X dX3_placeAfter_15 (by decide) (by omega) (by have := hW.1; omega) (fun c15 => ?_) (fun c15 => ?_)
  · obtain ⟨h0, h1, h2, h3, h4, h5⟩ := hR (q / 512) c15
    obtain ⟨w0, w1, w2, w3, w4, w5, w6⟩ := hW.2 (q / 512) c15
    refine g_aload_n X dX3_placeAfter_20 2 rfl rfl ?_
    refine g_get X cb3 4 q_2_16 dX3_placeAfter_21 0 0 rfl rfl (by decide) rfl rfl ?_
    refine g_iload_n X dX3_placeAfter_24 1 rfl rfl ?_
    refine g_iald X dX3_placeAfter_25 0 4 rfl rfl (by have := hW.1; omega) (by omega) ?_
    refine g_v (y := nI ((P (q / 512)).2.2.2.1)) (h3) ?_
    refine g_istore (lv' := [(4, .int (nI ((P (q / 512)).2.2.2.1))), (3, .int (nI (q % 512))), (2, .int (nI (q / 512))), (0, .ref (a 0)), (1, .int (nI q))]) X dX3_placeAfter_26 (by decide) rfl ?_
    refine g_iload X dX3_placeAfter_28 0 rfl ?_
    refine g_bipush (x := nI 8) X dX3_placeAfter_30 (by decide +kernel) ?_
    have j49 : ∀ (x : Nat) (hx : x = opv (q % 512) (P (q / 512)).2.2.2.1), GG k 0 0 [cPg v a n f] [(4, .int (nI ((P (q / 512)).2.2.2.1))), (3, .int (nI (q % 512))), (2, .int (nI (q / 512))), (0, .ref (a 0)), (1, .int (nI q))] 49 [.int (nI x)] := by
      intro x hx
      have hx8 : x < 8 := by rw [hx]; exact opv_lt _
      refine g_istore (lv' := [(5, .int (nI x)), (4, .int (nI ((P (q / 512)).2.2.2.1))), (3, .int (nI (q % 512))), (2, .int (nI (q / 512))), (0, .ref (a 0)), (1, .int (nI q))]) X dX3_placeAfter_49 (by decide) rfl ?_
      refine g_aload_n X dX3_placeAfter_51 4 rfl rfl ?_
      refine g_get X cb3 1 q_2_13 dX3_placeAfter_52 0 0 rfl rfl (by decide) rfl rfl ?_
      refine g_iload_n X dX3_placeAfter_55 3 rfl rfl ?_
      refine g_iald X dX3_placeAfter_56 0 1 rfl rfl (by have := hW.1; omega) (by omega) ?_
      refine g_v (y := nI ((P (q / 512)).1)) (h0) ?_
      refine g_if_neN (tgt := 93) X dX3_placeAfter_57 (by decide) (by omega) (fun c57 => ?_) (fun c57 => ?_)
      · refine g_iload_n X dX3_placeAfter_93 2 rfl rfl ?_
        refine g_aload_n X dX3_placeAfter_94 4 rfl rfl ?_
        refine g_get X cb3 2 q_2_14 dX3_placeAfter_95 0 0 rfl rfl (by decide) rfl rfl ?_
        refine g_iload_n X dX3_placeAfter_98 3 rfl rfl ?_
        refine g_iald X dX3_placeAfter_99 0 2 rfl rfl (by have := hW.1; omega) (by omega) ?_
        refine g_v (y := nI ((P (q / 512)).2.1)) (h1) ?_
        refine g_callSN (As := [.int (nI (q % 512)), .int (nI ((P (q / 512)).2.1))]) (rest := []) (wr := [cPg v a n f]) X (c_X6_valueOf l v (q % 512) ((P (q / 512)).2.1) (by omega) (by omega)) f_X6_valueOf 9 rfl dX3_placeAfter_100 [] [0] rfl rfl (by decide) rfl rfl (Nat.le_of_ble_eq_true rfl) (by decide) (fun r_ w_ hp3 => ?_)
        obtain ⟨rfl, rfl⟩ := hp3
        show GG k _ _ [cPg v a n f] _ _ [.int (nI (val (q % 512) ((P (q / 512)).2.1)))]
        refine g_aload_n X dX3_placeAfter_103 4 rfl rfl ?_
        refine g_get X cb3 3 q_2_15 dX3_placeAfter_104 0 0 rfl rfl (by decide) rfl rfl ?_
        refine g_iload_n X dX3_placeAfter_107 3 rfl rfl ?_
        refine g_iald X dX3_placeAfter_108 0 3 rfl rfl (by have := hW.1; omega) (by omega) ?_
        refine g_v (y := nI ((P (q / 512)).2.2.1)) (h2) ?_
        refine g_iload X dX3_placeAfter_109 0 rfl ?_
        refine g_callS (As := [.int (nI (val (q % 512) ((P (q / 512)).2.1))), .int (nI ((P (q / 512)).2.2.1)), .int (nI x)]) (rest := []) (wr := [cPg v a n f]) X (c_X3_compares l v (val (q % 512) ((P (q / 512)).2.1)) ((P (q / 512)).2.2.1) x (Nat.lt_trans (val_lt _ _) (by omega)) (by omega) (by omega)) f_X3_compares q_18_12 dX3_placeAfter_111 [] [0] rfl rfl (by decide) rfl rfl (Nat.le_of_ble_eq_true rfl) (by decide) (fun r_ w_ hp4 => ?_)
        obtain ⟨rfl, rfl⟩ := hp4
        show GG k _ _ [cPg v a n f] _ _ [.int (bI (tst ((P (q / 512)).2.2.1) (val (q % 512) ((P (q / 512)).2.1)) x))]
        refine g_istore (lv' := [(6, .int (bI (tst ((P (q / 512)).2.2.1) (val (q % 512) ((P (q / 512)).2.1)) x))), (5, .int (nI x)), (4, .int (nI ((P (q / 512)).2.2.2.1))), (3, .int (nI (q % 512))), (2, .int (nI (q / 512))), (0, .ref (a 0)), (1, .int (nI q))]) X dX3_placeAfter_114 (by decide) rfl ?_
        refine g_aload_n X dX3_placeAfter_116 5 rfl rfl ?_
        refine g_get X cb3 1 q_2_13 dX3_placeAfter_117 0 0 rfl rfl (by decide) rfl rfl ?_
        refine g_iload_n X dX3_placeAfter_120 4 rfl rfl ?_
        refine g_iald X dX3_placeAfter_121 0 1 rfl rfl (by have := hW.1; omega) (by omega) ?_
        refine g_v (y := nI ((P (q / 512)).1)) (h0) ?_
        refine g_iconst (x := nI 2) X dX3_placeAfter_122 (by decide +kernel) ?_
        refine g_icmp_neN (tgt := 148) X dX3_placeAfter_123 (by decide) (by omega) (by omega) (fun c123 => ?_) (fun c123 => ?_)
        · refine g_iload X dX3_placeAfter_148 0 rfl ?_
          refine g_if_eqB (tgt := 163) X dX3_placeAfter_150 (by decide) (fun c150 => ?_) (fun c150 => ?_)
          · refine g_iconst (x := zI (-1)) X dX3_placeAfter_163 (by decide +kernel) ?_
            exact E dX3_placeAfter_164 rfl (rfl) (by decide) (by decide) (⟨by unfold nxt nx; rw [if_neg (by omega), if_neg c57, ← hx, if_neg (by rw [c150]; decide), if_neg c123]; rfl, rfl⟩)
          · refine g_iload_n X dX3_placeAfter_153 4 rfl rfl ?_
            refine g_iconst (x := nI 1) X dX3_placeAfter_154 (by decide +kernel) ?_
            refine g_iaddN X dX3_placeAfter_155 ?_
            refine g_iload_n X dX3_placeAfter_156 3 rfl rfl ?_
            refine g_callSN (As := [.int (nI ((q / 512) + 1)), .int (nI (q % 512))]) (rest := []) (wr := [cPg v a n f]) X (c_X6_placeOf l v ((q / 512) + 1) (q % 512)) f_X6_placeOf 11 rfl dX3_placeAfter_157 [] [0] rfl rfl (by decide) rfl rfl (Nat.le_of_ble_eq_true rfl) (by decide) (fun r_ w_ hp5 => ?_)
            obtain ⟨rfl, rfl⟩ := hp5
            show GG k _ _ [cPg v a n f] _ _ [.int (nI (((q / 512) + 1) * 512 + (q % 512)))]
            refine g_goto (tgt := 164) X dX3_placeAfter_160 (by decide) ?_
            exact E dX3_placeAfter_164 rfl (rfl) (by decide) (by decide) (⟨by unfold nxt nx; rw [if_neg (by omega), if_neg c57, ← hx, if_pos c150, if_neg c123]; exact congrArg nI (by omega), rfl⟩)
        · refine g_iload X dX3_placeAfter_126 0 rfl ?_
          refine g_if_eqB (tgt := 140) X dX3_placeAfter_128 (by decide) (fun c128 => ?_) (fun c128 => ?_)
          · refine g_iload_n X dX3_placeAfter_140 4 rfl rfl ?_
            refine g_iconst (x := nI 1) X dX3_placeAfter_141 (by decide +kernel) ?_
            refine g_iaddN X dX3_placeAfter_142 ?_
            refine g_iload_n X dX3_placeAfter_143 3 rfl rfl ?_
            refine g_callSN (As := [.int (nI ((q / 512) + 1)), .int (nI (q % 512))]) (rest := []) (wr := [cPg v a n f]) X (c_X6_placeOf l v ((q / 512) + 1) (q % 512)) f_X6_placeOf 11 rfl dX3_placeAfter_144 [] [0] rfl rfl (by decide) rfl rfl (Nat.le_of_ble_eq_true rfl) (by decide) (fun r_ w_ hp6 => ?_)
            obtain ⟨rfl, rfl⟩ := hp6
            show GG k _ _ [cPg v a n f] _ _ [.int (nI (((q / 512) + 1) * 512 + (q % 512)))]
            exact E dX3_placeAfter_147 rfl (rfl) (by decide) (by decide) (⟨by unfold nxt nx; rw [if_neg (by omega), if_neg c57, ← hx, if_neg (by rw [c128]; decide), if_pos c123]; exact congrArg nI (by omega), rfl⟩)
          · refine g_aload_n X dX3_placeAfter_131 5 rfl rfl ?_
            refine g_get X cb3 6 q_2_18 dX3_placeAfter_132 0 0 rfl rfl (by decide) rfl rfl ?_
            refine g_iload_n X dX3_placeAfter_135 4 rfl rfl ?_
            refine g_iald X dX3_placeAfter_136 0 6 rfl rfl (by have := hW.1; omega) (by omega) ?_
            refine g_v (y := nI ((P (q / 512)).2.2.2.2.toNat)) (by rw [h5]; unfold tg9; rw [if_pos c123]; exact zI_toNat (w6 c123).1) ?_
            refine g_goto (tgt := 143) X dX3_placeAfter_137 (by decide) ?_
            refine g_iload_n X dX3_placeAfter_143 3 rfl rfl ?_
            refine g_callSN (As := [.int (nI ((P (q / 512)).2.2.2.2.toNat)), .int (nI (q % 512))]) (rest := []) (wr := [cPg v a n f]) X (c_X6_placeOf l v ((P (q / 512)).2.2.2.2.toNat) (q % 512)) f_X6_placeOf 11 rfl dX3_placeAfter_144 [] [0] rfl rfl (by decide) rfl rfl (Nat.le_of_ble_eq_true rfl) (by decide) (fun r_ w_ hp7 => ?_)
            obtain ⟨rfl, rfl⟩ := hp7
            show GG k _ _ [cPg v a n f] _ _ [.int (nI (((P (q / 512)).2.2.2.2.toNat) * 512 + (q % 512)))]
            exact E dX3_placeAfter_147 rfl (rfl) (by decide) (by decide) (⟨by unfold nxt nx; rw [if_neg (by omega), if_neg c57, ← hx, if_pos c128, if_pos c123]; exact congrArg nI (by omega), rfl⟩)
      · refine g_iload X dX3_placeAfter_60 0 rfl ?_
        refine g_aload_n X dX3_placeAfter_62 4 rfl rfl ?_
        refine g_get X cb3 5 q_2_17 dX3_placeAfter_63 0 0 rfl rfl (by decide) rfl rfl ?_
        refine g_iload_n X dX3_placeAfter_66 3 rfl rfl ?_
        refine g_iald X dX3_placeAfter_67 0 5 rfl rfl (by have := hW.1; omega) (by omega) ?_
        refine g_v (y := zI ((P (q / 512)).2.2.2.2)) (by rw [h4]; unfold ad9; rw [if_pos c57]) ?_
        refine g_iadd X dX3_placeAfter_68 ?_
        refine g_v (y := zI (((x : Nat) : Int) + ((P (q / 512)).2.2.2.2))) (by rw [zI_nI x, zI_add]) ?_
        refine g_bipush (x := nI 7) X dX3_placeAfter_69 (by decide +kernel) ?_
        refine g_iand X dX3_placeAfter_71 ?_
        refine g_v (y := nI (((((x : Nat) : Int) + (P (q / 512)).2.2.2.2) % 8).toNat)) (sum_and' hx8 (w4 c57).1 (w4 c57).2) ?_
        refine g_istore (lv' := [(6, .int (nI (((((x : Nat) : Int) + (P (q / 512)).2.2.2.2) % 8).toNat))), (5, .int (nI x)), (4, .int (nI ((P (q / 512)).2.2.2.1))), (3, .int (nI (q % 512))), (2, .int (nI (q / 512))), (0, .ref (a 0)), (1, .int (nI q))]) X dX3_placeAfter_72 (by decide) rfl ?_
        refine g_iload_n X dX3_placeAfter_74 4 rfl rfl ?_
        refine g_iconst (x := nI 1) X dX3_placeAfter_75 (by decide +kernel) ?_
        refine g_iaddN X dX3_placeAfter_76 ?_
        refine g_iload_n X dX3_placeAfter_77 3 rfl rfl ?_
        refine g_aload_n X dX3_placeAfter_78 5 rfl rfl ?_
        refine g_get X cb3 2 q_2_14 dX3_placeAfter_79 0 0 rfl rfl (by decide) rfl rfl ?_
        refine g_iload_n X dX3_placeAfter_82 4 rfl rfl ?_
        refine g_iald X dX3_placeAfter_83 0 2 rfl rfl (by have := hW.1; omega) (by omega) ?_
        refine g_v (y := nI ((P (q / 512)).2.1)) (h1) ?_
        refine g_iload X dX3_placeAfter_84 0 rfl ?_
        refine g_callSN (As := [.int (nI (q % 512)), .int (nI ((P (q / 512)).2.1)), .int (nI (((((x : Nat) : Int) + (P (q / 512)).2.2.2.2) % 8).toNat))]) (rest := [.int (nI ((q / 512) + 1))]) (wr := [cPg v a n f]) X (c_X6_withValue l v (q % 512) ((P (q / 512)).2.1) (((((x : Nat) : Int) + (P (q / 512)).2.2.2.2) % 8).toNat) (by omega) (by omega) (by omega)) f_X6_withValue 10 rfl dX3_placeAfter_86 [] [0] rfl rfl (by decide) rfl rfl (Nat.le_of_ble_eq_true rfl) (by decide) (fun r_ w_ hp8 => ?_)
        obtain ⟨rfl, rfl⟩ := hp8
        show GG k _ _ [cPg v a n f] _ _ [.int (nI (wv (q % 512) ((P (q / 512)).2.1) (((((x : Nat) : Int) + (P (q / 512)).2.2.2.2) % 8).toNat))), .int (nI ((q / 512) + 1))]
        refine g_callSN (As := [.int (nI ((q / 512) + 1)), .int (nI (wv (q % 512) ((P (q / 512)).2.1) (((((x : Nat) : Int) + (P (q / 512)).2.2.2.2) % 8).toNat)))]) (rest := []) (wr := [cPg v a n f]) X (c_X6_placeOf l v ((q / 512) + 1) (wv (q % 512) ((P (q / 512)).2.1) (((((x : Nat) : Int) + (P (q / 512)).2.2.2.2) % 8).toNat))) f_X6_placeOf 11 rfl dX3_placeAfter_89 [] [0] rfl rfl (by decide) rfl rfl (Nat.le_of_ble_eq_true rfl) (by decide) (fun r_ w_ hp9 => ?_)
        obtain ⟨rfl, rfl⟩ := hp9
        show GG k _ _ [cPg v a n f] _ _ [.int (nI (((q / 512) + 1) * 512 + (wv (q % 512) ((P (q / 512)).2.1) (((((x : Nat) : Int) + (P (q / 512)).2.2.2.2) % 8).toNat))))]
        exact E dX3_placeAfter_92 rfl (rfl) (by decide) (by decide) (⟨by unfold nxt nx; rw [if_neg (by omega), if_pos c57, ← hx]; exact congrArg nI (by omega), rfl⟩)
    refine g_icmp_geN (tgt := 40) X dX3_placeAfter_32 (by decide) (by omega) (by omega) (fun c32 => ?_) (fun c32 => ?_)
    · refine g_iload_n X dX3_placeAfter_40 1 rfl rfl ?_
      refine g_iload X dX3_placeAfter_41 0 rfl ?_
      refine g_bipush (x := nI 8) X dX3_placeAfter_43 (by decide +kernel) ?_
      refine g_isubN X dX3_placeAfter_45 (by omega) ?_
      refine g_callSN (As := [.int (nI (q % 512)), .int (nI (((P (q / 512)).2.2.2.1) - 8))]) (rest := []) (wr := [cPg v a n f]) X (c_X6_valueOf l v (q % 512) (((P (q / 512)).2.2.2.1) - 8) (by omega) (by omega)) f_X6_valueOf 9 rfl dX3_placeAfter_46 [] [0] rfl rfl (by decide) rfl rfl (Nat.le_of_ble_eq_true rfl) (by decide) (fun r_ w_ hp10 => ?_)
      obtain ⟨rfl, rfl⟩ := hp10
      show GG k _ _ [cPg v a n f] _ _ [.int (nI (val (q % 512) (((P (q / 512)).2.2.2.1) - 8)))]
      exact j49 _ (by unfold opv; rw [if_neg (by omega)])
    · refine g_iload X dX3_placeAfter_35 0 rfl ?_
      refine g_goto (tgt := 49) X dX3_placeAfter_37 (by decide) ?_
      exact j49 _ (by unfold opv; rw [if_pos c32])
  · refine g_iconst (x := zI (-1)) X dX3_placeAfter_18 (by decide +kernel) ?_
    exact E dX3_placeAfter_19 rfl (rfl) (by decide) (by decide) (⟨by unfold nxt; rw [if_pos c15]; rfl, rfl⟩)


