/-! ## the model: steps of a run -/
theorem tst_0 {s a b : Nat} (h : s = 0) : tst s a b = decide (a = b) := by unfold tst; rw [if_pos h]
theorem tst_1 {s a b : Nat} (h : s = 1) : tst s a b = decide (a < b) := by unfold tst; rw [if_neg (by omega), if_pos h]
theorem tst_2 {s a b : Nat} (h : s = 2) : tst s a b = decide (b < a) := by unfold tst; rw [if_neg (by omega), if_neg (by omega), if_pos h]
theorem tst_3 {s a b : Nat} (h : s = 3) : tst s a b = decide (¬ a = b) := by unfold tst; rw [if_neg (by omega), if_neg (by omega), if_neg (by omega)]
theorem sg9_0 {s : S9} (h : ¬ s.1 = 0) (z : s.2.2.1 = 0) : sg9 s = 61 := by unfold sg9; rw [if_neg h, if_pos z]
theorem sg9_1 {s : S9} (h : ¬ s.1 = 0) (z : s.2.2.1 = 1) : sg9 s = 60 := by unfold sg9; rw [if_neg h, if_neg (by omega), if_pos z]
theorem sg9_2 {s : S9} (h : ¬ s.1 = 0) (z : s.2.2.1 = 2) : sg9 s = 62 := by unfold sg9; rw [if_neg h, if_neg (by omega), if_neg (by omega), if_pos z]
theorem sg9_3 {s : S9} (h : ¬ s.1 = 0) (z : s.2.2.1 = 3) : sg9 s = 35 := by unfold sg9; rw [if_neg h, if_neg (by omega), if_neg (by omega), if_neg (by omega)]
section NXS
variable {P : Nat → S9} {q : Nat}
theorem nx_ct (h : (P (q / 512)).1 = 1) (ht : tst (P (q / 512)).2.2.1 (val (q % 512) (P (q / 512)).2.1) (opv (q % 512) (P (q / 512)).2.2.2.1) = true) : nx P q = some (512 * (q / 512 + 1) + q % 512) := by unfold nx; rw [if_neg (by omega), if_pos ht, if_neg (by omega)]
theorem nx_cf (h : (P (q / 512)).1 = 1) (ht : tst (P (q / 512)).2.2.1 (val (q % 512) (P (q / 512)).2.1) (opv (q % 512) (P (q / 512)).2.2.2.1) = false) : nx P q = none := by unfold nx; rw [if_neg (by omega), if_neg (by rw [ht]; decide), if_neg (by omega)]
theorem nx_jt (h : (P (q / 512)).1 = 2) (ht : tst (P (q / 512)).2.2.1 (val (q % 512) (P (q / 512)).2.1) (opv (q % 512) (P (q / 512)).2.2.2.1) = true) : nx P q = some (512 * (P (q / 512)).2.2.2.2.toNat + q % 512) := by unfold nx; rw [if_neg (by omega), if_pos ht, if_pos h]
theorem nx_jf (h : (P (q / 512)).1 = 2) (ht : tst (P (q / 512)).2.2.1 (val (q % 512) (P (q / 512)).2.1) (opv (q % 512) (P (q / 512)).2.2.2.1) = false) : nx P q = some (512 * (q / 512 + 1) + q % 512) := by unfold nx; rw [if_neg (by omega), if_neg (by rw [ht]; decide), if_pos h]
end NXS
theorem inI_bad {x : Int32} {n : Nat} (h : bdI x n) (hn : n < 2147483648) : inI x (nI 0) (zI ((n : Int) - 1)) = false := by
  refine decide_eq_false (fun ⟨h1, h2⟩ => ?_)
  rcases h with h | h
  · exact absurd h (Int32.not_lt.mpr h1)
  · by_cases z : n = 0
    · subst z
      rw [Int32.le_iff_toInt_le] at h1 h2
      have e : (zI (((0 : Nat) : Int) - 1)).toInt = -1 := by decide +kernel
      have e0 : (nI 0).toInt = 0 := by decide +kernel
      omega
    · have e : zI ((n : Int) - 1) = nI (n - 1) := by rw [zI_nI]; congr 1; omega
      rw [e] at h2
      rw [Int32.le_iff_toInt_le, nI_toInt (by omega)] at h h2
      omega
theorem inI_bad8 {x : Int32} (h : bdI x 8) : inI x (nI 0) (nI 7) = false := inI_bad h (by omega)

set_option maxHeartbeats 4000000 in
set_option maxRecDepth 100000 in
theorem c_X7_operand (l : Launch) (v : VV) (mo : Nat → Nat) (th : Int32) (sm : Nat) (ln : Nat) (rm : Int32) (fa : Int32) (sp : Int32) (wr : Int32) (dd : Int64) (P : Nat → S9) (n : Nat) (lo : Nat → Nat) (hi : Nat → Nat) (fs : Nat → Int32) (i : Nat) (t : Nat) (hW : WF P n) (hS : SR P n lo hi fs) (hi9 : i < n) (ht : t < 512) : MI l v yX7_operand cX7_operand 4 (some .int) ({ frames := 1, cells := 0, slots := 0, locals := 21 }) [.ref (mo 0), .int (nI i), .int (nI t)] [[((mo 0), .inr (7, [.int th, .ref (mo 1), .ref (mo 2), .int (nI sm), .ref (mo 3), .int (nI ln), .ref (mo 4), .int rm, .int fa, .ref (mo 5), .ref (mo 6), .int sp, .int wr, .long dd]))], cMs v mo fs] (fun r w_ => r = nI (opv t (P i).2.2.2.1) ∧ w_ = [[((mo 0), .inr (7, [.int th, .ref (mo 1), .ref (mo 2), .int (nI sm), .ref (mo 3), .int (nI ln), .ref (mo 4), .int rm, .int fa, .ref (mo 5), .ref (mo 6), .int sp, .int wr, .long dd]))], cMs v mo fs]) 0 0 := by
  refine mm_int (by decide) (Nat.le_of_ble_eq_true rfl) [(0, .ref (mo 0)), (1, .int (nI i)), (2, .int (nI t))] rfl (fun k X E => ?_)
  have hn12 := hW.1
  have hop := (hW.2 i hi9).2.2.2.1
  have hol := opm_lt hop
  refine g_aload_n X dX7_operand_0 0 rfl rfl ?_
  refine g_get X cb7 1 q_4_18 dX7_operand_1 0 0 rfl rfl (by decide) rfl rfl ?_
  refine g_iload_n X dX7_operand_4 1 rfl rfl ?_
  refine g_iconst (x := nI 3) X dX7_operand_5 (by decide +kernel) ?_
  refine g_callS (As := [.int (nI i), .int (nI 3)]) (rest := [.ref (mo 1)]) (wr := [[((mo 0), .inr (7, [.int th, .ref (mo 1), .ref (mo 2), .int (nI sm), .ref (mo 3), .int (nI ln), .ref (mo 4), .int rm, .int fa, .ref (mo 5), .ref (mo 6), .int sp, .int wr, .long dd]))], cMs v mo fs]) X (c_X7_of l v i 3) f_X7_of q_17_23 dX7_operand_6 [] [0, 1] rfl rfl (by decide) rfl rfl (Nat.le_of_ble_eq_true rfl) (by decide) (fun r_ w_ hp1 => ?_)
  obtain ⟨rfl, rfl⟩ := hp1
  show GG k _ _ [[((mo 0), .inr (7, [.int th, .ref (mo 1), .ref (mo 2), .int (nI sm), .ref (mo 3), .int (nI ln), .ref (mo 4), .int rm, .int fa, .ref (mo 5), .ref (mo 6), .int sp, .int wr, .long dd]))], cMs v mo fs] _ _ [.int (nI (1 + 5 * i + 3)), .ref (mo 1)]
  refine g_iald X dX7_operand_9 1 0 rfl rfl (by omega) (by omega) ?_
  refine g_v (y := nI (opm (P i).2.2.2.1)) ((hS.2.1 i hi9).2.2.2.1) ?_
  refine g_istore_n (lv' := [(3, .int (nI (opm (P i).2.2.2.1))), (0, .ref (mo 0)), (1, .int (nI i)), (2, .int (nI t))]) X dX7_operand_10 rfl (by decide) rfl ?_
  refine g_iload_n X dX7_operand_11 0 rfl rfl ?_
  refine g_iconst (x := nI 3) X dX7_operand_12 (by decide +kernel) ?_
  refine g_icmp_geN (tgt := 24) X dX7_operand_13 (by decide) (by omega) (by omega) (fun c13 => ?_) (fun c13 => ?_)
  · refine g_iload_n X dX7_operand_24 0 rfl rfl ?_
    refine g_iconst (x := nI 3) X dX7_operand_25 (by decide +kernel) ?_
    refine g_isubN X dX7_operand_26 (by omega) ?_
    exact E dX7_operand_27 rfl (rfl) (by decide) (by decide) (⟨by rw [opv_hi (by omega) hop], rfl⟩)
  · refine g_iload_n X dX7_operand_16 3 rfl rfl ?_
    refine g_iload_n X dX7_operand_17 0 rfl rfl ?_
    refine g_callS (As := [.int (nI t), .int (nI (opm (P i).2.2.2.1))]) (rest := []) (wr := [[((mo 0), .inr (7, [.int th, .ref (mo 1), .ref (mo 2), .int (nI sm), .ref (mo 3), .int (nI ln), .ref (mo 4), .int rm, .int fa, .ref (mo 5), .ref (mo 6), .int sp, .int wr, .long dd]))], cMs v mo fs]) X (c_X7_valueOf l v t (opm (P i).2.2.2.1) (by omega) (by omega)) f_X7_valueOf q_23_6 dX7_operand_18 [] [0, 1] rfl rfl (by decide) rfl rfl (Nat.le_of_ble_eq_true rfl) (by decide) (fun r_ w_ hp2 => ?_)
    obtain ⟨rfl, rfl⟩ := hp2
    show GG k _ _ [[((mo 0), .inr (7, [.int th, .ref (mo 1), .ref (mo 2), .int (nI sm), .ref (mo 3), .int (nI ln), .ref (mo 4), .int rm, .int fa, .ref (mo 5), .ref (mo 6), .int sp, .int wr, .long dd]))], cMs v mo fs] _ _ [.int (nI (val t (opm (P i).2.2.2.1)))]
    refine g_goto (tgt := 27) X dX7_operand_21 (by decide) ?_
    exact E dX7_operand_27 rfl (rfl) (by decide) (by decide) (⟨by rw [opv_lo c13 hop], rfl⟩)

set_option maxHeartbeats 4000000 in
set_option maxRecDepth 100000 in
theorem c_X7_isTrue (l : Launch) (v : VV) (mo : Nat → Nat) (th : Int32) (sm : Nat) (ln : Nat) (rm : Int32) (fa : Int32) (sp : Int32) (wr : Int32) (dd : Int64) (P : Nat → S9) (n : Nat) (lo : Nat → Nat) (hi : Nat → Nat) (fs : Nat → Int32) (i : Nat) (t : Nat) (hW : WF P n) (hS : SR P n lo hi fs) (hi9 : i < n) (ht : t < 512) (hk : ¬ (P i).1 = 0) : MI l v yX7_isTrue cX7_isTrue 5 (some .boolean) ({ frames := 2, cells := 0, slots := 0, locals := 44 }) [.ref (mo 0), .int (nI i), .int (nI t)] [[((mo 0), .inr (7, [.int th, .ref (mo 1), .ref (mo 2), .int (nI sm), .ref (mo 3), .int (nI ln), .ref (mo 4), .int rm, .int fa, .ref (mo 5), .ref (mo 6), .int sp, .int wr, .long dd]))], cMs v mo fs] (fun r w_ => r = bI (tst (P i).2.2.1 (val t (P i).2.1) (opv t (P i).2.2.2.1)) ∧ w_ = [[((mo 0), .inr (7, [.int th, .ref (mo 1), .ref (mo 2), .int (nI sm), .ref (mo 3), .int (nI ln), .ref (mo 4), .int rm, .int fa, .ref (mo 5), .ref (mo 6), .int sp, .int wr, .long dd]))], cMs v mo fs]) 0 0 := by
  refine mm_int (by decide) (Nat.le_of_ble_eq_true rfl) [(0, .ref (mo 0)), (1, .int (nI i)), (2, .int (nI t))] rfl (fun k X E => ?_)
  have hn12 := hW.1
  have hvr := (hW.2 i hi9).2.1
  have hv1 := val_lt t (P i).2.1
  have hv2 := opv_lt t (o := (P i).2.2.2.1)
  refine g_iload_n X dX7_isTrue_0 2 rfl rfl ?_
  refine g_aload_n X dX7_isTrue_1 0 rfl rfl ?_
  refine g_get X cb7 1 q_4_18 dX7_isTrue_2 0 0 rfl rfl (by decide) rfl rfl ?_
  refine g_iload_n X dX7_isTrue_5 1 rfl rfl ?_
  refine g_iconst (x := nI 1) X dX7_isTrue_6 (by decide +kernel) ?_
  refine g_callS (As := [.int (nI i), .int (nI 1)]) (rest := [.ref (mo 1), .int (nI t)]) (wr := [[((mo 0), .inr (7, [.int th, .ref (mo 1), .ref (mo 2), .int (nI sm), .ref (mo 3), .int (nI ln), .ref (mo 4), .int rm, .int fa, .ref (mo 5), .ref (mo 6), .int sp, .int wr, .long dd]))], cMs v mo fs]) X (c_X7_of l v i 1) f_X7_of q_17_23 dX7_isTrue_7 [] [0, 1] rfl rfl (by decide) rfl rfl (Nat.le_of_ble_eq_true rfl) (by decide) (fun r_ w_ hp1 => ?_)
  obtain ⟨rfl, rfl⟩ := hp1
  show GG k _ _ [[((mo 0), .inr (7, [.int th, .ref (mo 1), .ref (mo 2), .int (nI sm), .ref (mo 3), .int (nI ln), .ref (mo 4), .int rm, .int fa, .ref (mo 5), .ref (mo 6), .int sp, .int wr, .long dd]))], cMs v mo fs] _ _ [.int (nI (1 + 5 * i + 1)), .ref (mo 1), .int (nI t)]
  refine g_iald X dX7_isTrue_10 1 0 rfl rfl (by omega) (by omega) ?_
  refine g_v (y := nI ((P i).2.1)) ((hS.2.1 i hi9).2.1) ?_
  refine g_callS (As := [.int (nI t), .int (nI ((P i).2.1))]) (rest := []) (wr := [[((mo 0), .inr (7, [.int th, .ref (mo 1), .ref (mo 2), .int (nI sm), .ref (mo 3), .int (nI ln), .ref (mo 4), .int rm, .int fa, .ref (mo 5), .ref (mo 6), .int sp, .int wr, .long dd]))], cMs v mo fs]) X (c_X7_valueOf l v t ((P i).2.1) (by omega) (by omega)) f_X7_valueOf q_23_6 dX7_isTrue_11 [] [0, 1] rfl rfl (by decide) rfl rfl (Nat.le_of_ble_eq_true rfl) (by decide) (fun r_ w_ hp2 => ?_)
  obtain ⟨rfl, rfl⟩ := hp2
  show GG k _ _ [[((mo 0), .inr (7, [.int th, .ref (mo 1), .ref (mo 2), .int (nI sm), .ref (mo 3), .int (nI ln), .ref (mo 4), .int rm, .int fa, .ref (mo 5), .ref (mo 6), .int sp, .int wr, .long dd]))], cMs v mo fs] _ _ [.int (nI (val t ((P i).2.1)))]
  refine g_istore_n (lv' := [(3, .int (nI (val t ((P i).2.1)))), (0, .ref (mo 0)), (1, .int (nI i)), (2, .int (nI t))]) X dX7_isTrue_14 rfl (by decide) rfl ?_
  refine g_aload_n X dX7_isTrue_15 1 rfl rfl ?_
  refine g_iload_n X dX7_isTrue_16 2 rfl rfl ?_
  refine g_iload_n X dX7_isTrue_17 3 rfl rfl ?_
  refine g_callV (As := [.int (nI i), .int (nI t)]) (rest := []) (wr := []) X (c_X7_operand l v mo th sm ln rm fa sp wr dd P n lo hi fs i t hW hS (by omega) (by omega)) f_X7_operand q_23_2 dX7_isTrue_18 [0, 1] [] rfl rfl (by decide) 0 rfl rfl rfl rfl (Nat.le_of_ble_eq_true rfl) (by decide) (fun r_ w_ hp3 => ?_)
  obtain ⟨rfl, rfl⟩ := hp3
  show GG k _ _ [[((mo 0), .inr (7, [.int th, .ref (mo 1), .ref (mo 2), .int (nI sm), .ref (mo 3), .int (nI ln), .ref (mo 4), .int rm, .int fa, .ref (mo 5), .ref (mo 6), .int sp, .int wr, .long dd]))], cMs v mo fs] _ _ [.int (nI (opv t (P i).2.2.2.1))]
  refine g_istore (lv' := [(4, .int (nI (opv t (P i).2.2.2.1))), (3, .int (nI (val t ((P i).2.1)))), (0, .ref (mo 0)), (1, .int (nI i)), (2, .int (nI t))]) X dX7_isTrue_21 (by decide) rfl ?_
  refine g_aload_n X dX7_isTrue_23 2 rfl rfl ?_
  refine g_get X cb7 1 q_4_18 dX7_isTrue_24 0 0 rfl rfl (by decide) rfl rfl ?_
  refine g_iload_n X dX7_isTrue_27 3 rfl rfl ?_
  refine g_iconst (x := nI 2) X dX7_isTrue_28 (by decide +kernel) ?_
  refine g_callS (As := [.int (nI i), .int (nI 2)]) (rest := [.ref (mo 1)]) (wr := [[((mo 0), .inr (7, [.int th, .ref (mo 1), .ref (mo 2), .int (nI sm), .ref (mo 3), .int (nI ln), .ref (mo 4), .int rm, .int fa, .ref (mo 5), .ref (mo 6), .int sp, .int wr, .long dd]))], cMs v mo fs]) X (c_X7_of l v i 2) f_X7_of q_17_23 dX7_isTrue_29 [] [0, 1] rfl rfl (by decide) rfl rfl (Nat.le_of_ble_eq_true rfl) (by decide) (fun r_ w_ hp4 => ?_)
  obtain ⟨rfl, rfl⟩ := hp4
  show GG k _ _ [[((mo 0), .inr (7, [.int th, .ref (mo 1), .ref (mo 2), .int (nI sm), .ref (mo 3), .int (nI ln), .ref (mo 4), .int rm, .int fa, .ref (mo 5), .ref (mo 6), .int sp, .int wr, .long dd]))], cMs v mo fs] _ _ [.int (nI (1 + 5 * i + 2)), .ref (mo 1)]
  refine g_iald X dX7_isTrue_32 1 0 rfl rfl (by omega) (by omega) ?_
  refine g_v (y := nI (sg9 (P i))) ((hS.2.1 i hi9).2.2.1) ?_
  rcases (show (P i).2.2.1 = 0 ∨ (P i).2.2.1 = 1 ∨ (P i).2.2.1 = 2 ∨ (P i).2.2.1 = 3 from by have := (hW.2 i hi9).2.2.1; omega) with hs | hs | hs | hs
  · refine g_v (y := nI 61) (by rw [sg9_0 hk hs]) ?_
    refine g_tabIn (tgt := 60) X dX7_isTrue_33 (by decide +kernel) (by decide +kernel) (by rfl) (by decide) ?_
    refine g_iload_n X dX7_isTrue_60 1 rfl rfl ?_
    refine g_iload X dX7_isTrue_61 0 rfl ?_
    refine g_icmp_neN (tgt := 70) X dX7_isTrue_63 (by decide) (by omega) (by omega) (fun c63 => ?_) (fun c63 => ?_)
    · refine g_iconst (x := nI 0) X dX7_isTrue_70 (by decide +kernel) ?_
      exact E dX7_isTrue_71 rfl (rfl) (by decide) (by decide) (⟨bI_zero (by rw [tst_0 hs]; exact decide_eq_false (by omega)), rfl⟩)
    · refine g_iconst (x := nI 1) X dX7_isTrue_66 (by decide +kernel) ?_
      refine g_goto (tgt := 71) X dX7_isTrue_67 (by decide) ?_
      exact E dX7_isTrue_71 rfl (rfl) (by decide) (by decide) (⟨bI_one (by rw [tst_0 hs]; exact decide_eq_true (by omega)), rfl⟩)
  · refine g_v (y := nI 60) (by rw [sg9_1 hk hs]) ?_
    refine g_tabIn (tgt := 72) X dX7_isTrue_33 (by decide +kernel) (by decide +kernel) (by rfl) (by decide) ?_
    refine g_iload_n X dX7_isTrue_72 1 rfl rfl ?_
    refine g_iload X dX7_isTrue_73 0 rfl ?_
    refine g_icmp_geN (tgt := 82) X dX7_isTrue_75 (by decide) (by omega) (by omega) (fun c75 => ?_) (fun c75 => ?_)
    · refine g_iconst (x := nI 0) X dX7_isTrue_82 (by decide +kernel) ?_
      exact E dX7_isTrue_83 rfl (rfl) (by decide) (by decide) (⟨bI_zero (by rw [tst_1 hs]; exact decide_eq_false (by omega)), rfl⟩)
    · refine g_iconst (x := nI 1) X dX7_isTrue_78 (by decide +kernel) ?_
      refine g_goto (tgt := 83) X dX7_isTrue_79 (by decide) ?_
      exact E dX7_isTrue_83 rfl (rfl) (by decide) (by decide) (⟨bI_one (by rw [tst_1 hs]; exact decide_eq_true (by omega)), rfl⟩)
  · refine g_v (y := nI 62) (by rw [sg9_2 hk hs]) ?_
    refine g_tabIn (tgt := 84) X dX7_isTrue_33 (by decide +kernel) (by decide +kernel) (by rfl) (by decide) ?_
    refine g_iload_n X dX7_isTrue_84 1 rfl rfl ?_
    refine g_iload X dX7_isTrue_85 0 rfl ?_
    refine g_icmp_leN (tgt := 94) X dX7_isTrue_87 (by decide) (by omega) (by omega) (fun c87 => ?_) (fun c87 => ?_)
    · refine g_iconst (x := nI 0) X dX7_isTrue_94 (by decide +kernel) ?_
      exact E dX7_isTrue_95 rfl (rfl) (by decide) (by decide) (⟨bI_zero (by rw [tst_2 hs]; exact decide_eq_false (by omega)), rfl⟩)
    · refine g_iconst (x := nI 1) X dX7_isTrue_90 (by decide +kernel) ?_
      refine g_goto (tgt := 95) X dX7_isTrue_91 (by decide) ?_
      exact E dX7_isTrue_95 rfl (rfl) (by decide) (by decide) (⟨bI_one (by rw [tst_2 hs]; exact decide_eq_true (by omega)), rfl⟩)
  · refine g_v (y := nI 35) (by rw [sg9_3 hk hs]) ?_
    refine g_tabOut (tgt := 96) X dX7_isTrue_33 (by decide +kernel) (by decide) ?_
    refine g_iload_n X dX7_isTrue_96 1 rfl rfl ?_
    refine g_iload X dX7_isTrue_97 0 rfl ?_
    refine g_icmp_eqN (tgt := 106) X dX7_isTrue_99 (by decide) (by omega) (by omega) (fun c99 => ?_) (fun c99 => ?_)
    · refine g_iconst (x := nI 0) X dX7_isTrue_106 (by decide +kernel) ?_
      exact E dX7_isTrue_107 rfl (rfl) (by decide) (by decide) (⟨bI_zero (by rw [tst_3 hs]; exact decide_eq_false (by omega)), rfl⟩)
    · refine g_iconst (x := nI 1) X dX7_isTrue_102 (by decide +kernel) ?_
      refine g_goto (tgt := 107) X dX7_isTrue_103 (by decide) ?_
      exact E dX7_isTrue_107 rfl (rfl) (by decide) (by decide) (⟨bI_one (by rw [tst_3 hs]; exact decide_eq_true (by omega)), rfl⟩)

set_option maxHeartbeats 4000000 in
set_option maxRecDepth 100000 in
theorem c_X7_goesTo (l : Launch) (v : VV) (mo : Nat → Nat) (th : Int32) (sm : Nat) (ln : Nat) (rm : Int32) (fa : Int32) (sp : Int32) (wr : Int32) (dd : Int64) (P : Nat → S9) (n : Nat) (lo : Nat → Nat) (hi : Nat → Nat) (fs : Nat → Int32) (q : Nat) (hW : WF P n) (hS : SR P n lo hi fs) (hq : q / 512 < n) : MI l v yX7_goesTo cX7_goesTo 6 (some .int) ({ frames := 3, cells := 0, slots := 0, locals := 68 }) [.ref (mo 0), .int (nI q)] [[((mo 0), .inr (7, [.int th, .ref (mo 1), .ref (mo 2), .int (nI sm), .ref (mo 3), .int (nI ln), .ref (mo 4), .int rm, .int fa, .ref (mo 5), .ref (mo 6), .int sp, .int wr, .long dd]))], cMs v mo fs] (fun r w_ => r = eo (nx P q) ∧ w_ = [[((mo 0), .inr (7, [.int th, .ref (mo 1), .ref (mo 2), .int (nI sm), .ref (mo 3), .int (nI ln), .ref (mo 4), .int rm, .int fa, .ref (mo 5), .ref (mo 6), .int sp, .int wr, .long dd]))], cMs v mo fs]) 0 0 := by
  refine mm_int (by decide) (Nat.le_of_ble_eq_true rfl) [(0, .ref (mo 0)), (1, .int (nI q))] rfl (fun k X E => ?_)
  have hn12 := hW.1
  have hq6 : q < 6144 := by omega
  have hwp := hW.2 (q / 512) hq
  have hvv := opv_lt (q % 512) (o := (P (q / 512)).2.2.2.1)
  have hmm : q % 512 < 512 := Nat.mod_lt _ (by omega)
  refine g_iload_n X dX7_goesTo_0 1 rfl rfl ?_
  refine g_sipush (x := nI 512) X dX7_goesTo_1 (by decide +kernel) ?_
  refine g_idivN X dX7_goesTo_4 (by omega) (by omega) (by omega) ?_
  refine g_istore_n (lv' := [(2, .int (nI (q / 512))), (0, .ref (mo 0)), (1, .int (nI q))]) X dX7_goesTo_5 rfl (by decide) rfl ?_
  refine g_iload_n X dX7_goesTo_6 2 rfl rfl ?_
  refine g_sipush (x := nI 512) X dX7_goesTo_7 (by decide +kernel) ?_
  refine g_iremN X dX7_goesTo_10 (by omega) (by omega) (by omega) ?_
  refine g_istore_n (lv' := [(3, .int (nI (q % 512))), (2, .int (nI (q / 512))), (0, .ref (mo 0)), (1, .int (nI q))]) X dX7_goesTo_11 rfl (by decide) rfl ?_
  refine g_aload_n X dX7_goesTo_12 2 rfl rfl ?_
  refine g_get X cb7 1 q_4_18 dX7_goesTo_13 0 0 rfl rfl (by decide) rfl rfl ?_
  refine g_iload_n X dX7_goesTo_16 1 rfl rfl ?_
  refine g_iconst (x := nI 0) X dX7_goesTo_17 (by decide +kernel) ?_
  refine g_callS (As := [.int (nI (q / 512)), .int (nI 0)]) (rest := [.ref (mo 1)]) (wr := [[((mo 0), .inr (7, [.int th, .ref (mo 1), .ref (mo 2), .int (nI sm), .ref (mo 3), .int (nI ln), .ref (mo 4), .int rm, .int fa, .ref (mo 5), .ref (mo 6), .int sp, .int wr, .long dd]))], cMs v mo fs]) X (c_X7_of l v (q / 512) 0) f_X7_of q_17_23 dX7_goesTo_18 [] [0, 1] rfl rfl (by decide) rfl rfl (Nat.le_of_ble_eq_true rfl) (by decide) (fun r_ w_ hp1 => ?_)
  obtain ⟨rfl, rfl⟩ := hp1
  show GG k _ _ [[((mo 0), .inr (7, [.int th, .ref (mo 1), .ref (mo 2), .int (nI sm), .ref (mo 3), .int (nI ln), .ref (mo 4), .int rm, .int fa, .ref (mo 5), .ref (mo 6), .int sp, .int wr, .long dd]))], cMs v mo fs] _ _ [.int (nI (1 + 5 * (q / 512) + 0)), .ref (mo 1)]
  refine g_iald X dX7_goesTo_21 1 0 rfl rfl (by omega) (by omega) ?_
  refine g_v (y := nI ((P (q / 512)).1)) ((hS.2.1 (q / 512) hq).1) ?_
  refine g_istore (lv' := [(4, .int (nI ((P (q / 512)).1))), (3, .int (nI (q % 512))), (2, .int (nI (q / 512))), (0, .ref (mo 0)), (1, .int (nI q))]) X dX7_goesTo_22 (by decide) rfl ?_
  refine g_iload X dX7_goesTo_24 0 rfl ?_
  refine g_if_neN (tgt := 79) X dX7_goesTo_26 (by decide) (by omega) (fun c26 => ?_) (fun c26 => ?_)
  · refine g_aload_n X dX7_goesTo_79 3 rfl rfl ?_
    refine g_iload_n X dX7_goesTo_80 2 rfl rfl ?_
    refine g_iload_n X dX7_goesTo_81 1 rfl rfl ?_
    refine g_callV (As := [.int (nI (q / 512)), .int (nI (q % 512))]) (rest := []) (wr := []) X (c_X7_isTrue l v mo th sm ln rm fa sp wr dd P n lo hi fs (q / 512) (q % 512) hW hS (by omega) (by omega) c26) f_X7_isTrue q_23_12 dX7_goesTo_82 [0, 1] [] rfl rfl (by decide) 0 rfl rfl rfl rfl (Nat.le_of_ble_eq_true rfl) (by decide) (fun r_ w_ hp2 => ?_)
    obtain ⟨rfl, rfl⟩ := hp2
    show GG k _ _ [[((mo 0), .inr (7, [.int th, .ref (mo 1), .ref (mo 2), .int (nI sm), .ref (mo 3), .int (nI ln), .ref (mo 4), .int rm, .int fa, .ref (mo 5), .ref (mo 6), .int sp, .int wr, .long dd]))], cMs v mo fs] _ _ [.int (bI (tst (P (q / 512)).2.2.1 (val (q % 512) (P (q / 512)).2.1) (opv (q % 512) (P (q / 512)).2.2.2.1)))]
    refine g_istore (lv' := [(5, .int (bI (tst (P (q / 512)).2.2.1 (val (q % 512) (P (q / 512)).2.1) (opv (q % 512) (P (q / 512)).2.2.2.1)))), (4, .int (nI ((P (q / 512)).1))), (3, .int (nI (q % 512))), (2, .int (nI (q / 512))), (0, .ref (mo 0)), (1, .int (nI q))]) X dX7_goesTo_85 (by decide) rfl ?_
    refine g_iload X dX7_goesTo_87 1 rfl ?_
    refine g_iconst (x := nI 1) X dX7_goesTo_89 (by decide +kernel) ?_
    refine g_icmp_neN (tgt := 108) X dX7_goesTo_90 (by decide) (by omega) (by omega) (fun c90 => ?_) (fun c90 => ?_)
    · have hk2 : (P (q / 512)).1 = 2 := by omega
      refine g_iload X dX7_goesTo_108 0 rfl ?_
      refine g_if_eqB (tgt := 132) X dX7_goesTo_110 (by decide) (fun c110 => ?_) (fun c110 => ?_)
      · refine g_iload_n X dX7_goesTo_132 5 rfl rfl ?_
        refine g_sipush (x := nI 512) X dX7_goesTo_133 (by decide +kernel) ?_
        refine g_iaddN X dX7_goesTo_136 ?_
        exact E dX7_goesTo_137 rfl (rfl) (by decide) (by decide) (⟨by rw [nx_jf hk2 c110, show q + 512 = 512 * (q / 512 + 1) + q % 512 from by omega]; rfl, rfl⟩)
      · refine g_sipush (x := nI 512) X dX7_goesTo_113 (by decide +kernel) ?_
        refine g_aload_n X dX7_goesTo_116 4 rfl rfl ?_
        refine g_get X cb7 1 q_4_18 dX7_goesTo_117 0 0 rfl rfl (by decide) rfl rfl ?_
        refine g_iload_n X dX7_goesTo_120 3 rfl rfl ?_
        refine g_iconst (x := nI 4) X dX7_goesTo_121 (by decide +kernel) ?_
        refine g_callS (As := [.int (nI (q / 512)), .int (nI 4)]) (rest := [.ref (mo 1), .int (nI 512)]) (wr := [[((mo 0), .inr (7, [.int th, .ref (mo 1), .ref (mo 2), .int (nI sm), .ref (mo 3), .int (nI ln), .ref (mo 4), .int rm, .int fa, .ref (mo 5), .ref (mo 6), .int sp, .int wr, .long dd]))], cMs v mo fs]) X (c_X7_of l v (q / 512) 4) f_X7_of q_17_23 dX7_goesTo_122 [] [0, 1] rfl rfl (by decide) rfl rfl (Nat.le_of_ble_eq_true rfl) (by decide) (fun r_ w_ hp3 => ?_)
        obtain ⟨rfl, rfl⟩ := hp3
        show GG k _ _ [[((mo 0), .inr (7, [.int th, .ref (mo 1), .ref (mo 2), .int (nI sm), .ref (mo 3), .int (nI ln), .ref (mo 4), .int rm, .int fa, .ref (mo 5), .ref (mo 6), .int sp, .int wr, .long dd]))], cMs v mo fs] _ _ [.int (nI (1 + 5 * (q / 512) + 4)), .ref (mo 1), .int (nI 512)]
        refine g_iald X dX7_goesTo_125 1 0 rfl rfl (by omega) (by omega) ?_
        have hnm := (hW.2 (q / 512) hq).2.2.2.2.2.2 hk2
        refine g_v (y := nI ((P (q / 512)).2.2.2.2.toNat)) (((hS.2.1 (q / 512) hq).2.2.2.2).trans (zI_toNat (by omega))) ?_
        refine g_imulN X dX7_goesTo_126 ?_
        refine g_iload_n X dX7_goesTo_127 2 rfl rfl ?_
        refine g_iaddN X dX7_goesTo_128 ?_
        refine g_goto (tgt := 137) X dX7_goesTo_129 (by decide) ?_
        exact E dX7_goesTo_137 rfl (rfl) (by decide) (by decide) (⟨by rw [nx_jt hk2 c110]; rfl, rfl⟩)
    · refine g_iload X dX7_goesTo_93 0 rfl ?_
      refine g_if_eqB (tgt := 106) X dX7_goesTo_95 (by decide) (fun c95 => ?_) (fun c95 => ?_)
      · refine g_iconst (x := zI (-1)) X dX7_goesTo_106 (by decide +kernel) ?_
        exact E dX7_goesTo_107 rfl (rfl) (by decide) (by decide) (⟨by rw [nx_cf c90 c95]; rfl, rfl⟩)
      · refine g_iload_n X dX7_goesTo_98 5 rfl rfl ?_
        refine g_sipush (x := nI 512) X dX7_goesTo_99 (by decide +kernel) ?_
        refine g_iaddN X dX7_goesTo_102 ?_
        refine g_goto (tgt := 107) X dX7_goesTo_103 (by decide) ?_
        exact E dX7_goesTo_107 rfl (rfl) (by decide) (by decide) (⟨by rw [nx_ct c90 c95, show q + 512 = 512 * (q / 512 + 1) + q % 512 from by omega]; rfl, rfl⟩)
  · refine g_aload_n X dX7_goesTo_29 3 rfl rfl ?_
    refine g_iload_n X dX7_goesTo_30 2 rfl rfl ?_
    refine g_iload_n X dX7_goesTo_31 1 rfl rfl ?_
    refine g_callV (As := [.int (nI (q / 512)), .int (nI (q % 512))]) (rest := []) (wr := []) X (c_X7_operand l v mo th sm ln rm fa sp wr dd P n lo hi fs (q / 512) (q % 512) hW hS (by omega) (by omega)) f_X7_operand q_23_2 dX7_goesTo_32 [0, 1] [] rfl rfl (by decide) 0 rfl rfl rfl rfl (Nat.le_of_ble_eq_true rfl) (by decide) (fun r_ w_ hp4 => ?_)
    obtain ⟨rfl, rfl⟩ := hp4
    show GG k _ _ [[((mo 0), .inr (7, [.int th, .ref (mo 1), .ref (mo 2), .int (nI sm), .ref (mo 3), .int (nI ln), .ref (mo 4), .int rm, .int fa, .ref (mo 5), .ref (mo 6), .int sp, .int wr, .long dd]))], cMs v mo fs] _ _ [.int (nI (opv (q % 512) (P (q / 512)).2.2.2.1))]
    refine g_aload_n X dX7_goesTo_35 3 rfl rfl ?_
    refine g_get X cb7 1 q_4_18 dX7_goesTo_36 0 0 rfl rfl (by decide) rfl rfl ?_
    refine g_iload_n X dX7_goesTo_39 2 rfl rfl ?_
    refine g_iconst (x := nI 4) X dX7_goesTo_40 (by decide +kernel) ?_
    refine g_callS (As := [.int (nI (q / 512)), .int (nI 4)]) (rest := [.ref (mo 1), .int (nI (opv (q % 512) (P (q / 512)).2.2.2.1))]) (wr := [[((mo 0), .inr (7, [.int th, .ref (mo 1), .ref (mo 2), .int (nI sm), .ref (mo 3), .int (nI ln), .ref (mo 4), .int rm, .int fa, .ref (mo 5), .ref (mo 6), .int sp, .int wr, .long dd]))], cMs v mo fs]) X (c_X7_of l v (q / 512) 4) f_X7_of q_17_23 dX7_goesTo_41 [] [0, 1] rfl rfl (by decide) rfl rfl (Nat.le_of_ble_eq_true rfl) (by decide) (fun r_ w_ hp5 => ?_)
    obtain ⟨rfl, rfl⟩ := hp5
    show GG k _ _ [[((mo 0), .inr (7, [.int th, .ref (mo 1), .ref (mo 2), .int (nI sm), .ref (mo 3), .int (nI ln), .ref (mo 4), .int rm, .int fa, .ref (mo 5), .ref (mo 6), .int sp, .int wr, .long dd]))], cMs v mo fs] _ _ [.int (nI (1 + 5 * (q / 512) + 4)), .ref (mo 1), .int (nI (opv (q % 512) (P (q / 512)).2.2.2.1))]
    refine g_iald X dX7_goesTo_44 1 0 rfl rfl (by omega) (by omega) ?_
    refine g_v (y := zI ((P (q / 512)).2.2.2.2)) ((hS.2.1 (q / 512) hq).2.2.2.2) ?_
    refine g_iadd X dX7_goesTo_45 ?_
    refine g_v (y := zI ((((opv (q % 512) (P (q / 512)).2.2.2.1) : Nat) : Int) + ((P (q / 512)).2.2.2.2))) (by rw [zI_nI (opv (q % 512) (P (q / 512)).2.2.2.1), zI_add]) ?_
    refine g_bipush (x := nI 8) X dX7_goesTo_46 (by decide +kernel) ?_
    refine g_iadd X dX7_goesTo_48 ?_
    refine g_v (y := zI (((((opv (q % 512) (P (q / 512)).2.2.2.1) : Nat) : Int) + ((P (q / 512)).2.2.2.2)) + ((8 : Nat) : Int))) (by rw [zI_nI 8, zI_add]) ?_
    have hnm := (hW.2 (q / 512) hq).2.2.2.2.1 c26
    refine g_v (y := nI ((((((opv (q % 512) (P (q / 512)).2.2.2.1) : Nat) : Int) + ((P (q / 512)).2.2.2.2)) + ((8 : Nat) : Int)).toNat)) (zI_toNat (by omega)) ?_
    refine g_bipush (x := nI 8) X dX7_goesTo_49 (by decide +kernel) ?_
    refine g_iremN X dX7_goesTo_51 (by omega) (by omega) (by omega) ?_
    refine g_istore (lv' := [(5, .int (nI (((((((opv (q % 512) (P (q / 512)).2.2.2.1) : Nat) : Int) + ((P (q / 512)).2.2.2.2)) + ((8 : Nat) : Int)).toNat) % 8))), (4, .int (nI ((P (q / 512)).1))), (3, .int (nI (q % 512))), (2, .int (nI (q / 512))), (0, .ref (mo 0)), (1, .int (nI q))]) X dX7_goesTo_52 (by decide) rfl ?_
    refine g_sipush (x := nI 512) X dX7_goesTo_54 (by decide +kernel) ?_
    refine g_iload_n X dX7_goesTo_57 3 rfl rfl ?_
    refine g_iconst (x := nI 1) X dX7_goesTo_58 (by decide +kernel) ?_
    refine g_iaddN X dX7_goesTo_59 ?_
    refine g_imulN X dX7_goesTo_60 ?_
    refine g_iload_n X dX7_goesTo_61 2 rfl rfl ?_
    refine g_aload_n X dX7_goesTo_62 4 rfl rfl ?_
    refine g_get X cb7 1 q_4_18 dX7_goesTo_63 0 0 rfl rfl (by decide) rfl rfl ?_
    refine g_iload_n X dX7_goesTo_66 3 rfl rfl ?_
    refine g_iconst (x := nI 1) X dX7_goesTo_67 (by decide +kernel) ?_
    refine g_callS (As := [.int (nI (q / 512)), .int (nI 1)]) (rest := [.ref (mo 1), .int (nI (q % 512)), .int (nI (512 * ((q / 512) + 1)))]) (wr := [[((mo 0), .inr (7, [.int th, .ref (mo 1), .ref (mo 2), .int (nI sm), .ref (mo 3), .int (nI ln), .ref (mo 4), .int rm, .int fa, .ref (mo 5), .ref (mo 6), .int sp, .int wr, .long dd]))], cMs v mo fs]) X (c_X7_of l v (q / 512) 1) f_X7_of q_17_23 dX7_goesTo_68 [] [0, 1] rfl rfl (by decide) rfl rfl (Nat.le_of_ble_eq_true rfl) (by decide) (fun r_ w_ hp6 => ?_)
    obtain ⟨rfl, rfl⟩ := hp6
    show GG k _ _ [[((mo 0), .inr (7, [.int th, .ref (mo 1), .ref (mo 2), .int (nI sm), .ref (mo 3), .int (nI ln), .ref (mo 4), .int rm, .int fa, .ref (mo 5), .ref (mo 6), .int sp, .int wr, .long dd]))], cMs v mo fs] _ _ [.int (nI (1 + 5 * (q / 512) + 1)), .ref (mo 1), .int (nI (q % 512)), .int (nI (512 * ((q / 512) + 1)))]
    refine g_iald X dX7_goesTo_71 1 0 rfl rfl (by omega) (by omega) ?_
    refine g_v (y := nI ((P (q / 512)).2.1)) ((hS.2.1 (q / 512) hq).2.1) ?_
    refine g_iload X dX7_goesTo_72 0 rfl ?_
    refine g_callS (As := [.int (nI (q % 512)), .int (nI ((P (q / 512)).2.1)), .int (nI (((((((opv (q % 512) (P (q / 512)).2.2.2.1) : Nat) : Int) + ((P (q / 512)).2.2.2.2)) + ((8 : Nat) : Int)).toNat) % 8))]) (rest := [.int (nI (512 * ((q / 512) + 1)))]) (wr := [[((mo 0), .inr (7, [.int th, .ref (mo 1), .ref (mo 2), .int (nI sm), .ref (mo 3), .int (nI ln), .ref (mo 4), .int rm, .int fa, .ref (mo 5), .ref (mo 6), .int sp, .int wr, .long dd]))], cMs v mo fs]) X (c_X7_withValue l v (q % 512) ((P (q / 512)).2.1) (((((((opv (q % 512) (P (q / 512)).2.2.2.1) : Nat) : Int) + ((P (q / 512)).2.2.2.2)) + ((8 : Nat) : Int)).toNat) % 8) (by omega) (by omega) (by omega)) f_X7_withValue q_23_9 dX7_goesTo_74 [] [0, 1] rfl rfl (by decide) rfl rfl (Nat.le_of_ble_eq_true rfl) (by decide) (fun r_ w_ hp7 => ?_)
    obtain ⟨rfl, rfl⟩ := hp7
    show GG k _ _ [[((mo 0), .inr (7, [.int th, .ref (mo 1), .ref (mo 2), .int (nI sm), .ref (mo 3), .int (nI ln), .ref (mo 4), .int rm, .int fa, .ref (mo 5), .ref (mo 6), .int sp, .int wr, .long dd]))], cMs v mo fs] _ _ [.int (nI (wv (q % 512) ((P (q / 512)).2.1) (((((((opv (q % 512) (P (q / 512)).2.2.2.1) : Nat) : Int) + ((P (q / 512)).2.2.2.2)) + ((8 : Nat) : Int)).toNat) % 8))), .int (nI (512 * ((q / 512) + 1)))]
    refine g_iaddN X dX7_goesTo_77 ?_
    exact E dX7_goesTo_78 rfl (rfl) (by decide) (by decide) (⟨by rw [nx_asg c26]; show nI _ = nI _; rw [show (((((opv (q % 512) (P (q / 512)).2.2.2.1) : Nat) : Int) + ((P (q / 512)).2.2.2.2)) + ((8 : Nat) : Int)).toNat % 8 = (((opv (q % 512) (P (q / 512)).2.2.2.1 : Int) + (P (q / 512)).2.2.2.2) % 8).toNat from by omega], rfl⟩)

set_option maxHeartbeats 4000000 in
set_option maxRecDepth 100000 in
theorem c_X7_isEnd (l : Launch) (v : VV) (mo : Nat → Nat) (th : Int32) (sm : Nat) (ln : Nat) (rm : Int32) (fa : Int32) (sp : Int32) (wr : Int32) (dd : Int64) (P : Nat → S9) (n : Nat) (lo : Nat → Nat) (hi : Nat → Nat) (fs : Nat → Int32) (q : Nat) (hW : WF P n) (hS : SR P n lo hi fs) (hq : q < 6656) : MI l v yX7_isEnd cX7_isEnd 2 (some .boolean) ({ frames := 0, cells := 0, slots := 0, locals := 0 }) [.ref (mo 0), .int (nI q)] [[((mo 0), .inr (7, [.int th, .ref (mo 1), .ref (mo 2), .int (nI sm), .ref (mo 3), .int (nI ln), .ref (mo 4), .int rm, .int fa, .ref (mo 5), .ref (mo 6), .int sp, .int wr, .long dd]))], cMs v mo fs] (fun r w_ => r = bI (decide (q / 512 = n)) ∧ w_ = [[((mo 0), .inr (7, [.int th, .ref (mo 1), .ref (mo 2), .int (nI sm), .ref (mo 3), .int (nI ln), .ref (mo 4), .int rm, .int fa, .ref (mo 5), .ref (mo 6), .int sp, .int wr, .long dd]))], cMs v mo fs]) 0 0 := by
  refine mm_int (by decide) (Nat.le_of_ble_eq_true rfl) [(0, .ref (mo 0)), (1, .int (nI q))] rfl (fun k X E => ?_)
  have hn12 := hW.1
  refine g_iload_n X dX7_isEnd_0 1 rfl rfl ?_
  refine g_sipush (x := nI 512) X dX7_isEnd_1 (by decide +kernel) ?_
  refine g_idivN X dX7_isEnd_4 (by omega) (by omega) (by omega) ?_
  refine g_aload_n X dX7_isEnd_5 0 rfl rfl ?_
  refine g_get X cb7 1 q_4_18 dX7_isEnd_6 0 0 rfl rfl (by decide) rfl rfl ?_
  refine g_iconst (x := nI 0) X dX7_isEnd_9 (by decide +kernel) ?_
  refine g_iald X dX7_isEnd_10 1 0 rfl rfl (by omega) (by omega) ?_
  refine g_v (y := nI n) (hS.1) ?_
  refine g_icmp_neN (tgt := 18) X dX7_isEnd_11 (by decide) (by omega) (by omega) (fun c11 => ?_) (fun c11 => ?_)
  · refine g_iconst (x := nI 0) X dX7_isEnd_18 (by decide +kernel) ?_
    exact E dX7_isEnd_19 rfl (rfl) (by decide) (by decide) (⟨bI_zero (decide_eq_false (by omega)), rfl⟩)
  · refine g_iconst (x := nI 1) X dX7_isEnd_14 (by decide +kernel) ?_
    refine g_goto (tgt := 19) X dX7_isEnd_15 (by decide) ?_
    exact E dX7_isEnd_19 rfl (rfl) (by decide) (by decide) (⟨bI_one (decide_eq_true (by omega)), rfl⟩)

set_option maxHeartbeats 4000000 in
set_option maxRecDepth 100000 in
theorem c_X7_isStatement (l : Launch) (v : VV) (mo : Nat → Nat) (th : Int32) (sm : Nat) (ln : Nat) (rm : Int32) (fa : Int32) (sp : Int32) (wr : Int32) (dd : Int64) (P : Nat → S9) (n : Nat) (lo : Nat → Nat) (hi : Nat → Nat) (fs : Nat → Int32) (i : Nat) (hW : WF P n) (hS : SR P n lo hi fs) (hi9 : i < n) : MI l v yX7_isStatement cX7_isStatement 2 (some .boolean) ({ frames := 1, cells := 0, slots := 0, locals := 22 }) [.ref (mo 0), .int (nI i)] [[((mo 0), .inr (7, [.int th, .ref (mo 1), .ref (mo 2), .int (nI sm), .ref (mo 3), .int (nI ln), .ref (mo 4), .int rm, .int fa, .ref (mo 5), .ref (mo 6), .int sp, .int wr, .long dd]))], cMs v mo fs] (fun r w_ => r = nI 1 ∧ w_ = [[((mo 0), .inr (7, [.int th, .ref (mo 1), .ref (mo 2), .int (nI sm), .ref (mo 3), .int (nI ln), .ref (mo 4), .int rm, .int fa, .ref (mo 5), .ref (mo 6), .int sp, .int wr, .long dd]))], cMs v mo fs]) 0 0 := by
  refine mm_int (by decide) (Nat.le_of_ble_eq_true rfl) [(0, .ref (mo 0)), (1, .int (nI i))] rfl (fun k X E => ?_)
  have hn12 := hW.1
  refine g_iload_n X dX7_isStatement_0 1 rfl rfl ?_
  refine g_iconst (x := nI 0) X dX7_isStatement_1 (by decide +kernel) ?_
  refine g_aload_n X dX7_isStatement_2 0 rfl rfl ?_
  refine g_get X cb7 1 q_4_18 dX7_isStatement_3 0 0 rfl rfl (by decide) rfl rfl ?_
  refine g_iconst (x := nI 0) X dX7_isStatement_6 (by decide +kernel) ?_
  refine g_iald X dX7_isStatement_7 1 0 rfl rfl (by omega) (by omega) ?_
  refine g_v (y := nI n) (hS.1) ?_
  refine g_iconst (x := nI 1) X dX7_isStatement_8 (by decide +kernel) ?_
  refine g_isubN X dX7_isStatement_9 (by omega) ?_
  refine g_callS (As := [.int (nI i), .int (nI 0), .int (nI (n - 1))]) (rest := []) (wr := [[((mo 0), .inr (7, [.int th, .ref (mo 1), .ref (mo 2), .int (nI sm), .ref (mo 3), .int (nI ln), .ref (mo 4), .int rm, .int fa, .ref (mo 5), .ref (mo 6), .int sp, .int wr, .long dd]))], cMs v mo fs]) X (c_X7_in l v (nI i) (nI 0) (nI (n - 1))) f_X7_in q_14_20 dX7_isStatement_10 [] [0, 1] rfl rfl (by decide) rfl rfl (Nat.le_of_ble_eq_true rfl) (by decide) (fun r_ w_ hp1 => ?_)
  rw [inI_N (by omega) (by omega) (by omega)] at hp1
  obtain ⟨rfl, rfl⟩ := hp1
  show GG k _ _ [[((mo 0), .inr (7, [.int th, .ref (mo 1), .ref (mo 2), .int (nI sm), .ref (mo 3), .int (nI ln), .ref (mo 4), .int rm, .int fa, .ref (mo 5), .ref (mo 6), .int sp, .int wr, .long dd]))], cMs v mo fs] _ _ [.int (bI (decide (0 ≤ i ∧ i ≤ (n - 1))))]
  exact E dX7_isStatement_13 rfl (narZ_b _) (by decide) (by decide) (⟨(bI_one (decide_eq_true (by omega))).symm, rfl⟩)

set_option maxHeartbeats 4000000 in
set_option maxRecDepth 100000 in
theorem b_X7_isStatement (l : Launch) (v : VV) (mo : Nat → Nat) (th : Int32) (sm : Nat) (ln : Nat) (rm : Int32) (fa : Int32) (sp : Int32) (wr : Int32) (dd : Int64) (P : Nat → S9) (n : Nat) (lo : Nat → Nat) (hi : Nat → Nat) (fs : Nat → Int32) (x : Int32) (hW : WF P n) (hS : SR P n lo hi fs) (hx : bdI x n) : MI l v yX7_isStatement cX7_isStatement 2 (some .boolean) ({ frames := 1, cells := 0, slots := 0, locals := 22 }) [.ref (mo 0), .int x] [[((mo 0), .inr (7, [.int th, .ref (mo 1), .ref (mo 2), .int (nI sm), .ref (mo 3), .int (nI ln), .ref (mo 4), .int rm, .int fa, .ref (mo 5), .ref (mo 6), .int sp, .int wr, .long dd]))], cMs v mo fs] (fun r w_ => r = nI 0 ∧ w_ = [[((mo 0), .inr (7, [.int th, .ref (mo 1), .ref (mo 2), .int (nI sm), .ref (mo 3), .int (nI ln), .ref (mo 4), .int rm, .int fa, .ref (mo 5), .ref (mo 6), .int sp, .int wr, .long dd]))], cMs v mo fs]) 0 0 := by
  refine mm_int (by decide) (Nat.le_of_ble_eq_true rfl) [(0, .ref (mo 0)), (1, .int x)] rfl (fun k X E => ?_)
  have hn12 := hW.1
  refine g_iload_n X dX7_isStatement_0 1 rfl rfl ?_
  refine g_iconst (x := nI 0) X dX7_isStatement_1 (by decide +kernel) ?_
  refine g_aload_n X dX7_isStatement_2 0 rfl rfl ?_
  refine g_get X cb7 1 q_4_18 dX7_isStatement_3 0 0 rfl rfl (by decide) rfl rfl ?_
  refine g_iconst (x := nI 0) X dX7_isStatement_6 (by decide +kernel) ?_
  refine g_iald X dX7_isStatement_7 1 0 rfl rfl (by omega) (by omega) ?_
  refine g_v (y := nI n) (hS.1) ?_
  refine g_iconst (x := nI 1) X dX7_isStatement_8 (by decide +kernel) ?_
  refine g_isub X dX7_isStatement_9 ?_
  refine g_v (y := zI (((n : Nat) : Int) - ((1 : Nat) : Int))) (by rw [zI_nI n, zI_nI 1, zI_sub]) ?_
  refine g_v (y := zI ((n : Int) - 1)) (rfl) ?_
  refine g_callS (As := [.int x, .int (nI 0), .int (zI ((n : Int) - 1))]) (rest := []) (wr := [[((mo 0), .inr (7, [.int th, .ref (mo 1), .ref (mo 2), .int (nI sm), .ref (mo 3), .int (nI ln), .ref (mo 4), .int rm, .int fa, .ref (mo 5), .ref (mo 6), .int sp, .int wr, .long dd]))], cMs v mo fs]) X (c_X7_in l v x (nI 0) (zI ((n : Int) - 1))) f_X7_in q_14_20 dX7_isStatement_10 [] [0, 1] rfl rfl (by decide) rfl rfl (Nat.le_of_ble_eq_true rfl) (by decide) (fun r_ w_ hp1 => ?_)
  obtain ⟨rfl, rfl⟩ := hp1
  show GG k _ _ [[((mo 0), .inr (7, [.int th, .ref (mo 1), .ref (mo 2), .int (nI sm), .ref (mo 3), .int (nI ln), .ref (mo 4), .int rm, .int fa, .ref (mo 5), .ref (mo 6), .int sp, .int wr, .long dd]))], cMs v mo fs] _ _ [.int (bI (inI x (nI 0) (zI ((n : Int) - 1))))]
  exact E dX7_isStatement_13 rfl (narZ_b _) (by decide) (by decide) (⟨by rw [inI_bad hx (by omega)]; rfl, rfl⟩)

set_option maxHeartbeats 4000000 in
set_option maxRecDepth 100000 in
theorem c_X7_areValues (l : Launch) (v : VV) (x : Nat) (y : Nat) (z : Nat) (hx : x < 8) (hy : y < 8) (hz : z < 8) : MI l v yX7_areValues cX7_areValues 3 (some .boolean) ({ frames := 1, cells := 0, slots := 0, locals := 22 }) [.int (nI x), .int (nI y), .int (nI z)] [] (fun r w_ => r = nI 1 ∧ w_ = []) 0 0 := by
  refine mm_int (by decide) (Nat.le_of_ble_eq_true rfl) [(0, .int (nI x)), (1, .int (nI y)), (2, .int (nI z))] rfl (fun k X E => ?_)
  refine g_iload_n X dX7_areValues_0 0 rfl rfl ?_
  refine g_iconst (x := nI 0) X dX7_areValues_1 (by decide +kernel) ?_
  refine g_bipush (x := nI 7) X dX7_areValues_2 (by decide +kernel) ?_
  refine g_callS (As := [.int (nI x), .int (nI 0), .int (nI 7)]) (rest := []) (wr := []) X (c_X7_in l v (nI x) (nI 0) (nI 7)) f_X7_in q_14_20 dX7_areValues_4 [] [] rfl rfl (by decide) rfl rfl (Nat.le_of_ble_eq_true rfl) (by decide) (fun r_ w_ hp1 => ?_)
  rw [inI_N (by omega) (by omega) (by omega)] at hp1
  obtain ⟨rfl, rfl⟩ := hp1
  show GG k _ _ [] _ _ [.int (bI (decide (0 ≤ x ∧ x ≤ 7)))]
  refine g_if_eqB (tgt := 34) X dX7_areValues_7 (by decide) (fun c7 => ?_) (fun c7 => ?_)
  · exact (of_decide_eq_false c7 ⟨by omega, by omega⟩).elim
  · refine g_iload_n X dX7_areValues_10 1 rfl rfl ?_
    refine g_iconst (x := nI 0) X dX7_areValues_11 (by decide +kernel) ?_
    refine g_bipush (x := nI 7) X dX7_areValues_12 (by decide +kernel) ?_
    refine g_callS (As := [.int (nI y), .int (nI 0), .int (nI 7)]) (rest := []) (wr := []) X (c_X7_in l v (nI y) (nI 0) (nI 7)) f_X7_in q_14_20 dX7_areValues_14 [] [] rfl rfl (by decide) rfl rfl (Nat.le_of_ble_eq_true rfl) (by decide) (fun r_ w_ hp2 => ?_)
    rw [inI_N (by omega) (by omega) (by omega)] at hp2
    obtain ⟨rfl, rfl⟩ := hp2
    show GG k _ _ [] _ _ [.int (bI (decide (0 ≤ y ∧ y ≤ 7)))]
    refine g_if_eqB (tgt := 34) X dX7_areValues_17 (by decide) (fun c17 => ?_) (fun c17 => ?_)
    · exact (of_decide_eq_false c17 ⟨by omega, by omega⟩).elim
    · refine g_iload_n X dX7_areValues_20 2 rfl rfl ?_
      refine g_iconst (x := nI 0) X dX7_areValues_21 (by decide +kernel) ?_
      refine g_bipush (x := nI 7) X dX7_areValues_22 (by decide +kernel) ?_
      refine g_callS (As := [.int (nI z), .int (nI 0), .int (nI 7)]) (rest := []) (wr := []) X (c_X7_in l v (nI z) (nI 0) (nI 7)) f_X7_in q_14_20 dX7_areValues_24 [] [] rfl rfl (by decide) rfl rfl (Nat.le_of_ble_eq_true rfl) (by decide) (fun r_ w_ hp3 => ?_)
      rw [inI_N (by omega) (by omega) (by omega)] at hp3
      obtain ⟨rfl, rfl⟩ := hp3
      show GG k _ _ [] _ _ [.int (bI (decide (0 ≤ z ∧ z ≤ 7)))]
      refine g_if_eqB (tgt := 34) X dX7_areValues_27 (by decide) (fun c27 => ?_) (fun c27 => ?_)
      · exact (of_decide_eq_false c27 ⟨by omega, by omega⟩).elim
      · refine g_iconst (x := nI 1) X dX7_areValues_30 (by decide +kernel) ?_
        refine g_goto (tgt := 35) X dX7_areValues_31 (by decide) ?_
        exact E dX7_areValues_35 rfl (rfl) (by decide) (by decide) (⟨rfl, rfl⟩)

set_option maxHeartbeats 4000000 in
set_option maxRecDepth 100000 in
theorem b0_X7_areValues (l : Launch) (v : VV) (x : Int32) (y : Int32) (z : Int32) (hx : bdI x 8) : MI l v yX7_areValues cX7_areValues 3 (some .boolean) ({ frames := 1, cells := 0, slots := 0, locals := 22 }) [.int x, .int y, .int z] [] (fun r w_ => r = nI 0 ∧ w_ = []) 0 0 := by
  refine mm_int (by decide) (Nat.le_of_ble_eq_true rfl) [(0, .int x), (1, .int y), (2, .int z)] rfl (fun k X E => ?_)
  refine g_iload_n X dX7_areValues_0 0 rfl rfl ?_
  refine g_iconst (x := nI 0) X dX7_areValues_1 (by decide +kernel) ?_
  refine g_bipush (x := nI 7) X dX7_areValues_2 (by decide +kernel) ?_
  refine g_callS (As := [.int x, .int (nI 0), .int (nI 7)]) (rest := []) (wr := []) X (c_X7_in l v x (nI 0) (nI 7)) f_X7_in q_14_20 dX7_areValues_4 [] [] rfl rfl (by decide) rfl rfl (Nat.le_of_ble_eq_true rfl) (by decide) (fun r_ w_ hp1 => ?_)
  obtain ⟨rfl, rfl⟩ := hp1
  show GG k _ _ [] _ _ [.int (bI (inI x (nI 0) (nI 7)))]
  refine g_if_eqB (tgt := 34) X dX7_areValues_7 (by decide) (fun c7 => ?_) (fun c7 => ?_)
  · refine g_iconst (x := nI 0) X dX7_areValues_34 (by decide +kernel) ?_
    exact E dX7_areValues_35 rfl (rfl) (by decide) (by decide) (⟨rfl, rfl⟩)
  · exact absurd c7 (by rw [inI_bad8 hx]; decide)

set_option maxHeartbeats 4000000 in
set_option maxRecDepth 100000 in
theorem b1_X7_areValues (l : Launch) (v : VV) (x : Nat) (y : Int32) (z : Int32) (h1 : x < 8) (hx : bdI y 8) : MI l v yX7_areValues cX7_areValues 3 (some .boolean) ({ frames := 1, cells := 0, slots := 0, locals := 22 }) [.int (nI x), .int y, .int z] [] (fun r w_ => r = nI 0 ∧ w_ = []) 0 0 := by
  refine mm_int (by decide) (Nat.le_of_ble_eq_true rfl) [(0, .int (nI x)), (1, .int y), (2, .int z)] rfl (fun k X E => ?_)
  refine g_iload_n X dX7_areValues_0 0 rfl rfl ?_
  refine g_iconst (x := nI 0) X dX7_areValues_1 (by decide +kernel) ?_
  refine g_bipush (x := nI 7) X dX7_areValues_2 (by decide +kernel) ?_
  refine g_callS (As := [.int (nI x), .int (nI 0), .int (nI 7)]) (rest := []) (wr := []) X (c_X7_in l v (nI x) (nI 0) (nI 7)) f_X7_in q_14_20 dX7_areValues_4 [] [] rfl rfl (by decide) rfl rfl (Nat.le_of_ble_eq_true rfl) (by decide) (fun r_ w_ hp1 => ?_)
  rw [inI_N (by omega) (by omega) (by omega)] at hp1
  obtain ⟨rfl, rfl⟩ := hp1
  show GG k _ _ [] _ _ [.int (bI (decide (0 ≤ x ∧ x ≤ 7)))]
  refine g_if_eqB (tgt := 34) X dX7_areValues_7 (by decide) (fun c7 => ?_) (fun c7 => ?_)
  · exact (of_decide_eq_false c7 ⟨by omega, by omega⟩).elim
  · refine g_iload_n X dX7_areValues_10 1 rfl rfl ?_
    refine g_iconst (x := nI 0) X dX7_areValues_11 (by decide +kernel) ?_
    refine g_bipush (x := nI 7) X dX7_areValues_12 (by decide +kernel) ?_
    refine g_callS (As := [.int y, .int (nI 0), .int (nI 7)]) (rest := []) (wr := []) X (c_X7_in l v y (nI 0) (nI 7)) f_X7_in q_14_20 dX7_areValues_14 [] [] rfl rfl (by decide) rfl rfl (Nat.le_of_ble_eq_true rfl) (by decide) (fun r_ w_ hp2 => ?_)
    obtain ⟨rfl, rfl⟩ := hp2
    show GG k _ _ [] _ _ [.int (bI (inI y (nI 0) (nI 7)))]
    refine g_if_eqB (tgt := 34) X dX7_areValues_17 (by decide) (fun c17 => ?_) (fun c17 => ?_)
    · refine g_iconst (x := nI 0) X dX7_areValues_34 (by decide +kernel) ?_
      exact E dX7_areValues_35 rfl (rfl) (by decide) (by decide) (⟨rfl, rfl⟩)
    · exact absurd c17 (by rw [inI_bad8 hx]; decide)

set_option maxHeartbeats 4000000 in
set_option maxRecDepth 100000 in
theorem b2_X7_areValues (l : Launch) (v : VV) (x : Nat) (y : Nat) (z : Int32) (h1 : x < 8) (h2 : y < 8) (hx : bdI z 8) : MI l v yX7_areValues cX7_areValues 3 (some .boolean) ({ frames := 1, cells := 0, slots := 0, locals := 22 }) [.int (nI x), .int (nI y), .int z] [] (fun r w_ => r = nI 0 ∧ w_ = []) 0 0 := by
  refine mm_int (by decide) (Nat.le_of_ble_eq_true rfl) [(0, .int (nI x)), (1, .int (nI y)), (2, .int z)] rfl (fun k X E => ?_)
  refine g_iload_n X dX7_areValues_0 0 rfl rfl ?_
  refine g_iconst (x := nI 0) X dX7_areValues_1 (by decide +kernel) ?_
  refine g_bipush (x := nI 7) X dX7_areValues_2 (by decide +kernel) ?_
  refine g_callS (As := [.int (nI x), .int (nI 0), .int (nI 7)]) (rest := []) (wr := []) X (c_X7_in l v (nI x) (nI 0) (nI 7)) f_X7_in q_14_20 dX7_areValues_4 [] [] rfl rfl (by decide) rfl rfl (Nat.le_of_ble_eq_true rfl) (by decide) (fun r_ w_ hp1 => ?_)
  rw [inI_N (by omega) (by omega) (by omega)] at hp1
  obtain ⟨rfl, rfl⟩ := hp1
  show GG k _ _ [] _ _ [.int (bI (decide (0 ≤ x ∧ x ≤ 7)))]
  refine g_if_eqB (tgt := 34) X dX7_areValues_7 (by decide) (fun c7 => ?_) (fun c7 => ?_)
  · exact (of_decide_eq_false c7 ⟨by omega, by omega⟩).elim
  · refine g_iload_n X dX7_areValues_10 1 rfl rfl ?_
    refine g_iconst (x := nI 0) X dX7_areValues_11 (by decide +kernel) ?_
    refine g_bipush (x := nI 7) X dX7_areValues_12 (by decide +kernel) ?_
    refine g_callS (As := [.int (nI y), .int (nI 0), .int (nI 7)]) (rest := []) (wr := []) X (c_X7_in l v (nI y) (nI 0) (nI 7)) f_X7_in q_14_20 dX7_areValues_14 [] [] rfl rfl (by decide) rfl rfl (Nat.le_of_ble_eq_true rfl) (by decide) (fun r_ w_ hp2 => ?_)
    rw [inI_N (by omega) (by omega) (by omega)] at hp2
    obtain ⟨rfl, rfl⟩ := hp2
    show GG k _ _ [] _ _ [.int (bI (decide (0 ≤ y ∧ y ≤ 7)))]
    refine g_if_eqB (tgt := 34) X dX7_areValues_17 (by decide) (fun c17 => ?_) (fun c17 => ?_)
    · exact (of_decide_eq_false c17 ⟨by omega, by omega⟩).elim
    · refine g_iload_n X dX7_areValues_20 2 rfl rfl ?_
      refine g_iconst (x := nI 0) X dX7_areValues_21 (by decide +kernel) ?_
      refine g_bipush (x := nI 7) X dX7_areValues_22 (by decide +kernel) ?_
      refine g_callS (As := [.int z, .int (nI 0), .int (nI 7)]) (rest := []) (wr := []) X (c_X7_in l v z (nI 0) (nI 7)) f_X7_in q_14_20 dX7_areValues_24 [] [] rfl rfl (by decide) rfl rfl (Nat.le_of_ble_eq_true rfl) (by decide) (fun r_ w_ hp3 => ?_)
      obtain ⟨rfl, rfl⟩ := hp3
      show GG k _ _ [] _ _ [.int (bI (inI z (nI 0) (nI 7)))]
      refine g_if_eqB (tgt := 34) X dX7_areValues_27 (by decide) (fun c27 => ?_) (fun c27 => ?_)
      · refine g_iconst (x := nI 0) X dX7_areValues_34 (by decide +kernel) ?_
        exact E dX7_areValues_35 rfl (rfl) (by decide) (by decide) (⟨rfl, rfl⟩)
      · exact absurd c27 (by rw [inI_bad8 hx]; decide)

