/-! ## ClaimJudge -/
set_option maxHeartbeats 4000000 in
set_option maxRecDepth 100000 in
theorem c_X6_isValue (l : Launch) (v : VV) (x : Nat) (hx : x < 8) : MI l v yX6_isValue cX6_isValue 1 (some .boolean) ({ frames := 0, cells := 0, slots := 0, locals := 0 }) [.int (nI x)] [] (fun r w_ => r = nI 1 ∧ w_ = []) 0 0 := by
  refine mm_int (by decide) (Nat.le_of_ble_eq_true rfl) [(0, .int (nI x))] rfl (fun k X E => ?_)
  refine g_iload_n X dX6_isValue_0 0 rfl rfl ?_
  refine g_if_ltN (tgt := 14) X dX6_isValue_1 (by decide) (by omega) ?_
  refine g_iload_n X dX6_isValue_4 0 rfl rfl ?_
  refine g_bipush (x := nI 8) X dX6_isValue_5 (by decide +kernel) ?_
  refine g_icmp_geN (tgt := 14) X dX6_isValue_7 (by decide) (by omega) (by omega) (fun c7 => ?_) (fun c7 => ?_)
  · omega
  · refine g_iconst (x := nI 1) X dX6_isValue_10 (by decide +kernel) ?_
    refine g_goto (tgt := 15) X dX6_isValue_11 (by decide) ?_
    exact E dX6_isValue_15 rfl (rfl) (by decide) (by decide) (⟨rfl, rfl⟩)

set_option maxHeartbeats 4000000 in
set_option maxRecDepth 100000 in
theorem b_X6_isValue (l : Launch) (v : VV) (x : Int32) (hx : bdI x 8) : MI l v yX6_isValue cX6_isValue 1 (some .boolean) ({ frames := 0, cells := 0, slots := 0, locals := 0 }) [.int x] [] (fun r w_ => r = nI 0 ∧ w_ = []) 0 0 := by
  refine mm_int (by decide) (Nat.le_of_ble_eq_true rfl) [(0, .int x)] rfl (fun k X E => ?_)
  refine g_iload_n X dX6_isValue_0 0 rfl rfl ?_
  refine g_if_lt (tgt := 14) X dX6_isValue_1 (by decide) (fun c1 => ?_) (fun c1 => ?_)
  · refine g_iconst (x := nI 0) X dX6_isValue_14 (by decide +kernel) ?_
    exact E dX6_isValue_15 rfl (rfl) (by decide) (by decide) (⟨rfl, rfl⟩)
  · refine g_iload_n X dX6_isValue_4 0 rfl rfl ?_
    refine g_bipush (x := nI 8) X dX6_isValue_5 (by decide +kernel) ?_
    refine g_icmp_ge (tgt := 14) X dX6_isValue_7 (by decide) (fun c7 => ?_) (fun c7 => ?_)
    · refine g_iconst (x := nI 0) X dX6_isValue_14 (by decide +kernel) ?_
      exact E dX6_isValue_15 rfl (rfl) (by decide) (by decide) (⟨rfl, rfl⟩)
    · exact absurd (hx.resolve_left c1) c7

set_option maxHeartbeats 4000000 in
set_option maxRecDepth 100000 in
theorem c_X6_checkIndex (l : Launch) (v : VV) (i : Nat) (n : Nat) (hi : i < n) (hn : n < 2147483648) : MU l v yX6_checkIndex cX6_checkIndex 2 none ({ frames := 0, cells := 0, slots := 0, locals := 0 }) [.int (nI i), .int (nI n)] [] (fun _ w_ => w_ = []) 0 0 := by
  refine mm_void rfl (by decide) (Nat.le_of_ble_eq_true rfl) [(0, .int (nI i)), (1, .int (nI n))] rfl (fun k X hin E => ?_)
  refine g_iload_n X dX6_checkIndex_0 0 rfl rfl ?_
  refine g_if_ltN (tgt := 9) X dX6_checkIndex_1 (by decide) (by omega) ?_
  refine g_iload_n X dX6_checkIndex_4 0 rfl rfl ?_
  refine g_iload_n X dX6_checkIndex_5 1 rfl rfl ?_
  refine g_icmp_ltN (tgt := 20) X dX6_checkIndex_6 (by decide) (by omega) (by omega) (fun c6 => ?_) (fun c6 => ?_)
  · exact E dX6_checkIndex_20 (by decide) (by decide) (rfl)
  · omega

set_option maxHeartbeats 4000000 in
set_option maxRecDepth 100000 in
theorem b_X6_checkIndex (l : Launch) (v : VV) (hst : l.stackTraces = false) (x : Int32) (n : Nat) (hx : bdI x n) (hn : n < 2147483648) : XU l v yX6_checkIndex cX6_checkIndex 2 none ({ frames := 6, cells := 1, slots := 6, locals := 90 }) [.int x, .int (nI n)] [] (fun _ _ => False) (fun E w_ => E = "java/lang/IndexOutOfBoundsException" ∧ w_ = []) 1 6 := by
  refine mx_void rfl hst rfl (by decide) (Nat.le_of_ble_eq_true rfl) [(0, .int x), (1, .int (nI n))] rfl (fun k X E xo xr xw => ?_)
  refine g_iload_n X dX6_checkIndex_0 0 rfl rfl ?_
  refine g_if_lt (tgt := 9) X dX6_checkIndex_1 (by decide) (fun c1 => ?_) (fun c1 => ?_)
  · exact xw 2 (List.mem_of_getElem? (i := 0) rfl) q_15_18 q_15_19 rfl dX6_checkIndex_9 dX6_checkIndex_12 dX6_checkIndex_13 dX6_checkIndex_16 dX6_checkIndex_19 (by decide) (Nat.le_of_ble_eq_true rfl) (by decide) (by decide) (by decide) (by decide) (⟨rfl, rfl⟩)
  · refine g_iload_n X dX6_checkIndex_4 0 rfl rfl ?_
    refine g_iload_n X dX6_checkIndex_5 1 rfl rfl ?_
    refine g_icmp_lt (tgt := 20) X dX6_checkIndex_6 (by decide) (fun c6 => ?_) (fun c6 => ?_)
    · exact absurd c6 (Int32.not_lt.mpr (hx.resolve_left c1))
    · exact xw 2 (List.mem_of_getElem? (i := 0) rfl) q_15_18 q_15_19 rfl dX6_checkIndex_9 dX6_checkIndex_12 dX6_checkIndex_13 dX6_checkIndex_16 dX6_checkIndex_19 (by decide) (Nat.le_of_ble_eq_true rfl) (by decide) (by decide) (by decide) (by decide) (⟨rfl, rfl⟩)

set_option maxHeartbeats 4000000 in
set_option maxRecDepth 100000 in
theorem c_X6_checkValues (l : Launch) (v : VV) (x : Nat) (y : Nat) (z : Nat) (hx : x < 8) (hy : y < 8) (hz : z < 8) : MU l v yX6_checkValues cX6_checkValues 3 none ({ frames := 1, cells := 0, slots := 0, locals := 20 }) [.int (nI x), .int (nI y), .int (nI z)] [] (fun _ w_ => w_ = []) 0 0 := by
  refine mm_void rfl (by decide) (Nat.le_of_ble_eq_true rfl) [(0, .int (nI x)), (1, .int (nI y)), (2, .int (nI z))] rfl (fun k X hin E => ?_)
  refine g_iload_n X dX6_checkValues_0 0 rfl rfl ?_
  refine g_callS (As := [.int (nI x)]) (rest := []) (wr := []) X (c_X6_isValue l v x (by omega)) f_X6_isValue q_15_20 dX6_checkValues_1 [] [] rfl rfl (by decide) rfl rfl (Nat.le_of_ble_eq_true rfl) (by decide) (fun r_ w_ hp1 => ?_)
  obtain ⟨rfl, rfl⟩ := hp1
  show GG k _ _ [] _ _ [.int (nI 1)]
  refine g_if_eqN (tgt := 21) X dX6_checkValues_4 (by decide) (by omega) (fun c4 => ?_) (fun c4 => ?_)
  · exact absurd c4 (by decide)
  · refine g_iload_n X dX6_checkValues_7 1 rfl rfl ?_
    refine g_callS (As := [.int (nI y)]) (rest := []) (wr := []) X (c_X6_isValue l v y (by omega)) f_X6_isValue q_15_20 dX6_checkValues_8 [] [] rfl rfl (by decide) rfl rfl (Nat.le_of_ble_eq_true rfl) (by decide) (fun r_ w_ hp2 => ?_)
    obtain ⟨rfl, rfl⟩ := hp2
    show GG k _ _ [] _ _ [.int (nI 1)]
    refine g_if_eqN (tgt := 21) X dX6_checkValues_11 (by decide) (by omega) (fun c11 => ?_) (fun c11 => ?_)
    · exact absurd c11 (by decide)
    · refine g_iload_n X dX6_checkValues_14 2 rfl rfl ?_
      refine g_callS (As := [.int (nI z)]) (rest := []) (wr := []) X (c_X6_isValue l v z (by omega)) f_X6_isValue q_15_20 dX6_checkValues_15 [] [] rfl rfl (by decide) rfl rfl (Nat.le_of_ble_eq_true rfl) (by decide) (fun r_ w_ hp3 => ?_)
      obtain ⟨rfl, rfl⟩ := hp3
      show GG k _ _ [] _ _ [.int (nI 1)]
      refine g_if_neN (tgt := 32) X dX6_checkValues_18 (by decide) (by omega) (fun c18 => ?_) (fun c18 => ?_)
      · exact E dX6_checkValues_32 (by decide) (by decide) (rfl)
      · exact absurd c18 (by decide)

set_option maxHeartbeats 4000000 in
set_option maxRecDepth 100000 in
theorem b0_X6_checkValues (l : Launch) (v : VV) (hst : l.stackTraces = false) (x : Int32) (y : Int32) (z : Int32) (hx : bdI x 8) : XU l v yX6_checkValues cX6_checkValues 3 none ({ frames := 6, cells := 1, slots := 6, locals := 90 }) [.int x, .int y, .int z] [] (fun _ _ => False) (fun E w_ => E = "java/lang/IllegalArgumentException" ∧ w_ = []) 1 6 := by
  refine mx_void rfl hst rfl (by decide) (Nat.le_of_ble_eq_true rfl) [(0, .int x), (1, .int y), (2, .int z)] rfl (fun k X E xo xr xw => ?_)
  refine g_iload_n X dX6_checkValues_0 0 rfl rfl ?_
  refine g_callS (As := [.int x]) (rest := []) (wr := []) X (b_X6_isValue l v x hx) f_X6_isValue q_15_20 dX6_checkValues_1 [] [] rfl rfl (by decide) rfl rfl (Nat.le_of_ble_eq_true rfl) (by decide) (fun r_ w_ hp1 => ?_)
  obtain ⟨rfl, rfl⟩ := hp1
  show GG k _ _ [] _ _ [.int (nI 0)]
  refine g_if_eqN (tgt := 21) X dX6_checkValues_4 (by decide) (by omega) (fun c4 => ?_) (fun c4 => ?_)
  · exact xw 6 (List.mem_of_getElem? (i := 1) rfl) q_5_10 q_5_11 rfl dX6_checkValues_21 dX6_checkValues_24 dX6_checkValues_25 dX6_checkValues_28 dX6_checkValues_31 (by decide) (Nat.le_of_ble_eq_true rfl) (by decide) (by decide) (by decide) (by decide) (⟨rfl, rfl⟩)
  · exact absurd rfl c4

set_option maxHeartbeats 4000000 in
set_option maxRecDepth 100000 in
theorem b1_X6_checkValues (l : Launch) (v : VV) (hst : l.stackTraces = false) (x : Nat) (y : Int32) (z : Int32) (h1 : x < 8) (hx : bdI y 8) : XU l v yX6_checkValues cX6_checkValues 3 none ({ frames := 6, cells := 1, slots := 6, locals := 90 }) [.int (nI x), .int y, .int z] [] (fun _ _ => False) (fun E w_ => E = "java/lang/IllegalArgumentException" ∧ w_ = []) 1 6 := by
  refine mx_void rfl hst rfl (by decide) (Nat.le_of_ble_eq_true rfl) [(0, .int (nI x)), (1, .int y), (2, .int z)] rfl (fun k X E xo xr xw => ?_)
  refine g_iload_n X dX6_checkValues_0 0 rfl rfl ?_
  refine g_callS (As := [.int (nI x)]) (rest := []) (wr := []) X (c_X6_isValue l v x (by omega)) f_X6_isValue q_15_20 dX6_checkValues_1 [] [] rfl rfl (by decide) rfl rfl (Nat.le_of_ble_eq_true rfl) (by decide) (fun r_ w_ hp1 => ?_)
  obtain ⟨rfl, rfl⟩ := hp1
  show GG k _ _ [] _ _ [.int (nI 1)]
  refine g_if_eqN (tgt := 21) X dX6_checkValues_4 (by decide) (by omega) (fun c4 => ?_) (fun c4 => ?_)
  · exact absurd c4 (by decide)
  · refine g_iload_n X dX6_checkValues_7 1 rfl rfl ?_
    refine g_callS (As := [.int y]) (rest := []) (wr := []) X (b_X6_isValue l v y hx) f_X6_isValue q_15_20 dX6_checkValues_8 [] [] rfl rfl (by decide) rfl rfl (Nat.le_of_ble_eq_true rfl) (by decide) (fun r_ w_ hp2 => ?_)
    obtain ⟨rfl, rfl⟩ := hp2
    show GG k _ _ [] _ _ [.int (nI 0)]
    refine g_if_eqN (tgt := 21) X dX6_checkValues_11 (by decide) (by omega) (fun c11 => ?_) (fun c11 => ?_)
    · exact xw 6 (List.mem_of_getElem? (i := 1) rfl) q_5_10 q_5_11 rfl dX6_checkValues_21 dX6_checkValues_24 dX6_checkValues_25 dX6_checkValues_28 dX6_checkValues_31 (by decide) (Nat.le_of_ble_eq_true rfl) (by decide) (by decide) (by decide) (by decide) (⟨rfl, rfl⟩)
    · exact absurd rfl c11

set_option maxHeartbeats 4000000 in
set_option maxRecDepth 100000 in
theorem b2_X6_checkValues (l : Launch) (v : VV) (hst : l.stackTraces = false) (x : Nat) (y : Nat) (z : Int32) (h1 : x < 8) (h2 : y < 8) (hx : bdI z 8) : XU l v yX6_checkValues cX6_checkValues 3 none ({ frames := 6, cells := 1, slots := 6, locals := 90 }) [.int (nI x), .int (nI y), .int z] [] (fun _ _ => False) (fun E w_ => E = "java/lang/IllegalArgumentException" ∧ w_ = []) 1 6 := by
  refine mx_void rfl hst rfl (by decide) (Nat.le_of_ble_eq_true rfl) [(0, .int (nI x)), (1, .int (nI y)), (2, .int z)] rfl (fun k X E xo xr xw => ?_)
  refine g_iload_n X dX6_checkValues_0 0 rfl rfl ?_
  refine g_callS (As := [.int (nI x)]) (rest := []) (wr := []) X (c_X6_isValue l v x (by omega)) f_X6_isValue q_15_20 dX6_checkValues_1 [] [] rfl rfl (by decide) rfl rfl (Nat.le_of_ble_eq_true rfl) (by decide) (fun r_ w_ hp1 => ?_)
  obtain ⟨rfl, rfl⟩ := hp1
  show GG k _ _ [] _ _ [.int (nI 1)]
  refine g_if_eqN (tgt := 21) X dX6_checkValues_4 (by decide) (by omega) (fun c4 => ?_) (fun c4 => ?_)
  · exact absurd c4 (by decide)
  · refine g_iload_n X dX6_checkValues_7 1 rfl rfl ?_
    refine g_callS (As := [.int (nI y)]) (rest := []) (wr := []) X (c_X6_isValue l v y (by omega)) f_X6_isValue q_15_20 dX6_checkValues_8 [] [] rfl rfl (by decide) rfl rfl (Nat.le_of_ble_eq_true rfl) (by decide) (fun r_ w_ hp2 => ?_)
    obtain ⟨rfl, rfl⟩ := hp2
    show GG k _ _ [] _ _ [.int (nI 1)]
    refine g_if_eqN (tgt := 21) X dX6_checkValues_11 (by decide) (by omega) (fun c11 => ?_) (fun c11 => ?_)
    · exact absurd c11 (by decide)
    · refine g_iload_n X dX6_checkValues_14 2 rfl rfl ?_
      refine g_callS (As := [.int z]) (rest := []) (wr := []) X (b_X6_isValue l v z hx) f_X6_isValue q_15_20 dX6_checkValues_15 [] [] rfl rfl (by decide) rfl rfl (Nat.le_of_ble_eq_true rfl) (by decide) (fun r_ w_ hp3 => ?_)
      obtain ⟨rfl, rfl⟩ := hp3
      show GG k _ _ [] _ _ [.int (nI 0)]
      refine g_if_neN (tgt := 32) X dX6_checkValues_18 (by decide) (by omega) (fun c18 => ?_) (fun c18 => ?_)
      · exact absurd rfl c18
      · exact xw 6 (List.mem_of_getElem? (i := 1) rfl) q_5_10 q_5_11 rfl dX6_checkValues_21 dX6_checkValues_24 dX6_checkValues_25 dX6_checkValues_28 dX6_checkValues_31 (by decide) (Nat.le_of_ble_eq_true rfl) (by decide) (by decide) (by decide) (by decide) (⟨rfl, rfl⟩)

set_option maxHeartbeats 4000000 in
set_option maxRecDepth 100000 in
theorem c_X6_statements (l : Launch) (v : VV) (cj : Nat) (a : Nat → Nat) (b : Nat → Nat) (d : Nat → Nat) (j : Nat → Nat) (h : Nat → Nat) (t : Nat → Nat) (n : Nat) (f : Nat → Nat → Int32) : MI l v yX6_statements cX6_statements 1 (some .int) ({ frames := 0, cells := 0, slots := 0, locals := 0 }) [.ref cj] [cCJ v cj (a 0) (b 0) (d 0) (j 0) (h 0) (t 0), cPg v a n f] (fun r w_ => r = nI n ∧ w_ = [cCJ v cj (a 0) (b 0) (d 0) (j 0) (h 0) (t 0), cPg v a n f]) 0 0 := by
  refine mm_int (by decide) (Nat.le_of_ble_eq_true rfl) [(0, .ref cj)] rfl (fun k X E => ?_)
  refine g_aload_n X dX6_statements_0 0 rfl rfl ?_
  refine g_get X cb6 0 q_1_13 dX6_statements_1 0 0 rfl rfl (by decide) rfl rfl ?_
  refine g_getN X cb3 0 0 rfl dX6_statements_4 1 0 rfl rfl (by decide) rfl rfl ?_
  exact E dX6_statements_7 rfl (rfl) (by decide) (by decide) (⟨rfl, rfl⟩)

set_option maxHeartbeats 4000000 in
set_option maxRecDepth 100000 in
theorem c_X6_kind (l : Launch) (v : VV) (cj : Nat) (a : Nat → Nat) (b : Nat → Nat) (d : Nat → Nat) (j : Nat → Nat) (h : Nat → Nat) (t : Nat → Nat) (n : Nat) (f : Nat → Nat → Int32) (P : Nat → S9) (i : Nat) (hW : WF P n) (hR : PgR P n f) (hi : i < n) : MI l v yX6_kind cX6_kind 2 (some .int) ({ frames := 7, cells := 0, slots := 0, locals := 111 }) [.ref cj, .int (nI i)] [cCJ v cj (a 0) (b 0) (d 0) (j 0) (h 0) (t 0), cPg v a n f] (fun r w_ => r = nI (P i).1 ∧ w_ = [cCJ v cj (a 0) (b 0) (d 0) (j 0) (h 0) (t 0), cPg v a n f]) 0 0 := by
  refine mm_int (by decide) (Nat.le_of_ble_eq_true rfl) [(0, .ref cj), (1, .int (nI i))] rfl (fun k X E => ?_)
  have hn12 := hW.1
  refine g_iload_n X dX6_kind_0 1 rfl rfl ?_
  refine g_aload_n X dX6_kind_1 0 rfl rfl ?_
  refine g_get X cb6 0 q_1_13 dX6_kind_2 0 0 rfl rfl (by decide) rfl rfl ?_
  refine g_getN X cb3 0 0 rfl dX6_kind_5 1 0 rfl rfl (by decide) rfl rfl ?_
  refine g_callS (As := [.int (nI i), .int (nI n)]) (rest := []) (wr := [cCJ v cj (a 0) (b 0) (d 0) (j 0) (h 0) (t 0), cPg v a n f]) X (c_X6_checkIndex l v i n (by omega) (by omega)) f_X6_checkIndex q_15_15 dX6_kind_8 [] [0, 1] rfl rfl (by decide) rfl rfl (Nat.le_of_ble_eq_true rfl) (by decide) (fun r_ w_ hp1 => ?_)
  subst hp1
  show GG k _ _ [cCJ v cj (a 0) (b 0) (d 0) (j 0) (h 0) (t 0), cPg v a n f] _ _ []
  refine g_aload_n X dX6_kind_11 0 rfl rfl ?_
  refine g_get X cb6 0 q_1_13 dX6_kind_12 0 0 rfl rfl (by decide) rfl rfl ?_
  refine g_getN X cb3 1 1 rfl dX6_kind_15 1 0 rfl rfl (by decide) rfl rfl ?_
  refine g_iload_n X dX6_kind_18 1 rfl rfl ?_
  refine g_iald X dX6_kind_19 1 1 rfl rfl (by omega) (by omega) ?_
  exact E dX6_kind_20 rfl (rfl) (by decide) (by decide) (⟨(hR i hi).1, rfl⟩)

set_option maxHeartbeats 4000000 in
set_option maxRecDepth 100000 in
theorem c_X6_target (l : Launch) (v : VV) (cj : Nat) (a : Nat → Nat) (b : Nat → Nat) (d : Nat → Nat) (j : Nat → Nat) (h : Nat → Nat) (t : Nat → Nat) (n : Nat) (f : Nat → Nat → Int32) (P : Nat → S9) (i : Nat) (hW : WF P n) (hR : PgR P n f) (hi : i < n) : MI l v yX6_target cX6_target 2 (some .int) ({ frames := 7, cells := 0, slots := 0, locals := 111 }) [.ref cj, .int (nI i)] [cCJ v cj (a 0) (b 0) (d 0) (j 0) (h 0) (t 0), cPg v a n f] (fun r w_ => r = zI (tg9 (P i)) ∧ w_ = [cCJ v cj (a 0) (b 0) (d 0) (j 0) (h 0) (t 0), cPg v a n f]) 0 0 := by
  refine mm_int (by decide) (Nat.le_of_ble_eq_true rfl) [(0, .ref cj), (1, .int (nI i))] rfl (fun k X E => ?_)
  have hn12 := hW.1
  refine g_iload_n X dX6_target_0 1 rfl rfl ?_
  refine g_aload_n X dX6_target_1 0 rfl rfl ?_
  refine g_get X cb6 0 q_1_13 dX6_target_2 0 0 rfl rfl (by decide) rfl rfl ?_
  refine g_getN X cb3 0 0 rfl dX6_target_5 1 0 rfl rfl (by decide) rfl rfl ?_
  refine g_callS (As := [.int (nI i), .int (nI n)]) (rest := []) (wr := [cCJ v cj (a 0) (b 0) (d 0) (j 0) (h 0) (t 0), cPg v a n f]) X (c_X6_checkIndex l v i n (by omega) (by omega)) f_X6_checkIndex q_15_15 dX6_target_8 [] [0, 1] rfl rfl (by decide) rfl rfl (Nat.le_of_ble_eq_true rfl) (by decide) (fun r_ w_ hp1 => ?_)
  subst hp1
  show GG k _ _ [cCJ v cj (a 0) (b 0) (d 0) (j 0) (h 0) (t 0), cPg v a n f] _ _ []
  refine g_aload_n X dX6_target_11 0 rfl rfl ?_
  refine g_get X cb6 0 q_1_13 dX6_target_12 0 0 rfl rfl (by decide) rfl rfl ?_
  refine g_getN X cb3 6 2 rfl dX6_target_15 1 0 rfl rfl (by decide) rfl rfl ?_
  refine g_iload_n X dX6_target_18 1 rfl rfl ?_
  refine g_iald X dX6_target_19 1 6 rfl rfl (by omega) (by omega) ?_
  exact E dX6_target_20 rfl (rfl) (by decide) (by decide) (⟨(hR i hi).2.2.2.2.2, rfl⟩)

set_option maxHeartbeats 4000000 in
set_option maxRecDepth 100000 in
theorem b_X6_kind (l : Launch) (v : VV) (hst : l.stackTraces = false) (cj : Nat) (a : Nat → Nat) (b : Nat → Nat) (d : Nat → Nat) (j : Nat → Nat) (h : Nat → Nat) (t : Nat → Nat) (n : Nat) (f : Nat → Nat → Int32) (x : Int32) (hn12 : n ≤ 12) (hx : bdI x n) : XI l v yX6_kind cX6_kind 2 (some .int) ({ frames := 7, cells := 1, slots := 6, locals := 120 }) [.ref cj, .int x] [cCJ v cj (a 0) (b 0) (d 0) (j 0) (h 0) (t 0), cPg v a n f] (fun _ _ => False) (fun E w_ => E = "java/lang/IndexOutOfBoundsException" ∧ w_ = [cCJ v cj (a 0) (b 0) (d 0) (j 0) (h 0) (t 0), cPg v a n f]) 1 6 := by
  refine mx_int hst rfl (by decide) (Nat.le_of_ble_eq_true rfl) [(0, .ref cj), (1, .int x)] rfl (fun k X E xo xr xw => ?_)
  refine g_iload_n X dX6_kind_0 1 rfl rfl ?_
  refine g_aload_n X dX6_kind_1 0 rfl rfl ?_
  refine g_get X cb6 0 q_1_13 dX6_kind_2 0 0 rfl rfl (by decide) rfl rfl ?_
  refine g_getN X cb3 0 0 rfl dX6_kind_5 1 0 rfl rfl (by decide) rfl rfl ?_
  refine g_xS (As := [.int x, .int (nI n)]) (rest := []) (wr := [cCJ v cj (a 0) (b 0) (d 0) (j 0) (h 0) (t 0), cPg v a n f]) X (b_X6_checkIndex l v hst x n hx (by omega)) f_X6_checkIndex q_15_15 dX6_kind_8 [] [0, 1] rfl rfl (by decide) rfl rfl (Nat.le_of_ble_eq_true rfl) (by decide) (fun r_ w_ hp1 => ?_) (fun E_ w_ hx => by obtain ⟨rfl, rfl⟩ := hx; exact xo (by decide) (by decide) ⟨rfl, rfl⟩)
  exact absurd hp1 id

set_option maxHeartbeats 4000000 in
set_option maxRecDepth 100000 in
theorem b_X6_target (l : Launch) (v : VV) (hst : l.stackTraces = false) (cj : Nat) (a : Nat → Nat) (b : Nat → Nat) (d : Nat → Nat) (j : Nat → Nat) (h : Nat → Nat) (t : Nat → Nat) (n : Nat) (f : Nat → Nat → Int32) (x : Int32) (hn12 : n ≤ 12) (hx : bdI x n) : XI l v yX6_target cX6_target 2 (some .int) ({ frames := 7, cells := 1, slots := 6, locals := 120 }) [.ref cj, .int x] [cCJ v cj (a 0) (b 0) (d 0) (j 0) (h 0) (t 0), cPg v a n f] (fun _ _ => False) (fun E w_ => E = "java/lang/IndexOutOfBoundsException" ∧ w_ = [cCJ v cj (a 0) (b 0) (d 0) (j 0) (h 0) (t 0), cPg v a n f]) 1 6 := by
  refine mx_int hst rfl (by decide) (Nat.le_of_ble_eq_true rfl) [(0, .ref cj), (1, .int x)] rfl (fun k X E xo xr xw => ?_)
  refine g_iload_n X dX6_target_0 1 rfl rfl ?_
  refine g_aload_n X dX6_target_1 0 rfl rfl ?_
  refine g_get X cb6 0 q_1_13 dX6_target_2 0 0 rfl rfl (by decide) rfl rfl ?_
  refine g_getN X cb3 0 0 rfl dX6_target_5 1 0 rfl rfl (by decide) rfl rfl ?_
  refine g_xS (As := [.int x, .int (nI n)]) (rest := []) (wr := [cCJ v cj (a 0) (b 0) (d 0) (j 0) (h 0) (t 0), cPg v a n f]) X (b_X6_checkIndex l v hst x n hx (by omega)) f_X6_checkIndex q_15_15 dX6_target_8 [] [0, 1] rfl rfl (by decide) rfl rfl (Nat.le_of_ble_eq_true rfl) (by decide) (fun r_ w_ hp1 => ?_) (fun E_ w_ hx => by obtain ⟨rfl, rfl⟩ := hx; exact xo (by decide) (by decide) ⟨rfl, rfl⟩)
  exact absurd hp1 id

set_option maxHeartbeats 4000000 in
set_option maxRecDepth 100000 in
theorem c_X6_run (l : Launch) (v : VV) (cj : Nat) (a : Nat → Nat) (b : Nat → Nat) (d : Nat → Nat) (j : Nat → Nat) (h : Nat → Nat) (t : Nat → Nat) (n : Nat) (f : Nat → Nat → Int32) (P : Nat → S9) (stl : Bool) (e : Nat → Int32) (x : Nat) (y : Nat) (z : Nat) (hW : WF P n) (hR : PgR P n f) (hE : stl = false → OKE P n e) (hx : x < 8) (hy : y < 8) (hz : z < 8) : MI l v yX6_run cX6_run 4 (some .int) ({ frames := 7, cells := 0, slots := 0, locals := 112 }) [.ref cj, .int (nI x), .int (nI y), .int (nI z)] [cCJ v cj (a 0) (b 0) (d 0) (j 0) (h 0) (t 0), cPg v a n f, cRu v d (a 0) stl, cEn v d e] (fun r w_ => ∃ e', r = zI (EE P n (64 * x + 8 * y + z)) ∧ OKE P n e' ∧ w_ = [cCJ v cj (a 0) (b 0) (d 0) (j 0) (h 0) (t 0), cPg v a n f, cRu v d (a 0) false, cEn v d e']) 0 0 := by
  refine mm_int (by decide) (Nat.le_of_ble_eq_true rfl) [(0, .ref cj), (1, .int (nI x)), (2, .int (nI y)), (3, .int (nI z))] rfl (fun k X E => ?_)
  have hn12 := hW.1
  refine g_iload_n X dX6_run_0 1 rfl rfl ?_
  refine g_iload_n X dX6_run_1 2 rfl rfl ?_
  refine g_iload_n X dX6_run_2 3 rfl rfl ?_
  refine g_callS (As := [.int (nI x), .int (nI y), .int (nI z)]) (rest := []) (wr := [cCJ v cj (a 0) (b 0) (d 0) (j 0) (h 0) (t 0), cPg v a n f, cRu v d (a 0) stl, cEn v d e]) X (c_X6_checkValues l v x y z (by omega) (by omega) (by omega)) f_X6_checkValues q_22_9 dX6_run_3 [] [0, 1, 2, 3] rfl rfl (by decide) rfl rfl (Nat.le_of_ble_eq_true rfl) (by decide) (fun r_ w_ hp1 => ?_)
  subst hp1
  show GG k _ _ [cCJ v cj (a 0) (b 0) (d 0) (j 0) (h 0) (t 0), cPg v a n f, cRu v d (a 0) stl, cEn v d e] _ _ []
  refine g_aload_n X dX6_run_6 0 rfl rfl ?_
  refine g_get X cb6 2 q_1_21 dX6_run_7 0 0 rfl rfl (by decide) rfl rfl ?_
  refine g_iload_n X dX6_run_10 1 rfl rfl ?_
  refine g_iload_n X dX6_run_11 2 rfl rfl ?_
  refine g_iload_n X dX6_run_12 3 rfl rfl ?_
  refine g_callS (As := [.int (nI x), .int (nI y), .int (nI z)]) (rest := [.ref (d 0)]) (wr := [cCJ v cj (a 0) (b 0) (d 0) (j 0) (h 0) (t 0), cPg v a n f, cRu v d (a 0) stl, cEn v d e]) X (c_X6_tripleOf l v x y z) f_X6_tripleOf q_22_12 dX6_run_13 [] [0, 1, 2, 3] rfl rfl (by decide) rfl rfl (Nat.le_of_ble_eq_true rfl) (by decide) (fun r_ w_ hp2 => ?_)
  obtain ⟨rfl, rfl⟩ := hp2
  show GG k _ _ [cCJ v cj (a 0) (b 0) (d 0) (j 0) (h 0) (t 0), cPg v a n f, cRu v d (a 0) stl, cEn v d e] _ _ [.int (nI (64 * x + 8 * y + z)), .ref (d 0)]
  refine g_callV (As := [.int (nI (64 * x + 8 * y + z))]) (rest := []) (wr := [cCJ v cj (a 0) (b 0) (d 0) (j 0) (h 0) (t 0)]) X (c_X4_endFrom l v d stl a n f P e (64 * x + 8 * y + z) hW hR (by omega) (hE)) f_X4_endFrom q_22_15 dX6_run_16 [2, 3, 1] [0] rfl rfl (by decide) 0 rfl rfl rfl rfl (Nat.le_of_ble_eq_true rfl) (by decide) (fun r_ w_ hp4 => ?_)
  obtain ⟨rfl, e_3, e_3O, rfl⟩ := hp4
  show GG k _ _ [cRu v d (a 0) false, cEn v d e_3, cPg v a n f, cCJ v cj (a 0) (b 0) (d 0) (j 0) (h 0) (t 0)] _ _ [.int (zI (EE P n (64 * x + 8 * y + z)))]
  refine g_pick (cs' := [cCJ v cj (a 0) (b 0) (d 0) (j 0) (h 0) (t 0), cPg v a n f, cRu v d (a 0) false, cEn v d e_3]) [3, 2, 0, 1] rfl rfl ?_
  exact E dX6_run_19 rfl (rfl) (by decide) (by decide) (⟨_, rfl, e_3O, rfl⟩)

set_option maxHeartbeats 4000000 in
set_option maxRecDepth 100000 in
theorem c_X6_steps (l : Launch) (v : VV) (cj : Nat) (a : Nat → Nat) (b : Nat → Nat) (d : Nat → Nat) (j : Nat → Nat) (h : Nat → Nat) (t : Nat → Nat) (n : Nat) (f : Nat → Nat → Int32) (P : Nat → S9) (stl : Bool) (e : Nat → Int32) (x : Nat) (y : Nat) (z : Nat) (hW : WF P n) (hR : PgR P n f) (hE : stl = false → OKE P n e) (hx : x < 8) (hy : y < 8) (hz : z < 8) : MI l v yX6_steps cX6_steps 4 (some .int) ({ frames := 7, cells := 0, slots := 0, locals := 121 }) [.ref cj, .int (nI x), .int (nI y), .int (nI z)] [cCJ v cj (a 0) (b 0) (d 0) (j 0) (h 0) (t 0), cPg v a n f, cRu v d (a 0) stl, cEn v d e] (fun r w_ => ∃ e', r = (if EE P n (64 * x + 8 * y + z) = -1 then zI (-1) else nI (LL P n (64 * x + 8 * y + z))) ∧ OKE P n e' ∧ w_ = [cCJ v cj (a 0) (b 0) (d 0) (j 0) (h 0) (t 0), cPg v a n f, cRu v d (a 0) false, cEn v d e']) 0 0 := by
  refine mm_int (by decide) (Nat.le_of_ble_eq_true rfl) [(0, .ref cj), (1, .int (nI x)), (2, .int (nI y)), (3, .int (nI z))] rfl (fun k X E => ?_)
  have hn12 := hW.1
  refine g_iload_n X dX6_steps_0 1 rfl rfl ?_
  refine g_iload_n X dX6_steps_1 2 rfl rfl ?_
  refine g_iload_n X dX6_steps_2 3 rfl rfl ?_
  refine g_callS (As := [.int (nI x), .int (nI y), .int (nI z)]) (rest := []) (wr := [cCJ v cj (a 0) (b 0) (d 0) (j 0) (h 0) (t 0), cPg v a n f, cRu v d (a 0) stl, cEn v d e]) X (c_X6_checkValues l v x y z (by omega) (by omega) (by omega)) f_X6_checkValues q_22_9 dX6_steps_3 [] [0, 1, 2, 3] rfl rfl (by decide) rfl rfl (Nat.le_of_ble_eq_true rfl) (by decide) (fun r_ w_ hp1 => ?_)
  subst hp1
  show GG k _ _ [cCJ v cj (a 0) (b 0) (d 0) (j 0) (h 0) (t 0), cPg v a n f, cRu v d (a 0) stl, cEn v d e] _ _ []
  refine g_aload_n X dX6_steps_6 0 rfl rfl ?_
  refine g_get X cb6 2 q_1_21 dX6_steps_7 0 0 rfl rfl (by decide) rfl rfl ?_
  refine g_iload_n X dX6_steps_10 1 rfl rfl ?_
  refine g_iload_n X dX6_steps_11 2 rfl rfl ?_
  refine g_iload_n X dX6_steps_12 3 rfl rfl ?_
  refine g_callS (As := [.int (nI x), .int (nI y), .int (nI z)]) (rest := [.ref (d 0)]) (wr := [cCJ v cj (a 0) (b 0) (d 0) (j 0) (h 0) (t 0), cPg v a n f, cRu v d (a 0) stl, cEn v d e]) X (c_X6_tripleOf l v x y z) f_X6_tripleOf q_22_12 dX6_steps_13 [] [0, 1, 2, 3] rfl rfl (by decide) rfl rfl (Nat.le_of_ble_eq_true rfl) (by decide) (fun r_ w_ hp2 => ?_)
  obtain ⟨rfl, rfl⟩ := hp2
  show GG k _ _ [cCJ v cj (a 0) (b 0) (d 0) (j 0) (h 0) (t 0), cPg v a n f, cRu v d (a 0) stl, cEn v d e] _ _ [.int (nI (64 * x + 8 * y + z)), .ref (d 0)]
  refine g_callV (As := [.int (nI (64 * x + 8 * y + z))]) (rest := []) (wr := [cCJ v cj (a 0) (b 0) (d 0) (j 0) (h 0) (t 0)]) X (c_X4_lengthFrom l v d stl a n f P e (64 * x + 8 * y + z) hW hR (by omega) (hE)) f_X4_lengthFrom q_22_20 dX6_steps_16 [2, 3, 1] [0] rfl rfl (by decide) 0 rfl rfl rfl rfl (Nat.le_of_ble_eq_true rfl) (by decide) (fun r_ w_ hp4 => ?_)
  obtain ⟨rfl, e_3, e_3O, rfl⟩ := hp4
  show GG k _ _ [cRu v d (a 0) false, cEn v d e_3, cPg v a n f, cCJ v cj (a 0) (b 0) (d 0) (j 0) (h 0) (t 0)] _ _ [.int (if EE P n (64 * x + 8 * y + z) = -1 then zI (-1) else nI (LL P n (64 * x + 8 * y + z)))]
  refine g_pick (cs' := [cCJ v cj (a 0) (b 0) (d 0) (j 0) (h 0) (t 0), cPg v a n f, cRu v d (a 0) false, cEn v d e_3]) [3, 2, 0, 1] rfl rfl ?_
  exact E dX6_steps_19 rfl (rfl) (by decide) (by decide) (⟨_, rfl, e_3O, rfl⟩)

set_option maxHeartbeats 4000000 in
set_option maxRecDepth 100000 in
theorem b0_X6_run (l : Launch) (v : VV) (hst : l.stackTraces = false) (cj : Nat) (a : Nat → Nat) (b : Nat → Nat) (d : Nat → Nat) (j : Nat → Nat) (h : Nat → Nat) (t : Nat → Nat) (x : Int32) (y : Int32) (z : Int32) (hx : bdI x 8) : XI l v yX6_run cX6_run 4 (some .int) ({ frames := 7, cells := 1, slots := 6, locals := 120 }) [.ref cj, .int x, .int y, .int z] [cCJ v cj (a 0) (b 0) (d 0) (j 0) (h 0) (t 0)] (fun _ _ => False) (fun E w_ => E = "java/lang/IllegalArgumentException" ∧ w_ = [cCJ v cj (a 0) (b 0) (d 0) (j 0) (h 0) (t 0)]) 1 6 := by
  refine mx_int hst rfl (by decide) (Nat.le_of_ble_eq_true rfl) [(0, .ref cj), (1, .int x), (2, .int y), (3, .int z)] rfl (fun k X E xo xr xw => ?_)
  refine g_iload_n X dX6_run_0 1 rfl rfl ?_
  refine g_iload_n X dX6_run_1 2 rfl rfl ?_
  refine g_iload_n X dX6_run_2 3 rfl rfl ?_
  refine g_xS (As := [.int x, .int y, .int z]) (rest := []) (wr := [cCJ v cj (a 0) (b 0) (d 0) (j 0) (h 0) (t 0)]) X (b0_X6_checkValues l v hst x y z hx) f_X6_checkValues q_22_9 dX6_run_3 [] [0] rfl rfl (by decide) rfl rfl (Nat.le_of_ble_eq_true rfl) (by decide) (fun r_ w_ hp1 => ?_) (fun E_ w_ hx => by obtain ⟨rfl, rfl⟩ := hx; exact xo (by decide) (by decide) ⟨rfl, rfl⟩)
  exact absurd hp1 id

set_option maxHeartbeats 4000000 in
set_option maxRecDepth 100000 in
theorem b1_X6_run (l : Launch) (v : VV) (hst : l.stackTraces = false) (cj : Nat) (a : Nat → Nat) (b : Nat → Nat) (d : Nat → Nat) (j : Nat → Nat) (h : Nat → Nat) (t : Nat → Nat) (x : Nat) (y : Int32) (z : Int32) (h1 : x < 8) (hx : bdI y 8) : XI l v yX6_run cX6_run 4 (some .int) ({ frames := 7, cells := 1, slots := 6, locals := 120 }) [.ref cj, .int (nI x), .int y, .int z] [cCJ v cj (a 0) (b 0) (d 0) (j 0) (h 0) (t 0)] (fun _ _ => False) (fun E w_ => E = "java/lang/IllegalArgumentException" ∧ w_ = [cCJ v cj (a 0) (b 0) (d 0) (j 0) (h 0) (t 0)]) 1 6 := by
  refine mx_int hst rfl (by decide) (Nat.le_of_ble_eq_true rfl) [(0, .ref cj), (1, .int (nI x)), (2, .int y), (3, .int z)] rfl (fun k X E xo xr xw => ?_)
  refine g_iload_n X dX6_run_0 1 rfl rfl ?_
  refine g_iload_n X dX6_run_1 2 rfl rfl ?_
  refine g_iload_n X dX6_run_2 3 rfl rfl ?_
  refine g_xS (As := [.int (nI x), .int y, .int z]) (rest := []) (wr := [cCJ v cj (a 0) (b 0) (d 0) (j 0) (h 0) (t 0)]) X (b1_X6_checkValues l v hst x y z h1 hx) f_X6_checkValues q_22_9 dX6_run_3 [] [0] rfl rfl (by decide) rfl rfl (Nat.le_of_ble_eq_true rfl) (by decide) (fun r_ w_ hp1 => ?_) (fun E_ w_ hx => by obtain ⟨rfl, rfl⟩ := hx; exact xo (by decide) (by decide) ⟨rfl, rfl⟩)
  exact absurd hp1 id

set_option maxHeartbeats 4000000 in
set_option maxRecDepth 100000 in
theorem b2_X6_run (l : Launch) (v : VV) (hst : l.stackTraces = false) (cj : Nat) (a : Nat → Nat) (b : Nat → Nat) (d : Nat → Nat) (j : Nat → Nat) (h : Nat → Nat) (t : Nat → Nat) (x : Nat) (y : Nat) (z : Int32) (h1 : x < 8) (h2 : y < 8) (hx : bdI z 8) : XI l v yX6_run cX6_run 4 (some .int) ({ frames := 7, cells := 1, slots := 6, locals := 120 }) [.ref cj, .int (nI x), .int (nI y), .int z] [cCJ v cj (a 0) (b 0) (d 0) (j 0) (h 0) (t 0)] (fun _ _ => False) (fun E w_ => E = "java/lang/IllegalArgumentException" ∧ w_ = [cCJ v cj (a 0) (b 0) (d 0) (j 0) (h 0) (t 0)]) 1 6 := by
  refine mx_int hst rfl (by decide) (Nat.le_of_ble_eq_true rfl) [(0, .ref cj), (1, .int (nI x)), (2, .int (nI y)), (3, .int z)] rfl (fun k X E xo xr xw => ?_)
  refine g_iload_n X dX6_run_0 1 rfl rfl ?_
  refine g_iload_n X dX6_run_1 2 rfl rfl ?_
  refine g_iload_n X dX6_run_2 3 rfl rfl ?_
  refine g_xS (As := [.int (nI x), .int (nI y), .int z]) (rest := []) (wr := [cCJ v cj (a 0) (b 0) (d 0) (j 0) (h 0) (t 0)]) X (b2_X6_checkValues l v hst x y z h1 h2 hx) f_X6_checkValues q_22_9 dX6_run_3 [] [0] rfl rfl (by decide) rfl rfl (Nat.le_of_ble_eq_true rfl) (by decide) (fun r_ w_ hp1 => ?_) (fun E_ w_ hx => by obtain ⟨rfl, rfl⟩ := hx; exact xo (by decide) (by decide) ⟨rfl, rfl⟩)
  exact absurd hp1 id

set_option maxHeartbeats 4000000 in
set_option maxRecDepth 100000 in
theorem b0_X6_steps (l : Launch) (v : VV) (hst : l.stackTraces = false) (cj : Nat) (a : Nat → Nat) (b : Nat → Nat) (d : Nat → Nat) (j : Nat → Nat) (h : Nat → Nat) (t : Nat → Nat) (x : Int32) (y : Int32) (z : Int32) (hx : bdI x 8) : XI l v yX6_steps cX6_steps 4 (some .int) ({ frames := 7, cells := 1, slots := 6, locals := 120 }) [.ref cj, .int x, .int y, .int z] [cCJ v cj (a 0) (b 0) (d 0) (j 0) (h 0) (t 0)] (fun _ _ => False) (fun E w_ => E = "java/lang/IllegalArgumentException" ∧ w_ = [cCJ v cj (a 0) (b 0) (d 0) (j 0) (h 0) (t 0)]) 1 6 := by
  refine mx_int hst rfl (by decide) (Nat.le_of_ble_eq_true rfl) [(0, .ref cj), (1, .int x), (2, .int y), (3, .int z)] rfl (fun k X E xo xr xw => ?_)
  refine g_iload_n X dX6_steps_0 1 rfl rfl ?_
  refine g_iload_n X dX6_steps_1 2 rfl rfl ?_
  refine g_iload_n X dX6_steps_2 3 rfl rfl ?_
  refine g_xS (As := [.int x, .int y, .int z]) (rest := []) (wr := [cCJ v cj (a 0) (b 0) (d 0) (j 0) (h 0) (t 0)]) X (b0_X6_checkValues l v hst x y z hx) f_X6_checkValues q_22_9 dX6_steps_3 [] [0] rfl rfl (by decide) rfl rfl (Nat.le_of_ble_eq_true rfl) (by decide) (fun r_ w_ hp1 => ?_) (fun E_ w_ hx => by obtain ⟨rfl, rfl⟩ := hx; exact xo (by decide) (by decide) ⟨rfl, rfl⟩)
  exact absurd hp1 id

set_option maxHeartbeats 4000000 in
set_option maxRecDepth 100000 in
theorem b1_X6_steps (l : Launch) (v : VV) (hst : l.stackTraces = false) (cj : Nat) (a : Nat → Nat) (b : Nat → Nat) (d : Nat → Nat) (j : Nat → Nat) (h : Nat → Nat) (t : Nat → Nat) (x : Nat) (y : Int32) (z : Int32) (h1 : x < 8) (hx : bdI y 8) : XI l v yX6_steps cX6_steps 4 (some .int) ({ frames := 7, cells := 1, slots := 6, locals := 120 }) [.ref cj, .int (nI x), .int y, .int z] [cCJ v cj (a 0) (b 0) (d 0) (j 0) (h 0) (t 0)] (fun _ _ => False) (fun E w_ => E = "java/lang/IllegalArgumentException" ∧ w_ = [cCJ v cj (a 0) (b 0) (d 0) (j 0) (h 0) (t 0)]) 1 6 := by
  refine mx_int hst rfl (by decide) (Nat.le_of_ble_eq_true rfl) [(0, .ref cj), (1, .int (nI x)), (2, .int y), (3, .int z)] rfl (fun k X E xo xr xw => ?_)
  refine g_iload_n X dX6_steps_0 1 rfl rfl ?_
  refine g_iload_n X dX6_steps_1 2 rfl rfl ?_
  refine g_iload_n X dX6_steps_2 3 rfl rfl ?_
  refine g_xS (As := [.int (nI x), .int y, .int z]) (rest := []) (wr := [cCJ v cj (a 0) (b 0) (d 0) (j 0) (h 0) (t 0)]) X (b1_X6_checkValues l v hst x y z h1 hx) f_X6_checkValues q_22_9 dX6_steps_3 [] [0] rfl rfl (by decide) rfl rfl (Nat.le_of_ble_eq_true rfl) (by decide) (fun r_ w_ hp1 => ?_) (fun E_ w_ hx => by obtain ⟨rfl, rfl⟩ := hx; exact xo (by decide) (by decide) ⟨rfl, rfl⟩)
  exact absurd hp1 id

set_option maxHeartbeats 4000000 in
set_option maxRecDepth 100000 in
theorem b2_X6_steps (l : Launch) (v : VV) (hst : l.stackTraces = false) (cj : Nat) (a : Nat → Nat) (b : Nat → Nat) (d : Nat → Nat) (j : Nat → Nat) (h : Nat → Nat) (t : Nat → Nat) (x : Nat) (y : Nat) (z : Int32) (h1 : x < 8) (h2 : y < 8) (hx : bdI z 8) : XI l v yX6_steps cX6_steps 4 (some .int) ({ frames := 7, cells := 1, slots := 6, locals := 120 }) [.ref cj, .int (nI x), .int (nI y), .int z] [cCJ v cj (a 0) (b 0) (d 0) (j 0) (h 0) (t 0)] (fun _ _ => False) (fun E w_ => E = "java/lang/IllegalArgumentException" ∧ w_ = [cCJ v cj (a 0) (b 0) (d 0) (j 0) (h 0) (t 0)]) 1 6 := by
  refine mx_int hst rfl (by decide) (Nat.le_of_ble_eq_true rfl) [(0, .ref cj), (1, .int (nI x)), (2, .int (nI y)), (3, .int z)] rfl (fun k X E xo xr xw => ?_)
  refine g_iload_n X dX6_steps_0 1 rfl rfl ?_
  refine g_iload_n X dX6_steps_1 2 rfl rfl ?_
  refine g_iload_n X dX6_steps_2 3 rfl rfl ?_
  refine g_xS (As := [.int (nI x), .int (nI y), .int z]) (rest := []) (wr := [cCJ v cj (a 0) (b 0) (d 0) (j 0) (h 0) (t 0)]) X (b2_X6_checkValues l v hst x y z h1 h2 hx) f_X6_checkValues q_22_9 dX6_steps_3 [] [0] rfl rfl (by decide) rfl rfl (Nat.le_of_ble_eq_true rfl) (by decide) (fun r_ w_ hp1 => ?_) (fun E_ w_ hx => by obtain ⟨rfl, rfl⟩ := hx; exact xo (by decide) (by decide) ⟨rfl, rfl⟩)
  exact absurd hp1 id

set_option maxHeartbeats 4000000 in
set_option maxRecDepth 100000 in
theorem c_X6_demand (l : Launch) (v : VV) (cj : Nat) (a : Nat → Nat) (b : Nat → Nat) (d : Nat → Nat) (j : Nat → Nat) (h : Nat → Nat) (t : Nat → Nat) (n : Nat) (f : Nat → Nat → Int32) (P : Nat → S9) (stl : Bool) (e : Nat → Int32) (i : Nat) (hW : WF P n) (hR : PgR P n f) (hE : stl = false → OKE P n e) (hi : i < n + 1) : MI l v yX6_demand cX6_demand 4 (some .int) ({ frames := 7, cells := 0, slots := 0, locals := 118 }) [.ref cj, .int (nI i)] [cCJ v cj (a 0) (b 0) (d 0) (j 0) (h 0) (t 0), cPg v a n f, cRu v d (a 0) stl, cEn v d e] (fun r w_ => ∃ stl' e', r = nI (dmV P n i) ∧ (stl' = false → OKE P n e') ∧ w_ = [cCJ v cj (a 0) (b 0) (d 0) (j 0) (h 0) (t 0), cPg v a n f, cRu v d (a 0) stl', cEn v d e']) 0 0 := by
  refine mm_int (by decide) (Nat.le_of_ble_eq_true rfl) [(0, .ref cj), (1, .int (nI i))] rfl (fun k X E => ?_)
  have hn12 := hW.1
  refine g_iload_n X dX6_demand_0 1 rfl rfl ?_
  refine g_aload_n X dX6_demand_1 0 rfl rfl ?_
  refine g_get X cb6 0 q_1_13 dX6_demand_2 0 0 rfl rfl (by decide) rfl rfl ?_
  refine g_getN X cb3 0 0 rfl dX6_demand_5 1 0 rfl rfl (by decide) rfl rfl ?_
  refine g_iconst (x := nI 1) X dX6_demand_8 (by decide +kernel) ?_
  refine g_iaddN X dX6_demand_9 ?_
  refine g_callS (As := [.int (nI i), .int (nI (n + 1))]) (rest := []) (wr := [cCJ v cj (a 0) (b 0) (d 0) (j 0) (h 0) (t 0), cPg v a n f, cRu v d (a 0) stl, cEn v d e]) X (c_X6_checkIndex l v i (n + 1) (by omega) (by omega)) f_X6_checkIndex q_15_15 dX6_demand_10 [] [0, 1, 2, 3] rfl rfl (by decide) rfl rfl (Nat.le_of_ble_eq_true rfl) (by decide) (fun r_ w_ hp1 => ?_)
  subst hp1
  show GG k _ _ [cCJ v cj (a 0) (b 0) (d 0) (j 0) (h 0) (t 0), cPg v a n f, cRu v d (a 0) stl, cEn v d e] _ _ []
  refine g_iconst (x := nI 0) X dX6_demand_13 (by decide +kernel) ?_
  refine g_istore_n (lv' := [(2, .int (nI 0)), (0, .ref cj), (1, .int (nI i))]) X dX6_demand_14 rfl (by decide) rfl ?_
  refine g_iconst (x := nI 0) X dX6_demand_15 (by decide +kernel) ?_
  refine g_istore_n (lv' := [(3, .int (nI 0)), (2, .int (nI 0)), (0, .ref cj), (1, .int (nI i))]) X dX6_demand_16 rfl (by decide) rfl ?_
  have lp17 : ∀ (zN : Nat) (T : Nat) (stl' : Bool) (e' : Nat → Int32) (hT : T ≤ 512) (hE2 : stl' = false → OKE P n e') (zM : zN = 512 - T), GG k 0 0 [cCJ v cj (a 0) (b 0) (d 0) (j 0) (h 0) (t 0), cPg v a n f, cRu v d (a 0) stl', cEn v d e'] [(3, .int (nI T)), (2, .int (nI (ctb (fun t => decide (1000 ≤ EE P n (i * 512 + t))) T))), (0, .ref cj), (1, .int (nI i))] 17 [] := by
    intro zN
    induction zN using Nat.strongRecOn with
    | _ zN zih =>
      have ih17 := zih
      clear zih
      intro T stl' e' hT hE2 zM
      refine g_iload_n X dX6_demand_17 0 rfl rfl ?_
      refine g_sipush (x := nI 512) X dX6_demand_18 (by decide +kernel) ?_
      refine g_icmp_geN (tgt := 48) X dX6_demand_21 (by decide) (by omega) (by omega) (fun c21 => ?_) (fun c21 => ?_)
      · refine g_iload_n X dX6_demand_48 1 rfl rfl ?_
        exact E dX6_demand_49 rfl (rfl) (by decide) (by decide) (⟨_, _, by rw [show T = 512 from by omega]; rfl, hE2, rfl⟩)
      · refine g_aload_n X dX6_demand_24 2 rfl rfl ?_
        refine g_get X cb6 2 q_1_21 dX6_demand_25 0 0 rfl rfl (by decide) rfl rfl ?_
        refine g_iload_n X dX6_demand_28 3 rfl rfl ?_
        refine g_iload_n X dX6_demand_29 0 rfl rfl ?_
        refine g_callS (As := [.int (nI i), .int (nI T)]) (rest := [.ref (d 0)]) (wr := [cCJ v cj (a 0) (b 0) (d 0) (j 0) (h 0) (t 0), cPg v a n f, cRu v d (a 0) stl', cEn v d e']) X (c_X6_placeOf l v i T) f_X6_placeOf q_20_16 dX6_demand_30 [] [0, 1, 2, 3] rfl rfl (by decide) rfl rfl (Nat.le_of_ble_eq_true rfl) (by decide) (fun r_ w_ hp2 => ?_)
        obtain ⟨rfl, rfl⟩ := hp2
        show GG k _ _ [cCJ v cj (a 0) (b 0) (d 0) (j 0) (h 0) (t 0), cPg v a n f, cRu v d (a 0) stl', cEn v d e'] _ _ [.int (nI (i * 512 + T)), .ref (d 0)]
        refine g_callV (As := [.int (nI (i * 512 + T))]) (rest := []) (wr := [cCJ v cj (a 0) (b 0) (d 0) (j 0) (h 0) (t 0)]) X (c_X4_succeedsFrom l v d stl' a n f P e' (i * 512 + T) hW hR (by omega) (hE2)) f_X4_succeedsFrom q_20_17 dX6_demand_33 [2, 3, 1] [0] rfl rfl (by decide) 0 rfl rfl rfl rfl (Nat.le_of_ble_eq_true rfl) (by decide) (fun r_ w_ hp4 => ?_)
        obtain ⟨rfl, e_3, e_3O, rfl⟩ := hp4
        show GG k _ _ [cRu v d (a 0) false, cEn v d e_3, cPg v a n f, cCJ v cj (a 0) (b 0) (d 0) (j 0) (h 0) (t 0)] _ _ [.int (bI (decide (1000 ≤ EE P n (i * 512 + T))))]
        refine g_pick (cs' := [cCJ v cj (a 0) (b 0) (d 0) (j 0) (h 0) (t 0), cPg v a n f, cRu v d (a 0) false, cEn v d e_3]) [3, 2, 0, 1] rfl rfl ?_
        refine g_if_eqB (tgt := 42) X dX6_demand_36 (by decide) (fun c36 => ?_) (fun c36 => ?_)
        · have hct : (ctb (fun t => decide (1000 ≤ EE P n (i * 512 + t))) T) = (ctb (fun t => decide (1000 ≤ EE P n (i * 512 + t))) (T + 1)) := by exact (ctb_f (p := fun t => decide (1000 ≤ EE P n (i * 512 + t))) c36).symm
          refine g_lveq (lv' := [(3, .int (nI T)), (2, .int (nI (ctb (fun t => decide (1000 ≤ EE P n (i * 512 + t))) (T + 1)))), (0, .ref cj), (1, .int (nI i))]) (by rw [hct]) ?_
          refine g_iinc (y := nI (T + 1)) (lv' := [(3, .int (nI (T + 1))), (2, .int (nI (ctb (fun t => decide (1000 ≤ EE P n (i * 512 + t))) (T + 1)))), (0, .ref cj), (1, .int (nI i))]) (j := 0) X dX6_demand_42 rfl (nI_add T 1) (by decide) rfl ?_
          refine g_goto (tgt := 17) X dX6_demand_45 (by decide) ?_
          exact ih17 _ (by omega) (T + 1) false e_3 (by omega) (fun _ => e_3O) rfl
        · refine g_iinc (y := nI ((ctb (fun t => decide (1000 ≤ EE P n (i * 512 + t))) T) + 1)) (lv' := [(2, .int (nI ((ctb (fun t => decide (1000 ≤ EE P n (i * 512 + t))) T) + 1))), (3, .int (nI T)), (0, .ref cj), (1, .int (nI i))]) (j := 1) X dX6_demand_39 rfl (nI_add (ctb (fun t => decide (1000 ≤ EE P n (i * 512 + t))) T) 1) (by decide) rfl ?_
          have hct : (ctb (fun t => decide (1000 ≤ EE P n (i * 512 + t))) T) + 1 = (ctb (fun t => decide (1000 ≤ EE P n (i * 512 + t))) (T + 1)) := by exact (ctb_t (p := fun t => decide (1000 ≤ EE P n (i * 512 + t))) c36).symm
          refine g_lveq (lv' := [(2, .int (nI (ctb (fun t => decide (1000 ≤ EE P n (i * 512 + t))) (T + 1)))), (3, .int (nI T)), (0, .ref cj), (1, .int (nI i))]) (by rw [hct]) ?_
          refine g_iinc (y := nI (T + 1)) (lv' := [(3, .int (nI (T + 1))), (2, .int (nI (ctb (fun t => decide (1000 ≤ EE P n (i * 512 + t))) (T + 1)))), (0, .ref cj), (1, .int (nI i))]) (j := 1) X dX6_demand_42 rfl (nI_add T 1) (by decide) rfl ?_
          refine g_goto (tgt := 17) X dX6_demand_45 (by decide) ?_
          exact ih17 _ (by omega) (T + 1) false e_3 (by omega) (fun _ => e_3O) rfl
  exact lp17 _ 0 stl e (by omega) hE rfl

set_option maxHeartbeats 4000000 in
set_option maxRecDepth 100000 in
theorem b_X6_demand (l : Launch) (v : VV) (hst : l.stackTraces = false) (cj : Nat) (a : Nat → Nat) (b : Nat → Nat) (d : Nat → Nat) (j : Nat → Nat) (h : Nat → Nat) (t : Nat → Nat) (n : Nat) (f : Nat → Nat → Int32) (x : Int32) (hn12 : n ≤ 12) (hx : bdI x (n + 1)) : XI l v yX6_demand cX6_demand 4 (some .int) ({ frames := 7, cells := 1, slots := 6, locals := 120 }) [.ref cj, .int x] [cCJ v cj (a 0) (b 0) (d 0) (j 0) (h 0) (t 0), cPg v a n f] (fun _ _ => False) (fun E w_ => E = "java/lang/IndexOutOfBoundsException" ∧ w_ = [cCJ v cj (a 0) (b 0) (d 0) (j 0) (h 0) (t 0), cPg v a n f]) 1 6 := by
  refine mx_int hst rfl (by decide) (Nat.le_of_ble_eq_true rfl) [(0, .ref cj), (1, .int x)] rfl (fun k X E xo xr xw => ?_)
  refine g_iload_n X dX6_demand_0 1 rfl rfl ?_
  refine g_aload_n X dX6_demand_1 0 rfl rfl ?_
  refine g_get X cb6 0 q_1_13 dX6_demand_2 0 0 rfl rfl (by decide) rfl rfl ?_
  refine g_getN X cb3 0 0 rfl dX6_demand_5 1 0 rfl rfl (by decide) rfl rfl ?_
  refine g_iconst (x := nI 1) X dX6_demand_8 (by decide +kernel) ?_
  refine g_iaddN X dX6_demand_9 ?_
  refine g_xS (As := [.int x, .int (nI (n + 1))]) (rest := []) (wr := [cCJ v cj (a 0) (b 0) (d 0) (j 0) (h 0) (t 0), cPg v a n f]) X (b_X6_checkIndex l v hst x (n + 1) hx (by omega)) f_X6_checkIndex q_15_15 dX6_demand_10 [] [0, 1] rfl rfl (by decide) rfl rfl (Nat.le_of_ble_eq_true rfl) (by decide) (fun r_ w_ hp1 => ?_) (fun E_ w_ hx => by obtain ⟨rfl, rfl⟩ := hx; exact xo (by decide) (by decide) ⟨rfl, rfl⟩)
  exact absurd hp1 id

set_option maxHeartbeats 4000000 in
set_option maxRecDepth 100000 in
theorem c_X6_demands (l : Launch) (v : VV) (cj : Nat) (a : Nat → Nat) (b : Nat → Nat) (d : Nat → Nat) (j : Nat → Nat) (h : Nat → Nat) (t : Nat → Nat) (n : Nat) (f : Nat → Nat → Int32) (P : Nat → S9) (stl : Bool) (e : Nat → Int32) (i : Nat) (x : Nat) (y : Nat) (z : Nat) (hW : WF P n) (hR : PgR P n f) (hE : stl = false → OKE P n e) (hi : i < n + 1) (hx : x < 8) (hy : y < 8) (hz : z < 8) : MI l v yX6_demands cX6_demands 5 (some .boolean) ({ frames := 7, cells := 0, slots := 0, locals := 118 }) [.ref cj, .int (nI i), .int (nI x), .int (nI y), .int (nI z)] [cCJ v cj (a 0) (b 0) (d 0) (j 0) (h 0) (t 0), cPg v a n f, cRu v d (a 0) stl, cEn v d e] (fun r w_ => ∃ e', r = bI (decide (1000 ≤ EE P n (i * 512 + (64 * x + 8 * y + z)))) ∧ OKE P n e' ∧ w_ = [cCJ v cj (a 0) (b 0) (d 0) (j 0) (h 0) (t 0), cPg v a n f, cRu v d (a 0) false, cEn v d e']) 0 0 := by
  refine mm_int (by decide) (Nat.le_of_ble_eq_true rfl) [(0, .ref cj), (1, .int (nI i)), (2, .int (nI x)), (3, .int (nI y)), (4, .int (nI z))] rfl (fun k X E => ?_)
  have hn12 := hW.1
  refine g_iload_n X dX6_demands_0 1 rfl rfl ?_
  refine g_aload_n X dX6_demands_1 0 rfl rfl ?_
  refine g_get X cb6 0 q_1_13 dX6_demands_2 0 0 rfl rfl (by decide) rfl rfl ?_
  refine g_getN X cb3 0 0 rfl dX6_demands_5 1 0 rfl rfl (by decide) rfl rfl ?_
  refine g_iconst (x := nI 1) X dX6_demands_8 (by decide +kernel) ?_
  refine g_iaddN X dX6_demands_9 ?_
  refine g_callS (As := [.int (nI i), .int (nI (n + 1))]) (rest := []) (wr := [cCJ v cj (a 0) (b 0) (d 0) (j 0) (h 0) (t 0), cPg v a n f, cRu v d (a 0) stl, cEn v d e]) X (c_X6_checkIndex l v i (n + 1) (by omega) (by omega)) f_X6_checkIndex q_15_15 dX6_demands_10 [] [0, 1, 2, 3] rfl rfl (by decide) rfl rfl (Nat.le_of_ble_eq_true rfl) (by decide) (fun r_ w_ hp1 => ?_)
  subst hp1
  show GG k _ _ [cCJ v cj (a 0) (b 0) (d 0) (j 0) (h 0) (t 0), cPg v a n f, cRu v d (a 0) stl, cEn v d e] _ _ []
  refine g_iload_n X dX6_demands_13 2 rfl rfl ?_
  refine g_iload_n X dX6_demands_14 3 rfl rfl ?_
  refine g_iload X dX6_demands_15 4 rfl ?_
  refine g_callS (As := [.int (nI x), .int (nI y), .int (nI z)]) (rest := []) (wr := [cCJ v cj (a 0) (b 0) (d 0) (j 0) (h 0) (t 0), cPg v a n f, cRu v d (a 0) stl, cEn v d e]) X (c_X6_checkValues l v x y z (by omega) (by omega) (by omega)) f_X6_checkValues q_22_9 dX6_demands_17 [] [0, 1, 2, 3] rfl rfl (by decide) rfl rfl (Nat.le_of_ble_eq_true rfl) (by decide) (fun r_ w_ hp2 => ?_)
  subst hp2
  show GG k _ _ [cCJ v cj (a 0) (b 0) (d 0) (j 0) (h 0) (t 0), cPg v a n f, cRu v d (a 0) stl, cEn v d e] _ _ []
  refine g_aload_n X dX6_demands_20 0 rfl rfl ?_
  refine g_get X cb6 2 q_1_21 dX6_demands_21 0 0 rfl rfl (by decide) rfl rfl ?_
  refine g_iload_n X dX6_demands_24 1 rfl rfl ?_
  refine g_iload_n X dX6_demands_25 2 rfl rfl ?_
  refine g_iload_n X dX6_demands_26 3 rfl rfl ?_
  refine g_iload X dX6_demands_27 4 rfl ?_
  refine g_callS (As := [.int (nI x), .int (nI y), .int (nI z)]) (rest := [.int (nI i), .ref (d 0)]) (wr := [cCJ v cj (a 0) (b 0) (d 0) (j 0) (h 0) (t 0), cPg v a n f, cRu v d (a 0) stl, cEn v d e]) X (c_X6_tripleOf l v x y z) f_X6_tripleOf q_22_12 dX6_demands_29 [] [0, 1, 2, 3] rfl rfl (by decide) rfl rfl (Nat.le_of_ble_eq_true rfl) (by decide) (fun r_ w_ hp3 => ?_)
  obtain ⟨rfl, rfl⟩ := hp3
  show GG k _ _ [cCJ v cj (a 0) (b 0) (d 0) (j 0) (h 0) (t 0), cPg v a n f, cRu v d (a 0) stl, cEn v d e] _ _ [.int (nI (64 * x + 8 * y + z)), .int (nI i), .ref (d 0)]
  refine g_callS (As := [.int (nI i), .int (nI (64 * x + 8 * y + z))]) (rest := [.ref (d 0)]) (wr := [cCJ v cj (a 0) (b 0) (d 0) (j 0) (h 0) (t 0), cPg v a n f, cRu v d (a 0) stl, cEn v d e]) X (c_X6_placeOf l v i (64 * x + 8 * y + z)) f_X6_placeOf q_20_16 dX6_demands_32 [] [0, 1, 2, 3] rfl rfl (by decide) rfl rfl (Nat.le_of_ble_eq_true rfl) (by decide) (fun r_ w_ hp4 => ?_)
  obtain ⟨rfl, rfl⟩ := hp4
  show GG k _ _ [cCJ v cj (a 0) (b 0) (d 0) (j 0) (h 0) (t 0), cPg v a n f, cRu v d (a 0) stl, cEn v d e] _ _ [.int (nI (i * 512 + (64 * x + 8 * y + z))), .ref (d 0)]
  refine g_callV (As := [.int (nI (i * 512 + (64 * x + 8 * y + z)))]) (rest := []) (wr := [cCJ v cj (a 0) (b 0) (d 0) (j 0) (h 0) (t 0)]) X (c_X4_succeedsFrom l v d stl a n f P e (i * 512 + (64 * x + 8 * y + z)) hW hR (by omega) (hE)) f_X4_succeedsFrom q_20_17 dX6_demands_35 [2, 3, 1] [0] rfl rfl (by decide) 0 rfl rfl rfl rfl (Nat.le_of_ble_eq_true rfl) (by decide) (fun r_ w_ hp6 => ?_)
  obtain ⟨rfl, e_5, e_5O, rfl⟩ := hp6
  show GG k _ _ [cRu v d (a 0) false, cEn v d e_5, cPg v a n f, cCJ v cj (a 0) (b 0) (d 0) (j 0) (h 0) (t 0)] _ _ [.int (bI (decide (1000 ≤ EE P n (i * 512 + (64 * x + 8 * y + z)))))]
  refine g_pick (cs' := [cCJ v cj (a 0) (b 0) (d 0) (j 0) (h 0) (t 0), cPg v a n f, cRu v d (a 0) false, cEn v d e_5]) [3, 2, 0, 1] rfl rfl ?_
  exact E dX6_demands_38 rfl (narZ_b _) (by decide) (by decide) (⟨_, rfl, e_5O, rfl⟩)

set_option maxHeartbeats 4000000 in
set_option maxRecDepth 100000 in
theorem b_X6_demands (l : Launch) (v : VV) (hst : l.stackTraces = false) (cj : Nat) (a : Nat → Nat) (b : Nat → Nat) (d : Nat → Nat) (j : Nat → Nat) (h : Nat → Nat) (t : Nat → Nat) (n : Nat) (f : Nat → Nat → Int32) (w : Int32) (x : Int32) (y : Int32) (z : Int32) (hn12 : n ≤ 12) (hx : bdI w (n + 1)) : XI l v yX6_demands cX6_demands 5 (some .boolean) ({ frames := 7, cells := 1, slots := 6, locals := 120 }) [.ref cj, .int w, .int x, .int y, .int z] [cCJ v cj (a 0) (b 0) (d 0) (j 0) (h 0) (t 0), cPg v a n f] (fun _ _ => False) (fun E w_ => E = "java/lang/IndexOutOfBoundsException" ∧ w_ = [cCJ v cj (a 0) (b 0) (d 0) (j 0) (h 0) (t 0), cPg v a n f]) 1 6 := by
  refine mx_int hst rfl (by decide) (Nat.le_of_ble_eq_true rfl) [(0, .ref cj), (1, .int w), (2, .int x), (3, .int y), (4, .int z)] rfl (fun k X E xo xr xw => ?_)
  refine g_iload_n X dX6_demands_0 1 rfl rfl ?_
  refine g_aload_n X dX6_demands_1 0 rfl rfl ?_
  refine g_get X cb6 0 q_1_13 dX6_demands_2 0 0 rfl rfl (by decide) rfl rfl ?_
  refine g_getN X cb3 0 0 rfl dX6_demands_5 1 0 rfl rfl (by decide) rfl rfl ?_
  refine g_iconst (x := nI 1) X dX6_demands_8 (by decide +kernel) ?_
  refine g_iaddN X dX6_demands_9 ?_
  refine g_xS (As := [.int w, .int (nI (n + 1))]) (rest := []) (wr := [cCJ v cj (a 0) (b 0) (d 0) (j 0) (h 0) (t 0), cPg v a n f]) X (b_X6_checkIndex l v hst w (n + 1) hx (by omega)) f_X6_checkIndex q_15_15 dX6_demands_10 [] [0, 1] rfl rfl (by decide) rfl rfl (Nat.le_of_ble_eq_true rfl) (by decide) (fun r_ w_ hp1 => ?_) (fun E_ w_ hx => by obtain ⟨rfl, rfl⟩ := hx; exact xo (by decide) (by decide) ⟨rfl, rfl⟩)
  exact absurd hp1 id

set_option maxHeartbeats 4000000 in
set_option maxRecDepth 100000 in
theorem b0_X6_demands (l : Launch) (v : VV) (hst : l.stackTraces = false) (cj : Nat) (a : Nat → Nat) (b : Nat → Nat) (d : Nat → Nat) (j : Nat → Nat) (h : Nat → Nat) (t : Nat → Nat) (n : Nat) (f : Nat → Nat → Int32) (i : Nat) (x : Int32) (y : Int32) (z : Int32) (hn12 : n ≤ 12) (hi : i < n + 1) (hx : bdI x 8) : XI l v yX6_demands cX6_demands 5 (some .boolean) ({ frames := 7, cells := 1, slots := 6, locals := 120 }) [.ref cj, .int (nI i), .int x, .int y, .int z] [cCJ v cj (a 0) (b 0) (d 0) (j 0) (h 0) (t 0), cPg v a n f] (fun _ _ => False) (fun E w_ => E = "java/lang/IllegalArgumentException" ∧ w_ = [cCJ v cj (a 0) (b 0) (d 0) (j 0) (h 0) (t 0), cPg v a n f]) 1 6 := by
  refine mx_int hst rfl (by decide) (Nat.le_of_ble_eq_true rfl) [(0, .ref cj), (1, .int (nI i)), (2, .int x), (3, .int y), (4, .int z)] rfl (fun k X E xo xr xw => ?_)
  refine g_iload_n X dX6_demands_0 1 rfl rfl ?_
  refine g_aload_n X dX6_demands_1 0 rfl rfl ?_
  refine g_get X cb6 0 q_1_13 dX6_demands_2 0 0 rfl rfl (by decide) rfl rfl ?_
  refine g_getN X cb3 0 0 rfl dX6_demands_5 1 0 rfl rfl (by decide) rfl rfl ?_
  refine g_iconst (x := nI 1) X dX6_demands_8 (by decide +kernel) ?_
  refine g_iaddN X dX6_demands_9 ?_
  refine g_callS (As := [.int (nI i), .int (nI (n + 1))]) (rest := []) (wr := [cCJ v cj (a 0) (b 0) (d 0) (j 0) (h 0) (t 0), cPg v a n f]) X (c_X6_checkIndex l v i (n + 1) (by omega) (by omega)) f_X6_checkIndex q_15_15 dX6_demands_10 [] [0, 1] rfl rfl (by decide) rfl rfl (Nat.le_of_ble_eq_true rfl) (by decide) (fun r_ w_ hp1 => ?_)
  subst hp1
  show GG k _ _ [cCJ v cj (a 0) (b 0) (d 0) (j 0) (h 0) (t 0), cPg v a n f] _ _ []
  refine g_iload_n X dX6_demands_13 2 rfl rfl ?_
  refine g_iload_n X dX6_demands_14 3 rfl rfl ?_
  refine g_iload X dX6_demands_15 4 rfl ?_
  refine g_xS (As := [.int x, .int y, .int z]) (rest := []) (wr := [cCJ v cj (a 0) (b 0) (d 0) (j 0) (h 0) (t 0), cPg v a n f]) X (b0_X6_checkValues l v hst x y z hx) f_X6_checkValues q_22_9 dX6_demands_17 [] [0, 1] rfl rfl (by decide) rfl rfl (Nat.le_of_ble_eq_true rfl) (by decide) (fun r_ w_ hp2 => ?_) (fun E_ w_ hx => by obtain ⟨rfl, rfl⟩ := hx; exact xo (by decide) (by decide) ⟨rfl, rfl⟩)
  exact absurd hp2 id

set_option maxHeartbeats 4000000 in
set_option maxRecDepth 100000 in
theorem b1_X6_demands (l : Launch) (v : VV) (hst : l.stackTraces = false) (cj : Nat) (a : Nat → Nat) (b : Nat → Nat) (d : Nat → Nat) (j : Nat → Nat) (h : Nat → Nat) (t : Nat → Nat) (n : Nat) (f : Nat → Nat → Int32) (i : Nat) (x : Nat) (y : Int32) (z : Int32) (hn12 : n ≤ 12) (hi : i < n + 1) (h1 : x < 8) (hx : bdI y 8) : XI l v yX6_demands cX6_demands 5 (some .boolean) ({ frames := 7, cells := 1, slots := 6, locals := 120 }) [.ref cj, .int (nI i), .int (nI x), .int y, .int z] [cCJ v cj (a 0) (b 0) (d 0) (j 0) (h 0) (t 0), cPg v a n f] (fun _ _ => False) (fun E w_ => E = "java/lang/IllegalArgumentException" ∧ w_ = [cCJ v cj (a 0) (b 0) (d 0) (j 0) (h 0) (t 0), cPg v a n f]) 1 6 := by
  refine mx_int hst rfl (by decide) (Nat.le_of_ble_eq_true rfl) [(0, .ref cj), (1, .int (nI i)), (2, .int (nI x)), (3, .int y), (4, .int z)] rfl (fun k X E xo xr xw => ?_)
  refine g_iload_n X dX6_demands_0 1 rfl rfl ?_
  refine g_aload_n X dX6_demands_1 0 rfl rfl ?_
  refine g_get X cb6 0 q_1_13 dX6_demands_2 0 0 rfl rfl (by decide) rfl rfl ?_
  refine g_getN X cb3 0 0 rfl dX6_demands_5 1 0 rfl rfl (by decide) rfl rfl ?_
  refine g_iconst (x := nI 1) X dX6_demands_8 (by decide +kernel) ?_
  refine g_iaddN X dX6_demands_9 ?_
  refine g_callS (As := [.int (nI i), .int (nI (n + 1))]) (rest := []) (wr := [cCJ v cj (a 0) (b 0) (d 0) (j 0) (h 0) (t 0), cPg v a n f]) X (c_X6_checkIndex l v i (n + 1) (by omega) (by omega)) f_X6_checkIndex q_15_15 dX6_demands_10 [] [0, 1] rfl rfl (by decide) rfl rfl (Nat.le_of_ble_eq_true rfl) (by decide) (fun r_ w_ hp1 => ?_)
  subst hp1
  show GG k _ _ [cCJ v cj (a 0) (b 0) (d 0) (j 0) (h 0) (t 0), cPg v a n f] _ _ []
  refine g_iload_n X dX6_demands_13 2 rfl rfl ?_
  refine g_iload_n X dX6_demands_14 3 rfl rfl ?_
  refine g_iload X dX6_demands_15 4 rfl ?_
  refine g_xS (As := [.int (nI x), .int y, .int z]) (rest := []) (wr := [cCJ v cj (a 0) (b 0) (d 0) (j 0) (h 0) (t 0), cPg v a n f]) X (b1_X6_checkValues l v hst x y z h1 hx) f_X6_checkValues q_22_9 dX6_demands_17 [] [0, 1] rfl rfl (by decide) rfl rfl (Nat.le_of_ble_eq_true rfl) (by decide) (fun r_ w_ hp2 => ?_) (fun E_ w_ hx => by obtain ⟨rfl, rfl⟩ := hx; exact xo (by decide) (by decide) ⟨rfl, rfl⟩)
  exact absurd hp2 id

set_option maxHeartbeats 4000000 in
set_option maxRecDepth 100000 in
theorem b2_X6_demands (l : Launch) (v : VV) (hst : l.stackTraces = false) (cj : Nat) (a : Nat → Nat) (b : Nat → Nat) (d : Nat → Nat) (j : Nat → Nat) (h : Nat → Nat) (t : Nat → Nat) (n : Nat) (f : Nat → Nat → Int32) (i : Nat) (x : Nat) (y : Nat) (z : Int32) (hn12 : n ≤ 12) (hi : i < n + 1) (h1 : x < 8) (h2 : y < 8) (hx : bdI z 8) : XI l v yX6_demands cX6_demands 5 (some .boolean) ({ frames := 7, cells := 1, slots := 6, locals := 120 }) [.ref cj, .int (nI i), .int (nI x), .int (nI y), .int z] [cCJ v cj (a 0) (b 0) (d 0) (j 0) (h 0) (t 0), cPg v a n f] (fun _ _ => False) (fun E w_ => E = "java/lang/IllegalArgumentException" ∧ w_ = [cCJ v cj (a 0) (b 0) (d 0) (j 0) (h 0) (t 0), cPg v a n f]) 1 6 := by
  refine mx_int hst rfl (by decide) (Nat.le_of_ble_eq_true rfl) [(0, .ref cj), (1, .int (nI i)), (2, .int (nI x)), (3, .int (nI y)), (4, .int z)] rfl (fun k X E xo xr xw => ?_)
  refine g_iload_n X dX6_demands_0 1 rfl rfl ?_
  refine g_aload_n X dX6_demands_1 0 rfl rfl ?_
  refine g_get X cb6 0 q_1_13 dX6_demands_2 0 0 rfl rfl (by decide) rfl rfl ?_
  refine g_getN X cb3 0 0 rfl dX6_demands_5 1 0 rfl rfl (by decide) rfl rfl ?_
  refine g_iconst (x := nI 1) X dX6_demands_8 (by decide +kernel) ?_
  refine g_iaddN X dX6_demands_9 ?_
  refine g_callS (As := [.int (nI i), .int (nI (n + 1))]) (rest := []) (wr := [cCJ v cj (a 0) (b 0) (d 0) (j 0) (h 0) (t 0), cPg v a n f]) X (c_X6_checkIndex l v i (n + 1) (by omega) (by omega)) f_X6_checkIndex q_15_15 dX6_demands_10 [] [0, 1] rfl rfl (by decide) rfl rfl (Nat.le_of_ble_eq_true rfl) (by decide) (fun r_ w_ hp1 => ?_)
  subst hp1
  show GG k _ _ [cCJ v cj (a 0) (b 0) (d 0) (j 0) (h 0) (t 0), cPg v a n f] _ _ []
  refine g_iload_n X dX6_demands_13 2 rfl rfl ?_
  refine g_iload_n X dX6_demands_14 3 rfl rfl ?_
  refine g_iload X dX6_demands_15 4 rfl ?_
  refine g_xS (As := [.int (nI x), .int (nI y), .int z]) (rest := []) (wr := [cCJ v cj (a 0) (b 0) (d 0) (j 0) (h 0) (t 0), cPg v a n f]) X (b2_X6_checkValues l v hst x y z h1 h2 hx) f_X6_checkValues q_22_9 dX6_demands_17 [] [0, 1] rfl rfl (by decide) rfl rfl (Nat.le_of_ble_eq_true rfl) (by decide) (fun r_ w_ hp2 => ?_) (fun E_ w_ hx => by obtain ⟨rfl, rfl⟩ := hx; exact xo (by decide) (by decide) ⟨rfl, rfl⟩)
  exact absurd hp2 id


