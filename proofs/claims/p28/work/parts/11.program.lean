/-! ## ClaimJudge's own small functions, Program -/
set_option maxHeartbeats 4000000 in
set_option maxRecDepth 100000 in
theorem c_X6_valueOf (l : Launch) (v : VV) (t : Nat) (w : Nat) (ht : t < 512) (hw : w < 3) : MI l v yX6_valueOf cX6_valueOf 2 (some .int) ({ frames := 0, cells := 0, slots := 0, locals := 0 }) [.int (nI t), .int (nI w)] [] (fun r w_ => r = nI (val t w) ∧ w_ = []) 0 0 := by
  refine mm_int (by decide) (Nat.le_of_ble_eq_true rfl) [(0, .int (nI t)), (1, .int (nI w))] rfl (fun k X E => ?_)
  refine g_iload_n X dX6_valueOf_0 0 rfl rfl ?_
  refine g_bipush (x := nI 6) X dX6_valueOf_1 (by decide +kernel) ?_
  refine g_iconst (x := nI 3) X dX6_valueOf_3 (by decide +kernel) ?_
  refine g_iload_n X dX6_valueOf_4 1 rfl rfl ?_
  refine g_imulN X dX6_valueOf_5 ?_
  refine g_isubN X dX6_valueOf_6 (by omega) ?_
  refine g_ishrN X dX6_valueOf_7 (by omega) (by omega) ?_
  refine g_bipush (x := nI 7) X dX6_valueOf_8 (by decide +kernel) ?_
  refine g_iandN X dX6_valueOf_10 3 (by decide +kernel) (Nat.lt_of_le_of_lt (Nat.div_le_self _ _) (by omega)) ?_
  exact E dX6_valueOf_11 rfl (rfl) (by decide) (by decide) (⟨rfl, rfl⟩)

set_option maxHeartbeats 4000000 in
set_option maxRecDepth 100000 in
theorem c_X6_withValue (l : Launch) (v : VV) (t : Nat) (w : Nat) (x : Nat) (ht : t < 512) (hw : w < 3) (hx : x < 8) : MI l v yX6_withValue cX6_withValue 4 (some .int) ({ frames := 0, cells := 0, slots := 0, locals := 0 }) [.int (nI t), .int (nI w), .int (nI x)] [] (fun r w_ => r = nI (wv t w x) ∧ w_ = []) 0 0 := by
  refine mm_int (by decide) (Nat.le_of_ble_eq_true rfl) [(0, .int (nI t)), (1, .int (nI w)), (2, .int (nI x))] rfl (fun k X E => ?_)
  refine g_bipush (x := nI 6) X dX6_withValue_0 (by decide +kernel) ?_
  refine g_iconst (x := nI 3) X dX6_withValue_2 (by decide +kernel) ?_
  refine g_iload_n X dX6_withValue_3 1 rfl rfl ?_
  refine g_imulN X dX6_withValue_4 ?_
  refine g_isubN X dX6_withValue_5 (by omega) ?_
  refine g_istore_n (lv' := [(3, .int (nI (6 - (3 * w)))), (0, .int (nI t)), (1, .int (nI w)), (2, .int (nI x))]) X dX6_withValue_6 rfl (by decide) rfl ?_
  refine g_iload_n X dX6_withValue_7 1 rfl rfl ?_
  refine g_bipush (x := nI 7) X dX6_withValue_8 (by decide +kernel) ?_
  refine g_iload_n X dX6_withValue_10 0 rfl rfl ?_
  refine g_ishl X dX6_withValue_11 ?_
  refine g_iconst (x := zI (-1)) X dX6_withValue_12 (by decide +kernel) ?_
  refine g_ixor X dX6_withValue_13 ?_
  refine g_iand X dX6_withValue_14 ?_
  refine g_iload_n X dX6_withValue_15 3 rfl rfl ?_
  refine g_iload_n X dX6_withValue_16 0 rfl rfl ?_
  refine g_ishl X dX6_withValue_17 ?_
  refine g_ior X dX6_withValue_18 ?_
  exact E dX6_withValue_19 rfl (rfl) (by decide) (by decide) (⟨wv_bits t ht w hw x hx, rfl⟩)

set_option maxHeartbeats 4000000 in
set_option maxRecDepth 100000 in
theorem c_X6_placeOf (l : Launch) (v : VV) (i : Nat) (t : Nat) : MI l v yX6_placeOf cX6_placeOf 2 (some .int) ({ frames := 0, cells := 0, slots := 0, locals := 0 }) [.int (nI i), .int (nI t)] [] (fun r w_ => r = nI (i * 512 + t) ∧ w_ = []) 0 0 := by
  refine mm_int (by decide) (Nat.le_of_ble_eq_true rfl) [(0, .int (nI i)), (1, .int (nI t))] rfl (fun k X E => ?_)
  refine g_iload_n X dX6_placeOf_0 0 rfl rfl ?_
  refine g_sipush (x := nI 512) X dX6_placeOf_1 (by decide +kernel) ?_
  refine g_imulN X dX6_placeOf_4 ?_
  refine g_iload_n X dX6_placeOf_5 1 rfl rfl ?_
  refine g_iaddN X dX6_placeOf_6 ?_
  exact E dX6_placeOf_7 rfl (rfl) (by decide) (by decide) (⟨rfl, rfl⟩)

set_option maxHeartbeats 4000000 in
set_option maxRecDepth 100000 in
theorem c_X6_statementAt (l : Launch) (v : VV) (q : Nat) (hq : q < 2147483648) : MI l v yX6_statementAt cX6_statementAt 1 (some .int) ({ frames := 0, cells := 0, slots := 0, locals := 0 }) [.int (nI q)] [] (fun r w_ => r = nI (q / 512) ∧ w_ = []) 0 0 := by
  refine mm_int (by decide) (Nat.le_of_ble_eq_true rfl) [(0, .int (nI q))] rfl (fun k X E => ?_)
  refine g_iload_n X dX6_statementAt_0 0 rfl rfl ?_
  refine g_sipush (x := nI 512) X dX6_statementAt_1 (by decide +kernel) ?_
  refine g_idivN X dX6_statementAt_4 (by omega) (by omega) (by omega) ?_
  exact E dX6_statementAt_5 rfl (rfl) (by decide) (by decide) (⟨rfl, rfl⟩)

set_option maxHeartbeats 4000000 in
set_option maxRecDepth 100000 in
theorem c_X6_tripleAt (l : Launch) (v : VV) (q : Nat) (hq : q < 2147483648) : MI l v yX6_tripleAt cX6_tripleAt 1 (some .int) ({ frames := 0, cells := 0, slots := 0, locals := 0 }) [.int (nI q)] [] (fun r w_ => r = nI (q % 512) ∧ w_ = []) 0 0 := by
  refine mm_int (by decide) (Nat.le_of_ble_eq_true rfl) [(0, .int (nI q))] rfl (fun k X E => ?_)
  refine g_iload_n X dX6_tripleAt_0 0 rfl rfl ?_
  refine g_sipush (x := nI 512) X dX6_tripleAt_1 (by decide +kernel) ?_
  refine g_iremN X dX6_tripleAt_4 (by omega) (by omega) (by omega) ?_
  exact E dX6_tripleAt_5 rfl (rfl) (by decide) (by decide) (⟨rfl, rfl⟩)

set_option maxHeartbeats 4000000 in
set_option maxRecDepth 100000 in
theorem c_X6_tripleOf (l : Launch) (v : VV) (x : Nat) (y : Nat) (z : Nat) : MI l v yX6_tripleOf cX6_tripleOf 3 (some .int) ({ frames := 0, cells := 0, slots := 0, locals := 0 }) [.int (nI x), .int (nI y), .int (nI z)] [] (fun r w_ => r = nI (64 * x + 8 * y + z) ∧ w_ = []) 0 0 := by
  refine mm_int (by decide) (Nat.le_of_ble_eq_true rfl) [(0, .int (nI x)), (1, .int (nI y)), (2, .int (nI z))] rfl (fun k X E => ?_)
  refine g_bipush (x := nI 64) X dX6_tripleOf_0 (by decide +kernel) ?_
  refine g_iload_n X dX6_tripleOf_2 0 rfl rfl ?_
  refine g_imulN X dX6_tripleOf_3 ?_
  refine g_bipush (x := nI 8) X dX6_tripleOf_4 (by decide +kernel) ?_
  refine g_iload_n X dX6_tripleOf_6 1 rfl rfl ?_
  refine g_imulN X dX6_tripleOf_7 ?_
  refine g_iaddN X dX6_tripleOf_8 ?_
  refine g_iload_n X dX6_tripleOf_9 2 rfl rfl ?_
  refine g_iaddN X dX6_tripleOf_10 ?_
  exact E dX6_tripleOf_11 rfl (rfl) (by decide) (by decide) (⟨rfl, rfl⟩)


