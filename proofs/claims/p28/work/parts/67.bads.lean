/-! ## ClaimJudge: where indices throw -/
set_option maxHeartbeats 4000000 in
set_option maxRecDepth 100000 in
theorem b_X6_verdict (l : Launch) (v : VV) (hst : l.stackTraces = false) (cj : Nat) (a : Nat → Nat) (b : Nat → Nat) (d : Nat → Nat) (j : Nat → Nat) (h : Nat → Nat) (t : Nat → Nat) (n : Nat) (f : Nat → Nat → Int32) (x : Int32) (hn12 : n ≤ 12) (hx : bdI x n) : XI l v yX6_verdict cX6_verdict 2 (some .int) ({ frames := 7, cells := 1, slots := 6, locals := 120 }) [.ref cj, .int x] [cCJ v cj (a 0) (b 0) (d 0) (j 0) (h 0) (t 0), cPg v a n f] (fun _ _ => False) (fun E w_ => E = "java/lang/IndexOutOfBoundsException" ∧ w_ = [cCJ v cj (a 0) (b 0) (d 0) (j 0) (h 0) (t 0), cPg v a n f]) 1 6 := by
  refine mx_int hst rfl (by decide) (Nat.le_of_ble_eq_true rfl) [(0, .ref cj), (1, .int x)] rfl (fun k X E xo xr xw => ?_)
  refine g_iload_n X dX6_verdict_0 1 rfl rfl ?_
  refine g_aload_n X dX6_verdict_1 0 rfl rfl ?_
  refine g_get X cb6 0 q_1_13 dX6_verdict_2 0 0 rfl rfl (by decide) rfl rfl ?_
  refine g_getN X cb3 0 0 rfl dX6_verdict_5 1 0 rfl rfl (by decide) rfl rfl ?_
  refine g_xS (As := [.int x, .int (nI n)]) (rest := []) (wr := [cCJ v cj (a 0) (b 0) (d 0) (j 0) (h 0) (t 0), cPg v a n f]) X (b_X6_checkIndex l v hst x n hx (by omega)) f_X6_checkIndex q_15_15 dX6_verdict_8 [] [0, 1] rfl rfl (by decide) rfl rfl (Nat.le_of_ble_eq_true rfl) (by decide) (fun r_ w_ hp1 => ?_) (fun E_ w_ hx => by obtain ⟨rfl, rfl⟩ := hx; exact xo (by decide) (by decide) ⟨rfl, rfl⟩)
  exact absurd hp1 id

set_option maxHeartbeats 4000000 in
set_option maxRecDepth 100000 in
theorem b_X6_example (l : Launch) (v : VV) (hst : l.stackTraces = false) (cj : Nat) (a : Nat → Nat) (b : Nat → Nat) (d : Nat → Nat) (j : Nat → Nat) (h : Nat → Nat) (t : Nat → Nat) (n : Nat) (f : Nat → Nat → Int32) (x : Int32) (hn12 : n ≤ 12) (hx : bdI x n) : XI l v yX6_example cX6_example 2 (some .int) ({ frames := 7, cells := 1, slots := 6, locals := 120 }) [.ref cj, .int x] [cCJ v cj (a 0) (b 0) (d 0) (j 0) (h 0) (t 0), cPg v a n f] (fun _ _ => False) (fun E w_ => E = "java/lang/IndexOutOfBoundsException" ∧ w_ = [cCJ v cj (a 0) (b 0) (d 0) (j 0) (h 0) (t 0), cPg v a n f]) 1 6 := by
  refine mx_int hst rfl (by decide) (Nat.le_of_ble_eq_true rfl) [(0, .ref cj), (1, .int x)] rfl (fun k X E xo xr xw => ?_)
  refine g_iload_n X dX6_example_0 1 rfl rfl ?_
  refine g_aload_n X dX6_example_1 0 rfl rfl ?_
  refine g_get X cb6 0 q_1_13 dX6_example_2 0 0 rfl rfl (by decide) rfl rfl ?_
  refine g_getN X cb3 0 0 rfl dX6_example_5 1 0 rfl rfl (by decide) rfl rfl ?_
  refine g_xS (As := [.int x, .int (nI n)]) (rest := []) (wr := [cCJ v cj (a 0) (b 0) (d 0) (j 0) (h 0) (t 0), cPg v a n f]) X (b_X6_checkIndex l v hst x n hx (by omega)) f_X6_checkIndex q_15_15 dX6_example_8 [] [0, 1] rfl rfl (by decide) rfl rfl (Nat.le_of_ble_eq_true rfl) (by decide) (fun r_ w_ hp1 => ?_) (fun E_ w_ hx => by obtain ⟨rfl, rfl⟩ := hx; exact xo (by decide) (by decide) ⟨rfl, rfl⟩)
  exact absurd hp1 id

set_option maxHeartbeats 4000000 in
set_option maxRecDepth 100000 in
theorem b_X6_least (l : Launch) (v : VV) (hst : l.stackTraces = false) (cj : Nat) (a : Nat → Nat) (b : Nat → Nat) (d : Nat → Nat) (j : Nat → Nat) (h : Nat → Nat) (t : Nat → Nat) (n : Nat) (f : Nat → Nat → Int32) (x : Int32) (y : Int32) (hn12 : n ≤ 12) (hx : bdI x (n + 1)) : XI l v yX6_least cX6_least 3 (some .int) ({ frames := 7, cells := 1, slots := 6, locals := 120 }) [.ref cj, .int x, .int y] [cCJ v cj (a 0) (b 0) (d 0) (j 0) (h 0) (t 0), cPg v a n f] (fun _ _ => False) (fun E w_ => E = "java/lang/IndexOutOfBoundsException" ∧ w_ = [cCJ v cj (a 0) (b 0) (d 0) (j 0) (h 0) (t 0), cPg v a n f]) 1 6 := by
  refine mx_int hst rfl (by decide) (Nat.le_of_ble_eq_true rfl) [(0, .ref cj), (1, .int x), (2, .int y)] rfl (fun k X E xo xr xw => ?_)
  refine g_iload_n X dX6_least_0 1 rfl rfl ?_
  refine g_aload_n X dX6_least_1 0 rfl rfl ?_
  refine g_get X cb6 0 q_1_13 dX6_least_2 0 0 rfl rfl (by decide) rfl rfl ?_
  refine g_getN X cb3 0 0 rfl dX6_least_5 1 0 rfl rfl (by decide) rfl rfl ?_
  refine g_iconst (x := nI 1) X dX6_least_8 (by decide +kernel) ?_
  refine g_iaddN X dX6_least_9 ?_
  refine g_xS (As := [.int x, .int (nI (n + 1))]) (rest := []) (wr := [cCJ v cj (a 0) (b 0) (d 0) (j 0) (h 0) (t 0), cPg v a n f]) X (b_X6_checkIndex l v hst x (n + 1) hx (by omega)) f_X6_checkIndex q_15_15 dX6_least_10 [] [0, 1] rfl rfl (by decide) rfl rfl (Nat.le_of_ble_eq_true rfl) (by decide) (fun r_ w_ hp1 => ?_) (fun E_ w_ hx => by obtain ⟨rfl, rfl⟩ := hx; exact xo (by decide) (by decide) ⟨rfl, rfl⟩)
  exact absurd hp1 id

set_option maxHeartbeats 4000000 in
set_option maxRecDepth 100000 in
theorem b1_X6_least (l : Launch) (v : VV) (hst : l.stackTraces = false) (cj : Nat) (a : Nat → Nat) (b : Nat → Nat) (d : Nat → Nat) (j : Nat → Nat) (h : Nat → Nat) (t : Nat → Nat) (n : Nat) (f : Nat → Nat → Int32) (i : Nat) (y : Int32) (hn12 : n ≤ 12) (hi9 : i < n + 1) (hx : bdI y 3) : XI l v yX6_least cX6_least 3 (some .int) ({ frames := 7, cells := 1, slots := 6, locals := 120 }) [.ref cj, .int (nI i), .int y] [cCJ v cj (a 0) (b 0) (d 0) (j 0) (h 0) (t 0), cPg v a n f] (fun _ _ => False) (fun E w_ => E = "java/lang/IndexOutOfBoundsException" ∧ w_ = [cCJ v cj (a 0) (b 0) (d 0) (j 0) (h 0) (t 0), cPg v a n f]) 1 6 := by
  refine mx_int hst rfl (by decide) (Nat.le_of_ble_eq_true rfl) [(0, .ref cj), (1, .int (nI i)), (2, .int y)] rfl (fun k X E xo xr xw => ?_)
  refine g_iload_n X dX6_least_0 1 rfl rfl ?_
  refine g_aload_n X dX6_least_1 0 rfl rfl ?_
  refine g_get X cb6 0 q_1_13 dX6_least_2 0 0 rfl rfl (by decide) rfl rfl ?_
  refine g_getN X cb3 0 0 rfl dX6_least_5 1 0 rfl rfl (by decide) rfl rfl ?_
  refine g_iconst (x := nI 1) X dX6_least_8 (by decide +kernel) ?_
  refine g_iaddN X dX6_least_9 ?_
  refine g_callS (As := [.int (nI i), .int (nI (n + 1))]) (rest := []) (wr := [cCJ v cj (a 0) (b 0) (d 0) (j 0) (h 0) (t 0), cPg v a n f]) X (c_X6_checkIndex l v i (n + 1) (by omega) (by omega)) f_X6_checkIndex q_15_15 dX6_least_10 [] [0, 1] rfl rfl (by decide) rfl rfl (Nat.le_of_ble_eq_true rfl) (by decide) (fun r_ w_ hp1 => ?_)
  subst hp1
  show GG k _ _ [cCJ v cj (a 0) (b 0) (d 0) (j 0) (h 0) (t 0), cPg v a n f] _ _ []
  refine g_iload_n X dX6_least_13 2 rfl rfl ?_
  refine g_iconst (x := nI 3) X dX6_least_14 (by decide +kernel) ?_
  refine g_xS (As := [.int y, .int (nI 3)]) (rest := []) (wr := [cCJ v cj (a 0) (b 0) (d 0) (j 0) (h 0) (t 0), cPg v a n f]) X (b_X6_checkIndex l v hst y 3 hx (by omega)) f_X6_checkIndex q_15_15 dX6_least_15 [] [0, 1] rfl rfl (by decide) rfl rfl (Nat.le_of_ble_eq_true rfl) (by decide) (fun r_ w_ hp2 => ?_) (fun E_ w_ hx => by obtain ⟨rfl, rfl⟩ := hx; exact xo (by decide) (by decide) ⟨rfl, rfl⟩)
  exact absurd hp2 id

set_option maxHeartbeats 4000000 in
set_option maxRecDepth 100000 in
theorem b_X6_greatest (l : Launch) (v : VV) (hst : l.stackTraces = false) (cj : Nat) (a : Nat → Nat) (b : Nat → Nat) (d : Nat → Nat) (j : Nat → Nat) (h : Nat → Nat) (t : Nat → Nat) (n : Nat) (f : Nat → Nat → Int32) (x : Int32) (y : Int32) (hn12 : n ≤ 12) (hx : bdI x (n + 1)) : XI l v yX6_greatest cX6_greatest 3 (some .int) ({ frames := 7, cells := 1, slots := 6, locals := 120 }) [.ref cj, .int x, .int y] [cCJ v cj (a 0) (b 0) (d 0) (j 0) (h 0) (t 0), cPg v a n f] (fun _ _ => False) (fun E w_ => E = "java/lang/IndexOutOfBoundsException" ∧ w_ = [cCJ v cj (a 0) (b 0) (d 0) (j 0) (h 0) (t 0), cPg v a n f]) 1 6 := by
  refine mx_int hst rfl (by decide) (Nat.le_of_ble_eq_true rfl) [(0, .ref cj), (1, .int x), (2, .int y)] rfl (fun k X E xo xr xw => ?_)
  refine g_iload_n X dX6_greatest_0 1 rfl rfl ?_
  refine g_aload_n X dX6_greatest_1 0 rfl rfl ?_
  refine g_get X cb6 0 q_1_13 dX6_greatest_2 0 0 rfl rfl (by decide) rfl rfl ?_
  refine g_getN X cb3 0 0 rfl dX6_greatest_5 1 0 rfl rfl (by decide) rfl rfl ?_
  refine g_iconst (x := nI 1) X dX6_greatest_8 (by decide +kernel) ?_
  refine g_iaddN X dX6_greatest_9 ?_
  refine g_xS (As := [.int x, .int (nI (n + 1))]) (rest := []) (wr := [cCJ v cj (a 0) (b 0) (d 0) (j 0) (h 0) (t 0), cPg v a n f]) X (b_X6_checkIndex l v hst x (n + 1) hx (by omega)) f_X6_checkIndex q_15_15 dX6_greatest_10 [] [0, 1] rfl rfl (by decide) rfl rfl (Nat.le_of_ble_eq_true rfl) (by decide) (fun r_ w_ hp1 => ?_) (fun E_ w_ hx => by obtain ⟨rfl, rfl⟩ := hx; exact xo (by decide) (by decide) ⟨rfl, rfl⟩)
  exact absurd hp1 id

set_option maxHeartbeats 4000000 in
set_option maxRecDepth 100000 in
theorem b1_X6_greatest (l : Launch) (v : VV) (hst : l.stackTraces = false) (cj : Nat) (a : Nat → Nat) (b : Nat → Nat) (d : Nat → Nat) (j : Nat → Nat) (h : Nat → Nat) (t : Nat → Nat) (n : Nat) (f : Nat → Nat → Int32) (i : Nat) (y : Int32) (hn12 : n ≤ 12) (hi9 : i < n + 1) (hx : bdI y 3) : XI l v yX6_greatest cX6_greatest 3 (some .int) ({ frames := 7, cells := 1, slots := 6, locals := 120 }) [.ref cj, .int (nI i), .int y] [cCJ v cj (a 0) (b 0) (d 0) (j 0) (h 0) (t 0), cPg v a n f] (fun _ _ => False) (fun E w_ => E = "java/lang/IndexOutOfBoundsException" ∧ w_ = [cCJ v cj (a 0) (b 0) (d 0) (j 0) (h 0) (t 0), cPg v a n f]) 1 6 := by
  refine mx_int hst rfl (by decide) (Nat.le_of_ble_eq_true rfl) [(0, .ref cj), (1, .int (nI i)), (2, .int y)] rfl (fun k X E xo xr xw => ?_)
  refine g_iload_n X dX6_greatest_0 1 rfl rfl ?_
  refine g_aload_n X dX6_greatest_1 0 rfl rfl ?_
  refine g_get X cb6 0 q_1_13 dX6_greatest_2 0 0 rfl rfl (by decide) rfl rfl ?_
  refine g_getN X cb3 0 0 rfl dX6_greatest_5 1 0 rfl rfl (by decide) rfl rfl ?_
  refine g_iconst (x := nI 1) X dX6_greatest_8 (by decide +kernel) ?_
  refine g_iaddN X dX6_greatest_9 ?_
  refine g_callS (As := [.int (nI i), .int (nI (n + 1))]) (rest := []) (wr := [cCJ v cj (a 0) (b 0) (d 0) (j 0) (h 0) (t 0), cPg v a n f]) X (c_X6_checkIndex l v i (n + 1) (by omega) (by omega)) f_X6_checkIndex q_15_15 dX6_greatest_10 [] [0, 1] rfl rfl (by decide) rfl rfl (Nat.le_of_ble_eq_true rfl) (by decide) (fun r_ w_ hp1 => ?_)
  subst hp1
  show GG k _ _ [cCJ v cj (a 0) (b 0) (d 0) (j 0) (h 0) (t 0), cPg v a n f] _ _ []
  refine g_iload_n X dX6_greatest_13 2 rfl rfl ?_
  refine g_iconst (x := nI 3) X dX6_greatest_14 (by decide +kernel) ?_
  refine g_xS (As := [.int y, .int (nI 3)]) (rest := []) (wr := [cCJ v cj (a 0) (b 0) (d 0) (j 0) (h 0) (t 0), cPg v a n f]) X (b_X6_checkIndex l v hst y 3 hx (by omega)) f_X6_checkIndex q_15_15 dX6_greatest_15 [] [0, 1] rfl rfl (by decide) rfl rfl (Nat.le_of_ble_eq_true rfl) (by decide) (fun r_ w_ hp2 => ?_) (fun E_ w_ hx => by obtain ⟨rfl, rfl⟩ := hx; exact xo (by decide) (by decide) ⟨rfl, rfl⟩)
  exact absurd hp2 id

set_option maxHeartbeats 4000000 in
set_option maxRecDepth 100000 in
theorem b_X6_widest (l : Launch) (v : VV) (hst : l.stackTraces = false) (cj : Nat) (a : Nat → Nat) (b : Nat → Nat) (d : Nat → Nat) (j : Nat → Nat) (h : Nat → Nat) (t : Nat → Nat) (x : Int32) (hx : bdI x 3) : XI l v yX6_widest cX6_widest 2 (some .int) ({ frames := 7, cells := 1, slots := 6, locals := 120 }) [.ref cj, .int x] [cCJ v cj (a 0) (b 0) (d 0) (j 0) (h 0) (t 0)] (fun _ _ => False) (fun E w_ => E = "java/lang/IndexOutOfBoundsException" ∧ w_ = [cCJ v cj (a 0) (b 0) (d 0) (j 0) (h 0) (t 0)]) 1 6 := by
  refine mx_int hst rfl (by decide) (Nat.le_of_ble_eq_true rfl) [(0, .ref cj), (1, .int x)] rfl (fun k X E xo xr xw => ?_)
  refine g_iload_n X dX6_widest_0 1 rfl rfl ?_
  refine g_iconst (x := nI 3) X dX6_widest_1 (by decide +kernel) ?_
  refine g_xS (As := [.int x, .int (nI 3)]) (rest := []) (wr := [cCJ v cj (a 0) (b 0) (d 0) (j 0) (h 0) (t 0)]) X (b_X6_checkIndex l v hst x 3 hx (by omega)) f_X6_checkIndex q_15_15 dX6_widest_2 [] [0] rfl rfl (by decide) rfl rfl (Nat.le_of_ble_eq_true rfl) (by decide) (fun r_ w_ hp1 => ?_) (fun E_ w_ hx => by obtain ⟨rfl, rfl⟩ := hx; exact xo (by decide) (by decide) ⟨rfl, rfl⟩)
  exact absurd hp1 id

set_option maxHeartbeats 4000000 in
set_option maxRecDepth 100000 in
theorem b_X6_assume (l : Launch) (v : VV) (hst : l.stackTraces = false) (cj : Nat) (a : Nat → Nat) (b : Nat → Nat) (d : Nat → Nat) (j : Nat → Nat) (h : Nat → Nat) (t : Nat → Nat) (x : Int32) (y : Int32) (z : Int32) (hx : bdI x 3) : XI l v yX6_assume cX6_assume 4 (some .int) ({ frames := 7, cells := 1, slots := 6, locals := 120 }) [.ref cj, .int x, .int y, .int z] [cCJ v cj (a 0) (b 0) (d 0) (j 0) (h 0) (t 0)] (fun _ _ => False) (fun E w_ => E = "java/lang/IndexOutOfBoundsException" ∧ w_ = [cCJ v cj (a 0) (b 0) (d 0) (j 0) (h 0) (t 0)]) 1 6 := by
  refine mx_int hst rfl (by decide) (Nat.le_of_ble_eq_true rfl) [(0, .ref cj), (1, .int x), (2, .int y), (3, .int z)] rfl (fun k X E xo xr xw => ?_)
  refine g_iload_n X dX6_assume_0 1 rfl rfl ?_
  refine g_iconst (x := nI 3) X dX6_assume_1 (by decide +kernel) ?_
  refine g_xS (As := [.int x, .int (nI 3)]) (rest := []) (wr := [cCJ v cj (a 0) (b 0) (d 0) (j 0) (h 0) (t 0)]) X (b_X6_checkIndex l v hst x 3 hx (by omega)) f_X6_checkIndex q_15_15 dX6_assume_2 [] [0] rfl rfl (by decide) rfl rfl (Nat.le_of_ble_eq_true rfl) (by decide) (fun r_ w_ hp1 => ?_) (fun E_ w_ hx => by obtain ⟨rfl, rfl⟩ := hx; exact xo (by decide) (by decide) ⟨rfl, rfl⟩)
  exact absurd hp1 id


