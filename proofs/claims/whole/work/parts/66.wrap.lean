/-! ## the law: methods that catch -/
abbrev cOut (v : VV) (o : Nat) (f : Nat → Int64) : va_W := [(o, .inl (v.2.1 1, 1, .inr (.inl f)))]
def bL (b : Bool) : Int64 := if b then 1 else 0
theorem f_L_load : MFw yL_load cL_load 3 (some .int) [(0, 8, 11, 13)] 2 := ⟨⟨by decide +kernel, by decide +kernel, by decide +kernel⟩, q_5_4, q_5_3, q_5_2⟩
set_option maxHeartbeats 4000000 in
set_option maxRecDepth 100000 in
theorem w_L_load (l : Launch) (v : VV) (cj o : Nat) (w : va_W) (f : Nat → Int64) (Q : va_W → Prop) (rm : Room) (ans : Int32) {fs9 : List Value} (hq : ([w] : List va_W).flatten[0]? = some (cj, .inr (6, fs9))) (h1 : rm.cells = 0) (h2 : rm.slots = 0) (h3 : rm.frames ≤ 8) (h4 : rm.locals ≤ 200) (hM : MI l v yX6_load cX6_load 2 (some .int) rm [.ref cj] [w] (fun r w_ => r = ans ∧ ∃ w1, Q w1 ∧ w_ = [w1]) 0 0) : MW l v yL_load cL_load 3 (some .int) [(0, 8, 11, 13)] ({ frames := 9, cells := 0, slots := 0, locals := 260 }) [.ref cj, .ref o] [w, cOut v o f] (fun r w_ => r = nI 0 ∧ ∃ w1 f', Q w1 ∧ f' 0 = ans.toInt64 ∧ w_ = [w1, cOut v o f']) 0 0 := by
  refine mw_int (by decide) (Nat.le_of_ble_eq_true rfl) [(0, .ref cj), (1, .ref o)] rfl (fun k X T hnc E => ?_)
  refine g_aload_n X dL_load_0 1 rfl rfl ?_
  refine g_iconst (x := nI 0) X dL_load_1 (by decide +kernel) ?_
  refine g_aload_n X dL_load_2 0 rfl rfl ?_
  refine g_callV (As := []) (rest := [.int (nI 0), .ref o]) (wr := [cOut v o f]) X hM f_X6_load q_5_6 dL_load_3 [0] [1] rfl rfl (by decide) 0 hq rfl rfl rfl (Nat.le_of_ble_eq_true rfl) ⟨h1, h2, (by show rm.frames + 1 ≤ 9; omega), (by show 8 + (2 + 11) + rm.locals ≤ 260; omega), (by decide), (by decide)⟩ (fun r_ w_ hp1 => ?_)
  obtain ⟨hr9, w1, hQ, rfl⟩ := hp1
  rw [hr9]
  show GG k _ _ [w1, cOut v o f] _ _ [.int ans, .int (nI 0), .ref o]
  refine g_i2l X dL_load_6 rfl ?_
  refine g_last (cs' := [w1, [(o, .inl (v.2.1 1, 1, .inr (.inl (vp_updL f 0 ans.toInt64))))]]) X dL_load_7 1 0 rfl rfl (by omega) (by omega) rfl ?_
  refine g_goto (tgt := 14) X dL_load_8 (by decide) ?_
  refine g_iconst (x := nI 0) X dL_load_14 (by decide +kernel) ?_
  exact E dL_load_15 rfl (rfl) (by decide) (by decide) (⟨rfl, w1, _, hQ, if_pos rfl, rfl⟩)

set_option maxHeartbeats 4000000 in
set_option maxRecDepth 100000 in
theorem w1_L_load (l : Launch) (v : VV) (cj o : Nat) (w : va_W) (f : Nat → Int64) (Q : va_W → Prop) (rm : Room) {fs9 : List Value} (hq : ([w] : List va_W).flatten[0]? = some (cj, .inr (6, fs9))) (h1 : rm.cells = 1) (h2 : rm.slots = 6) (h3 : rm.frames ≤ 8) (h4 : rm.locals ≤ 200) (hM : XI l v yX6_load cX6_load 2 (some .int) rm [.ref cj] [w] (fun _ _ => False) (fun E w_ => E = "java/lang/IllegalArgumentException" ∧ ∃ w1, Q w1 ∧ w_ = [w1]) 1 6) : MW l v yL_load cL_load 3 (some .int) [(0, 8, 11, 13)] ({ frames := 9, cells := 1, slots := 6, locals := 260 }) [.ref cj, .ref o] [w, cOut v o f] (fun r w_ => r = nI 1 ∧ ∃ w1, Q w1 ∧ w_ = [w1, cOut v o f]) 1 6 := by
  refine mw_int (by decide) (Nat.le_of_ble_eq_true rfl) [(0, .ref cj), (1, .ref o)] rfl (fun k X T hnc E => ?_)
  refine g_aload_n X dL_load_0 1 rfl rfl ?_
  refine g_iconst (x := nI 0) X dL_load_1 (by decide +kernel) ?_
  refine g_aload_n X dL_load_2 0 rfl rfl ?_
  refine g_xVC (As := []) (rest := [.int (nI 0), .ref o]) (wr := [cOut v o f]) X hM f_X6_load q_5_6 dL_load_3 [0] [1] rfl rfl (by decide) 0 hq rfl rfl rfl (Nat.le_of_ble_eq_true rfl) ⟨h1, h2, (by show rm.frames + 1 ≤ 9; omega), (by show 8 + (2 + 11) + rm.locals ≤ 260; omega), (by decide), (by decide)⟩ (fun r_ w_ hp => hp.elim) (fun E_ w_ hp1 => ?_)
  obtain ⟨rfl, w1, hQ, rfl⟩ := hp1
  refine ⟨11, ct_1 (q := ("java/lang/IllegalArgumentException", 74, 70)) X T (List.mem_of_getElem? (i := 1) rfl) q_5_5 (by decide) (by decide), fun q9 => ?_⟩
  show GG k _ _ [w1, cOut v o f] _ _ [.ref q9]
  refine g_astore_n (lv' := [(2, .ref q9), (0, .ref cj), (1, .ref o)]) X dL_load_11 rfl (by decide) rfl ?_
  refine g_iconst (x := nI 1) X dL_load_12 (by decide +kernel) ?_
  exact E dL_load_13 rfl (rfl) (by decide) (by decide) (⟨rfl, w1, hQ, rfl⟩)

theorem f_L_add : MFw yL_add cL_add 3 (some .int) [(0, 8, 11, 13)] 2 := ⟨⟨by decide +kernel, by decide +kernel, by decide +kernel⟩, q_16_15, q_5_3, q_16_14⟩
set_option maxHeartbeats 4000000 in
set_option maxRecDepth 100000 in
theorem w_L_add (l : Launch) (v : VV) (cj o : Nat) (w : va_W) (f : Nat → Int64) (Q : va_W → Prop) (rm : Room) (ans : Int32) {fs9 : List Value} (hq : ([w] : List va_W).flatten[0]? = some (cj, .inr (6, fs9))) (h1 : rm.cells = 0) (h2 : rm.slots = 0) (h3 : rm.frames ≤ 8) (h4 : rm.locals ≤ 200) (hM : MI l v yX6_add cX6_add 2 (some .int) rm [.ref cj] [w] (fun r w_ => r = ans ∧ ∃ w1, Q w1 ∧ w_ = [w1]) 0 0) : MW l v yL_add cL_add 3 (some .int) [(0, 8, 11, 13)] ({ frames := 9, cells := 0, slots := 0, locals := 260 }) [.ref cj, .ref o] [w, cOut v o f] (fun r w_ => r = nI 0 ∧ ∃ w1 f', Q w1 ∧ f' 0 = ans.toInt64 ∧ w_ = [w1, cOut v o f']) 0 0 := by
  refine mw_int (by decide) (Nat.le_of_ble_eq_true rfl) [(0, .ref cj), (1, .ref o)] rfl (fun k X T hnc E => ?_)
  refine g_aload_n X dL_add_0 1 rfl rfl ?_
  refine g_iconst (x := nI 0) X dL_add_1 (by decide +kernel) ?_
  refine g_aload_n X dL_add_2 0 rfl rfl ?_
  refine g_callV (As := []) (rest := [.int (nI 0), .ref o]) (wr := [cOut v o f]) X hM f_X6_add q_16_16 dL_add_3 [0] [1] rfl rfl (by decide) 0 hq rfl rfl rfl (Nat.le_of_ble_eq_true rfl) ⟨h1, h2, (by show rm.frames + 1 ≤ 9; omega), (by show 8 + (2 + 11) + rm.locals ≤ 260; omega), (by decide), (by decide)⟩ (fun r_ w_ hp1 => ?_)
  obtain ⟨hr9, w1, hQ, rfl⟩ := hp1
  rw [hr9]
  show GG k _ _ [w1, cOut v o f] _ _ [.int ans, .int (nI 0), .ref o]
  refine g_i2l X dL_add_6 rfl ?_
  refine g_last (cs' := [w1, [(o, .inl (v.2.1 1, 1, .inr (.inl (vp_updL f 0 ans.toInt64))))]]) X dL_add_7 1 0 rfl rfl (by omega) (by omega) rfl ?_
  refine g_goto (tgt := 14) X dL_add_8 (by decide) ?_
  refine g_iconst (x := nI 0) X dL_add_14 (by decide +kernel) ?_
  exact E dL_add_15 rfl (rfl) (by decide) (by decide) (⟨rfl, w1, _, hQ, if_pos rfl, rfl⟩)

set_option maxHeartbeats 4000000 in
set_option maxRecDepth 100000 in
theorem w1_L_add (l : Launch) (v : VV) (cj o : Nat) (w : va_W) (f : Nat → Int64) (Q : va_W → Prop) (rm : Room) {fs9 : List Value} (hq : ([w] : List va_W).flatten[0]? = some (cj, .inr (6, fs9))) (h1 : rm.cells = 1) (h2 : rm.slots = 6) (h3 : rm.frames ≤ 8) (h4 : rm.locals ≤ 200) (hM : XI l v yX6_add cX6_add 2 (some .int) rm [.ref cj] [w] (fun _ _ => False) (fun E w_ => E = "java/lang/IllegalArgumentException" ∧ ∃ w1, Q w1 ∧ w_ = [w1]) 1 6) : MW l v yL_add cL_add 3 (some .int) [(0, 8, 11, 13)] ({ frames := 9, cells := 1, slots := 6, locals := 260 }) [.ref cj, .ref o] [w, cOut v o f] (fun r w_ => r = nI 1 ∧ ∃ w1, Q w1 ∧ w_ = [w1, cOut v o f]) 1 6 := by
  refine mw_int (by decide) (Nat.le_of_ble_eq_true rfl) [(0, .ref cj), (1, .ref o)] rfl (fun k X T hnc E => ?_)
  refine g_aload_n X dL_add_0 1 rfl rfl ?_
  refine g_iconst (x := nI 0) X dL_add_1 (by decide +kernel) ?_
  refine g_aload_n X dL_add_2 0 rfl rfl ?_
  refine g_xVC (As := []) (rest := [.int (nI 0), .ref o]) (wr := [cOut v o f]) X hM f_X6_add q_16_16 dL_add_3 [0] [1] rfl rfl (by decide) 0 hq rfl rfl rfl (Nat.le_of_ble_eq_true rfl) ⟨h1, h2, (by show rm.frames + 1 ≤ 9; omega), (by show 8 + (2 + 11) + rm.locals ≤ 260; omega), (by decide), (by decide)⟩ (fun r_ w_ hp => hp.elim) (fun E_ w_ hp1 => ?_)
  obtain ⟨rfl, w1, hQ, rfl⟩ := hp1
  refine ⟨11, ct_1 (q := ("java/lang/IllegalArgumentException", 74, 70)) X T (List.mem_of_getElem? (i := 1) rfl) q_5_5 (by decide) (by decide), fun q9 => ?_⟩
  show GG k _ _ [w1, cOut v o f] _ _ [.ref q9]
  refine g_astore_n (lv' := [(2, .ref q9), (0, .ref cj), (1, .ref o)]) X dL_add_11 rfl (by decide) rfl ?_
  refine g_iconst (x := nI 1) X dL_add_12 (by decide +kernel) ?_
  exact E dL_add_13 rfl (rfl) (by decide) (by decide) (⟨rfl, w1, hQ, rfl⟩)

theorem f_L_removeLast : MFw yL_removeLast cL_removeLast 3 (some .int) [(0, 8, 11, 21)] 2 := ⟨⟨by decide +kernel, by decide +kernel, by decide +kernel⟩, q_17_7, q_5_3, q_17_6⟩
set_option maxHeartbeats 4000000 in
set_option maxRecDepth 100000 in
theorem w_L_removeLast (l : Launch) (v : VV) (cj o : Nat) (w : va_W) (f : Nat → Int64) (Q : va_W → Prop) (rm : Room) (ans : Int32) {fs9 : List Value} (hq : ([w] : List va_W).flatten[0]? = some (cj, .inr (6, fs9))) (h1 : rm.cells = 0) (h2 : rm.slots = 0) (h3 : rm.frames ≤ 8) (h4 : rm.locals ≤ 200) (hM : MI l v yX6_removeLast cX6_removeLast 1 (some .int) rm [.ref cj] [w] (fun r w_ => r = ans ∧ ∃ w1, Q w1 ∧ w_ = [w1]) 0 0) : MW l v yL_removeLast cL_removeLast 3 (some .int) [(0, 8, 11, 21)] ({ frames := 9, cells := 0, slots := 0, locals := 260 }) [.ref cj, .ref o] [w, cOut v o f] (fun r w_ => r = nI 0 ∧ ∃ w1 f', Q w1 ∧ f' 0 = ans.toInt64 ∧ w_ = [w1, cOut v o f']) 0 0 := by
  refine mw_int (by decide) (Nat.le_of_ble_eq_true rfl) [(0, .ref cj), (1, .ref o)] rfl (fun k X T hnc E => ?_)
  refine g_aload_n X dL_removeLast_0 1 rfl rfl ?_
  refine g_iconst (x := nI 0) X dL_removeLast_1 (by decide +kernel) ?_
  refine g_aload_n X dL_removeLast_2 0 rfl rfl ?_
  refine g_callV (As := []) (rest := [.int (nI 0), .ref o]) (wr := [cOut v o f]) X hM f_X6_removeLast q_17_9 dL_removeLast_3 [0] [1] rfl rfl (by decide) 0 hq rfl rfl rfl (Nat.le_of_ble_eq_true rfl) ⟨h1, h2, (by show rm.frames + 1 ≤ 9; omega), (by show 8 + (1 + 11) + rm.locals ≤ 260; omega), (by decide), (by decide)⟩ (fun r_ w_ hp1 => ?_)
  obtain ⟨hr9, w1, hQ, rfl⟩ := hp1
  rw [hr9]
  show GG k _ _ [w1, cOut v o f] _ _ [.int ans, .int (nI 0), .ref o]
  refine g_i2l X dL_removeLast_6 rfl ?_
  refine g_last (cs' := [w1, [(o, .inl (v.2.1 1, 1, .inr (.inl (vp_updL f 0 ans.toInt64))))]]) X dL_removeLast_7 1 0 rfl rfl (by omega) (by omega) rfl ?_
  refine g_goto (tgt := 14) X dL_removeLast_8 (by decide) ?_
  refine g_iconst (x := nI 0) X dL_removeLast_14 (by decide +kernel) ?_
  exact E dL_removeLast_15 rfl (rfl) (by decide) (by decide) (⟨rfl, w1, _, hQ, if_pos rfl, rfl⟩)

set_option maxHeartbeats 4000000 in
set_option maxRecDepth 100000 in
theorem w1_L_removeLast (l : Launch) (v : VV) (cj o : Nat) (w : va_W) (f : Nat → Int64) (Q : va_W → Prop) (rm : Room) {fs9 : List Value} (hq : ([w] : List va_W).flatten[0]? = some (cj, .inr (6, fs9))) (h1 : rm.cells = 1) (h2 : rm.slots = 6) (h3 : rm.frames ≤ 8) (h4 : rm.locals ≤ 200) (hM : XI l v yX6_removeLast cX6_removeLast 1 (some .int) rm [.ref cj] [w] (fun _ _ => False) (fun E w_ => E = "java/lang/IllegalStateException" ∧ ∃ w1, Q w1 ∧ w_ = [w1]) 1 6) : MW l v yL_removeLast cL_removeLast 3 (some .int) [(0, 8, 11, 21)] ({ frames := 9, cells := 1, slots := 6, locals := 260 }) [.ref cj, .ref o] [w, cOut v o f] (fun r w_ => r = nI 1 ∧ ∃ w1, Q w1 ∧ w_ = [w1, cOut v o f]) 1 6 := by
  refine mw_int (by decide) (Nat.le_of_ble_eq_true rfl) [(0, .ref cj), (1, .ref o)] rfl (fun k X T hnc E => ?_)
  refine g_aload_n X dL_removeLast_0 1 rfl rfl ?_
  refine g_iconst (x := nI 0) X dL_removeLast_1 (by decide +kernel) ?_
  refine g_aload_n X dL_removeLast_2 0 rfl rfl ?_
  refine g_xVC (As := []) (rest := [.int (nI 0), .ref o]) (wr := [cOut v o f]) X hM f_X6_removeLast q_17_9 dL_removeLast_3 [0] [1] rfl rfl (by decide) 0 hq rfl rfl rfl (Nat.le_of_ble_eq_true rfl) ⟨h1, h2, (by show rm.frames + 1 ≤ 9; omega), (by show 8 + (1 + 11) + rm.locals ≤ 260; omega), (by decide), (by decide)⟩ (fun r_ w_ hp => hp.elim) (fun E_ w_ hp1 => ?_)
  obtain ⟨rfl, w1, hQ, rfl⟩ := hp1
  refine ⟨11, ct_1 (q := ("java/lang/IllegalStateException", 102, 98)) X T (List.mem_of_getElem? (i := 2) rfl) q_17_8 (by decide) (by decide), fun q9 => ?_⟩
  show GG k _ _ [w1, cOut v o f] _ _ [.ref q9]
  refine g_astore_n (lv' := [(2, .ref q9), (0, .ref cj), (1, .ref o)]) X dL_removeLast_11 rfl (by decide) rfl ?_
  refine g_iconst (x := nI 1) X dL_removeLast_12 (by decide +kernel) ?_
  exact E dL_removeLast_13 rfl (rfl) (by decide) (by decide) (⟨rfl, w1, hQ, rfl⟩)

theorem f_L_kind : MFw yL_kind cL_kind 4 (some .int) [(0, 9, 12, 27)] 3 := ⟨⟨by decide +kernel, by decide +kernel, by decide +kernel⟩, q_18_12, q_5_3, q_18_11⟩
set_option maxHeartbeats 4000000 in
set_option maxRecDepth 100000 in
theorem w_L_kind (l : Launch) (v : VV) (cj o : Nat) (x0 : Int32) (w : va_W) (f : Nat → Int64) (Q : va_W → Prop) (rm : Room) (ans : Int32) {fs9 : List Value} (hq : ([w] : List va_W).flatten[0]? = some (cj, .inr (6, fs9))) (h1 : rm.cells = 0) (h2 : rm.slots = 0) (h3 : rm.frames ≤ 8) (h4 : rm.locals ≤ 200) (hM : MI l v yX6_kind cX6_kind 2 (some .int) rm [.ref cj, .int x0] [w] (fun r w_ => r = ans ∧ ∃ w1, Q w1 ∧ w_ = [w1]) 0 0) : MW l v yL_kind cL_kind 4 (some .int) [(0, 9, 12, 27)] ({ frames := 9, cells := 0, slots := 0, locals := 260 }) [.ref cj, .int x0, .ref o] [w, cOut v o f] (fun r w_ => r = nI 0 ∧ ∃ w1 f', Q w1 ∧ f' 0 = ans.toInt64 ∧ w_ = [w1, cOut v o f']) 0 0 := by
  refine mw_int (by decide) (Nat.le_of_ble_eq_true rfl) [(0, .ref cj), (1, .int x0), (2, .ref o)] rfl (fun k X T hnc E => ?_)
  refine g_aload_n X dL_kind_0 2 rfl rfl ?_
  refine g_iconst (x := nI 0) X dL_kind_1 (by decide +kernel) ?_
  refine g_aload_n X dL_kind_2 0 rfl rfl ?_
  refine g_iload_n X dL_kind_3 1 rfl rfl ?_
  refine g_callV (As := [.int x0]) (rest := [.int (nI 0), .ref o]) (wr := [cOut v o f]) X hM f_X6_kind q_18_14 dL_kind_4 [0] [1] rfl rfl (by decide) 0 hq rfl rfl rfl (Nat.le_of_ble_eq_true rfl) ⟨h1, h2, (by show rm.frames + 1 ≤ 9; omega), (by show 8 + (2 + 11) + rm.locals ≤ 260; omega), (by decide), (by decide)⟩ (fun r_ w_ hp1 => ?_)
  obtain ⟨hr9, w1, hQ, rfl⟩ := hp1
  rw [hr9]
  show GG k _ _ [w1, cOut v o f] _ _ [.int ans, .int (nI 0), .ref o]
  refine g_i2l X dL_kind_7 rfl ?_
  refine g_last (cs' := [w1, [(o, .inl (v.2.1 1, 1, .inr (.inl (vp_updL f 0 ans.toInt64))))]]) X dL_kind_8 1 0 rfl rfl (by omega) (by omega) rfl ?_
  refine g_goto (tgt := 15) X dL_kind_9 (by decide) ?_
  refine g_iconst (x := nI 0) X dL_kind_15 (by decide +kernel) ?_
  exact E dL_kind_16 rfl (rfl) (by decide) (by decide) (⟨rfl, w1, _, hQ, if_pos rfl, rfl⟩)

set_option maxHeartbeats 4000000 in
set_option maxRecDepth 100000 in
theorem w1_L_kind (l : Launch) (v : VV) (cj o : Nat) (x0 : Int32) (w : va_W) (f : Nat → Int64) (Q : va_W → Prop) (rm : Room) {fs9 : List Value} (hq : ([w] : List va_W).flatten[0]? = some (cj, .inr (6, fs9))) (h1 : rm.cells = 1) (h2 : rm.slots = 6) (h3 : rm.frames ≤ 8) (h4 : rm.locals ≤ 200) (hM : XI l v yX6_kind cX6_kind 2 (some .int) rm [.ref cj, .int x0] [w] (fun _ _ => False) (fun E w_ => E = "java/lang/IndexOutOfBoundsException" ∧ ∃ w1, Q w1 ∧ w_ = [w1]) 1 6) : MW l v yL_kind cL_kind 4 (some .int) [(0, 9, 12, 27)] ({ frames := 9, cells := 1, slots := 6, locals := 260 }) [.ref cj, .int x0, .ref o] [w, cOut v o f] (fun r w_ => r = nI 1 ∧ ∃ w1, Q w1 ∧ w_ = [w1, cOut v o f]) 1 6 := by
  refine mw_int (by decide) (Nat.le_of_ble_eq_true rfl) [(0, .ref cj), (1, .int x0), (2, .ref o)] rfl (fun k X T hnc E => ?_)
  refine g_aload_n X dL_kind_0 2 rfl rfl ?_
  refine g_iconst (x := nI 0) X dL_kind_1 (by decide +kernel) ?_
  refine g_aload_n X dL_kind_2 0 rfl rfl ?_
  refine g_iload_n X dL_kind_3 1 rfl rfl ?_
  refine g_xVC (As := [.int x0]) (rest := [.int (nI 0), .ref o]) (wr := [cOut v o f]) X hM f_X6_kind q_18_14 dL_kind_4 [0] [1] rfl rfl (by decide) 0 hq rfl rfl rfl (Nat.le_of_ble_eq_true rfl) ⟨h1, h2, (by show rm.frames + 1 ≤ 9; omega), (by show 8 + (2 + 11) + rm.locals ≤ 260; omega), (by decide), (by decide)⟩ (fun r_ w_ hp => hp.elim) (fun E_ w_ hp1 => ?_)
  obtain ⟨rfl, w1, hQ, rfl⟩ := hp1
  refine ⟨12, ct_1 (q := ("java/lang/IndexOutOfBoundsException", 258, 254)) X T (List.mem_of_getElem? (i := 0) rfl) q_18_13 (by decide) (by decide), fun q9 => ?_⟩
  show GG k _ _ [w1, cOut v o f] _ _ [.ref q9]
  refine g_astore_n (lv' := [(3, .ref q9), (0, .ref cj), (1, .int x0), (2, .ref o)]) X dL_kind_12 rfl (by decide) rfl ?_
  refine g_iconst (x := nI 1) X dL_kind_13 (by decide +kernel) ?_
  exact E dL_kind_14 rfl (rfl) (by decide) (by decide) (⟨rfl, w1, hQ, rfl⟩)

theorem f_L_target : MFw yL_target cL_target 4 (some .int) [(0, 9, 12, 27)] 3 := ⟨⟨by decide +kernel, by decide +kernel, by decide +kernel⟩, q_19_9, q_5_3, q_19_8⟩
set_option maxHeartbeats 4000000 in
set_option maxRecDepth 100000 in
theorem w_L_target (l : Launch) (v : VV) (cj o : Nat) (x0 : Int32) (w : va_W) (f : Nat → Int64) (Q : va_W → Prop) (rm : Room) (ans : Int32) {fs9 : List Value} (hq : ([w] : List va_W).flatten[0]? = some (cj, .inr (6, fs9))) (h1 : rm.cells = 0) (h2 : rm.slots = 0) (h3 : rm.frames ≤ 8) (h4 : rm.locals ≤ 200) (hM : MI l v yX6_target cX6_target 2 (some .int) rm [.ref cj, .int x0] [w] (fun r w_ => r = ans ∧ ∃ w1, Q w1 ∧ w_ = [w1]) 0 0) : MW l v yL_target cL_target 4 (some .int) [(0, 9, 12, 27)] ({ frames := 9, cells := 0, slots := 0, locals := 260 }) [.ref cj, .int x0, .ref o] [w, cOut v o f] (fun r w_ => r = nI 0 ∧ ∃ w1 f', Q w1 ∧ f' 0 = ans.toInt64 ∧ w_ = [w1, cOut v o f']) 0 0 := by
  refine mw_int (by decide) (Nat.le_of_ble_eq_true rfl) [(0, .ref cj), (1, .int x0), (2, .ref o)] rfl (fun k X T hnc E => ?_)
  refine g_aload_n X dL_target_0 2 rfl rfl ?_
  refine g_iconst (x := nI 0) X dL_target_1 (by decide +kernel) ?_
  refine g_aload_n X dL_target_2 0 rfl rfl ?_
  refine g_iload_n X dL_target_3 1 rfl rfl ?_
  refine g_callV (As := [.int x0]) (rest := [.int (nI 0), .ref o]) (wr := [cOut v o f]) X hM f_X6_target q_19_10 dL_target_4 [0] [1] rfl rfl (by decide) 0 hq rfl rfl rfl (Nat.le_of_ble_eq_true rfl) ⟨h1, h2, (by show rm.frames + 1 ≤ 9; omega), (by show 8 + (2 + 11) + rm.locals ≤ 260; omega), (by decide), (by decide)⟩ (fun r_ w_ hp1 => ?_)
  obtain ⟨hr9, w1, hQ, rfl⟩ := hp1
  rw [hr9]
  show GG k _ _ [w1, cOut v o f] _ _ [.int ans, .int (nI 0), .ref o]
  refine g_i2l X dL_target_7 rfl ?_
  refine g_last (cs' := [w1, [(o, .inl (v.2.1 1, 1, .inr (.inl (vp_updL f 0 ans.toInt64))))]]) X dL_target_8 1 0 rfl rfl (by omega) (by omega) rfl ?_
  refine g_goto (tgt := 15) X dL_target_9 (by decide) ?_
  refine g_iconst (x := nI 0) X dL_target_15 (by decide +kernel) ?_
  exact E dL_target_16 rfl (rfl) (by decide) (by decide) (⟨rfl, w1, _, hQ, if_pos rfl, rfl⟩)

set_option maxHeartbeats 4000000 in
set_option maxRecDepth 100000 in
theorem w1_L_target (l : Launch) (v : VV) (cj o : Nat) (x0 : Int32) (w : va_W) (f : Nat → Int64) (Q : va_W → Prop) (rm : Room) {fs9 : List Value} (hq : ([w] : List va_W).flatten[0]? = some (cj, .inr (6, fs9))) (h1 : rm.cells = 1) (h2 : rm.slots = 6) (h3 : rm.frames ≤ 8) (h4 : rm.locals ≤ 200) (hM : XI l v yX6_target cX6_target 2 (some .int) rm [.ref cj, .int x0] [w] (fun _ _ => False) (fun E w_ => E = "java/lang/IndexOutOfBoundsException" ∧ ∃ w1, Q w1 ∧ w_ = [w1]) 1 6) : MW l v yL_target cL_target 4 (some .int) [(0, 9, 12, 27)] ({ frames := 9, cells := 1, slots := 6, locals := 260 }) [.ref cj, .int x0, .ref o] [w, cOut v o f] (fun r w_ => r = nI 1 ∧ ∃ w1, Q w1 ∧ w_ = [w1, cOut v o f]) 1 6 := by
  refine mw_int (by decide) (Nat.le_of_ble_eq_true rfl) [(0, .ref cj), (1, .int x0), (2, .ref o)] rfl (fun k X T hnc E => ?_)
  refine g_aload_n X dL_target_0 2 rfl rfl ?_
  refine g_iconst (x := nI 0) X dL_target_1 (by decide +kernel) ?_
  refine g_aload_n X dL_target_2 0 rfl rfl ?_
  refine g_iload_n X dL_target_3 1 rfl rfl ?_
  refine g_xVC (As := [.int x0]) (rest := [.int (nI 0), .ref o]) (wr := [cOut v o f]) X hM f_X6_target q_19_10 dL_target_4 [0] [1] rfl rfl (by decide) 0 hq rfl rfl rfl (Nat.le_of_ble_eq_true rfl) ⟨h1, h2, (by show rm.frames + 1 ≤ 9; omega), (by show 8 + (2 + 11) + rm.locals ≤ 260; omega), (by decide), (by decide)⟩ (fun r_ w_ hp => hp.elim) (fun E_ w_ hp1 => ?_)
  obtain ⟨rfl, w1, hQ, rfl⟩ := hp1
  refine ⟨12, ct_1 (q := ("java/lang/IndexOutOfBoundsException", 258, 254)) X T (List.mem_of_getElem? (i := 0) rfl) q_18_13 (by decide) (by decide), fun q9 => ?_⟩
  show GG k _ _ [w1, cOut v o f] _ _ [.ref q9]
  refine g_astore_n (lv' := [(3, .ref q9), (0, .ref cj), (1, .int x0), (2, .ref o)]) X dL_target_12 rfl (by decide) rfl ?_
  refine g_iconst (x := nI 1) X dL_target_13 (by decide +kernel) ?_
  exact E dL_target_14 rfl (rfl) (by decide) (by decide) (⟨rfl, w1, hQ, rfl⟩)

theorem f_L_run : MFw yL_run cL_run 6 (some .int) [(0, 12, 15, 13)] 5 := ⟨⟨by decide +kernel, by decide +kernel, by decide +kernel⟩, q_20_0, q_5_3, q_19_23⟩
set_option maxHeartbeats 4000000 in
set_option maxRecDepth 100000 in
theorem w_L_run (l : Launch) (v : VV) (cj o : Nat) (x0 : Int32) (x1 : Int32) (x2 : Int32) (w : va_W) (f : Nat → Int64) (Q : va_W → Prop) (rm : Room) (ans : Int32) {fs9 : List Value} (hq : ([w] : List va_W).flatten[0]? = some (cj, .inr (6, fs9))) (h1 : rm.cells = 0) (h2 : rm.slots = 0) (h3 : rm.frames ≤ 8) (h4 : rm.locals ≤ 200) (hM : MI l v yX6_run cX6_run 4 (some .int) rm [.ref cj, .int x0, .int x1, .int x2] [w] (fun r w_ => r = ans ∧ ∃ w1, Q w1 ∧ w_ = [w1]) 0 0) : MW l v yL_run cL_run 6 (some .int) [(0, 12, 15, 13)] ({ frames := 9, cells := 0, slots := 0, locals := 260 }) [.ref cj, .int x0, .int x1, .int x2, .ref o] [w, cOut v o f] (fun r w_ => r = nI 0 ∧ ∃ w1 f', Q w1 ∧ f' 0 = ans.toInt64 ∧ w_ = [w1, cOut v o f']) 0 0 := by
  refine mw_int (by decide) (Nat.le_of_ble_eq_true rfl) [(0, .ref cj), (1, .int x0), (2, .int x1), (3, .int x2), (4, .ref o)] rfl (fun k X T hnc E => ?_)
  refine g_aload X dL_run_0 4 rfl ?_
  refine g_iconst (x := nI 0) X dL_run_2 (by decide +kernel) ?_
  refine g_aload_n X dL_run_3 0 rfl rfl ?_
  refine g_iload_n X dL_run_4 1 rfl rfl ?_
  refine g_iload_n X dL_run_5 2 rfl rfl ?_
  refine g_iload_n X dL_run_6 3 rfl rfl ?_
  refine g_callV (As := [.int x0, .int x1, .int x2]) (rest := [.int (nI 0), .ref o]) (wr := [cOut v o f]) X hM f_X6_run q_20_1 dL_run_7 [0] [1] rfl rfl (by decide) 0 hq rfl rfl rfl (Nat.le_of_ble_eq_true rfl) ⟨h1, h2, (by show rm.frames + 1 ≤ 9; omega), (by show 8 + (4 + 11) + rm.locals ≤ 260; omega), (by decide), (by decide)⟩ (fun r_ w_ hp1 => ?_)
  obtain ⟨hr9, w1, hQ, rfl⟩ := hp1
  rw [hr9]
  show GG k _ _ [w1, cOut v o f] _ _ [.int ans, .int (nI 0), .ref o]
  refine g_i2l X dL_run_10 rfl ?_
  refine g_last (cs' := [w1, [(o, .inl (v.2.1 1, 1, .inr (.inl (vp_updL f 0 ans.toInt64))))]]) X dL_run_11 1 0 rfl rfl (by omega) (by omega) rfl ?_
  refine g_goto (tgt := 19) X dL_run_12 (by decide) ?_
  refine g_iconst (x := nI 0) X dL_run_19 (by decide +kernel) ?_
  exact E dL_run_20 rfl (rfl) (by decide) (by decide) (⟨rfl, w1, _, hQ, if_pos rfl, rfl⟩)

set_option maxHeartbeats 4000000 in
set_option maxRecDepth 100000 in
theorem w1_L_run (l : Launch) (v : VV) (cj o : Nat) (x0 : Int32) (x1 : Int32) (x2 : Int32) (w : va_W) (f : Nat → Int64) (Q : va_W → Prop) (rm : Room) {fs9 : List Value} (hq : ([w] : List va_W).flatten[0]? = some (cj, .inr (6, fs9))) (h1 : rm.cells = 1) (h2 : rm.slots = 6) (h3 : rm.frames ≤ 8) (h4 : rm.locals ≤ 200) (hM : XI l v yX6_run cX6_run 4 (some .int) rm [.ref cj, .int x0, .int x1, .int x2] [w] (fun _ _ => False) (fun E w_ => E = "java/lang/IllegalArgumentException" ∧ ∃ w1, Q w1 ∧ w_ = [w1]) 1 6) : MW l v yL_run cL_run 6 (some .int) [(0, 12, 15, 13)] ({ frames := 9, cells := 1, slots := 6, locals := 260 }) [.ref cj, .int x0, .int x1, .int x2, .ref o] [w, cOut v o f] (fun r w_ => r = nI 1 ∧ ∃ w1, Q w1 ∧ w_ = [w1, cOut v o f]) 1 6 := by
  refine mw_int (by decide) (Nat.le_of_ble_eq_true rfl) [(0, .ref cj), (1, .int x0), (2, .int x1), (3, .int x2), (4, .ref o)] rfl (fun k X T hnc E => ?_)
  refine g_aload X dL_run_0 4 rfl ?_
  refine g_iconst (x := nI 0) X dL_run_2 (by decide +kernel) ?_
  refine g_aload_n X dL_run_3 0 rfl rfl ?_
  refine g_iload_n X dL_run_4 1 rfl rfl ?_
  refine g_iload_n X dL_run_5 2 rfl rfl ?_
  refine g_iload_n X dL_run_6 3 rfl rfl ?_
  refine g_xVC (As := [.int x0, .int x1, .int x2]) (rest := [.int (nI 0), .ref o]) (wr := [cOut v o f]) X hM f_X6_run q_20_1 dL_run_7 [0] [1] rfl rfl (by decide) 0 hq rfl rfl rfl (Nat.le_of_ble_eq_true rfl) ⟨h1, h2, (by show rm.frames + 1 ≤ 9; omega), (by show 8 + (4 + 11) + rm.locals ≤ 260; omega), (by decide), (by decide)⟩ (fun r_ w_ hp => hp.elim) (fun E_ w_ hp1 => ?_)
  obtain ⟨rfl, w1, hQ, rfl⟩ := hp1
  refine ⟨15, ct_1 (q := ("java/lang/IllegalArgumentException", 74, 70)) X T (List.mem_of_getElem? (i := 1) rfl) q_5_5 (by decide) (by decide), fun q9 => ?_⟩
  show GG k _ _ [w1, cOut v o f] _ _ [.ref q9]
  refine g_astore (lv' := [(5, .ref q9), (0, .ref cj), (1, .int x0), (2, .int x1), (3, .int x2), (4, .ref o)]) X dL_run_15 (by decide) rfl ?_
  refine g_iconst (x := nI 1) X dL_run_17 (by decide +kernel) ?_
  exact E dL_run_18 rfl (rfl) (by decide) (by decide) (⟨rfl, w1, hQ, rfl⟩)

theorem f_L_steps : MFw yL_steps cL_steps 6 (some .int) [(0, 12, 15, 13)] 5 := ⟨⟨by decide +kernel, by decide +kernel, by decide +kernel⟩, q_23_21, q_5_3, q_23_20⟩
set_option maxHeartbeats 4000000 in
set_option maxRecDepth 100000 in
theorem w_L_steps (l : Launch) (v : VV) (cj o : Nat) (x0 : Int32) (x1 : Int32) (x2 : Int32) (w : va_W) (f : Nat → Int64) (Q : va_W → Prop) (rm : Room) (ans : Int32) {fs9 : List Value} (hq : ([w] : List va_W).flatten[0]? = some (cj, .inr (6, fs9))) (h1 : rm.cells = 0) (h2 : rm.slots = 0) (h3 : rm.frames ≤ 8) (h4 : rm.locals ≤ 200) (hM : MI l v yX6_steps cX6_steps 4 (some .int) rm [.ref cj, .int x0, .int x1, .int x2] [w] (fun r w_ => r = ans ∧ ∃ w1, Q w1 ∧ w_ = [w1]) 0 0) : MW l v yL_steps cL_steps 6 (some .int) [(0, 12, 15, 13)] ({ frames := 9, cells := 0, slots := 0, locals := 260 }) [.ref cj, .int x0, .int x1, .int x2, .ref o] [w, cOut v o f] (fun r w_ => r = nI 0 ∧ ∃ w1 f', Q w1 ∧ f' 0 = ans.toInt64 ∧ w_ = [w1, cOut v o f']) 0 0 := by
  refine mw_int (by decide) (Nat.le_of_ble_eq_true rfl) [(0, .ref cj), (1, .int x0), (2, .int x1), (3, .int x2), (4, .ref o)] rfl (fun k X T hnc E => ?_)
  refine g_aload X dL_steps_0 4 rfl ?_
  refine g_iconst (x := nI 0) X dL_steps_2 (by decide +kernel) ?_
  refine g_aload_n X dL_steps_3 0 rfl rfl ?_
  refine g_iload_n X dL_steps_4 1 rfl rfl ?_
  refine g_iload_n X dL_steps_5 2 rfl rfl ?_
  refine g_iload_n X dL_steps_6 3 rfl rfl ?_
  refine g_callV (As := [.int x0, .int x1, .int x2]) (rest := [.int (nI 0), .ref o]) (wr := [cOut v o f]) X hM f_X6_steps q_23_22 dL_steps_7 [0] [1] rfl rfl (by decide) 0 hq rfl rfl rfl (Nat.le_of_ble_eq_true rfl) ⟨h1, h2, (by show rm.frames + 1 ≤ 9; omega), (by show 8 + (4 + 11) + rm.locals ≤ 260; omega), (by decide), (by decide)⟩ (fun r_ w_ hp1 => ?_)
  obtain ⟨hr9, w1, hQ, rfl⟩ := hp1
  rw [hr9]
  show GG k _ _ [w1, cOut v o f] _ _ [.int ans, .int (nI 0), .ref o]
  refine g_i2l X dL_steps_10 rfl ?_
  refine g_last (cs' := [w1, [(o, .inl (v.2.1 1, 1, .inr (.inl (vp_updL f 0 ans.toInt64))))]]) X dL_steps_11 1 0 rfl rfl (by omega) (by omega) rfl ?_
  refine g_goto (tgt := 19) X dL_steps_12 (by decide) ?_
  refine g_iconst (x := nI 0) X dL_steps_19 (by decide +kernel) ?_
  exact E dL_steps_20 rfl (rfl) (by decide) (by decide) (⟨rfl, w1, _, hQ, if_pos rfl, rfl⟩)

set_option maxHeartbeats 4000000 in
set_option maxRecDepth 100000 in
theorem w1_L_steps (l : Launch) (v : VV) (cj o : Nat) (x0 : Int32) (x1 : Int32) (x2 : Int32) (w : va_W) (f : Nat → Int64) (Q : va_W → Prop) (rm : Room) {fs9 : List Value} (hq : ([w] : List va_W).flatten[0]? = some (cj, .inr (6, fs9))) (h1 : rm.cells = 1) (h2 : rm.slots = 6) (h3 : rm.frames ≤ 8) (h4 : rm.locals ≤ 200) (hM : XI l v yX6_steps cX6_steps 4 (some .int) rm [.ref cj, .int x0, .int x1, .int x2] [w] (fun _ _ => False) (fun E w_ => E = "java/lang/IllegalArgumentException" ∧ ∃ w1, Q w1 ∧ w_ = [w1]) 1 6) : MW l v yL_steps cL_steps 6 (some .int) [(0, 12, 15, 13)] ({ frames := 9, cells := 1, slots := 6, locals := 260 }) [.ref cj, .int x0, .int x1, .int x2, .ref o] [w, cOut v o f] (fun r w_ => r = nI 1 ∧ ∃ w1, Q w1 ∧ w_ = [w1, cOut v o f]) 1 6 := by
  refine mw_int (by decide) (Nat.le_of_ble_eq_true rfl) [(0, .ref cj), (1, .int x0), (2, .int x1), (3, .int x2), (4, .ref o)] rfl (fun k X T hnc E => ?_)
  refine g_aload X dL_steps_0 4 rfl ?_
  refine g_iconst (x := nI 0) X dL_steps_2 (by decide +kernel) ?_
  refine g_aload_n X dL_steps_3 0 rfl rfl ?_
  refine g_iload_n X dL_steps_4 1 rfl rfl ?_
  refine g_iload_n X dL_steps_5 2 rfl rfl ?_
  refine g_iload_n X dL_steps_6 3 rfl rfl ?_
  refine g_xVC (As := [.int x0, .int x1, .int x2]) (rest := [.int (nI 0), .ref o]) (wr := [cOut v o f]) X hM f_X6_steps q_23_22 dL_steps_7 [0] [1] rfl rfl (by decide) 0 hq rfl rfl rfl (Nat.le_of_ble_eq_true rfl) ⟨h1, h2, (by show rm.frames + 1 ≤ 9; omega), (by show 8 + (4 + 11) + rm.locals ≤ 260; omega), (by decide), (by decide)⟩ (fun r_ w_ hp => hp.elim) (fun E_ w_ hp1 => ?_)
  obtain ⟨rfl, w1, hQ, rfl⟩ := hp1
  refine ⟨15, ct_1 (q := ("java/lang/IllegalArgumentException", 74, 70)) X T (List.mem_of_getElem? (i := 1) rfl) q_5_5 (by decide) (by decide), fun q9 => ?_⟩
  show GG k _ _ [w1, cOut v o f] _ _ [.ref q9]
  refine g_astore (lv' := [(5, .ref q9), (0, .ref cj), (1, .int x0), (2, .int x1), (3, .int x2), (4, .ref o)]) X dL_steps_15 (by decide) rfl ?_
  refine g_iconst (x := nI 1) X dL_steps_17 (by decide +kernel) ?_
  exact E dL_steps_18 rfl (rfl) (by decide) (by decide) (⟨rfl, w1, hQ, rfl⟩)

theorem f_L_demand : MFw yL_demand cL_demand 4 (some .int) [(0, 9, 12, 27)] 3 := ⟨⟨by decide +kernel, by decide +kernel, by decide +kernel⟩, q_24_13, q_5_3, q_24_12⟩
set_option maxHeartbeats 4000000 in
set_option maxRecDepth 100000 in
theorem w_L_demand (l : Launch) (v : VV) (cj o : Nat) (x0 : Int32) (w : va_W) (f : Nat → Int64) (Q : va_W → Prop) (rm : Room) (ans : Int32) {fs9 : List Value} (hq : ([w] : List va_W).flatten[0]? = some (cj, .inr (6, fs9))) (h1 : rm.cells = 0) (h2 : rm.slots = 0) (h3 : rm.frames ≤ 8) (h4 : rm.locals ≤ 200) (hM : MI l v yX6_demand cX6_demand 4 (some .int) rm [.ref cj, .int x0] [w] (fun r w_ => r = ans ∧ ∃ w1, Q w1 ∧ w_ = [w1]) 0 0) : MW l v yL_demand cL_demand 4 (some .int) [(0, 9, 12, 27)] ({ frames := 9, cells := 0, slots := 0, locals := 260 }) [.ref cj, .int x0, .ref o] [w, cOut v o f] (fun r w_ => r = nI 0 ∧ ∃ w1 f', Q w1 ∧ f' 0 = ans.toInt64 ∧ w_ = [w1, cOut v o f']) 0 0 := by
  refine mw_int (by decide) (Nat.le_of_ble_eq_true rfl) [(0, .ref cj), (1, .int x0), (2, .ref o)] rfl (fun k X T hnc E => ?_)
  refine g_aload_n X dL_demand_0 2 rfl rfl ?_
  refine g_iconst (x := nI 0) X dL_demand_1 (by decide +kernel) ?_
  refine g_aload_n X dL_demand_2 0 rfl rfl ?_
  refine g_iload_n X dL_demand_3 1 rfl rfl ?_
  refine g_callV (As := [.int x0]) (rest := [.int (nI 0), .ref o]) (wr := [cOut v o f]) X hM f_X6_demand q_24_14 dL_demand_4 [0] [1] rfl rfl (by decide) 0 hq rfl rfl rfl (Nat.le_of_ble_eq_true rfl) ⟨h1, h2, (by show rm.frames + 1 ≤ 9; omega), (by show 8 + (4 + 11) + rm.locals ≤ 260; omega), (by decide), (by decide)⟩ (fun r_ w_ hp1 => ?_)
  obtain ⟨hr9, w1, hQ, rfl⟩ := hp1
  rw [hr9]
  show GG k _ _ [w1, cOut v o f] _ _ [.int ans, .int (nI 0), .ref o]
  refine g_i2l X dL_demand_7 rfl ?_
  refine g_last (cs' := [w1, [(o, .inl (v.2.1 1, 1, .inr (.inl (vp_updL f 0 ans.toInt64))))]]) X dL_demand_8 1 0 rfl rfl (by omega) (by omega) rfl ?_
  refine g_goto (tgt := 15) X dL_demand_9 (by decide) ?_
  refine g_iconst (x := nI 0) X dL_demand_15 (by decide +kernel) ?_
  exact E dL_demand_16 rfl (rfl) (by decide) (by decide) (⟨rfl, w1, _, hQ, if_pos rfl, rfl⟩)

set_option maxHeartbeats 4000000 in
set_option maxRecDepth 100000 in
theorem w1_L_demand (l : Launch) (v : VV) (cj o : Nat) (x0 : Int32) (w : va_W) (f : Nat → Int64) (Q : va_W → Prop) (rm : Room) {fs9 : List Value} (hq : ([w] : List va_W).flatten[0]? = some (cj, .inr (6, fs9))) (h1 : rm.cells = 1) (h2 : rm.slots = 6) (h3 : rm.frames ≤ 8) (h4 : rm.locals ≤ 200) (hM : XI l v yX6_demand cX6_demand 4 (some .int) rm [.ref cj, .int x0] [w] (fun _ _ => False) (fun E w_ => E = "java/lang/IndexOutOfBoundsException" ∧ ∃ w1, Q w1 ∧ w_ = [w1]) 1 6) : MW l v yL_demand cL_demand 4 (some .int) [(0, 9, 12, 27)] ({ frames := 9, cells := 1, slots := 6, locals := 260 }) [.ref cj, .int x0, .ref o] [w, cOut v o f] (fun r w_ => r = nI 1 ∧ ∃ w1, Q w1 ∧ w_ = [w1, cOut v o f]) 1 6 := by
  refine mw_int (by decide) (Nat.le_of_ble_eq_true rfl) [(0, .ref cj), (1, .int x0), (2, .ref o)] rfl (fun k X T hnc E => ?_)
  refine g_aload_n X dL_demand_0 2 rfl rfl ?_
  refine g_iconst (x := nI 0) X dL_demand_1 (by decide +kernel) ?_
  refine g_aload_n X dL_demand_2 0 rfl rfl ?_
  refine g_iload_n X dL_demand_3 1 rfl rfl ?_
  refine g_xVC (As := [.int x0]) (rest := [.int (nI 0), .ref o]) (wr := [cOut v o f]) X hM f_X6_demand q_24_14 dL_demand_4 [0] [1] rfl rfl (by decide) 0 hq rfl rfl rfl (Nat.le_of_ble_eq_true rfl) ⟨h1, h2, (by show rm.frames + 1 ≤ 9; omega), (by show 8 + (4 + 11) + rm.locals ≤ 260; omega), (by decide), (by decide)⟩ (fun r_ w_ hp => hp.elim) (fun E_ w_ hp1 => ?_)
  obtain ⟨rfl, w1, hQ, rfl⟩ := hp1
  refine ⟨12, ct_1 (q := ("java/lang/IndexOutOfBoundsException", 258, 254)) X T (List.mem_of_getElem? (i := 0) rfl) q_18_13 (by decide) (by decide), fun q9 => ?_⟩
  show GG k _ _ [w1, cOut v o f] _ _ [.ref q9]
  refine g_astore_n (lv' := [(3, .ref q9), (0, .ref cj), (1, .int x0), (2, .ref o)]) X dL_demand_12 rfl (by decide) rfl ?_
  refine g_iconst (x := nI 1) X dL_demand_13 (by decide +kernel) ?_
  exact E dL_demand_14 rfl (rfl) (by decide) (by decide) (⟨rfl, w1, hQ, rfl⟩)

theorem f_L_demands : MFw yL_demands cL_demands 7 (some .int) [(0, 21, 24, 27), (0, 21, 28, 13)] 6 := ⟨⟨by decide +kernel, by decide +kernel, by decide +kernel⟩, q_25_9, q_5_3, q_25_8⟩
set_option maxHeartbeats 4000000 in
set_option maxRecDepth 100000 in
theorem w_L_demands (l : Launch) (v : VV) (cj o : Nat) (x0 : Int32) (x1 : Int32) (x2 : Int32) (x3 : Int32) (w : va_W) (f : Nat → Int64) (Q : va_W → Prop) (rm : Room) (b9 : Bool) {fs9 : List Value} (hq : ([w] : List va_W).flatten[0]? = some (cj, .inr (6, fs9))) (h1 : rm.cells = 0) (h2 : rm.slots = 0) (h3 : rm.frames ≤ 8) (h4 : rm.locals ≤ 200) (hM : MI l v yX6_demands cX6_demands 5 (some .boolean) rm [.ref cj, .int x0, .int x1, .int x2, .int x3] [w] (fun r w_ => r = bI b9 ∧ ∃ w1, Q w1 ∧ w_ = [w1]) 0 0) : MW l v yL_demands cL_demands 7 (some .int) [(0, 21, 24, 27), (0, 21, 28, 13)] ({ frames := 9, cells := 0, slots := 0, locals := 260 }) [.ref cj, .int x0, .int x1, .int x2, .int x3, .ref o] [w, cOut v o f] (fun r w_ => r = nI 0 ∧ ∃ w1 f', Q w1 ∧ f' 0 = bL b9 ∧ w_ = [w1, cOut v o f']) 0 0 := by
  refine mw_int (by decide) (Nat.le_of_ble_eq_true rfl) [(0, .ref cj), (1, .int x0), (2, .int x1), (3, .int x2), (4, .int x3), (5, .ref o)] rfl (fun k X T hnc E => ?_)
  refine g_aload X dL_demands_0 5 rfl ?_
  refine g_iconst (x := nI 0) X dL_demands_2 (by decide +kernel) ?_
  refine g_aload_n X dL_demands_3 0 rfl rfl ?_
  refine g_iload_n X dL_demands_4 1 rfl rfl ?_
  refine g_iload_n X dL_demands_5 2 rfl rfl ?_
  refine g_iload_n X dL_demands_6 3 rfl rfl ?_
  refine g_iload X dL_demands_7 4 rfl ?_
  refine g_callV (As := [.int x0, .int x1, .int x2, .int x3]) (rest := [.int (nI 0), .ref o]) (wr := [cOut v o f]) X hM f_X6_demands q_25_10 dL_demands_9 [0] [1] rfl rfl (by decide) 0 hq rfl rfl rfl (Nat.le_of_ble_eq_true rfl) ⟨h1, h2, (by show rm.frames + 1 ≤ 9; omega), (by show 8 + (5 + 11) + rm.locals ≤ 260; omega), (by decide), (by decide)⟩ (fun r_ w_ hp1 => ?_)
  obtain ⟨hr9, w1, hQ, rfl⟩ := hp1
  rw [hr9]
  show GG k _ _ [w1, cOut v o f] _ _ [.int (bI b9), .int (nI 0), .ref o]
  refine g_if_eqB (tgt := 19) X dL_demands_12 (by decide) (fun c12 => ?_) (fun c12 => ?_)
  · refine g_lconst (x := (0 : Int64)) X dL_demands_19 (by decide +kernel) ?_
    refine g_last (cs' := [w1, [(o, .inl (v.2.1 1, 1, .inr (.inl (vp_updL f 0 (0 : Int64)))))]]) X dL_demands_20 1 0 rfl rfl (by omega) (by omega) rfl ?_
    refine g_goto (tgt := 32) X dL_demands_21 (by decide) ?_
    refine g_iconst (x := nI 0) X dL_demands_32 (by decide +kernel) ?_
    exact E dL_demands_33 rfl (rfl) (by decide) (by decide) (⟨rfl, w1, _, hQ, (if_pos rfl).trans (by rw [c12]; rfl), rfl⟩)
  · refine g_lconst (x := (1 : Int64)) X dL_demands_15 (by decide +kernel) ?_
    refine g_goto (tgt := 20) X dL_demands_16 (by decide) ?_
    refine g_last (cs' := [w1, [(o, .inl (v.2.1 1, 1, .inr (.inl (vp_updL f 0 (1 : Int64)))))]]) X dL_demands_20 1 0 rfl rfl (by omega) (by omega) rfl ?_
    refine g_goto (tgt := 32) X dL_demands_21 (by decide) ?_
    refine g_iconst (x := nI 0) X dL_demands_32 (by decide +kernel) ?_
    exact E dL_demands_33 rfl (rfl) (by decide) (by decide) (⟨rfl, w1, _, hQ, (if_pos rfl).trans (by rw [c12]; rfl), rfl⟩)

set_option maxHeartbeats 4000000 in
set_option maxRecDepth 100000 in
theorem w1_L_demands (l : Launch) (v : VV) (cj o : Nat) (x0 : Int32) (x1 : Int32) (x2 : Int32) (x3 : Int32) (w : va_W) (f : Nat → Int64) (Q : va_W → Prop) (rm : Room) {fs9 : List Value} (hq : ([w] : List va_W).flatten[0]? = some (cj, .inr (6, fs9))) (h1 : rm.cells = 1) (h2 : rm.slots = 6) (h3 : rm.frames ≤ 8) (h4 : rm.locals ≤ 200) (hM : XI l v yX6_demands cX6_demands 5 (some .boolean) rm [.ref cj, .int x0, .int x1, .int x2, .int x3] [w] (fun _ _ => False) (fun E w_ => E = "java/lang/IndexOutOfBoundsException" ∧ ∃ w1, Q w1 ∧ w_ = [w1]) 1 6) : MW l v yL_demands cL_demands 7 (some .int) [(0, 21, 24, 27), (0, 21, 28, 13)] ({ frames := 9, cells := 1, slots := 6, locals := 260 }) [.ref cj, .int x0, .int x1, .int x2, .int x3, .ref o] [w, cOut v o f] (fun r w_ => r = nI 1 ∧ ∃ w1, Q w1 ∧ w_ = [w1, cOut v o f]) 1 6 := by
  refine mw_int (by decide) (Nat.le_of_ble_eq_true rfl) [(0, .ref cj), (1, .int x0), (2, .int x1), (3, .int x2), (4, .int x3), (5, .ref o)] rfl (fun k X T hnc E => ?_)
  refine g_aload X dL_demands_0 5 rfl ?_
  refine g_iconst (x := nI 0) X dL_demands_2 (by decide +kernel) ?_
  refine g_aload_n X dL_demands_3 0 rfl rfl ?_
  refine g_iload_n X dL_demands_4 1 rfl rfl ?_
  refine g_iload_n X dL_demands_5 2 rfl rfl ?_
  refine g_iload_n X dL_demands_6 3 rfl rfl ?_
  refine g_iload X dL_demands_7 4 rfl ?_
  refine g_xVC (As := [.int x0, .int x1, .int x2, .int x3]) (rest := [.int (nI 0), .ref o]) (wr := [cOut v o f]) X hM f_X6_demands q_25_10 dL_demands_9 [0] [1] rfl rfl (by decide) 0 hq rfl rfl rfl (Nat.le_of_ble_eq_true rfl) ⟨h1, h2, (by show rm.frames + 1 ≤ 9; omega), (by show 8 + (5 + 11) + rm.locals ≤ 260; omega), (by decide), (by decide)⟩ (fun r_ w_ hp => hp.elim) (fun E_ w_ hp1 => ?_)
  obtain ⟨rfl, w1, hQ, rfl⟩ := hp1
  refine ⟨24, ct_1 (q := ("java/lang/IndexOutOfBoundsException", 258, 254)) X T (List.mem_of_getElem? (i := 0) rfl) q_18_13 (by decide) (by decide), fun q9 => ?_⟩
  show GG k _ _ [w1, cOut v o f] _ _ [.ref q9]
  refine g_astore (lv' := [(6, .ref q9), (0, .ref cj), (1, .int x0), (2, .int x1), (3, .int x2), (4, .int x3), (5, .ref o)]) X dL_demands_24 (by decide) rfl ?_
  refine g_iconst (x := nI 1) X dL_demands_26 (by decide +kernel) ?_
  exact E dL_demands_27 rfl (rfl) (by decide) (by decide) (⟨rfl, w1, hQ, rfl⟩)

set_option maxHeartbeats 4000000 in
set_option maxRecDepth 100000 in
theorem w2_L_demands (l : Launch) (v : VV) (cj o : Nat) (x0 : Int32) (x1 : Int32) (x2 : Int32) (x3 : Int32) (w : va_W) (f : Nat → Int64) (Q : va_W → Prop) (rm : Room) {fs9 : List Value} (hq : ([w] : List va_W).flatten[0]? = some (cj, .inr (6, fs9))) (h1 : rm.cells = 1) (h2 : rm.slots = 6) (h3 : rm.frames ≤ 8) (h4 : rm.locals ≤ 200) (hM : XI l v yX6_demands cX6_demands 5 (some .boolean) rm [.ref cj, .int x0, .int x1, .int x2, .int x3] [w] (fun _ _ => False) (fun E w_ => E = "java/lang/IllegalArgumentException" ∧ ∃ w1, Q w1 ∧ w_ = [w1]) 1 6) : MW l v yL_demands cL_demands 7 (some .int) [(0, 21, 24, 27), (0, 21, 28, 13)] ({ frames := 9, cells := 1, slots := 6, locals := 260 }) [.ref cj, .int x0, .int x1, .int x2, .int x3, .ref o] [w, cOut v o f] (fun r w_ => r = nI 2 ∧ ∃ w1, Q w1 ∧ w_ = [w1, cOut v o f]) 1 6 := by
  refine mw_int (by decide) (Nat.le_of_ble_eq_true rfl) [(0, .ref cj), (1, .int x0), (2, .int x1), (3, .int x2), (4, .int x3), (5, .ref o)] rfl (fun k X T hnc E => ?_)
  refine g_aload X dL_demands_0 5 rfl ?_
  refine g_iconst (x := nI 0) X dL_demands_2 (by decide +kernel) ?_
  refine g_aload_n X dL_demands_3 0 rfl rfl ?_
  refine g_iload_n X dL_demands_4 1 rfl rfl ?_
  refine g_iload_n X dL_demands_5 2 rfl rfl ?_
  refine g_iload_n X dL_demands_6 3 rfl rfl ?_
  refine g_iload X dL_demands_7 4 rfl ?_
  refine g_xVC (As := [.int x0, .int x1, .int x2, .int x3]) (rest := [.int (nI 0), .ref o]) (wr := [cOut v o f]) X hM f_X6_demands q_25_10 dL_demands_9 [0] [1] rfl rfl (by decide) 0 hq rfl rfl rfl (Nat.le_of_ble_eq_true rfl) ⟨h1, h2, (by show rm.frames + 1 ≤ 9; omega), (by show 8 + (5 + 11) + rm.locals ≤ 260; omega), (by decide), (by decide)⟩ (fun r_ w_ hp => hp.elim) (fun E_ w_ hp1 => ?_)
  obtain ⟨rfl, w1, hQ, rfl⟩ := hp1
  refine ⟨28, ct_2 (nm := "java/lang/IndexOutOfBoundsException") (q := ("java/lang/IllegalArgumentException", 74, 70)) X T hnc (fun _ h => h.1) (List.mem_of_getElem? (i := 1) rfl) q_18_13 (by decide) q_5_5 (by decide) (by decide), fun q9 => ?_⟩
  show GG k _ _ [w1, cOut v o f] _ _ [.ref q9]
  refine g_astore (lv' := [(6, .ref q9), (0, .ref cj), (1, .int x0), (2, .int x1), (3, .int x2), (4, .int x3), (5, .ref o)]) X dL_demands_28 (by decide) rfl ?_
  refine g_iconst (x := nI 2) X dL_demands_30 (by decide +kernel) ?_
  exact E dL_demands_31 rfl (rfl) (by decide) (by decide) (⟨rfl, w1, hQ, rfl⟩)

theorem f_L_assume : MFw yL_assume cL_assume 6 (some .int) [(0, 12, 15, 27), (0, 12, 19, 13)] 5 := ⟨⟨by decide +kernel, by decide +kernel, by decide +kernel⟩, q_25_20, q_5_3, q_25_19⟩
set_option maxHeartbeats 4000000 in
set_option maxRecDepth 100000 in
theorem w_L_assume (l : Launch) (v : VV) (cj o : Nat) (x0 : Int32) (x1 : Int32) (x2 : Int32) (w : va_W) (f : Nat → Int64) (Q : va_W → Prop) (rm : Room) (ans : Int32) {fs9 : List Value} (hq : ([w] : List va_W).flatten[0]? = some (cj, .inr (6, fs9))) (h1 : rm.cells = 0) (h2 : rm.slots = 0) (h3 : rm.frames ≤ 8) (h4 : rm.locals ≤ 200) (hM : MI l v yX6_assume cX6_assume 4 (some .int) rm [.ref cj, .int x0, .int x1, .int x2] [w] (fun r w_ => r = ans ∧ ∃ w1, Q w1 ∧ w_ = [w1]) 0 0) : MW l v yL_assume cL_assume 6 (some .int) [(0, 12, 15, 27), (0, 12, 19, 13)] ({ frames := 9, cells := 0, slots := 0, locals := 260 }) [.ref cj, .int x0, .int x1, .int x2, .ref o] [w, cOut v o f] (fun r w_ => r = nI 0 ∧ ∃ w1 f', Q w1 ∧ f' 0 = ans.toInt64 ∧ w_ = [w1, cOut v o f']) 0 0 := by
  refine mw_int (by decide) (Nat.le_of_ble_eq_true rfl) [(0, .ref cj), (1, .int x0), (2, .int x1), (3, .int x2), (4, .ref o)] rfl (fun k X T hnc E => ?_)
  refine g_aload X dL_assume_0 4 rfl ?_
  refine g_iconst (x := nI 0) X dL_assume_2 (by decide +kernel) ?_
  refine g_aload_n X dL_assume_3 0 rfl rfl ?_
  refine g_iload_n X dL_assume_4 1 rfl rfl ?_
  refine g_iload_n X dL_assume_5 2 rfl rfl ?_
  refine g_iload_n X dL_assume_6 3 rfl rfl ?_
  refine g_callV (As := [.int x0, .int x1, .int x2]) (rest := [.int (nI 0), .ref o]) (wr := [cOut v o f]) X hM f_X6_assume q_25_21 dL_assume_7 [0] [1] rfl rfl (by decide) 0 hq rfl rfl rfl (Nat.le_of_ble_eq_true rfl) ⟨h1, h2, (by show rm.frames + 1 ≤ 9; omega), (by show 8 + (4 + 11) + rm.locals ≤ 260; omega), (by decide), (by decide)⟩ (fun r_ w_ hp1 => ?_)
  obtain ⟨hr9, w1, hQ, rfl⟩ := hp1
  rw [hr9]
  show GG k _ _ [w1, cOut v o f] _ _ [.int ans, .int (nI 0), .ref o]
  refine g_i2l X dL_assume_10 rfl ?_
  refine g_last (cs' := [w1, [(o, .inl (v.2.1 1, 1, .inr (.inl (vp_updL f 0 ans.toInt64))))]]) X dL_assume_11 1 0 rfl rfl (by omega) (by omega) rfl ?_
  refine g_goto (tgt := 23) X dL_assume_12 (by decide) ?_
  refine g_iconst (x := nI 0) X dL_assume_23 (by decide +kernel) ?_
  exact E dL_assume_24 rfl (rfl) (by decide) (by decide) (⟨rfl, w1, _, hQ, if_pos rfl, rfl⟩)

set_option maxHeartbeats 4000000 in
set_option maxRecDepth 100000 in
theorem w1_L_assume (l : Launch) (v : VV) (cj o : Nat) (x0 : Int32) (x1 : Int32) (x2 : Int32) (w : va_W) (f : Nat → Int64) (Q : va_W → Prop) (rm : Room) {fs9 : List Value} (hq : ([w] : List va_W).flatten[0]? = some (cj, .inr (6, fs9))) (h1 : rm.cells = 1) (h2 : rm.slots = 6) (h3 : rm.frames ≤ 8) (h4 : rm.locals ≤ 200) (hM : XI l v yX6_assume cX6_assume 4 (some .int) rm [.ref cj, .int x0, .int x1, .int x2] [w] (fun _ _ => False) (fun E w_ => E = "java/lang/IndexOutOfBoundsException" ∧ ∃ w1, Q w1 ∧ w_ = [w1]) 1 6) : MW l v yL_assume cL_assume 6 (some .int) [(0, 12, 15, 27), (0, 12, 19, 13)] ({ frames := 9, cells := 1, slots := 6, locals := 260 }) [.ref cj, .int x0, .int x1, .int x2, .ref o] [w, cOut v o f] (fun r w_ => r = nI 1 ∧ ∃ w1, Q w1 ∧ w_ = [w1, cOut v o f]) 1 6 := by
  refine mw_int (by decide) (Nat.le_of_ble_eq_true rfl) [(0, .ref cj), (1, .int x0), (2, .int x1), (3, .int x2), (4, .ref o)] rfl (fun k X T hnc E => ?_)
  refine g_aload X dL_assume_0 4 rfl ?_
  refine g_iconst (x := nI 0) X dL_assume_2 (by decide +kernel) ?_
  refine g_aload_n X dL_assume_3 0 rfl rfl ?_
  refine g_iload_n X dL_assume_4 1 rfl rfl ?_
  refine g_iload_n X dL_assume_5 2 rfl rfl ?_
  refine g_iload_n X dL_assume_6 3 rfl rfl ?_
  refine g_xVC (As := [.int x0, .int x1, .int x2]) (rest := [.int (nI 0), .ref o]) (wr := [cOut v o f]) X hM f_X6_assume q_25_21 dL_assume_7 [0] [1] rfl rfl (by decide) 0 hq rfl rfl rfl (Nat.le_of_ble_eq_true rfl) ⟨h1, h2, (by show rm.frames + 1 ≤ 9; omega), (by show 8 + (4 + 11) + rm.locals ≤ 260; omega), (by decide), (by decide)⟩ (fun r_ w_ hp => hp.elim) (fun E_ w_ hp1 => ?_)
  obtain ⟨rfl, w1, hQ, rfl⟩ := hp1
  refine ⟨15, ct_1 (q := ("java/lang/IndexOutOfBoundsException", 258, 254)) X T (List.mem_of_getElem? (i := 0) rfl) q_18_13 (by decide) (by decide), fun q9 => ?_⟩
  show GG k _ _ [w1, cOut v o f] _ _ [.ref q9]
  refine g_astore (lv' := [(5, .ref q9), (0, .ref cj), (1, .int x0), (2, .int x1), (3, .int x2), (4, .ref o)]) X dL_assume_15 (by decide) rfl ?_
  refine g_iconst (x := nI 1) X dL_assume_17 (by decide +kernel) ?_
  exact E dL_assume_18 rfl (rfl) (by decide) (by decide) (⟨rfl, w1, hQ, rfl⟩)

set_option maxHeartbeats 4000000 in
set_option maxRecDepth 100000 in
theorem w2_L_assume (l : Launch) (v : VV) (cj o : Nat) (x0 : Int32) (x1 : Int32) (x2 : Int32) (w : va_W) (f : Nat → Int64) (Q : va_W → Prop) (rm : Room) {fs9 : List Value} (hq : ([w] : List va_W).flatten[0]? = some (cj, .inr (6, fs9))) (h1 : rm.cells = 1) (h2 : rm.slots = 6) (h3 : rm.frames ≤ 8) (h4 : rm.locals ≤ 200) (hM : XI l v yX6_assume cX6_assume 4 (some .int) rm [.ref cj, .int x0, .int x1, .int x2] [w] (fun _ _ => False) (fun E w_ => E = "java/lang/IllegalArgumentException" ∧ ∃ w1, Q w1 ∧ w_ = [w1]) 1 6) : MW l v yL_assume cL_assume 6 (some .int) [(0, 12, 15, 27), (0, 12, 19, 13)] ({ frames := 9, cells := 1, slots := 6, locals := 260 }) [.ref cj, .int x0, .int x1, .int x2, .ref o] [w, cOut v o f] (fun r w_ => r = nI 2 ∧ ∃ w1, Q w1 ∧ w_ = [w1, cOut v o f]) 1 6 := by
  refine mw_int (by decide) (Nat.le_of_ble_eq_true rfl) [(0, .ref cj), (1, .int x0), (2, .int x1), (3, .int x2), (4, .ref o)] rfl (fun k X T hnc E => ?_)
  refine g_aload X dL_assume_0 4 rfl ?_
  refine g_iconst (x := nI 0) X dL_assume_2 (by decide +kernel) ?_
  refine g_aload_n X dL_assume_3 0 rfl rfl ?_
  refine g_iload_n X dL_assume_4 1 rfl rfl ?_
  refine g_iload_n X dL_assume_5 2 rfl rfl ?_
  refine g_iload_n X dL_assume_6 3 rfl rfl ?_
  refine g_xVC (As := [.int x0, .int x1, .int x2]) (rest := [.int (nI 0), .ref o]) (wr := [cOut v o f]) X hM f_X6_assume q_25_21 dL_assume_7 [0] [1] rfl rfl (by decide) 0 hq rfl rfl rfl (Nat.le_of_ble_eq_true rfl) ⟨h1, h2, (by show rm.frames + 1 ≤ 9; omega), (by show 8 + (4 + 11) + rm.locals ≤ 260; omega), (by decide), (by decide)⟩ (fun r_ w_ hp => hp.elim) (fun E_ w_ hp1 => ?_)
  obtain ⟨rfl, w1, hQ, rfl⟩ := hp1
  refine ⟨19, ct_2 (nm := "java/lang/IndexOutOfBoundsException") (q := ("java/lang/IllegalArgumentException", 74, 70)) X T hnc (fun _ h => h.1) (List.mem_of_getElem? (i := 1) rfl) q_18_13 (by decide) q_5_5 (by decide) (by decide), fun q9 => ?_⟩
  show GG k _ _ [w1, cOut v o f] _ _ [.ref q9]
  refine g_astore (lv' := [(5, .ref q9), (0, .ref cj), (1, .int x0), (2, .int x1), (3, .int x2), (4, .ref o)]) X dL_assume_19 (by decide) rfl ?_
  refine g_iconst (x := nI 2) X dL_assume_21 (by decide +kernel) ?_
  exact E dL_assume_22 rfl (rfl) (by decide) (by decide) (⟨rfl, w1, hQ, rfl⟩)

theorem f_L_verdict : MFw yL_verdict cL_verdict 4 (some .int) [(0, 9, 12, 27)] 3 := ⟨⟨by decide +kernel, by decide +kernel, by decide +kernel⟩, q_26_16, q_5_3, q_26_15⟩
set_option maxHeartbeats 4000000 in
set_option maxRecDepth 100000 in
theorem w_L_verdict (l : Launch) (v : VV) (cj o : Nat) (x0 : Int32) (w : va_W) (f : Nat → Int64) (Q : va_W → Prop) (rm : Room) (ans : Int32) {fs9 : List Value} (hq : ([w] : List va_W).flatten[0]? = some (cj, .inr (6, fs9))) (h1 : rm.cells = 0) (h2 : rm.slots = 0) (h3 : rm.frames ≤ 8) (h4 : rm.locals ≤ 200) (hM : MI l v yX6_verdict cX6_verdict 2 (some .int) rm [.ref cj, .int x0] [w] (fun r w_ => r = ans ∧ ∃ w1, Q w1 ∧ w_ = [w1]) 0 0) : MW l v yL_verdict cL_verdict 4 (some .int) [(0, 9, 12, 27)] ({ frames := 9, cells := 0, slots := 0, locals := 260 }) [.ref cj, .int x0, .ref o] [w, cOut v o f] (fun r w_ => r = nI 0 ∧ ∃ w1 f', Q w1 ∧ f' 0 = ans.toInt64 ∧ w_ = [w1, cOut v o f']) 0 0 := by
  refine mw_int (by decide) (Nat.le_of_ble_eq_true rfl) [(0, .ref cj), (1, .int x0), (2, .ref o)] rfl (fun k X T hnc E => ?_)
  refine g_aload_n X dL_verdict_0 2 rfl rfl ?_
  refine g_iconst (x := nI 0) X dL_verdict_1 (by decide +kernel) ?_
  refine g_aload_n X dL_verdict_2 0 rfl rfl ?_
  refine g_iload_n X dL_verdict_3 1 rfl rfl ?_
  refine g_callV (As := [.int x0]) (rest := [.int (nI 0), .ref o]) (wr := [cOut v o f]) X hM f_X6_verdict q_26_17 dL_verdict_4 [0] [1] rfl rfl (by decide) 0 hq rfl rfl rfl (Nat.le_of_ble_eq_true rfl) ⟨h1, h2, (by show rm.frames + 1 ≤ 9; omega), (by show 8 + (2 + 11) + rm.locals ≤ 260; omega), (by decide), (by decide)⟩ (fun r_ w_ hp1 => ?_)
  obtain ⟨hr9, w1, hQ, rfl⟩ := hp1
  rw [hr9]
  show GG k _ _ [w1, cOut v o f] _ _ [.int ans, .int (nI 0), .ref o]
  refine g_i2l X dL_verdict_7 rfl ?_
  refine g_last (cs' := [w1, [(o, .inl (v.2.1 1, 1, .inr (.inl (vp_updL f 0 ans.toInt64))))]]) X dL_verdict_8 1 0 rfl rfl (by omega) (by omega) rfl ?_
  refine g_goto (tgt := 15) X dL_verdict_9 (by decide) ?_
  refine g_iconst (x := nI 0) X dL_verdict_15 (by decide +kernel) ?_
  exact E dL_verdict_16 rfl (rfl) (by decide) (by decide) (⟨rfl, w1, _, hQ, if_pos rfl, rfl⟩)

set_option maxHeartbeats 4000000 in
set_option maxRecDepth 100000 in
theorem w1_L_verdict (l : Launch) (v : VV) (cj o : Nat) (x0 : Int32) (w : va_W) (f : Nat → Int64) (Q : va_W → Prop) (rm : Room) {fs9 : List Value} (hq : ([w] : List va_W).flatten[0]? = some (cj, .inr (6, fs9))) (h1 : rm.cells = 1) (h2 : rm.slots = 6) (h3 : rm.frames ≤ 8) (h4 : rm.locals ≤ 200) (hM : XI l v yX6_verdict cX6_verdict 2 (some .int) rm [.ref cj, .int x0] [w] (fun _ _ => False) (fun E w_ => E = "java/lang/IndexOutOfBoundsException" ∧ ∃ w1, Q w1 ∧ w_ = [w1]) 1 6) : MW l v yL_verdict cL_verdict 4 (some .int) [(0, 9, 12, 27)] ({ frames := 9, cells := 1, slots := 6, locals := 260 }) [.ref cj, .int x0, .ref o] [w, cOut v o f] (fun r w_ => r = nI 1 ∧ ∃ w1, Q w1 ∧ w_ = [w1, cOut v o f]) 1 6 := by
  refine mw_int (by decide) (Nat.le_of_ble_eq_true rfl) [(0, .ref cj), (1, .int x0), (2, .ref o)] rfl (fun k X T hnc E => ?_)
  refine g_aload_n X dL_verdict_0 2 rfl rfl ?_
  refine g_iconst (x := nI 0) X dL_verdict_1 (by decide +kernel) ?_
  refine g_aload_n X dL_verdict_2 0 rfl rfl ?_
  refine g_iload_n X dL_verdict_3 1 rfl rfl ?_
  refine g_xVC (As := [.int x0]) (rest := [.int (nI 0), .ref o]) (wr := [cOut v o f]) X hM f_X6_verdict q_26_17 dL_verdict_4 [0] [1] rfl rfl (by decide) 0 hq rfl rfl rfl (Nat.le_of_ble_eq_true rfl) ⟨h1, h2, (by show rm.frames + 1 ≤ 9; omega), (by show 8 + (2 + 11) + rm.locals ≤ 260; omega), (by decide), (by decide)⟩ (fun r_ w_ hp => hp.elim) (fun E_ w_ hp1 => ?_)
  obtain ⟨rfl, w1, hQ, rfl⟩ := hp1
  refine ⟨12, ct_1 (q := ("java/lang/IndexOutOfBoundsException", 258, 254)) X T (List.mem_of_getElem? (i := 0) rfl) q_18_13 (by decide) (by decide), fun q9 => ?_⟩
  show GG k _ _ [w1, cOut v o f] _ _ [.ref q9]
  refine g_astore_n (lv' := [(3, .ref q9), (0, .ref cj), (1, .int x0), (2, .ref o)]) X dL_verdict_12 rfl (by decide) rfl ?_
  refine g_iconst (x := nI 1) X dL_verdict_13 (by decide +kernel) ?_
  exact E dL_verdict_14 rfl (rfl) (by decide) (by decide) (⟨rfl, w1, hQ, rfl⟩)

theorem f_L_example : MFw yL_example cL_example 4 (some .int) [(0, 9, 12, 27)] 3 := ⟨⟨by decide +kernel, by decide +kernel, by decide +kernel⟩, q_29_20, q_5_3, q_29_19⟩
set_option maxHeartbeats 4000000 in
set_option maxRecDepth 100000 in
theorem w_L_example (l : Launch) (v : VV) (cj o : Nat) (x0 : Int32) (w : va_W) (f : Nat → Int64) (Q : va_W → Prop) (rm : Room) (ans : Int32) {fs9 : List Value} (hq : ([w] : List va_W).flatten[0]? = some (cj, .inr (6, fs9))) (h1 : rm.cells = 0) (h2 : rm.slots = 0) (h3 : rm.frames ≤ 8) (h4 : rm.locals ≤ 200) (hM : MI l v yX6_example cX6_example 2 (some .int) rm [.ref cj, .int x0] [w] (fun r w_ => r = ans ∧ ∃ w1, Q w1 ∧ w_ = [w1]) 0 0) : MW l v yL_example cL_example 4 (some .int) [(0, 9, 12, 27)] ({ frames := 9, cells := 0, slots := 0, locals := 260 }) [.ref cj, .int x0, .ref o] [w, cOut v o f] (fun r w_ => r = nI 0 ∧ ∃ w1 f', Q w1 ∧ f' 0 = ans.toInt64 ∧ w_ = [w1, cOut v o f']) 0 0 := by
  refine mw_int (by decide) (Nat.le_of_ble_eq_true rfl) [(0, .ref cj), (1, .int x0), (2, .ref o)] rfl (fun k X T hnc E => ?_)
  refine g_aload_n X dL_example_0 2 rfl rfl ?_
  refine g_iconst (x := nI 0) X dL_example_1 (by decide +kernel) ?_
  refine g_aload_n X dL_example_2 0 rfl rfl ?_
  refine g_iload_n X dL_example_3 1 rfl rfl ?_
  refine g_callV (As := [.int x0]) (rest := [.int (nI 0), .ref o]) (wr := [cOut v o f]) X hM f_X6_example q_29_21 dL_example_4 [0] [1] rfl rfl (by decide) 0 hq rfl rfl rfl (Nat.le_of_ble_eq_true rfl) ⟨h1, h2, (by show rm.frames + 1 ≤ 9; omega), (by show 8 + (2 + 11) + rm.locals ≤ 260; omega), (by decide), (by decide)⟩ (fun r_ w_ hp1 => ?_)
  obtain ⟨hr9, w1, hQ, rfl⟩ := hp1
  rw [hr9]
  show GG k _ _ [w1, cOut v o f] _ _ [.int ans, .int (nI 0), .ref o]
  refine g_i2l X dL_example_7 rfl ?_
  refine g_last (cs' := [w1, [(o, .inl (v.2.1 1, 1, .inr (.inl (vp_updL f 0 ans.toInt64))))]]) X dL_example_8 1 0 rfl rfl (by omega) (by omega) rfl ?_
  refine g_goto (tgt := 15) X dL_example_9 (by decide) ?_
  refine g_iconst (x := nI 0) X dL_example_15 (by decide +kernel) ?_
  exact E dL_example_16 rfl (rfl) (by decide) (by decide) (⟨rfl, w1, _, hQ, if_pos rfl, rfl⟩)

set_option maxHeartbeats 4000000 in
set_option maxRecDepth 100000 in
theorem w1_L_example (l : Launch) (v : VV) (cj o : Nat) (x0 : Int32) (w : va_W) (f : Nat → Int64) (Q : va_W → Prop) (rm : Room) {fs9 : List Value} (hq : ([w] : List va_W).flatten[0]? = some (cj, .inr (6, fs9))) (h1 : rm.cells = 1) (h2 : rm.slots = 6) (h3 : rm.frames ≤ 8) (h4 : rm.locals ≤ 200) (hM : XI l v yX6_example cX6_example 2 (some .int) rm [.ref cj, .int x0] [w] (fun _ _ => False) (fun E w_ => E = "java/lang/IndexOutOfBoundsException" ∧ ∃ w1, Q w1 ∧ w_ = [w1]) 1 6) : MW l v yL_example cL_example 4 (some .int) [(0, 9, 12, 27)] ({ frames := 9, cells := 1, slots := 6, locals := 260 }) [.ref cj, .int x0, .ref o] [w, cOut v o f] (fun r w_ => r = nI 1 ∧ ∃ w1, Q w1 ∧ w_ = [w1, cOut v o f]) 1 6 := by
  refine mw_int (by decide) (Nat.le_of_ble_eq_true rfl) [(0, .ref cj), (1, .int x0), (2, .ref o)] rfl (fun k X T hnc E => ?_)
  refine g_aload_n X dL_example_0 2 rfl rfl ?_
  refine g_iconst (x := nI 0) X dL_example_1 (by decide +kernel) ?_
  refine g_aload_n X dL_example_2 0 rfl rfl ?_
  refine g_iload_n X dL_example_3 1 rfl rfl ?_
  refine g_xVC (As := [.int x0]) (rest := [.int (nI 0), .ref o]) (wr := [cOut v o f]) X hM f_X6_example q_29_21 dL_example_4 [0] [1] rfl rfl (by decide) 0 hq rfl rfl rfl (Nat.le_of_ble_eq_true rfl) ⟨h1, h2, (by show rm.frames + 1 ≤ 9; omega), (by show 8 + (2 + 11) + rm.locals ≤ 260; omega), (by decide), (by decide)⟩ (fun r_ w_ hp => hp.elim) (fun E_ w_ hp1 => ?_)
  obtain ⟨rfl, w1, hQ, rfl⟩ := hp1
  refine ⟨12, ct_1 (q := ("java/lang/IndexOutOfBoundsException", 258, 254)) X T (List.mem_of_getElem? (i := 0) rfl) q_18_13 (by decide) (by decide), fun q9 => ?_⟩
  show GG k _ _ [w1, cOut v o f] _ _ [.ref q9]
  refine g_astore_n (lv' := [(3, .ref q9), (0, .ref cj), (1, .int x0), (2, .ref o)]) X dL_example_12 rfl (by decide) rfl ?_
  refine g_iconst (x := nI 1) X dL_example_13 (by decide +kernel) ?_
  exact E dL_example_14 rfl (rfl) (by decide) (by decide) (⟨rfl, w1, hQ, rfl⟩)

theorem f_L_least : MFw yL_least cL_least 5 (some .int) [(0, 10, 13, 27)] 4 := ⟨⟨by decide +kernel, by decide +kernel, by decide +kernel⟩, q_31_15, q_5_3, q_31_14⟩
set_option maxHeartbeats 4000000 in
set_option maxRecDepth 100000 in
theorem w_L_least (l : Launch) (v : VV) (cj o : Nat) (x0 : Int32) (x1 : Int32) (w : va_W) (f : Nat → Int64) (Q : va_W → Prop) (rm : Room) (ans : Int32) {fs9 : List Value} (hq : ([w] : List va_W).flatten[0]? = some (cj, .inr (6, fs9))) (h1 : rm.cells = 0) (h2 : rm.slots = 0) (h3 : rm.frames ≤ 8) (h4 : rm.locals ≤ 200) (hM : MI l v yX6_least cX6_least 3 (some .int) rm [.ref cj, .int x0, .int x1] [w] (fun r w_ => r = ans ∧ ∃ w1, Q w1 ∧ w_ = [w1]) 0 0) : MW l v yL_least cL_least 5 (some .int) [(0, 10, 13, 27)] ({ frames := 9, cells := 0, slots := 0, locals := 260 }) [.ref cj, .int x0, .int x1, .ref o] [w, cOut v o f] (fun r w_ => r = nI 0 ∧ ∃ w1 f', Q w1 ∧ f' 0 = ans.toInt64 ∧ w_ = [w1, cOut v o f']) 0 0 := by
  refine mw_int (by decide) (Nat.le_of_ble_eq_true rfl) [(0, .ref cj), (1, .int x0), (2, .int x1), (3, .ref o)] rfl (fun k X T hnc E => ?_)
  refine g_aload_n X dL_least_0 3 rfl rfl ?_
  refine g_iconst (x := nI 0) X dL_least_1 (by decide +kernel) ?_
  refine g_aload_n X dL_least_2 0 rfl rfl ?_
  refine g_iload_n X dL_least_3 1 rfl rfl ?_
  refine g_iload_n X dL_least_4 2 rfl rfl ?_
  refine g_callV (As := [.int x0, .int x1]) (rest := [.int (nI 0), .ref o]) (wr := [cOut v o f]) X hM f_X6_least q_31_16 dL_least_5 [0] [1] rfl rfl (by decide) 0 hq rfl rfl rfl (Nat.le_of_ble_eq_true rfl) ⟨h1, h2, (by show rm.frames + 1 ≤ 9; omega), (by show 8 + (3 + 11) + rm.locals ≤ 260; omega), (by decide), (by decide)⟩ (fun r_ w_ hp1 => ?_)
  obtain ⟨hr9, w1, hQ, rfl⟩ := hp1
  rw [hr9]
  show GG k _ _ [w1, cOut v o f] _ _ [.int ans, .int (nI 0), .ref o]
  refine g_i2l X dL_least_8 rfl ?_
  refine g_last (cs' := [w1, [(o, .inl (v.2.1 1, 1, .inr (.inl (vp_updL f 0 ans.toInt64))))]]) X dL_least_9 1 0 rfl rfl (by omega) (by omega) rfl ?_
  refine g_goto (tgt := 17) X dL_least_10 (by decide) ?_
  refine g_iconst (x := nI 0) X dL_least_17 (by decide +kernel) ?_
  exact E dL_least_18 rfl (rfl) (by decide) (by decide) (⟨rfl, w1, _, hQ, if_pos rfl, rfl⟩)

set_option maxHeartbeats 4000000 in
set_option maxRecDepth 100000 in
theorem w1_L_least (l : Launch) (v : VV) (cj o : Nat) (x0 : Int32) (x1 : Int32) (w : va_W) (f : Nat → Int64) (Q : va_W → Prop) (rm : Room) {fs9 : List Value} (hq : ([w] : List va_W).flatten[0]? = some (cj, .inr (6, fs9))) (h1 : rm.cells = 1) (h2 : rm.slots = 6) (h3 : rm.frames ≤ 8) (h4 : rm.locals ≤ 200) (hM : XI l v yX6_least cX6_least 3 (some .int) rm [.ref cj, .int x0, .int x1] [w] (fun _ _ => False) (fun E w_ => E = "java/lang/IndexOutOfBoundsException" ∧ ∃ w1, Q w1 ∧ w_ = [w1]) 1 6) : MW l v yL_least cL_least 5 (some .int) [(0, 10, 13, 27)] ({ frames := 9, cells := 1, slots := 6, locals := 260 }) [.ref cj, .int x0, .int x1, .ref o] [w, cOut v o f] (fun r w_ => r = nI 1 ∧ ∃ w1, Q w1 ∧ w_ = [w1, cOut v o f]) 1 6 := by
  refine mw_int (by decide) (Nat.le_of_ble_eq_true rfl) [(0, .ref cj), (1, .int x0), (2, .int x1), (3, .ref o)] rfl (fun k X T hnc E => ?_)
  refine g_aload_n X dL_least_0 3 rfl rfl ?_
  refine g_iconst (x := nI 0) X dL_least_1 (by decide +kernel) ?_
  refine g_aload_n X dL_least_2 0 rfl rfl ?_
  refine g_iload_n X dL_least_3 1 rfl rfl ?_
  refine g_iload_n X dL_least_4 2 rfl rfl ?_
  refine g_xVC (As := [.int x0, .int x1]) (rest := [.int (nI 0), .ref o]) (wr := [cOut v o f]) X hM f_X6_least q_31_16 dL_least_5 [0] [1] rfl rfl (by decide) 0 hq rfl rfl rfl (Nat.le_of_ble_eq_true rfl) ⟨h1, h2, (by show rm.frames + 1 ≤ 9; omega), (by show 8 + (3 + 11) + rm.locals ≤ 260; omega), (by decide), (by decide)⟩ (fun r_ w_ hp => hp.elim) (fun E_ w_ hp1 => ?_)
  obtain ⟨rfl, w1, hQ, rfl⟩ := hp1
  refine ⟨13, ct_1 (q := ("java/lang/IndexOutOfBoundsException", 258, 254)) X T (List.mem_of_getElem? (i := 0) rfl) q_18_13 (by decide) (by decide), fun q9 => ?_⟩
  show GG k _ _ [w1, cOut v o f] _ _ [.ref q9]
  refine g_astore (lv' := [(4, .ref q9), (0, .ref cj), (1, .int x0), (2, .int x1), (3, .ref o)]) X dL_least_13 (by decide) rfl ?_
  refine g_iconst (x := nI 1) X dL_least_15 (by decide +kernel) ?_
  exact E dL_least_16 rfl (rfl) (by decide) (by decide) (⟨rfl, w1, hQ, rfl⟩)

theorem f_L_greatest : MFw yL_greatest cL_greatest 5 (some .int) [(0, 10, 13, 27)] 4 := ⟨⟨by decide +kernel, by decide +kernel, by decide +kernel⟩, q_32_6, q_5_3, q_32_5⟩
set_option maxHeartbeats 4000000 in
set_option maxRecDepth 100000 in
theorem w_L_greatest (l : Launch) (v : VV) (cj o : Nat) (x0 : Int32) (x1 : Int32) (w : va_W) (f : Nat → Int64) (Q : va_W → Prop) (rm : Room) (ans : Int32) {fs9 : List Value} (hq : ([w] : List va_W).flatten[0]? = some (cj, .inr (6, fs9))) (h1 : rm.cells = 0) (h2 : rm.slots = 0) (h3 : rm.frames ≤ 8) (h4 : rm.locals ≤ 200) (hM : MI l v yX6_greatest cX6_greatest 3 (some .int) rm [.ref cj, .int x0, .int x1] [w] (fun r w_ => r = ans ∧ ∃ w1, Q w1 ∧ w_ = [w1]) 0 0) : MW l v yL_greatest cL_greatest 5 (some .int) [(0, 10, 13, 27)] ({ frames := 9, cells := 0, slots := 0, locals := 260 }) [.ref cj, .int x0, .int x1, .ref o] [w, cOut v o f] (fun r w_ => r = nI 0 ∧ ∃ w1 f', Q w1 ∧ f' 0 = ans.toInt64 ∧ w_ = [w1, cOut v o f']) 0 0 := by
  refine mw_int (by decide) (Nat.le_of_ble_eq_true rfl) [(0, .ref cj), (1, .int x0), (2, .int x1), (3, .ref o)] rfl (fun k X T hnc E => ?_)
  refine g_aload_n X dL_greatest_0 3 rfl rfl ?_
  refine g_iconst (x := nI 0) X dL_greatest_1 (by decide +kernel) ?_
  refine g_aload_n X dL_greatest_2 0 rfl rfl ?_
  refine g_iload_n X dL_greatest_3 1 rfl rfl ?_
  refine g_iload_n X dL_greatest_4 2 rfl rfl ?_
  refine g_callV (As := [.int x0, .int x1]) (rest := [.int (nI 0), .ref o]) (wr := [cOut v o f]) X hM f_X6_greatest q_32_7 dL_greatest_5 [0] [1] rfl rfl (by decide) 0 hq rfl rfl rfl (Nat.le_of_ble_eq_true rfl) ⟨h1, h2, (by show rm.frames + 1 ≤ 9; omega), (by show 8 + (3 + 11) + rm.locals ≤ 260; omega), (by decide), (by decide)⟩ (fun r_ w_ hp1 => ?_)
  obtain ⟨hr9, w1, hQ, rfl⟩ := hp1
  rw [hr9]
  show GG k _ _ [w1, cOut v o f] _ _ [.int ans, .int (nI 0), .ref o]
  refine g_i2l X dL_greatest_8 rfl ?_
  refine g_last (cs' := [w1, [(o, .inl (v.2.1 1, 1, .inr (.inl (vp_updL f 0 ans.toInt64))))]]) X dL_greatest_9 1 0 rfl rfl (by omega) (by omega) rfl ?_
  refine g_goto (tgt := 17) X dL_greatest_10 (by decide) ?_
  refine g_iconst (x := nI 0) X dL_greatest_17 (by decide +kernel) ?_
  exact E dL_greatest_18 rfl (rfl) (by decide) (by decide) (⟨rfl, w1, _, hQ, if_pos rfl, rfl⟩)

set_option maxHeartbeats 4000000 in
set_option maxRecDepth 100000 in
theorem w1_L_greatest (l : Launch) (v : VV) (cj o : Nat) (x0 : Int32) (x1 : Int32) (w : va_W) (f : Nat → Int64) (Q : va_W → Prop) (rm : Room) {fs9 : List Value} (hq : ([w] : List va_W).flatten[0]? = some (cj, .inr (6, fs9))) (h1 : rm.cells = 1) (h2 : rm.slots = 6) (h3 : rm.frames ≤ 8) (h4 : rm.locals ≤ 200) (hM : XI l v yX6_greatest cX6_greatest 3 (some .int) rm [.ref cj, .int x0, .int x1] [w] (fun _ _ => False) (fun E w_ => E = "java/lang/IndexOutOfBoundsException" ∧ ∃ w1, Q w1 ∧ w_ = [w1]) 1 6) : MW l v yL_greatest cL_greatest 5 (some .int) [(0, 10, 13, 27)] ({ frames := 9, cells := 1, slots := 6, locals := 260 }) [.ref cj, .int x0, .int x1, .ref o] [w, cOut v o f] (fun r w_ => r = nI 1 ∧ ∃ w1, Q w1 ∧ w_ = [w1, cOut v o f]) 1 6 := by
  refine mw_int (by decide) (Nat.le_of_ble_eq_true rfl) [(0, .ref cj), (1, .int x0), (2, .int x1), (3, .ref o)] rfl (fun k X T hnc E => ?_)
  refine g_aload_n X dL_greatest_0 3 rfl rfl ?_
  refine g_iconst (x := nI 0) X dL_greatest_1 (by decide +kernel) ?_
  refine g_aload_n X dL_greatest_2 0 rfl rfl ?_
  refine g_iload_n X dL_greatest_3 1 rfl rfl ?_
  refine g_iload_n X dL_greatest_4 2 rfl rfl ?_
  refine g_xVC (As := [.int x0, .int x1]) (rest := [.int (nI 0), .ref o]) (wr := [cOut v o f]) X hM f_X6_greatest q_32_7 dL_greatest_5 [0] [1] rfl rfl (by decide) 0 hq rfl rfl rfl (Nat.le_of_ble_eq_true rfl) ⟨h1, h2, (by show rm.frames + 1 ≤ 9; omega), (by show 8 + (3 + 11) + rm.locals ≤ 260; omega), (by decide), (by decide)⟩ (fun r_ w_ hp => hp.elim) (fun E_ w_ hp1 => ?_)
  obtain ⟨rfl, w1, hQ, rfl⟩ := hp1
  refine ⟨13, ct_1 (q := ("java/lang/IndexOutOfBoundsException", 258, 254)) X T (List.mem_of_getElem? (i := 0) rfl) q_18_13 (by decide) (by decide), fun q9 => ?_⟩
  show GG k _ _ [w1, cOut v o f] _ _ [.ref q9]
  refine g_astore (lv' := [(4, .ref q9), (0, .ref cj), (1, .int x0), (2, .int x1), (3, .ref o)]) X dL_greatest_13 (by decide) rfl ?_
  refine g_iconst (x := nI 1) X dL_greatest_15 (by decide +kernel) ?_
  exact E dL_greatest_16 rfl (rfl) (by decide) (by decide) (⟨rfl, w1, hQ, rfl⟩)

theorem f_L_widest : MFw yL_widest cL_widest 4 (some .int) [(0, 9, 12, 27)] 3 := ⟨⟨by decide +kernel, by decide +kernel, by decide +kernel⟩, q_32_17, q_5_3, q_32_16⟩
set_option maxHeartbeats 4000000 in
set_option maxRecDepth 100000 in
theorem w_L_widest (l : Launch) (v : VV) (cj o : Nat) (x0 : Int32) (w : va_W) (f : Nat → Int64) (Q : va_W → Prop) (rm : Room) (ans : Int32) {fs9 : List Value} (hq : ([w] : List va_W).flatten[0]? = some (cj, .inr (6, fs9))) (h1 : rm.cells = 0) (h2 : rm.slots = 0) (h3 : rm.frames ≤ 8) (h4 : rm.locals ≤ 200) (hM : MI l v yX6_widest cX6_widest 2 (some .int) rm [.ref cj, .int x0] [w] (fun r w_ => r = ans ∧ ∃ w1, Q w1 ∧ w_ = [w1]) 0 0) : MW l v yL_widest cL_widest 4 (some .int) [(0, 9, 12, 27)] ({ frames := 9, cells := 0, slots := 0, locals := 260 }) [.ref cj, .int x0, .ref o] [w, cOut v o f] (fun r w_ => r = nI 0 ∧ ∃ w1 f', Q w1 ∧ f' 0 = ans.toInt64 ∧ w_ = [w1, cOut v o f']) 0 0 := by
  refine mw_int (by decide) (Nat.le_of_ble_eq_true rfl) [(0, .ref cj), (1, .int x0), (2, .ref o)] rfl (fun k X T hnc E => ?_)
  refine g_aload_n X dL_widest_0 2 rfl rfl ?_
  refine g_iconst (x := nI 0) X dL_widest_1 (by decide +kernel) ?_
  refine g_aload_n X dL_widest_2 0 rfl rfl ?_
  refine g_iload_n X dL_widest_3 1 rfl rfl ?_
  refine g_callV (As := [.int x0]) (rest := [.int (nI 0), .ref o]) (wr := [cOut v o f]) X hM f_X6_widest q_32_18 dL_widest_4 [0] [1] rfl rfl (by decide) 0 hq rfl rfl rfl (Nat.le_of_ble_eq_true rfl) ⟨h1, h2, (by show rm.frames + 1 ≤ 9; omega), (by show 8 + (2 + 11) + rm.locals ≤ 260; omega), (by decide), (by decide)⟩ (fun r_ w_ hp1 => ?_)
  obtain ⟨hr9, w1, hQ, rfl⟩ := hp1
  rw [hr9]
  show GG k _ _ [w1, cOut v o f] _ _ [.int ans, .int (nI 0), .ref o]
  refine g_i2l X dL_widest_7 rfl ?_
  refine g_last (cs' := [w1, [(o, .inl (v.2.1 1, 1, .inr (.inl (vp_updL f 0 ans.toInt64))))]]) X dL_widest_8 1 0 rfl rfl (by omega) (by omega) rfl ?_
  refine g_goto (tgt := 15) X dL_widest_9 (by decide) ?_
  refine g_iconst (x := nI 0) X dL_widest_15 (by decide +kernel) ?_
  exact E dL_widest_16 rfl (rfl) (by decide) (by decide) (⟨rfl, w1, _, hQ, if_pos rfl, rfl⟩)

set_option maxHeartbeats 4000000 in
set_option maxRecDepth 100000 in
theorem w1_L_widest (l : Launch) (v : VV) (cj o : Nat) (x0 : Int32) (w : va_W) (f : Nat → Int64) (Q : va_W → Prop) (rm : Room) {fs9 : List Value} (hq : ([w] : List va_W).flatten[0]? = some (cj, .inr (6, fs9))) (h1 : rm.cells = 1) (h2 : rm.slots = 6) (h3 : rm.frames ≤ 8) (h4 : rm.locals ≤ 200) (hM : XI l v yX6_widest cX6_widest 2 (some .int) rm [.ref cj, .int x0] [w] (fun _ _ => False) (fun E w_ => E = "java/lang/IndexOutOfBoundsException" ∧ ∃ w1, Q w1 ∧ w_ = [w1]) 1 6) : MW l v yL_widest cL_widest 4 (some .int) [(0, 9, 12, 27)] ({ frames := 9, cells := 1, slots := 6, locals := 260 }) [.ref cj, .int x0, .ref o] [w, cOut v o f] (fun r w_ => r = nI 1 ∧ ∃ w1, Q w1 ∧ w_ = [w1, cOut v o f]) 1 6 := by
  refine mw_int (by decide) (Nat.le_of_ble_eq_true rfl) [(0, .ref cj), (1, .int x0), (2, .ref o)] rfl (fun k X T hnc E => ?_)
  refine g_aload_n X dL_widest_0 2 rfl rfl ?_
  refine g_iconst (x := nI 0) X dL_widest_1 (by decide +kernel) ?_
  refine g_aload_n X dL_widest_2 0 rfl rfl ?_
  refine g_iload_n X dL_widest_3 1 rfl rfl ?_
  refine g_xVC (As := [.int x0]) (rest := [.int (nI 0), .ref o]) (wr := [cOut v o f]) X hM f_X6_widest q_32_18 dL_widest_4 [0] [1] rfl rfl (by decide) 0 hq rfl rfl rfl (Nat.le_of_ble_eq_true rfl) ⟨h1, h2, (by show rm.frames + 1 ≤ 9; omega), (by show 8 + (2 + 11) + rm.locals ≤ 260; omega), (by decide), (by decide)⟩ (fun r_ w_ hp => hp.elim) (fun E_ w_ hp1 => ?_)
  obtain ⟨rfl, w1, hQ, rfl⟩ := hp1
  refine ⟨12, ct_1 (q := ("java/lang/IndexOutOfBoundsException", 258, 254)) X T (List.mem_of_getElem? (i := 0) rfl) q_18_13 (by decide) (by decide), fun q9 => ?_⟩
  show GG k _ _ [w1, cOut v o f] _ _ [.ref q9]
  refine g_astore_n (lv' := [(3, .ref q9), (0, .ref cj), (1, .int x0), (2, .ref o)]) X dL_widest_12 rfl (by decide) rfl ?_
  refine g_iconst (x := nI 1) X dL_widest_13 (by decide +kernel) ?_
  exact E dL_widest_14 rfl (rfl) (by decide) (by decide) (⟨rfl, w1, hQ, rfl⟩)

theorem f_L_append : MFw yL_append cL_append 4 (some .int) [(0, 9, 12, 13), (0, 9, 15, 21)] 3 := ⟨⟨by decide +kernel, by decide +kernel, by decide +kernel⟩, q_33_17, q_5_3, q_33_16⟩
set_option maxHeartbeats 4000000 in
set_option maxRecDepth 100000 in
theorem w_L_append (l : Launch) (v : VV) (cj o : Nat) (x0 : Int32) (w : va_W) (f : Nat → Int64) (Q : va_W → Prop) (rm : Room) (ans : Int32) {fs9 : List Value} (hq : ([w] : List va_W).flatten[0]? = some (cj, .inr (6, fs9))) (h1 : rm.cells = 0) (h2 : rm.slots = 0) (h3 : rm.frames ≤ 8) (h4 : rm.locals ≤ 200) (hM : MI l v yX6_append cX6_append 2 (some .int) rm [.ref cj, .int x0] [w] (fun r w_ => r = ans ∧ ∃ w1, Q w1 ∧ w_ = [w1]) 0 0) : MW l v yL_append cL_append 4 (some .int) [(0, 9, 12, 13), (0, 9, 15, 21)] ({ frames := 9, cells := 0, slots := 0, locals := 260 }) [.ref cj, .int x0, .ref o] [w, cOut v o f] (fun r w_ => r = nI 0 ∧ ∃ w1 f', Q w1 ∧ f' 0 = ans.toInt64 ∧ w_ = [w1, cOut v o f']) 0 0 := by
  refine mw_int (by decide) (Nat.le_of_ble_eq_true rfl) [(0, .ref cj), (1, .int x0), (2, .ref o)] rfl (fun k X T hnc E => ?_)
  refine g_aload_n X dL_append_0 2 rfl rfl ?_
  refine g_iconst (x := nI 0) X dL_append_1 (by decide +kernel) ?_
  refine g_aload_n X dL_append_2 0 rfl rfl ?_
  refine g_iload_n X dL_append_3 1 rfl rfl ?_
  refine g_callV (As := [.int x0]) (rest := [.int (nI 0), .ref o]) (wr := [cOut v o f]) X hM f_X6_append q_33_18 dL_append_4 [0] [1] rfl rfl (by decide) 0 hq rfl rfl rfl (Nat.le_of_ble_eq_true rfl) ⟨h1, h2, (by show rm.frames + 1 ≤ 9; omega), (by show 8 + (2 + 11) + rm.locals ≤ 260; omega), (by decide), (by decide)⟩ (fun r_ w_ hp1 => ?_)
  obtain ⟨hr9, w1, hQ, rfl⟩ := hp1
  rw [hr9]
  show GG k _ _ [w1, cOut v o f] _ _ [.int ans, .int (nI 0), .ref o]
  refine g_i2l X dL_append_7 rfl ?_
  refine g_last (cs' := [w1, [(o, .inl (v.2.1 1, 1, .inr (.inl (vp_updL f 0 ans.toInt64))))]]) X dL_append_8 1 0 rfl rfl (by omega) (by omega) rfl ?_
  refine g_goto (tgt := 18) X dL_append_9 (by decide) ?_
  refine g_iconst (x := nI 0) X dL_append_18 (by decide +kernel) ?_
  exact E dL_append_19 rfl (rfl) (by decide) (by decide) (⟨rfl, w1, _, hQ, if_pos rfl, rfl⟩)

set_option maxHeartbeats 4000000 in
set_option maxRecDepth 100000 in
theorem w1_L_append (l : Launch) (v : VV) (cj o : Nat) (x0 : Int32) (w : va_W) (f : Nat → Int64) (Q : va_W → Prop) (rm : Room) {fs9 : List Value} (hq : ([w] : List va_W).flatten[0]? = some (cj, .inr (6, fs9))) (h1 : rm.cells = 1) (h2 : rm.slots = 6) (h3 : rm.frames ≤ 8) (h4 : rm.locals ≤ 200) (hM : XI l v yX6_append cX6_append 2 (some .int) rm [.ref cj, .int x0] [w] (fun _ _ => False) (fun E w_ => E = "java/lang/IllegalArgumentException" ∧ ∃ w1, Q w1 ∧ w_ = [w1]) 1 6) : MW l v yL_append cL_append 4 (some .int) [(0, 9, 12, 13), (0, 9, 15, 21)] ({ frames := 9, cells := 1, slots := 6, locals := 260 }) [.ref cj, .int x0, .ref o] [w, cOut v o f] (fun r w_ => r = nI 1 ∧ ∃ w1, Q w1 ∧ w_ = [w1, cOut v o f]) 1 6 := by
  refine mw_int (by decide) (Nat.le_of_ble_eq_true rfl) [(0, .ref cj), (1, .int x0), (2, .ref o)] rfl (fun k X T hnc E => ?_)
  refine g_aload_n X dL_append_0 2 rfl rfl ?_
  refine g_iconst (x := nI 0) X dL_append_1 (by decide +kernel) ?_
  refine g_aload_n X dL_append_2 0 rfl rfl ?_
  refine g_iload_n X dL_append_3 1 rfl rfl ?_
  refine g_xVC (As := [.int x0]) (rest := [.int (nI 0), .ref o]) (wr := [cOut v o f]) X hM f_X6_append q_33_18 dL_append_4 [0] [1] rfl rfl (by decide) 0 hq rfl rfl rfl (Nat.le_of_ble_eq_true rfl) ⟨h1, h2, (by show rm.frames + 1 ≤ 9; omega), (by show 8 + (2 + 11) + rm.locals ≤ 260; omega), (by decide), (by decide)⟩ (fun r_ w_ hp => hp.elim) (fun E_ w_ hp1 => ?_)
  obtain ⟨rfl, w1, hQ, rfl⟩ := hp1
  refine ⟨12, ct_1 (q := ("java/lang/IllegalArgumentException", 74, 70)) X T (List.mem_of_getElem? (i := 1) rfl) q_5_5 (by decide) (by decide), fun q9 => ?_⟩
  show GG k _ _ [w1, cOut v o f] _ _ [.ref q9]
  refine g_astore_n (lv' := [(3, .ref q9), (0, .ref cj), (1, .int x0), (2, .ref o)]) X dL_append_12 rfl (by decide) rfl ?_
  refine g_iconst (x := nI 1) X dL_append_13 (by decide +kernel) ?_
  exact E dL_append_14 rfl (rfl) (by decide) (by decide) (⟨rfl, w1, hQ, rfl⟩)

set_option maxHeartbeats 4000000 in
set_option maxRecDepth 100000 in
theorem w2_L_append (l : Launch) (v : VV) (cj o : Nat) (x0 : Int32) (w : va_W) (f : Nat → Int64) (Q : va_W → Prop) (rm : Room) {fs9 : List Value} (hq : ([w] : List va_W).flatten[0]? = some (cj, .inr (6, fs9))) (h1 : rm.cells = 1) (h2 : rm.slots = 6) (h3 : rm.frames ≤ 8) (h4 : rm.locals ≤ 200) (hM : XI l v yX6_append cX6_append 2 (some .int) rm [.ref cj, .int x0] [w] (fun _ _ => False) (fun E w_ => E = "java/lang/IllegalStateException" ∧ ∃ w1, Q w1 ∧ w_ = [w1]) 1 6) : MW l v yL_append cL_append 4 (some .int) [(0, 9, 12, 13), (0, 9, 15, 21)] ({ frames := 9, cells := 1, slots := 6, locals := 260 }) [.ref cj, .int x0, .ref o] [w, cOut v o f] (fun r w_ => r = nI 2 ∧ ∃ w1, Q w1 ∧ w_ = [w1, cOut v o f]) 1 6 := by
  refine mw_int (by decide) (Nat.le_of_ble_eq_true rfl) [(0, .ref cj), (1, .int x0), (2, .ref o)] rfl (fun k X T hnc E => ?_)
  refine g_aload_n X dL_append_0 2 rfl rfl ?_
  refine g_iconst (x := nI 0) X dL_append_1 (by decide +kernel) ?_
  refine g_aload_n X dL_append_2 0 rfl rfl ?_
  refine g_iload_n X dL_append_3 1 rfl rfl ?_
  refine g_xVC (As := [.int x0]) (rest := [.int (nI 0), .ref o]) (wr := [cOut v o f]) X hM f_X6_append q_33_18 dL_append_4 [0] [1] rfl rfl (by decide) 0 hq rfl rfl rfl (Nat.le_of_ble_eq_true rfl) ⟨h1, h2, (by show rm.frames + 1 ≤ 9; omega), (by show 8 + (2 + 11) + rm.locals ≤ 260; omega), (by decide), (by decide)⟩ (fun r_ w_ hp => hp.elim) (fun E_ w_ hp1 => ?_)
  obtain ⟨rfl, w1, hQ, rfl⟩ := hp1
  refine ⟨15, ct_2 (nm := "java/lang/IllegalArgumentException") (q := ("java/lang/IllegalStateException", 102, 98)) X T hnc (fun _ h => h.2) (List.mem_of_getElem? (i := 2) rfl) q_5_5 (by decide) q_17_8 (by decide) (by decide), fun q9 => ?_⟩
  show GG k _ _ [w1, cOut v o f] _ _ [.ref q9]
  refine g_astore_n (lv' := [(3, .ref q9), (0, .ref cj), (1, .int x0), (2, .ref o)]) X dL_append_15 rfl (by decide) rfl ?_
  refine g_iconst (x := nI 2) X dL_append_16 (by decide +kernel) ?_
  exact E dL_append_17 rfl (rfl) (by decide) (by decide) (⟨rfl, w1, hQ, rfl⟩)

theorem f_L_undo : MFw yL_undo cL_undo 3 (some .int) [(0, 8, 11, 21)] 2 := ⟨⟨by decide +kernel, by decide +kernel, by decide +kernel⟩, q_35_0, q_5_3, q_34_23⟩
set_option maxHeartbeats 4000000 in
set_option maxRecDepth 100000 in
theorem w_L_undo (l : Launch) (v : VV) (cj o : Nat) (w : va_W) (f : Nat → Int64) (Q : va_W → Prop) (rm : Room) (ans : Int32) {fs9 : List Value} (hq : ([w] : List va_W).flatten[0]? = some (cj, .inr (6, fs9))) (h1 : rm.cells = 0) (h2 : rm.slots = 0) (h3 : rm.frames ≤ 8) (h4 : rm.locals ≤ 200) (hM : MI l v yX6_undo cX6_undo 1 (some .int) rm [.ref cj] [w] (fun r w_ => r = ans ∧ ∃ w1, Q w1 ∧ w_ = [w1]) 0 0) : MW l v yL_undo cL_undo 3 (some .int) [(0, 8, 11, 21)] ({ frames := 9, cells := 0, slots := 0, locals := 260 }) [.ref cj, .ref o] [w, cOut v o f] (fun r w_ => r = nI 0 ∧ ∃ w1 f', Q w1 ∧ f' 0 = ans.toInt64 ∧ w_ = [w1, cOut v o f']) 0 0 := by
  refine mw_int (by decide) (Nat.le_of_ble_eq_true rfl) [(0, .ref cj), (1, .ref o)] rfl (fun k X T hnc E => ?_)
  refine g_aload_n X dL_undo_0 1 rfl rfl ?_
  refine g_iconst (x := nI 0) X dL_undo_1 (by decide +kernel) ?_
  refine g_aload_n X dL_undo_2 0 rfl rfl ?_
  refine g_callV (As := []) (rest := [.int (nI 0), .ref o]) (wr := [cOut v o f]) X hM f_X6_undo q_35_1 dL_undo_3 [0] [1] rfl rfl (by decide) 0 hq rfl rfl rfl (Nat.le_of_ble_eq_true rfl) ⟨h1, h2, (by show rm.frames + 1 ≤ 9; omega), (by show 8 + (1 + 11) + rm.locals ≤ 260; omega), (by decide), (by decide)⟩ (fun r_ w_ hp1 => ?_)
  obtain ⟨hr9, w1, hQ, rfl⟩ := hp1
  rw [hr9]
  show GG k _ _ [w1, cOut v o f] _ _ [.int ans, .int (nI 0), .ref o]
  refine g_i2l X dL_undo_6 rfl ?_
  refine g_last (cs' := [w1, [(o, .inl (v.2.1 1, 1, .inr (.inl (vp_updL f 0 ans.toInt64))))]]) X dL_undo_7 1 0 rfl rfl (by omega) (by omega) rfl ?_
  refine g_goto (tgt := 14) X dL_undo_8 (by decide) ?_
  refine g_iconst (x := nI 0) X dL_undo_14 (by decide +kernel) ?_
  exact E dL_undo_15 rfl (rfl) (by decide) (by decide) (⟨rfl, w1, _, hQ, if_pos rfl, rfl⟩)

set_option maxHeartbeats 4000000 in
set_option maxRecDepth 100000 in
theorem w1_L_undo (l : Launch) (v : VV) (cj o : Nat) (w : va_W) (f : Nat → Int64) (Q : va_W → Prop) (rm : Room) {fs9 : List Value} (hq : ([w] : List va_W).flatten[0]? = some (cj, .inr (6, fs9))) (h1 : rm.cells = 1) (h2 : rm.slots = 6) (h3 : rm.frames ≤ 8) (h4 : rm.locals ≤ 200) (hM : XI l v yX6_undo cX6_undo 1 (some .int) rm [.ref cj] [w] (fun _ _ => False) (fun E w_ => E = "java/lang/IllegalStateException" ∧ ∃ w1, Q w1 ∧ w_ = [w1]) 1 6) : MW l v yL_undo cL_undo 3 (some .int) [(0, 8, 11, 21)] ({ frames := 9, cells := 1, slots := 6, locals := 260 }) [.ref cj, .ref o] [w, cOut v o f] (fun r w_ => r = nI 1 ∧ ∃ w1, Q w1 ∧ w_ = [w1, cOut v o f]) 1 6 := by
  refine mw_int (by decide) (Nat.le_of_ble_eq_true rfl) [(0, .ref cj), (1, .ref o)] rfl (fun k X T hnc E => ?_)
  refine g_aload_n X dL_undo_0 1 rfl rfl ?_
  refine g_iconst (x := nI 0) X dL_undo_1 (by decide +kernel) ?_
  refine g_aload_n X dL_undo_2 0 rfl rfl ?_
  refine g_xVC (As := []) (rest := [.int (nI 0), .ref o]) (wr := [cOut v o f]) X hM f_X6_undo q_35_1 dL_undo_3 [0] [1] rfl rfl (by decide) 0 hq rfl rfl rfl (Nat.le_of_ble_eq_true rfl) ⟨h1, h2, (by show rm.frames + 1 ≤ 9; omega), (by show 8 + (1 + 11) + rm.locals ≤ 260; omega), (by decide), (by decide)⟩ (fun r_ w_ hp => hp.elim) (fun E_ w_ hp1 => ?_)
  obtain ⟨rfl, w1, hQ, rfl⟩ := hp1
  refine ⟨11, ct_1 (q := ("java/lang/IllegalStateException", 102, 98)) X T (List.mem_of_getElem? (i := 2) rfl) q_17_8 (by decide) (by decide), fun q9 => ?_⟩
  show GG k _ _ [w1, cOut v o f] _ _ [.ref q9]
  refine g_astore_n (lv' := [(2, .ref q9), (0, .ref cj), (1, .ref o)]) X dL_undo_11 rfl (by decide) rfl ?_
  refine g_iconst (x := nI 1) X dL_undo_12 (by decide +kernel) ?_
  exact E dL_undo_13 rfl (rfl) (by decide) (by decide) (⟨rfl, w1, hQ, rfl⟩)

