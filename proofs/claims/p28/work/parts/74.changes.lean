/-! ## the law: what changes -/
theorem f_L_changes : MFw yL_changes cL_changes 7 (some .int) [(0, 47, 50, 24), (0, 47, 54, 26), (0, 47, 58, 28)] 6 := ⟨⟨by decide +kernel, by decide +kernel, by decide +kernel⟩, q_6_0, q_4_13, q_5_23⟩
set_option maxHeartbeats 4000000 in
set_option maxRecDepth 100000 in
theorem w_ch0 (l : Launch) (v : VV) (cj : Nat) (ou : Nat) (x0 : Int32) (x1 : Int32) (x2 : Int32) (w : va_W) (f : Nat → Int32) {fs9 : List Value} (Q : va_W → Prop) (rm : Room) (ans : Int32) (hq : ([w] : List va_W).flatten[0]? = some (cj, .inr (6, fs9))) (h1 : rm.cells = 0) (h2 : rm.slots = 0) (h3 : rm.frames ≤ 8) (h4 : rm.locals ≤ 200) (hM : MI l v yX6_load cX6_load 2 (some .int) rm [.ref cj] [w] (fun r w_ => r = ans ∧ ∃ w1, Q w1 ∧ w_ = [w1]) 0 0) : MW l v yL_changes cL_changes 7 (some .int) [(0, 47, 50, 24), (0, 47, 54, 26), (0, 47, 58, 28)] ({ frames := 9, cells := 0, slots := 0, locals := 260 }) [.ref cj, .int (nI 0), .int x0, .int x1, .int x2, .ref ou] [w, cOi v ou f] (fun r w_ => r = nI 0 ∧ ∃ w1 f', Q w1 ∧ f' 0 = ans ∧ w_ = [w1, cOi v ou f']) 0 0 := by
  refine mw_int (by decide) (Nat.le_of_ble_eq_true rfl) [(0, .ref cj), (1, .int (nI 0)), (2, .int x0), (3, .int x1), (4, .int x2), (5, .ref ou)] rfl (fun k X T hnc E => ?_)
  refine g_aload X dL_changes_0 5 rfl ?_
  refine g_iconst (x := nI 0) X dL_changes_2 (by decide +kernel) ?_
  refine g_iload_n X dL_changes_3 1 rfl rfl ?_
  refine g_if_neN (tgt := 14) X dL_changes_4 (by decide) (by omega) (fun c4 => ?_) (fun c4 => ?_)
  · exact absurd rfl c4
  · refine g_aload_n X dL_changes_7 0 rfl rfl ?_
    refine g_callV (As := []) (rest := [.int (nI 0), .ref ou]) (wr := [cOi v ou f]) X hM f_X6_load q_6_4 dL_changes_8 [0] [1] rfl rfl (by decide) 0 hq rfl rfl rfl (Nat.le_of_ble_eq_true rfl) ⟨h1, h2, (by show rm.frames + 1 ≤ 9; omega), (by show 8 + (2 + 11) + rm.locals ≤ 260; omega), (by decide), (by decide)⟩ (fun r_ w_ hp1 => ?_)
    obtain ⟨hr9, w1, hQ, rfl⟩ := hp1
    rw [hr9]
    show GG k _ _ [w1, cOi v ou f] _ _ [.int ans, .int (nI 0), .ref ou]
    refine g_goto (tgt := 46) X dL_changes_11 (by decide) ?_
    refine g_iast (cs' := [w1, [(ou, .inl (v.2.1 0, 1, .inl (upd f 0 ans)))]]) X dL_changes_46 1 0 rfl rfl (by omega) (by omega) rfl ?_
    refine g_goto (tgt := 62) X dL_changes_47 (by decide) ?_
    refine g_iconst (x := nI 0) X dL_changes_62 (by decide +kernel) ?_
    exact E dL_changes_63 rfl (rfl) (by decide) (by decide) (⟨rfl, w1, _, hQ, if_pos rfl, rfl⟩)

set_option maxHeartbeats 4000000 in
set_option maxRecDepth 100000 in
theorem w2_ch0 (l : Launch) (v : VV) (cj : Nat) (ou : Nat) (x0 : Int32) (x1 : Int32) (x2 : Int32) (w : va_W) (f : Nat → Int32) {fs9 : List Value} (Q : va_W → Prop) (rm : Room) (hq : ([w] : List va_W).flatten[0]? = some (cj, .inr (6, fs9))) (h1 : rm.cells = 1) (h2 : rm.slots = 6) (h3 : rm.frames ≤ 8) (h4 : rm.locals ≤ 200) (hM : XI l v yX6_load cX6_load 2 (some .int) rm [.ref cj] [w] (fun _ _ => False) (fun E w_ => E = "java/lang/IllegalArgumentException" ∧ ∃ w1, Q w1 ∧ w_ = [w1]) 1 6) : MW l v yL_changes cL_changes 7 (some .int) [(0, 47, 50, 24), (0, 47, 54, 26), (0, 47, 58, 28)] ({ frames := 9, cells := 1, slots := 6, locals := 260 }) [.ref cj, .int (nI 0), .int x0, .int x1, .int x2, .ref ou] [w, cOi v ou f] (fun r w_ => r = nI 2 ∧ ∃ w1, Q w1 ∧ w_ = [w1, cOi v ou f]) 1 6 := by
  refine mw_int (by decide) (Nat.le_of_ble_eq_true rfl) [(0, .ref cj), (1, .int (nI 0)), (2, .int x0), (3, .int x1), (4, .int x2), (5, .ref ou)] rfl (fun k X T hnc E => ?_)
  refine g_aload X dL_changes_0 5 rfl ?_
  refine g_iconst (x := nI 0) X dL_changes_2 (by decide +kernel) ?_
  refine g_iload_n X dL_changes_3 1 rfl rfl ?_
  refine g_if_neN (tgt := 14) X dL_changes_4 (by decide) (by omega) (fun c4 => ?_) (fun c4 => ?_)
  · exact absurd rfl c4
  · refine g_aload_n X dL_changes_7 0 rfl rfl ?_
    refine g_xVC (As := []) (rest := [.int (nI 0), .ref ou]) (wr := [cOi v ou f]) X hM f_X6_load q_6_4 dL_changes_8 [0] [1] rfl rfl (by decide) 0 hq rfl rfl rfl (Nat.le_of_ble_eq_true rfl) ⟨h1, h2, (by show rm.frames + 1 ≤ 9; omega), (by show 8 + (2 + 11) + rm.locals ≤ 260; omega), (by decide), (by decide)⟩ (fun r_ w_ hp => hp.elim) (fun E_ w_ hp1 => ?_)
    obtain ⟨rfl, w1, hQ, rfl⟩ := hp1
    refine ⟨54, ct_2 (nm := "java/lang/IndexOutOfBoundsException") (q := ("java/lang/IllegalArgumentException", 74, 70)) X T hnc (fun _ h => h.1) (List.mem_of_getElem? (i := 1) rfl) q_6_1 (by decide) q_6_2 (by decide) (by decide), fun q9 => ?_⟩
    show GG k _ _ [w1, cOi v ou f] _ _ [.ref q9]
    refine g_astore (lv' := [(6, .ref q9), (0, .ref cj), (1, .int (nI 0)), (2, .int x0), (3, .int x1), (4, .int x2), (5, .ref ou)]) X dL_changes_54 (by decide) rfl ?_
    refine g_iconst (x := nI 2) X dL_changes_56 (by decide +kernel) ?_
    exact E dL_changes_57 rfl (rfl) (by decide) (by decide) (⟨rfl, w1, hQ, rfl⟩)

set_option maxHeartbeats 4000000 in
set_option maxRecDepth 100000 in
theorem w_ch1 (l : Launch) (v : VV) (cj : Nat) (ou : Nat) (x0 : Int32) (x1 : Int32) (x2 : Int32) (w : va_W) (f : Nat → Int32) {fs9 : List Value} (Q : va_W → Prop) (rm : Room) (ans : Int32) (hq : ([w] : List va_W).flatten[0]? = some (cj, .inr (6, fs9))) (h1 : rm.cells = 0) (h2 : rm.slots = 0) (h3 : rm.frames ≤ 8) (h4 : rm.locals ≤ 200) (hM : MI l v yX6_add cX6_add 2 (some .int) rm [.ref cj] [w] (fun r w_ => r = ans ∧ ∃ w1, Q w1 ∧ w_ = [w1]) 0 0) : MW l v yL_changes cL_changes 7 (some .int) [(0, 47, 50, 24), (0, 47, 54, 26), (0, 47, 58, 28)] ({ frames := 9, cells := 0, slots := 0, locals := 260 }) [.ref cj, .int (nI 1), .int x0, .int x1, .int x2, .ref ou] [w, cOi v ou f] (fun r w_ => r = nI 0 ∧ ∃ w1 f', Q w1 ∧ f' 0 = ans ∧ w_ = [w1, cOi v ou f']) 0 0 := by
  refine mw_int (by decide) (Nat.le_of_ble_eq_true rfl) [(0, .ref cj), (1, .int (nI 1)), (2, .int x0), (3, .int x1), (4, .int x2), (5, .ref ou)] rfl (fun k X T hnc E => ?_)
  refine g_aload X dL_changes_0 5 rfl ?_
  refine g_iconst (x := nI 0) X dL_changes_2 (by decide +kernel) ?_
  refine g_iload_n X dL_changes_3 1 rfl rfl ?_
  refine g_if_neN (tgt := 14) X dL_changes_4 (by decide) (by omega) (fun c4 => ?_) (fun c4 => ?_)
  · refine g_iload_n X dL_changes_14 1 rfl rfl ?_
    refine g_iconst (x := nI 1) X dL_changes_15 (by decide +kernel) ?_
    refine g_icmp_neN (tgt := 26) X dL_changes_16 (by decide) (by omega) (by omega) (fun c16 => ?_) (fun c16 => ?_)
    · exact absurd c16 (by decide)
    · refine g_aload_n X dL_changes_19 0 rfl rfl ?_
      refine g_callV (As := []) (rest := [.int (nI 0), .ref ou]) (wr := [cOi v ou f]) X hM f_X6_add q_14_18 dL_changes_20 [0] [1] rfl rfl (by decide) 0 hq rfl rfl rfl (Nat.le_of_ble_eq_true rfl) ⟨h1, h2, (by show rm.frames + 1 ≤ 9; omega), (by show 8 + (2 + 11) + rm.locals ≤ 260; omega), (by decide), (by decide)⟩ (fun r_ w_ hp1 => ?_)
      obtain ⟨hr9, w1, hQ, rfl⟩ := hp1
      rw [hr9]
      show GG k _ _ [w1, cOi v ou f] _ _ [.int ans, .int (nI 0), .ref ou]
      refine g_goto (tgt := 46) X dL_changes_23 (by decide) ?_
      refine g_iast (cs' := [w1, [(ou, .inl (v.2.1 0, 1, .inl (upd f 0 ans)))]]) X dL_changes_46 1 0 rfl rfl (by omega) (by omega) rfl ?_
      refine g_goto (tgt := 62) X dL_changes_47 (by decide) ?_
      refine g_iconst (x := nI 0) X dL_changes_62 (by decide +kernel) ?_
      exact E dL_changes_63 rfl (rfl) (by decide) (by decide) (⟨rfl, w1, _, hQ, if_pos rfl, rfl⟩)
  · exact absurd c4 (by decide)

set_option maxHeartbeats 4000000 in
set_option maxRecDepth 100000 in
theorem w2_ch1 (l : Launch) (v : VV) (cj : Nat) (ou : Nat) (x0 : Int32) (x1 : Int32) (x2 : Int32) (w : va_W) (f : Nat → Int32) {fs9 : List Value} (Q : va_W → Prop) (rm : Room) (hq : ([w] : List va_W).flatten[0]? = some (cj, .inr (6, fs9))) (h1 : rm.cells = 1) (h2 : rm.slots = 6) (h3 : rm.frames ≤ 8) (h4 : rm.locals ≤ 200) (hM : XI l v yX6_add cX6_add 2 (some .int) rm [.ref cj] [w] (fun _ _ => False) (fun E w_ => E = "java/lang/IllegalArgumentException" ∧ ∃ w1, Q w1 ∧ w_ = [w1]) 1 6) : MW l v yL_changes cL_changes 7 (some .int) [(0, 47, 50, 24), (0, 47, 54, 26), (0, 47, 58, 28)] ({ frames := 9, cells := 1, slots := 6, locals := 260 }) [.ref cj, .int (nI 1), .int x0, .int x1, .int x2, .ref ou] [w, cOi v ou f] (fun r w_ => r = nI 2 ∧ ∃ w1, Q w1 ∧ w_ = [w1, cOi v ou f]) 1 6 := by
  refine mw_int (by decide) (Nat.le_of_ble_eq_true rfl) [(0, .ref cj), (1, .int (nI 1)), (2, .int x0), (3, .int x1), (4, .int x2), (5, .ref ou)] rfl (fun k X T hnc E => ?_)
  refine g_aload X dL_changes_0 5 rfl ?_
  refine g_iconst (x := nI 0) X dL_changes_2 (by decide +kernel) ?_
  refine g_iload_n X dL_changes_3 1 rfl rfl ?_
  refine g_if_neN (tgt := 14) X dL_changes_4 (by decide) (by omega) (fun c4 => ?_) (fun c4 => ?_)
  · refine g_iload_n X dL_changes_14 1 rfl rfl ?_
    refine g_iconst (x := nI 1) X dL_changes_15 (by decide +kernel) ?_
    refine g_icmp_neN (tgt := 26) X dL_changes_16 (by decide) (by omega) (by omega) (fun c16 => ?_) (fun c16 => ?_)
    · exact absurd c16 (by decide)
    · refine g_aload_n X dL_changes_19 0 rfl rfl ?_
      refine g_xVC (As := []) (rest := [.int (nI 0), .ref ou]) (wr := [cOi v ou f]) X hM f_X6_add q_14_18 dL_changes_20 [0] [1] rfl rfl (by decide) 0 hq rfl rfl rfl (Nat.le_of_ble_eq_true rfl) ⟨h1, h2, (by show rm.frames + 1 ≤ 9; omega), (by show 8 + (2 + 11) + rm.locals ≤ 260; omega), (by decide), (by decide)⟩ (fun r_ w_ hp => hp.elim) (fun E_ w_ hp1 => ?_)
      obtain ⟨rfl, w1, hQ, rfl⟩ := hp1
      refine ⟨54, ct_2 (nm := "java/lang/IndexOutOfBoundsException") (q := ("java/lang/IllegalArgumentException", 74, 70)) X T hnc (fun _ h => h.1) (List.mem_of_getElem? (i := 1) rfl) q_6_1 (by decide) q_6_2 (by decide) (by decide), fun q9 => ?_⟩
      show GG k _ _ [w1, cOi v ou f] _ _ [.ref q9]
      refine g_astore (lv' := [(6, .ref q9), (0, .ref cj), (1, .int (nI 1)), (2, .int x0), (3, .int x1), (4, .int x2), (5, .ref ou)]) X dL_changes_54 (by decide) rfl ?_
      refine g_iconst (x := nI 2) X dL_changes_56 (by decide +kernel) ?_
      exact E dL_changes_57 rfl (rfl) (by decide) (by decide) (⟨rfl, w1, hQ, rfl⟩)
  · exact absurd c4 (by decide)

set_option maxHeartbeats 4000000 in
set_option maxRecDepth 100000 in
theorem w_ch2 (l : Launch) (v : VV) (cj : Nat) (ou : Nat) (x0 : Int32) (x1 : Int32) (x2 : Int32) (w : va_W) (f : Nat → Int32) {fs9 : List Value} (Q : va_W → Prop) (rm : Room) (ans : Int32) (hq : ([w] : List va_W).flatten[0]? = some (cj, .inr (6, fs9))) (h1 : rm.cells = 0) (h2 : rm.slots = 0) (h3 : rm.frames ≤ 8) (h4 : rm.locals ≤ 200) (hM : MI l v yX6_removeLast cX6_removeLast 1 (some .int) rm [.ref cj] [w] (fun r w_ => r = ans ∧ ∃ w1, Q w1 ∧ w_ = [w1]) 0 0) : MW l v yL_changes cL_changes 7 (some .int) [(0, 47, 50, 24), (0, 47, 54, 26), (0, 47, 58, 28)] ({ frames := 9, cells := 0, slots := 0, locals := 260 }) [.ref cj, .int (nI 2), .int x0, .int x1, .int x2, .ref ou] [w, cOi v ou f] (fun r w_ => r = nI 0 ∧ ∃ w1 f', Q w1 ∧ f' 0 = ans ∧ w_ = [w1, cOi v ou f']) 0 0 := by
  refine mw_int (by decide) (Nat.le_of_ble_eq_true rfl) [(0, .ref cj), (1, .int (nI 2)), (2, .int x0), (3, .int x1), (4, .int x2), (5, .ref ou)] rfl (fun k X T hnc E => ?_)
  refine g_aload X dL_changes_0 5 rfl ?_
  refine g_iconst (x := nI 0) X dL_changes_2 (by decide +kernel) ?_
  refine g_iload_n X dL_changes_3 1 rfl rfl ?_
  refine g_if_neN (tgt := 14) X dL_changes_4 (by decide) (by omega) (fun c4 => ?_) (fun c4 => ?_)
  · refine g_iload_n X dL_changes_14 1 rfl rfl ?_
    refine g_iconst (x := nI 1) X dL_changes_15 (by decide +kernel) ?_
    refine g_icmp_neN (tgt := 26) X dL_changes_16 (by decide) (by omega) (by omega) (fun c16 => ?_) (fun c16 => ?_)
    · refine g_iload_n X dL_changes_26 1 rfl rfl ?_
      refine g_iconst (x := nI 2) X dL_changes_27 (by decide +kernel) ?_
      refine g_icmp_neN (tgt := 38) X dL_changes_28 (by decide) (by omega) (by omega) (fun c28 => ?_) (fun c28 => ?_)
      · exact absurd c28 (by decide)
      · refine g_aload_n X dL_changes_31 0 rfl rfl ?_
        refine g_callV (As := []) (rest := [.int (nI 0), .ref ou]) (wr := [cOi v ou f]) X hM f_X6_removeLast q_15_3 dL_changes_32 [0] [1] rfl rfl (by decide) 0 hq rfl rfl rfl (Nat.le_of_ble_eq_true rfl) ⟨h1, h2, (by show rm.frames + 1 ≤ 9; omega), (by show 8 + (1 + 11) + rm.locals ≤ 260; omega), (by decide), (by decide)⟩ (fun r_ w_ hp1 => ?_)
        obtain ⟨hr9, w1, hQ, rfl⟩ := hp1
        rw [hr9]
        show GG k _ _ [w1, cOi v ou f] _ _ [.int ans, .int (nI 0), .ref ou]
        refine g_goto (tgt := 46) X dL_changes_35 (by decide) ?_
        refine g_iast (cs' := [w1, [(ou, .inl (v.2.1 0, 1, .inl (upd f 0 ans)))]]) X dL_changes_46 1 0 rfl rfl (by omega) (by omega) rfl ?_
        refine g_goto (tgt := 62) X dL_changes_47 (by decide) ?_
        refine g_iconst (x := nI 0) X dL_changes_62 (by decide +kernel) ?_
        exact E dL_changes_63 rfl (rfl) (by decide) (by decide) (⟨rfl, w1, _, hQ, if_pos rfl, rfl⟩)
    · exact absurd c16 (by decide)
  · exact absurd c4 (by decide)

set_option maxHeartbeats 4000000 in
set_option maxRecDepth 100000 in
theorem w3_ch2 (l : Launch) (v : VV) (cj : Nat) (ou : Nat) (x0 : Int32) (x1 : Int32) (x2 : Int32) (w : va_W) (f : Nat → Int32) {fs9 : List Value} (Q : va_W → Prop) (rm : Room) (hq : ([w] : List va_W).flatten[0]? = some (cj, .inr (6, fs9))) (h1 : rm.cells = 1) (h2 : rm.slots = 6) (h3 : rm.frames ≤ 8) (h4 : rm.locals ≤ 200) (hM : XI l v yX6_removeLast cX6_removeLast 1 (some .int) rm [.ref cj] [w] (fun _ _ => False) (fun E w_ => E = "java/lang/IllegalStateException" ∧ ∃ w1, Q w1 ∧ w_ = [w1]) 1 6) : MW l v yL_changes cL_changes 7 (some .int) [(0, 47, 50, 24), (0, 47, 54, 26), (0, 47, 58, 28)] ({ frames := 9, cells := 1, slots := 6, locals := 260 }) [.ref cj, .int (nI 2), .int x0, .int x1, .int x2, .ref ou] [w, cOi v ou f] (fun r w_ => r = nI 3 ∧ ∃ w1, Q w1 ∧ w_ = [w1, cOi v ou f]) 1 6 := by
  refine mw_int (by decide) (Nat.le_of_ble_eq_true rfl) [(0, .ref cj), (1, .int (nI 2)), (2, .int x0), (3, .int x1), (4, .int x2), (5, .ref ou)] rfl (fun k X T hnc E => ?_)
  refine g_aload X dL_changes_0 5 rfl ?_
  refine g_iconst (x := nI 0) X dL_changes_2 (by decide +kernel) ?_
  refine g_iload_n X dL_changes_3 1 rfl rfl ?_
  refine g_if_neN (tgt := 14) X dL_changes_4 (by decide) (by omega) (fun c4 => ?_) (fun c4 => ?_)
  · refine g_iload_n X dL_changes_14 1 rfl rfl ?_
    refine g_iconst (x := nI 1) X dL_changes_15 (by decide +kernel) ?_
    refine g_icmp_neN (tgt := 26) X dL_changes_16 (by decide) (by omega) (by omega) (fun c16 => ?_) (fun c16 => ?_)
    · refine g_iload_n X dL_changes_26 1 rfl rfl ?_
      refine g_iconst (x := nI 2) X dL_changes_27 (by decide +kernel) ?_
      refine g_icmp_neN (tgt := 38) X dL_changes_28 (by decide) (by omega) (by omega) (fun c28 => ?_) (fun c28 => ?_)
      · exact absurd c28 (by decide)
      · refine g_aload_n X dL_changes_31 0 rfl rfl ?_
        refine g_xVC (As := []) (rest := [.int (nI 0), .ref ou]) (wr := [cOi v ou f]) X hM f_X6_removeLast q_15_3 dL_changes_32 [0] [1] rfl rfl (by decide) 0 hq rfl rfl rfl (Nat.le_of_ble_eq_true rfl) ⟨h1, h2, (by show rm.frames + 1 ≤ 9; omega), (by show 8 + (1 + 11) + rm.locals ≤ 260; omega), (by decide), (by decide)⟩ (fun r_ w_ hp => hp.elim) (fun E_ w_ hp1 => ?_)
        obtain ⟨rfl, w1, hQ, rfl⟩ := hp1
        refine ⟨58, ct_3 (nm := "java/lang/IndexOutOfBoundsException") (nm2 := "java/lang/IllegalArgumentException") (q := ("java/lang/IllegalStateException", 102, 98)) X T hnc (fun _ h => h.2.2) (fun _ h => h.2.1) (List.mem_of_getElem? (i := 2) rfl) q_6_1 (by decide) q_6_2 (by decide) q_6_3 (by decide) (by decide), fun q9 => ?_⟩
        show GG k _ _ [w1, cOi v ou f] _ _ [.ref q9]
        refine g_astore (lv' := [(6, .ref q9), (0, .ref cj), (1, .int (nI 2)), (2, .int x0), (3, .int x1), (4, .int x2), (5, .ref ou)]) X dL_changes_58 (by decide) rfl ?_
        refine g_iconst (x := nI 3) X dL_changes_60 (by decide +kernel) ?_
        exact E dL_changes_61 rfl (rfl) (by decide) (by decide) (⟨rfl, w1, hQ, rfl⟩)
    · exact absurd c16 (by decide)
  · exact absurd c4 (by decide)

set_option maxHeartbeats 4000000 in
set_option maxRecDepth 100000 in
theorem w_ch3 (l : Launch) (v : VV) (cj : Nat) (ou : Nat) (x0 : Int32) (x1 : Int32) (x2 : Int32) (w : va_W) (f : Nat → Int32) {fs9 : List Value} (Q : va_W → Prop) (rm : Room) (ans : Int32) (hq : ([w] : List va_W).flatten[0]? = some (cj, .inr (6, fs9))) (h1 : rm.cells = 0) (h2 : rm.slots = 0) (h3 : rm.frames ≤ 8) (h4 : rm.locals ≤ 200) (hM : MI l v yX6_assume cX6_assume 4 (some .int) rm [.ref cj, .int x0, .int x1, .int x2] [w] (fun r w_ => r = ans ∧ ∃ w1, Q w1 ∧ w_ = [w1]) 0 0) : MW l v yL_changes cL_changes 7 (some .int) [(0, 47, 50, 24), (0, 47, 54, 26), (0, 47, 58, 28)] ({ frames := 9, cells := 0, slots := 0, locals := 260 }) [.ref cj, .int (nI 3), .int x0, .int x1, .int x2, .ref ou] [w, cOi v ou f] (fun r w_ => r = nI 0 ∧ ∃ w1 f', Q w1 ∧ f' 0 = ans ∧ w_ = [w1, cOi v ou f']) 0 0 := by
  refine mw_int (by decide) (Nat.le_of_ble_eq_true rfl) [(0, .ref cj), (1, .int (nI 3)), (2, .int x0), (3, .int x1), (4, .int x2), (5, .ref ou)] rfl (fun k X T hnc E => ?_)
  refine g_aload X dL_changes_0 5 rfl ?_
  refine g_iconst (x := nI 0) X dL_changes_2 (by decide +kernel) ?_
  refine g_iload_n X dL_changes_3 1 rfl rfl ?_
  refine g_if_neN (tgt := 14) X dL_changes_4 (by decide) (by omega) (fun c4 => ?_) (fun c4 => ?_)
  · refine g_iload_n X dL_changes_14 1 rfl rfl ?_
    refine g_iconst (x := nI 1) X dL_changes_15 (by decide +kernel) ?_
    refine g_icmp_neN (tgt := 26) X dL_changes_16 (by decide) (by omega) (by omega) (fun c16 => ?_) (fun c16 => ?_)
    · refine g_iload_n X dL_changes_26 1 rfl rfl ?_
      refine g_iconst (x := nI 2) X dL_changes_27 (by decide +kernel) ?_
      refine g_icmp_neN (tgt := 38) X dL_changes_28 (by decide) (by omega) (by omega) (fun c28 => ?_) (fun c28 => ?_)
      · refine g_aload_n X dL_changes_38 0 rfl rfl ?_
        refine g_iload_n X dL_changes_39 2 rfl rfl ?_
        refine g_iload_n X dL_changes_40 3 rfl rfl ?_
        refine g_iload X dL_changes_41 4 rfl ?_
        refine g_callV (As := [.int x0, .int x1, .int x2]) (rest := [.int (nI 0), .ref ou]) (wr := [cOi v ou f]) X hM f_X6_assume q_15_11 dL_changes_43 [0] [1] rfl rfl (by decide) 0 hq rfl rfl rfl (Nat.le_of_ble_eq_true rfl) ⟨h1, h2, (by show rm.frames + 1 ≤ 9; omega), (by show 8 + (4 + 11) + rm.locals ≤ 260; omega), (by decide), (by decide)⟩ (fun r_ w_ hp1 => ?_)
        obtain ⟨hr9, w1, hQ, rfl⟩ := hp1
        rw [hr9]
        show GG k _ _ [w1, cOi v ou f] _ _ [.int ans, .int (nI 0), .ref ou]
        refine g_iast (cs' := [w1, [(ou, .inl (v.2.1 0, 1, .inl (upd f 0 ans)))]]) X dL_changes_46 1 0 rfl rfl (by omega) (by omega) rfl ?_
        refine g_goto (tgt := 62) X dL_changes_47 (by decide) ?_
        refine g_iconst (x := nI 0) X dL_changes_62 (by decide +kernel) ?_
        exact E dL_changes_63 rfl (rfl) (by decide) (by decide) (⟨rfl, w1, _, hQ, if_pos rfl, rfl⟩)
      · exact absurd c28 (by decide)
    · exact absurd c16 (by decide)
  · exact absurd c4 (by decide)

set_option maxHeartbeats 4000000 in
set_option maxRecDepth 100000 in
theorem w1_ch3 (l : Launch) (v : VV) (cj : Nat) (ou : Nat) (x0 : Int32) (x1 : Int32) (x2 : Int32) (w : va_W) (f : Nat → Int32) {fs9 : List Value} (Q : va_W → Prop) (rm : Room) (hq : ([w] : List va_W).flatten[0]? = some (cj, .inr (6, fs9))) (h1 : rm.cells = 1) (h2 : rm.slots = 6) (h3 : rm.frames ≤ 8) (h4 : rm.locals ≤ 200) (hM : XI l v yX6_assume cX6_assume 4 (some .int) rm [.ref cj, .int x0, .int x1, .int x2] [w] (fun _ _ => False) (fun E w_ => E = "java/lang/IndexOutOfBoundsException" ∧ ∃ w1, Q w1 ∧ w_ = [w1]) 1 6) : MW l v yL_changes cL_changes 7 (some .int) [(0, 47, 50, 24), (0, 47, 54, 26), (0, 47, 58, 28)] ({ frames := 9, cells := 1, slots := 6, locals := 260 }) [.ref cj, .int (nI 3), .int x0, .int x1, .int x2, .ref ou] [w, cOi v ou f] (fun r w_ => r = nI 1 ∧ ∃ w1, Q w1 ∧ w_ = [w1, cOi v ou f]) 1 6 := by
  refine mw_int (by decide) (Nat.le_of_ble_eq_true rfl) [(0, .ref cj), (1, .int (nI 3)), (2, .int x0), (3, .int x1), (4, .int x2), (5, .ref ou)] rfl (fun k X T hnc E => ?_)
  refine g_aload X dL_changes_0 5 rfl ?_
  refine g_iconst (x := nI 0) X dL_changes_2 (by decide +kernel) ?_
  refine g_iload_n X dL_changes_3 1 rfl rfl ?_
  refine g_if_neN (tgt := 14) X dL_changes_4 (by decide) (by omega) (fun c4 => ?_) (fun c4 => ?_)
  · refine g_iload_n X dL_changes_14 1 rfl rfl ?_
    refine g_iconst (x := nI 1) X dL_changes_15 (by decide +kernel) ?_
    refine g_icmp_neN (tgt := 26) X dL_changes_16 (by decide) (by omega) (by omega) (fun c16 => ?_) (fun c16 => ?_)
    · refine g_iload_n X dL_changes_26 1 rfl rfl ?_
      refine g_iconst (x := nI 2) X dL_changes_27 (by decide +kernel) ?_
      refine g_icmp_neN (tgt := 38) X dL_changes_28 (by decide) (by omega) (by omega) (fun c28 => ?_) (fun c28 => ?_)
      · refine g_aload_n X dL_changes_38 0 rfl rfl ?_
        refine g_iload_n X dL_changes_39 2 rfl rfl ?_
        refine g_iload_n X dL_changes_40 3 rfl rfl ?_
        refine g_iload X dL_changes_41 4 rfl ?_
        refine g_xVC (As := [.int x0, .int x1, .int x2]) (rest := [.int (nI 0), .ref ou]) (wr := [cOi v ou f]) X hM f_X6_assume q_15_11 dL_changes_43 [0] [1] rfl rfl (by decide) 0 hq rfl rfl rfl (Nat.le_of_ble_eq_true rfl) ⟨h1, h2, (by show rm.frames + 1 ≤ 9; omega), (by show 8 + (4 + 11) + rm.locals ≤ 260; omega), (by decide), (by decide)⟩ (fun r_ w_ hp => hp.elim) (fun E_ w_ hp1 => ?_)
        obtain ⟨rfl, w1, hQ, rfl⟩ := hp1
        refine ⟨50, ct_1 (q := ("java/lang/IndexOutOfBoundsException", 258, 254)) X T (List.mem_of_getElem? (i := 0) rfl) q_6_1 (by decide) (by decide), fun q9 => ?_⟩
        show GG k _ _ [w1, cOi v ou f] _ _ [.ref q9]
        refine g_astore (lv' := [(6, .ref q9), (0, .ref cj), (1, .int (nI 3)), (2, .int x0), (3, .int x1), (4, .int x2), (5, .ref ou)]) X dL_changes_50 (by decide) rfl ?_
        refine g_iconst (x := nI 1) X dL_changes_52 (by decide +kernel) ?_
        exact E dL_changes_53 rfl (rfl) (by decide) (by decide) (⟨rfl, w1, hQ, rfl⟩)
      · exact absurd c28 (by decide)
    · exact absurd c16 (by decide)
  · exact absurd c4 (by decide)

set_option maxHeartbeats 4000000 in
set_option maxRecDepth 100000 in
theorem w2_ch3 (l : Launch) (v : VV) (cj : Nat) (ou : Nat) (x0 : Int32) (x1 : Int32) (x2 : Int32) (w : va_W) (f : Nat → Int32) {fs9 : List Value} (Q : va_W → Prop) (rm : Room) (hq : ([w] : List va_W).flatten[0]? = some (cj, .inr (6, fs9))) (h1 : rm.cells = 1) (h2 : rm.slots = 6) (h3 : rm.frames ≤ 8) (h4 : rm.locals ≤ 200) (hM : XI l v yX6_assume cX6_assume 4 (some .int) rm [.ref cj, .int x0, .int x1, .int x2] [w] (fun _ _ => False) (fun E w_ => E = "java/lang/IllegalArgumentException" ∧ ∃ w1, Q w1 ∧ w_ = [w1]) 1 6) : MW l v yL_changes cL_changes 7 (some .int) [(0, 47, 50, 24), (0, 47, 54, 26), (0, 47, 58, 28)] ({ frames := 9, cells := 1, slots := 6, locals := 260 }) [.ref cj, .int (nI 3), .int x0, .int x1, .int x2, .ref ou] [w, cOi v ou f] (fun r w_ => r = nI 2 ∧ ∃ w1, Q w1 ∧ w_ = [w1, cOi v ou f]) 1 6 := by
  refine mw_int (by decide) (Nat.le_of_ble_eq_true rfl) [(0, .ref cj), (1, .int (nI 3)), (2, .int x0), (3, .int x1), (4, .int x2), (5, .ref ou)] rfl (fun k X T hnc E => ?_)
  refine g_aload X dL_changes_0 5 rfl ?_
  refine g_iconst (x := nI 0) X dL_changes_2 (by decide +kernel) ?_
  refine g_iload_n X dL_changes_3 1 rfl rfl ?_
  refine g_if_neN (tgt := 14) X dL_changes_4 (by decide) (by omega) (fun c4 => ?_) (fun c4 => ?_)
  · refine g_iload_n X dL_changes_14 1 rfl rfl ?_
    refine g_iconst (x := nI 1) X dL_changes_15 (by decide +kernel) ?_
    refine g_icmp_neN (tgt := 26) X dL_changes_16 (by decide) (by omega) (by omega) (fun c16 => ?_) (fun c16 => ?_)
    · refine g_iload_n X dL_changes_26 1 rfl rfl ?_
      refine g_iconst (x := nI 2) X dL_changes_27 (by decide +kernel) ?_
      refine g_icmp_neN (tgt := 38) X dL_changes_28 (by decide) (by omega) (by omega) (fun c28 => ?_) (fun c28 => ?_)
      · refine g_aload_n X dL_changes_38 0 rfl rfl ?_
        refine g_iload_n X dL_changes_39 2 rfl rfl ?_
        refine g_iload_n X dL_changes_40 3 rfl rfl ?_
        refine g_iload X dL_changes_41 4 rfl ?_
        refine g_xVC (As := [.int x0, .int x1, .int x2]) (rest := [.int (nI 0), .ref ou]) (wr := [cOi v ou f]) X hM f_X6_assume q_15_11 dL_changes_43 [0] [1] rfl rfl (by decide) 0 hq rfl rfl rfl (Nat.le_of_ble_eq_true rfl) ⟨h1, h2, (by show rm.frames + 1 ≤ 9; omega), (by show 8 + (4 + 11) + rm.locals ≤ 260; omega), (by decide), (by decide)⟩ (fun r_ w_ hp => hp.elim) (fun E_ w_ hp1 => ?_)
        obtain ⟨rfl, w1, hQ, rfl⟩ := hp1
        refine ⟨54, ct_2 (nm := "java/lang/IndexOutOfBoundsException") (q := ("java/lang/IllegalArgumentException", 74, 70)) X T hnc (fun _ h => h.1) (List.mem_of_getElem? (i := 1) rfl) q_6_1 (by decide) q_6_2 (by decide) (by decide), fun q9 => ?_⟩
        show GG k _ _ [w1, cOi v ou f] _ _ [.ref q9]
        refine g_astore (lv' := [(6, .ref q9), (0, .ref cj), (1, .int (nI 3)), (2, .int x0), (3, .int x1), (4, .int x2), (5, .ref ou)]) X dL_changes_54 (by decide) rfl ?_
        refine g_iconst (x := nI 2) X dL_changes_56 (by decide +kernel) ?_
        exact E dL_changes_57 rfl (rfl) (by decide) (by decide) (⟨rfl, w1, hQ, rfl⟩)
      · exact absurd c28 (by decide)
    · exact absurd c16 (by decide)
  · exact absurd c4 (by decide)

