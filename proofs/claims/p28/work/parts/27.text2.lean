/-! ## Text -/
theorem narC_t : ∀ c : Nat, c < 127 → narrow .char (.int (nI c)) = .int (nI c) := by decide +kernel

set_option maxHeartbeats 4000000 in
set_option maxRecDepth 100000 in
theorem c_X5_next (l : Launch) (v : VV) (t : Nat → Nat) (la : Nat) (ln : Nat) (p : Nat) (x1 : Int32) (x2 : Int32) (x3 : Int32) (x4 : Int32) (x5 : Int32) (fc : Nat → Int32) (tx : Nat → Nat) (hT : TxR tx ln fc) (hp : p ≤ 100) : MI l v yX5_next cX5_next 1 (some .char) ({ frames := 0, cells := 0, slots := 0, locals := 0 }) [.ref (t 0)] [[((t 0), .inr (5, [.ref (t 1), .int (nI ln), .ref la, .int (nI p), .int x1, .int x2, .int x3, .int x4, .int x5]))], cCh v t fc] (fun r w_ => r = nI (nxc tx ln p) ∧ w_ = [[(t 0, .inr (5, [.ref (t 1), .int (nI ln), .ref la, .int (nI p), .int x1, .int x2, .int x3, .int x4, .int x5]))], cCh v t fc]) 0 0 := by
  refine mm_int (by decide) (Nat.le_of_ble_eq_true rfl) [(0, .ref (t 0))] rfl (fun k X E => ?_)
  have hT1 := hT.1
  refine g_aload_n X dX5_next_0 0 rfl rfl ?_
  refine g_get X cb5 3 q_6_12 dX5_next_1 0 0 rfl rfl (by decide) rfl rfl ?_
  refine g_aload_n X dX5_next_4 0 rfl rfl ?_
  refine g_get X cb5 1 q_5_18 dX5_next_5 0 0 rfl rfl (by decide) rfl rfl ?_
  refine g_icmp_geN (tgt := 23) X dX5_next_8 (by decide) (by have := hT.1; omega) (by have := hT.1; omega) (fun c8 => ?_) (fun c8 => ?_)
  · refine g_iconst (x := nI 0) X dX5_next_23 (by decide +kernel) ?_
    exact E dX5_next_24 rfl (rfl) (by decide) (by decide) (⟨by rw [nxc, if_neg (by omega)], rfl⟩)
  · refine g_aload_n X dX5_next_11 0 rfl rfl ?_
    refine g_get X cb5 0 q_4_8 dX5_next_12 0 0 rfl rfl (by decide) rfl rfl ?_
    refine g_aload_n X dX5_next_15 0 rfl rfl ?_
    refine g_get X cb5 3 q_6_12 dX5_next_16 0 0 rfl rfl (by decide) rfl rfl ?_
    refine g_cald X dX5_next_19 1 0 rfl rfl (by omega) (by omega) ?_
    refine g_v (y := nI (tx p)) ((hT.2 p c8).1) ?_
    refine g_goto (tgt := 24) X dX5_next_20 (by decide) ?_
    exact E dX5_next_24 rfl (narC_t _ (hT.2 p c8).2.2) (by decide) (by decide) (⟨by rw [nxc, if_pos c8], rfl⟩)

set_option maxHeartbeats 4000000 in
set_option maxRecDepth 100000 in
theorem c_X5_take (l : Launch) (v : VV) (t : Nat → Nat) (la : Nat) (ln : Nat) (p : Nat) (x1 : Int32) (x2 : Int32) (x3 : Int32) (x4 : Int32) (x5 : Int32) (fc : Nat → Int32) (tx : Nat → Nat) (w : Nat) (hT : TxR tx ln fc) (hp : p ≤ 99) (hw : w < 127) : MI l v yX5_take cX5_take 2 (some .boolean) ({ frames := 1, cells := 0, slots := 0, locals := 20 }) [.ref (t 0), .int (nI w)] [[((t 0), .inr (5, [.ref (t 1), .int (nI ln), .ref la, .int (nI p), .int x1, .int x2, .int x3, .int x4, .int x5]))], cCh v t fc] (fun r w_ => if nxc tx ln p = w then r = nI 1 ∧ w_ = [[(t 0, .inr (5, [.ref (t 1), .int (nI ln), .ref la, .int (nI (p + 1)), .int x1, .int x2, .int x3, .int x4, .int x5]))], cCh v t fc] else r = nI 0 ∧ w_ = [[(t 0, .inr (5, [.ref (t 1), .int (nI ln), .ref la, .int (nI p), .int x1, .int x2, .int x3, .int x4, .int x5]))], cCh v t fc]) 0 0 := by
  refine mm_int (by decide) (Nat.le_of_ble_eq_true rfl) [(0, .ref (t 0)), (1, .int (nI w))] rfl (fun k X E => ?_)
  refine g_aload_n X dX5_take_0 0 rfl rfl ?_
  refine g_callV (As := []) (rest := []) (wr := []) X (c_X5_next l v t la ln p x1 x2 x3 x4 x5 fc tx hT (by omega)) f_X5_next q_7_5 dX5_take_1 [0, 1] [] rfl rfl (by decide) 0 rfl rfl rfl rfl (Nat.le_of_ble_eq_true rfl) (by decide) (fun r_ w_ hp2 => ?_)
  have hz1 := nxc_lt hT p
  obtain ⟨rfl, rfl⟩ := hp2
  show GG k _ _ [[((t 0), .inr (5, [.ref (t 1), .int (nI ln), .ref la, .int (nI p), .int x1, .int x2, .int x3, .int x4, .int x5]))], cCh v t fc] _ _ [.int (nI (nxc tx ln p))]
  refine g_iload_n X dX5_take_4 1 rfl rfl ?_
  refine g_icmp_eqN (tgt := 10) X dX5_take_5 (by decide) (by omega) (by omega) (fun c5 => ?_) (fun c5 => ?_)
  · refine g_aload_n X dX5_take_10 0 rfl rfl ?_
    refine g_dup X dX5_take_11 rfl ?_
    refine g_get X cb5 3 q_6_12 dX5_take_12 0 0 rfl rfl (by decide) rfl rfl ?_
    refine g_iconst (x := nI 1) X dX5_take_15 (by decide +kernel) ?_
    refine g_iaddN X dX5_take_16 ?_
    refine g_put (cs' := [[((t 0), .inr (5, [.ref (t 1), .int (nI ln), .ref la, .int (nI (p + 1)), .int x1, .int x2, .int x3, .int x4, .int x5]))], cCh v t fc]) X cb5 3 q_6_12 dX5_take_17 0 0 rfl rfl (by decide) rfl rfl (rfl) (rfl) (Nat.le_of_ble_eq_true rfl) rfl ?_
    refine g_iconst (x := nI 1) X dX5_take_20 (by decide +kernel) ?_
    exact E dX5_take_21 rfl (rfl) (by decide) (by decide) (by dsimp only; rw [if_pos (by omega)]; exact ⟨rfl, rfl⟩)
  · refine g_iconst (x := nI 0) X dX5_take_8 (by decide +kernel) ?_
    exact E dX5_take_9 rfl (rfl) (by decide) (by decide) (by dsimp only; rw [if_neg (by omega)]; exact ⟨rfl, rfl⟩)

set_option maxHeartbeats 4000000 in
set_option maxRecDepth 100000 in
theorem c_X5_isDigitTo (l : Launch) (v : VV) (t : Nat → Nat) (la : Nat) (ln : Nat) (p : Nat) (x1 : Int32) (x2 : Int32) (x3 : Int32) (x4 : Int32) (x5 : Int32) (fc : Nat → Int32) (tx : Nat → Nat) (w : Nat) (hT : TxR tx ln fc) (hp : p ≤ 99) (hw : w < 127) : MI l v yX5_isDigitTo cX5_isDigitTo 2 (some .boolean) ({ frames := 1, cells := 0, slots := 0, locals := 20 }) [.ref (t 0), .int (nI w)] [[((t 0), .inr (5, [.ref (t 1), .int (nI ln), .ref la, .int (nI p), .int x1, .int x2, .int x3, .int x4, .int x5]))], cCh v t fc] (fun r w_ => if 48 ≤ nxc tx ln p ∧ nxc tx ln p ≤ w then r = nI 1 ∧ w_ = [[(t 0, .inr (5, [.ref (t 1), .int (nI ln), .ref la, .int (nI p), .int x1, .int x2, .int x3, .int x4, .int x5]))], cCh v t fc] else r = nI 0 ∧ w_ = [[(t 0, .inr (5, [.ref (t 1), .int (nI ln), .ref la, .int (nI p), .int x1, .int x2, .int x3, .int x4, .int x5]))], cCh v t fc]) 0 0 := by
  refine mm_int (by decide) (Nat.le_of_ble_eq_true rfl) [(0, .ref (t 0)), (1, .int (nI w))] rfl (fun k X E => ?_)
  refine g_aload_n X dX5_isDigitTo_0 0 rfl rfl ?_
  refine g_callV (As := []) (rest := []) (wr := []) X (c_X5_next l v t la ln p x1 x2 x3 x4 x5 fc tx hT (by omega)) f_X5_next q_7_5 dX5_isDigitTo_1 [0, 1] [] rfl rfl (by decide) 0 rfl rfl rfl rfl (Nat.le_of_ble_eq_true rfl) (by decide) (fun r_ w_ hp2 => ?_)
  have hz1 := nxc_lt hT p
  obtain ⟨rfl, rfl⟩ := hp2
  show GG k _ _ [[((t 0), .inr (5, [.ref (t 1), .int (nI ln), .ref la, .int (nI p), .int x1, .int x2, .int x3, .int x4, .int x5]))], cCh v t fc] _ _ [.int (nI (nxc tx ln p))]
  refine g_bipush (x := nI 48) X dX5_isDigitTo_4 (by decide +kernel) ?_
  refine g_icmp_ltN (tgt := 21) X dX5_isDigitTo_6 (by decide) (by omega) (by omega) (fun c6 => ?_) (fun c6 => ?_)
  · refine g_iconst (x := nI 0) X dX5_isDigitTo_21 (by decide +kernel) ?_
    exact E dX5_isDigitTo_22 rfl (rfl) (by decide) (by decide) (by dsimp only; rw [if_neg (by omega)]; exact ⟨rfl, rfl⟩)
  · refine g_aload_n X dX5_isDigitTo_9 0 rfl rfl ?_
    refine g_callV (As := []) (rest := []) (wr := []) X (c_X5_next l v t la ln p x1 x2 x3 x4 x5 fc tx hT (by omega)) f_X5_next q_7_5 dX5_isDigitTo_10 [0, 1] [] rfl rfl (by decide) 0 rfl rfl rfl rfl (Nat.le_of_ble_eq_true rfl) (by decide) (fun r_ w_ hp4 => ?_)
    have hz3 := nxc_lt hT p
    obtain ⟨rfl, rfl⟩ := hp4
    show GG k _ _ [[((t 0), .inr (5, [.ref (t 1), .int (nI ln), .ref la, .int (nI p), .int x1, .int x2, .int x3, .int x4, .int x5]))], cCh v t fc] _ _ [.int (nI (nxc tx ln p))]
    refine g_iload_n X dX5_isDigitTo_13 1 rfl rfl ?_
    refine g_icmp_gtN (tgt := 21) X dX5_isDigitTo_14 (by decide) (by omega) (by omega) (fun c14 => ?_) (fun c14 => ?_)
    · refine g_iconst (x := nI 0) X dX5_isDigitTo_21 (by decide +kernel) ?_
      exact E dX5_isDigitTo_22 rfl (rfl) (by decide) (by decide) (by dsimp only; rw [if_neg (by omega)]; exact ⟨rfl, rfl⟩)
    · refine g_iconst (x := nI 1) X dX5_isDigitTo_17 (by decide +kernel) ?_
      refine g_goto (tgt := 22) X dX5_isDigitTo_18 (by decide) ?_
      exact E dX5_isDigitTo_22 rfl (rfl) (by decide) (by decide) (by dsimp only; rw [if_pos (by omega)]; exact ⟨rfl, rfl⟩)

set_option maxHeartbeats 4000000 in
set_option maxRecDepth 100000 in
theorem c_X5_takeVariable (l : Launch) (v : VV) (t : Nat → Nat) (la : Nat) (ln : Nat) (p : Nat) (x1 : Int32) (x2 : Int32) (x3 : Int32) (x4 : Int32) (x5 : Int32) (fc : Nat → Int32) (tx : Nat → Nat) (hT : TxR tx ln fc) (hp : p ≤ 99) : MI l v yX5_takeVariable cX5_takeVariable 2 (some .boolean) ({ frames := 4, cells := 0, slots := 0, locals := 91 }) [.ref (t 0)] [[((t 0), .inr (5, [.ref (t 1), .int (nI ln), .ref la, .int (nI p), .int x1, .int x2, .int x3, .int x4, .int x5]))], cCh v t fc] (fun r w_ => match vcl (nxc tx ln p) with | none => r = nI 0 ∧ w_ = [[(t 0, .inr (5, [.ref (t 1), .int (nI ln), .ref la, .int (nI p), .int x1, .int x2, .int x3, .int x4, .int x5]))], cCh v t fc] | some aa => r = nI 1 ∧ w_ = [[(t 0, .inr (5, [.ref (t 1), .int (nI ln), .ref la, .int (nI (p + 1)), .int (nI aa), .int x2, .int x3, .int x4, .int x5]))], cCh v t fc]) 0 0 := by
  refine mm_int (by decide) (Nat.le_of_ble_eq_true rfl) [(0, .ref (t 0))] rfl (fun k X E => ?_)
  have hz0 := nxc_lt hT p
  refine g_ldcS 0 X rfl dX5_takeVariable_0 ?_
  refine g_aload_n X dX5_takeVariable_2 0 rfl rfl ?_
  refine g_callV (As := []) (rest := [.ref (v.2.2.1 0)]) (wr := []) X (c_X5_next l v t la ln p x1 x2 x3 x4 x5 fc tx hT (by omega)) f_X5_next q_7_5 dX5_takeVariable_3 [0, 1] [] rfl rfl (by decide) 0 rfl rfl rfl rfl (Nat.le_of_ble_eq_true rfl) (by decide) (fun r_ w_ hp2 => ?_)
  have hz1 := nxc_lt hT p
  obtain ⟨rfl, rfl⟩ := hp2
  show GG k _ _ [[((t 0), .inr (5, [.ref (t 1), .int (nI ln), .ref la, .int (nI p), .int x1, .int x2, .int x3, .int x4, .int x5]))], cCh v t fc] _ _ [.int (nI (nxc tx ln p)), .ref (v.2.2.1 0)]
  refine g_callVS (As := [.int (nI (nxc tx ln p))]) (rest := []) (wr := [[((t 0), .inr (5, [.ref (t 1), .int (nI ln), .ref la, .int (nI p), .int x1, .int x2, .int x3, .int x4, .int x5]))], cCh v t fc]) X 0 (by decide) (c_idx0 l v (nxc tx ln p) (nxc_lt hT _)) f_J0_indexOf_0f7a4 q_7_18 dX5_takeVariable_6 [] [0, 1] rfl rfl (by decide) rfl rfl (Nat.le_of_ble_eq_true rfl) (by decide) (fun r_ w_ hp3 => ?_)
  cases hv6 : vcl (nxc tx ln p) with
  | none =>
    have hp3q := hp3
    rw [hv6] at hp3
    obtain ⟨rfl, rfl⟩ := hp3
    show GG k _ _ [[((t 0), .inr (5, [.ref (t 1), .int (nI ln), .ref la, .int (nI p), .int x1, .int x2, .int x3, .int x4, .int x5]))], cCh v t fc] _ _ [.int (zI (-1))]
    refine g_istore_n (lv' := [(1, .int (zI (-1))), (0, .ref (t 0))]) X dX5_takeVariable_9 rfl (by decide) rfl ?_
    refine g_iload_n X dX5_takeVariable_10 0 rfl rfl ?_
    refine g_if_ge (tgt := 16) X dX5_takeVariable_11 (by decide) (fun c11 => ?_) (fun c11 => ?_)
    · exact absurd c11 (by decide)
    · refine g_iconst (x := nI 0) X dX5_takeVariable_14 (by decide +kernel) ?_
      exact E dX5_takeVariable_15 rfl (rfl) (by decide) (by decide) (by first | (simp only [hv6, true_and]; done) | (simp only [hv6]; exact ⟨rfl, rfl⟩))
  | some ahv6 =>
    have hp3q := hp3
    rw [hv6] at hp3
    have hlhv6 := vcl_lt hv6
    obtain ⟨rfl, rfl⟩ := hp3
    show GG k _ _ [[((t 0), .inr (5, [.ref (t 1), .int (nI ln), .ref la, .int (nI p), .int x1, .int x2, .int x3, .int x4, .int x5]))], cCh v t fc] _ _ [.int (nI ahv6)]
    refine g_istore_n (lv' := [(1, .int (nI ahv6)), (0, .ref (t 0))]) X dX5_takeVariable_9 rfl (by decide) rfl ?_
    refine g_iload_n X dX5_takeVariable_10 0 rfl rfl ?_
    refine g_if_geN (tgt := 16) X dX5_takeVariable_11 (by decide) (by omega) ?_
    refine g_aload_n X dX5_takeVariable_16 1 rfl rfl ?_
    refine g_iload_n X dX5_takeVariable_17 0 rfl rfl ?_
    refine g_put (cs' := [[((t 0), .inr (5, [.ref (t 1), .int (nI ln), .ref la, .int (nI p), .int (nI ahv6), .int x2, .int x3, .int x4, .int x5]))], cCh v t fc]) X cb5 4 q_7_17 dX5_takeVariable_18 0 0 rfl rfl (by decide) rfl rfl (rfl) (rfl) (Nat.le_of_ble_eq_true rfl) rfl ?_
    refine g_aload_n X dX5_takeVariable_21 1 rfl rfl ?_
    refine g_dup X dX5_takeVariable_22 rfl ?_
    refine g_get X cb5 3 q_6_12 dX5_takeVariable_23 0 0 rfl rfl (by decide) rfl rfl ?_
    refine g_iconst (x := nI 1) X dX5_takeVariable_26 (by decide +kernel) ?_
    refine g_iaddN X dX5_takeVariable_27 ?_
    refine g_put (cs' := [[((t 0), .inr (5, [.ref (t 1), .int (nI ln), .ref la, .int (nI (p + 1)), .int (nI ahv6), .int x2, .int x3, .int x4, .int x5]))], cCh v t fc]) X cb5 3 q_6_12 dX5_takeVariable_28 0 0 rfl rfl (by decide) rfl rfl (rfl) (rfl) (Nat.le_of_ble_eq_true rfl) rfl ?_
    refine g_iconst (x := nI 1) X dX5_takeVariable_31 (by decide +kernel) ?_
    exact E dX5_takeVariable_32 rfl (rfl) (by decide) (by decide) (by first | (simp only [hv6, true_and]; done) | (simp only [hv6]; exact ⟨rfl, rfl⟩))

set_option maxHeartbeats 4000000 in
set_option maxRecDepth 100000 in
theorem c_X5_takeSign (l : Launch) (v : VV) (t : Nat → Nat) (la : Nat) (ln : Nat) (p : Nat) (x1 : Int32) (x2 : Int32) (x3 : Int32) (x4 : Int32) (x5 : Int32) (fc : Nat → Int32) (tx : Nat → Nat) (hT : TxR tx ln fc) (hp : p ≤ 99) : MI l v yX5_takeSign cX5_takeSign 2 (some .boolean) ({ frames := 4, cells := 0, slots := 0, locals := 91 }) [.ref (t 0)] [[((t 0), .inr (5, [.ref (t 1), .int (nI ln), .ref la, .int (nI p), .int x1, .int x2, .int x3, .int x4, .int x5]))], cCh v t fc] (fun r w_ => match scl (nxc tx ln p) with | none => r = nI 0 ∧ w_ = [[(t 0, .inr (5, [.ref (t 1), .int (nI ln), .ref la, .int (nI p), .int x1, .int x2, .int x3, .int x4, .int x5]))], cCh v t fc] | some aa => r = nI 1 ∧ w_ = [[(t 0, .inr (5, [.ref (t 1), .int (nI ln), .ref la, .int (nI (p + 1)), .int x1, .int (nI aa), .int x3, .int x4, .int x5]))], cCh v t fc]) 0 0 := by
  refine mm_int (by decide) (Nat.le_of_ble_eq_true rfl) [(0, .ref (t 0))] rfl (fun k X E => ?_)
  have hz0 := nxc_lt hT p
  refine g_ldcS 1 X rfl dX5_takeSign_0 ?_
  refine g_aload_n X dX5_takeSign_2 0 rfl rfl ?_
  refine g_callV (As := []) (rest := [.ref (v.2.2.1 1)]) (wr := []) X (c_X5_next l v t la ln p x1 x2 x3 x4 x5 fc tx hT (by omega)) f_X5_next q_7_5 dX5_takeSign_3 [0, 1] [] rfl rfl (by decide) 0 rfl rfl rfl rfl (Nat.le_of_ble_eq_true rfl) (by decide) (fun r_ w_ hp2 => ?_)
  have hz1 := nxc_lt hT p
  obtain ⟨rfl, rfl⟩ := hp2
  show GG k _ _ [[((t 0), .inr (5, [.ref (t 1), .int (nI ln), .ref la, .int (nI p), .int x1, .int x2, .int x3, .int x4, .int x5]))], cCh v t fc] _ _ [.int (nI (nxc tx ln p)), .ref (v.2.2.1 1)]
  refine g_callVS (As := [.int (nI (nxc tx ln p))]) (rest := []) (wr := [[((t 0), .inr (5, [.ref (t 1), .int (nI ln), .ref la, .int (nI p), .int x1, .int x2, .int x3, .int x4, .int x5]))], cCh v t fc]) X 1 (by decide) (c_idx1 l v (nxc tx ln p) (nxc_lt hT _)) f_J0_indexOf_0f7a4 q_7_18 dX5_takeSign_6 [] [0, 1] rfl rfl (by decide) rfl rfl (Nat.le_of_ble_eq_true rfl) (by decide) (fun r_ w_ hp3 => ?_)
  cases hv6 : scl (nxc tx ln p) with
  | none =>
    have hp3q := hp3
    rw [hv6] at hp3
    obtain ⟨rfl, rfl⟩ := hp3
    show GG k _ _ [[((t 0), .inr (5, [.ref (t 1), .int (nI ln), .ref la, .int (nI p), .int x1, .int x2, .int x3, .int x4, .int x5]))], cCh v t fc] _ _ [.int (zI (-1))]
    refine g_istore_n (lv' := [(1, .int (zI (-1))), (0, .ref (t 0))]) X dX5_takeSign_9 rfl (by decide) rfl ?_
    refine g_iload_n X dX5_takeSign_10 0 rfl rfl ?_
    refine g_if_ge (tgt := 16) X dX5_takeSign_11 (by decide) (fun c11 => ?_) (fun c11 => ?_)
    · exact absurd c11 (by decide)
    · refine g_iconst (x := nI 0) X dX5_takeSign_14 (by decide +kernel) ?_
      exact E dX5_takeSign_15 rfl (rfl) (by decide) (by decide) (by first | (simp only [hv6, true_and]; done) | (simp only [hv6]; exact ⟨rfl, rfl⟩))
  | some ahv6 =>
    have hp3q := hp3
    rw [hv6] at hp3
    have hlhv6 := scl_lt hv6
    obtain ⟨rfl, rfl⟩ := hp3
    show GG k _ _ [[((t 0), .inr (5, [.ref (t 1), .int (nI ln), .ref la, .int (nI p), .int x1, .int x2, .int x3, .int x4, .int x5]))], cCh v t fc] _ _ [.int (nI ahv6)]
    refine g_istore_n (lv' := [(1, .int (nI ahv6)), (0, .ref (t 0))]) X dX5_takeSign_9 rfl (by decide) rfl ?_
    refine g_iload_n X dX5_takeSign_10 0 rfl rfl ?_
    refine g_if_geN (tgt := 16) X dX5_takeSign_11 (by decide) (by omega) ?_
    refine g_aload_n X dX5_takeSign_16 1 rfl rfl ?_
    refine g_iload_n X dX5_takeSign_17 0 rfl rfl ?_
    refine g_put (cs' := [[((t 0), .inr (5, [.ref (t 1), .int (nI ln), .ref la, .int (nI p), .int x1, .int (nI ahv6), .int x3, .int x4, .int x5]))], cCh v t fc]) X cb5 5 q_6_22 dX5_takeSign_18 0 0 rfl rfl (by decide) rfl rfl (rfl) (rfl) (Nat.le_of_ble_eq_true rfl) rfl ?_
    refine g_aload_n X dX5_takeSign_21 1 rfl rfl ?_
    refine g_dup X dX5_takeSign_22 rfl ?_
    refine g_get X cb5 3 q_6_12 dX5_takeSign_23 0 0 rfl rfl (by decide) rfl rfl ?_
    refine g_iconst (x := nI 1) X dX5_takeSign_26 (by decide +kernel) ?_
    refine g_iaddN X dX5_takeSign_27 ?_
    refine g_put (cs' := [[((t 0), .inr (5, [.ref (t 1), .int (nI ln), .ref la, .int (nI (p + 1)), .int x1, .int (nI ahv6), .int x3, .int x4, .int x5]))], cCh v t fc]) X cb5 3 q_6_12 dX5_takeSign_28 0 0 rfl rfl (by decide) rfl rfl (rfl) (rfl) (Nat.le_of_ble_eq_true rfl) rfl ?_
    refine g_iconst (x := nI 1) X dX5_takeSign_31 (by decide +kernel) ?_
    exact E dX5_takeSign_32 rfl (rfl) (by decide) (by decide) (by first | (simp only [hv6, true_and]; done) | (simp only [hv6]; exact ⟨rfl, rfl⟩))

set_option maxHeartbeats 4000000 in
set_option maxRecDepth 100000 in
theorem c_X5_takeOperand (l : Launch) (v : VV) (t : Nat → Nat) (la : Nat) (ln : Nat) (p : Nat) (x1 : Int32) (x2 : Int32) (x3 : Int32) (x4 : Int32) (x5 : Int32) (fc : Nat → Int32) (tx : Nat → Nat) (hT : TxR tx ln fc) (hp : p ≤ 99) : MI l v yX5_takeOperand cX5_takeOperand 2 (some .boolean) ({ frames := 4, cells := 0, slots := 0, locals := 91 }) [.ref (t 0)] [[((t 0), .inr (5, [.ref (t 1), .int (nI ln), .ref la, .int (nI p), .int x1, .int x2, .int x3, .int x4, .int x5]))], cCh v t fc] (fun r w_ => match ocl (nxc tx ln p) with | none => r = nI 0 ∧ w_ = [[(t 0, .inr (5, [.ref (t 1), .int (nI ln), .ref la, .int (nI p), .int x1, .int x2, .int x3, .int x4, .int x5]))], cCh v t fc] | some aa => r = nI 1 ∧ w_ = [[(t 0, .inr (5, [.ref (t 1), .int (nI ln), .ref la, .int (nI (p + 1)), .int x1, .int x2, .int (nI aa), .int x4, .int x5]))], cCh v t fc]) 0 0 := by
  refine mm_int (by decide) (Nat.le_of_ble_eq_true rfl) [(0, .ref (t 0))] rfl (fun k X E => ?_)
  have hz0 := nxc_lt hT p
  refine g_ldcS 0 X rfl dX5_takeOperand_0 ?_
  refine g_aload_n X dX5_takeOperand_2 0 rfl rfl ?_
  refine g_callV (As := []) (rest := [.ref (v.2.2.1 0)]) (wr := []) X (c_X5_next l v t la ln p x1 x2 x3 x4 x5 fc tx hT (by omega)) f_X5_next q_7_5 dX5_takeOperand_3 [0, 1] [] rfl rfl (by decide) 0 rfl rfl rfl rfl (Nat.le_of_ble_eq_true rfl) (by decide) (fun r_ w_ hp2 => ?_)
  have hz1 := nxc_lt hT p
  obtain ⟨rfl, rfl⟩ := hp2
  show GG k _ _ [[((t 0), .inr (5, [.ref (t 1), .int (nI ln), .ref la, .int (nI p), .int x1, .int x2, .int x3, .int x4, .int x5]))], cCh v t fc] _ _ [.int (nI (nxc tx ln p)), .ref (v.2.2.1 0)]
  refine g_callVS (As := [.int (nI (nxc tx ln p))]) (rest := []) (wr := [[((t 0), .inr (5, [.ref (t 1), .int (nI ln), .ref la, .int (nI p), .int x1, .int x2, .int x3, .int x4, .int x5]))], cCh v t fc]) X 0 (by decide) (c_idx0 l v (nxc tx ln p) (nxc_lt hT _)) f_J0_indexOf_0f7a4 q_7_18 dX5_takeOperand_6 [] [0, 1] rfl rfl (by decide) rfl rfl (Nat.le_of_ble_eq_true rfl) (by decide) (fun r_ w_ hp3 => ?_)
  cases hv6 : vcl (nxc tx ln p) with
  | none =>
    have hp3q := hp3
    rw [hv6] at hp3
    obtain ⟨rfl, rfl⟩ := hp3
    show GG k _ _ [[((t 0), .inr (5, [.ref (t 1), .int (nI ln), .ref la, .int (nI p), .int x1, .int x2, .int x3, .int x4, .int x5]))], cCh v t fc] _ _ [.int (zI (-1))]
    refine g_istore_n (lv' := [(1, .int (zI (-1))), (0, .ref (t 0))]) X dX5_takeOperand_9 rfl (by decide) rfl ?_
    refine g_iload_n X dX5_takeOperand_10 0 rfl rfl ?_
    refine g_if_ge (tgt := 25) X dX5_takeOperand_11 (by decide) (fun c11 => ?_) (fun c11 => ?_)
    · exact absurd c11 (by decide)
    · refine g_aload_n X dX5_takeOperand_14 1 rfl rfl ?_
      refine g_bipush (x := nI 55) X dX5_takeOperand_15 (by decide +kernel) ?_
      refine g_callV (As := [.int (nI 55)]) (rest := []) (wr := []) X (c_X5_isDigitTo l v t la ln p x1 x2 x3 x4 x5 fc tx 55 hT (by omega) (by decide)) f_X5_isDigitTo q_11_20 dX5_takeOperand_17 [0, 1] [] rfl rfl (by decide) 0 rfl rfl rfl rfl (Nat.le_of_ble_eq_true rfl) (by decide) (fun r_ w_ hp4 => ?_)
      by_cases hv17 : 48 ≤ nxc tx ln p ∧ nxc tx ln p ≤ 55
      · have hp4q := hp4
        rw [if_pos hv17] at hp4
        obtain ⟨rfl, rfl⟩ := hp4
        show GG k _ _ [[((t 0), .inr (5, [.ref (t 1), .int (nI ln), .ref la, .int (nI p), .int x1, .int x2, .int x3, .int x4, .int x5]))], cCh v t fc] _ _ [.int (nI 1)]
        refine g_if_neN (tgt := 25) X dX5_takeOperand_20 (by decide) (by omega) (fun c20 => ?_) (fun c20 => ?_)
        · refine g_aload_n X dX5_takeOperand_25 1 rfl rfl ?_
          refine g_iload_n X dX5_takeOperand_26 0 rfl rfl ?_
          refine g_if_ge (tgt := 40) X dX5_takeOperand_27 (by decide) (fun c27 => ?_) (fun c27 => ?_)
          · exact absurd c27 (by decide)
          · refine g_aload_n X dX5_takeOperand_30 1 rfl rfl ?_
            refine g_callV (As := []) (rest := [.ref (t 0)]) (wr := []) X (c_X5_next l v t la ln p x1 x2 x3 x4 x5 fc tx hT (by omega)) f_X5_next q_7_5 dX5_takeOperand_31 [0, 1] [] rfl rfl (by decide) 0 rfl rfl rfl rfl (Nat.le_of_ble_eq_true rfl) (by decide) (fun r_ w_ hp6 => ?_)
            have hz5 := nxc_lt hT p
            obtain ⟨rfl, rfl⟩ := hp6
            show GG k _ _ [[((t 0), .inr (5, [.ref (t 1), .int (nI ln), .ref la, .int (nI p), .int x1, .int x2, .int x3, .int x4, .int x5]))], cCh v t fc] _ _ [.int (nI (nxc tx ln p)), .ref (t 0)]
            refine g_bipush (x := nI 48) X dX5_takeOperand_34 (by decide +kernel) ?_
            refine g_isubN X dX5_takeOperand_36 (by omega) ?_
            refine g_goto (tgt := 44) X dX5_takeOperand_37 (by decide) ?_
            refine g_put (cs' := [[((t 0), .inr (5, [.ref (t 1), .int (nI ln), .ref la, .int (nI p), .int x1, .int x2, .int (nI ((nxc tx ln p) - 48)), .int x4, .int x5]))], cCh v t fc]) X cb5 6 q_11_19 dX5_takeOperand_44 0 0 rfl rfl (by decide) rfl rfl (rfl) (rfl) (Nat.le_of_ble_eq_true rfl) rfl ?_
            refine g_aload_n X dX5_takeOperand_47 1 rfl rfl ?_
            refine g_dup X dX5_takeOperand_48 rfl ?_
            refine g_get X cb5 3 q_6_12 dX5_takeOperand_49 0 0 rfl rfl (by decide) rfl rfl ?_
            refine g_iconst (x := nI 1) X dX5_takeOperand_52 (by decide +kernel) ?_
            refine g_iaddN X dX5_takeOperand_53 ?_
            refine g_put (cs' := [[((t 0), .inr (5, [.ref (t 1), .int (nI ln), .ref la, .int (nI (p + 1)), .int x1, .int x2, .int (nI ((nxc tx ln p) - 48)), .int x4, .int x5]))], cCh v t fc]) X cb5 3 q_6_12 dX5_takeOperand_54 0 0 rfl rfl (by decide) rfl rfl (rfl) (rfl) (Nat.le_of_ble_eq_true rfl) rfl ?_
            refine g_iconst (x := nI 1) X dX5_takeOperand_57 (by decide +kernel) ?_
            exact E dX5_takeOperand_58 rfl (rfl) (by decide) (by decide) (by first | (simp only [ocl, hv6, if_pos hv17, true_and]; done) | (simp only [ocl, hv6, if_pos hv17]; exact ⟨rfl, rfl⟩))
        · exact absurd c20 (by decide)
      · have hp4q := hp4
        rw [if_neg hv17] at hp4
        obtain ⟨rfl, rfl⟩ := hp4
        show GG k _ _ [[((t 0), .inr (5, [.ref (t 1), .int (nI ln), .ref la, .int (nI p), .int x1, .int x2, .int x3, .int x4, .int x5]))], cCh v t fc] _ _ [.int (nI 0)]
        refine g_if_neN (tgt := 25) X dX5_takeOperand_20 (by decide) (by omega) (fun c20 => ?_) (fun c20 => ?_)
        · exact absurd rfl c20
        · refine g_iconst (x := nI 0) X dX5_takeOperand_23 (by decide +kernel) ?_
          exact E dX5_takeOperand_24 rfl (rfl) (by decide) (by decide) (by first | (simp only [ocl, hv6, if_neg hv17, true_and]; done) | (simp only [ocl, hv6, if_neg hv17]; exact ⟨rfl, rfl⟩))
  | some ahv6 =>
    have hp3q := hp3
    rw [hv6] at hp3
    have hlhv6 := vcl_lt hv6
    obtain ⟨rfl, rfl⟩ := hp3
    show GG k _ _ [[((t 0), .inr (5, [.ref (t 1), .int (nI ln), .ref la, .int (nI p), .int x1, .int x2, .int x3, .int x4, .int x5]))], cCh v t fc] _ _ [.int (nI ahv6)]
    refine g_istore_n (lv' := [(1, .int (nI ahv6)), (0, .ref (t 0))]) X dX5_takeOperand_9 rfl (by decide) rfl ?_
    refine g_iload_n X dX5_takeOperand_10 0 rfl rfl ?_
    refine g_if_geN (tgt := 25) X dX5_takeOperand_11 (by decide) (by omega) ?_
    refine g_aload_n X dX5_takeOperand_25 1 rfl rfl ?_
    refine g_iload_n X dX5_takeOperand_26 0 rfl rfl ?_
    refine g_if_geN (tgt := 40) X dX5_takeOperand_27 (by decide) (by omega) ?_
    refine g_bipush (x := nI 8) X dX5_takeOperand_40 (by decide +kernel) ?_
    refine g_iload_n X dX5_takeOperand_42 0 rfl rfl ?_
    refine g_iaddN X dX5_takeOperand_43 ?_
    refine g_put (cs' := [[((t 0), .inr (5, [.ref (t 1), .int (nI ln), .ref la, .int (nI p), .int x1, .int x2, .int (nI (8 + ahv6)), .int x4, .int x5]))], cCh v t fc]) X cb5 6 q_11_19 dX5_takeOperand_44 0 0 rfl rfl (by decide) rfl rfl (rfl) (rfl) (Nat.le_of_ble_eq_true rfl) rfl ?_
    refine g_aload_n X dX5_takeOperand_47 1 rfl rfl ?_
    refine g_dup X dX5_takeOperand_48 rfl ?_
    refine g_get X cb5 3 q_6_12 dX5_takeOperand_49 0 0 rfl rfl (by decide) rfl rfl ?_
    refine g_iconst (x := nI 1) X dX5_takeOperand_52 (by decide +kernel) ?_
    refine g_iaddN X dX5_takeOperand_53 ?_
    refine g_put (cs' := [[((t 0), .inr (5, [.ref (t 1), .int (nI ln), .ref la, .int (nI (p + 1)), .int x1, .int x2, .int (nI (8 + ahv6)), .int x4, .int x5]))], cCh v t fc]) X cb5 3 q_6_12 dX5_takeOperand_54 0 0 rfl rfl (by decide) rfl rfl (rfl) (rfl) (Nat.le_of_ble_eq_true rfl) rfl ?_
    refine g_iconst (x := nI 1) X dX5_takeOperand_57 (by decide +kernel) ?_
    exact E dX5_takeOperand_58 rfl (rfl) (by decide) (by decide) (by first | (simp only [ocl, hv6, true_and]; done) | (simp only [ocl, hv6]; exact ⟨rfl, rfl⟩))


