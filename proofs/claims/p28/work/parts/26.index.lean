/-! ## Strings: indexOf -/
def xcl (g c : Nat) : Option Nat := match g with
  | 0 => vcl c
  | _ => scl c
theorem i2b_nI : ∀ c : Nat, c < 127 → (nI c).toInt8.toInt32 = nI c := by decide +kernel
theorem ix_hit : ∀ g : Nat, g < 2 → ∀ c : Nat, c < 127 → ∀ i : Nat, i < 4 → i < sln g → sby g i = nI c → nI i = ixo (xcl g c) := by decide +kernel
theorem ix_none : ∀ g : Nat, g < 2 → ∀ c : Nat, c < 127 → (∀ i : Nat, i < 4 → i < sln g → ¬ sby g i = nI c) → zI (-1) = ixo (xcl g c) := by decide +kernel
theorem sln_lt {g : Nat} (h : g < 2) : 3 ≤ sln g ∧ sln g ≤ 4 := by
  rcases (show g = 0 ∨ g = 1 by omega) with rfl | rfl <;> decide

set_option maxHeartbeats 4000000 in
set_option maxRecDepth 100000 in
theorem c_J1_canEncode_9a6ad (l : Launch) (v : VV) (c : Nat) (hc : c < 127) : MI l v yJ1_canEncode_9a6ad cJ1_canEncode_9a6ad 1 (some .boolean) ({ frames := 0, cells := 0, slots := 0, locals := 0 }) [.int (nI c)] [] (fun r w_ => r = nI 1 ∧ w_ = []) 0 0 := by
  refine mm_int (by decide) (Nat.le_of_ble_eq_true rfl) [(0, .int (nI c))] rfl (fun k X E => ?_)
  refine g_iload_n X dJ1_canEncode_9a6ad_0 0 rfl rfl ?_
  refine g_if_ltN (tgt := 15) X dJ1_canEncode_9a6ad_1 (by decide) (by omega) ?_
  refine g_iload_n X dJ1_canEncode_9a6ad_4 0 rfl rfl ?_
  refine g_sipush (x := nI 255) X dJ1_canEncode_9a6ad_5 (by decide +kernel) ?_
  refine g_icmp_gtN (tgt := 15) X dJ1_canEncode_9a6ad_8 (by decide) (by omega) (by omega) (fun c8 => ?_) (fun c8 => ?_)
  · omega
  · refine g_iconst (x := nI 1) X dJ1_canEncode_9a6ad_11 (by decide +kernel) ?_
    refine g_goto (tgt := 16) X dJ1_canEncode_9a6ad_12 (by decide) ?_
    exact E dJ1_canEncode_9a6ad_16 rfl (rfl) (by decide) (by decide) (⟨rfl, rfl⟩)

set_option maxHeartbeats 4000000 in
set_option maxRecDepth 100000 in
theorem c_J1_indexOfChar_4cfef (l : Launch) (v : VV) (g : Nat) (c : Nat) (hg : g < 2) (hc : c < 127) : MI l v yJ1_indexOfChar_4cfef cJ1_indexOfChar_4cfef 6 (some .int) ({ frames := 0, cells := 0, slots := 0, locals := 0 }) [.ref (v.2.2.2 g), .int (nI c), .int (nI 0), .int (nI (sln g))] [] (fun r w_ => r = ixo (xcl g c) ∧ w_ = []) 0 0 := by
  refine mm_int (by decide) (Nat.le_of_ble_eq_true rfl) [(0, .ref (v.2.2.2 g)), (1, .int (nI c)), (2, .int (nI 0)), (3, .int (nI (sln g)))] rfl (fun k X E => ?_)
  have hs := sln_lt hg
  refine g_iload_n X dJ1_indexOfChar_4cfef_0 1 rfl rfl ?_
  refine g_i2b (y := nI c) X dJ1_indexOfChar_4cfef_1 (i2b_nI c hc) ?_
  refine g_istore (lv' := [(4, .int (nI c)), (0, .ref (v.2.2.2 g)), (1, .int (nI c)), (2, .int (nI 0)), (3, .int (nI (sln g)))]) X dJ1_indexOfChar_4cfef_2 (by decide) rfl ?_
  refine g_iload_n X dJ1_indexOfChar_4cfef_4 3 rfl rfl ?_
  refine g_istore (lv' := [(5, .int (nI 0)), (4, .int (nI c)), (0, .ref (v.2.2.2 g)), (1, .int (nI c)), (2, .int (nI 0)), (3, .int (nI (sln g)))]) X dJ1_indexOfChar_4cfef_5 (by decide) rfl ?_
  have lp7 : ∀ (zN : Nat) (i : Nat) (hi : i ≤ sln g) (hn : ∀ j, j < i → ¬ sby g j = nI c) (zM : zN = sln g - i), GG k 0 0 [] [(5, .int (nI i)), (4, .int (nI c)), (3, .int (nI (sln g))), (0, .ref (v.2.2.2 g))] 7 [] := by
    intro zN
    induction zN using Nat.strongRecOn with
    | _ zN zih =>
      have ih7 := zih
      clear zih
      intro i hi hn zM
      refine g_iload X dJ1_indexOfChar_4cfef_7 0 rfl ?_
      refine g_iload_n X dJ1_indexOfChar_4cfef_9 2 rfl rfl ?_
      refine g_icmp_geN (tgt := 31) X dJ1_indexOfChar_4cfef_10 (by decide) (by omega) (by omega) (fun c10 => ?_) (fun c10 => ?_)
      · refine g_iconst (x := zI (-1)) X dJ1_indexOfChar_4cfef_31 (by decide +kernel) ?_
        exact E dJ1_indexOfChar_4cfef_32 rfl (rfl) (by decide) (by decide) (⟨ix_none g hg c hc (fun j _ hj => hn j (by omega)), rfl⟩)
      · refine g_aload_n X dJ1_indexOfChar_4cfef_13 3 rfl rfl ?_
        refine g_iload X dJ1_indexOfChar_4cfef_14 0 rfl ?_
        refine g_tbyte X g (by omega) dJ1_indexOfChar_4cfef_16 (by omega) ?_
        refine g_iload X dJ1_indexOfChar_4cfef_17 1 rfl ?_
        refine g_icmp_ne (tgt := 25) X dJ1_indexOfChar_4cfef_19 (by decide) (fun c19 => ?_) (fun c19 => ?_)
        · refine g_iinc (y := nI (i + 1)) (lv' := [(5, .int (nI (i + 1))), (4, .int (nI c)), (3, .int (nI (sln g))), (0, .ref (v.2.2.2 g))]) (j := 0) X dJ1_indexOfChar_4cfef_25 rfl (nI_add i 1) (by decide) rfl ?_
          refine g_goto (tgt := 7) X dJ1_indexOfChar_4cfef_28 (by decide) ?_
          exact ih7 _ (by omega) (i + 1) (by omega) (fun j hj => (Nat.lt_or_ge j i).elim (hn j) (fun q => by rw [show j = i from by omega]; exact c19)) rfl
        · refine g_iload X dJ1_indexOfChar_4cfef_22 0 rfl ?_
          exact E dJ1_indexOfChar_4cfef_24 rfl (rfl) (by decide) (by decide) (⟨ix_hit g hg c hc i (by omega) (by omega) c19, rfl⟩)
  refine g_lv (lv' := [(5, .int (nI 0)), (4, .int (nI c)), (3, .int (nI (sln g))), (0, .ref (v.2.2.2 g))]) [0, 1, 5, 2] rfl ?_
  exact lp7 _ 0 (Nat.zero_le _) (fun j h => absurd h (Nat.not_lt_zero _)) rfl

set_option maxHeartbeats 4000000 in
set_option maxRecDepth 100000 in
theorem c_J1_indexOf_4cfef (l : Launch) (v : VV) (g : Nat) (c : Nat) (hg : g < 2) (hc : c < 127) : MI l v yJ1_indexOf_4cfef cJ1_indexOf_4cfef 4 (some .int) ({ frames := 1, cells := 0, slots := 0, locals := 25 }) [.ref (v.2.2.2 g), .int (nI c), .int (nI 0), .int (nI (sln g))] [] (fun r w_ => r = ixo (xcl g c) ∧ w_ = []) 0 0 := by
  refine mm_int (by decide) (Nat.le_of_ble_eq_true rfl) [(0, .ref (v.2.2.2 g)), (1, .int (nI c)), (2, .int (nI 0)), (3, .int (nI (sln g)))] rfl (fun k X E => ?_)
  have hs := sln_lt hg
  refine g_iload_n X dJ1_indexOf_4cfef_0 1 rfl rfl ?_
  refine g_callS (As := [.int (nI c)]) (rest := []) (wr := []) X (c_J1_canEncode_9a6ad l v c (by omega)) f_J1_canEncode_9a6ad q_9_5 dJ1_indexOf_4cfef_1 [] [] rfl rfl (by decide) rfl rfl (Nat.le_of_ble_eq_true rfl) (by decide) (fun r_ w_ hp1 => ?_)
  obtain ⟨rfl, rfl⟩ := hp1
  show GG k _ _ [] _ _ [.int (nI 1)]
  refine g_if_neN (tgt := 9) X dJ1_indexOf_4cfef_4 (by decide) (by omega) (fun c4 => ?_) (fun c4 => ?_)
  · refine g_iload_n X dJ1_indexOf_4cfef_9 2 rfl rfl ?_
    refine g_iconst (x := nI 0) X dJ1_indexOf_4cfef_10 (by decide +kernel) ?_
    refine g_max X q_8_22 q_8_23 q_9_0 q_9_1 dJ1_indexOf_4cfef_11 (by decide) (by decide) (by decide) (by decide) ?_
    refine g_v (y := nI 0) (if_neg (by decide)) ?_
    refine g_istore_n (lv' := [(2, .int (nI 0)), (0, .ref (v.2.2.2 g)), (1, .int (nI c)), (3, .int (nI (sln g)))]) X dJ1_indexOf_4cfef_14 rfl (by decide) rfl ?_
    refine g_iload_n X dJ1_indexOf_4cfef_15 3 rfl rfl ?_
    refine g_aload_n X dJ1_indexOf_4cfef_16 1 rfl rfl ?_
    refine g_tblen X g (by omega) dJ1_indexOf_4cfef_17 ?_
    refine g_min X q_9_2 q_9_3 q_9_0 q_9_4 dJ1_indexOf_4cfef_18 (by decide) (by decide) (by decide) (by decide) ?_
    refine g_v (y := nI (sln g)) (ite_self _) ?_
    refine g_istore_n (lv' := [(3, .int (nI (sln g))), (2, .int (nI 0)), (0, .ref (v.2.2.2 g)), (1, .int (nI c))]) X dJ1_indexOf_4cfef_21 rfl (by decide) rfl ?_
    refine g_iload_n X dJ1_indexOf_4cfef_22 1 rfl rfl ?_
    refine g_iload_n X dJ1_indexOf_4cfef_23 0 rfl rfl ?_
    refine g_icmp_ltN (tgt := 29) X dJ1_indexOf_4cfef_24 (by decide) (by omega) (by omega) (fun c24 => ?_) (fun c24 => ?_)
    · refine g_aload_n X dJ1_indexOf_4cfef_29 2 rfl rfl ?_
      refine g_iload_n X dJ1_indexOf_4cfef_30 3 rfl rfl ?_
      refine g_iload_n X dJ1_indexOf_4cfef_31 1 rfl rfl ?_
      refine g_iload_n X dJ1_indexOf_4cfef_32 0 rfl rfl ?_
      refine g_callS (As := [.ref (v.2.2.2 g), .int (nI c), .int (nI 0), .int (nI (sln g))]) (rest := []) (wr := []) X (c_J1_indexOfChar_4cfef l v g c hg (by omega)) f_J1_indexOfChar_4cfef q_9_8 dJ1_indexOf_4cfef_33 [] [] rfl rfl (by decide) rfl rfl (Nat.le_of_ble_eq_true rfl) (by decide) (fun r_ w_ hp2 => ?_)
      obtain ⟨rfl, rfl⟩ := hp2
      show GG k _ _ [] _ _ [.int (ixo (xcl g c))]
      exact E dJ1_indexOf_4cfef_36 rfl (rfl) (by decide) (by decide) (⟨rfl, rfl⟩)
    · omega
  · exact absurd c4 (by decide)

set_option maxHeartbeats 4000000 in
set_option maxRecDepth 100000 in
theorem c_J0_isLatin1_aae02 (l : Launch) (v : VV) (g : Nat) (hg : g < 2) : MI l v yJ0_isLatin1_aae02 cJ0_isLatin1_aae02 1 (some .boolean) ({ frames := 0, cells := 0, slots := 0, locals := 0 }) [.ref (v.2.2.1 g)] [] (fun r w_ => r = nI 1 ∧ w_ = []) 0 0 := by
  refine mm_int (by decide) (Nat.le_of_ble_eq_true rfl) [(0, .ref (v.2.2.1 g))] rfl (fun k X E => ?_)
  refine g_compact X q_8_8 dJ0_isLatin1_aae02_0 ?_
  refine g_if_eqN (tgt := 17) X dJ0_isLatin1_aae02_3 (by decide) (by omega) (fun c3 => ?_) (fun c3 => ?_)
  · exact absurd c3 (by decide)
  · refine g_aload_n X dJ0_isLatin1_aae02_6 0 rfl rfl ?_
    refine g_sgetC X g (by omega) q_8_9 dJ0_isLatin1_aae02_7 ?_
    refine g_if_neN (tgt := 17) X dJ0_isLatin1_aae02_10 (by decide) (by omega) (fun c10 => ?_) (fun c10 => ?_)
    · exact absurd rfl c10
    · refine g_iconst (x := nI 1) X dJ0_isLatin1_aae02_13 (by decide +kernel) ?_
      refine g_goto (tgt := 18) X dJ0_isLatin1_aae02_14 (by decide) ?_
      exact E dJ0_isLatin1_aae02_18 rfl (rfl) (by decide) (by decide) (⟨rfl, rfl⟩)

set_option maxHeartbeats 4000000 in
set_option maxRecDepth 100000 in
theorem c_J0_coder_7d493 (l : Launch) (v : VV) (g : Nat) (hg : g < 2) : MI l v yJ0_coder_7d493 cJ0_coder_7d493 1 (some .byte) ({ frames := 0, cells := 0, slots := 0, locals := 0 }) [.ref (v.2.2.1 g)] [] (fun r w_ => r = nI 0 ∧ w_ = []) 0 0 := by
  refine mm_int (by decide) (Nat.le_of_ble_eq_true rfl) [(0, .ref (v.2.2.1 g))] rfl (fun k X E => ?_)
  refine g_compact X q_8_8 dJ0_coder_7d493_0 ?_
  refine g_if_eqN (tgt := 13) X dJ0_coder_7d493_3 (by decide) (by omega) (fun c3 => ?_) (fun c3 => ?_)
  · exact absurd c3 (by decide)
  · refine g_aload_n X dJ0_coder_7d493_6 0 rfl rfl ?_
    refine g_sgetC X g (by omega) q_8_9 dJ0_coder_7d493_7 ?_
    refine g_goto (tgt := 14) X dJ0_coder_7d493_10 (by decide) ?_
    exact E dJ0_coder_7d493_14 rfl (rfl) (by decide) (by decide) (⟨rfl, rfl⟩)

set_option maxHeartbeats 4000000 in
set_option maxRecDepth 100000 in
theorem c_J0_length_8abf5 (l : Launch) (v : VV) (g : Nat) (hg : g < 2) : MI l v yJ0_length_8abf5 cJ0_length_8abf5 1 (some .int) ({ frames := 1, cells := 0, slots := 0, locals := 20 }) [.ref (v.2.2.1 g)] [] (fun r w_ => r = nI (sln g) ∧ w_ = []) 0 0 := by
  refine mm_int (by decide) (Nat.le_of_ble_eq_true rfl) [(0, .ref (v.2.2.1 g))] rfl (fun k X E => ?_)
  have hs := sln_lt hg
  refine g_aload_n X dJ0_length_8abf5_0 0 rfl rfl ?_
  refine g_sgetV X g (by omega) q_8_3 dJ0_length_8abf5_1 ?_
  refine g_tblen X g (by omega) dJ0_length_8abf5_4 ?_
  refine g_aload_n X dJ0_length_8abf5_5 0 rfl rfl ?_
  refine g_callVS (As := []) (rest := [.int (nI (sln g))]) (wr := []) X g (by omega) (c_J0_coder_7d493 l v g hg) f_J0_coder_7d493 q_8_14 dJ0_length_8abf5_6 [] [] rfl rfl (by decide) rfl rfl (Nat.le_of_ble_eq_true rfl) (by decide) (fun r_ w_ hp1 => ?_)
  obtain ⟨rfl, rfl⟩ := hp1
  show GG k _ _ [] _ _ [.int (nI 0), .int (nI (sln g))]
  refine g_ishrN X dJ0_length_8abf5_9 (by omega) (by omega) ?_
  exact E dJ0_length_8abf5_10 rfl (rfl) (by decide) (by decide) (⟨by rw [Nat.pow_zero, Nat.div_one], rfl⟩)

set_option maxHeartbeats 4000000 in
set_option maxRecDepth 100000 in
theorem c_J0_indexOf_7cf53 (l : Launch) (v : VV) (g : Nat) (c : Nat) (hg : g < 2) (hc : c < 127) : MI l v yJ0_indexOf_7cf53 cJ0_indexOf_7cf53 3 (some .int) ({ frames := 2, cells := 0, slots := 0, locals := 48 }) [.ref (v.2.2.1 g), .int (nI c), .int (nI 0)] [] (fun r w_ => r = ixo (xcl g c) ∧ w_ = []) 0 0 := by
  refine mm_int (by decide) (Nat.le_of_ble_eq_true rfl) [(0, .ref (v.2.2.1 g)), (1, .int (nI c)), (2, .int (nI 0))] rfl (fun k X E => ?_)
  refine g_aload_n X dJ0_indexOf_7cf53_0 0 rfl rfl ?_
  refine g_callVS (As := []) (rest := []) (wr := []) X g (by omega) (c_J0_isLatin1_aae02 l v g hg) f_J0_isLatin1_aae02 q_8_4 dJ0_indexOf_7cf53_1 [] [] rfl rfl (by decide) rfl rfl (Nat.le_of_ble_eq_true rfl) (by decide) (fun r_ w_ hp1 => ?_)
  obtain ⟨rfl, rfl⟩ := hp1
  show GG k _ _ [] _ _ [.int (nI 1)]
  refine g_if_eqN (tgt := 23) X dJ0_indexOf_7cf53_4 (by decide) (by omega) (fun c4 => ?_) (fun c4 => ?_)
  · exact absurd c4 (by decide)
  · refine g_aload_n X dJ0_indexOf_7cf53_7 0 rfl rfl ?_
    refine g_sgetV X g (by omega) q_8_3 dJ0_indexOf_7cf53_8 ?_
    refine g_iload_n X dJ0_indexOf_7cf53_11 1 rfl rfl ?_
    refine g_iload_n X dJ0_indexOf_7cf53_12 2 rfl rfl ?_
    refine g_aload_n X dJ0_indexOf_7cf53_13 0 rfl rfl ?_
    refine g_callVS (As := []) (rest := [.int (nI 0), .int (nI c), .ref (v.2.2.2 g)]) (wr := []) X g (by omega) (c_J0_length_8abf5 l v g hg) f_J0_length_8abf5 q_8_10 dJ0_indexOf_7cf53_14 [] [] rfl rfl (by decide) rfl rfl (Nat.le_of_ble_eq_true rfl) (by decide) (fun r_ w_ hp2 => ?_)
    obtain ⟨rfl, rfl⟩ := hp2
    show GG k _ _ [] _ _ [.int (nI (sln g)), .int (nI 0), .int (nI c), .ref (v.2.2.2 g)]
    refine g_callS (As := [.ref (v.2.2.2 g), .int (nI c), .int (nI 0), .int (nI (sln g))]) (rest := []) (wr := []) X (c_J1_indexOf_4cfef l v g c hg (by omega)) f_J1_indexOf_4cfef q_8_18 dJ0_indexOf_7cf53_17 [] [] rfl rfl (by decide) rfl rfl (Nat.le_of_ble_eq_true rfl) (by decide) (fun r_ w_ hp3 => ?_)
    obtain ⟨rfl, rfl⟩ := hp3
    show GG k _ _ [] _ _ [.int (ixo (xcl g c))]
    refine g_goto (tgt := 36) X dJ0_indexOf_7cf53_20 (by decide) ?_
    exact E dJ0_indexOf_7cf53_36 rfl (rfl) (by decide) (by decide) (⟨rfl, rfl⟩)

set_option maxHeartbeats 4000000 in
set_option maxRecDepth 100000 in
theorem c_J0_indexOf_0f7a4 (l : Launch) (v : VV) (g : Nat) (c : Nat) (hg : g < 2) (hc : c < 127) : MI l v yJ0_indexOf_0f7a4 cJ0_indexOf_0f7a4 2 (some .int) ({ frames := 3, cells := 0, slots := 0, locals := 70 }) [.ref (v.2.2.1 g), .int (nI c)] [] (fun r w_ => r = ixo (xcl g c) ∧ w_ = []) 0 0 := by
  refine mm_int (by decide) (Nat.le_of_ble_eq_true rfl) [(0, .ref (v.2.2.1 g)), (1, .int (nI c))] rfl (fun k X E => ?_)
  refine g_aload_n X dJ0_indexOf_0f7a4_0 0 rfl rfl ?_
  refine g_iload_n X dJ0_indexOf_0f7a4_1 1 rfl rfl ?_
  refine g_iconst (x := nI 0) X dJ0_indexOf_0f7a4_2 (by decide +kernel) ?_
  refine g_callVS (As := [.int (nI c), .int (nI 0)]) (rest := []) (wr := []) X g (by omega) (c_J0_indexOf_7cf53 l v g c hg (by omega)) f_J0_indexOf_7cf53 q_7_23 dJ0_indexOf_0f7a4_3 [] [] rfl rfl (by decide) rfl rfl (Nat.le_of_ble_eq_true rfl) (by decide) (fun r_ w_ hp1 => ?_)
  obtain ⟨rfl, rfl⟩ := hp1
  show GG k _ _ [] _ _ [.int (ixo (xcl g c))]
  exact E dJ0_indexOf_0f7a4_6 rfl (rfl) (by decide) (by decide) (⟨rfl, rfl⟩)

theorem c_idx0 (l : Launch) (v : VV) (c : Nat) (hc : c < 127) : MI l v yJ0_indexOf_0f7a4 cJ0_indexOf_0f7a4 2 (some .int) { frames := 3, cells := 0, slots := 0, locals := 70 } [.ref (v.2.2.1 0), .int (nI c)] [] (fun r w_ => r = ixo (vcl c) ∧ w_ = []) 0 0 := c_J0_indexOf_0f7a4 l v 0 c (by decide) hc
theorem c_idx1 (l : Launch) (v : VV) (c : Nat) (hc : c < 127) : MI l v yJ0_indexOf_0f7a4 cJ0_indexOf_0f7a4 2 (some .int) { frames := 3, cells := 0, slots := 0, locals := 70 } [.ref (v.2.2.1 1), .int (nI c)] [] (fun r w_ => r = ixo (scl c) ∧ w_ = []) 0 0 := c_J0_indexOf_0f7a4 l v 1 c (by decide) hc

