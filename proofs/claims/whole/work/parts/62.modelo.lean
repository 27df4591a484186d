/-! ## the model: digest -/
set_option maxHeartbeats 4000000 in
set_option maxRecDepth 100000 in
theorem c_X7_digestOne (l : Launch) (v : VV) (mo : Nat → Nat) (th : Int32) (sm : Nat) (ln : Nat) (rm : Int32) (fa : Int32) (sp : Int32) (wr : Int32) (dd : Int64) (x : Int64) : MU l v yX7_digestOne cX7_digestOne 3 none ({ frames := 0, cells := 0, slots := 0, locals := 0 }) [.ref (mo 0), .long x] [[((mo 0), .inr (7, [.int th, .ref (mo 1), .ref (mo 2), .int (nI sm), .ref (mo 3), .int (nI ln), .ref (mo 4), .int rm, .int fa, .ref (mo 5), .ref (mo 6), .int sp, .int wr, .long dd]))]] (fun _ w_ => w_ = [[((mo 0), .inr (7, [.int th, .ref (mo 1), .ref (mo 2), .int (nI sm), .ref (mo 3), .int (nI ln), .ref (mo 4), .int rm, .int fa, .ref (mo 5), .ref (mo 6), .int sp, .int wr, .long (31 * dd + x)]))]]) 0 0 := by
  refine mm_void rfl (by decide) (Nat.le_of_ble_eq_true rfl) [(0, .ref (mo 0)), (1, .long x)] rfl (fun k X hin E => ?_)
  refine g_aload_n X dX7_digestOne_0 0 rfl rfl ?_
  refine g_ldc2 X q_37_0 dX7_digestOne_1 ?_
  refine g_aload_n X dX7_digestOne_4 0 rfl rfl ?_
  refine g_get X cb7 13 q_36_19 dX7_digestOne_5 0 0 rfl rfl (by decide) rfl rfl ?_
  refine g_lmul X dX7_digestOne_8 ?_
  refine g_lload_n X dX7_digestOne_9 1 rfl rfl ?_
  refine g_ladd X dX7_digestOne_10 ?_
  refine g_put (cs' := [[((mo 0), .inr (7, [.int th, .ref (mo 1), .ref (mo 2), .int (nI sm), .ref (mo 3), .int (nI ln), .ref (mo 4), .int rm, .int fa, .ref (mo 5), .ref (mo 6), .int sp, .int wr, .long ((31 * dd) + x)]))]]) X cb7 13 q_36_19 dX7_digestOne_11 0 0 rfl rfl (by decide) rfl rfl (rfl) (rfl) (Nat.le_of_ble_eq_true rfl) rfl ?_
  exact E dX7_digestOne_14 (by decide) (by decide) (rfl)

set_option maxHeartbeats 4000000 in
set_option maxRecDepth 100000 in
theorem c_X7_digestBounds (l : Launch) (v : VV) (mo : Nat → Nat) (th : Int32) (sm : Nat) (ln : Nat) (rm : Int32) (fa : Int32) (sp : Int32) (wr : Int32) (dd : Int64) (lo : Nat → Nat) (hi : Nat → Nat) (P : Nat → S9) (n : Nat) (fn : Nat → Int32) (i : Nat) (hn12 : n ≤ 12) (hN : SnR n (RV lo hi P n 512) fn) (hi9 : i < n + 1) : MU l v yX7_digestBounds cX7_digestBounds 3 none ({ frames := 2, cells := 0, slots := 0, locals := 48 }) [.ref (mo 0), .int (nI i)] [[((mo 0), .inr (7, [.int th, .ref (mo 1), .ref (mo 2), .int (nI sm), .ref (mo 3), .int (nI ln), .ref (mo 4), .int rm, .int fa, .ref (mo 5), .ref (mo 6), .int sp, .int wr, .long dd]))], cMn v mo fn] (fun _ w_ => w_ = [[((mo 0), .inr (7, [.int th, .ref (mo 1), .ref (mo 2), .int (nI sm), .ref (mo 3), .int (nI ln), .ref (mo 4), .int rm, .int fa, .ref (mo 5), .ref (mo 6), .int sp, .int wr, .long (dB lo hi P n i 3 dd)]))], cMn v mo fn]) 0 0 := by
  refine mm_void rfl (by decide) (Nat.le_of_ble_eq_true rfl) [(0, .ref (mo 0)), (1, .int (nI i))] rfl (fun k X hin E => ?_)
  refine g_iconst (x := nI 0) X dX7_digestBounds_0 (by decide +kernel) ?_
  refine g_istore_n (lv' := [(2, .int (nI 0)), (0, .ref (mo 0)), (1, .int (nI i))]) X dX7_digestBounds_1 rfl (by decide) rfl ?_
  refine g_iload_n X dX7_digestBounds_2 0 rfl rfl ?_
  refine g_bipush (x := nI 6) X dX7_digestBounds_3 (by decide +kernel) ?_
  refine g_icmp_geN (tgt := 38) X dX7_digestBounds_5 (by decide) (by omega) (by omega) (fun c5 => ?_) (fun c5 => ?_)
  · exact absurd c5 (by decide)
  · refine g_aload_n X dX7_digestBounds_8 1 rfl rfl ?_
    refine g_aload_n X dX7_digestBounds_9 1 rfl rfl ?_
    refine g_iload_n X dX7_digestBounds_10 2 rfl rfl ?_
    refine g_iload_n X dX7_digestBounds_11 0 rfl rfl ?_
    refine g_iconst (x := nI 2) X dX7_digestBounds_12 (by decide +kernel) ?_
    refine g_idivN X dX7_digestBounds_13 (by omega) (by omega) (by omega) ?_
    refine g_v (y := nI 0) (rfl) ?_
    refine g_iload_n X dX7_digestBounds_14 0 rfl rfl ?_
    refine g_iconst (x := nI 2) X dX7_digestBounds_15 (by decide +kernel) ?_
    refine g_iremN X dX7_digestBounds_16 (by omega) (by omega) (by omega) ?_
    refine g_v (y := nI 0) (rfl) ?_
    refine g_if_neN (tgt := 24) X dX7_digestBounds_17 (by decide) (by omega) (fun c17 => ?_) (fun c17 => ?_)
    · exact absurd rfl c17
    · refine g_iconst (x := nI 1) X dX7_digestBounds_20 (by decide +kernel) ?_
      refine g_goto (tgt := 25) X dX7_digestBounds_21 (by decide) ?_
      refine g_callV (As := [.int (nI i), .int (nI 0), .int (nI 1)]) (rest := [.ref (mo 0)]) (wr := []) X (cMn_X7_bound l v mo th sm ln rm fa sp wr dd lo hi P n fn i 0 hn12 hN (by omega) (by omega)) f_X7_bound q_32_0 dX7_digestBounds_25 [0, 1] [] rfl rfl (by decide) 0 rfl rfl rfl rfl (Nat.le_of_ble_eq_true rfl) (by decide) (fun r_ w_ hp1 => ?_)
      obtain ⟨rfl, rfl⟩ := hp1
      show GG k _ _ [[((mo 0), .inr (7, [.int th, .ref (mo 1), .ref (mo 2), .int (nI sm), .ref (mo 3), .int (nI ln), .ref (mo 4), .int rm, .int fa, .ref (mo 5), .ref (mo 6), .int sp, .int wr, .long dd]))], cMn v mo fn] _ _ [.int (zI (mnV lo hi P n i 0)), .ref (mo 0)]
      refine g_i2l X dX7_digestBounds_28 rfl ?_
      refine g_callV (As := [.long ((zI (mnV lo hi P n i 0)).toInt64)]) (rest := []) (wr := [cMn v mo fn]) X (c_X7_digestOne l v mo th sm ln rm fa sp wr dd ((zI (mnV lo hi P n i 0)).toInt64)) f_X7_digestOne q_36_20 dX7_digestBounds_29 [0] [1] rfl rfl (by decide) 0 rfl rfl rfl rfl (Nat.le_of_ble_eq_true rfl) (by decide) (fun r_ w_ hp2 => ?_)
      subst hp2
      show GG k _ _ [[((mo 0), .inr (7, [.int th, .ref (mo 1), .ref (mo 2), .int (nI sm), .ref (mo 3), .int (nI ln), .ref (mo 4), .int rm, .int fa, .ref (mo 5), .ref (mo 6), .int sp, .int wr, .long (dg dd (zI (mnV lo hi P n i 0)))]))], cMn v mo fn] _ _ []
      refine g_iinc (y := nI 1) (lv' := [(2, .int (nI 1)), (0, .ref (mo 0)), (1, .int (nI i))]) (j := 0) X dX7_digestBounds_32 rfl (nI_add 0 1) (by decide) rfl ?_
      refine g_goto (tgt := 2) X dX7_digestBounds_35 (by decide) ?_
      refine g_iload_n X dX7_digestBounds_2 0 rfl rfl ?_
      refine g_bipush (x := nI 6) X dX7_digestBounds_3 (by decide +kernel) ?_
      refine g_icmp_geN (tgt := 38) X dX7_digestBounds_5 (by decide) (by omega) (by omega) (fun c5 => ?_) (fun c5 => ?_)
      · exact absurd c5 (by decide)
      · refine g_aload_n X dX7_digestBounds_8 1 rfl rfl ?_
        refine g_aload_n X dX7_digestBounds_9 1 rfl rfl ?_
        refine g_iload_n X dX7_digestBounds_10 2 rfl rfl ?_
        refine g_iload_n X dX7_digestBounds_11 0 rfl rfl ?_
        refine g_iconst (x := nI 2) X dX7_digestBounds_12 (by decide +kernel) ?_
        refine g_idivN X dX7_digestBounds_13 (by omega) (by omega) (by omega) ?_
        refine g_v (y := nI 0) (rfl) ?_
        refine g_iload_n X dX7_digestBounds_14 0 rfl rfl ?_
        refine g_iconst (x := nI 2) X dX7_digestBounds_15 (by decide +kernel) ?_
        refine g_iremN X dX7_digestBounds_16 (by omega) (by omega) (by omega) ?_
        refine g_v (y := nI 1) (rfl) ?_
        refine g_if_neN (tgt := 24) X dX7_digestBounds_17 (by decide) (by omega) (fun c17 => ?_) (fun c17 => ?_)
        · refine g_iconst (x := nI 0) X dX7_digestBounds_24 (by decide +kernel) ?_
          refine g_callV (As := [.int (nI i), .int (nI 0), .int (nI 0)]) (rest := [.ref (mo 0)]) (wr := []) X (cMx_X7_bound l v mo th sm ln rm fa sp wr (dg dd (zI (mnV lo hi P n i 0))) lo hi P n fn i 0 hn12 hN (by omega) (by omega)) f_X7_bound q_32_0 dX7_digestBounds_25 [0, 1] [] rfl rfl (by decide) 0 rfl rfl rfl rfl (Nat.le_of_ble_eq_true rfl) (by decide) (fun r_ w_ hp3 => ?_)
          obtain ⟨rfl, rfl⟩ := hp3
          show GG k _ _ [[((mo 0), .inr (7, [.int th, .ref (mo 1), .ref (mo 2), .int (nI sm), .ref (mo 3), .int (nI ln), .ref (mo 4), .int rm, .int fa, .ref (mo 5), .ref (mo 6), .int sp, .int wr, .long (dg dd (zI (mnV lo hi P n i 0)))]))], cMn v mo fn] _ _ [.int (zI (mxV lo hi P n i 0)), .ref (mo 0)]
          refine g_i2l X dX7_digestBounds_28 rfl ?_
          refine g_callV (As := [.long ((zI (mxV lo hi P n i 0)).toInt64)]) (rest := []) (wr := [cMn v mo fn]) X (c_X7_digestOne l v mo th sm ln rm fa sp wr (dg dd (zI (mnV lo hi P n i 0))) ((zI (mxV lo hi P n i 0)).toInt64)) f_X7_digestOne q_36_20 dX7_digestBounds_29 [0] [1] rfl rfl (by decide) 0 rfl rfl rfl rfl (Nat.le_of_ble_eq_true rfl) (by decide) (fun r_ w_ hp4 => ?_)
          subst hp4
          show GG k _ _ [[((mo 0), .inr (7, [.int th, .ref (mo 1), .ref (mo 2), .int (nI sm), .ref (mo 3), .int (nI ln), .ref (mo 4), .int rm, .int fa, .ref (mo 5), .ref (mo 6), .int sp, .int wr, .long (dg (dg dd (zI (mnV lo hi P n i 0))) (zI (mxV lo hi P n i 0)))]))], cMn v mo fn] _ _ []
          refine g_iinc (y := nI 2) (lv' := [(2, .int (nI 2)), (0, .ref (mo 0)), (1, .int (nI i))]) (j := 0) X dX7_digestBounds_32 rfl (nI_add 1 1) (by decide) rfl ?_
          refine g_goto (tgt := 2) X dX7_digestBounds_35 (by decide) ?_
          refine g_iload_n X dX7_digestBounds_2 0 rfl rfl ?_
          refine g_bipush (x := nI 6) X dX7_digestBounds_3 (by decide +kernel) ?_
          refine g_icmp_geN (tgt := 38) X dX7_digestBounds_5 (by decide) (by omega) (by omega) (fun c5 => ?_) (fun c5 => ?_)
          · exact absurd c5 (by decide)
          · refine g_aload_n X dX7_digestBounds_8 1 rfl rfl ?_
            refine g_aload_n X dX7_digestBounds_9 1 rfl rfl ?_
            refine g_iload_n X dX7_digestBounds_10 2 rfl rfl ?_
            refine g_iload_n X dX7_digestBounds_11 0 rfl rfl ?_
            refine g_iconst (x := nI 2) X dX7_digestBounds_12 (by decide +kernel) ?_
            refine g_idivN X dX7_digestBounds_13 (by omega) (by omega) (by omega) ?_
            refine g_v (y := nI 1) (rfl) ?_
            refine g_iload_n X dX7_digestBounds_14 0 rfl rfl ?_
            refine g_iconst (x := nI 2) X dX7_digestBounds_15 (by decide +kernel) ?_
            refine g_iremN X dX7_digestBounds_16 (by omega) (by omega) (by omega) ?_
            refine g_v (y := nI 0) (rfl) ?_
            refine g_if_neN (tgt := 24) X dX7_digestBounds_17 (by decide) (by omega) (fun c17 => ?_) (fun c17 => ?_)
            · exact absurd rfl c17
            · refine g_iconst (x := nI 1) X dX7_digestBounds_20 (by decide +kernel) ?_
              refine g_goto (tgt := 25) X dX7_digestBounds_21 (by decide) ?_
              refine g_callV (As := [.int (nI i), .int (nI 1), .int (nI 1)]) (rest := [.ref (mo 0)]) (wr := []) X (cMn_X7_bound l v mo th sm ln rm fa sp wr (dg (dg dd (zI (mnV lo hi P n i 0))) (zI (mxV lo hi P n i 0))) lo hi P n fn i 1 hn12 hN (by omega) (by omega)) f_X7_bound q_32_0 dX7_digestBounds_25 [0, 1] [] rfl rfl (by decide) 0 rfl rfl rfl rfl (Nat.le_of_ble_eq_true rfl) (by decide) (fun r_ w_ hp5 => ?_)
              obtain ⟨rfl, rfl⟩ := hp5
              show GG k _ _ [[((mo 0), .inr (7, [.int th, .ref (mo 1), .ref (mo 2), .int (nI sm), .ref (mo 3), .int (nI ln), .ref (mo 4), .int rm, .int fa, .ref (mo 5), .ref (mo 6), .int sp, .int wr, .long (dg (dg dd (zI (mnV lo hi P n i 0))) (zI (mxV lo hi P n i 0)))]))], cMn v mo fn] _ _ [.int (zI (mnV lo hi P n i 1)), .ref (mo 0)]
              refine g_i2l X dX7_digestBounds_28 rfl ?_
              refine g_callV (As := [.long ((zI (mnV lo hi P n i 1)).toInt64)]) (rest := []) (wr := [cMn v mo fn]) X (c_X7_digestOne l v mo th sm ln rm fa sp wr (dg (dg dd (zI (mnV lo hi P n i 0))) (zI (mxV lo hi P n i 0))) ((zI (mnV lo hi P n i 1)).toInt64)) f_X7_digestOne q_36_20 dX7_digestBounds_29 [0] [1] rfl rfl (by decide) 0 rfl rfl rfl rfl (Nat.le_of_ble_eq_true rfl) (by decide) (fun r_ w_ hp6 => ?_)
              subst hp6
              show GG k _ _ [[((mo 0), .inr (7, [.int th, .ref (mo 1), .ref (mo 2), .int (nI sm), .ref (mo 3), .int (nI ln), .ref (mo 4), .int rm, .int fa, .ref (mo 5), .ref (mo 6), .int sp, .int wr, .long (dg (dg (dg dd (zI (mnV lo hi P n i 0))) (zI (mxV lo hi P n i 0))) (zI (mnV lo hi P n i 1)))]))], cMn v mo fn] _ _ []
              refine g_iinc (y := nI 3) (lv' := [(2, .int (nI 3)), (0, .ref (mo 0)), (1, .int (nI i))]) (j := 0) X dX7_digestBounds_32 rfl (nI_add 2 1) (by decide) rfl ?_
              refine g_goto (tgt := 2) X dX7_digestBounds_35 (by decide) ?_
              refine g_iload_n X dX7_digestBounds_2 0 rfl rfl ?_
              refine g_bipush (x := nI 6) X dX7_digestBounds_3 (by decide +kernel) ?_
              refine g_icmp_geN (tgt := 38) X dX7_digestBounds_5 (by decide) (by omega) (by omega) (fun c5 => ?_) (fun c5 => ?_)
              · exact absurd c5 (by decide)
              · refine g_aload_n X dX7_digestBounds_8 1 rfl rfl ?_
                refine g_aload_n X dX7_digestBounds_9 1 rfl rfl ?_
                refine g_iload_n X dX7_digestBounds_10 2 rfl rfl ?_
                refine g_iload_n X dX7_digestBounds_11 0 rfl rfl ?_
                refine g_iconst (x := nI 2) X dX7_digestBounds_12 (by decide +kernel) ?_
                refine g_idivN X dX7_digestBounds_13 (by omega) (by omega) (by omega) ?_
                refine g_v (y := nI 1) (rfl) ?_
                refine g_iload_n X dX7_digestBounds_14 0 rfl rfl ?_
                refine g_iconst (x := nI 2) X dX7_digestBounds_15 (by decide +kernel) ?_
                refine g_iremN X dX7_digestBounds_16 (by omega) (by omega) (by omega) ?_
                refine g_v (y := nI 1) (rfl) ?_
                refine g_if_neN (tgt := 24) X dX7_digestBounds_17 (by decide) (by omega) (fun c17 => ?_) (fun c17 => ?_)
                · refine g_iconst (x := nI 0) X dX7_digestBounds_24 (by decide +kernel) ?_
                  refine g_callV (As := [.int (nI i), .int (nI 1), .int (nI 0)]) (rest := [.ref (mo 0)]) (wr := []) X (cMx_X7_bound l v mo th sm ln rm fa sp wr (dg (dg (dg dd (zI (mnV lo hi P n i 0))) (zI (mxV lo hi P n i 0))) (zI (mnV lo hi P n i 1))) lo hi P n fn i 1 hn12 hN (by omega) (by omega)) f_X7_bound q_32_0 dX7_digestBounds_25 [0, 1] [] rfl rfl (by decide) 0 rfl rfl rfl rfl (Nat.le_of_ble_eq_true rfl) (by decide) (fun r_ w_ hp7 => ?_)
                  obtain ⟨rfl, rfl⟩ := hp7
                  show GG k _ _ [[((mo 0), .inr (7, [.int th, .ref (mo 1), .ref (mo 2), .int (nI sm), .ref (mo 3), .int (nI ln), .ref (mo 4), .int rm, .int fa, .ref (mo 5), .ref (mo 6), .int sp, .int wr, .long (dg (dg (dg dd (zI (mnV lo hi P n i 0))) (zI (mxV lo hi P n i 0))) (zI (mnV lo hi P n i 1)))]))], cMn v mo fn] _ _ [.int (zI (mxV lo hi P n i 1)), .ref (mo 0)]
                  refine g_i2l X dX7_digestBounds_28 rfl ?_
                  refine g_callV (As := [.long ((zI (mxV lo hi P n i 1)).toInt64)]) (rest := []) (wr := [cMn v mo fn]) X (c_X7_digestOne l v mo th sm ln rm fa sp wr (dg (dg (dg dd (zI (mnV lo hi P n i 0))) (zI (mxV lo hi P n i 0))) (zI (mnV lo hi P n i 1))) ((zI (mxV lo hi P n i 1)).toInt64)) f_X7_digestOne q_36_20 dX7_digestBounds_29 [0] [1] rfl rfl (by decide) 0 rfl rfl rfl rfl (Nat.le_of_ble_eq_true rfl) (by decide) (fun r_ w_ hp8 => ?_)
                  subst hp8
                  show GG k _ _ [[((mo 0), .inr (7, [.int th, .ref (mo 1), .ref (mo 2), .int (nI sm), .ref (mo 3), .int (nI ln), .ref (mo 4), .int rm, .int fa, .ref (mo 5), .ref (mo 6), .int sp, .int wr, .long (dg (dg (dg (dg dd (zI (mnV lo hi P n i 0))) (zI (mxV lo hi P n i 0))) (zI (mnV lo hi P n i 1))) (zI (mxV lo hi P n i 1)))]))], cMn v mo fn] _ _ []
                  refine g_iinc (y := nI 4) (lv' := [(2, .int (nI 4)), (0, .ref (mo 0)), (1, .int (nI i))]) (j := 0) X dX7_digestBounds_32 rfl (nI_add 3 1) (by decide) rfl ?_
                  refine g_goto (tgt := 2) X dX7_digestBounds_35 (by decide) ?_
                  refine g_iload_n X dX7_digestBounds_2 0 rfl rfl ?_
                  refine g_bipush (x := nI 6) X dX7_digestBounds_3 (by decide +kernel) ?_
                  refine g_icmp_geN (tgt := 38) X dX7_digestBounds_5 (by decide) (by omega) (by omega) (fun c5 => ?_) (fun c5 => ?_)
                  · exact absurd c5 (by decide)
                  · refine g_aload_n X dX7_digestBounds_8 1 rfl rfl ?_
                    refine g_aload_n X dX7_digestBounds_9 1 rfl rfl ?_
                    refine g_iload_n X dX7_digestBounds_10 2 rfl rfl ?_
                    refine g_iload_n X dX7_digestBounds_11 0 rfl rfl ?_
                    refine g_iconst (x := nI 2) X dX7_digestBounds_12 (by decide +kernel) ?_
                    refine g_idivN X dX7_digestBounds_13 (by omega) (by omega) (by omega) ?_
                    refine g_v (y := nI 2) (rfl) ?_
                    refine g_iload_n X dX7_digestBounds_14 0 rfl rfl ?_
                    refine g_iconst (x := nI 2) X dX7_digestBounds_15 (by decide +kernel) ?_
                    refine g_iremN X dX7_digestBounds_16 (by omega) (by omega) (by omega) ?_
                    refine g_v (y := nI 0) (rfl) ?_
                    refine g_if_neN (tgt := 24) X dX7_digestBounds_17 (by decide) (by omega) (fun c17 => ?_) (fun c17 => ?_)
                    · exact absurd rfl c17
                    · refine g_iconst (x := nI 1) X dX7_digestBounds_20 (by decide +kernel) ?_
                      refine g_goto (tgt := 25) X dX7_digestBounds_21 (by decide) ?_
                      refine g_callV (As := [.int (nI i), .int (nI 2), .int (nI 1)]) (rest := [.ref (mo 0)]) (wr := []) X (cMn_X7_bound l v mo th sm ln rm fa sp wr (dg (dg (dg (dg dd (zI (mnV lo hi P n i 0))) (zI (mxV lo hi P n i 0))) (zI (mnV lo hi P n i 1))) (zI (mxV lo hi P n i 1))) lo hi P n fn i 2 hn12 hN (by omega) (by omega)) f_X7_bound q_32_0 dX7_digestBounds_25 [0, 1] [] rfl rfl (by decide) 0 rfl rfl rfl rfl (Nat.le_of_ble_eq_true rfl) (by decide) (fun r_ w_ hp9 => ?_)
                      obtain ⟨rfl, rfl⟩ := hp9
                      show GG k _ _ [[((mo 0), .inr (7, [.int th, .ref (mo 1), .ref (mo 2), .int (nI sm), .ref (mo 3), .int (nI ln), .ref (mo 4), .int rm, .int fa, .ref (mo 5), .ref (mo 6), .int sp, .int wr, .long (dg (dg (dg (dg dd (zI (mnV lo hi P n i 0))) (zI (mxV lo hi P n i 0))) (zI (mnV lo hi P n i 1))) (zI (mxV lo hi P n i 1)))]))], cMn v mo fn] _ _ [.int (zI (mnV lo hi P n i 2)), .ref (mo 0)]
                      refine g_i2l X dX7_digestBounds_28 rfl ?_
                      refine g_callV (As := [.long ((zI (mnV lo hi P n i 2)).toInt64)]) (rest := []) (wr := [cMn v mo fn]) X (c_X7_digestOne l v mo th sm ln rm fa sp wr (dg (dg (dg (dg dd (zI (mnV lo hi P n i 0))) (zI (mxV lo hi P n i 0))) (zI (mnV lo hi P n i 1))) (zI (mxV lo hi P n i 1))) ((zI (mnV lo hi P n i 2)).toInt64)) f_X7_digestOne q_36_20 dX7_digestBounds_29 [0] [1] rfl rfl (by decide) 0 rfl rfl rfl rfl (Nat.le_of_ble_eq_true rfl) (by decide) (fun r_ w_ hp10 => ?_)
                      subst hp10
                      show GG k _ _ [[((mo 0), .inr (7, [.int th, .ref (mo 1), .ref (mo 2), .int (nI sm), .ref (mo 3), .int (nI ln), .ref (mo 4), .int rm, .int fa, .ref (mo 5), .ref (mo 6), .int sp, .int wr, .long (dg (dg (dg (dg (dg dd (zI (mnV lo hi P n i 0))) (zI (mxV lo hi P n i 0))) (zI (mnV lo hi P n i 1))) (zI (mxV lo hi P n i 1))) (zI (mnV lo hi P n i 2)))]))], cMn v mo fn] _ _ []
                      refine g_iinc (y := nI 5) (lv' := [(2, .int (nI 5)), (0, .ref (mo 0)), (1, .int (nI i))]) (j := 0) X dX7_digestBounds_32 rfl (nI_add 4 1) (by decide) rfl ?_
                      refine g_goto (tgt := 2) X dX7_digestBounds_35 (by decide) ?_
                      refine g_iload_n X dX7_digestBounds_2 0 rfl rfl ?_
                      refine g_bipush (x := nI 6) X dX7_digestBounds_3 (by decide +kernel) ?_
                      refine g_icmp_geN (tgt := 38) X dX7_digestBounds_5 (by decide) (by omega) (by omega) (fun c5 => ?_) (fun c5 => ?_)
                      · exact absurd c5 (by decide)
                      · refine g_aload_n X dX7_digestBounds_8 1 rfl rfl ?_
                        refine g_aload_n X dX7_digestBounds_9 1 rfl rfl ?_
                        refine g_iload_n X dX7_digestBounds_10 2 rfl rfl ?_
                        refine g_iload_n X dX7_digestBounds_11 0 rfl rfl ?_
                        refine g_iconst (x := nI 2) X dX7_digestBounds_12 (by decide +kernel) ?_
                        refine g_idivN X dX7_digestBounds_13 (by omega) (by omega) (by omega) ?_
                        refine g_v (y := nI 2) (rfl) ?_
                        refine g_iload_n X dX7_digestBounds_14 0 rfl rfl ?_
                        refine g_iconst (x := nI 2) X dX7_digestBounds_15 (by decide +kernel) ?_
                        refine g_iremN X dX7_digestBounds_16 (by omega) (by omega) (by omega) ?_
                        refine g_v (y := nI 1) (rfl) ?_
                        refine g_if_neN (tgt := 24) X dX7_digestBounds_17 (by decide) (by omega) (fun c17 => ?_) (fun c17 => ?_)
                        · refine g_iconst (x := nI 0) X dX7_digestBounds_24 (by decide +kernel) ?_
                          refine g_callV (As := [.int (nI i), .int (nI 2), .int (nI 0)]) (rest := [.ref (mo 0)]) (wr := []) X (cMx_X7_bound l v mo th sm ln rm fa sp wr (dg (dg (dg (dg (dg dd (zI (mnV lo hi P n i 0))) (zI (mxV lo hi P n i 0))) (zI (mnV lo hi P n i 1))) (zI (mxV lo hi P n i 1))) (zI (mnV lo hi P n i 2))) lo hi P n fn i 2 hn12 hN (by omega) (by omega)) f_X7_bound q_32_0 dX7_digestBounds_25 [0, 1] [] rfl rfl (by decide) 0 rfl rfl rfl rfl (Nat.le_of_ble_eq_true rfl) (by decide) (fun r_ w_ hp11 => ?_)
                          obtain ⟨rfl, rfl⟩ := hp11
                          show GG k _ _ [[((mo 0), .inr (7, [.int th, .ref (mo 1), .ref (mo 2), .int (nI sm), .ref (mo 3), .int (nI ln), .ref (mo 4), .int rm, .int fa, .ref (mo 5), .ref (mo 6), .int sp, .int wr, .long (dg (dg (dg (dg (dg dd (zI (mnV lo hi P n i 0))) (zI (mxV lo hi P n i 0))) (zI (mnV lo hi P n i 1))) (zI (mxV lo hi P n i 1))) (zI (mnV lo hi P n i 2)))]))], cMn v mo fn] _ _ [.int (zI (mxV lo hi P n i 2)), .ref (mo 0)]
                          refine g_i2l X dX7_digestBounds_28 rfl ?_
                          refine g_callV (As := [.long ((zI (mxV lo hi P n i 2)).toInt64)]) (rest := []) (wr := [cMn v mo fn]) X (c_X7_digestOne l v mo th sm ln rm fa sp wr (dg (dg (dg (dg (dg dd (zI (mnV lo hi P n i 0))) (zI (mxV lo hi P n i 0))) (zI (mnV lo hi P n i 1))) (zI (mxV lo hi P n i 1))) (zI (mnV lo hi P n i 2))) ((zI (mxV lo hi P n i 2)).toInt64)) f_X7_digestOne q_36_20 dX7_digestBounds_29 [0] [1] rfl rfl (by decide) 0 rfl rfl rfl rfl (Nat.le_of_ble_eq_true rfl) (by decide) (fun r_ w_ hp12 => ?_)
                          subst hp12
                          show GG k _ _ [[((mo 0), .inr (7, [.int th, .ref (mo 1), .ref (mo 2), .int (nI sm), .ref (mo 3), .int (nI ln), .ref (mo 4), .int rm, .int fa, .ref (mo 5), .ref (mo 6), .int sp, .int wr, .long (dg (dg (dg (dg (dg (dg dd (zI (mnV lo hi P n i 0))) (zI (mxV lo hi P n i 0))) (zI (mnV lo hi P n i 1))) (zI (mxV lo hi P n i 1))) (zI (mnV lo hi P n i 2))) (zI (mxV lo hi P n i 2)))]))], cMn v mo fn] _ _ []
                          refine g_iinc (y := nI 6) (lv' := [(2, .int (nI 6)), (0, .ref (mo 0)), (1, .int (nI i))]) (j := 0) X dX7_digestBounds_32 rfl (nI_add 5 1) (by decide) rfl ?_
                          refine g_goto (tgt := 2) X dX7_digestBounds_35 (by decide) ?_
                          refine g_iload_n X dX7_digestBounds_2 0 rfl rfl ?_
                          refine g_bipush (x := nI 6) X dX7_digestBounds_3 (by decide +kernel) ?_
                          refine g_icmp_geN (tgt := 38) X dX7_digestBounds_5 (by decide) (by omega) (by omega) (fun c5 => ?_) (fun c5 => ?_)
                          · exact E dX7_digestBounds_38 (by decide) (by decide) (rfl)
                          · exact absurd c5 (by decide)
                        · exact absurd c17 (by decide)
                · exact absurd c17 (by decide)
        · exact absurd c17 (by decide)

set_option maxHeartbeats 4000000 in
set_option maxRecDepth 100000 in
theorem c_X7_digest (l : Launch) (v : VV) (mo : Nat → Nat) (th : Int32) (sm : Nat) (ln : Nat) (rm : Int32) (fa : Int32) (sp : Int32) (wr : Int32) (dd : Int64) (P : Nat → S9) (n : Nat) (lo : Nat → Nat) (hi : Nat → Nat) (fs : Nat → Int32) (fe : Nat → Int32) (fn : Nat → Int32) (hW : WF P n) (hS : SR P n lo hi fs) (hL : AsW lo hi) : ML l v yX7_digest cX7_digest 2 (some .long) ({ frames := 6, cells := 0, slots := 0, locals := 138 }) [.ref (mo 0)] [[((mo 0), .inr (7, [.int th, .ref (mo 1), .ref (mo 2), .int (nI sm), .ref (mo 3), .int (nI ln), .ref (mo 4), .int rm, .int fa, .ref (mo 5), .ref (mo 6), .int sp, .int wr, .long dd]))], cMs v mo fs, cMe v mo fe, cMn v mo fn] (fun r w_ => ∃ fe' fn' dd', r = dGV lo hi P n ∧ w_ = [[((mo 0), .inr (7, [.int (nI 0), .ref (mo 1), .ref (mo 2), .int (nI sm), .ref (mo 3), .int (nI ln), .ref (mo 4), .int rm, .int fa, .ref (mo 5), .ref (mo 6), .int sp, .int wr, .long dd']))], cMs v mo fs, cMe v mo fe', cMn v mo fn']) 0 0 := by
  refine mm_long rfl (by decide) (Nat.le_of_ble_eq_true rfl) [(0, .ref (mo 0))] rfl (fun k X E => ?_)
  have hn12 := hW.1
  refine g_aload_n X dX7_digest_0 0 rfl rfl ?_
  refine g_iconst (x := nI 0) X dX7_digest_1 (by decide +kernel) ?_
  refine g_put (cs' := [[((mo 0), .inr (7, [.int (nI 0), .ref (mo 1), .ref (mo 2), .int (nI sm), .ref (mo 3), .int (nI ln), .ref (mo 4), .int rm, .int fa, .ref (mo 5), .ref (mo 6), .int sp, .int wr, .long dd]))], cMs v mo fs, cMe v mo fe, cMn v mo fn]) X cb7 0 q_15_23 dX7_digest_2 0 0 rfl rfl (by decide) rfl rfl (rfl) (rfl) (Nat.le_of_ble_eq_true rfl) rfl ?_
  refine g_aload_n X dX7_digest_5 0 rfl rfl ?_
  refine g_callV (As := []) (rest := []) (wr := [cMn v mo fn]) X (c_X7_worksOut l v mo (nI 0) sm ln rm fa sp wr dd P n lo hi fs fe hW hS) f_X7_worksOut q_22_10 dX7_digest_6 [0, 1, 2] [3] rfl rfl (by decide) 0 rfl rfl rfl rfl (Nat.le_of_ble_eq_true rfl) (by decide) (fun r_ w_ hp2 => ?_)
  obtain ⟨wo1, wo1E, rfl⟩ := hp2
  show GG k _ _ [[((mo 0), .inr (7, [.int (nI 0), .ref (mo 1), .ref (mo 2), .int (nI sm), .ref (mo 3), .int (nI ln), .ref (mo 4), .int rm, .int fa, .ref (mo 5), .ref (mo 6), .int sp, .int wr, .long dd]))], cMs v mo fs, cMe v mo wo1, cMn v mo fn] _ _ []
  refine g_aload_n X dX7_digest_9 0 rfl rfl ?_
  refine g_callV (As := []) (rest := []) (wr := [cMe v mo wo1]) X (c_X7_looks l v mo (nI 0) sm ln rm fa sp wr dd P n lo hi fs fn hW hS hL) f_X7_looks q_28_22 dX7_digest_10 [0, 1, 3] [2] rfl rfl (by decide) 0 rfl rfl rfl rfl (Nat.le_of_ble_eq_true rfl) (by decide) (fun r_ w_ hp4 => ?_)
  obtain ⟨lk3, lk3N, rfl⟩ := hp4
  show GG k _ _ [[((mo 0), .inr (7, [.int (nI 0), .ref (mo 1), .ref (mo 2), .int (nI sm), .ref (mo 3), .int (nI ln), .ref (mo 4), .int rm, .int fa, .ref (mo 5), .ref (mo 6), .int sp, .int wr, .long dd]))], cMs v mo fs, cMn v mo lk3, cMe v mo wo1] _ _ []
  refine g_pick (cs' := [[((mo 0), .inr (7, [.int (nI 0), .ref (mo 1), .ref (mo 2), .int (nI sm), .ref (mo 3), .int (nI ln), .ref (mo 4), .int rm, .int fa, .ref (mo 5), .ref (mo 6), .int sp, .int wr, .long dd]))], cMs v mo fs, cMe v mo wo1, cMn v mo lk3]) [0, 1, 3, 2] rfl rfl ?_
  refine g_aload_n X dX7_digest_13 0 rfl rfl ?_
  refine g_ldc2 X q_36_18 dX7_digest_14 ?_
  refine g_put (cs' := [[((mo 0), .inr (7, [.int (nI 0), .ref (mo 1), .ref (mo 2), .int (nI sm), .ref (mo 3), .int (nI ln), .ref (mo 4), .int rm, .int fa, .ref (mo 5), .ref (mo 6), .int sp, .int wr, .long 4234]))], cMs v mo fs, cMe v mo wo1, cMn v mo lk3]) X cb7 13 q_36_19 dX7_digest_17 0 0 rfl rfl (by decide) rfl rfl (rfl) (rfl) (Nat.le_of_ble_eq_true rfl) rfl ?_
  refine g_aload_n X dX7_digest_20 0 rfl rfl ?_
  refine g_aload_n X dX7_digest_21 0 rfl rfl ?_
  refine g_get X cb7 1 q_4_18 dX7_digest_22 0 0 rfl rfl (by decide) rfl rfl ?_
  refine g_iconst (x := nI 0) X dX7_digest_25 (by decide +kernel) ?_
  refine g_iald X dX7_digest_26 1 0 rfl rfl (by omega) (by omega) ?_
  refine g_v (y := nI n) (hS.1) ?_
  refine g_i2l X dX7_digest_27 rfl ?_
  refine g_callV (As := [.long ((nI n).toInt64)]) (rest := []) (wr := [cMs v mo fs, cMe v mo wo1, cMn v mo lk3]) X (c_X7_digestOne l v mo (nI 0) sm ln rm fa sp wr 4234 ((nI n).toInt64)) f_X7_digestOne q_36_20 dX7_digest_28 [0] [1, 2, 3] rfl rfl (by decide) 0 rfl rfl rfl rfl (Nat.le_of_ble_eq_true rfl) (by decide) (fun r_ w_ hp5 => ?_)
  subst hp5
  show GG k _ _ [[((mo 0), .inr (7, [.int (nI 0), .ref (mo 1), .ref (mo 2), .int (nI sm), .ref (mo 3), .int (nI ln), .ref (mo 4), .int rm, .int fa, .ref (mo 5), .ref (mo 6), .int sp, .int wr, .long (dg 4234 (nI n))]))], cMs v mo fs, cMe v mo wo1, cMn v mo lk3] _ _ []
  refine g_aload_n X dX7_digest_31 0 rfl rfl ?_
  refine g_aload_n X dX7_digest_32 0 rfl rfl ?_
  refine g_iconst (x := nI 0) X dX7_digest_33 (by decide +kernel) ?_
  refine g_callV (As := [.int (nI 0)]) (rest := [.ref (mo 0)]) (wr := [cMn v mo lk3]) X (c_X7_runsThat l v mo (nI 0) sm ln rm fa sp wr (dg 4234 (nI n)) P n lo hi fs wo1 0 hW hS hL wo1E (by omega)) f_X7_runsThat q_30_13 dX7_digest_34 [0, 1, 2] [3] rfl rfl (by decide) 0 rfl rfl rfl rfl (Nat.le_of_ble_eq_true rfl) (by decide) (fun r_ w_ hp6 => ?_)
  rw [rt_0] at hp6
  obtain ⟨rfl, rfl⟩ := hp6
  have hcljE := ctb_le (jE lo hi P n) 512
  show GG k _ _ [[((mo 0), .inr (7, [.int (nI 0), .ref (mo 1), .ref (mo 2), .int (nI sm), .ref (mo 3), .int (nI ln), .ref (mo 4), .int rm, .int fa, .ref (mo 5), .ref (mo 6), .int sp, .int wr, .long (dg 4234 (nI n))]))], cMs v mo fs, cMe v mo wo1, cMn v mo lk3] _ _ [.int (nI (ctb (jE lo hi P n) 512)), .ref (mo 0)]
  refine g_i2l X dX7_digest_37 rfl ?_
  refine g_callV (As := [.long ((nI (ctb (jE lo hi P n) 512)).toInt64)]) (rest := []) (wr := [cMs v mo fs, cMe v mo wo1, cMn v mo lk3]) X (c_X7_digestOne l v mo (nI 0) sm ln rm fa sp wr (dg 4234 (nI n)) ((nI (ctb (jE lo hi P n) 512)).toInt64)) f_X7_digestOne q_36_20 dX7_digest_38 [0] [1, 2, 3] rfl rfl (by decide) 0 rfl rfl rfl rfl (Nat.le_of_ble_eq_true rfl) (by decide) (fun r_ w_ hp7 => ?_)
  subst hp7
  show GG k _ _ [[((mo 0), .inr (7, [.int (nI 0), .ref (mo 1), .ref (mo 2), .int (nI sm), .ref (mo 3), .int (nI ln), .ref (mo 4), .int rm, .int fa, .ref (mo 5), .ref (mo 6), .int sp, .int wr, .long (dg (dg 4234 (nI n)) (nI (ctb (jE lo hi P n) 512)))]))], cMs v mo fs, cMe v mo wo1, cMn v mo lk3] _ _ []
  refine g_aload_n X dX7_digest_41 0 rfl rfl ?_
  refine g_aload_n X dX7_digest_42 0 rfl rfl ?_
  refine g_callV (As := []) (rest := [.ref (mo 0)]) (wr := [cMn v mo lk3]) X (c_X7_judged l v mo (nI 0) sm ln rm fa sp wr (dg (dg 4234 (nI n)) (nI (ctb (jE lo hi P n) 512))) P n lo hi fs wo1 hW hS hL wo1E) f_X7_judged q_31_1 dX7_digest_43 [0, 1, 2] [3] rfl rfl (by decide) 0 rfl rfl rfl rfl (Nat.le_of_ble_eq_true rfl) (by decide) (fun r_ w_ hp8 => ?_)
  obtain ⟨rfl, rfl⟩ := hp8
  show GG k _ _ [[((mo 0), .inr (7, [.int (nI 0), .ref (mo 1), .ref (mo 2), .int (nI sm), .ref (mo 3), .int (nI ln), .ref (mo 4), .int rm, .int fa, .ref (mo 5), .ref (mo 6), .int sp, .int wr, .long (dg (dg 4234 (nI n)) (nI (ctb (jE lo hi P n) 512)))]))], cMs v mo fs, cMe v mo wo1, cMn v mo lk3] _ _ [.int (zI (pfV lo hi P n)), .ref (mo 0)]
  refine g_i2l X dX7_digest_46 rfl ?_
  refine g_callV (As := [.long ((zI (pfV lo hi P n)).toInt64)]) (rest := []) (wr := [cMs v mo fs, cMe v mo wo1, cMn v mo lk3]) X (c_X7_digestOne l v mo (nI 0) sm ln rm fa sp wr (dg (dg 4234 (nI n)) (nI (ctb (jE lo hi P n) 512))) ((zI (pfV lo hi P n)).toInt64)) f_X7_digestOne q_36_20 dX7_digest_47 [0] [1, 2, 3] rfl rfl (by decide) 0 rfl rfl rfl rfl (Nat.le_of_ble_eq_true rfl) (by decide) (fun r_ w_ hp9 => ?_)
  subst hp9
  show GG k _ _ [[((mo 0), .inr (7, [.int (nI 0), .ref (mo 1), .ref (mo 2), .int (nI sm), .ref (mo 3), .int (nI ln), .ref (mo 4), .int rm, .int fa, .ref (mo 5), .ref (mo 6), .int sp, .int wr, .long (dg (dg (dg 4234 (nI n)) (nI (ctb (jE lo hi P n) 512))) (zI (pfV lo hi P n)))]))], cMs v mo fs, cMe v mo wo1, cMn v mo lk3] _ _ []
  refine g_iconst (x := nI 0) X dX7_digest_50 (by decide +kernel) ?_
  refine g_istore_n (lv' := [(1, .int (nI 0)), (0, .ref (mo 0))]) X dX7_digest_51 rfl (by decide) rfl ?_
  have lp52 : ∀ (zN : Nat) (i : Nat) (q : Int64) (hi9 : i ≤ n) (hq9 : q = dS lo hi P n i (dG0 lo hi P n)) (zM : zN = n - i), GG k 0 0 [[((mo 0), .inr (7, [.int (nI 0), .ref (mo 1), .ref (mo 2), .int (nI sm), .ref (mo 3), .int (nI ln), .ref (mo 4), .int rm, .int fa, .ref (mo 5), .ref (mo 6), .int sp, .int wr, .long q]))], cMs v mo fs, cMe v mo wo1, cMn v mo lk3] [(1, .int (nI i)), (0, .ref (mo 0))] 52 [] := by
    intro zN
    induction zN using Nat.strongRecOn with
    | _ zN zih =>
      have ih52 := zih
      clear zih
      intro i q hi9 hq9 zM
      refine g_iload_n X dX7_digest_52 0 rfl rfl ?_
      refine g_aload_n X dX7_digest_53 1 rfl rfl ?_
      refine g_get X cb7 1 q_4_18 dX7_digest_54 0 0 rfl rfl (by decide) rfl rfl ?_
      refine g_iconst (x := nI 0) X dX7_digest_57 (by decide +kernel) ?_
      refine g_iald X dX7_digest_58 1 0 rfl rfl (by omega) (by omega) ?_
      refine g_v (y := nI n) (hS.1) ?_
      refine g_icmp_geN (tgt := 128) X dX7_digest_59 (by decide) (by omega) (by omega) (fun c59 => ?_) (fun c59 => ?_)
      · refine g_aload_n X dX7_digest_128 1 rfl rfl ?_
        refine g_aload_n X dX7_digest_129 1 rfl rfl ?_
        refine g_get X cb7 1 q_4_18 dX7_digest_130 0 0 rfl rfl (by decide) rfl rfl ?_
        refine g_iconst (x := nI 0) X dX7_digest_133 (by decide +kernel) ?_
        refine g_iald X dX7_digest_134 1 0 rfl rfl (by omega) (by omega) ?_
        refine g_v (y := nI n) (hS.1) ?_
        refine g_callV (As := [.int (nI n)]) (rest := []) (wr := [cMs v mo fs, cMe v mo wo1]) X (c_X7_digestBounds l v mo (nI 0) sm ln rm fa sp wr q lo hi P n lk3 n hn12 lk3N (by omega)) f_X7_digestBounds q_37_1 dX7_digest_135 [0, 3] [1, 2] rfl rfl (by decide) 0 rfl rfl rfl rfl (Nat.le_of_ble_eq_true rfl) (by decide) (fun r_ w_ hp10 => ?_)
        subst hp10
        show GG k _ _ [[((mo 0), .inr (7, [.int (nI 0), .ref (mo 1), .ref (mo 2), .int (nI sm), .ref (mo 3), .int (nI ln), .ref (mo 4), .int rm, .int fa, .ref (mo 5), .ref (mo 6), .int sp, .int wr, .long (dB lo hi P n n 3 q)]))], cMn v mo lk3, cMs v mo fs, cMe v mo wo1] _ _ []
        refine g_pick (cs' := [[((mo 0), .inr (7, [.int (nI 0), .ref (mo 1), .ref (mo 2), .int (nI sm), .ref (mo 3), .int (nI ln), .ref (mo 4), .int rm, .int fa, .ref (mo 5), .ref (mo 6), .int sp, .int wr, .long (dB lo hi P n n 3 q)]))], cMs v mo fs, cMe v mo wo1, cMn v mo lk3]) [0, 2, 3, 1] rfl rfl ?_
        refine g_iconst (x := nI 0) X dX7_digest_138 (by decide +kernel) ?_
        refine g_istore_n (lv' := [(1, .int (nI 0)), (0, .ref (mo 0))]) X dX7_digest_139 rfl (by decide) rfl ?_
        refine g_iload_n X dX7_digest_140 0 rfl rfl ?_
        refine g_iconst (x := nI 3) X dX7_digest_141 (by decide +kernel) ?_
        refine g_icmp_geN (tgt := 161) X dX7_digest_142 (by decide) (by omega) (by omega) (fun c142 => ?_) (fun c142 => ?_)
        · exact absurd c142 (by decide)
        · refine g_aload_n X dX7_digest_145 1 rfl rfl ?_
          refine g_aload_n X dX7_digest_146 1 rfl rfl ?_
          refine g_iload_n X dX7_digest_147 0 rfl rfl ?_
          refine g_callV (As := [.int (nI 0)]) (rest := [.ref (mo 0)]) (wr := [cMn v mo lk3]) X (c_X7_widestOf l v mo (nI 0) sm ln rm fa sp wr (dB lo hi P n n 3 q) P n lo hi fs wo1 0 hW hS hL wo1E (by omega)) f_X7_widestOf q_33_11 dX7_digest_148 [0, 1, 2] [3] rfl rfl (by decide) 0 rfl rfl rfl rfl (Nat.le_of_ble_eq_true rfl) (by decide) (fun r_ w_ hp11 => ?_)
          obtain ⟨rfl, rfl⟩ := hp11
          show GG k _ _ [[((mo 0), .inr (7, [.int (nI 0), .ref (mo 1), .ref (mo 2), .int (nI sm), .ref (mo 3), .int (nI ln), .ref (mo 4), .int rm, .int fa, .ref (mo 5), .ref (mo 6), .int sp, .int wr, .long (dB lo hi P n n 3 q)]))], cMs v mo fs, cMe v mo wo1, cMn v mo lk3] _ _ [.int (zI (wdV lo hi P n 0)), .ref (mo 0)]
          refine g_i2l X dX7_digest_151 rfl ?_
          refine g_callV (As := [.long ((zI (wdV lo hi P n 0)).toInt64)]) (rest := []) (wr := [cMs v mo fs, cMe v mo wo1, cMn v mo lk3]) X (c_X7_digestOne l v mo (nI 0) sm ln rm fa sp wr (dB lo hi P n n 3 q) ((zI (wdV lo hi P n 0)).toInt64)) f_X7_digestOne q_36_20 dX7_digest_152 [0] [1, 2, 3] rfl rfl (by decide) 0 rfl rfl rfl rfl (Nat.le_of_ble_eq_true rfl) (by decide) (fun r_ w_ hp12 => ?_)
          subst hp12
          show GG k _ _ [[((mo 0), .inr (7, [.int (nI 0), .ref (mo 1), .ref (mo 2), .int (nI sm), .ref (mo 3), .int (nI ln), .ref (mo 4), .int rm, .int fa, .ref (mo 5), .ref (mo 6), .int sp, .int wr, .long (dg (dB lo hi P n n 3 q) (zI (wdV lo hi P n 0)))]))], cMs v mo fs, cMe v mo wo1, cMn v mo lk3] _ _ []
          refine g_iinc (y := nI 1) (lv' := [(1, .int (nI 1)), (0, .ref (mo 0))]) (j := 0) X dX7_digest_155 rfl (nI_add 0 1) (by decide) rfl ?_
          refine g_goto (tgt := 140) X dX7_digest_158 (by decide) ?_
          refine g_iload_n X dX7_digest_140 0 rfl rfl ?_
          refine g_iconst (x := nI 3) X dX7_digest_141 (by decide +kernel) ?_
          refine g_icmp_geN (tgt := 161) X dX7_digest_142 (by decide) (by omega) (by omega) (fun c142 => ?_) (fun c142 => ?_)
          · exact absurd c142 (by decide)
          · refine g_aload_n X dX7_digest_145 1 rfl rfl ?_
            refine g_aload_n X dX7_digest_146 1 rfl rfl ?_
            refine g_iload_n X dX7_digest_147 0 rfl rfl ?_
            refine g_callV (As := [.int (nI 1)]) (rest := [.ref (mo 0)]) (wr := [cMn v mo lk3]) X (c_X7_widestOf l v mo (nI 0) sm ln rm fa sp wr (dg (dB lo hi P n n 3 q) (zI (wdV lo hi P n 0))) P n lo hi fs wo1 1 hW hS hL wo1E (by omega)) f_X7_widestOf q_33_11 dX7_digest_148 [0, 1, 2] [3] rfl rfl (by decide) 0 rfl rfl rfl rfl (Nat.le_of_ble_eq_true rfl) (by decide) (fun r_ w_ hp13 => ?_)
            obtain ⟨rfl, rfl⟩ := hp13
            show GG k _ _ [[((mo 0), .inr (7, [.int (nI 0), .ref (mo 1), .ref (mo 2), .int (nI sm), .ref (mo 3), .int (nI ln), .ref (mo 4), .int rm, .int fa, .ref (mo 5), .ref (mo 6), .int sp, .int wr, .long (dg (dB lo hi P n n 3 q) (zI (wdV lo hi P n 0)))]))], cMs v mo fs, cMe v mo wo1, cMn v mo lk3] _ _ [.int (zI (wdV lo hi P n 1)), .ref (mo 0)]
            refine g_i2l X dX7_digest_151 rfl ?_
            refine g_callV (As := [.long ((zI (wdV lo hi P n 1)).toInt64)]) (rest := []) (wr := [cMs v mo fs, cMe v mo wo1, cMn v mo lk3]) X (c_X7_digestOne l v mo (nI 0) sm ln rm fa sp wr (dg (dB lo hi P n n 3 q) (zI (wdV lo hi P n 0))) ((zI (wdV lo hi P n 1)).toInt64)) f_X7_digestOne q_36_20 dX7_digest_152 [0] [1, 2, 3] rfl rfl (by decide) 0 rfl rfl rfl rfl (Nat.le_of_ble_eq_true rfl) (by decide) (fun r_ w_ hp14 => ?_)
            subst hp14
            show GG k _ _ [[((mo 0), .inr (7, [.int (nI 0), .ref (mo 1), .ref (mo 2), .int (nI sm), .ref (mo 3), .int (nI ln), .ref (mo 4), .int rm, .int fa, .ref (mo 5), .ref (mo 6), .int sp, .int wr, .long (dg (dg (dB lo hi P n n 3 q) (zI (wdV lo hi P n 0))) (zI (wdV lo hi P n 1)))]))], cMs v mo fs, cMe v mo wo1, cMn v mo lk3] _ _ []
            refine g_iinc (y := nI 2) (lv' := [(1, .int (nI 2)), (0, .ref (mo 0))]) (j := 0) X dX7_digest_155 rfl (nI_add 1 1) (by decide) rfl ?_
            refine g_goto (tgt := 140) X dX7_digest_158 (by decide) ?_
            refine g_iload_n X dX7_digest_140 0 rfl rfl ?_
            refine g_iconst (x := nI 3) X dX7_digest_141 (by decide +kernel) ?_
            refine g_icmp_geN (tgt := 161) X dX7_digest_142 (by decide) (by omega) (by omega) (fun c142 => ?_) (fun c142 => ?_)
            · exact absurd c142 (by decide)
            · refine g_aload_n X dX7_digest_145 1 rfl rfl ?_
              refine g_aload_n X dX7_digest_146 1 rfl rfl ?_
              refine g_iload_n X dX7_digest_147 0 rfl rfl ?_
              refine g_callV (As := [.int (nI 2)]) (rest := [.ref (mo 0)]) (wr := [cMn v mo lk3]) X (c_X7_widestOf l v mo (nI 0) sm ln rm fa sp wr (dg (dg (dB lo hi P n n 3 q) (zI (wdV lo hi P n 0))) (zI (wdV lo hi P n 1))) P n lo hi fs wo1 2 hW hS hL wo1E (by omega)) f_X7_widestOf q_33_11 dX7_digest_148 [0, 1, 2] [3] rfl rfl (by decide) 0 rfl rfl rfl rfl (Nat.le_of_ble_eq_true rfl) (by decide) (fun r_ w_ hp15 => ?_)
              obtain ⟨rfl, rfl⟩ := hp15
              show GG k _ _ [[((mo 0), .inr (7, [.int (nI 0), .ref (mo 1), .ref (mo 2), .int (nI sm), .ref (mo 3), .int (nI ln), .ref (mo 4), .int rm, .int fa, .ref (mo 5), .ref (mo 6), .int sp, .int wr, .long (dg (dg (dB lo hi P n n 3 q) (zI (wdV lo hi P n 0))) (zI (wdV lo hi P n 1)))]))], cMs v mo fs, cMe v mo wo1, cMn v mo lk3] _ _ [.int (zI (wdV lo hi P n 2)), .ref (mo 0)]
              refine g_i2l X dX7_digest_151 rfl ?_
              refine g_callV (As := [.long ((zI (wdV lo hi P n 2)).toInt64)]) (rest := []) (wr := [cMs v mo fs, cMe v mo wo1, cMn v mo lk3]) X (c_X7_digestOne l v mo (nI 0) sm ln rm fa sp wr (dg (dg (dB lo hi P n n 3 q) (zI (wdV lo hi P n 0))) (zI (wdV lo hi P n 1))) ((zI (wdV lo hi P n 2)).toInt64)) f_X7_digestOne q_36_20 dX7_digest_152 [0] [1, 2, 3] rfl rfl (by decide) 0 rfl rfl rfl rfl (Nat.le_of_ble_eq_true rfl) (by decide) (fun r_ w_ hp16 => ?_)
              subst hp16
              show GG k _ _ [[((mo 0), .inr (7, [.int (nI 0), .ref (mo 1), .ref (mo 2), .int (nI sm), .ref (mo 3), .int (nI ln), .ref (mo 4), .int rm, .int fa, .ref (mo 5), .ref (mo 6), .int sp, .int wr, .long (dg (dg (dg (dB lo hi P n n 3 q) (zI (wdV lo hi P n 0))) (zI (wdV lo hi P n 1))) (zI (wdV lo hi P n 2)))]))], cMs v mo fs, cMe v mo wo1, cMn v mo lk3] _ _ []
              refine g_iinc (y := nI 3) (lv' := [(1, .int (nI 3)), (0, .ref (mo 0))]) (j := 0) X dX7_digest_155 rfl (nI_add 2 1) (by decide) rfl ?_
              refine g_goto (tgt := 140) X dX7_digest_158 (by decide) ?_
              refine g_iload_n X dX7_digest_140 0 rfl rfl ?_
              refine g_iconst (x := nI 3) X dX7_digest_141 (by decide +kernel) ?_
              refine g_icmp_geN (tgt := 161) X dX7_digest_142 (by decide) (by omega) (by omega) (fun c142 => ?_) (fun c142 => ?_)
              · refine g_aload_n X dX7_digest_161 1 rfl rfl ?_
                refine g_get X cb7 13 q_36_19 dX7_digest_162 0 0 rfl rfl (by decide) rfl rfl ?_
                exact E dX7_digest_165 (by decide) (by decide) (⟨_, _, _, by rw [hq9, show i = n from by omega]; rfl, rfl⟩)
              · exact absurd c142 (by decide)
      · refine g_aload_n X dX7_digest_62 1 rfl rfl ?_
        refine g_aload_n X dX7_digest_63 1 rfl rfl ?_
        refine g_get X cb7 1 q_4_18 dX7_digest_64 0 0 rfl rfl (by decide) rfl rfl ?_
        refine g_iload_n X dX7_digest_67 0 rfl rfl ?_
        refine g_iconst (x := nI 0) X dX7_digest_68 (by decide +kernel) ?_
        refine g_callS (As := [.int (nI i), .int (nI 0)]) (rest := [.ref (mo 1), .ref (mo 0)]) (wr := [[((mo 0), .inr (7, [.int (nI 0), .ref (mo 1), .ref (mo 2), .int (nI sm), .ref (mo 3), .int (nI ln), .ref (mo 4), .int rm, .int fa, .ref (mo 5), .ref (mo 6), .int sp, .int wr, .long q]))], cMs v mo fs, cMe v mo wo1, cMn v mo lk3]) X (c_X7_of l v i 0) f_X7_of q_17_23 dX7_digest_69 [] [0, 1, 2, 3] rfl rfl (by decide) rfl rfl (Nat.le_of_ble_eq_true rfl) (by decide) (fun r_ w_ hp17 => ?_)
        obtain ⟨rfl, rfl⟩ := hp17
        show GG k _ _ [[((mo 0), .inr (7, [.int (nI 0), .ref (mo 1), .ref (mo 2), .int (nI sm), .ref (mo 3), .int (nI ln), .ref (mo 4), .int rm, .int fa, .ref (mo 5), .ref (mo 6), .int sp, .int wr, .long q]))], cMs v mo fs, cMe v mo wo1, cMn v mo lk3] _ _ [.int (nI (1 + 5 * i + 0)), .ref (mo 1), .ref (mo 0)]
        refine g_iald X dX7_digest_72 1 0 rfl rfl (by omega) (by omega) ?_
        refine g_v (y := nI ((P i).1)) ((hS.2.1 i (by omega)).1) ?_
        refine g_i2l X dX7_digest_73 rfl ?_
        refine g_callV (As := [.long ((nI ((P i).1)).toInt64)]) (rest := []) (wr := [cMs v mo fs, cMe v mo wo1, cMn v mo lk3]) X (c_X7_digestOne l v mo (nI 0) sm ln rm fa sp wr q ((nI ((P i).1)).toInt64)) f_X7_digestOne q_36_20 dX7_digest_74 [0] [1, 2, 3] rfl rfl (by decide) 0 rfl rfl rfl rfl (Nat.le_of_ble_eq_true rfl) (by decide) (fun r_ w_ hp18 => ?_)
        subst hp18
        show GG k _ _ [[((mo 0), .inr (7, [.int (nI 0), .ref (mo 1), .ref (mo 2), .int (nI sm), .ref (mo 3), .int (nI ln), .ref (mo 4), .int rm, .int fa, .ref (mo 5), .ref (mo 6), .int sp, .int wr, .long (dg q (nI ((P i).1)))]))], cMs v mo fs, cMe v mo wo1, cMn v mo lk3] _ _ []
        refine g_aload_n X dX7_digest_77 1 rfl rfl ?_
        refine g_aload_n X dX7_digest_78 1 rfl rfl ?_
        refine g_iload_n X dX7_digest_79 0 rfl rfl ?_
        refine g_callV (As := [.int (nI i)]) (rest := [.ref (mo 0)]) (wr := [cMe v mo wo1, cMn v mo lk3]) X (c_X7_targetOf l v mo (nI 0) sm ln rm fa sp wr (dg q (nI ((P i).1))) P n lo hi fs i hW hS (by omega)) f_X7_targetOf q_19_18 dX7_digest_80 [0, 1] [2, 3] rfl rfl (by decide) 0 rfl rfl rfl rfl (Nat.le_of_ble_eq_true rfl) (by decide) (fun r_ w_ hp19 => ?_)
        obtain ⟨rfl, rfl⟩ := hp19
        show GG k _ _ [[((mo 0), .inr (7, [.int (nI 0), .ref (mo 1), .ref (mo 2), .int (nI sm), .ref (mo 3), .int (nI ln), .ref (mo 4), .int rm, .int fa, .ref (mo 5), .ref (mo 6), .int sp, .int wr, .long (dg q (nI ((P i).1)))]))], cMs v mo fs, cMe v mo wo1, cMn v mo lk3] _ _ [.int (zI (tg9 (P i))), .ref (mo 0)]
        refine g_i2l X dX7_digest_83 rfl ?_
        refine g_callV (As := [.long ((zI (tg9 (P i))).toInt64)]) (rest := []) (wr := [cMs v mo fs, cMe v mo wo1, cMn v mo lk3]) X (c_X7_digestOne l v mo (nI 0) sm ln rm fa sp wr (dg q (nI ((P i).1))) ((zI (tg9 (P i))).toInt64)) f_X7_digestOne q_36_20 dX7_digest_84 [0] [1, 2, 3] rfl rfl (by decide) 0 rfl rfl rfl rfl (Nat.le_of_ble_eq_true rfl) (by decide) (fun r_ w_ hp20 => ?_)
        subst hp20
        show GG k _ _ [[((mo 0), .inr (7, [.int (nI 0), .ref (mo 1), .ref (mo 2), .int (nI sm), .ref (mo 3), .int (nI ln), .ref (mo 4), .int rm, .int fa, .ref (mo 5), .ref (mo 6), .int sp, .int wr, .long (dg (dg q (nI ((P i).1))) (zI (tg9 (P i))))]))], cMs v mo fs, cMe v mo wo1, cMn v mo lk3] _ _ []
        refine g_aload_n X dX7_digest_87 1 rfl rfl ?_
        refine g_aload_n X dX7_digest_88 1 rfl rfl ?_
        refine g_iload_n X dX7_digest_89 0 rfl rfl ?_
        refine g_callV (As := [.int (nI i)]) (rest := [.ref (mo 0)]) (wr := [cMs v mo fs, cMn v mo lk3]) X (c_X7_demanded l v mo (nI 0) sm ln rm fa sp wr (dg (dg q (nI ((P i).1))) (zI (tg9 (P i)))) P n wo1 i hW wo1E (by omega)) f_X7_demanded q_25_3 dX7_digest_90 [0, 2] [1, 3] rfl rfl (by decide) 0 rfl rfl rfl rfl (Nat.le_of_ble_eq_true rfl) (by decide) (fun r_ w_ hp21 => ?_)
        obtain ⟨rfl, rfl⟩ := hp21
        show GG k _ _ [[((mo 0), .inr (7, [.int (nI 0), .ref (mo 1), .ref (mo 2), .int (nI sm), .ref (mo 3), .int (nI ln), .ref (mo 4), .int rm, .int fa, .ref (mo 5), .ref (mo 6), .int sp, .int wr, .long (dg (dg q (nI ((P i).1))) (zI (tg9 (P i))))]))], cMe v mo wo1, cMs v mo fs, cMn v mo lk3] _ _ [.int (nI (dmV P n i)), .ref (mo 0)]
        refine g_pick (cs' := [[((mo 0), .inr (7, [.int (nI 0), .ref (mo 1), .ref (mo 2), .int (nI sm), .ref (mo 3), .int (nI ln), .ref (mo 4), .int rm, .int fa, .ref (mo 5), .ref (mo 6), .int sp, .int wr, .long (dg (dg q (nI ((P i).1))) (zI (tg9 (P i))))]))], cMs v mo fs, cMe v mo wo1, cMn v mo lk3]) [0, 2, 1, 3] rfl rfl ?_
        refine g_i2l X dX7_digest_93 rfl ?_
        refine g_callV (As := [.long ((nI (dmV P n i)).toInt64)]) (rest := []) (wr := [cMs v mo fs, cMe v mo wo1, cMn v mo lk3]) X (c_X7_digestOne l v mo (nI 0) sm ln rm fa sp wr (dg (dg q (nI ((P i).1))) (zI (tg9 (P i)))) ((nI (dmV P n i)).toInt64)) f_X7_digestOne q_36_20 dX7_digest_94 [0] [1, 2, 3] rfl rfl (by decide) 0 rfl rfl rfl rfl (Nat.le_of_ble_eq_true rfl) (by decide) (fun r_ w_ hp22 => ?_)
        subst hp22
        show GG k _ _ [[((mo 0), .inr (7, [.int (nI 0), .ref (mo 1), .ref (mo 2), .int (nI sm), .ref (mo 3), .int (nI ln), .ref (mo 4), .int rm, .int fa, .ref (mo 5), .ref (mo 6), .int sp, .int wr, .long (dg (dg (dg q (nI ((P i).1))) (zI (tg9 (P i)))) (nI (dmV P n i)))]))], cMs v mo fs, cMe v mo wo1, cMn v mo lk3] _ _ []
        refine g_aload_n X dX7_digest_97 1 rfl rfl ?_
        refine g_aload_n X dX7_digest_98 1 rfl rfl ?_
        refine g_iload_n X dX7_digest_99 0 rfl rfl ?_
        refine g_callV (As := [.int (nI i)]) (rest := [.ref (mo 0)]) (wr := []) X (c_X7_verdictOf l v mo (nI 0) sm ln rm fa sp wr (dg (dg (dg q (nI ((P i).1))) (zI (tg9 (P i)))) (nI (dmV P n i))) P n lo hi fs wo1 lk3 i hW hS hL wo1E lk3N (by omega)) f_X7_verdictOf q_29_6 dX7_digest_100 [0, 1, 2, 3] [] rfl rfl (by decide) 0 rfl rfl rfl rfl (Nat.le_of_ble_eq_true rfl) (by decide) (fun r_ w_ hp23 => ?_)
        obtain ⟨rfl, rfl⟩ := hp23
        show GG k _ _ [[((mo 0), .inr (7, [.int (nI 0), .ref (mo 1), .ref (mo 2), .int (nI sm), .ref (mo 3), .int (nI ln), .ref (mo 4), .int rm, .int fa, .ref (mo 5), .ref (mo 6), .int sp, .int wr, .long (dg (dg (dg q (nI ((P i).1))) (zI (tg9 (P i)))) (nI (dmV P n i)))]))], cMs v mo fs, cMe v mo wo1, cMn v mo lk3] _ _ [.int (zI (vdV lo hi P n i)), .ref (mo 0)]
        refine g_i2l X dX7_digest_103 rfl ?_
        refine g_callV (As := [.long ((zI (vdV lo hi P n i)).toInt64)]) (rest := []) (wr := [cMs v mo fs, cMe v mo wo1, cMn v mo lk3]) X (c_X7_digestOne l v mo (nI 0) sm ln rm fa sp wr (dg (dg (dg q (nI ((P i).1))) (zI (tg9 (P i)))) (nI (dmV P n i))) ((zI (vdV lo hi P n i)).toInt64)) f_X7_digestOne q_36_20 dX7_digest_104 [0] [1, 2, 3] rfl rfl (by decide) 0 rfl rfl rfl rfl (Nat.le_of_ble_eq_true rfl) (by decide) (fun r_ w_ hp24 => ?_)
        subst hp24
        show GG k _ _ [[((mo 0), .inr (7, [.int (nI 0), .ref (mo 1), .ref (mo 2), .int (nI sm), .ref (mo 3), .int (nI ln), .ref (mo 4), .int rm, .int fa, .ref (mo 5), .ref (mo 6), .int sp, .int wr, .long (dg (dg (dg (dg q (nI ((P i).1))) (zI (tg9 (P i)))) (nI (dmV P n i))) (zI (vdV lo hi P n i)))]))], cMs v mo fs, cMe v mo wo1, cMn v mo lk3] _ _ []
        refine g_aload_n X dX7_digest_107 1 rfl rfl ?_
        refine g_aload_n X dX7_digest_108 1 rfl rfl ?_
        refine g_iload_n X dX7_digest_109 0 rfl rfl ?_
        refine g_callV (As := [.int (nI i)]) (rest := [.ref (mo 0)]) (wr := [cMn v mo lk3]) X (c_X7_exampleOf l v mo (nI 0) sm ln rm fa sp wr (dg (dg (dg (dg q (nI ((P i).1))) (zI (tg9 (P i)))) (nI (dmV P n i))) (zI (vdV lo hi P n i))) P n lo hi fs wo1 i hW hS hL wo1E (by omega)) f_X7_exampleOf q_29_14 dX7_digest_110 [0, 1, 2] [3] rfl rfl (by decide) 0 rfl rfl rfl rfl (Nat.le_of_ble_eq_true rfl) (by decide) (fun r_ w_ hp25 => ?_)
        obtain ⟨rfl, rfl⟩ := hp25
        show GG k _ _ [[((mo 0), .inr (7, [.int (nI 0), .ref (mo 1), .ref (mo 2), .int (nI sm), .ref (mo 3), .int (nI ln), .ref (mo 4), .int rm, .int fa, .ref (mo 5), .ref (mo 6), .int sp, .int wr, .long (dg (dg (dg (dg q (nI ((P i).1))) (zI (tg9 (P i)))) (nI (dmV P n i))) (zI (vdV lo hi P n i)))]))], cMs v mo fs, cMe v mo wo1, cMn v mo lk3] _ _ [.int (zI (exV lo hi P n i)), .ref (mo 0)]
        refine g_i2l X dX7_digest_113 rfl ?_
        refine g_callV (As := [.long ((zI (exV lo hi P n i)).toInt64)]) (rest := []) (wr := [cMs v mo fs, cMe v mo wo1, cMn v mo lk3]) X (c_X7_digestOne l v mo (nI 0) sm ln rm fa sp wr (dg (dg (dg (dg q (nI ((P i).1))) (zI (tg9 (P i)))) (nI (dmV P n i))) (zI (vdV lo hi P n i))) ((zI (exV lo hi P n i)).toInt64)) f_X7_digestOne q_36_20 dX7_digest_114 [0] [1, 2, 3] rfl rfl (by decide) 0 rfl rfl rfl rfl (Nat.le_of_ble_eq_true rfl) (by decide) (fun r_ w_ hp26 => ?_)
        subst hp26
        show GG k _ _ [[((mo 0), .inr (7, [.int (nI 0), .ref (mo 1), .ref (mo 2), .int (nI sm), .ref (mo 3), .int (nI ln), .ref (mo 4), .int rm, .int fa, .ref (mo 5), .ref (mo 6), .int sp, .int wr, .long (dg (dg (dg (dg (dg q (nI ((P i).1))) (zI (tg9 (P i)))) (nI (dmV P n i))) (zI (vdV lo hi P n i))) (zI (exV lo hi P n i)))]))], cMs v mo fs, cMe v mo wo1, cMn v mo lk3] _ _ []
        refine g_aload_n X dX7_digest_117 1 rfl rfl ?_
        refine g_iload_n X dX7_digest_118 0 rfl rfl ?_
        refine g_callV (As := [.int (nI i)]) (rest := []) (wr := [cMs v mo fs, cMe v mo wo1]) X (c_X7_digestBounds l v mo (nI 0) sm ln rm fa sp wr (dg (dg (dg (dg (dg q (nI ((P i).1))) (zI (tg9 (P i)))) (nI (dmV P n i))) (zI (vdV lo hi P n i))) (zI (exV lo hi P n i))) lo hi P n lk3 i hn12 lk3N (by omega)) f_X7_digestBounds q_37_1 dX7_digest_119 [0, 3] [1, 2] rfl rfl (by decide) 0 rfl rfl rfl rfl (Nat.le_of_ble_eq_true rfl) (by decide) (fun r_ w_ hp27 => ?_)
        subst hp27
        show GG k _ _ [[((mo 0), .inr (7, [.int (nI 0), .ref (mo 1), .ref (mo 2), .int (nI sm), .ref (mo 3), .int (nI ln), .ref (mo 4), .int rm, .int fa, .ref (mo 5), .ref (mo 6), .int sp, .int wr, .long (dB lo hi P n i 3 (dg (dg (dg (dg (dg q (nI ((P i).1))) (zI (tg9 (P i)))) (nI (dmV P n i))) (zI (vdV lo hi P n i))) (zI (exV lo hi P n i))))]))], cMn v mo lk3, cMs v mo fs, cMe v mo wo1] _ _ []
        refine g_pick (cs' := [[((mo 0), .inr (7, [.int (nI 0), .ref (mo 1), .ref (mo 2), .int (nI sm), .ref (mo 3), .int (nI ln), .ref (mo 4), .int rm, .int fa, .ref (mo 5), .ref (mo 6), .int sp, .int wr, .long (dB lo hi P n i 3 (dg (dg (dg (dg (dg q (nI ((P i).1))) (zI (tg9 (P i)))) (nI (dmV P n i))) (zI (vdV lo hi P n i))) (zI (exV lo hi P n i))))]))], cMs v mo fs, cMe v mo wo1, cMn v mo lk3]) [0, 2, 3, 1] rfl rfl ?_
        refine g_iinc (y := nI (i + 1)) (lv' := [(1, .int (nI (i + 1))), (0, .ref (mo 0))]) (j := 0) X dX7_digest_122 rfl (nI_add i 1) (by decide) rfl ?_
        refine g_goto (tgt := 52) X dX7_digest_125 (by decide) ?_
        exact ih52 _ (by omega) (i + 1) (dB lo hi P n i 3 (dg (dg (dg (dg (dg q (nI ((P i).1))) (zI (tg9 (P i)))) (nI (dmV P n i))) (zI (vdV lo hi P n i))) (zI (exV lo hi P n i)))) (by omega) (by rw [hq9]; rfl) rfl
  exact lp52 _ 0 (dg (dg (dg 4234 (nI n)) (nI (ctb (jE lo hi P n) 512))) (zI (pfV lo hi P n))) (Nat.zero_le _) rfl rfl

