/-! ## the model: load, add, firstError -/
set_option maxHeartbeats 4000000 in
set_option maxRecDepth 100000 in
theorem c_X7_load (l : Launch) (v : VV) (mo : Nat → Nat) (th : Int32) (sm : Nat) (ln : Nat) (rm : Int32) (fa : Int32) (sp : Int32) (wr : Int32) (dd : Int64) (P : Nat → S9) (n : Nat) (lo : Nat → Nat) (hi : Nat → Nat) (fs : Nat → Int32) (fv : Nat → Int32) (ft : Nat → Int32) (fr : Nat → Int32) (tx : Nat → Nat) (H : Nat → HE9) (hW : WF P n) (hS : SR P n lo hi fs) (hL : AsW lo hi) (hH : HMR H sm fv) (hT : TxR tx ln ft) (hok : ldOK tx ln) : MI l v yX7_load cX7_load 2 (some .int) ({ frames := 7, cells := 0, slots := 0, locals := 155 }) [.ref (mo 0)] [[((mo 0), .inr (7, [.int th, .ref (mo 1), .ref (mo 2), .int (nI sm), .ref (mo 3), .int (nI ln), .ref (mo 4), .int rm, .int fa, .ref (mo 5), .ref (mo 6), .int sp, .int wr, .long dd]))], cMs v mo fs, cMv v mo fv, cMt v mo ft, cMr v mo fr] (fun r w_ => ∃ fs' fv' fr' fa' wr', r = nI (pAll tx ln 12 0 []).2.2.length ∧ SR (lg9 (pAll tx ln 12 0 []).2.2) (pAll tx ln 12 0 []).2.2.length lo hi fs' ∧ HMR (hS9 H sm (P, n, lo, hi)) (hC9 sm) fv' ∧ w_ = [[((mo 0), .inr (7, [.int (nI 0), .ref (mo 1), .ref (mo 2), .int (nI (hC9 sm)), .ref (mo 3), .int (nI 0), .ref (mo 4), .int (nI ((pAll tx ln 12 0 []).2.2.length)), .int (nI fa'), .ref (mo 5), .ref (mo 6), .int (nI ((pAll tx ln 12 0 []).2.1)), .int wr', .long dd]))], cMs v mo fs', cMv v mo fv', cMt v mo ft, cMr v mo fr']) 0 0 := by
  refine mm_int (by decide) (Nat.le_of_ble_eq_true rfl) [(0, .ref (mo 0))] rfl (fun k X E => ?_)
  have hn12 := hW.1
  refine g_aload_n X dX7_load_0 0 rfl rfl ?_
  refine g_callV (As := []) (rest := []) (wr := [cMs v mo fs, cMv v mo fv]) X (c_X7_reads l v mo th sm ln rm fa sp wr dd tx ft fr hT) f_X7_reads q_14_5 dX7_load_1 [0, 3, 4] [1, 2] rfl rfl (by decide) 0 rfl rfl rfl rfl (Nat.le_of_ble_eq_true rfl) (by decide) (fun r_ w_ hp2 => ?_)
  obtain ⟨rd1, rd1f, rd1w, rfl, rd1R, rd1W, rd1F, rfl⟩ := hp2
  have hlr := rd1W.1
  have hfr := rd1F.1
  show GG k _ _ [[((mo 0), .inr (7, [.int th, .ref (mo 1), .ref (mo 2), .int (nI sm), .ref (mo 3), .int (nI ln), .ref (mo 4), .int (nI ((pAll tx ln 12 0 []).2.2.length)), .int (nI rd1f), .ref (mo 5), .ref (mo 6), .int (nI ((pAll tx ln 12 0 []).2.1)), .int rd1w, .long dd]))], cMt v mo ft, cMr v mo rd1, cMs v mo fs, cMv v mo fv] _ _ [.int (bI ((pAll tx ln 12 0 []).1))]
  refine g_pick (cs' := [[((mo 0), .inr (7, [.int th, .ref (mo 1), .ref (mo 2), .int (nI sm), .ref (mo 3), .int (nI ln), .ref (mo 4), .int (nI ((pAll tx ln 12 0 []).2.2.length)), .int (nI rd1f), .ref (mo 5), .ref (mo 6), .int (nI ((pAll tx ln 12 0 []).2.1)), .int rd1w, .long dd]))], cMs v mo fs, cMv v mo fv, cMt v mo ft, cMr v mo rd1]) [0, 3, 4, 1, 2] rfl rfl ?_
  refine g_if_eqB (tgt := 22) X dX7_load_4 (by decide) (fun c4 => ?_) (fun c4 => ?_)
  · rw [hok.1] at c4; cases c4
  · refine g_aload_n X dX7_load_7 0 rfl rfl ?_
    refine g_get X cb7 8 q_14_3 dX7_load_8 0 0 rfl rfl (by decide) rfl rfl ?_
    refine g_aload_n X dX7_load_11 0 rfl rfl ?_
    refine g_get X cb7 7 q_14_4 dX7_load_12 0 0 rfl rfl (by decide) rfl rfl ?_
    have hfa9 := (rd1F.2 _ (by omega)).mpr hok.2
    refine g_icmp_gtN (tgt := 22) X dX7_load_15 (by decide) (by omega) (by omega) (fun c15 => ?_) (fun c15 => ?_)
    · omega
    · refine g_iconst (x := nI 1) X dX7_load_18 (by decide +kernel) ?_
      refine g_goto (tgt := 23) X dX7_load_19 (by decide) ?_
      refine g_istore_n (lv' := [(1, .int (nI 1)), (0, .ref (mo 0))]) X dX7_load_23 rfl (by decide) rfl ?_
      refine g_aload_n X dX7_load_24 1 rfl rfl ?_
      refine g_iload_n X dX7_load_25 0 rfl rfl ?_
      refine g_if_eqN (tgt := 33) X dX7_load_26 (by decide) (by omega) (fun c26 => ?_) (fun c26 => ?_)
      · exact absurd c26 (by decide)
      · refine g_iconst (x := nI 0) X dX7_load_29 (by decide +kernel) ?_
        refine g_goto (tgt := 34) X dX7_load_30 (by decide) ?_
        refine g_callV (As := [.int (nI 0)]) (rest := []) (wr := [cMs v mo fs, cMv v mo fv, cMt v mo ft, cMr v mo rd1]) X (c_X7_holds l v mo th sm ln (nI ((pAll tx ln 12 0 []).2.2.length)) (nI rd1f) (nI ((pAll tx ln 12 0 []).2.1)) rd1w dd 0 (by omega)) f_X7_holds q_15_19 dX7_load_34 [0] [1, 2, 3, 4] rfl rfl (by decide) 0 rfl rfl rfl rfl (Nat.le_of_ble_eq_true rfl) (by decide) (fun r_ w_ hp3 => ?_)
        obtain ⟨rfl, rfl⟩ := hp3
        show GG k _ _ [[((mo 0), .inr (7, [.int (nI 0), .ref (mo 1), .ref (mo 2), .int (nI sm), .ref (mo 3), .int (nI ln), .ref (mo 4), .int (nI ((pAll tx ln 12 0 []).2.2.length)), .int (nI rd1f), .ref (mo 5), .ref (mo 6), .int (nI ((pAll tx ln 12 0 []).2.1)), .int rd1w, .long dd]))], cMs v mo fs, cMv v mo fv, cMt v mo ft, cMr v mo rd1] _ _ [.int (nI 1)]
        refine g_if_neN (tgt := 42) X dX7_load_37 (by decide) (by omega) (fun c37 => ?_) (fun c37 => ?_)
        · refine g_aload_n X dX7_load_42 1 rfl rfl ?_
          refine g_callV (As := []) (rest := []) (wr := [cMt v mo ft, cMr v mo rd1]) X (c_X7_save l v mo (nI 0) sm ln (nI ((pAll tx ln 12 0 []).2.2.length)) (nI rd1f) (nI ((pAll tx ln 12 0 []).2.1)) rd1w dd P n lo hi fs fv H hW hS hL hH) f_X7_save q_16_0 dX7_load_43 [0, 1, 2] [3, 4] rfl rfl (by decide) 0 rfl rfl rfl rfl (Nat.le_of_ble_eq_true rfl) (by decide) (fun r_ w_ hp5 => ?_)
          obtain ⟨sv4, sv4H, rfl⟩ := hp5
          show GG k _ _ [[((mo 0), .inr (7, [.int (nI 0), .ref (mo 1), .ref (mo 2), .int (nI (hC9 sm)), .ref (mo 3), .int (nI ln), .ref (mo 4), .int (nI ((pAll tx ln 12 0 []).2.2.length)), .int (nI rd1f), .ref (mo 5), .ref (mo 6), .int (nI ((pAll tx ln 12 0 []).2.1)), .int rd1w, .long dd]))], cMs v mo fs, cMv v mo sv4, cMt v mo ft, cMr v mo rd1] _ _ []
          refine g_aload_n X dX7_load_46 1 rfl rfl ?_
          refine g_iconst (x := nI 0) X dX7_load_47 (by decide +kernel) ?_
          refine g_callV (As := [.int (nI 0)]) (rest := []) (wr := [cMv v mo sv4, cMt v mo ft]) X (c_X7_places l v mo (nI 0) (hC9 sm) ln (nI rd1f) (nI ((pAll tx ln 12 0 []).2.1)) rd1w dd P n lo hi fs rd1 (pAll tx ln 12 0 []).2.2 ((pAll tx ln 12 0 []).2.2.length) 0 hS (by omega) (by omega) rd1R) f_X7_places q_16_5 dX7_load_48 [0, 1, 4] [2, 3] rfl rfl (by decide) 0 rfl rfl rfl rfl (Nat.le_of_ble_eq_true rfl) (by decide) (fun r_ w_ hp7 => ?_)
          obtain ⟨pl6, rfl, pl6S, rfl⟩ := hp7
          show GG k _ _ [[((mo 0), .inr (7, [.int (nI 0), .ref (mo 1), .ref (mo 2), .int (nI (hC9 sm)), .ref (mo 3), .int (nI 0), .ref (mo 4), .int (nI ((pAll tx ln 12 0 []).2.2.length)), .int (nI rd1f), .ref (mo 5), .ref (mo 6), .int (nI ((pAll tx ln 12 0 []).2.1)), .int rd1w, .long dd]))], cMs v mo pl6, cMr v mo rd1, cMv v mo sv4, cMt v mo ft] _ _ [.int (nI (0 + (pAll tx ln 12 0 []).2.2.length))]
          refine g_pick (cs' := [[((mo 0), .inr (7, [.int (nI 0), .ref (mo 1), .ref (mo 2), .int (nI (hC9 sm)), .ref (mo 3), .int (nI 0), .ref (mo 4), .int (nI ((pAll tx ln 12 0 []).2.2.length)), .int (nI rd1f), .ref (mo 5), .ref (mo 6), .int (nI ((pAll tx ln 12 0 []).2.1)), .int rd1w, .long dd]))], cMs v mo pl6, cMv v mo sv4, cMt v mo ft, cMr v mo rd1]) [0, 1, 3, 4, 2] rfl rfl ?_
          exact E dX7_load_51 rfl (rfl) (by decide) (by decide) (⟨_, _, _, _, _, by rw [Nat.zero_add], SR_P (by have h9 := pl6S; rw [Nat.zero_add] at h9; exact h9) (fun i hi => by unfold ap9; rw [if_neg (Nat.not_lt_zero _), Nat.sub_zero]), sv4H, rfl⟩)
        · exact absurd c37 (by decide)

set_option maxHeartbeats 4000000 in
set_option maxRecDepth 100000 in
theorem b_X7_load (l : Launch) (v : VV) (mo : Nat → Nat) (th : Int32) (sm : Nat) (ln : Nat) (rm : Int32) (fa : Int32) (sp : Int32) (wr : Int32) (dd : Int64) (P : Nat → S9) (n : Nat) (lo : Nat → Nat) (hi : Nat → Nat) (fs : Nat → Int32) (ft : Nat → Int32) (fr : Nat → Int32) (tx : Nat → Nat) (hW : WF P n) (hS : SR P n lo hi fs) (hT : TxR tx ln ft) (hok : ¬ ldOK tx ln) : MI l v yX7_load cX7_load 2 (some .int) ({ frames := 7, cells := 0, slots := 0, locals := 155 }) [.ref (mo 0)] [[((mo 0), .inr (7, [.int th, .ref (mo 1), .ref (mo 2), .int (nI sm), .ref (mo 3), .int (nI ln), .ref (mo 4), .int rm, .int fa, .ref (mo 5), .ref (mo 6), .int sp, .int wr, .long dd]))], cMs v mo fs, cMt v mo ft, cMr v mo fr] (fun r w_ => ∃ fr' fa' wr', r = nI 0 ∧ w_ = [[((mo 0), .inr (7, [.int (nI 1), .ref (mo 1), .ref (mo 2), .int (nI sm), .ref (mo 3), .int (nI ln), .ref (mo 4), .int (nI ((pAll tx ln 12 0 []).2.2.length)), .int (nI fa'), .ref (mo 5), .ref (mo 6), .int (nI ((pAll tx ln 12 0 []).2.1)), .int wr', .long dd]))], cMs v mo fs, cMt v mo ft, cMr v mo fr']) 0 0 := by
  refine mm_int (by decide) (Nat.le_of_ble_eq_true rfl) [(0, .ref (mo 0))] rfl (fun k X E => ?_)
  have hn12 := hW.1
  refine g_aload_n X dX7_load_0 0 rfl rfl ?_
  refine g_callV (As := []) (rest := []) (wr := [cMs v mo fs]) X (c_X7_reads l v mo th sm ln rm fa sp wr dd tx ft fr hT) f_X7_reads q_14_5 dX7_load_1 [0, 2, 3] [1] rfl rfl (by decide) 0 rfl rfl rfl rfl (Nat.le_of_ble_eq_true rfl) (by decide) (fun r_ w_ hp2 => ?_)
  obtain ⟨rd1, rd1f, rd1w, rfl, rd1R, rd1W, rd1F, rfl⟩ := hp2
  have hlr := rd1W.1
  have hfr := rd1F.1
  show GG k _ _ [[((mo 0), .inr (7, [.int th, .ref (mo 1), .ref (mo 2), .int (nI sm), .ref (mo 3), .int (nI ln), .ref (mo 4), .int (nI ((pAll tx ln 12 0 []).2.2.length)), .int (nI rd1f), .ref (mo 5), .ref (mo 6), .int (nI ((pAll tx ln 12 0 []).2.1)), .int rd1w, .long dd]))], cMt v mo ft, cMr v mo rd1, cMs v mo fs] _ _ [.int (bI ((pAll tx ln 12 0 []).1))]
  refine g_pick (cs' := [[((mo 0), .inr (7, [.int th, .ref (mo 1), .ref (mo 2), .int (nI sm), .ref (mo 3), .int (nI ln), .ref (mo 4), .int (nI ((pAll tx ln 12 0 []).2.2.length)), .int (nI rd1f), .ref (mo 5), .ref (mo 6), .int (nI ((pAll tx ln 12 0 []).2.1)), .int rd1w, .long dd]))], cMs v mo fs, cMt v mo ft, cMr v mo rd1]) [0, 3, 1, 2] rfl rfl ?_
  refine g_if_eqB (tgt := 22) X dX7_load_4 (by decide) (fun c4 => ?_) (fun c4 => ?_)
  · refine g_iconst (x := nI 0) X dX7_load_22 (by decide +kernel) ?_
    refine g_istore_n (lv' := [(1, .int (nI 0)), (0, .ref (mo 0))]) X dX7_load_23 rfl (by decide) rfl ?_
    refine g_aload_n X dX7_load_24 1 rfl rfl ?_
    refine g_iload_n X dX7_load_25 0 rfl rfl ?_
    refine g_if_eqN (tgt := 33) X dX7_load_26 (by decide) (by omega) (fun c26 => ?_) (fun c26 => ?_)
    · refine g_iconst (x := nI 1) X dX7_load_33 (by decide +kernel) ?_
      refine g_callV (As := [.int (nI 1)]) (rest := []) (wr := [cMs v mo fs, cMt v mo ft, cMr v mo rd1]) X (c_X7_holds l v mo th sm ln (nI ((pAll tx ln 12 0 []).2.2.length)) (nI rd1f) (nI ((pAll tx ln 12 0 []).2.1)) rd1w dd 1 (by omega)) f_X7_holds q_15_19 dX7_load_34 [0] [1, 2, 3] rfl rfl (by decide) 0 rfl rfl rfl rfl (Nat.le_of_ble_eq_true rfl) (by decide) (fun r_ w_ hp3 => ?_)
      obtain ⟨rfl, rfl⟩ := hp3
      show GG k _ _ [[((mo 0), .inr (7, [.int (nI 1), .ref (mo 1), .ref (mo 2), .int (nI sm), .ref (mo 3), .int (nI ln), .ref (mo 4), .int (nI ((pAll tx ln 12 0 []).2.2.length)), .int (nI rd1f), .ref (mo 5), .ref (mo 6), .int (nI ((pAll tx ln 12 0 []).2.1)), .int rd1w, .long dd]))], cMs v mo fs, cMt v mo ft, cMr v mo rd1] _ _ [.int (nI 0)]
      refine g_if_neN (tgt := 42) X dX7_load_37 (by decide) (by omega) (fun c37 => ?_) (fun c37 => ?_)
      · exact absurd rfl c37
      · refine g_iconst (x := nI 0) X dX7_load_40 (by decide +kernel) ?_
        exact E dX7_load_41 rfl (rfl) (by decide) (by decide) (⟨_, _, _, rfl, rfl⟩)
    · exact absurd rfl c26
  · refine g_aload_n X dX7_load_7 0 rfl rfl ?_
    refine g_get X cb7 8 q_14_3 dX7_load_8 0 0 rfl rfl (by decide) rfl rfl ?_
    refine g_aload_n X dX7_load_11 0 rfl rfl ?_
    refine g_get X cb7 7 q_14_4 dX7_load_12 0 0 rfl rfl (by decide) rfl rfl ?_
    refine g_icmp_gtN (tgt := 22) X dX7_load_15 (by decide) (by omega) (by omega) (fun c15 => ?_) (fun c15 => ?_)
    · refine g_iconst (x := nI 0) X dX7_load_22 (by decide +kernel) ?_
      refine g_istore_n (lv' := [(1, .int (nI 0)), (0, .ref (mo 0))]) X dX7_load_23 rfl (by decide) rfl ?_
      refine g_aload_n X dX7_load_24 1 rfl rfl ?_
      refine g_iload_n X dX7_load_25 0 rfl rfl ?_
      refine g_if_eqN (tgt := 33) X dX7_load_26 (by decide) (by omega) (fun c26 => ?_) (fun c26 => ?_)
      · refine g_iconst (x := nI 1) X dX7_load_33 (by decide +kernel) ?_
        refine g_callV (As := [.int (nI 1)]) (rest := []) (wr := [cMs v mo fs, cMt v mo ft, cMr v mo rd1]) X (c_X7_holds l v mo th sm ln (nI ((pAll tx ln 12 0 []).2.2.length)) (nI rd1f) (nI ((pAll tx ln 12 0 []).2.1)) rd1w dd 1 (by omega)) f_X7_holds q_15_19 dX7_load_34 [0] [1, 2, 3] rfl rfl (by decide) 0 rfl rfl rfl rfl (Nat.le_of_ble_eq_true rfl) (by decide) (fun r_ w_ hp4 => ?_)
        obtain ⟨rfl, rfl⟩ := hp4
        show GG k _ _ [[((mo 0), .inr (7, [.int (nI 1), .ref (mo 1), .ref (mo 2), .int (nI sm), .ref (mo 3), .int (nI ln), .ref (mo 4), .int (nI ((pAll tx ln 12 0 []).2.2.length)), .int (nI rd1f), .ref (mo 5), .ref (mo 6), .int (nI ((pAll tx ln 12 0 []).2.1)), .int rd1w, .long dd]))], cMs v mo fs, cMt v mo ft, cMr v mo rd1] _ _ [.int (nI 0)]
        refine g_if_neN (tgt := 42) X dX7_load_37 (by decide) (by omega) (fun c37 => ?_) (fun c37 => ?_)
        · exact absurd rfl c37
        · refine g_iconst (x := nI 0) X dX7_load_40 (by decide +kernel) ?_
          exact E dX7_load_41 rfl (rfl) (by decide) (by decide) (⟨_, _, _, rfl, rfl⟩)
      · exact absurd rfl c26
    · exact absurd ⟨c4, (rd1F.2 _ (by omega)).mp (by omega)⟩ hok

set_option maxHeartbeats 4000000 in
set_option maxRecDepth 100000 in
theorem c_X7_add (l : Launch) (v : VV) (mo : Nat → Nat) (th : Int32) (sm : Nat) (ln : Nat) (rm : Int32) (fa : Int32) (sp : Int32) (wr : Int32) (dd : Int64) (P : Nat → S9) (n : Nat) (lo : Nat → Nat) (hi : Nat → Nat) (fs : Nat → Int32) (fv : Nat → Int32) (ft : Nat → Int32) (fr : Nat → Int32) (tx : Nat → Nat) (H : Nat → HE9) (hW : WF P n) (hS : SR P n lo hi fs) (hL : AsW lo hi) (hH : HMR H sm fv) (hT : TxR tx ln ft) (hok : adOK tx ln n) : MI l v yX7_add cX7_add 2 (some .int) ({ frames := 7, cells := 0, slots := 0, locals := 155 }) [.ref (mo 0)] [[((mo 0), .inr (7, [.int th, .ref (mo 1), .ref (mo 2), .int (nI sm), .ref (mo 3), .int (nI ln), .ref (mo 4), .int rm, .int fa, .ref (mo 5), .ref (mo 6), .int sp, .int wr, .long dd]))], cMs v mo fs, cMv v mo fv, cMt v mo ft, cMr v mo fr] (fun r w_ => ∃ fs' fv' fr' fa' wr', r = nI (n + (pAll tx ln 12 0 []).2.2.length) ∧ SR (ap9 P n (lg9 (pAll tx ln 12 0 []).2.2)) (n + (pAll tx ln 12 0 []).2.2.length) lo hi fs' ∧ HMR (hS9 H sm (P, n, lo, hi)) (hC9 sm) fv' ∧ w_ = [[((mo 0), .inr (7, [.int (nI 0), .ref (mo 1), .ref (mo 2), .int (nI (hC9 sm)), .ref (mo 3), .int (nI 0), .ref (mo 4), .int (nI ((pAll tx ln 12 0 []).2.2.length)), .int (nI fa'), .ref (mo 5), .ref (mo 6), .int (nI ((pAll tx ln 12 0 []).2.1)), .int wr', .long dd]))], cMs v mo fs', cMv v mo fv', cMt v mo ft, cMr v mo fr']) 0 0 := by
  refine mm_int (by decide) (Nat.le_of_ble_eq_true rfl) [(0, .ref (mo 0))] rfl (fun k X E => ?_)
  have hn12 := hW.1
  refine g_aload_n X dX7_add_0 0 rfl rfl ?_
  refine g_callV (As := []) (rest := []) (wr := [cMs v mo fs, cMv v mo fv]) X (c_X7_reads l v mo th sm ln rm fa sp wr dd tx ft fr hT) f_X7_reads q_14_5 dX7_add_1 [0, 3, 4] [1, 2] rfl rfl (by decide) 0 rfl rfl rfl rfl (Nat.le_of_ble_eq_true rfl) (by decide) (fun r_ w_ hp2 => ?_)
  obtain ⟨rd1, rd1f, rd1w, rfl, rd1R, rd1W, rd1F, rfl⟩ := hp2
  have hlr := rd1W.1
  have hfr := rd1F.1
  show GG k _ _ [[((mo 0), .inr (7, [.int th, .ref (mo 1), .ref (mo 2), .int (nI sm), .ref (mo 3), .int (nI ln), .ref (mo 4), .int (nI ((pAll tx ln 12 0 []).2.2.length)), .int (nI rd1f), .ref (mo 5), .ref (mo 6), .int (nI ((pAll tx ln 12 0 []).2.1)), .int rd1w, .long dd]))], cMt v mo ft, cMr v mo rd1, cMs v mo fs, cMv v mo fv] _ _ [.int (bI ((pAll tx ln 12 0 []).1))]
  refine g_pick (cs' := [[((mo 0), .inr (7, [.int th, .ref (mo 1), .ref (mo 2), .int (nI sm), .ref (mo 3), .int (nI ln), .ref (mo 4), .int (nI ((pAll tx ln 12 0 []).2.2.length)), .int (nI rd1f), .ref (mo 5), .ref (mo 6), .int (nI ((pAll tx ln 12 0 []).2.1)), .int rd1w, .long dd]))], cMs v mo fs, cMv v mo fv, cMt v mo ft, cMr v mo rd1]) [0, 3, 4, 1, 2] rfl rfl ?_
  refine g_if_eqB (tgt := 45) X dX7_add_4 (by decide) (fun c4 => ?_) (fun c4 => ?_)
  · rw [hok.1] at c4; cases c4
  · refine g_aload_n X dX7_add_7 0 rfl rfl ?_
    refine g_get X cb7 1 q_4_18 dX7_add_8 0 0 rfl rfl (by decide) rfl rfl ?_
    refine g_iconst (x := nI 0) X dX7_add_11 (by decide +kernel) ?_
    refine g_iald X dX7_add_12 1 0 rfl rfl (by omega) (by omega) ?_
    refine g_v (y := nI n) (hS.1) ?_
    refine g_aload_n X dX7_add_13 0 rfl rfl ?_
    refine g_get X cb7 7 q_14_4 dX7_add_14 0 0 rfl rfl (by decide) rfl rfl ?_
    refine g_iaddN X dX7_add_17 ?_
    refine g_bipush (x := nI 12) X dX7_add_18 (by decide +kernel) ?_
    have hok2 := hok.2.1
    refine g_icmp_gtN (tgt := 45) X dX7_add_20 (by decide) (by omega) (by omega) (fun c20 => ?_) (fun c20 => ?_)
    · omega
    · refine g_aload_n X dX7_add_23 0 rfl rfl ?_
      refine g_get X cb7 8 q_14_3 dX7_add_24 0 0 rfl rfl (by decide) rfl rfl ?_
      refine g_aload_n X dX7_add_27 0 rfl rfl ?_
      refine g_get X cb7 1 q_4_18 dX7_add_28 0 0 rfl rfl (by decide) rfl rfl ?_
      refine g_iconst (x := nI 0) X dX7_add_31 (by decide +kernel) ?_
      refine g_iald X dX7_add_32 1 0 rfl rfl (by omega) (by omega) ?_
      refine g_v (y := nI n) (hS.1) ?_
      refine g_aload_n X dX7_add_33 0 rfl rfl ?_
      refine g_get X cb7 7 q_14_4 dX7_add_34 0 0 rfl rfl (by decide) rfl rfl ?_
      refine g_iaddN X dX7_add_37 ?_
      have hfa9 := (rd1F.2 _ (by omega)).mpr hok.2.2
      refine g_icmp_gtN (tgt := 45) X dX7_add_38 (by decide) (by omega) (by omega) (fun c38 => ?_) (fun c38 => ?_)
      · omega
      · refine g_iconst (x := nI 1) X dX7_add_41 (by decide +kernel) ?_
        refine g_goto (tgt := 46) X dX7_add_42 (by decide) ?_
        refine g_istore_n (lv' := [(1, .int (nI 1)), (0, .ref (mo 0))]) X dX7_add_46 rfl (by decide) rfl ?_
        refine g_aload_n X dX7_add_47 1 rfl rfl ?_
        refine g_iload_n X dX7_add_48 0 rfl rfl ?_
        refine g_if_eqN (tgt := 56) X dX7_add_49 (by decide) (by omega) (fun c49 => ?_) (fun c49 => ?_)
        · exact absurd c49 (by decide)
        · refine g_iconst (x := nI 0) X dX7_add_52 (by decide +kernel) ?_
          refine g_goto (tgt := 57) X dX7_add_53 (by decide) ?_
          refine g_callV (As := [.int (nI 0)]) (rest := []) (wr := [cMs v mo fs, cMv v mo fv, cMt v mo ft, cMr v mo rd1]) X (c_X7_holds l v mo th sm ln (nI ((pAll tx ln 12 0 []).2.2.length)) (nI rd1f) (nI ((pAll tx ln 12 0 []).2.1)) rd1w dd 0 (by omega)) f_X7_holds q_15_19 dX7_add_57 [0] [1, 2, 3, 4] rfl rfl (by decide) 0 rfl rfl rfl rfl (Nat.le_of_ble_eq_true rfl) (by decide) (fun r_ w_ hp3 => ?_)
          obtain ⟨rfl, rfl⟩ := hp3
          show GG k _ _ [[((mo 0), .inr (7, [.int (nI 0), .ref (mo 1), .ref (mo 2), .int (nI sm), .ref (mo 3), .int (nI ln), .ref (mo 4), .int (nI ((pAll tx ln 12 0 []).2.2.length)), .int (nI rd1f), .ref (mo 5), .ref (mo 6), .int (nI ((pAll tx ln 12 0 []).2.1)), .int rd1w, .long dd]))], cMs v mo fs, cMv v mo fv, cMt v mo ft, cMr v mo rd1] _ _ [.int (nI 1)]
          refine g_if_neN (tgt := 65) X dX7_add_60 (by decide) (by omega) (fun c60 => ?_) (fun c60 => ?_)
          · refine g_aload_n X dX7_add_65 1 rfl rfl ?_
            refine g_callV (As := []) (rest := []) (wr := [cMt v mo ft, cMr v mo rd1]) X (c_X7_save l v mo (nI 0) sm ln (nI ((pAll tx ln 12 0 []).2.2.length)) (nI rd1f) (nI ((pAll tx ln 12 0 []).2.1)) rd1w dd P n lo hi fs fv H hW hS hL hH) f_X7_save q_16_0 dX7_add_66 [0, 1, 2] [3, 4] rfl rfl (by decide) 0 rfl rfl rfl rfl (Nat.le_of_ble_eq_true rfl) (by decide) (fun r_ w_ hp5 => ?_)
            obtain ⟨sv4, sv4H, rfl⟩ := hp5
            show GG k _ _ [[((mo 0), .inr (7, [.int (nI 0), .ref (mo 1), .ref (mo 2), .int (nI (hC9 sm)), .ref (mo 3), .int (nI ln), .ref (mo 4), .int (nI ((pAll tx ln 12 0 []).2.2.length)), .int (nI rd1f), .ref (mo 5), .ref (mo 6), .int (nI ((pAll tx ln 12 0 []).2.1)), .int rd1w, .long dd]))], cMs v mo fs, cMv v mo sv4, cMt v mo ft, cMr v mo rd1] _ _ []
            refine g_aload_n X dX7_add_69 1 rfl rfl ?_
            refine g_aload_n X dX7_add_70 1 rfl rfl ?_
            refine g_get X cb7 1 q_4_18 dX7_add_71 0 0 rfl rfl (by decide) rfl rfl ?_
            refine g_iconst (x := nI 0) X dX7_add_74 (by decide +kernel) ?_
            refine g_iald X dX7_add_75 1 0 rfl rfl (by omega) (by omega) ?_
            refine g_v (y := nI n) (hS.1) ?_
            refine g_callV (As := [.int (nI n)]) (rest := []) (wr := [cMv v mo sv4, cMt v mo ft]) X (c_X7_places l v mo (nI 0) (hC9 sm) ln (nI rd1f) (nI ((pAll tx ln 12 0 []).2.1)) rd1w dd P n lo hi fs rd1 (pAll tx ln 12 0 []).2.2 ((pAll tx ln 12 0 []).2.2.length) n hS (by omega) (by omega) rd1R) f_X7_places q_16_5 dX7_add_76 [0, 1, 4] [2, 3] rfl rfl (by decide) 0 rfl rfl rfl rfl (Nat.le_of_ble_eq_true rfl) (by decide) (fun r_ w_ hp7 => ?_)
            obtain ⟨pl6, rfl, pl6S, rfl⟩ := hp7
            show GG k _ _ [[((mo 0), .inr (7, [.int (nI 0), .ref (mo 1), .ref (mo 2), .int (nI (hC9 sm)), .ref (mo 3), .int (nI 0), .ref (mo 4), .int (nI ((pAll tx ln 12 0 []).2.2.length)), .int (nI rd1f), .ref (mo 5), .ref (mo 6), .int (nI ((pAll tx ln 12 0 []).2.1)), .int rd1w, .long dd]))], cMs v mo pl6, cMr v mo rd1, cMv v mo sv4, cMt v mo ft] _ _ [.int (nI (n + (pAll tx ln 12 0 []).2.2.length))]
            refine g_pick (cs' := [[((mo 0), .inr (7, [.int (nI 0), .ref (mo 1), .ref (mo 2), .int (nI (hC9 sm)), .ref (mo 3), .int (nI 0), .ref (mo 4), .int (nI ((pAll tx ln 12 0 []).2.2.length)), .int (nI rd1f), .ref (mo 5), .ref (mo 6), .int (nI ((pAll tx ln 12 0 []).2.1)), .int rd1w, .long dd]))], cMs v mo pl6, cMv v mo sv4, cMt v mo ft, cMr v mo rd1]) [0, 1, 3, 4, 2] rfl rfl ?_
            exact E dX7_add_79 rfl (rfl) (by decide) (by decide) (⟨_, _, _, _, _, rfl, pl6S, sv4H, rfl⟩)
          · exact absurd c60 (by decide)

set_option maxHeartbeats 4000000 in
set_option maxRecDepth 100000 in
theorem b_X7_add (l : Launch) (v : VV) (mo : Nat → Nat) (th : Int32) (sm : Nat) (ln : Nat) (rm : Int32) (fa : Int32) (sp : Int32) (wr : Int32) (dd : Int64) (P : Nat → S9) (n : Nat) (lo : Nat → Nat) (hi : Nat → Nat) (fs : Nat → Int32) (ft : Nat → Int32) (fr : Nat → Int32) (tx : Nat → Nat) (hW : WF P n) (hS : SR P n lo hi fs) (hT : TxR tx ln ft) (hok : ¬ adOK tx ln n) : MI l v yX7_add cX7_add 2 (some .int) ({ frames := 7, cells := 0, slots := 0, locals := 155 }) [.ref (mo 0)] [[((mo 0), .inr (7, [.int th, .ref (mo 1), .ref (mo 2), .int (nI sm), .ref (mo 3), .int (nI ln), .ref (mo 4), .int rm, .int fa, .ref (mo 5), .ref (mo 6), .int sp, .int wr, .long dd]))], cMs v mo fs, cMt v mo ft, cMr v mo fr] (fun r w_ => ∃ fr' fa' wr', r = nI 0 ∧ w_ = [[((mo 0), .inr (7, [.int (nI 1), .ref (mo 1), .ref (mo 2), .int (nI sm), .ref (mo 3), .int (nI ln), .ref (mo 4), .int (nI ((pAll tx ln 12 0 []).2.2.length)), .int (nI fa'), .ref (mo 5), .ref (mo 6), .int (nI ((pAll tx ln 12 0 []).2.1)), .int wr', .long dd]))], cMs v mo fs, cMt v mo ft, cMr v mo fr']) 0 0 := by
  refine mm_int (by decide) (Nat.le_of_ble_eq_true rfl) [(0, .ref (mo 0))] rfl (fun k X E => ?_)
  have hn12 := hW.1
  refine g_aload_n X dX7_add_0 0 rfl rfl ?_
  refine g_callV (As := []) (rest := []) (wr := [cMs v mo fs]) X (c_X7_reads l v mo th sm ln rm fa sp wr dd tx ft fr hT) f_X7_reads q_14_5 dX7_add_1 [0, 2, 3] [1] rfl rfl (by decide) 0 rfl rfl rfl rfl (Nat.le_of_ble_eq_true rfl) (by decide) (fun r_ w_ hp2 => ?_)
  obtain ⟨rd1, rd1f, rd1w, rfl, rd1R, rd1W, rd1F, rfl⟩ := hp2
  have hlr := rd1W.1
  have hfr := rd1F.1
  show GG k _ _ [[((mo 0), .inr (7, [.int th, .ref (mo 1), .ref (mo 2), .int (nI sm), .ref (mo 3), .int (nI ln), .ref (mo 4), .int (nI ((pAll tx ln 12 0 []).2.2.length)), .int (nI rd1f), .ref (mo 5), .ref (mo 6), .int (nI ((pAll tx ln 12 0 []).2.1)), .int rd1w, .long dd]))], cMt v mo ft, cMr v mo rd1, cMs v mo fs] _ _ [.int (bI ((pAll tx ln 12 0 []).1))]
  refine g_pick (cs' := [[((mo 0), .inr (7, [.int th, .ref (mo 1), .ref (mo 2), .int (nI sm), .ref (mo 3), .int (nI ln), .ref (mo 4), .int (nI ((pAll tx ln 12 0 []).2.2.length)), .int (nI rd1f), .ref (mo 5), .ref (mo 6), .int (nI ((pAll tx ln 12 0 []).2.1)), .int rd1w, .long dd]))], cMs v mo fs, cMt v mo ft, cMr v mo rd1]) [0, 3, 1, 2] rfl rfl ?_
  refine g_if_eqB (tgt := 45) X dX7_add_4 (by decide) (fun c4 => ?_) (fun c4 => ?_)
  · refine g_iconst (x := nI 0) X dX7_add_45 (by decide +kernel) ?_
    refine g_istore_n (lv' := [(1, .int (nI 0)), (0, .ref (mo 0))]) X dX7_add_46 rfl (by decide) rfl ?_
    refine g_aload_n X dX7_add_47 1 rfl rfl ?_
    refine g_iload_n X dX7_add_48 0 rfl rfl ?_
    refine g_if_eqN (tgt := 56) X dX7_add_49 (by decide) (by omega) (fun c49 => ?_) (fun c49 => ?_)
    · refine g_iconst (x := nI 1) X dX7_add_56 (by decide +kernel) ?_
      refine g_callV (As := [.int (nI 1)]) (rest := []) (wr := [cMs v mo fs, cMt v mo ft, cMr v mo rd1]) X (c_X7_holds l v mo th sm ln (nI ((pAll tx ln 12 0 []).2.2.length)) (nI rd1f) (nI ((pAll tx ln 12 0 []).2.1)) rd1w dd 1 (by omega)) f_X7_holds q_15_19 dX7_add_57 [0] [1, 2, 3] rfl rfl (by decide) 0 rfl rfl rfl rfl (Nat.le_of_ble_eq_true rfl) (by decide) (fun r_ w_ hp3 => ?_)
      obtain ⟨rfl, rfl⟩ := hp3
      show GG k _ _ [[((mo 0), .inr (7, [.int (nI 1), .ref (mo 1), .ref (mo 2), .int (nI sm), .ref (mo 3), .int (nI ln), .ref (mo 4), .int (nI ((pAll tx ln 12 0 []).2.2.length)), .int (nI rd1f), .ref (mo 5), .ref (mo 6), .int (nI ((pAll tx ln 12 0 []).2.1)), .int rd1w, .long dd]))], cMs v mo fs, cMt v mo ft, cMr v mo rd1] _ _ [.int (nI 0)]
      refine g_if_neN (tgt := 65) X dX7_add_60 (by decide) (by omega) (fun c60 => ?_) (fun c60 => ?_)
      · exact absurd rfl c60
      · refine g_iconst (x := nI 0) X dX7_add_63 (by decide +kernel) ?_
        exact E dX7_add_64 rfl (rfl) (by decide) (by decide) (⟨_, _, _, rfl, rfl⟩)
    · exact absurd rfl c49
  · refine g_aload_n X dX7_add_7 0 rfl rfl ?_
    refine g_get X cb7 1 q_4_18 dX7_add_8 0 0 rfl rfl (by decide) rfl rfl ?_
    refine g_iconst (x := nI 0) X dX7_add_11 (by decide +kernel) ?_
    refine g_iald X dX7_add_12 1 0 rfl rfl (by omega) (by omega) ?_
    refine g_v (y := nI n) (hS.1) ?_
    refine g_aload_n X dX7_add_13 0 rfl rfl ?_
    refine g_get X cb7 7 q_14_4 dX7_add_14 0 0 rfl rfl (by decide) rfl rfl ?_
    refine g_iaddN X dX7_add_17 ?_
    refine g_bipush (x := nI 12) X dX7_add_18 (by decide +kernel) ?_
    refine g_icmp_gtN (tgt := 45) X dX7_add_20 (by decide) (by omega) (by omega) (fun c20 => ?_) (fun c20 => ?_)
    · refine g_iconst (x := nI 0) X dX7_add_45 (by decide +kernel) ?_
      refine g_istore_n (lv' := [(1, .int (nI 0)), (0, .ref (mo 0))]) X dX7_add_46 rfl (by decide) rfl ?_
      refine g_aload_n X dX7_add_47 1 rfl rfl ?_
      refine g_iload_n X dX7_add_48 0 rfl rfl ?_
      refine g_if_eqN (tgt := 56) X dX7_add_49 (by decide) (by omega) (fun c49 => ?_) (fun c49 => ?_)
      · refine g_iconst (x := nI 1) X dX7_add_56 (by decide +kernel) ?_
        refine g_callV (As := [.int (nI 1)]) (rest := []) (wr := [cMs v mo fs, cMt v mo ft, cMr v mo rd1]) X (c_X7_holds l v mo th sm ln (nI ((pAll tx ln 12 0 []).2.2.length)) (nI rd1f) (nI ((pAll tx ln 12 0 []).2.1)) rd1w dd 1 (by omega)) f_X7_holds q_15_19 dX7_add_57 [0] [1, 2, 3] rfl rfl (by decide) 0 rfl rfl rfl rfl (Nat.le_of_ble_eq_true rfl) (by decide) (fun r_ w_ hp4 => ?_)
        obtain ⟨rfl, rfl⟩ := hp4
        show GG k _ _ [[((mo 0), .inr (7, [.int (nI 1), .ref (mo 1), .ref (mo 2), .int (nI sm), .ref (mo 3), .int (nI ln), .ref (mo 4), .int (nI ((pAll tx ln 12 0 []).2.2.length)), .int (nI rd1f), .ref (mo 5), .ref (mo 6), .int (nI ((pAll tx ln 12 0 []).2.1)), .int rd1w, .long dd]))], cMs v mo fs, cMt v mo ft, cMr v mo rd1] _ _ [.int (nI 0)]
        refine g_if_neN (tgt := 65) X dX7_add_60 (by decide) (by omega) (fun c60 => ?_) (fun c60 => ?_)
        · exact absurd rfl c60
        · refine g_iconst (x := nI 0) X dX7_add_63 (by decide +kernel) ?_
          exact E dX7_add_64 rfl (rfl) (by decide) (by decide) (⟨_, _, _, rfl, rfl⟩)
      · exact absurd rfl c49
    · refine g_aload_n X dX7_add_23 0 rfl rfl ?_
      refine g_get X cb7 8 q_14_3 dX7_add_24 0 0 rfl rfl (by decide) rfl rfl ?_
      refine g_aload_n X dX7_add_27 0 rfl rfl ?_
      refine g_get X cb7 1 q_4_18 dX7_add_28 0 0 rfl rfl (by decide) rfl rfl ?_
      refine g_iconst (x := nI 0) X dX7_add_31 (by decide +kernel) ?_
      refine g_iald X dX7_add_32 1 0 rfl rfl (by omega) (by omega) ?_
      refine g_v (y := nI n) (hS.1) ?_
      refine g_aload_n X dX7_add_33 0 rfl rfl ?_
      refine g_get X cb7 7 q_14_4 dX7_add_34 0 0 rfl rfl (by decide) rfl rfl ?_
      refine g_iaddN X dX7_add_37 ?_
      refine g_icmp_gtN (tgt := 45) X dX7_add_38 (by decide) (by omega) (by omega) (fun c38 => ?_) (fun c38 => ?_)
      · refine g_iconst (x := nI 0) X dX7_add_45 (by decide +kernel) ?_
        refine g_istore_n (lv' := [(1, .int (nI 0)), (0, .ref (mo 0))]) X dX7_add_46 rfl (by decide) rfl ?_
        refine g_aload_n X dX7_add_47 1 rfl rfl ?_
        refine g_iload_n X dX7_add_48 0 rfl rfl ?_
        refine g_if_eqN (tgt := 56) X dX7_add_49 (by decide) (by omega) (fun c49 => ?_) (fun c49 => ?_)
        · refine g_iconst (x := nI 1) X dX7_add_56 (by decide +kernel) ?_
          refine g_callV (As := [.int (nI 1)]) (rest := []) (wr := [cMs v mo fs, cMt v mo ft, cMr v mo rd1]) X (c_X7_holds l v mo th sm ln (nI ((pAll tx ln 12 0 []).2.2.length)) (nI rd1f) (nI ((pAll tx ln 12 0 []).2.1)) rd1w dd 1 (by omega)) f_X7_holds q_15_19 dX7_add_57 [0] [1, 2, 3] rfl rfl (by decide) 0 rfl rfl rfl rfl (Nat.le_of_ble_eq_true rfl) (by decide) (fun r_ w_ hp5 => ?_)
          obtain ⟨rfl, rfl⟩ := hp5
          show GG k _ _ [[((mo 0), .inr (7, [.int (nI 1), .ref (mo 1), .ref (mo 2), .int (nI sm), .ref (mo 3), .int (nI ln), .ref (mo 4), .int (nI ((pAll tx ln 12 0 []).2.2.length)), .int (nI rd1f), .ref (mo 5), .ref (mo 6), .int (nI ((pAll tx ln 12 0 []).2.1)), .int rd1w, .long dd]))], cMs v mo fs, cMt v mo ft, cMr v mo rd1] _ _ [.int (nI 0)]
          refine g_if_neN (tgt := 65) X dX7_add_60 (by decide) (by omega) (fun c60 => ?_) (fun c60 => ?_)
          · exact absurd rfl c60
          · refine g_iconst (x := nI 0) X dX7_add_63 (by decide +kernel) ?_
            exact E dX7_add_64 rfl (rfl) (by decide) (by decide) (⟨_, _, _, rfl, rfl⟩)
        · exact absurd rfl c49
      · exact absurd ⟨c4, by omega, (rd1F.2 _ (by omega)).mp (by omega)⟩ hok

