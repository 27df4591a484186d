/-! ## the model: verdicts, bounds -/
set_option maxHeartbeats 4000000 in
set_option maxRecDepth 100000 in
theorem c_X7_runsThat (l : Launch) (v : VV) (mo : Nat → Nat) (th : Int32) (sm : Nat) (ln : Nat) (rm : Int32) (fa : Int32) (sp : Int32) (wr : Int32) (dd : Int64) (P : Nat → S9) (n : Nat) (lo : Nat → Nat) (hi : Nat → Nat) (fs : Nat → Int32) (fe : Nat → Int32) (h9 : Nat) (hW : WF P n) (hS : SR P n lo hi fs) (hL : AsW lo hi) (hE : ∀ q, q < 512 * (n + 1) → fe q = zI (EE P n q)) (hh9 : h9 < 3) : MI l v yX7_runsThat cX7_runsThat 5 (some .int) ({ frames := 2, cells := 0, slots := 0, locals := 45 }) [.ref (mo 0), .int (nI h9)] [[((mo 0), .inr (7, [.int th, .ref (mo 1), .ref (mo 2), .int (nI sm), .ref (mo 3), .int (nI ln), .ref (mo 4), .int rm, .int fa, .ref (mo 5), .ref (mo 6), .int sp, .int wr, .long dd]))], cMs v mo fs, cMe v mo fe] (fun r w_ => r = nI (ctb (rtP lo hi P n h9) 512) ∧ w_ = [[((mo 0), .inr (7, [.int th, .ref (mo 1), .ref (mo 2), .int (nI sm), .ref (mo 3), .int (nI ln), .ref (mo 4), .int rm, .int fa, .ref (mo 5), .ref (mo 6), .int sp, .int wr, .long dd]))], cMs v mo fs, cMe v mo fe]) 0 0 := by
  refine mm_int (by decide) (Nat.le_of_ble_eq_true rfl) [(0, .ref (mo 0)), (1, .int (nI h9))] rfl (fun k X E => ?_)
  have hn12 := hW.1
  refine g_iconst (x := nI 0) X dX7_runsThat_0 (by decide +kernel) ?_
  refine g_istore_n (lv' := [(2, .int (nI 0)), (0, .ref (mo 0)), (1, .int (nI h9))]) X dX7_runsThat_1 rfl (by decide) rfl ?_
  refine g_iconst (x := nI 0) X dX7_runsThat_2 (by decide +kernel) ?_
  refine g_istore_n (lv' := [(3, .int (nI 0)), (2, .int (nI 0)), (0, .ref (mo 0)), (1, .int (nI h9))]) X dX7_runsThat_3 rfl (by decide) rfl ?_
  have lp4 : ∀ (zN : Nat) (T : Nat) (hT : T ≤ 512) (zM : zN = 512 - T), GG k 0 0 [[((mo 0), .inr (7, [.int th, .ref (mo 1), .ref (mo 2), .int (nI sm), .ref (mo 3), .int (nI ln), .ref (mo 4), .int rm, .int fa, .ref (mo 5), .ref (mo 6), .int sp, .int wr, .long dd]))], cMs v mo fs, cMe v mo fe] [(3, .int (nI T)), (2, .int (nI (ctb (rtP lo hi P n h9) T))), (0, .ref (mo 0)), (1, .int (nI h9))] 4 [] := by
    intro zN
    induction zN using Nat.strongRecOn with
    | _ zN zih =>
      have ih4 := zih
      clear zih
      intro T hT zM
      have hct := ctb_le (rtP lo hi P n h9) T
      refine g_iload_n X dX7_runsThat_4 0 rfl rfl ?_
      refine g_sipush (x := nI 512) X dX7_runsThat_5 (by decide +kernel) ?_
      refine g_icmp_geN (tgt := 72) X dX7_runsThat_8 (by decide) (by omega) (by omega) (fun c8 => ?_) (fun c8 => ?_)
      · refine g_iload_n X dX7_runsThat_72 1 rfl rfl ?_
        exact E dX7_runsThat_73 rfl (rfl) (by decide) (by decide) (⟨by rw [show T = 512 from by omega], rfl⟩)
      · refine g_aload_n X dX7_runsThat_11 2 rfl rfl ?_
        refine g_get X cb7 9 q_4_22 dX7_runsThat_12 0 0 rfl rfl (by decide) rfl rfl ?_
        refine g_iload_n X dX7_runsThat_15 0 rfl rfl ?_
        refine g_iald X dX7_runsThat_16 2 0 rfl rfl (by omega) (by omega) ?_
        have hrE := EE_rng hW (show T < 512 * (n + 1) by omega)
        refine g_v (y := zI (EE P n T)) (hE _ (by omega)) ?_
        refine g_iconst (x := zI (-1)) X dX7_runsThat_17 (by decide +kernel) ?_
        refine g_icmp_ne (tgt := 25) X dX7_runsThat_18 (by decide) (fun c18 => ?_) (fun c18 => ?_)
        · rw [zI_inj (by omega) (by omega) (by omega) (by omega)] at c18
          refine g_aload_n X dX7_runsThat_25 2 rfl rfl ?_
          refine g_get X cb7 9 q_4_22 dX7_runsThat_26 0 0 rfl rfl (by decide) rfl rfl ?_
          refine g_iload_n X dX7_runsThat_29 0 rfl rfl ?_
          refine g_iald X dX7_runsThat_30 2 0 rfl rfl (by omega) (by omega) ?_
          have hrE := EE_rng hW (show T < 512 * (n + 1) by omega)
          refine g_v (y := zI (EE P n T)) (hE _ (by omega)) ?_
          refine g_sipush (x := nI 1000) X dX7_runsThat_31 (by decide +kernel) ?_
          refine g_icmp_ge (tgt := 41) X dX7_runsThat_34 (by decide) (fun c34 => ?_) (fun c34 => ?_)
          · rw [zI_nI 1000, zI_le (by omega) (by omega) (by omega) (by omega)] at c34
            refine g_iconst (x := nI 2) X dX7_runsThat_41 (by decide +kernel) ?_
            have hkd : kd (EE P n T) = 2 := by unfold kd; rw [if_neg c18, if_neg (by omega)]
            refine g_istore (lv' := [(4, .int (nI 2)), (3, .int (nI T)), (2, .int (nI (ctb (rtP lo hi P n h9) T))), (0, .ref (mo 0)), (1, .int (nI h9))]) X dX7_runsThat_42 (by decide) rfl ?_
            refine g_iload_n X dX7_runsThat_44 2 rfl rfl ?_
            refine g_aload_n X dX7_runsThat_45 3 rfl rfl ?_
            refine g_iload_n X dX7_runsThat_46 1 rfl rfl ?_
            refine g_callV (As := [.int (nI T)]) (rest := [.int (nI (ctb (rtP lo hi P n h9) T))]) (wr := [cMe v mo fe]) X (c_X7_isAssumed l v mo th sm ln rm fa sp wr dd P n lo hi fs T hW hS hL (by omega)) f_X7_isAssumed q_29_2 dX7_runsThat_47 [0, 1] [2] rfl rfl (by decide) 0 rfl rfl rfl rfl (Nat.le_of_ble_eq_true rfl) (by decide) (fun r_ w_ hp1 => ?_)
            obtain ⟨rfl, rfl⟩ := hp1
            show GG k _ _ [[((mo 0), .inr (7, [.int th, .ref (mo 1), .ref (mo 2), .int (nI sm), .ref (mo 3), .int (nI ln), .ref (mo 4), .int rm, .int fa, .ref (mo 5), .ref (mo 6), .int sp, .int wr, .long dd]))], cMs v mo fs, cMe v mo fe] _ _ [.int (bI (ab9 lo hi (-1) T)), .int (nI (ctb (rtP lo hi P n h9) T))]
            refine g_if_eqB (tgt := 63) X dX7_runsThat_50 (by decide) (fun c50 => ?_) (fun c50 => ?_)
            · refine g_iconst (x := nI 0) X dX7_runsThat_63 (by decide +kernel) ?_
              refine g_iaddN X dX7_runsThat_64 ?_
              refine g_v (y := nI (ctb (rtP lo hi P n h9) (T + 1))) (by rw [ctb_f (rt_f1 c50)]; rfl) ?_
              refine g_istore_n (lv' := [(2, .int (nI (ctb (rtP lo hi P n h9) (T + 1)))), (4, .int (nI 2)), (3, .int (nI T)), (0, .ref (mo 0)), (1, .int (nI h9))]) X dX7_runsThat_65 rfl (by decide) rfl ?_
              refine g_iinc (y := nI (T + 1)) (lv' := [(3, .int (nI (T + 1))), (2, .int (nI (ctb (rtP lo hi P n h9) (T + 1)))), (4, .int (nI 2)), (0, .ref (mo 0)), (1, .int (nI h9))]) (j := 2) X dX7_runsThat_66 rfl (nI_add T 1) (by decide) rfl ?_
              refine g_goto (tgt := 4) X dX7_runsThat_69 (by decide) ?_
              refine g_lv (lv' := [(3, .int (nI (T + 1))), (2, .int (nI (ctb (rtP lo hi P n h9) (T + 1)))), (0, .ref (mo 0)), (1, .int (nI h9))]) [0, 1, 3, 4] rfl ?_
              exact ih4 _ (by omega) (T + 1) (by omega) rfl
            · refine g_iload X dX7_runsThat_53 0 rfl ?_
              refine g_iload_n X dX7_runsThat_55 4 rfl rfl ?_
              refine g_icmp_neN (tgt := 63) X dX7_runsThat_56 (by decide) (by omega) (by omega) (fun c56 => ?_) (fun c56 => ?_)
              · refine g_iconst (x := nI 0) X dX7_runsThat_63 (by decide +kernel) ?_
                refine g_iaddN X dX7_runsThat_64 ?_
                refine g_v (y := nI (ctb (rtP lo hi P n h9) (T + 1))) (by rw [ctb_f (rt_f2 (fun z => c56 (hkd.symm.trans z)))]; rfl) ?_
                refine g_istore_n (lv' := [(2, .int (nI (ctb (rtP lo hi P n h9) (T + 1)))), (4, .int (nI 2)), (3, .int (nI T)), (0, .ref (mo 0)), (1, .int (nI h9))]) X dX7_runsThat_65 rfl (by decide) rfl ?_
                refine g_iinc (y := nI (T + 1)) (lv' := [(3, .int (nI (T + 1))), (2, .int (nI (ctb (rtP lo hi P n h9) (T + 1)))), (4, .int (nI 2)), (0, .ref (mo 0)), (1, .int (nI h9))]) (j := 2) X dX7_runsThat_66 rfl (nI_add T 1) (by decide) rfl ?_
                refine g_goto (tgt := 4) X dX7_runsThat_69 (by decide) ?_
                refine g_lv (lv' := [(3, .int (nI (T + 1))), (2, .int (nI (ctb (rtP lo hi P n h9) (T + 1)))), (0, .ref (mo 0)), (1, .int (nI h9))]) [0, 1, 3, 4] rfl ?_
                exact ih4 _ (by omega) (T + 1) (by omega) rfl
              · refine g_iconst (x := nI 1) X dX7_runsThat_59 (by decide +kernel) ?_
                refine g_goto (tgt := 64) X dX7_runsThat_60 (by decide) ?_
                refine g_iaddN X dX7_runsThat_64 ?_
                refine g_v (y := nI (ctb (rtP lo hi P n h9) (T + 1))) (by rw [ctb_t (rt_t c50 (hkd.trans c56))]) ?_
                refine g_istore_n (lv' := [(2, .int (nI (ctb (rtP lo hi P n h9) (T + 1)))), (4, .int (nI 2)), (3, .int (nI T)), (0, .ref (mo 0)), (1, .int (nI h9))]) X dX7_runsThat_65 rfl (by decide) rfl ?_
                refine g_iinc (y := nI (T + 1)) (lv' := [(3, .int (nI (T + 1))), (2, .int (nI (ctb (rtP lo hi P n h9) (T + 1)))), (4, .int (nI 2)), (0, .ref (mo 0)), (1, .int (nI h9))]) (j := 2) X dX7_runsThat_66 rfl (nI_add T 1) (by decide) rfl ?_
                refine g_goto (tgt := 4) X dX7_runsThat_69 (by decide) ?_
                refine g_lv (lv' := [(3, .int (nI (T + 1))), (2, .int (nI (ctb (rtP lo hi P n h9) (T + 1)))), (0, .ref (mo 0)), (1, .int (nI h9))]) [0, 1, 3, 4] rfl ?_
                exact ih4 _ (by omega) (T + 1) (by omega) rfl
          · rw [zI_nI 1000, zI_le (by omega) (by omega) (by omega) (by omega)] at c34
            refine g_iconst (x := nI 1) X dX7_runsThat_37 (by decide +kernel) ?_
            refine g_goto (tgt := 42) X dX7_runsThat_38 (by decide) ?_
            have hkd : kd (EE P n T) = 1 := by unfold kd; rw [if_neg c18, if_pos (by omega)]
            refine g_istore (lv' := [(4, .int (nI 1)), (3, .int (nI T)), (2, .int (nI (ctb (rtP lo hi P n h9) T))), (0, .ref (mo 0)), (1, .int (nI h9))]) X dX7_runsThat_42 (by decide) rfl ?_
            refine g_iload_n X dX7_runsThat_44 2 rfl rfl ?_
            refine g_aload_n X dX7_runsThat_45 3 rfl rfl ?_
            refine g_iload_n X dX7_runsThat_46 1 rfl rfl ?_
            refine g_callV (As := [.int (nI T)]) (rest := [.int (nI (ctb (rtP lo hi P n h9) T))]) (wr := [cMe v mo fe]) X (c_X7_isAssumed l v mo th sm ln rm fa sp wr dd P n lo hi fs T hW hS hL (by omega)) f_X7_isAssumed q_29_2 dX7_runsThat_47 [0, 1] [2] rfl rfl (by decide) 0 rfl rfl rfl rfl (Nat.le_of_ble_eq_true rfl) (by decide) (fun r_ w_ hp2 => ?_)
            obtain ⟨rfl, rfl⟩ := hp2
            show GG k _ _ [[((mo 0), .inr (7, [.int th, .ref (mo 1), .ref (mo 2), .int (nI sm), .ref (mo 3), .int (nI ln), .ref (mo 4), .int rm, .int fa, .ref (mo 5), .ref (mo 6), .int sp, .int wr, .long dd]))], cMs v mo fs, cMe v mo fe] _ _ [.int (bI (ab9 lo hi (-1) T)), .int (nI (ctb (rtP lo hi P n h9) T))]
            refine g_if_eqB (tgt := 63) X dX7_runsThat_50 (by decide) (fun c50 => ?_) (fun c50 => ?_)
            · refine g_iconst (x := nI 0) X dX7_runsThat_63 (by decide +kernel) ?_
              refine g_iaddN X dX7_runsThat_64 ?_
              refine g_v (y := nI (ctb (rtP lo hi P n h9) (T + 1))) (by rw [ctb_f (rt_f1 c50)]; rfl) ?_
              refine g_istore_n (lv' := [(2, .int (nI (ctb (rtP lo hi P n h9) (T + 1)))), (4, .int (nI 1)), (3, .int (nI T)), (0, .ref (mo 0)), (1, .int (nI h9))]) X dX7_runsThat_65 rfl (by decide) rfl ?_
              refine g_iinc (y := nI (T + 1)) (lv' := [(3, .int (nI (T + 1))), (2, .int (nI (ctb (rtP lo hi P n h9) (T + 1)))), (4, .int (nI 1)), (0, .ref (mo 0)), (1, .int (nI h9))]) (j := 2) X dX7_runsThat_66 rfl (nI_add T 1) (by decide) rfl ?_
              refine g_goto (tgt := 4) X dX7_runsThat_69 (by decide) ?_
              refine g_lv (lv' := [(3, .int (nI (T + 1))), (2, .int (nI (ctb (rtP lo hi P n h9) (T + 1)))), (0, .ref (mo 0)), (1, .int (nI h9))]) [0, 1, 3, 4] rfl ?_
              exact ih4 _ (by omega) (T + 1) (by omega) rfl
            · refine g_iload X dX7_runsThat_53 0 rfl ?_
              refine g_iload_n X dX7_runsThat_55 4 rfl rfl ?_
              refine g_icmp_neN (tgt := 63) X dX7_runsThat_56 (by decide) (by omega) (by omega) (fun c56 => ?_) (fun c56 => ?_)
              · refine g_iconst (x := nI 0) X dX7_runsThat_63 (by decide +kernel) ?_
                refine g_iaddN X dX7_runsThat_64 ?_
                refine g_v (y := nI (ctb (rtP lo hi P n h9) (T + 1))) (by rw [ctb_f (rt_f2 (fun z => c56 (hkd.symm.trans z)))]; rfl) ?_
                refine g_istore_n (lv' := [(2, .int (nI (ctb (rtP lo hi P n h9) (T + 1)))), (4, .int (nI 1)), (3, .int (nI T)), (0, .ref (mo 0)), (1, .int (nI h9))]) X dX7_runsThat_65 rfl (by decide) rfl ?_
                refine g_iinc (y := nI (T + 1)) (lv' := [(3, .int (nI (T + 1))), (2, .int (nI (ctb (rtP lo hi P n h9) (T + 1)))), (4, .int (nI 1)), (0, .ref (mo 0)), (1, .int (nI h9))]) (j := 2) X dX7_runsThat_66 rfl (nI_add T 1) (by decide) rfl ?_
                refine g_goto (tgt := 4) X dX7_runsThat_69 (by decide) ?_
                refine g_lv (lv' := [(3, .int (nI (T + 1))), (2, .int (nI (ctb (rtP lo hi P n h9) (T + 1)))), (0, .ref (mo 0)), (1, .int (nI h9))]) [0, 1, 3, 4] rfl ?_
                exact ih4 _ (by omega) (T + 1) (by omega) rfl
              · refine g_iconst (x := nI 1) X dX7_runsThat_59 (by decide +kernel) ?_
                refine g_goto (tgt := 64) X dX7_runsThat_60 (by decide) ?_
                refine g_iaddN X dX7_runsThat_64 ?_
                refine g_v (y := nI (ctb (rtP lo hi P n h9) (T + 1))) (by rw [ctb_t (rt_t c50 (hkd.trans c56))]) ?_
                refine g_istore_n (lv' := [(2, .int (nI (ctb (rtP lo hi P n h9) (T + 1)))), (4, .int (nI 1)), (3, .int (nI T)), (0, .ref (mo 0)), (1, .int (nI h9))]) X dX7_runsThat_65 rfl (by decide) rfl ?_
                refine g_iinc (y := nI (T + 1)) (lv' := [(3, .int (nI (T + 1))), (2, .int (nI (ctb (rtP lo hi P n h9) (T + 1)))), (4, .int (nI 1)), (0, .ref (mo 0)), (1, .int (nI h9))]) (j := 2) X dX7_runsThat_66 rfl (nI_add T 1) (by decide) rfl ?_
                refine g_goto (tgt := 4) X dX7_runsThat_69 (by decide) ?_
                refine g_lv (lv' := [(3, .int (nI (T + 1))), (2, .int (nI (ctb (rtP lo hi P n h9) (T + 1)))), (0, .ref (mo 0)), (1, .int (nI h9))]) [0, 1, 3, 4] rfl ?_
                exact ih4 _ (by omega) (T + 1) (by omega) rfl
        · rw [zI_inj (by omega) (by omega) (by omega) (by omega)] at c18
          refine g_iconst (x := nI 0) X dX7_runsThat_21 (by decide +kernel) ?_
          refine g_goto (tgt := 42) X dX7_runsThat_22 (by decide) ?_
          have hkd : kd (EE P n T) = 0 := by unfold kd; rw [if_pos c18]
          refine g_istore (lv' := [(4, .int (nI 0)), (3, .int (nI T)), (2, .int (nI (ctb (rtP lo hi P n h9) T))), (0, .ref (mo 0)), (1, .int (nI h9))]) X dX7_runsThat_42 (by decide) rfl ?_
          refine g_iload_n X dX7_runsThat_44 2 rfl rfl ?_
          refine g_aload_n X dX7_runsThat_45 3 rfl rfl ?_
          refine g_iload_n X dX7_runsThat_46 1 rfl rfl ?_
          refine g_callV (As := [.int (nI T)]) (rest := [.int (nI (ctb (rtP lo hi P n h9) T))]) (wr := [cMe v mo fe]) X (c_X7_isAssumed l v mo th sm ln rm fa sp wr dd P n lo hi fs T hW hS hL (by omega)) f_X7_isAssumed q_29_2 dX7_runsThat_47 [0, 1] [2] rfl rfl (by decide) 0 rfl rfl rfl rfl (Nat.le_of_ble_eq_true rfl) (by decide) (fun r_ w_ hp3 => ?_)
          obtain ⟨rfl, rfl⟩ := hp3
          show GG k _ _ [[((mo 0), .inr (7, [.int th, .ref (mo 1), .ref (mo 2), .int (nI sm), .ref (mo 3), .int (nI ln), .ref (mo 4), .int rm, .int fa, .ref (mo 5), .ref (mo 6), .int sp, .int wr, .long dd]))], cMs v mo fs, cMe v mo fe] _ _ [.int (bI (ab9 lo hi (-1) T)), .int (nI (ctb (rtP lo hi P n h9) T))]
          refine g_if_eqB (tgt := 63) X dX7_runsThat_50 (by decide) (fun c50 => ?_) (fun c50 => ?_)
          · refine g_iconst (x := nI 0) X dX7_runsThat_63 (by decide +kernel) ?_
            refine g_iaddN X dX7_runsThat_64 ?_
            refine g_v (y := nI (ctb (rtP lo hi P n h9) (T + 1))) (by rw [ctb_f (rt_f1 c50)]; rfl) ?_
            refine g_istore_n (lv' := [(2, .int (nI (ctb (rtP lo hi P n h9) (T + 1)))), (4, .int (nI 0)), (3, .int (nI T)), (0, .ref (mo 0)), (1, .int (nI h9))]) X dX7_runsThat_65 rfl (by decide) rfl ?_
            refine g_iinc (y := nI (T + 1)) (lv' := [(3, .int (nI (T + 1))), (2, .int (nI (ctb (rtP lo hi P n h9) (T + 1)))), (4, .int (nI 0)), (0, .ref (mo 0)), (1, .int (nI h9))]) (j := 2) X dX7_runsThat_66 rfl (nI_add T 1) (by decide) rfl ?_
            refine g_goto (tgt := 4) X dX7_runsThat_69 (by decide) ?_
            refine g_lv (lv' := [(3, .int (nI (T + 1))), (2, .int (nI (ctb (rtP lo hi P n h9) (T + 1)))), (0, .ref (mo 0)), (1, .int (nI h9))]) [0, 1, 3, 4] rfl ?_
            exact ih4 _ (by omega) (T + 1) (by omega) rfl
          · refine g_iload X dX7_runsThat_53 0 rfl ?_
            refine g_iload_n X dX7_runsThat_55 4 rfl rfl ?_
            refine g_icmp_neN (tgt := 63) X dX7_runsThat_56 (by decide) (by omega) (by omega) (fun c56 => ?_) (fun c56 => ?_)
            · refine g_iconst (x := nI 0) X dX7_runsThat_63 (by decide +kernel) ?_
              refine g_iaddN X dX7_runsThat_64 ?_
              refine g_v (y := nI (ctb (rtP lo hi P n h9) (T + 1))) (by rw [ctb_f (rt_f2 (fun z => c56 (hkd.symm.trans z)))]; rfl) ?_
              refine g_istore_n (lv' := [(2, .int (nI (ctb (rtP lo hi P n h9) (T + 1)))), (4, .int (nI 0)), (3, .int (nI T)), (0, .ref (mo 0)), (1, .int (nI h9))]) X dX7_runsThat_65 rfl (by decide) rfl ?_
              refine g_iinc (y := nI (T + 1)) (lv' := [(3, .int (nI (T + 1))), (2, .int (nI (ctb (rtP lo hi P n h9) (T + 1)))), (4, .int (nI 0)), (0, .ref (mo 0)), (1, .int (nI h9))]) (j := 2) X dX7_runsThat_66 rfl (nI_add T 1) (by decide) rfl ?_
              refine g_goto (tgt := 4) X dX7_runsThat_69 (by decide) ?_
              refine g_lv (lv' := [(3, .int (nI (T + 1))), (2, .int (nI (ctb (rtP lo hi P n h9) (T + 1)))), (0, .ref (mo 0)), (1, .int (nI h9))]) [0, 1, 3, 4] rfl ?_
              exact ih4 _ (by omega) (T + 1) (by omega) rfl
            · refine g_iconst (x := nI 1) X dX7_runsThat_59 (by decide +kernel) ?_
              refine g_goto (tgt := 64) X dX7_runsThat_60 (by decide) ?_
              refine g_iaddN X dX7_runsThat_64 ?_
              refine g_v (y := nI (ctb (rtP lo hi P n h9) (T + 1))) (by rw [ctb_t (rt_t c50 (hkd.trans c56))]) ?_
              refine g_istore_n (lv' := [(2, .int (nI (ctb (rtP lo hi P n h9) (T + 1)))), (4, .int (nI 0)), (3, .int (nI T)), (0, .ref (mo 0)), (1, .int (nI h9))]) X dX7_runsThat_65 rfl (by decide) rfl ?_
              refine g_iinc (y := nI (T + 1)) (lv' := [(3, .int (nI (T + 1))), (2, .int (nI (ctb (rtP lo hi P n h9) (T + 1)))), (4, .int (nI 0)), (0, .ref (mo 0)), (1, .int (nI h9))]) (j := 2) X dX7_runsThat_66 rfl (nI_add T 1) (by decide) rfl ?_
              refine g_goto (tgt := 4) X dX7_runsThat_69 (by decide) ?_
              refine g_lv (lv' := [(3, .int (nI (T + 1))), (2, .int (nI (ctb (rtP lo hi P n h9) (T + 1)))), (0, .ref (mo 0)), (1, .int (nI h9))]) [0, 1, 3, 4] rfl ?_
              exact ih4 _ (by omega) (T + 1) (by omega) rfl
  exact lp4 _ 0 (by omega) rfl

set_option maxHeartbeats 4000000 in
set_option maxRecDepth 100000 in
theorem c_X7_judged (l : Launch) (v : VV) (mo : Nat → Nat) (th : Int32) (sm : Nat) (ln : Nat) (rm : Int32) (fa : Int32) (sp : Int32) (wr : Int32) (dd : Int64) (P : Nat → S9) (n : Nat) (lo : Nat → Nat) (hi : Nat → Nat) (fs : Nat → Int32) (fe : Nat → Int32) (hW : WF P n) (hS : SR P n lo hi fs) (hL : AsW lo hi) (hE : ∀ q, q < 512 * (n + 1) → fe q = zI (EE P n q)) : MI l v yX7_judged cX7_judged 1 (some .int) ({ frames := 3, cells := 0, slots := 0, locals := 69 }) [.ref (mo 0)] [[((mo 0), .inr (7, [.int th, .ref (mo 1), .ref (mo 2), .int (nI sm), .ref (mo 3), .int (nI ln), .ref (mo 4), .int rm, .int fa, .ref (mo 5), .ref (mo 6), .int sp, .int wr, .long dd]))], cMs v mo fs, cMe v mo fe] (fun r w_ => r = zI (pfV lo hi P n) ∧ w_ = [[((mo 0), .inr (7, [.int th, .ref (mo 1), .ref (mo 2), .int (nI sm), .ref (mo 3), .int (nI ln), .ref (mo 4), .int rm, .int fa, .ref (mo 5), .ref (mo 6), .int sp, .int wr, .long dd]))], cMs v mo fs, cMe v mo fe]) 0 0 := by
  refine mm_int (by decide) (Nat.le_of_ble_eq_true rfl) [(0, .ref (mo 0))] rfl (fun k X E => ?_)
  have hn12 := hW.1
  refine g_aload_n X dX7_judged_0 0 rfl rfl ?_
  refine g_iconst (x := nI 1) X dX7_judged_1 (by decide +kernel) ?_
  refine g_callV (As := [.int (nI 1)]) (rest := []) (wr := []) X (c_X7_runsThat l v mo th sm ln rm fa sp wr dd P n lo hi fs fe 1 hW hS hL hE (by omega)) f_X7_runsThat q_30_13 dX7_judged_2 [0, 1, 2] [] rfl rfl (by decide) 0 rfl rfl rfl rfl (Nat.le_of_ble_eq_true rfl) (by decide) (fun r_ w_ hp1 => ?_)
  rw [(rt_1 hW)] at hp1
  obtain ⟨rfl, rfl⟩ := hp1
  have hcljF := ctb_le (jF lo hi P n) 512
  show GG k _ _ [[((mo 0), .inr (7, [.int th, .ref (mo 1), .ref (mo 2), .int (nI sm), .ref (mo 3), .int (nI ln), .ref (mo 4), .int rm, .int fa, .ref (mo 5), .ref (mo 6), .int sp, .int wr, .long dd]))], cMs v mo fs, cMe v mo fe] _ _ [.int (nI (ctb (jF lo hi P n) 512))]
  refine g_if_leN (tgt := 12) X dX7_judged_5 (by decide) (by omega) (fun c5 => ?_) (fun c5 => ?_)
  · refine g_aload_n X dX7_judged_12 0 rfl rfl ?_
    refine g_iconst (x := nI 0) X dX7_judged_13 (by decide +kernel) ?_
    refine g_callV (As := [.int (nI 0)]) (rest := []) (wr := []) X (c_X7_runsThat l v mo th sm ln rm fa sp wr dd P n lo hi fs fe 0 hW hS hL hE (by omega)) f_X7_runsThat q_30_13 dX7_judged_14 [0, 1, 2] [] rfl rfl (by decide) 0 rfl rfl rfl rfl (Nat.le_of_ble_eq_true rfl) (by decide) (fun r_ w_ hp2 => ?_)
    rw [rt_0] at hp2
    obtain ⟨rfl, rfl⟩ := hp2
    have hcljE := ctb_le (jE lo hi P n) 512
    show GG k _ _ [[((mo 0), .inr (7, [.int th, .ref (mo 1), .ref (mo 2), .int (nI sm), .ref (mo 3), .int (nI ln), .ref (mo 4), .int rm, .int fa, .ref (mo 5), .ref (mo 6), .int sp, .int wr, .long dd]))], cMs v mo fs, cMe v mo fe] _ _ [.int (nI (ctb (jE lo hi P n) 512))]
    refine g_if_leN (tgt := 24) X dX7_judged_17 (by decide) (by omega) (fun c17 => ?_) (fun c17 => ?_)
    · refine g_iconst (x := nI 1) X dX7_judged_24 (by decide +kernel) ?_
      exact E dX7_judged_25 rfl (rfl) (by decide) (by decide) (⟨by unfold pfV; rw [if_neg (by omega), if_neg (by omega)]; exact one_zI, rfl⟩)
    · refine g_iconst (x := nI 0) X dX7_judged_20 (by decide +kernel) ?_
      refine g_goto (tgt := 25) X dX7_judged_21 (by decide) ?_
      exact E dX7_judged_25 rfl (rfl) (by decide) (by decide) (⟨by unfold pfV; rw [if_neg (by omega), if_pos (by omega)]; exact zer_zI, rfl⟩)
  · refine g_iconst (x := nI 2) X dX7_judged_8 (by decide +kernel) ?_
    refine g_goto (tgt := 25) X dX7_judged_9 (by decide) ?_
    exact E dX7_judged_25 rfl (rfl) (by decide) (by decide) (⟨by unfold pfV; rw [if_pos (by omega)]; exact two_zI, rfl⟩)

set_option maxHeartbeats 4000000 in
set_option maxRecDepth 100000 in
theorem c_X7_exampleOf (l : Launch) (v : VV) (mo : Nat → Nat) (th : Int32) (sm : Nat) (ln : Nat) (rm : Int32) (fa : Int32) (sp : Int32) (wr : Int32) (dd : Int64) (P : Nat → S9) (n : Nat) (lo : Nat → Nat) (hi : Nat → Nat) (fs : Nat → Int32) (fe : Nat → Int32) (i : Nat) (hW : WF P n) (hS : SR P n lo hi fs) (hL : AsW lo hi) (hE : ∀ q, q < 512 * (n + 1) → fe q = zI (EE P n q)) (hi9 : i < 12) : MI l v yX7_exampleOf cX7_exampleOf 4 (some .int) ({ frames := 2, cells := 0, slots := 0, locals := 45 }) [.ref (mo 0), .int (nI i)] [[((mo 0), .inr (7, [.int th, .ref (mo 1), .ref (mo 2), .int (nI sm), .ref (mo 3), .int (nI ln), .ref (mo 4), .int rm, .int fa, .ref (mo 5), .ref (mo 6), .int sp, .int wr, .long dd]))], cMs v mo fs, cMe v mo fe] (fun r w_ => r = zI (exV lo hi P n i) ∧ w_ = [[((mo 0), .inr (7, [.int th, .ref (mo 1), .ref (mo 2), .int (nI sm), .ref (mo 3), .int (nI ln), .ref (mo 4), .int rm, .int fa, .ref (mo 5), .ref (mo 6), .int sp, .int wr, .long dd]))], cMs v mo fs, cMe v mo fe]) 0 0 := by
  refine mm_int (by decide) (Nat.le_of_ble_eq_true rfl) [(0, .ref (mo 0)), (1, .int (nI i))] rfl (fun k X E => ?_)
  have hn12 := hW.1
  refine g_iconst (x := zI (-1)) X dX7_exampleOf_0 (by decide +kernel) ?_
  refine g_istore_n (lv' := [(2, .int (zI (-1))), (0, .ref (mo 0)), (1, .int (nI i))]) X dX7_exampleOf_1 rfl (by decide) rfl ?_
  refine g_sipush (x := nI 511) X dX7_exampleOf_2 (by decide +kernel) ?_
  refine g_v (y := zI (((512 : Nat) : Int) + (-1))) (by decide +kernel) ?_
  refine g_istore_n (lv' := [(3, .int (zI (((512 : Nat) : Int) + (-1)))), (2, .int (zI (-1))), (0, .ref (mo 0)), (1, .int (nI i))]) X dX7_exampleOf_5 rfl (by decide) rfl ?_
  have lp6 : ∀ (zN : Nat) (u : Nat) (x9 : Int) (hu : u ≤ 512) (hX : ExU (pX lo hi P n i) u x9) (zM : zN = u), GG k 0 0 [[((mo 0), .inr (7, [.int th, .ref (mo 1), .ref (mo 2), .int (nI sm), .ref (mo 3), .int (nI ln), .ref (mo 4), .int rm, .int fa, .ref (mo 5), .ref (mo 6), .int sp, .int wr, .long dd]))], cMs v mo fs, cMe v mo fe] [(3, .int (zI (((u : Nat) : Int) + (-1)))), (2, .int (zI x9)), (0, .ref (mo 0)), (1, .int (nI i))] 6 [] := by
    intro zN
    induction zN using Nat.strongRecOn with
    | _ zN zih =>
      have ih6 := zih
      clear zih
      intro u x9 hu hX zM
      have hr9 := hX.rng
      cases u with
      | zero =>
        refine g_lveq (lv' := [(3, .int (zI (-1))), (2, .int (zI x9)), (0, .ref (mo 0)), (1, .int (nI i))]) rfl ?_
        refine g_iload_n X dX7_exampleOf_6 0 rfl rfl ?_
        refine g_if_lt (tgt := 40) X dX7_exampleOf_7 (by decide) (fun c7 => ?_) (fun c7 => ?_)
        · refine g_iload_n X dX7_exampleOf_40 1 rfl rfl ?_
          exact E dX7_exampleOf_41 rfl (rfl) (by decide) (by decide) (⟨by rw [exV_eq (ExU_0 hX)], rfl⟩)
        · exact absurd c7 (by decide)
      | succ T =>
        refine g_lveq (lv' := [(3, .int (nI T)), (2, .int (zI x9)), (0, .ref (mo 0)), (1, .int (nI i))]) (by rw [show (((T + 1 : Nat) : Int) + (-1)) = ((T : Nat) : Int) from by omega, ← zI_nI T]) ?_
        refine g_iload_n X dX7_exampleOf_6 0 rfl rfl ?_
        refine g_if_ltN (tgt := 40) X dX7_exampleOf_7 (by decide) (by omega) ?_
        refine g_aload_n X dX7_exampleOf_10 2 rfl rfl ?_
        refine g_iload_n X dX7_exampleOf_11 0 rfl rfl ?_
        refine g_callV (As := [.int (nI T)]) (rest := []) (wr := [cMe v mo fe]) X (c_X7_isAssumed l v mo th sm ln rm fa sp wr dd P n lo hi fs T hW hS hL (by omega)) f_X7_isAssumed q_29_2 dX7_exampleOf_12 [0, 1] [2] rfl rfl (by decide) 0 rfl rfl rfl rfl (Nat.le_of_ble_eq_true rfl) (by decide) (fun r_ w_ hp1 => ?_)
        obtain ⟨rfl, rfl⟩ := hp1
        show GG k _ _ [[((mo 0), .inr (7, [.int th, .ref (mo 1), .ref (mo 2), .int (nI sm), .ref (mo 3), .int (nI ln), .ref (mo 4), .int rm, .int fa, .ref (mo 5), .ref (mo 6), .int sp, .int wr, .long dd]))], cMs v mo fs, cMe v mo fe] _ _ [.int (bI (ab9 lo hi (-1) T))]
        refine g_if_eqB (tgt := 32) X dX7_exampleOf_15 (by decide) (fun c15 => ?_) (fun c15 => ?_)
        · refine g_iload_n X dX7_exampleOf_32 1 rfl rfl ?_
          refine g_istore_n (lv' := [(2, .int (zI x9)), (3, .int (nI T)), (0, .ref (mo 0)), (1, .int (nI i))]) X dX7_exampleOf_33 rfl (by decide) rfl ?_
          refine g_iinc (y := zI (((T : Nat) : Int) + (-1))) (lv' := [(3, .int (zI (((T : Nat) : Int) + (-1)))), (2, .int (zI x9)), (0, .ref (mo 0)), (1, .int (nI i))]) (j := 1) X dX7_exampleOf_34 rfl (by rw [zI_nI]; exact zI_add _ _) (by decide) rfl ?_
          refine g_goto (tgt := 6) X dX7_exampleOf_37 (by decide) ?_
          exact ih6 _ (by omega) T x9 (by omega) (ExU_miss hX (fun z => by rw [z.1] at c15; cases c15)) rfl
        · refine g_aload_n X dX7_exampleOf_18 2 rfl rfl ?_
          refine g_get X cb7 9 q_4_22 dX7_exampleOf_19 0 0 rfl rfl (by decide) rfl rfl ?_
          refine g_iload_n X dX7_exampleOf_22 0 rfl rfl ?_
          refine g_iald X dX7_exampleOf_23 2 0 rfl rfl (by omega) (by omega) ?_
          have hrE := EE_rng hW (show T < 512 * (n + 1) by omega)
          refine g_v (y := zI (EE P n T)) (hE _ (by omega)) ?_
          refine g_iload_n X dX7_exampleOf_24 3 rfl rfl ?_
          refine g_icmp_ne (tgt := 32) X dX7_exampleOf_25 (by decide) (fun c25 => ?_) (fun c25 => ?_)
          · rw [zI_nI i, zI_inj (by omega) (by omega) (by omega) (by omega)] at c25
            refine g_iload_n X dX7_exampleOf_32 1 rfl rfl ?_
            refine g_istore_n (lv' := [(2, .int (zI x9)), (3, .int (nI T)), (0, .ref (mo 0)), (1, .int (nI i))]) X dX7_exampleOf_33 rfl (by decide) rfl ?_
            refine g_iinc (y := zI (((T : Nat) : Int) + (-1))) (lv' := [(3, .int (zI (((T : Nat) : Int) + (-1)))), (2, .int (zI x9)), (0, .ref (mo 0)), (1, .int (nI i))]) (j := 1) X dX7_exampleOf_34 rfl (by rw [zI_nI]; exact zI_add _ _) (by decide) rfl ?_
            refine g_goto (tgt := 6) X dX7_exampleOf_37 (by decide) ?_
            exact ih6 _ (by omega) T x9 (by omega) (ExU_miss hX (fun z => c25 (by have := z.2; omega))) rfl
          · rw [zI_nI i, zI_inj (by omega) (by omega) (by omega) (by omega)] at c25
            refine g_iload_n X dX7_exampleOf_28 0 rfl rfl ?_
            refine g_goto (tgt := 33) X dX7_exampleOf_29 (by decide) ?_
            refine g_v (y := zI ((T : Nat) : Int)) (zI_nI T) ?_
            refine g_istore_n (lv' := [(2, .int (zI ((T : Nat) : Int))), (3, .int (nI T)), (0, .ref (mo 0)), (1, .int (nI i))]) X dX7_exampleOf_33 rfl (by decide) rfl ?_
            refine g_iinc (y := zI (((T : Nat) : Int) + (-1))) (lv' := [(3, .int (zI (((T : Nat) : Int) + (-1)))), (2, .int (zI ((T : Nat) : Int))), (0, .ref (mo 0)), (1, .int (nI i))]) (j := 1) X dX7_exampleOf_34 rfl (by rw [zI_nI]; exact zI_add _ _) (by decide) rfl ?_
            refine g_goto (tgt := 6) X dX7_exampleOf_37 (by decide) ?_
            exact ih6 _ (by omega) T ((T : Nat) : Int) (by omega) (ExU_hit (by omega) ⟨c15, by omega⟩) rfl
  exact lp6 _ 512 (-1) (by omega) ExU_top rfl

theorem exV_rng {lo hi : Nat → Nat} {P : Nat → S9} {n c : Nat} : -1 ≤ exV lo hi P n c ∧ exV lo hi P n c < 512 := by
  by_cases hx : ∃ x, IsEx (pX lo hi P n c) 512 x
  · obtain ⟨x, hx⟩ := hx
    rw [exV_eq hx]
    have := hx.rng
    omega
  · unfold exV pick9
    rw [dif_neg hx]
    omega
set_option maxHeartbeats 4000000 in
set_option maxRecDepth 100000 in
theorem c_X7_verdictOf (l : Launch) (v : VV) (mo : Nat → Nat) (th : Int32) (sm : Nat) (ln : Nat) (rm : Int32) (fa : Int32) (sp : Int32) (wr : Int32) (dd : Int64) (P : Nat → S9) (n : Nat) (lo : Nat → Nat) (hi : Nat → Nat) (fs : Nat → Int32) (fe : Nat → Int32) (fn : Nat → Int32) (i : Nat) (hW : WF P n) (hS : SR P n lo hi fs) (hL : AsW lo hi) (hE : ∀ q, q < 512 * (n + 1) → fe q = zI (EE P n q)) (hN : SnR n (RV lo hi P n 512) fn) (hi9 : i < n) : MI l v yX7_verdictOf cX7_verdictOf 2 (some .int) ({ frames := 3, cells := 0, slots := 0, locals := 68 }) [.ref (mo 0), .int (nI i)] [[((mo 0), .inr (7, [.int th, .ref (mo 1), .ref (mo 2), .int (nI sm), .ref (mo 3), .int (nI ln), .ref (mo 4), .int rm, .int fa, .ref (mo 5), .ref (mo 6), .int sp, .int wr, .long dd]))], cMs v mo fs, cMe v mo fe, cMn v mo fn] (fun r w_ => r = zI (vdV lo hi P n i) ∧ w_ = [[((mo 0), .inr (7, [.int th, .ref (mo 1), .ref (mo 2), .int (nI sm), .ref (mo 3), .int (nI ln), .ref (mo 4), .int rm, .int fa, .ref (mo 5), .ref (mo 6), .int sp, .int wr, .long dd]))], cMs v mo fs, cMe v mo fe, cMn v mo fn]) 0 0 := by
  refine mm_int (by decide) (Nat.le_of_ble_eq_true rfl) [(0, .ref (mo 0)), (1, .int (nI i))] rfl (fun k X E => ?_)
  have hn12 := hW.1
  have hk3 := (hW.2 i hi9).1
  have hxr := exV_rng (lo := lo) (hi := hi) (P := P) (n := n) (c := i)
  refine g_aload_n X dX7_verdictOf_0 0 rfl rfl ?_
  refine g_get X cb7 1 q_4_18 dX7_verdictOf_1 0 0 rfl rfl (by decide) rfl rfl ?_
  refine g_iload_n X dX7_verdictOf_4 1 rfl rfl ?_
  refine g_iconst (x := nI 0) X dX7_verdictOf_5 (by decide +kernel) ?_
  refine g_callS (As := [.int (nI i), .int (nI 0)]) (rest := [.ref (mo 1)]) (wr := [[((mo 0), .inr (7, [.int th, .ref (mo 1), .ref (mo 2), .int (nI sm), .ref (mo 3), .int (nI ln), .ref (mo 4), .int rm, .int fa, .ref (mo 5), .ref (mo 6), .int sp, .int wr, .long dd]))], cMs v mo fs, cMe v mo fe, cMn v mo fn]) X (c_X7_of l v i 0) f_X7_of q_17_23 dX7_verdictOf_6 [] [0, 1, 2, 3] rfl rfl (by decide) rfl rfl (Nat.le_of_ble_eq_true rfl) (by decide) (fun r_ w_ hp1 => ?_)
  obtain ⟨rfl, rfl⟩ := hp1
  show GG k _ _ [[((mo 0), .inr (7, [.int th, .ref (mo 1), .ref (mo 2), .int (nI sm), .ref (mo 3), .int (nI ln), .ref (mo 4), .int rm, .int fa, .ref (mo 5), .ref (mo 6), .int sp, .int wr, .long dd]))], cMs v mo fs, cMe v mo fe, cMn v mo fn] _ _ [.int (nI (1 + 5 * i + 0)), .ref (mo 1)]
  refine g_iald X dX7_verdictOf_9 1 0 rfl rfl (by omega) (by omega) ?_
  refine g_v (y := nI ((P i).1)) ((hS.2.1 i hi9).1) ?_
  refine g_iconst (x := nI 1) X dX7_verdictOf_10 (by decide +kernel) ?_
  refine g_icmp_eqN (tgt := 16) X dX7_verdictOf_11 (by decide) (by omega) (by omega) (fun c11 => ?_) (fun c11 => ?_)
  · refine g_aload_n X dX7_verdictOf_16 0 rfl rfl ?_
    refine g_iload_n X dX7_verdictOf_17 1 rfl rfl ?_
    refine g_callV (As := [.int (nI i)]) (rest := []) (wr := [cMs v mo fs, cMe v mo fe]) X (c_X7_isReached l v mo th sm ln rm fa sp wr dd n (RV lo hi P n 512) fn i hn12 hN (by omega)) f_X7_isReached q_29_10 dX7_verdictOf_18 [0, 3] [1, 2] rfl rfl (by decide) 0 rfl rfl rfl rfl (Nat.le_of_ble_eq_true rfl) (by decide) (fun r_ w_ hp3 => ?_)
    obtain ⟨rc2, rfl⟩ := hp3
    show GG k _ _ [[((mo 0), .inr (7, [.int th, .ref (mo 1), .ref (mo 2), .int (nI sm), .ref (mo 3), .int (nI ln), .ref (mo 4), .int rm, .int fa, .ref (mo 5), .ref (mo 6), .int sp, .int wr, .long dd]))], cMn v mo fn, cMs v mo fs, cMe v mo fe] _ _ [.int r_]
    refine g_pick (cs' := [[((mo 0), .inr (7, [.int th, .ref (mo 1), .ref (mo 2), .int (nI sm), .ref (mo 3), .int (nI ln), .ref (mo 4), .int rm, .int fa, .ref (mo 5), .ref (mo 6), .int sp, .int wr, .long dd]))], cMs v mo fs, cMe v mo fe, cMn v mo fn]) [0, 2, 3, 1] rfl rfl ?_
    rcases rc2 with ⟨hrc1, hrc⟩ | ⟨hrc1, hrc⟩
    · refine g_v (y := nI 1) hrc1 ?_
      refine g_if_neN (tgt := 28) X dX7_verdictOf_21 (by decide) (by omega) (fun c21 => ?_) (fun c21 => ?_)
      · refine g_aload_n X dX7_verdictOf_28 0 rfl rfl ?_
        refine g_iload_n X dX7_verdictOf_29 1 rfl rfl ?_
        refine g_callV (As := [.int (nI i)]) (rest := []) (wr := [cMn v mo fn]) X (c_X7_exampleOf l v mo th sm ln rm fa sp wr dd P n lo hi fs fe i hW hS hL hE (by omega)) f_X7_exampleOf q_29_14 dX7_verdictOf_30 [0, 1, 2] [3] rfl rfl (by decide) 0 rfl rfl rfl rfl (Nat.le_of_ble_eq_true rfl) (by decide) (fun r_ w_ hp4 => ?_)
        obtain ⟨rfl, rfl⟩ := hp4
        show GG k _ _ [[((mo 0), .inr (7, [.int th, .ref (mo 1), .ref (mo 2), .int (nI sm), .ref (mo 3), .int (nI ln), .ref (mo 4), .int rm, .int fa, .ref (mo 5), .ref (mo 6), .int sp, .int wr, .long dd]))], cMs v mo fs, cMe v mo fe, cMn v mo fn] _ _ [.int (zI (exV lo hi P n i))]
        refine g_iconst (x := zI (-1)) X dX7_verdictOf_33 (by decide +kernel) ?_
        refine g_icmp_ne (tgt := 41) X dX7_verdictOf_34 (by decide) (fun c34 => ?_) (fun c34 => ?_)
        · rw [zI_inj (by omega) (by omega) (by omega) (by omega)] at c34
          refine g_iconst (x := nI 2) X dX7_verdictOf_41 (by decide +kernel) ?_
          exact E dX7_verdictOf_42 rfl (rfl) (by decide) (by decide) (⟨by unfold vdV; rw [if_pos c11, if_neg c34]; exact two_zI, rfl⟩)
        · rw [zI_inj (by omega) (by omega) (by omega) (by omega)] at c34
          refine g_iconst (x := nI 1) X dX7_verdictOf_37 (by decide +kernel) ?_
          refine g_goto (tgt := 42) X dX7_verdictOf_38 (by decide) ?_
          exact E dX7_verdictOf_42 rfl (rfl) (by decide) (by decide) (⟨by unfold vdV; rw [if_pos c11, if_pos c34, if_neg (mnV_yes hrc)]; exact one_zI, rfl⟩)
      · exact absurd c21 (by decide)
    · refine g_v (y := nI 0) hrc1 ?_
      refine g_if_neN (tgt := 28) X dX7_verdictOf_21 (by decide) (by omega) (fun c21 => ?_) (fun c21 => ?_)
      · exact absurd rfl c21
      · refine g_iconst (x := nI 0) X dX7_verdictOf_24 (by decide +kernel) ?_
        refine g_goto (tgt := 42) X dX7_verdictOf_25 (by decide) ?_
        exact E dX7_verdictOf_42 rfl (rfl) (by decide) (by decide) (⟨by unfold vdV; rw [if_pos c11, if_pos (exV_no hW hi9 hrc), if_pos (mnV_no hrc)]; exact zer_zI, rfl⟩)
  · refine g_iconst (x := zI (-1)) X dX7_verdictOf_14 (by decide +kernel) ?_
    exact E dX7_verdictOf_15 rfl (rfl) (by decide) (by decide) (⟨by unfold vdV; rw [if_neg c11], rfl⟩)

