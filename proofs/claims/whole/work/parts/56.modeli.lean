/-! ## the model: assume, demands -/
theorem SR_up {P : Nat → S9} {n : Nat} {lo hi : Nat → Nat} {f : Nat → Int32} {w u q : Nat} (hn : n ≤ 12) (hw : w < 3) (h : SR P n lo hi f) : SR P n (hU9 lo w u) (hU9 hi w q) (upd (upd f (61 + 2 * w) (nI u)) (61 + 2 * w + 1) (nI q)) := by
  refine ⟨by rw [pk_un (by omega), pk_un (by omega)]; exact h.1, fun i hi9 => ?_, fun j hj => ?_⟩
  · have e : ∀ k, k < 5 → upd (upd f (61 + 2 * w) (nI u)) (61 + 2 * w + 1) (nI q) (1 + 5 * i + k) = f (1 + 5 * i + k) := fun k hk => (pk_un (by omega)).trans (pk_un (by omega))
    rw [e 0 (by omega), e 1 (by omega), e 2 (by omega), e 3 (by omega), e 4 (by omega)]
    exact h.2.1 i hi9
  · by_cases z : j = w
    · subst z
      rw [hU9_eq, hU9_eq]
      exact ⟨(pk_un (by omega)).trans pk_us, pk_us⟩
    · rw [hU9_ne z, hU9_ne z]
      exact ⟨(pk_un (by omega)).trans ((pk_un (by omega)).trans (h.2.2 j hj).1), (pk_un (by omega)).trans ((pk_un (by omega)).trans (h.2.2 j hj).2)⟩

set_option maxHeartbeats 4000000 in
set_option maxRecDepth 100000 in
theorem c_X7_assume (l : Launch) (v : VV) (mo : Nat → Nat) (th : Int32) (sm : Nat) (ln : Nat) (rm : Int32) (fa : Int32) (sp : Int32) (wr : Int32) (dd : Int64) (P : Nat → S9) (n : Nat) (lo : Nat → Nat) (hi : Nat → Nat) (fs : Nat → Int32) (fv : Nat → Int32) (H : Nat → HE9) (w : Nat) (u : Nat) (q : Nat) (hW : WF P n) (hS : SR P n lo hi fs) (hL : AsW lo hi) (hH : HMR H sm fv) (hw9 : w < 3) (hu : u ≤ q) (hq : q ≤ 7) : MI l v yX7_assume cX7_assume 5 (some .int) ({ frames := 1, cells := 0, slots := 0, locals := 22 }) [.ref (mo 0), .int (nI w), .int (nI u), .int (nI q)] [[((mo 0), .inr (7, [.int th, .ref (mo 1), .ref (mo 2), .int (nI sm), .ref (mo 3), .int (nI ln), .ref (mo 4), .int rm, .int fa, .ref (mo 5), .ref (mo 6), .int sp, .int wr, .long dd]))], cMs v mo fs, cMv v mo fv] (fun r w_ => ∃ fs' fv', r = nI (cnt9 (hU9 lo w u) (hU9 hi w q) 3) ∧ SR P n (hU9 lo w u) (hU9 hi w q) fs' ∧ HMR (hS9 H sm (P, n, lo, hi)) (hC9 sm) fv' ∧ w_ = [[((mo 0), .inr (7, [.int (nI 0), .ref (mo 1), .ref (mo 2), .int (nI (hC9 sm)), .ref (mo 3), .int (nI ln), .ref (mo 4), .int rm, .int fa, .ref (mo 5), .ref (mo 6), .int sp, .int wr, .long dd]))], cMs v mo fs', cMv v mo fv']) 0 0 := by
  refine mm_int (by decide) (Nat.le_of_ble_eq_true rfl) [(0, .ref (mo 0)), (1, .int (nI w)), (2, .int (nI u)), (3, .int (nI q))] rfl (fun k X E => ?_)
  have hn12 := hW.1
  refine g_iload_n X dX7_assume_0 2 rfl rfl ?_
  refine g_iconst (x := nI 0) X dX7_assume_1 (by decide +kernel) ?_
  refine g_bipush (x := nI 7) X dX7_assume_2 (by decide +kernel) ?_
  refine g_callS (As := [.int (nI u), .int (nI 0), .int (nI 7)]) (rest := []) (wr := [[((mo 0), .inr (7, [.int th, .ref (mo 1), .ref (mo 2), .int (nI sm), .ref (mo 3), .int (nI ln), .ref (mo 4), .int rm, .int fa, .ref (mo 5), .ref (mo 6), .int sp, .int wr, .long dd]))], cMs v mo fs, cMv v mo fv]) X (c_X7_in l v (nI u) (nI 0) (nI 7)) f_X7_in q_14_20 dX7_assume_4 [] [0, 1, 2] rfl rfl (by decide) rfl rfl (Nat.le_of_ble_eq_true rfl) (by decide) (fun r_ w_ hp1 => ?_)
  rw [inI_N (by omega) (by omega) (by omega)] at hp1
  obtain ⟨rfl, rfl⟩ := hp1
  show GG k _ _ [[((mo 0), .inr (7, [.int th, .ref (mo 1), .ref (mo 2), .int (nI sm), .ref (mo 3), .int (nI ln), .ref (mo 4), .int rm, .int fa, .ref (mo 5), .ref (mo 6), .int sp, .int wr, .long dd]))], cMs v mo fs, cMv v mo fv] _ _ [.int (bI (decide (0 ≤ u ∧ u ≤ 7)))]
  refine g_if_eqB (tgt := 24) X dX7_assume_7 (by decide) (fun c7 => ?_) (fun c7 => ?_)
  · exact (of_decide_eq_false c7 ⟨by omega, by omega⟩).elim
  · refine g_iload_n X dX7_assume_10 3 rfl rfl ?_
    refine g_iload_n X dX7_assume_11 2 rfl rfl ?_
    refine g_bipush (x := nI 7) X dX7_assume_12 (by decide +kernel) ?_
    refine g_callS (As := [.int (nI q), .int (nI u), .int (nI 7)]) (rest := []) (wr := [[((mo 0), .inr (7, [.int th, .ref (mo 1), .ref (mo 2), .int (nI sm), .ref (mo 3), .int (nI ln), .ref (mo 4), .int rm, .int fa, .ref (mo 5), .ref (mo 6), .int sp, .int wr, .long dd]))], cMs v mo fs, cMv v mo fv]) X (c_X7_in l v (nI q) (nI u) (nI 7)) f_X7_in q_14_20 dX7_assume_14 [] [0, 1, 2] rfl rfl (by decide) rfl rfl (Nat.le_of_ble_eq_true rfl) (by decide) (fun r_ w_ hp2 => ?_)
    rw [inI_N (by omega) (by omega) (by omega)] at hp2
    obtain ⟨rfl, rfl⟩ := hp2
    show GG k _ _ [[((mo 0), .inr (7, [.int th, .ref (mo 1), .ref (mo 2), .int (nI sm), .ref (mo 3), .int (nI ln), .ref (mo 4), .int rm, .int fa, .ref (mo 5), .ref (mo 6), .int sp, .int wr, .long dd]))], cMs v mo fs, cMv v mo fv] _ _ [.int (bI (decide (u ≤ q ∧ q ≤ 7)))]
    refine g_if_eqB (tgt := 24) X dX7_assume_17 (by decide) (fun c17 => ?_) (fun c17 => ?_)
    · exact (of_decide_eq_false c17 ⟨by omega, by omega⟩).elim
    · refine g_iconst (x := nI 1) X dX7_assume_20 (by decide +kernel) ?_
      refine g_goto (tgt := 25) X dX7_assume_21 (by decide) ?_
      refine g_istore (lv' := [(4, .int (nI 1)), (0, .ref (mo 0)), (1, .int (nI w)), (2, .int (nI u)), (3, .int (nI q))]) X dX7_assume_25 (by decide) rfl ?_
      refine g_aload_n X dX7_assume_27 1 rfl rfl ?_
      refine g_iload_n X dX7_assume_28 2 rfl rfl ?_
      refine g_iconst (x := nI 0) X dX7_assume_29 (by decide +kernel) ?_
      refine g_iconst (x := nI 2) X dX7_assume_30 (by decide +kernel) ?_
      refine g_callS (As := [.int (nI w), .int (nI 0), .int (nI 2)]) (rest := [.ref (mo 0)]) (wr := [[((mo 0), .inr (7, [.int th, .ref (mo 1), .ref (mo 2), .int (nI sm), .ref (mo 3), .int (nI ln), .ref (mo 4), .int rm, .int fa, .ref (mo 5), .ref (mo 6), .int sp, .int wr, .long dd]))], cMs v mo fs, cMv v mo fv]) X (c_X7_in l v (nI w) (nI 0) (nI 2)) f_X7_in q_14_20 dX7_assume_31 [] [0, 1, 2] rfl rfl (by decide) rfl rfl (Nat.le_of_ble_eq_true rfl) (by decide) (fun r_ w_ hp3 => ?_)
      rw [inI_N (by omega) (by omega) (by omega)] at hp3
      obtain ⟨rfl, rfl⟩ := hp3
      show GG k _ _ [[((mo 0), .inr (7, [.int th, .ref (mo 1), .ref (mo 2), .int (nI sm), .ref (mo 3), .int (nI ln), .ref (mo 4), .int rm, .int fa, .ref (mo 5), .ref (mo 6), .int sp, .int wr, .long dd]))], cMs v mo fs, cMv v mo fv] _ _ [.int (bI (decide (0 ≤ w ∧ w ≤ 2))), .ref (mo 0)]
      refine g_if_neB (tgt := 41) X dX7_assume_34 (by decide) (fun c34 => ?_) (fun c34 => ?_)
      · refine g_iload X dX7_assume_41 0 rfl ?_
        refine g_if_eqN (tgt := 50) X dX7_assume_43 (by decide) (by omega) (fun c43 => ?_) (fun c43 => ?_)
        · exact absurd c43 (by decide)
        · refine g_iconst (x := nI 0) X dX7_assume_46 (by decide +kernel) ?_
          refine g_goto (tgt := 51) X dX7_assume_47 (by decide) ?_
          refine g_callV (As := [.int (nI 0)]) (rest := []) (wr := [cMs v mo fs, cMv v mo fv]) X (c_X7_holds l v mo th sm ln rm fa sp wr dd 0 (by omega)) f_X7_holds q_15_19 dX7_assume_51 [0] [1, 2] rfl rfl (by decide) 0 rfl rfl rfl rfl (Nat.le_of_ble_eq_true rfl) (by decide) (fun r_ w_ hp4 => ?_)
          obtain ⟨rfl, rfl⟩ := hp4
          show GG k _ _ [[((mo 0), .inr (7, [.int (nI 0), .ref (mo 1), .ref (mo 2), .int (nI sm), .ref (mo 3), .int (nI ln), .ref (mo 4), .int rm, .int fa, .ref (mo 5), .ref (mo 6), .int sp, .int wr, .long dd]))], cMs v mo fs, cMv v mo fv] _ _ [.int (nI 1)]
          refine g_if_neN (tgt := 59) X dX7_assume_54 (by decide) (by omega) (fun c54 => ?_) (fun c54 => ?_)
          · refine g_aload_n X dX7_assume_59 1 rfl rfl ?_
            refine g_callV (As := []) (rest := []) (wr := []) X (c_X7_save l v mo (nI 0) sm ln rm fa sp wr dd P n lo hi fs fv H hW hS hL hH) f_X7_save q_16_0 dX7_assume_60 [0, 1, 2] [] rfl rfl (by decide) 0 rfl rfl rfl rfl (Nat.le_of_ble_eq_true rfl) (by decide) (fun r_ w_ hp6 => ?_)
            obtain ⟨sv5, sv5H, rfl⟩ := hp6
            show GG k _ _ [[((mo 0), .inr (7, [.int (nI 0), .ref (mo 1), .ref (mo 2), .int (nI (hC9 sm)), .ref (mo 3), .int (nI ln), .ref (mo 4), .int rm, .int fa, .ref (mo 5), .ref (mo 6), .int sp, .int wr, .long dd]))], cMs v mo fs, cMv v mo sv5] _ _ []
            refine g_aload_n X dX7_assume_63 1 rfl rfl ?_
            refine g_get X cb7 1 q_4_18 dX7_assume_64 0 0 rfl rfl (by decide) rfl rfl ?_
            refine g_bipush (x := nI 61) X dX7_assume_67 (by decide +kernel) ?_
            refine g_iconst (x := nI 2) X dX7_assume_69 (by decide +kernel) ?_
            refine g_iload_n X dX7_assume_70 2 rfl rfl ?_
            refine g_imulN X dX7_assume_71 ?_
            refine g_iaddN X dX7_assume_72 ?_
            refine g_iload_n X dX7_assume_73 3 rfl rfl ?_
            refine g_iast (cs' := [[((mo 0), .inr (7, [.int (nI 0), .ref (mo 1), .ref (mo 2), .int (nI (hC9 sm)), .ref (mo 3), .int (nI ln), .ref (mo 4), .int rm, .int fa, .ref (mo 5), .ref (mo 6), .int sp, .int wr, .long dd]))], [((mo 1), .inl (v.2.1 0, 67, .inl (upd fs (61 + (2 * w)) (nI u))))], cMv v mo sv5]) X dX7_assume_74 1 0 rfl rfl (by omega) (by omega) rfl ?_
            refine g_aload_n X dX7_assume_75 1 rfl rfl ?_
            refine g_get X cb7 1 q_4_18 dX7_assume_76 0 0 rfl rfl (by decide) rfl rfl ?_
            refine g_bipush (x := nI 61) X dX7_assume_79 (by decide +kernel) ?_
            refine g_iconst (x := nI 2) X dX7_assume_81 (by decide +kernel) ?_
            refine g_iload_n X dX7_assume_82 2 rfl rfl ?_
            refine g_imulN X dX7_assume_83 ?_
            refine g_iaddN X dX7_assume_84 ?_
            refine g_iconst (x := nI 1) X dX7_assume_85 (by decide +kernel) ?_
            refine g_iaddN X dX7_assume_86 ?_
            refine g_iload_n X dX7_assume_87 4 rfl rfl ?_
            refine g_iast (cs' := [[((mo 0), .inr (7, [.int (nI 0), .ref (mo 1), .ref (mo 2), .int (nI (hC9 sm)), .ref (mo 3), .int (nI ln), .ref (mo 4), .int rm, .int fa, .ref (mo 5), .ref (mo 6), .int sp, .int wr, .long dd]))], [((mo 1), .inl (v.2.1 0, 67, .inl (upd (upd fs (61 + (2 * w)) (nI u)) ((61 + (2 * w)) + 1) (nI q))))], cMv v mo sv5]) X dX7_assume_88 1 0 rfl rfl (by omega) (by omega) rfl ?_
            refine g_aload_n X dX7_assume_89 1 rfl rfl ?_
            refine g_callV (As := []) (rest := []) (wr := [cMv v mo sv5]) X (c_X7_assumed l v mo (nI 0) (hC9 sm) ln rm fa sp wr dd P n (hU9 lo w u) (hU9 hi w q) (upd (upd fs (61 + (2 * w)) (nI u)) ((61 + (2 * w)) + 1) (nI q)) hW (SR_up hn12 hw9 hS) (AsW_up hL hu hq)) f_X7_assumed q_26_10 dX7_assume_90 [0, 1] [2] rfl rfl (by decide) 0 rfl rfl rfl rfl (Nat.le_of_ble_eq_true rfl) (by decide) (fun r_ w_ hp7 => ?_)
            obtain ⟨rfl, rfl⟩ := hp7
            show GG k _ _ [[((mo 0), .inr (7, [.int (nI 0), .ref (mo 1), .ref (mo 2), .int (nI (hC9 sm)), .ref (mo 3), .int (nI ln), .ref (mo 4), .int rm, .int fa, .ref (mo 5), .ref (mo 6), .int sp, .int wr, .long dd]))], [((mo 1), .inl (v.2.1 0, 67, .inl (upd (upd fs (61 + (2 * w)) (nI u)) ((61 + (2 * w)) + 1) (nI q))))], cMv v mo sv5] _ _ [.int (nI (cnt9 (hU9 lo w u) (hU9 hi w q) 3))]
            exact E dX7_assume_93 rfl (rfl) (by decide) (by decide) (⟨_, _, rfl, SR_up hn12 hw9 hS, sv5H, rfl⟩)
          · exact absurd c54 (by decide)
      · exact (of_decide_eq_false c34 ⟨by omega, by omega⟩).elim

