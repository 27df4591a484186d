/-! ## the model: removeLast, steps -/
theorem dr9_a {P : Nat → S9} {n i : Nat} (h : ¬ ((P i).1 = 2 ∧ (n : Int) < (P i).2.2.2.2)) : dr9 P n i = P i := if_neg h
theorem dr9_b {P : Nat → S9} {n i : Nat} (h : (P i).1 = 2 ∧ (n : Int) < (P i).2.2.2.2) : (dr9 P n i).2.2.2.2 = (n : Int) := by unfold dr9; rw [if_pos h]
theorem dr9_sg {P : Nat → S9} {n i : Nat} : sg9 (dr9 P n i) = sg9 (P i) := by
  obtain ⟨h0, _, h2, _⟩ := dr9_eq (P := P) (n := n) i
  unfold sg9
  rw [h0, h2]
theorem SR_dr {P : Nat → S9} {n : Nat} {lo hi : Nat → Nat} {fs f' : Nat → Int32} (hS : SR P n lo hi fs) (hn : n ≤ 12) (e0 : f' 0 = nI (n - 1)) (e1 : ∀ i', i' < n - 1 → f' (1 + 5 * i' + 4) = zI (dr9 P (n - 1) i').2.2.2.2) (e2 : ∀ m, (∀ i', i' < n - 1 → m ≠ 1 + 5 * i' + 4) → m ≠ 0 → f' m = fs m) : SR (dr9 P (n - 1)) (n - 1) lo hi f' := by
  refine ⟨e0, fun i hi9 => ?_, fun w hw => ?_⟩
  · have h := hS.2.1 i (by omega)
    obtain ⟨q0, q1, q2, q3, q4⟩ := dr9_eq (P := P) (n := n - 1) i
    rw [q0, q1, dr9_sg, q3, e2 _ (fun _ _ => by omega) (by omega), e2 (1 + 5 * i + 1) (fun _ _ => by omega) (by omega), e2 (1 + 5 * i + 2) (fun _ _ => by omega) (by omega), e2 (1 + 5 * i + 3) (fun _ _ => by omega) (by omega)]
    exact ⟨h.1, h.2.1, h.2.2.1, h.2.2.2.1, e1 i hi9⟩
  · rw [e2 _ (fun _ _ => by omega) (by omega), e2 (61 + 2 * w + 1) (fun _ _ => by omega) (by omega)]
    exact hS.2.2 w hw

set_option maxHeartbeats 4000000 in
set_option maxRecDepth 100000 in
theorem c_X7_removeLast (l : Launch) (v : VV) (mo : Nat → Nat) (th : Int32) (sm : Nat) (ln : Nat) (rm : Int32) (fa : Int32) (sp : Int32) (wr : Int32) (dd : Int64) (P : Nat → S9) (n : Nat) (lo : Nat → Nat) (hi : Nat → Nat) (fs : Nat → Int32) (fv : Nat → Int32) (H : Nat → HE9) (hW : WF P n) (hS : SR P n lo hi fs) (hL : AsW lo hi) (hH : HMR H sm fv) (hn : 0 < n) : MI l v yX7_removeLast cX7_removeLast 3 (some .int) ({ frames := 1, cells := 0, slots := 0, locals := 21 }) [.ref (mo 0)] [[((mo 0), .inr (7, [.int th, .ref (mo 1), .ref (mo 2), .int (nI sm), .ref (mo 3), .int (nI ln), .ref (mo 4), .int rm, .int fa, .ref (mo 5), .ref (mo 6), .int sp, .int wr, .long dd]))], cMs v mo fs, cMv v mo fv] (fun r w_ => ∃ fs' fv', r = nI (n - 1) ∧ SR (dr9 P (n - 1)) (n - 1) lo hi fs' ∧ HMR (hS9 H sm (P, n, lo, hi)) (hC9 sm) fv' ∧ w_ = [[((mo 0), .inr (7, [.int (nI 0), .ref (mo 1), .ref (mo 2), .int (nI (hC9 sm)), .ref (mo 3), .int (nI ln), .ref (mo 4), .int rm, .int fa, .ref (mo 5), .ref (mo 6), .int sp, .int wr, .long dd]))], cMs v mo fs', cMv v mo fv']) 0 0 := by
  refine mm_int (by decide) (Nat.le_of_ble_eq_true rfl) [(0, .ref (mo 0))] rfl (fun k X E => ?_)
  have hn12 := hW.1
  refine g_aload_n X dX7_removeLast_0 0 rfl rfl ?_
  refine g_aload_n X dX7_removeLast_1 0 rfl rfl ?_
  refine g_get X cb7 1 q_4_18 dX7_removeLast_2 0 0 rfl rfl (by decide) rfl rfl ?_
  refine g_iconst (x := nI 0) X dX7_removeLast_5 (by decide +kernel) ?_
  refine g_iald X dX7_removeLast_6 1 0 rfl rfl (by omega) (by omega) ?_
  refine g_v (y := nI n) (hS.1) ?_
  refine g_if_leN (tgt := 14) X dX7_removeLast_7 (by decide) (by omega) (fun c7 => ?_) (fun c7 => ?_)
  · omega
  · refine g_iconst (x := nI 0) X dX7_removeLast_10 (by decide +kernel) ?_
    refine g_goto (tgt := 15) X dX7_removeLast_11 (by decide) ?_
    refine g_callV (As := [.int (nI 0)]) (rest := []) (wr := [cMs v mo fs, cMv v mo fv]) X (c_X7_holds l v mo th sm ln rm fa sp wr dd 0 (by omega)) f_X7_holds q_15_19 dX7_removeLast_15 [0] [1, 2] rfl rfl (by decide) 0 rfl rfl rfl rfl (Nat.le_of_ble_eq_true rfl) (by decide) (fun r_ w_ hp1 => ?_)
    obtain ⟨rfl, rfl⟩ := hp1
    show GG k _ _ [[((mo 0), .inr (7, [.int (nI 0), .ref (mo 1), .ref (mo 2), .int (nI sm), .ref (mo 3), .int (nI ln), .ref (mo 4), .int rm, .int fa, .ref (mo 5), .ref (mo 6), .int sp, .int wr, .long dd]))], cMs v mo fs, cMv v mo fv] _ _ [.int (nI 1)]
    refine g_if_neN (tgt := 23) X dX7_removeLast_18 (by decide) (by omega) (fun c18 => ?_) (fun c18 => ?_)
    · refine g_aload_n X dX7_removeLast_23 0 rfl rfl ?_
      refine g_callV (As := []) (rest := []) (wr := []) X (c_X7_save l v mo (nI 0) sm ln rm fa sp wr dd P n lo hi fs fv H hW hS hL hH) f_X7_save q_16_0 dX7_removeLast_24 [0, 1, 2] [] rfl rfl (by decide) 0 rfl rfl rfl rfl (Nat.le_of_ble_eq_true rfl) (by decide) (fun r_ w_ hp3 => ?_)
      obtain ⟨sv2, sv2H, rfl⟩ := hp3
      show GG k _ _ [[((mo 0), .inr (7, [.int (nI 0), .ref (mo 1), .ref (mo 2), .int (nI (hC9 sm)), .ref (mo 3), .int (nI ln), .ref (mo 4), .int rm, .int fa, .ref (mo 5), .ref (mo 6), .int sp, .int wr, .long dd]))], cMs v mo fs, cMv v mo sv2] _ _ []
      refine g_aload_n X dX7_removeLast_27 0 rfl rfl ?_
      refine g_get X cb7 1 q_4_18 dX7_removeLast_28 0 0 rfl rfl (by decide) rfl rfl ?_
      refine g_iconst (x := nI 0) X dX7_removeLast_31 (by decide +kernel) ?_
      refine g_dup2 X dX7_removeLast_32 rfl rfl ?_
      refine g_iald X dX7_removeLast_33 1 0 rfl rfl (by omega) (by omega) ?_
      refine g_v (y := nI n) (hS.1) ?_
      refine g_iconst (x := nI 1) X dX7_removeLast_34 (by decide +kernel) ?_
      refine g_isubN X dX7_removeLast_35 (by omega) ?_
      refine g_iast (cs' := [[((mo 0), .inr (7, [.int (nI 0), .ref (mo 1), .ref (mo 2), .int (nI (hC9 sm)), .ref (mo 3), .int (nI ln), .ref (mo 4), .int rm, .int fa, .ref (mo 5), .ref (mo 6), .int sp, .int wr, .long dd]))], [((mo 1), .inl (v.2.1 0, 67, .inl (upd fs 0 (nI (n - 1)))))], cMv v mo sv2]) X dX7_removeLast_36 1 0 rfl rfl (by omega) (by omega) rfl ?_
      refine g_iconst (x := nI 0) X dX7_removeLast_37 (by decide +kernel) ?_
      refine g_istore_n (lv' := [(1, .int (nI 0)), (0, .ref (mo 0))]) X dX7_removeLast_38 rfl (by decide) rfl ?_
      have lp39 : ∀ (zN : Nat) (i : Nat) (f' : Nat → Int32) (hi9 : i ≤ n - 1) (e0 : f' 0 = nI (n - 1)) (e1 : ∀ i', i' < i → f' (1 + 5 * i' + 4) = zI (dr9 P (n - 1) i').2.2.2.2) (e2 : ∀ m, (∀ i', i' < i → m ≠ 1 + 5 * i' + 4) → m ≠ 0 → f' m = fs m) (zM : zN = n - i), GG k 0 0 [[((mo 0), .inr (7, [.int (nI 0), .ref (mo 1), .ref (mo 2), .int (nI (hC9 sm)), .ref (mo 3), .int (nI ln), .ref (mo 4), .int rm, .int fa, .ref (mo 5), .ref (mo 6), .int sp, .int wr, .long dd]))], cMs v mo f', cMv v mo sv2] [(1, .int (nI i)), (0, .ref (mo 0))] 39 [] := by
        intro zN
        induction zN using Nat.strongRecOn with
        | _ zN zih =>
          have ih39 := zih
          clear zih
          intro i f' hi9 e0 e1 e2 zM
          refine g_iload_n X dX7_removeLast_39 0 rfl rfl ?_
          refine g_aload_n X dX7_removeLast_40 1 rfl rfl ?_
          refine g_get X cb7 1 q_4_18 dX7_removeLast_41 0 0 rfl rfl (by decide) rfl rfl ?_
          refine g_iconst (x := nI 0) X dX7_removeLast_44 (by decide +kernel) ?_
          refine g_iald X dX7_removeLast_45 1 0 rfl rfl (by omega) (by omega) ?_
          refine g_v (y := nI (n - 1)) (e0) ?_
          refine g_icmp_geN (tgt := 127) X dX7_removeLast_46 (by decide) (by omega) (by omega) (fun c46 => ?_) (fun c46 => ?_)
          · refine g_aload_n X dX7_removeLast_127 1 rfl rfl ?_
            refine g_get X cb7 1 q_4_18 dX7_removeLast_128 0 0 rfl rfl (by decide) rfl rfl ?_
            refine g_iconst (x := nI 0) X dX7_removeLast_131 (by decide +kernel) ?_
            refine g_iald X dX7_removeLast_132 1 0 rfl rfl (by omega) (by omega) ?_
            refine g_v (y := nI (n - 1)) (e0) ?_
            exact E dX7_removeLast_133 rfl (rfl) (by decide) (by decide) (⟨_, _, rfl, SR_dr hS hn12 e0 (fun i' h => e1 i' (by omega)) (fun m hm => e2 m (fun i' h => hm i' (by omega))), sv2H, rfl⟩)
          · refine g_aload_n X dX7_removeLast_49 1 rfl rfl ?_
            refine g_get X cb7 1 q_4_18 dX7_removeLast_50 0 0 rfl rfl (by decide) rfl rfl ?_
            refine g_iload_n X dX7_removeLast_53 0 rfl rfl ?_
            refine g_iconst (x := nI 0) X dX7_removeLast_54 (by decide +kernel) ?_
            refine g_callS (As := [.int (nI i), .int (nI 0)]) (rest := [.ref (mo 1)]) (wr := [[((mo 0), .inr (7, [.int (nI 0), .ref (mo 1), .ref (mo 2), .int (nI (hC9 sm)), .ref (mo 3), .int (nI ln), .ref (mo 4), .int rm, .int fa, .ref (mo 5), .ref (mo 6), .int sp, .int wr, .long dd]))], cMs v mo f', cMv v mo sv2]) X (c_X7_of l v i 0) f_X7_of q_17_23 dX7_removeLast_55 [] [0, 1, 2] rfl rfl (by decide) rfl rfl (Nat.le_of_ble_eq_true rfl) (by decide) (fun r_ w_ hp4 => ?_)
            obtain ⟨rfl, rfl⟩ := hp4
            show GG k _ _ [[((mo 0), .inr (7, [.int (nI 0), .ref (mo 1), .ref (mo 2), .int (nI (hC9 sm)), .ref (mo 3), .int (nI ln), .ref (mo 4), .int rm, .int fa, .ref (mo 5), .ref (mo 6), .int sp, .int wr, .long dd]))], cMs v mo f', cMv v mo sv2] _ _ [.int (nI (1 + 5 * i + 0)), .ref (mo 1)]
            refine g_iald X dX7_removeLast_58 1 0 rfl rfl (by omega) (by omega) ?_
            have hk3 := (hW.2 i (by omega)).1
            refine g_v (y := nI ((P i).1)) ((e2 _ (fun j h z => by omega) (by omega)).trans (hS.2.1 i (by omega)).1) ?_
            refine g_iconst (x := nI 2) X dX7_removeLast_59 (by decide +kernel) ?_
            refine g_icmp_neN (tgt := 86) X dX7_removeLast_60 (by decide) (by omega) (by omega) (fun c60 => ?_) (fun c60 => ?_)
            · refine g_iconst (x := nI 0) X dX7_removeLast_86 (by decide +kernel) ?_
              refine g_istore_n (lv' := [(2, .int (nI 0)), (1, .int (nI i)), (0, .ref (mo 0))]) X dX7_removeLast_87 rfl (by decide) rfl ?_
              refine g_aload_n X dX7_removeLast_88 2 rfl rfl ?_
              refine g_get X cb7 1 q_4_18 dX7_removeLast_89 0 0 rfl rfl (by decide) rfl rfl ?_
              refine g_iload_n X dX7_removeLast_92 1 rfl rfl ?_
              refine g_iconst (x := nI 4) X dX7_removeLast_93 (by decide +kernel) ?_
              refine g_callS (As := [.int (nI i), .int (nI 4)]) (rest := [.ref (mo 1)]) (wr := [[((mo 0), .inr (7, [.int (nI 0), .ref (mo 1), .ref (mo 2), .int (nI (hC9 sm)), .ref (mo 3), .int (nI ln), .ref (mo 4), .int rm, .int fa, .ref (mo 5), .ref (mo 6), .int sp, .int wr, .long dd]))], cMs v mo f', cMv v mo sv2]) X (c_X7_of l v i 4) f_X7_of q_17_23 dX7_removeLast_94 [] [0, 1, 2] rfl rfl (by decide) rfl rfl (Nat.le_of_ble_eq_true rfl) (by decide) (fun r_ w_ hp5 => ?_)
              obtain ⟨rfl, rfl⟩ := hp5
              show GG k _ _ [[((mo 0), .inr (7, [.int (nI 0), .ref (mo 1), .ref (mo 2), .int (nI (hC9 sm)), .ref (mo 3), .int (nI ln), .ref (mo 4), .int rm, .int fa, .ref (mo 5), .ref (mo 6), .int sp, .int wr, .long dd]))], cMs v mo f', cMv v mo sv2] _ _ [.int (nI (1 + 5 * i + 4)), .ref (mo 1)]
              refine g_iload_n X dX7_removeLast_97 0 rfl rfl ?_
              refine g_if_eqN (tgt := 110) X dX7_removeLast_98 (by decide) (by omega) (fun c98 => ?_) (fun c98 => ?_)
              · refine g_aload_n X dX7_removeLast_110 2 rfl rfl ?_
                refine g_get X cb7 1 q_4_18 dX7_removeLast_111 0 0 rfl rfl (by decide) rfl rfl ?_
                refine g_iload_n X dX7_removeLast_114 1 rfl rfl ?_
                refine g_iconst (x := nI 4) X dX7_removeLast_115 (by decide +kernel) ?_
                refine g_callS (As := [.int (nI i), .int (nI 4)]) (rest := [.ref (mo 1), .int (nI (1 + 5 * i + 4)), .ref (mo 1)]) (wr := [[((mo 0), .inr (7, [.int (nI 0), .ref (mo 1), .ref (mo 2), .int (nI (hC9 sm)), .ref (mo 3), .int (nI ln), .ref (mo 4), .int rm, .int fa, .ref (mo 5), .ref (mo 6), .int sp, .int wr, .long dd]))], cMs v mo f', cMv v mo sv2]) X (c_X7_of l v i 4) f_X7_of q_17_23 dX7_removeLast_116 [] [0, 1, 2] rfl rfl (by decide) rfl rfl (Nat.le_of_ble_eq_true rfl) (by decide) (fun r_ w_ hp6 => ?_)
                obtain ⟨rfl, rfl⟩ := hp6
                show GG k _ _ [[((mo 0), .inr (7, [.int (nI 0), .ref (mo 1), .ref (mo 2), .int (nI (hC9 sm)), .ref (mo 3), .int (nI ln), .ref (mo 4), .int rm, .int fa, .ref (mo 5), .ref (mo 6), .int sp, .int wr, .long dd]))], cMs v mo f', cMv v mo sv2] _ _ [.int (nI (1 + 5 * i + 4)), .ref (mo 1), .int (nI (1 + 5 * i + 4)), .ref (mo 1)]
                refine g_iald X dX7_removeLast_119 1 0 rfl rfl (by omega) (by omega) ?_
                refine g_v (y := zI ((P i).2.2.2.2)) ((e2 _ (fun j h z => by omega) (by omega)).trans (hS.2.1 i (by omega)).2.2.2.2) ?_
                refine g_iast (cs' := [[((mo 0), .inr (7, [.int (nI 0), .ref (mo 1), .ref (mo 2), .int (nI (hC9 sm)), .ref (mo 3), .int (nI ln), .ref (mo 4), .int rm, .int fa, .ref (mo 5), .ref (mo 6), .int sp, .int wr, .long dd]))], [((mo 1), .inl (v.2.1 0, 67, .inl (upd f' (1 + 5 * i + 4) (zI ((P i).2.2.2.2)))))], cMv v mo sv2]) X dX7_removeLast_120 1 0 rfl rfl (by omega) (by omega) rfl ?_
                refine g_iinc (y := nI (i + 1)) (lv' := [(1, .int (nI (i + 1))), (2, .int (nI 0)), (0, .ref (mo 0))]) (j := 1) X dX7_removeLast_121 rfl (nI_add i 1) (by decide) rfl ?_
                refine g_goto (tgt := 39) X dX7_removeLast_124 (by decide) ?_
                refine g_lv (lv' := [(1, .int (nI (i + 1))), (0, .ref (mo 0))]) [0, 2] rfl ?_
                exact ih39 _ (by omega) (i + 1) (upd f' (1 + 5 * i + 4) (zI ((P i).2.2.2.2))) (by omega) ((pk_un (by omega)).trans e0) (fun i' h => by by_cases z : i' = i; rw [z, dr9_a (fun w => c60 w.1)]; exact pk_us; exact (pk_un (by omega)).trans (e1 i' (by omega))) (fun m hm hm0 => (pk_un (hm i (by omega))).trans (e2 m (fun i' h => hm i' (by omega)) hm0)) rfl
              · exact absurd rfl c98
            · refine g_aload_n X dX7_removeLast_63 1 rfl rfl ?_
              refine g_get X cb7 1 q_4_18 dX7_removeLast_64 0 0 rfl rfl (by decide) rfl rfl ?_
              refine g_iload_n X dX7_removeLast_67 0 rfl rfl ?_
              refine g_iconst (x := nI 4) X dX7_removeLast_68 (by decide +kernel) ?_
              refine g_callS (As := [.int (nI i), .int (nI 4)]) (rest := [.ref (mo 1)]) (wr := [[((mo 0), .inr (7, [.int (nI 0), .ref (mo 1), .ref (mo 2), .int (nI (hC9 sm)), .ref (mo 3), .int (nI ln), .ref (mo 4), .int rm, .int fa, .ref (mo 5), .ref (mo 6), .int sp, .int wr, .long dd]))], cMs v mo f', cMv v mo sv2]) X (c_X7_of l v i 4) f_X7_of q_17_23 dX7_removeLast_69 [] [0, 1, 2] rfl rfl (by decide) rfl rfl (Nat.le_of_ble_eq_true rfl) (by decide) (fun r_ w_ hp7 => ?_)
              obtain ⟨rfl, rfl⟩ := hp7
              show GG k _ _ [[((mo 0), .inr (7, [.int (nI 0), .ref (mo 1), .ref (mo 2), .int (nI (hC9 sm)), .ref (mo 3), .int (nI ln), .ref (mo 4), .int rm, .int fa, .ref (mo 5), .ref (mo 6), .int sp, .int wr, .long dd]))], cMs v mo f', cMv v mo sv2] _ _ [.int (nI (1 + 5 * i + 4)), .ref (mo 1)]
              refine g_iald X dX7_removeLast_72 1 0 rfl rfl (by omega) (by omega) ?_
              have hnm := (hW.2 i (by omega)).2.2.2.2.2.2 c60
              refine g_v (y := zI ((P i).2.2.2.2)) ((e2 _ (fun j h z => by omega) (by omega)).trans (hS.2.1 i (by omega)).2.2.2.2) ?_
              refine g_aload_n X dX7_removeLast_73 1 rfl rfl ?_
              refine g_get X cb7 1 q_4_18 dX7_removeLast_74 0 0 rfl rfl (by decide) rfl rfl ?_
              refine g_iconst (x := nI 0) X dX7_removeLast_77 (by decide +kernel) ?_
              refine g_iald X dX7_removeLast_78 1 0 rfl rfl (by omega) (by omega) ?_
              refine g_v (y := nI (n - 1)) (e0) ?_
              refine g_icmp_le (tgt := 86) X dX7_removeLast_79 (by decide) (fun c79 => ?_) (fun c79 => ?_)
              · rw [zI_nI (n - 1), zI_le (by omega) (by omega) (by omega) (by omega)] at c79
                refine g_iconst (x := nI 0) X dX7_removeLast_86 (by decide +kernel) ?_
                refine g_istore_n (lv' := [(2, .int (nI 0)), (1, .int (nI i)), (0, .ref (mo 0))]) X dX7_removeLast_87 rfl (by decide) rfl ?_
                refine g_aload_n X dX7_removeLast_88 2 rfl rfl ?_
                refine g_get X cb7 1 q_4_18 dX7_removeLast_89 0 0 rfl rfl (by decide) rfl rfl ?_
                refine g_iload_n X dX7_removeLast_92 1 rfl rfl ?_
                refine g_iconst (x := nI 4) X dX7_removeLast_93 (by decide +kernel) ?_
                refine g_callS (As := [.int (nI i), .int (nI 4)]) (rest := [.ref (mo 1)]) (wr := [[((mo 0), .inr (7, [.int (nI 0), .ref (mo 1), .ref (mo 2), .int (nI (hC9 sm)), .ref (mo 3), .int (nI ln), .ref (mo 4), .int rm, .int fa, .ref (mo 5), .ref (mo 6), .int sp, .int wr, .long dd]))], cMs v mo f', cMv v mo sv2]) X (c_X7_of l v i 4) f_X7_of q_17_23 dX7_removeLast_94 [] [0, 1, 2] rfl rfl (by decide) rfl rfl (Nat.le_of_ble_eq_true rfl) (by decide) (fun r_ w_ hp8 => ?_)
                obtain ⟨rfl, rfl⟩ := hp8
                show GG k _ _ [[((mo 0), .inr (7, [.int (nI 0), .ref (mo 1), .ref (mo 2), .int (nI (hC9 sm)), .ref (mo 3), .int (nI ln), .ref (mo 4), .int rm, .int fa, .ref (mo 5), .ref (mo 6), .int sp, .int wr, .long dd]))], cMs v mo f', cMv v mo sv2] _ _ [.int (nI (1 + 5 * i + 4)), .ref (mo 1)]
                refine g_iload_n X dX7_removeLast_97 0 rfl rfl ?_
                refine g_if_eqN (tgt := 110) X dX7_removeLast_98 (by decide) (by omega) (fun c98 => ?_) (fun c98 => ?_)
                · refine g_aload_n X dX7_removeLast_110 2 rfl rfl ?_
                  refine g_get X cb7 1 q_4_18 dX7_removeLast_111 0 0 rfl rfl (by decide) rfl rfl ?_
                  refine g_iload_n X dX7_removeLast_114 1 rfl rfl ?_
                  refine g_iconst (x := nI 4) X dX7_removeLast_115 (by decide +kernel) ?_
                  refine g_callS (As := [.int (nI i), .int (nI 4)]) (rest := [.ref (mo 1), .int (nI (1 + 5 * i + 4)), .ref (mo 1)]) (wr := [[((mo 0), .inr (7, [.int (nI 0), .ref (mo 1), .ref (mo 2), .int (nI (hC9 sm)), .ref (mo 3), .int (nI ln), .ref (mo 4), .int rm, .int fa, .ref (mo 5), .ref (mo 6), .int sp, .int wr, .long dd]))], cMs v mo f', cMv v mo sv2]) X (c_X7_of l v i 4) f_X7_of q_17_23 dX7_removeLast_116 [] [0, 1, 2] rfl rfl (by decide) rfl rfl (Nat.le_of_ble_eq_true rfl) (by decide) (fun r_ w_ hp9 => ?_)
                  obtain ⟨rfl, rfl⟩ := hp9
                  show GG k _ _ [[((mo 0), .inr (7, [.int (nI 0), .ref (mo 1), .ref (mo 2), .int (nI (hC9 sm)), .ref (mo 3), .int (nI ln), .ref (mo 4), .int rm, .int fa, .ref (mo 5), .ref (mo 6), .int sp, .int wr, .long dd]))], cMs v mo f', cMv v mo sv2] _ _ [.int (nI (1 + 5 * i + 4)), .ref (mo 1), .int (nI (1 + 5 * i + 4)), .ref (mo 1)]
                  refine g_iald X dX7_removeLast_119 1 0 rfl rfl (by omega) (by omega) ?_
                  refine g_v (y := zI ((P i).2.2.2.2)) ((e2 _ (fun j h z => by omega) (by omega)).trans (hS.2.1 i (by omega)).2.2.2.2) ?_
                  refine g_iast (cs' := [[((mo 0), .inr (7, [.int (nI 0), .ref (mo 1), .ref (mo 2), .int (nI (hC9 sm)), .ref (mo 3), .int (nI ln), .ref (mo 4), .int rm, .int fa, .ref (mo 5), .ref (mo 6), .int sp, .int wr, .long dd]))], [((mo 1), .inl (v.2.1 0, 67, .inl (upd f' (1 + 5 * i + 4) (zI ((P i).2.2.2.2)))))], cMv v mo sv2]) X dX7_removeLast_120 1 0 rfl rfl (by omega) (by omega) rfl ?_
                  refine g_iinc (y := nI (i + 1)) (lv' := [(1, .int (nI (i + 1))), (2, .int (nI 0)), (0, .ref (mo 0))]) (j := 1) X dX7_removeLast_121 rfl (nI_add i 1) (by decide) rfl ?_
                  refine g_goto (tgt := 39) X dX7_removeLast_124 (by decide) ?_
                  refine g_lv (lv' := [(1, .int (nI (i + 1))), (0, .ref (mo 0))]) [0, 2] rfl ?_
                  exact ih39 _ (by omega) (i + 1) (upd f' (1 + 5 * i + 4) (zI ((P i).2.2.2.2))) (by omega) ((pk_un (by omega)).trans e0) (fun i' h => by by_cases z : i' = i; rw [z, dr9_a (fun w => by have := w.2; omega)]; exact pk_us; exact (pk_un (by omega)).trans (e1 i' (by omega))) (fun m hm hm0 => (pk_un (hm i (by omega))).trans (e2 m (fun i' h => hm i' (by omega)) hm0)) rfl
                · exact absurd rfl c98
              · rw [zI_nI (n - 1), zI_le (by omega) (by omega) (by omega) (by omega)] at c79
                refine g_iconst (x := nI 1) X dX7_removeLast_82 (by decide +kernel) ?_
                refine g_goto (tgt := 87) X dX7_removeLast_83 (by decide) ?_
                refine g_istore_n (lv' := [(2, .int (nI 1)), (1, .int (nI i)), (0, .ref (mo 0))]) X dX7_removeLast_87 rfl (by decide) rfl ?_
                refine g_aload_n X dX7_removeLast_88 2 rfl rfl ?_
                refine g_get X cb7 1 q_4_18 dX7_removeLast_89 0 0 rfl rfl (by decide) rfl rfl ?_
                refine g_iload_n X dX7_removeLast_92 1 rfl rfl ?_
                refine g_iconst (x := nI 4) X dX7_removeLast_93 (by decide +kernel) ?_
                refine g_callS (As := [.int (nI i), .int (nI 4)]) (rest := [.ref (mo 1)]) (wr := [[((mo 0), .inr (7, [.int (nI 0), .ref (mo 1), .ref (mo 2), .int (nI (hC9 sm)), .ref (mo 3), .int (nI ln), .ref (mo 4), .int rm, .int fa, .ref (mo 5), .ref (mo 6), .int sp, .int wr, .long dd]))], cMs v mo f', cMv v mo sv2]) X (c_X7_of l v i 4) f_X7_of q_17_23 dX7_removeLast_94 [] [0, 1, 2] rfl rfl (by decide) rfl rfl (Nat.le_of_ble_eq_true rfl) (by decide) (fun r_ w_ hp10 => ?_)
                obtain ⟨rfl, rfl⟩ := hp10
                show GG k _ _ [[((mo 0), .inr (7, [.int (nI 0), .ref (mo 1), .ref (mo 2), .int (nI (hC9 sm)), .ref (mo 3), .int (nI ln), .ref (mo 4), .int rm, .int fa, .ref (mo 5), .ref (mo 6), .int sp, .int wr, .long dd]))], cMs v mo f', cMv v mo sv2] _ _ [.int (nI (1 + 5 * i + 4)), .ref (mo 1)]
                refine g_iload_n X dX7_removeLast_97 0 rfl rfl ?_
                refine g_if_eqN (tgt := 110) X dX7_removeLast_98 (by decide) (by omega) (fun c98 => ?_) (fun c98 => ?_)
                · exact absurd c98 (by decide)
                · refine g_aload_n X dX7_removeLast_101 2 rfl rfl ?_
                  refine g_get X cb7 1 q_4_18 dX7_removeLast_102 0 0 rfl rfl (by decide) rfl rfl ?_
                  refine g_iconst (x := nI 0) X dX7_removeLast_105 (by decide +kernel) ?_
                  refine g_iald X dX7_removeLast_106 1 0 rfl rfl (by omega) (by omega) ?_
                  refine g_v (y := nI (n - 1)) (e0) ?_
                  refine g_goto (tgt := 120) X dX7_removeLast_107 (by decide) ?_
                  refine g_iast (cs' := [[((mo 0), .inr (7, [.int (nI 0), .ref (mo 1), .ref (mo 2), .int (nI (hC9 sm)), .ref (mo 3), .int (nI ln), .ref (mo 4), .int rm, .int fa, .ref (mo 5), .ref (mo 6), .int sp, .int wr, .long dd]))], [((mo 1), .inl (v.2.1 0, 67, .inl (upd f' (1 + 5 * i + 4) (nI (n - 1)))))], cMv v mo sv2]) X dX7_removeLast_120 1 0 rfl rfl (by omega) (by omega) rfl ?_
                  refine g_iinc (y := nI (i + 1)) (lv' := [(1, .int (nI (i + 1))), (2, .int (nI 1)), (0, .ref (mo 0))]) (j := 1) X dX7_removeLast_121 rfl (nI_add i 1) (by decide) rfl ?_
                  refine g_goto (tgt := 39) X dX7_removeLast_124 (by decide) ?_
                  refine g_lv (lv' := [(1, .int (nI (i + 1))), (0, .ref (mo 0))]) [0, 2] rfl ?_
                  exact ih39 _ (by omega) (i + 1) (upd f' (1 + 5 * i + 4) (nI (n - 1))) (by omega) ((pk_un (by omega)).trans e0) (fun i' h => by by_cases z : i' = i; rw [z, dr9_b ⟨c60, by omega⟩, ← zI_nI]; exact pk_us; exact (pk_un (by omega)).trans (e1 i' (by omega))) (fun m hm hm0 => (pk_un (hm i (by omega))).trans (e2 m (fun i' h => hm i' (by omega)) hm0)) rfl
      exact lp39 _ 0 (upd fs 0 (nI (n - 1))) (Nat.zero_le _) pk_us (fun i' h => absurd h (Nat.not_lt_zero _)) (fun m _ h => pk_un h) rfl
    · exact absurd c18 (by decide)

set_option maxHeartbeats 4000000 in
set_option maxRecDepth 100000 in
theorem b_X7_removeLast (l : Launch) (v : VV) (mo : Nat → Nat) (th : Int32) (sm : Nat) (ln : Nat) (rm : Int32) (fa : Int32) (sp : Int32) (wr : Int32) (dd : Int64) (P : Nat → S9) (lo : Nat → Nat) (hi : Nat → Nat) (fs : Nat → Int32) (hS : SR P 0 lo hi fs) : MI l v yX7_removeLast cX7_removeLast 3 (some .int) ({ frames := 1, cells := 0, slots := 0, locals := 21 }) [.ref (mo 0)] [[((mo 0), .inr (7, [.int th, .ref (mo 1), .ref (mo 2), .int (nI sm), .ref (mo 3), .int (nI ln), .ref (mo 4), .int rm, .int fa, .ref (mo 5), .ref (mo 6), .int sp, .int wr, .long dd]))], cMs v mo fs] (fun r w_ => r = nI 0 ∧ w_ = [[((mo 0), .inr (7, [.int (nI 1), .ref (mo 1), .ref (mo 2), .int (nI sm), .ref (mo 3), .int (nI ln), .ref (mo 4), .int rm, .int fa, .ref (mo 5), .ref (mo 6), .int sp, .int wr, .long dd]))], cMs v mo fs]) 0 0 := by
  refine mm_int (by decide) (Nat.le_of_ble_eq_true rfl) [(0, .ref (mo 0))] rfl (fun k X E => ?_)
  refine g_aload_n X dX7_removeLast_0 0 rfl rfl ?_
  refine g_aload_n X dX7_removeLast_1 0 rfl rfl ?_
  refine g_get X cb7 1 q_4_18 dX7_removeLast_2 0 0 rfl rfl (by decide) rfl rfl ?_
  refine g_iconst (x := nI 0) X dX7_removeLast_5 (by decide +kernel) ?_
  refine g_iald X dX7_removeLast_6 1 0 rfl rfl (by omega) (by omega) ?_
  refine g_v (y := nI 0) (hS.1) ?_
  refine g_if_leN (tgt := 14) X dX7_removeLast_7 (by decide) (by omega) (fun c7 => ?_) (fun c7 => ?_)
  · refine g_iconst (x := nI 1) X dX7_removeLast_14 (by decide +kernel) ?_
    refine g_callV (As := [.int (nI 1)]) (rest := []) (wr := [cMs v mo fs]) X (c_X7_holds l v mo th sm ln rm fa sp wr dd 1 (by omega)) f_X7_holds q_15_19 dX7_removeLast_15 [0] [1] rfl rfl (by decide) 0 rfl rfl rfl rfl (Nat.le_of_ble_eq_true rfl) (by decide) (fun r_ w_ hp1 => ?_)
    obtain ⟨rfl, rfl⟩ := hp1
    show GG k _ _ [[((mo 0), .inr (7, [.int (nI 1), .ref (mo 1), .ref (mo 2), .int (nI sm), .ref (mo 3), .int (nI ln), .ref (mo 4), .int rm, .int fa, .ref (mo 5), .ref (mo 6), .int sp, .int wr, .long dd]))], cMs v mo fs] _ _ [.int (nI 0)]
    refine g_if_neN (tgt := 23) X dX7_removeLast_18 (by decide) (by omega) (fun c18 => ?_) (fun c18 => ?_)
    · exact absurd rfl c18
    · refine g_iconst (x := nI 0) X dX7_removeLast_21 (by decide +kernel) ?_
      exact E dX7_removeLast_22 rfl (rfl) (by decide) (by decide) (⟨rfl, rfl⟩)
  · exact absurd c7 (by decide)

set_option maxHeartbeats 4000000 in
set_option maxRecDepth 100000 in
theorem c_X7_steps (l : Launch) (v : VV) (mo : Nat → Nat) (th : Int32) (sm : Nat) (ln : Nat) (rm : Int32) (fa : Int32) (sp : Int32) (wr : Int32) (dd : Int64) (P : Nat → S9) (n : Nat) (lo : Nat → Nat) (hi : Nat → Nat) (fs : Nat → Int32) (fe : Nat → Int32) (x : Nat) (y : Nat) (z : Nat) (hW : WF P n) (hS : SR P n lo hi fs) (hx : x < 8) (hy : y < 8) (hz : z < 8) : MI l v yX7_steps cX7_steps 6 (some .int) ({ frames := 6, cells := 0, slots := 0, locals := 138 }) [.ref (mo 0), .int (nI x), .int (nI y), .int (nI z)] [[((mo 0), .inr (7, [.int th, .ref (mo 1), .ref (mo 2), .int (nI sm), .ref (mo 3), .int (nI ln), .ref (mo 4), .int rm, .int fa, .ref (mo 5), .ref (mo 6), .int sp, .int wr, .long dd]))], cMs v mo fs, cMe v mo fe] (fun r w_ => ∃ fe', r = (if EE P n (64 * x + 8 * y + z) = -1 then zI (-1) else nI (LL P n (64 * x + 8 * y + z))) ∧ w_ = [[((mo 0), .inr (7, [.int (nI 0), .ref (mo 1), .ref (mo 2), .int (nI sm), .ref (mo 3), .int (nI ln), .ref (mo 4), .int rm, .int fa, .ref (mo 5), .ref (mo 6), .int sp, .int wr, .long dd]))], cMs v mo fs, cMe v mo fe']) 0 0 := by
  refine mm_int (by decide) (Nat.le_of_ble_eq_true rfl) [(0, .ref (mo 0)), (1, .int (nI x)), (2, .int (nI y)), (3, .int (nI z))] rfl (fun k X E => ?_)
  have hn12 := hW.1
  refine g_aload_n X dX7_steps_0 0 rfl rfl ?_
  refine g_iload_n X dX7_steps_1 1 rfl rfl ?_
  refine g_iload_n X dX7_steps_2 2 rfl rfl ?_
  refine g_iload_n X dX7_steps_3 3 rfl rfl ?_
  refine g_callS (As := [.int (nI x), .int (nI y), .int (nI z)]) (rest := [.ref (mo 0)]) (wr := [[((mo 0), .inr (7, [.int th, .ref (mo 1), .ref (mo 2), .int (nI sm), .ref (mo 3), .int (nI ln), .ref (mo 4), .int rm, .int fa, .ref (mo 5), .ref (mo 6), .int sp, .int wr, .long dd]))], cMs v mo fs, cMe v mo fe]) X (c_X7_areValues l v x y z (by omega) (by omega) (by omega)) f_X7_areValues q_22_7 dX7_steps_4 [] [0, 1, 2] rfl rfl (by decide) rfl rfl (Nat.le_of_ble_eq_true rfl) (by decide) (fun r_ w_ hp1 => ?_)
  obtain ⟨rfl, rfl⟩ := hp1
  show GG k _ _ [[((mo 0), .inr (7, [.int th, .ref (mo 1), .ref (mo 2), .int (nI sm), .ref (mo 3), .int (nI ln), .ref (mo 4), .int rm, .int fa, .ref (mo 5), .ref (mo 6), .int sp, .int wr, .long dd]))], cMs v mo fs, cMe v mo fe] _ _ [.int (nI 1), .ref (mo 0)]
  refine g_if_eqN (tgt := 14) X dX7_steps_7 (by decide) (by omega) (fun c7 => ?_) (fun c7 => ?_)
  · exact absurd c7 (by decide)
  · refine g_iconst (x := nI 0) X dX7_steps_10 (by decide +kernel) ?_
    refine g_goto (tgt := 15) X dX7_steps_11 (by decide) ?_
    refine g_callV (As := [.int (nI 0)]) (rest := []) (wr := [cMs v mo fs, cMe v mo fe]) X (c_X7_holds l v mo th sm ln rm fa sp wr dd 0 (by omega)) f_X7_holds q_15_19 dX7_steps_15 [0] [1, 2] rfl rfl (by decide) 0 rfl rfl rfl rfl (Nat.le_of_ble_eq_true rfl) (by decide) (fun r_ w_ hp2 => ?_)
    obtain ⟨rfl, rfl⟩ := hp2
    show GG k _ _ [[((mo 0), .inr (7, [.int (nI 0), .ref (mo 1), .ref (mo 2), .int (nI sm), .ref (mo 3), .int (nI ln), .ref (mo 4), .int rm, .int fa, .ref (mo 5), .ref (mo 6), .int sp, .int wr, .long dd]))], cMs v mo fs, cMe v mo fe] _ _ [.int (nI 1)]
    refine g_if_neN (tgt := 23) X dX7_steps_18 (by decide) (by omega) (fun c18 => ?_) (fun c18 => ?_)
    · refine g_aload_n X dX7_steps_23 0 rfl rfl ?_
      refine g_callV (As := []) (rest := []) (wr := []) X (c_X7_worksOut l v mo (nI 0) sm ln rm fa sp wr dd P n lo hi fs fe hW hS) f_X7_worksOut q_22_10 dX7_steps_24 [0, 1, 2] [] rfl rfl (by decide) 0 rfl rfl rfl rfl (Nat.le_of_ble_eq_true rfl) (by decide) (fun r_ w_ hp4 => ?_)
      obtain ⟨wo3, wo3E, rfl⟩ := hp4
      show GG k _ _ [[((mo 0), .inr (7, [.int (nI 0), .ref (mo 1), .ref (mo 2), .int (nI sm), .ref (mo 3), .int (nI ln), .ref (mo 4), .int rm, .int fa, .ref (mo 5), .ref (mo 6), .int sp, .int wr, .long dd]))], cMs v mo fs, cMe v mo wo3] _ _ []
      refine g_iload_n X dX7_steps_27 1 rfl rfl ?_
      refine g_iload_n X dX7_steps_28 2 rfl rfl ?_
      refine g_iload_n X dX7_steps_29 3 rfl rfl ?_
      refine g_callS (As := [.int (nI x), .int (nI y), .int (nI z)]) (rest := []) (wr := [[((mo 0), .inr (7, [.int (nI 0), .ref (mo 1), .ref (mo 2), .int (nI sm), .ref (mo 3), .int (nI ln), .ref (mo 4), .int rm, .int fa, .ref (mo 5), .ref (mo 6), .int sp, .int wr, .long dd]))], cMs v mo fs, cMe v mo wo3]) X (c_X7_triple l v x y z) f_X7_triple q_23_16 dX7_steps_30 [] [0, 1, 2] rfl rfl (by decide) rfl rfl (Nat.le_of_ble_eq_true rfl) (by decide) (fun r_ w_ hp5 => ?_)
      obtain ⟨rfl, rfl⟩ := hp5
      show GG k _ _ [[((mo 0), .inr (7, [.int (nI 0), .ref (mo 1), .ref (mo 2), .int (nI sm), .ref (mo 3), .int (nI ln), .ref (mo 4), .int rm, .int fa, .ref (mo 5), .ref (mo 6), .int sp, .int wr, .long dd]))], cMs v mo fs, cMe v mo wo3] _ _ [.int (nI (64 * x + 8 * y + z))]
      refine g_istore (lv' := [(4, .int (nI (64 * x + 8 * y + z))), (0, .ref (mo 0)), (1, .int (nI x)), (2, .int (nI y)), (3, .int (nI z))]) X dX7_steps_33 (by decide) rfl ?_
      refine g_aload_n X dX7_steps_35 1 rfl rfl ?_
      refine g_get X cb7 9 q_4_22 dX7_steps_36 0 0 rfl rfl (by decide) rfl rfl ?_
      refine g_iload X dX7_steps_39 0 rfl ?_
      refine g_iald X dX7_steps_41 2 0 rfl rfl (by omega) (by omega) ?_
      have hs : (64 * x + 8 * y + z) < 512 * (n + 1) := by omega
      have hrE := EE_rng hW hs
      refine g_v (y := zI (EE P n (64 * x + 8 * y + z))) (wo3E _ (by omega)) ?_
      refine g_iconst (x := zI (-1)) X dX7_steps_42 (by decide +kernel) ?_
      refine g_icmp_ne (tgt := 48) X dX7_steps_43 (by decide) (fun c43 => ?_) (fun c43 => ?_)
      · rw [zI_inj (by omega) (by omega) (by omega) (by omega)] at c43
        obtain ⟨kz, zz, hz⟩ := EE_ne c43
        refine g_iconst (x := nI 0) X dX7_steps_48 (by decide +kernel) ?_
        refine g_istore (lv' := [(5, .int (nI 0)), (4, .int (nI (64 * x + 8 * y + z))), (0, .ref (mo 0)), (1, .int (nI x)), (2, .int (nI y)), (3, .int (nI z))]) X dX7_steps_49 (by decide) rfl ?_
        have lp51 : ∀ (zN : Nat) (i : Nat) (p : Nat) (hp : it P n i (64 * x + 8 * y + z) = some p) (zM : zN = 6657 - i), GG k 0 0 [[((mo 0), .inr (7, [.int (nI 0), .ref (mo 1), .ref (mo 2), .int (nI sm), .ref (mo 3), .int (nI ln), .ref (mo 4), .int rm, .int fa, .ref (mo 5), .ref (mo 6), .int sp, .int wr, .long dd]))], cMs v mo fs, cMe v mo wo3] [(4, .int (nI p)), (5, .int (nI i)), (0, .ref (mo 0)), (1, .int (nI x)), (2, .int (nI y)), (3, .int (nI z))] 51 [] := by
          intro zN
          induction zN using Nat.strongRecOn with
          | _ zN zih =>
            have ih51 := zih
            clear zih
            intro i p hp zM
            have hpl := it_lt hW hs hp
            have hik := StpR_le hz hp
            have hkl := stp_len hW hs hz
            refine g_iload X dX7_steps_51 0 rfl ?_
            refine g_iconst (x := zI (-1)) X dX7_steps_53 (by decide +kernel) ?_
            refine g_icmp_eq (tgt := 80) X dX7_steps_54 (by decide) (fun c54 => ?_) (fun c54 => ?_)
            · rw [zI_nI p, zI_inj (by omega) (by omega) (by omega) (by omega)] at c54
              omega
            · rw [zI_nI p, zI_inj (by omega) (by omega) (by omega) (by omega)] at c54
              refine g_aload_n X dX7_steps_57 2 rfl rfl ?_
              refine g_iload X dX7_steps_58 0 rfl ?_
              refine g_callV (As := [.int (nI p)]) (rest := []) (wr := [cMe v mo wo3]) X (c_X7_isEnd l v mo (nI 0) sm ln rm fa sp wr dd P n lo hi fs p hW hS (by omega)) f_X7_isEnd q_22_14 dX7_steps_60 [0, 1] [2] rfl rfl (by decide) 0 rfl rfl rfl rfl (Nat.le_of_ble_eq_true rfl) (by decide) (fun r_ w_ hp6 => ?_)
              obtain ⟨rfl, rfl⟩ := hp6
              show GG k _ _ [[((mo 0), .inr (7, [.int (nI 0), .ref (mo 1), .ref (mo 2), .int (nI sm), .ref (mo 3), .int (nI ln), .ref (mo 4), .int rm, .int fa, .ref (mo 5), .ref (mo 6), .int sp, .int wr, .long dd]))], cMs v mo fs, cMe v mo wo3] _ _ [.int (bI (decide (p / 512 = n)))]
              refine g_if_neB (tgt := 80) X dX7_steps_63 (by decide) (fun c63 => ?_) (fun c63 => ?_)
              · refine g_iload X dX7_steps_80 1 rfl ?_
                exact E dX7_steps_82 rfl (rfl) (by decide) (by decide) (⟨_, by rw [if_neg c43, LL_end hp (by have := of_decide_eq_true c63; omega)], rfl⟩)
              · have hpn : p / 512 < n := by have := of_decide_eq_false c63; omega
                refine g_aload_n X dX7_steps_66 2 rfl rfl ?_
                refine g_iload X dX7_steps_67 0 rfl ?_
                refine g_callV (As := [.int (nI p)]) (rest := []) (wr := [cMe v mo wo3]) X (c_X7_goesTo l v mo (nI 0) sm ln rm fa sp wr dd P n lo hi fs p hW hS (by omega)) f_X7_goesTo q_22_22 dX7_steps_69 [0, 1] [2] rfl rfl (by decide) 0 rfl rfl rfl rfl (Nat.le_of_ble_eq_true rfl) (by decide) (fun r_ w_ hp7 => ?_)
                obtain ⟨rfl, rfl⟩ := hp7
                show GG k _ _ [[((mo 0), .inr (7, [.int (nI 0), .ref (mo 1), .ref (mo 2), .int (nI sm), .ref (mo 3), .int (nI ln), .ref (mo 4), .int rm, .int fa, .ref (mo 5), .ref (mo 6), .int sp, .int wr, .long dd]))], cMs v mo fs, cMe v mo wo3] _ _ [.int (eo (nx P p))]
                cases hnx : nx P p with
                | none =>
                  show GG k _ _ _ _ _ (.int (zI (-1)) :: _)
                  refine g_istore (lv' := [(4, .int (zI (-1))), (5, .int (nI i)), (0, .ref (mo 0)), (1, .int (nI x)), (2, .int (nI y)), (3, .int (nI z))]) X dX7_steps_72 (by decide) rfl ?_
                  refine g_iinc (y := nI (i + 1)) (lv' := [(5, .int (nI (i + 1))), (4, .int (zI (-1))), (0, .ref (mo 0)), (1, .int (nI x)), (2, .int (nI y)), (3, .int (nI z))]) (j := 1) X dX7_steps_74 rfl (nI_add i 1) (by decide) rfl ?_
                  refine g_goto (tgt := 51) X dX7_steps_77 (by decide) ?_
                  refine g_iload X dX7_steps_51 1 rfl ?_
                  refine g_iconst (x := zI (-1)) X dX7_steps_53 (by decide +kernel) ?_
                  refine g_icmp_eq (tgt := 80) X dX7_steps_54 (by decide) (fun c54 => ?_) (fun c54 => ?_)
                  · rw [zI_inj (by omega) (by omega) (by omega) (by omega)] at c54
                    refine g_iload X dX7_steps_80 0 rfl ?_
                    exact E dX7_steps_82 rfl (rfl) (by decide) (by decide) (⟨_, by rw [if_neg c43, LL_fail hp ((nxt_nx hpn).trans hnx) (by omega)], rfl⟩)
                  · rw [zI_inj (by omega) (by omega) (by omega) (by omega)] at c54
                    exact absurd rfl c54
                | some y0 =>
                  show GG k _ _ _ _ _ (.int (nI y0) :: _)
                  refine g_istore (lv' := [(4, .int (nI y0)), (5, .int (nI i)), (0, .ref (mo 0)), (1, .int (nI x)), (2, .int (nI y)), (3, .int (nI z))]) X dX7_steps_72 (by decide) rfl ?_
                  refine g_iinc (y := nI (i + 1)) (lv' := [(5, .int (nI (i + 1))), (4, .int (nI y0)), (0, .ref (mo 0)), (1, .int (nI x)), (2, .int (nI y)), (3, .int (nI z))]) (j := 1) X dX7_steps_74 rfl (nI_add i 1) (by decide) rfl ?_
                  refine g_goto (tgt := 51) X dX7_steps_77 (by decide) ?_
                  refine g_lv (lv' := [(4, .int (nI y0)), (5, .int (nI (i + 1))), (0, .ref (mo 0)), (1, .int (nI x)), (2, .int (nI y)), (3, .int (nI z))]) [1, 0, 2, 3, 4, 5] rfl ?_
                  exact ih51 _ (by omega) (i + 1) y0 (it_step hp ((nxt_nx hpn).trans hnx)) rfl
        refine g_lv (lv' := [(4, .int (nI (64 * x + 8 * y + z))), (5, .int (nI 0)), (0, .ref (mo 0)), (1, .int (nI x)), (2, .int (nI y)), (3, .int (nI z))]) [1, 0, 2, 3, 4, 5] rfl ?_
        exact lp51 _ 0 (64 * x + 8 * y + z) rfl rfl
      · rw [zI_inj (by omega) (by omega) (by omega) (by omega)] at c43
        refine g_iconst (x := zI (-1)) X dX7_steps_46 (by decide +kernel) ?_
        exact E dX7_steps_47 rfl (rfl) (by decide) (by decide) (⟨_, by rw [if_pos c43], rfl⟩)
    · exact absurd c18 (by decide)

