/-! ## the model: readStatement -/
theorem Blw_tr {k : Nat} {f g h : Nat → Int32} (a : Blw k f g) (b : Blw k g h) : Blw k f h := fun m hm => (b m hm).trans (a m hm)
def fmx (fa : Nat) (s : S9) : Nat := if s.1 = 2 ∧ (fa : Int) < s.2.2.2.2 then s.2.2.2.2.toNat else fa
section STM
variable {tx : Nat → Nat} {ln p : Nat}
theorem pStmt_k0 (h33 : ¬ nxc tx ln p = 33) (h63 : ¬ nxc tx ln p = 63) {s : S9} (h : (pStmt tx ln p).1 = some s) : s.1 = 0 := by
  unfold pStmt at h
  rw [if_neg h33, if_neg h63] at h
  split at h
  · cases h
  · split at h
    · split at h
      · cases h
      · split at h
        · cases h
        · cases h; rfl
    · cases h
theorem pGoal_n (h : ¬ (48 ≤ nxc tx ln p ∧ nxc tx ln p ≤ 57)) : pGoal tx ln p = (none, p) := by unfold pGoal; rw [if_neg h]
theorem pGoal_1 (h : 48 ≤ nxc tx ln p ∧ nxc tx ln p ≤ 57) (h2 : ¬ (nxc tx ln p = 49 ∧ 48 ≤ nxc tx ln (p + 1) ∧ nxc tx ln (p + 1) ≤ 50)) : pGoal tx ln p = (some (nxc tx ln p - 48), p + 1) := by unfold pGoal; rw [if_pos h, if_neg h2]
theorem pGoal_2 (h : 48 ≤ nxc tx ln p ∧ nxc tx ln p ≤ 57) (h2 : nxc tx ln p = 49 ∧ 48 ≤ nxc tx ln (p + 1) ∧ nxc tx ln (p + 1) ≤ 50) : pGoal tx ln p = (some (10 + (nxc tx ln (p + 1) - 48)), p + 1 + 1) := by unfold pGoal; rw [if_pos h, if_pos h2]; congr 2; omega
end STM

set_option maxHeartbeats 4000000 in
set_option maxRecDepth 100000 in
theorem c_X7_readStatement (l : Launch) (v : VV) (mo : Nat → Nat) (th : Int32) (sm : Nat) (ln : Nat) (dd : Int64) (fa9 : Nat) (tx : Nat → Nat) (ft : Nat → Int32) (fr : Nat → Int32) (p : Nat) (k9 : Nat) (hT : TxR tx ln ft) (hk : k9 < 12) (hp : p ≤ 80) (hfa : fa9 ≤ 100) : MU l v yX7_readStatement cX7_readStatement 4 none ({ frames := 5, cells := 0, slots := 0, locals := 111 }) [.ref (mo 0)] [[((mo 0), .inr (7, [.int th, .ref (mo 1), .ref (mo 2), .int (nI sm), .ref (mo 3), .int (nI ln), .ref (mo 4), .int (nI k9), .int (nI fa9), .ref (mo 5), .ref (mo 6), .int (nI p), .int (nI 0), .long dd]))], cMt v mo ft, cMr v mo fr] (fun _ w_ => match (pStmt tx ln p).1 with | none => ∃ fr', Blw k9 fr fr' ∧ w_ = [[((mo 0), .inr (7, [.int th, .ref (mo 1), .ref (mo 2), .int (nI sm), .ref (mo 3), .int (nI ln), .ref (mo 4), .int (nI k9), .int (nI fa9), .ref (mo 5), .ref (mo 6), .int (nI ((pStmt tx ln p).2)), .int (nI 1), .long dd]))], cMt v mo ft, cMr v mo fr'] | some s => ∃ fr', Blw k9 fr fr' ∧ RW9 fr' k9 s ∧ w_ = [[((mo 0), .inr (7, [.int th, .ref (mo 1), .ref (mo 2), .int (nI sm), .ref (mo 3), .int (nI ln), .ref (mo 4), .int (nI k9), .int (nI (fmx fa9 s)), .ref (mo 5), .ref (mo 6), .int (nI ((pStmt tx ln p).2)), .int (nI 0), .long dd]))], cMt v mo ft, cMr v mo fr']) 0 0 := by
  refine mm_void rfl (by decide) (Nat.le_of_ble_eq_true rfl) [(0, .ref (mo 0))] rfl (fun k X hin E => ?_)
  have hT1 := hT.1
  have hz0 := nxc_lt hT p
  refine g_aload_n X dX7_readStatement_0 0 rfl rfl ?_
  refine g_bipush (x := nI 33) X dX7_readStatement_1 (by decide +kernel) ?_
  refine g_bipush (x := nI 33) X dX7_readStatement_3 (by decide +kernel) ?_
  refine g_callV (As := [.int (nI 33), .int (nI 33)]) (rest := []) (wr := [cMr v mo fr]) X (nx_s l v mo th sm ln (nI k9) (nI fa9) dd tx ft p 33 33 hT (by omega) (by omega) (by omega) (by omega)) f_X7_isNext q_14_16 dX7_readStatement_5 [0, 1] [2] rfl rfl (by decide) 0 rfl rfl rfl rfl (Nat.le_of_ble_eq_true rfl) (by decide) (fun r_ w_ hp1 => ?_)
  by_cases hv5 : 33 ≤ nxc tx ln p ∧ nxc tx ln p ≤ 33
  · have hp1q := hp1
    rw [if_pos hv5] at hp1
    obtain ⟨rfl, rfl⟩ := hp1
    show GG k _ _ [[((mo 0), .inr (7, [.int th, .ref (mo 1), .ref (mo 2), .int (nI sm), .ref (mo 3), .int (nI ln), .ref (mo 4), .int (nI k9), .int (nI fa9), .ref (mo 5), .ref (mo 6), .int (nI p), .int (nI 0), .long dd]))], cMt v mo ft, cMr v mo fr] _ _ [.int (nI 1)]
    refine g_istore_n (lv' := [(1, .int (nI 1)), (0, .ref (mo 0))]) X dX7_readStatement_8 rfl (by decide) rfl ?_
    refine g_iload_n X dX7_readStatement_9 0 rfl rfl ?_
    refine g_if_neN (tgt := 29) X dX7_readStatement_10 (by decide) (by omega) (fun c10 => ?_) (fun c10 => ?_)
    · refine g_aload_n X dX7_readStatement_29 1 rfl rfl ?_
      refine g_dup X dX7_readStatement_30 rfl ?_
      refine g_get X cb7 11 q_14_9 dX7_readStatement_31 0 0 rfl rfl (by decide) rfl rfl ?_
      refine g_iconst (x := nI 1) X dX7_readStatement_34 (by decide +kernel) ?_
      refine g_iaddN X dX7_readStatement_35 ?_
      refine g_put (cs' := [[((mo 0), .inr (7, [.int th, .ref (mo 1), .ref (mo 2), .int (nI sm), .ref (mo 3), .int (nI ln), .ref (mo 4), .int (nI k9), .int (nI fa9), .ref (mo 5), .ref (mo 6), .int (nI (p + 1)), .int (nI 0), .long dd]))], cMt v mo ft, cMr v mo fr]) X cb7 11 q_14_9 dX7_readStatement_36 0 0 rfl rfl (by decide) rfl rfl (rfl) (rfl) (Nat.le_of_ble_eq_true rfl) rfl ?_
      refine g_aload_n X dX7_readStatement_39 1 rfl rfl ?_
      refine g_iconst (x := nI 0) X dX7_readStatement_40 (by decide +kernel) ?_
      refine g_iload_n X dX7_readStatement_41 0 rfl rfl ?_
      refine g_if_eqN (tgt := 49) X dX7_readStatement_42 (by decide) (by omega) (fun c42 => ?_) (fun c42 => ?_)
      · exact absurd c42 (by decide)
      · refine g_iconst (x := nI 1) X dX7_readStatement_45 (by decide +kernel) ?_
        refine g_goto (tgt := 50) X dX7_readStatement_46 (by decide) ?_
        refine g_callV (As := [.int (nI 0), .int (nI 1)]) (rest := []) (wr := [cMt v mo ft]) X (c_X7_puts l v mo th sm ln (nI fa9) (nI (p + 1)) (nI 0) dd k9 0 (nI 1) fr (by omega) (by omega)) f_X7_puts q_15_3 dX7_readStatement_50 [0, 2] [1] rfl rfl (by decide) 0 rfl rfl rfl rfl (Nat.le_of_ble_eq_true rfl) (by decide) (fun r_ w_ hp2 => ?_)
        subst hp2
        show GG k _ _ [[((mo 0), .inr (7, [.int th, .ref (mo 1), .ref (mo 2), .int (nI sm), .ref (mo 3), .int (nI ln), .ref (mo 4), .int (nI k9), .int (nI fa9), .ref (mo 5), .ref (mo 6), .int (nI (p + 1)), .int (nI 0), .long dd]))], cMr v mo (upd fr (5 * k9 + 0) (nI 1)), cMt v mo ft] _ _ []
        refine g_pick (cs' := [[((mo 0), .inr (7, [.int th, .ref (mo 1), .ref (mo 2), .int (nI sm), .ref (mo 3), .int (nI ln), .ref (mo 4), .int (nI k9), .int (nI fa9), .ref (mo 5), .ref (mo 6), .int (nI (p + 1)), .int (nI 0), .long dd]))], cMt v mo ft, cMr v mo (upd fr (5 * k9 + 0) (nI 1))]) [0, 2, 1] rfl rfl ?_
        refine g_aload_n X dX7_readStatement_53 1 rfl rfl ?_
        refine g_callV (As := []) (rest := []) (wr := []) X (c_X7_readTest l v mo th sm ln (nI fa9) dd tx ft (upd fr (5 * k9 + 0) (nI 1)) (p + 1) k9 hT hk (by omega)) f_X7_readTest q_15_15 dX7_readStatement_54 [0, 1, 2] [] rfl rfl (by decide) 0 rfl rfl rfl rfl (Nat.le_of_ble_eq_true rfl) (by decide) (fun r_ w_ hp4 => ?_)
        cases hv54 : (pTest tx ln (p + 1)).1 with
        | none =>
          have hp4q := hp4
          rw [hv54] at hp4
          have hbzt3 := pTest_b (tx := tx) (len := ln) (p := (p + 1))
          obtain ⟨zt3, zt3B, rfl⟩ := hp4
          show GG k _ _ [[((mo 0), .inr (7, [.int th, .ref (mo 1), .ref (mo 2), .int (nI sm), .ref (mo 3), .int (nI ln), .ref (mo 4), .int (nI k9), .int (nI fa9), .ref (mo 5), .ref (mo 6), .int (nI ((pTest tx ln (p + 1)).2)), .int (nI 1), .long dd]))], cMt v mo ft, cMr v mo zt3] _ _ []
          refine g_aload_n X dX7_readStatement_57 1 rfl rfl ?_
          refine g_iconst (x := nI 4) X dX7_readStatement_58 (by decide +kernel) ?_
          refine g_iconst (x := nI 0) X dX7_readStatement_59 (by decide +kernel) ?_
          refine g_callV (As := [.int (nI 4), .int (nI 0)]) (rest := []) (wr := [cMt v mo ft]) X (c_X7_puts l v mo th sm ln (nI fa9) (nI ((pTest tx ln (p + 1)).2)) (nI 1) dd k9 4 (nI 0) zt3 (by omega) (by omega)) f_X7_puts q_15_3 dX7_readStatement_60 [0, 2] [1] rfl rfl (by decide) 0 rfl rfl rfl rfl (Nat.le_of_ble_eq_true rfl) (by decide) (fun r_ w_ hp5 => ?_)
          subst hp5
          show GG k _ _ [[((mo 0), .inr (7, [.int th, .ref (mo 1), .ref (mo 2), .int (nI sm), .ref (mo 3), .int (nI ln), .ref (mo 4), .int (nI k9), .int (nI fa9), .ref (mo 5), .ref (mo 6), .int (nI ((pTest tx ln (p + 1)).2)), .int (nI 1), .long dd]))], cMr v mo (upd zt3 (5 * k9 + 4) (nI 0)), cMt v mo ft] _ _ []
          refine g_pick (cs' := [[((mo 0), .inr (7, [.int th, .ref (mo 1), .ref (mo 2), .int (nI sm), .ref (mo 3), .int (nI ln), .ref (mo 4), .int (nI k9), .int (nI fa9), .ref (mo 5), .ref (mo 6), .int (nI ((pTest tx ln (p + 1)).2)), .int (nI 1), .long dd]))], cMt v mo ft, cMr v mo (upd zt3 (5 * k9 + 4) (nI 0))]) [0, 2, 1] rfl rfl ?_
          refine g_iload_n X dX7_readStatement_63 0 rfl rfl ?_
          refine g_if_neN (tgt := 143) X dX7_readStatement_64 (by decide) (by omega) (fun c64 => ?_) (fun c64 => ?_)
          · exact E dX7_readStatement_143 (by decide) (by decide) (by have e : pStmt tx ln p = (none, (pTest tx ln (p + 1)).2) := (by simp only [pStmt, if_pos (eq_rng hv5), hv54]); rw [e]; dsimp only; exact ⟨_, (Blw_u (Blw_tr (Blw_u Blw_0) zt3B)), rfl⟩)
          · exact absurd c64 (by decide)
        | some ahv54 =>
          have hp4q := hp4
          rw [hv54] at hp4
          have hbzt3 := pTest_b (tx := tx) (len := ln) (p := (p + 1))
          subst hp4
          show GG k _ _ [[((mo 0), .inr (7, [.int th, .ref (mo 1), .ref (mo 2), .int (nI sm), .ref (mo 3), .int (nI ln), .ref (mo 4), .int (nI k9), .int (nI fa9), .ref (mo 5), .ref (mo 6), .int (nI ((pTest tx ln (p + 1)).2)), .int (nI 0), .long dd]))], cMt v mo ft, cMr v mo (upd (upd (upd (upd fr (5 * k9 + 0) (nI 1)) (5 * k9 + 1) (nI ahv54.1)) (5 * k9 + 2) (nI (sgx ahv54.2.1))) (5 * k9 + 3) (nI (opm ahv54.2.2)))] _ _ []
          refine g_aload_n X dX7_readStatement_57 1 rfl rfl ?_
          refine g_iconst (x := nI 4) X dX7_readStatement_58 (by decide +kernel) ?_
          refine g_iconst (x := nI 0) X dX7_readStatement_59 (by decide +kernel) ?_
          refine g_callV (As := [.int (nI 4), .int (nI 0)]) (rest := []) (wr := [cMt v mo ft]) X (c_X7_puts l v mo th sm ln (nI fa9) (nI ((pTest tx ln (p + 1)).2)) (nI 0) dd k9 4 (nI 0) (upd (upd (upd (upd fr (5 * k9 + 0) (nI 1)) (5 * k9 + 1) (nI ahv54.1)) (5 * k9 + 2) (nI (sgx ahv54.2.1))) (5 * k9 + 3) (nI (opm ahv54.2.2))) (by omega) (by omega)) f_X7_puts q_15_3 dX7_readStatement_60 [0, 2] [1] rfl rfl (by decide) 0 rfl rfl rfl rfl (Nat.le_of_ble_eq_true rfl) (by decide) (fun r_ w_ hp6 => ?_)
          subst hp6
          show GG k _ _ [[((mo 0), .inr (7, [.int th, .ref (mo 1), .ref (mo 2), .int (nI sm), .ref (mo 3), .int (nI ln), .ref (mo 4), .int (nI k9), .int (nI fa9), .ref (mo 5), .ref (mo 6), .int (nI ((pTest tx ln (p + 1)).2)), .int (nI 0), .long dd]))], cMr v mo (upd (upd (upd (upd (upd fr (5 * k9 + 0) (nI 1)) (5 * k9 + 1) (nI ahv54.1)) (5 * k9 + 2) (nI (sgx ahv54.2.1))) (5 * k9 + 3) (nI (opm ahv54.2.2))) (5 * k9 + 4) (nI 0)), cMt v mo ft] _ _ []
          refine g_pick (cs' := [[((mo 0), .inr (7, [.int th, .ref (mo 1), .ref (mo 2), .int (nI sm), .ref (mo 3), .int (nI ln), .ref (mo 4), .int (nI k9), .int (nI fa9), .ref (mo 5), .ref (mo 6), .int (nI ((pTest tx ln (p + 1)).2)), .int (nI 0), .long dd]))], cMt v mo ft, cMr v mo (upd (upd (upd (upd (upd fr (5 * k9 + 0) (nI 1)) (5 * k9 + 1) (nI ahv54.1)) (5 * k9 + 2) (nI (sgx ahv54.2.1))) (5 * k9 + 3) (nI (opm ahv54.2.2))) (5 * k9 + 4) (nI 0))]) [0, 2, 1] rfl rfl ?_
          refine g_iload_n X dX7_readStatement_63 0 rfl rfl ?_
          refine g_if_neN (tgt := 143) X dX7_readStatement_64 (by decide) (by omega) (fun c64 => ?_) (fun c64 => ?_)
          · exact E dX7_readStatement_143 (by decide) (by decide) (by have e : pStmt tx ln p = (some (1, ahv54.1, ahv54.2.1, ahv54.2.2, 0), (pTest tx ln (p + 1)).2) := (by simp only [pStmt, if_pos (eq_rng hv5), hv54]); rw [e]; dsimp only; exact ⟨_, (Blw_u (Blw_u (Blw_u (Blw_u (Blw_u Blw_0))))), RW9_mk rfl rfl rfl rfl zI0.symm, rfl⟩)
          · exact absurd c64 (by decide)
    · exact absurd c10 (by decide)
  · have hp1q := hp1
    rw [if_neg hv5] at hp1
    obtain ⟨rfl, rfl⟩ := hp1
    show GG k _ _ [[((mo 0), .inr (7, [.int th, .ref (mo 1), .ref (mo 2), .int (nI sm), .ref (mo 3), .int (nI ln), .ref (mo 4), .int (nI k9), .int (nI fa9), .ref (mo 5), .ref (mo 6), .int (nI p), .int (nI 0), .long dd]))], cMt v mo ft, cMr v mo fr] _ _ [.int (nI 0)]
    refine g_istore_n (lv' := [(1, .int (nI 0)), (0, .ref (mo 0))]) X dX7_readStatement_8 rfl (by decide) rfl ?_
    refine g_iload_n X dX7_readStatement_9 0 rfl rfl ?_
    refine g_if_neN (tgt := 29) X dX7_readStatement_10 (by decide) (by omega) (fun c10 => ?_) (fun c10 => ?_)
    · exact absurd rfl c10
    · refine g_aload_n X dX7_readStatement_13 1 rfl rfl ?_
      refine g_bipush (x := nI 63) X dX7_readStatement_14 (by decide +kernel) ?_
      refine g_bipush (x := nI 63) X dX7_readStatement_16 (by decide +kernel) ?_
      refine g_callV (As := [.int (nI 63), .int (nI 63)]) (rest := []) (wr := [cMr v mo fr]) X (nx_s l v mo th sm ln (nI k9) (nI fa9) dd tx ft p 63 63 hT (by omega) (by omega) (by omega) (by omega)) f_X7_isNext q_14_16 dX7_readStatement_18 [0, 1] [2] rfl rfl (by decide) 0 rfl rfl rfl rfl (Nat.le_of_ble_eq_true rfl) (by decide) (fun r_ w_ hp7 => ?_)
      by_cases hv18 : 63 ≤ nxc tx ln p ∧ nxc tx ln p ≤ 63
      · have hp7q := hp7
        rw [if_pos hv18] at hp7
        obtain ⟨rfl, rfl⟩ := hp7
        show GG k _ _ [[((mo 0), .inr (7, [.int th, .ref (mo 1), .ref (mo 2), .int (nI sm), .ref (mo 3), .int (nI ln), .ref (mo 4), .int (nI k9), .int (nI fa9), .ref (mo 5), .ref (mo 6), .int (nI p), .int (nI 0), .long dd]))], cMt v mo ft, cMr v mo fr] _ _ [.int (nI 1)]
        refine g_if_neN (tgt := 29) X dX7_readStatement_21 (by decide) (by omega) (fun c21 => ?_) (fun c21 => ?_)
        · refine g_aload_n X dX7_readStatement_29 1 rfl rfl ?_
          refine g_dup X dX7_readStatement_30 rfl ?_
          refine g_get X cb7 11 q_14_9 dX7_readStatement_31 0 0 rfl rfl (by decide) rfl rfl ?_
          refine g_iconst (x := nI 1) X dX7_readStatement_34 (by decide +kernel) ?_
          refine g_iaddN X dX7_readStatement_35 ?_
          refine g_put (cs' := [[((mo 0), .inr (7, [.int th, .ref (mo 1), .ref (mo 2), .int (nI sm), .ref (mo 3), .int (nI ln), .ref (mo 4), .int (nI k9), .int (nI fa9), .ref (mo 5), .ref (mo 6), .int (nI (p + 1)), .int (nI 0), .long dd]))], cMt v mo ft, cMr v mo fr]) X cb7 11 q_14_9 dX7_readStatement_36 0 0 rfl rfl (by decide) rfl rfl (rfl) (rfl) (Nat.le_of_ble_eq_true rfl) rfl ?_
          refine g_aload_n X dX7_readStatement_39 1 rfl rfl ?_
          refine g_iconst (x := nI 0) X dX7_readStatement_40 (by decide +kernel) ?_
          refine g_iload_n X dX7_readStatement_41 0 rfl rfl ?_
          refine g_if_eqN (tgt := 49) X dX7_readStatement_42 (by decide) (by omega) (fun c42 => ?_) (fun c42 => ?_)
          · refine g_iconst (x := nI 2) X dX7_readStatement_49 (by decide +kernel) ?_
            refine g_callV (As := [.int (nI 0), .int (nI 2)]) (rest := []) (wr := [cMt v mo ft]) X (c_X7_puts l v mo th sm ln (nI fa9) (nI (p + 1)) (nI 0) dd k9 0 (nI 2) fr (by omega) (by omega)) f_X7_puts q_15_3 dX7_readStatement_50 [0, 2] [1] rfl rfl (by decide) 0 rfl rfl rfl rfl (Nat.le_of_ble_eq_true rfl) (by decide) (fun r_ w_ hp8 => ?_)
            subst hp8
            show GG k _ _ [[((mo 0), .inr (7, [.int th, .ref (mo 1), .ref (mo 2), .int (nI sm), .ref (mo 3), .int (nI ln), .ref (mo 4), .int (nI k9), .int (nI fa9), .ref (mo 5), .ref (mo 6), .int (nI (p + 1)), .int (nI 0), .long dd]))], cMr v mo (upd fr (5 * k9 + 0) (nI 2)), cMt v mo ft] _ _ []
            refine g_pick (cs' := [[((mo 0), .inr (7, [.int th, .ref (mo 1), .ref (mo 2), .int (nI sm), .ref (mo 3), .int (nI ln), .ref (mo 4), .int (nI k9), .int (nI fa9), .ref (mo 5), .ref (mo 6), .int (nI (p + 1)), .int (nI 0), .long dd]))], cMt v mo ft, cMr v mo (upd fr (5 * k9 + 0) (nI 2))]) [0, 2, 1] rfl rfl ?_
            refine g_aload_n X dX7_readStatement_53 1 rfl rfl ?_
            refine g_callV (As := []) (rest := []) (wr := []) X (c_X7_readTest l v mo th sm ln (nI fa9) dd tx ft (upd fr (5 * k9 + 0) (nI 2)) (p + 1) k9 hT hk (by omega)) f_X7_readTest q_15_15 dX7_readStatement_54 [0, 1, 2] [] rfl rfl (by decide) 0 rfl rfl rfl rfl (Nat.le_of_ble_eq_true rfl) (by decide) (fun r_ w_ hp10 => ?_)
            cases hv54 : (pTest tx ln (p + 1)).1 with
            | none =>
              have hp10q := hp10
              rw [hv54] at hp10
              have hbzt9 := pTest_b (tx := tx) (len := ln) (p := (p + 1))
              obtain ⟨zt9, zt9B, rfl⟩ := hp10
              show GG k _ _ [[((mo 0), .inr (7, [.int th, .ref (mo 1), .ref (mo 2), .int (nI sm), .ref (mo 3), .int (nI ln), .ref (mo 4), .int (nI k9), .int (nI fa9), .ref (mo 5), .ref (mo 6), .int (nI ((pTest tx ln (p + 1)).2)), .int (nI 1), .long dd]))], cMt v mo ft, cMr v mo zt9] _ _ []
              refine g_aload_n X dX7_readStatement_57 1 rfl rfl ?_
              refine g_iconst (x := nI 4) X dX7_readStatement_58 (by decide +kernel) ?_
              refine g_iconst (x := nI 0) X dX7_readStatement_59 (by decide +kernel) ?_
              refine g_callV (As := [.int (nI 4), .int (nI 0)]) (rest := []) (wr := [cMt v mo ft]) X (c_X7_puts l v mo th sm ln (nI fa9) (nI ((pTest tx ln (p + 1)).2)) (nI 1) dd k9 4 (nI 0) zt9 (by omega) (by omega)) f_X7_puts q_15_3 dX7_readStatement_60 [0, 2] [1] rfl rfl (by decide) 0 rfl rfl rfl rfl (Nat.le_of_ble_eq_true rfl) (by decide) (fun r_ w_ hp11 => ?_)
              subst hp11
              show GG k _ _ [[((mo 0), .inr (7, [.int th, .ref (mo 1), .ref (mo 2), .int (nI sm), .ref (mo 3), .int (nI ln), .ref (mo 4), .int (nI k9), .int (nI fa9), .ref (mo 5), .ref (mo 6), .int (nI ((pTest tx ln (p + 1)).2)), .int (nI 1), .long dd]))], cMr v mo (upd zt9 (5 * k9 + 4) (nI 0)), cMt v mo ft] _ _ []
              refine g_pick (cs' := [[((mo 0), .inr (7, [.int th, .ref (mo 1), .ref (mo 2), .int (nI sm), .ref (mo 3), .int (nI ln), .ref (mo 4), .int (nI k9), .int (nI fa9), .ref (mo 5), .ref (mo 6), .int (nI ((pTest tx ln (p + 1)).2)), .int (nI 1), .long dd]))], cMt v mo ft, cMr v mo (upd zt9 (5 * k9 + 4) (nI 0))]) [0, 2, 1] rfl rfl ?_
              refine g_iload_n X dX7_readStatement_63 0 rfl rfl ?_
              refine g_if_neN (tgt := 143) X dX7_readStatement_64 (by decide) (by omega) (fun c64 => ?_) (fun c64 => ?_)
              · exact absurd rfl c64
              · refine g_aload_n X dX7_readStatement_67 1 rfl rfl ?_
                refine g_bipush (x := nI 64) X dX7_readStatement_68 (by decide +kernel) ?_
                refine g_bipush (x := nI 64) X dX7_readStatement_70 (by decide +kernel) ?_
                refine g_callV (As := [.int (nI 64), .int (nI 64)]) (rest := []) (wr := [cMr v mo (upd zt9 (5 * k9 + 4) (nI 0))]) X (b_X7_takes l v mo th sm ln (nI k9) (nI fa9) dd ft ((pTest tx ln (p + 1)).2) 64 64 (by omega)) f_X7_takes q_15_7 dX7_readStatement_72 [0, 1] [2] rfl rfl (by decide) 0 rfl rfl rfl rfl (Nat.le_of_ble_eq_true rfl) (by decide) (fun r_ w_ hp12 => ?_)
                obtain ⟨rfl, rfl⟩ := hp12
                show GG k _ _ [[((mo 0), .inr (7, [.int th, .ref (mo 1), .ref (mo 2), .int (nI sm), .ref (mo 3), .int (nI ln), .ref (mo 4), .int (nI k9), .int (nI fa9), .ref (mo 5), .ref (mo 6), .int (nI ((pTest tx ln (p + 1)).2)), .int (nI 1), .long dd]))], cMt v mo ft, cMr v mo (upd zt9 (5 * k9 + 4) (nI 0))] _ _ [.int (nI 0)]
                refine g_istore_n (lv' := [(2, .int (nI 0)), (1, .int (nI 0)), (0, .ref (mo 0))]) X dX7_readStatement_75 rfl (by decide) rfl ?_
                refine g_aload_n X dX7_readStatement_76 2 rfl rfl ?_
                refine g_bipush (x := nI 48) X dX7_readStatement_77 (by decide +kernel) ?_
                refine g_bipush (x := nI 57) X dX7_readStatement_79 (by decide +kernel) ?_
                refine g_callV (As := [.int (nI 48), .int (nI 57)]) (rest := []) (wr := [cMr v mo (upd zt9 (5 * k9 + 4) (nI 0))]) X (b_X7_takes l v mo th sm ln (nI k9) (nI fa9) dd ft ((pTest tx ln (p + 1)).2) 48 57 (by omega)) f_X7_takes q_15_7 dX7_readStatement_81 [0, 1] [2] rfl rfl (by decide) 0 rfl rfl rfl rfl (Nat.le_of_ble_eq_true rfl) (by decide) (fun r_ w_ hp13 => ?_)
                obtain ⟨rfl, rfl⟩ := hp13
                show GG k _ _ [[((mo 0), .inr (7, [.int th, .ref (mo 1), .ref (mo 2), .int (nI sm), .ref (mo 3), .int (nI ln), .ref (mo 4), .int (nI k9), .int (nI fa9), .ref (mo 5), .ref (mo 6), .int (nI ((pTest tx ln (p + 1)).2)), .int (nI 1), .long dd]))], cMt v mo ft, cMr v mo (upd zt9 (5 * k9 + 4) (nI 0))] _ _ [.int (nI 0)]
                refine g_istore_n (lv' := [(3, .int (nI 0)), (2, .int (nI 0)), (1, .int (nI 0)), (0, .ref (mo 0))]) X dX7_readStatement_84 rfl (by decide) rfl ?_
                refine g_iload_n X dX7_readStatement_85 0 rfl rfl ?_
                refine g_iconst (x := nI 1) X dX7_readStatement_86 (by decide +kernel) ?_
                refine g_icmp_neN (tgt := 115) X dX7_readStatement_87 (by decide) (by omega) (by omega) (fun c87 => ?_) (fun c87 => ?_)
                · refine g_iload_n X dX7_readStatement_115 0 rfl rfl ?_
                  refine g_istore_n (lv' := [(3, .int (nI 0)), (2, .int (nI 0)), (1, .int (nI 0)), (0, .ref (mo 0))]) X dX7_readStatement_116 rfl (by decide) rfl ?_
                  refine g_aload_n X dX7_readStatement_117 3 rfl rfl ?_
                  refine g_iconst (x := nI 4) X dX7_readStatement_118 (by decide +kernel) ?_
                  refine g_iload_n X dX7_readStatement_119 0 rfl rfl ?_
                  refine g_callV (As := [.int (nI 4), .int (nI 0)]) (rest := []) (wr := [cMt v mo ft]) X (c_X7_puts l v mo th sm ln (nI fa9) (nI ((pTest tx ln (p + 1)).2)) (nI 1) dd k9 4 (nI 0) (upd zt9 (5 * k9 + 4) (nI 0)) (by omega) (by omega)) f_X7_puts q_15_3 dX7_readStatement_120 [0, 2] [1] rfl rfl (by decide) 0 rfl rfl rfl rfl (Nat.le_of_ble_eq_true rfl) (by decide) (fun r_ w_ hp14 => ?_)
                  subst hp14
                  show GG k _ _ [[((mo 0), .inr (7, [.int th, .ref (mo 1), .ref (mo 2), .int (nI sm), .ref (mo 3), .int (nI ln), .ref (mo 4), .int (nI k9), .int (nI fa9), .ref (mo 5), .ref (mo 6), .int (nI ((pTest tx ln (p + 1)).2)), .int (nI 1), .long dd]))], cMr v mo (upd (upd zt9 (5 * k9 + 4) (nI 0)) (5 * k9 + 4) (nI 0)), cMt v mo ft] _ _ []
                  refine g_pick (cs' := [[((mo 0), .inr (7, [.int th, .ref (mo 1), .ref (mo 2), .int (nI sm), .ref (mo 3), .int (nI ln), .ref (mo 4), .int (nI k9), .int (nI fa9), .ref (mo 5), .ref (mo 6), .int (nI ((pTest tx ln (p + 1)).2)), .int (nI 1), .long dd]))], cMt v mo ft, cMr v mo (upd (upd zt9 (5 * k9 + 4) (nI 0)) (5 * k9 + 4) (nI 0))]) [0, 2, 1] rfl rfl ?_
                  refine g_aload_n X dX7_readStatement_123 3 rfl rfl ?_
                  refine g_iload_n X dX7_readStatement_124 0 rfl rfl ?_
                  refine g_aload_n X dX7_readStatement_125 3 rfl rfl ?_
                  refine g_get X cb7 8 q_14_3 dX7_readStatement_126 0 0 rfl rfl (by decide) rfl rfl ?_
                  refine g_icmp_leN (tgt := 136) X dX7_readStatement_129 (by decide) (by omega) (by omega) (fun c129 => ?_) (fun c129 => ?_)
                  · refine g_aload_n X dX7_readStatement_136 3 rfl rfl ?_
                    refine g_get X cb7 8 q_14_3 dX7_readStatement_137 0 0 rfl rfl (by decide) rfl rfl ?_
                    refine g_put (cs' := [[((mo 0), .inr (7, [.int th, .ref (mo 1), .ref (mo 2), .int (nI sm), .ref (mo 3), .int (nI ln), .ref (mo 4), .int (nI k9), .int (nI fa9), .ref (mo 5), .ref (mo 6), .int (nI ((pTest tx ln (p + 1)).2)), .int (nI 1), .long dd]))], cMt v mo ft, cMr v mo (upd (upd zt9 (5 * k9 + 4) (nI 0)) (5 * k9 + 4) (nI 0))]) X cb7 8 q_14_3 dX7_readStatement_140 0 0 rfl rfl (by decide) rfl rfl (rfl) (rfl) (Nat.le_of_ble_eq_true rfl) rfl ?_
                    exact E dX7_readStatement_143 (by decide) (by decide) (by have e : pStmt tx ln p = (none, (pTest tx ln (p + 1)).2) := (by simp only [pStmt, if_neg (ne_rng hv5), if_pos (eq_rng hv18), hv54]); rw [e]; dsimp only; exact ⟨_, (Blw_u (Blw_u (Blw_tr (Blw_u Blw_0) zt9B))), rfl⟩)
                  · omega
                · exact absurd c87 (by decide)
            | some ahv54 =>
              have hp10q := hp10
              rw [hv54] at hp10
              have hbzt9 := pTest_b (tx := tx) (len := ln) (p := (p + 1))
              subst hp10
              show GG k _ _ [[((mo 0), .inr (7, [.int th, .ref (mo 1), .ref (mo 2), .int (nI sm), .ref (mo 3), .int (nI ln), .ref (mo 4), .int (nI k9), .int (nI fa9), .ref (mo 5), .ref (mo 6), .int (nI ((pTest tx ln (p + 1)).2)), .int (nI 0), .long dd]))], cMt v mo ft, cMr v mo (upd (upd (upd (upd fr (5 * k9 + 0) (nI 2)) (5 * k9 + 1) (nI ahv54.1)) (5 * k9 + 2) (nI (sgx ahv54.2.1))) (5 * k9 + 3) (nI (opm ahv54.2.2)))] _ _ []
              refine g_aload_n X dX7_readStatement_57 1 rfl rfl ?_
              refine g_iconst (x := nI 4) X dX7_readStatement_58 (by decide +kernel) ?_
              refine g_iconst (x := nI 0) X dX7_readStatement_59 (by decide +kernel) ?_
              refine g_callV (As := [.int (nI 4), .int (nI 0)]) (rest := []) (wr := [cMt v mo ft]) X (c_X7_puts l v mo th sm ln (nI fa9) (nI ((pTest tx ln (p + 1)).2)) (nI 0) dd k9 4 (nI 0) (upd (upd (upd (upd fr (5 * k9 + 0) (nI 2)) (5 * k9 + 1) (nI ahv54.1)) (5 * k9 + 2) (nI (sgx ahv54.2.1))) (5 * k9 + 3) (nI (opm ahv54.2.2))) (by omega) (by omega)) f_X7_puts q_15_3 dX7_readStatement_60 [0, 2] [1] rfl rfl (by decide) 0 rfl rfl rfl rfl (Nat.le_of_ble_eq_true rfl) (by decide) (fun r_ w_ hp15 => ?_)
              subst hp15
              show GG k _ _ [[((mo 0), .inr (7, [.int th, .ref (mo 1), .ref (mo 2), .int (nI sm), .ref (mo 3), .int (nI ln), .ref (mo 4), .int (nI k9), .int (nI fa9), .ref (mo 5), .ref (mo 6), .int (nI ((pTest tx ln (p + 1)).2)), .int (nI 0), .long dd]))], cMr v mo (upd (upd (upd (upd (upd fr (5 * k9 + 0) (nI 2)) (5 * k9 + 1) (nI ahv54.1)) (5 * k9 + 2) (nI (sgx ahv54.2.1))) (5 * k9 + 3) (nI (opm ahv54.2.2))) (5 * k9 + 4) (nI 0)), cMt v mo ft] _ _ []
              refine g_pick (cs' := [[((mo 0), .inr (7, [.int th, .ref (mo 1), .ref (mo 2), .int (nI sm), .ref (mo 3), .int (nI ln), .ref (mo 4), .int (nI k9), .int (nI fa9), .ref (mo 5), .ref (mo 6), .int (nI ((pTest tx ln (p + 1)).2)), .int (nI 0), .long dd]))], cMt v mo ft, cMr v mo (upd (upd (upd (upd (upd fr (5 * k9 + 0) (nI 2)) (5 * k9 + 1) (nI ahv54.1)) (5 * k9 + 2) (nI (sgx ahv54.2.1))) (5 * k9 + 3) (nI (opm ahv54.2.2))) (5 * k9 + 4) (nI 0))]) [0, 2, 1] rfl rfl ?_
              refine g_iload_n X dX7_readStatement_63 0 rfl rfl ?_
              refine g_if_neN (tgt := 143) X dX7_readStatement_64 (by decide) (by omega) (fun c64 => ?_) (fun c64 => ?_)
              · exact absurd rfl c64
              · refine g_aload_n X dX7_readStatement_67 1 rfl rfl ?_
                refine g_bipush (x := nI 64) X dX7_readStatement_68 (by decide +kernel) ?_
                refine g_bipush (x := nI 64) X dX7_readStatement_70 (by decide +kernel) ?_
                refine g_callV (As := [.int (nI 64), .int (nI 64)]) (rest := []) (wr := [cMr v mo (upd (upd (upd (upd (upd fr (5 * k9 + 0) (nI 2)) (5 * k9 + 1) (nI ahv54.1)) (5 * k9 + 2) (nI (sgx ahv54.2.1))) (5 * k9 + 3) (nI (opm ahv54.2.2))) (5 * k9 + 4) (nI 0))]) X (c_X7_takes l v mo th sm ln (nI k9) (nI fa9) dd tx ft ((pTest tx ln (p + 1)).2) 64 64 hT (by omega) (by omega) (by omega) (by omega)) f_X7_takes q_15_7 dX7_readStatement_72 [0, 1] [2] rfl rfl (by decide) 0 rfl rfl rfl rfl (Nat.le_of_ble_eq_true rfl) (by decide) (fun r_ w_ hp17 => ?_)
                by_cases hv72 : 64 ≤ nxc tx ln ((pTest tx ln (p + 1)).2) ∧ nxc tx ln ((pTest tx ln (p + 1)).2) ≤ 64
                · have hp17q := hp17
                  rw [if_pos hv72] at hp17
                  have hz16 := nxc_lt hT ((pTest tx ln (p + 1)).2)
                  obtain ⟨rfl, rfl⟩ := hp17
                  show GG k _ _ [[((mo 0), .inr (7, [.int th, .ref (mo 1), .ref (mo 2), .int (nI sm), .ref (mo 3), .int (nI ln), .ref (mo 4), .int (nI k9), .int (nI fa9), .ref (mo 5), .ref (mo 6), .int (nI ((pTest tx ln (p + 1)).2 + 1)), .int (nI 0), .long dd]))], cMt v mo ft, cMr v mo (upd (upd (upd (upd (upd fr (5 * k9 + 0) (nI 2)) (5 * k9 + 1) (nI ahv54.1)) (5 * k9 + 2) (nI (sgx ahv54.2.1))) (5 * k9 + 3) (nI (opm ahv54.2.2))) (5 * k9 + 4) (nI 0))] _ _ [.int (nI (nxc tx ln ((pTest tx ln (p + 1)).2) - 64))]
                  refine g_istore_n (lv' := [(2, .int (nI (nxc tx ln ((pTest tx ln (p + 1)).2) - 64))), (1, .int (nI 0)), (0, .ref (mo 0))]) X dX7_readStatement_75 rfl (by decide) rfl ?_
                  refine g_aload_n X dX7_readStatement_76 2 rfl rfl ?_
                  refine g_bipush (x := nI 48) X dX7_readStatement_77 (by decide +kernel) ?_
                  refine g_bipush (x := nI 57) X dX7_readStatement_79 (by decide +kernel) ?_
                  refine g_callV (As := [.int (nI 48), .int (nI 57)]) (rest := []) (wr := [cMr v mo (upd (upd (upd (upd (upd fr (5 * k9 + 0) (nI 2)) (5 * k9 + 1) (nI ahv54.1)) (5 * k9 + 2) (nI (sgx ahv54.2.1))) (5 * k9 + 3) (nI (opm ahv54.2.2))) (5 * k9 + 4) (nI 0))]) X (c_X7_takes l v mo th sm ln (nI k9) (nI fa9) dd tx ft ((pTest tx ln (p + 1)).2 + 1) 48 57 hT (by omega) (by omega) (by omega) (by omega)) f_X7_takes q_15_7 dX7_readStatement_81 [0, 1] [2] rfl rfl (by decide) 0 rfl rfl rfl rfl (Nat.le_of_ble_eq_true rfl) (by decide) (fun r_ w_ hp19 => ?_)
                  by_cases hv81 : 48 ≤ nxc tx ln ((pTest tx ln (p + 1)).2 + 1) ∧ nxc tx ln ((pTest tx ln (p + 1)).2 + 1) ≤ 57
                  · have hp19q := hp19
                    rw [if_pos hv81] at hp19
                    have hz18 := nxc_lt hT ((pTest tx ln (p + 1)).2 + 1)
                    obtain ⟨rfl, rfl⟩ := hp19
                    show GG k _ _ [[((mo 0), .inr (7, [.int th, .ref (mo 1), .ref (mo 2), .int (nI sm), .ref (mo 3), .int (nI ln), .ref (mo 4), .int (nI k9), .int (nI fa9), .ref (mo 5), .ref (mo 6), .int (nI ((pTest tx ln (p + 1)).2 + 1 + 1)), .int (nI 0), .long dd]))], cMt v mo ft, cMr v mo (upd (upd (upd (upd (upd fr (5 * k9 + 0) (nI 2)) (5 * k9 + 1) (nI ahv54.1)) (5 * k9 + 2) (nI (sgx ahv54.2.1))) (5 * k9 + 3) (nI (opm ahv54.2.2))) (5 * k9 + 4) (nI 0))] _ _ [.int (nI (nxc tx ln ((pTest tx ln (p + 1)).2 + 1) - 48))]
                    refine g_istore_n (lv' := [(3, .int (nI (nxc tx ln ((pTest tx ln (p + 1)).2 + 1) - 48))), (2, .int (nI (nxc tx ln ((pTest tx ln (p + 1)).2) - 64))), (1, .int (nI 0)), (0, .ref (mo 0))]) X dX7_readStatement_84 rfl (by decide) rfl ?_
                    refine g_iload_n X dX7_readStatement_85 0 rfl rfl ?_
                    refine g_iconst (x := nI 1) X dX7_readStatement_86 (by decide +kernel) ?_
                    refine g_icmp_neN (tgt := 115) X dX7_readStatement_87 (by decide) (by omega) (by omega) (fun c87 => ?_) (fun c87 => ?_)
                    · refine g_iload_n X dX7_readStatement_115 0 rfl rfl ?_
                      refine g_istore_n (lv' := [(3, .int (nI (nxc tx ln ((pTest tx ln (p + 1)).2 + 1) - 48))), (2, .int (nI (nxc tx ln ((pTest tx ln (p + 1)).2) - 64))), (1, .int (nI 0)), (0, .ref (mo 0))]) X dX7_readStatement_116 rfl (by decide) rfl ?_
                      refine g_aload_n X dX7_readStatement_117 3 rfl rfl ?_
                      refine g_iconst (x := nI 4) X dX7_readStatement_118 (by decide +kernel) ?_
                      refine g_iload_n X dX7_readStatement_119 0 rfl rfl ?_
                      refine g_callV (As := [.int (nI 4), .int (nI (nxc tx ln ((pTest tx ln (p + 1)).2 + 1) - 48))]) (rest := []) (wr := [cMt v mo ft]) X (c_X7_puts l v mo th sm ln (nI fa9) (nI ((pTest tx ln (p + 1)).2 + 1 + 1)) (nI 0) dd k9 4 (nI (nxc tx ln ((pTest tx ln (p + 1)).2 + 1) - 48)) (upd (upd (upd (upd (upd fr (5 * k9 + 0) (nI 2)) (5 * k9 + 1) (nI ahv54.1)) (5 * k9 + 2) (nI (sgx ahv54.2.1))) (5 * k9 + 3) (nI (opm ahv54.2.2))) (5 * k9 + 4) (nI 0)) (by omega) (by omega)) f_X7_puts q_15_3 dX7_readStatement_120 [0, 2] [1] rfl rfl (by decide) 0 rfl rfl rfl rfl (Nat.le_of_ble_eq_true rfl) (by decide) (fun r_ w_ hp20 => ?_)
                      subst hp20
                      show GG k _ _ [[((mo 0), .inr (7, [.int th, .ref (mo 1), .ref (mo 2), .int (nI sm), .ref (mo 3), .int (nI ln), .ref (mo 4), .int (nI k9), .int (nI fa9), .ref (mo 5), .ref (mo 6), .int (nI ((pTest tx ln (p + 1)).2 + 1 + 1)), .int (nI 0), .long dd]))], cMr v mo (upd (upd (upd (upd (upd (upd fr (5 * k9 + 0) (nI 2)) (5 * k9 + 1) (nI ahv54.1)) (5 * k9 + 2) (nI (sgx ahv54.2.1))) (5 * k9 + 3) (nI (opm ahv54.2.2))) (5 * k9 + 4) (nI 0)) (5 * k9 + 4) (nI (nxc tx ln ((pTest tx ln (p + 1)).2 + 1) - 48))), cMt v mo ft] _ _ []
                      refine g_pick (cs' := [[((mo 0), .inr (7, [.int th, .ref (mo 1), .ref (mo 2), .int (nI sm), .ref (mo 3), .int (nI ln), .ref (mo 4), .int (nI k9), .int (nI fa9), .ref (mo 5), .ref (mo 6), .int (nI ((pTest tx ln (p + 1)).2 + 1 + 1)), .int (nI 0), .long dd]))], cMt v mo ft, cMr v mo (upd (upd (upd (upd (upd (upd fr (5 * k9 + 0) (nI 2)) (5 * k9 + 1) (nI ahv54.1)) (5 * k9 + 2) (nI (sgx ahv54.2.1))) (5 * k9 + 3) (nI (opm ahv54.2.2))) (5 * k9 + 4) (nI 0)) (5 * k9 + 4) (nI (nxc tx ln ((pTest tx ln (p + 1)).2 + 1) - 48)))]) [0, 2, 1] rfl rfl ?_
                      refine g_aload_n X dX7_readStatement_123 3 rfl rfl ?_
                      refine g_iload_n X dX7_readStatement_124 0 rfl rfl ?_
                      refine g_aload_n X dX7_readStatement_125 3 rfl rfl ?_
                      refine g_get X cb7 8 q_14_3 dX7_readStatement_126 0 0 rfl rfl (by decide) rfl rfl ?_
                      refine g_icmp_leN (tgt := 136) X dX7_readStatement_129 (by decide) (by omega) (by omega) (fun c129 => ?_) (fun c129 => ?_)
                      · refine g_aload_n X dX7_readStatement_136 3 rfl rfl ?_
                        refine g_get X cb7 8 q_14_3 dX7_readStatement_137 0 0 rfl rfl (by decide) rfl rfl ?_
                        refine g_put (cs' := [[((mo 0), .inr (7, [.int th, .ref (mo 1), .ref (mo 2), .int (nI sm), .ref (mo 3), .int (nI ln), .ref (mo 4), .int (nI k9), .int (nI fa9), .ref (mo 5), .ref (mo 6), .int (nI ((pTest tx ln (p + 1)).2 + 1 + 1)), .int (nI 0), .long dd]))], cMt v mo ft, cMr v mo (upd (upd (upd (upd (upd (upd fr (5 * k9 + 0) (nI 2)) (5 * k9 + 1) (nI ahv54.1)) (5 * k9 + 2) (nI (sgx ahv54.2.1))) (5 * k9 + 3) (nI (opm ahv54.2.2))) (5 * k9 + 4) (nI 0)) (5 * k9 + 4) (nI (nxc tx ln ((pTest tx ln (p + 1)).2 + 1) - 48)))]) X cb7 8 q_14_3 dX7_readStatement_140 0 0 rfl rfl (by decide) rfl rfl (rfl) (rfl) (Nat.le_of_ble_eq_true rfl) rfl ?_
                        exact E dX7_readStatement_143 (by decide) (by decide) (by have e : pStmt tx ln p = (some (2, ahv54.1, ahv54.2.1, ahv54.2.2, (((nxc tx ln ((pTest tx ln (p + 1)).2 + 1) - 48) : Nat) : Int)), (pTest tx ln (p + 1)).2 + 1 + 1) := (by simp only [pStmt, if_neg (ne_rng hv5), if_pos (eq_rng hv18), hv54, if_pos (eq_rng hv72), pGoal_1 hv81 (by omega)]); rw [e]; dsimp only; rw [(show fmx fa9 (2, ahv54.1, ahv54.2.1, ahv54.2.2, (((nxc tx ln ((pTest tx ln (p + 1)).2 + 1) - 48) : Nat) : Int)) = fa9 from if_neg (fun z9 => by have h9 : (fa9 : Int) < (((nxc tx ln ((pTest tx ln (p + 1)).2 + 1) - 48) : Nat) : Int) := z9.2; omega))]; exact ⟨_, (Blw_u (Blw_u (Blw_u (Blw_u (Blw_u (Blw_u Blw_0)))))), RW9_num (RW9_mk (s := (2, ahv54.1, ahv54.2.1, ahv54.2.2, 0)) rfl rfl rfl rfl zI0.symm) (zI_nI _), rfl⟩)
                      · refine g_iload_n X dX7_readStatement_132 0 rfl rfl ?_
                        refine g_goto (tgt := 140) X dX7_readStatement_133 (by decide) ?_
                        refine g_put (cs' := [[((mo 0), .inr (7, [.int th, .ref (mo 1), .ref (mo 2), .int (nI sm), .ref (mo 3), .int (nI ln), .ref (mo 4), .int (nI k9), .int (nI (nxc tx ln ((pTest tx ln (p + 1)).2 + 1) - 48)), .ref (mo 5), .ref (mo 6), .int (nI ((pTest tx ln (p + 1)).2 + 1 + 1)), .int (nI 0), .long dd]))], cMt v mo ft, cMr v mo (upd (upd (upd (upd (upd (upd fr (5 * k9 + 0) (nI 2)) (5 * k9 + 1) (nI ahv54.1)) (5 * k9 + 2) (nI (sgx ahv54.2.1))) (5 * k9 + 3) (nI (opm ahv54.2.2))) (5 * k9 + 4) (nI 0)) (5 * k9 + 4) (nI (nxc tx ln ((pTest tx ln (p + 1)).2 + 1) - 48)))]) X cb7 8 q_14_3 dX7_readStatement_140 0 0 rfl rfl (by decide) rfl rfl (rfl) (rfl) (Nat.le_of_ble_eq_true rfl) rfl ?_
                        exact E dX7_readStatement_143 (by decide) (by decide) (by have e : pStmt tx ln p = (some (2, ahv54.1, ahv54.2.1, ahv54.2.2, (((nxc tx ln ((pTest tx ln (p + 1)).2 + 1) - 48) : Nat) : Int)), (pTest tx ln (p + 1)).2 + 1 + 1) := (by simp only [pStmt, if_neg (ne_rng hv5), if_pos (eq_rng hv18), hv54, if_pos (eq_rng hv72), pGoal_1 hv81 (by omega)]); rw [e]; dsimp only; rw [(show fmx fa9 (2, ahv54.1, ahv54.2.1, ahv54.2.2, (((nxc tx ln ((pTest tx ln (p + 1)).2 + 1) - 48) : Nat) : Int)) = (nxc tx ln ((pTest tx ln (p + 1)).2 + 1) - 48) from (if_pos ⟨rfl, by show (fa9 : Int) < (((nxc tx ln ((pTest tx ln (p + 1)).2 + 1) - 48) : Nat) : Int); omega⟩).trans (Int.toNat_natCast _))]; exact ⟨_, (Blw_u (Blw_u (Blw_u (Blw_u (Blw_u (Blw_u Blw_0)))))), RW9_num (RW9_mk (s := (2, ahv54.1, ahv54.2.1, ahv54.2.2, 0)) rfl rfl rfl rfl zI0.symm) (zI_nI _), rfl⟩)
                    · refine g_aload_n X dX7_readStatement_90 3 rfl rfl ?_
                      refine g_bipush (x := nI 48) X dX7_readStatement_91 (by decide +kernel) ?_
                      refine g_bipush (x := nI 50) X dX7_readStatement_93 (by decide +kernel) ?_
                      refine g_callV (As := [.int (nI 48), .int (nI 50)]) (rest := []) (wr := [cMr v mo (upd (upd (upd (upd (upd fr (5 * k9 + 0) (nI 2)) (5 * k9 + 1) (nI ahv54.1)) (5 * k9 + 2) (nI (sgx ahv54.2.1))) (5 * k9 + 3) (nI (opm ahv54.2.2))) (5 * k9 + 4) (nI 0))]) X (nx_s l v mo th sm ln (nI k9) (nI fa9) dd tx ft ((pTest tx ln (p + 1)).2 + 1 + 1) 48 50 hT (by omega) (by omega) (by omega) (by omega)) f_X7_isNext q_14_16 dX7_readStatement_95 [0, 1] [2] rfl rfl (by decide) 0 rfl rfl rfl rfl (Nat.le_of_ble_eq_true rfl) (by decide) (fun r_ w_ hp21 => ?_)
                      by_cases hv95 : 48 ≤ nxc tx ln ((pTest tx ln (p + 1)).2 + 1 + 1) ∧ nxc tx ln ((pTest tx ln (p + 1)).2 + 1 + 1) ≤ 50
                      · have hp21q := hp21
                        rw [if_pos hv95] at hp21
                        obtain ⟨rfl, rfl⟩ := hp21
                        show GG k _ _ [[((mo 0), .inr (7, [.int th, .ref (mo 1), .ref (mo 2), .int (nI sm), .ref (mo 3), .int (nI ln), .ref (mo 4), .int (nI k9), .int (nI fa9), .ref (mo 5), .ref (mo 6), .int (nI ((pTest tx ln (p + 1)).2 + 1 + 1)), .int (nI 0), .long dd]))], cMt v mo ft, cMr v mo (upd (upd (upd (upd (upd fr (5 * k9 + 0) (nI 2)) (5 * k9 + 1) (nI ahv54.1)) (5 * k9 + 2) (nI (sgx ahv54.2.1))) (5 * k9 + 3) (nI (opm ahv54.2.2))) (5 * k9 + 4) (nI 0))] _ _ [.int (nI 1)]
                        refine g_if_eqN (tgt := 115) X dX7_readStatement_98 (by decide) (by omega) (fun c98 => ?_) (fun c98 => ?_)
                        · exact absurd c98 (by decide)
                        · refine g_bipush (x := nI 10) X dX7_readStatement_101 (by decide +kernel) ?_
                          refine g_aload_n X dX7_readStatement_103 3 rfl rfl ?_
                          refine g_bipush (x := nI 48) X dX7_readStatement_104 (by decide +kernel) ?_
                          refine g_bipush (x := nI 50) X dX7_readStatement_106 (by decide +kernel) ?_
                          refine g_callV (As := [.int (nI 48), .int (nI 50)]) (rest := [.int (nI 10)]) (wr := [cMr v mo (upd (upd (upd (upd (upd fr (5 * k9 + 0) (nI 2)) (5 * k9 + 1) (nI ahv54.1)) (5 * k9 + 2) (nI (sgx ahv54.2.1))) (5 * k9 + 3) (nI (opm ahv54.2.2))) (5 * k9 + 4) (nI 0))]) X (c_X7_takes l v mo th sm ln (nI k9) (nI fa9) dd tx ft ((pTest tx ln (p + 1)).2 + 1 + 1) 48 50 hT (by omega) (by omega) (by omega) (by omega)) f_X7_takes q_15_7 dX7_readStatement_108 [0, 1] [2] rfl rfl (by decide) 0 rfl rfl rfl rfl (Nat.le_of_ble_eq_true rfl) (by decide) (fun r_ w_ hp23 => ?_)
                          have hp23q := hp23
                          rw [if_pos hv95] at hp23
                          have hz22 := nxc_lt hT ((pTest tx ln (p + 1)).2 + 1 + 1)
                          obtain ⟨rfl, rfl⟩ := hp23
                          show GG k _ _ [[((mo 0), .inr (7, [.int th, .ref (mo 1), .ref (mo 2), .int (nI sm), .ref (mo 3), .int (nI ln), .ref (mo 4), .int (nI k9), .int (nI fa9), .ref (mo 5), .ref (mo 6), .int (nI ((pTest tx ln (p + 1)).2 + 1 + 1 + 1)), .int (nI 0), .long dd]))], cMt v mo ft, cMr v mo (upd (upd (upd (upd (upd fr (5 * k9 + 0) (nI 2)) (5 * k9 + 1) (nI ahv54.1)) (5 * k9 + 2) (nI (sgx ahv54.2.1))) (5 * k9 + 3) (nI (opm ahv54.2.2))) (5 * k9 + 4) (nI 0))] _ _ [.int (nI (nxc tx ln ((pTest tx ln (p + 1)).2 + 1 + 1) - 48)), .int (nI 10)]
                          refine g_iaddN X dX7_readStatement_111 ?_
                          refine g_goto (tgt := 116) X dX7_readStatement_112 (by decide) ?_
                          refine g_istore_n (lv' := [(3, .int (nI (10 + (nxc tx ln ((pTest tx ln (p + 1)).2 + 1 + 1) - 48)))), (2, .int (nI (nxc tx ln ((pTest tx ln (p + 1)).2) - 64))), (1, .int (nI 0)), (0, .ref (mo 0))]) X dX7_readStatement_116 rfl (by decide) rfl ?_
                          refine g_aload_n X dX7_readStatement_117 3 rfl rfl ?_
                          refine g_iconst (x := nI 4) X dX7_readStatement_118 (by decide +kernel) ?_
                          refine g_iload_n X dX7_readStatement_119 0 rfl rfl ?_
                          refine g_callV (As := [.int (nI 4), .int (nI (10 + (nxc tx ln ((pTest tx ln (p + 1)).2 + 1 + 1) - 48)))]) (rest := []) (wr := [cMt v mo ft]) X (c_X7_puts l v mo th sm ln (nI fa9) (nI ((pTest tx ln (p + 1)).2 + 1 + 1 + 1)) (nI 0) dd k9 4 (nI (10 + (nxc tx ln ((pTest tx ln (p + 1)).2 + 1 + 1) - 48))) (upd (upd (upd (upd (upd fr (5 * k9 + 0) (nI 2)) (5 * k9 + 1) (nI ahv54.1)) (5 * k9 + 2) (nI (sgx ahv54.2.1))) (5 * k9 + 3) (nI (opm ahv54.2.2))) (5 * k9 + 4) (nI 0)) (by omega) (by omega)) f_X7_puts q_15_3 dX7_readStatement_120 [0, 2] [1] rfl rfl (by decide) 0 rfl rfl rfl rfl (Nat.le_of_ble_eq_true rfl) (by decide) (fun r_ w_ hp24 => ?_)
                          subst hp24
                          show GG k _ _ [[((mo 0), .inr (7, [.int th, .ref (mo 1), .ref (mo 2), .int (nI sm), .ref (mo 3), .int (nI ln), .ref (mo 4), .int (nI k9), .int (nI fa9), .ref (mo 5), .ref (mo 6), .int (nI ((pTest tx ln (p + 1)).2 + 1 + 1 + 1)), .int (nI 0), .long dd]))], cMr v mo (upd (upd (upd (upd (upd (upd fr (5 * k9 + 0) (nI 2)) (5 * k9 + 1) (nI ahv54.1)) (5 * k9 + 2) (nI (sgx ahv54.2.1))) (5 * k9 + 3) (nI (opm ahv54.2.2))) (5 * k9 + 4) (nI 0)) (5 * k9 + 4) (nI (10 + (nxc tx ln ((pTest tx ln (p + 1)).2 + 1 + 1) - 48)))), cMt v mo ft] _ _ []
                          refine g_pick (cs' := [[((mo 0), .inr (7, [.int th, .ref (mo 1), .ref (mo 2), .int (nI sm), .ref (mo 3), .int (nI ln), .ref (mo 4), .int (nI k9), .int (nI fa9), .ref (mo 5), .ref (mo 6), .int (nI ((pTest tx ln (p + 1)).2 + 1 + 1 + 1)), .int (nI 0), .long dd]))], cMt v mo ft, cMr v mo (upd (upd (upd (upd (upd (upd fr (5 * k9 + 0) (nI 2)) (5 * k9 + 1) (nI ahv54.1)) (5 * k9 + 2) (nI (sgx ahv54.2.1))) (5 * k9 + 3) (nI (opm ahv54.2.2))) (5 * k9 + 4) (nI 0)) (5 * k9 + 4) (nI (10 + (nxc tx ln ((pTest tx ln (p + 1)).2 + 1 + 1) - 48))))]) [0, 2, 1] rfl rfl ?_
                          refine g_aload_n X dX7_readStatement_123 3 rfl rfl ?_
                          refine g_iload_n X dX7_readStatement_124 0 rfl rfl ?_
                          refine g_aload_n X dX7_readStatement_125 3 rfl rfl ?_
                          refine g_get X cb7 8 q_14_3 dX7_readStatement_126 0 0 rfl rfl (by decide) rfl rfl ?_
                          refine g_icmp_leN (tgt := 136) X dX7_readStatement_129 (by decide) (by omega) (by omega) (fun c129 => ?_) (fun c129 => ?_)
                          · refine g_aload_n X dX7_readStatement_136 3 rfl rfl ?_
                            refine g_get X cb7 8 q_14_3 dX7_readStatement_137 0 0 rfl rfl (by decide) rfl rfl ?_
                            refine g_put (cs' := [[((mo 0), .inr (7, [.int th, .ref (mo 1), .ref (mo 2), .int (nI sm), .ref (mo 3), .int (nI ln), .ref (mo 4), .int (nI k9), .int (nI fa9), .ref (mo 5), .ref (mo 6), .int (nI ((pTest tx ln (p + 1)).2 + 1 + 1 + 1)), .int (nI 0), .long dd]))], cMt v mo ft, cMr v mo (upd (upd (upd (upd (upd (upd fr (5 * k9 + 0) (nI 2)) (5 * k9 + 1) (nI ahv54.1)) (5 * k9 + 2) (nI (sgx ahv54.2.1))) (5 * k9 + 3) (nI (opm ahv54.2.2))) (5 * k9 + 4) (nI 0)) (5 * k9 + 4) (nI (10 + (nxc tx ln ((pTest tx ln (p + 1)).2 + 1 + 1) - 48))))]) X cb7 8 q_14_3 dX7_readStatement_140 0 0 rfl rfl (by decide) rfl rfl (rfl) (rfl) (Nat.le_of_ble_eq_true rfl) rfl ?_
                            exact E dX7_readStatement_143 (by decide) (by decide) (by have e : pStmt tx ln p = (some (2, ahv54.1, ahv54.2.1, ahv54.2.2, ((10 + (nxc tx ln ((pTest tx ln (p + 1)).2 + 1 + 1) - 48) : Nat) : Int)), (pTest tx ln (p + 1)).2 + 1 + 1 + 1) := (by simp only [pStmt, if_neg (ne_rng hv5), if_pos (eq_rng hv18), hv54, if_pos (eq_rng hv72), pGoal_2 hv81 ⟨by omega, hv95⟩]); rw [e]; dsimp only; rw [(show fmx fa9 (2, ahv54.1, ahv54.2.1, ahv54.2.2, ((10 + (nxc tx ln ((pTest tx ln (p + 1)).2 + 1 + 1) - 48) : Nat) : Int)) = fa9 from if_neg (fun z9 => by have h9 : (fa9 : Int) < ((10 + (nxc tx ln ((pTest tx ln (p + 1)).2 + 1 + 1) - 48) : Nat) : Int) := z9.2; omega))]; exact ⟨_, (Blw_u (Blw_u (Blw_u (Blw_u (Blw_u (Blw_u Blw_0)))))), RW9_num (RW9_mk (s := (2, ahv54.1, ahv54.2.1, ahv54.2.2, 0)) rfl rfl rfl rfl zI0.symm) (zI_nI _), rfl⟩)
                          · refine g_iload_n X dX7_readStatement_132 0 rfl rfl ?_
                            refine g_goto (tgt := 140) X dX7_readStatement_133 (by decide) ?_
                            refine g_put (cs' := [[((mo 0), .inr (7, [.int th, .ref (mo 1), .ref (mo 2), .int (nI sm), .ref (mo 3), .int (nI ln), .ref (mo 4), .int (nI k9), .int (nI (10 + (nxc tx ln ((pTest tx ln (p + 1)).2 + 1 + 1) - 48))), .ref (mo 5), .ref (mo 6), .int (nI ((pTest tx ln (p + 1)).2 + 1 + 1 + 1)), .int (nI 0), .long dd]))], cMt v mo ft, cMr v mo (upd (upd (upd (upd (upd (upd fr (5 * k9 + 0) (nI 2)) (5 * k9 + 1) (nI ahv54.1)) (5 * k9 + 2) (nI (sgx ahv54.2.1))) (5 * k9 + 3) (nI (opm ahv54.2.2))) (5 * k9 + 4) (nI 0)) (5 * k9 + 4) (nI (10 + (nxc tx ln ((pTest tx ln (p + 1)).2 + 1 + 1) - 48))))]) X cb7 8 q_14_3 dX7_readStatement_140 0 0 rfl rfl (by decide) rfl rfl (rfl) (rfl) (Nat.le_of_ble_eq_true rfl) rfl ?_
                            exact E dX7_readStatement_143 (by decide) (by decide) (by have e : pStmt tx ln p = (some (2, ahv54.1, ahv54.2.1, ahv54.2.2, ((10 + (nxc tx ln ((pTest tx ln (p + 1)).2 + 1 + 1) - 48) : Nat) : Int)), (pTest tx ln (p + 1)).2 + 1 + 1 + 1) := (by simp only [pStmt, if_neg (ne_rng hv5), if_pos (eq_rng hv18), hv54, if_pos (eq_rng hv72), pGoal_2 hv81 ⟨by omega, hv95⟩]); rw [e]; dsimp only; rw [(show fmx fa9 (2, ahv54.1, ahv54.2.1, ahv54.2.2, ((10 + (nxc tx ln ((pTest tx ln (p + 1)).2 + 1 + 1) - 48) : Nat) : Int)) = 10 + (nxc tx ln ((pTest tx ln (p + 1)).2 + 1 + 1) - 48) from (if_pos ⟨rfl, by show (fa9 : Int) < ((10 + (nxc tx ln ((pTest tx ln (p + 1)).2 + 1 + 1) - 48) : Nat) : Int); omega⟩).trans (Int.toNat_natCast _))]; exact ⟨_, (Blw_u (Blw_u (Blw_u (Blw_u (Blw_u (Blw_u Blw_0)))))), RW9_num (RW9_mk (s := (2, ahv54.1, ahv54.2.1, ahv54.2.2, 0)) rfl rfl rfl rfl zI0.symm) (zI_nI _), rfl⟩)
                      · have hp21q := hp21
                        rw [if_neg hv95] at hp21
                        obtain ⟨rfl, rfl⟩ := hp21
                        show GG k _ _ [[((mo 0), .inr (7, [.int th, .ref (mo 1), .ref (mo 2), .int (nI sm), .ref (mo 3), .int (nI ln), .ref (mo 4), .int (nI k9), .int (nI fa9), .ref (mo 5), .ref (mo 6), .int (nI ((pTest tx ln (p + 1)).2 + 1 + 1)), .int (nI 0), .long dd]))], cMt v mo ft, cMr v mo (upd (upd (upd (upd (upd fr (5 * k9 + 0) (nI 2)) (5 * k9 + 1) (nI ahv54.1)) (5 * k9 + 2) (nI (sgx ahv54.2.1))) (5 * k9 + 3) (nI (opm ahv54.2.2))) (5 * k9 + 4) (nI 0))] _ _ [.int (nI 0)]
                        refine g_if_eqN (tgt := 115) X dX7_readStatement_98 (by decide) (by omega) (fun c98 => ?_) (fun c98 => ?_)
                        · refine g_iload_n X dX7_readStatement_115 0 rfl rfl ?_
                          refine g_istore_n (lv' := [(3, .int (nI (nxc tx ln ((pTest tx ln (p + 1)).2 + 1) - 48))), (2, .int (nI (nxc tx ln ((pTest tx ln (p + 1)).2) - 64))), (1, .int (nI 0)), (0, .ref (mo 0))]) X dX7_readStatement_116 rfl (by decide) rfl ?_
                          refine g_aload_n X dX7_readStatement_117 3 rfl rfl ?_
                          refine g_iconst (x := nI 4) X dX7_readStatement_118 (by decide +kernel) ?_
                          refine g_iload_n X dX7_readStatement_119 0 rfl rfl ?_
                          refine g_callV (As := [.int (nI 4), .int (nI (nxc tx ln ((pTest tx ln (p + 1)).2 + 1) - 48))]) (rest := []) (wr := [cMt v mo ft]) X (c_X7_puts l v mo th sm ln (nI fa9) (nI ((pTest tx ln (p + 1)).2 + 1 + 1)) (nI 0) dd k9 4 (nI (nxc tx ln ((pTest tx ln (p + 1)).2 + 1) - 48)) (upd (upd (upd (upd (upd fr (5 * k9 + 0) (nI 2)) (5 * k9 + 1) (nI ahv54.1)) (5 * k9 + 2) (nI (sgx ahv54.2.1))) (5 * k9 + 3) (nI (opm ahv54.2.2))) (5 * k9 + 4) (nI 0)) (by omega) (by omega)) f_X7_puts q_15_3 dX7_readStatement_120 [0, 2] [1] rfl rfl (by decide) 0 rfl rfl rfl rfl (Nat.le_of_ble_eq_true rfl) (by decide) (fun r_ w_ hp25 => ?_)
                          subst hp25
                          show GG k _ _ [[((mo 0), .inr (7, [.int th, .ref (mo 1), .ref (mo 2), .int (nI sm), .ref (mo 3), .int (nI ln), .ref (mo 4), .int (nI k9), .int (nI fa9), .ref (mo 5), .ref (mo 6), .int (nI ((pTest tx ln (p + 1)).2 + 1 + 1)), .int (nI 0), .long dd]))], cMr v mo (upd (upd (upd (upd (upd (upd fr (5 * k9 + 0) (nI 2)) (5 * k9 + 1) (nI ahv54.1)) (5 * k9 + 2) (nI (sgx ahv54.2.1))) (5 * k9 + 3) (nI (opm ahv54.2.2))) (5 * k9 + 4) (nI 0)) (5 * k9 + 4) (nI (nxc tx ln ((pTest tx ln (p + 1)).2 + 1) - 48))), cMt v mo ft] _ _ []
                          refine g_pick (cs' := [[((mo 0), .inr (7, [.int th, .ref (mo 1), .ref (mo 2), .int (nI sm), .ref (mo 3), .int (nI ln), .ref (mo 4), .int (nI k9), .int (nI fa9), .ref (mo 5), .ref (mo 6), .int (nI ((pTest tx ln (p + 1)).2 + 1 + 1)), .int (nI 0), .long dd]))], cMt v mo ft, cMr v mo (upd (upd (upd (upd (upd (upd fr (5 * k9 + 0) (nI 2)) (5 * k9 + 1) (nI ahv54.1)) (5 * k9 + 2) (nI (sgx ahv54.2.1))) (5 * k9 + 3) (nI (opm ahv54.2.2))) (5 * k9 + 4) (nI 0)) (5 * k9 + 4) (nI (nxc tx ln ((pTest tx ln (p + 1)).2 + 1) - 48)))]) [0, 2, 1] rfl rfl ?_
                          refine g_aload_n X dX7_readStatement_123 3 rfl rfl ?_
                          refine g_iload_n X dX7_readStatement_124 0 rfl rfl ?_
                          refine g_aload_n X dX7_readStatement_125 3 rfl rfl ?_
                          refine g_get X cb7 8 q_14_3 dX7_readStatement_126 0 0 rfl rfl (by decide) rfl rfl ?_
                          refine g_icmp_leN (tgt := 136) X dX7_readStatement_129 (by decide) (by omega) (by omega) (fun c129 => ?_) (fun c129 => ?_)
                          · refine g_aload_n X dX7_readStatement_136 3 rfl rfl ?_
                            refine g_get X cb7 8 q_14_3 dX7_readStatement_137 0 0 rfl rfl (by decide) rfl rfl ?_
                            refine g_put (cs' := [[((mo 0), .inr (7, [.int th, .ref (mo 1), .ref (mo 2), .int (nI sm), .ref (mo 3), .int (nI ln), .ref (mo 4), .int (nI k9), .int (nI fa9), .ref (mo 5), .ref (mo 6), .int (nI ((pTest tx ln (p + 1)).2 + 1 + 1)), .int (nI 0), .long dd]))], cMt v mo ft, cMr v mo (upd (upd (upd (upd (upd (upd fr (5 * k9 + 0) (nI 2)) (5 * k9 + 1) (nI ahv54.1)) (5 * k9 + 2) (nI (sgx ahv54.2.1))) (5 * k9 + 3) (nI (opm ahv54.2.2))) (5 * k9 + 4) (nI 0)) (5 * k9 + 4) (nI (nxc tx ln ((pTest tx ln (p + 1)).2 + 1) - 48)))]) X cb7 8 q_14_3 dX7_readStatement_140 0 0 rfl rfl (by decide) rfl rfl (rfl) (rfl) (Nat.le_of_ble_eq_true rfl) rfl ?_
                            exact E dX7_readStatement_143 (by decide) (by decide) (by have e : pStmt tx ln p = (some (2, ahv54.1, ahv54.2.1, ahv54.2.2, (((nxc tx ln ((pTest tx ln (p + 1)).2 + 1) - 48) : Nat) : Int)), (pTest tx ln (p + 1)).2 + 1 + 1) := (by simp only [pStmt, if_neg (ne_rng hv5), if_pos (eq_rng hv18), hv54, if_pos (eq_rng hv72), pGoal_1 hv81 (by omega)]); rw [e]; dsimp only; rw [(show fmx fa9 (2, ahv54.1, ahv54.2.1, ahv54.2.2, (((nxc tx ln ((pTest tx ln (p + 1)).2 + 1) - 48) : Nat) : Int)) = fa9 from if_neg (fun z9 => by have h9 : (fa9 : Int) < (((nxc tx ln ((pTest tx ln (p + 1)).2 + 1) - 48) : Nat) : Int) := z9.2; omega))]; exact ⟨_, (Blw_u (Blw_u (Blw_u (Blw_u (Blw_u (Blw_u Blw_0)))))), RW9_num (RW9_mk (s := (2, ahv54.1, ahv54.2.1, ahv54.2.2, 0)) rfl rfl rfl rfl zI0.symm) (zI_nI _), rfl⟩)
                          · refine g_iload_n X dX7_readStatement_132 0 rfl rfl ?_
                            refine g_goto (tgt := 140) X dX7_readStatement_133 (by decide) ?_
                            refine g_put (cs' := [[((mo 0), .inr (7, [.int th, .ref (mo 1), .ref (mo 2), .int (nI sm), .ref (mo 3), .int (nI ln), .ref (mo 4), .int (nI k9), .int (nI (nxc tx ln ((pTest tx ln (p + 1)).2 + 1) - 48)), .ref (mo 5), .ref (mo 6), .int (nI ((pTest tx ln (p + 1)).2 + 1 + 1)), .int (nI 0), .long dd]))], cMt v mo ft, cMr v mo (upd (upd (upd (upd (upd (upd fr (5 * k9 + 0) (nI 2)) (5 * k9 + 1) (nI ahv54.1)) (5 * k9 + 2) (nI (sgx ahv54.2.1))) (5 * k9 + 3) (nI (opm ahv54.2.2))) (5 * k9 + 4) (nI 0)) (5 * k9 + 4) (nI (nxc tx ln ((pTest tx ln (p + 1)).2 + 1) - 48)))]) X cb7 8 q_14_3 dX7_readStatement_140 0 0 rfl rfl (by decide) rfl rfl (rfl) (rfl) (Nat.le_of_ble_eq_true rfl) rfl ?_
                            exact E dX7_readStatement_143 (by decide) (by decide) (by have e : pStmt tx ln p = (some (2, ahv54.1, ahv54.2.1, ahv54.2.2, (((nxc tx ln ((pTest tx ln (p + 1)).2 + 1) - 48) : Nat) : Int)), (pTest tx ln (p + 1)).2 + 1 + 1) := (by simp only [pStmt, if_neg (ne_rng hv5), if_pos (eq_rng hv18), hv54, if_pos (eq_rng hv72), pGoal_1 hv81 (by omega)]); rw [e]; dsimp only; rw [(show fmx fa9 (2, ahv54.1, ahv54.2.1, ahv54.2.2, (((nxc tx ln ((pTest tx ln (p + 1)).2 + 1) - 48) : Nat) : Int)) = (nxc tx ln ((pTest tx ln (p + 1)).2 + 1) - 48) from (if_pos ⟨rfl, by show (fa9 : Int) < (((nxc tx ln ((pTest tx ln (p + 1)).2 + 1) - 48) : Nat) : Int); omega⟩).trans (Int.toNat_natCast _))]; exact ⟨_, (Blw_u (Blw_u (Blw_u (Blw_u (Blw_u (Blw_u Blw_0)))))), RW9_num (RW9_mk (s := (2, ahv54.1, ahv54.2.1, ahv54.2.2, 0)) rfl rfl rfl rfl zI0.symm) (zI_nI _), rfl⟩)
                        · exact absurd rfl c98
                  · have hp19q := hp19
                    rw [if_neg hv81] at hp19
                    obtain ⟨rfl, rfl⟩ := hp19
                    show GG k _ _ [[((mo 0), .inr (7, [.int th, .ref (mo 1), .ref (mo 2), .int (nI sm), .ref (mo 3), .int (nI ln), .ref (mo 4), .int (nI k9), .int (nI fa9), .ref (mo 5), .ref (mo 6), .int (nI ((pTest tx ln (p + 1)).2 + 1)), .int (nI 1), .long dd]))], cMt v mo ft, cMr v mo (upd (upd (upd (upd (upd fr (5 * k9 + 0) (nI 2)) (5 * k9 + 1) (nI ahv54.1)) (5 * k9 + 2) (nI (sgx ahv54.2.1))) (5 * k9 + 3) (nI (opm ahv54.2.2))) (5 * k9 + 4) (nI 0))] _ _ [.int (nI 0)]
                    refine g_istore_n (lv' := [(3, .int (nI 0)), (2, .int (nI (nxc tx ln ((pTest tx ln (p + 1)).2) - 64))), (1, .int (nI 0)), (0, .ref (mo 0))]) X dX7_readStatement_84 rfl (by decide) rfl ?_
                    refine g_iload_n X dX7_readStatement_85 0 rfl rfl ?_
                    refine g_iconst (x := nI 1) X dX7_readStatement_86 (by decide +kernel) ?_
                    refine g_icmp_neN (tgt := 115) X dX7_readStatement_87 (by decide) (by omega) (by omega) (fun c87 => ?_) (fun c87 => ?_)
                    · refine g_iload_n X dX7_readStatement_115 0 rfl rfl ?_
                      refine g_istore_n (lv' := [(3, .int (nI 0)), (2, .int (nI (nxc tx ln ((pTest tx ln (p + 1)).2) - 64))), (1, .int (nI 0)), (0, .ref (mo 0))]) X dX7_readStatement_116 rfl (by decide) rfl ?_
                      refine g_aload_n X dX7_readStatement_117 3 rfl rfl ?_
                      refine g_iconst (x := nI 4) X dX7_readStatement_118 (by decide +kernel) ?_
                      refine g_iload_n X dX7_readStatement_119 0 rfl rfl ?_
                      refine g_callV (As := [.int (nI 4), .int (nI 0)]) (rest := []) (wr := [cMt v mo ft]) X (c_X7_puts l v mo th sm ln (nI fa9) (nI ((pTest tx ln (p + 1)).2 + 1)) (nI 1) dd k9 4 (nI 0) (upd (upd (upd (upd (upd fr (5 * k9 + 0) (nI 2)) (5 * k9 + 1) (nI ahv54.1)) (5 * k9 + 2) (nI (sgx ahv54.2.1))) (5 * k9 + 3) (nI (opm ahv54.2.2))) (5 * k9 + 4) (nI 0)) (by omega) (by omega)) f_X7_puts q_15_3 dX7_readStatement_120 [0, 2] [1] rfl rfl (by decide) 0 rfl rfl rfl rfl (Nat.le_of_ble_eq_true rfl) (by decide) (fun r_ w_ hp26 => ?_)
                      subst hp26
                      show GG k _ _ [[((mo 0), .inr (7, [.int th, .ref (mo 1), .ref (mo 2), .int (nI sm), .ref (mo 3), .int (nI ln), .ref (mo 4), .int (nI k9), .int (nI fa9), .ref (mo 5), .ref (mo 6), .int (nI ((pTest tx ln (p + 1)).2 + 1)), .int (nI 1), .long dd]))], cMr v mo (upd (upd (upd (upd (upd (upd fr (5 * k9 + 0) (nI 2)) (5 * k9 + 1) (nI ahv54.1)) (5 * k9 + 2) (nI (sgx ahv54.2.1))) (5 * k9 + 3) (nI (opm ahv54.2.2))) (5 * k9 + 4) (nI 0)) (5 * k9 + 4) (nI 0)), cMt v mo ft] _ _ []
                      refine g_pick (cs' := [[((mo 0), .inr (7, [.int th, .ref (mo 1), .ref (mo 2), .int (nI sm), .ref (mo 3), .int (nI ln), .ref (mo 4), .int (nI k9), .int (nI fa9), .ref (mo 5), .ref (mo 6), .int (nI ((pTest tx ln (p + 1)).2 + 1)), .int (nI 1), .long dd]))], cMt v mo ft, cMr v mo (upd (upd (upd (upd (upd (upd fr (5 * k9 + 0) (nI 2)) (5 * k9 + 1) (nI ahv54.1)) (5 * k9 + 2) (nI (sgx ahv54.2.1))) (5 * k9 + 3) (nI (opm ahv54.2.2))) (5 * k9 + 4) (nI 0)) (5 * k9 + 4) (nI 0))]) [0, 2, 1] rfl rfl ?_
                      refine g_aload_n X dX7_readStatement_123 3 rfl rfl ?_
                      refine g_iload_n X dX7_readStatement_124 0 rfl rfl ?_
                      refine g_aload_n X dX7_readStatement_125 3 rfl rfl ?_
                      refine g_get X cb7 8 q_14_3 dX7_readStatement_126 0 0 rfl rfl (by decide) rfl rfl ?_
                      refine g_icmp_leN (tgt := 136) X dX7_readStatement_129 (by decide) (by omega) (by omega) (fun c129 => ?_) (fun c129 => ?_)
                      · refine g_aload_n X dX7_readStatement_136 3 rfl rfl ?_
                        refine g_get X cb7 8 q_14_3 dX7_readStatement_137 0 0 rfl rfl (by decide) rfl rfl ?_
                        refine g_put (cs' := [[((mo 0), .inr (7, [.int th, .ref (mo 1), .ref (mo 2), .int (nI sm), .ref (mo 3), .int (nI ln), .ref (mo 4), .int (nI k9), .int (nI fa9), .ref (mo 5), .ref (mo 6), .int (nI ((pTest tx ln (p + 1)).2 + 1)), .int (nI 1), .long dd]))], cMt v mo ft, cMr v mo (upd (upd (upd (upd (upd (upd fr (5 * k9 + 0) (nI 2)) (5 * k9 + 1) (nI ahv54.1)) (5 * k9 + 2) (nI (sgx ahv54.2.1))) (5 * k9 + 3) (nI (opm ahv54.2.2))) (5 * k9 + 4) (nI 0)) (5 * k9 + 4) (nI 0))]) X cb7 8 q_14_3 dX7_readStatement_140 0 0 rfl rfl (by decide) rfl rfl (rfl) (rfl) (Nat.le_of_ble_eq_true rfl) rfl ?_
                        exact E dX7_readStatement_143 (by decide) (by decide) (by have e : pStmt tx ln p = (none, (pTest tx ln (p + 1)).2 + 1) := (by simp only [pStmt, if_neg (ne_rng hv5), if_pos (eq_rng hv18), hv54, if_pos (eq_rng hv72), pGoal_n hv81]); rw [e]; dsimp only; exact ⟨_, (Blw_u (Blw_u (Blw_u (Blw_u (Blw_u (Blw_u Blw_0)))))), rfl⟩)
                      · omega
                    · exact absurd c87 (by decide)
                · have hp17q := hp17
                  rw [if_neg hv72] at hp17
                  obtain ⟨rfl, rfl⟩ := hp17
                  show GG k _ _ [[((mo 0), .inr (7, [.int th, .ref (mo 1), .ref (mo 2), .int (nI sm), .ref (mo 3), .int (nI ln), .ref (mo 4), .int (nI k9), .int (nI fa9), .ref (mo 5), .ref (mo 6), .int (nI ((pTest tx ln (p + 1)).2)), .int (nI 1), .long dd]))], cMt v mo ft, cMr v mo (upd (upd (upd (upd (upd fr (5 * k9 + 0) (nI 2)) (5 * k9 + 1) (nI ahv54.1)) (5 * k9 + 2) (nI (sgx ahv54.2.1))) (5 * k9 + 3) (nI (opm ahv54.2.2))) (5 * k9 + 4) (nI 0))] _ _ [.int (nI 0)]
                  refine g_istore_n (lv' := [(2, .int (nI 0)), (1, .int (nI 0)), (0, .ref (mo 0))]) X dX7_readStatement_75 rfl (by decide) rfl ?_
                  refine g_aload_n X dX7_readStatement_76 2 rfl rfl ?_
                  refine g_bipush (x := nI 48) X dX7_readStatement_77 (by decide +kernel) ?_
                  refine g_bipush (x := nI 57) X dX7_readStatement_79 (by decide +kernel) ?_
                  refine g_callV (As := [.int (nI 48), .int (nI 57)]) (rest := []) (wr := [cMr v mo (upd (upd (upd (upd (upd fr (5 * k9 + 0) (nI 2)) (5 * k9 + 1) (nI ahv54.1)) (5 * k9 + 2) (nI (sgx ahv54.2.1))) (5 * k9 + 3) (nI (opm ahv54.2.2))) (5 * k9 + 4) (nI 0))]) X (b_X7_takes l v mo th sm ln (nI k9) (nI fa9) dd ft ((pTest tx ln (p + 1)).2) 48 57 (by omega)) f_X7_takes q_15_7 dX7_readStatement_81 [0, 1] [2] rfl rfl (by decide) 0 rfl rfl rfl rfl (Nat.le_of_ble_eq_true rfl) (by decide) (fun r_ w_ hp27 => ?_)
                  obtain ⟨rfl, rfl⟩ := hp27
                  show GG k _ _ [[((mo 0), .inr (7, [.int th, .ref (mo 1), .ref (mo 2), .int (nI sm), .ref (mo 3), .int (nI ln), .ref (mo 4), .int (nI k9), .int (nI fa9), .ref (mo 5), .ref (mo 6), .int (nI ((pTest tx ln (p + 1)).2)), .int (nI 1), .long dd]))], cMt v mo ft, cMr v mo (upd (upd (upd (upd (upd fr (5 * k9 + 0) (nI 2)) (5 * k9 + 1) (nI ahv54.1)) (5 * k9 + 2) (nI (sgx ahv54.2.1))) (5 * k9 + 3) (nI (opm ahv54.2.2))) (5 * k9 + 4) (nI 0))] _ _ [.int (nI 0)]
                  refine g_istore_n (lv' := [(3, .int (nI 0)), (2, .int (nI 0)), (1, .int (nI 0)), (0, .ref (mo 0))]) X dX7_readStatement_84 rfl (by decide) rfl ?_
                  refine g_iload_n X dX7_readStatement_85 0 rfl rfl ?_
                  refine g_iconst (x := nI 1) X dX7_readStatement_86 (by decide +kernel) ?_
                  refine g_icmp_neN (tgt := 115) X dX7_readStatement_87 (by decide) (by omega) (by omega) (fun c87 => ?_) (fun c87 => ?_)
                  · refine g_iload_n X dX7_readStatement_115 0 rfl rfl ?_
                    refine g_istore_n (lv' := [(3, .int (nI 0)), (2, .int (nI 0)), (1, .int (nI 0)), (0, .ref (mo 0))]) X dX7_readStatement_116 rfl (by decide) rfl ?_
                    refine g_aload_n X dX7_readStatement_117 3 rfl rfl ?_
                    refine g_iconst (x := nI 4) X dX7_readStatement_118 (by decide +kernel) ?_
                    refine g_iload_n X dX7_readStatement_119 0 rfl rfl ?_
                    refine g_callV (As := [.int (nI 4), .int (nI 0)]) (rest := []) (wr := [cMt v mo ft]) X (c_X7_puts l v mo th sm ln (nI fa9) (nI ((pTest tx ln (p + 1)).2)) (nI 1) dd k9 4 (nI 0) (upd (upd (upd (upd (upd fr (5 * k9 + 0) (nI 2)) (5 * k9 + 1) (nI ahv54.1)) (5 * k9 + 2) (nI (sgx ahv54.2.1))) (5 * k9 + 3) (nI (opm ahv54.2.2))) (5 * k9 + 4) (nI 0)) (by omega) (by omega)) f_X7_puts q_15_3 dX7_readStatement_120 [0, 2] [1] rfl rfl (by decide) 0 rfl rfl rfl rfl (Nat.le_of_ble_eq_true rfl) (by decide) (fun r_ w_ hp28 => ?_)
                    subst hp28
                    show GG k _ _ [[((mo 0), .inr (7, [.int th, .ref (mo 1), .ref (mo 2), .int (nI sm), .ref (mo 3), .int (nI ln), .ref (mo 4), .int (nI k9), .int (nI fa9), .ref (mo 5), .ref (mo 6), .int (nI ((pTest tx ln (p + 1)).2)), .int (nI 1), .long dd]))], cMr v mo (upd (upd (upd (upd (upd (upd fr (5 * k9 + 0) (nI 2)) (5 * k9 + 1) (nI ahv54.1)) (5 * k9 + 2) (nI (sgx ahv54.2.1))) (5 * k9 + 3) (nI (opm ahv54.2.2))) (5 * k9 + 4) (nI 0)) (5 * k9 + 4) (nI 0)), cMt v mo ft] _ _ []
                    refine g_pick (cs' := [[((mo 0), .inr (7, [.int th, .ref (mo 1), .ref (mo 2), .int (nI sm), .ref (mo 3), .int (nI ln), .ref (mo 4), .int (nI k9), .int (nI fa9), .ref (mo 5), .ref (mo 6), .int (nI ((pTest tx ln (p + 1)).2)), .int (nI 1), .long dd]))], cMt v mo ft, cMr v mo (upd (upd (upd (upd (upd (upd fr (5 * k9 + 0) (nI 2)) (5 * k9 + 1) (nI ahv54.1)) (5 * k9 + 2) (nI (sgx ahv54.2.1))) (5 * k9 + 3) (nI (opm ahv54.2.2))) (5 * k9 + 4) (nI 0)) (5 * k9 + 4) (nI 0))]) [0, 2, 1] rfl rfl ?_
                    refine g_aload_n X dX7_readStatement_123 3 rfl rfl ?_
                    refine g_iload_n X dX7_readStatement_124 0 rfl rfl ?_
                    refine g_aload_n X dX7_readStatement_125 3 rfl rfl ?_
                    refine g_get X cb7 8 q_14_3 dX7_readStatement_126 0 0 rfl rfl (by decide) rfl rfl ?_
                    refine g_icmp_leN (tgt := 136) X dX7_readStatement_129 (by decide) (by omega) (by omega) (fun c129 => ?_) (fun c129 => ?_)
                    · refine g_aload_n X dX7_readStatement_136 3 rfl rfl ?_
                      refine g_get X cb7 8 q_14_3 dX7_readStatement_137 0 0 rfl rfl (by decide) rfl rfl ?_
                      refine g_put (cs' := [[((mo 0), .inr (7, [.int th, .ref (mo 1), .ref (mo 2), .int (nI sm), .ref (mo 3), .int (nI ln), .ref (mo 4), .int (nI k9), .int (nI fa9), .ref (mo 5), .ref (mo 6), .int (nI ((pTest tx ln (p + 1)).2)), .int (nI 1), .long dd]))], cMt v mo ft, cMr v mo (upd (upd (upd (upd (upd (upd fr (5 * k9 + 0) (nI 2)) (5 * k9 + 1) (nI ahv54.1)) (5 * k9 + 2) (nI (sgx ahv54.2.1))) (5 * k9 + 3) (nI (opm ahv54.2.2))) (5 * k9 + 4) (nI 0)) (5 * k9 + 4) (nI 0))]) X cb7 8 q_14_3 dX7_readStatement_140 0 0 rfl rfl (by decide) rfl rfl (rfl) (rfl) (Nat.le_of_ble_eq_true rfl) rfl ?_
                      exact E dX7_readStatement_143 (by decide) (by decide) (by have e : pStmt tx ln p = (none, (pTest tx ln (p + 1)).2) := (by simp only [pStmt, if_neg (ne_rng hv5), if_pos (eq_rng hv18), hv54, if_neg (ne_rng hv72)]); rw [e]; dsimp only; exact ⟨_, (Blw_u (Blw_u (Blw_u (Blw_u (Blw_u (Blw_u Blw_0)))))), rfl⟩)
                    · omega
                  · exact absurd c87 (by decide)
          · exact absurd rfl c42
        · exact absurd c21 (by decide)
      · have hp7q := hp7
        rw [if_neg hv18] at hp7
        obtain ⟨rfl, rfl⟩ := hp7
        show GG k _ _ [[((mo 0), .inr (7, [.int th, .ref (mo 1), .ref (mo 2), .int (nI sm), .ref (mo 3), .int (nI ln), .ref (mo 4), .int (nI k9), .int (nI fa9), .ref (mo 5), .ref (mo 6), .int (nI p), .int (nI 0), .long dd]))], cMt v mo ft, cMr v mo fr] _ _ [.int (nI 0)]
        refine g_if_neN (tgt := 29) X dX7_readStatement_21 (by decide) (by omega) (fun c21 => ?_) (fun c21 => ?_)
        · exact absurd rfl c21
        · refine g_aload_n X dX7_readStatement_24 1 rfl rfl ?_
          refine g_callV (As := []) (rest := []) (wr := []) X (c_X7_readAssignment l v mo th sm ln (nI fa9) dd tx ft fr p k9 hT hk (by omega) (ne_rng hv5) (ne_rng hv18)) f_X7_readAssignment q_14_23 dX7_readStatement_25 [0, 1, 2] [] rfl rfl (by decide) 0 rfl rfl rfl rfl (Nat.le_of_ble_eq_true rfl) (by decide) (fun r_ w_ hp30 => ?_)
          cases hv25 : (pStmt tx ln p).1 with
          | none =>
            have hp30q := hp30
            rw [hv25] at hp30
            obtain ⟨za29, za29B, rfl⟩ := hp30
            show GG k _ _ [[((mo 0), .inr (7, [.int th, .ref (mo 1), .ref (mo 2), .int (nI sm), .ref (mo 3), .int (nI ln), .ref (mo 4), .int (nI k9), .int (nI fa9), .ref (mo 5), .ref (mo 6), .int (nI ((pStmt tx ln p).2)), .int (nI 1), .long dd]))], cMt v mo ft, cMr v mo za29] _ _ []
            exact E dX7_readStatement_28 (by decide) (by decide) (by dsimp only; rw [hv25]; exact ⟨_, za29B, rfl⟩)
          | some ahv25 =>
            have hp30q := hp30
            rw [hv25] at hp30
            obtain ⟨za29, za29B, za29R, rfl⟩ := hp30
            show GG k _ _ [[((mo 0), .inr (7, [.int th, .ref (mo 1), .ref (mo 2), .int (nI sm), .ref (mo 3), .int (nI ln), .ref (mo 4), .int (nI k9), .int (nI fa9), .ref (mo 5), .ref (mo 6), .int (nI ((pStmt tx ln p).2)), .int (nI 0), .long dd]))], cMt v mo ft, cMr v mo za29] _ _ []
            exact E dX7_readStatement_28 (by decide) (by decide) (by have hf9 : fmx fa9 ahv25 = fa9 := if_neg (fun z9 => by have := pStmt_k0 (ne_rng hv5) (ne_rng hv18) hv25; omega); dsimp only; rw [hv25]; dsimp only; rw [hf9]; exact ⟨_, za29B, za29R, rfl⟩)

