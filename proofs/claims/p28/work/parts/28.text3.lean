/-! ## Text: statements -/
set_option maxHeartbeats 4000000 in
set_option maxRecDepth 100000 in
theorem c_X5_takeAddend (l : Launch) (v : VV) (t : Nat → Nat) (la : Nat) (ln : Nat) (p : Nat) (x1 : Int32) (x2 : Int32) (x3 : Int32) (x5 : Int32) (fc : Nat → Int32) (tx : Nat → Nat) (hT : TxR tx ln fc) (hp : p ≤ 97) : MI l v yX5_takeAddend cX5_takeAddend 2 (some .boolean) ({ frames := 2, cells := 0, slots := 0, locals := 41 }) [.ref (t 0)] [[((t 0), .inr (5, [.ref (t 1), .int (nI ln), .ref la, .int (nI p), .int x1, .int x2, .int x3, .int (nI 0), .int x5]))], cCh v t fc] (fun r w_ => match (pAdd tx ln p).1 with | none => r = nI 0 ∧ w_ = [[(t 0, .inr (5, [.ref (t 1), .int (nI ln), .ref la, .int (nI ((pAdd tx ln p).2)), .int x1, .int x2, .int x3, .int (nI 0), .int x5]))], cCh v t fc] | some m => r = nI 1 ∧ w_ = [[(t 0, .inr (5, [.ref (t 1), .int (nI ln), .ref la, .int (nI ((pAdd tx ln p).2)), .int x1, .int x2, .int x3, .int (zI m), .int x5]))], cCh v t fc]) 0 0 := by
  refine mm_int (by decide) (Nat.le_of_ble_eq_true rfl) [(0, .ref (t 0))] rfl (fun k X E => ?_)
  refine g_aload_n X dX5_takeAddend_0 0 rfl rfl ?_
  refine g_bipush (x := nI 45) X dX5_takeAddend_1 (by decide +kernel) ?_
  refine g_callV (As := [.int (nI 45)]) (rest := []) (wr := []) X (c_X5_take l v t la ln p x1 x2 x3 (nI 0) x5 fc tx 45 hT (by omega)  (by decide)) f_X5_take q_7_1 dX5_takeAddend_3 [0, 1] [] rfl rfl (by decide) 0 rfl rfl rfl rfl (Nat.le_of_ble_eq_true rfl) (by decide) (fun r_ w_ hp1 => ?_)
  by_cases hv3 : nxc tx ln p = 45
  · have hp1q := hp1
    rw [if_pos hv3] at hp1
    obtain ⟨rfl, rfl⟩ := hp1
    show GG k _ _ [[((t 0), .inr (5, [.ref (t 1), .int (nI ln), .ref la, .int (nI (p + 1)), .int x1, .int x2, .int x3, .int (nI 0), .int x5]))], cCh v t fc] _ _ [.int (nI 1)]
    refine g_istore_n (lv' := [(1, .int (nI 1)), (0, .ref (t 0))]) X dX5_takeAddend_6 rfl (by decide) rfl ?_
    refine g_iload_n X dX5_takeAddend_7 0 rfl rfl ?_
    refine g_if_neN (tgt := 22) X dX5_takeAddend_8 (by decide) (by omega) (fun c8 => ?_) (fun c8 => ?_)
    · refine g_aload_n X dX5_takeAddend_22 1 rfl rfl ?_
      refine g_bipush (x := nI 55) X dX5_takeAddend_23 (by decide +kernel) ?_
      refine g_callV (As := [.int (nI 55)]) (rest := []) (wr := []) X (c_X5_isDigitTo l v t la ln (p + 1) x1 x2 x3 (nI 0) x5 fc tx 55 hT (by omega) (by decide)) f_X5_isDigitTo q_11_20 dX5_takeAddend_25 [0, 1] [] rfl rfl (by decide) 0 rfl rfl rfl rfl (Nat.le_of_ble_eq_true rfl) (by decide) (fun r_ w_ hp2 => ?_)
      by_cases hv25 : 48 ≤ nxc tx ln (p + 1) ∧ nxc tx ln (p + 1) ≤ 55
      · have hp2q := hp2
        rw [if_pos hv25] at hp2
        obtain ⟨rfl, rfl⟩ := hp2
        show GG k _ _ [[((t 0), .inr (5, [.ref (t 1), .int (nI ln), .ref la, .int (nI (p + 1)), .int x1, .int x2, .int x3, .int (nI 0), .int x5]))], cCh v t fc] _ _ [.int (nI 1)]
        refine g_if_neN (tgt := 33) X dX5_takeAddend_28 (by decide) (by omega) (fun c28 => ?_) (fun c28 => ?_)
        · refine g_aload_n X dX5_takeAddend_33 1 rfl rfl ?_
          refine g_iload_n X dX5_takeAddend_34 0 rfl rfl ?_
          refine g_if_eqN (tgt := 48) X dX5_takeAddend_35 (by decide) (by omega) (fun c35 => ?_) (fun c35 => ?_)
          · exact absurd c35 (by decide)
          · refine g_bipush (x := nI 48) X dX5_takeAddend_38 (by decide +kernel) ?_
            refine g_aload_n X dX5_takeAddend_40 1 rfl rfl ?_
            refine g_callV (As := []) (rest := [.int (nI 48), .ref (t 0)]) (wr := []) X (c_X5_next l v t la ln (p + 1) x1 x2 x3 (nI 0) x5 fc tx hT (by omega)) f_X5_next q_7_5 dX5_takeAddend_41 [0, 1] [] rfl rfl (by decide) 0 rfl rfl rfl rfl (Nat.le_of_ble_eq_true rfl) (by decide) (fun r_ w_ hp4 => ?_)
            have hz3 := nxc_lt hT (p + 1)
            obtain ⟨rfl, rfl⟩ := hp4
            show GG k _ _ [[((t 0), .inr (5, [.ref (t 1), .int (nI ln), .ref la, .int (nI (p + 1)), .int x1, .int x2, .int x3, .int (nI 0), .int x5]))], cCh v t fc] _ _ [.int (nI (nxc tx ln (p + 1))), .int (nI 48), .ref (t 0)]
            refine g_isub X dX5_takeAddend_44 ?_
            refine g_v (y := zI (((48 : Nat) : Int) - (((nxc tx ln (p + 1)) : Nat) : Int))) (by rw [zI_nI 48, zI_nI (nxc tx ln (p + 1)), zI_sub]) ?_
            refine g_v (y := zI (48 - (nxc tx ln (p + 1) : Int))) (rfl) ?_
            refine g_goto (tgt := 55) X dX5_takeAddend_45 (by decide) ?_
            refine g_put (cs' := [[((t 0), .inr (5, [.ref (t 1), .int (nI ln), .ref la, .int (nI (p + 1)), .int x1, .int x2, .int x3, .int (zI (48 - (nxc tx ln (p + 1) : Int))), .int x5]))], cCh v t fc]) X cb5 7 q_6_23 dX5_takeAddend_55 0 0 rfl rfl (by decide) rfl rfl (rfl) (rfl) (Nat.le_of_ble_eq_true rfl) rfl ?_
            refine g_aload_n X dX5_takeAddend_58 1 rfl rfl ?_
            refine g_dup X dX5_takeAddend_59 rfl ?_
            refine g_get X cb5 3 q_6_12 dX5_takeAddend_60 0 0 rfl rfl (by decide) rfl rfl ?_
            refine g_iconst (x := nI 1) X dX5_takeAddend_63 (by decide +kernel) ?_
            refine g_iaddN X dX5_takeAddend_64 ?_
            refine g_put (cs' := [[((t 0), .inr (5, [.ref (t 1), .int (nI ln), .ref la, .int (nI ((p + 1) + 1)), .int x1, .int x2, .int x3, .int (zI (48 - (nxc tx ln (p + 1) : Int))), .int x5]))], cCh v t fc]) X cb5 3 q_6_12 dX5_takeAddend_65 0 0 rfl rfl (by decide) rfl rfl (rfl) (rfl) (Nat.le_of_ble_eq_true rfl) rfl ?_
            refine g_iconst (x := nI 1) X dX5_takeAddend_68 (by decide +kernel) ?_
            exact E dX5_takeAddend_69 rfl (rfl) (by decide) (by decide) (by have e : pAdd tx ln p = (some (48 - (nxc tx ln (p + 1) : Int)), (p + 1) + 1) := (by simp only [pAdd, if_pos (Or.inl hv3 : nxc tx ln p = 45 ∨ nxc tx ln p = 43), if_pos hv3, if_pos hv25]); rw [e]; dsimp only; exact ⟨rfl, rfl⟩)
        · exact absurd c28 (by decide)
      · have hp2q := hp2
        rw [if_neg hv25] at hp2
        obtain ⟨rfl, rfl⟩ := hp2
        show GG k _ _ [[((t 0), .inr (5, [.ref (t 1), .int (nI ln), .ref la, .int (nI (p + 1)), .int x1, .int x2, .int x3, .int (nI 0), .int x5]))], cCh v t fc] _ _ [.int (nI 0)]
        refine g_if_neN (tgt := 33) X dX5_takeAddend_28 (by decide) (by omega) (fun c28 => ?_) (fun c28 => ?_)
        · exact absurd rfl c28
        · refine g_iconst (x := nI 0) X dX5_takeAddend_31 (by decide +kernel) ?_
          exact E dX5_takeAddend_32 rfl (rfl) (by decide) (by decide) (by have e : pAdd tx ln p = (none, p + 1) := (by simp only [pAdd, if_pos (Or.inl hv3 : nxc tx ln p = 45 ∨ nxc tx ln p = 43), if_pos hv3, if_neg hv25]); rw [e]; dsimp only; exact ⟨rfl, rfl⟩)
    · exact absurd c8 (by decide)
  · have hp1q := hp1
    rw [if_neg hv3] at hp1
    obtain ⟨rfl, rfl⟩ := hp1
    show GG k _ _ [[((t 0), .inr (5, [.ref (t 1), .int (nI ln), .ref la, .int (nI p), .int x1, .int x2, .int x3, .int (nI 0), .int x5]))], cCh v t fc] _ _ [.int (nI 0)]
    refine g_istore_n (lv' := [(1, .int (nI 0)), (0, .ref (t 0))]) X dX5_takeAddend_6 rfl (by decide) rfl ?_
    refine g_iload_n X dX5_takeAddend_7 0 rfl rfl ?_
    refine g_if_neN (tgt := 22) X dX5_takeAddend_8 (by decide) (by omega) (fun c8 => ?_) (fun c8 => ?_)
    · exact absurd rfl c8
    · refine g_aload_n X dX5_takeAddend_11 1 rfl rfl ?_
      refine g_bipush (x := nI 43) X dX5_takeAddend_12 (by decide +kernel) ?_
      refine g_callV (As := [.int (nI 43)]) (rest := []) (wr := []) X (c_X5_take l v t la ln p x1 x2 x3 (nI 0) x5 fc tx 43 hT (by omega)  (by decide)) f_X5_take q_7_1 dX5_takeAddend_14 [0, 1] [] rfl rfl (by decide) 0 rfl rfl rfl rfl (Nat.le_of_ble_eq_true rfl) (by decide) (fun r_ w_ hp5 => ?_)
      by_cases hv14 : nxc tx ln p = 43
      · have hp5q := hp5
        rw [if_pos hv14] at hp5
        obtain ⟨rfl, rfl⟩ := hp5
        show GG k _ _ [[((t 0), .inr (5, [.ref (t 1), .int (nI ln), .ref la, .int (nI (p + 1)), .int x1, .int x2, .int x3, .int (nI 0), .int x5]))], cCh v t fc] _ _ [.int (nI 1)]
        refine g_if_neN (tgt := 22) X dX5_takeAddend_17 (by decide) (by omega) (fun c17 => ?_) (fun c17 => ?_)
        · refine g_aload_n X dX5_takeAddend_22 1 rfl rfl ?_
          refine g_bipush (x := nI 55) X dX5_takeAddend_23 (by decide +kernel) ?_
          refine g_callV (As := [.int (nI 55)]) (rest := []) (wr := []) X (c_X5_isDigitTo l v t la ln (p + 1) x1 x2 x3 (nI 0) x5 fc tx 55 hT (by omega) (by decide)) f_X5_isDigitTo q_11_20 dX5_takeAddend_25 [0, 1] [] rfl rfl (by decide) 0 rfl rfl rfl rfl (Nat.le_of_ble_eq_true rfl) (by decide) (fun r_ w_ hp6 => ?_)
          by_cases hv25 : 48 ≤ nxc tx ln (p + 1) ∧ nxc tx ln (p + 1) ≤ 55
          · have hp6q := hp6
            rw [if_pos hv25] at hp6
            obtain ⟨rfl, rfl⟩ := hp6
            show GG k _ _ [[((t 0), .inr (5, [.ref (t 1), .int (nI ln), .ref la, .int (nI (p + 1)), .int x1, .int x2, .int x3, .int (nI 0), .int x5]))], cCh v t fc] _ _ [.int (nI 1)]
            refine g_if_neN (tgt := 33) X dX5_takeAddend_28 (by decide) (by omega) (fun c28 => ?_) (fun c28 => ?_)
            · refine g_aload_n X dX5_takeAddend_33 1 rfl rfl ?_
              refine g_iload_n X dX5_takeAddend_34 0 rfl rfl ?_
              refine g_if_eqN (tgt := 48) X dX5_takeAddend_35 (by decide) (by omega) (fun c35 => ?_) (fun c35 => ?_)
              · refine g_aload_n X dX5_takeAddend_48 1 rfl rfl ?_
                refine g_callV (As := []) (rest := [.ref (t 0)]) (wr := []) X (c_X5_next l v t la ln (p + 1) x1 x2 x3 (nI 0) x5 fc tx hT (by omega)) f_X5_next q_7_5 dX5_takeAddend_49 [0, 1] [] rfl rfl (by decide) 0 rfl rfl rfl rfl (Nat.le_of_ble_eq_true rfl) (by decide) (fun r_ w_ hp8 => ?_)
                have hz7 := nxc_lt hT (p + 1)
                obtain ⟨rfl, rfl⟩ := hp8
                show GG k _ _ [[((t 0), .inr (5, [.ref (t 1), .int (nI ln), .ref la, .int (nI (p + 1)), .int x1, .int x2, .int x3, .int (nI 0), .int x5]))], cCh v t fc] _ _ [.int (nI (nxc tx ln (p + 1))), .ref (t 0)]
                refine g_bipush (x := nI 48) X dX5_takeAddend_52 (by decide +kernel) ?_
                refine g_isub X dX5_takeAddend_54 ?_
                refine g_v (y := zI ((((nxc tx ln (p + 1)) : Nat) : Int) - ((48 : Nat) : Int))) (by rw [zI_nI (nxc tx ln (p + 1)), zI_nI 48, zI_sub]) ?_
                refine g_v (y := zI ((nxc tx ln (p + 1) : Int) - 48)) (rfl) ?_
                refine g_put (cs' := [[((t 0), .inr (5, [.ref (t 1), .int (nI ln), .ref la, .int (nI (p + 1)), .int x1, .int x2, .int x3, .int (zI ((nxc tx ln (p + 1) : Int) - 48)), .int x5]))], cCh v t fc]) X cb5 7 q_6_23 dX5_takeAddend_55 0 0 rfl rfl (by decide) rfl rfl (rfl) (rfl) (Nat.le_of_ble_eq_true rfl) rfl ?_
                refine g_aload_n X dX5_takeAddend_58 1 rfl rfl ?_
                refine g_dup X dX5_takeAddend_59 rfl ?_
                refine g_get X cb5 3 q_6_12 dX5_takeAddend_60 0 0 rfl rfl (by decide) rfl rfl ?_
                refine g_iconst (x := nI 1) X dX5_takeAddend_63 (by decide +kernel) ?_
                refine g_iaddN X dX5_takeAddend_64 ?_
                refine g_put (cs' := [[((t 0), .inr (5, [.ref (t 1), .int (nI ln), .ref la, .int (nI ((p + 1) + 1)), .int x1, .int x2, .int x3, .int (zI ((nxc tx ln (p + 1) : Int) - 48)), .int x5]))], cCh v t fc]) X cb5 3 q_6_12 dX5_takeAddend_65 0 0 rfl rfl (by decide) rfl rfl (rfl) (rfl) (Nat.le_of_ble_eq_true rfl) rfl ?_
                refine g_iconst (x := nI 1) X dX5_takeAddend_68 (by decide +kernel) ?_
                exact E dX5_takeAddend_69 rfl (rfl) (by decide) (by decide) (by have e : pAdd tx ln p = (some ((nxc tx ln (p + 1) : Int) - 48), (p + 1) + 1) := (by simp only [pAdd, if_pos (Or.inr hv14 : nxc tx ln p = 45 ∨ nxc tx ln p = 43), if_neg hv3, if_pos hv25]); rw [e]; dsimp only; exact ⟨rfl, rfl⟩)
              · exact absurd rfl c35
            · exact absurd c28 (by decide)
          · have hp6q := hp6
            rw [if_neg hv25] at hp6
            obtain ⟨rfl, rfl⟩ := hp6
            show GG k _ _ [[((t 0), .inr (5, [.ref (t 1), .int (nI ln), .ref la, .int (nI (p + 1)), .int x1, .int x2, .int x3, .int (nI 0), .int x5]))], cCh v t fc] _ _ [.int (nI 0)]
            refine g_if_neN (tgt := 33) X dX5_takeAddend_28 (by decide) (by omega) (fun c28 => ?_) (fun c28 => ?_)
            · exact absurd rfl c28
            · refine g_iconst (x := nI 0) X dX5_takeAddend_31 (by decide +kernel) ?_
              exact E dX5_takeAddend_32 rfl (rfl) (by decide) (by decide) (by have e : pAdd tx ln p = (none, p + 1) := (by simp only [pAdd, if_pos (Or.inr hv14 : nxc tx ln p = 45 ∨ nxc tx ln p = 43), if_neg hv3, if_neg hv25]); rw [e]; dsimp only; exact ⟨rfl, rfl⟩)
        · exact absurd c17 (by decide)
      · have hp5q := hp5
        rw [if_neg hv14] at hp5
        obtain ⟨rfl, rfl⟩ := hp5
        show GG k _ _ [[((t 0), .inr (5, [.ref (t 1), .int (nI ln), .ref la, .int (nI p), .int x1, .int x2, .int x3, .int (nI 0), .int x5]))], cCh v t fc] _ _ [.int (nI 0)]
        refine g_if_neN (tgt := 22) X dX5_takeAddend_17 (by decide) (by omega) (fun c17 => ?_) (fun c17 => ?_)
        · exact absurd rfl c17
        · refine g_iconst (x := nI 1) X dX5_takeAddend_20 (by decide +kernel) ?_
          exact E dX5_takeAddend_21 rfl (rfl) (by decide) (by decide) (by have e : pAdd tx ln p = (some (0), p) := (by simp only [pAdd, if_neg (fun z => z.elim hv3 hv14 : ¬ (nxc tx ln p = 45 ∨ nxc tx ln p = 43))]); rw [e]; dsimp only; exact ⟨rfl, by rw [zI0]⟩)

set_option maxHeartbeats 4000000 in
set_option maxRecDepth 100000 in
theorem c_X5_takeGoal (l : Launch) (v : VV) (t : Nat → Nat) (la : Nat) (ln : Nat) (p : Nat) (x1 : Int32) (x2 : Int32) (x3 : Int32) (x4 : Int32) (x5 : Int32) (fc : Nat → Int32) (tx : Nat → Nat) (hT : TxR tx ln fc) (hp : p ≤ 97) : MI l v yX5_takeGoal cX5_takeGoal 1 (some .boolean) ({ frames := 2, cells := 0, slots := 0, locals := 41 }) [.ref (t 0)] [[((t 0), .inr (5, [.ref (t 1), .int (nI ln), .ref la, .int (nI p), .int x1, .int x2, .int x3, .int x4, .int x5]))], cCh v t fc] (fun r w_ => match (pGoal tx ln p).1 with | none => r = nI 0 ∧ w_ = [[(t 0, .inr (5, [.ref (t 1), .int (nI ln), .ref la, .int (nI ((pGoal tx ln p).2)), .int x1, .int x2, .int x3, .int x4, .int x5]))], cCh v t fc] | some m => r = nI 1 ∧ w_ = [[(t 0, .inr (5, [.ref (t 1), .int (nI ln), .ref la, .int (nI ((pGoal tx ln p).2)), .int x1, .int x2, .int x3, .int x4, .int (nI m)]))], cCh v t fc]) 0 0 := by
  refine mm_int (by decide) (Nat.le_of_ble_eq_true rfl) [(0, .ref (t 0))] rfl (fun k X E => ?_)
  refine g_aload_n X dX5_takeGoal_0 0 rfl rfl ?_
  refine g_bipush (x := nI 57) X dX5_takeGoal_1 (by decide +kernel) ?_
  refine g_callV (As := [.int (nI 57)]) (rest := []) (wr := []) X (c_X5_isDigitTo l v t la ln p x1 x2 x3 x4 x5 fc tx 57 hT (by omega) (by decide)) f_X5_isDigitTo q_11_20 dX5_takeGoal_3 [0, 1] [] rfl rfl (by decide) 0 rfl rfl rfl rfl (Nat.le_of_ble_eq_true rfl) (by decide) (fun r_ w_ hp1 => ?_)
  by_cases hv3 : 48 ≤ nxc tx ln p ∧ nxc tx ln p ≤ 57
  · have hp1q := hp1
    rw [if_pos hv3] at hp1
    obtain ⟨rfl, rfl⟩ := hp1
    show GG k _ _ [[((t 0), .inr (5, [.ref (t 1), .int (nI ln), .ref la, .int (nI p), .int x1, .int x2, .int x3, .int x4, .int x5]))], cCh v t fc] _ _ [.int (nI 1)]
    refine g_if_neN (tgt := 11) X dX5_takeGoal_6 (by decide) (by omega) (fun c6 => ?_) (fun c6 => ?_)
    · refine g_aload_n X dX5_takeGoal_11 0 rfl rfl ?_
      refine g_aload_n X dX5_takeGoal_12 0 rfl rfl ?_
      refine g_callV (As := []) (rest := [.ref (t 0)]) (wr := []) X (c_X5_next l v t la ln p x1 x2 x3 x4 x5 fc tx hT (by omega)) f_X5_next q_7_5 dX5_takeGoal_13 [0, 1] [] rfl rfl (by decide) 0 rfl rfl rfl rfl (Nat.le_of_ble_eq_true rfl) (by decide) (fun r_ w_ hp3 => ?_)
      have hz2 := nxc_lt hT p
      obtain ⟨rfl, rfl⟩ := hp3
      show GG k _ _ [[((t 0), .inr (5, [.ref (t 1), .int (nI ln), .ref la, .int (nI p), .int x1, .int x2, .int x3, .int x4, .int x5]))], cCh v t fc] _ _ [.int (nI (nxc tx ln p)), .ref (t 0)]
      refine g_bipush (x := nI 48) X dX5_takeGoal_16 (by decide +kernel) ?_
      refine g_isubN X dX5_takeGoal_18 (by omega) ?_
      refine g_put (cs' := [[((t 0), .inr (5, [.ref (t 1), .int (nI ln), .ref la, .int (nI p), .int x1, .int x2, .int x3, .int x4, .int (nI ((nxc tx ln p) - 48))]))], cCh v t fc]) X cb5 8 q_7_0 dX5_takeGoal_19 0 0 rfl rfl (by decide) rfl rfl (rfl) (rfl) (Nat.le_of_ble_eq_true rfl) rfl ?_
      refine g_aload_n X dX5_takeGoal_22 0 rfl rfl ?_
      refine g_dup X dX5_takeGoal_23 rfl ?_
      refine g_get X cb5 3 q_6_12 dX5_takeGoal_24 0 0 rfl rfl (by decide) rfl rfl ?_
      refine g_iconst (x := nI 1) X dX5_takeGoal_27 (by decide +kernel) ?_
      refine g_iaddN X dX5_takeGoal_28 ?_
      refine g_put (cs' := [[((t 0), .inr (5, [.ref (t 1), .int (nI ln), .ref la, .int (nI (p + 1)), .int x1, .int x2, .int x3, .int x4, .int (nI ((nxc tx ln p) - 48))]))], cCh v t fc]) X cb5 3 q_6_12 dX5_takeGoal_29 0 0 rfl rfl (by decide) rfl rfl (rfl) (rfl) (Nat.le_of_ble_eq_true rfl) rfl ?_
      refine g_aload_n X dX5_takeGoal_32 0 rfl rfl ?_
      refine g_get X cb5 8 q_7_0 dX5_takeGoal_33 0 0 rfl rfl (by decide) rfl rfl ?_
      refine g_iconst (x := nI 1) X dX5_takeGoal_36 (by decide +kernel) ?_
      refine g_icmp_neN (tgt := 73) X dX5_takeGoal_37 (by decide) (by omega) (by omega) (fun c37 => ?_) (fun c37 => ?_)
      · refine g_iconst (x := nI 1) X dX5_takeGoal_73 (by decide +kernel) ?_
        exact E dX5_takeGoal_74 rfl (rfl) (by decide) (by decide) (by have e : pGoal tx ln p = (some ((nxc tx ln p) - 48), p + 1) := (by simp only [pGoal, if_pos hv3, if_neg (show ¬ (nxc tx ln p = 49 ∧ 48 ≤ nxc tx ln (p + 1) ∧ nxc tx ln (p + 1) ≤ 50) by omega)]); rw [e]; dsimp only; exact ⟨rfl, rfl⟩)
      · refine g_aload_n X dX5_takeGoal_40 0 rfl rfl ?_
        refine g_bipush (x := nI 50) X dX5_takeGoal_41 (by decide +kernel) ?_
        refine g_callV (As := [.int (nI 50)]) (rest := []) (wr := []) X (c_X5_isDigitTo l v t la ln (p + 1) x1 x2 x3 x4 (nI ((nxc tx ln p) - 48)) fc tx 50 hT (by omega) (by decide)) f_X5_isDigitTo q_11_20 dX5_takeGoal_43 [0, 1] [] rfl rfl (by decide) 0 rfl rfl rfl rfl (Nat.le_of_ble_eq_true rfl) (by decide) (fun r_ w_ hp4 => ?_)
        by_cases hv43 : 48 ≤ nxc tx ln (p + 1) ∧ nxc tx ln (p + 1) ≤ 50
        · have hp4q := hp4
          rw [if_pos hv43] at hp4
          obtain ⟨rfl, rfl⟩ := hp4
          show GG k _ _ [[((t 0), .inr (5, [.ref (t 1), .int (nI ln), .ref la, .int (nI (p + 1)), .int x1, .int x2, .int x3, .int x4, .int (nI ((nxc tx ln p) - 48))]))], cCh v t fc] _ _ [.int (nI 1)]
          refine g_if_eqN (tgt := 73) X dX5_takeGoal_46 (by decide) (by omega) (fun c46 => ?_) (fun c46 => ?_)
          · exact absurd c46 (by decide)
          · refine g_aload_n X dX5_takeGoal_49 0 rfl rfl ?_
            refine g_bipush (x := nI 10) X dX5_takeGoal_50 (by decide +kernel) ?_
            refine g_aload_n X dX5_takeGoal_52 0 rfl rfl ?_
            refine g_callV (As := []) (rest := [.int (nI 10), .ref (t 0)]) (wr := []) X (c_X5_next l v t la ln (p + 1) x1 x2 x3 x4 (nI ((nxc tx ln p) - 48)) fc tx hT (by omega)) f_X5_next q_7_5 dX5_takeGoal_53 [0, 1] [] rfl rfl (by decide) 0 rfl rfl rfl rfl (Nat.le_of_ble_eq_true rfl) (by decide) (fun r_ w_ hp6 => ?_)
            have hz5 := nxc_lt hT (p + 1)
            obtain ⟨rfl, rfl⟩ := hp6
            show GG k _ _ [[((t 0), .inr (5, [.ref (t 1), .int (nI ln), .ref la, .int (nI (p + 1)), .int x1, .int x2, .int x3, .int x4, .int (nI ((nxc tx ln p) - 48))]))], cCh v t fc] _ _ [.int (nI (nxc tx ln (p + 1))), .int (nI 10), .ref (t 0)]
            refine g_iaddN X dX5_takeGoal_56 ?_
            refine g_bipush (x := nI 48) X dX5_takeGoal_57 (by decide +kernel) ?_
            refine g_isubN X dX5_takeGoal_59 (by omega) ?_
            refine g_put (cs' := [[((t 0), .inr (5, [.ref (t 1), .int (nI ln), .ref la, .int (nI (p + 1)), .int x1, .int x2, .int x3, .int x4, .int (nI ((10 + (nxc tx ln (p + 1))) - 48))]))], cCh v t fc]) X cb5 8 q_7_0 dX5_takeGoal_60 0 0 rfl rfl (by decide) rfl rfl (rfl) (rfl) (Nat.le_of_ble_eq_true rfl) rfl ?_
            refine g_aload_n X dX5_takeGoal_63 0 rfl rfl ?_
            refine g_dup X dX5_takeGoal_64 rfl ?_
            refine g_get X cb5 3 q_6_12 dX5_takeGoal_65 0 0 rfl rfl (by decide) rfl rfl ?_
            refine g_iconst (x := nI 1) X dX5_takeGoal_68 (by decide +kernel) ?_
            refine g_iaddN X dX5_takeGoal_69 ?_
            refine g_put (cs' := [[((t 0), .inr (5, [.ref (t 1), .int (nI ln), .ref la, .int (nI ((p + 1) + 1)), .int x1, .int x2, .int x3, .int x4, .int (nI ((10 + (nxc tx ln (p + 1))) - 48))]))], cCh v t fc]) X cb5 3 q_6_12 dX5_takeGoal_70 0 0 rfl rfl (by decide) rfl rfl (rfl) (rfl) (Nat.le_of_ble_eq_true rfl) rfl ?_
            refine g_iconst (x := nI 1) X dX5_takeGoal_73 (by decide +kernel) ?_
            exact E dX5_takeGoal_74 rfl (rfl) (by decide) (by decide) (by have e : pGoal tx ln p = (some ((10 + (nxc tx ln (p + 1))) - 48), (p + 1) + 1) := (by simp only [pGoal, if_pos hv3, if_pos (show nxc tx ln p = 49 ∧ 48 ≤ nxc tx ln (p + 1) ∧ nxc tx ln (p + 1) ≤ 50 by omega)]); rw [e]; dsimp only; exact ⟨rfl, rfl⟩)
        · have hp4q := hp4
          rw [if_neg hv43] at hp4
          obtain ⟨rfl, rfl⟩ := hp4
          show GG k _ _ [[((t 0), .inr (5, [.ref (t 1), .int (nI ln), .ref la, .int (nI (p + 1)), .int x1, .int x2, .int x3, .int x4, .int (nI ((nxc tx ln p) - 48))]))], cCh v t fc] _ _ [.int (nI 0)]
          refine g_if_eqN (tgt := 73) X dX5_takeGoal_46 (by decide) (by omega) (fun c46 => ?_) (fun c46 => ?_)
          · refine g_iconst (x := nI 1) X dX5_takeGoal_73 (by decide +kernel) ?_
            exact E dX5_takeGoal_74 rfl (rfl) (by decide) (by decide) (by have e : pGoal tx ln p = (some ((nxc tx ln p) - 48), p + 1) := (by simp only [pGoal, if_pos hv3, if_neg (show ¬ (nxc tx ln p = 49 ∧ 48 ≤ nxc tx ln (p + 1) ∧ nxc tx ln (p + 1) ≤ 50) by omega)]); rw [e]; dsimp only; exact ⟨rfl, rfl⟩)
          · exact absurd rfl c46
    · exact absurd c6 (by decide)
  · have hp1q := hp1
    rw [if_neg hv3] at hp1
    obtain ⟨rfl, rfl⟩ := hp1
    show GG k _ _ [[((t 0), .inr (5, [.ref (t 1), .int (nI ln), .ref la, .int (nI p), .int x1, .int x2, .int x3, .int x4, .int x5]))], cCh v t fc] _ _ [.int (nI 0)]
    refine g_if_neN (tgt := 11) X dX5_takeGoal_6 (by decide) (by omega) (fun c6 => ?_) (fun c6 => ?_)
    · exact absurd rfl c6
    · refine g_iconst (x := nI 0) X dX5_takeGoal_9 (by decide +kernel) ?_
      exact E dX5_takeGoal_10 rfl (rfl) (by decide) (by decide) (by have e : pGoal tx ln p = (none, p) := (by simp only [pGoal, if_neg hv3]); rw [e]; dsimp only; exact ⟨rfl, rfl⟩)

set_option maxHeartbeats 4000000 in
set_option maxRecDepth 100000 in
theorem c_X5_keep (l : Launch) (v : VV) (t : Nat → Nat) (ln : Nat) (p : Nat) (x1 : Int32) (x2 : Int32) (x3 : Int32) (x4 : Int32) (x5 : Int32) (a : Nat → Nat) (n : Nat) (f : Nat → Nat → Int32) (kd : Int32) (hn : n < 12) : MI l v yX5_keep cX5_keep 2 (some .boolean) ({ frames := 1, cells := 0, slots := 0, locals := 26 }) [.ref (t 0), .int kd] [[((t 0), .inr (5, [.ref (t 1), .int (nI ln), .ref (a 0), .int (nI p), .int x1, .int x2, .int x3, .int x4, .int x5]))], cPg v a n f] (fun r w_ => r = nI 1 ∧ w_ = [[(t 0, .inr (5, [.ref (t 1), .int (nI ln), .ref (a 0), .int (nI p), .int x1, .int x2, .int x3, .int x4, .int x5]))], cPg v a (n + 1) (pu f n (x6 kd x1 x2 x3 x4 x5))]) 0 0 := by
  refine mm_int (by decide) (Nat.le_of_ble_eq_true rfl) [(0, .ref (t 0)), (1, .int kd)] rfl (fun k X E => ?_)
  refine g_aload_n X dX5_keep_0 0 rfl rfl ?_
  refine g_get X cb5 2 q_4_10 dX5_keep_1 0 0 rfl rfl (by decide) rfl rfl ?_
  refine g_iload_n X dX5_keep_4 1 rfl rfl ?_
  refine g_aload_n X dX5_keep_5 0 rfl rfl ?_
  refine g_get X cb5 4 q_7_17 dX5_keep_6 0 0 rfl rfl (by decide) rfl rfl ?_
  refine g_aload_n X dX5_keep_9 0 rfl rfl ?_
  refine g_get X cb5 5 q_6_22 dX5_keep_10 0 0 rfl rfl (by decide) rfl rfl ?_
  refine g_aload_n X dX5_keep_13 0 rfl rfl ?_
  refine g_get X cb5 6 q_11_19 dX5_keep_14 0 0 rfl rfl (by decide) rfl rfl ?_
  refine g_aload_n X dX5_keep_17 0 rfl rfl ?_
  refine g_get X cb5 7 q_6_23 dX5_keep_18 0 0 rfl rfl (by decide) rfl rfl ?_
  refine g_aload_n X dX5_keep_21 0 rfl rfl ?_
  refine g_get X cb5 8 q_7_0 dX5_keep_22 0 0 rfl rfl (by decide) rfl rfl ?_
  refine g_callV (As := [.int kd, .int x1, .int x2, .int x3, .int x4, .int x5]) (rest := []) (wr := [[((t 0), .inr (5, [.ref (t 1), .int (nI ln), .ref (a 0), .int (nI p), .int x1, .int x2, .int x3, .int x4, .int x5]))]]) X (c_X3_put l v a n f kd x1 x2 x3 x4 x5 (by omega)) f_X3_put q_12_4 dX5_keep_25 [1] [0] rfl rfl (by decide) 0 rfl rfl rfl rfl (Nat.le_of_ble_eq_true rfl) (by decide) (fun r_ w_ hp1 => ?_)
  subst hp1
  show GG k _ _ [cPg v a (n + 1) (pu f n (x6 kd x1 x2 x3 x4 x5)), [((t 0), .inr (5, [.ref (t 1), .int (nI ln), .ref (a 0), .int (nI p), .int x1, .int x2, .int x3, .int x4, .int x5]))]] _ _ []
  refine g_pick (cs' := [[((t 0), .inr (5, [.ref (t 1), .int (nI ln), .ref (a 0), .int (nI p), .int x1, .int x2, .int x3, .int x4, .int x5]))], cPg v a (n + 1) (pu f n (x6 kd x1 x2 x3 x4 x5))]) [1, 0] rfl rfl ?_
  refine g_iconst (x := nI 1) X dX5_keep_28 (by decide +kernel) ?_
  exact E dX5_keep_29 rfl (rfl) (by decide) (by decide) (⟨rfl, rfl⟩)

set_option maxHeartbeats 4000000 in
set_option maxRecDepth 100000 in
theorem c_X5_takeTest (l : Launch) (v : VV) (t : Nat → Nat) (la : Nat) (ln : Nat) (p : Nat) (x1 : Int32) (x2 : Int32) (x3 : Int32) (x4 : Int32) (x5 : Int32) (fc : Nat → Int32) (tx : Nat → Nat) (hT : TxR tx ln fc) (hp : p ≤ 96) : MI l v yX5_takeTest cX5_takeTest 1 (some .boolean) ({ frames := 5, cells := 0, slots := 0, locals := 112 }) [.ref (t 0)] [[((t 0), .inr (5, [.ref (t 1), .int (nI ln), .ref la, .int (nI p), .int x1, .int x2, .int x3, .int x4, .int x5]))], cCh v t fc] (fun r w_ => match (pTest tx ln p).1 with | none => ∃ y1 y2 y3, r = nI 0 ∧ w_ = [[(t 0, .inr (5, [.ref (t 1), .int (nI ln), .ref la, .int (nI ((pTest tx ln p).2)), .int y1, .int y2, .int y3, .int x4, .int x5]))], cCh v t fc] | some x => r = nI 1 ∧ w_ = [[(t 0, .inr (5, [.ref (t 1), .int (nI ln), .ref la, .int (nI ((pTest tx ln p).2)), .int (nI x.1), .int (nI x.2.1), .int (nI x.2.2), .int x4, .int x5]))], cCh v t fc]) 0 0 := by
  refine mm_int (by decide) (Nat.le_of_ble_eq_true rfl) [(0, .ref (t 0))] rfl (fun k X E => ?_)
  refine g_aload_n X dX5_takeTest_0 0 rfl rfl ?_
  refine g_callV (As := []) (rest := []) (wr := []) X (c_X5_takeVariable l v t la ln p x1 x2 x3 x4 x5 fc tx hT (by omega)) f_X5_takeVariable q_7_13 dX5_takeTest_1 [0, 1] [] rfl rfl (by decide) 0 rfl rfl rfl rfl (Nat.le_of_ble_eq_true rfl) (by decide) (fun r_ w_ hp1 => ?_)
  cases hv1 : vcl (nxc tx ln p) with
  | none =>
    have hp1q := hp1
    rw [hv1] at hp1
    obtain ⟨rfl, rfl⟩ := hp1
    show GG k _ _ [[((t 0), .inr (5, [.ref (t 1), .int (nI ln), .ref la, .int (nI p), .int x1, .int x2, .int x3, .int x4, .int x5]))], cCh v t fc] _ _ [.int (nI 0)]
    refine g_if_eqN (tgt := 25) X dX5_takeTest_4 (by decide) (by omega) (fun c4 => ?_) (fun c4 => ?_)
    · refine g_iconst (x := nI 0) X dX5_takeTest_25 (by decide +kernel) ?_
      exact E dX5_takeTest_26 rfl (rfl) (by decide) (by decide) (by have e : pTest tx ln p = (none, p) := (by simp only [pTest, hv1]); rw [e]; dsimp only; exact ⟨_, _, _, rfl, rfl⟩)
    · exact absurd rfl c4
  | some ahv1 =>
    have hp1q := hp1
    rw [hv1] at hp1
    have hlhv1 := vcl_lt hv1
    obtain ⟨rfl, rfl⟩ := hp1
    show GG k _ _ [[((t 0), .inr (5, [.ref (t 1), .int (nI ln), .ref la, .int (nI (p + 1)), .int (nI ahv1), .int x2, .int x3, .int x4, .int x5]))], cCh v t fc] _ _ [.int (nI 1)]
    refine g_if_eqN (tgt := 25) X dX5_takeTest_4 (by decide) (by omega) (fun c4 => ?_) (fun c4 => ?_)
    · exact absurd c4 (by decide)
    · refine g_aload_n X dX5_takeTest_7 0 rfl rfl ?_
      refine g_callV (As := []) (rest := []) (wr := []) X (c_X5_takeSign l v t la ln (p + 1) (nI ahv1) x2 x3 x4 x5 fc tx hT (by omega)) f_X5_takeSign q_11_11 dX5_takeTest_8 [0, 1] [] rfl rfl (by decide) 0 rfl rfl rfl rfl (Nat.le_of_ble_eq_true rfl) (by decide) (fun r_ w_ hp2 => ?_)
      cases hv8 : scl (nxc tx ln (p + 1)) with
      | none =>
        have hp2q := hp2
        rw [hv8] at hp2
        obtain ⟨rfl, rfl⟩ := hp2
        show GG k _ _ [[((t 0), .inr (5, [.ref (t 1), .int (nI ln), .ref la, .int (nI (p + 1)), .int (nI ahv1), .int x2, .int x3, .int x4, .int x5]))], cCh v t fc] _ _ [.int (nI 0)]
        refine g_if_eqN (tgt := 25) X dX5_takeTest_11 (by decide) (by omega) (fun c11 => ?_) (fun c11 => ?_)
        · refine g_iconst (x := nI 0) X dX5_takeTest_25 (by decide +kernel) ?_
          exact E dX5_takeTest_26 rfl (rfl) (by decide) (by decide) (by have e : pTest tx ln p = (none, p + 1) := (by simp only [pTest, hv1, hv8]); rw [e]; dsimp only; exact ⟨_, _, _, rfl, rfl⟩)
        · exact absurd rfl c11
      | some ahv8 =>
        have hp2q := hp2
        rw [hv8] at hp2
        have hlhv8 := scl_lt hv8
        obtain ⟨rfl, rfl⟩ := hp2
        show GG k _ _ [[((t 0), .inr (5, [.ref (t 1), .int (nI ln), .ref la, .int (nI (p + 1 + 1)), .int (nI ahv1), .int (nI ahv8), .int x3, .int x4, .int x5]))], cCh v t fc] _ _ [.int (nI 1)]
        refine g_if_eqN (tgt := 25) X dX5_takeTest_11 (by decide) (by omega) (fun c11 => ?_) (fun c11 => ?_)
        · exact absurd c11 (by decide)
        · refine g_aload_n X dX5_takeTest_14 0 rfl rfl ?_
          refine g_callV (As := []) (rest := []) (wr := []) X (c_X5_takeOperand l v t la ln (p + 1 + 1) (nI ahv1) (nI ahv8) x3 x4 x5 fc tx hT (by omega)) f_X5_takeOperand q_11_15 dX5_takeTest_15 [0, 1] [] rfl rfl (by decide) 0 rfl rfl rfl rfl (Nat.le_of_ble_eq_true rfl) (by decide) (fun r_ w_ hp3 => ?_)
          cases hv15 : ocl (nxc tx ln (p + 1 + 1)) with
          | none =>
            have hp3q := hp3
            rw [hv15] at hp3
            obtain ⟨rfl, rfl⟩ := hp3
            show GG k _ _ [[((t 0), .inr (5, [.ref (t 1), .int (nI ln), .ref la, .int (nI (p + 1 + 1)), .int (nI ahv1), .int (nI ahv8), .int x3, .int x4, .int x5]))], cCh v t fc] _ _ [.int (nI 0)]
            refine g_if_eqN (tgt := 25) X dX5_takeTest_18 (by decide) (by omega) (fun c18 => ?_) (fun c18 => ?_)
            · refine g_iconst (x := nI 0) X dX5_takeTest_25 (by decide +kernel) ?_
              exact E dX5_takeTest_26 rfl (rfl) (by decide) (by decide) (by have e : pTest tx ln p = (none, p + 1 + 1) := (by simp only [pTest, hv1, hv8, hv15]); rw [e]; dsimp only; exact ⟨_, _, _, rfl, rfl⟩)
            · exact absurd rfl c18
          | some ahv15 =>
            have hp3q := hp3
            rw [hv15] at hp3
            have hlhv15 := ocl_lt hv15
            obtain ⟨rfl, rfl⟩ := hp3
            show GG k _ _ [[((t 0), .inr (5, [.ref (t 1), .int (nI ln), .ref la, .int (nI (p + 1 + 1 + 1)), .int (nI ahv1), .int (nI ahv8), .int (nI ahv15), .int x4, .int x5]))], cCh v t fc] _ _ [.int (nI 1)]
            refine g_if_eqN (tgt := 25) X dX5_takeTest_18 (by decide) (by omega) (fun c18 => ?_) (fun c18 => ?_)
            · exact absurd c18 (by decide)
            · refine g_iconst (x := nI 1) X dX5_takeTest_21 (by decide +kernel) ?_
              refine g_goto (tgt := 26) X dX5_takeTest_22 (by decide) ?_
              exact E dX5_takeTest_26 rfl (rfl) (by decide) (by decide) (by have e : pTest tx ln p = (some (ahv1, ahv8, ahv15), p + 1 + 1 + 1) := (by simp only [pTest, hv1, hv8, hv15]); rw [e]; dsimp only; exact ⟨rfl, rfl⟩)

set_option maxHeartbeats 4000000 in
set_option maxRecDepth 100000 in
theorem c_X5_takeStatement (l : Launch) (v : VV) (t : Nat → Nat) (ln : Nat) (p : Nat) (x1 : Int32) (x2 : Int32) (x3 : Int32) (x4 : Int32) (x5 : Int32) (fc : Nat → Int32) (tx : Nat → Nat) (a : Nat → Nat) (n : Nat) (f : Nat → Nat → Int32) (hT : TxR tx ln fc) (hp : p ≤ 80) (hn : n < 12) : MI l v yX5_takeStatement cX5_takeStatement 1 (some .boolean) ({ frames := 6, cells := 0, slots := 0, locals := 132 }) [.ref (t 0)] [[((t 0), .inr (5, [.ref (t 1), .int (nI ln), .ref (a 0), .int (nI p), .int x1, .int x2, .int x3, .int x4, .int x5]))], cCh v t fc, cPg v a n f] (fun r w_ => match (pStmt tx ln p).1 with | none => ∃ y1 y2 y3 y4 y5, r = nI 0 ∧ w_ = [[(t 0, .inr (5, [.ref (t 1), .int (nI ln), .ref (a 0), .int (nI ((pStmt tx ln p).2)), .int y1, .int y2, .int y3, .int y4, .int y5]))], cCh v t fc, cPg v a n f] | some s => ∃ y1 y2 y3 y4 y5, r = nI 1 ∧ w_ = [[(t 0, .inr (5, [.ref (t 1), .int (nI ln), .ref (a 0), .int (nI ((pStmt tx ln p).2)), .int y1, .int y2, .int y3, .int y4, .int y5]))], cCh v t fc, cPg v a (n + 1) (pu f n (x6 (nI s.1) (nI s.2.1) (nI s.2.2.1) (nI s.2.2.2.1) (zI (ad9 s)) (zI (tg9 s))))]) 0 0 := by
  refine mm_int (by decide) (Nat.le_of_ble_eq_true rfl) [(0, .ref (t 0))] rfl (fun k X E => ?_)
  refine g_aload_n X dX5_takeStatement_0 0 rfl rfl ?_
  refine g_iconst (x := nI 0) X dX5_takeStatement_1 (by decide +kernel) ?_
  refine g_put (cs' := [[((t 0), .inr (5, [.ref (t 1), .int (nI ln), .ref (a 0), .int (nI p), .int x1, .int (nI 0), .int x3, .int x4, .int x5]))], cCh v t fc, cPg v a n f]) X cb5 5 q_6_22 dX5_takeStatement_2 0 0 rfl rfl (by decide) rfl rfl (rfl) (rfl) (Nat.le_of_ble_eq_true rfl) rfl ?_
  refine g_aload_n X dX5_takeStatement_5 0 rfl rfl ?_
  refine g_iconst (x := nI 0) X dX5_takeStatement_6 (by decide +kernel) ?_
  refine g_put (cs' := [[((t 0), .inr (5, [.ref (t 1), .int (nI ln), .ref (a 0), .int (nI p), .int x1, .int (nI 0), .int x3, .int (nI 0), .int x5]))], cCh v t fc, cPg v a n f]) X cb5 7 q_6_23 dX5_takeStatement_7 0 0 rfl rfl (by decide) rfl rfl (rfl) (rfl) (Nat.le_of_ble_eq_true rfl) rfl ?_
  refine g_aload_n X dX5_takeStatement_10 0 rfl rfl ?_
  refine g_iconst (x := zI (-1)) X dX5_takeStatement_11 (by decide +kernel) ?_
  refine g_put (cs' := [[((t 0), .inr (5, [.ref (t 1), .int (nI ln), .ref (a 0), .int (nI p), .int x1, .int (nI 0), .int x3, .int (nI 0), .int (zI (-1))]))], cCh v t fc, cPg v a n f]) X cb5 8 q_7_0 dX5_takeStatement_12 0 0 rfl rfl (by decide) rfl rfl (rfl) (rfl) (Nat.le_of_ble_eq_true rfl) rfl ?_
  refine g_aload_n X dX5_takeStatement_15 0 rfl rfl ?_
  refine g_bipush (x := nI 33) X dX5_takeStatement_16 (by decide +kernel) ?_
  refine g_callV (As := [.int (nI 33)]) (rest := []) (wr := [cPg v a n f]) X (c_X5_take l v t (a 0) ln p x1 (nI 0) x3 (nI 0) (zI (-1)) fc tx 33 hT (by omega)  (by decide)) f_X5_take q_7_1 dX5_takeStatement_18 [0, 1] [2] rfl rfl (by decide) 0 rfl rfl rfl rfl (Nat.le_of_ble_eq_true rfl) (by decide) (fun r_ w_ hp1 => ?_)
  by_cases hv18 : nxc tx ln p = 33
  · have hp1q := hp1
    rw [if_pos hv18] at hp1
    obtain ⟨rfl, rfl⟩ := hp1
    show GG k _ _ [[((t 0), .inr (5, [.ref (t 1), .int (nI ln), .ref (a 0), .int (nI (p + 1)), .int x1, .int (nI 0), .int x3, .int (nI 0), .int (zI (-1))]))], cCh v t fc, cPg v a n f] _ _ [.int (nI 1)]
    refine g_if_eqN (tgt := 45) X dX5_takeStatement_21 (by decide) (by omega) (fun c21 => ?_) (fun c21 => ?_)
    · exact absurd c21 (by decide)
    · refine g_aload_n X dX5_takeStatement_24 0 rfl rfl ?_
      refine g_callV (As := []) (rest := []) (wr := [cPg v a n f]) X (c_X5_takeTest l v t (a 0) ln (p + 1) x1 (nI 0) x3 (nI 0) (zI (-1)) fc tx hT (by omega)) f_X5_takeTest q_7_9 dX5_takeStatement_25 [0, 1] [2] rfl rfl (by decide) 0 rfl rfl rfl rfl (Nat.le_of_ble_eq_true rfl) (by decide) (fun r_ w_ hp4 => ?_)
      cases hv25 : (pTest tx ln (p + 1)).1 with
      | none =>
        have hp4q := hp4
        rw [hv25] at hp4
        have hb3 := pTest_b (tx := tx) (len := ln) (p := p + 1)
        obtain ⟨y2a, y2b, y2c, rfl, rfl⟩ := hp4
        show GG k _ _ [[((t 0), .inr (5, [.ref (t 1), .int (nI ln), .ref (a 0), .int (nI ((pTest tx ln (p + 1)).2)), .int y2a, .int y2b, .int y2c, .int (nI 0), .int (zI (-1))]))], cCh v t fc, cPg v a n f] _ _ [.int (nI 0)]
        refine g_if_eqN (tgt := 43) X dX5_takeStatement_28 (by decide) (by omega) (fun c28 => ?_) (fun c28 => ?_)
        · refine g_iconst (x := nI 0) X dX5_takeStatement_43 (by decide +kernel) ?_
          exact E dX5_takeStatement_44 rfl (rfl) (by decide) (by decide) (by have e : pStmt tx ln p = (none, (pTest tx ln (p + 1)).2) := (by simp only [pStmt, if_pos hv18, hv25]); rw [e]; dsimp only; exact ⟨y2a, y2b, y2c, nI 0, zI (-1), rfl, rfl⟩)
        · exact absurd rfl c28
      | some ahv25 =>
        have hp4q := hp4
        rw [hv25] at hp4
        have hb3 := pTest_b (tx := tx) (len := ln) (p := p + 1)
        obtain ⟨rfl, rfl⟩ := hp4
        show GG k _ _ [[((t 0), .inr (5, [.ref (t 1), .int (nI ln), .ref (a 0), .int (nI ((pTest tx ln (p + 1)).2)), .int (nI ahv25.1), .int (nI ahv25.2.1), .int (nI ahv25.2.2), .int (nI 0), .int (zI (-1))]))], cCh v t fc, cPg v a n f] _ _ [.int (nI 1)]
        refine g_if_eqN (tgt := 43) X dX5_takeStatement_28 (by decide) (by omega) (fun c28 => ?_) (fun c28 => ?_)
        · exact absurd c28 (by decide)
        · refine g_aload_n X dX5_takeStatement_31 0 rfl rfl ?_
          refine g_iconst (x := nI 1) X dX5_takeStatement_32 (by decide +kernel) ?_
          refine g_callV (As := [.int (nI 1)]) (rest := []) (wr := [cCh v t fc]) X (c_X5_keep l v t ln ((pTest tx ln (p + 1)).2) (nI ahv25.1) (nI ahv25.2.1) (nI ahv25.2.2) (nI 0) (zI (-1)) a n f (nI 1) (by omega)) f_X5_keep q_12_0 dX5_takeStatement_33 [0, 2] [1] rfl rfl (by decide) 0 rfl rfl rfl rfl (Nat.le_of_ble_eq_true rfl) (by decide) (fun r_ w_ hp5 => ?_)
          obtain ⟨rfl, rfl⟩ := hp5
          show GG k _ _ [[((t 0), .inr (5, [.ref (t 1), .int (nI ln), .ref (a 0), .int (nI ((pTest tx ln (p + 1)).2)), .int (nI ahv25.1), .int (nI ahv25.2.1), .int (nI ahv25.2.2), .int (nI 0), .int (zI (-1))]))], cPg v a (n + 1) (pu f n (x6 (nI 1) (nI ahv25.1) (nI ahv25.2.1) (nI ahv25.2.2) (nI 0) (zI (-1)))), cCh v t fc] _ _ [.int (nI 1)]
          refine g_pick (cs' := [[((t 0), .inr (5, [.ref (t 1), .int (nI ln), .ref (a 0), .int (nI ((pTest tx ln (p + 1)).2)), .int (nI ahv25.1), .int (nI ahv25.2.1), .int (nI ahv25.2.2), .int (nI 0), .int (zI (-1))]))], cCh v t fc, cPg v a (n + 1) (pu f n (x6 (nI 1) (nI ahv25.1) (nI ahv25.2.1) (nI ahv25.2.2) (nI 0) (zI (-1))))]) [0, 2, 1] rfl rfl ?_
          refine g_if_eqN (tgt := 43) X dX5_takeStatement_36 (by decide) (by omega) (fun c36 => ?_) (fun c36 => ?_)
          · exact absurd c36 (by decide)
          · refine g_iconst (x := nI 1) X dX5_takeStatement_39 (by decide +kernel) ?_
            refine g_goto (tgt := 44) X dX5_takeStatement_40 (by decide) ?_
            exact E dX5_takeStatement_44 rfl (rfl) (by decide) (by decide) (by have e : pStmt tx ln p = (some (1, ahv25.1, ahv25.2.1, ahv25.2.2, 0), (pTest tx ln (p + 1)).2) := (by simp only [pStmt, if_pos hv18, hv25]); rw [e]; dsimp only; exact ⟨nI ahv25.1, nI ahv25.2.1, nI ahv25.2.2, nI 0, zI (-1), rfl, by simp only [ad9_1, tg9_1, zI0]⟩)
  · have hp1q := hp1
    rw [if_neg hv18] at hp1
    obtain ⟨rfl, rfl⟩ := hp1
    show GG k _ _ [[((t 0), .inr (5, [.ref (t 1), .int (nI ln), .ref (a 0), .int (nI p), .int x1, .int (nI 0), .int x3, .int (nI 0), .int (zI (-1))]))], cCh v t fc, cPg v a n f] _ _ [.int (nI 0)]
    refine g_if_eqN (tgt := 45) X dX5_takeStatement_21 (by decide) (by omega) (fun c21 => ?_) (fun c21 => ?_)
    · refine g_aload_n X dX5_takeStatement_45 0 rfl rfl ?_
      refine g_bipush (x := nI 63) X dX5_takeStatement_46 (by decide +kernel) ?_
      refine g_callV (As := [.int (nI 63)]) (rest := []) (wr := [cPg v a n f]) X (c_X5_take l v t (a 0) ln p x1 (nI 0) x3 (nI 0) (zI (-1)) fc tx 63 hT (by omega)  (by decide)) f_X5_take q_7_1 dX5_takeStatement_48 [0, 1] [2] rfl rfl (by decide) 0 rfl rfl rfl rfl (Nat.le_of_ble_eq_true rfl) (by decide) (fun r_ w_ hp6 => ?_)
      by_cases hv48 : nxc tx ln p = 63
      · have hp6q := hp6
        rw [if_pos hv48] at hp6
        obtain ⟨rfl, rfl⟩ := hp6
        show GG k _ _ [[((t 0), .inr (5, [.ref (t 1), .int (nI ln), .ref (a 0), .int (nI (p + 1)), .int x1, .int (nI 0), .int x3, .int (nI 0), .int (zI (-1))]))], cCh v t fc, cPg v a n f] _ _ [.int (nI 1)]
        refine g_if_eqN (tgt := 91) X dX5_takeStatement_51 (by decide) (by omega) (fun c51 => ?_) (fun c51 => ?_)
        · exact absurd c51 (by decide)
        · refine g_aload_n X dX5_takeStatement_54 0 rfl rfl ?_
          refine g_callV (As := []) (rest := []) (wr := [cPg v a n f]) X (c_X5_takeTest l v t (a 0) ln (p + 1) x1 (nI 0) x3 (nI 0) (zI (-1)) fc tx hT (by omega)) f_X5_takeTest q_7_9 dX5_takeStatement_55 [0, 1] [2] rfl rfl (by decide) 0 rfl rfl rfl rfl (Nat.le_of_ble_eq_true rfl) (by decide) (fun r_ w_ hp9 => ?_)
          cases hv55 : (pTest tx ln (p + 1)).1 with
          | none =>
            have hp9q := hp9
            rw [hv55] at hp9
            have hb8 := pTest_b (tx := tx) (len := ln) (p := p + 1)
            obtain ⟨y7a, y7b, y7c, rfl, rfl⟩ := hp9
            show GG k _ _ [[((t 0), .inr (5, [.ref (t 1), .int (nI ln), .ref (a 0), .int (nI ((pTest tx ln (p + 1)).2)), .int y7a, .int y7b, .int y7c, .int (nI 0), .int (zI (-1))]))], cCh v t fc, cPg v a n f] _ _ [.int (nI 0)]
            refine g_if_eqN (tgt := 89) X dX5_takeStatement_58 (by decide) (by omega) (fun c58 => ?_) (fun c58 => ?_)
            · refine g_iconst (x := nI 0) X dX5_takeStatement_89 (by decide +kernel) ?_
              exact E dX5_takeStatement_90 rfl (rfl) (by decide) (by decide) (by have e : pStmt tx ln p = (none, (pTest tx ln (p + 1)).2) := (by simp only [pStmt, if_neg hv18, if_pos hv48, hv55]); rw [e]; dsimp only; exact ⟨y7a, y7b, y7c, nI 0, zI (-1), rfl, rfl⟩)
            · exact absurd rfl c58
          | some ahv55 =>
            have hp9q := hp9
            rw [hv55] at hp9
            have hb8 := pTest_b (tx := tx) (len := ln) (p := p + 1)
            obtain ⟨rfl, rfl⟩ := hp9
            show GG k _ _ [[((t 0), .inr (5, [.ref (t 1), .int (nI ln), .ref (a 0), .int (nI ((pTest tx ln (p + 1)).2)), .int (nI ahv55.1), .int (nI ahv55.2.1), .int (nI ahv55.2.2), .int (nI 0), .int (zI (-1))]))], cCh v t fc, cPg v a n f] _ _ [.int (nI 1)]
            refine g_if_eqN (tgt := 89) X dX5_takeStatement_58 (by decide) (by omega) (fun c58 => ?_) (fun c58 => ?_)
            · exact absurd c58 (by decide)
            · refine g_aload_n X dX5_takeStatement_61 0 rfl rfl ?_
              refine g_bipush (x := nI 64) X dX5_takeStatement_62 (by decide +kernel) ?_
              refine g_callV (As := [.int (nI 64)]) (rest := []) (wr := [cPg v a n f]) X (c_X5_take l v t (a 0) ln ((pTest tx ln (p + 1)).2) (nI ahv55.1) (nI ahv55.2.1) (nI ahv55.2.2) (nI 0) (zI (-1)) fc tx 64 hT (by omega)  (by decide)) f_X5_take q_7_1 dX5_takeStatement_64 [0, 1] [2] rfl rfl (by decide) 0 rfl rfl rfl rfl (Nat.le_of_ble_eq_true rfl) (by decide) (fun r_ w_ hp10 => ?_)
              by_cases hv64 : nxc tx ln ((pTest tx ln (p + 1)).2) = 64
              · have hp10q := hp10
                rw [if_pos hv64] at hp10
                obtain ⟨rfl, rfl⟩ := hp10
                show GG k _ _ [[((t 0), .inr (5, [.ref (t 1), .int (nI ln), .ref (a 0), .int (nI ((pTest tx ln (p + 1)).2 + 1)), .int (nI ahv55.1), .int (nI ahv55.2.1), .int (nI ahv55.2.2), .int (nI 0), .int (zI (-1))]))], cCh v t fc, cPg v a n f] _ _ [.int (nI 1)]
                refine g_if_eqN (tgt := 89) X dX5_takeStatement_67 (by decide) (by omega) (fun c67 => ?_) (fun c67 => ?_)
                · exact absurd c67 (by decide)
                · refine g_aload_n X dX5_takeStatement_70 0 rfl rfl ?_
                  refine g_callV (As := []) (rest := []) (wr := [cPg v a n f]) X (c_X5_takeGoal l v t (a 0) ln ((pTest tx ln (p + 1)).2 + 1) (nI ahv55.1) (nI ahv55.2.1) (nI ahv55.2.2) (nI 0) (zI (-1)) fc tx hT (by omega)) f_X5_takeGoal q_12_8 dX5_takeStatement_71 [0, 1] [2] rfl rfl (by decide) 0 rfl rfl rfl rfl (Nat.le_of_ble_eq_true rfl) (by decide) (fun r_ w_ hp12 => ?_)
                  cases hv71 : (pGoal tx ln ((pTest tx ln (p + 1)).2 + 1)).1 with
                  | none =>
                    have hp12q := hp12
                    rw [hv71] at hp12
                    have hb11 := pGoal_b (tx := tx) (len := ln) (p := (pTest tx ln (p + 1)).2 + 1)
                    obtain ⟨rfl, rfl⟩ := hp12
                    show GG k _ _ [[((t 0), .inr (5, [.ref (t 1), .int (nI ln), .ref (a 0), .int (nI ((pGoal tx ln ((pTest tx ln (p + 1)).2 + 1)).2)), .int (nI ahv55.1), .int (nI ahv55.2.1), .int (nI ahv55.2.2), .int (nI 0), .int (zI (-1))]))], cCh v t fc, cPg v a n f] _ _ [.int (nI 0)]
                    refine g_if_eqN (tgt := 89) X dX5_takeStatement_74 (by decide) (by omega) (fun c74 => ?_) (fun c74 => ?_)
                    · refine g_iconst (x := nI 0) X dX5_takeStatement_89 (by decide +kernel) ?_
                      exact E dX5_takeStatement_90 rfl (rfl) (by decide) (by decide) (by have e : pStmt tx ln p = (none, (pGoal tx ln ((pTest tx ln (p + 1)).2 + 1)).2) := (by simp only [pStmt, if_neg hv18, if_pos hv48, hv55, if_pos hv64, hv71]); rw [e]; dsimp only; exact ⟨nI ahv55.1, nI ahv55.2.1, nI ahv55.2.2, nI 0, zI (-1), rfl, rfl⟩)
                    · exact absurd rfl c74
                  | some ahv71 =>
                    have hp12q := hp12
                    rw [hv71] at hp12
                    have hb11 := pGoal_b (tx := tx) (len := ln) (p := (pTest tx ln (p + 1)).2 + 1)
                    obtain ⟨rfl, rfl⟩ := hp12
                    show GG k _ _ [[((t 0), .inr (5, [.ref (t 1), .int (nI ln), .ref (a 0), .int (nI ((pGoal tx ln ((pTest tx ln (p + 1)).2 + 1)).2)), .int (nI ahv55.1), .int (nI ahv55.2.1), .int (nI ahv55.2.2), .int (nI 0), .int (nI ahv71)]))], cCh v t fc, cPg v a n f] _ _ [.int (nI 1)]
                    refine g_if_eqN (tgt := 89) X dX5_takeStatement_74 (by decide) (by omega) (fun c74 => ?_) (fun c74 => ?_)
                    · exact absurd c74 (by decide)
                    · refine g_aload_n X dX5_takeStatement_77 0 rfl rfl ?_
                      refine g_iconst (x := nI 2) X dX5_takeStatement_78 (by decide +kernel) ?_
                      refine g_callV (As := [.int (nI 2)]) (rest := []) (wr := [cCh v t fc]) X (c_X5_keep l v t ln ((pGoal tx ln ((pTest tx ln (p + 1)).2 + 1)).2) (nI ahv55.1) (nI ahv55.2.1) (nI ahv55.2.2) (nI 0) (nI ahv71) a n f (nI 2) (by omega)) f_X5_keep q_12_0 dX5_takeStatement_79 [0, 2] [1] rfl rfl (by decide) 0 rfl rfl rfl rfl (Nat.le_of_ble_eq_true rfl) (by decide) (fun r_ w_ hp13 => ?_)
                      obtain ⟨rfl, rfl⟩ := hp13
                      show GG k _ _ [[((t 0), .inr (5, [.ref (t 1), .int (nI ln), .ref (a 0), .int (nI ((pGoal tx ln ((pTest tx ln (p + 1)).2 + 1)).2)), .int (nI ahv55.1), .int (nI ahv55.2.1), .int (nI ahv55.2.2), .int (nI 0), .int (nI ahv71)]))], cPg v a (n + 1) (pu f n (x6 (nI 2) (nI ahv55.1) (nI ahv55.2.1) (nI ahv55.2.2) (nI 0) (nI ahv71))), cCh v t fc] _ _ [.int (nI 1)]
                      refine g_pick (cs' := [[((t 0), .inr (5, [.ref (t 1), .int (nI ln), .ref (a 0), .int (nI ((pGoal tx ln ((pTest tx ln (p + 1)).2 + 1)).2)), .int (nI ahv55.1), .int (nI ahv55.2.1), .int (nI ahv55.2.2), .int (nI 0), .int (nI ahv71)]))], cCh v t fc, cPg v a (n + 1) (pu f n (x6 (nI 2) (nI ahv55.1) (nI ahv55.2.1) (nI ahv55.2.2) (nI 0) (nI ahv71)))]) [0, 2, 1] rfl rfl ?_
                      refine g_if_eqN (tgt := 89) X dX5_takeStatement_82 (by decide) (by omega) (fun c82 => ?_) (fun c82 => ?_)
                      · exact absurd c82 (by decide)
                      · refine g_iconst (x := nI 1) X dX5_takeStatement_85 (by decide +kernel) ?_
                        refine g_goto (tgt := 90) X dX5_takeStatement_86 (by decide) ?_
                        exact E dX5_takeStatement_90 rfl (rfl) (by decide) (by decide) (by have e : pStmt tx ln p = (some (2, ahv55.1, ahv55.2.1, ahv55.2.2, (ahv71 : Int)), (pGoal tx ln ((pTest tx ln (p + 1)).2 + 1)).2) := (by simp only [pStmt, if_neg hv18, if_pos hv48, hv55, if_pos hv64, hv71]); rw [e]; dsimp only; exact ⟨nI ahv55.1, nI ahv55.2.1, nI ahv55.2.2, nI 0, nI ahv71, rfl, by simp only [ad9_2, tg9_2, zI0, ← zI_nI]⟩)
              · have hp10q := hp10
                rw [if_neg hv64] at hp10
                obtain ⟨rfl, rfl⟩ := hp10
                show GG k _ _ [[((t 0), .inr (5, [.ref (t 1), .int (nI ln), .ref (a 0), .int (nI ((pTest tx ln (p + 1)).2)), .int (nI ahv55.1), .int (nI ahv55.2.1), .int (nI ahv55.2.2), .int (nI 0), .int (zI (-1))]))], cCh v t fc, cPg v a n f] _ _ [.int (nI 0)]
                refine g_if_eqN (tgt := 89) X dX5_takeStatement_67 (by decide) (by omega) (fun c67 => ?_) (fun c67 => ?_)
                · refine g_iconst (x := nI 0) X dX5_takeStatement_89 (by decide +kernel) ?_
                  exact E dX5_takeStatement_90 rfl (rfl) (by decide) (by decide) (by have e : pStmt tx ln p = (none, (pTest tx ln (p + 1)).2) := (by simp only [pStmt, if_neg hv18, if_pos hv48, hv55, if_neg hv64]); rw [e]; dsimp only; exact ⟨nI ahv55.1, nI ahv55.2.1, nI ahv55.2.2, nI 0, zI (-1), rfl, rfl⟩)
                · exact absurd rfl c67
      · have hp6q := hp6
        rw [if_neg hv48] at hp6
        obtain ⟨rfl, rfl⟩ := hp6
        show GG k _ _ [[((t 0), .inr (5, [.ref (t 1), .int (nI ln), .ref (a 0), .int (nI p), .int x1, .int (nI 0), .int x3, .int (nI 0), .int (zI (-1))]))], cCh v t fc, cPg v a n f] _ _ [.int (nI 0)]
        refine g_if_eqN (tgt := 91) X dX5_takeStatement_51 (by decide) (by omega) (fun c51 => ?_) (fun c51 => ?_)
        · refine g_aload_n X dX5_takeStatement_91 0 rfl rfl ?_
          refine g_callV (As := []) (rest := []) (wr := [cPg v a n f]) X (c_X5_takeVariable l v t (a 0) ln p x1 (nI 0) x3 (nI 0) (zI (-1)) fc tx hT (by omega)) f_X5_takeVariable q_7_13 dX5_takeStatement_92 [0, 1] [2] rfl rfl (by decide) 0 rfl rfl rfl rfl (Nat.le_of_ble_eq_true rfl) (by decide) (fun r_ w_ hp14 => ?_)
          cases hv92 : vcl (nxc tx ln p) with
          | none =>
            have hp14q := hp14
            rw [hv92] at hp14
            obtain ⟨rfl, rfl⟩ := hp14
            show GG k _ _ [[((t 0), .inr (5, [.ref (t 1), .int (nI ln), .ref (a 0), .int (nI p), .int x1, .int (nI 0), .int x3, .int (nI 0), .int (zI (-1))]))], cCh v t fc, cPg v a n f] _ _ [.int (nI 0)]
            refine g_if_eqN (tgt := 133) X dX5_takeStatement_95 (by decide) (by omega) (fun c95 => ?_) (fun c95 => ?_)
            · refine g_iconst (x := nI 0) X dX5_takeStatement_133 (by decide +kernel) ?_
              exact E dX5_takeStatement_134 rfl (rfl) (by decide) (by decide) (by have e : pStmt tx ln p = (none, p) := (by simp only [pStmt, if_neg hv18, if_neg hv48, hv92]); rw [e]; dsimp only; exact ⟨x1, nI 0, x3, nI 0, zI (-1), rfl, rfl⟩)
            · exact absurd rfl c95
          | some ahv92 =>
            have hp14q := hp14
            rw [hv92] at hp14
            have hlhv92 := vcl_lt hv92
            obtain ⟨rfl, rfl⟩ := hp14
            show GG k _ _ [[((t 0), .inr (5, [.ref (t 1), .int (nI ln), .ref (a 0), .int (nI (p + 1)), .int (nI ahv92), .int (nI 0), .int x3, .int (nI 0), .int (zI (-1))]))], cCh v t fc, cPg v a n f] _ _ [.int (nI 1)]
            refine g_if_eqN (tgt := 133) X dX5_takeStatement_95 (by decide) (by omega) (fun c95 => ?_) (fun c95 => ?_)
            · exact absurd c95 (by decide)
            · refine g_aload_n X dX5_takeStatement_98 0 rfl rfl ?_
              refine g_bipush (x := nI 58) X dX5_takeStatement_99 (by decide +kernel) ?_
              refine g_callV (As := [.int (nI 58)]) (rest := []) (wr := [cPg v a n f]) X (c_X5_take l v t (a 0) ln (p + 1) (nI ahv92) (nI 0) x3 (nI 0) (zI (-1)) fc tx 58 hT (by omega)  (by decide)) f_X5_take q_7_1 dX5_takeStatement_101 [0, 1] [2] rfl rfl (by decide) 0 rfl rfl rfl rfl (Nat.le_of_ble_eq_true rfl) (by decide) (fun r_ w_ hp15 => ?_)
              by_cases hv101 : nxc tx ln (p + 1) = 58
              · have hp15q := hp15
                rw [if_pos hv101] at hp15
                obtain ⟨rfl, rfl⟩ := hp15
                show GG k _ _ [[((t 0), .inr (5, [.ref (t 1), .int (nI ln), .ref (a 0), .int (nI (p + 1 + 1)), .int (nI ahv92), .int (nI 0), .int x3, .int (nI 0), .int (zI (-1))]))], cCh v t fc, cPg v a n f] _ _ [.int (nI 1)]
                refine g_if_eqN (tgt := 133) X dX5_takeStatement_104 (by decide) (by omega) (fun c104 => ?_) (fun c104 => ?_)
                · exact absurd c104 (by decide)
                · refine g_aload_n X dX5_takeStatement_107 0 rfl rfl ?_
                  refine g_callV (As := []) (rest := []) (wr := [cPg v a n f]) X (c_X5_takeOperand l v t (a 0) ln (p + 1 + 1) (nI ahv92) (nI 0) x3 (nI 0) (zI (-1)) fc tx hT (by omega)) f_X5_takeOperand q_11_15 dX5_takeStatement_108 [0, 1] [2] rfl rfl (by decide) 0 rfl rfl rfl rfl (Nat.le_of_ble_eq_true rfl) (by decide) (fun r_ w_ hp16 => ?_)
                  cases hv108 : ocl (nxc tx ln (p + 1 + 1)) with
                  | none =>
                    have hp16q := hp16
                    rw [hv108] at hp16
                    obtain ⟨rfl, rfl⟩ := hp16
                    show GG k _ _ [[((t 0), .inr (5, [.ref (t 1), .int (nI ln), .ref (a 0), .int (nI (p + 1 + 1)), .int (nI ahv92), .int (nI 0), .int x3, .int (nI 0), .int (zI (-1))]))], cCh v t fc, cPg v a n f] _ _ [.int (nI 0)]
                    refine g_if_eqN (tgt := 133) X dX5_takeStatement_111 (by decide) (by omega) (fun c111 => ?_) (fun c111 => ?_)
                    · refine g_iconst (x := nI 0) X dX5_takeStatement_133 (by decide +kernel) ?_
                      exact E dX5_takeStatement_134 rfl (rfl) (by decide) (by decide) (by have e : pStmt tx ln p = (none, p + 1 + 1) := (by simp only [pStmt, if_neg hv18, if_neg hv48, hv92, if_pos hv101, hv108]); rw [e]; dsimp only; exact ⟨nI ahv92, nI 0, x3, nI 0, zI (-1), rfl, rfl⟩)
                    · exact absurd rfl c111
                  | some ahv108 =>
                    have hp16q := hp16
                    rw [hv108] at hp16
                    have hlhv108 := ocl_lt hv108
                    obtain ⟨rfl, rfl⟩ := hp16
                    show GG k _ _ [[((t 0), .inr (5, [.ref (t 1), .int (nI ln), .ref (a 0), .int (nI (p + 1 + 1 + 1)), .int (nI ahv92), .int (nI 0), .int (nI ahv108), .int (nI 0), .int (zI (-1))]))], cCh v t fc, cPg v a n f] _ _ [.int (nI 1)]
                    refine g_if_eqN (tgt := 133) X dX5_takeStatement_111 (by decide) (by omega) (fun c111 => ?_) (fun c111 => ?_)
                    · exact absurd c111 (by decide)
                    · refine g_aload_n X dX5_takeStatement_114 0 rfl rfl ?_
                      refine g_callV (As := []) (rest := []) (wr := [cPg v a n f]) X (c_X5_takeAddend l v t (a 0) ln (p + 1 + 1 + 1) (nI ahv92) (nI 0) (nI ahv108) (zI (-1)) fc tx hT (by omega)) f_X5_takeAddend q_12_12 dX5_takeStatement_115 [0, 1] [2] rfl rfl (by decide) 0 rfl rfl rfl rfl (Nat.le_of_ble_eq_true rfl) (by decide) (fun r_ w_ hp18 => ?_)
                      cases hv115 : (pAdd tx ln (p + 1 + 1 + 1)).1 with
                      | none =>
                        have hp18q := hp18
                        rw [hv115] at hp18
                        have hb17 := pAdd_b (tx := tx) (len := ln) (p := p + 1 + 1 + 1)
                        obtain ⟨rfl, rfl⟩ := hp18
                        show GG k _ _ [[((t 0), .inr (5, [.ref (t 1), .int (nI ln), .ref (a 0), .int (nI ((pAdd tx ln (p + 1 + 1 + 1)).2)), .int (nI ahv92), .int (nI 0), .int (nI ahv108), .int (nI 0), .int (zI (-1))]))], cCh v t fc, cPg v a n f] _ _ [.int (nI 0)]
                        refine g_if_eqN (tgt := 133) X dX5_takeStatement_118 (by decide) (by omega) (fun c118 => ?_) (fun c118 => ?_)
                        · refine g_iconst (x := nI 0) X dX5_takeStatement_133 (by decide +kernel) ?_
                          exact E dX5_takeStatement_134 rfl (rfl) (by decide) (by decide) (by have e : pStmt tx ln p = (none, (pAdd tx ln (p + 1 + 1 + 1)).2) := (by simp only [pStmt, if_neg hv18, if_neg hv48, hv92, if_pos hv101, hv108, hv115]); rw [e]; dsimp only; exact ⟨nI ahv92, nI 0, nI ahv108, nI 0, zI (-1), rfl, rfl⟩)
                        · exact absurd rfl c118
                      | some ahv115 =>
                        have hp18q := hp18
                        rw [hv115] at hp18
                        have hb17 := pAdd_b (tx := tx) (len := ln) (p := p + 1 + 1 + 1)
                        obtain ⟨rfl, rfl⟩ := hp18
                        show GG k _ _ [[((t 0), .inr (5, [.ref (t 1), .int (nI ln), .ref (a 0), .int (nI ((pAdd tx ln (p + 1 + 1 + 1)).2)), .int (nI ahv92), .int (nI 0), .int (nI ahv108), .int (zI ahv115), .int (zI (-1))]))], cCh v t fc, cPg v a n f] _ _ [.int (nI 1)]
                        refine g_if_eqN (tgt := 133) X dX5_takeStatement_118 (by decide) (by omega) (fun c118 => ?_) (fun c118 => ?_)
                        · exact absurd c118 (by decide)
                        · refine g_aload_n X dX5_takeStatement_121 0 rfl rfl ?_
                          refine g_iconst (x := nI 0) X dX5_takeStatement_122 (by decide +kernel) ?_
                          refine g_callV (As := [.int (nI 0)]) (rest := []) (wr := [cCh v t fc]) X (c_X5_keep l v t ln ((pAdd tx ln (p + 1 + 1 + 1)).2) (nI ahv92) (nI 0) (nI ahv108) (zI ahv115) (zI (-1)) a n f (nI 0) (by omega)) f_X5_keep q_12_0 dX5_takeStatement_123 [0, 2] [1] rfl rfl (by decide) 0 rfl rfl rfl rfl (Nat.le_of_ble_eq_true rfl) (by decide) (fun r_ w_ hp19 => ?_)
                          obtain ⟨rfl, rfl⟩ := hp19
                          show GG k _ _ [[((t 0), .inr (5, [.ref (t 1), .int (nI ln), .ref (a 0), .int (nI ((pAdd tx ln (p + 1 + 1 + 1)).2)), .int (nI ahv92), .int (nI 0), .int (nI ahv108), .int (zI ahv115), .int (zI (-1))]))], cPg v a (n + 1) (pu f n (x6 (nI 0) (nI ahv92) (nI 0) (nI ahv108) (zI ahv115) (zI (-1)))), cCh v t fc] _ _ [.int (nI 1)]
                          refine g_pick (cs' := [[((t 0), .inr (5, [.ref (t 1), .int (nI ln), .ref (a 0), .int (nI ((pAdd tx ln (p + 1 + 1 + 1)).2)), .int (nI ahv92), .int (nI 0), .int (nI ahv108), .int (zI ahv115), .int (zI (-1))]))], cCh v t fc, cPg v a (n + 1) (pu f n (x6 (nI 0) (nI ahv92) (nI 0) (nI ahv108) (zI ahv115) (zI (-1))))]) [0, 2, 1] rfl rfl ?_
                          refine g_if_eqN (tgt := 133) X dX5_takeStatement_126 (by decide) (by omega) (fun c126 => ?_) (fun c126 => ?_)
                          · exact absurd c126 (by decide)
                          · refine g_iconst (x := nI 1) X dX5_takeStatement_129 (by decide +kernel) ?_
                            refine g_goto (tgt := 134) X dX5_takeStatement_130 (by decide) ?_
                            exact E dX5_takeStatement_134 rfl (rfl) (by decide) (by decide) (by have e : pStmt tx ln p = (some (0, ahv92, 0, ahv108, ahv115), (pAdd tx ln (p + 1 + 1 + 1)).2) := (by simp only [pStmt, if_neg hv18, if_neg hv48, hv92, if_pos hv101, hv108, hv115]); rw [e]; dsimp only; exact ⟨nI ahv92, nI 0, nI ahv108, zI ahv115, zI (-1), rfl, by simp only [ad9_0, tg9_0]⟩)
              · have hp15q := hp15
                rw [if_neg hv101] at hp15
                obtain ⟨rfl, rfl⟩ := hp15
                show GG k _ _ [[((t 0), .inr (5, [.ref (t 1), .int (nI ln), .ref (a 0), .int (nI (p + 1)), .int (nI ahv92), .int (nI 0), .int x3, .int (nI 0), .int (zI (-1))]))], cCh v t fc, cPg v a n f] _ _ [.int (nI 0)]
                refine g_if_eqN (tgt := 133) X dX5_takeStatement_104 (by decide) (by omega) (fun c104 => ?_) (fun c104 => ?_)
                · refine g_iconst (x := nI 0) X dX5_takeStatement_133 (by decide +kernel) ?_
                  exact E dX5_takeStatement_134 rfl (rfl) (by decide) (by decide) (by have e : pStmt tx ln p = (none, p + 1) := (by simp only [pStmt, if_neg hv18, if_neg hv48, hv92, if_neg hv101]); rw [e]; dsimp only; exact ⟨nI ahv92, nI 0, x3, nI 0, zI (-1), rfl, rfl⟩)
                · exact absurd rfl c104
        · exact absurd rfl c51
    · exact absurd rfl c21

set_option maxHeartbeats 4000000 in
set_option maxRecDepth 100000 in
theorem c_X5_readAll (l : Launch) (v : VV) (t : Nat → Nat) (ln : Nat) (p : Nat) (x1 : Int32) (x2 : Int32) (x3 : Int32) (x4 : Int32) (x5 : Int32) (fc : Nat → Int32) (tx : Nat → Nat) (a : Nat → Nat) (n : Nat) (f : Nat → Nat → Int32) (hT : TxR tx ln fc) (hp : p ≤ 80) : MI l v yX5_readAll cX5_readAll 2 (some .boolean) ({ frames := 7, cells := 0, slots := 0, locals := 152 }) [.ref (t 0)] [[((t 0), .inr (5, [.ref (t 1), .int (nI ln), .ref (a 0), .int (nI p), .int x1, .int x2, .int x3, .int x4, .int x5]))], cCh v t fc, cPg v a n f] (fun r w_ => ∃ y1 y2 y3 y4 y5 f', r = bI (pAll tx ln 12 0 []).1 ∧ PgR (lg9 (pAll tx ln 12 0 []).2.2) (pAll tx ln 12 0 []).2.2.length f' ∧ WG (lg9 (pAll tx ln 12 0 []).2.2) (pAll tx ln 12 0 []).2.2.length 12 ∧ w_ = [[(t 0, .inr (5, [.ref (t 1), .int (nI ln), .ref (a 0), .int (nI ((pAll tx ln 12 0 []).2.1)), .int y1, .int y2, .int y3, .int y4, .int y5]))], cCh v t fc, cPg v a (pAll tx ln 12 0 []).2.2.length f']) 0 0 := by
  refine mm_int (by decide) (Nat.le_of_ble_eq_true rfl) [(0, .ref (t 0))] rfl (fun k X E => ?_)
  have hT1 := hT.1
  refine g_aload_n X dX5_readAll_0 0 rfl rfl ?_
  refine g_iconst (x := nI 0) X dX5_readAll_1 (by decide +kernel) ?_
  refine g_put (cs' := [[((t 0), .inr (5, [.ref (t 1), .int (nI ln), .ref (a 0), .int (nI 0), .int x1, .int x2, .int x3, .int x4, .int x5]))], cCh v t fc, cPg v a n f]) X cb5 3 q_6_12 dX5_readAll_2 0 0 rfl rfl (by decide) rfl rfl (rfl) (rfl) (Nat.le_of_ble_eq_true rfl) rfl ?_
  refine g_aload_n X dX5_readAll_5 0 rfl rfl ?_
  refine g_get X cb5 2 q_4_10 dX5_readAll_6 0 0 rfl rfl (by decide) rfl rfl ?_
  refine g_callV (As := []) (rest := []) (wr := [[((t 0), .inr (5, [.ref (t 1), .int (nI ln), .ref (a 0), .int (nI 0), .int x1, .int x2, .int x3, .int x4, .int x5]))], cCh v t fc]) X (c_X3_clear l v a n f) f_X3_clear q_6_13 dX5_readAll_9 [2] [0, 1] rfl rfl (by decide) 0 rfl rfl rfl rfl (Nat.le_of_ble_eq_true rfl) (by decide) (fun r_ w_ hp1 => ?_)
  subst hp1
  show GG k _ _ [cPg v a 0 f, [((t 0), .inr (5, [.ref (t 1), .int (nI ln), .ref (a 0), .int (nI 0), .int x1, .int x2, .int x3, .int x4, .int x5]))], cCh v t fc] _ _ []
  refine g_pick (cs' := [[((t 0), .inr (5, [.ref (t 1), .int (nI ln), .ref (a 0), .int (nI 0), .int x1, .int x2, .int x3, .int x4, .int x5]))], cCh v t fc, cPg v a 0 f]) [1, 2, 0] rfl rfl ?_
  refine g_iconst (x := nI 1) X dX5_readAll_12 (by decide +kernel) ?_
  refine g_istore_n (lv' := [(1, .int (nI 1)), (0, .ref (t 0))]) X dX5_readAll_13 rfl (by decide) rfl ?_
  have lp14 : ∀ (zN : Nat) (L : List S9) (c : Nat) (q : Nat) (z1 : Int32) (z2 : Int32) (z3 : Int32) (z4 : Int32) (z5 : Int32) (f' : Nat → Nat → Int32) (hc : L.length = c) (hl : c < 12) (hq : q ≤ ln) (hA : (pAll tx ln 12 0 []) = pAll tx ln (12 - c) q L) (hR : PgR (lg9 L) c f') (hW : WG (lg9 L) c 12) (zM : zN = 12 - c), GG k 0 0 [[((t 0), .inr (5, [.ref (t 1), .int (nI ln), .ref (a 0), .int (nI q), .int z1, .int z2, .int z3, .int z4, .int z5]))], cCh v t fc, cPg v a c f'] [(1, .int (nI (c + 1))), (0, .ref (t 0))] 14 [] := by
    intro zN
    induction zN using Nat.strongRecOn with
    | _ zN zih =>
      have ih14 := zih
      clear zih
      intro L c q z1 z2 z3 z4 z5 f' hc hl hq hA hR hW zM
      refine g_iload_n X dX5_readAll_14 0 rfl rfl ?_
      refine g_bipush (x := nI 12) X dX5_readAll_15 (by decide +kernel) ?_
      refine g_icmp_gtN (tgt := 65) X dX5_readAll_17 (by decide) (by omega) (by omega) (fun c17 => ?_) (fun c17 => ?_)
      · omega
      · refine g_aload_n X dX5_readAll_20 1 rfl rfl ?_
        refine g_callV (As := []) (rest := []) (wr := []) X (c_X5_takeStatement l v t ln q z1 z2 z3 z4 z5 fc tx a c f' hT (by omega) (by omega)) f_X5_takeStatement q_6_18 dX5_readAll_21 [0, 1, 2] [] rfl rfl (by decide) 0 rfl rfl rfl rfl (Nat.le_of_ble_eq_true rfl) (by decide) (fun r_ w_ hp3 => ?_)
        cases hv21 : (pStmt tx ln q).1 with
        | none =>
          have hp3q := hp3
          rw [hv21] at hp3
          obtain ⟨y2a, y2b, y2c, y2d, y2e, rfl, rfl⟩ := hp3
          show GG k _ _ [[((t 0), .inr (5, [.ref (t 1), .int (nI ln), .ref (a 0), .int (nI ((pStmt tx ln q).2)), .int y2a, .int y2b, .int y2c, .int y2d, .int y2e]))], cCh v t fc, cPg v a c f'] _ _ [.int (nI 0)]
          refine g_if_neN (tgt := 29) X dX5_readAll_24 (by decide) (by omega) (fun c24 => ?_) (fun c24 => ?_)
          · exact absurd rfl c24
          · refine g_iconst (x := nI 0) X dX5_readAll_27 (by decide +kernel) ?_
            exact E dX5_readAll_28 rfl (rfl) (by decide) (by decide) (by rw [hA, pAll_none hc hl hv21]; exact ⟨y2a, y2b, y2c, y2d, y2e, _, bI_zero rfl, by dsimp only; rw [hc]; exact hR, by dsimp only; rw [hc]; exact hW, by dsimp only; rw [hc]⟩)
        | some ahv21 =>
          have hp3q := hp3
          rw [hv21] at hp3
          obtain ⟨y2a, y2b, y2c, y2d, y2e, rfl, rfl⟩ := hp3
          show GG k _ _ [[((t 0), .inr (5, [.ref (t 1), .int (nI ln), .ref (a 0), .int (nI ((pStmt tx ln q).2)), .int y2a, .int y2b, .int y2c, .int y2d, .int y2e]))], cCh v t fc, cPg v a (c + 1) (pu f' c (x6 (nI ahv21.1) (nI ahv21.2.1) (nI ahv21.2.2.1) (nI ahv21.2.2.2.1) (zI (ad9 ahv21)) (zI (tg9 ahv21))))] _ _ [.int (nI 1)]
          have hR2 := PgR_put (s := ahv21) (hc.symm ▸ hR : PgR (lg9 L) L.length _)
          rw [hc] at hR2
          have hW2 := WG_put (hc.symm ▸ hW : WG (lg9 L) L.length 12) (by omega) hv21
          rw [hc] at hW2
          have hql := pStmt_le (tx := tx) hq
          refine g_if_neN (tgt := 29) X dX5_readAll_24 (by decide) (by omega) (fun c24 => ?_) (fun c24 => ?_)
          · refine g_aload_n X dX5_readAll_29 1 rfl rfl ?_
            refine g_get X cb5 3 q_6_12 dX5_readAll_30 0 0 rfl rfl (by decide) rfl rfl ?_
            refine g_aload_n X dX5_readAll_33 1 rfl rfl ?_
            refine g_get X cb5 1 q_5_18 dX5_readAll_34 0 0 rfl rfl (by decide) rfl rfl ?_
            refine g_icmp_neN (tgt := 42) X dX5_readAll_37 (by decide) (by omega) (by omega) (fun c37 => ?_) (fun c37 => ?_)
            · refine g_iload_n X dX5_readAll_42 0 rfl rfl ?_
              refine g_bipush (x := nI 12) X dX5_readAll_43 (by decide +kernel) ?_
              refine g_icmp_eqN (tgt := 57) X dX5_readAll_45 (by decide) (by omega) (by omega) (fun c45 => ?_) (fun c45 => ?_)
              · refine g_iconst (x := nI 0) X dX5_readAll_57 (by decide +kernel) ?_
                exact E dX5_readAll_58 rfl (rfl) (by decide) (by decide) (by rw [hA, pAll_12 (by omega) hv21 c37]; exact ⟨y2a, y2b, y2c, y2d, y2e, _, bI_zero rfl, by dsimp only; rw [len1 hc]; exact hR2, by dsimp only; rw [len1 hc]; exact hW2, by dsimp only; rw [len1 hc]⟩)
              · refine g_aload_n X dX5_readAll_48 1 rfl rfl ?_
                refine g_bipush (x := nI 59) X dX5_readAll_49 (by decide +kernel) ?_
                refine g_callV (As := [.int (nI 59)]) (rest := []) (wr := [cPg v a (c + 1) (pu f' c (x6 (nI ahv21.1) (nI ahv21.2.1) (nI ahv21.2.2.1) (nI ahv21.2.2.2.1) (zI (ad9 ahv21)) (zI (tg9 ahv21))))]) X (c_X5_take l v t (a 0) ln ((pStmt tx ln q).2) y2a y2b y2c y2d y2e fc tx 59 hT (by omega)  (by decide)) f_X5_take q_7_1 dX5_readAll_51 [0, 1] [2] rfl rfl (by decide) 0 rfl rfl rfl rfl (Nat.le_of_ble_eq_true rfl) (by decide) (fun r_ w_ hp4 => ?_)
                by_cases hv51 : nxc tx ln ((pStmt tx ln q).2) = 59
                · have hp4q := hp4
                  rw [if_pos hv51] at hp4
                  obtain ⟨rfl, rfl⟩ := hp4
                  show GG k _ _ [[((t 0), .inr (5, [.ref (t 1), .int (nI ln), .ref (a 0), .int (nI ((pStmt tx ln q).2 + 1)), .int y2a, .int y2b, .int y2c, .int y2d, .int y2e]))], cCh v t fc, cPg v a (c + 1) (pu f' c (x6 (nI ahv21.1) (nI ahv21.2.1) (nI ahv21.2.2.1) (nI ahv21.2.2.2.1) (zI (ad9 ahv21)) (zI (tg9 ahv21))))] _ _ [.int (nI 1)]
                  refine g_if_neN (tgt := 59) X dX5_readAll_54 (by decide) (by omega) (fun c54 => ?_) (fun c54 => ?_)
                  · refine g_iinc (y := nI (c + 1 + 1)) (lv' := [(1, .int (nI (c + 1 + 1))), (0, .ref (t 0))]) (j := 0) X dX5_readAll_59 rfl (nI_add (c + 1) 1) (by decide) rfl ?_
                    refine g_goto (tgt := 14) X dX5_readAll_62 (by decide) ?_
                    exact ih14 _ (by omega) (L ++ [ahv21]) (c + 1) ((pStmt tx ln q).2 + 1) y2a y2b y2c y2d y2e (pu f' c (x6 (nI ahv21.1) (nI ahv21.2.1) (nI ahv21.2.2.1) (nI ahv21.2.2.2.1) (zI (ad9 ahv21)) (zI (tg9 ahv21)))) (len1 hc) (by omega) (nxc_pos (tx := tx) (p := (pStmt tx ln q).2) (by omega)) (hA.trans (pAll_go (by omega) hv21 c37 hv51)) hR2 hW2 rfl
                  · exact absurd c54 (by decide)
                · have hp4q := hp4
                  rw [if_neg hv51] at hp4
                  obtain ⟨rfl, rfl⟩ := hp4
                  show GG k _ _ [[((t 0), .inr (5, [.ref (t 1), .int (nI ln), .ref (a 0), .int (nI ((pStmt tx ln q).2)), .int y2a, .int y2b, .int y2c, .int y2d, .int y2e]))], cCh v t fc, cPg v a (c + 1) (pu f' c (x6 (nI ahv21.1) (nI ahv21.2.1) (nI ahv21.2.2.1) (nI ahv21.2.2.2.1) (zI (ad9 ahv21)) (zI (tg9 ahv21))))] _ _ [.int (nI 0)]
                  refine g_if_neN (tgt := 59) X dX5_readAll_54 (by decide) (by omega) (fun c54 => ?_) (fun c54 => ?_)
                  · exact absurd rfl c54
                  · refine g_iconst (x := nI 0) X dX5_readAll_57 (by decide +kernel) ?_
                    exact E dX5_readAll_58 rfl (rfl) (by decide) (by decide) (by rw [hA, pAll_stop (by omega) hv21 c37 hv51]; exact ⟨y2a, y2b, y2c, y2d, y2e, _, bI_zero rfl, by dsimp only; rw [len1 hc]; exact hR2, by dsimp only; rw [len1 hc]; exact hW2, by dsimp only; rw [len1 hc]⟩)
            · refine g_iconst (x := nI 1) X dX5_readAll_40 (by decide +kernel) ?_
              exact E dX5_readAll_41 rfl (rfl) (by decide) (by decide) (by rw [hA, pAll_true hl hv21 c37]; exact ⟨y2a, y2b, y2c, y2d, y2e, _, bI_one rfl, by dsimp only; rw [len1 hc]; exact hR2, by dsimp only; rw [len1 hc]; exact hW2, by dsimp only; rw [len1 hc]⟩)
          · exact absurd c24 (by decide)
  exact lp14 _ ([]) 0 0 x1 x2 x3 x4 x5 f rfl (by omega) (Nat.zero_le _) rfl (fun i h => absurd h (Nat.not_lt_zero _)) ⟨Nat.zero_le _, fun i h => absurd h (Nat.not_lt_zero _)⟩ rfl

theorem vpC_t : ∀ c : Nat, c < 127 → vp_nar .char (nI c) = nI c := by decide +kernel

set_option maxHeartbeats 4000000 in
set_option maxRecDepth 100000 in
theorem c_X5_clear (l : Launch) (v : VV) (t : Nat → Nat) (la : Nat) (ln : Nat) (p : Nat) (x1 : Int32) (x2 : Int32) (x3 : Int32) (x4 : Int32) (x5 : Int32) : MU l v yX5_clear cX5_clear 1 none ({ frames := 0, cells := 0, slots := 0, locals := 0 }) [.ref (t 0)] [[((t 0), .inr (5, [.ref (t 1), .int (nI ln), .ref la, .int (nI p), .int x1, .int x2, .int x3, .int x4, .int x5]))]] (fun _ w_ => w_ = [[(t 0, .inr (5, [.ref (t 1), .int (nI 0), .ref la, .int (nI p), .int x1, .int x2, .int x3, .int x4, .int x5]))]]) 0 0 := by
  refine mm_void rfl (by decide) (Nat.le_of_ble_eq_true rfl) [(0, .ref (t 0))] rfl (fun k X hin E => ?_)
  refine g_aload_n X dX5_clear_0 0 rfl rfl ?_
  refine g_iconst (x := nI 0) X dX5_clear_1 (by decide +kernel) ?_
  refine g_put (cs' := [[((t 0), .inr (5, [.ref (t 1), .int (nI 0), .ref la, .int (nI p), .int x1, .int x2, .int x3, .int x4, .int x5]))]]) X cb5 1 q_5_18 dX5_clear_2 0 0 rfl rfl (by decide) rfl rfl (rfl) (rfl) (Nat.le_of_ble_eq_true rfl) rfl ?_
  exact E dX5_clear_5 (by decide) (by decide) (rfl)

set_option maxHeartbeats 4000000 in
set_option maxRecDepth 100000 in
theorem c_X5_put (l : Launch) (v : VV) (t : Nat → Nat) (la : Nat) (ln : Nat) (p : Nat) (x1 : Int32) (x2 : Int32) (x3 : Int32) (x4 : Int32) (x5 : Int32) (fc : Nat → Int32) (w : Nat) (hl : ln ≤ 60) (hw : w < 127) : MU l v yX5_put cX5_put 2 none ({ frames := 0, cells := 0, slots := 0, locals := 0 }) [.ref (t 0), .int (nI w)] [[((t 0), .inr (5, [.ref (t 1), .int (nI ln), .ref la, .int (nI p), .int x1, .int x2, .int x3, .int x4, .int x5]))], cCh v t fc] (fun _ w_ => if ln < 60 then w_ = [[(t 0, .inr (5, [.ref (t 1), .int (nI (ln + 1)), .ref la, .int (nI p), .int x1, .int x2, .int x3, .int x4, .int x5]))], cCh v t (upd fc ln (nI w))] else w_ = [[(t 0, .inr (5, [.ref (t 1), .int (nI ln), .ref la, .int (nI p), .int x1, .int x2, .int x3, .int x4, .int x5]))], cCh v t fc]) 0 0 := by
  refine mm_void rfl (by decide) (Nat.le_of_ble_eq_true rfl) [(0, .ref (t 0)), (1, .int (nI w))] rfl (fun k X hin E => ?_)
  refine g_aload_n X dX5_put_0 0 rfl rfl ?_
  refine g_get X cb5 1 q_5_18 dX5_put_1 0 0 rfl rfl (by decide) rfl rfl ?_
  refine g_bipush (x := nI 60) X dX5_put_4 (by decide +kernel) ?_
  refine g_icmp_geN (tgt := 29) X dX5_put_6 (by decide) (by omega) (by omega) (fun c6 => ?_) (fun c6 => ?_)
  · exact E dX5_put_29 (by decide) (by decide) (by dsimp only; rw [if_neg (by omega)])
  · refine g_aload_n X dX5_put_9 0 rfl rfl ?_
    refine g_get X cb5 0 q_4_8 dX5_put_10 0 0 rfl rfl (by decide) rfl rfl ?_
    refine g_aload_n X dX5_put_13 0 rfl rfl ?_
    refine g_get X cb5 1 q_5_18 dX5_put_14 0 0 rfl rfl (by decide) rfl rfl ?_
    refine g_iload_n X dX5_put_17 1 rfl rfl ?_
    refine g_cast (cs' := [[((t 0), .inr (5, [.ref (t 1), .int (nI ln), .ref la, .int (nI p), .int x1, .int x2, .int x3, .int x4, .int x5]))], [((t 1), .inl (v.2.1 3, 60, .inl (upd fc ln (nI w))))]]) X dX5_put_18 1 0 rfl rfl (by omega) (by omega) (vpC_t w hw) rfl ?_
    refine g_aload_n X dX5_put_19 0 rfl rfl ?_
    refine g_dup X dX5_put_20 rfl ?_
    refine g_get X cb5 1 q_5_18 dX5_put_21 0 0 rfl rfl (by decide) rfl rfl ?_
    refine g_iconst (x := nI 1) X dX5_put_24 (by decide +kernel) ?_
    refine g_iaddN X dX5_put_25 ?_
    refine g_put (cs' := [[((t 0), .inr (5, [.ref (t 1), .int (nI (ln + 1)), .ref la, .int (nI p), .int x1, .int x2, .int x3, .int x4, .int x5]))], [((t 1), .inl (v.2.1 3, 60, .inl (upd fc ln (nI w))))]]) X cb5 1 q_5_18 dX5_put_26 0 0 rfl rfl (by decide) rfl rfl (rfl) (rfl) (Nat.le_of_ble_eq_true rfl) rfl ?_
    exact E dX5_put_29 (by decide) (by decide) (by dsimp only; rw [if_pos (by omega)])


