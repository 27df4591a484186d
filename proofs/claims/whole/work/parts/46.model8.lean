/-! ## the model: reading. wr 0: all fits so far, spot p is the first not taken; wr 1: spot is where it did not fit -/
theorem nxc_in {tx : Nat → Nat} {ln p : Nat} (h : p < ln) : nxc tx ln p = tx p := if_pos h
theorem nxc_out {tx : Nat → Nat} {ln p : Nat} (h : ¬ p < ln) : nxc tx ln p = 0 := if_neg h
theorem ocl_x {c : Nat} (h : 120 ≤ c ∧ c ≤ 122) : ocl c = some (8 + (c - 120)) := by
  rcases (show c = 120 ∨ c = 121 ∨ c = 122 by omega) with rfl | rfl | rfl <;> rfl
theorem vcl_x {c : Nat} (h : 120 ≤ c ∧ c ≤ 122) : vcl c = some (c - 120) := by
  rcases (show c = 120 ∨ c = 121 ∨ c = 122 by omega) with rfl | rfl | rfl <;> rfl
theorem vcl_n {c : Nat} (h : ¬ (120 ≤ c ∧ c ≤ 122)) : vcl c = none := by
  unfold vcl
  rw [if_neg (by omega), if_neg (by omega), if_neg (by omega)]
theorem ocl_d {c : Nat} (h : ¬ (120 ≤ c ∧ c ≤ 122)) (h2 : 48 ≤ c ∧ c ≤ 55) : ocl c = some (c - 48) := by
  unfold ocl; rw [vcl_n h]; dsimp only; rw [if_pos h2]
theorem ocl_n {c : Nat} (h : ¬ (120 ≤ c ∧ c ≤ 122)) (h2 : ¬ (48 ≤ c ∧ c ≤ 55)) : ocl c = none := by
  unfold ocl; rw [vcl_n h]; dsimp only; rw [if_neg h2]
theorem opm_x {c : Nat} (h : 120 ≤ c ∧ c ≤ 122) : opm (8 + (c - 120)) = c - 120 := by unfold opm; rw [if_neg (by omega)]; omega
theorem opm_d {c : Nat} (h2 : 48 ≤ c ∧ c ≤ 55) : opm (c - 48) = 3 + (c - 48) := by unfold opm; rw [if_pos (by omega)]; omega

set_option maxHeartbeats 4000000 in
set_option maxRecDepth 100000 in
theorem c_X7_isNext (l : Launch) (v : VV) (mo : Nat → Nat) (th : Int32) (sm : Nat) (ln : Nat) (rm : Int32) (fa : Int32) (dd : Int64) (tx : Nat → Nat) (ft : Nat → Int32) (p : Nat) (a9 : Nat) (b9 : Nat) (hT : TxR tx ln ft) (hp : p ≤ 100) (ha9 : 0 < a9) (hb9 : b9 < 127) (hab9 : a9 < 127) : MI l v yX7_isNext cX7_isNext 3 (some .boolean) ({ frames := 1, cells := 0, slots := 0, locals := 22 }) [.ref (mo 0), .int (nI a9), .int (nI b9)] [[((mo 0), .inr (7, [.int th, .ref (mo 1), .ref (mo 2), .int (nI sm), .ref (mo 3), .int (nI ln), .ref (mo 4), .int rm, .int fa, .ref (mo 5), .ref (mo 6), .int (nI p), .int (nI 0), .long dd]))], cMt v mo ft] (fun r w_ => r = bI (decide (a9 ≤ nxc tx ln p ∧ nxc tx ln p ≤ b9)) ∧ w_ = [[((mo 0), .inr (7, [.int th, .ref (mo 1), .ref (mo 2), .int (nI sm), .ref (mo 3), .int (nI ln), .ref (mo 4), .int rm, .int fa, .ref (mo 5), .ref (mo 6), .int (nI p), .int (nI 0), .long dd]))], cMt v mo ft]) 0 0 := by
  refine mm_int (by decide) (Nat.le_of_ble_eq_true rfl) [(0, .ref (mo 0)), (1, .int (nI a9)), (2, .int (nI b9))] rfl (fun k X E => ?_)
  have hT1 := hT.1
  refine g_aload_n X dX7_isNext_0 0 rfl rfl ?_
  refine g_get X cb7 12 q_14_10 dX7_isNext_1 0 0 rfl rfl (by decide) rfl rfl ?_
  refine g_if_neN (tgt := 39) X dX7_isNext_4 (by decide) (by omega) (fun c4 => ?_) (fun c4 => ?_)
  · exact absurd rfl c4
  · refine g_aload_n X dX7_isNext_7 0 rfl rfl ?_
    refine g_get X cb7 11 q_14_9 dX7_isNext_8 0 0 rfl rfl (by decide) rfl rfl ?_
    refine g_aload_n X dX7_isNext_11 0 rfl rfl ?_
    refine g_get X cb7 5 q_14_11 dX7_isNext_12 0 0 rfl rfl (by decide) rfl rfl ?_
    refine g_icmp_geN (tgt := 39) X dX7_isNext_15 (by decide) (by omega) (by omega) (fun c15 => ?_) (fun c15 => ?_)
    · refine g_iconst (x := nI 0) X dX7_isNext_39 (by decide +kernel) ?_
      exact E dX7_isNext_40 rfl (rfl) (by decide) (by decide) (⟨bI_zero (decide_eq_false (by rw [nxc_out (by omega)]; omega)), rfl⟩)
    · have htb := (hT.2 p c15).2
      refine g_aload_n X dX7_isNext_18 0 rfl rfl ?_
      refine g_get X cb7 4 q_4_20 dX7_isNext_19 0 0 rfl rfl (by decide) rfl rfl ?_
      refine g_aload_n X dX7_isNext_22 0 rfl rfl ?_
      refine g_get X cb7 11 q_14_9 dX7_isNext_23 0 0 rfl rfl (by decide) rfl rfl ?_
      refine g_iald X dX7_isNext_26 1 0 rfl rfl (by omega) (by omega) ?_
      refine g_v (y := nI (tx p)) ((hT.2 p c15).1) ?_
      refine g_iload_n X dX7_isNext_27 1 rfl rfl ?_
      refine g_iload_n X dX7_isNext_28 2 rfl rfl ?_
      refine g_callS (As := [.int (nI (tx p)), .int (nI a9), .int (nI b9)]) (rest := []) (wr := [[((mo 0), .inr (7, [.int th, .ref (mo 1), .ref (mo 2), .int (nI sm), .ref (mo 3), .int (nI ln), .ref (mo 4), .int rm, .int fa, .ref (mo 5), .ref (mo 6), .int (nI p), .int (nI 0), .long dd]))], cMt v mo ft]) X (c_X7_in l v (nI (tx p)) (nI a9) (nI b9)) f_X7_in q_14_20 dX7_isNext_29 [] [0, 1] rfl rfl (by decide) rfl rfl (Nat.le_of_ble_eq_true rfl) (by decide) (fun r_ w_ hp1 => ?_)
      rw [inI_N (by omega) (by omega) (by omega)] at hp1
      obtain ⟨rfl, rfl⟩ := hp1
      show GG k _ _ [[((mo 0), .inr (7, [.int th, .ref (mo 1), .ref (mo 2), .int (nI sm), .ref (mo 3), .int (nI ln), .ref (mo 4), .int rm, .int fa, .ref (mo 5), .ref (mo 6), .int (nI p), .int (nI 0), .long dd]))], cMt v mo ft] _ _ [.int (bI (decide (a9 ≤ (tx p) ∧ (tx p) ≤ b9)))]
      refine g_if_eqB (tgt := 39) X dX7_isNext_32 (by decide) (fun c32 => ?_) (fun c32 => ?_)
      · refine g_iconst (x := nI 0) X dX7_isNext_39 (by decide +kernel) ?_
        exact E dX7_isNext_40 rfl (rfl) (by decide) (by decide) (⟨bI_zero (by rw [nxc_in c15]; exact c32), rfl⟩)
      · refine g_iconst (x := nI 1) X dX7_isNext_35 (by decide +kernel) ?_
        refine g_goto (tgt := 40) X dX7_isNext_36 (by decide) ?_
        exact E dX7_isNext_40 rfl (rfl) (by decide) (by decide) (⟨bI_one (by rw [nxc_in c15]; exact c32), rfl⟩)

set_option maxHeartbeats 4000000 in
set_option maxRecDepth 100000 in
theorem b_X7_isNext (l : Launch) (v : VV) (mo : Nat → Nat) (th : Int32) (sm : Nat) (ln : Nat) (rm : Int32) (fa : Int32) (dd : Int64) (ft : Nat → Int32) (p : Nat) (a9 : Nat) (b9 : Nat) : MI l v yX7_isNext cX7_isNext 3 (some .boolean) ({ frames := 1, cells := 0, slots := 0, locals := 22 }) [.ref (mo 0), .int (nI a9), .int (nI b9)] [[((mo 0), .inr (7, [.int th, .ref (mo 1), .ref (mo 2), .int (nI sm), .ref (mo 3), .int (nI ln), .ref (mo 4), .int rm, .int fa, .ref (mo 5), .ref (mo 6), .int (nI p), .int (nI 1), .long dd]))], cMt v mo ft] (fun r w_ => r = nI 0 ∧ w_ = [[((mo 0), .inr (7, [.int th, .ref (mo 1), .ref (mo 2), .int (nI sm), .ref (mo 3), .int (nI ln), .ref (mo 4), .int rm, .int fa, .ref (mo 5), .ref (mo 6), .int (nI p), .int (nI 1), .long dd]))], cMt v mo ft]) 0 0 := by
  refine mm_int (by decide) (Nat.le_of_ble_eq_true rfl) [(0, .ref (mo 0)), (1, .int (nI a9)), (2, .int (nI b9))] rfl (fun k X E => ?_)
  refine g_aload_n X dX7_isNext_0 0 rfl rfl ?_
  refine g_get X cb7 12 q_14_10 dX7_isNext_1 0 0 rfl rfl (by decide) rfl rfl ?_
  refine g_if_neN (tgt := 39) X dX7_isNext_4 (by decide) (by omega) (fun c4 => ?_) (fun c4 => ?_)
  · refine g_iconst (x := nI 0) X dX7_isNext_39 (by decide +kernel) ?_
    exact E dX7_isNext_40 rfl (rfl) (by decide) (by decide) (⟨rfl, rfl⟩)
  · exact absurd c4 (by decide)

set_option maxHeartbeats 4000000 in
set_option maxRecDepth 100000 in
theorem nx_s (l : Launch) (v : VV) (mo : Nat → Nat) (th : Int32) (sm : Nat) (ln : Nat) (rm : Int32) (fa : Int32) (dd : Int64) (tx : Nat → Nat) (ft : Nat → Int32) (p : Nat) (a9 : Nat) (b9 : Nat) (hT : TxR tx ln ft) (hp : p ≤ 100) (ha9 : 0 < a9) (hb9 : b9 < 127) (hab9 : a9 < 127) : MI l v yX7_isNext cX7_isNext 3 (some .boolean) ({ frames := 1, cells := 0, slots := 0, locals := 22 }) [.ref (mo 0), .int (nI a9), .int (nI b9)] [[((mo 0), .inr (7, [.int th, .ref (mo 1), .ref (mo 2), .int (nI sm), .ref (mo 3), .int (nI ln), .ref (mo 4), .int rm, .int fa, .ref (mo 5), .ref (mo 6), .int (nI p), .int (nI 0), .long dd]))], cMt v mo ft] (fun r w_ => if a9 ≤ nxc tx ln p ∧ nxc tx ln p ≤ b9 then r = nI 1 ∧ w_ = [[((mo 0), .inr (7, [.int th, .ref (mo 1), .ref (mo 2), .int (nI sm), .ref (mo 3), .int (nI ln), .ref (mo 4), .int rm, .int fa, .ref (mo 5), .ref (mo 6), .int (nI p), .int (nI 0), .long dd]))], cMt v mo ft] else r = nI 0 ∧ w_ = [[((mo 0), .inr (7, [.int th, .ref (mo 1), .ref (mo 2), .int (nI sm), .ref (mo 3), .int (nI ln), .ref (mo 4), .int rm, .int fa, .ref (mo 5), .ref (mo 6), .int (nI p), .int (nI 0), .long dd]))], cMt v mo ft]) 0 0 := by
  refine mm_int (by decide) (Nat.le_of_ble_eq_true rfl) [(0, .ref (mo 0)), (1, .int (nI a9)), (2, .int (nI b9))] rfl (fun k X E => ?_)
  have hT1 := hT.1
  refine g_aload_n X dX7_isNext_0 0 rfl rfl ?_
  refine g_get X cb7 12 q_14_10 dX7_isNext_1 0 0 rfl rfl (by decide) rfl rfl ?_
  refine g_if_neN (tgt := 39) X dX7_isNext_4 (by decide) (by omega) (fun c4 => ?_) (fun c4 => ?_)
  · exact absurd rfl c4
  · refine g_aload_n X dX7_isNext_7 0 rfl rfl ?_
    refine g_get X cb7 11 q_14_9 dX7_isNext_8 0 0 rfl rfl (by decide) rfl rfl ?_
    refine g_aload_n X dX7_isNext_11 0 rfl rfl ?_
    refine g_get X cb7 5 q_14_11 dX7_isNext_12 0 0 rfl rfl (by decide) rfl rfl ?_
    refine g_icmp_geN (tgt := 39) X dX7_isNext_15 (by decide) (by omega) (by omega) (fun c15 => ?_) (fun c15 => ?_)
    · refine g_iconst (x := nI 0) X dX7_isNext_39 (by decide +kernel) ?_
      exact E dX7_isNext_40 rfl (rfl) (by decide) (by decide) (by dsimp only; rw [if_neg (by rw [nxc_out (by omega)]; omega)]; exact ⟨rfl, rfl⟩)
    · have htb := (hT.2 p c15).2
      refine g_aload_n X dX7_isNext_18 0 rfl rfl ?_
      refine g_get X cb7 4 q_4_20 dX7_isNext_19 0 0 rfl rfl (by decide) rfl rfl ?_
      refine g_aload_n X dX7_isNext_22 0 rfl rfl ?_
      refine g_get X cb7 11 q_14_9 dX7_isNext_23 0 0 rfl rfl (by decide) rfl rfl ?_
      refine g_iald X dX7_isNext_26 1 0 rfl rfl (by omega) (by omega) ?_
      refine g_v (y := nI (tx p)) ((hT.2 p c15).1) ?_
      refine g_iload_n X dX7_isNext_27 1 rfl rfl ?_
      refine g_iload_n X dX7_isNext_28 2 rfl rfl ?_
      refine g_callS (As := [.int (nI (tx p)), .int (nI a9), .int (nI b9)]) (rest := []) (wr := [[((mo 0), .inr (7, [.int th, .ref (mo 1), .ref (mo 2), .int (nI sm), .ref (mo 3), .int (nI ln), .ref (mo 4), .int rm, .int fa, .ref (mo 5), .ref (mo 6), .int (nI p), .int (nI 0), .long dd]))], cMt v mo ft]) X (c_X7_in l v (nI (tx p)) (nI a9) (nI b9)) f_X7_in q_14_20 dX7_isNext_29 [] [0, 1] rfl rfl (by decide) rfl rfl (Nat.le_of_ble_eq_true rfl) (by decide) (fun r_ w_ hp1 => ?_)
      rw [inI_N (by omega) (by omega) (by omega)] at hp1
      obtain ⟨rfl, rfl⟩ := hp1
      show GG k _ _ [[((mo 0), .inr (7, [.int th, .ref (mo 1), .ref (mo 2), .int (nI sm), .ref (mo 3), .int (nI ln), .ref (mo 4), .int rm, .int fa, .ref (mo 5), .ref (mo 6), .int (nI p), .int (nI 0), .long dd]))], cMt v mo ft] _ _ [.int (bI (decide (a9 ≤ (tx p) ∧ (tx p) ≤ b9)))]
      refine g_if_eqB (tgt := 39) X dX7_isNext_32 (by decide) (fun c32 => ?_) (fun c32 => ?_)
      · refine g_iconst (x := nI 0) X dX7_isNext_39 (by decide +kernel) ?_
        exact E dX7_isNext_40 rfl (rfl) (by decide) (by decide) (by dsimp only; rw [if_neg (by rw [nxc_in c15]; exact of_decide_eq_false c32)]; exact ⟨rfl, rfl⟩)
      · refine g_iconst (x := nI 1) X dX7_isNext_35 (by decide +kernel) ?_
        refine g_goto (tgt := 40) X dX7_isNext_36 (by decide) ?_
        exact E dX7_isNext_40 rfl (rfl) (by decide) (by decide) (by dsimp only; rw [if_pos (by rw [nxc_in c15]; exact of_decide_eq_true c32)]; exact ⟨rfl, rfl⟩)

set_option maxHeartbeats 4000000 in
set_option maxRecDepth 100000 in
theorem c_X7_takes (l : Launch) (v : VV) (mo : Nat → Nat) (th : Int32) (sm : Nat) (ln : Nat) (rm : Int32) (fa : Int32) (dd : Int64) (tx : Nat → Nat) (ft : Nat → Int32) (p : Nat) (a9 : Nat) (b9 : Nat) (hT : TxR tx ln ft) (hp : p ≤ 99) (ha9 : 0 < a9) (hb9 : b9 < 127) (hab9 : a9 < 127) : MI l v yX7_takes cX7_takes 5 (some .int) ({ frames := 2, cells := 0, slots := 0, locals := 44 }) [.ref (mo 0), .int (nI a9), .int (nI b9)] [[((mo 0), .inr (7, [.int th, .ref (mo 1), .ref (mo 2), .int (nI sm), .ref (mo 3), .int (nI ln), .ref (mo 4), .int rm, .int fa, .ref (mo 5), .ref (mo 6), .int (nI p), .int (nI 0), .long dd]))], cMt v mo ft] (fun r w_ => if a9 ≤ nxc tx ln p ∧ nxc tx ln p ≤ b9 then r = nI (nxc tx ln p - a9) ∧ w_ = [[((mo 0), .inr (7, [.int th, .ref (mo 1), .ref (mo 2), .int (nI sm), .ref (mo 3), .int (nI ln), .ref (mo 4), .int rm, .int fa, .ref (mo 5), .ref (mo 6), .int (nI (p + 1)), .int (nI 0), .long dd]))], cMt v mo ft] else r = nI 0 ∧ w_ = [[((mo 0), .inr (7, [.int th, .ref (mo 1), .ref (mo 2), .int (nI sm), .ref (mo 3), .int (nI ln), .ref (mo 4), .int rm, .int fa, .ref (mo 5), .ref (mo 6), .int (nI p), .int (nI 1), .long dd]))], cMt v mo ft]) 0 0 := by
  refine mm_int (by decide) (Nat.le_of_ble_eq_true rfl) [(0, .ref (mo 0)), (1, .int (nI a9)), (2, .int (nI b9))] rfl (fun k X E => ?_)
  have hT1 := hT.1
  refine g_aload_n X dX7_takes_0 0 rfl rfl ?_
  refine g_iload_n X dX7_takes_1 1 rfl rfl ?_
  refine g_iload_n X dX7_takes_2 2 rfl rfl ?_
  refine g_callV (As := [.int (nI a9), .int (nI b9)]) (rest := []) (wr := []) X (nx_s l v mo th sm ln rm fa dd tx ft p a9 b9 hT (by omega) (by omega) (by omega) (by omega)) f_X7_isNext q_14_16 dX7_takes_3 [0, 1] [] rfl rfl (by decide) 0 rfl rfl rfl rfl (Nat.le_of_ble_eq_true rfl) (by decide) (fun r_ w_ hp1 => ?_)
  by_cases hv3 : a9 ≤ nxc tx ln p ∧ nxc tx ln p ≤ b9
  · have hp1q := hp1
    rw [if_pos hv3] at hp1
    obtain ⟨rfl, rfl⟩ := hp1
    show GG k _ _ [[((mo 0), .inr (7, [.int th, .ref (mo 1), .ref (mo 2), .int (nI sm), .ref (mo 3), .int (nI ln), .ref (mo 4), .int rm, .int fa, .ref (mo 5), .ref (mo 6), .int (nI p), .int (nI 0), .long dd]))], cMt v mo ft] _ _ [.int (nI 1)]
    refine g_istore_n (lv' := [(3, .int (nI 1)), (0, .ref (mo 0)), (1, .int (nI a9)), (2, .int (nI b9))]) X dX7_takes_6 rfl (by decide) rfl ?_
    refine g_iload_n X dX7_takes_7 0 rfl rfl ?_
    refine g_if_eqN (tgt := 25) X dX7_takes_8 (by decide) (by omega) (fun c8 => ?_) (fun c8 => ?_)
    · exact absurd c8 (by decide)
    · refine g_aload_n X dX7_takes_11 1 rfl rfl ?_
      refine g_get X cb7 4 q_4_20 dX7_takes_12 0 0 rfl rfl (by decide) rfl rfl ?_
      refine g_aload_n X dX7_takes_15 1 rfl rfl ?_
      have hpl := nxc_pos (tx := tx) (len := ln) (p := p) (by omega)
      refine g_get X cb7 11 q_14_9 dX7_takes_16 0 0 rfl rfl (by decide) rfl rfl ?_
      refine g_iald X dX7_takes_19 1 0 rfl rfl (by omega) (by omega) ?_
      have hpl := nxc_pos (tx := tx) (len := ln) (p := p) (by omega)
      refine g_v (y := nI (nxc tx ln p)) (by rw [nxc_in hpl]; exact (hT.2 p hpl).1) ?_
      have hz9 := nxc_lt hT p
      refine g_iload_n X dX7_takes_20 2 rfl rfl ?_
      refine g_isubN X dX7_takes_21 (by omega) ?_
      refine g_goto (tgt := 26) X dX7_takes_22 (by decide) ?_
      refine g_istore (lv' := [(4, .int (nI ((nxc tx ln p) - a9))), (3, .int (nI 1)), (0, .ref (mo 0)), (1, .int (nI a9)), (2, .int (nI b9))]) X dX7_takes_26 (by decide) rfl ?_
      refine g_aload_n X dX7_takes_28 2 rfl rfl ?_
      refine g_dup X dX7_takes_29 rfl ?_
      refine g_get X cb7 11 q_14_9 dX7_takes_30 0 0 rfl rfl (by decide) rfl rfl ?_
      refine g_iload_n X dX7_takes_33 1 rfl rfl ?_
      refine g_if_eqN (tgt := 41) X dX7_takes_34 (by decide) (by omega) (fun c34 => ?_) (fun c34 => ?_)
      · exact absurd c34 (by decide)
      · refine g_iconst (x := nI 1) X dX7_takes_37 (by decide +kernel) ?_
        refine g_goto (tgt := 42) X dX7_takes_38 (by decide) ?_
        refine g_iaddN X dX7_takes_42 ?_
        refine g_put (cs' := [[((mo 0), .inr (7, [.int th, .ref (mo 1), .ref (mo 2), .int (nI sm), .ref (mo 3), .int (nI ln), .ref (mo 4), .int rm, .int fa, .ref (mo 5), .ref (mo 6), .int (nI (p + 1)), .int (nI 0), .long dd]))], cMt v mo ft]) X cb7 11 q_14_9 dX7_takes_43 0 0 rfl rfl (by decide) rfl rfl (rfl) (rfl) (Nat.le_of_ble_eq_true rfl) rfl ?_
        refine g_aload_n X dX7_takes_46 2 rfl rfl ?_
        refine g_aload_n X dX7_takes_47 2 rfl rfl ?_
        refine g_get X cb7 12 q_14_10 dX7_takes_48 0 0 rfl rfl (by decide) rfl rfl ?_
        refine g_if_neN (tgt := 58) X dX7_takes_51 (by decide) (by omega) (fun c51 => ?_) (fun c51 => ?_)
        · exact absurd rfl c51
        · refine g_iload_n X dX7_takes_54 1 rfl rfl ?_
          refine g_if_neN (tgt := 62) X dX7_takes_55 (by decide) (by omega) (fun c55 => ?_) (fun c55 => ?_)
          · refine g_iconst (x := nI 0) X dX7_takes_62 (by decide +kernel) ?_
            refine g_put (cs' := [[((mo 0), .inr (7, [.int th, .ref (mo 1), .ref (mo 2), .int (nI sm), .ref (mo 3), .int (nI ln), .ref (mo 4), .int rm, .int fa, .ref (mo 5), .ref (mo 6), .int (nI (p + 1)), .int (nI 0), .long dd]))], cMt v mo ft]) X cb7 12 q_14_10 dX7_takes_63 0 0 rfl rfl (by decide) rfl rfl (rfl) (rfl) (Nat.le_of_ble_eq_true rfl) rfl ?_
            refine g_iload X dX7_takes_66 0 rfl ?_
            exact E dX7_takes_68 rfl (rfl) (by decide) (by decide) (by dsimp only; rw [if_pos hv3]; exact ⟨rfl, rfl⟩)
          · exact absurd c55 (by decide)
  · have hp1q := hp1
    rw [if_neg hv3] at hp1
    obtain ⟨rfl, rfl⟩ := hp1
    show GG k _ _ [[((mo 0), .inr (7, [.int th, .ref (mo 1), .ref (mo 2), .int (nI sm), .ref (mo 3), .int (nI ln), .ref (mo 4), .int rm, .int fa, .ref (mo 5), .ref (mo 6), .int (nI p), .int (nI 0), .long dd]))], cMt v mo ft] _ _ [.int (nI 0)]
    refine g_istore_n (lv' := [(3, .int (nI 0)), (0, .ref (mo 0)), (1, .int (nI a9)), (2, .int (nI b9))]) X dX7_takes_6 rfl (by decide) rfl ?_
    refine g_iload_n X dX7_takes_7 0 rfl rfl ?_
    refine g_if_eqN (tgt := 25) X dX7_takes_8 (by decide) (by omega) (fun c8 => ?_) (fun c8 => ?_)
    · refine g_iconst (x := nI 0) X dX7_takes_25 (by decide +kernel) ?_
      refine g_istore (lv' := [(4, .int (nI 0)), (3, .int (nI 0)), (0, .ref (mo 0)), (1, .int (nI a9)), (2, .int (nI b9))]) X dX7_takes_26 (by decide) rfl ?_
      refine g_aload_n X dX7_takes_28 2 rfl rfl ?_
      refine g_dup X dX7_takes_29 rfl ?_
      refine g_get X cb7 11 q_14_9 dX7_takes_30 0 0 rfl rfl (by decide) rfl rfl ?_
      refine g_iload_n X dX7_takes_33 1 rfl rfl ?_
      refine g_if_eqN (tgt := 41) X dX7_takes_34 (by decide) (by omega) (fun c34 => ?_) (fun c34 => ?_)
      · refine g_iconst (x := nI 0) X dX7_takes_41 (by decide +kernel) ?_
        refine g_iaddN X dX7_takes_42 ?_
        refine g_put (cs' := [[((mo 0), .inr (7, [.int th, .ref (mo 1), .ref (mo 2), .int (nI sm), .ref (mo 3), .int (nI ln), .ref (mo 4), .int rm, .int fa, .ref (mo 5), .ref (mo 6), .int (nI (p + 0)), .int (nI 0), .long dd]))], cMt v mo ft]) X cb7 11 q_14_9 dX7_takes_43 0 0 rfl rfl (by decide) rfl rfl (rfl) (rfl) (Nat.le_of_ble_eq_true rfl) rfl ?_
        refine g_aload_n X dX7_takes_46 2 rfl rfl ?_
        refine g_aload_n X dX7_takes_47 2 rfl rfl ?_
        refine g_get X cb7 12 q_14_10 dX7_takes_48 0 0 rfl rfl (by decide) rfl rfl ?_
        refine g_if_neN (tgt := 58) X dX7_takes_51 (by decide) (by omega) (fun c51 => ?_) (fun c51 => ?_)
        · exact absurd rfl c51
        · refine g_iload_n X dX7_takes_54 1 rfl rfl ?_
          refine g_if_neN (tgt := 62) X dX7_takes_55 (by decide) (by omega) (fun c55 => ?_) (fun c55 => ?_)
          · exact absurd rfl c55
          · refine g_iconst (x := nI 1) X dX7_takes_58 (by decide +kernel) ?_
            refine g_goto (tgt := 63) X dX7_takes_59 (by decide) ?_
            refine g_put (cs' := [[((mo 0), .inr (7, [.int th, .ref (mo 1), .ref (mo 2), .int (nI sm), .ref (mo 3), .int (nI ln), .ref (mo 4), .int rm, .int fa, .ref (mo 5), .ref (mo 6), .int (nI (p + 0)), .int (nI 1), .long dd]))], cMt v mo ft]) X cb7 12 q_14_10 dX7_takes_63 0 0 rfl rfl (by decide) rfl rfl (rfl) (rfl) (Nat.le_of_ble_eq_true rfl) rfl ?_
            refine g_iload X dX7_takes_66 0 rfl ?_
            exact E dX7_takes_68 rfl (rfl) (by decide) (by decide) (by dsimp only; rw [if_neg hv3]; exact ⟨rfl, rfl⟩)
      · exact absurd rfl c34
    · exact absurd rfl c8

set_option maxHeartbeats 4000000 in
set_option maxRecDepth 100000 in
theorem b_X7_takes (l : Launch) (v : VV) (mo : Nat → Nat) (th : Int32) (sm : Nat) (ln : Nat) (rm : Int32) (fa : Int32) (dd : Int64) (ft : Nat → Int32) (p : Nat) (a9 : Nat) (b9 : Nat) (hp : p ≤ 100) : MI l v yX7_takes cX7_takes 5 (some .int) ({ frames := 2, cells := 0, slots := 0, locals := 44 }) [.ref (mo 0), .int (nI a9), .int (nI b9)] [[((mo 0), .inr (7, [.int th, .ref (mo 1), .ref (mo 2), .int (nI sm), .ref (mo 3), .int (nI ln), .ref (mo 4), .int rm, .int fa, .ref (mo 5), .ref (mo 6), .int (nI p), .int (nI 1), .long dd]))], cMt v mo ft] (fun r w_ => r = nI 0 ∧ w_ = [[((mo 0), .inr (7, [.int th, .ref (mo 1), .ref (mo 2), .int (nI sm), .ref (mo 3), .int (nI ln), .ref (mo 4), .int rm, .int fa, .ref (mo 5), .ref (mo 6), .int (nI p), .int (nI 1), .long dd]))], cMt v mo ft]) 0 0 := by
  refine mm_int (by decide) (Nat.le_of_ble_eq_true rfl) [(0, .ref (mo 0)), (1, .int (nI a9)), (2, .int (nI b9))] rfl (fun k X E => ?_)
  refine g_aload_n X dX7_takes_0 0 rfl rfl ?_
  refine g_iload_n X dX7_takes_1 1 rfl rfl ?_
  refine g_iload_n X dX7_takes_2 2 rfl rfl ?_
  refine g_callV (As := [.int (nI a9), .int (nI b9)]) (rest := []) (wr := []) X (b_X7_isNext l v mo th sm ln rm fa dd ft p a9 b9) f_X7_isNext q_14_16 dX7_takes_3 [0, 1] [] rfl rfl (by decide) 0 rfl rfl rfl rfl (Nat.le_of_ble_eq_true rfl) (by decide) (fun r_ w_ hp1 => ?_)
  obtain ⟨rfl, rfl⟩ := hp1
  show GG k _ _ [[((mo 0), .inr (7, [.int th, .ref (mo 1), .ref (mo 2), .int (nI sm), .ref (mo 3), .int (nI ln), .ref (mo 4), .int rm, .int fa, .ref (mo 5), .ref (mo 6), .int (nI p), .int (nI 1), .long dd]))], cMt v mo ft] _ _ [.int (nI 0)]
  refine g_istore_n (lv' := [(3, .int (nI 0)), (0, .ref (mo 0)), (1, .int (nI a9)), (2, .int (nI b9))]) X dX7_takes_6 rfl (by decide) rfl ?_
  refine g_iload_n X dX7_takes_7 0 rfl rfl ?_
  refine g_if_eqN (tgt := 25) X dX7_takes_8 (by decide) (by omega) (fun c8 => ?_) (fun c8 => ?_)
  · refine g_iconst (x := nI 0) X dX7_takes_25 (by decide +kernel) ?_
    refine g_istore (lv' := [(4, .int (nI 0)), (3, .int (nI 0)), (0, .ref (mo 0)), (1, .int (nI a9)), (2, .int (nI b9))]) X dX7_takes_26 (by decide) rfl ?_
    refine g_aload_n X dX7_takes_28 2 rfl rfl ?_
    refine g_dup X dX7_takes_29 rfl ?_
    refine g_get X cb7 11 q_14_9 dX7_takes_30 0 0 rfl rfl (by decide) rfl rfl ?_
    refine g_iload_n X dX7_takes_33 1 rfl rfl ?_
    refine g_if_eqN (tgt := 41) X dX7_takes_34 (by decide) (by omega) (fun c34 => ?_) (fun c34 => ?_)
    · refine g_iconst (x := nI 0) X dX7_takes_41 (by decide +kernel) ?_
      refine g_iaddN X dX7_takes_42 ?_
      refine g_put (cs' := [[((mo 0), .inr (7, [.int th, .ref (mo 1), .ref (mo 2), .int (nI sm), .ref (mo 3), .int (nI ln), .ref (mo 4), .int rm, .int fa, .ref (mo 5), .ref (mo 6), .int (nI (p + 0)), .int (nI 1), .long dd]))], cMt v mo ft]) X cb7 11 q_14_9 dX7_takes_43 0 0 rfl rfl (by decide) rfl rfl (rfl) (rfl) (Nat.le_of_ble_eq_true rfl) rfl ?_
      refine g_aload_n X dX7_takes_46 2 rfl rfl ?_
      refine g_aload_n X dX7_takes_47 2 rfl rfl ?_
      refine g_get X cb7 12 q_14_10 dX7_takes_48 0 0 rfl rfl (by decide) rfl rfl ?_
      refine g_if_neN (tgt := 58) X dX7_takes_51 (by decide) (by omega) (fun c51 => ?_) (fun c51 => ?_)
      · refine g_iconst (x := nI 1) X dX7_takes_58 (by decide +kernel) ?_
        refine g_goto (tgt := 63) X dX7_takes_59 (by decide) ?_
        refine g_put (cs' := [[((mo 0), .inr (7, [.int th, .ref (mo 1), .ref (mo 2), .int (nI sm), .ref (mo 3), .int (nI ln), .ref (mo 4), .int rm, .int fa, .ref (mo 5), .ref (mo 6), .int (nI (p + 0)), .int (nI 1), .long dd]))], cMt v mo ft]) X cb7 12 q_14_10 dX7_takes_63 0 0 rfl rfl (by decide) rfl rfl (rfl) (rfl) (Nat.le_of_ble_eq_true rfl) rfl ?_
        refine g_iload X dX7_takes_66 0 rfl ?_
        exact E dX7_takes_68 rfl (rfl) (by decide) (by decide) (⟨rfl, rfl⟩)
      · exact absurd c51 (by decide)
    · exact absurd rfl c34
  · exact absurd rfl c8

set_option maxHeartbeats 4000000 in
set_option maxRecDepth 100000 in
theorem c_X7_readOperand (l : Launch) (v : VV) (mo : Nat → Nat) (th : Int32) (sm : Nat) (ln : Nat) (rm : Int32) (fa : Int32) (dd : Int64) (tx : Nat → Nat) (ft : Nat → Int32) (p : Nat) (hT : TxR tx ln ft) (hp : p ≤ 98) : MI l v yX7_readOperand cX7_readOperand 1 (some .int) ({ frames := 3, cells := 0, slots := 0, locals := 68 }) [.ref (mo 0)] [[((mo 0), .inr (7, [.int th, .ref (mo 1), .ref (mo 2), .int (nI sm), .ref (mo 3), .int (nI ln), .ref (mo 4), .int rm, .int fa, .ref (mo 5), .ref (mo 6), .int (nI p), .int (nI 0), .long dd]))], cMt v mo ft] (fun r w_ => match ocl (nxc tx ln p) with | none => r = nI 3 ∧ w_ = [[((mo 0), .inr (7, [.int th, .ref (mo 1), .ref (mo 2), .int (nI sm), .ref (mo 3), .int (nI ln), .ref (mo 4), .int rm, .int fa, .ref (mo 5), .ref (mo 6), .int (nI p), .int (nI 1), .long dd]))], cMt v mo ft] | some o => r = nI (opm o) ∧ w_ = [[((mo 0), .inr (7, [.int th, .ref (mo 1), .ref (mo 2), .int (nI sm), .ref (mo 3), .int (nI ln), .ref (mo 4), .int rm, .int fa, .ref (mo 5), .ref (mo 6), .int (nI (p + 1)), .int (nI 0), .long dd]))], cMt v mo ft]) 0 0 := by
  refine mm_int (by decide) (Nat.le_of_ble_eq_true rfl) [(0, .ref (mo 0))] rfl (fun k X E => ?_)
  refine g_aload_n X dX7_readOperand_0 0 rfl rfl ?_
  refine g_bipush (x := nI 120) X dX7_readOperand_1 (by decide +kernel) ?_
  refine g_bipush (x := nI 122) X dX7_readOperand_3 (by decide +kernel) ?_
  refine g_callV (As := [.int (nI 120), .int (nI 122)]) (rest := []) (wr := []) X (nx_s l v mo th sm ln rm fa dd tx ft p 120 122 hT (by omega) (by omega) (by omega) (by omega)) f_X7_isNext q_14_16 dX7_readOperand_5 [0, 1] [] rfl rfl (by decide) 0 rfl rfl rfl rfl (Nat.le_of_ble_eq_true rfl) (by decide) (fun r_ w_ hp1 => ?_)
  by_cases hv5 : 120 ≤ nxc tx ln p ∧ nxc tx ln p ≤ 122
  · have hp1q := hp1
    rw [if_pos hv5] at hp1
    obtain ⟨rfl, rfl⟩ := hp1
    show GG k _ _ [[((mo 0), .inr (7, [.int th, .ref (mo 1), .ref (mo 2), .int (nI sm), .ref (mo 3), .int (nI ln), .ref (mo 4), .int rm, .int fa, .ref (mo 5), .ref (mo 6), .int (nI p), .int (nI 0), .long dd]))], cMt v mo ft] _ _ [.int (nI 1)]
    refine g_if_eqN (tgt := 22) X dX7_readOperand_8 (by decide) (by omega) (fun c8 => ?_) (fun c8 => ?_)
    · exact absurd c8 (by decide)
    · refine g_aload_n X dX7_readOperand_11 0 rfl rfl ?_
      refine g_bipush (x := nI 120) X dX7_readOperand_12 (by decide +kernel) ?_
      refine g_bipush (x := nI 122) X dX7_readOperand_14 (by decide +kernel) ?_
      refine g_callV (As := [.int (nI 120), .int (nI 122)]) (rest := []) (wr := []) X (c_X7_takes l v mo th sm ln rm fa dd tx ft p 120 122 hT (by omega) (by omega) (by omega) (by omega)) f_X7_takes q_15_7 dX7_readOperand_16 [0, 1] [] rfl rfl (by decide) 0 rfl rfl rfl rfl (Nat.le_of_ble_eq_true rfl) (by decide) (fun r_ w_ hp3 => ?_)
      have hp3q := hp3
      rw [if_pos hv5] at hp3
      have hz2 := nxc_lt hT p
      obtain ⟨rfl, rfl⟩ := hp3
      show GG k _ _ [[((mo 0), .inr (7, [.int th, .ref (mo 1), .ref (mo 2), .int (nI sm), .ref (mo 3), .int (nI ln), .ref (mo 4), .int rm, .int fa, .ref (mo 5), .ref (mo 6), .int (nI (p + 1)), .int (nI 0), .long dd]))], cMt v mo ft] _ _ [.int (nI (nxc tx ln p - 120))]
      refine g_goto (tgt := 32) X dX7_readOperand_19 (by decide) ?_
      exact E dX7_readOperand_32 rfl (rfl) (by decide) (by decide) (by dsimp only; rw [ocl_x hv5]; exact ⟨by rw [opm_x hv5], rfl⟩)
  · have hp1q := hp1
    rw [if_neg hv5] at hp1
    obtain ⟨rfl, rfl⟩ := hp1
    show GG k _ _ [[((mo 0), .inr (7, [.int th, .ref (mo 1), .ref (mo 2), .int (nI sm), .ref (mo 3), .int (nI ln), .ref (mo 4), .int rm, .int fa, .ref (mo 5), .ref (mo 6), .int (nI p), .int (nI 0), .long dd]))], cMt v mo ft] _ _ [.int (nI 0)]
    refine g_if_eqN (tgt := 22) X dX7_readOperand_8 (by decide) (by omega) (fun c8 => ?_) (fun c8 => ?_)
    · refine g_iconst (x := nI 3) X dX7_readOperand_22 (by decide +kernel) ?_
      refine g_aload_n X dX7_readOperand_23 0 rfl rfl ?_
      refine g_bipush (x := nI 48) X dX7_readOperand_24 (by decide +kernel) ?_
      refine g_bipush (x := nI 55) X dX7_readOperand_26 (by decide +kernel) ?_
      refine g_callV (As := [.int (nI 48), .int (nI 55)]) (rest := [.int (nI 3)]) (wr := []) X (c_X7_takes l v mo th sm ln rm fa dd tx ft p 48 55 hT (by omega) (by omega) (by omega) (by omega)) f_X7_takes q_15_7 dX7_readOperand_28 [0, 1] [] rfl rfl (by decide) 0 rfl rfl rfl rfl (Nat.le_of_ble_eq_true rfl) (by decide) (fun r_ w_ hp5 => ?_)
      by_cases hv28 : 48 ≤ nxc tx ln p ∧ nxc tx ln p ≤ 55
      · have hp5q := hp5
        rw [if_pos hv28] at hp5
        have hz4 := nxc_lt hT p
        obtain ⟨rfl, rfl⟩ := hp5
        show GG k _ _ [[((mo 0), .inr (7, [.int th, .ref (mo 1), .ref (mo 2), .int (nI sm), .ref (mo 3), .int (nI ln), .ref (mo 4), .int rm, .int fa, .ref (mo 5), .ref (mo 6), .int (nI (p + 1)), .int (nI 0), .long dd]))], cMt v mo ft] _ _ [.int (nI (nxc tx ln p - 48)), .int (nI 3)]
        refine g_iaddN X dX7_readOperand_31 ?_
        exact E dX7_readOperand_32 rfl (rfl) (by decide) (by decide) (by dsimp only; rw [ocl_d hv5 hv28]; exact ⟨by rw [opm_d hv28], rfl⟩)
      · have hp5q := hp5
        rw [if_neg hv28] at hp5
        obtain ⟨rfl, rfl⟩ := hp5
        show GG k _ _ [[((mo 0), .inr (7, [.int th, .ref (mo 1), .ref (mo 2), .int (nI sm), .ref (mo 3), .int (nI ln), .ref (mo 4), .int rm, .int fa, .ref (mo 5), .ref (mo 6), .int (nI p), .int (nI 1), .long dd]))], cMt v mo ft] _ _ [.int (nI 0), .int (nI 3)]
        refine g_iaddN X dX7_readOperand_31 ?_
        exact E dX7_readOperand_32 rfl (rfl) (by decide) (by decide) (by dsimp only; rw [ocl_n hv5 hv28]; exact ⟨rfl, rfl⟩)
    · exact absurd rfl c8

set_option maxHeartbeats 4000000 in
set_option maxRecDepth 100000 in
theorem b_X7_readOperand (l : Launch) (v : VV) (mo : Nat → Nat) (th : Int32) (sm : Nat) (ln : Nat) (rm : Int32) (fa : Int32) (dd : Int64) (ft : Nat → Int32) (p : Nat) (hp : p ≤ 100) : MI l v yX7_readOperand cX7_readOperand 1 (some .int) ({ frames := 3, cells := 0, slots := 0, locals := 68 }) [.ref (mo 0)] [[((mo 0), .inr (7, [.int th, .ref (mo 1), .ref (mo 2), .int (nI sm), .ref (mo 3), .int (nI ln), .ref (mo 4), .int rm, .int fa, .ref (mo 5), .ref (mo 6), .int (nI p), .int (nI 1), .long dd]))], cMt v mo ft] (fun r w_ => r = nI 3 ∧ w_ = [[((mo 0), .inr (7, [.int th, .ref (mo 1), .ref (mo 2), .int (nI sm), .ref (mo 3), .int (nI ln), .ref (mo 4), .int rm, .int fa, .ref (mo 5), .ref (mo 6), .int (nI p), .int (nI 1), .long dd]))], cMt v mo ft]) 0 0 := by
  refine mm_int (by decide) (Nat.le_of_ble_eq_true rfl) [(0, .ref (mo 0))] rfl (fun k X E => ?_)
  refine g_aload_n X dX7_readOperand_0 0 rfl rfl ?_
  refine g_bipush (x := nI 120) X dX7_readOperand_1 (by decide +kernel) ?_
  refine g_bipush (x := nI 122) X dX7_readOperand_3 (by decide +kernel) ?_
  refine g_callV (As := [.int (nI 120), .int (nI 122)]) (rest := []) (wr := []) X (b_X7_isNext l v mo th sm ln rm fa dd ft p 120 122) f_X7_isNext q_14_16 dX7_readOperand_5 [0, 1] [] rfl rfl (by decide) 0 rfl rfl rfl rfl (Nat.le_of_ble_eq_true rfl) (by decide) (fun r_ w_ hp1 => ?_)
  obtain ⟨rfl, rfl⟩ := hp1
  show GG k _ _ [[((mo 0), .inr (7, [.int th, .ref (mo 1), .ref (mo 2), .int (nI sm), .ref (mo 3), .int (nI ln), .ref (mo 4), .int rm, .int fa, .ref (mo 5), .ref (mo 6), .int (nI p), .int (nI 1), .long dd]))], cMt v mo ft] _ _ [.int (nI 0)]
  refine g_if_eqN (tgt := 22) X dX7_readOperand_8 (by decide) (by omega) (fun c8 => ?_) (fun c8 => ?_)
  · refine g_iconst (x := nI 3) X dX7_readOperand_22 (by decide +kernel) ?_
    refine g_aload_n X dX7_readOperand_23 0 rfl rfl ?_
    refine g_bipush (x := nI 48) X dX7_readOperand_24 (by decide +kernel) ?_
    refine g_bipush (x := nI 55) X dX7_readOperand_26 (by decide +kernel) ?_
    refine g_callV (As := [.int (nI 48), .int (nI 55)]) (rest := [.int (nI 3)]) (wr := []) X (b_X7_takes l v mo th sm ln rm fa dd ft p 48 55 (by omega)) f_X7_takes q_15_7 dX7_readOperand_28 [0, 1] [] rfl rfl (by decide) 0 rfl rfl rfl rfl (Nat.le_of_ble_eq_true rfl) (by decide) (fun r_ w_ hp2 => ?_)
    obtain ⟨rfl, rfl⟩ := hp2
    show GG k _ _ [[((mo 0), .inr (7, [.int th, .ref (mo 1), .ref (mo 2), .int (nI sm), .ref (mo 3), .int (nI ln), .ref (mo 4), .int rm, .int fa, .ref (mo 5), .ref (mo 6), .int (nI p), .int (nI 1), .long dd]))], cMt v mo ft] _ _ [.int (nI 0), .int (nI 3)]
    refine g_iaddN X dX7_readOperand_31 ?_
    exact E dX7_readOperand_32 rfl (rfl) (by decide) (by decide) (⟨rfl, rfl⟩)
  · exact absurd rfl c8

set_option maxHeartbeats 4000000 in
set_option maxRecDepth 100000 in
theorem c_X7_puts (l : Launch) (v : VV) (mo : Nat → Nat) (th : Int32) (sm : Nat) (ln : Nat) (fa : Int32) (sp : Int32) (wr : Int32) (dd : Int64) (k9 : Nat) (u9 : Nat) (x : Int32) (fr : Nat → Int32) (hk : k9 < 12) (hu : u9 < 5) : MU l v yX7_puts cX7_puts 3 none ({ frames := 0, cells := 0, slots := 0, locals := 0 }) [.ref (mo 0), .int (nI u9), .int x] [[((mo 0), .inr (7, [.int th, .ref (mo 1), .ref (mo 2), .int (nI sm), .ref (mo 3), .int (nI ln), .ref (mo 4), .int (nI k9), .int fa, .ref (mo 5), .ref (mo 6), .int sp, .int wr, .long dd]))], cMr v mo fr] (fun _ w_ => w_ = [[((mo 0), .inr (7, [.int th, .ref (mo 1), .ref (mo 2), .int (nI sm), .ref (mo 3), .int (nI ln), .ref (mo 4), .int (nI k9), .int fa, .ref (mo 5), .ref (mo 6), .int sp, .int wr, .long dd]))], cMr v mo (upd fr (5 * k9 + u9) x)]) 0 0 := by
  refine mm_void rfl (by decide) (Nat.le_of_ble_eq_true rfl) [(0, .ref (mo 0)), (1, .int (nI u9)), (2, .int x)] rfl (fun k X hin E => ?_)
  refine g_aload_n X dX7_puts_0 0 rfl rfl ?_
  refine g_get X cb7 6 q_4_21 dX7_puts_1 0 0 rfl rfl (by decide) rfl rfl ?_
  refine g_iconst (x := nI 5) X dX7_puts_4 (by decide +kernel) ?_
  refine g_aload_n X dX7_puts_5 0 rfl rfl ?_
  refine g_get X cb7 7 q_14_4 dX7_puts_6 0 0 rfl rfl (by decide) rfl rfl ?_
  refine g_imulN X dX7_puts_9 ?_
  refine g_iload_n X dX7_puts_10 1 rfl rfl ?_
  refine g_iaddN X dX7_puts_11 ?_
  refine g_iload_n X dX7_puts_12 2 rfl rfl ?_
  refine g_iast (cs' := [[((mo 0), .inr (7, [.int th, .ref (mo 1), .ref (mo 2), .int (nI sm), .ref (mo 3), .int (nI ln), .ref (mo 4), .int (nI k9), .int fa, .ref (mo 5), .ref (mo 6), .int sp, .int wr, .long dd]))], [((mo 4), .inl (v.2.1 0, 60, .inl (upd fr ((5 * k9) + u9) x)))]]) X dX7_puts_13 1 0 rfl rfl (by omega) (by omega) rfl ?_
  exact E dX7_puts_14 (by decide) (by decide) (rfl)

