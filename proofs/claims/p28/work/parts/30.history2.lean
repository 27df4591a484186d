/-! ## History: save, restore -/
set_option maxHeartbeats 4000000 in
set_option maxRecDepth 100000 in
theorem c_X1_save (l : Launch) (v : VV) (h : Nat → Nat) (pw : Nat → Nat → Nat) (bw : Nat → Nat → Nat) (o : Nat) (c : Nat) (ns : Nat → Nat) (fs : Nat → Nat → Nat → Int32) (gs : Nat → Nat → Nat → Int32) (H : Nat → HE9) (a : Nat → Nat) (n : Nat) (f : Nat → Nat → Int32) (P : Nat → S9) (b : Nat → Nat) (g : Nat → Nat → Int32) (lo : Nat → Nat) (hi : Nat → Nat) (hH : HrR H o c ns fs gs) (hW : WF P n) (hR : PgR P n f) (hL : AsW lo hi) (hG : AsR lo hi g) : MU l v yX1_save cX1_save 4 none ({ frames := 3, cells := 0, slots := 0, locals := 69 }) [.ref (h 0), .ref (a 0), .ref (b 0)] [cHi9 v h pw bw o c, cPg v a n f, cAs v b g, cPg v (pw 0) (ns 0) (fs 0), cPg v (pw 1) (ns 1) (fs 1), cPg v (pw 2) (ns 2) (fs 2), cPg v (pw 3) (ns 3) (fs 3), cPg v (pw 4) (ns 4) (fs 4), cPg v (pw 5) (ns 5) (fs 5), cAs v (bw 0) (gs 0), cAs v (bw 1) (gs 1), cAs v (bw 2) (gs 2), cAs v (bw 3) (gs 3), cAs v (bw 4) (gs 4), cAs v (bw 5) (gs 5)] (fun _ w_ => ∃ o' ns' fs' gs', HrR (hS9 H c (P, n, lo, hi)) o' (hC9 c) ns' fs' gs' ∧ w_ = [cHi9 v h pw bw o' (hC9 c), cPg v a n f, cAs v b g, cPg v (pw 0) (ns' 0) (fs' 0), cPg v (pw 1) (ns' 1) (fs' 1), cPg v (pw 2) (ns' 2) (fs' 2), cPg v (pw 3) (ns' 3) (fs' 3), cPg v (pw 4) (ns' 4) (fs' 4), cPg v (pw 5) (ns' 5) (fs' 5), cAs v (bw 0) (gs' 0), cAs v (bw 1) (gs' 1), cAs v (bw 2) (gs' 2), cAs v (bw 3) (gs' 3), cAs v (bw 4) (gs' 4), cAs v (bw 5) (gs' 5)]) 0 0 := by
  refine mm_void rfl (by decide) (Nat.le_of_ble_eq_true rfl) [(0, .ref (h 0)), (1, .ref (a 0)), (2, .ref (b 0))] rfl (fun k X hin E => ?_)
  have hn12 := hW.1
  obtain ⟨ho6, hc7, -⟩ := id hH
  refine g_aload_n X dX1_save_0 0 rfl rfl ?_
  refine g_get X cb1 3 q_13_5 dX1_save_1 0 0 rfl rfl (by decide) rfl rfl ?_
  refine g_bipush (x := nI 6) X dX1_save_4 (by decide +kernel) ?_
  refine g_icmp_neN (tgt := 32) X dX1_save_6 (by decide) (by omega) (by omega) (fun c6 => ?_) (fun c6 => ?_)
  · refine g_aload_n X dX1_save_32 0 rfl rfl ?_
    refine g_get X cb1 2 q_13_6 dX1_save_33 0 0 rfl rfl (by decide) rfl rfl ?_
    refine g_aload_n X dX1_save_36 0 rfl rfl ?_
    refine g_get X cb1 3 q_13_5 dX1_save_37 0 0 rfl rfl (by decide) rfl rfl ?_
    refine g_iaddN X dX1_save_40 ?_
    refine g_bipush (x := nI 6) X dX1_save_41 (by decide +kernel) ?_
    refine g_iremN X dX1_save_43 (by omega) (by omega) (by omega) ?_
    refine g_istore_n (lv' := [(3, .int (nI ((o + c) % 6))), (0, .ref (h 0)), (1, .ref (a 0)), (2, .ref (b 0))]) X dX1_save_44 rfl (by decide) rfl ?_
    obtain ⟨sl9, hsl, hs6⟩ : ∃ s9, s9 = (o + c) % 6 ∧ s9 < 6 := ⟨_, rfl, Nat.mod_lt _ (by decide)⟩
    rw [← hsl]
    rcases (show sl9 = 0 ∨ sl9 = 1 ∨ sl9 = 2 ∨ sl9 = 3 ∨ sl9 = 4 ∨ sl9 = 5 by omega) with rfl | rfl | rfl | rfl | rfl | rfl
    · refine g_aload_n X dX1_save_45 1 rfl rfl ?_
      refine g_get X cb1 0 q_4_1 dX1_save_46 0 0 rfl rfl (by decide) rfl rfl ?_
      refine g_iload_n X dX1_save_49 0 rfl rfl ?_
      refine g_aald 4 X dX1_save_50 0 1 rfl rfl rfl (by omega) (by omega) ?_
      show GG k _ _ _ _ _ (.ref (pw 0 0) :: _)
      refine g_aload_n X dX1_save_51 2 rfl rfl ?_
      refine g_callV (As := [.ref (a 0)]) (rest := []) (wr := [cHi9 v h pw bw o c, cAs v b g, cPg v (pw 1) (ns 1) (fs 1), cPg v (pw 2) (ns 2) (fs 2), cPg v (pw 3) (ns 3) (fs 3), cPg v (pw 4) (ns 4) (fs 4), cPg v (pw 5) (ns 5) (fs 5), cAs v (bw 0) (gs 0), cAs v (bw 1) (gs 1), cAs v (bw 2) (gs 2), cAs v (bw 3) (gs 3), cAs v (bw 4) (gs 4), cAs v (bw 5) (gs 5)]) X (c_X3_copyFrom l v (pw 0) (ns 0) (fs 0) a n f (by omega)) f_X3_copyFrom q_13_7 dX1_save_52 [3, 1] [0, 2, 4, 5, 6, 7, 8, 9, 10, 11, 12, 13, 14] rfl rfl (by decide) 0 rfl rfl rfl rfl (Nat.le_of_ble_eq_true rfl) (by decide) (fun r_ w_ hp2 => ?_)
      obtain ⟨f_1, f_12, rfl⟩ := hp2
      show GG k _ _ [cPg v (pw 0) n f_1, cPg v a n f, cHi9 v h pw bw o c, cAs v b g, cPg v (pw 1) (ns 1) (fs 1), cPg v (pw 2) (ns 2) (fs 2), cPg v (pw 3) (ns 3) (fs 3), cPg v (pw 4) (ns 4) (fs 4), cPg v (pw 5) (ns 5) (fs 5), cAs v (bw 0) (gs 0), cAs v (bw 1) (gs 1), cAs v (bw 2) (gs 2), cAs v (bw 3) (gs 3), cAs v (bw 4) (gs 4), cAs v (bw 5) (gs 5)] _ _ []
      refine g_pick (cs' := [cHi9 v h pw bw o c, cPg v a n f, cAs v b g, cPg v (pw 0) n f_1, cPg v (pw 1) (ns 1) (fs 1), cPg v (pw 2) (ns 2) (fs 2), cPg v (pw 3) (ns 3) (fs 3), cPg v (pw 4) (ns 4) (fs 4), cPg v (pw 5) (ns 5) (fs 5), cAs v (bw 0) (gs 0), cAs v (bw 1) (gs 1), cAs v (bw 2) (gs 2), cAs v (bw 3) (gs 3), cAs v (bw 4) (gs 4), cAs v (bw 5) (gs 5)]) [2, 1, 3, 0, 4, 5, 6, 7, 8, 9, 10, 11, 12, 13, 14] rfl rfl ?_
      refine g_aload_n X dX1_save_55 1 rfl rfl ?_
      refine g_get X cb1 1 q_4_3 dX1_save_56 0 0 rfl rfl (by decide) rfl rfl ?_
      refine g_iload_n X dX1_save_59 0 rfl rfl ?_
      refine g_aald 5 X dX1_save_60 0 2 rfl rfl rfl (by omega) (by omega) ?_
      show GG k _ _ _ _ _ (.ref (bw 0 0) :: _)
      refine g_aload_n X dX1_save_61 3 rfl rfl ?_
      refine g_callV (As := [.ref (b 0)]) (rest := []) (wr := [cHi9 v h pw bw o c, cPg v a n f, cPg v (pw 0) n f_1, cPg v (pw 1) (ns 1) (fs 1), cPg v (pw 2) (ns 2) (fs 2), cPg v (pw 3) (ns 3) (fs 3), cPg v (pw 4) (ns 4) (fs 4), cPg v (pw 5) (ns 5) (fs 5), cAs v (bw 1) (gs 1), cAs v (bw 2) (gs 2), cAs v (bw 3) (gs 3), cAs v (bw 4) (gs 4), cAs v (bw 5) (gs 5)]) X (c_X0_copyFrom l v (bw 0) (gs 0) b g) f_X0_copyFrom q_13_17 dX1_save_62 [9, 2] [0, 1, 3, 4, 5, 6, 7, 8, 10, 11, 12, 13, 14] rfl rfl (by decide) 0 rfl rfl rfl rfl (Nat.le_of_ble_eq_true rfl) (by decide) (fun r_ w_ hp4 => ?_)
      obtain ⟨g_3, g_31, rfl⟩ := hp4
      show GG k _ _ [cAs v (bw 0) g_3, cAs v b g, cHi9 v h pw bw o c, cPg v a n f, cPg v (pw 0) n f_1, cPg v (pw 1) (ns 1) (fs 1), cPg v (pw 2) (ns 2) (fs 2), cPg v (pw 3) (ns 3) (fs 3), cPg v (pw 4) (ns 4) (fs 4), cPg v (pw 5) (ns 5) (fs 5), cAs v (bw 1) (gs 1), cAs v (bw 2) (gs 2), cAs v (bw 3) (gs 3), cAs v (bw 4) (gs 4), cAs v (bw 5) (gs 5)] _ _ []
      refine g_pick (cs' := [cHi9 v h pw bw o c, cPg v a n f, cAs v b g, cPg v (pw 0) n f_1, cPg v (pw 1) (ns 1) (fs 1), cPg v (pw 2) (ns 2) (fs 2), cPg v (pw 3) (ns 3) (fs 3), cPg v (pw 4) (ns 4) (fs 4), cPg v (pw 5) (ns 5) (fs 5), cAs v (bw 0) g_3, cAs v (bw 1) (gs 1), cAs v (bw 2) (gs 2), cAs v (bw 3) (gs 3), cAs v (bw 4) (gs 4), cAs v (bw 5) (gs 5)]) [2, 3, 1, 4, 5, 6, 7, 8, 9, 0, 10, 11, 12, 13, 14] rfl rfl ?_
      refine g_aload_n X dX1_save_65 1 rfl rfl ?_
      refine g_dup X dX1_save_66 rfl ?_
      refine g_get X cb1 3 q_13_5 dX1_save_67 0 0 rfl rfl (by decide) rfl rfl ?_
      refine g_iconst (x := nI 1) X dX1_save_70 (by decide +kernel) ?_
      refine g_iaddN X dX1_save_71 ?_
      refine g_put (cs' := [[((h 0), .inr (1, [.ref (h 1), .ref (h 2), .int (nI o), .int (nI (c + 1))])), ((h 1), .inl (v.2.1 4, 6, .inr (.inr (.inr (.inr (hpf pw)))))), ((h 2), .inl (v.2.1 5, 6, .inr (.inr (.inr (.inr (hpf bw))))))], cPg v a n f, cAs v b g, cPg v (pw 0) n f_1, cPg v (pw 1) (ns 1) (fs 1), cPg v (pw 2) (ns 2) (fs 2), cPg v (pw 3) (ns 3) (fs 3), cPg v (pw 4) (ns 4) (fs 4), cPg v (pw 5) (ns 5) (fs 5), cAs v (bw 0) g_3, cAs v (bw 1) (gs 1), cAs v (bw 2) (gs 2), cAs v (bw 3) (gs 3), cAs v (bw 4) (gs 4), cAs v (bw 5) (gs 5)]) X cb1 3 q_13_5 dX1_save_72 0 0 rfl rfl (by decide) rfl rfl (rfl) (rfl) (Nat.le_of_ble_eq_true rfl) rfl ?_
      exact E dX1_save_75 (by decide) (by decide) (⟨_, hU9 ns 0 n, hU9 fs 0 f_1, hU9 gs 0 g_3, HrR_put hH (by omega) hsl (HE_copy hW hR hL hG f_12 g_31), by rw [hC9, if_neg (by omega)]; rfl⟩)
    · refine g_aload_n X dX1_save_45 1 rfl rfl ?_
      refine g_get X cb1 0 q_4_1 dX1_save_46 0 0 rfl rfl (by decide) rfl rfl ?_
      refine g_iload_n X dX1_save_49 0 rfl rfl ?_
      refine g_aald 4 X dX1_save_50 0 1 rfl rfl rfl (by omega) (by omega) ?_
      show GG k _ _ _ _ _ (.ref (pw 1 0) :: _)
      refine g_aload_n X dX1_save_51 2 rfl rfl ?_
      refine g_callV (As := [.ref (a 0)]) (rest := []) (wr := [cHi9 v h pw bw o c, cAs v b g, cPg v (pw 0) (ns 0) (fs 0), cPg v (pw 2) (ns 2) (fs 2), cPg v (pw 3) (ns 3) (fs 3), cPg v (pw 4) (ns 4) (fs 4), cPg v (pw 5) (ns 5) (fs 5), cAs v (bw 0) (gs 0), cAs v (bw 1) (gs 1), cAs v (bw 2) (gs 2), cAs v (bw 3) (gs 3), cAs v (bw 4) (gs 4), cAs v (bw 5) (gs 5)]) X (c_X3_copyFrom l v (pw 1) (ns 1) (fs 1) a n f (by omega)) f_X3_copyFrom q_13_7 dX1_save_52 [4, 1] [0, 2, 3, 5, 6, 7, 8, 9, 10, 11, 12, 13, 14] rfl rfl (by decide) 0 rfl rfl rfl rfl (Nat.le_of_ble_eq_true rfl) (by decide) (fun r_ w_ hp6 => ?_)
      obtain ⟨f_5, f_52, rfl⟩ := hp6
      show GG k _ _ [cPg v (pw 1) n f_5, cPg v a n f, cHi9 v h pw bw o c, cAs v b g, cPg v (pw 0) (ns 0) (fs 0), cPg v (pw 2) (ns 2) (fs 2), cPg v (pw 3) (ns 3) (fs 3), cPg v (pw 4) (ns 4) (fs 4), cPg v (pw 5) (ns 5) (fs 5), cAs v (bw 0) (gs 0), cAs v (bw 1) (gs 1), cAs v (bw 2) (gs 2), cAs v (bw 3) (gs 3), cAs v (bw 4) (gs 4), cAs v (bw 5) (gs 5)] _ _ []
      refine g_pick (cs' := [cHi9 v h pw bw o c, cPg v a n f, cAs v b g, cPg v (pw 0) (ns 0) (fs 0), cPg v (pw 1) n f_5, cPg v (pw 2) (ns 2) (fs 2), cPg v (pw 3) (ns 3) (fs 3), cPg v (pw 4) (ns 4) (fs 4), cPg v (pw 5) (ns 5) (fs 5), cAs v (bw 0) (gs 0), cAs v (bw 1) (gs 1), cAs v (bw 2) (gs 2), cAs v (bw 3) (gs 3), cAs v (bw 4) (gs 4), cAs v (bw 5) (gs 5)]) [2, 1, 3, 4, 0, 5, 6, 7, 8, 9, 10, 11, 12, 13, 14] rfl rfl ?_
      refine g_aload_n X dX1_save_55 1 rfl rfl ?_
      refine g_get X cb1 1 q_4_3 dX1_save_56 0 0 rfl rfl (by decide) rfl rfl ?_
      refine g_iload_n X dX1_save_59 0 rfl rfl ?_
      refine g_aald 5 X dX1_save_60 0 2 rfl rfl rfl (by omega) (by omega) ?_
      show GG k _ _ _ _ _ (.ref (bw 1 0) :: _)
      refine g_aload_n X dX1_save_61 3 rfl rfl ?_
      refine g_callV (As := [.ref (b 0)]) (rest := []) (wr := [cHi9 v h pw bw o c, cPg v a n f, cPg v (pw 0) (ns 0) (fs 0), cPg v (pw 1) n f_5, cPg v (pw 2) (ns 2) (fs 2), cPg v (pw 3) (ns 3) (fs 3), cPg v (pw 4) (ns 4) (fs 4), cPg v (pw 5) (ns 5) (fs 5), cAs v (bw 0) (gs 0), cAs v (bw 2) (gs 2), cAs v (bw 3) (gs 3), cAs v (bw 4) (gs 4), cAs v (bw 5) (gs 5)]) X (c_X0_copyFrom l v (bw 1) (gs 1) b g) f_X0_copyFrom q_13_17 dX1_save_62 [10, 2] [0, 1, 3, 4, 5, 6, 7, 8, 9, 11, 12, 13, 14] rfl rfl (by decide) 0 rfl rfl rfl rfl (Nat.le_of_ble_eq_true rfl) (by decide) (fun r_ w_ hp8 => ?_)
      obtain ⟨g_7, g_71, rfl⟩ := hp8
      show GG k _ _ [cAs v (bw 1) g_7, cAs v b g, cHi9 v h pw bw o c, cPg v a n f, cPg v (pw 0) (ns 0) (fs 0), cPg v (pw 1) n f_5, cPg v (pw 2) (ns 2) (fs 2), cPg v (pw 3) (ns 3) (fs 3), cPg v (pw 4) (ns 4) (fs 4), cPg v (pw 5) (ns 5) (fs 5), cAs v (bw 0) (gs 0), cAs v (bw 2) (gs 2), cAs v (bw 3) (gs 3), cAs v (bw 4) (gs 4), cAs v (bw 5) (gs 5)] _ _ []
      refine g_pick (cs' := [cHi9 v h pw bw o c, cPg v a n f, cAs v b g, cPg v (pw 0) (ns 0) (fs 0), cPg v (pw 1) n f_5, cPg v (pw 2) (ns 2) (fs 2), cPg v (pw 3) (ns 3) (fs 3), cPg v (pw 4) (ns 4) (fs 4), cPg v (pw 5) (ns 5) (fs 5), cAs v (bw 0) (gs 0), cAs v (bw 1) g_7, cAs v (bw 2) (gs 2), cAs v (bw 3) (gs 3), cAs v (bw 4) (gs 4), cAs v (bw 5) (gs 5)]) [2, 3, 1, 4, 5, 6, 7, 8, 9, 10, 0, 11, 12, 13, 14] rfl rfl ?_
      refine g_aload_n X dX1_save_65 1 rfl rfl ?_
      refine g_dup X dX1_save_66 rfl ?_
      refine g_get X cb1 3 q_13_5 dX1_save_67 0 0 rfl rfl (by decide) rfl rfl ?_
      refine g_iconst (x := nI 1) X dX1_save_70 (by decide +kernel) ?_
      refine g_iaddN X dX1_save_71 ?_
      refine g_put (cs' := [[((h 0), .inr (1, [.ref (h 1), .ref (h 2), .int (nI o), .int (nI (c + 1))])), ((h 1), .inl (v.2.1 4, 6, .inr (.inr (.inr (.inr (hpf pw)))))), ((h 2), .inl (v.2.1 5, 6, .inr (.inr (.inr (.inr (hpf bw))))))], cPg v a n f, cAs v b g, cPg v (pw 0) (ns 0) (fs 0), cPg v (pw 1) n f_5, cPg v (pw 2) (ns 2) (fs 2), cPg v (pw 3) (ns 3) (fs 3), cPg v (pw 4) (ns 4) (fs 4), cPg v (pw 5) (ns 5) (fs 5), cAs v (bw 0) (gs 0), cAs v (bw 1) g_7, cAs v (bw 2) (gs 2), cAs v (bw 3) (gs 3), cAs v (bw 4) (gs 4), cAs v (bw 5) (gs 5)]) X cb1 3 q_13_5 dX1_save_72 0 0 rfl rfl (by decide) rfl rfl (rfl) (rfl) (Nat.le_of_ble_eq_true rfl) rfl ?_
      exact E dX1_save_75 (by decide) (by decide) (⟨_, hU9 ns 1 n, hU9 fs 1 f_5, hU9 gs 1 g_7, HrR_put hH (by omega) hsl (HE_copy hW hR hL hG f_52 g_71), by rw [hC9, if_neg (by omega)]; rfl⟩)
    · refine g_aload_n X dX1_save_45 1 rfl rfl ?_
      refine g_get X cb1 0 q_4_1 dX1_save_46 0 0 rfl rfl (by decide) rfl rfl ?_
      refine g_iload_n X dX1_save_49 0 rfl rfl ?_
      refine g_aald 4 X dX1_save_50 0 1 rfl rfl rfl (by omega) (by omega) ?_
      show GG k _ _ _ _ _ (.ref (pw 2 0) :: _)
      refine g_aload_n X dX1_save_51 2 rfl rfl ?_
      refine g_callV (As := [.ref (a 0)]) (rest := []) (wr := [cHi9 v h pw bw o c, cAs v b g, cPg v (pw 0) (ns 0) (fs 0), cPg v (pw 1) (ns 1) (fs 1), cPg v (pw 3) (ns 3) (fs 3), cPg v (pw 4) (ns 4) (fs 4), cPg v (pw 5) (ns 5) (fs 5), cAs v (bw 0) (gs 0), cAs v (bw 1) (gs 1), cAs v (bw 2) (gs 2), cAs v (bw 3) (gs 3), cAs v (bw 4) (gs 4), cAs v (bw 5) (gs 5)]) X (c_X3_copyFrom l v (pw 2) (ns 2) (fs 2) a n f (by omega)) f_X3_copyFrom q_13_7 dX1_save_52 [5, 1] [0, 2, 3, 4, 6, 7, 8, 9, 10, 11, 12, 13, 14] rfl rfl (by decide) 0 rfl rfl rfl rfl (Nat.le_of_ble_eq_true rfl) (by decide) (fun r_ w_ hp10 => ?_)
      obtain ⟨f_9, f_92, rfl⟩ := hp10
      show GG k _ _ [cPg v (pw 2) n f_9, cPg v a n f, cHi9 v h pw bw o c, cAs v b g, cPg v (pw 0) (ns 0) (fs 0), cPg v (pw 1) (ns 1) (fs 1), cPg v (pw 3) (ns 3) (fs 3), cPg v (pw 4) (ns 4) (fs 4), cPg v (pw 5) (ns 5) (fs 5), cAs v (bw 0) (gs 0), cAs v (bw 1) (gs 1), cAs v (bw 2) (gs 2), cAs v (bw 3) (gs 3), cAs v (bw 4) (gs 4), cAs v (bw 5) (gs 5)] _ _ []
      refine g_pick (cs' := [cHi9 v h pw bw o c, cPg v a n f, cAs v b g, cPg v (pw 0) (ns 0) (fs 0), cPg v (pw 1) (ns 1) (fs 1), cPg v (pw 2) n f_9, cPg v (pw 3) (ns 3) (fs 3), cPg v (pw 4) (ns 4) (fs 4), cPg v (pw 5) (ns 5) (fs 5), cAs v (bw 0) (gs 0), cAs v (bw 1) (gs 1), cAs v (bw 2) (gs 2), cAs v (bw 3) (gs 3), cAs v (bw 4) (gs 4), cAs v (bw 5) (gs 5)]) [2, 1, 3, 4, 5, 0, 6, 7, 8, 9, 10, 11, 12, 13, 14] rfl rfl ?_
      refine g_aload_n X dX1_save_55 1 rfl rfl ?_
      refine g_get X cb1 1 q_4_3 dX1_save_56 0 0 rfl rfl (by decide) rfl rfl ?_
      refine g_iload_n X dX1_save_59 0 rfl rfl ?_
      refine g_aald 5 X dX1_save_60 0 2 rfl rfl rfl (by omega) (by omega) ?_
      show GG k _ _ _ _ _ (.ref (bw 2 0) :: _)
      refine g_aload_n X dX1_save_61 3 rfl rfl ?_
      refine g_callV (As := [.ref (b 0)]) (rest := []) (wr := [cHi9 v h pw bw o c, cPg v a n f, cPg v (pw 0) (ns 0) (fs 0), cPg v (pw 1) (ns 1) (fs 1), cPg v (pw 2) n f_9, cPg v (pw 3) (ns 3) (fs 3), cPg v (pw 4) (ns 4) (fs 4), cPg v (pw 5) (ns 5) (fs 5), cAs v (bw 0) (gs 0), cAs v (bw 1) (gs 1), cAs v (bw 3) (gs 3), cAs v (bw 4) (gs 4), cAs v (bw 5) (gs 5)]) X (c_X0_copyFrom l v (bw 2) (gs 2) b g) f_X0_copyFrom q_13_17 dX1_save_62 [11, 2] [0, 1, 3, 4, 5, 6, 7, 8, 9, 10, 12, 13, 14] rfl rfl (by decide) 0 rfl rfl rfl rfl (Nat.le_of_ble_eq_true rfl) (by decide) (fun r_ w_ hp12 => ?_)
      obtain ⟨g_11, g_111, rfl⟩ := hp12
      show GG k _ _ [cAs v (bw 2) g_11, cAs v b g, cHi9 v h pw bw o c, cPg v a n f, cPg v (pw 0) (ns 0) (fs 0), cPg v (pw 1) (ns 1) (fs 1), cPg v (pw 2) n f_9, cPg v (pw 3) (ns 3) (fs 3), cPg v (pw 4) (ns 4) (fs 4), cPg v (pw 5) (ns 5) (fs 5), cAs v (bw 0) (gs 0), cAs v (bw 1) (gs 1), cAs v (bw 3) (gs 3), cAs v (bw 4) (gs 4), cAs v (bw 5) (gs 5)] _ _ []
      refine g_pick (cs' := [cHi9 v h pw bw o c, cPg v a n f, cAs v b g, cPg v (pw 0) (ns 0) (fs 0), cPg v (pw 1) (ns 1) (fs 1), cPg v (pw 2) n f_9, cPg v (pw 3) (ns 3) (fs 3), cPg v (pw 4) (ns 4) (fs 4), cPg v (pw 5) (ns 5) (fs 5), cAs v (bw 0) (gs 0), cAs v (bw 1) (gs 1), cAs v (bw 2) g_11, cAs v (bw 3) (gs 3), cAs v (bw 4) (gs 4), cAs v (bw 5) (gs 5)]) [2, 3, 1, 4, 5, 6, 7, 8, 9, 10, 11, 0, 12, 13, 14] rfl rfl ?_
      refine g_aload_n X dX1_save_65 1 rfl rfl ?_
      refine g_dup X dX1_save_66 rfl ?_
      refine g_get X cb1 3 q_13_5 dX1_save_67 0 0 rfl rfl (by decide) rfl rfl ?_
      refine g_iconst (x := nI 1) X dX1_save_70 (by decide +kernel) ?_
      refine g_iaddN X dX1_save_71 ?_
      refine g_put (cs' := [[((h 0), .inr (1, [.ref (h 1), .ref (h 2), .int (nI o), .int (nI (c + 1))])), ((h 1), .inl (v.2.1 4, 6, .inr (.inr (.inr (.inr (hpf pw)))))), ((h 2), .inl (v.2.1 5, 6, .inr (.inr (.inr (.inr (hpf bw))))))], cPg v a n f, cAs v b g, cPg v (pw 0) (ns 0) (fs 0), cPg v (pw 1) (ns 1) (fs 1), cPg v (pw 2) n f_9, cPg v (pw 3) (ns 3) (fs 3), cPg v (pw 4) (ns 4) (fs 4), cPg v (pw 5) (ns 5) (fs 5), cAs v (bw 0) (gs 0), cAs v (bw 1) (gs 1), cAs v (bw 2) g_11, cAs v (bw 3) (gs 3), cAs v (bw 4) (gs 4), cAs v (bw 5) (gs 5)]) X cb1 3 q_13_5 dX1_save_72 0 0 rfl rfl (by decide) rfl rfl (rfl) (rfl) (Nat.le_of_ble_eq_true rfl) rfl ?_
      exact E dX1_save_75 (by decide) (by decide) (⟨_, hU9 ns 2 n, hU9 fs 2 f_9, hU9 gs 2 g_11, HrR_put hH (by omega) hsl (HE_copy hW hR hL hG f_92 g_111), by rw [hC9, if_neg (by omega)]; rfl⟩)
    · refine g_aload_n X dX1_save_45 1 rfl rfl ?_
      refine g_get X cb1 0 q_4_1 dX1_save_46 0 0 rfl rfl (by decide) rfl rfl ?_
      refine g_iload_n X dX1_save_49 0 rfl rfl ?_
      refine g_aald 4 X dX1_save_50 0 1 rfl rfl rfl (by omega) (by omega) ?_
      show GG k _ _ _ _ _ (.ref (pw 3 0) :: _)
      refine g_aload_n X dX1_save_51 2 rfl rfl ?_
      refine g_callV (As := [.ref (a 0)]) (rest := []) (wr := [cHi9 v h pw bw o c, cAs v b g, cPg v (pw 0) (ns 0) (fs 0), cPg v (pw 1) (ns 1) (fs 1), cPg v (pw 2) (ns 2) (fs 2), cPg v (pw 4) (ns 4) (fs 4), cPg v (pw 5) (ns 5) (fs 5), cAs v (bw 0) (gs 0), cAs v (bw 1) (gs 1), cAs v (bw 2) (gs 2), cAs v (bw 3) (gs 3), cAs v (bw 4) (gs 4), cAs v (bw 5) (gs 5)]) X (c_X3_copyFrom l v (pw 3) (ns 3) (fs 3) a n f (by omega)) f_X3_copyFrom q_13_7 dX1_save_52 [6, 1] [0, 2, 3, 4, 5, 7, 8, 9, 10, 11, 12, 13, 14] rfl rfl (by decide) 0 rfl rfl rfl rfl (Nat.le_of_ble_eq_true rfl) (by decide) (fun r_ w_ hp14 => ?_)
      obtain ⟨f_13, f_132, rfl⟩ := hp14
      show GG k _ _ [cPg v (pw 3) n f_13, cPg v a n f, cHi9 v h pw bw o c, cAs v b g, cPg v (pw 0) (ns 0) (fs 0), cPg v (pw 1) (ns 1) (fs 1), cPg v (pw 2) (ns 2) (fs 2), cPg v (pw 4) (ns 4) (fs 4), cPg v (pw 5) (ns 5) (fs 5), cAs v (bw 0) (gs 0), cAs v (bw 1) (gs 1), cAs v (bw 2) (gs 2), cAs v (bw 3) (gs 3), cAs v (bw 4) (gs 4), cAs v (bw 5) (gs 5)] _ _ []
      refine g_pick (cs' := [cHi9 v h pw bw o c, cPg v a n f, cAs v b g, cPg v (pw 0) (ns 0) (fs 0), cPg v (pw 1) (ns 1) (fs 1), cPg v (pw 2) (ns 2) (fs 2), cPg v (pw 3) n f_13, cPg v (pw 4) (ns 4) (fs 4), cPg v (pw 5) (ns 5) (fs 5), cAs v (bw 0) (gs 0), cAs v (bw 1) (gs 1), cAs v (bw 2) (gs 2), cAs v (bw 3) (gs 3), cAs v (bw 4) (gs 4), cAs v (bw 5) (gs 5)]) [2, 1, 3, 4, 5, 6, 0, 7, 8, 9, 10, 11, 12, 13, 14] rfl rfl ?_
      refine g_aload_n X dX1_save_55 1 rfl rfl ?_
      refine g_get X cb1 1 q_4_3 dX1_save_56 0 0 rfl rfl (by decide) rfl rfl ?_
      refine g_iload_n X dX1_save_59 0 rfl rfl ?_
      refine g_aald 5 X dX1_save_60 0 2 rfl rfl rfl (by omega) (by omega) ?_
      show GG k _ _ _ _ _ (.ref (bw 3 0) :: _)
      refine g_aload_n X dX1_save_61 3 rfl rfl ?_
      refine g_callV (As := [.ref (b 0)]) (rest := []) (wr := [cHi9 v h pw bw o c, cPg v a n f, cPg v (pw 0) (ns 0) (fs 0), cPg v (pw 1) (ns 1) (fs 1), cPg v (pw 2) (ns 2) (fs 2), cPg v (pw 3) n f_13, cPg v (pw 4) (ns 4) (fs 4), cPg v (pw 5) (ns 5) (fs 5), cAs v (bw 0) (gs 0), cAs v (bw 1) (gs 1), cAs v (bw 2) (gs 2), cAs v (bw 4) (gs 4), cAs v (bw 5) (gs 5)]) X (c_X0_copyFrom l v (bw 3) (gs 3) b g) f_X0_copyFrom q_13_17 dX1_save_62 [12, 2] [0, 1, 3, 4, 5, 6, 7, 8, 9, 10, 11, 13, 14] rfl rfl (by decide) 0 rfl rfl rfl rfl (Nat.le_of_ble_eq_true rfl) (by decide) (fun r_ w_ hp16 => ?_)
      obtain ⟨g_15, g_151, rfl⟩ := hp16
      show GG k _ _ [cAs v (bw 3) g_15, cAs v b g, cHi9 v h pw bw o c, cPg v a n f, cPg v (pw 0) (ns 0) (fs 0), cPg v (pw 1) (ns 1) (fs 1), cPg v (pw 2) (ns 2) (fs 2), cPg v (pw 3) n f_13, cPg v (pw 4) (ns 4) (fs 4), cPg v (pw 5) (ns 5) (fs 5), cAs v (bw 0) (gs 0), cAs v (bw 1) (gs 1), cAs v (bw 2) (gs 2), cAs v (bw 4) (gs 4), cAs v (bw 5) (gs 5)] _ _ []
      refine g_pick (cs' := [cHi9 v h pw bw o c, cPg v a n f, cAs v b g, cPg v (pw 0) (ns 0) (fs 0), cPg v (pw 1) (ns 1) (fs 1), cPg v (pw 2) (ns 2) (fs 2), cPg v (pw 3) n f_13, cPg v (pw 4) (ns 4) (fs 4), cPg v (pw 5) (ns 5) (fs 5), cAs v (bw 0) (gs 0), cAs v (bw 1) (gs 1), cAs v (bw 2) (gs 2), cAs v (bw 3) g_15, cAs v (bw 4) (gs 4), cAs v (bw 5) (gs 5)]) [2, 3, 1, 4, 5, 6, 7, 8, 9, 10, 11, 12, 0, 13, 14] rfl rfl ?_
      refine g_aload_n X dX1_save_65 1 rfl rfl ?_
      refine g_dup X dX1_save_66 rfl ?_
      refine g_get X cb1 3 q_13_5 dX1_save_67 0 0 rfl rfl (by decide) rfl rfl ?_
      refine g_iconst (x := nI 1) X dX1_save_70 (by decide +kernel) ?_
      refine g_iaddN X dX1_save_71 ?_
      refine g_put (cs' := [[((h 0), .inr (1, [.ref (h 1), .ref (h 2), .int (nI o), .int (nI (c + 1))])), ((h 1), .inl (v.2.1 4, 6, .inr (.inr (.inr (.inr (hpf pw)))))), ((h 2), .inl (v.2.1 5, 6, .inr (.inr (.inr (.inr (hpf bw))))))], cPg v a n f, cAs v b g, cPg v (pw 0) (ns 0) (fs 0), cPg v (pw 1) (ns 1) (fs 1), cPg v (pw 2) (ns 2) (fs 2), cPg v (pw 3) n f_13, cPg v (pw 4) (ns 4) (fs 4), cPg v (pw 5) (ns 5) (fs 5), cAs v (bw 0) (gs 0), cAs v (bw 1) (gs 1), cAs v (bw 2) (gs 2), cAs v (bw 3) g_15, cAs v (bw 4) (gs 4), cAs v (bw 5) (gs 5)]) X cb1 3 q_13_5 dX1_save_72 0 0 rfl rfl (by decide) rfl rfl (rfl) (rfl) (Nat.le_of_ble_eq_true rfl) rfl ?_
      exact E dX1_save_75 (by decide) (by decide) (⟨_, hU9 ns 3 n, hU9 fs 3 f_13, hU9 gs 3 g_15, HrR_put hH (by omega) hsl (HE_copy hW hR hL hG f_132 g_151), by rw [hC9, if_neg (by omega)]; rfl⟩)
    · refine g_aload_n X dX1_save_45 1 rfl rfl ?_
      refine g_get X cb1 0 q_4_1 dX1_save_46 0 0 rfl rfl (by decide) rfl rfl ?_
      refine g_iload_n X dX1_save_49 0 rfl rfl ?_
      refine g_aald 4 X dX1_save_50 0 1 rfl rfl rfl (by omega) (by omega) ?_
      show GG k _ _ _ _ _ (.ref (pw 4 0) :: _)
      refine g_aload_n X dX1_save_51 2 rfl rfl ?_
      refine g_callV (As := [.ref (a 0)]) (rest := []) (wr := [cHi9 v h pw bw o c, cAs v b g, cPg v (pw 0) (ns 0) (fs 0), cPg v (pw 1) (ns 1) (fs 1), cPg v (pw 2) (ns 2) (fs 2), cPg v (pw 3) (ns 3) (fs 3), cPg v (pw 5) (ns 5) (fs 5), cAs v (bw 0) (gs 0), cAs v (bw 1) (gs 1), cAs v (bw 2) (gs 2), cAs v (bw 3) (gs 3), cAs v (bw 4) (gs 4), cAs v (bw 5) (gs 5)]) X (c_X3_copyFrom l v (pw 4) (ns 4) (fs 4) a n f (by omega)) f_X3_copyFrom q_13_7 dX1_save_52 [7, 1] [0, 2, 3, 4, 5, 6, 8, 9, 10, 11, 12, 13, 14] rfl rfl (by decide) 0 rfl rfl rfl rfl (Nat.le_of_ble_eq_true rfl) (by decide) (fun r_ w_ hp18 => ?_)
      obtain ⟨f_17, f_172, rfl⟩ := hp18
      show GG k _ _ [cPg v (pw 4) n f_17, cPg v a n f, cHi9 v h pw bw o c, cAs v b g, cPg v (pw 0) (ns 0) (fs 0), cPg v (pw 1) (ns 1) (fs 1), cPg v (pw 2) (ns 2) (fs 2), cPg v (pw 3) (ns 3) (fs 3), cPg v (pw 5) (ns 5) (fs 5), cAs v (bw 0) (gs 0), cAs v (bw 1) (gs 1), cAs v (bw 2) (gs 2), cAs v (bw 3) (gs 3), cAs v (bw 4) (gs 4), cAs v (bw 5) (gs 5)] _ _ []
      refine g_pick (cs' := [cHi9 v h pw bw o c, cPg v a n f, cAs v b g, cPg v (pw 0) (ns 0) (fs 0), cPg v (pw 1) (ns 1) (fs 1), cPg v (pw 2) (ns 2) (fs 2), cPg v (pw 3) (ns 3) (fs 3), cPg v (pw 4) n f_17, cPg v (pw 5) (ns 5) (fs 5), cAs v (bw 0) (gs 0), cAs v (bw 1) (gs 1), cAs v (bw 2) (gs 2), cAs v (bw 3) (gs 3), cAs v (bw 4) (gs 4), cAs v (bw 5) (gs 5)]) [2, 1, 3, 4, 5, 6, 7, 0, 8, 9, 10, 11, 12, 13, 14] rfl rfl ?_
      refine g_aload_n X dX1_save_55 1 rfl rfl ?_
      refine g_get X cb1 1 q_4_3 dX1_save_56 0 0 rfl rfl (by decide) rfl rfl ?_
      refine g_iload_n X dX1_save_59 0 rfl rfl ?_
      refine g_aald 5 X dX1_save_60 0 2 rfl rfl rfl (by omega) (by omega) ?_
      show GG k _ _ _ _ _ (.ref (bw 4 0) :: _)
      refine g_aload_n X dX1_save_61 3 rfl rfl ?_
      refine g_callV (As := [.ref (b 0)]) (rest := []) (wr := [cHi9 v h pw bw o c, cPg v a n f, cPg v (pw 0) (ns 0) (fs 0), cPg v (pw 1) (ns 1) (fs 1), cPg v (pw 2) (ns 2) (fs 2), cPg v (pw 3) (ns 3) (fs 3), cPg v (pw 4) n f_17, cPg v (pw 5) (ns 5) (fs 5), cAs v (bw 0) (gs 0), cAs v (bw 1) (gs 1), cAs v (bw 2) (gs 2), cAs v (bw 3) (gs 3), cAs v (bw 5) (gs 5)]) X (c_X0_copyFrom l v (bw 4) (gs 4) b g) f_X0_copyFrom q_13_17 dX1_save_62 [13, 2] [0, 1, 3, 4, 5, 6, 7, 8, 9, 10, 11, 12, 14] rfl rfl (by decide) 0 rfl rfl rfl rfl (Nat.le_of_ble_eq_true rfl) (by decide) (fun r_ w_ hp20 => ?_)
      obtain ⟨g_19, g_191, rfl⟩ := hp20
      show GG k _ _ [cAs v (bw 4) g_19, cAs v b g, cHi9 v h pw bw o c, cPg v a n f, cPg v (pw 0) (ns 0) (fs 0), cPg v (pw 1) (ns 1) (fs 1), cPg v (pw 2) (ns 2) (fs 2), cPg v (pw 3) (ns 3) (fs 3), cPg v (pw 4) n f_17, cPg v (pw 5) (ns 5) (fs 5), cAs v (bw 0) (gs 0), cAs v (bw 1) (gs 1), cAs v (bw 2) (gs 2), cAs v (bw 3) (gs 3), cAs v (bw 5) (gs 5)] _ _ []
      refine g_pick (cs' := [cHi9 v h pw bw o c, cPg v a n f, cAs v b g, cPg v (pw 0) (ns 0) (fs 0), cPg v (pw 1) (ns 1) (fs 1), cPg v (pw 2) (ns 2) (fs 2), cPg v (pw 3) (ns 3) (fs 3), cPg v (pw 4) n f_17, cPg v (pw 5) (ns 5) (fs 5), cAs v (bw 0) (gs 0), cAs v (bw 1) (gs 1), cAs v (bw 2) (gs 2), cAs v (bw 3) (gs 3), cAs v (bw 4) g_19, cAs v (bw 5) (gs 5)]) [2, 3, 1, 4, 5, 6, 7, 8, 9, 10, 11, 12, 13, 0, 14] rfl rfl ?_
      refine g_aload_n X dX1_save_65 1 rfl rfl ?_
      refine g_dup X dX1_save_66 rfl ?_
      refine g_get X cb1 3 q_13_5 dX1_save_67 0 0 rfl rfl (by decide) rfl rfl ?_
      refine g_iconst (x := nI 1) X dX1_save_70 (by decide +kernel) ?_
      refine g_iaddN X dX1_save_71 ?_
      refine g_put (cs' := [[((h 0), .inr (1, [.ref (h 1), .ref (h 2), .int (nI o), .int (nI (c + 1))])), ((h 1), .inl (v.2.1 4, 6, .inr (.inr (.inr (.inr (hpf pw)))))), ((h 2), .inl (v.2.1 5, 6, .inr (.inr (.inr (.inr (hpf bw))))))], cPg v a n f, cAs v b g, cPg v (pw 0) (ns 0) (fs 0), cPg v (pw 1) (ns 1) (fs 1), cPg v (pw 2) (ns 2) (fs 2), cPg v (pw 3) (ns 3) (fs 3), cPg v (pw 4) n f_17, cPg v (pw 5) (ns 5) (fs 5), cAs v (bw 0) (gs 0), cAs v (bw 1) (gs 1), cAs v (bw 2) (gs 2), cAs v (bw 3) (gs 3), cAs v (bw 4) g_19, cAs v (bw 5) (gs 5)]) X cb1 3 q_13_5 dX1_save_72 0 0 rfl rfl (by decide) rfl rfl (rfl) (rfl) (Nat.le_of_ble_eq_true rfl) rfl ?_
      exact E dX1_save_75 (by decide) (by decide) (⟨_, hU9 ns 4 n, hU9 fs 4 f_17, hU9 gs 4 g_19, HrR_put hH (by omega) hsl (HE_copy hW hR hL hG f_172 g_191), by rw [hC9, if_neg (by omega)]; rfl⟩)
    · refine g_aload_n X dX1_save_45 1 rfl rfl ?_
      refine g_get X cb1 0 q_4_1 dX1_save_46 0 0 rfl rfl (by decide) rfl rfl ?_
      refine g_iload_n X dX1_save_49 0 rfl rfl ?_
      refine g_aald 4 X dX1_save_50 0 1 rfl rfl rfl (by omega) (by omega) ?_
      show GG k _ _ _ _ _ (.ref (pw 5 0) :: _)
      refine g_aload_n X dX1_save_51 2 rfl rfl ?_
      refine g_callV (As := [.ref (a 0)]) (rest := []) (wr := [cHi9 v h pw bw o c, cAs v b g, cPg v (pw 0) (ns 0) (fs 0), cPg v (pw 1) (ns 1) (fs 1), cPg v (pw 2) (ns 2) (fs 2), cPg v (pw 3) (ns 3) (fs 3), cPg v (pw 4) (ns 4) (fs 4), cAs v (bw 0) (gs 0), cAs v (bw 1) (gs 1), cAs v (bw 2) (gs 2), cAs v (bw 3) (gs 3), cAs v (bw 4) (gs 4), cAs v (bw 5) (gs 5)]) X (c_X3_copyFrom l v (pw 5) (ns 5) (fs 5) a n f (by omega)) f_X3_copyFrom q_13_7 dX1_save_52 [8, 1] [0, 2, 3, 4, 5, 6, 7, 9, 10, 11, 12, 13, 14] rfl rfl (by decide) 0 rfl rfl rfl rfl (Nat.le_of_ble_eq_true rfl) (by decide) (fun r_ w_ hp22 => ?_)
      obtain ⟨f_21, f_212, rfl⟩ := hp22
      show GG k _ _ [cPg v (pw 5) n f_21, cPg v a n f, cHi9 v h pw bw o c, cAs v b g, cPg v (pw 0) (ns 0) (fs 0), cPg v (pw 1) (ns 1) (fs 1), cPg v (pw 2) (ns 2) (fs 2), cPg v (pw 3) (ns 3) (fs 3), cPg v (pw 4) (ns 4) (fs 4), cAs v (bw 0) (gs 0), cAs v (bw 1) (gs 1), cAs v (bw 2) (gs 2), cAs v (bw 3) (gs 3), cAs v (bw 4) (gs 4), cAs v (bw 5) (gs 5)] _ _ []
      refine g_pick (cs' := [cHi9 v h pw bw o c, cPg v a n f, cAs v b g, cPg v (pw 0) (ns 0) (fs 0), cPg v (pw 1) (ns 1) (fs 1), cPg v (pw 2) (ns 2) (fs 2), cPg v (pw 3) (ns 3) (fs 3), cPg v (pw 4) (ns 4) (fs 4), cPg v (pw 5) n f_21, cAs v (bw 0) (gs 0), cAs v (bw 1) (gs 1), cAs v (bw 2) (gs 2), cAs v (bw 3) (gs 3), cAs v (bw 4) (gs 4), cAs v (bw 5) (gs 5)]) [2, 1, 3, 4, 5, 6, 7, 8, 0, 9, 10, 11, 12, 13, 14] rfl rfl ?_
      refine g_aload_n X dX1_save_55 1 rfl rfl ?_
      refine g_get X cb1 1 q_4_3 dX1_save_56 0 0 rfl rfl (by decide) rfl rfl ?_
      refine g_iload_n X dX1_save_59 0 rfl rfl ?_
      refine g_aald 5 X dX1_save_60 0 2 rfl rfl rfl (by omega) (by omega) ?_
      show GG k _ _ _ _ _ (.ref (bw 5 0) :: _)
      refine g_aload_n X dX1_save_61 3 rfl rfl ?_
      refine g_callV (As := [.ref (b 0)]) (rest := []) (wr := [cHi9 v h pw bw o c, cPg v a n f, cPg v (pw 0) (ns 0) (fs 0), cPg v (pw 1) (ns 1) (fs 1), cPg v (pw 2) (ns 2) (fs 2), cPg v (pw 3) (ns 3) (fs 3), cPg v (pw 4) (ns 4) (fs 4), cPg v (pw 5) n f_21, cAs v (bw 0) (gs 0), cAs v (bw 1) (gs 1), cAs v (bw 2) (gs 2), cAs v (bw 3) (gs 3), cAs v (bw 4) (gs 4)]) X (c_X0_copyFrom l v (bw 5) (gs 5) b g) f_X0_copyFrom q_13_17 dX1_save_62 [14, 2] [0, 1, 3, 4, 5, 6, 7, 8, 9, 10, 11, 12, 13] rfl rfl (by decide) 0 rfl rfl rfl rfl (Nat.le_of_ble_eq_true rfl) (by decide) (fun r_ w_ hp24 => ?_)
      obtain ⟨g_23, g_231, rfl⟩ := hp24
      show GG k _ _ [cAs v (bw 5) g_23, cAs v b g, cHi9 v h pw bw o c, cPg v a n f, cPg v (pw 0) (ns 0) (fs 0), cPg v (pw 1) (ns 1) (fs 1), cPg v (pw 2) (ns 2) (fs 2), cPg v (pw 3) (ns 3) (fs 3), cPg v (pw 4) (ns 4) (fs 4), cPg v (pw 5) n f_21, cAs v (bw 0) (gs 0), cAs v (bw 1) (gs 1), cAs v (bw 2) (gs 2), cAs v (bw 3) (gs 3), cAs v (bw 4) (gs 4)] _ _ []
      refine g_pick (cs' := [cHi9 v h pw bw o c, cPg v a n f, cAs v b g, cPg v (pw 0) (ns 0) (fs 0), cPg v (pw 1) (ns 1) (fs 1), cPg v (pw 2) (ns 2) (fs 2), cPg v (pw 3) (ns 3) (fs 3), cPg v (pw 4) (ns 4) (fs 4), cPg v (pw 5) n f_21, cAs v (bw 0) (gs 0), cAs v (bw 1) (gs 1), cAs v (bw 2) (gs 2), cAs v (bw 3) (gs 3), cAs v (bw 4) (gs 4), cAs v (bw 5) g_23]) [2, 3, 1, 4, 5, 6, 7, 8, 9, 10, 11, 12, 13, 14, 0] rfl rfl ?_
      refine g_aload_n X dX1_save_65 1 rfl rfl ?_
      refine g_dup X dX1_save_66 rfl ?_
      refine g_get X cb1 3 q_13_5 dX1_save_67 0 0 rfl rfl (by decide) rfl rfl ?_
      refine g_iconst (x := nI 1) X dX1_save_70 (by decide +kernel) ?_
      refine g_iaddN X dX1_save_71 ?_
      refine g_put (cs' := [[((h 0), .inr (1, [.ref (h 1), .ref (h 2), .int (nI o), .int (nI (c + 1))])), ((h 1), .inl (v.2.1 4, 6, .inr (.inr (.inr (.inr (hpf pw)))))), ((h 2), .inl (v.2.1 5, 6, .inr (.inr (.inr (.inr (hpf bw))))))], cPg v a n f, cAs v b g, cPg v (pw 0) (ns 0) (fs 0), cPg v (pw 1) (ns 1) (fs 1), cPg v (pw 2) (ns 2) (fs 2), cPg v (pw 3) (ns 3) (fs 3), cPg v (pw 4) (ns 4) (fs 4), cPg v (pw 5) n f_21, cAs v (bw 0) (gs 0), cAs v (bw 1) (gs 1), cAs v (bw 2) (gs 2), cAs v (bw 3) (gs 3), cAs v (bw 4) (gs 4), cAs v (bw 5) g_23]) X cb1 3 q_13_5 dX1_save_72 0 0 rfl rfl (by decide) rfl rfl (rfl) (rfl) (Nat.le_of_ble_eq_true rfl) rfl ?_
      exact E dX1_save_75 (by decide) (by decide) (⟨_, hU9 ns 5 n, hU9 fs 5 f_21, hU9 gs 5 g_23, HrR_put hH (by omega) hsl (HE_copy hW hR hL hG f_212 g_231), by rw [hC9, if_neg (by omega)]; rfl⟩)
  · have hc6 : c = 6 := c6
    subst hc6
    have hc6 : (6 : Nat) = 6 := rfl
    refine g_aload_n X dX1_save_9 0 rfl rfl ?_
    refine g_aload_n X dX1_save_10 0 rfl rfl ?_
    refine g_get X cb1 2 q_13_6 dX1_save_11 0 0 rfl rfl (by decide) rfl rfl ?_
    refine g_iconst (x := nI 1) X dX1_save_14 (by decide +kernel) ?_
    refine g_iaddN X dX1_save_15 ?_
    refine g_bipush (x := nI 6) X dX1_save_16 (by decide +kernel) ?_
    refine g_iremN X dX1_save_18 (by omega) (by omega) (by omega) ?_
    refine g_put (cs' := [[((h 0), .inr (1, [.ref (h 1), .ref (h 2), .int (nI ((o + 1) % 6)), .int (nI 6)])), ((h 1), .inl (v.2.1 4, 6, .inr (.inr (.inr (.inr (hpf pw)))))), ((h 2), .inl (v.2.1 5, 6, .inr (.inr (.inr (.inr (hpf bw))))))], cPg v a n f, cAs v b g, cPg v (pw 0) (ns 0) (fs 0), cPg v (pw 1) (ns 1) (fs 1), cPg v (pw 2) (ns 2) (fs 2), cPg v (pw 3) (ns 3) (fs 3), cPg v (pw 4) (ns 4) (fs 4), cPg v (pw 5) (ns 5) (fs 5), cAs v (bw 0) (gs 0), cAs v (bw 1) (gs 1), cAs v (bw 2) (gs 2), cAs v (bw 3) (gs 3), cAs v (bw 4) (gs 4), cAs v (bw 5) (gs 5)]) X cb1 2 q_13_6 dX1_save_19 0 0 rfl rfl (by decide) rfl rfl (rfl) (rfl) (Nat.le_of_ble_eq_true rfl) rfl ?_
    refine g_aload_n X dX1_save_22 0 rfl rfl ?_
    refine g_dup X dX1_save_23 rfl ?_
    refine g_get X cb1 3 q_13_5 dX1_save_24 0 0 rfl rfl (by decide) rfl rfl ?_
    refine g_iconst (x := nI 1) X dX1_save_27 (by decide +kernel) ?_
    refine g_isubN X dX1_save_28 (by omega) ?_
    refine g_v (y := nI 5) (rfl) ?_
    refine g_put (cs' := [[((h 0), .inr (1, [.ref (h 1), .ref (h 2), .int (nI ((o + 1) % 6)), .int (nI 5)])), ((h 1), .inl (v.2.1 4, 6, .inr (.inr (.inr (.inr (hpf pw)))))), ((h 2), .inl (v.2.1 5, 6, .inr (.inr (.inr (.inr (hpf bw))))))], cPg v a n f, cAs v b g, cPg v (pw 0) (ns 0) (fs 0), cPg v (pw 1) (ns 1) (fs 1), cPg v (pw 2) (ns 2) (fs 2), cPg v (pw 3) (ns 3) (fs 3), cPg v (pw 4) (ns 4) (fs 4), cPg v (pw 5) (ns 5) (fs 5), cAs v (bw 0) (gs 0), cAs v (bw 1) (gs 1), cAs v (bw 2) (gs 2), cAs v (bw 3) (gs 3), cAs v (bw 4) (gs 4), cAs v (bw 5) (gs 5)]) X cb1 3 q_13_5 dX1_save_29 0 0 rfl rfl (by decide) rfl rfl (rfl) (rfl) (Nat.le_of_ble_eq_true rfl) rfl ?_
    refine g_aload_n X dX1_save_32 0 rfl rfl ?_
    refine g_get X cb1 2 q_13_6 dX1_save_33 0 0 rfl rfl (by decide) rfl rfl ?_
    refine g_aload_n X dX1_save_36 0 rfl rfl ?_
    refine g_get X cb1 3 q_13_5 dX1_save_37 0 0 rfl rfl (by decide) rfl rfl ?_
    refine g_iaddN X dX1_save_40 ?_
    refine g_bipush (x := nI 6) X dX1_save_41 (by decide +kernel) ?_
    refine g_iremN X dX1_save_43 (by omega) (by omega) (by omega) ?_
    refine g_istore_n (lv' := [(3, .int (nI ((((o + 1) % 6) + 5) % 6))), (0, .ref (h 0)), (1, .ref (a 0)), (2, .ref (b 0))]) X dX1_save_44 rfl (by decide) rfl ?_
    obtain ⟨sl9, hsl, hs6⟩ : ∃ s9, s9 = (((o + 1) % 6) + 5) % 6 ∧ s9 < 6 := ⟨_, rfl, Nat.mod_lt _ (by decide)⟩
    rw [← hsl]
    rcases (show sl9 = 0 ∨ sl9 = 1 ∨ sl9 = 2 ∨ sl9 = 3 ∨ sl9 = 4 ∨ sl9 = 5 by omega) with rfl | rfl | rfl | rfl | rfl | rfl
    · refine g_aload_n X dX1_save_45 1 rfl rfl ?_
      refine g_get X cb1 0 q_4_1 dX1_save_46 0 0 rfl rfl (by decide) rfl rfl ?_
      refine g_iload_n X dX1_save_49 0 rfl rfl ?_
      refine g_aald 4 X dX1_save_50 0 1 rfl rfl rfl (by omega) (by omega) ?_
      show GG k _ _ _ _ _ (.ref (pw 0 0) :: _)
      refine g_aload_n X dX1_save_51 2 rfl rfl ?_
      refine g_callV (As := [.ref (a 0)]) (rest := []) (wr := [[((h 0), .inr (1, [.ref (h 1), .ref (h 2), .int (nI ((o + 1) % 6)), .int (nI 5)])), ((h 1), .inl (v.2.1 4, 6, .inr (.inr (.inr (.inr (hpf pw)))))), ((h 2), .inl (v.2.1 5, 6, .inr (.inr (.inr (.inr (hpf bw))))))], cAs v b g, cPg v (pw 1) (ns 1) (fs 1), cPg v (pw 2) (ns 2) (fs 2), cPg v (pw 3) (ns 3) (fs 3), cPg v (pw 4) (ns 4) (fs 4), cPg v (pw 5) (ns 5) (fs 5), cAs v (bw 0) (gs 0), cAs v (bw 1) (gs 1), cAs v (bw 2) (gs 2), cAs v (bw 3) (gs 3), cAs v (bw 4) (gs 4), cAs v (bw 5) (gs 5)]) X (c_X3_copyFrom l v (pw 0) (ns 0) (fs 0) a n f (by omega)) f_X3_copyFrom q_13_7 dX1_save_52 [3, 1] [0, 2, 4, 5, 6, 7, 8, 9, 10, 11, 12, 13, 14] rfl rfl (by decide) 0 rfl rfl rfl rfl (Nat.le_of_ble_eq_true rfl) (by decide) (fun r_ w_ hp26 => ?_)
      obtain ⟨f_25, f_252, rfl⟩ := hp26
      show GG k _ _ [cPg v (pw 0) n f_25, cPg v a n f, [((h 0), .inr (1, [.ref (h 1), .ref (h 2), .int (nI ((o + 1) % 6)), .int (nI 5)])), ((h 1), .inl (v.2.1 4, 6, .inr (.inr (.inr (.inr (hpf pw)))))), ((h 2), .inl (v.2.1 5, 6, .inr (.inr (.inr (.inr (hpf bw))))))], cAs v b g, cPg v (pw 1) (ns 1) (fs 1), cPg v (pw 2) (ns 2) (fs 2), cPg v (pw 3) (ns 3) (fs 3), cPg v (pw 4) (ns 4) (fs 4), cPg v (pw 5) (ns 5) (fs 5), cAs v (bw 0) (gs 0), cAs v (bw 1) (gs 1), cAs v (bw 2) (gs 2), cAs v (bw 3) (gs 3), cAs v (bw 4) (gs 4), cAs v (bw 5) (gs 5)] _ _ []
      refine g_pick (cs' := [[((h 0), .inr (1, [.ref (h 1), .ref (h 2), .int (nI ((o + 1) % 6)), .int (nI 5)])), ((h 1), .inl (v.2.1 4, 6, .inr (.inr (.inr (.inr (hpf pw)))))), ((h 2), .inl (v.2.1 5, 6, .inr (.inr (.inr (.inr (hpf bw))))))], cPg v a n f, cAs v b g, cPg v (pw 0) n f_25, cPg v (pw 1) (ns 1) (fs 1), cPg v (pw 2) (ns 2) (fs 2), cPg v (pw 3) (ns 3) (fs 3), cPg v (pw 4) (ns 4) (fs 4), cPg v (pw 5) (ns 5) (fs 5), cAs v (bw 0) (gs 0), cAs v (bw 1) (gs 1), cAs v (bw 2) (gs 2), cAs v (bw 3) (gs 3), cAs v (bw 4) (gs 4), cAs v (bw 5) (gs 5)]) [2, 1, 3, 0, 4, 5, 6, 7, 8, 9, 10, 11, 12, 13, 14] rfl rfl ?_
      refine g_aload_n X dX1_save_55 1 rfl rfl ?_
      refine g_get X cb1 1 q_4_3 dX1_save_56 0 0 rfl rfl (by decide) rfl rfl ?_
      refine g_iload_n X dX1_save_59 0 rfl rfl ?_
      refine g_aald 5 X dX1_save_60 0 2 rfl rfl rfl (by omega) (by omega) ?_
      show GG k _ _ _ _ _ (.ref (bw 0 0) :: _)
      refine g_aload_n X dX1_save_61 3 rfl rfl ?_
      refine g_callV (As := [.ref (b 0)]) (rest := []) (wr := [[((h 0), .inr (1, [.ref (h 1), .ref (h 2), .int (nI ((o + 1) % 6)), .int (nI 5)])), ((h 1), .inl (v.2.1 4, 6, .inr (.inr (.inr (.inr (hpf pw)))))), ((h 2), .inl (v.2.1 5, 6, .inr (.inr (.inr (.inr (hpf bw))))))], cPg v a n f, cPg v (pw 0) n f_25, cPg v (pw 1) (ns 1) (fs 1), cPg v (pw 2) (ns 2) (fs 2), cPg v (pw 3) (ns 3) (fs 3), cPg v (pw 4) (ns 4) (fs 4), cPg v (pw 5) (ns 5) (fs 5), cAs v (bw 1) (gs 1), cAs v (bw 2) (gs 2), cAs v (bw 3) (gs 3), cAs v (bw 4) (gs 4), cAs v (bw 5) (gs 5)]) X (c_X0_copyFrom l v (bw 0) (gs 0) b g) f_X0_copyFrom q_13_17 dX1_save_62 [9, 2] [0, 1, 3, 4, 5, 6, 7, 8, 10, 11, 12, 13, 14] rfl rfl (by decide) 0 rfl rfl rfl rfl (Nat.le_of_ble_eq_true rfl) (by decide) (fun r_ w_ hp28 => ?_)
      obtain ⟨g_27, g_271, rfl⟩ := hp28
      show GG k _ _ [cAs v (bw 0) g_27, cAs v b g, [((h 0), .inr (1, [.ref (h 1), .ref (h 2), .int (nI ((o + 1) % 6)), .int (nI 5)])), ((h 1), .inl (v.2.1 4, 6, .inr (.inr (.inr (.inr (hpf pw)))))), ((h 2), .inl (v.2.1 5, 6, .inr (.inr (.inr (.inr (hpf bw))))))], cPg v a n f, cPg v (pw 0) n f_25, cPg v (pw 1) (ns 1) (fs 1), cPg v (pw 2) (ns 2) (fs 2), cPg v (pw 3) (ns 3) (fs 3), cPg v (pw 4) (ns 4) (fs 4), cPg v (pw 5) (ns 5) (fs 5), cAs v (bw 1) (gs 1), cAs v (bw 2) (gs 2), cAs v (bw 3) (gs 3), cAs v (bw 4) (gs 4), cAs v (bw 5) (gs 5)] _ _ []
      refine g_pick (cs' := [[((h 0), .inr (1, [.ref (h 1), .ref (h 2), .int (nI ((o + 1) % 6)), .int (nI 5)])), ((h 1), .inl (v.2.1 4, 6, .inr (.inr (.inr (.inr (hpf pw)))))), ((h 2), .inl (v.2.1 5, 6, .inr (.inr (.inr (.inr (hpf bw))))))], cPg v a n f, cAs v b g, cPg v (pw 0) n f_25, cPg v (pw 1) (ns 1) (fs 1), cPg v (pw 2) (ns 2) (fs 2), cPg v (pw 3) (ns 3) (fs 3), cPg v (pw 4) (ns 4) (fs 4), cPg v (pw 5) (ns 5) (fs 5), cAs v (bw 0) g_27, cAs v (bw 1) (gs 1), cAs v (bw 2) (gs 2), cAs v (bw 3) (gs 3), cAs v (bw 4) (gs 4), cAs v (bw 5) (gs 5)]) [2, 3, 1, 4, 5, 6, 7, 8, 9, 0, 10, 11, 12, 13, 14] rfl rfl ?_
      refine g_aload_n X dX1_save_65 1 rfl rfl ?_
      refine g_dup X dX1_save_66 rfl ?_
      refine g_get X cb1 3 q_13_5 dX1_save_67 0 0 rfl rfl (by decide) rfl rfl ?_
      refine g_iconst (x := nI 1) X dX1_save_70 (by decide +kernel) ?_
      refine g_iaddN X dX1_save_71 ?_
      refine g_put (cs' := [[((h 0), .inr (1, [.ref (h 1), .ref (h 2), .int (nI ((o + 1) % 6)), .int (nI (5 + 1))])), ((h 1), .inl (v.2.1 4, 6, .inr (.inr (.inr (.inr (hpf pw)))))), ((h 2), .inl (v.2.1 5, 6, .inr (.inr (.inr (.inr (hpf bw))))))], cPg v a n f, cAs v b g, cPg v (pw 0) n f_25, cPg v (pw 1) (ns 1) (fs 1), cPg v (pw 2) (ns 2) (fs 2), cPg v (pw 3) (ns 3) (fs 3), cPg v (pw 4) (ns 4) (fs 4), cPg v (pw 5) (ns 5) (fs 5), cAs v (bw 0) g_27, cAs v (bw 1) (gs 1), cAs v (bw 2) (gs 2), cAs v (bw 3) (gs 3), cAs v (bw 4) (gs 4), cAs v (bw 5) (gs 5)]) X cb1 3 q_13_5 dX1_save_72 0 0 rfl rfl (by decide) rfl rfl (rfl) (rfl) (Nat.le_of_ble_eq_true rfl) rfl ?_
      exact E dX1_save_75 (by decide) (by decide) (⟨_, hU9 ns 0 n, hU9 fs 0 f_25, hU9 gs 0 g_27, HrR_full hH hc6 hsl (HE_copy hW hR hL hG f_252 g_271), by rw [hC9, if_pos hc6]; rfl⟩)
    · refine g_aload_n X dX1_save_45 1 rfl rfl ?_
      refine g_get X cb1 0 q_4_1 dX1_save_46 0 0 rfl rfl (by decide) rfl rfl ?_
      refine g_iload_n X dX1_save_49 0 rfl rfl ?_
      refine g_aald 4 X dX1_save_50 0 1 rfl rfl rfl (by omega) (by omega) ?_
      show GG k _ _ _ _ _ (.ref (pw 1 0) :: _)
      refine g_aload_n X dX1_save_51 2 rfl rfl ?_
      refine g_callV (As := [.ref (a 0)]) (rest := []) (wr := [[((h 0), .inr (1, [.ref (h 1), .ref (h 2), .int (nI ((o + 1) % 6)), .int (nI 5)])), ((h 1), .inl (v.2.1 4, 6, .inr (.inr (.inr (.inr (hpf pw)))))), ((h 2), .inl (v.2.1 5, 6, .inr (.inr (.inr (.inr (hpf bw))))))], cAs v b g, cPg v (pw 0) (ns 0) (fs 0), cPg v (pw 2) (ns 2) (fs 2), cPg v (pw 3) (ns 3) (fs 3), cPg v (pw 4) (ns 4) (fs 4), cPg v (pw 5) (ns 5) (fs 5), cAs v (bw 0) (gs 0), cAs v (bw 1) (gs 1), cAs v (bw 2) (gs 2), cAs v (bw 3) (gs 3), cAs v (bw 4) (gs 4), cAs v (bw 5) (gs 5)]) X (c_X3_copyFrom l v (pw 1) (ns 1) (fs 1) a n f (by omega)) f_X3_copyFrom q_13_7 dX1_save_52 [4, 1] [0, 2, 3, 5, 6, 7, 8, 9, 10, 11, 12, 13, 14] rfl rfl (by decide) 0 rfl rfl rfl rfl (Nat.le_of_ble_eq_true rfl) (by decide) (fun r_ w_ hp30 => ?_)
      obtain ⟨f_29, f_292, rfl⟩ := hp30
      show GG k _ _ [cPg v (pw 1) n f_29, cPg v a n f, [((h 0), .inr (1, [.ref (h 1), .ref (h 2), .int (nI ((o + 1) % 6)), .int (nI 5)])), ((h 1), .inl (v.2.1 4, 6, .inr (.inr (.inr (.inr (hpf pw)))))), ((h 2), .inl (v.2.1 5, 6, .inr (.inr (.inr (.inr (hpf bw))))))], cAs v b g, cPg v (pw 0) (ns 0) (fs 0), cPg v (pw 2) (ns 2) (fs 2), cPg v (pw 3) (ns 3) (fs 3), cPg v (pw 4) (ns 4) (fs 4), cPg v (pw 5) (ns 5) (fs 5), cAs v (bw 0) (gs 0), cAs v (bw 1) (gs 1), cAs v (bw 2) (gs 2), cAs v (bw 3) (gs 3), cAs v (bw 4) (gs 4), cAs v (bw 5) (gs 5)] _ _ []
      refine g_pick (cs' := [[((h 0), .inr (1, [.ref (h 1), .ref (h 2), .int (nI ((o + 1) % 6)), .int (nI 5)])), ((h 1), .inl (v.2.1 4, 6, .inr (.inr (.inr (.inr (hpf pw)))))), ((h 2), .inl (v.2.1 5, 6, .inr (.inr (.inr (.inr (hpf bw))))))], cPg v a n f, cAs v b g, cPg v (pw 0) (ns 0) (fs 0), cPg v (pw 1) n f_29, cPg v (pw 2) (ns 2) (fs 2), cPg v (pw 3) (ns 3) (fs 3), cPg v (pw 4) (ns 4) (fs 4), cPg v (pw 5) (ns 5) (fs 5), cAs v (bw 0) (gs 0), cAs v (bw 1) (gs 1), cAs v (bw 2) (gs 2), cAs v (bw 3) (gs 3), cAs v (bw 4) (gs 4), cAs v (bw 5) (gs 5)]) [2, 1, 3, 4, 0, 5, 6, 7, 8, 9, 10, 11, 12, 13, 14] rfl rfl ?_
      refine g_aload_n X dX1_save_55 1 rfl rfl ?_
      refine g_get X cb1 1 q_4_3 dX1_save_56 0 0 rfl rfl (by decide) rfl rfl ?_
      refine g_iload_n X dX1_save_59 0 rfl rfl ?_
      refine g_aald 5 X dX1_save_60 0 2 rfl rfl rfl (by omega) (by omega) ?_
      show GG k _ _ _ _ _ (.ref (bw 1 0) :: _)
      refine g_aload_n X dX1_save_61 3 rfl rfl ?_
      refine g_callV (As := [.ref (b 0)]) (rest := []) (wr := [[((h 0), .inr (1, [.ref (h 1), .ref (h 2), .int (nI ((o + 1) % 6)), .int (nI 5)])), ((h 1), .inl (v.2.1 4, 6, .inr (.inr (.inr (.inr (hpf pw)))))), ((h 2), .inl (v.2.1 5, 6, .inr (.inr (.inr (.inr (hpf bw))))))], cPg v a n f, cPg v (pw 0) (ns 0) (fs 0), cPg v (pw 1) n f_29, cPg v (pw 2) (ns 2) (fs 2), cPg v (pw 3) (ns 3) (fs 3), cPg v (pw 4) (ns 4) (fs 4), cPg v (pw 5) (ns 5) (fs 5), cAs v (bw 0) (gs 0), cAs v (bw 2) (gs 2), cAs v (bw 3) (gs 3), cAs v (bw 4) (gs 4), cAs v (bw 5) (gs 5)]) X (c_X0_copyFrom l v (bw 1) (gs 1) b g) f_X0_copyFrom q_13_17 dX1_save_62 [10, 2] [0, 1, 3, 4, 5, 6, 7, 8, 9, 11, 12, 13, 14] rfl rfl (by decide) 0 rfl rfl rfl rfl (Nat.le_of_ble_eq_true rfl) (by decide) (fun r_ w_ hp32 => ?_)
      obtain ⟨g_31, g_311, rfl⟩ := hp32
      show GG k _ _ [cAs v (bw 1) g_31, cAs v b g, [((h 0), .inr (1, [.ref (h 1), .ref (h 2), .int (nI ((o + 1) % 6)), .int (nI 5)])), ((h 1), .inl (v.2.1 4, 6, .inr (.inr (.inr (.inr (hpf pw)))))), ((h 2), .inl (v.2.1 5, 6, .inr (.inr (.inr (.inr (hpf bw))))))], cPg v a n f, cPg v (pw 0) (ns 0) (fs 0), cPg v (pw 1) n f_29, cPg v (pw 2) (ns 2) (fs 2), cPg v (pw 3) (ns 3) (fs 3), cPg v (pw 4) (ns 4) (fs 4), cPg v (pw 5) (ns 5) (fs 5), cAs v (bw 0) (gs 0), cAs v (bw 2) (gs 2), cAs v (bw 3) (gs 3), cAs v (bw 4) (gs 4), cAs v (bw 5) (gs 5)] _ _ []
      refine g_pick (cs' := [[((h 0), .inr (1, [.ref (h 1), .ref (h 2), .int (nI ((o + 1) % 6)), .int (nI 5)])), ((h 1), .inl (v.2.1 4, 6, .inr (.inr (.inr (.inr (hpf pw)))))), ((h 2), .inl (v.2.1 5, 6, .inr (.inr (.inr (.inr (hpf bw))))))], cPg v a n f, cAs v b g, cPg v (pw 0) (ns 0) (fs 0), cPg v (pw 1) n f_29, cPg v (pw 2) (ns 2) (fs 2), cPg v (pw 3) (ns 3) (fs 3), cPg v (pw 4) (ns 4) (fs 4), cPg v (pw 5) (ns 5) (fs 5), cAs v (bw 0) (gs 0), cAs v (bw 1) g_31, cAs v (bw 2) (gs 2), cAs v (bw 3) (gs 3), cAs v (bw 4) (gs 4), cAs v (bw 5) (gs 5)]) [2, 3, 1, 4, 5, 6, 7, 8, 9, 10, 0, 11, 12, 13, 14] rfl rfl ?_
      refine g_aload_n X dX1_save_65 1 rfl rfl ?_
      refine g_dup X dX1_save_66 rfl ?_
      refine g_get X cb1 3 q_13_5 dX1_save_67 0 0 rfl rfl (by decide) rfl rfl ?_
      refine g_iconst (x := nI 1) X dX1_save_70 (by decide +kernel) ?_
      refine g_iaddN X dX1_save_71 ?_
      refine g_put (cs' := [[((h 0), .inr (1, [.ref (h 1), .ref (h 2), .int (nI ((o + 1) % 6)), .int (nI (5 + 1))])), ((h 1), .inl (v.2.1 4, 6, .inr (.inr (.inr (.inr (hpf pw)))))), ((h 2), .inl (v.2.1 5, 6, .inr (.inr (.inr (.inr (hpf bw))))))], cPg v a n f, cAs v b g, cPg v (pw 0) (ns 0) (fs 0), cPg v (pw 1) n f_29, cPg v (pw 2) (ns 2) (fs 2), cPg v (pw 3) (ns 3) (fs 3), cPg v (pw 4) (ns 4) (fs 4), cPg v (pw 5) (ns 5) (fs 5), cAs v (bw 0) (gs 0), cAs v (bw 1) g_31, cAs v (bw 2) (gs 2), cAs v (bw 3) (gs 3), cAs v (bw 4) (gs 4), cAs v (bw 5) (gs 5)]) X cb1 3 q_13_5 dX1_save_72 0 0 rfl rfl (by decide) rfl rfl (rfl) (rfl) (Nat.le_of_ble_eq_true rfl) rfl ?_
      exact E dX1_save_75 (by decide) (by decide) (⟨_, hU9 ns 1 n, hU9 fs 1 f_29, hU9 gs 1 g_31, HrR_full hH hc6 hsl (HE_copy hW hR hL hG f_292 g_311), by rw [hC9, if_pos hc6]; rfl⟩)
    · refine g_aload_n X dX1_save_45 1 rfl rfl ?_
      refine g_get X cb1 0 q_4_1 dX1_save_46 0 0 rfl rfl (by decide) rfl rfl ?_
      refine g_iload_n X dX1_save_49 0 rfl rfl ?_
      refine g_aald 4 X dX1_save_50 0 1 rfl rfl rfl (by omega) (by omega) ?_
      show GG k _ _ _ _ _ (.ref (pw 2 0) :: _)
      refine g_aload_n X dX1_save_51 2 rfl rfl ?_
      refine g_callV (As := [.ref (a 0)]) (rest := []) (wr := [[((h 0), .inr (1, [.ref (h 1), .ref (h 2), .int (nI ((o + 1) % 6)), .int (nI 5)])), ((h 1), .inl (v.2.1 4, 6, .inr (.inr (.inr (.inr (hpf pw)))))), ((h 2), .inl (v.2.1 5, 6, .inr (.inr (.inr (.inr (hpf bw))))))], cAs v b g, cPg v (pw 0) (ns 0) (fs 0), cPg v (pw 1) (ns 1) (fs 1), cPg v (pw 3) (ns 3) (fs 3), cPg v (pw 4) (ns 4) (fs 4), cPg v (pw 5) (ns 5) (fs 5), cAs v (bw 0) (gs 0), cAs v (bw 1) (gs 1), cAs v (bw 2) (gs 2), cAs v (bw 3) (gs 3), cAs v (bw 4) (gs 4), cAs v (bw 5) (gs 5)]) X (c_X3_copyFrom l v (pw 2) (ns 2) (fs 2) a n f (by omega)) f_X3_copyFrom q_13_7 dX1_save_52 [5, 1] [0, 2, 3, 4, 6, 7, 8, 9, 10, 11, 12, 13, 14] rfl rfl (by decide) 0 rfl rfl rfl rfl (Nat.le_of_ble_eq_true rfl) (by decide) (fun r_ w_ hp34 => ?_)
      obtain ⟨f_33, f_332, rfl⟩ := hp34
      show GG k _ _ [cPg v (pw 2) n f_33, cPg v a n f, [((h 0), .inr (1, [.ref (h 1), .ref (h 2), .int (nI ((o + 1) % 6)), .int (nI 5)])), ((h 1), .inl (v.2.1 4, 6, .inr (.inr (.inr (.inr (hpf pw)))))), ((h 2), .inl (v.2.1 5, 6, .inr (.inr (.inr (.inr (hpf bw))))))], cAs v b g, cPg v (pw 0) (ns 0) (fs 0), cPg v (pw 1) (ns 1) (fs 1), cPg v (pw 3) (ns 3) (fs 3), cPg v (pw 4) (ns 4) (fs 4), cPg v (pw 5) (ns 5) (fs 5), cAs v (bw 0) (gs 0), cAs v (bw 1) (gs 1), cAs v (bw 2) (gs 2), cAs v (bw 3) (gs 3), cAs v (bw 4) (gs 4), cAs v (bw 5) (gs 5)] _ _ []
      refine g_pick (cs' := [[((h 0), .inr (1, [.ref (h 1), .ref (h 2), .int (nI ((o + 1) % 6)), .int (nI 5)])), ((h 1), .inl (v.2.1 4, 6, .inr (.inr (.inr (.inr (hpf pw)))))), ((h 2), .inl (v.2.1 5, 6, .inr (.inr (.inr (.inr (hpf bw))))))], cPg v a n f, cAs v b g, cPg v (pw 0) (ns 0) (fs 0), cPg v (pw 1) (ns 1) (fs 1), cPg v (pw 2) n f_33, cPg v (pw 3) (ns 3) (fs 3), cPg v (pw 4) (ns 4) (fs 4), cPg v (pw 5) (ns 5) (fs 5), cAs v (bw 0) (gs 0), cAs v (bw 1) (gs 1), cAs v (bw 2) (gs 2), cAs v (bw 3) (gs 3), cAs v (bw 4) (gs 4), cAs v (bw 5) (gs 5)]) [2, 1, 3, 4, 5, 0, 6, 7, 8, 9, 10, 11, 12, 13, 14] rfl rfl ?_
      refine g_aload_n X dX1_save_55 1 rfl rfl ?_
      refine g_get X cb1 1 q_4_3 dX1_save_56 0 0 rfl rfl (by decide) rfl rfl ?_
      refine g_iload_n X dX1_save_59 0 rfl rfl ?_
      refine g_aald 5 X dX1_save_60 0 2 rfl rfl rfl (by omega) (by omega) ?_
      show GG k _ _ _ _ _ (.ref (bw 2 0) :: _)
      refine g_aload_n X dX1_save_61 3 rfl rfl ?_
      refine g_callV (As := [.ref (b 0)]) (rest := []) (wr := [[((h 0), .inr (1, [.ref (h 1), .ref (h 2), .int (nI ((o + 1) % 6)), .int (nI 5)])), ((h 1), .inl (v.2.1 4, 6, .inr (.inr (.inr (.inr (hpf pw)))))), ((h 2), .inl (v.2.1 5, 6, .inr (.inr (.inr (.inr (hpf bw))))))], cPg v a n f, cPg v (pw 0) (ns 0) (fs 0), cPg v (pw 1) (ns 1) (fs 1), cPg v (pw 2) n f_33, cPg v (pw 3) (ns 3) (fs 3), cPg v (pw 4) (ns 4) (fs 4), cPg v (pw 5) (ns 5) (fs 5), cAs v (bw 0) (gs 0), cAs v (bw 1) (gs 1), cAs v (bw 3) (gs 3), cAs v (bw 4) (gs 4), cAs v (bw 5) (gs 5)]) X (c_X0_copyFrom l v (bw 2) (gs 2) b g) f_X0_copyFrom q_13_17 dX1_save_62 [11, 2] [0, 1, 3, 4, 5, 6, 7, 8, 9, 10, 12, 13, 14] rfl rfl (by decide) 0 rfl rfl rfl rfl (Nat.le_of_ble_eq_true rfl) (by decide) (fun r_ w_ hp36 => ?_)
      obtain ⟨g_35, g_351, rfl⟩ := hp36
      show GG k _ _ [cAs v (bw 2) g_35, cAs v b g, [((h 0), .inr (1, [.ref (h 1), .ref (h 2), .int (nI ((o + 1) % 6)), .int (nI 5)])), ((h 1), .inl (v.2.1 4, 6, .inr (.inr (.inr (.inr (hpf pw)))))), ((h 2), .inl (v.2.1 5, 6, .inr (.inr (.inr (.inr (hpf bw))))))], cPg v a n f, cPg v (pw 0) (ns 0) (fs 0), cPg v (pw 1) (ns 1) (fs 1), cPg v (pw 2) n f_33, cPg v (pw 3) (ns 3) (fs 3), cPg v (pw 4) (ns 4) (fs 4), cPg v (pw 5) (ns 5) (fs 5), cAs v (bw 0) (gs 0), cAs v (bw 1) (gs 1), cAs v (bw 3) (gs 3), cAs v (bw 4) (gs 4), cAs v (bw 5) (gs 5)] _ _ []
      refine g_pick (cs' := [[((h 0), .inr (1, [.ref (h 1), .ref (h 2), .int (nI ((o + 1) % 6)), .int (nI 5)])), ((h 1), .inl (v.2.1 4, 6, .inr (.inr (.inr (.inr (hpf pw)))))), ((h 2), .inl (v.2.1 5, 6, .inr (.inr (.inr (.inr (hpf bw))))))], cPg v a n f, cAs v b g, cPg v (pw 0) (ns 0) (fs 0), cPg v (pw 1) (ns 1) (fs 1), cPg v (pw 2) n f_33, cPg v (pw 3) (ns 3) (fs 3), cPg v (pw 4) (ns 4) (fs 4), cPg v (pw 5) (ns 5) (fs 5), cAs v (bw 0) (gs 0), cAs v (bw 1) (gs 1), cAs v (bw 2) g_35, cAs v (bw 3) (gs 3), cAs v (bw 4) (gs 4), cAs v (bw 5) (gs 5)]) [2, 3, 1, 4, 5, 6, 7, 8, 9, 10, 11, 0, 12, 13, 14] rfl rfl ?_
      refine g_aload_n X dX1_save_65 1 rfl rfl ?_
      refine g_dup X dX1_save_66 rfl ?_
      refine g_get X cb1 3 q_13_5 dX1_save_67 0 0 rfl rfl (by decide) rfl rfl ?_
      refine g_iconst (x := nI 1) X dX1_save_70 (by decide +kernel) ?_
      refine g_iaddN X dX1_save_71 ?_
      refine g_put (cs' := [[((h 0), .inr (1, [.ref (h 1), .ref (h 2), .int (nI ((o + 1) % 6)), .int (nI (5 + 1))])), ((h 1), .inl (v.2.1 4, 6, .inr (.inr (.inr (.inr (hpf pw)))))), ((h 2), .inl (v.2.1 5, 6, .inr (.inr (.inr (.inr (hpf bw))))))], cPg v a n f, cAs v b g, cPg v (pw 0) (ns 0) (fs 0), cPg v (pw 1) (ns 1) (fs 1), cPg v (pw 2) n f_33, cPg v (pw 3) (ns 3) (fs 3), cPg v (pw 4) (ns 4) (fs 4), cPg v (pw 5) (ns 5) (fs 5), cAs v (bw 0) (gs 0), cAs v (bw 1) (gs 1), cAs v (bw 2) g_35, cAs v (bw 3) (gs 3), cAs v (bw 4) (gs 4), cAs v (bw 5) (gs 5)]) X cb1 3 q_13_5 dX1_save_72 0 0 rfl rfl (by decide) rfl rfl (rfl) (rfl) (Nat.le_of_ble_eq_true rfl) rfl ?_
      exact E dX1_save_75 (by decide) (by decide) (⟨_, hU9 ns 2 n, hU9 fs 2 f_33, hU9 gs 2 g_35, HrR_full hH hc6 hsl (HE_copy hW hR hL hG f_332 g_351), by rw [hC9, if_pos hc6]; rfl⟩)
    · refine g_aload_n X dX1_save_45 1 rfl rfl ?_
      refine g_get X cb1 0 q_4_1 dX1_save_46 0 0 rfl rfl (by decide) rfl rfl ?_
      refine g_iload_n X dX1_save_49 0 rfl rfl ?_
      refine g_aald 4 X dX1_save_50 0 1 rfl rfl rfl (by omega) (by omega) ?_
      show GG k _ _ _ _ _ (.ref (pw 3 0) :: _)
      refine g_aload_n X dX1_save_51 2 rfl rfl ?_
      refine g_callV (As := [.ref (a 0)]) (rest := []) (wr := [[((h 0), .inr (1, [.ref (h 1), .ref (h 2), .int (nI ((o + 1) % 6)), .int (nI 5)])), ((h 1), .inl (v.2.1 4, 6, .inr (.inr (.inr (.inr (hpf pw)))))), ((h 2), .inl (v.2.1 5, 6, .inr (.inr (.inr (.inr (hpf bw))))))], cAs v b g, cPg v (pw 0) (ns 0) (fs 0), cPg v (pw 1) (ns 1) (fs 1), cPg v (pw 2) (ns 2) (fs 2), cPg v (pw 4) (ns 4) (fs 4), cPg v (pw 5) (ns 5) (fs 5), cAs v (bw 0) (gs 0), cAs v (bw 1) (gs 1), cAs v (bw 2) (gs 2), cAs v (bw 3) (gs 3), cAs v (bw 4) (gs 4), cAs v (bw 5) (gs 5)]) X (c_X3_copyFrom l v (pw 3) (ns 3) (fs 3) a n f (by omega)) f_X3_copyFrom q_13_7 dX1_save_52 [6, 1] [0, 2, 3, 4, 5, 7, 8, 9, 10, 11, 12, 13, 14] rfl rfl (by decide) 0 rfl rfl rfl rfl (Nat.le_of_ble_eq_true rfl) (by decide) (fun r_ w_ hp38 => ?_)
      obtain ⟨f_37, f_372, rfl⟩ := hp38
      show GG k _ _ [cPg v (pw 3) n f_37, cPg v a n f, [((h 0), .inr (1, [.ref (h 1), .ref (h 2), .int (nI ((o + 1) % 6)), .int (nI 5)])), ((h 1), .inl (v.2.1 4, 6, .inr (.inr (.inr (.inr (hpf pw)))))), ((h 2), .inl (v.2.1 5, 6, .inr (.inr (.inr (.inr (hpf bw))))))], cAs v b g, cPg v (pw 0) (ns 0) (fs 0), cPg v (pw 1) (ns 1) (fs 1), cPg v (pw 2) (ns 2) (fs 2), cPg v (pw 4) (ns 4) (fs 4), cPg v (pw 5) (ns 5) (fs 5), cAs v (bw 0) (gs 0), cAs v (bw 1) (gs 1), cAs v (bw 2) (gs 2), cAs v (bw 3) (gs 3), cAs v (bw 4) (gs 4), cAs v (bw 5) (gs 5)] _ _ []
      refine g_pick (cs' := [[((h 0), .inr (1, [.ref (h 1), .ref (h 2), .int (nI ((o + 1) % 6)), .int (nI 5)])), ((h 1), .inl (v.2.1 4, 6, .inr (.inr (.inr (.inr (hpf pw)))))), ((h 2), .inl (v.2.1 5, 6, .inr (.inr (.inr (.inr (hpf bw))))))], cPg v a n f, cAs v b g, cPg v (pw 0) (ns 0) (fs 0), cPg v (pw 1) (ns 1) (fs 1), cPg v (pw 2) (ns 2) (fs 2), cPg v (pw 3) n f_37, cPg v (pw 4) (ns 4) (fs 4), cPg v (pw 5) (ns 5) (fs 5), cAs v (bw 0) (gs 0), cAs v (bw 1) (gs 1), cAs v (bw 2) (gs 2), cAs v (bw 3) (gs 3), cAs v (bw 4) (gs 4), cAs v (bw 5) (gs 5)]) [2, 1, 3, 4, 5, 6, 0, 7, 8, 9, 10, 11, 12, 13, 14] rfl rfl ?_
      refine g_aload_n X dX1_save_55 1 rfl rfl ?_
      refine g_get X cb1 1 q_4_3 dX1_save_56 0 0 rfl rfl (by decide) rfl rfl ?_
      refine g_iload_n X dX1_save_59 0 rfl rfl ?_
      refine g_aald 5 X dX1_save_60 0 2 rfl rfl rfl (by omega) (by omega) ?_
      show GG k _ _ _ _ _ (.ref (bw 3 0) :: _)
      refine g_aload_n X dX1_save_61 3 rfl rfl ?_
      refine g_callV (As := [.ref (b 0)]) (rest := []) (wr := [[((h 0), .inr (1, [.ref (h 1), .ref (h 2), .int (nI ((o + 1) % 6)), .int (nI 5)])), ((h 1), .inl (v.2.1 4, 6, .inr (.inr (.inr (.inr (hpf pw)))))), ((h 2), .inl (v.2.1 5, 6, .inr (.inr (.inr (.inr (hpf bw))))))], cPg v a n f, cPg v (pw 0) (ns 0) (fs 0), cPg v (pw 1) (ns 1) (fs 1), cPg v (pw 2) (ns 2) (fs 2), cPg v (pw 3) n f_37, cPg v (pw 4) (ns 4) (fs 4), cPg v (pw 5) (ns 5) (fs 5), cAs v (bw 0) (gs 0), cAs v (bw 1) (gs 1), cAs v (bw 2) (gs 2), cAs v (bw 4) (gs 4), cAs v (bw 5) (gs 5)]) X (c_X0_copyFrom l v (bw 3) (gs 3) b g) f_X0_copyFrom q_13_17 dX1_save_62 [12, 2] [0, 1, 3, 4, 5, 6, 7, 8, 9, 10, 11, 13, 14] rfl rfl (by decide) 0 rfl rfl rfl rfl (Nat.le_of_ble_eq_true rfl) (by decide) (fun r_ w_ hp40 => ?_)
      obtain ⟨g_39, g_391, rfl⟩ := hp40
      show GG k _ _ [cAs v (bw 3) g_39, cAs v b g, [((h 0), .inr (1, [.ref (h 1), .ref (h 2), .int (nI ((o + 1) % 6)), .int (nI 5)])), ((h 1), .inl (v.2.1 4, 6, .inr (.inr (.inr (.inr (hpf pw)))))), ((h 2), .inl (v.2.1 5, 6, .inr (.inr (.inr (.inr (hpf bw))))))], cPg v a n f, cPg v (pw 0) (ns 0) (fs 0), cPg v (pw 1) (ns 1) (fs 1), cPg v (pw 2) (ns 2) (fs 2), cPg v (pw 3) n f_37, cPg v (pw 4) (ns 4) (fs 4), cPg v (pw 5) (ns 5) (fs 5), cAs v (bw 0) (gs 0), cAs v (bw 1) (gs 1), cAs v (bw 2) (gs 2), cAs v (bw 4) (gs 4), cAs v (bw 5) (gs 5)] _ _ []
      refine g_pick (cs' := [[((h 0), .inr (1, [.ref (h 1), .ref (h 2), .int (nI ((o + 1) % 6)), .int (nI 5)])), ((h 1), .inl (v.2.1 4, 6, .inr (.inr (.inr (.inr (hpf pw)))))), ((h 2), .inl (v.2.1 5, 6, .inr (.inr (.inr (.inr (hpf bw))))))], cPg v a n f, cAs v b g, cPg v (pw 0) (ns 0) (fs 0), cPg v (pw 1) (ns 1) (fs 1), cPg v (pw 2) (ns 2) (fs 2), cPg v (pw 3) n f_37, cPg v (pw 4) (ns 4) (fs 4), cPg v (pw 5) (ns 5) (fs 5), cAs v (bw 0) (gs 0), cAs v (bw 1) (gs 1), cAs v (bw 2) (gs 2), cAs v (bw 3) g_39, cAs v (bw 4) (gs 4), cAs v (bw 5) (gs 5)]) [2, 3, 1, 4, 5, 6, 7, 8, 9, 10, 11, 12, 0, 13, 14] rfl rfl ?_
      refine g_aload_n X dX1_save_65 1 rfl rfl ?_
      refine g_dup X dX1_save_66 rfl ?_
      refine g_get X cb1 3 q_13_5 dX1_save_67 0 0 rfl rfl (by decide) rfl rfl ?_
      refine g_iconst (x := nI 1) X dX1_save_70 (by decide +kernel) ?_
      refine g_iaddN X dX1_save_71 ?_
      refine g_put (cs' := [[((h 0), .inr (1, [.ref (h 1), .ref (h 2), .int (nI ((o + 1) % 6)), .int (nI (5 + 1))])), ((h 1), .inl (v.2.1 4, 6, .inr (.inr (.inr (.inr (hpf pw)))))), ((h 2), .inl (v.2.1 5, 6, .inr (.inr (.inr (.inr (hpf bw))))))], cPg v a n f, cAs v b g, cPg v (pw 0) (ns 0) (fs 0), cPg v (pw 1) (ns 1) (fs 1), cPg v (pw 2) (ns 2) (fs 2), cPg v (pw 3) n f_37, cPg v (pw 4) (ns 4) (fs 4), cPg v (pw 5) (ns 5) (fs 5), cAs v (bw 0) (gs 0), cAs v (bw 1) (gs 1), cAs v (bw 2) (gs 2), cAs v (bw 3) g_39, cAs v (bw 4) (gs 4), cAs v (bw 5) (gs 5)]) X cb1 3 q_13_5 dX1_save_72 0 0 rfl rfl (by decide) rfl rfl (rfl) (rfl) (Nat.le_of_ble_eq_true rfl) rfl ?_
      exact E dX1_save_75 (by decide) (by decide) (⟨_, hU9 ns 3 n, hU9 fs 3 f_37, hU9 gs 3 g_39, HrR_full hH hc6 hsl (HE_copy hW hR hL hG f_372 g_391), by rw [hC9, if_pos hc6]; rfl⟩)
    · refine g_aload_n X dX1_save_45 1 rfl rfl ?_
      refine g_get X cb1 0 q_4_1 dX1_save_46 0 0 rfl rfl (by decide) rfl rfl ?_
      refine g_iload_n X dX1_save_49 0 rfl rfl ?_
      refine g_aald 4 X dX1_save_50 0 1 rfl rfl rfl (by omega) (by omega) ?_
      show GG k _ _ _ _ _ (.ref (pw 4 0) :: _)
      refine g_aload_n X dX1_save_51 2 rfl rfl ?_
      refine g_callV (As := [.ref (a 0)]) (rest := []) (wr := [[((h 0), .inr (1, [.ref (h 1), .ref (h 2), .int (nI ((o + 1) % 6)), .int (nI 5)])), ((h 1), .inl (v.2.1 4, 6, .inr (.inr (.inr (.inr (hpf pw)))))), ((h 2), .inl (v.2.1 5, 6, .inr (.inr (.inr (.inr (hpf bw))))))], cAs v b g, cPg v (pw 0) (ns 0) (fs 0), cPg v (pw 1) (ns 1) (fs 1), cPg v (pw 2) (ns 2) (fs 2), cPg v (pw 3) (ns 3) (fs 3), cPg v (pw 5) (ns 5) (fs 5), cAs v (bw 0) (gs 0), cAs v (bw 1) (gs 1), cAs v (bw 2) (gs 2), cAs v (bw 3) (gs 3), cAs v (bw 4) (gs 4), cAs v (bw 5) (gs 5)]) X (c_X3_copyFrom l v (pw 4) (ns 4) (fs 4) a n f (by omega)) f_X3_copyFrom q_13_7 dX1_save_52 [7, 1] [0, 2, 3, 4, 5, 6, 8, 9, 10, 11, 12, 13, 14] rfl rfl (by decide) 0 rfl rfl rfl rfl (Nat.le_of_ble_eq_true rfl) (by decide) (fun r_ w_ hp42 => ?_)
      obtain ⟨f_41, f_412, rfl⟩ := hp42
      show GG k _ _ [cPg v (pw 4) n f_41, cPg v a n f, [((h 0), .inr (1, [.ref (h 1), .ref (h 2), .int (nI ((o + 1) % 6)), .int (nI 5)])), ((h 1), .inl (v.2.1 4, 6, .inr (.inr (.inr (.inr (hpf pw)))))), ((h 2), .inl (v.2.1 5, 6, .inr (.inr (.inr (.inr (hpf bw))))))], cAs v b g, cPg v (pw 0) (ns 0) (fs 0), cPg v (pw 1) (ns 1) (fs 1), cPg v (pw 2) (ns 2) (fs 2), cPg v (pw 3) (ns 3) (fs 3), cPg v (pw 5) (ns 5) (fs 5), cAs v (bw 0) (gs 0), cAs v (bw 1) (gs 1), cAs v (bw 2) (gs 2), cAs v (bw 3) (gs 3), cAs v (bw 4) (gs 4), cAs v (bw 5) (gs 5)] _ _ []
      refine g_pick (cs' := [[((h 0), .inr (1, [.ref (h 1), .ref (h 2), .int (nI ((o + 1) % 6)), .int (nI 5)])), ((h 1), .inl (v.2.1 4, 6, .inr (.inr (.inr (.inr (hpf pw)))))), ((h 2), .inl (v.2.1 5, 6, .inr (.inr (.inr (.inr (hpf bw))))))], cPg v a n f, cAs v b g, cPg v (pw 0) (ns 0) (fs 0), cPg v (pw 1) (ns 1) (fs 1), cPg v (pw 2) (ns 2) (fs 2), cPg v (pw 3) (ns 3) (fs 3), cPg v (pw 4) n f_41, cPg v (pw 5) (ns 5) (fs 5), cAs v (bw 0) (gs 0), cAs v (bw 1) (gs 1), cAs v (bw 2) (gs 2), cAs v (bw 3) (gs 3), cAs v (bw 4) (gs 4), cAs v (bw 5) (gs 5)]) [2, 1, 3, 4, 5, 6, 7, 0, 8, 9, 10, 11, 12, 13, 14] rfl rfl ?_
      refine g_aload_n X dX1_save_55 1 rfl rfl ?_
      refine g_get X cb1 1 q_4_3 dX1_save_56 0 0 rfl rfl (by decide) rfl rfl ?_
      refine g_iload_n X dX1_save_59 0 rfl rfl ?_
      refine g_aald 5 X dX1_save_60 0 2 rfl rfl rfl (by omega) (by omega) ?_
      show GG k _ _ _ _ _ (.ref (bw 4 0) :: _)
      refine g_aload_n X dX1_save_61 3 rfl rfl ?_
      refine g_callV (As := [.ref (b 0)]) (rest := []) (wr := [[((h 0), .inr (1, [.ref (h 1), .ref (h 2), .int (nI ((o + 1) % 6)), .int (nI 5)])), ((h 1), .inl (v.2.1 4, 6, .inr (.inr (.inr (.inr (hpf pw)))))), ((h 2), .inl (v.2.1 5, 6, .inr (.inr (.inr (.inr (hpf bw))))))], cPg v a n f, cPg v (pw 0) (ns 0) (fs 0), cPg v (pw 1) (ns 1) (fs 1), cPg v (pw 2) (ns 2) (fs 2), cPg v (pw 3) (ns 3) (fs 3), cPg v (pw 4) n f_41, cPg v (pw 5) (ns 5) (fs 5), cAs v (bw 0) (gs 0), cAs v (bw 1) (gs 1), cAs v (bw 2) (gs 2), cAs v (bw 3) (gs 3), cAs v (bw 5) (gs 5)]) X (c_X0_copyFrom l v (bw 4) (gs 4) b g) f_X0_copyFrom q_13_17 dX1_save_62 [13, 2] [0, 1, 3, 4, 5, 6, 7, 8, 9, 10, 11, 12, 14] rfl rfl (by decide) 0 rfl rfl rfl rfl (Nat.le_of_ble_eq_true rfl) (by decide) (fun r_ w_ hp44 => ?_)
      obtain ⟨g_43, g_431, rfl⟩ := hp44
      show GG k _ _ [cAs v (bw 4) g_43, cAs v b g, [((h 0), .inr (1, [.ref (h 1), .ref (h 2), .int (nI ((o + 1) % 6)), .int (nI 5)])), ((h 1), .inl (v.2.1 4, 6, .inr (.inr (.inr (.inr (hpf pw)))))), ((h 2), .inl (v.2.1 5, 6, .inr (.inr (.inr (.inr (hpf bw))))))], cPg v a n f, cPg v (pw 0) (ns 0) (fs 0), cPg v (pw 1) (ns 1) (fs 1), cPg v (pw 2) (ns 2) (fs 2), cPg v (pw 3) (ns 3) (fs 3), cPg v (pw 4) n f_41, cPg v (pw 5) (ns 5) (fs 5), cAs v (bw 0) (gs 0), cAs v (bw 1) (gs 1), cAs v (bw 2) (gs 2), cAs v (bw 3) (gs 3), cAs v (bw 5) (gs 5)] _ _ []
      refine g_pick (cs' := [[((h 0), .inr (1, [.ref (h 1), .ref (h 2), .int (nI ((o + 1) % 6)), .int (nI 5)])), ((h 1), .inl (v.2.1 4, 6, .inr (.inr (.inr (.inr (hpf pw)))))), ((h 2), .inl (v.2.1 5, 6, .inr (.inr (.inr (.inr (hpf bw))))))], cPg v a n f, cAs v b g, cPg v (pw 0) (ns 0) (fs 0), cPg v (pw 1) (ns 1) (fs 1), cPg v (pw 2) (ns 2) (fs 2), cPg v (pw 3) (ns 3) (fs 3), cPg v (pw 4) n f_41, cPg v (pw 5) (ns 5) (fs 5), cAs v (bw 0) (gs 0), cAs v (bw 1) (gs 1), cAs v (bw 2) (gs 2), cAs v (bw 3) (gs 3), cAs v (bw 4) g_43, cAs v (bw 5) (gs 5)]) [2, 3, 1, 4, 5, 6, 7, 8, 9, 10, 11, 12, 13, 0, 14] rfl rfl ?_
      refine g_aload_n X dX1_save_65 1 rfl rfl ?_
      refine g_dup X dX1_save_66 rfl ?_
      refine g_get X cb1 3 q_13_5 dX1_save_67 0 0 rfl rfl (by decide) rfl rfl ?_
      refine g_iconst (x := nI 1) X dX1_save_70 (by decide +kernel) ?_
      refine g_iaddN X dX1_save_71 ?_
      refine g_put (cs' := [[((h 0), .inr (1, [.ref (h 1), .ref (h 2), .int (nI ((o + 1) % 6)), .int (nI (5 + 1))])), ((h 1), .inl (v.2.1 4, 6, .inr (.inr (.inr (.inr (hpf pw)))))), ((h 2), .inl (v.2.1 5, 6, .inr (.inr (.inr (.inr (hpf bw))))))], cPg v a n f, cAs v b g, cPg v (pw 0) (ns 0) (fs 0), cPg v (pw 1) (ns 1) (fs 1), cPg v (pw 2) (ns 2) (fs 2), cPg v (pw 3) (ns 3) (fs 3), cPg v (pw 4) n f_41, cPg v (pw 5) (ns 5) (fs 5), cAs v (bw 0) (gs 0), cAs v (bw 1) (gs 1), cAs v (bw 2) (gs 2), cAs v (bw 3) (gs 3), cAs v (bw 4) g_43, cAs v (bw 5) (gs 5)]) X cb1 3 q_13_5 dX1_save_72 0 0 rfl rfl (by decide) rfl rfl (rfl) (rfl) (Nat.le_of_ble_eq_true rfl) rfl ?_
      exact E dX1_save_75 (by decide) (by decide) (⟨_, hU9 ns 4 n, hU9 fs 4 f_41, hU9 gs 4 g_43, HrR_full hH hc6 hsl (HE_copy hW hR hL hG f_412 g_431), by rw [hC9, if_pos hc6]; rfl⟩)
    · refine g_aload_n X dX1_save_45 1 rfl rfl ?_
      refine g_get X cb1 0 q_4_1 dX1_save_46 0 0 rfl rfl (by decide) rfl rfl ?_
      refine g_iload_n X dX1_save_49 0 rfl rfl ?_
      refine g_aald 4 X dX1_save_50 0 1 rfl rfl rfl (by omega) (by omega) ?_
      show GG k _ _ _ _ _ (.ref (pw 5 0) :: _)
      refine g_aload_n X dX1_save_51 2 rfl rfl ?_
      refine g_callV (As := [.ref (a 0)]) (rest := []) (wr := [[((h 0), .inr (1, [.ref (h 1), .ref (h 2), .int (nI ((o + 1) % 6)), .int (nI 5)])), ((h 1), .inl (v.2.1 4, 6, .inr (.inr (.inr (.inr (hpf pw)))))), ((h 2), .inl (v.2.1 5, 6, .inr (.inr (.inr (.inr (hpf bw))))))], cAs v b g, cPg v (pw 0) (ns 0) (fs 0), cPg v (pw 1) (ns 1) (fs 1), cPg v (pw 2) (ns 2) (fs 2), cPg v (pw 3) (ns 3) (fs 3), cPg v (pw 4) (ns 4) (fs 4), cAs v (bw 0) (gs 0), cAs v (bw 1) (gs 1), cAs v (bw 2) (gs 2), cAs v (bw 3) (gs 3), cAs v (bw 4) (gs 4), cAs v (bw 5) (gs 5)]) X (c_X3_copyFrom l v (pw 5) (ns 5) (fs 5) a n f (by omega)) f_X3_copyFrom q_13_7 dX1_save_52 [8, 1] [0, 2, 3, 4, 5, 6, 7, 9, 10, 11, 12, 13, 14] rfl rfl (by decide) 0 rfl rfl rfl rfl (Nat.le_of_ble_eq_true rfl) (by decide) (fun r_ w_ hp46 => ?_)
      obtain ⟨f_45, f_452, rfl⟩ := hp46
      show GG k _ _ [cPg v (pw 5) n f_45, cPg v a n f, [((h 0), .inr (1, [.ref (h 1), .ref (h 2), .int (nI ((o + 1) % 6)), .int (nI 5)])), ((h 1), .inl (v.2.1 4, 6, .inr (.inr (.inr (.inr (hpf pw)))))), ((h 2), .inl (v.2.1 5, 6, .inr (.inr (.inr (.inr (hpf bw))))))], cAs v b g, cPg v (pw 0) (ns 0) (fs 0), cPg v (pw 1) (ns 1) (fs 1), cPg v (pw 2) (ns 2) (fs 2), cPg v (pw 3) (ns 3) (fs 3), cPg v (pw 4) (ns 4) (fs 4), cAs v (bw 0) (gs 0), cAs v (bw 1) (gs 1), cAs v (bw 2) (gs 2), cAs v (bw 3) (gs 3), cAs v (bw 4) (gs 4), cAs v (bw 5) (gs 5)] _ _ []
      refine g_pick (cs' := [[((h 0), .inr (1, [.ref (h 1), .ref (h 2), .int (nI ((o + 1) % 6)), .int (nI 5)])), ((h 1), .inl (v.2.1 4, 6, .inr (.inr (.inr (.inr (hpf pw)))))), ((h 2), .inl (v.2.1 5, 6, .inr (.inr (.inr (.inr (hpf bw))))))], cPg v a n f, cAs v b g, cPg v (pw 0) (ns 0) (fs 0), cPg v (pw 1) (ns 1) (fs 1), cPg v (pw 2) (ns 2) (fs 2), cPg v (pw 3) (ns 3) (fs 3), cPg v (pw 4) (ns 4) (fs 4), cPg v (pw 5) n f_45, cAs v (bw 0) (gs 0), cAs v (bw 1) (gs 1), cAs v (bw 2) (gs 2), cAs v (bw 3) (gs 3), cAs v (bw 4) (gs 4), cAs v (bw 5) (gs 5)]) [2, 1, 3, 4, 5, 6, 7, 8, 0, 9, 10, 11, 12, 13, 14] rfl rfl ?_
      refine g_aload_n X dX1_save_55 1 rfl rfl ?_
      refine g_get X cb1 1 q_4_3 dX1_save_56 0 0 rfl rfl (by decide) rfl rfl ?_
      refine g_iload_n X dX1_save_59 0 rfl rfl ?_
      refine g_aald 5 X dX1_save_60 0 2 rfl rfl rfl (by omega) (by omega) ?_
      show GG k _ _ _ _ _ (.ref (bw 5 0) :: _)
      refine g_aload_n X dX1_save_61 3 rfl rfl ?_
      refine g_callV (As := [.ref (b 0)]) (rest := []) (wr := [[((h 0), .inr (1, [.ref (h 1), .ref (h 2), .int (nI ((o + 1) % 6)), .int (nI 5)])), ((h 1), .inl (v.2.1 4, 6, .inr (.inr (.inr (.inr (hpf pw)))))), ((h 2), .inl (v.2.1 5, 6, .inr (.inr (.inr (.inr (hpf bw))))))], cPg v a n f, cPg v (pw 0) (ns 0) (fs 0), cPg v (pw 1) (ns 1) (fs 1), cPg v (pw 2) (ns 2) (fs 2), cPg v (pw 3) (ns 3) (fs 3), cPg v (pw 4) (ns 4) (fs 4), cPg v (pw 5) n f_45, cAs v (bw 0) (gs 0), cAs v (bw 1) (gs 1), cAs v (bw 2) (gs 2), cAs v (bw 3) (gs 3), cAs v (bw 4) (gs 4)]) X (c_X0_copyFrom l v (bw 5) (gs 5) b g) f_X0_copyFrom q_13_17 dX1_save_62 [14, 2] [0, 1, 3, 4, 5, 6, 7, 8, 9, 10, 11, 12, 13] rfl rfl (by decide) 0 rfl rfl rfl rfl (Nat.le_of_ble_eq_true rfl) (by decide) (fun r_ w_ hp48 => ?_)
      obtain ⟨g_47, g_471, rfl⟩ := hp48
      show GG k _ _ [cAs v (bw 5) g_47, cAs v b g, [((h 0), .inr (1, [.ref (h 1), .ref (h 2), .int (nI ((o + 1) % 6)), .int (nI 5)])), ((h 1), .inl (v.2.1 4, 6, .inr (.inr (.inr (.inr (hpf pw)))))), ((h 2), .inl (v.2.1 5, 6, .inr (.inr (.inr (.inr (hpf bw))))))], cPg v a n f, cPg v (pw 0) (ns 0) (fs 0), cPg v (pw 1) (ns 1) (fs 1), cPg v (pw 2) (ns 2) (fs 2), cPg v (pw 3) (ns 3) (fs 3), cPg v (pw 4) (ns 4) (fs 4), cPg v (pw 5) n f_45, cAs v (bw 0) (gs 0), cAs v (bw 1) (gs 1), cAs v (bw 2) (gs 2), cAs v (bw 3) (gs 3), cAs v (bw 4) (gs 4)] _ _ []
      refine g_pick (cs' := [[((h 0), .inr (1, [.ref (h 1), .ref (h 2), .int (nI ((o + 1) % 6)), .int (nI 5)])), ((h 1), .inl (v.2.1 4, 6, .inr (.inr (.inr (.inr (hpf pw)))))), ((h 2), .inl (v.2.1 5, 6, .inr (.inr (.inr (.inr (hpf bw))))))], cPg v a n f, cAs v b g, cPg v (pw 0) (ns 0) (fs 0), cPg v (pw 1) (ns 1) (fs 1), cPg v (pw 2) (ns 2) (fs 2), cPg v (pw 3) (ns 3) (fs 3), cPg v (pw 4) (ns 4) (fs 4), cPg v (pw 5) n f_45, cAs v (bw 0) (gs 0), cAs v (bw 1) (gs 1), cAs v (bw 2) (gs 2), cAs v (bw 3) (gs 3), cAs v (bw 4) (gs 4), cAs v (bw 5) g_47]) [2, 3, 1, 4, 5, 6, 7, 8, 9, 10, 11, 12, 13, 14, 0] rfl rfl ?_
      refine g_aload_n X dX1_save_65 1 rfl rfl ?_
      refine g_dup X dX1_save_66 rfl ?_
      refine g_get X cb1 3 q_13_5 dX1_save_67 0 0 rfl rfl (by decide) rfl rfl ?_
      refine g_iconst (x := nI 1) X dX1_save_70 (by decide +kernel) ?_
      refine g_iaddN X dX1_save_71 ?_
      refine g_put (cs' := [[((h 0), .inr (1, [.ref (h 1), .ref (h 2), .int (nI ((o + 1) % 6)), .int (nI (5 + 1))])), ((h 1), .inl (v.2.1 4, 6, .inr (.inr (.inr (.inr (hpf pw)))))), ((h 2), .inl (v.2.1 5, 6, .inr (.inr (.inr (.inr (hpf bw))))))], cPg v a n f, cAs v b g, cPg v (pw 0) (ns 0) (fs 0), cPg v (pw 1) (ns 1) (fs 1), cPg v (pw 2) (ns 2) (fs 2), cPg v (pw 3) (ns 3) (fs 3), cPg v (pw 4) (ns 4) (fs 4), cPg v (pw 5) n f_45, cAs v (bw 0) (gs 0), cAs v (bw 1) (gs 1), cAs v (bw 2) (gs 2), cAs v (bw 3) (gs 3), cAs v (bw 4) (gs 4), cAs v (bw 5) g_47]) X cb1 3 q_13_5 dX1_save_72 0 0 rfl rfl (by decide) rfl rfl (rfl) (rfl) (Nat.le_of_ble_eq_true rfl) rfl ?_
      exact E dX1_save_75 (by decide) (by decide) (⟨_, hU9 ns 5 n, hU9 fs 5 f_45, hU9 gs 5 g_47, HrR_full hH hc6 hsl (HE_copy hW hR hL hG f_452 g_471), by rw [hC9, if_pos hc6]; rfl⟩)

set_option maxHeartbeats 4000000 in
set_option maxRecDepth 100000 in
theorem c_X1_restore (l : Launch) (v : VV) (h : Nat → Nat) (pw : Nat → Nat → Nat) (bw : Nat → Nat → Nat) (o : Nat) (c : Nat) (ns : Nat → Nat) (fs : Nat → Nat → Nat → Int32) (gs : Nat → Nat → Nat → Int32) (H : Nat → HE9) (a : Nat → Nat) (n : Nat) (f : Nat → Nat → Int32) (b : Nat → Nat) (g : Nat → Nat → Int32) (hH : HrR H o c ns fs gs) (hc : 0 < c) : MU l v yX1_restore cX1_restore 4 none ({ frames := 3, cells := 0, slots := 0, locals := 69 }) [.ref (h 0), .ref (a 0), .ref (b 0)] [cHi9 v h pw bw o c, cPg v a n f, cAs v b g, cPg v (pw 0) (ns 0) (fs 0), cPg v (pw 1) (ns 1) (fs 1), cPg v (pw 2) (ns 2) (fs 2), cPg v (pw 3) (ns 3) (fs 3), cPg v (pw 4) (ns 4) (fs 4), cPg v (pw 5) (ns 5) (fs 5), cAs v (bw 0) (gs 0), cAs v (bw 1) (gs 1), cAs v (bw 2) (gs 2), cAs v (bw 3) (gs 3), cAs v (bw 4) (gs 4), cAs v (bw 5) (gs 5)] (fun _ w_ => ∃ f' g', PgR (H (c - 1)).1 (H (c - 1)).2.1 f' ∧ AsR (H (c - 1)).2.2.1 (H (c - 1)).2.2.2 g' ∧ w_ = [cHi9 v h pw bw o (c - 1), cPg v a (H (c - 1)).2.1 f', cAs v b g', cPg v (pw 0) (ns 0) (fs 0), cPg v (pw 1) (ns 1) (fs 1), cPg v (pw 2) (ns 2) (fs 2), cPg v (pw 3) (ns 3) (fs 3), cPg v (pw 4) (ns 4) (fs 4), cPg v (pw 5) (ns 5) (fs 5), cAs v (bw 0) (gs 0), cAs v (bw 1) (gs 1), cAs v (bw 2) (gs 2), cAs v (bw 3) (gs 3), cAs v (bw 4) (gs 4), cAs v (bw 5) (gs 5)]) 0 0 := by
  refine mm_void rfl (by decide) (Nat.le_of_ble_eq_true rfl) [(0, .ref (h 0)), (1, .ref (a 0)), (2, .ref (b 0))] rfl (fun k X hin E => ?_)
  obtain ⟨ho6, hc7, -⟩ := id hH
  refine g_aload_n X dX1_restore_0 0 rfl rfl ?_
  refine g_get X cb1 3 q_13_5 dX1_restore_1 0 0 rfl rfl (by decide) rfl rfl ?_
  refine g_if_neN (tgt := 8) X dX1_restore_4 (by decide) (by omega) (fun c4 => ?_) (fun c4 => ?_)
  · refine g_aload_n X dX1_restore_8 0 rfl rfl ?_
    refine g_dup X dX1_restore_9 rfl ?_
    refine g_get X cb1 3 q_13_5 dX1_restore_10 0 0 rfl rfl (by decide) rfl rfl ?_
    refine g_iconst (x := nI 1) X dX1_restore_13 (by decide +kernel) ?_
    refine g_isubN X dX1_restore_14 (by omega) ?_
    refine g_put (cs' := [[((h 0), .inr (1, [.ref (h 1), .ref (h 2), .int (nI o), .int (nI (c - 1))])), ((h 1), .inl (v.2.1 4, 6, .inr (.inr (.inr (.inr (hpf pw)))))), ((h 2), .inl (v.2.1 5, 6, .inr (.inr (.inr (.inr (hpf bw))))))], cPg v a n f, cAs v b g, cPg v (pw 0) (ns 0) (fs 0), cPg v (pw 1) (ns 1) (fs 1), cPg v (pw 2) (ns 2) (fs 2), cPg v (pw 3) (ns 3) (fs 3), cPg v (pw 4) (ns 4) (fs 4), cPg v (pw 5) (ns 5) (fs 5), cAs v (bw 0) (gs 0), cAs v (bw 1) (gs 1), cAs v (bw 2) (gs 2), cAs v (bw 3) (gs 3), cAs v (bw 4) (gs 4), cAs v (bw 5) (gs 5)]) X cb1 3 q_13_5 dX1_restore_15 0 0 rfl rfl (by decide) rfl rfl (rfl) (rfl) (Nat.le_of_ble_eq_true rfl) rfl ?_
    refine g_aload_n X dX1_restore_18 0 rfl rfl ?_
    refine g_get X cb1 2 q_13_6 dX1_restore_19 0 0 rfl rfl (by decide) rfl rfl ?_
    refine g_aload_n X dX1_restore_22 0 rfl rfl ?_
    refine g_get X cb1 3 q_13_5 dX1_restore_23 0 0 rfl rfl (by decide) rfl rfl ?_
    refine g_iaddN X dX1_restore_26 ?_
    refine g_bipush (x := nI 6) X dX1_restore_27 (by decide +kernel) ?_
    refine g_iremN X dX1_restore_29 (by omega) (by omega) (by omega) ?_
    refine g_istore_n (lv' := [(3, .int (nI ((o + (c - 1)) % 6))), (0, .ref (h 0)), (1, .ref (a 0)), (2, .ref (b 0))]) X dX1_restore_30 rfl (by decide) rfl ?_
    have hk0 := hH.2.2 (c - 1) (by omega)
    obtain ⟨sl9, hsl, hs6⟩ : ∃ s9, s9 = (o + (c - 1)) % 6 ∧ s9 < 6 := ⟨_, rfl, Nat.mod_lt _ (by decide)⟩
    rw [← hsl]
    rw [← hsl] at hk0
    rcases (show sl9 = 0 ∨ sl9 = 1 ∨ sl9 = 2 ∨ sl9 = 3 ∨ sl9 = 4 ∨ sl9 = 5 by omega) with rfl | rfl | rfl | rfl | rfl | rfl
    · have hk := hk0
      have hn12 := hk.2.1.1
      rw [← hk.1] at hn12
      refine g_aload_n X dX1_restore_31 2 rfl rfl ?_
      refine g_aload_n X dX1_restore_32 1 rfl rfl ?_
      refine g_get X cb1 0 q_4_1 dX1_restore_33 0 0 rfl rfl (by decide) rfl rfl ?_
      refine g_iload_n X dX1_restore_36 0 rfl rfl ?_
      refine g_aald 4 X dX1_restore_37 0 1 rfl rfl rfl (by omega) (by omega) ?_
      show GG k _ _ _ _ _ (.ref (pw 0 0) :: _)
      refine g_callV (As := [.ref ((pw 0) 0)]) (rest := []) (wr := [[((h 0), .inr (1, [.ref (h 1), .ref (h 2), .int (nI o), .int (nI (c - 1))])), ((h 1), .inl (v.2.1 4, 6, .inr (.inr (.inr (.inr (hpf pw)))))), ((h 2), .inl (v.2.1 5, 6, .inr (.inr (.inr (.inr (hpf bw))))))], cAs v b g, cPg v (pw 1) (ns 1) (fs 1), cPg v (pw 2) (ns 2) (fs 2), cPg v (pw 3) (ns 3) (fs 3), cPg v (pw 4) (ns 4) (fs 4), cPg v (pw 5) (ns 5) (fs 5), cAs v (bw 0) (gs 0), cAs v (bw 1) (gs 1), cAs v (bw 2) (gs 2), cAs v (bw 3) (gs 3), cAs v (bw 4) (gs 4), cAs v (bw 5) (gs 5)]) X (c_X3_copyFrom l v a n f (pw 0) (ns 0) (fs 0) (by omega)) f_X3_copyFrom q_13_7 dX1_restore_38 [1, 3] [0, 2, 4, 5, 6, 7, 8, 9, 10, 11, 12, 13, 14] rfl rfl (by decide) 0 rfl rfl rfl rfl (Nat.le_of_ble_eq_true rfl) (by decide) (fun r_ w_ hp2 => ?_)
      obtain ⟨f_1, f_12, rfl⟩ := hp2
      show GG k _ _ [cPg v a (ns 0) f_1, cPg v (pw 0) (ns 0) (fs 0), [((h 0), .inr (1, [.ref (h 1), .ref (h 2), .int (nI o), .int (nI (c - 1))])), ((h 1), .inl (v.2.1 4, 6, .inr (.inr (.inr (.inr (hpf pw)))))), ((h 2), .inl (v.2.1 5, 6, .inr (.inr (.inr (.inr (hpf bw))))))], cAs v b g, cPg v (pw 1) (ns 1) (fs 1), cPg v (pw 2) (ns 2) (fs 2), cPg v (pw 3) (ns 3) (fs 3), cPg v (pw 4) (ns 4) (fs 4), cPg v (pw 5) (ns 5) (fs 5), cAs v (bw 0) (gs 0), cAs v (bw 1) (gs 1), cAs v (bw 2) (gs 2), cAs v (bw 3) (gs 3), cAs v (bw 4) (gs 4), cAs v (bw 5) (gs 5)] _ _ []
      refine g_pick (cs' := [[((h 0), .inr (1, [.ref (h 1), .ref (h 2), .int (nI o), .int (nI (c - 1))])), ((h 1), .inl (v.2.1 4, 6, .inr (.inr (.inr (.inr (hpf pw)))))), ((h 2), .inl (v.2.1 5, 6, .inr (.inr (.inr (.inr (hpf bw))))))], cPg v a (ns 0) f_1, cAs v b g, cPg v (pw 0) (ns 0) (fs 0), cPg v (pw 1) (ns 1) (fs 1), cPg v (pw 2) (ns 2) (fs 2), cPg v (pw 3) (ns 3) (fs 3), cPg v (pw 4) (ns 4) (fs 4), cPg v (pw 5) (ns 5) (fs 5), cAs v (bw 0) (gs 0), cAs v (bw 1) (gs 1), cAs v (bw 2) (gs 2), cAs v (bw 3) (gs 3), cAs v (bw 4) (gs 4), cAs v (bw 5) (gs 5)]) [2, 0, 3, 1, 4, 5, 6, 7, 8, 9, 10, 11, 12, 13, 14] rfl rfl ?_
      refine g_aload_n X dX1_restore_41 3 rfl rfl ?_
      refine g_aload_n X dX1_restore_42 1 rfl rfl ?_
      refine g_get X cb1 1 q_4_3 dX1_restore_43 0 0 rfl rfl (by decide) rfl rfl ?_
      refine g_iload_n X dX1_restore_46 0 rfl rfl ?_
      refine g_aald 5 X dX1_restore_47 0 2 rfl rfl rfl (by omega) (by omega) ?_
      show GG k _ _ _ _ _ (.ref (bw 0 0) :: _)
      refine g_callV (As := [.ref ((bw 0) 0)]) (rest := []) (wr := [[((h 0), .inr (1, [.ref (h 1), .ref (h 2), .int (nI o), .int (nI (c - 1))])), ((h 1), .inl (v.2.1 4, 6, .inr (.inr (.inr (.inr (hpf pw)))))), ((h 2), .inl (v.2.1 5, 6, .inr (.inr (.inr (.inr (hpf bw))))))], cPg v a (ns 0) f_1, cPg v (pw 0) (ns 0) (fs 0), cPg v (pw 1) (ns 1) (fs 1), cPg v (pw 2) (ns 2) (fs 2), cPg v (pw 3) (ns 3) (fs 3), cPg v (pw 4) (ns 4) (fs 4), cPg v (pw 5) (ns 5) (fs 5), cAs v (bw 1) (gs 1), cAs v (bw 2) (gs 2), cAs v (bw 3) (gs 3), cAs v (bw 4) (gs 4), cAs v (bw 5) (gs 5)]) X (c_X0_copyFrom l v b g (bw 0) (gs 0)) f_X0_copyFrom q_13_17 dX1_restore_48 [2, 9] [0, 1, 3, 4, 5, 6, 7, 8, 10, 11, 12, 13, 14] rfl rfl (by decide) 0 rfl rfl rfl rfl (Nat.le_of_ble_eq_true rfl) (by decide) (fun r_ w_ hp4 => ?_)
      obtain ⟨g_3, g_31, rfl⟩ := hp4
      show GG k _ _ [cAs v b g_3, cAs v (bw 0) (gs 0), [((h 0), .inr (1, [.ref (h 1), .ref (h 2), .int (nI o), .int (nI (c - 1))])), ((h 1), .inl (v.2.1 4, 6, .inr (.inr (.inr (.inr (hpf pw)))))), ((h 2), .inl (v.2.1 5, 6, .inr (.inr (.inr (.inr (hpf bw))))))], cPg v a (ns 0) f_1, cPg v (pw 0) (ns 0) (fs 0), cPg v (pw 1) (ns 1) (fs 1), cPg v (pw 2) (ns 2) (fs 2), cPg v (pw 3) (ns 3) (fs 3), cPg v (pw 4) (ns 4) (fs 4), cPg v (pw 5) (ns 5) (fs 5), cAs v (bw 1) (gs 1), cAs v (bw 2) (gs 2), cAs v (bw 3) (gs 3), cAs v (bw 4) (gs 4), cAs v (bw 5) (gs 5)] _ _ []
      refine g_pick (cs' := [[((h 0), .inr (1, [.ref (h 1), .ref (h 2), .int (nI o), .int (nI (c - 1))])), ((h 1), .inl (v.2.1 4, 6, .inr (.inr (.inr (.inr (hpf pw)))))), ((h 2), .inl (v.2.1 5, 6, .inr (.inr (.inr (.inr (hpf bw))))))], cPg v a (ns 0) f_1, cAs v b g_3, cPg v (pw 0) (ns 0) (fs 0), cPg v (pw 1) (ns 1) (fs 1), cPg v (pw 2) (ns 2) (fs 2), cPg v (pw 3) (ns 3) (fs 3), cPg v (pw 4) (ns 4) (fs 4), cPg v (pw 5) (ns 5) (fs 5), cAs v (bw 0) (gs 0), cAs v (bw 1) (gs 1), cAs v (bw 2) (gs 2), cAs v (bw 3) (gs 3), cAs v (bw 4) (gs 4), cAs v (bw 5) (gs 5)]) [2, 3, 0, 4, 5, 6, 7, 8, 9, 1, 10, 11, 12, 13, 14] rfl rfl ?_
      exact E dX1_restore_51 (by decide) (by decide) (⟨f_1, g_3, PgR_copy (hk.1 ▸ hk.2.2.1) (hk.1 ▸ f_12), AsR_copy hk.2.2.2.2 g_31, by rw [hk.1]⟩)
    · have hk := hk0
      have hn12 := hk.2.1.1
      rw [← hk.1] at hn12
      refine g_aload_n X dX1_restore_31 2 rfl rfl ?_
      refine g_aload_n X dX1_restore_32 1 rfl rfl ?_
      refine g_get X cb1 0 q_4_1 dX1_restore_33 0 0 rfl rfl (by decide) rfl rfl ?_
      refine g_iload_n X dX1_restore_36 0 rfl rfl ?_
      refine g_aald 4 X dX1_restore_37 0 1 rfl rfl rfl (by omega) (by omega) ?_
      show GG k _ _ _ _ _ (.ref (pw 1 0) :: _)
      refine g_callV (As := [.ref ((pw 1) 0)]) (rest := []) (wr := [[((h 0), .inr (1, [.ref (h 1), .ref (h 2), .int (nI o), .int (nI (c - 1))])), ((h 1), .inl (v.2.1 4, 6, .inr (.inr (.inr (.inr (hpf pw)))))), ((h 2), .inl (v.2.1 5, 6, .inr (.inr (.inr (.inr (hpf bw))))))], cAs v b g, cPg v (pw 0) (ns 0) (fs 0), cPg v (pw 2) (ns 2) (fs 2), cPg v (pw 3) (ns 3) (fs 3), cPg v (pw 4) (ns 4) (fs 4), cPg v (pw 5) (ns 5) (fs 5), cAs v (bw 0) (gs 0), cAs v (bw 1) (gs 1), cAs v (bw 2) (gs 2), cAs v (bw 3) (gs 3), cAs v (bw 4) (gs 4), cAs v (bw 5) (gs 5)]) X (c_X3_copyFrom l v a n f (pw 1) (ns 1) (fs 1) (by omega)) f_X3_copyFrom q_13_7 dX1_restore_38 [1, 4] [0, 2, 3, 5, 6, 7, 8, 9, 10, 11, 12, 13, 14] rfl rfl (by decide) 0 rfl rfl rfl rfl (Nat.le_of_ble_eq_true rfl) (by decide) (fun r_ w_ hp6 => ?_)
      obtain ⟨f_5, f_52, rfl⟩ := hp6
      show GG k _ _ [cPg v a (ns 1) f_5, cPg v (pw 1) (ns 1) (fs 1), [((h 0), .inr (1, [.ref (h 1), .ref (h 2), .int (nI o), .int (nI (c - 1))])), ((h 1), .inl (v.2.1 4, 6, .inr (.inr (.inr (.inr (hpf pw)))))), ((h 2), .inl (v.2.1 5, 6, .inr (.inr (.inr (.inr (hpf bw))))))], cAs v b g, cPg v (pw 0) (ns 0) (fs 0), cPg v (pw 2) (ns 2) (fs 2), cPg v (pw 3) (ns 3) (fs 3), cPg v (pw 4) (ns 4) (fs 4), cPg v (pw 5) (ns 5) (fs 5), cAs v (bw 0) (gs 0), cAs v (bw 1) (gs 1), cAs v (bw 2) (gs 2), cAs v (bw 3) (gs 3), cAs v (bw 4) (gs 4), cAs v (bw 5) (gs 5)] _ _ []
      refine g_pick (cs' := [[((h 0), .inr (1, [.ref (h 1), .ref (h 2), .int (nI o), .int (nI (c - 1))])), ((h 1), .inl (v.2.1 4, 6, .inr (.inr (.inr (.inr (hpf pw)))))), ((h 2), .inl (v.2.1 5, 6, .inr (.inr (.inr (.inr (hpf bw))))))], cPg v a (ns 1) f_5, cAs v b g, cPg v (pw 0) (ns 0) (fs 0), cPg v (pw 1) (ns 1) (fs 1), cPg v (pw 2) (ns 2) (fs 2), cPg v (pw 3) (ns 3) (fs 3), cPg v (pw 4) (ns 4) (fs 4), cPg v (pw 5) (ns 5) (fs 5), cAs v (bw 0) (gs 0), cAs v (bw 1) (gs 1), cAs v (bw 2) (gs 2), cAs v (bw 3) (gs 3), cAs v (bw 4) (gs 4), cAs v (bw 5) (gs 5)]) [2, 0, 3, 4, 1, 5, 6, 7, 8, 9, 10, 11, 12, 13, 14] rfl rfl ?_
      refine g_aload_n X dX1_restore_41 3 rfl rfl ?_
      refine g_aload_n X dX1_restore_42 1 rfl rfl ?_
      refine g_get X cb1 1 q_4_3 dX1_restore_43 0 0 rfl rfl (by decide) rfl rfl ?_
      refine g_iload_n X dX1_restore_46 0 rfl rfl ?_
      refine g_aald 5 X dX1_restore_47 0 2 rfl rfl rfl (by omega) (by omega) ?_
      show GG k _ _ _ _ _ (.ref (bw 1 0) :: _)
      refine g_callV (As := [.ref ((bw 1) 0)]) (rest := []) (wr := [[((h 0), .inr (1, [.ref (h 1), .ref (h 2), .int (nI o), .int (nI (c - 1))])), ((h 1), .inl (v.2.1 4, 6, .inr (.inr (.inr (.inr (hpf pw)))))), ((h 2), .inl (v.2.1 5, 6, .inr (.inr (.inr (.inr (hpf bw))))))], cPg v a (ns 1) f_5, cPg v (pw 0) (ns 0) (fs 0), cPg v (pw 1) (ns 1) (fs 1), cPg v (pw 2) (ns 2) (fs 2), cPg v (pw 3) (ns 3) (fs 3), cPg v (pw 4) (ns 4) (fs 4), cPg v (pw 5) (ns 5) (fs 5), cAs v (bw 0) (gs 0), cAs v (bw 2) (gs 2), cAs v (bw 3) (gs 3), cAs v (bw 4) (gs 4), cAs v (bw 5) (gs 5)]) X (c_X0_copyFrom l v b g (bw 1) (gs 1)) f_X0_copyFrom q_13_17 dX1_restore_48 [2, 10] [0, 1, 3, 4, 5, 6, 7, 8, 9, 11, 12, 13, 14] rfl rfl (by decide) 0 rfl rfl rfl rfl (Nat.le_of_ble_eq_true rfl) (by decide) (fun r_ w_ hp8 => ?_)
      obtain ⟨g_7, g_71, rfl⟩ := hp8
      show GG k _ _ [cAs v b g_7, cAs v (bw 1) (gs 1), [((h 0), .inr (1, [.ref (h 1), .ref (h 2), .int (nI o), .int (nI (c - 1))])), ((h 1), .inl (v.2.1 4, 6, .inr (.inr (.inr (.inr (hpf pw)))))), ((h 2), .inl (v.2.1 5, 6, .inr (.inr (.inr (.inr (hpf bw))))))], cPg v a (ns 1) f_5, cPg v (pw 0) (ns 0) (fs 0), cPg v (pw 1) (ns 1) (fs 1), cPg v (pw 2) (ns 2) (fs 2), cPg v (pw 3) (ns 3) (fs 3), cPg v (pw 4) (ns 4) (fs 4), cPg v (pw 5) (ns 5) (fs 5), cAs v (bw 0) (gs 0), cAs v (bw 2) (gs 2), cAs v (bw 3) (gs 3), cAs v (bw 4) (gs 4), cAs v (bw 5) (gs 5)] _ _ []
      refine g_pick (cs' := [[((h 0), .inr (1, [.ref (h 1), .ref (h 2), .int (nI o), .int (nI (c - 1))])), ((h 1), .inl (v.2.1 4, 6, .inr (.inr (.inr (.inr (hpf pw)))))), ((h 2), .inl (v.2.1 5, 6, .inr (.inr (.inr (.inr (hpf bw))))))], cPg v a (ns 1) f_5, cAs v b g_7, cPg v (pw 0) (ns 0) (fs 0), cPg v (pw 1) (ns 1) (fs 1), cPg v (pw 2) (ns 2) (fs 2), cPg v (pw 3) (ns 3) (fs 3), cPg v (pw 4) (ns 4) (fs 4), cPg v (pw 5) (ns 5) (fs 5), cAs v (bw 0) (gs 0), cAs v (bw 1) (gs 1), cAs v (bw 2) (gs 2), cAs v (bw 3) (gs 3), cAs v (bw 4) (gs 4), cAs v (bw 5) (gs 5)]) [2, 3, 0, 4, 5, 6, 7, 8, 9, 10, 1, 11, 12, 13, 14] rfl rfl ?_
      exact E dX1_restore_51 (by decide) (by decide) (⟨f_5, g_7, PgR_copy (hk.1 ▸ hk.2.2.1) (hk.1 ▸ f_52), AsR_copy hk.2.2.2.2 g_71, by rw [hk.1]⟩)
    · have hk := hk0
      have hn12 := hk.2.1.1
      rw [← hk.1] at hn12
      refine g_aload_n X dX1_restore_31 2 rfl rfl ?_
      refine g_aload_n X dX1_restore_32 1 rfl rfl ?_
      refine g_get X cb1 0 q_4_1 dX1_restore_33 0 0 rfl rfl (by decide) rfl rfl ?_
      refine g_iload_n X dX1_restore_36 0 rfl rfl ?_
      refine g_aald 4 X dX1_restore_37 0 1 rfl rfl rfl (by omega) (by omega) ?_
      show GG k _ _ _ _ _ (.ref (pw 2 0) :: _)
      refine g_callV (As := [.ref ((pw 2) 0)]) (rest := []) (wr := [[((h 0), .inr (1, [.ref (h 1), .ref (h 2), .int (nI o), .int (nI (c - 1))])), ((h 1), .inl (v.2.1 4, 6, .inr (.inr (.inr (.inr (hpf pw)))))), ((h 2), .inl (v.2.1 5, 6, .inr (.inr (.inr (.inr (hpf bw))))))], cAs v b g, cPg v (pw 0) (ns 0) (fs 0), cPg v (pw 1) (ns 1) (fs 1), cPg v (pw 3) (ns 3) (fs 3), cPg v (pw 4) (ns 4) (fs 4), cPg v (pw 5) (ns 5) (fs 5), cAs v (bw 0) (gs 0), cAs v (bw 1) (gs 1), cAs v (bw 2) (gs 2), cAs v (bw 3) (gs 3), cAs v (bw 4) (gs 4), cAs v (bw 5) (gs 5)]) X (c_X3_copyFrom l v a n f (pw 2) (ns 2) (fs 2) (by omega)) f_X3_copyFrom q_13_7 dX1_restore_38 [1, 5] [0, 2, 3, 4, 6, 7, 8, 9, 10, 11, 12, 13, 14] rfl rfl (by decide) 0 rfl rfl rfl rfl (Nat.le_of_ble_eq_true rfl) (by decide) (fun r_ w_ hp10 => ?_)
      obtain ⟨f_9, f_92, rfl⟩ := hp10
      show GG k _ _ [cPg v a (ns 2) f_9, cPg v (pw 2) (ns 2) (fs 2), [((h 0), .inr (1, [.ref (h 1), .ref (h 2), .int (nI o), .int (nI (c - 1))])), ((h 1), .inl (v.2.1 4, 6, .inr (.inr (.inr (.inr (hpf pw)))))), ((h 2), .inl (v.2.1 5, 6, .inr (.inr (.inr (.inr (hpf bw))))))], cAs v b g, cPg v (pw 0) (ns 0) (fs 0), cPg v (pw 1) (ns 1) (fs 1), cPg v (pw 3) (ns 3) (fs 3), cPg v (pw 4) (ns 4) (fs 4), cPg v (pw 5) (ns 5) (fs 5), cAs v (bw 0) (gs 0), cAs v (bw 1) (gs 1), cAs v (bw 2) (gs 2), cAs v (bw 3) (gs 3), cAs v (bw 4) (gs 4), cAs v (bw 5) (gs 5)] _ _ []
      refine g_pick (cs' := [[((h 0), .inr (1, [.ref (h 1), .ref (h 2), .int (nI o), .int (nI (c - 1))])), ((h 1), .inl (v.2.1 4, 6, .inr (.inr (.inr (.inr (hpf pw)))))), ((h 2), .inl (v.2.1 5, 6, .inr (.inr (.inr (.inr (hpf bw))))))], cPg v a (ns 2) f_9, cAs v b g, cPg v (pw 0) (ns 0) (fs 0), cPg v (pw 1) (ns 1) (fs 1), cPg v (pw 2) (ns 2) (fs 2), cPg v (pw 3) (ns 3) (fs 3), cPg v (pw 4) (ns 4) (fs 4), cPg v (pw 5) (ns 5) (fs 5), cAs v (bw 0) (gs 0), cAs v (bw 1) (gs 1), cAs v (bw 2) (gs 2), cAs v (bw 3) (gs 3), cAs v (bw 4) (gs 4), cAs v (bw 5) (gs 5)]) [2, 0, 3, 4, 5, 1, 6, 7, 8, 9, 10, 11, 12, 13, 14] rfl rfl ?_
      refine g_aload_n X dX1_restore_41 3 rfl rfl ?_
      refine g_aload_n X dX1_restore_42 1 rfl rfl ?_
      refine g_get X cb1 1 q_4_3 dX1_restore_43 0 0 rfl rfl (by decide) rfl rfl ?_
      refine g_iload_n X dX1_restore_46 0 rfl rfl ?_
      refine g_aald 5 X dX1_restore_47 0 2 rfl rfl rfl (by omega) (by omega) ?_
      show GG k _ _ _ _ _ (.ref (bw 2 0) :: _)
      refine g_callV (As := [.ref ((bw 2) 0)]) (rest := []) (wr := [[((h 0), .inr (1, [.ref (h 1), .ref (h 2), .int (nI o), .int (nI (c - 1))])), ((h 1), .inl (v.2.1 4, 6, .inr (.inr (.inr (.inr (hpf pw)))))), ((h 2), .inl (v.2.1 5, 6, .inr (.inr (.inr (.inr (hpf bw))))))], cPg v a (ns 2) f_9, cPg v (pw 0) (ns 0) (fs 0), cPg v (pw 1) (ns 1) (fs 1), cPg v (pw 2) (ns 2) (fs 2), cPg v (pw 3) (ns 3) (fs 3), cPg v (pw 4) (ns 4) (fs 4), cPg v (pw 5) (ns 5) (fs 5), cAs v (bw 0) (gs 0), cAs v (bw 1) (gs 1), cAs v (bw 3) (gs 3), cAs v (bw 4) (gs 4), cAs v (bw 5) (gs 5)]) X (c_X0_copyFrom l v b g (bw 2) (gs 2)) f_X0_copyFrom q_13_17 dX1_restore_48 [2, 11] [0, 1, 3, 4, 5, 6, 7, 8, 9, 10, 12, 13, 14] rfl rfl (by decide) 0 rfl rfl rfl rfl (Nat.le_of_ble_eq_true rfl) (by decide) (fun r_ w_ hp12 => ?_)
      obtain ⟨g_11, g_111, rfl⟩ := hp12
      show GG k _ _ [cAs v b g_11, cAs v (bw 2) (gs 2), [((h 0), .inr (1, [.ref (h 1), .ref (h 2), .int (nI o), .int (nI (c - 1))])), ((h 1), .inl (v.2.1 4, 6, .inr (.inr (.inr (.inr (hpf pw)))))), ((h 2), .inl (v.2.1 5, 6, .inr (.inr (.inr (.inr (hpf bw))))))], cPg v a (ns 2) f_9, cPg v (pw 0) (ns 0) (fs 0), cPg v (pw 1) (ns 1) (fs 1), cPg v (pw 2) (ns 2) (fs 2), cPg v (pw 3) (ns 3) (fs 3), cPg v (pw 4) (ns 4) (fs 4), cPg v (pw 5) (ns 5) (fs 5), cAs v (bw 0) (gs 0), cAs v (bw 1) (gs 1), cAs v (bw 3) (gs 3), cAs v (bw 4) (gs 4), cAs v (bw 5) (gs 5)] _ _ []
      refine g_pick (cs' := [[((h 0), .inr (1, [.ref (h 1), .ref (h 2), .int (nI o), .int (nI (c - 1))])), ((h 1), .inl (v.2.1 4, 6, .inr (.inr (.inr (.inr (hpf pw)))))), ((h 2), .inl (v.2.1 5, 6, .inr (.inr (.inr (.inr (hpf bw))))))], cPg v a (ns 2) f_9, cAs v b g_11, cPg v (pw 0) (ns 0) (fs 0), cPg v (pw 1) (ns 1) (fs 1), cPg v (pw 2) (ns 2) (fs 2), cPg v (pw 3) (ns 3) (fs 3), cPg v (pw 4) (ns 4) (fs 4), cPg v (pw 5) (ns 5) (fs 5), cAs v (bw 0) (gs 0), cAs v (bw 1) (gs 1), cAs v (bw 2) (gs 2), cAs v (bw 3) (gs 3), cAs v (bw 4) (gs 4), cAs v (bw 5) (gs 5)]) [2, 3, 0, 4, 5, 6, 7, 8, 9, 10, 11, 1, 12, 13, 14] rfl rfl ?_
      exact E dX1_restore_51 (by decide) (by decide) (⟨f_9, g_11, PgR_copy (hk.1 ▸ hk.2.2.1) (hk.1 ▸ f_92), AsR_copy hk.2.2.2.2 g_111, by rw [hk.1]⟩)
    · have hk := hk0
      have hn12 := hk.2.1.1
      rw [← hk.1] at hn12
      refine g_aload_n X dX1_restore_31 2 rfl rfl ?_
      refine g_aload_n X dX1_restore_32 1 rfl rfl ?_
      refine g_get X cb1 0 q_4_1 dX1_restore_33 0 0 rfl rfl (by decide) rfl rfl ?_
      refine g_iload_n X dX1_restore_36 0 rfl rfl ?_
      refine g_aald 4 X dX1_restore_37 0 1 rfl rfl rfl (by omega) (by omega) ?_
      show GG k _ _ _ _ _ (.ref (pw 3 0) :: _)
      refine g_callV (As := [.ref ((pw 3) 0)]) (rest := []) (wr := [[((h 0), .inr (1, [.ref (h 1), .ref (h 2), .int (nI o), .int (nI (c - 1))])), ((h 1), .inl (v.2.1 4, 6, .inr (.inr (.inr (.inr (hpf pw)))))), ((h 2), .inl (v.2.1 5, 6, .inr (.inr (.inr (.inr (hpf bw))))))], cAs v b g, cPg v (pw 0) (ns 0) (fs 0), cPg v (pw 1) (ns 1) (fs 1), cPg v (pw 2) (ns 2) (fs 2), cPg v (pw 4) (ns 4) (fs 4), cPg v (pw 5) (ns 5) (fs 5), cAs v (bw 0) (gs 0), cAs v (bw 1) (gs 1), cAs v (bw 2) (gs 2), cAs v (bw 3) (gs 3), cAs v (bw 4) (gs 4), cAs v (bw 5) (gs 5)]) X (c_X3_copyFrom l v a n f (pw 3) (ns 3) (fs 3) (by omega)) f_X3_copyFrom q_13_7 dX1_restore_38 [1, 6] [0, 2, 3, 4, 5, 7, 8, 9, 10, 11, 12, 13, 14] rfl rfl (by decide) 0 rfl rfl rfl rfl (Nat.le_of_ble_eq_true rfl) (by decide) (fun r_ w_ hp14 => ?_)
      obtain ⟨f_13, f_132, rfl⟩ := hp14
      show GG k _ _ [cPg v a (ns 3) f_13, cPg v (pw 3) (ns 3) (fs 3), [((h 0), .inr (1, [.ref (h 1), .ref (h 2), .int (nI o), .int (nI (c - 1))])), ((h 1), .inl (v.2.1 4, 6, .inr (.inr (.inr (.inr (hpf pw)))))), ((h 2), .inl (v.2.1 5, 6, .inr (.inr (.inr (.inr (hpf bw))))))], cAs v b g, cPg v (pw 0) (ns 0) (fs 0), cPg v (pw 1) (ns 1) (fs 1), cPg v (pw 2) (ns 2) (fs 2), cPg v (pw 4) (ns 4) (fs 4), cPg v (pw 5) (ns 5) (fs 5), cAs v (bw 0) (gs 0), cAs v (bw 1) (gs 1), cAs v (bw 2) (gs 2), cAs v (bw 3) (gs 3), cAs v (bw 4) (gs 4), cAs v (bw 5) (gs 5)] _ _ []
      refine g_pick (cs' := [[((h 0), .inr (1, [.ref (h 1), .ref (h 2), .int (nI o), .int (nI (c - 1))])), ((h 1), .inl (v.2.1 4, 6, .inr (.inr (.inr (.inr (hpf pw)))))), ((h 2), .inl (v.2.1 5, 6, .inr (.inr (.inr (.inr (hpf bw))))))], cPg v a (ns 3) f_13, cAs v b g, cPg v (pw 0) (ns 0) (fs 0), cPg v (pw 1) (ns 1) (fs 1), cPg v (pw 2) (ns 2) (fs 2), cPg v (pw 3) (ns 3) (fs 3), cPg v (pw 4) (ns 4) (fs 4), cPg v (pw 5) (ns 5) (fs 5), cAs v (bw 0) (gs 0), cAs v (bw 1) (gs 1), cAs v (bw 2) (gs 2), cAs v (bw 3) (gs 3), cAs v (bw 4) (gs 4), cAs v (bw 5) (gs 5)]) [2, 0, 3, 4, 5, 6, 1, 7, 8, 9, 10, 11, 12, 13, 14] rfl rfl ?_
      refine g_aload_n X dX1_restore_41 3 rfl rfl ?_
      refine g_aload_n X dX1_restore_42 1 rfl rfl ?_
      refine g_get X cb1 1 q_4_3 dX1_restore_43 0 0 rfl rfl (by decide) rfl rfl ?_
      refine g_iload_n X dX1_restore_46 0 rfl rfl ?_
      refine g_aald 5 X dX1_restore_47 0 2 rfl rfl rfl (by omega) (by omega) ?_
      show GG k _ _ _ _ _ (.ref (bw 3 0) :: _)
      refine g_callV (As := [.ref ((bw 3) 0)]) (rest := []) (wr := [[((h 0), .inr (1, [.ref (h 1), .ref (h 2), .int (nI o), .int (nI (c - 1))])), ((h 1), .inl (v.2.1 4, 6, .inr (.inr (.inr (.inr (hpf pw)))))), ((h 2), .inl (v.2.1 5, 6, .inr (.inr (.inr (.inr (hpf bw))))))], cPg v a (ns 3) f_13, cPg v (pw 0) (ns 0) (fs 0), cPg v (pw 1) (ns 1) (fs 1), cPg v (pw 2) (ns 2) (fs 2), cPg v (pw 3) (ns 3) (fs 3), cPg v (pw 4) (ns 4) (fs 4), cPg v (pw 5) (ns 5) (fs 5), cAs v (bw 0) (gs 0), cAs v (bw 1) (gs 1), cAs v (bw 2) (gs 2), cAs v (bw 4) (gs 4), cAs v (bw 5) (gs 5)]) X (c_X0_copyFrom l v b g (bw 3) (gs 3)) f_X0_copyFrom q_13_17 dX1_restore_48 [2, 12] [0, 1, 3, 4, 5, 6, 7, 8, 9, 10, 11, 13, 14] rfl rfl (by decide) 0 rfl rfl rfl rfl (Nat.le_of_ble_eq_true rfl) (by decide) (fun r_ w_ hp16 => ?_)
      obtain ⟨g_15, g_151, rfl⟩ := hp16
      show GG k _ _ [cAs v b g_15, cAs v (bw 3) (gs 3), [((h 0), .inr (1, [.ref (h 1), .ref (h 2), .int (nI o), .int (nI (c - 1))])), ((h 1), .inl (v.2.1 4, 6, .inr (.inr (.inr (.inr (hpf pw)))))), ((h 2), .inl (v.2.1 5, 6, .inr (.inr (.inr (.inr (hpf bw))))))], cPg v a (ns 3) f_13, cPg v (pw 0) (ns 0) (fs 0), cPg v (pw 1) (ns 1) (fs 1), cPg v (pw 2) (ns 2) (fs 2), cPg v (pw 3) (ns 3) (fs 3), cPg v (pw 4) (ns 4) (fs 4), cPg v (pw 5) (ns 5) (fs 5), cAs v (bw 0) (gs 0), cAs v (bw 1) (gs 1), cAs v (bw 2) (gs 2), cAs v (bw 4) (gs 4), cAs v (bw 5) (gs 5)] _ _ []
      refine g_pick (cs' := [[((h 0), .inr (1, [.ref (h 1), .ref (h 2), .int (nI o), .int (nI (c - 1))])), ((h 1), .inl (v.2.1 4, 6, .inr (.inr (.inr (.inr (hpf pw)))))), ((h 2), .inl (v.2.1 5, 6, .inr (.inr (.inr (.inr (hpf bw))))))], cPg v a (ns 3) f_13, cAs v b g_15, cPg v (pw 0) (ns 0) (fs 0), cPg v (pw 1) (ns 1) (fs 1), cPg v (pw 2) (ns 2) (fs 2), cPg v (pw 3) (ns 3) (fs 3), cPg v (pw 4) (ns 4) (fs 4), cPg v (pw 5) (ns 5) (fs 5), cAs v (bw 0) (gs 0), cAs v (bw 1) (gs 1), cAs v (bw 2) (gs 2), cAs v (bw 3) (gs 3), cAs v (bw 4) (gs 4), cAs v (bw 5) (gs 5)]) [2, 3, 0, 4, 5, 6, 7, 8, 9, 10, 11, 12, 1, 13, 14] rfl rfl ?_
      exact E dX1_restore_51 (by decide) (by decide) (⟨f_13, g_15, PgR_copy (hk.1 ▸ hk.2.2.1) (hk.1 ▸ f_132), AsR_copy hk.2.2.2.2 g_151, by rw [hk.1]⟩)
    · have hk := hk0
      have hn12 := hk.2.1.1
      rw [← hk.1] at hn12
      refine g_aload_n X dX1_restore_31 2 rfl rfl ?_
      refine g_aload_n X dX1_restore_32 1 rfl rfl ?_
      refine g_get X cb1 0 q_4_1 dX1_restore_33 0 0 rfl rfl (by decide) rfl rfl ?_
      refine g_iload_n X dX1_restore_36 0 rfl rfl ?_
      refine g_aald 4 X dX1_restore_37 0 1 rfl rfl rfl (by omega) (by omega) ?_
      show GG k _ _ _ _ _ (.ref (pw 4 0) :: _)
      refine g_callV (As := [.ref ((pw 4) 0)]) (rest := []) (wr := [[((h 0), .inr (1, [.ref (h 1), .ref (h 2), .int (nI o), .int (nI (c - 1))])), ((h 1), .inl (v.2.1 4, 6, .inr (.inr (.inr (.inr (hpf pw)))))), ((h 2), .inl (v.2.1 5, 6, .inr (.inr (.inr (.inr (hpf bw))))))], cAs v b g, cPg v (pw 0) (ns 0) (fs 0), cPg v (pw 1) (ns 1) (fs 1), cPg v (pw 2) (ns 2) (fs 2), cPg v (pw 3) (ns 3) (fs 3), cPg v (pw 5) (ns 5) (fs 5), cAs v (bw 0) (gs 0), cAs v (bw 1) (gs 1), cAs v (bw 2) (gs 2), cAs v (bw 3) (gs 3), cAs v (bw 4) (gs 4), cAs v (bw 5) (gs 5)]) X (c_X3_copyFrom l v a n f (pw 4) (ns 4) (fs 4) (by omega)) f_X3_copyFrom q_13_7 dX1_restore_38 [1, 7] [0, 2, 3, 4, 5, 6, 8, 9, 10, 11, 12, 13, 14] rfl rfl (by decide) 0 rfl rfl rfl rfl (Nat.le_of_ble_eq_true rfl) (by decide) (fun r_ w_ hp18 => ?_)
      obtain ⟨f_17, f_172, rfl⟩ := hp18
      show GG k _ _ [cPg v a (ns 4) f_17, cPg v (pw 4) (ns 4) (fs 4), [((h 0), .inr (1, [.ref (h 1), .ref (h 2), .int (nI o), .int (nI (c - 1))])), ((h 1), .inl (v.2.1 4, 6, .inr (.inr (.inr (.inr (hpf pw)))))), ((h 2), .inl (v.2.1 5, 6, .inr (.inr (.inr (.inr (hpf bw))))))], cAs v b g, cPg v (pw 0) (ns 0) (fs 0), cPg v (pw 1) (ns 1) (fs 1), cPg v (pw 2) (ns 2) (fs 2), cPg v (pw 3) (ns 3) (fs 3), cPg v (pw 5) (ns 5) (fs 5), cAs v (bw 0) (gs 0), cAs v (bw 1) (gs 1), cAs v (bw 2) (gs 2), cAs v (bw 3) (gs 3), cAs v (bw 4) (gs 4), cAs v (bw 5) (gs 5)] _ _ []
      refine g_pick (cs' := [[((h 0), .inr (1, [.ref (h 1), .ref (h 2), .int (nI o), .int (nI (c - 1))])), ((h 1), .inl (v.2.1 4, 6, .inr (.inr (.inr (.inr (hpf pw)))))), ((h 2), .inl (v.2.1 5, 6, .inr (.inr (.inr (.inr (hpf bw))))))], cPg v a (ns 4) f_17, cAs v b g, cPg v (pw 0) (ns 0) (fs 0), cPg v (pw 1) (ns 1) (fs 1), cPg v (pw 2) (ns 2) (fs 2), cPg v (pw 3) (ns 3) (fs 3), cPg v (pw 4) (ns 4) (fs 4), cPg v (pw 5) (ns 5) (fs 5), cAs v (bw 0) (gs 0), cAs v (bw 1) (gs 1), cAs v (bw 2) (gs 2), cAs v (bw 3) (gs 3), cAs v (bw 4) (gs 4), cAs v (bw 5) (gs 5)]) [2, 0, 3, 4, 5, 6, 7, 1, 8, 9, 10, 11, 12, 13, 14] rfl rfl ?_
      refine g_aload_n X dX1_restore_41 3 rfl rfl ?_
      refine g_aload_n X dX1_restore_42 1 rfl rfl ?_
      refine g_get X cb1 1 q_4_3 dX1_restore_43 0 0 rfl rfl (by decide) rfl rfl ?_
      refine g_iload_n X dX1_restore_46 0 rfl rfl ?_
      refine g_aald 5 X dX1_restore_47 0 2 rfl rfl rfl (by omega) (by omega) ?_
      show GG k _ _ _ _ _ (.ref (bw 4 0) :: _)
      refine g_callV (As := [.ref ((bw 4) 0)]) (rest := []) (wr := [[((h 0), .inr (1, [.ref (h 1), .ref (h 2), .int (nI o), .int (nI (c - 1))])), ((h 1), .inl (v.2.1 4, 6, .inr (.inr (.inr (.inr (hpf pw)))))), ((h 2), .inl (v.2.1 5, 6, .inr (.inr (.inr (.inr (hpf bw))))))], cPg v a (ns 4) f_17, cPg v (pw 0) (ns 0) (fs 0), cPg v (pw 1) (ns 1) (fs 1), cPg v (pw 2) (ns 2) (fs 2), cPg v (pw 3) (ns 3) (fs 3), cPg v (pw 4) (ns 4) (fs 4), cPg v (pw 5) (ns 5) (fs 5), cAs v (bw 0) (gs 0), cAs v (bw 1) (gs 1), cAs v (bw 2) (gs 2), cAs v (bw 3) (gs 3), cAs v (bw 5) (gs 5)]) X (c_X0_copyFrom l v b g (bw 4) (gs 4)) f_X0_copyFrom q_13_17 dX1_restore_48 [2, 13] [0, 1, 3, 4, 5, 6, 7, 8, 9, 10, 11, 12, 14] rfl rfl (by decide) 0 rfl rfl rfl rfl (Nat.le_of_ble_eq_true rfl) (by decide) (fun r_ w_ hp20 => ?_)
      obtain ⟨g_19, g_191, rfl⟩ := hp20
      show GG k _ _ [cAs v b g_19, cAs v (bw 4) (gs 4), [((h 0), .inr (1, [.ref (h 1), .ref (h 2), .int (nI o), .int (nI (c - 1))])), ((h 1), .inl (v.2.1 4, 6, .inr (.inr (.inr (.inr (hpf pw)))))), ((h 2), .inl (v.2.1 5, 6, .inr (.inr (.inr (.inr (hpf bw))))))], cPg v a (ns 4) f_17, cPg v (pw 0) (ns 0) (fs 0), cPg v (pw 1) (ns 1) (fs 1), cPg v (pw 2) (ns 2) (fs 2), cPg v (pw 3) (ns 3) (fs 3), cPg v (pw 4) (ns 4) (fs 4), cPg v (pw 5) (ns 5) (fs 5), cAs v (bw 0) (gs 0), cAs v (bw 1) (gs 1), cAs v (bw 2) (gs 2), cAs v (bw 3) (gs 3), cAs v (bw 5) (gs 5)] _ _ []
      refine g_pick (cs' := [[((h 0), .inr (1, [.ref (h 1), .ref (h 2), .int (nI o), .int (nI (c - 1))])), ((h 1), .inl (v.2.1 4, 6, .inr (.inr (.inr (.inr (hpf pw)))))), ((h 2), .inl (v.2.1 5, 6, .inr (.inr (.inr (.inr (hpf bw))))))], cPg v a (ns 4) f_17, cAs v b g_19, cPg v (pw 0) (ns 0) (fs 0), cPg v (pw 1) (ns 1) (fs 1), cPg v (pw 2) (ns 2) (fs 2), cPg v (pw 3) (ns 3) (fs 3), cPg v (pw 4) (ns 4) (fs 4), cPg v (pw 5) (ns 5) (fs 5), cAs v (bw 0) (gs 0), cAs v (bw 1) (gs 1), cAs v (bw 2) (gs 2), cAs v (bw 3) (gs 3), cAs v (bw 4) (gs 4), cAs v (bw 5) (gs 5)]) [2, 3, 0, 4, 5, 6, 7, 8, 9, 10, 11, 12, 13, 1, 14] rfl rfl ?_
      exact E dX1_restore_51 (by decide) (by decide) (⟨f_17, g_19, PgR_copy (hk.1 ▸ hk.2.2.1) (hk.1 ▸ f_172), AsR_copy hk.2.2.2.2 g_191, by rw [hk.1]⟩)
    · have hk := hk0
      have hn12 := hk.2.1.1
      rw [← hk.1] at hn12
      refine g_aload_n X dX1_restore_31 2 rfl rfl ?_
      refine g_aload_n X dX1_restore_32 1 rfl rfl ?_
      refine g_get X cb1 0 q_4_1 dX1_restore_33 0 0 rfl rfl (by decide) rfl rfl ?_
      refine g_iload_n X dX1_restore_36 0 rfl rfl ?_
      refine g_aald 4 X dX1_restore_37 0 1 rfl rfl rfl (by omega) (by omega) ?_
      show GG k _ _ _ _ _ (.ref (pw 5 0) :: _)
      refine g_callV (As := [.ref ((pw 5) 0)]) (rest := []) (wr := [[((h 0), .inr (1, [.ref (h 1), .ref (h 2), .int (nI o), .int (nI (c - 1))])), ((h 1), .inl (v.2.1 4, 6, .inr (.inr (.inr (.inr (hpf pw)))))), ((h 2), .inl (v.2.1 5, 6, .inr (.inr (.inr (.inr (hpf bw))))))], cAs v b g, cPg v (pw 0) (ns 0) (fs 0), cPg v (pw 1) (ns 1) (fs 1), cPg v (pw 2) (ns 2) (fs 2), cPg v (pw 3) (ns 3) (fs 3), cPg v (pw 4) (ns 4) (fs 4), cAs v (bw 0) (gs 0), cAs v (bw 1) (gs 1), cAs v (bw 2) (gs 2), cAs v (bw 3) (gs 3), cAs v (bw 4) (gs 4), cAs v (bw 5) (gs 5)]) X (c_X3_copyFrom l v a n f (pw 5) (ns 5) (fs 5) (by omega)) f_X3_copyFrom q_13_7 dX1_restore_38 [1, 8] [0, 2, 3, 4, 5, 6, 7, 9, 10, 11, 12, 13, 14] rfl rfl (by decide) 0 rfl rfl rfl rfl (Nat.le_of_ble_eq_true rfl) (by decide) (fun r_ w_ hp22 => ?_)
      obtain ⟨f_21, f_212, rfl⟩ := hp22
      show GG k _ _ [cPg v a (ns 5) f_21, cPg v (pw 5) (ns 5) (fs 5), [((h 0), .inr (1, [.ref (h 1), .ref (h 2), .int (nI o), .int (nI (c - 1))])), ((h 1), .inl (v.2.1 4, 6, .inr (.inr (.inr (.inr (hpf pw)))))), ((h 2), .inl (v.2.1 5, 6, .inr (.inr (.inr (.inr (hpf bw))))))], cAs v b g, cPg v (pw 0) (ns 0) (fs 0), cPg v (pw 1) (ns 1) (fs 1), cPg v (pw 2) (ns 2) (fs 2), cPg v (pw 3) (ns 3) (fs 3), cPg v (pw 4) (ns 4) (fs 4), cAs v (bw 0) (gs 0), cAs v (bw 1) (gs 1), cAs v (bw 2) (gs 2), cAs v (bw 3) (gs 3), cAs v (bw 4) (gs 4), cAs v (bw 5) (gs 5)] _ _ []
      refine g_pick (cs' := [[((h 0), .inr (1, [.ref (h 1), .ref (h 2), .int (nI o), .int (nI (c - 1))])), ((h 1), .inl (v.2.1 4, 6, .inr (.inr (.inr (.inr (hpf pw)))))), ((h 2), .inl (v.2.1 5, 6, .inr (.inr (.inr (.inr (hpf bw))))))], cPg v a (ns 5) f_21, cAs v b g, cPg v (pw 0) (ns 0) (fs 0), cPg v (pw 1) (ns 1) (fs 1), cPg v (pw 2) (ns 2) (fs 2), cPg v (pw 3) (ns 3) (fs 3), cPg v (pw 4) (ns 4) (fs 4), cPg v (pw 5) (ns 5) (fs 5), cAs v (bw 0) (gs 0), cAs v (bw 1) (gs 1), cAs v (bw 2) (gs 2), cAs v (bw 3) (gs 3), cAs v (bw 4) (gs 4), cAs v (bw 5) (gs 5)]) [2, 0, 3, 4, 5, 6, 7, 8, 1, 9, 10, 11, 12, 13, 14] rfl rfl ?_
      refine g_aload_n X dX1_restore_41 3 rfl rfl ?_
      refine g_aload_n X dX1_restore_42 1 rfl rfl ?_
      refine g_get X cb1 1 q_4_3 dX1_restore_43 0 0 rfl rfl (by decide) rfl rfl ?_
      refine g_iload_n X dX1_restore_46 0 rfl rfl ?_
      refine g_aald 5 X dX1_restore_47 0 2 rfl rfl rfl (by omega) (by omega) ?_
      show GG k _ _ _ _ _ (.ref (bw 5 0) :: _)
      refine g_callV (As := [.ref ((bw 5) 0)]) (rest := []) (wr := [[((h 0), .inr (1, [.ref (h 1), .ref (h 2), .int (nI o), .int (nI (c - 1))])), ((h 1), .inl (v.2.1 4, 6, .inr (.inr (.inr (.inr (hpf pw)))))), ((h 2), .inl (v.2.1 5, 6, .inr (.inr (.inr (.inr (hpf bw))))))], cPg v a (ns 5) f_21, cPg v (pw 0) (ns 0) (fs 0), cPg v (pw 1) (ns 1) (fs 1), cPg v (pw 2) (ns 2) (fs 2), cPg v (pw 3) (ns 3) (fs 3), cPg v (pw 4) (ns 4) (fs 4), cPg v (pw 5) (ns 5) (fs 5), cAs v (bw 0) (gs 0), cAs v (bw 1) (gs 1), cAs v (bw 2) (gs 2), cAs v (bw 3) (gs 3), cAs v (bw 4) (gs 4)]) X (c_X0_copyFrom l v b g (bw 5) (gs 5)) f_X0_copyFrom q_13_17 dX1_restore_48 [2, 14] [0, 1, 3, 4, 5, 6, 7, 8, 9, 10, 11, 12, 13] rfl rfl (by decide) 0 rfl rfl rfl rfl (Nat.le_of_ble_eq_true rfl) (by decide) (fun r_ w_ hp24 => ?_)
      obtain ⟨g_23, g_231, rfl⟩ := hp24
      show GG k _ _ [cAs v b g_23, cAs v (bw 5) (gs 5), [((h 0), .inr (1, [.ref (h 1), .ref (h 2), .int (nI o), .int (nI (c - 1))])), ((h 1), .inl (v.2.1 4, 6, .inr (.inr (.inr (.inr (hpf pw)))))), ((h 2), .inl (v.2.1 5, 6, .inr (.inr (.inr (.inr (hpf bw))))))], cPg v a (ns 5) f_21, cPg v (pw 0) (ns 0) (fs 0), cPg v (pw 1) (ns 1) (fs 1), cPg v (pw 2) (ns 2) (fs 2), cPg v (pw 3) (ns 3) (fs 3), cPg v (pw 4) (ns 4) (fs 4), cPg v (pw 5) (ns 5) (fs 5), cAs v (bw 0) (gs 0), cAs v (bw 1) (gs 1), cAs v (bw 2) (gs 2), cAs v (bw 3) (gs 3), cAs v (bw 4) (gs 4)] _ _ []
      refine g_pick (cs' := [[((h 0), .inr (1, [.ref (h 1), .ref (h 2), .int (nI o), .int (nI (c - 1))])), ((h 1), .inl (v.2.1 4, 6, .inr (.inr (.inr (.inr (hpf pw)))))), ((h 2), .inl (v.2.1 5, 6, .inr (.inr (.inr (.inr (hpf bw))))))], cPg v a (ns 5) f_21, cAs v b g_23, cPg v (pw 0) (ns 0) (fs 0), cPg v (pw 1) (ns 1) (fs 1), cPg v (pw 2) (ns 2) (fs 2), cPg v (pw 3) (ns 3) (fs 3), cPg v (pw 4) (ns 4) (fs 4), cPg v (pw 5) (ns 5) (fs 5), cAs v (bw 0) (gs 0), cAs v (bw 1) (gs 1), cAs v (bw 2) (gs 2), cAs v (bw 3) (gs 3), cAs v (bw 4) (gs 4), cAs v (bw 5) (gs 5)]) [2, 3, 0, 4, 5, 6, 7, 8, 9, 10, 11, 12, 13, 14, 1] rfl rfl ?_
      exact E dX1_restore_51 (by decide) (by decide) (⟨f_21, g_23, PgR_copy (hk.1 ▸ hk.2.2.1) (hk.1 ▸ f_212), AsR_copy hk.2.2.2.2 g_231, by rw [hk.1]⟩)
  · omega


