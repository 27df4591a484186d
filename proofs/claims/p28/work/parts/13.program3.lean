/-! ## Program: what changes it -/
set_option maxHeartbeats 4000000 in
set_option maxRecDepth 100000 in
theorem c_X3_clear (l : Launch) (v : VV) (a : Nat → Nat) (n : Nat) (f : Nat → Nat → Int32) : MU l v yX3_clear cX3_clear 1 none ({ frames := 0, cells := 0, slots := 0, locals := 0 }) [.ref (a 0)] [cPg v a n f] (fun _ w_ => w_ = [cPg v a 0 f]) 0 0 := by
  refine mm_void rfl (by decide) (Nat.le_of_ble_eq_true rfl) [(0, .ref (a 0))] rfl (fun k X hin E => ?_)
  refine g_aload_n X dX3_clear_0 0 rfl rfl ?_
  refine g_iconst (x := nI 0) X dX3_clear_1 (by decide +kernel) ?_
  refine g_put (cs' := [[((a 0), .inr (3, [.int (nI 0), .ref (a 1), .ref (a 2), .ref (a 3), .ref (a 4), .ref (a 5), .ref (a 6)])), ((a 1), .inl (v.2.1 0, 12, .inl (f 0))), ((a 2), .inl (v.2.1 0, 12, .inl (f 1))), ((a 3), .inl (v.2.1 0, 12, .inl (f 2))), ((a 4), .inl (v.2.1 0, 12, .inl (f 3))), ((a 5), .inl (v.2.1 0, 12, .inl (f 4))), ((a 6), .inl (v.2.1 0, 12, .inl (f 5)))]]) X cb3 0 q_6_17 dX3_clear_2 0 0 rfl rfl (by decide) rfl rfl (rfl) (rfl) (Nat.le_of_ble_eq_true rfl) rfl ?_
  exact E dX3_clear_5 (by decide) (by decide) (rfl)

set_option maxHeartbeats 4000000 in
set_option maxRecDepth 100000 in
theorem c_X3_put (l : Launch) (v : VV) (a : Nat → Nat) (n : Nat) (f : Nat → Nat → Int32) (x0 : Int32) (x1 : Int32) (x2 : Int32) (x3 : Int32) (x4 : Int32) (x5 : Int32) (hn : n < 12) : MU l v yX3_put cX3_put 7 none ({ frames := 0, cells := 0, slots := 0, locals := 0 }) [.ref (a 0), .int x0, .int x1, .int x2, .int x3, .int x4, .int x5] [cPg v a n f] (fun _ w_ => w_ = [cPg v a (n + 1) (pu f n (x6 x0 x1 x2 x3 x4 x5))]) 0 0 := by
  refine mm_void rfl (by decide) (Nat.le_of_ble_eq_true rfl) [(0, .ref (a 0)), (1, .int x0), (2, .int x1), (3, .int x2), (4, .int x3), (5, .int x4), (6, .int x5)] rfl (fun k X hin E => ?_)
  refine g_aload_n X dX3_put_0 0 rfl rfl ?_
  refine g_get X cb3 0 q_6_17 dX3_put_1 0 0 rfl rfl (by decide) rfl rfl ?_
  refine g_bipush (x := nI 12) X dX3_put_4 (by decide +kernel) ?_
  refine g_icmp_ltN (tgt := 10) X dX3_put_6 (by decide) (by omega) (by omega) (fun c6 => ?_) (fun c6 => ?_)
  · refine g_aload_n X dX3_put_10 0 rfl rfl ?_
    refine g_get X cb3 1 q_2_13 dX3_put_11 0 0 rfl rfl (by decide) rfl rfl ?_
    refine g_aload_n X dX3_put_14 0 rfl rfl ?_
    refine g_get X cb3 0 q_6_17 dX3_put_15 0 0 rfl rfl (by decide) rfl rfl ?_
    refine g_iload_n X dX3_put_18 1 rfl rfl ?_
    refine g_iast (cs' := [[((a 0), .inr (3, [.int (nI n), .ref (a 1), .ref (a 2), .ref (a 3), .ref (a 4), .ref (a 5), .ref (a 6)])), ((a 1), .inl (v.2.1 0, 12, .inl (upd (f 0) n x0))), ((a 2), .inl (v.2.1 0, 12, .inl (f 1))), ((a 3), .inl (v.2.1 0, 12, .inl (f 2))), ((a 4), .inl (v.2.1 0, 12, .inl (f 3))), ((a 5), .inl (v.2.1 0, 12, .inl (f 4))), ((a 6), .inl (v.2.1 0, 12, .inl (f 5)))]]) X dX3_put_19 0 1 rfl rfl (by omega) (by omega) rfl ?_
    refine g_aload_n X dX3_put_20 0 rfl rfl ?_
    refine g_get X cb3 2 q_2_14 dX3_put_21 0 0 rfl rfl (by decide) rfl rfl ?_
    refine g_aload_n X dX3_put_24 0 rfl rfl ?_
    refine g_get X cb3 0 q_6_17 dX3_put_25 0 0 rfl rfl (by decide) rfl rfl ?_
    refine g_iload_n X dX3_put_28 2 rfl rfl ?_
    refine g_iast (cs' := [[((a 0), .inr (3, [.int (nI n), .ref (a 1), .ref (a 2), .ref (a 3), .ref (a 4), .ref (a 5), .ref (a 6)])), ((a 1), .inl (v.2.1 0, 12, .inl (upd (f 0) n x0))), ((a 2), .inl (v.2.1 0, 12, .inl (upd (f 1) n x1))), ((a 3), .inl (v.2.1 0, 12, .inl (f 2))), ((a 4), .inl (v.2.1 0, 12, .inl (f 3))), ((a 5), .inl (v.2.1 0, 12, .inl (f 4))), ((a 6), .inl (v.2.1 0, 12, .inl (f 5)))]]) X dX3_put_29 0 2 rfl rfl (by omega) (by omega) rfl ?_
    refine g_aload_n X dX3_put_30 0 rfl rfl ?_
    refine g_get X cb3 3 q_2_15 dX3_put_31 0 0 rfl rfl (by decide) rfl rfl ?_
    refine g_aload_n X dX3_put_34 0 rfl rfl ?_
    refine g_get X cb3 0 q_6_17 dX3_put_35 0 0 rfl rfl (by decide) rfl rfl ?_
    refine g_iload_n X dX3_put_38 3 rfl rfl ?_
    refine g_iast (cs' := [[((a 0), .inr (3, [.int (nI n), .ref (a 1), .ref (a 2), .ref (a 3), .ref (a 4), .ref (a 5), .ref (a 6)])), ((a 1), .inl (v.2.1 0, 12, .inl (upd (f 0) n x0))), ((a 2), .inl (v.2.1 0, 12, .inl (upd (f 1) n x1))), ((a 3), .inl (v.2.1 0, 12, .inl (upd (f 2) n x2))), ((a 4), .inl (v.2.1 0, 12, .inl (f 3))), ((a 5), .inl (v.2.1 0, 12, .inl (f 4))), ((a 6), .inl (v.2.1 0, 12, .inl (f 5)))]]) X dX3_put_39 0 3 rfl rfl (by omega) (by omega) rfl ?_
    refine g_aload_n X dX3_put_40 0 rfl rfl ?_
    refine g_get X cb3 4 q_2_16 dX3_put_41 0 0 rfl rfl (by decide) rfl rfl ?_
    refine g_aload_n X dX3_put_44 0 rfl rfl ?_
    refine g_get X cb3 0 q_6_17 dX3_put_45 0 0 rfl rfl (by decide) rfl rfl ?_
    refine g_iload X dX3_put_48 4 rfl ?_
    refine g_iast (cs' := [[((a 0), .inr (3, [.int (nI n), .ref (a 1), .ref (a 2), .ref (a 3), .ref (a 4), .ref (a 5), .ref (a 6)])), ((a 1), .inl (v.2.1 0, 12, .inl (upd (f 0) n x0))), ((a 2), .inl (v.2.1 0, 12, .inl (upd (f 1) n x1))), ((a 3), .inl (v.2.1 0, 12, .inl (upd (f 2) n x2))), ((a 4), .inl (v.2.1 0, 12, .inl (upd (f 3) n x3))), ((a 5), .inl (v.2.1 0, 12, .inl (f 4))), ((a 6), .inl (v.2.1 0, 12, .inl (f 5)))]]) X dX3_put_50 0 4 rfl rfl (by omega) (by omega) rfl ?_
    refine g_aload_n X dX3_put_51 0 rfl rfl ?_
    refine g_get X cb3 5 q_2_17 dX3_put_52 0 0 rfl rfl (by decide) rfl rfl ?_
    refine g_aload_n X dX3_put_55 0 rfl rfl ?_
    refine g_get X cb3 0 q_6_17 dX3_put_56 0 0 rfl rfl (by decide) rfl rfl ?_
    refine g_iload X dX3_put_59 5 rfl ?_
    refine g_iast (cs' := [[((a 0), .inr (3, [.int (nI n), .ref (a 1), .ref (a 2), .ref (a 3), .ref (a 4), .ref (a 5), .ref (a 6)])), ((a 1), .inl (v.2.1 0, 12, .inl (upd (f 0) n x0))), ((a 2), .inl (v.2.1 0, 12, .inl (upd (f 1) n x1))), ((a 3), .inl (v.2.1 0, 12, .inl (upd (f 2) n x2))), ((a 4), .inl (v.2.1 0, 12, .inl (upd (f 3) n x3))), ((a 5), .inl (v.2.1 0, 12, .inl (upd (f 4) n x4))), ((a 6), .inl (v.2.1 0, 12, .inl (f 5)))]]) X dX3_put_61 0 5 rfl rfl (by omega) (by omega) rfl ?_
    refine g_aload_n X dX3_put_62 0 rfl rfl ?_
    refine g_get X cb3 6 q_2_18 dX3_put_63 0 0 rfl rfl (by decide) rfl rfl ?_
    refine g_aload_n X dX3_put_66 0 rfl rfl ?_
    refine g_get X cb3 0 q_6_17 dX3_put_67 0 0 rfl rfl (by decide) rfl rfl ?_
    refine g_iload X dX3_put_70 6 rfl ?_
    refine g_iast (cs' := [[((a 0), .inr (3, [.int (nI n), .ref (a 1), .ref (a 2), .ref (a 3), .ref (a 4), .ref (a 5), .ref (a 6)])), ((a 1), .inl (v.2.1 0, 12, .inl (upd (f 0) n x0))), ((a 2), .inl (v.2.1 0, 12, .inl (upd (f 1) n x1))), ((a 3), .inl (v.2.1 0, 12, .inl (upd (f 2) n x2))), ((a 4), .inl (v.2.1 0, 12, .inl (upd (f 3) n x3))), ((a 5), .inl (v.2.1 0, 12, .inl (upd (f 4) n x4))), ((a 6), .inl (v.2.1 0, 12, .inl (upd (f 5) n x5)))]]) X dX3_put_72 0 6 rfl rfl (by omega) (by omega) rfl ?_
    refine g_aload_n X dX3_put_73 0 rfl rfl ?_
    refine g_dup X dX3_put_74 rfl ?_
    refine g_get X cb3 0 q_6_17 dX3_put_75 0 0 rfl rfl (by decide) rfl rfl ?_
    refine g_iconst (x := nI 1) X dX3_put_78 (by decide +kernel) ?_
    refine g_iaddN X dX3_put_79 ?_
    refine g_put (cs' := [[((a 0), .inr (3, [.int (nI (n + 1)), .ref (a 1), .ref (a 2), .ref (a 3), .ref (a 4), .ref (a 5), .ref (a 6)])), ((a 1), .inl (v.2.1 0, 12, .inl (upd (f 0) n x0))), ((a 2), .inl (v.2.1 0, 12, .inl (upd (f 1) n x1))), ((a 3), .inl (v.2.1 0, 12, .inl (upd (f 2) n x2))), ((a 4), .inl (v.2.1 0, 12, .inl (upd (f 3) n x3))), ((a 5), .inl (v.2.1 0, 12, .inl (upd (f 4) n x4))), ((a 6), .inl (v.2.1 0, 12, .inl (upd (f 5) n x5)))]]) X cb3 0 q_6_17 dX3_put_80 0 0 rfl rfl (by decide) rfl rfl (rfl) (rfl) (Nat.le_of_ble_eq_true rfl) rfl ?_
    exact E dX3_put_83 (by decide) (by decide) (rfl)
  · omega

theorem putAll_step {f' g : Nat → Nat → Int32} {n i j i' : Nat} (hj : j < 6) (h : i' < i + 1) (e2 : ∀ j, j < 6 → ∀ i', i' < i → f' j (n + i') = g j i') : pu f' (n + i) (x6 (g 0 i) (g 1 i) (g 2 i) (g 3 i) (g 4 i) (g 5 i)) j (n + i') = g j i' := by
  rcases Nat.lt_or_ge i' i with q | q
  · rw [pu_ne j (by omega)]
    exact e2 j hj i' q
  · have : i' = i := by omega
    subst this
    rw [pu_eq]
    rcases (show j = 0 ∨ j = 1 ∨ j = 2 ∨ j = 3 ∨ j = 4 ∨ j = 5 by omega) with rfl | rfl | rfl | rfl | rfl | rfl <;> rfl

set_option maxHeartbeats 4000000 in
set_option maxRecDepth 100000 in
theorem c_X3_putAll (l : Launch) (v : VV) (a : Nat → Nat) (n : Nat) (f : Nat → Nat → Int32) (b : Nat → Nat) (m : Nat) (g : Nat → Nat → Int32) (hnm : n + m ≤ 12) : MU l v yX3_putAll cX3_putAll 3 none ({ frames := 1, cells := 0, slots := 0, locals := 26 }) [.ref (a 0), .ref (b 0)] [cPg v a n f, cPg v b m g] (fun _ w_ => ∃ f', (∀ j i', i' < n → f' j i' = f j i') ∧ (∀ j, j < 6 → ∀ i', i' < m → f' j (n + i') = g j i') ∧ w_ = [cPg v a (n + m) f', cPg v b m g]) 0 0 := by
  refine mm_void rfl (by decide) (Nat.le_of_ble_eq_true rfl) [(0, .ref (a 0)), (1, .ref (b 0))] rfl (fun k X hin E => ?_)
  refine g_iconst (x := nI 0) X dX3_putAll_0 (by decide +kernel) ?_
  refine g_istore_n (lv' := [(2, .int (nI 0)), (0, .ref (a 0)), (1, .ref (b 0))]) X dX3_putAll_1 rfl (by decide) rfl ?_
  have lp2 : ∀ (zN : Nat) (i : Nat) (f' : Nat → Nat → Int32) (hi : i ≤ m) (e1 : ∀ j i', i' < n → f' j i' = f j i') (e2 : ∀ j, j < 6 → ∀ i', i' < i → f' j (n + i') = g j i') (zM : zN = m - i), GG k 0 0 [cPg v a (n + i) f', cPg v b m g] [(2, .int (nI i)), (0, .ref (a 0)), (1, .ref (b 0))] 2 [] := by
    intro zN
    induction zN using Nat.strongRecOn with
    | _ zN zih =>
      have ih2 := zih
      clear zih
      intro i f' hi e1 e2 zM
      refine g_iload_n X dX3_putAll_2 0 rfl rfl ?_
      refine g_aload_n X dX3_putAll_3 2 rfl rfl ?_
      refine g_get X cb3 0 q_6_17 dX3_putAll_4 1 0 rfl rfl (by decide) rfl rfl ?_
      refine g_icmp_geN (tgt := 56) X dX3_putAll_7 (by decide) (by omega) (by omega) (fun c7 => ?_) (fun c7 => ?_)
      · exact E dX3_putAll_56 (by decide) (by decide) (⟨f', e1, fun j hj i' h => e2 j hj i' (by omega), by rw [show i = m from by omega]⟩)
      · refine g_aload_n X dX3_putAll_10 1 rfl rfl ?_
        refine g_aload_n X dX3_putAll_11 2 rfl rfl ?_
        refine g_get X cb3 1 q_2_13 dX3_putAll_12 1 0 rfl rfl (by decide) rfl rfl ?_
        refine g_iload_n X dX3_putAll_15 0 rfl rfl ?_
        refine g_iald X dX3_putAll_16 1 1 rfl rfl (by omega) (by omega) ?_
        refine g_aload_n X dX3_putAll_17 2 rfl rfl ?_
        refine g_get X cb3 2 q_2_14 dX3_putAll_18 1 0 rfl rfl (by decide) rfl rfl ?_
        refine g_iload_n X dX3_putAll_21 0 rfl rfl ?_
        refine g_iald X dX3_putAll_22 1 2 rfl rfl (by omega) (by omega) ?_
        refine g_aload_n X dX3_putAll_23 2 rfl rfl ?_
        refine g_get X cb3 3 q_2_15 dX3_putAll_24 1 0 rfl rfl (by decide) rfl rfl ?_
        refine g_iload_n X dX3_putAll_27 0 rfl rfl ?_
        refine g_iald X dX3_putAll_28 1 3 rfl rfl (by omega) (by omega) ?_
        refine g_aload_n X dX3_putAll_29 2 rfl rfl ?_
        refine g_get X cb3 4 q_2_16 dX3_putAll_30 1 0 rfl rfl (by decide) rfl rfl ?_
        refine g_iload_n X dX3_putAll_33 0 rfl rfl ?_
        refine g_iald X dX3_putAll_34 1 4 rfl rfl (by omega) (by omega) ?_
        refine g_aload_n X dX3_putAll_35 2 rfl rfl ?_
        refine g_get X cb3 5 q_2_17 dX3_putAll_36 1 0 rfl rfl (by decide) rfl rfl ?_
        refine g_iload_n X dX3_putAll_39 0 rfl rfl ?_
        refine g_iald X dX3_putAll_40 1 5 rfl rfl (by omega) (by omega) ?_
        refine g_aload_n X dX3_putAll_41 2 rfl rfl ?_
        refine g_get X cb3 6 q_2_18 dX3_putAll_42 1 0 rfl rfl (by decide) rfl rfl ?_
        refine g_iload_n X dX3_putAll_45 0 rfl rfl ?_
        refine g_iald X dX3_putAll_46 1 6 rfl rfl (by omega) (by omega) ?_
        refine g_callV (As := [.int ((g 0) i), .int ((g 1) i), .int ((g 2) i), .int ((g 3) i), .int ((g 4) i), .int ((g 5) i)]) (rest := []) (wr := [cPg v b m g]) X (c_X3_put l v a (n + i) f' ((g 0) i) ((g 1) i) ((g 2) i) ((g 3) i) ((g 4) i) ((g 5) i) (by omega)) f_X3_put q_13_16 dX3_putAll_47 [0] [1] rfl rfl (by decide) 0 rfl rfl rfl rfl (Nat.le_of_ble_eq_true rfl) (by decide) (fun r_ w_ hp1 => ?_)
        subst hp1
        show GG k _ _ [cPg v a ((n + i) + 1) (pu f' (n + i) (x6 ((g 0) i) ((g 1) i) ((g 2) i) ((g 3) i) ((g 4) i) ((g 5) i))), cPg v b m g] _ _ []
        refine g_iinc (y := nI (i + 1)) (lv' := [(2, .int (nI (i + 1))), (0, .ref (a 0)), (1, .ref (b 0))]) (j := 0) X dX3_putAll_50 rfl (nI_add i 1) (by decide) rfl ?_
        refine g_goto (tgt := 2) X dX3_putAll_53 (by decide) ?_
        exact ih2 _ (by omega) (i + 1) (pu f' (n + i) (x6 ((g 0) i) ((g 1) i) ((g 2) i) ((g 3) i) ((g 4) i) ((g 5) i))) (by omega) (fun j i' h => (pu_ne j (by omega)).trans (e1 j i' h)) (fun j hj i' h => putAll_step hj h e2) rfl
  exact lp2 _ 0 f (Nat.zero_le _) (fun _ _ _ => rfl) (fun _ _ i' h => absurd h (Nat.not_lt_zero _)) rfl

set_option maxHeartbeats 4000000 in
set_option maxRecDepth 100000 in
theorem c_X3_copyFrom (l : Launch) (v : VV) (a : Nat → Nat) (n : Nat) (f : Nat → Nat → Int32) (b : Nat → Nat) (m : Nat) (g : Nat → Nat → Int32) (hm : m ≤ 12) : MU l v yX3_copyFrom cX3_copyFrom 2 none ({ frames := 2, cells := 0, slots := 0, locals := 48 }) [.ref (a 0), .ref (b 0)] [cPg v a n f, cPg v b m g] (fun _ w_ => ∃ f', (∀ j, j < 6 → ∀ i', i' < m → f' j i' = g j i') ∧ w_ = [cPg v a m f', cPg v b m g]) 0 0 := by
  refine mm_void rfl (by decide) (Nat.le_of_ble_eq_true rfl) [(0, .ref (a 0)), (1, .ref (b 0))] rfl (fun k X hin E => ?_)
  refine g_aload_n X dX3_copyFrom_0 0 rfl rfl ?_
  refine g_callV (As := []) (rest := []) (wr := [cPg v b m g]) X (c_X3_clear l v a n f) f_X3_clear q_13_11 dX3_copyFrom_1 [0] [1] rfl rfl (by decide) 0 rfl rfl rfl rfl (Nat.le_of_ble_eq_true rfl) (by decide) (fun r_ w_ hp1 => ?_)
  subst hp1
  show GG k _ _ [cPg v a 0 f, cPg v b m g] _ _ []
  refine g_aload_n X dX3_copyFrom_4 0 rfl rfl ?_
  refine g_aload_n X dX3_copyFrom_5 1 rfl rfl ?_
  refine g_callV (As := [.ref (b 0)]) (rest := []) (wr := []) X (c_X3_putAll l v a 0 f b m g (by omega)) f_X3_putAll q_13_12 dX3_copyFrom_6 [0, 1] [] rfl rfl (by decide) 0 rfl rfl rfl rfl (Nat.le_of_ble_eq_true rfl) (by decide) (fun r_ w_ hp3 => ?_)
  obtain ⟨f_2, f_21, f_22, rfl⟩ := hp3
  show GG k _ _ [cPg v a (0 + m) f_2, cPg v b m g] _ _ []
  exact E dX3_copyFrom_9 (by decide) (by decide) (⟨f_2, fun j hj i' h => by have := f_22 j hj i' h; rwa [Nat.zero_add] at this, by rw [Nat.zero_add]⟩)

theorem drop_keep {P : Nat → S9} {f' : Nat → Nat → Int32} {N i : Nat} (e1 : ∀ i', i' < i → f' 5 i' = zI (tg9 (dr9 P N i'))) (ht : f' 5 i = zI (tg9 (P i))) (h : tg9 (P i) ≤ (N : Int)) : ∀ i', i' < i + 1 → f' 5 i' = zI (tg9 (dr9 P N i')) := by
  intro i' hi
  rcases Nat.lt_or_ge i' i with q | q
  · exact e1 i' q
  · have : i' = i := by omega
    subst this
    rw [ht, dr9_tg, if_neg (by omega)]
theorem drop_set {P : Nat → S9} {f' : Nat → Nat → Int32} {N i : Nat} (e1 : ∀ i', i' < i → f' 5 i' = zI (tg9 (dr9 P N i'))) (ht : f' 5 i = zI (tg9 (P i))) (h : (N : Int) < tg9 (P i)) : ∀ i', i' < i + 1 → (if (5 : Nat) = 5 then upd (f' 5) i (nI N) else f' 5) i' = zI (tg9 (dr9 P N i')) := by
  intro i' hi
  rw [if_pos rfl]
  rcases Nat.lt_or_ge i' i with q | q
  · rw [pk_un (by omega)]
    exact e1 i' q
  · have : i' = i := by omega
    subst this
    rw [pk_us, dr9_tg, if_pos h, zI_nI]

set_option maxHeartbeats 4000000 in
set_option maxRecDepth 100000 in
theorem c_X3_dropLast (l : Launch) (v : VV) (a : Nat → Nat) (n : Nat) (f : Nat → Nat → Int32) (P : Nat → S9) (hW : WF P n) (hR : PgR P n f) (hn : 0 < n) : MU l v yX3_dropLast cX3_dropLast 3 none ({ frames := 1, cells := 0, slots := 0, locals := 16 }) [.ref (a 0)] [cPg v a n f] (fun _ w_ => ∃ f', PgR (dr9 P (n - 1)) (n - 1) f' ∧ w_ = [cPg v a (n - 1) f']) 0 0 := by
  refine mm_void rfl (by decide) (Nat.le_of_ble_eq_true rfl) [(0, .ref (a 0))] rfl (fun k X hin E => ?_)
  refine g_aload_n X dX3_dropLast_0 0 rfl rfl ?_
  refine g_get X cb3 0 q_6_17 dX3_dropLast_1 0 0 rfl rfl (by decide) rfl rfl ?_
  refine g_iconst (x := nI 1) X dX3_dropLast_4 (by decide +kernel) ?_
  refine g_isubN X dX3_dropLast_5 (by omega) ?_
  refine g_iconst (x := nI 0) X dX3_dropLast_6 (by decide +kernel) ?_
  refine g_max X q_12_20 q_8_23 q_9_0 q_9_1 dX3_dropLast_7 (by decide) (by decide) (by decide) (by decide) ?_
  refine g_v (y := nI (n - 1)) (if_neg (by rw [nI_ltI (by have := hW.1; omega) (by omega)]; omega)) ?_
  refine g_istore_n (lv' := [(1, .int (nI (n - 1))), (0, .ref (a 0))]) X dX3_dropLast_10 rfl (by decide) rfl ?_
  refine g_iconst (x := nI 0) X dX3_dropLast_11 (by decide +kernel) ?_
  refine g_istore_n (lv' := [(2, .int (nI 0)), (1, .int (nI (n - 1))), (0, .ref (a 0))]) X dX3_dropLast_12 rfl (by decide) rfl ?_
  have lp13 : ∀ (zN : Nat) (i : Nat) (f' : Nat → Nat → Int32) (hi : i ≤ n - 1) (e0 : ∀ j, j ≠ 5 → f' j = f j) (e1 : ∀ i', i' < i → f' 5 i' = zI (tg9 (dr9 P (n - 1) i'))) (e2 : ∀ i', i ≤ i' → f' 5 i' = f 5 i') (zM : zN = n - 1 - i), GG k 0 0 [cPg v a n f'] [(2, .int (nI i)), (1, .int (nI (n - 1))), (0, .ref (a 0))] 13 [] := by
    intro zN
    induction zN using Nat.strongRecOn with
    | _ zN zih =>
      have ih13 := zih
      clear zih
      intro i f' hi e0 e1 e2 zM
      refine g_iload_n X dX3_dropLast_13 0 rfl rfl ?_
      refine g_iload_n X dX3_dropLast_14 1 rfl rfl ?_
      refine g_icmp_geN (tgt := 41) X dX3_dropLast_15 (by decide) (by have := hW.1; omega) (by have := hW.1; omega) (fun c15 => ?_) (fun c15 => ?_)
      · refine g_aload_n X dX3_dropLast_41 2 rfl rfl ?_
        refine g_iload_n X dX3_dropLast_42 1 rfl rfl ?_
        refine g_put (cs' := [[((a 0), .inr (3, [.int (nI (n - 1)), .ref (a 1), .ref (a 2), .ref (a 3), .ref (a 4), .ref (a 5), .ref (a 6)])), ((a 1), .inl (v.2.1 0, 12, .inl (f' 0))), ((a 2), .inl (v.2.1 0, 12, .inl (f' 1))), ((a 3), .inl (v.2.1 0, 12, .inl (f' 2))), ((a 4), .inl (v.2.1 0, 12, .inl (f' 3))), ((a 5), .inl (v.2.1 0, 12, .inl (f' 4))), ((a 6), .inl (v.2.1 0, 12, .inl (f' 5)))]]) X cb3 0 q_6_17 dX3_dropLast_43 0 0 rfl rfl (by decide) rfl rfl (rfl) (rfl) (Nat.le_of_ble_eq_true rfl) rfl ?_
        exact E dX3_dropLast_46 (by decide) (by decide) (⟨f', fun i' h => by have r := hR i' (by omega); obtain ⟨q0, q1, q2, q3, q4⟩ := dr9_eq (P := P) (n := n - 1) i'; rw [q0, q1, q2, q3, q4, e0 0 (by omega), e0 1 (by omega), e0 2 (by omega), e0 3 (by omega), e0 4 (by omega), e1 i' (by omega)]; exact ⟨r.1, r.2.1, r.2.2.1, r.2.2.2.1, r.2.2.2.2.1, rfl⟩, rfl⟩)
      · refine g_aload_n X dX3_dropLast_18 2 rfl rfl ?_
        refine g_get X cb3 6 q_2_18 dX3_dropLast_19 0 0 rfl rfl (by decide) rfl rfl ?_
        refine g_iload_n X dX3_dropLast_22 0 rfl rfl ?_
        refine g_iald X dX3_dropLast_23 0 6 rfl rfl (by have := hW.1; omega) (by omega) ?_
        have ht : f' 5 i = zI (tg9 (P i)) := by rw [e2 i (Nat.le_refl _)]; exact (hR i (by omega)).2.2.2.2.2
        have htr := tg9_rng hW (show i < n by omega)
        have hn12 := hW.1
        refine g_v (y := zI (tg9 (P i))) (ht) ?_
        refine g_iload_n X dX3_dropLast_24 1 rfl rfl ?_
        refine g_icmp_le (tgt := 35) X dX3_dropLast_25 (by decide) (fun c25 => ?_) (fun c25 => ?_)
        · have c25 : tg9 (P i) ≤ ((n - 1 : Nat) : Int) := by rw [zI_nI (n - 1), zI_le (by omega) (by omega) (by omega) (by omega)] at c25; exact c25
          refine g_iinc (y := nI (i + 1)) (lv' := [(2, .int (nI (i + 1))), (1, .int (nI (n - 1))), (0, .ref (a 0))]) (j := 0) X dX3_dropLast_35 rfl (nI_add i 1) (by decide) rfl ?_
          refine g_goto (tgt := 13) X dX3_dropLast_38 (by decide) ?_
          exact ih13 _ (by omega) (i + 1) f' (by omega) e0 (drop_keep e1 ht (by omega)) (fun i' h => e2 i' (by omega)) rfl
        · have c25 : ((n - 1 : Nat) : Int) < tg9 (P i) := by rw [zI_nI (n - 1), zI_le (by omega) (by omega) (by omega) (by omega)] at c25; omega
          refine g_aload_n X dX3_dropLast_28 2 rfl rfl ?_
          refine g_get X cb3 6 q_2_18 dX3_dropLast_29 0 0 rfl rfl (by decide) rfl rfl ?_
          refine g_iload_n X dX3_dropLast_32 0 rfl rfl ?_
          refine g_iload_n X dX3_dropLast_33 1 rfl rfl ?_
          refine g_iast (cs' := [[((a 0), .inr (3, [.int (nI n), .ref (a 1), .ref (a 2), .ref (a 3), .ref (a 4), .ref (a 5), .ref (a 6)])), ((a 1), .inl (v.2.1 0, 12, .inl (f' 0))), ((a 2), .inl (v.2.1 0, 12, .inl (f' 1))), ((a 3), .inl (v.2.1 0, 12, .inl (f' 2))), ((a 4), .inl (v.2.1 0, 12, .inl (f' 3))), ((a 5), .inl (v.2.1 0, 12, .inl (f' 4))), ((a 6), .inl (v.2.1 0, 12, .inl (upd (f' 5) i (nI (n - 1)))))]]) X dX3_dropLast_34 0 6 rfl rfl (by have := hW.1; omega) (by omega) rfl ?_
          refine g_iinc (y := nI (i + 1)) (lv' := [(2, .int (nI (i + 1))), (1, .int (nI (n - 1))), (0, .ref (a 0))]) (j := 0) X dX3_dropLast_35 rfl (nI_add i 1) (by decide) rfl ?_
          refine g_goto (tgt := 13) X dX3_dropLast_38 (by decide) ?_
          exact ih13 _ (by omega) (i + 1) (fun j => if j = 5 then upd (f' 5) i (nI (n - 1)) else f' j) (by omega) (fun j h => by simp only [if_neg h]; exact e0 j h) (drop_set e1 ht (by omega)) (fun i' h => (pk_un (by omega) : upd (f' 5) i (nI (n - 1)) i' = _).trans (e2 i' (by omega))) rfl
  exact lp13 _ 0 f (Nat.zero_le _) (fun _ _ => rfl) (fun i' h => absurd h (Nat.not_lt_zero _)) (fun _ _ => rfl) rfl

theorem high_step {P : Nat → S9} {i : Nat} {h : Int} (h2 : ∀ D : Int, -1 ≤ D → (h ≤ D ↔ ∀ i', i' < i → tg9 (P i') ≤ D)) : ∀ D : Int, -1 ≤ D → (max h (tg9 (P i)) ≤ D ↔ ∀ i', i' < i + 1 → tg9 (P i') ≤ D) := by
  intro D hD
  rw [Int.max_le, h2 D hD]
  constructor
  · intro ⟨a, b⟩ i' hi
    rcases Nat.lt_or_ge i' i with q | q
    · exact a i' q
    · have : i' = i := by omega
      subst this
      exact b
  · exact fun a => ⟨fun i' hi => a i' (by omega), a i (by omega)⟩

set_option maxHeartbeats 4000000 in
set_option maxRecDepth 100000 in
theorem c_X3_highestTarget (l : Launch) (v : VV) (a : Nat → Nat) (n : Nat) (f : Nat → Nat → Int32) (P : Nat → S9) (B : Nat) (hW : WG P n B) (hR : PgR P n f) (hB : B < 100) : MI l v yX3_highestTarget cX3_highestTarget 3 (some .int) ({ frames := 1, cells := 0, slots := 0, locals := 16 }) [.ref (a 0)] [cPg v a n f] (fun r w_ => (∃ h : Int, r = zI h ∧ -1 ≤ h ∧ h ≤ B ∧ ∀ D : Int, -1 ≤ D → (h ≤ D ↔ ∀ i', i' < n → tg9 (P i') ≤ D)) ∧ w_ = [cPg v a n f]) 0 0 := by
  refine mm_int (by decide) (Nat.le_of_ble_eq_true rfl) [(0, .ref (a 0))] rfl (fun k X E => ?_)
  refine g_iconst (x := zI (-1)) X dX3_highestTarget_0 (by decide +kernel) ?_
  refine g_istore_n (lv' := [(1, .int (zI (-1))), (0, .ref (a 0))]) X dX3_highestTarget_1 rfl (by decide) rfl ?_
  refine g_iconst (x := nI 0) X dX3_highestTarget_2 (by decide +kernel) ?_
  refine g_istore_n (lv' := [(2, .int (nI 0)), (1, .int (zI (-1))), (0, .ref (a 0))]) X dX3_highestTarget_3 rfl (by decide) rfl ?_
  have lp4 : ∀ (zN : Nat) (i : Nat) (h : Int) (hi : i ≤ n) (h1 : -1 ≤ h ∧ h ≤ B) (h2 : ∀ D : Int, -1 ≤ D → (h ≤ D ↔ ∀ i', i' < i → tg9 (P i') ≤ D)) (zM : zN = n - i), GG k 0 0 [cPg v a n f] [(2, .int (nI i)), (1, .int (zI h)), (0, .ref (a 0))] 4 [] := by
    intro zN
    induction zN using Nat.strongRecOn with
    | _ zN zih =>
      have ih4 := zih
      clear zih
      intro i h hi h1 h2 zM
      refine g_iload_n X dX3_highestTarget_4 0 rfl rfl ?_
      refine g_aload_n X dX3_highestTarget_5 2 rfl rfl ?_
      refine g_get X cb3 0 q_6_17 dX3_highestTarget_6 0 0 rfl rfl (by decide) rfl rfl ?_
      refine g_icmp_geN (tgt := 29) X dX3_highestTarget_9 (by decide) (by have := hW.1; omega) (by have := hW.1; omega) (fun c9 => ?_) (fun c9 => ?_)
      · refine g_iload_n X dX3_highestTarget_29 1 rfl rfl ?_
        exact E dX3_highestTarget_30 rfl (rfl) (by decide) (by decide) (⟨⟨h, rfl, h1.1, h1.2, fun D hD => (h2 D hD).trans ⟨fun a i' h => a i' (by omega), fun a i' h => a i' (by omega)⟩⟩, rfl⟩)
      · refine g_iload_n X dX3_highestTarget_12 1 rfl rfl ?_
        refine g_aload_n X dX3_highestTarget_13 2 rfl rfl ?_
        refine g_get X cb3 6 q_2_18 dX3_highestTarget_14 0 0 rfl rfl (by decide) rfl rfl ?_
        refine g_iload_n X dX3_highestTarget_17 0 rfl rfl ?_
        refine g_iald X dX3_highestTarget_18 0 6 rfl rfl (by have := hW.1; omega) (by omega) ?_
        have htr := tg9_rng hW (show i < n by omega)
        refine g_v (y := zI (tg9 (P i))) ((hR i (by omega)).2.2.2.2.2) ?_
        refine g_max X q_12_20 q_8_23 q_9_0 q_9_1 dX3_highestTarget_19 (by decide) (by decide) (by decide) (by decide) ?_
        refine g_v (y := zI (max h (tg9 (P i)))) (zI_max (by omega) (by omega) (by omega) (by omega)) ?_
        refine g_istore_n (lv' := [(1, .int (zI (max h (tg9 (P i))))), (2, .int (nI i)), (0, .ref (a 0))]) X dX3_highestTarget_22 rfl (by decide) rfl ?_
        refine g_iinc (y := nI (i + 1)) (lv' := [(2, .int (nI (i + 1))), (1, .int (zI (max h (tg9 (P i))))), (0, .ref (a 0))]) (j := 1) X dX3_highestTarget_23 rfl (nI_add i 1) (by decide) rfl ?_
        refine g_goto (tgt := 4) X dX3_highestTarget_26 (by decide) ?_
        exact ih4 _ (by omega) (i + 1) (max h (tg9 (P i))) (by omega) (by omega) (high_step h2) rfl
  exact lp4 _ 0 (-1) (Nat.zero_le _) (by omega) (fun D hD => ⟨fun _ _ h => absurd h (Nat.not_lt_zero _), fun _ => hD⟩) rfl


