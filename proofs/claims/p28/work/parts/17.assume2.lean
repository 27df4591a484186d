/-! ## Assumption -/
set_option maxHeartbeats 4000000 in
set_option maxRecDepth 100000 in
theorem c_X0_limit (l : Launch) (v : VV) (b : Nat → Nat) (g : Nat → Nat → Int32) (w : Nat) (x : Int32) (y : Int32) (hw : w < 3) : MU l v yX0_limit cX0_limit 4 none ({ frames := 0, cells := 0, slots := 0, locals := 0 }) [.ref (b 0), .int (nI w), .int x, .int y] [cAs v b g] (fun _ w_ => w_ = [cAs v b (li9 g w (x2p x y))]) 0 0 := by
  refine mm_void rfl (by decide) (Nat.le_of_ble_eq_true rfl) [(0, .ref (b 0)), (1, .int (nI w)), (2, .int x), (3, .int y)] rfl (fun k X hin E => ?_)
  refine g_aload_n X dX0_limit_0 0 rfl rfl ?_
  refine g_get X cb0 0 q_2_22 dX0_limit_1 0 0 rfl rfl (by decide) rfl rfl ?_
  refine g_iload_n X dX0_limit_4 1 rfl rfl ?_
  refine g_iload_n X dX0_limit_5 2 rfl rfl ?_
  refine g_iast (cs' := [[((b 0), .inr (0, [.ref (b 1), .ref (b 2)])), ((b 1), .inl (v.2.1 0, 3, .inl (upd (g 0) w x))), ((b 2), .inl (v.2.1 0, 3, .inl (g 1)))]]) X dX0_limit_6 0 1 rfl rfl (by omega) (by omega) rfl ?_
  refine g_aload_n X dX0_limit_7 0 rfl rfl ?_
  refine g_get X cb0 1 q_2_23 dX0_limit_8 0 0 rfl rfl (by decide) rfl rfl ?_
  refine g_iload_n X dX0_limit_11 1 rfl rfl ?_
  refine g_iload_n X dX0_limit_12 3 rfl rfl ?_
  refine g_iast (cs' := [[((b 0), .inr (0, [.ref (b 1), .ref (b 2)])), ((b 1), .inl (v.2.1 0, 3, .inl (upd (g 0) w x))), ((b 2), .inl (v.2.1 0, 3, .inl (upd (g 1) w y)))]]) X dX0_limit_13 0 2 rfl rfl (by omega) (by omega) rfl ?_
  exact E dX0_limit_14 (by decide) (by decide) (rfl)

theorem cp_step {g' h : Nat → Nat → Int32} {w : Nat} (e : ∀ j, j < 2 → ∀ w', w' < w → g' j w' = h j w') : ∀ j, j < 2 → ∀ w', w' < w + 1 → li9 g' w (x2p (h 0 w) (h 1 w)) j w' = h j w' := by
  intro j hj w' hw
  unfold li9
  by_cases c : w' = w
  · subst c
    rw [pk_us]
    rcases (show j = 0 ∨ j = 1 by omega) with rfl | rfl <;> rfl
  · rw [pk_un c]; exact e j hj w' (by omega)
theorem AsR_copy {lo hi : Nat → Nat} {g g' : Nat → Nat → Int32} (h : AsR lo hi g) (e : ∀ j, j < 2 → ∀ w, w < 3 → g' j w = g j w) : AsR lo hi g' := fun w hw => by
  rw [e 0 (by omega) w hw, e 1 (by omega) w hw]
  exact h w hw

set_option maxHeartbeats 4000000 in
set_option maxRecDepth 100000 in
theorem c_X0_copyFrom (l : Launch) (v : VV) (b : Nat → Nat) (g : Nat → Nat → Int32) (c : Nat → Nat) (h : Nat → Nat → Int32) : MU l v yX0_copyFrom cX0_copyFrom 3 none ({ frames := 1, cells := 0, slots := 0, locals := 23 }) [.ref (b 0), .ref (c 0)] [cAs v b g, cAs v c h] (fun _ w_ => ∃ g', (∀ j, j < 2 → ∀ w', w' < 3 → g' j w' = h j w') ∧ w_ = [cAs v b g', cAs v c h]) 0 0 := by
  refine mm_void rfl (by decide) (Nat.le_of_ble_eq_true rfl) [(0, .ref (b 0)), (1, .ref (c 0))] rfl (fun k X hin E => ?_)
  refine g_iconst (x := nI 0) X dX0_copyFrom_0 (by decide +kernel) ?_
  refine g_istore_n (lv' := [(2, .int (nI 0)), (0, .ref (b 0)), (1, .ref (c 0))]) X dX0_copyFrom_1 rfl (by decide) rfl ?_
  have lp2 : ∀ (zN : Nat) (w : Nat) (g' : Nat → Nat → Int32) (hw : w ≤ 3) (e1 : ∀ j, j < 2 → ∀ w', w' < w → g' j w' = h j w') (zM : zN = 3 - w), GG k 0 0 [cAs v b g', cAs v c h] [(2, .int (nI w)), (0, .ref (b 0)), (1, .ref (c 0))] 2 [] := by
    intro zN
    induction zN using Nat.strongRecOn with
    | _ zN zih =>
      have ih2 := zih
      clear zih
      intro w g' hw e1 zM
      refine g_iload_n X dX0_copyFrom_2 0 rfl rfl ?_
      refine g_iconst (x := nI 3) X dX0_copyFrom_3 (by decide +kernel) ?_
      refine g_icmp_geN (tgt := 30) X dX0_copyFrom_4 (by decide) (by omega) (by omega) (fun c4 => ?_) (fun c4 => ?_)
      · exact E dX0_copyFrom_30 (by decide) (by decide) (⟨g', fun j hj w' hw' => e1 j hj w' (by omega), rfl⟩)
      · refine g_aload_n X dX0_copyFrom_7 1 rfl rfl ?_
        refine g_iload_n X dX0_copyFrom_8 0 rfl rfl ?_
        refine g_aload_n X dX0_copyFrom_9 2 rfl rfl ?_
        refine g_get X cb0 0 q_2_22 dX0_copyFrom_10 1 0 rfl rfl (by decide) rfl rfl ?_
        refine g_iload_n X dX0_copyFrom_13 0 rfl rfl ?_
        refine g_iald X dX0_copyFrom_14 1 1 rfl rfl (by omega) (by omega) ?_
        refine g_aload_n X dX0_copyFrom_15 2 rfl rfl ?_
        refine g_get X cb0 1 q_2_23 dX0_copyFrom_16 1 0 rfl rfl (by decide) rfl rfl ?_
        refine g_iload_n X dX0_copyFrom_19 0 rfl rfl ?_
        refine g_iald X dX0_copyFrom_20 1 2 rfl rfl (by omega) (by omega) ?_
        refine g_callV (As := [.int (nI w), .int ((h 0) w), .int ((h 1) w)]) (rest := []) (wr := [cAs v c h]) X (c_X0_limit l v b g' w ((h 0) w) ((h 1) w) (by omega)) f_X0_limit q_13_21 dX0_copyFrom_21 [0] [1] rfl rfl (by decide) 0 rfl rfl rfl rfl (Nat.le_of_ble_eq_true rfl) (by decide) (fun r_ w_ hp1 => ?_)
        subst hp1
        show GG k _ _ [cAs v b (li9 g' w (x2p ((h 0) w) ((h 1) w))), cAs v c h] _ _ []
        refine g_iinc (y := nI (w + 1)) (lv' := [(2, .int (nI (w + 1))), (0, .ref (b 0)), (1, .ref (c 0))]) (j := 0) X dX0_copyFrom_24 rfl (nI_add w 1) (by decide) rfl ?_
        refine g_goto (tgt := 2) X dX0_copyFrom_27 (by decide) ?_
        exact ih2 _ (by omega) (w + 1) (li9 g' w (x2p ((h 0) w) ((h 1) w))) (by omega) (cp_step e1) rfl
  exact lp2 _ 0 g (by omega) (fun j hj w' h => absurd h (Nat.not_lt_zero _)) rfl

set_option maxHeartbeats 4000000 in
set_option maxRecDepth 100000 in
theorem c_X0_allowsBut (l : Launch) (v : VV) (b : Nat → Nat) (g : Nat → Nat → Int32) (lo : Nat → Nat) (hi : Nat → Nat) (fr : Int) (t : Nat) (hL : AsW lo hi) (hG : AsR lo hi g) (hf : -1 ≤ fr ∧ fr < 3) (ht : t < 512) : MI l v yX0_allowsBut cX0_allowsBut 5 (some .boolean) ({ frames := 1, cells := 0, slots := 0, locals := 21 }) [.ref (b 0), .int (zI fr), .int (nI t)] [cAs v b g] (fun r w_ => r = bI (ab9 lo hi fr t) ∧ w_ = [cAs v b g]) 0 0 := by
  refine mm_int (by decide) (Nat.le_of_ble_eq_true rfl) [(0, .ref (b 0)), (1, .int (zI fr)), (2, .int (nI t))] rfl (fun k X E => ?_)
  refine g_iconst (x := nI 0) X dX0_allowsBut_0 (by decide +kernel) ?_
  refine g_istore_n (lv' := [(3, .int (nI 0)), (0, .ref (b 0)), (1, .int (zI fr)), (2, .int (nI t))]) X dX0_allowsBut_1 rfl (by decide) rfl ?_
  have lp2 : ∀ (zN : Nat) (w : Nat) (hw : w ≤ 3) (e1 : ∀ w' : Nat, w' < w → (w' : Int) ≠ fr → lo w' ≤ val t w' ∧ val t w' ≤ hi w') (zM : zN = 3 - w), GG k 0 0 [cAs v b g] [(3, .int (nI w)), (0, .ref (b 0)), (1, .int (zI fr)), (2, .int (nI t))] 2 [] := by
    intro zN
    induction zN using Nat.strongRecOn with
    | _ zN zih =>
      have ih2 := zih
      clear zih
      intro w hw e1 zM
      refine g_iload_n X dX0_allowsBut_2 0 rfl rfl ?_
      refine g_iconst (x := nI 3) X dX0_allowsBut_3 (by decide +kernel) ?_
      refine g_icmp_geN (tgt := 49) X dX0_allowsBut_4 (by decide) (by omega) (by omega) (fun c4 => ?_) (fun c4 => ?_)
      · refine g_iconst (x := nI 1) X dX0_allowsBut_49 (by decide +kernel) ?_
        exact E dX0_allowsBut_50 rfl (rfl) (by decide) (by decide) (⟨ab9_t (fun w' h1 h2 => e1 w' (by omega) h2), rfl⟩)
      · refine g_iload_n X dX0_allowsBut_7 3 rfl rfl ?_
        refine g_iload_n X dX0_allowsBut_8 0 rfl rfl ?_
        refine g_callSN (As := [.int (nI t), .int (nI w)]) (rest := []) (wr := [cAs v b g]) X (c_X6_valueOf l v t w (by omega) (by omega)) f_X6_valueOf 6 rfl dX0_allowsBut_9 [] [0] rfl rfl (by decide) rfl rfl (Nat.le_of_ble_eq_true rfl) (by decide) (fun r_ w_ hp1 => ?_)
        obtain ⟨rfl, rfl⟩ := hp1
        show GG k _ _ [cAs v b g] _ _ [.int (nI (val t w))]
        refine g_istore (lv' := [(4, .int (nI (val t w))), (3, .int (nI w)), (0, .ref (b 0)), (1, .int (zI fr)), (2, .int (nI t))]) X dX0_allowsBut_12 (by decide) rfl ?_
        refine g_iload_n X dX0_allowsBut_14 1 rfl rfl ?_
        refine g_iload_n X dX0_allowsBut_15 3 rfl rfl ?_
        refine g_icmp_eq (tgt := 43) X dX0_allowsBut_16 (by decide) (fun c16 => ?_) (fun c16 => ?_)
        · rw [zI_nI w, zI_inj (by omega) (by omega) (by omega) (by omega)] at c16
          refine g_iinc (y := nI (w + 1)) (lv' := [(3, .int (nI (w + 1))), (4, .int (nI (val t w))), (0, .ref (b 0)), (1, .int (zI fr)), (2, .int (nI t))]) (j := 1) X dX0_allowsBut_43 rfl (nI_add w 1) (by decide) rfl ?_
          refine g_goto (tgt := 2) X dX0_allowsBut_46 (by decide) ?_
          refine g_lv (lv' := [(3, .int (nI (w + 1))), (0, .ref (b 0)), (1, .int (zI fr)), (2, .int (nI t))]) [0, 2, 3, 4] rfl ?_
          exact ih2 _ (by omega) (w + 1) (by omega) (fun w' h1 h2 => by by_cases z : w' = w; subst z; exact absurd c16 h2; exact e1 w' (by omega) h2) rfl
        · rw [zI_nI w, zI_inj (by omega) (by omega) (by omega) (by omega)] at c16
          refine g_iload X dX0_allowsBut_19 0 rfl ?_
          refine g_aload_n X dX0_allowsBut_21 2 rfl rfl ?_
          refine g_get X cb0 0 q_2_22 dX0_allowsBut_22 0 0 rfl rfl (by decide) rfl rfl ?_
          refine g_iload_n X dX0_allowsBut_25 1 rfl rfl ?_
          refine g_iald X dX0_allowsBut_26 0 1 rfl rfl (by omega) (by omega) ?_
          have hbw := hL w (by omega)
          refine g_v (y := nI (lo w)) ((hG w (by omega)).1) ?_
          refine g_icmp_ltN (tgt := 41) X dX0_allowsBut_27 (by decide) (Nat.lt_trans (val_lt _ _) (by omega)) (by omega) (fun c27 => ?_) (fun c27 => ?_)
          · refine g_iconst (x := nI 0) X dX0_allowsBut_41 (by decide +kernel) ?_
            exact E dX0_allowsBut_42 rfl (rfl) (by decide) (by decide) (⟨ab9_f (show w < 3 by omega) c16 (Or.inl c27), rfl⟩)
          · refine g_iload X dX0_allowsBut_30 0 rfl ?_
            refine g_aload_n X dX0_allowsBut_32 2 rfl rfl ?_
            refine g_get X cb0 1 q_2_23 dX0_allowsBut_33 0 0 rfl rfl (by decide) rfl rfl ?_
            refine g_iload_n X dX0_allowsBut_36 1 rfl rfl ?_
            refine g_iald X dX0_allowsBut_37 0 2 rfl rfl (by omega) (by omega) ?_
            refine g_v (y := nI (hi w)) ((hG w (by omega)).2) ?_
            refine g_icmp_leN (tgt := 43) X dX0_allowsBut_38 (by decide) (Nat.lt_trans (val_lt _ _) (by omega)) (by omega) (fun c38 => ?_) (fun c38 => ?_)
            · refine g_iinc (y := nI (w + 1)) (lv' := [(3, .int (nI (w + 1))), (4, .int (nI (val t w))), (0, .ref (b 0)), (1, .int (zI fr)), (2, .int (nI t))]) (j := 1) X dX0_allowsBut_43 rfl (nI_add w 1) (by decide) rfl ?_
              refine g_goto (tgt := 2) X dX0_allowsBut_46 (by decide) ?_
              refine g_lv (lv' := [(3, .int (nI (w + 1))), (0, .ref (b 0)), (1, .int (zI fr)), (2, .int (nI t))]) [0, 2, 3, 4] rfl ?_
              exact ih2 _ (by omega) (w + 1) (by omega) (fun w' h1 h2 => by by_cases z : w' = w; subst z; exact ⟨c27, c38⟩; exact e1 w' (by omega) h2) rfl
            · refine g_iconst (x := nI 0) X dX0_allowsBut_41 (by decide +kernel) ?_
              exact E dX0_allowsBut_42 rfl (rfl) (by decide) (by decide) (⟨ab9_f (show w < 3 by omega) c16 (Or.inr c38), rfl⟩)
  exact lp2 _ 0 (by omega) (fun w' h => absurd h (Nat.not_lt_zero _)) rfl

set_option maxHeartbeats 4000000 in
set_option maxRecDepth 100000 in
theorem c_X0_allows (l : Launch) (v : VV) (b : Nat → Nat) (g : Nat → Nat → Int32) (lo : Nat → Nat) (hi : Nat → Nat) (t : Nat) (hL : AsW lo hi) (hG : AsR lo hi g) (ht : t < 512) : MI l v yX0_allows cX0_allows 2 (some .boolean) ({ frames := 2, cells := 0, slots := 0, locals := 45 }) [.ref (b 0), .int (nI t)] [cAs v b g] (fun r w_ => r = bI (ab9 lo hi (-1) t) ∧ w_ = [cAs v b g]) 0 0 := by
  refine mm_int (by decide) (Nat.le_of_ble_eq_true rfl) [(0, .ref (b 0)), (1, .int (nI t))] rfl (fun k X E => ?_)
  refine g_aload_n X dX0_allows_0 0 rfl rfl ?_
  refine g_iconst (x := zI (-1)) X dX0_allows_1 (by decide +kernel) ?_
  refine g_iload_n X dX0_allows_2 1 rfl rfl ?_
  refine g_callV (As := [.int (zI (-1)), .int (nI t)]) (rest := []) (wr := []) X (c_X0_allowsBut l v b g lo hi (-1) t hL hG (by omega) (by omega)) f_X0_allowsBut q_17_13 dX0_allows_3 [0] [] rfl rfl (by decide) 0 rfl rfl rfl rfl (Nat.le_of_ble_eq_true rfl) (by decide) (fun r_ w_ hp1 => ?_)
  obtain ⟨rfl, rfl⟩ := hp1
  show GG k _ _ [cAs v b g] _ _ [.int (bI (ab9 lo hi (-1) t))]
  exact E dX0_allows_6 rfl (narZ_b _) (by decide) (by decide) (⟨rfl, rfl⟩)

set_option maxHeartbeats 4000000 in
set_option maxRecDepth 100000 in
theorem c_X0_count (l : Launch) (v : VV) (b : Nat → Nat) (g : Nat → Nat → Int32) (lo : Nat → Nat) (hi : Nat → Nat) (hL : AsW lo hi) (hG : AsR lo hi g) : MI l v yX0_count cX0_count 3 (some .int) ({ frames := 0, cells := 0, slots := 0, locals := 0 }) [.ref (b 0)] [cAs v b g] (fun r w_ => r = nI (cnt9 lo hi 3) ∧ w_ = [cAs v b g]) 0 0 := by
  refine mm_int (by decide) (Nat.le_of_ble_eq_true rfl) [(0, .ref (b 0))] rfl (fun k X E => ?_)
  refine g_iconst (x := nI 1) X dX0_count_0 (by decide +kernel) ?_
  refine g_istore_n (lv' := [(1, .int (nI 1)), (0, .ref (b 0))]) X dX0_count_1 rfl (by decide) rfl ?_
  refine g_iconst (x := nI 0) X dX0_count_2 (by decide +kernel) ?_
  refine g_istore_n (lv' := [(2, .int (nI 0)), (1, .int (nI 1)), (0, .ref (b 0))]) X dX0_count_3 rfl (by decide) rfl ?_
  have lp4 : ∀ (zN : Nat) (w : Nat) (hw : w ≤ 3) (zM : zN = 3 - w), GG k 0 0 [cAs v b g] [(2, .int (nI w)), (1, .int (nI (cnt9 lo hi w))), (0, .ref (b 0))] 4 [] := by
    intro zN
    induction zN using Nat.strongRecOn with
    | _ zN zih =>
      have ih4 := zih
      clear zih
      intro w hw zM
      refine g_iload_n X dX0_count_4 0 rfl rfl ?_
      refine g_iconst (x := nI 3) X dX0_count_5 (by decide +kernel) ?_
      refine g_icmp_geN (tgt := 33) X dX0_count_6 (by decide) (by omega) (by omega) (fun c6 => ?_) (fun c6 => ?_)
      · refine g_iload_n X dX0_count_33 1 rfl rfl ?_
        exact E dX0_count_34 rfl (rfl) (by decide) (by decide) (⟨by rw [show w = 3 from by omega], rfl⟩)
      · refine g_iload_n X dX0_count_9 1 rfl rfl ?_
        refine g_aload_n X dX0_count_10 2 rfl rfl ?_
        refine g_get X cb0 1 q_2_23 dX0_count_11 0 0 rfl rfl (by decide) rfl rfl ?_
        refine g_iload_n X dX0_count_14 0 rfl rfl ?_
        refine g_iald X dX0_count_15 0 2 rfl rfl (by omega) (by omega) ?_
        have hbw := hL w (by omega)
        refine g_v (y := nI (hi w)) ((hG w (by omega)).2) ?_
        refine g_aload_n X dX0_count_16 2 rfl rfl ?_
        refine g_get X cb0 0 q_2_22 dX0_count_17 0 0 rfl rfl (by decide) rfl rfl ?_
        refine g_iload_n X dX0_count_20 0 rfl rfl ?_
        refine g_iald X dX0_count_21 0 1 rfl rfl (by omega) (by omega) ?_
        refine g_v (y := nI (lo w)) ((hG w (by omega)).1) ?_
        refine g_isubN X dX0_count_22 (by omega) ?_
        refine g_iconst (x := nI 1) X dX0_count_23 (by decide +kernel) ?_
        refine g_iaddN X dX0_count_24 ?_
        refine g_imulN X dX0_count_25 ?_
        refine g_istore_n (lv' := [(1, .int (nI ((cnt9 lo hi w) * (((hi w) - (lo w)) + 1)))), (2, .int (nI w)), (0, .ref (b 0))]) X dX0_count_26 rfl (by decide) rfl ?_
        refine g_iinc (y := nI (w + 1)) (lv' := [(2, .int (nI (w + 1))), (1, .int (nI ((cnt9 lo hi w) * (((hi w) - (lo w)) + 1)))), (0, .ref (b 0))]) (j := 1) X dX0_count_27 rfl (nI_add w 1) (by decide) rfl ?_
        refine g_goto (tgt := 4) X dX0_count_30 (by decide) ?_
        exact ih4 _ (by omega) (w + 1) (by omega) rfl
  exact lp4 _ 0 (by omega) rfl


