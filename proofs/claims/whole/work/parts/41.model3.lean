/-! ## the model: assumption, saved states -/
theorem SR_cong {P : Nat → S9} {n : Nat} {lo hi : Nat → Nat} {f g : Nat → Int32} (hn : n ≤ 12) (h : SR P n lo hi f) (e : ∀ k, k < 67 → g k = f k) : SR P n lo hi g := by
  refine ⟨by rw [e 0 (by omega)]; exact h.1, fun i hi9 => ?_, fun w hw => ?_⟩
  · rw [e _ (show 1 + 5 * i + 0 < 67 by omega), e _ (show 1 + 5 * i + 1 < 67 by omega), e _ (show 1 + 5 * i + 2 < 67 by omega), e _ (show 1 + 5 * i + 3 < 67 by omega), e _ (show 1 + 5 * i + 4 < 67 by omega)]
    exact h.2.1 i hi9
  · rw [e _ (show 61 + 2 * w < 67 by omega), e _ (show 61 + 2 * w + 1 < 67 by omega)]
    exact h.2.2 w hw
def HMk (e : HE9) (f : Nat → Int32) : Prop := WF e.1 e.2.1 ∧ AsW e.2.2.1 e.2.2.2 ∧ SR e.1 e.2.1 e.2.2.1 e.2.2.2 f
/-- the model's saved rows -/
def HMR (H : Nat → HE9) (c : Nat) (fv : Nat → Int32) : Prop := c ≤ 6 ∧ ∀ i, i < c → HMk (H i) (fun k => fv (67 * i + k))
theorem HMk_cong {e : HE9} {f g : Nat → Int32} (h : HMk e f) (c : ∀ k, k < 67 → g k = f k) : HMk e g := ⟨h.1, h.2.1, SR_cong h.1.1 h.2.2 c⟩
theorem HMR_put {H : Nat → HE9} {c : Nat} {fv f' fs : Nat → Int32} {e : HE9} (h : HMR H c fv) (hc : c < 6) (he : HMk e fs) (e1 : ∀ m, m < 67 → f' (67 * c + m) = fs m) (e2 : ∀ m, m < 67 * c → f' m = fv m) : HMR (hS9 H c e) (hC9 c) f' := by
  unfold hS9 hC9
  rw [if_neg (by omega), if_neg (by omega)]
  refine ⟨by omega, fun i hi => ?_⟩
  by_cases z : i = c
  · subst z; dsimp only; rw [if_pos rfl]
    exact HMk_cong he (fun k hk => e1 k hk)
  · dsimp only; rw [if_neg z]
    exact HMk_cong (h.2 i (by omega)) (fun k hk => e2 _ (by omega))
theorem HMR_full {H : Nat → HE9} {fv f1 f' fs : Nat → Int32} {e : HE9} (h : HMR H 6 fv) (he : HMk e fs) (e0 : ∀ m, m < 335 → f1 m = fv (m + 67)) (e1 : ∀ m, m < 67 → f' (67 * 5 + m) = fs m) (e2 : ∀ m, m < 67 * 5 → f' m = f1 m) : HMR (hS9 H 6 e) (hC9 6) f' := by
  refine ⟨Nat.le_refl 6, fun i hi => ?_⟩
  have hi : i < 6 := hi
  show HMk (if i = 5 then e else H (i + 1)) _
  by_cases z : i = 5
  · subst z; rw [if_pos rfl]
    exact HMk_cong he (fun k hk => e1 k hk)
  · rw [if_neg z]
    exact HMk_cong (h.2 (i + 1) (by omega)) (fun k hk => by rw [e2 _ (by omega), e0 _ (by omega), show 67 * i + k + 67 = 67 * (i + 1) + k from by omega])

set_option maxHeartbeats 4000000 in
set_option maxRecDepth 100000 in
theorem c_X7_isAssumed (l : Launch) (v : VV) (mo : Nat → Nat) (th : Int32) (sm : Nat) (ln : Nat) (rm : Int32) (fa : Int32) (sp : Int32) (wr : Int32) (dd : Int64) (P : Nat → S9) (n : Nat) (lo : Nat → Nat) (hi : Nat → Nat) (fs : Nat → Int32) (t : Nat) (hW : WF P n) (hS : SR P n lo hi fs) (hL : AsW lo hi) (ht : t < 512) : MI l v yX7_isAssumed cX7_isAssumed 4 (some .boolean) ({ frames := 1, cells := 0, slots := 0, locals := 22 }) [.ref (mo 0), .int (nI t)] [[((mo 0), .inr (7, [.int th, .ref (mo 1), .ref (mo 2), .int (nI sm), .ref (mo 3), .int (nI ln), .ref (mo 4), .int rm, .int fa, .ref (mo 5), .ref (mo 6), .int sp, .int wr, .long dd]))], cMs v mo fs] (fun r w_ => r = bI (ab9 lo hi (-1) t) ∧ w_ = [[((mo 0), .inr (7, [.int th, .ref (mo 1), .ref (mo 2), .int (nI sm), .ref (mo 3), .int (nI ln), .ref (mo 4), .int rm, .int fa, .ref (mo 5), .ref (mo 6), .int sp, .int wr, .long dd]))], cMs v mo fs]) 0 0 := by
  refine mm_int (by decide) (Nat.le_of_ble_eq_true rfl) [(0, .ref (mo 0)), (1, .int (nI t))] rfl (fun k X E => ?_)
  have hn12 := hW.1
  have hl0 := hL 0 (by omega)
  have hl1 := hL 1 (by omega)
  have hl2 := hL 2 (by omega)
  refine g_iconst (x := nI 1) X dX7_isAssumed_0 (by decide +kernel) ?_
  refine g_istore_n (lv' := [(2, .int (nI 1)), (0, .ref (mo 0)), (1, .int (nI t))]) X dX7_isAssumed_1 rfl (by decide) rfl ?_
  refine g_iconst (x := nI 0) X dX7_isAssumed_2 (by decide +kernel) ?_
  refine g_istore_n (lv' := [(3, .int (nI 0)), (2, .int (nI 1)), (0, .ref (mo 0)), (1, .int (nI t))]) X dX7_isAssumed_3 rfl (by decide) rfl ?_
  refine g_iload_n X dX7_isAssumed_4 0 rfl rfl ?_
  refine g_iconst (x := nI 3) X dX7_isAssumed_5 (by decide +kernel) ?_
  refine g_icmp_geN (tgt := 60) X dX7_isAssumed_6 (by decide) (by omega) (by omega) (fun c6 => ?_) (fun c6 => ?_)
  · exact absurd c6 (by decide)
  · refine g_iload_n X dX7_isAssumed_9 1 rfl rfl ?_
    refine g_if_eqN (tgt := 52) X dX7_isAssumed_10 (by decide) (by omega) (fun c10 => ?_) (fun c10 => ?_)
    · exact absurd c10 (by decide)
    · refine g_iload_n X dX7_isAssumed_13 3 rfl rfl ?_
      refine g_iload_n X dX7_isAssumed_14 0 rfl rfl ?_
      refine g_callS (As := [.int (nI t), .int (nI 0)]) (rest := []) (wr := [[((mo 0), .inr (7, [.int th, .ref (mo 1), .ref (mo 2), .int (nI sm), .ref (mo 3), .int (nI ln), .ref (mo 4), .int rm, .int fa, .ref (mo 5), .ref (mo 6), .int sp, .int wr, .long dd]))], cMs v mo fs]) X (c_X7_valueOf l v t 0 (by omega) (by omega)) f_X7_valueOf q_23_6 dX7_isAssumed_15 [] [0, 1] rfl rfl (by decide) rfl rfl (Nat.le_of_ble_eq_true rfl) (by decide) (fun r_ w_ hp1 => ?_)
      obtain ⟨rfl, rfl⟩ := hp1
      show GG k _ _ [[((mo 0), .inr (7, [.int th, .ref (mo 1), .ref (mo 2), .int (nI sm), .ref (mo 3), .int (nI ln), .ref (mo 4), .int rm, .int fa, .ref (mo 5), .ref (mo 6), .int sp, .int wr, .long dd]))], cMs v mo fs] _ _ [.int (nI (val t 0))]
      have hv0 := val_lt t 0
      refine g_aload_n X dX7_isAssumed_18 2 rfl rfl ?_
      refine g_get X cb7 1 q_4_18 dX7_isAssumed_19 0 0 rfl rfl (by decide) rfl rfl ?_
      refine g_bipush (x := nI 61) X dX7_isAssumed_22 (by decide +kernel) ?_
      refine g_iconst (x := nI 2) X dX7_isAssumed_24 (by decide +kernel) ?_
      refine g_iload_n X dX7_isAssumed_25 0 rfl rfl ?_
      refine g_imulN X dX7_isAssumed_26 ?_
      refine g_iaddN X dX7_isAssumed_27 ?_
      refine g_iald X dX7_isAssumed_28 1 0 rfl rfl (by omega) (by omega) ?_
      refine g_v (y := nI (lo 0)) ((hS.2.2 0 (by omega)).1) ?_
      refine g_aload_n X dX7_isAssumed_29 2 rfl rfl ?_
      refine g_get X cb7 1 q_4_18 dX7_isAssumed_30 0 0 rfl rfl (by decide) rfl rfl ?_
      refine g_bipush (x := nI 61) X dX7_isAssumed_33 (by decide +kernel) ?_
      refine g_iconst (x := nI 2) X dX7_isAssumed_35 (by decide +kernel) ?_
      refine g_iload_n X dX7_isAssumed_36 0 rfl rfl ?_
      refine g_imulN X dX7_isAssumed_37 ?_
      refine g_iaddN X dX7_isAssumed_38 ?_
      refine g_iconst (x := nI 1) X dX7_isAssumed_39 (by decide +kernel) ?_
      refine g_iaddN X dX7_isAssumed_40 ?_
      refine g_iald X dX7_isAssumed_41 1 0 rfl rfl (by omega) (by omega) ?_
      refine g_v (y := nI (hi 0)) ((hS.2.2 0 (by omega)).2) ?_
      refine g_callS (As := [.int (nI (val t 0)), .int (nI (lo 0)), .int (nI (hi 0))]) (rest := []) (wr := [[((mo 0), .inr (7, [.int th, .ref (mo 1), .ref (mo 2), .int (nI sm), .ref (mo 3), .int (nI ln), .ref (mo 4), .int rm, .int fa, .ref (mo 5), .ref (mo 6), .int sp, .int wr, .long dd]))], cMs v mo fs]) X (c_X7_in l v (nI (val t 0)) (nI (lo 0)) (nI (hi 0))) f_X7_in q_14_20 dX7_isAssumed_42 [] [0, 1] rfl rfl (by decide) rfl rfl (Nat.le_of_ble_eq_true rfl) (by decide) (fun r_ w_ hp2 => ?_)
      rw [inI_N (by omega) (by omega) (by omega)] at hp2
      obtain ⟨rfl, rfl⟩ := hp2
      show GG k _ _ [[((mo 0), .inr (7, [.int th, .ref (mo 1), .ref (mo 2), .int (nI sm), .ref (mo 3), .int (nI ln), .ref (mo 4), .int rm, .int fa, .ref (mo 5), .ref (mo 6), .int sp, .int wr, .long dd]))], cMs v mo fs] _ _ [.int (bI (decide ((lo 0) ≤ (val t 0) ∧ (val t 0) ≤ (hi 0))))]
      refine g_if_eqB (tgt := 52) X dX7_isAssumed_45 (by decide) (fun c45 => ?_) (fun c45 => ?_)
      · have cw0 := c45
        refine g_iconst (x := nI 0) X dX7_isAssumed_52 (by decide +kernel) ?_
        refine g_istore_n (lv' := [(2, .int (nI 0)), (3, .int (nI 0)), (0, .ref (mo 0)), (1, .int (nI t))]) X dX7_isAssumed_53 rfl (by decide) rfl ?_
        refine g_iinc (y := nI 1) (lv' := [(3, .int (nI 1)), (2, .int (nI 0)), (0, .ref (mo 0)), (1, .int (nI t))]) (j := 1) X dX7_isAssumed_54 rfl (nI_add 0 1) (by decide) rfl ?_
        refine g_goto (tgt := 4) X dX7_isAssumed_57 (by decide) ?_
        refine g_iload_n X dX7_isAssumed_4 0 rfl rfl ?_
        refine g_iconst (x := nI 3) X dX7_isAssumed_5 (by decide +kernel) ?_
        refine g_icmp_geN (tgt := 60) X dX7_isAssumed_6 (by decide) (by omega) (by omega) (fun c6 => ?_) (fun c6 => ?_)
        · exact absurd c6 (by decide)
        · refine g_iload_n X dX7_isAssumed_9 1 rfl rfl ?_
          refine g_if_eqN (tgt := 52) X dX7_isAssumed_10 (by decide) (by omega) (fun c10 => ?_) (fun c10 => ?_)
          · refine g_iconst (x := nI 0) X dX7_isAssumed_52 (by decide +kernel) ?_
            refine g_istore_n (lv' := [(2, .int (nI 0)), (3, .int (nI 1)), (0, .ref (mo 0)), (1, .int (nI t))]) X dX7_isAssumed_53 rfl (by decide) rfl ?_
            refine g_iinc (y := nI 2) (lv' := [(3, .int (nI 2)), (2, .int (nI 0)), (0, .ref (mo 0)), (1, .int (nI t))]) (j := 1) X dX7_isAssumed_54 rfl (nI_add 1 1) (by decide) rfl ?_
            refine g_goto (tgt := 4) X dX7_isAssumed_57 (by decide) ?_
            refine g_iload_n X dX7_isAssumed_4 0 rfl rfl ?_
            refine g_iconst (x := nI 3) X dX7_isAssumed_5 (by decide +kernel) ?_
            refine g_icmp_geN (tgt := 60) X dX7_isAssumed_6 (by decide) (by omega) (by omega) (fun c6 => ?_) (fun c6 => ?_)
            · exact absurd c6 (by decide)
            · refine g_iload_n X dX7_isAssumed_9 1 rfl rfl ?_
              refine g_if_eqN (tgt := 52) X dX7_isAssumed_10 (by decide) (by omega) (fun c10 => ?_) (fun c10 => ?_)
              · refine g_iconst (x := nI 0) X dX7_isAssumed_52 (by decide +kernel) ?_
                refine g_istore_n (lv' := [(2, .int (nI 0)), (3, .int (nI 2)), (0, .ref (mo 0)), (1, .int (nI t))]) X dX7_isAssumed_53 rfl (by decide) rfl ?_
                refine g_iinc (y := nI 3) (lv' := [(3, .int (nI 3)), (2, .int (nI 0)), (0, .ref (mo 0)), (1, .int (nI t))]) (j := 1) X dX7_isAssumed_54 rfl (nI_add 2 1) (by decide) rfl ?_
                refine g_goto (tgt := 4) X dX7_isAssumed_57 (by decide) ?_
                refine g_iload_n X dX7_isAssumed_4 0 rfl rfl ?_
                refine g_iconst (x := nI 3) X dX7_isAssumed_5 (by decide +kernel) ?_
                refine g_icmp_geN (tgt := 60) X dX7_isAssumed_6 (by decide) (by omega) (by omega) (fun c6 => ?_) (fun c6 => ?_)
                · refine g_iload_n X dX7_isAssumed_60 1 rfl rfl ?_
                  exact E dX7_isAssumed_61 rfl (rfl) (by decide) (by decide) (⟨ab9_f (w := 0) (by omega) (by omega) (by have := of_decide_eq_false cw0; omega), rfl⟩)
                · exact absurd c6 (by decide)
              · exact absurd rfl c10
          · exact absurd rfl c10
      · have cw0 := c45
        refine g_iconst (x := nI 1) X dX7_isAssumed_48 (by decide +kernel) ?_
        refine g_goto (tgt := 53) X dX7_isAssumed_49 (by decide) ?_
        refine g_istore_n (lv' := [(2, .int (nI 1)), (3, .int (nI 0)), (0, .ref (mo 0)), (1, .int (nI t))]) X dX7_isAssumed_53 rfl (by decide) rfl ?_
        refine g_iinc (y := nI 1) (lv' := [(3, .int (nI 1)), (2, .int (nI 1)), (0, .ref (mo 0)), (1, .int (nI t))]) (j := 1) X dX7_isAssumed_54 rfl (nI_add 0 1) (by decide) rfl ?_
        refine g_goto (tgt := 4) X dX7_isAssumed_57 (by decide) ?_
        refine g_iload_n X dX7_isAssumed_4 0 rfl rfl ?_
        refine g_iconst (x := nI 3) X dX7_isAssumed_5 (by decide +kernel) ?_
        refine g_icmp_geN (tgt := 60) X dX7_isAssumed_6 (by decide) (by omega) (by omega) (fun c6 => ?_) (fun c6 => ?_)
        · exact absurd c6 (by decide)
        · refine g_iload_n X dX7_isAssumed_9 1 rfl rfl ?_
          refine g_if_eqN (tgt := 52) X dX7_isAssumed_10 (by decide) (by omega) (fun c10 => ?_) (fun c10 => ?_)
          · exact absurd c10 (by decide)
          · refine g_iload_n X dX7_isAssumed_13 3 rfl rfl ?_
            refine g_iload_n X dX7_isAssumed_14 0 rfl rfl ?_
            refine g_callS (As := [.int (nI t), .int (nI 1)]) (rest := []) (wr := [[((mo 0), .inr (7, [.int th, .ref (mo 1), .ref (mo 2), .int (nI sm), .ref (mo 3), .int (nI ln), .ref (mo 4), .int rm, .int fa, .ref (mo 5), .ref (mo 6), .int sp, .int wr, .long dd]))], cMs v mo fs]) X (c_X7_valueOf l v t 1 (by omega) (by omega)) f_X7_valueOf q_23_6 dX7_isAssumed_15 [] [0, 1] rfl rfl (by decide) rfl rfl (Nat.le_of_ble_eq_true rfl) (by decide) (fun r_ w_ hp3 => ?_)
            obtain ⟨rfl, rfl⟩ := hp3
            show GG k _ _ [[((mo 0), .inr (7, [.int th, .ref (mo 1), .ref (mo 2), .int (nI sm), .ref (mo 3), .int (nI ln), .ref (mo 4), .int rm, .int fa, .ref (mo 5), .ref (mo 6), .int sp, .int wr, .long dd]))], cMs v mo fs] _ _ [.int (nI (val t 1))]
            have hv1 := val_lt t 1
            refine g_aload_n X dX7_isAssumed_18 2 rfl rfl ?_
            refine g_get X cb7 1 q_4_18 dX7_isAssumed_19 0 0 rfl rfl (by decide) rfl rfl ?_
            refine g_bipush (x := nI 61) X dX7_isAssumed_22 (by decide +kernel) ?_
            refine g_iconst (x := nI 2) X dX7_isAssumed_24 (by decide +kernel) ?_
            refine g_iload_n X dX7_isAssumed_25 0 rfl rfl ?_
            refine g_imulN X dX7_isAssumed_26 ?_
            refine g_iaddN X dX7_isAssumed_27 ?_
            refine g_iald X dX7_isAssumed_28 1 0 rfl rfl (by omega) (by omega) ?_
            refine g_v (y := nI (lo 1)) ((hS.2.2 1 (by omega)).1) ?_
            refine g_aload_n X dX7_isAssumed_29 2 rfl rfl ?_
            refine g_get X cb7 1 q_4_18 dX7_isAssumed_30 0 0 rfl rfl (by decide) rfl rfl ?_
            refine g_bipush (x := nI 61) X dX7_isAssumed_33 (by decide +kernel) ?_
            refine g_iconst (x := nI 2) X dX7_isAssumed_35 (by decide +kernel) ?_
            refine g_iload_n X dX7_isAssumed_36 0 rfl rfl ?_
            refine g_imulN X dX7_isAssumed_37 ?_
            refine g_iaddN X dX7_isAssumed_38 ?_
            refine g_iconst (x := nI 1) X dX7_isAssumed_39 (by decide +kernel) ?_
            refine g_iaddN X dX7_isAssumed_40 ?_
            refine g_iald X dX7_isAssumed_41 1 0 rfl rfl (by omega) (by omega) ?_
            refine g_v (y := nI (hi 1)) ((hS.2.2 1 (by omega)).2) ?_
            refine g_callS (As := [.int (nI (val t 1)), .int (nI (lo 1)), .int (nI (hi 1))]) (rest := []) (wr := [[((mo 0), .inr (7, [.int th, .ref (mo 1), .ref (mo 2), .int (nI sm), .ref (mo 3), .int (nI ln), .ref (mo 4), .int rm, .int fa, .ref (mo 5), .ref (mo 6), .int sp, .int wr, .long dd]))], cMs v mo fs]) X (c_X7_in l v (nI (val t 1)) (nI (lo 1)) (nI (hi 1))) f_X7_in q_14_20 dX7_isAssumed_42 [] [0, 1] rfl rfl (by decide) rfl rfl (Nat.le_of_ble_eq_true rfl) (by decide) (fun r_ w_ hp4 => ?_)
            rw [inI_N (by omega) (by omega) (by omega)] at hp4
            obtain ⟨rfl, rfl⟩ := hp4
            show GG k _ _ [[((mo 0), .inr (7, [.int th, .ref (mo 1), .ref (mo 2), .int (nI sm), .ref (mo 3), .int (nI ln), .ref (mo 4), .int rm, .int fa, .ref (mo 5), .ref (mo 6), .int sp, .int wr, .long dd]))], cMs v mo fs] _ _ [.int (bI (decide ((lo 1) ≤ (val t 1) ∧ (val t 1) ≤ (hi 1))))]
            refine g_if_eqB (tgt := 52) X dX7_isAssumed_45 (by decide) (fun c45 => ?_) (fun c45 => ?_)
            · have cw1 := c45
              refine g_iconst (x := nI 0) X dX7_isAssumed_52 (by decide +kernel) ?_
              refine g_istore_n (lv' := [(2, .int (nI 0)), (3, .int (nI 1)), (0, .ref (mo 0)), (1, .int (nI t))]) X dX7_isAssumed_53 rfl (by decide) rfl ?_
              refine g_iinc (y := nI 2) (lv' := [(3, .int (nI 2)), (2, .int (nI 0)), (0, .ref (mo 0)), (1, .int (nI t))]) (j := 1) X dX7_isAssumed_54 rfl (nI_add 1 1) (by decide) rfl ?_
              refine g_goto (tgt := 4) X dX7_isAssumed_57 (by decide) ?_
              refine g_iload_n X dX7_isAssumed_4 0 rfl rfl ?_
              refine g_iconst (x := nI 3) X dX7_isAssumed_5 (by decide +kernel) ?_
              refine g_icmp_geN (tgt := 60) X dX7_isAssumed_6 (by decide) (by omega) (by omega) (fun c6 => ?_) (fun c6 => ?_)
              · exact absurd c6 (by decide)
              · refine g_iload_n X dX7_isAssumed_9 1 rfl rfl ?_
                refine g_if_eqN (tgt := 52) X dX7_isAssumed_10 (by decide) (by omega) (fun c10 => ?_) (fun c10 => ?_)
                · refine g_iconst (x := nI 0) X dX7_isAssumed_52 (by decide +kernel) ?_
                  refine g_istore_n (lv' := [(2, .int (nI 0)), (3, .int (nI 2)), (0, .ref (mo 0)), (1, .int (nI t))]) X dX7_isAssumed_53 rfl (by decide) rfl ?_
                  refine g_iinc (y := nI 3) (lv' := [(3, .int (nI 3)), (2, .int (nI 0)), (0, .ref (mo 0)), (1, .int (nI t))]) (j := 1) X dX7_isAssumed_54 rfl (nI_add 2 1) (by decide) rfl ?_
                  refine g_goto (tgt := 4) X dX7_isAssumed_57 (by decide) ?_
                  refine g_iload_n X dX7_isAssumed_4 0 rfl rfl ?_
                  refine g_iconst (x := nI 3) X dX7_isAssumed_5 (by decide +kernel) ?_
                  refine g_icmp_geN (tgt := 60) X dX7_isAssumed_6 (by decide) (by omega) (by omega) (fun c6 => ?_) (fun c6 => ?_)
                  · refine g_iload_n X dX7_isAssumed_60 1 rfl rfl ?_
                    exact E dX7_isAssumed_61 rfl (rfl) (by decide) (by decide) (⟨ab9_f (w := 1) (by omega) (by omega) (by have := of_decide_eq_false cw1; omega), rfl⟩)
                  · exact absurd c6 (by decide)
                · exact absurd rfl c10
            · have cw1 := c45
              refine g_iconst (x := nI 1) X dX7_isAssumed_48 (by decide +kernel) ?_
              refine g_goto (tgt := 53) X dX7_isAssumed_49 (by decide) ?_
              refine g_istore_n (lv' := [(2, .int (nI 1)), (3, .int (nI 1)), (0, .ref (mo 0)), (1, .int (nI t))]) X dX7_isAssumed_53 rfl (by decide) rfl ?_
              refine g_iinc (y := nI 2) (lv' := [(3, .int (nI 2)), (2, .int (nI 1)), (0, .ref (mo 0)), (1, .int (nI t))]) (j := 1) X dX7_isAssumed_54 rfl (nI_add 1 1) (by decide) rfl ?_
              refine g_goto (tgt := 4) X dX7_isAssumed_57 (by decide) ?_
              refine g_iload_n X dX7_isAssumed_4 0 rfl rfl ?_
              refine g_iconst (x := nI 3) X dX7_isAssumed_5 (by decide +kernel) ?_
              refine g_icmp_geN (tgt := 60) X dX7_isAssumed_6 (by decide) (by omega) (by omega) (fun c6 => ?_) (fun c6 => ?_)
              · exact absurd c6 (by decide)
              · refine g_iload_n X dX7_isAssumed_9 1 rfl rfl ?_
                refine g_if_eqN (tgt := 52) X dX7_isAssumed_10 (by decide) (by omega) (fun c10 => ?_) (fun c10 => ?_)
                · exact absurd c10 (by decide)
                · refine g_iload_n X dX7_isAssumed_13 3 rfl rfl ?_
                  refine g_iload_n X dX7_isAssumed_14 0 rfl rfl ?_
                  refine g_callS (As := [.int (nI t), .int (nI 2)]) (rest := []) (wr := [[((mo 0), .inr (7, [.int th, .ref (mo 1), .ref (mo 2), .int (nI sm), .ref (mo 3), .int (nI ln), .ref (mo 4), .int rm, .int fa, .ref (mo 5), .ref (mo 6), .int sp, .int wr, .long dd]))], cMs v mo fs]) X (c_X7_valueOf l v t 2 (by omega) (by omega)) f_X7_valueOf q_23_6 dX7_isAssumed_15 [] [0, 1] rfl rfl (by decide) rfl rfl (Nat.le_of_ble_eq_true rfl) (by decide) (fun r_ w_ hp5 => ?_)
                  obtain ⟨rfl, rfl⟩ := hp5
                  show GG k _ _ [[((mo 0), .inr (7, [.int th, .ref (mo 1), .ref (mo 2), .int (nI sm), .ref (mo 3), .int (nI ln), .ref (mo 4), .int rm, .int fa, .ref (mo 5), .ref (mo 6), .int sp, .int wr, .long dd]))], cMs v mo fs] _ _ [.int (nI (val t 2))]
                  have hv2 := val_lt t 2
                  refine g_aload_n X dX7_isAssumed_18 2 rfl rfl ?_
                  refine g_get X cb7 1 q_4_18 dX7_isAssumed_19 0 0 rfl rfl (by decide) rfl rfl ?_
                  refine g_bipush (x := nI 61) X dX7_isAssumed_22 (by decide +kernel) ?_
                  refine g_iconst (x := nI 2) X dX7_isAssumed_24 (by decide +kernel) ?_
                  refine g_iload_n X dX7_isAssumed_25 0 rfl rfl ?_
                  refine g_imulN X dX7_isAssumed_26 ?_
                  refine g_iaddN X dX7_isAssumed_27 ?_
                  refine g_iald X dX7_isAssumed_28 1 0 rfl rfl (by omega) (by omega) ?_
                  refine g_v (y := nI (lo 2)) ((hS.2.2 2 (by omega)).1) ?_
                  refine g_aload_n X dX7_isAssumed_29 2 rfl rfl ?_
                  refine g_get X cb7 1 q_4_18 dX7_isAssumed_30 0 0 rfl rfl (by decide) rfl rfl ?_
                  refine g_bipush (x := nI 61) X dX7_isAssumed_33 (by decide +kernel) ?_
                  refine g_iconst (x := nI 2) X dX7_isAssumed_35 (by decide +kernel) ?_
                  refine g_iload_n X dX7_isAssumed_36 0 rfl rfl ?_
                  refine g_imulN X dX7_isAssumed_37 ?_
                  refine g_iaddN X dX7_isAssumed_38 ?_
                  refine g_iconst (x := nI 1) X dX7_isAssumed_39 (by decide +kernel) ?_
                  refine g_iaddN X dX7_isAssumed_40 ?_
                  refine g_iald X dX7_isAssumed_41 1 0 rfl rfl (by omega) (by omega) ?_
                  refine g_v (y := nI (hi 2)) ((hS.2.2 2 (by omega)).2) ?_
                  refine g_callS (As := [.int (nI (val t 2)), .int (nI (lo 2)), .int (nI (hi 2))]) (rest := []) (wr := [[((mo 0), .inr (7, [.int th, .ref (mo 1), .ref (mo 2), .int (nI sm), .ref (mo 3), .int (nI ln), .ref (mo 4), .int rm, .int fa, .ref (mo 5), .ref (mo 6), .int sp, .int wr, .long dd]))], cMs v mo fs]) X (c_X7_in l v (nI (val t 2)) (nI (lo 2)) (nI (hi 2))) f_X7_in q_14_20 dX7_isAssumed_42 [] [0, 1] rfl rfl (by decide) rfl rfl (Nat.le_of_ble_eq_true rfl) (by decide) (fun r_ w_ hp6 => ?_)
                  rw [inI_N (by omega) (by omega) (by omega)] at hp6
                  obtain ⟨rfl, rfl⟩ := hp6
                  show GG k _ _ [[((mo 0), .inr (7, [.int th, .ref (mo 1), .ref (mo 2), .int (nI sm), .ref (mo 3), .int (nI ln), .ref (mo 4), .int rm, .int fa, .ref (mo 5), .ref (mo 6), .int sp, .int wr, .long dd]))], cMs v mo fs] _ _ [.int (bI (decide ((lo 2) ≤ (val t 2) ∧ (val t 2) ≤ (hi 2))))]
                  refine g_if_eqB (tgt := 52) X dX7_isAssumed_45 (by decide) (fun c45 => ?_) (fun c45 => ?_)
                  · have cw2 := c45
                    refine g_iconst (x := nI 0) X dX7_isAssumed_52 (by decide +kernel) ?_
                    refine g_istore_n (lv' := [(2, .int (nI 0)), (3, .int (nI 2)), (0, .ref (mo 0)), (1, .int (nI t))]) X dX7_isAssumed_53 rfl (by decide) rfl ?_
                    refine g_iinc (y := nI 3) (lv' := [(3, .int (nI 3)), (2, .int (nI 0)), (0, .ref (mo 0)), (1, .int (nI t))]) (j := 1) X dX7_isAssumed_54 rfl (nI_add 2 1) (by decide) rfl ?_
                    refine g_goto (tgt := 4) X dX7_isAssumed_57 (by decide) ?_
                    refine g_iload_n X dX7_isAssumed_4 0 rfl rfl ?_
                    refine g_iconst (x := nI 3) X dX7_isAssumed_5 (by decide +kernel) ?_
                    refine g_icmp_geN (tgt := 60) X dX7_isAssumed_6 (by decide) (by omega) (by omega) (fun c6 => ?_) (fun c6 => ?_)
                    · refine g_iload_n X dX7_isAssumed_60 1 rfl rfl ?_
                      exact E dX7_isAssumed_61 rfl (rfl) (by decide) (by decide) (⟨ab9_f (w := 2) (by omega) (by omega) (by have := of_decide_eq_false cw2; omega), rfl⟩)
                    · exact absurd c6 (by decide)
                  · have cw2 := c45
                    refine g_iconst (x := nI 1) X dX7_isAssumed_48 (by decide +kernel) ?_
                    refine g_goto (tgt := 53) X dX7_isAssumed_49 (by decide) ?_
                    refine g_istore_n (lv' := [(2, .int (nI 1)), (3, .int (nI 2)), (0, .ref (mo 0)), (1, .int (nI t))]) X dX7_isAssumed_53 rfl (by decide) rfl ?_
                    refine g_iinc (y := nI 3) (lv' := [(3, .int (nI 3)), (2, .int (nI 1)), (0, .ref (mo 0)), (1, .int (nI t))]) (j := 1) X dX7_isAssumed_54 rfl (nI_add 2 1) (by decide) rfl ?_
                    refine g_goto (tgt := 4) X dX7_isAssumed_57 (by decide) ?_
                    refine g_iload_n X dX7_isAssumed_4 0 rfl rfl ?_
                    refine g_iconst (x := nI 3) X dX7_isAssumed_5 (by decide +kernel) ?_
                    refine g_icmp_geN (tgt := 60) X dX7_isAssumed_6 (by decide) (by omega) (by omega) (fun c6 => ?_) (fun c6 => ?_)
                    · refine g_iload_n X dX7_isAssumed_60 1 rfl rfl ?_
                      exact E dX7_isAssumed_61 rfl (rfl) (by decide) (by decide) (⟨ab9_t (fun w hw _ => by rcases (show w = 0 ∨ w = 1 ∨ w = 2 by omega) with rfl | rfl | rfl; exact of_decide_eq_true cw0; exact of_decide_eq_true cw1; exact of_decide_eq_true cw2), rfl⟩)
                    · exact absurd c6 (by decide)

set_option maxHeartbeats 4000000 in
set_option maxRecDepth 100000 in
theorem c_X7_assumed (l : Launch) (v : VV) (mo : Nat → Nat) (th : Int32) (sm : Nat) (ln : Nat) (rm : Int32) (fa : Int32) (sp : Int32) (wr : Int32) (dd : Int64) (P : Nat → S9) (n : Nat) (lo : Nat → Nat) (hi : Nat → Nat) (fs : Nat → Int32) (hW : WF P n) (hS : SR P n lo hi fs) (hL : AsW lo hi) : MI l v yX7_assumed cX7_assumed 3 (some .int) ({ frames := 0, cells := 0, slots := 0, locals := 0 }) [.ref (mo 0)] [[((mo 0), .inr (7, [.int th, .ref (mo 1), .ref (mo 2), .int (nI sm), .ref (mo 3), .int (nI ln), .ref (mo 4), .int rm, .int fa, .ref (mo 5), .ref (mo 6), .int sp, .int wr, .long dd]))], cMs v mo fs] (fun r w_ => r = nI (cnt9 lo hi 3) ∧ w_ = [[((mo 0), .inr (7, [.int th, .ref (mo 1), .ref (mo 2), .int (nI sm), .ref (mo 3), .int (nI ln), .ref (mo 4), .int rm, .int fa, .ref (mo 5), .ref (mo 6), .int sp, .int wr, .long dd]))], cMs v mo fs]) 0 0 := by
  refine mm_int (by decide) (Nat.le_of_ble_eq_true rfl) [(0, .ref (mo 0))] rfl (fun k X E => ?_)
  have hn12 := hW.1
  have hl0 := hL 0 (by omega)
  have hl1 := hL 1 (by omega)
  have hl2 := hL 2 (by omega)
  refine g_iconst (x := nI 1) X dX7_assumed_0 (by decide +kernel) ?_
  refine g_istore_n (lv' := [(1, .int (nI 1)), (0, .ref (mo 0))]) X dX7_assumed_1 rfl (by decide) rfl ?_
  refine g_iconst (x := nI 0) X dX7_assumed_2 (by decide +kernel) ?_
  refine g_istore_n (lv' := [(2, .int (nI 0)), (1, .int (nI 1)), (0, .ref (mo 0))]) X dX7_assumed_3 rfl (by decide) rfl ?_
  refine g_iload_n X dX7_assumed_4 0 rfl rfl ?_
  refine g_iconst (x := nI 3) X dX7_assumed_5 (by decide +kernel) ?_
  refine g_icmp_geN (tgt := 45) X dX7_assumed_6 (by decide) (by omega) (by omega) (fun c6 => ?_) (fun c6 => ?_)
  · exact absurd c6 (by decide)
  · refine g_iload_n X dX7_assumed_9 1 rfl rfl ?_
    refine g_aload_n X dX7_assumed_10 2 rfl rfl ?_
    refine g_get X cb7 1 q_4_18 dX7_assumed_11 0 0 rfl rfl (by decide) rfl rfl ?_
    refine g_bipush (x := nI 61) X dX7_assumed_14 (by decide +kernel) ?_
    refine g_iconst (x := nI 2) X dX7_assumed_16 (by decide +kernel) ?_
    refine g_iload_n X dX7_assumed_17 0 rfl rfl ?_
    refine g_imulN X dX7_assumed_18 ?_
    refine g_iaddN X dX7_assumed_19 ?_
    refine g_iconst (x := nI 1) X dX7_assumed_20 (by decide +kernel) ?_
    refine g_iaddN X dX7_assumed_21 ?_
    refine g_iald X dX7_assumed_22 1 0 rfl rfl (by omega) (by omega) ?_
    refine g_v (y := nI (hi 0)) ((hS.2.2 0 (by omega)).2) ?_
    refine g_aload_n X dX7_assumed_23 2 rfl rfl ?_
    refine g_get X cb7 1 q_4_18 dX7_assumed_24 0 0 rfl rfl (by decide) rfl rfl ?_
    refine g_bipush (x := nI 61) X dX7_assumed_27 (by decide +kernel) ?_
    refine g_iconst (x := nI 2) X dX7_assumed_29 (by decide +kernel) ?_
    refine g_iload_n X dX7_assumed_30 0 rfl rfl ?_
    refine g_imulN X dX7_assumed_31 ?_
    refine g_iaddN X dX7_assumed_32 ?_
    refine g_iald X dX7_assumed_33 1 0 rfl rfl (by omega) (by omega) ?_
    refine g_v (y := nI (lo 0)) ((hS.2.2 0 (by omega)).1) ?_
    refine g_isubN X dX7_assumed_34 (by omega) ?_
    refine g_iconst (x := nI 1) X dX7_assumed_35 (by decide +kernel) ?_
    refine g_iaddN X dX7_assumed_36 ?_
    refine g_imulN X dX7_assumed_37 ?_
    refine g_istore_n (lv' := [(1, .int (nI (1 * (((hi 0) - (lo 0)) + 1)))), (2, .int (nI 0)), (0, .ref (mo 0))]) X dX7_assumed_38 rfl (by decide) rfl ?_
    refine g_iinc (y := nI 1) (lv' := [(2, .int (nI 1)), (1, .int (nI (1 * (((hi 0) - (lo 0)) + 1)))), (0, .ref (mo 0))]) (j := 1) X dX7_assumed_39 rfl (nI_add 0 1) (by decide) rfl ?_
    refine g_goto (tgt := 4) X dX7_assumed_42 (by decide) ?_
    refine g_iload_n X dX7_assumed_4 0 rfl rfl ?_
    refine g_iconst (x := nI 3) X dX7_assumed_5 (by decide +kernel) ?_
    refine g_icmp_geN (tgt := 45) X dX7_assumed_6 (by decide) (by omega) (by omega) (fun c6 => ?_) (fun c6 => ?_)
    · exact absurd c6 (by decide)
    · refine g_iload_n X dX7_assumed_9 1 rfl rfl ?_
      refine g_aload_n X dX7_assumed_10 2 rfl rfl ?_
      refine g_get X cb7 1 q_4_18 dX7_assumed_11 0 0 rfl rfl (by decide) rfl rfl ?_
      refine g_bipush (x := nI 61) X dX7_assumed_14 (by decide +kernel) ?_
      refine g_iconst (x := nI 2) X dX7_assumed_16 (by decide +kernel) ?_
      refine g_iload_n X dX7_assumed_17 0 rfl rfl ?_
      refine g_imulN X dX7_assumed_18 ?_
      refine g_iaddN X dX7_assumed_19 ?_
      refine g_iconst (x := nI 1) X dX7_assumed_20 (by decide +kernel) ?_
      refine g_iaddN X dX7_assumed_21 ?_
      refine g_iald X dX7_assumed_22 1 0 rfl rfl (by omega) (by omega) ?_
      refine g_v (y := nI (hi 1)) ((hS.2.2 1 (by omega)).2) ?_
      refine g_aload_n X dX7_assumed_23 2 rfl rfl ?_
      refine g_get X cb7 1 q_4_18 dX7_assumed_24 0 0 rfl rfl (by decide) rfl rfl ?_
      refine g_bipush (x := nI 61) X dX7_assumed_27 (by decide +kernel) ?_
      refine g_iconst (x := nI 2) X dX7_assumed_29 (by decide +kernel) ?_
      refine g_iload_n X dX7_assumed_30 0 rfl rfl ?_
      refine g_imulN X dX7_assumed_31 ?_
      refine g_iaddN X dX7_assumed_32 ?_
      refine g_iald X dX7_assumed_33 1 0 rfl rfl (by omega) (by omega) ?_
      refine g_v (y := nI (lo 1)) ((hS.2.2 1 (by omega)).1) ?_
      refine g_isubN X dX7_assumed_34 (by omega) ?_
      refine g_iconst (x := nI 1) X dX7_assumed_35 (by decide +kernel) ?_
      refine g_iaddN X dX7_assumed_36 ?_
      refine g_imulN X dX7_assumed_37 ?_
      refine g_istore_n (lv' := [(1, .int (nI ((1 * (((hi 0) - (lo 0)) + 1)) * (((hi 1) - (lo 1)) + 1)))), (2, .int (nI 1)), (0, .ref (mo 0))]) X dX7_assumed_38 rfl (by decide) rfl ?_
      refine g_iinc (y := nI 2) (lv' := [(2, .int (nI 2)), (1, .int (nI ((1 * (((hi 0) - (lo 0)) + 1)) * (((hi 1) - (lo 1)) + 1)))), (0, .ref (mo 0))]) (j := 1) X dX7_assumed_39 rfl (nI_add 1 1) (by decide) rfl ?_
      refine g_goto (tgt := 4) X dX7_assumed_42 (by decide) ?_
      refine g_iload_n X dX7_assumed_4 0 rfl rfl ?_
      refine g_iconst (x := nI 3) X dX7_assumed_5 (by decide +kernel) ?_
      refine g_icmp_geN (tgt := 45) X dX7_assumed_6 (by decide) (by omega) (by omega) (fun c6 => ?_) (fun c6 => ?_)
      · exact absurd c6 (by decide)
      · refine g_iload_n X dX7_assumed_9 1 rfl rfl ?_
        refine g_aload_n X dX7_assumed_10 2 rfl rfl ?_
        refine g_get X cb7 1 q_4_18 dX7_assumed_11 0 0 rfl rfl (by decide) rfl rfl ?_
        refine g_bipush (x := nI 61) X dX7_assumed_14 (by decide +kernel) ?_
        refine g_iconst (x := nI 2) X dX7_assumed_16 (by decide +kernel) ?_
        refine g_iload_n X dX7_assumed_17 0 rfl rfl ?_
        refine g_imulN X dX7_assumed_18 ?_
        refine g_iaddN X dX7_assumed_19 ?_
        refine g_iconst (x := nI 1) X dX7_assumed_20 (by decide +kernel) ?_
        refine g_iaddN X dX7_assumed_21 ?_
        refine g_iald X dX7_assumed_22 1 0 rfl rfl (by omega) (by omega) ?_
        refine g_v (y := nI (hi 2)) ((hS.2.2 2 (by omega)).2) ?_
        refine g_aload_n X dX7_assumed_23 2 rfl rfl ?_
        refine g_get X cb7 1 q_4_18 dX7_assumed_24 0 0 rfl rfl (by decide) rfl rfl ?_
        refine g_bipush (x := nI 61) X dX7_assumed_27 (by decide +kernel) ?_
        refine g_iconst (x := nI 2) X dX7_assumed_29 (by decide +kernel) ?_
        refine g_iload_n X dX7_assumed_30 0 rfl rfl ?_
        refine g_imulN X dX7_assumed_31 ?_
        refine g_iaddN X dX7_assumed_32 ?_
        refine g_iald X dX7_assumed_33 1 0 rfl rfl (by omega) (by omega) ?_
        refine g_v (y := nI (lo 2)) ((hS.2.2 2 (by omega)).1) ?_
        refine g_isubN X dX7_assumed_34 (by omega) ?_
        refine g_iconst (x := nI 1) X dX7_assumed_35 (by decide +kernel) ?_
        refine g_iaddN X dX7_assumed_36 ?_
        refine g_imulN X dX7_assumed_37 ?_
        refine g_istore_n (lv' := [(1, .int (nI (((1 * (((hi 0) - (lo 0)) + 1)) * (((hi 1) - (lo 1)) + 1)) * (((hi 2) - (lo 2)) + 1)))), (2, .int (nI 2)), (0, .ref (mo 0))]) X dX7_assumed_38 rfl (by decide) rfl ?_
        refine g_iinc (y := nI 3) (lv' := [(2, .int (nI 3)), (1, .int (nI (((1 * (((hi 0) - (lo 0)) + 1)) * (((hi 1) - (lo 1)) + 1)) * (((hi 2) - (lo 2)) + 1)))), (0, .ref (mo 0))]) (j := 1) X dX7_assumed_39 rfl (nI_add 2 1) (by decide) rfl ?_
        refine g_goto (tgt := 4) X dX7_assumed_42 (by decide) ?_
        refine g_iload_n X dX7_assumed_4 0 rfl rfl ?_
        refine g_iconst (x := nI 3) X dX7_assumed_5 (by decide +kernel) ?_
        refine g_icmp_geN (tgt := 45) X dX7_assumed_6 (by decide) (by omega) (by omega) (fun c6 => ?_) (fun c6 => ?_)
        · refine g_iload_n X dX7_assumed_45 1 rfl rfl ?_
          exact E dX7_assumed_46 rfl (rfl) (by decide) (by decide) (⟨rfl, rfl⟩)
        · exact absurd c6 (by decide)

set_option maxHeartbeats 4000000 in
set_option maxRecDepth 100000 in
theorem c_X7_save (l : Launch) (v : VV) (mo : Nat → Nat) (th : Int32) (sm : Nat) (ln : Nat) (rm : Int32) (fa : Int32) (sp : Int32) (wr : Int32) (dd : Int64) (P : Nat → S9) (n : Nat) (lo : Nat → Nat) (hi : Nat → Nat) (fs : Nat → Int32) (fv : Nat → Int32) (H : Nat → HE9) (hW : WF P n) (hS : SR P n lo hi fs) (hL : AsW lo hi) (hH : HMR H sm fv) : MU l v yX7_save cX7_save 2 none ({ frames := 0, cells := 0, slots := 0, locals := 0 }) [.ref (mo 0)] [[((mo 0), .inr (7, [.int th, .ref (mo 1), .ref (mo 2), .int (nI sm), .ref (mo 3), .int (nI ln), .ref (mo 4), .int rm, .int fa, .ref (mo 5), .ref (mo 6), .int sp, .int wr, .long dd]))], cMs v mo fs, cMv v mo fv] (fun _ w_ => ∃ fv', HMR (hS9 H sm (P, n, lo, hi)) (hC9 sm) fv' ∧ w_ = [[((mo 0), .inr (7, [.int th, .ref (mo 1), .ref (mo 2), .int (nI (hC9 sm)), .ref (mo 3), .int (nI ln), .ref (mo 4), .int rm, .int fa, .ref (mo 5), .ref (mo 6), .int sp, .int wr, .long dd]))], cMs v mo fs, cMv v mo fv']) 0 0 := by
  refine mm_void rfl (by decide) (Nat.le_of_ble_eq_true rfl) [(0, .ref (mo 0))] rfl (fun k X hin E => ?_)
  have hn12 := hW.1
  have hc7 := hH.1
  refine g_aload_n X dX7_save_0 0 rfl rfl ?_
  refine g_get X cb7 3 q_16_4 dX7_save_1 0 0 rfl rfl (by decide) rfl rfl ?_
  refine g_bipush (x := nI 6) X dX7_save_4 (by decide +kernel) ?_
  refine g_icmp_neN (tgt := 49) X dX7_save_6 (by decide) (by omega) (by omega) (fun c6 => ?_) (fun c6 => ?_)
  · refine g_iconst (x := nI 0) X dX7_save_49 (by decide +kernel) ?_
    refine g_istore_n (lv' := [(1, .int (nI 0)), (0, .ref (mo 0))]) X dX7_save_50 rfl (by decide) rfl ?_
    have lp51 : ∀ (zN : Nat) (k8 : Nat) (f2 : Nat → Int32) (hk8 : k8 ≤ 67) (e3 : ∀ m, m < k8 → f2 (67 * sm + m) = fs m) (e4 : ∀ m, m < 67 * sm → f2 m = fv m) (zM : zN = 67 - k8), GG k 0 0 [[((mo 0), .inr (7, [.int th, .ref (mo 1), .ref (mo 2), .int (nI sm), .ref (mo 3), .int (nI ln), .ref (mo 4), .int rm, .int fa, .ref (mo 5), .ref (mo 6), .int sp, .int wr, .long dd]))], cMs v mo fs, cMv v mo f2] [(1, .int (nI k8)), (0, .ref (mo 0))] 51 [] := by
      intro zN
      induction zN using Nat.strongRecOn with
      | _ zN zih =>
        have ih51 := zih
        clear zih
        intro k8 f2 hk8 e3 e4 zM
        refine g_iload_n X dX7_save_51 0 rfl rfl ?_
        refine g_bipush (x := nI 67) X dX7_save_52 (by decide +kernel) ?_
        refine g_icmp_geN (tgt := 83) X dX7_save_54 (by decide) (by omega) (by omega) (fun c54 => ?_) (fun c54 => ?_)
        · refine g_aload_n X dX7_save_83 1 rfl rfl ?_
          refine g_dup X dX7_save_84 rfl ?_
          refine g_get X cb7 3 q_16_4 dX7_save_85 0 0 rfl rfl (by decide) rfl rfl ?_
          refine g_iconst (x := nI 1) X dX7_save_88 (by decide +kernel) ?_
          refine g_iaddN X dX7_save_89 ?_
          refine g_put (cs' := [[((mo 0), .inr (7, [.int th, .ref (mo 1), .ref (mo 2), .int (nI (sm + 1)), .ref (mo 3), .int (nI ln), .ref (mo 4), .int rm, .int fa, .ref (mo 5), .ref (mo 6), .int sp, .int wr, .long dd]))], cMs v mo fs, cMv v mo f2]) X cb7 3 q_16_4 dX7_save_90 0 0 rfl rfl (by decide) rfl rfl (rfl) (rfl) (Nat.le_of_ble_eq_true rfl) rfl ?_
          exact E dX7_save_93 (by decide) (by decide) (⟨f2, HMR_put hH (by omega) ⟨hW, hL, hS⟩ (fun m hm => e3 m (by omega)) e4, by rw [hC9, if_neg (by omega)]⟩)
        · refine g_aload_n X dX7_save_57 1 rfl rfl ?_
          refine g_get X cb7 2 q_4_19 dX7_save_58 0 0 rfl rfl (by decide) rfl rfl ?_
          refine g_bipush (x := nI 67) X dX7_save_61 (by decide +kernel) ?_
          refine g_aload_n X dX7_save_63 1 rfl rfl ?_
          refine g_get X cb7 3 q_16_4 dX7_save_64 0 0 rfl rfl (by decide) rfl rfl ?_
          refine g_imulN X dX7_save_67 ?_
          refine g_iload_n X dX7_save_68 0 rfl rfl ?_
          refine g_iaddN X dX7_save_69 ?_
          refine g_aload_n X dX7_save_70 1 rfl rfl ?_
          refine g_get X cb7 1 q_4_18 dX7_save_71 0 0 rfl rfl (by decide) rfl rfl ?_
          refine g_iload_n X dX7_save_74 0 rfl rfl ?_
          refine g_iald X dX7_save_75 1 0 rfl rfl (by omega) (by omega) ?_
          refine g_iast (cs' := [[((mo 0), .inr (7, [.int th, .ref (mo 1), .ref (mo 2), .int (nI sm), .ref (mo 3), .int (nI ln), .ref (mo 4), .int rm, .int fa, .ref (mo 5), .ref (mo 6), .int sp, .int wr, .long dd]))], cMs v mo fs, [((mo 2), .inl (v.2.1 0, 402, .inl (upd f2 ((67 * sm) + k8) (fs k8))))]]) X dX7_save_76 2 0 rfl rfl (by omega) (by omega) rfl ?_
          refine g_iinc (y := nI (k8 + 1)) (lv' := [(1, .int (nI (k8 + 1))), (0, .ref (mo 0))]) (j := 0) X dX7_save_77 rfl (nI_add k8 1) (by decide) rfl ?_
          refine g_goto (tgt := 51) X dX7_save_80 (by decide) ?_
          exact ih51 _ (by omega) (k8 + 1) (upd f2 ((67 * sm) + k8) (fs k8)) (by omega) (fun m hm => by by_cases z : m = k8; subst z; exact pk_us; exact (pk_un (by omega)).trans (e3 m (by omega))) (fun m hm => (pk_un (by omega)).trans (e4 m hm)) rfl
    exact lp51 _ 0 fv (by omega) (fun m h => absurd h (Nat.not_lt_zero _)) (fun _ _ => rfl) rfl
  · have hc6 : sm = 6 := c6
    subst hc6
    refine g_iconst (x := nI 0) X dX7_save_9 (by decide +kernel) ?_
    refine g_istore_n (lv' := [(1, .int (nI 0)), (0, .ref (mo 0))]) X dX7_save_10 rfl (by decide) rfl ?_
    have lp11 : ∀ (zN : Nat) (k9 : Nat) (fv' : Nat → Int32) (hk9 : k9 ≤ 335) (e1 : ∀ m, m < k9 → fv' m = fv (m + 67)) (e2 : ∀ m, k9 ≤ m → fv' m = fv m) (zM : zN = 335 - k9), GG k 0 0 [[((mo 0), .inr (7, [.int th, .ref (mo 1), .ref (mo 2), .int (nI 6), .ref (mo 3), .int (nI ln), .ref (mo 4), .int rm, .int fa, .ref (mo 5), .ref (mo 6), .int sp, .int wr, .long dd]))], cMs v mo fs, cMv v mo fv'] [(1, .int (nI k9)), (0, .ref (mo 0))] 11 [] := by
      intro zN
      induction zN using Nat.strongRecOn with
      | _ zN zih =>
        have ih11 := zih
        clear zih
        intro k9 fv' hk9 e1 e2 zM
        refine g_iload_n X dX7_save_11 0 rfl rfl ?_
        refine g_sipush (x := nI 335) X dX7_save_12 (by decide +kernel) ?_
        refine g_icmp_geN (tgt := 39) X dX7_save_15 (by decide) (by omega) (by omega) (fun c15 => ?_) (fun c15 => ?_)
        · refine g_aload_n X dX7_save_39 1 rfl rfl ?_
          refine g_dup X dX7_save_40 rfl ?_
          refine g_get X cb7 3 q_16_4 dX7_save_41 0 0 rfl rfl (by decide) rfl rfl ?_
          refine g_iconst (x := nI 1) X dX7_save_44 (by decide +kernel) ?_
          refine g_isubN X dX7_save_45 (by omega) ?_
          refine g_v (y := nI 5) (rfl) ?_
          refine g_put (cs' := [[((mo 0), .inr (7, [.int th, .ref (mo 1), .ref (mo 2), .int (nI 5), .ref (mo 3), .int (nI ln), .ref (mo 4), .int rm, .int fa, .ref (mo 5), .ref (mo 6), .int sp, .int wr, .long dd]))], cMs v mo fs, cMv v mo fv']) X cb7 3 q_16_4 dX7_save_46 0 0 rfl rfl (by decide) rfl rfl (rfl) (rfl) (Nat.le_of_ble_eq_true rfl) rfl ?_
          refine g_iconst (x := nI 0) X dX7_save_49 (by decide +kernel) ?_
          refine g_istore_n (lv' := [(1, .int (nI 0)), (0, .ref (mo 0))]) X dX7_save_50 rfl (by decide) rfl ?_
          have lp51 : ∀ (zN : Nat) (k8 : Nat) (f2 : Nat → Int32) (hk8 : k8 ≤ 67) (e3 : ∀ m, m < k8 → f2 (67 * 5 + m) = fs m) (e4 : ∀ m, m < 67 * 5 → f2 m = fv' m) (zM : zN = 67 - k8), GG k 0 0 [[((mo 0), .inr (7, [.int th, .ref (mo 1), .ref (mo 2), .int (nI 5), .ref (mo 3), .int (nI ln), .ref (mo 4), .int rm, .int fa, .ref (mo 5), .ref (mo 6), .int sp, .int wr, .long dd]))], cMs v mo fs, cMv v mo f2] [(1, .int (nI k8)), (0, .ref (mo 0))] 51 [] := by
            intro zN
            induction zN using Nat.strongRecOn with
            | _ zN zih =>
              have ih51 := zih
              clear zih
              intro k8 f2 hk8 e3 e4 zM
              refine g_iload_n X dX7_save_51 0 rfl rfl ?_
              refine g_bipush (x := nI 67) X dX7_save_52 (by decide +kernel) ?_
              refine g_icmp_geN (tgt := 83) X dX7_save_54 (by decide) (by omega) (by omega) (fun c54 => ?_) (fun c54 => ?_)
              · refine g_aload_n X dX7_save_83 1 rfl rfl ?_
                refine g_dup X dX7_save_84 rfl ?_
                refine g_get X cb7 3 q_16_4 dX7_save_85 0 0 rfl rfl (by decide) rfl rfl ?_
                refine g_iconst (x := nI 1) X dX7_save_88 (by decide +kernel) ?_
                refine g_iaddN X dX7_save_89 ?_
                refine g_put (cs' := [[((mo 0), .inr (7, [.int th, .ref (mo 1), .ref (mo 2), .int (nI (5 + 1)), .ref (mo 3), .int (nI ln), .ref (mo 4), .int rm, .int fa, .ref (mo 5), .ref (mo 6), .int sp, .int wr, .long dd]))], cMs v mo fs, cMv v mo f2]) X cb7 3 q_16_4 dX7_save_90 0 0 rfl rfl (by decide) rfl rfl (rfl) (rfl) (Nat.le_of_ble_eq_true rfl) rfl ?_
                exact E dX7_save_93 (by decide) (by decide) (⟨f2, HMR_full hH ⟨hW, hL, hS⟩ (fun m hm => e1 m (by omega)) (fun m hm => e3 m (by omega)) e4, rfl⟩)
              · refine g_aload_n X dX7_save_57 1 rfl rfl ?_
                refine g_get X cb7 2 q_4_19 dX7_save_58 0 0 rfl rfl (by decide) rfl rfl ?_
                refine g_bipush (x := nI 67) X dX7_save_61 (by decide +kernel) ?_
                refine g_aload_n X dX7_save_63 1 rfl rfl ?_
                refine g_get X cb7 3 q_16_4 dX7_save_64 0 0 rfl rfl (by decide) rfl rfl ?_
                refine g_imulN X dX7_save_67 ?_
                refine g_iload_n X dX7_save_68 0 rfl rfl ?_
                refine g_iaddN X dX7_save_69 ?_
                refine g_aload_n X dX7_save_70 1 rfl rfl ?_
                refine g_get X cb7 1 q_4_18 dX7_save_71 0 0 rfl rfl (by decide) rfl rfl ?_
                refine g_iload_n X dX7_save_74 0 rfl rfl ?_
                refine g_iald X dX7_save_75 1 0 rfl rfl (by omega) (by omega) ?_
                refine g_iast (cs' := [[((mo 0), .inr (7, [.int th, .ref (mo 1), .ref (mo 2), .int (nI 5), .ref (mo 3), .int (nI ln), .ref (mo 4), .int rm, .int fa, .ref (mo 5), .ref (mo 6), .int sp, .int wr, .long dd]))], cMs v mo fs, [((mo 2), .inl (v.2.1 0, 402, .inl (upd f2 ((67 * 5) + k8) (fs k8))))]]) X dX7_save_76 2 0 rfl rfl (by omega) (by omega) rfl ?_
                refine g_iinc (y := nI (k8 + 1)) (lv' := [(1, .int (nI (k8 + 1))), (0, .ref (mo 0))]) (j := 0) X dX7_save_77 rfl (nI_add k8 1) (by decide) rfl ?_
                refine g_goto (tgt := 51) X dX7_save_80 (by decide) ?_
                exact ih51 _ (by omega) (k8 + 1) (upd f2 ((67 * 5) + k8) (fs k8)) (by omega) (fun m hm => by by_cases z : m = k8; subst z; exact pk_us; exact (pk_un (by omega)).trans (e3 m (by omega))) (fun m hm => (pk_un (by omega)).trans (e4 m hm)) rfl
          exact lp51 _ 0 fv' (by omega) (fun m h => absurd h (Nat.not_lt_zero _)) (fun _ _ => rfl) rfl
        · refine g_aload_n X dX7_save_18 1 rfl rfl ?_
          refine g_get X cb7 2 q_4_19 dX7_save_19 0 0 rfl rfl (by decide) rfl rfl ?_
          refine g_iload_n X dX7_save_22 0 rfl rfl ?_
          refine g_aload_n X dX7_save_23 1 rfl rfl ?_
          refine g_get X cb7 2 q_4_19 dX7_save_24 0 0 rfl rfl (by decide) rfl rfl ?_
          refine g_iload_n X dX7_save_27 0 rfl rfl ?_
          refine g_bipush (x := nI 67) X dX7_save_28 (by decide +kernel) ?_
          refine g_iaddN X dX7_save_30 ?_
          refine g_iald X dX7_save_31 2 0 rfl rfl (by omega) (by omega) ?_
          refine g_iast (cs' := [[((mo 0), .inr (7, [.int th, .ref (mo 1), .ref (mo 2), .int (nI 6), .ref (mo 3), .int (nI ln), .ref (mo 4), .int rm, .int fa, .ref (mo 5), .ref (mo 6), .int sp, .int wr, .long dd]))], cMs v mo fs, [((mo 2), .inl (v.2.1 0, 402, .inl (upd fv' k9 (fv' (k9 + 67)))))]]) X dX7_save_32 2 0 rfl rfl (by omega) (by omega) rfl ?_
          refine g_iinc (y := nI (k9 + 1)) (lv' := [(1, .int (nI (k9 + 1))), (0, .ref (mo 0))]) (j := 0) X dX7_save_33 rfl (nI_add k9 1) (by decide) rfl ?_
          refine g_goto (tgt := 11) X dX7_save_36 (by decide) ?_
          exact ih11 _ (by omega) (k9 + 1) (upd fv' k9 (fv' (k9 + 67))) (by omega) (fun m hm => by by_cases z : m = k9; subst z; exact pk_us.trans (e2 _ (by omega)); exact (pk_un (by omega)).trans (e1 m (by omega))) (fun m hm => (pk_un (by omega)).trans (e2 m (by omega))) rfl
    exact lp11 _ 0 fv (by omega) (fun m h => absurd h (Nat.not_lt_zero _)) (fun _ _ => rfl) rfl

