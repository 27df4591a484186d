/-! ## the model: places -/
theorem SR_place {P : Nat → S9} {n b m : Nat} {lo hi : Nat → Nat} {L : List S9} {fs f' fr : Nat → Int32} (hS : SR P n lo hi fs) (hb : b ≤ n) (hm : b + m ≤ 12) (hR : RWs fr L m) (e1 : ∀ j, j < 5 * m → f' (1 + 5 * b + j) = fr j) (e2 : ∀ j, j < 1 + 5 * b ∨ 1 + 5 * b + 5 * m ≤ j → f' j = fs j) : SR (ap9 P b (lg9 L)) (b + m) lo hi (upd f' 0 (nI (b + m))) := by
  refine ⟨pk_us, fun i hi9 => ?_, fun w hw => ?_⟩
  · rw [pk_un (by omega), pk_un (by omega), pk_un (by omega), pk_un (by omega), pk_un (by omega)]
    unfold ap9
    by_cases z : i < b
    · rw [if_pos z, e2 _ (by omega), e2 _ (by omega), e2 _ (by omega), e2 _ (by omega), e2 _ (by omega)]
      exact hS.2.1 i (by omega)
    · rw [if_neg z]
      have h := hR (i - b) (by omega)
      have e : ∀ u, u < 5 → f' (1 + 5 * i + u) = fr (5 * (i - b) + u) := fun u hu => by rw [← e1 _ (by omega)]; congr 1; omega
      rw [e 0 (by omega), e 1 (by omega), e 2 (by omega), e 3 (by omega), e 4 (by omega)]
      exact h
  · rw [pk_un (by omega), pk_un (by omega), e2 _ (by omega), e2 _ (by omega)]
    exact hS.2.2 w hw
theorem SR_P {P P' : Nat → S9} {n : Nat} {lo hi : Nat → Nat} {f : Nat → Int32} (h : SR P n lo hi f) (e : ∀ i, i < n → P' i = P i) : SR P' n lo hi f := ⟨h.1, fun i hi9 => by rw [e i hi9]; exact h.2.1 i hi9, h.2.2⟩

set_option maxHeartbeats 4000000 in
set_option maxRecDepth 100000 in
theorem c_X7_places (l : Launch) (v : VV) (mo : Nat → Nat) (th : Int32) (sm : Nat) (ln : Nat) (fa : Int32) (sp : Int32) (wr : Int32) (dd : Int64) (P : Nat → S9) (n : Nat) (lo : Nat → Nat) (hi : Nat → Nat) (fs : Nat → Int32) (fr : Nat → Int32) (L : List S9) (m : Nat) (b : Nat) (hS : SR P n lo hi fs) (hb : b ≤ n) (hm : b + m ≤ 12) (hR : RWs fr L m) : MI l v yX7_places cX7_places 3 (some .int) ({ frames := 0, cells := 0, slots := 0, locals := 0 }) [.ref (mo 0), .int (nI b)] [[((mo 0), .inr (7, [.int th, .ref (mo 1), .ref (mo 2), .int (nI sm), .ref (mo 3), .int (nI ln), .ref (mo 4), .int (nI m), .int fa, .ref (mo 5), .ref (mo 6), .int sp, .int wr, .long dd]))], cMs v mo fs, cMr v mo fr] (fun r w_ => ∃ fs', r = nI (b + m) ∧ SR (ap9 P b (lg9 L)) (b + m) lo hi fs' ∧ w_ = [[((mo 0), .inr (7, [.int th, .ref (mo 1), .ref (mo 2), .int (nI sm), .ref (mo 3), .int (nI 0), .ref (mo 4), .int (nI m), .int fa, .ref (mo 5), .ref (mo 6), .int sp, .int wr, .long dd]))], cMs v mo fs', cMr v mo fr]) 0 0 := by
  refine mm_int (by decide) (Nat.le_of_ble_eq_true rfl) [(0, .ref (mo 0)), (1, .int (nI b))] rfl (fun k X E => ?_)
  refine g_iconst (x := nI 0) X dX7_places_0 (by decide +kernel) ?_
  refine g_istore_n (lv' := [(2, .int (nI 0)), (0, .ref (mo 0)), (1, .int (nI b))]) X dX7_places_1 rfl (by decide) rfl ?_
  have lp2 : ∀ (zN : Nat) (k9 : Nat) (f' : Nat → Int32) (hk9 : k9 ≤ 5 * m) (e1 : ∀ j, j < k9 → f' (1 + 5 * b + j) = fr j) (e2 : ∀ j, j < 1 + 5 * b ∨ 1 + 5 * b + k9 ≤ j → f' j = fs j) (zM : zN = 5 * m - k9), GG k 0 0 [[((mo 0), .inr (7, [.int th, .ref (mo 1), .ref (mo 2), .int (nI sm), .ref (mo 3), .int (nI ln), .ref (mo 4), .int (nI m), .int fa, .ref (mo 5), .ref (mo 6), .int sp, .int wr, .long dd]))], cMs v mo f', cMr v mo fr] [(2, .int (nI k9)), (0, .ref (mo 0)), (1, .int (nI b))] 2 [] := by
    intro zN
    induction zN using Nat.strongRecOn with
    | _ zN zih =>
      have ih2 := zih
      clear zih
      intro k9 f' hk9 e1 e2 zM
      refine g_iload_n X dX7_places_2 0 rfl rfl ?_
      refine g_iconst (x := nI 5) X dX7_places_3 (by decide +kernel) ?_
      refine g_aload_n X dX7_places_4 1 rfl rfl ?_
      refine g_get X cb7 7 q_14_4 dX7_places_5 0 0 rfl rfl (by decide) rfl rfl ?_
      refine g_imulN X dX7_places_8 ?_
      refine g_icmp_geN (tgt := 36) X dX7_places_9 (by decide) (by omega) (by omega) (fun c9 => ?_) (fun c9 => ?_)
      · refine g_aload_n X dX7_places_36 1 rfl rfl ?_
        refine g_get X cb7 1 q_4_18 dX7_places_37 0 0 rfl rfl (by decide) rfl rfl ?_
        refine g_iconst (x := nI 0) X dX7_places_40 (by decide +kernel) ?_
        refine g_iload_n X dX7_places_41 2 rfl rfl ?_
        refine g_aload_n X dX7_places_42 1 rfl rfl ?_
        refine g_get X cb7 7 q_14_4 dX7_places_43 0 0 rfl rfl (by decide) rfl rfl ?_
        refine g_iaddN X dX7_places_46 ?_
        refine g_iast (cs' := [[((mo 0), .inr (7, [.int th, .ref (mo 1), .ref (mo 2), .int (nI sm), .ref (mo 3), .int (nI ln), .ref (mo 4), .int (nI m), .int fa, .ref (mo 5), .ref (mo 6), .int sp, .int wr, .long dd]))], [((mo 1), .inl (v.2.1 0, 67, .inl (upd f' 0 (nI (b + m)))))], cMr v mo fr]) X dX7_places_47 1 0 rfl rfl (by omega) (by omega) rfl ?_
        refine g_aload_n X dX7_places_48 1 rfl rfl ?_
        refine g_iconst (x := nI 0) X dX7_places_49 (by decide +kernel) ?_
        refine g_put (cs' := [[((mo 0), .inr (7, [.int th, .ref (mo 1), .ref (mo 2), .int (nI sm), .ref (mo 3), .int (nI 0), .ref (mo 4), .int (nI m), .int fa, .ref (mo 5), .ref (mo 6), .int sp, .int wr, .long dd]))], [((mo 1), .inl (v.2.1 0, 67, .inl (upd f' 0 (nI (b + m)))))], cMr v mo fr]) X cb7 5 q_14_11 dX7_places_50 0 0 rfl rfl (by decide) rfl rfl (rfl) (rfl) (Nat.le_of_ble_eq_true rfl) rfl ?_
        refine g_aload_n X dX7_places_53 1 rfl rfl ?_
        refine g_get X cb7 1 q_4_18 dX7_places_54 0 0 rfl rfl (by decide) rfl rfl ?_
        refine g_iconst (x := nI 0) X dX7_places_57 (by decide +kernel) ?_
        refine g_iald X dX7_places_58 1 0 rfl rfl (by omega) (by omega) ?_
        refine g_v (y := nI (b + m)) (pk_us) ?_
        exact E dX7_places_59 rfl (rfl) (by decide) (by decide) (⟨_, rfl, SR_place hS hb hm hR (fun j hj => e1 j (by omega)) (fun j hj => e2 j (by omega)), rfl⟩)
      · refine g_aload_n X dX7_places_12 1 rfl rfl ?_
        refine g_get X cb7 1 q_4_18 dX7_places_13 0 0 rfl rfl (by decide) rfl rfl ?_
        refine g_iconst (x := nI 1) X dX7_places_16 (by decide +kernel) ?_
        refine g_iconst (x := nI 5) X dX7_places_17 (by decide +kernel) ?_
        refine g_iload_n X dX7_places_18 2 rfl rfl ?_
        refine g_imulN X dX7_places_19 ?_
        refine g_iaddN X dX7_places_20 ?_
        refine g_iload_n X dX7_places_21 0 rfl rfl ?_
        refine g_iaddN X dX7_places_22 ?_
        refine g_aload_n X dX7_places_23 1 rfl rfl ?_
        refine g_get X cb7 6 q_4_21 dX7_places_24 0 0 rfl rfl (by decide) rfl rfl ?_
        refine g_iload_n X dX7_places_27 0 rfl rfl ?_
        refine g_iald X dX7_places_28 2 0 rfl rfl (by omega) (by omega) ?_
        refine g_iast (cs' := [[((mo 0), .inr (7, [.int th, .ref (mo 1), .ref (mo 2), .int (nI sm), .ref (mo 3), .int (nI ln), .ref (mo 4), .int (nI m), .int fa, .ref (mo 5), .ref (mo 6), .int sp, .int wr, .long dd]))], [((mo 1), .inl (v.2.1 0, 67, .inl (upd f' ((1 + (5 * b)) + k9) (fr k9))))], cMr v mo fr]) X dX7_places_29 1 0 rfl rfl (by omega) (by omega) rfl ?_
        refine g_iinc (y := nI (k9 + 1)) (lv' := [(2, .int (nI (k9 + 1))), (0, .ref (mo 0)), (1, .int (nI b))]) (j := 0) X dX7_places_30 rfl (nI_add k9 1) (by decide) rfl ?_
        refine g_goto (tgt := 2) X dX7_places_33 (by decide) ?_
        exact ih2 _ (by omega) (k9 + 1) (upd f' ((1 + (5 * b)) + k9) (fr k9)) (by omega) (fun j hj => by by_cases z : j = k9; subst z; exact pk_us; exact (pk_un (by omega)).trans (e1 j (by omega))) (fun j hj => (pk_un (by omega)).trans (e2 j (by omega))) rfl
  exact lp2 _ 0 fs (Nat.zero_le _) (fun j h => absurd h (Nat.not_lt_zero _)) (fun _ _ => rfl) rfl

