/-! ## Judgement -/
theorem fillJ_step {f' : Nat → Int64} {i : Nat} {x : Int64} (e1 : ∀ j, j < i → f' j = x) : ∀ j, j < i + 1 → vp_updL f' i x j = x := by
  intro j hj
  by_cases c : j = i
  · subst c; exact pk_uLs
  · rw [pk_uLn c]; exact e1 j (by omega)

set_option maxHeartbeats 4000000 in
set_option maxRecDepth 100000 in
theorem c_J7_fill_d0a16 (l : Launch) (v : VV) (h : Nat) (n : Nat) (f : Nat → Int64) (x : Int64) (hn : n < 2147483648) : MU l v yJ7_fill_d0a16 cJ7_fill_d0a16 5 none ({ frames := 0, cells := 0, slots := 0, locals := 0 }) [.ref h, .long x] [[(h, .inl (v.2.1 1, n, .inr (.inl f)))]] (fun _ w_ => ∃ f', (∀ i, i < n → f' i = x) ∧ w_ = [[(h, .inl (v.2.1 1, n, .inr (.inl f')))]]) 0 0 := by
  refine mm_void rfl (by decide) (Nat.le_of_ble_eq_true rfl) [(0, .ref h), (1, .long x)] rfl (fun k X hin E => ?_)
  refine g_iconst (x := nI 0) X dJ7_fill_d0a16_0 (by decide +kernel) ?_
  refine g_istore_n (lv' := [(3, .int (nI 0)), (0, .ref h), (1, .long x)]) X dJ7_fill_d0a16_1 rfl (by decide) rfl ?_
  refine g_aload_n X dJ7_fill_d0a16_2 1 rfl rfl ?_
  refine g_alen 1 X dJ7_fill_d0a16_3 0 0 rfl rfl rfl rfl ?_
  refine g_istore (lv' := [(4, .int (nI n)), (3, .int (nI 0)), (0, .ref h), (1, .long x)]) X dJ7_fill_d0a16_4 (by decide) rfl ?_
  have lp6 : ∀ (zN : Nat) (i : Nat) (f' : Nat → Int64) (hi : i ≤ n) (e1 : ∀ j, j < i → f' j = x) (zM : zN = n - i), GG k 0 0 [[(h, .inl (v.2.1 1, n, .inr (.inl f')))]] [(3, .int (nI i)), (4, .int (nI n)), (0, .ref h), (1, .long x)] 6 [] := by
    intro zN
    induction zN using Nat.strongRecOn with
    | _ zN zih =>
      have ih6 := zih
      clear zih
      intro i f' hi e1 zM
      refine g_iload_n X dJ7_fill_d0a16_6 0 rfl rfl ?_
      refine g_iload X dJ7_fill_d0a16_7 1 rfl ?_
      refine g_icmp_geN (tgt := 22) X dJ7_fill_d0a16_9 (by decide) (by omega) (by omega) (fun c9 => ?_) (fun c9 => ?_)
      · exact E dJ7_fill_d0a16_22 (by decide) (by decide) (⟨f', fun j h => e1 j (by omega), rfl⟩)
      · refine g_aload_n X dJ7_fill_d0a16_12 2 rfl rfl ?_
        refine g_iload_n X dJ7_fill_d0a16_13 0 rfl rfl ?_
        refine g_lload_n X dJ7_fill_d0a16_14 3 rfl rfl ?_
        refine g_last (cs' := [[(h, .inl (v.2.1 1, n, .inr (.inl (vp_updL f' i x))))]]) X dJ7_fill_d0a16_15 0 0 rfl rfl (by omega) (by omega) rfl ?_
        refine g_iinc (y := nI (i + 1)) (lv' := [(3, .int (nI (i + 1))), (4, .int (nI n)), (0, .ref h), (1, .long x)]) (j := 0) X dJ7_fill_d0a16_16 rfl (nI_add i 1) (by decide) rfl ?_
        refine g_goto (tgt := 6) X dJ7_fill_d0a16_19 (by decide) ?_
        exact ih6 _ (by omega) (i + 1) (vp_updL f' i x) (by omega) (fillJ_step e1) rfl
  refine g_lv (lv' := [(3, .int (nI 0)), (4, .int (nI n)), (0, .ref h), (1, .long x)]) [1, 0, 2, 3] rfl ?_
  exact lp6 _ 0 f (Nat.zero_le _) (fun j h => absurd h (Nat.not_lt_zero _)) rfl

set_option maxHeartbeats 4000000 in
set_option maxRecDepth 100000 in
theorem c_X2_forget (l : Launch) (v : VV) (j : Nat → Nat) (pa : Nat) (ba : Nat) (ra : Nat) (x : Nat) (y : Nat) (z : Nat) (jst : Bool) : MU l v yX2_forget cX2_forget 1 none ({ frames := 0, cells := 0, slots := 0, locals := 0 }) [.ref (j 0)] [cJu v j pa ba ra x y z jst] (fun _ w_ => w_ = [cJu v j pa ba ra x y z true]) 0 0 := by
  refine mm_void rfl (by decide) (Nat.le_of_ble_eq_true rfl) [(0, .ref (j 0))] rfl (fun k X hin E => ?_)
  refine g_aload_n X dX2_forget_0 0 rfl rfl ?_
  refine g_iconst (x := nI 1) X dX2_forget_1 (by decide +kernel) ?_
  refine g_put (cs' := [[((j 0), .inr (2, [.ref pa, .ref ba, .ref ra, .ref (j 1), .ref (j 2), .ref (j 3), .int (nI x), .int (nI y), .int (nI z), .ref (j 4), .int (nI 1)]))]]) X cb2 10 q_3_16 dX2_forget_2 0 0 rfl rfl (by decide) rfl rfl (rfl) (rfl) (Nat.le_of_ble_eq_true rfl) rfl ?_
  exact E dX2_forget_5 (by decide) (by decide) (rfl)

set_option maxHeartbeats 4000000 in
set_option maxRecDepth 100000 in
theorem c_X2_isReached (l : Launch) (v : VV) (j : Nat → Nat) (pa : Nat) (ba : Nat) (ra : Nat) (x : Nat) (y : Nat) (z : Nat) (jst : Bool) (lw : Nat → Int32) (V : Nat → Prop) (i : Nat) (hi : i < 13) (hL : LoR V lw) : MI l v yX2_isReached cX2_isReached 2 (some .boolean) ({ frames := 0, cells := 0, slots := 0, locals := 0 }) [.ref (j 0), .int (nI i)] [cJu v j pa ba ra x y z jst, cLo v j lw] (fun r w_ => (∃ e : Int, lw (i * 3) = zI e ∧ IsMn V i 0 e ∧ r = bI (decide (e ≠ -1))) ∧ w_ = [cJu v j pa ba ra x y z jst, cLo v j lw]) 0 0 := by
  refine mm_int (by decide) (Nat.le_of_ble_eq_true rfl) [(0, .ref (j 0)), (1, .int (nI i))] rfl (fun k X E => ?_)
  refine g_aload_n X dX2_isReached_0 0 rfl rfl ?_
  refine g_get X cb2 4 q_3_12 dX2_isReached_1 0 0 rfl rfl (by decide) rfl rfl ?_
  refine g_iload_n X dX2_isReached_4 1 rfl rfl ?_
  refine g_iconst (x := nI 3) X dX2_isReached_5 (by decide +kernel) ?_
  refine g_imulN X dX2_isReached_6 ?_
  refine g_iald X dX2_isReached_7 1 0 rfl rfl (by omega) (by omega) ?_
  obtain ⟨e, he, hm⟩ := hL i hi 0 (by omega)
  have hmr := hm.rng
  refine g_v (y := zI e) (he) ?_
  refine g_iconst (x := zI (-1)) X dX2_isReached_8 (by decide +kernel) ?_
  refine g_icmp_eq (tgt := 16) X dX2_isReached_9 (by decide) (fun c9 => ?_) (fun c9 => ?_)
  · rw [zI_inj (by omega) (by omega) (by omega) (by omega)] at c9
    refine g_iconst (x := nI 0) X dX2_isReached_16 (by decide +kernel) ?_
    exact E dX2_isReached_17 rfl (rfl) (by decide) (by decide) (⟨⟨e, he, hm, bI_zero (decide_eq_false (fun h => h c9))⟩, rfl⟩)
  · rw [zI_inj (by omega) (by omega) (by omega) (by omega)] at c9
    refine g_iconst (x := nI 1) X dX2_isReached_12 (by decide +kernel) ?_
    refine g_goto (tgt := 17) X dX2_isReached_13 (by decide) ?_
    exact E dX2_isReached_17 rfl (rfl) (by decide) (by decide) (⟨⟨e, he, hm, bI_one (decide_eq_true c9)⟩, rfl⟩)

set_option maxHeartbeats 4000000 in
set_option maxRecDepth 100000 in
theorem c_X2_isVisited (l : Launch) (v : VV) (j : Nat → Nat) (pa : Nat) (ba : Nat) (ra : Nat) (x : Nat) (y : Nat) (z : Nat) (jst : Bool) (vs : Nat → Int64) (q : Nat) (hq : q < 6656) : MI l v yX2_isVisited cX2_isVisited 2 (some .boolean) ({ frames := 0, cells := 0, slots := 0, locals := 0 }) [.ref (j 0), .int (nI q)] [cJu v j pa ba ra x y z jst, cVi v j vs] (fun r w_ => r = bI (btJ vs q) ∧ w_ = [cJu v j pa ba ra x y z jst, cVi v j vs]) 0 0 := by
  refine mm_int (by decide) (Nat.le_of_ble_eq_true rfl) [(0, .ref (j 0)), (1, .int (nI q))] rfl (fun k X E => ?_)
  refine g_aload_n X dX2_isVisited_0 0 rfl rfl ?_
  refine g_get X cb2 9 q_3_15 dX2_isVisited_1 0 0 rfl rfl (by decide) rfl rfl ?_
  refine g_iload_n X dX2_isVisited_4 1 rfl rfl ?_
  refine g_bipush (x := nI 6) X dX2_isVisited_5 (by decide +kernel) ?_
  refine g_ishrN X dX2_isVisited_7 (by omega) (by omega) ?_
  refine g_lald X dX2_isVisited_8 1 0 rfl rfl (by omega) (by omega) ?_
  refine g_iload_n X dX2_isVisited_9 1 rfl rfl ?_
  refine g_bipush (x := nI 63) X dX2_isVisited_10 (by decide +kernel) ?_
  refine g_iandN X dX2_isVisited_12 6 (by decide +kernel) (by omega) ?_
  refine g_lshr X dX2_isVisited_13 rfl ?_
  refine g_lconst (x := (1 : Int64)) X dX2_isVisited_14 (by decide +kernel) ?_
  refine g_land X dX2_isVisited_15 ?_
  refine g_lconst (x := (0 : Int64)) X dX2_isVisited_16 (by decide +kernel) ?_
  refine g_lcmp X dX2_isVisited_17 ?_
  refine g_if_eq (tgt := 25) X dX2_isVisited_18 (by decide) (fun c18 => ?_) (fun c18 => ?_)
  · rw [lg_cmp_eq, bitJ_read (by omega)] at c18
    refine g_iconst (x := nI 0) X dX2_isVisited_25 (by decide +kernel) ?_
    exact E dX2_isVisited_26 rfl (rfl) (by decide) (by decide) (⟨bI_zero c18, rfl⟩)
  · rw [lg_cmp_eq, bitJ_read (by omega)] at c18
    refine g_iconst (x := nI 1) X dX2_isVisited_21 (by decide +kernel) ?_
    refine g_goto (tgt := 26) X dX2_isVisited_22 (by decide) ?_
    exact E dX2_isVisited_26 rfl (rfl) (by decide) (by decide) (⟨bI_one (by cases h : btJ vs q; exact absurd h c18; rfl), rfl⟩)

set_option maxHeartbeats 4000000 in
set_option maxRecDepth 100000 in
theorem c_X2_noteValues (l : Launch) (v : VV) (j : Nat → Nat) (pa : Nat) (ba : Nat) (ra : Nat) (x : Nat) (y : Nat) (z : Nat) (jst : Bool) (lw : Nat → Int32) (hg : Nat → Int32) (V : Nat → Prop) (q : Nat) (hq : q < 6656) (hL : LoR V lw) (hH : HiR V hg) : MU l v yX2_noteValues cX2_noteValues 6 none ({ frames := 1, cells := 0, slots := 0, locals := 21 }) [.ref (j 0), .int (nI q)] [cJu v j pa ba ra x y z jst, cLo v j lw, cHi v j hg] (fun _ w_ => ∃ lw' hg', LoR (adV V q) lw' ∧ HiR (adV V q) hg' ∧ w_ = [cJu v j pa ba ra x y z jst, cLo v j lw', cHi v j hg']) 0 0 := by
  refine mm_void rfl (by decide) (Nat.le_of_ble_eq_true rfl) [(0, .ref (j 0)), (1, .int (nI q))] rfl (fun k X hin E => ?_)
  refine g_iload_n X dX2_noteValues_0 1 rfl rfl ?_
  refine g_callSN (As := [.int (nI q)]) (rest := []) (wr := [cJu v j pa ba ra x y z jst, cLo v j lw, cHi v j hg]) X (c_X6_statementAt l v q (by omega)) f_X6_statementAt 14 rfl dX2_noteValues_1 [] [0, 1, 2] rfl rfl (by decide) rfl rfl (Nat.le_of_ble_eq_true rfl) (by decide) (fun r_ w_ hp1 => ?_)
  obtain ⟨rfl, rfl⟩ := hp1
  show GG k _ _ [cJu v j pa ba ra x y z jst, cLo v j lw, cHi v j hg] _ _ [.int (nI (q / 512))]
  refine g_iconst (x := nI 3) X dX2_noteValues_4 (by decide +kernel) ?_
  refine g_imulN X dX2_noteValues_5 ?_
  refine g_istore_n (lv' := [(2, .int (nI ((q / 512) * 3))), (0, .ref (j 0)), (1, .int (nI q))]) X dX2_noteValues_6 rfl (by decide) rfl ?_
  refine g_iconst (x := nI 0) X dX2_noteValues_7 (by decide +kernel) ?_
  refine g_istore_n (lv' := [(3, .int (nI 0)), (2, .int (nI ((q / 512) * 3))), (0, .ref (j 0)), (1, .int (nI q))]) X dX2_noteValues_8 rfl (by decide) rfl ?_
  have lp9 : ∀ (zN : Nat) (u : Nat) (lw' : Nat → Int32) (hg' : Nat → Int32) (hu : u ≤ 3) (hl : LoW V q u lw') (hh : HiW V q u hg') (zM : zN = 3 - u), GG k 0 0 [cJu v j pa ba ra x y z jst, cLo v j lw', cHi v j hg'] [(3, .int (nI u)), (2, .int (nI (q / 512 * 3))), (0, .ref (j 0)), (1, .int (nI q))] 9 [] := by
    intro zN
    induction zN using Nat.strongRecOn with
    | _ zN zih =>
      have ih9 := zih
      clear zih
      intro u lw' hg' hu hl hh zM
      refine g_iload_n X dX2_noteValues_9 0 rfl rfl ?_
      refine g_iconst (x := nI 3) X dX2_noteValues_10 (by decide +kernel) ?_
      refine g_icmp_geN (tgt := 88) X dX2_noteValues_11 (by decide) (by omega) (by omega) (fun c11 => ?_) (fun c11 => ?_)
      · exact E dX2_noteValues_88 (by decide) (by decide) (⟨lw', hg', LoW_3 (by rwa [show u = 3 from by omega] at hl), HiW_3 (by rwa [show u = 3 from by omega] at hh), rfl⟩)
      · refine g_iload_n X dX2_noteValues_14 3 rfl rfl ?_
        refine g_callSN (As := [.int (nI q)]) (rest := []) (wr := [cJu v j pa ba ra x y z jst, cLo v j lw', cHi v j hg']) X (c_X6_tripleAt l v q (by omega)) f_X6_tripleAt 15 rfl dX2_noteValues_15 [] [0, 1, 2] rfl rfl (by decide) rfl rfl (Nat.le_of_ble_eq_true rfl) (by decide) (fun r_ w_ hp2 => ?_)
        obtain ⟨rfl, rfl⟩ := hp2
        show GG k _ _ [cJu v j pa ba ra x y z jst, cLo v j lw', cHi v j hg'] _ _ [.int (nI (q % 512))]
        refine g_iload_n X dX2_noteValues_18 0 rfl rfl ?_
        refine g_callSN (As := [.int (nI (q % 512)), .int (nI u)]) (rest := []) (wr := [cJu v j pa ba ra x y z jst, cLo v j lw', cHi v j hg']) X (c_X6_valueOf l v (q % 512) u (by omega) (by omega)) f_X6_valueOf 16 rfl dX2_noteValues_19 [] [0, 1, 2] rfl rfl (by decide) rfl rfl (Nat.le_of_ble_eq_true rfl) (by decide) (fun r_ w_ hp3 => ?_)
        obtain ⟨rfl, rfl⟩ := hp3
        show GG k _ _ [cJu v j pa ba ra x y z jst, cLo v j lw', cHi v j hg'] _ _ [.int (nI (val (q % 512) u))]
        refine g_istore (lv' := [(4, .int (nI (val (q % 512) u))), (3, .int (nI u)), (2, .int (nI (q / 512 * 3))), (0, .ref (j 0)), (1, .int (nI q))]) X dX2_noteValues_22 (by decide) rfl ?_
        refine g_iload_n X dX2_noteValues_24 2 rfl rfl ?_
        refine g_iload_n X dX2_noteValues_25 1 rfl rfl ?_
        refine g_iaddN X dX2_noteValues_26 ?_
        refine g_istore (lv' := [(5, .int (nI ((q / 512 * 3) + u))), (4, .int (nI (val (q % 512) u))), (3, .int (nI u)), (2, .int (nI (q / 512 * 3))), (0, .ref (j 0)), (1, .int (nI q))]) X dX2_noteValues_27 (by decide) rfl ?_
        refine g_aload_n X dX2_noteValues_29 4 rfl rfl ?_
        refine g_get X cb2 4 q_3_12 dX2_noteValues_30 0 0 rfl rfl (by decide) rfl rfl ?_
        refine g_iload X dX2_noteValues_33 0 rfl ?_
        refine g_iald X dX2_noteValues_35 1 0 rfl rfl (by omega) (by omega) ?_
        obtain ⟨xl, hxl, hml, -⟩ := hl (q / 512) (by omega) u (by omega)
        have hml := hml ⟨rfl, Nat.le_refl _⟩
        have hrl := hml.rng
        have hvl := val_lt (q % 512) u
        refine g_v (y := zI xl) (hxl) ?_
        refine g_iconst (x := zI (-1)) X dX2_noteValues_36 (by decide +kernel) ?_
        refine g_icmp_eq (tgt := 52) X dX2_noteValues_37 (by decide) (fun c37 => ?_) (fun c37 => ?_)
        · rw [zI_inj (by omega) (by omega) (by omega) (by omega)] at c37
          refine g_aload_n X dX2_noteValues_52 4 rfl rfl ?_
          refine g_get X cb2 4 q_3_12 dX2_noteValues_53 0 0 rfl rfl (by decide) rfl rfl ?_
          refine g_iload X dX2_noteValues_56 0 rfl ?_
          refine g_iload X dX2_noteValues_58 1 rfl ?_
          refine g_iast (cs' := [cJu v j pa ba ra x y z jst, [((j 2), .inl (v.2.1 0, 39, .inl (upd lw' ((q / 512 * 3) + u) (nI (val (q % 512) u)))))], cHi v j hg']) X dX2_noteValues_60 1 0 rfl rfl (by omega) (by omega) rfl ?_
          refine g_iload X dX2_noteValues_61 1 rfl ?_
          refine g_aload_n X dX2_noteValues_63 4 rfl rfl ?_
          refine g_get X cb2 5 q_3_13 dX2_noteValues_64 0 0 rfl rfl (by decide) rfl rfl ?_
          refine g_iload X dX2_noteValues_67 0 rfl ?_
          refine g_iald X dX2_noteValues_69 2 0 rfl rfl (by omega) (by omega) ?_
          obtain ⟨xh, hxh, hmh, -⟩ := hh (q / 512) (by omega) u (by omega)
          have hmh := hmh ⟨rfl, Nat.le_refl _⟩
          have hrh := hmh.rng
          refine g_v (y := zI xh) (hxh) ?_
          refine g_icmp_le (tgt := 82) X dX2_noteValues_70 (by decide) (fun c70 => ?_) (fun c70 => ?_)
          · rw [zI_nI (val (q % 512) u), zI_le (by omega) (by omega) (by omega) (by omega)] at c70
            refine g_iinc (y := nI (u + 1)) (lv' := [(3, .int (nI (u + 1))), (5, .int (nI ((q / 512 * 3) + u))), (4, .int (nI (val (q % 512) u))), (2, .int (nI (q / 512 * 3))), (0, .ref (j 0)), (1, .int (nI q))]) (j := 2) X dX2_noteValues_82 rfl (nI_add u 1) (by decide) rfl ?_
            refine g_goto (tgt := 9) X dX2_noteValues_85 (by decide) ?_
            refine g_lv (lv' := [(3, .int (nI (u + 1))), (2, .int (nI (q / 512 * 3))), (0, .ref (j 0)), (1, .int (nI q))]) [0, 3, 4, 5] rfl ?_
            exact ih9 _ (by omega) (u + 1) (upd lw' ((q / 512 * 3) + u) (nI (val (q % 512) u))) hg' (by omega) (LoW_set hl (by omega) hml (Or.inl c37)) (HiW_keep hh hxh hmh c70) rfl
          · rw [zI_nI (val (q % 512) u), zI_le (by omega) (by omega) (by omega) (by omega)] at c70
            refine g_aload_n X dX2_noteValues_73 4 rfl rfl ?_
            refine g_get X cb2 5 q_3_13 dX2_noteValues_74 0 0 rfl rfl (by decide) rfl rfl ?_
            refine g_iload X dX2_noteValues_77 0 rfl ?_
            refine g_iload X dX2_noteValues_79 1 rfl ?_
            refine g_iast (cs' := [cJu v j pa ba ra x y z jst, [((j 2), .inl (v.2.1 0, 39, .inl (upd lw' ((q / 512 * 3) + u) (nI (val (q % 512) u)))))], [((j 3), .inl (v.2.1 0, 39, .inl (upd hg' ((q / 512 * 3) + u) (nI (val (q % 512) u)))))]]) X dX2_noteValues_81 2 0 rfl rfl (by omega) (by omega) rfl ?_
            refine g_iinc (y := nI (u + 1)) (lv' := [(3, .int (nI (u + 1))), (5, .int (nI ((q / 512 * 3) + u))), (4, .int (nI (val (q % 512) u))), (2, .int (nI (q / 512 * 3))), (0, .ref (j 0)), (1, .int (nI q))]) (j := 2) X dX2_noteValues_82 rfl (nI_add u 1) (by decide) rfl ?_
            refine g_goto (tgt := 9) X dX2_noteValues_85 (by decide) ?_
            refine g_lv (lv' := [(3, .int (nI (u + 1))), (2, .int (nI (q / 512 * 3))), (0, .ref (j 0)), (1, .int (nI q))]) [0, 3, 4, 5] rfl ?_
            exact ih9 _ (by omega) (u + 1) (upd lw' ((q / 512 * 3) + u) (nI (val (q % 512) u))) (upd hg' ((q / 512 * 3) + u) (nI (val (q % 512) u))) (by omega) (LoW_set hl (by omega) hml (Or.inl c37)) (HiW_set hh (by omega) hmh (by omega)) rfl
        · rw [zI_inj (by omega) (by omega) (by omega) (by omega)] at c37
          refine g_iload X dX2_noteValues_40 1 rfl ?_
          refine g_aload_n X dX2_noteValues_42 4 rfl rfl ?_
          refine g_get X cb2 4 q_3_12 dX2_noteValues_43 0 0 rfl rfl (by decide) rfl rfl ?_
          refine g_iload X dX2_noteValues_46 0 rfl ?_
          refine g_iald X dX2_noteValues_48 1 0 rfl rfl (by omega) (by omega) ?_
          refine g_v (y := zI xl) (hxl) ?_
          refine g_icmp_ge (tgt := 61) X dX2_noteValues_49 (by decide) (fun c49 => ?_) (fun c49 => ?_)
          · rw [zI_nI (val (q % 512) u), zI_le (by omega) (by omega) (by omega) (by omega)] at c49
            refine g_iload X dX2_noteValues_61 1 rfl ?_
            refine g_aload_n X dX2_noteValues_63 4 rfl rfl ?_
            refine g_get X cb2 5 q_3_13 dX2_noteValues_64 0 0 rfl rfl (by decide) rfl rfl ?_
            refine g_iload X dX2_noteValues_67 0 rfl ?_
            refine g_iald X dX2_noteValues_69 2 0 rfl rfl (by omega) (by omega) ?_
            obtain ⟨xh, hxh, hmh, -⟩ := hh (q / 512) (by omega) u (by omega)
            have hmh := hmh ⟨rfl, Nat.le_refl _⟩
            have hrh := hmh.rng
            refine g_v (y := zI xh) (hxh) ?_
            refine g_icmp_le (tgt := 82) X dX2_noteValues_70 (by decide) (fun c70 => ?_) (fun c70 => ?_)
            · rw [zI_nI (val (q % 512) u), zI_le (by omega) (by omega) (by omega) (by omega)] at c70
              refine g_iinc (y := nI (u + 1)) (lv' := [(3, .int (nI (u + 1))), (5, .int (nI ((q / 512 * 3) + u))), (4, .int (nI (val (q % 512) u))), (2, .int (nI (q / 512 * 3))), (0, .ref (j 0)), (1, .int (nI q))]) (j := 2) X dX2_noteValues_82 rfl (nI_add u 1) (by decide) rfl ?_
              refine g_goto (tgt := 9) X dX2_noteValues_85 (by decide) ?_
              refine g_lv (lv' := [(3, .int (nI (u + 1))), (2, .int (nI (q / 512 * 3))), (0, .ref (j 0)), (1, .int (nI q))]) [0, 3, 4, 5] rfl ?_
              exact ih9 _ (by omega) (u + 1) lw' hg' (by omega) (LoW_keep hl hxl hml c37 (by omega)) (HiW_keep hh hxh hmh c70) rfl
            · rw [zI_nI (val (q % 512) u), zI_le (by omega) (by omega) (by omega) (by omega)] at c70
              refine g_aload_n X dX2_noteValues_73 4 rfl rfl ?_
              refine g_get X cb2 5 q_3_13 dX2_noteValues_74 0 0 rfl rfl (by decide) rfl rfl ?_
              refine g_iload X dX2_noteValues_77 0 rfl ?_
              refine g_iload X dX2_noteValues_79 1 rfl ?_
              refine g_iast (cs' := [cJu v j pa ba ra x y z jst, cLo v j lw', [((j 3), .inl (v.2.1 0, 39, .inl (upd hg' ((q / 512 * 3) + u) (nI (val (q % 512) u)))))]]) X dX2_noteValues_81 2 0 rfl rfl (by omega) (by omega) rfl ?_
              refine g_iinc (y := nI (u + 1)) (lv' := [(3, .int (nI (u + 1))), (5, .int (nI ((q / 512 * 3) + u))), (4, .int (nI (val (q % 512) u))), (2, .int (nI (q / 512 * 3))), (0, .ref (j 0)), (1, .int (nI q))]) (j := 2) X dX2_noteValues_82 rfl (nI_add u 1) (by decide) rfl ?_
              refine g_goto (tgt := 9) X dX2_noteValues_85 (by decide) ?_
              refine g_lv (lv' := [(3, .int (nI (u + 1))), (2, .int (nI (q / 512 * 3))), (0, .ref (j 0)), (1, .int (nI q))]) [0, 3, 4, 5] rfl ?_
              exact ih9 _ (by omega) (u + 1) lw' (upd hg' ((q / 512 * 3) + u) (nI (val (q % 512) u))) (by omega) (LoW_keep hl hxl hml c37 (by omega)) (HiW_set hh (by omega) hmh (by omega)) rfl
          · rw [zI_nI (val (q % 512) u), zI_le (by omega) (by omega) (by omega) (by omega)] at c49
            refine g_aload_n X dX2_noteValues_52 4 rfl rfl ?_
            refine g_get X cb2 4 q_3_12 dX2_noteValues_53 0 0 rfl rfl (by decide) rfl rfl ?_
            refine g_iload X dX2_noteValues_56 0 rfl ?_
            refine g_iload X dX2_noteValues_58 1 rfl ?_
            refine g_iast (cs' := [cJu v j pa ba ra x y z jst, [((j 2), .inl (v.2.1 0, 39, .inl (upd lw' ((q / 512 * 3) + u) (nI (val (q % 512) u)))))], cHi v j hg']) X dX2_noteValues_60 1 0 rfl rfl (by omega) (by omega) rfl ?_
            refine g_iload X dX2_noteValues_61 1 rfl ?_
            refine g_aload_n X dX2_noteValues_63 4 rfl rfl ?_
            refine g_get X cb2 5 q_3_13 dX2_noteValues_64 0 0 rfl rfl (by decide) rfl rfl ?_
            refine g_iload X dX2_noteValues_67 0 rfl ?_
            refine g_iald X dX2_noteValues_69 2 0 rfl rfl (by omega) (by omega) ?_
            obtain ⟨xh, hxh, hmh, -⟩ := hh (q / 512) (by omega) u (by omega)
            have hmh := hmh ⟨rfl, Nat.le_refl _⟩
            have hrh := hmh.rng
            refine g_v (y := zI xh) (hxh) ?_
            refine g_icmp_le (tgt := 82) X dX2_noteValues_70 (by decide) (fun c70 => ?_) (fun c70 => ?_)
            · rw [zI_nI (val (q % 512) u), zI_le (by omega) (by omega) (by omega) (by omega)] at c70
              refine g_iinc (y := nI (u + 1)) (lv' := [(3, .int (nI (u + 1))), (5, .int (nI ((q / 512 * 3) + u))), (4, .int (nI (val (q % 512) u))), (2, .int (nI (q / 512 * 3))), (0, .ref (j 0)), (1, .int (nI q))]) (j := 2) X dX2_noteValues_82 rfl (nI_add u 1) (by decide) rfl ?_
              refine g_goto (tgt := 9) X dX2_noteValues_85 (by decide) ?_
              refine g_lv (lv' := [(3, .int (nI (u + 1))), (2, .int (nI (q / 512 * 3))), (0, .ref (j 0)), (1, .int (nI q))]) [0, 3, 4, 5] rfl ?_
              exact ih9 _ (by omega) (u + 1) (upd lw' ((q / 512 * 3) + u) (nI (val (q % 512) u))) hg' (by omega) (LoW_set hl (by omega) hml (Or.inr (by omega))) (HiW_keep hh hxh hmh c70) rfl
            · rw [zI_nI (val (q % 512) u), zI_le (by omega) (by omega) (by omega) (by omega)] at c70
              refine g_aload_n X dX2_noteValues_73 4 rfl rfl ?_
              refine g_get X cb2 5 q_3_13 dX2_noteValues_74 0 0 rfl rfl (by decide) rfl rfl ?_
              refine g_iload X dX2_noteValues_77 0 rfl ?_
              refine g_iload X dX2_noteValues_79 1 rfl ?_
              refine g_iast (cs' := [cJu v j pa ba ra x y z jst, [((j 2), .inl (v.2.1 0, 39, .inl (upd lw' ((q / 512 * 3) + u) (nI (val (q % 512) u)))))], [((j 3), .inl (v.2.1 0, 39, .inl (upd hg' ((q / 512 * 3) + u) (nI (val (q % 512) u)))))]]) X dX2_noteValues_81 2 0 rfl rfl (by omega) (by omega) rfl ?_
              refine g_iinc (y := nI (u + 1)) (lv' := [(3, .int (nI (u + 1))), (5, .int (nI ((q / 512 * 3) + u))), (4, .int (nI (val (q % 512) u))), (2, .int (nI (q / 512 * 3))), (0, .ref (j 0)), (1, .int (nI q))]) (j := 2) X dX2_noteValues_82 rfl (nI_add u 1) (by decide) rfl ?_
              refine g_goto (tgt := 9) X dX2_noteValues_85 (by decide) ?_
              refine g_lv (lv' := [(3, .int (nI (u + 1))), (2, .int (nI (q / 512 * 3))), (0, .ref (j 0)), (1, .int (nI q))]) [0, 3, 4, 5] rfl ?_
              exact ih9 _ (by omega) (u + 1) (upd lw' ((q / 512 * 3) + u) (nI (val (q % 512) u))) (upd hg' ((q / 512 * 3) + u) (nI (val (q % 512) u))) (by omega) (LoW_set hl (by omega) hml (Or.inr (by omega))) (HiW_set hh (by omega) hmh (by omega)) rfl
  exact lp9 _ 0 lw hg (by omega) (LoW_0 hL) (HiW_0 hH) rfl

set_option maxHeartbeats 4000000 in
set_option maxRecDepth 100000 in
theorem c_X2_followRun (l : Launch) (v : VV) (j : Nat → Nat) (ba : Nat) (ra : Nat) (x : Nat) (y : Nat) (z : Nat) (jst : Bool) (a : Nat → Nat) (n : Nat) (f : Nat → Nat → Int32) (P : Nat → S9) (lw : Nat → Int32) (hg : Nat → Int32) (vs : Nat → Int64) (V : Nat → Prop) (t : Nat) (hW : WF P n) (hR : PgR P n f) (ht : t < 512 * (n + 1)) (hC : ClV P n V) (hL : LoR V lw) (hH : HiR V hg) (hV : BitR V vs) : MU l v yX2_followRun cX2_followRun 4 none ({ frames := 2, cells := 0, slots := 0, locals := 49 }) [.ref (j 0), .int (nI t)] [cJu v j (a 0) ba ra x y z jst, cLo v j lw, cHi v j hg, cVi v j vs, cPg v a n f] (fun _ w_ => ∃ lw' hg' vs', LoR (Va P n V t) lw' ∧ HiR (Va P n V t) hg' ∧ BitR (Va P n V t) vs' ∧ w_ = [cJu v j (a 0) ba ra x y z jst, cLo v j lw', cHi v j hg', cVi v j vs', cPg v a n f]) 0 0 := by
  refine mm_void rfl (by decide) (Nat.le_of_ble_eq_true rfl) [(0, .ref (j 0)), (1, .int (nI t))] rfl (fun k X hin E => ?_)
  have hn12 := hW.1
  refine g_iload_n X dX2_followRun_0 1 rfl rfl ?_
  refine g_istore_n (lv' := [(2, .int (nI t)), (0, .ref (j 0)), (1, .int (nI t))]) X dX2_followRun_1 rfl (by decide) rfl ?_
  refine g_iconst (x := nI 0) X dX2_followRun_2 (by decide +kernel) ?_
  refine g_istore_n (lv' := [(3, .int (nI 0)), (2, .int (nI t)), (0, .ref (j 0)), (1, .int (nI t))]) X dX2_followRun_3 rfl (by decide) rfl ?_
  have lp4 : ∀ (zN : Nat) (c : Nat) (x0 : Nat) (lw' : Nat → Int32) (hg' : Nat → Int32) (vs' : Nat → Int64) (hc : c ≤ 6656) (hx : it P n c t = some x0) (hd : Dst P n t c) (hl : LoR (Vt P n V t c) lw') (hh : HiR (Vt P n V t c) hg') (hB : BitR (Vt P n V t c) vs') (zM : zN = 6656 - c), GG k 0 0 [cJu v j (a 0) ba ra x y z jst, cLo v j lw', cHi v j hg', cVi v j vs', cPg v a n f] [(3, .int (nI c)), (2, .int (nI x0)), (0, .ref (j 0)), (1, .int (nI t))] 4 [] := by
    intro zN
    induction zN using Nat.strongRecOn with
    | _ zN zih =>
      have ih4 := zih
      clear zih
      intro c x0 lw' hg' vs' hc hx hd hl hh hB zM
      have hxl := it_lt hW ht hx
      refine g_iload_n X dX2_followRun_4 0 rfl rfl ?_
      refine g_sipush (x := nI 6656) X dX2_followRun_5 (by decide +kernel) ?_
      refine g_icmp_geN (tgt := 62) X dX2_followRun_8 (by decide) (by omega) (by omega) (fun c8 => ?_) (fun c8 => ?_)
      · have hvx : Vt P n V t c x0 := Classical.byContradiction (fun z => by have := Dst_len hW ht hd hx z; omega)
        exact E dX2_followRun_62 (by decide) (by decide) (⟨_, _, _, hl.cong (Vt_iff hC hx hvx), hh.cong (Vt_iff hC hx hvx), hB.cong (Vt_iff hC hx hvx), rfl⟩)
      · refine g_iload_n X dX2_followRun_11 1 rfl rfl ?_
        refine g_iconst (x := zI (-1)) X dX2_followRun_12 (by decide +kernel) ?_
        refine g_icmp_eq (tgt := 62) X dX2_followRun_13 (by decide) (fun c13 => ?_) (fun c13 => ?_)
        · exact absurd c13 (nI_nm (b := 0) (by omega) (by omega))
        · refine g_aload_n X dX2_followRun_16 2 rfl rfl ?_
          refine g_iload_n X dX2_followRun_17 1 rfl rfl ?_
          refine g_callV (As := [.int (nI x0)]) (rest := []) (wr := [cLo v j lw', cHi v j hg', cPg v a n f]) X (c_X2_isVisited l v j (a 0) ba ra x y z jst vs' x0 (by omega)) f_X2_isVisited q_19_11 dX2_followRun_18 [0, 3] [1, 2, 4] rfl rfl (by decide) 0 rfl rfl rfl rfl (Nat.le_of_ble_eq_true rfl) (by decide) (fun r_ w_ hp1 => ?_)
          obtain ⟨rfl, rfl⟩ := hp1
          show GG k _ _ [cJu v j (a 0) ba ra x y z jst, cVi v j vs', cLo v j lw', cHi v j hg', cPg v a n f] _ _ [.int (bI (btJ vs' x0))]
          refine g_pick (cs' := [cJu v j (a 0) ba ra x y z jst, cLo v j lw', cHi v j hg', cVi v j vs', cPg v a n f]) [0, 2, 3, 1, 4] rfl rfl ?_
          refine g_if_neB (tgt := 62) X dX2_followRun_21 (by decide) (fun c21 => ?_) (fun c21 => ?_)
          · have hvx : Vt P n V t c x0 := (hB x0 (by omega)).mp c21
            exact E dX2_followRun_62 (by decide) (by decide) (⟨_, _, _, hl.cong (Vt_iff hC hx hvx), hh.cong (Vt_iff hC hx hvx), hB.cong (Vt_iff hC hx hvx), rfl⟩)
          · refine g_aload_n X dX2_followRun_24 2 rfl rfl ?_
            refine g_get X cb2 9 q_3_15 dX2_followRun_25 0 0 rfl rfl (by decide) rfl rfl ?_
            refine g_iload_n X dX2_followRun_28 1 rfl rfl ?_
            refine g_bipush (x := nI 6) X dX2_followRun_29 (by decide +kernel) ?_
            refine g_ishrN X dX2_followRun_31 (by omega) (by omega) ?_
            refine g_dup2 X dX2_followRun_32 rfl rfl ?_
            refine g_lald X dX2_followRun_33 3 0 rfl rfl (by omega) (by omega) ?_
            refine g_lconst (x := (1 : Int64)) X dX2_followRun_34 (by decide +kernel) ?_
            refine g_iload_n X dX2_followRun_35 1 rfl rfl ?_
            refine g_bipush (x := nI 63) X dX2_followRun_36 (by decide +kernel) ?_
            refine g_iandN X dX2_followRun_38 6 (by decide +kernel) (by omega) ?_
            refine g_lshl X dX2_followRun_39 rfl ?_
            refine g_lor X dX2_followRun_40 ?_
            refine g_last (cs' := [cJu v j (a 0) ba ra x y z jst, cLo v j lw', cHi v j hg', [((j 4), .inl (v.2.1 1, 104, .inr (.inl (vp_updL vs' (x0 / 2 ^ 6) ((vs' (x0 / 2 ^ 6)) ||| ((1 : Int64) <<< ((nI (x0 % 2 ^ 6)).toInt64 &&& 63)))))))], cPg v a n f]) X dX2_followRun_41 3 0 rfl rfl (by omega) (by omega) rfl ?_
            refine g_aload_n X dX2_followRun_42 2 rfl rfl ?_
            refine g_iload_n X dX2_followRun_43 1 rfl rfl ?_
            refine g_callV (As := [.int (nI x0)]) (rest := []) (wr := [[((j 4), .inl (v.2.1 1, 104, .inr (.inl (vp_updL vs' (x0 / 2 ^ 6) ((vs' (x0 / 2 ^ 6)) ||| ((1 : Int64) <<< ((nI (x0 % 2 ^ 6)).toInt64 &&& 63)))))))], cPg v a n f]) X (c_X2_noteValues l v j (a 0) ba ra x y z jst lw' hg' (Vt P n V t c) x0 (by omega) hl hh) f_X2_noteValues q_19_15 dX2_followRun_44 [0, 1, 2] [3, 4] rfl rfl (by decide) 0 rfl rfl rfl rfl (Nat.le_of_ble_eq_true rfl) (by decide) (fun r_ w_ hp3 => ?_)
            obtain ⟨lh2l, lh2h, lh2L, lh2H, rfl⟩ := hp3
            show GG k _ _ [cJu v j (a 0) ba ra x y z jst, cLo v j lh2l, cHi v j lh2h, [((j 4), .inl (v.2.1 1, 104, .inr (.inl (vp_updL vs' (x0 / 2 ^ 6) ((vs' (x0 / 2 ^ 6)) ||| ((1 : Int64) <<< ((nI (x0 % 2 ^ 6)).toInt64 &&& 63)))))))], cPg v a n f] _ _ []
            refine g_aload_n X dX2_followRun_47 2 rfl rfl ?_
            refine g_get X cb2 0 q_3_17 dX2_followRun_48 0 0 rfl rfl (by decide) rfl rfl ?_
            refine g_iload_n X dX2_followRun_51 1 rfl rfl ?_
            refine g_callV (As := [.int (nI x0)]) (rest := []) (wr := [cJu v j (a 0) ba ra x y z jst, cLo v j lh2l, cHi v j lh2h, [((j 4), .inl (v.2.1 1, 104, .inr (.inl (vp_updL vs' (x0 / 2 ^ 6) ((vs' (x0 / 2 ^ 6)) ||| ((1 : Int64) <<< ((nI (x0 % 2 ^ 6)).toInt64 &&& 63)))))))]]) X (c_X3_placeAfter l v a n f P x0 hW hR (by omega)) f_X3_placeAfter q_19_19 dX2_followRun_52 [4] [0, 1, 2, 3] rfl rfl (by decide) 0 rfl rfl rfl rfl (Nat.le_of_ble_eq_true rfl) (by decide) (fun r_ w_ hp4 => ?_)
            obtain ⟨rfl, rfl⟩ := hp4
            show GG k _ _ [cPg v a n f, cJu v j (a 0) ba ra x y z jst, cLo v j lh2l, cHi v j lh2h, [((j 4), .inl (v.2.1 1, 104, .inr (.inl (vp_updL vs' (x0 / 2 ^ 6) ((vs' (x0 / 2 ^ 6)) ||| ((1 : Int64) <<< ((nI (x0 % 2 ^ 6)).toInt64 &&& 63)))))))]] _ _ [.int (eo (nxt P n x0))]
            refine g_pick (cs' := [cJu v j (a 0) ba ra x y z jst, cLo v j lh2l, cHi v j lh2h, [((j 4), .inl (v.2.1 1, 104, .inr (.inl (vp_updL vs' (x0 / 2 ^ 6) ((vs' (x0 / 2 ^ 6)) ||| ((1 : Int64) <<< ((nI (x0 % 2 ^ 6)).toInt64 &&& 63)))))))], cPg v a n f]) [1, 2, 3, 4, 0] rfl rfl ?_
            cases hnx : nxt P n x0 with
            | none =>
              show GG k _ _ _ _ _ (.int (zI (-1)) :: _)
              refine g_istore_n (lv' := [(2, .int (zI (-1))), (3, .int (nI c)), (0, .ref (j 0)), (1, .int (nI t))]) X dX2_followRun_55 rfl (by decide) rfl ?_
              refine g_iinc (y := nI (c + 1)) (lv' := [(3, .int (nI (c + 1))), (2, .int (zI (-1))), (0, .ref (j 0)), (1, .int (nI t))]) (j := 1) X dX2_followRun_56 rfl (nI_add c 1) (by decide) rfl ?_
              refine g_goto (tgt := 4) X dX2_followRun_59 (by decide) ?_
              have hxl := it_lt hW ht hx
              refine g_iload_n X dX2_followRun_4 0 rfl rfl ?_
              refine g_sipush (x := nI 6656) X dX2_followRun_5 (by decide +kernel) ?_
              refine g_icmp_geN (tgt := 62) X dX2_followRun_8 (by decide) (by omega) (by omega) (fun c8 => ?_) (fun c8 => ?_)
              · exact E dX2_followRun_62 (by decide) (by decide) (⟨_, _, _, lh2L.cong (fun z => (Vt_succ hx z).trans (Vt_end hx hnx z)), lh2H.cong (fun z => (Vt_succ hx z).trans (Vt_end hx hnx z)), BitR.cong (BitR_set hB) (fun z => (Vt_succ hx z).trans (Vt_end hx hnx z)), rfl⟩)
              · refine g_iload_n X dX2_followRun_11 1 rfl rfl ?_
                refine g_iconst (x := zI (-1)) X dX2_followRun_12 (by decide +kernel) ?_
                refine g_icmp_eq (tgt := 62) X dX2_followRun_13 (by decide) (fun c13 => ?_) (fun c13 => ?_)
                · exact E dX2_followRun_62 (by decide) (by decide) (⟨_, _, _, lh2L.cong (fun z => (Vt_succ hx z).trans (Vt_end hx hnx z)), lh2H.cong (fun z => (Vt_succ hx z).trans (Vt_end hx hnx z)), BitR.cong (BitR_set hB) (fun z => (Vt_succ hx z).trans (Vt_end hx hnx z)), rfl⟩)
                · exact absurd rfl c13
            | some y0 =>
              show GG k _ _ _ _ _ (.int (nI y0) :: _)
              refine g_istore_n (lv' := [(2, .int (nI y0)), (3, .int (nI c)), (0, .ref (j 0)), (1, .int (nI t))]) X dX2_followRun_55 rfl (by decide) rfl ?_
              refine g_iinc (y := nI (c + 1)) (lv' := [(3, .int (nI (c + 1))), (2, .int (nI y0)), (0, .ref (j 0)), (1, .int (nI t))]) (j := 1) X dX2_followRun_56 rfl (nI_add c 1) (by decide) rfl ?_
              refine g_goto (tgt := 4) X dX2_followRun_59 (by decide) ?_
              exact ih4 _ (by omega) (c + 1) y0 lh2l lh2h (vp_updL vs' (x0 / 2 ^ 6) ((vs' (x0 / 2 ^ 6)) ||| ((1 : Int64) <<< ((nI (x0 % 2 ^ 6)).toInt64 &&& 63)))) (by omega) (it_step hx hnx) (Dst_succ hd hx (fun z => by rw [(hB x0 (by omega)).mpr z] at c21; cases c21)) (lh2L.cong (Vt_succ hx)) (lh2H.cong (Vt_succ hx)) (BitR.cong (BitR_set hB) (Vt_succ hx)) rfl
  exact lp4 _ 0 t lw hg vs (by omega) rfl (fun _ _ _ _ h => absurd h (Nat.not_lt_zero _)) (hL.cong (fun z => ⟨Or.inl, fun h => h.elim id (fun ⟨k, h, _⟩ => absurd h (Nat.not_lt_zero _))⟩)) (hH.cong (fun z => ⟨Or.inl, fun h => h.elim id (fun ⟨k, h, _⟩ => absurd h (Nat.not_lt_zero _))⟩)) (hV.cong (fun z => ⟨Or.inl, fun h => h.elim id (fun ⟨k, h, _⟩ => absurd h (Nat.not_lt_zero _))⟩)) rfl

set_option maxHeartbeats 4000000 in
set_option maxRecDepth 100000 in
theorem c_X2_clear (l : Launch) (v : VV) (j : Nat → Nat) (pa : Nat) (ba : Nat) (ra : Nat) (x : Nat) (y : Nat) (z : Nat) (jst : Bool) (ex : Nat → Int32) (lw : Nat → Int32) (hg : Nat → Int32) (vs : Nat → Int64) : MU l v yX2_clear cX2_clear 1 none ({ frames := 1, cells := 0, slots := 0, locals := 24 }) [.ref (j 0)] [cJu v j pa ba ra x y z jst, cEx v j ex, cLo v j lw, cHi v j hg, cVi v j vs] (fun _ w_ => ∃ ex' lw' hg' vs', (∀ i, i < 12 → ex' i = zI (-1)) ∧ (∀ i, i < 39 → lw' i = zI (-1)) ∧ (∀ i, i < 39 → hg' i = zI (-1)) ∧ (∀ i, i < 104 → vs' i = 0) ∧ w_ = [cJu v j pa ba ra 0 0 0 jst, cEx v j ex', cLo v j lw', cHi v j hg', cVi v j vs']) 0 0 := by
  refine mm_void rfl (by decide) (Nat.le_of_ble_eq_true rfl) [(0, .ref (j 0))] rfl (fun k X hin E => ?_)
  refine g_aload_n X dX2_clear_0 0 rfl rfl ?_
  refine g_get X cb2 3 q_3_11 dX2_clear_1 0 0 rfl rfl (by decide) rfl rfl ?_
  refine g_iconst (x := zI (-1)) X dX2_clear_4 (by decide +kernel) ?_
  refine g_callS (As := [.ref (j 1), .int (zI (-1))]) (rest := []) (wr := [cJu v j pa ba ra x y z jst, cLo v j lw, cHi v j hg, cVi v j vs]) X (c_J7_fill_53178 l v (j 1) 12 ex (zI (-1)) (by omega)) f_J7_fill_53178 q_17_2 dX2_clear_5 [1] [0, 2, 3, 4] rfl rfl (by decide) rfl rfl (Nat.le_of_ble_eq_true rfl) (by decide) (fun r_ w_ hp2 => ?_)
  obtain ⟨f_1, f_11, rfl⟩ := hp2
  show GG k _ _ [[((j 1), .inl (v.2.1 0, 12, .inl f_1))], cJu v j pa ba ra x y z jst, cLo v j lw, cHi v j hg, cVi v j vs] _ _ []
  refine g_pick (cs' := [cJu v j pa ba ra x y z jst, [((j 1), .inl (v.2.1 0, 12, .inl f_1))], cLo v j lw, cHi v j hg, cVi v j vs]) [1, 0, 2, 3, 4] rfl rfl ?_
  refine g_aload_n X dX2_clear_8 0 rfl rfl ?_
  refine g_get X cb2 4 q_3_12 dX2_clear_9 0 0 rfl rfl (by decide) rfl rfl ?_
  refine g_iconst (x := zI (-1)) X dX2_clear_12 (by decide +kernel) ?_
  refine g_callS (As := [.ref (j 2), .int (zI (-1))]) (rest := []) (wr := [cJu v j pa ba ra x y z jst, [((j 1), .inl (v.2.1 0, 12, .inl f_1))], cHi v j hg, cVi v j vs]) X (c_J7_fill_53178 l v (j 2) 39 lw (zI (-1)) (by omega)) f_J7_fill_53178 q_17_2 dX2_clear_13 [2] [0, 1, 3, 4] rfl rfl (by decide) rfl rfl (Nat.le_of_ble_eq_true rfl) (by decide) (fun r_ w_ hp4 => ?_)
  obtain ⟨f_3, f_31, rfl⟩ := hp4
  show GG k _ _ [[((j 2), .inl (v.2.1 0, 39, .inl f_3))], cJu v j pa ba ra x y z jst, [((j 1), .inl (v.2.1 0, 12, .inl f_1))], cHi v j hg, cVi v j vs] _ _ []
  refine g_pick (cs' := [cJu v j pa ba ra x y z jst, [((j 1), .inl (v.2.1 0, 12, .inl f_1))], [((j 2), .inl (v.2.1 0, 39, .inl f_3))], cHi v j hg, cVi v j vs]) [1, 2, 0, 3, 4] rfl rfl ?_
  refine g_aload_n X dX2_clear_16 0 rfl rfl ?_
  refine g_get X cb2 5 q_3_13 dX2_clear_17 0 0 rfl rfl (by decide) rfl rfl ?_
  refine g_iconst (x := zI (-1)) X dX2_clear_20 (by decide +kernel) ?_
  refine g_callS (As := [.ref (j 3), .int (zI (-1))]) (rest := []) (wr := [cJu v j pa ba ra x y z jst, [((j 1), .inl (v.2.1 0, 12, .inl f_1))], [((j 2), .inl (v.2.1 0, 39, .inl f_3))], cVi v j vs]) X (c_J7_fill_53178 l v (j 3) 39 hg (zI (-1)) (by omega)) f_J7_fill_53178 q_17_2 dX2_clear_21 [3] [0, 1, 2, 4] rfl rfl (by decide) rfl rfl (Nat.le_of_ble_eq_true rfl) (by decide) (fun r_ w_ hp6 => ?_)
  obtain ⟨f_5, f_51, rfl⟩ := hp6
  show GG k _ _ [[((j 3), .inl (v.2.1 0, 39, .inl f_5))], cJu v j pa ba ra x y z jst, [((j 1), .inl (v.2.1 0, 12, .inl f_1))], [((j 2), .inl (v.2.1 0, 39, .inl f_3))], cVi v j vs] _ _ []
  refine g_pick (cs' := [cJu v j pa ba ra x y z jst, [((j 1), .inl (v.2.1 0, 12, .inl f_1))], [((j 2), .inl (v.2.1 0, 39, .inl f_3))], [((j 3), .inl (v.2.1 0, 39, .inl f_5))], cVi v j vs]) [1, 2, 3, 0, 4] rfl rfl ?_
  refine g_aload_n X dX2_clear_24 0 rfl rfl ?_
  refine g_get X cb2 9 q_3_15 dX2_clear_25 0 0 rfl rfl (by decide) rfl rfl ?_
  refine g_lconst (x := (0 : Int64)) X dX2_clear_28 (by decide +kernel) ?_
  refine g_callS (As := [.ref (j 4), .long (0 : Int64)]) (rest := []) (wr := [cJu v j pa ba ra x y z jst, [((j 1), .inl (v.2.1 0, 12, .inl f_1))], [((j 2), .inl (v.2.1 0, 39, .inl f_3))], [((j 3), .inl (v.2.1 0, 39, .inl f_5))]]) X (c_J7_fill_d0a16 l v (j 4) 104 vs (0 : Int64) (by omega)) f_J7_fill_d0a16 q_17_6 dX2_clear_29 [4] [0, 1, 2, 3] rfl rfl (by decide) rfl rfl (Nat.le_of_ble_eq_true rfl) (by decide) (fun r_ w_ hp8 => ?_)
  obtain ⟨f_7, f_71, rfl⟩ := hp8
  show GG k _ _ [[((j 4), .inl (v.2.1 1, 104, .inr (.inl f_7)))], cJu v j pa ba ra x y z jst, [((j 1), .inl (v.2.1 0, 12, .inl f_1))], [((j 2), .inl (v.2.1 0, 39, .inl f_3))], [((j 3), .inl (v.2.1 0, 39, .inl f_5))]] _ _ []
  refine g_pick (cs' := [cJu v j pa ba ra x y z jst, [((j 1), .inl (v.2.1 0, 12, .inl f_1))], [((j 2), .inl (v.2.1 0, 39, .inl f_3))], [((j 3), .inl (v.2.1 0, 39, .inl f_5))], [((j 4), .inl (v.2.1 1, 104, .inr (.inl f_7)))]]) [1, 2, 3, 4, 0] rfl rfl ?_
  refine g_aload_n X dX2_clear_32 0 rfl rfl ?_
  refine g_iconst (x := nI 0) X dX2_clear_33 (by decide +kernel) ?_
  refine g_put (cs' := [[((j 0), .inr (2, [.ref pa, .ref ba, .ref ra, .ref (j 1), .ref (j 2), .ref (j 3), .int (nI 0), .int (nI y), .int (nI z), .ref (j 4), .int (bI jst)]))], [((j 1), .inl (v.2.1 0, 12, .inl f_1))], [((j 2), .inl (v.2.1 0, 39, .inl f_3))], [((j 3), .inl (v.2.1 0, 39, .inl f_5))], [((j 4), .inl (v.2.1 1, 104, .inr (.inl f_7)))]]) X cb2 6 q_16_23 dX2_clear_34 0 0 rfl rfl (by decide) rfl rfl (rfl) (rfl) (Nat.le_of_ble_eq_true rfl) rfl ?_
  refine g_aload_n X dX2_clear_37 0 rfl rfl ?_
  refine g_iconst (x := nI 0) X dX2_clear_38 (by decide +kernel) ?_
  refine g_put (cs' := [[((j 0), .inr (2, [.ref pa, .ref ba, .ref ra, .ref (j 1), .ref (j 2), .ref (j 3), .int (nI 0), .int (nI 0), .int (nI z), .ref (j 4), .int (bI jst)]))], [((j 1), .inl (v.2.1 0, 12, .inl f_1))], [((j 2), .inl (v.2.1 0, 39, .inl f_3))], [((j 3), .inl (v.2.1 0, 39, .inl f_5))], [((j 4), .inl (v.2.1 1, 104, .inr (.inl f_7)))]]) X cb2 7 q_17_0 dX2_clear_39 0 0 rfl rfl (by decide) rfl rfl (rfl) (rfl) (Nat.le_of_ble_eq_true rfl) rfl ?_
  refine g_aload_n X dX2_clear_42 0 rfl rfl ?_
  refine g_iconst (x := nI 0) X dX2_clear_43 (by decide +kernel) ?_
  refine g_put (cs' := [[((j 0), .inr (2, [.ref pa, .ref ba, .ref ra, .ref (j 1), .ref (j 2), .ref (j 3), .int (nI 0), .int (nI 0), .int (nI 0), .ref (j 4), .int (bI jst)]))], [((j 1), .inl (v.2.1 0, 12, .inl f_1))], [((j 2), .inl (v.2.1 0, 39, .inl f_3))], [((j 3), .inl (v.2.1 0, 39, .inl f_5))], [((j 4), .inl (v.2.1 1, 104, .inr (.inl f_7)))]]) X cb2 8 q_17_1 dX2_clear_44 0 0 rfl rfl (by decide) rfl rfl (rfl) (rfl) (Nat.le_of_ble_eq_true rfl) rfl ?_
  exact E dX2_clear_47 (by decide) (by decide) (⟨_, _, _, _, f_11, f_31, f_51, f_71, rfl⟩)


