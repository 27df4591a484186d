/-! ## java.util.Arrays.fill, Runs -/
theorem fill_step {f' : Nat → Int32} {i : Nat} {x : Int32} (e1 : ∀ j, j < i → f' j = x) : ∀ j, j < i + 1 → upd f' i x j = x := by
  intro j hj
  by_cases c : j = i
  · subst c; exact pk_us
  · rw [pk_un c]; exact e1 j (by omega)

set_option maxHeartbeats 4000000 in
set_option maxRecDepth 100000 in
theorem c_J7_fill_53178 (l : Launch) (v : VV) (h : Nat) (n : Nat) (f : Nat → Int32) (x : Int32) (hn : n < 2147483648) : MU l v yJ7_fill_53178 cJ7_fill_53178 4 none ({ frames := 0, cells := 0, slots := 0, locals := 0 }) [.ref h, .int x] [[(h, .inl (v.2.1 0, n, .inl f))]] (fun _ w_ => ∃ f', (∀ i, i < n → f' i = x) ∧ w_ = [[(h, .inl (v.2.1 0, n, .inl f'))]]) 0 0 := by
  refine mm_void rfl (by decide) (Nat.le_of_ble_eq_true rfl) [(0, .ref h), (1, .int x)] rfl (fun k X hin E => ?_)
  refine g_iconst (x := nI 0) X dJ7_fill_53178_0 (by decide +kernel) ?_
  refine g_istore_n (lv' := [(2, .int (nI 0)), (0, .ref h), (1, .int x)]) X dJ7_fill_53178_1 rfl (by decide) rfl ?_
  refine g_aload_n X dJ7_fill_53178_2 1 rfl rfl ?_
  refine g_alen 0 X dJ7_fill_53178_3 0 0 rfl rfl rfl rfl ?_
  refine g_istore_n (lv' := [(3, .int (nI n)), (2, .int (nI 0)), (0, .ref h), (1, .int x)]) X dJ7_fill_53178_4 rfl (by decide) rfl ?_
  have lp5 : ∀ (zN : Nat) (i : Nat) (f' : Nat → Int32) (hi : i ≤ n) (e1 : ∀ j, j < i → f' j = x) (zM : zN = n - i), GG k 0 0 [[(h, .inl (v.2.1 0, n, .inl f'))]] [(2, .int (nI i)), (3, .int (nI n)), (0, .ref h), (1, .int x)] 5 [] := by
    intro zN
    induction zN using Nat.strongRecOn with
    | _ zN zih =>
      have ih5 := zih
      clear zih
      intro i f' hi e1 zM
      refine g_iload_n X dJ7_fill_53178_5 0 rfl rfl ?_
      refine g_iload_n X dJ7_fill_53178_6 1 rfl rfl ?_
      refine g_icmp_geN (tgt := 20) X dJ7_fill_53178_7 (by decide) (by omega) (by omega) (fun c7 => ?_) (fun c7 => ?_)
      · exact E dJ7_fill_53178_20 (by decide) (by decide) (⟨f', fun j h => e1 j (by omega), rfl⟩)
      · refine g_aload_n X dJ7_fill_53178_10 2 rfl rfl ?_
        refine g_iload_n X dJ7_fill_53178_11 0 rfl rfl ?_
        refine g_iload_n X dJ7_fill_53178_12 3 rfl rfl ?_
        refine g_iast (cs' := [[(h, .inl (v.2.1 0, n, .inl (upd f' i x)))]]) X dJ7_fill_53178_13 0 0 rfl rfl (by omega) (by omega) rfl ?_
        refine g_iinc (y := nI (i + 1)) (lv' := [(2, .int (nI (i + 1))), (3, .int (nI n)), (0, .ref h), (1, .int x)]) (j := 0) X dJ7_fill_53178_14 rfl (nI_add i 1) (by decide) rfl ?_
        refine g_goto (tgt := 5) X dJ7_fill_53178_17 (by decide) ?_
        exact ih5 _ (by omega) (i + 1) (upd f' i x) (by omega) (fill_step e1) rfl
  refine g_lv (lv' := [(2, .int (nI 0)), (3, .int (nI n)), (0, .ref h), (1, .int x)]) [1, 0, 2, 3] rfl ?_
  exact lp5 _ 0 f (Nat.zero_le _) (fun j h => absurd h (Nat.not_lt_zero _)) rfl

set_option maxHeartbeats 4000000 in
set_option maxRecDepth 100000 in
theorem c_X4_endAt (l : Launch) (v : VV) (d : Nat → Nat) (stl : Bool) (a : Nat → Nat) (n : Nat) (f : Nat → Nat → Int32) (P : Nat → S9) (q : Nat) (hW : WF P n) (hR : PgR P n f) (hq : q < 512 * (n + 1)) : MI l v yX4_endAt cX4_endAt 2 (some .int) ({ frames := 2, cells := 0, slots := 0, locals := 41 }) [.ref (d 0), .int (nI q)] [cRu v d (a 0) stl, cPg v a n f] (fun r w_ => r = nI (tv n q) ∧ w_ = [cRu v d (a 0) stl, cPg v a n f]) 0 0 := by
  refine mm_int (by decide) (Nat.le_of_ble_eq_true rfl) [(0, .ref (d 0)), (1, .int (nI q))] rfl (fun k X E => ?_)
  have hn12 := hW.1
  refine g_aload_n X dX4_endAt_0 0 rfl rfl ?_
  refine g_get X cb4 0 q_3_6 dX4_endAt_1 0 0 rfl rfl (by decide) rfl rfl ?_
  refine g_iload_n X dX4_endAt_4 1 rfl rfl ?_
  refine g_callV (As := [.int (nI q)]) (rest := []) (wr := [cRu v d (a 0) stl]) X (c_X3_isEnd l v a n f q (by omega) (by omega)) f_X3_isEnd q_18_19 dX4_endAt_5 [1] [0] rfl rfl (by decide) 0 rfl rfl rfl rfl (Nat.le_of_ble_eq_true rfl) (by decide) (fun r_ w_ hp1 => ?_)
  obtain ⟨rfl, rfl⟩ := hp1
  show GG k _ _ [cPg v a n f, cRu v d (a 0) stl] _ _ [.int (bI (decide (n ≤ q / 512)))]
  refine g_pick (cs' := [cRu v d (a 0) stl, cPg v a n f]) [1, 0] rfl rfl ?_
  refine g_if_eqB (tgt := 22) X dX4_endAt_8 (by decide) (fun c8 => ?_) (fun c8 => ?_)
  · refine g_iload_n X dX4_endAt_22 1 rfl rfl ?_
    refine g_callSN (As := [.int (nI q)]) (rest := []) (wr := [cRu v d (a 0) stl, cPg v a n f]) X (c_X6_statementAt l v q (by omega)) f_X6_statementAt 13 rfl dX4_endAt_23 [] [0, 1] rfl rfl (by decide) rfl rfl (Nat.le_of_ble_eq_true rfl) (by decide) (fun r_ w_ hp2 => ?_)
    obtain ⟨rfl, rfl⟩ := hp2
    show GG k _ _ [cRu v d (a 0) stl, cPg v a n f] _ _ [.int (nI (q / 512))]
    exact E dX4_endAt_26 rfl (rfl) (by decide) (by decide) (⟨by unfold tv; rw [if_neg (of_decide_eq_false c8)], rfl⟩)
  · refine g_sipush (x := nI 1000) X dX4_endAt_11 (by decide +kernel) ?_
    refine g_iload_n X dX4_endAt_14 1 rfl rfl ?_
    refine g_callSN (As := [.int (nI q)]) (rest := [.int (nI 1000)]) (wr := [cRu v d (a 0) stl, cPg v a n f]) X (c_X6_tripleAt l v q (by omega)) f_X6_tripleAt 12 rfl dX4_endAt_15 [] [0, 1] rfl rfl (by decide) rfl rfl (Nat.le_of_ble_eq_true rfl) (by decide) (fun r_ w_ hp3 => ?_)
    obtain ⟨rfl, rfl⟩ := hp3
    show GG k _ _ [cRu v d (a 0) stl, cPg v a n f] _ _ [.int (nI (q % 512)), .int (nI 1000)]
    refine g_iaddN X dX4_endAt_18 ?_
    refine g_goto (tgt := 26) X dX4_endAt_19 (by decide) ?_
    exact E dX4_endAt_26 rfl (rfl) (by decide) (by decide) (⟨by unfold tv; rw [if_pos (of_decide_eq_true c8)], rfl⟩)

set_option maxHeartbeats 4000000 in
set_option maxRecDepth 100000 in
theorem c_X4_settle (l : Launch) (v : VV) (d : Nat → Nat) (stl : Bool) (a : Nat → Nat) (n : Nat) (f : Nat → Nat → Int32) (P : Nat → S9) (e : Nat → Int32) (s : Nat) (j : Nat) (p : Nat) (hW : WF P n) (hR : PgR P n f) (hs : s < 512 * (n + 1)) (hF : FI P n s 0 j e) (hp : it P n j s = some p) (hj : j ≤ 6656) (hst : e s ≠ zI (-2)) : MU l v yX4_settle cX4_settle 5 none ({ frames := 2, cells := 0, slots := 0, locals := 49 }) [.ref (d 0), .int (nI s), .int (zI (EE P n s))] [cRu v d (a 0) stl, cEn v d e, cPg v a n f] (fun _ w_ => ∃ e', OKE P n e' ∧ e' s ≠ zI (-2) ∧ w_ = [cRu v d (a 0) stl, cEn v d e', cPg v a n f]) 0 0 := by
  refine mm_void rfl (by decide) (Nat.le_of_ble_eq_true rfl) [(0, .ref (d 0)), (1, .int (nI s)), (2, .int (zI (EE P n s)))] rfl (fun k X hin E => ?_)
  have hn12 := hW.1
  refine g_iload_n X dX4_settle_0 1 rfl rfl ?_
  refine g_istore_n (lv' := [(3, .int (nI s)), (0, .ref (d 0)), (1, .int (nI s)), (2, .int (zI (EE P n s)))]) X dX4_settle_1 rfl (by decide) rfl ?_
  refine g_iconst (x := nI 0) X dX4_settle_2 (by decide +kernel) ?_
  refine g_istore (lv' := [(4, .int (nI 0)), (3, .int (nI s)), (0, .ref (d 0)), (1, .int (nI s)), (2, .int (zI (EE P n s)))]) X dX4_settle_3 (by decide) rfl ?_
  have lp5 : ∀ (zN : Nat) (i : Nat) (x : Nat) (e' : Nat → Int32) (hx : it P n i s = some x) (hi : i ≤ j) (hF : FI P n s i j e') (hst : e' s ≠ zI (-2)) (zM : zN = 6656 - i), GG k 0 0 [cRu v d (a 0) stl, cEn v d e', cPg v a n f] [(4, .int (nI i)), (3, .int (nI x)), (0, .ref (d 0)), (1, .int (nI s)), (2, .int (zI (EE P n s)))] 5 [] := by
    intro zN
    induction zN using Nat.strongRecOn with
    | _ zN zih =>
      have ih5 := zih
      clear zih
      intro i x e' hx hi hF hst zM
      refine g_iload X dX4_settle_5 0 rfl ?_
      refine g_sipush (x := nI 6656) X dX4_settle_7 (by decide +kernel) ?_
      refine g_icmp_geN (tgt := 51) X dX4_settle_10 (by decide) (by omega) (by omega) (fun c10 => ?_) (fun c10 => ?_)
      · exact E dX4_settle_51 (by decide) (by decide) (⟨e', FI_out hF (by omega), hst, rfl⟩)
      · have hxl := it_lt hW hs hx
        refine g_iload_n X dX4_settle_13 1 rfl rfl ?_
        refine g_iconst (x := zI (-1)) X dX4_settle_14 (by decide +kernel) ?_
        refine g_icmp_eq (tgt := 51) X dX4_settle_15 (by decide) (fun c15 => ?_) (fun c15 => ?_)
        · exact absurd c15 (nI_nm (b := 0) (by omega) (by omega))
        · refine g_aload_n X dX4_settle_18 2 rfl rfl ?_
          refine g_get X cb4 1 q_3_4 dX4_settle_19 0 0 rfl rfl (by decide) rfl rfl ?_
          refine g_iload_n X dX4_settle_22 1 rfl rfl ?_
          refine g_iald X dX4_settle_23 1 0 rfl rfl (by omega) (by omega) ?_
          refine g_bipush (x := zI (-3)) X dX4_settle_24 (by decide +kernel) ?_
          refine g_icmp_ne (tgt := 51) X dX4_settle_26 (by decide) (fun c26 => ?_) (fun c26 => ?_)
          · exact E dX4_settle_51 (by decide) (by decide) (⟨e', FI_out hF (FI_not hF hx c26), hst, rfl⟩)
          · have hi2 := FI_in hF hxl hx hW c26
            refine g_aload_n X dX4_settle_29 2 rfl rfl ?_
            refine g_get X cb4 1 q_3_4 dX4_settle_30 0 0 rfl rfl (by decide) rfl rfl ?_
            refine g_iload_n X dX4_settle_33 1 rfl rfl ?_
            refine g_iload_n X dX4_settle_34 4 rfl rfl ?_
            refine g_iast (cs' := [cRu v d (a 0) stl, [((d 1), .inl (v.2.1 0, 6656, .inl (upd e' x (zI (EE P n s)))))], cPg v a n f]) X dX4_settle_35 1 0 rfl rfl (by omega) (by omega) rfl ?_
            refine g_aload_n X dX4_settle_36 2 rfl rfl ?_
            refine g_get X cb4 0 q_3_6 dX4_settle_37 0 0 rfl rfl (by decide) rfl rfl ?_
            refine g_iload_n X dX4_settle_40 1 rfl rfl ?_
            refine g_callV (As := [.int (nI x)]) (rest := []) (wr := [cRu v d (a 0) stl, [((d 1), .inl (v.2.1 0, 6656, .inl (upd e' x (zI (EE P n s)))))]]) X (c_X3_placeAfter l v a n f P x hW hR (by omega)) f_X3_placeAfter q_18_0 dX4_settle_41 [2] [0, 1] rfl rfl (by decide) 0 rfl rfl rfl rfl (Nat.le_of_ble_eq_true rfl) (by decide) (fun r_ w_ hp1 => ?_)
            obtain ⟨rfl, rfl⟩ := hp1
            show GG k _ _ [cPg v a n f, cRu v d (a 0) stl, [((d 1), .inl (v.2.1 0, 6656, .inl (upd e' x (zI (EE P n s)))))]] _ _ [.int (eo (nxt P n x))]
            refine g_pick (cs' := [cRu v d (a 0) stl, [((d 1), .inl (v.2.1 0, 6656, .inl (upd e' x (zI (EE P n s)))))], cPg v a n f]) [1, 2, 0] rfl rfl ?_
            obtain ⟨x', hx'⟩ := it_pre hp (i + 1) (by omega)
            have hnx : nxt P n x = some x' := by have z := hx'; rw [show it P n (i + 1) s = (it P n i s).bind (nxt P n) from rfl, hx] at z; exact z
            refine g_v (y := nI x') (by rw [hnx]; rfl) ?_
            refine g_istore_n (lv' := [(3, .int (nI x')), (4, .int (nI i)), (0, .ref (d 0)), (1, .int (nI s)), (2, .int (zI (EE P n s)))]) X dX4_settle_44 rfl (by decide) rfl ?_
            refine g_iinc (y := nI (i + 1)) (lv' := [(4, .int (nI (i + 1))), (3, .int (nI x')), (0, .ref (d 0)), (1, .int (nI s)), (2, .int (zI (EE P n s)))]) (j := 1) X dX4_settle_45 rfl (nI_add i 1) (by decide) rfl ?_
            refine g_goto (tgt := 5) X dX4_settle_48 (by decide) ?_
            exact ih5 _ (by omega) (i + 1) x' (upd e' x (zI (EE P n s))) hx' (by omega) (FI_set hW hF hx hi2) (st_keep hW hs hst) rfl
  exact lp5 _ 0 s e rfl (Nat.zero_le _) hF hst rfl

set_option maxHeartbeats 4000000 in
set_option maxRecDepth 100000 in
theorem c_X4_endFrom (l : Launch) (v : VV) (d : Nat → Nat) (stl : Bool) (a : Nat → Nat) (n : Nat) (f : Nat → Nat → Int32) (P : Nat → S9) (e : Nat → Int32) (s : Nat) (hW : WF P n) (hR : PgR P n f) (hs : s < 512 * (n + 1)) (hE : stl = false → OKE P n e) : MI l v yX4_endFrom cX4_endFrom 5 (some .int) ({ frames := 3, cells := 0, slots := 0, locals := 73 }) [.ref (d 0), .int (nI s)] [cRu v d (a 0) stl, cEn v d e, cPg v a n f] (fun r w_ => r = zI (EE P n s) ∧ ∃ e', OKE P n e' ∧ w_ = [cRu v d (a 0) false, cEn v d e', cPg v a n f]) 0 0 := by
  refine mm_int (by decide) (Nat.le_of_ble_eq_true rfl) [(0, .ref (d 0)), (1, .int (nI s))] rfl (fun k X E => ?_)
  have hn12 := hW.1
  refine g_aload_n X dX4_endFrom_0 0 rfl rfl ?_
  refine g_get X cb4 2 q_3_5 dX4_endFrom_1 0 0 rfl rfl (by decide) rfl rfl ?_
  have j21 : ∀ (e' : Nat → Int32) (hO : OKE P n e'), GG k 0 0 [cRu v d (a 0) false, cEn v d e', cPg v a n f] [(0, .ref (d 0)), (1, .int (nI s))] 21 [] := by
    intro e' hO
    refine g_iload_n X dX4_endFrom_21 1 rfl rfl ?_
    refine g_istore_n (lv' := [(2, .int (nI s)), (0, .ref (d 0)), (1, .int (nI s))]) X dX4_endFrom_22 rfl (by decide) rfl ?_
    refine g_iconst (x := nI 0) X dX4_endFrom_23 (by decide +kernel) ?_
    refine g_istore_n (lv' := [(3, .int (nI 0)), (2, .int (nI s)), (0, .ref (d 0)), (1, .int (nI s))]) X dX4_endFrom_24 rfl (by decide) rfl ?_
    have lp25 : ∀ (zN : Nat) (c : Nat) (j : Nat) (p : Nat) (e2 : Nat → Int32) (hc : c ≤ 6656) (hp : it P n j s = some p) (hF : FI P n s 0 j e2) (hcj : c = j ∨ e2 p ≠ zI (-2)) (hjl : j ≤ 6656) (zM : zN = 6656 - c), GG k 0 0 [cRu v d (a 0) false, cEn v d e2, cPg v a n f] [(3, .int (nI c)), (2, .int (nI p)), (0, .ref (d 0)), (1, .int (nI s))] 25 [] := by
      intro zN
      induction zN using Nat.strongRecOn with
      | _ zN zih =>
        have ih25 := zih
        clear zih
        intro c j p e2 hc hp hF hcj hjl zM
        have hpl := it_lt hW hs hp
        have j90 : ∀ (hx : e2 p ≠ zI (-2)), GG k 0 0 [cRu v d (a 0) false, cEn v d e2, cPg v a n f] [(2, .int (nI p)), (0, .ref (d 0)), (1, .int (nI s))] 90 [] := by
          intro hx
          refine g_aload_n X dX4_endFrom_90 1 rfl rfl ?_
          refine g_iload_n X dX4_endFrom_91 2 rfl rfl ?_
          refine g_aload_n X dX4_endFrom_92 1 rfl rfl ?_
          refine g_get X cb4 1 q_3_4 dX4_endFrom_93 0 0 rfl rfl (by decide) rfl rfl ?_
          refine g_iload_n X dX4_endFrom_96 0 rfl rfl ?_
          refine g_iald X dX4_endFrom_97 1 0 rfl rfl (by omega) (by omega) ?_
          refine g_bipush (x := zI (-3)) X dX4_endFrom_98 (by decide +kernel) ?_
          have j113 : GG k 0 0 [cRu v d (a 0) false, cEn v d e2, cPg v a n f] [(2, .int (nI p)), (0, .ref (d 0)), (1, .int (nI s))] 113 [.int (zI (EE P n s)), .int (nI s), .ref (d 0)] := by
            refine g_callV (As := [.int (nI s), .int (zI (EE P n s))]) (rest := []) (wr := []) X (c_X4_settle l v d false a n f P e2 s j p hW hR hs hF hp (hjl) (FI_start hF hp hx)) f_X4_settle q_18_23 dX4_endFrom_113 [0, 1, 2] [] rfl rfl (by decide) 0 rfl rfl rfl rfl (Nat.le_of_ble_eq_true rfl) (by decide) (fun r_ w_ hp2 => ?_)
            obtain ⟨e_1, e_1O, e_1N, rfl⟩ := hp2
            show GG k _ _ [cRu v d (a 0) false, cEn v d e_1, cPg v a n f] _ _ []
            refine g_aload_n X dX4_endFrom_116 1 rfl rfl ?_
            refine g_get X cb4 1 q_3_4 dX4_endFrom_117 0 0 rfl rfl (by decide) rfl rfl ?_
            refine g_iload_n X dX4_endFrom_120 2 rfl rfl ?_
            refine g_iald X dX4_endFrom_121 1 0 rfl rfl (by omega) (by omega) ?_
            exact E dX4_endFrom_122 rfl (rfl) (by decide) (by decide) (⟨OKE_at e_1O hs e_1N, _, e_1O, rfl⟩)
          refine g_icmp_ne (tgt := 107) X dX4_endFrom_100 (by decide) (fun c100 => ?_) (fun c100 => ?_)
          · refine g_aload_n X dX4_endFrom_107 1 rfl rfl ?_
            refine g_get X cb4 1 q_3_4 dX4_endFrom_108 0 0 rfl rfl (by decide) rfl rfl ?_
            refine g_iload_n X dX4_endFrom_111 0 rfl rfl ?_
            refine g_iald X dX4_endFrom_112 1 0 rfl rfl (by omega) (by omega) ?_
            refine g_v (y := zI (EE P n s)) (by have z := FI_val hW hs hF hp hx; rwa [if_neg c100] at z) ?_
            exact j113 
          · refine g_iconst (x := zI (-1)) X dX4_endFrom_103 (by decide +kernel) ?_
            refine g_goto (tgt := 113) X dX4_endFrom_104 (by decide) ?_
            refine g_v (y := zI (EE P n s)) (by have z := FI_val hW hs hF hp hx; rwa [if_pos c100] at z) ?_
            exact j113 
        refine g_iload_n X dX4_endFrom_25 0 rfl rfl ?_
        refine g_sipush (x := nI 6656) X dX4_endFrom_26 (by decide +kernel) ?_
        refine g_icmp_geN (tgt := 90) X dX4_endFrom_29 (by decide) (by omega) (by omega) (fun c29 => ?_) (fun c29 => ?_)
        · refine g_lv (lv' := [(2, .int (nI p)), (0, .ref (d 0)), (1, .int (nI s))]) [1, 2, 3] rfl ?_
          exact j90 (by rcases hcj with z | z; intro z2; have := FI_len hW hs hF hp z2; omega; exact z)
        · refine g_aload_n X dX4_endFrom_32 2 rfl rfl ?_
          refine g_get X cb4 1 q_3_4 dX4_endFrom_33 0 0 rfl rfl (by decide) rfl rfl ?_
          refine g_iload_n X dX4_endFrom_36 1 rfl rfl ?_
          refine g_iald X dX4_endFrom_37 1 0 rfl rfl (by omega) (by omega) ?_
          refine g_bipush (x := zI (-2)) X dX4_endFrom_38 (by decide +kernel) ?_
          refine g_icmp_ne (tgt := 90) X dX4_endFrom_40 (by decide) (fun c40 => ?_) (fun c40 => ?_)
          · refine g_lv (lv' := [(2, .int (nI p)), (0, .ref (d 0)), (1, .int (nI s))]) [1, 2, 3] rfl ?_
            exact j90 c40
          · refine g_aload_n X dX4_endFrom_43 2 rfl rfl ?_
            refine g_get X cb4 0 q_3_6 dX4_endFrom_44 0 0 rfl rfl (by decide) rfl rfl ?_
            refine g_iload_n X dX4_endFrom_47 1 rfl rfl ?_
            refine g_callV (As := [.int (nI p)]) (rest := []) (wr := [cRu v d (a 0) false, cEn v d e2]) X (c_X3_placeAfter l v a n f P p hW hR (by omega)) f_X3_placeAfter q_18_0 dX4_endFrom_48 [2] [0, 1] rfl rfl (by decide) 0 rfl rfl rfl rfl (Nat.le_of_ble_eq_true rfl) (by decide) (fun r_ w_ hp3 => ?_)
            obtain ⟨rfl, rfl⟩ := hp3
            show GG k _ _ [cPg v a n f, cRu v d (a 0) false, cEn v d e2] _ _ [.int (eo (nxt P n p))]
            refine g_pick (cs' := [cRu v d (a 0) false, cEn v d e2, cPg v a n f]) [1, 2, 0] rfl rfl ?_
            cases hnx : nxt P n p with
            | none =>
              show GG k _ _ _ _ _ (.int (zI (-1)) :: _)
              refine g_istore (lv' := [(4, .int (zI (-1))), (3, .int (nI c)), (2, .int (nI p)), (0, .ref (d 0)), (1, .int (nI s))]) X dX4_endFrom_51 (by decide) rfl ?_
              refine g_iload X dX4_endFrom_53 0 rfl ?_
              refine g_iconst (x := zI (-1)) X dX4_endFrom_55 (by decide +kernel) ?_
              refine g_icmp_ne (tgt := 73) X dX4_endFrom_56 (by decide) (fun c56 => ?_) (fun c56 => ?_)
              · exact absurd rfl c56
              · refine g_aload_n X dX4_endFrom_59 3 rfl rfl ?_
                refine g_get X cb4 1 q_3_4 dX4_endFrom_60 0 0 rfl rfl (by decide) rfl rfl ?_
                refine g_iload_n X dX4_endFrom_63 2 rfl rfl ?_
                refine g_aload_n X dX4_endFrom_64 3 rfl rfl ?_
                refine g_iload_n X dX4_endFrom_65 2 rfl rfl ?_
                refine g_callV (As := [.int (nI p)]) (rest := [.int (nI p), .ref (d 1)]) (wr := [cEn v d e2]) X (c_X4_endAt l v d false a n f P p hW hR (by omega)) f_X4_endAt q_18_15 dX4_endFrom_66 [0, 2] [1] rfl rfl (by decide) 0 rfl rfl rfl rfl (Nat.le_of_ble_eq_true rfl) (by decide) (fun r_ w_ hp4 => ?_)
                obtain ⟨rfl, rfl⟩ := hp4
                show GG k _ _ [cRu v d (a 0) false, cPg v a n f, cEn v d e2] _ _ [.int (nI (tv n p)), .int (nI p), .ref (d 1)]
                refine g_pick (cs' := [cRu v d (a 0) false, cEn v d e2, cPg v a n f]) [0, 2, 1] rfl rfl ?_
                refine g_iast (cs' := [cRu v d (a 0) false, [((d 1), .inl (v.2.1 0, 6656, .inl (upd e2 p (nI (tv n p)))))], cPg v a n f]) X dX4_endFrom_69 1 0 rfl rfl (by omega) (by omega) rfl ?_
                refine g_goto (tgt := 84) X dX4_endFrom_70 (by decide) ?_
                refine g_iinc (y := nI (c + 1)) (lv' := [(3, .int (nI (c + 1))), (4, .int (zI (-1))), (2, .int (nI p)), (0, .ref (d 0)), (1, .int (nI s))]) (j := 1) X dX4_endFrom_84 rfl (nI_add c 1) (by decide) rfl ?_
                refine g_goto (tgt := 25) X dX4_endFrom_87 (by decide) ?_
                refine g_lv (lv' := [(3, .int (nI (c + 1))), (2, .int (nI p)), (0, .ref (d 0)), (1, .int (nI s))]) [0, 2, 3, 4] rfl ?_
                exact ih25 _ (by omega) (c + 1) j p (upd e2 p (nI (tv n p))) (by omega) hp (FI_end hF c40 hnx) (Or.inr (by rw [pk_us]; exact nI_nm (b := 1) (by have := tv_rng n p hpl hn12; omega) (by omega))) hjl rfl
            | some y =>
              show GG k _ _ _ _ _ (.int (nI y) :: _)
              have hyl := nxt_lt hW hnx
              refine g_istore (lv' := [(4, .int (nI y)), (3, .int (nI c)), (2, .int (nI p)), (0, .ref (d 0)), (1, .int (nI s))]) X dX4_endFrom_51 (by decide) rfl ?_
              refine g_iload X dX4_endFrom_53 0 rfl ?_
              refine g_iconst (x := zI (-1)) X dX4_endFrom_55 (by decide +kernel) ?_
              refine g_icmp_ne (tgt := 73) X dX4_endFrom_56 (by decide) (fun c56 => ?_) (fun c56 => ?_)
              · refine g_aload_n X dX4_endFrom_73 3 rfl rfl ?_
                refine g_get X cb4 1 q_3_4 dX4_endFrom_74 0 0 rfl rfl (by decide) rfl rfl ?_
                refine g_iload_n X dX4_endFrom_77 2 rfl rfl ?_
                refine g_bipush (x := zI (-3)) X dX4_endFrom_78 (by decide +kernel) ?_
                refine g_iast (cs' := [cRu v d (a 0) false, [((d 1), .inl (v.2.1 0, 6656, .inl (upd e2 p (zI (-3)))))], cPg v a n f]) X dX4_endFrom_80 1 0 rfl rfl (by omega) (by omega) rfl ?_
                refine g_iload X dX4_endFrom_81 0 rfl ?_
                refine g_istore_n (lv' := [(2, .int (nI y)), (4, .int (nI y)), (3, .int (nI c)), (0, .ref (d 0)), (1, .int (nI s))]) X dX4_endFrom_83 rfl (by decide) rfl ?_
                refine g_iinc (y := nI (c + 1)) (lv' := [(3, .int (nI (c + 1))), (2, .int (nI y)), (4, .int (nI y)), (0, .ref (d 0)), (1, .int (nI s))]) (j := 2) X dX4_endFrom_84 rfl (nI_add c 1) (by decide) rfl ?_
                refine g_goto (tgt := 25) X dX4_endFrom_87 (by decide) ?_
                refine g_lv (lv' := [(3, .int (nI (c + 1))), (2, .int (nI y)), (0, .ref (d 0)), (1, .int (nI s))]) [0, 1, 3, 4] rfl ?_
                exact ih25 _ (by omega) (c + 1) (j + 1) y (upd e2 p (zI (-3))) (by omega) (it_step hp hnx) (FI_mark hW hs hF hp c40) (Or.inl (by rcases hcj with z | z; omega; exact absurd c40 z)) (by have := FI_len hW hs hF hp c40; omega) rfl
              · exact absurd c56 (nI_nm (b := 0) (by omega) (by omega))
    exact lp25 _ 0 0 s e' (Nat.zero_le _) rfl (FI_0 hO) (Or.inl rfl) (Nat.zero_le _) rfl
  refine g_if_eqB (tgt := 21) X dX4_endFrom_4 (by decide) (fun c4 => ?_) (fun c4 => ?_)
  · subst c4
    exact j21 _ (hE rfl)
  · subst c4
    refine g_aload_n X dX4_endFrom_7 0 rfl rfl ?_
    refine g_get X cb4 1 q_3_4 dX4_endFrom_8 0 0 rfl rfl (by decide) rfl rfl ?_
    refine g_bipush (x := zI (-2)) X dX4_endFrom_11 (by decide +kernel) ?_
    refine g_callS (As := [.ref (d 1), .int (zI (-2))]) (rest := []) (wr := [cRu v d (a 0) true, cPg v a n f]) X (c_J7_fill_53178 l v (d 1) 6656 e (zI (-2)) (by omega)) f_J7_fill_53178 q_17_23 dX4_endFrom_13 [1] [0, 2] rfl rfl (by decide) rfl rfl (Nat.le_of_ble_eq_true rfl) (by decide) (fun r_ w_ hp6 => ?_)
    obtain ⟨f_5, f_51, rfl⟩ := hp6
    show GG k _ _ [[((d 1), .inl (v.2.1 0, 6656, .inl f_5))], cRu v d (a 0) true, cPg v a n f] _ _ []
    refine g_pick (cs' := [cRu v d (a 0) true, [((d 1), .inl (v.2.1 0, 6656, .inl f_5))], cPg v a n f]) [1, 0, 2] rfl rfl ?_
    refine g_aload_n X dX4_endFrom_16 0 rfl rfl ?_
    refine g_iconst (x := nI 0) X dX4_endFrom_17 (by decide +kernel) ?_
    refine g_put (cs' := [[((d 0), .inr (4, [.ref (a 0), .ref (d 1), .int (nI 0)]))], [((d 1), .inl (v.2.1 0, 6656, .inl f_5))], cPg v a n f]) X cb4 2 q_3_5 dX4_endFrom_18 0 0 rfl rfl (by decide) rfl rfl (rfl) (rfl) (Nat.le_of_ble_eq_true rfl) rfl ?_
    exact j21 _ (fun q hq => Or.inl (f_51 q (by omega)))

set_option maxHeartbeats 4000000 in
set_option maxRecDepth 100000 in
theorem c_X4_forget (l : Launch) (v : VV) (d : Nat → Nat) (stl : Bool) (pa : Nat) : MU l v yX4_forget cX4_forget 1 none ({ frames := 0, cells := 0, slots := 0, locals := 0 }) [.ref (d 0)] [cRu v d pa stl] (fun _ w_ => w_ = [cRu v d pa true]) 0 0 := by
  refine mm_void rfl (by decide) (Nat.le_of_ble_eq_true rfl) [(0, .ref (d 0))] rfl (fun k X hin E => ?_)
  refine g_aload_n X dX4_forget_0 0 rfl rfl ?_
  refine g_iconst (x := nI 1) X dX4_forget_1 (by decide +kernel) ?_
  refine g_put (cs' := [[((d 0), .inr (4, [.ref pa, .ref (d 1), .int (nI 1)]))]]) X cb4 2 q_3_5 dX4_forget_2 0 0 rfl rfl (by decide) rfl rfl (rfl) (rfl) (Nat.le_of_ble_eq_true rfl) rfl ?_
  exact E dX4_forget_5 (by decide) (by decide) (rfl)

set_option maxHeartbeats 4000000 in
set_option maxRecDepth 100000 in
theorem c_X4_succeedsFrom (l : Launch) (v : VV) (d : Nat → Nat) (stl : Bool) (a : Nat → Nat) (n : Nat) (f : Nat → Nat → Int32) (P : Nat → S9) (e : Nat → Int32) (s : Nat) (hW : WF P n) (hR : PgR P n f) (hs : s < 512 * (n + 1)) (hE : stl = false → OKE P n e) : MI l v yX4_succeedsFrom cX4_succeedsFrom 2 (some .boolean) ({ frames := 4, cells := 0, slots := 0, locals := 97 }) [.ref (d 0), .int (nI s)] [cRu v d (a 0) stl, cEn v d e, cPg v a n f] (fun r w_ => r = bI (decide (1000 ≤ EE P n s)) ∧ ∃ e', OKE P n e' ∧ w_ = [cRu v d (a 0) false, cEn v d e', cPg v a n f]) 0 0 := by
  refine mm_int (by decide) (Nat.le_of_ble_eq_true rfl) [(0, .ref (d 0)), (1, .int (nI s))] rfl (fun k X E => ?_)
  have hn12 := hW.1
  have hEr := EE_rng hW hs
  refine g_aload_n X dX4_succeedsFrom_0 0 rfl rfl ?_
  refine g_iload_n X dX4_succeedsFrom_1 1 rfl rfl ?_
  refine g_callV (As := [.int (nI s)]) (rest := []) (wr := []) X (c_X4_endFrom l v d stl a n f P e s hW hR (hs) (hE)) f_X4_endFrom q_20_21 dX4_succeedsFrom_2 [0, 1, 2] [] rfl rfl (by decide) 0 rfl rfl rfl rfl (Nat.le_of_ble_eq_true rfl) (by decide) (fun r_ w_ hp2 => ?_)
  obtain ⟨rfl, e_1, e_1O, rfl⟩ := hp2
  show GG k _ _ [cRu v d (a 0) false, cEn v d e_1, cPg v a n f] _ _ [.int (zI (EE P n s))]
  refine g_sipush (x := nI 1000) X dX4_succeedsFrom_5 (by decide +kernel) ?_
  refine g_icmp_lt (tgt := 15) X dX4_succeedsFrom_8 (by decide) (fun c8 => ?_) (fun c8 => ?_)
  · rw [zI_nI 1000, zI_lt (by omega) (by omega) (by omega) (by omega)] at c8
    refine g_iconst (x := nI 0) X dX4_succeedsFrom_15 (by decide +kernel) ?_
    exact E dX4_succeedsFrom_16 rfl (rfl) (by decide) (by decide) (⟨bI_zero (decide_eq_false (by omega)), ⟨_, e_1O, rfl⟩⟩)
  · rw [zI_nI 1000, zI_lt (by omega) (by omega) (by omega) (by omega)] at c8
    refine g_iconst (x := nI 1) X dX4_succeedsFrom_11 (by decide +kernel) ?_
    refine g_goto (tgt := 16) X dX4_succeedsFrom_12 (by decide) ?_
    exact E dX4_succeedsFrom_16 rfl (rfl) (by decide) (by decide) (⟨bI_one (decide_eq_true (by omega)), ⟨_, e_1O, rfl⟩⟩)

set_option maxHeartbeats 4000000 in
set_option maxRecDepth 100000 in
theorem c_X4_lengthFrom (l : Launch) (v : VV) (d : Nat → Nat) (stl : Bool) (a : Nat → Nat) (n : Nat) (f : Nat → Nat → Int32) (P : Nat → S9) (e : Nat → Int32) (s : Nat) (hW : WF P n) (hR : PgR P n f) (hs : s < 512 * (n + 1)) (hE : stl = false → OKE P n e) : MI l v yX4_lengthFrom cX4_lengthFrom 5 (some .int) ({ frames := 4, cells := 0, slots := 0, locals := 97 }) [.ref (d 0), .int (nI s)] [cRu v d (a 0) stl, cEn v d e, cPg v a n f] (fun r w_ => r = (if EE P n s = -1 then zI (-1) else nI (LL P n s)) ∧ ∃ e', OKE P n e' ∧ w_ = [cRu v d (a 0) false, cEn v d e', cPg v a n f]) 0 0 := by
  refine mm_int (by decide) (Nat.le_of_ble_eq_true rfl) [(0, .ref (d 0)), (1, .int (nI s))] rfl (fun k X E => ?_)
  have hn12 := hW.1
  have hEr := EE_rng hW hs
  refine g_aload_n X dX4_lengthFrom_0 0 rfl rfl ?_
  refine g_iload_n X dX4_lengthFrom_1 1 rfl rfl ?_
  refine g_callV (As := [.int (nI s)]) (rest := []) (wr := []) X (c_X4_endFrom l v d stl a n f P e s hW hR (hs) (hE)) f_X4_endFrom q_20_21 dX4_lengthFrom_2 [0, 1, 2] [] rfl rfl (by decide) 0 rfl rfl rfl rfl (Nat.le_of_ble_eq_true rfl) (by decide) (fun r_ w_ hp2 => ?_)
  obtain ⟨rfl, e_1, e_1O, rfl⟩ := hp2
  show GG k _ _ [cRu v d (a 0) false, cEn v d e_1, cPg v a n f] _ _ [.int (zI (EE P n s))]
  generalize e_1 = e2 at e_1O ⊢
  refine g_iconst (x := zI (-1)) X dX4_lengthFrom_5 (by decide +kernel) ?_
  refine g_icmp_ne (tgt := 11) X dX4_lengthFrom_6 (by decide) (fun c6 => ?_) (fun c6 => ?_)
  · rw [zI_inj (by omega) (by omega) (by omega) (by omega)] at c6
    obtain ⟨kz, zz, hz⟩ := EE_ne c6
    refine g_iconst (x := nI 0) X dX4_lengthFrom_11 (by decide +kernel) ?_
    refine g_istore_n (lv' := [(2, .int (nI 0)), (0, .ref (d 0)), (1, .int (nI s))]) X dX4_lengthFrom_12 rfl (by decide) rfl ?_
    refine g_iload_n X dX4_lengthFrom_13 2 rfl rfl ?_
    refine g_istore_n (lv' := [(3, .int (nI s)), (2, .int (nI 0)), (0, .ref (d 0)), (1, .int (nI s))]) X dX4_lengthFrom_14 rfl (by decide) rfl ?_
    refine g_iconst (x := nI 0) X dX4_lengthFrom_15 (by decide +kernel) ?_
    refine g_istore (lv' := [(4, .int (nI 0)), (3, .int (nI s)), (2, .int (nI 0)), (0, .ref (d 0)), (1, .int (nI s))]) X dX4_lengthFrom_16 (by decide) rfl ?_
    have lp18 : ∀ (zN : Nat) (i : Nat) (x : Nat) (hx : it P n i s = some x) (zM : zN = 6656 - i), GG k 0 0 [cRu v d (a 0) false, cEn v d e2, cPg v a n f] [(4, .int (nI i)), (3, .int (nI x)), (2, .int (nI i)), (0, .ref (d 0))] 18 [] := by
      intro zN
      induction zN using Nat.strongRecOn with
      | _ zN zih =>
        have ih18 := zih
        clear zih
        intro i x hx zM
        have hxl := it_lt hW hs hx
        have hik := StpR_le hz hx
        have hkl := stp_len hW hs hz
        refine g_iload X dX4_lengthFrom_18 0 rfl ?_
        refine g_sipush (x := nI 6656) X dX4_lengthFrom_20 (by decide +kernel) ?_
        refine g_icmp_geN (tgt := 60) X dX4_lengthFrom_23 (by decide) (by omega) (by omega) (fun c23 => ?_) (fun c23 => ?_)
        · omega
        · refine g_iload_n X dX4_lengthFrom_26 1 rfl rfl ?_
          refine g_iconst (x := zI (-1)) X dX4_lengthFrom_27 (by decide +kernel) ?_
          refine g_icmp_eq (tgt := 60) X dX4_lengthFrom_28 (by decide) (fun c28 => ?_) (fun c28 => ?_)
          · exact absurd c28 (nI_nm (b := 0) (by omega) (by omega))
          · refine g_aload_n X dX4_lengthFrom_31 3 rfl rfl ?_
            refine g_get X cb4 0 q_3_6 dX4_lengthFrom_32 0 0 rfl rfl (by decide) rfl rfl ?_
            refine g_iload_n X dX4_lengthFrom_35 1 rfl rfl ?_
            refine g_callV (As := [.int (nI x)]) (rest := []) (wr := [cRu v d (a 0) false, cEn v d e2]) X (c_X3_isEnd l v a n f x (by omega) (by omega)) f_X3_isEnd q_18_19 dX4_lengthFrom_36 [2] [0, 1] rfl rfl (by decide) 0 rfl rfl rfl rfl (Nat.le_of_ble_eq_true rfl) (by decide) (fun r_ w_ hp3 => ?_)
            obtain ⟨rfl, rfl⟩ := hp3
            show GG k _ _ [cPg v a n f, cRu v d (a 0) false, cEn v d e2] _ _ [.int (bI (decide (n ≤ x / 512)))]
            refine g_pick (cs' := [cRu v d (a 0) false, cEn v d e2, cPg v a n f]) [1, 2, 0] rfl rfl ?_
            refine g_if_neB (tgt := 60) X dX4_lengthFrom_39 (by decide) (fun c39 => ?_) (fun c39 => ?_)
            · refine g_iload_n X dX4_lengthFrom_60 2 rfl rfl ?_
              exact E dX4_lengthFrom_61 rfl (rfl) (by decide) (by decide) (⟨by rw [if_neg c6, LL_end hx (of_decide_eq_true c39)], _, e_1O, rfl⟩)
            · refine g_iinc (y := nI (i + 1)) (lv' := [(2, .int (nI (i + 1))), (4, .int (nI i)), (3, .int (nI x)), (0, .ref (d 0))]) (j := 2) X dX4_lengthFrom_42 rfl (nI_add i 1) (by decide) rfl ?_
              refine g_aload_n X dX4_lengthFrom_45 3 rfl rfl ?_
              refine g_get X cb4 0 q_3_6 dX4_lengthFrom_46 0 0 rfl rfl (by decide) rfl rfl ?_
              refine g_iload_n X dX4_lengthFrom_49 2 rfl rfl ?_
              refine g_callV (As := [.int (nI x)]) (rest := []) (wr := [cRu v d (a 0) false, cEn v d e2]) X (c_X3_placeAfter l v a n f P x hW hR (by omega)) f_X3_placeAfter q_18_0 dX4_lengthFrom_50 [2] [0, 1] rfl rfl (by decide) 0 rfl rfl rfl rfl (Nat.le_of_ble_eq_true rfl) (by decide) (fun r_ w_ hp4 => ?_)
              obtain ⟨rfl, rfl⟩ := hp4
              show GG k _ _ [cPg v a n f, cRu v d (a 0) false, cEn v d e2] _ _ [.int (eo (nxt P n x))]
              refine g_pick (cs' := [cRu v d (a 0) false, cEn v d e2, cPg v a n f]) [1, 2, 0] rfl rfl ?_
              cases hnx : nxt P n x with
              | none =>
                show GG k _ _ _ _ _ (.int (zI (-1)) :: _)
                refine g_istore_n (lv' := [(3, .int (zI (-1))), (2, .int (nI (i + 1))), (4, .int (nI i)), (0, .ref (d 0))]) X dX4_lengthFrom_53 rfl (by decide) rfl ?_
                refine g_iinc (y := nI (i + 1)) (lv' := [(4, .int (nI (i + 1))), (3, .int (zI (-1))), (2, .int (nI (i + 1))), (0, .ref (d 0))]) (j := 2) X dX4_lengthFrom_54 rfl (nI_add i 1) (by decide) rfl ?_
                refine g_goto (tgt := 18) X dX4_lengthFrom_57 (by decide) ?_
                have hxl := it_lt hW hs hx
                have hik := StpR_le hz hx
                have hkl := stp_len hW hs hz
                refine g_iload X dX4_lengthFrom_18 0 rfl ?_
                refine g_sipush (x := nI 6656) X dX4_lengthFrom_20 (by decide +kernel) ?_
                refine g_icmp_geN (tgt := 60) X dX4_lengthFrom_23 (by decide) (by omega) (by omega) (fun c23 => ?_) (fun c23 => ?_)
                · refine g_iload_n X dX4_lengthFrom_60 2 rfl rfl ?_
                  exact E dX4_lengthFrom_61 rfl (rfl) (by decide) (by decide) (⟨by rw [if_neg c6, LL_fail hx hnx (of_decide_eq_false c39)], _, e_1O, rfl⟩)
                · refine g_iload_n X dX4_lengthFrom_26 1 rfl rfl ?_
                  refine g_iconst (x := zI (-1)) X dX4_lengthFrom_27 (by decide +kernel) ?_
                  refine g_icmp_eq (tgt := 60) X dX4_lengthFrom_28 (by decide) (fun c28 => ?_) (fun c28 => ?_)
                  · refine g_iload_n X dX4_lengthFrom_60 2 rfl rfl ?_
                    exact E dX4_lengthFrom_61 rfl (rfl) (by decide) (by decide) (⟨by rw [if_neg c6, LL_fail hx hnx (of_decide_eq_false c39)], _, e_1O, rfl⟩)
                  · exact absurd rfl c28
              | some y =>
                show GG k _ _ _ _ _ (.int (nI y) :: _)
                refine g_istore_n (lv' := [(3, .int (nI y)), (2, .int (nI (i + 1))), (4, .int (nI i)), (0, .ref (d 0))]) X dX4_lengthFrom_53 rfl (by decide) rfl ?_
                refine g_iinc (y := nI (i + 1)) (lv' := [(4, .int (nI (i + 1))), (3, .int (nI y)), (2, .int (nI (i + 1))), (0, .ref (d 0))]) (j := 2) X dX4_lengthFrom_54 rfl (nI_add i 1) (by decide) rfl ?_
                refine g_goto (tgt := 18) X dX4_lengthFrom_57 (by decide) ?_
                exact ih18 _ (by omega) (i + 1) y (it_step hx hnx) rfl
    refine g_lv (lv' := [(4, .int (nI 0)), (3, .int (nI s)), (2, .int (nI 0)), (0, .ref (d 0))]) [0, 1, 2, 3] rfl ?_
    exact lp18 _ 0 s rfl rfl
  · rw [zI_inj (by omega) (by omega) (by omega) (by omega)] at c6
    refine g_iconst (x := zI (-1)) X dX4_lengthFrom_9 (by decide +kernel) ?_
    exact E dX4_lengthFrom_10 rfl (rfl) (by decide) (by decide) (⟨by rw [if_pos c6], _, e_1O, rfl⟩)


