/-! ## Judgement: count, refresh -/
set_option maxHeartbeats 4000000 in
set_option maxRecDepth 100000 in
theorem c_X2_countRun (l : Launch) (v : VV) (j : Nat → Nat) (pa : Nat) (ba : Nat) (ra : Nat) (jst : Bool) (lo : Nat → Nat) (hi : Nat → Nat) (P : Nat → S9) (n : Nat) (ex : Nat → Int32) (t : Nat) (hW : WF P n) (ht : t < 512) (ha : ab9 lo hi (-1) t = true) (hX : ExR lo hi P n t ex) : MU l v yX2_countRun cX2_countRun 3 none ({ frames := 0, cells := 0, slots := 0, locals := 0 }) [.ref (j 0), .int (nI t), .int (zI (EE P n t))] [cJu v j pa ba ra (ctb (jE lo hi P n) t) (ctb (jF lo hi P n) t) (ctb (jS lo hi P n) t) jst, cEx v j ex] (fun _ w_ => ∃ ex', ExR lo hi P n (t + 1) ex' ∧ w_ = [cJu v j pa ba ra (ctb (jE lo hi P n) (t + 1)) (ctb (jF lo hi P n) (t + 1)) (ctb (jS lo hi P n) (t + 1)) jst, cEx v j ex']) 0 0 := by
  refine mm_void rfl (by decide) (Nat.le_of_ble_eq_true rfl) [(0, .ref (j 0)), (1, .int (nI t)), (2, .int (zI (EE P n t)))] rfl (fun k X hin E => ?_)
  have hr := EE_rng hW (show t < 512 * (n + 1) by omega)
  obtain ⟨hj1, hj2, hj3⟩ := j_all (lo := lo) (hi := hi) (P := P) (n := n) ha
  refine g_iload_n X dX2_countRun_0 2 rfl rfl ?_
  refine g_sipush (x := nI 1000) X dX2_countRun_1 (by decide +kernel) ?_
  refine g_icmp_lt (tgt := 20) X dX2_countRun_4 (by decide) (fun c4 => ?_) (fun c4 => ?_)
  · rw [zI_nI 1000, zI_lt (by omega) (by omega) (by omega) (by omega)] at c4
    refine g_iload_n X dX2_countRun_20 2 rfl rfl ?_
    refine g_iconst (x := zI (-1)) X dX2_countRun_21 (by decide +kernel) ?_
    refine g_icmp_ne (tgt := 38) X dX2_countRun_22 (by decide) (fun c22 => ?_) (fun c22 => ?_)
    · rw [zI_inj (by omega) (by omega) (by omega) (by omega)] at c22
      refine g_aload_n X dX2_countRun_38 0 rfl rfl ?_
      refine g_dup X dX2_countRun_39 rfl ?_
      refine g_get X cb2 7 q_17_0 dX2_countRun_40 0 0 rfl rfl (by decide) rfl rfl ?_
      refine g_iconst (x := nI 1) X dX2_countRun_43 (by decide +kernel) ?_
      refine g_iaddN X dX2_countRun_44 ?_
      refine g_put (cs' := [[((j 0), .inr (2, [.ref pa, .ref ba, .ref ra, .ref (j 1), .ref (j 2), .ref (j 3), .int (nI (ctb (jE lo hi P n) t)), .int (nI ((ctb (jF lo hi P n) t) + 1)), .int (nI (ctb (jS lo hi P n) t)), .ref (j 4), .int (bI jst)]))], cEx v j ex]) X cb2 7 q_17_0 dX2_countRun_45 0 0 rfl rfl (by decide) rfl rfl (rfl) (rfl) (Nat.le_of_ble_eq_true rfl) rfl ?_
      have hlt := EE_fail hW (show t < 512 * (n + 1) by omega) (by omega) (by omega)
      have hn12 := hW.1
      obtain ⟨c0, hc0⟩ : ∃ c0 : Nat, EE P n t = (c0 : Int) := ⟨(EE P n t).toNat, by omega⟩
      obtain ⟨xx, hxx, hxm⟩ := hX c0 (by omega)
      have hxr := hxm.rng
      refine g_aload_n X dX2_countRun_48 0 rfl rfl ?_
      refine g_get X cb2 3 q_3_11 dX2_countRun_49 0 0 rfl rfl (by decide) rfl rfl ?_
      refine g_iload_n X dX2_countRun_52 2 rfl rfl ?_
      refine g_v (y := nI c0) (by rw [hc0, zI_nI]) ?_
      refine g_iald X dX2_countRun_53 1 0 rfl rfl (by omega) (by omega) ?_
      refine g_v (y := zI xx) (hxx) ?_
      refine g_iconst (x := zI (-1)) X dX2_countRun_54 (by decide +kernel) ?_
      refine g_icmp_ne (tgt := 65) X dX2_countRun_55 (by decide) (fun c55 => ?_) (fun c55 => ?_)
      · rw [zI_inj (by omega) (by omega) (by omega) (by omega)] at c55
        exact E dX2_countRun_65 (by decide) (by decide) (⟨ex, ExR_keep hX hc0 hxx hxm c55, by rw [ctb_f (hj1.trans (decide_eq_false (by omega))), ctb_t (hj2.trans (decide_eq_true (by omega))), ctb_f (hj3.trans (decide_eq_false (by omega)))]⟩)
      · rw [zI_inj (by omega) (by omega) (by omega) (by omega)] at c55
        refine g_aload_n X dX2_countRun_58 0 rfl rfl ?_
        refine g_get X cb2 3 q_3_11 dX2_countRun_59 0 0 rfl rfl (by decide) rfl rfl ?_
        refine g_iload_n X dX2_countRun_62 2 rfl rfl ?_
        refine g_v (y := nI c0) (by rw [hc0, zI_nI]) ?_
        refine g_iload_n X dX2_countRun_63 1 rfl rfl ?_
        refine g_iast (cs' := [[((j 0), .inr (2, [.ref pa, .ref ba, .ref ra, .ref (j 1), .ref (j 2), .ref (j 3), .int (nI (ctb (jE lo hi P n) t)), .int (nI ((ctb (jF lo hi P n) t) + 1)), .int (nI (ctb (jS lo hi P n) t)), .ref (j 4), .int (bI jst)]))], [((j 1), .inl (v.2.1 0, 12, .inl (upd ex c0 (nI t))))]]) X dX2_countRun_64 1 0 rfl rfl (by omega) (by omega) rfl ?_
        exact E dX2_countRun_65 (by decide) (by decide) (⟨upd ex c0 (nI t), ExR_set hX ha hc0 hxm c55, by rw [ctb_f (hj1.trans (decide_eq_false (by omega))), ctb_t (hj2.trans (decide_eq_true (by omega))), ctb_f (hj3.trans (decide_eq_false (by omega)))]⟩)
    · rw [zI_inj (by omega) (by omega) (by omega) (by omega)] at c22
      refine g_aload_n X dX2_countRun_25 0 rfl rfl ?_
      refine g_dup X dX2_countRun_26 rfl ?_
      refine g_get X cb2 6 q_16_23 dX2_countRun_27 0 0 rfl rfl (by decide) rfl rfl ?_
      refine g_iconst (x := nI 1) X dX2_countRun_30 (by decide +kernel) ?_
      refine g_iaddN X dX2_countRun_31 ?_
      refine g_put (cs' := [[((j 0), .inr (2, [.ref pa, .ref ba, .ref ra, .ref (j 1), .ref (j 2), .ref (j 3), .int (nI ((ctb (jE lo hi P n) t) + 1)), .int (nI (ctb (jF lo hi P n) t)), .int (nI (ctb (jS lo hi P n) t)), .ref (j 4), .int (bI jst)]))], cEx v j ex]) X cb2 6 q_16_23 dX2_countRun_32 0 0 rfl rfl (by decide) rfl rfl (rfl) (rfl) (Nat.le_of_ble_eq_true rfl) rfl ?_
      refine g_goto (tgt := 65) X dX2_countRun_35 (by decide) ?_
      exact E dX2_countRun_65 (by decide) (by decide) (⟨ex, ExR_no hX (fun c hc => by omega), by rw [ctb_t (hj1.trans (decide_eq_true (by omega))), ctb_f (hj2.trans (decide_eq_false (by omega))), ctb_f (hj3.trans (decide_eq_false (by omega)))]⟩)
  · rw [zI_nI 1000, zI_lt (by omega) (by omega) (by omega) (by omega)] at c4
    refine g_aload_n X dX2_countRun_7 0 rfl rfl ?_
    refine g_dup X dX2_countRun_8 rfl ?_
    refine g_get X cb2 8 q_17_1 dX2_countRun_9 0 0 rfl rfl (by decide) rfl rfl ?_
    refine g_iconst (x := nI 1) X dX2_countRun_12 (by decide +kernel) ?_
    refine g_iaddN X dX2_countRun_13 ?_
    refine g_put (cs' := [[((j 0), .inr (2, [.ref pa, .ref ba, .ref ra, .ref (j 1), .ref (j 2), .ref (j 3), .int (nI (ctb (jE lo hi P n) t)), .int (nI (ctb (jF lo hi P n) t)), .int (nI ((ctb (jS lo hi P n) t) + 1)), .ref (j 4), .int (bI jst)]))], cEx v j ex]) X cb2 8 q_17_1 dX2_countRun_14 0 0 rfl rfl (by decide) rfl rfl (rfl) (rfl) (Nat.le_of_ble_eq_true rfl) rfl ?_
    refine g_goto (tgt := 65) X dX2_countRun_17 (by decide) ?_
    exact E dX2_countRun_65 (by decide) (by decide) (⟨ex, ExR_no hX (fun c hc => by omega), by rw [ctb_f (hj1.trans (decide_eq_false (by omega))), ctb_f (hj2.trans (decide_eq_false (by omega))), ctb_t (hj3.trans (decide_eq_true (by omega)))]⟩)

set_option maxHeartbeats 4000000 in
set_option maxRecDepth 100000 in
theorem c_X2_refresh (l : Launch) (v : VV) (j : Nat → Nat) (x : Nat) (y : Nat) (z : Nat) (jst : Bool) (ex : Nat → Int32) (lw : Nat → Int32) (hg : Nat → Int32) (vs : Nat → Int64) (a : Nat → Nat) (n : Nat) (f : Nat → Nat → Int32) (P : Nat → S9) (b : Nat → Nat) (g : Nat → Nat → Int32) (lo : Nat → Nat) (hi : Nat → Nat) (d : Nat → Nat) (stl : Bool) (e : Nat → Int32) (hW : WF P n) (hR : PgR P n f) (hL : AsW lo hi) (hG : AsR lo hi g) (hE : stl = false → OKE P n e) (hJ : jst = false → JOK lo hi P n x y z ex lw hg) : MU l v yX2_refresh cX2_refresh 2 none ({ frames := 4, cells := 0, slots := 0, locals := 97 }) [.ref (j 0)] [cJu v j (a 0) (b 0) (d 0) x y z jst, cEx v j ex, cLo v j lw, cHi v j hg, cVi v j vs, cPg v a n f, cAs v b g, cRu v d (a 0) stl, cEn v d e] (fun _ w_ => ∃ x' y' z' ex' lw' hg' vs' stl' e', JOK lo hi P n x' y' z' ex' lw' hg' ∧ (stl' = false → OKE P n e') ∧ w_ = [cJu v j (a 0) (b 0) (d 0) x' y' z' false, cEx v j ex', cLo v j lw', cHi v j hg', cVi v j vs', cPg v a n f, cAs v b g, cRu v d (a 0) stl', cEn v d e']) 0 0 := by
  refine mm_void rfl (by decide) (Nat.le_of_ble_eq_true rfl) [(0, .ref (j 0))] rfl (fun k X hin E => ?_)
  have hn12 := hW.1
  refine g_aload_n X dX2_refresh_0 0 rfl rfl ?_
  refine g_get X cb2 10 q_3_16 dX2_refresh_1 0 0 rfl rfl (by decide) rfl rfl ?_
  refine g_if_neB (tgt := 8) X dX2_refresh_4 (by decide) (fun c4 => ?_) (fun c4 => ?_)
  · subst c4
    refine g_aload_n X dX2_refresh_8 0 rfl rfl ?_
    refine g_callV (As := []) (rest := []) (wr := [cPg v a n f, cAs v b g, cRu v d (a 0) stl, cEn v d e]) X (c_X2_clear l v j (a 0) (b 0) (d 0) x y z true ex lw hg vs) f_X2_clear q_16_19 dX2_refresh_9 [0, 1, 2, 3, 4] [5, 6, 7, 8] rfl rfl (by decide) 0 rfl rfl rfl rfl (Nat.le_of_ble_eq_true rfl) (by decide) (fun r_ w_ hp2 => ?_)
    obtain ⟨cl1e, cl1l, cl1h, cl1v, cl1E, cl1L, cl1H, cl1V, rfl⟩ := hp2
    show GG k _ _ [cJu v j (a 0) (b 0) (d 0) 0 0 0 true, cEx v j cl1e, cLo v j cl1l, cHi v j cl1h, cVi v j cl1v, cPg v a n f, cAs v b g, cRu v d (a 0) stl, cEn v d e] _ _ []
    refine g_iconst (x := nI 0) X dX2_refresh_12 (by decide +kernel) ?_
    refine g_istore_n (lv' := [(1, .int (nI 0)), (0, .ref (j 0))]) X dX2_refresh_13 rfl (by decide) rfl ?_
    have lp14 : ∀ (zN : Nat) (T : Nat) (ex' : Nat → Int32) (lw' : Nat → Int32) (hg' : Nat → Int32) (vs' : Nat → Int64) (stl' : Bool) (e' : Nat → Int32) (hT : T ≤ 512) (hX : ExR lo hi P n T ex') (hl : LoR (RV lo hi P n T) lw') (hh : HiR (RV lo hi P n T) hg') (hB : BitR (RV lo hi P n T) vs') (hE2 : stl' = false → OKE P n e') (zM : zN = 512 - T), GG k 0 0 [cJu v j (a 0) (b 0) (d 0) (ctb (jE lo hi P n) T) (ctb (jF lo hi P n) T) (ctb (jS lo hi P n) T) true, cEx v j ex', cLo v j lw', cHi v j hg', cVi v j vs', cPg v a n f, cAs v b g, cRu v d (a 0) stl', cEn v d e'] [(1, .int (nI T)), (0, .ref (j 0))] 14 [] := by
      intro zN
      induction zN using Nat.strongRecOn with
      | _ zN zih =>
        have ih14 := zih
        clear zih
        intro T ex' lw' hg' vs' stl' e' hT hX hl hh hB hE2 zM
        refine g_iload_n X dX2_refresh_14 0 rfl rfl ?_
        refine g_sipush (x := nI 512) X dX2_refresh_15 (by decide +kernel) ?_
        refine g_icmp_geN (tgt := 56) X dX2_refresh_18 (by decide) (by omega) (by omega) (fun c18 => ?_) (fun c18 => ?_)
        · have hT5 : T = 512 := by omega
          subst hT5
          refine g_aload_n X dX2_refresh_56 1 rfl rfl ?_
          refine g_iconst (x := nI 0) X dX2_refresh_57 (by decide +kernel) ?_
          refine g_put (cs' := [[((j 0), .inr (2, [.ref (a 0), .ref (b 0), .ref (d 0), .ref (j 1), .ref (j 2), .ref (j 3), .int (nI (ctb (jE lo hi P n) 512)), .int (nI (ctb (jF lo hi P n) 512)), .int (nI (ctb (jS lo hi P n) 512)), .ref (j 4), .int (nI 0)]))], cEx v j ex', cLo v j lw', cHi v j hg', cVi v j vs', cPg v a n f, cAs v b g, cRu v d (a 0) stl', cEn v d e']) X cb2 10 q_3_16 dX2_refresh_58 0 0 rfl rfl (by decide) rfl rfl (rfl) (rfl) (Nat.le_of_ble_eq_true rfl) rfl ?_
          exact E dX2_refresh_61 (by decide) (by decide) (⟨_, _, _, ex', lw', hg', vs', stl', e', ⟨rfl, rfl, rfl, hX, hl, hh⟩, hE2, rfl⟩)
        · refine g_aload_n X dX2_refresh_21 1 rfl rfl ?_
          refine g_get X cb2 1 q_3_18 dX2_refresh_22 0 0 rfl rfl (by decide) rfl rfl ?_
          refine g_iload_n X dX2_refresh_25 0 rfl rfl ?_
          refine g_callV (As := [.int (nI T)]) (rest := []) (wr := [cJu v j (a 0) (b 0) (d 0) (ctb (jE lo hi P n) T) (ctb (jF lo hi P n) T) (ctb (jS lo hi P n) T) true, cEx v j ex', cLo v j lw', cHi v j hg', cVi v j vs', cPg v a n f, cRu v d (a 0) stl', cEn v d e']) X (c_X0_allows l v b g lo hi T hL hG (by omega)) f_X0_allows q_17_9 dX2_refresh_26 [6] [0, 1, 2, 3, 4, 5, 7, 8] rfl rfl (by decide) 0 rfl rfl rfl rfl (Nat.le_of_ble_eq_true rfl) (by decide) (fun r_ w_ hp3 => ?_)
          obtain ⟨rfl, rfl⟩ := hp3
          show GG k _ _ [cAs v b g, cJu v j (a 0) (b 0) (d 0) (ctb (jE lo hi P n) T) (ctb (jF lo hi P n) T) (ctb (jS lo hi P n) T) true, cEx v j ex', cLo v j lw', cHi v j hg', cVi v j vs', cPg v a n f, cRu v d (a 0) stl', cEn v d e'] _ _ [.int (bI (ab9 lo hi (-1) T))]
          refine g_pick (cs' := [cJu v j (a 0) (b 0) (d 0) (ctb (jE lo hi P n) T) (ctb (jF lo hi P n) T) (ctb (jS lo hi P n) T) true, cEx v j ex', cLo v j lw', cHi v j hg', cVi v j vs', cPg v a n f, cAs v b g, cRu v d (a 0) stl', cEn v d e']) [1, 2, 3, 4, 5, 6, 0, 7, 8] rfl rfl ?_
          refine g_if_eqB (tgt := 50) X dX2_refresh_29 (by decide) (fun c29 => ?_) (fun c29 => ?_)
          · obtain ⟨hn1, hn2, hn3⟩ := j_no (lo := lo) (hi := hi) (P := P) (n := n) c29
            have hab := c29
            refine g_cs (cs' := [cJu v j (a 0) (b 0) (d 0) (ctb (jE lo hi P n) (T + 1)) (ctb (jF lo hi P n) (T + 1)) (ctb (jS lo hi P n) (T + 1)) true, cEx v j ex', cLo v j lw', cHi v j hg', cVi v j vs', cPg v a n f, cAs v b g, cRu v d (a 0) stl', cEn v d e']) (by rw [ctb_f hn1, ctb_f hn2, ctb_f hn3]) ?_
            refine g_iinc (y := nI (T + 1)) (lv' := [(1, .int (nI (T + 1))), (0, .ref (j 0))]) (j := 0) X dX2_refresh_50 rfl (nI_add T 1) (by decide) rfl ?_
            refine g_goto (tgt := 14) X dX2_refresh_53 (by decide) ?_
            exact ih14 _ (by omega) (T + 1) ex' lw' hg' vs' stl' e' (by omega) (ExR_skip hX hab) (hl.cong (RV_out hab)) (hh.cong (RV_out hab)) (hB.cong (RV_out hab)) hE2 rfl
          · have hab := c29
            refine g_aload_n X dX2_refresh_32 1 rfl rfl ?_
            refine g_iload_n X dX2_refresh_33 0 rfl rfl ?_
            refine g_aload_n X dX2_refresh_34 1 rfl rfl ?_
            refine g_get X cb2 2 q_3_19 dX2_refresh_35 0 0 rfl rfl (by decide) rfl rfl ?_
            refine g_iload_n X dX2_refresh_38 0 rfl rfl ?_
            refine g_callV (As := [.int (nI T)]) (rest := [.int (nI T), .ref (j 0)]) (wr := [cJu v j (a 0) (b 0) (d 0) (ctb (jE lo hi P n) T) (ctb (jF lo hi P n) T) (ctb (jS lo hi P n) T) true, cEx v j ex', cLo v j lw', cHi v j hg', cVi v j vs', cAs v b g]) X (c_X4_endFrom l v d stl' a n f P e' T hW hR (by omega) (hE2)) f_X4_endFrom q_17_19 dX2_refresh_39 [7, 8, 5] [0, 1, 2, 3, 4, 6] rfl rfl (by decide) 0 rfl rfl rfl rfl (Nat.le_of_ble_eq_true rfl) (by decide) (fun r_ w_ hp5 => ?_)
            obtain ⟨rfl, e_4, e_4O, rfl⟩ := hp5
            show GG k _ _ [cRu v d (a 0) false, cEn v d e_4, cPg v a n f, cJu v j (a 0) (b 0) (d 0) (ctb (jE lo hi P n) T) (ctb (jF lo hi P n) T) (ctb (jS lo hi P n) T) true, cEx v j ex', cLo v j lw', cHi v j hg', cVi v j vs', cAs v b g] _ _ [.int (zI (EE P n T)), .int (nI T), .ref (j 0)]
            refine g_pick (cs' := [cJu v j (a 0) (b 0) (d 0) (ctb (jE lo hi P n) T) (ctb (jF lo hi P n) T) (ctb (jS lo hi P n) T) true, cEx v j ex', cLo v j lw', cHi v j hg', cVi v j vs', cPg v a n f, cAs v b g, cRu v d (a 0) false, cEn v d e_4]) [3, 4, 5, 6, 7, 2, 8, 0, 1] rfl rfl ?_
            refine g_callV (As := [.int (nI T), .int (zI (EE P n T))]) (rest := []) (wr := [cLo v j lw', cHi v j hg', cVi v j vs', cPg v a n f, cAs v b g, cRu v d (a 0) false, cEn v d e_4]) X (c_X2_countRun l v j (a 0) (b 0) (d 0) true lo hi P n ex' T hW (by omega) hab hX) f_X2_countRun q_19_3 dX2_refresh_42 [0, 1] [2, 3, 4, 5, 6, 7, 8] rfl rfl (by decide) 0 rfl rfl rfl rfl (Nat.le_of_ble_eq_true rfl) (by decide) (fun r_ w_ hp7 => ?_)
            obtain ⟨cr6, cr6X, rfl⟩ := hp7
            show GG k _ _ [cJu v j (a 0) (b 0) (d 0) (ctb (jE lo hi P n) (T + 1)) (ctb (jF lo hi P n) (T + 1)) (ctb (jS lo hi P n) (T + 1)) true, cEx v j cr6, cLo v j lw', cHi v j hg', cVi v j vs', cPg v a n f, cAs v b g, cRu v d (a 0) false, cEn v d e_4] _ _ []
            refine g_aload_n X dX2_refresh_45 1 rfl rfl ?_
            refine g_iload_n X dX2_refresh_46 0 rfl rfl ?_
            refine g_callV (As := [.int (nI T)]) (rest := []) (wr := [cEx v j cr6, cAs v b g, cRu v d (a 0) false, cEn v d e_4]) X (c_X2_followRun l v j (b 0) (d 0) (ctb (jE lo hi P n) (T + 1)) (ctb (jF lo hi P n) (T + 1)) (ctb (jS lo hi P n) (T + 1)) true a n f P lw' hg' vs' (RV lo hi P n T) T hW hR (by omega) (RV_cl T) hl hh hB) f_X2_followRun q_19_7 dX2_refresh_47 [0, 2, 3, 4, 5] [1, 6, 7, 8] rfl rfl (by decide) 0 rfl rfl rfl rfl (Nat.le_of_ble_eq_true rfl) (by decide) (fun r_ w_ hp9 => ?_)
            obtain ⟨fr8l, fr8h, fr8v, fr8L, fr8H, fr8V, rfl⟩ := hp9
            show GG k _ _ [cJu v j (a 0) (b 0) (d 0) (ctb (jE lo hi P n) (T + 1)) (ctb (jF lo hi P n) (T + 1)) (ctb (jS lo hi P n) (T + 1)) true, cLo v j fr8l, cHi v j fr8h, cVi v j fr8v, cPg v a n f, cEx v j cr6, cAs v b g, cRu v d (a 0) false, cEn v d e_4] _ _ []
            refine g_pick (cs' := [cJu v j (a 0) (b 0) (d 0) (ctb (jE lo hi P n) (T + 1)) (ctb (jF lo hi P n) (T + 1)) (ctb (jS lo hi P n) (T + 1)) true, cEx v j cr6, cLo v j fr8l, cHi v j fr8h, cVi v j fr8v, cPg v a n f, cAs v b g, cRu v d (a 0) false, cEn v d e_4]) [0, 5, 1, 2, 3, 4, 6, 7, 8] rfl rfl ?_
            refine g_iinc (y := nI (T + 1)) (lv' := [(1, .int (nI (T + 1))), (0, .ref (j 0))]) (j := 0) X dX2_refresh_50 rfl (nI_add T 1) (by decide) rfl ?_
            refine g_goto (tgt := 14) X dX2_refresh_53 (by decide) ?_
            exact ih14 _ (by omega) (T + 1) cr6 fr8l fr8h fr8v false e_4 (by omega) cr6X (fr8L.cong (RV_in hab)) (fr8H.cong (RV_in hab)) (fr8V.cong (RV_in hab)) (fun _ => e_4O) rfl
    exact lp14 _ 0 cl1e cl1l cl1h cl1v stl e (by omega) (ExR_0 cl1E) (LoR_0 cl1L) (HiR_0 cl1H) (BitR_0 cl1V) hE rfl
  · have c4b : jst = false := c4
    exact E dX2_refresh_7 (by decide) (by decide) (⟨x, y, z, ex, lw, hg, vs, stl, e, hJ c4b, hE, by rw [c4b]⟩)


