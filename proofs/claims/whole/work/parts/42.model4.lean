/-! ## the model: how runs end -/
theorem nxt_nx {P : Nat → S9} {n p : Nat} (h : p / 512 < n) : nxt P n p = nx P p := if_neg (Nat.not_le.mpr h)
/-- the ends' places are worked out -/
def EnK (n : Nat) (f : Nat → Int32) : Prop := ∀ q, q < 512 * (n + 1) → q / 512 = n → f q = nI (1000 + q % 512)
def Kpt (n : Nat) (f f' : Nat → Int32) : Prop := ∀ q, q < 512 * (n + 1) → f q ≠ zI (-2) → f' q ≠ zI (-2)
theorem EnK_upd {n p : Nat} {f : Nat → Int32} {x : Int32} (h : EnK n f) (hp : p / 512 < n) : EnK n (upd f p x) := fun q hq z => (pk_un (fun e => by subst e; omega)).trans (h q hq z)
theorem Kpt_upd {n p : Nat} {f f' : Nat → Int32} {x : Int32} (h : Kpt n f f') (hx : x ≠ zI (-2)) : Kpt n f (upd f' p x) := fun q hq z => by
  by_cases e : q = p
  · subst e; rw [pk_us]; exact hx
  · rw [pk_un e]; exact h q hq z
theorem z32 : zI (-3) ≠ zI (-2) := by decide +kernel
theorem EnK_no {n p : Nat} {f : Nat → Int32} (h : EnK n f) (hp : p < 512 * (n + 1)) (hn : n ≤ 12) {b : Nat} (hf : f p = zI (-((b + 1 : Nat) : Int))) (hb : b < 2147483648) : p / 512 < n := by
  rcases Nat.lt_or_ge (p / 512) n with c | c
  · exact c
  · rw [h p hp (by omega)] at hf
    exact absurd hf (nI_nm (by omega) hb)

set_option maxHeartbeats 4000000 in
set_option maxRecDepth 100000 in
theorem c_X7_follows (l : Launch) (v : VV) (mo : Nat → Nat) (th : Int32) (sm : Nat) (ln : Nat) (rm : Int32) (fa : Int32) (sp : Int32) (wr : Int32) (dd : Int64) (P : Nat → S9) (n : Nat) (lo : Nat → Nat) (hi : Nat → Nat) (fs : Nat → Int32) (fe : Nat → Int32) (s : Nat) (hW : WF P n) (hS : SR P n lo hi fs) (hs : s < 512 * (n + 1)) (hO : OKE P n fe) (hE : EnK n fe) : MU l v yX7_follows cX7_follows 5 none ({ frames := 4, cells := 0, slots := 0, locals := 93 }) [.ref (mo 0), .int (nI s)] [[((mo 0), .inr (7, [.int th, .ref (mo 1), .ref (mo 2), .int (nI sm), .ref (mo 3), .int (nI ln), .ref (mo 4), .int rm, .int fa, .ref (mo 5), .ref (mo 6), .int sp, .int wr, .long dd]))], cMs v mo fs, cMe v mo fe] (fun _ w_ => ∃ fe', OKE P n fe' ∧ EnK n fe' ∧ Kpt n fe fe' ∧ fe' s ≠ zI (-2) ∧ w_ = [[((mo 0), .inr (7, [.int th, .ref (mo 1), .ref (mo 2), .int (nI sm), .ref (mo 3), .int (nI ln), .ref (mo 4), .int rm, .int fa, .ref (mo 5), .ref (mo 6), .int sp, .int wr, .long dd]))], cMs v mo fs, cMe v mo fe']) 0 0 := by
  refine mm_void rfl (by decide) (Nat.le_of_ble_eq_true rfl) [(0, .ref (mo 0)), (1, .int (nI s))] rfl (fun k X hin E => ?_)
  have hn12 := hW.1
  refine g_iload_n X dX7_follows_0 1 rfl rfl ?_
  refine g_istore_n (lv' := [(2, .int (nI s)), (0, .ref (mo 0)), (1, .int (nI s))]) X dX7_follows_1 rfl (by decide) rfl ?_
  refine g_iload_n X dX7_follows_2 2 rfl rfl ?_
  refine g_istore_n (lv' := [(3, .int (nI s)), (2, .int (nI s)), (0, .ref (mo 0)), (1, .int (nI s))]) X dX7_follows_3 rfl (by decide) rfl ?_
  have lp4 : ∀ (zN : Nat) (j : Nat) (p : Nat) (b : Nat) (fe' : Nat → Int32) (hp : it P n j s = some p) (hF : FI P n s 0 j fe') (hKe : EnK n fe') (hKk : Kpt n fe fe') (zM : zN = 6657 - j), GG k 0 0 [[((mo 0), .inr (7, [.int th, .ref (mo 1), .ref (mo 2), .int (nI sm), .ref (mo 3), .int (nI ln), .ref (mo 4), .int rm, .int fa, .ref (mo 5), .ref (mo 6), .int sp, .int wr, .long dd]))], cMs v mo fs, cMe v mo fe'] [(2, .int (nI p)), (3, .int (nI b)), (0, .ref (mo 0)), (1, .int (nI s))] 4 [] := by
    intro zN
    induction zN using Nat.strongRecOn with
    | _ zN zih =>
      have ih4 := zih
      clear zih
      intro j p b fe' hp hF hKe hKk zM
      have hpl := it_lt hW hs hp
      refine g_iload_n X dX7_follows_4 0 rfl rfl ?_
      refine g_iconst (x := zI (-1)) X dX7_follows_5 (by decide +kernel) ?_
      refine g_icmp_eq (tgt := 47) X dX7_follows_6 (by decide) (fun c6 => ?_) (fun c6 => ?_)
      · rw [zI_nI p, zI_inj (by omega) (by omega) (by omega) (by omega)] at c6
        omega
      · rw [zI_nI p, zI_inj (by omega) (by omega) (by omega) (by omega)] at c6
        refine g_aload_n X dX7_follows_9 2 rfl rfl ?_
        refine g_get X cb7 9 q_4_22 dX7_follows_10 0 0 rfl rfl (by decide) rfl rfl ?_
        refine g_iload_n X dX7_follows_13 0 rfl rfl ?_
        refine g_iald X dX7_follows_14 2 0 rfl rfl (by omega) (by omega) ?_
        refine g_bipush (x := zI (-2)) X dX7_follows_15 (by decide +kernel) ?_
        refine g_icmp_ne (tgt := 47) X dX7_follows_17 (by decide) (fun c17 => ?_) (fun c17 => ?_)
        · refine g_iload_n X dX7_follows_47 0 rfl rfl ?_
          refine g_iconst (x := zI (-1)) X dX7_follows_48 (by decide +kernel) ?_
          refine g_icmp_ne (tgt := 60) X dX7_follows_49 (by decide) (fun c49 => ?_) (fun c49 => ?_)
          · rw [zI_nI p, zI_inj (by omega) (by omega) (by omega) (by omega)] at c49
            refine g_aload_n X dX7_follows_60 2 rfl rfl ?_
            refine g_iload_n X dX7_follows_61 0 rfl rfl ?_
            refine g_callV (As := [.int (nI p)]) (rest := []) (wr := [cMe v mo fe']) X (c_X7_isEnd l v mo th sm ln rm fa sp wr dd P n lo hi fs p hW hS (by omega)) f_X7_isEnd q_22_14 dX7_follows_62 [0, 1] [2] rfl rfl (by decide) 0 rfl rfl rfl rfl (Nat.le_of_ble_eq_true rfl) (by decide) (fun r_ w_ hp1 => ?_)
            obtain ⟨rfl, rfl⟩ := hp1
            show GG k _ _ [[((mo 0), .inr (7, [.int th, .ref (mo 1), .ref (mo 2), .int (nI sm), .ref (mo 3), .int (nI ln), .ref (mo 4), .int rm, .int fa, .ref (mo 5), .ref (mo 6), .int sp, .int wr, .long dd]))], cMs v mo fs, cMe v mo fe'] _ _ [.int (bI (decide (p / 512 = n)))]
            refine g_if_eqB (tgt := 80) X dX7_follows_65 (by decide) (fun c65 => ?_) (fun c65 => ?_)
            · refine g_aload_n X dX7_follows_80 2 rfl rfl ?_
              refine g_get X cb7 9 q_4_22 dX7_follows_81 0 0 rfl rfl (by decide) rfl rfl ?_
              refine g_iload_n X dX7_follows_84 0 rfl rfl ?_
              refine g_iald X dX7_follows_85 2 0 rfl rfl (by omega) (by omega) ?_
              refine g_bipush (x := zI (-3)) X dX7_follows_86 (by decide +kernel) ?_
              refine g_icmp_ne (tgt := 95) X dX7_follows_88 (by decide) (fun c88 => ?_) (fun c88 => ?_)
              · refine g_aload_n X dX7_follows_95 2 rfl rfl ?_
                refine g_get X cb7 9 q_4_22 dX7_follows_96 0 0 rfl rfl (by decide) rfl rfl ?_
                refine g_iload_n X dX7_follows_99 0 rfl rfl ?_
                refine g_iald X dX7_follows_100 2 0 rfl rfl (by omega) (by omega) ?_
                refine g_v (y := zI (EE P n s)) (by have h9 := FI_val hW hs hF hp c17; rw [if_neg c88] at h9; exact h9) ?_
                have hF2 := hF
                have hKe2 := hKe
                have hKk2 := hKk
                have hN2 := FI_start hF hp c17
                have hJ2 : ∀ i, i < j → ∃ z, it P n i s = some z := fun i h => it_pre hp i (by omega)
                refine g_istore (lv' := [(4, .int (zI (EE P n s))), (2, .int (nI p)), (3, .int (nI b)), (0, .ref (mo 0)), (1, .int (nI s))]) X dX7_follows_101 (by decide) rfl ?_
                refine g_iload_n X dX7_follows_103 4 rfl rfl ?_
                refine g_istore_n (lv' := [(2, .int (nI s)), (4, .int (zI (EE P n s))), (3, .int (nI b)), (0, .ref (mo 0)), (1, .int (nI s))]) X dX7_follows_104 rfl (by decide) rfl ?_
                have lp105 : ∀ (zN : Nat) (i : Nat) (x : Nat) (f2 : Nat → Int32) (hx : it P n i s = some x) (hiJ : i ≤ j) (hG : FI P n s i j f2) (hGe : EnK n f2) (hGk : Kpt n fe f2) (hGn : f2 s ≠ zI (-2)) (zM : zN = j + 1 - i), GG k 0 0 [[((mo 0), .inr (7, [.int th, .ref (mo 1), .ref (mo 2), .int (nI sm), .ref (mo 3), .int (nI ln), .ref (mo 4), .int rm, .int fa, .ref (mo 5), .ref (mo 6), .int sp, .int wr, .long dd]))], cMs v mo fs, cMe v mo f2] [(2, .int (nI x)), (4, .int (zI (EE P n s))), (0, .ref (mo 0)), (1, .int (nI s))] 105 [] := by
                  intro zN
                  induction zN using Nat.strongRecOn with
                  | _ zN zih =>
                    have ih105 := zih
                    clear zih
                    intro i x f2 hx hiJ hG hGe hGk hGn zM
                    have hxl := it_lt hW hs hx
                    refine g_iload_n X dX7_follows_105 0 rfl rfl ?_
                    refine g_iconst (x := zI (-1)) X dX7_follows_106 (by decide +kernel) ?_
                    refine g_icmp_eq (tgt := 138) X dX7_follows_107 (by decide) (fun c107 => ?_) (fun c107 => ?_)
                    · rw [zI_nI x, zI_inj (by omega) (by omega) (by omega) (by omega)] at c107
                      omega
                    · rw [zI_nI x, zI_inj (by omega) (by omega) (by omega) (by omega)] at c107
                      refine g_aload_n X dX7_follows_110 2 rfl rfl ?_
                      refine g_get X cb7 9 q_4_22 dX7_follows_111 0 0 rfl rfl (by decide) rfl rfl ?_
                      refine g_iload_n X dX7_follows_114 0 rfl rfl ?_
                      refine g_iald X dX7_follows_115 2 0 rfl rfl (by omega) (by omega) ?_
                      refine g_bipush (x := zI (-3)) X dX7_follows_116 (by decide +kernel) ?_
                      refine g_icmp_ne (tgt := 138) X dX7_follows_118 (by decide) (fun c118 => ?_) (fun c118 => ?_)
                      · exact E dX7_follows_138 (by decide) (by decide) (⟨_, FI_out hG (FI_not hG hx c118), hGe, hGk, hGn, rfl⟩)
                      · have hij := FI_in hG hxl hx hW c118
                        have hxn := EnK_no hGe hxl hn12 (b := 2) c118 (by omega)
                        have hG3 := FI_set hW hG hx hij
                        have hGe3 := EnK_upd (x := zI (EE P n s)) hGe hxn
                        have hGk3 := Kpt_upd (p := x) hGk (EE_zI hW hs (c := -2) (by omega) (by omega))
                        have hGn3 := st_keep hW (x := x) hs hGn
                        refine g_aload_n X dX7_follows_121 2 rfl rfl ?_
                        refine g_get X cb7 9 q_4_22 dX7_follows_122 0 0 rfl rfl (by decide) rfl rfl ?_
                        refine g_iload_n X dX7_follows_125 0 rfl rfl ?_
                        refine g_iload X dX7_follows_126 1 rfl ?_
                        refine g_iast (cs' := [[((mo 0), .inr (7, [.int th, .ref (mo 1), .ref (mo 2), .int (nI sm), .ref (mo 3), .int (nI ln), .ref (mo 4), .int rm, .int fa, .ref (mo 5), .ref (mo 6), .int sp, .int wr, .long dd]))], cMs v mo fs, [((mo 5), .inl (v.2.1 0, 6656, .inl (upd f2 x (zI (EE P n s)))))]]) X dX7_follows_128 2 0 rfl rfl (by omega) (by omega) rfl ?_
                        refine g_aload_n X dX7_follows_129 2 rfl rfl ?_
                        refine g_iload_n X dX7_follows_130 0 rfl rfl ?_
                        refine g_callV (As := [.int (nI x)]) (rest := []) (wr := [[((mo 5), .inl (v.2.1 0, 6656, .inl (upd f2 x (zI (EE P n s)))))]]) X (c_X7_goesTo l v mo th sm ln rm fa sp wr dd P n lo hi fs x hW hS (by omega)) f_X7_goesTo q_22_22 dX7_follows_131 [0, 1] [2] rfl rfl (by decide) 0 rfl rfl rfl rfl (Nat.le_of_ble_eq_true rfl) (by decide) (fun r_ w_ hp2 => ?_)
                        obtain ⟨rfl, rfl⟩ := hp2
                        show GG k _ _ [[((mo 0), .inr (7, [.int th, .ref (mo 1), .ref (mo 2), .int (nI sm), .ref (mo 3), .int (nI ln), .ref (mo 4), .int rm, .int fa, .ref (mo 5), .ref (mo 6), .int sp, .int wr, .long dd]))], cMs v mo fs, [((mo 5), .inl (v.2.1 0, 6656, .inl (upd f2 x (zI (EE P n s)))))]] _ _ [.int (eo (nx P x))]
                        cases hnx : nx P x with
                        | none =>
                          show GG k _ _ _ _ _ (.int (zI (-1)) :: _)
                          refine g_istore_n (lv' := [(2, .int (zI (-1))), (4, .int (zI (EE P n s))), (0, .ref (mo 0)), (1, .int (nI s))]) X dX7_follows_134 rfl (by decide) rfl ?_
                          refine g_goto (tgt := 105) X dX7_follows_135 (by decide) ?_
                          have hxl := it_lt hW hs hx
                          refine g_iload_n X dX7_follows_105 0 rfl rfl ?_
                          refine g_iconst (x := zI (-1)) X dX7_follows_106 (by decide +kernel) ?_
                          refine g_icmp_eq (tgt := 138) X dX7_follows_107 (by decide) (fun c107 => ?_) (fun c107 => ?_)
                          · rw [zI_inj (by omega) (by omega) (by omega) (by omega)] at c107
                            exact E dX7_follows_138 (by decide) (by decide) (⟨_, FI_out hG3 (by rcases Nat.lt_or_ge (i + 1) j with c9 | c9; obtain ⟨z9, hz9⟩ := hJ2 (i + 1) c9; have h9 : it P n (i + 1) s = none := by { show (it P n i s).bind _ = _; rw [hx]; exact (nxt_nx hxn).trans hnx }; rw [h9] at hz9; cases hz9; exact c9), hGe3, hGk3, hGn3, rfl⟩)
                          · rw [zI_inj (by omega) (by omega) (by omega) (by omega)] at c107
                            exact absurd rfl c107
                        | some y0 =>
                          show GG k _ _ _ _ _ (.int (nI y0) :: _)
                          refine g_istore_n (lv' := [(2, .int (nI y0)), (4, .int (zI (EE P n s))), (0, .ref (mo 0)), (1, .int (nI s))]) X dX7_follows_134 rfl (by decide) rfl ?_
                          refine g_goto (tgt := 105) X dX7_follows_135 (by decide) ?_
                          exact ih105 _ (by omega) (i + 1) y0 (upd f2 x (zI (EE P n s))) (it_step hx ((nxt_nx hxn).trans hnx)) (by omega) hG3 hGe3 hGk3 hGn3 rfl
                refine g_lv (lv' := [(2, .int (nI s)), (4, .int (zI (EE P n s))), (0, .ref (mo 0)), (1, .int (nI s))]) [0, 1, 3, 4] rfl ?_
                exact lp105 _ 0 s fe' rfl (Nat.zero_le _) hF2 hKe2 hKk2 hN2 rfl
              · refine g_iconst (x := zI (-1)) X dX7_follows_91 (by decide +kernel) ?_
                refine g_goto (tgt := 101) X dX7_follows_92 (by decide) ?_
                refine g_v (y := zI (EE P n s)) (by have h9 := FI_val hW hs hF hp c17; rw [if_pos c88] at h9; exact h9) ?_
                have hF2 := hF
                have hKe2 := hKe
                have hKk2 := hKk
                have hN2 := FI_start hF hp c17
                have hJ2 : ∀ i, i < j → ∃ z, it P n i s = some z := fun i h => it_pre hp i (by omega)
                refine g_istore (lv' := [(4, .int (zI (EE P n s))), (2, .int (nI p)), (3, .int (nI b)), (0, .ref (mo 0)), (1, .int (nI s))]) X dX7_follows_101 (by decide) rfl ?_
                refine g_iload_n X dX7_follows_103 4 rfl rfl ?_
                refine g_istore_n (lv' := [(2, .int (nI s)), (4, .int (zI (EE P n s))), (3, .int (nI b)), (0, .ref (mo 0)), (1, .int (nI s))]) X dX7_follows_104 rfl (by decide) rfl ?_
                have lp105 : ∀ (zN : Nat) (i : Nat) (x : Nat) (f2 : Nat → Int32) (hx : it P n i s = some x) (hiJ : i ≤ j) (hG : FI P n s i j f2) (hGe : EnK n f2) (hGk : Kpt n fe f2) (hGn : f2 s ≠ zI (-2)) (zM : zN = j + 1 - i), GG k 0 0 [[((mo 0), .inr (7, [.int th, .ref (mo 1), .ref (mo 2), .int (nI sm), .ref (mo 3), .int (nI ln), .ref (mo 4), .int rm, .int fa, .ref (mo 5), .ref (mo 6), .int sp, .int wr, .long dd]))], cMs v mo fs, cMe v mo f2] [(2, .int (nI x)), (4, .int (zI (EE P n s))), (0, .ref (mo 0)), (1, .int (nI s))] 105 [] := by
                  intro zN
                  induction zN using Nat.strongRecOn with
                  | _ zN zih =>
                    have ih105 := zih
                    clear zih
                    intro i x f2 hx hiJ hG hGe hGk hGn zM
                    have hxl := it_lt hW hs hx
                    refine g_iload_n X dX7_follows_105 0 rfl rfl ?_
                    refine g_iconst (x := zI (-1)) X dX7_follows_106 (by decide +kernel) ?_
                    refine g_icmp_eq (tgt := 138) X dX7_follows_107 (by decide) (fun c107 => ?_) (fun c107 => ?_)
                    · rw [zI_nI x, zI_inj (by omega) (by omega) (by omega) (by omega)] at c107
                      omega
                    · rw [zI_nI x, zI_inj (by omega) (by omega) (by omega) (by omega)] at c107
                      refine g_aload_n X dX7_follows_110 2 rfl rfl ?_
                      refine g_get X cb7 9 q_4_22 dX7_follows_111 0 0 rfl rfl (by decide) rfl rfl ?_
                      refine g_iload_n X dX7_follows_114 0 rfl rfl ?_
                      refine g_iald X dX7_follows_115 2 0 rfl rfl (by omega) (by omega) ?_
                      refine g_bipush (x := zI (-3)) X dX7_follows_116 (by decide +kernel) ?_
                      refine g_icmp_ne (tgt := 138) X dX7_follows_118 (by decide) (fun c118 => ?_) (fun c118 => ?_)
                      · exact E dX7_follows_138 (by decide) (by decide) (⟨_, FI_out hG (FI_not hG hx c118), hGe, hGk, hGn, rfl⟩)
                      · have hij := FI_in hG hxl hx hW c118
                        have hxn := EnK_no hGe hxl hn12 (b := 2) c118 (by omega)
                        have hG3 := FI_set hW hG hx hij
                        have hGe3 := EnK_upd (x := zI (EE P n s)) hGe hxn
                        have hGk3 := Kpt_upd (p := x) hGk (EE_zI hW hs (c := -2) (by omega) (by omega))
                        have hGn3 := st_keep hW (x := x) hs hGn
                        refine g_aload_n X dX7_follows_121 2 rfl rfl ?_
                        refine g_get X cb7 9 q_4_22 dX7_follows_122 0 0 rfl rfl (by decide) rfl rfl ?_
                        refine g_iload_n X dX7_follows_125 0 rfl rfl ?_
                        refine g_iload X dX7_follows_126 1 rfl ?_
                        refine g_iast (cs' := [[((mo 0), .inr (7, [.int th, .ref (mo 1), .ref (mo 2), .int (nI sm), .ref (mo 3), .int (nI ln), .ref (mo 4), .int rm, .int fa, .ref (mo 5), .ref (mo 6), .int sp, .int wr, .long dd]))], cMs v mo fs, [((mo 5), .inl (v.2.1 0, 6656, .inl (upd f2 x (zI (EE P n s)))))]]) X dX7_follows_128 2 0 rfl rfl (by omega) (by omega) rfl ?_
                        refine g_aload_n X dX7_follows_129 2 rfl rfl ?_
                        refine g_iload_n X dX7_follows_130 0 rfl rfl ?_
                        refine g_callV (As := [.int (nI x)]) (rest := []) (wr := [[((mo 5), .inl (v.2.1 0, 6656, .inl (upd f2 x (zI (EE P n s)))))]]) X (c_X7_goesTo l v mo th sm ln rm fa sp wr dd P n lo hi fs x hW hS (by omega)) f_X7_goesTo q_22_22 dX7_follows_131 [0, 1] [2] rfl rfl (by decide) 0 rfl rfl rfl rfl (Nat.le_of_ble_eq_true rfl) (by decide) (fun r_ w_ hp3 => ?_)
                        obtain ⟨rfl, rfl⟩ := hp3
                        show GG k _ _ [[((mo 0), .inr (7, [.int th, .ref (mo 1), .ref (mo 2), .int (nI sm), .ref (mo 3), .int (nI ln), .ref (mo 4), .int rm, .int fa, .ref (mo 5), .ref (mo 6), .int sp, .int wr, .long dd]))], cMs v mo fs, [((mo 5), .inl (v.2.1 0, 6656, .inl (upd f2 x (zI (EE P n s)))))]] _ _ [.int (eo (nx P x))]
                        cases hnx : nx P x with
                        | none =>
                          show GG k _ _ _ _ _ (.int (zI (-1)) :: _)
                          refine g_istore_n (lv' := [(2, .int (zI (-1))), (4, .int (zI (EE P n s))), (0, .ref (mo 0)), (1, .int (nI s))]) X dX7_follows_134 rfl (by decide) rfl ?_
                          refine g_goto (tgt := 105) X dX7_follows_135 (by decide) ?_
                          have hxl := it_lt hW hs hx
                          refine g_iload_n X dX7_follows_105 0 rfl rfl ?_
                          refine g_iconst (x := zI (-1)) X dX7_follows_106 (by decide +kernel) ?_
                          refine g_icmp_eq (tgt := 138) X dX7_follows_107 (by decide) (fun c107 => ?_) (fun c107 => ?_)
                          · rw [zI_inj (by omega) (by omega) (by omega) (by omega)] at c107
                            exact E dX7_follows_138 (by decide) (by decide) (⟨_, FI_out hG3 (by rcases Nat.lt_or_ge (i + 1) j with c9 | c9; obtain ⟨z9, hz9⟩ := hJ2 (i + 1) c9; have h9 : it P n (i + 1) s = none := by { show (it P n i s).bind _ = _; rw [hx]; exact (nxt_nx hxn).trans hnx }; rw [h9] at hz9; cases hz9; exact c9), hGe3, hGk3, hGn3, rfl⟩)
                          · rw [zI_inj (by omega) (by omega) (by omega) (by omega)] at c107
                            exact absurd rfl c107
                        | some y0 =>
                          show GG k _ _ _ _ _ (.int (nI y0) :: _)
                          refine g_istore_n (lv' := [(2, .int (nI y0)), (4, .int (zI (EE P n s))), (0, .ref (mo 0)), (1, .int (nI s))]) X dX7_follows_134 rfl (by decide) rfl ?_
                          refine g_goto (tgt := 105) X dX7_follows_135 (by decide) ?_
                          exact ih105 _ (by omega) (i + 1) y0 (upd f2 x (zI (EE P n s))) (it_step hx ((nxt_nx hxn).trans hnx)) (by omega) hG3 hGe3 hGk3 hGn3 rfl
                refine g_lv (lv' := [(2, .int (nI s)), (4, .int (zI (EE P n s))), (0, .ref (mo 0)), (1, .int (nI s))]) [0, 1, 3, 4] rfl ?_
                exact lp105 _ 0 s fe' rfl (Nat.zero_le _) hF2 hKe2 hKk2 hN2 rfl
            · refine g_sipush (x := nI 1000) X dX7_follows_68 (by decide +kernel) ?_
              refine g_iload_n X dX7_follows_71 0 rfl rfl ?_
              refine g_sipush (x := nI 512) X dX7_follows_72 (by decide +kernel) ?_
              refine g_iremN X dX7_follows_75 (by omega) (by omega) (by omega) ?_
              refine g_iaddN X dX7_follows_76 ?_
              refine g_goto (tgt := 101) X dX7_follows_77 (by decide) ?_
              refine g_v (y := zI (EE P n s)) (by rw [EE_it hp, EE_end (nxt_end (Nat.le_of_eq (of_decide_eq_true c65).symm)), tv, if_pos (Nat.le_of_eq (of_decide_eq_true c65).symm), zI_nI]) ?_
              have hF2 := hF
              have hKe2 := hKe
              have hKk2 := hKk
              have hN2 := FI_start hF hp c17
              have hJ2 : ∀ i, i < j → ∃ z, it P n i s = some z := fun i h => it_pre hp i (by omega)
              refine g_istore (lv' := [(4, .int (zI (EE P n s))), (2, .int (nI p)), (3, .int (nI b)), (0, .ref (mo 0)), (1, .int (nI s))]) X dX7_follows_101 (by decide) rfl ?_
              refine g_iload_n X dX7_follows_103 4 rfl rfl ?_
              refine g_istore_n (lv' := [(2, .int (nI s)), (4, .int (zI (EE P n s))), (3, .int (nI b)), (0, .ref (mo 0)), (1, .int (nI s))]) X dX7_follows_104 rfl (by decide) rfl ?_
              have lp105 : ∀ (zN : Nat) (i : Nat) (x : Nat) (f2 : Nat → Int32) (hx : it P n i s = some x) (hiJ : i ≤ j) (hG : FI P n s i j f2) (hGe : EnK n f2) (hGk : Kpt n fe f2) (hGn : f2 s ≠ zI (-2)) (zM : zN = j + 1 - i), GG k 0 0 [[((mo 0), .inr (7, [.int th, .ref (mo 1), .ref (mo 2), .int (nI sm), .ref (mo 3), .int (nI ln), .ref (mo 4), .int rm, .int fa, .ref (mo 5), .ref (mo 6), .int sp, .int wr, .long dd]))], cMs v mo fs, cMe v mo f2] [(2, .int (nI x)), (4, .int (zI (EE P n s))), (0, .ref (mo 0)), (1, .int (nI s))] 105 [] := by
                intro zN
                induction zN using Nat.strongRecOn with
                | _ zN zih =>
                  have ih105 := zih
                  clear zih
                  intro i x f2 hx hiJ hG hGe hGk hGn zM
                  have hxl := it_lt hW hs hx
                  refine g_iload_n X dX7_follows_105 0 rfl rfl ?_
                  refine g_iconst (x := zI (-1)) X dX7_follows_106 (by decide +kernel) ?_
                  refine g_icmp_eq (tgt := 138) X dX7_follows_107 (by decide) (fun c107 => ?_) (fun c107 => ?_)
                  · rw [zI_nI x, zI_inj (by omega) (by omega) (by omega) (by omega)] at c107
                    omega
                  · rw [zI_nI x, zI_inj (by omega) (by omega) (by omega) (by omega)] at c107
                    refine g_aload_n X dX7_follows_110 2 rfl rfl ?_
                    refine g_get X cb7 9 q_4_22 dX7_follows_111 0 0 rfl rfl (by decide) rfl rfl ?_
                    refine g_iload_n X dX7_follows_114 0 rfl rfl ?_
                    refine g_iald X dX7_follows_115 2 0 rfl rfl (by omega) (by omega) ?_
                    refine g_bipush (x := zI (-3)) X dX7_follows_116 (by decide +kernel) ?_
                    refine g_icmp_ne (tgt := 138) X dX7_follows_118 (by decide) (fun c118 => ?_) (fun c118 => ?_)
                    · exact E dX7_follows_138 (by decide) (by decide) (⟨_, FI_out hG (FI_not hG hx c118), hGe, hGk, hGn, rfl⟩)
                    · have hij := FI_in hG hxl hx hW c118
                      have hxn := EnK_no hGe hxl hn12 (b := 2) c118 (by omega)
                      have hG3 := FI_set hW hG hx hij
                      have hGe3 := EnK_upd (x := zI (EE P n s)) hGe hxn
                      have hGk3 := Kpt_upd (p := x) hGk (EE_zI hW hs (c := -2) (by omega) (by omega))
                      have hGn3 := st_keep hW (x := x) hs hGn
                      refine g_aload_n X dX7_follows_121 2 rfl rfl ?_
                      refine g_get X cb7 9 q_4_22 dX7_follows_122 0 0 rfl rfl (by decide) rfl rfl ?_
                      refine g_iload_n X dX7_follows_125 0 rfl rfl ?_
                      refine g_iload X dX7_follows_126 1 rfl ?_
                      refine g_iast (cs' := [[((mo 0), .inr (7, [.int th, .ref (mo 1), .ref (mo 2), .int (nI sm), .ref (mo 3), .int (nI ln), .ref (mo 4), .int rm, .int fa, .ref (mo 5), .ref (mo 6), .int sp, .int wr, .long dd]))], cMs v mo fs, [((mo 5), .inl (v.2.1 0, 6656, .inl (upd f2 x (zI (EE P n s)))))]]) X dX7_follows_128 2 0 rfl rfl (by omega) (by omega) rfl ?_
                      refine g_aload_n X dX7_follows_129 2 rfl rfl ?_
                      refine g_iload_n X dX7_follows_130 0 rfl rfl ?_
                      refine g_callV (As := [.int (nI x)]) (rest := []) (wr := [[((mo 5), .inl (v.2.1 0, 6656, .inl (upd f2 x (zI (EE P n s)))))]]) X (c_X7_goesTo l v mo th sm ln rm fa sp wr dd P n lo hi fs x hW hS (by omega)) f_X7_goesTo q_22_22 dX7_follows_131 [0, 1] [2] rfl rfl (by decide) 0 rfl rfl rfl rfl (Nat.le_of_ble_eq_true rfl) (by decide) (fun r_ w_ hp4 => ?_)
                      obtain ⟨rfl, rfl⟩ := hp4
                      show GG k _ _ [[((mo 0), .inr (7, [.int th, .ref (mo 1), .ref (mo 2), .int (nI sm), .ref (mo 3), .int (nI ln), .ref (mo 4), .int rm, .int fa, .ref (mo 5), .ref (mo 6), .int sp, .int wr, .long dd]))], cMs v mo fs, [((mo 5), .inl (v.2.1 0, 6656, .inl (upd f2 x (zI (EE P n s)))))]] _ _ [.int (eo (nx P x))]
                      cases hnx : nx P x with
                      | none =>
                        show GG k _ _ _ _ _ (.int (zI (-1)) :: _)
                        refine g_istore_n (lv' := [(2, .int (zI (-1))), (4, .int (zI (EE P n s))), (0, .ref (mo 0)), (1, .int (nI s))]) X dX7_follows_134 rfl (by decide) rfl ?_
                        refine g_goto (tgt := 105) X dX7_follows_135 (by decide) ?_
                        have hxl := it_lt hW hs hx
                        refine g_iload_n X dX7_follows_105 0 rfl rfl ?_
                        refine g_iconst (x := zI (-1)) X dX7_follows_106 (by decide +kernel) ?_
                        refine g_icmp_eq (tgt := 138) X dX7_follows_107 (by decide) (fun c107 => ?_) (fun c107 => ?_)
                        · rw [zI_inj (by omega) (by omega) (by omega) (by omega)] at c107
                          exact E dX7_follows_138 (by decide) (by decide) (⟨_, FI_out hG3 (by rcases Nat.lt_or_ge (i + 1) j with c9 | c9; obtain ⟨z9, hz9⟩ := hJ2 (i + 1) c9; have h9 : it P n (i + 1) s = none := by { show (it P n i s).bind _ = _; rw [hx]; exact (nxt_nx hxn).trans hnx }; rw [h9] at hz9; cases hz9; exact c9), hGe3, hGk3, hGn3, rfl⟩)
                        · rw [zI_inj (by omega) (by omega) (by omega) (by omega)] at c107
                          exact absurd rfl c107
                      | some y0 =>
                        show GG k _ _ _ _ _ (.int (nI y0) :: _)
                        refine g_istore_n (lv' := [(2, .int (nI y0)), (4, .int (zI (EE P n s))), (0, .ref (mo 0)), (1, .int (nI s))]) X dX7_follows_134 rfl (by decide) rfl ?_
                        refine g_goto (tgt := 105) X dX7_follows_135 (by decide) ?_
                        exact ih105 _ (by omega) (i + 1) y0 (upd f2 x (zI (EE P n s))) (it_step hx ((nxt_nx hxn).trans hnx)) (by omega) hG3 hGe3 hGk3 hGn3 rfl
              refine g_lv (lv' := [(2, .int (nI s)), (4, .int (zI (EE P n s))), (0, .ref (mo 0)), (1, .int (nI s))]) [0, 1, 3, 4] rfl ?_
              exact lp105 _ 0 s fe' rfl (Nat.zero_le _) hF2 hKe2 hKk2 hN2 rfl
          · rw [zI_nI p, zI_inj (by omega) (by omega) (by omega) (by omega)] at c49
            omega
        · have hjl := FI_len hW hs hF hp c17
          have hpn := EnK_no hKe hpl hn12 (b := 1) c17 (by omega)
          refine g_aload_n X dX7_follows_20 2 rfl rfl ?_
          refine g_iload_n X dX7_follows_21 0 rfl rfl ?_
          refine g_callV (As := [.int (nI p)]) (rest := []) (wr := [cMe v mo fe']) X (c_X7_isEnd l v mo th sm ln rm fa sp wr dd P n lo hi fs p hW hS (by omega)) f_X7_isEnd q_22_14 dX7_follows_22 [0, 1] [2] rfl rfl (by decide) 0 rfl rfl rfl rfl (Nat.le_of_ble_eq_true rfl) (by decide) (fun r_ w_ hp5 => ?_)
          obtain ⟨rfl, rfl⟩ := hp5
          show GG k _ _ [[((mo 0), .inr (7, [.int th, .ref (mo 1), .ref (mo 2), .int (nI sm), .ref (mo 3), .int (nI ln), .ref (mo 4), .int rm, .int fa, .ref (mo 5), .ref (mo 6), .int sp, .int wr, .long dd]))], cMs v mo fs, cMe v mo fe'] _ _ [.int (bI (decide (p / 512 = n)))]
          refine g_if_neB (tgt := 47) X dX7_follows_25 (by decide) (fun c25 => ?_) (fun c25 => ?_)
          · exact absurd (of_decide_eq_true c25) (by omega)
          · refine g_aload_n X dX7_follows_28 2 rfl rfl ?_
            refine g_get X cb7 9 q_4_22 dX7_follows_29 0 0 rfl rfl (by decide) rfl rfl ?_
            refine g_iload_n X dX7_follows_32 0 rfl rfl ?_
            refine g_bipush (x := zI (-3)) X dX7_follows_33 (by decide +kernel) ?_
            refine g_iast (cs' := [[((mo 0), .inr (7, [.int th, .ref (mo 1), .ref (mo 2), .int (nI sm), .ref (mo 3), .int (nI ln), .ref (mo 4), .int rm, .int fa, .ref (mo 5), .ref (mo 6), .int sp, .int wr, .long dd]))], cMs v mo fs, [((mo 5), .inl (v.2.1 0, 6656, .inl (upd fe' p (zI (-3)))))]]) X dX7_follows_35 2 0 rfl rfl (by omega) (by omega) rfl ?_
            refine g_iload_n X dX7_follows_36 0 rfl rfl ?_
            refine g_istore_n (lv' := [(3, .int (nI p)), (2, .int (nI p)), (0, .ref (mo 0)), (1, .int (nI s))]) X dX7_follows_37 rfl (by decide) rfl ?_
            refine g_aload_n X dX7_follows_38 2 rfl rfl ?_
            refine g_iload_n X dX7_follows_39 1 rfl rfl ?_
            refine g_callV (As := [.int (nI p)]) (rest := []) (wr := [[((mo 5), .inl (v.2.1 0, 6656, .inl (upd fe' p (zI (-3)))))]]) X (c_X7_goesTo l v mo th sm ln rm fa sp wr dd P n lo hi fs p hW hS (by omega)) f_X7_goesTo q_22_22 dX7_follows_40 [0, 1] [2] rfl rfl (by decide) 0 rfl rfl rfl rfl (Nat.le_of_ble_eq_true rfl) (by decide) (fun r_ w_ hp6 => ?_)
            obtain ⟨rfl, rfl⟩ := hp6
            show GG k _ _ [[((mo 0), .inr (7, [.int th, .ref (mo 1), .ref (mo 2), .int (nI sm), .ref (mo 3), .int (nI ln), .ref (mo 4), .int rm, .int fa, .ref (mo 5), .ref (mo 6), .int sp, .int wr, .long dd]))], cMs v mo fs, [((mo 5), .inl (v.2.1 0, 6656, .inl (upd fe' p (zI (-3)))))]] _ _ [.int (eo (nx P p))]
            cases hnx : nx P p with
            | none =>
              show GG k _ _ _ _ _ (.int (zI (-1)) :: _)
              refine g_istore_n (lv' := [(2, .int (zI (-1))), (3, .int (nI p)), (0, .ref (mo 0)), (1, .int (nI s))]) X dX7_follows_43 rfl (by decide) rfl ?_
              refine g_goto (tgt := 4) X dX7_follows_44 (by decide) ?_
              refine g_iload_n X dX7_follows_4 0 rfl rfl ?_
              refine g_iconst (x := zI (-1)) X dX7_follows_5 (by decide +kernel) ?_
              refine g_icmp_eq (tgt := 47) X dX7_follows_6 (by decide) (fun c6 => ?_) (fun c6 => ?_)
              · rw [zI_inj (by omega) (by omega) (by omega) (by omega)] at c6
                refine g_iload_n X dX7_follows_47 0 rfl rfl ?_
                refine g_iconst (x := zI (-1)) X dX7_follows_48 (by decide +kernel) ?_
                refine g_icmp_ne (tgt := 60) X dX7_follows_49 (by decide) (fun c49 => ?_) (fun c49 => ?_)
                · rw [zI_inj (by omega) (by omega) (by omega) (by omega)] at c49
                  exact absurd rfl c49
                · rw [zI_inj (by omega) (by omega) (by omega) (by omega)] at c49
                  refine g_iload_n X dX7_follows_52 1 rfl rfl ?_
                  refine g_sipush (x := nI 512) X dX7_follows_53 (by decide +kernel) ?_
                  refine g_idivN X dX7_follows_56 (by omega) (by omega) (by omega) ?_
                  refine g_goto (tgt := 101) X dX7_follows_57 (by decide) ?_
                  refine g_v (y := zI (EE P n s)) (by rw [EE_it hp, EE_end ((nxt_nx hpn).trans hnx), tv, if_neg (by omega), zI_nI]) ?_
                  have hF2 := FI_mark hW hs hF hp c17
                  have hKe2 := EnK_upd (x := zI (-3)) hKe hpn
                  have hKk2 := Kpt_upd (p := p) hKk z32
                  have hN2 : upd fe' p (zI (-3)) s ≠ zI (-2) := by rw [hF2.2.1 0 s (Nat.le_refl _) (Nat.succ_pos _) rfl]; exact z32
                  have hJ2 : ∀ i, i < j + 1 → ∃ z, it P n i s = some z := fun i h => it_pre hp i (by omega)
                  refine g_istore (lv' := [(4, .int (zI (EE P n s))), (2, .int (zI (-1))), (3, .int (nI p)), (0, .ref (mo 0)), (1, .int (nI s))]) X dX7_follows_101 (by decide) rfl ?_
                  refine g_iload_n X dX7_follows_103 4 rfl rfl ?_
                  refine g_istore_n (lv' := [(2, .int (nI s)), (4, .int (zI (EE P n s))), (3, .int (nI p)), (0, .ref (mo 0)), (1, .int (nI s))]) X dX7_follows_104 rfl (by decide) rfl ?_
                  have lp105 : ∀ (zN : Nat) (i : Nat) (x : Nat) (f2 : Nat → Int32) (hx : it P n i s = some x) (hiJ : i ≤ (j + 1)) (hG : FI P n s i (j + 1) f2) (hGe : EnK n f2) (hGk : Kpt n fe f2) (hGn : f2 s ≠ zI (-2)) (zM : zN = (j + 1) + 1 - i), GG k 0 0 [[((mo 0), .inr (7, [.int th, .ref (mo 1), .ref (mo 2), .int (nI sm), .ref (mo 3), .int (nI ln), .ref (mo 4), .int rm, .int fa, .ref (mo 5), .ref (mo 6), .int sp, .int wr, .long dd]))], cMs v mo fs, cMe v mo f2] [(2, .int (nI x)), (4, .int (zI (EE P n s))), (0, .ref (mo 0)), (1, .int (nI s))] 105 [] := by
                    intro zN
                    induction zN using Nat.strongRecOn with
                    | _ zN zih =>
                      have ih105 := zih
                      clear zih
                      intro i x f2 hx hiJ hG hGe hGk hGn zM
                      have hxl := it_lt hW hs hx
                      refine g_iload_n X dX7_follows_105 0 rfl rfl ?_
                      refine g_iconst (x := zI (-1)) X dX7_follows_106 (by decide +kernel) ?_
                      refine g_icmp_eq (tgt := 138) X dX7_follows_107 (by decide) (fun c107 => ?_) (fun c107 => ?_)
                      · rw [zI_nI x, zI_inj (by omega) (by omega) (by omega) (by omega)] at c107
                        omega
                      · rw [zI_nI x, zI_inj (by omega) (by omega) (by omega) (by omega)] at c107
                        refine g_aload_n X dX7_follows_110 2 rfl rfl ?_
                        refine g_get X cb7 9 q_4_22 dX7_follows_111 0 0 rfl rfl (by decide) rfl rfl ?_
                        refine g_iload_n X dX7_follows_114 0 rfl rfl ?_
                        refine g_iald X dX7_follows_115 2 0 rfl rfl (by omega) (by omega) ?_
                        refine g_bipush (x := zI (-3)) X dX7_follows_116 (by decide +kernel) ?_
                        refine g_icmp_ne (tgt := 138) X dX7_follows_118 (by decide) (fun c118 => ?_) (fun c118 => ?_)
                        · exact E dX7_follows_138 (by decide) (by decide) (⟨_, FI_out hG (FI_not hG hx c118), hGe, hGk, hGn, rfl⟩)
                        · have hij := FI_in hG hxl hx hW c118
                          have hxn := EnK_no hGe hxl hn12 (b := 2) c118 (by omega)
                          have hG3 := FI_set hW hG hx hij
                          have hGe3 := EnK_upd (x := zI (EE P n s)) hGe hxn
                          have hGk3 := Kpt_upd (p := x) hGk (EE_zI hW hs (c := -2) (by omega) (by omega))
                          have hGn3 := st_keep hW (x := x) hs hGn
                          refine g_aload_n X dX7_follows_121 2 rfl rfl ?_
                          refine g_get X cb7 9 q_4_22 dX7_follows_122 0 0 rfl rfl (by decide) rfl rfl ?_
                          refine g_iload_n X dX7_follows_125 0 rfl rfl ?_
                          refine g_iload X dX7_follows_126 1 rfl ?_
                          refine g_iast (cs' := [[((mo 0), .inr (7, [.int th, .ref (mo 1), .ref (mo 2), .int (nI sm), .ref (mo 3), .int (nI ln), .ref (mo 4), .int rm, .int fa, .ref (mo 5), .ref (mo 6), .int sp, .int wr, .long dd]))], cMs v mo fs, [((mo 5), .inl (v.2.1 0, 6656, .inl (upd f2 x (zI (EE P n s)))))]]) X dX7_follows_128 2 0 rfl rfl (by omega) (by omega) rfl ?_
                          refine g_aload_n X dX7_follows_129 2 rfl rfl ?_
                          refine g_iload_n X dX7_follows_130 0 rfl rfl ?_
                          refine g_callV (As := [.int (nI x)]) (rest := []) (wr := [[((mo 5), .inl (v.2.1 0, 6656, .inl (upd f2 x (zI (EE P n s)))))]]) X (c_X7_goesTo l v mo th sm ln rm fa sp wr dd P n lo hi fs x hW hS (by omega)) f_X7_goesTo q_22_22 dX7_follows_131 [0, 1] [2] rfl rfl (by decide) 0 rfl rfl rfl rfl (Nat.le_of_ble_eq_true rfl) (by decide) (fun r_ w_ hp7 => ?_)
                          obtain ⟨rfl, rfl⟩ := hp7
                          show GG k _ _ [[((mo 0), .inr (7, [.int th, .ref (mo 1), .ref (mo 2), .int (nI sm), .ref (mo 3), .int (nI ln), .ref (mo 4), .int rm, .int fa, .ref (mo 5), .ref (mo 6), .int sp, .int wr, .long dd]))], cMs v mo fs, [((mo 5), .inl (v.2.1 0, 6656, .inl (upd f2 x (zI (EE P n s)))))]] _ _ [.int (eo (nx P x))]
                          cases hnx : nx P x with
                          | none =>
                            show GG k _ _ _ _ _ (.int (zI (-1)) :: _)
                            refine g_istore_n (lv' := [(2, .int (zI (-1))), (4, .int (zI (EE P n s))), (0, .ref (mo 0)), (1, .int (nI s))]) X dX7_follows_134 rfl (by decide) rfl ?_
                            refine g_goto (tgt := 105) X dX7_follows_135 (by decide) ?_
                            have hxl := it_lt hW hs hx
                            refine g_iload_n X dX7_follows_105 0 rfl rfl ?_
                            refine g_iconst (x := zI (-1)) X dX7_follows_106 (by decide +kernel) ?_
                            refine g_icmp_eq (tgt := 138) X dX7_follows_107 (by decide) (fun c107 => ?_) (fun c107 => ?_)
                            · rw [zI_inj (by omega) (by omega) (by omega) (by omega)] at c107
                              exact E dX7_follows_138 (by decide) (by decide) (⟨_, FI_out hG3 (by rcases Nat.lt_or_ge (i + 1) (j + 1) with c9 | c9; obtain ⟨z9, hz9⟩ := hJ2 (i + 1) c9; have h9 : it P n (i + 1) s = none := by { show (it P n i s).bind _ = _; rw [hx]; exact (nxt_nx hxn).trans hnx }; rw [h9] at hz9; cases hz9; exact c9), hGe3, hGk3, hGn3, rfl⟩)
                            · rw [zI_inj (by omega) (by omega) (by omega) (by omega)] at c107
                              exact absurd rfl c107
                          | some y0 =>
                            show GG k _ _ _ _ _ (.int (nI y0) :: _)
                            refine g_istore_n (lv' := [(2, .int (nI y0)), (4, .int (zI (EE P n s))), (0, .ref (mo 0)), (1, .int (nI s))]) X dX7_follows_134 rfl (by decide) rfl ?_
                            refine g_goto (tgt := 105) X dX7_follows_135 (by decide) ?_
                            exact ih105 _ (by omega) (i + 1) y0 (upd f2 x (zI (EE P n s))) (it_step hx ((nxt_nx hxn).trans hnx)) (by omega) hG3 hGe3 hGk3 hGn3 rfl
                  refine g_lv (lv' := [(2, .int (nI s)), (4, .int (zI (EE P n s))), (0, .ref (mo 0)), (1, .int (nI s))]) [0, 1, 3, 4] rfl ?_
                  exact lp105 _ 0 s (upd fe' p (zI (-3))) rfl (Nat.zero_le _) hF2 hKe2 hKk2 hN2 rfl
              · rw [zI_inj (by omega) (by omega) (by omega) (by omega)] at c6
                exact absurd rfl c6
            | some y0 =>
              show GG k _ _ _ _ _ (.int (nI y0) :: _)
              refine g_istore_n (lv' := [(2, .int (nI y0)), (3, .int (nI p)), (0, .ref (mo 0)), (1, .int (nI s))]) X dX7_follows_43 rfl (by decide) rfl ?_
              refine g_goto (tgt := 4) X dX7_follows_44 (by decide) ?_
              exact ih4 _ (by omega) (j + 1) y0 p (upd fe' p (zI (-3))) (it_step hp ((nxt_nx hpn).trans hnx)) (FI_mark hW hs hF hp c17) (EnK_upd hKe hpn) (Kpt_upd hKk z32) rfl
  refine g_lv (lv' := [(2, .int (nI s)), (3, .int (nI s)), (0, .ref (mo 0)), (1, .int (nI s))]) [1, 0, 2, 3] rfl ?_
  exact lp4 _ 0 s s fe rfl (FI_0 hO) hE (fun _ _ h => h) rfl

set_option maxHeartbeats 4000000 in
set_option maxRecDepth 100000 in
theorem c_X7_worksOut (l : Launch) (v : VV) (mo : Nat → Nat) (th : Int32) (sm : Nat) (ln : Nat) (rm : Int32) (fa : Int32) (sp : Int32) (wr : Int32) (dd : Int64) (P : Nat → S9) (n : Nat) (lo : Nat → Nat) (hi : Nat → Nat) (fs : Nat → Int32) (fe : Nat → Int32) (hW : WF P n) (hS : SR P n lo hi fs) : MU l v yX7_worksOut cX7_worksOut 2 none ({ frames := 5, cells := 0, slots := 0, locals := 117 }) [.ref (mo 0)] [[((mo 0), .inr (7, [.int th, .ref (mo 1), .ref (mo 2), .int (nI sm), .ref (mo 3), .int (nI ln), .ref (mo 4), .int rm, .int fa, .ref (mo 5), .ref (mo 6), .int sp, .int wr, .long dd]))], cMs v mo fs, cMe v mo fe] (fun _ w_ => ∃ fe', (∀ q, q < 512 * (n + 1) → fe' q = zI (EE P n q)) ∧ w_ = [[((mo 0), .inr (7, [.int th, .ref (mo 1), .ref (mo 2), .int (nI sm), .ref (mo 3), .int (nI ln), .ref (mo 4), .int rm, .int fa, .ref (mo 5), .ref (mo 6), .int sp, .int wr, .long dd]))], cMs v mo fs, cMe v mo fe']) 0 0 := by
  refine mm_void rfl (by decide) (Nat.le_of_ble_eq_true rfl) [(0, .ref (mo 0))] rfl (fun k X hin E => ?_)
  have hn12 := hW.1
  refine g_iconst (x := nI 0) X dX7_worksOut_0 (by decide +kernel) ?_
  refine g_istore_n (lv' := [(1, .int (nI 0)), (0, .ref (mo 0))]) X dX7_worksOut_1 rfl (by decide) rfl ?_
  have lp2 : ∀ (zN : Nat) (p : Nat) (fe' : Nat → Int32) (hp9 : p ≤ 512 * (n + 1)) (e1 : ∀ q, q < p → fe' q = if q / 512 = n then nI (1000 + q % 512) else zI (-2)) (zM : zN = 512 * (n + 1) - p), GG k 0 0 [[((mo 0), .inr (7, [.int th, .ref (mo 1), .ref (mo 2), .int (nI sm), .ref (mo 3), .int (nI ln), .ref (mo 4), .int rm, .int fa, .ref (mo 5), .ref (mo 6), .int sp, .int wr, .long dd]))], cMs v mo fs, cMe v mo fe'] [(1, .int (nI p)), (0, .ref (mo 0))] 2 [] := by
    intro zN
    induction zN using Nat.strongRecOn with
    | _ zN zih =>
      have ih2 := zih
      clear zih
      intro p fe' hp9 e1 zM
      refine g_iload_n X dX7_worksOut_2 0 rfl rfl ?_
      refine g_sipush (x := nI 512) X dX7_worksOut_3 (by decide +kernel) ?_
      refine g_aload_n X dX7_worksOut_6 1 rfl rfl ?_
      refine g_get X cb7 1 q_4_18 dX7_worksOut_7 0 0 rfl rfl (by decide) rfl rfl ?_
      refine g_iconst (x := nI 0) X dX7_worksOut_10 (by decide +kernel) ?_
      refine g_iald X dX7_worksOut_11 1 0 rfl rfl (by omega) (by omega) ?_
      refine g_v (y := nI n) (hS.1) ?_
      refine g_iconst (x := nI 1) X dX7_worksOut_12 (by decide +kernel) ?_
      refine g_iaddN X dX7_worksOut_13 ?_
      refine g_imulN X dX7_worksOut_14 ?_
      refine g_icmp_geN (tgt := 52) X dX7_worksOut_15 (by decide) (by omega) (by omega) (fun c15 => ?_) (fun c15 => ?_)
      · have hEn : EnK n fe' := fun q hq z => (e1 q (by omega)).trans (if_pos z)
        have hOk : OKE P n fe' := fun q hq => by by_cases z : q / 512 = n; right; rw [hEn q hq z, EE_end (nxt_end (Nat.le_of_eq z.symm)), tv, if_pos (Nat.le_of_eq z.symm), zI_nI]; left; rw [e1 q (by omega), if_neg z]
        refine g_iconst (x := nI 0) X dX7_worksOut_52 (by decide +kernel) ?_
        refine g_istore_n (lv' := [(1, .int (nI 0)), (0, .ref (mo 0))]) X dX7_worksOut_53 rfl (by decide) rfl ?_
        have lp54 : ∀ (zN : Nat) (p : Nat) (f3 : Nat → Int32) (hp9 : p ≤ 512 * n) (hO2 : OKE P n f3) (hE2 : EnK n f3) (hD2 : ∀ q, q < p → f3 q ≠ zI (-2)) (zM : zN = 512 * n - p), GG k 0 0 [[((mo 0), .inr (7, [.int th, .ref (mo 1), .ref (mo 2), .int (nI sm), .ref (mo 3), .int (nI ln), .ref (mo 4), .int rm, .int fa, .ref (mo 5), .ref (mo 6), .int sp, .int wr, .long dd]))], cMs v mo fs, cMe v mo f3] [(1, .int (nI p)), (0, .ref (mo 0))] 54 [] := by
          intro zN
          induction zN using Nat.strongRecOn with
          | _ zN zih =>
            have ih54 := zih
            clear zih
            intro p f3 hp9 hO2 hE2 hD2 zM
            refine g_iload_n X dX7_worksOut_54 0 rfl rfl ?_
            refine g_sipush (x := nI 512) X dX7_worksOut_55 (by decide +kernel) ?_
            refine g_aload_n X dX7_worksOut_58 1 rfl rfl ?_
            refine g_get X cb7 1 q_4_18 dX7_worksOut_59 0 0 rfl rfl (by decide) rfl rfl ?_
            refine g_iconst (x := nI 0) X dX7_worksOut_62 (by decide +kernel) ?_
            refine g_iald X dX7_worksOut_63 1 0 rfl rfl (by omega) (by omega) ?_
            refine g_v (y := nI n) (hS.1) ?_
            refine g_imulN X dX7_worksOut_64 ?_
            refine g_icmp_geN (tgt := 90) X dX7_worksOut_65 (by decide) (by omega) (by omega) (fun c65 => ?_) (fun c65 => ?_)
            · exact E dX7_worksOut_90 (by decide) (by decide) (⟨_, fun q hq => OKE_at hO2 hq (by rcases Nat.lt_or_ge q p with c9 | c9; exact hD2 q c9; rw [hE2 q hq (by omega)]; exact nI_nm (b := 1) (by omega) (by omega)), rfl⟩)
            · refine g_aload_n X dX7_worksOut_68 1 rfl rfl ?_
              refine g_get X cb7 9 q_4_22 dX7_worksOut_69 0 0 rfl rfl (by decide) rfl rfl ?_
              refine g_iload_n X dX7_worksOut_72 0 rfl rfl ?_
              refine g_iald X dX7_worksOut_73 2 0 rfl rfl (by omega) (by omega) ?_
              refine g_bipush (x := zI (-2)) X dX7_worksOut_74 (by decide +kernel) ?_
              refine g_icmp_ne (tgt := 84) X dX7_worksOut_76 (by decide) (fun c76 => ?_) (fun c76 => ?_)
              · refine g_iinc (y := nI (p + 1)) (lv' := [(1, .int (nI (p + 1))), (0, .ref (mo 0))]) (j := 0) X dX7_worksOut_84 rfl (nI_add p 1) (by decide) rfl ?_
                refine g_goto (tgt := 54) X dX7_worksOut_87 (by decide) ?_
                exact ih54 _ (by omega) (p + 1) f3 (by omega) hO2 hE2 (fun q hq => by by_cases z : q = p; subst z; exact c76; exact hD2 q (by omega)) rfl
              · refine g_aload_n X dX7_worksOut_79 1 rfl rfl ?_
                refine g_iload_n X dX7_worksOut_80 0 rfl rfl ?_
                refine g_callV (As := [.int (nI p)]) (rest := []) (wr := []) X (c_X7_follows l v mo th sm ln rm fa sp wr dd P n lo hi fs f3 p hW hS (by omega) hO2 hE2) f_X7_follows q_22_18 dX7_worksOut_81 [0, 1, 2] [] rfl rfl (by decide) 0 rfl rfl rfl rfl (Nat.le_of_ble_eq_true rfl) (by decide) (fun r_ w_ hp2 => ?_)
                obtain ⟨fo1, fo1O, fo1E, fo1K, fo1N, rfl⟩ := hp2
                show GG k _ _ [[((mo 0), .inr (7, [.int th, .ref (mo 1), .ref (mo 2), .int (nI sm), .ref (mo 3), .int (nI ln), .ref (mo 4), .int rm, .int fa, .ref (mo 5), .ref (mo 6), .int sp, .int wr, .long dd]))], cMs v mo fs, cMe v mo fo1] _ _ []
                refine g_iinc (y := nI (p + 1)) (lv' := [(1, .int (nI (p + 1))), (0, .ref (mo 0))]) (j := 0) X dX7_worksOut_84 rfl (nI_add p 1) (by decide) rfl ?_
                refine g_goto (tgt := 54) X dX7_worksOut_87 (by decide) ?_
                exact ih54 _ (by omega) (p + 1) fo1 (by omega) fo1O fo1E (fun q hq => by by_cases z : q = p; subst z; exact fo1N; exact fo1K q (by omega) (hD2 q (by omega))) rfl
        exact lp54 _ 0 fe' (Nat.zero_le _) hOk hEn (fun q h => absurd h (Nat.not_lt_zero _)) rfl
      · refine g_aload_n X dX7_worksOut_18 1 rfl rfl ?_
        refine g_get X cb7 9 q_4_22 dX7_worksOut_19 0 0 rfl rfl (by decide) rfl rfl ?_
        refine g_iload_n X dX7_worksOut_22 0 rfl rfl ?_
        refine g_aload_n X dX7_worksOut_23 1 rfl rfl ?_
        refine g_iload_n X dX7_worksOut_24 0 rfl rfl ?_
        refine g_callV (As := [.int (nI p)]) (rest := [.int (nI p), .ref (mo 5)]) (wr := [cMe v mo fe']) X (c_X7_isEnd l v mo th sm ln rm fa sp wr dd P n lo hi fs p hW hS (by omega)) f_X7_isEnd q_22_14 dX7_worksOut_25 [0, 1] [2] rfl rfl (by decide) 0 rfl rfl rfl rfl (Nat.le_of_ble_eq_true rfl) (by decide) (fun r_ w_ hp3 => ?_)
        obtain ⟨rfl, rfl⟩ := hp3
        show GG k _ _ [[((mo 0), .inr (7, [.int th, .ref (mo 1), .ref (mo 2), .int (nI sm), .ref (mo 3), .int (nI ln), .ref (mo 4), .int rm, .int fa, .ref (mo 5), .ref (mo 6), .int sp, .int wr, .long dd]))], cMs v mo fs, cMe v mo fe'] _ _ [.int (bI (decide (p / 512 = n))), .int (nI p), .ref (mo 5)]
        refine g_if_eqB (tgt := 43) X dX7_worksOut_28 (by decide) (fun c28 => ?_) (fun c28 => ?_)
        · refine g_bipush (x := zI (-2)) X dX7_worksOut_43 (by decide +kernel) ?_
          refine g_iast (cs' := [[((mo 0), .inr (7, [.int th, .ref (mo 1), .ref (mo 2), .int (nI sm), .ref (mo 3), .int (nI ln), .ref (mo 4), .int rm, .int fa, .ref (mo 5), .ref (mo 6), .int sp, .int wr, .long dd]))], cMs v mo fs, [((mo 5), .inl (v.2.1 0, 6656, .inl (upd fe' p (zI (-2)))))]]) X dX7_worksOut_45 2 0 rfl rfl (by omega) (by omega) rfl ?_
          refine g_iinc (y := nI (p + 1)) (lv' := [(1, .int (nI (p + 1))), (0, .ref (mo 0))]) (j := 0) X dX7_worksOut_46 rfl (nI_add p 1) (by decide) rfl ?_
          refine g_goto (tgt := 2) X dX7_worksOut_49 (by decide) ?_
          exact ih2 _ (by omega) (p + 1) (upd fe' p (zI (-2))) (by omega) (fun q hq => by by_cases z : q = p; subst z; rw [pk_us]; exact (if_neg (of_decide_eq_false c28)).symm; rw [pk_un z]; exact e1 q (by omega)) rfl
        · refine g_sipush (x := nI 1000) X dX7_worksOut_31 (by decide +kernel) ?_
          refine g_iload_n X dX7_worksOut_34 0 rfl rfl ?_
          refine g_sipush (x := nI 512) X dX7_worksOut_35 (by decide +kernel) ?_
          refine g_iremN X dX7_worksOut_38 (by omega) (by omega) (by omega) ?_
          refine g_iaddN X dX7_worksOut_39 ?_
          refine g_goto (tgt := 45) X dX7_worksOut_40 (by decide) ?_
          refine g_iast (cs' := [[((mo 0), .inr (7, [.int th, .ref (mo 1), .ref (mo 2), .int (nI sm), .ref (mo 3), .int (nI ln), .ref (mo 4), .int rm, .int fa, .ref (mo 5), .ref (mo 6), .int sp, .int wr, .long dd]))], cMs v mo fs, [((mo 5), .inl (v.2.1 0, 6656, .inl (upd fe' p (nI (1000 + (p % 512))))))]]) X dX7_worksOut_45 2 0 rfl rfl (by omega) (by omega) rfl ?_
          refine g_iinc (y := nI (p + 1)) (lv' := [(1, .int (nI (p + 1))), (0, .ref (mo 0))]) (j := 0) X dX7_worksOut_46 rfl (nI_add p 1) (by decide) rfl ?_
          refine g_goto (tgt := 2) X dX7_worksOut_49 (by decide) ?_
          exact ih2 _ (by omega) (p + 1) (upd fe' p (nI (1000 + (p % 512)))) (by omega) (fun q hq => by by_cases z : q = p; subst z; rw [pk_us]; exact (if_pos (of_decide_eq_true c28)).symm; rw [pk_un z]; exact e1 q (by omega)) rfl
  exact lp2 _ 0 fe (Nat.zero_le _) (fun q h => absurd h (Nat.not_lt_zero _)) rfl

