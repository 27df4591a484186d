/-! ## the model: bounds -/
def MnT (V : Nat → Prop) (i w T : Nat) (x : Int) : Prop := (x = -1 ∧ ∀ t, t < T → ¬ V (512 * i + t)) ∨ ∃ t, t < T ∧ V (512 * i + t) ∧ x = (val t w : Int) ∧ ∀ t', t' < T → V (512 * i + t') → val t w ≤ val t' w
theorem MnT_0 {V : Nat → Prop} {i w : Nat} : MnT V i w 0 (-1) := Or.inl ⟨rfl, fun t h => absurd h (Nat.not_lt_zero _)⟩
theorem MnT_skip {V : Nat → Prop} {i w T : Nat} {x : Int} (h : MnT V i w T x) (hn : ¬ V (512 * i + T)) : MnT V i w (T + 1) x := by
  rcases h with ⟨a, b⟩ | ⟨t, a, b, c, d⟩
  · exact Or.inl ⟨a, fun t ht => by by_cases z : t = T; rw [z]; exact hn; exact b t (by omega)⟩
  · exact Or.inr ⟨t, by omega, b, c, fun t' ht hv => by by_cases z : t' = T; rw [z] at hv; exact absurd hv hn; exact d t' (by omega) hv⟩
theorem MnT_new {V : Nat → Prop} {i w T : Nat} {x : Int} (h : MnT V i w T x) (hv : V (512 * i + T)) (hx : x = -1 ∨ (val T w : Int) < x) : MnT V i w (T + 1) (val T w : Int) := by
  refine Or.inr ⟨T, by omega, hv, rfl, fun t' ht hv' => ?_⟩
  by_cases z : t' = T
  · rw [z]; exact Nat.le_refl _
  · rcases h with ⟨a, b⟩ | ⟨t, a, b, c, d⟩
    · exact absurd hv' (b t' (by omega))
    · have := d t' (by omega) hv'
      omega
theorem MnT_keep {V : Nat → Prop} {i w T : Nat} {x : Int} (h : MnT V i w T x) (h1 : ¬ x = -1) (h2 : x ≤ (val T w : Int)) : MnT V i w (T + 1) x := by
  rcases h with ⟨a, b⟩ | ⟨t, a, b, c, d⟩
  · exact absurd a h1
  · exact Or.inr ⟨t, by omega, b, c, fun t' ht hv => by by_cases z : t' = T; rw [z]; omega; exact d t' (by omega) hv⟩
theorem MnT.rng {V : Nat → Prop} {i w T : Nat} {x : Int} (h : MnT V i w T x) : -1 ≤ x ∧ x < 8 := by
  rcases h with ⟨a, b⟩ | ⟨t, a, b, c, d⟩
  · omega
  · have := val_lt t w
    omega

def MxT (V : Nat → Prop) (i w T : Nat) (x : Int) : Prop := (x = -1 ∧ ∀ t, t < T → ¬ V (512 * i + t)) ∨ ∃ t, t < T ∧ V (512 * i + t) ∧ x = (val t w : Int) ∧ ∀ t', t' < T → V (512 * i + t') → val t' w ≤ val t w
theorem MxT_0 {V : Nat → Prop} {i w : Nat} : MxT V i w 0 (-1) := Or.inl ⟨rfl, fun t h => absurd h (Nat.not_lt_zero _)⟩
theorem MxT_skip {V : Nat → Prop} {i w T : Nat} {x : Int} (h : MxT V i w T x) (hn : ¬ V (512 * i + T)) : MxT V i w (T + 1) x := by
  rcases h with ⟨a, b⟩ | ⟨t, a, b, c, d⟩
  · exact Or.inl ⟨a, fun t ht => by by_cases z : t = T; rw [z]; exact hn; exact b t (by omega)⟩
  · exact Or.inr ⟨t, by omega, b, c, fun t' ht hv => by by_cases z : t' = T; rw [z] at hv; exact absurd hv hn; exact d t' (by omega) hv⟩
theorem MxT_new {V : Nat → Prop} {i w T : Nat} {x : Int} (h : MxT V i w T x) (hv : V (512 * i + T)) (hx : x = -1 ∨ x < (val T w : Int)) : MxT V i w (T + 1) (val T w : Int) := by
  refine Or.inr ⟨T, by omega, hv, rfl, fun t' ht hv' => ?_⟩
  by_cases z : t' = T
  · rw [z]; exact Nat.le_refl _
  · rcases h with ⟨a, b⟩ | ⟨t, a, b, c, d⟩
    · exact absurd hv' (b t' (by omega))
    · have := d t' (by omega) hv'
      omega
theorem MxT_keep {V : Nat → Prop} {i w T : Nat} {x : Int} (h : MxT V i w T x) (h1 : ¬ x = -1) (h2 : (val T w : Int) ≤ x) : MxT V i w (T + 1) x := by
  rcases h with ⟨a, b⟩ | ⟨t, a, b, c, d⟩
  · exact absurd a h1
  · exact Or.inr ⟨t, by omega, b, c, fun t' ht hv => by by_cases z : t' = T; rw [z]; omega; exact d t' (by omega) hv⟩
theorem MxT.rng {V : Nat → Prop} {i w T : Nat} {x : Int} (h : MxT V i w T x) : -1 ≤ x ∧ x < 8 := by
  rcases h with ⟨a, b⟩ | ⟨t, a, b, c, d⟩
  · omega
  · have := val_lt t w
    omega

set_option maxHeartbeats 4000000 in
set_option maxRecDepth 100000 in
theorem cMn_X7_bound (l : Launch) (v : VV) (mo : Nat → Nat) (th : Int32) (sm : Nat) (ln : Nat) (rm : Int32) (fa : Int32) (sp : Int32) (wr : Int32) (dd : Int64) (lo : Nat → Nat) (hi : Nat → Nat) (P : Nat → S9) (n : Nat) (fn : Nat → Int32) (i : Nat) (w : Nat) (hn12 : n ≤ 12) (hB : SnR n (RV lo hi P n 512) fn) (hi9 : i < n + 1) (hw9 : w < 3) : MI l v yX7_bound cX7_bound 8 (some .int) ({ frames := 1, cells := 0, slots := 0, locals := 21 }) [.ref (mo 0), .int (nI i), .int (nI w), .int (nI 1)] [[((mo 0), .inr (7, [.int th, .ref (mo 1), .ref (mo 2), .int (nI sm), .ref (mo 3), .int (nI ln), .ref (mo 4), .int rm, .int fa, .ref (mo 5), .ref (mo 6), .int sp, .int wr, .long dd]))], cMn v mo fn] (fun r w_ => r = zI (mnV lo hi P n i w) ∧ w_ = [[((mo 0), .inr (7, [.int th, .ref (mo 1), .ref (mo 2), .int (nI sm), .ref (mo 3), .int (nI ln), .ref (mo 4), .int rm, .int fa, .ref (mo 5), .ref (mo 6), .int sp, .int wr, .long dd]))], cMn v mo fn]) 0 0 := by
  refine mm_int (by decide) (Nat.le_of_ble_eq_true rfl) [(0, .ref (mo 0)), (1, .int (nI i)), (2, .int (nI w)), (3, .int (nI 1))] rfl (fun k X E => ?_)
  refine g_iconst (x := zI (-1)) X dX7_bound_0 (by decide +kernel) ?_
  refine g_istore (lv' := [(4, .int (zI (-1))), (0, .ref (mo 0)), (1, .int (nI i)), (2, .int (nI w)), (3, .int (nI 1))]) X dX7_bound_1 (by decide) rfl ?_
  refine g_iconst (x := nI 0) X dX7_bound_3 (by decide +kernel) ?_
  refine g_istore (lv' := [(5, .int (nI 0)), (4, .int (zI (-1))), (0, .ref (mo 0)), (1, .int (nI i)), (2, .int (nI w)), (3, .int (nI 1))]) X dX7_bound_4 (by decide) rfl ?_
  have lp6 : ∀ (zN : Nat) (T : Nat) (x9 : Int) (hT : T ≤ 512) (hX : MnT (RV lo hi P n 512) i w T x9) (zM : zN = 512 - T), GG k 0 0 [[((mo 0), .inr (7, [.int th, .ref (mo 1), .ref (mo 2), .int (nI sm), .ref (mo 3), .int (nI ln), .ref (mo 4), .int rm, .int fa, .ref (mo 5), .ref (mo 6), .int sp, .int wr, .long dd]))], cMn v mo fn] [(5, .int (nI T)), (4, .int (zI x9)), (0, .ref (mo 0)), (1, .int (nI i)), (2, .int (nI w)), (3, .int (nI 1))] 6 [] := by
    intro zN
    induction zN using Nat.strongRecOn with
    | _ zN zih =>
      have ih6 := zih
      clear zih
      intro T x9 hT hX zM
      have hr9 := hX.rng
      have hvt := val_lt T w
      refine g_iload X dX7_bound_6 0 rfl ?_
      refine g_sipush (x := nI 512) X dX7_bound_8 (by decide +kernel) ?_
      refine g_icmp_geN (tgt := 92) X dX7_bound_11 (by decide) (by omega) (by omega) (fun c11 => ?_) (fun c11 => ?_)
      · refine g_iload X dX7_bound_92 1 rfl ?_
        exact E dX7_bound_94 rfl (rfl) (by decide) (by decide) (⟨by rw [mnV_eq (by rw [show T = 512 from by omega] at hX; exact hX)], rfl⟩)
      · refine g_iload X dX7_bound_14 0 rfl ?_
        refine g_iload_n X dX7_bound_16 4 rfl rfl ?_
        refine g_callS (As := [.int (nI T), .int (nI w)]) (rest := []) (wr := [[((mo 0), .inr (7, [.int th, .ref (mo 1), .ref (mo 2), .int (nI sm), .ref (mo 3), .int (nI ln), .ref (mo 4), .int rm, .int fa, .ref (mo 5), .ref (mo 6), .int sp, .int wr, .long dd]))], cMn v mo fn]) X (c_X7_valueOf l v T w (by omega) (by omega)) f_X7_valueOf q_23_6 dX7_bound_17 [] [0, 1] rfl rfl (by decide) rfl rfl (Nat.le_of_ble_eq_true rfl) (by decide) (fun r_ w_ hp1 => ?_)
        obtain ⟨rfl, rfl⟩ := hp1
        show GG k _ _ [[((mo 0), .inr (7, [.int th, .ref (mo 1), .ref (mo 2), .int (nI sm), .ref (mo 3), .int (nI ln), .ref (mo 4), .int rm, .int fa, .ref (mo 5), .ref (mo 6), .int sp, .int wr, .long dd]))], cMn v mo fn] _ _ [.int (nI (val T w))]
        refine g_istore (lv' := [(6, .int (nI (val T w))), (5, .int (nI T)), (4, .int (zI x9)), (0, .ref (mo 0)), (1, .int (nI i)), (2, .int (nI w)), (3, .int (nI 1))]) X dX7_bound_20 (by decide) rfl ?_
        refine g_aload_n X dX7_bound_22 3 rfl rfl ?_
        refine g_get X cb7 10 q_5_0 dX7_bound_23 0 0 rfl rfl (by decide) rfl rfl ?_
        refine g_sipush (x := nI 512) X dX7_bound_26 (by decide +kernel) ?_
        refine g_iload_n X dX7_bound_29 4 rfl rfl ?_
        refine g_imulN X dX7_bound_30 ?_
        refine g_iload X dX7_bound_31 1 rfl ?_
        refine g_iaddN X dX7_bound_33 ?_
        refine g_zald X dX7_bound_34 1 0 rfl rfl (by omega) (by omega) ?_
        rcases hB (512 * i + T) (by omega) with ⟨h1, hv⟩ | ⟨h1, hnv⟩
        · refine g_v (y := nI 1) h1 ?_
          refine g_if_eqN (tgt := 69) X dX7_bound_35 (by decide) (by omega) (fun c35 => ?_) (fun c35 => ?_)
          · exact absurd c35 (by decide)
          · refine g_iload X dX7_bound_38 2 rfl ?_
            refine g_iconst (x := zI (-1)) X dX7_bound_40 (by decide +kernel) ?_
            refine g_icmp_eq (tgt := 65) X dX7_bound_41 (by decide) (fun c41 => ?_) (fun c41 => ?_)
            · rw [zI_inj (by omega) (by omega) (by omega) (by omega)] at c41
              refine g_iconst (x := nI 1) X dX7_bound_65 (by decide +kernel) ?_
              refine g_goto (tgt := 70) X dX7_bound_66 (by decide) ?_
              refine g_istore (lv' := [(7, .int (nI 1)), (6, .int (nI (val T w))), (5, .int (nI T)), (4, .int (zI x9)), (0, .ref (mo 0)), (1, .int (nI i)), (2, .int (nI w)), (3, .int (nI 1))]) X dX7_bound_70 (by decide) rfl ?_
              refine g_iload X dX7_bound_72 0 rfl ?_
              refine g_if_eqN (tgt := 82) X dX7_bound_74 (by decide) (by omega) (fun c74 => ?_) (fun c74 => ?_)
              · exact absurd c74 (by decide)
              · refine g_iload X dX7_bound_77 1 rfl ?_
                refine g_goto (tgt := 84) X dX7_bound_79 (by decide) ?_
                refine g_v (y := zI ((val T w : Nat) : Int)) (zI_nI _) ?_
                refine g_istore (lv' := [(4, .int (zI ((val T w : Nat) : Int))), (7, .int (nI 1)), (6, .int (nI (val T w))), (5, .int (nI T)), (0, .ref (mo 0)), (1, .int (nI i)), (2, .int (nI w)), (3, .int (nI 1))]) X dX7_bound_84 (by decide) rfl ?_
                refine g_iinc (y := nI (T + 1)) (lv' := [(5, .int (nI (T + 1))), (4, .int (zI ((val T w : Nat) : Int))), (7, .int (nI 1)), (6, .int (nI (val T w))), (0, .ref (mo 0)), (1, .int (nI i)), (2, .int (nI w)), (3, .int (nI 1))]) (j := 3) X dX7_bound_86 rfl (nI_add T 1) (by decide) rfl ?_
                refine g_goto (tgt := 6) X dX7_bound_89 (by decide) ?_
                refine g_lv (lv' := [(5, .int (nI (T + 1))), (4, .int (zI ((val T w : Nat) : Int))), (0, .ref (mo 0)), (1, .int (nI i)), (2, .int (nI w)), (3, .int (nI 1))]) [0, 1, 4, 5, 6, 7] rfl ?_
                exact ih6 _ (by omega) (T + 1) ((val T w : Nat) : Int) (by omega) (MnT_new hX hv (Or.inl c41)) rfl
            · rw [zI_inj (by omega) (by omega) (by omega) (by omega)] at c41
              refine g_iload_n X dX7_bound_44 6 rfl rfl ?_
              refine g_if_eqN (tgt := 58) X dX7_bound_45 (by decide) (by omega) (fun c45 => ?_) (fun c45 => ?_)
              · exact absurd c45 (by decide)
              · refine g_iload X dX7_bound_48 0 rfl ?_
                refine g_iload X dX7_bound_50 2 rfl ?_
                refine g_icmp_ge (tgt := 69) X dX7_bound_52 (by decide) (fun c52 => ?_) (fun c52 => ?_)
                · rw [zI_nI (val T w), zI_le (by omega) (by omega) (by omega) (by omega)] at c52
                  refine g_iconst (x := nI 0) X dX7_bound_69 (by decide +kernel) ?_
                  refine g_istore (lv' := [(7, .int (nI 0)), (6, .int (nI (val T w))), (5, .int (nI T)), (4, .int (zI x9)), (0, .ref (mo 0)), (1, .int (nI i)), (2, .int (nI w)), (3, .int (nI 1))]) X dX7_bound_70 (by decide) rfl ?_
                  refine g_iload X dX7_bound_72 0 rfl ?_
                  refine g_if_eqN (tgt := 82) X dX7_bound_74 (by decide) (by omega) (fun c74 => ?_) (fun c74 => ?_)
                  · refine g_iload X dX7_bound_82 3 rfl ?_
                    refine g_istore (lv' := [(4, .int (zI x9)), (7, .int (nI 0)), (6, .int (nI (val T w))), (5, .int (nI T)), (0, .ref (mo 0)), (1, .int (nI i)), (2, .int (nI w)), (3, .int (nI 1))]) X dX7_bound_84 (by decide) rfl ?_
                    refine g_iinc (y := nI (T + 1)) (lv' := [(5, .int (nI (T + 1))), (4, .int (zI x9)), (7, .int (nI 0)), (6, .int (nI (val T w))), (0, .ref (mo 0)), (1, .int (nI i)), (2, .int (nI w)), (3, .int (nI 1))]) (j := 3) X dX7_bound_86 rfl (nI_add T 1) (by decide) rfl ?_
                    refine g_goto (tgt := 6) X dX7_bound_89 (by decide) ?_
                    refine g_lv (lv' := [(5, .int (nI (T + 1))), (4, .int (zI x9)), (0, .ref (mo 0)), (1, .int (nI i)), (2, .int (nI w)), (3, .int (nI 1))]) [0, 1, 4, 5, 6, 7] rfl ?_
                    exact ih6 _ (by omega) (T + 1) x9 (by omega) (MnT_keep hX c41 (by omega)) rfl
                  · exact absurd rfl c74
                · rw [zI_nI (val T w), zI_le (by omega) (by omega) (by omega) (by omega)] at c52
                  refine g_goto (tgt := 65) X dX7_bound_55 (by decide) ?_
                  refine g_iconst (x := nI 1) X dX7_bound_65 (by decide +kernel) ?_
                  refine g_goto (tgt := 70) X dX7_bound_66 (by decide) ?_
                  refine g_istore (lv' := [(7, .int (nI 1)), (6, .int (nI (val T w))), (5, .int (nI T)), (4, .int (zI x9)), (0, .ref (mo 0)), (1, .int (nI i)), (2, .int (nI w)), (3, .int (nI 1))]) X dX7_bound_70 (by decide) rfl ?_
                  refine g_iload X dX7_bound_72 0 rfl ?_
                  refine g_if_eqN (tgt := 82) X dX7_bound_74 (by decide) (by omega) (fun c74 => ?_) (fun c74 => ?_)
                  · exact absurd c74 (by decide)
                  · refine g_iload X dX7_bound_77 1 rfl ?_
                    refine g_goto (tgt := 84) X dX7_bound_79 (by decide) ?_
                    refine g_v (y := zI ((val T w : Nat) : Int)) (zI_nI _) ?_
                    refine g_istore (lv' := [(4, .int (zI ((val T w : Nat) : Int))), (7, .int (nI 1)), (6, .int (nI (val T w))), (5, .int (nI T)), (0, .ref (mo 0)), (1, .int (nI i)), (2, .int (nI w)), (3, .int (nI 1))]) X dX7_bound_84 (by decide) rfl ?_
                    refine g_iinc (y := nI (T + 1)) (lv' := [(5, .int (nI (T + 1))), (4, .int (zI ((val T w : Nat) : Int))), (7, .int (nI 1)), (6, .int (nI (val T w))), (0, .ref (mo 0)), (1, .int (nI i)), (2, .int (nI w)), (3, .int (nI 1))]) (j := 3) X dX7_bound_86 rfl (nI_add T 1) (by decide) rfl ?_
                    refine g_goto (tgt := 6) X dX7_bound_89 (by decide) ?_
                    refine g_lv (lv' := [(5, .int (nI (T + 1))), (4, .int (zI ((val T w : Nat) : Int))), (0, .ref (mo 0)), (1, .int (nI i)), (2, .int (nI w)), (3, .int (nI 1))]) [0, 1, 4, 5, 6, 7] rfl ?_
                    exact ih6 _ (by omega) (T + 1) ((val T w : Nat) : Int) (by omega) (MnT_new hX hv (Or.inr (by omega))) rfl
        · refine g_v (y := nI 0) h1 ?_
          refine g_if_eqN (tgt := 69) X dX7_bound_35 (by decide) (by omega) (fun c35 => ?_) (fun c35 => ?_)
          · refine g_iconst (x := nI 0) X dX7_bound_69 (by decide +kernel) ?_
            refine g_istore (lv' := [(7, .int (nI 0)), (6, .int (nI (val T w))), (5, .int (nI T)), (4, .int (zI x9)), (0, .ref (mo 0)), (1, .int (nI i)), (2, .int (nI w)), (3, .int (nI 1))]) X dX7_bound_70 (by decide) rfl ?_
            refine g_iload X dX7_bound_72 0 rfl ?_
            refine g_if_eqN (tgt := 82) X dX7_bound_74 (by decide) (by omega) (fun c74 => ?_) (fun c74 => ?_)
            · refine g_iload X dX7_bound_82 3 rfl ?_
              refine g_istore (lv' := [(4, .int (zI x9)), (7, .int (nI 0)), (6, .int (nI (val T w))), (5, .int (nI T)), (0, .ref (mo 0)), (1, .int (nI i)), (2, .int (nI w)), (3, .int (nI 1))]) X dX7_bound_84 (by decide) rfl ?_
              refine g_iinc (y := nI (T + 1)) (lv' := [(5, .int (nI (T + 1))), (4, .int (zI x9)), (7, .int (nI 0)), (6, .int (nI (val T w))), (0, .ref (mo 0)), (1, .int (nI i)), (2, .int (nI w)), (3, .int (nI 1))]) (j := 3) X dX7_bound_86 rfl (nI_add T 1) (by decide) rfl ?_
              refine g_goto (tgt := 6) X dX7_bound_89 (by decide) ?_
              refine g_lv (lv' := [(5, .int (nI (T + 1))), (4, .int (zI x9)), (0, .ref (mo 0)), (1, .int (nI i)), (2, .int (nI w)), (3, .int (nI 1))]) [0, 1, 4, 5, 6, 7] rfl ?_
              exact ih6 _ (by omega) (T + 1) x9 (by omega) (MnT_skip hX hnv) rfl
            · exact absurd rfl c74
          · exact absurd rfl c35
  exact lp6 _ 0 (-1) (by omega) MnT_0 rfl

set_option maxHeartbeats 4000000 in
set_option maxRecDepth 100000 in
theorem cMx_X7_bound (l : Launch) (v : VV) (mo : Nat → Nat) (th : Int32) (sm : Nat) (ln : Nat) (rm : Int32) (fa : Int32) (sp : Int32) (wr : Int32) (dd : Int64) (lo : Nat → Nat) (hi : Nat → Nat) (P : Nat → S9) (n : Nat) (fn : Nat → Int32) (i : Nat) (w : Nat) (hn12 : n ≤ 12) (hB : SnR n (RV lo hi P n 512) fn) (hi9 : i < n + 1) (hw9 : w < 3) : MI l v yX7_bound cX7_bound 8 (some .int) ({ frames := 1, cells := 0, slots := 0, locals := 21 }) [.ref (mo 0), .int (nI i), .int (nI w), .int (nI 0)] [[((mo 0), .inr (7, [.int th, .ref (mo 1), .ref (mo 2), .int (nI sm), .ref (mo 3), .int (nI ln), .ref (mo 4), .int rm, .int fa, .ref (mo 5), .ref (mo 6), .int sp, .int wr, .long dd]))], cMn v mo fn] (fun r w_ => r = zI (mxV lo hi P n i w) ∧ w_ = [[((mo 0), .inr (7, [.int th, .ref (mo 1), .ref (mo 2), .int (nI sm), .ref (mo 3), .int (nI ln), .ref (mo 4), .int rm, .int fa, .ref (mo 5), .ref (mo 6), .int sp, .int wr, .long dd]))], cMn v mo fn]) 0 0 := by
  refine mm_int (by decide) (Nat.le_of_ble_eq_true rfl) [(0, .ref (mo 0)), (1, .int (nI i)), (2, .int (nI w)), (3, .int (nI 0))] rfl (fun k X E => ?_)
  refine g_iconst (x := zI (-1)) X dX7_bound_0 (by decide +kernel) ?_
  refine g_istore (lv' := [(4, .int (zI (-1))), (0, .ref (mo 0)), (1, .int (nI i)), (2, .int (nI w)), (3, .int (nI 0))]) X dX7_bound_1 (by decide) rfl ?_
  refine g_iconst (x := nI 0) X dX7_bound_3 (by decide +kernel) ?_
  refine g_istore (lv' := [(5, .int (nI 0)), (4, .int (zI (-1))), (0, .ref (mo 0)), (1, .int (nI i)), (2, .int (nI w)), (3, .int (nI 0))]) X dX7_bound_4 (by decide) rfl ?_
  have lp6 : ∀ (zN : Nat) (T : Nat) (x9 : Int) (hT : T ≤ 512) (hX : MxT (RV lo hi P n 512) i w T x9) (zM : zN = 512 - T), GG k 0 0 [[((mo 0), .inr (7, [.int th, .ref (mo 1), .ref (mo 2), .int (nI sm), .ref (mo 3), .int (nI ln), .ref (mo 4), .int rm, .int fa, .ref (mo 5), .ref (mo 6), .int sp, .int wr, .long dd]))], cMn v mo fn] [(5, .int (nI T)), (4, .int (zI x9)), (0, .ref (mo 0)), (1, .int (nI i)), (2, .int (nI w)), (3, .int (nI 0))] 6 [] := by
    intro zN
    induction zN using Nat.strongRecOn with
    | _ zN zih =>
      have ih6 := zih
      clear zih
      intro T x9 hT hX zM
      have hr9 := hX.rng
      have hvt := val_lt T w
      refine g_iload X dX7_bound_6 0 rfl ?_
      refine g_sipush (x := nI 512) X dX7_bound_8 (by decide +kernel) ?_
      refine g_icmp_geN (tgt := 92) X dX7_bound_11 (by decide) (by omega) (by omega) (fun c11 => ?_) (fun c11 => ?_)
      · refine g_iload X dX7_bound_92 1 rfl ?_
        exact E dX7_bound_94 rfl (rfl) (by decide) (by decide) (⟨by rw [mxV_eq (by rw [show T = 512 from by omega] at hX; exact hX)], rfl⟩)
      · refine g_iload X dX7_bound_14 0 rfl ?_
        refine g_iload_n X dX7_bound_16 4 rfl rfl ?_
        refine g_callS (As := [.int (nI T), .int (nI w)]) (rest := []) (wr := [[((mo 0), .inr (7, [.int th, .ref (mo 1), .ref (mo 2), .int (nI sm), .ref (mo 3), .int (nI ln), .ref (mo 4), .int rm, .int fa, .ref (mo 5), .ref (mo 6), .int sp, .int wr, .long dd]))], cMn v mo fn]) X (c_X7_valueOf l v T w (by omega) (by omega)) f_X7_valueOf q_23_6 dX7_bound_17 [] [0, 1] rfl rfl (by decide) rfl rfl (Nat.le_of_ble_eq_true rfl) (by decide) (fun r_ w_ hp1 => ?_)
        obtain ⟨rfl, rfl⟩ := hp1
        show GG k _ _ [[((mo 0), .inr (7, [.int th, .ref (mo 1), .ref (mo 2), .int (nI sm), .ref (mo 3), .int (nI ln), .ref (mo 4), .int rm, .int fa, .ref (mo 5), .ref (mo 6), .int sp, .int wr, .long dd]))], cMn v mo fn] _ _ [.int (nI (val T w))]
        refine g_istore (lv' := [(6, .int (nI (val T w))), (5, .int (nI T)), (4, .int (zI x9)), (0, .ref (mo 0)), (1, .int (nI i)), (2, .int (nI w)), (3, .int (nI 0))]) X dX7_bound_20 (by decide) rfl ?_
        refine g_aload_n X dX7_bound_22 3 rfl rfl ?_
        refine g_get X cb7 10 q_5_0 dX7_bound_23 0 0 rfl rfl (by decide) rfl rfl ?_
        refine g_sipush (x := nI 512) X dX7_bound_26 (by decide +kernel) ?_
        refine g_iload_n X dX7_bound_29 4 rfl rfl ?_
        refine g_imulN X dX7_bound_30 ?_
        refine g_iload X dX7_bound_31 1 rfl ?_
        refine g_iaddN X dX7_bound_33 ?_
        refine g_zald X dX7_bound_34 1 0 rfl rfl (by omega) (by omega) ?_
        rcases hB (512 * i + T) (by omega) with ⟨h1, hv⟩ | ⟨h1, hnv⟩
        · refine g_v (y := nI 1) h1 ?_
          refine g_if_eqN (tgt := 69) X dX7_bound_35 (by decide) (by omega) (fun c35 => ?_) (fun c35 => ?_)
          · exact absurd c35 (by decide)
          · refine g_iload X dX7_bound_38 2 rfl ?_
            refine g_iconst (x := zI (-1)) X dX7_bound_40 (by decide +kernel) ?_
            refine g_icmp_eq (tgt := 65) X dX7_bound_41 (by decide) (fun c41 => ?_) (fun c41 => ?_)
            · rw [zI_inj (by omega) (by omega) (by omega) (by omega)] at c41
              refine g_iconst (x := nI 1) X dX7_bound_65 (by decide +kernel) ?_
              refine g_goto (tgt := 70) X dX7_bound_66 (by decide) ?_
              refine g_istore (lv' := [(7, .int (nI 1)), (6, .int (nI (val T w))), (5, .int (nI T)), (4, .int (zI x9)), (0, .ref (mo 0)), (1, .int (nI i)), (2, .int (nI w)), (3, .int (nI 0))]) X dX7_bound_70 (by decide) rfl ?_
              refine g_iload X dX7_bound_72 0 rfl ?_
              refine g_if_eqN (tgt := 82) X dX7_bound_74 (by decide) (by omega) (fun c74 => ?_) (fun c74 => ?_)
              · exact absurd c74 (by decide)
              · refine g_iload X dX7_bound_77 1 rfl ?_
                refine g_goto (tgt := 84) X dX7_bound_79 (by decide) ?_
                refine g_v (y := zI ((val T w : Nat) : Int)) (zI_nI _) ?_
                refine g_istore (lv' := [(4, .int (zI ((val T w : Nat) : Int))), (7, .int (nI 1)), (6, .int (nI (val T w))), (5, .int (nI T)), (0, .ref (mo 0)), (1, .int (nI i)), (2, .int (nI w)), (3, .int (nI 0))]) X dX7_bound_84 (by decide) rfl ?_
                refine g_iinc (y := nI (T + 1)) (lv' := [(5, .int (nI (T + 1))), (4, .int (zI ((val T w : Nat) : Int))), (7, .int (nI 1)), (6, .int (nI (val T w))), (0, .ref (mo 0)), (1, .int (nI i)), (2, .int (nI w)), (3, .int (nI 0))]) (j := 3) X dX7_bound_86 rfl (nI_add T 1) (by decide) rfl ?_
                refine g_goto (tgt := 6) X dX7_bound_89 (by decide) ?_
                refine g_lv (lv' := [(5, .int (nI (T + 1))), (4, .int (zI ((val T w : Nat) : Int))), (0, .ref (mo 0)), (1, .int (nI i)), (2, .int (nI w)), (3, .int (nI 0))]) [0, 1, 4, 5, 6, 7] rfl ?_
                exact ih6 _ (by omega) (T + 1) ((val T w : Nat) : Int) (by omega) (MxT_new hX hv (Or.inl c41)) rfl
            · rw [zI_inj (by omega) (by omega) (by omega) (by omega)] at c41
              refine g_iload_n X dX7_bound_44 6 rfl rfl ?_
              refine g_if_eqN (tgt := 58) X dX7_bound_45 (by decide) (by omega) (fun c45 => ?_) (fun c45 => ?_)
              · refine g_iload X dX7_bound_58 0 rfl ?_
                refine g_iload X dX7_bound_60 2 rfl ?_
                refine g_icmp_le (tgt := 69) X dX7_bound_62 (by decide) (fun c62 => ?_) (fun c62 => ?_)
                · rw [zI_nI (val T w), zI_le (by omega) (by omega) (by omega) (by omega)] at c62
                  refine g_iconst (x := nI 0) X dX7_bound_69 (by decide +kernel) ?_
                  refine g_istore (lv' := [(7, .int (nI 0)), (6, .int (nI (val T w))), (5, .int (nI T)), (4, .int (zI x9)), (0, .ref (mo 0)), (1, .int (nI i)), (2, .int (nI w)), (3, .int (nI 0))]) X dX7_bound_70 (by decide) rfl ?_
                  refine g_iload X dX7_bound_72 0 rfl ?_
                  refine g_if_eqN (tgt := 82) X dX7_bound_74 (by decide) (by omega) (fun c74 => ?_) (fun c74 => ?_)
                  · refine g_iload X dX7_bound_82 3 rfl ?_
                    refine g_istore (lv' := [(4, .int (zI x9)), (7, .int (nI 0)), (6, .int (nI (val T w))), (5, .int (nI T)), (0, .ref (mo 0)), (1, .int (nI i)), (2, .int (nI w)), (3, .int (nI 0))]) X dX7_bound_84 (by decide) rfl ?_
                    refine g_iinc (y := nI (T + 1)) (lv' := [(5, .int (nI (T + 1))), (4, .int (zI x9)), (7, .int (nI 0)), (6, .int (nI (val T w))), (0, .ref (mo 0)), (1, .int (nI i)), (2, .int (nI w)), (3, .int (nI 0))]) (j := 3) X dX7_bound_86 rfl (nI_add T 1) (by decide) rfl ?_
                    refine g_goto (tgt := 6) X dX7_bound_89 (by decide) ?_
                    refine g_lv (lv' := [(5, .int (nI (T + 1))), (4, .int (zI x9)), (0, .ref (mo 0)), (1, .int (nI i)), (2, .int (nI w)), (3, .int (nI 0))]) [0, 1, 4, 5, 6, 7] rfl ?_
                    exact ih6 _ (by omega) (T + 1) x9 (by omega) (MxT_keep hX c41 (by omega)) rfl
                  · exact absurd rfl c74
                · rw [zI_nI (val T w), zI_le (by omega) (by omega) (by omega) (by omega)] at c62
                  refine g_iconst (x := nI 1) X dX7_bound_65 (by decide +kernel) ?_
                  refine g_goto (tgt := 70) X dX7_bound_66 (by decide) ?_
                  refine g_istore (lv' := [(7, .int (nI 1)), (6, .int (nI (val T w))), (5, .int (nI T)), (4, .int (zI x9)), (0, .ref (mo 0)), (1, .int (nI i)), (2, .int (nI w)), (3, .int (nI 0))]) X dX7_bound_70 (by decide) rfl ?_
                  refine g_iload X dX7_bound_72 0 rfl ?_
                  refine g_if_eqN (tgt := 82) X dX7_bound_74 (by decide) (by omega) (fun c74 => ?_) (fun c74 => ?_)
                  · exact absurd c74 (by decide)
                  · refine g_iload X dX7_bound_77 1 rfl ?_
                    refine g_goto (tgt := 84) X dX7_bound_79 (by decide) ?_
                    refine g_v (y := zI ((val T w : Nat) : Int)) (zI_nI _) ?_
                    refine g_istore (lv' := [(4, .int (zI ((val T w : Nat) : Int))), (7, .int (nI 1)), (6, .int (nI (val T w))), (5, .int (nI T)), (0, .ref (mo 0)), (1, .int (nI i)), (2, .int (nI w)), (3, .int (nI 0))]) X dX7_bound_84 (by decide) rfl ?_
                    refine g_iinc (y := nI (T + 1)) (lv' := [(5, .int (nI (T + 1))), (4, .int (zI ((val T w : Nat) : Int))), (7, .int (nI 1)), (6, .int (nI (val T w))), (0, .ref (mo 0)), (1, .int (nI i)), (2, .int (nI w)), (3, .int (nI 0))]) (j := 3) X dX7_bound_86 rfl (nI_add T 1) (by decide) rfl ?_
                    refine g_goto (tgt := 6) X dX7_bound_89 (by decide) ?_
                    refine g_lv (lv' := [(5, .int (nI (T + 1))), (4, .int (zI ((val T w : Nat) : Int))), (0, .ref (mo 0)), (1, .int (nI i)), (2, .int (nI w)), (3, .int (nI 0))]) [0, 1, 4, 5, 6, 7] rfl ?_
                    exact ih6 _ (by omega) (T + 1) ((val T w : Nat) : Int) (by omega) (MxT_new hX hv (Or.inr (by omega))) rfl
              · exact absurd rfl c45
        · refine g_v (y := nI 0) h1 ?_
          refine g_if_eqN (tgt := 69) X dX7_bound_35 (by decide) (by omega) (fun c35 => ?_) (fun c35 => ?_)
          · refine g_iconst (x := nI 0) X dX7_bound_69 (by decide +kernel) ?_
            refine g_istore (lv' := [(7, .int (nI 0)), (6, .int (nI (val T w))), (5, .int (nI T)), (4, .int (zI x9)), (0, .ref (mo 0)), (1, .int (nI i)), (2, .int (nI w)), (3, .int (nI 0))]) X dX7_bound_70 (by decide) rfl ?_
            refine g_iload X dX7_bound_72 0 rfl ?_
            refine g_if_eqN (tgt := 82) X dX7_bound_74 (by decide) (by omega) (fun c74 => ?_) (fun c74 => ?_)
            · refine g_iload X dX7_bound_82 3 rfl ?_
              refine g_istore (lv' := [(4, .int (zI x9)), (7, .int (nI 0)), (6, .int (nI (val T w))), (5, .int (nI T)), (0, .ref (mo 0)), (1, .int (nI i)), (2, .int (nI w)), (3, .int (nI 0))]) X dX7_bound_84 (by decide) rfl ?_
              refine g_iinc (y := nI (T + 1)) (lv' := [(5, .int (nI (T + 1))), (4, .int (zI x9)), (7, .int (nI 0)), (6, .int (nI (val T w))), (0, .ref (mo 0)), (1, .int (nI i)), (2, .int (nI w)), (3, .int (nI 0))]) (j := 3) X dX7_bound_86 rfl (nI_add T 1) (by decide) rfl ?_
              refine g_goto (tgt := 6) X dX7_bound_89 (by decide) ?_
              refine g_lv (lv' := [(5, .int (nI (T + 1))), (4, .int (zI x9)), (0, .ref (mo 0)), (1, .int (nI i)), (2, .int (nI w)), (3, .int (nI 0))]) [0, 1, 4, 5, 6, 7] rfl ?_
              exact ih6 _ (by omega) (T + 1) x9 (by omega) (MxT_skip hX hnv) rfl
            · exact absurd rfl c74
          · exact absurd rfl c35
  exact lp6 _ 0 (-1) (by omega) MxT_0 rfl

