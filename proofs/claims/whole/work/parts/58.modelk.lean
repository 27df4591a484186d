/-! ## the model: made; where assume throws -/
theorem SR_new {P : Nat → S9} : SR P 0 (fun _ => 0) (fun _ => 7) (upd (upd (upd (fun _ => 0) (61 + 2 * 0 + 1) (nI 7)) (61 + 2 * 1 + 1) (nI 7)) (61 + 2 * 2 + 1) (nI 7)) := by
  refine ⟨rfl, fun i h => absurd h (Nat.not_lt_zero _), fun w hw => ?_⟩
  rcases (show w = 0 ∨ w = 1 ∨ w = 2 by omega) with rfl | rfl | rfl <;> exact ⟨rfl, rfl⟩

set_option maxHeartbeats 4000000 in
set_option maxRecDepth 100000 in
theorem c_X7_init (l : Launch) (v : VV) (z0 : Nat) (P : Nat → S9) : MU l v yX7_init cX7_init 2 none ({ frames := 1, cells := 6, slots := 13901, locals := 20 }) [.ref z0] [[(z0, .inr (7, [.int 0, .null, .null, .int 0, .null, .int 0, .null, .int 0, .int 0, .null, .null, .int 0, .int 0, .long 0]))]] (fun _ w_ => ∃ mo fs fv ft fr fe fn, mo 0 = z0 ∧ SR P 0 (fun _ => 0) (fun _ => 7) fs ∧ w_ = [cMo v mo 0 0 0 0 0 0 0 0, cMs v mo fs, cMv v mo fv, cMt v mo ft, cMr v mo fr, cMe v mo fe, cMn v mo fn]) 6 13901 := by
  refine mm_void rfl (by decide) (Nat.le_of_ble_eq_true rfl) [(0, .ref z0)] rfl (fun k X hin E => ?_)
  refine g_aload_n X dX7_init_0 0 rfl rfl ?_
  refine g_objInit X q_4_17 q_1_11 q_1_12 dX7_init_1 (by decide) (by decide) ?_
  refine g_aload_n X dX7_init_4 0 rfl rfl ?_
  refine g_bipush (x := nI 67) X dX7_init_5 (by decide +kernel) ?_
  refine g_newa 0 (N := 67) (atype := .int) (ty := .int) (a0 := (67, .inl (fun _ => 0))) X q_2_16 rfl dX7_init_7 rfl (fun _ => rfl) (by decide) (by decide) (by decide) (by decide) (fun n1 => ?_)
  show GG k 1 67 [[(z0, .inr (7, [.int 0, .null, .null, .int 0, .null, .int 0, .null, .int 0, .int 0, .null, .null, .int 0, .int 0, .long 0]))], [(n1, .inl (v.2.1 0, 67, .inl (fun _ => 0)))]] _ _ _
  refine g_putF (cs' := [[(z0, .inr (7, [.int 0, .ref n1, .null, .int 0, .null, .int 0, .null, .int 0, .int 0, .null, .null, .int 0, .int 0, .long 0]))], [(n1, .inl (v.2.1 0, 67, .inl (fun _ => 0)))]]) X hin cb7 1 q_4_18 dX7_init_9 0 0 rfl rfl (by decide) rfl rfl rfl (rfl) (rfl) (Nat.le_of_ble_eq_true rfl) rfl ?_
  refine g_aload_n X dX7_init_12 0 rfl rfl ?_
  refine g_sipush (x := nI 402) X dX7_init_13 (by decide +kernel) ?_
  refine g_newa 0 (N := 402) (atype := .int) (ty := .int) (a0 := (402, .inl (fun _ => 0))) X q_2_16 rfl dX7_init_16 rfl (fun _ => rfl) (by decide) (by decide) (by decide) (by decide) (fun n2 => ?_)
  show GG k 2 469 [[(z0, .inr (7, [.int 0, .ref n1, .null, .int 0, .null, .int 0, .null, .int 0, .int 0, .null, .null, .int 0, .int 0, .long 0]))], [(n1, .inl (v.2.1 0, 67, .inl (fun _ => 0)))], [(n2, .inl (v.2.1 0, 402, .inl (fun _ => 0)))]] _ _ _
  refine g_putF (cs' := [[(z0, .inr (7, [.int 0, .ref n1, .ref n2, .int 0, .null, .int 0, .null, .int 0, .int 0, .null, .null, .int 0, .int 0, .long 0]))], [(n1, .inl (v.2.1 0, 67, .inl (fun _ => 0)))], [(n2, .inl (v.2.1 0, 402, .inl (fun _ => 0)))]]) X hin cb7 2 q_4_19 dX7_init_18 0 0 rfl rfl (by decide) rfl rfl rfl (rfl) (rfl) (Nat.le_of_ble_eq_true rfl) rfl ?_
  refine g_aload_n X dX7_init_21 0 rfl rfl ?_
  refine g_bipush (x := nI 60) X dX7_init_22 (by decide +kernel) ?_
  refine g_newa 0 (N := 60) (atype := .int) (ty := .int) (a0 := (60, .inl (fun _ => 0))) X q_2_16 rfl dX7_init_24 rfl (fun _ => rfl) (by decide) (by decide) (by decide) (by decide) (fun n3 => ?_)
  show GG k 3 529 [[(z0, .inr (7, [.int 0, .ref n1, .ref n2, .int 0, .null, .int 0, .null, .int 0, .int 0, .null, .null, .int 0, .int 0, .long 0]))], [(n1, .inl (v.2.1 0, 67, .inl (fun _ => 0)))], [(n2, .inl (v.2.1 0, 402, .inl (fun _ => 0)))], [(n3, .inl (v.2.1 0, 60, .inl (fun _ => 0)))]] _ _ _
  refine g_putF (cs' := [[(z0, .inr (7, [.int 0, .ref n1, .ref n2, .int 0, .ref n3, .int 0, .null, .int 0, .int 0, .null, .null, .int 0, .int 0, .long 0]))], [(n1, .inl (v.2.1 0, 67, .inl (fun _ => 0)))], [(n2, .inl (v.2.1 0, 402, .inl (fun _ => 0)))], [(n3, .inl (v.2.1 0, 60, .inl (fun _ => 0)))]]) X hin cb7 4 q_4_20 dX7_init_26 0 0 rfl rfl (by decide) rfl rfl rfl (rfl) (rfl) (Nat.le_of_ble_eq_true rfl) rfl ?_
  refine g_aload_n X dX7_init_29 0 rfl rfl ?_
  refine g_bipush (x := nI 60) X dX7_init_30 (by decide +kernel) ?_
  refine g_newa 0 (N := 60) (atype := .int) (ty := .int) (a0 := (60, .inl (fun _ => 0))) X q_2_16 rfl dX7_init_32 rfl (fun _ => rfl) (by decide) (by decide) (by decide) (by decide) (fun n4 => ?_)
  show GG k 4 589 [[(z0, .inr (7, [.int 0, .ref n1, .ref n2, .int 0, .ref n3, .int 0, .null, .int 0, .int 0, .null, .null, .int 0, .int 0, .long 0]))], [(n1, .inl (v.2.1 0, 67, .inl (fun _ => 0)))], [(n2, .inl (v.2.1 0, 402, .inl (fun _ => 0)))], [(n3, .inl (v.2.1 0, 60, .inl (fun _ => 0)))], [(n4, .inl (v.2.1 0, 60, .inl (fun _ => 0)))]] _ _ _
  refine g_putF (cs' := [[(z0, .inr (7, [.int 0, .ref n1, .ref n2, .int 0, .ref n3, .int 0, .ref n4, .int 0, .int 0, .null, .null, .int 0, .int 0, .long 0]))], [(n1, .inl (v.2.1 0, 67, .inl (fun _ => 0)))], [(n2, .inl (v.2.1 0, 402, .inl (fun _ => 0)))], [(n3, .inl (v.2.1 0, 60, .inl (fun _ => 0)))], [(n4, .inl (v.2.1 0, 60, .inl (fun _ => 0)))]]) X hin cb7 6 q_4_21 dX7_init_34 0 0 rfl rfl (by decide) rfl rfl rfl (rfl) (rfl) (Nat.le_of_ble_eq_true rfl) rfl ?_
  refine g_aload_n X dX7_init_37 0 rfl rfl ?_
  refine g_sipush (x := nI 6656) X dX7_init_38 (by decide +kernel) ?_
  refine g_newa 0 (N := 6656) (atype := .int) (ty := .int) (a0 := (6656, .inl (fun _ => 0))) X q_2_16 rfl dX7_init_41 rfl (fun _ => rfl) (by decide) (by decide) (by decide) (by decide) (fun n5 => ?_)
  show GG k 5 7245 [[(z0, .inr (7, [.int 0, .ref n1, .ref n2, .int 0, .ref n3, .int 0, .ref n4, .int 0, .int 0, .null, .null, .int 0, .int 0, .long 0]))], [(n1, .inl (v.2.1 0, 67, .inl (fun _ => 0)))], [(n2, .inl (v.2.1 0, 402, .inl (fun _ => 0)))], [(n3, .inl (v.2.1 0, 60, .inl (fun _ => 0)))], [(n4, .inl (v.2.1 0, 60, .inl (fun _ => 0)))], [(n5, .inl (v.2.1 0, 6656, .inl (fun _ => 0)))]] _ _ _
  refine g_putF (cs' := [[(z0, .inr (7, [.int 0, .ref n1, .ref n2, .int 0, .ref n3, .int 0, .ref n4, .int 0, .int 0, .ref n5, .null, .int 0, .int 0, .long 0]))], [(n1, .inl (v.2.1 0, 67, .inl (fun _ => 0)))], [(n2, .inl (v.2.1 0, 402, .inl (fun _ => 0)))], [(n3, .inl (v.2.1 0, 60, .inl (fun _ => 0)))], [(n4, .inl (v.2.1 0, 60, .inl (fun _ => 0)))], [(n5, .inl (v.2.1 0, 6656, .inl (fun _ => 0)))]]) X hin cb7 9 q_4_22 dX7_init_43 0 0 rfl rfl (by decide) rfl rfl rfl (rfl) (rfl) (Nat.le_of_ble_eq_true rfl) rfl ?_
  refine g_aload_n X dX7_init_46 0 rfl rfl ?_
  refine g_sipush (x := nI 6656) X dX7_init_47 (by decide +kernel) ?_
  refine g_newa 2 (N := 6656) (atype := .boolean) (ty := .boolean) (a0 := (6656, .inl (fun _ => 0))) X q_4_23 rfl dX7_init_50 rfl (fun _ => rfl) (by decide) (by decide) (by decide) (by decide) (fun n6 => ?_)
  show GG k 6 13901 [[(z0, .inr (7, [.int 0, .ref n1, .ref n2, .int 0, .ref n3, .int 0, .ref n4, .int 0, .int 0, .ref n5, .null, .int 0, .int 0, .long 0]))], [(n1, .inl (v.2.1 0, 67, .inl (fun _ => 0)))], [(n2, .inl (v.2.1 0, 402, .inl (fun _ => 0)))], [(n3, .inl (v.2.1 0, 60, .inl (fun _ => 0)))], [(n4, .inl (v.2.1 0, 60, .inl (fun _ => 0)))], [(n5, .inl (v.2.1 0, 6656, .inl (fun _ => 0)))], [(n6, .inl (v.2.1 2, 6656, .inl (fun _ => 0)))]] _ _ _
  refine g_putF (cs' := [[(z0, .inr (7, [.int 0, .ref n1, .ref n2, .int 0, .ref n3, .int 0, .ref n4, .int 0, .int 0, .ref n5, .ref n6, .int 0, .int 0, .long 0]))], [(n1, .inl (v.2.1 0, 67, .inl (fun _ => 0)))], [(n2, .inl (v.2.1 0, 402, .inl (fun _ => 0)))], [(n3, .inl (v.2.1 0, 60, .inl (fun _ => 0)))], [(n4, .inl (v.2.1 0, 60, .inl (fun _ => 0)))], [(n5, .inl (v.2.1 0, 6656, .inl (fun _ => 0)))], [(n6, .inl (v.2.1 2, 6656, .inl (fun _ => 0)))]]) X hin cb7 10 q_5_0 dX7_init_52 0 0 rfl rfl (by decide) rfl rfl rfl (rfl) (rfl) (Nat.le_of_ble_eq_true rfl) rfl ?_
  refine g_iconst (x := nI 0) X dX7_init_55 (by decide +kernel) ?_
  refine g_istore_n (lv' := [(1, .int (nI 0)), (0, .ref z0)]) X dX7_init_56 rfl (by decide) rfl ?_
  refine g_iload_n X dX7_init_57 0 rfl rfl ?_
  refine g_iconst (x := nI 3) X dX7_init_58 (by decide +kernel) ?_
  refine g_icmp_geN (tgt := 83) X dX7_init_59 (by decide) (by omega) (by omega) (fun c59 => ?_) (fun c59 => ?_)
  · exact absurd c59 (by decide)
  · refine g_aload_n X dX7_init_62 1 rfl rfl ?_
    refine g_get X cb7 1 q_4_18 dX7_init_63 0 0 rfl rfl (by decide) rfl rfl ?_
    refine g_bipush (x := nI 61) X dX7_init_66 (by decide +kernel) ?_
    refine g_iconst (x := nI 2) X dX7_init_68 (by decide +kernel) ?_
    refine g_iload_n X dX7_init_69 0 rfl rfl ?_
    refine g_imulN X dX7_init_70 ?_
    refine g_iaddN X dX7_init_71 ?_
    refine g_iconst (x := nI 1) X dX7_init_72 (by decide +kernel) ?_
    refine g_iaddN X dX7_init_73 ?_
    refine g_bipush (x := nI 7) X dX7_init_74 (by decide +kernel) ?_
    refine g_iast (cs' := [[(z0, .inr (7, [.int 0, .ref n1, .ref n2, .int 0, .ref n3, .int 0, .ref n4, .int 0, .int 0, .ref n5, .ref n6, .int 0, .int 0, .long 0]))], [(n1, .inl (v.2.1 0, 67, .inl (upd (fun _ => 0) ((61 + (2 * 0)) + 1) (nI 7))))], [(n2, .inl (v.2.1 0, 402, .inl (fun _ => 0)))], [(n3, .inl (v.2.1 0, 60, .inl (fun _ => 0)))], [(n4, .inl (v.2.1 0, 60, .inl (fun _ => 0)))], [(n5, .inl (v.2.1 0, 6656, .inl (fun _ => 0)))], [(n6, .inl (v.2.1 2, 6656, .inl (fun _ => 0)))]]) X dX7_init_76 1 0 rfl rfl (by omega) (by omega) rfl ?_
    refine g_iinc (y := nI 1) (lv' := [(1, .int (nI 1)), (0, .ref z0)]) (j := 0) X dX7_init_77 rfl (nI_add 0 1) (by decide) rfl ?_
    refine g_goto (tgt := 57) X dX7_init_80 (by decide) ?_
    refine g_iload_n X dX7_init_57 0 rfl rfl ?_
    refine g_iconst (x := nI 3) X dX7_init_58 (by decide +kernel) ?_
    refine g_icmp_geN (tgt := 83) X dX7_init_59 (by decide) (by omega) (by omega) (fun c59 => ?_) (fun c59 => ?_)
    · exact absurd c59 (by decide)
    · refine g_aload_n X dX7_init_62 1 rfl rfl ?_
      refine g_get X cb7 1 q_4_18 dX7_init_63 0 0 rfl rfl (by decide) rfl rfl ?_
      refine g_bipush (x := nI 61) X dX7_init_66 (by decide +kernel) ?_
      refine g_iconst (x := nI 2) X dX7_init_68 (by decide +kernel) ?_
      refine g_iload_n X dX7_init_69 0 rfl rfl ?_
      refine g_imulN X dX7_init_70 ?_
      refine g_iaddN X dX7_init_71 ?_
      refine g_iconst (x := nI 1) X dX7_init_72 (by decide +kernel) ?_
      refine g_iaddN X dX7_init_73 ?_
      refine g_bipush (x := nI 7) X dX7_init_74 (by decide +kernel) ?_
      refine g_iast (cs' := [[(z0, .inr (7, [.int 0, .ref n1, .ref n2, .int 0, .ref n3, .int 0, .ref n4, .int 0, .int 0, .ref n5, .ref n6, .int 0, .int 0, .long 0]))], [(n1, .inl (v.2.1 0, 67, .inl (upd (upd (fun _ => 0) ((61 + (2 * 0)) + 1) (nI 7)) ((61 + (2 * 1)) + 1) (nI 7))))], [(n2, .inl (v.2.1 0, 402, .inl (fun _ => 0)))], [(n3, .inl (v.2.1 0, 60, .inl (fun _ => 0)))], [(n4, .inl (v.2.1 0, 60, .inl (fun _ => 0)))], [(n5, .inl (v.2.1 0, 6656, .inl (fun _ => 0)))], [(n6, .inl (v.2.1 2, 6656, .inl (fun _ => 0)))]]) X dX7_init_76 1 0 rfl rfl (by omega) (by omega) rfl ?_
      refine g_iinc (y := nI 2) (lv' := [(1, .int (nI 2)), (0, .ref z0)]) (j := 0) X dX7_init_77 rfl (nI_add 1 1) (by decide) rfl ?_
      refine g_goto (tgt := 57) X dX7_init_80 (by decide) ?_
      refine g_iload_n X dX7_init_57 0 rfl rfl ?_
      refine g_iconst (x := nI 3) X dX7_init_58 (by decide +kernel) ?_
      refine g_icmp_geN (tgt := 83) X dX7_init_59 (by decide) (by omega) (by omega) (fun c59 => ?_) (fun c59 => ?_)
      · exact absurd c59 (by decide)
      · refine g_aload_n X dX7_init_62 1 rfl rfl ?_
        refine g_get X cb7 1 q_4_18 dX7_init_63 0 0 rfl rfl (by decide) rfl rfl ?_
        refine g_bipush (x := nI 61) X dX7_init_66 (by decide +kernel) ?_
        refine g_iconst (x := nI 2) X dX7_init_68 (by decide +kernel) ?_
        refine g_iload_n X dX7_init_69 0 rfl rfl ?_
        refine g_imulN X dX7_init_70 ?_
        refine g_iaddN X dX7_init_71 ?_
        refine g_iconst (x := nI 1) X dX7_init_72 (by decide +kernel) ?_
        refine g_iaddN X dX7_init_73 ?_
        refine g_bipush (x := nI 7) X dX7_init_74 (by decide +kernel) ?_
        refine g_iast (cs' := [[(z0, .inr (7, [.int 0, .ref n1, .ref n2, .int 0, .ref n3, .int 0, .ref n4, .int 0, .int 0, .ref n5, .ref n6, .int 0, .int 0, .long 0]))], [(n1, .inl (v.2.1 0, 67, .inl (upd (upd (upd (fun _ => 0) ((61 + (2 * 0)) + 1) (nI 7)) ((61 + (2 * 1)) + 1) (nI 7)) ((61 + (2 * 2)) + 1) (nI 7))))], [(n2, .inl (v.2.1 0, 402, .inl (fun _ => 0)))], [(n3, .inl (v.2.1 0, 60, .inl (fun _ => 0)))], [(n4, .inl (v.2.1 0, 60, .inl (fun _ => 0)))], [(n5, .inl (v.2.1 0, 6656, .inl (fun _ => 0)))], [(n6, .inl (v.2.1 2, 6656, .inl (fun _ => 0)))]]) X dX7_init_76 1 0 rfl rfl (by omega) (by omega) rfl ?_
        refine g_iinc (y := nI 3) (lv' := [(1, .int (nI 3)), (0, .ref z0)]) (j := 0) X dX7_init_77 rfl (nI_add 2 1) (by decide) rfl ?_
        refine g_goto (tgt := 57) X dX7_init_80 (by decide) ?_
        refine g_iload_n X dX7_init_57 0 rfl rfl ?_
        refine g_iconst (x := nI 3) X dX7_init_58 (by decide +kernel) ?_
        refine g_icmp_geN (tgt := 83) X dX7_init_59 (by decide) (by omega) (by omega) (fun c59 => ?_) (fun c59 => ?_)
        · refine g_flat (cs' := [cMo v (a7 z0 n1 n2 n3 n4 n5 n6) 0 0 0 0 0 0 0 0, cMs v (a7 z0 n1 n2 n3 n4 n5 n6) (upd (upd (upd (fun _ => 0) (61 + 2 * 0 + 1) (nI 7)) (61 + 2 * 1 + 1) (nI 7)) (61 + 2 * 2 + 1) (nI 7)), cMv v (a7 z0 n1 n2 n3 n4 n5 n6) (fun _ => 0), cMt v (a7 z0 n1 n2 n3 n4 n5 n6) (fun _ => 0), cMr v (a7 z0 n1 n2 n3 n4 n5 n6) (fun _ => 0), cMe v (a7 z0 n1 n2 n3 n4 n5 n6) (fun _ => 0), cMn v (a7 z0 n1 n2 n3 n4 n5 n6) (fun _ => 0)]) rfl ?_
          exact E dX7_init_83 (by decide) (by decide) (⟨(a7 z0 n1 n2 n3 n4 n5 n6), _, _, _, _, _, _, rfl, SR_new, rfl⟩)
        · exact absurd c59 (by decide)

