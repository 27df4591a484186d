/-! ## Constructors -/
def a2 (x0 x1 : Nat) : Nat → Nat
  | 0 => x0
  | _ => x1
def a3 (x0 x1 x2 : Nat) : Nat → Nat
  | 0 => x0
  | 1 => x1
  | _ => x2
def a5 (x0 x1 x2 x3 x4 : Nat) : Nat → Nat
  | 0 => x0
  | 1 => x1
  | 2 => x2
  | 3 => x3
  | _ => x4
def a7 (x0 x1 x2 x3 x4 x5 x6 : Nat) : Nat → Nat
  | 0 => x0
  | 1 => x1
  | 2 => x2
  | 3 => x3
  | 4 => x4
  | 5 => x5
  | _ => x6
def g2f (x0 x1 : Nat → Int32) : Nat → Nat → Int32
  | 0 => x0
  | _ => x1
def g6f {α : Type} (x0 x1 x2 x3 x4 x5 : α) : Nat → α
  | 0 => x0
  | 1 => x1
  | 2 => x2
  | 3 => x3
  | 4 => x4
  | _ => x5
theorem AsR_new : AsR (fun _ => 0) (fun _ => 7) (g2f (upd (upd (upd (fun _ => 0) 0 (nI 0)) 1 (nI 0)) 2 (nI 0)) (upd (upd (upd (fun _ => 0) 0 (nI 7)) 1 (nI 7)) 2 (nI 7))) := by
  intro w hw
  rcases (show w = 0 ∨ w = 1 ∨ w = 2 by omega) with rfl | rfl | rfl <;> exact ⟨rfl, rfl⟩
theorem AsW_new : AsW (fun _ => 0) (fun _ => 7) := fun w hw => ⟨Nat.zero_le 7, Nat.le_refl 7⟩

set_option maxHeartbeats 4000000 in
set_option maxRecDepth 100000 in
theorem c_X3_init (l : Launch) (v : VV) (z0 : Nat) : MU l v yX3_init cX3_init 1 none ({ frames := 1, cells := 6, slots := 72, locals := 20 }) [.ref z0] [[(z0, .inr (3, [.int 0, .null, .null, .null, .null, .null, .null]))]] (fun _ w_ => ∃ a, a 0 = z0 ∧ w_ = [cPg v a 0 (fun _ _ => 0)]) 6 72 := by
  refine mm_void rfl (by decide) (Nat.le_of_ble_eq_true rfl) [(0, .ref z0)] rfl (fun k X hin E => ?_)
  refine g_aload_n X dX3_init_0 0 rfl rfl ?_
  refine g_objInit X q_2_12 q_1_8 q_1_9 dX3_init_1 (by decide) (by decide) ?_
  refine g_aload_n X dX3_init_4 0 rfl rfl ?_
  refine g_bipush (x := nI 12) X dX3_init_5 (by decide +kernel) ?_
  refine g_newa 0 (N := 12) (atype := .int) (ty := .int) (a0 := (12, .inl (fun _ => 0))) X q_1_3 rfl dX3_init_7 rfl (fun _ => rfl) (by decide) (by decide) (by decide) (by decide) (fun n1 => ?_)
  show GG k 1 12 [[(z0, .inr (3, [.int 0, .null, .null, .null, .null, .null, .null]))], [(n1, .inl (v.2.1 0, 12, .inl (fun _ => 0)))]] _ _ _
  refine g_putF (cs' := [[(z0, .inr (3, [.int 0, .ref n1, .null, .null, .null, .null, .null]))], [(n1, .inl (v.2.1 0, 12, .inl (fun _ => 0)))]]) X hin cb3 1 q_2_13 dX3_init_9 0 0 rfl rfl (by decide) rfl rfl rfl (rfl) (rfl) (Nat.le_of_ble_eq_true rfl) rfl ?_
  refine g_aload_n X dX3_init_12 0 rfl rfl ?_
  refine g_bipush (x := nI 12) X dX3_init_13 (by decide +kernel) ?_
  refine g_newa 0 (N := 12) (atype := .int) (ty := .int) (a0 := (12, .inl (fun _ => 0))) X q_1_3 rfl dX3_init_15 rfl (fun _ => rfl) (by decide) (by decide) (by decide) (by decide) (fun n2 => ?_)
  show GG k 2 24 [[(z0, .inr (3, [.int 0, .ref n1, .null, .null, .null, .null, .null]))], [(n1, .inl (v.2.1 0, 12, .inl (fun _ => 0)))], [(n2, .inl (v.2.1 0, 12, .inl (fun _ => 0)))]] _ _ _
  refine g_putF (cs' := [[(z0, .inr (3, [.int 0, .ref n1, .ref n2, .null, .null, .null, .null]))], [(n1, .inl (v.2.1 0, 12, .inl (fun _ => 0)))], [(n2, .inl (v.2.1 0, 12, .inl (fun _ => 0)))]]) X hin cb3 2 q_2_14 dX3_init_17 0 0 rfl rfl (by decide) rfl rfl rfl (rfl) (rfl) (Nat.le_of_ble_eq_true rfl) rfl ?_
  refine g_aload_n X dX3_init_20 0 rfl rfl ?_
  refine g_bipush (x := nI 12) X dX3_init_21 (by decide +kernel) ?_
  refine g_newa 0 (N := 12) (atype := .int) (ty := .int) (a0 := (12, .inl (fun _ => 0))) X q_1_3 rfl dX3_init_23 rfl (fun _ => rfl) (by decide) (by decide) (by decide) (by decide) (fun n3 => ?_)
  show GG k 3 36 [[(z0, .inr (3, [.int 0, .ref n1, .ref n2, .null, .null, .null, .null]))], [(n1, .inl (v.2.1 0, 12, .inl (fun _ => 0)))], [(n2, .inl (v.2.1 0, 12, .inl (fun _ => 0)))], [(n3, .inl (v.2.1 0, 12, .inl (fun _ => 0)))]] _ _ _
  refine g_putF (cs' := [[(z0, .inr (3, [.int 0, .ref n1, .ref n2, .ref n3, .null, .null, .null]))], [(n1, .inl (v.2.1 0, 12, .inl (fun _ => 0)))], [(n2, .inl (v.2.1 0, 12, .inl (fun _ => 0)))], [(n3, .inl (v.2.1 0, 12, .inl (fun _ => 0)))]]) X hin cb3 3 q_2_15 dX3_init_25 0 0 rfl rfl (by decide) rfl rfl rfl (rfl) (rfl) (Nat.le_of_ble_eq_true rfl) rfl ?_
  refine g_aload_n X dX3_init_28 0 rfl rfl ?_
  refine g_bipush (x := nI 12) X dX3_init_29 (by decide +kernel) ?_
  refine g_newa 0 (N := 12) (atype := .int) (ty := .int) (a0 := (12, .inl (fun _ => 0))) X q_1_3 rfl dX3_init_31 rfl (fun _ => rfl) (by decide) (by decide) (by decide) (by decide) (fun n4 => ?_)
  show GG k 4 48 [[(z0, .inr (3, [.int 0, .ref n1, .ref n2, .ref n3, .null, .null, .null]))], [(n1, .inl (v.2.1 0, 12, .inl (fun _ => 0)))], [(n2, .inl (v.2.1 0, 12, .inl (fun _ => 0)))], [(n3, .inl (v.2.1 0, 12, .inl (fun _ => 0)))], [(n4, .inl (v.2.1 0, 12, .inl (fun _ => 0)))]] _ _ _
  refine g_putF (cs' := [[(z0, .inr (3, [.int 0, .ref n1, .ref n2, .ref n3, .ref n4, .null, .null]))], [(n1, .inl (v.2.1 0, 12, .inl (fun _ => 0)))], [(n2, .inl (v.2.1 0, 12, .inl (fun _ => 0)))], [(n3, .inl (v.2.1 0, 12, .inl (fun _ => 0)))], [(n4, .inl (v.2.1 0, 12, .inl (fun _ => 0)))]]) X hin cb3 4 q_2_16 dX3_init_33 0 0 rfl rfl (by decide) rfl rfl rfl (rfl) (rfl) (Nat.le_of_ble_eq_true rfl) rfl ?_
  refine g_aload_n X dX3_init_36 0 rfl rfl ?_
  refine g_bipush (x := nI 12) X dX3_init_37 (by decide +kernel) ?_
  refine g_newa 0 (N := 12) (atype := .int) (ty := .int) (a0 := (12, .inl (fun _ => 0))) X q_1_3 rfl dX3_init_39 rfl (fun _ => rfl) (by decide) (by decide) (by decide) (by decide) (fun n5 => ?_)
  show GG k 5 60 [[(z0, .inr (3, [.int 0, .ref n1, .ref n2, .ref n3, .ref n4, .null, .null]))], [(n1, .inl (v.2.1 0, 12, .inl (fun _ => 0)))], [(n2, .inl (v.2.1 0, 12, .inl (fun _ => 0)))], [(n3, .inl (v.2.1 0, 12, .inl (fun _ => 0)))], [(n4, .inl (v.2.1 0, 12, .inl (fun _ => 0)))], [(n5, .inl (v.2.1 0, 12, .inl (fun _ => 0)))]] _ _ _
  refine g_putF (cs' := [[(z0, .inr (3, [.int 0, .ref n1, .ref n2, .ref n3, .ref n4, .ref n5, .null]))], [(n1, .inl (v.2.1 0, 12, .inl (fun _ => 0)))], [(n2, .inl (v.2.1 0, 12, .inl (fun _ => 0)))], [(n3, .inl (v.2.1 0, 12, .inl (fun _ => 0)))], [(n4, .inl (v.2.1 0, 12, .inl (fun _ => 0)))], [(n5, .inl (v.2.1 0, 12, .inl (fun _ => 0)))]]) X hin cb3 5 q_2_17 dX3_init_41 0 0 rfl rfl (by decide) rfl rfl rfl (rfl) (rfl) (Nat.le_of_ble_eq_true rfl) rfl ?_
  refine g_aload_n X dX3_init_44 0 rfl rfl ?_
  refine g_bipush (x := nI 12) X dX3_init_45 (by decide +kernel) ?_
  refine g_newa 0 (N := 12) (atype := .int) (ty := .int) (a0 := (12, .inl (fun _ => 0))) X q_1_3 rfl dX3_init_47 rfl (fun _ => rfl) (by decide) (by decide) (by decide) (by decide) (fun n6 => ?_)
  show GG k 6 72 [[(z0, .inr (3, [.int 0, .ref n1, .ref n2, .ref n3, .ref n4, .ref n5, .null]))], [(n1, .inl (v.2.1 0, 12, .inl (fun _ => 0)))], [(n2, .inl (v.2.1 0, 12, .inl (fun _ => 0)))], [(n3, .inl (v.2.1 0, 12, .inl (fun _ => 0)))], [(n4, .inl (v.2.1 0, 12, .inl (fun _ => 0)))], [(n5, .inl (v.2.1 0, 12, .inl (fun _ => 0)))], [(n6, .inl (v.2.1 0, 12, .inl (fun _ => 0)))]] _ _ _
  refine g_putF (cs' := [[(z0, .inr (3, [.int 0, .ref n1, .ref n2, .ref n3, .ref n4, .ref n5, .ref n6]))], [(n1, .inl (v.2.1 0, 12, .inl (fun _ => 0)))], [(n2, .inl (v.2.1 0, 12, .inl (fun _ => 0)))], [(n3, .inl (v.2.1 0, 12, .inl (fun _ => 0)))], [(n4, .inl (v.2.1 0, 12, .inl (fun _ => 0)))], [(n5, .inl (v.2.1 0, 12, .inl (fun _ => 0)))], [(n6, .inl (v.2.1 0, 12, .inl (fun _ => 0)))]]) X hin cb3 6 q_2_18 dX3_init_49 0 0 rfl rfl (by decide) rfl rfl rfl (rfl) (rfl) (Nat.le_of_ble_eq_true rfl) rfl ?_
  refine g_flat (cs' := [cPg v (a7 z0 n1 n2 n3 n4 n5 n6) 0 (fun _ _ => 0)]) rfl ?_
  exact E dX3_init_52 (by decide) (by decide) (⟨a7 z0 n1 n2 n3 n4 n5 n6, rfl, rfl⟩)

set_option maxHeartbeats 4000000 in
set_option maxRecDepth 100000 in
theorem c_X0_init (l : Launch) (v : VV) (z0 : Nat) : MU l v yX0_init cX0_init 1 none ({ frames := 1, cells := 2, slots := 6, locals := 20 }) [.ref z0] [[(z0, .inr (0, [.null, .null]))]] (fun _ w_ => ∃ b g, b 0 = z0 ∧ AsR (fun _ => 0) (fun _ => 7) g ∧ w_ = [cAs v b g]) 2 6 := by
  refine mm_void rfl (by decide) (Nat.le_of_ble_eq_true rfl) [(0, .ref z0)] rfl (fun k X hin E => ?_)
  refine g_aload_n X dX0_init_0 0 rfl rfl ?_
  refine g_objInit X q_2_21 q_1_8 q_1_9 dX0_init_1 (by decide) (by decide) ?_
  refine g_aload_n X dX0_init_4 0 rfl rfl ?_
  refine g_iconst (x := nI 3) X dX0_init_5 (by decide +kernel) ?_
  refine g_newa 0 (N := 3) (atype := .int) (ty := .int) (a0 := (3, .inl (fun _ => 0))) X q_1_3 rfl dX0_init_6 rfl (fun _ => rfl) (by decide) (by decide) (by decide) (by decide) (fun n1 => ?_)
  show GG k 1 3 [[(z0, .inr (0, [.null, .null]))], [(n1, .inl (v.2.1 0, 3, .inl (fun _ => 0)))]] _ _ _
  refine g_dup X dX0_init_8 rfl ?_
  refine g_iconst (x := nI 0) X dX0_init_9 (by decide +kernel) ?_
  refine g_iconst (x := nI 0) X dX0_init_10 (by decide +kernel) ?_
  refine g_iast (cs' := [[(z0, .inr (0, [.null, .null]))], [(n1, .inl (v.2.1 0, 3, .inl (upd (fun _ => 0) 0 (nI 0))))]]) X dX0_init_11 1 0 rfl rfl (by omega) (by omega) rfl ?_
  refine g_dup X dX0_init_12 rfl ?_
  refine g_iconst (x := nI 1) X dX0_init_13 (by decide +kernel) ?_
  refine g_iconst (x := nI 0) X dX0_init_14 (by decide +kernel) ?_
  refine g_iast (cs' := [[(z0, .inr (0, [.null, .null]))], [(n1, .inl (v.2.1 0, 3, .inl (upd (upd (fun _ => 0) 0 (nI 0)) 1 (nI 0))))]]) X dX0_init_15 1 0 rfl rfl (by omega) (by omega) rfl ?_
  refine g_dup X dX0_init_16 rfl ?_
  refine g_iconst (x := nI 2) X dX0_init_17 (by decide +kernel) ?_
  refine g_iconst (x := nI 0) X dX0_init_18 (by decide +kernel) ?_
  refine g_iast (cs' := [[(z0, .inr (0, [.null, .null]))], [(n1, .inl (v.2.1 0, 3, .inl (upd (upd (upd (fun _ => 0) 0 (nI 0)) 1 (nI 0)) 2 (nI 0))))]]) X dX0_init_19 1 0 rfl rfl (by omega) (by omega) rfl ?_
  refine g_putF (cs' := [[(z0, .inr (0, [.ref n1, .null]))], [(n1, .inl (v.2.1 0, 3, .inl (upd (upd (upd (fun _ => 0) 0 (nI 0)) 1 (nI 0)) 2 (nI 0))))]]) X hin cb0 0 q_2_22 dX0_init_20 0 0 rfl rfl (by decide) rfl rfl rfl (rfl) (rfl) (Nat.le_of_ble_eq_true rfl) rfl ?_
  refine g_aload_n X dX0_init_23 0 rfl rfl ?_
  refine g_iconst (x := nI 3) X dX0_init_24 (by decide +kernel) ?_
  refine g_newa 0 (N := 3) (atype := .int) (ty := .int) (a0 := (3, .inl (fun _ => 0))) X q_1_3 rfl dX0_init_25 rfl (fun _ => rfl) (by decide) (by decide) (by decide) (by decide) (fun n2 => ?_)
  show GG k 2 6 [[(z0, .inr (0, [.ref n1, .null]))], [(n1, .inl (v.2.1 0, 3, .inl (upd (upd (upd (fun _ => 0) 0 (nI 0)) 1 (nI 0)) 2 (nI 0))))], [(n2, .inl (v.2.1 0, 3, .inl (fun _ => 0)))]] _ _ _
  refine g_dup X dX0_init_27 rfl ?_
  refine g_iconst (x := nI 0) X dX0_init_28 (by decide +kernel) ?_
  refine g_bipush (x := nI 7) X dX0_init_29 (by decide +kernel) ?_
  refine g_iast (cs' := [[(z0, .inr (0, [.ref n1, .null]))], [(n1, .inl (v.2.1 0, 3, .inl (upd (upd (upd (fun _ => 0) 0 (nI 0)) 1 (nI 0)) 2 (nI 0))))], [(n2, .inl (v.2.1 0, 3, .inl (upd (fun _ => 0) 0 (nI 7))))]]) X dX0_init_31 2 0 rfl rfl (by omega) (by omega) rfl ?_
  refine g_dup X dX0_init_32 rfl ?_
  refine g_iconst (x := nI 1) X dX0_init_33 (by decide +kernel) ?_
  refine g_bipush (x := nI 7) X dX0_init_34 (by decide +kernel) ?_
  refine g_iast (cs' := [[(z0, .inr (0, [.ref n1, .null]))], [(n1, .inl (v.2.1 0, 3, .inl (upd (upd (upd (fun _ => 0) 0 (nI 0)) 1 (nI 0)) 2 (nI 0))))], [(n2, .inl (v.2.1 0, 3, .inl (upd (upd (fun _ => 0) 0 (nI 7)) 1 (nI 7))))]]) X dX0_init_36 2 0 rfl rfl (by omega) (by omega) rfl ?_
  refine g_dup X dX0_init_37 rfl ?_
  refine g_iconst (x := nI 2) X dX0_init_38 (by decide +kernel) ?_
  refine g_bipush (x := nI 7) X dX0_init_39 (by decide +kernel) ?_
  refine g_iast (cs' := [[(z0, .inr (0, [.ref n1, .null]))], [(n1, .inl (v.2.1 0, 3, .inl (upd (upd (upd (fun _ => 0) 0 (nI 0)) 1 (nI 0)) 2 (nI 0))))], [(n2, .inl (v.2.1 0, 3, .inl (upd (upd (upd (fun _ => 0) 0 (nI 7)) 1 (nI 7)) 2 (nI 7))))]]) X dX0_init_41 2 0 rfl rfl (by omega) (by omega) rfl ?_
  refine g_putF (cs' := [[(z0, .inr (0, [.ref n1, .ref n2]))], [(n1, .inl (v.2.1 0, 3, .inl (upd (upd (upd (fun _ => 0) 0 (nI 0)) 1 (nI 0)) 2 (nI 0))))], [(n2, .inl (v.2.1 0, 3, .inl (upd (upd (upd (fun _ => 0) 0 (nI 7)) 1 (nI 7)) 2 (nI 7))))]]) X hin cb0 1 q_2_23 dX0_init_42 0 0 rfl rfl (by decide) rfl rfl rfl (rfl) (rfl) (Nat.le_of_ble_eq_true rfl) rfl ?_
  refine g_flat (cs' := [cAs v (a3 z0 n1 n2) (g2f (upd (upd (upd (fun _ => 0) 0 (nI 0)) 1 (nI 0)) 2 (nI 0)) (upd (upd (upd (fun _ => 0) 0 (nI 7)) 1 (nI 7)) 2 (nI 7)))]) rfl ?_
  exact E dX0_init_45 (by decide) (by decide) (⟨a3 z0 n1 n2, _, rfl, AsR_new, rfl⟩)

set_option maxHeartbeats 4000000 in
set_option maxRecDepth 100000 in
theorem c_X4_init (l : Launch) (v : VV) (z0 : Nat) (pa : Nat) : MU l v yX4_init cX4_init 2 none ({ frames := 1, cells := 1, slots := 6656, locals := 20 }) [.ref z0, .ref pa] [[(z0, .inr (4, [.null, .null, .int 0]))]] (fun _ w_ => ∃ d e, d 0 = z0 ∧ w_ = [cRu v d pa true, cEn v d e]) 1 6656 := by
  refine mm_void rfl (by decide) (Nat.le_of_ble_eq_true rfl) [(0, .ref z0), (1, .ref pa)] rfl (fun k X hin E => ?_)
  refine g_aload_n X dX4_init_0 0 rfl rfl ?_
  refine g_objInit X q_3_3 q_1_8 q_1_9 dX4_init_1 (by decide) (by decide) ?_
  refine g_aload_n X dX4_init_4 0 rfl rfl ?_
  refine g_sipush (x := nI 6656) X dX4_init_5 (by decide +kernel) ?_
  refine g_newa 0 (N := 6656) (atype := .int) (ty := .int) (a0 := (6656, .inl (fun _ => 0))) X q_1_3 rfl dX4_init_8 rfl (fun _ => rfl) (by decide) (by decide) (by decide) (by decide) (fun n1 => ?_)
  show GG k 1 6656 [[(z0, .inr (4, [.null, .null, .int 0]))], [(n1, .inl (v.2.1 0, 6656, .inl (fun _ => 0)))]] _ _ _
  refine g_putF (cs' := [[(z0, .inr (4, [.null, .ref n1, .int 0]))], [(n1, .inl (v.2.1 0, 6656, .inl (fun _ => 0)))]]) X hin cb4 1 q_3_4 dX4_init_10 0 0 rfl rfl (by decide) rfl rfl rfl (rfl) (rfl) (Nat.le_of_ble_eq_true rfl) rfl ?_
  refine g_aload_n X dX4_init_13 0 rfl rfl ?_
  refine g_iconst (x := nI 1) X dX4_init_14 (by decide +kernel) ?_
  refine g_put (cs' := [[(z0, .inr (4, [.null, .ref n1, .int (nI 1)]))], [(n1, .inl (v.2.1 0, 6656, .inl (fun _ => 0)))]]) X cb4 2 q_3_5 dX4_init_15 0 0 rfl rfl (by decide) rfl rfl (rfl) (rfl) (Nat.le_of_ble_eq_true rfl) rfl ?_
  refine g_aload_n X dX4_init_18 0 rfl rfl ?_
  refine g_aload_n X dX4_init_19 1 rfl rfl ?_
  refine g_putF (cs' := [[(z0, .inr (4, [.ref pa, .ref n1, .int (nI 1)]))], [(n1, .inl (v.2.1 0, 6656, .inl (fun _ => 0)))]]) X hin cb4 0 q_3_6 dX4_init_20 0 0 rfl rfl (by decide) rfl rfl rfl (rfl) (rfl) (Nat.le_of_ble_eq_true rfl) rfl ?_
  refine g_flat (cs' := [cRu v (a2 z0 n1) pa true, cEn v (a2 z0 n1) (fun _ => 0)]) rfl ?_
  exact E dX4_init_23 (by decide) (by decide) (⟨a2 z0 n1, _, rfl, rfl⟩)

set_option maxHeartbeats 4000000 in
set_option maxRecDepth 100000 in
theorem c_X2_init (l : Launch) (v : VV) (z0 : Nat) (pa : Nat) (ba : Nat) (ra : Nat) : MU l v yX2_init cX2_init 4 none ({ frames := 1, cells := 4, slots := 194, locals := 20 }) [.ref z0, .ref pa, .ref ba, .ref ra] [[(z0, .inr (2, [.null, .null, .null, .null, .null, .null, .int 0, .int 0, .int 0, .null, .int 0]))]] (fun _ w_ => ∃ j ex lw hg vs, j 0 = z0 ∧ w_ = [cJu v j pa ba ra 0 0 0 true, cEx v j ex, cLo v j lw, cHi v j hg, cVi v j vs]) 4 194 := by
  refine mm_void rfl (by decide) (Nat.le_of_ble_eq_true rfl) [(0, .ref z0), (1, .ref pa), (2, .ref ba), (3, .ref ra)] rfl (fun k X hin E => ?_)
  refine g_aload_n X dX2_init_0 0 rfl rfl ?_
  refine g_objInit X q_3_10 q_1_8 q_1_9 dX2_init_1 (by decide) (by decide) ?_
  refine g_aload_n X dX2_init_4 0 rfl rfl ?_
  refine g_bipush (x := nI 12) X dX2_init_5 (by decide +kernel) ?_
  refine g_newa 0 (N := 12) (atype := .int) (ty := .int) (a0 := (12, .inl (fun _ => 0))) X q_1_3 rfl dX2_init_7 rfl (fun _ => rfl) (by decide) (by decide) (by decide) (by decide) (fun n1 => ?_)
  show GG k 1 12 [[(z0, .inr (2, [.null, .null, .null, .null, .null, .null, .int 0, .int 0, .int 0, .null, .int 0]))], [(n1, .inl (v.2.1 0, 12, .inl (fun _ => 0)))]] _ _ _
  refine g_putF (cs' := [[(z0, .inr (2, [.null, .null, .null, .ref n1, .null, .null, .int 0, .int 0, .int 0, .null, .int 0]))], [(n1, .inl (v.2.1 0, 12, .inl (fun _ => 0)))]]) X hin cb2 3 q_3_11 dX2_init_9 0 0 rfl rfl (by decide) rfl rfl rfl (rfl) (rfl) (Nat.le_of_ble_eq_true rfl) rfl ?_
  refine g_aload_n X dX2_init_12 0 rfl rfl ?_
  refine g_bipush (x := nI 39) X dX2_init_13 (by decide +kernel) ?_
  refine g_newa 0 (N := 39) (atype := .int) (ty := .int) (a0 := (39, .inl (fun _ => 0))) X q_1_3 rfl dX2_init_15 rfl (fun _ => rfl) (by decide) (by decide) (by decide) (by decide) (fun n2 => ?_)
  show GG k 2 51 [[(z0, .inr (2, [.null, .null, .null, .ref n1, .null, .null, .int 0, .int 0, .int 0, .null, .int 0]))], [(n1, .inl (v.2.1 0, 12, .inl (fun _ => 0)))], [(n2, .inl (v.2.1 0, 39, .inl (fun _ => 0)))]] _ _ _
  refine g_putF (cs' := [[(z0, .inr (2, [.null, .null, .null, .ref n1, .ref n2, .null, .int 0, .int 0, .int 0, .null, .int 0]))], [(n1, .inl (v.2.1 0, 12, .inl (fun _ => 0)))], [(n2, .inl (v.2.1 0, 39, .inl (fun _ => 0)))]]) X hin cb2 4 q_3_12 dX2_init_17 0 0 rfl rfl (by decide) rfl rfl rfl (rfl) (rfl) (Nat.le_of_ble_eq_true rfl) rfl ?_
  refine g_aload_n X dX2_init_20 0 rfl rfl ?_
  refine g_bipush (x := nI 39) X dX2_init_21 (by decide +kernel) ?_
  refine g_newa 0 (N := 39) (atype := .int) (ty := .int) (a0 := (39, .inl (fun _ => 0))) X q_1_3 rfl dX2_init_23 rfl (fun _ => rfl) (by decide) (by decide) (by decide) (by decide) (fun n3 => ?_)
  show GG k 3 90 [[(z0, .inr (2, [.null, .null, .null, .ref n1, .ref n2, .null, .int 0, .int 0, .int 0, .null, .int 0]))], [(n1, .inl (v.2.1 0, 12, .inl (fun _ => 0)))], [(n2, .inl (v.2.1 0, 39, .inl (fun _ => 0)))], [(n3, .inl (v.2.1 0, 39, .inl (fun _ => 0)))]] _ _ _
  refine g_putF (cs' := [[(z0, .inr (2, [.null, .null, .null, .ref n1, .ref n2, .ref n3, .int 0, .int 0, .int 0, .null, .int 0]))], [(n1, .inl (v.2.1 0, 12, .inl (fun _ => 0)))], [(n2, .inl (v.2.1 0, 39, .inl (fun _ => 0)))], [(n3, .inl (v.2.1 0, 39, .inl (fun _ => 0)))]]) X hin cb2 5 q_3_13 dX2_init_25 0 0 rfl rfl (by decide) rfl rfl rfl (rfl) (rfl) (Nat.le_of_ble_eq_true rfl) rfl ?_
  refine g_aload_n X dX2_init_28 0 rfl rfl ?_
  refine g_bipush (x := nI 104) X dX2_init_29 (by decide +kernel) ?_
  refine g_newa 1 (N := 104) (atype := .long) (ty := .long) (a0 := (104, .inr (.inl (fun _ => 0)))) X q_3_14 rfl dX2_init_31 rfl (fun _ => rfl) (by decide) (by decide) (by decide) (by decide) (fun n4 => ?_)
  show GG k 4 194 [[(z0, .inr (2, [.null, .null, .null, .ref n1, .ref n2, .ref n3, .int 0, .int 0, .int 0, .null, .int 0]))], [(n1, .inl (v.2.1 0, 12, .inl (fun _ => 0)))], [(n2, .inl (v.2.1 0, 39, .inl (fun _ => 0)))], [(n3, .inl (v.2.1 0, 39, .inl (fun _ => 0)))], [(n4, .inl (v.2.1 1, 104, .inr (.inl (fun _ => 0))))]] _ _ _
  refine g_putF (cs' := [[(z0, .inr (2, [.null, .null, .null, .ref n1, .ref n2, .ref n3, .int 0, .int 0, .int 0, .ref n4, .int 0]))], [(n1, .inl (v.2.1 0, 12, .inl (fun _ => 0)))], [(n2, .inl (v.2.1 0, 39, .inl (fun _ => 0)))], [(n3, .inl (v.2.1 0, 39, .inl (fun _ => 0)))], [(n4, .inl (v.2.1 1, 104, .inr (.inl (fun _ => 0))))]]) X hin cb2 9 q_3_15 dX2_init_33 0 0 rfl rfl (by decide) rfl rfl rfl (rfl) (rfl) (Nat.le_of_ble_eq_true rfl) rfl ?_
  refine g_aload_n X dX2_init_36 0 rfl rfl ?_
  refine g_iconst (x := nI 1) X dX2_init_37 (by decide +kernel) ?_
  refine g_put (cs' := [[(z0, .inr (2, [.null, .null, .null, .ref n1, .ref n2, .ref n3, .int 0, .int 0, .int 0, .ref n4, .int (nI 1)]))], [(n1, .inl (v.2.1 0, 12, .inl (fun _ => 0)))], [(n2, .inl (v.2.1 0, 39, .inl (fun _ => 0)))], [(n3, .inl (v.2.1 0, 39, .inl (fun _ => 0)))], [(n4, .inl (v.2.1 1, 104, .inr (.inl (fun _ => 0))))]]) X cb2 10 q_3_16 dX2_init_38 0 0 rfl rfl (by decide) rfl rfl (rfl) (rfl) (Nat.le_of_ble_eq_true rfl) rfl ?_
  refine g_aload_n X dX2_init_41 0 rfl rfl ?_
  refine g_aload_n X dX2_init_42 1 rfl rfl ?_
  refine g_putF (cs' := [[(z0, .inr (2, [.ref pa, .null, .null, .ref n1, .ref n2, .ref n3, .int 0, .int 0, .int 0, .ref n4, .int (nI 1)]))], [(n1, .inl (v.2.1 0, 12, .inl (fun _ => 0)))], [(n2, .inl (v.2.1 0, 39, .inl (fun _ => 0)))], [(n3, .inl (v.2.1 0, 39, .inl (fun _ => 0)))], [(n4, .inl (v.2.1 1, 104, .inr (.inl (fun _ => 0))))]]) X hin cb2 0 q_3_17 dX2_init_43 0 0 rfl rfl (by decide) rfl rfl rfl (rfl) (rfl) (Nat.le_of_ble_eq_true rfl) rfl ?_
  refine g_aload_n X dX2_init_46 0 rfl rfl ?_
  refine g_aload_n X dX2_init_47 2 rfl rfl ?_
  refine g_putF (cs' := [[(z0, .inr (2, [.ref pa, .ref ba, .null, .ref n1, .ref n2, .ref n3, .int 0, .int 0, .int 0, .ref n4, .int (nI 1)]))], [(n1, .inl (v.2.1 0, 12, .inl (fun _ => 0)))], [(n2, .inl (v.2.1 0, 39, .inl (fun _ => 0)))], [(n3, .inl (v.2.1 0, 39, .inl (fun _ => 0)))], [(n4, .inl (v.2.1 1, 104, .inr (.inl (fun _ => 0))))]]) X hin cb2 1 q_3_18 dX2_init_48 0 0 rfl rfl (by decide) rfl rfl rfl (rfl) (rfl) (Nat.le_of_ble_eq_true rfl) rfl ?_
  refine g_aload_n X dX2_init_51 0 rfl rfl ?_
  refine g_aload_n X dX2_init_52 3 rfl rfl ?_
  refine g_putF (cs' := [[(z0, .inr (2, [.ref pa, .ref ba, .ref ra, .ref n1, .ref n2, .ref n3, .int 0, .int 0, .int 0, .ref n4, .int (nI 1)]))], [(n1, .inl (v.2.1 0, 12, .inl (fun _ => 0)))], [(n2, .inl (v.2.1 0, 39, .inl (fun _ => 0)))], [(n3, .inl (v.2.1 0, 39, .inl (fun _ => 0)))], [(n4, .inl (v.2.1 1, 104, .inr (.inl (fun _ => 0))))]]) X hin cb2 2 q_3_19 dX2_init_53 0 0 rfl rfl (by decide) rfl rfl rfl (rfl) (rfl) (Nat.le_of_ble_eq_true rfl) rfl ?_
  refine g_flat (cs' := [cJu v (a5 z0 n1 n2 n3 n4) pa ba ra 0 0 0 true, cEx v (a5 z0 n1 n2 n3 n4) (fun _ => 0), cLo v (a5 z0 n1 n2 n3 n4) (fun _ => 0), cHi v (a5 z0 n1 n2 n3 n4) (fun _ => 0), cVi v (a5 z0 n1 n2 n3 n4) (fun _ => 0)]) rfl ?_
  exact E dX2_init_56 (by decide) (by decide) (⟨a5 z0 n1 n2 n3 n4, _, _, _, _, rfl, rfl⟩)

set_option maxHeartbeats 4000000 in
set_option maxRecDepth 100000 in
theorem c_X1_init (l : Launch) (v : VV) (z0 : Nat) (H : Nat → HE9) : MU l v yX1_init cX1_init 2 none ({ frames := 2, cells := 62, slots := 534, locals := 40 }) [.ref z0] [[(z0, .inr (1, [.null, .null, .int 0, .int 0]))]] (fun _ w_ => ∃ h pw bw ns fs gs, h 0 = z0 ∧ HrR H 0 0 ns fs gs ∧ w_ = [cHi9 v h pw bw 0 0, cPg v (pw 0) (ns 0) (fs 0), cPg v (pw 1) (ns 1) (fs 1), cPg v (pw 2) (ns 2) (fs 2), cPg v (pw 3) (ns 3) (fs 3), cPg v (pw 4) (ns 4) (fs 4), cPg v (pw 5) (ns 5) (fs 5), cAs v (bw 0) (gs 0), cAs v (bw 1) (gs 1), cAs v (bw 2) (gs 2), cAs v (bw 3) (gs 3), cAs v (bw 4) (gs 4), cAs v (bw 5) (gs 5)]) 62 534 := by
  refine mm_void rfl (by decide) (Nat.le_of_ble_eq_true rfl) [(0, .ref z0)] rfl (fun k X hin E => ?_)
  refine g_aload_n X dX1_init_0 0 rfl rfl ?_
  refine g_objInit X q_3_23 q_1_8 q_1_9 dX1_init_1 (by decide) (by decide) ?_
  refine g_aload_n X dX1_init_4 0 rfl rfl ?_
  refine g_bipush (x := nI 6) X dX1_init_5 (by decide +kernel) ?_
  refine g_newq 4 9 (N := 6) X q_4_0 (by exact Or.inl ⟨rfl, rfl⟩) dX1_init_7 (by decide) (by decide) (by decide) (by decide) (fun n1 => ?_)
  show GG k 1 6 [[(z0, .inr (1, [.null, .null, .int 0, .int 0]))], [(n1, .inl (v.2.1 4, 6, .inr (.inr (.inr (.inr (fun _ => none))))))]] _ _ _
  refine g_putF (cs' := [[(z0, .inr (1, [.ref n1, .null, .int 0, .int 0]))], [(n1, .inl (v.2.1 4, 6, .inr (.inr (.inr (.inr (fun _ => none))))))]]) X hin cb1 0 q_4_1 dX1_init_10 0 0 rfl rfl (by decide) rfl rfl rfl (rfl) (rfl) (Nat.le_of_ble_eq_true rfl) rfl ?_
  refine g_aload_n X dX1_init_13 0 rfl rfl ?_
  refine g_bipush (x := nI 6) X dX1_init_14 (by decide +kernel) ?_
  refine g_newq 5 17 (N := 6) X q_4_2 (by exact Or.inr ⟨rfl, rfl⟩) dX1_init_16 (by decide) (by decide) (by decide) (by decide) (fun n2 => ?_)
  show GG k 2 12 [[(z0, .inr (1, [.ref n1, .null, .int 0, .int 0]))], [(n1, .inl (v.2.1 4, 6, .inr (.inr (.inr (.inr (fun _ => none))))))], [(n2, .inl (v.2.1 5, 6, .inr (.inr (.inr (.inr (fun _ => none))))))]] _ _ _
  refine g_putF (cs' := [[(z0, .inr (1, [.ref n1, .ref n2, .int 0, .int 0]))], [(n1, .inl (v.2.1 4, 6, .inr (.inr (.inr (.inr (fun _ => none))))))], [(n2, .inl (v.2.1 5, 6, .inr (.inr (.inr (.inr (fun _ => none))))))]]) X hin cb1 1 q_4_3 dX1_init_19 0 0 rfl rfl (by decide) rfl rfl rfl (rfl) (rfl) (Nat.le_of_ble_eq_true rfl) rfl ?_
  refine g_iconst (x := nI 0) X dX1_init_22 (by decide +kernel) ?_
  refine g_istore_n (lv' := [(1, .int (nI 0)), (0, .ref z0)]) X dX1_init_23 rfl (by decide) rfl ?_
  refine g_iload_n X dX1_init_24 0 rfl rfl ?_
  refine g_bipush (x := nI 6) X dX1_init_25 (by decide +kernel) ?_
  refine g_icmp_geN (tgt := 62) X dX1_init_27 (by decide) (by omega) (by omega) (fun c27 => ?_) (fun c27 => ?_)
  · exact absurd c27 (by decide)
  · refine g_aload_n X dX1_init_30 1 rfl rfl ?_
    refine g_get X cb1 0 q_4_1 dX1_init_31 0 0 rfl rfl (by decide) rfl rfl ?_
    refine g_iload_n X dX1_init_34 0 rfl rfl ?_
    refine g_new (fs := [.int 0, .null, .null, .null, .null, .null, .null]) X cb3 q_4_0 q_1_11 q_1_12 dX1_init_35 (fun j hj => by rcases (show j = 0 ∨ j = 1 ∨ j = 2 ∨ j = 3 ∨ j = 4 ∨ j = 5 ∨ j = 6 by omega) with rfl | rfl | rfl | rfl | rfl | rfl | rfl <;> rfl) (by decide) (by decide) (fun np => ?_)
    show GG k 3 19 [[(z0, .inr (1, [.ref n1, .ref n2, .int 0, .int 0]))], [(n1, .inl (v.2.1 4, 6, .inr (.inr (.inr (.inr (fun _ => none))))))], [(n2, .inl (v.2.1 5, 6, .inr (.inr (.inr (.inr (fun _ => none))))))], [(np, .inr (3, [.int 0, .null, .null, .null, .null, .null, .null]))]] _ _ _
    refine g_dup X dX1_init_38 rfl ?_
    refine g_callIN (As := []) (rest := [.ref np, .int (nI 0), .ref n1]) (wr := [[(z0, .inr (1, [.ref n1, .ref n2, .int 0, .int 0]))], [(n1, .inl (v.2.1 4, 6, .inr (.inr (.inr (.inr (fun _ => none))))))], [(n2, .inl (v.2.1 5, 6, .inr (.inr (.inr (.inr (fun _ => none))))))]]) X (c_X3_init l v np) f_X3_init 2 rfl dX1_init_39 [3] [0, 1, 2] rfl rfl (by decide) rfl rfl (Nat.le_of_ble_eq_true rfl) (by decide) (fun w_ hp2 => ?_)
    obtain ⟨pa1, rfl, rfl⟩ := hp2
    show GG k _ _ [cPg v pa1 0 (fun _ _ => 0), [(z0, .inr (1, [.ref n1, .ref n2, .int 0, .int 0]))], [(n1, .inl (v.2.1 4, 6, .inr (.inr (.inr (.inr (fun _ => none))))))], [(n2, .inl (v.2.1 5, 6, .inr (.inr (.inr (.inr (fun _ => none))))))]] _ _ [.ref (pa1 0), .int (nI 0), .ref n1]
    refine g_pick (cs' := [[(z0, .inr (1, [.ref n1, .ref n2, .int 0, .int 0]))], [(n1, .inl (v.2.1 4, 6, .inr (.inr (.inr (.inr (fun _ => none))))))], [(n2, .inl (v.2.1 5, 6, .inr (.inr (.inr (.inr (fun _ => none))))))], cPg v pa1 0 (fun _ _ => 0)]) [1, 2, 3, 0] rfl rfl ?_
    refine g_astq 4 (cs' := [[(z0, .inr (1, [.ref n1, .ref n2, .int 0, .int 0]))], [(n1, .inl (v.2.1 4, 6, .inr (.inr (.inr (.inr (va_up (fun _ => none) 0 (some (pa1 0))))))))], [(n2, .inl (v.2.1 5, 6, .inr (.inr (.inr (.inr (fun _ => none))))))], cPg v pa1 0 (fun _ _ => 0)]) X cb3 rfl dX1_init_42 1 0 3 0 rfl rfl rfl rfl (by omega) (by decide) rfl ?_
    refine g_aload_n X dX1_init_43 1 rfl rfl ?_
    refine g_get X cb1 1 q_4_3 dX1_init_44 0 0 rfl rfl (by decide) rfl rfl ?_
    refine g_iload_n X dX1_init_47 0 rfl rfl ?_
    refine g_new (fs := [.null, .null]) X cb0 q_4_2 q_1_15 q_1_16 dX1_init_48 (fun j hj => by rcases (show j = 0 ∨ j = 1 by omega) with rfl | rfl <;> rfl) (by decide) (by decide) (fun nb => ?_)
    show GG k 10 93 [[(z0, .inr (1, [.ref n1, .ref n2, .int 0, .int 0]))], [(n1, .inl (v.2.1 4, 6, .inr (.inr (.inr (.inr (va_up (fun _ => none) 0 (some (pa1 0))))))))], [(n2, .inl (v.2.1 5, 6, .inr (.inr (.inr (.inr (fun _ => none))))))], cPg v pa1 0 (fun _ _ => 0), [(nb, .inr (0, [.null, .null]))]] _ _ _
    refine g_dup X dX1_init_51 rfl ?_
    refine g_callIN (As := []) (rest := [.ref nb, .int (nI 0), .ref n2]) (wr := [[(z0, .inr (1, [.ref n1, .ref n2, .int 0, .int 0]))], [(n1, .inl (v.2.1 4, 6, .inr (.inr (.inr (.inr (va_up (fun _ => none) 0 (some (pa1 0))))))))], [(n2, .inl (v.2.1 5, 6, .inr (.inr (.inr (.inr (fun _ => none))))))], cPg v pa1 0 (fun _ _ => 0)]) X (c_X0_init l v nb) f_X0_init 3 rfl dX1_init_52 [4] [0, 1, 2, 3] rfl rfl (by decide) rfl rfl (Nat.le_of_ble_eq_true rfl) (by decide) (fun w_ hp4 => ?_)
    obtain ⟨ba3, ba3g, rfl, ba3R, rfl⟩ := hp4
    show GG k _ _ [cAs v ba3 ba3g, [(z0, .inr (1, [.ref n1, .ref n2, .int 0, .int 0]))], [(n1, .inl (v.2.1 4, 6, .inr (.inr (.inr (.inr (va_up (fun _ => none) 0 (some (pa1 0))))))))], [(n2, .inl (v.2.1 5, 6, .inr (.inr (.inr (.inr (fun _ => none))))))], cPg v pa1 0 (fun _ _ => 0)] _ _ [.ref (ba3 0), .int (nI 0), .ref n2]
    refine g_pick (cs' := [[(z0, .inr (1, [.ref n1, .ref n2, .int 0, .int 0]))], [(n1, .inl (v.2.1 4, 6, .inr (.inr (.inr (.inr (va_up (fun _ => none) 0 (some (pa1 0))))))))], [(n2, .inl (v.2.1 5, 6, .inr (.inr (.inr (.inr (fun _ => none))))))], cPg v pa1 0 (fun _ _ => 0), cAs v ba3 ba3g]) [1, 2, 3, 4, 0] rfl rfl ?_
    refine g_astq 5 (cs' := [[(z0, .inr (1, [.ref n1, .ref n2, .int 0, .int 0]))], [(n1, .inl (v.2.1 4, 6, .inr (.inr (.inr (.inr (va_up (fun _ => none) 0 (some (pa1 0))))))))], [(n2, .inl (v.2.1 5, 6, .inr (.inr (.inr (.inr (va_up (fun _ => none) 0 (some (ba3 0))))))))], cPg v pa1 0 (fun _ _ => 0), cAs v ba3 ba3g]) X cb0 rfl dX1_init_55 2 0 4 0 rfl rfl rfl rfl (by omega) (by decide) rfl ?_
    refine g_iinc (y := nI 1) (lv' := [(1, .int (nI 1)), (0, .ref z0)]) (j := 0) X dX1_init_56 rfl (nI_add 0 1) (by decide) rfl ?_
    refine g_goto (tgt := 24) X dX1_init_59 (by decide) ?_
    refine g_iload_n X dX1_init_24 0 rfl rfl ?_
    refine g_bipush (x := nI 6) X dX1_init_25 (by decide +kernel) ?_
    refine g_icmp_geN (tgt := 62) X dX1_init_27 (by decide) (by omega) (by omega) (fun c27 => ?_) (fun c27 => ?_)
    · exact absurd c27 (by decide)
    · refine g_aload_n X dX1_init_30 1 rfl rfl ?_
      refine g_get X cb1 0 q_4_1 dX1_init_31 0 0 rfl rfl (by decide) rfl rfl ?_
      refine g_iload_n X dX1_init_34 0 rfl rfl ?_
      refine g_new (fs := [.int 0, .null, .null, .null, .null, .null, .null]) X cb3 q_4_0 q_1_11 q_1_12 dX1_init_35 (fun j hj => by rcases (show j = 0 ∨ j = 1 ∨ j = 2 ∨ j = 3 ∨ j = 4 ∨ j = 5 ∨ j = 6 by omega) with rfl | rfl | rfl | rfl | rfl | rfl | rfl <;> rfl) (by decide) (by decide) (fun np => ?_)
      show GG k 13 106 [[(z0, .inr (1, [.ref n1, .ref n2, .int 0, .int 0]))], [(n1, .inl (v.2.1 4, 6, .inr (.inr (.inr (.inr (va_up (fun _ => none) 0 (some (pa1 0))))))))], [(n2, .inl (v.2.1 5, 6, .inr (.inr (.inr (.inr (va_up (fun _ => none) 0 (some (ba3 0))))))))], cPg v pa1 0 (fun _ _ => 0), cAs v ba3 ba3g, [(np, .inr (3, [.int 0, .null, .null, .null, .null, .null, .null]))]] _ _ _
      refine g_dup X dX1_init_38 rfl ?_
      refine g_callIN (As := []) (rest := [.ref np, .int (nI 1), .ref n1]) (wr := [[(z0, .inr (1, [.ref n1, .ref n2, .int 0, .int 0]))], [(n1, .inl (v.2.1 4, 6, .inr (.inr (.inr (.inr (va_up (fun _ => none) 0 (some (pa1 0))))))))], [(n2, .inl (v.2.1 5, 6, .inr (.inr (.inr (.inr (va_up (fun _ => none) 0 (some (ba3 0))))))))], cPg v pa1 0 (fun _ _ => 0), cAs v ba3 ba3g]) X (c_X3_init l v np) f_X3_init 2 rfl dX1_init_39 [5] [0, 1, 2, 3, 4] rfl rfl (by decide) rfl rfl (Nat.le_of_ble_eq_true rfl) (by decide) (fun w_ hp6 => ?_)
      obtain ⟨pa5, rfl, rfl⟩ := hp6
      show GG k _ _ [cPg v pa5 0 (fun _ _ => 0), [(z0, .inr (1, [.ref n1, .ref n2, .int 0, .int 0]))], [(n1, .inl (v.2.1 4, 6, .inr (.inr (.inr (.inr (va_up (fun _ => none) 0 (some (pa1 0))))))))], [(n2, .inl (v.2.1 5, 6, .inr (.inr (.inr (.inr (va_up (fun _ => none) 0 (some (ba3 0))))))))], cPg v pa1 0 (fun _ _ => 0), cAs v ba3 ba3g] _ _ [.ref (pa5 0), .int (nI 1), .ref n1]
      refine g_pick (cs' := [[(z0, .inr (1, [.ref n1, .ref n2, .int 0, .int 0]))], [(n1, .inl (v.2.1 4, 6, .inr (.inr (.inr (.inr (va_up (fun _ => none) 0 (some (pa1 0))))))))], [(n2, .inl (v.2.1 5, 6, .inr (.inr (.inr (.inr (va_up (fun _ => none) 0 (some (ba3 0))))))))], cPg v pa1 0 (fun _ _ => 0), cAs v ba3 ba3g, cPg v pa5 0 (fun _ _ => 0)]) [1, 2, 3, 4, 5, 0] rfl rfl ?_
      refine g_astq 4 (cs' := [[(z0, .inr (1, [.ref n1, .ref n2, .int 0, .int 0]))], [(n1, .inl (v.2.1 4, 6, .inr (.inr (.inr (.inr (va_up (va_up (fun _ => none) 0 (some (pa1 0))) 1 (some (pa5 0))))))))], [(n2, .inl (v.2.1 5, 6, .inr (.inr (.inr (.inr (va_up (fun _ => none) 0 (some (ba3 0))))))))], cPg v pa1 0 (fun _ _ => 0), cAs v ba3 ba3g, cPg v pa5 0 (fun _ _ => 0)]) X cb3 rfl dX1_init_42 1 0 5 0 rfl rfl rfl rfl (by omega) (by decide) rfl ?_
      refine g_aload_n X dX1_init_43 1 rfl rfl ?_
      refine g_get X cb1 1 q_4_3 dX1_init_44 0 0 rfl rfl (by decide) rfl rfl ?_
      refine g_iload_n X dX1_init_47 0 rfl rfl ?_
      refine g_new (fs := [.null, .null]) X cb0 q_4_2 q_1_15 q_1_16 dX1_init_48 (fun j hj => by rcases (show j = 0 ∨ j = 1 by omega) with rfl | rfl <;> rfl) (by decide) (by decide) (fun nb => ?_)
      show GG k 20 180 [[(z0, .inr (1, [.ref n1, .ref n2, .int 0, .int 0]))], [(n1, .inl (v.2.1 4, 6, .inr (.inr (.inr (.inr (va_up (va_up (fun _ => none) 0 (some (pa1 0))) 1 (some (pa5 0))))))))], [(n2, .inl (v.2.1 5, 6, .inr (.inr (.inr (.inr (va_up (fun _ => none) 0 (some (ba3 0))))))))], cPg v pa1 0 (fun _ _ => 0), cAs v ba3 ba3g, cPg v pa5 0 (fun _ _ => 0), [(nb, .inr (0, [.null, .null]))]] _ _ _
      refine g_dup X dX1_init_51 rfl ?_
      refine g_callIN (As := []) (rest := [.ref nb, .int (nI 1), .ref n2]) (wr := [[(z0, .inr (1, [.ref n1, .ref n2, .int 0, .int 0]))], [(n1, .inl (v.2.1 4, 6, .inr (.inr (.inr (.inr (va_up (va_up (fun _ => none) 0 (some (pa1 0))) 1 (some (pa5 0))))))))], [(n2, .inl (v.2.1 5, 6, .inr (.inr (.inr (.inr (va_up (fun _ => none) 0 (some (ba3 0))))))))], cPg v pa1 0 (fun _ _ => 0), cAs v ba3 ba3g, cPg v pa5 0 (fun _ _ => 0)]) X (c_X0_init l v nb) f_X0_init 3 rfl dX1_init_52 [6] [0, 1, 2, 3, 4, 5] rfl rfl (by decide) rfl rfl (Nat.le_of_ble_eq_true rfl) (by decide) (fun w_ hp8 => ?_)
      obtain ⟨ba7, ba7g, rfl, ba7R, rfl⟩ := hp8
      show GG k _ _ [cAs v ba7 ba7g, [(z0, .inr (1, [.ref n1, .ref n2, .int 0, .int 0]))], [(n1, .inl (v.2.1 4, 6, .inr (.inr (.inr (.inr (va_up (va_up (fun _ => none) 0 (some (pa1 0))) 1 (some (pa5 0))))))))], [(n2, .inl (v.2.1 5, 6, .inr (.inr (.inr (.inr (va_up (fun _ => none) 0 (some (ba3 0))))))))], cPg v pa1 0 (fun _ _ => 0), cAs v ba3 ba3g, cPg v pa5 0 (fun _ _ => 0)] _ _ [.ref (ba7 0), .int (nI 1), .ref n2]
      refine g_pick (cs' := [[(z0, .inr (1, [.ref n1, .ref n2, .int 0, .int 0]))], [(n1, .inl (v.2.1 4, 6, .inr (.inr (.inr (.inr (va_up (va_up (fun _ => none) 0 (some (pa1 0))) 1 (some (pa5 0))))))))], [(n2, .inl (v.2.1 5, 6, .inr (.inr (.inr (.inr (va_up (fun _ => none) 0 (some (ba3 0))))))))], cPg v pa1 0 (fun _ _ => 0), cAs v ba3 ba3g, cPg v pa5 0 (fun _ _ => 0), cAs v ba7 ba7g]) [1, 2, 3, 4, 5, 6, 0] rfl rfl ?_
      refine g_astq 5 (cs' := [[(z0, .inr (1, [.ref n1, .ref n2, .int 0, .int 0]))], [(n1, .inl (v.2.1 4, 6, .inr (.inr (.inr (.inr (va_up (va_up (fun _ => none) 0 (some (pa1 0))) 1 (some (pa5 0))))))))], [(n2, .inl (v.2.1 5, 6, .inr (.inr (.inr (.inr (va_up (va_up (fun _ => none) 0 (some (ba3 0))) 1 (some (ba7 0))))))))], cPg v pa1 0 (fun _ _ => 0), cAs v ba3 ba3g, cPg v pa5 0 (fun _ _ => 0), cAs v ba7 ba7g]) X cb0 rfl dX1_init_55 2 0 6 0 rfl rfl rfl rfl (by omega) (by decide) rfl ?_
      refine g_iinc (y := nI 2) (lv' := [(1, .int (nI 2)), (0, .ref z0)]) (j := 0) X dX1_init_56 rfl (nI_add 1 1) (by decide) rfl ?_
      refine g_goto (tgt := 24) X dX1_init_59 (by decide) ?_
      refine g_iload_n X dX1_init_24 0 rfl rfl ?_
      refine g_bipush (x := nI 6) X dX1_init_25 (by decide +kernel) ?_
      refine g_icmp_geN (tgt := 62) X dX1_init_27 (by decide) (by omega) (by omega) (fun c27 => ?_) (fun c27 => ?_)
      · exact absurd c27 (by decide)
      · refine g_aload_n X dX1_init_30 1 rfl rfl ?_
        refine g_get X cb1 0 q_4_1 dX1_init_31 0 0 rfl rfl (by decide) rfl rfl ?_
        refine g_iload_n X dX1_init_34 0 rfl rfl ?_
        refine g_new (fs := [.int 0, .null, .null, .null, .null, .null, .null]) X cb3 q_4_0 q_1_11 q_1_12 dX1_init_35 (fun j hj => by rcases (show j = 0 ∨ j = 1 ∨ j = 2 ∨ j = 3 ∨ j = 4 ∨ j = 5 ∨ j = 6 by omega) with rfl | rfl | rfl | rfl | rfl | rfl | rfl <;> rfl) (by decide) (by decide) (fun np => ?_)
        show GG k 23 193 [[(z0, .inr (1, [.ref n1, .ref n2, .int 0, .int 0]))], [(n1, .inl (v.2.1 4, 6, .inr (.inr (.inr (.inr (va_up (va_up (fun _ => none) 0 (some (pa1 0))) 1 (some (pa5 0))))))))], [(n2, .inl (v.2.1 5, 6, .inr (.inr (.inr (.inr (va_up (va_up (fun _ => none) 0 (some (ba3 0))) 1 (some (ba7 0))))))))], cPg v pa1 0 (fun _ _ => 0), cAs v ba3 ba3g, cPg v pa5 0 (fun _ _ => 0), cAs v ba7 ba7g, [(np, .inr (3, [.int 0, .null, .null, .null, .null, .null, .null]))]] _ _ _
        refine g_dup X dX1_init_38 rfl ?_
        refine g_callIN (As := []) (rest := [.ref np, .int (nI 2), .ref n1]) (wr := [[(z0, .inr (1, [.ref n1, .ref n2, .int 0, .int 0]))], [(n1, .inl (v.2.1 4, 6, .inr (.inr (.inr (.inr (va_up (va_up (fun _ => none) 0 (some (pa1 0))) 1 (some (pa5 0))))))))], [(n2, .inl (v.2.1 5, 6, .inr (.inr (.inr (.inr (va_up (va_up (fun _ => none) 0 (some (ba3 0))) 1 (some (ba7 0))))))))], cPg v pa1 0 (fun _ _ => 0), cAs v ba3 ba3g, cPg v pa5 0 (fun _ _ => 0), cAs v ba7 ba7g]) X (c_X3_init l v np) f_X3_init 2 rfl dX1_init_39 [7] [0, 1, 2, 3, 4, 5, 6] rfl rfl (by decide) rfl rfl (Nat.le_of_ble_eq_true rfl) (by decide) (fun w_ hp10 => ?_)
        obtain ⟨pa9, rfl, rfl⟩ := hp10
        show GG k _ _ [cPg v pa9 0 (fun _ _ => 0), [(z0, .inr (1, [.ref n1, .ref n2, .int 0, .int 0]))], [(n1, .inl (v.2.1 4, 6, .inr (.inr (.inr (.inr (va_up (va_up (fun _ => none) 0 (some (pa1 0))) 1 (some (pa5 0))))))))], [(n2, .inl (v.2.1 5, 6, .inr (.inr (.inr (.inr (va_up (va_up (fun _ => none) 0 (some (ba3 0))) 1 (some (ba7 0))))))))], cPg v pa1 0 (fun _ _ => 0), cAs v ba3 ba3g, cPg v pa5 0 (fun _ _ => 0), cAs v ba7 ba7g] _ _ [.ref (pa9 0), .int (nI 2), .ref n1]
        refine g_pick (cs' := [[(z0, .inr (1, [.ref n1, .ref n2, .int 0, .int 0]))], [(n1, .inl (v.2.1 4, 6, .inr (.inr (.inr (.inr (va_up (va_up (fun _ => none) 0 (some (pa1 0))) 1 (some (pa5 0))))))))], [(n2, .inl (v.2.1 5, 6, .inr (.inr (.inr (.inr (va_up (va_up (fun _ => none) 0 (some (ba3 0))) 1 (some (ba7 0))))))))], cPg v pa1 0 (fun _ _ => 0), cAs v ba3 ba3g, cPg v pa5 0 (fun _ _ => 0), cAs v ba7 ba7g, cPg v pa9 0 (fun _ _ => 0)]) [1, 2, 3, 4, 5, 6, 7, 0] rfl rfl ?_
        refine g_astq 4 (cs' := [[(z0, .inr (1, [.ref n1, .ref n2, .int 0, .int 0]))], [(n1, .inl (v.2.1 4, 6, .inr (.inr (.inr (.inr (va_up (va_up (va_up (fun _ => none) 0 (some (pa1 0))) 1 (some (pa5 0))) 2 (some (pa9 0))))))))], [(n2, .inl (v.2.1 5, 6, .inr (.inr (.inr (.inr (va_up (va_up (fun _ => none) 0 (some (ba3 0))) 1 (some (ba7 0))))))))], cPg v pa1 0 (fun _ _ => 0), cAs v ba3 ba3g, cPg v pa5 0 (fun _ _ => 0), cAs v ba7 ba7g, cPg v pa9 0 (fun _ _ => 0)]) X cb3 rfl dX1_init_42 1 0 7 0 rfl rfl rfl rfl (by omega) (by decide) rfl ?_
        refine g_aload_n X dX1_init_43 1 rfl rfl ?_
        refine g_get X cb1 1 q_4_3 dX1_init_44 0 0 rfl rfl (by decide) rfl rfl ?_
        refine g_iload_n X dX1_init_47 0 rfl rfl ?_
        refine g_new (fs := [.null, .null]) X cb0 q_4_2 q_1_15 q_1_16 dX1_init_48 (fun j hj => by rcases (show j = 0 ∨ j = 1 by omega) with rfl | rfl <;> rfl) (by decide) (by decide) (fun nb => ?_)
        show GG k 30 267 [[(z0, .inr (1, [.ref n1, .ref n2, .int 0, .int 0]))], [(n1, .inl (v.2.1 4, 6, .inr (.inr (.inr (.inr (va_up (va_up (va_up (fun _ => none) 0 (some (pa1 0))) 1 (some (pa5 0))) 2 (some (pa9 0))))))))], [(n2, .inl (v.2.1 5, 6, .inr (.inr (.inr (.inr (va_up (va_up (fun _ => none) 0 (some (ba3 0))) 1 (some (ba7 0))))))))], cPg v pa1 0 (fun _ _ => 0), cAs v ba3 ba3g, cPg v pa5 0 (fun _ _ => 0), cAs v ba7 ba7g, cPg v pa9 0 (fun _ _ => 0), [(nb, .inr (0, [.null, .null]))]] _ _ _
        refine g_dup X dX1_init_51 rfl ?_
        refine g_callIN (As := []) (rest := [.ref nb, .int (nI 2), .ref n2]) (wr := [[(z0, .inr (1, [.ref n1, .ref n2, .int 0, .int 0]))], [(n1, .inl (v.2.1 4, 6, .inr (.inr (.inr (.inr (va_up (va_up (va_up (fun _ => none) 0 (some (pa1 0))) 1 (some (pa5 0))) 2 (some (pa9 0))))))))], [(n2, .inl (v.2.1 5, 6, .inr (.inr (.inr (.inr (va_up (va_up (fun _ => none) 0 (some (ba3 0))) 1 (some (ba7 0))))))))], cPg v pa1 0 (fun _ _ => 0), cAs v ba3 ba3g, cPg v pa5 0 (fun _ _ => 0), cAs v ba7 ba7g, cPg v pa9 0 (fun _ _ => 0)]) X (c_X0_init l v nb) f_X0_init 3 rfl dX1_init_52 [8] [0, 1, 2, 3, 4, 5, 6, 7] rfl rfl (by decide) rfl rfl (Nat.le_of_ble_eq_true rfl) (by decide) (fun w_ hp12 => ?_)
        obtain ⟨ba11, ba11g, rfl, ba11R, rfl⟩ := hp12
        show GG k _ _ [cAs v ba11 ba11g, [(z0, .inr (1, [.ref n1, .ref n2, .int 0, .int 0]))], [(n1, .inl (v.2.1 4, 6, .inr (.inr (.inr (.inr (va_up (va_up (va_up (fun _ => none) 0 (some (pa1 0))) 1 (some (pa5 0))) 2 (some (pa9 0))))))))], [(n2, .inl (v.2.1 5, 6, .inr (.inr (.inr (.inr (va_up (va_up (fun _ => none) 0 (some (ba3 0))) 1 (some (ba7 0))))))))], cPg v pa1 0 (fun _ _ => 0), cAs v ba3 ba3g, cPg v pa5 0 (fun _ _ => 0), cAs v ba7 ba7g, cPg v pa9 0 (fun _ _ => 0)] _ _ [.ref (ba11 0), .int (nI 2), .ref n2]
        refine g_pick (cs' := [[(z0, .inr (1, [.ref n1, .ref n2, .int 0, .int 0]))], [(n1, .inl (v.2.1 4, 6, .inr (.inr (.inr (.inr (va_up (va_up (va_up (fun _ => none) 0 (some (pa1 0))) 1 (some (pa5 0))) 2 (some (pa9 0))))))))], [(n2, .inl (v.2.1 5, 6, .inr (.inr (.inr (.inr (va_up (va_up (fun _ => none) 0 (some (ba3 0))) 1 (some (ba7 0))))))))], cPg v pa1 0 (fun _ _ => 0), cAs v ba3 ba3g, cPg v pa5 0 (fun _ _ => 0), cAs v ba7 ba7g, cPg v pa9 0 (fun _ _ => 0), cAs v ba11 ba11g]) [1, 2, 3, 4, 5, 6, 7, 8, 0] rfl rfl ?_
        refine g_astq 5 (cs' := [[(z0, .inr (1, [.ref n1, .ref n2, .int 0, .int 0]))], [(n1, .inl (v.2.1 4, 6, .inr (.inr (.inr (.inr (va_up (va_up (va_up (fun _ => none) 0 (some (pa1 0))) 1 (some (pa5 0))) 2 (some (pa9 0))))))))], [(n2, .inl (v.2.1 5, 6, .inr (.inr (.inr (.inr (va_up (va_up (va_up (fun _ => none) 0 (some (ba3 0))) 1 (some (ba7 0))) 2 (some (ba11 0))))))))], cPg v pa1 0 (fun _ _ => 0), cAs v ba3 ba3g, cPg v pa5 0 (fun _ _ => 0), cAs v ba7 ba7g, cPg v pa9 0 (fun _ _ => 0), cAs v ba11 ba11g]) X cb0 rfl dX1_init_55 2 0 8 0 rfl rfl rfl rfl (by omega) (by decide) rfl ?_
        refine g_iinc (y := nI 3) (lv' := [(1, .int (nI 3)), (0, .ref z0)]) (j := 0) X dX1_init_56 rfl (nI_add 2 1) (by decide) rfl ?_
        refine g_goto (tgt := 24) X dX1_init_59 (by decide) ?_
        refine g_iload_n X dX1_init_24 0 rfl rfl ?_
        refine g_bipush (x := nI 6) X dX1_init_25 (by decide +kernel) ?_
        refine g_icmp_geN (tgt := 62) X dX1_init_27 (by decide) (by omega) (by omega) (fun c27 => ?_) (fun c27 => ?_)
        · exact absurd c27 (by decide)
        · refine g_aload_n X dX1_init_30 1 rfl rfl ?_
          refine g_get X cb1 0 q_4_1 dX1_init_31 0 0 rfl rfl (by decide) rfl rfl ?_
          refine g_iload_n X dX1_init_34 0 rfl rfl ?_
          refine g_new (fs := [.int 0, .null, .null, .null, .null, .null, .null]) X cb3 q_4_0 q_1_11 q_1_12 dX1_init_35 (fun j hj => by rcases (show j = 0 ∨ j = 1 ∨ j = 2 ∨ j = 3 ∨ j = 4 ∨ j = 5 ∨ j = 6 by omega) with rfl | rfl | rfl | rfl | rfl | rfl | rfl <;> rfl) (by decide) (by decide) (fun np => ?_)
          show GG k 33 280 [[(z0, .inr (1, [.ref n1, .ref n2, .int 0, .int 0]))], [(n1, .inl (v.2.1 4, 6, .inr (.inr (.inr (.inr (va_up (va_up (va_up (fun _ => none) 0 (some (pa1 0))) 1 (some (pa5 0))) 2 (some (pa9 0))))))))], [(n2, .inl (v.2.1 5, 6, .inr (.inr (.inr (.inr (va_up (va_up (va_up (fun _ => none) 0 (some (ba3 0))) 1 (some (ba7 0))) 2 (some (ba11 0))))))))], cPg v pa1 0 (fun _ _ => 0), cAs v ba3 ba3g, cPg v pa5 0 (fun _ _ => 0), cAs v ba7 ba7g, cPg v pa9 0 (fun _ _ => 0), cAs v ba11 ba11g, [(np, .inr (3, [.int 0, .null, .null, .null, .null, .null, .null]))]] _ _ _
          refine g_dup X dX1_init_38 rfl ?_
          refine g_callIN (As := []) (rest := [.ref np, .int (nI 3), .ref n1]) (wr := [[(z0, .inr (1, [.ref n1, .ref n2, .int 0, .int 0]))], [(n1, .inl (v.2.1 4, 6, .inr (.inr (.inr (.inr (va_up (va_up (va_up (fun _ => none) 0 (some (pa1 0))) 1 (some (pa5 0))) 2 (some (pa9 0))))))))], [(n2, .inl (v.2.1 5, 6, .inr (.inr (.inr (.inr (va_up (va_up (va_up (fun _ => none) 0 (some (ba3 0))) 1 (some (ba7 0))) 2 (some (ba11 0))))))))], cPg v pa1 0 (fun _ _ => 0), cAs v ba3 ba3g, cPg v pa5 0 (fun _ _ => 0), cAs v ba7 ba7g, cPg v pa9 0 (fun _ _ => 0), cAs v ba11 ba11g]) X (c_X3_init l v np) f_X3_init 2 rfl dX1_init_39 [9] [0, 1, 2, 3, 4, 5, 6, 7, 8] rfl rfl (by decide) rfl rfl (Nat.le_of_ble_eq_true rfl) (by decide) (fun w_ hp14 => ?_)
          obtain ⟨pa13, rfl, rfl⟩ := hp14
          show GG k _ _ [cPg v pa13 0 (fun _ _ => 0), [(z0, .inr (1, [.ref n1, .ref n2, .int 0, .int 0]))], [(n1, .inl (v.2.1 4, 6, .inr (.inr (.inr (.inr (va_up (va_up (va_up (fun _ => none) 0 (some (pa1 0))) 1 (some (pa5 0))) 2 (some (pa9 0))))))))], [(n2, .inl (v.2.1 5, 6, .inr (.inr (.inr (.inr (va_up (va_up (va_up (fun _ => none) 0 (some (ba3 0))) 1 (some (ba7 0))) 2 (some (ba11 0))))))))], cPg v pa1 0 (fun _ _ => 0), cAs v ba3 ba3g, cPg v pa5 0 (fun _ _ => 0), cAs v ba7 ba7g, cPg v pa9 0 (fun _ _ => 0), cAs v ba11 ba11g] _ _ [.ref (pa13 0), .int (nI 3), .ref n1]
          refine g_pick (cs' := [[(z0, .inr (1, [.ref n1, .ref n2, .int 0, .int 0]))], [(n1, .inl (v.2.1 4, 6, .inr (.inr (.inr (.inr (va_up (va_up (va_up (fun _ => none) 0 (some (pa1 0))) 1 (some (pa5 0))) 2 (some (pa9 0))))))))], [(n2, .inl (v.2.1 5, 6, .inr (.inr (.inr (.inr (va_up (va_up (va_up (fun _ => none) 0 (some (ba3 0))) 1 (some (ba7 0))) 2 (some (ba11 0))))))))], cPg v pa1 0 (fun _ _ => 0), cAs v ba3 ba3g, cPg v pa5 0 (fun _ _ => 0), cAs v ba7 ba7g, cPg v pa9 0 (fun _ _ => 0), cAs v ba11 ba11g, cPg v pa13 0 (fun _ _ => 0)]) [1, 2, 3, 4, 5, 6, 7, 8, 9, 0] rfl rfl ?_
          refine g_astq 4 (cs' := [[(z0, .inr (1, [.ref n1, .ref n2, .int 0, .int 0]))], [(n1, .inl (v.2.1 4, 6, .inr (.inr (.inr (.inr (va_up (va_up (va_up (va_up (fun _ => none) 0 (some (pa1 0))) 1 (some (pa5 0))) 2 (some (pa9 0))) 3 (some (pa13 0))))))))], [(n2, .inl (v.2.1 5, 6, .inr (.inr (.inr (.inr (va_up (va_up (va_up (fun _ => none) 0 (some (ba3 0))) 1 (some (ba7 0))) 2 (some (ba11 0))))))))], cPg v pa1 0 (fun _ _ => 0), cAs v ba3 ba3g, cPg v pa5 0 (fun _ _ => 0), cAs v ba7 ba7g, cPg v pa9 0 (fun _ _ => 0), cAs v ba11 ba11g, cPg v pa13 0 (fun _ _ => 0)]) X cb3 rfl dX1_init_42 1 0 9 0 rfl rfl rfl rfl (by omega) (by decide) rfl ?_
          refine g_aload_n X dX1_init_43 1 rfl rfl ?_
          refine g_get X cb1 1 q_4_3 dX1_init_44 0 0 rfl rfl (by decide) rfl rfl ?_
          refine g_iload_n X dX1_init_47 0 rfl rfl ?_
          refine g_new (fs := [.null, .null]) X cb0 q_4_2 q_1_15 q_1_16 dX1_init_48 (fun j hj => by rcases (show j = 0 ∨ j = 1 by omega) with rfl | rfl <;> rfl) (by decide) (by decide) (fun nb => ?_)
          show GG k 40 354 [[(z0, .inr (1, [.ref n1, .ref n2, .int 0, .int 0]))], [(n1, .inl (v.2.1 4, 6, .inr (.inr (.inr (.inr (va_up (va_up (va_up (va_up (fun _ => none) 0 (some (pa1 0))) 1 (some (pa5 0))) 2 (some (pa9 0))) 3 (some (pa13 0))))))))], [(n2, .inl (v.2.1 5, 6, .inr (.inr (.inr (.inr (va_up (va_up (va_up (fun _ => none) 0 (some (ba3 0))) 1 (some (ba7 0))) 2 (some (ba11 0))))))))], cPg v pa1 0 (fun _ _ => 0), cAs v ba3 ba3g, cPg v pa5 0 (fun _ _ => 0), cAs v ba7 ba7g, cPg v pa9 0 (fun _ _ => 0), cAs v ba11 ba11g, cPg v pa13 0 (fun _ _ => 0), [(nb, .inr (0, [.null, .null]))]] _ _ _
          refine g_dup X dX1_init_51 rfl ?_
          refine g_callIN (As := []) (rest := [.ref nb, .int (nI 3), .ref n2]) (wr := [[(z0, .inr (1, [.ref n1, .ref n2, .int 0, .int 0]))], [(n1, .inl (v.2.1 4, 6, .inr (.inr (.inr (.inr (va_up (va_up (va_up (va_up (fun _ => none) 0 (some (pa1 0))) 1 (some (pa5 0))) 2 (some (pa9 0))) 3 (some (pa13 0))))))))], [(n2, .inl (v.2.1 5, 6, .inr (.inr (.inr (.inr (va_up (va_up (va_up (fun _ => none) 0 (some (ba3 0))) 1 (some (ba7 0))) 2 (some (ba11 0))))))))], cPg v pa1 0 (fun _ _ => 0), cAs v ba3 ba3g, cPg v pa5 0 (fun _ _ => 0), cAs v ba7 ba7g, cPg v pa9 0 (fun _ _ => 0), cAs v ba11 ba11g, cPg v pa13 0 (fun _ _ => 0)]) X (c_X0_init l v nb) f_X0_init 3 rfl dX1_init_52 [10] [0, 1, 2, 3, 4, 5, 6, 7, 8, 9] rfl rfl (by decide) rfl rfl (Nat.le_of_ble_eq_true rfl) (by decide) (fun w_ hp16 => ?_)
          obtain ⟨ba15, ba15g, rfl, ba15R, rfl⟩ := hp16
          show GG k _ _ [cAs v ba15 ba15g, [(z0, .inr (1, [.ref n1, .ref n2, .int 0, .int 0]))], [(n1, .inl (v.2.1 4, 6, .inr (.inr (.inr (.inr (va_up (va_up (va_up (va_up (fun _ => none) 0 (some (pa1 0))) 1 (some (pa5 0))) 2 (some (pa9 0))) 3 (some (pa13 0))))))))], [(n2, .inl (v.2.1 5, 6, .inr (.inr (.inr (.inr (va_up (va_up (va_up (fun _ => none) 0 (some (ba3 0))) 1 (some (ba7 0))) 2 (some (ba11 0))))))))], cPg v pa1 0 (fun _ _ => 0), cAs v ba3 ba3g, cPg v pa5 0 (fun _ _ => 0), cAs v ba7 ba7g, cPg v pa9 0 (fun _ _ => 0), cAs v ba11 ba11g, cPg v pa13 0 (fun _ _ => 0)] _ _ [.ref (ba15 0), .int (nI 3), .ref n2]
          refine g_pick (cs' := [[(z0, .inr (1, [.ref n1, .ref n2, .int 0, .int 0]))], [(n1, .inl (v.2.1 4, 6, .inr (.inr (.inr (.inr (va_up (va_up (va_up (va_up (fun _ => none) 0 (some (pa1 0))) 1 (some (pa5 0))) 2 (some (pa9 0))) 3 (some (pa13 0))))))))], [(n2, .inl (v.2.1 5, 6, .inr (.inr (.inr (.inr (va_up (va_up (va_up (fun _ => none) 0 (some (ba3 0))) 1 (some (ba7 0))) 2 (some (ba11 0))))))))], cPg v pa1 0 (fun _ _ => 0), cAs v ba3 ba3g, cPg v pa5 0 (fun _ _ => 0), cAs v ba7 ba7g, cPg v pa9 0 (fun _ _ => 0), cAs v ba11 ba11g, cPg v pa13 0 (fun _ _ => 0), cAs v ba15 ba15g]) [1, 2, 3, 4, 5, 6, 7, 8, 9, 10, 0] rfl rfl ?_
          refine g_astq 5 (cs' := [[(z0, .inr (1, [.ref n1, .ref n2, .int 0, .int 0]))], [(n1, .inl (v.2.1 4, 6, .inr (.inr (.inr (.inr (va_up (va_up (va_up (va_up (fun _ => none) 0 (some (pa1 0))) 1 (some (pa5 0))) 2 (some (pa9 0))) 3 (some (pa13 0))))))))], [(n2, .inl (v.2.1 5, 6, .inr (.inr (.inr (.inr (va_up (va_up (va_up (va_up (fun _ => none) 0 (some (ba3 0))) 1 (some (ba7 0))) 2 (some (ba11 0))) 3 (some (ba15 0))))))))], cPg v pa1 0 (fun _ _ => 0), cAs v ba3 ba3g, cPg v pa5 0 (fun _ _ => 0), cAs v ba7 ba7g, cPg v pa9 0 (fun _ _ => 0), cAs v ba11 ba11g, cPg v pa13 0 (fun _ _ => 0), cAs v ba15 ba15g]) X cb0 rfl dX1_init_55 2 0 10 0 rfl rfl rfl rfl (by omega) (by decide) rfl ?_
          refine g_iinc (y := nI 4) (lv' := [(1, .int (nI 4)), (0, .ref z0)]) (j := 0) X dX1_init_56 rfl (nI_add 3 1) (by decide) rfl ?_
          refine g_goto (tgt := 24) X dX1_init_59 (by decide) ?_
          refine g_iload_n X dX1_init_24 0 rfl rfl ?_
          refine g_bipush (x := nI 6) X dX1_init_25 (by decide +kernel) ?_
          refine g_icmp_geN (tgt := 62) X dX1_init_27 (by decide) (by omega) (by omega) (fun c27 => ?_) (fun c27 => ?_)
          · exact absurd c27 (by decide)
          · refine g_aload_n X dX1_init_30 1 rfl rfl ?_
            refine g_get X cb1 0 q_4_1 dX1_init_31 0 0 rfl rfl (by decide) rfl rfl ?_
            refine g_iload_n X dX1_init_34 0 rfl rfl ?_
            refine g_new (fs := [.int 0, .null, .null, .null, .null, .null, .null]) X cb3 q_4_0 q_1_11 q_1_12 dX1_init_35 (fun j hj => by rcases (show j = 0 ∨ j = 1 ∨ j = 2 ∨ j = 3 ∨ j = 4 ∨ j = 5 ∨ j = 6 by omega) with rfl | rfl | rfl | rfl | rfl | rfl | rfl <;> rfl) (by decide) (by decide) (fun np => ?_)
            show GG k 43 367 [[(z0, .inr (1, [.ref n1, .ref n2, .int 0, .int 0]))], [(n1, .inl (v.2.1 4, 6, .inr (.inr (.inr (.inr (va_up (va_up (va_up (va_up (fun _ => none) 0 (some (pa1 0))) 1 (some (pa5 0))) 2 (some (pa9 0))) 3 (some (pa13 0))))))))], [(n2, .inl (v.2.1 5, 6, .inr (.inr (.inr (.inr (va_up (va_up (va_up (va_up (fun _ => none) 0 (some (ba3 0))) 1 (some (ba7 0))) 2 (some (ba11 0))) 3 (some (ba15 0))))))))], cPg v pa1 0 (fun _ _ => 0), cAs v ba3 ba3g, cPg v pa5 0 (fun _ _ => 0), cAs v ba7 ba7g, cPg v pa9 0 (fun _ _ => 0), cAs v ba11 ba11g, cPg v pa13 0 (fun _ _ => 0), cAs v ba15 ba15g, [(np, .inr (3, [.int 0, .null, .null, .null, .null, .null, .null]))]] _ _ _
            refine g_dup X dX1_init_38 rfl ?_
            refine g_callIN (As := []) (rest := [.ref np, .int (nI 4), .ref n1]) (wr := [[(z0, .inr (1, [.ref n1, .ref n2, .int 0, .int 0]))], [(n1, .inl (v.2.1 4, 6, .inr (.inr (.inr (.inr (va_up (va_up (va_up (va_up (fun _ => none) 0 (some (pa1 0))) 1 (some (pa5 0))) 2 (some (pa9 0))) 3 (some (pa13 0))))))))], [(n2, .inl (v.2.1 5, 6, .inr (.inr (.inr (.inr (va_up (va_up (va_up (va_up (fun _ => none) 0 (some (ba3 0))) 1 (some (ba7 0))) 2 (some (ba11 0))) 3 (some (ba15 0))))))))], cPg v pa1 0 (fun _ _ => 0), cAs v ba3 ba3g, cPg v pa5 0 (fun _ _ => 0), cAs v ba7 ba7g, cPg v pa9 0 (fun _ _ => 0), cAs v ba11 ba11g, cPg v pa13 0 (fun _ _ => 0), cAs v ba15 ba15g]) X (c_X3_init l v np) f_X3_init 2 rfl dX1_init_39 [11] [0, 1, 2, 3, 4, 5, 6, 7, 8, 9, 10] rfl rfl (by decide) rfl rfl (Nat.le_of_ble_eq_true rfl) (by decide) (fun w_ hp18 => ?_)
            obtain ⟨pa17, rfl, rfl⟩ := hp18
            show GG k _ _ [cPg v pa17 0 (fun _ _ => 0), [(z0, .inr (1, [.ref n1, .ref n2, .int 0, .int 0]))], [(n1, .inl (v.2.1 4, 6, .inr (.inr (.inr (.inr (va_up (va_up (va_up (va_up (fun _ => none) 0 (some (pa1 0))) 1 (some (pa5 0))) 2 (some (pa9 0))) 3 (some (pa13 0))))))))], [(n2, .inl (v.2.1 5, 6, .inr (.inr (.inr (.inr (va_up (va_up (va_up (va_up (fun _ => none) 0 (some (ba3 0))) 1 (some (ba7 0))) 2 (some (ba11 0))) 3 (some (ba15 0))))))))], cPg v pa1 0 (fun _ _ => 0), cAs v ba3 ba3g, cPg v pa5 0 (fun _ _ => 0), cAs v ba7 ba7g, cPg v pa9 0 (fun _ _ => 0), cAs v ba11 ba11g, cPg v pa13 0 (fun _ _ => 0), cAs v ba15 ba15g] _ _ [.ref (pa17 0), .int (nI 4), .ref n1]
            refine g_pick (cs' := [[(z0, .inr (1, [.ref n1, .ref n2, .int 0, .int 0]))], [(n1, .inl (v.2.1 4, 6, .inr (.inr (.inr (.inr (va_up (va_up (va_up (va_up (fun _ => none) 0 (some (pa1 0))) 1 (some (pa5 0))) 2 (some (pa9 0))) 3 (some (pa13 0))))))))], [(n2, .inl (v.2.1 5, 6, .inr (.inr (.inr (.inr (va_up (va_up (va_up (va_up (fun _ => none) 0 (some (ba3 0))) 1 (some (ba7 0))) 2 (some (ba11 0))) 3 (some (ba15 0))))))))], cPg v pa1 0 (fun _ _ => 0), cAs v ba3 ba3g, cPg v pa5 0 (fun _ _ => 0), cAs v ba7 ba7g, cPg v pa9 0 (fun _ _ => 0), cAs v ba11 ba11g, cPg v pa13 0 (fun _ _ => 0), cAs v ba15 ba15g, cPg v pa17 0 (fun _ _ => 0)]) [1, 2, 3, 4, 5, 6, 7, 8, 9, 10, 11, 0] rfl rfl ?_
            refine g_astq 4 (cs' := [[(z0, .inr (1, [.ref n1, .ref n2, .int 0, .int 0]))], [(n1, .inl (v.2.1 4, 6, .inr (.inr (.inr (.inr (va_up (va_up (va_up (va_up (va_up (fun _ => none) 0 (some (pa1 0))) 1 (some (pa5 0))) 2 (some (pa9 0))) 3 (some (pa13 0))) 4 (some (pa17 0))))))))], [(n2, .inl (v.2.1 5, 6, .inr (.inr (.inr (.inr (va_up (va_up (va_up (va_up (fun _ => none) 0 (some (ba3 0))) 1 (some (ba7 0))) 2 (some (ba11 0))) 3 (some (ba15 0))))))))], cPg v pa1 0 (fun _ _ => 0), cAs v ba3 ba3g, cPg v pa5 0 (fun _ _ => 0), cAs v ba7 ba7g, cPg v pa9 0 (fun _ _ => 0), cAs v ba11 ba11g, cPg v pa13 0 (fun _ _ => 0), cAs v ba15 ba15g, cPg v pa17 0 (fun _ _ => 0)]) X cb3 rfl dX1_init_42 1 0 11 0 rfl rfl rfl rfl (by omega) (by decide) rfl ?_
            refine g_aload_n X dX1_init_43 1 rfl rfl ?_
            refine g_get X cb1 1 q_4_3 dX1_init_44 0 0 rfl rfl (by decide) rfl rfl ?_
            refine g_iload_n X dX1_init_47 0 rfl rfl ?_
            refine g_new (fs := [.null, .null]) X cb0 q_4_2 q_1_15 q_1_16 dX1_init_48 (fun j hj => by rcases (show j = 0 ∨ j = 1 by omega) with rfl | rfl <;> rfl) (by decide) (by decide) (fun nb => ?_)
            show GG k 50 441 [[(z0, .inr (1, [.ref n1, .ref n2, .int 0, .int 0]))], [(n1, .inl (v.2.1 4, 6, .inr (.inr (.inr (.inr (va_up (va_up (va_up (va_up (va_up (fun _ => none) 0 (some (pa1 0))) 1 (some (pa5 0))) 2 (some (pa9 0))) 3 (some (pa13 0))) 4 (some (pa17 0))))))))], [(n2, .inl (v.2.1 5, 6, .inr (.inr (.inr (.inr (va_up (va_up (va_up (va_up (fun _ => none) 0 (some (ba3 0))) 1 (some (ba7 0))) 2 (some (ba11 0))) 3 (some (ba15 0))))))))], cPg v pa1 0 (fun _ _ => 0), cAs v ba3 ba3g, cPg v pa5 0 (fun _ _ => 0), cAs v ba7 ba7g, cPg v pa9 0 (fun _ _ => 0), cAs v ba11 ba11g, cPg v pa13 0 (fun _ _ => 0), cAs v ba15 ba15g, cPg v pa17 0 (fun _ _ => 0), [(nb, .inr (0, [.null, .null]))]] _ _ _
            refine g_dup X dX1_init_51 rfl ?_
            refine g_callIN (As := []) (rest := [.ref nb, .int (nI 4), .ref n2]) (wr := [[(z0, .inr (1, [.ref n1, .ref n2, .int 0, .int 0]))], [(n1, .inl (v.2.1 4, 6, .inr (.inr (.inr (.inr (va_up (va_up (va_up (va_up (va_up (fun _ => none) 0 (some (pa1 0))) 1 (some (pa5 0))) 2 (some (pa9 0))) 3 (some (pa13 0))) 4 (some (pa17 0))))))))], [(n2, .inl (v.2.1 5, 6, .inr (.inr (.inr (.inr (va_up (va_up (va_up (va_up (fun _ => none) 0 (some (ba3 0))) 1 (some (ba7 0))) 2 (some (ba11 0))) 3 (some (ba15 0))))))))], cPg v pa1 0 (fun _ _ => 0), cAs v ba3 ba3g, cPg v pa5 0 (fun _ _ => 0), cAs v ba7 ba7g, cPg v pa9 0 (fun _ _ => 0), cAs v ba11 ba11g, cPg v pa13 0 (fun _ _ => 0), cAs v ba15 ba15g, cPg v pa17 0 (fun _ _ => 0)]) X (c_X0_init l v nb) f_X0_init 3 rfl dX1_init_52 [12] [0, 1, 2, 3, 4, 5, 6, 7, 8, 9, 10, 11] rfl rfl (by decide) rfl rfl (Nat.le_of_ble_eq_true rfl) (by decide) (fun w_ hp20 => ?_)
            obtain ⟨ba19, ba19g, rfl, ba19R, rfl⟩ := hp20
            show GG k _ _ [cAs v ba19 ba19g, [(z0, .inr (1, [.ref n1, .ref n2, .int 0, .int 0]))], [(n1, .inl (v.2.1 4, 6, .inr (.inr (.inr (.inr (va_up (va_up (va_up (va_up (va_up (fun _ => none) 0 (some (pa1 0))) 1 (some (pa5 0))) 2 (some (pa9 0))) 3 (some (pa13 0))) 4 (some (pa17 0))))))))], [(n2, .inl (v.2.1 5, 6, .inr (.inr (.inr (.inr (va_up (va_up (va_up (va_up (fun _ => none) 0 (some (ba3 0))) 1 (some (ba7 0))) 2 (some (ba11 0))) 3 (some (ba15 0))))))))], cPg v pa1 0 (fun _ _ => 0), cAs v ba3 ba3g, cPg v pa5 0 (fun _ _ => 0), cAs v ba7 ba7g, cPg v pa9 0 (fun _ _ => 0), cAs v ba11 ba11g, cPg v pa13 0 (fun _ _ => 0), cAs v ba15 ba15g, cPg v pa17 0 (fun _ _ => 0)] _ _ [.ref (ba19 0), .int (nI 4), .ref n2]
            refine g_pick (cs' := [[(z0, .inr (1, [.ref n1, .ref n2, .int 0, .int 0]))], [(n1, .inl (v.2.1 4, 6, .inr (.inr (.inr (.inr (va_up (va_up (va_up (va_up (va_up (fun _ => none) 0 (some (pa1 0))) 1 (some (pa5 0))) 2 (some (pa9 0))) 3 (some (pa13 0))) 4 (some (pa17 0))))))))], [(n2, .inl (v.2.1 5, 6, .inr (.inr (.inr (.inr (va_up (va_up (va_up (va_up (fun _ => none) 0 (some (ba3 0))) 1 (some (ba7 0))) 2 (some (ba11 0))) 3 (some (ba15 0))))))))], cPg v pa1 0 (fun _ _ => 0), cAs v ba3 ba3g, cPg v pa5 0 (fun _ _ => 0), cAs v ba7 ba7g, cPg v pa9 0 (fun _ _ => 0), cAs v ba11 ba11g, cPg v pa13 0 (fun _ _ => 0), cAs v ba15 ba15g, cPg v pa17 0 (fun _ _ => 0), cAs v ba19 ba19g]) [1, 2, 3, 4, 5, 6, 7, 8, 9, 10, 11, 12, 0] rfl rfl ?_
            refine g_astq 5 (cs' := [[(z0, .inr (1, [.ref n1, .ref n2, .int 0, .int 0]))], [(n1, .inl (v.2.1 4, 6, .inr (.inr (.inr (.inr (va_up (va_up (va_up (va_up (va_up (fun _ => none) 0 (some (pa1 0))) 1 (some (pa5 0))) 2 (some (pa9 0))) 3 (some (pa13 0))) 4 (some (pa17 0))))))))], [(n2, .inl (v.2.1 5, 6, .inr (.inr (.inr (.inr (va_up (va_up (va_up (va_up (va_up (fun _ => none) 0 (some (ba3 0))) 1 (some (ba7 0))) 2 (some (ba11 0))) 3 (some (ba15 0))) 4 (some (ba19 0))))))))], cPg v pa1 0 (fun _ _ => 0), cAs v ba3 ba3g, cPg v pa5 0 (fun _ _ => 0), cAs v ba7 ba7g, cPg v pa9 0 (fun _ _ => 0), cAs v ba11 ba11g, cPg v pa13 0 (fun _ _ => 0), cAs v ba15 ba15g, cPg v pa17 0 (fun _ _ => 0), cAs v ba19 ba19g]) X cb0 rfl dX1_init_55 2 0 12 0 rfl rfl rfl rfl (by omega) (by decide) rfl ?_
            refine g_iinc (y := nI 5) (lv' := [(1, .int (nI 5)), (0, .ref z0)]) (j := 0) X dX1_init_56 rfl (nI_add 4 1) (by decide) rfl ?_
            refine g_goto (tgt := 24) X dX1_init_59 (by decide) ?_
            refine g_iload_n X dX1_init_24 0 rfl rfl ?_
            refine g_bipush (x := nI 6) X dX1_init_25 (by decide +kernel) ?_
            refine g_icmp_geN (tgt := 62) X dX1_init_27 (by decide) (by omega) (by omega) (fun c27 => ?_) (fun c27 => ?_)
            · exact absurd c27 (by decide)
            · refine g_aload_n X dX1_init_30 1 rfl rfl ?_
              refine g_get X cb1 0 q_4_1 dX1_init_31 0 0 rfl rfl (by decide) rfl rfl ?_
              refine g_iload_n X dX1_init_34 0 rfl rfl ?_
              refine g_new (fs := [.int 0, .null, .null, .null, .null, .null, .null]) X cb3 q_4_0 q_1_11 q_1_12 dX1_init_35 (fun j hj => by rcases (show j = 0 ∨ j = 1 ∨ j = 2 ∨ j = 3 ∨ j = 4 ∨ j = 5 ∨ j = 6 by omega) with rfl | rfl | rfl | rfl | rfl | rfl | rfl <;> rfl) (by decide) (by decide) (fun np => ?_)
              show GG k 53 454 [[(z0, .inr (1, [.ref n1, .ref n2, .int 0, .int 0]))], [(n1, .inl (v.2.1 4, 6, .inr (.inr (.inr (.inr (va_up (va_up (va_up (va_up (va_up (fun _ => none) 0 (some (pa1 0))) 1 (some (pa5 0))) 2 (some (pa9 0))) 3 (some (pa13 0))) 4 (some (pa17 0))))))))], [(n2, .inl (v.2.1 5, 6, .inr (.inr (.inr (.inr (va_up (va_up (va_up (va_up (va_up (fun _ => none) 0 (some (ba3 0))) 1 (some (ba7 0))) 2 (some (ba11 0))) 3 (some (ba15 0))) 4 (some (ba19 0))))))))], cPg v pa1 0 (fun _ _ => 0), cAs v ba3 ba3g, cPg v pa5 0 (fun _ _ => 0), cAs v ba7 ba7g, cPg v pa9 0 (fun _ _ => 0), cAs v ba11 ba11g, cPg v pa13 0 (fun _ _ => 0), cAs v ba15 ba15g, cPg v pa17 0 (fun _ _ => 0), cAs v ba19 ba19g, [(np, .inr (3, [.int 0, .null, .null, .null, .null, .null, .null]))]] _ _ _
              refine g_dup X dX1_init_38 rfl ?_
              refine g_callIN (As := []) (rest := [.ref np, .int (nI 5), .ref n1]) (wr := [[(z0, .inr (1, [.ref n1, .ref n2, .int 0, .int 0]))], [(n1, .inl (v.2.1 4, 6, .inr (.inr (.inr (.inr (va_up (va_up (va_up (va_up (va_up (fun _ => none) 0 (some (pa1 0))) 1 (some (pa5 0))) 2 (some (pa9 0))) 3 (some (pa13 0))) 4 (some (pa17 0))))))))], [(n2, .inl (v.2.1 5, 6, .inr (.inr (.inr (.inr (va_up (va_up (va_up (va_up (va_up (fun _ => none) 0 (some (ba3 0))) 1 (some (ba7 0))) 2 (some (ba11 0))) 3 (some (ba15 0))) 4 (some (ba19 0))))))))], cPg v pa1 0 (fun _ _ => 0), cAs v ba3 ba3g, cPg v pa5 0 (fun _ _ => 0), cAs v ba7 ba7g, cPg v pa9 0 (fun _ _ => 0), cAs v ba11 ba11g, cPg v pa13 0 (fun _ _ => 0), cAs v ba15 ba15g, cPg v pa17 0 (fun _ _ => 0), cAs v ba19 ba19g]) X (c_X3_init l v np) f_X3_init 2 rfl dX1_init_39 [13] [0, 1, 2, 3, 4, 5, 6, 7, 8, 9, 10, 11, 12] rfl rfl (by decide) rfl rfl (Nat.le_of_ble_eq_true rfl) (by decide) (fun w_ hp22 => ?_)
              obtain ⟨pa21, rfl, rfl⟩ := hp22
              show GG k _ _ [cPg v pa21 0 (fun _ _ => 0), [(z0, .inr (1, [.ref n1, .ref n2, .int 0, .int 0]))], [(n1, .inl (v.2.1 4, 6, .inr (.inr (.inr (.inr (va_up (va_up (va_up (va_up (va_up (fun _ => none) 0 (some (pa1 0))) 1 (some (pa5 0))) 2 (some (pa9 0))) 3 (some (pa13 0))) 4 (some (pa17 0))))))))], [(n2, .inl (v.2.1 5, 6, .inr (.inr (.inr (.inr (va_up (va_up (va_up (va_up (va_up (fun _ => none) 0 (some (ba3 0))) 1 (some (ba7 0))) 2 (some (ba11 0))) 3 (some (ba15 0))) 4 (some (ba19 0))))))))], cPg v pa1 0 (fun _ _ => 0), cAs v ba3 ba3g, cPg v pa5 0 (fun _ _ => 0), cAs v ba7 ba7g, cPg v pa9 0 (fun _ _ => 0), cAs v ba11 ba11g, cPg v pa13 0 (fun _ _ => 0), cAs v ba15 ba15g, cPg v pa17 0 (fun _ _ => 0), cAs v ba19 ba19g] _ _ [.ref (pa21 0), .int (nI 5), .ref n1]
              refine g_pick (cs' := [[(z0, .inr (1, [.ref n1, .ref n2, .int 0, .int 0]))], [(n1, .inl (v.2.1 4, 6, .inr (.inr (.inr (.inr (va_up (va_up (va_up (va_up (va_up (fun _ => none) 0 (some (pa1 0))) 1 (some (pa5 0))) 2 (some (pa9 0))) 3 (some (pa13 0))) 4 (some (pa17 0))))))))], [(n2, .inl (v.2.1 5, 6, .inr (.inr (.inr (.inr (va_up (va_up (va_up (va_up (va_up (fun _ => none) 0 (some (ba3 0))) 1 (some (ba7 0))) 2 (some (ba11 0))) 3 (some (ba15 0))) 4 (some (ba19 0))))))))], cPg v pa1 0 (fun _ _ => 0), cAs v ba3 ba3g, cPg v pa5 0 (fun _ _ => 0), cAs v ba7 ba7g, cPg v pa9 0 (fun _ _ => 0), cAs v ba11 ba11g, cPg v pa13 0 (fun _ _ => 0), cAs v ba15 ba15g, cPg v pa17 0 (fun _ _ => 0), cAs v ba19 ba19g, cPg v pa21 0 (fun _ _ => 0)]) [1, 2, 3, 4, 5, 6, 7, 8, 9, 10, 11, 12, 13, 0] rfl rfl ?_
              refine g_astq 4 (cs' := [[(z0, .inr (1, [.ref n1, .ref n2, .int 0, .int 0]))], [(n1, .inl (v.2.1 4, 6, .inr (.inr (.inr (.inr (va_up (va_up (va_up (va_up (va_up (va_up (fun _ => none) 0 (some (pa1 0))) 1 (some (pa5 0))) 2 (some (pa9 0))) 3 (some (pa13 0))) 4 (some (pa17 0))) 5 (some (pa21 0))))))))], [(n2, .inl (v.2.1 5, 6, .inr (.inr (.inr (.inr (va_up (va_up (va_up (va_up (va_up (fun _ => none) 0 (some (ba3 0))) 1 (some (ba7 0))) 2 (some (ba11 0))) 3 (some (ba15 0))) 4 (some (ba19 0))))))))], cPg v pa1 0 (fun _ _ => 0), cAs v ba3 ba3g, cPg v pa5 0 (fun _ _ => 0), cAs v ba7 ba7g, cPg v pa9 0 (fun _ _ => 0), cAs v ba11 ba11g, cPg v pa13 0 (fun _ _ => 0), cAs v ba15 ba15g, cPg v pa17 0 (fun _ _ => 0), cAs v ba19 ba19g, cPg v pa21 0 (fun _ _ => 0)]) X cb3 rfl dX1_init_42 1 0 13 0 rfl rfl rfl rfl (by omega) (by decide) rfl ?_
              refine g_aload_n X dX1_init_43 1 rfl rfl ?_
              refine g_get X cb1 1 q_4_3 dX1_init_44 0 0 rfl rfl (by decide) rfl rfl ?_
              refine g_iload_n X dX1_init_47 0 rfl rfl ?_
              refine g_new (fs := [.null, .null]) X cb0 q_4_2 q_1_15 q_1_16 dX1_init_48 (fun j hj => by rcases (show j = 0 ∨ j = 1 by omega) with rfl | rfl <;> rfl) (by decide) (by decide) (fun nb => ?_)
              show GG k 60 528 [[(z0, .inr (1, [.ref n1, .ref n2, .int 0, .int 0]))], [(n1, .inl (v.2.1 4, 6, .inr (.inr (.inr (.inr (va_up (va_up (va_up (va_up (va_up (va_up (fun _ => none) 0 (some (pa1 0))) 1 (some (pa5 0))) 2 (some (pa9 0))) 3 (some (pa13 0))) 4 (some (pa17 0))) 5 (some (pa21 0))))))))], [(n2, .inl (v.2.1 5, 6, .inr (.inr (.inr (.inr (va_up (va_up (va_up (va_up (va_up (fun _ => none) 0 (some (ba3 0))) 1 (some (ba7 0))) 2 (some (ba11 0))) 3 (some (ba15 0))) 4 (some (ba19 0))))))))], cPg v pa1 0 (fun _ _ => 0), cAs v ba3 ba3g, cPg v pa5 0 (fun _ _ => 0), cAs v ba7 ba7g, cPg v pa9 0 (fun _ _ => 0), cAs v ba11 ba11g, cPg v pa13 0 (fun _ _ => 0), cAs v ba15 ba15g, cPg v pa17 0 (fun _ _ => 0), cAs v ba19 ba19g, cPg v pa21 0 (fun _ _ => 0), [(nb, .inr (0, [.null, .null]))]] _ _ _
              refine g_dup X dX1_init_51 rfl ?_
              refine g_callIN (As := []) (rest := [.ref nb, .int (nI 5), .ref n2]) (wr := [[(z0, .inr (1, [.ref n1, .ref n2, .int 0, .int 0]))], [(n1, .inl (v.2.1 4, 6, .inr (.inr (.inr (.inr (va_up (va_up (va_up (va_up (va_up (va_up (fun _ => none) 0 (some (pa1 0))) 1 (some (pa5 0))) 2 (some (pa9 0))) 3 (some (pa13 0))) 4 (some (pa17 0))) 5 (some (pa21 0))))))))], [(n2, .inl (v.2.1 5, 6, .inr (.inr (.inr (.inr (va_up (va_up (va_up (va_up (va_up (fun _ => none) 0 (some (ba3 0))) 1 (some (ba7 0))) 2 (some (ba11 0))) 3 (some (ba15 0))) 4 (some (ba19 0))))))))], cPg v pa1 0 (fun _ _ => 0), cAs v ba3 ba3g, cPg v pa5 0 (fun _ _ => 0), cAs v ba7 ba7g, cPg v pa9 0 (fun _ _ => 0), cAs v ba11 ba11g, cPg v pa13 0 (fun _ _ => 0), cAs v ba15 ba15g, cPg v pa17 0 (fun _ _ => 0), cAs v ba19 ba19g, cPg v pa21 0 (fun _ _ => 0)]) X (c_X0_init l v nb) f_X0_init 3 rfl dX1_init_52 [14] [0, 1, 2, 3, 4, 5, 6, 7, 8, 9, 10, 11, 12, 13] rfl rfl (by decide) rfl rfl (Nat.le_of_ble_eq_true rfl) (by decide) (fun w_ hp24 => ?_)
              obtain ⟨ba23, ba23g, rfl, ba23R, rfl⟩ := hp24
              show GG k _ _ [cAs v ba23 ba23g, [(z0, .inr (1, [.ref n1, .ref n2, .int 0, .int 0]))], [(n1, .inl (v.2.1 4, 6, .inr (.inr (.inr (.inr (va_up (va_up (va_up (va_up (va_up (va_up (fun _ => none) 0 (some (pa1 0))) 1 (some (pa5 0))) 2 (some (pa9 0))) 3 (some (pa13 0))) 4 (some (pa17 0))) 5 (some (pa21 0))))))))], [(n2, .inl (v.2.1 5, 6, .inr (.inr (.inr (.inr (va_up (va_up (va_up (va_up (va_up (fun _ => none) 0 (some (ba3 0))) 1 (some (ba7 0))) 2 (some (ba11 0))) 3 (some (ba15 0))) 4 (some (ba19 0))))))))], cPg v pa1 0 (fun _ _ => 0), cAs v ba3 ba3g, cPg v pa5 0 (fun _ _ => 0), cAs v ba7 ba7g, cPg v pa9 0 (fun _ _ => 0), cAs v ba11 ba11g, cPg v pa13 0 (fun _ _ => 0), cAs v ba15 ba15g, cPg v pa17 0 (fun _ _ => 0), cAs v ba19 ba19g, cPg v pa21 0 (fun _ _ => 0)] _ _ [.ref (ba23 0), .int (nI 5), .ref n2]
              refine g_pick (cs' := [[(z0, .inr (1, [.ref n1, .ref n2, .int 0, .int 0]))], [(n1, .inl (v.2.1 4, 6, .inr (.inr (.inr (.inr (va_up (va_up (va_up (va_up (va_up (va_up (fun _ => none) 0 (some (pa1 0))) 1 (some (pa5 0))) 2 (some (pa9 0))) 3 (some (pa13 0))) 4 (some (pa17 0))) 5 (some (pa21 0))))))))], [(n2, .inl (v.2.1 5, 6, .inr (.inr (.inr (.inr (va_up (va_up (va_up (va_up (va_up (fun _ => none) 0 (some (ba3 0))) 1 (some (ba7 0))) 2 (some (ba11 0))) 3 (some (ba15 0))) 4 (some (ba19 0))))))))], cPg v pa1 0 (fun _ _ => 0), cAs v ba3 ba3g, cPg v pa5 0 (fun _ _ => 0), cAs v ba7 ba7g, cPg v pa9 0 (fun _ _ => 0), cAs v ba11 ba11g, cPg v pa13 0 (fun _ _ => 0), cAs v ba15 ba15g, cPg v pa17 0 (fun _ _ => 0), cAs v ba19 ba19g, cPg v pa21 0 (fun _ _ => 0), cAs v ba23 ba23g]) [1, 2, 3, 4, 5, 6, 7, 8, 9, 10, 11, 12, 13, 14, 0] rfl rfl ?_
              refine g_astq 5 (cs' := [[(z0, .inr (1, [.ref n1, .ref n2, .int 0, .int 0]))], [(n1, .inl (v.2.1 4, 6, .inr (.inr (.inr (.inr (va_up (va_up (va_up (va_up (va_up (va_up (fun _ => none) 0 (some (pa1 0))) 1 (some (pa5 0))) 2 (some (pa9 0))) 3 (some (pa13 0))) 4 (some (pa17 0))) 5 (some (pa21 0))))))))], [(n2, .inl (v.2.1 5, 6, .inr (.inr (.inr (.inr (va_up (va_up (va_up (va_up (va_up (va_up (fun _ => none) 0 (some (ba3 0))) 1 (some (ba7 0))) 2 (some (ba11 0))) 3 (some (ba15 0))) 4 (some (ba19 0))) 5 (some (ba23 0))))))))], cPg v pa1 0 (fun _ _ => 0), cAs v ba3 ba3g, cPg v pa5 0 (fun _ _ => 0), cAs v ba7 ba7g, cPg v pa9 0 (fun _ _ => 0), cAs v ba11 ba11g, cPg v pa13 0 (fun _ _ => 0), cAs v ba15 ba15g, cPg v pa17 0 (fun _ _ => 0), cAs v ba19 ba19g, cPg v pa21 0 (fun _ _ => 0), cAs v ba23 ba23g]) X cb0 rfl dX1_init_55 2 0 14 0 rfl rfl rfl rfl (by omega) (by decide) rfl ?_
              refine g_iinc (y := nI 6) (lv' := [(1, .int (nI 6)), (0, .ref z0)]) (j := 0) X dX1_init_56 rfl (nI_add 5 1) (by decide) rfl ?_
              refine g_goto (tgt := 24) X dX1_init_59 (by decide) ?_
              refine g_iload_n X dX1_init_24 0 rfl rfl ?_
              refine g_bipush (x := nI 6) X dX1_init_25 (by decide +kernel) ?_
              refine g_icmp_geN (tgt := 62) X dX1_init_27 (by decide) (by omega) (by omega) (fun c27 => ?_) (fun c27 => ?_)
              · refine g_pick (cs' := [[(z0, .inr (1, [.ref n1, .ref n2, .int 0, .int 0]))], [(n1, .inl (v.2.1 4, 6, .inr (.inr (.inr (.inr (va_up (va_up (va_up (va_up (va_up (va_up (fun _ => none) 0 (some (pa1 0))) 1 (some (pa5 0))) 2 (some (pa9 0))) 3 (some (pa13 0))) 4 (some (pa17 0))) 5 (some (pa21 0))))))))], [(n2, .inl (v.2.1 5, 6, .inr (.inr (.inr (.inr (va_up (va_up (va_up (va_up (va_up (va_up (fun _ => none) 0 (some (ba3 0))) 1 (some (ba7 0))) 2 (some (ba11 0))) 3 (some (ba15 0))) 4 (some (ba19 0))) 5 (some (ba23 0))))))))], cPg v pa1 0 (fun _ _ => 0), cPg v pa5 0 (fun _ _ => 0), cPg v pa9 0 (fun _ _ => 0), cPg v pa13 0 (fun _ _ => 0), cPg v pa17 0 (fun _ _ => 0), cPg v pa21 0 (fun _ _ => 0), cAs v ba3 ba3g, cAs v ba7 ba7g, cAs v ba11 ba11g, cAs v ba15 ba15g, cAs v ba19 ba19g, cAs v ba23 ba23g]) [0, 1, 2, 3, 5, 7, 9, 11, 13, 4, 6, 8, 10, 12, 14] rfl rfl ?_
                refine g_flat (cs' := [cHi9 v (a3 z0 n1 n2) (g6f pa1 pa5 pa9 pa13 pa17 pa21) (g6f ba3 ba7 ba11 ba15 ba19 ba23) 0 0, cPg v ((g6f pa1 pa5 pa9 pa13 pa17 pa21) 0) ((fun _ => 0) 0) ((fun _ _ _ => 0) 0), cPg v ((g6f pa1 pa5 pa9 pa13 pa17 pa21) 1) ((fun _ => 0) 1) ((fun _ _ _ => 0) 1), cPg v ((g6f pa1 pa5 pa9 pa13 pa17 pa21) 2) ((fun _ => 0) 2) ((fun _ _ _ => 0) 2), cPg v ((g6f pa1 pa5 pa9 pa13 pa17 pa21) 3) ((fun _ => 0) 3) ((fun _ _ _ => 0) 3), cPg v ((g6f pa1 pa5 pa9 pa13 pa17 pa21) 4) ((fun _ => 0) 4) ((fun _ _ _ => 0) 4), cPg v ((g6f pa1 pa5 pa9 pa13 pa17 pa21) 5) ((fun _ => 0) 5) ((fun _ _ _ => 0) 5), cAs v ((g6f ba3 ba7 ba11 ba15 ba19 ba23) 0) ((g6f ba3g ba7g ba11g ba15g ba19g ba23g) 0), cAs v ((g6f ba3 ba7 ba11 ba15 ba19 ba23) 1) ((g6f ba3g ba7g ba11g ba15g ba19g ba23g) 1), cAs v ((g6f ba3 ba7 ba11 ba15 ba19 ba23) 2) ((g6f ba3g ba7g ba11g ba15g ba19g ba23g) 2), cAs v ((g6f ba3 ba7 ba11 ba15 ba19 ba23) 3) ((g6f ba3g ba7g ba11g ba15g ba19g ba23g) 3), cAs v ((g6f ba3 ba7 ba11 ba15 ba19 ba23) 4) ((g6f ba3g ba7g ba11g ba15g ba19g ba23g) 4), cAs v ((g6f ba3 ba7 ba11 ba15 ba19 ba23) 5) ((g6f ba3g ba7g ba11g ba15g ba19g ba23g) 5)]) rfl ?_
                exact E dX1_init_62 (by decide) (by decide) (⟨a3 z0 n1 n2, _, _, (fun _ => 0), (fun _ _ _ => 0), _, rfl, ⟨by omega, by omega, fun i h => absurd h (Nat.not_lt_zero _)⟩, rfl⟩)
              · exact absurd c27 (by decide)

set_option maxHeartbeats 4000000 in
set_option maxRecDepth 100000 in
theorem c_X5_init (l : Launch) (v : VV) (z0 : Nat) : MU l v yX5_init cX5_init 1 none ({ frames := 2, cells := 8, slots := 139, locals := 40 }) [.ref z0] [[(z0, .inr (5, [.null, .int 0, .null, .int 0, .int 0, .int 0, .int 0, .int 0, .int 0]))]] (fun _ w_ => ∃ t al fc, t 0 = z0 ∧ w_ = [cTx v t (al 0) 0 0 0 0 0 0 0, cCh v t fc, cPg v al 0 (fun _ _ => 0)]) 8 139 := by
  refine mm_void rfl (by decide) (Nat.le_of_ble_eq_true rfl) [(0, .ref z0)] rfl (fun k X hin E => ?_)
  refine g_aload_n X dX5_init_0 0 rfl rfl ?_
  refine g_objInit X q_4_6 q_1_8 q_1_9 dX5_init_1 (by decide) (by decide) ?_
  refine g_aload_n X dX5_init_4 0 rfl rfl ?_
  refine g_bipush (x := nI 60) X dX5_init_5 (by decide +kernel) ?_
  refine g_newa 3 (N := 60) (atype := .char) (ty := .char) (a0 := (60, .inl (fun _ => 0))) X q_4_7 rfl dX5_init_7 rfl (fun _ => rfl) (by decide) (by decide) (by decide) (by decide) (fun n1 => ?_)
  show GG k 1 60 [[(z0, .inr (5, [.null, .int 0, .null, .int 0, .int 0, .int 0, .int 0, .int 0, .int 0]))], [(n1, .inl (v.2.1 3, 60, .inl (fun _ => 0)))]] _ _ _
  refine g_putF (cs' := [[(z0, .inr (5, [.ref n1, .int 0, .null, .int 0, .int 0, .int 0, .int 0, .int 0, .int 0]))], [(n1, .inl (v.2.1 3, 60, .inl (fun _ => 0)))]]) X hin cb5 0 q_4_8 dX5_init_9 0 0 rfl rfl (by decide) rfl rfl rfl (rfl) (rfl) (Nat.le_of_ble_eq_true rfl) rfl ?_
  refine g_aload_n X dX5_init_12 0 rfl rfl ?_
  refine g_new (fs := [.int 0, .null, .null, .null, .null, .null, .null]) X cb3 q_4_9 q_1_11 q_1_12 dX5_init_13 (fun j hj => by rcases (show j = 0 ∨ j = 1 ∨ j = 2 ∨ j = 3 ∨ j = 4 ∨ j = 5 ∨ j = 6 by omega) with rfl | rfl | rfl | rfl | rfl | rfl | rfl <;> rfl) (by decide) (by decide) (fun np => ?_)
  show GG k 2 67 [[(z0, .inr (5, [.ref n1, .int 0, .null, .int 0, .int 0, .int 0, .int 0, .int 0, .int 0]))], [(n1, .inl (v.2.1 3, 60, .inl (fun _ => 0)))], [(np, .inr (3, [.int 0, .null, .null, .null, .null, .null, .null]))]] _ _ _
  refine g_dup X dX5_init_16 rfl ?_
  refine g_callIN (As := []) (rest := [.ref np, .ref z0]) (wr := [[(z0, .inr (5, [.ref n1, .int 0, .null, .int 0, .int 0, .int 0, .int 0, .int 0, .int 0]))], [(n1, .inl (v.2.1 3, 60, .inl (fun _ => 0)))]]) X (c_X3_init l v np) f_X3_init 5 rfl dX5_init_17 [2] [0, 1] rfl rfl (by decide) rfl rfl (Nat.le_of_ble_eq_true rfl) (by decide) (fun w_ hp2 => ?_)
  obtain ⟨pa1, rfl, rfl⟩ := hp2
  show GG k _ _ [cPg v pa1 0 (fun _ _ => 0), [(z0, .inr (5, [.ref n1, .int 0, .null, .int 0, .int 0, .int 0, .int 0, .int 0, .int 0]))], [(n1, .inl (v.2.1 3, 60, .inl (fun _ => 0)))]] _ _ [.ref (pa1 0), .ref z0]
  refine g_pick (cs' := [[(z0, .inr (5, [.ref n1, .int 0, .null, .int 0, .int 0, .int 0, .int 0, .int 0, .int 0]))], [(n1, .inl (v.2.1 3, 60, .inl (fun _ => 0)))], cPg v pa1 0 (fun _ _ => 0)]) [1, 2, 0] rfl rfl ?_
  refine g_putF (cs' := [[(z0, .inr (5, [.ref n1, .int 0, .ref (pa1 0), .int 0, .int 0, .int 0, .int 0, .int 0, .int 0]))], [(n1, .inl (v.2.1 3, 60, .inl (fun _ => 0)))], cPg v pa1 0 (fun _ _ => 0)]) X hin cb5 2 q_4_10 dX5_init_20 0 0 rfl rfl (by decide) rfl rfl rfl (rfl) (rfl) (Nat.le_of_ble_eq_true rfl) rfl ?_
  refine g_flat (cs' := [cTx v (a2 z0 n1) (pa1 0) 0 0 0 0 0 0 0, cCh v (a2 z0 n1) (fun _ => 0), cPg v pa1 0 (fun _ _ => 0)]) rfl ?_
  exact E dX5_init_23 (by decide) (by decide) (⟨a2 z0 n1, _, _, rfl, rfl⟩)


