/-! ## the model: reading a statement -/
/-- the k-th row read is the statement s -/
def RW9 (f : Nat → Int32) (k : Nat) (s : S9) : Prop := f (5 * k + 0) = nI s.1 ∧ f (5 * k + 1) = nI s.2.1 ∧ f (5 * k + 2) = nI (sg9 s) ∧ f (5 * k + 3) = nI (opm s.2.2.2.1) ∧ f (5 * k + 4) = zI s.2.2.2.2
theorem RW9_mk {f : Nat → Int32} {k : Nat} {s : S9} {x0 x1 x2 x3 x4 : Int32} (h0 : x0 = nI s.1) (h1 : x1 = nI s.2.1) (h2 : x2 = nI (sg9 s)) (h3 : x3 = nI (opm s.2.2.2.1)) (h4 : x4 = zI s.2.2.2.2) : RW9 (upd (upd (upd (upd (upd f (5 * k + 0) x0) (5 * k + 1) x1) (5 * k + 2) x2) (5 * k + 3) x3) (5 * k + 4) x4) k s := by
  subst h0; subst h1; subst h2; subst h3; subst h4
  exact ⟨(pk_un (by omega)).trans ((pk_un (by omega)).trans ((pk_un (by omega)).trans ((pk_un (by omega)).trans pk_us))), (pk_un (by omega)).trans ((pk_un (by omega)).trans ((pk_un (by omega)).trans pk_us)), (pk_un (by omega)).trans ((pk_un (by omega)).trans pk_us), (pk_un (by omega)).trans pk_us, pk_us⟩
theorem RW9_num {f : Nat → Int32} {k : Nat} {s : S9} {y x4 : Int32} (h : RW9 (upd f (5 * k + 4) y) k s) {m : Int} (h4 : x4 = zI m) : RW9 (upd (upd f (5 * k + 4) y) (5 * k + 4) x4) k (s.1, s.2.1, s.2.2.1, s.2.2.2.1, m) := by
  subst h4
  exact ⟨(pk_un (by omega)).trans h.1, (pk_un (by omega)).trans h.2.1, (pk_un (by omega)).trans h.2.2.1, (pk_un (by omega)).trans h.2.2.2.1, pk_us⟩
section PADD
variable {tx : Nat → Nat} {ln p : Nat}
theorem pAdd_p (h : 43 ≤ nxc tx ln p ∧ nxc tx ln p ≤ 43) (d : 48 ≤ nxc tx ln (p + 1) ∧ nxc tx ln (p + 1) ≤ 55) : pAdd tx ln p = (some ((nxc tx ln (p + 1) - 48 : Nat) : Int), p + 1 + 1) := by
  unfold pAdd; rw [if_pos (by omega), if_pos d, if_neg (by omega)]; congr 2; omega
theorem pAdd_m (h : 45 ≤ nxc tx ln p ∧ nxc tx ln p ≤ 45) (d : 48 ≤ nxc tx ln (p + 1) ∧ nxc tx ln (p + 1) ≤ 55) : pAdd tx ln p = (some (-((nxc tx ln (p + 1) - 48 : Nat) : Int)), p + 1 + 1) := by
  unfold pAdd; rw [if_pos (by omega), if_pos d, if_pos (by omega)]; congr 2; omega
theorem pAdd_pe (h : 43 ≤ nxc tx ln p ∧ nxc tx ln p ≤ 43) (d : ¬ (48 ≤ nxc tx ln (p + 1) ∧ nxc tx ln (p + 1) ≤ 55)) : pAdd tx ln p = (none, p + 1) := by
  unfold pAdd; rw [if_pos (by omega), if_neg d]
theorem pAdd_me (h : 45 ≤ nxc tx ln p ∧ nxc tx ln p ≤ 45) (d : ¬ (48 ≤ nxc tx ln (p + 1) ∧ nxc tx ln (p + 1) ≤ 55)) : pAdd tx ln p = (none, p + 1) := by
  unfold pAdd; rw [if_pos (by omega), if_neg d]
theorem pAdd_z (h : ¬ (43 ≤ nxc tx ln p ∧ nxc tx ln p ≤ 43)) (h2 : ¬ (45 ≤ nxc tx ln p ∧ nxc tx ln p ≤ 45)) : pAdd tx ln p = (some 0, p) := by
  unfold pAdd; rw [if_neg (by omega)]
theorem eq_rng {c a : Nat} (h : a ≤ c ∧ c ≤ a) : c = a := by omega
theorem ne_rng {c a : Nat} (h : ¬ (a ≤ c ∧ c ≤ a)) : ¬ c = a := by omega
end PADD

set_option maxHeartbeats 4000000 in
set_option maxRecDepth 100000 in
theorem c_X7_readAssignment (l : Launch) (v : VV) (mo : Nat → Nat) (th : Int32) (sm : Nat) (ln : Nat) (fa : Int32) (dd : Int64) (tx : Nat → Nat) (ft : Nat → Int32) (fr : Nat → Int32) (p : Nat) (k9 : Nat) (hT : TxR tx ln ft) (hk : k9 < 12) (hp : p ≤ 85) (h33 : ¬ nxc tx ln p = 33) (h63 : ¬ nxc tx ln p = 63) : MU l v yX7_readAssignment cX7_readAssignment 4 none ({ frames := 4, cells := 0, slots := 0, locals := 88 }) [.ref (mo 0)] [[((mo 0), .inr (7, [.int th, .ref (mo 1), .ref (mo 2), .int (nI sm), .ref (mo 3), .int (nI ln), .ref (mo 4), .int (nI k9), .int fa, .ref (mo 5), .ref (mo 6), .int (nI p), .int (nI 0), .long dd]))], cMt v mo ft, cMr v mo fr] (fun _ w_ => match (pStmt tx ln p).1 with | none => ∃ fr', Blw k9 fr fr' ∧ w_ = [[((mo 0), .inr (7, [.int th, .ref (mo 1), .ref (mo 2), .int (nI sm), .ref (mo 3), .int (nI ln), .ref (mo 4), .int (nI k9), .int fa, .ref (mo 5), .ref (mo 6), .int (nI ((pStmt tx ln p).2)), .int (nI 1), .long dd]))], cMt v mo ft, cMr v mo fr'] | some s => ∃ fr', Blw k9 fr fr' ∧ RW9 fr' k9 s ∧ w_ = [[((mo 0), .inr (7, [.int th, .ref (mo 1), .ref (mo 2), .int (nI sm), .ref (mo 3), .int (nI ln), .ref (mo 4), .int (nI k9), .int fa, .ref (mo 5), .ref (mo 6), .int (nI ((pStmt tx ln p).2)), .int (nI 0), .long dd]))], cMt v mo ft, cMr v mo fr']) 0 0 := by
  refine mm_void rfl (by decide) (Nat.le_of_ble_eq_true rfl) [(0, .ref (mo 0))] rfl (fun k X hin E => ?_)
  have hT1 := hT.1
  have hz0 := nxc_lt hT p
  refine g_aload_n X dX7_readAssignment_0 0 rfl rfl ?_
  refine g_iconst (x := nI 0) X dX7_readAssignment_1 (by decide +kernel) ?_
  refine g_iconst (x := nI 0) X dX7_readAssignment_2 (by decide +kernel) ?_
  refine g_callV (As := [.int (nI 0), .int (nI 0)]) (rest := []) (wr := [cMt v mo ft]) X (c_X7_puts l v mo th sm ln fa (nI p) (nI 0) dd k9 0 (nI 0) fr (by omega) (by omega)) f_X7_puts q_15_3 dX7_readAssignment_3 [0, 2] [1] rfl rfl (by decide) 0 rfl rfl rfl rfl (Nat.le_of_ble_eq_true rfl) (by decide) (fun r_ w_ hp1 => ?_)
  subst hp1
  show GG k _ _ [[((mo 0), .inr (7, [.int th, .ref (mo 1), .ref (mo 2), .int (nI sm), .ref (mo 3), .int (nI ln), .ref (mo 4), .int (nI k9), .int fa, .ref (mo 5), .ref (mo 6), .int (nI p), .int (nI 0), .long dd]))], cMr v mo (upd fr (5 * k9 + 0) (nI 0)), cMt v mo ft] _ _ []
  refine g_pick (cs' := [[((mo 0), .inr (7, [.int th, .ref (mo 1), .ref (mo 2), .int (nI sm), .ref (mo 3), .int (nI ln), .ref (mo 4), .int (nI k9), .int fa, .ref (mo 5), .ref (mo 6), .int (nI p), .int (nI 0), .long dd]))], cMt v mo ft, cMr v mo (upd fr (5 * k9 + 0) (nI 0))]) [0, 2, 1] rfl rfl ?_
  refine g_aload_n X dX7_readAssignment_6 0 rfl rfl ?_
  refine g_iconst (x := nI 1) X dX7_readAssignment_7 (by decide +kernel) ?_
  refine g_aload_n X dX7_readAssignment_8 0 rfl rfl ?_
  refine g_bipush (x := nI 120) X dX7_readAssignment_9 (by decide +kernel) ?_
  refine g_bipush (x := nI 122) X dX7_readAssignment_11 (by decide +kernel) ?_
  refine g_callV (As := [.int (nI 120), .int (nI 122)]) (rest := [.int (nI 1), .ref (mo 0)]) (wr := [cMr v mo (upd fr (5 * k9 + 0) (nI 0))]) X (c_X7_takes l v mo th sm ln (nI k9) fa dd tx ft p 120 122 hT (by omega) (by omega) (by omega) (by omega)) f_X7_takes q_15_7 dX7_readAssignment_13 [0, 1] [2] rfl rfl (by decide) 0 rfl rfl rfl rfl (Nat.le_of_ble_eq_true rfl) (by decide) (fun r_ w_ hp3 => ?_)
  by_cases hv13 : 120 ≤ nxc tx ln p ∧ nxc tx ln p ≤ 122
  · have hp3q := hp3
    rw [if_pos hv13] at hp3
    have hz2 := nxc_lt hT p
    obtain ⟨rfl, rfl⟩ := hp3
    show GG k _ _ [[((mo 0), .inr (7, [.int th, .ref (mo 1), .ref (mo 2), .int (nI sm), .ref (mo 3), .int (nI ln), .ref (mo 4), .int (nI k9), .int fa, .ref (mo 5), .ref (mo 6), .int (nI (p + 1)), .int (nI 0), .long dd]))], cMt v mo ft, cMr v mo (upd fr (5 * k9 + 0) (nI 0))] _ _ [.int (nI (nxc tx ln p - 120)), .int (nI 1), .ref (mo 0)]
    refine g_callV (As := [.int (nI 1), .int (nI (nxc tx ln p - 120))]) (rest := []) (wr := [cMt v mo ft]) X (c_X7_puts l v mo th sm ln fa (nI (p + 1)) (nI 0) dd k9 1 (nI (nxc tx ln p - 120)) (upd fr (5 * k9 + 0) (nI 0)) (by omega) (by omega)) f_X7_puts q_15_3 dX7_readAssignment_16 [0, 2] [1] rfl rfl (by decide) 0 rfl rfl rfl rfl (Nat.le_of_ble_eq_true rfl) (by decide) (fun r_ w_ hp4 => ?_)
    subst hp4
    show GG k _ _ [[((mo 0), .inr (7, [.int th, .ref (mo 1), .ref (mo 2), .int (nI sm), .ref (mo 3), .int (nI ln), .ref (mo 4), .int (nI k9), .int fa, .ref (mo 5), .ref (mo 6), .int (nI (p + 1)), .int (nI 0), .long dd]))], cMr v mo (upd (upd fr (5 * k9 + 0) (nI 0)) (5 * k9 + 1) (nI (nxc tx ln p - 120))), cMt v mo ft] _ _ []
    refine g_pick (cs' := [[((mo 0), .inr (7, [.int th, .ref (mo 1), .ref (mo 2), .int (nI sm), .ref (mo 3), .int (nI ln), .ref (mo 4), .int (nI k9), .int fa, .ref (mo 5), .ref (mo 6), .int (nI (p + 1)), .int (nI 0), .long dd]))], cMt v mo ft, cMr v mo (upd (upd fr (5 * k9 + 0) (nI 0)) (5 * k9 + 1) (nI (nxc tx ln p - 120)))]) [0, 2, 1] rfl rfl ?_
    refine g_aload_n X dX7_readAssignment_19 0 rfl rfl ?_
    refine g_bipush (x := nI 58) X dX7_readAssignment_20 (by decide +kernel) ?_
    refine g_bipush (x := nI 58) X dX7_readAssignment_22 (by decide +kernel) ?_
    refine g_callV (As := [.int (nI 58), .int (nI 58)]) (rest := []) (wr := [cMr v mo (upd (upd fr (5 * k9 + 0) (nI 0)) (5 * k9 + 1) (nI (nxc tx ln p - 120)))]) X (c_X7_takes l v mo th sm ln (nI k9) fa dd tx ft (p + 1) 58 58 hT (by omega) (by omega) (by omega) (by omega)) f_X7_takes q_15_7 dX7_readAssignment_24 [0, 1] [2] rfl rfl (by decide) 0 rfl rfl rfl rfl (Nat.le_of_ble_eq_true rfl) (by decide) (fun r_ w_ hp6 => ?_)
    by_cases hv24 : 58 ≤ nxc tx ln (p + 1) ∧ nxc tx ln (p + 1) ≤ 58
    · have hp6q := hp6
      rw [if_pos hv24] at hp6
      have hz5 := nxc_lt hT (p + 1)
      obtain ⟨rfl, rfl⟩ := hp6
      show GG k _ _ [[((mo 0), .inr (7, [.int th, .ref (mo 1), .ref (mo 2), .int (nI sm), .ref (mo 3), .int (nI ln), .ref (mo 4), .int (nI k9), .int fa, .ref (mo 5), .ref (mo 6), .int (nI (p + 1 + 1)), .int (nI 0), .long dd]))], cMt v mo ft, cMr v mo (upd (upd fr (5 * k9 + 0) (nI 0)) (5 * k9 + 1) (nI (nxc tx ln p - 120)))] _ _ [.int (nI (nxc tx ln (p + 1) - 58))]
      refine g_istore_n (lv' := [(1, .int (nI (nxc tx ln (p + 1) - 58))), (0, .ref (mo 0))]) X dX7_readAssignment_27 rfl (by decide) rfl ?_
      refine g_aload_n X dX7_readAssignment_28 1 rfl rfl ?_
      refine g_iconst (x := nI 2) X dX7_readAssignment_29 (by decide +kernel) ?_
      refine g_iconst (x := nI 0) X dX7_readAssignment_30 (by decide +kernel) ?_
      refine g_callV (As := [.int (nI 2), .int (nI 0)]) (rest := []) (wr := [cMt v mo ft]) X (c_X7_puts l v mo th sm ln fa (nI (p + 1 + 1)) (nI 0) dd k9 2 (nI 0) (upd (upd fr (5 * k9 + 0) (nI 0)) (5 * k9 + 1) (nI (nxc tx ln p - 120))) (by omega) (by omega)) f_X7_puts q_15_3 dX7_readAssignment_31 [0, 2] [1] rfl rfl (by decide) 0 rfl rfl rfl rfl (Nat.le_of_ble_eq_true rfl) (by decide) (fun r_ w_ hp7 => ?_)
      subst hp7
      show GG k _ _ [[((mo 0), .inr (7, [.int th, .ref (mo 1), .ref (mo 2), .int (nI sm), .ref (mo 3), .int (nI ln), .ref (mo 4), .int (nI k9), .int fa, .ref (mo 5), .ref (mo 6), .int (nI (p + 1 + 1)), .int (nI 0), .long dd]))], cMr v mo (upd (upd (upd fr (5 * k9 + 0) (nI 0)) (5 * k9 + 1) (nI (nxc tx ln p - 120))) (5 * k9 + 2) (nI 0)), cMt v mo ft] _ _ []
      refine g_pick (cs' := [[((mo 0), .inr (7, [.int th, .ref (mo 1), .ref (mo 2), .int (nI sm), .ref (mo 3), .int (nI ln), .ref (mo 4), .int (nI k9), .int fa, .ref (mo 5), .ref (mo 6), .int (nI (p + 1 + 1)), .int (nI 0), .long dd]))], cMt v mo ft, cMr v mo (upd (upd (upd fr (5 * k9 + 0) (nI 0)) (5 * k9 + 1) (nI (nxc tx ln p - 120))) (5 * k9 + 2) (nI 0))]) [0, 2, 1] rfl rfl ?_
      refine g_aload_n X dX7_readAssignment_34 1 rfl rfl ?_
      refine g_iconst (x := nI 3) X dX7_readAssignment_35 (by decide +kernel) ?_
      refine g_aload_n X dX7_readAssignment_36 1 rfl rfl ?_
      refine g_callV (As := []) (rest := [.int (nI 3), .ref (mo 0)]) (wr := [cMr v mo (upd (upd (upd fr (5 * k9 + 0) (nI 0)) (5 * k9 + 1) (nI (nxc tx ln p - 120))) (5 * k9 + 2) (nI 0))]) X (c_X7_readOperand l v mo th sm ln (nI k9) fa dd tx ft (p + 1 + 1) hT (by omega)) f_X7_readOperand q_15_11 dX7_readAssignment_37 [0, 1] [2] rfl rfl (by decide) 0 rfl rfl rfl rfl (Nat.le_of_ble_eq_true rfl) (by decide) (fun r_ w_ hp8 => ?_)
      cases hv37 : ocl (nxc tx ln (p + 1 + 1)) with
      | none =>
        have hp8q := hp8
        rw [hv37] at hp8
        obtain ⟨rfl, rfl⟩ := hp8
        show GG k _ _ [[((mo 0), .inr (7, [.int th, .ref (mo 1), .ref (mo 2), .int (nI sm), .ref (mo 3), .int (nI ln), .ref (mo 4), .int (nI k9), .int fa, .ref (mo 5), .ref (mo 6), .int (nI (p + 1 + 1)), .int (nI 1), .long dd]))], cMt v mo ft, cMr v mo (upd (upd (upd fr (5 * k9 + 0) (nI 0)) (5 * k9 + 1) (nI (nxc tx ln p - 120))) (5 * k9 + 2) (nI 0))] _ _ [.int (nI 3), .int (nI 3), .ref (mo 0)]
        refine g_callV (As := [.int (nI 3), .int (nI 3)]) (rest := []) (wr := [cMt v mo ft]) X (c_X7_puts l v mo th sm ln fa (nI (p + 1 + 1)) (nI 1) dd k9 3 (nI 3) (upd (upd (upd fr (5 * k9 + 0) (nI 0)) (5 * k9 + 1) (nI (nxc tx ln p - 120))) (5 * k9 + 2) (nI 0)) (by omega) (by omega)) f_X7_puts q_15_3 dX7_readAssignment_40 [0, 2] [1] rfl rfl (by decide) 0 rfl rfl rfl rfl (Nat.le_of_ble_eq_true rfl) (by decide) (fun r_ w_ hp9 => ?_)
        subst hp9
        show GG k _ _ [[((mo 0), .inr (7, [.int th, .ref (mo 1), .ref (mo 2), .int (nI sm), .ref (mo 3), .int (nI ln), .ref (mo 4), .int (nI k9), .int fa, .ref (mo 5), .ref (mo 6), .int (nI (p + 1 + 1)), .int (nI 1), .long dd]))], cMr v mo (upd (upd (upd (upd fr (5 * k9 + 0) (nI 0)) (5 * k9 + 1) (nI (nxc tx ln p - 120))) (5 * k9 + 2) (nI 0)) (5 * k9 + 3) (nI 3)), cMt v mo ft] _ _ []
        refine g_pick (cs' := [[((mo 0), .inr (7, [.int th, .ref (mo 1), .ref (mo 2), .int (nI sm), .ref (mo 3), .int (nI ln), .ref (mo 4), .int (nI k9), .int fa, .ref (mo 5), .ref (mo 6), .int (nI (p + 1 + 1)), .int (nI 1), .long dd]))], cMt v mo ft, cMr v mo (upd (upd (upd (upd fr (5 * k9 + 0) (nI 0)) (5 * k9 + 1) (nI (nxc tx ln p - 120))) (5 * k9 + 2) (nI 0)) (5 * k9 + 3) (nI 3))]) [0, 2, 1] rfl rfl ?_
        refine g_aload_n X dX7_readAssignment_43 1 rfl rfl ?_
        refine g_bipush (x := nI 43) X dX7_readAssignment_44 (by decide +kernel) ?_
        refine g_bipush (x := nI 43) X dX7_readAssignment_46 (by decide +kernel) ?_
        refine g_callV (As := [.int (nI 43), .int (nI 43)]) (rest := []) (wr := [cMr v mo (upd (upd (upd (upd fr (5 * k9 + 0) (nI 0)) (5 * k9 + 1) (nI (nxc tx ln p - 120))) (5 * k9 + 2) (nI 0)) (5 * k9 + 3) (nI 3))]) X (b_X7_isNext l v mo th sm ln (nI k9) fa dd ft (p + 1 + 1) 43 43) f_X7_isNext q_14_16 dX7_readAssignment_48 [0, 1] [2] rfl rfl (by decide) 0 rfl rfl rfl rfl (Nat.le_of_ble_eq_true rfl) (by decide) (fun r_ w_ hp10 => ?_)
        obtain ⟨rfl, rfl⟩ := hp10
        show GG k _ _ [[((mo 0), .inr (7, [.int th, .ref (mo 1), .ref (mo 2), .int (nI sm), .ref (mo 3), .int (nI ln), .ref (mo 4), .int (nI k9), .int fa, .ref (mo 5), .ref (mo 6), .int (nI (p + 1 + 1)), .int (nI 1), .long dd]))], cMt v mo ft, cMr v mo (upd (upd (upd (upd fr (5 * k9 + 0) (nI 0)) (5 * k9 + 1) (nI (nxc tx ln p - 120))) (5 * k9 + 2) (nI 0)) (5 * k9 + 3) (nI 3))] _ _ [.int (nI 0)]
        refine g_istore_n (lv' := [(2, .int (nI 0)), (1, .int (nI (nxc tx ln (p + 1) - 58))), (0, .ref (mo 0))]) X dX7_readAssignment_51 rfl (by decide) rfl ?_
        refine g_aload_n X dX7_readAssignment_52 2 rfl rfl ?_
        refine g_bipush (x := nI 45) X dX7_readAssignment_53 (by decide +kernel) ?_
        refine g_bipush (x := nI 45) X dX7_readAssignment_55 (by decide +kernel) ?_
        refine g_callV (As := [.int (nI 45), .int (nI 45)]) (rest := []) (wr := [cMr v mo (upd (upd (upd (upd fr (5 * k9 + 0) (nI 0)) (5 * k9 + 1) (nI (nxc tx ln p - 120))) (5 * k9 + 2) (nI 0)) (5 * k9 + 3) (nI 3))]) X (b_X7_isNext l v mo th sm ln (nI k9) fa dd ft (p + 1 + 1) 45 45) f_X7_isNext q_14_16 dX7_readAssignment_57 [0, 1] [2] rfl rfl (by decide) 0 rfl rfl rfl rfl (Nat.le_of_ble_eq_true rfl) (by decide) (fun r_ w_ hp11 => ?_)
        obtain ⟨rfl, rfl⟩ := hp11
        show GG k _ _ [[((mo 0), .inr (7, [.int th, .ref (mo 1), .ref (mo 2), .int (nI sm), .ref (mo 3), .int (nI ln), .ref (mo 4), .int (nI k9), .int fa, .ref (mo 5), .ref (mo 6), .int (nI (p + 1 + 1)), .int (nI 1), .long dd]))], cMt v mo ft, cMr v mo (upd (upd (upd (upd fr (5 * k9 + 0) (nI 0)) (5 * k9 + 1) (nI (nxc tx ln p - 120))) (5 * k9 + 2) (nI 0)) (5 * k9 + 3) (nI 3))] _ _ [.int (nI 0)]
        refine g_istore_n (lv' := [(3, .int (nI 0)), (2, .int (nI 0)), (1, .int (nI (nxc tx ln (p + 1) - 58))), (0, .ref (mo 0))]) X dX7_readAssignment_60 rfl (by decide) rfl ?_
        refine g_aload_n X dX7_readAssignment_61 3 rfl rfl ?_
        refine g_dup X dX7_readAssignment_62 rfl ?_
        refine g_get X cb7 11 q_14_9 dX7_readAssignment_63 0 0 rfl rfl (by decide) rfl rfl ?_
        refine g_iload_n X dX7_readAssignment_66 1 rfl rfl ?_
        refine g_if_neN (tgt := 74) X dX7_readAssignment_67 (by decide) (by omega) (fun c67 => ?_) (fun c67 => ?_)
        · exact absurd rfl c67
        · refine g_iload_n X dX7_readAssignment_70 0 rfl rfl ?_
          refine g_if_eqN (tgt := 78) X dX7_readAssignment_71 (by decide) (by omega) (fun c71 => ?_) (fun c71 => ?_)
          · refine g_iconst (x := nI 0) X dX7_readAssignment_78 (by decide +kernel) ?_
            refine g_iaddN X dX7_readAssignment_79 ?_
            refine g_put (cs' := [[((mo 0), .inr (7, [.int th, .ref (mo 1), .ref (mo 2), .int (nI sm), .ref (mo 3), .int (nI ln), .ref (mo 4), .int (nI k9), .int fa, .ref (mo 5), .ref (mo 6), .int (nI ((p + 1 + 1) + 0)), .int (nI 1), .long dd]))], cMt v mo ft, cMr v mo (upd (upd (upd (upd fr (5 * k9 + 0) (nI 0)) (5 * k9 + 1) (nI (nxc tx ln p - 120))) (5 * k9 + 2) (nI 0)) (5 * k9 + 3) (nI 3))]) X cb7 11 q_14_9 dX7_readAssignment_80 0 0 rfl rfl (by decide) rfl rfl (rfl) (rfl) (Nat.le_of_ble_eq_true rfl) rfl ?_
            refine g_aload_n X dX7_readAssignment_83 3 rfl rfl ?_
            refine g_iconst (x := nI 4) X dX7_readAssignment_84 (by decide +kernel) ?_
            refine g_iload_n X dX7_readAssignment_85 1 rfl rfl ?_
            refine g_if_eqN (tgt := 100) X dX7_readAssignment_86 (by decide) (by omega) (fun c86 => ?_) (fun c86 => ?_)
            · refine g_iload_n X dX7_readAssignment_100 0 rfl rfl ?_
              refine g_if_eqN (tgt := 116) X dX7_readAssignment_101 (by decide) (by omega) (fun c101 => ?_) (fun c101 => ?_)
              · refine g_iconst (x := nI 0) X dX7_readAssignment_116 (by decide +kernel) ?_
                refine g_callV (As := [.int (nI 4), .int (nI 0)]) (rest := []) (wr := [cMt v mo ft]) X (c_X7_puts l v mo th sm ln fa (nI ((p + 1 + 1) + 0)) (nI 1) dd k9 4 (nI 0) (upd (upd (upd (upd fr (5 * k9 + 0) (nI 0)) (5 * k9 + 1) (nI (nxc tx ln p - 120))) (5 * k9 + 2) (nI 0)) (5 * k9 + 3) (nI 3)) (by omega) (by omega)) f_X7_puts q_15_3 dX7_readAssignment_117 [0, 2] [1] rfl rfl (by decide) 0 rfl rfl rfl rfl (Nat.le_of_ble_eq_true rfl) (by decide) (fun r_ w_ hp12 => ?_)
                subst hp12
                show GG k _ _ [[((mo 0), .inr (7, [.int th, .ref (mo 1), .ref (mo 2), .int (nI sm), .ref (mo 3), .int (nI ln), .ref (mo 4), .int (nI k9), .int fa, .ref (mo 5), .ref (mo 6), .int (nI ((p + 1 + 1) + 0)), .int (nI 1), .long dd]))], cMr v mo (upd (upd (upd (upd (upd fr (5 * k9 + 0) (nI 0)) (5 * k9 + 1) (nI (nxc tx ln p - 120))) (5 * k9 + 2) (nI 0)) (5 * k9 + 3) (nI 3)) (5 * k9 + 4) (nI 0)), cMt v mo ft] _ _ []
                refine g_pick (cs' := [[((mo 0), .inr (7, [.int th, .ref (mo 1), .ref (mo 2), .int (nI sm), .ref (mo 3), .int (nI ln), .ref (mo 4), .int (nI k9), .int fa, .ref (mo 5), .ref (mo 6), .int (nI ((p + 1 + 1) + 0)), .int (nI 1), .long dd]))], cMt v mo ft, cMr v mo (upd (upd (upd (upd (upd fr (5 * k9 + 0) (nI 0)) (5 * k9 + 1) (nI (nxc tx ln p - 120))) (5 * k9 + 2) (nI 0)) (5 * k9 + 3) (nI 3)) (5 * k9 + 4) (nI 0))]) [0, 2, 1] rfl rfl ?_
                exact E dX7_readAssignment_120 (by decide) (by decide) (by have e : pStmt tx ln p = (none, p + 1 + 1) := (by simp only [pStmt, if_neg h33, if_neg h63, vcl_x hv13, if_pos (eq_rng hv24), hv37]); rw [e]; dsimp only; exact ⟨_, (Blw_u (Blw_u (Blw_u (Blw_u (Blw_u Blw_0))))), rfl⟩)
              · exact absurd rfl c101
            · exact absurd rfl c86
          · exact absurd rfl c71
      | some ahv37 =>
        have hp8q := hp8
        rw [hv37] at hp8
        have hlhv37 := ocl_lt hv37
        obtain ⟨rfl, rfl⟩ := hp8
        show GG k _ _ [[((mo 0), .inr (7, [.int th, .ref (mo 1), .ref (mo 2), .int (nI sm), .ref (mo 3), .int (nI ln), .ref (mo 4), .int (nI k9), .int fa, .ref (mo 5), .ref (mo 6), .int (nI (p + 1 + 1 + 1)), .int (nI 0), .long dd]))], cMt v mo ft, cMr v mo (upd (upd (upd fr (5 * k9 + 0) (nI 0)) (5 * k9 + 1) (nI (nxc tx ln p - 120))) (5 * k9 + 2) (nI 0))] _ _ [.int (nI (opm ahv37)), .int (nI 3), .ref (mo 0)]
        refine g_callV (As := [.int (nI 3), .int (nI (opm ahv37))]) (rest := []) (wr := [cMt v mo ft]) X (c_X7_puts l v mo th sm ln fa (nI (p + 1 + 1 + 1)) (nI 0) dd k9 3 (nI (opm ahv37)) (upd (upd (upd fr (5 * k9 + 0) (nI 0)) (5 * k9 + 1) (nI (nxc tx ln p - 120))) (5 * k9 + 2) (nI 0)) (by omega) (by omega)) f_X7_puts q_15_3 dX7_readAssignment_40 [0, 2] [1] rfl rfl (by decide) 0 rfl rfl rfl rfl (Nat.le_of_ble_eq_true rfl) (by decide) (fun r_ w_ hp13 => ?_)
        subst hp13
        show GG k _ _ [[((mo 0), .inr (7, [.int th, .ref (mo 1), .ref (mo 2), .int (nI sm), .ref (mo 3), .int (nI ln), .ref (mo 4), .int (nI k9), .int fa, .ref (mo 5), .ref (mo 6), .int (nI (p + 1 + 1 + 1)), .int (nI 0), .long dd]))], cMr v mo (upd (upd (upd (upd fr (5 * k9 + 0) (nI 0)) (5 * k9 + 1) (nI (nxc tx ln p - 120))) (5 * k9 + 2) (nI 0)) (5 * k9 + 3) (nI (opm ahv37))), cMt v mo ft] _ _ []
        refine g_pick (cs' := [[((mo 0), .inr (7, [.int th, .ref (mo 1), .ref (mo 2), .int (nI sm), .ref (mo 3), .int (nI ln), .ref (mo 4), .int (nI k9), .int fa, .ref (mo 5), .ref (mo 6), .int (nI (p + 1 + 1 + 1)), .int (nI 0), .long dd]))], cMt v mo ft, cMr v mo (upd (upd (upd (upd fr (5 * k9 + 0) (nI 0)) (5 * k9 + 1) (nI (nxc tx ln p - 120))) (5 * k9 + 2) (nI 0)) (5 * k9 + 3) (nI (opm ahv37)))]) [0, 2, 1] rfl rfl ?_
        refine g_aload_n X dX7_readAssignment_43 1 rfl rfl ?_
        refine g_bipush (x := nI 43) X dX7_readAssignment_44 (by decide +kernel) ?_
        refine g_bipush (x := nI 43) X dX7_readAssignment_46 (by decide +kernel) ?_
        refine g_callV (As := [.int (nI 43), .int (nI 43)]) (rest := []) (wr := [cMr v mo (upd (upd (upd (upd fr (5 * k9 + 0) (nI 0)) (5 * k9 + 1) (nI (nxc tx ln p - 120))) (5 * k9 + 2) (nI 0)) (5 * k9 + 3) (nI (opm ahv37)))]) X (nx_s l v mo th sm ln (nI k9) fa dd tx ft (p + 1 + 1 + 1) 43 43 hT (by omega) (by omega) (by omega) (by omega)) f_X7_isNext q_14_16 dX7_readAssignment_48 [0, 1] [2] rfl rfl (by decide) 0 rfl rfl rfl rfl (Nat.le_of_ble_eq_true rfl) (by decide) (fun r_ w_ hp14 => ?_)
        by_cases hv48 : 43 ≤ nxc tx ln (p + 1 + 1 + 1) ∧ nxc tx ln (p + 1 + 1 + 1) ≤ 43
        · have hp14q := hp14
          rw [if_pos hv48] at hp14
          obtain ⟨rfl, rfl⟩ := hp14
          show GG k _ _ [[((mo 0), .inr (7, [.int th, .ref (mo 1), .ref (mo 2), .int (nI sm), .ref (mo 3), .int (nI ln), .ref (mo 4), .int (nI k9), .int fa, .ref (mo 5), .ref (mo 6), .int (nI (p + 1 + 1 + 1)), .int (nI 0), .long dd]))], cMt v mo ft, cMr v mo (upd (upd (upd (upd fr (5 * k9 + 0) (nI 0)) (5 * k9 + 1) (nI (nxc tx ln p - 120))) (5 * k9 + 2) (nI 0)) (5 * k9 + 3) (nI (opm ahv37)))] _ _ [.int (nI 1)]
          refine g_istore_n (lv' := [(2, .int (nI 1)), (1, .int (nI (nxc tx ln (p + 1) - 58))), (0, .ref (mo 0))]) X dX7_readAssignment_51 rfl (by decide) rfl ?_
          refine g_aload_n X dX7_readAssignment_52 2 rfl rfl ?_
          refine g_bipush (x := nI 45) X dX7_readAssignment_53 (by decide +kernel) ?_
          refine g_bipush (x := nI 45) X dX7_readAssignment_55 (by decide +kernel) ?_
          refine g_callV (As := [.int (nI 45), .int (nI 45)]) (rest := []) (wr := [cMr v mo (upd (upd (upd (upd fr (5 * k9 + 0) (nI 0)) (5 * k9 + 1) (nI (nxc tx ln p - 120))) (5 * k9 + 2) (nI 0)) (5 * k9 + 3) (nI (opm ahv37)))]) X (nx_s l v mo th sm ln (nI k9) fa dd tx ft (p + 1 + 1 + 1) 45 45 hT (by omega) (by omega) (by omega) (by omega)) f_X7_isNext q_14_16 dX7_readAssignment_57 [0, 1] [2] rfl rfl (by decide) 0 rfl rfl rfl rfl (Nat.le_of_ble_eq_true rfl) (by decide) (fun r_ w_ hp15 => ?_)
          by_cases hv57 : 45 ≤ nxc tx ln (p + 1 + 1 + 1) ∧ nxc tx ln (p + 1 + 1 + 1) ≤ 45
          · have hp15q := hp15
            rw [if_pos hv57] at hp15
            obtain ⟨rfl, rfl⟩ := hp15
            show GG k _ _ [[((mo 0), .inr (7, [.int th, .ref (mo 1), .ref (mo 2), .int (nI sm), .ref (mo 3), .int (nI ln), .ref (mo 4), .int (nI k9), .int fa, .ref (mo 5), .ref (mo 6), .int (nI (p + 1 + 1 + 1)), .int (nI 0), .long dd]))], cMt v mo ft, cMr v mo (upd (upd (upd (upd fr (5 * k9 + 0) (nI 0)) (5 * k9 + 1) (nI (nxc tx ln p - 120))) (5 * k9 + 2) (nI 0)) (5 * k9 + 3) (nI (opm ahv37)))] _ _ [.int (nI 1)]
            refine g_istore_n (lv' := [(3, .int (nI 1)), (2, .int (nI 1)), (1, .int (nI (nxc tx ln (p + 1) - 58))), (0, .ref (mo 0))]) X dX7_readAssignment_60 rfl (by decide) rfl ?_
            refine g_aload_n X dX7_readAssignment_61 3 rfl rfl ?_
            refine g_dup X dX7_readAssignment_62 rfl ?_
            refine g_get X cb7 11 q_14_9 dX7_readAssignment_63 0 0 rfl rfl (by decide) rfl rfl ?_
            refine g_iload_n X dX7_readAssignment_66 1 rfl rfl ?_
            refine g_if_neN (tgt := 74) X dX7_readAssignment_67 (by decide) (by omega) (fun c67 => ?_) (fun c67 => ?_)
            · refine g_iconst (x := nI 1) X dX7_readAssignment_74 (by decide +kernel) ?_
              refine g_goto (tgt := 79) X dX7_readAssignment_75 (by decide) ?_
              refine g_iaddN X dX7_readAssignment_79 ?_
              refine g_put (cs' := [[((mo 0), .inr (7, [.int th, .ref (mo 1), .ref (mo 2), .int (nI sm), .ref (mo 3), .int (nI ln), .ref (mo 4), .int (nI k9), .int fa, .ref (mo 5), .ref (mo 6), .int (nI ((p + 1 + 1 + 1) + 1)), .int (nI 0), .long dd]))], cMt v mo ft, cMr v mo (upd (upd (upd (upd fr (5 * k9 + 0) (nI 0)) (5 * k9 + 1) (nI (nxc tx ln p - 120))) (5 * k9 + 2) (nI 0)) (5 * k9 + 3) (nI (opm ahv37)))]) X cb7 11 q_14_9 dX7_readAssignment_80 0 0 rfl rfl (by decide) rfl rfl (rfl) (rfl) (Nat.le_of_ble_eq_true rfl) rfl ?_
              refine g_aload_n X dX7_readAssignment_83 3 rfl rfl ?_
              refine g_iconst (x := nI 4) X dX7_readAssignment_84 (by decide +kernel) ?_
              refine g_iload_n X dX7_readAssignment_85 1 rfl rfl ?_
              refine g_if_eqN (tgt := 100) X dX7_readAssignment_86 (by decide) (by omega) (fun c86 => ?_) (fun c86 => ?_)
              · exact absurd c86 (by decide)
              · refine g_aload_n X dX7_readAssignment_89 3 rfl rfl ?_
                refine g_bipush (x := nI 48) X dX7_readAssignment_90 (by decide +kernel) ?_
                refine g_bipush (x := nI 55) X dX7_readAssignment_92 (by decide +kernel) ?_
                refine g_callV (As := [.int (nI 48), .int (nI 55)]) (rest := [.int (nI 4), .ref (mo 0)]) (wr := [cMr v mo (upd (upd (upd (upd fr (5 * k9 + 0) (nI 0)) (5 * k9 + 1) (nI (nxc tx ln p - 120))) (5 * k9 + 2) (nI 0)) (5 * k9 + 3) (nI (opm ahv37)))]) X (c_X7_takes l v mo th sm ln (nI k9) fa dd tx ft ((p + 1 + 1 + 1) + 1) 48 55 hT (by omega) (by omega) (by omega) (by omega)) f_X7_takes q_15_7 dX7_readAssignment_94 [0, 1] [2] rfl rfl (by decide) 0 rfl rfl rfl rfl (Nat.le_of_ble_eq_true rfl) (by decide) (fun r_ w_ hp17 => ?_)
                by_cases hv94 : 48 ≤ nxc tx ln ((p + 1 + 1 + 1) + 1) ∧ nxc tx ln ((p + 1 + 1 + 1) + 1) ≤ 55
                · have hp17q := hp17
                  rw [if_pos hv94] at hp17
                  have hz16 := nxc_lt hT ((p + 1 + 1 + 1) + 1)
                  obtain ⟨rfl, rfl⟩ := hp17
                  show GG k _ _ [[((mo 0), .inr (7, [.int th, .ref (mo 1), .ref (mo 2), .int (nI sm), .ref (mo 3), .int (nI ln), .ref (mo 4), .int (nI k9), .int fa, .ref (mo 5), .ref (mo 6), .int (nI ((p + 1 + 1 + 1) + 1 + 1)), .int (nI 0), .long dd]))], cMt v mo ft, cMr v mo (upd (upd (upd (upd fr (5 * k9 + 0) (nI 0)) (5 * k9 + 1) (nI (nxc tx ln p - 120))) (5 * k9 + 2) (nI 0)) (5 * k9 + 3) (nI (opm ahv37)))] _ _ [.int (nI (nxc tx ln ((p + 1 + 1 + 1) + 1) - 48)), .int (nI 4), .ref (mo 0)]
                  refine g_goto (tgt := 117) X dX7_readAssignment_97 (by decide) ?_
                  refine g_callV (As := [.int (nI 4), .int (nI (nxc tx ln ((p + 1 + 1 + 1) + 1) - 48))]) (rest := []) (wr := [cMt v mo ft]) X (c_X7_puts l v mo th sm ln fa (nI ((p + 1 + 1 + 1) + 1 + 1)) (nI 0) dd k9 4 (nI (nxc tx ln ((p + 1 + 1 + 1) + 1) - 48)) (upd (upd (upd (upd fr (5 * k9 + 0) (nI 0)) (5 * k9 + 1) (nI (nxc tx ln p - 120))) (5 * k9 + 2) (nI 0)) (5 * k9 + 3) (nI (opm ahv37))) (by omega) (by omega)) f_X7_puts q_15_3 dX7_readAssignment_117 [0, 2] [1] rfl rfl (by decide) 0 rfl rfl rfl rfl (Nat.le_of_ble_eq_true rfl) (by decide) (fun r_ w_ hp18 => ?_)
                  subst hp18
                  show GG k _ _ [[((mo 0), .inr (7, [.int th, .ref (mo 1), .ref (mo 2), .int (nI sm), .ref (mo 3), .int (nI ln), .ref (mo 4), .int (nI k9), .int fa, .ref (mo 5), .ref (mo 6), .int (nI ((p + 1 + 1 + 1) + 1 + 1)), .int (nI 0), .long dd]))], cMr v mo (upd (upd (upd (upd (upd fr (5 * k9 + 0) (nI 0)) (5 * k9 + 1) (nI (nxc tx ln p - 120))) (5 * k9 + 2) (nI 0)) (5 * k9 + 3) (nI (opm ahv37))) (5 * k9 + 4) (nI (nxc tx ln ((p + 1 + 1 + 1) + 1) - 48))), cMt v mo ft] _ _ []
                  refine g_pick (cs' := [[((mo 0), .inr (7, [.int th, .ref (mo 1), .ref (mo 2), .int (nI sm), .ref (mo 3), .int (nI ln), .ref (mo 4), .int (nI k9), .int fa, .ref (mo 5), .ref (mo 6), .int (nI ((p + 1 + 1 + 1) + 1 + 1)), .int (nI 0), .long dd]))], cMt v mo ft, cMr v mo (upd (upd (upd (upd (upd fr (5 * k9 + 0) (nI 0)) (5 * k9 + 1) (nI (nxc tx ln p - 120))) (5 * k9 + 2) (nI 0)) (5 * k9 + 3) (nI (opm ahv37))) (5 * k9 + 4) (nI (nxc tx ln ((p + 1 + 1 + 1) + 1) - 48)))]) [0, 2, 1] rfl rfl ?_
                  exact E dX7_readAssignment_120 (by decide) (by decide) (by have e : pStmt tx ln p = (some (0, nxc tx ln p - 120, 0, ahv37, ((nxc tx ln (p + 1 + 1 + 1 + 1) - 48 : Nat) : Int)), p + 1 + 1 + 1 + 1 + 1) := (by simp only [pStmt, if_neg h33, if_neg h63, vcl_x hv13, if_pos (eq_rng hv24), hv37, pAdd_p hv48 hv94]); rw [e]; dsimp only; exact ⟨_, (Blw_u (Blw_u (Blw_u (Blw_u (Blw_u Blw_0))))), RW9_mk rfl rfl rfl rfl (zI_nI _), rfl⟩)
                · have hp17q := hp17
                  rw [if_neg hv94] at hp17
                  obtain ⟨rfl, rfl⟩ := hp17
                  show GG k _ _ [[((mo 0), .inr (7, [.int th, .ref (mo 1), .ref (mo 2), .int (nI sm), .ref (mo 3), .int (nI ln), .ref (mo 4), .int (nI k9), .int fa, .ref (mo 5), .ref (mo 6), .int (nI ((p + 1 + 1 + 1) + 1)), .int (nI 1), .long dd]))], cMt v mo ft, cMr v mo (upd (upd (upd (upd fr (5 * k9 + 0) (nI 0)) (5 * k9 + 1) (nI (nxc tx ln p - 120))) (5 * k9 + 2) (nI 0)) (5 * k9 + 3) (nI (opm ahv37)))] _ _ [.int (nI 0), .int (nI 4), .ref (mo 0)]
                  refine g_goto (tgt := 117) X dX7_readAssignment_97 (by decide) ?_
                  refine g_callV (As := [.int (nI 4), .int (nI 0)]) (rest := []) (wr := [cMt v mo ft]) X (c_X7_puts l v mo th sm ln fa (nI ((p + 1 + 1 + 1) + 1)) (nI 1) dd k9 4 (nI 0) (upd (upd (upd (upd fr (5 * k9 + 0) (nI 0)) (5 * k9 + 1) (nI (nxc tx ln p - 120))) (5 * k9 + 2) (nI 0)) (5 * k9 + 3) (nI (opm ahv37))) (by omega) (by omega)) f_X7_puts q_15_3 dX7_readAssignment_117 [0, 2] [1] rfl rfl (by decide) 0 rfl rfl rfl rfl (Nat.le_of_ble_eq_true rfl) (by decide) (fun r_ w_ hp19 => ?_)
                  subst hp19
                  show GG k _ _ [[((mo 0), .inr (7, [.int th, .ref (mo 1), .ref (mo 2), .int (nI sm), .ref (mo 3), .int (nI ln), .ref (mo 4), .int (nI k9), .int fa, .ref (mo 5), .ref (mo 6), .int (nI ((p + 1 + 1 + 1) + 1)), .int (nI 1), .long dd]))], cMr v mo (upd (upd (upd (upd (upd fr (5 * k9 + 0) (nI 0)) (5 * k9 + 1) (nI (nxc tx ln p - 120))) (5 * k9 + 2) (nI 0)) (5 * k9 + 3) (nI (opm ahv37))) (5 * k9 + 4) (nI 0)), cMt v mo ft] _ _ []
                  refine g_pick (cs' := [[((mo 0), .inr (7, [.int th, .ref (mo 1), .ref (mo 2), .int (nI sm), .ref (mo 3), .int (nI ln), .ref (mo 4), .int (nI k9), .int fa, .ref (mo 5), .ref (mo 6), .int (nI ((p + 1 + 1 + 1) + 1)), .int (nI 1), .long dd]))], cMt v mo ft, cMr v mo (upd (upd (upd (upd (upd fr (5 * k9 + 0) (nI 0)) (5 * k9 + 1) (nI (nxc tx ln p - 120))) (5 * k9 + 2) (nI 0)) (5 * k9 + 3) (nI (opm ahv37))) (5 * k9 + 4) (nI 0))]) [0, 2, 1] rfl rfl ?_
                  exact E dX7_readAssignment_120 (by decide) (by decide) (by have e : pStmt tx ln p = (none, p + 1 + 1 + 1 + 1) := (by simp only [pStmt, if_neg h33, if_neg h63, vcl_x hv13, if_pos (eq_rng hv24), hv37, pAdd_pe hv48 hv94]); rw [e]; dsimp only; exact ⟨_, (Blw_u (Blw_u (Blw_u (Blw_u (Blw_u Blw_0))))), rfl⟩)
            · exact absurd c67 (by decide)
          · have hp15q := hp15
            rw [if_neg hv57] at hp15
            obtain ⟨rfl, rfl⟩ := hp15
            show GG k _ _ [[((mo 0), .inr (7, [.int th, .ref (mo 1), .ref (mo 2), .int (nI sm), .ref (mo 3), .int (nI ln), .ref (mo 4), .int (nI k9), .int fa, .ref (mo 5), .ref (mo 6), .int (nI (p + 1 + 1 + 1)), .int (nI 0), .long dd]))], cMt v mo ft, cMr v mo (upd (upd (upd (upd fr (5 * k9 + 0) (nI 0)) (5 * k9 + 1) (nI (nxc tx ln p - 120))) (5 * k9 + 2) (nI 0)) (5 * k9 + 3) (nI (opm ahv37)))] _ _ [.int (nI 0)]
            refine g_istore_n (lv' := [(3, .int (nI 0)), (2, .int (nI 1)), (1, .int (nI (nxc tx ln (p + 1) - 58))), (0, .ref (mo 0))]) X dX7_readAssignment_60 rfl (by decide) rfl ?_
            refine g_aload_n X dX7_readAssignment_61 3 rfl rfl ?_
            refine g_dup X dX7_readAssignment_62 rfl ?_
            refine g_get X cb7 11 q_14_9 dX7_readAssignment_63 0 0 rfl rfl (by decide) rfl rfl ?_
            refine g_iload_n X dX7_readAssignment_66 1 rfl rfl ?_
            refine g_if_neN (tgt := 74) X dX7_readAssignment_67 (by decide) (by omega) (fun c67 => ?_) (fun c67 => ?_)
            · refine g_iconst (x := nI 1) X dX7_readAssignment_74 (by decide +kernel) ?_
              refine g_goto (tgt := 79) X dX7_readAssignment_75 (by decide) ?_
              refine g_iaddN X dX7_readAssignment_79 ?_
              refine g_put (cs' := [[((mo 0), .inr (7, [.int th, .ref (mo 1), .ref (mo 2), .int (nI sm), .ref (mo 3), .int (nI ln), .ref (mo 4), .int (nI k9), .int fa, .ref (mo 5), .ref (mo 6), .int (nI ((p + 1 + 1 + 1) + 1)), .int (nI 0), .long dd]))], cMt v mo ft, cMr v mo (upd (upd (upd (upd fr (5 * k9 + 0) (nI 0)) (5 * k9 + 1) (nI (nxc tx ln p - 120))) (5 * k9 + 2) (nI 0)) (5 * k9 + 3) (nI (opm ahv37)))]) X cb7 11 q_14_9 dX7_readAssignment_80 0 0 rfl rfl (by decide) rfl rfl (rfl) (rfl) (Nat.le_of_ble_eq_true rfl) rfl ?_
              refine g_aload_n X dX7_readAssignment_83 3 rfl rfl ?_
              refine g_iconst (x := nI 4) X dX7_readAssignment_84 (by decide +kernel) ?_
              refine g_iload_n X dX7_readAssignment_85 1 rfl rfl ?_
              refine g_if_eqN (tgt := 100) X dX7_readAssignment_86 (by decide) (by omega) (fun c86 => ?_) (fun c86 => ?_)
              · exact absurd c86 (by decide)
              · refine g_aload_n X dX7_readAssignment_89 3 rfl rfl ?_
                refine g_bipush (x := nI 48) X dX7_readAssignment_90 (by decide +kernel) ?_
                refine g_bipush (x := nI 55) X dX7_readAssignment_92 (by decide +kernel) ?_
                refine g_callV (As := [.int (nI 48), .int (nI 55)]) (rest := [.int (nI 4), .ref (mo 0)]) (wr := [cMr v mo (upd (upd (upd (upd fr (5 * k9 + 0) (nI 0)) (5 * k9 + 1) (nI (nxc tx ln p - 120))) (5 * k9 + 2) (nI 0)) (5 * k9 + 3) (nI (opm ahv37)))]) X (c_X7_takes l v mo th sm ln (nI k9) fa dd tx ft ((p + 1 + 1 + 1) + 1) 48 55 hT (by omega) (by omega) (by omega) (by omega)) f_X7_takes q_15_7 dX7_readAssignment_94 [0, 1] [2] rfl rfl (by decide) 0 rfl rfl rfl rfl (Nat.le_of_ble_eq_true rfl) (by decide) (fun r_ w_ hp21 => ?_)
                by_cases hv94 : 48 ≤ nxc tx ln ((p + 1 + 1 + 1) + 1) ∧ nxc tx ln ((p + 1 + 1 + 1) + 1) ≤ 55
                · have hp21q := hp21
                  rw [if_pos hv94] at hp21
                  have hz20 := nxc_lt hT ((p + 1 + 1 + 1) + 1)
                  obtain ⟨rfl, rfl⟩ := hp21
                  show GG k _ _ [[((mo 0), .inr (7, [.int th, .ref (mo 1), .ref (mo 2), .int (nI sm), .ref (mo 3), .int (nI ln), .ref (mo 4), .int (nI k9), .int fa, .ref (mo 5), .ref (mo 6), .int (nI ((p + 1 + 1 + 1) + 1 + 1)), .int (nI 0), .long dd]))], cMt v mo ft, cMr v mo (upd (upd (upd (upd fr (5 * k9 + 0) (nI 0)) (5 * k9 + 1) (nI (nxc tx ln p - 120))) (5 * k9 + 2) (nI 0)) (5 * k9 + 3) (nI (opm ahv37)))] _ _ [.int (nI (nxc tx ln ((p + 1 + 1 + 1) + 1) - 48)), .int (nI 4), .ref (mo 0)]
                  refine g_goto (tgt := 117) X dX7_readAssignment_97 (by decide) ?_
                  refine g_callV (As := [.int (nI 4), .int (nI (nxc tx ln ((p + 1 + 1 + 1) + 1) - 48))]) (rest := []) (wr := [cMt v mo ft]) X (c_X7_puts l v mo th sm ln fa (nI ((p + 1 + 1 + 1) + 1 + 1)) (nI 0) dd k9 4 (nI (nxc tx ln ((p + 1 + 1 + 1) + 1) - 48)) (upd (upd (upd (upd fr (5 * k9 + 0) (nI 0)) (5 * k9 + 1) (nI (nxc tx ln p - 120))) (5 * k9 + 2) (nI 0)) (5 * k9 + 3) (nI (opm ahv37))) (by omega) (by omega)) f_X7_puts q_15_3 dX7_readAssignment_117 [0, 2] [1] rfl rfl (by decide) 0 rfl rfl rfl rfl (Nat.le_of_ble_eq_true rfl) (by decide) (fun r_ w_ hp22 => ?_)
                  subst hp22
                  show GG k _ _ [[((mo 0), .inr (7, [.int th, .ref (mo 1), .ref (mo 2), .int (nI sm), .ref (mo 3), .int (nI ln), .ref (mo 4), .int (nI k9), .int fa, .ref (mo 5), .ref (mo 6), .int (nI ((p + 1 + 1 + 1) + 1 + 1)), .int (nI 0), .long dd]))], cMr v mo (upd (upd (upd (upd (upd fr (5 * k9 + 0) (nI 0)) (5 * k9 + 1) (nI (nxc tx ln p - 120))) (5 * k9 + 2) (nI 0)) (5 * k9 + 3) (nI (opm ahv37))) (5 * k9 + 4) (nI (nxc tx ln ((p + 1 + 1 + 1) + 1) - 48))), cMt v mo ft] _ _ []
                  refine g_pick (cs' := [[((mo 0), .inr (7, [.int th, .ref (mo 1), .ref (mo 2), .int (nI sm), .ref (mo 3), .int (nI ln), .ref (mo 4), .int (nI k9), .int fa, .ref (mo 5), .ref (mo 6), .int (nI ((p + 1 + 1 + 1) + 1 + 1)), .int (nI 0), .long dd]))], cMt v mo ft, cMr v mo (upd (upd (upd (upd (upd fr (5 * k9 + 0) (nI 0)) (5 * k9 + 1) (nI (nxc tx ln p - 120))) (5 * k9 + 2) (nI 0)) (5 * k9 + 3) (nI (opm ahv37))) (5 * k9 + 4) (nI (nxc tx ln ((p + 1 + 1 + 1) + 1) - 48)))]) [0, 2, 1] rfl rfl ?_
                  exact E dX7_readAssignment_120 (by decide) (by decide) (by have e : pStmt tx ln p = (some (0, nxc tx ln p - 120, 0, ahv37, ((nxc tx ln (p + 1 + 1 + 1 + 1) - 48 : Nat) : Int)), p + 1 + 1 + 1 + 1 + 1) := (by simp only [pStmt, if_neg h33, if_neg h63, vcl_x hv13, if_pos (eq_rng hv24), hv37, pAdd_p hv48 hv94]); rw [e]; dsimp only; exact ⟨_, (Blw_u (Blw_u (Blw_u (Blw_u (Blw_u Blw_0))))), RW9_mk rfl rfl rfl rfl (zI_nI _), rfl⟩)
                · have hp21q := hp21
                  rw [if_neg hv94] at hp21
                  obtain ⟨rfl, rfl⟩ := hp21
                  show GG k _ _ [[((mo 0), .inr (7, [.int th, .ref (mo 1), .ref (mo 2), .int (nI sm), .ref (mo 3), .int (nI ln), .ref (mo 4), .int (nI k9), .int fa, .ref (mo 5), .ref (mo 6), .int (nI ((p + 1 + 1 + 1) + 1)), .int (nI 1), .long dd]))], cMt v mo ft, cMr v mo (upd (upd (upd (upd fr (5 * k9 + 0) (nI 0)) (5 * k9 + 1) (nI (nxc tx ln p - 120))) (5 * k9 + 2) (nI 0)) (5 * k9 + 3) (nI (opm ahv37)))] _ _ [.int (nI 0), .int (nI 4), .ref (mo 0)]
                  refine g_goto (tgt := 117) X dX7_readAssignment_97 (by decide) ?_
                  refine g_callV (As := [.int (nI 4), .int (nI 0)]) (rest := []) (wr := [cMt v mo ft]) X (c_X7_puts l v mo th sm ln fa (nI ((p + 1 + 1 + 1) + 1)) (nI 1) dd k9 4 (nI 0) (upd (upd (upd (upd fr (5 * k9 + 0) (nI 0)) (5 * k9 + 1) (nI (nxc tx ln p - 120))) (5 * k9 + 2) (nI 0)) (5 * k9 + 3) (nI (opm ahv37))) (by omega) (by omega)) f_X7_puts q_15_3 dX7_readAssignment_117 [0, 2] [1] rfl rfl (by decide) 0 rfl rfl rfl rfl (Nat.le_of_ble_eq_true rfl) (by decide) (fun r_ w_ hp23 => ?_)
                  subst hp23
                  show GG k _ _ [[((mo 0), .inr (7, [.int th, .ref (mo 1), .ref (mo 2), .int (nI sm), .ref (mo 3), .int (nI ln), .ref (mo 4), .int (nI k9), .int fa, .ref (mo 5), .ref (mo 6), .int (nI ((p + 1 + 1 + 1) + 1)), .int (nI 1), .long dd]))], cMr v mo (upd (upd (upd (upd (upd fr (5 * k9 + 0) (nI 0)) (5 * k9 + 1) (nI (nxc tx ln p - 120))) (5 * k9 + 2) (nI 0)) (5 * k9 + 3) (nI (opm ahv37))) (5 * k9 + 4) (nI 0)), cMt v mo ft] _ _ []
                  refine g_pick (cs' := [[((mo 0), .inr (7, [.int th, .ref (mo 1), .ref (mo 2), .int (nI sm), .ref (mo 3), .int (nI ln), .ref (mo 4), .int (nI k9), .int fa, .ref (mo 5), .ref (mo 6), .int (nI ((p + 1 + 1 + 1) + 1)), .int (nI 1), .long dd]))], cMt v mo ft, cMr v mo (upd (upd (upd (upd (upd fr (5 * k9 + 0) (nI 0)) (5 * k9 + 1) (nI (nxc tx ln p - 120))) (5 * k9 + 2) (nI 0)) (5 * k9 + 3) (nI (opm ahv37))) (5 * k9 + 4) (nI 0))]) [0, 2, 1] rfl rfl ?_
                  exact E dX7_readAssignment_120 (by decide) (by decide) (by have e : pStmt tx ln p = (none, p + 1 + 1 + 1 + 1) := (by simp only [pStmt, if_neg h33, if_neg h63, vcl_x hv13, if_pos (eq_rng hv24), hv37, pAdd_pe hv48 hv94]); rw [e]; dsimp only; exact ⟨_, (Blw_u (Blw_u (Blw_u (Blw_u (Blw_u Blw_0))))), rfl⟩)
            · exact absurd c67 (by decide)
        · have hp14q := hp14
          rw [if_neg hv48] at hp14
          obtain ⟨rfl, rfl⟩ := hp14
          show GG k _ _ [[((mo 0), .inr (7, [.int th, .ref (mo 1), .ref (mo 2), .int (nI sm), .ref (mo 3), .int (nI ln), .ref (mo 4), .int (nI k9), .int fa, .ref (mo 5), .ref (mo 6), .int (nI (p + 1 + 1 + 1)), .int (nI 0), .long dd]))], cMt v mo ft, cMr v mo (upd (upd (upd (upd fr (5 * k9 + 0) (nI 0)) (5 * k9 + 1) (nI (nxc tx ln p - 120))) (5 * k9 + 2) (nI 0)) (5 * k9 + 3) (nI (opm ahv37)))] _ _ [.int (nI 0)]
          refine g_istore_n (lv' := [(2, .int (nI 0)), (1, .int (nI (nxc tx ln (p + 1) - 58))), (0, .ref (mo 0))]) X dX7_readAssignment_51 rfl (by decide) rfl ?_
          refine g_aload_n X dX7_readAssignment_52 2 rfl rfl ?_
          refine g_bipush (x := nI 45) X dX7_readAssignment_53 (by decide +kernel) ?_
          refine g_bipush (x := nI 45) X dX7_readAssignment_55 (by decide +kernel) ?_
          refine g_callV (As := [.int (nI 45), .int (nI 45)]) (rest := []) (wr := [cMr v mo (upd (upd (upd (upd fr (5 * k9 + 0) (nI 0)) (5 * k9 + 1) (nI (nxc tx ln p - 120))) (5 * k9 + 2) (nI 0)) (5 * k9 + 3) (nI (opm ahv37)))]) X (nx_s l v mo th sm ln (nI k9) fa dd tx ft (p + 1 + 1 + 1) 45 45 hT (by omega) (by omega) (by omega) (by omega)) f_X7_isNext q_14_16 dX7_readAssignment_57 [0, 1] [2] rfl rfl (by decide) 0 rfl rfl rfl rfl (Nat.le_of_ble_eq_true rfl) (by decide) (fun r_ w_ hp24 => ?_)
          by_cases hv57 : 45 ≤ nxc tx ln (p + 1 + 1 + 1) ∧ nxc tx ln (p + 1 + 1 + 1) ≤ 45
          · have hp24q := hp24
            rw [if_pos hv57] at hp24
            obtain ⟨rfl, rfl⟩ := hp24
            show GG k _ _ [[((mo 0), .inr (7, [.int th, .ref (mo 1), .ref (mo 2), .int (nI sm), .ref (mo 3), .int (nI ln), .ref (mo 4), .int (nI k9), .int fa, .ref (mo 5), .ref (mo 6), .int (nI (p + 1 + 1 + 1)), .int (nI 0), .long dd]))], cMt v mo ft, cMr v mo (upd (upd (upd (upd fr (5 * k9 + 0) (nI 0)) (5 * k9 + 1) (nI (nxc tx ln p - 120))) (5 * k9 + 2) (nI 0)) (5 * k9 + 3) (nI (opm ahv37)))] _ _ [.int (nI 1)]
            refine g_istore_n (lv' := [(3, .int (nI 1)), (2, .int (nI 0)), (1, .int (nI (nxc tx ln (p + 1) - 58))), (0, .ref (mo 0))]) X dX7_readAssignment_60 rfl (by decide) rfl ?_
            refine g_aload_n X dX7_readAssignment_61 3 rfl rfl ?_
            refine g_dup X dX7_readAssignment_62 rfl ?_
            refine g_get X cb7 11 q_14_9 dX7_readAssignment_63 0 0 rfl rfl (by decide) rfl rfl ?_
            refine g_iload_n X dX7_readAssignment_66 1 rfl rfl ?_
            refine g_if_neN (tgt := 74) X dX7_readAssignment_67 (by decide) (by omega) (fun c67 => ?_) (fun c67 => ?_)
            · exact absurd rfl c67
            · refine g_iload_n X dX7_readAssignment_70 0 rfl rfl ?_
              refine g_if_eqN (tgt := 78) X dX7_readAssignment_71 (by decide) (by omega) (fun c71 => ?_) (fun c71 => ?_)
              · exact absurd c71 (by decide)
              · refine g_iconst (x := nI 1) X dX7_readAssignment_74 (by decide +kernel) ?_
                refine g_goto (tgt := 79) X dX7_readAssignment_75 (by decide) ?_
                refine g_iaddN X dX7_readAssignment_79 ?_
                refine g_put (cs' := [[((mo 0), .inr (7, [.int th, .ref (mo 1), .ref (mo 2), .int (nI sm), .ref (mo 3), .int (nI ln), .ref (mo 4), .int (nI k9), .int fa, .ref (mo 5), .ref (mo 6), .int (nI ((p + 1 + 1 + 1) + 1)), .int (nI 0), .long dd]))], cMt v mo ft, cMr v mo (upd (upd (upd (upd fr (5 * k9 + 0) (nI 0)) (5 * k9 + 1) (nI (nxc tx ln p - 120))) (5 * k9 + 2) (nI 0)) (5 * k9 + 3) (nI (opm ahv37)))]) X cb7 11 q_14_9 dX7_readAssignment_80 0 0 rfl rfl (by decide) rfl rfl (rfl) (rfl) (Nat.le_of_ble_eq_true rfl) rfl ?_
                refine g_aload_n X dX7_readAssignment_83 3 rfl rfl ?_
                refine g_iconst (x := nI 4) X dX7_readAssignment_84 (by decide +kernel) ?_
                refine g_iload_n X dX7_readAssignment_85 1 rfl rfl ?_
                refine g_if_eqN (tgt := 100) X dX7_readAssignment_86 (by decide) (by omega) (fun c86 => ?_) (fun c86 => ?_)
                · refine g_iload_n X dX7_readAssignment_100 0 rfl rfl ?_
                  refine g_if_eqN (tgt := 116) X dX7_readAssignment_101 (by decide) (by omega) (fun c101 => ?_) (fun c101 => ?_)
                  · exact absurd c101 (by decide)
                  · refine g_aload_n X dX7_readAssignment_104 3 rfl rfl ?_
                    refine g_bipush (x := nI 48) X dX7_readAssignment_105 (by decide +kernel) ?_
                    refine g_bipush (x := nI 55) X dX7_readAssignment_107 (by decide +kernel) ?_
                    refine g_callV (As := [.int (nI 48), .int (nI 55)]) (rest := [.int (nI 4), .ref (mo 0)]) (wr := [cMr v mo (upd (upd (upd (upd fr (5 * k9 + 0) (nI 0)) (5 * k9 + 1) (nI (nxc tx ln p - 120))) (5 * k9 + 2) (nI 0)) (5 * k9 + 3) (nI (opm ahv37)))]) X (c_X7_takes l v mo th sm ln (nI k9) fa dd tx ft ((p + 1 + 1 + 1) + 1) 48 55 hT (by omega) (by omega) (by omega) (by omega)) f_X7_takes q_15_7 dX7_readAssignment_109 [0, 1] [2] rfl rfl (by decide) 0 rfl rfl rfl rfl (Nat.le_of_ble_eq_true rfl) (by decide) (fun r_ w_ hp26 => ?_)
                    by_cases hv109 : 48 ≤ nxc tx ln ((p + 1 + 1 + 1) + 1) ∧ nxc tx ln ((p + 1 + 1 + 1) + 1) ≤ 55
                    · have hp26q := hp26
                      rw [if_pos hv109] at hp26
                      have hz25 := nxc_lt hT ((p + 1 + 1 + 1) + 1)
                      obtain ⟨rfl, rfl⟩ := hp26
                      show GG k _ _ [[((mo 0), .inr (7, [.int th, .ref (mo 1), .ref (mo 2), .int (nI sm), .ref (mo 3), .int (nI ln), .ref (mo 4), .int (nI k9), .int fa, .ref (mo 5), .ref (mo 6), .int (nI ((p + 1 + 1 + 1) + 1 + 1)), .int (nI 0), .long dd]))], cMt v mo ft, cMr v mo (upd (upd (upd (upd fr (5 * k9 + 0) (nI 0)) (5 * k9 + 1) (nI (nxc tx ln p - 120))) (5 * k9 + 2) (nI 0)) (5 * k9 + 3) (nI (opm ahv37)))] _ _ [.int (nI (nxc tx ln ((p + 1 + 1 + 1) + 1) - 48)), .int (nI 4), .ref (mo 0)]
                      refine g_ineg X dX7_readAssignment_112 ?_
                      refine g_v (y := zI (-(((nxc tx ln ((p + 1 + 1 + 1) + 1) - 48) : Nat) : Int))) (by rw [zI_nI, zI_neg]) ?_
                      refine g_goto (tgt := 117) X dX7_readAssignment_113 (by decide) ?_
                      refine g_callV (As := [.int (nI 4), .int (zI (-(((nxc tx ln ((p + 1 + 1 + 1) + 1) - 48) : Nat) : Int)))]) (rest := []) (wr := [cMt v mo ft]) X (c_X7_puts l v mo th sm ln fa (nI ((p + 1 + 1 + 1) + 1 + 1)) (nI 0) dd k9 4 (zI (-(((nxc tx ln ((p + 1 + 1 + 1) + 1) - 48) : Nat) : Int))) (upd (upd (upd (upd fr (5 * k9 + 0) (nI 0)) (5 * k9 + 1) (nI (nxc tx ln p - 120))) (5 * k9 + 2) (nI 0)) (5 * k9 + 3) (nI (opm ahv37))) (by omega) (by omega)) f_X7_puts q_15_3 dX7_readAssignment_117 [0, 2] [1] rfl rfl (by decide) 0 rfl rfl rfl rfl (Nat.le_of_ble_eq_true rfl) (by decide) (fun r_ w_ hp27 => ?_)
                      subst hp27
                      show GG k _ _ [[((mo 0), .inr (7, [.int th, .ref (mo 1), .ref (mo 2), .int (nI sm), .ref (mo 3), .int (nI ln), .ref (mo 4), .int (nI k9), .int fa, .ref (mo 5), .ref (mo 6), .int (nI ((p + 1 + 1 + 1) + 1 + 1)), .int (nI 0), .long dd]))], cMr v mo (upd (upd (upd (upd (upd fr (5 * k9 + 0) (nI 0)) (5 * k9 + 1) (nI (nxc tx ln p - 120))) (5 * k9 + 2) (nI 0)) (5 * k9 + 3) (nI (opm ahv37))) (5 * k9 + 4) (zI (-(((nxc tx ln ((p + 1 + 1 + 1) + 1) - 48) : Nat) : Int)))), cMt v mo ft] _ _ []
                      refine g_pick (cs' := [[((mo 0), .inr (7, [.int th, .ref (mo 1), .ref (mo 2), .int (nI sm), .ref (mo 3), .int (nI ln), .ref (mo 4), .int (nI k9), .int fa, .ref (mo 5), .ref (mo 6), .int (nI ((p + 1 + 1 + 1) + 1 + 1)), .int (nI 0), .long dd]))], cMt v mo ft, cMr v mo (upd (upd (upd (upd (upd fr (5 * k9 + 0) (nI 0)) (5 * k9 + 1) (nI (nxc tx ln p - 120))) (5 * k9 + 2) (nI 0)) (5 * k9 + 3) (nI (opm ahv37))) (5 * k9 + 4) (zI (-(((nxc tx ln ((p + 1 + 1 + 1) + 1) - 48) : Nat) : Int))))]) [0, 2, 1] rfl rfl ?_
                      exact E dX7_readAssignment_120 (by decide) (by decide) (by have e : pStmt tx ln p = (some (0, nxc tx ln p - 120, 0, ahv37, -((nxc tx ln (p + 1 + 1 + 1 + 1) - 48 : Nat) : Int)), p + 1 + 1 + 1 + 1 + 1) := (by simp only [pStmt, if_neg h33, if_neg h63, vcl_x hv13, if_pos (eq_rng hv24), hv37, pAdd_m hv57 hv109]); rw [e]; dsimp only; exact ⟨_, (Blw_u (Blw_u (Blw_u (Blw_u (Blw_u Blw_0))))), RW9_mk rfl rfl rfl rfl (rfl), rfl⟩)
                    · have hp26q := hp26
                      rw [if_neg hv109] at hp26
                      obtain ⟨rfl, rfl⟩ := hp26
                      show GG k _ _ [[((mo 0), .inr (7, [.int th, .ref (mo 1), .ref (mo 2), .int (nI sm), .ref (mo 3), .int (nI ln), .ref (mo 4), .int (nI k9), .int fa, .ref (mo 5), .ref (mo 6), .int (nI ((p + 1 + 1 + 1) + 1)), .int (nI 1), .long dd]))], cMt v mo ft, cMr v mo (upd (upd (upd (upd fr (5 * k9 + 0) (nI 0)) (5 * k9 + 1) (nI (nxc tx ln p - 120))) (5 * k9 + 2) (nI 0)) (5 * k9 + 3) (nI (opm ahv37)))] _ _ [.int (nI 0), .int (nI 4), .ref (mo 0)]
                      refine g_ineg X dX7_readAssignment_112 ?_
                      refine g_v (y := zI (-((0 : Nat) : Int))) (by rw [zI_nI, zI_neg]) ?_
                      refine g_goto (tgt := 117) X dX7_readAssignment_113 (by decide) ?_
                      refine g_callV (As := [.int (nI 4), .int (zI (-((0 : Nat) : Int)))]) (rest := []) (wr := [cMt v mo ft]) X (c_X7_puts l v mo th sm ln fa (nI ((p + 1 + 1 + 1) + 1)) (nI 1) dd k9 4 (zI (-((0 : Nat) : Int))) (upd (upd (upd (upd fr (5 * k9 + 0) (nI 0)) (5 * k9 + 1) (nI (nxc tx ln p - 120))) (5 * k9 + 2) (nI 0)) (5 * k9 + 3) (nI (opm ahv37))) (by omega) (by omega)) f_X7_puts q_15_3 dX7_readAssignment_117 [0, 2] [1] rfl rfl (by decide) 0 rfl rfl rfl rfl (Nat.le_of_ble_eq_true rfl) (by decide) (fun r_ w_ hp28 => ?_)
                      subst hp28
                      show GG k _ _ [[((mo 0), .inr (7, [.int th, .ref (mo 1), .ref (mo 2), .int (nI sm), .ref (mo 3), .int (nI ln), .ref (mo 4), .int (nI k9), .int fa, .ref (mo 5), .ref (mo 6), .int (nI ((p + 1 + 1 + 1) + 1)), .int (nI 1), .long dd]))], cMr v mo (upd (upd (upd (upd (upd fr (5 * k9 + 0) (nI 0)) (5 * k9 + 1) (nI (nxc tx ln p - 120))) (5 * k9 + 2) (nI 0)) (5 * k9 + 3) (nI (opm ahv37))) (5 * k9 + 4) (zI (-((0 : Nat) : Int)))), cMt v mo ft] _ _ []
                      refine g_pick (cs' := [[((mo 0), .inr (7, [.int th, .ref (mo 1), .ref (mo 2), .int (nI sm), .ref (mo 3), .int (nI ln), .ref (mo 4), .int (nI k9), .int fa, .ref (mo 5), .ref (mo 6), .int (nI ((p + 1 + 1 + 1) + 1)), .int (nI 1), .long dd]))], cMt v mo ft, cMr v mo (upd (upd (upd (upd (upd fr (5 * k9 + 0) (nI 0)) (5 * k9 + 1) (nI (nxc tx ln p - 120))) (5 * k9 + 2) (nI 0)) (5 * k9 + 3) (nI (opm ahv37))) (5 * k9 + 4) (zI (-((0 : Nat) : Int))))]) [0, 2, 1] rfl rfl ?_
                      exact E dX7_readAssignment_120 (by decide) (by decide) (by have e : pStmt tx ln p = (none, p + 1 + 1 + 1 + 1) := (by simp only [pStmt, if_neg h33, if_neg h63, vcl_x hv13, if_pos (eq_rng hv24), hv37, pAdd_me hv57 hv109]); rw [e]; dsimp only; exact ⟨_, (Blw_u (Blw_u (Blw_u (Blw_u (Blw_u Blw_0))))), rfl⟩)
                · exact absurd rfl c86
          · have hp24q := hp24
            rw [if_neg hv57] at hp24
            obtain ⟨rfl, rfl⟩ := hp24
            show GG k _ _ [[((mo 0), .inr (7, [.int th, .ref (mo 1), .ref (mo 2), .int (nI sm), .ref (mo 3), .int (nI ln), .ref (mo 4), .int (nI k9), .int fa, .ref (mo 5), .ref (mo 6), .int (nI (p + 1 + 1 + 1)), .int (nI 0), .long dd]))], cMt v mo ft, cMr v mo (upd (upd (upd (upd fr (5 * k9 + 0) (nI 0)) (5 * k9 + 1) (nI (nxc tx ln p - 120))) (5 * k9 + 2) (nI 0)) (5 * k9 + 3) (nI (opm ahv37)))] _ _ [.int (nI 0)]
            refine g_istore_n (lv' := [(3, .int (nI 0)), (2, .int (nI 0)), (1, .int (nI (nxc tx ln (p + 1) - 58))), (0, .ref (mo 0))]) X dX7_readAssignment_60 rfl (by decide) rfl ?_
            refine g_aload_n X dX7_readAssignment_61 3 rfl rfl ?_
            refine g_dup X dX7_readAssignment_62 rfl ?_
            refine g_get X cb7 11 q_14_9 dX7_readAssignment_63 0 0 rfl rfl (by decide) rfl rfl ?_
            refine g_iload_n X dX7_readAssignment_66 1 rfl rfl ?_
            refine g_if_neN (tgt := 74) X dX7_readAssignment_67 (by decide) (by omega) (fun c67 => ?_) (fun c67 => ?_)
            · exact absurd rfl c67
            · refine g_iload_n X dX7_readAssignment_70 0 rfl rfl ?_
              refine g_if_eqN (tgt := 78) X dX7_readAssignment_71 (by decide) (by omega) (fun c71 => ?_) (fun c71 => ?_)
              · refine g_iconst (x := nI 0) X dX7_readAssignment_78 (by decide +kernel) ?_
                refine g_iaddN X dX7_readAssignment_79 ?_
                refine g_put (cs' := [[((mo 0), .inr (7, [.int th, .ref (mo 1), .ref (mo 2), .int (nI sm), .ref (mo 3), .int (nI ln), .ref (mo 4), .int (nI k9), .int fa, .ref (mo 5), .ref (mo 6), .int (nI ((p + 1 + 1 + 1) + 0)), .int (nI 0), .long dd]))], cMt v mo ft, cMr v mo (upd (upd (upd (upd fr (5 * k9 + 0) (nI 0)) (5 * k9 + 1) (nI (nxc tx ln p - 120))) (5 * k9 + 2) (nI 0)) (5 * k9 + 3) (nI (opm ahv37)))]) X cb7 11 q_14_9 dX7_readAssignment_80 0 0 rfl rfl (by decide) rfl rfl (rfl) (rfl) (Nat.le_of_ble_eq_true rfl) rfl ?_
                refine g_aload_n X dX7_readAssignment_83 3 rfl rfl ?_
                refine g_iconst (x := nI 4) X dX7_readAssignment_84 (by decide +kernel) ?_
                refine g_iload_n X dX7_readAssignment_85 1 rfl rfl ?_
                refine g_if_eqN (tgt := 100) X dX7_readAssignment_86 (by decide) (by omega) (fun c86 => ?_) (fun c86 => ?_)
                · refine g_iload_n X dX7_readAssignment_100 0 rfl rfl ?_
                  refine g_if_eqN (tgt := 116) X dX7_readAssignment_101 (by decide) (by omega) (fun c101 => ?_) (fun c101 => ?_)
                  · refine g_iconst (x := nI 0) X dX7_readAssignment_116 (by decide +kernel) ?_
                    refine g_callV (As := [.int (nI 4), .int (nI 0)]) (rest := []) (wr := [cMt v mo ft]) X (c_X7_puts l v mo th sm ln fa (nI ((p + 1 + 1 + 1) + 0)) (nI 0) dd k9 4 (nI 0) (upd (upd (upd (upd fr (5 * k9 + 0) (nI 0)) (5 * k9 + 1) (nI (nxc tx ln p - 120))) (5 * k9 + 2) (nI 0)) (5 * k9 + 3) (nI (opm ahv37))) (by omega) (by omega)) f_X7_puts q_15_3 dX7_readAssignment_117 [0, 2] [1] rfl rfl (by decide) 0 rfl rfl rfl rfl (Nat.le_of_ble_eq_true rfl) (by decide) (fun r_ w_ hp29 => ?_)
                    subst hp29
                    show GG k _ _ [[((mo 0), .inr (7, [.int th, .ref (mo 1), .ref (mo 2), .int (nI sm), .ref (mo 3), .int (nI ln), .ref (mo 4), .int (nI k9), .int fa, .ref (mo 5), .ref (mo 6), .int (nI ((p + 1 + 1 + 1) + 0)), .int (nI 0), .long dd]))], cMr v mo (upd (upd (upd (upd (upd fr (5 * k9 + 0) (nI 0)) (5 * k9 + 1) (nI (nxc tx ln p - 120))) (5 * k9 + 2) (nI 0)) (5 * k9 + 3) (nI (opm ahv37))) (5 * k9 + 4) (nI 0)), cMt v mo ft] _ _ []
                    refine g_pick (cs' := [[((mo 0), .inr (7, [.int th, .ref (mo 1), .ref (mo 2), .int (nI sm), .ref (mo 3), .int (nI ln), .ref (mo 4), .int (nI k9), .int fa, .ref (mo 5), .ref (mo 6), .int (nI ((p + 1 + 1 + 1) + 0)), .int (nI 0), .long dd]))], cMt v mo ft, cMr v mo (upd (upd (upd (upd (upd fr (5 * k9 + 0) (nI 0)) (5 * k9 + 1) (nI (nxc tx ln p - 120))) (5 * k9 + 2) (nI 0)) (5 * k9 + 3) (nI (opm ahv37))) (5 * k9 + 4) (nI 0))]) [0, 2, 1] rfl rfl ?_
                    exact E dX7_readAssignment_120 (by decide) (by decide) (by have e : pStmt tx ln p = (some (0, nxc tx ln p - 120, 0, ahv37, 0), p + 1 + 1 + 1) := (by simp only [pStmt, if_neg h33, if_neg h63, vcl_x hv13, if_pos (eq_rng hv24), hv37, pAdd_z hv48 hv57]); rw [e]; dsimp only; exact ⟨_, (Blw_u (Blw_u (Blw_u (Blw_u (Blw_u Blw_0))))), RW9_mk rfl rfl rfl rfl (zI0.symm), rfl⟩)
                  · exact absurd rfl c101
                · exact absurd rfl c86
              · exact absurd rfl c71
    · have hp6q := hp6
      rw [if_neg hv24] at hp6
      obtain ⟨rfl, rfl⟩ := hp6
      show GG k _ _ [[((mo 0), .inr (7, [.int th, .ref (mo 1), .ref (mo 2), .int (nI sm), .ref (mo 3), .int (nI ln), .ref (mo 4), .int (nI k9), .int fa, .ref (mo 5), .ref (mo 6), .int (nI (p + 1)), .int (nI 1), .long dd]))], cMt v mo ft, cMr v mo (upd (upd fr (5 * k9 + 0) (nI 0)) (5 * k9 + 1) (nI (nxc tx ln p - 120)))] _ _ [.int (nI 0)]
      refine g_istore_n (lv' := [(1, .int (nI 0)), (0, .ref (mo 0))]) X dX7_readAssignment_27 rfl (by decide) rfl ?_
      refine g_aload_n X dX7_readAssignment_28 1 rfl rfl ?_
      refine g_iconst (x := nI 2) X dX7_readAssignment_29 (by decide +kernel) ?_
      refine g_iconst (x := nI 0) X dX7_readAssignment_30 (by decide +kernel) ?_
      refine g_callV (As := [.int (nI 2), .int (nI 0)]) (rest := []) (wr := [cMt v mo ft]) X (c_X7_puts l v mo th sm ln fa (nI (p + 1)) (nI 1) dd k9 2 (nI 0) (upd (upd fr (5 * k9 + 0) (nI 0)) (5 * k9 + 1) (nI (nxc tx ln p - 120))) (by omega) (by omega)) f_X7_puts q_15_3 dX7_readAssignment_31 [0, 2] [1] rfl rfl (by decide) 0 rfl rfl rfl rfl (Nat.le_of_ble_eq_true rfl) (by decide) (fun r_ w_ hp30 => ?_)
      subst hp30
      show GG k _ _ [[((mo 0), .inr (7, [.int th, .ref (mo 1), .ref (mo 2), .int (nI sm), .ref (mo 3), .int (nI ln), .ref (mo 4), .int (nI k9), .int fa, .ref (mo 5), .ref (mo 6), .int (nI (p + 1)), .int (nI 1), .long dd]))], cMr v mo (upd (upd (upd fr (5 * k9 + 0) (nI 0)) (5 * k9 + 1) (nI (nxc tx ln p - 120))) (5 * k9 + 2) (nI 0)), cMt v mo ft] _ _ []
      refine g_pick (cs' := [[((mo 0), .inr (7, [.int th, .ref (mo 1), .ref (mo 2), .int (nI sm), .ref (mo 3), .int (nI ln), .ref (mo 4), .int (nI k9), .int fa, .ref (mo 5), .ref (mo 6), .int (nI (p + 1)), .int (nI 1), .long dd]))], cMt v mo ft, cMr v mo (upd (upd (upd fr (5 * k9 + 0) (nI 0)) (5 * k9 + 1) (nI (nxc tx ln p - 120))) (5 * k9 + 2) (nI 0))]) [0, 2, 1] rfl rfl ?_
      refine g_aload_n X dX7_readAssignment_34 1 rfl rfl ?_
      refine g_iconst (x := nI 3) X dX7_readAssignment_35 (by decide +kernel) ?_
      refine g_aload_n X dX7_readAssignment_36 1 rfl rfl ?_
      refine g_callV (As := []) (rest := [.int (nI 3), .ref (mo 0)]) (wr := [cMr v mo (upd (upd (upd fr (5 * k9 + 0) (nI 0)) (5 * k9 + 1) (nI (nxc tx ln p - 120))) (5 * k9 + 2) (nI 0))]) X (b_X7_readOperand l v mo th sm ln (nI k9) fa dd ft (p + 1) (by omega)) f_X7_readOperand q_15_11 dX7_readAssignment_37 [0, 1] [2] rfl rfl (by decide) 0 rfl rfl rfl rfl (Nat.le_of_ble_eq_true rfl) (by decide) (fun r_ w_ hp31 => ?_)
      obtain ⟨rfl, rfl⟩ := hp31
      show GG k _ _ [[((mo 0), .inr (7, [.int th, .ref (mo 1), .ref (mo 2), .int (nI sm), .ref (mo 3), .int (nI ln), .ref (mo 4), .int (nI k9), .int fa, .ref (mo 5), .ref (mo 6), .int (nI (p + 1)), .int (nI 1), .long dd]))], cMt v mo ft, cMr v mo (upd (upd (upd fr (5 * k9 + 0) (nI 0)) (5 * k9 + 1) (nI (nxc tx ln p - 120))) (5 * k9 + 2) (nI 0))] _ _ [.int (nI 3), .int (nI 3), .ref (mo 0)]
      refine g_callV (As := [.int (nI 3), .int (nI 3)]) (rest := []) (wr := [cMt v mo ft]) X (c_X7_puts l v mo th sm ln fa (nI (p + 1)) (nI 1) dd k9 3 (nI 3) (upd (upd (upd fr (5 * k9 + 0) (nI 0)) (5 * k9 + 1) (nI (nxc tx ln p - 120))) (5 * k9 + 2) (nI 0)) (by omega) (by omega)) f_X7_puts q_15_3 dX7_readAssignment_40 [0, 2] [1] rfl rfl (by decide) 0 rfl rfl rfl rfl (Nat.le_of_ble_eq_true rfl) (by decide) (fun r_ w_ hp32 => ?_)
      subst hp32
      show GG k _ _ [[((mo 0), .inr (7, [.int th, .ref (mo 1), .ref (mo 2), .int (nI sm), .ref (mo 3), .int (nI ln), .ref (mo 4), .int (nI k9), .int fa, .ref (mo 5), .ref (mo 6), .int (nI (p + 1)), .int (nI 1), .long dd]))], cMr v mo (upd (upd (upd (upd fr (5 * k9 + 0) (nI 0)) (5 * k9 + 1) (nI (nxc tx ln p - 120))) (5 * k9 + 2) (nI 0)) (5 * k9 + 3) (nI 3)), cMt v mo ft] _ _ []
      refine g_pick (cs' := [[((mo 0), .inr (7, [.int th, .ref (mo 1), .ref (mo 2), .int (nI sm), .ref (mo 3), .int (nI ln), .ref (mo 4), .int (nI k9), .int fa, .ref (mo 5), .ref (mo 6), .int (nI (p + 1)), .int (nI 1), .long dd]))], cMt v mo ft, cMr v mo (upd (upd (upd (upd fr (5 * k9 + 0) (nI 0)) (5 * k9 + 1) (nI (nxc tx ln p - 120))) (5 * k9 + 2) (nI 0)) (5 * k9 + 3) (nI 3))]) [0, 2, 1] rfl rfl ?_
      refine g_aload_n X dX7_readAssignment_43 1 rfl rfl ?_
      refine g_bipush (x := nI 43) X dX7_readAssignment_44 (by decide +kernel) ?_
      refine g_bipush (x := nI 43) X dX7_readAssignment_46 (by decide +kernel) ?_
      refine g_callV (As := [.int (nI 43), .int (nI 43)]) (rest := []) (wr := [cMr v mo (upd (upd (upd (upd fr (5 * k9 + 0) (nI 0)) (5 * k9 + 1) (nI (nxc tx ln p - 120))) (5 * k9 + 2) (nI 0)) (5 * k9 + 3) (nI 3))]) X (b_X7_isNext l v mo th sm ln (nI k9) fa dd ft (p + 1) 43 43) f_X7_isNext q_14_16 dX7_readAssignment_48 [0, 1] [2] rfl rfl (by decide) 0 rfl rfl rfl rfl (Nat.le_of_ble_eq_true rfl) (by decide) (fun r_ w_ hp33 => ?_)
      obtain ⟨rfl, rfl⟩ := hp33
      show GG k _ _ [[((mo 0), .inr (7, [.int th, .ref (mo 1), .ref (mo 2), .int (nI sm), .ref (mo 3), .int (nI ln), .ref (mo 4), .int (nI k9), .int fa, .ref (mo 5), .ref (mo 6), .int (nI (p + 1)), .int (nI 1), .long dd]))], cMt v mo ft, cMr v mo (upd (upd (upd (upd fr (5 * k9 + 0) (nI 0)) (5 * k9 + 1) (nI (nxc tx ln p - 120))) (5 * k9 + 2) (nI 0)) (5 * k9 + 3) (nI 3))] _ _ [.int (nI 0)]
      refine g_istore_n (lv' := [(2, .int (nI 0)), (1, .int (nI 0)), (0, .ref (mo 0))]) X dX7_readAssignment_51 rfl (by decide) rfl ?_
      refine g_aload_n X dX7_readAssignment_52 2 rfl rfl ?_
      refine g_bipush (x := nI 45) X dX7_readAssignment_53 (by decide +kernel) ?_
      refine g_bipush (x := nI 45) X dX7_readAssignment_55 (by decide +kernel) ?_
      refine g_callV (As := [.int (nI 45), .int (nI 45)]) (rest := []) (wr := [cMr v mo (upd (upd (upd (upd fr (5 * k9 + 0) (nI 0)) (5 * k9 + 1) (nI (nxc tx ln p - 120))) (5 * k9 + 2) (nI 0)) (5 * k9 + 3) (nI 3))]) X (b_X7_isNext l v mo th sm ln (nI k9) fa dd ft (p + 1) 45 45) f_X7_isNext q_14_16 dX7_readAssignment_57 [0, 1] [2] rfl rfl (by decide) 0 rfl rfl rfl rfl (Nat.le_of_ble_eq_true rfl) (by decide) (fun r_ w_ hp34 => ?_)
      obtain ⟨rfl, rfl⟩ := hp34
      show GG k _ _ [[((mo 0), .inr (7, [.int th, .ref (mo 1), .ref (mo 2), .int (nI sm), .ref (mo 3), .int (nI ln), .ref (mo 4), .int (nI k9), .int fa, .ref (mo 5), .ref (mo 6), .int (nI (p + 1)), .int (nI 1), .long dd]))], cMt v mo ft, cMr v mo (upd (upd (upd (upd fr (5 * k9 + 0) (nI 0)) (5 * k9 + 1) (nI (nxc tx ln p - 120))) (5 * k9 + 2) (nI 0)) (5 * k9 + 3) (nI 3))] _ _ [.int (nI 0)]
      refine g_istore_n (lv' := [(3, .int (nI 0)), (2, .int (nI 0)), (1, .int (nI 0)), (0, .ref (mo 0))]) X dX7_readAssignment_60 rfl (by decide) rfl ?_
      refine g_aload_n X dX7_readAssignment_61 3 rfl rfl ?_
      refine g_dup X dX7_readAssignment_62 rfl ?_
      refine g_get X cb7 11 q_14_9 dX7_readAssignment_63 0 0 rfl rfl (by decide) rfl rfl ?_
      refine g_iload_n X dX7_readAssignment_66 1 rfl rfl ?_
      refine g_if_neN (tgt := 74) X dX7_readAssignment_67 (by decide) (by omega) (fun c67 => ?_) (fun c67 => ?_)
      · exact absurd rfl c67
      · refine g_iload_n X dX7_readAssignment_70 0 rfl rfl ?_
        refine g_if_eqN (tgt := 78) X dX7_readAssignment_71 (by decide) (by omega) (fun c71 => ?_) (fun c71 => ?_)
        · refine g_iconst (x := nI 0) X dX7_readAssignment_78 (by decide +kernel) ?_
          refine g_iaddN X dX7_readAssignment_79 ?_
          refine g_put (cs' := [[((mo 0), .inr (7, [.int th, .ref (mo 1), .ref (mo 2), .int (nI sm), .ref (mo 3), .int (nI ln), .ref (mo 4), .int (nI k9), .int fa, .ref (mo 5), .ref (mo 6), .int (nI ((p + 1) + 0)), .int (nI 1), .long dd]))], cMt v mo ft, cMr v mo (upd (upd (upd (upd fr (5 * k9 + 0) (nI 0)) (5 * k9 + 1) (nI (nxc tx ln p - 120))) (5 * k9 + 2) (nI 0)) (5 * k9 + 3) (nI 3))]) X cb7 11 q_14_9 dX7_readAssignment_80 0 0 rfl rfl (by decide) rfl rfl (rfl) (rfl) (Nat.le_of_ble_eq_true rfl) rfl ?_
          refine g_aload_n X dX7_readAssignment_83 3 rfl rfl ?_
          refine g_iconst (x := nI 4) X dX7_readAssignment_84 (by decide +kernel) ?_
          refine g_iload_n X dX7_readAssignment_85 1 rfl rfl ?_
          refine g_if_eqN (tgt := 100) X dX7_readAssignment_86 (by decide) (by omega) (fun c86 => ?_) (fun c86 => ?_)
          · refine g_iload_n X dX7_readAssignment_100 0 rfl rfl ?_
            refine g_if_eqN (tgt := 116) X dX7_readAssignment_101 (by decide) (by omega) (fun c101 => ?_) (fun c101 => ?_)
            · refine g_iconst (x := nI 0) X dX7_readAssignment_116 (by decide +kernel) ?_
              refine g_callV (As := [.int (nI 4), .int (nI 0)]) (rest := []) (wr := [cMt v mo ft]) X (c_X7_puts l v mo th sm ln fa (nI ((p + 1) + 0)) (nI 1) dd k9 4 (nI 0) (upd (upd (upd (upd fr (5 * k9 + 0) (nI 0)) (5 * k9 + 1) (nI (nxc tx ln p - 120))) (5 * k9 + 2) (nI 0)) (5 * k9 + 3) (nI 3)) (by omega) (by omega)) f_X7_puts q_15_3 dX7_readAssignment_117 [0, 2] [1] rfl rfl (by decide) 0 rfl rfl rfl rfl (Nat.le_of_ble_eq_true rfl) (by decide) (fun r_ w_ hp35 => ?_)
              subst hp35
              show GG k _ _ [[((mo 0), .inr (7, [.int th, .ref (mo 1), .ref (mo 2), .int (nI sm), .ref (mo 3), .int (nI ln), .ref (mo 4), .int (nI k9), .int fa, .ref (mo 5), .ref (mo 6), .int (nI ((p + 1) + 0)), .int (nI 1), .long dd]))], cMr v mo (upd (upd (upd (upd (upd fr (5 * k9 + 0) (nI 0)) (5 * k9 + 1) (nI (nxc tx ln p - 120))) (5 * k9 + 2) (nI 0)) (5 * k9 + 3) (nI 3)) (5 * k9 + 4) (nI 0)), cMt v mo ft] _ _ []
              refine g_pick (cs' := [[((mo 0), .inr (7, [.int th, .ref (mo 1), .ref (mo 2), .int (nI sm), .ref (mo 3), .int (nI ln), .ref (mo 4), .int (nI k9), .int fa, .ref (mo 5), .ref (mo 6), .int (nI ((p + 1) + 0)), .int (nI 1), .long dd]))], cMt v mo ft, cMr v mo (upd (upd (upd (upd (upd fr (5 * k9 + 0) (nI 0)) (5 * k9 + 1) (nI (nxc tx ln p - 120))) (5 * k9 + 2) (nI 0)) (5 * k9 + 3) (nI 3)) (5 * k9 + 4) (nI 0))]) [0, 2, 1] rfl rfl ?_
              exact E dX7_readAssignment_120 (by decide) (by decide) (by have e : pStmt tx ln p = (none, p + 1) := (by simp only [pStmt, if_neg h33, if_neg h63, vcl_x hv13, if_neg (ne_rng hv24)]); rw [e]; dsimp only; exact ⟨_, (Blw_u (Blw_u (Blw_u (Blw_u (Blw_u Blw_0))))), rfl⟩)
            · exact absurd rfl c101
          · exact absurd rfl c86
        · exact absurd rfl c71
  · have hp3q := hp3
    rw [if_neg hv13] at hp3
    obtain ⟨rfl, rfl⟩ := hp3
    show GG k _ _ [[((mo 0), .inr (7, [.int th, .ref (mo 1), .ref (mo 2), .int (nI sm), .ref (mo 3), .int (nI ln), .ref (mo 4), .int (nI k9), .int fa, .ref (mo 5), .ref (mo 6), .int (nI p), .int (nI 1), .long dd]))], cMt v mo ft, cMr v mo (upd fr (5 * k9 + 0) (nI 0))] _ _ [.int (nI 0), .int (nI 1), .ref (mo 0)]
    refine g_callV (As := [.int (nI 1), .int (nI 0)]) (rest := []) (wr := [cMt v mo ft]) X (c_X7_puts l v mo th sm ln fa (nI p) (nI 1) dd k9 1 (nI 0) (upd fr (5 * k9 + 0) (nI 0)) (by omega) (by omega)) f_X7_puts q_15_3 dX7_readAssignment_16 [0, 2] [1] rfl rfl (by decide) 0 rfl rfl rfl rfl (Nat.le_of_ble_eq_true rfl) (by decide) (fun r_ w_ hp36 => ?_)
    subst hp36
    show GG k _ _ [[((mo 0), .inr (7, [.int th, .ref (mo 1), .ref (mo 2), .int (nI sm), .ref (mo 3), .int (nI ln), .ref (mo 4), .int (nI k9), .int fa, .ref (mo 5), .ref (mo 6), .int (nI p), .int (nI 1), .long dd]))], cMr v mo (upd (upd fr (5 * k9 + 0) (nI 0)) (5 * k9 + 1) (nI 0)), cMt v mo ft] _ _ []
    refine g_pick (cs' := [[((mo 0), .inr (7, [.int th, .ref (mo 1), .ref (mo 2), .int (nI sm), .ref (mo 3), .int (nI ln), .ref (mo 4), .int (nI k9), .int fa, .ref (mo 5), .ref (mo 6), .int (nI p), .int (nI 1), .long dd]))], cMt v mo ft, cMr v mo (upd (upd fr (5 * k9 + 0) (nI 0)) (5 * k9 + 1) (nI 0))]) [0, 2, 1] rfl rfl ?_
    refine g_aload_n X dX7_readAssignment_19 0 rfl rfl ?_
    refine g_bipush (x := nI 58) X dX7_readAssignment_20 (by decide +kernel) ?_
    refine g_bipush (x := nI 58) X dX7_readAssignment_22 (by decide +kernel) ?_
    refine g_callV (As := [.int (nI 58), .int (nI 58)]) (rest := []) (wr := [cMr v mo (upd (upd fr (5 * k9 + 0) (nI 0)) (5 * k9 + 1) (nI 0))]) X (b_X7_takes l v mo th sm ln (nI k9) fa dd ft p 58 58 (by omega)) f_X7_takes q_15_7 dX7_readAssignment_24 [0, 1] [2] rfl rfl (by decide) 0 rfl rfl rfl rfl (Nat.le_of_ble_eq_true rfl) (by decide) (fun r_ w_ hp37 => ?_)
    obtain ⟨rfl, rfl⟩ := hp37
    show GG k _ _ [[((mo 0), .inr (7, [.int th, .ref (mo 1), .ref (mo 2), .int (nI sm), .ref (mo 3), .int (nI ln), .ref (mo 4), .int (nI k9), .int fa, .ref (mo 5), .ref (mo 6), .int (nI p), .int (nI 1), .long dd]))], cMt v mo ft, cMr v mo (upd (upd fr (5 * k9 + 0) (nI 0)) (5 * k9 + 1) (nI 0))] _ _ [.int (nI 0)]
    refine g_istore_n (lv' := [(1, .int (nI 0)), (0, .ref (mo 0))]) X dX7_readAssignment_27 rfl (by decide) rfl ?_
    refine g_aload_n X dX7_readAssignment_28 1 rfl rfl ?_
    refine g_iconst (x := nI 2) X dX7_readAssignment_29 (by decide +kernel) ?_
    refine g_iconst (x := nI 0) X dX7_readAssignment_30 (by decide +kernel) ?_
    refine g_callV (As := [.int (nI 2), .int (nI 0)]) (rest := []) (wr := [cMt v mo ft]) X (c_X7_puts l v mo th sm ln fa (nI p) (nI 1) dd k9 2 (nI 0) (upd (upd fr (5 * k9 + 0) (nI 0)) (5 * k9 + 1) (nI 0)) (by omega) (by omega)) f_X7_puts q_15_3 dX7_readAssignment_31 [0, 2] [1] rfl rfl (by decide) 0 rfl rfl rfl rfl (Nat.le_of_ble_eq_true rfl) (by decide) (fun r_ w_ hp38 => ?_)
    subst hp38
    show GG k _ _ [[((mo 0), .inr (7, [.int th, .ref (mo 1), .ref (mo 2), .int (nI sm), .ref (mo 3), .int (nI ln), .ref (mo 4), .int (nI k9), .int fa, .ref (mo 5), .ref (mo 6), .int (nI p), .int (nI 1), .long dd]))], cMr v mo (upd (upd (upd fr (5 * k9 + 0) (nI 0)) (5 * k9 + 1) (nI 0)) (5 * k9 + 2) (nI 0)), cMt v mo ft] _ _ []
    refine g_pick (cs' := [[((mo 0), .inr (7, [.int th, .ref (mo 1), .ref (mo 2), .int (nI sm), .ref (mo 3), .int (nI ln), .ref (mo 4), .int (nI k9), .int fa, .ref (mo 5), .ref (mo 6), .int (nI p), .int (nI 1), .long dd]))], cMt v mo ft, cMr v mo (upd (upd (upd fr (5 * k9 + 0) (nI 0)) (5 * k9 + 1) (nI 0)) (5 * k9 + 2) (nI 0))]) [0, 2, 1] rfl rfl ?_
    refine g_aload_n X dX7_readAssignment_34 1 rfl rfl ?_
    refine g_iconst (x := nI 3) X dX7_readAssignment_35 (by decide +kernel) ?_
    refine g_aload_n X dX7_readAssignment_36 1 rfl rfl ?_
    refine g_callV (As := []) (rest := [.int (nI 3), .ref (mo 0)]) (wr := [cMr v mo (upd (upd (upd fr (5 * k9 + 0) (nI 0)) (5 * k9 + 1) (nI 0)) (5 * k9 + 2) (nI 0))]) X (b_X7_readOperand l v mo th sm ln (nI k9) fa dd ft p (by omega)) f_X7_readOperand q_15_11 dX7_readAssignment_37 [0, 1] [2] rfl rfl (by decide) 0 rfl rfl rfl rfl (Nat.le_of_ble_eq_true rfl) (by decide) (fun r_ w_ hp39 => ?_)
    obtain ⟨rfl, rfl⟩ := hp39
    show GG k _ _ [[((mo 0), .inr (7, [.int th, .ref (mo 1), .ref (mo 2), .int (nI sm), .ref (mo 3), .int (nI ln), .ref (mo 4), .int (nI k9), .int fa, .ref (mo 5), .ref (mo 6), .int (nI p), .int (nI 1), .long dd]))], cMt v mo ft, cMr v mo (upd (upd (upd fr (5 * k9 + 0) (nI 0)) (5 * k9 + 1) (nI 0)) (5 * k9 + 2) (nI 0))] _ _ [.int (nI 3), .int (nI 3), .ref (mo 0)]
    refine g_callV (As := [.int (nI 3), .int (nI 3)]) (rest := []) (wr := [cMt v mo ft]) X (c_X7_puts l v mo th sm ln fa (nI p) (nI 1) dd k9 3 (nI 3) (upd (upd (upd fr (5 * k9 + 0) (nI 0)) (5 * k9 + 1) (nI 0)) (5 * k9 + 2) (nI 0)) (by omega) (by omega)) f_X7_puts q_15_3 dX7_readAssignment_40 [0, 2] [1] rfl rfl (by decide) 0 rfl rfl rfl rfl (Nat.le_of_ble_eq_true rfl) (by decide) (fun r_ w_ hp40 => ?_)
    subst hp40
    show GG k _ _ [[((mo 0), .inr (7, [.int th, .ref (mo 1), .ref (mo 2), .int (nI sm), .ref (mo 3), .int (nI ln), .ref (mo 4), .int (nI k9), .int fa, .ref (mo 5), .ref (mo 6), .int (nI p), .int (nI 1), .long dd]))], cMr v mo (upd (upd (upd (upd fr (5 * k9 + 0) (nI 0)) (5 * k9 + 1) (nI 0)) (5 * k9 + 2) (nI 0)) (5 * k9 + 3) (nI 3)), cMt v mo ft] _ _ []
    refine g_pick (cs' := [[((mo 0), .inr (7, [.int th, .ref (mo 1), .ref (mo 2), .int (nI sm), .ref (mo 3), .int (nI ln), .ref (mo 4), .int (nI k9), .int fa, .ref (mo 5), .ref (mo 6), .int (nI p), .int (nI 1), .long dd]))], cMt v mo ft, cMr v mo (upd (upd (upd (upd fr (5 * k9 + 0) (nI 0)) (5 * k9 + 1) (nI 0)) (5 * k9 + 2) (nI 0)) (5 * k9 + 3) (nI 3))]) [0, 2, 1] rfl rfl ?_
    refine g_aload_n X dX7_readAssignment_43 1 rfl rfl ?_
    refine g_bipush (x := nI 43) X dX7_readAssignment_44 (by decide +kernel) ?_
    refine g_bipush (x := nI 43) X dX7_readAssignment_46 (by decide +kernel) ?_
    refine g_callV (As := [.int (nI 43), .int (nI 43)]) (rest := []) (wr := [cMr v mo (upd (upd (upd (upd fr (5 * k9 + 0) (nI 0)) (5 * k9 + 1) (nI 0)) (5 * k9 + 2) (nI 0)) (5 * k9 + 3) (nI 3))]) X (b_X7_isNext l v mo th sm ln (nI k9) fa dd ft p 43 43) f_X7_isNext q_14_16 dX7_readAssignment_48 [0, 1] [2] rfl rfl (by decide) 0 rfl rfl rfl rfl (Nat.le_of_ble_eq_true rfl) (by decide) (fun r_ w_ hp41 => ?_)
    obtain ⟨rfl, rfl⟩ := hp41
    show GG k _ _ [[((mo 0), .inr (7, [.int th, .ref (mo 1), .ref (mo 2), .int (nI sm), .ref (mo 3), .int (nI ln), .ref (mo 4), .int (nI k9), .int fa, .ref (mo 5), .ref (mo 6), .int (nI p), .int (nI 1), .long dd]))], cMt v mo ft, cMr v mo (upd (upd (upd (upd fr (5 * k9 + 0) (nI 0)) (5 * k9 + 1) (nI 0)) (5 * k9 + 2) (nI 0)) (5 * k9 + 3) (nI 3))] _ _ [.int (nI 0)]
    refine g_istore_n (lv' := [(2, .int (nI 0)), (1, .int (nI 0)), (0, .ref (mo 0))]) X dX7_readAssignment_51 rfl (by decide) rfl ?_
    refine g_aload_n X dX7_readAssignment_52 2 rfl rfl ?_
    refine g_bipush (x := nI 45) X dX7_readAssignment_53 (by decide +kernel) ?_
    refine g_bipush (x := nI 45) X dX7_readAssignment_55 (by decide +kernel) ?_
    refine g_callV (As := [.int (nI 45), .int (nI 45)]) (rest := []) (wr := [cMr v mo (upd (upd (upd (upd fr (5 * k9 + 0) (nI 0)) (5 * k9 + 1) (nI 0)) (5 * k9 + 2) (nI 0)) (5 * k9 + 3) (nI 3))]) X (b_X7_isNext l v mo th sm ln (nI k9) fa dd ft p 45 45) f_X7_isNext q_14_16 dX7_readAssignment_57 [0, 1] [2] rfl rfl (by decide) 0 rfl rfl rfl rfl (Nat.le_of_ble_eq_true rfl) (by decide) (fun r_ w_ hp42 => ?_)
    obtain ⟨rfl, rfl⟩ := hp42
    show GG k _ _ [[((mo 0), .inr (7, [.int th, .ref (mo 1), .ref (mo 2), .int (nI sm), .ref (mo 3), .int (nI ln), .ref (mo 4), .int (nI k9), .int fa, .ref (mo 5), .ref (mo 6), .int (nI p), .int (nI 1), .long dd]))], cMt v mo ft, cMr v mo (upd (upd (upd (upd fr (5 * k9 + 0) (nI 0)) (5 * k9 + 1) (nI 0)) (5 * k9 + 2) (nI 0)) (5 * k9 + 3) (nI 3))] _ _ [.int (nI 0)]
    refine g_istore_n (lv' := [(3, .int (nI 0)), (2, .int (nI 0)), (1, .int (nI 0)), (0, .ref (mo 0))]) X dX7_readAssignment_60 rfl (by decide) rfl ?_
    refine g_aload_n X dX7_readAssignment_61 3 rfl rfl ?_
    refine g_dup X dX7_readAssignment_62 rfl ?_
    refine g_get X cb7 11 q_14_9 dX7_readAssignment_63 0 0 rfl rfl (by decide) rfl rfl ?_
    refine g_iload_n X dX7_readAssignment_66 1 rfl rfl ?_
    refine g_if_neN (tgt := 74) X dX7_readAssignment_67 (by decide) (by omega) (fun c67 => ?_) (fun c67 => ?_)
    · exact absurd rfl c67
    · refine g_iload_n X dX7_readAssignment_70 0 rfl rfl ?_
      refine g_if_eqN (tgt := 78) X dX7_readAssignment_71 (by decide) (by omega) (fun c71 => ?_) (fun c71 => ?_)
      · refine g_iconst (x := nI 0) X dX7_readAssignment_78 (by decide +kernel) ?_
        refine g_iaddN X dX7_readAssignment_79 ?_
        refine g_put (cs' := [[((mo 0), .inr (7, [.int th, .ref (mo 1), .ref (mo 2), .int (nI sm), .ref (mo 3), .int (nI ln), .ref (mo 4), .int (nI k9), .int fa, .ref (mo 5), .ref (mo 6), .int (nI (p + 0)), .int (nI 1), .long dd]))], cMt v mo ft, cMr v mo (upd (upd (upd (upd fr (5 * k9 + 0) (nI 0)) (5 * k9 + 1) (nI 0)) (5 * k9 + 2) (nI 0)) (5 * k9 + 3) (nI 3))]) X cb7 11 q_14_9 dX7_readAssignment_80 0 0 rfl rfl (by decide) rfl rfl (rfl) (rfl) (Nat.le_of_ble_eq_true rfl) rfl ?_
        refine g_aload_n X dX7_readAssignment_83 3 rfl rfl ?_
        refine g_iconst (x := nI 4) X dX7_readAssignment_84 (by decide +kernel) ?_
        refine g_iload_n X dX7_readAssignment_85 1 rfl rfl ?_
        refine g_if_eqN (tgt := 100) X dX7_readAssignment_86 (by decide) (by omega) (fun c86 => ?_) (fun c86 => ?_)
        · refine g_iload_n X dX7_readAssignment_100 0 rfl rfl ?_
          refine g_if_eqN (tgt := 116) X dX7_readAssignment_101 (by decide) (by omega) (fun c101 => ?_) (fun c101 => ?_)
          · refine g_iconst (x := nI 0) X dX7_readAssignment_116 (by decide +kernel) ?_
            refine g_callV (As := [.int (nI 4), .int (nI 0)]) (rest := []) (wr := [cMt v mo ft]) X (c_X7_puts l v mo th sm ln fa (nI (p + 0)) (nI 1) dd k9 4 (nI 0) (upd (upd (upd (upd fr (5 * k9 + 0) (nI 0)) (5 * k9 + 1) (nI 0)) (5 * k9 + 2) (nI 0)) (5 * k9 + 3) (nI 3)) (by omega) (by omega)) f_X7_puts q_15_3 dX7_readAssignment_117 [0, 2] [1] rfl rfl (by decide) 0 rfl rfl rfl rfl (Nat.le_of_ble_eq_true rfl) (by decide) (fun r_ w_ hp43 => ?_)
            subst hp43
            show GG k _ _ [[((mo 0), .inr (7, [.int th, .ref (mo 1), .ref (mo 2), .int (nI sm), .ref (mo 3), .int (nI ln), .ref (mo 4), .int (nI k9), .int fa, .ref (mo 5), .ref (mo 6), .int (nI (p + 0)), .int (nI 1), .long dd]))], cMr v mo (upd (upd (upd (upd (upd fr (5 * k9 + 0) (nI 0)) (5 * k9 + 1) (nI 0)) (5 * k9 + 2) (nI 0)) (5 * k9 + 3) (nI 3)) (5 * k9 + 4) (nI 0)), cMt v mo ft] _ _ []
            refine g_pick (cs' := [[((mo 0), .inr (7, [.int th, .ref (mo 1), .ref (mo 2), .int (nI sm), .ref (mo 3), .int (nI ln), .ref (mo 4), .int (nI k9), .int fa, .ref (mo 5), .ref (mo 6), .int (nI (p + 0)), .int (nI 1), .long dd]))], cMt v mo ft, cMr v mo (upd (upd (upd (upd (upd fr (5 * k9 + 0) (nI 0)) (5 * k9 + 1) (nI 0)) (5 * k9 + 2) (nI 0)) (5 * k9 + 3) (nI 3)) (5 * k9 + 4) (nI 0))]) [0, 2, 1] rfl rfl ?_
            exact E dX7_readAssignment_120 (by decide) (by decide) (by have e : pStmt tx ln p = (none, p) := (by simp only [pStmt, if_neg h33, if_neg h63, vcl_n hv13]); rw [e]; dsimp only; exact ⟨_, (Blw_u (Blw_u (Blw_u (Blw_u (Blw_u Blw_0))))), rfl⟩)
          · exact absurd rfl c101
        · exact absurd rfl c86
      · exact absurd rfl c71

