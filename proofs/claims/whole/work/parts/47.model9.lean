/-! ## the model: reading a test -/
def sgx (s : Nat) : Nat := if s = 0 then 61 else if s = 1 then 60 else if s = 2 then 62 else 35
theorem scl_h {c : Nat} (h : 35 ≤ c ∧ c ≤ 35) : ∃ s, scl c = some s ∧ sgx s = c := by
  obtain rfl : c = 35 := by omega
  exact ⟨3, rfl, rfl⟩
theorem scl_c {c : Nat} (h : 60 ≤ c ∧ c ≤ 62) : ∃ s, scl c = some s ∧ sgx s = c := by
  rcases (show c = 60 ∨ c = 61 ∨ c = 62 by omega) with rfl | rfl | rfl
  · exact ⟨1, rfl, rfl⟩
  · exact ⟨0, rfl, rfl⟩
  · exact ⟨2, rfl, rfl⟩
theorem scl_n {c : Nat} (h1 : ¬ (35 ≤ c ∧ c ≤ 35)) (h2 : ¬ (60 ≤ c ∧ c ≤ 62)) : scl c = none := by
  unfold scl
  rw [if_neg (by omega), if_neg (by omega), if_neg (by omega), if_neg (by omega)]
/-- rows below the k-th are kept -/
def Blw (k : Nat) (f f' : Nat → Int32) : Prop := ∀ m, m < 5 * k → f' m = f m
theorem Blw_0 {k : Nat} {f : Nat → Int32} : Blw k f f := fun _ _ => rfl
theorem Blw_u {k u : Nat} {f f' : Nat → Int32} {x : Int32} (h : Blw k f f') : Blw k f (upd f' (5 * k + u) x) := fun m hm => (pk_un (by omega)).trans (h m hm)

set_option maxHeartbeats 4000000 in
set_option maxRecDepth 100000 in
theorem c_X7_readTest (l : Launch) (v : VV) (mo : Nat → Nat) (th : Int32) (sm : Nat) (ln : Nat) (fa : Int32) (dd : Int64) (tx : Nat → Nat) (ft : Nat → Int32) (fr : Nat → Int32) (p : Nat) (k9 : Nat) (hT : TxR tx ln ft) (hk : k9 < 12) (hp : p ≤ 90) : MU l v yX7_readTest cX7_readTest 2 none ({ frames := 4, cells := 0, slots := 0, locals := 88 }) [.ref (mo 0)] [[((mo 0), .inr (7, [.int th, .ref (mo 1), .ref (mo 2), .int (nI sm), .ref (mo 3), .int (nI ln), .ref (mo 4), .int (nI k9), .int fa, .ref (mo 5), .ref (mo 6), .int (nI p), .int (nI 0), .long dd]))], cMt v mo ft, cMr v mo fr] (fun _ w_ => match (pTest tx ln p).1 with | none => ∃ fr', Blw k9 fr fr' ∧ w_ = [[((mo 0), .inr (7, [.int th, .ref (mo 1), .ref (mo 2), .int (nI sm), .ref (mo 3), .int (nI ln), .ref (mo 4), .int (nI k9), .int fa, .ref (mo 5), .ref (mo 6), .int (nI ((pTest tx ln p).2)), .int (nI 1), .long dd]))], cMt v mo ft, cMr v mo fr'] | some x => w_ = [[((mo 0), .inr (7, [.int th, .ref (mo 1), .ref (mo 2), .int (nI sm), .ref (mo 3), .int (nI ln), .ref (mo 4), .int (nI k9), .int fa, .ref (mo 5), .ref (mo 6), .int (nI ((pTest tx ln p).2)), .int (nI 0), .long dd]))], cMt v mo ft, cMr v mo (upd (upd (upd fr (5 * k9 + 1) (nI x.1)) (5 * k9 + 2) (nI (sgx x.2.1))) (5 * k9 + 3) (nI (opm x.2.2)))]) 0 0 := by
  refine mm_void rfl (by decide) (Nat.le_of_ble_eq_true rfl) [(0, .ref (mo 0))] rfl (fun k X hin E => ?_)
  have hT1 := hT.1
  have hz0 := nxc_lt hT p
  refine g_aload_n X dX7_readTest_0 0 rfl rfl ?_
  refine g_iconst (x := nI 1) X dX7_readTest_1 (by decide +kernel) ?_
  refine g_aload_n X dX7_readTest_2 0 rfl rfl ?_
  refine g_bipush (x := nI 120) X dX7_readTest_3 (by decide +kernel) ?_
  refine g_bipush (x := nI 122) X dX7_readTest_5 (by decide +kernel) ?_
  refine g_callV (As := [.int (nI 120), .int (nI 122)]) (rest := [.int (nI 1), .ref (mo 0)]) (wr := [cMr v mo fr]) X (c_X7_takes l v mo th sm ln (nI k9) fa dd tx ft p 120 122 hT (by omega) (by omega) (by omega) (by omega)) f_X7_takes q_15_7 dX7_readTest_7 [0, 1] [2] rfl rfl (by decide) 0 rfl rfl rfl rfl (Nat.le_of_ble_eq_true rfl) (by decide) (fun r_ w_ hp2 => ?_)
  by_cases hv7 : 120 ≤ nxc tx ln p ∧ nxc tx ln p ≤ 122
  · have hp2q := hp2
    rw [if_pos hv7] at hp2
    have hz1 := nxc_lt hT p
    obtain ⟨rfl, rfl⟩ := hp2
    show GG k _ _ [[((mo 0), .inr (7, [.int th, .ref (mo 1), .ref (mo 2), .int (nI sm), .ref (mo 3), .int (nI ln), .ref (mo 4), .int (nI k9), .int fa, .ref (mo 5), .ref (mo 6), .int (nI (p + 1)), .int (nI 0), .long dd]))], cMt v mo ft, cMr v mo fr] _ _ [.int (nI (nxc tx ln p - 120)), .int (nI 1), .ref (mo 0)]
    refine g_callV (As := [.int (nI 1), .int (nI (nxc tx ln p - 120))]) (rest := []) (wr := [cMt v mo ft]) X (c_X7_puts l v mo th sm ln fa (nI (p + 1)) (nI 0) dd k9 1 (nI (nxc tx ln p - 120)) fr (by omega) (by omega)) f_X7_puts q_15_3 dX7_readTest_10 [0, 2] [1] rfl rfl (by decide) 0 rfl rfl rfl rfl (Nat.le_of_ble_eq_true rfl) (by decide) (fun r_ w_ hp3 => ?_)
    subst hp3
    show GG k _ _ [[((mo 0), .inr (7, [.int th, .ref (mo 1), .ref (mo 2), .int (nI sm), .ref (mo 3), .int (nI ln), .ref (mo 4), .int (nI k9), .int fa, .ref (mo 5), .ref (mo 6), .int (nI (p + 1)), .int (nI 0), .long dd]))], cMr v mo (upd fr (5 * k9 + 1) (nI (nxc tx ln p - 120))), cMt v mo ft] _ _ []
    refine g_pick (cs' := [[((mo 0), .inr (7, [.int th, .ref (mo 1), .ref (mo 2), .int (nI sm), .ref (mo 3), .int (nI ln), .ref (mo 4), .int (nI k9), .int fa, .ref (mo 5), .ref (mo 6), .int (nI (p + 1)), .int (nI 0), .long dd]))], cMt v mo ft, cMr v mo (upd fr (5 * k9 + 1) (nI (nxc tx ln p - 120)))]) [0, 2, 1] rfl rfl ?_
    refine g_aload_n X dX7_readTest_13 0 rfl rfl ?_
    refine g_bipush (x := nI 35) X dX7_readTest_14 (by decide +kernel) ?_
    refine g_bipush (x := nI 35) X dX7_readTest_16 (by decide +kernel) ?_
    refine g_callV (As := [.int (nI 35), .int (nI 35)]) (rest := []) (wr := [cMr v mo (upd fr (5 * k9 + 1) (nI (nxc tx ln p - 120)))]) X (nx_s l v mo th sm ln (nI k9) fa dd tx ft (p + 1) 35 35 hT (by omega) (by omega) (by omega) (by omega)) f_X7_isNext q_14_16 dX7_readTest_18 [0, 1] [2] rfl rfl (by decide) 0 rfl rfl rfl rfl (Nat.le_of_ble_eq_true rfl) (by decide) (fun r_ w_ hp4 => ?_)
    by_cases hv18 : 35 ≤ nxc tx ln (p + 1) ∧ nxc tx ln (p + 1) ≤ 35
    · have hp4q := hp4
      rw [if_pos hv18] at hp4
      obtain ⟨rfl, rfl⟩ := hp4
      show GG k _ _ [[((mo 0), .inr (7, [.int th, .ref (mo 1), .ref (mo 2), .int (nI sm), .ref (mo 3), .int (nI ln), .ref (mo 4), .int (nI k9), .int fa, .ref (mo 5), .ref (mo 6), .int (nI (p + 1)), .int (nI 0), .long dd]))], cMt v mo ft, cMr v mo (upd fr (5 * k9 + 1) (nI (nxc tx ln p - 120)))] _ _ [.int (nI 1)]
      refine g_if_neN (tgt := 35) X dX7_readTest_21 (by decide) (by omega) (fun c21 => ?_) (fun c21 => ?_)
      · refine g_aload_n X dX7_readTest_35 0 rfl rfl ?_
        have hpl := nxc_pos (tx := tx) (len := ln) (p := p + 1) (by omega)
        refine g_get X cb7 4 q_4_20 dX7_readTest_36 0 0 rfl rfl (by decide) rfl rfl ?_
        refine g_aload_n X dX7_readTest_39 0 rfl rfl ?_
        refine g_get X cb7 11 q_14_9 dX7_readTest_40 0 0 rfl rfl (by decide) rfl rfl ?_
        refine g_iald X dX7_readTest_43 1 0 rfl rfl (by omega) (by omega) ?_
        refine g_v (y := nI (nxc tx ln (p + 1))) (by rw [nxc_in hpl]; exact (hT.2 _ hpl).1) ?_
        have hz9 := nxc_lt hT (p + 1)
        refine g_goto (tgt := 48) X dX7_readTest_44 (by decide) ?_
        obtain ⟨s9, hs1, hs2⟩ := scl_h hv18
        refine g_istore_n (lv' := [(1, .int (nI (nxc tx ln (p + 1)))), (0, .ref (mo 0))]) X dX7_readTest_48 rfl (by decide) rfl ?_
        refine g_aload_n X dX7_readTest_49 1 rfl rfl ?_
        refine g_aload_n X dX7_readTest_50 1 rfl rfl ?_
        refine g_get X cb7 12 q_14_10 dX7_readTest_51 0 0 rfl rfl (by decide) rfl rfl ?_
        refine g_if_neN (tgt := 61) X dX7_readTest_54 (by decide) (by omega) (fun c54 => ?_) (fun c54 => ?_)
        · exact absurd rfl c54
        · refine g_iload_n X dX7_readTest_57 0 rfl rfl ?_
          refine g_if_neN (tgt := 65) X dX7_readTest_58 (by decide) (by omega) (fun c58 => ?_) (fun c58 => ?_)
          · refine g_iconst (x := nI 0) X dX7_readTest_65 (by decide +kernel) ?_
            refine g_put (cs' := [[((mo 0), .inr (7, [.int th, .ref (mo 1), .ref (mo 2), .int (nI sm), .ref (mo 3), .int (nI ln), .ref (mo 4), .int (nI k9), .int fa, .ref (mo 5), .ref (mo 6), .int (nI (p + 1)), .int (nI 0), .long dd]))], cMt v mo ft, cMr v mo (upd fr (5 * k9 + 1) (nI (nxc tx ln p - 120)))]) X cb7 12 q_14_10 dX7_readTest_66 0 0 rfl rfl (by decide) rfl rfl (rfl) (rfl) (Nat.le_of_ble_eq_true rfl) rfl ?_
            refine g_aload_n X dX7_readTest_69 1 rfl rfl ?_
            refine g_dup X dX7_readTest_70 rfl ?_
            refine g_get X cb7 11 q_14_9 dX7_readTest_71 0 0 rfl rfl (by decide) rfl rfl ?_
            refine g_aload_n X dX7_readTest_74 1 rfl rfl ?_
            refine g_get X cb7 12 q_14_10 dX7_readTest_75 0 0 rfl rfl (by decide) rfl rfl ?_
            refine g_if_eqN (tgt := 85) X dX7_readTest_78 (by decide) (by omega) (fun c78 => ?_) (fun c78 => ?_)
            · refine g_iconst (x := nI 1) X dX7_readTest_85 (by decide +kernel) ?_
              refine g_iaddN X dX7_readTest_86 ?_
              refine g_put (cs' := [[((mo 0), .inr (7, [.int th, .ref (mo 1), .ref (mo 2), .int (nI sm), .ref (mo 3), .int (nI ln), .ref (mo 4), .int (nI k9), .int fa, .ref (mo 5), .ref (mo 6), .int (nI ((p + 1) + 1)), .int (nI 0), .long dd]))], cMt v mo ft, cMr v mo (upd fr (5 * k9 + 1) (nI (nxc tx ln p - 120)))]) X cb7 11 q_14_9 dX7_readTest_87 0 0 rfl rfl (by decide) rfl rfl (rfl) (rfl) (Nat.le_of_ble_eq_true rfl) rfl ?_
              refine g_aload_n X dX7_readTest_90 1 rfl rfl ?_
              refine g_iconst (x := nI 2) X dX7_readTest_91 (by decide +kernel) ?_
              refine g_iload_n X dX7_readTest_92 0 rfl rfl ?_
              refine g_callV (As := [.int (nI 2), .int (nI (nxc tx ln (p + 1)))]) (rest := []) (wr := [cMt v mo ft]) X (c_X7_puts l v mo th sm ln fa (nI ((p + 1) + 1)) (nI 0) dd k9 2 (nI (nxc tx ln (p + 1))) (upd fr (5 * k9 + 1) (nI (nxc tx ln p - 120))) (by omega) (by omega)) f_X7_puts q_15_3 dX7_readTest_93 [0, 2] [1] rfl rfl (by decide) 0 rfl rfl rfl rfl (Nat.le_of_ble_eq_true rfl) (by decide) (fun r_ w_ hp5 => ?_)
              subst hp5
              show GG k _ _ [[((mo 0), .inr (7, [.int th, .ref (mo 1), .ref (mo 2), .int (nI sm), .ref (mo 3), .int (nI ln), .ref (mo 4), .int (nI k9), .int fa, .ref (mo 5), .ref (mo 6), .int (nI ((p + 1) + 1)), .int (nI 0), .long dd]))], cMr v mo (upd (upd fr (5 * k9 + 1) (nI (nxc tx ln p - 120))) (5 * k9 + 2) (nI (nxc tx ln (p + 1)))), cMt v mo ft] _ _ []
              refine g_pick (cs' := [[((mo 0), .inr (7, [.int th, .ref (mo 1), .ref (mo 2), .int (nI sm), .ref (mo 3), .int (nI ln), .ref (mo 4), .int (nI k9), .int fa, .ref (mo 5), .ref (mo 6), .int (nI ((p + 1) + 1)), .int (nI 0), .long dd]))], cMt v mo ft, cMr v mo (upd (upd fr (5 * k9 + 1) (nI (nxc tx ln p - 120))) (5 * k9 + 2) (nI (nxc tx ln (p + 1))))]) [0, 2, 1] rfl rfl ?_
              refine g_aload_n X dX7_readTest_96 1 rfl rfl ?_
              refine g_iconst (x := nI 3) X dX7_readTest_97 (by decide +kernel) ?_
              refine g_aload_n X dX7_readTest_98 1 rfl rfl ?_
              refine g_callV (As := []) (rest := [.int (nI 3), .ref (mo 0)]) (wr := [cMr v mo (upd (upd fr (5 * k9 + 1) (nI (nxc tx ln p - 120))) (5 * k9 + 2) (nI (nxc tx ln (p + 1))))]) X (c_X7_readOperand l v mo th sm ln (nI k9) fa dd tx ft ((p + 1) + 1) hT (by omega)) f_X7_readOperand q_15_11 dX7_readTest_99 [0, 1] [2] rfl rfl (by decide) 0 rfl rfl rfl rfl (Nat.le_of_ble_eq_true rfl) (by decide) (fun r_ w_ hp6 => ?_)
              cases hv99 : ocl (nxc tx ln ((p + 1) + 1)) with
              | none =>
                have hp6q := hp6
                rw [hv99] at hp6
                obtain ⟨rfl, rfl⟩ := hp6
                show GG k _ _ [[((mo 0), .inr (7, [.int th, .ref (mo 1), .ref (mo 2), .int (nI sm), .ref (mo 3), .int (nI ln), .ref (mo 4), .int (nI k9), .int fa, .ref (mo 5), .ref (mo 6), .int (nI ((p + 1) + 1)), .int (nI 1), .long dd]))], cMt v mo ft, cMr v mo (upd (upd fr (5 * k9 + 1) (nI (nxc tx ln p - 120))) (5 * k9 + 2) (nI (nxc tx ln (p + 1))))] _ _ [.int (nI 3), .int (nI 3), .ref (mo 0)]
                refine g_callV (As := [.int (nI 3), .int (nI 3)]) (rest := []) (wr := [cMt v mo ft]) X (c_X7_puts l v mo th sm ln fa (nI ((p + 1) + 1)) (nI 1) dd k9 3 (nI 3) (upd (upd fr (5 * k9 + 1) (nI (nxc tx ln p - 120))) (5 * k9 + 2) (nI (nxc tx ln (p + 1)))) (by omega) (by omega)) f_X7_puts q_15_3 dX7_readTest_102 [0, 2] [1] rfl rfl (by decide) 0 rfl rfl rfl rfl (Nat.le_of_ble_eq_true rfl) (by decide) (fun r_ w_ hp7 => ?_)
                subst hp7
                show GG k _ _ [[((mo 0), .inr (7, [.int th, .ref (mo 1), .ref (mo 2), .int (nI sm), .ref (mo 3), .int (nI ln), .ref (mo 4), .int (nI k9), .int fa, .ref (mo 5), .ref (mo 6), .int (nI ((p + 1) + 1)), .int (nI 1), .long dd]))], cMr v mo (upd (upd (upd fr (5 * k9 + 1) (nI (nxc tx ln p - 120))) (5 * k9 + 2) (nI (nxc tx ln (p + 1)))) (5 * k9 + 3) (nI 3)), cMt v mo ft] _ _ []
                refine g_pick (cs' := [[((mo 0), .inr (7, [.int th, .ref (mo 1), .ref (mo 2), .int (nI sm), .ref (mo 3), .int (nI ln), .ref (mo 4), .int (nI k9), .int fa, .ref (mo 5), .ref (mo 6), .int (nI ((p + 1) + 1)), .int (nI 1), .long dd]))], cMt v mo ft, cMr v mo (upd (upd (upd fr (5 * k9 + 1) (nI (nxc tx ln p - 120))) (5 * k9 + 2) (nI (nxc tx ln (p + 1)))) (5 * k9 + 3) (nI 3))]) [0, 2, 1] rfl rfl ?_
                exact E dX7_readTest_105 (by decide) (by decide) (by have e : pTest tx ln p = (none, p + 1 + 1) := (by simp only [pTest, vcl_x hv7, hs1, hv99]); rw [e]; dsimp only; exact ⟨_, (Blw_u (Blw_u (Blw_u Blw_0))), rfl⟩)
              | some ahv99 =>
                have hp6q := hp6
                rw [hv99] at hp6
                have hlhv99 := ocl_lt hv99
                obtain ⟨rfl, rfl⟩ := hp6
                show GG k _ _ [[((mo 0), .inr (7, [.int th, .ref (mo 1), .ref (mo 2), .int (nI sm), .ref (mo 3), .int (nI ln), .ref (mo 4), .int (nI k9), .int fa, .ref (mo 5), .ref (mo 6), .int (nI ((p + 1) + 1 + 1)), .int (nI 0), .long dd]))], cMt v mo ft, cMr v mo (upd (upd fr (5 * k9 + 1) (nI (nxc tx ln p - 120))) (5 * k9 + 2) (nI (nxc tx ln (p + 1))))] _ _ [.int (nI (opm ahv99)), .int (nI 3), .ref (mo 0)]
                refine g_callV (As := [.int (nI 3), .int (nI (opm ahv99))]) (rest := []) (wr := [cMt v mo ft]) X (c_X7_puts l v mo th sm ln fa (nI ((p + 1) + 1 + 1)) (nI 0) dd k9 3 (nI (opm ahv99)) (upd (upd fr (5 * k9 + 1) (nI (nxc tx ln p - 120))) (5 * k9 + 2) (nI (nxc tx ln (p + 1)))) (by omega) (by omega)) f_X7_puts q_15_3 dX7_readTest_102 [0, 2] [1] rfl rfl (by decide) 0 rfl rfl rfl rfl (Nat.le_of_ble_eq_true rfl) (by decide) (fun r_ w_ hp8 => ?_)
                subst hp8
                show GG k _ _ [[((mo 0), .inr (7, [.int th, .ref (mo 1), .ref (mo 2), .int (nI sm), .ref (mo 3), .int (nI ln), .ref (mo 4), .int (nI k9), .int fa, .ref (mo 5), .ref (mo 6), .int (nI ((p + 1) + 1 + 1)), .int (nI 0), .long dd]))], cMr v mo (upd (upd (upd fr (5 * k9 + 1) (nI (nxc tx ln p - 120))) (5 * k9 + 2) (nI (nxc tx ln (p + 1)))) (5 * k9 + 3) (nI (opm ahv99))), cMt v mo ft] _ _ []
                refine g_pick (cs' := [[((mo 0), .inr (7, [.int th, .ref (mo 1), .ref (mo 2), .int (nI sm), .ref (mo 3), .int (nI ln), .ref (mo 4), .int (nI k9), .int fa, .ref (mo 5), .ref (mo 6), .int (nI ((p + 1) + 1 + 1)), .int (nI 0), .long dd]))], cMt v mo ft, cMr v mo (upd (upd (upd fr (5 * k9 + 1) (nI (nxc tx ln p - 120))) (5 * k9 + 2) (nI (nxc tx ln (p + 1)))) (5 * k9 + 3) (nI (opm ahv99)))]) [0, 2, 1] rfl rfl ?_
                exact E dX7_readTest_105 (by decide) (by decide) (by have e : pTest tx ln p = (some (nxc tx ln p - 120, s9, ahv99), p + 1 + 1 + 1) := (by simp only [pTest, vcl_x hv7, hs1, hv99]); rw [e]; dsimp only; rw [hs2])
            · exact absurd rfl c78
          · omega
      · exact absurd c21 (by decide)
    · have hp4q := hp4
      rw [if_neg hv18] at hp4
      obtain ⟨rfl, rfl⟩ := hp4
      show GG k _ _ [[((mo 0), .inr (7, [.int th, .ref (mo 1), .ref (mo 2), .int (nI sm), .ref (mo 3), .int (nI ln), .ref (mo 4), .int (nI k9), .int fa, .ref (mo 5), .ref (mo 6), .int (nI (p + 1)), .int (nI 0), .long dd]))], cMt v mo ft, cMr v mo (upd fr (5 * k9 + 1) (nI (nxc tx ln p - 120)))] _ _ [.int (nI 0)]
      refine g_if_neN (tgt := 35) X dX7_readTest_21 (by decide) (by omega) (fun c21 => ?_) (fun c21 => ?_)
      · exact absurd rfl c21
      · refine g_aload_n X dX7_readTest_24 0 rfl rfl ?_
        refine g_bipush (x := nI 60) X dX7_readTest_25 (by decide +kernel) ?_
        refine g_bipush (x := nI 62) X dX7_readTest_27 (by decide +kernel) ?_
        refine g_callV (As := [.int (nI 60), .int (nI 62)]) (rest := []) (wr := [cMr v mo (upd fr (5 * k9 + 1) (nI (nxc tx ln p - 120)))]) X (nx_s l v mo th sm ln (nI k9) fa dd tx ft (p + 1) 60 62 hT (by omega) (by omega) (by omega) (by omega)) f_X7_isNext q_14_16 dX7_readTest_29 [0, 1] [2] rfl rfl (by decide) 0 rfl rfl rfl rfl (Nat.le_of_ble_eq_true rfl) (by decide) (fun r_ w_ hp9 => ?_)
        by_cases hv29 : 60 ≤ nxc tx ln (p + 1) ∧ nxc tx ln (p + 1) ≤ 62
        · have hp9q := hp9
          rw [if_pos hv29] at hp9
          obtain ⟨rfl, rfl⟩ := hp9
          show GG k _ _ [[((mo 0), .inr (7, [.int th, .ref (mo 1), .ref (mo 2), .int (nI sm), .ref (mo 3), .int (nI ln), .ref (mo 4), .int (nI k9), .int fa, .ref (mo 5), .ref (mo 6), .int (nI (p + 1)), .int (nI 0), .long dd]))], cMt v mo ft, cMr v mo (upd fr (5 * k9 + 1) (nI (nxc tx ln p - 120)))] _ _ [.int (nI 1)]
          refine g_if_eqN (tgt := 47) X dX7_readTest_32 (by decide) (by omega) (fun c32 => ?_) (fun c32 => ?_)
          · exact absurd c32 (by decide)
          · refine g_aload_n X dX7_readTest_35 0 rfl rfl ?_
            have hpl := nxc_pos (tx := tx) (len := ln) (p := p + 1) (by omega)
            refine g_get X cb7 4 q_4_20 dX7_readTest_36 0 0 rfl rfl (by decide) rfl rfl ?_
            refine g_aload_n X dX7_readTest_39 0 rfl rfl ?_
            refine g_get X cb7 11 q_14_9 dX7_readTest_40 0 0 rfl rfl (by decide) rfl rfl ?_
            refine g_iald X dX7_readTest_43 1 0 rfl rfl (by omega) (by omega) ?_
            refine g_v (y := nI (nxc tx ln (p + 1))) (by rw [nxc_in hpl]; exact (hT.2 _ hpl).1) ?_
            have hz9 := nxc_lt hT (p + 1)
            refine g_goto (tgt := 48) X dX7_readTest_44 (by decide) ?_
            obtain ⟨s9, hs1, hs2⟩ := scl_c hv29
            refine g_istore_n (lv' := [(1, .int (nI (nxc tx ln (p + 1)))), (0, .ref (mo 0))]) X dX7_readTest_48 rfl (by decide) rfl ?_
            refine g_aload_n X dX7_readTest_49 1 rfl rfl ?_
            refine g_aload_n X dX7_readTest_50 1 rfl rfl ?_
            refine g_get X cb7 12 q_14_10 dX7_readTest_51 0 0 rfl rfl (by decide) rfl rfl ?_
            refine g_if_neN (tgt := 61) X dX7_readTest_54 (by decide) (by omega) (fun c54 => ?_) (fun c54 => ?_)
            · exact absurd rfl c54
            · refine g_iload_n X dX7_readTest_57 0 rfl rfl ?_
              refine g_if_neN (tgt := 65) X dX7_readTest_58 (by decide) (by omega) (fun c58 => ?_) (fun c58 => ?_)
              · refine g_iconst (x := nI 0) X dX7_readTest_65 (by decide +kernel) ?_
                refine g_put (cs' := [[((mo 0), .inr (7, [.int th, .ref (mo 1), .ref (mo 2), .int (nI sm), .ref (mo 3), .int (nI ln), .ref (mo 4), .int (nI k9), .int fa, .ref (mo 5), .ref (mo 6), .int (nI (p + 1)), .int (nI 0), .long dd]))], cMt v mo ft, cMr v mo (upd fr (5 * k9 + 1) (nI (nxc tx ln p - 120)))]) X cb7 12 q_14_10 dX7_readTest_66 0 0 rfl rfl (by decide) rfl rfl (rfl) (rfl) (Nat.le_of_ble_eq_true rfl) rfl ?_
                refine g_aload_n X dX7_readTest_69 1 rfl rfl ?_
                refine g_dup X dX7_readTest_70 rfl ?_
                refine g_get X cb7 11 q_14_9 dX7_readTest_71 0 0 rfl rfl (by decide) rfl rfl ?_
                refine g_aload_n X dX7_readTest_74 1 rfl rfl ?_
                refine g_get X cb7 12 q_14_10 dX7_readTest_75 0 0 rfl rfl (by decide) rfl rfl ?_
                refine g_if_eqN (tgt := 85) X dX7_readTest_78 (by decide) (by omega) (fun c78 => ?_) (fun c78 => ?_)
                · refine g_iconst (x := nI 1) X dX7_readTest_85 (by decide +kernel) ?_
                  refine g_iaddN X dX7_readTest_86 ?_
                  refine g_put (cs' := [[((mo 0), .inr (7, [.int th, .ref (mo 1), .ref (mo 2), .int (nI sm), .ref (mo 3), .int (nI ln), .ref (mo 4), .int (nI k9), .int fa, .ref (mo 5), .ref (mo 6), .int (nI ((p + 1) + 1)), .int (nI 0), .long dd]))], cMt v mo ft, cMr v mo (upd fr (5 * k9 + 1) (nI (nxc tx ln p - 120)))]) X cb7 11 q_14_9 dX7_readTest_87 0 0 rfl rfl (by decide) rfl rfl (rfl) (rfl) (Nat.le_of_ble_eq_true rfl) rfl ?_
                  refine g_aload_n X dX7_readTest_90 1 rfl rfl ?_
                  refine g_iconst (x := nI 2) X dX7_readTest_91 (by decide +kernel) ?_
                  refine g_iload_n X dX7_readTest_92 0 rfl rfl ?_
                  refine g_callV (As := [.int (nI 2), .int (nI (nxc tx ln (p + 1)))]) (rest := []) (wr := [cMt v mo ft]) X (c_X7_puts l v mo th sm ln fa (nI ((p + 1) + 1)) (nI 0) dd k9 2 (nI (nxc tx ln (p + 1))) (upd fr (5 * k9 + 1) (nI (nxc tx ln p - 120))) (by omega) (by omega)) f_X7_puts q_15_3 dX7_readTest_93 [0, 2] [1] rfl rfl (by decide) 0 rfl rfl rfl rfl (Nat.le_of_ble_eq_true rfl) (by decide) (fun r_ w_ hp10 => ?_)
                  subst hp10
                  show GG k _ _ [[((mo 0), .inr (7, [.int th, .ref (mo 1), .ref (mo 2), .int (nI sm), .ref (mo 3), .int (nI ln), .ref (mo 4), .int (nI k9), .int fa, .ref (mo 5), .ref (mo 6), .int (nI ((p + 1) + 1)), .int (nI 0), .long dd]))], cMr v mo (upd (upd fr (5 * k9 + 1) (nI (nxc tx ln p - 120))) (5 * k9 + 2) (nI (nxc tx ln (p + 1)))), cMt v mo ft] _ _ []
                  refine g_pick (cs' := [[((mo 0), .inr (7, [.int th, .ref (mo 1), .ref (mo 2), .int (nI sm), .ref (mo 3), .int (nI ln), .ref (mo 4), .int (nI k9), .int fa, .ref (mo 5), .ref (mo 6), .int (nI ((p + 1) + 1)), .int (nI 0), .long dd]))], cMt v mo ft, cMr v mo (upd (upd fr (5 * k9 + 1) (nI (nxc tx ln p - 120))) (5 * k9 + 2) (nI (nxc tx ln (p + 1))))]) [0, 2, 1] rfl rfl ?_
                  refine g_aload_n X dX7_readTest_96 1 rfl rfl ?_
                  refine g_iconst (x := nI 3) X dX7_readTest_97 (by decide +kernel) ?_
                  refine g_aload_n X dX7_readTest_98 1 rfl rfl ?_
                  refine g_callV (As := []) (rest := [.int (nI 3), .ref (mo 0)]) (wr := [cMr v mo (upd (upd fr (5 * k9 + 1) (nI (nxc tx ln p - 120))) (5 * k9 + 2) (nI (nxc tx ln (p + 1))))]) X (c_X7_readOperand l v mo th sm ln (nI k9) fa dd tx ft ((p + 1) + 1) hT (by omega)) f_X7_readOperand q_15_11 dX7_readTest_99 [0, 1] [2] rfl rfl (by decide) 0 rfl rfl rfl rfl (Nat.le_of_ble_eq_true rfl) (by decide) (fun r_ w_ hp11 => ?_)
                  cases hv99 : ocl (nxc tx ln ((p + 1) + 1)) with
                  | none =>
                    have hp11q := hp11
                    rw [hv99] at hp11
                    obtain ⟨rfl, rfl⟩ := hp11
                    show GG k _ _ [[((mo 0), .inr (7, [.int th, .ref (mo 1), .ref (mo 2), .int (nI sm), .ref (mo 3), .int (nI ln), .ref (mo 4), .int (nI k9), .int fa, .ref (mo 5), .ref (mo 6), .int (nI ((p + 1) + 1)), .int (nI 1), .long dd]))], cMt v mo ft, cMr v mo (upd (upd fr (5 * k9 + 1) (nI (nxc tx ln p - 120))) (5 * k9 + 2) (nI (nxc tx ln (p + 1))))] _ _ [.int (nI 3), .int (nI 3), .ref (mo 0)]
                    refine g_callV (As := [.int (nI 3), .int (nI 3)]) (rest := []) (wr := [cMt v mo ft]) X (c_X7_puts l v mo th sm ln fa (nI ((p + 1) + 1)) (nI 1) dd k9 3 (nI 3) (upd (upd fr (5 * k9 + 1) (nI (nxc tx ln p - 120))) (5 * k9 + 2) (nI (nxc tx ln (p + 1)))) (by omega) (by omega)) f_X7_puts q_15_3 dX7_readTest_102 [0, 2] [1] rfl rfl (by decide) 0 rfl rfl rfl rfl (Nat.le_of_ble_eq_true rfl) (by decide) (fun r_ w_ hp12 => ?_)
                    subst hp12
                    show GG k _ _ [[((mo 0), .inr (7, [.int th, .ref (mo 1), .ref (mo 2), .int (nI sm), .ref (mo 3), .int (nI ln), .ref (mo 4), .int (nI k9), .int fa, .ref (mo 5), .ref (mo 6), .int (nI ((p + 1) + 1)), .int (nI 1), .long dd]))], cMr v mo (upd (upd (upd fr (5 * k9 + 1) (nI (nxc tx ln p - 120))) (5 * k9 + 2) (nI (nxc tx ln (p + 1)))) (5 * k9 + 3) (nI 3)), cMt v mo ft] _ _ []
                    refine g_pick (cs' := [[((mo 0), .inr (7, [.int th, .ref (mo 1), .ref (mo 2), .int (nI sm), .ref (mo 3), .int (nI ln), .ref (mo 4), .int (nI k9), .int fa, .ref (mo 5), .ref (mo 6), .int (nI ((p + 1) + 1)), .int (nI 1), .long dd]))], cMt v mo ft, cMr v mo (upd (upd (upd fr (5 * k9 + 1) (nI (nxc tx ln p - 120))) (5 * k9 + 2) (nI (nxc tx ln (p + 1)))) (5 * k9 + 3) (nI 3))]) [0, 2, 1] rfl rfl ?_
                    exact E dX7_readTest_105 (by decide) (by decide) (by have e : pTest tx ln p = (none, p + 1 + 1) := (by simp only [pTest, vcl_x hv7, hs1, hv99]); rw [e]; dsimp only; exact ⟨_, (Blw_u (Blw_u (Blw_u Blw_0))), rfl⟩)
                  | some ahv99 =>
                    have hp11q := hp11
                    rw [hv99] at hp11
                    have hlhv99 := ocl_lt hv99
                    obtain ⟨rfl, rfl⟩ := hp11
                    show GG k _ _ [[((mo 0), .inr (7, [.int th, .ref (mo 1), .ref (mo 2), .int (nI sm), .ref (mo 3), .int (nI ln), .ref (mo 4), .int (nI k9), .int fa, .ref (mo 5), .ref (mo 6), .int (nI ((p + 1) + 1 + 1)), .int (nI 0), .long dd]))], cMt v mo ft, cMr v mo (upd (upd fr (5 * k9 + 1) (nI (nxc tx ln p - 120))) (5 * k9 + 2) (nI (nxc tx ln (p + 1))))] _ _ [.int (nI (opm ahv99)), .int (nI 3), .ref (mo 0)]
                    refine g_callV (As := [.int (nI 3), .int (nI (opm ahv99))]) (rest := []) (wr := [cMt v mo ft]) X (c_X7_puts l v mo th sm ln fa (nI ((p + 1) + 1 + 1)) (nI 0) dd k9 3 (nI (opm ahv99)) (upd (upd fr (5 * k9 + 1) (nI (nxc tx ln p - 120))) (5 * k9 + 2) (nI (nxc tx ln (p + 1)))) (by omega) (by omega)) f_X7_puts q_15_3 dX7_readTest_102 [0, 2] [1] rfl rfl (by decide) 0 rfl rfl rfl rfl (Nat.le_of_ble_eq_true rfl) (by decide) (fun r_ w_ hp13 => ?_)
                    subst hp13
                    show GG k _ _ [[((mo 0), .inr (7, [.int th, .ref (mo 1), .ref (mo 2), .int (nI sm), .ref (mo 3), .int (nI ln), .ref (mo 4), .int (nI k9), .int fa, .ref (mo 5), .ref (mo 6), .int (nI ((p + 1) + 1 + 1)), .int (nI 0), .long dd]))], cMr v mo (upd (upd (upd fr (5 * k9 + 1) (nI (nxc tx ln p - 120))) (5 * k9 + 2) (nI (nxc tx ln (p + 1)))) (5 * k9 + 3) (nI (opm ahv99))), cMt v mo ft] _ _ []
                    refine g_pick (cs' := [[((mo 0), .inr (7, [.int th, .ref (mo 1), .ref (mo 2), .int (nI sm), .ref (mo 3), .int (nI ln), .ref (mo 4), .int (nI k9), .int fa, .ref (mo 5), .ref (mo 6), .int (nI ((p + 1) + 1 + 1)), .int (nI 0), .long dd]))], cMt v mo ft, cMr v mo (upd (upd (upd fr (5 * k9 + 1) (nI (nxc tx ln p - 120))) (5 * k9 + 2) (nI (nxc tx ln (p + 1)))) (5 * k9 + 3) (nI (opm ahv99)))]) [0, 2, 1] rfl rfl ?_
                    exact E dX7_readTest_105 (by decide) (by decide) (by have e : pTest tx ln p = (some (nxc tx ln p - 120, s9, ahv99), p + 1 + 1 + 1) := (by simp only [pTest, vcl_x hv7, hs1, hv99]); rw [e]; dsimp only; rw [hs2])
                · exact absurd rfl c78
              · omega
        · have hp9q := hp9
          rw [if_neg hv29] at hp9
          obtain ⟨rfl, rfl⟩ := hp9
          show GG k _ _ [[((mo 0), .inr (7, [.int th, .ref (mo 1), .ref (mo 2), .int (nI sm), .ref (mo 3), .int (nI ln), .ref (mo 4), .int (nI k9), .int fa, .ref (mo 5), .ref (mo 6), .int (nI (p + 1)), .int (nI 0), .long dd]))], cMt v mo ft, cMr v mo (upd fr (5 * k9 + 1) (nI (nxc tx ln p - 120)))] _ _ [.int (nI 0)]
          refine g_if_eqN (tgt := 47) X dX7_readTest_32 (by decide) (by omega) (fun c32 => ?_) (fun c32 => ?_)
          · refine g_iconst (x := nI 0) X dX7_readTest_47 (by decide +kernel) ?_
            refine g_istore_n (lv' := [(1, .int (nI 0)), (0, .ref (mo 0))]) X dX7_readTest_48 rfl (by decide) rfl ?_
            refine g_aload_n X dX7_readTest_49 1 rfl rfl ?_
            refine g_aload_n X dX7_readTest_50 1 rfl rfl ?_
            refine g_get X cb7 12 q_14_10 dX7_readTest_51 0 0 rfl rfl (by decide) rfl rfl ?_
            refine g_if_neN (tgt := 61) X dX7_readTest_54 (by decide) (by omega) (fun c54 => ?_) (fun c54 => ?_)
            · exact absurd rfl c54
            · refine g_iload_n X dX7_readTest_57 0 rfl rfl ?_
              refine g_if_neN (tgt := 65) X dX7_readTest_58 (by decide) (by omega) (fun c58 => ?_) (fun c58 => ?_)
              · exact absurd rfl c58
              · refine g_iconst (x := nI 1) X dX7_readTest_61 (by decide +kernel) ?_
                refine g_goto (tgt := 66) X dX7_readTest_62 (by decide) ?_
                refine g_put (cs' := [[((mo 0), .inr (7, [.int th, .ref (mo 1), .ref (mo 2), .int (nI sm), .ref (mo 3), .int (nI ln), .ref (mo 4), .int (nI k9), .int fa, .ref (mo 5), .ref (mo 6), .int (nI (p + 1)), .int (nI 1), .long dd]))], cMt v mo ft, cMr v mo (upd fr (5 * k9 + 1) (nI (nxc tx ln p - 120)))]) X cb7 12 q_14_10 dX7_readTest_66 0 0 rfl rfl (by decide) rfl rfl (rfl) (rfl) (Nat.le_of_ble_eq_true rfl) rfl ?_
                refine g_aload_n X dX7_readTest_69 1 rfl rfl ?_
                refine g_dup X dX7_readTest_70 rfl ?_
                refine g_get X cb7 11 q_14_9 dX7_readTest_71 0 0 rfl rfl (by decide) rfl rfl ?_
                refine g_aload_n X dX7_readTest_74 1 rfl rfl ?_
                refine g_get X cb7 12 q_14_10 dX7_readTest_75 0 0 rfl rfl (by decide) rfl rfl ?_
                refine g_if_eqN (tgt := 85) X dX7_readTest_78 (by decide) (by omega) (fun c78 => ?_) (fun c78 => ?_)
                · exact absurd c78 (by decide)
                · refine g_iconst (x := nI 0) X dX7_readTest_81 (by decide +kernel) ?_
                  refine g_goto (tgt := 86) X dX7_readTest_82 (by decide) ?_
                  refine g_iaddN X dX7_readTest_86 ?_
                  refine g_put (cs' := [[((mo 0), .inr (7, [.int th, .ref (mo 1), .ref (mo 2), .int (nI sm), .ref (mo 3), .int (nI ln), .ref (mo 4), .int (nI k9), .int fa, .ref (mo 5), .ref (mo 6), .int (nI ((p + 1) + 0)), .int (nI 1), .long dd]))], cMt v mo ft, cMr v mo (upd fr (5 * k9 + 1) (nI (nxc tx ln p - 120)))]) X cb7 11 q_14_9 dX7_readTest_87 0 0 rfl rfl (by decide) rfl rfl (rfl) (rfl) (Nat.le_of_ble_eq_true rfl) rfl ?_
                  refine g_aload_n X dX7_readTest_90 1 rfl rfl ?_
                  refine g_iconst (x := nI 2) X dX7_readTest_91 (by decide +kernel) ?_
                  refine g_iload_n X dX7_readTest_92 0 rfl rfl ?_
                  refine g_callV (As := [.int (nI 2), .int (nI 0)]) (rest := []) (wr := [cMt v mo ft]) X (c_X7_puts l v mo th sm ln fa (nI ((p + 1) + 0)) (nI 1) dd k9 2 (nI 0) (upd fr (5 * k9 + 1) (nI (nxc tx ln p - 120))) (by omega) (by omega)) f_X7_puts q_15_3 dX7_readTest_93 [0, 2] [1] rfl rfl (by decide) 0 rfl rfl rfl rfl (Nat.le_of_ble_eq_true rfl) (by decide) (fun r_ w_ hp14 => ?_)
                  subst hp14
                  show GG k _ _ [[((mo 0), .inr (7, [.int th, .ref (mo 1), .ref (mo 2), .int (nI sm), .ref (mo 3), .int (nI ln), .ref (mo 4), .int (nI k9), .int fa, .ref (mo 5), .ref (mo 6), .int (nI ((p + 1) + 0)), .int (nI 1), .long dd]))], cMr v mo (upd (upd fr (5 * k9 + 1) (nI (nxc tx ln p - 120))) (5 * k9 + 2) (nI 0)), cMt v mo ft] _ _ []
                  refine g_pick (cs' := [[((mo 0), .inr (7, [.int th, .ref (mo 1), .ref (mo 2), .int (nI sm), .ref (mo 3), .int (nI ln), .ref (mo 4), .int (nI k9), .int fa, .ref (mo 5), .ref (mo 6), .int (nI ((p + 1) + 0)), .int (nI 1), .long dd]))], cMt v mo ft, cMr v mo (upd (upd fr (5 * k9 + 1) (nI (nxc tx ln p - 120))) (5 * k9 + 2) (nI 0))]) [0, 2, 1] rfl rfl ?_
                  refine g_aload_n X dX7_readTest_96 1 rfl rfl ?_
                  refine g_iconst (x := nI 3) X dX7_readTest_97 (by decide +kernel) ?_
                  refine g_aload_n X dX7_readTest_98 1 rfl rfl ?_
                  refine g_callV (As := []) (rest := [.int (nI 3), .ref (mo 0)]) (wr := [cMr v mo (upd (upd fr (5 * k9 + 1) (nI (nxc tx ln p - 120))) (5 * k9 + 2) (nI 0))]) X (b_X7_readOperand l v mo th sm ln (nI k9) fa dd ft ((p + 1) + 0) (by omega)) f_X7_readOperand q_15_11 dX7_readTest_99 [0, 1] [2] rfl rfl (by decide) 0 rfl rfl rfl rfl (Nat.le_of_ble_eq_true rfl) (by decide) (fun r_ w_ hp15 => ?_)
                  obtain ⟨rfl, rfl⟩ := hp15
                  show GG k _ _ [[((mo 0), .inr (7, [.int th, .ref (mo 1), .ref (mo 2), .int (nI sm), .ref (mo 3), .int (nI ln), .ref (mo 4), .int (nI k9), .int fa, .ref (mo 5), .ref (mo 6), .int (nI ((p + 1) + 0)), .int (nI 1), .long dd]))], cMt v mo ft, cMr v mo (upd (upd fr (5 * k9 + 1) (nI (nxc tx ln p - 120))) (5 * k9 + 2) (nI 0))] _ _ [.int (nI 3), .int (nI 3), .ref (mo 0)]
                  refine g_callV (As := [.int (nI 3), .int (nI 3)]) (rest := []) (wr := [cMt v mo ft]) X (c_X7_puts l v mo th sm ln fa (nI ((p + 1) + 0)) (nI 1) dd k9 3 (nI 3) (upd (upd fr (5 * k9 + 1) (nI (nxc tx ln p - 120))) (5 * k9 + 2) (nI 0)) (by omega) (by omega)) f_X7_puts q_15_3 dX7_readTest_102 [0, 2] [1] rfl rfl (by decide) 0 rfl rfl rfl rfl (Nat.le_of_ble_eq_true rfl) (by decide) (fun r_ w_ hp16 => ?_)
                  subst hp16
                  show GG k _ _ [[((mo 0), .inr (7, [.int th, .ref (mo 1), .ref (mo 2), .int (nI sm), .ref (mo 3), .int (nI ln), .ref (mo 4), .int (nI k9), .int fa, .ref (mo 5), .ref (mo 6), .int (nI ((p + 1) + 0)), .int (nI 1), .long dd]))], cMr v mo (upd (upd (upd fr (5 * k9 + 1) (nI (nxc tx ln p - 120))) (5 * k9 + 2) (nI 0)) (5 * k9 + 3) (nI 3)), cMt v mo ft] _ _ []
                  refine g_pick (cs' := [[((mo 0), .inr (7, [.int th, .ref (mo 1), .ref (mo 2), .int (nI sm), .ref (mo 3), .int (nI ln), .ref (mo 4), .int (nI k9), .int fa, .ref (mo 5), .ref (mo 6), .int (nI ((p + 1) + 0)), .int (nI 1), .long dd]))], cMt v mo ft, cMr v mo (upd (upd (upd fr (5 * k9 + 1) (nI (nxc tx ln p - 120))) (5 * k9 + 2) (nI 0)) (5 * k9 + 3) (nI 3))]) [0, 2, 1] rfl rfl ?_
                  exact E dX7_readTest_105 (by decide) (by decide) (by have e : pTest tx ln p = (none, p + 1) := (by simp only [pTest, vcl_x hv7, scl_n hv18 hv29]); rw [e]; dsimp only; exact ⟨_, (Blw_u (Blw_u (Blw_u Blw_0))), rfl⟩)
          · exact absurd rfl c32
  · have hp2q := hp2
    rw [if_neg hv7] at hp2
    obtain ⟨rfl, rfl⟩ := hp2
    show GG k _ _ [[((mo 0), .inr (7, [.int th, .ref (mo 1), .ref (mo 2), .int (nI sm), .ref (mo 3), .int (nI ln), .ref (mo 4), .int (nI k9), .int fa, .ref (mo 5), .ref (mo 6), .int (nI p), .int (nI 1), .long dd]))], cMt v mo ft, cMr v mo fr] _ _ [.int (nI 0), .int (nI 1), .ref (mo 0)]
    refine g_callV (As := [.int (nI 1), .int (nI 0)]) (rest := []) (wr := [cMt v mo ft]) X (c_X7_puts l v mo th sm ln fa (nI p) (nI 1) dd k9 1 (nI 0) fr (by omega) (by omega)) f_X7_puts q_15_3 dX7_readTest_10 [0, 2] [1] rfl rfl (by decide) 0 rfl rfl rfl rfl (Nat.le_of_ble_eq_true rfl) (by decide) (fun r_ w_ hp17 => ?_)
    subst hp17
    show GG k _ _ [[((mo 0), .inr (7, [.int th, .ref (mo 1), .ref (mo 2), .int (nI sm), .ref (mo 3), .int (nI ln), .ref (mo 4), .int (nI k9), .int fa, .ref (mo 5), .ref (mo 6), .int (nI p), .int (nI 1), .long dd]))], cMr v mo (upd fr (5 * k9 + 1) (nI 0)), cMt v mo ft] _ _ []
    refine g_pick (cs' := [[((mo 0), .inr (7, [.int th, .ref (mo 1), .ref (mo 2), .int (nI sm), .ref (mo 3), .int (nI ln), .ref (mo 4), .int (nI k9), .int fa, .ref (mo 5), .ref (mo 6), .int (nI p), .int (nI 1), .long dd]))], cMt v mo ft, cMr v mo (upd fr (5 * k9 + 1) (nI 0))]) [0, 2, 1] rfl rfl ?_
    refine g_aload_n X dX7_readTest_13 0 rfl rfl ?_
    refine g_bipush (x := nI 35) X dX7_readTest_14 (by decide +kernel) ?_
    refine g_bipush (x := nI 35) X dX7_readTest_16 (by decide +kernel) ?_
    refine g_callV (As := [.int (nI 35), .int (nI 35)]) (rest := []) (wr := [cMr v mo (upd fr (5 * k9 + 1) (nI 0))]) X (b_X7_isNext l v mo th sm ln (nI k9) fa dd ft p 35 35) f_X7_isNext q_14_16 dX7_readTest_18 [0, 1] [2] rfl rfl (by decide) 0 rfl rfl rfl rfl (Nat.le_of_ble_eq_true rfl) (by decide) (fun r_ w_ hp18 => ?_)
    obtain ⟨rfl, rfl⟩ := hp18
    show GG k _ _ [[((mo 0), .inr (7, [.int th, .ref (mo 1), .ref (mo 2), .int (nI sm), .ref (mo 3), .int (nI ln), .ref (mo 4), .int (nI k9), .int fa, .ref (mo 5), .ref (mo 6), .int (nI p), .int (nI 1), .long dd]))], cMt v mo ft, cMr v mo (upd fr (5 * k9 + 1) (nI 0))] _ _ [.int (nI 0)]
    refine g_if_neN (tgt := 35) X dX7_readTest_21 (by decide) (by omega) (fun c21 => ?_) (fun c21 => ?_)
    · exact absurd rfl c21
    · refine g_aload_n X dX7_readTest_24 0 rfl rfl ?_
      refine g_bipush (x := nI 60) X dX7_readTest_25 (by decide +kernel) ?_
      refine g_bipush (x := nI 62) X dX7_readTest_27 (by decide +kernel) ?_
      refine g_callV (As := [.int (nI 60), .int (nI 62)]) (rest := []) (wr := [cMr v mo (upd fr (5 * k9 + 1) (nI 0))]) X (b_X7_isNext l v mo th sm ln (nI k9) fa dd ft p 60 62) f_X7_isNext q_14_16 dX7_readTest_29 [0, 1] [2] rfl rfl (by decide) 0 rfl rfl rfl rfl (Nat.le_of_ble_eq_true rfl) (by decide) (fun r_ w_ hp19 => ?_)
      obtain ⟨rfl, rfl⟩ := hp19
      show GG k _ _ [[((mo 0), .inr (7, [.int th, .ref (mo 1), .ref (mo 2), .int (nI sm), .ref (mo 3), .int (nI ln), .ref (mo 4), .int (nI k9), .int fa, .ref (mo 5), .ref (mo 6), .int (nI p), .int (nI 1), .long dd]))], cMt v mo ft, cMr v mo (upd fr (5 * k9 + 1) (nI 0))] _ _ [.int (nI 0)]
      refine g_if_eqN (tgt := 47) X dX7_readTest_32 (by decide) (by omega) (fun c32 => ?_) (fun c32 => ?_)
      · refine g_iconst (x := nI 0) X dX7_readTest_47 (by decide +kernel) ?_
        refine g_istore_n (lv' := [(1, .int (nI 0)), (0, .ref (mo 0))]) X dX7_readTest_48 rfl (by decide) rfl ?_
        refine g_aload_n X dX7_readTest_49 1 rfl rfl ?_
        refine g_aload_n X dX7_readTest_50 1 rfl rfl ?_
        refine g_get X cb7 12 q_14_10 dX7_readTest_51 0 0 rfl rfl (by decide) rfl rfl ?_
        refine g_if_neN (tgt := 61) X dX7_readTest_54 (by decide) (by omega) (fun c54 => ?_) (fun c54 => ?_)
        · refine g_iconst (x := nI 1) X dX7_readTest_61 (by decide +kernel) ?_
          refine g_goto (tgt := 66) X dX7_readTest_62 (by decide) ?_
          refine g_put (cs' := [[((mo 0), .inr (7, [.int th, .ref (mo 1), .ref (mo 2), .int (nI sm), .ref (mo 3), .int (nI ln), .ref (mo 4), .int (nI k9), .int fa, .ref (mo 5), .ref (mo 6), .int (nI p), .int (nI 1), .long dd]))], cMt v mo ft, cMr v mo (upd fr (5 * k9 + 1) (nI 0))]) X cb7 12 q_14_10 dX7_readTest_66 0 0 rfl rfl (by decide) rfl rfl (rfl) (rfl) (Nat.le_of_ble_eq_true rfl) rfl ?_
          refine g_aload_n X dX7_readTest_69 1 rfl rfl ?_
          refine g_dup X dX7_readTest_70 rfl ?_
          refine g_get X cb7 11 q_14_9 dX7_readTest_71 0 0 rfl rfl (by decide) rfl rfl ?_
          refine g_aload_n X dX7_readTest_74 1 rfl rfl ?_
          refine g_get X cb7 12 q_14_10 dX7_readTest_75 0 0 rfl rfl (by decide) rfl rfl ?_
          refine g_if_eqN (tgt := 85) X dX7_readTest_78 (by decide) (by omega) (fun c78 => ?_) (fun c78 => ?_)
          · exact absurd c78 (by decide)
          · refine g_iconst (x := nI 0) X dX7_readTest_81 (by decide +kernel) ?_
            refine g_goto (tgt := 86) X dX7_readTest_82 (by decide) ?_
            refine g_iaddN X dX7_readTest_86 ?_
            refine g_put (cs' := [[((mo 0), .inr (7, [.int th, .ref (mo 1), .ref (mo 2), .int (nI sm), .ref (mo 3), .int (nI ln), .ref (mo 4), .int (nI k9), .int fa, .ref (mo 5), .ref (mo 6), .int (nI (p + 0)), .int (nI 1), .long dd]))], cMt v mo ft, cMr v mo (upd fr (5 * k9 + 1) (nI 0))]) X cb7 11 q_14_9 dX7_readTest_87 0 0 rfl rfl (by decide) rfl rfl (rfl) (rfl) (Nat.le_of_ble_eq_true rfl) rfl ?_
            refine g_aload_n X dX7_readTest_90 1 rfl rfl ?_
            refine g_iconst (x := nI 2) X dX7_readTest_91 (by decide +kernel) ?_
            refine g_iload_n X dX7_readTest_92 0 rfl rfl ?_
            refine g_callV (As := [.int (nI 2), .int (nI 0)]) (rest := []) (wr := [cMt v mo ft]) X (c_X7_puts l v mo th sm ln fa (nI (p + 0)) (nI 1) dd k9 2 (nI 0) (upd fr (5 * k9 + 1) (nI 0)) (by omega) (by omega)) f_X7_puts q_15_3 dX7_readTest_93 [0, 2] [1] rfl rfl (by decide) 0 rfl rfl rfl rfl (Nat.le_of_ble_eq_true rfl) (by decide) (fun r_ w_ hp20 => ?_)
            subst hp20
            show GG k _ _ [[((mo 0), .inr (7, [.int th, .ref (mo 1), .ref (mo 2), .int (nI sm), .ref (mo 3), .int (nI ln), .ref (mo 4), .int (nI k9), .int fa, .ref (mo 5), .ref (mo 6), .int (nI (p + 0)), .int (nI 1), .long dd]))], cMr v mo (upd (upd fr (5 * k9 + 1) (nI 0)) (5 * k9 + 2) (nI 0)), cMt v mo ft] _ _ []
            refine g_pick (cs' := [[((mo 0), .inr (7, [.int th, .ref (mo 1), .ref (mo 2), .int (nI sm), .ref (mo 3), .int (nI ln), .ref (mo 4), .int (nI k9), .int fa, .ref (mo 5), .ref (mo 6), .int (nI (p + 0)), .int (nI 1), .long dd]))], cMt v mo ft, cMr v mo (upd (upd fr (5 * k9 + 1) (nI 0)) (5 * k9 + 2) (nI 0))]) [0, 2, 1] rfl rfl ?_
            refine g_aload_n X dX7_readTest_96 1 rfl rfl ?_
            refine g_iconst (x := nI 3) X dX7_readTest_97 (by decide +kernel) ?_
            refine g_aload_n X dX7_readTest_98 1 rfl rfl ?_
            refine g_callV (As := []) (rest := [.int (nI 3), .ref (mo 0)]) (wr := [cMr v mo (upd (upd fr (5 * k9 + 1) (nI 0)) (5 * k9 + 2) (nI 0))]) X (b_X7_readOperand l v mo th sm ln (nI k9) fa dd ft (p + 0) (by omega)) f_X7_readOperand q_15_11 dX7_readTest_99 [0, 1] [2] rfl rfl (by decide) 0 rfl rfl rfl rfl (Nat.le_of_ble_eq_true rfl) (by decide) (fun r_ w_ hp21 => ?_)
            obtain ⟨rfl, rfl⟩ := hp21
            show GG k _ _ [[((mo 0), .inr (7, [.int th, .ref (mo 1), .ref (mo 2), .int (nI sm), .ref (mo 3), .int (nI ln), .ref (mo 4), .int (nI k9), .int fa, .ref (mo 5), .ref (mo 6), .int (nI (p + 0)), .int (nI 1), .long dd]))], cMt v mo ft, cMr v mo (upd (upd fr (5 * k9 + 1) (nI 0)) (5 * k9 + 2) (nI 0))] _ _ [.int (nI 3), .int (nI 3), .ref (mo 0)]
            refine g_callV (As := [.int (nI 3), .int (nI 3)]) (rest := []) (wr := [cMt v mo ft]) X (c_X7_puts l v mo th sm ln fa (nI (p + 0)) (nI 1) dd k9 3 (nI 3) (upd (upd fr (5 * k9 + 1) (nI 0)) (5 * k9 + 2) (nI 0)) (by omega) (by omega)) f_X7_puts q_15_3 dX7_readTest_102 [0, 2] [1] rfl rfl (by decide) 0 rfl rfl rfl rfl (Nat.le_of_ble_eq_true rfl) (by decide) (fun r_ w_ hp22 => ?_)
            subst hp22
            show GG k _ _ [[((mo 0), .inr (7, [.int th, .ref (mo 1), .ref (mo 2), .int (nI sm), .ref (mo 3), .int (nI ln), .ref (mo 4), .int (nI k9), .int fa, .ref (mo 5), .ref (mo 6), .int (nI (p + 0)), .int (nI 1), .long dd]))], cMr v mo (upd (upd (upd fr (5 * k9 + 1) (nI 0)) (5 * k9 + 2) (nI 0)) (5 * k9 + 3) (nI 3)), cMt v mo ft] _ _ []
            refine g_pick (cs' := [[((mo 0), .inr (7, [.int th, .ref (mo 1), .ref (mo 2), .int (nI sm), .ref (mo 3), .int (nI ln), .ref (mo 4), .int (nI k9), .int fa, .ref (mo 5), .ref (mo 6), .int (nI (p + 0)), .int (nI 1), .long dd]))], cMt v mo ft, cMr v mo (upd (upd (upd fr (5 * k9 + 1) (nI 0)) (5 * k9 + 2) (nI 0)) (5 * k9 + 3) (nI 3))]) [0, 2, 1] rfl rfl ?_
            exact E dX7_readTest_105 (by decide) (by decide) (by have e : pTest tx ln p = (none, p) := (by simp only [pTest, vcl_n hv7]); rw [e]; dsimp only; exact ⟨_, (Blw_u (Blw_u (Blw_u Blw_0))), rfl⟩)
        · exact absurd c54 (by decide)
      · exact absurd rfl c32

set_option maxHeartbeats 4000000 in
set_option maxRecDepth 100000 in
theorem b_X7_readTest (l : Launch) (v : VV) (mo : Nat → Nat) (th : Int32) (sm : Nat) (ln : Nat) (fa : Int32) (dd : Int64) (ft : Nat → Int32) (fr : Nat → Int32) (p : Nat) (k9 : Nat) (hk : k9 < 12) (hp : p ≤ 90) : MU l v yX7_readTest cX7_readTest 2 none ({ frames := 4, cells := 0, slots := 0, locals := 88 }) [.ref (mo 0)] [[((mo 0), .inr (7, [.int th, .ref (mo 1), .ref (mo 2), .int (nI sm), .ref (mo 3), .int (nI ln), .ref (mo 4), .int (nI k9), .int fa, .ref (mo 5), .ref (mo 6), .int (nI p), .int (nI 1), .long dd]))], cMt v mo ft, cMr v mo fr] (fun _ w_ => ∃ fr', Blw k9 fr fr' ∧ w_ = [[((mo 0), .inr (7, [.int th, .ref (mo 1), .ref (mo 2), .int (nI sm), .ref (mo 3), .int (nI ln), .ref (mo 4), .int (nI k9), .int fa, .ref (mo 5), .ref (mo 6), .int (nI p), .int (nI 1), .long dd]))], cMt v mo ft, cMr v mo fr']) 0 0 := by
  refine mm_void rfl (by decide) (Nat.le_of_ble_eq_true rfl) [(0, .ref (mo 0))] rfl (fun k X hin E => ?_)
  refine g_aload_n X dX7_readTest_0 0 rfl rfl ?_
  refine g_iconst (x := nI 1) X dX7_readTest_1 (by decide +kernel) ?_
  refine g_aload_n X dX7_readTest_2 0 rfl rfl ?_
  refine g_bipush (x := nI 120) X dX7_readTest_3 (by decide +kernel) ?_
  refine g_bipush (x := nI 122) X dX7_readTest_5 (by decide +kernel) ?_
  refine g_callV (As := [.int (nI 120), .int (nI 122)]) (rest := [.int (nI 1), .ref (mo 0)]) (wr := [cMr v mo fr]) X (b_X7_takes l v mo th sm ln (nI k9) fa dd ft p 120 122 (by omega)) f_X7_takes q_15_7 dX7_readTest_7 [0, 1] [2] rfl rfl (by decide) 0 rfl rfl rfl rfl (Nat.le_of_ble_eq_true rfl) (by decide) (fun r_ w_ hp1 => ?_)
  obtain ⟨rfl, rfl⟩ := hp1
  show GG k _ _ [[((mo 0), .inr (7, [.int th, .ref (mo 1), .ref (mo 2), .int (nI sm), .ref (mo 3), .int (nI ln), .ref (mo 4), .int (nI k9), .int fa, .ref (mo 5), .ref (mo 6), .int (nI p), .int (nI 1), .long dd]))], cMt v mo ft, cMr v mo fr] _ _ [.int (nI 0), .int (nI 1), .ref (mo 0)]
  refine g_callV (As := [.int (nI 1), .int (nI 0)]) (rest := []) (wr := [cMt v mo ft]) X (c_X7_puts l v mo th sm ln fa (nI p) (nI 1) dd k9 1 (nI 0) fr (by omega) (by omega)) f_X7_puts q_15_3 dX7_readTest_10 [0, 2] [1] rfl rfl (by decide) 0 rfl rfl rfl rfl (Nat.le_of_ble_eq_true rfl) (by decide) (fun r_ w_ hp2 => ?_)
  subst hp2
  show GG k _ _ [[((mo 0), .inr (7, [.int th, .ref (mo 1), .ref (mo 2), .int (nI sm), .ref (mo 3), .int (nI ln), .ref (mo 4), .int (nI k9), .int fa, .ref (mo 5), .ref (mo 6), .int (nI p), .int (nI 1), .long dd]))], cMr v mo (upd fr (5 * k9 + 1) (nI 0)), cMt v mo ft] _ _ []
  refine g_pick (cs' := [[((mo 0), .inr (7, [.int th, .ref (mo 1), .ref (mo 2), .int (nI sm), .ref (mo 3), .int (nI ln), .ref (mo 4), .int (nI k9), .int fa, .ref (mo 5), .ref (mo 6), .int (nI p), .int (nI 1), .long dd]))], cMt v mo ft, cMr v mo (upd fr (5 * k9 + 1) (nI 0))]) [0, 2, 1] rfl rfl ?_
  refine g_aload_n X dX7_readTest_13 0 rfl rfl ?_
  refine g_bipush (x := nI 35) X dX7_readTest_14 (by decide +kernel) ?_
  refine g_bipush (x := nI 35) X dX7_readTest_16 (by decide +kernel) ?_
  refine g_callV (As := [.int (nI 35), .int (nI 35)]) (rest := []) (wr := [cMr v mo (upd fr (5 * k9 + 1) (nI 0))]) X (b_X7_isNext l v mo th sm ln (nI k9) fa dd ft p 35 35) f_X7_isNext q_14_16 dX7_readTest_18 [0, 1] [2] rfl rfl (by decide) 0 rfl rfl rfl rfl (Nat.le_of_ble_eq_true rfl) (by decide) (fun r_ w_ hp3 => ?_)
  obtain ⟨rfl, rfl⟩ := hp3
  show GG k _ _ [[((mo 0), .inr (7, [.int th, .ref (mo 1), .ref (mo 2), .int (nI sm), .ref (mo 3), .int (nI ln), .ref (mo 4), .int (nI k9), .int fa, .ref (mo 5), .ref (mo 6), .int (nI p), .int (nI 1), .long dd]))], cMt v mo ft, cMr v mo (upd fr (5 * k9 + 1) (nI 0))] _ _ [.int (nI 0)]
  refine g_if_neN (tgt := 35) X dX7_readTest_21 (by decide) (by omega) (fun c21 => ?_) (fun c21 => ?_)
  · exact absurd rfl c21
  · refine g_aload_n X dX7_readTest_24 0 rfl rfl ?_
    refine g_bipush (x := nI 60) X dX7_readTest_25 (by decide +kernel) ?_
    refine g_bipush (x := nI 62) X dX7_readTest_27 (by decide +kernel) ?_
    refine g_callV (As := [.int (nI 60), .int (nI 62)]) (rest := []) (wr := [cMr v mo (upd fr (5 * k9 + 1) (nI 0))]) X (b_X7_isNext l v mo th sm ln (nI k9) fa dd ft p 60 62) f_X7_isNext q_14_16 dX7_readTest_29 [0, 1] [2] rfl rfl (by decide) 0 rfl rfl rfl rfl (Nat.le_of_ble_eq_true rfl) (by decide) (fun r_ w_ hp4 => ?_)
    obtain ⟨rfl, rfl⟩ := hp4
    show GG k _ _ [[((mo 0), .inr (7, [.int th, .ref (mo 1), .ref (mo 2), .int (nI sm), .ref (mo 3), .int (nI ln), .ref (mo 4), .int (nI k9), .int fa, .ref (mo 5), .ref (mo 6), .int (nI p), .int (nI 1), .long dd]))], cMt v mo ft, cMr v mo (upd fr (5 * k9 + 1) (nI 0))] _ _ [.int (nI 0)]
    refine g_if_eqN (tgt := 47) X dX7_readTest_32 (by decide) (by omega) (fun c32 => ?_) (fun c32 => ?_)
    · refine g_iconst (x := nI 0) X dX7_readTest_47 (by decide +kernel) ?_
      refine g_istore_n (lv' := [(1, .int (nI 0)), (0, .ref (mo 0))]) X dX7_readTest_48 rfl (by decide) rfl ?_
      refine g_aload_n X dX7_readTest_49 1 rfl rfl ?_
      refine g_aload_n X dX7_readTest_50 1 rfl rfl ?_
      refine g_get X cb7 12 q_14_10 dX7_readTest_51 0 0 rfl rfl (by decide) rfl rfl ?_
      refine g_if_neN (tgt := 61) X dX7_readTest_54 (by decide) (by omega) (fun c54 => ?_) (fun c54 => ?_)
      · refine g_iconst (x := nI 1) X dX7_readTest_61 (by decide +kernel) ?_
        refine g_goto (tgt := 66) X dX7_readTest_62 (by decide) ?_
        refine g_put (cs' := [[((mo 0), .inr (7, [.int th, .ref (mo 1), .ref (mo 2), .int (nI sm), .ref (mo 3), .int (nI ln), .ref (mo 4), .int (nI k9), .int fa, .ref (mo 5), .ref (mo 6), .int (nI p), .int (nI 1), .long dd]))], cMt v mo ft, cMr v mo (upd fr (5 * k9 + 1) (nI 0))]) X cb7 12 q_14_10 dX7_readTest_66 0 0 rfl rfl (by decide) rfl rfl (rfl) (rfl) (Nat.le_of_ble_eq_true rfl) rfl ?_
        refine g_aload_n X dX7_readTest_69 1 rfl rfl ?_
        refine g_dup X dX7_readTest_70 rfl ?_
        refine g_get X cb7 11 q_14_9 dX7_readTest_71 0 0 rfl rfl (by decide) rfl rfl ?_
        refine g_aload_n X dX7_readTest_74 1 rfl rfl ?_
        refine g_get X cb7 12 q_14_10 dX7_readTest_75 0 0 rfl rfl (by decide) rfl rfl ?_
        refine g_if_eqN (tgt := 85) X dX7_readTest_78 (by decide) (by omega) (fun c78 => ?_) (fun c78 => ?_)
        · exact absurd c78 (by decide)
        · refine g_iconst (x := nI 0) X dX7_readTest_81 (by decide +kernel) ?_
          refine g_goto (tgt := 86) X dX7_readTest_82 (by decide) ?_
          refine g_iaddN X dX7_readTest_86 ?_
          refine g_put (cs' := [[((mo 0), .inr (7, [.int th, .ref (mo 1), .ref (mo 2), .int (nI sm), .ref (mo 3), .int (nI ln), .ref (mo 4), .int (nI k9), .int fa, .ref (mo 5), .ref (mo 6), .int (nI (p + 0)), .int (nI 1), .long dd]))], cMt v mo ft, cMr v mo (upd fr (5 * k9 + 1) (nI 0))]) X cb7 11 q_14_9 dX7_readTest_87 0 0 rfl rfl (by decide) rfl rfl (rfl) (rfl) (Nat.le_of_ble_eq_true rfl) rfl ?_
          refine g_aload_n X dX7_readTest_90 1 rfl rfl ?_
          refine g_iconst (x := nI 2) X dX7_readTest_91 (by decide +kernel) ?_
          refine g_iload_n X dX7_readTest_92 0 rfl rfl ?_
          refine g_callV (As := [.int (nI 2), .int (nI 0)]) (rest := []) (wr := [cMt v mo ft]) X (c_X7_puts l v mo th sm ln fa (nI (p + 0)) (nI 1) dd k9 2 (nI 0) (upd fr (5 * k9 + 1) (nI 0)) (by omega) (by omega)) f_X7_puts q_15_3 dX7_readTest_93 [0, 2] [1] rfl rfl (by decide) 0 rfl rfl rfl rfl (Nat.le_of_ble_eq_true rfl) (by decide) (fun r_ w_ hp5 => ?_)
          subst hp5
          show GG k _ _ [[((mo 0), .inr (7, [.int th, .ref (mo 1), .ref (mo 2), .int (nI sm), .ref (mo 3), .int (nI ln), .ref (mo 4), .int (nI k9), .int fa, .ref (mo 5), .ref (mo 6), .int (nI (p + 0)), .int (nI 1), .long dd]))], cMr v mo (upd (upd fr (5 * k9 + 1) (nI 0)) (5 * k9 + 2) (nI 0)), cMt v mo ft] _ _ []
          refine g_pick (cs' := [[((mo 0), .inr (7, [.int th, .ref (mo 1), .ref (mo 2), .int (nI sm), .ref (mo 3), .int (nI ln), .ref (mo 4), .int (nI k9), .int fa, .ref (mo 5), .ref (mo 6), .int (nI (p + 0)), .int (nI 1), .long dd]))], cMt v mo ft, cMr v mo (upd (upd fr (5 * k9 + 1) (nI 0)) (5 * k9 + 2) (nI 0))]) [0, 2, 1] rfl rfl ?_
          refine g_aload_n X dX7_readTest_96 1 rfl rfl ?_
          refine g_iconst (x := nI 3) X dX7_readTest_97 (by decide +kernel) ?_
          refine g_aload_n X dX7_readTest_98 1 rfl rfl ?_
          refine g_callV (As := []) (rest := [.int (nI 3), .ref (mo 0)]) (wr := [cMr v mo (upd (upd fr (5 * k9 + 1) (nI 0)) (5 * k9 + 2) (nI 0))]) X (b_X7_readOperand l v mo th sm ln (nI k9) fa dd ft (p + 0) (by omega)) f_X7_readOperand q_15_11 dX7_readTest_99 [0, 1] [2] rfl rfl (by decide) 0 rfl rfl rfl rfl (Nat.le_of_ble_eq_true rfl) (by decide) (fun r_ w_ hp6 => ?_)
          obtain ⟨rfl, rfl⟩ := hp6
          show GG k _ _ [[((mo 0), .inr (7, [.int th, .ref (mo 1), .ref (mo 2), .int (nI sm), .ref (mo 3), .int (nI ln), .ref (mo 4), .int (nI k9), .int fa, .ref (mo 5), .ref (mo 6), .int (nI (p + 0)), .int (nI 1), .long dd]))], cMt v mo ft, cMr v mo (upd (upd fr (5 * k9 + 1) (nI 0)) (5 * k9 + 2) (nI 0))] _ _ [.int (nI 3), .int (nI 3), .ref (mo 0)]
          refine g_callV (As := [.int (nI 3), .int (nI 3)]) (rest := []) (wr := [cMt v mo ft]) X (c_X7_puts l v mo th sm ln fa (nI (p + 0)) (nI 1) dd k9 3 (nI 3) (upd (upd fr (5 * k9 + 1) (nI 0)) (5 * k9 + 2) (nI 0)) (by omega) (by omega)) f_X7_puts q_15_3 dX7_readTest_102 [0, 2] [1] rfl rfl (by decide) 0 rfl rfl rfl rfl (Nat.le_of_ble_eq_true rfl) (by decide) (fun r_ w_ hp7 => ?_)
          subst hp7
          show GG k _ _ [[((mo 0), .inr (7, [.int th, .ref (mo 1), .ref (mo 2), .int (nI sm), .ref (mo 3), .int (nI ln), .ref (mo 4), .int (nI k9), .int fa, .ref (mo 5), .ref (mo 6), .int (nI (p + 0)), .int (nI 1), .long dd]))], cMr v mo (upd (upd (upd fr (5 * k9 + 1) (nI 0)) (5 * k9 + 2) (nI 0)) (5 * k9 + 3) (nI 3)), cMt v mo ft] _ _ []
          refine g_pick (cs' := [[((mo 0), .inr (7, [.int th, .ref (mo 1), .ref (mo 2), .int (nI sm), .ref (mo 3), .int (nI ln), .ref (mo 4), .int (nI k9), .int fa, .ref (mo 5), .ref (mo 6), .int (nI (p + 0)), .int (nI 1), .long dd]))], cMt v mo ft, cMr v mo (upd (upd (upd fr (5 * k9 + 1) (nI 0)) (5 * k9 + 2) (nI 0)) (5 * k9 + 3) (nI 3))]) [0, 2, 1] rfl rfl ?_
          exact E dX7_readTest_105 (by decide) (by decide) (⟨_, (Blw_u (Blw_u (Blw_u Blw_0))), rfl⟩)
      · exact absurd c54 (by decide)
    · exact absurd rfl c32

