/-! ## the model: reads -/
theorem RW9_blw {f f' : Nat → Int32} {k i : Nat} {s : S9} (h : Blw k f f') (hi : i < k) (r : RW9 f i s) : RW9 f' i s := by
  unfold RW9
  rw [h _ (by omega), h _ (by omega), h _ (by omega), h _ (by omega), h _ (by omega)]
  exact r
/-- fa is the greatest target of the first c statements of L, 0 for none -/
def FAp (L : List S9) (c fa : Nat) : Prop := fa ≤ 12 ∧ ∀ D : Int, 0 ≤ D → ((fa : Int) ≤ D ↔ ∀ i, i < c → tg9 (lg9 L i) ≤ D)
theorem FAp_0 : FAp [] 0 0 := ⟨by omega, fun D hD => ⟨fun _ i h => absurd h (Nat.not_lt_zero _), fun _ => hD⟩⟩
theorem FAp_step {L : List S9} {c fa : Nat} {s : S9} (hc : L.length = c) (h : FAp L c fa) (hs : s.1 = 2 → 0 ≤ s.2.2.2.2 ∧ s.2.2.2.2 ≤ 12) : FAp (L ++ [s]) (c + 1) (fmx fa s) := by
  obtain ⟨h1, h2⟩ := h
  have hf : fmx fa s ≤ 12 ∧ ∀ D : Int, 0 ≤ D → ((fmx fa s : Int) ≤ D ↔ (fa : Int) ≤ D ∧ tg9 s ≤ D) := by
    unfold fmx tg9
    by_cases z : s.1 = 2
    · have := hs z
      rw [if_pos z]
      by_cases y : (fa : Int) < s.2.2.2.2
      · rw [if_pos ⟨z, y⟩]
        exact ⟨by omega, fun D hD => by omega⟩
      · rw [if_neg (fun q => y q.2)]
        exact ⟨h1, fun D hD => by omega⟩
    · rw [if_neg z, if_neg (fun q => z q.1)]
      exact ⟨h1, fun D hD => by omega⟩
  refine ⟨hf.1, fun D hD => ?_⟩
  rw [hf.2 D hD, h2 D hD]
  constructor
  · intro ⟨a, b⟩ i hi
    by_cases z : i = c
    · rw [z, ← hc, lg9_new]; exact b
    · rw [lg9_old (by omega)]; exact a i (by omega)
  · intro a
    refine ⟨fun i hi => ?_, ?_⟩
    · have := a i (by omega)
      rwa [lg9_old (by omega)] at this
    · have := a c (by omega)
      rwa [← hc, lg9_new] at this
def RWs (f : Nat → Int32) (L : List S9) (c : Nat) : Prop := ∀ i, i < c → RW9 f i (lg9 L i)
theorem RWs_step {L : List S9} {c : Nat} {s : S9} {f f' : Nat → Int32} (hc : L.length = c) (h : RWs f L c) (hb : Blw c f f') (hr : RW9 f' c s) : RWs f' (L ++ [s]) (c + 1) := fun i hi => by
  by_cases z : i = c
  · rw [z, show lg9 (L ++ [s]) c = s from by rw [← hc, lg9_new]]; exact hr
  · rw [lg9_old (by omega)]; exact RW9_blw hb (by omega) (h i (by omega))
theorem WG_put2 {tx : Nat → Nat} {ln : Nat} {L : List S9} {s : S9} {c p : Nat} (hc : L.length = c) (h : WG (lg9 L) c 12) (hl : c < 12) (hs : (pStmt tx ln p).1 = some s) : WG (lg9 (L ++ [s])) (c + 1) 12 := by
  subst hc
  exact WG_put h hl hs

set_option maxHeartbeats 4000000 in
set_option maxRecDepth 100000 in
theorem c_X7_reads (l : Launch) (v : VV) (mo : Nat → Nat) (th : Int32) (sm : Nat) (ln : Nat) (rm : Int32) (fa : Int32) (sp : Int32) (wr : Int32) (dd : Int64) (tx : Nat → Nat) (ft : Nat → Int32) (fr : Nat → Int32) (hT : TxR tx ln ft) : MI l v yX7_reads cX7_reads 2 (some .boolean) ({ frames := 6, cells := 0, slots := 0, locals := 134 }) [.ref (mo 0)] [[((mo 0), .inr (7, [.int th, .ref (mo 1), .ref (mo 2), .int (nI sm), .ref (mo 3), .int (nI ln), .ref (mo 4), .int rm, .int fa, .ref (mo 5), .ref (mo 6), .int sp, .int wr, .long dd]))], cMt v mo ft, cMr v mo fr] (fun r w_ => ∃ fr' fa' wr', r = bI (pAll tx ln 12 0 []).1 ∧ RWs fr' (pAll tx ln 12 0 []).2.2 (pAll tx ln 12 0 []).2.2.length ∧ WG (lg9 (pAll tx ln 12 0 []).2.2) (pAll tx ln 12 0 []).2.2.length 12 ∧ FAp (pAll tx ln 12 0 []).2.2 (pAll tx ln 12 0 []).2.2.length fa' ∧ w_ = [[((mo 0), .inr (7, [.int th, .ref (mo 1), .ref (mo 2), .int (nI sm), .ref (mo 3), .int (nI ln), .ref (mo 4), .int (nI ((pAll tx ln 12 0 []).2.2.length)), .int (nI fa'), .ref (mo 5), .ref (mo 6), .int (nI ((pAll tx ln 12 0 []).2.1)), .int wr', .long dd]))], cMt v mo ft, cMr v mo fr']) 0 0 := by
  refine mm_int (by decide) (Nat.le_of_ble_eq_true rfl) [(0, .ref (mo 0))] rfl (fun k X E => ?_)
  have hT1 := hT.1
  refine g_aload_n X dX7_reads_0 0 rfl rfl ?_
  refine g_iconst (x := nI 0) X dX7_reads_1 (by decide +kernel) ?_
  refine g_put (cs' := [[((mo 0), .inr (7, [.int th, .ref (mo 1), .ref (mo 2), .int (nI sm), .ref (mo 3), .int (nI ln), .ref (mo 4), .int rm, .int fa, .ref (mo 5), .ref (mo 6), .int (nI 0), .int wr, .long dd]))], cMt v mo ft, cMr v mo fr]) X cb7 11 q_14_9 dX7_reads_2 0 0 rfl rfl (by decide) rfl rfl (rfl) (rfl) (Nat.le_of_ble_eq_true rfl) rfl ?_
  refine g_aload_n X dX7_reads_5 0 rfl rfl ?_
  refine g_iconst (x := nI 0) X dX7_reads_6 (by decide +kernel) ?_
  refine g_put (cs' := [[((mo 0), .inr (7, [.int th, .ref (mo 1), .ref (mo 2), .int (nI sm), .ref (mo 3), .int (nI ln), .ref (mo 4), .int rm, .int fa, .ref (mo 5), .ref (mo 6), .int (nI 0), .int (nI 0), .long dd]))], cMt v mo ft, cMr v mo fr]) X cb7 12 q_14_10 dX7_reads_7 0 0 rfl rfl (by decide) rfl rfl (rfl) (rfl) (Nat.le_of_ble_eq_true rfl) rfl ?_
  refine g_aload_n X dX7_reads_10 0 rfl rfl ?_
  refine g_iconst (x := nI 0) X dX7_reads_11 (by decide +kernel) ?_
  refine g_put (cs' := [[((mo 0), .inr (7, [.int th, .ref (mo 1), .ref (mo 2), .int (nI sm), .ref (mo 3), .int (nI ln), .ref (mo 4), .int (nI 0), .int fa, .ref (mo 5), .ref (mo 6), .int (nI 0), .int (nI 0), .long dd]))], cMt v mo ft, cMr v mo fr]) X cb7 7 q_14_4 dX7_reads_12 0 0 rfl rfl (by decide) rfl rfl (rfl) (rfl) (Nat.le_of_ble_eq_true rfl) rfl ?_
  refine g_aload_n X dX7_reads_15 0 rfl rfl ?_
  refine g_iconst (x := nI 0) X dX7_reads_16 (by decide +kernel) ?_
  refine g_put (cs' := [[((mo 0), .inr (7, [.int th, .ref (mo 1), .ref (mo 2), .int (nI sm), .ref (mo 3), .int (nI ln), .ref (mo 4), .int (nI 0), .int (nI 0), .ref (mo 5), .ref (mo 6), .int (nI 0), .int (nI 0), .long dd]))], cMt v mo ft, cMr v mo fr]) X cb7 8 q_14_3 dX7_reads_17 0 0 rfl rfl (by decide) rfl rfl (rfl) (rfl) (Nat.le_of_ble_eq_true rfl) rfl ?_
  refine g_iconst (x := nI 1) X dX7_reads_20 (by decide +kernel) ?_
  refine g_istore_n (lv' := [(1, .int (nI 1)), (0, .ref (mo 0))]) X dX7_reads_21 rfl (by decide) rfl ?_
  have lp22 : ∀ (zN : Nat) (L : List S9) (c : Nat) (q : Nat) (fa9 : Nat) (fr' : Nat → Int32) (hc : L.length = c) (hl : c < 12) (hq : q ≤ ln) (hA : (pAll tx ln 12 0 []) = pAll tx ln (12 - c) q L) (hW : WG (lg9 L) c 12) (hRw : RWs fr' L c) (hFa : FAp L c fa9) (zM : zN = 12 - c), GG k 0 0 [[((mo 0), .inr (7, [.int th, .ref (mo 1), .ref (mo 2), .int (nI sm), .ref (mo 3), .int (nI ln), .ref (mo 4), .int (nI c), .int (nI fa9), .ref (mo 5), .ref (mo 6), .int (nI q), .int (nI 0), .long dd]))], cMt v mo ft, cMr v mo fr'] [(1, .int (nI 1)), (0, .ref (mo 0))] 22 [] := by
    intro zN
    induction zN using Nat.strongRecOn with
    | _ zN zih =>
      have ih22 := zih
      clear zih
      intro L c q fa9 fr' hc hl hq hA hW hRw hFa zM
      have hf11 := hFa.1
      refine g_iload_n X dX7_reads_22 0 rfl rfl ?_
      refine g_if_eqN (tgt := 116) X dX7_reads_23 (by decide) (by omega) (fun c23 => ?_) (fun c23 => ?_)
      · exact absurd c23 (by decide)
      · refine g_aload_n X dX7_reads_26 1 rfl rfl ?_
        refine g_callV (As := []) (rest := []) (wr := []) X (c_X7_readStatement l v mo th sm ln dd fa9 tx ft fr' q c hT (by omega) (by omega) (by omega)) f_X7_readStatement q_14_12 dX7_reads_27 [0, 1, 2] [] rfl rfl (by decide) 0 rfl rfl rfl rfl (Nat.le_of_ble_eq_true rfl) (by decide) (fun r_ w_ hp2 => ?_)
        cases hv27 : (pStmt tx ln q).1 with
        | none =>
          have hp2q := hp2
          rw [hv27] at hp2
          obtain ⟨zr1, zr1B, rfl⟩ := hp2
          show GG k _ _ [[((mo 0), .inr (7, [.int th, .ref (mo 1), .ref (mo 2), .int (nI sm), .ref (mo 3), .int (nI ln), .ref (mo 4), .int (nI c), .int (nI fa9), .ref (mo 5), .ref (mo 6), .int (nI ((pStmt tx ln q).2)), .int (nI 1), .long dd]))], cMt v mo ft, cMr v mo zr1] _ _ []
          refine g_aload_n X dX7_reads_30 1 rfl rfl ?_
          refine g_dup X dX7_reads_31 rfl ?_
          refine g_get X cb7 7 q_14_4 dX7_reads_32 0 0 rfl rfl (by decide) rfl rfl ?_
          refine g_aload_n X dX7_reads_35 1 rfl rfl ?_
          refine g_get X cb7 12 q_14_10 dX7_reads_36 0 0 rfl rfl (by decide) rfl rfl ?_
          refine g_if_eqN (tgt := 46) X dX7_reads_39 (by decide) (by omega) (fun c39 => ?_) (fun c39 => ?_)
          · exact absurd c39 (by decide)
          · refine g_iconst (x := nI 0) X dX7_reads_42 (by decide +kernel) ?_
            refine g_goto (tgt := 47) X dX7_reads_43 (by decide) ?_
            refine g_iaddN X dX7_reads_47 ?_
            refine g_put (cs' := [[((mo 0), .inr (7, [.int th, .ref (mo 1), .ref (mo 2), .int (nI sm), .ref (mo 3), .int (nI ln), .ref (mo 4), .int (nI (c + 0)), .int (nI fa9), .ref (mo 5), .ref (mo 6), .int (nI ((pStmt tx ln q).2)), .int (nI 1), .long dd]))], cMt v mo ft, cMr v mo zr1]) X cb7 7 q_14_4 dX7_reads_48 0 0 rfl rfl (by decide) rfl rfl (rfl) (rfl) (Nat.le_of_ble_eq_true rfl) rfl ?_
            refine g_aload_n X dX7_reads_51 1 rfl rfl ?_
            refine g_get X cb7 12 q_14_10 dX7_reads_52 0 0 rfl rfl (by decide) rfl rfl ?_
            refine g_if_neN (tgt := 93) X dX7_reads_55 (by decide) (by omega) (fun c55 => ?_) (fun c55 => ?_)
            · refine g_iconst (x := nI 0) X dX7_reads_93 (by decide +kernel) ?_
              refine g_istore_n (lv' := [(1, .int (nI 0)), (0, .ref (mo 0))]) X dX7_reads_94 rfl (by decide) rfl ?_
              refine g_aload_n X dX7_reads_95 1 rfl rfl ?_
              refine g_dup X dX7_reads_96 rfl ?_
              refine g_get X cb7 11 q_14_9 dX7_reads_97 0 0 rfl rfl (by decide) rfl rfl ?_
              refine g_iload_n X dX7_reads_100 0 rfl rfl ?_
              refine g_if_eqN (tgt := 108) X dX7_reads_101 (by decide) (by omega) (fun c101 => ?_) (fun c101 => ?_)
              · refine g_iconst (x := nI 0) X dX7_reads_108 (by decide +kernel) ?_
                refine g_iaddN X dX7_reads_109 ?_
                refine g_put (cs' := [[((mo 0), .inr (7, [.int th, .ref (mo 1), .ref (mo 2), .int (nI sm), .ref (mo 3), .int (nI ln), .ref (mo 4), .int (nI (c + 0)), .int (nI fa9), .ref (mo 5), .ref (mo 6), .int (nI (((pStmt tx ln q).2) + 0)), .int (nI 1), .long dd]))], cMt v mo ft, cMr v mo zr1]) X cb7 11 q_14_9 dX7_reads_110 0 0 rfl rfl (by decide) rfl rfl (rfl) (rfl) (Nat.le_of_ble_eq_true rfl) rfl ?_
                refine g_goto (tgt := 22) X dX7_reads_113 (by decide) ?_
                refine g_iload_n X dX7_reads_22 0 rfl rfl ?_
                refine g_if_eqN (tgt := 116) X dX7_reads_23 (by decide) (by omega) (fun c23 => ?_) (fun c23 => ?_)
                · refine g_aload_n X dX7_reads_116 1 rfl rfl ?_
                  refine g_get X cb7 12 q_14_10 dX7_reads_117 0 0 rfl rfl (by decide) rfl rfl ?_
                  refine g_if_neN (tgt := 138) X dX7_reads_120 (by decide) (by omega) (fun c120 => ?_) (fun c120 => ?_)
                  · refine g_iconst (x := nI 0) X dX7_reads_138 (by decide +kernel) ?_
                    exact E dX7_reads_139 rfl (rfl) (by decide) (by decide) (by rw [hA, pAll_none hc hl hv27]; dsimp only; rw [hc]; exact ⟨_, _, _, bI_zero rfl, (fun i hi => RW9_blw zr1B hi (hRw i hi)), hW, hFa, rfl⟩)
                  · exact absurd c120 (by decide)
                · exact absurd rfl c23
              · exact absurd rfl c101
            · exact absurd c55 (by decide)
        | some ahv27 =>
          have hp2q := hp2
          rw [hv27] at hp2
          obtain ⟨zr1, zr1B, zr1R, rfl⟩ := hp2
          have hW2 := WG_put2 hc hW hl hv27
          have hF2 := FAp_step hc hFa (pStmt_ok hv27).2.2.2.2.2.2
          have hR2 := RWs_step hc hRw zr1B zr1R
          have hql := pStmt_le (tx := tx) hq
          have hf12 := hF2.1
          show GG k _ _ [[((mo 0), .inr (7, [.int th, .ref (mo 1), .ref (mo 2), .int (nI sm), .ref (mo 3), .int (nI ln), .ref (mo 4), .int (nI c), .int (nI (fmx fa9 ahv27)), .ref (mo 5), .ref (mo 6), .int (nI ((pStmt tx ln q).2)), .int (nI 0), .long dd]))], cMt v mo ft, cMr v mo zr1] _ _ []
          refine g_aload_n X dX7_reads_30 1 rfl rfl ?_
          refine g_dup X dX7_reads_31 rfl ?_
          refine g_get X cb7 7 q_14_4 dX7_reads_32 0 0 rfl rfl (by decide) rfl rfl ?_
          refine g_aload_n X dX7_reads_35 1 rfl rfl ?_
          refine g_get X cb7 12 q_14_10 dX7_reads_36 0 0 rfl rfl (by decide) rfl rfl ?_
          refine g_if_eqN (tgt := 46) X dX7_reads_39 (by decide) (by omega) (fun c39 => ?_) (fun c39 => ?_)
          · refine g_iconst (x := nI 1) X dX7_reads_46 (by decide +kernel) ?_
            refine g_iaddN X dX7_reads_47 ?_
            refine g_put (cs' := [[((mo 0), .inr (7, [.int th, .ref (mo 1), .ref (mo 2), .int (nI sm), .ref (mo 3), .int (nI ln), .ref (mo 4), .int (nI (c + 1)), .int (nI (fmx fa9 ahv27)), .ref (mo 5), .ref (mo 6), .int (nI ((pStmt tx ln q).2)), .int (nI 0), .long dd]))], cMt v mo ft, cMr v mo zr1]) X cb7 7 q_14_4 dX7_reads_48 0 0 rfl rfl (by decide) rfl rfl (rfl) (rfl) (Nat.le_of_ble_eq_true rfl) rfl ?_
            refine g_aload_n X dX7_reads_51 1 rfl rfl ?_
            refine g_get X cb7 12 q_14_10 dX7_reads_52 0 0 rfl rfl (by decide) rfl rfl ?_
            refine g_if_neN (tgt := 93) X dX7_reads_55 (by decide) (by omega) (fun c55 => ?_) (fun c55 => ?_)
            · exact absurd rfl c55
            · refine g_aload_n X dX7_reads_58 1 rfl rfl ?_
              refine g_get X cb7 11 q_14_9 dX7_reads_59 0 0 rfl rfl (by decide) rfl rfl ?_
              refine g_aload_n X dX7_reads_62 1 rfl rfl ?_
              refine g_get X cb7 5 q_14_11 dX7_reads_63 0 0 rfl rfl (by decide) rfl rfl ?_
              refine g_icmp_geN (tgt := 93) X dX7_reads_66 (by decide) (by omega) (by omega) (fun c66 => ?_) (fun c66 => ?_)
              · refine g_iconst (x := nI 0) X dX7_reads_93 (by decide +kernel) ?_
                refine g_istore_n (lv' := [(1, .int (nI 0)), (0, .ref (mo 0))]) X dX7_reads_94 rfl (by decide) rfl ?_
                refine g_aload_n X dX7_reads_95 1 rfl rfl ?_
                refine g_dup X dX7_reads_96 rfl ?_
                refine g_get X cb7 11 q_14_9 dX7_reads_97 0 0 rfl rfl (by decide) rfl rfl ?_
                refine g_iload_n X dX7_reads_100 0 rfl rfl ?_
                refine g_if_eqN (tgt := 108) X dX7_reads_101 (by decide) (by omega) (fun c101 => ?_) (fun c101 => ?_)
                · refine g_iconst (x := nI 0) X dX7_reads_108 (by decide +kernel) ?_
                  refine g_iaddN X dX7_reads_109 ?_
                  refine g_put (cs' := [[((mo 0), .inr (7, [.int th, .ref (mo 1), .ref (mo 2), .int (nI sm), .ref (mo 3), .int (nI ln), .ref (mo 4), .int (nI (c + 1)), .int (nI (fmx fa9 ahv27)), .ref (mo 5), .ref (mo 6), .int (nI (((pStmt tx ln q).2) + 0)), .int (nI 0), .long dd]))], cMt v mo ft, cMr v mo zr1]) X cb7 11 q_14_9 dX7_reads_110 0 0 rfl rfl (by decide) rfl rfl (rfl) (rfl) (Nat.le_of_ble_eq_true rfl) rfl ?_
                  refine g_goto (tgt := 22) X dX7_reads_113 (by decide) ?_
                  refine g_iload_n X dX7_reads_22 0 rfl rfl ?_
                  refine g_if_eqN (tgt := 116) X dX7_reads_23 (by decide) (by omega) (fun c23 => ?_) (fun c23 => ?_)
                  · refine g_aload_n X dX7_reads_116 1 rfl rfl ?_
                    refine g_get X cb7 12 q_14_10 dX7_reads_117 0 0 rfl rfl (by decide) rfl rfl ?_
                    refine g_if_neN (tgt := 138) X dX7_reads_120 (by decide) (by omega) (fun c120 => ?_) (fun c120 => ?_)
                    · exact absurd rfl c120
                    · refine g_aload_n X dX7_reads_123 1 rfl rfl ?_
                      refine g_get X cb7 11 q_14_9 dX7_reads_124 0 0 rfl rfl (by decide) rfl rfl ?_
                      refine g_aload_n X dX7_reads_127 1 rfl rfl ?_
                      refine g_get X cb7 5 q_14_11 dX7_reads_128 0 0 rfl rfl (by decide) rfl rfl ?_
                      refine g_icmp_neN (tgt := 138) X dX7_reads_131 (by decide) (by omega) (by omega) (fun c131 => ?_) (fun c131 => ?_)
                      · omega
                      · refine g_iconst (x := nI 1) X dX7_reads_134 (by decide +kernel) ?_
                        refine g_goto (tgt := 139) X dX7_reads_135 (by decide) ?_
                        exact E dX7_reads_139 rfl (rfl) (by decide) (by decide) (by rw [hA, pAll_true hl hv27 (by omega)]; dsimp only; rw [len1 hc]; exact ⟨_, _, _, bI_one rfl, hR2, hW2, hF2, rfl⟩)
                  · exact absurd rfl c23
                · exact absurd rfl c101
              · refine g_aload_n X dX7_reads_69 1 rfl rfl ?_
                refine g_get X cb7 7 q_14_4 dX7_reads_70 0 0 rfl rfl (by decide) rfl rfl ?_
                refine g_bipush (x := nI 12) X dX7_reads_73 (by decide +kernel) ?_
                refine g_icmp_geN (tgt := 93) X dX7_reads_75 (by decide) (by omega) (by omega) (fun c75 => ?_) (fun c75 => ?_)
                · refine g_iconst (x := nI 0) X dX7_reads_93 (by decide +kernel) ?_
                  refine g_istore_n (lv' := [(1, .int (nI 0)), (0, .ref (mo 0))]) X dX7_reads_94 rfl (by decide) rfl ?_
                  refine g_aload_n X dX7_reads_95 1 rfl rfl ?_
                  refine g_dup X dX7_reads_96 rfl ?_
                  refine g_get X cb7 11 q_14_9 dX7_reads_97 0 0 rfl rfl (by decide) rfl rfl ?_
                  refine g_iload_n X dX7_reads_100 0 rfl rfl ?_
                  refine g_if_eqN (tgt := 108) X dX7_reads_101 (by decide) (by omega) (fun c101 => ?_) (fun c101 => ?_)
                  · refine g_iconst (x := nI 0) X dX7_reads_108 (by decide +kernel) ?_
                    refine g_iaddN X dX7_reads_109 ?_
                    refine g_put (cs' := [[((mo 0), .inr (7, [.int th, .ref (mo 1), .ref (mo 2), .int (nI sm), .ref (mo 3), .int (nI ln), .ref (mo 4), .int (nI (c + 1)), .int (nI (fmx fa9 ahv27)), .ref (mo 5), .ref (mo 6), .int (nI (((pStmt tx ln q).2) + 0)), .int (nI 0), .long dd]))], cMt v mo ft, cMr v mo zr1]) X cb7 11 q_14_9 dX7_reads_110 0 0 rfl rfl (by decide) rfl rfl (rfl) (rfl) (Nat.le_of_ble_eq_true rfl) rfl ?_
                    refine g_goto (tgt := 22) X dX7_reads_113 (by decide) ?_
                    refine g_iload_n X dX7_reads_22 0 rfl rfl ?_
                    refine g_if_eqN (tgt := 116) X dX7_reads_23 (by decide) (by omega) (fun c23 => ?_) (fun c23 => ?_)
                    · refine g_aload_n X dX7_reads_116 1 rfl rfl ?_
                      refine g_get X cb7 12 q_14_10 dX7_reads_117 0 0 rfl rfl (by decide) rfl rfl ?_
                      refine g_if_neN (tgt := 138) X dX7_reads_120 (by decide) (by omega) (fun c120 => ?_) (fun c120 => ?_)
                      · exact absurd rfl c120
                      · refine g_aload_n X dX7_reads_123 1 rfl rfl ?_
                        refine g_get X cb7 11 q_14_9 dX7_reads_124 0 0 rfl rfl (by decide) rfl rfl ?_
                        refine g_aload_n X dX7_reads_127 1 rfl rfl ?_
                        refine g_get X cb7 5 q_14_11 dX7_reads_128 0 0 rfl rfl (by decide) rfl rfl ?_
                        refine g_icmp_neN (tgt := 138) X dX7_reads_131 (by decide) (by omega) (by omega) (fun c131 => ?_) (fun c131 => ?_)
                        · refine g_iconst (x := nI 0) X dX7_reads_138 (by decide +kernel) ?_
                          exact E dX7_reads_139 rfl (rfl) (by decide) (by decide) (by rw [hA, pAll_12 (by omega) hv27 (by omega)]; dsimp only; rw [len1 hc]; exact ⟨_, _, _, bI_zero rfl, hR2, hW2, hF2, rfl⟩)
                        · omega
                    · exact absurd rfl c23
                  · exact absurd rfl c101
                · refine g_aload_n X dX7_reads_78 1 rfl rfl ?_
                  refine g_bipush (x := nI 59) X dX7_reads_79 (by decide +kernel) ?_
                  refine g_bipush (x := nI 59) X dX7_reads_81 (by decide +kernel) ?_
                  refine g_callV (As := [.int (nI 59), .int (nI 59)]) (rest := []) (wr := [cMr v mo zr1]) X (nx_s l v mo th sm ln (nI (c + 1)) (nI (fmx fa9 ahv27)) dd tx ft ((pStmt tx ln q).2) 59 59 hT (by omega) (by omega) (by omega) (by omega)) f_X7_isNext q_14_16 dX7_reads_83 [0, 1] [2] rfl rfl (by decide) 0 rfl rfl rfl rfl (Nat.le_of_ble_eq_true rfl) (by decide) (fun r_ w_ hp3 => ?_)
                  by_cases hv83 : 59 ≤ nxc tx ln ((pStmt tx ln q).2) ∧ nxc tx ln ((pStmt tx ln q).2) ≤ 59
                  · have hp3q := hp3
                    rw [if_pos hv83] at hp3
                    obtain ⟨rfl, rfl⟩ := hp3
                    show GG k _ _ [[((mo 0), .inr (7, [.int th, .ref (mo 1), .ref (mo 2), .int (nI sm), .ref (mo 3), .int (nI ln), .ref (mo 4), .int (nI (c + 1)), .int (nI (fmx fa9 ahv27)), .ref (mo 5), .ref (mo 6), .int (nI ((pStmt tx ln q).2)), .int (nI 0), .long dd]))], cMt v mo ft, cMr v mo zr1] _ _ [.int (nI 1)]
                    refine g_if_eqN (tgt := 93) X dX7_reads_86 (by decide) (by omega) (fun c86 => ?_) (fun c86 => ?_)
                    · exact absurd c86 (by decide)
                    · refine g_iconst (x := nI 1) X dX7_reads_89 (by decide +kernel) ?_
                      refine g_goto (tgt := 94) X dX7_reads_90 (by decide) ?_
                      refine g_istore_n (lv' := [(1, .int (nI 1)), (0, .ref (mo 0))]) X dX7_reads_94 rfl (by decide) rfl ?_
                      refine g_aload_n X dX7_reads_95 1 rfl rfl ?_
                      refine g_dup X dX7_reads_96 rfl ?_
                      refine g_get X cb7 11 q_14_9 dX7_reads_97 0 0 rfl rfl (by decide) rfl rfl ?_
                      refine g_iload_n X dX7_reads_100 0 rfl rfl ?_
                      refine g_if_eqN (tgt := 108) X dX7_reads_101 (by decide) (by omega) (fun c101 => ?_) (fun c101 => ?_)
                      · exact absurd c101 (by decide)
                      · refine g_iconst (x := nI 1) X dX7_reads_104 (by decide +kernel) ?_
                        refine g_goto (tgt := 109) X dX7_reads_105 (by decide) ?_
                        refine g_iaddN X dX7_reads_109 ?_
                        refine g_put (cs' := [[((mo 0), .inr (7, [.int th, .ref (mo 1), .ref (mo 2), .int (nI sm), .ref (mo 3), .int (nI ln), .ref (mo 4), .int (nI (c + 1)), .int (nI (fmx fa9 ahv27)), .ref (mo 5), .ref (mo 6), .int (nI (((pStmt tx ln q).2) + 1)), .int (nI 0), .long dd]))], cMt v mo ft, cMr v mo zr1]) X cb7 11 q_14_9 dX7_reads_110 0 0 rfl rfl (by decide) rfl rfl (rfl) (rfl) (Nat.le_of_ble_eq_true rfl) rfl ?_
                        refine g_goto (tgt := 22) X dX7_reads_113 (by decide) ?_
                        exact ih22 _ (by omega) (L ++ [ahv27]) (c + 1) ((pStmt tx ln q).2 + 1) (fmx fa9 ahv27) zr1 (len1 hc) (by omega) (nxc_pos (tx := tx) (p := (pStmt tx ln q).2) (by omega)) (hA.trans (pAll_go (by omega) hv27 (by omega) (eq_rng hv83))) hW2 hR2 hF2 rfl
                  · have hp3q := hp3
                    rw [if_neg hv83] at hp3
                    obtain ⟨rfl, rfl⟩ := hp3
                    show GG k _ _ [[((mo 0), .inr (7, [.int th, .ref (mo 1), .ref (mo 2), .int (nI sm), .ref (mo 3), .int (nI ln), .ref (mo 4), .int (nI (c + 1)), .int (nI (fmx fa9 ahv27)), .ref (mo 5), .ref (mo 6), .int (nI ((pStmt tx ln q).2)), .int (nI 0), .long dd]))], cMt v mo ft, cMr v mo zr1] _ _ [.int (nI 0)]
                    refine g_if_eqN (tgt := 93) X dX7_reads_86 (by decide) (by omega) (fun c86 => ?_) (fun c86 => ?_)
                    · refine g_iconst (x := nI 0) X dX7_reads_93 (by decide +kernel) ?_
                      refine g_istore_n (lv' := [(1, .int (nI 0)), (0, .ref (mo 0))]) X dX7_reads_94 rfl (by decide) rfl ?_
                      refine g_aload_n X dX7_reads_95 1 rfl rfl ?_
                      refine g_dup X dX7_reads_96 rfl ?_
                      refine g_get X cb7 11 q_14_9 dX7_reads_97 0 0 rfl rfl (by decide) rfl rfl ?_
                      refine g_iload_n X dX7_reads_100 0 rfl rfl ?_
                      refine g_if_eqN (tgt := 108) X dX7_reads_101 (by decide) (by omega) (fun c101 => ?_) (fun c101 => ?_)
                      · refine g_iconst (x := nI 0) X dX7_reads_108 (by decide +kernel) ?_
                        refine g_iaddN X dX7_reads_109 ?_
                        refine g_put (cs' := [[((mo 0), .inr (7, [.int th, .ref (mo 1), .ref (mo 2), .int (nI sm), .ref (mo 3), .int (nI ln), .ref (mo 4), .int (nI (c + 1)), .int (nI (fmx fa9 ahv27)), .ref (mo 5), .ref (mo 6), .int (nI (((pStmt tx ln q).2) + 0)), .int (nI 0), .long dd]))], cMt v mo ft, cMr v mo zr1]) X cb7 11 q_14_9 dX7_reads_110 0 0 rfl rfl (by decide) rfl rfl (rfl) (rfl) (Nat.le_of_ble_eq_true rfl) rfl ?_
                        refine g_goto (tgt := 22) X dX7_reads_113 (by decide) ?_
                        refine g_iload_n X dX7_reads_22 0 rfl rfl ?_
                        refine g_if_eqN (tgt := 116) X dX7_reads_23 (by decide) (by omega) (fun c23 => ?_) (fun c23 => ?_)
                        · refine g_aload_n X dX7_reads_116 1 rfl rfl ?_
                          refine g_get X cb7 12 q_14_10 dX7_reads_117 0 0 rfl rfl (by decide) rfl rfl ?_
                          refine g_if_neN (tgt := 138) X dX7_reads_120 (by decide) (by omega) (fun c120 => ?_) (fun c120 => ?_)
                          · exact absurd rfl c120
                          · refine g_aload_n X dX7_reads_123 1 rfl rfl ?_
                            refine g_get X cb7 11 q_14_9 dX7_reads_124 0 0 rfl rfl (by decide) rfl rfl ?_
                            refine g_aload_n X dX7_reads_127 1 rfl rfl ?_
                            refine g_get X cb7 5 q_14_11 dX7_reads_128 0 0 rfl rfl (by decide) rfl rfl ?_
                            refine g_icmp_neN (tgt := 138) X dX7_reads_131 (by decide) (by omega) (by omega) (fun c131 => ?_) (fun c131 => ?_)
                            · refine g_iconst (x := nI 0) X dX7_reads_138 (by decide +kernel) ?_
                              exact E dX7_reads_139 rfl (rfl) (by decide) (by decide) (by rw [hA, pAll_stop (by omega) hv27 (by omega) (ne_rng hv83)]; dsimp only; rw [len1 hc]; exact ⟨_, _, _, bI_zero rfl, hR2, hW2, hF2, rfl⟩)
                            · omega
                        · exact absurd rfl c23
                      · exact absurd rfl c101
                    · exact absurd rfl c86
          · exact absurd rfl c39
  exact lp22 _ ([]) 0 0 0 fr rfl (by omega) (Nat.zero_le _) rfl ⟨Nat.zero_le _, fun i h => absurd h (Nat.not_lt_zero _)⟩ (fun i h => absurd h (Nat.not_lt_zero _)) FAp_0 rfl

