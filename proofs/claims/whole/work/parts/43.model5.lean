/-! ## the model: judging -/
def SnR (n : Nat) (V : Nat → Prop) (fn : Nat → Int32) : Prop := ∀ q, q < 512 * (n + 1) → (fn q = nI 1 ∧ V q) ∨ (fn q = nI 0 ∧ ¬ V q)
theorem SnR.cong {n : Nat} {V W : Nat → Prop} {fn : Nat → Int32} (h : SnR n V fn) (e : ∀ z, V z ↔ W z) : SnR n W fn := fun q hq => (h q hq).elim (fun z => Or.inl ⟨z.1, (e q).mp z.2⟩) (fun z => Or.inr ⟨z.1, fun w => z.2 ((e q).mpr w)⟩)
theorem SnR_set {n x : Nat} {V : Nat → Prop} {fn : Nat → Int32} (h : SnR n V fn) : SnR n (adV V x) (upd fn x (nI 1)) := fun q hq => by
  by_cases z : q = x
  · subst z; rw [pk_us]; exact Or.inl ⟨rfl, Or.inr rfl⟩
  · rw [pk_un z]
    exact (h q hq).elim (fun w => Or.inl ⟨w.1, Or.inl w.2⟩) (fun w => Or.inr ⟨w.1, fun u => u.elim w.2 z⟩)
def kd (e : Int) : Nat := if e = -1 then 0 else if e < 1000 then 1 else 2
noncomputable def rtP (lo hi : Nat → Nat) (P : Nat → S9) (n h t : Nat) : Bool := ab9 lo hi (-1) t && decide (kd (EE P n t) = h)
section RT
variable {lo hi : Nat → Nat} {P : Nat → S9} {n h t : Nat}
theorem rt_t (a : ab9 lo hi (-1) t = true) (b : kd (EE P n t) = h) : rtP lo hi P n h t = true := by unfold rtP; rw [a, decide_eq_true b]; rfl
theorem rt_f1 (a : ab9 lo hi (-1) t = false) : rtP lo hi P n h t = false := by unfold rtP; rw [a]; rfl
theorem rt_f2 (b : ¬ kd (EE P n t) = h) : rtP lo hi P n h t = false := by unfold rtP; rw [decide_eq_false b, Bool.and_false]
theorem rt_0 : ctb (rtP lo hi P n 0) 512 = ctb (jE lo hi P n) 512 := ctb_cong (fun t _ => by unfold rtP jE kd; congr 1; refine decide_eq_decide.mpr ?_; split; exact ⟨fun _ => by assumption, fun _ => rfl⟩; split <;> exact ⟨fun h => by omega, fun h => by omega⟩)
theorem rt_1 (hW : WF P n) : ctb (rtP lo hi P n 1) 512 = ctb (jF lo hi P n) 512 := ctb_cong (fun t ht => by have hr := EE_rng hW (show t < 512 * (n + 1) by omega); unfold rtP jF kd; congr 1; refine decide_eq_decide.mpr ?_; split; exact ⟨fun h => by omega, fun h => by omega⟩; split <;> exact ⟨fun h => by omega, fun h => by omega⟩)
theorem rt_2 : ctb (rtP lo hi P n 2) 512 = ctb (jS lo hi P n) 512 := ctb_cong (fun t _ => by unfold rtP jS kd; congr 1; refine decide_eq_decide.mpr ?_; split; exact ⟨fun h => by omega, fun h => by omega⟩; split <;> exact ⟨fun h => by omega, fun h => by omega⟩)
def rcV (V : Nat → Prop) (i T : Nat) : Prop := ∃ t, t < T ∧ V (512 * i + t)
theorem mnV_no {i : Nat} (h : ¬ rcV (RV lo hi P n 512) i 512) : mnV lo hi P n i 0 = -1 := mnV_eq (Or.inl ⟨rfl, fun t ht z => h ⟨t, ht, z⟩⟩)
theorem mnV_yes {i : Nat} (h : rcV (RV lo hi P n 512) i 512) : ¬ mnV lo hi P n i 0 = -1 := by
  intro e
  by_cases hx : ∃ x, IsMn (RV lo hi P n 512) i 0 x
  · obtain ⟨x, hx⟩ := hx
    rw [mnV_eq hx] at e
    rcases hx with ⟨_, b⟩ | ⟨t, a, b, c, d⟩
    · obtain ⟨t, ht, z⟩ := h
      exact b t ht z
    · omega
  · unfold mnV pick9 at e
    rw [dif_neg hx] at e
    omega
theorem exV_no (hW : WF P n) {i : Nat} (hi9 : i < n) (h : ¬ rcV (RV lo hi P n 512) i 512) : exV lo hi P n i = -1 := by
  have hn12 := hW.1
  refine exV_eq (Or.inl ⟨rfl, fun t ht ⟨a, b⟩ => h ?_⟩)
  obtain ⟨k, z, hk, hn⟩ := EE_ne (show EE P n t ≠ -1 by omega)
  have e := EE_stop ⟨hk, hn⟩
  have hz := it_lt hW (show t < 512 * (n + 1) by omega) hk
  have hzi : z / 512 = i := by unfold tv at e; split at e <;> omega
  exact ⟨z % 512, Nat.mod_lt _ (by omega), t, ht, a, k, by rw [hk]; congr 1; omega⟩
/-- the first of the triples from u on -/
def ExU (p : Nat → Prop) (u : Nat) (x : Int) : Prop := (x = -1 ∧ ∀ t, u ≤ t → t < 512 → ¬ p t) ∨ ∃ t : Nat, u ≤ t ∧ t < 512 ∧ x = t ∧ p t ∧ ∀ t', u ≤ t' → t' < t → ¬ p t'
theorem ExU_0 {p : Nat → Prop} {x : Int} (h : ExU p 0 x) : IsEx p 512 x := h.elim (fun a => Or.inl ⟨a.1, fun t ht => a.2 t (Nat.zero_le _) ht⟩) (fun ⟨t, _, b, c, d, e⟩ => Or.inr ⟨t, b, c, d, fun t' h => e t' (Nat.zero_le _) h⟩)
theorem ExU_top {p : Nat → Prop} : ExU p 512 (-1) := Or.inl ⟨rfl, fun t h1 h2 => by omega⟩
theorem ExU_hit {p : Nat → Prop} {T : Nat} (hT : T < 512) (hp : p T) : ExU p T (T : Int) := Or.inr ⟨T, Nat.le_refl _, hT, rfl, hp, fun t' a b => by omega⟩
theorem ExU_miss {p : Nat → Prop} {T : Nat} {x : Int} (h : ExU p (T + 1) x) (hp : ¬ p T) : ExU p T x := by
  rcases h with ⟨a, b⟩ | ⟨t, a, b, c, d, e⟩
  · exact Or.inl ⟨a, fun t h1 h2 => by by_cases z : t = T; rw [z]; exact hp; exact b t (by omega) h2⟩
  · exact Or.inr ⟨t, by omega, b, c, d, fun t' h1 h2 => by by_cases z : t' = T; rw [z]; exact hp; exact e t' (by omega) h2⟩
theorem ExU.rng {p : Nat → Prop} {u : Nat} {x : Int} (h : ExU p u x) : -1 ≤ x ∧ x < 512 := by
  rcases h with ⟨a, b⟩ | ⟨t, a, b, c, d, e⟩ <;> omega
end RT

set_option maxHeartbeats 4000000 in
set_option maxRecDepth 100000 in
theorem c_X7_looks (l : Launch) (v : VV) (mo : Nat → Nat) (th : Int32) (sm : Nat) (ln : Nat) (rm : Int32) (fa : Int32) (sp : Int32) (wr : Int32) (dd : Int64) (P : Nat → S9) (n : Nat) (lo : Nat → Nat) (hi : Nat → Nat) (fs : Nat → Int32) (fn : Nat → Int32) (hW : WF P n) (hS : SR P n lo hi fs) (hL : AsW lo hi) : MU l v yX7_looks cX7_looks 3 none ({ frames := 4, cells := 0, slots := 0, locals := 93 }) [.ref (mo 0)] [[((mo 0), .inr (7, [.int th, .ref (mo 1), .ref (mo 2), .int (nI sm), .ref (mo 3), .int (nI ln), .ref (mo 4), .int rm, .int fa, .ref (mo 5), .ref (mo 6), .int sp, .int wr, .long dd]))], cMs v mo fs, cMn v mo fn] (fun _ w_ => ∃ fn', SnR n (RV lo hi P n 512) fn' ∧ w_ = [[((mo 0), .inr (7, [.int th, .ref (mo 1), .ref (mo 2), .int (nI sm), .ref (mo 3), .int (nI ln), .ref (mo 4), .int rm, .int fa, .ref (mo 5), .ref (mo 6), .int sp, .int wr, .long dd]))], cMs v mo fs, cMn v mo fn']) 0 0 := by
  refine mm_void rfl (by decide) (Nat.le_of_ble_eq_true rfl) [(0, .ref (mo 0))] rfl (fun k X hin E => ?_)
  have hn12 := hW.1
  refine g_iconst (x := nI 0) X dX7_looks_0 (by decide +kernel) ?_
  refine g_istore_n (lv' := [(1, .int (nI 0)), (0, .ref (mo 0))]) X dX7_looks_1 rfl (by decide) rfl ?_
  have lp2 : ∀ (zN : Nat) (p : Nat) (fn' : Nat → Int32) (hp9 : p ≤ 512 * (n + 1)) (e1 : ∀ q, q < p → fn' q = nI 0) (zM : zN = 512 * (n + 1) - p), GG k 0 0 [[((mo 0), .inr (7, [.int th, .ref (mo 1), .ref (mo 2), .int (nI sm), .ref (mo 3), .int (nI ln), .ref (mo 4), .int rm, .int fa, .ref (mo 5), .ref (mo 6), .int sp, .int wr, .long dd]))], cMs v mo fs, cMn v mo fn'] [(1, .int (nI p)), (0, .ref (mo 0))] 2 [] := by
    intro zN
    induction zN using Nat.strongRecOn with
    | _ zN zih =>
      have ih2 := zih
      clear zih
      intro p fn' hp9 e1 zM
      refine g_iload_n X dX7_looks_2 0 rfl rfl ?_
      refine g_sipush (x := nI 512) X dX7_looks_3 (by decide +kernel) ?_
      refine g_aload_n X dX7_looks_6 1 rfl rfl ?_
      refine g_get X cb7 1 q_4_18 dX7_looks_7 0 0 rfl rfl (by decide) rfl rfl ?_
      refine g_iconst (x := nI 0) X dX7_looks_10 (by decide +kernel) ?_
      refine g_iald X dX7_looks_11 1 0 rfl rfl (by omega) (by omega) ?_
      refine g_v (y := nI n) (hS.1) ?_
      refine g_iconst (x := nI 1) X dX7_looks_12 (by decide +kernel) ?_
      refine g_iaddN X dX7_looks_13 ?_
      refine g_imulN X dX7_looks_14 ?_
      refine g_icmp_geN (tgt := 31) X dX7_looks_15 (by decide) (by omega) (by omega) (fun c15 => ?_) (fun c15 => ?_)
      · refine g_iconst (x := nI 0) X dX7_looks_31 (by decide +kernel) ?_
        refine g_istore_n (lv' := [(1, .int (nI 0)), (0, .ref (mo 0))]) X dX7_looks_32 rfl (by decide) rfl ?_
        have lp33 : ∀ (zN : Nat) (T : Nat) (fn' : Nat → Int32) (hT : T ≤ 512) (hSn : SnR n (RV lo hi P n T) fn') (zM : zN = 512 - T), GG k 0 0 [[((mo 0), .inr (7, [.int th, .ref (mo 1), .ref (mo 2), .int (nI sm), .ref (mo 3), .int (nI ln), .ref (mo 4), .int rm, .int fa, .ref (mo 5), .ref (mo 6), .int sp, .int wr, .long dd]))], cMs v mo fs, cMn v mo fn'] [(1, .int (nI T)), (0, .ref (mo 0))] 33 [] := by
          intro zN
          induction zN using Nat.strongRecOn with
          | _ zN zih =>
            have ih33 := zih
            clear zih
            intro T fn' hT hSn zM
            refine g_iload_n X dX7_looks_33 0 rfl rfl ?_
            refine g_sipush (x := nI 512) X dX7_looks_34 (by decide +kernel) ?_
            refine g_icmp_geN (tgt := 102) X dX7_looks_37 (by decide) (by omega) (by omega) (fun c37 => ?_) (fun c37 => ?_)
            · exact E dX7_looks_102 (by decide) (by decide) (⟨_, by rwa [show T = 512 from by omega] at hSn, rfl⟩)
            · refine g_aload_n X dX7_looks_40 1 rfl rfl ?_
              refine g_iload_n X dX7_looks_41 0 rfl rfl ?_
              refine g_callV (As := [.int (nI T)]) (rest := []) (wr := [cMn v mo fn']) X (c_X7_isAssumed l v mo th sm ln rm fa sp wr dd P n lo hi fs T hW hS hL (by omega)) f_X7_isAssumed q_29_2 dX7_looks_42 [0, 1] [2] rfl rfl (by decide) 0 rfl rfl rfl rfl (Nat.le_of_ble_eq_true rfl) (by decide) (fun r_ w_ hp1 => ?_)
              obtain ⟨rfl, rfl⟩ := hp1
              show GG k _ _ [[((mo 0), .inr (7, [.int th, .ref (mo 1), .ref (mo 2), .int (nI sm), .ref (mo 3), .int (nI ln), .ref (mo 4), .int rm, .int fa, .ref (mo 5), .ref (mo 6), .int sp, .int wr, .long dd]))], cMs v mo fs, cMn v mo fn'] _ _ [.int (bI (ab9 lo hi (-1) T))]
              refine g_if_eqB (tgt := 52) X dX7_looks_45 (by decide) (fun c45 => ?_) (fun c45 => ?_)
              · have hab := c45
                refine g_iconst (x := zI (-1)) X dX7_looks_52 (by decide +kernel) ?_
                refine g_istore_n (lv' := [(2, .int (zI (-1))), (1, .int (nI T)), (0, .ref (mo 0))]) X dX7_looks_53 rfl (by decide) rfl ?_
                refine g_iload_n X dX7_looks_54 0 rfl rfl ?_
                refine g_iconst (x := zI (-1)) X dX7_looks_55 (by decide +kernel) ?_
                refine g_icmp_eq (tgt := 96) X dX7_looks_56 (by decide) (fun c56 => ?_) (fun c56 => ?_)
                · rw [zI_inj (by omega) (by omega) (by omega) (by omega)] at c56
                  refine g_iinc (y := nI (T + 1)) (lv' := [(1, .int (nI (T + 1))), (2, .int (zI (-1))), (0, .ref (mo 0))]) (j := 1) X dX7_looks_96 rfl (nI_add T 1) (by decide) rfl ?_
                  refine g_goto (tgt := 33) X dX7_looks_99 (by decide) ?_
                  refine g_lv (lv' := [(1, .int (nI (T + 1))), (0, .ref (mo 0))]) [0, 2] rfl ?_
                  exact ih33 _ (by omega) (T + 1) fn' (by omega) (hSn.cong (RV_out hab)) rfl
                · rw [zI_inj (by omega) (by omega) (by omega) (by omega)] at c56
                  exact absurd rfl c56
              · have hab := c45
                refine g_iload_n X dX7_looks_48 0 rfl rfl ?_
                refine g_goto (tgt := 53) X dX7_looks_49 (by decide) ?_
                refine g_istore_n (lv' := [(2, .int (nI T)), (1, .int (nI T)), (0, .ref (mo 0))]) X dX7_looks_53 rfl (by decide) rfl ?_
                have lp54 : ∀ (zN : Nat) (c : Nat) (x0 : Nat) (f2 : Nat → Int32) (hx : it P n c T = some x0) (hd : Dst P n T c) (hB : SnR n (Vt P n (RV lo hi P n T) T c) f2) (zM : zN = 6657 - c), GG k 0 0 [[((mo 0), .inr (7, [.int th, .ref (mo 1), .ref (mo 2), .int (nI sm), .ref (mo 3), .int (nI ln), .ref (mo 4), .int rm, .int fa, .ref (mo 5), .ref (mo 6), .int sp, .int wr, .long dd]))], cMs v mo fs, cMn v mo f2] [(2, .int (nI x0)), (1, .int (nI T)), (0, .ref (mo 0))] 54 [] := by
                  intro zN
                  induction zN using Nat.strongRecOn with
                  | _ zN zih =>
                    have ih54 := zih
                    clear zih
                    intro c x0 f2 hx hd hB zM
                    have hxl := it_lt hW (show T < 512 * (n + 1) by omega) hx
                    refine g_iload_n X dX7_looks_54 0 rfl rfl ?_
                    refine g_iconst (x := zI (-1)) X dX7_looks_55 (by decide +kernel) ?_
                    refine g_icmp_eq (tgt := 96) X dX7_looks_56 (by decide) (fun c56 => ?_) (fun c56 => ?_)
                    · rw [zI_nI x0, zI_inj (by omega) (by omega) (by omega) (by omega)] at c56
                      omega
                    · rw [zI_nI x0, zI_inj (by omega) (by omega) (by omega) (by omega)] at c56
                      refine g_aload_n X dX7_looks_59 2 rfl rfl ?_
                      refine g_get X cb7 10 q_5_0 dX7_looks_60 0 0 rfl rfl (by decide) rfl rfl ?_
                      refine g_iload_n X dX7_looks_63 0 rfl rfl ?_
                      refine g_zald X dX7_looks_64 2 0 rfl rfl (by omega) (by omega) ?_
                      rcases hB x0 hxl with ⟨h1, hv⟩ | ⟨h1, hnv⟩
                      · refine g_v (y := nI 1) h1 ?_
                        refine g_if_neN (tgt := 96) X dX7_looks_65 (by decide) (by omega) (fun c65 => ?_) (fun c65 => ?_)
                        · refine g_iinc (y := nI (T + 1)) (lv' := [(1, .int (nI (T + 1))), (2, .int (nI x0)), (0, .ref (mo 0))]) (j := 1) X dX7_looks_96 rfl (nI_add T 1) (by decide) rfl ?_
                          refine g_goto (tgt := 33) X dX7_looks_99 (by decide) ?_
                          refine g_lv (lv' := [(1, .int (nI (T + 1))), (0, .ref (mo 0))]) [0, 2] rfl ?_
                          exact ih33 _ (by omega) (T + 1) f2 (by omega) ((hB.cong (Vt_iff (RV_cl T) hx hv)).cong (RV_in hab)) rfl
                        · exact absurd c65 (by decide)
                      · refine g_v (y := nI 0) h1 ?_
                        have hcl := Dst_len hW (show T < 512 * (n + 1) by omega) hd hx hnv
                        refine g_if_neN (tgt := 96) X dX7_looks_65 (by decide) (by omega) (fun c65 => ?_) (fun c65 => ?_)
                        · exact absurd rfl c65
                        · refine g_aload_n X dX7_looks_68 2 rfl rfl ?_
                          refine g_get X cb7 10 q_5_0 dX7_looks_69 0 0 rfl rfl (by decide) rfl rfl ?_
                          refine g_iload_n X dX7_looks_72 0 rfl rfl ?_
                          refine g_iconst (x := nI 1) X dX7_looks_73 (by decide +kernel) ?_
                          refine g_zast (cs' := [[((mo 0), .inr (7, [.int th, .ref (mo 1), .ref (mo 2), .int (nI sm), .ref (mo 3), .int (nI ln), .ref (mo 4), .int rm, .int fa, .ref (mo 5), .ref (mo 6), .int sp, .int wr, .long dd]))], cMs v mo fs, [((mo 6), .inl (v.2.1 2, 6656, .inl (upd f2 x0 (nI 1))))]]) X dX7_looks_74 2 0 rfl rfl (by omega) (by omega) (rfl) rfl ?_
                          refine g_aload_n X dX7_looks_75 2 rfl rfl ?_
                          refine g_iload_n X dX7_looks_76 0 rfl rfl ?_
                          refine g_callV (As := [.int (nI x0)]) (rest := []) (wr := [[((mo 6), .inl (v.2.1 2, 6656, .inl (upd f2 x0 (nI 1))))]]) X (c_X7_isEnd l v mo th sm ln rm fa sp wr dd P n lo hi fs x0 hW hS (by omega)) f_X7_isEnd q_22_14 dX7_looks_77 [0, 1] [2] rfl rfl (by decide) 0 rfl rfl rfl rfl (Nat.le_of_ble_eq_true rfl) (by decide) (fun r_ w_ hp2 => ?_)
                          obtain ⟨rfl, rfl⟩ := hp2
                          show GG k _ _ [[((mo 0), .inr (7, [.int th, .ref (mo 1), .ref (mo 2), .int (nI sm), .ref (mo 3), .int (nI ln), .ref (mo 4), .int rm, .int fa, .ref (mo 5), .ref (mo 6), .int sp, .int wr, .long dd]))], cMs v mo fs, [((mo 6), .inl (v.2.1 2, 6656, .inl (upd f2 x0 (nI 1))))]] _ _ [.int (bI (decide (x0 / 512 = n)))]
                          refine g_if_eqB (tgt := 87) X dX7_looks_80 (by decide) (fun c80 => ?_) (fun c80 => ?_)
                          · have hxn : x0 / 512 < n := by have := of_decide_eq_false c80; omega
                            refine g_aload_n X dX7_looks_87 2 rfl rfl ?_
                            refine g_iload_n X dX7_looks_88 0 rfl rfl ?_
                            refine g_callV (As := [.int (nI x0)]) (rest := []) (wr := [[((mo 6), .inl (v.2.1 2, 6656, .inl (upd f2 x0 (nI 1))))]]) X (c_X7_goesTo l v mo th sm ln rm fa sp wr dd P n lo hi fs x0 hW hS (by omega)) f_X7_goesTo q_22_22 dX7_looks_89 [0, 1] [2] rfl rfl (by decide) 0 rfl rfl rfl rfl (Nat.le_of_ble_eq_true rfl) (by decide) (fun r_ w_ hp3 => ?_)
                            obtain ⟨rfl, rfl⟩ := hp3
                            show GG k _ _ [[((mo 0), .inr (7, [.int th, .ref (mo 1), .ref (mo 2), .int (nI sm), .ref (mo 3), .int (nI ln), .ref (mo 4), .int rm, .int fa, .ref (mo 5), .ref (mo 6), .int sp, .int wr, .long dd]))], cMs v mo fs, [((mo 6), .inl (v.2.1 2, 6656, .inl (upd f2 x0 (nI 1))))]] _ _ [.int (eo (nx P x0))]
                            cases hnx : nx P x0 with
                            | none =>
                              show GG k _ _ _ _ _ (.int (zI (-1)) :: _)
                              have hnxt : nxt P n x0 = none := (nxt_nx hxn).trans hnx
                              refine g_istore_n (lv' := [(2, .int (zI (-1))), (1, .int (nI T)), (0, .ref (mo 0))]) X dX7_looks_92 rfl (by decide) rfl ?_
                              refine g_goto (tgt := 54) X dX7_looks_93 (by decide) ?_
                              refine g_iload_n X dX7_looks_54 0 rfl rfl ?_
                              refine g_iconst (x := zI (-1)) X dX7_looks_55 (by decide +kernel) ?_
                              refine g_icmp_eq (tgt := 96) X dX7_looks_56 (by decide) (fun c56 => ?_) (fun c56 => ?_)
                              · rw [zI_inj (by omega) (by omega) (by omega) (by omega)] at c56
                                refine g_iinc (y := nI (T + 1)) (lv' := [(1, .int (nI (T + 1))), (2, .int (zI (-1))), (0, .ref (mo 0))]) (j := 1) X dX7_looks_96 rfl (nI_add T 1) (by decide) rfl ?_
                                refine g_goto (tgt := 33) X dX7_looks_99 (by decide) ?_
                                refine g_lv (lv' := [(1, .int (nI (T + 1))), (0, .ref (mo 0))]) [0, 2] rfl ?_
                                exact ih33 _ (by omega) (T + 1) (upd f2 x0 (nI 1)) (by omega) ((SnR.cong (SnR_set hB) (fun z => (Vt_succ hx z).trans (Vt_end hx hnxt z))).cong (RV_in hab)) rfl
                              · rw [zI_inj (by omega) (by omega) (by omega) (by omega)] at c56
                                exact absurd rfl c56
                            | some y0 =>
                              show GG k _ _ _ _ _ (.int (nI y0) :: _)
                              have hnxt : nxt P n x0 = some y0 := (nxt_nx hxn).trans hnx
                              refine g_istore_n (lv' := [(2, .int (nI y0)), (1, .int (nI T)), (0, .ref (mo 0))]) X dX7_looks_92 rfl (by decide) rfl ?_
                              refine g_goto (tgt := 54) X dX7_looks_93 (by decide) ?_
                              exact ih54 _ (by omega) (c + 1) y0 (upd f2 x0 (nI 1)) (it_step hx hnxt) (Dst_succ hd hx hnv) (SnR.cong (SnR_set hB) (Vt_succ hx)) rfl
                          ·
                            have hnxt : nxt P n x0 = none := nxt_end (Nat.le_of_eq (of_decide_eq_true c80).symm)
                            refine g_iconst (x := zI (-1)) X dX7_looks_83 (by decide +kernel) ?_
                            refine g_goto (tgt := 92) X dX7_looks_84 (by decide) ?_
                            refine g_istore_n (lv' := [(2, .int (zI (-1))), (1, .int (nI T)), (0, .ref (mo 0))]) X dX7_looks_92 rfl (by decide) rfl ?_
                            refine g_goto (tgt := 54) X dX7_looks_93 (by decide) ?_
                            refine g_iload_n X dX7_looks_54 0 rfl rfl ?_
                            refine g_iconst (x := zI (-1)) X dX7_looks_55 (by decide +kernel) ?_
                            refine g_icmp_eq (tgt := 96) X dX7_looks_56 (by decide) (fun c56 => ?_) (fun c56 => ?_)
                            · rw [zI_inj (by omega) (by omega) (by omega) (by omega)] at c56
                              refine g_iinc (y := nI (T + 1)) (lv' := [(1, .int (nI (T + 1))), (2, .int (zI (-1))), (0, .ref (mo 0))]) (j := 1) X dX7_looks_96 rfl (nI_add T 1) (by decide) rfl ?_
                              refine g_goto (tgt := 33) X dX7_looks_99 (by decide) ?_
                              refine g_lv (lv' := [(1, .int (nI (T + 1))), (0, .ref (mo 0))]) [0, 2] rfl ?_
                              exact ih33 _ (by omega) (T + 1) (upd f2 x0 (nI 1)) (by omega) ((SnR.cong (SnR_set hB) (fun z => (Vt_succ hx z).trans (Vt_end hx hnxt z))).cong (RV_in hab)) rfl
                            · rw [zI_inj (by omega) (by omega) (by omega) (by omega)] at c56
                              exact absurd rfl c56
                exact lp54 _ 0 T fn' rfl (fun _ _ _ _ h => absurd h (Nat.not_lt_zero _)) (hSn.cong (fun z => ⟨Or.inl, fun h => h.elim id (fun ⟨k, h, _⟩ => absurd h (Nat.not_lt_zero _))⟩)) rfl
        exact lp33 _ 0 fn' (by omega) (fun q hq => Or.inr ⟨e1 q (by omega), fun ⟨t, h, _⟩ => absurd h (Nat.not_lt_zero _)⟩) rfl
      · refine g_aload_n X dX7_looks_18 1 rfl rfl ?_
        refine g_get X cb7 10 q_5_0 dX7_looks_19 0 0 rfl rfl (by decide) rfl rfl ?_
        refine g_iload_n X dX7_looks_22 0 rfl rfl ?_
        refine g_iconst (x := nI 0) X dX7_looks_23 (by decide +kernel) ?_
        refine g_zast (cs' := [[((mo 0), .inr (7, [.int th, .ref (mo 1), .ref (mo 2), .int (nI sm), .ref (mo 3), .int (nI ln), .ref (mo 4), .int rm, .int fa, .ref (mo 5), .ref (mo 6), .int sp, .int wr, .long dd]))], cMs v mo fs, [((mo 6), .inl (v.2.1 2, 6656, .inl (upd fn' p (nI 0))))]]) X dX7_looks_24 2 0 rfl rfl (by omega) (by omega) (rfl) rfl ?_
        refine g_iinc (y := nI (p + 1)) (lv' := [(1, .int (nI (p + 1))), (0, .ref (mo 0))]) (j := 0) X dX7_looks_25 rfl (nI_add p 1) (by decide) rfl ?_
        refine g_goto (tgt := 2) X dX7_looks_28 (by decide) ?_
        exact ih2 _ (by omega) (p + 1) (upd fn' p (nI 0)) (by omega) (fun q hq => by by_cases z : q = p; subst z; exact pk_us; exact (pk_un z).trans (e1 q (by omega))) rfl
  exact lp2 _ 0 fn (Nat.zero_le _) (fun q h => absurd h (Nat.not_lt_zero _)) rfl

set_option maxHeartbeats 4000000 in
set_option maxRecDepth 100000 in
theorem c_X7_targetOf (l : Launch) (v : VV) (mo : Nat → Nat) (th : Int32) (sm : Nat) (ln : Nat) (rm : Int32) (fa : Int32) (sp : Int32) (wr : Int32) (dd : Int64) (P : Nat → S9) (n : Nat) (lo : Nat → Nat) (hi : Nat → Nat) (fs : Nat → Int32) (i : Nat) (hW : WF P n) (hS : SR P n lo hi fs) (hi9 : i < n) : MI l v yX7_targetOf cX7_targetOf 2 (some .int) ({ frames := 1, cells := 0, slots := 0, locals := 21 }) [.ref (mo 0), .int (nI i)] [[((mo 0), .inr (7, [.int th, .ref (mo 1), .ref (mo 2), .int (nI sm), .ref (mo 3), .int (nI ln), .ref (mo 4), .int rm, .int fa, .ref (mo 5), .ref (mo 6), .int sp, .int wr, .long dd]))], cMs v mo fs] (fun r w_ => r = zI (tg9 (P i)) ∧ w_ = [[((mo 0), .inr (7, [.int th, .ref (mo 1), .ref (mo 2), .int (nI sm), .ref (mo 3), .int (nI ln), .ref (mo 4), .int rm, .int fa, .ref (mo 5), .ref (mo 6), .int sp, .int wr, .long dd]))], cMs v mo fs]) 0 0 := by
  refine mm_int (by decide) (Nat.le_of_ble_eq_true rfl) [(0, .ref (mo 0)), (1, .int (nI i))] rfl (fun k X E => ?_)
  have hn12 := hW.1
  have hk3 := (hW.2 i hi9).1
  refine g_aload_n X dX7_targetOf_0 0 rfl rfl ?_
  refine g_get X cb7 1 q_4_18 dX7_targetOf_1 0 0 rfl rfl (by decide) rfl rfl ?_
  refine g_iload_n X dX7_targetOf_4 1 rfl rfl ?_
  refine g_iconst (x := nI 0) X dX7_targetOf_5 (by decide +kernel) ?_
  refine g_callS (As := [.int (nI i), .int (nI 0)]) (rest := [.ref (mo 1)]) (wr := [[((mo 0), .inr (7, [.int th, .ref (mo 1), .ref (mo 2), .int (nI sm), .ref (mo 3), .int (nI ln), .ref (mo 4), .int rm, .int fa, .ref (mo 5), .ref (mo 6), .int sp, .int wr, .long dd]))], cMs v mo fs]) X (c_X7_of l v i 0) f_X7_of q_17_23 dX7_targetOf_6 [] [0, 1] rfl rfl (by decide) rfl rfl (Nat.le_of_ble_eq_true rfl) (by decide) (fun r_ w_ hp1 => ?_)
  obtain ⟨rfl, rfl⟩ := hp1
  show GG k _ _ [[((mo 0), .inr (7, [.int th, .ref (mo 1), .ref (mo 2), .int (nI sm), .ref (mo 3), .int (nI ln), .ref (mo 4), .int rm, .int fa, .ref (mo 5), .ref (mo 6), .int sp, .int wr, .long dd]))], cMs v mo fs] _ _ [.int (nI (1 + 5 * i + 0)), .ref (mo 1)]
  refine g_iald X dX7_targetOf_9 1 0 rfl rfl (by omega) (by omega) ?_
  refine g_v (y := nI ((P i).1)) ((hS.2.1 i hi9).1) ?_
  refine g_iconst (x := nI 2) X dX7_targetOf_10 (by decide +kernel) ?_
  refine g_icmp_neN (tgt := 27) X dX7_targetOf_11 (by decide) (by omega) (by omega) (fun c11 => ?_) (fun c11 => ?_)
  · refine g_iconst (x := zI (-1)) X dX7_targetOf_27 (by decide +kernel) ?_
    exact E dX7_targetOf_28 rfl (rfl) (by decide) (by decide) (⟨by unfold tg9; rw [if_neg c11], rfl⟩)
  · refine g_aload_n X dX7_targetOf_14 0 rfl rfl ?_
    refine g_get X cb7 1 q_4_18 dX7_targetOf_15 0 0 rfl rfl (by decide) rfl rfl ?_
    refine g_iload_n X dX7_targetOf_18 1 rfl rfl ?_
    refine g_iconst (x := nI 4) X dX7_targetOf_19 (by decide +kernel) ?_
    refine g_callS (As := [.int (nI i), .int (nI 4)]) (rest := [.ref (mo 1)]) (wr := [[((mo 0), .inr (7, [.int th, .ref (mo 1), .ref (mo 2), .int (nI sm), .ref (mo 3), .int (nI ln), .ref (mo 4), .int rm, .int fa, .ref (mo 5), .ref (mo 6), .int sp, .int wr, .long dd]))], cMs v mo fs]) X (c_X7_of l v i 4) f_X7_of q_17_23 dX7_targetOf_20 [] [0, 1] rfl rfl (by decide) rfl rfl (Nat.le_of_ble_eq_true rfl) (by decide) (fun r_ w_ hp2 => ?_)
    obtain ⟨rfl, rfl⟩ := hp2
    show GG k _ _ [[((mo 0), .inr (7, [.int th, .ref (mo 1), .ref (mo 2), .int (nI sm), .ref (mo 3), .int (nI ln), .ref (mo 4), .int rm, .int fa, .ref (mo 5), .ref (mo 6), .int sp, .int wr, .long dd]))], cMs v mo fs] _ _ [.int (nI (1 + 5 * i + 4)), .ref (mo 1)]
    refine g_iald X dX7_targetOf_23 1 0 rfl rfl (by omega) (by omega) ?_
    refine g_v (y := zI ((P i).2.2.2.2)) ((hS.2.1 i hi9).2.2.2.2) ?_
    refine g_goto (tgt := 28) X dX7_targetOf_24 (by decide) ?_
    exact E dX7_targetOf_28 rfl (rfl) (by decide) (by decide) (⟨by unfold tg9; rw [if_pos c11], rfl⟩)

set_option maxHeartbeats 4000000 in
set_option maxRecDepth 100000 in
theorem c_X7_demanded (l : Launch) (v : VV) (mo : Nat → Nat) (th : Int32) (sm : Nat) (ln : Nat) (rm : Int32) (fa : Int32) (sp : Int32) (wr : Int32) (dd : Int64) (P : Nat → S9) (n : Nat) (fe : Nat → Int32) (i : Nat) (hW : WF P n) (hE : ∀ q, q < 512 * (n + 1) → fe q = zI (EE P n q)) (hi9 : i < n + 1) : MI l v yX7_demanded cX7_demanded 4 (some .int) ({ frames := 0, cells := 0, slots := 0, locals := 0 }) [.ref (mo 0), .int (nI i)] [[((mo 0), .inr (7, [.int th, .ref (mo 1), .ref (mo 2), .int (nI sm), .ref (mo 3), .int (nI ln), .ref (mo 4), .int rm, .int fa, .ref (mo 5), .ref (mo 6), .int sp, .int wr, .long dd]))], cMe v mo fe] (fun r w_ => r = nI (dmV P n i) ∧ w_ = [[((mo 0), .inr (7, [.int th, .ref (mo 1), .ref (mo 2), .int (nI sm), .ref (mo 3), .int (nI ln), .ref (mo 4), .int rm, .int fa, .ref (mo 5), .ref (mo 6), .int sp, .int wr, .long dd]))], cMe v mo fe]) 0 0 := by
  refine mm_int (by decide) (Nat.le_of_ble_eq_true rfl) [(0, .ref (mo 0)), (1, .int (nI i))] rfl (fun k X E => ?_)
  have hn12 := hW.1
  refine g_iconst (x := nI 0) X dX7_demanded_0 (by decide +kernel) ?_
  refine g_istore_n (lv' := [(2, .int (nI 0)), (0, .ref (mo 0)), (1, .int (nI i))]) X dX7_demanded_1 rfl (by decide) rfl ?_
  refine g_iconst (x := nI 0) X dX7_demanded_2 (by decide +kernel) ?_
  refine g_istore_n (lv' := [(3, .int (nI 0)), (2, .int (nI 0)), (0, .ref (mo 0)), (1, .int (nI i))]) X dX7_demanded_3 rfl (by decide) rfl ?_
  have lp4 : ∀ (zN : Nat) (T : Nat) (hT : T ≤ 512) (zM : zN = 512 - T), GG k 0 0 [[((mo 0), .inr (7, [.int th, .ref (mo 1), .ref (mo 2), .int (nI sm), .ref (mo 3), .int (nI ln), .ref (mo 4), .int rm, .int fa, .ref (mo 5), .ref (mo 6), .int sp, .int wr, .long dd]))], cMe v mo fe] [(3, .int (nI T)), (2, .int (nI (ctb (fun t => decide (1000 ≤ EE P n (i * 512 + t))) T))), (0, .ref (mo 0)), (1, .int (nI i))] 4 [] := by
    intro zN
    induction zN using Nat.strongRecOn with
    | _ zN zih =>
      have ih4 := zih
      clear zih
      intro T hT zM
      refine g_iload_n X dX7_demanded_4 0 rfl rfl ?_
      refine g_sipush (x := nI 512) X dX7_demanded_5 (by decide +kernel) ?_
      refine g_icmp_geN (tgt := 43) X dX7_demanded_8 (by decide) (by omega) (by omega) (fun c8 => ?_) (fun c8 => ?_)
      · refine g_iload_n X dX7_demanded_43 1 rfl rfl ?_
        exact E dX7_demanded_44 rfl (rfl) (by decide) (by decide) (⟨by rw [show T = 512 from by omega]; rfl, rfl⟩)
      · refine g_iload_n X dX7_demanded_11 1 rfl rfl ?_
        refine g_aload_n X dX7_demanded_12 2 rfl rfl ?_
        refine g_get X cb7 9 q_4_22 dX7_demanded_13 0 0 rfl rfl (by decide) rfl rfl ?_
        refine g_sipush (x := nI 512) X dX7_demanded_16 (by decide +kernel) ?_
        refine g_iload_n X dX7_demanded_19 3 rfl rfl ?_
        refine g_imulN X dX7_demanded_20 ?_
        refine g_iload_n X dX7_demanded_21 0 rfl rfl ?_
        refine g_iaddN X dX7_demanded_22 ?_
        refine g_iald X dX7_demanded_23 1 0 rfl rfl (by omega) (by omega) ?_
        have hrE := EE_rng hW (show i * 512 + T < 512 * (n + 1) by omega)
        refine g_v (y := zI (EE P n (i * 512 + T))) (by rw [hE _ (by omega), show ((512 * i) + T) = i * 512 + T from by omega]) ?_
        refine g_sipush (x := nI 1000) X dX7_demanded_24 (by decide +kernel) ?_
        refine g_icmp_lt (tgt := 34) X dX7_demanded_27 (by decide) (fun c27 => ?_) (fun c27 => ?_)
        · rw [zI_nI 1000, zI_lt (by omega) (by omega) (by omega) (by omega)] at c27
          refine g_iconst (x := nI 0) X dX7_demanded_34 (by decide +kernel) ?_
          refine g_iaddN X dX7_demanded_35 ?_
          refine g_v (y := nI (ctb (fun t => decide (1000 ≤ EE P n (i * 512 + t))) (T + 1))) (by rw [ctb_f (p := fun t => decide (1000 ≤ EE P n (i * 512 + t))) (decide_eq_false (by omega))]; rfl) ?_
          refine g_istore_n (lv' := [(2, .int (nI (ctb (fun t => decide (1000 ≤ EE P n (i * 512 + t))) (T + 1)))), (3, .int (nI T)), (0, .ref (mo 0)), (1, .int (nI i))]) X dX7_demanded_36 rfl (by decide) rfl ?_
          refine g_iinc (y := nI (T + 1)) (lv' := [(3, .int (nI (T + 1))), (2, .int (nI (ctb (fun t => decide (1000 ≤ EE P n (i * 512 + t))) (T + 1)))), (0, .ref (mo 0)), (1, .int (nI i))]) (j := 1) X dX7_demanded_37 rfl (nI_add T 1) (by decide) rfl ?_
          refine g_goto (tgt := 4) X dX7_demanded_40 (by decide) ?_
          exact ih4 _ (by omega) (T + 1) (by omega) rfl
        · rw [zI_nI 1000, zI_lt (by omega) (by omega) (by omega) (by omega)] at c27
          refine g_iconst (x := nI 1) X dX7_demanded_30 (by decide +kernel) ?_
          refine g_goto (tgt := 35) X dX7_demanded_31 (by decide) ?_
          refine g_iaddN X dX7_demanded_35 ?_
          refine g_v (y := nI (ctb (fun t => decide (1000 ≤ EE P n (i * 512 + t))) (T + 1))) (by rw [ctb_t (p := fun t => decide (1000 ≤ EE P n (i * 512 + t))) (decide_eq_true (by omega))]) ?_
          refine g_istore_n (lv' := [(2, .int (nI (ctb (fun t => decide (1000 ≤ EE P n (i * 512 + t))) (T + 1)))), (3, .int (nI T)), (0, .ref (mo 0)), (1, .int (nI i))]) X dX7_demanded_36 rfl (by decide) rfl ?_
          refine g_iinc (y := nI (T + 1)) (lv' := [(3, .int (nI (T + 1))), (2, .int (nI (ctb (fun t => decide (1000 ≤ EE P n (i * 512 + t))) (T + 1)))), (0, .ref (mo 0)), (1, .int (nI i))]) (j := 1) X dX7_demanded_37 rfl (nI_add T 1) (by decide) rfl ?_
          refine g_goto (tgt := 4) X dX7_demanded_40 (by decide) ?_
          exact ih4 _ (by omega) (T + 1) (by omega) rfl
  exact lp4 _ 0 (by omega) rfl

set_option maxHeartbeats 4000000 in
set_option maxRecDepth 100000 in
theorem c_X7_isReached (l : Launch) (v : VV) (mo : Nat → Nat) (th : Int32) (sm : Nat) (ln : Nat) (rm : Int32) (fa : Int32) (sp : Int32) (wr : Int32) (dd : Int64) (n : Nat) (V : Nat → Prop) (fn : Nat → Int32) (i : Nat) (hn12 : n ≤ 12) (hB : SnR n V fn) (hi9 : i < n + 1) : MI l v yX7_isReached cX7_isReached 4 (some .boolean) ({ frames := 0, cells := 0, slots := 0, locals := 0 }) [.ref (mo 0), .int (nI i)] [[((mo 0), .inr (7, [.int th, .ref (mo 1), .ref (mo 2), .int (nI sm), .ref (mo 3), .int (nI ln), .ref (mo 4), .int rm, .int fa, .ref (mo 5), .ref (mo 6), .int sp, .int wr, .long dd]))], cMn v mo fn] (fun r w_ => ((r = nI 1 ∧ rcV V i 512) ∨ (r = nI 0 ∧ ¬ rcV V i 512)) ∧ w_ = [[((mo 0), .inr (7, [.int th, .ref (mo 1), .ref (mo 2), .int (nI sm), .ref (mo 3), .int (nI ln), .ref (mo 4), .int rm, .int fa, .ref (mo 5), .ref (mo 6), .int sp, .int wr, .long dd]))], cMn v mo fn]) 0 0 := by
  refine mm_int (by decide) (Nat.le_of_ble_eq_true rfl) [(0, .ref (mo 0)), (1, .int (nI i))] rfl (fun k X E => ?_)
  refine g_iconst (x := nI 0) X dX7_isReached_0 (by decide +kernel) ?_
  refine g_istore_n (lv' := [(2, .int (nI 0)), (0, .ref (mo 0)), (1, .int (nI i))]) X dX7_isReached_1 rfl (by decide) rfl ?_
  refine g_iconst (x := nI 0) X dX7_isReached_2 (by decide +kernel) ?_
  refine g_istore_n (lv' := [(3, .int (nI 0)), (2, .int (nI 0)), (0, .ref (mo 0)), (1, .int (nI i))]) X dX7_isReached_3 rfl (by decide) rfl ?_
  have lp4 : ∀ (zN : Nat) (T : Nat) (y : Int32) (hT : T ≤ 512) (hy : (y = nI 1 ∧ rcV V i T) ∨ (y = nI 0 ∧ ¬ rcV V i T)) (zM : zN = 512 - T), GG k 0 0 [[((mo 0), .inr (7, [.int th, .ref (mo 1), .ref (mo 2), .int (nI sm), .ref (mo 3), .int (nI ln), .ref (mo 4), .int rm, .int fa, .ref (mo 5), .ref (mo 6), .int sp, .int wr, .long dd]))], cMn v mo fn] [(3, .int (nI T)), (2, .int y), (0, .ref (mo 0)), (1, .int (nI i))] 4 [] := by
    intro zN
    induction zN using Nat.strongRecOn with
    | _ zN zih =>
      have ih4 := zih
      clear zih
      intro T y hT hy zM
      refine g_iload_n X dX7_isReached_4 0 rfl rfl ?_
      refine g_sipush (x := nI 512) X dX7_isReached_5 (by decide +kernel) ?_
      refine g_icmp_geN (tgt := 42) X dX7_isReached_8 (by decide) (by omega) (by omega) (fun c8 => ?_) (fun c8 => ?_)
      · refine g_iload_n X dX7_isReached_42 1 rfl rfl ?_
        exact E dX7_isReached_43 rfl ((by rcases hy with h | h <;> rw [h.1] <;> rfl)) (by decide) (by decide) (⟨by rwa [show T = 512 from by omega] at hy, rfl⟩)
      · refine g_iload_n X dX7_isReached_11 1 rfl rfl ?_
        rcases hy with ⟨hy1, hy2⟩ | ⟨hy1, hy2⟩
        · refine g_v (y := nI 1) hy1 ?_
          refine g_if_neN (tgt := 30) X dX7_isReached_12 (by decide) (by omega) (fun c12 => ?_) (fun c12 => ?_)
          · refine g_iconst (x := nI 1) X dX7_isReached_30 (by decide +kernel) ?_
            refine g_goto (tgt := 35) X dX7_isReached_31 (by decide) ?_
            refine g_istore_n (lv' := [(2, .int (nI 1)), (3, .int (nI T)), (0, .ref (mo 0)), (1, .int (nI i))]) X dX7_isReached_35 rfl (by decide) rfl ?_
            refine g_iinc (y := nI (T + 1)) (lv' := [(3, .int (nI (T + 1))), (2, .int (nI 1)), (0, .ref (mo 0)), (1, .int (nI i))]) (j := 1) X dX7_isReached_36 rfl (nI_add T 1) (by decide) rfl ?_
            refine g_goto (tgt := 4) X dX7_isReached_39 (by decide) ?_
            exact ih4 _ (by omega) (T + 1) (nI 1) (by omega) (Or.inl ⟨rfl, hy2.elim (fun t h => ⟨t, by omega, h.2⟩)⟩) rfl
          · exact absurd c12 (by decide)
        · refine g_v (y := nI 0) hy1 ?_
          refine g_if_neN (tgt := 30) X dX7_isReached_12 (by decide) (by omega) (fun c12 => ?_) (fun c12 => ?_)
          · exact absurd rfl c12
          · refine g_aload_n X dX7_isReached_15 2 rfl rfl ?_
            refine g_get X cb7 10 q_5_0 dX7_isReached_16 0 0 rfl rfl (by decide) rfl rfl ?_
            refine g_sipush (x := nI 512) X dX7_isReached_19 (by decide +kernel) ?_
            refine g_iload_n X dX7_isReached_22 3 rfl rfl ?_
            refine g_imulN X dX7_isReached_23 ?_
            refine g_iload_n X dX7_isReached_24 0 rfl rfl ?_
            refine g_iaddN X dX7_isReached_25 ?_
            refine g_zald X dX7_isReached_26 1 0 rfl rfl (by omega) (by omega) ?_
            rcases hB (512 * i + T) (by omega) with ⟨h1, hv⟩ | ⟨h1, hnv⟩
            · refine g_v (y := nI 1) h1 ?_
              refine g_if_eqN (tgt := 34) X dX7_isReached_27 (by decide) (by omega) (fun c27 => ?_) (fun c27 => ?_)
              · exact absurd c27 (by decide)
              · refine g_iconst (x := nI 1) X dX7_isReached_30 (by decide +kernel) ?_
                refine g_goto (tgt := 35) X dX7_isReached_31 (by decide) ?_
                refine g_istore_n (lv' := [(2, .int (nI 1)), (3, .int (nI T)), (0, .ref (mo 0)), (1, .int (nI i))]) X dX7_isReached_35 rfl (by decide) rfl ?_
                refine g_iinc (y := nI (T + 1)) (lv' := [(3, .int (nI (T + 1))), (2, .int (nI 1)), (0, .ref (mo 0)), (1, .int (nI i))]) (j := 1) X dX7_isReached_36 rfl (nI_add T 1) (by decide) rfl ?_
                refine g_goto (tgt := 4) X dX7_isReached_39 (by decide) ?_
                exact ih4 _ (by omega) (T + 1) (nI 1) (by omega) (Or.inl ⟨rfl, ⟨T, by omega, hv⟩⟩) rfl
            · refine g_v (y := nI 0) h1 ?_
              refine g_if_eqN (tgt := 34) X dX7_isReached_27 (by decide) (by omega) (fun c27 => ?_) (fun c27 => ?_)
              · refine g_iconst (x := nI 0) X dX7_isReached_34 (by decide +kernel) ?_
                refine g_istore_n (lv' := [(2, .int (nI 0)), (3, .int (nI T)), (0, .ref (mo 0)), (1, .int (nI i))]) X dX7_isReached_35 rfl (by decide) rfl ?_
                refine g_iinc (y := nI (T + 1)) (lv' := [(3, .int (nI (T + 1))), (2, .int (nI 0)), (0, .ref (mo 0)), (1, .int (nI i))]) (j := 1) X dX7_isReached_36 rfl (nI_add T 1) (by decide) rfl ?_
                refine g_goto (tgt := 4) X dX7_isReached_39 (by decide) ?_
                exact ih4 _ (by omega) (T + 1) (nI 0) (by omega) (Or.inr ⟨rfl, fun ⟨t, a, b⟩ => by by_cases z : t = T; subst z; exact hnv b; exact hy2 ⟨t, by omega, b⟩⟩) rfl
              · exact absurd rfl c27
  exact lp4 _ 0 (nI 0) (by omega) (Or.inr ⟨rfl, fun ⟨t, h, _⟩ => absurd h (Nat.not_lt_zero _)⟩) rfl

