/-! ## ClaimJudge: judged -/
theorem WF_of {P : Nat → S9} {n B : Nat} (h : WG P n B) (ht : ∀ i, i < n → tg9 (P i) ≤ n) : WF P n := ⟨h.1, fun i hi => ⟨(h.2 i hi).1, (h.2 i hi).2.1, (h.2 i hi).2.2.1, (h.2 i hi).2.2.2.1, (h.2 i hi).2.2.2.2.1, (h.2 i hi).2.2.2.2.2.1, fun z => ⟨((h.2 i hi).2.2.2.2.2.2 z).1, by have := ht i hi; unfold tg9 at this; rw [if_pos z] at this; exact this⟩⟩⟩
theorem AsW_up {lo hi : Nat → Nat} {w x y : Nat} (h : AsW lo hi) (hx : x ≤ y) (hy : y ≤ 7) : AsW (hU9 lo w x) (hU9 hi w y) := fun q hq => by
  by_cases z : q = w
  · subst z; rw [hU9_eq, hU9_eq]; exact ⟨hx, hy⟩
  · rw [hU9_ne z, hU9_ne z]; exact h q hq
theorem AsR_up {lo hi : Nat → Nat} {g : Nat → Nat → Int32} {w x y : Nat} (h : AsR lo hi g) : AsR (hU9 lo w x) (hU9 hi w y) (li9 g w (x2p (nI x) (nI y))) := fun q hq => by
  unfold li9
  by_cases z : q = w
  · subst z; rw [hU9_eq, hU9_eq, pk_us, pk_us]; exact ⟨rfl, rfl⟩
  · rw [hU9_ne z, hU9_ne z, pk_un z, pk_un z]; exact h q hq
theorem or_sh : ∀ m : Nat, m < 256 → ∀ x : Nat, x < 8 → nI m ||| (nI 1 <<< (nI x &&& 31)) = nI (m ||| 2 ^ x) := by decide +kernel
theorem two_zI : nI 2 = zI 2 := by decide +kernel
theorem one_zI : nI 1 = zI 1 := by decide +kernel
theorem zer_zI : nI 0 = zI 0 := by decide +kernel
def ldOK (tx : Nat → Nat) (ln : Nat) : Prop := (pAll tx ln 12 0 []).1 = true ∧ ∀ i, i < (pAll tx ln 12 0 []).2.2.length → tg9 (lg9 (pAll tx ln 12 0 []).2.2 i) ≤ ((pAll tx ln 12 0 []).2.2.length : Int)
def adOK (tx : Nat → Nat) (ln n : Nat) : Prop := (pAll tx ln 12 0 []).1 = true ∧ n + (pAll tx ln 12 0 []).2.2.length ≤ 12 ∧ ∀ i, i < (pAll tx ln 12 0 []).2.2.length → tg9 (lg9 (pAll tx ln 12 0 []).2.2 i) ≤ ((n + (pAll tx ln 12 0 []).2.2.length : Nat) : Int)
def ap9 (P : Nat → S9) (n : Nat) (L : Nat → S9) : Nat → S9 := fun i => if i < n then P i else L (i - n)
theorem WF_ap {P L : Nat → S9} {n m : Nat} (hW : WF P n) (hL : WG L m 12) (hm : n + m ≤ 12) (ht : ∀ i, i < m → tg9 (L i) ≤ ((n + m : Nat) : Int)) : WF (ap9 P n L) (n + m) := by
  refine WF_of (B := 12) ⟨hm, fun i hi => ?_⟩ (fun i hi => ?_)
  · unfold ap9
    by_cases z : i < n
    · rw [if_pos z]
      have := hW.2 i z
      exact ⟨this.1, this.2.1, this.2.2.1, this.2.2.2.1, this.2.2.2.2.1, this.2.2.2.2.2.1, fun q => by have := this.2.2.2.2.2.2 q; omega⟩
    · rw [if_neg z]
      exact hL.2 (i - n) (by omega)
  · unfold ap9
    by_cases z : i < n
    · rw [if_pos z]
      have := (tg9_rng hW z).2
      omega
    · rw [if_neg z]
      exact ht (i - n) (by omega)
theorem PgR_ap {P L : Nat → S9} {n m : Nat} {f g f' : Nat → Nat → Int32} (hR : PgR P n f) (hL : PgR L m g) (e1 : ∀ j i', i' < n → f' j i' = f j i') (e2 : ∀ j, j < 6 → ∀ i', i' < m → f' j (n + i') = g j i') : PgR (ap9 P n L) (n + m) f' := by
  intro i hi
  unfold ap9
  by_cases z : i < n
  · rw [if_pos z, e1 0 i z, e1 1 i z, e1 2 i z, e1 3 i z, e1 4 i z, e1 5 i z]
    exact hR i z
  · rw [if_neg z]
    have e : ∀ j, j < 6 → f' j i = g j (i - n) := fun j hj => by have := e2 j hj (i - n) (by omega); rwa [show n + (i - n) = i from by omega] at this
    rw [e 0 (by omega), e 1 (by omega), e 2 (by omega), e 3 (by omega), e 4 (by omega), e 5 (by omega)]
    exact hL (i - n) (by omega)

set_option maxHeartbeats 4000000 in
set_option maxRecDepth 100000 in
theorem c_X6_endless (l : Launch) (v : VV) (cj : Nat) (a : Nat → Nat) (b : Nat → Nat) (d : Nat → Nat) (j : Nat → Nat) (h : Nat → Nat) (t : Nat → Nat) (n : Nat) (f : Nat → Nat → Int32) (P : Nat → S9) (g : Nat → Nat → Int32) (lo : Nat → Nat) (hi : Nat → Nat) (stl : Bool) (e : Nat → Int32) (x : Nat) (y : Nat) (z : Nat) (jst : Bool) (ex : Nat → Int32) (lw : Nat → Int32) (hg : Nat → Int32) (vs : Nat → Int64) (hW : WF P n) (hR : PgR P n f) (hL : AsW lo hi) (hG : AsR lo hi g) (hE : stl = false → OKE P n e) (hJ : jst = false → JOK lo hi P n x y z ex lw hg) : MI l v yX6_endless cX6_endless 1 (some .int) ({ frames := 7, cells := 0, slots := 0, locals := 118 }) [.ref cj] [cCJ v cj (a 0) (b 0) (d 0) (j 0) (h 0) (t 0), cPg v a n f, cAs v b g, cRu v d (a 0) stl, cEn v d e, cJu v j (a 0) (b 0) (d 0) x y z jst, cEx v j ex, cLo v j lw, cHi v j hg, cVi v j vs] (fun r w_ => ∃ x' y' z' jst' ex' lw' hg' vs' stl' e', r = nI (ctb (jE lo hi P n) 512) ∧ (jst' = false → JOK lo hi P n x' y' z' ex' lw' hg') ∧ (stl' = false → OKE P n e') ∧ w_ = [cCJ v cj (a 0) (b 0) (d 0) (j 0) (h 0) (t 0), cPg v a n f, cAs v b g, cRu v d (a 0) stl', cEn v d e', cJu v j (a 0) (b 0) (d 0) x' y' z' jst', cEx v j ex', cLo v j lw', cHi v j hg', cVi v j vs']) 0 0 := by
  refine mm_int (by decide) (Nat.le_of_ble_eq_true rfl) [(0, .ref cj)] rfl (fun k X E => ?_)
  have hn12 := hW.1
  refine g_aload_n X dX6_endless_0 0 rfl rfl ?_
  refine g_get X cb6 3 q_2_1 dX6_endless_1 0 0 rfl rfl (by decide) rfl rfl ?_
  refine g_callV (As := []) (rest := []) (wr := [cCJ v cj (a 0) (b 0) (d 0) (j 0) (h 0) (t 0)]) X (c_X2_refresh l v j x y z jst ex lw hg vs a n f P b g lo hi d stl e hW hR hL hG hE hJ ) f_X2_refresh q_16_15 dX6_endless_4 [5, 6, 7, 8, 9, 1, 2, 3, 4] [0] rfl rfl (by decide) 0 rfl rfl rfl rfl (Nat.le_of_ble_eq_true rfl) (by decide) (fun r_ w_ hp2 => ?_)
  obtain ⟨rf1x, rf1y, rf1z, rf1e, rf1l, rf1h, rf1v, rf1s, rf1n, rf1J, rf1E, rfl⟩ := hp2
  show GG k _ _ [cJu v j (a 0) (b 0) (d 0) rf1x rf1y rf1z false, cEx v j rf1e, cLo v j rf1l, cHi v j rf1h, cVi v j rf1v, cPg v a n f, cAs v b g, cRu v d (a 0) rf1s, cEn v d rf1n, cCJ v cj (a 0) (b 0) (d 0) (j 0) (h 0) (t 0)] _ _ []
  refine g_pick (cs' := [cCJ v cj (a 0) (b 0) (d 0) (j 0) (h 0) (t 0), cPg v a n f, cAs v b g, cRu v d (a 0) rf1s, cEn v d rf1n, cJu v j (a 0) (b 0) (d 0) rf1x rf1y rf1z false, cEx v j rf1e, cLo v j rf1l, cHi v j rf1h, cVi v j rf1v]) [9, 5, 6, 7, 8, 0, 1, 2, 3, 4] rfl rfl ?_
  refine g_aload_n X dX6_endless_7 0 rfl rfl ?_
  refine g_get X cb6 3 q_2_1 dX6_endless_8 0 0 rfl rfl (by decide) rfl rfl ?_
  refine g_getN X cb2 6 6 rfl dX6_endless_11 5 0 rfl rfl (by decide) rfl rfl ?_
  exact E dX6_endless_14 rfl (rfl) (by decide) (by decide) (⟨_, _, _, _, _, _, _, _, _, _, by rw [rf1J.1], (fun _ => rf1J), rf1E, rfl⟩)

set_option maxHeartbeats 4000000 in
set_option maxRecDepth 100000 in
theorem c_X6_proof (l : Launch) (v : VV) (cj : Nat) (a : Nat → Nat) (b : Nat → Nat) (d : Nat → Nat) (j : Nat → Nat) (h : Nat → Nat) (t : Nat → Nat) (n : Nat) (f : Nat → Nat → Int32) (P : Nat → S9) (g : Nat → Nat → Int32) (lo : Nat → Nat) (hi : Nat → Nat) (stl : Bool) (e : Nat → Int32) (x : Nat) (y : Nat) (z : Nat) (jst : Bool) (ex : Nat → Int32) (lw : Nat → Int32) (hg : Nat → Int32) (vs : Nat → Int64) (hW : WF P n) (hR : PgR P n f) (hL : AsW lo hi) (hG : AsR lo hi g) (hE : stl = false → OKE P n e) (hJ : jst = false → JOK lo hi P n x y z ex lw hg) : MI l v yX6_proof cX6_proof 1 (some .int) ({ frames := 7, cells := 0, slots := 0, locals := 118 }) [.ref cj] [cCJ v cj (a 0) (b 0) (d 0) (j 0) (h 0) (t 0), cPg v a n f, cAs v b g, cRu v d (a 0) stl, cEn v d e, cJu v j (a 0) (b 0) (d 0) x y z jst, cEx v j ex, cLo v j lw, cHi v j hg, cVi v j vs] (fun r w_ => ∃ x' y' z' jst' ex' lw' hg' vs' stl' e', r = zI (pfV lo hi P n) ∧ (jst' = false → JOK lo hi P n x' y' z' ex' lw' hg') ∧ (stl' = false → OKE P n e') ∧ w_ = [cCJ v cj (a 0) (b 0) (d 0) (j 0) (h 0) (t 0), cPg v a n f, cAs v b g, cRu v d (a 0) stl', cEn v d e', cJu v j (a 0) (b 0) (d 0) x' y' z' jst', cEx v j ex', cLo v j lw', cHi v j hg', cVi v j vs']) 0 0 := by
  refine mm_int (by decide) (Nat.le_of_ble_eq_true rfl) [(0, .ref cj)] rfl (fun k X E => ?_)
  have hn12 := hW.1
  refine g_aload_n X dX6_proof_0 0 rfl rfl ?_
  refine g_get X cb6 3 q_2_1 dX6_proof_1 0 0 rfl rfl (by decide) rfl rfl ?_
  refine g_callV (As := []) (rest := []) (wr := [cCJ v cj (a 0) (b 0) (d 0) (j 0) (h 0) (t 0)]) X (c_X2_refresh l v j x y z jst ex lw hg vs a n f P b g lo hi d stl e hW hR hL hG hE hJ ) f_X2_refresh q_16_15 dX6_proof_4 [5, 6, 7, 8, 9, 1, 2, 3, 4] [0] rfl rfl (by decide) 0 rfl rfl rfl rfl (Nat.le_of_ble_eq_true rfl) (by decide) (fun r_ w_ hp2 => ?_)
  obtain ⟨rf1x, rf1y, rf1z, rf1e, rf1l, rf1h, rf1v, rf1s, rf1n, rf1J, rf1E, rfl⟩ := hp2
  show GG k _ _ [cJu v j (a 0) (b 0) (d 0) rf1x rf1y rf1z false, cEx v j rf1e, cLo v j rf1l, cHi v j rf1h, cVi v j rf1v, cPg v a n f, cAs v b g, cRu v d (a 0) rf1s, cEn v d rf1n, cCJ v cj (a 0) (b 0) (d 0) (j 0) (h 0) (t 0)] _ _ []
  refine g_pick (cs' := [cCJ v cj (a 0) (b 0) (d 0) (j 0) (h 0) (t 0), cPg v a n f, cAs v b g, cRu v d (a 0) rf1s, cEn v d rf1n, cJu v j (a 0) (b 0) (d 0) rf1x rf1y rf1z false, cEx v j rf1e, cLo v j rf1l, cHi v j rf1h, cVi v j rf1v]) [9, 5, 6, 7, 8, 0, 1, 2, 3, 4] rfl rfl ?_
  refine g_aload_n X dX6_proof_7 0 rfl rfl ?_
  refine g_get X cb6 3 q_2_1 dX6_proof_8 0 0 rfl rfl (by decide) rfl rfl ?_
  refine g_getN X cb2 7 7 rfl dX6_proof_11 5 0 rfl rfl (by decide) rfl rfl ?_
  have hct1 := ctb_le (jF lo hi P n) 512
  have hct2 := ctb_le (jE lo hi P n) 512
  have hj1 := rf1J.1
  have hj2 := rf1J.2.1
  refine g_if_leN (tgt := 19) X dX6_proof_14 (by decide) (by omega) (fun c14 => ?_) (fun c14 => ?_)
  · refine g_aload_n X dX6_proof_19 0 rfl rfl ?_
    refine g_get X cb6 3 q_2_1 dX6_proof_20 0 0 rfl rfl (by decide) rfl rfl ?_
    refine g_getN X cb2 6 6 rfl dX6_proof_23 5 0 rfl rfl (by decide) rfl rfl ?_
    refine g_if_leN (tgt := 33) X dX6_proof_26 (by decide) (by omega) (fun c26 => ?_) (fun c26 => ?_)
    · refine g_iconst (x := nI 1) X dX6_proof_33 (by decide +kernel) ?_
      exact E dX6_proof_34 rfl (rfl) (by decide) (by decide) (⟨_, _, _, _, _, _, _, _, _, _, by unfold pfV; rw [if_neg (by omega), if_neg (by omega)]; exact one_zI, (fun _ => rf1J), rf1E, rfl⟩)
    · refine g_iconst (x := nI 0) X dX6_proof_29 (by decide +kernel) ?_
      refine g_goto (tgt := 34) X dX6_proof_30 (by decide) ?_
      exact E dX6_proof_34 rfl (rfl) (by decide) (by decide) (⟨_, _, _, _, _, _, _, _, _, _, by unfold pfV; rw [if_neg (by omega), if_pos (by omega)]; exact zer_zI, (fun _ => rf1J), rf1E, rfl⟩)
  · refine g_iconst (x := nI 2) X dX6_proof_17 (by decide +kernel) ?_
    exact E dX6_proof_18 rfl (rfl) (by decide) (by decide) (⟨_, _, _, _, _, _, _, _, _, _, by unfold pfV; rw [if_pos (by omega)]; exact two_zI, (fun _ => rf1J), rf1E, rfl⟩)

set_option maxHeartbeats 4000000 in
set_option maxRecDepth 100000 in
theorem c_X6_example (l : Launch) (v : VV) (cj : Nat) (a : Nat → Nat) (b : Nat → Nat) (d : Nat → Nat) (j : Nat → Nat) (h : Nat → Nat) (t : Nat → Nat) (n : Nat) (f : Nat → Nat → Int32) (P : Nat → S9) (g : Nat → Nat → Int32) (lo : Nat → Nat) (hi : Nat → Nat) (stl : Bool) (e : Nat → Int32) (x : Nat) (y : Nat) (z : Nat) (jst : Bool) (ex : Nat → Int32) (lw : Nat → Int32) (hg : Nat → Int32) (vs : Nat → Int64) (i : Nat) (hW : WF P n) (hR : PgR P n f) (hL : AsW lo hi) (hG : AsR lo hi g) (hE : stl = false → OKE P n e) (hJ : jst = false → JOK lo hi P n x y z ex lw hg) (hi9 : i < n) : MI l v yX6_example cX6_example 2 (some .int) ({ frames := 7, cells := 0, slots := 0, locals := 118 }) [.ref cj, .int (nI i)] [cCJ v cj (a 0) (b 0) (d 0) (j 0) (h 0) (t 0), cPg v a n f, cAs v b g, cRu v d (a 0) stl, cEn v d e, cJu v j (a 0) (b 0) (d 0) x y z jst, cEx v j ex, cLo v j lw, cHi v j hg, cVi v j vs] (fun r w_ => ∃ x' y' z' jst' ex' lw' hg' vs' stl' e', r = zI (exV lo hi P n i) ∧ (jst' = false → JOK lo hi P n x' y' z' ex' lw' hg') ∧ (stl' = false → OKE P n e') ∧ w_ = [cCJ v cj (a 0) (b 0) (d 0) (j 0) (h 0) (t 0), cPg v a n f, cAs v b g, cRu v d (a 0) stl', cEn v d e', cJu v j (a 0) (b 0) (d 0) x' y' z' jst', cEx v j ex', cLo v j lw', cHi v j hg', cVi v j vs']) 0 0 := by
  refine mm_int (by decide) (Nat.le_of_ble_eq_true rfl) [(0, .ref cj), (1, .int (nI i))] rfl (fun k X E => ?_)
  have hn12 := hW.1
  refine g_iload_n X dX6_example_0 1 rfl rfl ?_
  refine g_aload_n X dX6_example_1 0 rfl rfl ?_
  refine g_get X cb6 0 q_1_13 dX6_example_2 0 0 rfl rfl (by decide) rfl rfl ?_
  refine g_getN X cb3 0 0 rfl dX6_example_5 1 0 rfl rfl (by decide) rfl rfl ?_
  refine g_callS (As := [.int (nI i), .int (nI n)]) (rest := []) (wr := [cCJ v cj (a 0) (b 0) (d 0) (j 0) (h 0) (t 0), cPg v a n f, cAs v b g, cRu v d (a 0) stl, cEn v d e, cJu v j (a 0) (b 0) (d 0) x y z jst, cEx v j ex, cLo v j lw, cHi v j hg, cVi v j vs]) X (c_X6_checkIndex l v i n (by omega) (by omega)) f_X6_checkIndex q_15_15 dX6_example_8 [] [0, 1, 2, 3, 4, 5, 6, 7, 8, 9] rfl rfl (by decide) rfl rfl (Nat.le_of_ble_eq_true rfl) (by decide) (fun r_ w_ hp1 => ?_)
  subst hp1
  show GG k _ _ [cCJ v cj (a 0) (b 0) (d 0) (j 0) (h 0) (t 0), cPg v a n f, cAs v b g, cRu v d (a 0) stl, cEn v d e, cJu v j (a 0) (b 0) (d 0) x y z jst, cEx v j ex, cLo v j lw, cHi v j hg, cVi v j vs] _ _ []
  refine g_aload_n X dX6_example_11 0 rfl rfl ?_
  refine g_get X cb6 3 q_2_1 dX6_example_12 0 0 rfl rfl (by decide) rfl rfl ?_
  refine g_callV (As := []) (rest := []) (wr := [cCJ v cj (a 0) (b 0) (d 0) (j 0) (h 0) (t 0)]) X (c_X2_refresh l v j x y z jst ex lw hg vs a n f P b g lo hi d stl e hW hR hL hG hE hJ ) f_X2_refresh q_16_15 dX6_example_15 [5, 6, 7, 8, 9, 1, 2, 3, 4] [0] rfl rfl (by decide) 0 rfl rfl rfl rfl (Nat.le_of_ble_eq_true rfl) (by decide) (fun r_ w_ hp3 => ?_)
  obtain ⟨rf2x, rf2y, rf2z, rf2e, rf2l, rf2h, rf2v, rf2s, rf2n, rf2J, rf2E, rfl⟩ := hp3
  show GG k _ _ [cJu v j (a 0) (b 0) (d 0) rf2x rf2y rf2z false, cEx v j rf2e, cLo v j rf2l, cHi v j rf2h, cVi v j rf2v, cPg v a n f, cAs v b g, cRu v d (a 0) rf2s, cEn v d rf2n, cCJ v cj (a 0) (b 0) (d 0) (j 0) (h 0) (t 0)] _ _ []
  refine g_pick (cs' := [cCJ v cj (a 0) (b 0) (d 0) (j 0) (h 0) (t 0), cPg v a n f, cAs v b g, cRu v d (a 0) rf2s, cEn v d rf2n, cJu v j (a 0) (b 0) (d 0) rf2x rf2y rf2z false, cEx v j rf2e, cLo v j rf2l, cHi v j rf2h, cVi v j rf2v]) [9, 5, 6, 7, 8, 0, 1, 2, 3, 4] rfl rfl ?_
  refine g_aload_n X dX6_example_18 0 rfl rfl ?_
  refine g_get X cb6 3 q_2_1 dX6_example_19 0 0 rfl rfl (by decide) rfl rfl ?_
  refine g_getN X cb2 3 3 rfl dX6_example_22 5 0 rfl rfl (by decide) rfl rfl ?_
  refine g_iload_n X dX6_example_25 1 rfl rfl ?_
  refine g_iald X dX6_example_26 6 0 rfl rfl (by omega) (by omega) ?_
  exact E dX6_example_27 rfl (rfl) (by decide) (by decide) (⟨_, _, _, _, _, _, _, _, _, _, (ExR_V rf2J.2.2.2.1 (by omega)).1, (fun _ => rf2J), rf2E, rfl⟩)

set_option maxHeartbeats 4000000 in
set_option maxRecDepth 100000 in
theorem c_X6_least (l : Launch) (v : VV) (cj : Nat) (a : Nat → Nat) (b : Nat → Nat) (d : Nat → Nat) (j : Nat → Nat) (h : Nat → Nat) (t : Nat → Nat) (n : Nat) (f : Nat → Nat → Int32) (P : Nat → S9) (g : Nat → Nat → Int32) (lo : Nat → Nat) (hi : Nat → Nat) (stl : Bool) (e : Nat → Int32) (x : Nat) (y : Nat) (z : Nat) (jst : Bool) (ex : Nat → Int32) (lw : Nat → Int32) (hg : Nat → Int32) (vs : Nat → Int64) (i : Nat) (w : Nat) (hW : WF P n) (hR : PgR P n f) (hL : AsW lo hi) (hG : AsR lo hi g) (hE : stl = false → OKE P n e) (hJ : jst = false → JOK lo hi P n x y z ex lw hg) (hi9 : i < n + 1) (hw9 : w < 3) : MI l v yX6_least cX6_least 3 (some .int) ({ frames := 7, cells := 0, slots := 0, locals := 118 }) [.ref cj, .int (nI i), .int (nI w)] [cCJ v cj (a 0) (b 0) (d 0) (j 0) (h 0) (t 0), cPg v a n f, cAs v b g, cRu v d (a 0) stl, cEn v d e, cJu v j (a 0) (b 0) (d 0) x y z jst, cEx v j ex, cLo v j lw, cHi v j hg, cVi v j vs] (fun r w_ => ∃ x' y' z' jst' ex' lw' hg' vs' stl' e', r = zI (mnV lo hi P n i w) ∧ (jst' = false → JOK lo hi P n x' y' z' ex' lw' hg') ∧ (stl' = false → OKE P n e') ∧ w_ = [cCJ v cj (a 0) (b 0) (d 0) (j 0) (h 0) (t 0), cPg v a n f, cAs v b g, cRu v d (a 0) stl', cEn v d e', cJu v j (a 0) (b 0) (d 0) x' y' z' jst', cEx v j ex', cLo v j lw', cHi v j hg', cVi v j vs']) 0 0 := by
  refine mm_int (by decide) (Nat.le_of_ble_eq_true rfl) [(0, .ref cj), (1, .int (nI i)), (2, .int (nI w))] rfl (fun k X E => ?_)
  have hn12 := hW.1
  refine g_iload_n X dX6_least_0 1 rfl rfl ?_
  refine g_aload_n X dX6_least_1 0 rfl rfl ?_
  refine g_get X cb6 0 q_1_13 dX6_least_2 0 0 rfl rfl (by decide) rfl rfl ?_
  refine g_getN X cb3 0 0 rfl dX6_least_5 1 0 rfl rfl (by decide) rfl rfl ?_
  refine g_iconst (x := nI 1) X dX6_least_8 (by decide +kernel) ?_
  refine g_iaddN X dX6_least_9 ?_
  refine g_callS (As := [.int (nI i), .int (nI (n + 1))]) (rest := []) (wr := [cCJ v cj (a 0) (b 0) (d 0) (j 0) (h 0) (t 0), cPg v a n f, cAs v b g, cRu v d (a 0) stl, cEn v d e, cJu v j (a 0) (b 0) (d 0) x y z jst, cEx v j ex, cLo v j lw, cHi v j hg, cVi v j vs]) X (c_X6_checkIndex l v i (n + 1) (by omega) (by omega)) f_X6_checkIndex q_15_15 dX6_least_10 [] [0, 1, 2, 3, 4, 5, 6, 7, 8, 9] rfl rfl (by decide) rfl rfl (Nat.le_of_ble_eq_true rfl) (by decide) (fun r_ w_ hp1 => ?_)
  subst hp1
  show GG k _ _ [cCJ v cj (a 0) (b 0) (d 0) (j 0) (h 0) (t 0), cPg v a n f, cAs v b g, cRu v d (a 0) stl, cEn v d e, cJu v j (a 0) (b 0) (d 0) x y z jst, cEx v j ex, cLo v j lw, cHi v j hg, cVi v j vs] _ _ []
  refine g_iload_n X dX6_least_13 2 rfl rfl ?_
  refine g_iconst (x := nI 3) X dX6_least_14 (by decide +kernel) ?_
  refine g_callS (As := [.int (nI w), .int (nI 3)]) (rest := []) (wr := [cCJ v cj (a 0) (b 0) (d 0) (j 0) (h 0) (t 0), cPg v a n f, cAs v b g, cRu v d (a 0) stl, cEn v d e, cJu v j (a 0) (b 0) (d 0) x y z jst, cEx v j ex, cLo v j lw, cHi v j hg, cVi v j vs]) X (c_X6_checkIndex l v w 3 (by omega) (by omega)) f_X6_checkIndex q_15_15 dX6_least_15 [] [0, 1, 2, 3, 4, 5, 6, 7, 8, 9] rfl rfl (by decide) rfl rfl (Nat.le_of_ble_eq_true rfl) (by decide) (fun r_ w_ hp2 => ?_)
  subst hp2
  show GG k _ _ [cCJ v cj (a 0) (b 0) (d 0) (j 0) (h 0) (t 0), cPg v a n f, cAs v b g, cRu v d (a 0) stl, cEn v d e, cJu v j (a 0) (b 0) (d 0) x y z jst, cEx v j ex, cLo v j lw, cHi v j hg, cVi v j vs] _ _ []
  refine g_aload_n X dX6_least_18 0 rfl rfl ?_
  refine g_get X cb6 3 q_2_1 dX6_least_19 0 0 rfl rfl (by decide) rfl rfl ?_
  refine g_callV (As := []) (rest := []) (wr := [cCJ v cj (a 0) (b 0) (d 0) (j 0) (h 0) (t 0)]) X (c_X2_refresh l v j x y z jst ex lw hg vs a n f P b g lo hi d stl e hW hR hL hG hE hJ ) f_X2_refresh q_16_15 dX6_least_22 [5, 6, 7, 8, 9, 1, 2, 3, 4] [0] rfl rfl (by decide) 0 rfl rfl rfl rfl (Nat.le_of_ble_eq_true rfl) (by decide) (fun r_ w_ hp4 => ?_)
  obtain ⟨rf3x, rf3y, rf3z, rf3e, rf3l, rf3h, rf3v, rf3s, rf3n, rf3J, rf3E, rfl⟩ := hp4
  show GG k _ _ [cJu v j (a 0) (b 0) (d 0) rf3x rf3y rf3z false, cEx v j rf3e, cLo v j rf3l, cHi v j rf3h, cVi v j rf3v, cPg v a n f, cAs v b g, cRu v d (a 0) rf3s, cEn v d rf3n, cCJ v cj (a 0) (b 0) (d 0) (j 0) (h 0) (t 0)] _ _ []
  refine g_pick (cs' := [cCJ v cj (a 0) (b 0) (d 0) (j 0) (h 0) (t 0), cPg v a n f, cAs v b g, cRu v d (a 0) rf3s, cEn v d rf3n, cJu v j (a 0) (b 0) (d 0) rf3x rf3y rf3z false, cEx v j rf3e, cLo v j rf3l, cHi v j rf3h, cVi v j rf3v]) [9, 5, 6, 7, 8, 0, 1, 2, 3, 4] rfl rfl ?_
  refine g_aload_n X dX6_least_25 0 rfl rfl ?_
  refine g_get X cb6 3 q_2_1 dX6_least_26 0 0 rfl rfl (by decide) rfl rfl ?_
  refine g_getN X cb2 4 4 rfl dX6_least_29 5 0 rfl rfl (by decide) rfl rfl ?_
  refine g_iload_n X dX6_least_32 1 rfl rfl ?_
  refine g_iconst (x := nI 3) X dX6_least_33 (by decide +kernel) ?_
  refine g_imulN X dX6_least_34 ?_
  refine g_iload_n X dX6_least_35 2 rfl rfl ?_
  refine g_iaddN X dX6_least_36 ?_
  refine g_iald X dX6_least_37 7 0 rfl rfl (by omega) (by omega) ?_
  exact E dX6_least_38 rfl (rfl) (by decide) (by decide) (⟨_, _, _, _, _, _, _, _, _, _, LoR_V rf3J.2.2.2.2.1 (by omega) hw9, (fun _ => rf3J), rf3E, rfl⟩)

set_option maxHeartbeats 4000000 in
set_option maxRecDepth 100000 in
theorem c_X6_greatest (l : Launch) (v : VV) (cj : Nat) (a : Nat → Nat) (b : Nat → Nat) (d : Nat → Nat) (j : Nat → Nat) (h : Nat → Nat) (t : Nat → Nat) (n : Nat) (f : Nat → Nat → Int32) (P : Nat → S9) (g : Nat → Nat → Int32) (lo : Nat → Nat) (hi : Nat → Nat) (stl : Bool) (e : Nat → Int32) (x : Nat) (y : Nat) (z : Nat) (jst : Bool) (ex : Nat → Int32) (lw : Nat → Int32) (hg : Nat → Int32) (vs : Nat → Int64) (i : Nat) (w : Nat) (hW : WF P n) (hR : PgR P n f) (hL : AsW lo hi) (hG : AsR lo hi g) (hE : stl = false → OKE P n e) (hJ : jst = false → JOK lo hi P n x y z ex lw hg) (hi9 : i < n + 1) (hw9 : w < 3) : MI l v yX6_greatest cX6_greatest 3 (some .int) ({ frames := 7, cells := 0, slots := 0, locals := 118 }) [.ref cj, .int (nI i), .int (nI w)] [cCJ v cj (a 0) (b 0) (d 0) (j 0) (h 0) (t 0), cPg v a n f, cAs v b g, cRu v d (a 0) stl, cEn v d e, cJu v j (a 0) (b 0) (d 0) x y z jst, cEx v j ex, cLo v j lw, cHi v j hg, cVi v j vs] (fun r w_ => ∃ x' y' z' jst' ex' lw' hg' vs' stl' e', r = zI (mxV lo hi P n i w) ∧ (jst' = false → JOK lo hi P n x' y' z' ex' lw' hg') ∧ (stl' = false → OKE P n e') ∧ w_ = [cCJ v cj (a 0) (b 0) (d 0) (j 0) (h 0) (t 0), cPg v a n f, cAs v b g, cRu v d (a 0) stl', cEn v d e', cJu v j (a 0) (b 0) (d 0) x' y' z' jst', cEx v j ex', cLo v j lw', cHi v j hg', cVi v j vs']) 0 0 := by
  refine mm_int (by decide) (Nat.le_of_ble_eq_true rfl) [(0, .ref cj), (1, .int (nI i)), (2, .int (nI w))] rfl (fun k X E => ?_)
  have hn12 := hW.1
  refine g_iload_n X dX6_greatest_0 1 rfl rfl ?_
  refine g_aload_n X dX6_greatest_1 0 rfl rfl ?_
  refine g_get X cb6 0 q_1_13 dX6_greatest_2 0 0 rfl rfl (by decide) rfl rfl ?_
  refine g_getN X cb3 0 0 rfl dX6_greatest_5 1 0 rfl rfl (by decide) rfl rfl ?_
  refine g_iconst (x := nI 1) X dX6_greatest_8 (by decide +kernel) ?_
  refine g_iaddN X dX6_greatest_9 ?_
  refine g_callS (As := [.int (nI i), .int (nI (n + 1))]) (rest := []) (wr := [cCJ v cj (a 0) (b 0) (d 0) (j 0) (h 0) (t 0), cPg v a n f, cAs v b g, cRu v d (a 0) stl, cEn v d e, cJu v j (a 0) (b 0) (d 0) x y z jst, cEx v j ex, cLo v j lw, cHi v j hg, cVi v j vs]) X (c_X6_checkIndex l v i (n + 1) (by omega) (by omega)) f_X6_checkIndex q_15_15 dX6_greatest_10 [] [0, 1, 2, 3, 4, 5, 6, 7, 8, 9] rfl rfl (by decide) rfl rfl (Nat.le_of_ble_eq_true rfl) (by decide) (fun r_ w_ hp1 => ?_)
  subst hp1
  show GG k _ _ [cCJ v cj (a 0) (b 0) (d 0) (j 0) (h 0) (t 0), cPg v a n f, cAs v b g, cRu v d (a 0) stl, cEn v d e, cJu v j (a 0) (b 0) (d 0) x y z jst, cEx v j ex, cLo v j lw, cHi v j hg, cVi v j vs] _ _ []
  refine g_iload_n X dX6_greatest_13 2 rfl rfl ?_
  refine g_iconst (x := nI 3) X dX6_greatest_14 (by decide +kernel) ?_
  refine g_callS (As := [.int (nI w), .int (nI 3)]) (rest := []) (wr := [cCJ v cj (a 0) (b 0) (d 0) (j 0) (h 0) (t 0), cPg v a n f, cAs v b g, cRu v d (a 0) stl, cEn v d e, cJu v j (a 0) (b 0) (d 0) x y z jst, cEx v j ex, cLo v j lw, cHi v j hg, cVi v j vs]) X (c_X6_checkIndex l v w 3 (by omega) (by omega)) f_X6_checkIndex q_15_15 dX6_greatest_15 [] [0, 1, 2, 3, 4, 5, 6, 7, 8, 9] rfl rfl (by decide) rfl rfl (Nat.le_of_ble_eq_true rfl) (by decide) (fun r_ w_ hp2 => ?_)
  subst hp2
  show GG k _ _ [cCJ v cj (a 0) (b 0) (d 0) (j 0) (h 0) (t 0), cPg v a n f, cAs v b g, cRu v d (a 0) stl, cEn v d e, cJu v j (a 0) (b 0) (d 0) x y z jst, cEx v j ex, cLo v j lw, cHi v j hg, cVi v j vs] _ _ []
  refine g_aload_n X dX6_greatest_18 0 rfl rfl ?_
  refine g_get X cb6 3 q_2_1 dX6_greatest_19 0 0 rfl rfl (by decide) rfl rfl ?_
  refine g_callV (As := []) (rest := []) (wr := [cCJ v cj (a 0) (b 0) (d 0) (j 0) (h 0) (t 0)]) X (c_X2_refresh l v j x y z jst ex lw hg vs a n f P b g lo hi d stl e hW hR hL hG hE hJ ) f_X2_refresh q_16_15 dX6_greatest_22 [5, 6, 7, 8, 9, 1, 2, 3, 4] [0] rfl rfl (by decide) 0 rfl rfl rfl rfl (Nat.le_of_ble_eq_true rfl) (by decide) (fun r_ w_ hp4 => ?_)
  obtain ⟨rf3x, rf3y, rf3z, rf3e, rf3l, rf3h, rf3v, rf3s, rf3n, rf3J, rf3E, rfl⟩ := hp4
  show GG k _ _ [cJu v j (a 0) (b 0) (d 0) rf3x rf3y rf3z false, cEx v j rf3e, cLo v j rf3l, cHi v j rf3h, cVi v j rf3v, cPg v a n f, cAs v b g, cRu v d (a 0) rf3s, cEn v d rf3n, cCJ v cj (a 0) (b 0) (d 0) (j 0) (h 0) (t 0)] _ _ []
  refine g_pick (cs' := [cCJ v cj (a 0) (b 0) (d 0) (j 0) (h 0) (t 0), cPg v a n f, cAs v b g, cRu v d (a 0) rf3s, cEn v d rf3n, cJu v j (a 0) (b 0) (d 0) rf3x rf3y rf3z false, cEx v j rf3e, cLo v j rf3l, cHi v j rf3h, cVi v j rf3v]) [9, 5, 6, 7, 8, 0, 1, 2, 3, 4] rfl rfl ?_
  refine g_aload_n X dX6_greatest_25 0 rfl rfl ?_
  refine g_get X cb6 3 q_2_1 dX6_greatest_26 0 0 rfl rfl (by decide) rfl rfl ?_
  refine g_getN X cb2 5 5 rfl dX6_greatest_29 5 0 rfl rfl (by decide) rfl rfl ?_
  refine g_iload_n X dX6_greatest_32 1 rfl rfl ?_
  refine g_iconst (x := nI 3) X dX6_greatest_33 (by decide +kernel) ?_
  refine g_imulN X dX6_greatest_34 ?_
  refine g_iload_n X dX6_greatest_35 2 rfl rfl ?_
  refine g_iaddN X dX6_greatest_36 ?_
  refine g_iald X dX6_greatest_37 8 0 rfl rfl (by omega) (by omega) ?_
  exact E dX6_greatest_38 rfl (rfl) (by decide) (by decide) (⟨_, _, _, _, _, _, _, _, _, _, HiR_V rf3J.2.2.2.2.2 (by omega) hw9, (fun _ => rf3J), rf3E, rfl⟩)

set_option maxHeartbeats 4000000 in
set_option maxRecDepth 100000 in
theorem c_X6_verdict (l : Launch) (v : VV) (cj : Nat) (a : Nat → Nat) (b : Nat → Nat) (d : Nat → Nat) (j : Nat → Nat) (h : Nat → Nat) (t : Nat → Nat) (n : Nat) (f : Nat → Nat → Int32) (P : Nat → S9) (g : Nat → Nat → Int32) (lo : Nat → Nat) (hi : Nat → Nat) (stl : Bool) (e : Nat → Int32) (x : Nat) (y : Nat) (z : Nat) (jst : Bool) (ex : Nat → Int32) (lw : Nat → Int32) (hg : Nat → Int32) (vs : Nat → Int64) (i : Nat) (hW : WF P n) (hR : PgR P n f) (hL : AsW lo hi) (hG : AsR lo hi g) (hE : stl = false → OKE P n e) (hJ : jst = false → JOK lo hi P n x y z ex lw hg) (hi9 : i < n) : MI l v yX6_verdict cX6_verdict 2 (some .int) ({ frames := 7, cells := 0, slots := 0, locals := 118 }) [.ref cj, .int (nI i)] [cCJ v cj (a 0) (b 0) (d 0) (j 0) (h 0) (t 0), cPg v a n f, cAs v b g, cRu v d (a 0) stl, cEn v d e, cJu v j (a 0) (b 0) (d 0) x y z jst, cEx v j ex, cLo v j lw, cHi v j hg, cVi v j vs] (fun r w_ => ∃ x' y' z' jst' ex' lw' hg' vs' stl' e', r = zI (vdV lo hi P n i) ∧ (jst' = false → JOK lo hi P n x' y' z' ex' lw' hg') ∧ (stl' = false → OKE P n e') ∧ w_ = [cCJ v cj (a 0) (b 0) (d 0) (j 0) (h 0) (t 0), cPg v a n f, cAs v b g, cRu v d (a 0) stl', cEn v d e', cJu v j (a 0) (b 0) (d 0) x' y' z' jst', cEx v j ex', cLo v j lw', cHi v j hg', cVi v j vs']) 0 0 := by
  refine mm_int (by decide) (Nat.le_of_ble_eq_true rfl) [(0, .ref cj), (1, .int (nI i))] rfl (fun k X E => ?_)
  have hn12 := hW.1
  refine g_iload_n X dX6_verdict_0 1 rfl rfl ?_
  refine g_aload_n X dX6_verdict_1 0 rfl rfl ?_
  refine g_get X cb6 0 q_1_13 dX6_verdict_2 0 0 rfl rfl (by decide) rfl rfl ?_
  refine g_getN X cb3 0 0 rfl dX6_verdict_5 1 0 rfl rfl (by decide) rfl rfl ?_
  refine g_callS (As := [.int (nI i), .int (nI n)]) (rest := []) (wr := [cCJ v cj (a 0) (b 0) (d 0) (j 0) (h 0) (t 0), cPg v a n f, cAs v b g, cRu v d (a 0) stl, cEn v d e, cJu v j (a 0) (b 0) (d 0) x y z jst, cEx v j ex, cLo v j lw, cHi v j hg, cVi v j vs]) X (c_X6_checkIndex l v i n (by omega) (by omega)) f_X6_checkIndex q_15_15 dX6_verdict_8 [] [0, 1, 2, 3, 4, 5, 6, 7, 8, 9] rfl rfl (by decide) rfl rfl (Nat.le_of_ble_eq_true rfl) (by decide) (fun r_ w_ hp1 => ?_)
  subst hp1
  show GG k _ _ [cCJ v cj (a 0) (b 0) (d 0) (j 0) (h 0) (t 0), cPg v a n f, cAs v b g, cRu v d (a 0) stl, cEn v d e, cJu v j (a 0) (b 0) (d 0) x y z jst, cEx v j ex, cLo v j lw, cHi v j hg, cVi v j vs] _ _ []
  refine g_aload_n X dX6_verdict_11 0 rfl rfl ?_
  refine g_get X cb6 0 q_1_13 dX6_verdict_12 0 0 rfl rfl (by decide) rfl rfl ?_
  refine g_getN X cb3 1 1 rfl dX6_verdict_15 1 0 rfl rfl (by decide) rfl rfl ?_
  refine g_iload_n X dX6_verdict_18 1 rfl rfl ?_
  refine g_iald X dX6_verdict_19 1 1 rfl rfl (by omega) (by omega) ?_
  have hk3 := (hW.2 i hi9).1
  refine g_v (y := nI ((P i).1)) ((hR i hi9).1) ?_
  refine g_iconst (x := nI 1) X dX6_verdict_20 (by decide +kernel) ?_
  refine g_icmp_eqN (tgt := 26) X dX6_verdict_21 (by decide) (by omega) (by omega) (fun c21 => ?_) (fun c21 => ?_)
  · refine g_aload_n X dX6_verdict_26 0 rfl rfl ?_
    refine g_get X cb6 3 q_2_1 dX6_verdict_27 0 0 rfl rfl (by decide) rfl rfl ?_
    refine g_callV (As := []) (rest := []) (wr := [cCJ v cj (a 0) (b 0) (d 0) (j 0) (h 0) (t 0)]) X (c_X2_refresh l v j x y z jst ex lw hg vs a n f P b g lo hi d stl e hW hR hL hG hE hJ ) f_X2_refresh q_16_15 dX6_verdict_30 [5, 6, 7, 8, 9, 1, 2, 3, 4] [0] rfl rfl (by decide) 0 rfl rfl rfl rfl (Nat.le_of_ble_eq_true rfl) (by decide) (fun r_ w_ hp3 => ?_)
    obtain ⟨rf2x, rf2y, rf2z, rf2e, rf2l, rf2h, rf2v, rf2s, rf2n, rf2J, rf2E, rfl⟩ := hp3
    show GG k _ _ [cJu v j (a 0) (b 0) (d 0) rf2x rf2y rf2z false, cEx v j rf2e, cLo v j rf2l, cHi v j rf2h, cVi v j rf2v, cPg v a n f, cAs v b g, cRu v d (a 0) rf2s, cEn v d rf2n, cCJ v cj (a 0) (b 0) (d 0) (j 0) (h 0) (t 0)] _ _ []
    refine g_pick (cs' := [cCJ v cj (a 0) (b 0) (d 0) (j 0) (h 0) (t 0), cPg v a n f, cAs v b g, cRu v d (a 0) rf2s, cEn v d rf2n, cJu v j (a 0) (b 0) (d 0) rf2x rf2y rf2z false, cEx v j rf2e, cLo v j rf2l, cHi v j rf2h, cVi v j rf2v]) [9, 5, 6, 7, 8, 0, 1, 2, 3, 4] rfl rfl ?_
    refine g_aload_n X dX6_verdict_33 0 rfl rfl ?_
    refine g_get X cb6 3 q_2_1 dX6_verdict_34 0 0 rfl rfl (by decide) rfl rfl ?_
    refine g_getN X cb2 3 3 rfl dX6_verdict_37 5 0 rfl rfl (by decide) rfl rfl ?_
    refine g_iload_n X dX6_verdict_40 1 rfl rfl ?_
    refine g_iald X dX6_verdict_41 6 0 rfl rfl (by omega) (by omega) ?_
    have hxv := ExR_V rf2J.2.2.2.1 (show i < 12 by omega)
    refine g_v (y := zI (exV lo hi P n i)) (hxv.1) ?_
    refine g_iconst (x := zI (-1)) X dX6_verdict_42 (by decide +kernel) ?_
    refine g_icmp_eq (tgt := 48) X dX6_verdict_43 (by decide) (fun c43 => ?_) (fun c43 => ?_)
    · rw [zI_inj (by omega) (by omega) (by omega) (by omega)] at c43
      refine g_aload_n X dX6_verdict_48 0 rfl rfl ?_
      refine g_get X cb6 3 q_2_1 dX6_verdict_49 0 0 rfl rfl (by decide) rfl rfl ?_
      refine g_iload_n X dX6_verdict_52 1 rfl rfl ?_
      refine g_callV (As := [.int (nI i)]) (rest := []) (wr := [cCJ v cj (a 0) (b 0) (d 0) (j 0) (h 0) (t 0), cPg v a n f, cAs v b g, cRu v d (a 0) rf2s, cEn v d rf2n, cEx v j rf2e, cHi v j rf2h, cVi v j rf2v]) X (c_X2_isReached l v j (a 0) (b 0) (d 0) rf2x rf2y rf2z false rf2l (RV lo hi P n 512) i (by omega) rf2J.2.2.2.2.1) f_X2_isReached q_21_2 dX6_verdict_53 [5, 7] [0, 1, 2, 3, 4, 6, 8, 9] rfl rfl (by decide) 0 rfl rfl rfl rfl (Nat.le_of_ble_eq_true rfl) (by decide) (fun r_ w_ hp5 => ?_)
      obtain ⟨⟨ir4, ir4h, ir4m, rfl⟩, rfl⟩ := hp5
      show GG k _ _ [cJu v j (a 0) (b 0) (d 0) rf2x rf2y rf2z false, cLo v j rf2l, cCJ v cj (a 0) (b 0) (d 0) (j 0) (h 0) (t 0), cPg v a n f, cAs v b g, cRu v d (a 0) rf2s, cEn v d rf2n, cEx v j rf2e, cHi v j rf2h, cVi v j rf2v] _ _ [.int (bI (decide (ir4 ≠ -1)))]
      refine g_pick (cs' := [cCJ v cj (a 0) (b 0) (d 0) (j 0) (h 0) (t 0), cPg v a n f, cAs v b g, cRu v d (a 0) rf2s, cEn v d rf2n, cJu v j (a 0) (b 0) (d 0) rf2x rf2y rf2z false, cEx v j rf2e, cLo v j rf2l, cHi v j rf2h, cVi v j rf2v]) [2, 3, 4, 5, 6, 0, 7, 1, 8, 9] rfl rfl ?_
      refine g_if_eqB (tgt := 63) X dX6_verdict_56 (by decide) (fun c56 => ?_) (fun c56 => ?_)
      · refine g_iconst (x := nI 0) X dX6_verdict_63 (by decide +kernel) ?_
        exact E dX6_verdict_64 rfl (rfl) (by decide) (by decide) (⟨_, _, _, _, _, _, _, _, _, _, by unfold vdV; rw [if_pos c21, if_pos c43, mnV_eq ir4m, if_pos (Decidable.not_not.mp (of_decide_eq_false c56))]; exact zer_zI, (fun _ => rf2J), rf2E, rfl⟩)
      · refine g_iconst (x := nI 1) X dX6_verdict_59 (by decide +kernel) ?_
        refine g_goto (tgt := 64) X dX6_verdict_60 (by decide) ?_
        exact E dX6_verdict_64 rfl (rfl) (by decide) (by decide) (⟨_, _, _, _, _, _, _, _, _, _, by unfold vdV; rw [if_pos c21, if_pos c43, mnV_eq ir4m, if_neg (of_decide_eq_true c56)]; exact one_zI, (fun _ => rf2J), rf2E, rfl⟩)
    · rw [zI_inj (by omega) (by omega) (by omega) (by omega)] at c43
      refine g_iconst (x := nI 2) X dX6_verdict_46 (by decide +kernel) ?_
      exact E dX6_verdict_47 rfl (rfl) (by decide) (by decide) (⟨_, _, _, _, _, _, _, _, _, _, by unfold vdV; rw [if_pos c21, if_neg c43]; exact two_zI, (fun _ => rf2J), rf2E, rfl⟩)
  · refine g_iconst (x := zI (-1)) X dX6_verdict_24 (by decide +kernel) ?_
    exact E dX6_verdict_25 rfl (rfl) (by decide) (by decide) (⟨_, _, _, _, _, _, _, _, _, _, by unfold vdV; rw [if_neg c21], hJ, hE, rfl⟩)

set_option maxHeartbeats 4000000 in
set_option maxRecDepth 100000 in
theorem c_X6_unprovedValues (l : Launch) (v : VV) (cj : Nat) (a : Nat → Nat) (b : Nat → Nat) (d : Nat → Nat) (j : Nat → Nat) (h : Nat → Nat) (t : Nat → Nat) (n : Nat) (f : Nat → Nat → Int32) (P : Nat → S9) (g : Nat → Nat → Int32) (lo : Nat → Nat) (hi : Nat → Nat) (stl : Bool) (e : Nat → Int32) (w : Nat) (hW : WF P n) (hR : PgR P n f) (hL : AsW lo hi) (hG : AsR lo hi g) (hE : stl = false → OKE P n e) (hw9 : w < 3) : MI l v yX6_unprovedValues cX6_unprovedValues 4 (some .int) ({ frames := 4, cells := 0, slots := 0, locals := 97 }) [.ref cj, .int (nI w)] [cCJ v cj (a 0) (b 0) (d 0) (j 0) (h 0) (t 0), cPg v a n f, cAs v b g, cRu v d (a 0) stl, cEn v d e] (fun r w_ => ∃ m stl' e', r = nI m ∧ MkR lo hi P n w 512 m ∧ (stl' = false → OKE P n e') ∧ w_ = [cCJ v cj (a 0) (b 0) (d 0) (j 0) (h 0) (t 0), cPg v a n f, cAs v b g, cRu v d (a 0) stl', cEn v d e']) 0 0 := by
  refine mm_int (by decide) (Nat.le_of_ble_eq_true rfl) [(0, .ref cj), (1, .int (nI w))] rfl (fun k X E => ?_)
  have hn12 := hW.1
  refine g_iconst (x := nI 0) X dX6_unprovedValues_0 (by decide +kernel) ?_
  refine g_istore_n (lv' := [(2, .int (nI 0)), (0, .ref cj), (1, .int (nI w))]) X dX6_unprovedValues_1 rfl (by decide) rfl ?_
  refine g_iconst (x := nI 0) X dX6_unprovedValues_2 (by decide +kernel) ?_
  refine g_istore_n (lv' := [(3, .int (nI 0)), (2, .int (nI 0)), (0, .ref cj), (1, .int (nI w))]) X dX6_unprovedValues_3 rfl (by decide) rfl ?_
  have lp4 : ∀ (zN : Nat) (T : Nat) (m : Nat) (stl' : Bool) (e' : Nat → Int32) (hT : T ≤ 512) (hM : MkR lo hi P n w T m) (hE2 : stl' = false → OKE P n e') (zM : zN = 512 - T), GG k 0 0 [cCJ v cj (a 0) (b 0) (d 0) (j 0) (h 0) (t 0), cPg v a n f, cAs v b g, cRu v d (a 0) stl', cEn v d e'] [(3, .int (nI T)), (2, .int (nI m)), (0, .ref cj), (1, .int (nI w))] 4 [] := by
    intro zN
    induction zN using Nat.strongRecOn with
    | _ zN zih =>
      have ih4 := zih
      clear zih
      intro T m stl' e' hT hM hE2 zM
      refine g_iload_n X dX6_unprovedValues_4 0 rfl rfl ?_
      refine g_sipush (x := nI 512) X dX6_unprovedValues_5 (by decide +kernel) ?_
      refine g_icmp_geN (tgt := 53) X dX6_unprovedValues_8 (by decide) (by omega) (by omega) (fun c8 => ?_) (fun c8 => ?_)
      · refine g_iload_n X dX6_unprovedValues_53 1 rfl rfl ?_
        exact E dX6_unprovedValues_54 rfl (rfl) (by decide) (by decide) (⟨m, _, _, rfl, by rwa [show T = 512 from by omega] at hM, hE2, rfl⟩)
      · refine g_aload_n X dX6_unprovedValues_11 2 rfl rfl ?_
        refine g_get X cb6 1 q_1_17 dX6_unprovedValues_12 0 0 rfl rfl (by decide) rfl rfl ?_
        refine g_iload_n X dX6_unprovedValues_15 3 rfl rfl ?_
        refine g_iload_n X dX6_unprovedValues_16 0 rfl rfl ?_
        refine g_callV (As := [.int (nI w), .int (nI T)]) (rest := []) (wr := [cCJ v cj (a 0) (b 0) (d 0) (j 0) (h 0) (t 0), cPg v a n f, cRu v d (a 0) stl', cEn v d e']) X (c_X0_allowsBut l v b g lo hi ((w : Nat) : Int) T hL hG (by omega) (by omega)) f_X0_allowsBut q_23_18 dX6_unprovedValues_17 [2] [0, 1, 3, 4] rfl rfl (by decide) 0 rfl rfl rfl rfl (Nat.le_of_ble_eq_true rfl) (by decide) (fun r_ w_ hp1 => ?_)
        obtain ⟨rfl, rfl⟩ := hp1
        show GG k _ _ [cAs v b g, cCJ v cj (a 0) (b 0) (d 0) (j 0) (h 0) (t 0), cPg v a n f, cRu v d (a 0) stl', cEn v d e'] _ _ [.int (bI (ab9 lo hi ((w : Nat) : Int) T))]
        refine g_pick (cs' := [cCJ v cj (a 0) (b 0) (d 0) (j 0) (h 0) (t 0), cPg v a n f, cAs v b g, cRu v d (a 0) stl', cEn v d e']) [1, 2, 0, 3, 4] rfl rfl ?_
        refine g_if_eqB (tgt := 47) X dX6_unprovedValues_20 (by decide) (fun c20 => ?_) (fun c20 => ?_)
        · refine g_iinc (y := nI (T + 1)) (lv' := [(3, .int (nI (T + 1))), (2, .int (nI m)), (0, .ref cj), (1, .int (nI w))]) (j := 0) X dX6_unprovedValues_47 rfl (nI_add T 1) (by decide) rfl ?_
          refine g_goto (tgt := 4) X dX6_unprovedValues_50 (by decide) ?_
          exact ih4 _ (by omega) (T + 1) m stl' e' (by omega) (MkR_skip hM (fun z => by rw [z.1] at c20; cases c20)) hE2 rfl
        · refine g_aload_n X dX6_unprovedValues_23 2 rfl rfl ?_
          refine g_get X cb6 2 q_1_21 dX6_unprovedValues_24 0 0 rfl rfl (by decide) rfl rfl ?_
          refine g_iload_n X dX6_unprovedValues_27 0 rfl rfl ?_
          refine g_callV (As := [.int (nI T)]) (rest := []) (wr := [cCJ v cj (a 0) (b 0) (d 0) (j 0) (h 0) (t 0), cAs v b g]) X (c_X4_endFrom l v d stl' a n f P e' T hW hR (by omega) (hE2)) f_X4_endFrom q_22_15 dX6_unprovedValues_28 [3, 4, 1] [0, 2] rfl rfl (by decide) 0 rfl rfl rfl rfl (Nat.le_of_ble_eq_true rfl) (by decide) (fun r_ w_ hp3 => ?_)
          obtain ⟨rfl, e_2, e_2O, rfl⟩ := hp3
          show GG k _ _ [cRu v d (a 0) false, cEn v d e_2, cPg v a n f, cCJ v cj (a 0) (b 0) (d 0) (j 0) (h 0) (t 0), cAs v b g] _ _ [.int (zI (EE P n T))]
          refine g_pick (cs' := [cCJ v cj (a 0) (b 0) (d 0) (j 0) (h 0) (t 0), cPg v a n f, cAs v b g, cRu v d (a 0) false, cEn v d e_2]) [3, 2, 4, 0, 1] rfl rfl ?_
          have hr := EE_rng hW (show T < 512 * (n + 1) by omega)
          refine g_sipush (x := nI 1000) X dX6_unprovedValues_31 (by decide +kernel) ?_
          refine g_icmp_ge (tgt := 47) X dX6_unprovedValues_34 (by decide) (fun c34 => ?_) (fun c34 => ?_)
          · rw [zI_nI 1000, zI_le (by omega) (by omega) (by omega) (by omega)] at c34
            refine g_iinc (y := nI (T + 1)) (lv' := [(3, .int (nI (T + 1))), (2, .int (nI m)), (0, .ref cj), (1, .int (nI w))]) (j := 0) X dX6_unprovedValues_47 rfl (nI_add T 1) (by decide) rfl ?_
            refine g_goto (tgt := 4) X dX6_unprovedValues_50 (by decide) ?_
            exact ih4 _ (by omega) (T + 1) m false e_2 (by omega) (MkR_skip hM (fun z => by omega)) (fun _ => e_2O) rfl
          · rw [zI_nI 1000, zI_le (by omega) (by omega) (by omega) (by omega)] at c34
            refine g_iload_n X dX6_unprovedValues_37 1 rfl rfl ?_
            refine g_iconst (x := nI 1) X dX6_unprovedValues_38 (by decide +kernel) ?_
            refine g_iload_n X dX6_unprovedValues_39 0 rfl rfl ?_
            refine g_iload_n X dX6_unprovedValues_40 3 rfl rfl ?_
            refine g_callS (As := [.int (nI T), .int (nI w)]) (rest := [.int (nI 1), .int (nI m)]) (wr := [cCJ v cj (a 0) (b 0) (d 0) (j 0) (h 0) (t 0), cPg v a n f, cAs v b g, cRu v d (a 0) false, cEn v d e_2]) X (c_X6_valueOf l v T w (by omega) (by omega)) f_X6_valueOf q_23_19 dX6_unprovedValues_41 [] [0, 1, 2, 3, 4] rfl rfl (by decide) rfl rfl (Nat.le_of_ble_eq_true rfl) (by decide) (fun r_ w_ hp4 => ?_)
            obtain ⟨rfl, rfl⟩ := hp4
            show GG k _ _ [cCJ v cj (a 0) (b 0) (d 0) (j 0) (h 0) (t 0), cPg v a n f, cAs v b g, cRu v d (a 0) false, cEn v d e_2] _ _ [.int (nI (val T w)), .int (nI 1), .int (nI m)]
            refine g_ishl X dX6_unprovedValues_44 ?_
            refine g_ior X dX6_unprovedValues_45 ?_
            refine g_v (y := nI (m ||| 2 ^ val T w)) (or_sh m hM.1 _ (val_lt _ _)) ?_
            refine g_istore_n (lv' := [(2, .int (nI (m ||| 2 ^ val T w))), (3, .int (nI T)), (0, .ref cj), (1, .int (nI w))]) X dX6_unprovedValues_46 rfl (by decide) rfl ?_
            refine g_iinc (y := nI (T + 1)) (lv' := [(3, .int (nI (T + 1))), (2, .int (nI (m ||| 2 ^ val T w))), (0, .ref cj), (1, .int (nI w))]) (j := 1) X dX6_unprovedValues_47 rfl (nI_add T 1) (by decide) rfl ?_
            refine g_goto (tgt := 4) X dX6_unprovedValues_50 (by decide) ?_
            exact ih4 _ (by omega) (T + 1) (m ||| 2 ^ val T w) false e_2 (by omega) (MkR_set hM c20 (by omega)) (fun _ => e_2O) rfl
  exact lp4 _ 0 0 stl e (by omega) MkR_0 hE rfl

set_option maxHeartbeats 4000000 in
set_option maxRecDepth 100000 in
theorem c_X6_widestRange (l : Launch) (v : VV) (m : Nat) (hm : m < 256) : MI l v yX6_widestRange cX6_widestRange 5 (some .int) ({ frames := 0, cells := 0, slots := 0, locals := 0 }) [.int (nI m)] [] (fun r w_ => r = zI (wrF m 8).1 ∧ w_ = []) 0 0 := by
  refine mm_int (by decide) (Nat.le_of_ble_eq_true rfl) [(0, .int (nI m))] rfl (fun k X E => ?_)
  refine g_iconst (x := zI (-1)) X dX6_widestRange_0 (by decide +kernel) ?_
  refine g_istore_n (lv' := [(1, .int (zI (-1))), (0, .int (nI m))]) X dX6_widestRange_1 rfl (by decide) rfl ?_
  refine g_iconst (x := nI 0) X dX6_widestRange_2 (by decide +kernel) ?_
  refine g_istore_n (lv' := [(2, .int (nI 0)), (1, .int (zI (-1))), (0, .int (nI m))]) X dX6_widestRange_3 rfl (by decide) rfl ?_
  refine g_iconst (x := nI 0) X dX6_widestRange_4 (by decide +kernel) ?_
  refine g_istore_n (lv' := [(3, .int (nI 0)), (2, .int (nI 0)), (1, .int (zI (-1))), (0, .int (nI m))]) X dX6_widestRange_5 rfl (by decide) rfl ?_
  refine g_iconst (x := nI 0) X dX6_widestRange_6 (by decide +kernel) ?_
  refine g_istore (lv' := [(4, .int (nI 0)), (3, .int (nI 0)), (2, .int (nI 0)), (1, .int (zI (-1))), (0, .int (nI m))]) X dX6_widestRange_7 (by decide) rfl ?_
  have lp9 : ∀ (zN : Nat) (h : Nat) (hh : h ≤ 8) (zM : zN = 8 - h), GG k 0 0 [] [(4, .int (nI h)), (1, .int (zI ((wrF m h).1))), (2, .int (nI ((wrF m h).2.1))), (3, .int (nI ((wrF m h).2.2))), (0, .int (nI m))] 9 [] := by
    intro zN
    induction zN using Nat.strongRecOn with
    | _ zN zih =>
      have ih9 := zih
      clear zih
      intro h hh zM
      have hwl := wrF_low m h
      have hsh := Nat.div_le_self m (2 ^ h)
      refine g_iload X dX6_widestRange_9 0 rfl ?_
      refine g_bipush (x := nI 8) X dX6_widestRange_11 (by decide +kernel) ?_
      refine g_icmp_geN (tgt := 65) X dX6_widestRange_13 (by decide) (by omega) (by omega) (fun c13 => ?_) (fun c13 => ?_)
      · refine g_iload_n X dX6_widestRange_65 1 rfl rfl ?_
        exact E dX6_widestRange_66 rfl (rfl) (by decide) (by decide) (⟨by rw [show h = 8 from by omega], rfl⟩)
      · refine g_iload_n X dX6_widestRange_16 4 rfl rfl ?_
        refine g_iload X dX6_widestRange_17 0 rfl ?_
        refine g_ishrN X dX6_widestRange_19 (by omega) (by omega) ?_
        refine g_iconst (x := nI 1) X dX6_widestRange_20 (by decide +kernel) ?_
        refine g_iandN X dX6_widestRange_21 1 (by decide +kernel) (by omega) ?_
        refine g_iconst (x := nI 1) X dX6_widestRange_22 (by decide +kernel) ?_
        refine g_icmp_neN (tgt := 34) X dX6_widestRange_23 (by decide) (by omega) (by omega) (fun c23 => ?_) (fun c23 => ?_)
        · refine g_iload X dX6_widestRange_34 0 rfl ?_
          refine g_iload_n X dX6_widestRange_36 3 rfl rfl ?_
          refine g_isubN X dX6_widestRange_37 (by omega) ?_
          refine g_iconst (x := nI 1) X dX6_widestRange_38 (by decide +kernel) ?_
          refine g_iaddN X dX6_widestRange_39 ?_
          refine g_iload_n X dX6_widestRange_40 2 rfl rfl ?_
          refine g_icmp_leN (tgt := 59) X dX6_widestRange_41 (by decide) (by omega) (by omega) (fun c41 => ?_) (fun c41 => ?_)
          · have hwr : wrF m (h + 1) = wrF m h := by show wrS m h (wrF m h) = _; unfold wrS; rw [if_neg (by simpa using c23), if_neg (by omega)]
            refine g_lveq (lv' := [(4, .int (nI h)), (1, .int (zI ((wrF m (h + 1)).1))), (2, .int (nI ((wrF m (h + 1)).2.1))), (3, .int (nI ((wrF m (h + 1)).2.2))), (0, .int (nI m))]) (by rw [hwr]) ?_
            refine g_iinc (y := nI (h + 1)) (lv' := [(4, .int (nI (h + 1))), (1, .int (zI ((wrF m (h + 1)).1))), (2, .int (nI ((wrF m (h + 1)).2.1))), (3, .int (nI ((wrF m (h + 1)).2.2))), (0, .int (nI m))]) (j := 0) X dX6_widestRange_59 rfl (nI_add h 1) (by decide) rfl ?_
            refine g_goto (tgt := 9) X dX6_widestRange_62 (by decide) ?_
            exact ih9 _ (by omega) (h + 1) (by omega) rfl
          · refine g_iload X dX6_widestRange_44 0 rfl ?_
            refine g_iload_n X dX6_widestRange_46 3 rfl rfl ?_
            refine g_isubN X dX6_widestRange_47 (by omega) ?_
            refine g_iconst (x := nI 1) X dX6_widestRange_48 (by decide +kernel) ?_
            refine g_iaddN X dX6_widestRange_49 ?_
            refine g_istore_n (lv' := [(2, .int (nI ((h - ((wrF m h).2.2)) + 1))), (4, .int (nI h)), (1, .int (zI ((wrF m h).1))), (3, .int (nI ((wrF m h).2.2))), (0, .int (nI m))]) X dX6_widestRange_50 rfl (by decide) rfl ?_
            refine g_bipush (x := nI 10) X dX6_widestRange_51 (by decide +kernel) ?_
            refine g_iload_n X dX6_widestRange_53 3 rfl rfl ?_
            refine g_imulN X dX6_widestRange_54 ?_
            refine g_iload X dX6_widestRange_55 1 rfl ?_
            refine g_iaddN X dX6_widestRange_57 ?_
            refine g_istore_n (lv' := [(1, .int (nI ((10 * ((wrF m h).2.2)) + h))), (2, .int (nI ((h - ((wrF m h).2.2)) + 1))), (4, .int (nI h)), (3, .int (nI ((wrF m h).2.2))), (0, .int (nI m))]) X dX6_widestRange_58 rfl (by decide) rfl ?_
            have hwr : wrF m (h + 1) = (((10 * (wrF m h).2.2 + h : Nat) : Int), h + 1 - (wrF m h).2.2, (wrF m h).2.2) := by show wrS m h (wrF m h) = _; unfold wrS; rw [if_neg (by simpa using c23), if_pos (by omega)]
            refine g_lveq (lv' := [(1, .int (zI ((wrF m (h + 1)).1))), (2, .int (nI ((wrF m (h + 1)).2.1))), (4, .int (nI h)), (3, .int (nI ((wrF m (h + 1)).2.2))), (0, .int (nI m))]) (by rw [hwr]; rw [← zI_nI, show h - (wrF m h).2.2 + 1 = h + 1 - (wrF m h).2.2 from by omega]) ?_
            refine g_iinc (y := nI (h + 1)) (lv' := [(4, .int (nI (h + 1))), (1, .int (zI ((wrF m (h + 1)).1))), (2, .int (nI ((wrF m (h + 1)).2.1))), (3, .int (nI ((wrF m (h + 1)).2.2))), (0, .int (nI m))]) (j := 2) X dX6_widestRange_59 rfl (nI_add h 1) (by decide) rfl ?_
            refine g_goto (tgt := 9) X dX6_widestRange_62 (by decide) ?_
            exact ih9 _ (by omega) (h + 1) (by omega) rfl
        · refine g_iload X dX6_widestRange_26 0 rfl ?_
          refine g_iconst (x := nI 1) X dX6_widestRange_28 (by decide +kernel) ?_
          refine g_iaddN X dX6_widestRange_29 ?_
          refine g_istore_n (lv' := [(3, .int (nI (h + 1))), (4, .int (nI h)), (1, .int (zI ((wrF m h).1))), (2, .int (nI ((wrF m h).2.1))), (0, .int (nI m))]) X dX6_widestRange_30 rfl (by decide) rfl ?_
          refine g_goto (tgt := 59) X dX6_widestRange_31 (by decide) ?_
          have hwr : wrF m (h + 1) = ((wrF m h).1, (wrF m h).2.1, h + 1) := by show wrS m h (wrF m h) = _; unfold wrS; rw [if_pos (by simpa using c23)]
          refine g_lveq (lv' := [(3, .int (nI ((wrF m (h + 1)).2.2))), (4, .int (nI h)), (1, .int (zI ((wrF m (h + 1)).1))), (2, .int (nI ((wrF m (h + 1)).2.1))), (0, .int (nI m))]) (by rw [hwr]) ?_
          refine g_iinc (y := nI (h + 1)) (lv' := [(4, .int (nI (h + 1))), (3, .int (nI ((wrF m (h + 1)).2.2))), (1, .int (zI ((wrF m (h + 1)).1))), (2, .int (nI ((wrF m (h + 1)).2.1))), (0, .int (nI m))]) (j := 1) X dX6_widestRange_59 rfl (nI_add h 1) (by decide) rfl ?_
          refine g_goto (tgt := 9) X dX6_widestRange_62 (by decide) ?_
          refine g_lv (lv' := [(4, .int (nI (h + 1))), (1, .int (zI ((wrF m (h + 1)).1))), (2, .int (nI ((wrF m (h + 1)).2.1))), (3, .int (nI ((wrF m (h + 1)).2.2))), (0, .int (nI m))]) [0, 2, 3, 1, 4] rfl ?_
          exact ih9 _ (by omega) (h + 1) (by omega) rfl
  refine g_lv (lv' := [(4, .int (nI 0)), (1, .int (zI (-1))), (2, .int (nI 0)), (3, .int (nI 0)), (0, .int (nI m))]) [0, 3, 2, 1, 4] rfl ?_
  exact lp9 _ 0 (by omega) rfl

set_option maxHeartbeats 4000000 in
set_option maxRecDepth 100000 in
theorem c_X6_widest (l : Launch) (v : VV) (cj : Nat) (a : Nat → Nat) (b : Nat → Nat) (d : Nat → Nat) (j : Nat → Nat) (h : Nat → Nat) (t : Nat → Nat) (n : Nat) (f : Nat → Nat → Int32) (P : Nat → S9) (g : Nat → Nat → Int32) (lo : Nat → Nat) (hi : Nat → Nat) (stl : Bool) (e : Nat → Int32) (w : Nat) (hW : WF P n) (hR : PgR P n f) (hL : AsW lo hi) (hG : AsR lo hi g) (hE : stl = false → OKE P n e) (hw9 : w < 3) : MI l v yX6_widest cX6_widest 2 (some .int) ({ frames := 7, cells := 0, slots := 0, locals := 120 }) [.ref cj, .int (nI w)] [cCJ v cj (a 0) (b 0) (d 0) (j 0) (h 0) (t 0), cPg v a n f, cAs v b g, cRu v d (a 0) stl, cEn v d e] (fun r w_ => ∃ stl' e', r = zI (wdV lo hi P n w) ∧ (stl' = false → OKE P n e') ∧ w_ = [cCJ v cj (a 0) (b 0) (d 0) (j 0) (h 0) (t 0), cPg v a n f, cAs v b g, cRu v d (a 0) stl', cEn v d e']) 0 0 := by
  refine mm_int (by decide) (Nat.le_of_ble_eq_true rfl) [(0, .ref cj), (1, .int (nI w))] rfl (fun k X E => ?_)
  have hn12 := hW.1
  refine g_iload_n X dX6_widest_0 1 rfl rfl ?_
  refine g_iconst (x := nI 3) X dX6_widest_1 (by decide +kernel) ?_
  refine g_callS (As := [.int (nI w), .int (nI 3)]) (rest := []) (wr := [cCJ v cj (a 0) (b 0) (d 0) (j 0) (h 0) (t 0), cPg v a n f, cAs v b g, cRu v d (a 0) stl, cEn v d e]) X (c_X6_checkIndex l v w 3 (by omega) (by omega)) f_X6_checkIndex q_15_15 dX6_widest_2 [] [0, 1, 2, 3, 4] rfl rfl (by decide) rfl rfl (Nat.le_of_ble_eq_true rfl) (by decide) (fun r_ w_ hp1 => ?_)
  subst hp1
  show GG k _ _ [cCJ v cj (a 0) (b 0) (d 0) (j 0) (h 0) (t 0), cPg v a n f, cAs v b g, cRu v d (a 0) stl, cEn v d e] _ _ []
  refine g_aload_n X dX6_widest_5 0 rfl rfl ?_
  refine g_iload_n X dX6_widest_6 1 rfl rfl ?_
  refine g_callV (As := [.int (nI w)]) (rest := []) (wr := []) X (c_X6_unprovedValues l v cj a b d j h t n f P g lo hi stl e w hW hR hL hG hE (by omega)) f_X6_unprovedValues q_23_14 dX6_widest_7 [0, 1, 2, 3, 4] [] rfl rfl (by decide) 0 rfl rfl rfl rfl (Nat.le_of_ble_eq_true rfl) (by decide) (fun r_ w_ hp3 => ?_)
  obtain ⟨uv2m, uv2s, uv2e, rfl, uv2M, uv2E, rfl⟩ := hp3
  show GG k _ _ [cCJ v cj (a 0) (b 0) (d 0) (j 0) (h 0) (t 0), cPg v a n f, cAs v b g, cRu v d (a 0) uv2s, cEn v d uv2e] _ _ [.int (nI uv2m)]
  refine g_callS (As := [.int (nI uv2m)]) (rest := []) (wr := [cCJ v cj (a 0) (b 0) (d 0) (j 0) (h 0) (t 0), cPg v a n f, cAs v b g, cRu v d (a 0) uv2s, cEn v d uv2e]) X (c_X6_widestRange l v uv2m uv2M.1) f_X6_widestRange q_23_20 dX6_widest_10 [] [0, 1, 2, 3, 4] rfl rfl (by decide) rfl rfl (Nat.le_of_ble_eq_true rfl) (by decide) (fun r_ w_ hp4 => ?_)
  obtain ⟨rfl, rfl⟩ := hp4
  show GG k _ _ [cCJ v cj (a 0) (b 0) (d 0) (j 0) (h 0) (t 0), cPg v a n f, cAs v b g, cRu v d (a 0) uv2s, cEn v d uv2e] _ _ [.int (zI ((wrF uv2m 8).1))]
  exact E dX6_widest_13 rfl (rfl) (by decide) (by decide) (⟨_, _, by rw [wdV_eq uv2M], uv2E, rfl⟩)


