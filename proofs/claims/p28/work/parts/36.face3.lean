/-! ## ClaimJudge: what changes it -/
theorem i2c_nI : ∀ c : Nat, c < 127 → ((nI c).toUInt32 % 65536).toInt32 = nI c := by decide +kernel
/-- an int that is no sign of a text -/
def bdC (x : Int32) : Prop := x < nI 33 ∨ nI 126 < x

set_option maxHeartbeats 4000000 in
set_option maxRecDepth 100000 in
theorem c_X6_saveState (l : Launch) (v : VV) (cj : Nat) (a : Nat → Nat) (b : Nat → Nat) (d : Nat → Nat) (j : Nat → Nat) (h : Nat → Nat) (t : Nat → Nat) (n : Nat) (f : Nat → Nat → Int32) (P : Nat → S9) (g : Nat → Nat → Int32) (lo : Nat → Nat) (hi : Nat → Nat) (pw : Nat → Nat → Nat) (bw : Nat → Nat → Nat) (o : Nat) (c : Nat) (ns : Nat → Nat) (fs : Nat → Nat → Nat → Int32) (gs : Nat → Nat → Nat → Int32) (H : Nat → HE9) (hW : WF P n) (hR : PgR P n f) (hL : AsW lo hi) (hG : AsR lo hi g) (hH : HrR H o c ns fs gs) : MU l v yX6_saveState cX6_saveState 1 none ({ frames := 4, cells := 0, slots := 0, locals := 92 }) [.ref cj] [cCJ v cj (a 0) (b 0) (d 0) (j 0) (h 0) (t 0), cPg v a n f, cAs v b g, cHi9 v h pw bw o c, cPg v (pw 0) (ns 0) (fs 0), cPg v (pw 1) (ns 1) (fs 1), cPg v (pw 2) (ns 2) (fs 2), cPg v (pw 3) (ns 3) (fs 3), cPg v (pw 4) (ns 4) (fs 4), cPg v (pw 5) (ns 5) (fs 5), cAs v (bw 0) (gs 0), cAs v (bw 1) (gs 1), cAs v (bw 2) (gs 2), cAs v (bw 3) (gs 3), cAs v (bw 4) (gs 4), cAs v (bw 5) (gs 5)] (fun _ w_ => ∃ o' ns' fs' gs', HrR (hS9 H c (P, n, lo, hi)) o' (hC9 c) ns' fs' gs' ∧ w_ = [cCJ v cj (a 0) (b 0) (d 0) (j 0) (h 0) (t 0), cPg v a n f, cAs v b g, cHi9 v h pw bw o' (hC9 c), cPg v (pw 0) (ns' 0) (fs' 0), cPg v (pw 1) (ns' 1) (fs' 1), cPg v (pw 2) (ns' 2) (fs' 2), cPg v (pw 3) (ns' 3) (fs' 3), cPg v (pw 4) (ns' 4) (fs' 4), cPg v (pw 5) (ns' 5) (fs' 5), cAs v (bw 0) (gs' 0), cAs v (bw 1) (gs' 1), cAs v (bw 2) (gs' 2), cAs v (bw 3) (gs' 3), cAs v (bw 4) (gs' 4), cAs v (bw 5) (gs' 5)]) 0 0 := by
  refine mm_void rfl (by decide) (Nat.le_of_ble_eq_true rfl) [(0, .ref cj)] rfl (fun k X hin E => ?_)
  refine g_aload_n X dX6_saveState_0 0 rfl rfl ?_
  refine g_get X cb6 4 q_2_5 dX6_saveState_1 0 0 rfl rfl (by decide) rfl rfl ?_
  refine g_aload_n X dX6_saveState_4 0 rfl rfl ?_
  refine g_get X cb6 0 q_1_13 dX6_saveState_5 0 0 rfl rfl (by decide) rfl rfl ?_
  refine g_aload_n X dX6_saveState_8 0 rfl rfl ?_
  refine g_get X cb6 1 q_1_17 dX6_saveState_9 0 0 rfl rfl (by decide) rfl rfl ?_
  refine g_callV (As := [.ref (a 0), .ref (b 0)]) (rest := []) (wr := [cCJ v cj (a 0) (b 0) (d 0) (j 0) (h 0) (t 0)]) X (c_X1_save l v h pw bw o c ns fs gs H a n f P b g lo hi hH hW hR hL hG) f_X1_save q_13_1 dX6_saveState_12 [3, 1, 2, 4, 5, 6, 7, 8, 9, 10, 11, 12, 13, 14, 15] [0] rfl rfl (by decide) 0 rfl rfl rfl rfl (Nat.le_of_ble_eq_true rfl) (by decide) (fun r_ w_ hp2 => ?_)
  obtain ⟨sv1o, sv1n, sv1f, sv1g, sv1H, rfl⟩ := hp2
  show GG k _ _ [cHi9 v h pw bw sv1o (hC9 c), cPg v a n f, cAs v b g, cPg v (pw 0) (sv1n 0) (sv1f 0), cPg v (pw 1) (sv1n 1) (sv1f 1), cPg v (pw 2) (sv1n 2) (sv1f 2), cPg v (pw 3) (sv1n 3) (sv1f 3), cPg v (pw 4) (sv1n 4) (sv1f 4), cPg v (pw 5) (sv1n 5) (sv1f 5), cAs v (bw 0) (sv1g 0), cAs v (bw 1) (sv1g 1), cAs v (bw 2) (sv1g 2), cAs v (bw 3) (sv1g 3), cAs v (bw 4) (sv1g 4), cAs v (bw 5) (sv1g 5), cCJ v cj (a 0) (b 0) (d 0) (j 0) (h 0) (t 0)] _ _ []
  refine g_pick (cs' := [cCJ v cj (a 0) (b 0) (d 0) (j 0) (h 0) (t 0), cPg v a n f, cAs v b g, cHi9 v h pw bw sv1o (hC9 c), cPg v (pw 0) (sv1n 0) (sv1f 0), cPg v (pw 1) (sv1n 1) (sv1f 1), cPg v (pw 2) (sv1n 2) (sv1f 2), cPg v (pw 3) (sv1n 3) (sv1f 3), cPg v (pw 4) (sv1n 4) (sv1f 4), cPg v (pw 5) (sv1n 5) (sv1f 5), cAs v (bw 0) (sv1g 0), cAs v (bw 1) (sv1g 1), cAs v (bw 2) (sv1g 2), cAs v (bw 3) (sv1g 3), cAs v (bw 4) (sv1g 4), cAs v (bw 5) (sv1g 5)]) [15, 1, 2, 0, 3, 4, 5, 6, 7, 8, 9, 10, 11, 12, 13, 14] rfl rfl ?_
  exact E dX6_saveState_15 (by decide) (by decide) (⟨sv1o, _, _, _, sv1H, rfl⟩)

set_option maxHeartbeats 4000000 in
set_option maxRecDepth 100000 in
theorem c_X6_forgetProgram (l : Launch) (v : VV) (cj : Nat) (a : Nat → Nat) (b : Nat → Nat) (d : Nat → Nat) (j : Nat → Nat) (h : Nat → Nat) (t : Nat → Nat) (stl : Bool) (x : Nat) (y : Nat) (z : Nat) (jst : Bool) : MU l v yX6_forgetProgram cX6_forgetProgram 1 none ({ frames := 1, cells := 0, slots := 0, locals := 20 }) [.ref cj] [cCJ v cj (a 0) (b 0) (d 0) (j 0) (h 0) (t 0), cRu v d (a 0) stl, cJu v j (a 0) (b 0) (d 0) x y z jst] (fun _ w_ => w_ = [cCJ v cj (a 0) (b 0) (d 0) (j 0) (h 0) (t 0), cRu v d (a 0) true, cJu v j (a 0) (b 0) (d 0) x y z true]) 0 0 := by
  refine mm_void rfl (by decide) (Nat.le_of_ble_eq_true rfl) [(0, .ref cj)] rfl (fun k X hin E => ?_)
  refine g_aload_n X dX6_forgetProgram_0 0 rfl rfl ?_
  refine g_get X cb6 2 q_1_21 dX6_forgetProgram_1 0 0 rfl rfl (by decide) rfl rfl ?_
  refine g_callV (As := []) (rest := []) (wr := [cCJ v cj (a 0) (b 0) (d 0) (j 0) (h 0) (t 0), cJu v j (a 0) (b 0) (d 0) x y z jst]) X (c_X4_forget l v d stl (a 0)) f_X4_forget q_14_10 dX6_forgetProgram_4 [1] [0, 2] rfl rfl (by decide) 0 rfl rfl rfl rfl (Nat.le_of_ble_eq_true rfl) (by decide) (fun r_ w_ hp1 => ?_)
  subst hp1
  show GG k _ _ [cRu v d (a 0) true, cCJ v cj (a 0) (b 0) (d 0) (j 0) (h 0) (t 0), cJu v j (a 0) (b 0) (d 0) x y z jst] _ _ []
  refine g_pick (cs' := [cCJ v cj (a 0) (b 0) (d 0) (j 0) (h 0) (t 0), cRu v d (a 0) true, cJu v j (a 0) (b 0) (d 0) x y z jst]) [1, 0, 2] rfl rfl ?_
  refine g_aload_n X dX6_forgetProgram_7 0 rfl rfl ?_
  refine g_get X cb6 3 q_2_1 dX6_forgetProgram_8 0 0 rfl rfl (by decide) rfl rfl ?_
  refine g_callV (As := []) (rest := []) (wr := [cCJ v cj (a 0) (b 0) (d 0) (j 0) (h 0) (t 0), cRu v d (a 0) true]) X (c_X2_forget l v j (a 0) (b 0) (d 0) x y z jst) f_X2_forget q_14_14 dX6_forgetProgram_11 [2] [0, 1] rfl rfl (by decide) 0 rfl rfl rfl rfl (Nat.le_of_ble_eq_true rfl) (by decide) (fun r_ w_ hp2 => ?_)
  subst hp2
  show GG k _ _ [cJu v j (a 0) (b 0) (d 0) x y z true, cCJ v cj (a 0) (b 0) (d 0) (j 0) (h 0) (t 0), cRu v d (a 0) true] _ _ []
  refine g_pick (cs' := [cCJ v cj (a 0) (b 0) (d 0) (j 0) (h 0) (t 0), cRu v d (a 0) true, cJu v j (a 0) (b 0) (d 0) x y z true]) [1, 2, 0] rfl rfl ?_
  exact E dX6_forgetProgram_14 (by decide) (by decide) (rfl)

set_option maxHeartbeats 4000000 in
set_option maxRecDepth 100000 in
theorem c_X6_assume (l : Launch) (v : VV) (cj : Nat) (a : Nat → Nat) (b : Nat → Nat) (d : Nat → Nat) (j : Nat → Nat) (h : Nat → Nat) (t : Nat → Nat) (n : Nat) (f : Nat → Nat → Int32) (P : Nat → S9) (g : Nat → Nat → Int32) (lo : Nat → Nat) (hi : Nat → Nat) (pw : Nat → Nat → Nat) (bw : Nat → Nat → Nat) (o : Nat) (c : Nat) (ns : Nat → Nat) (fs : Nat → Nat → Nat → Int32) (gs : Nat → Nat → Nat → Int32) (H : Nat → HE9) (x : Nat) (y : Nat) (z : Nat) (jst : Bool) (w : Nat) (u : Nat) (q : Nat) (hW : WF P n) (hR : PgR P n f) (hL : AsW lo hi) (hG : AsR lo hi g) (hH : HrR H o c ns fs gs) (hw9 : w < 3) (hu : u ≤ q) (hq : q ≤ 7) : MI l v yX6_assume cX6_assume 4 (some .int) ({ frames := 7, cells := 0, slots := 0, locals := 112 }) [.ref cj, .int (nI w), .int (nI u), .int (nI q)] [cCJ v cj (a 0) (b 0) (d 0) (j 0) (h 0) (t 0), cPg v a n f, cAs v b g, cHi9 v h pw bw o c, cPg v (pw 0) (ns 0) (fs 0), cPg v (pw 1) (ns 1) (fs 1), cPg v (pw 2) (ns 2) (fs 2), cPg v (pw 3) (ns 3) (fs 3), cPg v (pw 4) (ns 4) (fs 4), cPg v (pw 5) (ns 5) (fs 5), cAs v (bw 0) (gs 0), cAs v (bw 1) (gs 1), cAs v (bw 2) (gs 2), cAs v (bw 3) (gs 3), cAs v (bw 4) (gs 4), cAs v (bw 5) (gs 5), cJu v j (a 0) (b 0) (d 0) x y z jst] (fun r w_ => ∃ o' ns' fs' gs', r = nI (cnt9 (hU9 lo w u) (hU9 hi w q) 3) ∧ HrR (hS9 H c (P, n, lo, hi)) o' (hC9 c) ns' fs' gs' ∧ w_ = [cCJ v cj (a 0) (b 0) (d 0) (j 0) (h 0) (t 0), cPg v a n f, cAs v b (li9 g w (x2p (nI u) (nI q))), cHi9 v h pw bw o' (hC9 c), cPg v (pw 0) (ns' 0) (fs' 0), cPg v (pw 1) (ns' 1) (fs' 1), cPg v (pw 2) (ns' 2) (fs' 2), cPg v (pw 3) (ns' 3) (fs' 3), cPg v (pw 4) (ns' 4) (fs' 4), cPg v (pw 5) (ns' 5) (fs' 5), cAs v (bw 0) (gs' 0), cAs v (bw 1) (gs' 1), cAs v (bw 2) (gs' 2), cAs v (bw 3) (gs' 3), cAs v (bw 4) (gs' 4), cAs v (bw 5) (gs' 5), cJu v j (a 0) (b 0) (d 0) x y z true]) 0 0 := by
  refine mm_int (by decide) (Nat.le_of_ble_eq_true rfl) [(0, .ref cj), (1, .int (nI w)), (2, .int (nI u)), (3, .int (nI q))] rfl (fun k X E => ?_)
  have hn12 := hW.1
  refine g_iload_n X dX6_assume_0 1 rfl rfl ?_
  refine g_iconst (x := nI 3) X dX6_assume_1 (by decide +kernel) ?_
  refine g_callS (As := [.int (nI w), .int (nI 3)]) (rest := []) (wr := [cCJ v cj (a 0) (b 0) (d 0) (j 0) (h 0) (t 0), cPg v a n f, cAs v b g, cHi9 v h pw bw o c, cPg v (pw 0) (ns 0) (fs 0), cPg v (pw 1) (ns 1) (fs 1), cPg v (pw 2) (ns 2) (fs 2), cPg v (pw 3) (ns 3) (fs 3), cPg v (pw 4) (ns 4) (fs 4), cPg v (pw 5) (ns 5) (fs 5), cAs v (bw 0) (gs 0), cAs v (bw 1) (gs 1), cAs v (bw 2) (gs 2), cAs v (bw 3) (gs 3), cAs v (bw 4) (gs 4), cAs v (bw 5) (gs 5), cJu v j (a 0) (b 0) (d 0) x y z jst]) X (c_X6_checkIndex l v w 3 (by omega) (by omega)) f_X6_checkIndex q_15_15 dX6_assume_2 [] [0, 1, 2, 3, 4, 5, 6, 7, 8, 9, 10, 11, 12, 13, 14, 15, 16] rfl rfl (by decide) rfl rfl (Nat.le_of_ble_eq_true rfl) (by decide) (fun r_ w_ hp1 => ?_)
  subst hp1
  show GG k _ _ [cCJ v cj (a 0) (b 0) (d 0) (j 0) (h 0) (t 0), cPg v a n f, cAs v b g, cHi9 v h pw bw o c, cPg v (pw 0) (ns 0) (fs 0), cPg v (pw 1) (ns 1) (fs 1), cPg v (pw 2) (ns 2) (fs 2), cPg v (pw 3) (ns 3) (fs 3), cPg v (pw 4) (ns 4) (fs 4), cPg v (pw 5) (ns 5) (fs 5), cAs v (bw 0) (gs 0), cAs v (bw 1) (gs 1), cAs v (bw 2) (gs 2), cAs v (bw 3) (gs 3), cAs v (bw 4) (gs 4), cAs v (bw 5) (gs 5), cJu v j (a 0) (b 0) (d 0) x y z jst] _ _ []
  refine g_iload_n X dX6_assume_5 2 rfl rfl ?_
  refine g_callS (As := [.int (nI u)]) (rest := []) (wr := [cCJ v cj (a 0) (b 0) (d 0) (j 0) (h 0) (t 0), cPg v a n f, cAs v b g, cHi9 v h pw bw o c, cPg v (pw 0) (ns 0) (fs 0), cPg v (pw 1) (ns 1) (fs 1), cPg v (pw 2) (ns 2) (fs 2), cPg v (pw 3) (ns 3) (fs 3), cPg v (pw 4) (ns 4) (fs 4), cPg v (pw 5) (ns 5) (fs 5), cAs v (bw 0) (gs 0), cAs v (bw 1) (gs 1), cAs v (bw 2) (gs 2), cAs v (bw 3) (gs 3), cAs v (bw 4) (gs 4), cAs v (bw 5) (gs 5), cJu v j (a 0) (b 0) (d 0) x y z jst]) X (c_X6_isValue l v u (by omega)) f_X6_isValue q_15_20 dX6_assume_6 [] [0, 1, 2, 3, 4, 5, 6, 7, 8, 9, 10, 11, 12, 13, 14, 15, 16] rfl rfl (by decide) rfl rfl (Nat.le_of_ble_eq_true rfl) (by decide) (fun r_ w_ hp2 => ?_)
  obtain ⟨rfl, rfl⟩ := hp2
  show GG k _ _ [cCJ v cj (a 0) (b 0) (d 0) (j 0) (h 0) (t 0), cPg v a n f, cAs v b g, cHi9 v h pw bw o c, cPg v (pw 0) (ns 0) (fs 0), cPg v (pw 1) (ns 1) (fs 1), cPg v (pw 2) (ns 2) (fs 2), cPg v (pw 3) (ns 3) (fs 3), cPg v (pw 4) (ns 4) (fs 4), cPg v (pw 5) (ns 5) (fs 5), cAs v (bw 0) (gs 0), cAs v (bw 1) (gs 1), cAs v (bw 2) (gs 2), cAs v (bw 3) (gs 3), cAs v (bw 4) (gs 4), cAs v (bw 5) (gs 5), cJu v j (a 0) (b 0) (d 0) x y z jst] _ _ [.int (nI 1)]
  refine g_if_eqN (tgt := 24) X dX6_assume_9 (by decide) (by omega) (fun c9 => ?_) (fun c9 => ?_)
  · exact absurd c9 (by decide)
  · refine g_iload_n X dX6_assume_12 3 rfl rfl ?_
    refine g_callS (As := [.int (nI q)]) (rest := []) (wr := [cCJ v cj (a 0) (b 0) (d 0) (j 0) (h 0) (t 0), cPg v a n f, cAs v b g, cHi9 v h pw bw o c, cPg v (pw 0) (ns 0) (fs 0), cPg v (pw 1) (ns 1) (fs 1), cPg v (pw 2) (ns 2) (fs 2), cPg v (pw 3) (ns 3) (fs 3), cPg v (pw 4) (ns 4) (fs 4), cPg v (pw 5) (ns 5) (fs 5), cAs v (bw 0) (gs 0), cAs v (bw 1) (gs 1), cAs v (bw 2) (gs 2), cAs v (bw 3) (gs 3), cAs v (bw 4) (gs 4), cAs v (bw 5) (gs 5), cJu v j (a 0) (b 0) (d 0) x y z jst]) X (c_X6_isValue l v q (by omega)) f_X6_isValue q_15_20 dX6_assume_13 [] [0, 1, 2, 3, 4, 5, 6, 7, 8, 9, 10, 11, 12, 13, 14, 15, 16] rfl rfl (by decide) rfl rfl (Nat.le_of_ble_eq_true rfl) (by decide) (fun r_ w_ hp3 => ?_)
    obtain ⟨rfl, rfl⟩ := hp3
    show GG k _ _ [cCJ v cj (a 0) (b 0) (d 0) (j 0) (h 0) (t 0), cPg v a n f, cAs v b g, cHi9 v h pw bw o c, cPg v (pw 0) (ns 0) (fs 0), cPg v (pw 1) (ns 1) (fs 1), cPg v (pw 2) (ns 2) (fs 2), cPg v (pw 3) (ns 3) (fs 3), cPg v (pw 4) (ns 4) (fs 4), cPg v (pw 5) (ns 5) (fs 5), cAs v (bw 0) (gs 0), cAs v (bw 1) (gs 1), cAs v (bw 2) (gs 2), cAs v (bw 3) (gs 3), cAs v (bw 4) (gs 4), cAs v (bw 5) (gs 5), cJu v j (a 0) (b 0) (d 0) x y z jst] _ _ [.int (nI 1)]
    refine g_if_eqN (tgt := 24) X dX6_assume_16 (by decide) (by omega) (fun c16 => ?_) (fun c16 => ?_)
    · exact absurd c16 (by decide)
    · refine g_iload_n X dX6_assume_19 3 rfl rfl ?_
      refine g_iload_n X dX6_assume_20 2 rfl rfl ?_
      refine g_icmp_geN (tgt := 34) X dX6_assume_21 (by decide) (by omega) (by omega) (fun c21 => ?_) (fun c21 => ?_)
      · refine g_aload_n X dX6_assume_34 0 rfl rfl ?_
        refine g_callV (As := []) (rest := []) (wr := [cJu v j (a 0) (b 0) (d 0) x y z jst]) X (c_X6_saveState l v cj a b d j h t n f P g lo hi pw bw o c ns fs gs H hW hR hL hG hH) f_X6_saveState q_12_21 dX6_assume_35 [0, 1, 2, 3, 4, 5, 6, 7, 8, 9, 10, 11, 12, 13, 14, 15] [16] rfl rfl (by decide) 0 rfl rfl rfl rfl (Nat.le_of_ble_eq_true rfl) (by decide) (fun r_ w_ hp5 => ?_)
        obtain ⟨ss4o, ss4n, ss4f, ss4g, ss4H, rfl⟩ := hp5
        show GG k _ _ [cCJ v cj (a 0) (b 0) (d 0) (j 0) (h 0) (t 0), cPg v a n f, cAs v b g, cHi9 v h pw bw ss4o (hC9 c), cPg v (pw 0) (ss4n 0) (ss4f 0), cPg v (pw 1) (ss4n 1) (ss4f 1), cPg v (pw 2) (ss4n 2) (ss4f 2), cPg v (pw 3) (ss4n 3) (ss4f 3), cPg v (pw 4) (ss4n 4) (ss4f 4), cPg v (pw 5) (ss4n 5) (ss4f 5), cAs v (bw 0) (ss4g 0), cAs v (bw 1) (ss4g 1), cAs v (bw 2) (ss4g 2), cAs v (bw 3) (ss4g 3), cAs v (bw 4) (ss4g 4), cAs v (bw 5) (ss4g 5), cJu v j (a 0) (b 0) (d 0) x y z jst] _ _ []
        refine g_aload_n X dX6_assume_38 0 rfl rfl ?_
        refine g_get X cb6 1 q_1_17 dX6_assume_39 0 0 rfl rfl (by decide) rfl rfl ?_
        refine g_iload_n X dX6_assume_42 1 rfl rfl ?_
        refine g_iload_n X dX6_assume_43 2 rfl rfl ?_
        refine g_iload_n X dX6_assume_44 3 rfl rfl ?_
        refine g_callV (As := [.int (nI w), .int (nI u), .int (nI q)]) (rest := []) (wr := [cCJ v cj (a 0) (b 0) (d 0) (j 0) (h 0) (t 0), cPg v a n f, cHi9 v h pw bw ss4o (hC9 c), cPg v (pw 0) (ss4n 0) (ss4f 0), cPg v (pw 1) (ss4n 1) (ss4f 1), cPg v (pw 2) (ss4n 2) (ss4f 2), cPg v (pw 3) (ss4n 3) (ss4f 3), cPg v (pw 4) (ss4n 4) (ss4f 4), cPg v (pw 5) (ss4n 5) (ss4f 5), cAs v (bw 0) (ss4g 0), cAs v (bw 1) (ss4g 1), cAs v (bw 2) (ss4g 2), cAs v (bw 3) (ss4g 3), cAs v (bw 4) (ss4g 4), cAs v (bw 5) (ss4g 5), cJu v j (a 0) (b 0) (d 0) x y z jst]) X (c_X0_limit l v b g w (nI u) (nI q) (by omega)) f_X0_limit q_15_23 dX6_assume_45 [2] [0, 1, 3, 4, 5, 6, 7, 8, 9, 10, 11, 12, 13, 14, 15, 16] rfl rfl (by decide) 0 rfl rfl rfl rfl (Nat.le_of_ble_eq_true rfl) (by decide) (fun r_ w_ hp6 => ?_)
        subst hp6
        show GG k _ _ [cAs v b (li9 g w (x2p (nI u) (nI q))), cCJ v cj (a 0) (b 0) (d 0) (j 0) (h 0) (t 0), cPg v a n f, cHi9 v h pw bw ss4o (hC9 c), cPg v (pw 0) (ss4n 0) (ss4f 0), cPg v (pw 1) (ss4n 1) (ss4f 1), cPg v (pw 2) (ss4n 2) (ss4f 2), cPg v (pw 3) (ss4n 3) (ss4f 3), cPg v (pw 4) (ss4n 4) (ss4f 4), cPg v (pw 5) (ss4n 5) (ss4f 5), cAs v (bw 0) (ss4g 0), cAs v (bw 1) (ss4g 1), cAs v (bw 2) (ss4g 2), cAs v (bw 3) (ss4g 3), cAs v (bw 4) (ss4g 4), cAs v (bw 5) (ss4g 5), cJu v j (a 0) (b 0) (d 0) x y z jst] _ _ []
        refine g_pick (cs' := [cCJ v cj (a 0) (b 0) (d 0) (j 0) (h 0) (t 0), cPg v a n f, cAs v b (li9 g w (x2p (nI u) (nI q))), cHi9 v h pw bw ss4o (hC9 c), cPg v (pw 0) (ss4n 0) (ss4f 0), cPg v (pw 1) (ss4n 1) (ss4f 1), cPg v (pw 2) (ss4n 2) (ss4f 2), cPg v (pw 3) (ss4n 3) (ss4f 3), cPg v (pw 4) (ss4n 4) (ss4f 4), cPg v (pw 5) (ss4n 5) (ss4f 5), cAs v (bw 0) (ss4g 0), cAs v (bw 1) (ss4g 1), cAs v (bw 2) (ss4g 2), cAs v (bw 3) (ss4g 3), cAs v (bw 4) (ss4g 4), cAs v (bw 5) (ss4g 5), cJu v j (a 0) (b 0) (d 0) x y z jst]) [1, 2, 0, 3, 4, 5, 6, 7, 8, 9, 10, 11, 12, 13, 14, 15, 16] rfl rfl ?_
        refine g_aload_n X dX6_assume_48 0 rfl rfl ?_
        refine g_get X cb6 3 q_2_1 dX6_assume_49 0 0 rfl rfl (by decide) rfl rfl ?_
        refine g_callV (As := []) (rest := []) (wr := [cCJ v cj (a 0) (b 0) (d 0) (j 0) (h 0) (t 0), cPg v a n f, cAs v b (li9 g w (x2p (nI u) (nI q))), cHi9 v h pw bw ss4o (hC9 c), cPg v (pw 0) (ss4n 0) (ss4f 0), cPg v (pw 1) (ss4n 1) (ss4f 1), cPg v (pw 2) (ss4n 2) (ss4f 2), cPg v (pw 3) (ss4n 3) (ss4f 3), cPg v (pw 4) (ss4n 4) (ss4f 4), cPg v (pw 5) (ss4n 5) (ss4f 5), cAs v (bw 0) (ss4g 0), cAs v (bw 1) (ss4g 1), cAs v (bw 2) (ss4g 2), cAs v (bw 3) (ss4g 3), cAs v (bw 4) (ss4g 4), cAs v (bw 5) (ss4g 5)]) X (c_X2_forget l v j (a 0) (b 0) (d 0) x y z jst) f_X2_forget q_14_14 dX6_assume_52 [16] [0, 1, 2, 3, 4, 5, 6, 7, 8, 9, 10, 11, 12, 13, 14, 15] rfl rfl (by decide) 0 rfl rfl rfl rfl (Nat.le_of_ble_eq_true rfl) (by decide) (fun r_ w_ hp7 => ?_)
        subst hp7
        show GG k _ _ [cJu v j (a 0) (b 0) (d 0) x y z true, cCJ v cj (a 0) (b 0) (d 0) (j 0) (h 0) (t 0), cPg v a n f, cAs v b (li9 g w (x2p (nI u) (nI q))), cHi9 v h pw bw ss4o (hC9 c), cPg v (pw 0) (ss4n 0) (ss4f 0), cPg v (pw 1) (ss4n 1) (ss4f 1), cPg v (pw 2) (ss4n 2) (ss4f 2), cPg v (pw 3) (ss4n 3) (ss4f 3), cPg v (pw 4) (ss4n 4) (ss4f 4), cPg v (pw 5) (ss4n 5) (ss4f 5), cAs v (bw 0) (ss4g 0), cAs v (bw 1) (ss4g 1), cAs v (bw 2) (ss4g 2), cAs v (bw 3) (ss4g 3), cAs v (bw 4) (ss4g 4), cAs v (bw 5) (ss4g 5)] _ _ []
        refine g_pick (cs' := [cCJ v cj (a 0) (b 0) (d 0) (j 0) (h 0) (t 0), cPg v a n f, cAs v b (li9 g w (x2p (nI u) (nI q))), cHi9 v h pw bw ss4o (hC9 c), cPg v (pw 0) (ss4n 0) (ss4f 0), cPg v (pw 1) (ss4n 1) (ss4f 1), cPg v (pw 2) (ss4n 2) (ss4f 2), cPg v (pw 3) (ss4n 3) (ss4f 3), cPg v (pw 4) (ss4n 4) (ss4f 4), cPg v (pw 5) (ss4n 5) (ss4f 5), cAs v (bw 0) (ss4g 0), cAs v (bw 1) (ss4g 1), cAs v (bw 2) (ss4g 2), cAs v (bw 3) (ss4g 3), cAs v (bw 4) (ss4g 4), cAs v (bw 5) (ss4g 5), cJu v j (a 0) (b 0) (d 0) x y z true]) [1, 2, 3, 4, 5, 6, 7, 8, 9, 10, 11, 12, 13, 14, 15, 16, 0] rfl rfl ?_
        refine g_aload_n X dX6_assume_55 0 rfl rfl ?_
        refine g_get X cb6 1 q_1_17 dX6_assume_56 0 0 rfl rfl (by decide) rfl rfl ?_
        refine g_callV (As := []) (rest := []) (wr := [cCJ v cj (a 0) (b 0) (d 0) (j 0) (h 0) (t 0), cPg v a n f, cHi9 v h pw bw ss4o (hC9 c), cPg v (pw 0) (ss4n 0) (ss4f 0), cPg v (pw 1) (ss4n 1) (ss4f 1), cPg v (pw 2) (ss4n 2) (ss4f 2), cPg v (pw 3) (ss4n 3) (ss4f 3), cPg v (pw 4) (ss4n 4) (ss4f 4), cPg v (pw 5) (ss4n 5) (ss4f 5), cAs v (bw 0) (ss4g 0), cAs v (bw 1) (ss4g 1), cAs v (bw 2) (ss4g 2), cAs v (bw 3) (ss4g 3), cAs v (bw 4) (ss4g 4), cAs v (bw 5) (ss4g 5), cJu v j (a 0) (b 0) (d 0) x y z true]) X (c_X0_count l v b (li9 g w (x2p (nI u) (nI q))) (hU9 lo w u) (hU9 hi w q) (AsW_up hL hu hq) (AsR_up hG)) f_X0_count q_16_0 dX6_assume_59 [2] [0, 1, 3, 4, 5, 6, 7, 8, 9, 10, 11, 12, 13, 14, 15, 16] rfl rfl (by decide) 0 rfl rfl rfl rfl (Nat.le_of_ble_eq_true rfl) (by decide) (fun r_ w_ hp8 => ?_)
        obtain ⟨rfl, rfl⟩ := hp8
        show GG k _ _ [cAs v b (li9 g w (x2p (nI u) (nI q))), cCJ v cj (a 0) (b 0) (d 0) (j 0) (h 0) (t 0), cPg v a n f, cHi9 v h pw bw ss4o (hC9 c), cPg v (pw 0) (ss4n 0) (ss4f 0), cPg v (pw 1) (ss4n 1) (ss4f 1), cPg v (pw 2) (ss4n 2) (ss4f 2), cPg v (pw 3) (ss4n 3) (ss4f 3), cPg v (pw 4) (ss4n 4) (ss4f 4), cPg v (pw 5) (ss4n 5) (ss4f 5), cAs v (bw 0) (ss4g 0), cAs v (bw 1) (ss4g 1), cAs v (bw 2) (ss4g 2), cAs v (bw 3) (ss4g 3), cAs v (bw 4) (ss4g 4), cAs v (bw 5) (ss4g 5), cJu v j (a 0) (b 0) (d 0) x y z true] _ _ [.int (nI (cnt9 (hU9 lo w u) (hU9 hi w q) 3))]
        refine g_pick (cs' := [cCJ v cj (a 0) (b 0) (d 0) (j 0) (h 0) (t 0), cPg v a n f, cAs v b (li9 g w (x2p (nI u) (nI q))), cHi9 v h pw bw ss4o (hC9 c), cPg v (pw 0) (ss4n 0) (ss4f 0), cPg v (pw 1) (ss4n 1) (ss4f 1), cPg v (pw 2) (ss4n 2) (ss4f 2), cPg v (pw 3) (ss4n 3) (ss4f 3), cPg v (pw 4) (ss4n 4) (ss4f 4), cPg v (pw 5) (ss4n 5) (ss4f 5), cAs v (bw 0) (ss4g 0), cAs v (bw 1) (ss4g 1), cAs v (bw 2) (ss4g 2), cAs v (bw 3) (ss4g 3), cAs v (bw 4) (ss4g 4), cAs v (bw 5) (ss4g 5), cJu v j (a 0) (b 0) (d 0) x y z true]) [1, 2, 0, 3, 4, 5, 6, 7, 8, 9, 10, 11, 12, 13, 14, 15, 16] rfl rfl ?_
        exact E dX6_assume_62 rfl (rfl) (by decide) (by decide) (⟨ss4o, _, _, _, rfl, ss4H, rfl⟩)
      · omega

set_option maxHeartbeats 4000000 in
set_option maxRecDepth 100000 in
theorem b0_X6_assume (l : Launch) (v : VV) (hst : l.stackTraces = false) (cj : Nat) (a : Nat → Nat) (b : Nat → Nat) (d : Nat → Nat) (j : Nat → Nat) (h : Nat → Nat) (t : Nat → Nat) (w : Nat) (x : Int32) (y : Int32) (hw9 : w < 3) (hx : bdI x 8) : XI l v yX6_assume cX6_assume 4 (some .int) ({ frames := 7, cells := 1, slots := 6, locals := 120 }) [.ref cj, .int (nI w), .int x, .int y] [cCJ v cj (a 0) (b 0) (d 0) (j 0) (h 0) (t 0)] (fun _ _ => False) (fun E w_ => E = "java/lang/IllegalArgumentException" ∧ w_ = [cCJ v cj (a 0) (b 0) (d 0) (j 0) (h 0) (t 0)]) 1 6 := by
  refine mx_int hst rfl (by decide) (Nat.le_of_ble_eq_true rfl) [(0, .ref cj), (1, .int (nI w)), (2, .int x), (3, .int y)] rfl (fun k X E xo xr xw => ?_)
  refine g_iload_n X dX6_assume_0 1 rfl rfl ?_
  refine g_iconst (x := nI 3) X dX6_assume_1 (by decide +kernel) ?_
  refine g_callS (As := [.int (nI w), .int (nI 3)]) (rest := []) (wr := [cCJ v cj (a 0) (b 0) (d 0) (j 0) (h 0) (t 0)]) X (c_X6_checkIndex l v w 3 (by omega) (by omega)) f_X6_checkIndex q_15_15 dX6_assume_2 [] [0] rfl rfl (by decide) rfl rfl (Nat.le_of_ble_eq_true rfl) (by decide) (fun r_ w_ hp1 => ?_)
  subst hp1
  show GG k _ _ [cCJ v cj (a 0) (b 0) (d 0) (j 0) (h 0) (t 0)] _ _ []
  refine g_iload_n X dX6_assume_5 2 rfl rfl ?_
  refine g_callS (As := [.int x]) (rest := []) (wr := [cCJ v cj (a 0) (b 0) (d 0) (j 0) (h 0) (t 0)]) X (b_X6_isValue l v x hx) f_X6_isValue q_15_20 dX6_assume_6 [] [0] rfl rfl (by decide) rfl rfl (Nat.le_of_ble_eq_true rfl) (by decide) (fun r_ w_ hp2 => ?_)
  obtain ⟨rfl, rfl⟩ := hp2
  show GG k _ _ [cCJ v cj (a 0) (b 0) (d 0) (j 0) (h 0) (t 0)] _ _ [.int (nI 0)]
  refine g_if_eqN (tgt := 24) X dX6_assume_9 (by decide) (by omega) (fun c9 => ?_) (fun c9 => ?_)
  · exact xr 7 (List.mem_of_getElem? (i := 1) rfl) q_5_10 q_5_11 rfl dX6_assume_24 dX6_assume_27 dX6_assume_28 dX6_assume_30 dX6_assume_33 (by decide) (Nat.le_of_ble_eq_true rfl) (by decide) (by decide) (by decide) (by decide) (⟨rfl, rfl⟩)
  · exact absurd rfl c9

set_option maxHeartbeats 4000000 in
set_option maxRecDepth 100000 in
theorem b1_X6_assume (l : Launch) (v : VV) (hst : l.stackTraces = false) (cj : Nat) (a : Nat → Nat) (b : Nat → Nat) (d : Nat → Nat) (j : Nat → Nat) (h : Nat → Nat) (t : Nat → Nat) (w : Nat) (u : Nat) (y : Int32) (hw9 : w < 3) (hu8 : u < 8) (hx : bdI y 8) : XI l v yX6_assume cX6_assume 4 (some .int) ({ frames := 7, cells := 1, slots := 6, locals := 120 }) [.ref cj, .int (nI w), .int (nI u), .int y] [cCJ v cj (a 0) (b 0) (d 0) (j 0) (h 0) (t 0)] (fun _ _ => False) (fun E w_ => E = "java/lang/IllegalArgumentException" ∧ w_ = [cCJ v cj (a 0) (b 0) (d 0) (j 0) (h 0) (t 0)]) 1 6 := by
  refine mx_int hst rfl (by decide) (Nat.le_of_ble_eq_true rfl) [(0, .ref cj), (1, .int (nI w)), (2, .int (nI u)), (3, .int y)] rfl (fun k X E xo xr xw => ?_)
  refine g_iload_n X dX6_assume_0 1 rfl rfl ?_
  refine g_iconst (x := nI 3) X dX6_assume_1 (by decide +kernel) ?_
  refine g_callS (As := [.int (nI w), .int (nI 3)]) (rest := []) (wr := [cCJ v cj (a 0) (b 0) (d 0) (j 0) (h 0) (t 0)]) X (c_X6_checkIndex l v w 3 (by omega) (by omega)) f_X6_checkIndex q_15_15 dX6_assume_2 [] [0] rfl rfl (by decide) rfl rfl (Nat.le_of_ble_eq_true rfl) (by decide) (fun r_ w_ hp1 => ?_)
  subst hp1
  show GG k _ _ [cCJ v cj (a 0) (b 0) (d 0) (j 0) (h 0) (t 0)] _ _ []
  refine g_iload_n X dX6_assume_5 2 rfl rfl ?_
  refine g_callS (As := [.int (nI u)]) (rest := []) (wr := [cCJ v cj (a 0) (b 0) (d 0) (j 0) (h 0) (t 0)]) X (c_X6_isValue l v u (by omega)) f_X6_isValue q_15_20 dX6_assume_6 [] [0] rfl rfl (by decide) rfl rfl (Nat.le_of_ble_eq_true rfl) (by decide) (fun r_ w_ hp2 => ?_)
  obtain ⟨rfl, rfl⟩ := hp2
  show GG k _ _ [cCJ v cj (a 0) (b 0) (d 0) (j 0) (h 0) (t 0)] _ _ [.int (nI 1)]
  refine g_if_eqN (tgt := 24) X dX6_assume_9 (by decide) (by omega) (fun c9 => ?_) (fun c9 => ?_)
  · exact absurd c9 (by decide)
  · refine g_iload_n X dX6_assume_12 3 rfl rfl ?_
    refine g_callS (As := [.int y]) (rest := []) (wr := [cCJ v cj (a 0) (b 0) (d 0) (j 0) (h 0) (t 0)]) X (b_X6_isValue l v y hx) f_X6_isValue q_15_20 dX6_assume_13 [] [0] rfl rfl (by decide) rfl rfl (Nat.le_of_ble_eq_true rfl) (by decide) (fun r_ w_ hp3 => ?_)
    obtain ⟨rfl, rfl⟩ := hp3
    show GG k _ _ [cCJ v cj (a 0) (b 0) (d 0) (j 0) (h 0) (t 0)] _ _ [.int (nI 0)]
    refine g_if_eqN (tgt := 24) X dX6_assume_16 (by decide) (by omega) (fun c16 => ?_) (fun c16 => ?_)
    · exact xr 7 (List.mem_of_getElem? (i := 1) rfl) q_5_10 q_5_11 rfl dX6_assume_24 dX6_assume_27 dX6_assume_28 dX6_assume_30 dX6_assume_33 (by decide) (Nat.le_of_ble_eq_true rfl) (by decide) (by decide) (by decide) (by decide) (⟨rfl, rfl⟩)
    · exact absurd rfl c16

set_option maxHeartbeats 4000000 in
set_option maxRecDepth 100000 in
theorem b2_X6_assume (l : Launch) (v : VV) (hst : l.stackTraces = false) (cj : Nat) (a : Nat → Nat) (b : Nat → Nat) (d : Nat → Nat) (j : Nat → Nat) (h : Nat → Nat) (t : Nat → Nat) (w : Nat) (u : Nat) (q : Nat) (hw9 : w < 3) (hu8 : u < 8) (hq8 : q < 8) (hx : q < u) : XI l v yX6_assume cX6_assume 4 (some .int) ({ frames := 7, cells := 1, slots := 6, locals := 120 }) [.ref cj, .int (nI w), .int (nI u), .int (nI q)] [cCJ v cj (a 0) (b 0) (d 0) (j 0) (h 0) (t 0)] (fun _ _ => False) (fun E w_ => E = "java/lang/IllegalArgumentException" ∧ w_ = [cCJ v cj (a 0) (b 0) (d 0) (j 0) (h 0) (t 0)]) 1 6 := by
  refine mx_int hst rfl (by decide) (Nat.le_of_ble_eq_true rfl) [(0, .ref cj), (1, .int (nI w)), (2, .int (nI u)), (3, .int (nI q))] rfl (fun k X E xo xr xw => ?_)
  refine g_iload_n X dX6_assume_0 1 rfl rfl ?_
  refine g_iconst (x := nI 3) X dX6_assume_1 (by decide +kernel) ?_
  refine g_callS (As := [.int (nI w), .int (nI 3)]) (rest := []) (wr := [cCJ v cj (a 0) (b 0) (d 0) (j 0) (h 0) (t 0)]) X (c_X6_checkIndex l v w 3 (by omega) (by omega)) f_X6_checkIndex q_15_15 dX6_assume_2 [] [0] rfl rfl (by decide) rfl rfl (Nat.le_of_ble_eq_true rfl) (by decide) (fun r_ w_ hp1 => ?_)
  subst hp1
  show GG k _ _ [cCJ v cj (a 0) (b 0) (d 0) (j 0) (h 0) (t 0)] _ _ []
  refine g_iload_n X dX6_assume_5 2 rfl rfl ?_
  refine g_callS (As := [.int (nI u)]) (rest := []) (wr := [cCJ v cj (a 0) (b 0) (d 0) (j 0) (h 0) (t 0)]) X (c_X6_isValue l v u (by omega)) f_X6_isValue q_15_20 dX6_assume_6 [] [0] rfl rfl (by decide) rfl rfl (Nat.le_of_ble_eq_true rfl) (by decide) (fun r_ w_ hp2 => ?_)
  obtain ⟨rfl, rfl⟩ := hp2
  show GG k _ _ [cCJ v cj (a 0) (b 0) (d 0) (j 0) (h 0) (t 0)] _ _ [.int (nI 1)]
  refine g_if_eqN (tgt := 24) X dX6_assume_9 (by decide) (by omega) (fun c9 => ?_) (fun c9 => ?_)
  · exact absurd c9 (by decide)
  · refine g_iload_n X dX6_assume_12 3 rfl rfl ?_
    refine g_callS (As := [.int (nI q)]) (rest := []) (wr := [cCJ v cj (a 0) (b 0) (d 0) (j 0) (h 0) (t 0)]) X (c_X6_isValue l v q (by omega)) f_X6_isValue q_15_20 dX6_assume_13 [] [0] rfl rfl (by decide) rfl rfl (Nat.le_of_ble_eq_true rfl) (by decide) (fun r_ w_ hp3 => ?_)
    obtain ⟨rfl, rfl⟩ := hp3
    show GG k _ _ [cCJ v cj (a 0) (b 0) (d 0) (j 0) (h 0) (t 0)] _ _ [.int (nI 1)]
    refine g_if_eqN (tgt := 24) X dX6_assume_16 (by decide) (by omega) (fun c16 => ?_) (fun c16 => ?_)
    · exact absurd c16 (by decide)
    · refine g_iload_n X dX6_assume_19 3 rfl rfl ?_
      refine g_iload_n X dX6_assume_20 2 rfl rfl ?_
      refine g_icmp_geN (tgt := 34) X dX6_assume_21 (by decide) (by omega) (by omega) (fun c21 => ?_) (fun c21 => ?_)
      · omega
      · exact xr 7 (List.mem_of_getElem? (i := 1) rfl) q_5_10 q_5_11 rfl dX6_assume_24 dX6_assume_27 dX6_assume_28 dX6_assume_30 dX6_assume_33 (by decide) (Nat.le_of_ble_eq_true rfl) (by decide) (by decide) (by decide) (by decide) (⟨rfl, rfl⟩)

set_option maxHeartbeats 4000000 in
set_option maxRecDepth 100000 in
theorem c_X6_clearBuffer (l : Launch) (v : VV) (cj : Nat) (a : Nat → Nat) (b : Nat → Nat) (d : Nat → Nat) (j : Nat → Nat) (h : Nat → Nat) (t : Nat → Nat) (ln : Nat) (p : Nat) (x1 : Int32) (x2 : Int32) (x3 : Int32) (x4 : Int32) (x5 : Int32) (al : Nat → Nat) : MI l v yX6_clearBuffer cX6_clearBuffer 2 (some .int) ({ frames := 1, cells := 0, slots := 0, locals := 20 }) [.ref cj] [cCJ v cj (a 0) (b 0) (d 0) (j 0) (h 0) (t 0), [((t 0), .inr (5, [.ref (t 1), .int (nI ln), .ref (al 0), .int (nI p), .int x1, .int x2, .int x3, .int x4, .int x5]))]] (fun r w_ => r = nI ln ∧ w_ = [cCJ v cj (a 0) (b 0) (d 0) (j 0) (h 0) (t 0), [(t 0, .inr (5, [.ref (t 1), .int (nI 0), .ref (al 0), .int (nI p), .int x1, .int x2, .int x3, .int x4, .int x5]))]]) 0 0 := by
  refine mm_int (by decide) (Nat.le_of_ble_eq_true rfl) [(0, .ref cj)] rfl (fun k X E => ?_)
  refine g_aload_n X dX6_clearBuffer_0 0 rfl rfl ?_
  refine g_get X cb6 5 q_2_9 dX6_clearBuffer_1 0 0 rfl rfl (by decide) rfl rfl ?_
  refine g_getN X cb5 1 10 rfl dX6_clearBuffer_4 1 0 rfl rfl (by decide) rfl rfl ?_
  refine g_istore_n (lv' := [(1, .int (nI ln)), (0, .ref cj)]) X dX6_clearBuffer_7 rfl (by decide) rfl ?_
  refine g_aload_n X dX6_clearBuffer_8 1 rfl rfl ?_
  refine g_get X cb6 5 q_2_9 dX6_clearBuffer_9 0 0 rfl rfl (by decide) rfl rfl ?_
  refine g_callV (As := []) (rest := []) (wr := [cCJ v cj (a 0) (b 0) (d 0) (j 0) (h 0) (t 0)]) X (c_X5_clear l v t (al 0) ln p x1 x2 x3 x4 x5) f_X5_clear q_14_2 dX6_clearBuffer_12 [1] [0] rfl rfl (by decide) 0 rfl rfl rfl rfl (Nat.le_of_ble_eq_true rfl) (by decide) (fun r_ w_ hp1 => ?_)
  subst hp1
  show GG k _ _ [[((t 0), .inr (5, [.ref (t 1), .int (nI 0), .ref (al 0), .int (nI p), .int x1, .int x2, .int x3, .int x4, .int x5]))], cCJ v cj (a 0) (b 0) (d 0) (j 0) (h 0) (t 0)] _ _ []
  refine g_pick (cs' := [cCJ v cj (a 0) (b 0) (d 0) (j 0) (h 0) (t 0), [((t 0), .inr (5, [.ref (t 1), .int (nI 0), .ref (al 0), .int (nI p), .int x1, .int x2, .int x3, .int x4, .int x5]))]]) [1, 0] rfl rfl ?_
  refine g_iload_n X dX6_clearBuffer_15 0 rfl rfl ?_
  exact E dX6_clearBuffer_16 rfl (rfl) (by decide) (by decide) (⟨rfl, rfl⟩)

set_option maxHeartbeats 4000000 in
set_option maxRecDepth 100000 in
theorem c_X6_append (l : Launch) (v : VV) (cj : Nat) (a : Nat → Nat) (b : Nat → Nat) (d : Nat → Nat) (j : Nat → Nat) (h : Nat → Nat) (t : Nat → Nat) (ln : Nat) (p : Nat) (x1 : Int32) (x2 : Int32) (x3 : Int32) (x4 : Int32) (x5 : Int32) (fc : Nat → Int32) (al : Nat → Nat) (w : Nat) (hl : ln < 60) (hw1 : 33 ≤ w) (hw2 : w < 127) : MI l v yX6_append cX6_append 2 (some .int) ({ frames := 1, cells := 0, slots := 0, locals := 21 }) [.ref cj, .int (nI w)] [cCJ v cj (a 0) (b 0) (d 0) (j 0) (h 0) (t 0), [((t 0), .inr (5, [.ref (t 1), .int (nI ln), .ref (al 0), .int (nI p), .int x1, .int x2, .int x3, .int x4, .int x5]))], cCh v t fc] (fun r w_ => r = nI (ln + 1) ∧ w_ = [cCJ v cj (a 0) (b 0) (d 0) (j 0) (h 0) (t 0), [(t 0, .inr (5, [.ref (t 1), .int (nI (ln + 1)), .ref (al 0), .int (nI p), .int x1, .int x2, .int x3, .int x4, .int x5]))], cCh v t (upd fc ln (nI w))]) 0 0 := by
  refine mm_int (by decide) (Nat.le_of_ble_eq_true rfl) [(0, .ref cj), (1, .int (nI w))] rfl (fun k X E => ?_)
  refine g_iload_n X dX6_append_0 1 rfl rfl ?_
  refine g_bipush (x := nI 33) X dX6_append_1 (by decide +kernel) ?_
  refine g_icmp_ltN (tgt := 12) X dX6_append_3 (by decide) (by omega) (by omega) (fun c3 => ?_) (fun c3 => ?_)
  · omega
  · refine g_iload_n X dX6_append_6 1 rfl rfl ?_
    refine g_bipush (x := nI 126) X dX6_append_7 (by decide +kernel) ?_
    refine g_icmp_leN (tgt := 22) X dX6_append_9 (by decide) (by omega) (by omega) (fun c9 => ?_) (fun c9 => ?_)
    · refine g_aload_n X dX6_append_22 0 rfl rfl ?_
      refine g_get X cb6 5 q_2_9 dX6_append_23 0 0 rfl rfl (by decide) rfl rfl ?_
      refine g_getN X cb5 1 10 rfl dX6_append_26 1 0 rfl rfl (by decide) rfl rfl ?_
      refine g_bipush (x := nI 60) X dX6_append_29 (by decide +kernel) ?_
      refine g_icmp_ltN (tgt := 44) X dX6_append_31 (by decide) (by omega) (by omega) (fun c31 => ?_) (fun c31 => ?_)
      · refine g_aload_n X dX6_append_44 0 rfl rfl ?_
        refine g_get X cb6 5 q_2_9 dX6_append_45 0 0 rfl rfl (by decide) rfl rfl ?_
        refine g_iload_n X dX6_append_48 1 rfl rfl ?_
        refine g_i2c (y := nI w) X dX6_append_49 (i2c_nI w hw2) ?_
        refine g_callV (As := [.int (nI w)]) (rest := []) (wr := [cCJ v cj (a 0) (b 0) (d 0) (j 0) (h 0) (t 0)]) X (c_X5_put l v t (al 0) ln p x1 x2 x3 x4 x5 fc w (by omega) hw2) f_X5_put q_5_14 dX6_append_50 [1, 2] [0] rfl rfl (by decide) 0 rfl rfl rfl rfl (Nat.le_of_ble_eq_true rfl) (by decide) (fun r_ w_ hp1 => ?_)
        rw [if_pos hl] at hp1
        subst hp1
        show GG k _ _ [[((t 0), .inr (5, [.ref (t 1), .int (nI (ln + 1)), .ref (al 0), .int (nI p), .int x1, .int x2, .int x3, .int x4, .int x5]))], cCh v t (upd fc ln (nI w)), cCJ v cj (a 0) (b 0) (d 0) (j 0) (h 0) (t 0)] _ _ []
        refine g_pick (cs' := [cCJ v cj (a 0) (b 0) (d 0) (j 0) (h 0) (t 0), [((t 0), .inr (5, [.ref (t 1), .int (nI (ln + 1)), .ref (al 0), .int (nI p), .int x1, .int x2, .int x3, .int x4, .int x5]))], cCh v t (upd fc ln (nI w))]) [2, 0, 1] rfl rfl ?_
        refine g_aload_n X dX6_append_53 0 rfl rfl ?_
        refine g_get X cb6 5 q_2_9 dX6_append_54 0 0 rfl rfl (by decide) rfl rfl ?_
        refine g_getN X cb5 1 10 rfl dX6_append_57 1 0 rfl rfl (by decide) rfl rfl ?_
        exact E dX6_append_60 rfl (rfl) (by decide) (by decide) (⟨rfl, rfl⟩)
      · omega
    · omega

set_option maxHeartbeats 4000000 in
set_option maxRecDepth 100000 in
theorem b_X6_append (l : Launch) (v : VV) (hst : l.stackTraces = false) (cj : Nat) (a : Nat → Nat) (b : Nat → Nat) (d : Nat → Nat) (j : Nat → Nat) (h : Nat → Nat) (t : Nat → Nat) (x : Int32) (hx : bdC x) : XI l v yX6_append cX6_append 2 (some .int) ({ frames := 7, cells := 1, slots := 6, locals := 120 }) [.ref cj, .int x] [cCJ v cj (a 0) (b 0) (d 0) (j 0) (h 0) (t 0)] (fun _ _ => False) (fun E w_ => E = "java/lang/IllegalArgumentException" ∧ w_ = [cCJ v cj (a 0) (b 0) (d 0) (j 0) (h 0) (t 0)]) 1 6 := by
  refine mx_int hst rfl (by decide) (Nat.le_of_ble_eq_true rfl) [(0, .ref cj), (1, .int x)] rfl (fun k X E xo xr xw => ?_)
  refine g_iload_n X dX6_append_0 1 rfl rfl ?_
  refine g_bipush (x := nI 33) X dX6_append_1 (by decide +kernel) ?_
  refine g_icmp_lt (tgt := 12) X dX6_append_3 (by decide) (fun c3 => ?_) (fun c3 => ?_)
  · exact xr 8 (List.mem_of_getElem? (i := 1) rfl) q_5_10 q_5_11 rfl dX6_append_12 dX6_append_15 dX6_append_16 dX6_append_18 dX6_append_21 (by decide) (Nat.le_of_ble_eq_true rfl) (by decide) (by decide) (by decide) (by decide) (⟨rfl, rfl⟩)
  · refine g_iload_n X dX6_append_6 1 rfl rfl ?_
    refine g_bipush (x := nI 126) X dX6_append_7 (by decide +kernel) ?_
    refine g_icmp_le (tgt := 22) X dX6_append_9 (by decide) (fun c9 => ?_) (fun c9 => ?_)
    · exact absurd (hx.resolve_left c3) (Int32.not_lt.mpr c9)
    · exact xr 8 (List.mem_of_getElem? (i := 1) rfl) q_5_10 q_5_11 rfl dX6_append_12 dX6_append_15 dX6_append_16 dX6_append_18 dX6_append_21 (by decide) (Nat.le_of_ble_eq_true rfl) (by decide) (by decide) (by decide) (by decide) (⟨rfl, rfl⟩)

set_option maxHeartbeats 4000000 in
set_option maxRecDepth 100000 in
theorem b1_X6_append (l : Launch) (v : VV) (hst : l.stackTraces = false) (cj : Nat) (a : Nat → Nat) (b : Nat → Nat) (d : Nat → Nat) (j : Nat → Nat) (h : Nat → Nat) (t : Nat → Nat) (ln : Nat) (p : Nat) (x1 : Int32) (x2 : Int32) (x3 : Int32) (x4 : Int32) (x5 : Int32) (al : Nat → Nat) (w : Nat) (hl : ln = 60) (hw1 : 33 ≤ w) (hw2 : w < 127) : XI l v yX6_append cX6_append 2 (some .int) ({ frames := 7, cells := 1, slots := 6, locals := 120 }) [.ref cj, .int (nI w)] [cCJ v cj (a 0) (b 0) (d 0) (j 0) (h 0) (t 0), [((t 0), .inr (5, [.ref (t 1), .int (nI ln), .ref (al 0), .int (nI p), .int x1, .int x2, .int x3, .int x4, .int x5]))]] (fun _ _ => False) (fun E w_ => E = "java/lang/IllegalStateException" ∧ w_ = [cCJ v cj (a 0) (b 0) (d 0) (j 0) (h 0) (t 0), [(t 0, .inr (5, [.ref (t 1), .int (nI ln), .ref (al 0), .int (nI p), .int x1, .int x2, .int x3, .int x4, .int x5]))]]) 1 6 := by
  refine mx_int hst rfl (by decide) (Nat.le_of_ble_eq_true rfl) [(0, .ref cj), (1, .int (nI w))] rfl (fun k X E xo xr xw => ?_)
  refine g_iload_n X dX6_append_0 1 rfl rfl ?_
  refine g_bipush (x := nI 33) X dX6_append_1 (by decide +kernel) ?_
  refine g_icmp_ltN (tgt := 12) X dX6_append_3 (by decide) (by omega) (by omega) (fun c3 => ?_) (fun c3 => ?_)
  · omega
  · refine g_iload_n X dX6_append_6 1 rfl rfl ?_
    refine g_bipush (x := nI 126) X dX6_append_7 (by decide +kernel) ?_
    refine g_icmp_leN (tgt := 22) X dX6_append_9 (by decide) (by omega) (by omega) (fun c9 => ?_) (fun c9 => ?_)
    · refine g_aload_n X dX6_append_22 0 rfl rfl ?_
      refine g_get X cb6 5 q_2_9 dX6_append_23 0 0 rfl rfl (by decide) rfl rfl ?_
      refine g_getN X cb5 1 10 rfl dX6_append_26 1 0 rfl rfl (by decide) rfl rfl ?_
      refine g_bipush (x := nI 60) X dX6_append_29 (by decide +kernel) ?_
      refine g_icmp_ltN (tgt := 44) X dX6_append_31 (by decide) (by omega) (by omega) (fun c31 => ?_) (fun c31 => ?_)
      · omega
      · exact xr 9 (List.mem_of_getElem? (i := 2) rfl) q_5_12 q_5_13 rfl dX6_append_34 dX6_append_37 dX6_append_38 dX6_append_40 dX6_append_43 (by decide) (Nat.le_of_ble_eq_true rfl) (by decide) (by decide) (by decide) (by decide) (⟨rfl, rfl⟩)
    · omega

set_option maxHeartbeats 4000000 in
set_option maxRecDepth 100000 in
theorem c_X6_savedStates (l : Launch) (v : VV) (cj : Nat) (a : Nat → Nat) (b : Nat → Nat) (d : Nat → Nat) (j : Nat → Nat) (h : Nat → Nat) (t : Nat → Nat) (pw : Nat → Nat → Nat) (bw : Nat → Nat → Nat) (o : Nat) (c : Nat) : MI l v yX6_savedStates cX6_savedStates 1 (some .int) ({ frames := 0, cells := 0, slots := 0, locals := 0 }) [.ref cj] [cCJ v cj (a 0) (b 0) (d 0) (j 0) (h 0) (t 0), cHi9 v h pw bw o c] (fun r w_ => r = nI c ∧ w_ = [cCJ v cj (a 0) (b 0) (d 0) (j 0) (h 0) (t 0), cHi9 v h pw bw o c]) 0 0 := by
  refine mm_int (by decide) (Nat.le_of_ble_eq_true rfl) [(0, .ref cj)] rfl (fun k X E => ?_)
  refine g_aload_n X dX6_savedStates_0 0 rfl rfl ?_
  refine g_get X cb6 4 q_2_5 dX6_savedStates_1 0 0 rfl rfl (by decide) rfl rfl ?_
  refine g_getN X cb1 3 9 rfl dX6_savedStates_4 1 0 rfl rfl (by decide) rfl rfl ?_
  exact E dX6_savedStates_7 rfl (rfl) (by decide) (by decide) (⟨rfl, rfl⟩)

set_option maxHeartbeats 4000000 in
set_option maxRecDepth 100000 in
theorem c_X6_undo (l : Launch) (v : VV) (cj : Nat) (a : Nat → Nat) (b : Nat → Nat) (d : Nat → Nat) (j : Nat → Nat) (h : Nat → Nat) (t : Nat → Nat) (n : Nat) (f : Nat → Nat → Int32) (g : Nat → Nat → Int32) (pw : Nat → Nat → Nat) (bw : Nat → Nat → Nat) (o : Nat) (c : Nat) (ns : Nat → Nat) (fs : Nat → Nat → Nat → Int32) (gs : Nat → Nat → Nat → Int32) (H : Nat → HE9) (stl : Bool) (x : Nat) (y : Nat) (z : Nat) (jst : Bool) (hH : HrR H o c ns fs gs) (hc : 0 < c) : MI l v yX6_undo cX6_undo 1 (some .int) ({ frames := 4, cells := 0, slots := 0, locals := 92 }) [.ref cj] [cCJ v cj (a 0) (b 0) (d 0) (j 0) (h 0) (t 0), cPg v a n f, cAs v b g, cHi9 v h pw bw o c, cPg v (pw 0) (ns 0) (fs 0), cPg v (pw 1) (ns 1) (fs 1), cPg v (pw 2) (ns 2) (fs 2), cPg v (pw 3) (ns 3) (fs 3), cPg v (pw 4) (ns 4) (fs 4), cPg v (pw 5) (ns 5) (fs 5), cAs v (bw 0) (gs 0), cAs v (bw 1) (gs 1), cAs v (bw 2) (gs 2), cAs v (bw 3) (gs 3), cAs v (bw 4) (gs 4), cAs v (bw 5) (gs 5), cRu v d (a 0) stl, cJu v j (a 0) (b 0) (d 0) x y z jst] (fun r w_ => ∃ f' g', r = nI (c - 1) ∧ PgR (H (c - 1)).1 (H (c - 1)).2.1 f' ∧ AsR (H (c - 1)).2.2.1 (H (c - 1)).2.2.2 g' ∧ w_ = [cCJ v cj (a 0) (b 0) (d 0) (j 0) (h 0) (t 0), cPg v a (H (c - 1)).2.1 f', cAs v b g', cHi9 v h pw bw o (c - 1), cPg v (pw 0) (ns 0) (fs 0), cPg v (pw 1) (ns 1) (fs 1), cPg v (pw 2) (ns 2) (fs 2), cPg v (pw 3) (ns 3) (fs 3), cPg v (pw 4) (ns 4) (fs 4), cPg v (pw 5) (ns 5) (fs 5), cAs v (bw 0) (gs 0), cAs v (bw 1) (gs 1), cAs v (bw 2) (gs 2), cAs v (bw 3) (gs 3), cAs v (bw 4) (gs 4), cAs v (bw 5) (gs 5), cRu v d (a 0) true, cJu v j (a 0) (b 0) (d 0) x y z true]) 0 0 := by
  refine mm_int (by decide) (Nat.le_of_ble_eq_true rfl) [(0, .ref cj)] rfl (fun k X E => ?_)
  have hc7 := hH.2.1
  refine g_aload_n X dX6_undo_0 0 rfl rfl ?_
  refine g_get X cb6 4 q_2_5 dX6_undo_1 0 0 rfl rfl (by decide) rfl rfl ?_
  refine g_getN X cb1 3 9 rfl dX6_undo_4 3 0 rfl rfl (by decide) rfl rfl ?_
  refine g_if_neN (tgt := 20) X dX6_undo_7 (by decide) (by omega) (fun c7 => ?_) (fun c7 => ?_)
  · refine g_aload_n X dX6_undo_20 0 rfl rfl ?_
    refine g_get X cb6 4 q_2_5 dX6_undo_21 0 0 rfl rfl (by decide) rfl rfl ?_
    refine g_aload_n X dX6_undo_24 0 rfl rfl ?_
    refine g_get X cb6 0 q_1_13 dX6_undo_25 0 0 rfl rfl (by decide) rfl rfl ?_
    refine g_aload_n X dX6_undo_28 0 rfl rfl ?_
    refine g_get X cb6 1 q_1_17 dX6_undo_29 0 0 rfl rfl (by decide) rfl rfl ?_
    refine g_callV (As := [.ref (a 0), .ref (b 0)]) (rest := []) (wr := [cCJ v cj (a 0) (b 0) (d 0) (j 0) (h 0) (t 0), cRu v d (a 0) stl, cJu v j (a 0) (b 0) (d 0) x y z jst]) X (c_X1_restore l v h pw bw o c ns fs gs H a n f b g hH (by omega)) f_X1_restore q_21_22 dX6_undo_32 [3, 1, 2, 4, 5, 6, 7, 8, 9, 10, 11, 12, 13, 14, 15] [0, 16, 17] rfl rfl (by decide) 0 rfl rfl rfl rfl (Nat.le_of_ble_eq_true rfl) (by decide) (fun r_ w_ hp2 => ?_)
    obtain ⟨rs1f, rs1g, rs1R, rs1G, rfl⟩ := hp2
    show GG k _ _ [cHi9 v h pw bw o (c - 1), cPg v a ((H (c - 1)).2.1) rs1f, cAs v b rs1g, cPg v (pw 0) (ns 0) (fs 0), cPg v (pw 1) (ns 1) (fs 1), cPg v (pw 2) (ns 2) (fs 2), cPg v (pw 3) (ns 3) (fs 3), cPg v (pw 4) (ns 4) (fs 4), cPg v (pw 5) (ns 5) (fs 5), cAs v (bw 0) (gs 0), cAs v (bw 1) (gs 1), cAs v (bw 2) (gs 2), cAs v (bw 3) (gs 3), cAs v (bw 4) (gs 4), cAs v (bw 5) (gs 5), cCJ v cj (a 0) (b 0) (d 0) (j 0) (h 0) (t 0), cRu v d (a 0) stl, cJu v j (a 0) (b 0) (d 0) x y z jst] _ _ []
    refine g_pick (cs' := [cCJ v cj (a 0) (b 0) (d 0) (j 0) (h 0) (t 0), cPg v a ((H (c - 1)).2.1) rs1f, cAs v b rs1g, cHi9 v h pw bw o (c - 1), cPg v (pw 0) (ns 0) (fs 0), cPg v (pw 1) (ns 1) (fs 1), cPg v (pw 2) (ns 2) (fs 2), cPg v (pw 3) (ns 3) (fs 3), cPg v (pw 4) (ns 4) (fs 4), cPg v (pw 5) (ns 5) (fs 5), cAs v (bw 0) (gs 0), cAs v (bw 1) (gs 1), cAs v (bw 2) (gs 2), cAs v (bw 3) (gs 3), cAs v (bw 4) (gs 4), cAs v (bw 5) (gs 5), cRu v d (a 0) stl, cJu v j (a 0) (b 0) (d 0) x y z jst]) [15, 1, 2, 0, 3, 4, 5, 6, 7, 8, 9, 10, 11, 12, 13, 14, 16, 17] rfl rfl ?_
    refine g_aload_n X dX6_undo_35 0 rfl rfl ?_
    refine g_callV (As := []) (rest := []) (wr := [cPg v a ((H (c - 1)).2.1) rs1f, cAs v b rs1g, cHi9 v h pw bw o (c - 1), cPg v (pw 0) (ns 0) (fs 0), cPg v (pw 1) (ns 1) (fs 1), cPg v (pw 2) (ns 2) (fs 2), cPg v (pw 3) (ns 3) (fs 3), cPg v (pw 4) (ns 4) (fs 4), cPg v (pw 5) (ns 5) (fs 5), cAs v (bw 0) (gs 0), cAs v (bw 1) (gs 1), cAs v (bw 2) (gs 2), cAs v (bw 3) (gs 3), cAs v (bw 4) (gs 4), cAs v (bw 5) (gs 5)]) X (c_X6_forgetProgram l v cj a b d j h t stl x y z jst) f_X6_forgetProgram q_14_6 dX6_undo_36 [0, 16, 17] [1, 2, 3, 4, 5, 6, 7, 8, 9, 10, 11, 12, 13, 14, 15] rfl rfl (by decide) 0 rfl rfl rfl rfl (Nat.le_of_ble_eq_true rfl) (by decide) (fun r_ w_ hp3 => ?_)
    subst hp3
    show GG k _ _ [cCJ v cj (a 0) (b 0) (d 0) (j 0) (h 0) (t 0), cRu v d (a 0) true, cJu v j (a 0) (b 0) (d 0) x y z true, cPg v a ((H (c - 1)).2.1) rs1f, cAs v b rs1g, cHi9 v h pw bw o (c - 1), cPg v (pw 0) (ns 0) (fs 0), cPg v (pw 1) (ns 1) (fs 1), cPg v (pw 2) (ns 2) (fs 2), cPg v (pw 3) (ns 3) (fs 3), cPg v (pw 4) (ns 4) (fs 4), cPg v (pw 5) (ns 5) (fs 5), cAs v (bw 0) (gs 0), cAs v (bw 1) (gs 1), cAs v (bw 2) (gs 2), cAs v (bw 3) (gs 3), cAs v (bw 4) (gs 4), cAs v (bw 5) (gs 5)] _ _ []
    refine g_pick (cs' := [cCJ v cj (a 0) (b 0) (d 0) (j 0) (h 0) (t 0), cPg v a ((H (c - 1)).2.1) rs1f, cAs v b rs1g, cHi9 v h pw bw o (c - 1), cPg v (pw 0) (ns 0) (fs 0), cPg v (pw 1) (ns 1) (fs 1), cPg v (pw 2) (ns 2) (fs 2), cPg v (pw 3) (ns 3) (fs 3), cPg v (pw 4) (ns 4) (fs 4), cPg v (pw 5) (ns 5) (fs 5), cAs v (bw 0) (gs 0), cAs v (bw 1) (gs 1), cAs v (bw 2) (gs 2), cAs v (bw 3) (gs 3), cAs v (bw 4) (gs 4), cAs v (bw 5) (gs 5), cRu v d (a 0) true, cJu v j (a 0) (b 0) (d 0) x y z true]) [0, 3, 4, 5, 6, 7, 8, 9, 10, 11, 12, 13, 14, 15, 16, 17, 1, 2] rfl rfl ?_
    refine g_aload_n X dX6_undo_39 0 rfl rfl ?_
    refine g_get X cb6 4 q_2_5 dX6_undo_40 0 0 rfl rfl (by decide) rfl rfl ?_
    refine g_getN X cb1 3 9 rfl dX6_undo_43 3 0 rfl rfl (by decide) rfl rfl ?_
    exact E dX6_undo_46 rfl (rfl) (by decide) (by decide) (⟨_, _, rfl, rs1R, rs1G, rfl⟩)
  · omega

set_option maxHeartbeats 4000000 in
set_option maxRecDepth 100000 in
theorem b_X6_undo (l : Launch) (v : VV) (hst : l.stackTraces = false) (cj : Nat) (a : Nat → Nat) (b : Nat → Nat) (d : Nat → Nat) (j : Nat → Nat) (h : Nat → Nat) (t : Nat → Nat) (pw : Nat → Nat → Nat) (bw : Nat → Nat → Nat) (o : Nat) : XI l v yX6_undo cX6_undo 1 (some .int) ({ frames := 7, cells := 1, slots := 6, locals := 120 }) [.ref cj] [cCJ v cj (a 0) (b 0) (d 0) (j 0) (h 0) (t 0), cHi9 v h pw bw o 0] (fun _ _ => False) (fun E w_ => E = "java/lang/IllegalStateException" ∧ w_ = [cCJ v cj (a 0) (b 0) (d 0) (j 0) (h 0) (t 0), cHi9 v h pw bw o 0]) 1 6 := by
  refine mx_int hst rfl (by decide) (Nat.le_of_ble_eq_true rfl) [(0, .ref cj)] rfl (fun k X E xo xr xw => ?_)
  refine g_aload_n X dX6_undo_0 0 rfl rfl ?_
  refine g_get X cb6 4 q_2_5 dX6_undo_1 0 0 rfl rfl (by decide) rfl rfl ?_
  refine g_getN X cb1 3 9 rfl dX6_undo_4 1 0 rfl rfl (by decide) rfl rfl ?_
  refine g_if_neN (tgt := 20) X dX6_undo_7 (by decide) (by omega) (fun c7 => ?_) (fun c7 => ?_)
  · exact absurd rfl c7
  · exact xr 10 (List.mem_of_getElem? (i := 2) rfl) q_5_12 q_5_13 rfl dX6_undo_10 dX6_undo_13 dX6_undo_14 dX6_undo_16 dX6_undo_19 (by decide) (Nat.le_of_ble_eq_true rfl) (by decide) (by decide) (by decide) (by decide) (⟨rfl, rfl⟩)

set_option maxHeartbeats 4000000 in
set_option maxRecDepth 100000 in
theorem c_X6_removeLast (l : Launch) (v : VV) (cj : Nat) (a : Nat → Nat) (b : Nat → Nat) (d : Nat → Nat) (j : Nat → Nat) (h : Nat → Nat) (t : Nat → Nat) (n : Nat) (f : Nat → Nat → Int32) (P : Nat → S9) (g : Nat → Nat → Int32) (lo : Nat → Nat) (hi : Nat → Nat) (pw : Nat → Nat → Nat) (bw : Nat → Nat → Nat) (o : Nat) (c : Nat) (ns : Nat → Nat) (fs : Nat → Nat → Nat → Int32) (gs : Nat → Nat → Nat → Int32) (H : Nat → HE9) (stl : Bool) (x : Nat) (y : Nat) (z : Nat) (jst : Bool) (hW : WF P n) (hR : PgR P n f) (hL : AsW lo hi) (hG : AsR lo hi g) (hH : HrR H o c ns fs gs) (hn : 0 < n) : MI l v yX6_removeLast cX6_removeLast 1 (some .int) ({ frames := 5, cells := 0, slots := 0, locals := 112 }) [.ref cj] [cCJ v cj (a 0) (b 0) (d 0) (j 0) (h 0) (t 0), cPg v a n f, cAs v b g, cHi9 v h pw bw o c, cPg v (pw 0) (ns 0) (fs 0), cPg v (pw 1) (ns 1) (fs 1), cPg v (pw 2) (ns 2) (fs 2), cPg v (pw 3) (ns 3) (fs 3), cPg v (pw 4) (ns 4) (fs 4), cPg v (pw 5) (ns 5) (fs 5), cAs v (bw 0) (gs 0), cAs v (bw 1) (gs 1), cAs v (bw 2) (gs 2), cAs v (bw 3) (gs 3), cAs v (bw 4) (gs 4), cAs v (bw 5) (gs 5), cRu v d (a 0) stl, cJu v j (a 0) (b 0) (d 0) x y z jst] (fun r w_ => ∃ f' o' ns' fs' gs', r = nI (n - 1) ∧ PgR (dr9 P (n - 1)) (n - 1) f' ∧ HrR (hS9 H c (P, n, lo, hi)) o' (hC9 c) ns' fs' gs' ∧ w_ = [cCJ v cj (a 0) (b 0) (d 0) (j 0) (h 0) (t 0), cPg v a (n - 1) f', cAs v b g, cHi9 v h pw bw o' (hC9 c), cPg v (pw 0) (ns' 0) (fs' 0), cPg v (pw 1) (ns' 1) (fs' 1), cPg v (pw 2) (ns' 2) (fs' 2), cPg v (pw 3) (ns' 3) (fs' 3), cPg v (pw 4) (ns' 4) (fs' 4), cPg v (pw 5) (ns' 5) (fs' 5), cAs v (bw 0) (gs' 0), cAs v (bw 1) (gs' 1), cAs v (bw 2) (gs' 2), cAs v (bw 3) (gs' 3), cAs v (bw 4) (gs' 4), cAs v (bw 5) (gs' 5), cRu v d (a 0) true, cJu v j (a 0) (b 0) (d 0) x y z true]) 0 0 := by
  refine mm_int (by decide) (Nat.le_of_ble_eq_true rfl) [(0, .ref cj)] rfl (fun k X E => ?_)
  have hn12 := hW.1
  refine g_aload_n X dX6_removeLast_0 0 rfl rfl ?_
  refine g_get X cb6 0 q_1_13 dX6_removeLast_1 0 0 rfl rfl (by decide) rfl rfl ?_
  refine g_getN X cb3 0 0 rfl dX6_removeLast_4 1 0 rfl rfl (by decide) rfl rfl ?_
  refine g_if_neN (tgt := 20) X dX6_removeLast_7 (by decide) (by omega) (fun c7 => ?_) (fun c7 => ?_)
  · refine g_aload_n X dX6_removeLast_20 0 rfl rfl ?_
    refine g_callV (As := []) (rest := []) (wr := [cRu v d (a 0) stl, cJu v j (a 0) (b 0) (d 0) x y z jst]) X (c_X6_saveState l v cj a b d j h t n f P g lo hi pw bw o c ns fs gs H hW hR hL hG hH) f_X6_saveState q_12_21 dX6_removeLast_21 [0, 1, 2, 3, 4, 5, 6, 7, 8, 9, 10, 11, 12, 13, 14, 15] [16, 17] rfl rfl (by decide) 0 rfl rfl rfl rfl (Nat.le_of_ble_eq_true rfl) (by decide) (fun r_ w_ hp2 => ?_)
    obtain ⟨ss1o, ss1n, ss1f, ss1g, ss1H, rfl⟩ := hp2
    show GG k _ _ [cCJ v cj (a 0) (b 0) (d 0) (j 0) (h 0) (t 0), cPg v a n f, cAs v b g, cHi9 v h pw bw ss1o (hC9 c), cPg v (pw 0) (ss1n 0) (ss1f 0), cPg v (pw 1) (ss1n 1) (ss1f 1), cPg v (pw 2) (ss1n 2) (ss1f 2), cPg v (pw 3) (ss1n 3) (ss1f 3), cPg v (pw 4) (ss1n 4) (ss1f 4), cPg v (pw 5) (ss1n 5) (ss1f 5), cAs v (bw 0) (ss1g 0), cAs v (bw 1) (ss1g 1), cAs v (bw 2) (ss1g 2), cAs v (bw 3) (ss1g 3), cAs v (bw 4) (ss1g 4), cAs v (bw 5) (ss1g 5), cRu v d (a 0) stl, cJu v j (a 0) (b 0) (d 0) x y z jst] _ _ []
    refine g_aload_n X dX6_removeLast_24 0 rfl rfl ?_
    refine g_get X cb6 0 q_1_13 dX6_removeLast_25 0 0 rfl rfl (by decide) rfl rfl ?_
    refine g_callV (As := []) (rest := []) (wr := [cCJ v cj (a 0) (b 0) (d 0) (j 0) (h 0) (t 0), cAs v b g, cHi9 v h pw bw ss1o (hC9 c), cPg v (pw 0) (ss1n 0) (ss1f 0), cPg v (pw 1) (ss1n 1) (ss1f 1), cPg v (pw 2) (ss1n 2) (ss1f 2), cPg v (pw 3) (ss1n 3) (ss1f 3), cPg v (pw 4) (ss1n 4) (ss1f 4), cPg v (pw 5) (ss1n 5) (ss1f 5), cAs v (bw 0) (ss1g 0), cAs v (bw 1) (ss1g 1), cAs v (bw 2) (ss1g 2), cAs v (bw 3) (ss1g 3), cAs v (bw 4) (ss1g 4), cAs v (bw 5) (ss1g 5), cRu v d (a 0) stl, cJu v j (a 0) (b 0) (d 0) x y z jst]) X (c_X3_dropLast l v a n f P (hW) (hR) (hn)) f_X3_dropLast q_15_7 dX6_removeLast_28 [1] [0, 2, 3, 4, 5, 6, 7, 8, 9, 10, 11, 12, 13, 14, 15, 16, 17] rfl rfl (by decide) 0 rfl rfl rfl rfl (Nat.le_of_ble_eq_true rfl) (by decide) (fun r_ w_ hp4 => ?_)
    obtain ⟨f_3, f_3R, rfl⟩ := hp4
    show GG k _ _ [cPg v a (n - 1) f_3, cCJ v cj (a 0) (b 0) (d 0) (j 0) (h 0) (t 0), cAs v b g, cHi9 v h pw bw ss1o (hC9 c), cPg v (pw 0) (ss1n 0) (ss1f 0), cPg v (pw 1) (ss1n 1) (ss1f 1), cPg v (pw 2) (ss1n 2) (ss1f 2), cPg v (pw 3) (ss1n 3) (ss1f 3), cPg v (pw 4) (ss1n 4) (ss1f 4), cPg v (pw 5) (ss1n 5) (ss1f 5), cAs v (bw 0) (ss1g 0), cAs v (bw 1) (ss1g 1), cAs v (bw 2) (ss1g 2), cAs v (bw 3) (ss1g 3), cAs v (bw 4) (ss1g 4), cAs v (bw 5) (ss1g 5), cRu v d (a 0) stl, cJu v j (a 0) (b 0) (d 0) x y z jst] _ _ []
    refine g_pick (cs' := [cCJ v cj (a 0) (b 0) (d 0) (j 0) (h 0) (t 0), cPg v a (n - 1) f_3, cAs v b g, cHi9 v h pw bw ss1o (hC9 c), cPg v (pw 0) (ss1n 0) (ss1f 0), cPg v (pw 1) (ss1n 1) (ss1f 1), cPg v (pw 2) (ss1n 2) (ss1f 2), cPg v (pw 3) (ss1n 3) (ss1f 3), cPg v (pw 4) (ss1n 4) (ss1f 4), cPg v (pw 5) (ss1n 5) (ss1f 5), cAs v (bw 0) (ss1g 0), cAs v (bw 1) (ss1g 1), cAs v (bw 2) (ss1g 2), cAs v (bw 3) (ss1g 3), cAs v (bw 4) (ss1g 4), cAs v (bw 5) (ss1g 5), cRu v d (a 0) stl, cJu v j (a 0) (b 0) (d 0) x y z jst]) [1, 0, 2, 3, 4, 5, 6, 7, 8, 9, 10, 11, 12, 13, 14, 15, 16, 17] rfl rfl ?_
    refine g_aload_n X dX6_removeLast_31 0 rfl rfl ?_
    refine g_callV (As := []) (rest := []) (wr := [cPg v a (n - 1) f_3, cAs v b g, cHi9 v h pw bw ss1o (hC9 c), cPg v (pw 0) (ss1n 0) (ss1f 0), cPg v (pw 1) (ss1n 1) (ss1f 1), cPg v (pw 2) (ss1n 2) (ss1f 2), cPg v (pw 3) (ss1n 3) (ss1f 3), cPg v (pw 4) (ss1n 4) (ss1f 4), cPg v (pw 5) (ss1n 5) (ss1f 5), cAs v (bw 0) (ss1g 0), cAs v (bw 1) (ss1g 1), cAs v (bw 2) (ss1g 2), cAs v (bw 3) (ss1g 3), cAs v (bw 4) (ss1g 4), cAs v (bw 5) (ss1g 5)]) X (c_X6_forgetProgram l v cj a b d j h t stl x y z jst) f_X6_forgetProgram q_14_6 dX6_removeLast_32 [0, 16, 17] [1, 2, 3, 4, 5, 6, 7, 8, 9, 10, 11, 12, 13, 14, 15] rfl rfl (by decide) 0 rfl rfl rfl rfl (Nat.le_of_ble_eq_true rfl) (by decide) (fun r_ w_ hp5 => ?_)
    subst hp5
    show GG k _ _ [cCJ v cj (a 0) (b 0) (d 0) (j 0) (h 0) (t 0), cRu v d (a 0) true, cJu v j (a 0) (b 0) (d 0) x y z true, cPg v a (n - 1) f_3, cAs v b g, cHi9 v h pw bw ss1o (hC9 c), cPg v (pw 0) (ss1n 0) (ss1f 0), cPg v (pw 1) (ss1n 1) (ss1f 1), cPg v (pw 2) (ss1n 2) (ss1f 2), cPg v (pw 3) (ss1n 3) (ss1f 3), cPg v (pw 4) (ss1n 4) (ss1f 4), cPg v (pw 5) (ss1n 5) (ss1f 5), cAs v (bw 0) (ss1g 0), cAs v (bw 1) (ss1g 1), cAs v (bw 2) (ss1g 2), cAs v (bw 3) (ss1g 3), cAs v (bw 4) (ss1g 4), cAs v (bw 5) (ss1g 5)] _ _ []
    refine g_pick (cs' := [cCJ v cj (a 0) (b 0) (d 0) (j 0) (h 0) (t 0), cPg v a (n - 1) f_3, cAs v b g, cHi9 v h pw bw ss1o (hC9 c), cPg v (pw 0) (ss1n 0) (ss1f 0), cPg v (pw 1) (ss1n 1) (ss1f 1), cPg v (pw 2) (ss1n 2) (ss1f 2), cPg v (pw 3) (ss1n 3) (ss1f 3), cPg v (pw 4) (ss1n 4) (ss1f 4), cPg v (pw 5) (ss1n 5) (ss1f 5), cAs v (bw 0) (ss1g 0), cAs v (bw 1) (ss1g 1), cAs v (bw 2) (ss1g 2), cAs v (bw 3) (ss1g 3), cAs v (bw 4) (ss1g 4), cAs v (bw 5) (ss1g 5), cRu v d (a 0) true, cJu v j (a 0) (b 0) (d 0) x y z true]) [0, 3, 4, 5, 6, 7, 8, 9, 10, 11, 12, 13, 14, 15, 16, 17, 1, 2] rfl rfl ?_
    refine g_aload_n X dX6_removeLast_35 0 rfl rfl ?_
    refine g_get X cb6 0 q_1_13 dX6_removeLast_36 0 0 rfl rfl (by decide) rfl rfl ?_
    refine g_getN X cb3 0 0 rfl dX6_removeLast_39 1 0 rfl rfl (by decide) rfl rfl ?_
    exact E dX6_removeLast_42 rfl (rfl) (by decide) (by decide) (⟨_, ss1o, _, _, _, rfl, f_3R, ss1H, rfl⟩)
  · omega

set_option maxHeartbeats 4000000 in
set_option maxRecDepth 100000 in
theorem b_X6_removeLast (l : Launch) (v : VV) (hst : l.stackTraces = false) (cj : Nat) (a : Nat → Nat) (b : Nat → Nat) (d : Nat → Nat) (j : Nat → Nat) (h : Nat → Nat) (t : Nat → Nat) (f : Nat → Nat → Int32) : XI l v yX6_removeLast cX6_removeLast 1 (some .int) ({ frames := 7, cells := 1, slots := 6, locals := 120 }) [.ref cj] [cCJ v cj (a 0) (b 0) (d 0) (j 0) (h 0) (t 0), cPg v a 0 f] (fun _ _ => False) (fun E w_ => E = "java/lang/IllegalStateException" ∧ w_ = [cCJ v cj (a 0) (b 0) (d 0) (j 0) (h 0) (t 0), cPg v a 0 f]) 1 6 := by
  refine mx_int hst rfl (by decide) (Nat.le_of_ble_eq_true rfl) [(0, .ref cj)] rfl (fun k X E xo xr xw => ?_)
  refine g_aload_n X dX6_removeLast_0 0 rfl rfl ?_
  refine g_get X cb6 0 q_1_13 dX6_removeLast_1 0 0 rfl rfl (by decide) rfl rfl ?_
  refine g_getN X cb3 0 0 rfl dX6_removeLast_4 1 0 rfl rfl (by decide) rfl rfl ?_
  refine g_if_neN (tgt := 20) X dX6_removeLast_7 (by decide) (by omega) (fun c7 => ?_) (fun c7 => ?_)
  · exact absurd rfl c7
  · exact xr 5 (List.mem_of_getElem? (i := 2) rfl) q_5_12 q_5_13 rfl dX6_removeLast_10 dX6_removeLast_13 dX6_removeLast_14 dX6_removeLast_16 dX6_removeLast_19 (by decide) (Nat.le_of_ble_eq_true rfl) (by decide) (by decide) (by decide) (by decide) (⟨rfl, rfl⟩)

set_option maxHeartbeats 4000000 in
set_option maxRecDepth 100000 in
theorem c_X6_load (l : Launch) (v : VV) (cj : Nat) (a : Nat → Nat) (b : Nat → Nat) (d : Nat → Nat) (j : Nat → Nat) (h : Nat → Nat) (t : Nat → Nat) (n : Nat) (f : Nat → Nat → Int32) (P : Nat → S9) (g : Nat → Nat → Int32) (lo : Nat → Nat) (hi : Nat → Nat) (pw : Nat → Nat → Nat) (bw : Nat → Nat → Nat) (o : Nat) (c : Nat) (ns : Nat → Nat) (fs : Nat → Nat → Nat → Int32) (gs : Nat → Nat → Nat → Int32) (H : Nat → HE9) (stl : Bool) (x : Nat) (y : Nat) (z : Nat) (jst : Bool) (ln : Nat) (p : Nat) (x1 : Int32) (x2 : Int32) (x3 : Int32) (x4 : Int32) (x5 : Int32) (fc : Nat → Int32) (tx : Nat → Nat) (al : Nat → Nat) (nl : Nat) (fl : Nat → Nat → Int32) (hW : WF P n) (hR : PgR P n f) (hL : AsW lo hi) (hG : AsR lo hi g) (hH : HrR H o c ns fs gs) (hT : TxR tx ln fc) (hp : p ≤ 80) (hok : ldOK tx ln) : MI l v yX6_load cX6_load 2 (some .int) ({ frames := 8, cells := 0, slots := 0, locals := 173 }) [.ref cj] [cCJ v cj (a 0) (b 0) (d 0) (j 0) (h 0) (t 0), cPg v a n f, cAs v b g, cHi9 v h pw bw o c, cPg v (pw 0) (ns 0) (fs 0), cPg v (pw 1) (ns 1) (fs 1), cPg v (pw 2) (ns 2) (fs 2), cPg v (pw 3) (ns 3) (fs 3), cPg v (pw 4) (ns 4) (fs 4), cPg v (pw 5) (ns 5) (fs 5), cAs v (bw 0) (gs 0), cAs v (bw 1) (gs 1), cAs v (bw 2) (gs 2), cAs v (bw 3) (gs 3), cAs v (bw 4) (gs 4), cAs v (bw 5) (gs 5), cRu v d (a 0) stl, cJu v j (a 0) (b 0) (d 0) x y z jst, [((t 0), .inr (5, [.ref (t 1), .int (nI ln), .ref (al 0), .int (nI p), .int x1, .int x2, .int x3, .int x4, .int x5]))], cCh v t fc, cPg v al nl fl] (fun r w_ => ∃ f' o' ns' fs' gs' y1 y2 y3 y4 y5 fl', r = nI (pAll tx ln 12 0 []).2.2.length ∧ PgR (lg9 (pAll tx ln 12 0 []).2.2) (pAll tx ln 12 0 []).2.2.length f' ∧ HrR (hS9 H c (P, n, lo, hi)) o' (hC9 c) ns' fs' gs' ∧ PgR (lg9 (pAll tx ln 12 0 []).2.2) (pAll tx ln 12 0 []).2.2.length fl' ∧ w_ = [cCJ v cj (a 0) (b 0) (d 0) (j 0) (h 0) (t 0), cPg v a (pAll tx ln 12 0 []).2.2.length f', cAs v b g, cHi9 v h pw bw o' (hC9 c), cPg v (pw 0) (ns' 0) (fs' 0), cPg v (pw 1) (ns' 1) (fs' 1), cPg v (pw 2) (ns' 2) (fs' 2), cPg v (pw 3) (ns' 3) (fs' 3), cPg v (pw 4) (ns' 4) (fs' 4), cPg v (pw 5) (ns' 5) (fs' 5), cAs v (bw 0) (gs' 0), cAs v (bw 1) (gs' 1), cAs v (bw 2) (gs' 2), cAs v (bw 3) (gs' 3), cAs v (bw 4) (gs' 4), cAs v (bw 5) (gs' 5), cRu v d (a 0) true, cJu v j (a 0) (b 0) (d 0) x y z true, [(t 0, .inr (5, [.ref (t 1), .int (nI 0), .ref (al 0), .int (nI ((pAll tx ln 12 0 []).2.1)), .int y1, .int y2, .int y3, .int y4, .int y5]))], cCh v t fc, cPg v al (pAll tx ln 12 0 []).2.2.length fl']) 0 0 := by
  refine mm_int (by decide) (Nat.le_of_ble_eq_true rfl) [(0, .ref cj)] rfl (fun k X E => ?_)
  have hn12 := hW.1
  refine g_aload_n X dX6_load_0 0 rfl rfl ?_
  refine g_get X cb6 5 q_2_9 dX6_load_1 0 0 rfl rfl (by decide) rfl rfl ?_
  refine g_getN X cb5 2 11 rfl dX6_load_4 18 0 rfl rfl (by decide) rfl rfl ?_
  refine g_astore_n (lv' := [(1, .ref (al 0)), (0, .ref cj)]) X dX6_load_7 rfl (by decide) rfl ?_
  refine g_aload_n X dX6_load_8 1 rfl rfl ?_
  refine g_get X cb6 5 q_2_9 dX6_load_9 0 0 rfl rfl (by decide) rfl rfl ?_
  refine g_callV (As := []) (rest := []) (wr := [cCJ v cj (a 0) (b 0) (d 0) (j 0) (h 0) (t 0), cPg v a n f, cAs v b g, cHi9 v h pw bw o c, cPg v (pw 0) (ns 0) (fs 0), cPg v (pw 1) (ns 1) (fs 1), cPg v (pw 2) (ns 2) (fs 2), cPg v (pw 3) (ns 3) (fs 3), cPg v (pw 4) (ns 4) (fs 4), cPg v (pw 5) (ns 5) (fs 5), cAs v (bw 0) (gs 0), cAs v (bw 1) (gs 1), cAs v (bw 2) (gs 2), cAs v (bw 3) (gs 3), cAs v (bw 4) (gs 4), cAs v (bw 5) (gs 5), cRu v d (a 0) stl, cJu v j (a 0) (b 0) (d 0) x y z jst]) X (c_X5_readAll l v t ln p x1 x2 x3 x4 x5 fc tx al nl fl hT (by omega)) f_X5_readAll q_6_8 dX6_load_12 [18, 19, 20] [0, 1, 2, 3, 4, 5, 6, 7, 8, 9, 10, 11, 12, 13, 14, 15, 16, 17] rfl rfl (by decide) 0 rfl rfl rfl rfl (Nat.le_of_ble_eq_true rfl) (by decide) (fun r_ w_ hp2 => ?_)
  obtain ⟨ra1a, ra1b, ra1c, ra1d, ra1e, ra1f, rfl, ra1R, ra1W, rfl⟩ := hp2
  show GG k _ _ [[((t 0), .inr (5, [.ref (t 1), .int (nI ln), .ref (al 0), .int (nI ((pAll tx ln 12 0 []).2.1)), .int ra1a, .int ra1b, .int ra1c, .int ra1d, .int ra1e]))], cCh v t fc, cPg v al ((pAll tx ln 12 0 []).2.2.length) ra1f, cCJ v cj (a 0) (b 0) (d 0) (j 0) (h 0) (t 0), cPg v a n f, cAs v b g, cHi9 v h pw bw o c, cPg v (pw 0) (ns 0) (fs 0), cPg v (pw 1) (ns 1) (fs 1), cPg v (pw 2) (ns 2) (fs 2), cPg v (pw 3) (ns 3) (fs 3), cPg v (pw 4) (ns 4) (fs 4), cPg v (pw 5) (ns 5) (fs 5), cAs v (bw 0) (gs 0), cAs v (bw 1) (gs 1), cAs v (bw 2) (gs 2), cAs v (bw 3) (gs 3), cAs v (bw 4) (gs 4), cAs v (bw 5) (gs 5), cRu v d (a 0) stl, cJu v j (a 0) (b 0) (d 0) x y z jst] _ _ [.int (bI ((pAll tx ln 12 0 []).1))]
  refine g_pick (cs' := [cCJ v cj (a 0) (b 0) (d 0) (j 0) (h 0) (t 0), cPg v a n f, cAs v b g, cHi9 v h pw bw o c, cPg v (pw 0) (ns 0) (fs 0), cPg v (pw 1) (ns 1) (fs 1), cPg v (pw 2) (ns 2) (fs 2), cPg v (pw 3) (ns 3) (fs 3), cPg v (pw 4) (ns 4) (fs 4), cPg v (pw 5) (ns 5) (fs 5), cAs v (bw 0) (gs 0), cAs v (bw 1) (gs 1), cAs v (bw 2) (gs 2), cAs v (bw 3) (gs 3), cAs v (bw 4) (gs 4), cAs v (bw 5) (gs 5), cRu v d (a 0) stl, cJu v j (a 0) (b 0) (d 0) x y z jst, [((t 0), .inr (5, [.ref (t 1), .int (nI ln), .ref (al 0), .int (nI ((pAll tx ln 12 0 []).2.1)), .int ra1a, .int ra1b, .int ra1c, .int ra1d, .int ra1e]))], cCh v t fc, cPg v al ((pAll tx ln 12 0 []).2.2.length) ra1f]) [3, 4, 5, 6, 7, 8, 9, 10, 11, 12, 13, 14, 15, 16, 17, 18, 19, 20, 0, 1, 2] rfl rfl ?_
  have hlr := ra1W.1
  refine g_if_eqB (tgt := 29) X dX6_load_15 (by decide) (fun c15 => ?_) (fun c15 => ?_)
  · rw [hok.1] at c15; cases c15
  · refine g_aload_n X dX6_load_18 0 rfl rfl ?_
    refine g_callV (As := []) (rest := []) (wr := [cCJ v cj (a 0) (b 0) (d 0) (j 0) (h 0) (t 0), cPg v a n f, cAs v b g, cHi9 v h pw bw o c, cPg v (pw 0) (ns 0) (fs 0), cPg v (pw 1) (ns 1) (fs 1), cPg v (pw 2) (ns 2) (fs 2), cPg v (pw 3) (ns 3) (fs 3), cPg v (pw 4) (ns 4) (fs 4), cPg v (pw 5) (ns 5) (fs 5), cAs v (bw 0) (gs 0), cAs v (bw 1) (gs 1), cAs v (bw 2) (gs 2), cAs v (bw 3) (gs 3), cAs v (bw 4) (gs 4), cAs v (bw 5) (gs 5), cRu v d (a 0) stl, cJu v j (a 0) (b 0) (d 0) x y z jst, [((t 0), .inr (5, [.ref (t 1), .int (nI ln), .ref (al 0), .int (nI ((pAll tx ln 12 0 []).2.1)), .int ra1a, .int ra1b, .int ra1c, .int ra1d, .int ra1e]))], cCh v t fc]) X (c_X3_highestTarget l v al ((pAll tx ln 12 0 []).2.2.length) ra1f (lg9 (pAll tx ln 12 0 []).2.2) 12 ra1W ra1R (by omega)) f_X3_highestTarget q_12_16 dX6_load_19 [20] [0, 1, 2, 3, 4, 5, 6, 7, 8, 9, 10, 11, 12, 13, 14, 15, 16, 17, 18, 19] rfl rfl (by decide) 0 rfl rfl rfl rfl (Nat.le_of_ble_eq_true rfl) (by decide) (fun r_ w_ hp4 => ?_)
    obtain ⟨⟨hg3, rfl, hg31, hg32, hg33⟩, rfl⟩ := hp4
    show GG k _ _ [cPg v al ((pAll tx ln 12 0 []).2.2.length) ra1f, cCJ v cj (a 0) (b 0) (d 0) (j 0) (h 0) (t 0), cPg v a n f, cAs v b g, cHi9 v h pw bw o c, cPg v (pw 0) (ns 0) (fs 0), cPg v (pw 1) (ns 1) (fs 1), cPg v (pw 2) (ns 2) (fs 2), cPg v (pw 3) (ns 3) (fs 3), cPg v (pw 4) (ns 4) (fs 4), cPg v (pw 5) (ns 5) (fs 5), cAs v (bw 0) (gs 0), cAs v (bw 1) (gs 1), cAs v (bw 2) (gs 2), cAs v (bw 3) (gs 3), cAs v (bw 4) (gs 4), cAs v (bw 5) (gs 5), cRu v d (a 0) stl, cJu v j (a 0) (b 0) (d 0) x y z jst, [((t 0), .inr (5, [.ref (t 1), .int (nI ln), .ref (al 0), .int (nI ((pAll tx ln 12 0 []).2.1)), .int ra1a, .int ra1b, .int ra1c, .int ra1d, .int ra1e]))], cCh v t fc] _ _ [.int (zI hg3)]
    refine g_pick (cs' := [cCJ v cj (a 0) (b 0) (d 0) (j 0) (h 0) (t 0), cPg v a n f, cAs v b g, cHi9 v h pw bw o c, cPg v (pw 0) (ns 0) (fs 0), cPg v (pw 1) (ns 1) (fs 1), cPg v (pw 2) (ns 2) (fs 2), cPg v (pw 3) (ns 3) (fs 3), cPg v (pw 4) (ns 4) (fs 4), cPg v (pw 5) (ns 5) (fs 5), cAs v (bw 0) (gs 0), cAs v (bw 1) (gs 1), cAs v (bw 2) (gs 2), cAs v (bw 3) (gs 3), cAs v (bw 4) (gs 4), cAs v (bw 5) (gs 5), cRu v d (a 0) stl, cJu v j (a 0) (b 0) (d 0) x y z jst, [((t 0), .inr (5, [.ref (t 1), .int (nI ln), .ref (al 0), .int (nI ((pAll tx ln 12 0 []).2.1)), .int ra1a, .int ra1b, .int ra1c, .int ra1d, .int ra1e]))], cCh v t fc, cPg v al ((pAll tx ln 12 0 []).2.2.length) ra1f]) [1, 2, 3, 4, 5, 6, 7, 8, 9, 10, 11, 12, 13, 14, 15, 16, 17, 18, 19, 20, 0] rfl rfl ?_
    refine g_aload_n X dX6_load_22 0 rfl rfl ?_
    refine g_getN X cb3 0 0 rfl dX6_load_23 20 0 rfl rfl (by decide) rfl rfl ?_
    have hh9 : hg3 ≤ ((pAll tx ln 12 0 []).2.2.length : Int) := (hg33 _ (by omega)).mpr hok.2
    have hd9 : zI hg3 ≤ nI ((pAll tx ln 12 0 []).2.2.length) := by rw [zI_nI, zI_le (by omega) (by omega) (by omega) (by omega)]; exact hh9
    refine g_icmp_le (tgt := 39) X dX6_load_26 (by decide) (fun c26 => ?_) (fun c26 => ?_)
    · refine g_aload_n X dX6_load_39 1 rfl rfl ?_
      refine g_callV (As := []) (rest := []) (wr := [cRu v d (a 0) stl, cJu v j (a 0) (b 0) (d 0) x y z jst, [((t 0), .inr (5, [.ref (t 1), .int (nI ln), .ref (al 0), .int (nI ((pAll tx ln 12 0 []).2.1)), .int ra1a, .int ra1b, .int ra1c, .int ra1d, .int ra1e]))], cCh v t fc, cPg v al ((pAll tx ln 12 0 []).2.2.length) ra1f]) X (c_X6_saveState l v cj a b d j h t n f P g lo hi pw bw o c ns fs gs H hW hR hL hG hH) f_X6_saveState q_12_21 dX6_load_40 [0, 1, 2, 3, 4, 5, 6, 7, 8, 9, 10, 11, 12, 13, 14, 15] [16, 17, 18, 19, 20] rfl rfl (by decide) 0 rfl rfl rfl rfl (Nat.le_of_ble_eq_true rfl) (by decide) (fun r_ w_ hp6 => ?_)
      obtain ⟨ss5o, ss5n, ss5f, ss5g, ss5H, rfl⟩ := hp6
      show GG k _ _ [cCJ v cj (a 0) (b 0) (d 0) (j 0) (h 0) (t 0), cPg v a n f, cAs v b g, cHi9 v h pw bw ss5o (hC9 c), cPg v (pw 0) (ss5n 0) (ss5f 0), cPg v (pw 1) (ss5n 1) (ss5f 1), cPg v (pw 2) (ss5n 2) (ss5f 2), cPg v (pw 3) (ss5n 3) (ss5f 3), cPg v (pw 4) (ss5n 4) (ss5f 4), cPg v (pw 5) (ss5n 5) (ss5f 5), cAs v (bw 0) (ss5g 0), cAs v (bw 1) (ss5g 1), cAs v (bw 2) (ss5g 2), cAs v (bw 3) (ss5g 3), cAs v (bw 4) (ss5g 4), cAs v (bw 5) (ss5g 5), cRu v d (a 0) stl, cJu v j (a 0) (b 0) (d 0) x y z jst, [((t 0), .inr (5, [.ref (t 1), .int (nI ln), .ref (al 0), .int (nI ((pAll tx ln 12 0 []).2.1)), .int ra1a, .int ra1b, .int ra1c, .int ra1d, .int ra1e]))], cCh v t fc, cPg v al ((pAll tx ln 12 0 []).2.2.length) ra1f] _ _ []
      refine g_aload_n X dX6_load_43 1 rfl rfl ?_
      refine g_get X cb6 0 q_1_13 dX6_load_44 0 0 rfl rfl (by decide) rfl rfl ?_
      refine g_aload_n X dX6_load_47 0 rfl rfl ?_
      refine g_callV (As := [.ref (al 0)]) (rest := []) (wr := [cCJ v cj (a 0) (b 0) (d 0) (j 0) (h 0) (t 0), cAs v b g, cHi9 v h pw bw ss5o (hC9 c), cPg v (pw 0) (ss5n 0) (ss5f 0), cPg v (pw 1) (ss5n 1) (ss5f 1), cPg v (pw 2) (ss5n 2) (ss5f 2), cPg v (pw 3) (ss5n 3) (ss5f 3), cPg v (pw 4) (ss5n 4) (ss5f 4), cPg v (pw 5) (ss5n 5) (ss5f 5), cAs v (bw 0) (ss5g 0), cAs v (bw 1) (ss5g 1), cAs v (bw 2) (ss5g 2), cAs v (bw 3) (ss5g 3), cAs v (bw 4) (ss5g 4), cAs v (bw 5) (ss5g 5), cRu v d (a 0) stl, cJu v j (a 0) (b 0) (d 0) x y z jst, [((t 0), .inr (5, [.ref (t 1), .int (nI ln), .ref (al 0), .int (nI ((pAll tx ln 12 0 []).2.1)), .int ra1a, .int ra1b, .int ra1c, .int ra1d, .int ra1e]))], cCh v t fc]) X (c_X3_copyFrom l v a n f al ((pAll tx ln 12 0 []).2.2.length) ra1f (by omega)) f_X3_copyFrom q_14_1 dX6_load_48 [1, 20] [0, 2, 3, 4, 5, 6, 7, 8, 9, 10, 11, 12, 13, 14, 15, 16, 17, 18, 19] rfl rfl (by decide) 0 rfl rfl rfl rfl (Nat.le_of_ble_eq_true rfl) (by decide) (fun r_ w_ hp8 => ?_)
      obtain ⟨f_7, f_72, rfl⟩ := hp8
      show GG k _ _ [cPg v a ((pAll tx ln 12 0 []).2.2.length) f_7, cPg v al ((pAll tx ln 12 0 []).2.2.length) ra1f, cCJ v cj (a 0) (b 0) (d 0) (j 0) (h 0) (t 0), cAs v b g, cHi9 v h pw bw ss5o (hC9 c), cPg v (pw 0) (ss5n 0) (ss5f 0), cPg v (pw 1) (ss5n 1) (ss5f 1), cPg v (pw 2) (ss5n 2) (ss5f 2), cPg v (pw 3) (ss5n 3) (ss5f 3), cPg v (pw 4) (ss5n 4) (ss5f 4), cPg v (pw 5) (ss5n 5) (ss5f 5), cAs v (bw 0) (ss5g 0), cAs v (bw 1) (ss5g 1), cAs v (bw 2) (ss5g 2), cAs v (bw 3) (ss5g 3), cAs v (bw 4) (ss5g 4), cAs v (bw 5) (ss5g 5), cRu v d (a 0) stl, cJu v j (a 0) (b 0) (d 0) x y z jst, [((t 0), .inr (5, [.ref (t 1), .int (nI ln), .ref (al 0), .int (nI ((pAll tx ln 12 0 []).2.1)), .int ra1a, .int ra1b, .int ra1c, .int ra1d, .int ra1e]))], cCh v t fc] _ _ []
      refine g_pick (cs' := [cCJ v cj (a 0) (b 0) (d 0) (j 0) (h 0) (t 0), cPg v a ((pAll tx ln 12 0 []).2.2.length) f_7, cAs v b g, cHi9 v h pw bw ss5o (hC9 c), cPg v (pw 0) (ss5n 0) (ss5f 0), cPg v (pw 1) (ss5n 1) (ss5f 1), cPg v (pw 2) (ss5n 2) (ss5f 2), cPg v (pw 3) (ss5n 3) (ss5f 3), cPg v (pw 4) (ss5n 4) (ss5f 4), cPg v (pw 5) (ss5n 5) (ss5f 5), cAs v (bw 0) (ss5g 0), cAs v (bw 1) (ss5g 1), cAs v (bw 2) (ss5g 2), cAs v (bw 3) (ss5g 3), cAs v (bw 4) (ss5g 4), cAs v (bw 5) (ss5g 5), cRu v d (a 0) stl, cJu v j (a 0) (b 0) (d 0) x y z jst, [((t 0), .inr (5, [.ref (t 1), .int (nI ln), .ref (al 0), .int (nI ((pAll tx ln 12 0 []).2.1)), .int ra1a, .int ra1b, .int ra1c, .int ra1d, .int ra1e]))], cCh v t fc, cPg v al ((pAll tx ln 12 0 []).2.2.length) ra1f]) [2, 0, 3, 4, 5, 6, 7, 8, 9, 10, 11, 12, 13, 14, 15, 16, 17, 18, 19, 20, 1] rfl rfl ?_
      refine g_aload_n X dX6_load_51 1 rfl rfl ?_
      refine g_get X cb6 5 q_2_9 dX6_load_52 0 0 rfl rfl (by decide) rfl rfl ?_
      refine g_callV (As := []) (rest := []) (wr := [cCJ v cj (a 0) (b 0) (d 0) (j 0) (h 0) (t 0), cPg v a ((pAll tx ln 12 0 []).2.2.length) f_7, cAs v b g, cHi9 v h pw bw ss5o (hC9 c), cPg v (pw 0) (ss5n 0) (ss5f 0), cPg v (pw 1) (ss5n 1) (ss5f 1), cPg v (pw 2) (ss5n 2) (ss5f 2), cPg v (pw 3) (ss5n 3) (ss5f 3), cPg v (pw 4) (ss5n 4) (ss5f 4), cPg v (pw 5) (ss5n 5) (ss5f 5), cAs v (bw 0) (ss5g 0), cAs v (bw 1) (ss5g 1), cAs v (bw 2) (ss5g 2), cAs v (bw 3) (ss5g 3), cAs v (bw 4) (ss5g 4), cAs v (bw 5) (ss5g 5), cRu v d (a 0) stl, cJu v j (a 0) (b 0) (d 0) x y z jst, cCh v t fc, cPg v al ((pAll tx ln 12 0 []).2.2.length) ra1f]) X (c_X5_clear l v t (al 0) ln ((pAll tx ln 12 0 []).2.1) ra1a ra1b ra1c ra1d ra1e) f_X5_clear q_14_2 dX6_load_55 [18] [0, 1, 2, 3, 4, 5, 6, 7, 8, 9, 10, 11, 12, 13, 14, 15, 16, 17, 19, 20] rfl rfl (by decide) 0 rfl rfl rfl rfl (Nat.le_of_ble_eq_true rfl) (by decide) (fun r_ w_ hp9 => ?_)
      subst hp9
      show GG k _ _ [[((t 0), .inr (5, [.ref (t 1), .int (nI 0), .ref (al 0), .int (nI ((pAll tx ln 12 0 []).2.1)), .int ra1a, .int ra1b, .int ra1c, .int ra1d, .int ra1e]))], cCJ v cj (a 0) (b 0) (d 0) (j 0) (h 0) (t 0), cPg v a ((pAll tx ln 12 0 []).2.2.length) f_7, cAs v b g, cHi9 v h pw bw ss5o (hC9 c), cPg v (pw 0) (ss5n 0) (ss5f 0), cPg v (pw 1) (ss5n 1) (ss5f 1), cPg v (pw 2) (ss5n 2) (ss5f 2), cPg v (pw 3) (ss5n 3) (ss5f 3), cPg v (pw 4) (ss5n 4) (ss5f 4), cPg v (pw 5) (ss5n 5) (ss5f 5), cAs v (bw 0) (ss5g 0), cAs v (bw 1) (ss5g 1), cAs v (bw 2) (ss5g 2), cAs v (bw 3) (ss5g 3), cAs v (bw 4) (ss5g 4), cAs v (bw 5) (ss5g 5), cRu v d (a 0) stl, cJu v j (a 0) (b 0) (d 0) x y z jst, cCh v t fc, cPg v al ((pAll tx ln 12 0 []).2.2.length) ra1f] _ _ []
      refine g_pick (cs' := [cCJ v cj (a 0) (b 0) (d 0) (j 0) (h 0) (t 0), cPg v a ((pAll tx ln 12 0 []).2.2.length) f_7, cAs v b g, cHi9 v h pw bw ss5o (hC9 c), cPg v (pw 0) (ss5n 0) (ss5f 0), cPg v (pw 1) (ss5n 1) (ss5f 1), cPg v (pw 2) (ss5n 2) (ss5f 2), cPg v (pw 3) (ss5n 3) (ss5f 3), cPg v (pw 4) (ss5n 4) (ss5f 4), cPg v (pw 5) (ss5n 5) (ss5f 5), cAs v (bw 0) (ss5g 0), cAs v (bw 1) (ss5g 1), cAs v (bw 2) (ss5g 2), cAs v (bw 3) (ss5g 3), cAs v (bw 4) (ss5g 4), cAs v (bw 5) (ss5g 5), cRu v d (a 0) stl, cJu v j (a 0) (b 0) (d 0) x y z jst, [((t 0), .inr (5, [.ref (t 1), .int (nI 0), .ref (al 0), .int (nI ((pAll tx ln 12 0 []).2.1)), .int ra1a, .int ra1b, .int ra1c, .int ra1d, .int ra1e]))], cCh v t fc, cPg v al ((pAll tx ln 12 0 []).2.2.length) ra1f]) [1, 2, 3, 4, 5, 6, 7, 8, 9, 10, 11, 12, 13, 14, 15, 16, 17, 18, 0, 19, 20] rfl rfl ?_
      refine g_aload_n X dX6_load_58 1 rfl rfl ?_
      refine g_callV (As := []) (rest := []) (wr := [cPg v a ((pAll tx ln 12 0 []).2.2.length) f_7, cAs v b g, cHi9 v h pw bw ss5o (hC9 c), cPg v (pw 0) (ss5n 0) (ss5f 0), cPg v (pw 1) (ss5n 1) (ss5f 1), cPg v (pw 2) (ss5n 2) (ss5f 2), cPg v (pw 3) (ss5n 3) (ss5f 3), cPg v (pw 4) (ss5n 4) (ss5f 4), cPg v (pw 5) (ss5n 5) (ss5f 5), cAs v (bw 0) (ss5g 0), cAs v (bw 1) (ss5g 1), cAs v (bw 2) (ss5g 2), cAs v (bw 3) (ss5g 3), cAs v (bw 4) (ss5g 4), cAs v (bw 5) (ss5g 5), [((t 0), .inr (5, [.ref (t 1), .int (nI 0), .ref (al 0), .int (nI ((pAll tx ln 12 0 []).2.1)), .int ra1a, .int ra1b, .int ra1c, .int ra1d, .int ra1e]))], cCh v t fc, cPg v al ((pAll tx ln 12 0 []).2.2.length) ra1f]) X (c_X6_forgetProgram l v cj a b d j h t stl x y z jst) f_X6_forgetProgram q_14_6 dX6_load_59 [0, 16, 17] [1, 2, 3, 4, 5, 6, 7, 8, 9, 10, 11, 12, 13, 14, 15, 18, 19, 20] rfl rfl (by decide) 0 rfl rfl rfl rfl (Nat.le_of_ble_eq_true rfl) (by decide) (fun r_ w_ hp10 => ?_)
      subst hp10
      show GG k _ _ [cCJ v cj (a 0) (b 0) (d 0) (j 0) (h 0) (t 0), cRu v d (a 0) true, cJu v j (a 0) (b 0) (d 0) x y z true, cPg v a ((pAll tx ln 12 0 []).2.2.length) f_7, cAs v b g, cHi9 v h pw bw ss5o (hC9 c), cPg v (pw 0) (ss5n 0) (ss5f 0), cPg v (pw 1) (ss5n 1) (ss5f 1), cPg v (pw 2) (ss5n 2) (ss5f 2), cPg v (pw 3) (ss5n 3) (ss5f 3), cPg v (pw 4) (ss5n 4) (ss5f 4), cPg v (pw 5) (ss5n 5) (ss5f 5), cAs v (bw 0) (ss5g 0), cAs v (bw 1) (ss5g 1), cAs v (bw 2) (ss5g 2), cAs v (bw 3) (ss5g 3), cAs v (bw 4) (ss5g 4), cAs v (bw 5) (ss5g 5), [((t 0), .inr (5, [.ref (t 1), .int (nI 0), .ref (al 0), .int (nI ((pAll tx ln 12 0 []).2.1)), .int ra1a, .int ra1b, .int ra1c, .int ra1d, .int ra1e]))], cCh v t fc, cPg v al ((pAll tx ln 12 0 []).2.2.length) ra1f] _ _ []
      refine g_pick (cs' := [cCJ v cj (a 0) (b 0) (d 0) (j 0) (h 0) (t 0), cPg v a ((pAll tx ln 12 0 []).2.2.length) f_7, cAs v b g, cHi9 v h pw bw ss5o (hC9 c), cPg v (pw 0) (ss5n 0) (ss5f 0), cPg v (pw 1) (ss5n 1) (ss5f 1), cPg v (pw 2) (ss5n 2) (ss5f 2), cPg v (pw 3) (ss5n 3) (ss5f 3), cPg v (pw 4) (ss5n 4) (ss5f 4), cPg v (pw 5) (ss5n 5) (ss5f 5), cAs v (bw 0) (ss5g 0), cAs v (bw 1) (ss5g 1), cAs v (bw 2) (ss5g 2), cAs v (bw 3) (ss5g 3), cAs v (bw 4) (ss5g 4), cAs v (bw 5) (ss5g 5), cRu v d (a 0) true, cJu v j (a 0) (b 0) (d 0) x y z true, [((t 0), .inr (5, [.ref (t 1), .int (nI 0), .ref (al 0), .int (nI ((pAll tx ln 12 0 []).2.1)), .int ra1a, .int ra1b, .int ra1c, .int ra1d, .int ra1e]))], cCh v t fc, cPg v al ((pAll tx ln 12 0 []).2.2.length) ra1f]) [0, 3, 4, 5, 6, 7, 8, 9, 10, 11, 12, 13, 14, 15, 16, 17, 1, 2, 18, 19, 20] rfl rfl ?_
      refine g_aload_n X dX6_load_62 1 rfl rfl ?_
      refine g_get X cb6 0 q_1_13 dX6_load_63 0 0 rfl rfl (by decide) rfl rfl ?_
      refine g_getN X cb3 0 0 rfl dX6_load_66 1 0 rfl rfl (by decide) rfl rfl ?_
      exact E dX6_load_69 rfl (rfl) (by decide) (by decide) (⟨_, ss5o, _, _, _, _, _, _, _, _, _, rfl, PgR_copy ra1R f_72, ss5H, ra1R, rfl⟩)
    · exact absurd hd9 c26

set_option maxHeartbeats 4000000 in
set_option maxRecDepth 100000 in
theorem b_X6_load (l : Launch) (v : VV) (hst : l.stackTraces = false) (cj : Nat) (a : Nat → Nat) (b : Nat → Nat) (d : Nat → Nat) (j : Nat → Nat) (h : Nat → Nat) (t : Nat → Nat) (ln : Nat) (p : Nat) (x1 : Int32) (x2 : Int32) (x3 : Int32) (x4 : Int32) (x5 : Int32) (fc : Nat → Int32) (tx : Nat → Nat) (al : Nat → Nat) (nl : Nat) (fl : Nat → Nat → Int32) (hT : TxR tx ln fc) (hp : p ≤ 80) (hok : ¬ ldOK tx ln) : XI l v yX6_load cX6_load 2 (some .int) ({ frames := 8, cells := 1, slots := 6, locals := 173 }) [.ref cj] [cCJ v cj (a 0) (b 0) (d 0) (j 0) (h 0) (t 0), [((t 0), .inr (5, [.ref (t 1), .int (nI ln), .ref (al 0), .int (nI p), .int x1, .int x2, .int x3, .int x4, .int x5]))], cCh v t fc, cPg v al nl fl] (fun _ _ => False) (fun E w_ => E = "java/lang/IllegalArgumentException" ∧ ∃ y1 y2 y3 y4 y5 fl', PgR (lg9 (pAll tx ln 12 0 []).2.2) (pAll tx ln 12 0 []).2.2.length fl' ∧ w_ = [cCJ v cj (a 0) (b 0) (d 0) (j 0) (h 0) (t 0), [(t 0, .inr (5, [.ref (t 1), .int (nI ln), .ref (al 0), .int (nI ((pAll tx ln 12 0 []).2.1)), .int y1, .int y2, .int y3, .int y4, .int y5]))], cCh v t fc, cPg v al (pAll tx ln 12 0 []).2.2.length fl']) 1 6 := by
  refine mx_int hst rfl (by decide) (Nat.le_of_ble_eq_true rfl) [(0, .ref cj)] rfl (fun k X E xo xr xw => ?_)
  refine g_aload_n X dX6_load_0 0 rfl rfl ?_
  refine g_get X cb6 5 q_2_9 dX6_load_1 0 0 rfl rfl (by decide) rfl rfl ?_
  refine g_getN X cb5 2 11 rfl dX6_load_4 1 0 rfl rfl (by decide) rfl rfl ?_
  refine g_astore_n (lv' := [(1, .ref (al 0)), (0, .ref cj)]) X dX6_load_7 rfl (by decide) rfl ?_
  refine g_aload_n X dX6_load_8 1 rfl rfl ?_
  refine g_get X cb6 5 q_2_9 dX6_load_9 0 0 rfl rfl (by decide) rfl rfl ?_
  refine g_callV (As := []) (rest := []) (wr := [cCJ v cj (a 0) (b 0) (d 0) (j 0) (h 0) (t 0)]) X (c_X5_readAll l v t ln p x1 x2 x3 x4 x5 fc tx al nl fl hT (by omega)) f_X5_readAll q_6_8 dX6_load_12 [1, 2, 3] [0] rfl rfl (by decide) 0 rfl rfl rfl rfl (Nat.le_of_ble_eq_true rfl) (by decide) (fun r_ w_ hp2 => ?_)
  obtain ⟨ra1a, ra1b, ra1c, ra1d, ra1e, ra1f, rfl, ra1R, ra1W, rfl⟩ := hp2
  show GG k _ _ [[((t 0), .inr (5, [.ref (t 1), .int (nI ln), .ref (al 0), .int (nI ((pAll tx ln 12 0 []).2.1)), .int ra1a, .int ra1b, .int ra1c, .int ra1d, .int ra1e]))], cCh v t fc, cPg v al ((pAll tx ln 12 0 []).2.2.length) ra1f, cCJ v cj (a 0) (b 0) (d 0) (j 0) (h 0) (t 0)] _ _ [.int (bI ((pAll tx ln 12 0 []).1))]
  refine g_pick (cs' := [cCJ v cj (a 0) (b 0) (d 0) (j 0) (h 0) (t 0), [((t 0), .inr (5, [.ref (t 1), .int (nI ln), .ref (al 0), .int (nI ((pAll tx ln 12 0 []).2.1)), .int ra1a, .int ra1b, .int ra1c, .int ra1d, .int ra1e]))], cCh v t fc, cPg v al ((pAll tx ln 12 0 []).2.2.length) ra1f]) [3, 0, 1, 2] rfl rfl ?_
  have hlr := ra1W.1
  refine g_if_eqB (tgt := 29) X dX6_load_15 (by decide) (fun c15 => ?_) (fun c15 => ?_)
  · exact xr 3 (List.mem_of_getElem? (i := 1) rfl) q_5_10 q_5_11 rfl dX6_load_29 dX6_load_32 dX6_load_33 dX6_load_35 dX6_load_38 (by decide) (Nat.le_of_ble_eq_true rfl) (by decide) (by decide) (by decide) (by decide) (⟨rfl, _, _, _, _, _, _, ra1R, rfl⟩)
  · refine g_aload_n X dX6_load_18 0 rfl rfl ?_
    refine g_callV (As := []) (rest := []) (wr := [cCJ v cj (a 0) (b 0) (d 0) (j 0) (h 0) (t 0), [((t 0), .inr (5, [.ref (t 1), .int (nI ln), .ref (al 0), .int (nI ((pAll tx ln 12 0 []).2.1)), .int ra1a, .int ra1b, .int ra1c, .int ra1d, .int ra1e]))], cCh v t fc]) X (c_X3_highestTarget l v al ((pAll tx ln 12 0 []).2.2.length) ra1f (lg9 (pAll tx ln 12 0 []).2.2) 12 ra1W ra1R (by omega)) f_X3_highestTarget q_12_16 dX6_load_19 [3] [0, 1, 2] rfl rfl (by decide) 0 rfl rfl rfl rfl (Nat.le_of_ble_eq_true rfl) (by decide) (fun r_ w_ hp4 => ?_)
    obtain ⟨⟨hg3, rfl, hg31, hg32, hg33⟩, rfl⟩ := hp4
    show GG k _ _ [cPg v al ((pAll tx ln 12 0 []).2.2.length) ra1f, cCJ v cj (a 0) (b 0) (d 0) (j 0) (h 0) (t 0), [((t 0), .inr (5, [.ref (t 1), .int (nI ln), .ref (al 0), .int (nI ((pAll tx ln 12 0 []).2.1)), .int ra1a, .int ra1b, .int ra1c, .int ra1d, .int ra1e]))], cCh v t fc] _ _ [.int (zI hg3)]
    refine g_pick (cs' := [cCJ v cj (a 0) (b 0) (d 0) (j 0) (h 0) (t 0), [((t 0), .inr (5, [.ref (t 1), .int (nI ln), .ref (al 0), .int (nI ((pAll tx ln 12 0 []).2.1)), .int ra1a, .int ra1b, .int ra1c, .int ra1d, .int ra1e]))], cCh v t fc, cPg v al ((pAll tx ln 12 0 []).2.2.length) ra1f]) [1, 2, 3, 0] rfl rfl ?_
    refine g_aload_n X dX6_load_22 0 rfl rfl ?_
    refine g_getN X cb3 0 0 rfl dX6_load_23 3 0 rfl rfl (by decide) rfl rfl ?_
    refine g_icmp_le (tgt := 39) X dX6_load_26 (by decide) (fun c26 => ?_) (fun c26 => ?_)
    · exact absurd ⟨c15, (hg33 _ (by omega)).mp (by rw [zI_nI, zI_le (by omega) (by omega) (by omega) (by omega)] at c26; exact c26)⟩ hok
    · exact xr 3 (List.mem_of_getElem? (i := 1) rfl) q_5_10 q_5_11 rfl dX6_load_29 dX6_load_32 dX6_load_33 dX6_load_35 dX6_load_38 (by decide) (Nat.le_of_ble_eq_true rfl) (by decide) (by decide) (by decide) (by decide) (⟨rfl, _, _, _, _, _, _, ra1R, rfl⟩)


