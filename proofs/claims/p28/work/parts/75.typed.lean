/-! ## the law: what is typed -/
def pu9 (s : (Nat → Nat) × Nat) (c : Nat) : (Nat → Nat) × Nat := (hU9 s.1 s.2 c, s.2 + 1)
theorem pu9_2 (s : (Nat → Nat) × Nat) (c : Nat) : (pu9 s c).2 = s.2 + 1 := rfl
def t1c (x : Int32) : Nat := if low9 x 7 < 5 then 33 else 63
def t1 (x : Int32) (s : (Nat → Nat) × Nat) : (Nat → Nat) × Nat := if low9 x 7 < 3 then s else pu9 s (t1c x)
def t3c (x : Int32) : Nat := if low9 x 7 < 3 then 58 else if low9 (x >>> (nI 5 &&& 31)) 4 = 0 then 35 else if low9 (x >>> (nI 5 &&& 31)) 4 = 1 then 60 else if low9 (x >>> (nI 5 &&& 31)) 4 = 2 then 62 else 61
def t4c (x : Int32) : Nat := if low9 (x >>> (nI 9 &&& 31)) 11 < 3 then 120 + low9 (x >>> (nI 9 &&& 31)) 11 else 48 + low9 (x >>> (nI 9 &&& 31)) 11 - 3
def t4 (x : Int32) (s : (Nat → Nat) × Nat) : (Nat → Nat) × Nat := pu9 (pu9 (pu9 (t1 x s) (120 + low9 (x >>> (nI 3 &&& 31)) 3)) (t3c x)) (t4c x)
def t5c (x : Int32) : Nat := if 4 < low9 x 7 then 64 else if (x >>> (nI 14 &&& 31)) &&& nI 1 = 0 then 43 else 45
def t6m (x : Int32) (last : Nat) : Nat := if 4 < low9 x 7 then last else 8
/-- the statement's text that is typed -/
def tyT (x : Int32) (last : Nat) (s : (Nat → Nat) × Nat) : (Nat → Nat) × Nat := if low9 x 7 = 0 ∨ 4 < low9 x 7 then pu9 (pu9 (t4 x s) (t5c x)) (48 + low9 (x >>> (nI 15 &&& 31)) (t6m x last)) else t4 x s
theorem t1_le (x : Int32) (s : (Nat → Nat) × Nat) : s.2 ≤ (t1 x s).2 ∧ (t1 x s).2 ≤ s.2 + 1 := by unfold t1; split <;> simp [pu9_2]
theorem t1c_rng (x : Int32) : 33 ≤ t1c x ∧ t1c x < 127 := by unfold t1c; split <;> omega
theorem t3c_rng (x : Int32) : 33 ≤ t3c x ∧ t3c x < 127 := by
  unfold t3c
  repeat' split
  all_goals omega
theorem t4c_rng (x : Int32) : 33 ≤ t4c x ∧ t4c x < 127 := by
  have := low9_lt (x >>> (nI 9 &&& 31)) (m := 11) (by decide)
  unfold t4c; split <;> omega
theorem t5c_rng (x : Int32) : 33 ≤ t5c x ∧ t5c x < 127 := by
  unfold t5c
  repeat' split
  all_goals omega
theorem t6m_rng (x : Int32) {last : Nat} (h0 : 0 < last) (h1 : last ≤ 10) : 0 < t6m x last ∧ t6m x last ≤ 10 := by unfold t6m; split <;> omega
theorem tyT_le (x : Int32) (last : Nat) (s : (Nat → Nat) × Nat) : s.2 < (tyT x last s).2 ∧ (tyT x last s).2 ≤ s.2 + 6 := by
  have := t1_le x s
  unfold tyT
  split
  · simp only [pu9_2, t4]; omega
  · simp only [pu9_2, t4]; omega
set_option maxHeartbeats 4000000 in
set_option maxRecDepth 100000 in
theorem c_L_typed (l : Launch) (v : VV) (cj : Nat) (x : Int32) (last : Nat) (s : (Nat → Nat) × Nat) {P : Nat → S9} {n : Nat} {lo hi : Nat → Nat} {H : Nat → HE9} {c : Nat} {w9 : va_W} (hC : IC9 v cj P n lo hi H c s.1 s.2 w9) (hW : WF P n) (hL : AsW lo hi) (hb : s.2 + 6 ≤ 60) (h0 : 0 < last) (h1 : last ≤ 10) : MI l v yL_typed cL_typed 7 (some .int) ({ frames := 3, cells := 0, slots := 0, locals := 60 }) [.ref cj, .int x, .int (nI last)] [w9] (fun r w_ => r = nI (tyT x last s).2 ∧ ∃ w1, IC9 v cj P n lo hi H c (tyT x last s).1 (tyT x last s).2 w1 ∧ w_ = [w1]) 0 0 := by
  refine mm_int (by decide) (Nat.le_of_ble_eq_true rfl) [(0, .ref cj), (1, .int x), (2, .int (nI last))] rfl (fun k X E => ?_)
  obtain ⟨fs9, hq⟩ := IC9_hd hC
  have ht6 := t6m_rng x h0 h1
  refine g_iload_n X dL_typed_0 1 rfl rfl ?_
  refine g_bipush (x := nI 7) X dL_typed_1 (by decide +kernel) ?_
  refine g_callS (As := [.int x, .int (nI 7)]) (rest := []) (wr := [w9]) X (c_L_low l v x 7 (by omega) (by omega)) f_L_low q_4_22 dL_typed_3 [] [0] rfl rfl (by decide) rfl rfl (Nat.le_of_ble_eq_true rfl) (by decide) (fun r_ w_ hp1 => ?_)
  obtain ⟨rfl, rfl⟩ := hp1
  have hl3 := low9_lt x (m := 7) (by omega)
  show GG k _ _ [w9] _ _ [.int (nI (low9 x 7))]
  refine g_istore_n (lv' := [(3, .int (nI (low9 x 7))), (0, .ref cj), (1, .int x), (2, .int (nI last))]) X dL_typed_6 rfl (by decide) rfl ?_
  refine g_iload_n X dL_typed_7 2 rfl rfl ?_
  refine g_bipush (x := nI 9) X dL_typed_8 (by decide +kernel) ?_
  refine g_ishr X dL_typed_10 ?_
  refine g_bipush (x := nI 11) X dL_typed_11 (by decide +kernel) ?_
  refine g_callS (As := [.int (x >>> ((nI 9) &&& 31)), .int (nI 11)]) (rest := []) (wr := [w9]) X (c_L_low l v (x >>> ((nI 9) &&& 31)) 11 (by omega) (by omega)) f_L_low q_4_22 dL_typed_13 [] [0] rfl rfl (by decide) rfl rfl (Nat.le_of_ble_eq_true rfl) (by decide) (fun r_ w_ hp2 => ?_)
  obtain ⟨rfl, rfl⟩ := hp2
  have hl13 := low9_lt (x >>> ((nI 9) &&& 31)) (m := 11) (by omega)
  show GG k _ _ [w9] _ _ [.int (nI (low9 (x >>> ((nI 9) &&& 31)) 11))]
  refine g_istore (lv' := [(4, .int (nI (low9 (x >>> ((nI 9) &&& 31)) 11))), (3, .int (nI (low9 x 7))), (0, .ref cj), (1, .int x), (2, .int (nI last))]) X dL_typed_16 (by decide) rfl ?_
  refine g_iload_n X dL_typed_18 3 rfl rfl ?_
  refine g_iconst (x := nI 5) X dL_typed_19 (by decide +kernel) ?_
  refine g_ishr X dL_typed_20 ?_
  refine g_iconst (x := nI 4) X dL_typed_21 (by decide +kernel) ?_
  refine g_callS (As := [.int (x >>> ((nI 5) &&& 31)), .int (nI 4)]) (rest := []) (wr := [w9]) X (c_L_low l v (x >>> ((nI 5) &&& 31)) 4 (by omega) (by omega)) f_L_low q_4_22 dL_typed_22 [] [0] rfl rfl (by decide) rfl rfl (Nat.le_of_ble_eq_true rfl) (by decide) (fun r_ w_ hp3 => ?_)
  obtain ⟨rfl, rfl⟩ := hp3
  have hl22 := low9_lt (x >>> ((nI 5) &&& 31)) (m := 4) (by omega)
  show GG k _ _ [w9] _ _ [.int (nI (low9 (x >>> ((nI 5) &&& 31)) 4))]
  refine g_istore (lv' := [(5, .int (nI (low9 (x >>> ((nI 5) &&& 31)) 4))), (4, .int (nI (low9 (x >>> ((nI 9) &&& 31)) 11))), (3, .int (nI (low9 x 7))), (0, .ref cj), (1, .int x), (2, .int (nI last))]) X dL_typed_25 (by decide) rfl ?_
  have j54 : ∀ (w1 : va_W) (fs1 : List Value) (hC1 : IC9 v cj P n lo hi H c (t1 x s).1 (t1 x s).2 w1) (hq1 : ([w1] : List va_W).flatten[0]? = some (cj, .inr (6, fs1))), GG k 0 0 [w1] [(5, .int (nI (low9 (x >>> ((nI 5) &&& 31)) 4))), (4, .int (nI (low9 (x >>> ((nI 9) &&& 31)) 11))), (3, .int (nI (low9 x 7))), (0, .ref cj), (1, .int x), (2, .int (nI last))] 54 [] := by
    intro w1 fs1 hC1 hq1
    refine g_aload_n X dL_typed_54 3 rfl rfl ?_
    refine g_bipush (x := nI 120) X dL_typed_55 (by decide +kernel) ?_
    refine g_iload_n X dL_typed_57 4 rfl rfl ?_
    refine g_iconst (x := nI 3) X dL_typed_58 (by decide +kernel) ?_
    refine g_ishr X dL_typed_59 ?_
    refine g_iconst (x := nI 3) X dL_typed_60 (by decide +kernel) ?_
    refine g_callS (As := [.int (x >>> ((nI 3) &&& 31)), .int (nI 3)]) (rest := [.int (nI 120), .ref cj]) (wr := [w1]) X (c_L_low l v (x >>> ((nI 3) &&& 31)) 3 (by omega) (by omega)) f_L_low q_4_22 dL_typed_61 [] [0] rfl rfl (by decide) rfl rfl (Nat.le_of_ble_eq_true rfl) (by decide) (fun r_ w_ hp4 => ?_)
    obtain ⟨rfl, rfl⟩ := hp4
    have hl61 := low9_lt (x >>> ((nI 3) &&& 31)) (m := 3) (by omega)
    show GG k _ _ [w1] _ _ [.int (nI (low9 (x >>> ((nI 3) &&& 31)) 3)), .int (nI 120), .ref cj]
    refine g_iaddN X dL_typed_64 ?_
    refine g_callV (As := [.int (nI (120 + (low9 (x >>> ((nI 3) &&& 31)) 3)))]) (rest := []) (wr := []) X (Cc_X6_append l v cj hC1 hW hL (120 + (low9 (x >>> ((nI 3) &&& 31)) 3)) (by have := t1_le x s; (try simp only [pu9_2]); omega) (by omega) (by omega)) f_X6_append q_5_6 dL_typed_65 [0] [] rfl rfl (by decide) 0 hq1 rfl rfl rfl (Nat.le_of_ble_eq_true rfl) (by decide) (fun r_ w_ hp6 => ?_)
    obtain ⟨rfl, wk5, hCk5, rfl⟩ := hp6
    obtain ⟨fsk5, hqk5⟩ := IC9_hd hCk5
    show GG k _ _ [wk5] _ _ [.int (nI (((t1 x s).2) + 1))]
    refine g_istore (lv' := [(6, .int (nI (((t1 x s).2) + 1))), (5, .int (nI (low9 (x >>> ((nI 5) &&& 31)) 4))), (4, .int (nI (low9 (x >>> ((nI 9) &&& 31)) 11))), (3, .int (nI (low9 x 7))), (0, .ref cj), (1, .int x), (2, .int (nI last))]) X dL_typed_68 (by decide) rfl ?_
    refine g_aload_n X dL_typed_70 4 rfl rfl ?_
    have j115 : GG k 0 0 [wk5] [(6, .int (nI (((t1 x s).2) + 1))), (5, .int (nI (low9 (x >>> ((nI 5) &&& 31)) 4))), (4, .int (nI (low9 (x >>> ((nI 9) &&& 31)) 11))), (3, .int (nI (low9 x 7))), (0, .ref cj), (1, .int x), (2, .int (nI last))] 115 [.int (nI (t3c x)), .ref cj] := by
      refine g_callV (As := [.int (nI (t3c x))]) (rest := []) (wr := []) X (Cc_X6_append l v cj hCk5 hW hL (t3c x) (by have := t1_le x s; (try simp only [pu9_2]); omega) ((t3c_rng x).1) ((t3c_rng x).2)) f_X6_append q_5_6 dL_typed_115 [0] [] rfl rfl (by decide) 0 hqk5 rfl rfl rfl (Nat.le_of_ble_eq_true rfl) (by decide) (fun r_ w_ hp8 => ?_)
      obtain ⟨rfl, wk7, hCk7, rfl⟩ := hp8
      obtain ⟨fsk7, hqk7⟩ := IC9_hd hCk7
      show GG k _ _ [wk7] _ _ [.int (nI (((pu9 (t1 x s) (120 + (low9 (x >>> ((nI 3) &&& 31)) 3))).2) + 1))]
      refine g_istore (lv' := [(6, .int (nI (((pu9 (t1 x s) (120 + (low9 (x >>> ((nI 3) &&& 31)) 3))).2) + 1))), (5, .int (nI (low9 (x >>> ((nI 5) &&& 31)) 4))), (4, .int (nI (low9 (x >>> ((nI 9) &&& 31)) 11))), (3, .int (nI (low9 x 7))), (0, .ref cj), (1, .int x), (2, .int (nI last))]) X dL_typed_118 (by decide) rfl ?_
      refine g_aload_n X dL_typed_120 4 rfl rfl ?_
      have j142 : GG k 0 0 [wk7] [(6, .int (nI (((pu9 (t1 x s) (120 + (low9 (x >>> ((nI 3) &&& 31)) 3))).2) + 1))), (5, .int (nI (low9 (x >>> ((nI 5) &&& 31)) 4))), (4, .int (nI (low9 (x >>> ((nI 9) &&& 31)) 11))), (3, .int (nI (low9 x 7))), (0, .ref cj), (1, .int x), (2, .int (nI last))] 142 [.int (nI (t4c x)), .ref cj] := by
        refine g_callV (As := [.int (nI (t4c x))]) (rest := []) (wr := []) X (Cc_X6_append l v cj hCk7 hW hL (t4c x) (by have := t1_le x s; (try simp only [pu9_2]); omega) ((t4c_rng x).1) ((t4c_rng x).2)) f_X6_append q_5_6 dL_typed_142 [0] [] rfl rfl (by decide) 0 hqk7 rfl rfl rfl (Nat.le_of_ble_eq_true rfl) (by decide) (fun r_ w_ hp10 => ?_)
        obtain ⟨rfl, wk9, hCk9, rfl⟩ := hp10
        obtain ⟨fsk9, hqk9⟩ := IC9_hd hCk9
        show GG k _ _ [wk9] _ _ [.int (nI (((pu9 (pu9 (t1 x s) (120 + (low9 (x >>> ((nI 3) &&& 31)) 3))) (t3c x)).2) + 1))]
        refine g_istore (lv' := [(6, .int (nI (((pu9 (pu9 (t1 x s) (120 + (low9 (x >>> ((nI 3) &&& 31)) 3))) (t3c x)).2) + 1))), (5, .int (nI (low9 (x >>> ((nI 5) &&& 31)) 4))), (4, .int (nI (low9 (x >>> ((nI 9) &&& 31)) 11))), (3, .int (nI (low9 x 7))), (0, .ref cj), (1, .int x), (2, .int (nI last))]) X dL_typed_145 (by decide) rfl ?_
        have j156 : ∀ (hk : low9 x 7 = 0 ∨ 4 < low9 x 7), GG k 0 0 [wk9] [(6, .int (nI (((pu9 (pu9 (t1 x s) (120 + (low9 (x >>> ((nI 3) &&& 31)) 3))) (t3c x)).2) + 1))), (5, .int (nI (low9 (x >>> ((nI 5) &&& 31)) 4))), (4, .int (nI (low9 (x >>> ((nI 9) &&& 31)) 11))), (3, .int (nI (low9 x 7))), (0, .ref cj), (1, .int x), (2, .int (nI last))] 156 [] := by
          intro hk
          refine g_aload_n X dL_typed_156 4 rfl rfl ?_
          have j183 : GG k 0 0 [wk9] [(6, .int (nI (((pu9 (pu9 (t1 x s) (120 + (low9 (x >>> ((nI 3) &&& 31)) 3))) (t3c x)).2) + 1))), (5, .int (nI (low9 (x >>> ((nI 5) &&& 31)) 4))), (4, .int (nI (low9 (x >>> ((nI 9) &&& 31)) 11))), (3, .int (nI (low9 x 7))), (0, .ref cj), (1, .int x), (2, .int (nI last))] 183 [.int (nI (t5c x)), .ref cj] := by
            refine g_callV (As := [.int (nI (t5c x))]) (rest := []) (wr := []) X (Cc_X6_append l v cj hCk9 hW hL (t5c x) (by have := t1_le x s; (try simp only [pu9_2]); omega) ((t5c_rng x).1) ((t5c_rng x).2)) f_X6_append q_5_6 dL_typed_183 [0] [] rfl rfl (by decide) 0 hqk9 rfl rfl rfl (Nat.le_of_ble_eq_true rfl) (by decide) (fun r_ w_ hp12 => ?_)
            obtain ⟨rfl, wk11, hCk11, rfl⟩ := hp12
            obtain ⟨fsk11, hqk11⟩ := IC9_hd hCk11
            show GG k _ _ [wk11] _ _ [.int (nI (((pu9 (pu9 (pu9 (t1 x s) (120 + (low9 (x >>> ((nI 3) &&& 31)) 3))) (t3c x)) (t4c x)).2) + 1))]
            refine g_istore (lv' := [(6, .int (nI (((pu9 (pu9 (pu9 (t1 x s) (120 + (low9 (x >>> ((nI 3) &&& 31)) 3))) (t3c x)) (t4c x)).2) + 1))), (5, .int (nI (low9 (x >>> ((nI 5) &&& 31)) 4))), (4, .int (nI (low9 (x >>> ((nI 9) &&& 31)) 11))), (3, .int (nI (low9 x 7))), (0, .ref cj), (1, .int x), (2, .int (nI last))]) X dL_typed_186 (by decide) rfl ?_
            refine g_aload_n X dL_typed_188 4 rfl rfl ?_
            refine g_bipush (x := nI 48) X dL_typed_189 (by decide +kernel) ?_
            refine g_iload_n X dL_typed_191 5 rfl rfl ?_
            refine g_bipush (x := nI 15) X dL_typed_192 (by decide +kernel) ?_
            refine g_ishr X dL_typed_194 ?_
            have j206 : GG k 0 0 [wk11] [(6, .int (nI (((pu9 (pu9 (pu9 (t1 x s) (120 + (low9 (x >>> ((nI 3) &&& 31)) 3))) (t3c x)) (t4c x)).2) + 1))), (5, .int (nI (low9 (x >>> ((nI 5) &&& 31)) 4))), (4, .int (nI (low9 (x >>> ((nI 9) &&& 31)) 11))), (3, .int (nI (low9 x 7))), (0, .ref cj), (1, .int x), (2, .int (nI last))] 206 [.int (nI (t6m x last)), .int (x >>> ((nI 15) &&& 31)), .int (nI 48), .ref cj] := by
              refine g_callS (As := [.int (x >>> ((nI 15) &&& 31)), .int (nI (t6m x last))]) (rest := [.int (nI 48), .ref cj]) (wr := [wk11]) X (c_L_low l v (x >>> ((nI 15) &&& 31)) (t6m x last) (by omega) (by omega)) f_L_low q_4_22 dL_typed_206 [] [0] rfl rfl (by decide) rfl rfl (Nat.le_of_ble_eq_true rfl) (by decide) (fun r_ w_ hp13 => ?_)
              obtain ⟨rfl, rfl⟩ := hp13
              have hl206 := low9_lt (x >>> ((nI 15) &&& 31)) (m := (t6m x last)) (by omega)
              show GG k _ _ [wk11] _ _ [.int (nI (low9 (x >>> ((nI 15) &&& 31)) (t6m x last))), .int (nI 48), .ref cj]
              refine g_iaddN X dL_typed_209 ?_
              refine g_callV (As := [.int (nI (48 + (low9 (x >>> ((nI 15) &&& 31)) (t6m x last))))]) (rest := []) (wr := []) X (Cc_X6_append l v cj hCk11 hW hL (48 + (low9 (x >>> ((nI 15) &&& 31)) (t6m x last))) (by have := t1_le x s; (try simp only [pu9_2]); omega) (by omega) (by omega)) f_X6_append q_5_6 dL_typed_210 [0] [] rfl rfl (by decide) 0 hqk11 rfl rfl rfl (Nat.le_of_ble_eq_true rfl) (by decide) (fun r_ w_ hp15 => ?_)
              obtain ⟨rfl, wk14, hCk14, rfl⟩ := hp15
              obtain ⟨fsk14, hqk14⟩ := IC9_hd hCk14
              show GG k _ _ [wk14] _ _ [.int (nI (((pu9 (pu9 (pu9 (pu9 (t1 x s) (120 + (low9 (x >>> ((nI 3) &&& 31)) 3))) (t3c x)) (t4c x)) (t5c x)).2) + 1))]
              refine g_istore (lv' := [(6, .int (nI (((pu9 (pu9 (pu9 (pu9 (t1 x s) (120 + (low9 (x >>> ((nI 3) &&& 31)) 3))) (t3c x)) (t4c x)) (t5c x)).2) + 1))), (5, .int (nI (low9 (x >>> ((nI 5) &&& 31)) 4))), (4, .int (nI (low9 (x >>> ((nI 9) &&& 31)) 11))), (3, .int (nI (low9 x 7))), (0, .ref cj), (1, .int x), (2, .int (nI last))]) X dL_typed_213 (by decide) rfl ?_
              refine g_iload X dL_typed_215 0 rfl ?_
              exact E dL_typed_217 rfl (rfl) (by decide) (by decide) (⟨by rw [show tyT x last s = _ from if_pos hk]; rfl, wk14, by rw [show tyT x last s = _ from if_pos hk]; exact hCk14, rfl⟩)
            refine g_iload_n X dL_typed_195 3 rfl rfl ?_
            refine g_iconst (x := nI 4) X dL_typed_196 (by decide +kernel) ?_
            refine g_icmp_leN (tgt := 204) X dL_typed_197 (by decide) (by omega) (by omega) (fun c197 => ?_) (fun c197 => ?_)
            · refine g_bipush (x := nI 8) X dL_typed_204 (by decide +kernel) ?_
              refine g_v (y := nI (t6m x last)) (by unfold t6m; repeat (first | rw [if_pos (by omega)] | rw [if_neg (by omega)])) ?_
              exact j206 
            · refine g_iload_n X dL_typed_200 6 rfl rfl ?_
              refine g_goto (tgt := 206) X dL_typed_201 (by decide) ?_
              refine g_v (y := nI (t6m x last)) (by unfold t6m; repeat (first | rw [if_pos (by omega)] | rw [if_neg (by omega)])) ?_
              exact j206 
          refine g_iload_n X dL_typed_157 3 rfl rfl ?_
          refine g_iconst (x := nI 4) X dL_typed_158 (by decide +kernel) ?_
          refine g_icmp_leN (tgt := 167) X dL_typed_159 (by decide) (by omega) (by omega) (fun c159 => ?_) (fun c159 => ?_)
          · refine g_iload_n X dL_typed_167 5 rfl rfl ?_
            refine g_bipush (x := nI 14) X dL_typed_168 (by decide +kernel) ?_
            refine g_ishr X dL_typed_170 ?_
            refine g_iconst (x := nI 1) X dL_typed_171 (by decide +kernel) ?_
            refine g_iand X dL_typed_172 ?_
            refine g_if_ne (tgt := 181) X dL_typed_173 (by decide) (fun c173 => ?_) (fun c173 => ?_)
            · refine g_bipush (x := nI 45) X dL_typed_181 (by decide +kernel) ?_
              refine g_v (y := nI (t5c x)) (by unfold t5c; rw [if_neg (by omega), if_neg c173]) ?_
              exact j183 
            · refine g_bipush (x := nI 43) X dL_typed_176 (by decide +kernel) ?_
              refine g_goto (tgt := 183) X dL_typed_178 (by decide) ?_
              refine g_v (y := nI (t5c x)) (by unfold t5c; rw [if_neg (by omega), if_pos c173]) ?_
              exact j183 
          · refine g_bipush (x := nI 64) X dL_typed_162 (by decide +kernel) ?_
            refine g_goto (tgt := 183) X dL_typed_164 (by decide) ?_
            refine g_v (y := nI (t5c x)) (by unfold t5c; rw [if_pos (by omega)]) ?_
            exact j183 
        refine g_iload_n X dL_typed_147 3 rfl rfl ?_
        refine g_if_eqN (tgt := 156) X dL_typed_148 (by decide) (by omega) (fun c148 => ?_) (fun c148 => ?_)
        · exact j156 (by omega)
        · refine g_iload_n X dL_typed_151 3 rfl rfl ?_
          refine g_iconst (x := nI 4) X dL_typed_152 (by decide +kernel) ?_
          refine g_icmp_leN (tgt := 215) X dL_typed_153 (by decide) (by omega) (by omega) (fun c153 => ?_) (fun c153 => ?_)
          · refine g_iload X dL_typed_215 0 rfl ?_
            exact E dL_typed_217 rfl (rfl) (by decide) (by decide) (⟨by rw [show tyT x last s = _ from if_neg (by omega)]; rfl, wk9, by rw [show tyT x last s = _ from if_neg (by omega)]; exact hCk9, rfl⟩)
          · exact j156 (by omega)
      refine g_iload X dL_typed_121 2 rfl ?_
      refine g_iconst (x := nI 3) X dL_typed_123 (by decide +kernel) ?_
      refine g_icmp_geN (tgt := 135) X dL_typed_124 (by decide) (by omega) (by omega) (fun c124 => ?_) (fun c124 => ?_)
      · refine g_bipush (x := nI 48) X dL_typed_135 (by decide +kernel) ?_
        refine g_iload X dL_typed_137 2 rfl ?_
        refine g_iaddN X dL_typed_139 ?_
        refine g_iconst (x := nI 3) X dL_typed_140 (by decide +kernel) ?_
        refine g_isubN X dL_typed_141 (by omega) ?_
        refine g_v (y := nI (t4c x)) (by unfold t4c; repeat (first | rw [if_pos (by omega)] | rw [if_neg (by omega)])) ?_
        exact j142 
      · refine g_bipush (x := nI 120) X dL_typed_127 (by decide +kernel) ?_
        refine g_iload X dL_typed_129 2 rfl ?_
        refine g_iaddN X dL_typed_131 ?_
        refine g_goto (tgt := 142) X dL_typed_132 (by decide) ?_
        refine g_v (y := nI (t4c x)) (by unfold t4c; repeat (first | rw [if_pos (by omega)] | rw [if_neg (by omega)])) ?_
        exact j142 
    refine g_iload_n X dL_typed_71 3 rfl rfl ?_
    refine g_iconst (x := nI 3) X dL_typed_72 (by decide +kernel) ?_
    refine g_icmp_geN (tgt := 81) X dL_typed_73 (by decide) (by omega) (by omega) (fun c73 => ?_) (fun c73 => ?_)
    · refine g_iload X dL_typed_81 1 rfl ?_
      refine g_if_neN (tgt := 91) X dL_typed_83 (by decide) (by omega) (fun c83 => ?_) (fun c83 => ?_)
      · refine g_iload X dL_typed_91 1 rfl ?_
        refine g_iconst (x := nI 1) X dL_typed_93 (by decide +kernel) ?_
        refine g_icmp_neN (tgt := 102) X dL_typed_94 (by decide) (by omega) (by omega) (fun c94 => ?_) (fun c94 => ?_)
        · refine g_iload X dL_typed_102 1 rfl ?_
          refine g_iconst (x := nI 2) X dL_typed_104 (by decide +kernel) ?_
          refine g_icmp_neN (tgt := 113) X dL_typed_105 (by decide) (by omega) (by omega) (fun c105 => ?_) (fun c105 => ?_)
          · refine g_bipush (x := nI 61) X dL_typed_113 (by decide +kernel) ?_
            refine g_v (y := nI (t3c x)) (by unfold t3c; repeat (first | rw [if_pos (by omega)] | rw [if_neg (by omega)])) ?_
            exact j115 
          · refine g_bipush (x := nI 62) X dL_typed_108 (by decide +kernel) ?_
            refine g_goto (tgt := 115) X dL_typed_110 (by decide) ?_
            refine g_v (y := nI (t3c x)) (by unfold t3c; repeat (first | rw [if_pos (by omega)] | rw [if_neg (by omega)])) ?_
            exact j115 
        · refine g_bipush (x := nI 60) X dL_typed_97 (by decide +kernel) ?_
          refine g_goto (tgt := 115) X dL_typed_99 (by decide) ?_
          refine g_v (y := nI (t3c x)) (by unfold t3c; repeat (first | rw [if_pos (by omega)] | rw [if_neg (by omega)])) ?_
          exact j115 
      · refine g_bipush (x := nI 35) X dL_typed_86 (by decide +kernel) ?_
        refine g_goto (tgt := 115) X dL_typed_88 (by decide) ?_
        refine g_v (y := nI (t3c x)) (by unfold t3c; repeat (first | rw [if_pos (by omega)] | rw [if_neg (by omega)])) ?_
        exact j115 
    · refine g_bipush (x := nI 58) X dL_typed_76 (by decide +kernel) ?_
      refine g_goto (tgt := 115) X dL_typed_78 (by decide) ?_
      refine g_v (y := nI (t3c x)) (by unfold t3c; repeat (first | rw [if_pos (by omega)] | rw [if_neg (by omega)])) ?_
      exact j115 
  refine g_iload_n X dL_typed_27 2 rfl rfl ?_
  refine g_iconst (x := nI 3) X dL_typed_28 (by decide +kernel) ?_
  refine g_icmp_geN (tgt := 36) X dL_typed_29 (by decide) (by omega) (by omega) (fun c29 => ?_) (fun c29 => ?_)
  · refine g_aload_n X dL_typed_36 3 rfl rfl ?_
    have j49 : GG k 0 0 [w9] [(5, .int (nI (low9 (x >>> ((nI 5) &&& 31)) 4))), (4, .int (nI (low9 (x >>> ((nI 9) &&& 31)) 11))), (3, .int (nI (low9 x 7))), (0, .ref cj), (1, .int x), (2, .int (nI last))] 49 [.int (nI (t1c x)), .ref cj] := by
      refine g_callV (As := [.int (nI (t1c x))]) (rest := []) (wr := []) X (Cc_X6_append l v cj hC hW hL (t1c x) (by have := t1_le x s; (try simp only [pu9_2]); omega) ((t1c_rng x).1) ((t1c_rng x).2)) f_X6_append q_5_6 dL_typed_49 [0] [] rfl rfl (by decide) 0 hq rfl rfl rfl (Nat.le_of_ble_eq_true rfl) (by decide) (fun r_ w_ hp17 => ?_)
      obtain ⟨rfl, wk16, hCk16, rfl⟩ := hp17
      obtain ⟨fsk16, hqk16⟩ := IC9_hd hCk16
      show GG k _ _ [wk16] _ _ [.int (nI (s.2 + 1))]
      refine g_istore (lv' := [(6, .int (nI (s.2 + 1))), (5, .int (nI (low9 (x >>> ((nI 5) &&& 31)) 4))), (4, .int (nI (low9 (x >>> ((nI 9) &&& 31)) 11))), (3, .int (nI (low9 x 7))), (0, .ref cj), (1, .int x), (2, .int (nI last))]) X dL_typed_52 (by decide) rfl ?_
      refine g_lv (lv' := [(5, .int (nI (low9 (x >>> ((nI 5) &&& 31)) 4))), (4, .int (nI (low9 (x >>> ((nI 9) &&& 31)) 11))), (3, .int (nI (low9 x 7))), (0, .ref cj), (1, .int x), (2, .int (nI last))]) [1, 2, 3, 4, 5, 6] rfl ?_
      exact j54 wk16 _ (by rw [show t1 x s = pu9 s (t1c x) from if_neg (by omega)]; exact hCk16) hqk16
    refine g_iload_n X dL_typed_37 2 rfl rfl ?_
    refine g_iconst (x := nI 5) X dL_typed_38 (by decide +kernel) ?_
    refine g_icmp_geN (tgt := 47) X dL_typed_39 (by decide) (by omega) (by omega) (fun c39 => ?_) (fun c39 => ?_)
    · refine g_bipush (x := nI 63) X dL_typed_47 (by decide +kernel) ?_
      refine g_v (y := nI (t1c x)) (by unfold t1c; repeat (first | rw [if_pos (by omega)] | rw [if_neg (by omega)])) ?_
      exact j49 
    · refine g_bipush (x := nI 33) X dL_typed_42 (by decide +kernel) ?_
      refine g_goto (tgt := 49) X dL_typed_44 (by decide) ?_
      refine g_v (y := nI (t1c x)) (by unfold t1c; repeat (first | rw [if_pos (by omega)] | rw [if_neg (by omega)])) ?_
      exact j49 
  · refine g_iconst (x := nI 1) X dL_typed_32 (by decide +kernel) ?_
    refine g_goto (tgt := 52) X dL_typed_33 (by decide) ?_
    refine g_istore (lv' := [(6, .int (nI 1)), (5, .int (nI (low9 (x >>> ((nI 5) &&& 31)) 4))), (4, .int (nI (low9 (x >>> ((nI 9) &&& 31)) 11))), (3, .int (nI (low9 x 7))), (0, .ref cj), (1, .int x), (2, .int (nI last))]) X dL_typed_52 (by decide) rfl ?_
    refine g_lv (lv' := [(5, .int (nI (low9 (x >>> ((nI 5) &&& 31)) 4))), (4, .int (nI (low9 (x >>> ((nI 9) &&& 31)) 11))), (3, .int (nI (low9 x 7))), (0, .ref cj), (1, .int x), (2, .int (nI last))]) [1, 2, 3, 4, 5, 6] rfl ?_
    exact j54 w9 _ (by rw [show t1 x s = s from if_pos (by omega)]; exact hC) hq

