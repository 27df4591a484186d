/-! ## the model: small functions -/
def inI (x lo hi : Int32) : Bool := decide (lo ≤ x ∧ x ≤ hi)
theorem inI_N {a b c : Nat} (ha : a < 2147483648) (hb : b < 2147483648) (hc : c < 2147483648) : inI (nI a) (nI b) (nI c) = decide (b ≤ a ∧ a ≤ c) := decide_eq_decide.mpr (and_congr (nI_leI hb ha) (nI_leI ha hc))
def opm (o : Nat) : Nat := if o < 8 then o + 3 else o - 8
def sg9 (s : S9) : Nat := if s.1 = 0 then 0 else if s.2.2.1 = 0 then 61 else if s.2.2.1 = 1 then 60 else if s.2.2.1 = 2 then 62 else 35
/-- the model's row of numbers -/
def SR (P : Nat → S9) (n : Nat) (lo hi : Nat → Nat) (f : Nat → Int32) : Prop := f 0 = nI n ∧ (∀ i, i < n → f (1 + 5 * i + 0) = nI (P i).1 ∧ f (1 + 5 * i + 1) = nI (P i).2.1 ∧ f (1 + 5 * i + 2) = nI (sg9 (P i)) ∧ f (1 + 5 * i + 3) = nI (opm (P i).2.2.2.1) ∧ f (1 + 5 * i + 4) = zI (P i).2.2.2.2) ∧ ∀ w, w < 3 → f (61 + 2 * w) = nI (lo w) ∧ f (61 + 2 * w + 1) = nI (hi w)
abbrev cMo (v : VV) (mo : Nat → Nat) (th : Int32) (sm ln : Nat) (rm fa sp wr : Int32) (dd : Int64) : va_W := [(mo 0, .inr (7, [.int th, .ref (mo 1), .ref (mo 2), .int (nI sm), .ref (mo 3), .int (nI ln), .ref (mo 4), .int rm, .int fa, .ref (mo 5), .ref (mo 6), .int sp, .int wr, .long dd]))]
abbrev cMs (v : VV) (mo : Nat → Nat) (f : Nat → Int32) : va_W := [(mo 1, .inl (v.2.1 0, 67, .inl f))]
abbrev cMv (v : VV) (mo : Nat → Nat) (f : Nat → Int32) : va_W := [(mo 2, .inl (v.2.1 0, 402, .inl f))]
abbrev cMt (v : VV) (mo : Nat → Nat) (f : Nat → Int32) : va_W := [(mo 3, .inl (v.2.1 0, 60, .inl f))]
abbrev cMr (v : VV) (mo : Nat → Nat) (f : Nat → Int32) : va_W := [(mo 4, .inl (v.2.1 0, 60, .inl f))]
abbrev cMe (v : VV) (mo : Nat → Nat) (f : Nat → Int32) : va_W := [(mo 5, .inl (v.2.1 0, 6656, .inl f))]
abbrev cMn (v : VV) (mo : Nat → Nat) (f : Nat → Int32) : va_W := [(mo 6, .inl (v.2.1 2, 6656, .inl f))]
theorem val_0 {t : Nat} (h : t < 512) : val t 0 = t / 64 := by unfold val; omega
theorem val_1 {t : Nat} : val t 1 = t / 8 % 8 := by unfold val; omega
theorem val_2 {t : Nat} : val t 2 = t % 8 := by unfold val; omega
theorem opm_lt {o : Nat} (h : o < 11) : opm o < 11 := by unfold opm; split <;> omega
theorem opv_lo {t o : Nat} (h : opm o < 3) (ho : o < 11) : val t (opm o) = opv t o := by
  unfold opm at h ⊢
  unfold opv
  split
  · rename_i z; rw [if_pos z] at h; omega
  · rfl
theorem opv_hi {t o : Nat} (h : ¬ opm o < 3) (ho : o < 11) : opm o - 3 = opv t o := by
  unfold opm at h ⊢
  unfold opv
  split
  · omega
  · rename_i z; rw [if_neg z] at h; omega
theorem wv_Z {t w x : Nat} (ht : t < 512) (hw : w < 3) (hx : x < 8) : ((t : Nat) : Int) + (((if w = 0 then 64 else if w = 1 then 8 else 1 : Nat)) : Int) * (((x : Nat) : Int) - ((val t w : Nat) : Int)) = ((wv t w x : Nat) : Int) := by
  rcases (show w = 0 ∨ w = 1 ∨ w = 2 by omega) with rfl | rfl | rfl
  · rw [val_0 ht]; simp only [wv, if_pos]; omega
  · rw [val_1]; simp only [wv, if_pos]; simp; omega
  · rw [val_2]; simp only [wv]; simp; omega
theorem nx_asg {P : Nat → S9} {q : Nat} (h : (P (q / 512)).1 = 0) : nx P q = some (512 * (q / 512 + 1) + wv (q % 512) (P (q / 512)).2.1 (((opv (q % 512) (P (q / 512)).2.2.2.1 : Int) + (P (q / 512)).2.2.2.2) % 8).toNat) := by unfold nx; rw [if_pos h]

set_option maxHeartbeats 4000000 in
set_option maxRecDepth 100000 in
theorem c_X7_in (l : Launch) (v : VV) (x : Int32) (y : Int32) (z : Int32) : MI l v yX7_in cX7_in 3 (some .boolean) ({ frames := 0, cells := 0, slots := 0, locals := 0 }) [.int x, .int y, .int z] [] (fun r w_ => r = bI (inI x y z) ∧ w_ = []) 0 0 := by
  refine mm_int (by decide) (Nat.le_of_ble_eq_true rfl) [(0, .int x), (1, .int y), (2, .int z)] rfl (fun k X E => ?_)
  refine g_iload_n X dX7_in_0 0 rfl rfl ?_
  refine g_iload_n X dX7_in_1 1 rfl rfl ?_
  refine g_icmp_lt (tgt := 14) X dX7_in_2 (by decide) (fun c2 => ?_) (fun c2 => ?_)
  · refine g_iconst (x := nI 0) X dX7_in_14 (by decide +kernel) ?_
    exact E dX7_in_15 rfl (rfl) (by decide) (by decide) (⟨bI_zero (decide_eq_false (fun z => absurd z.1 (Int32.not_le.mpr c2))), rfl⟩)
  · refine g_iload_n X dX7_in_5 0 rfl rfl ?_
    refine g_iload_n X dX7_in_6 2 rfl rfl ?_
    refine g_icmp_gt (tgt := 14) X dX7_in_7 (by decide) (fun c7 => ?_) (fun c7 => ?_)
    · refine g_iconst (x := nI 0) X dX7_in_14 (by decide +kernel) ?_
      exact E dX7_in_15 rfl (rfl) (by decide) (by decide) (⟨bI_zero (decide_eq_false (fun z => absurd z.2 (Int32.not_le.mpr c7))), rfl⟩)
    · refine g_iconst (x := nI 1) X dX7_in_10 (by decide +kernel) ?_
      refine g_goto (tgt := 15) X dX7_in_11 (by decide) ?_
      exact E dX7_in_15 rfl (rfl) (by decide) (by decide) (⟨bI_one (decide_eq_true ⟨Int32.not_lt.mp c2, Int32.not_lt.mp c7⟩), rfl⟩)

set_option maxHeartbeats 4000000 in
set_option maxRecDepth 100000 in
theorem c_X7_thrown (l : Launch) (v : VV) (mo : Nat → Nat) (th : Int32) (sm : Nat) (ln : Nat) (rm : Int32) (fa : Int32) (sp : Int32) (wr : Int32) (dd : Int64) : MI l v yX7_thrown cX7_thrown 1 (some .int) ({ frames := 0, cells := 0, slots := 0, locals := 0 }) [.ref (mo 0)] [[((mo 0), .inr (7, [.int th, .ref (mo 1), .ref (mo 2), .int (nI sm), .ref (mo 3), .int (nI ln), .ref (mo 4), .int rm, .int fa, .ref (mo 5), .ref (mo 6), .int sp, .int wr, .long dd]))]] (fun r w_ => r = th ∧ w_ = [[((mo 0), .inr (7, [.int th, .ref (mo 1), .ref (mo 2), .int (nI sm), .ref (mo 3), .int (nI ln), .ref (mo 4), .int rm, .int fa, .ref (mo 5), .ref (mo 6), .int sp, .int wr, .long dd]))]]) 0 0 := by
  refine mm_int (by decide) (Nat.le_of_ble_eq_true rfl) [(0, .ref (mo 0))] rfl (fun k X E => ?_)
  refine g_aload_n X dX7_thrown_0 0 rfl rfl ?_
  refine g_get X cb7 0 q_15_23 dX7_thrown_1 0 0 rfl rfl (by decide) rfl rfl ?_
  exact E dX7_thrown_4 rfl (rfl) (by decide) (by decide) (⟨rfl, rfl⟩)

set_option maxHeartbeats 4000000 in
set_option maxRecDepth 100000 in
theorem c_X7_holds (l : Launch) (v : VV) (mo : Nat → Nat) (th : Int32) (sm : Nat) (ln : Nat) (rm : Int32) (fa : Int32) (sp : Int32) (wr : Int32) (dd : Int64) (k9 : Nat) (hk : k9 < 10) : MI l v yX7_holds cX7_holds 2 (some .boolean) ({ frames := 0, cells := 0, slots := 0, locals := 0 }) [.ref (mo 0), .int (nI k9)] [[((mo 0), .inr (7, [.int th, .ref (mo 1), .ref (mo 2), .int (nI sm), .ref (mo 3), .int (nI ln), .ref (mo 4), .int rm, .int fa, .ref (mo 5), .ref (mo 6), .int sp, .int wr, .long dd]))]] (fun r w_ => r = bI (decide (k9 = 0)) ∧ w_ = [[((mo 0), .inr (7, [.int (nI k9), .ref (mo 1), .ref (mo 2), .int (nI sm), .ref (mo 3), .int (nI ln), .ref (mo 4), .int rm, .int fa, .ref (mo 5), .ref (mo 6), .int sp, .int wr, .long dd]))]]) 0 0 := by
  refine mm_int (by decide) (Nat.le_of_ble_eq_true rfl) [(0, .ref (mo 0)), (1, .int (nI k9))] rfl (fun k X E => ?_)
  refine g_aload_n X dX7_holds_0 0 rfl rfl ?_
  refine g_iload_n X dX7_holds_1 1 rfl rfl ?_
  refine g_put (cs' := [[((mo 0), .inr (7, [.int (nI k9), .ref (mo 1), .ref (mo 2), .int (nI sm), .ref (mo 3), .int (nI ln), .ref (mo 4), .int rm, .int fa, .ref (mo 5), .ref (mo 6), .int sp, .int wr, .long dd]))]]) X cb7 0 q_15_23 dX7_holds_2 0 0 rfl rfl (by decide) rfl rfl (rfl) (rfl) (Nat.le_of_ble_eq_true rfl) rfl ?_
  refine g_iload_n X dX7_holds_5 1 rfl rfl ?_
  refine g_if_neN (tgt := 13) X dX7_holds_6 (by decide) (by omega) (fun c6 => ?_) (fun c6 => ?_)
  · refine g_iconst (x := nI 0) X dX7_holds_13 (by decide +kernel) ?_
    exact E dX7_holds_14 rfl (rfl) (by decide) (by decide) (⟨bI_zero (decide_eq_false (by omega)), rfl⟩)
  · refine g_iconst (x := nI 1) X dX7_holds_9 (by decide +kernel) ?_
    refine g_goto (tgt := 14) X dX7_holds_10 (by decide) ?_
    exact E dX7_holds_14 rfl (rfl) (by decide) (by decide) (⟨bI_one (decide_eq_true (by omega)), rfl⟩)

set_option maxHeartbeats 4000000 in
set_option maxRecDepth 100000 in
theorem c_X7_of (l : Launch) (v : VV) (i : Nat) (k9 : Nat) : MI l v yX7_of cX7_of 2 (some .int) ({ frames := 0, cells := 0, slots := 0, locals := 0 }) [.int (nI i), .int (nI k9)] [] (fun r w_ => r = nI (1 + 5 * i + k9) ∧ w_ = []) 0 0 := by
  refine mm_int (by decide) (Nat.le_of_ble_eq_true rfl) [(0, .int (nI i)), (1, .int (nI k9))] rfl (fun k X E => ?_)
  refine g_iconst (x := nI 1) X dX7_of_0 (by decide +kernel) ?_
  refine g_iconst (x := nI 5) X dX7_of_1 (by decide +kernel) ?_
  refine g_iload_n X dX7_of_2 0 rfl rfl ?_
  refine g_imulN X dX7_of_3 ?_
  refine g_iaddN X dX7_of_4 ?_
  refine g_iload_n X dX7_of_5 1 rfl rfl ?_
  refine g_iaddN X dX7_of_6 ?_
  exact E dX7_of_7 rfl (rfl) (by decide) (by decide) (⟨rfl, rfl⟩)

set_option maxHeartbeats 4000000 in
set_option maxRecDepth 100000 in
theorem c_X7_triple (l : Launch) (v : VV) (x : Nat) (y : Nat) (z : Nat) : MI l v yX7_triple cX7_triple 3 (some .int) ({ frames := 0, cells := 0, slots := 0, locals := 0 }) [.int (nI x), .int (nI y), .int (nI z)] [] (fun r w_ => r = nI (64 * x + 8 * y + z) ∧ w_ = []) 0 0 := by
  refine mm_int (by decide) (Nat.le_of_ble_eq_true rfl) [(0, .int (nI x)), (1, .int (nI y)), (2, .int (nI z))] rfl (fun k X E => ?_)
  refine g_bipush (x := nI 64) X dX7_triple_0 (by decide +kernel) ?_
  refine g_iload_n X dX7_triple_2 0 rfl rfl ?_
  refine g_imulN X dX7_triple_3 ?_
  refine g_bipush (x := nI 8) X dX7_triple_4 (by decide +kernel) ?_
  refine g_iload_n X dX7_triple_6 1 rfl rfl ?_
  refine g_imulN X dX7_triple_7 ?_
  refine g_iaddN X dX7_triple_8 ?_
  refine g_iload_n X dX7_triple_9 2 rfl rfl ?_
  refine g_iaddN X dX7_triple_10 ?_
  exact E dX7_triple_11 rfl (rfl) (by decide) (by decide) (⟨rfl, rfl⟩)

set_option maxHeartbeats 4000000 in
set_option maxRecDepth 100000 in
theorem c_X7_valueOf (l : Launch) (v : VV) (t : Nat) (w : Nat) (ht : t < 512) (hw : w < 3) : MI l v yX7_valueOf cX7_valueOf 2 (some .int) ({ frames := 0, cells := 0, slots := 0, locals := 0 }) [.int (nI t), .int (nI w)] [] (fun r w_ => r = nI (val t w) ∧ w_ = []) 0 0 := by
  refine mm_int (by decide) (Nat.le_of_ble_eq_true rfl) [(0, .int (nI t)), (1, .int (nI w))] rfl (fun k X E => ?_)
  refine g_iload_n X dX7_valueOf_0 1 rfl rfl ?_
  refine g_if_neN (tgt := 11) X dX7_valueOf_1 (by decide) (by omega) (fun c1 => ?_) (fun c1 => ?_)
  · refine g_iload_n X dX7_valueOf_11 1 rfl rfl ?_
    refine g_iconst (x := nI 1) X dX7_valueOf_12 (by decide +kernel) ?_
    refine g_icmp_neN (tgt := 26) X dX7_valueOf_13 (by decide) (by omega) (by omega) (fun c13 => ?_) (fun c13 => ?_)
    · refine g_iload_n X dX7_valueOf_26 0 rfl rfl ?_
      refine g_bipush (x := nI 8) X dX7_valueOf_27 (by decide +kernel) ?_
      refine g_iremN X dX7_valueOf_29 (by omega) (by omega) (by omega) ?_
      exact E dX7_valueOf_30 rfl (rfl) (by decide) (by decide) (⟨by rw [show w = 2 from by omega, val_2], rfl⟩)
    · refine g_iload_n X dX7_valueOf_16 0 rfl rfl ?_
      refine g_bipush (x := nI 8) X dX7_valueOf_17 (by decide +kernel) ?_
      refine g_idivN X dX7_valueOf_19 (by omega) (by omega) (by omega) ?_
      refine g_bipush (x := nI 8) X dX7_valueOf_20 (by decide +kernel) ?_
      refine g_iremN X dX7_valueOf_22 (by omega) (by omega) (by omega) ?_
      refine g_goto (tgt := 30) X dX7_valueOf_23 (by decide) ?_
      exact E dX7_valueOf_30 rfl (rfl) (by decide) (by decide) (⟨by rw [show w = 1 from c13, val_1], rfl⟩)
  · refine g_iload_n X dX7_valueOf_4 0 rfl rfl ?_
    refine g_bipush (x := nI 64) X dX7_valueOf_5 (by decide +kernel) ?_
    refine g_idivN X dX7_valueOf_7 (by omega) (by omega) (by omega) ?_
    refine g_goto (tgt := 30) X dX7_valueOf_8 (by decide) ?_
    exact E dX7_valueOf_30 rfl (rfl) (by decide) (by decide) (⟨by rw [show w = 0 from c1, val_0 ht], rfl⟩)

set_option maxHeartbeats 4000000 in
set_option maxRecDepth 100000 in
theorem c_X7_withValue (l : Launch) (v : VV) (t : Nat) (w : Nat) (x : Nat) (ht : t < 512) (hw : w < 3) (hx : x < 8) : MI l v yX7_withValue cX7_withValue 4 (some .int) ({ frames := 1, cells := 0, slots := 0, locals := 21 }) [.int (nI t), .int (nI w), .int (nI x)] [] (fun r w_ => r = nI (wv t w x) ∧ w_ = []) 0 0 := by
  refine mm_int (by decide) (Nat.le_of_ble_eq_true rfl) [(0, .int (nI t)), (1, .int (nI w)), (2, .int (nI x))] rfl (fun k X E => ?_)
  refine g_iload_n X dX7_withValue_0 1 rfl rfl ?_
  refine g_if_neN (tgt := 9) X dX7_withValue_1 (by decide) (by omega) (fun c1 => ?_) (fun c1 => ?_)
  · refine g_iload_n X dX7_withValue_9 1 rfl rfl ?_
    refine g_iconst (x := nI 1) X dX7_withValue_10 (by decide +kernel) ?_
    refine g_icmp_neN (tgt := 19) X dX7_withValue_11 (by decide) (by omega) (by omega) (fun c11 => ?_) (fun c11 => ?_)
    · refine g_iconst (x := nI 1) X dX7_withValue_19 (by decide +kernel) ?_
      refine g_v (y := nI (if w = 0 then 64 else if w = 1 then 8 else 1 : Nat)) (by rw [if_neg (show ¬ w = 0 from c1), if_neg (show ¬ w = 1 from c11)]) ?_
      refine g_istore_n (lv' := [(3, .int (nI (if w = 0 then 64 else if w = 1 then 8 else 1 : Nat))), (0, .int (nI t)), (1, .int (nI w)), (2, .int (nI x))]) X dX7_withValue_20 rfl (by decide) rfl ?_
      refine g_iload_n X dX7_withValue_21 1 rfl rfl ?_
      refine g_iload_n X dX7_withValue_22 0 rfl rfl ?_
      refine g_iload_n X dX7_withValue_23 3 rfl rfl ?_
      refine g_iload_n X dX7_withValue_24 1 rfl rfl ?_
      refine g_iload_n X dX7_withValue_25 2 rfl rfl ?_
      refine g_callS (As := [.int (nI t), .int (nI w)]) (rest := [.int (nI x), .int (nI (if w = 0 then 64 else if w = 1 then 8 else 1 : Nat)), .int (nI t)]) (wr := []) X (c_X7_valueOf l v t w (by omega) (by omega)) f_X7_valueOf q_23_6 dX7_withValue_26 [] [] rfl rfl (by decide) rfl rfl (Nat.le_of_ble_eq_true rfl) (by decide) (fun r_ w_ hp1 => ?_)
      obtain ⟨rfl, rfl⟩ := hp1
      show GG k _ _ [] _ _ [.int (nI (val t w)), .int (nI x), .int (nI (if w = 0 then 64 else if w = 1 then 8 else 1 : Nat)), .int (nI t)]
      refine g_isub X dX7_withValue_29 ?_
      refine g_v (y := zI (((x : Nat) : Int) - (((val t w) : Nat) : Int))) (by rw [zI_nI x, zI_nI (val t w), zI_sub]) ?_
      refine g_imul X dX7_withValue_30 ?_
      refine g_v (y := zI ((((if w = 0 then 64 else if w = 1 then 8 else 1 : Nat) : Nat) : Int) * (((x : Nat) : Int) - (((val t w) : Nat) : Int)))) (by rw [zI_nI (if w = 0 then 64 else if w = 1 then 8 else 1 : Nat), zI_mul]) ?_
      refine g_iadd X dX7_withValue_31 ?_
      refine g_v (y := zI (((t : Nat) : Int) + ((((if w = 0 then 64 else if w = 1 then 8 else 1 : Nat) : Nat) : Int) * (((x : Nat) : Int) - (((val t w) : Nat) : Int))))) (by rw [zI_nI t, zI_add]) ?_
      exact E dX7_withValue_32 rfl (rfl) (by decide) (by decide) (⟨by rw [zI_nI, ← wv_Z ht hw hx], rfl⟩)
    · refine g_bipush (x := nI 8) X dX7_withValue_14 (by decide +kernel) ?_
      refine g_goto (tgt := 20) X dX7_withValue_16 (by decide) ?_
      refine g_v (y := nI (if w = 0 then 64 else if w = 1 then 8 else 1 : Nat)) (by rw [if_neg (show ¬ w = 0 from c1), if_pos (show w = 1 from c11)]) ?_
      refine g_istore_n (lv' := [(3, .int (nI (if w = 0 then 64 else if w = 1 then 8 else 1 : Nat))), (0, .int (nI t)), (1, .int (nI w)), (2, .int (nI x))]) X dX7_withValue_20 rfl (by decide) rfl ?_
      refine g_iload_n X dX7_withValue_21 1 rfl rfl ?_
      refine g_iload_n X dX7_withValue_22 0 rfl rfl ?_
      refine g_iload_n X dX7_withValue_23 3 rfl rfl ?_
      refine g_iload_n X dX7_withValue_24 1 rfl rfl ?_
      refine g_iload_n X dX7_withValue_25 2 rfl rfl ?_
      refine g_callS (As := [.int (nI t), .int (nI w)]) (rest := [.int (nI x), .int (nI (if w = 0 then 64 else if w = 1 then 8 else 1 : Nat)), .int (nI t)]) (wr := []) X (c_X7_valueOf l v t w (by omega) (by omega)) f_X7_valueOf q_23_6 dX7_withValue_26 [] [] rfl rfl (by decide) rfl rfl (Nat.le_of_ble_eq_true rfl) (by decide) (fun r_ w_ hp2 => ?_)
      obtain ⟨rfl, rfl⟩ := hp2
      show GG k _ _ [] _ _ [.int (nI (val t w)), .int (nI x), .int (nI (if w = 0 then 64 else if w = 1 then 8 else 1 : Nat)), .int (nI t)]
      refine g_isub X dX7_withValue_29 ?_
      refine g_v (y := zI (((x : Nat) : Int) - (((val t w) : Nat) : Int))) (by rw [zI_nI x, zI_nI (val t w), zI_sub]) ?_
      refine g_imul X dX7_withValue_30 ?_
      refine g_v (y := zI ((((if w = 0 then 64 else if w = 1 then 8 else 1 : Nat) : Nat) : Int) * (((x : Nat) : Int) - (((val t w) : Nat) : Int)))) (by rw [zI_nI (if w = 0 then 64 else if w = 1 then 8 else 1 : Nat), zI_mul]) ?_
      refine g_iadd X dX7_withValue_31 ?_
      refine g_v (y := zI (((t : Nat) : Int) + ((((if w = 0 then 64 else if w = 1 then 8 else 1 : Nat) : Nat) : Int) * (((x : Nat) : Int) - (((val t w) : Nat) : Int))))) (by rw [zI_nI t, zI_add]) ?_
      exact E dX7_withValue_32 rfl (rfl) (by decide) (by decide) (⟨by rw [zI_nI, ← wv_Z ht hw hx], rfl⟩)
  · refine g_bipush (x := nI 64) X dX7_withValue_4 (by decide +kernel) ?_
    refine g_goto (tgt := 20) X dX7_withValue_6 (by decide) ?_
    refine g_v (y := nI (if w = 0 then 64 else if w = 1 then 8 else 1 : Nat)) (by rw [if_pos (show w = 0 from c1)]) ?_
    refine g_istore_n (lv' := [(3, .int (nI (if w = 0 then 64 else if w = 1 then 8 else 1 : Nat))), (0, .int (nI t)), (1, .int (nI w)), (2, .int (nI x))]) X dX7_withValue_20 rfl (by decide) rfl ?_
    refine g_iload_n X dX7_withValue_21 1 rfl rfl ?_
    refine g_iload_n X dX7_withValue_22 0 rfl rfl ?_
    refine g_iload_n X dX7_withValue_23 3 rfl rfl ?_
    refine g_iload_n X dX7_withValue_24 1 rfl rfl ?_
    refine g_iload_n X dX7_withValue_25 2 rfl rfl ?_
    refine g_callS (As := [.int (nI t), .int (nI w)]) (rest := [.int (nI x), .int (nI (if w = 0 then 64 else if w = 1 then 8 else 1 : Nat)), .int (nI t)]) (wr := []) X (c_X7_valueOf l v t w (by omega) (by omega)) f_X7_valueOf q_23_6 dX7_withValue_26 [] [] rfl rfl (by decide) rfl rfl (Nat.le_of_ble_eq_true rfl) (by decide) (fun r_ w_ hp3 => ?_)
    obtain ⟨rfl, rfl⟩ := hp3
    show GG k _ _ [] _ _ [.int (nI (val t w)), .int (nI x), .int (nI (if w = 0 then 64 else if w = 1 then 8 else 1 : Nat)), .int (nI t)]
    refine g_isub X dX7_withValue_29 ?_
    refine g_v (y := zI (((x : Nat) : Int) - (((val t w) : Nat) : Int))) (by rw [zI_nI x, zI_nI (val t w), zI_sub]) ?_
    refine g_imul X dX7_withValue_30 ?_
    refine g_v (y := zI ((((if w = 0 then 64 else if w = 1 then 8 else 1 : Nat) : Nat) : Int) * (((x : Nat) : Int) - (((val t w) : Nat) : Int)))) (by rw [zI_nI (if w = 0 then 64 else if w = 1 then 8 else 1 : Nat), zI_mul]) ?_
    refine g_iadd X dX7_withValue_31 ?_
    refine g_v (y := zI (((t : Nat) : Int) + ((((if w = 0 then 64 else if w = 1 then 8 else 1 : Nat) : Nat) : Int) * (((x : Nat) : Int) - (((val t w) : Nat) : Int))))) (by rw [zI_nI t, zI_add]) ?_
    exact E dX7_withValue_32 rfl (rfl) (by decide) (by decide) (⟨by rw [zI_nI, ← wv_Z ht hw hx], rfl⟩)

