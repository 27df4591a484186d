/-! ## the law: an act -/
def isN (x : Int32) : Nat := if 0 < low9 (x >>> (nI 22 &&& 31)) 7 then 1 else 0
def mny (x : Int32) : Nat := if low9 x 10 < 5 then 1 + low9 (x >>> (nI 4 &&& 31)) 4 else 1 + low9 (x >>> (nI 4 &&& 31)) 2
def lst (x : Int32) (n : Nat) : Nat := if isN x = 0 then 10 else mny x + (if low9 x 10 < 5 then 0 else n) + 1
def la9 (m : Nat) : Nat := if m < 10 then m else 10
/-- the text of the first k statements that are typed -/
def txN (v : VV) (e m : Nat) : Nat → (Nat → Nat) × Nat
  | 0 => (fun _ => 0, 0)
  | k + 1 => tyT (cl9 v (5 * e + 1 + k)) m (if 0 < k then pu9 (txN v e m k) 59 else txN v e m k)
def fmo9 (x : Int32) : Nat := if isN x = 0 then 9 else 8
def fr9 (x : Int32) : Nat := low9 ((x >>> (nI 4 &&& 31)) >>> (nI 2 &&& 31)) (fmo9 x)
def vm9 (x : Int32) : Nat := if isN x = 0 then 4 else 3
def vr9 (x : Int32) : Nat := low9 (x >>> (nI 4 &&& 31)) (vm9 x)
def to9 (x : Int32) : Nat := if isN x = 0 then low9 ((x >>> (nI 4 &&& 31)) >>> (nI 6 &&& 31)) 9 else fr9 x + low9 ((x >>> (nI 4 &&& 31)) >>> (nI 6 &&& 31)) (8 - fr9 x)
theorem mny_rng (x : Int32) : 0 < mny x ∧ mny x ≤ 4 := by
  have := low9_lt (x >>> (nI 4 &&& 31)) (m := 4) (by decide)
  have := low9_lt (x >>> (nI 4 &&& 31)) (m := 2) (by decide)
  unfold mny
  split <;> omega
theorem la9_rng (x : Int32) (n : Nat) : 0 < la9 (lst x n) ∧ la9 (lst x n) ≤ 10 := by
  unfold la9 lst
  repeat' split
  all_goals omega
theorem lst_le (x : Int32) {n : Nat} (hn : n ≤ 12) : lst x n ≤ 20 := by
  have := mny_rng x
  unfold lst
  repeat' split
  all_goals omega
theorem asm_rng (x : Int32) : (isN x = 0 ∧ fmo9 x = 9 ∧ vm9 x = 4 ∨ isN x = 1 ∧ fmo9 x = 8 ∧ vm9 x = 3) ∧ fr9 x < fmo9 x ∧ vr9 x < vm9 x ∧ to9 x < 9 := by
  have h : isN x = 0 ∧ fmo9 x = 9 ∧ vm9 x = 4 ∨ isN x = 1 ∧ fmo9 x = 8 ∧ vm9 x = 3 := by
    have h1 : isN x = 0 ∨ isN x = 1 := by unfold isN; split <;> omega
    rcases h1 with h1 | h1
    · exact Or.inl ⟨h1, if_pos h1, if_pos h1⟩
    · exact Or.inr ⟨h1, if_neg (by omega), if_neg (by omega)⟩
  have h2 : fr9 x < fmo9 x := low9_lt _ (by omega)
  refine ⟨h, h2, low9_lt _ (by omega), ?_⟩
  unfold to9
  split
  · exact low9_lt _ (by decide)
  · have := low9_lt ((x >>> (nI 4 &&& 31)) >>> (nI 6 &&& 31)) (m := 8 - fr9 x) (by omega)
    omega
theorem txN_le (v : VV) (e m : Nat) : ∀ k, (txN v e m k).2 ≤ 7 * k
  | 0 => Nat.zero_le _
  | k + 1 => by
    have ih := txN_le v e m k
    have h := tyT_le (cl9 v (5 * e + 1 + k)) m (if 0 < k then pu9 (txN v e m k) 59 else txN v e m k)
    show (tyT _ _ _).2 ≤ _
    have h2 : (if 0 < k then pu9 (txN v e m k) 59 else txN v e m k).2 ≤ 7 * k + 1 := by
      split
      · rw [pu9_2]; omega
      · omega
    omega
/-- what an act does: the code of what is thrown, the state then, what is told -/
noncomputable def acX (v : VV) (e : Nat) (x : Int32) (q : HE9) : Nat × HE9 × Int32 :=
  if low9 x 10 < 7 then
    (if low9 x 10 < 5 then @ite _ (ldOK (txN v e (la9 (lst x q.2.1)) (mny x)).1 (txN v e (la9 (lst x q.2.1)) (mny x)).2) (Classical.propDecidable _) (0, (lg9 (pAll (txN v e (la9 (lst x q.2.1)) (mny x)).1 (txN v e (la9 (lst x q.2.1)) (mny x)).2 12 0 []).2.2, (pAll (txN v e (la9 (lst x q.2.1)) (mny x)).1 (txN v e (la9 (lst x q.2.1)) (mny x)).2 12 0 []).2.2.length, q.2.2.1, q.2.2.2), nI (pAll (txN v e (la9 (lst x q.2.1)) (mny x)).1 (txN v e (la9 (lst x q.2.1)) (mny x)).2 12 0 []).2.2.length) (2, q, 0)
     else @ite _ (adOK (txN v e (la9 (lst x q.2.1)) (mny x)).1 (txN v e (la9 (lst x q.2.1)) (mny x)).2 q.2.1) (Classical.propDecidable _) (0, (ap9 q.1 q.2.1 (lg9 (pAll (txN v e (la9 (lst x q.2.1)) (mny x)).1 (txN v e (la9 (lst x q.2.1)) (mny x)).2 12 0 []).2.2), q.2.1 + (pAll (txN v e (la9 (lst x q.2.1)) (mny x)).1 (txN v e (la9 (lst x q.2.1)) (mny x)).2 12 0 []).2.2.length, q.2.2.1, q.2.2.2), nI (q.2.1 + (pAll (txN v e (la9 (lst x q.2.1)) (mny x)).1 (txN v e (la9 (lst x q.2.1)) (mny x)).2 12 0 []).2.2.length)) (2, q, 0))
  else if low9 x 10 = 7 then (if 0 < q.2.1 then (0, (dr9 q.1 (q.2.1 - 1), q.2.1 - 1, q.2.2.1, q.2.2.2), nI (q.2.1 - 1)) else (3, q, 0))
  else if 3 ≤ vr9 x then (1, q, 0) else if 8 ≤ fr9 x then (2, q, 0) else if 8 ≤ to9 x then (2, q, 0) else if to9 x < fr9 x then (2, q, 0)
  else (0, (q.1, q.2.1, hU9 q.2.2.1 (vr9 x) (fr9 x), hU9 q.2.2.2 (vr9 x) (to9 x)), nI (cnt9 (hU9 q.2.2.1 (vr9 x) (fr9 x)) (hU9 q.2.2.2 (vr9 x) (to9 x)) 3))
noncomputable def acT (v : VV) (e : Nat) (q : HE9) : Nat × HE9 × Int32 := acX v e (cl9 v (5 * e)) q
section ACX
variable {v : VV} {e : Nat} {x : Int32} {q : HE9}
theorem ac_0 (h : low9 x 10 < 5) (hok : ldOK (txN v e (la9 (lst x q.2.1)) (mny x)).1 (txN v e (la9 (lst x q.2.1)) (mny x)).2) : acX v e x q = (0, (lg9 (pAll (txN v e (la9 (lst x q.2.1)) (mny x)).1 (txN v e (la9 (lst x q.2.1)) (mny x)).2 12 0 []).2.2, (pAll (txN v e (la9 (lst x q.2.1)) (mny x)).1 (txN v e (la9 (lst x q.2.1)) (mny x)).2 12 0 []).2.2.length, q.2.2.1, q.2.2.2), nI (pAll (txN v e (la9 (lst x q.2.1)) (mny x)).1 (txN v e (la9 (lst x q.2.1)) (mny x)).2 12 0 []).2.2.length) := by
  unfold acX
  rw [if_pos (by omega), if_pos h, if_pos hok]
theorem ac_0n (h : low9 x 10 < 5) (hok : ¬ ldOK (txN v e (la9 (lst x q.2.1)) (mny x)).1 (txN v e (la9 (lst x q.2.1)) (mny x)).2) : acX v e x q = (2, q, 0) := by
  unfold acX
  rw [if_pos (by omega), if_pos h, if_neg hok]
theorem ac_1 (h7 : low9 x 10 < 7) (h : ¬ low9 x 10 < 5) (hok : adOK (txN v e (la9 (lst x q.2.1)) (mny x)).1 (txN v e (la9 (lst x q.2.1)) (mny x)).2 q.2.1) : acX v e x q = (0, (ap9 q.1 q.2.1 (lg9 (pAll (txN v e (la9 (lst x q.2.1)) (mny x)).1 (txN v e (la9 (lst x q.2.1)) (mny x)).2 12 0 []).2.2), q.2.1 + (pAll (txN v e (la9 (lst x q.2.1)) (mny x)).1 (txN v e (la9 (lst x q.2.1)) (mny x)).2 12 0 []).2.2.length, q.2.2.1, q.2.2.2), nI (q.2.1 + (pAll (txN v e (la9 (lst x q.2.1)) (mny x)).1 (txN v e (la9 (lst x q.2.1)) (mny x)).2 12 0 []).2.2.length)) := by
  unfold acX
  rw [if_pos h7, if_neg h, if_pos hok]
theorem ac_1n (h7 : low9 x 10 < 7) (h : ¬ low9 x 10 < 5) (hok : ¬ adOK (txN v e (la9 (lst x q.2.1)) (mny x)).1 (txN v e (la9 (lst x q.2.1)) (mny x)).2 q.2.1) : acX v e x q = (2, q, 0) := by
  unfold acX
  rw [if_pos h7, if_neg h, if_neg hok]
theorem ac_2 (h7 : low9 x 10 = 7) (hn : 0 < q.2.1) : acX v e x q = (0, (dr9 q.1 (q.2.1 - 1), q.2.1 - 1, q.2.2.1, q.2.2.2), nI (q.2.1 - 1)) := by
  unfold acX
  rw [if_neg (by omega), if_pos h7, if_pos hn]
theorem ac_2n (h7 : low9 x 10 = 7) (hn : ¬ 0 < q.2.1) : acX v e x q = (3, q, 0) := by
  unfold acX
  rw [if_neg (by omega), if_pos h7, if_neg hn]
theorem ac_3 (h7 : ¬ low9 x 10 < 7) (h8 : ¬ low9 x 10 = 7) (h1 : vr9 x < 3) (h2 : fr9 x < 8) (h3 : to9 x < 8) (h4 : fr9 x ≤ to9 x) : acX v e x q = (0, (q.1, q.2.1, hU9 q.2.2.1 (vr9 x) (fr9 x), hU9 q.2.2.2 (vr9 x) (to9 x)), nI (cnt9 (hU9 q.2.2.1 (vr9 x) (fr9 x)) (hU9 q.2.2.2 (vr9 x) (to9 x)) 3)) := by
  unfold acX
  rw [if_neg h7, if_neg h8, if_neg (by omega), if_neg (by omega), if_neg (by omega), if_neg (by omega)]
theorem ac_3a (h7 : ¬ low9 x 10 < 7) (h8 : ¬ low9 x 10 = 7) (h1 : 3 ≤ vr9 x) : acX v e x q = (1, q, 0) := by
  unfold acX
  rw [if_neg h7, if_neg h8, if_pos h1]
theorem ac_3b (h7 : ¬ low9 x 10 < 7) (h8 : ¬ low9 x 10 = 7) (h1 : vr9 x < 3) (h2 : 8 ≤ fr9 x) : acX v e x q = (2, q, 0) := by
  unfold acX
  rw [if_neg h7, if_neg h8, if_neg (by omega), if_pos h2]
theorem ac_3c (h7 : ¬ low9 x 10 < 7) (h8 : ¬ low9 x 10 = 7) (h1 : vr9 x < 3) (h2 : fr9 x < 8) (h3 : 8 ≤ to9 x) : acX v e x q = (2, q, 0) := by
  unfold acX
  rw [if_neg h7, if_neg h8, if_neg (by omega), if_neg (by omega), if_pos h3]
theorem ac_3d (h7 : ¬ low9 x 10 < 7) (h8 : ¬ low9 x 10 = 7) (h1 : vr9 x < 3) (h2 : fr9 x < 8) (h3 : to9 x < 8) (h4 : to9 x < fr9 x) : acX v e x q = (2, q, 0) := by
  unfold acX
  rw [if_neg h7, if_neg h8, if_neg (by omega), if_neg (by omega), if_neg (by omega), if_pos h4]
theorem ac_rng : (acX v e x q).1 < 4 := by
  unfold acX
  repeat' split
  all_goals (dsimp only; omega)
theorem ac_WF (hW : WF q.1 q.2.1) (hL : AsW q.2.2.1 q.2.2.2) : WF (acX v e x q).2.1.1 (acX v e x q).2.1.2.1 ∧ AsW (acX v e x q).2.1.2.2.1 (acX v e x q).2.1.2.2.2 := by
  by_cases h7 : low9 x 10 < 7
  · by_cases h5 : low9 x 10 < 5
    · by_cases hok : ldOK (txN v e (la9 (lst x q.2.1)) (mny x)).1 (txN v e (la9 (lst x q.2.1)) (mny x)).2
      · rw [ac_0 h5 hok]; exact ⟨WF_ld hok, hL⟩
      · rw [ac_0n h5 hok]; exact ⟨hW, hL⟩
    · by_cases hok : adOK (txN v e (la9 (lst x q.2.1)) (mny x)).1 (txN v e (la9 (lst x q.2.1)) (mny x)).2 q.2.1
      · rw [ac_1 h7 h5 hok]; exact ⟨WF_ad hW hok, hL⟩
      · rw [ac_1n h7 h5 hok]; exact ⟨hW, hL⟩
  · by_cases h8 : low9 x 10 = 7
    · by_cases hn : 0 < q.2.1
      · rw [ac_2 h8 hn]; exact ⟨WF_dr hW hn, hL⟩
      · rw [ac_2n h8 hn]; exact ⟨hW, hL⟩
    · by_cases h1 : vr9 x < 3
      · by_cases h2 : fr9 x < 8
        · by_cases h3 : to9 x < 8
          · by_cases h4 : fr9 x ≤ to9 x
            · rw [ac_3 h7 h8 h1 h2 h3 h4]
              refine ⟨hW, fun w hw => ?_⟩
              show hU9 q.2.2.1 (vr9 x) (fr9 x) w ≤ hU9 q.2.2.2 (vr9 x) (to9 x) w ∧ hU9 q.2.2.2 (vr9 x) (to9 x) w ≤ 7
              by_cases z : w = vr9 x
              · rw [z, hU9_eq, hU9_eq]; exact ⟨h4, by omega⟩
              · rw [hU9_ne z, hU9_ne z]; exact hL w hw
            · rw [ac_3d h7 h8 h1 h2 h3 (by omega)]; exact ⟨hW, hL⟩
          · rw [ac_3c h7 h8 h1 h2 (by omega)]; exact ⟨hW, hL⟩
        · rw [ac_3b h7 h8 h1 (by omega)]; exact ⟨hW, hL⟩
      · rw [ac_3a h7 h8 (by omega)]; exact ⟨hW, hL⟩
end ACX
/-- an object after an act -/
def AcO (v : VV) (cj : Nat) (q : HE9) (H : Nat → HE9) (c : Nat) (R : Nat × HE9 × Int32) (f : Nat → Int32) (w : va_W) : Prop := (R.1 = 0 → ∃ tx, IC9 v cj R.2.1.1 R.2.1.2.1 R.2.1.2.2.1 R.2.1.2.2.2 (hS9 H c q) (hC9 c) tx 0 w ∧ f 0 = R.2.2) ∧ (R.1 ≠ 0 → ∃ tx, IC9 v cj q.1 q.2.1 q.2.2.1 q.2.2.2 H c tx 0 w)
theorem AcO_ok {v : VV} {cj : Nat} {q q' : HE9} {H : Nat → HE9} {c : Nat} {R : Nat × HE9 × Int32} {a : Int32} {f : Nat → Int32} {w : va_W} {tx : Nat → Nat} (hR : R = (0, q', a)) (h : IC9 v cj q'.1 q'.2.1 q'.2.2.1 q'.2.2.2 (hS9 H c q) (hC9 c) tx 0 w) (hf : f 0 = a) : AcO v cj q H c R f w := by
  subst hR
  exact ⟨fun _ => ⟨tx, h, hf⟩, fun z => absurd rfl z⟩
theorem AcO_no {v : VV} {cj : Nat} {q q' : HE9} {H : Nat → HE9} {c j : Nat} {R : Nat × HE9 × Int32} {a : Int32} {f : Nat → Int32} {w : va_W} {tx : Nat → Nat} (hR : R = (j, q', a)) (hj : j ≠ 0) (h : IC9 v cj q.1 q.2.1 q.2.2.1 q.2.2.2 H c tx 0 w) : AcO v cj q H c R f w := by
  subst hR
  exact ⟨fun z => absurd z hj, fun _ => ⟨tx, h⟩⟩
theorem IC9_tx {v : VV} {cj : Nat} {P : Nat → S9} {n : Nat} {lo hi : Nat → Nat} {H : Nat → HE9} {c : Nat} {tx : Nat → Nat} {w : va_W} (tx' : Nat → Nat) (hI : IC9 v cj P n lo hi H c tx 0 w) : IC9 v cj P n lo hi H c tx' 0 w := by
  obtain ⟨a, b, d, j, h, t, al, pw, bw, f, g, stl, e, jx, jy, jz, jst, ex, lw, hg, vs, o, ns, fs, gs, p, x1, x2, x3, x4, x5, fc, nl, fl, hR, hG, hE, hJ, hH, hT, hp, rfl⟩ := hI
  exact ⟨a, b, d, j, h, t, al, pw, bw, f, g, stl, e, jx, jy, jz, jst, ex, lw, hg, vs, o, ns, fs, gs, p, x1, x2, x3, x4, x5, fc, nl, fl, hR, hG, hE, hJ, hH, ⟨hT.1, fun i h => absurd h (Nat.not_lt_zero i)⟩, hp, rfl⟩
set_option maxHeartbeats 4000000 in
set_option maxRecDepth 100000 in
theorem c_L_act (l : Launch) (v : VV) (cj : Nat) (ou : Nat) (e : Nat) (f : Nat → Int32) {P : Nat → S9} {n : Nat} {lo hi : Nat → Nat} {H : Nat → HE9} {c : Nat} {tx : Nat → Nat} {w9 : va_W} (hst : l.stackTraces = false) (hL9 : v.2.2.1 900 ≤ 260) (he : e < 12) (hC0 : IC9 v cj P n lo hi H c tx 0 w9) (hW : WF P n) (hL : AsW lo hi) : MI l v yL_act cL_act 13 (some .int) ({ frames := 10, cells := 1, slots := 6, locals := 320 }) [.ref cj, .ref (v.2.2.2 900), .int (nI e), .ref ou] [w9, cOi v ou f] (fun r w_ => r = nI (acT v e (P, n, lo, hi)).1 ∧ ∃ w1 f', AcO v cj (P, n, lo, hi) H c (acT v e (P, n, lo, hi)) f' w1 ∧ w_ = [w1, cOi v ou f']) 1 6 := by
  refine mm_int (by decide) (Nat.le_of_ble_eq_true rfl) [(0, .ref cj), (1, .ref (v.2.2.2 900)), (2, .int (nI e)), (3, .ref ou)] rfl (fun k X E => ?_)
  have hnc := nck_of X
  have hC := IC9_tx (fun _ => 0) hC0
  obtain ⟨fs9, hq⟩ := IC9_hd hC
  have hn12 := hW.1
  obtain ⟨x, hx⟩ : ∃ x, cl9 v (5 * e) = x := ⟨_, rfl⟩
  have hmy := mny_rng x
  have has := asm_rng x
  have hls := lst_le x hn12
  have hla := la9_rng x n
  have hT := txN_le v e (la9 (lst x n))
  refine g_aload_n X dL_act_0 1 rfl rfl ?_
  refine g_iconst (x := nI 5) X dL_act_1 (by decide +kernel) ?_
  refine g_iload_n X dL_act_2 2 rfl rfl ?_
  refine g_imulN X dL_act_3 ?_
  refine g_callS (As := [.ref (v.2.2.2 900), .int (nI (5 * e))]) (rest := []) (wr := [w9, cOi v ou f]) X (c_L_cell l v (5 * e) (by omega) hL9) f_L_cell q_4_11 dL_act_4 [] [0, 1] rfl rfl (by decide) rfl rfl (Nat.le_of_ble_eq_true rfl) (by decide) (fun r_ w_ hp1 => ?_)
  obtain ⟨rfl, rfl⟩ := hp1
  show GG k _ _ [w9, cOi v ou f] _ _ [.int (cl9 v (5 * e))]
  refine g_v (y := x) (hx) ?_
  refine g_istore (lv' := [(4, .int x), (0, .ref cj), (1, .ref (v.2.2.2 900)), (2, .int (nI e)), (3, .ref ou)]) X dL_act_7 (by decide) rfl ?_
  refine g_iload X dL_act_9 0 rfl ?_
  refine g_bipush (x := nI 10) X dL_act_11 (by decide +kernel) ?_
  refine g_callS (As := [.int x, .int (nI 10)]) (rest := []) (wr := [w9, cOi v ou f]) X (c_L_low l v x 10 (by omega) (by omega)) f_L_low q_4_22 dL_act_13 [] [0, 1] rfl rfl (by decide) rfl rfl (Nat.le_of_ble_eq_true rfl) (by decide) (fun r_ w_ hp2 => ?_)
  obtain ⟨rfl, rfl⟩ := hp2
  have hl13 := low9_lt x (m := 10) (by omega)
  show GG k _ _ [w9, cOi v ou f] _ _ [.int (nI (low9 x 10))]
  refine g_istore (lv' := [(5, .int (nI (low9 x 10))), (4, .int x), (0, .ref cj), (1, .ref (v.2.2.2 900)), (2, .int (nI e)), (3, .ref ou)]) X dL_act_16 (by decide) rfl ?_
  refine g_iload X dL_act_18 1 rfl ?_
  refine g_iconst (x := nI 4) X dL_act_20 (by decide +kernel) ?_
  refine g_ishr X dL_act_21 ?_
  refine g_istore (lv' := [(6, .int (x >>> ((nI 4) &&& 31))), (5, .int (nI (low9 x 10))), (4, .int x), (0, .ref cj), (1, .ref (v.2.2.2 900)), (2, .int (nI e)), (3, .ref ou)]) X dL_act_22 (by decide) rfl ?_
  have j42 : GG k 0 0 [w9, cOi v ou f] [(6, .int (x >>> ((nI 4) &&& 31))), (5, .int (nI (low9 x 10))), (4, .int x), (0, .ref cj), (1, .ref (v.2.2.2 900)), (2, .int (nI e)), (3, .ref ou)] 42 [.int (nI (isN x))] := by
    refine g_istore (lv' := [(7, .int (nI (isN x))), (6, .int (x >>> ((nI 4) &&& 31))), (5, .int (nI (low9 x 10))), (4, .int x), (0, .ref cj), (1, .ref (v.2.2.2 900)), (2, .int (nI e)), (3, .ref ou)]) X dL_act_42 (by decide) rfl ?_
    refine g_iload X dL_act_44 2 rfl ?_
    refine g_bipush (x := nI 7) X dL_act_46 (by decide +kernel) ?_
    refine g_icmp_geN (tgt := 234) X dL_act_48 (by decide) (by omega) (by omega) (fun c48 => ?_) (fun c48 => ?_)
    · refine g_iload X dL_act_234 2 rfl ?_
      refine g_bipush (x := nI 7) X dL_act_236 (by decide +kernel) ?_
      refine g_icmp_neN (tgt := 251) X dL_act_238 (by decide) (by omega) (by omega) (fun c238 => ?_) (fun c238 => ?_)
      · refine g_iload X dL_act_251 1 rfl ?_
        refine g_iconst (x := nI 2) X dL_act_253 (by decide +kernel) ?_
        refine g_ishr X dL_act_254 ?_
        have j267 : GG k 0 0 [w9, cOi v ou f] [(7, .int (nI (isN x))), (6, .int (x >>> ((nI 4) &&& 31))), (5, .int (nI (low9 x 10))), (4, .int x), (0, .ref cj), (1, .ref (v.2.2.2 900)), (2, .int (nI e)), (3, .ref ou)] 267 [.int (nI (fmo9 x)), .int ((x >>> ((nI 4) &&& 31)) >>> ((nI 2) &&& 31))] := by
          refine g_callS (As := [.int ((x >>> ((nI 4) &&& 31)) >>> ((nI 2) &&& 31)), .int (nI (fmo9 x))]) (rest := []) (wr := [w9, cOi v ou f]) X (c_L_low l v ((x >>> ((nI 4) &&& 31)) >>> ((nI 2) &&& 31)) (fmo9 x) (by omega) (by omega)) f_L_low q_4_22 dL_act_267 [] [0, 1] rfl rfl (by decide) rfl rfl (Nat.le_of_ble_eq_true rfl) (by decide) (fun r_ w_ hp3 => ?_)
          obtain ⟨rfl, rfl⟩ := hp3
          have hl267 := low9_lt ((x >>> ((nI 4) &&& 31)) >>> ((nI 2) &&& 31)) (m := (fmo9 x)) (by omega)
          show GG k _ _ [w9, cOi v ou f] _ _ [.int (nI (low9 ((x >>> ((nI 4) &&& 31)) >>> ((nI 2) &&& 31)) (fmo9 x)))]
          refine g_v (y := nI (fr9 x)) (rfl) ?_
          refine g_istore (lv' := [(8, .int (nI (fr9 x))), (7, .int (nI (isN x))), (6, .int (x >>> ((nI 4) &&& 31))), (5, .int (nI (low9 x 10))), (4, .int x), (0, .ref cj), (1, .ref (v.2.2.2 900)), (2, .int (nI e)), (3, .ref ou)]) X dL_act_270 (by decide) rfl ?_
          refine g_aload_n X dL_act_272 5 rfl rfl ?_
          refine g_iconst (x := nI 3) X dL_act_273 (by decide +kernel) ?_
          refine g_iload X dL_act_274 2 rfl ?_
          have j286 : GG k 0 0 [w9, cOi v ou f] [(8, .int (nI (fr9 x))), (7, .int (nI (isN x))), (6, .int (x >>> ((nI 4) &&& 31))), (5, .int (nI (low9 x 10))), (4, .int x), (0, .ref cj), (1, .ref (v.2.2.2 900)), (2, .int (nI e)), (3, .ref ou)] 286 [.int (nI (vm9 x)), .int (x >>> ((nI 4) &&& 31)), .int (nI 3), .ref cj] := by
            refine g_callS (As := [.int (x >>> ((nI 4) &&& 31)), .int (nI (vm9 x))]) (rest := [.int (nI 3), .ref cj]) (wr := [w9, cOi v ou f]) X (c_L_low l v (x >>> ((nI 4) &&& 31)) (vm9 x) (by omega) (by omega)) f_L_low q_4_22 dL_act_286 [] [0, 1] rfl rfl (by decide) rfl rfl (Nat.le_of_ble_eq_true rfl) (by decide) (fun r_ w_ hp4 => ?_)
            obtain ⟨rfl, rfl⟩ := hp4
            have hl286 := low9_lt (x >>> ((nI 4) &&& 31)) (m := (vm9 x)) (by omega)
            show GG k _ _ [w9, cOi v ou f] _ _ [.int (nI (low9 (x >>> ((nI 4) &&& 31)) (vm9 x))), .int (nI 3), .ref cj]
            refine g_v (y := nI (vr9 x)) (rfl) ?_
            refine g_iload X dL_act_289 0 rfl ?_
            have j325 : GG k 0 0 [w9, cOi v ou f] [(8, .int (nI (fr9 x))), (7, .int (nI (isN x))), (6, .int (x >>> ((nI 4) &&& 31))), (5, .int (nI (low9 x 10))), (4, .int x), (0, .ref cj), (1, .ref (v.2.2.2 900)), (2, .int (nI e)), (3, .ref ou)] 325 [.int (nI (to9 x)), .int (nI (fr9 x)), .int (nI (vr9 x)), .int (nI 3), .ref cj] := by
              refine g_aload_n X dL_act_325 8 rfl rfl ?_
              by_cases hc5 : vr9 x < 3
              · by_cases hc6 : fr9 x < 8
                · by_cases hc7 : to9 x < 8
                  · by_cases hc8 : fr9 x ≤ to9 x
                    · refine g_callW (As := [.ref cj, .int (nI 3), .int (nI (vr9 x)), .int (nI (fr9 x)), .int (nI (to9 x)), .ref ou]) (rest := []) (wr := []) X hnc (w_ch3 l v cj ou (nI (vr9 x)) (nI (fr9 x)) (nI (to9 x)) w9 f (fun w => IC9 v cj P n (hU9 lo (vr9 x) (fr9 x)) (hU9 hi (vr9 x) (to9 x)) (hS9 H c (P, n, lo, hi)) (hC9 c) (fun _ => 0) 0 w) ({ frames := 7, cells := 0, slots := 0, locals := 112 }) (nI (cnt9 (hU9 lo (vr9 x) (fr9 x)) (hU9 hi (vr9 x) (to9 x)) 3)) hq rfl rfl (by decide) (by decide) (Cc_X6_assume l v cj hC hW hL (vr9 x) (fr9 x) (to9 x) (by omega) (by omega) (by omega))) f_L_changes q_5_22 dL_act_326 [0, 1] [] rfl rfl (by decide) rfl rfl (Nat.le_of_ble_eq_true rfl) (by decide) (fun r_ w_ hp10 => ?_)
                      obtain ⟨rfl, wk9, f', hCk9, hf', rfl⟩ := hp10
                      obtain ⟨fsk9, hqk9⟩ := IC9_hd hCk9
                      show GG k _ _ [wk9, cOi v ou f'] _ _ [.int (nI 0)]
                      have hR9 := (congrArg (fun x => acX v e x (P, n, lo, hi)) hx).trans (ac_3 (q := (P, n, lo, hi)) (by omega) (by omega) (by omega) (by omega) (by omega) (by omega))
                      exact E dL_act_329 rfl (rfl) (by decide) (by decide) (⟨(congrArg (fun R : Nat × HE9 × Int32 => nI R.1) hR9).symm, wk9, f', AcO_ok (tx := _) hR9 hCk9 hf', rfl⟩)
                    · refine g_callW (As := [.ref cj, .int (nI 3), .int (nI (vr9 x)), .int (nI (fr9 x)), .int (nI (to9 x)), .ref ou]) (rest := []) (wr := []) X hnc (w2_ch3 l v cj ou (nI (vr9 x)) (nI (fr9 x)) (nI (to9 x)) w9 f (fun w => IC9 v cj P n lo hi H c (fun _ => 0) 0 w) ({ frames := 7, cells := 1, slots := 6, locals := 120 }) hq rfl rfl (by decide) (by decide) (Cb2_X6_assume l v hst cj hC hW hL (vr9 x) (fr9 x) (to9 x) (by omega) (by omega) (by omega) (by omega))) f_L_changes q_5_22 dL_act_326 [0, 1] [] rfl rfl (by decide) rfl rfl (Nat.le_of_ble_eq_true rfl) (by decide) (fun r_ w_ hp12 => ?_)
                      obtain ⟨rfl, wk11, hCk11, rfl⟩ := hp12
                      obtain ⟨fsk11, hqk11⟩ := IC9_hd hCk11
                      show GG k _ _ [wk11, cOi v ou f] _ _ [.int (nI 2)]
                      have hR9 := (congrArg (fun x => acX v e x (P, n, lo, hi)) hx).trans (ac_3d (q := (P, n, lo, hi)) (by omega) (by omega) (by omega) (by omega) (by omega) (by omega))
                      exact E dL_act_329 rfl (rfl) (by decide) (by decide) (⟨(congrArg (fun R : Nat × HE9 × Int32 => nI R.1) hR9).symm, wk11, f, AcO_no (tx := _) hR9 (by decide) hCk11, rfl⟩)
                  · refine g_callW (As := [.ref cj, .int (nI 3), .int (nI (vr9 x)), .int (nI (fr9 x)), .int (nI (to9 x)), .ref ou]) (rest := []) (wr := []) X hnc (w2_ch3 l v cj ou (nI (vr9 x)) (nI (fr9 x)) (nI (to9 x)) w9 f (fun w => IC9 v cj P n lo hi H c (fun _ => 0) 0 w) ({ frames := 7, cells := 1, slots := 6, locals := 120 }) hq rfl rfl (by decide) (by decide) (Cb1_X6_assume l v hst cj hC hW hL (vr9 x) (fr9 x) (nI (to9 x)) (by omega) (by omega) (Or.inr ((nI_leI (by omega) (by omega)).mpr (by omega))))) f_L_changes q_5_22 dL_act_326 [0, 1] [] rfl rfl (by decide) rfl rfl (Nat.le_of_ble_eq_true rfl) (by decide) (fun r_ w_ hp14 => ?_)
                    obtain ⟨rfl, wk13, hCk13, rfl⟩ := hp14
                    obtain ⟨fsk13, hqk13⟩ := IC9_hd hCk13
                    show GG k _ _ [wk13, cOi v ou f] _ _ [.int (nI 2)]
                    have hR9 := (congrArg (fun x => acX v e x (P, n, lo, hi)) hx).trans (ac_3c (q := (P, n, lo, hi)) (by omega) (by omega) (by omega) (by omega) (by omega))
                    exact E dL_act_329 rfl (rfl) (by decide) (by decide) (⟨(congrArg (fun R : Nat × HE9 × Int32 => nI R.1) hR9).symm, wk13, f, AcO_no (tx := _) hR9 (by decide) hCk13, rfl⟩)
                · refine g_callW (As := [.ref cj, .int (nI 3), .int (nI (vr9 x)), .int (nI (fr9 x)), .int (nI (to9 x)), .ref ou]) (rest := []) (wr := []) X hnc (w2_ch3 l v cj ou (nI (vr9 x)) (nI (fr9 x)) (nI (to9 x)) w9 f (fun w => IC9 v cj P n lo hi H c (fun _ => 0) 0 w) ({ frames := 7, cells := 1, slots := 6, locals := 120 }) hq rfl rfl (by decide) (by decide) (Cb0_X6_assume l v hst cj hC hW hL (vr9 x) (nI (fr9 x)) (nI (to9 x)) (by omega) (Or.inr ((nI_leI (by omega) (by omega)).mpr (by omega))))) f_L_changes q_5_22 dL_act_326 [0, 1] [] rfl rfl (by decide) rfl rfl (Nat.le_of_ble_eq_true rfl) (by decide) (fun r_ w_ hp16 => ?_)
                  obtain ⟨rfl, wk15, hCk15, rfl⟩ := hp16
                  obtain ⟨fsk15, hqk15⟩ := IC9_hd hCk15
                  show GG k _ _ [wk15, cOi v ou f] _ _ [.int (nI 2)]
                  have hR9 := (congrArg (fun x => acX v e x (P, n, lo, hi)) hx).trans (ac_3b (q := (P, n, lo, hi)) (by omega) (by omega) (by omega) (by omega))
                  exact E dL_act_329 rfl (rfl) (by decide) (by decide) (⟨(congrArg (fun R : Nat × HE9 × Int32 => nI R.1) hR9).symm, wk15, f, AcO_no (tx := _) hR9 (by decide) hCk15, rfl⟩)
              · refine g_callW (As := [.ref cj, .int (nI 3), .int (nI (vr9 x)), .int (nI (fr9 x)), .int (nI (to9 x)), .ref ou]) (rest := []) (wr := []) X hnc (w1_ch3 l v cj ou (nI (vr9 x)) (nI (fr9 x)) (nI (to9 x)) w9 f (fun w => IC9 v cj P n lo hi H c (fun _ => 0) 0 w) ({ frames := 7, cells := 1, slots := 6, locals := 120 }) hq rfl rfl (by decide) (by decide) (Cb_X6_assume l v hst cj hC hW hL (nI (vr9 x)) (nI (fr9 x)) (nI (to9 x)) (Or.inr ((nI_leI (by omega) (by omega)).mpr (by omega))))) f_L_changes q_5_22 dL_act_326 [0, 1] [] rfl rfl (by decide) rfl rfl (Nat.le_of_ble_eq_true rfl) (by decide) (fun r_ w_ hp18 => ?_)
                obtain ⟨rfl, wk17, hCk17, rfl⟩ := hp18
                obtain ⟨fsk17, hqk17⟩ := IC9_hd hCk17
                show GG k _ _ [wk17, cOi v ou f] _ _ [.int (nI 1)]
                have hR9 := (congrArg (fun x => acX v e x (P, n, lo, hi)) hx).trans (ac_3a (q := (P, n, lo, hi)) (by omega) (by omega) (by omega))
                exact E dL_act_329 rfl (rfl) (by decide) (by decide) (⟨(congrArg (fun R : Nat × HE9 × Int32 => nI R.1) hR9).symm, wk17, f, AcO_no (tx := _) hR9 (by decide) hCk17, rfl⟩)
            refine g_iload X dL_act_291 1 rfl ?_
            refine g_if_eqN (tgt := 315) X dL_act_293 (by decide) (by omega) (fun c293 => ?_) (fun c293 => ?_)
            · refine g_iload X dL_act_315 2 rfl ?_
              refine g_bipush (x := nI 6) X dL_act_317 (by decide +kernel) ?_
              refine g_ishr X dL_act_319 ?_
              refine g_bipush (x := nI 9) X dL_act_320 (by decide +kernel) ?_
              refine g_callS (As := [.int ((x >>> ((nI 4) &&& 31)) >>> ((nI 6) &&& 31)), .int (nI 9)]) (rest := [.int (nI (fr9 x)), .int (nI (vr9 x)), .int (nI 3), .ref cj]) (wr := [w9, cOi v ou f]) X (c_L_low l v ((x >>> ((nI 4) &&& 31)) >>> ((nI 6) &&& 31)) 9 (by omega) (by omega)) f_L_low q_4_22 dL_act_322 [] [0, 1] rfl rfl (by decide) rfl rfl (Nat.le_of_ble_eq_true rfl) (by decide) (fun r_ w_ hp19 => ?_)
              obtain ⟨rfl, rfl⟩ := hp19
              have hl322 := low9_lt ((x >>> ((nI 4) &&& 31)) >>> ((nI 6) &&& 31)) (m := 9) (by omega)
              show GG k _ _ [w9, cOi v ou f] _ _ [.int (nI (low9 ((x >>> ((nI 4) &&& 31)) >>> ((nI 6) &&& 31)) 9)), .int (nI (fr9 x)), .int (nI (vr9 x)), .int (nI 3), .ref cj]
              refine g_v (y := nI (to9 x)) (by unfold to9; repeat (first | rw [if_pos (by omega)] | rw [if_neg (by omega)])) ?_
              exact j325 
            · refine g_iload X dL_act_296 0 rfl ?_
              refine g_iload X dL_act_298 2 rfl ?_
              refine g_bipush (x := nI 6) X dL_act_300 (by decide +kernel) ?_
              refine g_ishr X dL_act_302 ?_
              refine g_bipush (x := nI 8) X dL_act_303 (by decide +kernel) ?_
              refine g_iload X dL_act_305 0 rfl ?_
              refine g_isubN X dL_act_307 (by omega) ?_
              refine g_callS (As := [.int ((x >>> ((nI 4) &&& 31)) >>> ((nI 6) &&& 31)), .int (nI (8 - (fr9 x)))]) (rest := [.int (nI (fr9 x)), .int (nI (fr9 x)), .int (nI (vr9 x)), .int (nI 3), .ref cj]) (wr := [w9, cOi v ou f]) X (c_L_low l v ((x >>> ((nI 4) &&& 31)) >>> ((nI 6) &&& 31)) (8 - (fr9 x)) (by omega) (by omega)) f_L_low q_4_22 dL_act_308 [] [0, 1] rfl rfl (by decide) rfl rfl (Nat.le_of_ble_eq_true rfl) (by decide) (fun r_ w_ hp20 => ?_)
              obtain ⟨rfl, rfl⟩ := hp20
              have hl308 := low9_lt ((x >>> ((nI 4) &&& 31)) >>> ((nI 6) &&& 31)) (m := 8 - (fr9 x)) (by omega)
              show GG k _ _ [w9, cOi v ou f] _ _ [.int (nI (low9 ((x >>> ((nI 4) &&& 31)) >>> ((nI 6) &&& 31)) (8 - (fr9 x)))), .int (nI (fr9 x)), .int (nI (fr9 x)), .int (nI (vr9 x)), .int (nI 3), .ref cj]
              refine g_iaddN X dL_act_311 ?_
              refine g_goto (tgt := 325) X dL_act_312 (by decide) ?_
              refine g_v (y := nI (to9 x)) (by unfold to9; repeat (first | rw [if_pos (by omega)] | rw [if_neg (by omega)])) ?_
              exact j325 
          refine g_iload X dL_act_276 1 rfl ?_
          refine g_if_eqN (tgt := 285) X dL_act_278 (by decide) (by omega) (fun c278 => ?_) (fun c278 => ?_)
          · refine g_iconst (x := nI 4) X dL_act_285 (by decide +kernel) ?_
            refine g_v (y := nI (vm9 x)) (by unfold vm9; repeat (first | rw [if_pos (by omega)] | rw [if_neg (by omega)])) ?_
            exact j286 
          · refine g_iconst (x := nI 3) X dL_act_281 (by decide +kernel) ?_
            refine g_goto (tgt := 286) X dL_act_282 (by decide) ?_
            refine g_v (y := nI (vm9 x)) (by unfold vm9; repeat (first | rw [if_pos (by omega)] | rw [if_neg (by omega)])) ?_
            exact j286 
        refine g_iload X dL_act_255 0 rfl ?_
        refine g_if_eqN (tgt := 265) X dL_act_257 (by decide) (by omega) (fun c257 => ?_) (fun c257 => ?_)
        · refine g_bipush (x := nI 9) X dL_act_265 (by decide +kernel) ?_
          refine g_v (y := nI (fmo9 x)) (by unfold fmo9; repeat (first | rw [if_pos (by omega)] | rw [if_neg (by omega)])) ?_
          exact j267 
        · refine g_bipush (x := nI 8) X dL_act_260 (by decide +kernel) ?_
          refine g_goto (tgt := 267) X dL_act_262 (by decide) ?_
          refine g_v (y := nI (fmo9 x)) (by unfold fmo9; repeat (first | rw [if_pos (by omega)] | rw [if_neg (by omega)])) ?_
          exact j267 
      · refine g_aload_n X dL_act_241 4 rfl rfl ?_
        refine g_iconst (x := nI 2) X dL_act_242 (by decide +kernel) ?_
        refine g_iconst (x := nI 0) X dL_act_243 (by decide +kernel) ?_
        refine g_iconst (x := nI 0) X dL_act_244 (by decide +kernel) ?_
        refine g_iconst (x := nI 0) X dL_act_245 (by decide +kernel) ?_
        refine g_aload_n X dL_act_246 7 rfl rfl ?_
        by_cases hc21 : 0 < n
        · refine g_callW (As := [.ref cj, .int (nI 2), .int (nI 0), .int (nI 0), .int (nI 0), .ref ou]) (rest := []) (wr := []) X hnc (w_ch2 l v cj ou (nI 0) (nI 0) (nI 0) w9 f (fun w => IC9 v cj (dr9 P (n - 1)) (n - 1) lo hi (hS9 H c (P, n, lo, hi)) (hC9 c) (fun _ => 0) 0 w) ({ frames := 5, cells := 0, slots := 0, locals := 112 }) (nI (n - 1)) hq rfl rfl (by decide) (by decide) (Cc_X6_removeLast l v cj hC hW hL hc21)) f_L_changes q_5_22 dL_act_247 [0, 1] [] rfl rfl (by decide) rfl rfl (Nat.le_of_ble_eq_true rfl) (by decide) (fun r_ w_ hp23 => ?_)
          obtain ⟨rfl, wk22, f', hCk22, hf', rfl⟩ := hp23
          obtain ⟨fsk22, hqk22⟩ := IC9_hd hCk22
          show GG k _ _ [wk22, cOi v ou f'] _ _ [.int (nI 0)]
          have hR9 := (congrArg (fun x => acX v e x (P, n, lo, hi)) hx).trans (ac_2 (q := (P, n, lo, hi)) (by omega) hc21)
          exact E dL_act_250 rfl (rfl) (by decide) (by decide) (⟨(congrArg (fun R : Nat × HE9 × Int32 => nI R.1) hR9).symm, wk22, f', AcO_ok (tx := _) hR9 hCk22 hf', rfl⟩)
        · refine g_callW (As := [.ref cj, .int (nI 2), .int (nI 0), .int (nI 0), .int (nI 0), .ref ou]) (rest := []) (wr := []) X hnc (w3_ch2 l v cj ou (nI 0) (nI 0) (nI 0) w9 f (fun w => IC9 v cj P n lo hi H c (fun _ => 0) 0 w) ({ frames := 7, cells := 1, slots := 6, locals := 120 }) hq rfl rfl (by decide) (by decide) (by have e9 : n = 0 := (by omega); subst e9; exact Cb_X6_removeLast l v hst cj hC hW hL)) f_L_changes q_5_22 dL_act_247 [0, 1] [] rfl rfl (by decide) rfl rfl (Nat.le_of_ble_eq_true rfl) (by decide) (fun r_ w_ hp25 => ?_)
          obtain ⟨rfl, wk24, hCk24, rfl⟩ := hp25
          obtain ⟨fsk24, hqk24⟩ := IC9_hd hCk24
          show GG k _ _ [wk24, cOi v ou f] _ _ [.int (nI 3)]
          have hR9 := (congrArg (fun x => acX v e x (P, n, lo, hi)) hx).trans (ac_2n (q := (P, n, lo, hi)) (by omega) hc21)
          exact E dL_act_250 rfl (rfl) (by decide) (by decide) (⟨(congrArg (fun R : Nat × HE9 × Int32 => nI R.1) hR9).symm, wk24, f, AcO_no (tx := _) hR9 (by decide) hCk24, rfl⟩)
    · have j76 : GG k 0 0 [w9, cOi v ou f] [(7, .int (nI (isN x))), (6, .int (x >>> ((nI 4) &&& 31))), (5, .int (nI (low9 x 10))), (4, .int x), (0, .ref cj), (1, .ref (v.2.2.2 900)), (2, .int (nI e)), (3, .ref ou)] 76 [.int (nI (mny x))] := by
        refine g_istore (lv' := [(8, .int (nI (mny x))), (7, .int (nI (isN x))), (6, .int (x >>> ((nI 4) &&& 31))), (5, .int (nI (low9 x 10))), (4, .int x), (0, .ref cj), (1, .ref (v.2.2.2 900)), (2, .int (nI e)), (3, .ref ou)]) X dL_act_76 (by decide) rfl ?_
        have j107 : ∀ (w1 : va_W) (fs1 : List Value) (hC1 : IC9 v cj P n lo hi H c (fun _ => 0) 0 w1) (hq1 : ([w1] : List va_W).flatten[0]? = some (cj, .inr (6, fs1))), GG k 0 0 [w1, cOi v ou f] [(8, .int (nI (mny x))), (7, .int (nI (isN x))), (6, .int (x >>> ((nI 4) &&& 31))), (5, .int (nI (low9 x 10))), (4, .int x), (0, .ref cj), (1, .ref (v.2.2.2 900)), (2, .int (nI e)), (3, .ref ou)] 107 [.int (nI (lst x n))] := by
          intro w1 fs1 hC1 hq1
          refine g_istore (lv' := [(9, .int (nI (lst x n))), (8, .int (nI (mny x))), (7, .int (nI (isN x))), (6, .int (x >>> ((nI 4) &&& 31))), (5, .int (nI (low9 x 10))), (4, .int x), (0, .ref cj), (1, .ref (v.2.2.2 900)), (2, .int (nI e)), (3, .ref ou)]) X dL_act_107 (by decide) rfl ?_
          refine g_iconst (x := nI 0) X dL_act_109 (by decide +kernel) ?_
          refine g_istore (lv' := [(10, .int (nI 0)), (9, .int (nI (lst x n))), (8, .int (nI (mny x))), (7, .int (nI (isN x))), (6, .int (x >>> ((nI 4) &&& 31))), (5, .int (nI (low9 x 10))), (4, .int x), (0, .ref cj), (1, .ref (v.2.2.2 900)), (2, .int (nI e)), (3, .ref ou)]) X dL_act_110 (by decide) rfl ?_
          refine g_iconst (x := nI 0) X dL_act_112 (by decide +kernel) ?_
          refine g_istore (lv' := [(11, .int (nI 0)), (10, .int (nI 0)), (9, .int (nI (lst x n))), (8, .int (nI (mny x))), (7, .int (nI (isN x))), (6, .int (x >>> ((nI 4) &&& 31))), (5, .int (nI (low9 x 10))), (4, .int x), (0, .ref cj), (1, .ref (v.2.2.2 900)), (2, .int (nI e)), (3, .ref ou)]) X dL_act_113 (by decide) rfl ?_
          have lp115 : ∀ (zN : Nat) (k2 : Nat) (w2 : va_W) (fs2 : List Value) (hk2 : k2 ≤ mny x) (hC2 : IC9 v cj P n lo hi H c (txN v e (la9 (lst x n)) k2).1 (txN v e (la9 (lst x n)) k2).2 w2) (hq2 : ([w2] : List va_W).flatten[0]? = some (cj, .inr (6, fs2))) (zM : zN = mny x - k2), GG k 0 0 [w2, cOi v ou f] [(11, .int (nI k2)), (10, .int (nI ((txN v e (la9 (lst x n)) k2).2))), (9, .int (nI (lst x n))), (8, .int (nI (mny x))), (7, .int (nI (isN x))), (6, .int (x >>> ((nI 4) &&& 31))), (5, .int (nI (low9 x 10))), (4, .int x), (0, .ref cj), (1, .ref (v.2.2.2 900)), (2, .int (nI e)), (3, .ref ou)] 115 [] := by
            intro zN
            induction zN using Nat.strongRecOn with
            | _ zN zih =>
              have ih115 := zih
              clear zih
              intro k2 w2 fs2 hk2 hC2 hq2 zM
              refine g_iload X dL_act_115 0 rfl ?_
              refine g_iload X dL_act_117 3 rfl ?_
              refine g_icmp_geN (tgt := 177) X dL_act_119 (by decide) (by omega) (by omega) (fun c119 => ?_) (fun c119 => ?_)
              · refine g_aload_n X dL_act_177 8 rfl rfl ?_
                refine g_iload X dL_act_178 6 rfl ?_
                refine g_iconst (x := nI 5) X dL_act_180 (by decide +kernel) ?_
                refine g_icmp_geN (tgt := 188) X dL_act_181 (by decide) (by omega) (by omega) (fun c181 => ?_) (fun c181 => ?_)
                · refine g_iconst (x := nI 1) X dL_act_188 (by decide +kernel) ?_
                  refine g_iconst (x := nI 0) X dL_act_189 (by decide +kernel) ?_
                  refine g_iconst (x := nI 0) X dL_act_190 (by decide +kernel) ?_
                  refine g_iconst (x := nI 0) X dL_act_191 (by decide +kernel) ?_
                  refine g_aload_n X dL_act_192 11 rfl rfl ?_
                  obtain rfl : k2 = mny x := by omega
                  have hT9 := hT (mny x)
                  by_cases hc26 : adOK (txN v e (la9 (lst x n)) (mny x)).1 (txN v e (la9 (lst x n)) (mny x)).2 n
                  · refine g_callW (As := [.ref cj, .int (nI 1), .int (nI 0), .int (nI 0), .int (nI 0), .ref ou]) (rest := []) (wr := []) X hnc (w_ch1 l v cj ou (nI 0) (nI 0) (nI 0) w2 f (fun w => IC9 v cj (ap9 P n (lg9 (pAll ((txN v e (la9 (lst x n)) (mny x)).1) ((txN v e (la9 (lst x n)) (mny x)).2) 12 0 []).2.2)) (n + (pAll ((txN v e (la9 (lst x n)) (mny x)).1) ((txN v e (la9 (lst x n)) (mny x)).2) 12 0 []).2.2.length) lo hi (hS9 H c (P, n, lo, hi)) (hC9 c) ((txN v e (la9 (lst x n)) (mny x)).1) 0 w) ({ frames := 8, cells := 0, slots := 0, locals := 173 }) (nI (n + (pAll ((txN v e (la9 (lst x n)) (mny x)).1) ((txN v e (la9 (lst x n)) (mny x)).2) 12 0 []).2.2.length)) hq2 rfl rfl (by decide) (by decide) (Cc_X6_add l v cj hC2 hW hL hc26)) f_L_changes q_5_22 dL_act_193 [0, 1] [] rfl rfl (by decide) rfl rfl (Nat.le_of_ble_eq_true rfl) (by decide) (fun r_ w_ hp28 => ?_)
                    obtain ⟨rfl, wk27, f', hCk27, hf', rfl⟩ := hp28
                    obtain ⟨fsk27, hqk27⟩ := IC9_hd hCk27
                    show GG k _ _ [wk27, cOi v ou f'] _ _ [.int (nI 0)]
                    refine g_istore (lv' := [(11, .int (nI 0)), (10, .int (nI ((txN v e (la9 (lst x n)) (mny x)).2))), (9, .int (nI (lst x n))), (8, .int (nI (mny x))), (7, .int (nI (isN x))), (6, .int (x >>> ((nI 4) &&& 31))), (5, .int (nI (low9 x 10))), (4, .int x), (0, .ref cj), (1, .ref (v.2.2.2 900)), (2, .int (nI e)), (3, .ref ou)]) X dL_act_196 (by decide) rfl ?_
                    refine g_aload_n X dL_act_198 8 rfl rfl ?_
                    refine g_callV (As := []) (rest := []) (wr := [cOi v ou f']) X (Cc_X6_clearBuffer l v cj hCk27 (WF_ad hW hc26) hL ) f_X6_clearBuffer q_16_4 dL_act_199 [0] [1] rfl rfl (by decide) 0 hqk27 rfl rfl rfl (Nat.le_of_ble_eq_true rfl) (by decide) (fun r_ w_ hp30 => ?_)
                    obtain ⟨rfl, wk29, hCk29, rfl⟩ := hp30
                    obtain ⟨fsk29, hqk29⟩ := IC9_hd hCk29
                    show GG k _ _ [wk29, cOi v ou f'] _ _ [.int (nI 0)]
                    refine g_istore (lv' := [(12, .int (nI 0)), (11, .int (nI 0)), (10, .int (nI ((txN v e (la9 (lst x n)) (mny x)).2))), (9, .int (nI (lst x n))), (8, .int (nI (mny x))), (7, .int (nI (isN x))), (6, .int (x >>> ((nI 4) &&& 31))), (5, .int (nI (low9 x 10))), (4, .int x), (0, .ref cj), (1, .ref (v.2.2.2 900)), (2, .int (nI e)), (3, .ref ou)]) X dL_act_202 (by decide) rfl ?_
                    refine g_iload X dL_act_204 1 rfl ?_
                    refine g_if_neN (tgt := 214) X dL_act_206 (by decide) (by omega) (fun c206 => ?_) (fun c206 => ?_)
                    · exact absurd rfl c206
                    · refine g_iload X dL_act_209 0 rfl ?_
                      refine g_if_gtN (tgt := 226) X dL_act_211 (by decide) (by omega) (fun c211 => ?_) (fun c211 => ?_)
                      · exact absurd c211 (by decide)
                      · refine g_iload X dL_act_214 1 rfl ?_
                        refine g_if_eqN (tgt := 231) X dL_act_216 (by decide) (by omega) (fun c216 => ?_) (fun c216 => ?_)
                        · refine g_iload X dL_act_231 1 rfl ?_
                          have hR9 := (congrArg (fun x => acX v e x (P, n, lo, hi)) hx).trans (ac_1 (q := (P, n, lo, hi)) (by omega) (by omega) hc26)
                          exact E dL_act_233 rfl (rfl) (by decide) (by decide) (⟨(congrArg (fun R : Nat × HE9 × Int32 => nI R.1) hR9).symm, wk29, f', AcO_ok (tx := _) hR9 hCk29 hf', rfl⟩)
                        · exact absurd rfl c216
                  · refine g_callW (As := [.ref cj, .int (nI 1), .int (nI 0), .int (nI 0), .int (nI 0), .ref ou]) (rest := []) (wr := []) X hnc (w2_ch1 l v cj ou (nI 0) (nI 0) (nI 0) w2 f (fun w => IC9 v cj P n lo hi H c ((txN v e (la9 (lst x n)) (mny x)).1) ((txN v e (la9 (lst x n)) (mny x)).2) w) ({ frames := 8, cells := 1, slots := 6, locals := 173 }) hq2 rfl rfl (by decide) (by decide) (Cb_X6_add l v hst cj hC2 hW hL hc26)) f_L_changes q_5_22 dL_act_193 [0, 1] [] rfl rfl (by decide) rfl rfl (Nat.le_of_ble_eq_true rfl) (by decide) (fun r_ w_ hp32 => ?_)
                    obtain ⟨rfl, wk31, hCk31, rfl⟩ := hp32
                    obtain ⟨fsk31, hqk31⟩ := IC9_hd hCk31
                    show GG k _ _ [wk31, cOi v ou f] _ _ [.int (nI 2)]
                    refine g_istore (lv' := [(11, .int (nI 2)), (10, .int (nI ((txN v e (la9 (lst x n)) (mny x)).2))), (9, .int (nI (lst x n))), (8, .int (nI (mny x))), (7, .int (nI (isN x))), (6, .int (x >>> ((nI 4) &&& 31))), (5, .int (nI (low9 x 10))), (4, .int x), (0, .ref cj), (1, .ref (v.2.2.2 900)), (2, .int (nI e)), (3, .ref ou)]) X dL_act_196 (by decide) rfl ?_
                    refine g_aload_n X dL_act_198 8 rfl rfl ?_
                    refine g_callV (As := []) (rest := []) (wr := [cOi v ou f]) X (Cc_X6_clearBuffer l v cj hCk31 hW hL ) f_X6_clearBuffer q_16_4 dL_act_199 [0] [1] rfl rfl (by decide) 0 hqk31 rfl rfl rfl (Nat.le_of_ble_eq_true rfl) (by decide) (fun r_ w_ hp34 => ?_)
                    obtain ⟨rfl, wk33, hCk33, rfl⟩ := hp34
                    obtain ⟨fsk33, hqk33⟩ := IC9_hd hCk33
                    show GG k _ _ [wk33, cOi v ou f] _ _ [.int (nI ((txN v e (la9 (lst x n)) (mny x)).2))]
                    refine g_istore (lv' := [(12, .int (nI ((txN v e (la9 (lst x n)) (mny x)).2))), (11, .int (nI 2)), (10, .int (nI ((txN v e (la9 (lst x n)) (mny x)).2))), (9, .int (nI (lst x n))), (8, .int (nI (mny x))), (7, .int (nI (isN x))), (6, .int (x >>> ((nI 4) &&& 31))), (5, .int (nI (low9 x 10))), (4, .int x), (0, .ref cj), (1, .ref (v.2.2.2 900)), (2, .int (nI e)), (3, .ref ou)]) X dL_act_202 (by decide) rfl ?_
                    refine g_iload X dL_act_204 1 rfl ?_
                    refine g_if_neN (tgt := 214) X dL_act_206 (by decide) (by omega) (fun c206 => ?_) (fun c206 => ?_)
                    · refine g_iload X dL_act_214 1 rfl ?_
                      refine g_if_eqN (tgt := 231) X dL_act_216 (by decide) (by omega) (fun c216 => ?_) (fun c216 => ?_)
                      · exact absurd c216 (by decide)
                      · refine g_iload X dL_act_219 0 rfl ?_
                        refine g_iload X dL_act_221 2 rfl ?_
                        refine g_icmp_eqN (tgt := 231) X dL_act_223 (by decide) (by omega) (by omega) (fun c223 => ?_) (fun c223 => ?_)
                        · refine g_iload X dL_act_231 1 rfl ?_
                          have hR9 := (congrArg (fun x => acX v e x (P, n, lo, hi)) hx).trans (ac_1n (q := (P, n, lo, hi)) (by omega) (by omega) hc26)
                          exact E dL_act_233 rfl (rfl) (by decide) (by decide) (⟨(congrArg (fun R : Nat × HE9 × Int32 => nI R.1) hR9).symm, wk33, f, AcO_no (tx := _) hR9 (by decide) hCk33, rfl⟩)
                        · exact absurd rfl c223
                    · exact absurd c206 (by decide)
                · refine g_iconst (x := nI 0) X dL_act_184 (by decide +kernel) ?_
                  refine g_goto (tgt := 189) X dL_act_185 (by decide) ?_
                  refine g_iconst (x := nI 0) X dL_act_189 (by decide +kernel) ?_
                  refine g_iconst (x := nI 0) X dL_act_190 (by decide +kernel) ?_
                  refine g_iconst (x := nI 0) X dL_act_191 (by decide +kernel) ?_
                  refine g_aload_n X dL_act_192 11 rfl rfl ?_
                  obtain rfl : k2 = mny x := by omega
                  have hT9 := hT (mny x)
                  by_cases hc35 : ldOK (txN v e (la9 (lst x n)) (mny x)).1 (txN v e (la9 (lst x n)) (mny x)).2
                  · refine g_callW (As := [.ref cj, .int (nI 0), .int (nI 0), .int (nI 0), .int (nI 0), .ref ou]) (rest := []) (wr := []) X hnc (w_ch0 l v cj ou (nI 0) (nI 0) (nI 0) w2 f (fun w => IC9 v cj (lg9 (pAll ((txN v e (la9 (lst x n)) (mny x)).1) ((txN v e (la9 (lst x n)) (mny x)).2) 12 0 []).2.2) ((pAll ((txN v e (la9 (lst x n)) (mny x)).1) ((txN v e (la9 (lst x n)) (mny x)).2) 12 0 []).2.2.length) lo hi (hS9 H c (P, n, lo, hi)) (hC9 c) ((txN v e (la9 (lst x n)) (mny x)).1) 0 w) ({ frames := 8, cells := 0, slots := 0, locals := 173 }) (nI (pAll ((txN v e (la9 (lst x n)) (mny x)).1) ((txN v e (la9 (lst x n)) (mny x)).2) 12 0 []).2.2.length) hq2 rfl rfl (by decide) (by decide) (Cc_X6_load l v cj hC2 hW hL hc35)) f_L_changes q_5_22 dL_act_193 [0, 1] [] rfl rfl (by decide) rfl rfl (Nat.le_of_ble_eq_true rfl) (by decide) (fun r_ w_ hp37 => ?_)
                    obtain ⟨rfl, wk36, f', hCk36, hf', rfl⟩ := hp37
                    obtain ⟨fsk36, hqk36⟩ := IC9_hd hCk36
                    show GG k _ _ [wk36, cOi v ou f'] _ _ [.int (nI 0)]
                    refine g_istore (lv' := [(11, .int (nI 0)), (10, .int (nI ((txN v e (la9 (lst x n)) (mny x)).2))), (9, .int (nI (lst x n))), (8, .int (nI (mny x))), (7, .int (nI (isN x))), (6, .int (x >>> ((nI 4) &&& 31))), (5, .int (nI (low9 x 10))), (4, .int x), (0, .ref cj), (1, .ref (v.2.2.2 900)), (2, .int (nI e)), (3, .ref ou)]) X dL_act_196 (by decide) rfl ?_
                    refine g_aload_n X dL_act_198 8 rfl rfl ?_
                    refine g_callV (As := []) (rest := []) (wr := [cOi v ou f']) X (Cc_X6_clearBuffer l v cj hCk36 (WF_ld hc35) hL ) f_X6_clearBuffer q_16_4 dL_act_199 [0] [1] rfl rfl (by decide) 0 hqk36 rfl rfl rfl (Nat.le_of_ble_eq_true rfl) (by decide) (fun r_ w_ hp39 => ?_)
                    obtain ⟨rfl, wk38, hCk38, rfl⟩ := hp39
                    obtain ⟨fsk38, hqk38⟩ := IC9_hd hCk38
                    show GG k _ _ [wk38, cOi v ou f'] _ _ [.int (nI 0)]
                    refine g_istore (lv' := [(12, .int (nI 0)), (11, .int (nI 0)), (10, .int (nI ((txN v e (la9 (lst x n)) (mny x)).2))), (9, .int (nI (lst x n))), (8, .int (nI (mny x))), (7, .int (nI (isN x))), (6, .int (x >>> ((nI 4) &&& 31))), (5, .int (nI (low9 x 10))), (4, .int x), (0, .ref cj), (1, .ref (v.2.2.2 900)), (2, .int (nI e)), (3, .ref ou)]) X dL_act_202 (by decide) rfl ?_
                    refine g_iload X dL_act_204 1 rfl ?_
                    refine g_if_neN (tgt := 214) X dL_act_206 (by decide) (by omega) (fun c206 => ?_) (fun c206 => ?_)
                    · exact absurd rfl c206
                    · refine g_iload X dL_act_209 0 rfl ?_
                      refine g_if_gtN (tgt := 226) X dL_act_211 (by decide) (by omega) (fun c211 => ?_) (fun c211 => ?_)
                      · exact absurd c211 (by decide)
                      · refine g_iload X dL_act_214 1 rfl ?_
                        refine g_if_eqN (tgt := 231) X dL_act_216 (by decide) (by omega) (fun c216 => ?_) (fun c216 => ?_)
                        · refine g_iload X dL_act_231 1 rfl ?_
                          have hR9 := (congrArg (fun x => acX v e x (P, n, lo, hi)) hx).trans (ac_0 (q := (P, n, lo, hi)) (by omega) hc35)
                          exact E dL_act_233 rfl (rfl) (by decide) (by decide) (⟨(congrArg (fun R : Nat × HE9 × Int32 => nI R.1) hR9).symm, wk38, f', AcO_ok (tx := _) hR9 hCk38 hf', rfl⟩)
                        · exact absurd rfl c216
                  · refine g_callW (As := [.ref cj, .int (nI 0), .int (nI 0), .int (nI 0), .int (nI 0), .ref ou]) (rest := []) (wr := []) X hnc (w2_ch0 l v cj ou (nI 0) (nI 0) (nI 0) w2 f (fun w => IC9 v cj P n lo hi H c ((txN v e (la9 (lst x n)) (mny x)).1) ((txN v e (la9 (lst x n)) (mny x)).2) w) ({ frames := 8, cells := 1, slots := 6, locals := 173 }) hq2 rfl rfl (by decide) (by decide) (Cb_X6_load l v hst cj hC2 hW hL hc35)) f_L_changes q_5_22 dL_act_193 [0, 1] [] rfl rfl (by decide) rfl rfl (Nat.le_of_ble_eq_true rfl) (by decide) (fun r_ w_ hp41 => ?_)
                    obtain ⟨rfl, wk40, hCk40, rfl⟩ := hp41
                    obtain ⟨fsk40, hqk40⟩ := IC9_hd hCk40
                    show GG k _ _ [wk40, cOi v ou f] _ _ [.int (nI 2)]
                    refine g_istore (lv' := [(11, .int (nI 2)), (10, .int (nI ((txN v e (la9 (lst x n)) (mny x)).2))), (9, .int (nI (lst x n))), (8, .int (nI (mny x))), (7, .int (nI (isN x))), (6, .int (x >>> ((nI 4) &&& 31))), (5, .int (nI (low9 x 10))), (4, .int x), (0, .ref cj), (1, .ref (v.2.2.2 900)), (2, .int (nI e)), (3, .ref ou)]) X dL_act_196 (by decide) rfl ?_
                    refine g_aload_n X dL_act_198 8 rfl rfl ?_
                    refine g_callV (As := []) (rest := []) (wr := [cOi v ou f]) X (Cc_X6_clearBuffer l v cj hCk40 hW hL ) f_X6_clearBuffer q_16_4 dL_act_199 [0] [1] rfl rfl (by decide) 0 hqk40 rfl rfl rfl (Nat.le_of_ble_eq_true rfl) (by decide) (fun r_ w_ hp43 => ?_)
                    obtain ⟨rfl, wk42, hCk42, rfl⟩ := hp43
                    obtain ⟨fsk42, hqk42⟩ := IC9_hd hCk42
                    show GG k _ _ [wk42, cOi v ou f] _ _ [.int (nI ((txN v e (la9 (lst x n)) (mny x)).2))]
                    refine g_istore (lv' := [(12, .int (nI ((txN v e (la9 (lst x n)) (mny x)).2))), (11, .int (nI 2)), (10, .int (nI ((txN v e (la9 (lst x n)) (mny x)).2))), (9, .int (nI (lst x n))), (8, .int (nI (mny x))), (7, .int (nI (isN x))), (6, .int (x >>> ((nI 4) &&& 31))), (5, .int (nI (low9 x 10))), (4, .int x), (0, .ref cj), (1, .ref (v.2.2.2 900)), (2, .int (nI e)), (3, .ref ou)]) X dL_act_202 (by decide) rfl ?_
                    refine g_iload X dL_act_204 1 rfl ?_
                    refine g_if_neN (tgt := 214) X dL_act_206 (by decide) (by omega) (fun c206 => ?_) (fun c206 => ?_)
                    · refine g_iload X dL_act_214 1 rfl ?_
                      refine g_if_eqN (tgt := 231) X dL_act_216 (by decide) (by omega) (fun c216 => ?_) (fun c216 => ?_)
                      · exact absurd c216 (by decide)
                      · refine g_iload X dL_act_219 0 rfl ?_
                        refine g_iload X dL_act_221 2 rfl ?_
                        refine g_icmp_eqN (tgt := 231) X dL_act_223 (by decide) (by omega) (by omega) (fun c223 => ?_) (fun c223 => ?_)
                        · refine g_iload X dL_act_231 1 rfl ?_
                          have hR9 := (congrArg (fun x => acX v e x (P, n, lo, hi)) hx).trans (ac_0n (q := (P, n, lo, hi)) (by omega) hc35)
                          exact E dL_act_233 rfl (rfl) (by decide) (by decide) (⟨(congrArg (fun R : Nat × HE9 × Int32 => nI R.1) hR9).symm, wk42, f, AcO_no (tx := _) hR9 (by decide) hCk42, rfl⟩)
                        · exact absurd rfl c223
                    · exact absurd c206 (by decide)
              · have hT9 := hT k2
                have j139 : ∀ (w3 : va_W) (fs3 : List Value) (hC3 : IC9 v cj P n lo hi H c (if 0 < k2 then pu9 (txN v e (la9 (lst x n)) k2) 59 else (txN v e (la9 (lst x n)) k2)).1 (if 0 < k2 then pu9 (txN v e (la9 (lst x n)) k2) 59 else (txN v e (la9 (lst x n)) k2)).2 w3) (hq3 : ([w3] : List va_W).flatten[0]? = some (cj, .inr (6, fs3))), GG k 0 0 [w3, cOi v ou f] [(11, .int (nI k2)), (9, .int (nI (lst x n))), (8, .int (nI (mny x))), (7, .int (nI (isN x))), (6, .int (x >>> ((nI 4) &&& 31))), (5, .int (nI (low9 x 10))), (4, .int x), (0, .ref cj), (1, .ref (v.2.2.2 900)), (2, .int (nI e)), (3, .ref ou)] 139 [] := by
                  intro w3 fs3 hC3 hq3
                  refine g_aload_n X dL_act_139 7 rfl rfl ?_
                  refine g_aload_n X dL_act_140 8 rfl rfl ?_
                  refine g_iconst (x := nI 5) X dL_act_141 (by decide +kernel) ?_
                  refine g_iload_n X dL_act_142 9 rfl rfl ?_
                  refine g_imulN X dL_act_143 ?_
                  refine g_iconst (x := nI 1) X dL_act_144 (by decide +kernel) ?_
                  refine g_iaddN X dL_act_145 ?_
                  refine g_iload X dL_act_146 0 rfl ?_
                  refine g_iaddN X dL_act_148 ?_
                  refine g_callS (As := [.ref (v.2.2.2 900), .int (nI (((5 * e) + 1) + k2))]) (rest := [.ref cj]) (wr := [w3, cOi v ou f]) X (c_L_cell l v (((5 * e) + 1) + k2) (by omega) hL9) f_L_cell q_4_11 dL_act_149 [] [0, 1] rfl rfl (by decide) rfl rfl (Nat.le_of_ble_eq_true rfl) (by decide) (fun r_ w_ hp44 => ?_)
                  obtain ⟨rfl, rfl⟩ := hp44
                  show GG k _ _ [w3, cOi v ou f] _ _ [.int (cl9 v (((5 * e) + 1) + k2)), .ref cj]
                  have j166 : GG k 0 0 [w3, cOi v ou f] [(11, .int (nI k2)), (9, .int (nI (lst x n))), (8, .int (nI (mny x))), (7, .int (nI (isN x))), (6, .int (x >>> ((nI 4) &&& 31))), (5, .int (nI (low9 x 10))), (4, .int x), (0, .ref cj), (1, .ref (v.2.2.2 900)), (2, .int (nI e)), (3, .ref ou)] 166 [.int (nI (la9 (lst x n))), .int (cl9 v (((5 * e) + 1) + k2)), .ref cj] := by
                    refine g_callS (As := [.ref cj, .int (cl9 v (((5 * e) + 1) + k2)), .int (nI (la9 (lst x n)))]) (rest := []) (wr := [cOi v ou f]) X (c_L_typed l v cj (cl9 v (((5 * e) + 1) + k2)) (la9 (lst x n)) (if 0 < k2 then pu9 (txN v e (la9 (lst x n)) k2) 59 else (txN v e (la9 (lst x n)) k2)) hC3 hW hL (by have : (if 0 < k2 then pu9 (txN v e (la9 (lst x n)) k2) 59 else (txN v e (la9 (lst x n)) k2)).2 ≤ 7 * k2 + 1 := by { split; { rw [pu9_2]; omega }; { omega } }; omega) (by omega) (by omega)) f_L_typed q_5_19 dL_act_166 [0] [1] rfl rfl (by decide) rfl rfl (Nat.le_of_ble_eq_true rfl) (by decide) (fun r_ w_ hp46 => ?_)
                    obtain ⟨rfl, wk45, hCk45, rfl⟩ := hp46
                    obtain ⟨fsk45, hqk45⟩ := IC9_hd hCk45
                    show GG k _ _ [wk45, cOi v ou f] _ _ [.int (nI ((tyT (cl9 v (((5 * e) + 1) + k2)) (la9 (lst x n)) (if 0 < k2 then pu9 (txN v e (la9 (lst x n)) k2) 59 else (txN v e (la9 (lst x n)) k2))).2))]
                    refine g_istore (lv' := [(10, .int (nI ((tyT (cl9 v (((5 * e) + 1) + k2)) (la9 (lst x n)) (if 0 < k2 then pu9 (txN v e (la9 (lst x n)) k2) 59 else (txN v e (la9 (lst x n)) k2))).2))), (11, .int (nI k2)), (9, .int (nI (lst x n))), (8, .int (nI (mny x))), (7, .int (nI (isN x))), (6, .int (x >>> ((nI 4) &&& 31))), (5, .int (nI (low9 x 10))), (4, .int x), (0, .ref cj), (1, .ref (v.2.2.2 900)), (2, .int (nI e)), (3, .ref ou)]) X dL_act_169 (by decide) rfl ?_
                    refine g_iinc (y := nI (k2 + 1)) (lv' := [(11, .int (nI (k2 + 1))), (10, .int (nI ((tyT (cl9 v (((5 * e) + 1) + k2)) (la9 (lst x n)) (if 0 < k2 then pu9 (txN v e (la9 (lst x n)) k2) 59 else (txN v e (la9 (lst x n)) k2))).2))), (9, .int (nI (lst x n))), (8, .int (nI (mny x))), (7, .int (nI (isN x))), (6, .int (x >>> ((nI 4) &&& 31))), (5, .int (nI (low9 x 10))), (4, .int x), (0, .ref cj), (1, .ref (v.2.2.2 900)), (2, .int (nI e)), (3, .ref ou)]) (j := 1) X dL_act_171 rfl (nI_add k2 1) (by decide) rfl ?_
                    refine g_goto (tgt := 115) X dL_act_174 (by decide) ?_
                    exact ih115 _ (by omega) (k2 + 1) wk45 _ (by omega) (by first | exact hCk45 | (simp only [txN]; exact hCk45)) hqk45 rfl
                  refine g_iload X dL_act_152 1 rfl ?_
                  refine g_bipush (x := nI 10) X dL_act_154 (by decide +kernel) ?_
                  refine g_icmp_geN (tgt := 164) X dL_act_156 (by decide) (by omega) (by omega) (fun c156 => ?_) (fun c156 => ?_)
                  · refine g_bipush (x := nI 10) X dL_act_164 (by decide +kernel) ?_
                    refine g_v (y := nI (la9 (lst x n))) (by unfold la9; repeat (first | rw [if_pos (by omega)] | rw [if_neg (by omega)])) ?_
                    exact j166 
                  · refine g_iload X dL_act_159 1 rfl ?_
                    refine g_goto (tgt := 166) X dL_act_161 (by decide) ?_
                    refine g_v (y := nI (la9 (lst x n))) (by unfold la9; repeat (first | rw [if_pos (by omega)] | rw [if_neg (by omega)])) ?_
                    exact j166 
                refine g_iload X dL_act_122 0 rfl ?_
                refine g_if_leN (tgt := 136) X dL_act_124 (by decide) (by omega) (fun c124 => ?_) (fun c124 => ?_)
                · refine g_iconst (x := nI 0) X dL_act_136 (by decide +kernel) ?_
                  refine g_istore (lv' := [(10, .int (nI 0)), (11, .int (nI k2)), (9, .int (nI (lst x n))), (8, .int (nI (mny x))), (7, .int (nI (isN x))), (6, .int (x >>> ((nI 4) &&& 31))), (5, .int (nI (low9 x 10))), (4, .int x), (0, .ref cj), (1, .ref (v.2.2.2 900)), (2, .int (nI e)), (3, .ref ou)]) X dL_act_137 (by decide) rfl ?_
                  refine g_lv (lv' := [(11, .int (nI k2)), (9, .int (nI (lst x n))), (8, .int (nI (mny x))), (7, .int (nI (isN x))), (6, .int (x >>> ((nI 4) &&& 31))), (5, .int (nI (low9 x 10))), (4, .int x), (0, .ref cj), (1, .ref (v.2.2.2 900)), (2, .int (nI e)), (3, .ref ou)]) [1, 2, 3, 4, 5, 6, 7, 8, 9, 10, 11] rfl ?_
                  exact j139 w2 _ (by rw [if_neg (by omega)]; exact hC2) hq2
                · refine g_aload_n X dL_act_127 8 rfl rfl ?_
                  refine g_bipush (x := nI 59) X dL_act_128 (by decide +kernel) ?_
                  refine g_callV (As := [.int (nI 59)]) (rest := []) (wr := [cOi v ou f]) X (Cc_X6_append l v cj hC2 hW hL 59 (by omega) (by omega) (by omega)) f_X6_append q_5_6 dL_act_130 [0] [1] rfl rfl (by decide) 0 hq2 rfl rfl rfl (Nat.le_of_ble_eq_true rfl) (by decide) (fun r_ w_ hp48 => ?_)
                  obtain ⟨rfl, wk47, hCk47, rfl⟩ := hp48
                  obtain ⟨fsk47, hqk47⟩ := IC9_hd hCk47
                  show GG k _ _ [wk47, cOi v ou f] _ _ [.int (nI (((txN v e (la9 (lst x n)) k2).2) + 1))]
                  refine g_goto (tgt := 137) X dL_act_133 (by decide) ?_
                  refine g_istore (lv' := [(10, .int (nI (((txN v e (la9 (lst x n)) k2).2) + 1))), (11, .int (nI k2)), (9, .int (nI (lst x n))), (8, .int (nI (mny x))), (7, .int (nI (isN x))), (6, .int (x >>> ((nI 4) &&& 31))), (5, .int (nI (low9 x 10))), (4, .int x), (0, .ref cj), (1, .ref (v.2.2.2 900)), (2, .int (nI e)), (3, .ref ou)]) X dL_act_137 (by decide) rfl ?_
                  refine g_lv (lv' := [(11, .int (nI k2)), (9, .int (nI (lst x n))), (8, .int (nI (mny x))), (7, .int (nI (isN x))), (6, .int (x >>> ((nI 4) &&& 31))), (5, .int (nI (low9 x 10))), (4, .int x), (0, .ref cj), (1, .ref (v.2.2.2 900)), (2, .int (nI e)), (3, .ref ou)]) [1, 2, 3, 4, 5, 6, 7, 8, 9, 10, 11] rfl ?_
                  exact j139 wk47 _ (by rw [if_pos (by omega)]; exact hCk47) hqk47
          exact lp115 _ 0 w1 _ (Nat.zero_le _) hC1 hq1 rfl
        refine g_iload X dL_act_78 1 rfl ?_
        refine g_if_eqN (tgt := 105) X dL_act_80 (by decide) (by omega) (fun c80 => ?_) (fun c80 => ?_)
        · refine g_bipush (x := nI 10) X dL_act_105 (by decide +kernel) ?_
          refine g_v (y := nI (lst x n)) (by unfold lst; repeat (first | rw [if_pos (by omega)] | rw [if_neg (by omega)])) ?_
          exact j107 w9 _ hC hq
        · refine g_iload X dL_act_83 0 rfl ?_
          refine g_iload X dL_act_85 3 rfl ?_
          refine g_iconst (x := nI 5) X dL_act_87 (by decide +kernel) ?_
          refine g_icmp_geN (tgt := 95) X dL_act_88 (by decide) (by omega) (by omega) (fun c88 => ?_) (fun c88 => ?_)
          · refine g_aload_n X dL_act_95 5 rfl rfl ?_
            refine g_callV (As := []) (rest := [.int (nI (mny x))]) (wr := [cOi v ou f]) X (Cc_X6_statements l v cj hC hW hL ) f_X6_statements q_5_2 dL_act_96 [0] [1] rfl rfl (by decide) 0 hq rfl rfl rfl (Nat.le_of_ble_eq_true rfl) (by decide) (fun r_ w_ hp50 => ?_)
            obtain ⟨rfl, wk49, hCk49, rfl⟩ := hp50
            obtain ⟨fsk49, hqk49⟩ := IC9_hd hCk49
            show GG k _ _ [wk49, cOi v ou f] _ _ [.int (nI n), .int (nI (mny x))]
            refine g_iaddN X dL_act_99 ?_
            refine g_iconst (x := nI 1) X dL_act_100 (by decide +kernel) ?_
            refine g_iaddN X dL_act_101 ?_
            refine g_goto (tgt := 107) X dL_act_102 (by decide) ?_
            refine g_v (y := nI (lst x n)) (by unfold lst; repeat (first | rw [if_pos (by omega)] | rw [if_neg (by omega)])) ?_
            exact j107 wk49 _ hCk49 hqk49
          · refine g_iconst (x := nI 0) X dL_act_91 (by decide +kernel) ?_
            refine g_goto (tgt := 99) X dL_act_92 (by decide) ?_
            refine g_iaddN X dL_act_99 ?_
            refine g_iconst (x := nI 1) X dL_act_100 (by decide +kernel) ?_
            refine g_iaddN X dL_act_101 ?_
            refine g_goto (tgt := 107) X dL_act_102 (by decide) ?_
            refine g_v (y := nI (lst x n)) (by unfold lst; repeat (first | rw [if_pos (by omega)] | rw [if_neg (by omega)])) ?_
            exact j107 w9 _ hC hq
      refine g_iload X dL_act_51 2 rfl ?_
      refine g_iconst (x := nI 5) X dL_act_53 (by decide +kernel) ?_
      refine g_icmp_geN (tgt := 68) X dL_act_54 (by decide) (by omega) (by omega) (fun c54 => ?_) (fun c54 => ?_)
      · refine g_iconst (x := nI 1) X dL_act_68 (by decide +kernel) ?_
        refine g_iload X dL_act_69 1 rfl ?_
        refine g_iconst (x := nI 2) X dL_act_71 (by decide +kernel) ?_
        refine g_callS (As := [.int (x >>> ((nI 4) &&& 31)), .int (nI 2)]) (rest := [.int (nI 1)]) (wr := [w9, cOi v ou f]) X (c_L_low l v (x >>> ((nI 4) &&& 31)) 2 (by omega) (by omega)) f_L_low q_4_22 dL_act_72 [] [0, 1] rfl rfl (by decide) rfl rfl (Nat.le_of_ble_eq_true rfl) (by decide) (fun r_ w_ hp51 => ?_)
        obtain ⟨rfl, rfl⟩ := hp51
        have hl72 := low9_lt (x >>> ((nI 4) &&& 31)) (m := 2) (by omega)
        show GG k _ _ [w9, cOi v ou f] _ _ [.int (nI (low9 (x >>> ((nI 4) &&& 31)) 2)), .int (nI 1)]
        refine g_iaddN X dL_act_75 ?_
        refine g_v (y := nI (mny x)) (by unfold mny; repeat (first | rw [if_pos (by omega)] | rw [if_neg (by omega)])) ?_
        exact j76 
      · refine g_iconst (x := nI 1) X dL_act_57 (by decide +kernel) ?_
        refine g_iload X dL_act_58 1 rfl ?_
        refine g_iconst (x := nI 4) X dL_act_60 (by decide +kernel) ?_
        refine g_callS (As := [.int (x >>> ((nI 4) &&& 31)), .int (nI 4)]) (rest := [.int (nI 1)]) (wr := [w9, cOi v ou f]) X (c_L_low l v (x >>> ((nI 4) &&& 31)) 4 (by omega) (by omega)) f_L_low q_4_22 dL_act_61 [] [0, 1] rfl rfl (by decide) rfl rfl (Nat.le_of_ble_eq_true rfl) (by decide) (fun r_ w_ hp52 => ?_)
        obtain ⟨rfl, rfl⟩ := hp52
        have hl61 := low9_lt (x >>> ((nI 4) &&& 31)) (m := 4) (by omega)
        show GG k _ _ [w9, cOi v ou f] _ _ [.int (nI (low9 (x >>> ((nI 4) &&& 31)) 4)), .int (nI 1)]
        refine g_iaddN X dL_act_64 ?_
        refine g_goto (tgt := 76) X dL_act_65 (by decide) ?_
        refine g_v (y := nI (mny x)) (by unfold mny; repeat (first | rw [if_pos (by omega)] | rw [if_neg (by omega)])) ?_
        exact j76 
  refine g_iload X dL_act_24 2 rfl ?_
  refine g_bipush (x := nI 22) X dL_act_26 (by decide +kernel) ?_
  refine g_ishr X dL_act_28 ?_
  refine g_bipush (x := nI 7) X dL_act_29 (by decide +kernel) ?_
  refine g_callS (As := [.int (x >>> ((nI 22) &&& 31)), .int (nI 7)]) (rest := []) (wr := [w9, cOi v ou f]) X (c_L_low l v (x >>> ((nI 22) &&& 31)) 7 (by omega) (by omega)) f_L_low q_4_22 dL_act_31 [] [0, 1] rfl rfl (by decide) rfl rfl (Nat.le_of_ble_eq_true rfl) (by decide) (fun r_ w_ hp53 => ?_)
  obtain ⟨rfl, rfl⟩ := hp53
  have hl31 := low9_lt (x >>> ((nI 22) &&& 31)) (m := 7) (by omega)
  show GG k _ _ [w9, cOi v ou f] _ _ [.int (nI (low9 (x >>> ((nI 22) &&& 31)) 7))]
  refine g_if_leN (tgt := 41) X dL_act_34 (by decide) (by omega) (fun c34 => ?_) (fun c34 => ?_)
  · refine g_iconst (x := nI 0) X dL_act_41 (by decide +kernel) ?_
    refine g_v (y := nI (isN x)) (by unfold isN; repeat (first | rw [if_pos (by omega)] | rw [if_neg (by omega)])) ?_
    exact j42 
  · refine g_iconst (x := nI 1) X dL_act_37 (by decide +kernel) ?_
    refine g_goto (tgt := 42) X dL_act_38 (by decide) ?_
    refine g_v (y := nI (isN x)) (by unfold isN; repeat (first | rw [if_pos (by omega)] | rw [if_neg (by omega)])) ?_
    exact j42 

