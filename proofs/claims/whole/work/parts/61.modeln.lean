/-! ## the model: widest -/
theorem nI_pr {c : Nat} (h : 0 < c) : nI c + zI (-1) = nI (c - 1) := by
  rw [zI_nI c, zI_nI (c - 1), zI_add]
  congr 1
  omega
def fr9 (m u q : Nat) : Bool := (List.range 8).all (fun x => !(decide (u ≤ x) && decide (x ≤ q) && decide (m / 2 ^ x % 2 = 1)))
def wI (m c : Nat) : Nat → Int
  | 0 => -1
  | k + 1 => if fr9 m (8 - c - k) (8 - c - k + c - 1) then ((10 * (8 - c - k) + (8 - c - k + c - 1) : Nat) : Int) else wI m c k
def wO (m : Nat) : Nat → Int
  | 0 => -1
  | j + 1 => if wO m j = -1 then wI m (8 - j) (j + 1) else wO m j
theorem wO_wr : ∀ m : Nat, m < 256 → wO m 8 = (wrF m 8).1 := by decide +kernel
theorem fr9_iff {m u q : Nat} (hq : q ≤ 7) : fr9 m u q = true ↔ ∀ x, u ≤ x → x ≤ q → ¬ m / 2 ^ x % 2 = 1 := by
  unfold fr9
  rw [List.all_eq_true]
  constructor
  · intro h x h1 h2 h3
    have := h x (List.mem_range.mpr (by omega))
    rw [decide_eq_true h1, decide_eq_true h2, decide_eq_true h3] at this
    cases this
  · intro h x _
    by_cases h1 : u ≤ x
    · by_cases h2 : x ≤ q
      · rw [decide_eq_false (h x h1 h2), Bool.and_false]; rfl
      · rw [decide_eq_false h2, Bool.and_false, Bool.false_and]; rfl
    · rw [decide_eq_false h1, Bool.false_and, Bool.false_and]; rfl
theorem wI_hit {m c T : Nat} (hT : T + 1 ≤ 9 - c) (h : fr9 m T (T + c - 1) = true) : wI m c (9 - c - T) = ((10 * T + (T + c - 1) : Nat) : Int) := by
  obtain ⟨k, hk⟩ : ∃ k, 9 - c - T = k + 1 := ⟨9 - c - T - 1, by omega⟩
  rw [hk]
  show (if fr9 m (8 - c - k) (8 - c - k + c - 1) = true then _ else _) = _
  rw [show 8 - c - k = T from by omega, if_pos h]
theorem wI_miss {m c T : Nat} (hT : T + 1 ≤ 9 - c) (h : ¬ fr9 m T (T + c - 1) = true) : wI m c (9 - c - T) = wI m c (9 - c - (T + 1)) := by
  obtain ⟨k, hk⟩ : ∃ k, 9 - c - T = k + 1 := ⟨9 - c - T - 1, by omega⟩
  rw [hk]
  show (if fr9 m (8 - c - k) (8 - c - k + c - 1) = true then _ else _) = _
  rw [show 8 - c - k = T from by omega, if_neg h, show 9 - c - (T + 1) = k from by omega]
theorem wI_rng (m c : Nat) (hc : c ≤ 8) : ∀ k, -1 ≤ wI m c k ∧ wI m c k < 200
  | 0 => ⟨Int.le_refl (-1), by show (-1 : Int) < 200; decide⟩
  | k + 1 => by
    have := wI_rng m c hc k
    show -1 ≤ (if fr9 m (8 - c - k) (8 - c - k + c - 1) = true then _ else _) ∧ (if fr9 m (8 - c - k) (8 - c - k + c - 1) = true then _ else _) < _
    split <;> omega
theorem wO_rng (m : Nat) : ∀ j, -1 ≤ wO m j ∧ wO m j < 200
  | 0 => ⟨Int.le_refl (-1), by show (-1 : Int) < 200; decide⟩
  | j + 1 => by
    have := wO_rng m j
    have := wI_rng m (8 - j) (by omega) (j + 1)
    show -1 ≤ (if wO m j = -1 then _ else _) ∧ (if wO m j = -1 then _ else _) < _
    split <;> omega
theorem wO_keep {m j : Nat} (h : ¬ wO m j = -1) : ∀ k, wO m (j + k) = wO m j
  | 0 => rfl
  | k + 1 => by
    have ih := wO_keep h k
    show (if wO m (j + k) = -1 then _ else wO m (j + k)) = _
    rw [ih, if_neg h]
theorem wO_step {m c : Nat} (hc : 0 < c) (h8 : c ≤ 8) (h : wO m (8 - c) = -1) : wO m (8 - (c - 1)) = wI m c (9 - c) := by
  rw [show 8 - (c - 1) = (8 - c) + 1 from by omega]
  show (if wO m (8 - c) = -1 then _ else _) = _
  rw [if_pos h, show 8 - (8 - c) = c from by omega, show 8 - c + 1 = 9 - c from by omega]
theorem ab9_w {lo hi : Nat → Nat} {w u q t : Nat} (hw : w < 3) : ab9 (hU9 lo w u) (hU9 hi w q) (-1) t = true ↔ (ab9 lo hi w t = true ∧ u ≤ val t w ∧ val t w ≤ q) := by
  unfold ab9
  rw [decide_eq_true_iff, decide_eq_true_iff]
  constructor
  · intro h
    have hh := h w hw (by omega)
    rw [hU9_eq, hU9_eq] at hh
    refine ⟨fun j hj hne => ?_, hh⟩
    have := h j hj (by omega)
    rwa [hU9_ne (by omega), hU9_ne (by omega)] at this
  · intro ⟨h, h2⟩ j hj _
    by_cases z : j = w
    · subst z; rw [hU9_eq, hU9_eq]; exact h2
    · rw [hU9_ne z, hU9_ne z]; exact h j hj (by omega)
theorem pfV_1 {lo hi : Nat → Nat} {P : Nat → S9} {n : Nat} (hW : WF P n) : pfV lo hi P n = 1 ↔ ∀ t, t < 512 → ab9 lo hi (-1) t = true → 1000 ≤ EE P n t := by
  unfold pfV
  constructor
  · intro h t ht ha
    split at h
    · omega
    · rename_i h1
      split at h
      · omega
      · rename_i h2
        have e1 := ctb_zero.mp (show ctb (jF lo hi P n) 512 = 0 by omega) t ht
        have e2 := ctb_zero.mp (show ctb (jE lo hi P n) 512 = 0 by omega) t ht
        have hr := EE_rng hW (show t < 512 * (n + 1) by omega)
        unfold jF at e1
        unfold jE at e2
        rw [ha, Bool.true_and] at e1 e2
        have e1 := of_decide_eq_false e1
        have e2 := of_decide_eq_false e2
        omega
  · intro h
    have e1 : ctb (jF lo hi P n) 512 = 0 := ctb_zero.mpr (fun t ht => by
      unfold jF
      cases ha : ab9 lo hi (-1) t with
      | false => rfl
      | true => rw [Bool.true_and]; have := h t ht ha; exact decide_eq_false (by omega))
    have e2 : ctb (jE lo hi P n) 512 = 0 := ctb_zero.mpr (fun t ht => by
      unfold jE
      cases ha : ab9 lo hi (-1) t with
      | false => rfl
      | true => rw [Bool.true_and]; have := h t ht ha; exact decide_eq_false (by omega))
    rw [e1, e2]
    rfl
theorem pfV_rng {lo hi : Nat → Nat} {P : Nat → S9} {n : Nat} : 0 ≤ pfV lo hi P n ∧ pfV lo hi P n ≤ 2 := by
  unfold pfV
  split
  · omega
  · split <;> omega
theorem pfV_fr {lo hi : Nat → Nat} {P : Nat → S9} {n w m u q : Nat} (hW : WF P n) (hw : w < 3) (hq : q ≤ 7) (hM : MkR lo hi P n w 512 m) : pfV (hU9 lo w u) (hU9 hi w q) P n = 1 ↔ fr9 m u q = true := by
  rw [pfV_1 hW, fr9_iff hq]
  constructor
  · intro h x h1 h2 h3
    obtain ⟨t, a, b, c, d⟩ := (hM.2 x (by omega)).mp h3
    have := h t a ((ab9_w hw).mpr ⟨b, by omega, by omega⟩)
    omega
  · intro h t ht ha
    obtain ⟨b, c, d⟩ := (ab9_w hw).mp ha
    rcases Int.lt_or_le (EE P n t) 1000 with z | z
    · exact absurd ((hM.2 (val t w) (by omega)).mpr ⟨t, ht, b, z, rfl⟩) (h _ c d)
    · exact z
theorem MkR_ex {lo hi : Nat → Nat} {P : Nat → S9} {n w : Nat} : ∀ T, ∃ m, MkR lo hi P n w T m
  | 0 => ⟨0, MkR_0⟩
  | T + 1 => by
    obtain ⟨m, h⟩ := MkR_ex T
    by_cases z : ab9 lo hi w T = true ∧ EE P n T < 1000
    · exact ⟨_, MkR_set h z.1 z.2⟩
    · exact ⟨_, MkR_skip h z⟩
theorem SR_upA {P : Nat → S9} {n : Nat} {lo hi : Nat → Nat} {f g : Nat → Int32} {w u q : Nat} (hn : n ≤ 12) (hw : w < 3) (h : SR P n lo hi f) (hA : ∀ m, m ≠ 61 + 2 * w → m ≠ 61 + 2 * w + 1 → g m = f m) : SR P n (hU9 lo w u) (hU9 hi w q) (upd (upd g (61 + 2 * w) (nI u)) (61 + 2 * w + 1) (nI q)) := SR_cong hn (SR_up hn hw h) (fun k _ => by
  by_cases z : k = 61 + 2 * w + 1
  · rw [z]; exact pk_us.trans pk_us.symm
  · rw [pk_un z, pk_un z]
    by_cases z2 : k = 61 + 2 * w
    · rw [z2]; exact pk_us.trans pk_us.symm
    · rw [pk_un z2, pk_un z2]; exact hA k z2 z)
theorem up_back {f g : Nat → Int32} {a b : Nat} (hab : a ≠ b) (hA : ∀ m, m ≠ a → m ≠ b → g m = f m) : upd (upd g a (f a)) b (f b) = f := funext fun k => by
  by_cases z : k = b
  · rw [z]; exact pk_us
  · rw [pk_un z]
    by_cases z2 : k = a
    · rw [z2]; exact pk_us
    · rw [pk_un z2]; exact hA k z2 z
theorem up_hA {f g : Nat → Int32} {a b : Nat} {x y : Int32} (hA : ∀ m, m ≠ a → m ≠ b → g m = f m) : ∀ m, m ≠ a → m ≠ b → upd (upd g a x) b y m = f m := fun m h1 h2 => (pk_un h2).trans ((pk_un h1).trans (hA m h1 h2))

set_option maxHeartbeats 4000000 in
set_option maxRecDepth 100000 in
theorem c_X7_widestOf (l : Launch) (v : VV) (mo : Nat → Nat) (th : Int32) (sm : Nat) (ln : Nat) (rm : Int32) (fa : Int32) (sp : Int32) (wr : Int32) (dd : Int64) (P : Nat → S9) (n : Nat) (lo : Nat → Nat) (hi : Nat → Nat) (fs : Nat → Int32) (fe : Nat → Int32) (w : Nat) (hW : WF P n) (hS : SR P n lo hi fs) (hL : AsW lo hi) (hE : ∀ q, q < 512 * (n + 1) → fe q = zI (EE P n q)) (hw9 : w < 3) : MI l v yX7_widestOf cX7_widestOf 8 (some .int) ({ frames := 4, cells := 0, slots := 0, locals := 89 }) [.ref (mo 0), .int (nI w)] [[((mo 0), .inr (7, [.int th, .ref (mo 1), .ref (mo 2), .int (nI sm), .ref (mo 3), .int (nI ln), .ref (mo 4), .int rm, .int fa, .ref (mo 5), .ref (mo 6), .int sp, .int wr, .long dd]))], cMs v mo fs, cMe v mo fe] (fun r w_ => r = zI (wdV lo hi P n w) ∧ w_ = [[((mo 0), .inr (7, [.int th, .ref (mo 1), .ref (mo 2), .int (nI sm), .ref (mo 3), .int (nI ln), .ref (mo 4), .int rm, .int fa, .ref (mo 5), .ref (mo 6), .int sp, .int wr, .long dd]))], cMs v mo fs, cMe v mo fe]) 0 0 := by
  refine mm_int (by decide) (Nat.le_of_ble_eq_true rfl) [(0, .ref (mo 0)), (1, .int (nI w))] rfl (fun k X E => ?_)
  have hn12 := hW.1
  obtain ⟨m9, hM⟩ := MkR_ex (lo := lo) (hi := hi) (P := P) (n := n) (w := w) 512
  refine g_bipush (x := nI 61) X dX7_widestOf_0 (by decide +kernel) ?_
  refine g_iconst (x := nI 2) X dX7_widestOf_2 (by decide +kernel) ?_
  refine g_iload_n X dX7_widestOf_3 1 rfl rfl ?_
  refine g_imulN X dX7_widestOf_4 ?_
  refine g_iaddN X dX7_widestOf_5 ?_
  refine g_v (y := nI (61 + 2 * w)) (rfl) ?_
  refine g_istore_n (lv' := [(2, .int (nI (61 + 2 * w))), (0, .ref (mo 0)), (1, .int (nI w))]) X dX7_widestOf_6 rfl (by decide) rfl ?_
  refine g_aload_n X dX7_widestOf_7 1 rfl rfl ?_
  refine g_get X cb7 1 q_4_18 dX7_widestOf_8 0 0 rfl rfl (by decide) rfl rfl ?_
  refine g_iload_n X dX7_widestOf_11 0 rfl rfl ?_
  refine g_iald X dX7_widestOf_12 1 0 rfl rfl (by omega) (by omega) ?_
  refine g_istore_n (lv' := [(3, .int (fs (61 + 2 * w))), (2, .int (nI (61 + 2 * w))), (0, .ref (mo 0)), (1, .int (nI w))]) X dX7_widestOf_13 rfl (by decide) rfl ?_
  refine g_aload_n X dX7_widestOf_14 2 rfl rfl ?_
  refine g_get X cb7 1 q_4_18 dX7_widestOf_15 0 0 rfl rfl (by decide) rfl rfl ?_
  refine g_iload_n X dX7_widestOf_18 1 rfl rfl ?_
  refine g_iconst (x := nI 1) X dX7_widestOf_19 (by decide +kernel) ?_
  refine g_iaddN X dX7_widestOf_20 ?_
  refine g_v (y := nI (61 + 2 * w + 1)) (rfl) ?_
  refine g_iald X dX7_widestOf_21 1 0 rfl rfl (by omega) (by omega) ?_
  refine g_istore (lv' := [(4, .int (fs (61 + 2 * w + 1))), (3, .int (fs (61 + 2 * w))), (2, .int (nI (61 + 2 * w))), (0, .ref (mo 0)), (1, .int (nI w))]) X dX7_widestOf_22 (by decide) rfl ?_
  refine g_iconst (x := zI (-1)) X dX7_widestOf_24 (by decide +kernel) ?_
  refine g_istore (lv' := [(5, .int (zI (-1))), (4, .int (fs (61 + 2 * w + 1))), (3, .int (fs (61 + 2 * w))), (2, .int (nI (61 + 2 * w))), (0, .ref (mo 0)), (1, .int (nI w))]) X dX7_widestOf_25 (by decide) rfl ?_
  refine g_bipush (x := nI 8) X dX7_widestOf_27 (by decide +kernel) ?_
  refine g_istore (lv' := [(6, .int (nI 8)), (5, .int (zI (-1))), (4, .int (fs (61 + 2 * w + 1))), (3, .int (fs (61 + 2 * w))), (2, .int (nI (61 + 2 * w))), (0, .ref (mo 0)), (1, .int (nI w))]) X dX7_widestOf_29 (by decide) rfl ?_
  have lp31 : ∀ (zN : Nat) (c : Nat) (x9 : Int) (f' : Nat → Int32) (hc8 : c ≤ 8) (hx9 : x9 = wO m9 (8 - c)) (hA : ∀ m, m ≠ 61 + 2 * w → m ≠ 61 + 2 * w + 1 → f' m = fs m) (zM : zN = c), GG k 0 0 [[((mo 0), .inr (7, [.int th, .ref (mo 1), .ref (mo 2), .int (nI sm), .ref (mo 3), .int (nI ln), .ref (mo 4), .int rm, .int fa, .ref (mo 5), .ref (mo 6), .int sp, .int wr, .long dd]))], cMs v mo f', cMe v mo fe] [(6, .int (nI c)), (5, .int (zI x9)), (2, .int (nI (61 + 2 * w))), (3, .int (fs (61 + 2 * w))), (4, .int (fs (61 + 2 * w + 1))), (0, .ref (mo 0)), (1, .int (nI w))] 31 [] := by
    intro zN
    induction zN using Nat.strongRecOn with
    | _ zN zih =>
      have ih31 := zih
      clear zih
      intro c x9 f' hc8 hx9 hA zM
      have hr9 := wO_rng m9 (8 - c)
      rw [← hx9] at hr9
      refine g_iload X dX7_widestOf_31 0 rfl ?_
      refine g_if_leN (tgt := 122) X dX7_widestOf_33 (by decide) (by omega) (fun c33 => ?_) (fun c33 => ?_)
      · refine g_aload_n X dX7_widestOf_122 5 rfl rfl ?_
        refine g_get X cb7 1 q_4_18 dX7_widestOf_123 0 0 rfl rfl (by decide) rfl rfl ?_
        refine g_iload_n X dX7_widestOf_126 2 rfl rfl ?_
        refine g_iload_n X dX7_widestOf_127 3 rfl rfl ?_
        refine g_iast (cs' := [[((mo 0), .inr (7, [.int th, .ref (mo 1), .ref (mo 2), .int (nI sm), .ref (mo 3), .int (nI ln), .ref (mo 4), .int rm, .int fa, .ref (mo 5), .ref (mo 6), .int sp, .int wr, .long dd]))], [((mo 1), .inl (v.2.1 0, 67, .inl (upd f' (61 + 2 * w) (fs (61 + 2 * w)))))], cMe v mo fe]) X dX7_widestOf_128 1 0 rfl rfl (by omega) (by omega) rfl ?_
        refine g_aload_n X dX7_widestOf_129 5 rfl rfl ?_
        refine g_get X cb7 1 q_4_18 dX7_widestOf_130 0 0 rfl rfl (by decide) rfl rfl ?_
        refine g_iload_n X dX7_widestOf_133 2 rfl rfl ?_
        refine g_iconst (x := nI 1) X dX7_widestOf_134 (by decide +kernel) ?_
        refine g_iaddN X dX7_widestOf_135 ?_
        refine g_iload X dX7_widestOf_136 4 rfl ?_
        refine g_iast (cs' := [[((mo 0), .inr (7, [.int th, .ref (mo 1), .ref (mo 2), .int (nI sm), .ref (mo 3), .int (nI ln), .ref (mo 4), .int rm, .int fa, .ref (mo 5), .ref (mo 6), .int sp, .int wr, .long dd]))], [((mo 1), .inl (v.2.1 0, 67, .inl (upd (upd f' (61 + 2 * w) (fs (61 + 2 * w))) ((61 + 2 * w) + 1) (fs (61 + 2 * w + 1)))))], cMe v mo fe]) X dX7_widestOf_138 1 0 rfl rfl (by omega) (by omega) rfl ?_
        refine g_iload X dX7_widestOf_139 1 rfl ?_
        exact E dX7_widestOf_141 rfl (rfl) (by decide) (by decide) (⟨by rw [wdV_eq hM, ← wO_wr m9 hM.1, hx9]; rw [show c = 0 from by omega], by rw [up_back (by omega) hA]⟩)
      · refine g_iload X dX7_widestOf_36 1 rfl ?_
        refine g_iconst (x := zI (-1)) X dX7_widestOf_38 (by decide +kernel) ?_
        refine g_icmp_ne (tgt := 122) X dX7_widestOf_39 (by decide) (fun c39 => ?_) (fun c39 => ?_)
        · rw [zI_inj (by omega) (by omega) (by omega) (by omega)] at c39
          refine g_aload_n X dX7_widestOf_122 5 rfl rfl ?_
          refine g_get X cb7 1 q_4_18 dX7_widestOf_123 0 0 rfl rfl (by decide) rfl rfl ?_
          refine g_iload_n X dX7_widestOf_126 2 rfl rfl ?_
          refine g_iload_n X dX7_widestOf_127 3 rfl rfl ?_
          refine g_iast (cs' := [[((mo 0), .inr (7, [.int th, .ref (mo 1), .ref (mo 2), .int (nI sm), .ref (mo 3), .int (nI ln), .ref (mo 4), .int rm, .int fa, .ref (mo 5), .ref (mo 6), .int sp, .int wr, .long dd]))], [((mo 1), .inl (v.2.1 0, 67, .inl (upd f' (61 + 2 * w) (fs (61 + 2 * w)))))], cMe v mo fe]) X dX7_widestOf_128 1 0 rfl rfl (by omega) (by omega) rfl ?_
          refine g_aload_n X dX7_widestOf_129 5 rfl rfl ?_
          refine g_get X cb7 1 q_4_18 dX7_widestOf_130 0 0 rfl rfl (by decide) rfl rfl ?_
          refine g_iload_n X dX7_widestOf_133 2 rfl rfl ?_
          refine g_iconst (x := nI 1) X dX7_widestOf_134 (by decide +kernel) ?_
          refine g_iaddN X dX7_widestOf_135 ?_
          refine g_iload X dX7_widestOf_136 4 rfl ?_
          refine g_iast (cs' := [[((mo 0), .inr (7, [.int th, .ref (mo 1), .ref (mo 2), .int (nI sm), .ref (mo 3), .int (nI ln), .ref (mo 4), .int rm, .int fa, .ref (mo 5), .ref (mo 6), .int sp, .int wr, .long dd]))], [((mo 1), .inl (v.2.1 0, 67, .inl (upd (upd f' (61 + 2 * w) (fs (61 + 2 * w))) ((61 + 2 * w) + 1) (fs (61 + 2 * w + 1)))))], cMe v mo fe]) X dX7_widestOf_138 1 0 rfl rfl (by omega) (by omega) rfl ?_
          refine g_iload X dX7_widestOf_139 1 rfl ?_
          exact E dX7_widestOf_141 rfl (rfl) (by decide) (by decide) (⟨by rw [wdV_eq hM, ← wO_wr m9 hM.1, hx9]; rw [← wO_keep (m := m9) (j := 8 - c) (by rw [← hx9]; exact c39) c, show 8 - c + c = 8 from by omega], by rw [up_back (by omega) hA]⟩)
        · rw [zI_inj (by omega) (by omega) (by omega) (by omega)] at c39
          refine g_bipush (x := nI 8) X dX7_widestOf_42 (by decide +kernel) ?_
          refine g_iload X dX7_widestOf_44 0 rfl ?_
          refine g_isubN X dX7_widestOf_46 (by omega) ?_
          refine g_v (y := zI (((9 - c : Nat) : Int) + (-1))) (by rw [zI_nI]; congr 1; omega) ?_
          refine g_istore (lv' := [(7, .int (zI (((9 - c : Nat) : Int) + (-1)))), (6, .int (nI c)), (5, .int (zI x9)), (2, .int (nI (61 + 2 * w))), (3, .int (fs (61 + 2 * w))), (4, .int (fs (61 + 2 * w + 1))), (0, .ref (mo 0)), (1, .int (nI w))]) X dX7_widestOf_47 (by decide) rfl ?_
          have lp49 : ∀ (zN : Nat) (u : Nat) (x8 : Int) (f2 : Nat → Int32) (hu9 : u ≤ 9 - c) (hx8 : x8 = wI m9 c (9 - c - u)) (hA2 : ∀ m, m ≠ 61 + 2 * w → m ≠ 61 + 2 * w + 1 → f2 m = fs m) (zM : zN = u), GG k 0 0 [[((mo 0), .inr (7, [.int th, .ref (mo 1), .ref (mo 2), .int (nI sm), .ref (mo 3), .int (nI ln), .ref (mo 4), .int rm, .int fa, .ref (mo 5), .ref (mo 6), .int sp, .int wr, .long dd]))], cMs v mo f2, cMe v mo fe] [(7, .int (zI (((u : Nat) : Int) + (-1)))), (5, .int (zI x8)), (6, .int (nI c)), (2, .int (nI (61 + 2 * w))), (3, .int (fs (61 + 2 * w))), (4, .int (fs (61 + 2 * w + 1))), (0, .ref (mo 0)), (1, .int (nI w))] 49 [] := by
            intro zN
            induction zN using Nat.strongRecOn with
            | _ zN zih =>
              have ih49 := zih
              clear zih
              intro u x8 f2 hu9 hx8 hA2 zM
              have hr8 := wI_rng m9 c (by omega) (9 - c - u)
              rw [← hx8] at hr8
              cases u with
              | zero =>
                refine g_lveq (lv' := [(7, .int (zI (-1))), (5, .int (zI x8)), (6, .int (nI c)), (2, .int (nI (61 + 2 * w))), (3, .int (fs (61 + 2 * w))), (4, .int (fs (61 + 2 * w + 1))), (0, .ref (mo 0)), (1, .int (nI w))]) rfl ?_
                refine g_iload X dX7_widestOf_49 0 rfl ?_
                refine g_if_lt (tgt := 116) X dX7_widestOf_51 (by decide) (fun c51 => ?_) (fun c51 => ?_)
                · refine g_iinc (y := nI (c - 1)) (lv' := [(6, .int (nI (c - 1))), (7, .int (zI (-1))), (5, .int (zI x8)), (2, .int (nI (61 + 2 * w))), (3, .int (fs (61 + 2 * w))), (4, .int (fs (61 + 2 * w + 1))), (0, .ref (mo 0)), (1, .int (nI w))]) (j := 2) X dX7_widestOf_116 rfl (nI_pr (by omega)) (by decide) rfl ?_
                  refine g_goto (tgt := 31) X dX7_widestOf_119 (by decide) ?_
                  refine g_lv (lv' := [(6, .int (nI (c - 1))), (5, .int (zI x8)), (2, .int (nI (61 + 2 * w))), (3, .int (fs (61 + 2 * w))), (4, .int (fs (61 + 2 * w + 1))), (0, .ref (mo 0)), (1, .int (nI w))]) [0, 2, 3, 4, 5, 6, 7] rfl ?_
                  exact ih31 _ (by omega) (c - 1) x8 f2 (by omega) (hx8.trans (wO_step (by omega) (by omega) (hx9.symm.trans c39)).symm) hA2 rfl
                · exact absurd c51 (by decide)
              | succ T =>
                refine g_lveq (lv' := [(7, .int (nI T)), (5, .int (zI x8)), (6, .int (nI c)), (2, .int (nI (61 + 2 * w))), (3, .int (fs (61 + 2 * w))), (4, .int (fs (61 + 2 * w + 1))), (0, .ref (mo 0)), (1, .int (nI w))]) (by rw [show (((T + 1 : Nat) : Int) + (-1)) = ((T : Nat) : Int) from by omega, ← zI_nI T]) ?_
                refine g_iload X dX7_widestOf_49 0 rfl ?_
                refine g_if_ltN (tgt := 116) X dX7_widestOf_51 (by decide) (by omega) ?_
                refine g_aload_n X dX7_widestOf_54 6 rfl rfl ?_
                refine g_get X cb7 1 q_4_18 dX7_widestOf_55 0 0 rfl rfl (by decide) rfl rfl ?_
                refine g_iload_n X dX7_widestOf_58 3 rfl rfl ?_
                refine g_iload X dX7_widestOf_59 0 rfl ?_
                refine g_iast (cs' := [[((mo 0), .inr (7, [.int th, .ref (mo 1), .ref (mo 2), .int (nI sm), .ref (mo 3), .int (nI ln), .ref (mo 4), .int rm, .int fa, .ref (mo 5), .ref (mo 6), .int sp, .int wr, .long dd]))], [((mo 1), .inl (v.2.1 0, 67, .inl (upd f2 (61 + 2 * w) (nI T))))], cMe v mo fe]) X dX7_widestOf_61 1 0 rfl rfl (by omega) (by omega) rfl ?_
                refine g_aload_n X dX7_widestOf_62 6 rfl rfl ?_
                refine g_get X cb7 1 q_4_18 dX7_widestOf_63 0 0 rfl rfl (by decide) rfl rfl ?_
                refine g_iload_n X dX7_widestOf_66 3 rfl rfl ?_
                refine g_iconst (x := nI 1) X dX7_widestOf_67 (by decide +kernel) ?_
                refine g_iaddN X dX7_widestOf_68 ?_
                refine g_iload X dX7_widestOf_69 0 rfl ?_
                refine g_iload X dX7_widestOf_71 2 rfl ?_
                refine g_iaddN X dX7_widestOf_73 ?_
                refine g_iconst (x := nI 1) X dX7_widestOf_74 (by decide +kernel) ?_
                refine g_isubN X dX7_widestOf_75 (by omega) ?_
                refine g_iast (cs' := [[((mo 0), .inr (7, [.int th, .ref (mo 1), .ref (mo 2), .int (nI sm), .ref (mo 3), .int (nI ln), .ref (mo 4), .int rm, .int fa, .ref (mo 5), .ref (mo 6), .int sp, .int wr, .long dd]))], [((mo 1), .inl (v.2.1 0, 67, .inl (upd (upd f2 (61 + 2 * w) (nI T)) ((61 + 2 * w) + 1) (nI ((T + c) - 1)))))], cMe v mo fe]) X dX7_widestOf_76 1 0 rfl rfl (by omega) (by omega) rfl ?_
                refine g_aload_n X dX7_widestOf_77 6 rfl rfl ?_
                refine g_callV (As := []) (rest := []) (wr := []) X (c_X7_judged l v mo th sm ln rm fa sp wr dd P n (hU9 lo w T) (hU9 hi w (T + c - 1)) (upd (upd f2 (61 + 2 * w) (nI T)) ((61 + 2 * w) + 1) (nI ((T + c) - 1))) fe hW (SR_upA hn12 hw9 hS hA2) (AsW_up hL (by omega) (by omega)) hE) f_X7_judged q_31_1 dX7_widestOf_78 [0, 1, 2] [] rfl rfl (by decide) 0 rfl rfl rfl rfl (Nat.le_of_ble_eq_true rfl) (by decide) (fun r_ w_ hp1 => ?_)
                obtain ⟨rfl, rfl⟩ := hp1
                show GG k _ _ [[((mo 0), .inr (7, [.int th, .ref (mo 1), .ref (mo 2), .int (nI sm), .ref (mo 3), .int (nI ln), .ref (mo 4), .int rm, .int fa, .ref (mo 5), .ref (mo 6), .int sp, .int wr, .long dd]))], [((mo 1), .inl (v.2.1 0, 67, .inl (upd (upd f2 (61 + 2 * w) (nI T)) ((61 + 2 * w) + 1) (nI ((T + c) - 1)))))], cMe v mo fe] _ _ [.int (zI (pfV (hU9 lo w T) (hU9 hi w (T + c - 1)) P n))]
                have hpr := pfV_rng (lo := hU9 lo w T) (hi := hU9 hi w (T + c - 1)) (P := P) (n := n)
                refine g_iconst (x := nI 1) X dX7_widestOf_81 (by decide +kernel) ?_
                refine g_icmp_ne (tgt := 106) X dX7_widestOf_82 (by decide) (fun c82 => ?_) (fun c82 => ?_)
                · rw [zI_nI 1, zI_inj (by omega) (by omega) (by omega) (by omega)] at c82
                  refine g_iload X dX7_widestOf_106 1 rfl ?_
                  refine g_istore (lv' := [(5, .int (zI x8)), (7, .int (nI T)), (6, .int (nI c)), (2, .int (nI (61 + 2 * w))), (3, .int (fs (61 + 2 * w))), (4, .int (fs (61 + 2 * w + 1))), (0, .ref (mo 0)), (1, .int (nI w))]) X dX7_widestOf_108 (by decide) rfl ?_
                  refine g_iinc (y := zI (((T : Nat) : Int) + (-1))) (lv' := [(7, .int (zI (((T : Nat) : Int) + (-1)))), (5, .int (zI x8)), (6, .int (nI c)), (2, .int (nI (61 + 2 * w))), (3, .int (fs (61 + 2 * w))), (4, .int (fs (61 + 2 * w + 1))), (0, .ref (mo 0)), (1, .int (nI w))]) (j := 1) X dX7_widestOf_110 rfl (by rw [zI_nI]; exact zI_add _ _) (by decide) rfl ?_
                  refine g_goto (tgt := 49) X dX7_widestOf_113 (by decide) ?_
                  exact ih49 _ (by omega) T x8 (upd (upd f2 (61 + 2 * w) (nI T)) ((61 + 2 * w) + 1) (nI ((T + c) - 1))) (by omega) (hx8.trans (wI_miss (by omega) (fun z => c82 ((pfV_fr hW hw9 (by omega) hM).mpr z))).symm) (up_hA hA2) rfl
                · rw [zI_nI 1, zI_inj (by omega) (by omega) (by omega) (by omega)] at c82
                  refine g_bipush (x := nI 10) X dX7_widestOf_85 (by decide +kernel) ?_
                  refine g_aload_n X dX7_widestOf_87 6 rfl rfl ?_
                  refine g_get X cb7 1 q_4_18 dX7_widestOf_88 0 0 rfl rfl (by decide) rfl rfl ?_
                  refine g_iload_n X dX7_widestOf_91 3 rfl rfl ?_
                  refine g_iald X dX7_widestOf_92 1 0 rfl rfl (by omega) (by omega) ?_
                  refine g_v (y := nI T) ((pk_un (by omega)).trans pk_us) ?_
                  refine g_imulN X dX7_widestOf_93 ?_
                  refine g_aload_n X dX7_widestOf_94 6 rfl rfl ?_
                  refine g_get X cb7 1 q_4_18 dX7_widestOf_95 0 0 rfl rfl (by decide) rfl rfl ?_
                  refine g_iload_n X dX7_widestOf_98 3 rfl rfl ?_
                  refine g_iconst (x := nI 1) X dX7_widestOf_99 (by decide +kernel) ?_
                  refine g_iaddN X dX7_widestOf_100 ?_
                  refine g_iald X dX7_widestOf_101 1 0 rfl rfl (by omega) (by omega) ?_
                  refine g_v (y := nI (T + c - 1)) (pk_us) ?_
                  refine g_iaddN X dX7_widestOf_102 ?_
                  refine g_goto (tgt := 108) X dX7_widestOf_103 (by decide) ?_
                  refine g_v (y := zI ((10 * T + (T + c - 1) : Nat) : Int)) (zI_nI _) ?_
                  refine g_istore (lv' := [(5, .int (zI ((10 * T + (T + c - 1) : Nat) : Int))), (7, .int (nI T)), (6, .int (nI c)), (2, .int (nI (61 + 2 * w))), (3, .int (fs (61 + 2 * w))), (4, .int (fs (61 + 2 * w + 1))), (0, .ref (mo 0)), (1, .int (nI w))]) X dX7_widestOf_108 (by decide) rfl ?_
                  refine g_iinc (y := zI (((T : Nat) : Int) + (-1))) (lv' := [(7, .int (zI (((T : Nat) : Int) + (-1)))), (5, .int (zI ((10 * T + (T + c - 1) : Nat) : Int))), (6, .int (nI c)), (2, .int (nI (61 + 2 * w))), (3, .int (fs (61 + 2 * w))), (4, .int (fs (61 + 2 * w + 1))), (0, .ref (mo 0)), (1, .int (nI w))]) (j := 1) X dX7_widestOf_110 rfl (by rw [zI_nI]; exact zI_add _ _) (by decide) rfl ?_
                  refine g_goto (tgt := 49) X dX7_widestOf_113 (by decide) ?_
                  exact ih49 _ (by omega) T ((10 * T + (T + c - 1) : Nat) : Int) (upd (upd f2 (61 + 2 * w) (nI T)) ((61 + 2 * w) + 1) (nI ((T + c) - 1))) (by omega) (wI_hit (by omega) ((pfV_fr hW hw9 (by omega) hM).mp c82)).symm (up_hA hA2) rfl
          refine g_lv (lv' := [(7, .int (zI (((9 - c : Nat) : Int) + (-1)))), (5, .int (zI x9)), (6, .int (nI c)), (2, .int (nI (61 + 2 * w))), (3, .int (fs (61 + 2 * w))), (4, .int (fs (61 + 2 * w + 1))), (0, .ref (mo 0)), (1, .int (nI w))]) [0, 2, 1, 3, 4, 5, 6, 7] rfl ?_
          exact lp49 _ (9 - c) x9 f' (by omega) (by rw [Nat.sub_self]; exact c39) hA rfl
  refine g_lv (lv' := [(6, .int (nI 8)), (5, .int (zI (-1))), (2, .int (nI (61 + 2 * w))), (3, .int (fs (61 + 2 * w))), (4, .int (fs (61 + 2 * w + 1))), (0, .ref (mo 0)), (1, .int (nI w))]) [0, 1, 4, 3, 2, 5, 6] rfl ?_
  exact lp31 _ 8 (-1) fs (by omega) rfl (fun _ _ _ => rfl) rfl

set_option maxHeartbeats 4000000 in
set_option maxRecDepth 100000 in
theorem c_X7_widest (l : Launch) (v : VV) (mo : Nat → Nat) (th : Int32) (sm : Nat) (ln : Nat) (rm : Int32) (fa : Int32) (sp : Int32) (wr : Int32) (dd : Int64) (P : Nat → S9) (n : Nat) (lo : Nat → Nat) (hi : Nat → Nat) (fs : Nat → Int32) (fe : Nat → Int32) (w : Nat) (hW : WF P n) (hS : SR P n lo hi fs) (hL : AsW lo hi) (hw9 : w < 3) : MI l v yX7_widest cX7_widest 2 (some .int) ({ frames := 6, cells := 0, slots := 0, locals := 138 }) [.ref (mo 0), .int (nI w)] [[((mo 0), .inr (7, [.int th, .ref (mo 1), .ref (mo 2), .int (nI sm), .ref (mo 3), .int (nI ln), .ref (mo 4), .int rm, .int fa, .ref (mo 5), .ref (mo 6), .int sp, .int wr, .long dd]))], cMs v mo fs, cMe v mo fe] (fun r w_ => ∃ fe', r = zI (wdV lo hi P n w) ∧ w_ = [[((mo 0), .inr (7, [.int (nI 0), .ref (mo 1), .ref (mo 2), .int (nI sm), .ref (mo 3), .int (nI ln), .ref (mo 4), .int rm, .int fa, .ref (mo 5), .ref (mo 6), .int sp, .int wr, .long dd]))], cMs v mo fs, cMe v mo fe']) 0 0 := by
  refine mm_int (by decide) (Nat.le_of_ble_eq_true rfl) [(0, .ref (mo 0)), (1, .int (nI w))] rfl (fun k X E => ?_)
  have hn12 := hW.1
  refine g_aload_n X dX7_widest_0 0 rfl rfl ?_
  refine g_iload_n X dX7_widest_1 1 rfl rfl ?_
  refine g_iconst (x := nI 0) X dX7_widest_2 (by decide +kernel) ?_
  refine g_iconst (x := nI 2) X dX7_widest_3 (by decide +kernel) ?_
  refine g_callS (As := [.int (nI w), .int (nI 0), .int (nI 2)]) (rest := [.ref (mo 0)]) (wr := [[((mo 0), .inr (7, [.int th, .ref (mo 1), .ref (mo 2), .int (nI sm), .ref (mo 3), .int (nI ln), .ref (mo 4), .int rm, .int fa, .ref (mo 5), .ref (mo 6), .int sp, .int wr, .long dd]))], cMs v mo fs, cMe v mo fe]) X (c_X7_in l v (nI w) (nI 0) (nI 2)) f_X7_in q_14_20 dX7_widest_4 [] [0, 1, 2] rfl rfl (by decide) rfl rfl (Nat.le_of_ble_eq_true rfl) (by decide) (fun r_ w_ hp1 => ?_)
  rw [inI_N (by omega) (by omega) (by omega)] at hp1
  obtain ⟨rfl, rfl⟩ := hp1
  show GG k _ _ [[((mo 0), .inr (7, [.int th, .ref (mo 1), .ref (mo 2), .int (nI sm), .ref (mo 3), .int (nI ln), .ref (mo 4), .int rm, .int fa, .ref (mo 5), .ref (mo 6), .int sp, .int wr, .long dd]))], cMs v mo fs, cMe v mo fe] _ _ [.int (bI (decide (0 ≤ w ∧ w ≤ 2))), .ref (mo 0)]
  refine g_if_eqB (tgt := 14) X dX7_widest_7 (by decide) (fun c7 => ?_) (fun c7 => ?_)
  · exact (of_decide_eq_false c7 ⟨by omega, by omega⟩).elim
  · refine g_iconst (x := nI 0) X dX7_widest_10 (by decide +kernel) ?_
    refine g_goto (tgt := 15) X dX7_widest_11 (by decide) ?_
    refine g_callV (As := [.int (nI 0)]) (rest := []) (wr := [cMs v mo fs, cMe v mo fe]) X (c_X7_holds l v mo th sm ln rm fa sp wr dd 0 (by omega)) f_X7_holds q_15_19 dX7_widest_15 [0] [1, 2] rfl rfl (by decide) 0 rfl rfl rfl rfl (Nat.le_of_ble_eq_true rfl) (by decide) (fun r_ w_ hp2 => ?_)
    obtain ⟨rfl, rfl⟩ := hp2
    show GG k _ _ [[((mo 0), .inr (7, [.int (nI 0), .ref (mo 1), .ref (mo 2), .int (nI sm), .ref (mo 3), .int (nI ln), .ref (mo 4), .int rm, .int fa, .ref (mo 5), .ref (mo 6), .int sp, .int wr, .long dd]))], cMs v mo fs, cMe v mo fe] _ _ [.int (nI 1)]
    refine g_if_neN (tgt := 23) X dX7_widest_18 (by decide) (by omega) (fun c18 => ?_) (fun c18 => ?_)
    · refine g_aload_n X dX7_widest_23 0 rfl rfl ?_
      refine g_callV (As := []) (rest := []) (wr := []) X (c_X7_worksOut l v mo (nI 0) sm ln rm fa sp wr dd P n lo hi fs fe hW hS) f_X7_worksOut q_22_10 dX7_widest_24 [0, 1, 2] [] rfl rfl (by decide) 0 rfl rfl rfl rfl (Nat.le_of_ble_eq_true rfl) (by decide) (fun r_ w_ hp4 => ?_)
      obtain ⟨wo3, wo3E, rfl⟩ := hp4
      show GG k _ _ [[((mo 0), .inr (7, [.int (nI 0), .ref (mo 1), .ref (mo 2), .int (nI sm), .ref (mo 3), .int (nI ln), .ref (mo 4), .int rm, .int fa, .ref (mo 5), .ref (mo 6), .int sp, .int wr, .long dd]))], cMs v mo fs, cMe v mo wo3] _ _ []
      refine g_aload_n X dX7_widest_27 0 rfl rfl ?_
      refine g_iload_n X dX7_widest_28 1 rfl rfl ?_
      refine g_callV (As := [.int (nI w)]) (rest := []) (wr := []) X (c_X7_widestOf l v mo (nI 0) sm ln rm fa sp wr dd P n lo hi fs wo3 w hW hS hL wo3E (by omega)) f_X7_widestOf q_33_11 dX7_widest_29 [0, 1, 2] [] rfl rfl (by decide) 0 rfl rfl rfl rfl (Nat.le_of_ble_eq_true rfl) (by decide) (fun r_ w_ hp5 => ?_)
      obtain ⟨rfl, rfl⟩ := hp5
      show GG k _ _ [[((mo 0), .inr (7, [.int (nI 0), .ref (mo 1), .ref (mo 2), .int (nI sm), .ref (mo 3), .int (nI ln), .ref (mo 4), .int rm, .int fa, .ref (mo 5), .ref (mo 6), .int sp, .int wr, .long dd]))], cMs v mo fs, cMe v mo wo3] _ _ [.int (zI (wdV lo hi P n w))]
      exact E dX7_widest_32 rfl (rfl) (by decide) (by decide) (⟨_, rfl, rfl⟩)
    · exact absurd c18 (by decide)

set_option maxHeartbeats 4000000 in
set_option maxRecDepth 100000 in
theorem b_X7_widest (l : Launch) (v : VV) (mo : Nat → Nat) (th : Int32) (sm : Nat) (ln : Nat) (rm : Int32) (fa : Int32) (sp : Int32) (wr : Int32) (dd : Int64) (w : Int32) (hx : bdI w 3) : MI l v yX7_widest cX7_widest 2 (some .int) ({ frames := 1, cells := 0, slots := 0, locals := 22 }) [.ref (mo 0), .int w] [[((mo 0), .inr (7, [.int th, .ref (mo 1), .ref (mo 2), .int (nI sm), .ref (mo 3), .int (nI ln), .ref (mo 4), .int rm, .int fa, .ref (mo 5), .ref (mo 6), .int sp, .int wr, .long dd]))]] (fun r w_ => r = nI 0 ∧ w_ = [[((mo 0), .inr (7, [.int (nI 1), .ref (mo 1), .ref (mo 2), .int (nI sm), .ref (mo 3), .int (nI ln), .ref (mo 4), .int rm, .int fa, .ref (mo 5), .ref (mo 6), .int sp, .int wr, .long dd]))]]) 0 0 := by
  refine mm_int (by decide) (Nat.le_of_ble_eq_true rfl) [(0, .ref (mo 0)), (1, .int w)] rfl (fun k X E => ?_)
  refine g_aload_n X dX7_widest_0 0 rfl rfl ?_
  refine g_iload_n X dX7_widest_1 1 rfl rfl ?_
  refine g_iconst (x := nI 0) X dX7_widest_2 (by decide +kernel) ?_
  refine g_iconst (x := nI 2) X dX7_widest_3 (by decide +kernel) ?_
  refine g_callS (As := [.int w, .int (nI 0), .int (nI 2)]) (rest := [.ref (mo 0)]) (wr := [[((mo 0), .inr (7, [.int th, .ref (mo 1), .ref (mo 2), .int (nI sm), .ref (mo 3), .int (nI ln), .ref (mo 4), .int rm, .int fa, .ref (mo 5), .ref (mo 6), .int sp, .int wr, .long dd]))]]) X (c_X7_in l v w (nI 0) (nI 2)) f_X7_in q_14_20 dX7_widest_4 [] [0] rfl rfl (by decide) rfl rfl (Nat.le_of_ble_eq_true rfl) (by decide) (fun r_ w_ hp1 => ?_)
  obtain ⟨rfl, rfl⟩ := hp1
  show GG k _ _ [[((mo 0), .inr (7, [.int th, .ref (mo 1), .ref (mo 2), .int (nI sm), .ref (mo 3), .int (nI ln), .ref (mo 4), .int rm, .int fa, .ref (mo 5), .ref (mo 6), .int sp, .int wr, .long dd]))]] _ _ [.int (bI (inI w (nI 0) (nI 2))), .ref (mo 0)]
  refine g_if_eqB (tgt := 14) X dX7_widest_7 (by decide) (fun c7 => ?_) (fun c7 => ?_)
  · refine g_iconst (x := nI 1) X dX7_widest_14 (by decide +kernel) ?_
    refine g_callV (As := [.int (nI 1)]) (rest := []) (wr := []) X (c_X7_holds l v mo th sm ln rm fa sp wr dd 1 (by omega)) f_X7_holds q_15_19 dX7_widest_15 [0] [] rfl rfl (by decide) 0 rfl rfl rfl rfl (Nat.le_of_ble_eq_true rfl) (by decide) (fun r_ w_ hp2 => ?_)
    obtain ⟨rfl, rfl⟩ := hp2
    show GG k _ _ [[((mo 0), .inr (7, [.int (nI 1), .ref (mo 1), .ref (mo 2), .int (nI sm), .ref (mo 3), .int (nI ln), .ref (mo 4), .int rm, .int fa, .ref (mo 5), .ref (mo 6), .int sp, .int wr, .long dd]))]] _ _ [.int (nI 0)]
    refine g_if_neN (tgt := 23) X dX7_widest_18 (by decide) (by omega) (fun c18 => ?_) (fun c18 => ?_)
    · exact absurd rfl c18
    · refine g_iconst (x := nI 0) X dX7_widest_21 (by decide +kernel) ?_
      exact E dX7_widest_22 rfl (rfl) (by decide) (by decide) (⟨rfl, rfl⟩)
  · exact absurd c7 (by rw [inI_badN hx (by omega)]; decide)

