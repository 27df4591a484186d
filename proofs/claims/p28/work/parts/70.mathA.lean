/-! ## what the law asks, in mathematics: runs, demands, counts -/
section COUNT
theorem ctb_mono {p q : Nat → Bool} {T : Nat} (h : ∀ t, t < T → p t = true → q t = true) : ctb p T ≤ ctb q T := by
  induction T with
  | zero => exact Nat.le_refl _
  | succ T ih =>
    have ih := ih (fun t ht => h t (by omega))
    cases c : p T with
    | true => rw [ctb_t c, ctb_t (h T (by omega) c)]; omega
    | false =>
      rw [ctb_f c]
      cases d : q T with
      | true => rw [ctb_t d]; omega
      | false => rw [ctb_f d]; exact ih
theorem ctb_or {p q r : Nat → Bool} {T : Nat} (h : ∀ t, t < T → p t = true → q t = true ∨ r t = true) : ctb p T ≤ ctb q T + ctb r T := by
  induction T with
  | zero => exact Nat.le_refl _
  | succ T ih =>
    have ih := ih (fun t ht => h t (by omega))
    have a : ctb q T ≤ ctb q (T + 1) := by
      cases d : q T with
      | true => rw [ctb_t d]; omega
      | false => rw [ctb_f d]; omega
    have b : ctb r T ≤ ctb r (T + 1) := by
      cases d : r T with
      | true => rw [ctb_t d]; omega
      | false => rw [ctb_f d]; omega
    cases c : p T with
    | true =>
      rw [ctb_t c]
      rcases h T (by omega) c with d | d
      · rw [ctb_t d]; omega
      · rw [ctb_t (p := r) d]; omega
    | false => rw [ctb_f c]; omega
theorem ctb_all {p : Nat → Bool} {T : Nat} (h : ∀ t, t < T → p t = true) : ctb p T = T := by
  induction T with
  | zero => rfl
  | succ T ih => rw [ctb_t (h T (by omega)), ih (fun t ht => h t (by omega))]
theorem ctb_pos {p : Nat → Bool} {T : Nat} : 0 < ctb p T ↔ ∃ t, t < T ∧ p t = true := by
  constructor
  · intro h
    apply Classical.byContradiction
    intro c
    have : ctb p T = 0 := ctb_zero.mpr (fun t ht => by
      cases d : p t with
      | true => exact absurd ⟨t, ht, d⟩ c
      | false => rfl)
    omega
  · rintro ⟨t, ht, h⟩
    apply Nat.pos_of_ne_zero
    intro z
    have := ctb_zero.mp z t ht
    rw [h] at this
    cases this
theorem ctb_add {p : Nat → Bool} (a : Nat) : ∀ b, ctb p (a + b) = ctb p a + ctb (fun t => p (a + t)) b
  | 0 => rfl
  | b + 1 => by
    have ih := ctb_add (p := p) a b
    show ctb p (a + b) + _ = ctb p a + (ctb (fun t => p (a + t)) b + _)
    rw [ih, Nat.add_assoc]
    rfl
theorem ctb_no {T : Nat} : ctb (fun _ => false) T = 0 := ctb_zero.mpr (fun _ _ => rfl)
theorem ctb_prod (f g : Nat → Bool) : ∀ k, ctb (fun t => f (t / 8) && g (t % 8)) (8 * k) = ctb f k * ctb g 8
  | 0 => by
    show 0 = 0 * _
    rw [Nat.zero_mul]
  | k + 1 => by
    have ih := ctb_prod f g k
    rw [show 8 * (k + 1) = 8 * k + 8 by omega, ctb_add, ih]
    have e : ctb (fun t => (fun t => f (t / 8) && g (t % 8)) (8 * k + t)) 8 = ctb (fun t => f k && g t) 8 := ctb_cong (fun t ht => by
      show (f ((8 * k + t) / 8) && g ((8 * k + t) % 8)) = (f k && g t)
      rw [show (8 * k + t) / 8 = k by omega, show (8 * k + t) % 8 = t by omega])
    rw [e]
    cases c : f k with
    | true =>
      rw [ctb_t c]
      have e2 : ctb (fun t => true && g t) 8 = ctb g 8 := ctb_cong (fun t _ => Bool.true_and _)
      rw [e2, Nat.add_mul, Nat.one_mul]
    | false =>
      rw [ctb_f c]
      have e2 : ctb (fun t => false && g t) 8 = 0 := ctb_zero.mpr (fun t _ => Bool.false_and _)
      rw [e2, Nat.add_zero]
theorem ctb_rng : ∀ b, b < 8 → ∀ a, a < 8 → a ≤ b → ctb (fun x => decide (a ≤ x ∧ x ≤ b)) 8 = b - a + 1 := by decide +kernel
/-- the triples within the bounds, counted -/
theorem cnt_eq {lo hi : Nat → Nat} (hL : AsW lo hi) : ctb (ab9 lo hi (-1)) 512 = cnt9 lo hi 3 := by
  have h0 := hL 0 (by omega)
  have h1 := hL 1 (by omega)
  have h2 := hL 2 (by omega)
  have e : ctb (ab9 lo hi (-1)) 512 = ctb (fun t => (fun u => (fun x => decide (lo 0 ≤ x ∧ x ≤ hi 0)) (u / 8) && (fun x => decide (lo 1 ≤ x ∧ x ≤ hi 1)) (u % 8)) (t / 8) && (fun x => decide (lo 2 ≤ x ∧ x ≤ hi 2)) (t % 8)) (8 * 64) := ctb_cong (fun t ht => by
    have v0 : val t 0 = t / 8 / 8 := by unfold val; omega
    have v1 : val t 1 = t / 8 % 8 := by unfold val; omega
    have v2 : val t 2 = t % 8 := by unfold val; omega
    rw [Bool.eq_iff_iff]
    simp only [Bool.and_eq_true, decide_eq_true_eq, ab9]
    constructor
    · intro h
      have a := h 0 (by omega) (by omega)
      have b := h 1 (by omega) (by omega)
      have c := h 2 (by omega) (by omega)
      rw [v0] at a; rw [v1] at b; rw [v2] at c
      exact ⟨⟨a, b⟩, c⟩
    · rintro ⟨⟨a, b⟩, c⟩ w hw _
      rcases (show w = 0 ∨ w = 1 ∨ w = 2 by omega) with rfl | rfl | rfl
      · rw [v0]; exact a
      · rw [v1]; exact b
      · rw [v2]; exact c)
  rw [e, ctb_prod (fun u => (fun x => decide (lo 0 ≤ x ∧ x ≤ hi 0)) (u / 8) && (fun x => decide (lo 1 ≤ x ∧ x ≤ hi 1)) (u % 8)) (fun x => decide (lo 2 ≤ x ∧ x ≤ hi 2)) 64, show (64 : Nat) = 8 * 8 from rfl, ctb_prod (fun x => decide (lo 0 ≤ x ∧ x ≤ hi 0)) (fun x => decide (lo 1 ≤ x ∧ x ≤ hi 1)) 8, ctb_rng _ (by omega) _ (by omega) h0.1, ctb_rng _ (by omega) _ (by omega) h1.1, ctb_rng _ (by omega) _ (by omega) h2.1]
  show _ = 1 * (hi 0 - lo 0 + 1) * (hi 1 - lo 1 + 1) * (hi 2 - lo 2 + 1)
  rw [Nat.one_mul]
end COUNT
section PROPS
variable {P : Nat → S9} {n : Nat}
theorem nxt_stmt {q z : Nat} (h : nxt P n q = some z) : q / 512 < n := by
  unfold nxt at h
  split at h
  · cases h
  · omega
theorem path_n {j q p : Nat} (h : it P n j q = some p) (hd : ∀ i i' x, i < i' → i' ≤ j → it P n i q = some x → it P n i' q ≠ some x) (hs : ∀ i x, i ≤ j → it P n i q = some x → x / 512 < n) : j + 1 ≤ 512 * n :=
  fb_holes (512 * n) (j + 1) (fun i => (it P n i q).getD 0) (fun i hi => by
    obtain ⟨x, hx⟩ := it_pre h i (by omega)
    simp only [hx, Option.getD_some]
    have := hs i x (by omega) hx
    omega) (fun i i' hii hi' => by
    obtain ⟨x, hx⟩ := it_pre h i (by omega)
    obtain ⟨x', hx'⟩ := it_pre h i' (by omega)
    simp only [hx, hx', Option.getD_some]
    intro e
    subst e
    exact hd i i' x hii (by omega) hx hx')
theorem it_stmt {k q z i x : Nat} (h : it P n k q = some z) (hi : i < k) (hx : it P n i q = some x) : x / 512 < n := by
  obtain ⟨y, hy⟩ := it_pre h (i + 1) hi
  have hy : (it P n i q).bind (nxt P n) = some y := hy
  rw [hx] at hy
  exact nxt_stmt hy
theorem LL_n (q : Nat) : LL P n q ≤ 512 * n := by
  by_cases c : ∃ k z, StpR P n k q z
  · obtain ⟨k, z, h⟩ := c
    rw [LL_stop h]
    have hd := stp_inj h
    split
    · cases k with
      | zero => omega
      | succ k =>
        obtain ⟨y, hy⟩ := it_pre h.1 k (by omega)
        have := path_n hy (fun i i' x a _ => hd i i' x a) (fun i x hi hx => it_stmt h.1 (by omega) hx)
        omega
    · rename_i c
      have := path_n h.1 (fun i i' x a _ => hd i i' x a) (fun i x hi hx => by
        rcases Nat.lt_or_ge i k with e | e
        · exact it_stmt h.1 e hx
        · have : i = k := by omega
          subst this
          have := Option.some.inj (hx.symm.trans h.1)
          omega)
      omega
  · unfold LL
    rw [dif_neg c]
    omega
theorem nxt_none (hW : WF P n) {q : Nat} (h : nxt P n q = none) (hq : q / 512 < n) : (P (q / 512)).1 = 1 := by
  unfold nxt at h
  rw [if_neg (by omega)] at h
  have w := (hW.2 (q / 512) hq).1
  unfold nx at h
  split at h
  · cases h
  · split at h
    · split at h <;> cases h
    · split at h
      · cases h
      · omega
theorem EE_claim (hW : WF P n) {q : Nat} (h0 : 0 ≤ EE P n q) (h1 : EE P n q < 1000) : ∃ c k z : Nat, EE P n q = c ∧ c < n ∧ (P c).1 = 1 ∧ StpR P n k q z ∧ z / 512 = c ∧ LL P n q = k + 1 := by
  obtain ⟨k, z, h⟩ := EE_ne (show EE P n q ≠ -1 by omega)
  have e := EE_stop h
  unfold tv at e
  split at e
  · omega
  · rename_i c
    exact ⟨z / 512, k, z, e, by omega, nxt_none hW h.2 (by omega), h, rfl, by rw [LL_stop h, if_neg c]⟩
theorem EE_n {t : Nat} (ht : t < 512) : EE P n (n * 512 + t) = ((1000 + t : Nat) : Int) := by
  rw [EE_end (nxt_end (by omega))]
  unfold tv
  rw [if_pos (by omega), show (n * 512 + t) % 512 = t by omega]
theorem EE_0 {t : Nat} (ht : t < 512) : EE P 0 t = ((1000 + t : Nat) : Int) := by
  have := EE_n (P := P) (n := 0) ht
  rwa [show 0 * 512 + t = t by omega] at this
theorem LL_0 (t : Nat) : LL P 0 t = 0 := by
  have := LL_n (P := P) (n := 0) t
  omega
theorem dm_n : dmV P n n = 512 := ctb_all (fun t ht => decide_eq_true (by rw [EE_n ht]; omega))
theorem dm_le (i : Nat) : dmV P n i ≤ 512 := ctb_le _ _
theorem nxt_at {i t : Nat} (hi : i < n) (ht : t < 512) : nxt P n (i * 512 + t) = nx P (i * 512 + t) ∧ (i * 512 + t) / 512 = i ∧ (i * 512 + t) % 512 = t := ⟨by unfold nxt; rw [if_neg (by omega)], by omega, by omega⟩
theorem dm_claim (hW : WF P n) {i : Nat} (hi : i < n) (hk : (P i).1 = 1) : dmV P n i ≤ dmV P n (i + 1) := by
  have hn := hW.1
  refine ctb_mono (fun t ht h => ?_)
  have h := of_decide_eq_true h
  refine decide_eq_true ?_
  obtain ⟨e1, e2, e3⟩ := nxt_at (P := P) hi ht
  cases c : nxt P n (i * 512 + t) with
  | none =>
    rw [EE_end c] at h
    unfold tv at h
    rw [if_neg (by omega)] at h
    omega
  | some z =>
    rw [EE_nxt c] at h
    rw [e1] at c
    unfold nx at c
    rw [e2, e3, if_neg (by omega)] at c
    split at c
    · rw [if_neg (by omega)] at c
      have c := Option.some.inj c
      rw [show (i + 1) * 512 + t = z by omega]
      exact h
    · rw [if_neg (by omega)] at c
      cases c
theorem dm_jump (hW : WF P n) {i : Nat} (hi : i < n) (hk : (P i).1 = 2) : dmV P n i ≤ dmV P n (i + 1) + dmV P n (P i).2.2.2.2.toNat := by
  have hn := hW.1
  refine ctb_or (fun t ht h => ?_)
  have h := of_decide_eq_true h
  obtain ⟨e1, e2, e3⟩ := nxt_at (P := P) hi ht
  cases c : nxt P n (i * 512 + t) with
  | none =>
    rw [EE_end c] at h
    unfold tv at h
    rw [if_neg (by omega)] at h
    omega
  | some z =>
    rw [EE_nxt c] at h
    rw [e1] at c
    unfold nx at c
    rw [e2, e3, if_neg (by omega)] at c
    split at c
    · have c := Option.some.inj c
      refine Or.inr (decide_eq_true ?_)
      rw [show (P i).2.2.2.2.toNat * 512 + t = z by omega]
      exact h
    · have c := Option.some.inj c
      refine Or.inl (decide_eq_true ?_)
      rw [show (i + 1) * 512 + t = z by omega]
      exact h
theorem tg_kind {P : Nat → S9} {i : Nat} (h : (P i).1 ≠ 2) : tg9 (P i) = -1 := by unfold tg9; rw [if_neg h]
theorem tg_jump (hW : WF P n) {i : Nat} (hi : i < n) (hk : (P i).1 = 2) : 0 ≤ tg9 (P i) ∧ tg9 (P i) ≤ n ∧ tg9 (P i) = (((P i).2.2.2.2.toNat : Nat) : Int) ∧ (P i).2.2.2.2.toNat ≤ n := by
  have := (hW.2 i hi).2.2.2.2.2.2 hk
  unfold tg9
  rw [if_pos hk]
  omega
end PROPS
