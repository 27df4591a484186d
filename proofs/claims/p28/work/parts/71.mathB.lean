/-! ## what the law asks, in mathematics: bounds, verdicts, the widest range -/
theorem min_ex (p : Nat → Prop) (f : Nat → Nat) : ∀ T, (∀ t, t < T → ¬ p t) ∨ ∃ t, t < T ∧ p t ∧ ∀ t', t' < T → p t' → f t ≤ f t'
  | 0 => Or.inl (fun t h => absurd h (Nat.not_lt_zero t))
  | T + 1 => by
    rcases min_ex p f T with h | ⟨t, a, b, c⟩
    · by_cases z : p T
      · refine Or.inr ⟨T, by omega, z, fun t' ht' hp => ?_⟩
        by_cases e : t' = T
        · rw [e]; exact Nat.le_refl _
        · exact absurd hp (h t' (by omega))
      · refine Or.inl (fun t ht hp => ?_)
        by_cases e : t = T
        · rw [e] at hp; exact z hp
        · exact h t (by omega) hp
    · by_cases z : p T ∧ f T < f t
      · refine Or.inr ⟨T, by omega, z.1, fun t' ht' hp => ?_⟩
        by_cases e : t' = T
        · rw [e]; exact Nat.le_refl _
        · have := c t' (by omega) hp
          omega
      · refine Or.inr ⟨t, by omega, b, fun t' ht' hp => ?_⟩
        by_cases e : t' = T
        · rw [e] at hp ⊢
          exact Nat.not_lt.mp (fun q => z ⟨hp, q⟩)
        · exact c t' (by omega) hp
theorem max_ex (p : Nat → Prop) (f : Nat → Nat) : ∀ T, (∀ t, t < T → ¬ p t) ∨ ∃ t, t < T ∧ p t ∧ ∀ t', t' < T → p t' → f t' ≤ f t
  | 0 => Or.inl (fun t h => absurd h (Nat.not_lt_zero t))
  | T + 1 => by
    rcases max_ex p f T with h | ⟨t, a, b, c⟩
    · by_cases z : p T
      · refine Or.inr ⟨T, by omega, z, fun t' ht' hp => ?_⟩
        by_cases e : t' = T
        · rw [e]; exact Nat.le_refl _
        · exact absurd hp (h t' (by omega))
      · refine Or.inl (fun t ht hp => ?_)
        by_cases e : t = T
        · rw [e] at hp; exact z hp
        · exact h t (by omega) hp
    · by_cases z : p T ∧ f t < f T
      · refine Or.inr ⟨T, by omega, z.1, fun t' ht' hp => ?_⟩
        by_cases e : t' = T
        · rw [e]; exact Nat.le_refl _
        · have := c t' (by omega) hp
          omega
      · refine Or.inr ⟨t, by omega, b, fun t' ht' hp => ?_⟩
        by_cases e : t' = T
        · rw [e] at hp ⊢
          exact Nat.not_lt.mp (fun q => z ⟨hp, q⟩)
        · exact c t' (by omega) hp
theorem ex_ex (p : Nat → Prop) : ∀ T, ∃ x, IsEx p T x
  | 0 => ⟨-1, IsEx.zero⟩
  | T + 1 => by
    obtain ⟨x, h⟩ := ex_ex p T
    by_cases c : p T
    · by_cases d : x = -1
      · exact ⟨T, h.new d c⟩
      · exact ⟨x, h.have d⟩
    · exact ⟨x, h.no c⟩
section VERD
variable {lo hi : Nat → Nat} {P : Nat → S9} {n : Nat}
theorem mn_is (i w : Nat) : IsMn (RV lo hi P n 512) i w (mnV lo hi P n i w) := by
  rcases min_ex (fun t => RV lo hi P n 512 (512 * i + t)) (fun t => val t w) 512 with h | ⟨t, a, b, c⟩
  · have h9 : IsMn (RV lo hi P n 512) i w (-1) := Or.inl ⟨rfl, h⟩
    rw [mnV_eq h9]; exact h9
  · have h9 : IsMn (RV lo hi P n 512) i w (val t w : Int) := Or.inr ⟨t, a, b, rfl, c⟩
    rw [mnV_eq h9]; exact h9
theorem mx_is (i w : Nat) : IsMx (RV lo hi P n 512) i w (mxV lo hi P n i w) := by
  rcases max_ex (fun t => RV lo hi P n 512 (512 * i + t)) (fun t => val t w) 512 with h | ⟨t, a, b, c⟩
  · have h9 : IsMx (RV lo hi P n 512) i w (-1) := Or.inl ⟨rfl, h⟩
    rw [mxV_eq h9]; exact h9
  · have h9 : IsMx (RV lo hi P n 512) i w (val t w : Int) := Or.inr ⟨t, a, b, rfl, c⟩
    rw [mxV_eq h9]; exact h9
theorem exV_is (c : Nat) : IsEx (pX lo hi P n c) 512 (exV lo hi P n c) := by
  obtain ⟨x, h⟩ := ex_ex (pX lo hi P n c) 512
  rw [exV_eq h]; exact h
/-- some run from the assumption comes to the statement -/
def Rd (lo hi : Nat → Nat) (P : Nat → S9) (n i : Nat) : Prop := ∃ t, t < 512 ∧ RV lo hi P n 512 (512 * i + t)
theorem mn_rd (i w : Nat) : (0 ≤ mnV lo hi P n i w ↔ Rd lo hi P n i) ∧ -1 ≤ mnV lo hi P n i w ∧ mnV lo hi P n i w < 8 := by
  have r := (mn_is (lo := lo) (hi := hi) (P := P) (n := n) i w).rng
  refine ⟨?_, r.1, r.2⟩
  rcases mn_is (lo := lo) (hi := hi) (P := P) (n := n) i w with ⟨a, b⟩ | ⟨t, a, b, c, d⟩
  · rw [a]
    exact ⟨fun h => absurd h (by decide), fun ⟨t, h1, h2⟩ => absurd h2 (b t h1)⟩
  · exact ⟨fun _ => ⟨t, a, b⟩, fun _ => by omega⟩
theorem mx_rd (i w : Nat) : (0 ≤ mxV lo hi P n i w ↔ Rd lo hi P n i) ∧ -1 ≤ mxV lo hi P n i w ∧ mxV lo hi P n i w < 8 := by
  have r := (mx_is (lo := lo) (hi := hi) (P := P) (n := n) i w).rng
  refine ⟨?_, r.1, r.2⟩
  rcases mx_is (lo := lo) (hi := hi) (P := P) (n := n) i w with ⟨a, b⟩ | ⟨t, a, b, c, d⟩
  · rw [a]
    exact ⟨fun h => absurd h (by decide), fun ⟨t, h1, h2⟩ => absurd h2 (b t h1)⟩
  · exact ⟨fun _ => ⟨t, a, b⟩, fun _ => by omega⟩
theorem mn_mx (i w : Nat) : mnV lo hi P n i w ≤ mxV lo hi P n i w := by
  have h1 := mn_rd (lo := lo) (hi := hi) (P := P) (n := n) i w
  have h2 := mx_rd (lo := lo) (hi := hi) (P := P) (n := n) i w
  rcases mn_is (lo := lo) (hi := hi) (P := P) (n := n) i w with ⟨a, b⟩ | ⟨t, a, b, c, d⟩
  · omega
  · rcases mx_is (lo := lo) (hi := hi) (P := P) (n := n) i w with ⟨a', b'⟩ | ⟨t', a', b', c', d'⟩
    · exact absurd b (b' t a)
    · have := d' t a b
      omega
theorem exV_rng (c : Nat) : -1 ≤ exV lo hi P n c ∧ exV lo hi P n c < 512 := by
  have := (exV_is (lo := lo) (hi := hi) (P := P) (n := n) c).rng
  omega
theorem exV_pos {c : Nat} (h : exV lo hi P n c ≠ -1) : ∃ t : Nat, t < 512 ∧ exV lo hi P n c = t ∧ ab9 lo hi (-1) t = true ∧ EE P n t = c := by
  rcases exV_is (lo := lo) (hi := hi) (P := P) (n := n) c with ⟨a, b⟩ | ⟨t, a, b, d, e⟩
  · exact absurd a h
  · exact ⟨t, a, b, d.1, d.2⟩
theorem exV_have {c t : Nat} (ht : t < 512) (ha : ab9 lo hi (-1) t = true) (he : EE P n t = c) : exV lo hi P n c ≠ -1 := by
  rcases exV_is (lo := lo) (hi := hi) (P := P) (n := n) c with ⟨a, b⟩ | ⟨t, a, b, d, e⟩
  · exact absurd ⟨ha, he⟩ (b t ht)
  · omega
theorem exV_kind (hW : WF P n) {c : Nat} (hc : c < n) (h : exV lo hi P n c ≠ -1) : (P c).1 = 1 ∧ Rd lo hi P n c := by
  obtain ⟨t, h1, h2, h3, h4⟩ := exV_pos h
  have hn := hW.1
  obtain ⟨c', k, z, e1, e2, e3, e4, e5, e6⟩ := EE_claim hW (q := t) (by omega) (by omega)
  have : c' = c := by omega
  subst this
  refine ⟨e3, z % 512, by omega, t, h1, h3, k, ?_⟩
  rw [show 512 * c' + z % 512 = z by omega]
  exact e4.1
/-- what the verdict of a statement tells -/
theorem vd_claim (hW : WF P n) {i : Nat} (hi9 : i < n) (hk : (P i).1 = 1) : 0 ≤ vdV lo hi P n i ∧ vdV lo hi P n i < 3 ∧ (vdV lo hi P n i = 0 ↔ ¬ Rd lo hi P n i) ∧ (vdV lo hi P n i = 2 ↔ 0 ≤ exV lo hi P n i) := by
  have r := exV_rng (lo := lo) (hi := hi) (P := P) (n := n) i
  have m := mn_rd (lo := lo) (hi := hi) (P := P) (n := n) i 0
  unfold vdV
  rw [if_pos hk]
  by_cases c : exV lo hi P n i = -1
  · rw [if_pos c]
    by_cases d : mnV lo hi P n i 0 = -1
    · rw [if_pos d]
      refine ⟨by decide, by decide, ⟨fun _ h => ?_, fun _ => rfl⟩, ⟨fun h => absurd h (by decide), fun h => by omega⟩⟩
      have := m.1.mpr h
      omega
    · rw [if_neg d]
      exact ⟨by decide, by decide, ⟨fun h => absurd h (by decide), fun h => absurd (m.1.mp (by omega)) h⟩, ⟨fun h => absurd h (by decide), fun h => by omega⟩⟩
  · rw [if_neg c]
    exact ⟨by decide, by decide, ⟨fun h => absurd h (by decide), fun h => absurd (exV_kind hW hi9 c).2 h⟩, ⟨fun _ => by omega, fun _ => rfl⟩⟩
theorem vd_other (hW : WF P n) {i : Nat} (hi9 : i < n) (hk : (P i).1 ≠ 1) : vdV lo hi P n i = -1 ∧ exV lo hi P n i = -1 := by
  refine ⟨by unfold vdV; rw [if_neg hk], ?_⟩
  apply Classical.byContradiction
  intro c
  exact hk (exV_kind hW hi9 c).1
theorem vd_rng (i : Nat) : -1 ≤ vdV lo hi P n i ∧ vdV lo hi P n i < 3 := by
  unfold vdV
  split
  · split
    · split <;> decide
    · decide
  · decide
/-- the claims refuted, counted -/
noncomputable def rfC (lo hi : Nat → Nat) (P : Nat → S9) (n k : Nat) : Nat := ctb (fun i => decide (vdV lo hi P n i = 2)) k
theorem rf_t {k : Nat} (h : vdV lo hi P n k = 2) : rfC lo hi P n (k + 1) = rfC lo hi P n k + 1 := ctb_t (decide_eq_true h)
theorem rf_f {k : Nat} (h : vdV lo hi P n k ≠ 2) : rfC lo hi P n (k + 1) = rfC lo hi P n k := ctb_f (decide_eq_false h)
theorem rf_le (k : Nat) : rfC lo hi P n k ≤ k := ctb_le _ _
theorem jF_iff (hW : WF P n) : 0 < ctb (jF lo hi P n) 512 ↔ 0 < rfC lo hi P n n := by
  have hn := hW.1
  unfold rfC
  rw [ctb_pos, ctb_pos]
  constructor
  · rintro ⟨t, ht, h⟩
    unfold jF at h
    rw [Bool.and_eq_true] at h
    have h2 := of_decide_eq_true h.2
    obtain ⟨c, k, z, e1, e2, e3, e4, e5, e6⟩ := EE_claim hW h2.1 h2.2
    refine ⟨c, e2, decide_eq_true ?_⟩
    have := exV_have ht h.1 e1
    have := exV_rng (lo := lo) (hi := hi) (P := P) (n := n) c
    exact (vd_claim hW e2 e3).2.2.2.mpr (by omega)
  · rintro ⟨c, hc, h⟩
    have h := of_decide_eq_true h
    have hx : exV lo hi P n c ≠ -1 := by
      intro z
      unfold vdV at h
      rw [z] at h
      split at h
      · rw [if_pos rfl] at h
        split at h <;> cases h
      · cases h
    obtain ⟨t, h1, h2, h3, h4⟩ := exV_pos hx
    refine ⟨t, h1, ?_⟩
    unfold jF
    rw [h3, Bool.true_and]
    exact decide_eq_true (by omega)
theorem pf_rng : 0 ≤ pfV lo hi P n ∧ pfV lo hi P n < 3 := by
  unfold pfV
  split
  · decide
  · split <;> decide
theorem pf_2 (hW : WF P n) : pfV lo hi P n = 2 ↔ 0 < rfC lo hi P n n := by
  rw [← jF_iff hW]
  unfold pfV
  split
  · rename_i h
    exact ⟨fun _ => h, fun _ => rfl⟩
  · rename_i h
    split
    · exact ⟨fun z => absurd z (by decide), fun z => absurd z h⟩
    · exact ⟨fun z => absurd z (by decide), fun z => absurd z h⟩
theorem pf_0 (h : pfV lo hi P n = 0) : 0 < ctb (jE lo hi P n) 512 := by
  unfold pfV at h
  split at h
  · cases h
  · split at h
    · assumption
    · cases h
/-- proved: every run from the assumption succeeds -/
theorem pf_1 (hW : WF P n) : pfV lo hi P n = 1 ↔ ∀ t, t < 512 → ab9 lo hi (-1) t = true → 1000 ≤ EE P n t := by
  have hx : pfV lo hi P n = 1 ↔ ¬ 0 < ctb (jF lo hi P n) 512 ∧ ¬ 0 < ctb (jE lo hi P n) 512 := by
    unfold pfV
    split
    · rename_i h
      exact ⟨fun z => absurd z (by decide), fun z => absurd h z.1⟩
    · rename_i h
      split
      · rename_i h2
        exact ⟨fun z => absurd z (by decide), fun z => absurd h2 z.2⟩
      · rename_i h2
        exact ⟨fun _ => ⟨h, h2⟩, fun _ => rfl⟩
  rw [hx, ctb_pos, ctb_pos]
  constructor
  · rintro ⟨h1, h2⟩ t ht ha
    have r := EE_rng hW (q := t) (by omega)
    obtain ⟨j1, j2, j3⟩ := j_all (P := P) (n := n) ha
    by_cases c : EE P n t = -1
    · exact absurd ⟨t, ht, by rw [j1]; exact decide_eq_true c⟩ h2
    · by_cases d : EE P n t < 1000
      · exact absurd ⟨t, ht, by rw [j2]; exact decide_eq_true (by omega)⟩ h1
      · omega
  · intro h
    constructor
    · rintro ⟨t, ht, z⟩
      unfold jF at z
      rw [Bool.and_eq_true] at z
      have := h t ht z.1
      have := of_decide_eq_true z.2
      omega
    · rintro ⟨t, ht, z⟩
      unfold jE at z
      rw [Bool.and_eq_true] at z
      have := h t ht z.1
      have := of_decide_eq_true z.2
      omega
theorem jE_0 (hW : WF P n) (h : pfV lo hi P n = 1) : ctb (jE lo hi P n) 512 = 0 := by
  have h := (pf_1 hW).mp h
  refine ctb_zero.mpr (fun t ht => ?_)
  cases c : jE lo hi P n t with
  | false => rfl
  | true =>
    unfold jE at c
    rw [Bool.and_eq_true] at c
    have := h t ht c.1
    have := of_decide_eq_true c.2
    omega
theorem jS_all (hW : WF P n) (hL : AsW lo hi) (h : pfV lo hi P n = 1) : ctb (jS lo hi P n) 512 = cnt9 lo hi 3 := by
  have h := (pf_1 hW).mp h
  rw [← cnt_eq hL]
  refine ctb_cong (fun t ht => ?_)
  unfold jS
  cases c : ab9 lo hi (-1) t with
  | false => rfl
  | true =>
    rw [Bool.true_and]
    exact decide_eq_true (h t ht c)
theorem jS_le (hL : AsW lo hi) : ctb (jS lo hi P n) 512 ≤ cnt9 lo hi 3 := by
  rw [← cnt_eq hL]
  refine ctb_mono (fun t ht h => ?_)
  unfold jS at h
  rw [Bool.and_eq_true] at h
  exact h.1
theorem pf_n0 {P : Nat → S9} (hW : WF P 0) : pfV lo hi P 0 = 1 := (pf_1 hW).mpr (fun t ht _ => by rw [EE_0 ht]; omega)
end VERD
/-! ### the widest range -/
theorem MkR_ex (lo hi : Nat → Nat) (P : Nat → S9) (n w : Nat) : ∀ T, ∃ m, MkR lo hi P n w T m
  | 0 => ⟨0, MkR_0⟩
  | T + 1 => by
    obtain ⟨m, h⟩ := MkR_ex lo hi P n w T
    by_cases c : ab9 lo hi w T = true ∧ EE P n T < 1000
    · exact ⟨_, MkR_set h c.1 c.2⟩
    · exact ⟨m, MkR_skip h c⟩
def wrB (m : Nat) : Bool := let r := (wrF m 8).1
  decide ((r = -1 ∧ ∀ x, x < 8 → m / 2 ^ x % 2 = 1) ∨ (0 ≤ r ∧ r < 78 ∧ r.toNat / 10 ≤ r.toNat % 10 ∧ r.toNat % 10 < 8 ∧ (∀ x, x < 8 → r.toNat / 10 ≤ x → x ≤ r.toNat % 10 → m / 2 ^ x % 2 ≠ 1) ∧ (0 < r.toNat / 10 → m / 2 ^ (r.toNat / 10 - 1) % 2 = 1) ∧ (r.toNat % 10 < 7 → m / 2 ^ (r.toNat % 10 + 1) % 2 = 1)))
theorem wrB_all : ∀ m, m < 256 → wrB m = true := by decide +kernel
section WIDE
variable {lo hi : Nat → Nat} {P : Nat → S9} {n w : Nat}
/-- what the widest range tells -/
theorem wd_tells : (wdV lo hi P n w = -1 ∧ ∀ x, x < 8 → upN lo hi P n w 512 x) ∨ (∃ a b : Nat, wdV lo hi P n w = ((10 * a + b : Nat) : Int) ∧ a ≤ b ∧ b < 8 ∧ (∀ x, a ≤ x → x ≤ b → ¬ upN lo hi P n w 512 x) ∧ (0 < a → upN lo hi P n w 512 (a - 1)) ∧ (b < 7 → upN lo hi P n w 512 (b + 1))) := by
  obtain ⟨m, h⟩ := MkR_ex lo hi P n w 512
  rw [wdV_eq h]
  have hb := of_decide_eq_true (wrB_all m h.1)
  generalize (wrF m 8).1 = r at hb
  rcases hb with ⟨h1, h2⟩ | ⟨h1, h2, h3, h4, h5, h6, h7⟩
  · exact Or.inl ⟨h1, fun x hx => (h.2 x hx).mp (h2 x hx)⟩
  · exact Or.inr ⟨r.toNat / 10, r.toNat % 10, by omega, h3, h4, fun x a b z => h5 x (by omega) a b ((h.2 x (by omega)).mpr z), fun z => (h.2 _ (by omega)).mp (h6 z), fun z => (h.2 _ (by omega)).mp (h7 z)⟩
theorem ab9_set {a b : Nat} (hw : w < 3) (t : Nat) : ab9 (hU9 lo w a) (hU9 hi w b) (-1) t = true ↔ ab9 lo hi w t = true ∧ a ≤ val t w ∧ val t w ≤ b := by
  simp only [ab9, decide_eq_true_eq]
  constructor
  · intro h
    have hw9 := h w hw (by omega)
    rw [hU9_eq, hU9_eq] at hw9
    refine ⟨fun u hu hne => ?_, hw9⟩
    have := h u hu (by omega)
    rwa [hU9_ne (by omega), hU9_ne (by omega)] at this
  · rintro ⟨h1, h2⟩ u hu _
    by_cases c : u = w
    · subst c
      rw [hU9_eq, hU9_eq]
      exact h2
    · rw [hU9_ne c, hU9_ne c]
      exact h1 u hu (by omega)
theorem ab9_in (hw : w < 3) {t : Nat} : ab9 lo hi (-1) t = true ↔ ab9 lo hi w t = true ∧ lo w ≤ val t w ∧ val t w ≤ hi w := by
  simp only [ab9, decide_eq_true_eq]
  constructor
  · intro h
    exact ⟨fun u hu _ => h u hu (by omega), h w hw (by omega)⟩
  · rintro ⟨h1, h2⟩ u hu _
    by_cases c : u = w
    · subst c; exact h2
    · exact h1 u hu (by omega)
/-- proved with a range of w: no value of the range is one from which some run does not succeed -/
theorem pf_set (hW : WF P n) (hw : w < 3) {a b : Nat} : pfV (hU9 lo w a) (hU9 hi w b) P n = 1 ↔ ∀ x, a ≤ x → x ≤ b → ¬ upN lo hi P n w 512 x := by
  rw [pf_1 hW]
  constructor
  · rintro h x h1 h2 ⟨t, ht, ha, he, hv⟩
    have := h t ht ((ab9_set hw t).mpr ⟨ha, by omega, by omega⟩)
    omega
  · intro h t ht ha
    obtain ⟨h1, h2, h3⟩ := (ab9_set hw t).mp ha
    apply Classical.byContradiction
    intro c
    exact h _ h2 h3 ⟨t, ht, h1, by omega, rfl⟩
theorem wd_proof (hW : WF P n) (hL : AsW lo hi) (hw : w < 3) (h : pfV lo hi P n = 1) : 0 ≤ wdV lo hi P n w := by
  rcases wd_tells (lo := lo) (hi := hi) (P := P) (n := n) (w := w) with ⟨_, h2⟩ | ⟨a, b, h1, _⟩
  · obtain ⟨t, ht, ha, he, hv⟩ := h2 (lo w) (by have := hL w hw; omega)
    have := (pf_1 hW).mp h t ht ((ab9_in hw).mpr ⟨ha, by omega, by have := hL w hw; omega⟩)
    omega
  · rw [h1]; omega
end WIDE
theorem hS9_last (H : Nat → HE9) (c : Nat) (e : HE9) (hc : c ≤ 6) : hS9 H c e (hC9 c - 1) = e := by
  unfold hS9 hC9
  by_cases h : c = 6
  · rw [if_pos h, if_pos h]; rfl
  · rw [if_neg h, if_neg h]
    show (if c + 1 - 1 = c then e else _) = e
    rw [if_pos (by omega)]
theorem hC9_rng (c : Nat) (hc : c ≤ 6) : 0 < hC9 c ∧ hC9 c ≤ 6 ∧ hC9 c - 1 = (if c = 6 then 5 else c) := by
  unfold hC9
  split
  · exact ⟨by omega, by omega, by omega⟩
  · exact ⟨by omega, by omega, by omega⟩
