/-! ## runs: where a place leads to. fb_holes is out of the kit's COUNTS, pasted -/
theorem fb_holes : ∀ (m n : Nat) (f : Nat → Nat), (∀ i, i < n → f i < m) → (∀ i j, i < j → j < n → f i ≠ f j) → n ≤ m := by
  intro m
  induction m with
  | zero =>
    intro n f h1 _
    rcases Nat.eq_zero_or_pos n with h | h
    · omega
    · exact absurd (h1 0 h) (Nat.not_lt_zero _)
  | succ m ih =>
    intro n f h1 h2
    by_cases hx : ∃ i, i < n ∧ f i = m
    · obtain ⟨a, ha, hfa⟩ := hx
      have hg := ih (n - 1) (fun i => if i < a then f i else f (i + 1)) (by
        intro i hi
        by_cases q : i < a
        · simp only [if_pos q]
          have b1 := h1 i (by omega)
          have b2 := h2 i a q ha
          omega
        · simp only [if_neg q]
          have b1 := h1 (i + 1) (by omega)
          have b2 := h2 a (i + 1) (by omega) (by omega)
          omega) (by
        intro i j hij hj
        by_cases q : i < a
        · by_cases r : j < a
          · simp only [if_pos q, if_pos r]
            exact h2 i j hij (by omega)
          · simp only [if_pos q, if_neg r]
            exact h2 i (j + 1) (by omega) (by omega)
        · have r : ¬ j < a := by omega
          simp only [if_neg q, if_neg r]
          exact h2 (i + 1) (j + 1) (by omega) (by omega))
      omega
    · have hg := ih n f (fun i hi => by
        have b1 := h1 i hi
        have b2 : f i ≠ m := fun e => hx ⟨i, hi, e⟩
        omega) h2
      omega
def it (P : Nat → S9) (n : Nat) : Nat → Nat → Option Nat
  | 0, q => some q
  | k + 1, q => (it P n k q).bind (nxt P n)
def tv (n q : Nat) : Nat := if n ≤ q / 512 then 1000 + q % 512 else q / 512
def StpR (P : Nat → S9) (n k q z : Nat) : Prop := it P n k q = some z ∧ nxt P n z = none
noncomputable def EE (P : Nat → S9) (n q : Nat) : Int := @dite _ (∃ k z, StpR P n k q z) (Classical.propDecidable _) (fun h => (tv n h.choose_spec.choose : Int)) (fun _ => -1)
noncomputable def LL (P : Nat → S9) (n q : Nat) : Nat := @dite _ (∃ k z, StpR P n k q z) (Classical.propDecidable _) (fun h => h.choose + (if n ≤ h.choose_spec.choose / 512 then 0 else 1)) (fun _ => 0)
section RUNS
variable {P : Nat → S9} {n : Nat}
theorem it_add (a b q : Nat) : it P n (a + b) q = (it P n a q).bind (it P n b) := by
  induction b with
  | zero => show it P n a q = _; cases it P n a q <;> rfl
  | succ b ih =>
    show (it P n (a + b) q).bind (nxt P n) = _
    rw [ih]
    cases it P n a q <;> rfl
theorem it_one (q : Nat) : it P n 1 q = nxt P n q := rfl
theorem it_dead {q : Nat} (h : nxt P n q = none) (k : Nat) : it P n (k + 1) q = none := by
  rw [Nat.add_comm, it_add, it_one, h]
  rfl
theorem it_from {k q z : Nat} (h : it P n k q = some z) (j : Nat) : it P n (k + j) q = it P n j z := by
  rw [it_add, h]
  rfl
theorem StpR.uniq {k k' q z z' : Nat} (h : StpR P n k q z) (h' : StpR P n k' q z') : k = k' ∧ z = z' := by
  have key : ∀ {a b x y : Nat}, StpR P n a q x → StpR P n b q y → a ≤ b → a = b := by
    intro a b x y ha hb hab
    rcases Nat.lt_or_ge a b with c | c
    · have := it_from ha.1 (b - a - 1 + 1)
      rw [it_dead ha.2, show a + (b - a - 1 + 1) = b by omega, hb.1] at this
      cases this
    · omega
  have e : k = k' := by
    rcases Nat.le_total k k' with c | c
    · exact key h h' c
    · exact (key h' h c).symm
  subst e
  exact ⟨rfl, Option.some.inj (h.1.symm.trans h'.1)⟩
theorem EE_stop {k q z : Nat} (h : StpR P n k q z) : EE P n q = (tv n z : Int) := by
  have hx : ∃ k z, StpR P n k q z := ⟨k, z, h⟩
  unfold EE
  rw [dif_pos hx, (StpR.uniq hx.choose_spec.choose_spec h).2]
theorem LL_stop {k q z : Nat} (h : StpR P n k q z) : LL P n q = k + (if n ≤ z / 512 then 0 else 1) := by
  have hx : ∃ k z, StpR P n k q z := ⟨k, z, h⟩
  unfold LL
  rw [dif_pos hx, (StpR.uniq hx.choose_spec.choose_spec h).2, (StpR.uniq hx.choose_spec.choose_spec h).1]
theorem EE_none {q : Nat} (h : ∀ k z, ¬ StpR P n k q z) : EE P n q = -1 := by
  unfold EE
  rw [dif_neg (fun ⟨k, z, x⟩ => h k z x)]
theorem EE_ne {q : Nat} (h : EE P n q ≠ -1) : ∃ k z, StpR P n k q z := by
  apply Classical.byContradiction
  intro c
  exact h (EE_none (fun k z x => c ⟨k, z, x⟩))
theorem EE_it {k q z : Nat} (h : it P n k q = some z) : EE P n q = EE P n z := by
  by_cases c : ∃ j w, StpR P n j z w
  · obtain ⟨j, w, hw⟩ := c
    rw [EE_stop hw]
    exact EE_stop (k := k + j) ⟨(it_from h j).trans hw.1, hw.2⟩
  · rw [EE_none (q := z) (fun j w x => c ⟨j, w, x⟩)]
    refine EE_none (fun k' w hw => ?_)
    rcases Nat.lt_or_ge k' k with d | d
    · have := it_from hw.1 (k - k' - 1 + 1)
      rw [it_dead hw.2, show k' + (k - k' - 1 + 1) = k by omega, h] at this
      cases this
    · refine c ⟨k' - k, w, ?_, hw.2⟩
      have := it_from h (k' - k)
      rw [show k + (k' - k) = k' by omega, hw.1] at this
      exact this.symm
theorem EE_nxt {q z : Nat} (h : nxt P n q = some z) : EE P n q = EE P n z := EE_it (k := 1) h
theorem EE_end {q : Nat} (h : nxt P n q = none) : EE P n q = (tv n q : Int) := EE_stop (k := 0) ⟨rfl, h⟩
theorem EE_cyc {k q : Nat} (h : it P n (k + 1) q = some q) : EE P n q = -1 := by
  refine EE_none (fun j z hz => ?_)
  have h2 : StpR P n (k + 1 + j) q z := ⟨(it_from h j).trans hz.1, hz.2⟩
  have := (StpR.uniq hz h2).1
  omega
theorem tv_rng (n q : Nat) (h : q < 512 * (n + 1)) (hn : n ≤ 12) : tv n q < 1512 := by unfold tv; split <;> omega
theorem nxt_lt (hW : WF P n) {q z : Nat} (h : nxt P n q = some z) : z < 512 * (n + 1) := by
  unfold nxt at h
  by_cases c : n ≤ q / 512
  · rw [if_pos c] at h; cases h
  · rw [if_neg c] at h
    obtain ⟨w0, w1, w2, w3, w4, w5, w6⟩ := hW.2 (q / 512) (by omega)
    unfold nx at h
    split at h
    · have := wv_lt (t := q % 512) (w := (P (q / 512)).2.1) (x := ((((opv (q % 512) (P (q / 512)).2.2.2.1 : Nat) : Int) + (P (q / 512)).2.2.2.2) % 8).toNat) (by omega) (by omega)
      have := Option.some.inj h
      omega
    · split at h
      · split at h
        · have := w6 (by assumption)
          have := Option.some.inj h
          omega
        · have := Option.some.inj h
          omega
      · split at h
        · have := Option.some.inj h
          omega
        · cases h
theorem it_lt (hW : WF P n) {k q z : Nat} (hq : q < 512 * (n + 1)) (h : it P n k q = some z) : z < 512 * (n + 1) := by
  cases k with
  | zero => cases h; exact hq
  | succ k =>
    have h : (it P n k q).bind (nxt P n) = some z := h
    cases c : it P n k q with
    | none => rw [c] at h; cases h
    | some x => rw [c] at h; exact nxt_lt hW h
theorem EE_rng (hW : WF P n) {q : Nat} (hq : q < 512 * (n + 1)) : -1 ≤ EE P n q ∧ EE P n q < 1512 := by
  by_cases c : ∃ k z, StpR P n k q z
  · obtain ⟨k, z, h⟩ := c
    rw [EE_stop h]
    have := tv_rng n z (it_lt hW hq h.1) hW.1
    omega
  · rw [EE_none (fun k z x => c ⟨k, z, x⟩)]
    omega
theorem it_pre {j q p : Nat} (h : it P n j q = some p) : ∀ i, i ≤ j → ∃ x, it P n i q = some x := by
  intro i hi
  cases c : it P n i q with
  | some x => exact ⟨x, rfl⟩
  | none =>
    have : it P n (i + (j - i)) q = none := by rw [it_add, c]; rfl
    rw [show i + (j - i) = j by omega, h] at this
    cases this
theorem path_len (hW : WF P n) {j q p : Nat} (hq : q < 512 * (n + 1)) (h : it P n j q = some p) (hd : ∀ i i' x, i < i' → i' ≤ j → it P n i q = some x → it P n i' q ≠ some x) : j < 6656 := by
  have := fb_holes (512 * (n + 1)) (j + 1) (fun i => (it P n i q).getD 0) (fun i hi => by
    obtain ⟨x, hx⟩ := it_pre h i (by omega)
    simp only [hx, Option.getD_some]
    exact it_lt hW hq hx) (fun i i' hii hi' => by
    obtain ⟨x, hx⟩ := it_pre h i (by omega)
    obtain ⟨x', hx'⟩ := it_pre h i' (by omega)
    simp only [hx, hx', Option.getD_some]
    intro e
    subst e
    exact hd i i' x hii (by omega) hx hx')
  have := hW.1
  omega
theorem stp_inj {k q z : Nat} (h : StpR P n k q z) : ∀ i i' x, i < i' → it P n i q = some x → it P n i' q ≠ some x := by
  intro i i' x hii h1 h2
  have h3 := it_from h1 (i' - i - 1 + 1)
  rw [show i + (i' - i - 1 + 1) = i' by omega, h2] at h3
  have h4 := EE_cyc h3.symm
  rw [← EE_it h1, EE_stop h] at h4
  omega
theorem stp_len (hW : WF P n) {k q z : Nat} (hq : q < 512 * (n + 1)) (h : StpR P n k q z) : k < 6656 := path_len hW hq h.1 (fun i i' x a _ => stp_inj h i i' x a)
/-- the remembered ends: not known, or right -/
def OKE (P : Nat → S9) (n : Nat) (f : Nat → Int32) : Prop := ∀ q, q < 512 * (n + 1) → f q = zI (-2) ∨ f q = zI (EE P n q)
/-- while a way is marked: its first j places are -3 -/
def FI (P : Nat → S9) (n s i j : Nat) (f : Nat → Int32) : Prop := (∀ q, q < 512 * (n + 1) → f q = zI (-2) ∨ f q = zI (EE P n q) ∨ (f q = zI (-3) ∧ ∃ i', i ≤ i' ∧ i' < j ∧ it P n i' s = some q)) ∧ (∀ i' x, i ≤ i' → i' < j → it P n i' s = some x → f x = zI (-3)) ∧ ∀ i' i'' x, i' < i'' → i'' < j → it P n i' s = some x → it P n i'' s ≠ some x
theorem EE_zI (hW : WF P n) {q : Nat} (hq : q < 512 * (n + 1)) {c : Int} (h1 : -10 ≤ c) (h2 : c < -1) : zI (EE P n q) ≠ zI c := by
  have := EE_rng hW hq
  rw [Ne, zI_inj (by omega) (by omega) (by omega) (by omega)]
  omega
theorem FI_0 {s : Nat} {f : Nat → Int32} (h : OKE P n f) : FI P n s 0 0 f := ⟨fun q hq => (h q hq).elim Or.inl (fun x => Or.inr (Or.inl x)), fun _ _ _ h => absurd h (Nat.not_lt_zero _), fun _ _ _ _ h => absurd h (Nat.not_lt_zero _)⟩
theorem z23 : zI (-2) ≠ zI (-3) := by decide
theorem FI_mark (hW : WF P n) {s j p : Nat} {f : Nat → Int32} (hs : s < 512 * (n + 1)) (h : FI P n s 0 j f) (hp : it P n j s = some p) (hf : f p = zI (-2)) : FI P n s 0 (j + 1) (upd f p (zI (-3))) := by
  have hne : ∀ i' x, i' < j → it P n i' s = some x → x ≠ p := fun i' x hi hx e => by
    have := h.2.1 i' x (Nat.zero_le _) hi hx
    rw [e, hf] at this
    exact z23 this
  refine ⟨fun q hq => ?_, fun i' x _ hi hx => ?_, fun i' i'' x h1 h2 hx hy => ?_⟩
  · by_cases c : q = p
    · subst c
      exact Or.inr (Or.inr ⟨pk_us, j, Nat.zero_le _, by omega, hp⟩)
    · rw [pk_un c]
      rcases h.1 q hq with a | a | ⟨a, i', _, b, d⟩
      · exact Or.inl a
      · exact Or.inr (Or.inl a)
      · exact Or.inr (Or.inr ⟨a, i', Nat.zero_le _, by omega, d⟩)
  · by_cases c : x = p
    · subst c; exact pk_us
    · rw [pk_un c]
      rcases Nat.lt_or_ge i' j with d | d
      · exact h.2.1 i' x (Nat.zero_le _) d hx
      · have : i' = j := by omega
        subst this
        exact absurd (Option.some.inj (hx.symm.trans hp)) c
  · rcases Nat.lt_or_ge i'' j with d | d
    · exact h.2.2 i' i'' x h1 d hx hy
    · have : i'' = j := by omega
      subst this
      exact hne i' x h1 hx (Option.some.inj (hy.symm.trans hp))
theorem FI_end {s j p : Nat} {f : Nat → Int32} (h : FI P n s 0 j f) (hf : f p = zI (-2)) (hn : nxt P n p = none) : FI P n s 0 j (upd f p (nI (tv n p))) := by
  have hne : ∀ i' x, i' < j → it P n i' s = some x → x ≠ p := fun i' x hi hx e => by
    have := h.2.1 i' x (Nat.zero_le _) hi hx
    rw [e, hf] at this
    exact z23 this
  refine ⟨fun q hq => ?_, fun i' x a hi hx => ?_, h.2.2⟩
  · by_cases c : q = p
    · subst c
      exact Or.inr (Or.inl (by rw [pk_us, EE_end hn, zI_nI]))
    · rw [pk_un c]; exact h.1 q hq
  · rw [pk_un (hne i' x hi hx)]
    exact h.2.1 i' x a hi hx
theorem FI_len (hW : WF P n) {s j p : Nat} {f : Nat → Int32} (hs : s < 512 * (n + 1)) (h : FI P n s 0 j f) (hp : it P n j s = some p) (hf : f p = zI (-2)) : j < 6656 := by
  refine path_len hW hs hp (fun i i' x h1 h2 hx hy => ?_)
  rcases Nat.lt_or_ge i' j with d | d
  · exact h.2.2 i i' x h1 d hx hy
  · have : i' = j := by omega
    subst this
    have e := Option.some.inj (hy.symm.trans hp)
    subst e
    have := h.2.1 i x (Nat.zero_le _) h1 hx
    rw [hf] at this
    exact z23 this
/-- what a way's places lead to, at the end of marking -/
theorem FI_val (hW : WF P n) {s j p : Nat} {f : Nat → Int32} (hs : s < 512 * (n + 1)) (h : FI P n s 0 j f) (hp : it P n j s = some p) (hf : f p ≠ zI (-2)) : (if f p = zI (-3) then zI (-1) else f p) = zI (EE P n s) := by
  rw [EE_it hp]
  rcases h.1 p (it_lt hW hs hp) with a | a | ⟨a, i', _, b, d⟩
  · exact absurd a hf
  · rw [a, if_neg (EE_zI hW (it_lt hW hs hp) (by omega) (by omega))]
  · rw [a, if_pos rfl]
    have h3 := it_from d (j - i' - 1 + 1)
    rw [show i' + (j - i' - 1 + 1) = j by omega, hp] at h3
    rw [EE_cyc h3.symm]
theorem FI_set (hW : WF P n) {s i j p : Nat} {f : Nat → Int32} (h : FI P n s i j f) (hp : it P n i s = some p) (hi : i < j) : FI P n s (i + 1) j (upd f p (zI (EE P n s))) := by
  refine ⟨fun q hq => ?_, fun i' x a b hx => ?_, h.2.2⟩
  · by_cases c : q = p
    · subst c
      exact Or.inr (Or.inl (by rw [pk_us, EE_it hp]))
    · rw [pk_un c]
      rcases h.1 q hq with a | a | ⟨a, i', b, c2, d⟩
      · exact Or.inl a
      · exact Or.inr (Or.inl a)
      · refine Or.inr (Or.inr ⟨a, i', ?_, c2, d⟩)
        have : i' ≠ i := fun e => by subst e; exact c (Option.some.inj (d.symm.trans hp))
        omega
  · have c : x ≠ p := fun e => by subst e; exact h.2.2 i i' x (by omega) b hp hx
    rw [pk_un c]
    exact h.2.1 i' x (by omega) b hx
theorem FI_in {s i j p : Nat} {f : Nat → Int32} (h : FI P n s i j f) (hq : p < 512 * (n + 1)) (hp : it P n i s = some p) (hW : WF P n) (hf : f p = zI (-3)) : i < j := by
  rcases h.1 p hq with a | a | ⟨a, i', b, c, d⟩
  · rw [hf] at a; exact absurd a.symm z23
  · rw [hf] at a; exact absurd a.symm (EE_zI hW hq (by omega) (by omega))
  · omega
theorem FI_out {s i j : Nat} {f : Nat → Int32} (h : FI P n s i j f) (hi : j ≤ i) : OKE P n f := by
  intro q hq
  rcases h.1 q hq with a | a | ⟨a, i', b, c, d⟩
  · exact Or.inl a
  · exact Or.inr a
  · omega
theorem FI_not {s i j p : Nat} {f : Nat → Int32} (h : FI P n s i j f) (hp : it P n i s = some p) (hf : f p ≠ zI (-3)) : j ≤ i := by
  rcases Nat.lt_or_ge i j with c | c
  · exact absurd (h.2.1 i p (Nat.le_refl _) c hp) hf
  · exact c
end RUNS
section RUNS2
variable {P : Nat → S9} {n : Nat}
theorem nI_nm {a b : Nat} (h1 : a < 2147483648) (hb : b < 2147483648) : nI a ≠ zI (-((b + 1 : Nat) : Int)) := by
  rw [Ne, zI_nI, zI_inj (by omega) (by omega) (by omega) (by omega)]
  omega
theorem FI_start {s j p : Nat} {f : Nat → Int32} (h : FI P n s 0 j f) (hp : it P n j s = some p) (hf : f p ≠ zI (-2)) : f s ≠ zI (-2) := by
  cases j with
  | zero => cases hp; exact hf
  | succ j =>
    rw [h.2.1 0 s (Nat.le_refl _) (Nat.succ_pos _) rfl]
    exact z23.symm
theorem st_keep (hW : WF P n) {s x : Nat} {f : Nat → Int32} (hs : s < 512 * (n + 1)) (h : f s ≠ zI (-2)) : upd f x (zI (EE P n s)) s ≠ zI (-2) := by
  by_cases c : s = x
  · subst c
    rw [pk_us]
    exact EE_zI hW hs (by omega) (by omega)
  · rw [pk_un c]; exact h
theorem OKE_at {s : Nat} {f : Nat → Int32} (h : OKE P n f) (hs : s < 512 * (n + 1)) (h2 : f s ≠ zI (-2)) : f s = zI (EE P n s) := (h s hs).resolve_left h2
theorem it_step {i s x y : Nat} (h : it P n i s = some x) (h2 : nxt P n x = some y) : it P n (i + 1) s = some y := by
  show (it P n i s).bind _ = _
  rw [h]; exact h2
theorem nxt_end {x : Nat} (h : n ≤ x / 512) : nxt P n x = none := by unfold nxt; rw [if_pos h]
theorem StpR_le {i k s x z : Nat} (h : StpR P n k s z) (hx : it P n i s = some x) : i ≤ k := by
  rcases Nat.lt_or_ge k i with c | c
  · have := it_from h.1 (i - k - 1 + 1)
    rw [it_dead h.2, show k + (i - k - 1 + 1) = i by omega, hx] at this
    cases this
  · exact c
theorem LL_end {i s x : Nat} (hx : it P n i s = some x) (h : n ≤ x / 512) : LL P n s = i := by
  rw [LL_stop ⟨hx, nxt_end h⟩, if_pos h]
  rfl
theorem LL_fail {i s x : Nat} (hx : it P n i s = some x) (h : nxt P n x = none) (h2 : ¬ n ≤ x / 512) : LL P n s = i + 1 := by
  rw [LL_stop ⟨hx, h⟩, if_neg h2]
theorem LL_lt (hW : WF P n) {s : Nat} (hs : s < 512 * (n + 1)) : LL P n s ≤ 6656 := by
  by_cases c : ∃ k z, StpR P n k s z
  · obtain ⟨k, z, h⟩ := c
    rw [LL_stop h]
    have := stp_len hW hs h
    split <;> omega
  · unfold LL
    rw [dif_neg c]
    omega
end RUNS2
abbrev cRu (v : VV) (d : Nat → Nat) (pa : Nat) (s : Bool) : va_W := [(d 0, .inr (4, [.ref pa, .ref (d 1), .int (bI s)]))]
abbrev cEn (v : VV) (d : Nat → Nat) (e : Nat → Int32) : va_W := [(d 1, .inl (v.2.1 0, 6656, .inl e))]

