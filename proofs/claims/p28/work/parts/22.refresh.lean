/-! ## judging all runs -/
def ExR (lo hi : Nat → Nat) (P : Nat → S9) (n T : Nat) (ex : Nat → Int32) : Prop := ∀ c, c < 12 → ∃ x : Int, ex c = zI x ∧ IsEx (pX lo hi P n c) T x
def RV (lo hi : Nat → Nat) (P : Nat → S9) (n T q : Nat) : Prop := ∃ t, t < T ∧ ab9 lo hi (-1) t = true ∧ ∃ k, it P n k t = some q
def JOK (lo hi : Nat → Nat) (P : Nat → S9) (n x y z : Nat) (ex lw hg : Nat → Int32) : Prop := x = ctb (jE lo hi P n) 512 ∧ y = ctb (jF lo hi P n) 512 ∧ z = ctb (jS lo hi P n) 512 ∧ ExR lo hi P n 512 ex ∧ LoR (RV lo hi P n 512) lw ∧ HiR (RV lo hi P n 512) hg
section REFRESH
variable {lo hi : Nat → Nat} {P : Nat → S9} {n : Nat}
theorem EE_fail (hW : WF P n) {q : Nat} (hq : q < 512 * (n + 1)) (h0 : 0 ≤ EE P n q) (h1 : EE P n q < 1000) : EE P n q < n := by
  obtain ⟨k, z, h⟩ := EE_ne (show EE P n q ≠ -1 by omega)
  have e := EE_stop h
  have hz := it_lt hW hq h.1
  unfold tv at e
  split at e <;> omega
theorem ExR_no {T : Nat} {ex : Nat → Int32} (h : ExR lo hi P n T ex) (hn : ∀ c : Nat, c < 12 → EE P n T ≠ (c : Int)) : ExR lo hi P n (T + 1) ex := fun c hc => by
  obtain ⟨x, a, b⟩ := h c hc
  exact ⟨x, a, b.no (fun z => hn c hc z.2)⟩
theorem ExR_skip {T : Nat} {ex : Nat → Int32} (h : ExR lo hi P n T ex) (hn : ab9 lo hi (-1) T = false) : ExR lo hi P n (T + 1) ex := fun c hc => by
  obtain ⟨x, a, b⟩ := h c hc
  exact ⟨x, a, b.no (fun z => by rw [z.1] at hn; cases hn)⟩
theorem ExR_keep {T c0 : Nat} {ex : Nat → Int32} {x : Int} (h : ExR lo hi P n T ex) (hc : EE P n T = (c0 : Int)) (hx : ex c0 = zI x) (hm : IsEx (pX lo hi P n c0) T x) (hne : ¬ x = -1) : ExR lo hi P n (T + 1) ex := fun c hc2 => by
  by_cases e : c = c0
  · subst e; exact ⟨x, hx, hm.have hne⟩
  · obtain ⟨x, a, b⟩ := h c hc2
    exact ⟨x, a, b.no (fun z => e (by have := z.2; omega))⟩
theorem ExR_set {T c0 : Nat} {ex : Nat → Int32} {x : Int} (h : ExR lo hi P n T ex) (ha : ab9 lo hi (-1) T = true) (hc : EE P n T = (c0 : Int)) (hm : IsEx (pX lo hi P n c0) T x) (hne : x = -1) : ExR lo hi P n (T + 1) (upd ex c0 (nI T)) := fun c hc2 => by
  by_cases e : c = c0
  · subst e; exact ⟨T, by rw [pk_us, zI_nI], hm.new hne ⟨ha, hc⟩⟩
  · obtain ⟨x, a, b⟩ := h c hc2
    exact ⟨x, by rw [pk_un e]; exact a, b.no (fun z => e (by have := z.2; omega))⟩
theorem j_all {t : Nat} (ha : ab9 lo hi (-1) t = true) : jE lo hi P n t = decide (EE P n t = -1) ∧ jF lo hi P n t = decide (0 ≤ EE P n t ∧ EE P n t < 1000) ∧ jS lo hi P n t = decide (1000 ≤ EE P n t) := by
  unfold jE jF jS
  rw [ha]
  exact ⟨rfl, rfl, rfl⟩
theorem j_no {t : Nat} (ha : ab9 lo hi (-1) t = false) : jE lo hi P n t = false ∧ jF lo hi P n t = false ∧ jS lo hi P n t = false := by
  unfold jE jF jS
  rw [ha]
  exact ⟨rfl, rfl, rfl⟩
theorem RV_cl (T : Nat) : ClV P n (RV lo hi P n T) := by
  intro q z ⟨t, a, b, k, c⟩ hz
  exact ⟨t, a, b, k + 1, it_step c hz⟩
theorem RV_in {T : Nat} (ha : ab9 lo hi (-1) T = true) (z : Nat) : Va P n (RV lo hi P n T) T z ↔ RV lo hi P n (T + 1) z := by
  constructor
  · rintro (⟨t, a, b⟩ | c)
    · exact ⟨t, by omega, b⟩
    · exact ⟨T, by omega, ha, c⟩
  · rintro ⟨t, a, b, c⟩
    rcases Nat.lt_or_ge t T with d | d
    · exact Or.inl ⟨t, d, b, c⟩
    · have : t = T := by omega
      subst this
      exact Or.inr c
theorem RV_out {T : Nat} (ha : ab9 lo hi (-1) T = false) (z : Nat) : RV lo hi P n T z ↔ RV lo hi P n (T + 1) z := by
  constructor
  · rintro ⟨t, a, b⟩
    exact ⟨t, by omega, b⟩
  · rintro ⟨t, a, b, c⟩
    have : t ≠ T := fun e => by rw [e, ha] at b; cases b
    exact ⟨t, by omega, b, c⟩
theorem ExR_0 {ex : Nat → Int32} (h : ∀ i, i < 12 → ex i = zI (-1)) : ExR lo hi P n 0 ex := fun c hc => ⟨-1, h c hc, IsEx.zero⟩
theorem LoR_0 {g : Nat → Int32} (h : ∀ i, i < 39 → g i = zI (-1)) : LoR (RV lo hi P n 0) g := fun i hi' w hw => ⟨-1, h _ (by omega), Or.inl ⟨rfl, fun t _ ⟨t', a, _⟩ => absurd a (Nat.not_lt_zero _)⟩⟩
theorem HiR_0 {g : Nat → Int32} (h : ∀ i, i < 39 → g i = zI (-1)) : HiR (RV lo hi P n 0) g := fun i hi' w hw => ⟨-1, h _ (by omega), Or.inl ⟨rfl, fun t _ ⟨t', a, _⟩ => absurd a (Nat.not_lt_zero _)⟩⟩
theorem BitR_0 {g : Nat → Int64} (h : ∀ i, i < 104 → g i = 0) : BitR (RV lo hi P n 0) g := fun q hq => by
  constructor
  · intro z
    unfold btJ at z
    rw [h _ (by omega)] at z
    unfold bitJ at z
    simp at z
  · rintro ⟨t, a, _⟩
    exact absurd a (Nat.not_lt_zero _)
end REFRESH

