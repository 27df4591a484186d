/-! ## following a run: which places it comes to -/
section FOLLOW
variable {P : Nat → S9} {n : Nat}
/-- places visited: those of V, and the first c of the way from t -/
def Vt (P : Nat → S9) (n : Nat) (V : Nat → Prop) (t c : Nat) : Nat → Prop := fun z => V z ∨ ∃ k, k < c ∧ it P n k t = some z
/-- .. and all of the way from t -/
def Va (P : Nat → S9) (n : Nat) (V : Nat → Prop) (t : Nat) : Nat → Prop := fun z => V z ∨ ∃ k, it P n k t = some z
def ClV (P : Nat → S9) (n : Nat) (V : Nat → Prop) : Prop := ∀ q z, V q → nxt P n q = some z → V z
theorem ClV.along {V : Nat → Prop} (h : ClV P n V) {q z : Nat} (hq : V q) : ∀ k, it P n k q = some z → V z := by
  intro k
  induction k generalizing z with
  | zero => intro e; cases e; exact hq
  | succ k ih =>
    intro e
    have e : (it P n k q).bind (nxt P n) = some z := e
    cases c : it P n k q with
    | none => rw [c] at e; cases e
    | some x => rw [c] at e; exact h x z (ih c) e
theorem ClV.all {V : Nat → Prop} (h : ClV P n V) (t : Nat) : ClV P n (Va P n V t) := by
  intro q z hq hz
  rcases hq with a | ⟨k, a⟩
  · exact Or.inl (h q z a hz)
  · exact Or.inr ⟨k + 1, it_step a hz⟩
theorem Vt_back {V : Nat → Prop} (h : ClV P n V) {t c x : Nat} (hx : it P n c t = some x) (hv : Vt P n V t c x) : ∀ k z, it P n k t = some z → Vt P n V t c z := by
  intro k
  induction k using Nat.strongRecOn with
  | _ k ih =>
    intro z hz
    rcases Nat.lt_or_ge k c with d | d
    · exact Or.inr ⟨k, d, hz⟩
    · have e := it_from hx (k - c)
      rw [show c + (k - c) = k by omega, hz] at e
      rcases hv with a | ⟨k0, a, b⟩
      · exact Or.inl (h.along a (k - c) e.symm)
      · have e2 := it_from b (k - c)
        rw [← e] at e2
        exact ih (k0 + (k - c)) (by omega) z e2
theorem Vt_iff {V : Nat → Prop} (h : ClV P n V) {t c x : Nat} (hx : it P n c t = some x) (hv : Vt P n V t c x) (z : Nat) : Vt P n V t c z ↔ Va P n V t z :=
  ⟨fun a => a.elim Or.inl (fun ⟨k, _, b⟩ => Or.inr ⟨k, b⟩), fun a => a.elim Or.inl (fun ⟨k, b⟩ => Vt_back h hx hv k z b)⟩
theorem Vt_end {V : Nat → Prop} {t c x : Nat} (hx : it P n c t = some x) (hn : nxt P n x = none) (z : Nat) : Vt P n V t (c + 1) z ↔ Va P n V t z := by
  refine ⟨fun a => a.elim Or.inl (fun ⟨k, _, b⟩ => Or.inr ⟨k, b⟩), fun a => a.elim Or.inl (fun ⟨k, b⟩ => ?_)⟩
  have := StpR_le ⟨hx, hn⟩ b
  exact Or.inr ⟨k, by omega, b⟩
theorem Vt_succ {V : Nat → Prop} {t c x : Nat} (hx : it P n c t = some x) (z : Nat) : adV (Vt P n V t c) x z ↔ Vt P n V t (c + 1) z := by
  constructor
  · intro a
    rcases a with (a | ⟨k, b, d⟩) | a
    · exact Or.inl a
    · exact Or.inr ⟨k, by omega, d⟩
    · exact Or.inr ⟨c, by omega, by rw [a]; exact hx⟩
  · intro a
    rcases a with a | ⟨k, b, d⟩
    · exact Or.inl (Or.inl a)
    · rcases Nat.lt_or_ge k c with e | e
      · exact Or.inl (Or.inr ⟨k, e, d⟩)
      · have : k = c := by omega
        subst this
        exact Or.inr (Option.some.inj (d.symm.trans hx))
def Dst (P : Nat → S9) (n t c : Nat) : Prop := ∀ i i' y, i < i' → i' < c → it P n i t = some y → it P n i' t ≠ some y
theorem Dst_succ {V : Nat → Prop} {t c x : Nat} (h : Dst P n t c) (hx : it P n c t = some x) (hv : ¬ Vt P n V t c x) : Dst P n t (c + 1) := by
  intro i i' y h1 h2 hy hy'
  rcases Nat.lt_or_ge i' c with d | d
  · exact h i i' y h1 d hy hy'
  · have : i' = c := by omega
    subst this
    have e := Option.some.inj (hy'.symm.trans hx)
    subst e
    exact hv (Or.inr ⟨i, h1, hy⟩)
theorem Dst_len (hW : WF P n) {V : Nat → Prop} {t c x : Nat} (ht : t < 512 * (n + 1)) (h : Dst P n t c) (hx : it P n c t = some x) (hv : ¬ Vt P n V t c x) : c < 6656 :=
  path_len hW ht hx (fun i i' y h1 h2 hy => Dst_succ h hx hv i i' y h1 (by omega) hy)
theorem LoR.cong {V V' : Nat → Prop} {g : Nat → Int32} (h : LoR V g) (e : ∀ z, V z ↔ V' z) : LoR V' g := fun i hi w hw => by
  obtain ⟨x, a, b⟩ := h i hi w hw
  exact ⟨x, a, b.cong (fun t _ => e _)⟩
theorem HiR.cong {V V' : Nat → Prop} {g : Nat → Int32} (h : HiR V g) (e : ∀ z, V z ↔ V' z) : HiR V' g := fun i hi w hw => by
  obtain ⟨x, a, b⟩ := h i hi w hw
  exact ⟨x, a, b.cong (fun t _ => e _)⟩
theorem BitR.cong {V V' : Nat → Prop} {g : Nat → Int64} (h : BitR V g) (e : ∀ z, V z ↔ V' z) : BitR V' g := fun q hq => (h q hq).trans (e q)
end FOLLOW
abbrev cJu (v : VV) (j : Nat → Nat) (pa ba ra x y z : Nat) (s : Bool) : va_W := [(j 0, .inr (2, [.ref pa, .ref ba, .ref ra, .ref (j 1), .ref (j 2), .ref (j 3), .int (nI x), .int (nI y), .int (nI z), .ref (j 4), .int (bI s)]))]
abbrev cEx (v : VV) (j : Nat → Nat) (f : Nat → Int32) : va_W := [(j 1, .inl (v.2.1 0, 12, .inl f))]
abbrev cLo (v : VV) (j : Nat → Nat) (f : Nat → Int32) : va_W := [(j 2, .inl (v.2.1 0, 39, .inl f))]
abbrev cHi (v : VV) (j : Nat → Nat) (f : Nat → Int32) : va_W := [(j 3, .inl (v.2.1 0, 39, .inl f))]
abbrev cVi (v : VV) (j : Nat → Nat) (f : Nat → Int64) : va_W := [(j 4, .inl (v.2.1 1, 104, .inr (.inl f)))]

