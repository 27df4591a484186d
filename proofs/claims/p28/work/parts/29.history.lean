/-! ## History, in mathematics: of the saved states the oldest first; slot (o + i) % 6 keeps the i-th -/
abbrev HE9 : Type := (Nat → S9) × Nat × (Nat → Nat) × (Nat → Nat)
def hpf (pw : Nat → Nat → Nat) : Nat → Option Nat := va_up (va_up (va_up (va_up (va_up (va_up (fun _ => none) 0 (some (pw 0 0))) 1 (some (pw 1 0))) 2 (some (pw 2 0))) 3 (some (pw 3 0))) 4 (some (pw 4 0))) 5 (some (pw 5 0))
def hS9 (H : Nat → HE9) (c : Nat) (e : HE9) : Nat → HE9 := if c = 6 then fun i => if i = 5 then e else H (i + 1) else fun i => if i = c then e else H i
def hC9 (c : Nat) : Nat := if c = 6 then 6 else c + 1
def hU9 {α : Type} (f : Nat → α) (k : Nat) (x : α) : Nat → α := fun i => if i = k then x else f i
def HE_ok (e : HE9) (m : Nat) (f g : Nat → Nat → Int32) : Prop := m = e.2.1 ∧ WF e.1 e.2.1 ∧ PgR e.1 e.2.1 f ∧ AsW e.2.2.1 e.2.2.2 ∧ AsR e.2.2.1 e.2.2.2 g
def HrR (H : Nat → HE9) (o c : Nat) (ns : Nat → Nat) (fs gs : Nat → Nat → Nat → Int32) : Prop := o < 6 ∧ c ≤ 6 ∧ ∀ i, i < c → HE_ok (H i) (ns ((o + i) % 6)) (fs ((o + i) % 6)) (gs ((o + i) % 6))
abbrev cHi9 (v : VV) (h : Nat → Nat) (pw bw : Nat → Nat → Nat) (o c : Nat) : va_W := [(h 0, .inr (1, [.ref (h 1), .ref (h 2), .int (nI o), .int (nI c)])), (h 1, .inl (v.2.1 4, 6, .inr (.inr (.inr (.inr (hpf pw)))))), (h 2, .inl (v.2.1 5, 6, .inr (.inr (.inr (.inr (hpf bw))))))]
theorem hU9_eq {α : Type} {f : Nat → α} {k : Nat} {x : α} : hU9 f k x k = x := if_pos rfl
theorem hU9_ne {α : Type} {f : Nat → α} {k i : Nat} {x : α} (h : i ≠ k) : hU9 f k x i = f i := if_neg h
theorem HrR_put {H : Nat → HE9} {o c k m : Nat} {ns : Nat → Nat} {fs gs : Nat → Nat → Nat → Int32} {e : HE9} {f g : Nat → Nat → Int32} (h : HrR H o c ns fs gs) (hc : c < 6) (hk : k = (o + c) % 6) (he : HE_ok e m f g) : HrR (hS9 H c e) o (hC9 c) (hU9 ns k m) (hU9 fs k f) (hU9 gs k g) := by
  obtain ⟨h1, h2, h3⟩ := h
  unfold hS9 hC9
  rw [if_neg (by omega), if_neg (by omega)]
  refine ⟨h1, by omega, fun i hi => ?_⟩
  by_cases z : i = c
  · subst z
    rw [← hk, hU9_eq, hU9_eq, hU9_eq]; dsimp only; rw [if_pos rfl]
    exact he
  · have : (o + i) % 6 ≠ k := by omega
    rw [hU9_ne this, hU9_ne this, hU9_ne this]; dsimp only; rw [if_neg z]
    exact h3 i (by omega)
theorem HrR_full {H : Nat → HE9} {o c k m : Nat} {ns : Nat → Nat} {fs gs : Nat → Nat → Nat → Int32} {e : HE9} {f g : Nat → Nat → Int32} (h : HrR H o c ns fs gs) (hc : c = 6) (hk : k = ((o + 1) % 6 + 5) % 6) (he : HE_ok e m f g) : HrR (hS9 H c e) ((o + 1) % 6) (hC9 c) (hU9 ns k m) (hU9 fs k f) (hU9 gs k g) := by
  obtain ⟨h1, h2, h3⟩ := h
  unfold hS9 hC9
  rw [if_pos hc, if_pos hc]
  refine ⟨by omega, by omega, fun i hi => ?_⟩
  by_cases z : i = 5
  · subst z
    rw [← hk, hU9_eq, hU9_eq, hU9_eq]; dsimp only; rw [if_pos rfl]
    exact he
  · have : ((o + 1) % 6 + i) % 6 ≠ k := by omega
    rw [hU9_ne this, hU9_ne this, hU9_ne this]; dsimp only; rw [if_neg z, show ((o + 1) % 6 + i) % 6 = (o + (i + 1)) % 6 from by omega]
    exact h3 (i + 1) (by omega)
theorem HrR_drop {H : Nat → HE9} {o c : Nat} {ns : Nat → Nat} {fs gs : Nat → Nat → Nat → Int32} (h : HrR H o c ns fs gs) : HrR H o (c - 1) ns fs gs := ⟨h.1, by have := h.2.1; omega, fun i hi => h.2.2 i (by omega)⟩
theorem HE_copy {P : Nat → S9} {n : Nat} {lo hi : Nat → Nat} {f g f' g' : Nat → Nat → Int32} (hW : WF P n) (hR : PgR P n f) (hL : AsW lo hi) (hG : AsR lo hi g) (e : ∀ j, j < 6 → ∀ i, i < n → f' j i = f j i) (e2 : ∀ j, j < 2 → ∀ w, w < 3 → g' j w = g j w) : HE_ok (P, n, lo, hi) n f' g' := ⟨rfl, hW, PgR_copy hR e, hL, AsR_copy hG e2⟩

