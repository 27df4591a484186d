/-! ## the assumption, in mathematics -/
def AsR (lo hi : Nat → Nat) (g : Nat → Nat → Int32) : Prop := ∀ w, w < 3 → g 0 w = nI (lo w) ∧ g 1 w = nI (hi w)
def AsW (lo hi : Nat → Nat) : Prop := ∀ w, w < 3 → lo w ≤ hi w ∧ hi w ≤ 7
def ab9 (lo hi : Nat → Nat) (fr : Int) (t : Nat) : Bool := decide (∀ w : Nat, w < 3 → (w : Int) ≠ fr → lo w ≤ val t w ∧ val t w ≤ hi w)
def cnt9 (lo hi : Nat → Nat) : Nat → Nat
  | 0 => 1
  | w + 1 => cnt9 lo hi w * (hi w - lo w + 1)
def x2p (x y : Int32) : Nat → Int32
  | 0 => x
  | _ => y
def li9 (g : Nat → Nat → Int32) (w : Nat) (x : Nat → Int32) : Nat → Nat → Int32 := fun j => upd (g j) w (x j)
def ad3 (x y z : Nat) : Nat → Nat
  | 0 => x
  | 1 => y
  | _ => z
abbrev cAs (v : VV) (b : Nat → Nat) (g : Nat → Nat → Int32) : va_W := [(b 0, .inr (0, [.ref (b 1), .ref (b 2)])), (b 1, .inl (v.2.1 0, 3, .inl (g 0))), (b 2, .inl (v.2.1 0, 3, .inl (g 1)))]
theorem ab9_t {lo hi : Nat → Nat} {fr : Int} {t : Nat} (h : ∀ w : Nat, w < 3 → (w : Int) ≠ fr → lo w ≤ val t w ∧ val t w ≤ hi w) : nI 1 = bI (ab9 lo hi fr t) := bI_one (decide_eq_true h)
theorem ab9_f {lo hi : Nat → Nat} {fr : Int} {t w : Nat} (hw : w < 3) (h1 : ¬ (w : Int) = fr) (h2 : val t w < lo w ∨ hi w < val t w) : nI 0 = bI (ab9 lo hi fr t) := bI_zero (decide_eq_false fun h => by have := h w hw h1; omega)
theorem cnt9_rng {lo hi : Nat → Nat} (h : AsW lo hi) : cnt9 lo hi 3 ≤ 512 ∧ 0 < cnt9 lo hi 3 ∧ cnt9 lo hi 2 ≤ 64 ∧ cnt9 lo hi 1 ≤ 8 ∧ cnt9 lo hi 0 = 1 := by
  have h0 := h 0 (by omega)
  have h1 := h 1 (by omega)
  have h2 := h 2 (by omega)
  have e0 : cnt9 lo hi 0 = 1 := rfl
  have e1 : cnt9 lo hi 1 = 1 * (hi 0 - lo 0 + 1) := rfl
  have e2 : cnt9 lo hi 2 = cnt9 lo hi 1 * (hi 1 - lo 1 + 1) := rfl
  have e3 : cnt9 lo hi 3 = cnt9 lo hi 2 * (hi 2 - lo 2 + 1) := rfl
  have b1 : cnt9 lo hi 1 ≤ 8 := by omega
  have b2 : cnt9 lo hi 2 ≤ 8 * 8 := by rw [e2]; exact Nat.mul_le_mul b1 (by omega)
  have b3 : cnt9 lo hi 3 ≤ 64 * 8 := by rw [e3]; exact Nat.mul_le_mul (by omega) (by omega)
  have p1 : 0 < cnt9 lo hi 1 := by omega
  have p2 : 0 < cnt9 lo hi 2 := by rw [e2]; exact Nat.mul_pos p1 (by omega)
  have p3 : 0 < cnt9 lo hi 3 := by rw [e3]; exact Nat.mul_pos p2 (by omega)
  omega

