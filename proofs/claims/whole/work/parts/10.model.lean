/-! ## the program, in mathematics: a statement is (kind, variable, sign, operand, number); a place is 512 * statement + triple -/
abbrev S9 : Type := Nat × Nat × Nat × Nat × Int
def val (t w : Nat) : Nat := t / 2 ^ (6 - 3 * w) % 8
def wv (t w x : Nat) : Nat := if w = 0 then t % 64 + 64 * x else if w = 1 then t / 64 * 64 + t % 8 + 8 * x else t / 8 * 8 + x
def opv (t o : Nat) : Nat := if o < 8 then o else val t (o - 8)
def tst (s a b : Nat) : Bool := if s = 0 then decide (a = b) else if s = 1 then decide (a < b) else if s = 2 then decide (b < a) else decide (¬ a = b)
def ad9 (s : S9) : Int := if s.1 = 0 then s.2.2.2.2 else 0
def tg9 (s : S9) : Int := if s.1 = 2 then s.2.2.2.2 else -1
def nx (P : Nat → S9) (q : Nat) : Option Nat :=
  if (P (q / 512)).1 = 0 then some (512 * (q / 512 + 1) + wv (q % 512) (P (q / 512)).2.1 (((opv (q % 512) (P (q / 512)).2.2.2.1 : Int) + (P (q / 512)).2.2.2.2) % 8).toNat)
  else if tst (P (q / 512)).2.2.1 (val (q % 512) (P (q / 512)).2.1) (opv (q % 512) (P (q / 512)).2.2.2.1) = true then
    (if (P (q / 512)).1 = 2 then some (512 * (P (q / 512)).2.2.2.2.toNat + q % 512) else some (512 * (q / 512 + 1) + q % 512))
  else if (P (q / 512)).1 = 2 then some (512 * (q / 512 + 1) + q % 512) else none
def nxt (P : Nat → S9) (n q : Nat) : Option Nat := if n ≤ q / 512 then none else nx P q
def eo : Option Nat → Int32
  | none => zI (-1)
  | some q => nI q
def WF (P : Nat → S9) (n : Nat) : Prop := n ≤ 12 ∧ ∀ i, i < n → (P i).1 < 3 ∧ (P i).2.1 < 3 ∧ (P i).2.2.1 < 4 ∧ (P i).2.2.2.1 < 11 ∧ ((P i).1 = 0 → -7 ≤ (P i).2.2.2.2 ∧ (P i).2.2.2.2 ≤ 7) ∧ ((P i).1 = 1 → (P i).2.2.2.2 = 0) ∧ ((P i).1 = 2 → 0 ≤ (P i).2.2.2.2 ∧ (P i).2.2.2.2 ≤ n)
def PgR (P : Nat → S9) (n : Nat) (f : Nat → Nat → Int32) : Prop := ∀ i, i < n → f 0 i = nI (P i).1 ∧ f 1 i = nI (P i).2.1 ∧ f 2 i = nI (P i).2.2.1 ∧ f 3 i = nI (P i).2.2.2.1 ∧ f 4 i = zI (ad9 (P i)) ∧ f 5 i = zI (tg9 (P i))
/-- the cells of a Program: at a 0 the object, at a 1 .. a 6 its rows -/
abbrev cPg (v : VV) (a : Nat → Nat) (n : Nat) (f : Nat → Nat → Int32) : va_W := [(a 0, .inr (3, [.int (nI n), .ref (a 1), .ref (a 2), .ref (a 3), .ref (a 4), .ref (a 5), .ref (a 6)])), (a 1, .inl (v.2.1 0, 12, .inl (f 0))), (a 2, .inl (v.2.1 0, 12, .inl (f 1))), (a 3, .inl (v.2.1 0, 12, .inl (f 2))), (a 4, .inl (v.2.1 0, 12, .inl (f 3))), (a 5, .inl (v.2.1 0, 12, .inl (f 4))), (a 6, .inl (v.2.1 0, 12, .inl (f 5)))]
theorem val_lt (t w : Nat) : val t w < 8 := by unfold val; omega
theorem opv_lt (t : Nat) {o : Nat} : opv t o < 8 := by unfold opv; split; assumption; exact val_lt _ _
theorem wv_lt {t w x : Nat} (ht : t < 512) (hx : x < 8) : wv t w x < 512 := by unfold wv; split; omega; split <;> omega
theorem wv_bits : ∀ t, t < 512 → ∀ w, w < 3 → ∀ x, x < 8 → (nI t &&& ((nI 7 <<< (nI (6 - 3 * w) &&& 31)) ^^^ zI (-1))) ||| (nI x <<< (nI (6 - 3 * w) &&& 31)) = nI (wv t w x) := by decide +kernel
theorem sum_and : ∀ o : Nat, o < 8 → ∀ m : Nat, m < 15 → zI ((o : Int) + ((m : Int) - 7)) &&& nI 7 = nI (((o : Int) + ((m : Int) - 7)) % 8).toNat := by decide +kernel
theorem sum_and' {o : Nat} {m : Int} (ho : o < 8) (h1 : -7 ≤ m) (h2 : m ≤ 7) : zI ((o : Int) + m) &&& nI 7 = nI (((o : Int) + m) % 8).toNat := by
  have h := sum_and o ho (m + 7).toNat (by omega)
  have e : (((m + 7).toNat : Nat) : Int) - 7 = m := by omega
  rwa [e] at h
