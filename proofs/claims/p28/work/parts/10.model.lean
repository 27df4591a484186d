/-! ## the program, in mathematics: a statement is (kind, variable, sign, operand, number); a place is 512 * statement + triple -/
abbrev S9 : Type := Nat × Nat × Nat × Nat × Int
def val (t w : Nat) : Nat := t / 2 ^ (6 - 3 * w) % 8
def wv (t w x : Nat) : Nat := if w = 0 then t % 64 + 64 * x else if w = 1 then t / 64 * 64 + t % 8 + 8 * x else t / 8 * 8 + x
def opv (t o : Nat) : Nat := if o < 8 then o else val t (o - 8)
def tst (s a b : Nat) : Bool := if s = 0 then decide (a = b) else if s = 1 then decide (a < b) else if s = 2 then decide (b < a) else decide (¬ a = b)
def ad9 (s : S9) : Int := if s.1 = 0 then s.2.2.2.2 else 0
def tg9 (s : S9) : Int := if s.1 = 2 then s.2.2.2.2 else -1
def nx (P : Nat → S9) (q : Nat) : Option Nat :=
  if (P (q / 512)).1 = 0 then some (512 * (q / 512 + 1) + wv (q % 512) (P (q / 512)).2.1 (((opv (q % 512) (P (q / 512)).2.2.2.1 : Int) + (P (q / 512)).2.2.2.2) % 8).toNat)
  else if tst (P (q / 512)).2.2.1 (val (q % 512) (P (q / 512)).2.1) (opv (q % 512) (P (q / 512)).2.2.2.1) = true then
    (if (P (q / 512)).1 = 2 then some (512 * (P (q / 512)).2.2.2.2.toNat + q % 512) else some (512 * (q / 512 + 1) + q % 512))
  else if (P (q / 512)).1 = 2 then some (512 * (q / 512 + 1) + q % 512) else none
def nxt (P : Nat → S9) (n q : Nat) : Option Nat := if n ≤ q / 512 then none else nx P q
def eo : Option Nat → Int32
  | none => zI (-1)
  | some q => nI q
def WG (P : Nat → S9) (n B : Nat) : Prop := n ≤ 12 ∧ ∀ i, i < n → (P i).1 < 3 ∧ (P i).2.1 < 3 ∧ (P i).2.2.1 < 4 ∧ (P i).2.2.2.1 < 11 ∧ ((P i).1 = 0 → -7 ≤ (P i).2.2.2.2 ∧ (P i).2.2.2.2 ≤ 7) ∧ ((P i).1 = 1 → (P i).2.2.2.2 = 0) ∧ ((P i).1 = 2 → 0 ≤ (P i).2.2.2.2 ∧ (P i).2.2.2.2 ≤ B)
abbrev WF (P : Nat → S9) (n : Nat) : Prop := WG P n n
def PgR (P : Nat → S9) (n : Nat) (f : Nat → Nat → Int32) : Prop := ∀ i, i < n → f 0 i = nI (P i).1 ∧ f 1 i = nI (P i).2.1 ∧ f 2 i = nI (P i).2.2.1 ∧ f 3 i = nI (P i).2.2.2.1 ∧ f 4 i = zI (ad9 (P i)) ∧ f 5 i = zI (tg9 (P i))
/-- the cells of a Program: at a 0 the object, at a 1 .. a 6 its rows -/
abbrev cPg (v : VV) (a : Nat → Nat) (n : Nat) (f : Nat → Nat → Int32) : va_W := [(a 0, .inr (3, [.int (nI n), .ref (a 1), .ref (a 2), .ref (a 3), .ref (a 4), .ref (a 5), .ref (a 6)])), (a 1, .inl (v.2.1 0, 12, .inl (f 0))), (a 2, .inl (v.2.1 0, 12, .inl (f 1))), (a 3, .inl (v.2.1 0, 12, .inl (f 2))), (a 4, .inl (v.2.1 0, 12, .inl (f 3))), (a 5, .inl (v.2.1 0, 12, .inl (f 4))), (a 6, .inl (v.2.1 0, 12, .inl (f 5)))]
theorem val_lt (t w : Nat) : val t w < 8 := by unfold val; omega
theorem opv_lt (t : Nat) {o : Nat} : opv t o < 8 := by unfold opv; split; assumption; exact val_lt _ _
theorem wv_lt {t w x : Nat} (ht : t < 512) (hx : x < 8) : wv t w x < 512 := by unfold wv; split; omega; split <;> omega
theorem wv_bits : ∀ t, t < 512 → ∀ w, w < 3 → ∀ x, x < 8 → (nI t &&& ((nI 7 <<< (nI (6 - 3 * w) &&& 31)) ^^^ zI (-1))) ||| (nI x <<< (nI (6 - 3 * w) &&& 31)) = nI (wv t w x) := by decide +kernel
theorem sum_and : ∀ o : Nat, o < 8 → ∀ m : Nat, m < 15 → zI ((o : Int) + ((m : Int) - 7)) &&& nI 7 = nI (((o : Int) + ((m : Int) - 7)) % 8).toNat := by decide +kernel
theorem sum_and' {o : Nat} {m : Int} (ho : o < 8) (h1 : -7 ≤ m) (h2 : m ≤ 7) : zI ((o : Int) + m) &&& nI 7 = nI (((o : Int) + m) % 8).toNat := by
  have h := sum_and o ho (m + 7).toNat (by omega)
  have e : (((m + 7).toNat : Nat) : Int) - 7 = m := by omega
  rwa [e] at h
theorem bI_one {b : Bool} (h : b = true) : nI 1 = bI b := by subst h; rfl
theorem bI_zero {b : Bool} (h : b = false) : nI 0 = bI b := by subst h; rfl
theorem zI_toNat {m : Int} (h : 0 ≤ m) : zI m = nI m.toNat := by rw [zI_nI, Int.toNat_of_nonneg h]
def x6 (x0 x1 x2 x3 x4 x5 : Int32) : Nat → Int32
  | 0 => x0
  | 1 => x1
  | 2 => x2
  | 3 => x3
  | 4 => x4
  | _ => x5
def pu (f : Nat → Nat → Int32) (n : Nat) (x : Nat → Int32) : Nat → Nat → Int32 := fun j => upd (f j) n (x j)
theorem pu_ne {f : Nat → Nat → Int32} {n i : Nat} {x : Nat → Int32} (j : Nat) (h : i ≠ n) : pu f n x j i = f j i := pk_un h
theorem pu_eq {f : Nat → Nat → Int32} {n : Nat} {x : Nat → Int32} (j : Nat) : pu f n x j n = x j := pk_us
theorem zI_max {a b : Int} (h1 : -2147483648 ≤ a) (h2 : a < 2147483648) (h3 : -2147483648 ≤ b) (h4 : b < 2147483648) : (if zI a < zI b then zI b else zI a) = zI (max a b) := by
  by_cases h : a < b
  · rw [if_pos ((zI_lt h1 h2 h3 h4).mpr h), Int.max_eq_right (by omega)]
  · rw [if_neg (fun z => h ((zI_lt h1 h2 h3 h4).mp z)), Int.max_eq_left (by omega)]
theorem tg9_rng {P : Nat → S9} {n B i : Nat} (hW : WG P n B) (hi : i < n) : -1 ≤ tg9 (P i) ∧ tg9 (P i) ≤ B := by
  unfold tg9
  split
  · have := (hW.2 i hi).2.2.2.2.2.2 (by assumption)
    omega
  · omega
/-- the last statement goes; a jump behind it ends -/
def dr9 (P : Nat → S9) (n : Nat) : Nat → S9 := fun i => if (P i).1 = 2 ∧ (n : Int) < (P i).2.2.2.2 then ((P i).1, (P i).2.1, (P i).2.2.1, (P i).2.2.2.1, (n : Int)) else P i
theorem dr9_tg {P : Nat → S9} {n : Nat} (i : Nat) : tg9 (dr9 P n i) = if (n : Int) < tg9 (P i) then (n : Int) else tg9 (P i) := by
  unfold dr9
  by_cases h : (P i).1 = 2
  · by_cases h2 : (n : Int) < (P i).2.2.2.2
    · rw [if_pos ⟨h, h2⟩]; unfold tg9; simp [h, h2]
    · rw [if_neg (fun z => h2 z.2)]; unfold tg9; simp [h, h2]
  · rw [if_neg (fun z => h z.1)]; unfold tg9; simp [h]
theorem dr9_eq {P : Nat → S9} {n : Nat} (i : Nat) : (dr9 P n i).1 = (P i).1 ∧ (dr9 P n i).2.1 = (P i).2.1 ∧ (dr9 P n i).2.2.1 = (P i).2.2.1 ∧ (dr9 P n i).2.2.2.1 = (P i).2.2.2.1 ∧ ad9 (dr9 P n i) = ad9 (P i) := by
  unfold dr9
  split
  · refine ⟨rfl, rfl, rfl, rfl, ?_⟩
    unfold ad9
    have : ¬ (P i).1 = 0 := by omega
    simp [this]
  · exact ⟨rfl, rfl, rfl, rfl, rfl⟩
theorem PgR_copy {P : Nat → S9} {n : Nat} {f g : Nat → Nat → Int32} (h : PgR P n f) (e : ∀ j, j < 6 → ∀ i, i < n → g j i = f j i) : PgR P n g := by
  intro i hi
  rw [e 0 (by omega) i hi, e 1 (by omega) i hi, e 2 (by omega) i hi, e 3 (by omega) i hi, e 4 (by omega) i hi, e 5 (by omega) i hi]
  exact h i hi

