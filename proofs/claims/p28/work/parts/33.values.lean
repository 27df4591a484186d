/-! ## what the methods answer, in mathematics -/
noncomputable def pick9 (p : Int → Prop) : Int := @dite Int (∃ e, p e) (Classical.propDecidable _) (fun h => Classical.choose h) (fun _ => 0)
theorem pick9_eq {p : Int → Prop} (hu : ∀ x y, p x → p y → x = y) {e : Int} (h : p e) : pick9 p = e := by
  have hx : ∃ e, p e := ⟨e, h⟩
  unfold pick9
  rw [dif_pos hx]
  exact hu _ _ (Classical.choose_spec hx) h
noncomputable def exV (lo hi : Nat → Nat) (P : Nat → S9) (n c : Nat) : Int := pick9 (IsEx (pX lo hi P n c) 512)
noncomputable def mnV (lo hi : Nat → Nat) (P : Nat → S9) (n i w : Nat) : Int := pick9 (IsMn (RV lo hi P n 512) i w)
noncomputable def mxV (lo hi : Nat → Nat) (P : Nat → S9) (n i w : Nat) : Int := pick9 (IsMx (RV lo hi P n 512) i w)
section VALUES
variable {lo hi : Nat → Nat} {P : Nat → S9} {n : Nat}
theorem exV_eq {c : Nat} {x : Int} (h : IsEx (pX lo hi P n c) 512 x) : exV lo hi P n c = x := pick9_eq (fun _ _ a b => a.uniq b) h
theorem mnV_eq {i w : Nat} {x : Int} (h : IsMn (RV lo hi P n 512) i w x) : mnV lo hi P n i w = x := pick9_eq (fun _ _ a b => a.uniq b) h
theorem mxV_eq {i w : Nat} {x : Int} (h : IsMx (RV lo hi P n 512) i w x) : mxV lo hi P n i w = x := pick9_eq (fun _ _ a b => a.uniq b) h
theorem ExR_V {ex : Nat → Int32} (h : ExR lo hi P n 512 ex) {c : Nat} (hc : c < 12) : ex c = zI (exV lo hi P n c) ∧ -1 ≤ exV lo hi P n c ∧ exV lo hi P n c < 512 := by
  obtain ⟨x, a, b⟩ := h c hc
  have := b.rng
  rw [exV_eq b]
  exact ⟨a, by omega, by omega⟩
theorem LoR_V {g : Nat → Int32} (h : LoR (RV lo hi P n 512) g) {i w : Nat} (hi9 : i < 13) (hw : w < 3) : g (i * 3 + w) = zI (mnV lo hi P n i w) := by
  obtain ⟨x, a, b⟩ := h i hi9 w hw
  rw [mnV_eq b]
  exact a
theorem HiR_V {g : Nat → Int32} (h : HiR (RV lo hi P n 512) g) {i w : Nat} (hi9 : i < 13) (hw : w < 3) : g (i * 3 + w) = zI (mxV lo hi P n i w) := by
  obtain ⟨x, a, b⟩ := h i hi9 w hw
  rw [mxV_eq b]
  exact a
end VALUES
noncomputable def vdV (lo hi : Nat → Nat) (P : Nat → S9) (n i : Nat) : Int := if (P i).1 = 1 then (if exV lo hi P n i = -1 then (if mnV lo hi P n i 0 = -1 then 0 else 1) else 2) else -1
noncomputable def pfV (lo hi : Nat → Nat) (P : Nat → S9) (n : Nat) : Int := if 0 < ctb (jF lo hi P n) 512 then 2 else if 0 < ctb (jE lo hi P n) 512 then 0 else 1
noncomputable def dmV (P : Nat → S9) (n i : Nat) : Nat := ctb (fun t => decide (1000 ≤ EE P n (i * 512 + t))) 512
/-- the widest free range of a mask of bits, as widestRange finds it -/
def wrS (mask h : Nat) (z : Int × Nat × Nat) : Int × Nat × Nat := if mask / 2 ^ h % 2 = 1 then (z.1, z.2.1, h + 1) else if z.2.1 < h + 1 - z.2.2 then ((10 * z.2.2 + h : Nat), h + 1 - z.2.2, z.2.2) else z
def wrF (mask : Nat) : Nat → Int × Nat × Nat
  | 0 => (-1, 0, 0)
  | h + 1 => wrS mask h (wrF mask h)
theorem wrF_low (mask : Nat) : ∀ h, (wrF mask h).2.2 ≤ h ∧ (wrF mask h).2.1 ≤ h ∧ -1 ≤ (wrF mask h).1 ∧ (wrF mask h).1 ≤ 11 * h
  | 0 => ⟨Nat.le_refl _, Nat.le_refl _, Int.le_refl (-1), (show (-1 : Int) ≤ 11 * ((0 : Nat) : Int) by decide)⟩
  | h + 1 => by
    have ih := wrF_low mask h
    show (wrS mask h (wrF mask h)).2.2 ≤ h + 1 ∧ (wrS mask h (wrF mask h)).2.1 ≤ h + 1 ∧ -1 ≤ (wrS mask h (wrF mask h)).1 ∧ (wrS mask h (wrF mask h)).1 ≤ 11 * (h + 1 : Nat)
    unfold wrS
    split
    · dsimp only; omega
    · split
      · dsimp only; omega
      · omega
/-- the mask of the values of w from which some run, allowed but for w, does not succeed; of the triples below T -/
def upN (lo hi : Nat → Nat) (P : Nat → S9) (n w T x : Nat) : Prop := ∃ t, t < T ∧ ab9 lo hi w t = true ∧ EE P n t < 1000 ∧ val t w = x
def MkR (lo hi : Nat → Nat) (P : Nat → S9) (n w T mask : Nat) : Prop := mask < 256 ∧ ∀ x, x < 8 → (mask / 2 ^ x % 2 = 1 ↔ upN lo hi P n w T x)
theorem or_bit : ∀ m : Nat, m < 256 → ∀ x : Nat, x < 8 → nI m ||| nI (1 * 2 ^ x) = nI (m ||| 2 ^ x) ∧ m ||| 2 ^ x < 256 ∧ ∀ y : Nat, y < 8 → ((m ||| 2 ^ x) / 2 ^ y % 2 = 1 ↔ (m / 2 ^ y % 2 = 1 ∨ y = x)) := by decide +kernel
theorem MkR_uniq {lo hi : Nat → Nat} {P : Nat → S9} {n w m m' : Nat} (h : MkR lo hi P n w 512 m) (h' : MkR lo hi P n w 512 m') : m = m' := by
  have e : ∀ x, x < 8 → m / 2 ^ x % 2 = m' / 2 ^ x % 2 := by
    intro x hx
    have a := (h.2 x hx).trans (h'.2 x hx).symm
    omega
  have h1 := h.1
  have h2 := h'.1
  have e0 := e 0 (by omega)
  have e1 := e 1 (by omega)
  have e2 := e 2 (by omega)
  have e3 := e 3 (by omega)
  have e4 := e 4 (by omega)
  have e5 := e 5 (by omega)
  have e6 := e 6 (by omega)
  have e7 := e 7 (by omega)
  omega
noncomputable def wdV (lo hi : Nat → Nat) (P : Nat → S9) (n w : Nat) : Int := @dite Int (∃ m, MkR lo hi P n w 512 m) (Classical.propDecidable _) (fun h => (wrF (Classical.choose h) 8).1) (fun _ => 0)
theorem wdV_eq {lo hi : Nat → Nat} {P : Nat → S9} {n w m : Nat} (h : MkR lo hi P n w 512 m) : wdV lo hi P n w = (wrF m 8).1 := by
  have hx : ∃ m, MkR lo hi P n w 512 m := ⟨m, h⟩
  unfold wdV
  rw [dif_pos hx, MkR_uniq (Classical.choose_spec hx) h]
theorem MkR_0 {lo hi : Nat → Nat} {P : Nat → S9} {n w : Nat} : MkR lo hi P n w 0 0 := ⟨by omega, fun x _ => ⟨fun h => by rw [Nat.zero_div] at h; omega, fun ⟨t, h, _⟩ => absurd h (Nat.not_lt_zero _)⟩⟩
theorem MkR_skip {lo hi : Nat → Nat} {P : Nat → S9} {n w T m : Nat} (h : MkR lo hi P n w T m) (hn : ¬ (ab9 lo hi w T = true ∧ EE P n T < 1000)) : MkR lo hi P n w (T + 1) m := ⟨h.1, fun x hx => (h.2 x hx).trans ⟨fun ⟨t, a, b⟩ => ⟨t, by omega, b⟩, fun ⟨t, a, b, c, d⟩ => by
  by_cases z : t = T
  · subst z; exact absurd ⟨b, c⟩ hn
  · exact ⟨t, by omega, b, c, d⟩⟩⟩
theorem MkR_set {lo hi : Nat → Nat} {P : Nat → S9} {n w T m : Nat} (h : MkR lo hi P n w T m) (h1 : ab9 lo hi w T = true) (h2 : EE P n T < 1000) : MkR lo hi P n w (T + 1) (m ||| 2 ^ val T w) := ⟨(or_bit m h.1 _ (val_lt _ _)).2.1, fun x hx => by
  rw [(or_bit m h.1 _ (val_lt T w)).2.2 x hx, h.2 x hx]
  constructor
  · rintro (⟨t, a, b⟩ | e)
    · exact ⟨t, by omega, b⟩
    · exact ⟨T, by omega, h1, h2, e.symm⟩
  · rintro ⟨t, a, b, c, d⟩
    by_cases z : t = T
    · subst z; exact Or.inr d.symm
    · exact Or.inl ⟨t, by omega, b, c, d⟩⟩
abbrev cCJ (v : VV) (cj pa ba da ja ha ta : Nat) : va_W := [(cj, .inr (6, [.ref pa, .ref ba, .ref da, .ref ja, .ref ha, .ref ta]))]
/-- an int that is no index below n -/
def bdI (x : Int32) (n : Nat) : Prop := x < 0 ∨ nI n ≤ x
theorem rng9 (x : Int32) {n : Nat} (hn : n < 2147483648) : (∃ i : Nat, i < n ∧ x = nI i) ∨ bdI x n := by
  by_cases h : x < 0
  · exact Or.inr (Or.inl h)
  · by_cases h2 : nI n ≤ x
    · exact Or.inr (Or.inr h2)
    · refine Or.inl ⟨x.toInt.toNat, ?_, ?_⟩
      · have a := Int32.not_lt.mp h
        have b := Int32.not_le.mp h2
        rw [Int32.le_iff_toInt_le] at a
        rw [Int32.lt_iff_toInt_lt, nI_toInt hn] at b
        have : (0 : Int32).toInt = 0 := rfl
        omega
      · have a := Int32.not_lt.mp h
        rw [Int32.le_iff_toInt_le] at a
        have z : (0 : Int32).toInt = 0 := rfl
        have : ((x.toInt.toNat : Nat) : Int) = x.toInt := by omega
        apply Int32.toInt.inj
        rw [nI_toInt (by have b := Int32.not_le.mp h2; rw [Int32.lt_iff_toInt_lt, nI_toInt hn] at b; omega), this]

