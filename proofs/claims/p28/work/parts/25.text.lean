/-! ## the text, in mathematics -/
def vcl (c : Nat) : Option Nat := if c = 120 then some 0 else if c = 121 then some 1 else if c = 122 then some 2 else none
def scl (c : Nat) : Option Nat := if c = 61 then some 0 else if c = 60 then some 1 else if c = 62 then some 2 else if c = 35 then some 3 else none
def ocl (c : Nat) : Option Nat := match vcl c with
  | some a => some (8 + a)
  | none => if 48 ≤ c ∧ c ≤ 55 then some (c - 48) else none
def ixo : Option Nat → Int32
  | none => zI (-1)
  | some a => nI a
def nxc (tx : Nat → Nat) (len p : Nat) : Nat := if p < len then tx p else 0
section PARSE
variable (tx : Nat → Nat) (len : Nat)
def pTest (p : Nat) : Option (Nat × Nat × Nat) × Nat := match vcl (nxc tx len p) with
  | none => (none, p)
  | some a => match scl (nxc tx len (p + 1)) with
    | none => (none, p + 1)
    | some s => match ocl (nxc tx len (p + 1 + 1)) with
      | none => (none, p + 1 + 1)
      | some o => (some (a, s, o), p + 1 + 1 + 1)
def pGoal (p : Nat) : Option Nat × Nat := if 48 ≤ nxc tx len p ∧ nxc tx len p ≤ 57 then
    (if nxc tx len p = 49 ∧ 48 ≤ nxc tx len (p + 1) ∧ nxc tx len (p + 1) ≤ 50 then (some (10 + nxc tx len (p + 1) - 48), p + 1 + 1) else (some (nxc tx len p - 48), p + 1))
  else (none, p)
def pAdd (p : Nat) : Option Int × Nat := if nxc tx len p = 45 ∨ nxc tx len p = 43 then
    (if 48 ≤ nxc tx len (p + 1) ∧ nxc tx len (p + 1) ≤ 55 then (some (if nxc tx len p = 45 then 48 - (nxc tx len (p + 1) : Int) else (nxc tx len (p + 1) : Int) - 48), p + 1 + 1) else (none, p + 1))
  else (some 0, p)
def pStmt (p : Nat) : Option S9 × Nat := if nxc tx len p = 33 then
    match (pTest tx len (p + 1)).1 with
    | none => (none, (pTest tx len (p + 1)).2)
    | some x => (some (1, x.1, x.2.1, x.2.2, 0), (pTest tx len (p + 1)).2)
  else if nxc tx len p = 63 then
    match (pTest tx len (p + 1)).1 with
    | none => (none, (pTest tx len (p + 1)).2)
    | some x => if nxc tx len (pTest tx len (p + 1)).2 = 64 then match (pGoal tx len ((pTest tx len (p + 1)).2 + 1)).1 with
        | none => (none, (pGoal tx len ((pTest tx len (p + 1)).2 + 1)).2)
        | some g => (some (2, x.1, x.2.1, x.2.2, (g : Int)), (pGoal tx len ((pTest tx len (p + 1)).2 + 1)).2)
      else (none, (pTest tx len (p + 1)).2)
  else match vcl (nxc tx len p) with
    | none => (none, p)
    | some a => if nxc tx len (p + 1) = 58 then match ocl (nxc tx len (p + 1 + 1)) with
        | none => (none, p + 1 + 1)
        | some o => match (pAdd tx len (p + 1 + 1 + 1)).1 with
          | none => (none, (pAdd tx len (p + 1 + 1 + 1)).2)
          | some m => (some (0, a, 0, o, m), (pAdd tx len (p + 1 + 1 + 1)).2)
      else (none, p + 1)
/-- statements from p on, at most f; those before are L -/
def pAll : Nat → Nat → List S9 → Bool × Nat × List S9
  | 0, p, L => (false, p, L)
  | f + 1, p, L => match (pStmt tx len p).1 with
    | none => (false, (pStmt tx len p).2, L)
    | some s => if (pStmt tx len p).2 = len then (true, (pStmt tx len p).2, L ++ [s]) else if f = 0 then (false, (pStmt tx len p).2, L ++ [s]) else if nxc tx len (pStmt tx len p).2 = 59 then pAll f ((pStmt tx len p).2 + 1) (L ++ [s]) else (false, (pStmt tx len p).2, L ++ [s])
end PARSE
theorem zI0 : zI 0 = nI 0 := by decide +kernel
theorem ad9_0 {a b c : Nat} {m : Int} : ad9 (0, a, b, c, m) = m := rfl
theorem ad9_1 {a b c : Nat} {m : Int} : ad9 (1, a, b, c, m) = 0 := rfl
theorem ad9_2 {a b c : Nat} {m : Int} : ad9 (2, a, b, c, m) = 0 := rfl
theorem tg9_0 {a b c : Nat} {m : Int} : tg9 (0, a, b, c, m) = -1 := rfl
theorem tg9_1 {a b c : Nat} {m : Int} : tg9 (1, a, b, c, m) = -1 := rfl
theorem tg9_2 {a b c : Nat} {m : Int} : tg9 (2, a, b, c, m) = m := rfl
def lg9 (L : List S9) (i : Nat) : S9 := L.getD i (0, 0, 0, 0, 0)
def TxR (tx : Nat → Nat) (len : Nat) (fc : Nat → Int32) : Prop := len ≤ 60 ∧ ∀ i, i < len → fc i = nI (tx i) ∧ 33 ≤ tx i ∧ tx i < 127
section PARSE2
variable {tx : Nat → Nat} {len : Nat}
theorem vcl_lt {c a : Nat} (h : vcl c = some a) : a < 3 := by
  unfold vcl at h
  split at h
  · cases h; omega
  · split at h
    · cases h; omega
    · split at h <;> cases h; omega
theorem scl_lt {c a : Nat} (h : scl c = some a) : a < 4 := by
  unfold scl at h
  split at h
  · cases h; omega
  · split at h
    · cases h; omega
    · split at h
      · cases h; omega
      · split at h <;> cases h; omega
theorem ocl_lt {c a : Nat} (h : ocl c = some a) : a < 11 := by
  unfold ocl at h
  split at h
  · have := vcl_lt (by assumption); cases h; omega
  · split at h <;> cases h; omega
theorem vcl_0 : vcl 0 = none := rfl
theorem scl_0 : scl 0 = none := rfl
theorem ocl_0 : ocl 0 = none := rfl
theorem nxc_lt {fc : Nat → Int32} (h : TxR tx len fc) (p : Nat) : nxc tx len p < 127 := by
  unfold nxc
  split
  · exact (h.2 p (by assumption)).2.2
  · omega
theorem nxc_pos {p : Nat} (h : nxc tx len p ≠ 0) : p < len := by
  unfold nxc at h
  split at h
  · assumption
  · exact absurd rfl h
theorem lg9_new {L : List S9} {s : S9} : lg9 (L ++ [s]) L.length = s := by unfold lg9; simp [List.getD]
theorem lg9_old {L : List S9} {s : S9} {i : Nat} (h : i < L.length) : lg9 (L ++ [s]) i = lg9 L i := by unfold lg9; rw [List.getD_eq_getElem?_getD, List.getD_eq_getElem?_getD, List.getElem?_append_left h]
theorem PgR_put {L : List S9} {f : Nat → Nat → Int32} {s : S9} (h : PgR (lg9 L) L.length f) : PgR (lg9 (L ++ [s])) (L.length + 1) (pu f L.length (x6 (nI s.1) (nI s.2.1) (nI s.2.2.1) (nI s.2.2.2.1) (zI (ad9 s)) (zI (tg9 s)))) := by
  intro i hi
  by_cases c : i = L.length
  · subst c
    rw [lg9_new, pu_eq, pu_eq, pu_eq, pu_eq, pu_eq, pu_eq]
    exact ⟨rfl, rfl, rfl, rfl, rfl, rfl⟩
  · rw [lg9_old (by omega), pu_ne 0 c, pu_ne 1 c, pu_ne 2 c, pu_ne 3 c, pu_ne 4 c, pu_ne 5 c]
    exact h i (by omega)
theorem pTest_some {p : Nat} {x : Nat × Nat × Nat} (h : (pTest tx len p).1 = some x) : x.1 < 3 ∧ x.2.1 < 4 ∧ x.2.2 < 11 := by
  unfold pTest at h
  cases h1 : vcl (nxc tx len p) with
  | none => rw [h1] at h; cases h
  | some a' =>
    cases h2 : scl (nxc tx len (p + 1)) with
    | none => rw [h1, h2] at h; cases h
    | some s' =>
      cases h3 : ocl (nxc tx len (p + 2)) with
      | none => rw [h1, h2, h3] at h; cases h
      | some o' =>
        rw [h1, h2, h3] at h
        cases h
        exact ⟨vcl_lt h1, scl_lt h2, ocl_lt h3⟩
theorem pGoal_some {p g : Nat} (h : (pGoal tx len p).1 = some g) : g ≤ 12 := by
  unfold pGoal at h
  split at h
  · split at h <;> cases h <;> omega
  · cases h
theorem pAdd_some {p : Nat} {m : Int} (h : (pAdd tx len p).1 = some m) : -7 ≤ m ∧ m ≤ 7 := by
  unfold pAdd at h
  split at h
  · split at h
    · cases h
      split <;> omega
    · cases h
  · cases h
    omega
/-- what is read is a statement -/
theorem pStmt_ok {p : Nat} {s : S9} (h : (pStmt tx len p).1 = some s) : s.1 < 3 ∧ s.2.1 < 3 ∧ s.2.2.1 < 4 ∧ s.2.2.2.1 < 11 ∧ (s.1 = 0 → -7 ≤ s.2.2.2.2 ∧ s.2.2.2.2 ≤ 7) ∧ (s.1 = 1 → s.2.2.2.2 = 0) ∧ (s.1 = 2 → 0 ≤ s.2.2.2.2 ∧ s.2.2.2.2 ≤ 12) := by
  unfold pStmt at h
  split at h
  · split at h
    · cases h
    · rename_i x e
      have := pTest_some e
      cases h
      exact ⟨(show (1 : Nat) < 3 by omega), this.1, this.2.1, this.2.2, fun z => (nomatch z), fun _ => rfl, fun z => (nomatch z)⟩
  · split at h
    · split at h
      · cases h
      · rename_i x e
        have := pTest_some e
        split at h
        · split at h
          · cases h
          · rename_i g e2
            have h12 := pGoal_some e2
            cases h
            exact ⟨(show (2 : Nat) < 3 by omega), this.1, this.2.1, this.2.2, fun z => (nomatch z), fun z => (nomatch z), fun _ => (show 0 ≤ (g : Int) ∧ (g : Int) ≤ 12 by omega)⟩
        · cases h
    · split at h
      · cases h
      · rename_i a e
        split at h
        · split at h
          · cases h
          · rename_i o e2
            split at h
            · cases h
            · rename_i m e3
              have h7 := pAdd_some e3
              cases h
              exact ⟨(show (0 : Nat) < 3 by omega), vcl_lt e, (show (0 : Nat) < 4 by omega), ocl_lt e2, fun _ => h7, fun z => (nomatch z), fun z => (nomatch z)⟩
        · cases h
theorem vcl_pos {p a : Nat} (h : vcl (nxc tx len p) = some a) : p < len := nxc_pos (fun z => by rw [z] at h; cases h)
theorem scl_pos {p a : Nat} (h : scl (nxc tx len p) = some a) : p < len := nxc_pos (fun z => by rw [z] at h; cases h)
theorem ocl_pos {p a : Nat} (h : ocl (nxc tx len p) = some a) : p < len := nxc_pos (fun z => by rw [z] at h; cases h)
theorem pTest_le {p : Nat} (hp : p ≤ len) : (pTest tx len p).2 ≤ len := by
  unfold pTest
  split
  · exact hp
  · rename_i e1
    have := vcl_pos e1
    split
    · exact this
    · rename_i e2
      have := scl_pos e2
      split
      · exact this
      · rename_i e3
        exact ocl_pos e3
theorem pGoal_le {p : Nat} (hp : p ≤ len) : (pGoal tx len p).2 ≤ len := by
  unfold pGoal
  split
  · have := nxc_pos (tx := tx) (len := len) (p := p) (by omega)
    split
    · have := nxc_pos (tx := tx) (len := len) (p := p + 1) (by omega)
      exact this
    · exact this
  · exact hp
theorem pAdd_le {p : Nat} (hp : p ≤ len) : (pAdd tx len p).2 ≤ len := by
  unfold pAdd
  split
  · have := nxc_pos (tx := tx) (len := len) (p := p) (by omega)
    split
    · have := nxc_pos (tx := tx) (len := len) (p := p + 1) (by omega)
      exact this
    · exact this
  · exact hp
theorem pStmt_le {p : Nat} (hp : p ≤ len) : (pStmt tx len p).2 ≤ len := by
  unfold pStmt
  split
  · have h0 := nxc_pos (tx := tx) (len := len) (p := p) (by omega)
    split <;> exact pTest_le h0
  · split
    · have h0 := nxc_pos (tx := tx) (len := len) (p := p) (by omega)
      have h1 := pTest_le (tx := tx) h0
      split
      · exact h1
      · split
        · have h2 := nxc_pos (tx := tx) (len := len) (p := (pTest tx len (p + 1)).2) (by omega)
          split <;> exact pGoal_le h2
        · exact h1
    · split
      · exact hp
      · rename_i e
        have h0 := vcl_pos e
        split
        · have h1 := nxc_pos (tx := tx) (len := len) (p := p + 1) (by omega)
          split
          · exact h1
          · rename_i e2
            have h2 := ocl_pos e2
            split <;> exact pAdd_le h2
        · exact h0
theorem WG_put {L : List S9} {s : S9} (h : WG (lg9 L) L.length 12) (hl : L.length < 12) {p : Nat} (hs : (pStmt tx len p).1 = some s) : WG (lg9 (L ++ [s])) (L.length + 1) 12 := by
  refine ⟨by omega, fun i hi => ?_⟩
  by_cases c : i = L.length
  · subst c
    rw [lg9_new]
    exact pStmt_ok hs
  · rw [lg9_old (by omega)]
    exact h.2 i (by omega)
theorem pTest_b {p : Nat} : (pTest tx len p).2 ≤ p + 3 := by
  unfold pTest
  split
  · exact Nat.le_add_right _ _
  · split
    · show p + 1 ≤ p + 3; omega
    · split
      · show p + 1 + 1 ≤ p + 3; omega
      · show p + 1 + 1 + 1 ≤ p + 3; omega
theorem pGoal_b {p : Nat} : (pGoal tx len p).2 ≤ p + 2 := by
  unfold pGoal
  split
  · split
    · exact Nat.le_refl _
    · show p + 1 ≤ p + 2; omega
  · exact Nat.le_add_right _ _
theorem pAdd_b {p : Nat} : (pAdd tx len p).2 ≤ p + 2 := by
  unfold pAdd
  split
  · split
    · exact Nat.le_refl _
    · show p + 1 ≤ p + 2; omega
  · exact Nat.le_add_right _ _
theorem len1 {L : List S9} {s : S9} {c : Nat} (h : L.length = c) : (L ++ [s]).length = c + 1 := by rw [List.length_append, h]; rfl
theorem pAll_none {L : List S9} {c q : Nat} (hl : L.length = c) (hc : c < 12) (h : (pStmt tx len q).1 = none) : pAll tx len (12 - c) q L = (false, (pStmt tx len q).2, L) := by
  rw [show 12 - c = (11 - c) + 1 from by omega, pAll, h]
theorem pAll_true {L : List S9} {s : S9} {c q : Nat} (hc : c < 12) (h : (pStmt tx len q).1 = some s) (he : (pStmt tx len q).2 = len) : pAll tx len (12 - c) q L = (true, (pStmt tx len q).2, L ++ [s]) := by
  rw [show 12 - c = (11 - c) + 1 from by omega, pAll, h]
  simp only [if_pos he]
theorem pAll_12 {L : List S9} {s : S9} {c q : Nat} (hc : c = 11) (h : (pStmt tx len q).1 = some s) (he : ¬ (pStmt tx len q).2 = len) : pAll tx len (12 - c) q L = (false, (pStmt tx len q).2, L ++ [s]) := by
  rw [show 12 - c = 0 + 1 from by omega, pAll, h]
  simp only [if_neg he, if_pos]
theorem pAll_stop {L : List S9} {s : S9} {c q : Nat} (hc : c < 11) (h : (pStmt tx len q).1 = some s) (he : ¬ (pStmt tx len q).2 = len) (hn : ¬ nxc tx len (pStmt tx len q).2 = 59) : pAll tx len (12 - c) q L = (false, (pStmt tx len q).2, L ++ [s]) := by
  rw [show 12 - c = (11 - c) + 1 from by omega, pAll, h]
  simp only [if_neg he, if_neg (show ¬ 11 - c = 0 by omega), if_neg hn]
theorem pAll_go {L : List S9} {s : S9} {c q : Nat} (hc : c < 11) (h : (pStmt tx len q).1 = some s) (he : ¬ (pStmt tx len q).2 = len) (hn : nxc tx len (pStmt tx len q).2 = 59) : pAll tx len (12 - c) q L = pAll tx len (12 - (c + 1)) ((pStmt tx len q).2 + 1) (L ++ [s]) := by
  rw [show 12 - c = (11 - c) + 1 from by omega, pAll, h]
  simp only [if_neg he, if_neg (show ¬ 11 - c = 0 by omega), if_pos hn]
  rw [show 12 - (c + 1) = 11 - c from by omega]
end PARSE2
abbrev cTx (v : VV) (t : Nat → Nat) (la ln at_ : Nat) (x1 x2 x3 x4 x5 : Int32) : va_W := [(t 0, .inr (5, [.ref (t 1), .int (nI ln), .ref la, .int (nI at_), .int x1, .int x2, .int x3, .int x4, .int x5]))]
abbrev cCh (v : VV) (t : Nat → Nat) (fc : Nat → Int32) : va_W := [(t 1, .inl (v.2.1 3, 60, .inl fc))]

