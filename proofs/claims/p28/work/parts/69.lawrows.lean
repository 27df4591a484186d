/-! ## the law: its script, its loop's state -/
def SCk (k : KX) (b L : Nat) (xs : Nat → Int32) : Prop := match k with
  | ((_, _, _, _, s), _, (A, _, _, _)) => va_X b L xs s s.heap ∧ b < s.heap.size ∧ ¬ A b
theorem lg_self (x : Int64) : lg_cmp x x = nI 0 := by
  unfold lg_cmp
  rw [if_neg (show ¬ x > x from Int64.lt_irrefl), if_pos rfl]
  rfl
theorem rng128 (x : Int32) : (∃ w : Nat, 33 ≤ w ∧ w < 127 ∧ x = nI w) ∨ bdC x := by
  rcases rng9 x (n := 127) (by decide) with ⟨w, h1, h2⟩ | h
  · by_cases z : 33 ≤ w
    · exact Or.inl ⟨w, z, h1, h2⟩
    · refine Or.inr (Or.inl ?_)
      rw [h2]
      exact nI_lt (by omega) (by decide)
  · rcases h with h | h
    · exact Or.inr (Or.inl (Int32.lt_of_lt_of_le h (by decide)))
    · exact Or.inr (Or.inr (Int32.lt_of_lt_of_le (by decide) h))
section LAWROWS
variable {k : KX} {l : Launch} {v : VV} {cc : ByteArray} {own : String} {R : Room} {nL ce sl pc : Nat} {cs : List va_W} {lv : List (Nat × Value)} {st : List Value} {b L e : Nat} {xs : Nat → Int32}
theorem g_sld (X : CX k l v cc own R nL) (hs : SCk k b L xs) (d : decode cc pc = .ok (.iaload, 1)) (he : e < L) (hL : L ≤ 2560) (h : GG k ce sl cs lv (pc + 1) (.int (xs e) :: st)) : GG k ce sl cs lv pc (.int (nI e) :: .ref b :: st) := by
  obtain ⟨⟨p, l, e', R, s⟩, ⟨m, args, below, meth, c⟩, A, Q, v, nL⟩ := k
  obtain ⟨rfl, rfl, rfl, rfl, hx, hb, hml, hown, hts, hK, -⟩ := X
  obtain ⟨hX, hbl, hbA⟩ := hs
  exact fun H locs la hP hD hS hl => va_sld hx hb hX hbl hbA hS (vp_in_nI he (by omega)) d (by rw [nI_clamp (by omega)]; exact h H locs la hP hD hS hl)
theorem g_slen (X : CX k l v cc own R nL) (hs : SCk k b L xs) (d : decode cc pc = .ok (.arraylength, 1)) (h : GG k ce sl cs lv (pc + 1) (.int (nI L) :: st)) : GG k ce sl cs lv pc (.ref b :: st) := by
  obtain ⟨⟨p, l, e', R, s⟩, ⟨m, args, below, meth, c⟩, A, Q, v, nL⟩ := k
  obtain ⟨rfl, rfl, rfl, rfl, hx, hb, hml, hown, hts, hK, -⟩ := X
  obtain ⟨hX, hbl, hbA⟩ := hs
  exact fun H locs la hP hD hS hl => va_slen hx hb hX hbl hbA hS d (h H locs la hP hD hS hl)
end LAWROWS
