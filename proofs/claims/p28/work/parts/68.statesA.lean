theorem dr9_a {P : Nat → S9} {n i : Nat} (h : ¬ ((P i).1 = 2 ∧ (n : Int) < (P i).2.2.2.2)) : dr9 P n i = P i := if_neg h
theorem dr9_b {P : Nat → S9} {n i : Nat} (h : (P i).1 = 2 ∧ (n : Int) < (P i).2.2.2.2) : (dr9 P n i).2.2.2.2 = (n : Int) := by unfold dr9; rw [if_pos h]
/-! ## states: the class and the model, their methods over them -/
def IC9 (v : VV) (cj : Nat) (P : Nat → S9) (n : Nat) (lo hi : Nat → Nat) (H : Nat → HE9) (c : Nat) (tx : Nat → Nat) (ln : Nat) (w : va_W) : Prop := ∃ (a b d j h t al : Nat → Nat) (pw bw : Nat → Nat → Nat) (f g : Nat → Nat → Int32) (stl : Bool) (e : Nat → Int32) (jx jy jz : Nat) (jst : Bool) (ex lw hg : Nat → Int32) (vs : Nat → Int64) (o : Nat) (ns : Nat → Nat) (fs gs : Nat → Nat → Nat → Int32) (p : Nat) (x1 x2 x3 x4 x5 : Int32) (fc : Nat → Int32) (nl : Nat) (fl : Nat → Nat → Int32), PgR P n f ∧ AsR lo hi g ∧ (stl = false → OKE P n e) ∧ (jst = false → JOK lo hi P n jx jy jz ex lw hg) ∧ HrR H o c ns fs gs ∧ TxR tx ln fc ∧ p ≤ 80 ∧ w = ([cCJ v cj (a 0) (b 0) (d 0) (j 0) (h 0) (t 0), cPg v a n f, cAs v b g, cRu v d (a 0) stl, cEn v d e, cJu v j (a 0) (b 0) (d 0) jx jy jz jst, cEx v j ex, cLo v j lw, cHi v j hg, cVi v j vs, cHi9 v h pw bw o c, cPg v (pw 0) (ns 0) (fs 0), cPg v (pw 1) (ns 1) (fs 1), cPg v (pw 2) (ns 2) (fs 2), cPg v (pw 3) (ns 3) (fs 3), cPg v (pw 4) (ns 4) (fs 4), cPg v (pw 5) (ns 5) (fs 5), cAs v (bw 0) (gs 0), cAs v (bw 1) (gs 1), cAs v (bw 2) (gs 2), cAs v (bw 3) (gs 3), cAs v (bw 4) (gs 4), cAs v (bw 5) (gs 5), [((t 0), .inr (5, [.ref (t 1), .int (nI ln), .ref (al 0), .int (nI p), .int x1, .int x2, .int x3, .int x4, .int x5]))], cCh v t fc, cPg v al nl fl] : List va_W).flatten
theorem IC9_hd {v : VV} {cj : Nat} {P : Nat → S9} {n : Nat} {lo hi : Nat → Nat} {H : Nat → HE9} {c : Nat} {tx : Nat → Nat} {ln : Nat} {w : va_W} (hI : IC9 v cj P n lo hi H c tx ln w) : ∃ fs9, ([w] : List va_W).flatten[0]? = some (cj, .inr (6, fs9)) := by
  obtain ⟨a, b, d, j, h, t, al, pw, bw, f, g, stl, e, jx, jy, jz, jst, ex, lw, hg, vs, o, ns, fs, gs, p, x1, x2, x3, x4, x5, fc, nl, fl, _, _, _, _, _, _, _, rfl⟩ := hI
  exact ⟨_, rfl⟩
theorem pAll_WG {tx : Nat → Nat} {ln : Nat} : ∀ (f p : Nat) (L : List S9), L.length + f ≤ 12 → WG (lg9 L) L.length 12 → WG (lg9 (pAll tx ln f p L).2.2) (pAll tx ln f p L).2.2.length 12
  | 0, _, _, _, h => h
  | f + 1, p, L, hl, h => by
    unfold pAll
    split
    · exact h
    · rename_i s e
      have h3 : WG (lg9 (L ++ [s])) (L ++ [s]).length 12 := by rw [List.length_append]; exact WG_put h (by omega) e
      by_cases c : (pStmt tx ln p).2 = ln
      · rw [if_pos c]; exact h3
      · rw [if_neg c]
        by_cases c2 : f = 0
        · rw [if_pos c2]; exact h3
        · rw [if_neg c2]
          by_cases c3 : nxc tx ln (pStmt tx ln p).2 = 59
          · rw [if_pos c3]; exact pAll_WG f _ _ (by rw [List.length_append]; show L.length + 1 + f ≤ 12; omega) h3
          · rw [if_neg c3]; exact h3
theorem pAll_le {tx : Nat → Nat} {ln : Nat} : ∀ (f p : Nat) (L : List S9), p ≤ ln → (pAll tx ln f p L).2.1 ≤ ln
  | 0, _, _, h => h
  | f + 1, p, L, h => by
    have h9 := pStmt_le (tx := tx) h
    unfold pAll
    split
    · exact h9
    · rename_i s e
      by_cases c : (pStmt tx ln p).2 = ln
      · rw [if_pos c]; exact h9
      · rw [if_neg c]
        by_cases c2 : f = 0
        · rw [if_pos c2]; exact h9
        · rw [if_neg c2]
          by_cases c3 : nxc tx ln (pStmt tx ln p).2 = 59
          · rw [if_pos c3]; exact pAll_le f _ _ (by omega)
          · rw [if_neg c3]; exact h9
theorem pA80 {tx : Nat → Nat} {ln : Nat} {fc : Nat → Int32} (h : TxR tx ln fc) : (pAll tx ln 12 0 []).2.1 ≤ 80 := by
  have := pAll_le (tx := tx) (ln := ln) 12 0 [] (Nat.zero_le _)
  have := h.1
  omega
theorem WG_A (tx : Nat → Nat) (ln : Nat) : WG (lg9 (pAll tx ln 12 0 []).2.2) (pAll tx ln 12 0 []).2.2.length 12 := pAll_WG 12 0 [] (by decide) ⟨by decide, fun i h => absurd h (Nat.not_lt_zero _)⟩
theorem WF_ld {tx : Nat → Nat} {ln : Nat} (h : ldOK tx ln) : WF (lg9 (pAll tx ln 12 0 []).2.2) (pAll tx ln 12 0 []).2.2.length := WF_of (WG_A tx ln) h.2
theorem WF_ad {P : Nat → S9} {tx : Nat → Nat} {ln n : Nat} (hW : WF P n) (h : adOK tx ln n) : WF (ap9 P n (lg9 (pAll tx ln 12 0 []).2.2)) (n + (pAll tx ln 12 0 []).2.2.length) := WF_ap hW (WG_A tx ln) h.2.1 h.2.2
theorem WF_dr {P : Nat → S9} {n : Nat} (hW : WF P n) (hn : 0 < n) : WF (dr9 P (n - 1)) (n - 1) := by
  refine ⟨by have := hW.1; omega, fun i hi => ?_⟩
  obtain ⟨q0, q1, q2, q3, q4⟩ := dr9_eq (P := P) (n := n - 1) i
  have h := hW.2 i (by omega)
  rw [q0, q1, q2, q3]
  refine ⟨h.1, h.2.1, h.2.2.1, h.2.2.2.1, ?_⟩
  by_cases z : (P i).1 = 2 ∧ ((n - 1 : Nat) : Int) < (P i).2.2.2.2
  · rw [dr9_b z]
    exact ⟨fun y => by omega, fun y => by omega, fun _ => by omega⟩
  · rw [dr9_a z]
    exact ⟨h.2.2.2.2.1, h.2.2.2.2.2.1, fun y => ⟨(h.2.2.2.2.2.2 y).1, by have := h.2.2.2.2.2.2 y; omega⟩⟩
theorem TxR_0 {tx : Nat → Nat} {ln : Nat} {fc : Nat → Int32} (h : TxR tx ln fc) : TxR tx 0 fc := ⟨by omega, fun i h => absurd h (Nat.not_lt_zero _)⟩
theorem TxR_app {tx : Nat → Nat} {ln w : Nat} {fc : Nat → Int32} (h : TxR tx ln fc) (hl : ln < 60) (h1 : 33 ≤ w) (h2 : w < 127) : TxR (hU9 tx ln w) (ln + 1) (upd fc ln (nI w)) := ⟨by omega, fun i hi => by
  by_cases z : i = ln
  · subst z; rw [pk_us, hU9_eq]; exact ⟨rfl, h1, h2⟩
  · rw [pk_un z, hU9_ne z]; exact h.2 i (by omega)⟩
theorem HrR_W {H : Nat → HE9} {o c : Nat} {ns : Nat → Nat} {fs gs : Nat → Nat → Nat → Int32} (h : HrR H o c ns fs gs) (hc : 0 < c) : WF (H (c - 1)).1 (H (c - 1)).2.1 ∧ AsW (H (c - 1)).2.2.1 (H (c - 1)).2.2.2 := by
  have h9 := h.2.2 (c - 1) (by omega)
  exact ⟨h9.2.1, h9.2.2.2.1⟩
theorem IC9_W {v : VV} {cj : Nat} {P : Nat → S9} {n : Nat} {lo hi : Nat → Nat} {H : Nat → HE9} {c : Nat} {tx : Nat → Nat} {ln : Nat} {w : va_W} (hI : IC9 v cj P n lo hi H c tx ln w) (hc : 0 < c) : WF (H (c - 1)).1 (H (c - 1)).2.1 ∧ AsW (H (c - 1)).2.2.1 (H (c - 1)).2.2.2 := by
  obtain ⟨a, b, d, j, h, t, al, pw, bw, f, g, stl, e, jx, jy, jz, jst, ex, lw, hg, vs, o, ns, fs, gs, p, x1, x2, x3, x4, x5, fc, nl, fl, _, _, _, _, hH, _, _, rfl⟩ := hI
  exact HrR_W hH hc
theorem IC9_T {v : VV} {cj : Nat} {P : Nat → S9} {n : Nat} {lo hi : Nat → Nat} {H : Nat → HE9} {c : Nat} {tx : Nat → Nat} {ln : Nat} {w : va_W} (hI : IC9 v cj P n lo hi H c tx ln w) : ln ≤ 60 ∧ c ≤ 6 := by
  obtain ⟨a, b, d, j, h, t, al, pw, bw, f, g, stl, e, jx, jy, jz, jst, ex, lw, hg, vs, o, ns, fs, gs, p, x1, x2, x3, x4, x5, fc, nl, fl, _, _, _, _, hH, hT, _, rfl⟩ := hI
  exact ⟨hT.1, hH.2.1⟩


