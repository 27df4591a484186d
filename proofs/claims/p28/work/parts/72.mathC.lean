/-! ## what the law asks of the share, by evaluation -/
def prods9 : List Nat := [1, 2, 3, 4, 5, 6, 7, 8, 9, 10, 12, 14, 15, 16, 18, 20, 21, 24, 25, 27, 28, 30, 32, 35, 36, 40, 42, 45, 48, 49, 50, 54, 56, 60, 63, 64, 70, 72, 75, 80, 84, 90, 96, 98, 100, 105, 108, 112, 120, 125, 126, 128, 140, 144, 147, 150, 160, 168, 175, 180, 192, 196, 200, 210, 216, 224, 240, 245, 252, 256, 280, 288, 294, 320, 336, 343, 384, 392, 448, 512]
def psB (a b : Nat) : Bool := let s := FP.ddiv (FP.i2d (nI a)) (FP.i2d (nI b))
  decide (Op.cmpValue (FP.dcmp s s) .l = 0 ∧ ¬ Op.cmpValue (FP.dcmp s FP.dconst0) .l < 0 ∧ Op.cmpValue (FP.dcmp s FP.dconst1) .g ≤ 0 ∧ (a = b → Op.cmpValue (FP.dcmp s FP.dconst1) .l = 0))
set_option maxRecDepth 100000 in
theorem prods_in : ∀ x, x < 8 → ∀ y, y < 8 → ∀ z, z < 8 → 1 * (x + 1) * (y + 1) * (z + 1) ∈ prods9 := by decide +kernel
set_option maxRecDepth 1000000 in
theorem psB_all : prods9.all (fun b => (List.range (b + 1)).all (fun a => psB a b)) = true := by decide +kernel
theorem cnt_in {lo hi : Nat → Nat} (hL : AsW lo hi) : cnt9 lo hi 3 ∈ prods9 := by
  have h0 := hL 0 (by omega)
  have h1 := hL 1 (by omega)
  have h2 := hL 2 (by omega)
  exact prods_in (hi 0 - lo 0) (by omega) (hi 1 - lo 1) (by omega) (hi 2 - lo 2) (by omega)
section SHARE
variable {lo hi : Nat → Nat} {P : Nat → S9} {n : Nat}
theorem ps_all (hL : AsW lo hi) : psB (ctb (jS lo hi P n) 512) (cnt9 lo hi 3) = true := by
  have h := List.all_eq_true.mp psB_all _ (cnt_in hL)
  have hle := jS_le (P := P) (n := n) hL
  exact List.all_eq_true.mp h _ (List.mem_range.mpr (by omega))
theorem ps_self (hL : AsW lo hi) : Op.cmpValue (FP.dcmp (psV lo hi P n) (psV lo hi P n)) .l = 0 := (of_decide_eq_true (ps_all (P := P) (n := n) hL)).1
theorem ps_ge (hL : AsW lo hi) : ¬ Op.cmpValue (FP.dcmp (psV lo hi P n) FP.dconst0) .l < 0 := (of_decide_eq_true (ps_all (P := P) (n := n) hL)).2.1
theorem ps_le (hL : AsW lo hi) : Op.cmpValue (FP.dcmp (psV lo hi P n) FP.dconst1) .g ≤ 0 := (of_decide_eq_true (ps_all (P := P) (n := n) hL)).2.2.1
theorem ps_one (hW : WF P n) (hL : AsW lo hi) (h : pfV lo hi P n = 1) : Op.cmpValue (FP.dcmp (psV lo hi P n) FP.dconst1) .l = 0 := (of_decide_eq_true (ps_all (P := P) (n := n) hL)).2.2.2 (jS_all hW hL h)
end SHARE
