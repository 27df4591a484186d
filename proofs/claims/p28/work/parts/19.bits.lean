/-! ## a row of bits -/
def bitJ (x : Int64) (i : Nat) : Bool := x.toBitVec.getLsbD i
def btJ (g : Nat → Int64) (q : Nat) : Bool := bitJ (g (q / 2 ^ 6)) (q % 2 ^ 6)
def BitR (V : Nat → Prop) (g : Nat → Int64) : Prop := ∀ q, q < 6656 → (btJ g q = true ↔ V q)
theorem jc64 : ∀ k, k < 64 → ((nI k).toInt64 &&& 63).toBitVec.smod 64 = BitVec.ofNat 64 k := by decide +kernel
theorem bitJ_read {x : Int64} {j : Nat} (hj : j < 64) : ((x >>> ((nI j).toInt64 &&& 63)) &&& (1 : Int64)) = 0 ↔ bitJ x j = false := by
  have e : (x >>> ((nI j).toInt64 &&& 63)).toBitVec = x.toBitVec.sshiftRight j := by
    show x.toBitVec.sshiftRight (((nI j).toInt64 &&& 63).toBitVec.smod 64).toNat = _
    rw [jc64 j hj, BitVec.toNat_ofNat, Nat.mod_eq_of_lt (by omega)]
  rw [← Int64.toBitVec_inj, Int64.toBitVec_and, e]
  show x.toBitVec.sshiftRight j &&& 1#64 = 0#64 ↔ _
  unfold bitJ
  constructor
  · intro h
    have t := congrArg (fun y => y.getLsbD 0) h
    simp only [BitVec.getLsbD_and, BitVec.getLsbD_sshiftRight] at t
    simpa [hj] using t
  · intro h
    apply BitVec.eq_of_getLsbD_eq
    intro i hi
    simp only [BitVec.getLsbD_and, BitVec.getLsbD_sshiftRight]
    cases i with
    | zero => simpa [hj] using h
    | succ i => simp
theorem bitJ_set {x : Int64} {i j : Nat} (hi : i < 64) (hj : j < 64) : bitJ (x ||| ((1 : Int64) <<< ((nI j).toInt64 &&& 63))) i = (bitJ x i || decide (i = j)) := by
  have e : ((1 : Int64) <<< ((nI j).toInt64 &&& 63)).toBitVec = BitVec.twoPow 64 j := by
    rw [Int64.toBitVec_shiftLeft, jc64 j hj, BitVec.shiftLeft_eq', BitVec.toNat_ofNat, Nat.mod_eq_of_lt (by omega)]
    rfl
  unfold bitJ
  rw [Int64.toBitVec_or, e, BitVec.getLsbD_or, BitVec.getLsbD_twoPow]
  by_cases c : i = j
  · subst c; simp [hj]
  · simp [c, Ne.symm c]
theorem btJ_set {g : Nat → Int64} {q z : Nat} : btJ (vp_updL g (q / 2 ^ 6) (g (q / 2 ^ 6) ||| ((1 : Int64) <<< ((nI (q % 2 ^ 6)).toInt64 &&& 63)))) z = (btJ g z || decide (z = q)) := by
  unfold btJ
  by_cases c : z / 2 ^ 6 = q / 2 ^ 6
  · rw [c, pk_uLs, bitJ_set (by omega) (by omega)]
    congr 1
    apply decide_eq_decide.mpr
    omega
  · rw [pk_uLn c]
    have : ¬ z = q := fun e => c (by rw [e])
    simp [this]
theorem BitR_set {V : Nat → Prop} {g : Nat → Int64} {q : Nat} (h : BitR V g) : BitR (adV V q) (vp_updL g (q / 2 ^ 6) (g (q / 2 ^ 6) ||| ((1 : Int64) <<< ((nI (q % 2 ^ 6)).toInt64 &&& 63)))) := by
  intro z hz
  rw [btJ_set, Bool.or_eq_true, h z hz, decide_eq_true_eq]
  exact Iff.rfl

