/-! ## numbers: Int32 out of Nat (nI) and Int (zI), and the rows over them -/
theorem zI_nI (n : Nat) : nI n = zI (n : Int) := by
  unfold nI zI
  exact (Int32.ofInt_eq_ofNat).symm
theorem zI_add (a b : Int) : zI a + zI b = zI (a + b) := by unfold zI; exact (Int32.ofInt_add a b).symm
theorem zI_sub (a b : Int) : zI a - zI b = zI (a - b) := by unfold zI; exact (Int32.ofInt_sub a b).symm
theorem zI_mul (a b : Int) : zI a * zI b = zI (a * b) := by unfold zI; exact (Int32.ofInt_mul a b).symm
theorem zI_neg (a : Int) : -zI a = zI (-a) := by unfold zI; exact (Int32.ofInt_neg a).symm
theorem zI_toInt {a : Int} (h1 : -2147483648 ≤ a) (h2 : a < 2147483648) : (zI a).toInt = a := by
  unfold zI
  exact Int32.toInt_ofInt_of_le h1 h2
theorem zI_inj {a b : Int} (h1 : -2147483648 ≤ a) (h2 : a < 2147483648) (h3 : -2147483648 ≤ b) (h4 : b < 2147483648) : zI a = zI b ↔ a = b := by
  constructor
  · intro h
    have := congrArg Int32.toInt h
    rwa [zI_toInt h1 h2, zI_toInt h3 h4] at this
  · exact fun h => by rw [h]
theorem zI_lt {a b : Int} (h1 : -2147483648 ≤ a) (h2 : a < 2147483648) (h3 : -2147483648 ≤ b) (h4 : b < 2147483648) : zI a < zI b ↔ a < b := by
  rw [Int32.lt_iff_toInt_lt, zI_toInt h1 h2, zI_toInt h3 h4]
theorem zI_le {a b : Int} (h1 : -2147483648 ≤ a) (h2 : a < 2147483648) (h3 : -2147483648 ≤ b) (h4 : b < 2147483648) : zI a ≤ zI b ↔ a ≤ b := by
  rw [Int32.le_iff_toInt_le, zI_toInt h1 h2, zI_toInt h3 h4]
theorem zI_self (x : Int32) : zI x.toInt = x := by unfold zI; exact Int32.ofInt_toInt x
theorem i32_rng (x : Int32) : -2147483648 ≤ x.toInt ∧ x.toInt < 2147483648 := ⟨by have := x.le_toInt; simpa using this, by have := x.toInt_lt; simpa using this⟩
theorem bI_t : bI true = 1 := rfl
theorem bI_f : bI false = 0 := rfl
theorem bI_0 {b : Bool} : bI b = 0 ↔ b = false := by cases b <;> decide
theorem narZ_b (b : Bool) : narrow .boolean (.int (bI b)) = .int (bI b) := by cases b <;> rfl
theorem vpZ_b (b : Bool) : vp_nar .boolean (bI b) = bI b := by cases b <;> rfl
theorem sh_l : ∀ n, n < 32 → ((nI n &&& 31).toBitVec.smod 32).toNat = n := by decide +kernel
section NROWS
variable {k : KX} {l : Launch} {v : VV} {cc : ByteArray} {own : String} {R : Room} {nL ce sl pc : Nat} {cs : List va_W} {lv : List (Nat × Value)} {st : List Value} {a b : Nat}
theorem g_iaddN (X : CX k l v cc own R nL) (d : decode cc pc = .ok (.iadd, 1)) (h : GG k ce sl cs lv (pc + 1) (.int (nI (a + b)) :: st)) : GG k ce sl cs lv pc (.int (nI b) :: .int (nI a) :: st) := g_iadd X d (g_v (nI_add a b) h)
theorem g_imulN (X : CX k l v cc own R nL) (d : decode cc pc = .ok (.imul, 1)) (h : GG k ce sl cs lv (pc + 1) (.int (nI (a * b)) :: st)) : GG k ce sl cs lv pc (.int (nI b) :: .int (nI a) :: st) := g_imul X d (g_v (pk_mul a b) h)
theorem g_isubN (X : CX k l v cc own R nL) (d : decode cc pc = .ok (.isub, 1)) (hb : b ≤ a) (h : GG k ce sl cs lv (pc + 1) (.int (nI (a - b)) :: st)) : GG k ce sl cs lv pc (.int (nI b) :: .int (nI a) :: st) := g_isub X d (g_v (pk_sub hb) h)
theorem g_idivN (X : CX k l v cc own R nL) (d : decode cc pc = .ok (.idiv, 1)) (ha : a < 2147483648) (h0 : 0 < b) (hb : b < 2147483648) (h : GG k ce sl cs lv (pc + 1) (.int (nI (a / b)) :: st)) : GG k ce sl cs lv pc (.int (nI b) :: .int (nI a) :: st) := g_idiv X d (nI_ne0 h0 hb) (g_v (pk_div ha h0 hb) h)
theorem g_iremN (X : CX k l v cc own R nL) (d : decode cc pc = .ok (.irem, 1)) (ha : a < 2147483648) (h0 : 0 < b) (hb : b < 2147483648) (h : GG k ce sl cs lv (pc + 1) (.int (nI (a % b)) :: st)) : GG k ce sl cs lv pc (.int (nI b) :: .int (nI a) :: st) := g_irem X d (nI_ne0 h0 hb) (g_v (pk_rem ha h0 hb) h)
theorem g_iaddZ {x y : Int} (X : CX k l v cc own R nL) (d : decode cc pc = .ok (.iadd, 1)) (h : GG k ce sl cs lv (pc + 1) (.int (zI (x + y)) :: st)) : GG k ce sl cs lv pc (.int (zI y) :: .int (zI x) :: st) := g_iadd X d (g_v (zI_add x y) h)
theorem g_isubZ {x y : Int} (X : CX k l v cc own R nL) (d : decode cc pc = .ok (.isub, 1)) (h : GG k ce sl cs lv (pc + 1) (.int (zI (x - y)) :: st)) : GG k ce sl cs lv pc (.int (zI y) :: .int (zI x) :: st) := g_isub X d (g_v (zI_sub x y) h)
theorem g_imulZ {x y : Int} (X : CX k l v cc own R nL) (d : decode cc pc = .ok (.imul, 1)) (h : GG k ce sl cs lv (pc + 1) (.int (zI (x * y)) :: st)) : GG k ce sl cs lv pc (.int (zI y) :: .int (zI x) :: st) := g_imul X d (g_v (zI_mul x y) h)
theorem g_icmp_ltN {off : Int} {tgt : Nat} (X : CX k l v cc own R nL) (d : decode cc pc = .ok (.if_icmp .lt off, 3)) (ht : (pc : Int) + off = (tgt : Int)) (ha : a < 2147483648) (hb : b < 2147483648) (kt : a < b → GG k ce sl cs lv tgt st) (kf : b ≤ a → GG k ce sl cs lv (pc + 3) st) : GG k ce sl cs lv pc (.int (nI b) :: .int (nI a) :: st) := g_icmp_lt X d ht (fun z => kt ((nI_ltI ha hb).mp z)) (fun z => kf (Nat.not_lt.mp fun q => z ((nI_ltI ha hb).mpr q)))
theorem g_icmp_geN {off : Int} {tgt : Nat} (X : CX k l v cc own R nL) (d : decode cc pc = .ok (.if_icmp .ge off, 3)) (ht : (pc : Int) + off = (tgt : Int)) (ha : a < 2147483648) (hb : b < 2147483648) (kt : b ≤ a → GG k ce sl cs lv tgt st) (kf : a < b → GG k ce sl cs lv (pc + 3) st) : GG k ce sl cs lv pc (.int (nI b) :: .int (nI a) :: st) := g_icmp_ge X d ht (fun z => kt ((nI_leI hb ha).mp z)) (fun z => kf (Nat.not_le.mp fun q => z ((nI_leI hb ha).mpr q)))
theorem g_icmp_gtN {off : Int} {tgt : Nat} (X : CX k l v cc own R nL) (d : decode cc pc = .ok (.if_icmp .gt off, 3)) (ht : (pc : Int) + off = (tgt : Int)) (ha : a < 2147483648) (hb : b < 2147483648) (kt : b < a → GG k ce sl cs lv tgt st) (kf : a ≤ b → GG k ce sl cs lv (pc + 3) st) : GG k ce sl cs lv pc (.int (nI b) :: .int (nI a) :: st) := g_icmp_gt X d ht (fun z => kt ((nI_ltI hb ha).mp z)) (fun z => kf (Nat.not_lt.mp fun q => z ((nI_ltI hb ha).mpr q)))
theorem g_icmp_leN {off : Int} {tgt : Nat} (X : CX k l v cc own R nL) (d : decode cc pc = .ok (.if_icmp .le off, 3)) (ht : (pc : Int) + off = (tgt : Int)) (ha : a < 2147483648) (hb : b < 2147483648) (kt : a ≤ b → GG k ce sl cs lv tgt st) (kf : b < a → GG k ce sl cs lv (pc + 3) st) : GG k ce sl cs lv pc (.int (nI b) :: .int (nI a) :: st) := g_icmp_le X d ht (fun z => kt ((nI_leI ha hb).mp z)) (fun z => kf (Nat.not_le.mp fun q => z ((nI_leI ha hb).mpr q)))
theorem g_icmp_eqN {off : Int} {tgt : Nat} (X : CX k l v cc own R nL) (d : decode cc pc = .ok (.if_icmp .eq off, 3)) (ht : (pc : Int) + off = (tgt : Int)) (ha : a < 2147483648) (hb : b < 2147483648) (kt : a = b → GG k ce sl cs lv tgt st) (kf : ¬ a = b → GG k ce sl cs lv (pc + 3) st) : GG k ce sl cs lv pc (.int (nI b) :: .int (nI a) :: st) := g_icmp_eq X d ht (fun z => kt ((nI_eq ha hb).mp z)) (fun z => kf (fun q => z ((nI_eq ha hb).mpr q)))
theorem g_icmp_neN {off : Int} {tgt : Nat} (X : CX k l v cc own R nL) (d : decode cc pc = .ok (.if_icmp .ne off, 3)) (ht : (pc : Int) + off = (tgt : Int)) (ha : a < 2147483648) (hb : b < 2147483648) (kt : ¬ a = b → GG k ce sl cs lv tgt st) (kf : a = b → GG k ce sl cs lv (pc + 3) st) : GG k ce sl cs lv pc (.int (nI b) :: .int (nI a) :: st) := g_icmp_ne X d ht (fun z => kt (fun q => z ((nI_eq ha hb).mpr q))) (fun z => kf ((nI_eq ha hb).mp z))
theorem g_if_eqN {off : Int} {tgt : Nat} (X : CX k l v cc own R nL) (d : decode cc pc = .ok (.ifCond .eq off, 3)) (ht : (pc : Int) + off = (tgt : Int)) (ha : a < 2147483648) (kt : a = 0 → GG k ce sl cs lv tgt st) (kf : ¬ a = 0 → GG k ce sl cs lv (pc + 3) st) : GG k ce sl cs lv pc (.int (nI a) :: st) := g_if_eq X d ht (fun z => kt ((nI_eq ha (by decide : (0 : Nat) < 2147483648)).mp (z.trans nI_0.symm))) (fun z => kf (fun q => z (by rw [q]; exact nI_0)))
theorem g_if_neN {off : Int} {tgt : Nat} (X : CX k l v cc own R nL) (d : decode cc pc = .ok (.ifCond .ne off, 3)) (ht : (pc : Int) + off = (tgt : Int)) (ha : a < 2147483648) (kt : ¬ a = 0 → GG k ce sl cs lv tgt st) (kf : a = 0 → GG k ce sl cs lv (pc + 3) st) : GG k ce sl cs lv pc (.int (nI a) :: st) := g_if_ne X d ht (fun z => kt (fun q => z (by rw [q]; exact nI_0))) (fun z => kf ((nI_eq ha (by decide : (0 : Nat) < 2147483648)).mp (z.trans nI_0.symm)))
theorem g_if_gtN {off : Int} {tgt : Nat} (X : CX k l v cc own R nL) (d : decode cc pc = .ok (.ifCond .gt off, 3)) (ht : (pc : Int) + off = (tgt : Int)) (ha : a < 2147483648) (kt : 0 < a → GG k ce sl cs lv tgt st) (kf : a = 0 → GG k ce sl cs lv (pc + 3) st) : GG k ce sl cs lv pc (.int (nI a) :: st) := g_if_gt X d ht (fun z => kt (Nat.pos_of_ne_zero fun q => by subst q; exact absurd z (by decide))) (fun z => kf (Nat.eq_zero_of_not_pos fun q => z (by have := (nI_ltI (by decide : (0 : Nat) < 2147483648) ha).mpr q; rwa [nI_0] at this)))
theorem g_if_leN {off : Int} {tgt : Nat} (X : CX k l v cc own R nL) (d : decode cc pc = .ok (.ifCond .le off, 3)) (ht : (pc : Int) + off = (tgt : Int)) (ha : a < 2147483648) (kt : a = 0 → GG k ce sl cs lv tgt st) (kf : 0 < a → GG k ce sl cs lv (pc + 3) st) : GG k ce sl cs lv pc (.int (nI a) :: st) := g_if_le X d ht (fun z => kt (Nat.eq_zero_of_not_pos fun q => absurd z (nI_nle q ha))) (fun z => kf (Nat.pos_of_ne_zero fun q => by subst q; exact absurd (show nI 0 ≤ 0 by decide) z))
theorem g_if_ltN {off : Int} {tgt : Nat} (X : CX k l v cc own R nL) (d : decode cc pc = .ok (.ifCond .lt off, 3)) (ht : (pc : Int) + off = (tgt : Int)) (ha : a < 2147483648) (h : GG k ce sl cs lv (pc + 3) st) : GG k ce sl cs lv pc (.int (nI a) :: st) := g_if_lt X d ht (fun z => absurd z (nI_pos ha)) (fun _ => h)
theorem g_if_geN {off : Int} {tgt : Nat} (X : CX k l v cc own R nL) (d : decode cc pc = .ok (.ifCond .ge off, 3)) (ht : (pc : Int) + off = (tgt : Int)) (ha : a < 2147483648) (h : GG k ce sl cs lv tgt st) : GG k ce sl cs lv pc (.int (nI a) :: st) := g_if_ge X d ht (fun _ => h) (fun z => absurd (nI_pos' ha) z)
theorem g_if_eqB {q : Bool} {off : Int} {tgt : Nat} (X : CX k l v cc own R nL) (d : decode cc pc = .ok (.ifCond .eq off, 3)) (ht : (pc : Int) + off = (tgt : Int)) (kt : q = false → GG k ce sl cs lv tgt st) (kf : q = true → GG k ce sl cs lv (pc + 3) st) : GG k ce sl cs lv pc (.int (bI q) :: st) := g_if_eq X d ht (fun z => kt (bI_0.mp z)) (fun z => kf (by cases q; exact absurd rfl z; rfl))
theorem g_if_neB {q : Bool} {off : Int} {tgt : Nat} (X : CX k l v cc own R nL) (d : decode cc pc = .ok (.ifCond .ne off, 3)) (ht : (pc : Int) + off = (tgt : Int)) (kt : q = true → GG k ce sl cs lv tgt st) (kf : q = false → GG k ce sl cs lv (pc + 3) st) : GG k ce sl cs lv pc (.int (bI q) :: st) := g_if_ne X d ht (fun z => kt (by cases q; exact absurd rfl z; rfl)) (fun z => kf (bI_0.mp z))
theorem g_ishlN (X : CX k l v cc own R nL) (d : decode cc pc = .ok (.ishl, 1)) (hb : b < 32) (h1 : a * 2 ^ b < 2 ^ 32) (h : GG k ce sl cs lv (pc + 1) (.int (nI (a * 2 ^ b)) :: st)) : GG k ce sl cs lv pc (.int (nI b) :: .int (nI a) :: st) := g_ishl X d (g_v (pk_shlN _ b (sh_l b hb) h1) h)
theorem g_ishrN (X : CX k l v cc own R nL) (d : decode cc pc = .ok (.ishr, 1)) (hb : b < 32) (ha : a < 2147483648) (h : GG k ce sl cs lv (pc + 1) (.int (nI (a / 2 ^ b)) :: st)) : GG k ce sl cs lv pc (.int (nI b) :: .int (nI a) :: st) := g_ishr X d (g_v (pk_shrN ha _ b (sh_l b hb)) h)
theorem g_iandN (X : CX k l v cc own R nL) (d : decode cc pc = .ok (.iand, 1)) (j : Nat) (hm : (nI b).toBitVec.toNat = 2 ^ j - 1) (ha : a < 2 ^ 32) (h : GG k ce sl cs lv (pc + 1) (.int (nI (a % 2 ^ j)) :: st)) : GG k ce sl cs lv pc (.int (nI b) :: .int (nI a) :: st) := g_iand X d (g_v (pk_andN ha j hm) h)
end NROWS

