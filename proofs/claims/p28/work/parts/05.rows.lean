section ROWS
variable {k : KX} {l : Launch} {v : VV} {cc : ByteArray} {own : String} {R : Room} {nL ce sl pc : Nat} {cs : List va_W} {lv : List (Nat × Value)} {st : List Value}
theorem g_iadd {x y : Int32} (X : CX k l v cc own R nL) (d : decode cc pc = .ok (.iadd, 1)) (h : GG k ce sl cs lv (pc + 1) (.int (x + y) :: st)) : GG k ce sl cs lv pc (.int y :: .int x :: st) := by
  obtain ⟨⟨p, l, e0, R, s⟩, ⟨m, args, below, meth, c⟩, A, Q, v, nL⟩ := k
  obtain ⟨rfl, rfl, rfl, rfl, hx, hb, -⟩ := X
  exact fun H locs la hP hD hS hl => lv_iadd hx hb d (h H locs la hP hD hS hl)
theorem g_isub {x y : Int32} (X : CX k l v cc own R nL) (d : decode cc pc = .ok (.isub, 1)) (h : GG k ce sl cs lv (pc + 1) (.int (x - y) :: st)) : GG k ce sl cs lv pc (.int y :: .int x :: st) := by
  obtain ⟨⟨p, l, e0, R, s⟩, ⟨m, args, below, meth, c⟩, A, Q, v, nL⟩ := k
  obtain ⟨rfl, rfl, rfl, rfl, hx, hb, -⟩ := X
  exact fun H locs la hP hD hS hl => lv_isub hx hb d (h H locs la hP hD hS hl)
theorem g_imul {x y : Int32} (X : CX k l v cc own R nL) (d : decode cc pc = .ok (.imul, 1)) (h : GG k ce sl cs lv (pc + 1) (.int (x * y) :: st)) : GG k ce sl cs lv pc (.int y :: .int x :: st) := by
  obtain ⟨⟨p, l, e0, R, s⟩, ⟨m, args, below, meth, c⟩, A, Q, v, nL⟩ := k
  obtain ⟨rfl, rfl, rfl, rfl, hx, hb, -⟩ := X
  exact fun H locs la hP hD hS hl => lv_imul hx hb d (h H locs la hP hD hS hl)
theorem g_iand {x y : Int32} (X : CX k l v cc own R nL) (d : decode cc pc = .ok (.iand, 1)) (h : GG k ce sl cs lv (pc + 1) (.int (x &&& y) :: st)) : GG k ce sl cs lv pc (.int y :: .int x :: st) := by
  obtain ⟨⟨p, l, e0, R, s⟩, ⟨m, args, below, meth, c⟩, A, Q, v, nL⟩ := k
  obtain ⟨rfl, rfl, rfl, rfl, hx, hb, -⟩ := X
  exact fun H locs la hP hD hS hl => lv_iand hx hb d (h H locs la hP hD hS hl)
theorem g_ior {x y : Int32} (X : CX k l v cc own R nL) (d : decode cc pc = .ok (.ior, 1)) (h : GG k ce sl cs lv (pc + 1) (.int (x ||| y) :: st)) : GG k ce sl cs lv pc (.int y :: .int x :: st) := by
  obtain ⟨⟨p, l, e0, R, s⟩, ⟨m, args, below, meth, c⟩, A, Q, v, nL⟩ := k
  obtain ⟨rfl, rfl, rfl, rfl, hx, hb, -⟩ := X
  exact fun H locs la hP hD hS hl => lv_ior hx hb d (h H locs la hP hD hS hl)
theorem g_ixor {x y : Int32} (X : CX k l v cc own R nL) (d : decode cc pc = .ok (.ixor, 1)) (h : GG k ce sl cs lv (pc + 1) (.int (x ^^^ y) :: st)) : GG k ce sl cs lv pc (.int y :: .int x :: st) := by
  obtain ⟨⟨p, l, e0, R, s⟩, ⟨m, args, below, meth, c⟩, A, Q, v, nL⟩ := k
  obtain ⟨rfl, rfl, rfl, rfl, hx, hb, -⟩ := X
  exact fun H locs la hP hD hS hl => lv_ixor hx hb d (h H locs la hP hD hS hl)
theorem g_ishl {x y : Int32} (X : CX k l v cc own R nL) (d : decode cc pc = .ok (.ishl, 1)) (h : GG k ce sl cs lv (pc + 1) (.int (x <<< (y &&& 31)) :: st)) : GG k ce sl cs lv pc (.int y :: .int x :: st) := by
  obtain ⟨⟨p, l, e0, R, s⟩, ⟨m, args, below, meth, c⟩, A, Q, v, nL⟩ := k
  obtain ⟨rfl, rfl, rfl, rfl, hx, hb, -⟩ := X
  exact fun H locs la hP hD hS hl => lv_ishl hx hb d (h H locs la hP hD hS hl)
theorem g_ishr {x y : Int32} (X : CX k l v cc own R nL) (d : decode cc pc = .ok (.ishr, 1)) (h : GG k ce sl cs lv (pc + 1) (.int (x >>> (y &&& 31)) :: st)) : GG k ce sl cs lv pc (.int y :: .int x :: st) := by
  obtain ⟨⟨p, l, e0, R, s⟩, ⟨m, args, below, meth, c⟩, A, Q, v, nL⟩ := k
  obtain ⟨rfl, rfl, rfl, rfl, hx, hb, -⟩ := X
  exact fun H locs la hP hD hS hl => lv_ishr hx hb d (h H locs la hP hD hS hl)
theorem g_idiv {x y : Int32} (X : CX k l v cc own R nL) (d : decode cc pc = .ok (.idiv, 1)) (hne : ¬ y = 0) (h : GG k ce sl cs lv (pc + 1) (.int (x / y) :: st)) : GG k ce sl cs lv pc (.int y :: .int x :: st) := by
  obtain ⟨⟨p, l, e0, R, s⟩, ⟨m, args, below, meth, c⟩, A, Q, v, nL⟩ := k
  obtain ⟨rfl, rfl, rfl, rfl, hx, hb, -⟩ := X
  exact fun H locs la hP hD hS hl => lv_idiv hx hb d hne (h H locs la hP hD hS hl)
theorem g_irem {x y : Int32} (X : CX k l v cc own R nL) (d : decode cc pc = .ok (.irem, 1)) (hne : ¬ y = 0) (h : GG k ce sl cs lv (pc + 1) (.int (x - x / y * y) :: st)) : GG k ce sl cs lv pc (.int y :: .int x :: st) := by
  obtain ⟨⟨p, l, e0, R, s⟩, ⟨m, args, below, meth, c⟩, A, Q, v, nL⟩ := k
  obtain ⟨rfl, rfl, rfl, rfl, hx, hb, -⟩ := X
  exact fun H locs la hP hD hS hl => lv_irem hx hb d hne (h H locs la hP hD hS hl)
theorem g_ladd {x y : Int64} (X : CX k l v cc own R nL) (d : decode cc pc = .ok (.ladd, 1)) (h : GG k ce sl cs lv (pc + 1) (.long (x + y) :: st)) : GG k ce sl cs lv pc (.long y :: .long x :: st) := by
  obtain ⟨⟨p, l, e0, R, s⟩, ⟨m, args, below, meth, c⟩, A, Q, v, nL⟩ := k
  obtain ⟨rfl, rfl, rfl, rfl, hx, hb, -⟩ := X
  exact fun H locs la hP hD hS hl => lv_ladd hx hb d (h H locs la hP hD hS hl)
theorem g_lmul {x y : Int64} (X : CX k l v cc own R nL) (d : decode cc pc = .ok (.lmul, 1)) (h : GG k ce sl cs lv (pc + 1) (.long (x * y) :: st)) : GG k ce sl cs lv pc (.long y :: .long x :: st) := by
  obtain ⟨⟨p, l, e0, R, s⟩, ⟨m, args, below, meth, c⟩, A, Q, v, nL⟩ := k
  obtain ⟨rfl, rfl, rfl, rfl, hx, hb, -⟩ := X
  exact fun H locs la hP hD hS hl => lv_lmul hx hb d (h H locs la hP hD hS hl)
theorem g_land {x y : Int64} (X : CX k l v cc own R nL) (d : decode cc pc = .ok (.land, 1)) (h : GG k ce sl cs lv (pc + 1) (.long (x &&& y) :: st)) : GG k ce sl cs lv pc (.long y :: .long x :: st) := by
  obtain ⟨⟨p, l, e0, R, s⟩, ⟨m, args, below, meth, c⟩, A, Q, v, nL⟩ := k
  obtain ⟨rfl, rfl, rfl, rfl, hx, hb, -⟩ := X
  exact fun H locs la hP hD hS hl => lv_land hx hb d (h H locs la hP hD hS hl)
theorem g_lor {x y : Int64} (X : CX k l v cc own R nL) (d : decode cc pc = .ok (.lor, 1)) (h : GG k ce sl cs lv (pc + 1) (.long (x ||| y) :: st)) : GG k ce sl cs lv pc (.long y :: .long x :: st) := by
  obtain ⟨⟨p, l, e0, R, s⟩, ⟨m, args, below, meth, c⟩, A, Q, v, nL⟩ := k
  obtain ⟨rfl, rfl, rfl, rfl, hx, hb, -⟩ := X
  exact fun H locs la hP hD hS hl => lv_lor hx hb d (h H locs la hP hD hS hl)
theorem g_lcmp {x y : Int64} (X : CX k l v cc own R nL) (d : decode cc pc = .ok (.lcmp, 1)) (h : GG k ce sl cs lv (pc + 1) (.int (lg_cmp x y) :: st)) : GG k ce sl cs lv pc (.long y :: .long x :: st) := by
  obtain ⟨⟨p, l, e0, R, s⟩, ⟨m, args, below, meth, c⟩, A, Q, v, nL⟩ := k
  obtain ⟨rfl, rfl, rfl, rfl, hx, hb, -⟩ := X
  exact fun H locs la hP hD hS hl => W.lcmp hx hb d (h H locs la hP hD hS hl)
theorem g_i2l {x : Int32} {y : Int64} (X : CX k l v cc own R nL) (d : decode cc pc = .ok (.i2l, 1)) (e : x.toInt64 = y) (h : GG k ce sl cs lv (pc + 1) (.long y :: st)) : GG k ce sl cs lv pc (.int x :: st) := by
  obtain ⟨⟨p, l, e0, R, s⟩, ⟨m, args, below, meth, c⟩, A, Q, v, nL⟩ := k
  obtain ⟨rfl, rfl, rfl, rfl, hx, hb, -⟩ := X
  exact fun H locs la hP hD hS hl => lv_i2l hx hb d e (h H locs la hP hD hS hl)
theorem g_i2c {x : Int32} {y : Int32} (X : CX k l v cc own R nL) (d : decode cc pc = .ok (.i2c, 1)) (e : (x.toUInt32 % 65536).toInt32 = y) (h : GG k ce sl cs lv (pc + 1) (.int y :: st)) : GG k ce sl cs lv pc (.int x :: st) := by
  obtain ⟨⟨p, l, e0, R, s⟩, ⟨m, args, below, meth, c⟩, A, Q, v, nL⟩ := k
  obtain ⟨rfl, rfl, rfl, rfl, hx, hb, -⟩ := X
  exact fun H locs la hP hD hS hl => lv_i2c hx hb d e (h H locs la hP hD hS hl)
theorem g_i2b {x : Int32} {y : Int32} (X : CX k l v cc own R nL) (d : decode cc pc = .ok (.i2b, 1)) (e : x.toInt8.toInt32 = y) (h : GG k ce sl cs lv (pc + 1) (.int y :: st)) : GG k ce sl cs lv pc (.int x :: st) := by
  obtain ⟨⟨p, l, e0, R, s⟩, ⟨m, args, below, meth, c⟩, A, Q, v, nL⟩ := k
  obtain ⟨rfl, rfl, rfl, rfl, hx, hb, -⟩ := X
  exact fun H locs la hP hD hS hl => lv_i2b hx hb d e (h H locs la hP hD hS hl)
theorem g_ineg {x : Int32} (X : CX k l v cc own R nL) (d : decode cc pc = .ok (.ineg, 1)) (h : GG k ce sl cs lv (pc + 1) (.int (-x) :: st)) : GG k ce sl cs lv pc (.int x :: st) := by
  obtain ⟨⟨p, l, e0, R, s⟩, ⟨m, args, below, meth, c⟩, A, Q, v, nL⟩ := k
  obtain ⟨rfl, rfl, rfl, rfl, hx, hb, -⟩ := X
  exact fun H locs la hP hD hS hl => lv_ineg hx hb d (h H locs la hP hD hS hl)
theorem g_lshl {x z : Int64} {y : Int32} (X : CX k l v cc own R nL) (d : decode cc pc = .ok (.lshl, 1)) (e : x <<< (y.toInt64 &&& 63) = z) (h : GG k ce sl cs lv (pc + 1) (.long z :: st)) : GG k ce sl cs lv pc (.int y :: .long x :: st) := by
  obtain ⟨⟨p, l, e0, R, s⟩, ⟨m, args, below, meth, c⟩, A, Q, v, nL⟩ := k
  obtain ⟨rfl, rfl, rfl, rfl, hx, hb, -⟩ := X
  exact fun H locs la hP hD hS hl => lv_lshl hx hb d e (h H locs la hP hD hS hl)
theorem g_lshr {x z : Int64} {y : Int32} (X : CX k l v cc own R nL) (d : decode cc pc = .ok (.lshr, 1)) (e : x >>> (y.toInt64 &&& 63) = z) (h : GG k ce sl cs lv (pc + 1) (.long z :: st)) : GG k ce sl cs lv pc (.int y :: .long x :: st) := by
  obtain ⟨⟨p, l, e0, R, s⟩, ⟨m, args, below, meth, c⟩, A, Q, v, nL⟩ := k
  obtain ⟨rfl, rfl, rfl, rfl, hx, hb, -⟩ := X
  exact fun H locs la hP hD hS hl => lv_lshr hx hb d e (h H locs la hP hD hS hl)
theorem g_dup {x : Value} (X : CX k l v cc own R nL) (d : decode cc pc = .ok (.dup, 1)) (hc : x.category = 1) (h : GG k ce sl cs lv (pc + 1) (x :: x :: st)) : GG k ce sl cs lv pc (x :: st) := by
  obtain ⟨⟨p, l, e0, R, s⟩, ⟨m, args, below, meth, c⟩, A, Q, v, nL⟩ := k
  obtain ⟨rfl, rfl, rfl, rfl, hx, hb, -⟩ := X
  exact fun H locs la hP hD hS hl => lv_dup hx hb d hc (h H locs la hP hD hS hl)
theorem g_pop {x : Value} (X : CX k l v cc own R nL) (d : decode cc pc = .ok (.pop, 1)) (hc : x.category = 1) (h : GG k ce sl cs lv (pc + 1) st) : GG k ce sl cs lv pc (x :: st) := by
  obtain ⟨⟨p, l, e0, R, s⟩, ⟨m, args, below, meth, c⟩, A, Q, v, nL⟩ := k
  obtain ⟨rfl, rfl, rfl, rfl, hx, hb, -⟩ := X
  exact fun H locs la hP hD hS hl => lv_pop hx hb d hc (h H locs la hP hD hS hl)
theorem g_dup2 {x y : Value} (X : CX k l v cc own R nL) (d : decode cc pc = .ok (.dup2, 1)) (hc : x.category = 1) (hc2 : y.category = 1) (h : GG k ce sl cs lv (pc + 1) (x :: y :: x :: y :: st)) : GG k ce sl cs lv pc (x :: y :: st) := by
  obtain ⟨⟨p, l, e0, R, s⟩, ⟨m, args, below, meth, c⟩, A, Q, v, nL⟩ := k
  obtain ⟨rfl, rfl, rfl, rfl, hx, hb, -⟩ := X
  exact fun H locs la hP hD hS hl => lv_dup2_11 hx hb d hc hc2 (h H locs la hP hD hS hl)
theorem g_if_eq {x : Int32} {off : Int} {tgt : Nat} (X : CX k l v cc own R nL) (d : decode cc pc = .ok (.ifCond .eq off, 3)) (ht : (pc : Int) + off = (tgt : Int)) (kt : x = 0 → GG k ce sl cs lv tgt st) (kf : ¬ x = 0 → GG k ce sl cs lv (pc + 3) st) : GG k ce sl cs lv pc (.int x :: st) := by
  obtain ⟨⟨p, l, e0, R, s⟩, ⟨m, args, below, meth, c⟩, A, Q, v, nL⟩ := k
  obtain ⟨rfl, rfl, rfl, rfl, hx, hb, -⟩ := X
  exact fun H locs la hP hD hS hl => lv_if_eq hx hb d ht (fun z => kt z H locs la hP hD hS hl) (fun z => kf z H locs la hP hD hS hl)
theorem g_icmp_eq {x y : Int32} {off : Int} {tgt : Nat} (X : CX k l v cc own R nL) (d : decode cc pc = .ok (.if_icmp .eq off, 3)) (ht : (pc : Int) + off = (tgt : Int)) (kt : x = y → GG k ce sl cs lv tgt st) (kf : ¬ x = y → GG k ce sl cs lv (pc + 3) st) : GG k ce sl cs lv pc (.int y :: .int x :: st) := by
  obtain ⟨⟨p, l, e0, R, s⟩, ⟨m, args, below, meth, c⟩, A, Q, v, nL⟩ := k
  obtain ⟨rfl, rfl, rfl, rfl, hx, hb, -⟩ := X
  exact fun H locs la hP hD hS hl => lv_icmp_eq hx hb d ht (fun z => kt z H locs la hP hD hS hl) (fun z => kf z H locs la hP hD hS hl)
theorem g_if_ne {x : Int32} {off : Int} {tgt : Nat} (X : CX k l v cc own R nL) (d : decode cc pc = .ok (.ifCond .ne off, 3)) (ht : (pc : Int) + off = (tgt : Int)) (kt : ¬ x = 0 → GG k ce sl cs lv tgt st) (kf : x = 0 → GG k ce sl cs lv (pc + 3) st) : GG k ce sl cs lv pc (.int x :: st) := by
  obtain ⟨⟨p, l, e0, R, s⟩, ⟨m, args, below, meth, c⟩, A, Q, v, nL⟩ := k
  obtain ⟨rfl, rfl, rfl, rfl, hx, hb, -⟩ := X
  exact fun H locs la hP hD hS hl => lv_if_ne hx hb d ht (fun z => kt z H locs la hP hD hS hl) (fun z => kf z H locs la hP hD hS hl)
theorem g_icmp_ne {x y : Int32} {off : Int} {tgt : Nat} (X : CX k l v cc own R nL) (d : decode cc pc = .ok (.if_icmp .ne off, 3)) (ht : (pc : Int) + off = (tgt : Int)) (kt : ¬ x = y → GG k ce sl cs lv tgt st) (kf : x = y → GG k ce sl cs lv (pc + 3) st) : GG k ce sl cs lv pc (.int y :: .int x :: st) := by
  obtain ⟨⟨p, l, e0, R, s⟩, ⟨m, args, below, meth, c⟩, A, Q, v, nL⟩ := k
  obtain ⟨rfl, rfl, rfl, rfl, hx, hb, -⟩ := X
  exact fun H locs la hP hD hS hl => lv_icmp_ne hx hb d ht (fun z => kt z H locs la hP hD hS hl) (fun z => kf z H locs la hP hD hS hl)
theorem g_if_lt {x : Int32} {off : Int} {tgt : Nat} (X : CX k l v cc own R nL) (d : decode cc pc = .ok (.ifCond .lt off, 3)) (ht : (pc : Int) + off = (tgt : Int)) (kt : x < 0 → GG k ce sl cs lv tgt st) (kf : ¬ x < 0 → GG k ce sl cs lv (pc + 3) st) : GG k ce sl cs lv pc (.int x :: st) := by
  obtain ⟨⟨p, l, e0, R, s⟩, ⟨m, args, below, meth, c⟩, A, Q, v, nL⟩ := k
  obtain ⟨rfl, rfl, rfl, rfl, hx, hb, -⟩ := X
  exact fun H locs la hP hD hS hl => lv_if_lt hx hb d ht (fun z => kt z H locs la hP hD hS hl) (fun z => kf z H locs la hP hD hS hl)
theorem g_icmp_lt {x y : Int32} {off : Int} {tgt : Nat} (X : CX k l v cc own R nL) (d : decode cc pc = .ok (.if_icmp .lt off, 3)) (ht : (pc : Int) + off = (tgt : Int)) (kt : x < y → GG k ce sl cs lv tgt st) (kf : ¬ x < y → GG k ce sl cs lv (pc + 3) st) : GG k ce sl cs lv pc (.int y :: .int x :: st) := by
  obtain ⟨⟨p, l, e0, R, s⟩, ⟨m, args, below, meth, c⟩, A, Q, v, nL⟩ := k
  obtain ⟨rfl, rfl, rfl, rfl, hx, hb, -⟩ := X
  exact fun H locs la hP hD hS hl => lv_icmp_lt hx hb d ht (fun z => kt z H locs la hP hD hS hl) (fun z => kf z H locs la hP hD hS hl)
theorem g_if_ge {x : Int32} {off : Int} {tgt : Nat} (X : CX k l v cc own R nL) (d : decode cc pc = .ok (.ifCond .ge off, 3)) (ht : (pc : Int) + off = (tgt : Int)) (kt : 0 ≤ x → GG k ce sl cs lv tgt st) (kf : ¬ 0 ≤ x → GG k ce sl cs lv (pc + 3) st) : GG k ce sl cs lv pc (.int x :: st) := by
  obtain ⟨⟨p, l, e0, R, s⟩, ⟨m, args, below, meth, c⟩, A, Q, v, nL⟩ := k
  obtain ⟨rfl, rfl, rfl, rfl, hx, hb, -⟩ := X
  exact fun H locs la hP hD hS hl => lv_if_ge hx hb d ht (fun z => kt z H locs la hP hD hS hl) (fun z => kf z H locs la hP hD hS hl)
theorem g_icmp_ge {x y : Int32} {off : Int} {tgt : Nat} (X : CX k l v cc own R nL) (d : decode cc pc = .ok (.if_icmp .ge off, 3)) (ht : (pc : Int) + off = (tgt : Int)) (kt : y ≤ x → GG k ce sl cs lv tgt st) (kf : ¬ y ≤ x → GG k ce sl cs lv (pc + 3) st) : GG k ce sl cs lv pc (.int y :: .int x :: st) := by
  obtain ⟨⟨p, l, e0, R, s⟩, ⟨m, args, below, meth, c⟩, A, Q, v, nL⟩ := k
  obtain ⟨rfl, rfl, rfl, rfl, hx, hb, -⟩ := X
  exact fun H locs la hP hD hS hl => lv_icmp_ge hx hb d ht (fun z => kt z H locs la hP hD hS hl) (fun z => kf z H locs la hP hD hS hl)
theorem g_if_gt {x : Int32} {off : Int} {tgt : Nat} (X : CX k l v cc own R nL) (d : decode cc pc = .ok (.ifCond .gt off, 3)) (ht : (pc : Int) + off = (tgt : Int)) (kt : 0 < x → GG k ce sl cs lv tgt st) (kf : ¬ 0 < x → GG k ce sl cs lv (pc + 3) st) : GG k ce sl cs lv pc (.int x :: st) := by
  obtain ⟨⟨p, l, e0, R, s⟩, ⟨m, args, below, meth, c⟩, A, Q, v, nL⟩ := k
  obtain ⟨rfl, rfl, rfl, rfl, hx, hb, -⟩ := X
  exact fun H locs la hP hD hS hl => lv_if_gt hx hb d ht (fun z => kt z H locs la hP hD hS hl) (fun z => kf z H locs la hP hD hS hl)
theorem g_icmp_gt {x y : Int32} {off : Int} {tgt : Nat} (X : CX k l v cc own R nL) (d : decode cc pc = .ok (.if_icmp .gt off, 3)) (ht : (pc : Int) + off = (tgt : Int)) (kt : y < x → GG k ce sl cs lv tgt st) (kf : ¬ y < x → GG k ce sl cs lv (pc + 3) st) : GG k ce sl cs lv pc (.int y :: .int x :: st) := by
  obtain ⟨⟨p, l, e0, R, s⟩, ⟨m, args, below, meth, c⟩, A, Q, v, nL⟩ := k
  obtain ⟨rfl, rfl, rfl, rfl, hx, hb, -⟩ := X
  exact fun H locs la hP hD hS hl => lv_icmp_gt hx hb d ht (fun z => kt z H locs la hP hD hS hl) (fun z => kf z H locs la hP hD hS hl)
theorem g_if_le {x : Int32} {off : Int} {tgt : Nat} (X : CX k l v cc own R nL) (d : decode cc pc = .ok (.ifCond .le off, 3)) (ht : (pc : Int) + off = (tgt : Int)) (kt : x ≤ 0 → GG k ce sl cs lv tgt st) (kf : ¬ x ≤ 0 → GG k ce sl cs lv (pc + 3) st) : GG k ce sl cs lv pc (.int x :: st) := by
  obtain ⟨⟨p, l, e0, R, s⟩, ⟨m, args, below, meth, c⟩, A, Q, v, nL⟩ := k
  obtain ⟨rfl, rfl, rfl, rfl, hx, hb, -⟩ := X
  exact fun H locs la hP hD hS hl => lv_if_le hx hb d ht (fun z => kt z H locs la hP hD hS hl) (fun z => kf z H locs la hP hD hS hl)
theorem g_icmp_le {x y : Int32} {off : Int} {tgt : Nat} (X : CX k l v cc own R nL) (d : decode cc pc = .ok (.if_icmp .le off, 3)) (ht : (pc : Int) + off = (tgt : Int)) (kt : x ≤ y → GG k ce sl cs lv tgt st) (kf : ¬ x ≤ y → GG k ce sl cs lv (pc + 3) st) : GG k ce sl cs lv pc (.int y :: .int x :: st) := by
  obtain ⟨⟨p, l, e0, R, s⟩, ⟨m, args, below, meth, c⟩, A, Q, v, nL⟩ := k
  obtain ⟨rfl, rfl, rfl, rfl, hx, hb, -⟩ := X
  exact fun H locs la hP hD hS hl => lv_icmp_le hx hb d ht (fun z => kt z H locs la hP hD hS hl) (fun z => kf z H locs la hP hD hS hl)
theorem g_tabOut {x : Int32} {dflt lo hi : Int} {offs : Array Int} {len tgt : Nat} (X : CX k l v cc own R nL) (d : decode cc pc = .ok (.tableswitch dflt lo hi offs, len)) (hh : x.toInt < lo ∨ hi < x.toInt) (ht : (pc : Int) + dflt = (tgt : Int)) (h : GG k ce sl cs lv tgt st) : GG k ce sl cs lv pc (.int x :: st) := by
  obtain ⟨⟨p, l, e0, R, s⟩, ⟨m, args, below, meth, c⟩, A, Q, v, nL⟩ := k
  obtain ⟨rfl, rfl, rfl, rfl, hx, hb, -⟩ := X
  exact fun H locs la hP hD hS hl => lv_tableOut hx hb d hh ht (h H locs la hP hD hS hl)
theorem g_tabIn {x : Int32} {dflt lo hi : Int} {offs : Array Int} {len tgt : Nat} {off : Int} (X : CX k l v cc own R nL) (d : decode cc pc = .ok (.tableswitch dflt lo hi offs, len)) (h1 : ¬ x.toInt < lo) (h2 : ¬ hi < x.toInt) (ho : offs[(x.toInt - lo).toNat]? = some off) (ht : (pc : Int) + off = (tgt : Int)) (h : GG k ce sl cs lv tgt st) : GG k ce sl cs lv pc (.int x :: st) := by
  obtain ⟨⟨p, l, e0, R, s⟩, ⟨m, args, below, meth, c⟩, A, Q, v, nL⟩ := k
  obtain ⟨rfl, rfl, rfl, rfl, hx, hb, -⟩ := X
  exact fun H locs la hP hD hS hl => lv_tableIn hx hb d h1 h2 ho ht (h H locs la hP hD hS hl)
end ROWS

