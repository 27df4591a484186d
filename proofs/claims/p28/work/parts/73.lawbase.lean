/-! ## the law: its rows, cell, low -/
theorem nck_of {k : KX} {l : Launch} {v : VV} {cc : ByteArray} {own : String} {R : Room} {nL : Nat} (X : CX k l v cc own R nL) : NCk k := by
  obtain ⟨⟨p, l, e', R, s⟩, ⟨m, args, below, meth, c⟩, A, Q, v, nL⟩ := k
  obtain ⟨rfl, rfl, rfl, rfl, hx, hb, hml, hown, hts, hK, hA, hse, hlk⟩ := X
  exact hse.2.2.2.2.2.2.2.2
theorem sck_of {k : KX} {l : Launch} {v : VV} {cc : ByteArray} {own : String} {R : Room} {nL : Nat} (X : CX k l v cc own R nL) : SCk k (v.2.2.2 900) (v.2.2.1 900) (fun k => nI (v.2.2.1 (1000 + k))) := by
  obtain ⟨⟨p, l, e', R, s⟩, ⟨m, args, below, meth, c⟩, A, Q, v, nL⟩ := k
  obtain ⟨rfl, rfl, rfl, rfl, hx, hb, hml, hown, hts, hK, hA, hse, hlk⟩ := X
  exact ⟨hse.2.2.2.2.2.1, hse.2.2.2.2.2.2.1, hse.2.2.2.2.2.2.2.1⟩
theorem zI_eq0 {a : Int} (h1 : -2147483648 ≤ a) (h2 : a < 2147483648) : zI a = 0 ↔ a = 0 := (zI_inj h1 h2 (by decide) (by decide) : zI a = zI 0 ↔ a = 0)
theorem zI_lt0 {a : Int} (h1 : -2147483648 ≤ a) (h2 : a < 2147483648) : zI a < 0 ↔ a < 0 := (zI_lt h1 h2 (by decide) (by decide) : zI a < zI 0 ↔ a < 0)
theorem zI_ge0 {a : Int} (h1 : -2147483648 ≤ a) (h2 : a < 2147483648) : 0 ≤ zI a ↔ 0 ≤ a := (zI_le (by decide) (by decide) h1 h2 : zI 0 ≤ zI a ↔ 0 ≤ a)
theorem zI_gt0 {a : Int} (h1 : -2147483648 ≤ a) (h2 : a < 2147483648) : 0 < zI a ↔ 0 < a := (zI_lt (by decide) (by decide) h1 h2 : zI 0 < zI a ↔ 0 < a)
theorem zI_le0 {a : Int} (h1 : -2147483648 ≤ a) (h2 : a < 2147483648) : zI a ≤ 0 ↔ a ≤ 0 := (zI_le h1 h2 (by decide) (by decide) : zI a ≤ zI 0 ↔ a ≤ 0)
section DCROWS
variable {k : KX} {l : Launch} {v : VV} {cc : ByteArray} {own : String} {R : Room} {nL ce sl pc : Nat} {cs : List va_W} {lv : List (Nat × Value)} {st : List Value}
theorem g_dconst0 (X : CX k l v cc own R nL) (d : decode cc pc = .ok (.dconst 0, 1)) (h : GG k ce sl cs lv (pc + 1) (.double FP.dconst0 :: st)) : GG k ce sl cs lv pc st := by
  obtain ⟨⟨p, l, e0, R, s⟩, ⟨m, args, below, meth, c⟩, A, Q, v, nL⟩ := k
  obtain ⟨rfl, rfl, rfl, rfl, hx, hb, -⟩ := X
  exact fun H locs la hP hD hS hl => lv_dconst0 hx hb d (h H locs la hP hD hS hl)
theorem g_dconst1 (X : CX k l v cc own R nL) (d : decode cc pc = .ok (.dconst 1, 1)) (h : GG k ce sl cs lv (pc + 1) (.double FP.dconst1 :: st)) : GG k ce sl cs lv pc st := by
  obtain ⟨⟨p, l, e0, R, s⟩, ⟨m, args, below, meth, c⟩, A, Q, v, nL⟩ := k
  obtain ⟨rfl, rfl, rfl, rfl, hx, hb, -⟩ := X
  exact fun H locs la hP hD hS hl => lv_dconst1 hx hb d (h H locs la hP hD hS hl)
/-- the first two rows pass it, the third takes it -/
theorem ct_3 {a b h i a2 b2 h2 i2 a3 b3 h3 i3 : Nat} {r : HHt} {nm nm2 : String} {q : String × Nat × Nat} (X : CX k l v cc own R nL) (T : TBk k ((a, b, h, i) :: (a2, b2, h2, i2) :: (a3, b3, h3, i3) :: r)) (hnc : NCk k) (hp : ∀ s, NC9 s → va_Nc q.1 nm s) (hp2 : ∀ s, NC9 s → va_Nc q.1 nm2 s) (hq : q ∈ xSites) (hl1 : Cond.classLink own i nm ∈ wsL_law) (hi1 : i ≠ 0) (hl2 : Cond.classLink own i2 nm2 ∈ wsL_law) (hi2 : i2 ≠ 0) (hl : Cond.classLink own i3 q.1 ∈ wsL_law) (hi : i3 ≠ 0) (hcov : covers ⟨a3, b3, h3, i3⟩ pc = true) : CTk k own pc q.1 h3 := by
  obtain ⟨⟨p, l, e', R, s⟩, ⟨m, args, below, meth, c⟩, A, Q, v, nL⟩ := k
  obtain ⟨rfl, rfl, rfl, rfl, hx, hb, hml, hown, hts, hK, hA, hse, hlk⟩ := X
  refine ⟨[⟨a, b, h, i⟩, ⟨a2, b2, h2, i2⟩], ⟨a3, b3, h3, i3⟩, tableOf r, q.1, T, (fun z hz => ?_), hcov, hi, hts _ hl, va_Nw.use rfl (hse.1.2.2.2.2.2.1 q hq), rfl⟩
  simp only [List.mem_cons, List.not_mem_nil, or_false] at hz
  rcases hz with rfl | rfl
  · exact Or.inr ⟨hi1, nm, hts _ hl1, hp s hnc⟩
  · exact Or.inr ⟨hi2, nm2, hts _ hl2, hp2 s hnc⟩
end DCROWS
def cl9 (v : VV) (k : Nat) : Int32 := if k < v.2.2.1 900 then nI (v.2.2.1 (1000 + k)) else nI (7919 * (k + 7) * (k + 401))
def low9 (x : Int32) (m : Nat) : Nat := x.toBitVec.toNat % 2 ^ 31 % m
theorem low9_lt (x : Int32) {m : Nat} (h : 0 < m) : low9 x m < m := Nat.mod_lt _ h
abbrev cOi (v : VV) (o : Nat) (f : Nat → Int32) : va_W := [(o, .inl (v.2.1 0, 1, .inl f))]
theorem f_L_cell : MFs yL_cell cL_cell 2 (some .int) 2 := ⟨⟨⟨by decide +kernel, by decide +kernel, by decide +kernel⟩, q_4_14, q_4_13⟩, q_4_12⟩
theorem f_L_low : MFs yL_low cL_low 2 (some .int) 2 := ⟨⟨⟨by decide +kernel, by decide +kernel, by decide +kernel⟩, q_5_0, q_4_13⟩, q_4_23⟩
theorem f_L_typed : MFs yL_typed cL_typed 7 (some .int) 3 := ⟨⟨⟨by decide +kernel, by decide +kernel, by decide +kernel⟩, q_5_21, q_4_13⟩, q_5_20⟩
theorem f_L_act : MFs yL_act cL_act 13 (some .int) 4 := ⟨⟨⟨by decide +kernel, by decide +kernel, by decide +kernel⟩, q_4_21, q_4_13⟩, q_4_20⟩
theorem f_L_areAlike : MFs yL_areAlike cL_areAlike 4 (some .boolean) 2 := ⟨⟨⟨by decide +kernel, by decide +kernel, by decide +kernel⟩, q_16_10, q_4_13⟩, q_16_9⟩
theorem f_L_areRunsSo : MFs yL_areRunsSo cL_areRunsSo 11 (some .boolean) 2 := ⟨⟨⟨by decide +kernel, by decide +kernel, by decide +kernel⟩, q_22_4, q_4_13⟩, q_22_3⟩
theorem f_L_areClaimsSo : MFs yL_areClaimsSo cL_areClaimsSo 10 (some .boolean) 1 := ⟨⟨⟨by decide +kernel, by decide +kernel, by decide +kernel⟩, q_23_6, q_4_13⟩, q_23_5⟩
theorem f_L_isWidestSo : MFs yL_isWidestSo cL_isWidestSo 10 (some .boolean) 3 := ⟨⟨⟨by decide +kernel, by decide +kernel, by decide +kernel⟩, q_23_9, q_4_13⟩, q_23_8⟩
set_option maxHeartbeats 4000000 in
set_option maxRecDepth 100000 in
theorem c_L_cell (l : Launch) (v : VV) (k9 : Nat) (hk9 : k9 < 1000) (hL9 : v.2.2.1 900 ≤ 260) : MI l v yL_cell cL_cell 2 (some .int) ({ frames := 0, cells := 0, slots := 0, locals := 0 }) [.ref (v.2.2.2 900), .int (nI k9)] [] (fun r w_ => r = cl9 v k9 ∧ w_ = []) 0 0 := by
  refine mm_int (by decide) (Nat.le_of_ble_eq_true rfl) [(0, .ref (v.2.2.2 900)), (1, .int (nI k9))] rfl (fun k X E => ?_)
  have hs := sck_of X
  refine g_iload_n X dL_cell_0 1 rfl rfl ?_
  refine g_aload_n X dL_cell_1 0 rfl rfl ?_
  refine g_slen X hs dL_cell_2 ?_
  refine g_icmp_geN (tgt := 12) X dL_cell_3 (by decide) (by omega) (by omega) (fun c3 => ?_) (fun c3 => ?_)
  · refine g_sipush (x := nI 7919) X dL_cell_12 (by decide +kernel) ?_
    refine g_iload_n X dL_cell_15 1 rfl rfl ?_
    refine g_bipush (x := nI 7) X dL_cell_16 (by decide +kernel) ?_
    refine g_iaddN X dL_cell_18 ?_
    refine g_imulN X dL_cell_19 ?_
    refine g_iload_n X dL_cell_20 1 rfl rfl ?_
    refine g_sipush (x := nI 401) X dL_cell_21 (by decide +kernel) ?_
    refine g_iaddN X dL_cell_24 ?_
    refine g_imulN X dL_cell_25 ?_
    exact E dL_cell_26 rfl (rfl) (by decide) (by decide) (⟨(if_neg (by omega)).symm, rfl⟩)
  · refine g_aload_n X dL_cell_6 0 rfl rfl ?_
    refine g_iload_n X dL_cell_7 1 rfl rfl ?_
    refine g_sld X hs dL_cell_8 (by omega) (by omega) ?_
    refine g_goto (tgt := 26) X dL_cell_9 (by decide) ?_
    exact E dL_cell_26 rfl (rfl) (by decide) (by decide) (⟨(if_pos c3).symm, rfl⟩)

set_option maxHeartbeats 4000000 in
set_option maxRecDepth 100000 in
theorem c_L_low (l : Launch) (v : VV) (x : Int32) (m : Nat) (h0 : 0 < m) (h1 : m < 2147483648) : MI l v yL_low cL_low 2 (some .int) ({ frames := 0, cells := 0, slots := 0, locals := 0 }) [.int x, .int (nI m)] [] (fun r w_ => r = nI (low9 x m) ∧ w_ = []) 0 0 := by
  refine mm_int (by decide) (Nat.le_of_ble_eq_true rfl) [(0, .int x), (1, .int (nI m))] rfl (fun k X E => ?_)
  refine g_iload_n X dL_low_0 0 rfl rfl ?_
  refine g_ldc X q_5_1 dL_low_1 ?_
  refine g_v (y := nI 2147483647) (by decide +kernel) ?_
  refine g_iand X dL_low_3 ?_
  refine g_v (y := nI (x.toBitVec.toNat % 2 ^ 31)) (pk_and x 31 (by decide +kernel)) ?_
  refine g_iload_n X dL_low_4 1 rfl rfl ?_
  refine g_iremN X dL_low_5 (by omega) (by omega) (by omega) ?_
  exact E dL_low_6 rfl (rfl) (by decide) (by decide) (⟨rfl, rfl⟩)

