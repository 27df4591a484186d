/-! ## doubles: provedShare -/
abbrev vD : UInt64 → Option Value := fun r => some (.double r)
abbrev MD := @MM UInt64 vD
def ED9 (k : KX) (cc : ByteArray) (post : UInt64 → List va_W → Prop) (mc ms : Nat) : Prop := ∀ {ce sl : Nat} {cs : List va_W} {lv : List (Nat × Value)} {pc : Nat} {r : UInt64}, decode cc pc = .ok (.dreturn, 1) → ce ≤ mc → sl ≤ ms → post r cs → GG k ce sl cs lv pc [.double r]
theorem mm_dbl {l : Launch} {v : VV} {y : MethodName} {cc : ByteArray} {maxL : Nat} {ret : Option FieldType} {rm : Room} {av : List Value} {wc : List va_W} {mc ms : Nat} {post : UInt64 → List va_W → Prop} (hret : ret = some .double) (hy : plainName y.cls = true) (hlen : (lg_sl av).length ≤ maxL) (lv0 : List (Nat × Value)) (hlv : lv_args 0 av = lv0)
    (body : ∀ (k : KX), CX k l v cc y.cls rm maxL → ED9 k cc post mc ms → GG k 0 0 wc lv0 0 []) : MM vD l v y cc maxL ret rm av wc post mc ms := by
  refine mm_start hy hlen lv0 hlv (fun k X _ hr hA hQ => body k X ?_)
  obtain ⟨⟨p, l, e', R, s⟩, ⟨m, args, below, meth, c⟩, A, Q, v, nL⟩ := k
  obtain ⟨rfl, rfl, rfl, rfl, hx, hb, hml, hown, hts, hK, hA', hse, hlk⟩ := X
  dsimp only at hA hQ hr
  subst hA; subst hQ
  intro ce sl cs lv pc r d h1 h2 hp H locs la hP hD hS hla
  refine W.widen h1 h2 ?_
  exact W.dret hx hb (hr.trans hret) (fun t ht hW => ⟨⟨r, cs, rfl, hp, by rw [ht]; exact hP, hD⟩, hS.F ht⟩) hS.2.2 d hlk
section DROWS
variable {k : KX} {l : Launch} {v : VV} {cc : ByteArray} {own : String} {R : Room} {nL ce sl pc : Nat} {cs : List va_W} {lv : List (Nat × Value)} {st : List Value}
theorem g_i2d {x : Int32} (X : CX k l v cc own R nL) (d : decode cc pc = .ok (.i2d, 1)) (h : GG k ce sl cs lv (pc + 1) (.double (FP.i2d x) :: st)) : GG k ce sl cs lv pc (.int x :: st) := by
  obtain ⟨⟨p, l, e0, R, s⟩, ⟨m, args, below, meth, c⟩, A, Q, v, nL⟩ := k
  obtain ⟨rfl, rfl, rfl, rfl, hx, hb, -⟩ := X
  exact fun H locs la hP hD hS hl => lv_i2d hx hb d (h H locs la hP hD hS hl)
theorem g_ddiv {x y : UInt64} (X : CX k l v cc own R nL) (d : decode cc pc = .ok (.ddiv, 1)) (hn : vf_n64 (FP.ddiv x y)) (h : GG k ce sl cs lv (pc + 1) (.double (FP.ddiv x y) :: st)) : GG k ce sl cs lv pc (.double y :: .double x :: st) := by
  obtain ⟨⟨p, l, e0, R, s⟩, ⟨m, args, below, meth, c⟩, A, Q, v, nL⟩ := k
  obtain ⟨rfl, rfl, rfl, rfl, hx, hb, -⟩ := X
  exact fun H locs la hP hD hS hl => lv_ddiv hx hb d hn (h H locs la hP hD hS hl)
theorem g_dstore {i : Nat} {x : UInt64} {lv' : List (Nat × Value)} (X : CX k l v cc own R nL) (d : decode cc pc = .ok (.dstore i, 2)) (hn : i + 1 < nL) (hl' : (i, Value.double x) :: lv.filter (fun q => !(q.1 == i) && (!(q.1 == i + 1) && !(q.1 + 1 == i && q.2.category == 2))) = lv') (h : GG k ce sl cs lv' (pc + 2) st) : GG k ce sl cs lv pc (.double x :: st) := by
  obtain ⟨⟨p, l, e0, R, s⟩, ⟨m, args, below, meth, c⟩, A, Q, v, nL⟩ := k
  obtain ⟨rfl, rfl, rfl, rfl, hx, hb, -⟩ := X
  exact fun H locs la hP hD hS hl => lv_dstore hx hb d hl hn hl' (fun ls hl => h H locs ls hP hD hS hl)
theorem g_dload {i : Nat} {x : UInt64} (X : CX k l v cc own R nL) (d : decode cc pc = .ok (.dload i, 2)) (j : Nat) (hj : lv[j]? = some (i, .double x)) (h : GG k ce sl cs lv (pc + 2) (.double x :: st)) : GG k ce sl cs lv pc st := by
  obtain ⟨⟨p, l, e0, R, s⟩, ⟨m, args, below, meth, c⟩, A, Q, v, nL⟩ := k
  obtain ⟨rfl, rfl, rfl, rfl, hx, hb, -⟩ := X
  exact fun H locs la hP hD hS hl => lv_dload hx hb d (lv_at hl j hj) (h H locs la hP hD hS hl)
theorem g_dcmp {x y : UInt64} {o : CmpOp} {z : Int32} (X : CX k l v cc own R nL) (d : decode cc pc = .ok (.dcmp o, 1)) (e : Op.cmpValue (FP.dcmp x y) o = z) (h : GG k ce sl cs lv (pc + 1) (.int z :: st)) : GG k ce sl cs lv pc (.double y :: .double x :: st) := by
  obtain ⟨⟨p, l, e0, R, s⟩, ⟨m, args, below, meth, c⟩, A, Q, v, nL⟩ := k
  obtain ⟨rfl, rfl, rfl, rfl, hx, hb, -⟩ := X
  subst e
  exact fun H locs la hP hD hS hl => lv_dcmp hx hb d (h H locs la hP hD hS hl)
end DROWS
theorem fp_asm {e t : Nat} : FP.Core.assemble FP.Core.b64 false e t = e * 4503599627370496 + t := by
  unfold FP.Core.assemble
  show (0 * 2048 + e) * 4503599627370496 + t = _
  omega
theorem fp_qmin : FP.Core.Fmt.qmin FP.Core.b64 = -1074 := by decide
theorem fp_qmax : FP.Core.Fmt.qmax FP.Core.b64 = 971 := by decide
theorem fp_tails : FP.Core.Fmt.tails FP.Core.b64 = 4503599627370496 := by decide
theorem fp_enc {c : Nat} {q : Int} (hc : c < 9007199254740992) (hq : q ≤ 971) : FP.Core.encode FP.Core.b64 (.fin false c q) ≤ 9218868437227405312 := by
  unfold FP.Core.encode
  dsimp only
  rw [fp_asm, fp_asm, fp_qmin, fp_tails]
  split <;> omega
theorem fp_inf : FP.Core.encode FP.Core.b64 (.inf false) ≤ 9218868437227405312 := by decide
theorem fp_bound {c : Nat} {q : Int} (hc : c < 9007199254740992) : FP.Core.encode FP.Core.b64 (FP.Core.bound FP.Core.b64 false c q) ≤ 9218868437227405312 := by
  unfold FP.Core.bound
  rw [fp_qmax]
  split
  · exact fp_enc hc (by assumption)
  · exact fp_inf
theorem fp_ratio (num den : Nat) (e : Int) : FP.Core.encode FP.Core.b64 (FP.Core.roundRatio FP.Core.b64 false num den e) ≤ 9218868437227405312 := by
  unfold FP.Core.roundRatio
  split
  · exact fp_enc (by omega) (by rw [fp_qmin]; omega)
  · unfold FP.Core.roundAt FP.Core.settle
    split
    · rename_i h
      exact fp_bound h
    · exact fp_bound (by rw [fp_tails]; omega)
def fpD (a : Nat) : Bool := match FP.Core.decode FP.Core.b64 (FP.i2d (nI a)).toNat with
  | .fin false c _ => decide (c = 0 → a = 0)
  | _ => false
theorem fpD_all : ∀ a : Nat, a < 513 → fpD a = true := by decide +kernel
theorem fpD_fin {a : Nat} (h : a < 513) : ∃ c q, FP.Core.decode FP.Core.b64 (FP.i2d (nI a)).toNat = .fin false c q ∧ (c = 0 → a = 0) := by
  have h9 := fpD_all a h
  unfold fpD at h9
  split at h9
  · rename_i c q e
    exact ⟨c, q, e, of_decide_eq_true h9⟩
  · cases h9
theorem nn_div {a b : Nat} (ha : a < 513) (hb : b < 513) (h0 : 0 < b) : vf_n64 (FP.ddiv (FP.i2d (nI a)) (FP.i2d (nI b))) := by
  obtain ⟨c, q, e1, _⟩ := fpD_fin ha
  obtain ⟨d, r, e2, hd⟩ := fpD_fin hb
  have hd0 : ¬ d = 0 := fun z => by have := hd z; omega
  have hq : FP.Core.div FP.Core.b64 (FP.i2d (nI a)).toNat (FP.i2d (nI b)).toNat ≤ 9218868437227405312 := by
    unfold FP.Core.div
    rw [e1, e2]
    unfold FP.Core.quotient
    dsimp only
    rw [if_neg hd0]
    exact fp_ratio _ _ _
  unfold vf_n64
  show (UInt64.ofNat (FP.Core.div FP.Core.b64 (FP.i2d (nI a)).toNat (FP.i2d (nI b)).toNat)) &&& 9223372036854775807 ≤ 9218868437227405312
  generalize FP.Core.div FP.Core.b64 (FP.i2d (nI a)).toNat (FP.i2d (nI b)).toNat = N at hq
  rw [UInt64.le_iff_toNat_le, UInt64.toNat_and]
  refine Nat.le_trans Nat.and_le_left ?_
  rw [UInt64.toNat_ofNat']
  exact Nat.le_trans (Nat.mod_le _ _) hq
noncomputable def psV (lo hi : Nat → Nat) (P : Nat → S9) (n : Nat) : UInt64 := FP.ddiv (FP.i2d (nI (ctb (jS lo hi P n) 512))) (FP.i2d (nI (cnt9 lo hi 3)))

set_option maxHeartbeats 4000000 in
set_option maxRecDepth 100000 in
theorem c_X6_provedShare (l : Launch) (v : VV) (cj : Nat) (a : Nat → Nat) (b : Nat → Nat) (d : Nat → Nat) (j : Nat → Nat) (h : Nat → Nat) (t : Nat → Nat) (n : Nat) (f : Nat → Nat → Int32) (P : Nat → S9) (g : Nat → Nat → Int32) (lo : Nat → Nat) (hi : Nat → Nat) (stl : Bool) (e : Nat → Int32) (x : Nat) (y : Nat) (z : Nat) (jst : Bool) (ex : Nat → Int32) (lw : Nat → Int32) (hg : Nat → Int32) (vs : Nat → Int64) (hW : WF P n) (hR : PgR P n f) (hL : AsW lo hi) (hG : AsR lo hi g) (hE : stl = false → OKE P n e) (hJ : jst = false → JOK lo hi P n x y z ex lw hg) : MD l v yX6_provedShare cX6_provedShare 1 (some .double) ({ frames := 7, cells := 0, slots := 0, locals := 118 }) [.ref cj] [cCJ v cj (a 0) (b 0) (d 0) (j 0) (h 0) (t 0), cPg v a n f, cAs v b g, cRu v d (a 0) stl, cEn v d e, cJu v j (a 0) (b 0) (d 0) x y z jst, cEx v j ex, cLo v j lw, cHi v j hg, cVi v j vs] (fun r w_ => ∃ x' y' z' jst' ex' lw' hg' vs' stl' e', r = psV lo hi P n ∧ (jst' = false → JOK lo hi P n x' y' z' ex' lw' hg') ∧ (stl' = false → OKE P n e') ∧ w_ = [cCJ v cj (a 0) (b 0) (d 0) (j 0) (h 0) (t 0), cPg v a n f, cAs v b g, cRu v d (a 0) stl', cEn v d e', cJu v j (a 0) (b 0) (d 0) x' y' z' jst', cEx v j ex', cLo v j lw', cHi v j hg', cVi v j vs']) 0 0 := by
  refine mm_dbl rfl (by decide) (Nat.le_of_ble_eq_true rfl) [(0, .ref cj)] rfl (fun k X E => ?_)
  have hn12 := hW.1
  have hc5 := cnt9_rng hL
  have hcl9 := ctb_le (jS lo hi P n) 512
  refine g_aload_n X dX6_provedShare_0 0 rfl rfl ?_
  refine g_get X cb6 3 q_2_1 dX6_provedShare_1 0 0 rfl rfl (by decide) rfl rfl ?_
  refine g_callV (As := []) (rest := []) (wr := [cCJ v cj (a 0) (b 0) (d 0) (j 0) (h 0) (t 0)]) X (c_X2_refresh l v j x y z jst ex lw hg vs a n f P b g lo hi d stl e hW hR hL hG hE hJ ) f_X2_refresh q_16_15 dX6_provedShare_4 [5, 6, 7, 8, 9, 1, 2, 3, 4] [0] rfl rfl (by decide) 0 rfl rfl rfl rfl (Nat.le_of_ble_eq_true rfl) (by decide) (fun r_ w_ hp2 => ?_)
  obtain ⟨rf1x, rf1y, rf1z, rf1e, rf1l, rf1h, rf1v, rf1s, rf1n, rf1J, rf1E, rfl⟩ := hp2
  show GG k _ _ [cJu v j (a 0) (b 0) (d 0) rf1x rf1y rf1z false, cEx v j rf1e, cLo v j rf1l, cHi v j rf1h, cVi v j rf1v, cPg v a n f, cAs v b g, cRu v d (a 0) rf1s, cEn v d rf1n, cCJ v cj (a 0) (b 0) (d 0) (j 0) (h 0) (t 0)] _ _ []
  refine g_pick (cs' := [cCJ v cj (a 0) (b 0) (d 0) (j 0) (h 0) (t 0), cPg v a n f, cAs v b g, cRu v d (a 0) rf1s, cEn v d rf1n, cJu v j (a 0) (b 0) (d 0) rf1x rf1y rf1z false, cEx v j rf1e, cLo v j rf1l, cHi v j rf1h, cVi v j rf1v]) [9, 5, 6, 7, 8, 0, 1, 2, 3, 4] rfl rfl ?_
  refine g_aload_n X dX6_provedShare_7 0 rfl rfl ?_
  refine g_get X cb6 3 q_2_1 dX6_provedShare_8 0 0 rfl rfl (by decide) rfl rfl ?_
  refine g_getN X cb2 8 8 rfl dX6_provedShare_11 5 0 rfl rfl (by decide) rfl rfl ?_
  refine g_v (y := nI (ctb (jS lo hi P n) 512)) (by rw [rf1J.2.2.1]) ?_
  refine g_i2d X dX6_provedShare_14 ?_
  refine g_aload_n X dX6_provedShare_15 0 rfl rfl ?_
  refine g_get X cb6 1 q_1_17 dX6_provedShare_16 0 0 rfl rfl (by decide) rfl rfl ?_
  refine g_callV (As := []) (rest := [.double (FP.i2d (nI (ctb (jS lo hi P n) 512)))]) (wr := [cCJ v cj (a 0) (b 0) (d 0) (j 0) (h 0) (t 0), cPg v a n f, cRu v d (a 0) rf1s, cEn v d rf1n, cJu v j (a 0) (b 0) (d 0) rf1x rf1y rf1z false, cEx v j rf1e, cLo v j rf1l, cHi v j rf1h, cVi v j rf1v]) X (c_X0_count l v b g lo hi hL hG) f_X0_count q_16_0 dX6_provedShare_19 [2] [0, 1, 3, 4, 5, 6, 7, 8, 9] rfl rfl (by decide) 0 rfl rfl rfl rfl (Nat.le_of_ble_eq_true rfl) (by decide) (fun r_ w_ hp3 => ?_)
  obtain ⟨rfl, rfl⟩ := hp3
  show GG k _ _ [cAs v b g, cCJ v cj (a 0) (b 0) (d 0) (j 0) (h 0) (t 0), cPg v a n f, cRu v d (a 0) rf1s, cEn v d rf1n, cJu v j (a 0) (b 0) (d 0) rf1x rf1y rf1z false, cEx v j rf1e, cLo v j rf1l, cHi v j rf1h, cVi v j rf1v] _ _ [.int (nI (cnt9 lo hi 3)), .double (FP.i2d (nI (ctb (jS lo hi P n) 512)))]
  refine g_pick (cs' := [cCJ v cj (a 0) (b 0) (d 0) (j 0) (h 0) (t 0), cPg v a n f, cAs v b g, cRu v d (a 0) rf1s, cEn v d rf1n, cJu v j (a 0) (b 0) (d 0) rf1x rf1y rf1z false, cEx v j rf1e, cLo v j rf1l, cHi v j rf1h, cVi v j rf1v]) [1, 2, 0, 3, 4, 5, 6, 7, 8, 9] rfl rfl ?_
  refine g_i2d X dX6_provedShare_22 ?_
  refine g_ddiv X dX6_provedShare_23 (nn_div (by omega) (by omega) (by omega)) ?_
  exact E dX6_provedShare_24 (by decide) (by decide) (⟨_, _, _, _, _, _, _, _, _, _, rfl, (fun _ => rf1J), rf1E, rfl⟩)


