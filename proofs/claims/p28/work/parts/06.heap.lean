/-! ## fields, arrays, new -/
def CB (ci : Nat) (C : String) (T : u_T) (N : Nat) (ty : Nat → FieldType) : Prop := vwCl[ci]? = some (C, T, N) ∧ (∀ w ∈ u_ws C T N, w ∈ wsL_law) ∧ (∀ k, k < N → parseFieldDescriptor (T k).2.2.1 = some (ty k)) ∧ ∀ a, a < N → ∀ b, b < N → a ≠ b → (T a).2.1 ≠ (T b).2.1
theorem cb0 : CB 0 RX0 TX0 2 tyX0 := ⟨rfl, inlX0, tyX0_ok, nmX0⟩
theorem cb1 : CB 1 RX1 TX1 4 tyX1 := ⟨rfl, inlX1, tyX1_ok, nmX1⟩
theorem cb2 : CB 2 RX2 TX2 11 tyX2 := ⟨rfl, inlX2, tyX2_ok, nmX2⟩
theorem cb3 : CB 3 RX3 TX3 7 tyX3 := ⟨rfl, inlX3, tyX3_ok, nmX3⟩
theorem cb4 : CB 4 RX4 TX4 3 tyX4 := ⟨rfl, inlX4, tyX4_ok, nmX4⟩
theorem cb5 : CB 5 RX5 TX5 9 tyX5 := ⟨rfl, inlX5, tyX5_ok, nmX5⟩
theorem cb6 : CB 6 RX6 TX6 6 tyX6 := ⟨rfl, inlX6, tyX6_ok, nmX6⟩
theorem fl_snoc (cs : List va_W) (q : Nat × va_E) : (cs ++ [[q]]).flatten = cs.flatten ++ [q] := by simp
section HEAPROWS
variable {k : KX} {l : Launch} {v : VV} {cc : ByteArray} {own : String} {R : Room} {nL ce sl pc : Nat} {cs : List va_W} {lv : List (Nat × Value)} {st : List Value}
theorem g_get {a ci idx N : Nat} {ch : va_W} {fs : List Value} {C ref : String} {T : u_T} {ty : Nat → FieldType} {x : Value} (X : CX k l v cc own R nL) (B : CB ci C T N ty) (f : Nat) (hq : (Cond.fieldLink own idx ref (T f).2.1 (T f).2.2.1) ∈ wsL_law) (d : decode cc pc = .ok (.getfield idx, 3)) (i j : Nat) (h1 : cs[i]? = some ch) (h2 : ch[j]? = some (a, .inr (ci, fs))) (hf : f < N) (hr : (T f).1 = ref) (hv : fs[f]? = some x) (h : GG k ce sl cs lv (pc + 3) (x :: st)) : GG k ce sl cs lv pc (.ref a :: st) := by
  obtain ⟨⟨p, l, e, R, s⟩, ⟨m, args, below, meth, c⟩, A, Q, v, nL⟩ := k
  obtain ⟨rfl, rfl, rfl, rfl, hx, hb, hml, hown, hts, hK, -⟩ := X
  obtain ⟨n, e1, -⟩ := fl_get cs i j ch _ h1 h2
  exact fun H locs la hP hD hS hl => va_get hx hb hts B.2.1 hown hK hP n e1 B.1 f hf (hts _ hq) (fun x h9 => by rw [← hr]; exact h9) hv d (h H locs la hP hD hS hl)
theorem g_getN {a ci idx N : Nat} {ch : va_W} {fs : List Value} {C ref host : String} {T : u_T} {ty : Nat → FieldType} {x : Value} (X : CX k l v cc own R nL) (B : CB ci C T N ty) (f : Nat) (g : Nat) (hq : nfL[g]? = some (own, idx, ref, (T f).2.1, (T f).2.2.1, host)) (d : decode cc pc = .ok (.getfield idx, 3)) (i j : Nat) (h1 : cs[i]? = some ch) (h2 : ch[j]? = some (a, .inr (ci, fs))) (hf : f < N) (hr : (T f).1 = ref) (hv : fs[f]? = some x) (h : GG k ce sl cs lv (pc + 3) (x :: st)) : GG k ce sl cs lv pc (.ref a :: st) := by
  obtain ⟨⟨p, l, e, R, s⟩, ⟨m, args, below, meth, c⟩, A, Q, v, nL⟩ := k
  obtain ⟨rfl, rfl, rfl, rfl, hx, hb, hml, hown, hts, hK, -, hse, -⟩ := X
  obtain ⟨n, e1, -⟩ := fl_get cs i j ch _ h1 h2
  exact fun H locs la hP hD hS hl => va_getN hx hb hts B.2.1 hown hK hP n e1 B.1 f hf (va_Nw.use rfl (hse.1.1 _ (List.mem_of_getElem? hq))) (fun x h9 => by rw [← hr]; exact h9) hv d (h H locs la hP hD hS hl)
theorem g_put {a ci idx N : Nat} {ch : va_W} {cs' : List va_W} {fs : List Value} {C ref : String} {T : u_T} {ty : Nat → FieldType} {x : Value} (X : CX k l v cc own R nL) (B : CB ci C T N ty) (f : Nat) (hq : (Cond.fieldLink own idx ref (T f).2.1 (T f).2.2.1) ∈ wsL_law) (d : decode cc pc = .ok (.putfield idx, 3)) (i j : Nat) (h1 : cs[i]? = some ch) (h2 : ch[j]? = some (a, .inr (ci, fs))) (hf : f < N) (hr : (T f).1 = ref) (hfin : (T f).2.2.2 = false) (hn : narrow (ty f) x = x) (hfit : fits (ty f) x = true) (hl : f < fs.length) (hcs : cs.set i (ch.set j (a, .inr (ci, fs.set f x))) = cs') (h : GG k ce sl cs' lv (pc + 3) st) : GG k ce sl cs lv pc (x :: .ref a :: st) := by
  obtain ⟨⟨p, l, e, R, s⟩, ⟨m, args, below, meth, c⟩, A, Q, v, nL⟩ := k
  obtain ⟨rfl, rfl, rfl, rfl, hx, hb, hml, hown, hts, hK, -⟩ := X
  obtain ⟨n, e1, e2⟩ := fl_get cs i j ch _ h1 h2
  subst hcs
  intro H locs la hP hD hS hla
  refine va_put hx hb hts B.2.1 ty B.2.2.1 B.2.2.2 hown hK hP hD hS n e1 B.1 f hf (hts _ hq) (fun x h9 => by rw [← hr]; exact h9) hfin (B.2.2.1 f hf) hn hfit hl d (fun H locs hP hD hS => ?_)
  rw [e2] at hP hD
  exact h H locs la hP hD hS hla
theorem g_putF {a ci idx N : Nat} {ch : va_W} {cs' : List va_W} {fs : List Value} {C ref : String} {T : u_T} {ty : Nat → FieldType} {x : Value} (X : CX k l v cc own R nL) (hi : k.2.1.2.2.2.1.name = "<init>") (B : CB ci C T N ty) (f : Nat) (hq : (Cond.fieldLink own idx ref (T f).2.1 (T f).2.2.1) ∈ wsL_law) (d : decode cc pc = .ok (.putfield idx, 3)) (i j : Nat) (h1 : cs[i]? = some ch) (h2 : ch[j]? = some (a, .inr (ci, fs))) (hf : f < N) (hr : (T f).1 = ref) (ho : (T f).1 = own) (hfin : (T f).2.2.2 = true) (hn : narrow (ty f) x = x) (hfit : fits (ty f) x = true) (hl : f < fs.length) (hcs : cs.set i (ch.set j (a, .inr (ci, fs.set f x))) = cs') (h : GG k ce sl cs' lv (pc + 3) st) : GG k ce sl cs lv pc (x :: .ref a :: st) := by
  obtain ⟨⟨p, l, e, R, s⟩, ⟨m, args, below, meth, c⟩, A, Q, v, nL⟩ := k
  obtain ⟨rfl, rfl, rfl, rfl, hx, hb, hml, hown, hts, hK, -⟩ := X
  obtain ⟨n, e1, e2⟩ := fl_get cs i j ch _ h1 h2
  subst hcs
  intro H locs la hP hD hS hla
  refine va_putF hx hb hts B.2.1 ty B.2.2.1 B.2.2.2 hown hK hP hD hS n e1 B.1 f hf (hts _ hq) (fun x h9 => by rw [← hr]; exact h9) hfin hi ho (B.2.2.1 f hf) hn hfit hl d (fun H locs hP hD hS => ?_)
  rw [e2] at hP hD
  exact h H locs la hP hD hS hla
theorem g_iald {a n e : Nat} {ch : va_W} {f : Nat → Int32} (X : CX k l v cc own R nL) (d : decode cc pc = .ok (.iaload, 1)) (i j : Nat) (h1 : cs[i]? = some ch) (h2 : ch[j]? = some (a, .inl (v.2.1 0, n, .inl f))) (he : e < n) (hn : n < 2147483648) (h : GG k ce sl cs lv (pc + 1) (.int (f e) :: st)) : GG k ce sl cs lv pc (.int (nI e) :: .ref a :: st) := by
  obtain ⟨⟨p, l, e', R, s⟩, ⟨m, args, below, meth, c⟩, A, Q, v, nL⟩ := k
  obtain ⟨rfl, rfl, rfl, rfl, hx, hb, hml, hown, hts, hK, -⟩ := X
  obtain ⟨n', e1, -⟩ := fl_get cs i j ch _ h1 h2
  exact fun H locs la hP hD hS hl => va_iald hx hb hK hP n' 0 e1 rfl (vp_in_nI he hn) d (by rw [nI_clamp (Nat.lt_trans he hn)]; exact h H locs la hP hD hS hl)
theorem g_cald {a n e : Nat} {ch : va_W} {f : Nat → Int32} (X : CX k l v cc own R nL) (d : decode cc pc = .ok (.caload, 1)) (i j : Nat) (h1 : cs[i]? = some ch) (h2 : ch[j]? = some (a, .inl (v.2.1 3, n, .inl f))) (he : e < n) (hn : n < 2147483648) (h : GG k ce sl cs lv (pc + 1) (.int (f e) :: st)) : GG k ce sl cs lv pc (.int (nI e) :: .ref a :: st) := by
  obtain ⟨⟨p, l, e', R, s⟩, ⟨m, args, below, meth, c⟩, A, Q, v, nL⟩ := k
  obtain ⟨rfl, rfl, rfl, rfl, hx, hb, hml, hown, hts, hK, -⟩ := X
  obtain ⟨n', e1, -⟩ := fl_get cs i j ch _ h1 h2
  exact fun H locs la hP hD hS hl => va_cald hx hb hK hP n' 3 e1 rfl (vp_in_nI he hn) d (by rw [nI_clamp (Nat.lt_trans he hn)]; exact h H locs la hP hD hS hl)
theorem g_lald {a n e : Nat} {ch : va_W} {f : Nat → Int64} (X : CX k l v cc own R nL) (d : decode cc pc = .ok (.laload, 1)) (i j : Nat) (h1 : cs[i]? = some ch) (h2 : ch[j]? = some (a, .inl (v.2.1 1, n, .inr (.inl f)))) (he : e < n) (hn : n < 2147483648) (h : GG k ce sl cs lv (pc + 1) (.long (f e) :: st)) : GG k ce sl cs lv pc (.int (nI e) :: .ref a :: st) := by
  obtain ⟨⟨p, l, e', R, s⟩, ⟨m, args, below, meth, c⟩, A, Q, v, nL⟩ := k
  obtain ⟨rfl, rfl, rfl, rfl, hx, hb, hml, hown, hts, hK, -⟩ := X
  obtain ⟨n', e1, -⟩ := fl_get cs i j ch _ h1 h2
  exact fun H locs la hP hD hS hl => va_lald hx hb hK hP n' 1 e1 rfl (vp_in_nI he hn) d (by rw [nI_clamp (Nat.lt_trans he hn)]; exact h H locs la hP hD hS hl)
theorem g_aald (t : Nat) {C : String} {a n e : Nat} {ch : va_W} {f : Nat → Option Nat} (X : CX k l v cc own R nL) (d : decode cc pc = .ok (.aaload, 1)) (i j : Nat) (h1 : cs[i]? = some ch) (h2 : ch[j]? = some (a, .inl (v.2.1 t, n, .inr (.inr (.inr (.inr f)))))) (ht : (tyL v.2.1)[t]? = some (v.2.1 t, .object C)) (he : e < n) (hn : n < 2147483648) (h : GG k ce sl cs lv (pc + 1) (va_rf (f e) :: st)) : GG k ce sl cs lv pc (.int (nI e) :: .ref a :: st) := by
  obtain ⟨⟨p, l, e', R, s⟩, ⟨m, args, below, meth, c⟩, A, Q, v, nL⟩ := k
  obtain ⟨rfl, rfl, rfl, rfl, hx, hb, hml, hown, hts, hK, -⟩ := X
  obtain ⟨n', e1, -⟩ := fl_get cs i j ch _ h1 h2
  exact fun H locs la hP hD hS hl => va_aldq hx hb hK hP n' t e1 ht (vp_in_nI he hn) d (by rw [nI_clamp (Nat.lt_trans he hn)]; exact h H locs la hP hD hS hl)
theorem g_alen {a : Nat} {n : Nat} (t : Nat) {ty : FieldType} {ch : va_W} {x : vp_A} (X : CX k l v cc own R nL) (d : decode cc pc = .ok (.arraylength, 1)) (i j : Nat) (h1 : cs[i]? = some ch) (h2 : ch[j]? = some (a, .inl (v.2.1 t, x))) (ht : (tyL v.2.1)[t]? = some (v.2.1 t, ty)) (hn : x.1 = n) (h : GG k ce sl cs lv (pc + 1) (.int (nI n) :: st)) : GG k ce sl cs lv pc (.ref a :: st) := by
  obtain ⟨⟨p, l, e', R, s⟩, ⟨m, args, below, meth, c⟩, A, Q, v, nL⟩ := k
  obtain ⟨rfl, rfl, rfl, rfl, hx, hb, hml, hown, hts, hK, -⟩ := X
  obtain ⟨n', e1, -⟩ := fl_get cs i j ch _ h1 h2
  exact fun H locs la hP hD hS hl => va_alen hx hb hK hP n' t e1 ht (by rw [hn]; rfl) d (h H locs la hP hD hS hl)
theorem g_iast {a n e : Nat} {x : Int32} {ch : va_W} {cs' : List va_W} {f : Nat → Int32} (X : CX k l v cc own R nL) (d : decode cc pc = .ok (.iastore, 1)) (i j : Nat) (h1 : cs[i]? = some ch) (h2 : ch[j]? = some (a, .inl (v.2.1 0, n, .inl f))) (he : e < n) (hn : n < 2147483648) (hcs : cs.set i (ch.set j (a, .inl (v.2.1 0, n, .inl (upd f e x)))) = cs') (h : GG k ce sl cs' lv (pc + 1) st) : GG k ce sl cs lv pc (.int x :: .int (nI e) :: .ref a :: st) := by
  obtain ⟨⟨p, l, e', R, s⟩, ⟨m, args, below, meth, c⟩, A, Q, v, nL⟩ := k
  obtain ⟨rfl, rfl, rfl, rfl, hx, hb, hml, hown, hts, hK, -⟩ := X
  obtain ⟨n', e1, e2⟩ := fl_get cs i j ch _ h1 h2
  subst hcs
  intro H locs la hP hD hS hla
  refine va_iast hx hb hK hP hD hS n' 0 e1 rfl (vp_in_nI he hn) d (fun H locs hP hD hS => ?_)
  rw [nI_clamp (Nat.lt_trans he hn), e2] at hP hD
  exact h H locs la hP hD hS hla
theorem g_cast {a n e : Nat} {x : Int32} {ch : va_W} {cs' : List va_W} {f : Nat → Int32} (X : CX k l v cc own R nL) (d : decode cc pc = .ok (.castore, 1)) (i j : Nat) (h1 : cs[i]? = some ch) (h2 : ch[j]? = some (a, .inl (v.2.1 3, n, .inl f))) (he : e < n) (hn : n < 2147483648) (hv : vp_nar .char x = x) (hcs : cs.set i (ch.set j (a, .inl (v.2.1 3, n, .inl (upd f e x)))) = cs') (h : GG k ce sl cs' lv (pc + 1) st) : GG k ce sl cs lv pc (.int x :: .int (nI e) :: .ref a :: st) := by
  obtain ⟨⟨p, l, e', R, s⟩, ⟨m, args, below, meth, c⟩, A, Q, v, nL⟩ := k
  obtain ⟨rfl, rfl, rfl, rfl, hx, hb, hml, hown, hts, hK, -⟩ := X
  obtain ⟨n', e1, e2⟩ := fl_get cs i j ch _ h1 h2
  subst hcs
  intro H locs la hP hD hS hla
  refine va_cast hx hb hK hP hD hS n' 3 e1 rfl (vp_in_nI he hn) d (fun H locs hP hD hS => ?_)
  rw [hv, nI_clamp (Nat.lt_trans he hn), e2] at hP hD
  exact h H locs la hP hD hS hla
theorem g_last {a n e : Nat} {x : Int64} {ch : va_W} {cs' : List va_W} {f : Nat → Int64} (X : CX k l v cc own R nL) (d : decode cc pc = .ok (.lastore, 1)) (i j : Nat) (h1 : cs[i]? = some ch) (h2 : ch[j]? = some (a, .inl (v.2.1 1, n, .inr (.inl f)))) (he : e < n) (hn : n < 2147483648) (hcs : cs.set i (ch.set j (a, .inl (v.2.1 1, n, .inr (.inl (vp_updL f e x))))) = cs') (h : GG k ce sl cs' lv (pc + 1) st) : GG k ce sl cs lv pc (.long x :: .int (nI e) :: .ref a :: st) := by
  obtain ⟨⟨p, l, e', R, s⟩, ⟨m, args, below, meth, c⟩, A, Q, v, nL⟩ := k
  obtain ⟨rfl, rfl, rfl, rfl, hx, hb, hml, hown, hts, hK, -⟩ := X
  obtain ⟨n', e1, e2⟩ := fl_get cs i j ch _ h1 h2
  subst hcs
  intro H locs la hP hD hS hla
  refine va_last hx hb hK hP hD hS n' 1 e1 rfl (vp_in_nI he hn) d (fun H locs hP hD hS => ?_)
  rw [nI_clamp (Nat.lt_trans he hn), e2] at hP hD
  exact h H locs la hP hD hS hla
theorem g_new {ci idx N : Nat} {fs : List Value} {C : String} {T : u_T} {ty : Nat → FieldType} (X : CX k l v cc own R nL) (B : CB ci C T N ty) (q1 : (Cond.classLink own idx C) ∈ wsL_law) (q2 : (Cond.instantiable C N) ∈ wsL_law) (q3 : (Cond.initialized C) ∈ wsL_law) (d : decode cc pc = .ok (.new idx, 3)) (hfs : ∀ j, j < N → defaultValue (ty j) = vp_V fs j) (hc : ce + 1 ≤ R.cells) (hs : sl + N ≤ R.slots) (h : ∀ q, GG k (ce + 1) (sl + N) (cs ++ [[(q, .inr (ci, fs))]]) lv (pc + 3) (.ref q :: st)) : GG k ce sl cs lv pc st := by
  obtain ⟨⟨p, l, e', R, s⟩, ⟨m, args, below, meth, c⟩, A, Q, v, nL⟩ := k
  obtain ⟨rfl, rfl, rfl, rfl, hx, hb, hml, hown, hts, hK, hA, -⟩ := X
  intro H locs la hP hD hS hla
  refine va_new hx hb hts B.2.1 ty B.2.2.1 hown (hts _ q1) (hts _ q2) (hts _ q3) hK hP hD hS hA B.1 hfs hc hs d (fun q H hP hD hS => ?_)
  rw [← fl_snoc] at hP hD
  exact h q H locs la hP hD hS hla
theorem va_RA_eq {s : State} {c1 c2 : ClassId} {ty : FieldType} (h1 : va_RA s c1 ty) (h2 : va_RA s c2 ty) : c1 = c2 := by
  have e : ∀ c, va_RA s c ty → s.vm.findClass ("[" ++ ty.toString) = some c := by
    intro c h
    cases ty with
    | object C => exact h.choose_spec.choose_spec.2.2.2
    | _ => exact h
  exact Option.some.inj ((e _ h1).symm.trans (e _ h2))
theorem g_newa (t : Nat) {N : Nat} {atype : ArrayType} {ty : FieldType} {a0 : vp_A} (X : CX k l v cc own R nL) (q1 : (Cond.arrayClass (newarray.typeOf atype)) ∈ wsL_law) (hty : newarray.typeOf atype = ty) (d : decode cc pc = .ok (.newarray atype, 2)) (ht : (tyL v.2.1)[t]? = some (v.2.1 t, ty)) (ha : ∀ cA : ClassId, vp_cell cA a0 = arrV cA N (fun _ => defaultValue ty)) (hN : N < 2147483648) (hbytes : N * componentBytes ty ≤ 536870912) (hc : ce + 1 ≤ R.cells) (hs : sl + N ≤ R.slots) (h : ∀ q, GG k (ce + 1) (sl + N) (cs ++ [[(q, .inl (v.2.1 t, a0))]]) lv (pc + 2) (.ref q :: st)) : GG k ce sl cs lv pc (.int (nI N) :: st) := by
  obtain ⟨⟨p, l, e', R, s⟩, ⟨m, args, below, meth, c⟩, A, Q, v, nL⟩ := k
  obtain ⟨rfl, rfl, rfl, rfl, hx, hb, hml, hown, hts, hK, hA, -⟩ := X
  intro H locs la hP hD hS hla
  refine va_newa hx hb (hts _ q1) hty hK hP hD hS hA ha (nI_pos hN) (nI_clamp hN) hbytes hc hs d (fun q cA H hK' hP hD hS => ?_)
  have e : cA = v.2.1 t := va_RA_eq ((hK'.2 (tyL v.2.1).length (cA, ty) (by simp)).2) (hK.2 t _ ht).2
  subst e
  rw [← fl_snoc] at hP hD
  exact h q H locs la hP hD hS hla
theorem g_newq (t idx : Nat) {N : Nat} {C : String} (X : CX k l v cc own R nL) (q1 : (Cond.classLink own idx C) ∈ wsL_law) (hC : C = RX3 ∧ t = 4 ∨ C = RX0 ∧ t = 5) (d : decode cc pc = .ok (.anewarray idx, 3)) (hN : N < 2147483648) (hbytes : N * 4 ≤ 536870912) (hc : ce + 1 ≤ R.cells) (hs : sl + N ≤ R.slots) (h : ∀ q, GG k (ce + 1) (sl + N) (cs ++ [[(q, .inl (v.2.1 t, N, .inr (.inr (.inr (.inr (fun _ => none))))))]]) lv (pc + 3) (.ref q :: st)) : GG k ce sl cs lv pc (.int (nI N) :: st) := by
  obtain ⟨⟨p, l, e', R, s⟩, ⟨m, args, below, meth, c⟩, A, Q, v, nL⟩ := k
  obtain ⟨rfl, rfl, rfl, rfl, hx, hb, hml, hown, hts, hK, hA, hse, hlk⟩ := X
  intro H locs la hP hD hS hla
  have ht : (tyL v.2.1)[t]? = some (v.2.1 t, .object C) := by rcases hC with ⟨rfl, rfl⟩ | ⟨rfl, rfl⟩ <;> rfl
  have ho : va_AO C s := hC.elim (fun z => z.1 ▸ hse.1.2.2.2.2.2.2.1) (fun z => z.1 ▸ hse.1.2.2.2.2.2.2.2)
  refine va_newq hx hb hown (hts _ q1) ho hK hP hD hS hA (nI_pos hN) (nI_clamp hN) hbytes hc hs d (fun q cA H hK' hP hD hS => ?_)
  have e : cA = v.2.1 t := va_RA_eq ((hK'.2 (tyL v.2.1).length (cA, .object C) (by simp)).2) (hK.2 t _ ht).2
  subst e
  rw [← fl_snoc] at hP hD
  exact h q H locs la hP hD hS hla
theorem g_astq (t : Nat) {a n e b ci ix : Nat} {C : String} {fs : List Value} {T : u_T} {ty : Nat → FieldType} {ch ch2 : va_W} {cs' : List va_W} {f : Nat → Option Nat} (X : CX k l v cc own R nL) (B : CB ci C T ix ty) (ht : (tyL v.2.1)[t]? = some (v.2.1 t, .object C)) (d : decode cc pc = .ok (.aastore, 1)) (i j i2 j2 : Nat) (h1 : cs[i]? = some ch) (h2 : ch[j]? = some (a, .inl (v.2.1 t, n, .inr (.inr (.inr (.inr f)))))) (h3 : cs[i2]? = some ch2) (h4 : ch2[j2]? = some (b, .inr (ci, fs))) (he : e < n) (hn : n < 2147483648) (hcs : cs.set i (ch.set j (a, .inl (v.2.1 t, n, .inr (.inr (.inr (.inr (va_up f e (some b)))))))) = cs') (h : GG k ce sl cs' lv (pc + 1) st) : GG k ce sl cs lv pc (.ref b :: .int (nI e) :: .ref a :: st) := by
  obtain ⟨⟨p, l, e', R, s⟩, ⟨m, args, below, meth, c⟩, A, Q, v, nL⟩ := k
  obtain ⟨rfl, rfl, rfl, rfl, hx, hb, hml, hown, hts, hK, -⟩ := X
  obtain ⟨n', e1, e2⟩ := fl_get cs i j ch _ h1 h2
  obtain ⟨n2, e3, -⟩ := fl_get cs i2 j2 ch2 _ h3 h4
  subst hcs
  intro H locs la hP hD hS hla
  refine va_astq hx hb hK hP hD hS n' t n2 ci e1 (by first | exact ht | (rw [ht]; rfl)) e3 B.1 (vp_in_nI he hn) d (fun H locs hP hD hS => ?_)
  rw [nI_clamp (Nat.lt_trans he hn), e2] at hP hD
  exact h H locs la hP hD hS hla
end HEAPROWS

