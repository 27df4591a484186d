/-! ## contracts and calls -/
def BB (v : VV) (wc : List va_W) (sz : Nat) (U : State) : Prop := U.heap.size = sz ∧ va_P v.1 vwCl wc.flatten U.heap ∧ va_K v.1 vwCl (tyL v.2.1) U ∧ va_D (fun _ => True) wc.flatten ∧ SE v (va_A wc.flatten sz) U U.heap
def PB (v : VV) (A : Nat → Prop) (w : List va_W) (t : State) : Prop := va_P v.1 vwCl w.flatten t.heap ∧ va_D A w.flatten
def Qg {ρ S : Type} (vl : ρ → Option Value) (post : ρ → S → Prop) (B : S → State → Prop) (A : Nat → Prop) : Array Value → State → Outcome → State → Prop := fun _ st oc t => (∃ (r : ρ) (u : S), oc = .returned (vl r) ∧ post r u ∧ B u t) ∧ va_F A st t
def MM {ρ : Type} (vl : ρ → Option Value) (l : Launch) (v : VV) (y : MethodName) (cc : ByteArray) (maxL : Nat) (ret : Option FieldType) (rm : Room) (av : List Value) (wc : List va_W) (post : ρ → List va_W → Prop) (mc ms : Nat) : Prop :=
  ∀ sz : Nat, Met l y (Cond.code y cc maxL ret :: wsL_law) rm (va_Pc av (BB v wc sz)) (Qg vl post (fun w t => PB v (va_A wc.flatten sz) w t) (va_A wc.flatten sz)) mc ms (va_A wc.flatten sz)
abbrev vI : Int32 → Option Value := fun r => some (.int r)
abbrev vL : Int64 → Option Value := fun r => some (.long r)
abbrev vU : Unit → Option Value := fun _ => none
abbrev MI := @MM Int32 vI
abbrev ML := @MM Int64 vL
abbrev MU := @MM Unit vU
theorem bb_blind {v : VV} {av : List Value} {wc : List va_W} {sz : Nat} : FrameBlind (va_Pc av (BB v wc sz)) := by
  intro a U g mk q
  obtain ⟨q0, q1, qP, qK, qD, qS⟩ := q
  exact ⟨q0, q1, qP, va_K.moved (u := U) (U := U.calling g mk a) (Vm.Alike.refl U.vm) qK, qD, qS.calling⟩
theorem va_callg {ρ S : Type} {vl : ρ → Option Value} {p : Program} {l : Launch} {e : Env} {R : Room} {s : State} {m : MethodId} {args : Array Value} {below : List Frame} {meth : Method} {c : Code} {H : Heap} {locs : List Loc} {cells slots : Nat} {Q : State → Prop} {pc : Nat} {ls : Array Slot} {rest st0 : List Value} {a : Array Value} {A0 A1 : Nat → Prop} {H0 : Heap} {mc ms : Nat} {free : Addr → Prop} {post : ρ → S → Prop} {B : S → State → Prop}
    (hr : va_Run p l e R s m args below meth c H locs cells slots mc ms (F0 m pc ls st0) rest (Qg vl post B A1 a) free) (hS : va_S A0 H0 H locs) (hA : ∀ q, q < H.size → A1 q → A0 q) (hf : ∀ q, free q → A0 q)
    (kk : ∀ (r : ρ) (u : S) (t : State) (H1 : Heap) (locs1 : List Loc), t.heap = H1 → post r u → B u t → (∀ q : Nat, q < H.size → ¬ A1 q → H1[q]? = H[q]?) → va_S A0 H0 H1 locs1 → W p l e R s m args below meth c H1 locs1 (cells + mc) (slots + ms) Q (F0 m (pc + 3) ls ((vl r).toList ++ rest))) : W p l e R s m args below meth c H locs cells slots Q (F0 m pc ls st0) := by
  intro T hT X
  obtain ⟨v, st₀, t, T', L, h0, X', hL, e1, e2, ⟨⟨r, u, hv, hp, hb⟩, hz, hk⟩, st⟩ := hr T hT X
  cases hv
  rw [h0] at hz hk
  obtain ⟨t2, a1, b1⟩ := kk r u t T'.heap (locs ++ L) e1.symm hp hb (fun q h1 h2 => by rw [e1]; exact hk q h1 h2)
    ⟨Nat.le_trans hS.1 (by rw [e1]; exact hz), fun q h1 h2 => by rw [e1, hk q (Nat.lt_of_lt_of_le h1 hS.1) (fun z => h2 (hA q (Nat.lt_of_lt_of_le h1 hS.1) z))]; exact hS.2.1 q h1 h2, fun q hq => by
      rcases List.mem_append.mp hq with h | h
      · exact hS.2.2 q h
      · exact hf _ (hL q h)⟩ T' rfl X'
  exact ⟨t2, st t2 a1, b1⟩
/-- facts of a method's name: instance, static, constructor -/
def MF0 (y : MethodName) (cc : ByteArray) (maxL : Nat) (ret : Option FieldType) (n : Nat) : Prop := (y.cls ≠ "java/lang/invoke/MethodHandle" ∧ y.cls ≠ "java/lang/invoke/VarHandle" ∧ (parseMethodDescriptor y.desc).map (fun d => d.parameters.length) = some n) ∧ Cond.code y cc maxL ret ∈ wsL_law ∧ Cond.initialized y.cls ∈ wsL_law
def MFv (y : MethodName) (cc : ByteArray) (maxL : Nat) (ret : Option FieldType) (C : String) (n : Nat) : Prop := MF0 y cc maxL ret n ∧ y.cls = C ∧ Cond.instanceMethod y ∈ wsL_law ∧ Cond.selects C y y ∈ wsL_law
def MFs (y : MethodName) (cc : ByteArray) (maxL : Nat) (ret : Option FieldType) (n : Nat) : Prop := MF0 y cc maxL ret n ∧ Cond.static y ∈ wsL_law
def MFi (y : MethodName) (cc : ByteArray) (maxL : Nat) (n : Nat) : Prop := MF0 y cc maxL none n ∧ y.name = "<init>" ∧ Cond.instanceMethod y ∈ wsL_law
theorem gd_of {c0 : Cond} {ws : List Cond} (h : ∀ w ∈ ws, w ∈ wsL_law) : GoodIn (c0 :: wsL_law) ws := fun w hw => ⟨List.mem_cons_of_mem _ (h w hw), good_of_word (List.all_eq_true.mp qL_good w (h w hw))⟩
theorem gd_of0 {ws : List Cond} (h : ∀ w ∈ ws, w ∈ wsL_law) : GoodIn wsL_law ws := fun w hw => ⟨h w hw, good_of_word (List.all_eq_true.mp qL_good w (h w hw))⟩
theorem in_cons {c : Cond} (h : c ∈ wsL_law) : ∀ w ∈ c :: wsL_law, w ∈ wsL_law := fun w hw => (List.mem_cons.mp hw).elim (fun e => e ▸ h) id
abbrev RmOk (rm R : Room) (maxL mc ms ce sl : Nat) : Prop := rm.cells = mc ∧ rm.slots = ms ∧ rm.frames + 1 ≤ R.frames ∧ 8 + (maxL + 11) + rm.locals ≤ R.locals ∧ ce + mc ≤ R.cells ∧ sl + ms ≤ R.slots
/-- what a callee needs of the world, out of the caller's -/
theorem pre_of {v : VV} {A : Nat → Prop} {s : State} {H : Heap} {locs : List Loc} {wc : List va_W} {U : State} (hK : va_K v.1 vwCl (tyL v.2.1) s) (hse : SE v A s s.heap) (hS : va_S A s.heap H locs) (hF : ∀ q, va_A wc.flatten H.size q → A q) (hP : va_P v.1 vwCl wc.flatten H) (hD : va_D A wc.flatten) (hU : U.heap = H) (hW : s.WarmedH U.vm) : BB v wc H.size U := by
  refine ⟨by rw [hU], by rw [hU]; exact hP, va_K.moved hW.alike hK, hD.weaken (fun _ _ _ _ => trivial), ?_⟩
  rw [hU]
  exact SE.warm hW ((SE.kept hse (fun a h1 h2 => hS.2.1 a h1 h2)).narrow hF)
section CALLROWS
variable {k : KX} {l : Launch} {v : VV} {cc : ByteArray} {own : String} {R : Room} {nL ce sl pc : Nat} {cs : List va_W} {lv : List (Nat × Value)} {st : List Value}
theorem g_callV {ρ : Type} {vl : ρ → Option Value} {y : MethodName} {bytes : ByteArray} {maxL n mc ms idx b ci : Nat} {ret : Option FieldType} {C : String} {rm : Room} {As rest : List Value} {wc wr : List va_W} {post : ρ → List va_W → Prop} {fs : List Value}
    (X : CX k l v cc own R nL) (hM : MM vl l v y bytes maxL ret rm (.ref b :: As) wc post mc ms) (F : MFv y bytes maxL ret C n) (hl : Cond.methodLink own idx y ∈ wsL_law) (d : decode cc pc = .ok (.invokevirtual idx, 3))
    (isC isR : List Nat) (hC : isC.map (fun i => cs[i]?) = wc.map some) (hR : isR.map (fun i => cs[i]?) = wr.map some) (hn : va_nd (isC ++ isR) = true) (q : Nat) (hq : wc.flatten[q]? = some (b, .inr (ci, fs))) (hc : (vwCl[ci]?).map (fun x => x.1) = some C) (hlen : As.length = n) (hst : st = As.reverse ++ .ref b :: rest) (hW : (rest.map fun v => v.category).sum ≤ 8) (hrm : RmOk rm R maxL mc ms ce sl)
    (h : ∀ r w1, post r w1 → GG k (ce + mc) (sl + ms) (w1 ++ wr) lv (pc + 3) ((vl r).toList ++ rest)) : GG k ce sl cs lv pc st := by
  obtain ⟨⟨p, l, e', R, s⟩, ⟨m, args, below, meth, c⟩, A, Q, v, nL⟩ := k
  obtain ⟨rfl, rfl, rfl, rfl, hx, hb, hml, hown, hts, hK, hA, hse, hlk⟩ := X
  subst hst
  intro H locs la hP hD hS hla
  have hCR : (isC ++ isR).map (fun i => cs[i]?) = (wc ++ wr).map some := by rw [List.map_append, List.map_append, hC, hR]
  have hP2 := ck_P hP hCR
  have hD2 := ck_D hD hn hCR
  have hPc : va_P v.1 vwCl wc.flatten H := ck_P hP hC
  have hDc : va_D A wc.flatten := va_D_iff.mpr ⟨by have := (va_D_iff.mp hD2).1; rw [List.flatten_append, List.pairwise_append] at this; exact this.1, fun x hx => (va_D_iff.mp hD2).2 x (by rw [List.flatten_append]; exact List.mem_append_left _ hx)⟩
  have hFc := ck_free hD2 hS hA
  obtain ⟨⟨hd, hcw, hini⟩, hcls, hins, hsel⟩ := F
  subst hcls
  have hsub : ∀ w ∈ wsV own idx y.cls y (Cond.code y bytes maxL ret :: wsL_law), w ∈ wsL_law := by
    intro w hw
    simp only [wsV, List.mem_append, List.mem_cons, List.not_mem_nil, or_false] at hw
    rcases hw with (rfl | rfl | rfl | rfl) | rfl | hw
    · exact hl
    · exact hins
    · exact hsel
    · exact hini
    · exact hcw
    · exact hw
  obtain ⟨h1, h2, h3, h4, h5, h6⟩ := hrm
  cases hv9 : vwCl[ci]? with
  | none => rw [hv9] at hc; cases hc
  | some x9 =>
    rw [hv9] at hc
    have e9 : x9.1 = y.cls := Option.some.inj hc
    refine va_callg (va_runV (As := As) (rest := rest) ⟨hx, hb, hml, hown, hts⟩ (hM H.size) (cwV n hts (gd_of0 hsub) rfl h1 h2 ⟨rfl, hd⟩ ⟨h3, h4⟩) ⟨bb_blind, by rw [← e9]; exact va_recv hK hPc hv9 hq, fun U hU hW => ⟨rfl, pre_of hK hse hS hFc hPc hDc hU hW⟩⟩ rfl hlen hla.1 rfl (lv_room hW) d ⟨h5, h6⟩) hS (fun q _ h => hFc q h) hFc (fun r w1 t H1 locs ht hp hB hk hS => ?_)
    obtain ⟨hP1, hD1⟩ := hB
    rw [ht] at hP1
    obtain ⟨hP3, hD3⟩ := ck_join hP2 hD2 hk hFc hP1 hD1
    exact h r w1 hp H1 locs la hP3 hD3 hS hla
theorem g_callS {ρ : Type} {vl : ρ → Option Value} {y : MethodName} {bytes : ByteArray} {maxL n mc ms idx : Nat} {ret : Option FieldType} {rm : Room} {As rest : List Value} {wc wr : List va_W} {post : ρ → List va_W → Prop}
    (X : CX k l v cc own R nL) (hM : MM vl l v y bytes maxL ret rm As wc post mc ms) (F : MFs y bytes maxL ret n) (hl : Cond.methodLink own idx y ∈ wsL_law) (d : decode cc pc = .ok (.invokestatic idx, 3))
    (isC isR : List Nat) (hC : isC.map (fun i => cs[i]?) = wc.map some) (hR : isR.map (fun i => cs[i]?) = wr.map some) (hn : va_nd (isC ++ isR) = true) (hlen : As.length = n) (hst : st = As.reverse ++ rest) (hW : (rest.map fun v => v.category).sum ≤ 8) (hrm : RmOk rm R maxL mc ms ce sl)
    (h : ∀ r w1, post r w1 → GG k (ce + mc) (sl + ms) (w1 ++ wr) lv (pc + 3) ((vl r).toList ++ rest)) : GG k ce sl cs lv pc st := by
  obtain ⟨⟨p, l, e', R, s⟩, ⟨m, args, below, meth, c⟩, A, Q, v, nL⟩ := k
  obtain ⟨rfl, rfl, rfl, rfl, hx, hb, hml, hown, hts, hK, hA, hse, hlk⟩ := X
  subst hst
  intro H locs la hP hD hS hla
  have hCR : (isC ++ isR).map (fun i => cs[i]?) = (wc ++ wr).map some := by rw [List.map_append, List.map_append, hC, hR]
  have hP2 := ck_P hP hCR
  have hD2 := ck_D hD hn hCR
  have hPc : va_P v.1 vwCl wc.flatten H := ck_P hP hC
  have hDc : va_D A wc.flatten := va_D_iff.mpr ⟨by have := (va_D_iff.mp hD2).1; rw [List.flatten_append, List.pairwise_append] at this; exact this.1, fun x hx => (va_D_iff.mp hD2).2 x (by rw [List.flatten_append]; exact List.mem_append_left _ hx)⟩
  have hFc := ck_free hD2 hS hA
  obtain ⟨⟨hd, hcw, hini⟩, hsta⟩ := F
  have hsub : ∀ w ∈ va_wsS own idx y (Cond.code y bytes maxL ret :: wsL_law), w ∈ wsL_law := by
    intro w hw
    simp only [va_wsS, List.mem_append, List.mem_cons, List.not_mem_nil, or_false] at hw
    rcases hw with (rfl | rfl | rfl) | rfl | hw
    · exact hl
    · exact hsta
    · exact hini
    · exact hcw
    · exact hw
  obtain ⟨h1, h2, h3, h4, h5, h6⟩ := hrm
  refine va_callg (va_runS (As := As) (rest := rest) ⟨hx, hb, hml, hown, hts⟩ (hM H.size) (va_cwS n hts (gd_of0 hsub) rfl h1 h2 hd ⟨h3, h4⟩) ⟨bb_blind, fun U hU hW => ⟨rfl, pre_of hK hse hS hFc hPc hDc hU hW⟩⟩ rfl hlen hla.1 rfl (lv_room hW) d ⟨h5, h6⟩) hS (fun q _ h => hFc q h) hFc (fun r w1 t H1 locs ht hp hB hk hS => ?_)
  obtain ⟨hP1, hD1⟩ := hB
  rw [ht] at hP1
  obtain ⟨hP3, hD3⟩ := ck_join hP2 hD2 hk hFc hP1 hD1
  exact h r w1 hp H1 locs la hP3 hD3 hS hla
theorem g_callSN {ρ : Type} {vl : ρ → Option Value} {y : MethodName} {bytes : ByteArray} {maxL n mc ms idx : Nat} {host : String} {ret : Option FieldType} {rm : Room} {As rest : List Value} {wc wr : List va_W} {post : ρ → List va_W → Prop}
    (X : CX k l v cc own R nL) (hM : MM vl l v y bytes maxL ret rm As wc post mc ms) (F : MFs y bytes maxL ret n) (g : Nat) (hl : nmL[g]? = some (own, idx, y, host)) (d : decode cc pc = .ok (.invokestatic idx, 3))
    (isC isR : List Nat) (hC : isC.map (fun i => cs[i]?) = wc.map some) (hR : isR.map (fun i => cs[i]?) = wr.map some) (hn : va_nd (isC ++ isR) = true) (hlen : As.length = n) (hst : st = As.reverse ++ rest) (hW : (rest.map fun v => v.category).sum ≤ 8) (hrm : RmOk rm R maxL mc ms ce sl)
    (h : ∀ r w1, post r w1 → GG k (ce + mc) (sl + ms) (w1 ++ wr) lv (pc + 3) ((vl r).toList ++ rest)) : GG k ce sl cs lv pc st := by
  obtain ⟨⟨p, l, e', R, s⟩, ⟨m, args, below, meth, c⟩, A, Q, v, nL⟩ := k
  obtain ⟨rfl, rfl, rfl, rfl, hx, hb, hml, hown, hts, hK, hA, hse, hlk⟩ := X
  subst hst
  intro H locs la hP hD hS hla
  have hCR : (isC ++ isR).map (fun i => cs[i]?) = (wc ++ wr).map some := by rw [List.map_append, List.map_append, hC, hR]
  have hP2 := ck_P hP hCR
  have hD2 := ck_D hD hn hCR
  have hPc : va_P v.1 vwCl wc.flatten H := ck_P hP hC
  have hDc : va_D A wc.flatten := va_D_iff.mpr ⟨by have := (va_D_iff.mp hD2).1; rw [List.flatten_append, List.pairwise_append] at this; exact this.1, fun x hx => (va_D_iff.mp hD2).2 x (by rw [List.flatten_append]; exact List.mem_append_left _ hx)⟩
  have hFc := ck_free hD2 hS hA
  obtain ⟨⟨hd, hcw, hini⟩, hsta⟩ := F
  obtain ⟨h1, h2, h3, h4, h5, h6⟩ := hrm
  refine va_callg (va_runSN (As := As) (rest := rest) ⟨hx, hb, hml, hown, hts⟩ (hM H.size) ⟨va_cnB n hts (gd_of0 (in_cons hcw)) rfl h1 h2 (hse.1.2.1 _ (List.mem_of_getElem? hl)) (hts _ hini) hd ⟨h3, h4⟩, hts _ hsta, trivial⟩ ⟨bb_blind, fun U hU hW => ⟨rfl, pre_of hK hse hS hFc hPc hDc hU hW⟩⟩ rfl hlen hla.1 rfl (lv_room hW) d ⟨h5, h6⟩) hS (fun q _ h => hFc q h) hFc (fun r w1 t H1 locs ht hp hB hk hS => ?_)
  obtain ⟨hP1, hD1⟩ := hB
  rw [ht] at hP1
  obtain ⟨hP3, hD3⟩ := ck_join hP2 hD2 hk hFc hP1 hD1
  exact h r w1 hp H1 locs la hP3 hD3 hS hla
theorem g_callI {y : MethodName} {bytes : ByteArray} {maxL n mc ms idx b : Nat} {rm : Room} {As rest : List Value} {wc wr : List va_W} {post : Unit → List va_W → Prop}
    (X : CX k l v cc own R nL) (hM : MM vU l v y bytes maxL none rm (.ref b :: As) wc post mc ms) (F : MFi y bytes maxL n) (hl : Cond.methodLink own idx y ∈ wsL_law) (d : decode cc pc = .ok (.invokespecial idx, 3))
    (isC isR : List Nat) (hC : isC.map (fun i => cs[i]?) = wc.map some) (hR : isR.map (fun i => cs[i]?) = wr.map some) (hn : va_nd (isC ++ isR) = true) (hlen : As.length = n) (hst : st = As.reverse ++ .ref b :: rest) (hW : (rest.map fun v => v.category).sum ≤ 8) (hrm : RmOk rm R maxL mc ms ce sl)
    (h : ∀ w1, post () w1 → GG k (ce + mc) (sl + ms) (w1 ++ wr) lv (pc + 3) rest) : GG k ce sl cs lv pc st := by
  obtain ⟨⟨p, l, e', R, s⟩, ⟨m, args, below, meth, c⟩, A, Q, v, nL⟩ := k
  obtain ⟨rfl, rfl, rfl, rfl, hx, hb, hml, hown, hts, hK, hA, hse, hlk⟩ := X
  subst hst
  intro H locs la hP hD hS hla
  have hCR : (isC ++ isR).map (fun i => cs[i]?) = (wc ++ wr).map some := by rw [List.map_append, List.map_append, hC, hR]
  have hP2 := ck_P hP hCR
  have hD2 := ck_D hD hn hCR
  have hPc : va_P v.1 vwCl wc.flatten H := ck_P hP hC
  have hDc : va_D A wc.flatten := va_D_iff.mpr ⟨by have := (va_D_iff.mp hD2).1; rw [List.flatten_append, List.pairwise_append] at this; exact this.1, fun x hx => (va_D_iff.mp hD2).2 x (by rw [List.flatten_append]; exact List.mem_append_left _ hx)⟩
  have hFc := ck_free hD2 hS hA
  obtain ⟨⟨hd, hcw, hini⟩, hnm, hins⟩ := F
  obtain ⟨h1, h2, h3, h4, h5, h6⟩ := hrm
  refine va_callg (va_runI (As := As) (rest := rest) ⟨hx, hb, hml, hown, hts⟩ (hM H.size) (cwI n hts (gd_of0 (in_cons hcw)) rfl h1 h2 (hts _ hini) (hts _ hl) (hts _ hins) hnm hd ⟨h3, h4⟩) ⟨bb_blind, fun U hU hW => ⟨rfl, pre_of hK hse hS hFc hPc hDc hU hW⟩⟩ rfl hlen hla.1 rfl (lv_room hW) d ⟨h5, h6⟩) hS (fun q _ h => hFc q h) hFc (fun r w1 t H1 locs ht hp hB hk hS => ?_)
  obtain ⟨hP1, hD1⟩ := hB
  rw [ht] at hP1
  obtain ⟨hP3, hD3⟩ := ck_join hP2 hD2 hk hFc hP1 hD1
  exact h w1 hp H1 locs la hP3 hD3 hS hla
theorem g_callIN {y : MethodName} {bytes : ByteArray} {maxL n mc ms idx b : Nat} {host : String} {rm : Room} {As rest : List Value} {wc wr : List va_W} {post : Unit → List va_W → Prop}
    (X : CX k l v cc own R nL) (hM : MM vU l v y bytes maxL none rm (.ref b :: As) wc post mc ms) (F : MFi y bytes maxL n) (g : Nat) (hl : nmL[g]? = some (own, idx, y, host)) (d : decode cc pc = .ok (.invokespecial idx, 3))
    (isC isR : List Nat) (hC : isC.map (fun i => cs[i]?) = wc.map some) (hR : isR.map (fun i => cs[i]?) = wr.map some) (hn : va_nd (isC ++ isR) = true) (hlen : As.length = n) (hst : st = As.reverse ++ .ref b :: rest) (hW : (rest.map fun v => v.category).sum ≤ 8) (hrm : RmOk rm R maxL mc ms ce sl)
    (h : ∀ w1, post () w1 → GG k (ce + mc) (sl + ms) (w1 ++ wr) lv (pc + 3) rest) : GG k ce sl cs lv pc st := by
  obtain ⟨⟨p, l, e', R, s⟩, ⟨m, args, below, meth, c⟩, A, Q, v, nL⟩ := k
  obtain ⟨rfl, rfl, rfl, rfl, hx, hb, hml, hown, hts, hK, hA, hse, hlk⟩ := X
  subst hst
  intro H locs la hP hD hS hla
  have hCR : (isC ++ isR).map (fun i => cs[i]?) = (wc ++ wr).map some := by rw [List.map_append, List.map_append, hC, hR]
  have hP2 := ck_P hP hCR
  have hD2 := ck_D hD hn hCR
  have hPc : va_P v.1 vwCl wc.flatten H := ck_P hP hC
  have hDc : va_D A wc.flatten := va_D_iff.mpr ⟨by have := (va_D_iff.mp hD2).1; rw [List.flatten_append, List.pairwise_append] at this; exact this.1, fun x hx => (va_D_iff.mp hD2).2 x (by rw [List.flatten_append]; exact List.mem_append_left _ hx)⟩
  have hFc := ck_free hD2 hS hA
  obtain ⟨⟨hd, hcw, hini⟩, hnm, hins⟩ := F
  obtain ⟨h1, h2, h3, h4, h5, h6⟩ := hrm
  refine va_callg (va_runIN (As := As) (rest := rest) ⟨hx, hb, hml, hown, hts⟩ (hM H.size) ⟨va_cnB n hts (gd_of0 (in_cons hcw)) rfl h1 h2 (hse.1.2.1 _ (List.mem_of_getElem? hl)) (hts _ hini) hd ⟨h3, h4⟩, hnm, hts _ hins⟩ ⟨bb_blind, fun U hU hW => ⟨rfl, pre_of hK hse hS hFc hPc hDc hU hW⟩⟩ rfl hlen hla.1 rfl (lv_room hW) d ⟨h5, h6⟩) hS (fun q _ h => hFc q h) hFc (fun r w1 t H1 locs ht hp hB hk hS => ?_)
  obtain ⟨hP1, hD1⟩ := hB
  rw [ht] at hP1
  obtain ⟨hP3, hD3⟩ := ck_join hP2 hD2 hk hFc hP1 hD1
  exact h w1 hp H1 locs la hP3 hD3 hS hla
theorem g_objInit {idx b : Nat} {rest : List Value} (X : CX k l v cc own R nL) (hl : (Cond.methodLink own idx objectInit) ∈ wsL_law) (q1 : (Cond.instanceMethod objectInit) ∈ wsL_law) (q2 : (Cond.code objectInit ⟨#[0xb1]⟩ 1 none) ∈ wsL_law) (d : decode cc pc = .ok (.invokespecial idx, 3)) (hf : 1 ≤ R.frames) (hlo : (rest.map fun v => v.category).sum + 12 ≤ R.locals) (h : GG k ce sl cs lv (pc + 3) rest) : GG k ce sl cs lv pc (.ref b :: rest) := by
  obtain ⟨⟨p, l, e', R, s⟩, ⟨m, args, below, meth, c⟩, A, Q, v, nL⟩ := k
  obtain ⟨rfl, rfl, rfl, rfl, hx, hb, hml, hown, hts, -⟩ := X
  intro H locs la hP hD hS hla
  refine W.objInit hx hb hown (hts _ hl) (hts _ q1) (hts _ q2) rfl (by rw [hml]; exact hla.1) rfl d hf (by show 2 * 0 + _ + 12 ≤ _; omega) ?_
  exact h H locs la hP hD hS hla
theorem g_max {idx : Nat} {x y : Int32} {rest : List Value} (X : CX k l v cc own R nL) (q0 : (Cond.methodLink own idx Lib.Math.max.name) ∈ wsL_law) (q1 : (Cond.static Lib.Math.max.name) ∈ wsL_law) (q2 : (Cond.initialized "java/lang/Math") ∈ wsL_law) (q3 : (Cond.code Lib.Math.max.name Lib.Math.max.code 2 (some .int)) ∈ wsL_law) (d : decode cc pc = .ok (.invokestatic idx, 3)) (hf : 1 ≤ R.frames) (hlo : (rest.map fun v => v.category).sum + 13 ≤ R.locals) (hc : ce ≤ R.cells) (hs : sl ≤ R.slots) (h : GG k ce sl cs lv (pc + 3) (.int (if x < y then y else x) :: rest)) : GG k ce sl cs lv pc (.int y :: .int x :: rest) := by
  obtain ⟨⟨p, l, e', R, s⟩, ⟨m, args, below, meth, c⟩, A, Q, v, nL⟩ := k
  obtain ⟨rfl, rfl, rfl, rfl, hx, hb, hml, hown, hts, -⟩ := X
  intro H locs la hP hD hS hla
  exact va_mmax hx hb (by rw [hml]; exact hla.1.symm) hown (hts _ q0) (hts _ q1) (hts _ q2) (hts _ q3) hf hlo hc hs d (h H locs la hP hD hS hla)
end CALLROWS
/-! ## a contract out of a walk -/
def EI (k : KX) (cc : ByteArray) (ret : Option FieldType) (post : Int32 → List va_W → Prop) (mc ms : Nat) : Prop := ∀ {ce sl : Nat} {cs : List va_W} {lv : List (Nat × Value)} {pc : Nat} {r : Int32} {rt : FieldType}, decode cc pc = .ok (.ireturn, 1) → ret = some rt → narrow rt (.int r) = .int r → ce ≤ mc → sl ≤ ms → post r cs → GG k ce sl cs lv pc [.int r]
def EL (k : KX) (cc : ByteArray) (post : Int64 → List va_W → Prop) (mc ms : Nat) : Prop := ∀ {ce sl : Nat} {cs : List va_W} {lv : List (Nat × Value)} {pc : Nat} {r : Int64}, decode cc pc = .ok (.lreturn, 1) → ce ≤ mc → sl ≤ ms → post r cs → GG k ce sl cs lv pc [.long r]
def EU (k : KX) (cc : ByteArray) (post : Unit → List va_W → Prop) (mc ms : Nat) : Prop := ∀ {ce sl : Nat} {cs : List va_W} {lv : List (Nat × Value)} {pc : Nat}, decode cc pc = .ok (.return_, 1) → ce ≤ mc → sl ≤ ms → post () cs → GG k ce sl cs lv pc []
section STARTS
variable {l : Launch} {v : VV} {y : MethodName} {cc : ByteArray} {maxL : Nat} {ret : Option FieldType} {rm : Room} {av : List Value} {wc : List va_W} {mc ms : Nat}
theorem mm_start {ρ : Type} {vl : ρ → Option Value} {post : ρ → List va_W → Prop} (hy : plainName y.cls = true) (hlen : (lg_sl av).length ≤ maxL) (lv0 : List (Nat × Value)) (hlv : lv_args 0 av = lv0)
    (body : ∀ (k : KX), CX k l v cc y.cls rm maxL → k.2.1.2.2.2.1.name = y.name → k.2.1.2.2.2.1.sig.returnType = ret → k.2.2.1 = va_A wc.flatten k.1.2.2.2.2.heap.size → k.2.2.2.1 = MQ k.2.1.2.2.1 (Qg vl post (fun w t => PB v (va_A wc.flatten k.1.2.2.2.2.heap.size) w t) (va_A wc.flatten k.1.2.2.2.2.heap.size)) k.2.1.2.1 k.1.2.2.2.2 mc ms (va_A wc.flatten k.1.2.2.2.2.heap.size) → GG k 0 0 wc lv0 0 []) : MM vl l v y cc maxL ret rm av wc post mc ms := by
  intro sz
  refine Met.ofW (cc := cc) (maxL := maxL) (ret := ret) hy rfl ?_
  intro p e s m args below meth c s₁ B hml hv
  obtain ⟨rfl, hsz, hP, hK, hD0, hse⟩ := hv
  subst hsz
  have hts := atoms_spec (ws := Cond.code y cc maxL ret :: wsL_law) B.pre
  have hl := lv_entry av (n := maxL) hlen
  rw [lg_entry_eq]
  generalize (lg_sl av ++ List.replicate (maxL - (lg_sl av).length) Slot.unset).toArray = ls at hl ⊢
  rw [hlv] at hl
  have h := body ((p, l, e, rm, s), (m, av.toArray, below, meth, c), (va_A wc.flatten s.heap.size, MQ below (Qg vl post (fun w t => PB v (va_A wc.flatten s.heap.size) w t) (va_A wc.flatten s.heap.size)) av.toArray s mc ms (va_A wc.flatten s.heap.size), v, maxL)) ⟨rfl, rfl, rfl, rfl, B.exec, B.bytes, hml, findClass_of_methodNamed B.named, fun w hw => hts w (List.mem_cons_of_mem _ hw), hK, fun q h => Or.inr h, hse, B.notSynchronized⟩ (name_of_methodNamed B.named B.method).1 B.returns rfl rfl
  exact h s.heap [] ls hP hD0.self va_S.rf hl
theorem mm_int {post : Int32 → List va_W → Prop} (hy : plainName y.cls = true) (hlen : (lg_sl av).length ≤ maxL) (lv0 : List (Nat × Value)) (hlv : lv_args 0 av = lv0)
    (body : ∀ (k : KX), CX k l v cc y.cls rm maxL → EI k cc ret post mc ms → GG k 0 0 wc lv0 0 []) : MM vI l v y cc maxL ret rm av wc post mc ms := by
  refine mm_start hy hlen lv0 hlv (fun k X _ hr hA hQ => body k X ?_)
  obtain ⟨⟨p, l, e', R, s⟩, ⟨m, args, below, meth, c⟩, A, Q, v, nL⟩ := k
  obtain ⟨rfl, rfl, rfl, rfl, hx, hb, hml, hown, hts, hK, hA', hse, hlk⟩ := X
  dsimp only at hA hQ hr
  subst hA; subst hQ
  intro ce sl cs lv pc r rt d hrt hn h1 h2 hp H locs la hP hD hS hla
  refine W.widen h1 h2 ?_
  exact W.zret hx hb (hr.trans hrt) hn (fun t ht hW => ⟨⟨r, cs, rfl, hp, by rw [ht]; exact hP, hD⟩, hS.F ht⟩) hS.2.2 d hlk
theorem mm_long {post : Int64 → List va_W → Prop} (hret : ret = some .long) (hy : plainName y.cls = true) (hlen : (lg_sl av).length ≤ maxL) (lv0 : List (Nat × Value)) (hlv : lv_args 0 av = lv0)
    (body : ∀ (k : KX), CX k l v cc y.cls rm maxL → EL k cc post mc ms → GG k 0 0 wc lv0 0 []) : MM vL l v y cc maxL ret rm av wc post mc ms := by
  refine mm_start hy hlen lv0 hlv (fun k X _ hr hA hQ => body k X ?_)
  obtain ⟨⟨p, l, e', R, s⟩, ⟨m, args, below, meth, c⟩, A, Q, v, nL⟩ := k
  obtain ⟨rfl, rfl, rfl, rfl, hx, hb, hml, hown, hts, hK, hA', hse, hlk⟩ := X
  dsimp only at hA hQ hr
  subst hA; subst hQ
  intro ce sl cs lv pc r d h1 h2 hp H locs la hP hD hS hla
  refine W.widen h1 h2 ?_
  exact W.lret hx hb (hr.trans hret) (fun t ht hW => ⟨⟨r, cs, rfl, hp, by rw [ht]; exact hP, hD⟩, hS.F ht⟩) hS.2.2 d hlk
theorem mm_void {post : Unit → List va_W → Prop} (hret : ret = none) (hy : plainName y.cls = true) (hlen : (lg_sl av).length ≤ maxL) (lv0 : List (Nat × Value)) (hlv : lv_args 0 av = lv0)
    (body : ∀ (k : KX), CX k l v cc y.cls rm maxL → k.2.1.2.2.2.1.name = y.name → EU k cc post mc ms → GG k 0 0 wc lv0 0 []) : MM vU l v y cc maxL ret rm av wc post mc ms := by
  refine mm_start hy hlen lv0 hlv (fun k X hnm hr hA hQ => body k X hnm ?_)
  obtain ⟨⟨p, l, e', R, s⟩, ⟨m, args, below, meth, c⟩, A, Q, v, nL⟩ := k
  obtain ⟨rfl, rfl, rfl, rfl, hx, hb, hml, hown, hts, hK, hA', hse, hlk⟩ := X
  dsimp only at hA hQ hr
  subst hA; subst hQ
  intro ce sl cs lv pc d h1 h2 hp H locs la hP hD hS hla
  refine W.widen h1 h2 ?_
  exact W.vret hx hb (hr.trans hret) (fun t ht hW => ⟨⟨(), cs, rfl, hp, by rw [ht]; exact hP, hD⟩, hS.F ht⟩) hS.2.2 d hlk
end STARTS

