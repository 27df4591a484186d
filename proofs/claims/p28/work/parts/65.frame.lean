/-! ## contracts over a larger world; methods with a table of their own -/
section FRAMES
variable {l : Launch} {v : VV} {y : MethodName} {cc : ByteArray} {maxL : Nat} {ret : Option FieldType} {rm : Room} {av : List Value} {wc wr cs : List va_W} {mc ms : Nat} {isC isR : List Nat}
theorem fl_one {w : va_W} : ([w] : List va_W).flatten = w := by simp
theorem ck_sub {sz : Nat} (hCR : (isC ++ isR).map (fun i => cs[i]?) = (wc ++ wr).map some) : ∀ q, va_A wc.flatten sz q → va_A ([cs.flatten] : List va_W).flatten sz q := by
  intro q h
  rw [fl_one]
  rcases h with ⟨k, e, h⟩ | h
  · refine Or.inl ?_
    obtain ⟨c, hc, hq⟩ := List.mem_flatten.mp (List.mem_of_getElem? h)
    obtain ⟨k2, hk2⟩ := List.getElem?_of_mem (List.mem_append_left wr hc)
    obtain ⟨i, -, h2⟩ := ck_at hCR hk2
    obtain ⟨n, hn⟩ := List.getElem?_of_mem (List.mem_flatten.mpr ⟨c, List.mem_of_getElem? h2, hq⟩)
    exact ⟨n, e, hn⟩
  · exact Or.inr h
theorem bb_sub {sz : Nat} {U : State} (hC : isC.map (fun i => cs[i]?) = wc.map some) (hCR : (isC ++ isR).map (fun i => cs[i]?) = (wc ++ wr).map some) (hn : va_nd (isC ++ isR) = true) (h : BB v [cs.flatten] sz U) : BB v wc sz U := by
  obtain ⟨h1, hP, hK, hD, hse⟩ := h
  rw [fl_one] at hP hD
  refine ⟨h1, ck_P hP hC, hK, ?_, hse.narrow (ck_sub hCR)⟩
  have hD2 := ck_D hD hn hCR
  exact va_D_iff.mpr ⟨by have := (va_D_iff.mp hD2).1; rw [List.flatten_append, List.pairwise_append] at this; exact this.1, fun _ _ => trivial⟩
/-- the caller's cells stay beside the callee's new world -/
theorem pb_join {st t : State} {w1 cs' : List va_W} (hCR : (isC ++ isR).map (fun i => cs[i]?) = (wc ++ wr).map some) (hn : va_nd (isC ++ isR) = true) (hP : va_P v.1 vwCl cs.flatten st.heap) (hD : va_D (fun _ => True) cs.flatten) (hF : va_F (va_A wc.flatten st.heap.size) st t) (hB : PB v (va_A wc.flatten st.heap.size) w1 t) (is : List Nat) (hn2 : va_nd is = true) (hp : is.map (fun i => (w1 ++ wr)[i]?) = cs'.map some) : PB v (va_A ([cs.flatten] : List va_W).flatten st.heap.size) [cs'.flatten] t := by
  have hP2 := ck_P hP hCR
  have hD2 : va_D (va_A ([cs.flatten] : List va_W).flatten st.heap.size) (wc ++ wr).flatten := by
    rw [fl_one]
    exact ck_D hD.self hn hCR
  obtain ⟨g1, g2⟩ := ck_join hP2 hD2 hF.2 (ck_sub hCR) hB.1 hB.2
  refine ⟨?_, ?_⟩
  · rw [fl_one]; exact ck_P g1 hp
  · rw [fl_one (w := cs'.flatten)]; exact ck_D g2 hn2 hp
theorem va_F_mono {A B : Nat → Prop} {s t : State} (h : va_F A s t) (hAB : ∀ q, A q → B q) : va_F B s t := ⟨h.1, fun q h1 h2 => h.2 q h1 (fun z => h2 (hAB q z))⟩
theorem mm_fr {ρ : Type} {vl : ρ → Option Value} {post post' : ρ → List va_W → Prop} (hM : MM vl l v y cc maxL ret rm av wc post mc ms) (isC isR : List Nat) (hC : isC.map (fun i => cs[i]?) = wc.map some) (hR : isR.map (fun i => cs[i]?) = wr.map some) (hn : va_nd (isC ++ isR) = true)
    (hq : ∀ r w1, post r w1 → ∃ (is : List Nat) (cs' : List va_W), va_nd is = true ∧ is.map (fun i => (w1 ++ wr)[i]?) = cs'.map some ∧ post' r [cs'.flatten]) : MM vl l v y cc maxL ret rm av [cs.flatten] post' mc ms := by
  intro sz
  have hCR : (isC ++ isR).map (fun i => cs[i]?) = (wc ++ wr).map some := by rw [List.map_append, List.map_append, hC, hR]
  refine MetFree.mono (hM sz) (fun a U h => ⟨h.1, bb_sub hC hCR hn h.2⟩) (fun _ _ _ _ _ h => h) ?_
  rintro a st oc t ⟨-, hsz, hP, hK, hD, hse⟩ ⟨⟨⟨r, u, ho, hp, hB⟩, hF⟩, L, h3, h4⟩
  subst hsz
  rw [fl_one] at hP hD
  obtain ⟨is, cs', hn2, hp2, hp3⟩ := hq r u hp
  exact ⟨⟨⟨r, _, ho, hp3, pb_join hCR hn hP hD hF hB is hn2 hp2⟩, va_F_mono hF (ck_sub hCR)⟩, L, h3, fun q hq => ck_sub hCR _ (h4 q hq)⟩
theorem mx_fr {ρ : Type} {vl : ρ → Option Value} {px px' : String → List va_W → Prop} (hM : MX vl l v y cc maxL ret rm av wc (fun _ _ => False) px mc ms) (isC isR : List Nat) (hC : isC.map (fun i => cs[i]?) = wc.map some) (hR : isR.map (fun i => cs[i]?) = wr.map some) (hn : va_nd (isC ++ isR) = true)
    (hq : ∀ r w1, px r w1 → ∃ (is : List Nat) (cs' : List va_W), va_nd is = true ∧ is.map (fun i => (w1 ++ wr)[i]?) = cs'.map some ∧ px' r [cs'.flatten]) : MX vl l v y cc maxL ret rm av [cs.flatten] (fun _ _ => False) px' mc ms := by
  intro sz
  have hCR : (isC ++ isR).map (fun i => cs[i]?) = (wc ++ wr).map some := by rw [List.map_append, List.map_append, hC, hR]
  refine MetFree.mono (hM sz) (fun a U h => ⟨h.1, bb_sub hC hCR hn h.2⟩) (fun _ _ _ _ _ h => h) ?_
  rintro a st oc t ⟨-, hsz, hP, hK, hD, hse⟩ h
  subst hsz
  rw [fl_one] at hP hD
  rcases h with ⟨⟨⟨r, u, ho, hp, hB⟩, hF⟩, L, h3, h4⟩ | ⟨q, ho, E, ce, L, ⟨u, _, ⟨hp, hB⟩, hF⟩, g1, g2, g3, g4, g5, g6⟩
  · exact hp.elim
  · obtain ⟨is, cs', hn2, hp2, hp3⟩ := hq E u hp
    exact Or.inr ⟨q, ho, E, ce, L, ⟨_, trivial, ⟨hp3, pb_join hCR hn hP hD hF hB is hn2 hp2⟩, va_F_mono hF (ck_sub hCR)⟩, g1, g2, g3, g4, g5, fun z hz => ck_sub hCR _ (g6 z hz)⟩
end FRAMES
abbrev HHt : Type := List (Nat × Nat × Nat × Nat)
def MW (l : Launch) (v : VV) (y : MethodName) (cc : ByteArray) (maxL : Nat) (ret : Option FieldType) (hh : HHt) (rm : Room) (av : List Value) (wc : List va_W) (post : Int32 → List va_W → Prop) (mc ms : Nat) : Prop :=
  ∀ sz : Nat, Met l y (Cond.codeWith y cc maxL ret hh :: wsL_law) rm (va_Pc av (fun U => BB v wc sz U ∧ NC9 U)) (Qg vI post (fun w t => PB v (va_A wc.flatten sz) w t) (va_A wc.flatten sz)) mc ms (va_A wc.flatten sz)
def TBk (k : KX) (hh : HHt) : Prop := match k with | (_, (_, _, _, _, c), _) => c.exceptionTable.toList = tableOf hh
def NCk (k : KX) : Prop := match k with | ((_, _, _, _, s), _) => NC9 s
def CTk (k : KX) (own : String) (pc : Nat) (E : String) (hpc : Nat) : Prop := match k with
  | ((_, _, _, _, s), (_, args, _, _, c), _) => ∃ (pre : List ExceptionTableEntry) (x : ExceptionTableEntry) (suf : List ExceptionTableEntry) (name : String), c.exceptionTable.toList = pre ++ x :: suf ∧ (∀ z ∈ pre, covers z pc = false ∨ (z.catchType ≠ 0 ∧ ∃ nm : String, (Cond.classLink own z.catchType nm).before args s = true ∧ va_Nc E nm s)) ∧ covers x pc = true ∧ x.catchType ≠ 0 ∧ (Cond.classLink own x.catchType name).before args s = true ∧ (Cond.castable E name).before args s = true ∧ x.handlerPc = hpc
section WSTART
variable {l : Launch} {v : VV} {y : MethodName} {cc : ByteArray} {maxL : Nat} {ret : Option FieldType} {hh : HHt} {rm : Room} {av : List Value} {wc : List va_W} {mc ms : Nat} {post : Int32 → List va_W → Prop}
theorem mw_int (hy : plainName y.cls = true) (hlen : (lg_sl av).length ≤ maxL) (lv0 : List (Nat × Value)) (hlv : lv_args 0 av = lv0)
    (body : ∀ (k : KX), CX k l v cc y.cls rm maxL → TBk k hh → NCk k → EI k cc ret post mc ms → GG k 0 0 wc lv0 0 []) : MW l v y cc maxL ret hh rm av wc post mc ms := by
  intro sz
  refine va_MetW (cc := cc) (maxL := maxL) (ret := ret) (hh := hh) hy rfl ?_
  intro p e s m args below meth c s₁ B hml hv
  obtain ⟨rfl, ⟨hsz, hP, hK, hD0, hse⟩, hnc⟩ := hv
  subst hsz
  have hts := atoms_spec (ws := Cond.codeWith y cc maxL ret hh :: wsL_law) B.pre
  have htab := vx_table (x := y) B (hts _ List.mem_cons_self)
  have hl := lv_entry av (n := maxL) hlen
  rw [lg_entry_eq]
  generalize (lg_sl av ++ List.replicate (maxL - (lg_sl av).length) Slot.unset).toArray = ls at hl ⊢
  rw [hlv] at hl
  have hr := B.returns
  have hlk := B.notSynchronized
  have hx := B.exec
  have hb := B.bytes
  have h := body ((p, l, e, rm, s), (m, av.toArray, below, meth, c), (va_A wc.flatten s.heap.size, MQ below (Qg vI post (fun w t => PB v (va_A wc.flatten s.heap.size) w t) (va_A wc.flatten s.heap.size)) av.toArray s mc ms (va_A wc.flatten s.heap.size), v, maxL)) ⟨rfl, rfl, rfl, rfl, B.exec, B.bytes, hml, findClass_of_methodNamed B.named, fun w hw => hts w (List.mem_cons_of_mem _ hw), hK, fun q h => Or.inr h, hse, B.notSynchronized⟩ htab hnc (by
    intro ce sl cs lv pc r rt d hrt hn h1 h2 hp H locs la hP hD hS hla
    refine W.widen h1 h2 ?_
    exact W.zret hx hb (hr.trans hrt) hn (fun t ht hW => ⟨⟨r, cs, rfl, hp, by rw [ht]; exact hP, hD⟩, hS.F ht⟩) hS.2.2 d hlk)
  exact h s.heap [] ls hP hD0.self va_S.rf hl
end WSTART
theorem bw_blind {v : VV} {av : List Value} {wc : List va_W} {sz : Nat} : FrameBlind (va_Pc av (fun U => BB v wc sz U ∧ NC9 U)) := by
  intro a U g mk q
  obtain ⟨q0, q1, hnc⟩ := q
  exact ⟨q0, (bb_blind (v := v) (av := av) (wc := wc) (sz := sz) a U g mk ⟨q0, q1⟩).2, hnc.moved (U := U.calling g mk a) (Vm.Alike.refl U.vm)⟩
def MFw (y : MethodName) (cc : ByteArray) (maxL : Nat) (ret : Option FieldType) (hh : HHt) (n : Nat) : Prop := (y.cls ≠ "java/lang/invoke/MethodHandle" ∧ y.cls ≠ "java/lang/invoke/VarHandle" ∧ (parseMethodDescriptor y.desc).map (fun d => d.parameters.length) = some n) ∧ Cond.codeWith y cc maxL ret hh ∈ wsL_law ∧ Cond.initialized y.cls ∈ wsL_law ∧ Cond.static y ∈ wsL_law
section WCALLS
variable {k : KX} {l : Launch} {v : VV} {cc : ByteArray} {own : String} {R : Room} {nL ce sl pc : Nat} {cs : List va_W} {lv : List (Nat × Value)} {st : List Value}
theorem g_callW {y : MethodName} {bytes : ByteArray} {maxL n mc ms idx : Nat} {ret : Option FieldType} {hh : HHt} {rm : Room} {As rest : List Value} {wc wr : List va_W} {post : Int32 → List va_W → Prop}
    (X : CX k l v cc own R nL) (hnc : NCk k) (hM : MW l v y bytes maxL ret hh rm As wc post mc ms) (F : MFw y bytes maxL ret hh n) (hl : Cond.methodLink own idx y ∈ wsL_law) (d : decode cc pc = .ok (.invokestatic idx, 3))
    (isC isR : List Nat) (hC : isC.map (fun i => cs[i]?) = wc.map some) (hR : isR.map (fun i => cs[i]?) = wr.map some) (hn : va_nd (isC ++ isR) = true) (hlen : As.length = n) (hst : st = As.reverse ++ rest) (hW : (rest.map fun v => v.category).sum ≤ 8) (hrm : RmOk rm R maxL mc ms ce sl)
    (h : ∀ r w1, post r w1 → GG k (ce + mc) (sl + ms) (w1 ++ wr) lv (pc + 3) (.int r :: rest)) : GG k ce sl cs lv pc st := by
  obtain ⟨⟨p, l, e', R, s⟩, ⟨m, args, below, meth, c⟩, A, Q, v, nL⟩ := k
  obtain ⟨rfl, rfl, rfl, rfl, hx, hb, hml, hown, hts, hK, hA, hse, hlk⟩ := X
  subst hst
  intro H locs la hP hD hS hla
  have hnc : NC9 s := hnc
  have hCR : (isC ++ isR).map (fun i => cs[i]?) = (wc ++ wr).map some := by rw [List.map_append, List.map_append, hC, hR]
  have hP2 := ck_P hP hCR
  have hD2 := ck_D hD hn hCR
  have hPc : va_P v.1 vwCl wc.flatten H := ck_P hP hC
  have hDc : va_D A wc.flatten := va_D_iff.mpr ⟨by have := (va_D_iff.mp hD2).1; rw [List.flatten_append, List.pairwise_append] at this; exact this.1, fun x hx => (va_D_iff.mp hD2).2 x (by rw [List.flatten_append]; exact List.mem_append_left _ hx)⟩
  have hFc := ck_free hD2 hS hA
  obtain ⟨hd, hcw, hini, hsta⟩ := F
  have hsub : ∀ w ∈ va_wsS own idx y (Cond.codeWith y bytes maxL ret hh :: wsL_law), w ∈ wsL_law := by
    intro w hw
    simp only [va_wsS, List.mem_append, List.mem_cons, List.not_mem_nil, or_false] at hw
    rcases hw with (rfl | rfl | rfl) | rfl | hw
    · exact hl
    · exact hsta
    · exact hini
    · exact hcw
    · exact hw
  obtain ⟨h1, h2, h3, h4, h5, h6⟩ := hrm
  refine va_callg (vx_runSW (As := As) (rest := rest) ⟨hx, hb, hml, hown, hts⟩ (hM H.size) (vx_cwSW n hts (gd_of0 hsub) rfl h1 h2 hd ⟨h3, h4⟩) ⟨bw_blind, fun U hU hW => ⟨rfl, pre_of hK hse hS hFc hPc hDc hU hW, hnc.moved hW.alike⟩⟩ rfl hlen hla.1 rfl (lv_room hW) d ⟨h5, h6⟩) hS (fun q _ h => hFc q h) hFc (fun r w1 t H1 locs ht hp hB hk hS => ?_)
  obtain ⟨hP1, hD1⟩ := hB
  rw [ht] at hP1
  obtain ⟨hP3, hD3⟩ := ck_join hP2 hD2 hk hFc hP1 hD1
  exact h r w1 hp H1 locs la hP3 hD3 hS hla
/-- a call that may throw, in a method that catches -/
theorem g_xVC {ρ : Type} {vl : ρ → Option Value} {y : MethodName} {bytes : ByteArray} {maxL n mc ms idx b ci : Nat} {ret : Option FieldType} {C : String} {rm : Room} {As rest : List Value} {wc wr : List va_W} {post : ρ → List va_W → Prop} {px : String → List va_W → Prop} {fs : List Value}
    (X : CX k l v cc own R nL) (hM : MX vl l v y bytes maxL ret rm (.ref b :: As) wc post px mc ms) (F : MFv y bytes maxL ret C n) (hl : Cond.methodLink own idx y ∈ wsL_law) (d : decode cc pc = .ok (.invokevirtual idx, 3))
    (isC isR : List Nat) (hC : isC.map (fun i => cs[i]?) = wc.map some) (hR : isR.map (fun i => cs[i]?) = wr.map some) (hn : va_nd (isC ++ isR) = true) (q : Nat) (hq : wc.flatten[q]? = some (b, .inr (ci, fs))) (hc : (vwCl[ci]?).map (fun x => x.1) = some C) (hlen : As.length = n) (hst : st = As.reverse ++ .ref b :: rest) (hW : (rest.map fun v => v.category).sum ≤ 8) (hrm : RmOk rm R maxL mc ms ce sl)
    (h : ∀ r w1, post r w1 → GG k (ce + mc) (sl + ms) (w1 ++ wr) lv (pc + 3) ((vl r).toList ++ rest)) (hX : ∀ E w1, px E w1 → ∃ hpc, CTk k own pc E hpc ∧ ∀ q9, GG k (ce + mc) (sl + ms) (w1 ++ wr) lv hpc [.ref q9]) : GG k ce sl cs lv pc st := by
  obtain ⟨⟨p, l, e', R, s⟩, ⟨m, args, below, meth, c⟩, A, Q, v, nL⟩ := k
  obtain ⟨rfl, rfl, rfl, rfl, hx, hb, hml, hown, hts, hK, hA, hse, hlk⟩ := X
  subst hst
  intro H locs la hP hD hS hla
  have hCR : (isC ++ isR).map (fun i => cs[i]?) = (wc ++ wr).map some := by rw [List.map_append, List.map_append, hC, hR]
  have hP2 := ck_P hP hCR
  have hD2 := ck_D hD hn hCR
  have hPc : va_P v.1 vwCl wc.flatten H := ck_P hP hC
  have hDc : va_D A wc.flatten := va_D_iff.mpr ⟨by have := (va_D_iff.mp hD2).1; rw [List.flatten_append, List.pairwise_append] at this; exact this.1, fun x hx => (va_D_iff.mp hD2).2 x (by rw [List.flatten_append]; exact List.mem_append_left _ hx)⟩
  have hFc := ck_free hD2 hS hA
  obtain ⟨⟨hd, hcw, hini⟩, hcls, hins, hsel⟩ := F
  subst hcls
  have hsub : ∀ w ∈ wsV own idx y.cls y (Cond.code y bytes maxL ret :: wsL_law), w ∈ wsL_law := by
    intro w hw
    simp only [wsV, List.mem_append, List.mem_cons, List.not_mem_nil, or_false] at hw
    rcases hw with (rfl | rfl | rfl | rfl) | rfl | hw
    · exact hl
    · exact hins
    · exact hsel
    · exact hini
    · exact hcw
    · exact hw
  obtain ⟨h1, h2, h3, h4, h5, h6⟩ := hrm
  cases hv9 : vwCl[ci]? with
  | none => rw [hv9] at hc; cases hc
  | some x9 =>
    rw [hv9] at hc
    have e9 : x9.1 = y.cls := Option.some.inj hc
    refine vx_callg (vx_runV (As := As) (rest := rest) ⟨hx, hb, hml, hown, hts⟩ (hM H.size) (cwV n hts (gd_of0 hsub) rfl h1 h2 ⟨rfl, hd⟩ ⟨h3, h4⟩) ⟨bb_blind, by rw [← e9]; exact va_recv hK hPc hv9 hq, fun U hU hW => ⟨rfl, pre_of hK hse hS hFc hPc hDc hU hW⟩⟩ rfl hlen hla.1 rfl (lv_room hW) d ⟨h5, h6⟩) hS (fun q _ h => hFc q h) hFc (fun q _ h => hFc q h) (fun E c9 q9 w1 t H1 locs ht _ hB hk hS g1 g2 g3 => ?_) (fun r w1 t H1 locs ht hp hB hk hS => ?_)
    · obtain ⟨hp, hP1, hD1⟩ := hB
      rw [ht] at hP1
      obtain ⟨hP3, hD3⟩ := ck_join hP2 hD2 hk hFc hP1 hD1
      obtain ⟨hpc, ⟨pre, x, suf, name, t1, t2, t3, t4, t5, t6, rfl⟩, h9⟩ := hX E w1 hp
      exact vx_catch hown pre x suf t1 t2 t3 t4 t5 t6 g1 g2 g3 (h9 q9 H1 locs la hP3 hD3 hS hla)
    · obtain ⟨hP1, hD1⟩ := hB
      rw [ht] at hP1
      obtain ⟨hP3, hD3⟩ := ck_join hP2 hD2 hk hFc hP1 hD1
      exact h r w1 hp H1 locs la hP3 hD3 hS hla
/-- the first row takes it -/
theorem ct_1 {a b h i : Nat} {r : HHt} {q : String × Nat × Nat} (X : CX k l v cc own R nL) (T : TBk k ((a, b, h, i) :: r)) (hq : q ∈ xSites) (hl : Cond.classLink own i q.1 ∈ wsL_law) (hi : i ≠ 0) (hcov : covers ⟨a, b, h, i⟩ pc = true) : CTk k own pc q.1 h := by
  obtain ⟨⟨p, l, e', R, s⟩, ⟨m, args, below, meth, c⟩, A, Q, v, nL⟩ := k
  obtain ⟨rfl, rfl, rfl, rfl, hx, hb, hml, hown, hts, hK, hA, hse, hlk⟩ := X
  exact ⟨[], ⟨a, b, h, i⟩, tableOf r, q.1, T, (fun z hz => absurd hz List.not_mem_nil), hcov, hi, hts _ hl, va_Nw.use rfl (hse.1.2.2.2.2.2.1 q hq), rfl⟩
/-- the first row passes it, the second takes it -/
theorem ct_2 {a b h i a2 b2 h2 i2 : Nat} {r : HHt} {nm : String} {q : String × Nat × Nat} (X : CX k l v cc own R nL) (T : TBk k ((a, b, h, i) :: (a2, b2, h2, i2) :: r)) (hnc : NCk k) (hp : ∀ s, NC9 s → va_Nc q.1 nm s) (hq : q ∈ xSites) (hl1 : Cond.classLink own i nm ∈ wsL_law) (hi1 : i ≠ 0) (hl : Cond.classLink own i2 q.1 ∈ wsL_law) (hi : i2 ≠ 0) (hcov : covers ⟨a2, b2, h2, i2⟩ pc = true) : CTk k own pc q.1 h2 := by
  obtain ⟨⟨p, l, e', R, s⟩, ⟨m, args, below, meth, c⟩, A, Q, v, nL⟩ := k
  obtain ⟨rfl, rfl, rfl, rfl, hx, hb, hml, hown, hts, hK, hA, hse, hlk⟩ := X
  refine ⟨[⟨a, b, h, i⟩], ⟨a2, b2, h2, i2⟩, tableOf r, q.1, T, (fun z hz => ?_), hcov, hi, hts _ hl, va_Nw.use rfl (hse.1.2.2.2.2.2.1 q hq), rfl⟩
  cases List.mem_singleton.mp hz
  exact Or.inr ⟨hi1, nm, hts _ hl1, hp s hnc⟩
end WCALLS

