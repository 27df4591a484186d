/-! ## methods that return or throw -/
def XCg (v : VV) (wc : List va_W) (sz : Nat) (px : String → List va_W → Prop) : String → State → State → Prop := vx_X (S := List va_W) (fun _ => True) (fun E w t => px E w ∧ PB v (va_A wc.flatten sz) w t) (va_A wc.flatten sz)
def MX {ρ : Type} (vl : ρ → Option Value) (l : Launch) (v : VV) (y : MethodName) (cc : ByteArray) (maxL : Nat) (ret : Option FieldType) (rm : Room) (av : List Value) (wc : List va_W) (post : ρ → List va_W → Prop) (px : String → List va_W → Prop) (mc ms : Nat) : Prop :=
  ∀ sz : Nat, vx_Met l y (Cond.code y cc maxL ret :: wsL_law) rm (va_Pc av (BB v wc sz)) (Qg vl post (fun w t => PB v (va_A wc.flatten sz) w t) (va_A wc.flatten sz)) (XCg v wc sz px) mc ms (va_A wc.flatten sz)
abbrev XI := @MX Int32 vI
abbrev XL := @MX Int64 vL
abbrev XU := @MX Unit vU
def XT (k : KX) : Prop := match k with
  | (_, (_, _, _, _, c), _) => ∀ x ∈ c.exceptionTable.toList, False
/-- a throw of E is under way, at pc, in the world cs -/
def GX (k : KX) (E : String) (ce sl : Nat) (cs : List va_W) (pc : Nat) : Prop := match k with
  | ((p, l, e, R, s), (m, args, below, meth, c), (A, Q, v, nL)) => ∀ (H : Heap) (locs : List Loc) (la : Array Slot) (st : List Value) (q9 : Addr) (c9 : Cell), va_P v.1 vwCl cs.flatten H → va_D A cs.flatten → va_S A s.heap H locs → la.size = nL → H[q9]? = some c9 → c9.vm = .none → s.vm.findClass E = some c9.cls → vx_W p l e R s m args below meth c H locs ce sl Q (F0 m pc la st) q9
def XO (k : KX) (px : String → List va_W → Prop) (mc ms : Nat) : Prop := ∀ {E : String} {ce sl : Nat} {cs : List va_W} {pc : Nat}, ce ≤ mc → sl ≤ ms → px E cs → GX k E ce sl cs pc
def XR (k : KX) (cc : ByteArray) (R : Room) (px : String → List va_W → Prop) (mc ms : Nat) : Prop := ∀ {cls text : String} {ic ik is ce sl : Nat} {cs : List va_W} {lv : List (Nat × Value)} {pc : Nat} {st : List Value} (g : Nat), (cls, ic, ik) ∈ xSites → Cond.classLink RX6 ik cls ∈ wsL_law → Cond.initialized cls ∈ wsL_law → stL[g]? = some (RX6, is, text) →
  decode cc pc = .ok (.new ik, 3) → decode cc (pc + 3) = .ok (.dup, 1) → decode cc (pc + 4) = .ok (.ldc is, 2) → decode cc (pc + 6) = .ok (.invokespecial ic, 3) → decode cc (pc + 9) = .ok (.athrow, 1) →
  5 < R.frames → (st.map fun v => v.category).sum + 82 ≤ R.locals → ce + 1 ≤ R.cells → sl + 6 ≤ R.slots → ce + 1 ≤ mc → sl + 6 ≤ ms → px cls cs → GG k ce sl cs lv pc st
def XRW (k : KX) (cc : ByteArray) (R : Room) (px : String → List va_W → Prop) (mc ms : Nat) : Prop := ∀ {cls text : String} {ic ik is ce sl : Nat} {cs : List va_W} {lv : List (Nat × Value)} {pc : Nat} {st : List Value} (g : Nat), (cls, ic, ik) ∈ xSites → Cond.classLink RX6 ik cls ∈ wsL_law → Cond.initialized cls ∈ wsL_law → stL[g]? = some (RX6, is, text) →
  decode cc pc = .ok (.new ik, 3) → decode cc (pc + 3) = .ok (.dup, 1) → decode cc (pc + 4) = .ok (.ldc_w is, 3) → decode cc (pc + 7) = .ok (.invokespecial ic, 3) → decode cc (pc + 10) = .ok (.athrow, 1) →
  5 < R.frames → (st.map fun v => v.category).sum + 82 ≤ R.locals → ce + 1 ≤ R.cells → sl + 6 ≤ R.slots → ce + 1 ≤ mc → sl + 6 ≤ ms → px cls cs → GG k ce sl cs lv pc st
theorem xS_fit : xSites.all (fun q => Bundle.fit q.1) = true := by decide +kernel
theorem xS_ot : xSites.all (fun q => (Cond.classLink RX6 q.2.2 q.1 :: Cond.initialized q.1 :: xAt q).all vx_ot) = true := by decide +kernel
theorem xN_fit : xNm.all Bundle.fit = true := by decide +kernel
section XSTARTS
variable {l : Launch} {v : VV} {y : MethodName} {cc : ByteArray} {maxL : Nat} {ret : Option FieldType} {rm : Room} {av : List Value} {wc : List va_W} {mc ms : Nat} {px : String → List va_W → Prop}
theorem mx_start {ρ : Type} {vl : ρ → Option Value} {post : ρ → List va_W → Prop} (hy : plainName y.cls = true) (hlen : (lg_sl av).length ≤ maxL) (lv0 : List (Nat × Value)) (hlv : lv_args 0 av = lv0)
    (body : ∀ (k : KX), CX k l v cc y.cls rm maxL → k.2.1.2.2.2.1.name = y.name → k.2.1.2.2.2.1.sig.returnType = ret → k.2.2.1 = va_A wc.flatten k.1.2.2.2.2.heap.size → XT k → k.2.2.2.1 = vx_MQ k.2.1.2.2.1 (Qg vl post (fun w t => PB v (va_A wc.flatten k.1.2.2.2.2.heap.size) w t) (va_A wc.flatten k.1.2.2.2.2.heap.size)) (XCg v wc k.1.2.2.2.2.heap.size px) k.2.1.2.1 k.1.2.2.2.2 mc ms (va_A wc.flatten k.1.2.2.2.2.heap.size) → GG k 0 0 wc lv0 0 []) : MX vl l v y cc maxL ret rm av wc post px mc ms := by
  intro sz
  refine vx_ofW (cc := cc) (maxL := maxL) (ret := ret) hy rfl ?_
  intro p e s m args below meth c s₁ B hml htab hv
  obtain ⟨rfl, hsz, hP, hK, hD0, hse⟩ := hv
  subst hsz
  have hts := atoms_spec (ws := Cond.code y cc maxL ret :: wsL_law) B.pre
  have hl := lv_entry av (n := maxL) hlen
  rw [lg_entry_eq]
  generalize (lg_sl av ++ List.replicate (maxL - (lg_sl av).length) Slot.unset).toArray = ls at hl ⊢
  rw [hlv] at hl
  have h := body ((p, l, e, rm, s), (m, av.toArray, below, meth, c), (va_A wc.flatten s.heap.size, vx_MQ below (Qg vl post (fun w t => PB v (va_A wc.flatten s.heap.size) w t) (va_A wc.flatten s.heap.size)) (XCg v wc s.heap.size px) av.toArray s mc ms (va_A wc.flatten s.heap.size), v, maxL)) ⟨rfl, rfl, rfl, rfl, B.exec, B.bytes, hml, findClass_of_methodNamed B.named, fun w hw => hts w (List.mem_cons_of_mem _ hw), hK, fun q h => Or.inr h, hse, B.notSynchronized⟩ (name_of_methodNamed B.named B.method).1 B.returns rfl htab rfl
  exact h s.heap [] ls hP hD0.self va_S.rf hl
theorem mx_conts {ρ : Type} {vl : ρ → Option Value} {post : ρ → List va_W → Prop} (hst : l.stackTraces = false) {k : KX} {own : String} (ho : own = RX6) (X : CX k l v cc own rm maxL) (hA : k.2.2.1 = va_A wc.flatten k.1.2.2.2.2.heap.size) (hT : XT k) (hQ : k.2.2.2.1 = vx_MQ k.2.1.2.2.1 (Qg vl post (fun w t => PB v (va_A wc.flatten k.1.2.2.2.2.heap.size) w t) (va_A wc.flatten k.1.2.2.2.2.heap.size)) (XCg v wc k.1.2.2.2.2.heap.size px) k.2.1.2.1 k.1.2.2.2.2 mc ms (va_A wc.flatten k.1.2.2.2.2.heap.size)) : XO k px mc ms ∧ XR k cc rm px mc ms ∧ XRW k cc rm px mc ms := by
  obtain ⟨⟨p, l, e', R, s⟩, ⟨m, args, below, meth, c⟩, A, Q, v, nL⟩ := k
  obtain ⟨rfl, rfl, rfl, rfl, hx, hb, hml, hown, hts, hK, hA', hse, hlk⟩ := X
  dsimp only at hA hQ
  subst hA; subst hQ; subst ho
  refine ⟨?_, ?_, ?_⟩
  · intro E ce sl cs pc hc hs hp H locs la st q9 c9 hP hD hS hl hcell hv hcl
    exact vx_out (fun x hx => (hT x hx).elim) hlk hcell hv hcl (fun t ht _ => ⟨cs, trivial, ⟨hp, by rw [ht]; exact hP, hD⟩, hS.F ht⟩) hS.2.2 hc hs
  · intro cls text ic ik is ce sl cs lv pc st g hq hk hi hg d0 d3 d4 d6 d9 hf hlo hce hsl h1 h2 hp H locs la hP hD hS hla
    refine vx_throwS (names := xNm) hx hb hst hown (List.all_eq_true.mp xS_fit _ hq) (fun n hn => List.all_eq_true.mp xN_fit n hn) (hts _ hk) (hts _ hi) (hse.1.2.2.1 g _ hg) (EXw.at hse.1.2.2.2 hq) (fun w hw => List.all_eq_true.mp (List.all_eq_true.mp xS_ot _ hq) w hw) hse.2.2.1 hse.2.2.2.1 hS (hla.1.trans hml.symm) d0 d3 d4 d6 d9 (fun x hx => (hT x hx).elim) hf hlo hce hsl hlk (fun t _ hsz hk => ⟨cs, trivial, ⟨hp, hP.kept (fun k x hx => hk x.1 (hP k x hx).lt), hD⟩, ⟨Nat.le_trans hS.1 hsz, fun q g1 g2 => (hk q (Nat.lt_of_lt_of_le g1 hS.1)).trans (hS.2.1 q g1 g2)⟩⟩) hS.2.2 h1 h2
  · intro cls text ic ik is ce sl cs lv pc st g hq hk hi hg d0 d3 d4 d7 d10 hf hlo hce hsl h1 h2 hp H locs la hP hD hS hla
    refine vx_throwSW (names := xNm) hx hb hst hown (List.all_eq_true.mp xS_fit _ hq) (fun n hn => List.all_eq_true.mp xN_fit n hn) (hts _ hk) (hts _ hi) (hse.1.2.2.1 g _ hg) (EXw.at hse.1.2.2.2 hq) (fun w hw => List.all_eq_true.mp (List.all_eq_true.mp xS_ot _ hq) w hw) hse.2.2.1 hse.2.2.2.1 hS (hla.1.trans hml.symm) d0 d3 d4 d7 d10 (fun x hx => (hT x hx).elim) hf hlo hce hsl hlk (fun t _ hsz hk => ⟨cs, trivial, ⟨hp, hP.kept (fun k x hx => hk x.1 (hP k x hx).lt), hD⟩, ⟨Nat.le_trans hS.1 hsz, fun q g1 g2 => (hk q (Nat.lt_of_lt_of_le g1 hS.1)).trans (hS.2.1 q g1 g2)⟩⟩) hS.2.2 h1 h2
theorem mx_int {post : Int32 → List va_W → Prop} (hst : l.stackTraces = false) (ho : y.cls = RX6) (hy : plainName y.cls = true) (hlen : (lg_sl av).length ≤ maxL) (lv0 : List (Nat × Value)) (hlv : lv_args 0 av = lv0)
    (body : ∀ (k : KX), CX k l v cc y.cls rm maxL → EI k cc ret post mc ms → XO k px mc ms → XR k cc rm px mc ms → XRW k cc rm px mc ms → GG k 0 0 wc lv0 0 []) : MX vI l v y cc maxL ret rm av wc post px mc ms := by
  refine mx_start hy hlen lv0 hlv (fun k X _ hr hA hT hQ => body k X ?_ (mx_conts hst ho X hA hT hQ).1 (mx_conts hst ho X hA hT hQ).2.1 (mx_conts hst ho X hA hT hQ).2.2)
  obtain ⟨⟨p, l, e', R, s⟩, ⟨m, args, below, meth, c⟩, A, Q, v, nL⟩ := k
  obtain ⟨rfl, rfl, rfl, rfl, hx, hb, hml, hown, hts, hK, hA', hse, hlk⟩ := X
  dsimp only at hA hQ hr
  subst hA; subst hQ
  intro ce sl cs lv pc r rt d hrt hn h1 h2 hp H locs la hP hD hS hla
  refine W.widen h1 h2 (vx_ret ?_)
  exact W.zret hx hb (hr.trans hrt) hn (fun t ht hW => ⟨⟨r, cs, rfl, hp, by rw [ht]; exact hP, hD⟩, hS.F ht⟩) hS.2.2 d hlk
theorem mx_void {post : Unit → List va_W → Prop} (hret : ret = none) (hst : l.stackTraces = false) (ho : y.cls = RX6) (hy : plainName y.cls = true) (hlen : (lg_sl av).length ≤ maxL) (lv0 : List (Nat × Value)) (hlv : lv_args 0 av = lv0)
    (body : ∀ (k : KX), CX k l v cc y.cls rm maxL → EU k cc post mc ms → XO k px mc ms → XR k cc rm px mc ms → XRW k cc rm px mc ms → GG k 0 0 wc lv0 0 []) : MX vU l v y cc maxL ret rm av wc post px mc ms := by
  refine mx_start hy hlen lv0 hlv (fun k X _ hr hA hT hQ => body k X ?_ (mx_conts hst ho X hA hT hQ).1 (mx_conts hst ho X hA hT hQ).2.1 (mx_conts hst ho X hA hT hQ).2.2)
  obtain ⟨⟨p, l, e', R, s⟩, ⟨m, args, below, meth, c⟩, A, Q, v, nL⟩ := k
  obtain ⟨rfl, rfl, rfl, rfl, hx, hb, hml, hown, hts, hK, hA', hse, hlk⟩ := X
  dsimp only at hA hQ hr
  subst hA; subst hQ
  intro ce sl cs lv pc d h1 h2 hp H locs la hP hD hS hla
  refine W.widen h1 h2 (vx_ret ?_)
  exact W.vret hx hb (hr.trans hret) (fun t ht hW => ⟨⟨(), cs, rfl, hp, by rw [ht]; exact hP, hD⟩, hS.F ht⟩) hS.2.2 d hlk
end XSTARTS
theorem vx_callg {ρ S SX : Type} {vl : ρ → Option Value} {p : Program} {l : Launch} {e : Env} {R : Room} {s : State} {m : MethodId} {args : Array Value} {below : List Frame} {meth : Method} {c : Code} {H : Heap} {locs : List Loc} {cells slots : Nat} {Q : State → Prop} {pc : Nat} {ls : Array Slot} {rest st0 : List Value} {a : Array Value} {A0 A1 : Nat → Prop} {H0 : Heap} {mc ms : Nat} {free : Addr → Prop} {post : ρ → S → Prop} {B : S → State → Prop} {qx : SX → Prop} {BX : String → SX → State → Prop} {AX : Nat → Prop}
    (hr : vx_Run p l e R s m args below meth c H locs cells slots mc ms (F0 m pc ls st0) rest (Qg vl post B A1 a) (vx_X qx BX AX) free) (hS : va_S A0 H0 H locs) (hA : ∀ q, q < H.size → A1 q → A0 q) (hf : ∀ q, free q → A0 q) (hAX : ∀ q, q < H.size → AX q → A0 q)
    (kx : ∀ (E : String) (c9 : Cell) (q9 : Addr) (u : SX) (t : State) (H1 : Heap) (locs1 : List Loc), t.heap = H1 → qx u → BX E u t → (∀ q : Nat, q < H.size → ¬ AX q → H1[q]? = H[q]?) → va_S A0 H0 H1 locs1 → H1[q9]? = some c9 → c9.vm = .none → s.vm.findClass E = some c9.cls → vx_W p l e R s m args below meth c H1 locs1 (cells + mc) (slots + ms) Q (F0 m pc ls rest) q9)
    (kk : ∀ (r : ρ) (u : S) (t : State) (H1 : Heap) (locs1 : List Loc), t.heap = H1 → post r u → B u t → (∀ q : Nat, q < H.size → ¬ A1 q → H1[q]? = H[q]?) → va_S A0 H0 H1 locs1 → W p l e R s m args below meth c H1 locs1 (cells + mc) (slots + ms) Q (F0 m (pc + 3) ls ((vl r).toList ++ rest))) : W p l e R s m args below meth c H locs cells slots Q (F0 m pc ls st0) := by
  intro T hT X
  rcases hr T hT X with ⟨v, st₀, t, T', L, h0, X', hL, e1, e2, ⟨⟨r, u, hv, hp, hb⟩, hF⟩, st⟩ | ⟨q, st₀, t, T', L, E, c9, h0, X', hL, e1, e2, ⟨u, hp, hb, hF⟩, hce, hcv, hcl, st⟩
  · cases hv
    obtain ⟨k1, k2, k3⟩ := vx_keep h0 e1 hS hA hf hL hF
    obtain ⟨t2, a1, b1⟩ := kk r u t T'.heap (locs ++ L) e1.symm hp hb k2 k3 T' rfl X'
    exact ⟨t2, st t2 a1, b1⟩
  · obtain ⟨k1, k2, k3⟩ := vx_keep h0 e1 hS hAX hf hL hF
    obtain ⟨t2, a1, b1⟩ := kx E c9 q u t T'.heap (locs ++ L) e1.symm hp hb k2 k3 (by rw [e1]; exact hce) hcv hcl T' rfl X'
    exact ⟨t2, st.trans a1, b1⟩
section XCALLS
variable {k : KX} {l : Launch} {v : VV} {cc : ByteArray} {own : String} {R : Room} {nL ce sl pc : Nat} {cs : List va_W} {lv : List (Nat × Value)} {st : List Value}
theorem g_lveq {lv' : List (Nat × Value)} (e : lv = lv') (h : GG k ce sl cs lv' pc st) : GG k ce sl cs lv pc st := e ▸ h
theorem g_xpick {E : String} {cs' : List va_W} (is : List Nat) (hn : va_nd is = true) (hs : is.map (fun i => cs[i]?) = cs'.map some) (h : GX k E ce sl cs' pc) : GX k E ce sl cs pc := by
  obtain ⟨⟨p, l, e0, R, s⟩, ⟨m, args, below, meth, c⟩, A, Q, v, nL⟩ := k
  exact fun H locs la st q9 c9 hP hD hS hl h1 h2 h3 => h H locs la st q9 c9 (ck_P hP hs) (ck_D hD hn hs) hS hl h1 h2 h3
theorem g_xV {ρ : Type} {vl : ρ → Option Value} {y : MethodName} {bytes : ByteArray} {maxL n mc ms idx b ci : Nat} {ret : Option FieldType} {C : String} {rm : Room} {As rest : List Value} {wc wr : List va_W} {post : ρ → List va_W → Prop} {px : String → List va_W → Prop} {fs : List Value}
    (X : CX k l v cc own R nL) (hM : MX vl l v y bytes maxL ret rm (.ref b :: As) wc post px mc ms) (F : MFv y bytes maxL ret C n) (hl : Cond.methodLink own idx y ∈ wsL_law) (d : decode cc pc = .ok (.invokevirtual idx, 3))
    (isC isR : List Nat) (hC : isC.map (fun i => cs[i]?) = wc.map some) (hR : isR.map (fun i => cs[i]?) = wr.map some) (hn : va_nd (isC ++ isR) = true) (q : Nat) (hq : wc.flatten[q]? = some (b, .inr (ci, fs))) (hc : (vwCl[ci]?).map (fun x => x.1) = some C) (hlen : As.length = n) (hst : st = As.reverse ++ .ref b :: rest) (hW : (rest.map fun v => v.category).sum ≤ 8) (hrm : RmOk rm R maxL mc ms ce sl)
    (h : ∀ r w1, post r w1 → GG k (ce + mc) (sl + ms) (w1 ++ wr) lv (pc + 3) ((vl r).toList ++ rest)) (hX : ∀ E w1, px E w1 → GX k E (ce + mc) (sl + ms) (w1 ++ wr) pc) : GG k ce sl cs lv pc st := by
  obtain ⟨⟨p, l, e', R, s⟩, ⟨m, args, below, meth, c⟩, A, Q, v, nL⟩ := k
  obtain ⟨rfl, rfl, rfl, rfl, hx, hb, hml, hown, hts, hK, hA, hse, hlk⟩ := X
  subst hst
  intro H locs la hP hD hS hla
  have hCR : (isC ++ isR).map (fun i => cs[i]?) = (wc ++ wr).map some := by rw [List.map_append, List.map_append, hC, hR]
  have hP2 := ck_P hP hCR
  have hD2 := ck_D hD hn hCR
  have hPc : va_P v.1 vwCl wc.flatten H := ck_P hP hC
  have hDc : va_D A wc.flatten := va_D_iff.mpr ⟨by have := (va_D_iff.mp hD2).1; rw [List.flatten_append, List.pairwise_append] at this; exact this.1, fun x hx => (va_D_iff.mp hD2).2 x (by rw [List.flatten_append]; exact List.mem_append_left _ hx)⟩
  have hFc := ck_free hD2 hS hA
  obtain ⟨⟨hd, hcw, hini⟩, hcls, hins, hsel⟩ := F
  subst hcls
  have hsub : ∀ w ∈ wsV own idx y.cls y (Cond.code y bytes maxL ret :: wsL_law), w ∈ wsL_law := by
    intro w hw
    simp only [wsV, List.mem_append, List.mem_cons, List.not_mem_nil, or_false] at hw
    rcases hw with (rfl | rfl | rfl | rfl) | rfl | hw
    · exact hl
    · exact hins
    · exact hsel
    · exact hini
    · exact hcw
    · exact hw
  obtain ⟨h1, h2, h3, h4, h5, h6⟩ := hrm
  cases hv9 : vwCl[ci]? with
  | none => rw [hv9] at hc; cases hc
  | some x9 =>
    rw [hv9] at hc
    have e9 : x9.1 = y.cls := Option.some.inj hc
    refine vx_callg (vx_runV (As := As) (rest := rest) ⟨hx, hb, hml, hown, hts⟩ (hM H.size) (cwV n hts (gd_of0 hsub) rfl h1 h2 ⟨rfl, hd⟩ ⟨h3, h4⟩) ⟨bb_blind, by rw [← e9]; exact va_recv hK hPc hv9 hq, fun U hU hW => ⟨rfl, pre_of hK hse hS hFc hPc hDc hU hW⟩⟩ rfl hlen hla.1 rfl (lv_room hW) d ⟨h5, h6⟩) hS (fun q _ h => hFc q h) hFc (fun q _ h => hFc q h) (fun E c9 q9 w1 t H1 locs ht _ hB hk hS g1 g2 g3 => ?_) (fun r w1 t H1 locs ht hp hB hk hS => ?_)
    · obtain ⟨hp, hP1, hD1⟩ := hB
      rw [ht] at hP1
      obtain ⟨hP3, hD3⟩ := ck_join hP2 hD2 hk hFc hP1 hD1
      exact hX E w1 hp H1 locs la rest q9 c9 hP3 hD3 hS hla.1 g1 g2 g3
    · obtain ⟨hP1, hD1⟩ := hB
      rw [ht] at hP1
      obtain ⟨hP3, hD3⟩ := ck_join hP2 hD2 hk hFc hP1 hD1
      exact h r w1 hp H1 locs la hP3 hD3 hS hla
theorem g_xS {ρ : Type} {vl : ρ → Option Value} {y : MethodName} {bytes : ByteArray} {maxL n mc ms idx : Nat} {ret : Option FieldType} {rm : Room} {As rest : List Value} {wc wr : List va_W} {post : ρ → List va_W → Prop} {px : String → List va_W → Prop}
    (X : CX k l v cc own R nL) (hM : MX vl l v y bytes maxL ret rm As wc post px mc ms) (F : MFs y bytes maxL ret n) (hl : Cond.methodLink own idx y ∈ wsL_law) (d : decode cc pc = .ok (.invokestatic idx, 3))
    (isC isR : List Nat) (hC : isC.map (fun i => cs[i]?) = wc.map some) (hR : isR.map (fun i => cs[i]?) = wr.map some) (hn : va_nd (isC ++ isR) = true) (hlen : As.length = n) (hst : st = As.reverse ++ rest) (hW : (rest.map fun v => v.category).sum ≤ 8) (hrm : RmOk rm R maxL mc ms ce sl)
    (h : ∀ r w1, post r w1 → GG k (ce + mc) (sl + ms) (w1 ++ wr) lv (pc + 3) ((vl r).toList ++ rest)) (hX : ∀ E w1, px E w1 → GX k E (ce + mc) (sl + ms) (w1 ++ wr) pc) : GG k ce sl cs lv pc st := by
  obtain ⟨⟨p, l, e', R, s⟩, ⟨m, args, below, meth, c⟩, A, Q, v, nL⟩ := k
  obtain ⟨rfl, rfl, rfl, rfl, hx, hb, hml, hown, hts, hK, hA, hse, hlk⟩ := X
  subst hst
  intro H locs la hP hD hS hla
  have hCR : (isC ++ isR).map (fun i => cs[i]?) = (wc ++ wr).map some := by rw [List.map_append, List.map_append, hC, hR]
  have hP2 := ck_P hP hCR
  have hD2 := ck_D hD hn hCR
  have hPc : va_P v.1 vwCl wc.flatten H := ck_P hP hC
  have hDc : va_D A wc.flatten := va_D_iff.mpr ⟨by have := (va_D_iff.mp hD2).1; rw [List.flatten_append, List.pairwise_append] at this; exact this.1, fun x hx => (va_D_iff.mp hD2).2 x (by rw [List.flatten_append]; exact List.mem_append_left _ hx)⟩
  have hFc := ck_free hD2 hS hA
  obtain ⟨⟨hd, hcw, hini⟩, hsta⟩ := F
  have hsub : ∀ w ∈ va_wsS own idx y (Cond.code y bytes maxL ret :: wsL_law), w ∈ wsL_law := by
    intro w hw
    simp only [va_wsS, List.mem_append, List.mem_cons, List.not_mem_nil, or_false] at hw
    rcases hw with (rfl | rfl | rfl) | rfl | hw
    · exact hl
    · exact hsta
    · exact hini
    · exact hcw
    · exact hw
  obtain ⟨h1, h2, h3, h4, h5, h6⟩ := hrm
  refine vx_callg (vx_runS (As := As) (rest := rest) ⟨hx, hb, hml, hown, hts⟩ (hM H.size) (va_cwS n hts (gd_of0 hsub) rfl h1 h2 hd ⟨h3, h4⟩) ⟨bb_blind, fun U hU hW => ⟨rfl, pre_of hK hse hS hFc hPc hDc hU hW⟩⟩ rfl hlen hla.1 rfl (lv_room hW) d ⟨h5, h6⟩) hS (fun q _ h => hFc q h) hFc (fun q _ h => hFc q h) (fun E c9 q9 w1 t H1 locs ht _ hB hk hS g1 g2 g3 => ?_) (fun r w1 t H1 locs ht hp hB hk hS => ?_)
  · obtain ⟨hp, hP1, hD1⟩ := hB
    rw [ht] at hP1
    obtain ⟨hP3, hD3⟩ := ck_join hP2 hD2 hk hFc hP1 hD1
    exact hX E w1 hp H1 locs la rest q9 c9 hP3 hD3 hS hla.1 g1 g2 g3
  · obtain ⟨hP1, hD1⟩ := hB
    rw [ht] at hP1
    obtain ⟨hP3, hD3⟩ := ck_join hP2 hD2 hk hFc hP1 hD1
    exact h r w1 hp H1 locs la hP3 hD3 hS hla
end XCALLS

