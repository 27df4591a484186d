/-! MY LAYER: worlds in chunks; a walk's state (chunks, locals, pc, stack) in one judgement GG; contracts MM; a row an instruction. -/
abbrev VV : Type := va_G × (Nat → ClassId) × (Nat → Nat) × (Nat → Nat)
abbrev tyL (ci : Nat → ClassId) : List (ClassId × FieldType) := [(ci 0, .int), (ci 1, .long), (ci 2, .int), (ci 3, .char), (ci 4, .object RX3), (ci 5, .object RX0)]
def zI (z : Int) : Int32 := Int32.ofInt z
def bI (b : Bool) : Int32 := if b then 1 else 0
/-- links of nest mates' private fields and methods, String constants: what the tables say beside wsL_law -/
def nfL : List (String × Nat × String × String × String × String) := [(RX6, 66, RX3, "size", "I", RX6), (RX6, 110, RX3, "kinds", "[I", RX6), (RX6, 114, RX3, "targets", "[I", RX6), (RX6, 157, RX2, "examples", "[I", RX6), (RX6, 172, RX2, "lows", "[I", RX6), (RX6, 175, RX2, "highs", "[I", RX6), (RX6, 163, RX2, "endlessRuns", "I", RX6), (RX6, 166, RX2, "failedRuns", "I", RX6), (RX6, 169, RX2, "successfulRuns", "I", RX6), (RX6, 198, RX1, "count", "I", RX6), (RX6, 186, RX5, "length", "I", RX6), (RX6, 55, RX5, "loaded", "LClaimJudge$Program;", RX6)]
def nmL : List (String × Nat × MethodName × String) := [(RX6, 11, yX3_init, RX6), (RX6, 18, yX0_init, RX6), (RX1, 23, yX3_init, RX6), (RX1, 24, yX0_init, RX6), (RX6, 50, yX5_init, RX6), (RX5, 17, yX3_init, RX6), (RX0, 26, yX6_valueOf, RX6), (RX3, 51, yX6_statementAt, RX6), (RX3, 55, yX6_tripleAt, RX6), (RX3, 58, yX6_valueOf, RX6), (RX3, 61, yX6_withValue, RX6), (RX3, 65, yX6_placeOf, RX6), (RX4, 49, yX6_tripleAt, RX6), (RX4, 52, yX6_statementAt, RX6), (RX2, 94, yX6_statementAt, RX6), (RX2, 97, yX6_tripleAt, RX6), (RX2, 100, yX6_valueOf, RX6)]
def stL : List (String × Nat × String) := [(RX5, 81, "xyz"), (RX5, 93, "=<>#"), (RX6, 256, "there is no such number"), (RX6, 72, "the buffer is not a program"), (RX6, 93, "the buffer cannot be added"), (RX6, 100, "there is no statement"), (RX6, 259, "a value is out of range"), (RX6, 143, "a bound is out of range"), (RX6, 184, "code is out of range"), (RX6, 189, "the buffer is full"), (RX6, 200, "no state is saved")]
/-- what a throw in ClaimJudge asks of the tables: the class, its constructor's link, its class link -/
def xSites : List (String × Nat × Nat) := [("java/lang/IndexOutOfBoundsException", 258, 254), ("java/lang/IllegalArgumentException", 74, 70), ("java/lang/IllegalStateException", 102, 98)]
abbrev xNm : List String := ["java/lang/RuntimeException", "java/lang/Exception"]
def xAt (q : String × Nat × Nat) : List Cond := vx_atS RX6 q.2.1 q.1 xNm
def xDL : List MethodName := [Bundle.initS "java/lang/RuntimeException", Bundle.initS "java/lang/Exception", Bundle.initS "java/lang/Throwable"]
def EXw (U : State) : Prop := (∀ q ∈ xSites, ∀ w ∈ (xAt q).filter goodWord, w.before #[] U = true) ∧ (∀ d ∈ xDL, va_Nw (.declares d) U) ∧ (∀ q ∈ xSites, va_Nw (.castable q.1 q.1) U) ∧ va_AO RX3 U ∧ va_AO RX0 U
theorem EXw.warm {s U : State} (hW : s.WarmedH U.vm) (h : EXw s) : EXw U := ⟨fun q hq w hw => word_at hW (good_of_word (List.mem_filter.mp hw).2) (h.1 q hq w hw), fun d hd => va_Nw.warmD hW (h.2.1 d hd), fun q hq => va_Nw.warmC hW (h.2.2.1 q hq), h.2.2.2.1.moved hW.alike, h.2.2.2.2.moved hW.alike⟩
theorem EXw.same {s U : State} (hv : U.vm = s.vm) (h : EXw s) : EXw U := h.warm (hv ▸ State.WarmedH.refl s)
theorem xAt_B : xSites.all (fun q => ((xAt q).filter (fun w => !goodWord w)).all fun w => decide (w ∈ [Cond.declares (Bundle.initS "java/lang/RuntimeException"), Cond.declares (Bundle.initS "java/lang/Exception"), Cond.declares (Bundle.initS "java/lang/Throwable"), Cond.castable q.1 q.1])) = true := by decide +kernel
theorem EXw.at {s : State} {args : Array Value} (h : EXw s) {q : String × Nat × Nat} (hq : q ∈ xSites) : ∀ w ∈ xAt q, w.before args s = true := by
  refine vx_hat (B := [Cond.declares (Bundle.initS "java/lang/RuntimeException"), Cond.declares (Bundle.initS "java/lang/Exception"), Cond.declares (Bundle.initS "java/lang/Throwable"), Cond.castable q.1 q.1]) (fun w hw => word_at (State.WarmedH.refl s) (good_of_word (List.mem_filter.mp hw).2) (h.1 q hq w hw)) (fun w hw => of_decide_eq_true (List.all_eq_true.mp (List.all_eq_true.mp xAt_B q hq) w hw)) ?_
  exact vx_c (va_Nw.use rfl (h.2.1 _ (by simp [xDL]))) (vx_c (va_Nw.use rfl (h.2.1 _ (by simp [xDL]))) (vx_c (va_Nw.use rfl (h.2.1 _ (by simp [xDL]))) (vx_c (va_Nw.use rfl (h.2.2.1 q hq)) vx_n)))
def EN (v : VV) (U : State) : Prop := (∀ q ∈ nfL, va_Nw (.fieldLinkNest q.1 q.2.1 q.2.2.1 q.2.2.2.1 q.2.2.2.2.1 q.2.2.2.2.2) U) ∧ (∀ q ∈ nmL, va_Nw (.methodLinkNest q.1 q.2.1 q.2.2.1 q.2.2.2) U) ∧ (∀ (i : Nat) (q : String × Nat × String), stL[i]? = some q → vk_R q.1 q.2.1 q.2.2 (v.2.2.1 i) U) ∧ EXw U
/-- what a handler asks that its row be passed over -/
def NC9 (U : State) : Prop := va_Nc "java/lang/IllegalArgumentException" "java/lang/IndexOutOfBoundsException" U ∧ va_Nc "java/lang/IllegalStateException" "java/lang/IllegalArgumentException" U ∧ va_Nc "java/lang/IllegalStateException" "java/lang/IndexOutOfBoundsException" U
theorem NC9.moved {u U : State} (hvm : u.vm.Alike U.vm) (h : NC9 u) : NC9 U := ⟨h.1.moved hvm, h.2.1.moved hvm, h.2.2.moved hvm⟩
/-- the law's script: its cell, its length, its ints, kept where no string is named -/
def SX (v : VV) (A : Nat → Prop) (U : State) (H : Heap) : Prop := va_X (v.2.2.2 900) (v.2.2.1 900) (fun k => nI (v.2.2.1 (1000 + k))) U H ∧ v.2.2.2 900 < H.size ∧ ¬ A (v.2.2.2 900) ∧ NC9 U
theorem SX.kept {v : VV} {A : Nat → Prop} {U : State} {H H1 : Heap} (h : SX v A U H) (hq : ∀ a : Nat, a < H.size → ¬ A a → H1[a]? = H[a]?) : SX v A U H1 := by
  have e := hq _ h.2.1 h.2.2.1
  refine ⟨h.1.kept e, ?_, h.2.2⟩
  rw [Array.getElem?_eq_getElem h.2.1] at e
  exact (Array.getElem?_eq_some_iff.mp e).1
theorem SX.narrow {v : VV} {A B : Nat → Prop} {U : State} {H : Heap} (h : SX v A U H) (hAB : ∀ q, B q → A q) : SX v B U H := ⟨h.1, h.2.1, fun z => h.2.2.1 (hAB _ z), h.2.2.2⟩
theorem SX.moved {v : VV} {A : Nat → Prop} {u U : State} {H : Heap} (hvm : u.vm.Alike U.vm) (h : SX v A u H) : SX v A U H := ⟨h.1.moved hvm, h.2.1, h.2.2.1, h.2.2.2.moved hvm⟩
def SE (v : VV) (A : Nat → Prop) (U : State) (H : Heap) : Prop := EN v U ∧ va_Z "java/lang/String" "COMPACT_STRINGS" "Z" (.int 1) A U H ∧ vx_Zq Bundle.tN "UNASSIGNED_STACK" Bundle.steD A U H ∧ vx_Zq Bundle.tN "SUPPRESSED_SENTINEL" Bundle.listD A U H ∧ vk_S 2 [3, 4] [[120, 121, 122], [61, 60, 62, 35]] v.2.2.1 v.2.2.2 A U H ∧ SX v A U H
theorem EN.warm {v : VV} {s U : State} (hW : s.WarmedH U.vm) (h : EN v s) : EN v U := ⟨fun q hq => va_Nw.warmF hW (h.1 q hq), fun q hq => va_Nw.warmM hW (h.2.1 q hq), fun i q hq => vk_R.warm hW (h.2.2.1 i q hq), h.2.2.2.warm hW⟩
theorem EN.same {v : VV} {s U : State} (hv : U.vm = s.vm) (h : EN v s) : EN v U := ⟨fun q hq => va_Nw.same rfl hv.symm (h.1 q hq), fun q hq => va_Nw.same rfl hv.symm (h.2.1 q hq), fun i q hq => vk_R.same hv (h.2.2.1 i q hq), h.2.2.2.same hv⟩
theorem SE.kept {v : VV} {A : Nat → Prop} {U : State} {H H1 : Heap} (h : SE v A U H) (hq : ∀ a : Nat, a < H.size → ¬ A a → H1[a]? = H[a]?) : SE v A U H1 := ⟨h.1, h.2.1.kept hq, h.2.2.1.kept hq, h.2.2.2.1.kept hq, h.2.2.2.2.1.kept hq, h.2.2.2.2.2.kept hq⟩
theorem SE.narrow {v : VV} {A B : Nat → Prop} {U : State} {H : Heap} (h : SE v A U H) (hAB : ∀ q, B q → A q) : SE v B U H := ⟨h.1, h.2.1.narrow hAB, h.2.2.1.narrow hAB, h.2.2.2.1.narrow hAB, h.2.2.2.2.1.narrow hAB, h.2.2.2.2.2.narrow hAB⟩
theorem SE.warm {v : VV} {A : Nat → Prop} {s U : State} {H : Heap} (hW : s.WarmedH U.vm) (h : SE v A s H) : SE v A U H := ⟨h.1.warm hW, h.2.1.moved hW.alike, h.2.2.1.moved hW.alike, h.2.2.2.1.moved hW.alike, h.2.2.2.2.1.moved hW.alike, h.2.2.2.2.2.moved hW.alike⟩
theorem SE.calling {v : VV} {A : Nat → Prop} {U : State} {g : JFrame} {mk : MethodId} {a : Array Value} (h : SE v A U U.heap) : SE v A (U.calling g mk a) (U.calling g mk a).heap := by
  have e : Vm.Alike U.vm (U.calling g mk a).vm := Vm.Alike.refl U.vm
  exact ⟨EN.same (s := U) (U := U.calling g mk a) rfl h.1, h.2.1.moved e, h.2.2.1.moved e, h.2.2.2.1.moved e, h.2.2.2.2.1.moved e, h.2.2.2.2.2.moved e⟩
/-! ## chunks -/
theorem fl_get : ∀ (cs : List va_W) (i j : Nat) (ch : va_W) (q : Nat × va_E), cs[i]? = some ch → ch[j]? = some q → ∃ n, cs.flatten[n]? = some q ∧ ∀ q', cs.flatten.set n q' = (cs.set i (ch.set j q')).flatten
  | [], _, _, _, _, h, _ => by simp at h
  | c :: cs, 0, j, ch, q, h, hj => by
    obtain rfl : c = ch := by simpa using h
    have hl : j < c.length := (List.getElem?_eq_some_iff.mp hj).1
    refine ⟨j, ?_, fun q' => ?_⟩
    · rw [List.flatten_cons, List.getElem?_append_left hl]
      exact hj
    · rw [List.flatten_cons, List.set_append_left _ _ hl, List.set_cons_zero, List.flatten_cons]
  | c :: cs, i + 1, j, ch, q, h, hj => by
    have h : cs[i]? = some ch := by simpa using h
    obtain ⟨n, h1, h2⟩ := fl_get cs i j ch q h hj
    refine ⟨c.length + n, ?_, fun q' => ?_⟩
    · rw [List.flatten_cons, List.getElem?_append_right (by omega), Nat.add_sub_cancel_left]
      exact h1
    · rw [List.flatten_cons, List.set_append_right _ _ (by omega), Nat.add_sub_cancel_left, h2, List.set_cons_succ, List.flatten_cons]
def ap (p q : Nat × va_E) : Prop := p.1 ≠ q.1
theorem va_D_iff {A : Nat → Prop} {ws : va_W} : va_D A ws ↔ ws.Pairwise ap ∧ ∀ q ∈ ws, A q.1 := by
  constructor
  · intro h
    refine ⟨List.pairwise_iff_getElem.mpr fun i j hi hj hij e => ?_, fun q hq => ?_⟩
    · have := h.1 i j _ _ (List.getElem?_eq_getElem hi) (List.getElem?_eq_getElem hj) e
      omega
    · obtain ⟨i, hi⟩ := List.getElem?_of_mem hq
      exact h.2 i q hi
  · intro h
    refine ⟨fun i j p q hi hj e => ?_, fun k q hk => h.2 q (List.mem_of_getElem? hk)⟩
    obtain ⟨h1, e1⟩ := List.getElem?_eq_some_iff.mp hi
    obtain ⟨h2, e2⟩ := List.getElem?_eq_some_iff.mp hj
    rcases Nat.lt_trichotomy i j with z | z | z
    · exact absurd (by rw [e1, e2]; exact e) (List.pairwise_iff_getElem.mp h.1 i j h1 h2 z)
    · exact z
    · exact absurd (by rw [e1, e2]; exact e.symm) (List.pairwise_iff_getElem.mp h.1 j i h2 h1 z)
theorem va_P_iff {D : va_G} {cl : List vw_C} {ws : va_W} {H : Heap} : va_P D cl ws H ↔ ∀ q ∈ ws, va_at D cl q H := by
  constructor
  · intro h q hq
    obtain ⟨i, hi⟩ := List.getElem?_of_mem hq
    exact h i q hi
  · exact fun h k q hk => h q (List.mem_of_getElem? hk)
theorem ck_at {cs wc : List va_W} {is : List Nat} (hs : is.map (fun i => cs[i]?) = wc.map some) {k : Nat} {c : va_W} (hk : wc[k]? = some c) : ∃ i, is[k]? = some i ∧ cs[i]? = some c := by
  have h1 : (is.map (fun i => cs[i]?))[k]? = some (some c) := by rw [hs, List.getElem?_map, hk]; rfl
  rw [List.getElem?_map] at h1
  cases hi : is[k]? with
  | none => rw [hi] at h1; cases h1
  | some i => rw [hi] at h1; exact ⟨i, rfl, Option.some.inj h1⟩
theorem ck_P {D : va_G} {cl : List vw_C} {cs wc : List va_W} {H : Heap} {is : List Nat} (h : va_P D cl cs.flatten H) (hs : is.map (fun i => cs[i]?) = wc.map some) : va_P D cl wc.flatten H := by
  rw [va_P_iff] at h ⊢
  intro q hq
  obtain ⟨c, hc, hq⟩ := List.mem_flatten.mp hq
  obtain ⟨k, hk⟩ := List.getElem?_of_mem hc
  obtain ⟨i, -, h2⟩ := ck_at hs hk
  exact h q (List.mem_flatten.mpr ⟨c, List.mem_of_getElem? h2, hq⟩)
theorem ck_D {A : Nat → Prop} {cs wc : List va_W} {is : List Nat} (h : va_D A cs.flatten) (hn : va_nd is = true) (hs : is.map (fun i => cs[i]?) = wc.map some) : va_D A wc.flatten := by
  rw [va_D_iff] at h ⊢
  obtain ⟨h1, h2⟩ := h
  rw [List.pairwise_flatten] at h1 ⊢
  have mm : ∀ c ∈ wc, c ∈ cs := by
    intro c hc
    obtain ⟨k, hk⟩ := List.getElem?_of_mem hc
    obtain ⟨i, -, h2⟩ := ck_at hs hk
    exact List.mem_of_getElem? h2
  refine ⟨⟨fun c hc => h1.1 c (mm c hc), List.pairwise_iff_getElem.mpr fun i j hi hj hij => ?_⟩, fun q hq => ?_⟩
  · obtain ⟨a, ha1, ha2⟩ := ck_at hs (List.getElem?_eq_getElem hi)
    obtain ⟨b, hb1, hb2⟩ := ck_at hs (List.getElem?_eq_getElem hj)
    have hab : a ≠ b := fun e => by
      subst e
      have := va_nd_inj is hn i j a ha1 hb1
      omega
    obtain ⟨g1, e1⟩ := List.getElem?_eq_some_iff.mp ha2
    obtain ⟨g2, e2⟩ := List.getElem?_eq_some_iff.mp hb2
    rcases Nat.lt_or_gt_of_ne hab with z | z
    · have := List.pairwise_iff_getElem.mp h1.2 a b g1 g2 z
      rw [e1, e2] at this
      exact this
    · have := List.pairwise_iff_getElem.mp h1.2 b a g2 g1 z
      rw [e1, e2] at this
      exact fun x hx y hy e => this y hy x hx e.symm
  · obtain ⟨c, hc, hq⟩ := List.mem_flatten.mp hq
    exact h2 q (List.mem_flatten.mpr ⟨c, mm c hc, hq⟩)
theorem ck_join {A0 : Nat → Prop} {D : va_G} {cl : List vw_C} {wc wr w1 : List va_W} {H H1 : Heap} (hP : va_P D cl (wc ++ wr).flatten H) (hD : va_D A0 (wc ++ wr).flatten)
    (hk : ∀ q : Nat, q < H.size → ¬ va_A wc.flatten H.size q → H1[q]? = H[q]?) (hF : ∀ q, va_A wc.flatten H.size q → A0 q) (hP1 : va_P D cl w1.flatten H1) (hD1 : va_D (va_A wc.flatten H.size) w1.flatten) : va_P D cl (w1 ++ wr).flatten H1 ∧ va_D A0 (w1 ++ wr).flatten := by
  rw [List.flatten_append] at hP hD ⊢
  rw [va_D_iff] at hD hD1
  rw [List.pairwise_append] at hD
  have apart : ∀ q ∈ wr.flatten, q.1 < H.size ∧ ¬ va_A wc.flatten H.size q.1 := by
    intro q hq
    have hl := (va_P_iff.mp hP q (List.mem_append_right _ hq)).lt
    refine ⟨hl, fun h => ?_⟩
    rcases h with ⟨k2, e, h⟩ | h
    · exact hD.1.2.2 _ (List.mem_of_getElem? h) q hq rfl
    · omega
  refine ⟨va_P.app hP1 (va_P_iff.mpr fun q hq => ?_), va_D_iff.mpr ⟨List.pairwise_append.mpr ⟨hD1.1, hD.1.2.1, fun x hx y hy e => ?_⟩, fun q hq => ?_⟩⟩
  · obtain ⟨g1, g2⟩ := apart q hq
    exact (va_P_iff.mp hP q (List.mem_append_right _ hq)).kept (hk q.1 g1 g2)
  · exact (apart y hy).2 (by rw [← e]; exact hD1.2 x hx)
  · rcases List.mem_append.mp hq with h | h
    · exact hF _ (hD1.2 q h)
    · exact hD.2 q (List.mem_append_right _ h)
theorem ck_free {A0 : Nat → Prop} {wc wr : List va_W} {H0 H : Heap} {locs : List Loc} (hD : va_D A0 (wc ++ wr).flatten) (hS : va_S A0 H0 H locs) (hA : ∀ q, H0.size ≤ q → A0 q) : ∀ q, va_A wc.flatten H.size q → A0 q := by
  intro q h
  rcases h with ⟨k, e, h⟩ | h
  · exact (va_D_iff.mp hD).2 (q, e) (by rw [List.flatten_append]; exact List.mem_append_left _ (List.mem_of_getElem? h))
  · exact hA q (Nat.le_trans hS.1 h)
/-! ## the judgement -/
abbrev KX : Type := (Program × Launch × Env × Room × State) × (MethodId × Array Value × List Frame × Method × Code) × ((Nat → Prop) × (State → Prop) × VV × Nat)
def GG (k : KX) (ce sl : Nat) (cs : List va_W) (lv : List (Nat × Value)) (pc : Nat) (st : List Value) : Prop := match k with
  | ((p, l, e, R, s), (m, args, below, meth, c), (A, Q, v, nL)) => ∀ (H : Heap) (locs : List Loc) (la : Array Slot), va_P v.1 vwCl cs.flatten H → va_D A cs.flatten → va_S A s.heap H locs → lv_has la nL lv → W p l e R s m args below meth c H locs ce sl Q (F0 m pc la st)
def CX (k : KX) (l : Launch) (v : VV) (cc : ByteArray) (own : String) (R : Room) (nL : Nat) : Prop := match k with
  | ((p, l', e, R', s), (m, args, below, meth, c), (A, Q, v', nL')) => l' = l ∧ v' = v ∧ R' = R ∧ nL' = nL ∧ p.tables.exec = Jvm.exec ∧ c.code = cc ∧ c.maxLocals = nL ∧ s.vm.findClass own = some m.cls ∧ (∀ w ∈ wsL_law, w.before args s = true) ∧ va_K v.1 vwCl (tyL v.2.1) s ∧ (∀ q, s.heap.size ≤ q → A q) ∧ SE v A s s.heap ∧ meth.locks = false
section LAYER
variable {k : KX} {l : Launch} {v : VV} {cc : ByteArray} {own : String} {R : Room} {nL ce sl pc : Nat} {cs : List va_W} {lv : List (Nat × Value)} {st : List Value}
theorem g_cs {cs' : List va_W} (e : cs = cs') (h : GG k ce sl cs' lv pc st) : GG k ce sl cs lv pc st := e ▸ h
theorem g_flat {cs' : List va_W} (e : cs.flatten = cs'.flatten) (h : GG k ce sl cs' lv pc st) : GG k ce sl cs lv pc st := by
  obtain ⟨⟨p, l, e0, R, s⟩, ⟨m, args, below, meth, c⟩, A, Q, v, nL⟩ := k
  intro H locs la hP hD hS hl
  rw [e] at hP hD
  exact h H locs la hP hD hS hl
theorem g_lv {lv' : List (Nat × Value)} (ks : List Nat) (hl : lv_pick lv ks = lv') (h : GG k ce sl cs lv' pc st) : GG k ce sl cs lv pc st := by
  obtain ⟨⟨p, l, e0, R, s⟩, ⟨m, args, below, meth, c⟩, A, Q, v, nL⟩ := k
  exact fun H locs la hP hD hS hl' => h H locs la hP hD hS (lv_sub hl' ks hl)
theorem g_pick {cs' : List va_W} (is : List Nat) (hn : va_nd is = true) (hs : is.map (fun i => cs[i]?) = cs'.map some) (h : GG k ce sl cs' lv pc st) : GG k ce sl cs lv pc st := by
  obtain ⟨⟨p, l, e0, R, s⟩, ⟨m, args, below, meth, c⟩, A, Q, v, nL⟩ := k
  exact fun H locs la hP hD hS hl => h H locs la (ck_P hP hs) (ck_D hD hn hs) hS hl
theorem g_widen {c2 s2 : Nat} (h1 : ce ≤ c2) (h2 : sl ≤ s2) (h : GG k c2 s2 cs lv pc st) : GG k ce sl cs lv pc st := by
  obtain ⟨⟨p, l, e0, R, s⟩, ⟨m, args, below, meth, c⟩, A, Q, v, nL⟩ := k
  exact fun H locs la hP hD hS hl => W.widen h1 h2 (h H locs la hP hD hS hl)
theorem g_v {x y : Int32} (e : x = y) (h : GG k ce sl cs lv pc (.int y :: st)) : GG k ce sl cs lv pc (.int x :: st) := e ▸ h
theorem g_vl {x y : Int64} (e : x = y) (h : GG k ce sl cs lv pc (.long y :: st)) : GG k ce sl cs lv pc (.long x :: st) := e ▸ h
theorem g_goto {off : Int} {tgt : Nat} (X : CX k l v cc own R nL) (d : decode cc pc = .ok (.goto off, 3)) (ht : (pc : Int) + off = (tgt : Int)) (h : GG k ce sl cs lv tgt st) : GG k ce sl cs lv pc st := by
  obtain ⟨⟨p, l, e0, R, s⟩, ⟨m, args, below, meth, c⟩, A, Q, v, nL⟩ := k
  obtain ⟨rfl, rfl, rfl, rfl, hx, hb, -⟩ := X
  exact fun H locs la hP hD hS hl => lv_goto hx hb d ht (h H locs la hP hD hS hl)
theorem g_iconst {n : Int} {x : Int32} (X : CX k l v cc own R nL) (d : decode cc pc = .ok (.iconst n, 1)) (e : Int32.ofInt n = x) (h : GG k ce sl cs lv (pc + 1) (.int x :: st)) : GG k ce sl cs lv pc st := by
  obtain ⟨⟨p, l, e0, R, s⟩, ⟨m, args, below, meth, c⟩, A, Q, v, nL⟩ := k
  obtain ⟨rfl, rfl, rfl, rfl, hx, hb, -⟩ := X
  exact fun H locs la hP hD hS hl => lv_iconst hx hb d e (h H locs la hP hD hS hl)
theorem g_bipush {n : Int} {x : Int32} (X : CX k l v cc own R nL) (d : decode cc pc = .ok (.bipush n, 2)) (e : (Int8.ofInt n).toInt32 = x) (h : GG k ce sl cs lv (pc + 2) (.int x :: st)) : GG k ce sl cs lv pc st := by
  obtain ⟨⟨p, l, e0, R, s⟩, ⟨m, args, below, meth, c⟩, A, Q, v, nL⟩ := k
  obtain ⟨rfl, rfl, rfl, rfl, hx, hb, -⟩ := X
  exact fun H locs la hP hD hS hl => lv_bipush hx hb d e (h H locs la hP hD hS hl)
theorem g_sipush {n : Int} {x : Int32} (X : CX k l v cc own R nL) (d : decode cc pc = .ok (.sipush n, 3)) (e : (Int16.ofInt n).toInt32 = x) (h : GG k ce sl cs lv (pc + 3) (.int x :: st)) : GG k ce sl cs lv pc st := by
  obtain ⟨⟨p, l, e0, R, s⟩, ⟨m, args, below, meth, c⟩, A, Q, v, nL⟩ := k
  obtain ⟨rfl, rfl, rfl, rfl, hx, hb, -⟩ := X
  exact fun H locs la hP hD hS hl => lv_sipush hx hb d e (h H locs la hP hD hS hl)
theorem g_lconst {n : Fin 2} {x : Int64} (X : CX k l v cc own R nL) (d : decode cc pc = .ok (.lconst n, 1)) (e : Int64.ofNat (n : Nat) = x) (h : GG k ce sl cs lv (pc + 1) (.long x :: st)) : GG k ce sl cs lv pc st := by
  obtain ⟨⟨p, l, e0, R, s⟩, ⟨m, args, below, meth, c⟩, A, Q, v, nL⟩ := k
  obtain ⟨rfl, rfl, rfl, rfl, hx, hb, -⟩ := X
  exact fun H locs la hP hD hS hl => lv_lconst hx hb d e (h H locs la hP hD hS hl)
theorem g_ldc {idx : Nat} {x : Int32} (X : CX k l v cc own R nL) (hq : (Cond.constant own idx x) ∈ wsL_law) (d : decode cc pc = .ok (.ldc idx, 2)) (h : GG k ce sl cs lv (pc + 2) (.int x :: st)) : GG k ce sl cs lv pc st := by
  obtain ⟨⟨p, l, e0, R, s⟩, ⟨m, args, below, meth, c⟩, A, Q, v, nL⟩ := k
  obtain ⟨rfl, rfl, rfl, rfl, hx, hb, hml, hown, hts, -⟩ := X
  exact fun H locs la hP hD hS hl => lv_ldc hx hb hown (hts _ hq) d (h H locs la hP hD hS hl)
theorem g_ldcw {idx : Nat} {x : Int32} (X : CX k l v cc own R nL) (hq : (Cond.constant own idx x) ∈ wsL_law) (d : decode cc pc = .ok (.ldc_w idx, 3)) (h : GG k ce sl cs lv (pc + 3) (.int x :: st)) : GG k ce sl cs lv pc st := by
  obtain ⟨⟨p, l, e0, R, s⟩, ⟨m, args, below, meth, c⟩, A, Q, v, nL⟩ := k
  obtain ⟨rfl, rfl, rfl, rfl, hx, hb, hml, hown, hts, -⟩ := X
  exact fun H locs la hP hD hS hl => lv_ldcw hx hb hown (hts _ hq) d (h H locs la hP hD hS hl)
theorem g_ldc2 {idx : Nat} {x : Int64} (X : CX k l v cc own R nL) (hq : (Cond.constantLong own idx x) ∈ wsL_law) (d : decode cc pc = .ok (.ldc2_w idx, 3)) (h : GG k ce sl cs lv (pc + 3) (.long x :: st)) : GG k ce sl cs lv pc st := by
  obtain ⟨⟨p, l, e0, R, s⟩, ⟨m, args, below, meth, c⟩, A, Q, v, nL⟩ := k
  obtain ⟨rfl, rfl, rfl, rfl, hx, hb, hml, hown, hts, -⟩ := X
  exact fun H locs la hP hD hS hl => lv_ldc2 hx hb hown (hts _ hq) d (h H locs la hP hD hS hl)
theorem g_ldcS (i : Nat) {idx : Nat} {tx : String} (X : CX k l v cc own R nL) (hq : stL[i]? = some (own, idx, tx)) (d : decode cc pc = .ok (.ldc idx, 2)) (h : GG k ce sl cs lv (pc + 2) (.ref (v.2.2.1 i) :: st)) : GG k ce sl cs lv pc st := by
  obtain ⟨⟨p, l, e0, R, s⟩, ⟨m, args, below, meth, c⟩, A, Q, v, nL⟩ := k
  obtain ⟨rfl, rfl, rfl, rfl, hx, hb, hml, hown, hts, -, -, hse, -⟩ := X
  exact fun H locs la hP hD hS hl => va_ldcS hx hb hown (hse.1.2.2.1 i _ hq) d (h H locs la hP hD hS hl)
theorem g_iload_n {n : Fin 4} {i : Nat} {x : Int32} (X : CX k l v cc own R nL) (d : decode cc pc = .ok (.iload_n n, 1)) (j : Nat) (hi : (n : Nat) = i) (hj : lv[j]? = some (i, .int x)) (h : GG k ce sl cs lv (pc + 1) (.int x :: st)) : GG k ce sl cs lv pc st := by
  obtain ⟨⟨p, l, e0, R, s⟩, ⟨m, args, below, meth, c⟩, A, Q, v, nL⟩ := k
  obtain ⟨rfl, rfl, rfl, rfl, hx, hb, -⟩ := X
  exact fun H locs la hP hD hS hl => lv_iload_n hx hb d hi (lv_at hl j hj) (h H locs la hP hD hS hl)
theorem g_iload {i : Nat} {x : Int32} (X : CX k l v cc own R nL) (d : decode cc pc = .ok (.iload i, 2)) (j : Nat) (hj : lv[j]? = some (i, .int x)) (h : GG k ce sl cs lv (pc + 2) (.int x :: st)) : GG k ce sl cs lv pc st := by
  obtain ⟨⟨p, l, e0, R, s⟩, ⟨m, args, below, meth, c⟩, A, Q, v, nL⟩ := k
  obtain ⟨rfl, rfl, rfl, rfl, hx, hb, -⟩ := X
  exact fun H locs la hP hD hS hl => lv_iload hx hb d (lv_at hl j hj) (h H locs la hP hD hS hl)
theorem g_aload_n {n : Fin 4} {i : Nat} {x : Nat} (X : CX k l v cc own R nL) (d : decode cc pc = .ok (.aload_n n, 1)) (j : Nat) (hi : (n : Nat) = i) (hj : lv[j]? = some (i, .ref x)) (h : GG k ce sl cs lv (pc + 1) (.ref x :: st)) : GG k ce sl cs lv pc st := by
  obtain ⟨⟨p, l, e0, R, s⟩, ⟨m, args, below, meth, c⟩, A, Q, v, nL⟩ := k
  obtain ⟨rfl, rfl, rfl, rfl, hx, hb, -⟩ := X
  exact fun H locs la hP hD hS hl => lv_aload_n hx hb d hi (lv_at hl j hj) (h H locs la hP hD hS hl)
theorem g_aload {i : Nat} {x : Nat} (X : CX k l v cc own R nL) (d : decode cc pc = .ok (.aload i, 2)) (j : Nat) (hj : lv[j]? = some (i, .ref x)) (h : GG k ce sl cs lv (pc + 2) (.ref x :: st)) : GG k ce sl cs lv pc st := by
  obtain ⟨⟨p, l, e0, R, s⟩, ⟨m, args, below, meth, c⟩, A, Q, v, nL⟩ := k
  obtain ⟨rfl, rfl, rfl, rfl, hx, hb, -⟩ := X
  exact fun H locs la hP hD hS hl => lv_aload hx hb d (lv_at hl j hj) (h H locs la hP hD hS hl)
theorem g_lload_n {n : Fin 4} {i : Nat} {x : Int64} (X : CX k l v cc own R nL) (d : decode cc pc = .ok (.lload_n n, 1)) (j : Nat) (hi : (n : Nat) = i) (hj : lv[j]? = some (i, .long x)) (h : GG k ce sl cs lv (pc + 1) (.long x :: st)) : GG k ce sl cs lv pc st := by
  obtain ⟨⟨p, l, e0, R, s⟩, ⟨m, args, below, meth, c⟩, A, Q, v, nL⟩ := k
  obtain ⟨rfl, rfl, rfl, rfl, hx, hb, -⟩ := X
  exact fun H locs la hP hD hS hl => lv_lload_n hx hb d hi (lv_at hl j hj) (h H locs la hP hD hS hl)
theorem g_istore_n {n : Fin 4} {i : Nat} {x : Int32} {lv' : List (Nat × Value)} (X : CX k l v cc own R nL) (d : decode cc pc = .ok (.istore_n n, 1)) (hi : (n : Nat) = i) (hn : i < nL) (hl' : (i, Value.int x) :: lv.filter (fun q => !(q.1 == i) && !(q.1 + 1 == i && q.2.category == 2)) = lv') (h : GG k ce sl cs lv' (pc + 1) st) : GG k ce sl cs lv pc (.int x :: st) := by
  obtain ⟨⟨p, l, e0, R, s⟩, ⟨m, args, below, meth, c⟩, A, Q, v, nL⟩ := k
  obtain ⟨rfl, rfl, rfl, rfl, hx, hb, -⟩ := X
  exact fun H locs la hP hD hS hl => lv_istore_n hx hb d hi hl hn hl' (fun ls hl => h H locs ls hP hD hS hl)
theorem g_istore {i : Nat} {x : Int32} {lv' : List (Nat × Value)} (X : CX k l v cc own R nL) (d : decode cc pc = .ok (.istore i, 2)) (hn : i < nL) (hl' : (i, Value.int x) :: lv.filter (fun q => !(q.1 == i) && !(q.1 + 1 == i && q.2.category == 2)) = lv') (h : GG k ce sl cs lv' (pc + 2) st) : GG k ce sl cs lv pc (.int x :: st) := by
  obtain ⟨⟨p, l, e0, R, s⟩, ⟨m, args, below, meth, c⟩, A, Q, v, nL⟩ := k
  obtain ⟨rfl, rfl, rfl, rfl, hx, hb, -⟩ := X
  exact fun H locs la hP hD hS hl => lv_istore hx hb d hl hn hl' (fun ls hl => h H locs ls hP hD hS hl)
theorem g_astore_n {n : Fin 4} {i : Nat} {x : Nat} {lv' : List (Nat × Value)} (X : CX k l v cc own R nL) (d : decode cc pc = .ok (.astore_n n, 1)) (hi : (n : Nat) = i) (hn : i < nL) (hl' : (i, Value.ref x) :: lv.filter (fun q => !(q.1 == i) && !(q.1 + 1 == i && q.2.category == 2)) = lv') (h : GG k ce sl cs lv' (pc + 1) st) : GG k ce sl cs lv pc (.ref x :: st) := by
  obtain ⟨⟨p, l, e0, R, s⟩, ⟨m, args, below, meth, c⟩, A, Q, v, nL⟩ := k
  obtain ⟨rfl, rfl, rfl, rfl, hx, hb, -⟩ := X
  exact fun H locs la hP hD hS hl => lv_astore_n hx hb d hi hl hn hl' (fun ls hl => h H locs ls hP hD hS hl)
theorem g_astore {i : Nat} {x : Nat} {lv' : List (Nat × Value)} (X : CX k l v cc own R nL) (d : decode cc pc = .ok (.astore i, 2)) (hn : i < nL) (hl' : (i, Value.ref x) :: lv.filter (fun q => !(q.1 == i) && !(q.1 + 1 == i && q.2.category == 2)) = lv') (h : GG k ce sl cs lv' (pc + 2) st) : GG k ce sl cs lv pc (.ref x :: st) := by
  obtain ⟨⟨p, l, e0, R, s⟩, ⟨m, args, below, meth, c⟩, A, Q, v, nL⟩ := k
  obtain ⟨rfl, rfl, rfl, rfl, hx, hb, -⟩ := X
  exact fun H locs la hP hD hS hl => lv_astore hx hb d hl hn hl' (fun ls hl => h H locs ls hP hD hS hl)
theorem g_lstore_n {n : Fin 4} {i : Nat} {x : Int64} {lv' : List (Nat × Value)} (X : CX k l v cc own R nL) (d : decode cc pc = .ok (.lstore_n n, 1)) (hi : (n : Nat) = i) (hn : i + 1 < nL) (hl' : (i, Value.long x) :: lv.filter (fun q => !(q.1 == i) && (!(q.1 == i + 1) && !(q.1 + 1 == i && q.2.category == 2))) = lv') (h : GG k ce sl cs lv' (pc + 1) st) : GG k ce sl cs lv pc (.long x :: st) := by
  obtain ⟨⟨p, l, e0, R, s⟩, ⟨m, args, below, meth, c⟩, A, Q, v, nL⟩ := k
  obtain ⟨rfl, rfl, rfl, rfl, hx, hb, -⟩ := X
  exact fun H locs la hP hD hS hl => lv_lstore_n hx hb d hi hl hn hl' (fun ls hl => h H locs ls hP hD hS hl)
theorem g_iinc {i j : Nat} {n : Int} {x y : Int32} {lv' : List (Nat × Value)} (X : CX k l v cc own R nL) (d : decode cc pc = .ok (.iinc i n, 3)) (hj : lv[j]? = some (i, .int x)) (hv : x + Int32.ofInt n = y) (hn : i < nL) (hl' : (i, Value.int y) :: lv.filter (fun q => !(q.1 == i) && !(q.1 + 1 == i && q.2.category == 2)) = lv') (h : GG k ce sl cs lv' (pc + 3) st) : GG k ce sl cs lv pc st := by
  obtain ⟨⟨p, l, e0, R, s⟩, ⟨m, args, below, meth, c⟩, A, Q, v, nL⟩ := k
  obtain ⟨rfl, rfl, rfl, rfl, hx, hb, -⟩ := X
  exact fun H locs la hP hD hS hl => lv_iinc hx hb d hl hj hv hn hl' (fun ls hl => h H locs ls hP hD hS hl)
end LAYER

