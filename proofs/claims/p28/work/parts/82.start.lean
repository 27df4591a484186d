/-! ## the law: what holds at its start -/
def gvL : List Cond := flatC (Jvm.Cond.and given_1 narrow_1)
set_option maxHeartbeats 4000000 in
set_option maxRecDepth 100000 in
theorem xAt_in : xSites.all (fun q => ((xAt q).filter goodWord).all (fun w => decide (w ∈ lw_tbl))) = true := by decide +kernel
theorem str_at {s : State} {b k : Nat} {own : String} (h : (Cond.exactly (.string own k) "java/lang/String").before #[.ref b] s = true) : ∃ a, (Term.string own k).eval #[.ref b] s none [] s = some (.ref a) := by
  obtain ⟨a, c, cA, kA, q1, -⟩ := Cond.exactly_spec (args := #[Value.ref b]) (first := s) (o := none) (s := s) (idx := []) (t := .string own k) (cls := "java/lang/String") h
  exact ⟨a, q1⟩
theorem ar_prim {s : State} {av : Array Value} {ty : FieldType} (hRA : ∀ c, s.vm.findClass ("[" ++ ty.toString) = some c → va_RA s c ty) (h : (Cond.arrayClass ty).before av s = true) : ∃ c, ArrOfT s c ty ∧ va_RA s c ty := by
  obtain ⟨c, kA, comp, h1, h2, h3⟩ := Cond.arrayClass_spec (args := av) (first := s) (o := none) (s := s) (idx := []) h
  exact ⟨c, fun n z => ⟨fun k h => (by cases h), kA, h2, comp, h3⟩, hRA c h1⟩
theorem ar_obj {s : State} {av : Array Value} {C : String} (h : (Cond.arrayOver (.object C)).before av s = true) : ∃ c, ArrOfT s c (.object C) ∧ va_RA s c (.object C) := by
  obtain ⟨comp, c, k, h1, h2, h3, h4, h5⟩ := Cond.arrayOver_spec (args := av) (first := s) (s := s) (o := none) (idx := []) h
  exact ⟨c, fun n z => ⟨fun k h => (by cases h), k, h3, comp, h4⟩, k, comp, h3, h4, h1, h5⟩
theorem vk_S_cong {N : Nat} {len : List Nat} {byt : List (List Int32)} {adK aK' adV : Nat → Nat} {A : Nat → Prop} {U : State} {H : Heap} (h : vk_S N len byt adK adV A U H) (e : ∀ i, i < N → aK' i = adK i) : vk_S N len byt aK' adV A U H := ⟨fun i hi => by rw [e i hi]; exact h.1 i hi, fun i j hi hj => by rw [e i hi, e j hj]; exact h.2 i j hi hj⟩
theorem vk_S_cong2 {N : Nat} {len : List Nat} {byt : List (List Int32)} {adK aK' adV aV' : Nat → Nat} {A : Nat → Prop} {U : State} {H : Heap} (h : vk_S N len byt adK adV A U H) (e : ∀ i, i < N → aK' i = adK i) (e2 : ∀ i, i < N → aV' i = adV i) : vk_S N len byt aK' aV' A U H := ⟨fun i hi => by rw [e i hi, e2 i hi]; exact h.1 i hi, fun i j hi hj => by rw [e i hi, e j hj]; exact h.2 i j hi hj⟩
theorem nI_bv (x : Int32) : nI x.toBitVec.toNat = x := by
  apply Int32.toBitVec_inj.mp
  apply BitVec.eq_of_toNat_eq
  exact pk_tn x.toBitVec.isLt
theorem va_X_cong {b L : Nat} {xs ys : Nat → Int32} {U : State} {H : Heap} (h : va_X b L xs U H) (e : ∀ j, ys j = xs j) : va_X b L ys U H := by
  obtain ⟨scr, h1, h2, h3, h4, h5⟩ := h
  exact ⟨scr, h1, h2, h3, h4, fun j hj => by rw [e j]; exact h5 j hj⟩
theorem env_EX {s : State} {b : Nat} (hts : ∀ w ∈ lw_tbl, w.before #[Value.ref b] s = true) : EXw s := by
  refine ⟨fun q hq w hw => ?_, fun d hd => ?_, fun q hq => ?_, ?_, ?_⟩
  · have h1 := of_decide_eq_true (List.all_eq_true.mp (List.all_eq_true.mp xAt_in q hq) w hw)
    exact word_at (State.WarmedH.refl s) (good_of_word (List.mem_filter.mp hw).2) (hts w h1)
  · simp only [xDL, List.mem_cons, List.not_mem_nil, or_false] at hd
    rcases hd with rfl | rfl | rfl
    · exact va_Nw.of rfl (hts _ (qT_1 (List.mem_of_getElem? (i := 229) rfl)))
    · exact va_Nw.of rfl (hts _ (qT_1 (List.mem_of_getElem? (i := 231) rfl)))
    · exact va_Nw.of rfl (hts _ (qT_1 (List.mem_of_getElem? (i := 233) rfl)))
  · simp only [xSites, List.mem_cons, List.not_mem_nil, or_false] at hq
    rcases hq with rfl | rfl | rfl
    · exact va_Nw.of rfl (hts _ (qT_3 (List.mem_of_getElem? (i := 94) rfl)))
    · exact va_Nw.of rfl (hts _ (qT_2 (List.mem_of_getElem? (i := 117) rfl)))
    · exact va_Nw.of rfl (hts _ (qT_1 (List.mem_of_getElem? (i := 227) rfl)))
  · exact va_AO.of (hts _ (qT_1 (List.mem_of_getElem? (i := 144) rfl)))
  · exact va_AO.of (hts _ (qT_1 (List.mem_of_getElem? (i := 146) rfl)))
theorem env_nf {s : State} {b : Nat} (hts : ∀ w ∈ lw_tbl, w.before #[Value.ref b] s = true) : ∀ q ∈ nfL, va_Nw (.fieldLinkNest q.1 q.2.1 q.2.2.1 q.2.2.2.1 q.2.2.2.2.1 q.2.2.2.2.2) s := by
  intro q hq
  simp only [nfL, List.mem_cons, List.not_mem_nil, or_false] at hq
  rcases hq with rfl | rfl | rfl | rfl | rfl | rfl | rfl | rfl | rfl | rfl | rfl | rfl
  · exact va_Nw.of rfl (hts _ (qT_1 (List.mem_of_getElem? (i := 36) rfl)))
  · exact va_Nw.of rfl (hts _ (qT_1 (List.mem_of_getElem? (i := 38) rfl)))
  · exact va_Nw.of rfl (hts _ (qT_1 (List.mem_of_getElem? (i := 44) rfl)))
  · exact va_Nw.of rfl (hts _ (qT_1 (List.mem_of_getElem? (i := 100) rfl)))
  · exact va_Nw.of rfl (hts _ (qT_1 (List.mem_of_getElem? (i := 102) rfl)))
  · exact va_Nw.of rfl (hts _ (qT_1 (List.mem_of_getElem? (i := 104) rfl)))
  · exact va_Nw.of rfl (hts _ (qT_1 (List.mem_of_getElem? (i := 106) rfl)))
  · exact va_Nw.of rfl (hts _ (qT_1 (List.mem_of_getElem? (i := 108) rfl)))
  · exact va_Nw.of rfl (hts _ (qT_1 (List.mem_of_getElem? (i := 110) rfl)))
  · exact va_Nw.of rfl (hts _ (qT_1 (List.mem_of_getElem? (i := 153) rfl)))
  · exact va_Nw.of rfl (hts _ (qT_1 (List.mem_of_getElem? (i := 173) rfl)))
  · exact va_Nw.of rfl (hts _ (qT_1 (List.mem_of_getElem? (i := 175) rfl)))
theorem env_nm {s : State} {b : Nat} (hts : ∀ w ∈ lw_tbl, w.before #[Value.ref b] s = true) : ∀ q ∈ nmL, va_Nw (.methodLinkNest q.1 q.2.1 q.2.2.1 q.2.2.2) s := by
  intro q hq
  simp only [nmL, List.mem_cons, List.not_mem_nil, or_false] at hq
  rcases hq with rfl | rfl | rfl | rfl | rfl | rfl | rfl | rfl | rfl | rfl | rfl | rfl | rfl | rfl | rfl | rfl | rfl
  · exact va_Nw.of rfl (hts _ (qT_1 (List.mem_of_getElem? (i := 31) rfl)))
  · exact va_Nw.of rfl (hts _ (qT_1 (List.mem_of_getElem? (i := 63) rfl)))
  · exact va_Nw.of rfl (hts _ (qT_1 (List.mem_of_getElem? (i := 147) rfl)))
  · exact va_Nw.of rfl (hts _ (qT_1 (List.mem_of_getElem? (i := 148) rfl)))
  · exact va_Nw.of rfl (hts _ (qT_1 (List.mem_of_getElem? (i := 165) rfl)))
  · exact va_Nw.of rfl (hts _ (qT_1 (List.mem_of_getElem? (i := 170) rfl)))
  · exact va_Nw.of rfl (hts _ (qT_3 (List.mem_of_getElem? (i := 150) rfl)))
  · exact va_Nw.of rfl (hts _ (qT_3 (List.mem_of_getElem? (i := 162) rfl)))
  · exact va_Nw.of rfl (hts _ (qT_3 (List.mem_of_getElem? (i := 165) rfl)))
  · exact va_Nw.of rfl (hts _ (qT_3 (List.mem_of_getElem? (i := 168) rfl)))
  · exact va_Nw.of rfl (hts _ (qT_3 (List.mem_of_getElem? (i := 169) rfl)))
  · exact va_Nw.of rfl (hts _ (qT_3 (List.mem_of_getElem? (i := 172) rfl)))
  · exact va_Nw.of rfl (hts _ (qT_3 (List.mem_of_getElem? (i := 186) rfl)))
  · exact va_Nw.of rfl (hts _ (qT_3 (List.mem_of_getElem? (i := 187) rfl)))
  · exact va_Nw.of rfl (hts _ (qT_3 (List.mem_of_getElem? (i := 208) rfl)))
  · exact va_Nw.of rfl (hts _ (qT_3 (List.mem_of_getElem? (i := 209) rfl)))
  · exact va_Nw.of rfl (hts _ (qT_3 (List.mem_of_getElem? (i := 210) rfl)))
set_option maxHeartbeats 4000000 in
set_option maxRecDepth 100000 in
theorem env_st {s : State} {b : Nat} (hg : ∀ w : Cond, w ∈ gvL → w.before #[Value.ref b] s = true) {A : Nat → Prop} (hA : ∀ a : Nat, a < s.heap.size → ¬ A a) : ∃ adK adV : Nat → Nat, vk_S 2 [3, 4] [[120, 121, 122], [61, 60, 62, 35]] adK adV A s s.heap ∧ ∀ i : Nat, i < 2 → ((fun i : Nat => if i = 0 then Term.string "ClaimJudge$Text" 81 else Term.string "ClaimJudge$Text" 93) i).eval #[Value.ref b] s none [] s = some (.ref (adK i)) := by
  exact vk_Sof (args := #[Value.ref b]) (tm := (fun i : Nat => if i = 0 then Term.string "ClaimJudge$Text" 81 else Term.string "ClaimJudge$Text" 93)) (fun i hi => by rcases (show i = 0 ∨ i = 1 by omega) with rfl | rfl <;> decide) (fun i hi => by rcases (show i = 0 ∨ i = 1 by omega) with rfl | rfl; exact hg (.exactly (.string "ClaimJudge$Text" 81) "java/lang/String") (by decide +kernel); exact hg (.exactly (.string "ClaimJudge$Text" 93) "java/lang/String") (by decide +kernel)) (fun i hi => by rcases (show i = 0 ∨ i = 1 by omega) with rfl | rfl; exact hg (.eq (.field (.string "ClaimJudge$Text" 81) "java/lang/String" "coder" "B") (.int 0)) (by decide +kernel); exact hg (.eq (.field (.string "ClaimJudge$Text" 93) "java/lang/String" "coder" "B") (.int 0)) (by decide +kernel)) (fun i hi => by rcases (show i = 0 ∨ i = 1 by omega) with rfl | rfl; exact hg (.arrayOf (.field (.string "ClaimJudge$Text" 81) "java/lang/String" "value" "[B") .byte) (by decide +kernel); exact hg (.arrayOf (.field (.string "ClaimJudge$Text" 93) "java/lang/String" "value" "[B") .byte) (by decide +kernel)) (fun i hi => by rcases (show i = 0 ∨ i = 1 by omega) with rfl | rfl; exact hg (.eq (.length (.field (.string "ClaimJudge$Text" 81) "java/lang/String" "value" "[B")) (.int 3)) (by decide +kernel); exact hg (.eq (.length (.field (.string "ClaimJudge$Text" 93) "java/lang/String" "value" "[B")) (.int 4)) (by decide +kernel)) (fun i hi j hj => by rcases (show i = 0 ∨ i = 1 by omega) with rfl | rfl; rcases (show j = 0 ∨ j = 1 ∨ j = 2 from (by have hj : j < 3 := hj; omega)) with rfl | rfl | rfl; exact hg (.eq (.elem (.field (.string "ClaimJudge$Text" 81) "java/lang/String" "value" "[B") (.int 0)) (.int 120)) (by decide +kernel); exact hg (.eq (.elem (.field (.string "ClaimJudge$Text" 81) "java/lang/String" "value" "[B") (.int 1)) (.int 121)) (by decide +kernel); exact hg (.eq (.elem (.field (.string "ClaimJudge$Text" 81) "java/lang/String" "value" "[B") (.int 2)) (.int 122)) (by decide +kernel); rcases (show j = 0 ∨ j = 1 ∨ j = 2 ∨ j = 3 from (by have hj : j < 4 := hj; omega)) with rfl | rfl | rfl | rfl; exact hg (.eq (.elem (.field (.string "ClaimJudge$Text" 93) "java/lang/String" "value" "[B") (.int 0)) (.int 61)) (by decide +kernel); exact hg (.eq (.elem (.field (.string "ClaimJudge$Text" 93) "java/lang/String" "value" "[B") (.int 1)) (.int 60)) (by decide +kernel); exact hg (.eq (.elem (.field (.string "ClaimJudge$Text" 93) "java/lang/String" "value" "[B") (.int 2)) (.int 62)) (by decide +kernel); exact hg (.eq (.elem (.field (.string "ClaimJudge$Text" 93) "java/lang/String" "value" "[B") (.int 3)) (.int 35)) (by decide +kernel)) (fun i j hi hj hij => by rcases (show (i = 0 ∧ j = 1) ∨ (i = 1 ∧ j = 0) by omega) with ⟨rfl, rfl⟩ | ⟨rfl, rfl⟩; exact Or.inl (hg (.not (.eq (.string "ClaimJudge$Text" 81) (.string "ClaimJudge$Text" 93))) (by decide +kernel)); exact Or.inr (hg (.not (.eq (.string "ClaimJudge$Text" 81) (.string "ClaimJudge$Text" 93))) (by decide +kernel))) hA
set_option maxHeartbeats 4000000 in
set_option maxRecDepth 100000 in
theorem env_all {s : State} {b L : Nat} {xs : Nat → Int32} (hX : va_X b L xs s s.heap) (hbl : b < s.heap.size) (hts : ∀ w ∈ lw_tbl, w.before #[Value.ref b] s = true) (hg : ∀ w : Cond, w ∈ gvL → w.before #[Value.ref b] s = true) : ∃ v : VV, va_K v.1 vwCl (tyL v.2.1) s ∧ SE v (fun q => s.heap.size ≤ q) s s.heap ∧ v.2.2.2 900 = b ∧ v.2.2.1 900 = L := by
  have h2 : ∀ w ∈ wsL_law, w.before #[Value.ref b] s = true := fun w hw => hts w (wsL_law_in w hw)
  have hA : ∀ a : Nat, a < s.heap.size → ¬ (fun q => s.heap.size ≤ q) a := fun a h => Nat.not_le.mpr h
  obtain ⟨c0, i0, k0⟩ := u_known (C := RX0) (T := TX0) (N := 2) h2 inlX0 (h2 _ q_1_15)
  obtain ⟨c1, i1, k1⟩ := u_known (C := RX1) (T := TX1) (N := 4) h2 inlX1 (h2 _ q_2_3)
  obtain ⟨c2, i2, k2⟩ := u_known (C := RX2) (T := TX2) (N := 11) h2 inlX2 (h2 _ q_1_23)
  obtain ⟨c3, i3, k3⟩ := u_known (C := RX3) (T := TX3) (N := 7) h2 inlX3 (h2 _ q_1_11)
  obtain ⟨c4, i4, k4⟩ := u_known (C := RX4) (T := TX4) (N := 3) h2 inlX4 (h2 _ q_1_19)
  obtain ⟨c5, i5, k5⟩ := u_known (C := RX5) (T := TX5) (N := 9) h2 inlX5 (h2 _ q_2_7)
  obtain ⟨c6, i6, k6⟩ := u_known (C := RX6) (T := TX6) (N := 6) h2 inlX6 (h2 _ q_1_1)
  obtain ⟨t0, ta0, tb0⟩ := ar_prim (ty := .int) (fun _ h => h) (hts _ (qT_1 (List.mem_of_getElem? (i := 60) rfl)))
  obtain ⟨t1, ta1, tb1⟩ := ar_prim (ty := .long) (fun _ h => h) (hts _ (qT_1 (List.mem_of_getElem? (i := 136) rfl)))
  obtain ⟨t2, ta2, tb2⟩ := ar_prim (ty := .int) (fun _ h => h) (hts _ (qT_1 (List.mem_of_getElem? (i := 60) rfl)))
  obtain ⟨t3, ta3, tb3⟩ := ar_prim (ty := .char) (fun _ h => h) (hts _ (qT_1 (List.mem_of_getElem? (i := 201) rfl)))
  obtain ⟨t4, ta4, tb4⟩ := ar_obj (C := RX3) (hts _ (qT_1 (List.mem_of_getElem? (i := 144) rfl)))
  obtain ⟨t5, ta5, tb5⟩ := ar_obj (C := RX0) (hts _ (qT_1 (List.mem_of_getElem? (i := 146) rfl)))
  obtain ⟨adK, adV, hSt, hev⟩ := env_st hg hA
  obtain ⟨s2, hs2⟩ := str_at (hg (.exactly (.string "ClaimJudge" 256) "java/lang/String") (by decide +kernel))
  obtain ⟨s3, hs3⟩ := str_at (hg (.exactly (.string "ClaimJudge" 72) "java/lang/String") (by decide +kernel))
  obtain ⟨s4, hs4⟩ := str_at (hg (.exactly (.string "ClaimJudge" 93) "java/lang/String") (by decide +kernel))
  obtain ⟨s5, hs5⟩ := str_at (hg (.exactly (.string "ClaimJudge" 100) "java/lang/String") (by decide +kernel))
  obtain ⟨s6, hs6⟩ := str_at (hg (.exactly (.string "ClaimJudge" 259) "java/lang/String") (by decide +kernel))
  obtain ⟨s7, hs7⟩ := str_at (hg (.exactly (.string "ClaimJudge" 143) "java/lang/String") (by decide +kernel))
  obtain ⟨s8, hs8⟩ := str_at (hg (.exactly (.string "ClaimJudge" 184) "java/lang/String") (by decide +kernel))
  obtain ⟨s9, hs9⟩ := str_at (hg (.exactly (.string "ClaimJudge" 189) "java/lang/String") (by decide +kernel))
  obtain ⟨s10, hs10⟩ := str_at (hg (.exactly (.string "ClaimJudge" 200) "java/lang/String") (by decide +kernel))
  refine ⟨((fun k => [c0, c1, c2, c3, c4, c5, c6].getD k 0, fun k => [i0, i1, i2, i3, i4, i5, i6].getD k (fun _ => 0)), (fun k => [t0, t1, t2, t3, t4, t5].getD k 0), (fun k => if k < 2 then adK k else if k < 900 then [s2, s3, s4, s5, s6, s7, s8, s9, s10].getD (k - 2) 0 else if k = 900 then L else (xs (k - 1000)).toBitVec.toNat), (fun k => if k = 900 then b else adV k)), ⟨fun c q hc => ?_, fun k q hk => ?_⟩, ⟨⟨env_nf hts, env_nm hts, fun i q hq => ?_, env_EX hts⟩, ?_, ?_, ?_, vk_S_cong2 hSt (fun i hi => if_pos hi) (fun i hi => if_neg (by omega)), ⟨va_X_cong hX (fun j => ?_), hbl, Nat.not_le.mpr hbl, ?_, ?_, ?_⟩⟩, rfl, rfl⟩
  · match c, hc with
    | 0, hc => cases hc; exact k0
    | 1, hc => cases hc; exact k1
    | 2, hc => cases hc; exact k2
    | 3, hc => cases hc; exact k3
    | 4, hc => cases hc; exact k4
    | 5, hc => cases hc; exact k5
    | 6, hc => cases hc; exact k6
    | c + 7, hc => first | cases hc | simp at hc
  · match k, hk with
    | 0, hk => cases hk; exact ⟨ta0, tb0⟩
    | 1, hk => cases hk; exact ⟨ta1, tb1⟩
    | 2, hk => cases hk; exact ⟨ta2, tb2⟩
    | 3, hk => cases hk; exact ⟨ta3, tb3⟩
    | 4, hk => cases hk; exact ⟨ta4, tb4⟩
    | 5, hk => cases hk; exact ⟨ta5, tb5⟩
    | k + 6, hk => first | cases hk | simp at hk
  · match i, hq with
    | 0, hq => cases hq; exact vk_R.of (hts _ (qT_2 (List.mem_of_getElem? (i := 174) rfl))) (hev 0 (by omega))
    | 1, hq => cases hq; exact vk_R.of (hts _ (qT_3 (List.mem_of_getElem? (i := 25) rfl))) (hev 1 (by omega))
    | 2, hq => cases hq; exact vk_R.of (hts _ (qT_3 (List.mem_of_getElem? (i := 101) rfl))) (hs2)
    | 3, hq => cases hq; exact vk_R.of (hts _ (qT_3 (List.mem_of_getElem? (i := 52) rfl))) (hs3)
    | 4, hq => cases hq; exact vk_R.of (hts _ (qT_3 (List.mem_of_getElem? (i := 74) rfl))) (hs4)
    | 5, hq => cases hq; exact vk_R.of (hts _ (qT_3 (List.mem_of_getElem? (i := 80) rfl))) (hs5)
    | 6, hq => cases hq; exact vk_R.of (hts _ (qT_4 (List.mem_of_getElem? (i := 28) rfl))) (hs6)
    | 7, hq => cases hq; exact vk_R.of (hts _ (qT_3 (List.mem_of_getElem? (i := 111) rfl))) (hs7)
    | 8, hq => cases hq; exact vk_R.of (hts _ (qT_2 (List.mem_of_getElem? (i := 124) rfl))) (hs8)
    | 9, hq => cases hq; exact vk_R.of (hts _ (qT_2 (List.mem_of_getElem? (i := 131) rfl))) (hs9)
    | 10, hq => cases hq; exact vk_R.of (hts _ (qT_2 (List.mem_of_getElem? (i := 26) rfl))) (hs10)
    | i + 11, hq => first | cases hq | simp [stL] at hq
  · exact va_Zof (hts _ (qT_2 (List.mem_of_getElem? (i := 188) rfl))) (hts _ (qT_1 (List.mem_of_getElem? (i := 13) rfl))) (va_eqi (hg (.eq (.static "java/lang/String" "COMPACT_STRINGS" "Z") (.int 1)) (by decide +kernel))) hA
  · exact vx_Zqof (hts _ (qT_2 (List.mem_of_getElem? (i := 12) rfl))) (hts _ (qT_1 (List.mem_of_getElem? (i := 8) rfl))) (hg (.isRef (.static "java/lang/Throwable" "UNASSIGNED_STACK" "[Ljava/lang/StackTraceElement;")) (by decide +kernel)) hA
  · exact vx_Zqof (hts _ (qT_2 (List.mem_of_getElem? (i := 14) rfl))) (hts _ (qT_1 (List.mem_of_getElem? (i := 8) rfl))) (hg (.isRef (.static "java/lang/Throwable" "SUPPRESSED_SENTINEL" "Ljava/util/List;")) (by decide +kernel)) hA
  · show nI (if 1000 + j < 2 then _ else if 1000 + j < 900 then _ else if 1000 + j = 900 then _ else _) = xs j
    rw [if_neg (by omega), if_neg (by omega), if_neg (by omega), show 1000 + j - 1000 = j by omega]
    exact nI_bv _
  · exact va_Nc.of (hg (.not (.castable "java/lang/IllegalArgumentException" "java/lang/IndexOutOfBoundsException")) (by decide +kernel))
  · exact va_Nc.of (hg (.not (.castable "java/lang/IllegalStateException" "java/lang/IllegalArgumentException")) (by decide +kernel))
  · exact va_Nc.of (hg (.not (.castable "java/lang/IllegalStateException" "java/lang/IndexOutOfBoundsException")) (by decide +kernel))
