/-! ## String constants -/
def sby (g j : Nat) : Int32 := (([[120, 121, 122], [61, 60, 62, 35]] : List (List Int32)).getD g []).getD j 0
def sln (g : Nat) : Nat := ([3, 4] : List Nat).getD g 0
section STRINGS
variable {k : KX} {l : Launch} {v : VV} {cc : ByteArray} {own : String} {R : Room} {nL ce sl pc : Nat} {cs : List va_W} {lv : List (Nat × Value)} {st : List Value}
theorem g_callVS {ρ : Type} {vl : ρ → Option Value} {y : MethodName} {bytes : ByteArray} {maxL n mc ms idx : Nat} {ret : Option FieldType} {rm : Room} {As rest : List Value} {wc wr : List va_W} {post : ρ → List va_W → Prop}
    (X : CX k l v cc own R nL) (g : Nat) (hg : g < 2) (hM : MM vl l v y bytes maxL ret rm (.ref (v.2.2.1 g) :: As) wc post mc ms) (F : MFv y bytes maxL ret "java/lang/String" n) (hl : Cond.methodLink own idx y ∈ wsL_law) (d : decode cc pc = .ok (.invokevirtual idx, 3))
    (isC isR : List Nat) (hC : isC.map (fun i => cs[i]?) = wc.map some) (hR : isR.map (fun i => cs[i]?) = wr.map some) (hn : va_nd (isC ++ isR) = true) (hlen : As.length = n) (hst : st = As.reverse ++ .ref (v.2.2.1 g) :: rest) (hW : (rest.map fun v => v.category).sum ≤ 8) (hrm : RmOk rm R maxL mc ms ce sl)
    (h : ∀ r w1, post r w1 → GG k (ce + mc) (sl + ms) (w1 ++ wr) lv (pc + 3) ((vl r).toList ++ rest)) : GG k ce sl cs lv pc st := by
  obtain ⟨⟨p, l, e', R, s⟩, ⟨m, args, below, meth, c⟩, A, Q, v, nL⟩ := k
  obtain ⟨rfl, rfl, rfl, rfl, hx, hb, hml, hown, hts, hK, hA, hse, hlk⟩ := X
  subst hst
  intro H locs la hP hD hS hla
  have hCR : (isC ++ isR).map (fun i => cs[i]?) = (wc ++ wr).map some := by rw [List.map_append, List.map_append, hC, hR]
  have hP2 := ck_P hP hCR
  have hD2 := ck_D hD hn hCR
  have hPc : va_P v.1 vwCl wc.flatten H := ck_P hP hC
  have hDc : va_D A wc.flatten := va_D_iff.mpr ⟨by have := (va_D_iff.mp hD2).1; rw [List.flatten_append, List.pairwise_append] at this; exact this.1, fun x hx => (va_D_iff.mp hD2).2 x (by rw [List.flatten_append]; exact List.mem_append_left _ hx)⟩
  have hFc := ck_free hD2 hS hA
  obtain ⟨⟨hd, hcw, hini⟩, hcls, hins, hsel⟩ := F
  have hsub : ∀ w ∈ wsV own idx "java/lang/String" y (Cond.code y bytes maxL ret :: wsL_law), w ∈ wsL_law := by
    intro w hw
    simp only [wsV, List.mem_append, List.mem_cons, List.not_mem_nil, or_false] at hw
    rcases hw with (rfl | rfl | rfl | rfl) | rfl | hw
    · exact hl
    · exact hins
    · exact hsel
    · rw [← hcls]; exact hini
    · exact hcw
    · exact hw
  obtain ⟨h1, h2, h3, h4, h5, h6⟩ := hrm
  have hrec := vk_recv hse.2.2.2.2.1 hg hS
  refine va_callg (va_runV (As := As) (rest := rest) ⟨hx, hb, hml, hown, hts⟩ (hM H.size) (cwV n hts (gd_of0 hsub) rfl h1 h2 ⟨hcls, hd⟩ ⟨h3, h4⟩) ⟨bb_blind, hrec, fun U hU hW => ⟨rfl, pre_of hK hse hS hFc hPc hDc hU hW⟩⟩ rfl hlen hla.1 rfl (lv_room hW) d ⟨h5, h6⟩) hS (fun q _ h => hFc q h) hFc (fun r w1 t H1 locs ht hp hB hk hS => ?_)
  obtain ⟨hP1, hD1⟩ := hB
  rw [ht] at hP1
  obtain ⟨hP3, hD3⟩ := ck_join hP2 hD2 hk hFc hP1 hD1
  exact h r w1 hp H1 locs la hP3 hD3 hS hla
theorem g_sgetV {idx : Nat} (X : CX k l v cc own R nL) (g : Nat) (hg : g < 2) (hq : (Cond.fieldLink own idx "java/lang/String" "value" "[B") ∈ wsL_law) (d : decode cc pc = .ok (.getfield idx, 3)) (h : GG k ce sl cs lv (pc + 3) (.ref (v.2.2.2 g) :: st)) : GG k ce sl cs lv pc (.ref (v.2.2.1 g) :: st) := by
  obtain ⟨⟨p, l, e', R, s⟩, ⟨m, args, below, meth, c⟩, A, Q, v, nL⟩ := k
  obtain ⟨rfl, rfl, rfl, rfl, hx, hb, hml, hown, hts, hK, hA, hse, hlk⟩ := X
  exact fun H locs la hP hD hS hla => vk_getf hx hb (hse.2.2.2.2.1.1 g hg).2.2.1 hS hown (hts _ hq) (fun _ h => h) d (h H locs la hP hD hS hla)
theorem g_sgetC {idx : Nat} (X : CX k l v cc own R nL) (g : Nat) (hg : g < 2) (hq : (Cond.fieldLink own idx "java/lang/String" "coder" "B") ∈ wsL_law) (d : decode cc pc = .ok (.getfield idx, 3)) (h : GG k ce sl cs lv (pc + 3) (.int (nI 0) :: st)) : GG k ce sl cs lv pc (.ref (v.2.2.1 g) :: st) := by
  obtain ⟨⟨p, l, e', R, s⟩, ⟨m, args, below, meth, c⟩, A, Q, v, nL⟩ := k
  obtain ⟨rfl, rfl, rfl, rfl, hx, hb, hml, hown, hts, hK, hA, hse, hlk⟩ := X
  exact fun H locs la hP hD hS hla => vk_getf hx hb (hse.2.2.2.2.1.1 g hg).2.1 hS hown (hts _ hq) (fun _ h => h) d (h H locs la hP hD hS hla)
theorem g_compact {idx : Nat} (X : CX k l v cc own R nL) (hq : (Cond.fieldLink own idx "java/lang/String" "COMPACT_STRINGS" "Z") ∈ wsL_law) (d : decode cc pc = .ok (.getstatic idx, 3)) (h : GG k ce sl cs lv (pc + 3) (.int (nI 1) :: st)) : GG k ce sl cs lv pc st := by
  obtain ⟨⟨p, l, e', R, s⟩, ⟨m, args, below, meth, c⟩, A, Q, v, nL⟩ := k
  obtain ⟨rfl, rfl, rfl, rfl, hx, hb, hml, hown, hts, hK, hA, hse, hlk⟩ := X
  exact fun H locs la hP hD hS hla => va_gets hx hb hse.2.1 hS hown (hts _ hq) (fun _ h => h) d (h H locs la hP hD hS hla)
theorem g_tbyte {e : Nat} (X : CX k l v cc own R nL) (g : Nat) (hg : g < 2) (d : decode cc pc = .ok (.baload, 1)) (he : e < sln g) (h : GG k ce sl cs lv (pc + 1) (.int (sby g e) :: st)) : GG k ce sl cs lv pc (.int (nI e) :: .ref (v.2.2.2 g) :: st) := by
  obtain ⟨⟨p, l, e', R, s⟩, ⟨m, args, below, meth, c⟩, A, Q, v, nL⟩ := k
  obtain ⟨rfl, rfl, rfl, rfl, hx, hb, hml, hown, hts, hK, hA, hse, hlk⟩ := X
  have hn : sln g < 2147483648 := by rcases (show g = 0 ∨ g = 1 by omega) with rfl | rfl <;> decide
  exact fun H locs la hP hD hS hla => va_tb hx hb (hse.2.2.2.2.1.1 g hg).2.2.2 hS (vp_in_nI he hn) (by rw [nI_clamp (Nat.lt_trans he hn)]; rfl) d (h H locs la hP hD hS hla)
theorem g_tblen (X : CX k l v cc own R nL) (g : Nat) (hg : g < 2) (d : decode cc pc = .ok (.arraylength, 1)) (h : GG k ce sl cs lv (pc + 1) (.int (nI (sln g)) :: st)) : GG k ce sl cs lv pc (.ref (v.2.2.2 g) :: st) := by
  obtain ⟨⟨p, l, e', R, s⟩, ⟨m, args, below, meth, c⟩, A, Q, v, nL⟩ := k
  obtain ⟨rfl, rfl, rfl, rfl, hx, hb, hml, hown, hts, hK, hA, hse, hlk⟩ := X
  exact fun H locs la hP hD hS hla => va_tlen hx hb (hse.2.2.2.2.1.1 g hg).2.2.2 hS rfl d (h H locs la hP hD hS hla)
theorem g_min {idx : Nat} {x y : Int32} {rest : List Value} (X : CX k l v cc own R nL) (q0 : (Cond.methodLink own idx Lib.Math.min.name) ∈ wsL_law) (q1 : (Cond.static Lib.Math.min.name) ∈ wsL_law) (q2 : (Cond.initialized "java/lang/Math") ∈ wsL_law) (q3 : (Cond.code Lib.Math.min.name Lib.Math.min.code 2 (some .int)) ∈ wsL_law) (d : decode cc pc = .ok (.invokestatic idx, 3)) (hf : 1 ≤ R.frames) (hlo : (rest.map fun v => v.category).sum + 13 ≤ R.locals) (hc : ce ≤ R.cells) (hs : sl ≤ R.slots) (h : GG k ce sl cs lv (pc + 3) (.int (if y < x then y else x) :: rest)) : GG k ce sl cs lv pc (.int y :: .int x :: rest) := by
  obtain ⟨⟨p, l, e', R, s⟩, ⟨m, args, below, meth, c⟩, A, Q, v, nL⟩ := k
  obtain ⟨rfl, rfl, rfl, rfl, hx, hb, hml, hown, hts, -⟩ := X
  intro H locs la hP hD hS hla
  exact va_mmin hx hb (by rw [hml]; exact hla.1.symm) hown (hts _ q0) (hts _ q1) (hts _ q2) (hts _ q3) hf hlo hc hs d (h H locs la hP hD hS hla)
end STRINGS

