/-! ## ClaimJudge: digest -/
def dg (h : Int64) (x : Int32) : Int64 := 31 * h + x.toInt64
section DIGEST
variable (lo hi : Nat → Nat) (P : Nat → S9) (n : Nat)
noncomputable def dB (i : Nat) : Nat → Int64 → Int64
  | 0, h => h
  | w + 1, h => dg (dg (dB i w h) (zI (mnV lo hi P n i w))) (zI (mxV lo hi P n i w))
noncomputable def dS1 (i : Nat) (h : Int64) : Int64 := dg (dg (dg (dg (dg h (nI (P i).1)) (zI (tg9 (P i)))) (nI (dmV P n i))) (zI (vdV lo hi P n i))) (zI (exV lo hi P n i))
noncomputable def dS : Nat → Int64 → Int64
  | 0, h => h
  | i + 1, h => dB lo hi P n i 3 (dS1 lo hi P n i (dS i h))
noncomputable def dW : Nat → Int64 → Int64
  | 0, h => h
  | w + 1, h => dg (dW w h) (zI (wdV lo hi P n w))
noncomputable def dG0 : Int64 := dg (dg (dg 4234 (nI n)) (nI (ctb (jE lo hi P n) 512))) (zI (pfV lo hi P n))
noncomputable def dGV : Int64 := dW lo hi P n 3 (dB lo hi P n n 3 (dS lo hi P n n (dG0 lo hi P n)))
end DIGEST

set_option maxHeartbeats 4000000 in
set_option maxRecDepth 100000 in
theorem c_X6_digest (l : Launch) (v : VV) (cj : Nat) (a : Nat → Nat) (b : Nat → Nat) (d : Nat → Nat) (j : Nat → Nat) (h : Nat → Nat) (t : Nat → Nat) (n : Nat) (f : Nat → Nat → Int32) (P : Nat → S9) (g : Nat → Nat → Int32) (lo : Nat → Nat) (hi : Nat → Nat) (stl : Bool) (e : Nat → Int32) (x : Nat) (y : Nat) (z : Nat) (jst : Bool) (ex : Nat → Int32) (lw : Nat → Int32) (hg : Nat → Int32) (vs : Nat → Int64) (hW : WF P n) (hR : PgR P n f) (hL : AsW lo hi) (hG : AsR lo hi g) (hE : stl = false → OKE P n e) (hJ : jst = false → JOK lo hi P n x y z ex lw hg) : ML l v yX6_digest cX6_digest 5 (some .long) ({ frames := 8, cells := 0, slots := 0, locals := 143 }) [.ref cj] [cCJ v cj (a 0) (b 0) (d 0) (j 0) (h 0) (t 0), cPg v a n f, cAs v b g, cRu v d (a 0) stl, cEn v d e, cJu v j (a 0) (b 0) (d 0) x y z jst, cEx v j ex, cLo v j lw, cHi v j hg, cVi v j vs] (fun r w_ => ∃ x' y' z' jst' ex' lw' hg' vs' stl' e', r = dGV lo hi P n ∧ (jst' = false → JOK lo hi P n x' y' z' ex' lw' hg') ∧ (stl' = false → OKE P n e') ∧ w_ = [cCJ v cj (a 0) (b 0) (d 0) (j 0) (h 0) (t 0), cPg v a n f, cAs v b g, cRu v d (a 0) stl', cEn v d e', cJu v j (a 0) (b 0) (d 0) x' y' z' jst', cEx v j ex', cLo v j lw', cHi v j hg', cVi v j vs']) 0 0 := by
  refine mm_long rfl (by decide) (Nat.le_of_ble_eq_true rfl) [(0, .ref cj)] rfl (fun k X E => ?_)
  have hn12 := hW.1
  refine g_ldc2 X q_36_1 dX6_digest_0 ?_
  refine g_lstore_n (lv' := [(1, .long 4234), (0, .ref cj)]) X dX6_digest_3 rfl (by decide) rfl ?_
  refine g_ldc2 X q_36_2 dX6_digest_4 ?_
  refine g_lload_n X dX6_digest_7 0 rfl rfl ?_
  refine g_lmul X dX6_digest_8 ?_
  refine g_aload_n X dX6_digest_9 1 rfl rfl ?_
  refine g_callV (As := []) (rest := [.long (31 * 4234)]) (wr := [cAs v b g, cRu v d (a 0) stl, cEn v d e, cJu v j (a 0) (b 0) (d 0) x y z jst, cEx v j ex, cLo v j lw, cHi v j hg, cVi v j vs]) X (c_X6_statements l v cj a b d j h t n f) f_X6_statements q_36_3 dX6_digest_10 [0, 1] [2, 3, 4, 5, 6, 7, 8, 9] rfl rfl (by decide) 0 rfl rfl rfl rfl (Nat.le_of_ble_eq_true rfl) (by decide) (fun r_ w_ hp1 => ?_)
  obtain ⟨rfl, rfl⟩ := hp1
  show GG k _ _ [cCJ v cj (a 0) (b 0) (d 0) (j 0) (h 0) (t 0), cPg v a n f, cAs v b g, cRu v d (a 0) stl, cEn v d e, cJu v j (a 0) (b 0) (d 0) x y z jst, cEx v j ex, cLo v j lw, cHi v j hg, cVi v j vs] _ _ [.int (nI n), .long (31 * 4234)]
  refine g_i2l X dX6_digest_13 rfl ?_
  refine g_ladd X dX6_digest_14 ?_
  refine g_vl (y := dg 4234 (nI n)) (rfl) ?_
  refine g_lstore_n (lv' := [(1, .long (dg 4234 (nI n))), (0, .ref cj)]) X dX6_digest_15 rfl (by decide) rfl ?_
  refine g_ldc2 X q_36_2 dX6_digest_16 ?_
  refine g_lload_n X dX6_digest_19 0 rfl rfl ?_
  refine g_lmul X dX6_digest_20 ?_
  refine g_aload_n X dX6_digest_21 1 rfl rfl ?_
  refine g_callV (As := []) (rest := [.long (31 * (dg 4234 (nI n)))]) (wr := []) X (c_X6_endless l v cj a b d j h t n f P g lo hi stl e x y z jst ex lw hg vs  hW hR hL hG hE hJ ) f_X6_endless q_36_4 dX6_digest_22 [0, 1, 2, 3, 4, 5, 6, 7, 8, 9] [] rfl rfl (by decide) 0 rfl rfl rfl rfl (Nat.le_of_ble_eq_true rfl) (by decide) (fun r_ w_ hp3 => ?_)
  obtain ⟨jd2x, jd2y, jd2z, jd2t, jd2e, jd2l, jd2h, jd2v, jd2s, jd2n, rfl, jd2J, jd2E, rfl⟩ := hp3
  show GG k _ _ [cCJ v cj (a 0) (b 0) (d 0) (j 0) (h 0) (t 0), cPg v a n f, cAs v b g, cRu v d (a 0) jd2s, cEn v d jd2n, cJu v j (a 0) (b 0) (d 0) jd2x jd2y jd2z jd2t, cEx v j jd2e, cLo v j jd2l, cHi v j jd2h, cVi v j jd2v] _ _ [.int (nI (ctb (jE lo hi P n) 512)), .long (31 * (dg 4234 (nI n)))]
  refine g_i2l X dX6_digest_25 rfl ?_
  refine g_ladd X dX6_digest_26 ?_
  refine g_vl (y := dg (dg 4234 (nI n)) (nI (ctb (jE lo hi P n) 512))) (rfl) ?_
  refine g_lstore_n (lv' := [(1, .long (dg (dg 4234 (nI n)) (nI (ctb (jE lo hi P n) 512)))), (0, .ref cj)]) X dX6_digest_27 rfl (by decide) rfl ?_
  refine g_ldc2 X q_36_2 dX6_digest_28 ?_
  refine g_lload_n X dX6_digest_31 0 rfl rfl ?_
  refine g_lmul X dX6_digest_32 ?_
  refine g_aload_n X dX6_digest_33 1 rfl rfl ?_
  refine g_callV (As := []) (rest := [.long (31 * (dg (dg 4234 (nI n)) (nI (ctb (jE lo hi P n) 512))))]) (wr := []) X (c_X6_proof l v cj a b d j h t n f P g lo hi jd2s jd2n jd2x jd2y jd2z jd2t jd2e jd2l jd2h jd2v  hW hR hL hG jd2E jd2J ) f_X6_proof q_36_5 dX6_digest_34 [0, 1, 2, 3, 4, 5, 6, 7, 8, 9] [] rfl rfl (by decide) 0 rfl rfl rfl rfl (Nat.le_of_ble_eq_true rfl) (by decide) (fun r_ w_ hp5 => ?_)
  obtain ⟨jd4x, jd4y, jd4z, jd4t, jd4e, jd4l, jd4h, jd4v, jd4s, jd4n, rfl, jd4J, jd4E, rfl⟩ := hp5
  show GG k _ _ [cCJ v cj (a 0) (b 0) (d 0) (j 0) (h 0) (t 0), cPg v a n f, cAs v b g, cRu v d (a 0) jd4s, cEn v d jd4n, cJu v j (a 0) (b 0) (d 0) jd4x jd4y jd4z jd4t, cEx v j jd4e, cLo v j jd4l, cHi v j jd4h, cVi v j jd4v] _ _ [.int (zI (pfV lo hi P n)), .long (31 * (dg (dg 4234 (nI n)) (nI (ctb (jE lo hi P n) 512))))]
  refine g_i2l X dX6_digest_37 rfl ?_
  refine g_ladd X dX6_digest_38 ?_
  refine g_vl (y := dg (dg (dg 4234 (nI n)) (nI (ctb (jE lo hi P n) 512))) (zI (pfV lo hi P n))) (rfl) ?_
  refine g_lstore_n (lv' := [(1, .long (dg (dg (dg 4234 (nI n)) (nI (ctb (jE lo hi P n) 512))) (zI (pfV lo hi P n)))), (0, .ref cj)]) X dX6_digest_39 rfl (by decide) rfl ?_
  refine g_iconst (x := nI 0) X dX6_digest_40 (by decide +kernel) ?_
  refine g_istore_n (lv' := [(3, .int (nI 0)), (1, .long (dg (dg (dg 4234 (nI n)) (nI (ctb (jE lo hi P n) 512))) (zI (pfV lo hi P n)))), (0, .ref cj)]) X dX6_digest_41 rfl (by decide) rfl ?_
  have lp42 : ∀ (zN : Nat) (i : Nat) (q : Int64) (x' : Nat) (y' : Nat) (z' : Nat) (jst' : Bool) (ex' : Nat → Int32) (lw' : Nat → Int32) (hg' : Nat → Int32) (vs' : Nat → Int64) (stl' : Bool) (e' : Nat → Int32) (hi9 : i ≤ n + 1) (hq9 : (i ≤ n ∧ q = dS lo hi P n i (dG0 lo hi P n)) ∨ (i = n + 1 ∧ q = dB lo hi P n n 3 (dS lo hi P n n (dG0 lo hi P n)))) (hJ2 : jst' = false → JOK lo hi P n x' y' z' ex' lw' hg') (hE2 : stl' = false → OKE P n e') (zM : zN = n + 1 - i), GG k 0 0 [cCJ v cj (a 0) (b 0) (d 0) (j 0) (h 0) (t 0), cPg v a n f, cAs v b g, cRu v d (a 0) stl', cEn v d e', cJu v j (a 0) (b 0) (d 0) x' y' z' jst', cEx v j ex', cLo v j lw', cHi v j hg', cVi v j vs'] [(3, .int (nI i)), (1, .long q), (0, .ref cj)] 42 [] := by
    intro zN
    induction zN using Nat.strongRecOn with
    | _ zN zih =>
      have ih42 := zih
      clear zih
      intro i q x' y' z' jst' ex' lw' hg' vs' stl' e' hi9 hq9 hJ2 hE2 zM
      refine g_iload_n X dX6_digest_42 0 rfl rfl ?_
      refine g_aload_n X dX6_digest_43 2 rfl rfl ?_
      refine g_get X cb6 0 q_1_16 dX6_digest_44 0 0 rfl rfl (by decide) rfl rfl ?_
      refine g_getN X cb3 0 0 rfl dX6_digest_47 1 0 rfl rfl (by decide) rfl rfl ?_
      refine g_icmp_gtN (tgt := 180) X dX6_digest_50 (by decide) (by omega) (by omega) (fun c50 => ?_) (fun c50 => ?_)
      · refine g_iconst (x := nI 0) X dX6_digest_180 (by decide +kernel) ?_
        refine g_istore_n (lv' := [(3, .int (nI 0)), (1, .long q), (0, .ref cj)]) X dX6_digest_181 rfl (by decide) rfl ?_
        have lp182 : ∀ (zN : Nat) (w : Nat) (q2 : Int64) (x' : Nat) (y' : Nat) (z' : Nat) (jst' : Bool) (ex' : Nat → Int32) (lw' : Nat → Int32) (hg' : Nat → Int32) (vs' : Nat → Int64) (stl' : Bool) (e' : Nat → Int32) (hw9 : w ≤ 3) (hd9 : q2 = dW lo hi P n w q) (hJ2 : jst' = false → JOK lo hi P n x' y' z' ex' lw' hg') (hE2 : stl' = false → OKE P n e') (zM : zN = 3 - w), GG k 0 0 [cCJ v cj (a 0) (b 0) (d 0) (j 0) (h 0) (t 0), cPg v a n f, cAs v b g, cRu v d (a 0) stl', cEn v d e', cJu v j (a 0) (b 0) (d 0) x' y' z' jst', cEx v j ex', cLo v j lw', cHi v j hg', cVi v j vs'] [(3, .int (nI w)), (1, .long q2), (0, .ref cj)] 182 [] := by
          intro zN
          induction zN using Nat.strongRecOn with
          | _ zN zih =>
            have ih182 := zih
            clear zih
            intro w q2 x' y' z' jst' ex' lw' hg' vs' stl' e' hw9 hd9 hJ2 hE2 zM
            refine g_iload_n X dX6_digest_182 0 rfl rfl ?_
            refine g_iconst (x := nI 3) X dX6_digest_183 (by decide +kernel) ?_
            refine g_icmp_geN (tgt := 206) X dX6_digest_184 (by decide) (by omega) (by omega) (fun c184 => ?_) (fun c184 => ?_)
            · refine g_lload_n X dX6_digest_206 1 rfl rfl ?_
              exact E dX6_digest_207 (by decide) (by decide) (⟨_, _, _, _, _, _, _, _, _, _, by rw [hd9, show w = 3 from by omega]; rcases hq9 with z | z; omega; rw [z.2]; rfl, hJ2, hE2, rfl⟩)
            · refine g_ldc2 X q_36_2 dX6_digest_187 ?_
              refine g_lload_n X dX6_digest_190 1 rfl rfl ?_
              refine g_lmul X dX6_digest_191 ?_
              refine g_aload_n X dX6_digest_192 2 rfl rfl ?_
              refine g_iload_n X dX6_digest_193 0 rfl rfl ?_
              refine g_callV (As := [.int (nI w)]) (rest := [.long (31 * q2)]) (wr := [cJu v j (a 0) (b 0) (d 0) x' y' z' jst', cEx v j ex', cLo v j lw', cHi v j hg', cVi v j vs']) X (c_X6_widest l v cj a b d j h t n f P g lo hi stl' e' w hW hR hL hG hE2 (by omega)) f_X6_widest q_36_13 dX6_digest_194 [0, 1, 2, 3, 4] [5, 6, 7, 8, 9] rfl rfl (by decide) 0 rfl rfl rfl rfl (Nat.le_of_ble_eq_true rfl) (by decide) (fun r_ w_ hp7 => ?_)
              obtain ⟨wd6s, wd6n, rfl, wd6E, rfl⟩ := hp7
              show GG k _ _ [cCJ v cj (a 0) (b 0) (d 0) (j 0) (h 0) (t 0), cPg v a n f, cAs v b g, cRu v d (a 0) wd6s, cEn v d wd6n, cJu v j (a 0) (b 0) (d 0) x' y' z' jst', cEx v j ex', cLo v j lw', cHi v j hg', cVi v j vs'] _ _ [.int (zI (wdV lo hi P n w)), .long (31 * q2)]
              refine g_i2l X dX6_digest_197 rfl ?_
              refine g_ladd X dX6_digest_198 ?_
              refine g_vl (y := dg q2 (zI (wdV lo hi P n w))) (rfl) ?_
              refine g_lstore_n (lv' := [(1, .long (dg q2 (zI (wdV lo hi P n w)))), (3, .int (nI w)), (0, .ref cj)]) X dX6_digest_199 rfl (by decide) rfl ?_
              refine g_iinc (y := nI (w + 1)) (lv' := [(3, .int (nI (w + 1))), (1, .long (dg q2 (zI (wdV lo hi P n w)))), (0, .ref cj)]) (j := 1) X dX6_digest_200 rfl (nI_add w 1) (by decide) rfl ?_
              refine g_goto (tgt := 182) X dX6_digest_203 (by decide) ?_
              exact ih182 _ (by omega) (w + 1) (dg q2 (zI (wdV lo hi P n w))) x' y' z' jst' ex' lw' hg' vs' wd6s wd6n (by omega) (by rw [hd9]; rfl) hJ2 wd6E rfl
        exact lp182 _ 0 q x' y' z' jst' ex' lw' hg' vs' stl' e' (by omega) rfl hJ2 hE2 rfl
      · refine g_iload_n X dX6_digest_53 0 rfl rfl ?_
        refine g_aload_n X dX6_digest_54 2 rfl rfl ?_
        refine g_get X cb6 0 q_1_16 dX6_digest_55 0 0 rfl rfl (by decide) rfl rfl ?_
        refine g_getN X cb3 0 0 rfl dX6_digest_58 1 0 rfl rfl (by decide) rfl rfl ?_
        refine g_icmp_geN (tgt := 129) X dX6_digest_61 (by decide) (by omega) (by omega) (fun c61 => ?_) (fun c61 => ?_)
        · have hq8 : q = dS lo hi P n i (dG0 lo hi P n) := by rcases hq9 with z | z; exact z.2; omega
          refine g_iconst (x := nI 0) X dX6_digest_129 (by decide +kernel) ?_
          refine g_istore (lv' := [(4, .int (nI 0)), (3, .int (nI i)), (1, .long q), (0, .ref cj)]) X dX6_digest_130 (by decide) rfl ?_
          have lp132 : ∀ (zN : Nat) (w : Nat) (q2 : Int64) (x' : Nat) (y' : Nat) (z' : Nat) (jst' : Bool) (ex' : Nat → Int32) (lw' : Nat → Int32) (hg' : Nat → Int32) (vs' : Nat → Int64) (stl' : Bool) (e' : Nat → Int32) (hw9 : w ≤ 3) (hd9 : q2 = dB lo hi P n i w q) (hJ2 : jst' = false → JOK lo hi P n x' y' z' ex' lw' hg') (hE2 : stl' = false → OKE P n e') (zM : zN = 3 - w), GG k 0 0 [cCJ v cj (a 0) (b 0) (d 0) (j 0) (h 0) (t 0), cPg v a n f, cAs v b g, cRu v d (a 0) stl', cEn v d e', cJu v j (a 0) (b 0) (d 0) x' y' z' jst', cEx v j ex', cLo v j lw', cHi v j hg', cVi v j vs'] [(4, .int (nI w)), (1, .long q2), (3, .int (nI i)), (0, .ref cj)] 132 [] := by
            intro zN
            induction zN using Nat.strongRecOn with
            | _ zN zih =>
              have ih132 := zih
              clear zih
              intro w q2 x' y' z' jst' ex' lw' hg' vs' stl' e' hw9 hd9 hJ2 hE2 zM
              refine g_iload X dX6_digest_132 0 rfl ?_
              refine g_iconst (x := nI 3) X dX6_digest_134 (by decide +kernel) ?_
              refine g_icmp_geN (tgt := 174) X dX6_digest_135 (by decide) (by omega) (by omega) (fun c135 => ?_) (fun c135 => ?_)
              · refine g_iinc (y := nI (i + 1)) (lv' := [(3, .int (nI (i + 1))), (4, .int (nI w)), (1, .long q2), (0, .ref cj)]) (j := 2) X dX6_digest_174 rfl (nI_add i 1) (by decide) rfl ?_
                refine g_goto (tgt := 42) X dX6_digest_177 (by decide) ?_
                refine g_lv (lv' := [(3, .int (nI (i + 1))), (1, .long q2), (0, .ref cj)]) [0, 2, 3] rfl ?_
                exact ih42 _ (by omega) (i + 1) q2 x' y' z' jst' ex' lw' hg' vs' stl' e' (by omega) (by first | exact Or.inl ⟨by omega, by rw [hd9, show w = 3 from by omega, hq8]; rfl⟩ | exact Or.inr ⟨by omega, by rw [hd9, show w = 3 from by omega, hq8, show i = n from by omega]⟩) hJ2 hE2 rfl
              · refine g_ldc2 X q_36_2 dX6_digest_138 ?_
                refine g_lload_n X dX6_digest_141 1 rfl rfl ?_
                refine g_lmul X dX6_digest_142 ?_
                refine g_aload_n X dX6_digest_143 3 rfl rfl ?_
                refine g_iload_n X dX6_digest_144 2 rfl rfl ?_
                refine g_iload X dX6_digest_145 0 rfl ?_
                refine g_callV (As := [.int (nI i), .int (nI w)]) (rest := [.long (31 * q2)]) (wr := []) X (c_X6_least l v cj a b d j h t n f P g lo hi stl' e' x' y' z' jst' ex' lw' hg' vs' i w hW hR hL hG hE2 hJ2 (by omega) (by omega)) f_X6_least q_36_11 dX6_digest_147 [0, 1, 2, 3, 4, 5, 6, 7, 8, 9] [] rfl rfl (by decide) 0 rfl rfl rfl rfl (Nat.le_of_ble_eq_true rfl) (by decide) (fun r_ w_ hp9 => ?_)
                obtain ⟨jd8x, jd8y, jd8z, jd8t, jd8e, jd8l, jd8h, jd8v, jd8s, jd8n, rfl, jd8J, jd8E, rfl⟩ := hp9
                show GG k _ _ [cCJ v cj (a 0) (b 0) (d 0) (j 0) (h 0) (t 0), cPg v a n f, cAs v b g, cRu v d (a 0) jd8s, cEn v d jd8n, cJu v j (a 0) (b 0) (d 0) jd8x jd8y jd8z jd8t, cEx v j jd8e, cLo v j jd8l, cHi v j jd8h, cVi v j jd8v] _ _ [.int (zI (mnV lo hi P n i w)), .long (31 * q2)]
                refine g_i2l X dX6_digest_150 rfl ?_
                refine g_ladd X dX6_digest_151 ?_
                refine g_vl (y := dg q2 (zI (mnV lo hi P n i w))) (rfl) ?_
                refine g_lstore_n (lv' := [(1, .long (dg q2 (zI (mnV lo hi P n i w)))), (4, .int (nI w)), (3, .int (nI i)), (0, .ref cj)]) X dX6_digest_152 rfl (by decide) rfl ?_
                refine g_ldc2 X q_36_2 dX6_digest_153 ?_
                refine g_lload_n X dX6_digest_156 0 rfl rfl ?_
                refine g_lmul X dX6_digest_157 ?_
                refine g_aload_n X dX6_digest_158 3 rfl rfl ?_
                refine g_iload_n X dX6_digest_159 2 rfl rfl ?_
                refine g_iload X dX6_digest_160 1 rfl ?_
                refine g_callV (As := [.int (nI i), .int (nI w)]) (rest := [.long (31 * (dg q2 (zI (mnV lo hi P n i w))))]) (wr := []) X (c_X6_greatest l v cj a b d j h t n f P g lo hi jd8s jd8n jd8x jd8y jd8z jd8t jd8e jd8l jd8h jd8v i w hW hR hL hG jd8E jd8J (by omega) (by omega)) f_X6_greatest q_36_12 dX6_digest_162 [0, 1, 2, 3, 4, 5, 6, 7, 8, 9] [] rfl rfl (by decide) 0 rfl rfl rfl rfl (Nat.le_of_ble_eq_true rfl) (by decide) (fun r_ w_ hp11 => ?_)
                obtain ⟨jd10x, jd10y, jd10z, jd10t, jd10e, jd10l, jd10h, jd10v, jd10s, jd10n, rfl, jd10J, jd10E, rfl⟩ := hp11
                show GG k _ _ [cCJ v cj (a 0) (b 0) (d 0) (j 0) (h 0) (t 0), cPg v a n f, cAs v b g, cRu v d (a 0) jd10s, cEn v d jd10n, cJu v j (a 0) (b 0) (d 0) jd10x jd10y jd10z jd10t, cEx v j jd10e, cLo v j jd10l, cHi v j jd10h, cVi v j jd10v] _ _ [.int (zI (mxV lo hi P n i w)), .long (31 * (dg q2 (zI (mnV lo hi P n i w))))]
                refine g_i2l X dX6_digest_165 rfl ?_
                refine g_ladd X dX6_digest_166 ?_
                refine g_vl (y := dg (dg q2 (zI (mnV lo hi P n i w))) (zI (mxV lo hi P n i w))) (rfl) ?_
                refine g_lstore_n (lv' := [(1, .long (dg (dg q2 (zI (mnV lo hi P n i w))) (zI (mxV lo hi P n i w)))), (4, .int (nI w)), (3, .int (nI i)), (0, .ref cj)]) X dX6_digest_167 rfl (by decide) rfl ?_
                refine g_iinc (y := nI (w + 1)) (lv' := [(4, .int (nI (w + 1))), (1, .long (dg (dg q2 (zI (mnV lo hi P n i w))) (zI (mxV lo hi P n i w)))), (3, .int (nI i)), (0, .ref cj)]) (j := 1) X dX6_digest_168 rfl (nI_add w 1) (by decide) rfl ?_
                refine g_goto (tgt := 132) X dX6_digest_171 (by decide) ?_
                exact ih132 _ (by omega) (w + 1) (dg (dg q2 (zI (mnV lo hi P n i w))) (zI (mxV lo hi P n i w))) jd10x jd10y jd10z jd10t jd10e jd10l jd10h jd10v jd10s jd10n (by omega) (by rw [hd9]; rfl) jd10J jd10E rfl
          refine g_lv (lv' := [(4, .int (nI 0)), (1, .long q), (3, .int (nI i)), (0, .ref cj)]) [0, 2, 1, 3] rfl ?_
          exact lp132 _ 0 q x' y' z' jst' ex' lw' hg' vs' stl' e' (by omega) rfl hJ2 hE2 rfl
        · have hq8 : q = dS lo hi P n i (dG0 lo hi P n) := by rcases hq9 with z | z; exact z.2; omega
          refine g_ldc2 X q_36_2 dX6_digest_64 ?_
          refine g_lload_n X dX6_digest_67 1 rfl rfl ?_
          refine g_lmul X dX6_digest_68 ?_
          refine g_aload_n X dX6_digest_69 2 rfl rfl ?_
          refine g_iload_n X dX6_digest_70 0 rfl rfl ?_
          refine g_callV (As := [.int (nI i)]) (rest := [.long (31 * q)]) (wr := [cAs v b g, cRu v d (a 0) stl', cEn v d e', cJu v j (a 0) (b 0) (d 0) x' y' z' jst', cEx v j ex', cLo v j lw', cHi v j hg', cVi v j vs']) X (c_X6_kind l v cj a b d j h t n f P i hW hR (by omega)) f_X6_kind q_36_6 dX6_digest_71 [0, 1] [2, 3, 4, 5, 6, 7, 8, 9] rfl rfl (by decide) 0 rfl rfl rfl rfl (Nat.le_of_ble_eq_true rfl) (by decide) (fun r_ w_ hp12 => ?_)
          obtain ⟨rfl, rfl⟩ := hp12
          show GG k _ _ [cCJ v cj (a 0) (b 0) (d 0) (j 0) (h 0) (t 0), cPg v a n f, cAs v b g, cRu v d (a 0) stl', cEn v d e', cJu v j (a 0) (b 0) (d 0) x' y' z' jst', cEx v j ex', cLo v j lw', cHi v j hg', cVi v j vs'] _ _ [.int (nI ((P i).1)), .long (31 * q)]
          refine g_i2l X dX6_digest_74 rfl ?_
          refine g_ladd X dX6_digest_75 ?_
          refine g_vl (y := dg q (nI ((P i).1))) (rfl) ?_
          refine g_lstore_n (lv' := [(1, .long (dg q (nI ((P i).1)))), (3, .int (nI i)), (0, .ref cj)]) X dX6_digest_76 rfl (by decide) rfl ?_
          refine g_ldc2 X q_36_2 dX6_digest_77 ?_
          refine g_lload_n X dX6_digest_80 0 rfl rfl ?_
          refine g_lmul X dX6_digest_81 ?_
          refine g_aload_n X dX6_digest_82 2 rfl rfl ?_
          refine g_iload_n X dX6_digest_83 1 rfl rfl ?_
          refine g_callV (As := [.int (nI i)]) (rest := [.long (31 * (dg q (nI ((P i).1))))]) (wr := [cAs v b g, cRu v d (a 0) stl', cEn v d e', cJu v j (a 0) (b 0) (d 0) x' y' z' jst', cEx v j ex', cLo v j lw', cHi v j hg', cVi v j vs']) X (c_X6_target l v cj a b d j h t n f P i hW hR (by omega)) f_X6_target q_36_7 dX6_digest_84 [0, 1] [2, 3, 4, 5, 6, 7, 8, 9] rfl rfl (by decide) 0 rfl rfl rfl rfl (Nat.le_of_ble_eq_true rfl) (by decide) (fun r_ w_ hp13 => ?_)
          obtain ⟨rfl, rfl⟩ := hp13
          show GG k _ _ [cCJ v cj (a 0) (b 0) (d 0) (j 0) (h 0) (t 0), cPg v a n f, cAs v b g, cRu v d (a 0) stl', cEn v d e', cJu v j (a 0) (b 0) (d 0) x' y' z' jst', cEx v j ex', cLo v j lw', cHi v j hg', cVi v j vs'] _ _ [.int (zI (tg9 (P i))), .long (31 * (dg q (nI ((P i).1))))]
          refine g_i2l X dX6_digest_87 rfl ?_
          refine g_ladd X dX6_digest_88 ?_
          refine g_vl (y := dg (dg q (nI ((P i).1))) (zI (tg9 (P i)))) (rfl) ?_
          refine g_lstore_n (lv' := [(1, .long (dg (dg q (nI ((P i).1))) (zI (tg9 (P i))))), (3, .int (nI i)), (0, .ref cj)]) X dX6_digest_89 rfl (by decide) rfl ?_
          refine g_ldc2 X q_36_2 dX6_digest_90 ?_
          refine g_lload_n X dX6_digest_93 0 rfl rfl ?_
          refine g_lmul X dX6_digest_94 ?_
          refine g_aload_n X dX6_digest_95 2 rfl rfl ?_
          refine g_iload_n X dX6_digest_96 1 rfl rfl ?_
          refine g_callV (As := [.int (nI i)]) (rest := [.long (31 * (dg (dg q (nI ((P i).1))) (zI (tg9 (P i)))))]) (wr := [cAs v b g, cJu v j (a 0) (b 0) (d 0) x' y' z' jst', cEx v j ex', cLo v j lw', cHi v j hg', cVi v j vs']) X (c_X6_demand l v cj a b d j h t n f P stl' e' i hW hR hE2 (by omega)) f_X6_demand q_36_8 dX6_digest_97 [0, 1, 3, 4] [2, 5, 6, 7, 8, 9] rfl rfl (by decide) 0 rfl rfl rfl rfl (Nat.le_of_ble_eq_true rfl) (by decide) (fun r_ w_ hp15 => ?_)
          obtain ⟨dm14s, dm14n, rfl, dm14E, rfl⟩ := hp15
          show GG k _ _ [cCJ v cj (a 0) (b 0) (d 0) (j 0) (h 0) (t 0), cPg v a n f, cRu v d (a 0) dm14s, cEn v d dm14n, cAs v b g, cJu v j (a 0) (b 0) (d 0) x' y' z' jst', cEx v j ex', cLo v j lw', cHi v j hg', cVi v j vs'] _ _ [.int (nI (dmV P n i)), .long (31 * (dg (dg q (nI ((P i).1))) (zI (tg9 (P i)))))]
          refine g_pick (cs' := [cCJ v cj (a 0) (b 0) (d 0) (j 0) (h 0) (t 0), cPg v a n f, cAs v b g, cRu v d (a 0) dm14s, cEn v d dm14n, cJu v j (a 0) (b 0) (d 0) x' y' z' jst', cEx v j ex', cLo v j lw', cHi v j hg', cVi v j vs']) [0, 1, 4, 2, 3, 5, 6, 7, 8, 9] rfl rfl ?_
          refine g_i2l X dX6_digest_100 rfl ?_
          refine g_ladd X dX6_digest_101 ?_
          refine g_vl (y := dg (dg (dg q (nI ((P i).1))) (zI (tg9 (P i)))) (nI (dmV P n i))) (rfl) ?_
          refine g_lstore_n (lv' := [(1, .long (dg (dg (dg q (nI ((P i).1))) (zI (tg9 (P i)))) (nI (dmV P n i)))), (3, .int (nI i)), (0, .ref cj)]) X dX6_digest_102 rfl (by decide) rfl ?_
          refine g_ldc2 X q_36_2 dX6_digest_103 ?_
          refine g_lload_n X dX6_digest_106 0 rfl rfl ?_
          refine g_lmul X dX6_digest_107 ?_
          refine g_aload_n X dX6_digest_108 2 rfl rfl ?_
          refine g_iload_n X dX6_digest_109 1 rfl rfl ?_
          refine g_callV (As := [.int (nI i)]) (rest := [.long (31 * (dg (dg (dg q (nI ((P i).1))) (zI (tg9 (P i)))) (nI (dmV P n i))))]) (wr := []) X (c_X6_verdict l v cj a b d j h t n f P g lo hi dm14s dm14n x' y' z' jst' ex' lw' hg' vs' i hW hR hL hG dm14E hJ2 (by omega)) f_X6_verdict q_36_9 dX6_digest_110 [0, 1, 2, 3, 4, 5, 6, 7, 8, 9] [] rfl rfl (by decide) 0 rfl rfl rfl rfl (Nat.le_of_ble_eq_true rfl) (by decide) (fun r_ w_ hp17 => ?_)
          obtain ⟨jd16x, jd16y, jd16z, jd16t, jd16e, jd16l, jd16h, jd16v, jd16s, jd16n, rfl, jd16J, jd16E, rfl⟩ := hp17
          show GG k _ _ [cCJ v cj (a 0) (b 0) (d 0) (j 0) (h 0) (t 0), cPg v a n f, cAs v b g, cRu v d (a 0) jd16s, cEn v d jd16n, cJu v j (a 0) (b 0) (d 0) jd16x jd16y jd16z jd16t, cEx v j jd16e, cLo v j jd16l, cHi v j jd16h, cVi v j jd16v] _ _ [.int (zI (vdV lo hi P n i)), .long (31 * (dg (dg (dg q (nI ((P i).1))) (zI (tg9 (P i)))) (nI (dmV P n i))))]
          refine g_i2l X dX6_digest_113 rfl ?_
          refine g_ladd X dX6_digest_114 ?_
          refine g_vl (y := dg (dg (dg (dg q (nI ((P i).1))) (zI (tg9 (P i)))) (nI (dmV P n i))) (zI (vdV lo hi P n i))) (rfl) ?_
          refine g_lstore_n (lv' := [(1, .long (dg (dg (dg (dg q (nI ((P i).1))) (zI (tg9 (P i)))) (nI (dmV P n i))) (zI (vdV lo hi P n i)))), (3, .int (nI i)), (0, .ref cj)]) X dX6_digest_115 rfl (by decide) rfl ?_
          refine g_ldc2 X q_36_2 dX6_digest_116 ?_
          refine g_lload_n X dX6_digest_119 0 rfl rfl ?_
          refine g_lmul X dX6_digest_120 ?_
          refine g_aload_n X dX6_digest_121 2 rfl rfl ?_
          refine g_iload_n X dX6_digest_122 1 rfl rfl ?_
          refine g_callV (As := [.int (nI i)]) (rest := [.long (31 * (dg (dg (dg (dg q (nI ((P i).1))) (zI (tg9 (P i)))) (nI (dmV P n i))) (zI (vdV lo hi P n i))))]) (wr := []) X (c_X6_example l v cj a b d j h t n f P g lo hi jd16s jd16n jd16x jd16y jd16z jd16t jd16e jd16l jd16h jd16v i hW hR hL hG jd16E jd16J (by omega)) f_X6_example q_36_10 dX6_digest_123 [0, 1, 2, 3, 4, 5, 6, 7, 8, 9] [] rfl rfl (by decide) 0 rfl rfl rfl rfl (Nat.le_of_ble_eq_true rfl) (by decide) (fun r_ w_ hp19 => ?_)
          obtain ⟨jd18x, jd18y, jd18z, jd18t, jd18e, jd18l, jd18h, jd18v, jd18s, jd18n, rfl, jd18J, jd18E, rfl⟩ := hp19
          show GG k _ _ [cCJ v cj (a 0) (b 0) (d 0) (j 0) (h 0) (t 0), cPg v a n f, cAs v b g, cRu v d (a 0) jd18s, cEn v d jd18n, cJu v j (a 0) (b 0) (d 0) jd18x jd18y jd18z jd18t, cEx v j jd18e, cLo v j jd18l, cHi v j jd18h, cVi v j jd18v] _ _ [.int (zI (exV lo hi P n i)), .long (31 * (dg (dg (dg (dg q (nI ((P i).1))) (zI (tg9 (P i)))) (nI (dmV P n i))) (zI (vdV lo hi P n i))))]
          refine g_i2l X dX6_digest_126 rfl ?_
          refine g_ladd X dX6_digest_127 ?_
          refine g_vl (y := dg (dg (dg (dg (dg q (nI ((P i).1))) (zI (tg9 (P i)))) (nI (dmV P n i))) (zI (vdV lo hi P n i))) (zI (exV lo hi P n i))) (rfl) ?_
          refine g_lstore_n (lv' := [(1, .long (dg (dg (dg (dg (dg q (nI ((P i).1))) (zI (tg9 (P i)))) (nI (dmV P n i))) (zI (vdV lo hi P n i))) (zI (exV lo hi P n i)))), (3, .int (nI i)), (0, .ref cj)]) X dX6_digest_128 rfl (by decide) rfl ?_
          refine g_iconst (x := nI 0) X dX6_digest_129 (by decide +kernel) ?_
          refine g_istore (lv' := [(4, .int (nI 0)), (1, .long (dg (dg (dg (dg (dg q (nI ((P i).1))) (zI (tg9 (P i)))) (nI (dmV P n i))) (zI (vdV lo hi P n i))) (zI (exV lo hi P n i)))), (3, .int (nI i)), (0, .ref cj)]) X dX6_digest_130 (by decide) rfl ?_
          have lp132 : ∀ (zN : Nat) (w : Nat) (q2 : Int64) (x' : Nat) (y' : Nat) (z' : Nat) (jst' : Bool) (ex' : Nat → Int32) (lw' : Nat → Int32) (hg' : Nat → Int32) (vs' : Nat → Int64) (stl' : Bool) (e' : Nat → Int32) (hw9 : w ≤ 3) (hd9 : q2 = dB lo hi P n i w (dg (dg (dg (dg (dg q (nI ((P i).1))) (zI (tg9 (P i)))) (nI (dmV P n i))) (zI (vdV lo hi P n i))) (zI (exV lo hi P n i)))) (hJ2 : jst' = false → JOK lo hi P n x' y' z' ex' lw' hg') (hE2 : stl' = false → OKE P n e') (zM : zN = 3 - w), GG k 0 0 [cCJ v cj (a 0) (b 0) (d 0) (j 0) (h 0) (t 0), cPg v a n f, cAs v b g, cRu v d (a 0) stl', cEn v d e', cJu v j (a 0) (b 0) (d 0) x' y' z' jst', cEx v j ex', cLo v j lw', cHi v j hg', cVi v j vs'] [(4, .int (nI w)), (1, .long q2), (3, .int (nI i)), (0, .ref cj)] 132 [] := by
            intro zN
            induction zN using Nat.strongRecOn with
            | _ zN zih =>
              have ih132 := zih
              clear zih
              intro w q2 x' y' z' jst' ex' lw' hg' vs' stl' e' hw9 hd9 hJ2 hE2 zM
              refine g_iload X dX6_digest_132 0 rfl ?_
              refine g_iconst (x := nI 3) X dX6_digest_134 (by decide +kernel) ?_
              refine g_icmp_geN (tgt := 174) X dX6_digest_135 (by decide) (by omega) (by omega) (fun c135 => ?_) (fun c135 => ?_)
              · refine g_iinc (y := nI (i + 1)) (lv' := [(3, .int (nI (i + 1))), (4, .int (nI w)), (1, .long q2), (0, .ref cj)]) (j := 2) X dX6_digest_174 rfl (nI_add i 1) (by decide) rfl ?_
                refine g_goto (tgt := 42) X dX6_digest_177 (by decide) ?_
                refine g_lv (lv' := [(3, .int (nI (i + 1))), (1, .long q2), (0, .ref cj)]) [0, 2, 3] rfl ?_
                exact ih42 _ (by omega) (i + 1) q2 x' y' z' jst' ex' lw' hg' vs' stl' e' (by omega) (by first | exact Or.inl ⟨by omega, by rw [hd9, show w = 3 from by omega, hq8]; rfl⟩ | exact Or.inr ⟨by omega, by rw [hd9, show w = 3 from by omega, hq8, show i = n from by omega]⟩) hJ2 hE2 rfl
              · refine g_ldc2 X q_36_2 dX6_digest_138 ?_
                refine g_lload_n X dX6_digest_141 1 rfl rfl ?_
                refine g_lmul X dX6_digest_142 ?_
                refine g_aload_n X dX6_digest_143 3 rfl rfl ?_
                refine g_iload_n X dX6_digest_144 2 rfl rfl ?_
                refine g_iload X dX6_digest_145 0 rfl ?_
                refine g_callV (As := [.int (nI i), .int (nI w)]) (rest := [.long (31 * q2)]) (wr := []) X (c_X6_least l v cj a b d j h t n f P g lo hi stl' e' x' y' z' jst' ex' lw' hg' vs' i w hW hR hL hG hE2 hJ2 (by omega) (by omega)) f_X6_least q_36_11 dX6_digest_147 [0, 1, 2, 3, 4, 5, 6, 7, 8, 9] [] rfl rfl (by decide) 0 rfl rfl rfl rfl (Nat.le_of_ble_eq_true rfl) (by decide) (fun r_ w_ hp21 => ?_)
                obtain ⟨jd20x, jd20y, jd20z, jd20t, jd20e, jd20l, jd20h, jd20v, jd20s, jd20n, rfl, jd20J, jd20E, rfl⟩ := hp21
                show GG k _ _ [cCJ v cj (a 0) (b 0) (d 0) (j 0) (h 0) (t 0), cPg v a n f, cAs v b g, cRu v d (a 0) jd20s, cEn v d jd20n, cJu v j (a 0) (b 0) (d 0) jd20x jd20y jd20z jd20t, cEx v j jd20e, cLo v j jd20l, cHi v j jd20h, cVi v j jd20v] _ _ [.int (zI (mnV lo hi P n i w)), .long (31 * q2)]
                refine g_i2l X dX6_digest_150 rfl ?_
                refine g_ladd X dX6_digest_151 ?_
                refine g_vl (y := dg q2 (zI (mnV lo hi P n i w))) (rfl) ?_
                refine g_lstore_n (lv' := [(1, .long (dg q2 (zI (mnV lo hi P n i w)))), (4, .int (nI w)), (3, .int (nI i)), (0, .ref cj)]) X dX6_digest_152 rfl (by decide) rfl ?_
                refine g_ldc2 X q_36_2 dX6_digest_153 ?_
                refine g_lload_n X dX6_digest_156 0 rfl rfl ?_
                refine g_lmul X dX6_digest_157 ?_
                refine g_aload_n X dX6_digest_158 3 rfl rfl ?_
                refine g_iload_n X dX6_digest_159 2 rfl rfl ?_
                refine g_iload X dX6_digest_160 1 rfl ?_
                refine g_callV (As := [.int (nI i), .int (nI w)]) (rest := [.long (31 * (dg q2 (zI (mnV lo hi P n i w))))]) (wr := []) X (c_X6_greatest l v cj a b d j h t n f P g lo hi jd20s jd20n jd20x jd20y jd20z jd20t jd20e jd20l jd20h jd20v i w hW hR hL hG jd20E jd20J (by omega) (by omega)) f_X6_greatest q_36_12 dX6_digest_162 [0, 1, 2, 3, 4, 5, 6, 7, 8, 9] [] rfl rfl (by decide) 0 rfl rfl rfl rfl (Nat.le_of_ble_eq_true rfl) (by decide) (fun r_ w_ hp23 => ?_)
                obtain ⟨jd22x, jd22y, jd22z, jd22t, jd22e, jd22l, jd22h, jd22v, jd22s, jd22n, rfl, jd22J, jd22E, rfl⟩ := hp23
                show GG k _ _ [cCJ v cj (a 0) (b 0) (d 0) (j 0) (h 0) (t 0), cPg v a n f, cAs v b g, cRu v d (a 0) jd22s, cEn v d jd22n, cJu v j (a 0) (b 0) (d 0) jd22x jd22y jd22z jd22t, cEx v j jd22e, cLo v j jd22l, cHi v j jd22h, cVi v j jd22v] _ _ [.int (zI (mxV lo hi P n i w)), .long (31 * (dg q2 (zI (mnV lo hi P n i w))))]
                refine g_i2l X dX6_digest_165 rfl ?_
                refine g_ladd X dX6_digest_166 ?_
                refine g_vl (y := dg (dg q2 (zI (mnV lo hi P n i w))) (zI (mxV lo hi P n i w))) (rfl) ?_
                refine g_lstore_n (lv' := [(1, .long (dg (dg q2 (zI (mnV lo hi P n i w))) (zI (mxV lo hi P n i w)))), (4, .int (nI w)), (3, .int (nI i)), (0, .ref cj)]) X dX6_digest_167 rfl (by decide) rfl ?_
                refine g_iinc (y := nI (w + 1)) (lv' := [(4, .int (nI (w + 1))), (1, .long (dg (dg q2 (zI (mnV lo hi P n i w))) (zI (mxV lo hi P n i w)))), (3, .int (nI i)), (0, .ref cj)]) (j := 1) X dX6_digest_168 rfl (nI_add w 1) (by decide) rfl ?_
                refine g_goto (tgt := 132) X dX6_digest_171 (by decide) ?_
                exact ih132 _ (by omega) (w + 1) (dg (dg q2 (zI (mnV lo hi P n i w))) (zI (mxV lo hi P n i w))) jd22x jd22y jd22z jd22t jd22e jd22l jd22h jd22v jd22s jd22n (by omega) (by rw [hd9]; rfl) jd22J jd22E rfl
          exact lp132 _ 0 (dg (dg (dg (dg (dg q (nI ((P i).1))) (zI (tg9 (P i)))) (nI (dmV P n i))) (zI (vdV lo hi P n i))) (zI (exV lo hi P n i))) jd18x jd18y jd18z jd18t jd18e jd18l jd18h jd18v jd18s jd18n (by omega) rfl jd18J jd18E rfl
  exact lp42 _ 0 (dg (dg (dg 4234 (nI n)) (nI (ctb (jE lo hi P n) 512))) (zI (pfV lo hi P n))) jd4x jd4y jd4z jd4t jd4e jd4l jd4h jd4v jd4s jd4n (by omega) (Or.inl ⟨by omega, rfl⟩) jd4J jd4E rfl

