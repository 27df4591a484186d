/-! ## states: the methods of X7 -/
set_option maxHeartbeats 4000000 in
set_option maxRecDepth 100000 in
theorem Mc_X7_load (l : Launch) (v : VV) {P : Nat → S9} {n : Nat} {lo hi : Nat → Nat} {H : Nat → HE9} {c : Nat} {tx : Nat → Nat} {ln : Nat} {w9 : va_W} {mz : Nat} {th : Int32} (hI : IM9 v mz P n lo hi H c tx ln th w9) (hW : WF P n) (hL : AsW lo hi) (hok : ldOK tx ln) : MI l v yX7_load cX7_load 2 (some .int) ({ frames := 7, cells := 0, slots := 0, locals := 155 }) [.ref mz] [w9] (fun r w_ => r = nI (pAll tx ln 12 0 []).2.2.length ∧ ∃ w1, IM9 v mz (lg9 (pAll tx ln 12 0 []).2.2) ((pAll tx ln 12 0 []).2.2.length) lo hi (hS9 H c (P, n, lo, hi)) (hC9 c) tx 0 (nI 0) w1 ∧ w_ = [w1]) 0 0 := by
  obtain ⟨mo, rm, fa, sp, wr, dd, fs, fv, ft, fr, fe, fn, rfl, hS, hH, hT, rfl⟩ := hI
  refine mm_fr (wr := [cMe v mo fe, cMn v mo fn]) (c_X7_load l v mo th c ln rm fa sp wr dd P n lo hi fs fv ft fr tx H hW hS hL hH hT hok) [0, 1, 2, 3, 4] [5, 6] rfl rfl (by decide +kernel) ?_
  rintro r w_ ⟨fs', fv', fr', fa', wr', hr9, k0, k1, rfl⟩
  exact ⟨[0, 1, 2, 3, 4, 5, 6], [[((mo 0), .inr (7, [.int (nI 0), .ref (mo 1), .ref (mo 2), .int (nI (hC9 c)), .ref (mo 3), .int (nI 0), .ref (mo 4), .int (nI ((pAll tx ln 12 0 []).2.2.length)), .int (nI fa'), .ref (mo 5), .ref (mo 6), .int (nI ((pAll tx ln 12 0 []).2.1)), .int wr', .long dd]))], cMs v mo fs', cMv v mo fv', cMt v mo ft, cMr v mo fr', cMe v mo fe, cMn v mo fn], by decide +kernel, rfl, hr9, ⟨_, ⟨_, _, _, _, _, _, _, _, _, _, _, _, rfl, k0, k1, (TxR_0 hT), rfl⟩, rfl⟩⟩

set_option maxHeartbeats 4000000 in
set_option maxRecDepth 100000 in
theorem Mb_X7_load (l : Launch) (v : VV) {P : Nat → S9} {n : Nat} {lo hi : Nat → Nat} {H : Nat → HE9} {c : Nat} {tx : Nat → Nat} {ln : Nat} {w9 : va_W} {mz : Nat} {th : Int32} (hI : IM9 v mz P n lo hi H c tx ln th w9) (hW : WF P n) (hL : AsW lo hi) (hok : ¬ ldOK tx ln) : MI l v yX7_load cX7_load 2 (some .int) ({ frames := 7, cells := 0, slots := 0, locals := 155 }) [.ref mz] [w9] (fun r w_ => r = nI 0 ∧ ∃ w1, IM9 v mz P n lo hi H c tx ln (nI 1) w1 ∧ w_ = [w1]) 0 0 := by
  obtain ⟨mo, rm, fa, sp, wr, dd, fs, fv, ft, fr, fe, fn, rfl, hS, hH, hT, rfl⟩ := hI
  refine mm_fr (wr := [cMv v mo fv, cMe v mo fe, cMn v mo fn]) (b_X7_load l v mo th c ln rm fa sp wr dd P n lo hi fs ft fr tx hW hS hT hok) [0, 1, 3, 4] [2, 5, 6] rfl rfl (by decide +kernel) ?_
  rintro r w_ ⟨fr', fa', wr', hr9, rfl⟩
  exact ⟨[0, 1, 4, 2, 3, 5, 6], [[((mo 0), .inr (7, [.int (nI 1), .ref (mo 1), .ref (mo 2), .int (nI c), .ref (mo 3), .int (nI ln), .ref (mo 4), .int (nI ((pAll tx ln 12 0 []).2.2.length)), .int (nI fa'), .ref (mo 5), .ref (mo 6), .int (nI ((pAll tx ln 12 0 []).2.1)), .int wr', .long dd]))], cMs v mo fs, cMv v mo fv, cMt v mo ft, cMr v mo fr', cMe v mo fe, cMn v mo fn], by decide +kernel, rfl, hr9, ⟨_, ⟨_, _, _, _, _, _, _, _, _, _, _, _, rfl, hS, hH, hT, rfl⟩, rfl⟩⟩

set_option maxHeartbeats 4000000 in
set_option maxRecDepth 100000 in
theorem Mc_X7_add (l : Launch) (v : VV) {P : Nat → S9} {n : Nat} {lo hi : Nat → Nat} {H : Nat → HE9} {c : Nat} {tx : Nat → Nat} {ln : Nat} {w9 : va_W} {mz : Nat} {th : Int32} (hI : IM9 v mz P n lo hi H c tx ln th w9) (hW : WF P n) (hL : AsW lo hi) (hok : adOK tx ln n) : MI l v yX7_add cX7_add 2 (some .int) ({ frames := 7, cells := 0, slots := 0, locals := 155 }) [.ref mz] [w9] (fun r w_ => r = nI (n + (pAll tx ln 12 0 []).2.2.length) ∧ ∃ w1, IM9 v mz (ap9 P n (lg9 (pAll tx ln 12 0 []).2.2)) (n + (pAll tx ln 12 0 []).2.2.length) lo hi (hS9 H c (P, n, lo, hi)) (hC9 c) tx 0 (nI 0) w1 ∧ w_ = [w1]) 0 0 := by
  obtain ⟨mo, rm, fa, sp, wr, dd, fs, fv, ft, fr, fe, fn, rfl, hS, hH, hT, rfl⟩ := hI
  refine mm_fr (wr := [cMe v mo fe, cMn v mo fn]) (c_X7_add l v mo th c ln rm fa sp wr dd P n lo hi fs fv ft fr tx H hW hS hL hH hT hok) [0, 1, 2, 3, 4] [5, 6] rfl rfl (by decide +kernel) ?_
  rintro r w_ ⟨fs', fv', fr', fa', wr', hr9, k0, k1, rfl⟩
  exact ⟨[0, 1, 2, 3, 4, 5, 6], [[((mo 0), .inr (7, [.int (nI 0), .ref (mo 1), .ref (mo 2), .int (nI (hC9 c)), .ref (mo 3), .int (nI 0), .ref (mo 4), .int (nI ((pAll tx ln 12 0 []).2.2.length)), .int (nI fa'), .ref (mo 5), .ref (mo 6), .int (nI ((pAll tx ln 12 0 []).2.1)), .int wr', .long dd]))], cMs v mo fs', cMv v mo fv', cMt v mo ft, cMr v mo fr', cMe v mo fe, cMn v mo fn], by decide +kernel, rfl, hr9, ⟨_, ⟨_, _, _, _, _, _, _, _, _, _, _, _, rfl, k0, k1, (TxR_0 hT), rfl⟩, rfl⟩⟩

set_option maxHeartbeats 4000000 in
set_option maxRecDepth 100000 in
theorem Mb_X7_add (l : Launch) (v : VV) {P : Nat → S9} {n : Nat} {lo hi : Nat → Nat} {H : Nat → HE9} {c : Nat} {tx : Nat → Nat} {ln : Nat} {w9 : va_W} {mz : Nat} {th : Int32} (hI : IM9 v mz P n lo hi H c tx ln th w9) (hW : WF P n) (hL : AsW lo hi) (hok : ¬ adOK tx ln n) : MI l v yX7_add cX7_add 2 (some .int) ({ frames := 7, cells := 0, slots := 0, locals := 155 }) [.ref mz] [w9] (fun r w_ => r = nI 0 ∧ ∃ w1, IM9 v mz P n lo hi H c tx ln (nI 1) w1 ∧ w_ = [w1]) 0 0 := by
  obtain ⟨mo, rm, fa, sp, wr, dd, fs, fv, ft, fr, fe, fn, rfl, hS, hH, hT, rfl⟩ := hI
  refine mm_fr (wr := [cMv v mo fv, cMe v mo fe, cMn v mo fn]) (b_X7_add l v mo th c ln rm fa sp wr dd P n lo hi fs ft fr tx hW hS hT hok) [0, 1, 3, 4] [2, 5, 6] rfl rfl (by decide +kernel) ?_
  rintro r w_ ⟨fr', fa', wr', hr9, rfl⟩
  exact ⟨[0, 1, 4, 2, 3, 5, 6], [[((mo 0), .inr (7, [.int (nI 1), .ref (mo 1), .ref (mo 2), .int (nI c), .ref (mo 3), .int (nI ln), .ref (mo 4), .int (nI ((pAll tx ln 12 0 []).2.2.length)), .int (nI fa'), .ref (mo 5), .ref (mo 6), .int (nI ((pAll tx ln 12 0 []).2.1)), .int wr', .long dd]))], cMs v mo fs, cMv v mo fv, cMt v mo ft, cMr v mo fr', cMe v mo fe, cMn v mo fn], by decide +kernel, rfl, hr9, ⟨_, ⟨_, _, _, _, _, _, _, _, _, _, _, _, rfl, hS, hH, hT, rfl⟩, rfl⟩⟩

set_option maxHeartbeats 4000000 in
set_option maxRecDepth 100000 in
theorem Mc_X7_removeLast (l : Launch) (v : VV) {P : Nat → S9} {n : Nat} {lo hi : Nat → Nat} {H : Nat → HE9} {c : Nat} {tx : Nat → Nat} {ln : Nat} {w9 : va_W} {mz : Nat} {th : Int32} (hI : IM9 v mz P n lo hi H c tx ln th w9) (hW : WF P n) (hL : AsW lo hi) (hn : 0 < n) : MI l v yX7_removeLast cX7_removeLast 3 (some .int) ({ frames := 1, cells := 0, slots := 0, locals := 21 }) [.ref mz] [w9] (fun r w_ => r = nI (n - 1) ∧ ∃ w1, IM9 v mz (dr9 P (n - 1)) (n - 1) lo hi (hS9 H c (P, n, lo, hi)) (hC9 c) tx ln (nI 0) w1 ∧ w_ = [w1]) 0 0 := by
  obtain ⟨mo, rm, fa, sp, wr, dd, fs, fv, ft, fr, fe, fn, rfl, hS, hH, hT, rfl⟩ := hI
  refine mm_fr (wr := [cMt v mo ft, cMr v mo fr, cMe v mo fe, cMn v mo fn]) (c_X7_removeLast l v mo th c ln rm fa sp wr dd P n lo hi fs fv H hW hS hL hH hn) [0, 1, 2] [3, 4, 5, 6] rfl rfl (by decide +kernel) ?_
  rintro r w_ ⟨fs', fv', hr9, k0, k1, rfl⟩
  exact ⟨[0, 1, 2, 3, 4, 5, 6], [[((mo 0), .inr (7, [.int (nI 0), .ref (mo 1), .ref (mo 2), .int (nI (hC9 c)), .ref (mo 3), .int (nI ln), .ref (mo 4), .int rm, .int fa, .ref (mo 5), .ref (mo 6), .int sp, .int wr, .long dd]))], cMs v mo fs', cMv v mo fv', cMt v mo ft, cMr v mo fr, cMe v mo fe, cMn v mo fn], by decide +kernel, rfl, hr9, ⟨_, ⟨_, _, _, _, _, _, _, _, _, _, _, _, rfl, k0, k1, hT, rfl⟩, rfl⟩⟩

set_option maxHeartbeats 4000000 in
set_option maxRecDepth 100000 in
theorem Mb_X7_removeLast (l : Launch) (v : VV) {P : Nat → S9} {lo hi : Nat → Nat} {H : Nat → HE9} {c : Nat} {tx : Nat → Nat} {ln : Nat} {w9 : va_W} {mz : Nat} {th : Int32} (hI : IM9 v mz P 0 lo hi H c tx ln th w9) (hW : WF P 0) (hL : AsW lo hi) : MI l v yX7_removeLast cX7_removeLast 3 (some .int) ({ frames := 1, cells := 0, slots := 0, locals := 21 }) [.ref mz] [w9] (fun r w_ => r = nI 0 ∧ ∃ w1, IM9 v mz P 0 lo hi H c tx ln (nI 1) w1 ∧ w_ = [w1]) 0 0 := by
  obtain ⟨mo, rm, fa, sp, wr, dd, fs, fv, ft, fr, fe, fn, rfl, hS, hH, hT, rfl⟩ := hI
  refine mm_fr (wr := [cMv v mo fv, cMt v mo ft, cMr v mo fr, cMe v mo fe, cMn v mo fn]) (b_X7_removeLast l v mo th c ln rm fa sp wr dd P lo hi fs hS) [0, 1] [2, 3, 4, 5, 6] rfl rfl (by decide +kernel) ?_
  rintro r w_ ⟨hr9, rfl⟩
  exact ⟨[0, 1, 2, 3, 4, 5, 6], [[((mo 0), .inr (7, [.int (nI 1), .ref (mo 1), .ref (mo 2), .int (nI c), .ref (mo 3), .int (nI ln), .ref (mo 4), .int rm, .int fa, .ref (mo 5), .ref (mo 6), .int sp, .int wr, .long dd]))], cMs v mo fs, cMv v mo fv, cMt v mo ft, cMr v mo fr, cMe v mo fe, cMn v mo fn], by decide +kernel, rfl, hr9, ⟨_, ⟨_, _, _, _, _, _, _, _, _, _, _, _, rfl, hS, hH, hT, rfl⟩, rfl⟩⟩

set_option maxHeartbeats 4000000 in
set_option maxRecDepth 100000 in
theorem Mc_X7_kind (l : Launch) (v : VV) {P : Nat → S9} {n : Nat} {lo hi : Nat → Nat} {H : Nat → HE9} {c : Nat} {tx : Nat → Nat} {ln : Nat} {w9 : va_W} {mz : Nat} {th : Int32} (hI : IM9 v mz P n lo hi H c tx ln th w9) (hW : WF P n) (hL : AsW lo hi) (i : Nat) (hi9 : i < n) : MI l v yX7_kind cX7_kind 2 (some .int) ({ frames := 2, cells := 0, slots := 0, locals := 43 }) [.ref mz, .int (nI i)] [w9] (fun r w_ => r = nI (P i).1 ∧ ∃ w1, IM9 v mz P n lo hi H c tx ln (nI 0) w1 ∧ w_ = [w1]) 0 0 := by
  obtain ⟨mo, rm, fa, sp, wr, dd, fs, fv, ft, fr, fe, fn, rfl, hS, hH, hT, rfl⟩ := hI
  refine mm_fr (wr := [cMv v mo fv, cMt v mo ft, cMr v mo fr, cMe v mo fe, cMn v mo fn]) (c_X7_kind l v mo th c ln rm fa sp wr dd P n lo hi fs i hW hS hi9) [0, 1] [2, 3, 4, 5, 6] rfl rfl (by decide +kernel) ?_
  rintro r w_ ⟨hr9, rfl⟩
  exact ⟨[0, 1, 2, 3, 4, 5, 6], [[((mo 0), .inr (7, [.int (nI 0), .ref (mo 1), .ref (mo 2), .int (nI c), .ref (mo 3), .int (nI ln), .ref (mo 4), .int rm, .int fa, .ref (mo 5), .ref (mo 6), .int sp, .int wr, .long dd]))], cMs v mo fs, cMv v mo fv, cMt v mo ft, cMr v mo fr, cMe v mo fe, cMn v mo fn], by decide +kernel, rfl, hr9, ⟨_, ⟨_, _, _, _, _, _, _, _, _, _, _, _, rfl, hS, hH, hT, rfl⟩, rfl⟩⟩

set_option maxHeartbeats 4000000 in
set_option maxRecDepth 100000 in
theorem Mb_X7_kind (l : Launch) (v : VV) {P : Nat → S9} {n : Nat} {lo hi : Nat → Nat} {H : Nat → HE9} {c : Nat} {tx : Nat → Nat} {ln : Nat} {w9 : va_W} {mz : Nat} {th : Int32} (hI : IM9 v mz P n lo hi H c tx ln th w9) (hW : WF P n) (hL : AsW lo hi) (x : Int32) (hx : bdI x n) : MI l v yX7_kind cX7_kind 2 (some .int) ({ frames := 2, cells := 0, slots := 0, locals := 43 }) [.ref mz, .int x] [w9] (fun r w_ => r = nI 0 ∧ ∃ w1, IM9 v mz P n lo hi H c tx ln (nI 1) w1 ∧ w_ = [w1]) 0 0 := by
  obtain ⟨mo, rm, fa, sp, wr, dd, fs, fv, ft, fr, fe, fn, rfl, hS, hH, hT, rfl⟩ := hI
  refine mm_fr (wr := [cMv v mo fv, cMt v mo ft, cMr v mo fr, cMe v mo fe, cMn v mo fn]) (b_X7_kind l v mo th c ln rm fa sp wr dd P n lo hi fs x hW hS hx) [0, 1] [2, 3, 4, 5, 6] rfl rfl (by decide +kernel) ?_
  rintro r w_ ⟨hr9, rfl⟩
  exact ⟨[0, 1, 2, 3, 4, 5, 6], [[((mo 0), .inr (7, [.int (nI 1), .ref (mo 1), .ref (mo 2), .int (nI c), .ref (mo 3), .int (nI ln), .ref (mo 4), .int rm, .int fa, .ref (mo 5), .ref (mo 6), .int sp, .int wr, .long dd]))], cMs v mo fs, cMv v mo fv, cMt v mo ft, cMr v mo fr, cMe v mo fe, cMn v mo fn], by decide +kernel, rfl, hr9, ⟨_, ⟨_, _, _, _, _, _, _, _, _, _, _, _, rfl, hS, hH, hT, rfl⟩, rfl⟩⟩

set_option maxHeartbeats 4000000 in
set_option maxRecDepth 100000 in
theorem Mc_X7_target (l : Launch) (v : VV) {P : Nat → S9} {n : Nat} {lo hi : Nat → Nat} {H : Nat → HE9} {c : Nat} {tx : Nat → Nat} {ln : Nat} {w9 : va_W} {mz : Nat} {th : Int32} (hI : IM9 v mz P n lo hi H c tx ln th w9) (hW : WF P n) (hL : AsW lo hi) (i : Nat) (hi9 : i < n) : MI l v yX7_target cX7_target 2 (some .int) ({ frames := 2, cells := 0, slots := 0, locals := 43 }) [.ref mz, .int (nI i)] [w9] (fun r w_ => r = zI (tg9 (P i)) ∧ ∃ w1, IM9 v mz P n lo hi H c tx ln (nI 0) w1 ∧ w_ = [w1]) 0 0 := by
  obtain ⟨mo, rm, fa, sp, wr, dd, fs, fv, ft, fr, fe, fn, rfl, hS, hH, hT, rfl⟩ := hI
  refine mm_fr (wr := [cMv v mo fv, cMt v mo ft, cMr v mo fr, cMe v mo fe, cMn v mo fn]) (c_X7_target l v mo th c ln rm fa sp wr dd P n lo hi fs i hW hS hi9) [0, 1] [2, 3, 4, 5, 6] rfl rfl (by decide +kernel) ?_
  rintro r w_ ⟨hr9, rfl⟩
  exact ⟨[0, 1, 2, 3, 4, 5, 6], [[((mo 0), .inr (7, [.int (nI 0), .ref (mo 1), .ref (mo 2), .int (nI c), .ref (mo 3), .int (nI ln), .ref (mo 4), .int rm, .int fa, .ref (mo 5), .ref (mo 6), .int sp, .int wr, .long dd]))], cMs v mo fs, cMv v mo fv, cMt v mo ft, cMr v mo fr, cMe v mo fe, cMn v mo fn], by decide +kernel, rfl, hr9, ⟨_, ⟨_, _, _, _, _, _, _, _, _, _, _, _, rfl, hS, hH, hT, rfl⟩, rfl⟩⟩

set_option maxHeartbeats 4000000 in
set_option maxRecDepth 100000 in
theorem Mb_X7_target (l : Launch) (v : VV) {P : Nat → S9} {n : Nat} {lo hi : Nat → Nat} {H : Nat → HE9} {c : Nat} {tx : Nat → Nat} {ln : Nat} {w9 : va_W} {mz : Nat} {th : Int32} (hI : IM9 v mz P n lo hi H c tx ln th w9) (hW : WF P n) (hL : AsW lo hi) (x : Int32) (hx : bdI x n) : MI l v yX7_target cX7_target 2 (some .int) ({ frames := 2, cells := 0, slots := 0, locals := 43 }) [.ref mz, .int x] [w9] (fun r w_ => r = nI 0 ∧ ∃ w1, IM9 v mz P n lo hi H c tx ln (nI 1) w1 ∧ w_ = [w1]) 0 0 := by
  obtain ⟨mo, rm, fa, sp, wr, dd, fs, fv, ft, fr, fe, fn, rfl, hS, hH, hT, rfl⟩ := hI
  refine mm_fr (wr := [cMv v mo fv, cMt v mo ft, cMr v mo fr, cMe v mo fe, cMn v mo fn]) (b_X7_target l v mo th c ln rm fa sp wr dd P n lo hi fs x hW hS hx) [0, 1] [2, 3, 4, 5, 6] rfl rfl (by decide +kernel) ?_
  rintro r w_ ⟨hr9, rfl⟩
  exact ⟨[0, 1, 2, 3, 4, 5, 6], [[((mo 0), .inr (7, [.int (nI 1), .ref (mo 1), .ref (mo 2), .int (nI c), .ref (mo 3), .int (nI ln), .ref (mo 4), .int rm, .int fa, .ref (mo 5), .ref (mo 6), .int sp, .int wr, .long dd]))], cMs v mo fs, cMv v mo fv, cMt v mo ft, cMr v mo fr, cMe v mo fe, cMn v mo fn], by decide +kernel, rfl, hr9, ⟨_, ⟨_, _, _, _, _, _, _, _, _, _, _, _, rfl, hS, hH, hT, rfl⟩, rfl⟩⟩

set_option maxHeartbeats 4000000 in
set_option maxRecDepth 100000 in
theorem Mc_X7_verdict (l : Launch) (v : VV) {P : Nat → S9} {n : Nat} {lo hi : Nat → Nat} {H : Nat → HE9} {c : Nat} {tx : Nat → Nat} {ln : Nat} {w9 : va_W} {mz : Nat} {th : Int32} (hI : IM9 v mz P n lo hi H c tx ln th w9) (hW : WF P n) (hL : AsW lo hi) (i : Nat) (hi9 : i < n) : MI l v yX7_verdict cX7_verdict 2 (some .int) ({ frames := 6, cells := 0, slots := 0, locals := 138 }) [.ref mz, .int (nI i)] [w9] (fun r w_ => r = zI (vdV lo hi P n i) ∧ ∃ w1, IM9 v mz P n lo hi H c tx ln (nI 0) w1 ∧ w_ = [w1]) 0 0 := by
  obtain ⟨mo, rm, fa, sp, wr, dd, fs, fv, ft, fr, fe, fn, rfl, hS, hH, hT, rfl⟩ := hI
  refine mm_fr (wr := [cMv v mo fv, cMt v mo ft, cMr v mo fr]) (c_X7_verdict l v mo th c ln rm fa sp wr dd P n lo hi fs fe fn i hW hS hL hi9) [0, 1, 5, 6] [2, 3, 4] rfl rfl (by decide +kernel) ?_
  rintro r w_ ⟨fe', fn', hr9, rfl⟩
  exact ⟨[0, 1, 4, 5, 6, 2, 3], [[((mo 0), .inr (7, [.int (nI 0), .ref (mo 1), .ref (mo 2), .int (nI c), .ref (mo 3), .int (nI ln), .ref (mo 4), .int rm, .int fa, .ref (mo 5), .ref (mo 6), .int sp, .int wr, .long dd]))], cMs v mo fs, cMv v mo fv, cMt v mo ft, cMr v mo fr, cMe v mo fe', cMn v mo fn'], by decide +kernel, rfl, hr9, ⟨_, ⟨_, _, _, _, _, _, _, _, _, _, _, _, rfl, hS, hH, hT, rfl⟩, rfl⟩⟩

set_option maxHeartbeats 4000000 in
set_option maxRecDepth 100000 in
theorem Mb_X7_verdict (l : Launch) (v : VV) {P : Nat → S9} {n : Nat} {lo hi : Nat → Nat} {H : Nat → HE9} {c : Nat} {tx : Nat → Nat} {ln : Nat} {w9 : va_W} {mz : Nat} {th : Int32} (hI : IM9 v mz P n lo hi H c tx ln th w9) (hW : WF P n) (hL : AsW lo hi) (x : Int32) (hx : bdI x n) : MI l v yX7_verdict cX7_verdict 2 (some .int) ({ frames := 2, cells := 0, slots := 0, locals := 43 }) [.ref mz, .int x] [w9] (fun r w_ => r = nI 0 ∧ ∃ w1, IM9 v mz P n lo hi H c tx ln (nI 1) w1 ∧ w_ = [w1]) 0 0 := by
  obtain ⟨mo, rm, fa, sp, wr, dd, fs, fv, ft, fr, fe, fn, rfl, hS, hH, hT, rfl⟩ := hI
  refine mm_fr (wr := [cMv v mo fv, cMt v mo ft, cMr v mo fr, cMe v mo fe, cMn v mo fn]) (b_X7_verdict l v mo th c ln rm fa sp wr dd P n lo hi fs x hW hS hx) [0, 1] [2, 3, 4, 5, 6] rfl rfl (by decide +kernel) ?_
  rintro r w_ ⟨hr9, rfl⟩
  exact ⟨[0, 1, 2, 3, 4, 5, 6], [[((mo 0), .inr (7, [.int (nI 1), .ref (mo 1), .ref (mo 2), .int (nI c), .ref (mo 3), .int (nI ln), .ref (mo 4), .int rm, .int fa, .ref (mo 5), .ref (mo 6), .int sp, .int wr, .long dd]))], cMs v mo fs, cMv v mo fv, cMt v mo ft, cMr v mo fr, cMe v mo fe, cMn v mo fn], by decide +kernel, rfl, hr9, ⟨_, ⟨_, _, _, _, _, _, _, _, _, _, _, _, rfl, hS, hH, hT, rfl⟩, rfl⟩⟩

set_option maxHeartbeats 4000000 in
set_option maxRecDepth 100000 in
theorem Mc_X7_example (l : Launch) (v : VV) {P : Nat → S9} {n : Nat} {lo hi : Nat → Nat} {H : Nat → HE9} {c : Nat} {tx : Nat → Nat} {ln : Nat} {w9 : va_W} {mz : Nat} {th : Int32} (hI : IM9 v mz P n lo hi H c tx ln th w9) (hW : WF P n) (hL : AsW lo hi) (i : Nat) (hi9 : i < n) : MI l v yX7_example cX7_example 2 (some .int) ({ frames := 6, cells := 0, slots := 0, locals := 138 }) [.ref mz, .int (nI i)] [w9] (fun r w_ => r = zI (exV lo hi P n i) ∧ ∃ w1, IM9 v mz P n lo hi H c tx ln (nI 0) w1 ∧ w_ = [w1]) 0 0 := by
  obtain ⟨mo, rm, fa, sp, wr, dd, fs, fv, ft, fr, fe, fn, rfl, hS, hH, hT, rfl⟩ := hI
  refine mm_fr (wr := [cMv v mo fv, cMt v mo ft, cMr v mo fr, cMn v mo fn]) (c_X7_example l v mo th c ln rm fa sp wr dd P n lo hi fs fe i hW hS hL hi9) [0, 1, 5] [2, 3, 4, 6] rfl rfl (by decide +kernel) ?_
  rintro r w_ ⟨fe', hr9, rfl⟩
  exact ⟨[0, 1, 3, 4, 5, 2, 6], [[((mo 0), .inr (7, [.int (nI 0), .ref (mo 1), .ref (mo 2), .int (nI c), .ref (mo 3), .int (nI ln), .ref (mo 4), .int rm, .int fa, .ref (mo 5), .ref (mo 6), .int sp, .int wr, .long dd]))], cMs v mo fs, cMv v mo fv, cMt v mo ft, cMr v mo fr, cMe v mo fe', cMn v mo fn], by decide +kernel, rfl, hr9, ⟨_, ⟨_, _, _, _, _, _, _, _, _, _, _, _, rfl, hS, hH, hT, rfl⟩, rfl⟩⟩

set_option maxHeartbeats 4000000 in
set_option maxRecDepth 100000 in
theorem Mb_X7_example (l : Launch) (v : VV) {P : Nat → S9} {n : Nat} {lo hi : Nat → Nat} {H : Nat → HE9} {c : Nat} {tx : Nat → Nat} {ln : Nat} {w9 : va_W} {mz : Nat} {th : Int32} (hI : IM9 v mz P n lo hi H c tx ln th w9) (hW : WF P n) (hL : AsW lo hi) (x : Int32) (hx : bdI x n) : MI l v yX7_example cX7_example 2 (some .int) ({ frames := 2, cells := 0, slots := 0, locals := 43 }) [.ref mz, .int x] [w9] (fun r w_ => r = nI 0 ∧ ∃ w1, IM9 v mz P n lo hi H c tx ln (nI 1) w1 ∧ w_ = [w1]) 0 0 := by
  obtain ⟨mo, rm, fa, sp, wr, dd, fs, fv, ft, fr, fe, fn, rfl, hS, hH, hT, rfl⟩ := hI
  refine mm_fr (wr := [cMv v mo fv, cMt v mo ft, cMr v mo fr, cMe v mo fe, cMn v mo fn]) (b_X7_example l v mo th c ln rm fa sp wr dd P n lo hi fs x hW hS hx) [0, 1] [2, 3, 4, 5, 6] rfl rfl (by decide +kernel) ?_
  rintro r w_ ⟨hr9, rfl⟩
  exact ⟨[0, 1, 2, 3, 4, 5, 6], [[((mo 0), .inr (7, [.int (nI 1), .ref (mo 1), .ref (mo 2), .int (nI c), .ref (mo 3), .int (nI ln), .ref (mo 4), .int rm, .int fa, .ref (mo 5), .ref (mo 6), .int sp, .int wr, .long dd]))], cMs v mo fs, cMv v mo fv, cMt v mo ft, cMr v mo fr, cMe v mo fe, cMn v mo fn], by decide +kernel, rfl, hr9, ⟨_, ⟨_, _, _, _, _, _, _, _, _, _, _, _, rfl, hS, hH, hT, rfl⟩, rfl⟩⟩

set_option maxHeartbeats 4000000 in
set_option maxRecDepth 100000 in
theorem Mc_X7_run (l : Launch) (v : VV) {P : Nat → S9} {n : Nat} {lo hi : Nat → Nat} {H : Nat → HE9} {c : Nat} {tx : Nat → Nat} {ln : Nat} {w9 : va_W} {mz : Nat} {th : Int32} (hI : IM9 v mz P n lo hi H c tx ln th w9) (hW : WF P n) (hL : AsW lo hi) (x : Nat) (y : Nat) (z : Nat) (hx : x < 8) (hy : y < 8) (hz : z < 8) : MI l v yX7_run cX7_run 4 (some .int) ({ frames := 6, cells := 0, slots := 0, locals := 138 }) [.ref mz, .int (nI x), .int (nI y), .int (nI z)] [w9] (fun r w_ => r = zI (EE P n (64 * x + 8 * y + z)) ∧ ∃ w1, IM9 v mz P n lo hi H c tx ln (nI 0) w1 ∧ w_ = [w1]) 0 0 := by
  obtain ⟨mo, rm, fa, sp, wr, dd, fs, fv, ft, fr, fe, fn, rfl, hS, hH, hT, rfl⟩ := hI
  refine mm_fr (wr := [cMv v mo fv, cMt v mo ft, cMr v mo fr, cMn v mo fn]) (c_X7_run l v mo th c ln rm fa sp wr dd P n lo hi fs fe x y z hW hS hx hy hz) [0, 1, 5] [2, 3, 4, 6] rfl rfl (by decide +kernel) ?_
  rintro r w_ ⟨fe', hr9, rfl⟩
  exact ⟨[0, 1, 3, 4, 5, 2, 6], [[((mo 0), .inr (7, [.int (nI 0), .ref (mo 1), .ref (mo 2), .int (nI c), .ref (mo 3), .int (nI ln), .ref (mo 4), .int rm, .int fa, .ref (mo 5), .ref (mo 6), .int sp, .int wr, .long dd]))], cMs v mo fs, cMv v mo fv, cMt v mo ft, cMr v mo fr, cMe v mo fe', cMn v mo fn], by decide +kernel, rfl, hr9, ⟨_, ⟨_, _, _, _, _, _, _, _, _, _, _, _, rfl, hS, hH, hT, rfl⟩, rfl⟩⟩

set_option maxHeartbeats 4000000 in
set_option maxRecDepth 100000 in
theorem Mb0_X7_run (l : Launch) (v : VV) {P : Nat → S9} {n : Nat} {lo hi : Nat → Nat} {H : Nat → HE9} {c : Nat} {tx : Nat → Nat} {ln : Nat} {w9 : va_W} {mz : Nat} {th : Int32} (hI : IM9 v mz P n lo hi H c tx ln th w9) (hW : WF P n) (hL : AsW lo hi) (x : Int32) (y : Int32) (z : Int32) (hx : bdI x 8) : MI l v yX7_run cX7_run 4 (some .int) ({ frames := 2, cells := 0, slots := 0, locals := 44 }) [.ref mz, .int x, .int y, .int z] [w9] (fun r w_ => r = nI 0 ∧ ∃ w1, IM9 v mz P n lo hi H c tx ln (nI 1) w1 ∧ w_ = [w1]) 0 0 := by
  obtain ⟨mo, rm, fa, sp, wr, dd, fs, fv, ft, fr, fe, fn, rfl, hS, hH, hT, rfl⟩ := hI
  refine mm_fr (wr := [cMs v mo fs, cMv v mo fv, cMt v mo ft, cMr v mo fr, cMe v mo fe, cMn v mo fn]) (b0_X7_run l v mo th c ln rm fa sp wr dd x y z hx) [0] [1, 2, 3, 4, 5, 6] rfl rfl (by decide +kernel) ?_
  rintro r w_ ⟨hr9, rfl⟩
  exact ⟨[0, 1, 2, 3, 4, 5, 6], [[((mo 0), .inr (7, [.int (nI 1), .ref (mo 1), .ref (mo 2), .int (nI c), .ref (mo 3), .int (nI ln), .ref (mo 4), .int rm, .int fa, .ref (mo 5), .ref (mo 6), .int sp, .int wr, .long dd]))], cMs v mo fs, cMv v mo fv, cMt v mo ft, cMr v mo fr, cMe v mo fe, cMn v mo fn], by decide +kernel, rfl, hr9, ⟨_, ⟨_, _, _, _, _, _, _, _, _, _, _, _, rfl, hS, hH, hT, rfl⟩, rfl⟩⟩

set_option maxHeartbeats 4000000 in
set_option maxRecDepth 100000 in
theorem Mb1_X7_run (l : Launch) (v : VV) {P : Nat → S9} {n : Nat} {lo hi : Nat → Nat} {H : Nat → HE9} {c : Nat} {tx : Nat → Nat} {ln : Nat} {w9 : va_W} {mz : Nat} {th : Int32} (hI : IM9 v mz P n lo hi H c tx ln th w9) (hW : WF P n) (hL : AsW lo hi) (x : Nat) (y : Int32) (z : Int32) (h1 : x < 8) (hx : bdI y 8) : MI l v yX7_run cX7_run 4 (some .int) ({ frames := 2, cells := 0, slots := 0, locals := 44 }) [.ref mz, .int (nI x), .int y, .int z] [w9] (fun r w_ => r = nI 0 ∧ ∃ w1, IM9 v mz P n lo hi H c tx ln (nI 1) w1 ∧ w_ = [w1]) 0 0 := by
  obtain ⟨mo, rm, fa, sp, wr, dd, fs, fv, ft, fr, fe, fn, rfl, hS, hH, hT, rfl⟩ := hI
  refine mm_fr (wr := [cMs v mo fs, cMv v mo fv, cMt v mo ft, cMr v mo fr, cMe v mo fe, cMn v mo fn]) (b1_X7_run l v mo th c ln rm fa sp wr dd x y z h1 hx) [0] [1, 2, 3, 4, 5, 6] rfl rfl (by decide +kernel) ?_
  rintro r w_ ⟨hr9, rfl⟩
  exact ⟨[0, 1, 2, 3, 4, 5, 6], [[((mo 0), .inr (7, [.int (nI 1), .ref (mo 1), .ref (mo 2), .int (nI c), .ref (mo 3), .int (nI ln), .ref (mo 4), .int rm, .int fa, .ref (mo 5), .ref (mo 6), .int sp, .int wr, .long dd]))], cMs v mo fs, cMv v mo fv, cMt v mo ft, cMr v mo fr, cMe v mo fe, cMn v mo fn], by decide +kernel, rfl, hr9, ⟨_, ⟨_, _, _, _, _, _, _, _, _, _, _, _, rfl, hS, hH, hT, rfl⟩, rfl⟩⟩

set_option maxHeartbeats 4000000 in
set_option maxRecDepth 100000 in
theorem Mb2_X7_run (l : Launch) (v : VV) {P : Nat → S9} {n : Nat} {lo hi : Nat → Nat} {H : Nat → HE9} {c : Nat} {tx : Nat → Nat} {ln : Nat} {w9 : va_W} {mz : Nat} {th : Int32} (hI : IM9 v mz P n lo hi H c tx ln th w9) (hW : WF P n) (hL : AsW lo hi) (x : Nat) (y : Nat) (z : Int32) (h1 : x < 8) (h2 : y < 8) (hx : bdI z 8) : MI l v yX7_run cX7_run 4 (some .int) ({ frames := 2, cells := 0, slots := 0, locals := 44 }) [.ref mz, .int (nI x), .int (nI y), .int z] [w9] (fun r w_ => r = nI 0 ∧ ∃ w1, IM9 v mz P n lo hi H c tx ln (nI 1) w1 ∧ w_ = [w1]) 0 0 := by
  obtain ⟨mo, rm, fa, sp, wr, dd, fs, fv, ft, fr, fe, fn, rfl, hS, hH, hT, rfl⟩ := hI
  refine mm_fr (wr := [cMs v mo fs, cMv v mo fv, cMt v mo ft, cMr v mo fr, cMe v mo fe, cMn v mo fn]) (b2_X7_run l v mo th c ln rm fa sp wr dd x y z h1 h2 hx) [0] [1, 2, 3, 4, 5, 6] rfl rfl (by decide +kernel) ?_
  rintro r w_ ⟨hr9, rfl⟩
  exact ⟨[0, 1, 2, 3, 4, 5, 6], [[((mo 0), .inr (7, [.int (nI 1), .ref (mo 1), .ref (mo 2), .int (nI c), .ref (mo 3), .int (nI ln), .ref (mo 4), .int rm, .int fa, .ref (mo 5), .ref (mo 6), .int sp, .int wr, .long dd]))], cMs v mo fs, cMv v mo fv, cMt v mo ft, cMr v mo fr, cMe v mo fe, cMn v mo fn], by decide +kernel, rfl, hr9, ⟨_, ⟨_, _, _, _, _, _, _, _, _, _, _, _, rfl, hS, hH, hT, rfl⟩, rfl⟩⟩

set_option maxHeartbeats 4000000 in
set_option maxRecDepth 100000 in
theorem Mc_X7_steps (l : Launch) (v : VV) {P : Nat → S9} {n : Nat} {lo hi : Nat → Nat} {H : Nat → HE9} {c : Nat} {tx : Nat → Nat} {ln : Nat} {w9 : va_W} {mz : Nat} {th : Int32} (hI : IM9 v mz P n lo hi H c tx ln th w9) (hW : WF P n) (hL : AsW lo hi) (x : Nat) (y : Nat) (z : Nat) (hx : x < 8) (hy : y < 8) (hz : z < 8) : MI l v yX7_steps cX7_steps 6 (some .int) ({ frames := 6, cells := 0, slots := 0, locals := 138 }) [.ref mz, .int (nI x), .int (nI y), .int (nI z)] [w9] (fun r w_ => r = (if EE P n (64 * x + 8 * y + z) = -1 then zI (-1) else nI (LL P n (64 * x + 8 * y + z))) ∧ ∃ w1, IM9 v mz P n lo hi H c tx ln (nI 0) w1 ∧ w_ = [w1]) 0 0 := by
  obtain ⟨mo, rm, fa, sp, wr, dd, fs, fv, ft, fr, fe, fn, rfl, hS, hH, hT, rfl⟩ := hI
  refine mm_fr (wr := [cMv v mo fv, cMt v mo ft, cMr v mo fr, cMn v mo fn]) (c_X7_steps l v mo th c ln rm fa sp wr dd P n lo hi fs fe x y z hW hS hx hy hz) [0, 1, 5] [2, 3, 4, 6] rfl rfl (by decide +kernel) ?_
  rintro r w_ ⟨fe', hr9, rfl⟩
  exact ⟨[0, 1, 3, 4, 5, 2, 6], [[((mo 0), .inr (7, [.int (nI 0), .ref (mo 1), .ref (mo 2), .int (nI c), .ref (mo 3), .int (nI ln), .ref (mo 4), .int rm, .int fa, .ref (mo 5), .ref (mo 6), .int sp, .int wr, .long dd]))], cMs v mo fs, cMv v mo fv, cMt v mo ft, cMr v mo fr, cMe v mo fe', cMn v mo fn], by decide +kernel, rfl, hr9, ⟨_, ⟨_, _, _, _, _, _, _, _, _, _, _, _, rfl, hS, hH, hT, rfl⟩, rfl⟩⟩

set_option maxHeartbeats 4000000 in
set_option maxRecDepth 100000 in
theorem Mb0_X7_steps (l : Launch) (v : VV) {P : Nat → S9} {n : Nat} {lo hi : Nat → Nat} {H : Nat → HE9} {c : Nat} {tx : Nat → Nat} {ln : Nat} {w9 : va_W} {mz : Nat} {th : Int32} (hI : IM9 v mz P n lo hi H c tx ln th w9) (hW : WF P n) (hL : AsW lo hi) (x : Int32) (y : Int32) (z : Int32) (hx : bdI x 8) : MI l v yX7_steps cX7_steps 6 (some .int) ({ frames := 2, cells := 0, slots := 0, locals := 44 }) [.ref mz, .int x, .int y, .int z] [w9] (fun r w_ => r = nI 0 ∧ ∃ w1, IM9 v mz P n lo hi H c tx ln (nI 1) w1 ∧ w_ = [w1]) 0 0 := by
  obtain ⟨mo, rm, fa, sp, wr, dd, fs, fv, ft, fr, fe, fn, rfl, hS, hH, hT, rfl⟩ := hI
  refine mm_fr (wr := [cMs v mo fs, cMv v mo fv, cMt v mo ft, cMr v mo fr, cMe v mo fe, cMn v mo fn]) (b0_X7_steps l v mo th c ln rm fa sp wr dd x y z hx) [0] [1, 2, 3, 4, 5, 6] rfl rfl (by decide +kernel) ?_
  rintro r w_ ⟨hr9, rfl⟩
  exact ⟨[0, 1, 2, 3, 4, 5, 6], [[((mo 0), .inr (7, [.int (nI 1), .ref (mo 1), .ref (mo 2), .int (nI c), .ref (mo 3), .int (nI ln), .ref (mo 4), .int rm, .int fa, .ref (mo 5), .ref (mo 6), .int sp, .int wr, .long dd]))], cMs v mo fs, cMv v mo fv, cMt v mo ft, cMr v mo fr, cMe v mo fe, cMn v mo fn], by decide +kernel, rfl, hr9, ⟨_, ⟨_, _, _, _, _, _, _, _, _, _, _, _, rfl, hS, hH, hT, rfl⟩, rfl⟩⟩

set_option maxHeartbeats 4000000 in
set_option maxRecDepth 100000 in
theorem Mb1_X7_steps (l : Launch) (v : VV) {P : Nat → S9} {n : Nat} {lo hi : Nat → Nat} {H : Nat → HE9} {c : Nat} {tx : Nat → Nat} {ln : Nat} {w9 : va_W} {mz : Nat} {th : Int32} (hI : IM9 v mz P n lo hi H c tx ln th w9) (hW : WF P n) (hL : AsW lo hi) (x : Nat) (y : Int32) (z : Int32) (h1 : x < 8) (hx : bdI y 8) : MI l v yX7_steps cX7_steps 6 (some .int) ({ frames := 2, cells := 0, slots := 0, locals := 44 }) [.ref mz, .int (nI x), .int y, .int z] [w9] (fun r w_ => r = nI 0 ∧ ∃ w1, IM9 v mz P n lo hi H c tx ln (nI 1) w1 ∧ w_ = [w1]) 0 0 := by
  obtain ⟨mo, rm, fa, sp, wr, dd, fs, fv, ft, fr, fe, fn, rfl, hS, hH, hT, rfl⟩ := hI
  refine mm_fr (wr := [cMs v mo fs, cMv v mo fv, cMt v mo ft, cMr v mo fr, cMe v mo fe, cMn v mo fn]) (b1_X7_steps l v mo th c ln rm fa sp wr dd x y z h1 hx) [0] [1, 2, 3, 4, 5, 6] rfl rfl (by decide +kernel) ?_
  rintro r w_ ⟨hr9, rfl⟩
  exact ⟨[0, 1, 2, 3, 4, 5, 6], [[((mo 0), .inr (7, [.int (nI 1), .ref (mo 1), .ref (mo 2), .int (nI c), .ref (mo 3), .int (nI ln), .ref (mo 4), .int rm, .int fa, .ref (mo 5), .ref (mo 6), .int sp, .int wr, .long dd]))], cMs v mo fs, cMv v mo fv, cMt v mo ft, cMr v mo fr, cMe v mo fe, cMn v mo fn], by decide +kernel, rfl, hr9, ⟨_, ⟨_, _, _, _, _, _, _, _, _, _, _, _, rfl, hS, hH, hT, rfl⟩, rfl⟩⟩

set_option maxHeartbeats 4000000 in
set_option maxRecDepth 100000 in
theorem Mb2_X7_steps (l : Launch) (v : VV) {P : Nat → S9} {n : Nat} {lo hi : Nat → Nat} {H : Nat → HE9} {c : Nat} {tx : Nat → Nat} {ln : Nat} {w9 : va_W} {mz : Nat} {th : Int32} (hI : IM9 v mz P n lo hi H c tx ln th w9) (hW : WF P n) (hL : AsW lo hi) (x : Nat) (y : Nat) (z : Int32) (h1 : x < 8) (h2 : y < 8) (hx : bdI z 8) : MI l v yX7_steps cX7_steps 6 (some .int) ({ frames := 2, cells := 0, slots := 0, locals := 44 }) [.ref mz, .int (nI x), .int (nI y), .int z] [w9] (fun r w_ => r = nI 0 ∧ ∃ w1, IM9 v mz P n lo hi H c tx ln (nI 1) w1 ∧ w_ = [w1]) 0 0 := by
  obtain ⟨mo, rm, fa, sp, wr, dd, fs, fv, ft, fr, fe, fn, rfl, hS, hH, hT, rfl⟩ := hI
  refine mm_fr (wr := [cMs v mo fs, cMv v mo fv, cMt v mo ft, cMr v mo fr, cMe v mo fe, cMn v mo fn]) (b2_X7_steps l v mo th c ln rm fa sp wr dd x y z h1 h2 hx) [0] [1, 2, 3, 4, 5, 6] rfl rfl (by decide +kernel) ?_
  rintro r w_ ⟨hr9, rfl⟩
  exact ⟨[0, 1, 2, 3, 4, 5, 6], [[((mo 0), .inr (7, [.int (nI 1), .ref (mo 1), .ref (mo 2), .int (nI c), .ref (mo 3), .int (nI ln), .ref (mo 4), .int rm, .int fa, .ref (mo 5), .ref (mo 6), .int sp, .int wr, .long dd]))], cMs v mo fs, cMv v mo fv, cMt v mo ft, cMr v mo fr, cMe v mo fe, cMn v mo fn], by decide +kernel, rfl, hr9, ⟨_, ⟨_, _, _, _, _, _, _, _, _, _, _, _, rfl, hS, hH, hT, rfl⟩, rfl⟩⟩

set_option maxHeartbeats 4000000 in
set_option maxRecDepth 100000 in
theorem Mc_X7_demand (l : Launch) (v : VV) {P : Nat → S9} {n : Nat} {lo hi : Nat → Nat} {H : Nat → HE9} {c : Nat} {tx : Nat → Nat} {ln : Nat} {w9 : va_W} {mz : Nat} {th : Int32} (hI : IM9 v mz P n lo hi H c tx ln th w9) (hW : WF P n) (hL : AsW lo hi) (i : Nat) (hi9 : i < n + 1) : MI l v yX7_demand cX7_demand 2 (some .int) ({ frames := 6, cells := 0, slots := 0, locals := 138 }) [.ref mz, .int (nI i)] [w9] (fun r w_ => r = nI (dmV P n i) ∧ ∃ w1, IM9 v mz P n lo hi H c tx ln (nI 0) w1 ∧ w_ = [w1]) 0 0 := by
  obtain ⟨mo, rm, fa, sp, wr, dd, fs, fv, ft, fr, fe, fn, rfl, hS, hH, hT, rfl⟩ := hI
  refine mm_fr (wr := [cMv v mo fv, cMt v mo ft, cMr v mo fr, cMn v mo fn]) (c_X7_demand l v mo th c ln rm fa sp wr dd P n lo hi fs fe i hW hS hi9) [0, 1, 5] [2, 3, 4, 6] rfl rfl (by decide +kernel) ?_
  rintro r w_ ⟨fe', hr9, rfl⟩
  exact ⟨[0, 1, 3, 4, 5, 2, 6], [[((mo 0), .inr (7, [.int (nI 0), .ref (mo 1), .ref (mo 2), .int (nI c), .ref (mo 3), .int (nI ln), .ref (mo 4), .int rm, .int fa, .ref (mo 5), .ref (mo 6), .int sp, .int wr, .long dd]))], cMs v mo fs, cMv v mo fv, cMt v mo ft, cMr v mo fr, cMe v mo fe', cMn v mo fn], by decide +kernel, rfl, hr9, ⟨_, ⟨_, _, _, _, _, _, _, _, _, _, _, _, rfl, hS, hH, hT, rfl⟩, rfl⟩⟩

set_option maxHeartbeats 4000000 in
set_option maxRecDepth 100000 in
theorem Mb_X7_demand (l : Launch) (v : VV) {P : Nat → S9} {n : Nat} {lo hi : Nat → Nat} {H : Nat → HE9} {c : Nat} {tx : Nat → Nat} {ln : Nat} {w9 : va_W} {mz : Nat} {th : Int32} (hI : IM9 v mz P n lo hi H c tx ln th w9) (hW : WF P n) (hL : AsW lo hi) (x : Int32) (hx : bdI x (n + 1)) : MI l v yX7_demand cX7_demand 2 (some .int) ({ frames := 1, cells := 0, slots := 0, locals := 22 }) [.ref mz, .int x] [w9] (fun r w_ => r = nI 0 ∧ ∃ w1, IM9 v mz P n lo hi H c tx ln (nI 1) w1 ∧ w_ = [w1]) 0 0 := by
  obtain ⟨mo, rm, fa, sp, wr, dd, fs, fv, ft, fr, fe, fn, rfl, hS, hH, hT, rfl⟩ := hI
  refine mm_fr (wr := [cMv v mo fv, cMt v mo ft, cMr v mo fr, cMe v mo fe, cMn v mo fn]) (b_X7_demand l v mo th c ln rm fa sp wr dd P n lo hi fs x hW hS hx) [0, 1] [2, 3, 4, 5, 6] rfl rfl (by decide +kernel) ?_
  rintro r w_ ⟨hr9, rfl⟩
  exact ⟨[0, 1, 2, 3, 4, 5, 6], [[((mo 0), .inr (7, [.int (nI 1), .ref (mo 1), .ref (mo 2), .int (nI c), .ref (mo 3), .int (nI ln), .ref (mo 4), .int rm, .int fa, .ref (mo 5), .ref (mo 6), .int sp, .int wr, .long dd]))], cMs v mo fs, cMv v mo fv, cMt v mo ft, cMr v mo fr, cMe v mo fe, cMn v mo fn], by decide +kernel, rfl, hr9, ⟨_, ⟨_, _, _, _, _, _, _, _, _, _, _, _, rfl, hS, hH, hT, rfl⟩, rfl⟩⟩

set_option maxHeartbeats 4000000 in
set_option maxRecDepth 100000 in
theorem Mc_X7_demands (l : Launch) (v : VV) {P : Nat → S9} {n : Nat} {lo hi : Nat → Nat} {H : Nat → HE9} {c : Nat} {tx : Nat → Nat} {ln : Nat} {w9 : va_W} {mz : Nat} {th : Int32} (hI : IM9 v mz P n lo hi H c tx ln th w9) (hW : WF P n) (hL : AsW lo hi) (i : Nat) (x : Nat) (y : Nat) (z : Nat) (hi9 : i < n + 1) (hx : x < 8) (hy : y < 8) (hz : z < 8) : MI l v yX7_demands cX7_demands 5 (some .boolean) ({ frames := 6, cells := 0, slots := 0, locals := 138 }) [.ref mz, .int (nI i), .int (nI x), .int (nI y), .int (nI z)] [w9] (fun r w_ => r = bI (decide (1000 ≤ EE P n (i * 512 + (64 * x + 8 * y + z)))) ∧ ∃ w1, IM9 v mz P n lo hi H c tx ln (nI 0) w1 ∧ w_ = [w1]) 0 0 := by
  obtain ⟨mo, rm, fa, sp, wr, dd, fs, fv, ft, fr, fe, fn, rfl, hS, hH, hT, rfl⟩ := hI
  refine mm_fr (wr := [cMv v mo fv, cMt v mo ft, cMr v mo fr, cMn v mo fn]) (c_X7_demands l v mo th c ln rm fa sp wr dd P n lo hi fs fe i x y z hW hS hi9 hx hy hz) [0, 1, 5] [2, 3, 4, 6] rfl rfl (by decide +kernel) ?_
  rintro r w_ ⟨fe', hr9, rfl⟩
  exact ⟨[0, 1, 3, 4, 5, 2, 6], [[((mo 0), .inr (7, [.int (nI 0), .ref (mo 1), .ref (mo 2), .int (nI c), .ref (mo 3), .int (nI ln), .ref (mo 4), .int rm, .int fa, .ref (mo 5), .ref (mo 6), .int sp, .int wr, .long dd]))], cMs v mo fs, cMv v mo fv, cMt v mo ft, cMr v mo fr, cMe v mo fe', cMn v mo fn], by decide +kernel, rfl, hr9, ⟨_, ⟨_, _, _, _, _, _, _, _, _, _, _, _, rfl, hS, hH, hT, rfl⟩, rfl⟩⟩

set_option maxHeartbeats 4000000 in
set_option maxRecDepth 100000 in
theorem Mb_X7_demands (l : Launch) (v : VV) {P : Nat → S9} {n : Nat} {lo hi : Nat → Nat} {H : Nat → HE9} {c : Nat} {tx : Nat → Nat} {ln : Nat} {w9 : va_W} {mz : Nat} {th : Int32} (hI : IM9 v mz P n lo hi H c tx ln th w9) (hW : WF P n) (hL : AsW lo hi) (u : Int32) (x : Int32) (y : Int32) (z : Int32) (hx : bdI u (n + 1)) : MI l v yX7_demands cX7_demands 5 (some .boolean) ({ frames := 1, cells := 0, slots := 0, locals := 22 }) [.ref mz, .int u, .int x, .int y, .int z] [w9] (fun r w_ => r = nI 0 ∧ ∃ w1, IM9 v mz P n lo hi H c tx ln (nI 1) w1 ∧ w_ = [w1]) 0 0 := by
  obtain ⟨mo, rm, fa, sp, wr, dd, fs, fv, ft, fr, fe, fn, rfl, hS, hH, hT, rfl⟩ := hI
  refine mm_fr (wr := [cMv v mo fv, cMt v mo ft, cMr v mo fr, cMe v mo fe, cMn v mo fn]) (b_X7_demands l v mo th c ln rm fa sp wr dd P n lo hi fs u x y z hW hS hx) [0, 1] [2, 3, 4, 5, 6] rfl rfl (by decide +kernel) ?_
  rintro r w_ ⟨hr9, rfl⟩
  exact ⟨[0, 1, 2, 3, 4, 5, 6], [[((mo 0), .inr (7, [.int (nI 1), .ref (mo 1), .ref (mo 2), .int (nI c), .ref (mo 3), .int (nI ln), .ref (mo 4), .int rm, .int fa, .ref (mo 5), .ref (mo 6), .int sp, .int wr, .long dd]))], cMs v mo fs, cMv v mo fv, cMt v mo ft, cMr v mo fr, cMe v mo fe, cMn v mo fn], by decide +kernel, rfl, hr9, ⟨_, ⟨_, _, _, _, _, _, _, _, _, _, _, _, rfl, hS, hH, hT, rfl⟩, rfl⟩⟩

set_option maxHeartbeats 4000000 in
set_option maxRecDepth 100000 in
theorem Mb0_X7_demands (l : Launch) (v : VV) {P : Nat → S9} {n : Nat} {lo hi : Nat → Nat} {H : Nat → HE9} {c : Nat} {tx : Nat → Nat} {ln : Nat} {w9 : va_W} {mz : Nat} {th : Int32} (hI : IM9 v mz P n lo hi H c tx ln th w9) (hW : WF P n) (hL : AsW lo hi) (i : Nat) (x : Int32) (y : Int32) (z : Int32) (hi9 : i < n + 1) (hx : bdI x 8) : MI l v yX7_demands cX7_demands 5 (some .boolean) ({ frames := 2, cells := 0, slots := 0, locals := 44 }) [.ref mz, .int (nI i), .int x, .int y, .int z] [w9] (fun r w_ => r = nI 0 ∧ ∃ w1, IM9 v mz P n lo hi H c tx ln (nI 2) w1 ∧ w_ = [w1]) 0 0 := by
  obtain ⟨mo, rm, fa, sp, wr, dd, fs, fv, ft, fr, fe, fn, rfl, hS, hH, hT, rfl⟩ := hI
  refine mm_fr (wr := [cMv v mo fv, cMt v mo ft, cMr v mo fr, cMe v mo fe, cMn v mo fn]) (b0_X7_demands l v mo th c ln rm fa sp wr dd P n lo hi fs i x y z hW hS hi9 hx) [0, 1] [2, 3, 4, 5, 6] rfl rfl (by decide +kernel) ?_
  rintro r w_ ⟨hr9, rfl⟩
  exact ⟨[0, 1, 2, 3, 4, 5, 6], [[((mo 0), .inr (7, [.int (nI 2), .ref (mo 1), .ref (mo 2), .int (nI c), .ref (mo 3), .int (nI ln), .ref (mo 4), .int rm, .int fa, .ref (mo 5), .ref (mo 6), .int sp, .int wr, .long dd]))], cMs v mo fs, cMv v mo fv, cMt v mo ft, cMr v mo fr, cMe v mo fe, cMn v mo fn], by decide +kernel, rfl, hr9, ⟨_, ⟨_, _, _, _, _, _, _, _, _, _, _, _, rfl, hS, hH, hT, rfl⟩, rfl⟩⟩

set_option maxHeartbeats 4000000 in
set_option maxRecDepth 100000 in
theorem Mb1_X7_demands (l : Launch) (v : VV) {P : Nat → S9} {n : Nat} {lo hi : Nat → Nat} {H : Nat → HE9} {c : Nat} {tx : Nat → Nat} {ln : Nat} {w9 : va_W} {mz : Nat} {th : Int32} (hI : IM9 v mz P n lo hi H c tx ln th w9) (hW : WF P n) (hL : AsW lo hi) (i : Nat) (x : Nat) (y : Int32) (z : Int32) (hi9 : i < n + 1) (h1 : x < 8) (hx : bdI y 8) : MI l v yX7_demands cX7_demands 5 (some .boolean) ({ frames := 2, cells := 0, slots := 0, locals := 44 }) [.ref mz, .int (nI i), .int (nI x), .int y, .int z] [w9] (fun r w_ => r = nI 0 ∧ ∃ w1, IM9 v mz P n lo hi H c tx ln (nI 2) w1 ∧ w_ = [w1]) 0 0 := by
  obtain ⟨mo, rm, fa, sp, wr, dd, fs, fv, ft, fr, fe, fn, rfl, hS, hH, hT, rfl⟩ := hI
  refine mm_fr (wr := [cMv v mo fv, cMt v mo ft, cMr v mo fr, cMe v mo fe, cMn v mo fn]) (b1_X7_demands l v mo th c ln rm fa sp wr dd P n lo hi fs i x y z hW hS hi9 h1 hx) [0, 1] [2, 3, 4, 5, 6] rfl rfl (by decide +kernel) ?_
  rintro r w_ ⟨hr9, rfl⟩
  exact ⟨[0, 1, 2, 3, 4, 5, 6], [[((mo 0), .inr (7, [.int (nI 2), .ref (mo 1), .ref (mo 2), .int (nI c), .ref (mo 3), .int (nI ln), .ref (mo 4), .int rm, .int fa, .ref (mo 5), .ref (mo 6), .int sp, .int wr, .long dd]))], cMs v mo fs, cMv v mo fv, cMt v mo ft, cMr v mo fr, cMe v mo fe, cMn v mo fn], by decide +kernel, rfl, hr9, ⟨_, ⟨_, _, _, _, _, _, _, _, _, _, _, _, rfl, hS, hH, hT, rfl⟩, rfl⟩⟩

set_option maxHeartbeats 4000000 in
set_option maxRecDepth 100000 in
theorem Mb2_X7_demands (l : Launch) (v : VV) {P : Nat → S9} {n : Nat} {lo hi : Nat → Nat} {H : Nat → HE9} {c : Nat} {tx : Nat → Nat} {ln : Nat} {w9 : va_W} {mz : Nat} {th : Int32} (hI : IM9 v mz P n lo hi H c tx ln th w9) (hW : WF P n) (hL : AsW lo hi) (i : Nat) (x : Nat) (y : Nat) (z : Int32) (hi9 : i < n + 1) (h1 : x < 8) (h2 : y < 8) (hx : bdI z 8) : MI l v yX7_demands cX7_demands 5 (some .boolean) ({ frames := 2, cells := 0, slots := 0, locals := 44 }) [.ref mz, .int (nI i), .int (nI x), .int (nI y), .int z] [w9] (fun r w_ => r = nI 0 ∧ ∃ w1, IM9 v mz P n lo hi H c tx ln (nI 2) w1 ∧ w_ = [w1]) 0 0 := by
  obtain ⟨mo, rm, fa, sp, wr, dd, fs, fv, ft, fr, fe, fn, rfl, hS, hH, hT, rfl⟩ := hI
  refine mm_fr (wr := [cMv v mo fv, cMt v mo ft, cMr v mo fr, cMe v mo fe, cMn v mo fn]) (b2_X7_demands l v mo th c ln rm fa sp wr dd P n lo hi fs i x y z hW hS hi9 h1 h2 hx) [0, 1] [2, 3, 4, 5, 6] rfl rfl (by decide +kernel) ?_
  rintro r w_ ⟨hr9, rfl⟩
  exact ⟨[0, 1, 2, 3, 4, 5, 6], [[((mo 0), .inr (7, [.int (nI 2), .ref (mo 1), .ref (mo 2), .int (nI c), .ref (mo 3), .int (nI ln), .ref (mo 4), .int rm, .int fa, .ref (mo 5), .ref (mo 6), .int sp, .int wr, .long dd]))], cMs v mo fs, cMv v mo fv, cMt v mo ft, cMr v mo fr, cMe v mo fe, cMn v mo fn], by decide +kernel, rfl, hr9, ⟨_, ⟨_, _, _, _, _, _, _, _, _, _, _, _, rfl, hS, hH, hT, rfl⟩, rfl⟩⟩

set_option maxHeartbeats 4000000 in
set_option maxRecDepth 100000 in
theorem Mc_X7_assume (l : Launch) (v : VV) {P : Nat → S9} {n : Nat} {lo hi : Nat → Nat} {H : Nat → HE9} {c : Nat} {tx : Nat → Nat} {ln : Nat} {w9 : va_W} {mz : Nat} {th : Int32} (hI : IM9 v mz P n lo hi H c tx ln th w9) (hW : WF P n) (hL : AsW lo hi) (w : Nat) (u : Nat) (q : Nat) (hw9 : w < 3) (hu : u ≤ q) (hq : q ≤ 7) : MI l v yX7_assume cX7_assume 5 (some .int) ({ frames := 1, cells := 0, slots := 0, locals := 22 }) [.ref mz, .int (nI w), .int (nI u), .int (nI q)] [w9] (fun r w_ => r = nI (cnt9 (hU9 lo w u) (hU9 hi w q) 3) ∧ ∃ w1, IM9 v mz P n (hU9 lo w u) (hU9 hi w q) (hS9 H c (P, n, lo, hi)) (hC9 c) tx ln (nI 0) w1 ∧ w_ = [w1]) 0 0 := by
  obtain ⟨mo, rm, fa, sp, wr, dd, fs, fv, ft, fr, fe, fn, rfl, hS, hH, hT, rfl⟩ := hI
  refine mm_fr (wr := [cMt v mo ft, cMr v mo fr, cMe v mo fe, cMn v mo fn]) (c_X7_assume l v mo th c ln rm fa sp wr dd P n lo hi fs fv H w u q hW hS hL hH hw9 hu hq) [0, 1, 2] [3, 4, 5, 6] rfl rfl (by decide +kernel) ?_
  rintro r w_ ⟨fs', fv', hr9, k0, k1, rfl⟩
  exact ⟨[0, 1, 2, 3, 4, 5, 6], [[((mo 0), .inr (7, [.int (nI 0), .ref (mo 1), .ref (mo 2), .int (nI (hC9 c)), .ref (mo 3), .int (nI ln), .ref (mo 4), .int rm, .int fa, .ref (mo 5), .ref (mo 6), .int sp, .int wr, .long dd]))], cMs v mo fs', cMv v mo fv', cMt v mo ft, cMr v mo fr, cMe v mo fe, cMn v mo fn], by decide +kernel, rfl, hr9, ⟨_, ⟨_, _, _, _, _, _, _, _, _, _, _, _, rfl, k0, k1, hT, rfl⟩, rfl⟩⟩

set_option maxHeartbeats 4000000 in
set_option maxRecDepth 100000 in
theorem Mb_X7_assume (l : Launch) (v : VV) {P : Nat → S9} {n : Nat} {lo hi : Nat → Nat} {H : Nat → HE9} {c : Nat} {tx : Nat → Nat} {ln : Nat} {w9 : va_W} {mz : Nat} {th : Int32} (hI : IM9 v mz P n lo hi H c tx ln th w9) (hW : WF P n) (hL : AsW lo hi) (w : Int32) (x : Int32) (y : Int32) (hx : bdI w 3) : MI l v yX7_assume cX7_assume 5 (some .int) ({ frames := 1, cells := 0, slots := 0, locals := 22 }) [.ref mz, .int w, .int x, .int y] [w9] (fun r w_ => r = nI 0 ∧ ∃ w1, IM9 v mz P n lo hi H c tx ln (nI 1) w1 ∧ w_ = [w1]) 0 0 := by
  obtain ⟨mo, rm, fa, sp, wr, dd, fs, fv, ft, fr, fe, fn, rfl, hS, hH, hT, rfl⟩ := hI
  refine mm_fr (wr := [cMs v mo fs, cMv v mo fv, cMt v mo ft, cMr v mo fr, cMe v mo fe, cMn v mo fn]) (b_X7_assume l v mo th c ln rm fa sp wr dd w x y hx) [0] [1, 2, 3, 4, 5, 6] rfl rfl (by decide +kernel) ?_
  rintro r w_ ⟨hr9, rfl⟩
  exact ⟨[0, 1, 2, 3, 4, 5, 6], [[((mo 0), .inr (7, [.int (nI 1), .ref (mo 1), .ref (mo 2), .int (nI c), .ref (mo 3), .int (nI ln), .ref (mo 4), .int rm, .int fa, .ref (mo 5), .ref (mo 6), .int sp, .int wr, .long dd]))], cMs v mo fs, cMv v mo fv, cMt v mo ft, cMr v mo fr, cMe v mo fe, cMn v mo fn], by decide +kernel, rfl, hr9, ⟨_, ⟨_, _, _, _, _, _, _, _, _, _, _, _, rfl, hS, hH, hT, rfl⟩, rfl⟩⟩

set_option maxHeartbeats 4000000 in
set_option maxRecDepth 100000 in
theorem Mb0_X7_assume (l : Launch) (v : VV) {P : Nat → S9} {n : Nat} {lo hi : Nat → Nat} {H : Nat → HE9} {c : Nat} {tx : Nat → Nat} {ln : Nat} {w9 : va_W} {mz : Nat} {th : Int32} (hI : IM9 v mz P n lo hi H c tx ln th w9) (hW : WF P n) (hL : AsW lo hi) (w : Nat) (x : Int32) (y : Int32) (hw9 : w < 3) (hx : bdI x 8) : MI l v yX7_assume cX7_assume 5 (some .int) ({ frames := 1, cells := 0, slots := 0, locals := 22 }) [.ref mz, .int (nI w), .int x, .int y] [w9] (fun r w_ => r = nI 0 ∧ ∃ w1, IM9 v mz P n lo hi H c tx ln (nI 2) w1 ∧ w_ = [w1]) 0 0 := by
  obtain ⟨mo, rm, fa, sp, wr, dd, fs, fv, ft, fr, fe, fn, rfl, hS, hH, hT, rfl⟩ := hI
  refine mm_fr (wr := [cMs v mo fs, cMv v mo fv, cMt v mo ft, cMr v mo fr, cMe v mo fe, cMn v mo fn]) (b0_X7_assume l v mo th c ln rm fa sp wr dd w x y hw9 hx) [0] [1, 2, 3, 4, 5, 6] rfl rfl (by decide +kernel) ?_
  rintro r w_ ⟨hr9, rfl⟩
  exact ⟨[0, 1, 2, 3, 4, 5, 6], [[((mo 0), .inr (7, [.int (nI 2), .ref (mo 1), .ref (mo 2), .int (nI c), .ref (mo 3), .int (nI ln), .ref (mo 4), .int rm, .int fa, .ref (mo 5), .ref (mo 6), .int sp, .int wr, .long dd]))], cMs v mo fs, cMv v mo fv, cMt v mo ft, cMr v mo fr, cMe v mo fe, cMn v mo fn], by decide +kernel, rfl, hr9, ⟨_, ⟨_, _, _, _, _, _, _, _, _, _, _, _, rfl, hS, hH, hT, rfl⟩, rfl⟩⟩

set_option maxHeartbeats 4000000 in
set_option maxRecDepth 100000 in
theorem Mb1_X7_assume (l : Launch) (v : VV) {P : Nat → S9} {n : Nat} {lo hi : Nat → Nat} {H : Nat → HE9} {c : Nat} {tx : Nat → Nat} {ln : Nat} {w9 : va_W} {mz : Nat} {th : Int32} (hI : IM9 v mz P n lo hi H c tx ln th w9) (hW : WF P n) (hL : AsW lo hi) (w : Nat) (u : Nat) (y : Int32) (hw9 : w < 3) (hu : u < 8) (hx : bdI y 8) : MI l v yX7_assume cX7_assume 5 (some .int) ({ frames := 1, cells := 0, slots := 0, locals := 22 }) [.ref mz, .int (nI w), .int (nI u), .int y] [w9] (fun r w_ => r = nI 0 ∧ ∃ w1, IM9 v mz P n lo hi H c tx ln (nI 2) w1 ∧ w_ = [w1]) 0 0 := by
  obtain ⟨mo, rm, fa, sp, wr, dd, fs, fv, ft, fr, fe, fn, rfl, hS, hH, hT, rfl⟩ := hI
  refine mm_fr (wr := [cMs v mo fs, cMv v mo fv, cMt v mo ft, cMr v mo fr, cMe v mo fe, cMn v mo fn]) (b1_X7_assume l v mo th c ln rm fa sp wr dd w u y hw9 hu hx) [0] [1, 2, 3, 4, 5, 6] rfl rfl (by decide +kernel) ?_
  rintro r w_ ⟨hr9, rfl⟩
  exact ⟨[0, 1, 2, 3, 4, 5, 6], [[((mo 0), .inr (7, [.int (nI 2), .ref (mo 1), .ref (mo 2), .int (nI c), .ref (mo 3), .int (nI ln), .ref (mo 4), .int rm, .int fa, .ref (mo 5), .ref (mo 6), .int sp, .int wr, .long dd]))], cMs v mo fs, cMv v mo fv, cMt v mo ft, cMr v mo fr, cMe v mo fe, cMn v mo fn], by decide +kernel, rfl, hr9, ⟨_, ⟨_, _, _, _, _, _, _, _, _, _, _, _, rfl, hS, hH, hT, rfl⟩, rfl⟩⟩

set_option maxHeartbeats 4000000 in
set_option maxRecDepth 100000 in
theorem Mb2_X7_assume (l : Launch) (v : VV) {P : Nat → S9} {n : Nat} {lo hi : Nat → Nat} {H : Nat → HE9} {c : Nat} {tx : Nat → Nat} {ln : Nat} {w9 : va_W} {mz : Nat} {th : Int32} (hI : IM9 v mz P n lo hi H c tx ln th w9) (hW : WF P n) (hL : AsW lo hi) (w : Nat) (u : Nat) (q : Nat) (hw9 : w < 3) (hu : u < 8) (hq : q < 8) (hx : q < u) : MI l v yX7_assume cX7_assume 5 (some .int) ({ frames := 1, cells := 0, slots := 0, locals := 22 }) [.ref mz, .int (nI w), .int (nI u), .int (nI q)] [w9] (fun r w_ => r = nI 0 ∧ ∃ w1, IM9 v mz P n lo hi H c tx ln (nI 2) w1 ∧ w_ = [w1]) 0 0 := by
  obtain ⟨mo, rm, fa, sp, wr, dd, fs, fv, ft, fr, fe, fn, rfl, hS, hH, hT, rfl⟩ := hI
  refine mm_fr (wr := [cMs v mo fs, cMv v mo fv, cMt v mo ft, cMr v mo fr, cMe v mo fe, cMn v mo fn]) (b2_X7_assume l v mo th c ln rm fa sp wr dd w u q hw9 hu hq hx) [0] [1, 2, 3, 4, 5, 6] rfl rfl (by decide +kernel) ?_
  rintro r w_ ⟨hr9, rfl⟩
  exact ⟨[0, 1, 2, 3, 4, 5, 6], [[((mo 0), .inr (7, [.int (nI 2), .ref (mo 1), .ref (mo 2), .int (nI c), .ref (mo 3), .int (nI ln), .ref (mo 4), .int rm, .int fa, .ref (mo 5), .ref (mo 6), .int sp, .int wr, .long dd]))], cMs v mo fs, cMv v mo fv, cMt v mo ft, cMr v mo fr, cMe v mo fe, cMn v mo fn], by decide +kernel, rfl, hr9, ⟨_, ⟨_, _, _, _, _, _, _, _, _, _, _, _, rfl, hS, hH, hT, rfl⟩, rfl⟩⟩

set_option maxHeartbeats 4000000 in
set_option maxRecDepth 100000 in
theorem Mc_X7_statements (l : Launch) (v : VV) {P : Nat → S9} {n : Nat} {lo hi : Nat → Nat} {H : Nat → HE9} {c : Nat} {tx : Nat → Nat} {ln : Nat} {w9 : va_W} {mz : Nat} {th : Int32} (hI : IM9 v mz P n lo hi H c tx ln th w9) (hW : WF P n) (hL : AsW lo hi) : MI l v yX7_statements cX7_statements 1 (some .int) ({ frames := 0, cells := 0, slots := 0, locals := 0 }) [.ref mz] [w9] (fun r w_ => r = nI n ∧ ∃ w1, IM9 v mz P n lo hi H c tx ln (nI 0) w1 ∧ w_ = [w1]) 0 0 := by
  obtain ⟨mo, rm, fa, sp, wr, dd, fs, fv, ft, fr, fe, fn, rfl, hS, hH, hT, rfl⟩ := hI
  refine mm_fr (wr := [cMv v mo fv, cMt v mo ft, cMr v mo fr, cMe v mo fe, cMn v mo fn]) (c_X7_statements l v mo th c ln rm fa sp wr dd P n lo hi fs hW hS) [0, 1] [2, 3, 4, 5, 6] rfl rfl (by decide +kernel) ?_
  rintro r w_ ⟨hr9, rfl⟩
  exact ⟨[0, 1, 2, 3, 4, 5, 6], [[((mo 0), .inr (7, [.int (nI 0), .ref (mo 1), .ref (mo 2), .int (nI c), .ref (mo 3), .int (nI ln), .ref (mo 4), .int rm, .int fa, .ref (mo 5), .ref (mo 6), .int sp, .int wr, .long dd]))], cMs v mo fs, cMv v mo fv, cMt v mo ft, cMr v mo fr, cMe v mo fe, cMn v mo fn], by decide +kernel, rfl, hr9, ⟨_, ⟨_, _, _, _, _, _, _, _, _, _, _, _, rfl, hS, hH, hT, rfl⟩, rfl⟩⟩

set_option maxHeartbeats 4000000 in
set_option maxRecDepth 100000 in
theorem Mc_X7_endless (l : Launch) (v : VV) {P : Nat → S9} {n : Nat} {lo hi : Nat → Nat} {H : Nat → HE9} {c : Nat} {tx : Nat → Nat} {ln : Nat} {w9 : va_W} {mz : Nat} {th : Int32} (hI : IM9 v mz P n lo hi H c tx ln th w9) (hW : WF P n) (hL : AsW lo hi) : MI l v yX7_endless cX7_endless 1 (some .int) ({ frames := 6, cells := 0, slots := 0, locals := 138 }) [.ref mz] [w9] (fun r w_ => r = nI (ctb (jE lo hi P n) 512) ∧ ∃ w1, IM9 v mz P n lo hi H c tx ln (nI 0) w1 ∧ w_ = [w1]) 0 0 := by
  obtain ⟨mo, rm, fa, sp, wr, dd, fs, fv, ft, fr, fe, fn, rfl, hS, hH, hT, rfl⟩ := hI
  refine mm_fr (wr := [cMv v mo fv, cMt v mo ft, cMr v mo fr, cMn v mo fn]) (c_X7_endless l v mo th c ln rm fa sp wr dd P n lo hi fs fe hW hS hL) [0, 1, 5] [2, 3, 4, 6] rfl rfl (by decide +kernel) ?_
  rintro r w_ ⟨fe', hr9, rfl⟩
  exact ⟨[0, 1, 3, 4, 5, 2, 6], [[((mo 0), .inr (7, [.int (nI 0), .ref (mo 1), .ref (mo 2), .int (nI c), .ref (mo 3), .int (nI ln), .ref (mo 4), .int rm, .int fa, .ref (mo 5), .ref (mo 6), .int sp, .int wr, .long dd]))], cMs v mo fs, cMv v mo fv, cMt v mo ft, cMr v mo fr, cMe v mo fe', cMn v mo fn], by decide +kernel, rfl, hr9, ⟨_, ⟨_, _, _, _, _, _, _, _, _, _, _, _, rfl, hS, hH, hT, rfl⟩, rfl⟩⟩

set_option maxHeartbeats 4000000 in
set_option maxRecDepth 100000 in
theorem Mc_X7_proof (l : Launch) (v : VV) {P : Nat → S9} {n : Nat} {lo hi : Nat → Nat} {H : Nat → HE9} {c : Nat} {tx : Nat → Nat} {ln : Nat} {w9 : va_W} {mz : Nat} {th : Int32} (hI : IM9 v mz P n lo hi H c tx ln th w9) (hW : WF P n) (hL : AsW lo hi) : MI l v yX7_proof cX7_proof 1 (some .int) ({ frames := 6, cells := 0, slots := 0, locals := 138 }) [.ref mz] [w9] (fun r w_ => r = zI (pfV lo hi P n) ∧ ∃ w1, IM9 v mz P n lo hi H c tx ln (nI 0) w1 ∧ w_ = [w1]) 0 0 := by
  obtain ⟨mo, rm, fa, sp, wr, dd, fs, fv, ft, fr, fe, fn, rfl, hS, hH, hT, rfl⟩ := hI
  refine mm_fr (wr := [cMv v mo fv, cMt v mo ft, cMr v mo fr, cMn v mo fn]) (c_X7_proof l v mo th c ln rm fa sp wr dd P n lo hi fs fe hW hS hL) [0, 1, 5] [2, 3, 4, 6] rfl rfl (by decide +kernel) ?_
  rintro r w_ ⟨fe', hr9, rfl⟩
  exact ⟨[0, 1, 3, 4, 5, 2, 6], [[((mo 0), .inr (7, [.int (nI 0), .ref (mo 1), .ref (mo 2), .int (nI c), .ref (mo 3), .int (nI ln), .ref (mo 4), .int rm, .int fa, .ref (mo 5), .ref (mo 6), .int sp, .int wr, .long dd]))], cMs v mo fs, cMv v mo fv, cMt v mo ft, cMr v mo fr, cMe v mo fe', cMn v mo fn], by decide +kernel, rfl, hr9, ⟨_, ⟨_, _, _, _, _, _, _, _, _, _, _, _, rfl, hS, hH, hT, rfl⟩, rfl⟩⟩

set_option maxHeartbeats 4000000 in
set_option maxRecDepth 100000 in
theorem Mc_X7_provedShare (l : Launch) (v : VV) {P : Nat → S9} {n : Nat} {lo hi : Nat → Nat} {H : Nat → HE9} {c : Nat} {tx : Nat → Nat} {ln : Nat} {w9 : va_W} {mz : Nat} {th : Int32} (hI : IM9 v mz P n lo hi H c tx ln th w9) (hW : WF P n) (hL : AsW lo hi) : MD l v yX7_provedShare cX7_provedShare 1 (some .double) ({ frames := 6, cells := 0, slots := 0, locals := 138 }) [.ref mz] [w9] (fun r w_ => r = psV lo hi P n ∧ ∃ w1, IM9 v mz P n lo hi H c tx ln (nI 0) w1 ∧ w_ = [w1]) 0 0 := by
  obtain ⟨mo, rm, fa, sp, wr, dd, fs, fv, ft, fr, fe, fn, rfl, hS, hH, hT, rfl⟩ := hI
  refine mm_fr (wr := [cMv v mo fv, cMt v mo ft, cMr v mo fr, cMn v mo fn]) (c_X7_provedShare l v mo th c ln rm fa sp wr dd P n lo hi fs fe hW hS hL) [0, 1, 5] [2, 3, 4, 6] rfl rfl (by decide +kernel) ?_
  rintro r w_ ⟨fe', hr9, rfl⟩
  exact ⟨[0, 1, 3, 4, 5, 2, 6], [[((mo 0), .inr (7, [.int (nI 0), .ref (mo 1), .ref (mo 2), .int (nI c), .ref (mo 3), .int (nI ln), .ref (mo 4), .int rm, .int fa, .ref (mo 5), .ref (mo 6), .int sp, .int wr, .long dd]))], cMs v mo fs, cMv v mo fv, cMt v mo ft, cMr v mo fr, cMe v mo fe', cMn v mo fn], by decide +kernel, rfl, hr9, ⟨_, ⟨_, _, _, _, _, _, _, _, _, _, _, _, rfl, hS, hH, hT, rfl⟩, rfl⟩⟩

set_option maxHeartbeats 4000000 in
set_option maxRecDepth 100000 in
theorem Mc_X7_savedStates (l : Launch) (v : VV) {P : Nat → S9} {n : Nat} {lo hi : Nat → Nat} {H : Nat → HE9} {c : Nat} {tx : Nat → Nat} {ln : Nat} {w9 : va_W} {mz : Nat} {th : Int32} (hI : IM9 v mz P n lo hi H c tx ln th w9) (hW : WF P n) (hL : AsW lo hi) : MI l v yX7_savedStates cX7_savedStates 1 (some .int) ({ frames := 0, cells := 0, slots := 0, locals := 0 }) [.ref mz] [w9] (fun r w_ => r = nI c ∧ ∃ w1, IM9 v mz P n lo hi H c tx ln (nI 0) w1 ∧ w_ = [w1]) 0 0 := by
  obtain ⟨mo, rm, fa, sp, wr, dd, fs, fv, ft, fr, fe, fn, rfl, hS, hH, hT, rfl⟩ := hI
  refine mm_fr (wr := [cMs v mo fs, cMv v mo fv, cMt v mo ft, cMr v mo fr, cMe v mo fe, cMn v mo fn]) (c_X7_savedStates l v mo th c ln rm fa sp wr dd) [0] [1, 2, 3, 4, 5, 6] rfl rfl (by decide +kernel) ?_
  rintro r w_ ⟨hr9, rfl⟩
  exact ⟨[0, 1, 2, 3, 4, 5, 6], [[((mo 0), .inr (7, [.int (nI 0), .ref (mo 1), .ref (mo 2), .int (nI c), .ref (mo 3), .int (nI ln), .ref (mo 4), .int rm, .int fa, .ref (mo 5), .ref (mo 6), .int sp, .int wr, .long dd]))], cMs v mo fs, cMv v mo fv, cMt v mo ft, cMr v mo fr, cMe v mo fe, cMn v mo fn], by decide +kernel, rfl, hr9, ⟨_, ⟨_, _, _, _, _, _, _, _, _, _, _, _, rfl, hS, hH, hT, rfl⟩, rfl⟩⟩

set_option maxHeartbeats 4000000 in
set_option maxRecDepth 100000 in
theorem Mc_X7_digest (l : Launch) (v : VV) {P : Nat → S9} {n : Nat} {lo hi : Nat → Nat} {H : Nat → HE9} {c : Nat} {tx : Nat → Nat} {ln : Nat} {w9 : va_W} {mz : Nat} {th : Int32} (hI : IM9 v mz P n lo hi H c tx ln th w9) (hW : WF P n) (hL : AsW lo hi) : ML l v yX7_digest cX7_digest 2 (some .long) ({ frames := 6, cells := 0, slots := 0, locals := 138 }) [.ref mz] [w9] (fun r w_ => r = dGV lo hi P n ∧ ∃ w1, IM9 v mz P n lo hi H c tx ln (nI 0) w1 ∧ w_ = [w1]) 0 0 := by
  obtain ⟨mo, rm, fa, sp, wr, dd, fs, fv, ft, fr, fe, fn, rfl, hS, hH, hT, rfl⟩ := hI
  refine mm_fr (wr := [cMv v mo fv, cMt v mo ft, cMr v mo fr]) (c_X7_digest l v mo th c ln rm fa sp wr dd P n lo hi fs fe fn hW hS hL) [0, 1, 5, 6] [2, 3, 4] rfl rfl (by decide +kernel) ?_
  rintro r w_ ⟨fe', fn', dd', hr9, rfl⟩
  exact ⟨[0, 1, 4, 5, 6, 2, 3], [[((mo 0), .inr (7, [.int (nI 0), .ref (mo 1), .ref (mo 2), .int (nI c), .ref (mo 3), .int (nI ln), .ref (mo 4), .int rm, .int fa, .ref (mo 5), .ref (mo 6), .int sp, .int wr, .long dd']))], cMs v mo fs, cMv v mo fv, cMt v mo ft, cMr v mo fr, cMe v mo fe', cMn v mo fn'], by decide +kernel, rfl, hr9, ⟨_, ⟨_, _, _, _, _, _, _, _, _, _, _, _, rfl, hS, hH, hT, rfl⟩, rfl⟩⟩

set_option maxHeartbeats 4000000 in
set_option maxRecDepth 100000 in
theorem Mc_X7_least (l : Launch) (v : VV) {P : Nat → S9} {n : Nat} {lo hi : Nat → Nat} {H : Nat → HE9} {c : Nat} {tx : Nat → Nat} {ln : Nat} {w9 : va_W} {mz : Nat} {th : Int32} (hI : IM9 v mz P n lo hi H c tx ln th w9) (hW : WF P n) (hL : AsW lo hi) (i : Nat) (w : Nat) (hi9 : i < n + 1) (hw9 : w < 3) : MI l v yX7_least cX7_least 3 (some .int) ({ frames := 5, cells := 0, slots := 0, locals := 115 }) [.ref mz, .int (nI i), .int (nI w)] [w9] (fun r w_ => r = zI (mnV lo hi P n i w) ∧ ∃ w1, IM9 v mz P n lo hi H c tx ln (nI 0) w1 ∧ w_ = [w1]) 0 0 := by
  obtain ⟨mo, rm, fa, sp, wr, dd, fs, fv, ft, fr, fe, fn, rfl, hS, hH, hT, rfl⟩ := hI
  refine mm_fr (wr := [cMv v mo fv, cMt v mo ft, cMr v mo fr, cMe v mo fe]) (c_X7_least l v mo th c ln rm fa sp wr dd P n lo hi fs fn i w hW hS hL hi9 hw9) [0, 1, 6] [2, 3, 4, 5] rfl rfl (by decide +kernel) ?_
  rintro r w_ ⟨fn', hr9, rfl⟩
  exact ⟨[0, 1, 3, 4, 5, 6, 2], [[((mo 0), .inr (7, [.int (nI 0), .ref (mo 1), .ref (mo 2), .int (nI c), .ref (mo 3), .int (nI ln), .ref (mo 4), .int rm, .int fa, .ref (mo 5), .ref (mo 6), .int sp, .int wr, .long dd]))], cMs v mo fs, cMv v mo fv, cMt v mo ft, cMr v mo fr, cMe v mo fe, cMn v mo fn'], by decide +kernel, rfl, hr9, ⟨_, ⟨_, _, _, _, _, _, _, _, _, _, _, _, rfl, hS, hH, hT, rfl⟩, rfl⟩⟩

set_option maxHeartbeats 4000000 in
set_option maxRecDepth 100000 in
theorem Mb_X7_least (l : Launch) (v : VV) {P : Nat → S9} {n : Nat} {lo hi : Nat → Nat} {H : Nat → HE9} {c : Nat} {tx : Nat → Nat} {ln : Nat} {w9 : va_W} {mz : Nat} {th : Int32} (hI : IM9 v mz P n lo hi H c tx ln th w9) (hW : WF P n) (hL : AsW lo hi) (x : Int32) (y : Int32) (hx : bdI x (n + 1)) : MI l v yX7_least cX7_least 3 (some .int) ({ frames := 1, cells := 0, slots := 0, locals := 22 }) [.ref mz, .int x, .int y] [w9] (fun r w_ => r = nI 0 ∧ ∃ w1, IM9 v mz P n lo hi H c tx ln (nI 1) w1 ∧ w_ = [w1]) 0 0 := by
  obtain ⟨mo, rm, fa, sp, wr, dd, fs, fv, ft, fr, fe, fn, rfl, hS, hH, hT, rfl⟩ := hI
  refine mm_fr (wr := [cMv v mo fv, cMt v mo ft, cMr v mo fr, cMe v mo fe, cMn v mo fn]) (b_X7_least l v mo th c ln rm fa sp wr dd P n lo hi fs x y hW hS hx) [0, 1] [2, 3, 4, 5, 6] rfl rfl (by decide +kernel) ?_
  rintro r w_ ⟨hr9, rfl⟩
  exact ⟨[0, 1, 2, 3, 4, 5, 6], [[((mo 0), .inr (7, [.int (nI 1), .ref (mo 1), .ref (mo 2), .int (nI c), .ref (mo 3), .int (nI ln), .ref (mo 4), .int rm, .int fa, .ref (mo 5), .ref (mo 6), .int sp, .int wr, .long dd]))], cMs v mo fs, cMv v mo fv, cMt v mo ft, cMr v mo fr, cMe v mo fe, cMn v mo fn], by decide +kernel, rfl, hr9, ⟨_, ⟨_, _, _, _, _, _, _, _, _, _, _, _, rfl, hS, hH, hT, rfl⟩, rfl⟩⟩

set_option maxHeartbeats 4000000 in
set_option maxRecDepth 100000 in
theorem Mb1_X7_least (l : Launch) (v : VV) {P : Nat → S9} {n : Nat} {lo hi : Nat → Nat} {H : Nat → HE9} {c : Nat} {tx : Nat → Nat} {ln : Nat} {w9 : va_W} {mz : Nat} {th : Int32} (hI : IM9 v mz P n lo hi H c tx ln th w9) (hW : WF P n) (hL : AsW lo hi) (i : Nat) (y : Int32) (hi9 : i < n + 1) (hx : bdI y 3) : MI l v yX7_least cX7_least 3 (some .int) ({ frames := 1, cells := 0, slots := 0, locals := 22 }) [.ref mz, .int (nI i), .int y] [w9] (fun r w_ => r = nI 0 ∧ ∃ w1, IM9 v mz P n lo hi H c tx ln (nI 1) w1 ∧ w_ = [w1]) 0 0 := by
  obtain ⟨mo, rm, fa, sp, wr, dd, fs, fv, ft, fr, fe, fn, rfl, hS, hH, hT, rfl⟩ := hI
  refine mm_fr (wr := [cMv v mo fv, cMt v mo ft, cMr v mo fr, cMe v mo fe, cMn v mo fn]) (b1_X7_least l v mo th c ln rm fa sp wr dd P n lo hi fs i y hW hS hi9 hx) [0, 1] [2, 3, 4, 5, 6] rfl rfl (by decide +kernel) ?_
  rintro r w_ ⟨hr9, rfl⟩
  exact ⟨[0, 1, 2, 3, 4, 5, 6], [[((mo 0), .inr (7, [.int (nI 1), .ref (mo 1), .ref (mo 2), .int (nI c), .ref (mo 3), .int (nI ln), .ref (mo 4), .int rm, .int fa, .ref (mo 5), .ref (mo 6), .int sp, .int wr, .long dd]))], cMs v mo fs, cMv v mo fv, cMt v mo ft, cMr v mo fr, cMe v mo fe, cMn v mo fn], by decide +kernel, rfl, hr9, ⟨_, ⟨_, _, _, _, _, _, _, _, _, _, _, _, rfl, hS, hH, hT, rfl⟩, rfl⟩⟩

set_option maxHeartbeats 4000000 in
set_option maxRecDepth 100000 in
theorem Mc_X7_greatest (l : Launch) (v : VV) {P : Nat → S9} {n : Nat} {lo hi : Nat → Nat} {H : Nat → HE9} {c : Nat} {tx : Nat → Nat} {ln : Nat} {w9 : va_W} {mz : Nat} {th : Int32} (hI : IM9 v mz P n lo hi H c tx ln th w9) (hW : WF P n) (hL : AsW lo hi) (i : Nat) (w : Nat) (hi9 : i < n + 1) (hw9 : w < 3) : MI l v yX7_greatest cX7_greatest 3 (some .int) ({ frames := 5, cells := 0, slots := 0, locals := 115 }) [.ref mz, .int (nI i), .int (nI w)] [w9] (fun r w_ => r = zI (mxV lo hi P n i w) ∧ ∃ w1, IM9 v mz P n lo hi H c tx ln (nI 0) w1 ∧ w_ = [w1]) 0 0 := by
  obtain ⟨mo, rm, fa, sp, wr, dd, fs, fv, ft, fr, fe, fn, rfl, hS, hH, hT, rfl⟩ := hI
  refine mm_fr (wr := [cMv v mo fv, cMt v mo ft, cMr v mo fr, cMe v mo fe]) (c_X7_greatest l v mo th c ln rm fa sp wr dd P n lo hi fs fn i w hW hS hL hi9 hw9) [0, 1, 6] [2, 3, 4, 5] rfl rfl (by decide +kernel) ?_
  rintro r w_ ⟨fn', hr9, rfl⟩
  exact ⟨[0, 1, 3, 4, 5, 6, 2], [[((mo 0), .inr (7, [.int (nI 0), .ref (mo 1), .ref (mo 2), .int (nI c), .ref (mo 3), .int (nI ln), .ref (mo 4), .int rm, .int fa, .ref (mo 5), .ref (mo 6), .int sp, .int wr, .long dd]))], cMs v mo fs, cMv v mo fv, cMt v mo ft, cMr v mo fr, cMe v mo fe, cMn v mo fn'], by decide +kernel, rfl, hr9, ⟨_, ⟨_, _, _, _, _, _, _, _, _, _, _, _, rfl, hS, hH, hT, rfl⟩, rfl⟩⟩

set_option maxHeartbeats 4000000 in
set_option maxRecDepth 100000 in
theorem Mb_X7_greatest (l : Launch) (v : VV) {P : Nat → S9} {n : Nat} {lo hi : Nat → Nat} {H : Nat → HE9} {c : Nat} {tx : Nat → Nat} {ln : Nat} {w9 : va_W} {mz : Nat} {th : Int32} (hI : IM9 v mz P n lo hi H c tx ln th w9) (hW : WF P n) (hL : AsW lo hi) (x : Int32) (y : Int32) (hx : bdI x (n + 1)) : MI l v yX7_greatest cX7_greatest 3 (some .int) ({ frames := 1, cells := 0, slots := 0, locals := 22 }) [.ref mz, .int x, .int y] [w9] (fun r w_ => r = nI 0 ∧ ∃ w1, IM9 v mz P n lo hi H c tx ln (nI 1) w1 ∧ w_ = [w1]) 0 0 := by
  obtain ⟨mo, rm, fa, sp, wr, dd, fs, fv, ft, fr, fe, fn, rfl, hS, hH, hT, rfl⟩ := hI
  refine mm_fr (wr := [cMv v mo fv, cMt v mo ft, cMr v mo fr, cMe v mo fe, cMn v mo fn]) (b_X7_greatest l v mo th c ln rm fa sp wr dd P n lo hi fs x y hW hS hx) [0, 1] [2, 3, 4, 5, 6] rfl rfl (by decide +kernel) ?_
  rintro r w_ ⟨hr9, rfl⟩
  exact ⟨[0, 1, 2, 3, 4, 5, 6], [[((mo 0), .inr (7, [.int (nI 1), .ref (mo 1), .ref (mo 2), .int (nI c), .ref (mo 3), .int (nI ln), .ref (mo 4), .int rm, .int fa, .ref (mo 5), .ref (mo 6), .int sp, .int wr, .long dd]))], cMs v mo fs, cMv v mo fv, cMt v mo ft, cMr v mo fr, cMe v mo fe, cMn v mo fn], by decide +kernel, rfl, hr9, ⟨_, ⟨_, _, _, _, _, _, _, _, _, _, _, _, rfl, hS, hH, hT, rfl⟩, rfl⟩⟩

set_option maxHeartbeats 4000000 in
set_option maxRecDepth 100000 in
theorem Mb1_X7_greatest (l : Launch) (v : VV) {P : Nat → S9} {n : Nat} {lo hi : Nat → Nat} {H : Nat → HE9} {c : Nat} {tx : Nat → Nat} {ln : Nat} {w9 : va_W} {mz : Nat} {th : Int32} (hI : IM9 v mz P n lo hi H c tx ln th w9) (hW : WF P n) (hL : AsW lo hi) (i : Nat) (y : Int32) (hi9 : i < n + 1) (hx : bdI y 3) : MI l v yX7_greatest cX7_greatest 3 (some .int) ({ frames := 1, cells := 0, slots := 0, locals := 22 }) [.ref mz, .int (nI i), .int y] [w9] (fun r w_ => r = nI 0 ∧ ∃ w1, IM9 v mz P n lo hi H c tx ln (nI 1) w1 ∧ w_ = [w1]) 0 0 := by
  obtain ⟨mo, rm, fa, sp, wr, dd, fs, fv, ft, fr, fe, fn, rfl, hS, hH, hT, rfl⟩ := hI
  refine mm_fr (wr := [cMv v mo fv, cMt v mo ft, cMr v mo fr, cMe v mo fe, cMn v mo fn]) (b1_X7_greatest l v mo th c ln rm fa sp wr dd P n lo hi fs i y hW hS hi9 hx) [0, 1] [2, 3, 4, 5, 6] rfl rfl (by decide +kernel) ?_
  rintro r w_ ⟨hr9, rfl⟩
  exact ⟨[0, 1, 2, 3, 4, 5, 6], [[((mo 0), .inr (7, [.int (nI 1), .ref (mo 1), .ref (mo 2), .int (nI c), .ref (mo 3), .int (nI ln), .ref (mo 4), .int rm, .int fa, .ref (mo 5), .ref (mo 6), .int sp, .int wr, .long dd]))], cMs v mo fs, cMv v mo fv, cMt v mo ft, cMr v mo fr, cMe v mo fe, cMn v mo fn], by decide +kernel, rfl, hr9, ⟨_, ⟨_, _, _, _, _, _, _, _, _, _, _, _, rfl, hS, hH, hT, rfl⟩, rfl⟩⟩

set_option maxHeartbeats 4000000 in
set_option maxRecDepth 100000 in
theorem Mc_X7_widest (l : Launch) (v : VV) {P : Nat → S9} {n : Nat} {lo hi : Nat → Nat} {H : Nat → HE9} {c : Nat} {tx : Nat → Nat} {ln : Nat} {w9 : va_W} {mz : Nat} {th : Int32} (hI : IM9 v mz P n lo hi H c tx ln th w9) (hW : WF P n) (hL : AsW lo hi) (w : Nat) (hw9 : w < 3) : MI l v yX7_widest cX7_widest 2 (some .int) ({ frames := 6, cells := 0, slots := 0, locals := 138 }) [.ref mz, .int (nI w)] [w9] (fun r w_ => r = zI (wdV lo hi P n w) ∧ ∃ w1, IM9 v mz P n lo hi H c tx ln (nI 0) w1 ∧ w_ = [w1]) 0 0 := by
  obtain ⟨mo, rm, fa, sp, wr, dd, fs, fv, ft, fr, fe, fn, rfl, hS, hH, hT, rfl⟩ := hI
  refine mm_fr (wr := [cMv v mo fv, cMt v mo ft, cMr v mo fr, cMn v mo fn]) (c_X7_widest l v mo th c ln rm fa sp wr dd P n lo hi fs fe w hW hS hL hw9) [0, 1, 5] [2, 3, 4, 6] rfl rfl (by decide +kernel) ?_
  rintro r w_ ⟨fe', hr9, rfl⟩
  exact ⟨[0, 1, 3, 4, 5, 2, 6], [[((mo 0), .inr (7, [.int (nI 0), .ref (mo 1), .ref (mo 2), .int (nI c), .ref (mo 3), .int (nI ln), .ref (mo 4), .int rm, .int fa, .ref (mo 5), .ref (mo 6), .int sp, .int wr, .long dd]))], cMs v mo fs, cMv v mo fv, cMt v mo ft, cMr v mo fr, cMe v mo fe', cMn v mo fn], by decide +kernel, rfl, hr9, ⟨_, ⟨_, _, _, _, _, _, _, _, _, _, _, _, rfl, hS, hH, hT, rfl⟩, rfl⟩⟩

set_option maxHeartbeats 4000000 in
set_option maxRecDepth 100000 in
theorem Mb_X7_widest (l : Launch) (v : VV) {P : Nat → S9} {n : Nat} {lo hi : Nat → Nat} {H : Nat → HE9} {c : Nat} {tx : Nat → Nat} {ln : Nat} {w9 : va_W} {mz : Nat} {th : Int32} (hI : IM9 v mz P n lo hi H c tx ln th w9) (hW : WF P n) (hL : AsW lo hi) (w : Int32) (hx : bdI w 3) : MI l v yX7_widest cX7_widest 2 (some .int) ({ frames := 1, cells := 0, slots := 0, locals := 22 }) [.ref mz, .int w] [w9] (fun r w_ => r = nI 0 ∧ ∃ w1, IM9 v mz P n lo hi H c tx ln (nI 1) w1 ∧ w_ = [w1]) 0 0 := by
  obtain ⟨mo, rm, fa, sp, wr, dd, fs, fv, ft, fr, fe, fn, rfl, hS, hH, hT, rfl⟩ := hI
  refine mm_fr (wr := [cMs v mo fs, cMv v mo fv, cMt v mo ft, cMr v mo fr, cMe v mo fe, cMn v mo fn]) (b_X7_widest l v mo th c ln rm fa sp wr dd w hx) [0] [1, 2, 3, 4, 5, 6] rfl rfl (by decide +kernel) ?_
  rintro r w_ ⟨hr9, rfl⟩
  exact ⟨[0, 1, 2, 3, 4, 5, 6], [[((mo 0), .inr (7, [.int (nI 1), .ref (mo 1), .ref (mo 2), .int (nI c), .ref (mo 3), .int (nI ln), .ref (mo 4), .int rm, .int fa, .ref (mo 5), .ref (mo 6), .int sp, .int wr, .long dd]))], cMs v mo fs, cMv v mo fv, cMt v mo ft, cMr v mo fr, cMe v mo fe, cMn v mo fn], by decide +kernel, rfl, hr9, ⟨_, ⟨_, _, _, _, _, _, _, _, _, _, _, _, rfl, hS, hH, hT, rfl⟩, rfl⟩⟩

set_option maxHeartbeats 4000000 in
set_option maxRecDepth 100000 in
theorem Mc_X7_append (l : Launch) (v : VV) {P : Nat → S9} {n : Nat} {lo hi : Nat → Nat} {H : Nat → HE9} {c : Nat} {tx : Nat → Nat} {ln : Nat} {w9 : va_W} {mz : Nat} {th : Int32} (hI : IM9 v mz P n lo hi H c tx ln th w9) (hW : WF P n) (hL : AsW lo hi) (w : Nat) (hl : ln < 60) (hw1 : 33 ≤ w) (hw2 : w < 127) : MI l v yX7_append cX7_append 2 (some .int) ({ frames := 1, cells := 0, slots := 0, locals := 22 }) [.ref mz, .int (nI w)] [w9] (fun r w_ => r = nI (ln + 1) ∧ ∃ w1, IM9 v mz P n lo hi H c (hU9 tx ln w) (ln + 1) (nI 0) w1 ∧ w_ = [w1]) 0 0 := by
  obtain ⟨mo, rm, fa, sp, wr, dd, fs, fv, ft, fr, fe, fn, rfl, hS, hH, hT, rfl⟩ := hI
  refine mm_fr (wr := [cMs v mo fs, cMv v mo fv, cMr v mo fr, cMe v mo fe, cMn v mo fn]) (c_X7_append l v mo th c ln rm fa sp wr dd ft w hl hw1 hw2) [0, 3] [1, 2, 4, 5, 6] rfl rfl (by decide +kernel) ?_
  rintro r w_ ⟨hr9, rfl⟩
  exact ⟨[0, 2, 3, 1, 4, 5, 6], [[((mo 0), .inr (7, [.int (nI 0), .ref (mo 1), .ref (mo 2), .int (nI c), .ref (mo 3), .int (nI (ln + 1)), .ref (mo 4), .int rm, .int fa, .ref (mo 5), .ref (mo 6), .int sp, .int wr, .long dd]))], cMs v mo fs, cMv v mo fv, cMt v mo (upd ft ln (nI w)), cMr v mo fr, cMe v mo fe, cMn v mo fn], by decide +kernel, rfl, hr9, ⟨_, ⟨_, _, _, _, _, _, _, _, _, _, _, _, rfl, hS, hH, (TxR_app hT hl hw1 hw2), rfl⟩, rfl⟩⟩

set_option maxHeartbeats 4000000 in
set_option maxRecDepth 100000 in
theorem Mb_X7_append (l : Launch) (v : VV) {P : Nat → S9} {n : Nat} {lo hi : Nat → Nat} {H : Nat → HE9} {c : Nat} {tx : Nat → Nat} {ln : Nat} {w9 : va_W} {mz : Nat} {th : Int32} (hI : IM9 v mz P n lo hi H c tx ln th w9) (hW : WF P n) (hL : AsW lo hi) (x : Int32) (hx : bdC x) : MI l v yX7_append cX7_append 2 (some .int) ({ frames := 1, cells := 0, slots := 0, locals := 22 }) [.ref mz, .int x] [w9] (fun r w_ => r = nI 0 ∧ ∃ w1, IM9 v mz P n lo hi H c tx ln (nI 1) w1 ∧ w_ = [w1]) 0 0 := by
  obtain ⟨mo, rm, fa, sp, wr, dd, fs, fv, ft, fr, fe, fn, rfl, hS, hH, hT, rfl⟩ := hI
  refine mm_fr (wr := [cMs v mo fs, cMv v mo fv, cMt v mo ft, cMr v mo fr, cMe v mo fe, cMn v mo fn]) (b_X7_append l v mo th c ln rm fa sp wr dd x hx) [0] [1, 2, 3, 4, 5, 6] rfl rfl (by decide +kernel) ?_
  rintro r w_ ⟨hr9, rfl⟩
  exact ⟨[0, 1, 2, 3, 4, 5, 6], [[((mo 0), .inr (7, [.int (nI 1), .ref (mo 1), .ref (mo 2), .int (nI c), .ref (mo 3), .int (nI ln), .ref (mo 4), .int rm, .int fa, .ref (mo 5), .ref (mo 6), .int sp, .int wr, .long dd]))], cMs v mo fs, cMv v mo fv, cMt v mo ft, cMr v mo fr, cMe v mo fe, cMn v mo fn], by decide +kernel, rfl, hr9, ⟨_, ⟨_, _, _, _, _, _, _, _, _, _, _, _, rfl, hS, hH, hT, rfl⟩, rfl⟩⟩

set_option maxHeartbeats 4000000 in
set_option maxRecDepth 100000 in
theorem Mb1_X7_append (l : Launch) (v : VV) {P : Nat → S9} {n : Nat} {lo hi : Nat → Nat} {H : Nat → HE9} {c : Nat} {tx : Nat → Nat} {ln : Nat} {w9 : va_W} {mz : Nat} {th : Int32} (hI : IM9 v mz P n lo hi H c tx ln th w9) (hW : WF P n) (hL : AsW lo hi) (w : Nat) (hl : ln = 60) (hw1 : 33 ≤ w) (hw2 : w < 127) : MI l v yX7_append cX7_append 2 (some .int) ({ frames := 1, cells := 0, slots := 0, locals := 22 }) [.ref mz, .int (nI w)] [w9] (fun r w_ => r = nI 0 ∧ ∃ w1, IM9 v mz P n lo hi H c tx ln (nI 2) w1 ∧ w_ = [w1]) 0 0 := by
  obtain ⟨mo, rm, fa, sp, wr, dd, fs, fv, ft, fr, fe, fn, rfl, hS, hH, hT, rfl⟩ := hI
  refine mm_fr (wr := [cMs v mo fs, cMv v mo fv, cMt v mo ft, cMr v mo fr, cMe v mo fe, cMn v mo fn]) (b1_X7_append l v mo th c ln rm fa sp wr dd w hl hw1 hw2) [0] [1, 2, 3, 4, 5, 6] rfl rfl (by decide +kernel) ?_
  rintro r w_ ⟨hr9, rfl⟩
  exact ⟨[0, 1, 2, 3, 4, 5, 6], [[((mo 0), .inr (7, [.int (nI 2), .ref (mo 1), .ref (mo 2), .int (nI c), .ref (mo 3), .int (nI ln), .ref (mo 4), .int rm, .int fa, .ref (mo 5), .ref (mo 6), .int sp, .int wr, .long dd]))], cMs v mo fs, cMv v mo fv, cMt v mo ft, cMr v mo fr, cMe v mo fe, cMn v mo fn], by decide +kernel, rfl, hr9, ⟨_, ⟨_, _, _, _, _, _, _, _, _, _, _, _, rfl, hS, hH, hT, rfl⟩, rfl⟩⟩

set_option maxHeartbeats 4000000 in
set_option maxRecDepth 100000 in
theorem Mc_X7_clearBuffer (l : Launch) (v : VV) {P : Nat → S9} {n : Nat} {lo hi : Nat → Nat} {H : Nat → HE9} {c : Nat} {tx : Nat → Nat} {ln : Nat} {w9 : va_W} {mz : Nat} {th : Int32} (hI : IM9 v mz P n lo hi H c tx ln th w9) (hW : WF P n) (hL : AsW lo hi) : MI l v yX7_clearBuffer cX7_clearBuffer 2 (some .int) ({ frames := 0, cells := 0, slots := 0, locals := 0 }) [.ref mz] [w9] (fun r w_ => r = nI ln ∧ ∃ w1, IM9 v mz P n lo hi H c tx 0 (nI 0) w1 ∧ w_ = [w1]) 0 0 := by
  obtain ⟨mo, rm, fa, sp, wr, dd, fs, fv, ft, fr, fe, fn, rfl, hS, hH, hT, rfl⟩ := hI
  refine mm_fr (wr := [cMs v mo fs, cMv v mo fv, cMt v mo ft, cMr v mo fr, cMe v mo fe, cMn v mo fn]) (c_X7_clearBuffer l v mo th c ln rm fa sp wr dd) [0] [1, 2, 3, 4, 5, 6] rfl rfl (by decide +kernel) ?_
  rintro r w_ ⟨hr9, rfl⟩
  exact ⟨[0, 1, 2, 3, 4, 5, 6], [[((mo 0), .inr (7, [.int (nI 0), .ref (mo 1), .ref (mo 2), .int (nI c), .ref (mo 3), .int (nI 0), .ref (mo 4), .int rm, .int fa, .ref (mo 5), .ref (mo 6), .int sp, .int wr, .long dd]))], cMs v mo fs, cMv v mo fv, cMt v mo ft, cMr v mo fr, cMe v mo fe, cMn v mo fn], by decide +kernel, rfl, hr9, ⟨_, ⟨_, _, _, _, _, _, _, _, _, _, _, _, rfl, hS, hH, (TxR_0 hT), rfl⟩, rfl⟩⟩

set_option maxHeartbeats 4000000 in
set_option maxRecDepth 100000 in
theorem Mc_X7_firstError (l : Launch) (v : VV) {P : Nat → S9} {n : Nat} {lo hi : Nat → Nat} {H : Nat → HE9} {c : Nat} {tx : Nat → Nat} {ln : Nat} {w9 : va_W} {mz : Nat} {th : Int32} (hI : IM9 v mz P n lo hi H c tx ln th w9) (hW : WF P n) (hL : AsW lo hi) : MI l v yX7_firstError cX7_firstError 1 (some .int) ({ frames := 7, cells := 0, slots := 0, locals := 155 }) [.ref mz] [w9] (fun r w_ => r = nI (pAll tx ln 12 0 []).2.1 ∧ ∃ w1, IM9 v mz P n lo hi H c tx ln (nI 0) w1 ∧ w_ = [w1]) 0 0 := by
  obtain ⟨mo, rm, fa, sp, wr, dd, fs, fv, ft, fr, fe, fn, rfl, hS, hH, hT, rfl⟩ := hI
  refine mm_fr (wr := [cMs v mo fs, cMv v mo fv, cMe v mo fe, cMn v mo fn]) (c_X7_firstError l v mo th c ln rm fa sp wr dd tx ft fr hT) [0, 3, 4] [1, 2, 5, 6] rfl rfl (by decide +kernel) ?_
  rintro r w_ ⟨fr', fa', wr', hr9, rfl⟩
  exact ⟨[0, 3, 4, 1, 2, 5, 6], [[((mo 0), .inr (7, [.int (nI 0), .ref (mo 1), .ref (mo 2), .int (nI c), .ref (mo 3), .int (nI ln), .ref (mo 4), .int (nI ((pAll tx ln 12 0 []).2.2.length)), .int (nI fa'), .ref (mo 5), .ref (mo 6), .int (nI ((pAll tx ln 12 0 []).2.1)), .int wr', .long dd]))], cMs v mo fs, cMv v mo fv, cMt v mo ft, cMr v mo fr', cMe v mo fe, cMn v mo fn], by decide +kernel, rfl, hr9, ⟨_, ⟨_, _, _, _, _, _, _, _, _, _, _, _, rfl, hS, hH, hT, rfl⟩, rfl⟩⟩

set_option maxHeartbeats 4000000 in
set_option maxRecDepth 100000 in
theorem Mc_X7_undo (l : Launch) (v : VV) {P : Nat → S9} {n : Nat} {lo hi : Nat → Nat} {H : Nat → HE9} {c : Nat} {tx : Nat → Nat} {ln : Nat} {w9 : va_W} {mz : Nat} {th : Int32} (hI : IM9 v mz P n lo hi H c tx ln th w9) (hW : WF P n) (hL : AsW lo hi) (hsm : 0 < c) : MI l v yX7_undo cX7_undo 2 (some .int) ({ frames := 1, cells := 0, slots := 0, locals := 21 }) [.ref mz] [w9] (fun r w_ => r = nI (c - 1) ∧ ∃ w1, IM9 v mz ((H (c - 1)).1) ((H (c - 1)).2.1) ((H (c - 1)).2.2.1) ((H (c - 1)).2.2.2) H (c - 1) tx ln (nI 0) w1 ∧ w_ = [w1]) 0 0 := by
  obtain ⟨mo, rm, fa, sp, wr, dd, fs, fv, ft, fr, fe, fn, rfl, hS, hH, hT, rfl⟩ := hI
  refine mm_fr (wr := [cMt v mo ft, cMr v mo fr, cMe v mo fe, cMn v mo fn]) (c_X7_undo l v mo th c ln rm fa sp wr dd fs fv H hH hsm) [0, 1, 2] [3, 4, 5, 6] rfl rfl (by decide +kernel) ?_
  rintro r w_ ⟨fs', hr9, k0, k1, rfl⟩
  exact ⟨[0, 1, 2, 3, 4, 5, 6], [[((mo 0), .inr (7, [.int (nI 0), .ref (mo 1), .ref (mo 2), .int (nI (c - 1)), .ref (mo 3), .int (nI ln), .ref (mo 4), .int rm, .int fa, .ref (mo 5), .ref (mo 6), .int sp, .int wr, .long dd]))], cMs v mo fs', cMv v mo fv, cMt v mo ft, cMr v mo fr, cMe v mo fe, cMn v mo fn], by decide +kernel, rfl, hr9, ⟨_, ⟨_, _, _, _, _, _, _, _, _, _, _, _, rfl, k0, k1, hT, rfl⟩, rfl⟩⟩

set_option maxHeartbeats 4000000 in
set_option maxRecDepth 100000 in
theorem Mb_X7_undo (l : Launch) (v : VV) {P : Nat → S9} {n : Nat} {lo hi : Nat → Nat} {H : Nat → HE9} {tx : Nat → Nat} {ln : Nat} {w9 : va_W} {mz : Nat} {th : Int32} (hI : IM9 v mz P n lo hi H 0 tx ln th w9) (hW : WF P n) (hL : AsW lo hi) : MI l v yX7_undo cX7_undo 2 (some .int) ({ frames := 1, cells := 0, slots := 0, locals := 21 }) [.ref mz] [w9] (fun r w_ => r = nI 0 ∧ ∃ w1, IM9 v mz P n lo hi H 0 tx ln (nI 1) w1 ∧ w_ = [w1]) 0 0 := by
  obtain ⟨mo, rm, fa, sp, wr, dd, fs, fv, ft, fr, fe, fn, rfl, hS, hH, hT, rfl⟩ := hI
  refine mm_fr (wr := [cMs v mo fs, cMv v mo fv, cMt v mo ft, cMr v mo fr, cMe v mo fe, cMn v mo fn]) (b_X7_undo l v mo th ln rm fa sp wr dd) [0] [1, 2, 3, 4, 5, 6] rfl rfl (by decide +kernel) ?_
  rintro r w_ ⟨hr9, rfl⟩
  exact ⟨[0, 1, 2, 3, 4, 5, 6], [[((mo 0), .inr (7, [.int (nI 1), .ref (mo 1), .ref (mo 2), .int (nI 0), .ref (mo 3), .int (nI ln), .ref (mo 4), .int rm, .int fa, .ref (mo 5), .ref (mo 6), .int sp, .int wr, .long dd]))], cMs v mo fs, cMv v mo fv, cMt v mo ft, cMr v mo fr, cMe v mo fe, cMn v mo fn], by decide +kernel, rfl, hr9, ⟨_, ⟨_, _, _, _, _, _, _, _, _, _, _, _, rfl, hS, hH, hT, rfl⟩, rfl⟩⟩

set_option maxHeartbeats 4000000 in
set_option maxRecDepth 100000 in
theorem Mc_X7_thrown (l : Launch) (v : VV) {P : Nat → S9} {n : Nat} {lo hi : Nat → Nat} {H : Nat → HE9} {c : Nat} {tx : Nat → Nat} {ln : Nat} {w9 : va_W} {mz : Nat} {th : Int32} (hI : IM9 v mz P n lo hi H c tx ln th w9) (hW : WF P n) (hL : AsW lo hi) : MI l v yX7_thrown cX7_thrown 1 (some .int) ({ frames := 0, cells := 0, slots := 0, locals := 0 }) [.ref mz] [w9] (fun r w_ => r = th ∧ ∃ w1, IM9 v mz P n lo hi H c tx ln th w1 ∧ w_ = [w1]) 0 0 := by
  obtain ⟨mo, rm, fa, sp, wr, dd, fs, fv, ft, fr, fe, fn, rfl, hS, hH, hT, rfl⟩ := hI
  refine mm_fr (wr := [cMs v mo fs, cMv v mo fv, cMt v mo ft, cMr v mo fr, cMe v mo fe, cMn v mo fn]) (c_X7_thrown l v mo th c ln rm fa sp wr dd) [0] [1, 2, 3, 4, 5, 6] rfl rfl (by decide +kernel) ?_
  rintro r w_ ⟨hr9, rfl⟩
  exact ⟨[0, 1, 2, 3, 4, 5, 6], [[((mo 0), .inr (7, [.int th, .ref (mo 1), .ref (mo 2), .int (nI c), .ref (mo 3), .int (nI ln), .ref (mo 4), .int rm, .int fa, .ref (mo 5), .ref (mo 6), .int sp, .int wr, .long dd]))], cMs v mo fs, cMv v mo fv, cMt v mo ft, cMr v mo fr, cMe v mo fe, cMn v mo fn], by decide +kernel, rfl, hr9, ⟨_, ⟨_, _, _, _, _, _, _, _, _, _, _, _, rfl, hS, hH, hT, rfl⟩, rfl⟩⟩

