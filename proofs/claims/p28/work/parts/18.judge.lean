/-! ## judging, in mathematics -/
def ctb (p : Nat → Bool) : Nat → Nat
  | 0 => 0
  | T + 1 => ctb p T + (if p T = true then 1 else 0)
theorem ctb_le (p : Nat → Bool) : ∀ T, ctb p T ≤ T
  | 0 => Nat.le_refl _
  | T + 1 => by
    have := ctb_le p T
    unfold ctb
    split <;> omega
theorem ctb_t {p : Nat → Bool} {T : Nat} (h : p T = true) : ctb p (T + 1) = ctb p T + 1 := by
  show ctb p T + _ = _
  rw [if_pos h]
theorem ctb_f {p : Nat → Bool} {T : Nat} (h : p T = false) : ctb p (T + 1) = ctb p T := by
  show ctb p T + _ = _
  rw [if_neg (by rw [h]; decide)]
  rfl
theorem ctb_cong {p q : Nat → Bool} {T : Nat} (h : ∀ t, t < T → p t = q t) : ctb p T = ctb q T := by
  induction T with
  | zero => rfl
  | succ T ih =>
    show ctb p T + _ = ctb q T + _
    rw [ih (fun t ht => h t (by omega)), h T (by omega)]
theorem ctb_zero {p : Nat → Bool} {T : Nat} : ctb p T = 0 ↔ ∀ t, t < T → p t = false := by
  induction T with
  | zero => exact ⟨fun _ t h => absurd h (Nat.not_lt_zero t), fun _ => rfl⟩
  | succ T ih =>
    cases c : p T with
    | true =>
      rw [ctb_t c]
      exact ⟨fun h => by omega, fun h => by rw [h T (by omega)] at c; cases c⟩
    | false =>
      rw [ctb_f c, ih]
      constructor
      · intro h t ht
        by_cases e : t = T
        · rw [e]; exact c
        · exact h t (by omega)
      · exact fun h t ht => h t (by omega)
noncomputable def jE (lo hi : Nat → Nat) (P : Nat → S9) (n t : Nat) : Bool := ab9 lo hi (-1) t && decide (EE P n t = -1)
noncomputable def jF (lo hi : Nat → Nat) (P : Nat → S9) (n t : Nat) : Bool := ab9 lo hi (-1) t && decide (0 ≤ EE P n t ∧ EE P n t < 1000)
noncomputable def jS (lo hi : Nat → Nat) (P : Nat → S9) (n t : Nat) : Bool := ab9 lo hi (-1) t && decide (1000 ≤ EE P n t)
def IsEx (p : Nat → Prop) (T : Nat) (x : Int) : Prop := (x = -1 ∧ ∀ t, t < T → ¬ p t) ∨ ∃ t : Nat, t < T ∧ x = t ∧ p t ∧ ∀ t', t' < t → ¬ p t'
def pX (lo hi : Nat → Nat) (P : Nat → S9) (n c t : Nat) : Prop := ab9 lo hi (-1) t = true ∧ EE P n t = c
theorem IsEx.uniq {p : Nat → Prop} {T : Nat} {x y : Int} (h : IsEx p T x) (h' : IsEx p T y) : x = y := by
  rcases h with ⟨a, b⟩ | ⟨t, a, b, c, d⟩ <;> rcases h' with ⟨a', b'⟩ | ⟨t', a', b', c', d'⟩
  · rw [a, a']
  · exact absurd c' (b t' a')
  · exact absurd c (b' t a)
  · rcases Nat.lt_trichotomy t t' with z | z | z
    · exact absurd c (d' t z)
    · rw [b, b', z]
    · exact absurd c' (d t' z)
theorem IsEx.cong {p q : Nat → Prop} {T : Nat} {x : Int} (h : IsEx p T x) (e : ∀ t, t < T → (p t ↔ q t)) : IsEx q T x := by
  rcases h with ⟨a, b⟩ | ⟨t, a, b, c, d⟩
  · exact Or.inl ⟨a, fun t ht z => b t ht ((e t ht).mpr z)⟩
  · exact Or.inr ⟨t, a, b, (e t a).mp c, fun t' ht' z => d t' ht' ((e t' (by omega)).mpr z)⟩
theorem IsEx.rng {p : Nat → Prop} {T : Nat} {x : Int} (h : IsEx p T x) : -1 ≤ x ∧ x < (T : Int) ∨ x = -1 := by
  rcases h with ⟨a, b⟩ | ⟨t, a, b, c, d⟩ <;> omega
theorem IsEx.no {p : Nat → Prop} {T : Nat} {x : Int} (h : IsEx p T x) (hn : ¬ p T) : IsEx p (T + 1) x := by
  rcases h with ⟨a, b⟩ | ⟨t, a, b, c, d⟩
  · refine Or.inl ⟨a, fun t ht => ?_⟩
    by_cases e : t = T
    · rw [e]; exact hn
    · exact b t (by omega)
  · exact Or.inr ⟨t, by omega, b, c, d⟩
theorem IsEx.have {p : Nat → Prop} {T : Nat} {x : Int} (h : IsEx p T x) (hx : x ≠ -1) : IsEx p (T + 1) x := by
  rcases h with ⟨a, b⟩ | ⟨t, a, b, c, d⟩
  · exact absurd a hx
  · exact Or.inr ⟨t, by omega, b, c, d⟩
theorem IsEx.new {p : Nat → Prop} {T : Nat} {x : Int} (h : IsEx p T x) (hx : x = -1) (hp : p T) : IsEx p (T + 1) (T : Int) := by
  rcases h with ⟨a, b⟩ | ⟨t, a, b, c, d⟩
  · exact Or.inr ⟨T, by omega, rfl, hp, fun t' ht' => b t' ht'⟩
  · omega
theorem IsEx.zero {p : Nat → Prop} : IsEx p 0 (-1) := Or.inl ⟨rfl, fun t h => absurd h (Nat.not_lt_zero t)⟩
/-- the least, the greatest value of a variable at a statement, over visited places -/
def IsMn (V : Nat → Prop) (i w : Nat) (x : Int) : Prop := (x = -1 ∧ ∀ t, t < 512 → ¬ V (512 * i + t)) ∨ ∃ t, t < 512 ∧ V (512 * i + t) ∧ x = (val t w : Int) ∧ ∀ t', t' < 512 → V (512 * i + t') → val t w ≤ val t' w
def IsMx (V : Nat → Prop) (i w : Nat) (x : Int) : Prop := (x = -1 ∧ ∀ t, t < 512 → ¬ V (512 * i + t)) ∨ ∃ t, t < 512 ∧ V (512 * i + t) ∧ x = (val t w : Int) ∧ ∀ t', t' < 512 → V (512 * i + t') → val t' w ≤ val t w
theorem IsMn.uniq {V : Nat → Prop} {i w : Nat} {x y : Int} (h : IsMn V i w x) (h' : IsMn V i w y) : x = y := by
  rcases h with ⟨a, b⟩ | ⟨t, a, b, c, d⟩ <;> rcases h' with ⟨a', b'⟩ | ⟨t', a', b', c', d'⟩
  · rw [a, a']
  · exact absurd b' (b t' a')
  · exact absurd b (b' t a)
  · have := d t' a' b'; have := d' t a b; omega
theorem IsMx.uniq {V : Nat → Prop} {i w : Nat} {x y : Int} (h : IsMx V i w x) (h' : IsMx V i w y) : x = y := by
  rcases h with ⟨a, b⟩ | ⟨t, a, b, c, d⟩ <;> rcases h' with ⟨a', b'⟩ | ⟨t', a', b', c', d'⟩
  · rw [a, a']
  · exact absurd b' (b t' a')
  · exact absurd b (b' t a)
  · have := d t' a' b'; have := d' t a b; omega
theorem IsMn.rng {V : Nat → Prop} {i w : Nat} {x : Int} (h : IsMn V i w x) : -1 ≤ x ∧ x < 8 := by
  rcases h with ⟨a, b⟩ | ⟨t, a, b, c, d⟩
  · omega
  · have := val_lt t w; omega
theorem IsMx.rng {V : Nat → Prop} {i w : Nat} {x : Int} (h : IsMx V i w x) : -1 ≤ x ∧ x < 8 := by
  rcases h with ⟨a, b⟩ | ⟨t, a, b, c, d⟩
  · omega
  · have := val_lt t w; omega
theorem IsMn.cong {V V' : Nat → Prop} {i w : Nat} {x : Int} (h : IsMn V i w x) (e : ∀ t, t < 512 → (V (512 * i + t) ↔ V' (512 * i + t))) : IsMn V' i w x := by
  rcases h with ⟨a, b⟩ | ⟨t, a, b, c, d⟩
  · exact Or.inl ⟨a, fun t ht z => b t ht ((e t ht).mpr z)⟩
  · exact Or.inr ⟨t, a, (e t a).mp b, c, fun t' ht' z => d t' ht' ((e t' ht').mpr z)⟩
theorem IsMx.cong {V V' : Nat → Prop} {i w : Nat} {x : Int} (h : IsMx V i w x) (e : ∀ t, t < 512 → (V (512 * i + t) ↔ V' (512 * i + t))) : IsMx V' i w x := by
  rcases h with ⟨a, b⟩ | ⟨t, a, b, c, d⟩
  · exact Or.inl ⟨a, fun t ht z => b t ht ((e t ht).mpr z)⟩
  · exact Or.inr ⟨t, a, (e t a).mp b, c, fun t' ht' z => d t' ht' ((e t' ht').mpr z)⟩
def adV (V : Nat → Prop) (q : Nat) : Nat → Prop := fun z => V z ∨ z = q
theorem IsMn.set {V : Nat → Prop} {q w : Nat} {x : Int} (h : IsMn V (q / 512) w x) (c : x = -1 ∨ (val (q % 512) w : Int) < x) : IsMn (adV V q) (q / 512) w (val (q % 512) w : Int) := by
  refine Or.inr ⟨q % 512, by omega, Or.inr (by omega), rfl, fun t' ht' hv => ?_⟩
  rcases hv with hv | hv
  · rcases h with ⟨a, b⟩ | ⟨t, a, b, c2, d⟩
    · exact absurd hv (b t' ht')
    · have := d t' ht' hv; omega
  · rw [show t' = q % 512 by omega]; exact Nat.le_refl _
theorem IsMn.keep {V : Nat → Prop} {q w : Nat} {x : Int} (h : IsMn V (q / 512) w x) (c1 : ¬ x = -1) (c2 : x ≤ (val (q % 512) w : Int)) : IsMn (adV V q) (q / 512) w x := by
  rcases h with ⟨a, b⟩ | ⟨t, a, b, c, d⟩
  · exact absurd a c1
  · refine Or.inr ⟨t, a, Or.inl b, c, fun t' ht' hv => ?_⟩
    rcases hv with hv | hv
    · exact d t' ht' hv
    · rw [show t' = q % 512 by omega]; omega
theorem IsMx.set {V : Nat → Prop} {q w : Nat} {x : Int} (h : IsMx V (q / 512) w x) (c : x < (val (q % 512) w : Int)) : IsMx (adV V q) (q / 512) w (val (q % 512) w : Int) := by
  refine Or.inr ⟨q % 512, by omega, Or.inr (by omega), rfl, fun t' ht' hv => ?_⟩
  rcases hv with hv | hv
  · rcases h with ⟨a, b⟩ | ⟨t, a, b, c2, d⟩
    · exact absurd hv (b t' ht')
    · have := d t' ht' hv; omega
  · rw [show t' = q % 512 by omega]; exact Nat.le_refl _
theorem IsMx.keep {V : Nat → Prop} {q w : Nat} {x : Int} (h : IsMx V (q / 512) w x) (c2 : (val (q % 512) w : Int) ≤ x) : IsMx (adV V q) (q / 512) w x := by
  rcases h with ⟨a, b⟩ | ⟨t, a, b, c, d⟩
  · omega
  · refine Or.inr ⟨t, a, Or.inl b, c, fun t' ht' hv => ?_⟩
    rcases hv with hv | hv
    · exact d t' ht' hv
    · rw [show t' = q % 512 by omega]; omega
def LoR (V : Nat → Prop) (g : Nat → Int32) : Prop := ∀ i, i < 13 → ∀ w, w < 3 → ∃ x : Int, g (i * 3 + w) = zI x ∧ IsMn V i w x
def HiR (V : Nat → Prop) (g : Nat → Int32) : Prop := ∀ i, i < 13 → ∀ w, w < 3 → ∃ x : Int, g (i * 3 + w) = zI x ∧ IsMx V i w x
/-- the first u rows of q's statement have q in them -/
def LoW (V : Nat → Prop) (q u : Nat) (g : Nat → Int32) : Prop := ∀ i, i < 13 → ∀ w, w < 3 → ∃ x : Int, g (i * 3 + w) = zI x ∧ ((i = q / 512 ∧ u ≤ w → IsMn V i w x) ∧ (¬ (i = q / 512 ∧ u ≤ w) → IsMn (adV V q) i w x))
def HiW (V : Nat → Prop) (q u : Nat) (g : Nat → Int32) : Prop := ∀ i, i < 13 → ∀ w, w < 3 → ∃ x : Int, g (i * 3 + w) = zI x ∧ ((i = q / 512 ∧ u ≤ w → IsMx V i w x) ∧ (¬ (i = q / 512 ∧ u ≤ w) → IsMx (adV V q) i w x))
theorem adV_ne {V : Nat → Prop} {q i t : Nat} (h : ¬ i = q / 512) (ht : t < 512) : V (512 * i + t) ↔ adV V q (512 * i + t) := ⟨Or.inl, fun z => z.elim id (fun e => absurd (by omega) h)⟩
theorem LoW_0 {V : Nat → Prop} {q : Nat} {g : Nat → Int32} (h : LoR V g) : LoW V q 0 g := fun i hi w hw => by
  obtain ⟨x, a, b⟩ := h i hi w hw
  exact ⟨x, a, fun _ => b, fun c => b.cong (fun t ht => adV_ne (fun e => c ⟨e, Nat.zero_le _⟩) ht)⟩
theorem HiW_0 {V : Nat → Prop} {q : Nat} {g : Nat → Int32} (h : HiR V g) : HiW V q 0 g := fun i hi w hw => by
  obtain ⟨x, a, b⟩ := h i hi w hw
  exact ⟨x, a, fun _ => b, fun c => b.cong (fun t ht => adV_ne (fun e => c ⟨e, Nat.zero_le _⟩) ht)⟩
theorem LoW_3 {V : Nat → Prop} {q : Nat} {g : Nat → Int32} (h : LoW V q 3 g) : LoR (adV V q) g := fun i hi w hw => by
  obtain ⟨x, a, _, b⟩ := h i hi w hw
  exact ⟨x, a, b (by omega)⟩
theorem HiW_3 {V : Nat → Prop} {q : Nat} {g : Nat → Int32} (h : HiW V q 3 g) : HiR (adV V q) g := fun i hi w hw => by
  obtain ⟨x, a, _, b⟩ := h i hi w hw
  exact ⟨x, a, b (by omega)⟩
theorem LoW_keep {V : Nat → Prop} {q u : Nat} {g : Nat → Int32} {x : Int} (h : LoW V q u g) (hx : g (q / 512 * 3 + u) = zI x) (hm : IsMn V (q / 512) u x) (c1 : ¬ x = -1) (c2 : x ≤ (val (q % 512) u : Int)) : LoW V q (u + 1) g := fun i hi w hw => by
  by_cases e : i = q / 512 ∧ w = u
  · obtain ⟨rfl, rfl⟩ := e
    exact ⟨x, hx, fun z => absurd z.2 (by omega), fun _ => hm.keep c1 c2⟩
  · obtain ⟨y, a, b, c⟩ := h i hi w hw
    exact ⟨y, a, fun z => b ⟨z.1, by omega⟩, fun z => c (fun z2 => z ⟨z2.1, by have := z2.2; have : w ≠ u := fun e2 => e ⟨z2.1, e2⟩; omega⟩)⟩
theorem LoW_set {V : Nat → Prop} {q u : Nat} {g : Nat → Int32} {x : Int} (h : LoW V q u g) (hu : u < 3) (hm : IsMn V (q / 512) u x) (c : x = -1 ∨ (val (q % 512) u : Int) < x) : LoW V q (u + 1) (upd g (q / 512 * 3 + u) (nI (val (q % 512) u))) := fun i hi w hw => by
  by_cases e : i = q / 512 ∧ w = u
  · obtain ⟨rfl, rfl⟩ := e
    exact ⟨_, by rw [pk_us, zI_nI], fun z => absurd z.2 (by omega), fun _ => hm.set c⟩
  · obtain ⟨y, a, b, d⟩ := h i hi w hw
    refine ⟨y, ?_, fun z => b ⟨z.1, by omega⟩, fun z => d (fun z2 => z ⟨z2.1, by have := z2.2; have : w ≠ u := fun e2 => e ⟨z2.1, e2⟩; omega⟩)⟩
    rw [pk_un (by omega)]
    exact a
theorem HiW_keep {V : Nat → Prop} {q u : Nat} {g : Nat → Int32} {x : Int} (h : HiW V q u g) (hx : g (q / 512 * 3 + u) = zI x) (hm : IsMx V (q / 512) u x) (c2 : (val (q % 512) u : Int) ≤ x) : HiW V q (u + 1) g := fun i hi w hw => by
  by_cases e : i = q / 512 ∧ w = u
  · obtain ⟨rfl, rfl⟩ := e
    exact ⟨x, hx, fun z => absurd z.2 (by omega), fun _ => hm.keep c2⟩
  · obtain ⟨y, a, b, c⟩ := h i hi w hw
    exact ⟨y, a, fun z => b ⟨z.1, by omega⟩, fun z => c (fun z2 => z ⟨z2.1, by have := z2.2; have : w ≠ u := fun e2 => e ⟨z2.1, e2⟩; omega⟩)⟩
theorem HiW_set {V : Nat → Prop} {q u : Nat} {g : Nat → Int32} {x : Int} (h : HiW V q u g) (hu : u < 3) (hm : IsMx V (q / 512) u x) (c : x < (val (q % 512) u : Int)) : HiW V q (u + 1) (upd g (q / 512 * 3 + u) (nI (val (q % 512) u))) := fun i hi w hw => by
  by_cases e : i = q / 512 ∧ w = u
  · obtain ⟨rfl, rfl⟩ := e
    exact ⟨_, by rw [pk_us, zI_nI], fun z => absurd z.2 (by omega), fun _ => hm.set c⟩
  · obtain ⟨y, a, b, d⟩ := h i hi w hw
    refine ⟨y, ?_, fun z => b ⟨z.1, by omega⟩, fun z => d (fun z2 => z ⟨z2.1, by have := z2.2; have : w ≠ u := fun e2 => e ⟨z2.1, e2⟩; omega⟩)⟩
    rw [pk_un (by omega)]
    exact a

