section
/-! numbers, searches, the tree of shapes: pure rows -/
abbrev sk_F : Type := Nat → Int32
theorem sk_nm1 {i : Nat} (h : i < 2 ^ 31) : ¬ nI i = -1 := fun e => nI_pos h (by rw [e]; decide)
theorem sk_m1n {i : Nat} (h : i < 2 ^ 31) : ¬ (-1 : Int32) = nI i := fun e => sk_nm1 h e.symm
theorem sk_inj {a b : Nat} (ha : a < 2 ^ 31) (hb : b < 2 ^ 31) (h : nI a = nI b) : a = b := (nI_eq ha hb).mp h
theorem sk_cl {n : Nat} (h : n < 2 ^ 31) : (nI n).toNatClampNeg = n := nI_clamp h
/-- the first of a, a+1, .. (k of them) with P; -1 if there is none -/
def sk_ff (P : Nat → Bool) : Nat → Nat → Int32
  | 0, _ => -1
  | k + 1, a => if P a = true then nI a else sk_ff P k (a + 1)
theorem sk_ff_0 (P : Nat → Bool) (a : Nat) : sk_ff P 0 a = -1 := rfl
theorem sk_ff_s (P : Nat → Bool) (k a : Nat) : sk_ff P (k + 1) a = if P a = true then nI a else sk_ff P k (a + 1) := rfl
theorem sk_ff_spec (P : Nat → Bool) : ∀ (k a : Nat), (sk_ff P k a = -1 ∧ ∀ i, a ≤ i → i < a + k → P i = false) ∨ ∃ i, a ≤ i ∧ i < a + k ∧ sk_ff P k a = nI i ∧ P i = true ∧ ∀ j, a ≤ j → j < i → P j = false
  | 0, a => Or.inl ⟨rfl, fun i h1 h2 => absurd h2 (by omega)⟩
  | k + 1, a => by
    rw [sk_ff_s]
    by_cases h : P a = true
    · rw [if_pos h]
      exact Or.inr ⟨a, Nat.le_refl a, by omega, rfl, h, fun j h1 h2 => absurd h2 (by omega)⟩
    · rw [if_neg h]
      have hf : P a = false := by cases hp : P a <;> simp_all
      rcases sk_ff_spec P k (a + 1) with ⟨e, q⟩ | ⟨i, h1, h2, e, hp, q⟩
      · refine Or.inl ⟨e, fun i h1 h2 => ?_⟩
        rcases Nat.eq_or_lt_of_le h1 with g | g
        · rw [← g]; exact hf
        · exact q i (by omega) (by omega)
      · refine Or.inr ⟨i, by omega, by omega, e, hp, fun j g1 g2 => ?_⟩
        rcases Nat.eq_or_lt_of_le g1 with g | g
        · rw [← g]; exact hf
        · exact q j (by omega) g2
theorem sk_ff_congr {P Q : Nat → Bool} : ∀ (k a : Nat), (∀ i, a ≤ i → i < a + k → P i = Q i) → sk_ff P k a = sk_ff Q k a
  | 0, _, _ => rfl
  | k + 1, a, h => by
    rw [sk_ff_s, sk_ff_s, h a (Nat.le_refl a) (by omega), sk_ff_congr k (a + 1) (fun i h1 h2 => h i (by omega) (by omega))]
/-- what isn't there ahead may be passed over -/
theorem sk_ff_skip {P : Nat → Bool} : ∀ (d k a : Nat), (∀ i, a ≤ i → i < a + d → P i = false) → sk_ff P (d + k) a = sk_ff P k (a + d)
  | 0, k, a, _ => by rw [Nat.zero_add, Nat.add_zero]
  | d + 1, k, a, h => by
    rw [show d + 1 + k = (d + k) + 1 by omega, sk_ff_s, if_neg (by rw [h a (Nat.le_refl a) (by omega)]; decide), sk_ff_skip d k (a + 1) (fun i h1 h2 => h i (by omega) (by omega))]
    congr 1; omega
/-! the tree: how many; prototypes, origins, last names, lengths -/
abbrev sk_Tr : Type := Nat × sk_F × sk_F × sk_F × sk_F
def sk_up (t : sk_Tr) : Nat → Nat → Nat
  | 0, s => s
  | j + 1, s => sk_up t j (t.2.2.1 s).toNatClampNeg
def sk_len (t : sk_Tr) (s : Nat) : Nat := (t.2.2.2.2 s).toNatClampNeg
/-- the name at a place -/
def sk_nm (t : sk_Tr) (s k : Nat) : Int32 := t.2.2.2.1 (sk_up t (sk_len t s - 1 - k) s)
/-- the place of a name among the first k, from the top -/
def sk_pl (t : sk_Tr) (x : Int32) : Nat → Nat → Int32
  | 0, _ => -1
  | k + 1, q => if t.2.2.2.1 q = x then nI k else sk_pl t x k (t.2.2.1 q).toNatClampNeg
def sk_place (t : sk_Tr) (x : Int32) (s : Nat) : Int32 := sk_pl t x (sk_len t s) s
def sk_SO (nO : Nat) (t : sk_Tr) (i : Nat) : Prop := (t.2.1 i = -1 ∨ ∃ x, x < nO ∧ t.2.1 i = nI x) ∧ ((t.2.2.1 i = -1 ∧ t.2.2.2.2 i = nI 0) ∨ ∃ j m a : Nat, j < i ∧ m < 12 ∧ a < 12 ∧ t.2.2.1 i = nI j ∧ t.2.2.2.2 j = nI m ∧ t.2.2.2.2 i = nI (m + 1) ∧ t.2.1 i = t.2.1 j ∧ t.2.2.2.1 i = nI a ∧ ∀ k, k < m → ¬ sk_nm t j k = t.2.2.2.1 i)
def sk_TO (nO : Nat) (t : sk_Tr) : Prop := 1 ≤ t.1 ∧ t.1 ≤ 200 ∧ nO ≤ 60 ∧ t.2.1 0 = -1 ∧ t.2.2.1 0 = -1 ∧ ∀ i, i < t.1 → sk_SO nO t i
theorem sk_lenE {t : sk_Tr} {s m : Nat} (hm : m < 2 ^ 31) (h : t.2.2.2.2 s = nI m) : sk_len t s = m := by
  unfold sk_len; rw [h]; exact nI_clamp hm
theorem sk_lenOk {nO : Nat} {t : sk_Tr} (h : sk_TO nO t) {i : Nat} (hi : i < t.1) : ∃ m, m ≤ 12 ∧ t.2.2.2.2 i = nI m ∧ sk_len t i = m := by
  rcases (h.2.2.2.2.2 i hi).2 with ⟨-, e⟩ | ⟨j, m, a, -, hm, -, -, -, e, -⟩
  · exact ⟨0, by omega, e, sk_lenE (by omega) e⟩
  · exact ⟨m + 1, by omega, e, sk_lenE (by omega) e⟩
theorem sk_nm_par {t : sk_Tr} {i j m k : Nat} (hj : j < 2 ^ 31) (hm : m < 12) (ho : t.2.2.1 i = nI j) (h1 : t.2.2.2.2 j = nI m) (h2 : t.2.2.2.2 i = nI (m + 1)) (hk : k < m) : sk_nm t i k = sk_nm t j k := by
  unfold sk_nm
  rw [sk_lenE (by omega) h1, sk_lenE (by omega) h2, show m + 1 - 1 - k = (m - 1 - k) + 1 by omega]
  show t.2.2.2.1 (sk_up t (m - 1 - k) (t.2.2.1 i).toNatClampNeg) = _
  rw [ho, nI_clamp hj]
theorem sk_nm_top {t : sk_Tr} {i m : Nat} (hm : m < 12) (h2 : t.2.2.2.2 i = nI (m + 1)) : sk_nm t i m = t.2.2.2.1 i := by
  unfold sk_nm
  rw [sk_lenE (by omega) h2, show m + 1 - 1 - m = 0 by omega]
  rfl
/-- induction along the origins -/
theorem sk_ind {nO : Nat} {t : sk_Tr} (h : sk_TO nO t) (P : Nat → Prop) (h0 : ∀ i, i < t.1 → t.2.2.1 i = -1 → t.2.2.2.2 i = nI 0 → P i)
    (hs : ∀ i j m a, i < t.1 → j < i → m < 12 → a < 12 → t.2.2.1 i = nI j → t.2.2.2.2 j = nI m → t.2.2.2.2 i = nI (m + 1) → t.2.1 i = t.2.1 j → t.2.2.2.1 i = nI a → (∀ k, k < m → ¬ sk_nm t j k = t.2.2.2.1 i) → P j → P i) : ∀ i, i < t.1 → P i := by
  intro i
  induction i using Nat.strongRecOn with
  | ind i ih =>
    intro hi
    rcases (h.2.2.2.2.2 i hi).2 with ⟨a, b⟩ | ⟨j, m, a, h1, h2, h3, h4, h5, h6, h7, h8, h9⟩
    · exact h0 i hi a b
    · exact hs i j m a hi h1 h2 h3 h4 h5 h6 h7 h8 h9 (ih j h1 (by omega))
theorem sk_t31 {nO : Nat} {t : sk_Tr} (h : sk_TO nO t) {i : Nat} (hi : i < t.1) : i < 2 ^ 31 := by have := h.2.1; omega
/-- names are 0 .. 11 -/
theorem sk_nm_in {nO : Nat} {t : sk_Tr} (h : sk_TO nO t) : ∀ i, i < t.1 → ∀ k, k < sk_len t i → ∃ a, a < 12 ∧ sk_nm t i k = nI a := by
  refine sk_ind h (fun i => ∀ k, k < sk_len t i → ∃ a, a < 12 ∧ sk_nm t i k = nI a) ?_ ?_
  · intro i hi _ e k hk
    rw [sk_lenE (by omega) e] at hk
    omega
  · intro i j m a hi hj hm ha ho h1 h2 hp hl hd ih k hk
    rw [sk_lenE (by omega) h2] at hk
    by_cases hkm : k < m
    · rw [sk_nm_par (by have := sk_t31 h hi; omega) hm ho h1 h2 hkm]
      exact ih k (by rw [sk_lenE (by omega) h1]; exact hkm)
    · have hkm : k = m := by omega
      subst hkm
      rw [sk_nm_top hm h2]
      exact ⟨a, ha, hl⟩
/-- names are apart -/
theorem sk_nm_inj {nO : Nat} {t : sk_Tr} (h : sk_TO nO t) : ∀ i, i < t.1 → ∀ k, k < sk_len t i → ∀ g, g < sk_len t i → sk_nm t i k = sk_nm t i g → k = g := by
  refine sk_ind h (fun i => ∀ k, k < sk_len t i → ∀ g, g < sk_len t i → sk_nm t i k = sk_nm t i g → k = g) ?_ ?_
  · intro i hi _ e k hk
    rw [sk_lenE (by omega) e] at hk
    omega
  · intro i j m a hi hj hm ha ho h1 h2 hp hl hd ih k hk g hg e
    rw [sk_lenE (by omega) h2] at hk hg
    have hj31 : j < 2 ^ 31 := by have := sk_t31 h hi; omega
    by_cases hkm : k < m
    · by_cases hgm : g < m
      · rw [sk_nm_par hj31 hm ho h1 h2 hkm, sk_nm_par hj31 hm ho h1 h2 hgm] at e
        exact ih k (by rw [sk_lenE (by omega) h1]; exact hkm) g (by rw [sk_lenE (by omega) h1]; exact hgm) e
      · have hgm : g = m := by omega
        subst hgm
        rw [sk_nm_par hj31 hm ho h1 h2 hkm, sk_nm_top hm h2] at e
        exact absurd e (hd k hkm)
    · have hkm : k = m := by omega
      subst hkm
      by_cases hgm : g < k
      · rw [sk_nm_par hj31 hm ho h1 h2 hgm, sk_nm_top hm h2] at e
        exact absurd e.symm (hd g hgm)
      · omega
/-- what the place of a name is -/
theorem sk_place_spec {nO : Nat} {t : sk_Tr} (h : sk_TO nO t) (x : Int32) : ∀ i, i < t.1 → (sk_place t x i = -1 ∧ ∀ k, k < sk_len t i → ¬ sk_nm t i k = x) ∨ ∃ k, k < sk_len t i ∧ sk_place t x i = nI k ∧ sk_nm t i k = x := by
  refine sk_ind h (fun i => (sk_place t x i = -1 ∧ ∀ k, k < sk_len t i → ¬ sk_nm t i k = x) ∨ ∃ k, k < sk_len t i ∧ sk_place t x i = nI k ∧ sk_nm t i k = x) ?_ ?_
  · intro i hi _ e
    refine Or.inl ⟨?_, fun k hk => ?_⟩
    · unfold sk_place; rw [sk_lenE (by omega) e]; rfl
    · rw [sk_lenE (by omega) e] at hk; omega
  · intro i j m a hi hj hm ha ho h1 h2 hp hl hd ih
    have hj31 : j < 2 ^ 31 := by have := sk_t31 h hi; omega
    have hli := sk_lenE (s := i) (by omega : m + 1 < 2 ^ 31) h2
    have hlj := sk_lenE (s := j) (by omega : m < 2 ^ 31) h1
    have hpl : sk_place t x i = if t.2.2.2.1 i = x then nI m else sk_place t x j := by
      unfold sk_place
      rw [hli, hlj]
      show (if t.2.2.2.1 i = x then nI m else sk_pl t x m (t.2.2.1 i).toNatClampNeg) = _
      rw [ho, nI_clamp hj31]
    rw [hpl, hli]
    by_cases hx : t.2.2.2.1 i = x
    · rw [if_pos hx]
      exact Or.inr ⟨m, by omega, rfl, by rw [sk_nm_top hm h2]; exact hx⟩
    · rw [if_neg hx]
      rcases ih with ⟨e, q⟩ | ⟨k, hk, e, q⟩
      · refine Or.inl ⟨e, fun k hk => ?_⟩
        by_cases hkm : k < m
        · rw [sk_nm_par hj31 hm ho h1 h2 hkm]
          exact q k (by rw [hlj]; exact hkm)
        · have hkm : k = m := by omega
          subst hkm
          rw [sk_nm_top hm h2]; exact hx
      · rw [hlj] at hk
        exact Or.inr ⟨k, by omega, e, by rw [sk_nm_par hj31 hm ho h1 h2 hk]; exact q⟩
/-- .. and nothing else is -/
theorem sk_place_uniq {nO : Nat} {t : sk_Tr} (h : sk_TO nO t) {x r : Int32} {i : Nat} (hi : i < t.1) (hr : (r = -1 ∧ ∀ k, k < sk_len t i → ¬ sk_nm t i k = x) ∨ ∃ k, k < sk_len t i ∧ r = nI k ∧ sk_nm t i k = x) : r = sk_place t x i := by
  rcases sk_place_spec h x i hi with ⟨e, q⟩ | ⟨k, hk, e, q⟩
  · rcases hr with ⟨e2, -⟩ | ⟨g, hg, -, q2⟩
    · rw [e, e2]
    · exact absurd q2 (q g hg)
  · rcases hr with ⟨-, q2⟩ | ⟨g, hg, e2, q2⟩
    · exact absurd q (q2 k hk)
    · rw [e, e2, sk_nm_inj h i hi k hk g hg (q.trans q2.symm)]
end
section
/-! the tree grows -/
theorem sk_pigeon : ∀ (n k : Nat) (f : Nat → Nat), (∀ i, i < k → f i < n) → (∀ i j, i < k → j < k → f i = f j → i = j) → k ≤ n
  | 0, k, f, h, _ => by
    rcases Nat.eq_zero_or_pos k with e | e
    · omega
    · exact absurd (h 0 e) (Nat.not_lt_zero _)
  | n + 1, k, f, h, hi => by
    by_cases hx : ∃ i0, i0 < k ∧ f i0 = n
    · obtain ⟨i0, h0, e0⟩ := hx
      have hne : ∀ i, i < k → i ≠ i0 → f i < n := fun i hik hne => by
        have h1 := h i hik
        have h2 : f i ≠ n := fun e => hne (hi i i0 hik h0 (e.trans e0.symm))
        omega
      have key := sk_pigeon n (k - 1) (fun i => if i < i0 then f i else f (i + 1)) (fun i hik => by
        try dsimp only
        split
        · exact hne i (by omega) (by omega)
        · exact hne (i + 1) (by omega) (by omega)) (fun i j hik hjk e => by
        try dsimp only at e
        by_cases c1 : i < i0
        · by_cases c2 : j < i0
          · rw [if_pos c1, if_pos c2] at e
            exact hi i j (by omega) (by omega) e
          · rw [if_pos c1, if_neg c2] at e
            have := hi i (j + 1) (by omega) (by omega) e
            omega
        · by_cases c2 : j < i0
          · rw [if_neg c1, if_pos c2] at e
            have := hi (i + 1) j (by omega) (by omega) e
            omega
          · rw [if_neg c1, if_neg c2] at e
            have := hi (i + 1) (j + 1) (by omega) (by omega) e
            omega)
      omega
    · have := sk_pigeon n k f (fun i hik => by
        have h1 := h i hik
        have h2 : f i ≠ n := fun e => hx ⟨i, hik, e⟩
        omega) hi
      omega
def sk_make (t : sk_Tr) (p o a L : Int32) : sk_Tr := (t.1 + 1, upd t.2.1 t.1 p, upd t.2.2.1 t.1 o, upd t.2.2.2.1 t.1 a, upd t.2.2.2.2 t.1 L)
def sk_grow1 (t : sk_Tr) (s : Nat) (a : Int32) : sk_Tr := sk_make t (t.2.1 s) (nI s) a (t.2.2.2.2 s + 1)
def sk_ext (t u : sk_Tr) : Prop := t.1 ≤ u.1 ∧ ∀ i, i < t.1 → u.2.1 i = t.2.1 i ∧ u.2.2.1 i = t.2.2.1 i ∧ u.2.2.2.1 i = t.2.2.2.1 i ∧ u.2.2.2.2 i = t.2.2.2.2 i
theorem sk_ext_refl (t : sk_Tr) : sk_ext t t := ⟨Nat.le_refl _, fun _ _ => ⟨rfl, rfl, rfl, rfl⟩⟩
theorem sk_ext_trans {t u v : sk_Tr} (h : sk_ext t u) (g : sk_ext u v) : sk_ext t v := ⟨Nat.le_trans h.1 g.1, fun i hi => by
  obtain ⟨a, b, c, d⟩ := h.2 i hi
  obtain ⟨a2, b2, c2, d2⟩ := g.2 i (Nat.lt_of_lt_of_le hi h.1)
  exact ⟨a2.trans a, b2.trans b, c2.trans c, d2.trans d⟩⟩
theorem sk_ext_make (t : sk_Tr) (p o a L : Int32) : sk_ext t (sk_make t p o a L) := ⟨Nat.le_succ _, fun i hi => ⟨pk_un (Nat.ne_of_lt hi), pk_un (Nat.ne_of_lt hi), pk_un (Nat.ne_of_lt hi), pk_un (Nat.ne_of_lt hi)⟩⟩
theorem sk_ext_nm {nO : Nat} {t u : sk_Tr} (h : sk_TO nO t) (he : sk_ext t u) : ∀ i, i < t.1 → sk_len u i = sk_len t i ∧ ∀ k, k < sk_len t i → sk_nm u i k = sk_nm t i k := by
  refine sk_ind h (fun i => sk_len u i = sk_len t i ∧ ∀ k, k < sk_len t i → sk_nm u i k = sk_nm t i k) ?_ ?_
  · intro i hi _ e
    refine ⟨by unfold sk_len; rw [(he.2 i hi).2.2.2], fun k hk => ?_⟩
    rw [sk_lenE (by omega) e] at hk
    omega
  · intro i j m a hi hj hm ha ho h1 h2 hp hl hd ih
    have hj31 : j < 2 ^ 31 := by have := sk_t31 h hi; omega
    obtain ⟨-, e2, e3, e4⟩ := he.2 i hi
    obtain ⟨-, f2, f3, f4⟩ := he.2 j (by omega)
    refine ⟨by unfold sk_len; rw [e4], fun k hk => ?_⟩
    rw [sk_lenE (by omega) h2] at hk
    by_cases hkm : k < m
    · rw [sk_nm_par hj31 hm ho h1 h2 hkm, sk_nm_par hj31 hm (e2.trans ho) (f4.trans h1) (e4.trans h2) hkm]
      exact ih.2 k (by rw [sk_lenE (by omega) h1]; exact hkm)
    · have hkm : k = m := by omega
      subst hkm
      rw [sk_nm_top hm h2, sk_nm_top hm (e4.trans h2), e3]
theorem sk_SO_ext {nO : Nat} {t u : sk_Tr} (h : sk_TO nO t) (he : sk_ext t u) {i : Nat} (hi : i < t.1) : sk_SO nO u i := by
  obtain ⟨e1, e2, e3, e4⟩ := he.2 i hi
  refine ⟨by rw [e1]; exact (h.2.2.2.2.2 i hi).1, ?_⟩
  rcases (h.2.2.2.2.2 i hi).2 with ⟨a, b⟩ | ⟨j, m, a, h1, h2, h3, h4, h5, h6, h7, h8, h9⟩
  · exact Or.inl ⟨e2.trans a, e4.trans b⟩
  · obtain ⟨f1, f2, f3, f4⟩ := he.2 j (by omega)
    refine Or.inr ⟨j, m, a, h1, h2, h3, e2.trans h4, f4.trans h5, e4.trans h6, by rw [e1, f1]; exact h7, e3.trans h8, fun k hk => ?_⟩
    rw [e3, (sk_ext_nm h he j (by omega)).2 k (by rw [sk_lenE (by omega) h5]; exact hk)]
    exact h9 k hk
theorem sk_TO_of {nO : Nat} {t u : sk_Tr} (h : sk_TO nO t) (he : sk_ext t u) (hu : u.1 ≤ 200) (hn : ∀ i, t.1 ≤ i → i < u.1 → sk_SO nO u i) : sk_TO nO u := by
  obtain ⟨h1, h2, h3, h4, h5, h6⟩ := h
  refine ⟨Nat.le_trans h1 he.1, hu, h3, ((he.2 0 (by omega)).1).trans h4, ((he.2 0 (by omega)).2.1).trans h5, fun i hi => ?_⟩
  by_cases hit : i < t.1
  · exact sk_SO_ext ⟨h1, h2, h3, h4, h5, h6⟩ he hit
  · exact hn i (by omega) hi
theorem sk_TO_mono {nO nP : Nat} {t : sk_Tr} (h : sk_TO nO t) (h1 : nO ≤ nP) (h2 : nP ≤ 60) : sk_TO nP t := by
  obtain ⟨a1, a2, a3, a4, a5, a6⟩ := h
  refine ⟨a1, a2, h2, a4, a5, fun i hi => ⟨?_, (a6 i hi).2⟩⟩
  rcases (a6 i hi).1 with e | ⟨x, hx, e⟩
  · exact Or.inl e
  · exact Or.inr ⟨x, by omega, e⟩
theorem sk_TO_child {nO : Nat} {t : sk_Tr} (h : sk_TO nO t) {s m a : Nat} (hs : s < t.1) (hn : t.1 < 200) (hm : m < 12) (hl : t.2.2.2.2 s = nI m) (ha : a < 12) (hd : ∀ k, k < m → ¬ sk_nm t s k = nI a) : sk_TO nO (sk_grow1 t s (nI a)) := by
  have he : sk_ext t (sk_grow1 t s (nI a)) := sk_ext_make t _ _ _ _
  refine sk_TO_of h he (show t.1 + 1 ≤ 200 by omega) (fun i h1 h2 => ?_)
  have h2 : i < t.1 + 1 := h2
  have hi : i = t.1 := by omega
  subst hi
  obtain ⟨f1, f2, f3, f4⟩ := he.2 s hs
  refine ⟨?_, Or.inr ⟨s, m, a, hs, hm, ha, pk_us, f4.trans hl, ?_, ?_, pk_us, fun k hk => ?_⟩⟩
  · rw [show (sk_grow1 t s (nI a)).2.1 t.1 = t.2.1 s from pk_us]
    exact (h.2.2.2.2.2 s hs).1
  · rw [show (sk_grow1 t s (nI a)).2.2.2.2 t.1 = t.2.2.2.2 s + 1 from pk_us, hl]
    exact nI_1 m
  · rw [f1]; exact pk_us
  · rw [show (sk_grow1 t s (nI a)).2.2.2.1 t.1 = nI a from pk_us, (sk_ext_nm h he s hs).2 k (by rw [sk_lenE (by omega) hl]; exact hk)]
    exact hd k hk
theorem sk_TO_empty {nO : Nat} {t : sk_Tr} (h : sk_TO nO t) {p : Int32} (hn : t.1 < 200) (hp : p = -1 ∨ ∃ x, x < nO ∧ p = nI x) : sk_TO nO (sk_make t p (-1) (-1) 0) := by
  have he : sk_ext t (sk_make t p (-1) (-1) 0) := sk_ext_make t _ _ _ _
  refine sk_TO_of h he (show t.1 + 1 ≤ 200 by omega) (fun i h1 h2 => ?_)
  have h2 : i < t.1 + 1 := h2
  have hi : i = t.1 := by omega
  subst hi
  refine ⟨?_, Or.inl ⟨pk_us, pk_us⟩⟩
  rw [show (sk_make t p (-1) (-1) 0).2.1 t.1 = p from pk_us]
  exact hp
/-! names as a list -/
def sk_names (t : sk_Tr) (s : Nat) : List Int32 := (List.range (sk_len t s)).map (sk_nm t s)
theorem sk_names_len (t : sk_Tr) (s : Nat) : (sk_names t s).length = sk_len t s := by simp [sk_names]
theorem sk_names_mem {t : sk_Tr} {s : Nat} {x : Int32} : x ∈ sk_names t s ↔ ∃ k, k < sk_len t s ∧ sk_nm t s k = x := by
  unfold sk_names
  rw [List.mem_map]
  exact ⟨fun ⟨k, h, e⟩ => ⟨k, List.mem_range.mp h, e⟩, fun ⟨k, h, e⟩ => ⟨k, List.mem_range.mpr h, e⟩⟩
theorem sk_names_get {t : sk_Tr} {s k : Nat} (h : k < sk_len t s) : (sk_names t s)[k]? = some (sk_nm t s k) := by
  unfold sk_names
  rw [List.getElem?_map, List.getElem?_range h]
  rfl
theorem sk_names_child {t : sk_Tr} {i s m : Nat} {a : Int32} (hs : s < 2 ^ 31) (hm : m < 12) (ho : t.2.2.1 i = nI s) (h1 : t.2.2.2.2 s = nI m) (h2 : t.2.2.2.2 i = nI (m + 1)) (hl : t.2.2.2.1 i = a) : sk_names t i = sk_names t s ++ [a] := by
  unfold sk_names
  rw [sk_lenE (by omega) h2, sk_lenE (by omega) h1, List.range_succ, List.map_append]
  congr 1
  · apply List.map_congr_left
    intro k hk
    exact sk_nm_par hs hm ho h1 h2 (List.mem_range.mp hk)
  · rw [List.map_cons, List.map_nil, sk_nm_top hm h2, hl]
theorem sk_names_ext {nO : Nat} {t u : sk_Tr} (h : sk_TO nO t) (he : sk_ext t u) {i : Nat} (hi : i < t.1) : sk_names u i = sk_names t i := by
  unfold sk_names
  obtain ⟨e1, e2⟩ := sk_ext_nm h he i hi
  rw [e1]
  apply List.map_congr_left
  intro k hk
  exact e2 k (List.mem_range.mp hk)
theorem sk_names_nodup {nO : Nat} {t : sk_Tr} (h : sk_TO nO t) {s : Nat} (hs : s < t.1) : (sk_names t s).Nodup := by
  refine List.pairwise_iff_getElem.mpr (fun i j hi hj hij e => ?_)
  rw [sk_names_len] at hi hj
  have e1 : (sk_names t s)[i]? = some (sk_nm t s i) := sk_names_get hi
  have e2 : (sk_names t s)[j]? = some (sk_nm t s j) := sk_names_get hj
  rw [List.getElem?_eq_getElem (by rw [sk_names_len]; exact hi)] at e1
  rw [List.getElem?_eq_getElem (by rw [sk_names_len]; exact hj)] at e2
  have := sk_nm_inj h s hs i hi j hj ((Option.some.inj e1).symm.trans (e.trans (Option.some.inj e2)))
  omega
def sk_in12 (l : List Int32) : Prop := ∀ x ∈ l, ∃ a, a < 12 ∧ x = nI a
theorem sk_names_in {nO : Nat} {t : sk_Tr} (h : sk_TO nO t) {s : Nat} (hs : s < t.1) : sk_in12 (sk_names t s) := fun x hx => by
  obtain ⟨k, hk, e⟩ := sk_names_mem.mp hx
  obtain ⟨a, ha, e2⟩ := sk_nm_in h s hs k hk
  exact ⟨a, ha, e.symm.trans e2⟩
theorem sk_len12 {l : List Int32} (hn : l.Nodup) (h : sk_in12 l) : l.length ≤ 12 := by
  refine sk_pigeon 12 l.length (fun i => (l.getD i 0).toNatClampNeg) (fun i hi => ?_) (fun i j hi hj e => ?_)
  · obtain ⟨a, ha, e⟩ := h l[i] (List.getElem_mem hi)
    try dsimp only
    rw [List.getD_eq_getElem?_getD, List.getElem?_eq_getElem hi, Option.getD_some, e, nI_clamp (by omega)]
    exact ha
  · obtain ⟨a, ha, e1⟩ := h l[i] (List.getElem_mem hi)
    obtain ⟨b, hb, e2⟩ := h l[j] (List.getElem_mem hj)
    try dsimp only at e
    rw [List.getD_eq_getElem?_getD, List.getElem?_eq_getElem hi, Option.getD_some, List.getD_eq_getElem?_getD, List.getElem?_eq_getElem hj, Option.getD_some, e1, e2, nI_clamp (by omega), nI_clamp (by omega)] at e
    have e3 : l[i] = l[j] := by rw [e1, e2, e]
    rcases Nat.lt_trichotomy i j with g | g | g
    · exact absurd e3 (List.pairwise_iff_getElem.mp hn i j hi hj g)
    · exact g
    · exact absurd e3.symm (List.pairwise_iff_getElem.mp hn j i hj hi g)
/-! searches in the tree -/
def sk_em (t : sk_Tr) (p : Int32) : Int32 := sk_ff (fun i => decide (t.2.2.1 i = -1) && decide (t.2.1 i = p)) t.1 0
def sk_wn (t : sk_Tr) (s : Nat) (a : Int32) : Int32 := sk_ff (fun i => decide (t.2.2.1 i = nI s) && decide (t.2.2.2.1 i = a)) (t.1 - (s + 1)) (s + 1)
theorem sk_em_spec (t : sk_Tr) (p : Int32) : (sk_em t p = -1 ∧ ∀ i, i < t.1 → ¬ (t.2.2.1 i = -1 ∧ t.2.1 i = p)) ∨ ∃ i, i < t.1 ∧ sk_em t p = nI i ∧ t.2.2.1 i = -1 ∧ t.2.1 i = p := by
  rcases sk_ff_spec (fun i => decide (t.2.2.1 i = -1) && decide (t.2.1 i = p)) t.1 0 with ⟨e, q⟩ | ⟨i, h1, h2, e, hp, -⟩
  · refine Or.inl ⟨e, fun i hi hx => ?_⟩
    have := q i (Nat.zero_le i) (by omega)
    simp [hx.1, hx.2] at this
  · simp only [Bool.and_eq_true, decide_eq_true_eq] at hp
    exact Or.inr ⟨i, by omega, e, hp.1, hp.2⟩
theorem sk_wn_spec {nO : Nat} {t : sk_Tr} (h : sk_TO nO t) {s : Nat} (hs : s < t.1) (a : Int32) : (sk_wn t s a = -1 ∧ ∀ i, i < t.1 → ¬ (t.2.2.1 i = nI s ∧ t.2.2.2.1 i = a)) ∨ ∃ i m, i < t.1 ∧ s < i ∧ sk_wn t s a = nI i ∧ t.2.2.1 i = nI s ∧ t.2.2.2.1 i = a ∧ m < 12 ∧ t.2.2.2.2 s = nI m ∧ t.2.2.2.2 i = nI (m + 1) ∧ t.2.1 i = t.2.1 s ∧ sk_names t i = sk_names t s ++ [a] := by
  rcases sk_ff_spec (fun i => decide (t.2.2.1 i = nI s) && decide (t.2.2.2.1 i = a)) (t.1 - (s + 1)) (s + 1) with ⟨e, q⟩ | ⟨i, h1, h2, e, hp, -⟩
  · refine Or.inl ⟨e, fun i hi hx => ?_⟩
    rcases (h.2.2.2.2.2 i hi).2 with ⟨e9, -⟩ | ⟨j, m, b, g1, g2, g3, g4, g5, g6, g7, g8, g9⟩
    · exact sk_nm1 (sk_t31 h hs) (hx.1.symm.trans e9)
    · have hj : j = s := sk_inj (by have := sk_t31 h hi; omega) (sk_t31 h hs) (g4.symm.trans hx.1)
      have := q i (by omega) (by omega)
      simp [hx.1, hx.2] at this
  · simp only [Bool.and_eq_true, decide_eq_true_eq] at hp
    have hi : i < t.1 := by omega
    rcases (h.2.2.2.2.2 i hi).2 with ⟨e9, -⟩ | ⟨j, m, b, g1, g2, g3, g4, g5, g6, g7, g8, g9⟩
    · exact absurd (hp.1.symm.trans e9) (sk_nm1 (sk_t31 h hs))
    · have hj : j = s := sk_inj (by have := sk_t31 h hi; omega) (sk_t31 h hs) (g4.symm.trans hp.1)
      subst hj
      exact Or.inr ⟨i, m, hi, g1, e, hp.1, hp.2, g2, g5, g6, g7, sk_names_child (sk_t31 h hs) g2 g4 g5 g6 hp.2⟩
def sk_down (t : sk_Tr) : Nat → List Int32 → Nat × List Int32
  | s, [] => (s, [])
  | s, a :: r => if sk_wn t s a = -1 then (s, a :: r) else sk_down t (sk_wn t s a).toNatClampNeg r
def sk_mk : sk_Tr → Nat → List Int32 → sk_Tr × Nat
  | t, s, [] => (t, s)
  | t, s, a :: r => sk_mk (sk_grow1 t s a) t.1 r
def sk_reach (t : sk_Tr) (p : Int32) (ns : List Int32) : Option (sk_Tr × Nat) :=
  if sk_em t p = -1 then (if 200 < t.1 + (1 + ns.length) then none else some (sk_mk (sk_make t p (-1) (-1) 0) t.1 ns))
  else (if 200 < t.1 + (sk_down t (sk_em t p).toNatClampNeg ns).2.length then none else some (sk_mk t (sk_down t (sk_em t p).toNatClampNeg ns).1 (sk_down t (sk_em t p).toNatClampNeg ns).2))
theorem sk_down_spec {nO : Nat} {t : sk_Tr} (h : sk_TO nO t) : ∀ (ns : List Int32) (s : Nat), s < t.1 → ∃ done, ns = done ++ (sk_down t s ns).2 ∧ (sk_down t s ns).1 < t.1 ∧ t.2.1 (sk_down t s ns).1 = t.2.1 s ∧ sk_names t (sk_down t s ns).1 = sk_names t s ++ done
  | [], s, hs => ⟨[], rfl, hs, rfl, by rw [List.append_nil]; rfl⟩
  | a :: r, s, hs => by
    by_cases hw : sk_wn t s a = -1
    · have e : sk_down t s (a :: r) = (s, a :: r) := by rw [sk_down, if_pos hw]
      rw [e]
      exact ⟨[], rfl, hs, rfl, by rw [List.append_nil]⟩
    · rcases sk_wn_spec h hs a with ⟨e, -⟩ | ⟨i, m, hi, hsi, e, ho, hl, hm, h1, h2, hp, hn⟩
      · exact absurd e hw
      · have e2 : sk_down t s (a :: r) = sk_down t i r := by rw [sk_down, if_neg hw, e, nI_clamp (sk_t31 h hi)]
        rw [e2]
        obtain ⟨done, d1, d2, d3, d4⟩ := sk_down_spec h r i hi
        exact ⟨a :: done, by rw [List.cons_append, ← d1], d2, d3.trans hp, by rw [d4, hn, List.append_assoc]; rfl⟩
theorem sk_mk_spec {nO : Nat} : ∀ (ns : List Int32) (t : sk_Tr) (s : Nat), sk_TO nO t → s < t.1 → t.1 + ns.length ≤ 200 → (sk_names t s ++ ns).Nodup → sk_in12 (sk_names t s ++ ns) →
    sk_TO nO (sk_mk t s ns).1 ∧ sk_ext t (sk_mk t s ns).1 ∧ (sk_mk t s ns).2 < (sk_mk t s ns).1.1 ∧ (sk_mk t s ns).1.1 = t.1 + ns.length ∧ (sk_mk t s ns).1.2.1 (sk_mk t s ns).2 = t.2.1 s ∧ sk_names (sk_mk t s ns).1 (sk_mk t s ns).2 = sk_names t s ++ ns
  | [], t, s, h, hs, _, _, _ => ⟨h, sk_ext_refl t, hs, rfl, rfl, by rw [List.append_nil]; rfl⟩
  | a :: r, t, s, h, hs, hn, hd, hi => by
    have hlen : (sk_names t s ++ a :: r).length ≤ 12 := sk_len12 hd hi
    rw [List.length_append, sk_names_len, List.length_cons] at hlen
    rw [List.length_cons] at hn
    obtain ⟨m, hm, hl, hlm⟩ := sk_lenOk h hs
    obtain ⟨b, hb, eb⟩ := hi a (by simp)
    have hnot : ∀ k, k < m → ¬ sk_nm t s k = nI b := fun k hk e => by
      have h1 : a ∈ sk_names t s := sk_names_mem.mpr ⟨k, by rw [hlm]; exact hk, by rw [e, eb]⟩
      exact (List.nodup_append.mp hd).2.2 a h1 a (by simp) rfl
    have hT : sk_TO nO (sk_grow1 t s a) := by rw [eb]; exact sk_TO_child h hs (by omega) (by omega) hl hb hnot
    have he : sk_ext t (sk_grow1 t s a) := sk_ext_make t _ _ _ _
    have hnames : sk_names (sk_grow1 t s a) t.1 = sk_names t s ++ [a] := by
      rw [sk_names_child (t := sk_grow1 t s a) (i := t.1) (s := s) (m := m) (a := a) (sk_t31 h hs) (by omega) pk_us (((he.2 s hs).2.2.2).trans hl) (by rw [show (sk_grow1 t s a).2.2.2.2 t.1 = t.2.2.2.2 s + 1 from pk_us, hl]; exact nI_1 m) pk_us, sk_names_ext h he hs]
    obtain ⟨q1, q2, q3, q4, q5, q6⟩ := sk_mk_spec r (sk_grow1 t s a) t.1 hT (Nat.lt_succ_self _) (show t.1 + 1 + r.length ≤ 200 by omega) (by rw [hnames, List.append_assoc]; exact hd) (by rw [hnames, List.append_assoc]; exact hi)
    refine ⟨q1, sk_ext_trans he q2, q3, ?_, ?_, ?_⟩
    · refine q4.trans ?_
      show t.1 + 1 + r.length = t.1 + (r.length + 1)
      omega
    · exact q5.trans (show (sk_grow1 t s a).2.1 t.1 = t.2.1 s from pk_us)
    · refine q6.trans ?_
      rw [hnames, List.append_assoc]; rfl
theorem sk_reach_spec {nO : Nat} {t : sk_Tr} (h : sk_TO nO t) {p : Int32} (hp : p = -1 ∨ ∃ x, x < nO ∧ p = nI x) {ns : List Int32} (hd : ns.Nodup) (hi : sk_in12 ns) {u : sk_Tr} {r : Nat} (e : sk_reach t p ns = some (u, r)) :
    sk_TO nO u ∧ sk_ext t u ∧ r < u.1 ∧ u.2.1 r = p ∧ sk_names u r = ns := by
  unfold sk_reach at e
  by_cases hm : sk_em t p = -1
  · rw [if_pos hm] at e
    by_cases hn : 200 < t.1 + (1 + ns.length)
    · rw [if_pos hn] at e; cases e
    · rw [if_neg hn] at e
      have hT := sk_TO_empty h (by omega) hp
      have he : sk_ext t (sk_make t p (-1) (-1) 0) := sk_ext_make t _ _ _ _
      have hnames : sk_names (sk_make t p (-1) (-1) 0) t.1 = [] := by
        unfold sk_names
        rw [sk_lenE (t := sk_make t p (-1) (-1) 0) (m := 0) (by omega) pk_us]; rfl
      obtain ⟨q1, q2, q3, q4, q5, q6⟩ := sk_mk_spec ns (sk_make t p (-1) (-1) 0) t.1 hT (Nat.lt_succ_self _) (show t.1 + 1 + ns.length ≤ 200 by omega) (by rw [hnames]; exact hd) (by rw [hnames]; exact hi)
      rw [Option.some.inj e] at q1 q2 q3 q4 q5 q6
      exact ⟨q1, sk_ext_trans he q2, q3, q5.trans pk_us, by rw [q6, hnames]; rfl⟩
  · rw [if_neg hm] at e
    rcases sk_em_spec t p with ⟨e9, -⟩ | ⟨i, hit, e9, ho, hpi⟩
    · exact absurd e9 hm
    · rw [e9, nI_clamp (sk_t31 h hit)] at e
      by_cases hn : 200 < t.1 + (sk_down t i ns).2.length
      · rw [if_pos hn] at e; cases e
      · rw [if_neg hn] at e
        obtain ⟨done, d1, d2, d3, d4⟩ := sk_down_spec h ns i hit
        have hnames : sk_names t i = [] := by
          rcases (h.2.2.2.2.2 i hit).2 with ⟨-, e0⟩ | ⟨j, m, b, g1, g2, g3, g4, g5⟩
          · unfold sk_names; rw [sk_lenE (by omega) e0]; rfl
          · exact absurd (g4.symm.trans ho) (sk_nm1 (by have := sk_t31 h hit; omega))
        rw [hnames, List.nil_append] at d4
        obtain ⟨q1, q2, q3, q4, q5, q6⟩ := sk_mk_spec (sk_down t i ns).2 t (sk_down t i ns).1 h d2 (by omega) (by rw [d4, ← d1]; exact hd) (by rw [d4, ← d1]; exact hi)
        rw [Option.some.inj e] at q1 q2 q3 q4 q5 q6
        exact ⟨q1, q2, q3, (q5.trans d3).trans hpi, by rw [q6, d4, ← d1]⟩
end
section
/-! the objects above: chains of prototypes -/
def sk_v (n : Nat) (a : Int32) : Prop := a = -1 ∨ ∃ x, x < n ∧ a = nI x
def sk_vp (n : Nat) (op : sk_F) : Prop := ∀ x, x < n → sk_v n (op x)
def sk_ch (op : sk_F) : Nat → Int32 → List Nat
  | 0, _ => []
  | k + 1, a => if a = -1 then [] else a.toNatClampNeg :: sk_ch op k (op a.toNatClampNeg)
/-- the chain ends within k steps -/
def sk_dp (op : sk_F) : Nat → Int32 → Prop
  | 0, a => a = -1
  | k + 1, a => a = -1 ∨ sk_dp op k (op a.toNatClampNeg)
theorem sk_dp_m1 (op : sk_F) : ∀ k, sk_dp op k (-1)
  | 0 => rfl
  | _ + 1 => Or.inl rfl
theorem sk_ch_m1 (op : sk_F) : ∀ k, sk_ch op k (-1) = []
  | 0 => rfl
  | _ + 1 => if_pos rfl
theorem sk_dp_mono {op : sk_F} : ∀ (k : Nat) (a : Int32), sk_dp op k a → sk_dp op (k + 1) a
  | 0, _, h => Or.inl h
  | _ + 1, _, Or.inl h => Or.inl h
  | k + 1, _, Or.inr h => Or.inr (sk_dp_mono k _ h)
theorem sk_dp_add {op : sk_F} {k : Nat} {a : Int32} (h : sk_dp op k a) : ∀ d, sk_dp op (k + d) a
  | 0 => h
  | d + 1 => sk_dp_mono _ _ (sk_dp_add h d)
theorem sk_dp_le {op : sk_F} {k g : Nat} {a : Int32} (h : sk_dp op k a) (hg : k ≤ g) : sk_dp op g a := by
  have := sk_dp_add h (g - k)
  rwa [show k + (g - k) = g by omega] at this
theorem sk_ch_stable {op : sk_F} : ∀ (k : Nat) (a : Int32), sk_dp op k a → ∀ d, sk_ch op (k + d) a = sk_ch op k a
  | 0, a, h, d => by
    have h : a = -1 := h
    rw [h, sk_ch_m1, sk_ch_m1]
  | k + 1, a, h, d => by
    rw [show k + 1 + d = (k + d) + 1 by omega]
    show (if a = -1 then [] else a.toNatClampNeg :: sk_ch op (k + d) (op a.toNatClampNeg)) = (if a = -1 then [] else a.toNatClampNeg :: sk_ch op k (op a.toNatClampNeg))
    by_cases ha : a = -1
    · rw [if_pos ha, if_pos ha]
    · rcases h with h | h
      · exact absurd h ha
      · rw [if_neg ha, if_neg ha, sk_ch_stable k _ h d]
theorem sk_ch_le {op : sk_F} {k g : Nat} {a : Int32} (h : sk_dp op k a) (hg : k ≤ g) : sk_ch op g a = sk_ch op k a := by
  have := sk_ch_stable k a h (g - k)
  rwa [show k + (g - k) = g by omega] at this
theorem sk_ch_len {op : sk_F} : ∀ (k : Nat) (a : Int32), (sk_ch op k a).length ≤ k
  | 0, _ => Nat.le_refl _
  | k + 1, a => by
    show (if a = -1 then [] else a.toNatClampNeg :: sk_ch op k (op a.toNatClampNeg)).length ≤ _
    by_cases ha : a = -1
    · rw [if_pos ha]; exact Nat.zero_le _
    · rw [if_neg ha, List.length_cons]
      have := sk_ch_len (op := op) k (op a.toNatClampNeg)
      omega
theorem sk_ch_s {op : sk_F} {k : Nat} {a : Int32} (ha : ¬ a = -1) : sk_ch op (k + 1) a = a.toNatClampNeg :: sk_ch op k (op a.toNatClampNeg) := if_neg ha
theorem sk_dp_s {op : sk_F} {k : Nat} {a : Int32} (ha : ¬ a = -1) (h : sk_dp op (k + 1) a) : sk_dp op k (op a.toNatClampNeg) := h.resolve_left ha
theorem sk_ch_lt {n : Nat} {op : sk_F} (hn : n ≤ 60) (hv : sk_vp n op) : ∀ (k : Nat) (a : Int32), sk_v n a → ∀ y ∈ sk_ch op k a, y < n
  | 0, _, _, _, h => by cases h
  | k + 1, a, ha, y, hy => by
    rcases ha with e | ⟨x, hx, e⟩
    · rw [e, sk_ch_m1] at hy; cases hy
    · subst e
      rw [sk_ch_s (sk_nm1 (by omega)), nI_clamp (by omega)] at hy
      rcases List.mem_cons.mp hy with h | h
      · rw [h]; exact hx
      · exact sk_ch_lt hn hv k _ (hv x hx) y h
theorem sk_dp_len {op : sk_F} : ∀ (k : Nat) (a : Int32), sk_dp op k a → sk_dp op (sk_ch op k a).length a
  | 0, _, h => h
  | k + 1, a, h => by
    by_cases ha : a = -1
    · rw [ha]; exact sk_dp_m1 op _
    · rw [sk_ch_s ha, List.length_cons]
      exact Or.inr (sk_dp_len k _ (sk_dp_s ha h))
theorem sk_ch_in {n : Nat} {op : sk_F} (hn : n ≤ 60) (hv : sk_vp n op) : ∀ (k : Nat) (a : Int32), sk_dp op k a → sk_v n a → ∀ y ∈ sk_ch op k a, sk_dp op k (nI y) ∧ (sk_ch op k (nI y)).length ≤ (sk_ch op k a).length
  | 0, _, _, _, _, h => by cases h
  | k + 1, a, hd, ha, y, hy => by
    rcases ha with e | ⟨x, hx, e⟩
    · rw [e, sk_ch_m1] at hy; cases hy
    · subst e
      have hne := sk_nm1 (show x < 2 ^ 31 by omega)
      have hd1 := sk_dp_s hne hd
      rw [nI_clamp (by omega)] at hd1
      rw [sk_ch_s hne, nI_clamp (by omega)] at hy
      rcases List.mem_cons.mp hy with h | h
      · subst h
        exact ⟨hd, Nat.le_refl _⟩
      · obtain ⟨q1, q2⟩ := sk_ch_in hn hv k _ hd1 (hv x hx) y h
        refine ⟨sk_dp_mono _ _ q1, ?_⟩
        rw [sk_ch_le q1 (Nat.le_succ k), sk_ch_s hne, nI_clamp (by omega), List.length_cons]
        omega
theorem sk_ch_nodup {n : Nat} {op : sk_F} (hn : n ≤ 60) (hv : sk_vp n op) : ∀ (k : Nat) (a : Int32), sk_dp op k a → sk_v n a → (sk_ch op k a).Nodup
  | 0, _, _, _ => List.Pairwise.nil
  | k + 1, a, hd, ha => by
    rcases ha with e | ⟨x, hx, e⟩
    · rw [e, sk_ch_m1]; exact List.Pairwise.nil
    · subst e
      have hne := sk_nm1 (show x < 2 ^ 31 by omega)
      have hd1 := sk_dp_s hne hd
      rw [nI_clamp (by omega)] at hd1
      have e1 : sk_ch op (k + 1) (nI x) = x :: sk_ch op k (op x) := by rw [sk_ch_s hne, nI_clamp (by omega)]
      rw [e1]
      refine List.nodup_cons.mpr ⟨fun h => ?_, sk_ch_nodup hn hv k _ hd1 (hv x hx)⟩
      obtain ⟨q1, q2⟩ := sk_ch_in hn hv k _ hd1 (hv x hx) x h
      rw [← sk_ch_le q1 (Nat.le_succ k), e1, List.length_cons] at q2
      omega
theorem sk_nd_len {n : Nat} {l : List Nat} (hd : l.Nodup) (h : ∀ y ∈ l, y < n) : l.length ≤ n := by
  refine sk_pigeon n l.length (fun i => l.getD i 0) (fun i hi => ?_) (fun i j hi hj e => ?_)
  · try dsimp only
    rw [List.getD_eq_getElem?_getD, List.getElem?_eq_getElem hi, Option.getD_some]
    exact h _ (List.getElem_mem hi)
  · try dsimp only at e
    rw [List.getD_eq_getElem?_getD, List.getElem?_eq_getElem hi, Option.getD_some, List.getD_eq_getElem?_getD, List.getElem?_eq_getElem hj, Option.getD_some] at e
    rcases Nat.lt_trichotomy i j with g | g | g
    · exact absurd e (List.pairwise_iff_getElem.mp hd i j hi hj g)
    · exact g
    · exact absurd e.symm (List.pairwise_iff_getElem.mp hd j i hj hi g)
theorem sk_dp_bound {n : Nat} {op : sk_F} (hn : n ≤ 60) (hv : sk_vp n op) {k : Nat} {a : Int32} (hd : sk_dp op k a) (ha : sk_v n a) : sk_dp op n a :=
  sk_dp_le (sk_dp_len k a hd) (sk_nd_len (sk_ch_nodup hn hv k a hd ha) (sk_ch_lt hn hv k a ha))
/-- no object is above itself -/
def sk_AC (n : Nat) (op : sk_F) : Prop := n ≤ 60 ∧ sk_vp n op ∧ ∀ a, sk_v n a → sk_dp op n a
def sk_abv (op : sk_F) (a : Int32) : List Nat := sk_ch op 60 a
theorem sk_abv_m1 (op : sk_F) : sk_abv op (-1) = [] := sk_ch_m1 op 60
theorem sk_abv_s {n : Nat} {op : sk_F} (h : sk_AC n op) {x : Nat} (hx : x < n) : sk_abv op (nI x) = x :: sk_abv op (op x) := by
  obtain ⟨hn, hv, hd⟩ := h
  have hne := sk_nm1 (show x < 2 ^ 31 by omega)
  have h1 : sk_dp op (59 + 1) (nI x) := sk_dp_le (hd _ (Or.inr ⟨x, hx, rfl⟩)) hn
  have h2 := sk_dp_s hne h1
  rw [nI_clamp (by omega)] at h2
  unfold sk_abv
  rw [show (60 : Nat) = 59 + 1 from rfl, sk_ch_s hne, nI_clamp (by omega), sk_ch_le h2 (Nat.le_succ 59)]
theorem sk_abv_lt {n : Nat} {op : sk_F} (h : sk_AC n op) {a : Int32} (ha : sk_v n a) : ∀ y ∈ sk_abv op a, y < n := sk_ch_lt h.1 h.2.1 60 a ha
theorem sk_abv_nodup {n : Nat} {op : sk_F} (h : sk_AC n op) {a : Int32} (ha : sk_v n a) : (sk_abv op a).Nodup := sk_ch_nodup h.1 h.2.1 60 a (sk_dp_le (h.2.2 a ha) h.1) ha
theorem sk_abv_len (op : sk_F) (a : Int32) : (sk_abv op a).length ≤ 60 := sk_ch_len 60 a
theorem sk_ac_ind {n : Nat} {op : sk_F} (h : sk_AC n op) (P : Int32 → Prop) (h0 : P (-1)) (hs : ∀ x, x < n → P (op x) → P (nI x)) : ∀ a, sk_v n a → P a := by
  have key : ∀ (k : Nat) (a : Int32), sk_dp op k a → sk_v n a → P a := by
    intro k
    induction k with
    | zero => intro a hd _; rw [show a = -1 from hd]; exact h0
    | succ k ih =>
      intro a hd ha
      rcases ha with e | ⟨x, hx, e⟩
      · rw [e]; exact h0
      · subst e
        have h1 := sk_dp_s (sk_nm1 (show x < 2 ^ 31 by have := h.1; omega)) hd
        rw [nI_clamp (by have := h.1; omega)] at h1
        exact hs x hx (ih _ h1 (h.2.1 x hx))
  exact fun a ha => key n a (h.2.2 a ha) ha
/-- a prototype is turned; or one more object -/
theorem sk_ch_upd {op : sk_F} {o : Nat} {p : Int32} : ∀ (k : Nat) (a : Int32), o ∉ sk_ch op k a → sk_dp op k a → sk_ch (upd op o p) k a = sk_ch op k a ∧ sk_dp (upd op o p) k a
  | 0, _, _, h => ⟨rfl, h⟩
  | k + 1, a, ho, h => by
    by_cases ha : a = -1
    · rw [ha]; exact ⟨by rw [sk_ch_m1, sk_ch_m1], sk_dp_m1 _ _⟩
    · rw [sk_ch_s ha] at ho
      have hne : a.toNatClampNeg ≠ o := fun e => ho (by rw [e]; exact List.mem_cons_self)
      have hin : o ∉ sk_ch op k (op a.toNatClampNeg) := fun q => ho (List.mem_cons_of_mem _ q)
      obtain ⟨q1, q2⟩ := sk_ch_upd (p := p) k _ hin (sk_dp_s ha h)
      refine ⟨?_, Or.inr ?_⟩
      · rw [sk_ch_s ha, sk_ch_s ha, pk_un hne, q1]
      · rw [pk_un hne]; exact q2
theorem sk_AC_turn {n : Nat} {op : sk_F} (h : sk_AC n op) {o : Nat} {p : Int32} (ho : o < n) (hp : sk_v n p) (hx : o ∉ sk_abv op p) : sk_AC n (upd op o p) := by
  obtain ⟨hn, hv, hd⟩ := id h
  have hv2 : sk_vp n (upd op o p) := fun x hxn => by
    by_cases e : x = o
    · subst e; rw [pk_us]; exact hp
    · rw [pk_un e]; exact hv x hxn
  have hp2 : sk_dp (upd op o p) 60 p := (sk_ch_upd 60 p hx (sk_dp_le (hd p hp) hn)).2
  have key : ∀ (k : Nat) (a : Int32), sk_dp op k a → sk_dp (upd op o p) (k + 61) a := by
    intro k
    induction k with
    | zero => intro a q; rw [show a = -1 from q]; exact sk_dp_m1 _ _
    | succ k ih =>
      intro a q
      by_cases ha : a = -1
      · rw [ha]; exact sk_dp_m1 _ _
      · rw [show k + 1 + 61 = (k + 61) + 1 by omega]
        refine Or.inr ?_
        by_cases e : a.toNatClampNeg = o
        · rw [e, pk_us]
          exact sk_dp_le hp2 (by omega)
        · rw [pk_un e]
          exact ih _ (sk_dp_s ha q)
  exact ⟨hn, hv2, fun a ha => sk_dp_bound hn hv2 (key n a (hd a ha)) ha⟩
theorem sk_v_mono {n g : Nat} {a : Int32} (h : sk_v n a) (hg : n ≤ g) : sk_v g a := by
  rcases h with e | ⟨x, hx, e⟩
  · exact Or.inl e
  · exact Or.inr ⟨x, by omega, e⟩
theorem sk_AC_more {n : Nat} {op : sk_F} (h : sk_AC n op) (hn1 : n < 60) {p : Int32} (hp : sk_v n p) : sk_AC (n + 1) (upd op n p) := by
  obtain ⟨hn, hv, hd⟩ := id h
  have hnot : ∀ a, sk_v n a → n ∉ sk_ch op n a := fun a ha q => absurd (sk_ch_lt hn hv n a ha n q) (Nat.lt_irrefl n)
  have hv2 : sk_vp (n + 1) (upd op n p) := fun x hxn => by
    by_cases e : x = n
    · subst e; rw [pk_us]; exact sk_v_mono hp (by omega)
    · rw [pk_un e]; exact sk_v_mono (hv x (by omega)) (by omega)
  refine ⟨by omega, hv2, fun a ha => ?_⟩
  rcases ha with e | ⟨x, hx, e⟩
  · rw [e]; exact sk_dp_m1 _ _
  · by_cases hxn : x = n
    · subst hxn
      subst e
      refine Or.inr ?_
      rw [nI_clamp (by omega), pk_us]
      exact (sk_ch_upd x p (hnot p hp) (hd p hp)).2
    · have ha : sk_v n a := Or.inr ⟨x, by omega, e⟩
      exact sk_dp_mono _ _ (sk_ch_upd n a (hnot a ha) (hd a ha)).2
/-- the nearest of a list -/
def sk_nw (own : Nat → Bool) : List Nat → Int32
  | [] => -1
  | x :: r => if own x = true then nI x else sk_nw own r
/-- a list up to one of its own -/
def sk_upto (own : Nat → Bool) : List Nat → List Nat
  | [] => []
  | x :: r => if own x = true then [x] else x :: sk_upto own r
theorem sk_nw_spec (own : Nat → Bool) : ∀ l : List Nat, (sk_nw own l = -1 ∧ (∀ x ∈ l, own x = false) ∧ sk_upto own l = l) ∨ ∃ x, x ∈ l ∧ sk_nw own l = nI x ∧ own x = true ∧ x ∈ sk_upto own l
  | [] => Or.inl ⟨rfl, (fun _ h => by cases h), rfl⟩
  | y :: r => by
    by_cases h : own y = true
    · exact Or.inr ⟨y, List.mem_cons_self, if_pos h, h, by rw [sk_upto, if_pos h]; exact List.mem_cons_self⟩
    · have hf : own y = false := by cases hp : own y <;> simp_all
      have e1 : sk_nw own (y :: r) = sk_nw own r := if_neg h
      have e2 : sk_upto own (y :: r) = y :: sk_upto own r := if_neg h
      rw [e1, e2]
      rcases sk_nw_spec own r with ⟨a, b, c⟩ | ⟨x, hx, a, b, c⟩
      · refine Or.inl ⟨a, fun x hx => ?_, by rw [c]⟩
        rcases List.mem_cons.mp hx with g | g
        · rw [g]; exact hf
        · exact b x g
      · exact Or.inr ⟨x, List.mem_cons_of_mem _ hx, a, b, List.mem_cons_of_mem _ c⟩
theorem sk_upto_sub (own : Nat → Bool) : ∀ l : List Nat, ∀ x ∈ sk_upto own l, x ∈ l
  | [], _, h => h
  | y :: r, x, h => by
    by_cases ho : own y = true
    · rw [sk_upto, if_pos ho] at h
      rw [List.mem_singleton.mp h]; exact List.mem_cons_self
    · rw [sk_upto, if_neg ho] at h
      rcases List.mem_cons.mp h with g | g
      · rw [g]; exact List.mem_cons_self
      · exact List.mem_cons_of_mem _ (sk_upto_sub own r x g)
end
section
/-! ===== lN n to 2^64: shifts, and, or, masks, one bit ===== -/
theorem wb_tb (n : Nat) : (lN n).toBitVec = BitVec.ofNat 64 n := rfl
theorem wb_inj {a b : Int64} (h : a.toBitVec = b.toBitVec) : a = b := Int64.toBitVec_inj.mp h
theorem wb_tn {n : Nat} (h : n < 2 ^ 64) : (lN n).toBitVec.toNat = n := by rw [wb_tb, BitVec.toNat_ofNat, Nat.mod_eq_of_lt h]
theorem wb_of (x : Int64) : ∃ n, n < 2 ^ 64 ∧ x = lN n := ⟨x.toBitVec.toNat, x.toBitVec.isLt, wb_inj (by rw [wb_tb]; simp)⟩
theorem wb_of32 (x : Int32) : ∃ n, n < 2 ^ 32 ∧ x = nI n := ⟨x.toBitVec.toNat, x.toBitVec.isLt, Int32.toBitVec_inj.mp (by show _ = BitVec.ofNat 32 _; simp)⟩
theorem wb_c : ∀ k, k < 64 → ((nI k).toInt64 &&& 63) = lN k := by decide +kernel
theorem wb_cu : ∀ k, k < 64 → ((nI k).toInt64.toUInt64 &&& Int64.toUInt64 63) = UInt64.ofNat k := by decide +kernel
theorem wb_sm : ∀ k, k < 64 → (BitVec.ofNat 64 k).smod 64 = BitVec.ofNat 64 k := by decide +kernel
theorem wb_pw {a b : Nat} (h : a ≤ b) : 2 ^ b = 2 ^ a * 2 ^ (b - a) := by rw [← Nat.pow_add]; congr 1; omega
theorem wb_lt2 {a b : Nat} (h : a < b) : 2 ^ a < 2 ^ b := Nat.pow_lt_pow_right (by decide) h
theorem wb_mod (n : Nat) : lN n = lN (n % 2 ^ 64) := wb_inj (by rw [wb_tb, wb_tb]; apply BitVec.eq_of_toNat_eq; rw [BitVec.toNat_ofNat, BitVec.toNat_ofNat, Nat.mod_mod])
theorem wb_shr {n k : Nat} (hn : n < 2 ^ 64) (hk : k < 64) : ((lN n).toUInt64 >>> ((nI k).toInt64.toUInt64 &&& Int64.toUInt64 63)).toInt64 = lN (n / 2 ^ k) := by
  rw [wb_cu k hk]
  apply wb_inj
  apply BitVec.eq_of_toNat_eq
  show ((lN n).toUInt64 >>> UInt64.ofNat k).toNat = (BitVec.ofNat 64 _).toNat
  have h1 : (UInt64.ofNat k).toNat = k := by
    show (BitVec.ofNat 64 k).toNat = k
    rw [BitVec.toNat_ofNat, Nat.mod_eq_of_lt (by omega)]
  have h2 : (lN n).toUInt64.toNat = n := wb_tn hn
  rw [UInt64.toNat_shiftRight, h1, h2, Nat.mod_eq_of_lt hk, Nat.shiftRight_eq_div_pow, BitVec.toNat_ofNat, Nat.mod_eq_of_lt (Nat.lt_of_le_of_lt (Nat.div_le_self _ _) hn)]
theorem wb_shl (n : Nat) {k : Nat} (hk : k < 64) : lN n <<< ((nI k).toInt64 &&& 63) = lN (n * 2 ^ k) := by
  rw [wb_c k hk]
  apply wb_inj
  rw [Int64.toBitVec_shiftLeft, wb_tb, wb_tb, wb_tb, wb_sm k hk]
  apply BitVec.eq_of_toNat_eq
  rw [BitVec.shiftLeft_eq', BitVec.toNat_shiftLeft, BitVec.toNat_ofNat, BitVec.toNat_ofNat, BitVec.toNat_ofNat, Nat.mod_eq_of_lt (show k < 2 ^ 64 by omega), Nat.shiftLeft_eq, Nat.mul_mod, Nat.mod_mod, ← Nat.mul_mod]
theorem wb_and {a b : Nat} (ha : a < 2 ^ 64) (hb : b < 2 ^ 64) : lN a &&& lN b = lN (a &&& b) := by
  apply wb_inj
  rw [Int64.toBitVec_and, wb_tb, wb_tb, wb_tb]
  apply BitVec.eq_of_toNat_eq
  rw [BitVec.toNat_and, BitVec.toNat_ofNat, BitVec.toNat_ofNat, BitVec.toNat_ofNat, Nat.mod_eq_of_lt ha, Nat.mod_eq_of_lt hb, Nat.mod_eq_of_lt (Nat.and_lt_two_pow _ hb)]
theorem wb_or {a b : Nat} (ha : a < 2 ^ 64) (hb : b < 2 ^ 64) : lN a ||| lN b = lN (a ||| b) := by
  apply wb_inj
  rw [Int64.toBitVec_or, wb_tb, wb_tb, wb_tb]
  apply BitVec.eq_of_toNat_eq
  rw [BitVec.toNat_or, BitVec.toNat_ofNat, BitVec.toNat_ofNat, BitVec.toNat_ofNat, Nat.mod_eq_of_lt ha, Nat.mod_eq_of_lt hb, Nat.mod_eq_of_lt (Nat.or_lt_two_pow ha hb)]
theorem wb_mask {n k : Nat} (hn : n < 2 ^ 64) (hk : k < 64) : lN n &&& lN (2 ^ k - 1) = lN (n % 2 ^ k) := by
  rw [wb_and hn (by have := wb_lt2 hk; omega), Nat.and_two_pow_sub_one_eq_mod]
theorem wb_a1 {n : Nat} (hn : n < 2 ^ 64) : lN n &&& 1 = lN (n % 2) := wb_mask (k := 1) hn (by decide)
theorem wb_bit {n k : Nat} (hn : n < 2 ^ 64) (hk : k < 64) : ((lN n).toUInt64 >>> ((nI k).toInt64.toUInt64 &&& Int64.toUInt64 63)).toInt64 &&& 1 = lN (n / 2 ^ k % 2) := by
  rw [wb_shr hn hk, wb_a1 (Nat.lt_of_le_of_lt (Nat.div_le_self _ _) hn)]
/-! a set of numbers under 64 as bits; how many they are -/
def sk_nb : List Nat → Nat
  | [] => 0
  | x :: r => sk_nb r ||| 2 ^ x
theorem sk_nb_bit : ∀ (l : List Nat) (j : Nat), (sk_nb l).testBit j = decide (j ∈ l)
  | [], j => by simp [sk_nb]
  | x :: r, j => by
    rw [sk_nb, Nat.testBit_or, sk_nb_bit r j, Nat.testBit_two_pow]
    by_cases h1 : j ∈ r
    · simp [h1]
    · by_cases h2 : x = j
      · subst h2; simp
      · simp [h1, h2, Ne.symm h2, show ¬ j = x from fun e => h2 e.symm]
theorem sk_nb_lt : ∀ l : List Nat, (∀ x ∈ l, x < 64) → sk_nb l < 2 ^ 64
  | [], _ => by simp [sk_nb]
  | x :: r, h => by
    rw [sk_nb]
    exact Nat.or_lt_two_pow (sk_nb_lt r (fun y hy => h y (List.mem_cons_of_mem _ hy))) (wb_lt2 (h x List.mem_cons_self))
def sk_M (m : Nat) : Nat → Nat
  | 0 => 0
  | k + 1 => 2 ^ 8 * sk_M m k + m
theorem sk_Ms (m k : Nat) : sk_M m (k + 1) = 2 ^ 8 * sk_M m k + m := rfl
theorem sk_land8 {a m : Nat} (w M : Nat) (ha : a < 2 ^ 8) (hm : m < 2 ^ 8) : (2 ^ 8 * w + a) &&& (2 ^ 8 * M + m) = 2 ^ 8 * (w &&& M) + (a &&& m) := by
  apply Nat.eq_of_testBit_eq
  intro j
  rw [Nat.testBit_and, Nat.testBit_two_pow_mul_add _ ha, Nat.testBit_two_pow_mul_add _ hm, Nat.testBit_two_pow_mul_add _ (Nat.and_lt_two_pow _ hm)]
  by_cases h : j < 8
  · rw [if_pos h, if_pos h, if_pos h, Nat.testBit_and]
  · rw [if_neg h, if_neg h, if_neg h, Nat.testBit_and]
def sk_s1 (a : Nat) : Nat := a - (a / 2 &&& 85)
def sk_s2 (a : Nat) : Nat := (a &&& 51) + (a / 4 &&& 51)
def sk_s3 (a : Nat) : Nat := (a + a / 16) &&& 15
def sk_pb (a : Nat) : Nat := sk_s3 (sk_s2 (sk_s1 a))
def sk_S1 (k v : Nat) : Nat := v - (v / 2 &&& sk_M 85 k)
def sk_S2 (k v : Nat) : Nat := (v &&& sk_M 51 k) + (v / 4 &&& sk_M 51 k)
def sk_S3 (k v : Nat) : Nat := (v + v / 16) &&& sk_M 15 k
theorem sk_d1 : ∀ a, a < 256 → ∀ e, e < 2 → (128 * e + a / 2) &&& 85 = a / 2 &&& 85 := by decide +kernel
theorem sk_d2 : ∀ a, a < 256 → ∀ e, e < 4 → (64 * e + a / 4) &&& 51 = a / 4 &&& 51 := by decide +kernel
theorem sk_d3 : ∀ a, a < 69 → ∀ e, e < 5 → (a + a / 16 + 16 * e) &&& 15 = (a + a / 16) &&& 15 := by decide +kernel
theorem sk_d4 : ∀ b, b < 256 → sk_s1 b < 256 ∧ (b / 2 &&& 85) ≤ b ∧ sk_s2 (sk_s1 b) < 69 ∧ sk_s2 (sk_s1 b) % 16 < 5 ∧ sk_pb b < 9 := by decide +kernel
theorem sk_S1s (k w a : Nat) (ha : a < 256) : sk_S1 (k + 1) (2 ^ 8 * w + a) = 2 ^ 8 * sk_S1 k w + sk_s1 a := by
  unfold sk_S1 sk_s1
  rw [sk_Ms]
  have e : (2 ^ 8 * w + a) / 2 = 2 ^ 8 * (w / 2) + (128 * (w % 2) + a / 2) := by omega
  rw [e, sk_land8 _ _ (by omega) (by decide), sk_d1 a ha _ (Nat.mod_lt _ (by decide))]
  have h1 : (w / 2 &&& sk_M 85 k) ≤ w / 2 := Nat.and_le_left
  have h2 := (sk_d4 a ha).2.1
  omega
theorem sk_S2s (k w a : Nat) (ha : a < 256) : sk_S2 (k + 1) (2 ^ 8 * w + a) = 2 ^ 8 * sk_S2 k w + sk_s2 a := by
  unfold sk_S2 sk_s2
  rw [sk_Ms]
  have e : (2 ^ 8 * w + a) / 4 = 2 ^ 8 * (w / 4) + (64 * (w % 4) + a / 4) := by omega
  rw [e, sk_land8 (a := a) w _ ha (by decide), sk_land8 (w / 4) _ (by omega) (by decide), sk_d2 a ha _ (Nat.mod_lt _ (by decide))]
  omega
theorem sk_S3s (k w a : Nat) (ha : a < 69) (hw : w % 16 < 5) : sk_S3 (k + 1) (2 ^ 8 * w + a) = 2 ^ 8 * sk_S3 k w + sk_s3 a := by
  unfold sk_S3 sk_s3
  rw [sk_Ms]
  have e : (2 ^ 8 * w + a) + (2 ^ 8 * w + a) / 16 = 2 ^ 8 * (w + w / 16) + (a + a / 16 + 16 * (w % 16)) := by omega
  rw [e, sk_land8 _ _ (by omega) (by decide), sk_d3 a ha _ hw]
theorem sk_low : ∀ (k v : Nat), v < 256 ^ k → sk_S2 k (sk_S1 k v) % 16 < 5
  | 0, v, h => by
    have hv : v = 0 := by simpa using h
    subst hv
    decide
  | k + 1, v, h => by
    have hv : v = 2 ^ 8 * (v / 256) + v % 256 := by omega
    have hm : v % 256 < 256 := Nat.mod_lt _ (by decide)
    rw [hv, sk_S1s k _ _ hm, sk_S2s k _ _ (sk_d4 _ hm).1]
    have := (sk_d4 _ hm).2.2.2.1
    omega
def sk_fo : Nat → Nat → Nat
  | 0, _ => 0
  | k + 1, v => 2 ^ 8 * sk_fo k (v / 256) + sk_pb (v % 256)
def sk_pop : Nat → Nat → Nat
  | 0, _ => 0
  | k + 1, v => sk_pop k (v / 256) + sk_pb (v % 256)
theorem sk_fo_eq : ∀ (k v : Nat), v < 256 ^ k → sk_S3 k (sk_S2 k (sk_S1 k v)) = sk_fo k v
  | 0, v, h => by
    have hv : v = 0 := by simpa using h
    subst hv
    decide
  | k + 1, v, h => by
    have hv : v = 2 ^ 8 * (v / 256) + v % 256 := by omega
    have hm : v % 256 < 256 := Nat.mod_lt _ (by decide)
    have hd : v / 256 < 256 ^ k := by
      rw [Nat.pow_succ] at h
      exact Nat.div_lt_of_lt_mul (by rw [Nat.mul_comm]; exact h)
    have h4 := sk_d4 _ hm
    have e : sk_S3 (k + 1) (sk_S2 (k + 1) (sk_S1 (k + 1) (2 ^ 8 * (v / 256) + v % 256))) = 2 ^ 8 * sk_fo k (v / 256) + sk_pb (v % 256) := by
      rw [sk_S1s k _ _ hm, sk_S2s k _ _ h4.1, sk_S3s k _ _ h4.2.2.1 (sk_low k _ hd), sk_fo_eq k _ hd]
      rfl
    rw [← hv] at e
    exact e
theorem sk_pb9 (v : Nat) : sk_pb (v % 256) < 9 := (sk_d4 _ (Nat.mod_lt _ (by decide))).2.2.2.2
def sk_fin (V : Nat) : Nat := ((V + V / 256) + (V + V / 256) / 65536) + ((V + V / 256) + (V + V / 256) / 65536) / 4294967296
theorem sk_fo_s (k v : Nat) : sk_fo (k + 1) v = 2 ^ 8 * sk_fo k (v / 256) + sk_pb (v % 256) := rfl
theorem sk_pop_s (k v : Nat) : sk_pop (k + 1) v = sk_pop k (v / 256) + sk_pb (v % 256) := rfl
theorem sk_d5 : ∀ x, x < 8 → ∀ b, b < 256 → b.testBit x = false → (b ||| 2 ^ x) < 256 ∧ sk_pb (b ||| 2 ^ x) = sk_pb b + 1 := by decide +kernel
theorem sk_pop_or : ∀ (k v x : Nat), x < 8 * k → v.testBit x = false → sk_pop k (v ||| 2 ^ x) = sk_pop k v + 1
  | 0, _, _, h, _ => absurd h (by omega)
  | k + 1, v, x, h, hb => by
    show sk_pop k ((v ||| 2 ^ x) / 2 ^ 8) + sk_pb ((v ||| 2 ^ x) % 2 ^ 8) = sk_pop k (v / 2 ^ 8) + sk_pb (v % 2 ^ 8) + 1
    rw [Nat.or_mod_two_pow, Nat.or_div_two_pow]
    by_cases hx : x < 8
    · have e1 : 2 ^ x / 2 ^ 8 = 0 := Nat.div_eq_of_lt (Nat.pow_lt_pow_right (by decide) hx)
      have e2 : 2 ^ x % 2 ^ 8 = 2 ^ x := Nat.mod_eq_of_lt (Nat.pow_lt_pow_right (by decide) hx)
      have hb2 : (v % 2 ^ 8).testBit x = false := by rw [Nat.testBit_mod_two_pow, hb]; simp
      rw [e1, e2, Nat.or_zero, (sk_d5 x hx (v % 2 ^ 8) (Nat.mod_lt _ (by decide)) hb2).2]
      omega
    · have e0 : 2 ^ x = 2 ^ 8 * 2 ^ (x - 8) := by rw [← Nat.pow_add]; congr 1; omega
      have e1 : 2 ^ x / 2 ^ 8 = 2 ^ (x - 8) := by rw [e0, Nat.mul_div_cancel_left _ (by decide)]
      have e2 : 2 ^ x % 2 ^ 8 = 0 := by rw [e0, Nat.mul_mod_right]
      have hb2 : (v / 2 ^ 8).testBit (x - 8) = false := by rw [Nat.testBit_div_two_pow, show x - 8 + 8 = x by omega]; exact hb
      rw [e1, e2, Nat.or_zero, sk_pop_or k (v / 2 ^ 8) (x - 8) (by omega) hb2]
      omega
theorem sk_pop_0 : ∀ k : Nat, sk_pop k 0 = 0
  | 0 => rfl
  | k + 1 => by
    show sk_pop k (0 / 256) + sk_pb (0 % 256) = 0
    rw [Nat.zero_div, sk_pop_0 k]
    decide
theorem sk_pop_nb : ∀ l : List Nat, l.Nodup → (∀ x ∈ l, x < 64) → sk_pop 8 (sk_nb l) = l.length
  | [], _, _ => sk_pop_0 8
  | x :: r, hd, h => by
    rw [sk_nb, sk_pop_or 8 _ x (h x List.mem_cons_self) (by rw [sk_nb_bit]; exact decide_eq_false (List.nodup_cons.mp hd).1), sk_pop_nb r (List.nodup_cons.mp hd).2 (fun y hy => h y (List.mem_cons_of_mem _ hy)), List.length_cons]
end
section
/-! the whole state, and what each call answers and does -/
abbrev sk_Ob : Type := Nat × sk_F × sk_F × sk_F × (Nat → sk_F)
abbrev sk_Fi : Type := Nat × sk_F × sk_F × sk_F × sk_F × (Nat → List Nat) × (Nat → Bool)
abbrev sk_S : Type := sk_Ob × sk_Tr × sk_Fi
def sk_there (f : sk_Fi) : Nat := min f.1 100
def sk_hasB (n : Nat) (x : Int32) : Bool := decide (0 ≤ x) && decide (x < nI n)
def sk_isN (x : Int32) : Bool := decide (0 ≤ x) && decide (x < nI 12)
def sk_canP (n : Nat) (p : Int32) : Bool := decide (p = -1) || sk_hasB n p
theorem sk_hasB_iff {n : Nat} (hn : n < 2 ^ 31) {x : Int32} : sk_hasB n x = true ↔ ∃ j, j < n ∧ x = nI j := by
  unfold sk_hasB
  rw [Bool.and_eq_true, decide_eq_true_eq, decide_eq_true_eq]
  constructor
  · intro ⟨h1, h2⟩
    rcases pk_ix x hn with h | h | h
    · exact absurd h1 (by rw [Int32.le_iff_toInt_le]; rw [Int32.lt_iff_toInt_lt] at h; omega)
    · exact absurd h2 (by rw [Int32.lt_iff_toInt_lt]; rw [Int32.le_iff_toInt_le] at h; omega)
    · exact h
  · intro ⟨j, hj, e⟩
    subst e
    exact ⟨nI_pos' (by omega), nI_lt hj hn⟩
theorem sk_hasB_nI {n j : Nat} (hn : n < 2 ^ 31) (h : j < n) : sk_hasB n (nI j) = true := (sk_hasB_iff hn).mpr ⟨j, h, rfl⟩
theorem sk_isN_iff {x : Int32} : sk_isN x = true ↔ ∃ j, j < 12 ∧ x = nI j := sk_hasB_iff (n := 12) (by decide)
theorem sk_canP_iff {n : Nat} (hn : n < 2 ^ 31) {p : Int32} : sk_canP n p = true ↔ sk_v n p := by
  unfold sk_canP sk_v
  rw [Bool.or_eq_true, decide_eq_true_eq, sk_hasB_iff hn]
def sk_chg (b : sk_Ob) (o g : Nat) : sk_Ob := (b.1, b.2.1, upd b.2.2.1 o (nI g), upd b.2.2.2.1 o (b.2.2.2.1 o + 1), b.2.2.2.2)
def sk_setv (b : sk_Ob) (o k : Nat) (x : Int32) : sk_Ob := (b.1, b.2.1, b.2.2.1, b.2.2.2.1, va_up b.2.2.2.2 o (upd (b.2.2.2.2 o) k x))
def sk_shift (g : sk_F) (k : Nat) : sk_F := fun j => if k ≤ j ∧ j < 11 then g (j + 1) else g j
def sk_gap (b : sk_Ob) (o k : Nat) : sk_Ob := (b.1, b.2.1, b.2.2.1, b.2.2.2.1, va_up b.2.2.2.2 o (sk_shift (b.2.2.2.2 o) k))
def sk_brkB (f : sk_Fi) (o i : Nat) : Bool := f.2.2.2.2.2.2 i && !(decide (i < sk_there f) && decide (o ∈ f.2.2.2.2.2.1 i))
def sk_brk (f : sk_Fi) (o : Nat) : sk_Fi := (f.1, f.2.1, f.2.2.1, f.2.2.2.1, f.2.2.2.2.1, f.2.2.2.2.2.1, sk_brkB f o)
def sk_add (f : sk_Fi) (s nm h pl : Int32) (w : List Nat) : sk_Fi := (f.1 + 1, upd f.2.1 (f.1 % 100) s, upd f.2.2.1 (f.1 % 100) nm, upd f.2.2.2.1 (f.1 % 100) h, upd f.2.2.2.2.1 (f.1 % 100) pl, va_up f.2.2.2.2.2.1 (f.1 % 100) w, va_up f.2.2.2.2.2.2 (f.1 % 100) true)
def sk_sh (b : sk_Ob) (x : Nat) : Nat := (b.2.2.1 x).toNatClampNeg
def sk_own (b : sk_Ob) (t : sk_Tr) (nm : Int32) (x : Nat) : Bool := !decide (sk_place t nm (sk_sh b x) = -1)
def sk_grow (t : sk_Tr) (s : Nat) (a : Int32) : Option (sk_Tr × Nat) :=
  if sk_wn t s a = -1 then (if 200 ≤ t.1 then none else some (sk_grow1 t s a, t.1)) else some (t, (sk_wn t s a).toNatClampNeg)
def sk_object (S : sk_S) (p : Int32) : Nat × Int32 × sk_S :=
  if sk_canP S.1.1 p = false then (1, 0, S) else if 60 ≤ S.1.1 then (2, 0, S) else
  match sk_reach S.2.1 p [] with
  | none => (2, 0, S)
  | some (u, r) => (0, nI S.1.1, ((S.1.1 + 1, upd S.1.2.1 S.1.1 p, upd S.1.2.2.1 S.1.1 (nI r), S.1.2.2.2.1, S.1.2.2.2.2), u, S.2.2))
def sk_setN (S : sk_S) (x : Nat) (nm v : Int32) : Bool × sk_S :=
  if sk_place S.2.1 nm (sk_sh S.1 x) = -1 then
    (match sk_grow S.2.1 (sk_sh S.1 x) nm with
    | none => (false, S)
    | some (u, g) => (true, (sk_setv (sk_chg S.1 x g) x (sk_len S.2.1 (sk_sh S.1 x)) v, u, sk_brk S.2.2 x)))
  else (true, (sk_setv S.1 x (sk_place S.2.1 nm (sk_sh S.1 x)).toNatClampNeg v, S.2.1, S.2.2))
def sk_set (S : sk_S) (o nm v : Int32) : Bool × sk_S := if (sk_hasB S.1.1 o && sk_isN nm) = true then sk_setN S o.toNatClampNeg nm v else (false, S)
def sk_left (t : sk_Tr) (s : Nat) (nm : Int32) : List Int32 := (sk_names t s).filter (fun a => !decide (a = nm))
def sk_dropN (S : sk_S) (x : Nat) (nm : Int32) : Bool × sk_S :=
  if sk_place S.2.1 nm (sk_sh S.1 x) = -1 then (false, S) else
  match sk_reach S.2.1 (S.1.2.1 x) (sk_left S.2.1 (sk_sh S.1 x) nm) with
  | none => (false, S)
  | some (u, r) => (true, (sk_chg (sk_gap S.1 x (sk_place S.2.1 nm (sk_sh S.1 x)).toNatClampNeg) x r, u, sk_brk S.2.2 x))
def sk_drop (S : sk_S) (o nm : Int32) : Bool × sk_S := if sk_hasB S.1.1 o = true then sk_dropN S o.toNatClampNeg nm else (false, S)
def sk_turnN (S : sk_S) (x : Nat) (p : Int32) : Bool × sk_S :=
  if x ∈ sk_abv S.1.2.1 p then (false, S) else
  match sk_reach S.2.1 p (sk_names S.2.1 (sk_sh S.1 x)) with
  | none => (false, S)
  | some (u, r) => (true, (sk_chg (S.1.1, upd S.1.2.1 x p, S.1.2.2) x r, u, sk_brk S.2.2 x))
def sk_turn (S : sk_S) (o p : Int32) : Bool × sk_S := if (sk_hasB S.1.1 o && sk_canP S.1.1 p) = true then sk_turnN S o.toNatClampNeg p else (false, S)
def sk_readN (S : sk_S) (x : Nat) (nm : Int32) : Nat × Int32 :=
  if sk_nw (sk_own S.1 S.2.1 nm) (sk_abv S.1.2.1 (nI x)) = -1 then (2, 0)
  else (0, S.1.2.2.2.2 (sk_nw (sk_own S.1 S.2.1 nm) (sk_abv S.1.2.1 (nI x))).toNatClampNeg (sk_place S.2.1 nm (sk_sh S.1 (sk_nw (sk_own S.1 S.2.1 nm) (sk_abv S.1.2.1 (nI x))).toNatClampNeg)).toNatClampNeg)
def sk_read (S : sk_S) (o nm : Int32) : Nat × Int32 := if sk_hasB S.1.1 o = true then sk_readN S o.toNatClampNeg nm else (1, 0)
def sk_opl (b : sk_Ob) (t : sk_Tr) (nm h : Int32) : Int32 := if h = -1 then -1 else sk_place t nm (sk_sh b h.toNatClampNeg)
def sk_findN (S : sk_S) (x : Nat) (nm : Int32) : sk_Fi :=
  if sk_place S.2.1 nm (sk_sh S.1 x) = -1 then sk_add S.2.2 (S.1.2.2.1 x) nm (sk_nw (sk_own S.1 S.2.1 nm) (sk_abv S.1.2.1 (S.1.2.1 x))) (sk_opl S.1 S.2.1 nm (sk_nw (sk_own S.1 S.2.1 nm) (sk_abv S.1.2.1 (S.1.2.1 x)))) (sk_upto (sk_own S.1 S.2.1 nm) (sk_abv S.1.2.1 (S.1.2.1 x)))
  else sk_add S.2.2 (S.1.2.2.1 x) nm (-1) (sk_place S.2.1 nm (sk_sh S.1 x)) []
def sk_find (S : sk_S) (o nm : Int32) : Int32 × sk_S := if (sk_hasB S.1.1 o && sk_isN nm) = true then (nI (S.2.2.1 % 100), (S.1, S.2.1, sk_findN S o.toNatClampNeg nm)) else (-1, S)
def sk_holds (S : sk_S) (f o : Int32) : Bool := sk_hasB (sk_there S.2.2) f && (sk_hasB S.1.1 o && (S.2.2.2.2.2.2.2.2 f.toNatClampNeg && decide (S.2.2.2.1 f.toNatClampNeg = S.1.2.2.1 o.toNatClampNeg)))
def sk_get (S : sk_S) (f o : Int32) : Nat × Int32 :=
  if sk_hasB (sk_there S.2.2) f = false then (1, 0) else if sk_holds S f o = false then (2, 0) else
  if S.2.2.2.2.2.2.1 f.toNatClampNeg = -1 then (3, 0) else
  (0, S.1.2.2.2.2 (if S.2.2.2.2.2.1 f.toNatClampNeg = -1 then o.toNatClampNeg else (S.2.2.2.2.2.1 f.toNatClampNeg).toNatClampNeg) (S.2.2.2.2.2.2.1 f.toNatClampNeg).toNatClampNeg)
def sk_cnt (P : Nat → Bool) : Nat → Nat
  | 0 => 0
  | k + 1 => sk_cnt P k + (if P k = true then 1 else 0)
def sk_lookN (S : sk_S) (x : Nat) (w : Int32) : Int32 :=
  if w = 0 then S.1.2.2.1 x else if w = 1 then S.1.2.1 x else if w = 2 then S.2.1.2.2.2.2 (sk_sh S.1 x) else if w = 3 then S.1.2.2.2.1 x else
  if w = 4 then nI (sk_abv S.1.2.1 (S.1.2.1 x)).length else if w = 5 then nI (sk_cnt (fun y => decide (x ∈ sk_abv S.1.2.1 (S.1.2.1 y))) S.1.1) else -1
def sk_look (S : sk_S) (o w : Int32) : Int32 := if sk_hasB S.1.1 o = true then sk_lookN S o.toNatClampNeg w else -1
def sk_shapeN (S : sk_S) (s : Nat) (w : Int32) : Int32 :=
  if w = 0 then S.2.1.2.1 s else if w = 1 then S.2.1.2.2.2.2 s else if w = 2 then nI (sk_cnt (fun y => decide (S.1.2.2.1 y = nI s)) S.1.1) else if w = 3 then S.2.1.2.2.1 s else
  if sk_hasB (sk_len S.2.1 s) (w - 4) = true ∧ 4 ≤ w then sk_nm S.2.1 s (w - 4).toNatClampNeg else -1
def sk_shape (S : sk_S) (s w : Int32) : Int32 := if sk_hasB S.2.1.1 s = true then sk_shapeN S s.toNatClampNeg w else -1
def sk_where (f : sk_Fi) (i : Nat) : Int32 := if f.2.2.2.2.1 i = -1 then 0 else if f.2.2.2.1 i = -1 then 1 else 2
def sk_bI (b : Bool) : Int32 := if b = true then 1 else 0
def sk_finding (S : sk_S) (f w : Int32) : Int32 := if sk_hasB (sk_there S.2.2) f = true then
  (if w = 0 then S.2.2.2.1 f.toNatClampNeg else if w = 1 then S.2.2.2.2.1 f.toNatClampNeg else if w = 2 then sk_where S.2.2 f.toNatClampNeg else if w = 3 then S.2.2.2.2.2.1 f.toNatClampNeg else if w = 4 then S.2.2.2.2.2.2.1 f.toNatClampNeg else if w = 5 then sk_bI (S.2.2.2.2.2.2.2.2 f.toNatClampNeg) else -1) else -1
def sk_count (S : sk_S) (w : Int32) : Int32 := if w = 0 then nI S.1.1 else if w = 1 then nI S.2.1.1 else if w = 2 then nI S.2.2.1 else if w = 3 then nI (sk_cnt S.2.2.2.2.2.2.2.2 (sk_there S.2.2)) else -1
/-! what always holds, K calls on -/
def sk_FO (b : sk_Ob) (t : sk_Tr) (f : sk_Fi) (i : Nat) : Prop :=
  (∃ s, s < t.1 ∧ f.2.1 i = nI s ∧ (f.2.2.2.1 i = -1 → f.2.2.2.2.1 i = -1 ∨ ∃ k, k < sk_len t s ∧ f.2.2.2.2.1 i = nI k)) ∧ (∃ a, a < 12 ∧ f.2.2.1 i = nI a) ∧
  (f.2.2.2.1 i = -1 ∨ ∃ x k, x < b.1 ∧ f.2.2.2.1 i = nI x ∧ k < 12 ∧ f.2.2.2.2.1 i = nI k ∧ x ∈ f.2.2.2.2.2.1 i ∧ (f.2.2.2.2.2.2 i = true → k < sk_len t (sk_sh b x))) ∧ ∀ x ∈ f.2.2.2.2.2.1 i, x < b.1
def sk_OO (b : sk_Ob) (t : sk_Tr) : Prop := ∀ o, o < b.1 → ∃ s, s < t.1 ∧ b.2.2.1 o = nI s ∧ b.2.1 o = t.2.1 s
def sk_OK (K : Nat) (S : sk_S) : Prop := sk_TO S.1.1 S.2.1 ∧ sk_AC S.1.1 S.1.2.1 ∧ sk_OO S.1 S.2.1 ∧ (∀ o, ∃ c, c ≤ K ∧ S.1.2.2.2.1 o = nI c) ∧ (∀ o, S.1.1 ≤ o → S.1.2.2.2.1 o = 0) ∧ K ≤ 512 ∧ S.2.2.1 ≤ K ∧ ∀ i, i < sk_there S.2.2 → sk_FO S.1 S.2.1 S.2.2 i
end
section
/-! what always holds, is kept -/
theorem sk_shOk {b : sk_Ob} {t : sk_Tr} (ht : t.1 ≤ 200) (h : sk_OO b t) {x : Nat} (hx : x < b.1) : sk_sh b x < t.1 ∧ b.2.2.1 x = nI (sk_sh b x) ∧ b.2.1 x = t.2.1 (sk_sh b x) := by
  obtain ⟨s, hs, e, hp⟩ := h x hx
  have e2 : sk_sh b x = s := by unfold sk_sh; rw [e]; exact nI_clamp (by omega)
  rw [e2]
  exact ⟨hs, e, hp⟩
theorem sk_placeOk {nO : Nat} {t : sk_Tr} (h : sk_TO nO t) (x : Int32) {s : Nat} (hs : s < t.1) : sk_place t x s = -1 ∨ ∃ k, k < sk_len t s ∧ k < 12 ∧ sk_place t x s = nI k := by
  obtain ⟨m, hm, -, hl⟩ := sk_lenOk h hs
  rcases sk_place_spec h x s hs with ⟨e, -⟩ | ⟨k, hk, e, -⟩
  · exact Or.inl e
  · exact Or.inr ⟨k, hk, by omega, e⟩
theorem sk_notin {nO : Nat} {t : sk_Tr} (h : sk_TO nO t) {x : Int32} {s : Nat} (hs : s < t.1) (e : sk_place t x s = -1) : x ∉ sk_names t s := fun hx => by
  obtain ⟨k, hk, ek⟩ := sk_names_mem.mp hx
  rcases sk_place_spec h x s hs with ⟨-, q⟩ | ⟨g, hg, e2, -⟩
  · exact q k hk ek
  · obtain ⟨m, hm, -, hl⟩ := sk_lenOk h hs
    exact sk_nm1 (show g < 2 ^ 31 by omega) (e2.symm.trans e)
theorem sk_grow_spec {nO : Nat} {t : sk_Tr} (h : sk_TO nO t) {s a : Nat} (hs : s < t.1) (ha : a < 12) (hp : sk_place t (nI a) s = -1) {u : sk_Tr} {g : Nat} (e : sk_grow t s (nI a) = some (u, g)) :
    sk_TO nO u ∧ sk_ext t u ∧ g < u.1 ∧ u.2.1 g = t.2.1 s ∧ sk_names u g = sk_names t s ++ [nI a] := by
  unfold sk_grow at e
  by_cases hw : sk_wn t s (nI a) = -1
  · rw [if_pos hw] at e
    by_cases hn : 200 ≤ t.1
    · rw [if_pos hn] at e; cases e
    · rw [if_neg hn] at e
      have hd : (sk_names t s ++ [nI a]).Nodup := by
        refine List.nodup_append.mpr ⟨sk_names_nodup h hs, List.pairwise_singleton _ _, fun x hx y hy exy => ?_⟩
        rw [List.mem_singleton.mp hy] at exy
        exact sk_notin h hs hp (exy ▸ hx)
      have hi : sk_in12 (sk_names t s ++ [nI a]) := fun x hx => by
        rcases List.mem_append.mp hx with q | q
        · exact sk_names_in h hs x q
        · exact ⟨a, ha, List.mem_singleton.mp q⟩
      obtain ⟨q1, q2, q3, -, q5, q6⟩ := sk_mk_spec [nI a] t s h hs (show t.1 + 1 ≤ 200 by omega) hd hi
      have e2 : sk_mk t s [nI a] = (u, g) := Option.some.inj e
      rw [e2] at q1 q2 q3 q5 q6
      exact ⟨q1, q2, q3, q5, q6⟩
  · rw [if_neg hw] at e
    rcases sk_wn_spec h hs (nI a) with ⟨e9, -⟩ | ⟨i, m, hi, hsi, e9, ho, hl, hm, h1, h2, hpr, hn⟩
    · exact absurd e9 hw
    · rw [e9, nI_clamp (sk_t31 h hi)] at e
      have e2 : (t, i) = (u, g) := Option.some.inj e
      cases e2
      exact ⟨h, sk_ext_refl t, hi, hpr, hn⟩
theorem sk_FO_ext {b c : sk_Ob} {t u : sk_Tr} {f g : sk_Fi} {i : Nat} (hT : sk_TO b.1 t) (hO : sk_OO b t) (h : sk_FO b t f i) (he : sk_ext t u) (hn : b.1 ≤ c.1) (e1 : g.2.1 i = f.2.1 i) (e2 : g.2.2.1 i = f.2.2.1 i) (e3 : g.2.2.2.1 i = f.2.2.2.1 i) (e4 : g.2.2.2.2.1 i = f.2.2.2.2.1 i) (e5 : g.2.2.2.2.2.1 i = f.2.2.2.2.2.1 i)
    (hh : g.2.2.2.2.2.2 i = true → f.2.2.2.2.2.2 i = true ∧ ∀ x ∈ f.2.2.2.2.2.1 i, x < b.1 → sk_sh c x = sk_sh b x) : sk_FO c u g i := by
  obtain ⟨⟨s, hs, es, hp⟩, ha, hx, hw⟩ := h
  refine ⟨⟨s, Nat.lt_of_lt_of_le hs he.1, e1.trans es, fun q => ?_⟩, by rw [e2]; exact ha, ?_, fun x hx => by rw [e5] at hx; exact Nat.lt_of_lt_of_le (hw x hx) hn⟩
  · rw [e3] at q
    rw [e4, (sk_ext_nm hT he s hs).1]
    exact hp q
  · rcases hx with q | ⟨x, k, h1, h2, h3, h4, h5, h6⟩
    · exact Or.inl (e3.trans q)
    · refine Or.inr ⟨x, k, Nat.lt_of_lt_of_le h1 hn, e3.trans h2, h3, e4.trans h4, by rw [e5]; exact h5, fun q => ?_⟩
      obtain ⟨q1, q2⟩ := hh q
      rw [q2 x h5 h1, (sk_ext_nm hT he _ (sk_shOk hT.2.1 hO h1).1).1]
      exact h6 q1
theorem sk_OK_mono {K : Nat} {S : sk_S} (h : sk_OK K S) (hK : K + 1 ≤ 512) : sk_OK (K + 1) S := by
  obtain ⟨h1, h2, h3, h4, h5, h6, h7, h8⟩ := h
  exact ⟨h1, h2, h3, fun o => (h4 o).elim fun c hc => ⟨c, by omega, hc.2⟩, h5, hK, by omega, h8⟩
theorem sk_OO_ext {b : sk_Ob} {t u : sk_Tr} (h : sk_OO b t) (he : sk_ext t u) : sk_OO b u := fun o ho => by
  obtain ⟨s, hs, e, hp⟩ := h o ho
  exact ⟨s, Nat.lt_of_lt_of_le hs he.1, e, hp.trans (he.2 s hs).1.symm⟩
theorem sk_OK_object {K : Nat} {S : sk_S} (h : sk_OK K S) (hK : K + 1 ≤ 512) (p : Int32) : sk_OK (K + 1) (sk_object S p).2.2 := by
  unfold sk_object
  by_cases hc : sk_canP S.1.1 p = false
  · rw [if_pos hc]; exact sk_OK_mono h hK
  · rw [if_neg hc]
    by_cases hn : 60 ≤ S.1.1
    · rw [if_pos hn]; exact sk_OK_mono h hK
    · rw [if_neg hn]
      obtain ⟨h1, h2, h3, h4, h5, h6, h7, h8⟩ := id h
      have hp : sk_v S.1.1 p := (sk_canP_iff (by omega)).mp (by cases q : sk_canP S.1.1 p <;> simp_all)
      cases hr : sk_reach S.2.1 p [] with
      | none => exact sk_OK_mono h hK
      | some q =>
        obtain ⟨u, r⟩ := q
        obtain ⟨q1, q2, q3, q4, q5⟩ := sk_reach_spec h1 hp List.Pairwise.nil (fun x hx => by cases hx) hr
        show sk_OK (K + 1) ((S.1.1 + 1, upd S.1.2.1 S.1.1 p, upd S.1.2.2.1 S.1.1 (nI r), S.1.2.2.2.1, S.1.2.2.2.2), u, S.2.2)
        refine ⟨sk_TO_mono q1 (Nat.le_succ _) (show S.1.1 + 1 ≤ 60 by omega), sk_AC_more h2 (by omega) hp, fun o ho => ?_, fun o => (h4 o).elim fun c hc => ⟨c, by omega, hc.2⟩, fun o ho => h5 o (Nat.le_of_succ_le ho), hK, Nat.le_succ_of_le h7, fun i hi => ?_⟩
        · have ho : o < S.1.1 + 1 := ho
          by_cases e : o = S.1.1
          · subst e
            exact ⟨r, q3, pk_us, by rw [q4]; exact pk_us⟩
          · obtain ⟨s, hs, e1, e2⟩ := sk_OO_ext h3 q2 o (by omega)
            exact ⟨s, hs, (pk_un e).trans e1, (pk_un e).trans e2⟩
        · exact sk_FO_ext h1 h3 (h8 i hi) q2 (Nat.le_succ _) rfl rfl rfl rfl rfl (fun q => ⟨q, fun x _ hx => by show (upd S.1.2.2.1 S.1.1 (nI r) x).toNatClampNeg = (S.1.2.2.1 x).toNatClampNeg; rw [pk_un (Nat.ne_of_lt hx)]⟩)
theorem sk_brk_t {f : sk_Fi} {o i : Nat} (hi : i < sk_there f) (h : sk_brkB f o i = true) : f.2.2.2.2.2.2 i = true ∧ o ∉ f.2.2.2.2.2.1 i := by
  unfold sk_brkB at h
  rw [Bool.and_eq_true] at h
  refine ⟨h.1, fun q => ?_⟩
  have := h.2
  simp [hi, q] at this
/-- an object changes its shape -/
theorem sk_OK_chg {K : Nat} {b c : sk_Ob} {t u : sk_Tr} {f : sk_Fi} (h : sk_OK K (b, t, f)) (hK : K + 1 ≤ 512) {x r : Nat} (hx : x < b.1) (hc : c.1 = b.1) (hsh : ∀ y, y ≠ x → c.2.2.1 y = b.2.2.1 y) (hop : ∀ y, y ≠ x → c.2.1 y = b.2.1 y) (hch : c.2.2.2.1 = b.2.2.2.1) (hAC : sk_AC b.1 c.2.1) (q1 : sk_TO b.1 u) (q2 : sk_ext t u) (q3 : r < u.1) (q4 : u.2.1 r = c.2.1 x) :
    sk_OK (K + 1) (sk_chg c x r, u, sk_brk f x) := by
  obtain ⟨h1, h2, h3, h4, h5, h6, h7, h8⟩ := h
  have h1 : sk_TO b.1 t := h1
  have h3 : sk_OO b t := h3
  refine ⟨by show sk_TO c.1 u; rw [hc]; exact q1, by show sk_AC c.1 c.2.1; rw [hc]; exact hAC, fun o ho => ?_, fun o => ?_, fun o ho => ?_, hK, Nat.le_succ_of_le h7, fun i hi => ?_⟩
  · have ho : o < c.1 := ho
    rw [hc] at ho
    by_cases e : o = x
    · subst e
      exact ⟨r, q3, pk_us, q4.symm⟩
    · obtain ⟨s, hs, e1, e2⟩ := sk_OO_ext h3 q2 o ho
      exact ⟨s, hs, (pk_un e).trans ((hsh o e).trans e1), (hop o e).trans e2⟩
  · by_cases e : o = x
    · subst e
      obtain ⟨k, hk, ek⟩ := h4 o
      refine ⟨k + 1, by omega, ?_⟩
      show upd c.2.2.2.1 o (c.2.2.2.1 o + 1) o = nI (k + 1)
      rw [pk_us, hch, show b.2.2.2.1 o = nI k from ek]
      exact nI_1 k
    · obtain ⟨k, hk, ek⟩ := h4 o
      exact ⟨k, by omega, (pk_un e).trans (by rw [hch]; exact ek)⟩
  · have ho : c.1 ≤ o := ho
    refine (pk_un (by omega)).trans ?_
    rw [hch]
    exact h5 o (by rw [← hc]; exact ho)
  · refine sk_FO_ext h1 h3 (h8 i hi) q2 (show b.1 ≤ c.1 by omega) rfl rfl rfl rfl rfl (fun q => ?_)
    obtain ⟨a1, a2⟩ := sk_brk_t (f := f) hi q
    refine ⟨a1, fun y hy _ => ?_⟩
    have hne : y ≠ x := fun e => a2 (e ▸ hy)
    unfold sk_sh
    rw [show (sk_chg c x r).2.2.1 y = c.2.2.1 y from pk_un hne, hsh y hne]
theorem sk_OK_setv {K : Nat} {b : sk_Ob} {t : sk_Tr} {f : sk_Fi} (h : sk_OK K (b, t, f)) (o k : Nat) (x : Int32) : sk_OK K (sk_setv b o k x, t, f) := h
theorem sk_OK_set {K : Nat} {S : sk_S} (h : sk_OK K S) (hK : K + 1 ≤ 512) (o nm v : Int32) : sk_OK (K + 1) (sk_set S o nm v).2 := by
  obtain ⟨b, t, f⟩ := S
  unfold sk_set
  by_cases hc : (sk_hasB b.1 o && sk_isN nm) = true
  · rw [if_pos hc]
    rw [Bool.and_eq_true] at hc
    obtain ⟨h1, h2, h3, h4, h5, h6, h7, h8⟩ := id h
    have hn : b.1 < 2 ^ 31 := by have h60 : b.1 ≤ 60 := h1.2.2.1; omega
    obtain ⟨x, hx, e⟩ := (sk_hasB_iff hn).mp hc.1
    obtain ⟨a, ha, ea⟩ := sk_isN_iff.mp hc.2
    subst e; subst ea
    rw [nI_clamp (by omega)]
    obtain ⟨s1, s2, s3⟩ := sk_shOk h1.2.1 h3 hx
    unfold sk_setN
    by_cases hp : sk_place t (nI a) (sk_sh b x) = -1
    · rw [if_pos hp]
      cases hg : sk_grow t (sk_sh b x) (nI a) with
      | none => exact sk_OK_mono h hK
      | some q =>
        obtain ⟨u, g⟩ := q
        obtain ⟨q1, q2, q3, q4, q5⟩ := sk_grow_spec h1 s1 ha hp hg
        exact sk_OK_setv (sk_OK_chg (c := b) h hK hx rfl (fun _ _ => rfl) (fun _ _ => rfl) rfl h2 q1 q2 q3 (q4.trans s3.symm)) _ _ _
    · rw [if_neg hp]
      exact sk_OK_mono (sk_OK_setv h _ _ _) hK
  · rw [if_neg hc]; exact sk_OK_mono h hK
theorem sk_left_ok {nO : Nat} {t : sk_Tr} (h : sk_TO nO t) {s : Nat} (hs : s < t.1) (nm : Int32) : (sk_left t s nm).Nodup ∧ sk_in12 (sk_left t s nm) :=
  ⟨(sk_names_nodup h hs).sublist List.filter_sublist, fun x hx => sk_names_in h hs x (List.mem_filter.mp hx).1⟩
theorem sk_opv {K : Nat} {b : sk_Ob} {t : sk_Tr} {f : sk_Fi} (h : sk_OK K (b, t, f)) {x : Nat} (hx : x < b.1) : sk_v b.1 (b.2.1 x) := h.2.1.2.1 x hx
theorem sk_OK_drop {K : Nat} {S : sk_S} (h : sk_OK K S) (hK : K + 1 ≤ 512) (o nm : Int32) : sk_OK (K + 1) (sk_drop S o nm).2 := by
  obtain ⟨b, t, f⟩ := S
  unfold sk_drop
  by_cases hc : sk_hasB b.1 o = true
  · rw [if_pos hc]
    obtain ⟨h1, h2, h3, h4, h5, h6, h7, h8⟩ := id h
    have hn : b.1 < 2 ^ 31 := by have h60 : b.1 ≤ 60 := h1.2.2.1; omega
    obtain ⟨x, hx, e⟩ := (sk_hasB_iff hn).mp hc
    subst e
    rw [nI_clamp (by omega)]
    obtain ⟨s1, s2, s3⟩ := sk_shOk h1.2.1 h3 hx
    unfold sk_dropN
    by_cases hp : sk_place t nm (sk_sh b x) = -1
    · rw [if_pos hp]; exact sk_OK_mono h hK
    · rw [if_neg hp]
      cases hg : sk_reach t (b.2.1 x) (sk_left t (sk_sh b x) nm) with
      | none => exact sk_OK_mono h hK
      | some q =>
        obtain ⟨u, r⟩ := q
        obtain ⟨q1, q2, q3, q4, q5⟩ := sk_reach_spec h1 (sk_opv h hx) (sk_left_ok h1 s1 nm).1 (sk_left_ok h1 s1 nm).2 hg
        exact sk_OK_chg (c := sk_gap b x _) h hK hx rfl (fun _ _ => rfl) (fun _ _ => rfl) rfl h2 q1 q2 q3 q4
  · rw [if_neg hc]; exact sk_OK_mono h hK
theorem sk_OK_turn {K : Nat} {S : sk_S} (h : sk_OK K S) (hK : K + 1 ≤ 512) (o p : Int32) : sk_OK (K + 1) (sk_turn S o p).2 := by
  obtain ⟨b, t, f⟩ := S
  unfold sk_turn
  by_cases hc : (sk_hasB b.1 o && sk_canP b.1 p) = true
  · rw [if_pos hc]
    rw [Bool.and_eq_true] at hc
    obtain ⟨h1, h2, h3, h4, h5, h6, h7, h8⟩ := id h
    have hn : b.1 < 2 ^ 31 := by have h60 : b.1 ≤ 60 := h1.2.2.1; omega
    obtain ⟨x, hx, e⟩ := (sk_hasB_iff hn).mp hc.1
    have hp := (sk_canP_iff hn).mp hc.2
    subst e
    rw [nI_clamp (by omega)]
    obtain ⟨s1, s2, s3⟩ := sk_shOk h1.2.1 h3 hx
    unfold sk_turnN
    by_cases hm : x ∈ sk_abv b.2.1 p
    · rw [if_pos hm]; exact sk_OK_mono h hK
    · rw [if_neg hm]
      cases hg : sk_reach t p (sk_names t (sk_sh b x)) with
      | none => exact sk_OK_mono h hK
      | some q =>
        obtain ⟨u, r⟩ := q
        obtain ⟨q1, q2, q3, q4, q5⟩ := sk_reach_spec h1 hp (sk_names_nodup h1 s1) (sk_names_in h1 s1) hg
        exact sk_OK_chg (c := (b.1, upd b.2.1 x p, b.2.2)) h hK hx rfl (fun _ _ => rfl) (fun y hy => pk_un hy) rfl (sk_AC_turn h2 hx hp hm) q1 q2 q3 (q4.trans pk_us.symm)
  · rw [if_neg hc]; exact sk_OK_mono h hK
theorem sk_there_add {f : sk_Fi} {s nm h pl : Int32} {w : List Nat} {i : Nat} (hi : i < sk_there (sk_add f s nm h pl w)) (hne : i ≠ f.1 % 100) : i < sk_there f := by
  unfold sk_there at hi ⊢
  have hi : i < min (f.1 + 1) 100 := hi
  omega
theorem sk_OK_find {K : Nat} {S : sk_S} (h : sk_OK K S) (hK : K + 1 ≤ 512) (o nm : Int32) : sk_OK (K + 1) (sk_find S o nm).2 := by
  obtain ⟨b, t, f⟩ := S
  unfold sk_find
  by_cases hc : (sk_hasB b.1 o && sk_isN nm) = true
  · rw [if_pos hc]
    rw [Bool.and_eq_true] at hc
    obtain ⟨h1, h2, h3, h4, h5, h6, h7, h8⟩ := id h
    have hn : b.1 < 2 ^ 31 := by have h60 : b.1 ≤ 60 := h1.2.2.1; omega
    obtain ⟨x, hx, e⟩ := (sk_hasB_iff hn).mp hc.1
    obtain ⟨a, ha, ea⟩ := sk_isN_iff.mp hc.2
    subst e
    rw [nI_clamp (by omega)]
    obtain ⟨s1, s2, s3⟩ := sk_shOk h1.2.1 h3 hx
    have key : ∀ (hh pl : Int32) (w : List Nat), (hh = -1 → pl = -1 ∨ ∃ k, k < sk_len t (sk_sh b x) ∧ pl = nI k) → (hh = -1 ∨ ∃ y k, y < b.1 ∧ hh = nI y ∧ k < 12 ∧ pl = nI k ∧ y ∈ w ∧ k < sk_len t (sk_sh b y)) → (∀ y ∈ w, y < b.1) → sk_OK (K + 1) (b, t, sk_add f (b.2.2.1 x) nm hh pl w) := by
      intro hh pl w k1 k2 k3
      refine ⟨h1, h2, h3, fun o => (h4 o).elim fun c hc => ⟨c, by omega, hc.2⟩, h5, hK, Nat.succ_le_succ h7, fun i hi => ?_⟩
      by_cases hne : i = f.1 % 100
      · subst hne
        refine ⟨⟨sk_sh b x, s1, by rw [show (sk_add f (b.2.2.1 x) nm hh pl w).2.1 (f.1 % 100) = b.2.2.1 x from pk_us]; exact s2, ?_⟩, ⟨a, ha, by rw [show (sk_add f (b.2.2.1 x) nm hh pl w).2.2.1 (f.1 % 100) = nm from pk_us]; exact ea⟩, ?_, ?_⟩
        · rw [show (sk_add f (b.2.2.1 x) nm hh pl w).2.2.2.1 (f.1 % 100) = hh from pk_us, show (sk_add f (b.2.2.1 x) nm hh pl w).2.2.2.2.1 (f.1 % 100) = pl from pk_us]
          exact k1
        · rw [show (sk_add f (b.2.2.1 x) nm hh pl w).2.2.2.1 (f.1 % 100) = hh from pk_us, show (sk_add f (b.2.2.1 x) nm hh pl w).2.2.2.2.1 (f.1 % 100) = pl from pk_us, show (sk_add f (b.2.2.1 x) nm hh pl w).2.2.2.2.2.1 (f.1 % 100) = w from va_up_self _ _ _]
          rcases k2 with q | ⟨y, k, a1, a2, a3, a4, a5, a6⟩
          · exact Or.inl q
          · exact Or.inr ⟨y, k, a1, a2, a3, a4, a5, fun _ => a6⟩
        · rw [show (sk_add f (b.2.2.1 x) nm hh pl w).2.2.2.2.2.1 (f.1 % 100) = w from va_up_self _ _ _]
          exact k3
      · exact sk_FO_ext h1 h3 (h8 i (sk_there_add hi hne)) (sk_ext_refl t) (Nat.le_refl _) (pk_un hne) (pk_un hne) (pk_un hne) (pk_un hne) (va_up_ne _ _ hne) (fun q => ⟨by rw [show (sk_add f (b.2.2.1 x) nm hh pl w).2.2.2.2.2.2 i = f.2.2.2.2.2.2 i from va_up_ne _ _ hne] at q; exact q, fun _ _ _ => rfl⟩)
    show sk_OK (K + 1) (b, t, sk_findN (b, t, f) x nm)
    unfold sk_findN
    by_cases hp : sk_place t nm (sk_sh b x) = -1
    · rw [if_pos hp]
      have hlt := sk_abv_lt h2 (sk_opv h hx)
      refine key _ _ _ (fun q => ?_) ?_ (fun y hy => hlt y (sk_upto_sub _ _ y hy))
      · rw [q]; exact Or.inl (if_pos rfl)
      · rcases sk_nw_spec (sk_own b t nm) (sk_abv b.2.1 (b.2.1 x)) with ⟨q, -, -⟩ | ⟨y, hy, e, ho, hu⟩
        · exact Or.inl q
        · have hyn : y < b.1 := hlt y hy
          have e2 : sk_opl b t nm (nI y) = sk_place t nm (sk_sh b y) := by
            unfold sk_opl
            rw [if_neg (sk_nm1 (by omega)), nI_clamp (by omega)]
          rcases sk_placeOk h1 nm (sk_shOk h1.2.1 h3 hyn).1 with q | ⟨k, hk, hk2, ek⟩
          · unfold sk_own at ho
            rw [q] at ho
            simp at ho
          · refine Or.inr ⟨y, k, hyn, e, hk2, ?_, hu, hk⟩
            show sk_opl b t nm (sk_nw (sk_own b t nm) (sk_abv b.2.1 (b.2.1 x))) = nI k
            rw [e, e2, ek]
    · rw [if_neg hp]
      refine key _ _ _ (fun _ => ?_) (Or.inl rfl) (fun y hy => by cases hy)
      rcases sk_placeOk h1 nm s1 with q | ⟨k, hk, -, ek⟩
      · exact absurd q hp
      · exact Or.inr ⟨k, hk, ek⟩
  · rw [if_neg hc]; exact sk_OK_mono h hK
end
