/-! numbers, searches, the tree of shapes: pure rows -/
abbrev sk_F : Type := Nat → Int32
theorem sk_nm1 {i : Nat} (h : i < 2 ^ 31) : ¬ nI i = -1 := fun e => nI_pos h (by rw [e]; decide)
theorem sk_m1n {i : Nat} (h : i < 2 ^ 31) : ¬ (-1 : Int32) = nI i := fun e => sk_nm1 h e.symm
theorem sk_inj {a b : Nat} (ha : a < 2 ^ 31) (hb : b < 2 ^ 31) (h : nI a = nI b) : a = b := (nI_eq ha hb).mp h
theorem sk_cl {n : Nat} (h : n < 2 ^ 31) : (nI n).toNatClampNeg = n := nI_clamp h
/-- the first of a, a+1, .. (k of them) with P; -1 if there is none -/
def sk_ff (P : Nat → Bool) : Nat → Nat → Int32
  | 0, _ => -1
  | k + 1, a => if P a = true then nI a else sk_ff P k (a + 1)
theorem sk_ff_0 (P : Nat → Bool) (a : Nat) : sk_ff P 0 a = -1 := rfl
theorem sk_ff_s (P : Nat → Bool) (k a : Nat) : sk_ff P (k + 1) a = if P a = true then nI a else sk_ff P k (a + 1) := rfl
theorem sk_ff_spec (P : Nat → Bool) : ∀ (k a : Nat), (sk_ff P k a = -1 ∧ ∀ i, a ≤ i → i < a + k → P i = false) ∨ ∃ i, a ≤ i ∧ i < a + k ∧ sk_ff P k a = nI i ∧ P i = true ∧ ∀ j, a ≤ j → j < i → P j = false
  | 0, a => Or.inl ⟨rfl, fun i h1 h2 => absurd h2 (by omega)⟩
  | k + 1, a => by
    rw [sk_ff_s]
    by_cases h : P a = true
    · rw [if_pos h]
      exact Or.inr ⟨a, Nat.le_refl a, by omega, rfl, h, fun j h1 h2 => absurd h2 (by omega)⟩
    · rw [if_neg h]
      have hf : P a = false := by cases hp : P a <;> simp_all
      rcases sk_ff_spec P k (a + 1) with ⟨e, q⟩ | ⟨i, h1, h2, e, hp, q⟩
      · refine Or.inl ⟨e, fun i h1 h2 => ?_⟩
        rcases Nat.eq_or_lt_of_le h1 with g | g
        · rw [← g]; exact hf
        · exact q i (by omega) (by omega)
      · refine Or.inr ⟨i, by omega, by omega, e, hp, fun j g1 g2 => ?_⟩
        rcases Nat.eq_or_lt_of_le g1 with g | g
        · rw [← g]; exact hf
        · exact q j (by omega) g2
theorem sk_ff_congr {P Q : Nat → Bool} : ∀ (k a : Nat), (∀ i, a ≤ i → i < a + k → P i = Q i) → sk_ff P k a = sk_ff Q k a
  | 0, _, _ => rfl
  | k + 1, a, h => by
    rw [sk_ff_s, sk_ff_s, h a (Nat.le_refl a) (by omega), sk_ff_congr k (a + 1) (fun i h1 h2 => h i (by omega) (by omega))]
/-- what isn't there ahead may be passed over -/
theorem sk_ff_skip {P : Nat → Bool} : ∀ (d k a : Nat), (∀ i, a ≤ i → i < a + d → P i = false) → sk_ff P (d + k) a = sk_ff P k (a + d)
  | 0, k, a, _ => by rw [Nat.zero_add, Nat.add_zero]
  | d + 1, k, a, h => by
    rw [show d + 1 + k = (d + k) + 1 by omega, sk_ff_s, if_neg (by rw [h a (Nat.le_refl a) (by omega)]; decide), sk_ff_skip d k (a + 1) (fun i h1 h2 => h i (by omega) (by omega))]
    congr 1; omega
/-! the tree: how many; prototypes, origins, last names, lengths -/
abbrev sk_Tr : Type := Nat × sk_F × sk_F × sk_F × sk_F
def sk_up (t : sk_Tr) : Nat → Nat → Nat
  | 0, s => s
  | j + 1, s => sk_up t j (t.2.2.1 s).toNatClampNeg
def sk_len (t : sk_Tr) (s : Nat) : Nat := (t.2.2.2.2 s).toNatClampNeg
/-- the name at a place -/
def sk_nm (t : sk_Tr) (s k : Nat) : Int32 := t.2.2.2.1 (sk_up t (sk_len t s - 1 - k) s)
/-- the place of a name among the first k, from the top -/
def sk_pl (t : sk_Tr) (x : Int32) : Nat → Nat → Int32
  | 0, _ => -1
  | k + 1, q => if t.2.2.2.1 q = x then nI k else sk_pl t x k (t.2.2.1 q).toNatClampNeg
def sk_place (t : sk_Tr) (x : Int32) (s : Nat) : Int32 := sk_pl t x (sk_len t s) s
def sk_SO (nO : Nat) (t : sk_Tr) (i : Nat) : Prop := (t.2.1 i = -1 ∨ ∃ x, x < nO ∧ t.2.1 i = nI x) ∧ ((t.2.2.1 i = -1 ∧ t.2.2.2.2 i = nI 0) ∨ ∃ j m a : Nat, j < i ∧ m < 12 ∧ a < 12 ∧ t.2.2.1 i = nI j ∧ t.2.2.2.2 j = nI m ∧ t.2.2.2.2 i = nI (m + 1) ∧ t.2.1 i = t.2.1 j ∧ t.2.2.2.1 i = nI a ∧ ∀ k, k < m → ¬ sk_nm t j k = t.2.2.2.1 i)
def sk_TO (nO : Nat) (t : sk_Tr) : Prop := 1 ≤ t.1 ∧ t.1 ≤ 200 ∧ nO ≤ 60 ∧ t.2.1 0 = -1 ∧ t.2.2.1 0 = -1 ∧ ∀ i, i < t.1 → sk_SO nO t i
theorem sk_lenE {t : sk_Tr} {s m : Nat} (hm : m < 2 ^ 31) (h : t.2.2.2.2 s = nI m) : sk_len t s = m := by
  unfold sk_len; rw [h]; exact nI_clamp hm
theorem sk_lenOk {nO : Nat} {t : sk_Tr} (h : sk_TO nO t) {i : Nat} (hi : i < t.1) : ∃ m, m ≤ 12 ∧ t.2.2.2.2 i = nI m ∧ sk_len t i = m := by
  rcases (h.2.2.2.2.2 i hi).2 with ⟨-, e⟩ | ⟨j, m, a, -, hm, -, -, -, e, -⟩
  · exact ⟨0, by omega, e, sk_lenE (by omega) e⟩
  · exact ⟨m + 1, by omega, e, sk_lenE (by omega) e⟩
theorem sk_nm_par {t : sk_Tr} {i j m k : Nat} (hj : j < 2 ^ 31) (hm : m < 12) (ho : t.2.2.1 i = nI j) (h1 : t.2.2.2.2 j = nI m) (h2 : t.2.2.2.2 i = nI (m + 1)) (hk : k < m) : sk_nm t i k = sk_nm t j k := by
  unfold sk_nm
  rw [sk_lenE (by omega) h1, sk_lenE (by omega) h2, show m + 1 - 1 - k = (m - 1 - k) + 1 by omega]
  show t.2.2.2.1 (sk_up t (m - 1 - k) (t.2.2.1 i).toNatClampNeg) = _
  rw [ho, nI_clamp hj]
theorem sk_nm_top {t : sk_Tr} {i m : Nat} (hm : m < 12) (h2 : t.2.2.2.2 i = nI (m + 1)) : sk_nm t i m = t.2.2.2.1 i := by
  unfold sk_nm
  rw [sk_lenE (by omega) h2, show m + 1 - 1 - m = 0 by omega]
  rfl
/-- induction along the origins -/
theorem sk_ind {nO : Nat} {t : sk_Tr} (h : sk_TO nO t) (P : Nat → Prop) (h0 : ∀ i, i < t.1 → t.2.2.1 i = -1 → t.2.2.2.2 i = nI 0 → P i)
    (hs : ∀ i j m a, i < t.1 → j < i → m < 12 → a < 12 → t.2.2.1 i = nI j → t.2.2.2.2 j = nI m → t.2.2.2.2 i = nI (m + 1) → t.2.1 i = t.2.1 j → t.2.2.2.1 i = nI a → (∀ k, k < m → ¬ sk_nm t j k = t.2.2.2.1 i) → P j → P i) : ∀ i, i < t.1 → P i := by
  intro i
  induction i using Nat.strongRecOn with
  | ind i ih =>
    intro hi
    rcases (h.2.2.2.2.2 i hi).2 with ⟨a, b⟩ | ⟨j, m, a, h1, h2, h3, h4, h5, h6, h7, h8, h9⟩
    · exact h0 i hi a b
    · exact hs i j m a hi h1 h2 h3 h4 h5 h6 h7 h8 h9 (ih j h1 (by omega))
theorem sk_t31 {nO : Nat} {t : sk_Tr} (h : sk_TO nO t) {i : Nat} (hi : i < t.1) : i < 2 ^ 31 := by have := h.2.1; omega
/-- names are 0 .. 11 -/
theorem sk_nm_in {nO : Nat} {t : sk_Tr} (h : sk_TO nO t) : ∀ i, i < t.1 → ∀ k, k < sk_len t i → ∃ a, a < 12 ∧ sk_nm t i k = nI a := by
  refine sk_ind h (fun i => ∀ k, k < sk_len t i → ∃ a, a < 12 ∧ sk_nm t i k = nI a) ?_ ?_
  · intro i hi _ e k hk
    rw [sk_lenE (by omega) e] at hk
    omega
  · intro i j m a hi hj hm ha ho h1 h2 hp hl hd ih k hk
    rw [sk_lenE (by omega) h2] at hk
    by_cases hkm : k < m
    · rw [sk_nm_par (by have := sk_t31 h hi; omega) hm ho h1 h2 hkm]
      exact ih k (by rw [sk_lenE (by omega) h1]; exact hkm)
    · have hkm : k = m := by omega
      subst hkm
      rw [sk_nm_top hm h2]
      exact ⟨a, ha, hl⟩
/-- names are apart -/
theorem sk_nm_inj {nO : Nat} {t : sk_Tr} (h : sk_TO nO t) : ∀ i, i < t.1 → ∀ k, k < sk_len t i → ∀ g, g < sk_len t i → sk_nm t i k = sk_nm t i g → k = g := by
  refine sk_ind h (fun i => ∀ k, k < sk_len t i → ∀ g, g < sk_len t i → sk_nm t i k = sk_nm t i g → k = g) ?_ ?_
  · intro i hi _ e k hk
    rw [sk_lenE (by omega) e] at hk
    omega
  · intro i j m a hi hj hm ha ho h1 h2 hp hl hd ih k hk g hg e
    rw [sk_lenE (by omega) h2] at hk hg
    have hj31 : j < 2 ^ 31 := by have := sk_t31 h hi; omega
    by_cases hkm : k < m
    · by_cases hgm : g < m
      · rw [sk_nm_par hj31 hm ho h1 h2 hkm, sk_nm_par hj31 hm ho h1 h2 hgm] at e
        exact ih k (by rw [sk_lenE (by omega) h1]; exact hkm) g (by rw [sk_lenE (by omega) h1]; exact hgm) e
      · have hgm : g = m := by omega
        subst hgm
        rw [sk_nm_par hj31 hm ho h1 h2 hkm, sk_nm_top hm h2] at e
        exact absurd e (hd k hkm)
    · have hkm : k = m := by omega
      subst hkm
      by_cases hgm : g < k
      · rw [sk_nm_par hj31 hm ho h1 h2 hgm, sk_nm_top hm h2] at e
        exact absurd e.symm (hd g hgm)
      · omega
/-- what the place of a name is -/
theorem sk_place_spec {nO : Nat} {t : sk_Tr} (h : sk_TO nO t) (x : Int32) : ∀ i, i < t.1 → (sk_place t x i = -1 ∧ ∀ k, k < sk_len t i → ¬ sk_nm t i k = x) ∨ ∃ k, k < sk_len t i ∧ sk_place t x i = nI k ∧ sk_nm t i k = x := by
  refine sk_ind h (fun i => (sk_place t x i = -1 ∧ ∀ k, k < sk_len t i → ¬ sk_nm t i k = x) ∨ ∃ k, k < sk_len t i ∧ sk_place t x i = nI k ∧ sk_nm t i k = x) ?_ ?_
  · intro i hi _ e
    refine Or.inl ⟨?_, fun k hk => ?_⟩
    · unfold sk_place; rw [sk_lenE (by omega) e]; rfl
    · rw [sk_lenE (by omega) e] at hk; omega
  · intro i j m a hi hj hm ha ho h1 h2 hp hl hd ih
    have hj31 : j < 2 ^ 31 := by have := sk_t31 h hi; omega
    have hli := sk_lenE (s := i) (by omega : m + 1 < 2 ^ 31) h2
    have hlj := sk_lenE (s := j) (by omega : m < 2 ^ 31) h1
    have hpl : sk_place t x i = if t.2.2.2.1 i = x then nI m else sk_place t x j := by
      unfold sk_place
      rw [hli, hlj]
      show (if t.2.2.2.1 i = x then nI m else sk_pl t x m (t.2.2.1 i).toNatClampNeg) = _
      rw [ho, nI_clamp hj31]
    rw [hpl, hli]
    by_cases hx : t.2.2.2.1 i = x
    · rw [if_pos hx]
      exact Or.inr ⟨m, by omega, rfl, by rw [sk_nm_top hm h2]; exact hx⟩
    · rw [if_neg hx]
      rcases ih with ⟨e, q⟩ | ⟨k, hk, e, q⟩
      · refine Or.inl ⟨e, fun k hk => ?_⟩
        by_cases hkm : k < m
        · rw [sk_nm_par hj31 hm ho h1 h2 hkm]
          exact q k (by rw [hlj]; exact hkm)
        · have hkm : k = m := by omega
          subst hkm
          rw [sk_nm_top hm h2]; exact hx
      · rw [hlj] at hk
        exact Or.inr ⟨k, by omega, e, by rw [sk_nm_par hj31 hm ho h1 h2 hk]; exact q⟩
/-- .. and nothing else is -/
theorem sk_place_uniq {nO : Nat} {t : sk_Tr} (h : sk_TO nO t) {x r : Int32} {i : Nat} (hi : i < t.1) (hr : (r = -1 ∧ ∀ k, k < sk_len t i → ¬ sk_nm t i k = x) ∨ ∃ k, k < sk_len t i ∧ r = nI k ∧ sk_nm t i k = x) : r = sk_place t x i := by
  rcases sk_place_spec h x i hi with ⟨e, q⟩ | ⟨k, hk, e, q⟩
  · rcases hr with ⟨e2, -⟩ | ⟨g, hg, -, q2⟩
    · rw [e, e2]
    · exact absurd q2 (q g hg)
  · rcases hr with ⟨-, q2⟩ | ⟨g, hg, e2, q2⟩
    · exact absurd q (q2 k hk)
    · rw [e, e2, sk_nm_inj h i hi k hk g hg (q.trans q2.symm)]
