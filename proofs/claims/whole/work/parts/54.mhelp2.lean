theorem sk_isF_t {n : Nat} {x : Int32} (h1 : ¬ x < 0) (h2 : ¬ nI 100 ≤ x) (h3 : ¬ nI n ≤ x) : nI 1 = sk_bI (sk_hasB (min n 100) x) := by
  refine sk_hasB_t h1 ?_
  by_cases c : n ≤ 100
  · rw [Nat.min_eq_left c]; exact h3
  · rw [Nat.min_eq_right (by omega)]; exact h2
theorem sk_isF_f2 {n : Nat} {x : Int32} (hn : n < 2 ^ 31) (h : nI 100 ≤ x) : nI 0 = sk_bI (sk_hasB (min n 100) x) :=
  sk_hasB_f2 (by have h9 : nI (min n 100) ≤ nI 100 := nI_le (Nat.min_le_right _ _) (by decide)
                 rw [Int32.le_iff_toInt_le] at h h9 ⊢; omega)
theorem sk_isF_f3 {n : Nat} {x : Int32} (hn : n < 2 ^ 31) (h : nI n ≤ x) : nI 0 = sk_bI (sk_hasB (min n 100) x) :=
  sk_hasB_f2 (by have h9 : nI (min n 100) ≤ nI n := nI_le (Nat.min_le_left _ _) hn
                 rw [Int32.le_iff_toInt_le] at h h9 ⊢; omega)
theorem sk_where_or (f : sk_Fi) (i : Nat) : (f.2.2.2.2.1 i = -1 ∧ sk_where f i = nI 0) ∨ (¬ f.2.2.2.2.1 i = -1 ∧ f.2.2.2.1 i = -1 ∧ sk_where f i = nI 1) ∨ (¬ f.2.2.2.2.1 i = -1 ∧ ¬ f.2.2.2.1 i = -1 ∧ sk_where f i = nI 2) := by
  unfold sk_where
  by_cases h1 : f.2.2.2.2.1 i = -1
  · rw [if_pos h1]; exact Or.inl ⟨h1, rfl⟩
  · by_cases h2 : f.2.2.2.1 i = -1
    · rw [if_neg h1, if_pos h2]; exact Or.inr (Or.inl ⟨h1, h2, rfl⟩)
    · rw [if_neg h1, if_neg h2]; exact Or.inr (Or.inr ⟨h1, h2, rfl⟩)
theorem sk_get_1 {b : sk_Ob} {t : sk_Tr} {f : sk_Fi} {x y : Int32} (h : sk_hasB (sk_there f) x = false) : sk_get (b, t, f) x y = (1, 0) := by
  unfold sk_get; rw [if_pos h]
theorem sk_get_2 {b : sk_Ob} {t : sk_Tr} {f : sk_Fi} {x y : Int32} (h : sk_hasB (sk_there f) x = true) (h2 : nI 0 = sk_bI (sk_holds (b, t, f) x y)) : sk_get (b, t, f) x y = (2, 0) := by
  have h3 : sk_holds (b, t, f) x y = false := by cases q : sk_holds (b, t, f) x y with | false => rfl | true => rw [q] at h2; exact absurd h2 (by decide)
  unfold sk_get; rw [if_neg (by show ¬ sk_hasB (sk_there f) x = false; rw [h]; decide), if_pos h3]
theorem sk_get_ok {b : sk_Ob} {t : sk_Tr} {f : sk_Fi} {x y : Int32} (h : sk_hasB (sk_there f) x = true) (h2 : nI 1 = sk_bI (sk_holds (b, t, f) x y)) : sk_get (b, t, f) x y = if f.2.2.2.2.1 x.toNatClampNeg = -1 then (3, 0) else (0, b.2.2.2.2 (if f.2.2.2.1 x.toNatClampNeg = -1 then y.toNatClampNeg else (f.2.2.2.1 x.toNatClampNeg).toNatClampNeg) (f.2.2.2.2.1 x.toNatClampNeg).toNatClampNeg) := by
  have h3 : sk_holds (b, t, f) x y = true := by cases q : sk_holds (b, t, f) x y with | true => rfl | false => rw [q] at h2; exact absurd h2 (by decide)
  unfold sk_get; rw [if_neg (by show ¬ sk_hasB (sk_there f) x = false; rw [h]; decide), if_neg (by rw [h3]; decide)]
theorem sk_read_1 {b : sk_Ob} {t : sk_Tr} {f : sk_Fi} {x y : Int32} (h : sk_hasB b.1 x = false) : sk_read (b, t, f) x y = (1, 0) := by
  unfold sk_read; rw [if_neg (by show ¬ sk_hasB b.1 x = true; rw [h]; decide)]
theorem sk_read_2 {b : sk_Ob} {t : sk_Tr} {f : sk_Fi} {o : Nat} {y : Int32} (h60 : b.1 ≤ 60) (ho : o < b.1) (h : -1 = sk_nw (sk_own b t y) (sk_abv b.2.1 (nI o))) : sk_read (b, t, f) (nI o) y = (2, 0) := by
  unfold sk_read sk_readN; rw [if_pos (by show sk_hasB b.1 (nI o) = true; exact sk_hasB_nI (by omega) ho), nI_clamp (by omega), if_pos h.symm]
theorem sk_read_3 {b : sk_Ob} {t : sk_Tr} {f : sk_Fi} {o q k : Nat} {y : Int32} (h60 : b.1 ≤ 60) (ho : o < b.1) (hq : q < 60) (hk : k < 12) (h : nI q = sk_nw (sk_own b t y) (sk_abv b.2.1 (nI o))) (hp : sk_place t y (sk_sh b q) = nI k) : sk_read (b, t, f) (nI o) y = (0, b.2.2.2.2 q k) := by
  unfold sk_read sk_readN
  rw [if_pos (by show sk_hasB b.1 (nI o) = true; exact sk_hasB_nI (by omega) ho), nI_clamp (by omega)]
  show (if sk_nw (sk_own b t y) (sk_abv b.2.1 (nI o)) = -1 then _ else (0, b.2.2.2.2 (sk_nw (sk_own b t y) (sk_abv b.2.1 (nI o))).toNatClampNeg (sk_place t y (sk_sh b (sk_nw (sk_own b t y) (sk_abv b.2.1 (nI o))).toNatClampNeg)).toNatClampNeg)) = _
  rw [← h, if_neg (sk_nm1 (by omega)), nI_clamp (by omega), hp, nI_clamp (by omega)]
