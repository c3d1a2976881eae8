theorem sk_swn (y : Int32) (n : Nat) (hn : n < 1000) : (∃ j, j ≤ n ∧ y = nI j) ∨ (y.toInt < 0 ∨ (n : Int) < y.toInt) := by
  by_cases h : y.toInt < 0 ∨ (n : Int) < y.toInt
  · exact Or.inr h
  · refine Or.inl ?_
    have h1 : ¬ y < 0 := fun q => h (Or.inl (by rw [Int32.lt_iff_toInt_lt] at q; exact q))
    have h2 : y ≤ nI n := by rw [Int32.le_iff_toInt_le, nI_toInt (by omega)]; omega
    obtain ⟨j, hj, e⟩ := nI_of2 (nI_toInt (by omega)) h1 h2
    exact ⟨j, hj, e⟩
theorem sk_sw5 (y : Int32) : y = nI 0 ∨ y = nI 1 ∨ y = nI 2 ∨ y = nI 3 ∨ y = nI 4 ∨ y = nI 5 ∨ (y.toInt < 0 ∨ 5 < y.toInt) := by
  rcases sk_swn y 5 (by decide) with ⟨j, hj, e⟩ | h
  · rcases (show j = 0 ∨ j = 1 ∨ j = 2 ∨ j = 3 ∨ j = 4 ∨ j = 5 by omega) with rfl | rfl | rfl | rfl | rfl | rfl
    · exact Or.inl e
    · exact Or.inr (Or.inl e)
    · exact Or.inr (Or.inr (Or.inl e))
    · exact Or.inr (Or.inr (Or.inr (Or.inl e)))
    · exact Or.inr (Or.inr (Or.inr (Or.inr (Or.inl e))))
    · exact Or.inr (Or.inr (Or.inr (Or.inr (Or.inr (Or.inl e)))))
  · exact Or.inr (Or.inr (Or.inr (Or.inr (Or.inr (Or.inr h)))))
theorem sk_sw3 (y : Int32) : y = nI 0 ∨ y = nI 1 ∨ y = nI 2 ∨ y = nI 3 ∨ (y.toInt < 0 ∨ 3 < y.toInt) := by
  rcases sk_swn y 3 (by decide) with ⟨j, hj, e⟩ | h
  · rcases (show j = 0 ∨ j = 1 ∨ j = 2 ∨ j = 3 by omega) with rfl | rfl | rfl | rfl
    · exact Or.inl e
    · exact Or.inr (Or.inl e)
    · exact Or.inr (Or.inr (Or.inl e))
    · exact Or.inr (Or.inr (Or.inr (Or.inl e)))
  · exact Or.inr (Or.inr (Or.inr (Or.inr h)))
theorem sk_ne_of5 {y : Int32} (h : y.toInt < 0 ∨ 5 < y.toInt) : ¬ y = 0 ∧ ¬ y = 1 ∧ ¬ y = 2 ∧ ¬ y = 3 ∧ ¬ y = 4 ∧ ¬ y = 5 := by
  refine ⟨?_, ?_, ?_, ?_, ?_, ?_⟩ <;> intro e <;> subst e <;> exact absurd h (by decide)
theorem sk_ne_of3 {y : Int32} (h : y.toInt < 0 ∨ 3 < y.toInt) : ¬ y = 0 ∧ ¬ y = 1 ∧ ¬ y = 2 ∧ ¬ y = 3 := by
  refine ⟨?_, ?_, ?_, ?_⟩ <;> intro e <;> subst e <;> exact absurd h (by decide)
theorem sk_look_y {b : sk_Ob} {t : sk_Tr} {f : sk_Fi} {o : Nat} {w : Int32} (h60 : b.1 ≤ 60) (ho : o < b.1) : sk_look (b, t, f) (nI o) w = sk_lookN (b, t, f) o w := by
  unfold sk_look; rw [if_pos (by show sk_hasB b.1 (nI o) = true; exact sk_hasB_nI (by omega) ho), nI_clamp (by omega)]
theorem sk_look_n {S : sk_S} {x w : Int32} (h : sk_hasB S.1.1 x = false) : sk_look S x w = -1 := by unfold sk_look; rw [if_neg (by rw [h]; decide)]
theorem sk_shape_y {b : sk_Ob} {t : sk_Tr} {f : sk_Fi} {o : Nat} {w : Int32} (h60 : t.1 ≤ 200) (ho : o < t.1) : sk_shape (b, t, f) (nI o) w = sk_shapeN (b, t, f) o w := by
  unfold sk_shape; rw [if_pos (by show sk_hasB t.1 (nI o) = true; exact sk_hasB_nI (by omega) ho), nI_clamp (by omega)]
theorem sk_shape_n {S : sk_S} {x w : Int32} (h : sk_hasB S.2.1.1 x = false) : sk_shape S x w = -1 := by unfold sk_shape; rw [if_neg (by rw [h]; decide)]
theorem sk_finding_n {S : sk_S} {x w : Int32} (h : sk_hasB (sk_there S.2.2) x = false) : sk_finding S x w = -1 := by unfold sk_finding; rw [if_neg (by rw [h]; decide)]
theorem sk_sub4 {y : Int32} (h : nI 4 ≤ y) : 4 ≤ y := h
