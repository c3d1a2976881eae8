theorem sk_names_row {t : sk_Tr} {s g : Nat} {lf : sk_F} (hl : sk_len t s = g) (h : ∀ j, j < g → lf j = sk_nm t s j) : ∀ j, j < (sk_names t s).length → lf j = (sk_names t s).getD j 0 := fun j hj => by
  rw [sk_names_len, hl] at hj
  rw [List.getD_eq_getElem?_getD, sk_names_get (by rw [hl]; exact hj)]
  exact h j hj
theorem sk_y4 {y : Int32} (h : ¬ y ≤ nI 3) : ∃ j, j + 4 < 2 ^ 31 ∧ y = nI (j + 4) := by
  have h0 : ¬ y < 0 := fun q => h (by rw [Int32.lt_iff_toInt_lt] at q; rw [Int32.le_iff_toInt_le, nI_toInt (by decide)]; have : (0 : Int32).toInt = 0 := by decide
                                      omega)
  obtain ⟨j, hj, e⟩ := nI_of h0
  subst e
  have : ¬ j ≤ 3 := fun q => h (nI_le q (by decide))
  exact ⟨j - 4, by omega, by congr 1; omega⟩
theorem sk_shapeN_4 {b : sk_Ob} {t : sk_Tr} {f : sk_Fi} {o j : Nat} (hj : j + 4 < 2 ^ 31) : sk_shapeN (b, t, f) o (nI (j + 4)) = if j < sk_len t o then sk_nm t o j else -1 := by
  have ne : ∀ c, c < 4 → ¬ nI (j + 4) = nI c := fun c hc q => by have := sk_inj hj (by omega) q; omega
  have e4 : nI (j + 4) - 4 = nI j := by rw [show (4 : Int32) = nI 4 from rfl, pk_sub (by omega)]; congr 1
  have h4 : (4 : Int32) ≤ nI (j + 4) := nI_le (show 4 ≤ j + 4 by omega) hj
  unfold sk_shapeN
  rw [if_neg (show ¬ nI (j + 4) = 0 from ne 0 (by decide)), if_neg (show ¬ nI (j + 4) = 1 from ne 1 (by decide)), if_neg (show ¬ nI (j + 4) = 2 from ne 2 (by decide)), if_neg (show ¬ nI (j + 4) = 3 from ne 3 (by decide)), e4]
  show (if sk_hasB (sk_len t o) (nI j) = true ∧ 4 ≤ nI (j + 4) then sk_nm t o (nI j).toNatClampNeg else -1) = _
  by_cases c : j < sk_len t o
  · rw [if_pos c]
    by_cases hl : sk_len t o < 2 ^ 31
    · rw [if_pos ⟨sk_hasB_nI hl c, h4⟩, nI_clamp (by omega)]
    · exfalso
      have : sk_len t o ≤ 2 ^ 31 - 1 := by
        unfold sk_len
        have := (t.2.2.2.2 o).toInt_lt
        unfold Int32.toNatClampNeg
        omega
      omega
  · rw [if_neg c, if_neg (fun q => by
      by_cases hl : sk_len t o < 2 ^ 31
      · obtain ⟨z, hz, ez⟩ := (sk_hasB_iff hl).mp q.1
        have := sk_inj (by omega) (by omega) ez
        omega
      · exact absurd (show sk_len t o ≤ 2 ^ 31 - 1 by
          unfold sk_len
          have := (t.2.2.2.2 o).toInt_lt
          unfold Int32.toNatClampNeg
          omega) (by omega))]
theorem sk_shapeN_neg {b : sk_Ob} {t : sk_Tr} {f : sk_Fi} {o : Nat} {y : Int32} (h : ¬ 0 ≤ y) : sk_shapeN (b, t, f) o y = -1 := by
  have ne : ∀ c, c < 100 → ¬ nI c ≤ y := fun c hc q => h (by rw [Int32.le_iff_toInt_le, nI_toInt (by omega)] at q; rw [Int32.le_iff_toInt_le]; have : (0 : Int32).toInt = 0 := by decide
                                                             omega)
  have nq : ∀ c, c < 100 → ¬ y = nI c := fun c hc q => ne c hc (by rw [q, Int32.le_iff_toInt_le]; omega)
  unfold sk_shapeN
  rw [if_neg (show ¬ y = 0 from nq 0 (by decide)), if_neg (show ¬ y = 1 from nq 1 (by decide)), if_neg (show ¬ y = 2 from nq 2 (by decide)), if_neg (show ¬ y = 3 from nq 3 (by decide)), if_neg (fun q => ne 4 (by decide) q.2)]
