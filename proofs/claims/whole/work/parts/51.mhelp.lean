theorem sk_step {nO : Nat} {t : sk_Tr} {q j : Nat} {ns : List Int32} (h : sk_TO nO t) (hq : q < t.1) (hcap : t.1 < 200) (hj : j < ns.length) (hd : (sk_names t q ++ ns.drop j).Nodup) (hi : sk_in12 (sk_names t q ++ ns.drop j)) :
    sk_TO nO (sk_grow1 t q (ns.getD j 0)) ∧ (sk_names (sk_grow1 t q (ns.getD j 0)) t.1 ++ ns.drop (j + 1)).Nodup ∧ sk_in12 (sk_names (sk_grow1 t q (ns.getD j 0)) t.1 ++ ns.drop (j + 1)) ∧ sk_len t q < 12 := by
  have e : sk_names t q ++ ns.drop j = (sk_names t q ++ [ns.getD j 0]) ++ ns.drop (j + 1) := by rw [sk_getD_drop hj, List.append_assoc]; rfl
  have hl := sk_len12 hd hi
  rw [e] at hd hi
  have hd1 : (sk_names t q ++ [ns.getD j 0]).Nodup := (List.nodup_append.mp hd).1
  have hi1 : sk_in12 (sk_names t q ++ [ns.getD j 0]) := fun x hx => hi x (List.mem_append_left _ hx)
  obtain ⟨q1, q2, q3, q4, q5, q6⟩ := sk_mk_spec [ns.getD j 0] t q h hq (show t.1 + 1 ≤ 200 by omega) hd1 hi1
  have q6 : sk_names (sk_grow1 t q (ns.getD j 0)) t.1 = sk_names t q ++ [ns.getD j 0] := q6
  refine ⟨q1, by rw [q6]; exact hd, by rw [q6]; exact hi, ?_⟩
  rw [List.length_append, sk_names_len, List.length_drop] at hl
  omega
theorem sk_names_e {nO : Nat} {t : sk_Tr} (h : sk_TO nO t) {i : Nat} (hi : i < t.1) (ho : t.2.2.1 i = -1) : sk_names t i = [] := by
  rcases (h.2.2.2.2.2 i hi).2 with ⟨-, e⟩ | ⟨j, m, a, h1, h2, h3, h4, -⟩
  · unfold sk_names; rw [sk_lenE (by omega) e]; rfl
  · exact absurd (h4.symm.trans ho) (sk_nm1 (by have := sk_t31 h hi; omega))
theorem sk_names_m {t : sk_Tr} {x : Int32} : sk_names (sk_make t x (-1) (-1) 0) t.1 = [] := by
  unfold sk_names
  rw [sk_lenE (t := sk_make t x (-1) (-1) 0) (m := 0) (by omega) pk_us]; rfl
theorem sk_app_d {ns l : List Int32} {i : Nat} (hi : i < ns.length) (h : l ++ ns.drop i = ns) : (l ++ [ns.getD i 0]) ++ ns.drop (i + 1) = ns := by
  rw [List.append_assoc, List.singleton_append, ← sk_getD_drop hi]; exact h
