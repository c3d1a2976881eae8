theorem sk_grow_hit {nO : Nat} {t : sk_Tr} (h : sk_TO nO t) {s : Nat} (hs : s < t.1) {x : Int32} (hw : ¬ sk_wn t s x = -1) : ∃ g, sk_grow t s x = some (t, g) ∧ sk_wn t s x = nI g := by
  rcases sk_wn_spec h hs x with ⟨e, -⟩ | ⟨i, m, hi, hsi, e, -⟩
  · exact absurd e hw
  · exact ⟨i, by unfold sk_grow; rw [if_neg hw, e, nI_clamp (sk_t31 h hi)], e⟩
theorem sk_getD_drop {ns : List Int32} {i : Nat} (hi : i < ns.length) : ns.drop i = ns.getD i 0 :: ns.drop (i + 1) := by
  rw [List.drop_eq_getElem_cons hi, List.getD_eq_getElem?_getD, List.getElem?_eq_getElem hi, Option.getD_some]
theorem sk_down_hit {t : sk_Tr} {ns : List Int32} {i q j : Nat} (hi : i < ns.length) (hj : j < 2 ^ 31) (hw : sk_wn t q (ns.getD i 0) = nI j) : sk_down t q (ns.drop i) = sk_down t j (ns.drop (i + 1)) := by
  rw [sk_getD_drop hi, sk_down, if_neg (by rw [hw]; exact sk_nm1 hj), hw, nI_clamp hj]
theorem sk_down_miss {t : sk_Tr} {ns : List Int32} {i q : Nat} (hi : i < ns.length) (hw : sk_wn t q (ns.getD i 0) = -1) : sk_down t q (ns.drop i) = (q, ns.drop i) := by
  rw [sk_getD_drop hi, sk_down, if_pos hw]
theorem sk_down_end {t : sk_Tr} {ns : List Int32} {i q : Nat} (hi : ns.length ≤ i) : sk_down t q (ns.drop i) = (q, ns.drop i) := by
  rw [List.drop_eq_nil_of_le hi]; rfl
theorem sk_mk_step {t : sk_Tr} {ns : List Int32} {i q : Nat} (hi : i < ns.length) : sk_mk t q (ns.drop i) = sk_mk (sk_grow1 t q (ns.getD i 0)) t.1 (ns.drop (i + 1)) := by
  rw [sk_getD_drop hi]; rfl
theorem sk_mk_end {t : sk_Tr} {ns : List Int32} {i q : Nat} (hi : ns.length ≤ i) : sk_mk t q (ns.drop i) = (t, q) := by
  rw [List.drop_eq_nil_of_le hi]; rfl
theorem sk_reach_n1 {t : sk_Tr} {x : Int32} {ns : List Int32} (he : sk_em t x = -1) (h : 200 < t.1 + (1 + ns.length)) : sk_reach t x ns = none := by
  unfold sk_reach; rw [if_pos he, if_pos h]
theorem sk_reach_s1 {t : sk_Tr} {x : Int32} {ns : List Int32} (he : sk_em t x = -1) (h : ¬ 200 < t.1 + (1 + ns.length)) : sk_reach t x ns = some (sk_mk (sk_make t x (-1) (-1) 0) t.1 (ns.drop 0)) := by
  unfold sk_reach; rw [if_pos he, if_neg h]; rfl
theorem sk_reach_n2 {t : sk_Tr} {x : Int32} {ns : List Int32} {q0 q i : Nat} (h0 : q0 < 2 ^ 31) (he : sk_em t x = nI q0) (hd : sk_down t q0 ns = (q, ns.drop i)) (h : 200 < t.1 + (ns.length - i)) : sk_reach t x ns = none := by
  unfold sk_reach; rw [if_neg (by rw [he]; exact sk_nm1 h0), he, nI_clamp h0, hd, if_pos (by rw [List.length_drop]; exact h)]
theorem sk_reach_s2 {t : sk_Tr} {x : Int32} {ns : List Int32} {q0 q i : Nat} (h0 : q0 < 2 ^ 31) (he : sk_em t x = nI q0) (hd : sk_down t q0 ns = (q, ns.drop i)) (h : ¬ 200 < t.1 + (ns.length - i)) : sk_reach t x ns = some (sk_mk t q (ns.drop i)) := by
  unfold sk_reach; rw [if_neg (by rw [he]; exact sk_nm1 h0), he, nI_clamp h0, hd, if_neg (by rw [List.length_drop]; exact h)]
def sk_lft (t : sk_Tr) (s : Nat) (x : Int32) (n : Nat) : List Int32 := ((sk_names t s).take n).filter (fun a => !decide (a = x))
theorem sk_lft_s {t : sk_Tr} {s n : Nat} {x : Int32} (h : n < sk_len t s) : sk_lft t s x (n + 1) = sk_lft t s x n ++ (if sk_nm t s n = x then [] else [sk_nm t s n]) := by
  unfold sk_lft
  rw [List.take_succ, sk_names_get h, List.filter_append]
  congr 1
  by_cases e : sk_nm t s n = x
  · rw [if_pos e]; simp [e]
  · rw [if_neg e]; simp [e]
theorem sk_lft_len (t : sk_Tr) (s : Nat) (x : Int32) (n : Nat) : (sk_lft t s x n).length ≤ n := by
  unfold sk_lft
  exact Nat.le_trans (List.length_filter_le _ _) (by rw [List.length_take]; omega)
theorem sk_lft_all {t : sk_Tr} {s n : Nat} {x : Int32} (h : sk_len t s ≤ n) : sk_lft t s x n = sk_left t s x := by
  unfold sk_lft sk_left
  rw [List.take_of_length_le (by rw [sk_names_len]; exact h)]
theorem sk_row_app {w : sk_F} {l : List Int32} {v : Int32} (h : ∀ j, j < l.length → w j = l.getD j 0) : ∀ j, j < (l ++ [v]).length → upd w l.length v j = (l ++ [v]).getD j 0 := by
  intro j hj
  rw [List.length_append, List.length_singleton] at hj
  by_cases e : j = l.length
  · subst e
    rw [pk_us, List.getD_eq_getElem?_getD, List.getElem?_append_right (Nat.le_refl _), Nat.sub_self]; rfl
  · rw [pk_un e, h j (by omega), List.getD_eq_getElem?_getD, List.getD_eq_getElem?_getD, List.getElem?_append_left (by omega)]
theorem sk_left_m1 {nO : Nat} {t : sk_Tr} (h : sk_TO nO t) {s : Nat} (hs : s < t.1) : sk_left t s (-1) = sk_names t s := by
  unfold sk_left
  refine List.filter_eq_self.mpr (fun a ha => ?_)
  obtain ⟨g, hg, e⟩ := sk_names_in h hs a ha
  rw [e]
  simp [sk_nm1 (show g < 2 ^ 31 by omega)]
theorem sk_left_len {nO : Nat} {t : sk_Tr} (h : sk_TO nO t) {s : Nat} (hs : s < t.1) (x : Int32) : (sk_left t s x).length ≤ 12 := sk_len12 (sk_left_ok h hs x).1 (sk_left_ok h hs x).2
theorem sk_endw {D : va_G} {ws : va_W} {U : State} {H : Heap} {A : Nat → Prop} (ht : U.heap = H) (hP : va_P D vwCl ws H) (hD : va_D A ws) : va_P D vwCl ws U.heap ∧ va_D A ws := ⟨by rw [ht]; exact hP, hD⟩
