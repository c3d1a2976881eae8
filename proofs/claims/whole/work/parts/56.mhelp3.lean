theorem sk_lft_cut {nO : Nat} {t : sk_Tr} (h : sk_TO nO t) {s kk : Nat} {y : Int32} (hs : s < t.1) (hk : kk < sk_len t s) (hp : sk_nm t s kk = y) : ∀ n, n ≤ sk_len t s → (sk_lft t s y n).length + (if kk < n then 1 else 0) = n
  | 0, _ => by rw [if_neg (Nat.not_lt_zero _)]; rfl
  | n + 1, hn => by
    have ih := sk_lft_cut h hs hk hp n (by omega)
    rw [sk_lft_s (by omega), List.length_append]
    by_cases e : n = kk
    · subst e
      rw [if_pos hp, if_pos (Nat.lt_succ_self _), List.length_nil]
      rw [if_neg (Nat.lt_irrefl _)] at ih
      omega
    · have hne : ¬ sk_nm t s n = y := fun q => e (sk_nm_inj h s hs n (by omega) kk hk (q.trans hp.symm))
      rw [if_neg hne, List.length_singleton]
      by_cases c : kk < n
      · rw [if_pos c] at ih; rw [if_pos (by omega)]; omega
      · rw [if_neg c] at ih; rw [if_neg (by omega)]; omega
theorem sk_left_cut {nO : Nat} {t : sk_Tr} (h : sk_TO nO t) {s kk : Nat} {y : Int32} (hs : s < t.1) (hk : kk < sk_len t s) (hp : sk_nm t s kk = y) : (sk_left t s y).length + 1 = sk_len t s := by
  have := sk_lft_cut h hs hk hp (sk_len t s) (Nat.le_refl _)
  rw [if_pos hk, sk_lft_all (Nat.le_refl _)] at this
  exact this
def sk_nmt (t : sk_Tr) (s n : Nat) : List Int32 := (sk_names t s).take n
theorem sk_object_1 {b : sk_Ob} {t : sk_Tr} {f : sk_Fi} {x : Int32} (h : sk_canP b.1 x = false) : sk_object (b, t, f) x = (1, 0, (b, t, f)) := by unfold sk_object; rw [if_pos h]
theorem sk_object_2 {b : sk_Ob} {t : sk_Tr} {f : sk_Fi} {x : Int32} (h : sk_canP b.1 x = true) (h2 : 60 ≤ b.1) : sk_object (b, t, f) x = (2, 0, (b, t, f)) := by unfold sk_object; rw [if_neg (by show ¬ sk_canP b.1 x = false; rw [h]; decide), if_pos h2]
theorem sk_object_3 {b : sk_Ob} {t : sk_Tr} {f : sk_Fi} {x : Int32} (h : sk_canP b.1 x = true) (h2 : ¬ 60 ≤ b.1) (hr : sk_reach t x [] = none) : sk_object (b, t, f) x = (2, 0, (b, t, f)) := by
  unfold sk_object; rw [if_neg (by show ¬ sk_canP b.1 x = false; rw [h]; decide), if_neg h2]
  show (match sk_reach t x [] with | none => _ | some (u, r) => _) = _
  rw [hr]
theorem sk_object_4 {b : sk_Ob} {t u : sk_Tr} {f : sk_Fi} {x : Int32} {r : Nat} (h : sk_canP b.1 x = true) (h2 : ¬ 60 ≤ b.1) (hr : sk_reach t x [] = some (u, r)) : sk_object (b, t, f) x = (0, nI b.1, ((b.1 + 1, upd b.2.1 b.1 x, upd b.2.2.1 b.1 (nI r), b.2.2.2.1, b.2.2.2.2), u, f)) := by
  unfold sk_object; rw [if_neg (by show ¬ sk_canP b.1 x = false; rw [h]; decide), if_neg h2]
  show (match sk_reach t x [] with | none => _ | some (u, r) => _) = _
  rw [hr]
theorem sk_cP1 {n : Nat} {x : Int32} (h : x = -1) : sk_canP n x = true := by unfold sk_canP; rw [decide_eq_true h]; rfl
theorem sk_cP2 {n : Nat} {x : Int32} (h : sk_hasB n x = true) : sk_canP n x = true := by unfold sk_canP; rw [h, Bool.or_true]
theorem sk_cPf {n : Nat} {x : Int32} (h0 : ¬ x = -1) (h : sk_hasB n x = false) : sk_canP n x = false := by unfold sk_canP; rw [h, decide_eq_false h0]; rfl
theorem sk_left_lenE {nO : Nat} {t : sk_Tr} (h : sk_TO nO t) {s : Nat} (hs : s < t.1) {l : List Int32} {n : Nat} (hl : sk_names t s = l) (hn : l.length = n) : sk_len t s = n := by rw [← sk_names_len, hl, hn]
theorem sk_len_new {nO : Nat} {t u : sk_Tr} {s g : Nat} {x : Int32} (hu : sk_TO nO u) (hg : g < u.1) (hn : sk_names u g = sk_names t s ++ [x]) : sk_len t s < 12 := by
  have z1 := sk_len12 (sk_names_nodup hu hg) (sk_names_in hu hg)
  rw [hn, List.length_append, sk_names_len] at z1
  exact z1
