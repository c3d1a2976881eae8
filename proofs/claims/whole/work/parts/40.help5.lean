theorem sk_set_n {S : sk_S} {x y v : Int32} (h : (sk_hasB S.1.1 x && sk_isN y) = false) : sk_set S x y v = (false, S) := by unfold sk_set; rw [if_neg (by rw [h]; decide)]
theorem sk_set_y {S : sk_S} {o : Nat} {y v : Int32} (h60 : S.1.1 ≤ 60) (ho : o < S.1.1) (hy : sk_isN y = true) : sk_set S (nI o) y v = sk_setN S o y v := by unfold sk_set; rw [if_pos (by rw [sk_hasB_nI (by omega) ho, hy]; rfl), nI_clamp (by omega)]
theorem sk_set_1 {b : sk_Ob} {t : sk_Tr} {f : sk_Fi} {o kk : Nat} {y v : Int32} (hk : kk < 12) (hp : sk_place t y (sk_sh b o) = nI kk) : sk_setN (b, t, f) o y v = (true, (sk_setv b o kk v, t, f)) := by
  unfold sk_setN
  show (if sk_place t y (sk_sh b o) = -1 then _ else (true, (sk_setv b o (sk_place t y (sk_sh b o)).toNatClampNeg v, t, f))) = _
  rw [hp, if_neg (sk_nm1 (by omega)), nI_clamp (by omega)]
theorem sk_set_2 {b : sk_Ob} {t : sk_Tr} {f : sk_Fi} {o : Nat} {y v : Int32} (hp : sk_place t y (sk_sh b o) = -1) (hg : sk_grow t (sk_sh b o) y = none) : sk_setN (b, t, f) o y v = (false, (b, t, f)) := by
  unfold sk_setN
  rw [if_pos hp]
  show (match sk_grow t (sk_sh b o) y with | none => _ | some (u, g) => _) = _
  rw [hg]
theorem sk_set_3 {b : sk_Ob} {t t2 : sk_Tr} {f : sk_Fi} {o g : Nat} {y v : Int32} (hp : sk_place t y (sk_sh b o) = -1) (hg : sk_grow t (sk_sh b o) y = some (t2, g)) : sk_setN (b, t, f) o y v = (true, (sk_setv (sk_chg b o g) o (sk_len t (sk_sh b o)) v, t2, sk_brk f o)) := by
  unfold sk_setN
  rw [if_pos hp]
  show (match sk_grow t (sk_sh b o) y with | none => _ | some (u, g) => _) = _
  rw [hg]
theorem sk_drop_n {S : sk_S} {x y : Int32} (h : sk_hasB S.1.1 x = false) : sk_drop S x y = (false, S) := by unfold sk_drop; rw [if_neg (by rw [h]; decide)]
theorem sk_drop_y {S : sk_S} {o : Nat} {y : Int32} (h60 : S.1.1 ≤ 60) (ho : o < S.1.1) : sk_drop S (nI o) y = sk_dropN S o y := by unfold sk_drop; rw [if_pos (sk_hasB_nI (by omega) ho), nI_clamp (by omega)]
theorem sk_drop_1 {b : sk_Ob} {t : sk_Tr} {f : sk_Fi} {o : Nat} {y : Int32} (hp : sk_place t y (sk_sh b o) = -1) : sk_dropN (b, t, f) o y = (false, (b, t, f)) := by unfold sk_dropN; rw [if_pos hp]
theorem sk_drop_2 {b : sk_Ob} {t : sk_Tr} {f : sk_Fi} {o kk : Nat} {y : Int32} (hk : kk < 12) (hp : sk_place t y (sk_sh b o) = nI kk) (hr : sk_reach t (b.2.1 o) (sk_left t (sk_sh b o) y) = none) : sk_dropN (b, t, f) o y = (false, (b, t, f)) := by
  unfold sk_dropN
  rw [if_neg (by show ¬ sk_place t y (sk_sh b o) = -1; rw [hp]; exact sk_nm1 (by omega))]
  show (match sk_reach t (b.2.1 o) (sk_left t (sk_sh b o) y) with | none => _ | some (u, g) => _) = _
  rw [hr]
theorem sk_drop_3 {b : sk_Ob} {t t2 : sk_Tr} {f : sk_Fi} {o kk g : Nat} {y : Int32} (hk : kk < 12) (hp : sk_place t y (sk_sh b o) = nI kk) (hr : sk_reach t (b.2.1 o) (sk_left t (sk_sh b o) y) = some (t2, g)) : sk_dropN (b, t, f) o y = (true, (sk_chg (sk_gap b o kk) o g, t2, sk_brk f o)) := by
  unfold sk_dropN
  rw [if_neg (by show ¬ sk_place t y (sk_sh b o) = -1; rw [hp]; exact sk_nm1 (by omega))]
  show (match sk_reach t (b.2.1 o) (sk_left t (sk_sh b o) y) with | none => _ | some (u, g) => (true, (sk_chg (sk_gap b o (sk_place t y (sk_sh b o)).toNatClampNeg) o g, u, sk_brk f o))) = _
  rw [hr, hp, nI_clamp (by omega)]
theorem sk_turn_n {S : sk_S} {x y : Int32} (h : (sk_hasB S.1.1 x && sk_canP S.1.1 y) = false) : sk_turn S x y = (false, S) := by unfold sk_turn; rw [if_neg (by rw [h]; decide)]
theorem sk_turn_y {S : sk_S} {o : Nat} {y : Int32} (h60 : S.1.1 ≤ 60) (ho : o < S.1.1) (hy : sk_canP S.1.1 y = true) : sk_turn S (nI o) y = sk_turnN S o y := by unfold sk_turn; rw [if_pos (by rw [sk_hasB_nI (by omega) ho, hy]; rfl), nI_clamp (by omega)]
theorem sk_turn_1 {b : sk_Ob} {t : sk_Tr} {f : sk_Fi} {o : Nat} {y : Int32} (h : decide (o ∈ sk_abv b.2.1 y) = true) : sk_turnN (b, t, f) o y = (false, (b, t, f)) := by unfold sk_turnN; rw [if_pos (of_decide_eq_true h)]
theorem sk_turn_2 {b : sk_Ob} {t : sk_Tr} {f : sk_Fi} {o : Nat} {y : Int32} (h : decide (o ∈ sk_abv b.2.1 y) = false) (hr : sk_reach t y (sk_names t (sk_sh b o)) = none) : sk_turnN (b, t, f) o y = (false, (b, t, f)) := by
  unfold sk_turnN
  rw [if_neg (of_decide_eq_false h)]
  show (match sk_reach t y (sk_names t (sk_sh b o)) with | none => _ | some (u, g) => _) = _
  rw [hr]
theorem sk_turn_3 {b : sk_Ob} {t t2 : sk_Tr} {f : sk_Fi} {o g : Nat} {y : Int32} (h : decide (o ∈ sk_abv b.2.1 y) = false) (hr : sk_reach t y (sk_names t (sk_sh b o)) = some (t2, g)) : sk_turnN (b, t, f) o y = (true, (sk_chg (b.1, upd b.2.1 o y, b.2.2) o g, t2, sk_brk f o)) := by
  unfold sk_turnN
  rw [if_neg (of_decide_eq_false h)]
  show (match sk_reach t y (sk_names t (sk_sh b o)) with | none => _ | some (u, g) => _) = _
  rw [hr]
theorem sk_find_n {S : sk_S} {x y : Int32} (h : (sk_hasB S.1.1 x && sk_isN y) = false) : sk_find S x y = (-1, S) := by unfold sk_find; rw [if_neg (by rw [h]; decide)]
theorem sk_find_y {b : sk_Ob} {t : sk_Tr} {f : sk_Fi} {o : Nat} {y : Int32} (h60 : b.1 ≤ 60) (ho : o < b.1) (hy : sk_isN y = true) : sk_find (b, t, f) (nI o) y = (nI (f.1 % 100), (b, t, sk_findN (b, t, f) o y)) := by unfold sk_find; rw [if_pos (by show (sk_hasB b.1 (nI o) && sk_isN y) = true; rw [sk_hasB_nI (by omega) ho, hy]; rfl), nI_clamp (by omega)]
theorem sk_find_1 {b : sk_Ob} {t : sk_Tr} {f : sk_Fi} {o kk : Nat} {y : Int32} (hk : kk < 12) (hs : b.2.2.1 o = nI (sk_sh b o)) (hp : sk_place t y (sk_sh b o) = nI kk) : sk_findN (b, t, f) o y = sk_add f (nI (sk_sh b o)) y (-1) (nI kk) [] := by
  unfold sk_findN
  show (if sk_place t y (sk_sh b o) = -1 then _ else sk_add f (b.2.2.1 o) y (-1) (sk_place t y (sk_sh b o)) []) = _
  rw [hp, if_neg (sk_nm1 (by omega)), hs]
theorem sk_find_2 {b : sk_Ob} {t : sk_Tr} {f : sk_Fi} {o : Nat} {y r z : Int32} (hs : b.2.2.1 o = nI (sk_sh b o)) (hp : sk_place t y (sk_sh b o) = -1) (hr : r = sk_nw (sk_own b t y) (sk_abv b.2.1 (b.2.1 o))) (hz : z = sk_opl b t y r) : sk_findN (b, t, f) o y = sk_add f (nI (sk_sh b o)) y r z (sk_upto (sk_own b t y) (sk_abv b.2.1 (b.2.1 o))) := by
  subst hz; subst hr
  unfold sk_findN
  rw [if_pos hp]
  show sk_add f (b.2.2.1 o) y _ _ _ = _
  rw [hs]
theorem sk_hold_f1 {b : sk_Ob} {t : sk_Tr} {f : sk_Fi} {x y : Int32} (h : sk_hasB (sk_there f) x = false) : nI 0 = sk_bI (sk_holds (b, t, f) x y) := by
  show nI 0 = sk_bI (sk_hasB (sk_there f) x && _); rw [h]; rfl
theorem sk_hold_f2 {b : sk_Ob} {t : sk_Tr} {f : sk_Fi} {x y : Int32} (h : sk_hasB b.1 y = false) : nI 0 = sk_bI (sk_holds (b, t, f) x y) := by
  show nI 0 = sk_bI (sk_hasB (sk_there f) x && (sk_hasB b.1 y && _)); rw [h, Bool.false_and, Bool.and_false]; rfl
theorem sk_hold_f3 {b : sk_Ob} {t : sk_Tr} {f : sk_Fi} {g : Nat} {y : Int32} (hg : g < 2 ^ 31) (h : f.2.2.2.2.2.2 g = false) : nI 0 = sk_bI (sk_holds (b, t, f) (nI g) y) := by
  show nI 0 = sk_bI (sk_hasB (sk_there f) (nI g) && (sk_hasB b.1 y && (f.2.2.2.2.2.2 (nI g).toNatClampNeg && _))); rw [nI_clamp hg, h, Bool.false_and, Bool.and_false, Bool.and_false]; rfl
theorem sk_hold_f4 {b : sk_Ob} {t : sk_Tr} {f : sk_Fi} {g o : Nat} (hg : g < 2 ^ 31) (ho : o < 2 ^ 31) (h : ¬ f.2.1 g = b.2.2.1 o) : nI 0 = sk_bI (sk_holds (b, t, f) (nI g) (nI o)) := by
  show nI 0 = sk_bI (sk_hasB (sk_there f) (nI g) && (sk_hasB b.1 (nI o) && (f.2.2.2.2.2.2 (nI g).toNatClampNeg && decide (f.2.1 (nI g).toNatClampNeg = b.2.2.1 (nI o).toNatClampNeg)))); rw [nI_clamp hg, nI_clamp ho, decide_eq_false h, Bool.and_false, Bool.and_false, Bool.and_false]; rfl
theorem sk_hold_t {b : sk_Ob} {t : sk_Tr} {f : sk_Fi} {g o : Nat} (hg : g < 2 ^ 31) (ho : o < 2 ^ 31) (h1 : sk_hasB (sk_there f) (nI g) = true) (h2 : sk_hasB b.1 (nI o) = true) (h3 : f.2.2.2.2.2.2 g = true) (h : f.2.1 g = b.2.2.1 o) : nI 1 = sk_bI (sk_holds (b, t, f) (nI g) (nI o)) := by
  show nI 1 = sk_bI (sk_hasB (sk_there f) (nI g) && (sk_hasB b.1 (nI o) && (f.2.2.2.2.2.2 (nI g).toNatClampNeg && decide (f.2.1 (nI g).toNatClampNeg = b.2.2.1 (nI o).toNatClampNeg)))); rw [nI_clamp hg, nI_clamp ho, decide_eq_true h, h1, h2, h3]; rfl
