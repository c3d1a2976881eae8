theorem sk_upd2 {f : sk_F} {k : Nat} {a c : Int32} : upd (upd f k a) k c = upd f k c := by
  funext j; unfold upd; by_cases e : j = k
  · rw [if_pos e, if_pos e]
  · rw [if_neg e, if_neg e, if_neg e]
theorem sk_RM_find {K : Nat} {b : sk_Ob} {t : sk_Tr} {f : sk_Fi} {ex : sk_Ex} {s nm h pl : Int32} {W : List Nat} {fw fo fc : sk_F} (hOK : sk_OK K (b, t, f)) (hR : sk_RM (b, t, f) ex) (hW : W.length ≤ 60) (hfw : ∀ i, i ≠ f.1 % 100 → fw i = ex.2.2.1 i) (hfw2 : fw (f.1 % 100) = if pl = -1 then 0 else if h = -1 then 1 else 2)
    (hfo : ∀ q, ¬ (60 * (f.1 % 100) ≤ q ∧ q < 60 * (f.1 % 100) + 60) → fo q = ex.2.2.2.2.1 q) (hfc : ∀ q, ¬ (60 * (f.1 % 100) ≤ q ∧ q < 60 * (f.1 % 100) + 60) → fc q = ex.2.2.2.2.2 q) (hfo2 : ∀ j, j < W.length → fo (60 * (f.1 % 100) + j) = nI (W.getD j 0)) (hfc2 : ∀ j, j < W.length → fc (60 * (f.1 % 100) + j) = b.2.2.2.1 (W.getD j 0)) :
    sk_RM (b, t, sk_add f s nm h pl W) (ex.1, ex.2.1, fw, upd ex.2.2.2.1 (f.1 % 100) (nI W.length), fo, fc) := by
  refine ⟨hR.1, hR.2.1, fun i hi => ?_⟩
  by_cases e : i = f.1 % 100
  · subst e
    have ew : (sk_add f s nm h pl W).2.2.2.2.2.1 (f.1 % 100) = W := va_up_self _ _ _
    have eb : (sk_add f s nm h pl W).2.2.2.2.2.2 (f.1 % 100) = true := va_up_self _ _ _
    unfold sk_RF
    show fw (f.1 % 100) = sk_where (sk_add f s nm h pl W) (f.1 % 100) ∧ upd ex.2.2.2.1 (f.1 % 100) (nI W.length) (f.1 % 100) = nI ((sk_add f s nm h pl W).2.2.2.2.2.1 (f.1 % 100)).length ∧ _
    show fw (f.1 % 100) = sk_where (sk_add f s nm h pl W) (f.1 % 100) ∧ upd ex.2.2.2.1 (f.1 % 100) (nI W.length) (f.1 % 100) = nI ((sk_add f s nm h pl W).2.2.2.2.2.1 (f.1 % 100)).length ∧ ((sk_add f s nm h pl W).2.2.2.2.2.1 (f.1 % 100)).length ≤ 60 ∧ (∀ j, j < ((sk_add f s nm h pl W).2.2.2.2.2.1 (f.1 % 100)).length → fo (60 * (f.1 % 100) + j) = nI (((sk_add f s nm h pl W).2.2.2.2.2.1 (f.1 % 100)).getD j 0)) ∧ (∀ j, j < ((sk_add f s nm h pl W).2.2.2.2.2.1 (f.1 % 100)).length → ∃ c g, fc (60 * (f.1 % 100) + j) = nI c ∧ b.2.2.2.1 (((sk_add f s nm h pl W).2.2.2.2.2.1 (f.1 % 100)).getD j 0) = nI g ∧ c ≤ g ∧ g ≤ 512) ∧ ((sk_add f s nm h pl W).2.2.2.2.2.2 (f.1 % 100) = true ↔ ∀ j, j < ((sk_add f s nm h pl W).2.2.2.2.2.1 (f.1 % 100)).length → b.2.2.2.1 (((sk_add f s nm h pl W).2.2.2.2.2.1 (f.1 % 100)).getD j 0) = fc (60 * (f.1 % 100) + j))
    rw [ew, eb]
    refine ⟨?_, pk_us, hW, hfo2, fun j hj => ?_, fun _ j hj => (hfc2 j hj).symm, fun _ => rfl⟩
    · rw [hfw2]
      unfold sk_where
      rw [show (sk_add f s nm h pl W).2.2.2.2.1 (f.1 % 100) = pl from pk_us, show (sk_add f s nm h pl W).2.2.2.1 (f.1 % 100) = h from pk_us]
    · obtain ⟨z, hz, ez⟩ := hOK.2.2.2.1 (W.getD j 0)
      have hK5 : K ≤ 512 := hOK.2.2.2.2.2.1
      exact ⟨z, z, (hfc2 j hj).trans ez, ez, Nat.le_refl _, by omega⟩
  · refine sk_RF_ext (hR.2.2 i (sk_there_add hi e)) (pk_un e) (pk_un e) (va_up_ne _ _ e) (va_up_ne _ _ e) rfl (hfw i e) (pk_un e) (fun j hj => hfo _ (by omega)) (fun j hj => hfc _ (by omega))
theorem sk_upto_t {own : Nat → Bool} {q : Nat} {r : List Nat} (h : own q = true) : sk_upto own (q :: r) = [q] := if_pos h
theorem sk_upto_f {own : Nat → Bool} {q : Nat} {r : List Nat} (h : own q = false) : sk_upto own (q :: r) = q :: sk_upto own r := if_neg (by rw [h]; decide)
theorem sk_nw_t {own : Nat → Bool} {q : Nat} {r : List Nat} (h : own q = true) : sk_nw own (q :: r) = nI q := if_pos h
theorem sk_nw_f {own : Nat → Bool} {q : Nat} {r : List Nat} (h : own q = false) : sk_nw own (q :: r) = sk_nw own r := if_neg (by rw [h]; decide)
theorem sk_rowN {w : List Nat} {q : Nat} {g : Nat → Int32} {fo : sk_F} {B : Nat} {v : Int32} (h : ∀ j, j < w.length → fo (B + j) = g (w.getD j 0)) (hv : v = g q) : ∀ j, j < (w ++ [q]).length → upd fo (B + w.length) v (B + j) = g ((w ++ [q]).getD j 0) := by
  intro j hj
  rw [List.length_append, List.length_singleton] at hj
  by_cases e : j = w.length
  · subst e
    rw [pk_us, hv, List.getD_eq_getElem?_getD, List.getElem?_append_right (Nat.le_refl _), Nat.sub_self]; rfl
  · rw [pk_un (by omega), h j (by omega), List.getD_eq_getElem?_getD, List.getD_eq_getElem?_getD, List.getElem?_append_left (by omega)]
