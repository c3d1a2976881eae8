/-! small rows for the walks -/
theorem sk_nn {p : Prop} (h : ¬ ¬ p) : p := Classical.not_not.mp h
theorem sk_hasB_t {n : Nat} {x : Int32} (h1 : ¬ x < 0) (h2 : ¬ nI n ≤ x) : nI 1 = sk_bI (sk_hasB n x) := by
  have a : 0 ≤ x := by rw [Int32.le_iff_toInt_le]; rw [Int32.lt_iff_toInt_lt] at h1; omega
  have c : x < nI n := by rw [Int32.lt_iff_toInt_lt]; rw [Int32.le_iff_toInt_le] at h2; omega
  unfold sk_hasB
  rw [decide_eq_true a, decide_eq_true c]; rfl
theorem sk_hasB_f1 {n : Nat} {x : Int32} (h : x < 0) : nI 0 = sk_bI (sk_hasB n x) := by
  have a : ¬ 0 ≤ x := by rw [Int32.le_iff_toInt_le]; rw [Int32.lt_iff_toInt_lt] at h; omega
  unfold sk_hasB
  rw [decide_eq_false a]; rfl
theorem sk_hasB_f2 {n : Nat} {x : Int32} (h : nI n ≤ x) : nI 0 = sk_bI (sk_hasB n x) := by
  have c : ¬ x < nI n := by rw [Int32.lt_iff_toInt_lt]; rw [Int32.le_iff_toInt_le] at h; omega
  unfold sk_hasB
  rw [decide_eq_false c, Bool.and_false]; rfl
theorem sk_bI_or (c : Bool) : (c = true ∧ sk_bI c = nI 1) ∨ (c = false ∧ sk_bI c = nI 0) := by cases c <;> simp [sk_bI, nI] <;> decide
theorem sk_ff_hit {P : Nat → Bool} {n i : Nat} {r : Int32} (hi : i < n) (he : sk_ff P (n - i) i = r) (hp : P i = true) : nI i = r := by
  rw [show n - i = (n - i - 1) + 1 by omega, sk_ff_s, if_pos hp] at he
  exact he
theorem sk_ff_miss {P : Nat → Bool} {n i : Nat} {r : Int32} (hi : i < n) (he : sk_ff P (n - i) i = r) (hp : P i = false) : sk_ff P (n - (i + 1)) (i + 1) = r := by
  rw [show n - i = (n - (i + 1)) + 1 by omega, sk_ff_s, if_neg (by rw [hp]; decide)] at he
  exact he
theorem sk_ff_end {P : Nat → Bool} {n i : Nat} {r : Int32} (hi : n ≤ i) (he : sk_ff P (n - i) i = r) : (-1 : Int32) = r := by
  rw [show n - i = 0 by omega] at he
  exact he
theorem sk_pd1 {m : Nat} (h : ¬ nI m - nI 1 < 0) : 0 < m := by
  rcases Nat.eq_zero_or_pos m with e | e
  · subst e; exact absurd (by decide) h
  · exact e
theorem sk_pd0 {m : Nat} (hm : m ≤ 12) (h : nI m - nI 1 < 0) : m = 0 := by
  rcases Nat.eq_zero_or_pos m with e | e
  · exact e
  · rw [pk_sub e] at h
    exact absurd h (nI_pos (by omega))
theorem sk_pdec {m : Nat} (h : 0 < m) : nI m - nI 1 + Int32.ofInt (-1) = nI (m - 1) - nI 1 := by
  rw [pk_sub (show 1 ≤ m from h), show Int32.ofInt (-1) = -(nI 1) by decide, ← Int32.sub_eq_add_neg]
theorem sk_pl_hit {t : sk_Tr} {x r : Int32} {m q : Nat} (h : 0 < m) (he : sk_pl t x m q = r) (hx : t.2.2.2.1 q = x) : nI m - nI 1 = r := by
  rw [show m = (m - 1) + 1 by omega] at he
  have he : (if t.2.2.2.1 q = x then nI (m - 1) else sk_pl t x (m - 1) (t.2.2.1 q).toNatClampNeg) = r := he
  rw [if_pos hx] at he
  rw [← he]; exact pk_sub h
theorem sk_pl_miss {t : sk_Tr} {x r : Int32} {m q j : Nat} (h : 0 < m) (he : sk_pl t x m q = r) (hx : ¬ t.2.2.2.1 q = x) (hj : j < 2 ^ 31) (ho : t.2.2.1 q = nI j) : sk_pl t x (m - 1) j = r := by
  rw [show m = (m - 1) + 1 by omega] at he
  have he : (if t.2.2.2.1 q = x then nI (m - 1) else sk_pl t x (m - 1) (t.2.2.1 q).toNatClampNeg) = r := he
  rw [if_neg hx, ho, nI_clamp hj] at he
  exact he
theorem sk_parent {nO : Nat} {t : sk_Tr} (h : sk_TO nO t) {q m : Nat} (hq : q < t.1) (hl : sk_len t q = m) (hm : 0 < m) : ∃ j, j < q ∧ t.2.2.1 q = nI j ∧ sk_len t j = m - 1 := by
  rcases (h.2.2.2.2.2 q hq).2 with ⟨-, e⟩ | ⟨j, g, a, h1, h2, h3, h4, h5, h6, -⟩
  · rw [sk_lenE (by omega) e] at hl; omega
  · rw [sk_lenE (by omega) h6] at hl
    exact ⟨j, h1, h4, by rw [sk_lenE (by omega) h5]; omega⟩
theorem sk_plin {pl : Int32} {m : Nat} (hm : m ≤ 12) (h1 : ¬ pl < 0) (h2 : pl ≤ nI m - nI 1) : ∃ j, j < m ∧ pl = nI j := by
  rcases Nat.eq_zero_or_pos m with e | e
  · subst e
    exact absurd (show pl < 0 by rw [Int32.le_iff_toInt_le] at h2; rw [Int32.lt_iff_toInt_lt]; have : (nI 0 - nI 1).toInt = -1 := by decide
                                 have : (0 : Int32).toInt = 0 := by decide
                                 omega) h1
  · rw [pk_sub (show 1 ≤ m from e)] at h2
    obtain ⟨j, hj, e2⟩ := nI_of2 (n := m - 1) (nI_toInt (by omega)) h1 h2
    exact ⟨j, by omega, e2⟩
theorem sk_plout {pl : Int32} {m : Nat} (hm : m ≤ 12) (h2 : ¬ pl ≤ nI m - nI 1) : nI m ≤ pl := by
  rcases Nat.eq_zero_or_pos m with e | e
  · subst e
    rw [Int32.le_iff_toInt_le] at h2 ⊢
    have : (nI 0 - nI 1).toInt = -1 := by decide
    have : (nI 0).toInt = 0 := by decide
    omega
  · rw [pk_sub (show 1 ≤ m from e), Int32.le_iff_toInt_le, nI_toInt (by omega)] at h2
    rw [Int32.le_iff_toInt_le, nI_toInt (by omega)]
    omega
theorem sk_gS {own : String} {idx : Nat} {y : MethodName} {c : Cond} (h1 : Cond.methodLink own idx y ∈ sk_W) (h2 : Cond.static y ∈ sk_W) (h4 : Cond.initialized own ∈ sk_W) (h5 : c ∈ sk_W) : GoodIn sk_W (wsS own idx y (c :: sk_W)) := by
  intro w hw
  rcases List.mem_append.mp hw with q | q
  · simp only [List.mem_cons, List.not_mem_nil, or_false] at q
    rcases q with rfl | rfl | rfl
    · exact sk_Wgood _ h1
    · exact sk_Wgood _ h2
    · exact sk_Wgood _ h4
  · exact sk_gC h5 w q
