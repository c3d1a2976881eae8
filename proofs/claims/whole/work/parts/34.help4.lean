theorem wiJmax : Cond.static Lib.Math.max.name ∈ sk_W := sk_mem 261 (by decide +kernel) (by decide +kernel)
theorem wnJmath : Cond.initialized "java/lang/Math" ∈ sk_W := sk_mem 51 (by decide +kernel) (by decide +kernel)
theorem wcJmax : Cond.code Lib.Math.max.name Lib.Math.max.code 2 (some .int) ∈ sk_W := sk_mem 262 (by decide +kernel) (by decide +kernel)
theorem wmJmax : Cond.methodLink RF 42 Lib.Math.max.name ∈ sk_W := sk_mem 260 (by decide +kernel) (by decide +kernel)
theorem sk_brk_miss {f : sk_Fi} {o i : Nat} {h : Nat → Bool} (hh : ∀ j, h j = if j < i then sk_brkB f o j else f.2.2.2.2.2.2 j) (hm : o ∉ f.2.2.2.2.2.1 i) : ∀ j, h j = if j < i + 1 then sk_brkB f o j else f.2.2.2.2.2.2 j := by
  intro j
  rw [hh j]
  by_cases e : j = i
  · subst e
    rw [if_neg (Nat.lt_irrefl j), if_pos (Nat.lt_succ_self j)]
    unfold sk_brkB
    rw [decide_eq_false hm, Bool.and_false, Bool.not_false, Bool.and_true]
  · by_cases q : j < i
    · rw [if_pos q, if_pos (by omega)]
    · rw [if_neg q, if_neg (by omega)]
theorem sk_brk_hit {f : sk_Fi} {o i : Nat} {h : Nat → Bool} (hi : i < sk_there f) (hh : ∀ j, h j = if j < i then sk_brkB f o j else f.2.2.2.2.2.2 j) (hm : o ∈ f.2.2.2.2.2.1 i) : ∀ j, va_up h i false j = if j < i + 1 then sk_brkB f o j else f.2.2.2.2.2.2 j := by
  intro j
  by_cases e : j = i
  · subst e
    rw [va_up_self, if_pos (Nat.lt_succ_self j)]
    unfold sk_brkB
    rw [decide_eq_true hm, decide_eq_true hi]; simp
  · rw [va_up_ne _ _ e, hh j]
    by_cases q : j < i
    · rw [if_pos q, if_pos (by omega)]
    · rw [if_neg q, if_neg (by omega)]
theorem sk_brk_end {f : sk_Fi} {o i : Nat} {h : Nat → Bool} (hi : sk_there f ≤ i) (hh : ∀ j, h j = if j < i then sk_brkB f o j else f.2.2.2.2.2.2 j) : h = sk_brkB f o := by
  funext j
  rw [hh j]
  by_cases q : j < i
  · rw [if_pos q]
  · rw [if_neg q]
    unfold sk_brkB
    rw [decide_eq_false (show ¬ j < sk_there f by omega)]; simp
theorem sk_own_t {b : sk_Ob} {t : sk_Tr} {nm : Int32} {q : Nat} (h : ¬ sk_place t nm (sk_sh b q) = -1) : sk_own b t nm q = true := by unfold sk_own; rw [decide_eq_false h]; rfl
theorem sk_own_f {b : sk_Ob} {t : sk_Tr} {nm : Int32} {q : Nat} (h : sk_place t nm (sk_sh b q) = -1) : sk_own b t nm q = false := by unfold sk_own; rw [decide_eq_true h]; rfl
theorem sk_opl_n {b : sk_Ob} {t : sk_Tr} {nm : Int32} {q : Nat} (h : q < 60) : sk_opl b t nm (nI q) = sk_place t nm (sk_sh b q) := by unfold sk_opl; rw [if_neg (sk_nm1 (by omega)), nI_clamp (by omega)]
theorem sk_nw_v {n : Nat} {own : Nat → Bool} {l : List Nat} (h : ∀ y ∈ l, y < n) : sk_v n (sk_nw own l) := by
  rcases sk_nw_spec own l with ⟨e, -⟩ | ⟨y, hy, e, -⟩
  · exact Or.inl e
  · exact Or.inr ⟨y, h y hy, e⟩
