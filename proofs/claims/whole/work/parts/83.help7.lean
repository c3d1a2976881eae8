/-! the roads that throw: pure rows -/
theorem sk_reach_nil {nO : Nat} {t : sk_Tr} (hT : sk_TO nO t) {x : Int32} (h : sk_reach t x [] = none) : sk_em t x = -1 ∧ 200 ≤ t.1 := by
  unfold sk_reach at h
  have h2 : t.1 ≤ 200 := hT.2.1
  by_cases hm : sk_em t x = -1
  · rw [if_pos hm] at h
    refine ⟨hm, ?_⟩
    by_cases h9 : 200 < t.1 + (1 + ([] : List Int32).length)
    · have : ([] : List Int32).length = 0 := rfl
      omega
    · rw [if_neg h9] at h
      cases h
  · rw [if_neg hm] at h
    have h9 : ¬ 200 < t.1 + (sk_down t (sk_em t x).toNatClampNeg []).2.length := by
      show ¬ 200 < t.1 + 0
      omega
    rw [if_neg h9] at h
    cases h
theorem sk_object_t1 {b : sk_Ob} {t : sk_Tr} {f : sk_Fi} {x : Int32} (h : sk_canP b.1 x = true) : ¬ (sk_object (b, t, f) x).1 = 1 := by
  by_cases h2 : 60 ≤ b.1
  · rw [sk_object_2 h h2]; intro q; cases q
  · cases hr : sk_reach t x [] with
    | none => rw [sk_object_3 h h2 hr]; intro q; cases q
    | some z => obtain ⟨u, r⟩ := z; rw [sk_object_4 h h2 hr]; intro q; cases q
theorem sk_object_r2 {b : sk_Ob} {t : sk_Tr} {f : sk_Fi} {x : Int32} (h : sk_canP b.1 x = true) (h2 : ¬ 60 ≤ b.1) (hc : (sk_object (b, t, f) x).1 = 2) : sk_reach t x [] = none := by
  cases hr : sk_reach t x [] with
  | none => rfl
  | some z =>
    obtain ⟨u, r⟩ := z
    rw [sk_object_4 h h2 hr] at hc
    cases hc
theorem sk_nwk {b : sk_Ob} {t : sk_Tr} (hT : sk_TO b.1 t) (hA : sk_AC b.1 b.2.1) (hO : sk_OO b t) {o : Nat} (ho : o < b.1) (y : Int32) : sk_nw (sk_own b t y) (sk_abv b.2.1 (nI o)) = -1 ∨ ∃ q kk, q < b.1 ∧ sk_nw (sk_own b t y) (sk_abv b.2.1 (nI o)) = nI q ∧ kk < 12 ∧ sk_place t y (sk_sh b q) = nI kk := by
  rcases sk_nw_spec (sk_own b t y) (sk_abv b.2.1 (nI o)) with ⟨h, -⟩ | ⟨q, hq, h, hw, -⟩
  · exact Or.inl h
  · have hq2 : q < b.1 := sk_abv_lt hA (Or.inr ⟨o, ho, rfl⟩) q hq
    rcases sk_placeOk hT y (sk_shOk hT.2.1 hO hq2).1 with hp | ⟨kk, -, hk, hp⟩
    · rw [sk_own_f hp] at hw
      cases hw
    · exact Or.inr ⟨q, kk, hq2, h, hk, hp⟩
theorem sk_getC {b : sk_Ob} {t : sk_Tr} {f : sk_Fi} {fi : Nat} {y : Int32} (hf : fi < 2 ^ 31) (h : sk_hasB (sk_there f) (nI fi) = true) (h2 : nI 1 = sk_bI (sk_holds (b, t, f) (nI fi) y)) (hp : f.2.2.2.2.1 fi = -1) : sk_get (b, t, f) (nI fi) y = (3, 0) := by
  rw [sk_get_ok h h2, nI_clamp hf, if_pos hp]
theorem sk_getA {b : sk_Ob} {t : sk_Tr} {f : sk_Fi} {fi o k : Nat} (hf : fi < 2 ^ 31) (ho : o < 2 ^ 31) (hk : k < 12) (h : sk_hasB (sk_there f) (nI fi) = true) (h2 : nI 1 = sk_bI (sk_holds (b, t, f) (nI fi) (nI o))) (hp : f.2.2.2.2.1 fi = nI k) (hh : f.2.2.2.1 fi = -1) : sk_get (b, t, f) (nI fi) (nI o) = (0, b.2.2.2.2 o k) := by
  rw [sk_get_ok h h2, nI_clamp hf, if_neg (by rw [hp]; exact sk_nm1 (by omega)), if_pos hh, hp, nI_clamp ho, nI_clamp (by omega)]
theorem sk_getB {b : sk_Ob} {t : sk_Tr} {f : sk_Fi} {fi o x k : Nat} (hf : fi < 2 ^ 31) (hx : x < 2 ^ 31) (hk : k < 12) (h : sk_hasB (sk_there f) (nI fi) = true) (h2 : nI 1 = sk_bI (sk_holds (b, t, f) (nI fi) (nI o))) (hp : f.2.2.2.2.1 fi = nI k) (hh : f.2.2.2.1 fi = nI x) : sk_get (b, t, f) (nI fi) (nI o) = (0, b.2.2.2.2 x k) := by
  rw [sk_get_ok h h2, nI_clamp hf, if_neg (by rw [hp]; exact sk_nm1 (by omega)), if_neg (by rw [hh]; exact sk_nm1 hx), hp, hh, nI_clamp hx, nI_clamp (by omega)]
theorem sk_getk {K : Nat} {b : sk_Ob} {t : sk_Tr} {f : sk_Fi} (hOK : sk_OK K (b, t, f)) {fi : Nat} {y : Int32} (hf : fi < sk_there f) (h2 : sk_holds (b, t, f) (nI fi) y = true) : ∃ o, o < b.1 ∧ y = nI o ∧ (f.2.2.2.2.1 fi = -1 ∨ (∃ k, k < 12 ∧ f.2.2.2.2.1 fi = nI k ∧ f.2.2.2.1 fi = -1) ∨ ∃ x k, x < b.1 ∧ k < 12 ∧ f.2.2.2.2.1 fi = nI k ∧ f.2.2.2.1 fi = nI x) := by
  have h60 : b.1 ≤ 60 := hOK.1.2.2.1
  have hFO := hOK.2.2.2.2.2.2.2 fi hf
  unfold sk_holds at h2
  rw [Bool.and_eq_true, Bool.and_eq_true] at h2
  obtain ⟨o, ho, rfl⟩ := (sk_hasB_iff (by show b.1 < 2 ^ 31; omega)).mp h2.2.1
  refine ⟨o, ho, rfl, ?_⟩
  obtain ⟨⟨s, hs, -, hs2⟩, -, hh, -⟩ := hFO
  rcases hh with h | ⟨x, k, hx, e1, hk, e2, -⟩
  · rcases hs2 h with h9 | ⟨k, hk, e2⟩
    · exact Or.inl h9
    · obtain ⟨m, hm, -, e9⟩ := sk_lenOk hOK.1 hs
      exact Or.inr (Or.inl ⟨k, Nat.lt_of_lt_of_le hk (by show sk_len t s ≤ 12; have : sk_len t s = m := e9; omega), e2, h⟩)
  · exact Or.inr (Or.inr ⟨x, k, hx, hk, e2, e1⟩)
theorem winIA : Cond.initialized xIA ∈ sk_W := sk_mem 48 (by decide +kernel) (by decide +kernel)
theorem winIS : Cond.initialized xIS ∈ sk_W := sk_mem 49 (by decide +kernel) (by decide +kernel)
theorem winIO : Cond.initialized xIO ∈ sk_W := sk_mem 50 (by decide +kernel) (by decide +kernel)
def sk_PT9 (s0 : State) (dC : Nat → ClassId) (dI : Nat → Nat → Nat) (a : Nat → Nat) (k : Nat → ClassId) (S : sk_S) (wt : sk_F) (U : State) : Prop := sk_PX dC dI a k S wt U ∧ sk_TW s0 U
theorem sk_blindT (av : List Value) {s0 : State} {dC : Nat → ClassId} {dI : Nat → Nat → Nat} {a : Nat → Nat} {k : Nat → ClassId} {S : sk_S} {wt : sk_F} : FrameBlind (va_Pc av (sk_PT9 s0 dC dI a k S wt)) := fun _ _ g mk q => ⟨q.1, sk_PX_call g mk _ q.2.1, sk_TW_call g mk _ q.2.2⟩
