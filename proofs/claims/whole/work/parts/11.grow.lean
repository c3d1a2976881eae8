/-! the tree grows -/
theorem sk_pigeon : ∀ (n k : Nat) (f : Nat → Nat), (∀ i, i < k → f i < n) → (∀ i j, i < k → j < k → f i = f j → i = j) → k ≤ n
  | 0, k, f, h, _ => by
    rcases Nat.eq_zero_or_pos k with e | e
    · omega
    · exact absurd (h 0 e) (Nat.not_lt_zero _)
  | n + 1, k, f, h, hi => by
    by_cases hx : ∃ i0, i0 < k ∧ f i0 = n
    · obtain ⟨i0, h0, e0⟩ := hx
      have hne : ∀ i, i < k → i ≠ i0 → f i < n := fun i hik hne => by
        have h1 := h i hik
        have h2 : f i ≠ n := fun e => hne (hi i i0 hik h0 (e.trans e0.symm))
        omega
      have key := sk_pigeon n (k - 1) (fun i => if i < i0 then f i else f (i + 1)) (fun i hik => by
        try dsimp only
        split
        · exact hne i (by omega) (by omega)
        · exact hne (i + 1) (by omega) (by omega)) (fun i j hik hjk e => by
        try dsimp only at e
        by_cases c1 : i < i0
        · by_cases c2 : j < i0
          · rw [if_pos c1, if_pos c2] at e
            exact hi i j (by omega) (by omega) e
          · rw [if_pos c1, if_neg c2] at e
            have := hi i (j + 1) (by omega) (by omega) e
            omega
        · by_cases c2 : j < i0
          · rw [if_neg c1, if_pos c2] at e
            have := hi (i + 1) j (by omega) (by omega) e
            omega
          · rw [if_neg c1, if_neg c2] at e
            have := hi (i + 1) (j + 1) (by omega) (by omega) e
            omega)
      omega
    · have := sk_pigeon n k f (fun i hik => by
        have h1 := h i hik
        have h2 : f i ≠ n := fun e => hx ⟨i, hik, e⟩
        omega) hi
      omega
def sk_make (t : sk_Tr) (p o a L : Int32) : sk_Tr := (t.1 + 1, upd t.2.1 t.1 p, upd t.2.2.1 t.1 o, upd t.2.2.2.1 t.1 a, upd t.2.2.2.2 t.1 L)
def sk_grow1 (t : sk_Tr) (s : Nat) (a : Int32) : sk_Tr := sk_make t (t.2.1 s) (nI s) a (t.2.2.2.2 s + 1)
def sk_ext (t u : sk_Tr) : Prop := t.1 ≤ u.1 ∧ ∀ i, i < t.1 → u.2.1 i = t.2.1 i ∧ u.2.2.1 i = t.2.2.1 i ∧ u.2.2.2.1 i = t.2.2.2.1 i ∧ u.2.2.2.2 i = t.2.2.2.2 i
theorem sk_ext_refl (t : sk_Tr) : sk_ext t t := ⟨Nat.le_refl _, fun _ _ => ⟨rfl, rfl, rfl, rfl⟩⟩
theorem sk_ext_trans {t u v : sk_Tr} (h : sk_ext t u) (g : sk_ext u v) : sk_ext t v := ⟨Nat.le_trans h.1 g.1, fun i hi => by
  obtain ⟨a, b, c, d⟩ := h.2 i hi
  obtain ⟨a2, b2, c2, d2⟩ := g.2 i (Nat.lt_of_lt_of_le hi h.1)
  exact ⟨a2.trans a, b2.trans b, c2.trans c, d2.trans d⟩⟩
theorem sk_ext_make (t : sk_Tr) (p o a L : Int32) : sk_ext t (sk_make t p o a L) := ⟨Nat.le_succ _, fun i hi => ⟨pk_un (Nat.ne_of_lt hi), pk_un (Nat.ne_of_lt hi), pk_un (Nat.ne_of_lt hi), pk_un (Nat.ne_of_lt hi)⟩⟩
theorem sk_ext_nm {nO : Nat} {t u : sk_Tr} (h : sk_TO nO t) (he : sk_ext t u) : ∀ i, i < t.1 → sk_len u i = sk_len t i ∧ ∀ k, k < sk_len t i → sk_nm u i k = sk_nm t i k := by
  refine sk_ind h (fun i => sk_len u i = sk_len t i ∧ ∀ k, k < sk_len t i → sk_nm u i k = sk_nm t i k) ?_ ?_
  · intro i hi _ e
    refine ⟨by unfold sk_len; rw [(he.2 i hi).2.2.2], fun k hk => ?_⟩
    rw [sk_lenE (by omega) e] at hk
    omega
  · intro i j m a hi hj hm ha ho h1 h2 hp hl hd ih
    have hj31 : j < 2 ^ 31 := by have := sk_t31 h hi; omega
    obtain ⟨-, e2, e3, e4⟩ := he.2 i hi
    obtain ⟨-, f2, f3, f4⟩ := he.2 j (by omega)
    refine ⟨by unfold sk_len; rw [e4], fun k hk => ?_⟩
    rw [sk_lenE (by omega) h2] at hk
    by_cases hkm : k < m
    · rw [sk_nm_par hj31 hm ho h1 h2 hkm, sk_nm_par hj31 hm (e2.trans ho) (f4.trans h1) (e4.trans h2) hkm]
      exact ih.2 k (by rw [sk_lenE (by omega) h1]; exact hkm)
    · have hkm : k = m := by omega
      subst hkm
      rw [sk_nm_top hm h2, sk_nm_top hm (e4.trans h2), e3]
theorem sk_SO_ext {nO : Nat} {t u : sk_Tr} (h : sk_TO nO t) (he : sk_ext t u) {i : Nat} (hi : i < t.1) : sk_SO nO u i := by
  obtain ⟨e1, e2, e3, e4⟩ := he.2 i hi
  refine ⟨by rw [e1]; exact (h.2.2.2.2.2 i hi).1, ?_⟩
  rcases (h.2.2.2.2.2 i hi).2 with ⟨a, b⟩ | ⟨j, m, a, h1, h2, h3, h4, h5, h6, h7, h8, h9⟩
  · exact Or.inl ⟨e2.trans a, e4.trans b⟩
  · obtain ⟨f1, f2, f3, f4⟩ := he.2 j (by omega)
    refine Or.inr ⟨j, m, a, h1, h2, h3, e2.trans h4, f4.trans h5, e4.trans h6, by rw [e1, f1]; exact h7, e3.trans h8, fun k hk => ?_⟩
    rw [e3, (sk_ext_nm h he j (by omega)).2 k (by rw [sk_lenE (by omega) h5]; exact hk)]
    exact h9 k hk
theorem sk_TO_of {nO : Nat} {t u : sk_Tr} (h : sk_TO nO t) (he : sk_ext t u) (hu : u.1 ≤ 200) (hn : ∀ i, t.1 ≤ i → i < u.1 → sk_SO nO u i) : sk_TO nO u := by
  obtain ⟨h1, h2, h3, h4, h5, h6⟩ := h
  refine ⟨Nat.le_trans h1 he.1, hu, h3, ((he.2 0 (by omega)).1).trans h4, ((he.2 0 (by omega)).2.1).trans h5, fun i hi => ?_⟩
  by_cases hit : i < t.1
  · exact sk_SO_ext ⟨h1, h2, h3, h4, h5, h6⟩ he hit
  · exact hn i (by omega) hi
theorem sk_TO_mono {nO nP : Nat} {t : sk_Tr} (h : sk_TO nO t) (h1 : nO ≤ nP) (h2 : nP ≤ 60) : sk_TO nP t := by
  obtain ⟨a1, a2, a3, a4, a5, a6⟩ := h
  refine ⟨a1, a2, h2, a4, a5, fun i hi => ⟨?_, (a6 i hi).2⟩⟩
  rcases (a6 i hi).1 with e | ⟨x, hx, e⟩
  · exact Or.inl e
  · exact Or.inr ⟨x, by omega, e⟩
theorem sk_TO_child {nO : Nat} {t : sk_Tr} (h : sk_TO nO t) {s m a : Nat} (hs : s < t.1) (hn : t.1 < 200) (hm : m < 12) (hl : t.2.2.2.2 s = nI m) (ha : a < 12) (hd : ∀ k, k < m → ¬ sk_nm t s k = nI a) : sk_TO nO (sk_grow1 t s (nI a)) := by
  have he : sk_ext t (sk_grow1 t s (nI a)) := sk_ext_make t _ _ _ _
  refine sk_TO_of h he (show t.1 + 1 ≤ 200 by omega) (fun i h1 h2 => ?_)
  have h2 : i < t.1 + 1 := h2
  have hi : i = t.1 := by omega
  subst hi
  obtain ⟨f1, f2, f3, f4⟩ := he.2 s hs
  refine ⟨?_, Or.inr ⟨s, m, a, hs, hm, ha, pk_us, f4.trans hl, ?_, ?_, pk_us, fun k hk => ?_⟩⟩
  · rw [show (sk_grow1 t s (nI a)).2.1 t.1 = t.2.1 s from pk_us]
    exact (h.2.2.2.2.2 s hs).1
  · rw [show (sk_grow1 t s (nI a)).2.2.2.2 t.1 = t.2.2.2.2 s + 1 from pk_us, hl]
    exact nI_1 m
  · rw [f1]; exact pk_us
  · rw [show (sk_grow1 t s (nI a)).2.2.2.1 t.1 = nI a from pk_us, (sk_ext_nm h he s hs).2 k (by rw [sk_lenE (by omega) hl]; exact hk)]
    exact hd k hk
theorem sk_TO_empty {nO : Nat} {t : sk_Tr} (h : sk_TO nO t) {p : Int32} (hn : t.1 < 200) (hp : p = -1 ∨ ∃ x, x < nO ∧ p = nI x) : sk_TO nO (sk_make t p (-1) (-1) 0) := by
  have he : sk_ext t (sk_make t p (-1) (-1) 0) := sk_ext_make t _ _ _ _
  refine sk_TO_of h he (show t.1 + 1 ≤ 200 by omega) (fun i h1 h2 => ?_)
  have h2 : i < t.1 + 1 := h2
  have hi : i = t.1 := by omega
  subst hi
  refine ⟨?_, Or.inl ⟨pk_us, pk_us⟩⟩
  rw [show (sk_make t p (-1) (-1) 0).2.1 t.1 = p from pk_us]
  exact hp
/-! names as a list -/
def sk_names (t : sk_Tr) (s : Nat) : List Int32 := (List.range (sk_len t s)).map (sk_nm t s)
theorem sk_names_len (t : sk_Tr) (s : Nat) : (sk_names t s).length = sk_len t s := by simp [sk_names]
theorem sk_names_mem {t : sk_Tr} {s : Nat} {x : Int32} : x ∈ sk_names t s ↔ ∃ k, k < sk_len t s ∧ sk_nm t s k = x := by
  unfold sk_names
  rw [List.mem_map]
  exact ⟨fun ⟨k, h, e⟩ => ⟨k, List.mem_range.mp h, e⟩, fun ⟨k, h, e⟩ => ⟨k, List.mem_range.mpr h, e⟩⟩
theorem sk_names_get {t : sk_Tr} {s k : Nat} (h : k < sk_len t s) : (sk_names t s)[k]? = some (sk_nm t s k) := by
  unfold sk_names
  rw [List.getElem?_map, List.getElem?_range h]
  rfl
theorem sk_names_child {t : sk_Tr} {i s m : Nat} {a : Int32} (hs : s < 2 ^ 31) (hm : m < 12) (ho : t.2.2.1 i = nI s) (h1 : t.2.2.2.2 s = nI m) (h2 : t.2.2.2.2 i = nI (m + 1)) (hl : t.2.2.2.1 i = a) : sk_names t i = sk_names t s ++ [a] := by
  unfold sk_names
  rw [sk_lenE (by omega) h2, sk_lenE (by omega) h1, List.range_succ, List.map_append]
  congr 1
  · apply List.map_congr_left
    intro k hk
    exact sk_nm_par hs hm ho h1 h2 (List.mem_range.mp hk)
  · rw [List.map_cons, List.map_nil, sk_nm_top hm h2, hl]
theorem sk_names_ext {nO : Nat} {t u : sk_Tr} (h : sk_TO nO t) (he : sk_ext t u) {i : Nat} (hi : i < t.1) : sk_names u i = sk_names t i := by
  unfold sk_names
  obtain ⟨e1, e2⟩ := sk_ext_nm h he i hi
  rw [e1]
  apply List.map_congr_left
  intro k hk
  exact e2 k (List.mem_range.mp hk)
theorem sk_names_nodup {nO : Nat} {t : sk_Tr} (h : sk_TO nO t) {s : Nat} (hs : s < t.1) : (sk_names t s).Nodup := by
  refine List.pairwise_iff_getElem.mpr (fun i j hi hj hij e => ?_)
  rw [sk_names_len] at hi hj
  have e1 : (sk_names t s)[i]? = some (sk_nm t s i) := sk_names_get hi
  have e2 : (sk_names t s)[j]? = some (sk_nm t s j) := sk_names_get hj
  rw [List.getElem?_eq_getElem (by rw [sk_names_len]; exact hi)] at e1
  rw [List.getElem?_eq_getElem (by rw [sk_names_len]; exact hj)] at e2
  have := sk_nm_inj h s hs i hi j hj ((Option.some.inj e1).symm.trans (e.trans (Option.some.inj e2)))
  omega
def sk_in12 (l : List Int32) : Prop := ∀ x ∈ l, ∃ a, a < 12 ∧ x = nI a
theorem sk_names_in {nO : Nat} {t : sk_Tr} (h : sk_TO nO t) {s : Nat} (hs : s < t.1) : sk_in12 (sk_names t s) := fun x hx => by
  obtain ⟨k, hk, e⟩ := sk_names_mem.mp hx
  obtain ⟨a, ha, e2⟩ := sk_nm_in h s hs k hk
  exact ⟨a, ha, e.symm.trans e2⟩
theorem sk_len12 {l : List Int32} (hn : l.Nodup) (h : sk_in12 l) : l.length ≤ 12 := by
  refine sk_pigeon 12 l.length (fun i => (l.getD i 0).toNatClampNeg) (fun i hi => ?_) (fun i j hi hj e => ?_)
  · obtain ⟨a, ha, e⟩ := h l[i] (List.getElem_mem hi)
    try dsimp only
    rw [List.getD_eq_getElem?_getD, List.getElem?_eq_getElem hi, Option.getD_some, e, nI_clamp (by omega)]
    exact ha
  · obtain ⟨a, ha, e1⟩ := h l[i] (List.getElem_mem hi)
    obtain ⟨b, hb, e2⟩ := h l[j] (List.getElem_mem hj)
    try dsimp only at e
    rw [List.getD_eq_getElem?_getD, List.getElem?_eq_getElem hi, Option.getD_some, List.getD_eq_getElem?_getD, List.getElem?_eq_getElem hj, Option.getD_some, e1, e2, nI_clamp (by omega), nI_clamp (by omega)] at e
    have e3 : l[i] = l[j] := by rw [e1, e2, e]
    rcases Nat.lt_trichotomy i j with g | g | g
    · exact absurd e3 (List.pairwise_iff_getElem.mp hn i j hi hj g)
    · exact g
    · exact absurd e3.symm (List.pairwise_iff_getElem.mp hn j i hj hi g)
/-! searches in the tree -/
def sk_em (t : sk_Tr) (p : Int32) : Int32 := sk_ff (fun i => decide (t.2.2.1 i = -1) && decide (t.2.1 i = p)) t.1 0
def sk_wn (t : sk_Tr) (s : Nat) (a : Int32) : Int32 := sk_ff (fun i => decide (t.2.2.1 i = nI s) && decide (t.2.2.2.1 i = a)) (t.1 - (s + 1)) (s + 1)
theorem sk_em_spec (t : sk_Tr) (p : Int32) : (sk_em t p = -1 ∧ ∀ i, i < t.1 → ¬ (t.2.2.1 i = -1 ∧ t.2.1 i = p)) ∨ ∃ i, i < t.1 ∧ sk_em t p = nI i ∧ t.2.2.1 i = -1 ∧ t.2.1 i = p := by
  rcases sk_ff_spec (fun i => decide (t.2.2.1 i = -1) && decide (t.2.1 i = p)) t.1 0 with ⟨e, q⟩ | ⟨i, h1, h2, e, hp, -⟩
  · refine Or.inl ⟨e, fun i hi hx => ?_⟩
    have := q i (Nat.zero_le i) (by omega)
    simp [hx.1, hx.2] at this
  · simp only [Bool.and_eq_true, decide_eq_true_eq] at hp
    exact Or.inr ⟨i, by omega, e, hp.1, hp.2⟩
theorem sk_wn_spec {nO : Nat} {t : sk_Tr} (h : sk_TO nO t) {s : Nat} (hs : s < t.1) (a : Int32) : (sk_wn t s a = -1 ∧ ∀ i, i < t.1 → ¬ (t.2.2.1 i = nI s ∧ t.2.2.2.1 i = a)) ∨ ∃ i m, i < t.1 ∧ s < i ∧ sk_wn t s a = nI i ∧ t.2.2.1 i = nI s ∧ t.2.2.2.1 i = a ∧ m < 12 ∧ t.2.2.2.2 s = nI m ∧ t.2.2.2.2 i = nI (m + 1) ∧ t.2.1 i = t.2.1 s ∧ sk_names t i = sk_names t s ++ [a] := by
  rcases sk_ff_spec (fun i => decide (t.2.2.1 i = nI s) && decide (t.2.2.2.1 i = a)) (t.1 - (s + 1)) (s + 1) with ⟨e, q⟩ | ⟨i, h1, h2, e, hp, -⟩
  · refine Or.inl ⟨e, fun i hi hx => ?_⟩
    rcases (h.2.2.2.2.2 i hi).2 with ⟨e9, -⟩ | ⟨j, m, b, g1, g2, g3, g4, g5, g6, g7, g8, g9⟩
    · exact sk_nm1 (sk_t31 h hs) (hx.1.symm.trans e9)
    · have hj : j = s := sk_inj (by have := sk_t31 h hi; omega) (sk_t31 h hs) (g4.symm.trans hx.1)
      have := q i (by omega) (by omega)
      simp [hx.1, hx.2] at this
  · simp only [Bool.and_eq_true, decide_eq_true_eq] at hp
    have hi : i < t.1 := by omega
    rcases (h.2.2.2.2.2 i hi).2 with ⟨e9, -⟩ | ⟨j, m, b, g1, g2, g3, g4, g5, g6, g7, g8, g9⟩
    · exact absurd (hp.1.symm.trans e9) (sk_nm1 (sk_t31 h hs))
    · have hj : j = s := sk_inj (by have := sk_t31 h hi; omega) (sk_t31 h hs) (g4.symm.trans hp.1)
      subst hj
      exact Or.inr ⟨i, m, hi, g1, e, hp.1, hp.2, g2, g5, g6, g7, sk_names_child (sk_t31 h hs) g2 g4 g5 g6 hp.2⟩
def sk_down (t : sk_Tr) : Nat → List Int32 → Nat × List Int32
  | s, [] => (s, [])
  | s, a :: r => if sk_wn t s a = -1 then (s, a :: r) else sk_down t (sk_wn t s a).toNatClampNeg r
def sk_mk : sk_Tr → Nat → List Int32 → sk_Tr × Nat
  | t, s, [] => (t, s)
  | t, s, a :: r => sk_mk (sk_grow1 t s a) t.1 r
def sk_reach (t : sk_Tr) (p : Int32) (ns : List Int32) : Option (sk_Tr × Nat) :=
  if sk_em t p = -1 then (if 200 < t.1 + (1 + ns.length) then none else some (sk_mk (sk_make t p (-1) (-1) 0) t.1 ns))
  else (if 200 < t.1 + (sk_down t (sk_em t p).toNatClampNeg ns).2.length then none else some (sk_mk t (sk_down t (sk_em t p).toNatClampNeg ns).1 (sk_down t (sk_em t p).toNatClampNeg ns).2))
theorem sk_down_spec {nO : Nat} {t : sk_Tr} (h : sk_TO nO t) : ∀ (ns : List Int32) (s : Nat), s < t.1 → ∃ done, ns = done ++ (sk_down t s ns).2 ∧ (sk_down t s ns).1 < t.1 ∧ t.2.1 (sk_down t s ns).1 = t.2.1 s ∧ sk_names t (sk_down t s ns).1 = sk_names t s ++ done
  | [], s, hs => ⟨[], rfl, hs, rfl, by rw [List.append_nil]; rfl⟩
  | a :: r, s, hs => by
    by_cases hw : sk_wn t s a = -1
    · have e : sk_down t s (a :: r) = (s, a :: r) := by rw [sk_down, if_pos hw]
      rw [e]
      exact ⟨[], rfl, hs, rfl, by rw [List.append_nil]⟩
    · rcases sk_wn_spec h hs a with ⟨e, -⟩ | ⟨i, m, hi, hsi, e, ho, hl, hm, h1, h2, hp, hn⟩
      · exact absurd e hw
      · have e2 : sk_down t s (a :: r) = sk_down t i r := by rw [sk_down, if_neg hw, e, nI_clamp (sk_t31 h hi)]
        rw [e2]
        obtain ⟨done, d1, d2, d3, d4⟩ := sk_down_spec h r i hi
        exact ⟨a :: done, by rw [List.cons_append, ← d1], d2, d3.trans hp, by rw [d4, hn, List.append_assoc]; rfl⟩
theorem sk_mk_spec {nO : Nat} : ∀ (ns : List Int32) (t : sk_Tr) (s : Nat), sk_TO nO t → s < t.1 → t.1 + ns.length ≤ 200 → (sk_names t s ++ ns).Nodup → sk_in12 (sk_names t s ++ ns) →
    sk_TO nO (sk_mk t s ns).1 ∧ sk_ext t (sk_mk t s ns).1 ∧ (sk_mk t s ns).2 < (sk_mk t s ns).1.1 ∧ (sk_mk t s ns).1.1 = t.1 + ns.length ∧ (sk_mk t s ns).1.2.1 (sk_mk t s ns).2 = t.2.1 s ∧ sk_names (sk_mk t s ns).1 (sk_mk t s ns).2 = sk_names t s ++ ns
  | [], t, s, h, hs, _, _, _ => ⟨h, sk_ext_refl t, hs, rfl, rfl, by rw [List.append_nil]; rfl⟩
  | a :: r, t, s, h, hs, hn, hd, hi => by
    have hlen : (sk_names t s ++ a :: r).length ≤ 12 := sk_len12 hd hi
    rw [List.length_append, sk_names_len, List.length_cons] at hlen
    rw [List.length_cons] at hn
    obtain ⟨m, hm, hl, hlm⟩ := sk_lenOk h hs
    obtain ⟨b, hb, eb⟩ := hi a (by simp)
    have hnot : ∀ k, k < m → ¬ sk_nm t s k = nI b := fun k hk e => by
      have h1 : a ∈ sk_names t s := sk_names_mem.mpr ⟨k, by rw [hlm]; exact hk, by rw [e, eb]⟩
      exact (List.nodup_append.mp hd).2.2 a h1 a (by simp) rfl
    have hT : sk_TO nO (sk_grow1 t s a) := by rw [eb]; exact sk_TO_child h hs (by omega) (by omega) hl hb hnot
    have he : sk_ext t (sk_grow1 t s a) := sk_ext_make t _ _ _ _
    have hnames : sk_names (sk_grow1 t s a) t.1 = sk_names t s ++ [a] := by
      rw [sk_names_child (t := sk_grow1 t s a) (i := t.1) (s := s) (m := m) (a := a) (sk_t31 h hs) (by omega) pk_us (((he.2 s hs).2.2.2).trans hl) (by rw [show (sk_grow1 t s a).2.2.2.2 t.1 = t.2.2.2.2 s + 1 from pk_us, hl]; exact nI_1 m) pk_us, sk_names_ext h he hs]
    obtain ⟨q1, q2, q3, q4, q5, q6⟩ := sk_mk_spec r (sk_grow1 t s a) t.1 hT (Nat.lt_succ_self _) (show t.1 + 1 + r.length ≤ 200 by omega) (by rw [hnames, List.append_assoc]; exact hd) (by rw [hnames, List.append_assoc]; exact hi)
    refine ⟨q1, sk_ext_trans he q2, q3, ?_, ?_, ?_⟩
    · refine q4.trans ?_
      show t.1 + 1 + r.length = t.1 + (r.length + 1)
      omega
    · exact q5.trans (show (sk_grow1 t s a).2.1 t.1 = t.2.1 s from pk_us)
    · refine q6.trans ?_
      rw [hnames, List.append_assoc]; rfl
theorem sk_reach_spec {nO : Nat} {t : sk_Tr} (h : sk_TO nO t) {p : Int32} (hp : p = -1 ∨ ∃ x, x < nO ∧ p = nI x) {ns : List Int32} (hd : ns.Nodup) (hi : sk_in12 ns) {u : sk_Tr} {r : Nat} (e : sk_reach t p ns = some (u, r)) :
    sk_TO nO u ∧ sk_ext t u ∧ r < u.1 ∧ u.2.1 r = p ∧ sk_names u r = ns := by
  unfold sk_reach at e
  by_cases hm : sk_em t p = -1
  · rw [if_pos hm] at e
    by_cases hn : 200 < t.1 + (1 + ns.length)
    · rw [if_pos hn] at e; cases e
    · rw [if_neg hn] at e
      have hT := sk_TO_empty h (by omega) hp
      have he : sk_ext t (sk_make t p (-1) (-1) 0) := sk_ext_make t _ _ _ _
      have hnames : sk_names (sk_make t p (-1) (-1) 0) t.1 = [] := by
        unfold sk_names
        rw [sk_lenE (t := sk_make t p (-1) (-1) 0) (m := 0) (by omega) pk_us]; rfl
      obtain ⟨q1, q2, q3, q4, q5, q6⟩ := sk_mk_spec ns (sk_make t p (-1) (-1) 0) t.1 hT (Nat.lt_succ_self _) (show t.1 + 1 + ns.length ≤ 200 by omega) (by rw [hnames]; exact hd) (by rw [hnames]; exact hi)
      rw [Option.some.inj e] at q1 q2 q3 q4 q5 q6
      exact ⟨q1, sk_ext_trans he q2, q3, q5.trans pk_us, by rw [q6, hnames]; rfl⟩
  · rw [if_neg hm] at e
    rcases sk_em_spec t p with ⟨e9, -⟩ | ⟨i, hit, e9, ho, hpi⟩
    · exact absurd e9 hm
    · rw [e9, nI_clamp (sk_t31 h hit)] at e
      by_cases hn : 200 < t.1 + (sk_down t i ns).2.length
      · rw [if_pos hn] at e; cases e
      · rw [if_neg hn] at e
        obtain ⟨done, d1, d2, d3, d4⟩ := sk_down_spec h ns i hit
        have hnames : sk_names t i = [] := by
          rcases (h.2.2.2.2.2 i hit).2 with ⟨-, e0⟩ | ⟨j, m, b, g1, g2, g3, g4, g5⟩
          · unfold sk_names; rw [sk_lenE (by omega) e0]; rfl
          · exact absurd (g4.symm.trans ho) (sk_nm1 (by have := sk_t31 h hit; omega))
        rw [hnames, List.nil_append] at d4
        obtain ⟨q1, q2, q3, q4, q5, q6⟩ := sk_mk_spec (sk_down t i ns).2 t (sk_down t i ns).1 h d2 (by omega) (by rw [d4, ← d1]; exact hd) (by rw [d4, ← d1]; exact hi)
        rw [Option.some.inj e] at q1 q2 q3 q4 q5 q6
        exact ⟨q1, q2, q3, (q5.trans d3).trans hpi, by rw [q6, d4, ← d1]⟩
