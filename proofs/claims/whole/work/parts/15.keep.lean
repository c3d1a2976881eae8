/-! what always holds, is kept -/
theorem sk_shOk {b : sk_Ob} {t : sk_Tr} (ht : t.1 ≤ 200) (h : sk_OO b t) {x : Nat} (hx : x < b.1) : sk_sh b x < t.1 ∧ b.2.2.1 x = nI (sk_sh b x) ∧ b.2.1 x = t.2.1 (sk_sh b x) := by
  obtain ⟨s, hs, e, hp⟩ := h x hx
  have e2 : sk_sh b x = s := by unfold sk_sh; rw [e]; exact nI_clamp (by omega)
  rw [e2]
  exact ⟨hs, e, hp⟩
theorem sk_placeOk {nO : Nat} {t : sk_Tr} (h : sk_TO nO t) (x : Int32) {s : Nat} (hs : s < t.1) : sk_place t x s = -1 ∨ ∃ k, k < sk_len t s ∧ k < 12 ∧ sk_place t x s = nI k := by
  obtain ⟨m, hm, -, hl⟩ := sk_lenOk h hs
  rcases sk_place_spec h x s hs with ⟨e, -⟩ | ⟨k, hk, e, -⟩
  · exact Or.inl e
  · exact Or.inr ⟨k, hk, by omega, e⟩
theorem sk_notin {nO : Nat} {t : sk_Tr} (h : sk_TO nO t) {x : Int32} {s : Nat} (hs : s < t.1) (e : sk_place t x s = -1) : x ∉ sk_names t s := fun hx => by
  obtain ⟨k, hk, ek⟩ := sk_names_mem.mp hx
  rcases sk_place_spec h x s hs with ⟨-, q⟩ | ⟨g, hg, e2, -⟩
  · exact q k hk ek
  · obtain ⟨m, hm, -, hl⟩ := sk_lenOk h hs
    exact sk_nm1 (show g < 2 ^ 31 by omega) (e2.symm.trans e)
theorem sk_grow_spec {nO : Nat} {t : sk_Tr} (h : sk_TO nO t) {s a : Nat} (hs : s < t.1) (ha : a < 12) (hp : sk_place t (nI a) s = -1) {u : sk_Tr} {g : Nat} (e : sk_grow t s (nI a) = some (u, g)) :
    sk_TO nO u ∧ sk_ext t u ∧ g < u.1 ∧ u.2.1 g = t.2.1 s ∧ sk_names u g = sk_names t s ++ [nI a] := by
  unfold sk_grow at e
  by_cases hw : sk_wn t s (nI a) = -1
  · rw [if_pos hw] at e
    by_cases hn : 200 ≤ t.1
    · rw [if_pos hn] at e; cases e
    · rw [if_neg hn] at e
      have hd : (sk_names t s ++ [nI a]).Nodup := by
        refine List.nodup_append.mpr ⟨sk_names_nodup h hs, List.pairwise_singleton _ _, fun x hx y hy exy => ?_⟩
        rw [List.mem_singleton.mp hy] at exy
        exact sk_notin h hs hp (exy ▸ hx)
      have hi : sk_in12 (sk_names t s ++ [nI a]) := fun x hx => by
        rcases List.mem_append.mp hx with q | q
        · exact sk_names_in h hs x q
        · exact ⟨a, ha, List.mem_singleton.mp q⟩
      obtain ⟨q1, q2, q3, -, q5, q6⟩ := sk_mk_spec [nI a] t s h hs (show t.1 + 1 ≤ 200 by omega) hd hi
      have e2 : sk_mk t s [nI a] = (u, g) := Option.some.inj e
      rw [e2] at q1 q2 q3 q5 q6
      exact ⟨q1, q2, q3, q5, q6⟩
  · rw [if_neg hw] at e
    rcases sk_wn_spec h hs (nI a) with ⟨e9, -⟩ | ⟨i, m, hi, hsi, e9, ho, hl, hm, h1, h2, hpr, hn⟩
    · exact absurd e9 hw
    · rw [e9, nI_clamp (sk_t31 h hi)] at e
      have e2 : (t, i) = (u, g) := Option.some.inj e
      cases e2
      exact ⟨h, sk_ext_refl t, hi, hpr, hn⟩
theorem sk_FO_ext {b c : sk_Ob} {t u : sk_Tr} {f g : sk_Fi} {i : Nat} (hT : sk_TO b.1 t) (hO : sk_OO b t) (h : sk_FO b t f i) (he : sk_ext t u) (hn : b.1 ≤ c.1) (e1 : g.2.1 i = f.2.1 i) (e2 : g.2.2.1 i = f.2.2.1 i) (e3 : g.2.2.2.1 i = f.2.2.2.1 i) (e4 : g.2.2.2.2.1 i = f.2.2.2.2.1 i) (e5 : g.2.2.2.2.2.1 i = f.2.2.2.2.2.1 i)
    (hh : g.2.2.2.2.2.2 i = true → f.2.2.2.2.2.2 i = true ∧ ∀ x ∈ f.2.2.2.2.2.1 i, x < b.1 → sk_sh c x = sk_sh b x) : sk_FO c u g i := by
  obtain ⟨⟨s, hs, es, hp⟩, ha, hx, hw⟩ := h
  refine ⟨⟨s, Nat.lt_of_lt_of_le hs he.1, e1.trans es, fun q => ?_⟩, by rw [e2]; exact ha, ?_, fun x hx => by rw [e5] at hx; exact Nat.lt_of_lt_of_le (hw x hx) hn⟩
  · rw [e3] at q
    rw [e4, (sk_ext_nm hT he s hs).1]
    exact hp q
  · rcases hx with q | ⟨x, k, h1, h2, h3, h4, h5, h6⟩
    · exact Or.inl (e3.trans q)
    · refine Or.inr ⟨x, k, Nat.lt_of_lt_of_le h1 hn, e3.trans h2, h3, e4.trans h4, by rw [e5]; exact h5, fun q => ?_⟩
      obtain ⟨q1, q2⟩ := hh q
      rw [q2 x h5 h1, (sk_ext_nm hT he _ (sk_shOk hT.2.1 hO h1).1).1]
      exact h6 q1
theorem sk_OK_mono {K : Nat} {S : sk_S} (h : sk_OK K S) (hK : K + 1 ≤ 512) : sk_OK (K + 1) S := by
  obtain ⟨h1, h2, h3, h4, h5, h6, h7, h8⟩ := h
  exact ⟨h1, h2, h3, fun o => (h4 o).elim fun c hc => ⟨c, by omega, hc.2⟩, h5, hK, by omega, h8⟩
theorem sk_OO_ext {b : sk_Ob} {t u : sk_Tr} (h : sk_OO b t) (he : sk_ext t u) : sk_OO b u := fun o ho => by
  obtain ⟨s, hs, e, hp⟩ := h o ho
  exact ⟨s, Nat.lt_of_lt_of_le hs he.1, e, hp.trans (he.2 s hs).1.symm⟩
theorem sk_OK_object {K : Nat} {S : sk_S} (h : sk_OK K S) (hK : K + 1 ≤ 512) (p : Int32) : sk_OK (K + 1) (sk_object S p).2.2 := by
  unfold sk_object
  by_cases hc : sk_canP S.1.1 p = false
  · rw [if_pos hc]; exact sk_OK_mono h hK
  · rw [if_neg hc]
    by_cases hn : 60 ≤ S.1.1
    · rw [if_pos hn]; exact sk_OK_mono h hK
    · rw [if_neg hn]
      obtain ⟨h1, h2, h3, h4, h5, h6, h7, h8⟩ := id h
      have hp : sk_v S.1.1 p := (sk_canP_iff (by omega)).mp (by cases q : sk_canP S.1.1 p <;> simp_all)
      cases hr : sk_reach S.2.1 p [] with
      | none => exact sk_OK_mono h hK
      | some q =>
        obtain ⟨u, r⟩ := q
        obtain ⟨q1, q2, q3, q4, q5⟩ := sk_reach_spec h1 hp List.Pairwise.nil (fun x hx => by cases hx) hr
        show sk_OK (K + 1) ((S.1.1 + 1, upd S.1.2.1 S.1.1 p, upd S.1.2.2.1 S.1.1 (nI r), S.1.2.2.2.1, S.1.2.2.2.2), u, S.2.2)
        refine ⟨sk_TO_mono q1 (Nat.le_succ _) (show S.1.1 + 1 ≤ 60 by omega), sk_AC_more h2 (by omega) hp, fun o ho => ?_, fun o => (h4 o).elim fun c hc => ⟨c, by omega, hc.2⟩, fun o ho => h5 o (Nat.le_of_succ_le ho), hK, Nat.le_succ_of_le h7, fun i hi => ?_⟩
        · have ho : o < S.1.1 + 1 := ho
          by_cases e : o = S.1.1
          · subst e
            exact ⟨r, q3, pk_us, by rw [q4]; exact pk_us⟩
          · obtain ⟨s, hs, e1, e2⟩ := sk_OO_ext h3 q2 o (by omega)
            exact ⟨s, hs, (pk_un e).trans e1, (pk_un e).trans e2⟩
        · exact sk_FO_ext h1 h3 (h8 i hi) q2 (Nat.le_succ _) rfl rfl rfl rfl rfl (fun q => ⟨q, fun x _ hx => by show (upd S.1.2.2.1 S.1.1 (nI r) x).toNatClampNeg = (S.1.2.2.1 x).toNatClampNeg; rw [pk_un (Nat.ne_of_lt hx)]⟩)
theorem sk_brk_t {f : sk_Fi} {o i : Nat} (hi : i < sk_there f) (h : sk_brkB f o i = true) : f.2.2.2.2.2.2 i = true ∧ o ∉ f.2.2.2.2.2.1 i := by
  unfold sk_brkB at h
  rw [Bool.and_eq_true] at h
  refine ⟨h.1, fun q => ?_⟩
  have := h.2
  simp [hi, q] at this
/-- an object changes its shape -/
theorem sk_OK_chg {K : Nat} {b c : sk_Ob} {t u : sk_Tr} {f : sk_Fi} (h : sk_OK K (b, t, f)) (hK : K + 1 ≤ 512) {x r : Nat} (hx : x < b.1) (hc : c.1 = b.1) (hsh : ∀ y, y ≠ x → c.2.2.1 y = b.2.2.1 y) (hop : ∀ y, y ≠ x → c.2.1 y = b.2.1 y) (hch : c.2.2.2.1 = b.2.2.2.1) (hAC : sk_AC b.1 c.2.1) (q1 : sk_TO b.1 u) (q2 : sk_ext t u) (q3 : r < u.1) (q4 : u.2.1 r = c.2.1 x) :
    sk_OK (K + 1) (sk_chg c x r, u, sk_brk f x) := by
  obtain ⟨h1, h2, h3, h4, h5, h6, h7, h8⟩ := h
  have h1 : sk_TO b.1 t := h1
  have h3 : sk_OO b t := h3
  refine ⟨by show sk_TO c.1 u; rw [hc]; exact q1, by show sk_AC c.1 c.2.1; rw [hc]; exact hAC, fun o ho => ?_, fun o => ?_, fun o ho => ?_, hK, Nat.le_succ_of_le h7, fun i hi => ?_⟩
  · have ho : o < c.1 := ho
    rw [hc] at ho
    by_cases e : o = x
    · subst e
      exact ⟨r, q3, pk_us, q4.symm⟩
    · obtain ⟨s, hs, e1, e2⟩ := sk_OO_ext h3 q2 o ho
      exact ⟨s, hs, (pk_un e).trans ((hsh o e).trans e1), (hop o e).trans e2⟩
  · by_cases e : o = x
    · subst e
      obtain ⟨k, hk, ek⟩ := h4 o
      refine ⟨k + 1, by omega, ?_⟩
      show upd c.2.2.2.1 o (c.2.2.2.1 o + 1) o = nI (k + 1)
      rw [pk_us, hch, show b.2.2.2.1 o = nI k from ek]
      exact nI_1 k
    · obtain ⟨k, hk, ek⟩ := h4 o
      exact ⟨k, by omega, (pk_un e).trans (by rw [hch]; exact ek)⟩
  · have ho : c.1 ≤ o := ho
    refine (pk_un (by omega)).trans ?_
    rw [hch]
    exact h5 o (by rw [← hc]; exact ho)
  · refine sk_FO_ext h1 h3 (h8 i hi) q2 (show b.1 ≤ c.1 by omega) rfl rfl rfl rfl rfl (fun q => ?_)
    obtain ⟨a1, a2⟩ := sk_brk_t (f := f) hi q
    refine ⟨a1, fun y hy _ => ?_⟩
    have hne : y ≠ x := fun e => a2 (e ▸ hy)
    unfold sk_sh
    rw [show (sk_chg c x r).2.2.1 y = c.2.2.1 y from pk_un hne, hsh y hne]
theorem sk_OK_setv {K : Nat} {b : sk_Ob} {t : sk_Tr} {f : sk_Fi} (h : sk_OK K (b, t, f)) (o k : Nat) (x : Int32) : sk_OK K (sk_setv b o k x, t, f) := h
theorem sk_OK_set {K : Nat} {S : sk_S} (h : sk_OK K S) (hK : K + 1 ≤ 512) (o nm v : Int32) : sk_OK (K + 1) (sk_set S o nm v).2 := by
  obtain ⟨b, t, f⟩ := S
  unfold sk_set
  by_cases hc : (sk_hasB b.1 o && sk_isN nm) = true
  · rw [if_pos hc]
    rw [Bool.and_eq_true] at hc
    obtain ⟨h1, h2, h3, h4, h5, h6, h7, h8⟩ := id h
    have hn : b.1 < 2 ^ 31 := by have h60 : b.1 ≤ 60 := h1.2.2.1; omega
    obtain ⟨x, hx, e⟩ := (sk_hasB_iff hn).mp hc.1
    obtain ⟨a, ha, ea⟩ := sk_isN_iff.mp hc.2
    subst e; subst ea
    rw [nI_clamp (by omega)]
    obtain ⟨s1, s2, s3⟩ := sk_shOk h1.2.1 h3 hx
    unfold sk_setN
    by_cases hp : sk_place t (nI a) (sk_sh b x) = -1
    · rw [if_pos hp]
      cases hg : sk_grow t (sk_sh b x) (nI a) with
      | none => exact sk_OK_mono h hK
      | some q =>
        obtain ⟨u, g⟩ := q
        obtain ⟨q1, q2, q3, q4, q5⟩ := sk_grow_spec h1 s1 ha hp hg
        exact sk_OK_setv (sk_OK_chg (c := b) h hK hx rfl (fun _ _ => rfl) (fun _ _ => rfl) rfl h2 q1 q2 q3 (q4.trans s3.symm)) _ _ _
    · rw [if_neg hp]
      exact sk_OK_mono (sk_OK_setv h _ _ _) hK
  · rw [if_neg hc]; exact sk_OK_mono h hK
theorem sk_left_ok {nO : Nat} {t : sk_Tr} (h : sk_TO nO t) {s : Nat} (hs : s < t.1) (nm : Int32) : (sk_left t s nm).Nodup ∧ sk_in12 (sk_left t s nm) :=
  ⟨(sk_names_nodup h hs).sublist List.filter_sublist, fun x hx => sk_names_in h hs x (List.mem_filter.mp hx).1⟩
theorem sk_opv {K : Nat} {b : sk_Ob} {t : sk_Tr} {f : sk_Fi} (h : sk_OK K (b, t, f)) {x : Nat} (hx : x < b.1) : sk_v b.1 (b.2.1 x) := h.2.1.2.1 x hx
theorem sk_OK_drop {K : Nat} {S : sk_S} (h : sk_OK K S) (hK : K + 1 ≤ 512) (o nm : Int32) : sk_OK (K + 1) (sk_drop S o nm).2 := by
  obtain ⟨b, t, f⟩ := S
  unfold sk_drop
  by_cases hc : sk_hasB b.1 o = true
  · rw [if_pos hc]
    obtain ⟨h1, h2, h3, h4, h5, h6, h7, h8⟩ := id h
    have hn : b.1 < 2 ^ 31 := by have h60 : b.1 ≤ 60 := h1.2.2.1; omega
    obtain ⟨x, hx, e⟩ := (sk_hasB_iff hn).mp hc
    subst e
    rw [nI_clamp (by omega)]
    obtain ⟨s1, s2, s3⟩ := sk_shOk h1.2.1 h3 hx
    unfold sk_dropN
    by_cases hp : sk_place t nm (sk_sh b x) = -1
    · rw [if_pos hp]; exact sk_OK_mono h hK
    · rw [if_neg hp]
      cases hg : sk_reach t (b.2.1 x) (sk_left t (sk_sh b x) nm) with
      | none => exact sk_OK_mono h hK
      | some q =>
        obtain ⟨u, r⟩ := q
        obtain ⟨q1, q2, q3, q4, q5⟩ := sk_reach_spec h1 (sk_opv h hx) (sk_left_ok h1 s1 nm).1 (sk_left_ok h1 s1 nm).2 hg
        exact sk_OK_chg (c := sk_gap b x _) h hK hx rfl (fun _ _ => rfl) (fun _ _ => rfl) rfl h2 q1 q2 q3 q4
  · rw [if_neg hc]; exact sk_OK_mono h hK
theorem sk_OK_turn {K : Nat} {S : sk_S} (h : sk_OK K S) (hK : K + 1 ≤ 512) (o p : Int32) : sk_OK (K + 1) (sk_turn S o p).2 := by
  obtain ⟨b, t, f⟩ := S
  unfold sk_turn
  by_cases hc : (sk_hasB b.1 o && sk_canP b.1 p) = true
  · rw [if_pos hc]
    rw [Bool.and_eq_true] at hc
    obtain ⟨h1, h2, h3, h4, h5, h6, h7, h8⟩ := id h
    have hn : b.1 < 2 ^ 31 := by have h60 : b.1 ≤ 60 := h1.2.2.1; omega
    obtain ⟨x, hx, e⟩ := (sk_hasB_iff hn).mp hc.1
    have hp := (sk_canP_iff hn).mp hc.2
    subst e
    rw [nI_clamp (by omega)]
    obtain ⟨s1, s2, s3⟩ := sk_shOk h1.2.1 h3 hx
    unfold sk_turnN
    by_cases hm : x ∈ sk_abv b.2.1 p
    · rw [if_pos hm]; exact sk_OK_mono h hK
    · rw [if_neg hm]
      cases hg : sk_reach t p (sk_names t (sk_sh b x)) with
      | none => exact sk_OK_mono h hK
      | some q =>
        obtain ⟨u, r⟩ := q
        obtain ⟨q1, q2, q3, q4, q5⟩ := sk_reach_spec h1 hp (sk_names_nodup h1 s1) (sk_names_in h1 s1) hg
        exact sk_OK_chg (c := (b.1, upd b.2.1 x p, b.2.2)) h hK hx rfl (fun _ _ => rfl) (fun y hy => pk_un hy) rfl (sk_AC_turn h2 hx hp hm) q1 q2 q3 (q4.trans pk_us.symm)
  · rw [if_neg hc]; exact sk_OK_mono h hK
theorem sk_there_add {f : sk_Fi} {s nm h pl : Int32} {w : List Nat} {i : Nat} (hi : i < sk_there (sk_add f s nm h pl w)) (hne : i ≠ f.1 % 100) : i < sk_there f := by
  unfold sk_there at hi ⊢
  have hi : i < min (f.1 + 1) 100 := hi
  omega
theorem sk_OK_find {K : Nat} {S : sk_S} (h : sk_OK K S) (hK : K + 1 ≤ 512) (o nm : Int32) : sk_OK (K + 1) (sk_find S o nm).2 := by
  obtain ⟨b, t, f⟩ := S
  unfold sk_find
  by_cases hc : (sk_hasB b.1 o && sk_isN nm) = true
  · rw [if_pos hc]
    rw [Bool.and_eq_true] at hc
    obtain ⟨h1, h2, h3, h4, h5, h6, h7, h8⟩ := id h
    have hn : b.1 < 2 ^ 31 := by have h60 : b.1 ≤ 60 := h1.2.2.1; omega
    obtain ⟨x, hx, e⟩ := (sk_hasB_iff hn).mp hc.1
    obtain ⟨a, ha, ea⟩ := sk_isN_iff.mp hc.2
    subst e
    rw [nI_clamp (by omega)]
    obtain ⟨s1, s2, s3⟩ := sk_shOk h1.2.1 h3 hx
    have key : ∀ (hh pl : Int32) (w : List Nat), (hh = -1 → pl = -1 ∨ ∃ k, k < sk_len t (sk_sh b x) ∧ pl = nI k) → (hh = -1 ∨ ∃ y k, y < b.1 ∧ hh = nI y ∧ k < 12 ∧ pl = nI k ∧ y ∈ w ∧ k < sk_len t (sk_sh b y)) → (∀ y ∈ w, y < b.1) → sk_OK (K + 1) (b, t, sk_add f (b.2.2.1 x) nm hh pl w) := by
      intro hh pl w k1 k2 k3
      refine ⟨h1, h2, h3, fun o => (h4 o).elim fun c hc => ⟨c, by omega, hc.2⟩, h5, hK, Nat.succ_le_succ h7, fun i hi => ?_⟩
      by_cases hne : i = f.1 % 100
      · subst hne
        refine ⟨⟨sk_sh b x, s1, by rw [show (sk_add f (b.2.2.1 x) nm hh pl w).2.1 (f.1 % 100) = b.2.2.1 x from pk_us]; exact s2, ?_⟩, ⟨a, ha, by rw [show (sk_add f (b.2.2.1 x) nm hh pl w).2.2.1 (f.1 % 100) = nm from pk_us]; exact ea⟩, ?_, ?_⟩
        · rw [show (sk_add f (b.2.2.1 x) nm hh pl w).2.2.2.1 (f.1 % 100) = hh from pk_us, show (sk_add f (b.2.2.1 x) nm hh pl w).2.2.2.2.1 (f.1 % 100) = pl from pk_us]
          exact k1
        · rw [show (sk_add f (b.2.2.1 x) nm hh pl w).2.2.2.1 (f.1 % 100) = hh from pk_us, show (sk_add f (b.2.2.1 x) nm hh pl w).2.2.2.2.1 (f.1 % 100) = pl from pk_us, show (sk_add f (b.2.2.1 x) nm hh pl w).2.2.2.2.2.1 (f.1 % 100) = w from va_up_self _ _ _]
          rcases k2 with q | ⟨y, k, a1, a2, a3, a4, a5, a6⟩
          · exact Or.inl q
          · exact Or.inr ⟨y, k, a1, a2, a3, a4, a5, fun _ => a6⟩
        · rw [show (sk_add f (b.2.2.1 x) nm hh pl w).2.2.2.2.2.1 (f.1 % 100) = w from va_up_self _ _ _]
          exact k3
      · exact sk_FO_ext h1 h3 (h8 i (sk_there_add hi hne)) (sk_ext_refl t) (Nat.le_refl _) (pk_un hne) (pk_un hne) (pk_un hne) (pk_un hne) (va_up_ne _ _ hne) (fun q => ⟨by rw [show (sk_add f (b.2.2.1 x) nm hh pl w).2.2.2.2.2.2 i = f.2.2.2.2.2.2 i from va_up_ne _ _ hne] at q; exact q, fun _ _ _ => rfl⟩)
    show sk_OK (K + 1) (b, t, sk_findN (b, t, f) x nm)
    unfold sk_findN
    by_cases hp : sk_place t nm (sk_sh b x) = -1
    · rw [if_pos hp]
      have hlt := sk_abv_lt h2 (sk_opv h hx)
      refine key _ _ _ (fun q => ?_) ?_ (fun y hy => hlt y (sk_upto_sub _ _ y hy))
      · rw [q]; exact Or.inl (if_pos rfl)
      · rcases sk_nw_spec (sk_own b t nm) (sk_abv b.2.1 (b.2.1 x)) with ⟨q, -, -⟩ | ⟨y, hy, e, ho, hu⟩
        · exact Or.inl q
        · have hyn : y < b.1 := hlt y hy
          have e2 : sk_opl b t nm (nI y) = sk_place t nm (sk_sh b y) := by
            unfold sk_opl
            rw [if_neg (sk_nm1 (by omega)), nI_clamp (by omega)]
          rcases sk_placeOk h1 nm (sk_shOk h1.2.1 h3 hyn).1 with q | ⟨k, hk, hk2, ek⟩
          · unfold sk_own at ho
            rw [q] at ho
            simp at ho
          · refine Or.inr ⟨y, k, hyn, e, hk2, ?_, hu, hk⟩
            show sk_opl b t nm (sk_nw (sk_own b t nm) (sk_abv b.2.1 (b.2.1 x))) = nI k
            rw [e, e2, ek]
    · rw [if_neg hp]
      refine key _ _ _ (fun _ => ?_) (Or.inl rfl) (fun y hy => by cases hy)
      rcases sk_placeOk h1 nm s1 with q | ⟨k, hk, -, ek⟩
      · exact absurd q hp
      · exact Or.inr ⟨k, hk, ek⟩
  · rw [if_neg hc]; exact sk_OK_mono h hK
