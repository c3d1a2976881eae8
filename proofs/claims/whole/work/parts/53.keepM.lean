/-! the reference's rows stay in step -/
theorem sk_updsame {f : sk_F} {k : Nat} {v : Int32} (h : f k = v) : upd f k v = f := by
  funext j; unfold upd; by_cases e : j = k
  · subst e; rw [if_pos rfl]; exact h.symm
  · rw [if_neg e]
theorem sk_RF_ext {b c : sk_Ob} {f g : sk_Fi} {ex ey : sk_Ex} {i : Nat} (h : sk_RF b f ex i) (e1 : g.2.2.2.1 i = f.2.2.2.1 i) (e2 : g.2.2.2.2.1 i = f.2.2.2.2.1 i) (e3 : g.2.2.2.2.2.1 i = f.2.2.2.2.2.1 i) (e4 : g.2.2.2.2.2.2 i = f.2.2.2.2.2.2 i) (e5 : c.2.2.2.1 = b.2.2.2.1)
    (e6 : ey.2.2.1 i = ex.2.2.1 i) (e7 : ey.2.2.2.1 i = ex.2.2.2.1 i) (e8 : ∀ j, j < 60 → ey.2.2.2.2.1 (60 * i + j) = ex.2.2.2.2.1 (60 * i + j)) (e9 : ∀ j, j < 60 → ey.2.2.2.2.2 (60 * i + j) = ex.2.2.2.2.2 (60 * i + j)) : sk_RF c g ey i := by
  obtain ⟨a1, a2, a3, a4, a5, a6⟩ := h
  unfold sk_RF
  rw [e3, e4, e5, e6, e7]
  refine ⟨a1.trans ?_, a2, a3, fun j hj => (e8 j (by omega)).trans (a4 j hj), fun j hj => ?_, ?_⟩
  · unfold sk_where; rw [e1, e2]
  · rw [e9 j (by omega)]; exact a5 j hj
  · rw [a6]
    exact ⟨fun q j hj => (q j hj).trans (e9 j (by omega)).symm, fun q j hj => (q j hj).trans (e9 j (by omega))⟩
theorem sk_RF_chg {K : Nat} {b c : sk_Ob} {f : sk_Fi} {ex : sk_Ex} {o i : Nat} (hK : K + 1 ≤ 512) (hch : ∀ q, ∃ z, z ≤ K ∧ b.2.2.2.1 q = nI z) (hi : i < sk_there f) (h : sk_RF b f ex i) (e5 : c.2.2.2.1 = upd b.2.2.2.1 o (b.2.2.2.1 o + 1)) : sk_RF c (sk_brk f o) ex i := by
  obtain ⟨a1, a2, a3, a4, a5, a6⟩ := h
  have hg : ∀ q g, b.2.2.2.1 q = nI g → g ≤ 512 → g ≤ K := fun q g e hg => by
    obtain ⟨z, hz, ez⟩ := hch q
    have := sk_inj (by omega) (by omega) (e.symm.trans ez)
    omega
  refine ⟨a1, a2, a3, a4, fun j hj => ?_, ?_⟩
  · obtain ⟨z, g, h1, h2, h3, h4⟩ := a5 j hj
    by_cases e : (f.2.2.2.2.2.1 i).getD j 0 = o
    · refine ⟨z, g + 1, h1, ?_, by omega, by have := hg _ _ h2 h4; omega⟩
      show c.2.2.2.1 ((f.2.2.2.2.2.1 i).getD j 0) = nI (g + 1)
      rw [e5, e, pk_us, ← e, h2]; exact nI_1 g
    · refine ⟨z, g, h1, ?_, h3, h4⟩
      show c.2.2.2.1 ((f.2.2.2.2.2.1 i).getD j 0) = nI g
      rw [e5, pk_un e]; exact h2
  · show sk_brkB f o i = true ↔ ∀ j, j < (f.2.2.2.2.2.1 i).length → c.2.2.2.1 ((f.2.2.2.2.2.1 i).getD j 0) = ex.2.2.2.2.2 (60 * i + j)
    have hmem : ∀ j, j < (f.2.2.2.2.2.1 i).length → (f.2.2.2.2.2.1 i).getD j 0 ∈ f.2.2.2.2.2.1 i := fun j hj => by
      rw [List.getD_eq_getElem?_getD, List.getElem?_eq_getElem hj, Option.getD_some]; exact List.getElem_mem hj
    constructor
    · intro q j hj
      obtain ⟨q1, q2⟩ := sk_brk_t hi q
      have hne : (f.2.2.2.2.2.1 i).getD j 0 ≠ o := fun e => q2 (e ▸ hmem j hj)
      rw [e5, pk_un hne]
      exact a6.mp q1 j hj
    · intro q
      have hno : o ∉ f.2.2.2.2.2.1 i := fun hm => by
        obtain ⟨j, hj, ej⟩ := List.getElem_of_mem hm
        have ed : (f.2.2.2.2.2.1 i).getD j 0 = o := by rw [List.getD_eq_getElem?_getD, List.getElem?_eq_getElem hj, Option.getD_some]; exact ej
        obtain ⟨z, g, h1, h2, h3, h4⟩ := a5 j hj
        have q1 := q j hj
        rw [e5, ed, pk_us, ← ed, h2, h1, nI_1 g] at q1
        have := sk_inj (by omega) (by omega) q1
        omega
      have hb : f.2.2.2.2.2.2 i = true := a6.mpr (fun j hj => by
        have q1 := q j hj
        have hne : (f.2.2.2.2.2.1 i).getD j 0 ≠ o := fun e => hno (e ▸ hmem j hj)
        rw [e5, pk_un hne] at q1
        exact q1)
      unfold sk_brkB
      rw [hb, decide_eq_false hno]; simp
theorem sk_lenle {nO : Nat} {t : sk_Tr} (h : sk_TO nO t) {s : Nat} (hs : s < t.1) : sk_len t s ≤ 12 := by
  obtain ⟨m, hm, -, hl⟩ := sk_lenOk h hs; omega
theorem sk_RM_object {K : Nat} {b : sk_Ob} {t u : sk_Tr} {f : sk_Fi} {ex : sk_Ex} {na : sk_F} {x : Int32} {r : Nat} (hOK : sk_OK K (b, t, f)) (h : sk_RM (b, t, f) ex) (he : sk_ext t u) (hr : r < u.1) (hu : u.1 ≤ 200) (hnm : sk_names u r = []) (hN : sk_RN u na) : sk_RM ((b.1 + 1, upd b.2.1 b.1 x, upd b.2.2.1 b.1 (nI r), b.2.2.2.1, b.2.2.2.2), u, f) (ex.1, na, ex.2.2) := by
  obtain ⟨h1, h2, h3⟩ := h
  have hT : sk_TO b.1 t := hOK.1
  have hO : sk_OO b t := hOK.2.2.1
  refine ⟨hN, fun o ho j hj => ?_, fun i hi => sk_RF_ext (h3 i hi) rfl rfl rfl rfl rfl rfl rfl (fun _ _ => rfl) (fun _ _ => rfl)⟩
  have ho : o < b.1 + 1 := ho
  have hj : j < sk_len u (upd b.2.2.1 b.1 (nI r) o).toNatClampNeg := hj
  by_cases e : o = b.1
  · subst e
    rw [pk_us, nI_clamp (by omega)] at hj
    have hl := sk_names_len u r
    rw [hnm] at hl
    have hl : 0 = sk_len u r := hl
    omega
  · rw [pk_un e] at hj
    have ho2 : o < b.1 := by omega
    have hj2 : j < sk_len t (sk_sh b o) := by rw [← (sk_ext_nm hT he _ (sk_shOk hT.2.1 hO ho2).1).1]; exact hj
    exact h2 o ho2 j hj2
theorem sk_RV_setv {b : sk_Ob} {t : sk_Tr} {vv : sk_F} {nO : Nat} (hT : sk_TO nO t) (hO : sk_OO b t) (h : sk_RV b t vv) {o k : Nat} (hk : k < 12) (x : Int32) : sk_RV (sk_setv b o k x) t (upd vv (12 * o + k) x) := by
  intro q hq j hj
  have hq : q < b.1 := hq
  have hj : j < sk_len t (sk_sh b q) := hj
  have hj12 := sk_lenle hT (sk_shOk hT.2.1 hO hq).1
  show upd vv (12 * o + k) x (12 * q + j) = va_up b.2.2.2.2 o (upd (b.2.2.2.2 o) k x) q j
  by_cases e : q = o
  · subst e
    rw [va_up_self]
    by_cases e2 : j = k
    · subst e2; rw [pk_us, pk_us]
    · rw [pk_un (by omega), pk_un e2]; exact h q hq j hj
  · rw [va_up_ne _ _ e, pk_un (by omega)]; exact h q hq j hj
/-- the rows of one object change with its shape -/
theorem sk_RV_chg {b : sk_Ob} {op2 : sk_F} {t u : sk_Tr} {vv vw : sk_F} {va : Nat → sk_F} {o r : Nat} (hT : sk_TO b.1 t) (hu : sk_TO b.1 u) (hO : sk_OO b t) (h : sk_RV b t vv) (he : sk_ext t u) (hr : r < u.1) (hv : ∀ q, q ≠ o → va q = b.2.2.2.2 q) (hw : ∀ q, q < b.1 → q ≠ o → ∀ j, j < 12 → vw (12 * q + j) = vv (12 * q + j)) (hn : ∀ j, j < sk_len u r → vw (12 * o + j) = va o j) :
    sk_RV (sk_chg (b.1, op2, b.2.2.1, b.2.2.2.1, va) o r) u vw := by
  intro q hq j hj
  have hq : q < b.1 := hq
  have hj : j < sk_len u (upd b.2.2.1 o (nI r) q).toNatClampNeg := hj
  show vw (12 * q + j) = va q j
  by_cases e : q = o
  · subst e
    rw [pk_us, nI_clamp (sk_t31 hu hr)] at hj
    exact hn j hj
  · rw [pk_un e] at hj
    have hs := (sk_shOk hT.2.1 hO hq).1
    have hj2 : j < sk_len t (sk_sh b q) := by rw [← (sk_ext_nm hT he _ hs).1]; exact hj
    have hj12 := sk_lenle hT hs
    rw [hw q hq e j (by omega), hv q e]
    exact h q hq j hj2
theorem sk_RM_set1 {K : Nat} {b : sk_Ob} {t : sk_Tr} {f : sk_Fi} {ex : sk_Ex} {o k : Nat} (hOK : sk_OK K (b, t, f)) (h : sk_RM (b, t, f) ex) (hk : k < 12) (x : Int32) : sk_RM (sk_setv b o k x, t, f) (upd ex.1 (12 * o + k) x, ex.2) :=
  ⟨h.1, sk_RV_setv hOK.1 hOK.2.2.1 h.2.1 hk x, fun i hi => sk_RF_ext (h.2.2 i hi) rfl rfl rfl rfl rfl rfl rfl (fun _ _ => rfl) (fun _ _ => rfl)⟩
theorem sk_RM_set3 {K : Nat} {b : sk_Ob} {t u : sk_Tr} {f : sk_Fi} {ex : sk_Ex} {na : sk_F} {o r : Nat} {a v : Int32} (hOK : sk_OK K (b, t, f)) (hK : K + 1 ≤ 512) (ho : o < b.1) (h : sk_RM (b, t, f) ex) (hu : sk_TO b.1 u) (he : sk_ext t u) (hr : r < u.1) (hnm : sk_names u r = sk_names t (sk_sh b o) ++ [a]) (hN : sk_RN u na) :
    sk_RM (sk_setv (sk_chg b o r) o (sk_len t (sk_sh b o)) v, u, sk_brk f o) (upd ex.1 (12 * o + sk_len t (sk_sh b o)) v, na, ex.2.2) := by
  have hT : sk_TO b.1 t := hOK.1
  have hO : sk_OO b t := hOK.2.2.1
  have hs := (sk_shOk hT.2.1 hO ho).1
  have hl : sk_len u r = sk_len t (sk_sh b o) + 1 := by rw [← sk_names_len u r, hnm, List.length_append, sk_names_len]; rfl
  have h12 := sk_lenle hu hr
  refine ⟨hN, ?_, fun i hi => sk_RF_chg (c := sk_chg b o r) hK hOK.2.2.2.1 hi (h.2.2 i hi) rfl⟩
  refine sk_RV_chg (b := b) (op2 := b.2.1) (va := va_up b.2.2.2.2 o (upd (b.2.2.2.2 o) (sk_len t (sk_sh b o)) v)) hT hu hO h.2.1 he hr (fun q hq => va_up_ne _ _ hq) (fun q hq e j hj => pk_un (by omega)) (fun j hj => ?_)
  have hj : j < sk_len u r := hj
  rw [va_up_self]
  show upd ex.1 (12 * o + sk_len t (sk_sh b o)) v (12 * o + j) = _
  by_cases e : j = sk_len t (sk_sh b o)
  · subst e; rw [pk_us, pk_us]
  · rw [pk_un (by omega), pk_un e]
    exact h.2.1 o ho j (show j < sk_len t (sk_sh b o) by omega)
theorem sk_RM_drop {K : Nat} {b : sk_Ob} {t u : sk_Tr} {f : sk_Fi} {ex : sk_Ex} {na vw : sk_F} {o r kk n : Nat} (hOK : sk_OK K (b, t, f)) (hK : K + 1 ≤ 512) (ho : o < b.1) (h : sk_RM (b, t, f) ex) (hu : sk_TO b.1 u) (he : sk_ext t u) (hr : r < u.1) (hlu : sk_len u r = n) (hn : n + 1 = sk_len t (sk_sh b o)) (hN : sk_RN u na)
    (hw : ∀ q, ¬ (12 * o + kk ≤ q ∧ q < 12 * o + n) → vw q = ex.1 q) (hw2 : ∀ j, kk ≤ j → j < n → vw (12 * o + j) = ex.1 (12 * o + (j + 1))) : sk_RM (sk_chg (sk_gap b o kk) o r, u, sk_brk f o) (vw, na, ex.2.2) := by
  have hT : sk_TO b.1 t := hOK.1
  have hO : sk_OO b t := hOK.2.2.1
  have hs := (sk_shOk hT.2.1 hO ho).1
  have h12 := sk_lenle hT hs
  refine ⟨hN, ?_, fun i hi => sk_RF_chg (c := sk_chg (sk_gap b o kk) o r) hK hOK.2.2.2.1 hi (h.2.2 i hi) rfl⟩
  refine sk_RV_chg (b := b) (op2 := b.2.1) (va := va_up b.2.2.2.2 o (sk_shift (b.2.2.2.2 o) kk)) hT hu hO h.2.1 he hr (fun q hq => va_up_ne _ _ hq) (fun q hq e j hj => hw _ (by omega)) (fun j hj => ?_)
  rw [va_up_self]
  unfold sk_shift
  show vw (12 * o + j) = _
  have hj : j < sk_len u r := hj
  rw [hlu] at hj
  by_cases c : kk ≤ j
  · rw [if_pos ⟨c, by omega⟩, hw2 j c hj]
    exact h.2.1 o ho (j + 1) (show j + 1 < sk_len t (sk_sh b o) by omega)
  · rw [if_neg (fun q => c q.1), hw _ (by omega)]
    exact h.2.1 o ho j (show j < sk_len t (sk_sh b o) by omega)
theorem sk_RM_turn {K : Nat} {b : sk_Ob} {t u : sk_Tr} {f : sk_Fi} {ex : sk_Ex} {na : sk_F} {o r : Nat} {p : Int32} (hOK : sk_OK K (b, t, f)) (hK : K + 1 ≤ 512) (ho : o < b.1) (h : sk_RM (b, t, f) ex) (hu : sk_TO b.1 u) (he : sk_ext t u) (hr : r < u.1) (hlu : sk_len u r = sk_len t (sk_sh b o)) (hN : sk_RN u na) :
    sk_RM (sk_chg (b.1, upd b.2.1 o p, b.2.2) o r, u, sk_brk f o) (ex.1, na, ex.2.2) := by
  have hT : sk_TO b.1 t := hOK.1
  have hO : sk_OO b t := hOK.2.2.1
  refine ⟨hN, ?_, fun i hi => sk_RF_chg (c := sk_chg (b.1, upd b.2.1 o p, b.2.2) o r) hK hOK.2.2.2.1 hi (h.2.2 i hi) rfl⟩
  refine sk_RV_chg (b := b) (op2 := upd b.2.1 o p) (va := b.2.2.2.2) hT hu hO h.2.1 he hr (fun _ _ => rfl) (fun _ _ _ _ _ => rfl) (fun j hj => ?_)
  rw [hlu] at hj
  exact h.2.1 o ho j hj
