/-! the cells of the reference's object -/
abbrev sk_Ex : Type := sk_F × sk_F × sk_F × sk_F × sk_F × sk_F
def sk_wMR (a : Nat → Nat) (k : Nat → ClassId) (th n : Int32) (sh ch vv : sk_F) (nS : Int32) (pr og le na : sk_F) (mk : Int32) (fs fn fw fh fp fy fo fc lf : sk_F) : va_W :=
  [(a 0, .inr (4, [.int th, .int n, .ref (a 1), .ref (a 2), .ref (a 3), .int nS, .ref (a 4), .ref (a 5), .ref (a 6), .ref (a 7), .int mk, .ref (a 8), .ref (a 9), .ref (a 10), .ref (a 11), .ref (a 12), .ref (a 13), .ref (a 14), .ref (a 15), .ref (a 16)])),
   (a 1, .inl (k 0, 60, .inl sh)), (a 2, .inl (k 0, 60, .inl ch)), (a 3, .inl (k 0, 720, .inl vv)), (a 4, .inl (k 0, 200, .inl pr)), (a 5, .inl (k 0, 200, .inl og)), (a 6, .inl (k 0, 200, .inl le)), (a 7, .inl (k 0, 2400, .inl na)),
   (a 8, .inl (k 0, 100, .inl fs)), (a 9, .inl (k 0, 100, .inl fn)), (a 10, .inl (k 0, 100, .inl fw)), (a 11, .inl (k 0, 100, .inl fh)), (a 12, .inl (k 0, 100, .inl fp)), (a 13, .inl (k 0, 100, .inl fy)), (a 14, .inl (k 0, 6000, .inl fo)), (a 15, .inl (k 0, 6000, .inl fc)), (a 16, .inl (k 0, 12, .inl lf))]
def sk_wM (a : Nat → Nat) (k : Nat → ClassId) (S : sk_S) (ex : sk_Ex) (lf : sk_F) (th : Int32) : va_W :=
  sk_wMR a k th (nI S.1.1) S.1.2.2.1 S.1.2.2.2.1 ex.1 (nI S.2.1.1) S.2.1.2.1 S.2.1.2.2.1 S.2.1.2.2.2.2 ex.2.1 (nI S.2.2.1) S.2.2.2.1 S.2.2.2.2.1 ex.2.2.1 S.2.2.2.2.2.1 S.2.2.2.2.2.2.1 ex.2.2.2.1 ex.2.2.2.2.1 ex.2.2.2.2.2 lf
def sk_PM (dC : Nat → ClassId) (dI : Nat → Nat → Nat) (a : Nat → Nat) (k : Nat → ClassId) (S : sk_S) (ex : sk_Ex) (lf : sk_F) (th : Int32) (U : State) : Prop := va_P (dC, dI) vwCl (sk_wM a k S ex lf th) U.heap ∧ va_K (dC, dI) vwCl (sk_tys k) U
theorem sk_PM_call {dC : Nat → ClassId} {dI : Nat → Nat → Nat} {a : Nat → Nat} {k : Nat → ClassId} {S : sk_S} {ex : sk_Ex} {lf : sk_F} {th : Int32} {U : State} (g : JFrame) (mk : MethodId) (v : Array Value) (h : sk_PM dC dI a k S ex lf th U) : sk_PM dC dI a k S ex lf th (U.calling g mk v) := ⟨h.1, va_K.moved (u := U) (U := U.calling g mk v) (Vm.Alike.refl U.vm) h.2⟩
theorem sk_blindM (av : List Value) {dC : Nat → ClassId} {dI : Nat → Nat → Nat} {a : Nat → Nat} {k : Nat → ClassId} {S : sk_S} {ex : sk_Ex} {lf : sk_F} {th : Int32} : FrameBlind (va_Pc av (sk_PM dC dI a k S ex lf th)) := fun _ _ g mk q => ⟨q.1, sk_PM_call g mk _ q.2⟩
theorem sk_blindMD (av : List Value) {dC : Nat → ClassId} {dI : Nat → Nat → Nat} {a : Nat → Nat} {k : Nat → ClassId} {S : sk_S} {ex : sk_Ex} {lf : sk_F} {th : Int32} {P : Prop} : FrameBlind (va_Pc av (fun U => sk_PM dC dI a k S ex lf th U ∧ P)) := fun _ _ g mk q => ⟨q.1, sk_PM_call g mk _ q.2.1, q.2.2⟩
theorem sk_atM {dC : Nat → ClassId} {dI : Nat → Nat → Nat} {a : Nat → Nat} {k : Nat → ClassId} {S : sk_S} {ex : sk_Ex} {lf : sk_F} {th : Int32} {s : State} {H : Heap} (hP : va_P (dC, dI) vwCl (sk_wM a k S ex lf th) H) (hK : va_K (dC, dI) vwCl (sk_tys k) s) {U : State} (hU : U.heap = H) (hW : s.WarmedH U.vm) : sk_PM dC dI a k S ex lf th U := ⟨by rw [hU]; exact hP, va_K.moved hW.alike hK⟩
/-! how the reference's rows stand to the state -/
def sk_RN (t : sk_Tr) (na : sk_F) : Prop := ∀ s, s < t.1 → ∀ j, j < sk_len t s → na (12 * s + j) = sk_nm t s j
def sk_RV (b : sk_Ob) (t : sk_Tr) (vv : sk_F) : Prop := ∀ o, o < b.1 → ∀ j, j < sk_len t (sk_sh b o) → vv (12 * o + j) = b.2.2.2.2 o j
def sk_RF (b : sk_Ob) (f : sk_Fi) (ex : sk_Ex) (i : Nat) : Prop := ex.2.2.1 i = sk_where f i ∧ ex.2.2.2.1 i = nI (f.2.2.2.2.2.1 i).length ∧ (f.2.2.2.2.2.1 i).length ≤ 60 ∧ (∀ j, j < (f.2.2.2.2.2.1 i).length → ex.2.2.2.2.1 (60 * i + j) = nI ((f.2.2.2.2.2.1 i).getD j 0)) ∧
  (∀ j, j < (f.2.2.2.2.2.1 i).length → ∃ c g, ex.2.2.2.2.2 (60 * i + j) = nI c ∧ b.2.2.2.1 ((f.2.2.2.2.2.1 i).getD j 0) = nI g ∧ c ≤ g ∧ g ≤ 512) ∧ (f.2.2.2.2.2.2 i = true ↔ ∀ j, j < (f.2.2.2.2.2.1 i).length → b.2.2.2.1 ((f.2.2.2.2.2.1 i).getD j 0) = ex.2.2.2.2.2 (60 * i + j))
def sk_RM (S : sk_S) (ex : sk_Ex) : Prop := sk_RN S.2.1 ex.2.1 ∧ sk_RV S.1 S.2.1 ex.1 ∧ ∀ i, i < sk_there S.2.2 → sk_RF S.1 S.2.2 ex i
theorem sk_RN_ext {nO : Nat} {t u : sk_Tr} {na nb : sk_F} (h : sk_TO nO t) (he : sk_ext t u) (hr : sk_RN t na) (hn : ∀ j, j < 12 * t.1 → nb j = na j) (hnew : ∀ s, t.1 ≤ s → s < u.1 → ∀ j, j < sk_len u s → nb (12 * s + j) = sk_nm u s j) : sk_RN u nb := by
  intro s hs j hj
  by_cases c : s < t.1
  · obtain ⟨e1, e2⟩ := sk_ext_nm h he s c
    rw [e1] at hj
    obtain ⟨m, hm, -, hl⟩ := sk_lenOk h c
    rw [hn _ (by omega), e2 j hj]
    exact hr s c j hj
  · exact hnew s (by omega) hs j hj
theorem sk_RN_empty {nO : Nat} {t : sk_Tr} {na : sk_F} {x : Int32} (h : sk_TO nO t) (hr : sk_RN t na) : sk_RN (sk_make t x (-1) (-1) 0) na := by
  refine sk_RN_ext h (sk_ext_make t _ _ _ _) hr (fun _ _ => rfl) (fun s h1 h2 j hj => ?_)
  have h2 : s < t.1 + 1 := h2
  have e : s = t.1 := by omega
  subst e
  rw [sk_lenE (t := sk_make t x (-1) (-1) 0) (m := 0) (by omega) pk_us] at hj
  omega
/-- a child's names: those of its origin copied, its own behind them -/
theorem sk_RN_child {nO : Nat} {t : sk_Tr} {na nb : sk_F} {s m : Nat} {x : Int32} (h : sk_TO nO t) (hr : sk_RN t na) (hs : s < t.1) (hm : m < 12) (hl : t.2.2.2.2 s = nI m) (hn : ∀ j, j < 12 * t.1 → nb j = na j) (hc : ∀ j, j < m → nb (12 * t.1 + j) = na (12 * s + j)) (hx : nb (12 * t.1 + m) = x) : sk_RN (sk_grow1 t s x) nb := by
  have he : sk_ext t (sk_grow1 t s x) := sk_ext_make t _ _ _ _
  refine sk_RN_ext h he hr hn (fun q h1 h2 j hj => ?_)
  have h2 : q < t.1 + 1 := h2
  have e : q = t.1 := by omega
  subst e
  have hle : (sk_grow1 t s x).2.2.2.2 t.1 = nI (m + 1) := by rw [show (sk_grow1 t s x).2.2.2.2 t.1 = t.2.2.2.2 s + 1 from pk_us, hl]; exact nI_1 m
  rw [sk_lenE (by omega) hle] at hj
  by_cases c : j < m
  · rw [hc j c, sk_nm_par (t := sk_grow1 t s x) (i := t.1) (j := s) (sk_t31 h hs) hm pk_us (((he.2 s hs).2.2.2).trans hl) hle c, (sk_ext_nm h he s hs).2 j (by rw [sk_lenE (by omega) hl]; exact c)]
    exact hr s hs j (by rw [sk_lenE (by omega) hl]; exact c)
  · have e : j = m := by omega
    subst e
    rw [hx, sk_nm_top hm hle]
    exact (show (sk_grow1 t s x).2.2.2.1 t.1 = x from pk_us).symm
theorem sk_top_na {nO : Nat} {t : sk_Tr} {na : sk_F} (h : sk_TO nO t) (hr : sk_RN t na) {i s : Nat} (hi : i < t.1) (hs : s < 2 ^ 31) (ho : t.2.2.1 i = nI s) : ∃ m, m < 12 ∧ t.2.2.2.2 i = nI (m + 1) ∧ s < i ∧ na (12 * i + m) = t.2.2.2.1 i := by
  rcases (h.2.2.2.2.2 i hi).2 with ⟨e, -⟩ | ⟨j, m, a, h1, h2, h3, h4, h5, h6, -⟩
  · exact absurd (ho.symm.trans e) (sk_nm1 hs)
  · have hj : j = s := sk_inj (by have := sk_t31 h hi; omega) hs (h4.symm.trans ho)
    exact ⟨m, h2, h6, by omega, by rw [hr i hi m (by rw [sk_lenE (by omega) h6]; omega), sk_nm_top h2 h6]⟩
theorem sk_wn_0 {nO : Nat} {t : sk_Tr} (h : sk_TO nO t) {s : Nat} (hs : s < t.1) (x : Int32) : sk_ff (fun i => decide (t.2.2.1 i = nI s) && decide (t.2.2.2.1 i = x)) (t.1 - 0) 0 = sk_wn t s x := by
  unfold sk_wn
  rw [show t.1 - 0 = (s + 1) + (t.1 - (s + 1)) by omega, sk_ff_skip (s + 1) _ 0 (fun i _ hi => ?_), Nat.zero_add]
  have hit : i < t.1 := by omega
  rcases (h.2.2.2.2.2 i hit).2 with ⟨e, -⟩ | ⟨j, m, a, h1, h2, h3, h4, -⟩
  · rw [e, decide_eq_false (sk_m1n (sk_t31 h hs))]; rfl
  · rw [h4, decide_eq_false (fun q => by have := sk_inj (by have := sk_t31 h hit; omega) (sk_t31 h hs) q; omega)]; rfl
