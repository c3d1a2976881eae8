theorem sk_m0 (q8 : Nat) (u9 : List Nat) (k : Nat → ClassId) : sk_wM (fun n => (q8 :: u9).getD n 0) k sk_S0 sk_ex0 (fun _ => 0) 0 = [(q8, .inr (4, [.int 0, .int 0, .ref (u9.getD 0 0), .ref (u9.getD 1 0), .ref (u9.getD 2 0), .int (nI 1), .ref (u9.getD 3 0), .ref (u9.getD 4 0), .ref (u9.getD 5 0), .ref (u9.getD 6 0), .int 0, .ref (u9.getD 7 0), .ref (u9.getD 8 0), .ref (u9.getD 9 0), .ref (u9.getD 10 0), .ref (u9.getD 11 0), .ref (u9.getD 12 0), .ref (u9.getD 13 0), .ref (u9.getD 14 0), .ref (u9.getD 15 0)])), ((u9.getD 0 0), .inl (k 0, 60, .inl (fun _ => 0))), ((u9.getD 1 0), .inl (k 0, 60, .inl (fun _ => 0))), ((u9.getD 2 0), .inl (k 0, 720, .inl (fun _ => 0))), ((u9.getD 3 0), .inl (k 0, 200, .inl (upd (fun _ => 0) 0 (-1)))), ((u9.getD 4 0), .inl (k 0, 200, .inl (upd (fun _ => 0) 0 (-1)))), ((u9.getD 5 0), .inl (k 0, 200, .inl (fun _ => 0))), ((u9.getD 6 0), .inl (k 0, 2400, .inl (fun _ => 0))), ((u9.getD 7 0), .inl (k 0, 100, .inl (fun _ => 0))), ((u9.getD 8 0), .inl (k 0, 100, .inl (fun _ => 0))), ((u9.getD 9 0), .inl (k 0, 100, .inl (fun _ => 0))), ((u9.getD 10 0), .inl (k 0, 100, .inl (fun _ => 0))), ((u9.getD 11 0), .inl (k 0, 100, .inl (fun _ => 0))), ((u9.getD 12 0), .inl (k 0, 100, .inl (fun _ => 0))), ((u9.getD 13 0), .inl (k 0, 6000, .inl (fun _ => 0))), ((u9.getD 14 0), .inl (k 0, 6000, .inl (fun _ => 0))), ((u9.getD 15 0), .inl (k 0, 12, .inl (fun _ => 0)))] := rfl
set_option maxHeartbeats 4000000 in
set_option maxRecDepth 100000 in
/-- from the entry, for every script of at most 2048 ints, the law comes to its end with true -/
theorem whole_start {p : Program} {e : Env} {s : State} {m : MethodId} {below : List Frame} {meth : Method} {c : Code} (l : Launch) (htr : l.stackTraces = false) {b L : Nat} {xs : Nat → Int32} (hL : L ≤ 2048) (C0 : lw_At p s m meth c b L xs) : W p l e room_1 s m #[Value.ref b] below meth c s.heap [] 0 0 (lw_Z below #[Value.ref b] s) (entryFrame m ([Value.ref b] : List Value).toArray 7) := by
  obtain ⟨hx, hb, hr, hml, hown, hts0, hX, hbl, hlocks, hgv⟩ := id C0
  have hts : ∀ w ∈ sk_W, w.before #[Value.ref b] s = true := fun w h => hts0 w (List.mem_filter.mp h).1
  have hown : s.vm.findClass RL = some m.cls := hown
  have h0 : sk_TW0 s := sk_start0 hts0 hgv
  have hN : sk_NW s := sk_NW0 hts0
  have hover : (Cond.arrayOver (.array .int)).before #[Value.ref b] s = true := hts0 _ (sk_inT (i := 68) (by decide +kernel))
  have hAO : sk_AO s := sk_AO.of hover
  obtain ⟨c0, i0, hKn0⟩ := u_known (C := RF) (T := TF) (N := 9) (n := 9) hts inF (hts _ wtF)
  obtain ⟨c1, i1, hKn1⟩ := u_known (C := RO) (T := TO) (N := 5) (n := 5) hts inO (hts _ wtO)
  obtain ⟨c2, i2, hKn2⟩ := u_known (C := RT) (T := TT) (N := 5) (n := 5) hts inT (hts _ wtT)
  obtain ⟨c3, i3, hKn3⟩ := u_known (C := RK) (T := TK) (N := 4) (n := 4) hts inK (hts _ wtK)
  obtain ⟨c4, i4, hKn4⟩ := u_known (C := RM) (T := TM) (N := 20) (n := 20) hts inM (hts _ wtM)
  obtain ⟨k0, hk0, hf0⟩ := sk_arrK (hts _ waI)
  obtain ⟨k1, hk1, hf1⟩ := sk_arrK (hts _ waZ)
  obtain ⟨k2, hk2, hf2⟩ := sk_arrK (hts _ waJ)
  obtain ⟨k3, hk3, hf3⟩ := sk_arrO hover
  obtain ⟨dC, dI, hKc⟩ : ∃ (dC : Nat → ClassId) (dI : Nat → Nat → Nat), ∀ (n : Nat) (q : vw_C), vwCl[n]? = some q → u_Kn s q.1 q.2.1 q.2.2 (dC n) (dI n) := by
    refine ⟨fun n => if n = 0 then c0 else if n = 1 then c1 else if n = 2 then c2 else if n = 3 then c3 else c4, fun n => if n = 0 then i0 else if n = 1 then i1 else if n = 2 then i2 else if n = 3 then i3 else i4, ?_⟩
    intro n q hq
    match n, hq with
    | 0, hq => cases hq; exact hKn0
    | 1, hq => cases hq; exact hKn1
    | 2, hq => cases hq; exact hKn2
    | 3, hq => cases hq; exact hKn3
    | 4, hq => cases hq; exact hKn4
    | n + 5, hq => simp [vwCl] at hq
  obtain ⟨k, hKt⟩ : ∃ k : Nat → ClassId, ∀ (n : Nat) (q : ClassId × FieldType), (sk_tys k)[n]? = some q → ArrOfT s q.1 q.2 ∧ va_RA s q.1 q.2 := by
    refine ⟨fun n => if n = 0 then k0 else if n = 1 then k1 else if n = 2 then k2 else k3, ?_⟩
    intro n q hq
    match n, hq with
    | 0, hq => cases hq; exact ⟨hk0, hf0⟩
    | 1, hq => cases hq; exact ⟨hk1, hf1⟩
    | 2, hq => cases hq; exact ⟨hk2, hf2⟩
    | 3, hq => cases hq; exact ⟨hk3, hf3⟩
    | n + 4, hq => simp [sk_tys] at hq
  have hK : va_K (dC, dI) vwCl (sk_tys k) s := ⟨hKc, hKt⟩
  have hC : sk_L0 p s m meth c b L xs l dC dI k := ⟨C0, hL, htr, h0, hK, hN⟩
  have hA : ∀ q : Nat, s.heap.size ≤ q → sk_LA s q := fun _ h => h
  have hS : va_S (sk_LA s) s.heap s.heap [] := va_S.rf
  have hP : va_P (dC, dI) vwCl [] s.heap := fun n q h => by simp at h
  have hD : va_D (sk_LA s) [] := ⟨fun i j p q h => by simp at h, fun n q h => by simp at h⟩
  have hl := lv_entry ([.ref b]) (n := 7) (Nat.le_of_ble_eq_true rfl)
  rw [lg_entry_eq]
  generalize (lg_sl ([.ref b]) ++ List.replicate (7 - (lg_sl ([.ref b])).length) Slot.unset).toArray = ls at hl ⊢
  have hl : lv_has ls 7 [(0, .ref b)] := hl
  refine va_new (ci := 3) (fs := [.null, .null, .null, .null]) (C := RK) (T := TK) (N := 4) hx hb hts inK tyK tyK_ok hown (hts _ wkL_8) (hts _ wtK) (hts _ wnK) hK hP hD hS hA rfl (fun j hj => by rcases (show j = 0 ∨ j = 1 ∨ j = 2 ∨ j = 3 by omega) with rfl | rfl | rfl | rfl <;> rfl) (Nat.le_of_ble_eq_true rfl) (Nat.le_of_ble_eq_true rfl) dL_law_0 (fun q0 H hP hD hS => ?_)
  refine lv_dup hx hb dL_law_3 rfl ?_
  have hFc := sk_freeA hD hS hA
  refine va_callv (va_runI (As := []) (rest := [.ref q0]) ⟨hx, hb, hml, hown, hts⟩ (kK_init l dC dI k q0 H.size) (cwI 0 hts (sk_gC wcK_init) rfl rfl rfl (hts _ wnK) (hts _ wmL_26) (hts _ wiK_init) rfl (by decide +kernel) ⟨Nat.le_of_ble_eq_true rfl, Nat.le_of_ble_eq_true rfl⟩) ⟨fun a U g mk q => by obtain ⟨q0, q1, qP, qK, qD, qA, qN⟩ := q; exact ⟨q0, q1, qP, va_K.moved (u := U) (U := U.calling g mk a) (Vm.Alike.refl U.vm) qK, qD, sk_AO.alike (u := U) (U := U.calling g mk a) (Vm.Alike.refl U.vm) qA, sk_NW_same (s := U) rfl qN⟩, fun U hU hW => ⟨rfl, by rw [hU], by rw [hU]; exact sk_last hP, va_K.moved hW.alike hK, sk_D1, sk_AO.alike hW.alike hAO, sk_NW_warm hW hN⟩⟩ rfl rfl hl.1 rfl (lv_room (Nat.le_of_ble_eq_true rfl)) dL_law_4 ⟨Nat.le_of_ble_eq_true rfl, Nat.le_of_ble_eq_true rfl⟩) hS (fun q _ h => hFc q h) hFc (fun a U9 H1 locs ht hvm hw hB hz1 hk1 hS => ?_)
  obtain ⟨hP1, hD1⟩ := hB
  rw [ht] at hP1
  obtain ⟨hP, hD⟩ := sk_joinA hP hD hP1 hD1 hk1 hFc
  clear hk1 hFc hP1 hD1 ht hz1
  generalize H1 = H at hP hS ⊢
  have hP : va_P (dC, dI) vwCl (sk_wX a k sk_S0 (fun _ => 0)) H := hP
  have hD : va_D (sk_LA s) (sk_wX a k sk_S0 (fun _ => 0)) := hD
  rw [← hw]
  refine lv_astore_n (lv' := [(1, .ref (a 0)), (0, .ref b)]) hx hb dL_law_7 rfl hl (by decide) rfl (fun ls hl => ?_)
  refine va_new (ci := 4) (fs := [.int 0, .int 0, .null, .null, .null, .int 0, .null, .null, .null, .null, .int 0, .null, .null, .null, .null, .null, .null, .null, .null, .null]) (C := RM) (T := TM) (N := 20) hx hb hts inM tyM tyM_ok hown (hts _ wkL_27) (hts _ wtM) (hts _ wnM) hK hP hD hS hA rfl (fun j hj => by rcases (show j = 0 ∨ j = 1 ∨ j = 2 ∨ j = 3 ∨ j = 4 ∨ j = 5 ∨ j = 6 ∨ j = 7 ∨ j = 8 ∨ j = 9 ∨ j = 10 ∨ j = 11 ∨ j = 12 ∨ j = 13 ∨ j = 14 ∨ j = 15 ∨ j = 16 ∨ j = 17 ∨ j = 18 ∨ j = 19 by omega) with rfl | rfl | rfl | rfl | rfl | rfl | rfl | rfl | rfl | rfl | rfl | rfl | rfl | rfl | rfl | rfl | rfl | rfl | rfl | rfl <;> rfl) (Nat.le_of_ble_eq_true rfl) (Nat.le_of_ble_eq_true rfl) dL_law_8 (fun q8 H hP hD hS => ?_)
  refine lv_dup hx hb dL_law_11 rfl ?_
  have hFc := sk_freeA hD hS hA
  refine va_callv (va_runI (As := []) (rest := [.ref q8]) ⟨hx, hb, hml, hown, hts⟩ (kM_init l dC dI k q8 H.size) (cwI 0 hts (sk_gC wcM_init) rfl rfl rfl (hts _ wnM) (hts _ wmL_29) (hts _ wiM_init) rfl (by decide +kernel) ⟨Nat.le_of_ble_eq_true rfl, Nat.le_of_ble_eq_true rfl⟩) ⟨fun a U g mk q => by obtain ⟨q0, q1, qP, qK, qD⟩ := q; exact ⟨q0, q1, qP, va_K.moved (u := U) (U := U.calling g mk a) (Vm.Alike.refl U.vm) qK, qD⟩, fun U hU hW => ⟨rfl, by rw [hU], by rw [hU]; exact sk_last hP, va_K.moved hW.alike hK, sk_D1⟩⟩ rfl rfl hl.1 rfl (lv_room (Nat.le_of_ble_eq_true rfl)) dL_law_12 ⟨Nat.le_of_ble_eq_true rfl, Nat.le_of_ble_eq_true rfl⟩) hS (fun q _ h => hFc q h) hFc (fun u9 U9 H1 locs ht hvm hw hB hz1 hk1 hS => ?_)
  obtain ⟨hP1, hD1⟩ := hB
  rw [ht] at hP1
  obtain ⟨hP, hD⟩ := sk_joinA hP hD hP1 hD1 hk1 hFc
  clear hk1 hFc hP1 hD1 ht hz1
  generalize H1 = H at hP hS ⊢
  rw [← sk_m0 q8 u9 k] at hP hD
  obtain ⟨am, ham⟩ : ∃ am : Nat → Nat, am = fun n => (q8 :: u9).getD n 0 := ⟨_, rfl⟩
  have hq8 : q8 = am 0 := by rw [ham]; rfl
  rw [← ham] at hP hD
  rw [hq8]
  clear hq8 ham
  refine lv_astore_n (lv' := [(2, .ref (am 0)), (1, .ref (a 0)), (0, .ref b)]) hx hb dL_law_15 rfl hl (by decide) rfl (fun ls hl => ?_)
  refine lv_iconst (v := nI 1) hx hb dL_law_16 (by decide) ?_
  refine sk_newa (ty := .long) (atype := .long) (cA := k 2) (n := nI 1) (N' := 1) (a0 := (1, .inr (.inl (fun _ => 0)))) hx hb (hts _ waJ) rfl hK 2 rfl (fun _ h => by cases h) hP hD hS hA (sk_cell_l 1) (by decide) (by decide) (by decide) (Nat.le_of_ble_eq_true rfl) (Nat.le_of_ble_eq_true rfl) dL_law_17 (fun oa H hP hD hS => ?_)
  have hP : va_P (dC, dI) vwCl (sk_LW a am k oa sk_S0 (fun _ => 0) sk_ex0 (fun _ => 0) 0 (fun _ => 0)) H := va_P.swap (a := []) hP
  have hD : va_D (sk_LA s) (sk_LW a am k oa sk_S0 (fun _ => 0) sk_ex0 (fun _ => 0) 0 (fun _ => 0)) := va_D.swap (a := []) hD
  refine lv_astore_n (lv' := [(3, .ref oa), (2, .ref (am 0)), (1, .ref (a 0)), (0, .ref b)]) hx hb dL_law_19 rfl hl (by decide) rfl (fun ls hl => ?_)
  refine lv_iconst (v := nI 0) hx hb dL_law_20 (by decide) ?_
  refine lv_istore (lv' := [(4, .int (nI 0)), (3, .ref oa), (2, .ref (am 0)), (1, .ref (a 0)), (0, .ref b)]) hx hb dL_law_21 hl (by decide) rfl (fun ls hl => ?_)
  refine W.widen (k := 100 + 0) (n := 20000 + 6 * 0) (Nat.le_of_ble_eq_true rfl) (Nat.le_of_ble_eq_true rfl) ?_
  exact law_loop hC 514 0 (by decide) (by decide) sk_S0 (fun _ => 0) sk_ex0 (fun _ => 0) 0 (fun _ => 0) H _ ls sk_S0_OK sk_S0_RM hP hD hS (lv_sub hl [4, 3, 2, 1, 0] rfl)
