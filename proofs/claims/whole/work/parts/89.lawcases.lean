theorem sk_code0 {n : Nat} (h : n < 4) (e : nI n = 0) : n = 0 := by
  rcases (show n = 0 ∨ n = 1 ∨ n = 2 ∨ n = 3 by omega) with rfl | rfl | rfl | rfl
  · rfl
  all_goals exact absurd e (by decide)
theorem sk_object_lt (S : sk_S) (x : Int32) : (sk_object S x).1 < 4 := by rcases sk_object_or S x with h | ⟨h, -⟩ | ⟨h, -⟩ <;> omega
theorem sk_read_lt (S : sk_S) (x y : Int32) : (sk_read S x y).1 < 4 := by rcases sk_read_or S x y with h | h | h <;> omega
theorem sk_get_lt (S : sk_S) (x y : Int32) : (sk_get S x y).1 < 4 := by rcases sk_get_or S x y with h | h | h | h <;> omega
set_option maxHeartbeats 4000000 in
set_option maxRecDepth 100000 in
theorem law_c0 {p : Program} {e : Env} {s : State} {m : MethodId} {below : List Frame} {meth : Method} {c : Code} {l : Launch} {b L : Nat} {xs : Nat → Int32} {dC : Nat → ClassId} {dI : Nat → Nat → Nat} {a am : Nat → Nat} {k : Nat → ClassId} {oa j : Nat} (C0 : sk_L0 p s m meth c b L xs l dC dI k) (hj : 4 * j + 4 ≤ L) (hI : sk_LC p l e s m below meth c b dC dI a am k oa (j + 1)) {bo : sk_Ob} {t : sk_Tr} {f : sk_Fi} {wt : sk_F} {ex : sk_Ex} {lf : sk_F} {th : Int32} {fo : Nat → Int64} {H : Heap} {locs : List Loc} {ls : Array Slot} (hOK : sk_OK j (bo, t, f)) (hR : sk_RM (bo, t, f) ex) (hP : va_P (dC, dI) vwCl (sk_LW a am k oa (bo, t, f) wt ex lf th fo) H) (hD : va_D (sk_LA s) (sk_LW a am k oa (bo, t, f) wt ex lf th fo)) (hS : va_S (sk_LA s) s.heap H locs) (hl : lv_has ls 7 [(0, .ref b), (1, .ref (a 0)), (2, .ref (am 0)), (3, .ref oa), (4, .int (nI (4 * j)))]) : W p l e room_1 s m #[Value.ref b] below meth c H locs (100 + j) (20000 + 6 * j) (lw_Z below #[Value.ref b] s) (F0 m 100 ls []) := by
  obtain ⟨⟨hx, hb, hr, hml, hown, hts0, hX, hbl, hlocks, hgv⟩, hL, htr, h0, hK, hN⟩ := id C0
  have hts : ∀ w ∈ sk_W, w.before #[Value.ref b] s = true := fun w h => hts0 w (List.mem_filter.mp h).1
  have hown : s.vm.findClass RL = some m.cls := hown
  have hbA : ¬ sk_LA s b := Nat.not_le.mpr hbl
  have hj1 : j + 1 ≤ 512 := by omega
  have hin1 : vp_in (nI (4 * j) + nI 1) L := by rw [nI_add]; exact vp_in_nI (by omega) (by omega)
  have hin2 : vp_in (nI (4 * j) + nI 2) L := by rw [nI_add]; exact vp_in_nI (by omega) (by omega)
  have hin3 : vp_in (nI (4 * j) + nI 3) L := by rw [nI_add]; exact vp_in_nI (by omega) (by omega)
  have hP : va_P (dC, dI) vwCl ([sk_wO oa k fo] ++ (sk_wX a k (bo, t, f) wt ++ sk_wM am k (bo, t, f) ex lf th)) H := hP
  have hD : va_D (sk_LA s) ([sk_wO oa k fo] ++ (sk_wX a k (bo, t, f) wt ++ sk_wM am k (bo, t, f) ex lf th)) := hD
  refine lv_aload_n hx hb dL_law_100 rfl (lv_at hl 1 rfl) ?_
  refine lv_aload_n hx hb dL_law_101 rfl (lv_at hl 0 rfl) ?_
  refine lv_iload hx hb dL_law_102 (lv_at hl 4 rfl) ?_
  refine lv_iconst (v := nI 1) hx hb dL_law_104 (by decide) ?_
  refine lv_iadd hx hb dL_law_105 ?_
  refine va_sld hx hb hX hbl hbA hS hin1 dL_law_106 ?_
  refine lv_aload_n hx hb dL_law_107 rfl (lv_at hl 3 rfl) ?_
  have hPl : va_P (dC, dI) vwCl ([sk_wO oa k fo] ++ sk_wX a k (bo, t, f) wt) H := sk_PL1 (X := [sk_wO oa k fo] ++ sk_wX a k (bo, t, f) wt) (Y := sk_wM am k (bo, t, f) ex lf th) hP
  have hDl : va_D (sk_ad ([sk_wO oa k fo] ++ sk_wX a k (bo, t, f) wt)) ([sk_wO oa k fo] ++ sk_wX a k (bo, t, f) wt) := sk_Dself (sk_DL1 (X := [sk_wO oa k fo] ++ sk_wX a k (bo, t, f) wt) (Y := sk_wM am k (bo, t, f) ex lf th) hD)
  have hin : ∀ q : Nat, sk_ad ([sk_wO oa k fo] ++ sk_wX a k (bo, t, f) wt) q → sk_LA s q := sk_adB (X := [sk_wO oa k fo] ++ sk_wX a k (bo, t, f) wt) (Y := sk_wM am k (bo, t, f) ex lf th) hD
  have hold : ∀ q : Nat, q < s.heap.size → H[q]? = s.heap[q]? := fun q hq => hS.2.1 q hq (Nat.not_le.mpr hq)
  refine va_calli (sk_runSW (As := [.ref (a 0), .int (xs (nI (4 * j) + nI 1).toNatClampNeg), .ref oa]) (rest := []) (n := 3) ⟨hx, hb, hml, hown, hts⟩ (kL_object l dC dI a k bo t f wt (sk_ad ([sk_wO oa k fo] ++ sk_wX a k (bo, t, f) wt)) s htr h0 oa fo (xs (nI (4 * j) + nI 1).toNatClampNeg) j hOK) rfl rfl (Nat.le_of_ble_eq_true rfl) (Nat.le_of_ble_eq_true rfl) (pay_in hts (sk_gC wcL_object)) List.mem_cons_self (hts _ wnL) (by decide) (sk_lenp (by decide +kernel)) (hts _ wmL_30) (hts _ wiL_object) ⟨sk_blindL _, fun U hU hW => ⟨rfl, by rw [hU]; exact hPl, va_K.moved hW.alike hK, sk_NW_warm hW hN, hDl, sk_TW_at (State.WarmedH.refl s) hold hU hW⟩⟩ rfl rfl hl.1 rfl (lv_room (Nat.le_of_ble_eq_true rfl)) dL_law_108 ⟨by show 100 + j + 1 ≤ 601024; omega, by show 20000 + 6 * j + 6 ≤ 7293034; omega⟩) hS (fun q _ h => hin q h) (fun q h => hin q h) (fun r108 u108 U9 H locs ht hvm w108 hB hz hk hS => ?_)
  obtain ⟨hP1, hD1⟩ := hB
  rw [ht] at hP1
  obtain ⟨hP, hD⟩ := sk_joinL (X := [sk_wO oa k fo] ++ sk_wX a k (bo, t, f) wt) (Y := sk_wM am k (bo, t, f) ex lf th) hP hD hP1 hD1 hk
  obtain ⟨fo2, S2, wt2⟩ := u108
  obtain ⟨w108, hs2, hf2⟩ := w108
  have hs2 : S2 = (sk_object (bo, t, f) (xs (nI (4 * j) + nI 1).toNatClampNeg)).2.2 := hs2
  subst hs2
  have hf2 : (sk_object (bo, t, f) (xs (nI (4 * j) + nI 1).toNatClampNeg)).1 = 0 → fo2 0 = (sk_object (bo, t, f) (xs (nI (4 * j) + nI 1).toNatClampNeg)).2.1.toInt64 := hf2
  have hP : va_P (dC, dI) vwCl ([sk_wO oa k fo2] ++ (sk_wX a k ((sk_object (bo, t, f) (xs (nI (4 * j) + nI 1).toNatClampNeg)).2.2) wt2 ++ sk_wM am k (bo, t, f) ex lf th)) H := hP
  have hD : va_D (sk_LA s) ([sk_wO oa k fo2] ++ (sk_wX a k ((sk_object (bo, t, f) (xs (nI (4 * j) + nI 1).toNatClampNeg)).2.2) wt2 ++ sk_wM am k (bo, t, f) ex lf th)) := hD
  refine lv_istore (lv' := [(5, .int r108), (0, .ref b), (1, .ref (a 0)), (2, .ref (am 0)), (3, .ref oa), (4, .int (nI (4 * j)))]) hx hb dL_law_111 hl (by decide) rfl (fun ls hl => ?_)
  refine lv_aload_n hx hb dL_law_113 rfl (lv_at hl 3 rfl) ?_
  refine lv_aload_n hx hb dL_law_114 rfl (lv_at hl 1 rfl) ?_
  refine lv_iload hx hb dL_law_115 (lv_at hl 5 rfl) ?_
  refine lv_iconst (v := nI 1) hx hb dL_law_117 (by decide) ?_
  refine lv_iadd hx hb dL_law_118 ?_
  refine va_sld hx hb hX hbl hbA hS hin1 dL_law_119 ?_
  have hPm : va_P (dC, dI) vwCl (sk_wM am k (bo, t, f) ex lf th) H := sk_PR1 (sk_PR1 hP)
  have hDm : va_D (sk_ad (sk_wM am k (bo, t, f) ex lf th)) (sk_wM am k (bo, t, f) ex lf th) := sk_Dself (sk_DR1 (sk_DR1 hD))
  have hin : ∀ q : Nat, sk_ad (sk_wM am k (bo, t, f) ex lf th) q → sk_LA s q := sk_adA (sk_DR1 hD)
  refine va_calli (va_runV (As := [.int (xs (nI (4 * j) + nI 1).toNatClampNeg)]) (rest := []) ⟨hx, hb, hml, hown, hts⟩ (kM_object l dC dI am k bo t f ex lf th (sk_ad (sk_wM am k (bo, t, f) ex lf th)) (xs (nI (4 * j) + nI 1).toNatClampNeg) j hOK hR hj1) (cwV 1 hts (sk_gV wmL_35 wiM_object wsM_object wnM wcM_object) rfl rfl rfl (by decide +kernel) ⟨Nat.le_of_ble_eq_true rfl, Nat.le_of_ble_eq_true rfl⟩) ⟨sk_blindMD _, va_recv hK hPm (ci := 4) (q0 := 0) rfl rfl, fun U hU hW => ⟨rfl, sk_atM (S := (bo, t, f)) (ex := ex) (lf := lf) (th := th) hPm hK hU hW, hDm⟩⟩ rfl rfl hl.1 rfl (lv_room (Nat.le_of_ble_eq_true rfl)) dL_law_120 ⟨by show 100 + j + 1 + 0 ≤ 601024; omega, by show 20000 + 6 * j + 6 + 0 ≤ 7293034; omega⟩) hS (fun q _ h => hin q h) (fun q h => hin q h) (fun r120 u120 U9 H locs ht hvm w120 hB hz hk hS => ?_)
  obtain ⟨hP1, hD1⟩ := hB
  rw [ht] at hP1
  obtain ⟨hP, hD⟩ := sk_joinR (X := [sk_wO oa k fo2] ++ sk_wX a k ((sk_object (bo, t, f) (xs (nI (4 * j) + nI 1).toNatClampNeg)).2.2) wt2) (Y := sk_wM am k (bo, t, f) ex lf th) hP hD hP1 hD1 hk
  obtain ⟨ex2, lf2, hu120, hR2, w120⟩ := w120
  subst hu120
  have hP : va_P (dC, dI) vwCl ([sk_wO oa k fo2] ++ (sk_wX a k ((sk_object (bo, t, f) (xs (nI (4 * j) + nI 1).toNatClampNeg)).2.2) wt2 ++ sk_wM am k ((sk_object (bo, t, f) (xs (nI (4 * j) + nI 1).toNatClampNeg)).2.2) ex2 lf2 (nI (sk_object (bo, t, f) (xs (nI (4 * j) + nI 1).toNatClampNeg)).1))) H := hP
  have hD : va_D (sk_LA s) ([sk_wO oa k fo2] ++ (sk_wX a k ((sk_object (bo, t, f) (xs (nI (4 * j) + nI 1).toNatClampNeg)).2.2) wt2 ++ sk_wM am k ((sk_object (bo, t, f) (xs (nI (4 * j) + nI 1).toNatClampNeg)).2.2) ex2 lf2 (nI (sk_object (bo, t, f) (xs (nI (4 * j) + nI 1).toNatClampNeg)).1))) := hD
  refine lv_istore (lv' := [(6, .int r120), (5, .int r108), (0, .ref b), (1, .ref (a 0)), (2, .ref (am 0)), (3, .ref oa), (4, .int (nI (4 * j)))]) hx hb dL_law_123 hl (by decide) rfl (fun ls hl => ?_)
  refine lv_aload_n hx hb dL_law_125 rfl (lv_at hl 4 rfl) ?_
  have hPm : va_P (dC, dI) vwCl (sk_wM am k ((sk_object (bo, t, f) (xs (nI (4 * j) + nI 1).toNatClampNeg)).2.2) ex2 lf2 (nI (sk_object (bo, t, f) (xs (nI (4 * j) + nI 1).toNatClampNeg)).1)) H := sk_PR1 (sk_PR1 hP)
  refine va_calli (va_runV (As := []) (rest := []) ⟨hx, hb, hml, hown, hts⟩ (kM_thrown l dC dI am k ((sk_object (bo, t, f) (xs (nI (4 * j) + nI 1).toNatClampNeg)).2.2).1 ((sk_object (bo, t, f) (xs (nI (4 * j) + nI 1).toNatClampNeg)).2.2).2.1 ((sk_object (bo, t, f) (xs (nI (4 * j) + nI 1).toNatClampNeg)).2.2).2.2 ex2 lf2 (nI (sk_object (bo, t, f) (xs (nI (4 * j) + nI 1).toNatClampNeg)).1)) (cwV 0 hts (sk_gV wmL_36 wiM_thrown wsM_thrown wnM wcM_thrown) rfl rfl rfl (by decide +kernel) ⟨Nat.le_of_ble_eq_true rfl, Nat.le_of_ble_eq_true rfl⟩) ⟨sk_blindM _, va_recv hK hPm (ci := 4) (q0 := 0) rfl rfl, fun U hU hW => ⟨rfl, sk_atM (S := (sk_object (bo, t, f) (xs (nI (4 * j) + nI 1).toNatClampNeg)).2.2) (ex := ex2) (lf := lf2) (th := (nI (sk_object (bo, t, f) (xs (nI (4 * j) + nI 1).toNatClampNeg)).1)) hPm hK hU hW⟩⟩ rfl rfl hl.1 rfl (lv_room (Nat.le_of_ble_eq_true rfl)) dL_law_126 ⟨by show 100 + j + 1 + 0 + 0 ≤ 601024; omega, by show 20000 + 6 * j + 6 + 0 + 0 ≤ 7293034; omega⟩) hS (fun _ _ h => h.elim) (fun _ h => h.elim) (fun r126 u126 U9 H locs ht hvm w126 hB hz hk hS => ?_)
  have hP := hP.kept (H1 := H) (fun j q hq => hk q.1 ((hP j q hq).lt) (fun h => h))
  clear hk hB ht
  refine lv_iload hx hb dL_law_129 (lv_at hl 1 rfl) ?_
  refine lv_icmp_eq (tgt := 136) hx hb dL_law_131 (by decide) (fun c131 => ?_) (fun c131 => ?_)
  · skip
    refine lv_iload hx hb dL_law_136 (lv_at hl 1 rfl) ?_
    refine lv_if_ne (tgt := 153) hx hb dL_law_138 (by decide) (fun c138 => ?_) (fun c138 => ?_)
    · skip
      refine lv_goto (tgt := 625) hx hb dL_law_153 (by decide) ?_
      exact sk_tail C0 hI (by omega) (by omega) (sk_OK_object hOK hj1 (xs (nI (4 * j) + nI 1).toNatClampNeg)) hR2 hP hD hS (lv_sub hl [2, 3, 4, 5, 6] rfl)
    · skip
      have hco : (sk_object (bo, t, f) (xs (nI (4 * j) + nI 1).toNatClampNeg)).1 = 0 := sk_code0 (sk_object_lt _ (xs (nI (4 * j) + nI 1).toNatClampNeg)) (w108.symm.trans c138)
      refine lv_aload_n hx hb dL_law_141 rfl (lv_at hl 5 rfl) ?_
      refine lv_iconst (v := nI 0) hx hb dL_law_142 (by decide) ?_
      refine va_lald hx hb hK hP 0 2 rfl rfl (vp_in_nI (show 0 < 1 by decide) (by decide)) dL_law_143 ?_
      refine lv_iload hx hb dL_law_144 (lv_at hl 0 rfl) ?_
      refine lv_i2l hx hb dL_law_146 rfl ?_
      refine W.lcmp hx hb dL_law_147 ?_
      refine lv_topi (fun x147 e147 => ?_)
      refine lv_if_eq (tgt := 153) hx hb dL_law_148 (by decide) (fun c148 => ?_) (fun c148 => ?_)
      · skip
        refine lv_goto (tgt := 625) hx hb dL_law_153 (by decide) ?_
        exact sk_tail C0 hI (by omega) (by omega) (sk_OK_object hOK hj1 (xs (nI (4 * j) + nI 1).toNatClampNeg)) hR2 hP hD hS (lv_sub hl [2, 3, 4, 5, 6] rfl)
      · exact absurd (e147.trans ((lg_cmp_eq _ _).mpr (by rw [nI_clamp (show 0 < 2 ^ 31 by decide), hf2 hco, w120 hco]))) c148
  · exact absurd (w126.trans w108.symm) c131
set_option maxHeartbeats 4000000 in
set_option maxRecDepth 100000 in
theorem law_c1 {p : Program} {e : Env} {s : State} {m : MethodId} {below : List Frame} {meth : Method} {c : Code} {l : Launch} {b L : Nat} {xs : Nat → Int32} {dC : Nat → ClassId} {dI : Nat → Nat → Nat} {a am : Nat → Nat} {k : Nat → ClassId} {oa j : Nat} (C0 : sk_L0 p s m meth c b L xs l dC dI k) (hj : 4 * j + 4 ≤ L) (hI : sk_LC p l e s m below meth c b dC dI a am k oa (j + 1)) {bo : sk_Ob} {t : sk_Tr} {f : sk_Fi} {wt : sk_F} {ex : sk_Ex} {lf : sk_F} {th : Int32} {fo : Nat → Int64} {H : Heap} {locs : List Loc} {ls : Array Slot} (hOK : sk_OK j (bo, t, f)) (hR : sk_RM (bo, t, f) ex) (hP : va_P (dC, dI) vwCl (sk_LW a am k oa (bo, t, f) wt ex lf th fo) H) (hD : va_D (sk_LA s) (sk_LW a am k oa (bo, t, f) wt ex lf th fo)) (hS : va_S (sk_LA s) s.heap H locs) (hl : lv_has ls 7 [(0, .ref b), (1, .ref (a 0)), (2, .ref (am 0)), (3, .ref oa), (4, .int (nI (4 * j)))]) : W p l e room_1 s m #[Value.ref b] below meth c H locs (100 + j) (20000 + 6 * j) (lw_Z below #[Value.ref b] s) (F0 m 156 ls []) := by
  obtain ⟨⟨hx, hb, hr, hml, hown, hts0, hX, hbl, hlocks, hgv⟩, hL, htr, h0, hK, hN⟩ := id C0
  have hts : ∀ w ∈ sk_W, w.before #[Value.ref b] s = true := fun w h => hts0 w (List.mem_filter.mp h).1
  have hown : s.vm.findClass RL = some m.cls := hown
  have hbA : ¬ sk_LA s b := Nat.not_le.mpr hbl
  have hj1 : j + 1 ≤ 512 := by omega
  have hin1 : vp_in (nI (4 * j) + nI 1) L := by rw [nI_add]; exact vp_in_nI (by omega) (by omega)
  have hin2 : vp_in (nI (4 * j) + nI 2) L := by rw [nI_add]; exact vp_in_nI (by omega) (by omega)
  have hin3 : vp_in (nI (4 * j) + nI 3) L := by rw [nI_add]; exact vp_in_nI (by omega) (by omega)
  have hP : va_P (dC, dI) vwCl ([sk_wO oa k fo] ++ (sk_wX a k (bo, t, f) wt ++ sk_wM am k (bo, t, f) ex lf th)) H := hP
  have hD : va_D (sk_LA s) ([sk_wO oa k fo] ++ (sk_wX a k (bo, t, f) wt ++ sk_wM am k (bo, t, f) ex lf th)) := hD
  refine lv_aload_n hx hb dL_law_156 rfl (lv_at hl 1 rfl) ?_
  refine lv_aload_n hx hb dL_law_157 rfl (lv_at hl 0 rfl) ?_
  refine lv_iload hx hb dL_law_158 (lv_at hl 4 rfl) ?_
  refine lv_iconst (v := nI 1) hx hb dL_law_160 (by decide) ?_
  refine lv_iadd hx hb dL_law_161 ?_
  refine va_sld hx hb hX hbl hbA hS hin1 dL_law_162 ?_
  refine lv_aload_n hx hb dL_law_163 rfl (lv_at hl 0 rfl) ?_
  refine lv_iload hx hb dL_law_164 (lv_at hl 4 rfl) ?_
  refine lv_iconst (v := nI 2) hx hb dL_law_166 (by decide) ?_
  refine lv_iadd hx hb dL_law_167 ?_
  refine va_sld hx hb hX hbl hbA hS hin2 dL_law_168 ?_
  refine lv_aload_n hx hb dL_law_169 rfl (lv_at hl 0 rfl) ?_
  refine lv_iload hx hb dL_law_170 (lv_at hl 4 rfl) ?_
  refine lv_iconst (v := nI 3) hx hb dL_law_172 (by decide) ?_
  refine lv_iadd hx hb dL_law_173 ?_
  refine va_sld hx hb hX hbl hbA hS hin3 dL_law_174 ?_
  have hPx : va_P (dC, dI) vwCl (sk_wX a k (bo, t, f) wt) H := sk_PL1 (sk_PR1 hP)
  have hDx : va_D (sk_ad (sk_wX a k (bo, t, f) wt)) (sk_wX a k (bo, t, f) wt) := sk_Dself (sk_DL1 (sk_DR1 hD))
  have hin : ∀ q : Nat, sk_ad (sk_wX a k (bo, t, f) wt) q → sk_LA s q := sk_adB (sk_DR1 hD)
  refine va_calli (va_runV (As := [.int (xs (nI (4 * j) + nI 1).toNatClampNeg), .int (xs (nI (4 * j) + nI 2).toNatClampNeg), .int (xs (nI (4 * j) + nI 3).toNatClampNeg)]) (rest := []) ⟨hx, hb, hml, hown, hts⟩ (kK_set l dC dI a k bo t f wt (sk_ad (sk_wX a k (bo, t, f) wt)) (xs (nI (4 * j) + nI 1).toNatClampNeg) (xs (nI (4 * j) + nI 2).toNatClampNeg) (xs (nI (4 * j) + nI 3).toNatClampNeg) j hOK) (cwV 3 hts (sk_gV wmL_40 wiK_set wsK_set wnK wcK_set) rfl rfl rfl (by decide +kernel) ⟨Nat.le_of_ble_eq_true rfl, Nat.le_of_ble_eq_true rfl⟩) ⟨sk_blindD _, va_recv hK hPx (ci := 3) (q0 := 0) rfl rfl, fun U hU hW => ⟨rfl, sk_at (S := (bo, t, f)) (wt := wt) hPx hK hN hU hW, hDx⟩⟩ rfl rfl hl.1 rfl (lv_room (Nat.le_of_ble_eq_true rfl)) dL_law_175 ⟨by show 100 + j + 0 ≤ 601024; omega, by show 20000 + 6 * j + 0 ≤ 7293034; omega⟩) hS (fun q _ h => hin q h) (fun q h => hin q h) (fun r175 u175 U9 H locs ht hvm w175 hB hz hk hS => ?_)
  obtain ⟨hP1, hD1⟩ := hB
  rw [ht] at hP1
  obtain ⟨hP, hD⟩ := sk_joinM hP hD hP1 hD1 hk
  obtain ⟨w175, wt2, hu175⟩ := w175
  subst hu175
  have hP : va_P (dC, dI) vwCl ([sk_wO oa k fo] ++ (sk_wX a k ((sk_set (bo, t, f) (xs (nI (4 * j) + nI 1).toNatClampNeg) (xs (nI (4 * j) + nI 2).toNatClampNeg) (xs (nI (4 * j) + nI 3).toNatClampNeg)).2) wt2 ++ sk_wM am k (bo, t, f) ex lf th)) H := hP
  have hD : va_D (sk_LA s) ([sk_wO oa k fo] ++ (sk_wX a k ((sk_set (bo, t, f) (xs (nI (4 * j) + nI 1).toNatClampNeg) (xs (nI (4 * j) + nI 2).toNatClampNeg) (xs (nI (4 * j) + nI 3).toNatClampNeg)).2) wt2 ++ sk_wM am k (bo, t, f) ex lf th)) := hD
  refine lv_aload_n hx hb dL_law_178 rfl (lv_at hl 2 rfl) ?_
  refine lv_aload_n hx hb dL_law_179 rfl (lv_at hl 0 rfl) ?_
  refine lv_iload hx hb dL_law_180 (lv_at hl 4 rfl) ?_
  refine lv_iconst (v := nI 1) hx hb dL_law_182 (by decide) ?_
  refine lv_iadd hx hb dL_law_183 ?_
  refine va_sld hx hb hX hbl hbA hS hin1 dL_law_184 ?_
  refine lv_aload_n hx hb dL_law_185 rfl (lv_at hl 0 rfl) ?_
  refine lv_iload hx hb dL_law_186 (lv_at hl 4 rfl) ?_
  refine lv_iconst (v := nI 2) hx hb dL_law_188 (by decide) ?_
  refine lv_iadd hx hb dL_law_189 ?_
  refine va_sld hx hb hX hbl hbA hS hin2 dL_law_190 ?_
  refine lv_aload_n hx hb dL_law_191 rfl (lv_at hl 0 rfl) ?_
  refine lv_iload hx hb dL_law_192 (lv_at hl 4 rfl) ?_
  refine lv_iconst (v := nI 3) hx hb dL_law_194 (by decide) ?_
  refine lv_iadd hx hb dL_law_195 ?_
  refine va_sld hx hb hX hbl hbA hS hin3 dL_law_196 ?_
  have hPm : va_P (dC, dI) vwCl (sk_wM am k (bo, t, f) ex lf th) H := sk_PR1 (sk_PR1 hP)
  have hDm : va_D (sk_ad (sk_wM am k (bo, t, f) ex lf th)) (sk_wM am k (bo, t, f) ex lf th) := sk_Dself (sk_DR1 (sk_DR1 hD))
  have hin : ∀ q : Nat, sk_ad (sk_wM am k (bo, t, f) ex lf th) q → sk_LA s q := sk_adA (sk_DR1 hD)
  refine va_calli (va_runV (As := [.int (xs (nI (4 * j) + nI 1).toNatClampNeg), .int (xs (nI (4 * j) + nI 2).toNatClampNeg), .int (xs (nI (4 * j) + nI 3).toNatClampNeg)]) (rest := [.int r175]) ⟨hx, hb, hml, hown, hts⟩ (kM_set l dC dI am k bo t f ex lf th (sk_ad (sk_wM am k (bo, t, f) ex lf th)) (xs (nI (4 * j) + nI 1).toNatClampNeg) (xs (nI (4 * j) + nI 2).toNatClampNeg) (xs (nI (4 * j) + nI 3).toNatClampNeg) j hOK hR hj1) (cwV 3 hts (sk_gV wmL_44 wiM_set wsM_set wnM wcM_set) rfl rfl rfl (by decide +kernel) ⟨Nat.le_of_ble_eq_true rfl, Nat.le_of_ble_eq_true rfl⟩) ⟨sk_blindMD _, va_recv hK hPm (ci := 4) (q0 := 0) rfl rfl, fun U hU hW => ⟨rfl, sk_atM (S := (bo, t, f)) (ex := ex) (lf := lf) (th := th) hPm hK hU hW, hDm⟩⟩ rfl rfl hl.1 rfl (lv_room (Nat.le_of_ble_eq_true rfl)) dL_law_197 ⟨by show 100 + j + 0 + 0 ≤ 601024; omega, by show 20000 + 6 * j + 0 + 0 ≤ 7293034; omega⟩) hS (fun q _ h => hin q h) (fun q h => hin q h) (fun r197 u197 U9 H locs ht hvm w197 hB hz hk hS => ?_)
  obtain ⟨hP1, hD1⟩ := hB
  rw [ht] at hP1
  obtain ⟨hP, hD⟩ := sk_joinR (X := [sk_wO oa k fo] ++ sk_wX a k ((sk_set (bo, t, f) (xs (nI (4 * j) + nI 1).toNatClampNeg) (xs (nI (4 * j) + nI 2).toNatClampNeg) (xs (nI (4 * j) + nI 3).toNatClampNeg)).2) wt2) (Y := sk_wM am k (bo, t, f) ex lf th) hP hD hP1 hD1 hk
  obtain ⟨w197, ex2, lf2, th2, hu197, hR2⟩ := w197
  subst hu197
  have hP : va_P (dC, dI) vwCl ([sk_wO oa k fo] ++ (sk_wX a k ((sk_set (bo, t, f) (xs (nI (4 * j) + nI 1).toNatClampNeg) (xs (nI (4 * j) + nI 2).toNatClampNeg) (xs (nI (4 * j) + nI 3).toNatClampNeg)).2) wt2 ++ sk_wM am k ((sk_set (bo, t, f) (xs (nI (4 * j) + nI 1).toNatClampNeg) (xs (nI (4 * j) + nI 2).toNatClampNeg) (xs (nI (4 * j) + nI 3).toNatClampNeg)).2) ex2 lf2 th2)) H := hP
  have hD : va_D (sk_LA s) ([sk_wO oa k fo] ++ (sk_wX a k ((sk_set (bo, t, f) (xs (nI (4 * j) + nI 1).toNatClampNeg) (xs (nI (4 * j) + nI 2).toNatClampNeg) (xs (nI (4 * j) + nI 3).toNatClampNeg)).2) wt2 ++ sk_wM am k ((sk_set (bo, t, f) (xs (nI (4 * j) + nI 1).toNatClampNeg) (xs (nI (4 * j) + nI 2).toNatClampNeg) (xs (nI (4 * j) + nI 3).toNatClampNeg)).2) ex2 lf2 th2)) := hD
  refine lv_icmp_eq (tgt := 625) hx hb dL_law_200 (by decide) (fun c200 => ?_) (fun c200 => ?_)
  · skip
    exact sk_tail C0 hI (by omega) (by omega) (sk_OK_set hOK hj1 (xs (nI (4 * j) + nI 1).toNatClampNeg) (xs (nI (4 * j) + nI 2).toNatClampNeg) (xs (nI (4 * j) + nI 3).toNatClampNeg)) hR2 hP hD hS (lv_sub hl [0, 1, 2, 3, 4] rfl)
  · exact absurd (w175.trans w197.symm) c200
set_option maxHeartbeats 4000000 in
set_option maxRecDepth 100000 in
theorem law_c2 {p : Program} {e : Env} {s : State} {m : MethodId} {below : List Frame} {meth : Method} {c : Code} {l : Launch} {b L : Nat} {xs : Nat → Int32} {dC : Nat → ClassId} {dI : Nat → Nat → Nat} {a am : Nat → Nat} {k : Nat → ClassId} {oa j : Nat} (C0 : sk_L0 p s m meth c b L xs l dC dI k) (hj : 4 * j + 4 ≤ L) (hI : sk_LC p l e s m below meth c b dC dI a am k oa (j + 1)) {bo : sk_Ob} {t : sk_Tr} {f : sk_Fi} {wt : sk_F} {ex : sk_Ex} {lf : sk_F} {th : Int32} {fo : Nat → Int64} {H : Heap} {locs : List Loc} {ls : Array Slot} (hOK : sk_OK j (bo, t, f)) (hR : sk_RM (bo, t, f) ex) (hP : va_P (dC, dI) vwCl (sk_LW a am k oa (bo, t, f) wt ex lf th fo) H) (hD : va_D (sk_LA s) (sk_LW a am k oa (bo, t, f) wt ex lf th fo)) (hS : va_S (sk_LA s) s.heap H locs) (hl : lv_has ls 7 [(0, .ref b), (1, .ref (a 0)), (2, .ref (am 0)), (3, .ref oa), (4, .int (nI (4 * j)))]) : W p l e room_1 s m #[Value.ref b] below meth c H locs (100 + j) (20000 + 6 * j) (lw_Z below #[Value.ref b] s) (F0 m 205 ls []) := by
  obtain ⟨⟨hx, hb, hr, hml, hown, hts0, hX, hbl, hlocks, hgv⟩, hL, htr, h0, hK, hN⟩ := id C0
  have hts : ∀ w ∈ sk_W, w.before #[Value.ref b] s = true := fun w h => hts0 w (List.mem_filter.mp h).1
  have hown : s.vm.findClass RL = some m.cls := hown
  have hbA : ¬ sk_LA s b := Nat.not_le.mpr hbl
  have hj1 : j + 1 ≤ 512 := by omega
  have hin1 : vp_in (nI (4 * j) + nI 1) L := by rw [nI_add]; exact vp_in_nI (by omega) (by omega)
  have hin2 : vp_in (nI (4 * j) + nI 2) L := by rw [nI_add]; exact vp_in_nI (by omega) (by omega)
  have hin3 : vp_in (nI (4 * j) + nI 3) L := by rw [nI_add]; exact vp_in_nI (by omega) (by omega)
  have hP : va_P (dC, dI) vwCl ([sk_wO oa k fo] ++ (sk_wX a k (bo, t, f) wt ++ sk_wM am k (bo, t, f) ex lf th)) H := hP
  have hD : va_D (sk_LA s) ([sk_wO oa k fo] ++ (sk_wX a k (bo, t, f) wt ++ sk_wM am k (bo, t, f) ex lf th)) := hD
  refine lv_aload_n hx hb dL_law_205 rfl (lv_at hl 1 rfl) ?_
  refine lv_aload_n hx hb dL_law_206 rfl (lv_at hl 0 rfl) ?_
  refine lv_iload hx hb dL_law_207 (lv_at hl 4 rfl) ?_
  refine lv_iconst (v := nI 1) hx hb dL_law_209 (by decide) ?_
  refine lv_iadd hx hb dL_law_210 ?_
  refine va_sld hx hb hX hbl hbA hS hin1 dL_law_211 ?_
  refine lv_aload_n hx hb dL_law_212 rfl (lv_at hl 0 rfl) ?_
  refine lv_iload hx hb dL_law_213 (lv_at hl 4 rfl) ?_
  refine lv_iconst (v := nI 2) hx hb dL_law_215 (by decide) ?_
  refine lv_iadd hx hb dL_law_216 ?_
  refine va_sld hx hb hX hbl hbA hS hin2 dL_law_217 ?_
  have hPx : va_P (dC, dI) vwCl (sk_wX a k (bo, t, f) wt) H := sk_PL1 (sk_PR1 hP)
  have hDx : va_D (sk_ad (sk_wX a k (bo, t, f) wt)) (sk_wX a k (bo, t, f) wt) := sk_Dself (sk_DL1 (sk_DR1 hD))
  have hin : ∀ q : Nat, sk_ad (sk_wX a k (bo, t, f) wt) q → sk_LA s q := sk_adB (sk_DR1 hD)
  refine va_calli (va_runV (As := [.int (xs (nI (4 * j) + nI 1).toNatClampNeg), .int (xs (nI (4 * j) + nI 2).toNatClampNeg)]) (rest := []) ⟨hx, hb, hml, hown, hts⟩ (kK_drop l dC dI a k bo t f wt (sk_ad (sk_wX a k (bo, t, f) wt)) (xs (nI (4 * j) + nI 1).toNatClampNeg) (xs (nI (4 * j) + nI 2).toNatClampNeg) j hOK) (cwV 2 hts (sk_gV wmL_45 wiK_drop wsK_drop wnK wcK_drop) rfl rfl rfl (by decide +kernel) ⟨Nat.le_of_ble_eq_true rfl, Nat.le_of_ble_eq_true rfl⟩) ⟨sk_blindD _, va_recv hK hPx (ci := 3) (q0 := 0) rfl rfl, fun U hU hW => ⟨rfl, sk_at (S := (bo, t, f)) (wt := wt) hPx hK hN hU hW, hDx⟩⟩ rfl rfl hl.1 rfl (lv_room (Nat.le_of_ble_eq_true rfl)) dL_law_218 ⟨by show 100 + j + 0 ≤ 601024; omega, by show 20000 + 6 * j + 0 ≤ 7293034; omega⟩) hS (fun q _ h => hin q h) (fun q h => hin q h) (fun r218 u218 U9 H locs ht hvm w218 hB hz hk hS => ?_)
  obtain ⟨hP1, hD1⟩ := hB
  rw [ht] at hP1
  obtain ⟨hP, hD⟩ := sk_joinM hP hD hP1 hD1 hk
  obtain ⟨w218, wt2, hu218⟩ := w218
  subst hu218
  have hP : va_P (dC, dI) vwCl ([sk_wO oa k fo] ++ (sk_wX a k ((sk_drop (bo, t, f) (xs (nI (4 * j) + nI 1).toNatClampNeg) (xs (nI (4 * j) + nI 2).toNatClampNeg)).2) wt2 ++ sk_wM am k (bo, t, f) ex lf th)) H := hP
  have hD : va_D (sk_LA s) ([sk_wO oa k fo] ++ (sk_wX a k ((sk_drop (bo, t, f) (xs (nI (4 * j) + nI 1).toNatClampNeg) (xs (nI (4 * j) + nI 2).toNatClampNeg)).2) wt2 ++ sk_wM am k (bo, t, f) ex lf th)) := hD
  refine lv_aload_n hx hb dL_law_221 rfl (lv_at hl 2 rfl) ?_
  refine lv_aload_n hx hb dL_law_222 rfl (lv_at hl 0 rfl) ?_
  refine lv_iload hx hb dL_law_223 (lv_at hl 4 rfl) ?_
  refine lv_iconst (v := nI 1) hx hb dL_law_225 (by decide) ?_
  refine lv_iadd hx hb dL_law_226 ?_
  refine va_sld hx hb hX hbl hbA hS hin1 dL_law_227 ?_
  refine lv_aload_n hx hb dL_law_228 rfl (lv_at hl 0 rfl) ?_
  refine lv_iload hx hb dL_law_229 (lv_at hl 4 rfl) ?_
  refine lv_iconst (v := nI 2) hx hb dL_law_231 (by decide) ?_
  refine lv_iadd hx hb dL_law_232 ?_
  refine va_sld hx hb hX hbl hbA hS hin2 dL_law_233 ?_
  have hPm : va_P (dC, dI) vwCl (sk_wM am k (bo, t, f) ex lf th) H := sk_PR1 (sk_PR1 hP)
  have hDm : va_D (sk_ad (sk_wM am k (bo, t, f) ex lf th)) (sk_wM am k (bo, t, f) ex lf th) := sk_Dself (sk_DR1 (sk_DR1 hD))
  have hin : ∀ q : Nat, sk_ad (sk_wM am k (bo, t, f) ex lf th) q → sk_LA s q := sk_adA (sk_DR1 hD)
  refine va_calli (va_runV (As := [.int (xs (nI (4 * j) + nI 1).toNatClampNeg), .int (xs (nI (4 * j) + nI 2).toNatClampNeg)]) (rest := [.int r218]) ⟨hx, hb, hml, hown, hts⟩ (kM_drop l dC dI am k bo t f ex lf th (sk_ad (sk_wM am k (bo, t, f) ex lf th)) (xs (nI (4 * j) + nI 1).toNatClampNeg) (xs (nI (4 * j) + nI 2).toNatClampNeg) j hOK hR hj1) (cwV 2 hts (sk_gV wmL_49 wiM_drop wsM_drop wnM wcM_drop) rfl rfl rfl (by decide +kernel) ⟨Nat.le_of_ble_eq_true rfl, Nat.le_of_ble_eq_true rfl⟩) ⟨sk_blindMD _, va_recv hK hPm (ci := 4) (q0 := 0) rfl rfl, fun U hU hW => ⟨rfl, sk_atM (S := (bo, t, f)) (ex := ex) (lf := lf) (th := th) hPm hK hU hW, hDm⟩⟩ rfl rfl hl.1 rfl (lv_room (Nat.le_of_ble_eq_true rfl)) dL_law_234 ⟨by show 100 + j + 0 + 0 ≤ 601024; omega, by show 20000 + 6 * j + 0 + 0 ≤ 7293034; omega⟩) hS (fun q _ h => hin q h) (fun q h => hin q h) (fun r234 u234 U9 H locs ht hvm w234 hB hz hk hS => ?_)
  obtain ⟨hP1, hD1⟩ := hB
  rw [ht] at hP1
  obtain ⟨hP, hD⟩ := sk_joinR (X := [sk_wO oa k fo] ++ sk_wX a k ((sk_drop (bo, t, f) (xs (nI (4 * j) + nI 1).toNatClampNeg) (xs (nI (4 * j) + nI 2).toNatClampNeg)).2) wt2) (Y := sk_wM am k (bo, t, f) ex lf th) hP hD hP1 hD1 hk
  obtain ⟨w234, ex2, lf2, th2, hu234, hR2⟩ := w234
  subst hu234
  have hP : va_P (dC, dI) vwCl ([sk_wO oa k fo] ++ (sk_wX a k ((sk_drop (bo, t, f) (xs (nI (4 * j) + nI 1).toNatClampNeg) (xs (nI (4 * j) + nI 2).toNatClampNeg)).2) wt2 ++ sk_wM am k ((sk_drop (bo, t, f) (xs (nI (4 * j) + nI 1).toNatClampNeg) (xs (nI (4 * j) + nI 2).toNatClampNeg)).2) ex2 lf2 th2)) H := hP
  have hD : va_D (sk_LA s) ([sk_wO oa k fo] ++ (sk_wX a k ((sk_drop (bo, t, f) (xs (nI (4 * j) + nI 1).toNatClampNeg) (xs (nI (4 * j) + nI 2).toNatClampNeg)).2) wt2 ++ sk_wM am k ((sk_drop (bo, t, f) (xs (nI (4 * j) + nI 1).toNatClampNeg) (xs (nI (4 * j) + nI 2).toNatClampNeg)).2) ex2 lf2 th2)) := hD
  refine lv_icmp_eq (tgt := 625) hx hb dL_law_237 (by decide) (fun c237 => ?_) (fun c237 => ?_)
  · skip
    exact sk_tail C0 hI (by omega) (by omega) (sk_OK_drop hOK hj1 (xs (nI (4 * j) + nI 1).toNatClampNeg) (xs (nI (4 * j) + nI 2).toNatClampNeg)) hR2 hP hD hS (lv_sub hl [0, 1, 2, 3, 4] rfl)
  · exact absurd (w218.trans w234.symm) c237
set_option maxHeartbeats 4000000 in
set_option maxRecDepth 100000 in
theorem law_c3 {p : Program} {e : Env} {s : State} {m : MethodId} {below : List Frame} {meth : Method} {c : Code} {l : Launch} {b L : Nat} {xs : Nat → Int32} {dC : Nat → ClassId} {dI : Nat → Nat → Nat} {a am : Nat → Nat} {k : Nat → ClassId} {oa j : Nat} (C0 : sk_L0 p s m meth c b L xs l dC dI k) (hj : 4 * j + 4 ≤ L) (hI : sk_LC p l e s m below meth c b dC dI a am k oa (j + 1)) {bo : sk_Ob} {t : sk_Tr} {f : sk_Fi} {wt : sk_F} {ex : sk_Ex} {lf : sk_F} {th : Int32} {fo : Nat → Int64} {H : Heap} {locs : List Loc} {ls : Array Slot} (hOK : sk_OK j (bo, t, f)) (hR : sk_RM (bo, t, f) ex) (hP : va_P (dC, dI) vwCl (sk_LW a am k oa (bo, t, f) wt ex lf th fo) H) (hD : va_D (sk_LA s) (sk_LW a am k oa (bo, t, f) wt ex lf th fo)) (hS : va_S (sk_LA s) s.heap H locs) (hl : lv_has ls 7 [(0, .ref b), (1, .ref (a 0)), (2, .ref (am 0)), (3, .ref oa), (4, .int (nI (4 * j)))]) : W p l e room_1 s m #[Value.ref b] below meth c H locs (100 + j) (20000 + 6 * j) (lw_Z below #[Value.ref b] s) (F0 m 242 ls []) := by
  obtain ⟨⟨hx, hb, hr, hml, hown, hts0, hX, hbl, hlocks, hgv⟩, hL, htr, h0, hK, hN⟩ := id C0
  have hts : ∀ w ∈ sk_W, w.before #[Value.ref b] s = true := fun w h => hts0 w (List.mem_filter.mp h).1
  have hown : s.vm.findClass RL = some m.cls := hown
  have hbA : ¬ sk_LA s b := Nat.not_le.mpr hbl
  have hj1 : j + 1 ≤ 512 := by omega
  have hin1 : vp_in (nI (4 * j) + nI 1) L := by rw [nI_add]; exact vp_in_nI (by omega) (by omega)
  have hin2 : vp_in (nI (4 * j) + nI 2) L := by rw [nI_add]; exact vp_in_nI (by omega) (by omega)
  have hin3 : vp_in (nI (4 * j) + nI 3) L := by rw [nI_add]; exact vp_in_nI (by omega) (by omega)
  have hP : va_P (dC, dI) vwCl ([sk_wO oa k fo] ++ (sk_wX a k (bo, t, f) wt ++ sk_wM am k (bo, t, f) ex lf th)) H := hP
  have hD : va_D (sk_LA s) ([sk_wO oa k fo] ++ (sk_wX a k (bo, t, f) wt ++ sk_wM am k (bo, t, f) ex lf th)) := hD
  refine lv_aload_n hx hb dL_law_242 rfl (lv_at hl 1 rfl) ?_
  refine lv_aload_n hx hb dL_law_243 rfl (lv_at hl 0 rfl) ?_
  refine lv_iload hx hb dL_law_244 (lv_at hl 4 rfl) ?_
  refine lv_iconst (v := nI 1) hx hb dL_law_246 (by decide) ?_
  refine lv_iadd hx hb dL_law_247 ?_
  refine va_sld hx hb hX hbl hbA hS hin1 dL_law_248 ?_
  refine lv_aload_n hx hb dL_law_249 rfl (lv_at hl 0 rfl) ?_
  refine lv_iload hx hb dL_law_250 (lv_at hl 4 rfl) ?_
  refine lv_iconst (v := nI 2) hx hb dL_law_252 (by decide) ?_
  refine lv_iadd hx hb dL_law_253 ?_
  refine va_sld hx hb hX hbl hbA hS hin2 dL_law_254 ?_
  have hPx : va_P (dC, dI) vwCl (sk_wX a k (bo, t, f) wt) H := sk_PL1 (sk_PR1 hP)
  have hDx : va_D (sk_ad (sk_wX a k (bo, t, f) wt)) (sk_wX a k (bo, t, f) wt) := sk_Dself (sk_DL1 (sk_DR1 hD))
  have hin : ∀ q : Nat, sk_ad (sk_wX a k (bo, t, f) wt) q → sk_LA s q := sk_adB (sk_DR1 hD)
  refine va_calli (va_runV (As := [.int (xs (nI (4 * j) + nI 1).toNatClampNeg), .int (xs (nI (4 * j) + nI 2).toNatClampNeg)]) (rest := []) ⟨hx, hb, hml, hown, hts⟩ (kK_turn l dC dI a k bo t f wt (sk_ad (sk_wX a k (bo, t, f) wt)) (xs (nI (4 * j) + nI 1).toNatClampNeg) (xs (nI (4 * j) + nI 2).toNatClampNeg) j hOK) (cwV 2 hts (sk_gV wmL_50 wiK_turn wsK_turn wnK wcK_turn) rfl rfl rfl (by decide +kernel) ⟨Nat.le_of_ble_eq_true rfl, Nat.le_of_ble_eq_true rfl⟩) ⟨sk_blindD _, va_recv hK hPx (ci := 3) (q0 := 0) rfl rfl, fun U hU hW => ⟨rfl, sk_at (S := (bo, t, f)) (wt := wt) hPx hK hN hU hW, hDx⟩⟩ rfl rfl hl.1 rfl (lv_room (Nat.le_of_ble_eq_true rfl)) dL_law_255 ⟨by show 100 + j + 0 ≤ 601024; omega, by show 20000 + 6 * j + 0 ≤ 7293034; omega⟩) hS (fun q _ h => hin q h) (fun q h => hin q h) (fun r255 u255 U9 H locs ht hvm w255 hB hz hk hS => ?_)
  obtain ⟨hP1, hD1⟩ := hB
  rw [ht] at hP1
  obtain ⟨hP, hD⟩ := sk_joinM hP hD hP1 hD1 hk
  obtain ⟨w255, wt2, hu255⟩ := w255
  subst hu255
  have hP : va_P (dC, dI) vwCl ([sk_wO oa k fo] ++ (sk_wX a k ((sk_turn (bo, t, f) (xs (nI (4 * j) + nI 1).toNatClampNeg) (xs (nI (4 * j) + nI 2).toNatClampNeg)).2) wt2 ++ sk_wM am k (bo, t, f) ex lf th)) H := hP
  have hD : va_D (sk_LA s) ([sk_wO oa k fo] ++ (sk_wX a k ((sk_turn (bo, t, f) (xs (nI (4 * j) + nI 1).toNatClampNeg) (xs (nI (4 * j) + nI 2).toNatClampNeg)).2) wt2 ++ sk_wM am k (bo, t, f) ex lf th)) := hD
  refine lv_aload_n hx hb dL_law_258 rfl (lv_at hl 2 rfl) ?_
  refine lv_aload_n hx hb dL_law_259 rfl (lv_at hl 0 rfl) ?_
  refine lv_iload hx hb dL_law_260 (lv_at hl 4 rfl) ?_
  refine lv_iconst (v := nI 1) hx hb dL_law_262 (by decide) ?_
  refine lv_iadd hx hb dL_law_263 ?_
  refine va_sld hx hb hX hbl hbA hS hin1 dL_law_264 ?_
  refine lv_aload_n hx hb dL_law_265 rfl (lv_at hl 0 rfl) ?_
  refine lv_iload hx hb dL_law_266 (lv_at hl 4 rfl) ?_
  refine lv_iconst (v := nI 2) hx hb dL_law_268 (by decide) ?_
  refine lv_iadd hx hb dL_law_269 ?_
  refine va_sld hx hb hX hbl hbA hS hin2 dL_law_270 ?_
  have hPm : va_P (dC, dI) vwCl (sk_wM am k (bo, t, f) ex lf th) H := sk_PR1 (sk_PR1 hP)
  have hDm : va_D (sk_ad (sk_wM am k (bo, t, f) ex lf th)) (sk_wM am k (bo, t, f) ex lf th) := sk_Dself (sk_DR1 (sk_DR1 hD))
  have hin : ∀ q : Nat, sk_ad (sk_wM am k (bo, t, f) ex lf th) q → sk_LA s q := sk_adA (sk_DR1 hD)
  refine va_calli (va_runV (As := [.int (xs (nI (4 * j) + nI 1).toNatClampNeg), .int (xs (nI (4 * j) + nI 2).toNatClampNeg)]) (rest := [.int r255]) ⟨hx, hb, hml, hown, hts⟩ (kM_turn l dC dI am k bo t f ex lf th (sk_ad (sk_wM am k (bo, t, f) ex lf th)) (xs (nI (4 * j) + nI 1).toNatClampNeg) (xs (nI (4 * j) + nI 2).toNatClampNeg) j hOK hR hj1) (cwV 2 hts (sk_gV wmL_53 wiM_turn wsM_turn wnM wcM_turn) rfl rfl rfl (by decide +kernel) ⟨Nat.le_of_ble_eq_true rfl, Nat.le_of_ble_eq_true rfl⟩) ⟨sk_blindMD _, va_recv hK hPm (ci := 4) (q0 := 0) rfl rfl, fun U hU hW => ⟨rfl, sk_atM (S := (bo, t, f)) (ex := ex) (lf := lf) (th := th) hPm hK hU hW, hDm⟩⟩ rfl rfl hl.1 rfl (lv_room (Nat.le_of_ble_eq_true rfl)) dL_law_271 ⟨by show 100 + j + 0 + 0 ≤ 601024; omega, by show 20000 + 6 * j + 0 + 0 ≤ 7293034; omega⟩) hS (fun q _ h => hin q h) (fun q h => hin q h) (fun r271 u271 U9 H locs ht hvm w271 hB hz hk hS => ?_)
  obtain ⟨hP1, hD1⟩ := hB
  rw [ht] at hP1
  obtain ⟨hP, hD⟩ := sk_joinR (X := [sk_wO oa k fo] ++ sk_wX a k ((sk_turn (bo, t, f) (xs (nI (4 * j) + nI 1).toNatClampNeg) (xs (nI (4 * j) + nI 2).toNatClampNeg)).2) wt2) (Y := sk_wM am k (bo, t, f) ex lf th) hP hD hP1 hD1 hk
  obtain ⟨w271, ex2, lf2, th2, hu271, hR2⟩ := w271
  subst hu271
  have hP : va_P (dC, dI) vwCl ([sk_wO oa k fo] ++ (sk_wX a k ((sk_turn (bo, t, f) (xs (nI (4 * j) + nI 1).toNatClampNeg) (xs (nI (4 * j) + nI 2).toNatClampNeg)).2) wt2 ++ sk_wM am k ((sk_turn (bo, t, f) (xs (nI (4 * j) + nI 1).toNatClampNeg) (xs (nI (4 * j) + nI 2).toNatClampNeg)).2) ex2 lf2 th2)) H := hP
  have hD : va_D (sk_LA s) ([sk_wO oa k fo] ++ (sk_wX a k ((sk_turn (bo, t, f) (xs (nI (4 * j) + nI 1).toNatClampNeg) (xs (nI (4 * j) + nI 2).toNatClampNeg)).2) wt2 ++ sk_wM am k ((sk_turn (bo, t, f) (xs (nI (4 * j) + nI 1).toNatClampNeg) (xs (nI (4 * j) + nI 2).toNatClampNeg)).2) ex2 lf2 th2)) := hD
  refine lv_icmp_eq (tgt := 625) hx hb dL_law_274 (by decide) (fun c274 => ?_) (fun c274 => ?_)
  · skip
    exact sk_tail C0 hI (by omega) (by omega) (sk_OK_turn hOK hj1 (xs (nI (4 * j) + nI 1).toNatClampNeg) (xs (nI (4 * j) + nI 2).toNatClampNeg)) hR2 hP hD hS (lv_sub hl [0, 1, 2, 3, 4] rfl)
  · exact absurd (w255.trans w271.symm) c274
set_option maxHeartbeats 4000000 in
set_option maxRecDepth 100000 in
theorem law_c4 {p : Program} {e : Env} {s : State} {m : MethodId} {below : List Frame} {meth : Method} {c : Code} {l : Launch} {b L : Nat} {xs : Nat → Int32} {dC : Nat → ClassId} {dI : Nat → Nat → Nat} {a am : Nat → Nat} {k : Nat → ClassId} {oa j : Nat} (C0 : sk_L0 p s m meth c b L xs l dC dI k) (hj : 4 * j + 4 ≤ L) (hI : sk_LC p l e s m below meth c b dC dI a am k oa (j + 1)) {bo : sk_Ob} {t : sk_Tr} {f : sk_Fi} {wt : sk_F} {ex : sk_Ex} {lf : sk_F} {th : Int32} {fo : Nat → Int64} {H : Heap} {locs : List Loc} {ls : Array Slot} (hOK : sk_OK j (bo, t, f)) (hR : sk_RM (bo, t, f) ex) (hP : va_P (dC, dI) vwCl (sk_LW a am k oa (bo, t, f) wt ex lf th fo) H) (hD : va_D (sk_LA s) (sk_LW a am k oa (bo, t, f) wt ex lf th fo)) (hS : va_S (sk_LA s) s.heap H locs) (hl : lv_has ls 7 [(0, .ref b), (1, .ref (a 0)), (2, .ref (am 0)), (3, .ref oa), (4, .int (nI (4 * j)))]) : W p l e room_1 s m #[Value.ref b] below meth c H locs (100 + j) (20000 + 6 * j) (lw_Z below #[Value.ref b] s) (F0 m 279 ls []) := by
  obtain ⟨⟨hx, hb, hr, hml, hown, hts0, hX, hbl, hlocks, hgv⟩, hL, htr, h0, hK, hN⟩ := id C0
  have hts : ∀ w ∈ sk_W, w.before #[Value.ref b] s = true := fun w h => hts0 w (List.mem_filter.mp h).1
  have hown : s.vm.findClass RL = some m.cls := hown
  have hbA : ¬ sk_LA s b := Nat.not_le.mpr hbl
  have hj1 : j + 1 ≤ 512 := by omega
  have hin1 : vp_in (nI (4 * j) + nI 1) L := by rw [nI_add]; exact vp_in_nI (by omega) (by omega)
  have hin2 : vp_in (nI (4 * j) + nI 2) L := by rw [nI_add]; exact vp_in_nI (by omega) (by omega)
  have hin3 : vp_in (nI (4 * j) + nI 3) L := by rw [nI_add]; exact vp_in_nI (by omega) (by omega)
  have hP : va_P (dC, dI) vwCl ([sk_wO oa k fo] ++ (sk_wX a k (bo, t, f) wt ++ sk_wM am k (bo, t, f) ex lf th)) H := hP
  have hD : va_D (sk_LA s) ([sk_wO oa k fo] ++ (sk_wX a k (bo, t, f) wt ++ sk_wM am k (bo, t, f) ex lf th)) := hD
  refine lv_aload_n hx hb dL_law_279 rfl (lv_at hl 1 rfl) ?_
  refine lv_aload_n hx hb dL_law_280 rfl (lv_at hl 0 rfl) ?_
  refine lv_iload hx hb dL_law_281 (lv_at hl 4 rfl) ?_
  refine lv_iconst (v := nI 1) hx hb dL_law_283 (by decide) ?_
  refine lv_iadd hx hb dL_law_284 ?_
  refine va_sld hx hb hX hbl hbA hS hin1 dL_law_285 ?_
  refine lv_aload_n hx hb dL_law_286 rfl (lv_at hl 0 rfl) ?_
  refine lv_iload hx hb dL_law_287 (lv_at hl 4 rfl) ?_
  refine lv_iconst (v := nI 2) hx hb dL_law_289 (by decide) ?_
  refine lv_iadd hx hb dL_law_290 ?_
  refine va_sld hx hb hX hbl hbA hS hin2 dL_law_291 ?_
  refine lv_aload_n hx hb dL_law_292 rfl (lv_at hl 3 rfl) ?_
  have hPl : va_P (dC, dI) vwCl ([sk_wO oa k fo] ++ sk_wX a k (bo, t, f) wt) H := sk_PL1 (X := [sk_wO oa k fo] ++ sk_wX a k (bo, t, f) wt) (Y := sk_wM am k (bo, t, f) ex lf th) hP
  have hDl : va_D (sk_ad ([sk_wO oa k fo] ++ sk_wX a k (bo, t, f) wt)) ([sk_wO oa k fo] ++ sk_wX a k (bo, t, f) wt) := sk_Dself (sk_DL1 (X := [sk_wO oa k fo] ++ sk_wX a k (bo, t, f) wt) (Y := sk_wM am k (bo, t, f) ex lf th) hD)
  have hin : ∀ q : Nat, sk_ad ([sk_wO oa k fo] ++ sk_wX a k (bo, t, f) wt) q → sk_LA s q := sk_adB (X := [sk_wO oa k fo] ++ sk_wX a k (bo, t, f) wt) (Y := sk_wM am k (bo, t, f) ex lf th) hD
  have hold : ∀ q : Nat, q < s.heap.size → H[q]? = s.heap[q]? := fun q hq => hS.2.1 q hq (Nat.not_le.mpr hq)
  refine va_calli (sk_runSW (As := [.ref (a 0), .int (xs (nI (4 * j) + nI 1).toNatClampNeg), .int (xs (nI (4 * j) + nI 2).toNatClampNeg), .ref oa]) (rest := []) (n := 4) ⟨hx, hb, hml, hown, hts⟩ (kL_read l dC dI a k bo t f wt (sk_ad ([sk_wO oa k fo] ++ sk_wX a k (bo, t, f) wt)) s htr h0 oa fo (xs (nI (4 * j) + nI 1).toNatClampNeg) (xs (nI (4 * j) + nI 2).toNatClampNeg) j hOK) rfl rfl (Nat.le_of_ble_eq_true rfl) (Nat.le_of_ble_eq_true rfl) (pay_in hts (sk_gC wcL_read)) List.mem_cons_self (hts _ wnL) (by decide) (sk_lenp (by decide +kernel)) (hts _ wmL_54) (hts _ wiL_read) ⟨sk_blindL _, fun U hU hW => ⟨rfl, by rw [hU]; exact hPl, va_K.moved hW.alike hK, sk_NW_warm hW hN, hDl, sk_TW_at (State.WarmedH.refl s) hold hU hW⟩⟩ rfl rfl hl.1 rfl (lv_room (Nat.le_of_ble_eq_true rfl)) dL_law_293 ⟨by show 100 + j + 1 ≤ 601024; omega, by show 20000 + 6 * j + 6 ≤ 7293034; omega⟩) hS (fun q _ h => hin q h) (fun q h => hin q h) (fun r293 u293 U9 H locs ht hvm w293 hB hz hk hS => ?_)
  obtain ⟨hP1, hD1⟩ := hB
  rw [ht] at hP1
  obtain ⟨hP, hD⟩ := sk_joinL (X := [sk_wO oa k fo] ++ sk_wX a k (bo, t, f) wt) (Y := sk_wM am k (bo, t, f) ex lf th) hP hD hP1 hD1 hk
  obtain ⟨fo2, S2, wt2⟩ := u293
  obtain ⟨w293, hs2, hf2⟩ := w293
  have hs2 : S2 = (bo, t, f) := hs2
  subst hs2
  have hf2 : (sk_read (bo, t, f) (xs (nI (4 * j) + nI 1).toNatClampNeg) (xs (nI (4 * j) + nI 2).toNatClampNeg)).1 = 0 → fo2 0 = (sk_read (bo, t, f) (xs (nI (4 * j) + nI 1).toNatClampNeg) (xs (nI (4 * j) + nI 2).toNatClampNeg)).2.toInt64 := hf2
  have hP : va_P (dC, dI) vwCl ([sk_wO oa k fo2] ++ (sk_wX a k (bo, t, f) wt2 ++ sk_wM am k (bo, t, f) ex lf th)) H := hP
  have hD : va_D (sk_LA s) ([sk_wO oa k fo2] ++ (sk_wX a k (bo, t, f) wt2 ++ sk_wM am k (bo, t, f) ex lf th)) := hD
  refine lv_istore (lv' := [(5, .int r293), (0, .ref b), (1, .ref (a 0)), (2, .ref (am 0)), (3, .ref oa), (4, .int (nI (4 * j)))]) hx hb dL_law_296 hl (by decide) rfl (fun ls hl => ?_)
  refine lv_aload_n hx hb dL_law_298 rfl (lv_at hl 3 rfl) ?_
  refine lv_aload_n hx hb dL_law_299 rfl (lv_at hl 1 rfl) ?_
  refine lv_iload hx hb dL_law_300 (lv_at hl 5 rfl) ?_
  refine lv_iconst (v := nI 1) hx hb dL_law_302 (by decide) ?_
  refine lv_iadd hx hb dL_law_303 ?_
  refine va_sld hx hb hX hbl hbA hS hin1 dL_law_304 ?_
  refine lv_aload_n hx hb dL_law_305 rfl (lv_at hl 1 rfl) ?_
  refine lv_iload hx hb dL_law_306 (lv_at hl 5 rfl) ?_
  refine lv_iconst (v := nI 2) hx hb dL_law_308 (by decide) ?_
  refine lv_iadd hx hb dL_law_309 ?_
  refine va_sld hx hb hX hbl hbA hS hin2 dL_law_310 ?_
  have hPm : va_P (dC, dI) vwCl (sk_wM am k (bo, t, f) ex lf th) H := sk_PR1 (sk_PR1 hP)
  have hDm : va_D (sk_ad (sk_wM am k (bo, t, f) ex lf th)) (sk_wM am k (bo, t, f) ex lf th) := sk_Dself (sk_DR1 (sk_DR1 hD))
  have hin : ∀ q : Nat, sk_ad (sk_wM am k (bo, t, f) ex lf th) q → sk_LA s q := sk_adA (sk_DR1 hD)
  refine va_calli (va_runV (As := [.int (xs (nI (4 * j) + nI 1).toNatClampNeg), .int (xs (nI (4 * j) + nI 2).toNatClampNeg)]) (rest := []) ⟨hx, hb, hml, hown, hts⟩ (kM_read l dC dI am k bo t f ex lf th (sk_ad (sk_wM am k (bo, t, f) ex lf th)) (xs (nI (4 * j) + nI 1).toNatClampNeg) (xs (nI (4 * j) + nI 2).toNatClampNeg) j hOK hR) (cwV 2 hts (sk_gV wmL_57 wiM_read wsM_read wnM wcM_read) rfl rfl rfl (by decide +kernel) ⟨Nat.le_of_ble_eq_true rfl, Nat.le_of_ble_eq_true rfl⟩) ⟨sk_blindMD _, va_recv hK hPm (ci := 4) (q0 := 0) rfl rfl, fun U hU hW => ⟨rfl, sk_atM (S := (bo, t, f)) (ex := ex) (lf := lf) (th := th) hPm hK hU hW, hDm⟩⟩ rfl rfl hl.1 rfl (lv_room (Nat.le_of_ble_eq_true rfl)) dL_law_311 ⟨by show 100 + j + 1 + 0 ≤ 601024; omega, by show 20000 + 6 * j + 6 + 0 ≤ 7293034; omega⟩) hS (fun q _ h => hin q h) (fun q h => hin q h) (fun r311 u311 U9 H locs ht hvm w311 hB hz hk hS => ?_)
  obtain ⟨hP1, hD1⟩ := hB
  rw [ht] at hP1
  obtain ⟨hP, hD⟩ := sk_joinR (X := [sk_wO oa k fo2] ++ sk_wX a k (bo, t, f) wt2) (Y := sk_wM am k (bo, t, f) ex lf th) hP hD hP1 hD1 hk
  obtain ⟨hu311, w311⟩ := w311
  subst hu311
  have hP : va_P (dC, dI) vwCl ([sk_wO oa k fo2] ++ (sk_wX a k (bo, t, f) wt2 ++ sk_wM am k (bo, t, f) ex lf (nI (sk_read (bo, t, f) (xs (nI (4 * j) + nI 1).toNatClampNeg) (xs (nI (4 * j) + nI 2).toNatClampNeg)).1))) H := hP
  have hD : va_D (sk_LA s) ([sk_wO oa k fo2] ++ (sk_wX a k (bo, t, f) wt2 ++ sk_wM am k (bo, t, f) ex lf (nI (sk_read (bo, t, f) (xs (nI (4 * j) + nI 1).toNatClampNeg) (xs (nI (4 * j) + nI 2).toNatClampNeg)).1))) := hD
  refine lv_istore (lv' := [(6, .int r311), (5, .int r293), (0, .ref b), (1, .ref (a 0)), (2, .ref (am 0)), (3, .ref oa), (4, .int (nI (4 * j)))]) hx hb dL_law_314 hl (by decide) rfl (fun ls hl => ?_)
  refine lv_aload_n hx hb dL_law_316 rfl (lv_at hl 4 rfl) ?_
  have hPm : va_P (dC, dI) vwCl (sk_wM am k (bo, t, f) ex lf (nI (sk_read (bo, t, f) (xs (nI (4 * j) + nI 1).toNatClampNeg) (xs (nI (4 * j) + nI 2).toNatClampNeg)).1)) H := sk_PR1 (sk_PR1 hP)
  refine va_calli (va_runV (As := []) (rest := []) ⟨hx, hb, hml, hown, hts⟩ (kM_thrown l dC dI am k (bo, t, f).1 (bo, t, f).2.1 (bo, t, f).2.2 ex lf (nI (sk_read (bo, t, f) (xs (nI (4 * j) + nI 1).toNatClampNeg) (xs (nI (4 * j) + nI 2).toNatClampNeg)).1)) (cwV 0 hts (sk_gV wmL_36 wiM_thrown wsM_thrown wnM wcM_thrown) rfl rfl rfl (by decide +kernel) ⟨Nat.le_of_ble_eq_true rfl, Nat.le_of_ble_eq_true rfl⟩) ⟨sk_blindM _, va_recv hK hPm (ci := 4) (q0 := 0) rfl rfl, fun U hU hW => ⟨rfl, sk_atM (S := (bo, t, f)) (ex := ex) (lf := lf) (th := (nI (sk_read (bo, t, f) (xs (nI (4 * j) + nI 1).toNatClampNeg) (xs (nI (4 * j) + nI 2).toNatClampNeg)).1)) hPm hK hU hW⟩⟩ rfl rfl hl.1 rfl (lv_room (Nat.le_of_ble_eq_true rfl)) dL_law_317 ⟨by show 100 + j + 1 + 0 + 0 ≤ 601024; omega, by show 20000 + 6 * j + 6 + 0 + 0 ≤ 7293034; omega⟩) hS (fun _ _ h => h.elim) (fun _ h => h.elim) (fun r317 u317 U9 H locs ht hvm w317 hB hz hk hS => ?_)
  have hP := hP.kept (H1 := H) (fun j q hq => hk q.1 ((hP j q hq).lt) (fun h => h))
  clear hk hB ht
  refine lv_iload hx hb dL_law_320 (lv_at hl 1 rfl) ?_
  refine lv_icmp_eq (tgt := 327) hx hb dL_law_322 (by decide) (fun c322 => ?_) (fun c322 => ?_)
  · skip
    refine lv_iload hx hb dL_law_327 (lv_at hl 1 rfl) ?_
    refine lv_if_ne (tgt := 344) hx hb dL_law_329 (by decide) (fun c329 => ?_) (fun c329 => ?_)
    · skip
      refine lv_goto (tgt := 625) hx hb dL_law_344 (by decide) ?_
      exact sk_tail C0 hI (by omega) (by omega) (sk_OK_mono hOK hj1) hR hP hD hS (lv_sub hl [2, 3, 4, 5, 6] rfl)
    · skip
      have hco : (sk_read (bo, t, f) (xs (nI (4 * j) + nI 1).toNatClampNeg) (xs (nI (4 * j) + nI 2).toNatClampNeg)).1 = 0 := sk_code0 (sk_read_lt _ (xs (nI (4 * j) + nI 1).toNatClampNeg) (xs (nI (4 * j) + nI 2).toNatClampNeg)) (w293.symm.trans c329)
      refine lv_aload_n hx hb dL_law_332 rfl (lv_at hl 5 rfl) ?_
      refine lv_iconst (v := nI 0) hx hb dL_law_333 (by decide) ?_
      refine va_lald hx hb hK hP 0 2 rfl rfl (vp_in_nI (show 0 < 1 by decide) (by decide)) dL_law_334 ?_
      refine lv_iload hx hb dL_law_335 (lv_at hl 0 rfl) ?_
      refine lv_i2l hx hb dL_law_337 rfl ?_
      refine W.lcmp hx hb dL_law_338 ?_
      refine lv_topi (fun x338 e338 => ?_)
      refine lv_if_eq (tgt := 344) hx hb dL_law_339 (by decide) (fun c339 => ?_) (fun c339 => ?_)
      · skip
        refine lv_goto (tgt := 625) hx hb dL_law_344 (by decide) ?_
        exact sk_tail C0 hI (by omega) (by omega) (sk_OK_mono hOK hj1) hR hP hD hS (lv_sub hl [2, 3, 4, 5, 6] rfl)
      · exact absurd (e338.trans ((lg_cmp_eq _ _).mpr (by rw [nI_clamp (show 0 < 2 ^ 31 by decide), hf2 hco, w311 hco]))) c339
  · exact absurd (w317.trans w293.symm) c322
set_option maxHeartbeats 4000000 in
set_option maxRecDepth 100000 in
theorem law_c5 {p : Program} {e : Env} {s : State} {m : MethodId} {below : List Frame} {meth : Method} {c : Code} {l : Launch} {b L : Nat} {xs : Nat → Int32} {dC : Nat → ClassId} {dI : Nat → Nat → Nat} {a am : Nat → Nat} {k : Nat → ClassId} {oa j : Nat} (C0 : sk_L0 p s m meth c b L xs l dC dI k) (hj : 4 * j + 4 ≤ L) (hI : sk_LC p l e s m below meth c b dC dI a am k oa (j + 1)) {bo : sk_Ob} {t : sk_Tr} {f : sk_Fi} {wt : sk_F} {ex : sk_Ex} {lf : sk_F} {th : Int32} {fo : Nat → Int64} {H : Heap} {locs : List Loc} {ls : Array Slot} (hOK : sk_OK j (bo, t, f)) (hR : sk_RM (bo, t, f) ex) (hP : va_P (dC, dI) vwCl (sk_LW a am k oa (bo, t, f) wt ex lf th fo) H) (hD : va_D (sk_LA s) (sk_LW a am k oa (bo, t, f) wt ex lf th fo)) (hS : va_S (sk_LA s) s.heap H locs) (hl : lv_has ls 7 [(0, .ref b), (1, .ref (a 0)), (2, .ref (am 0)), (3, .ref oa), (4, .int (nI (4 * j)))]) : W p l e room_1 s m #[Value.ref b] below meth c H locs (100 + j) (20000 + 6 * j) (lw_Z below #[Value.ref b] s) (F0 m 347 ls []) := by
  obtain ⟨⟨hx, hb, hr, hml, hown, hts0, hX, hbl, hlocks, hgv⟩, hL, htr, h0, hK, hN⟩ := id C0
  have hts : ∀ w ∈ sk_W, w.before #[Value.ref b] s = true := fun w h => hts0 w (List.mem_filter.mp h).1
  have hown : s.vm.findClass RL = some m.cls := hown
  have hbA : ¬ sk_LA s b := Nat.not_le.mpr hbl
  have hj1 : j + 1 ≤ 512 := by omega
  have hin1 : vp_in (nI (4 * j) + nI 1) L := by rw [nI_add]; exact vp_in_nI (by omega) (by omega)
  have hin2 : vp_in (nI (4 * j) + nI 2) L := by rw [nI_add]; exact vp_in_nI (by omega) (by omega)
  have hin3 : vp_in (nI (4 * j) + nI 3) L := by rw [nI_add]; exact vp_in_nI (by omega) (by omega)
  have hP : va_P (dC, dI) vwCl ([sk_wO oa k fo] ++ (sk_wX a k (bo, t, f) wt ++ sk_wM am k (bo, t, f) ex lf th)) H := hP
  have hD : va_D (sk_LA s) ([sk_wO oa k fo] ++ (sk_wX a k (bo, t, f) wt ++ sk_wM am k (bo, t, f) ex lf th)) := hD
  refine lv_aload_n hx hb dL_law_347 rfl (lv_at hl 1 rfl) ?_
  refine lv_aload_n hx hb dL_law_348 rfl (lv_at hl 0 rfl) ?_
  refine lv_iload hx hb dL_law_349 (lv_at hl 4 rfl) ?_
  refine lv_iconst (v := nI 1) hx hb dL_law_351 (by decide) ?_
  refine lv_iadd hx hb dL_law_352 ?_
  refine va_sld hx hb hX hbl hbA hS hin1 dL_law_353 ?_
  refine lv_aload_n hx hb dL_law_354 rfl (lv_at hl 0 rfl) ?_
  refine lv_iload hx hb dL_law_355 (lv_at hl 4 rfl) ?_
  refine lv_iconst (v := nI 2) hx hb dL_law_357 (by decide) ?_
  refine lv_iadd hx hb dL_law_358 ?_
  refine va_sld hx hb hX hbl hbA hS hin2 dL_law_359 ?_
  have hPx : va_P (dC, dI) vwCl (sk_wX a k (bo, t, f) wt) H := sk_PL1 (sk_PR1 hP)
  have hDx : va_D (sk_ad (sk_wX a k (bo, t, f) wt)) (sk_wX a k (bo, t, f) wt) := sk_Dself (sk_DL1 (sk_DR1 hD))
  have hin : ∀ q : Nat, sk_ad (sk_wX a k (bo, t, f) wt) q → sk_LA s q := sk_adB (sk_DR1 hD)
  refine va_calli (va_runV (As := [.int (xs (nI (4 * j) + nI 1).toNatClampNeg), .int (xs (nI (4 * j) + nI 2).toNatClampNeg)]) (rest := []) ⟨hx, hb, hml, hown, hts⟩ (kK_find l dC dI a k bo t f wt (sk_ad (sk_wX a k (bo, t, f) wt)) (xs (nI (4 * j) + nI 1).toNatClampNeg) (xs (nI (4 * j) + nI 2).toNatClampNeg) j hOK) (cwV 2 hts (sk_gV wmL_58 wiK_find wsK_find wnK wcK_find) rfl rfl rfl (by decide +kernel) ⟨Nat.le_of_ble_eq_true rfl, Nat.le_of_ble_eq_true rfl⟩) ⟨sk_blindD _, va_recv hK hPx (ci := 3) (q0 := 0) rfl rfl, fun U hU hW => ⟨rfl, sk_at (S := (bo, t, f)) (wt := wt) hPx hK hN hU hW, hDx⟩⟩ rfl rfl hl.1 rfl (lv_room (Nat.le_of_ble_eq_true rfl)) dL_law_360 ⟨by show 100 + j + 0 ≤ 601024; omega, by show 20000 + 6 * j + 0 ≤ 7293034; omega⟩) hS (fun q _ h => hin q h) (fun q h => hin q h) (fun r360 u360 U9 H locs ht hvm w360 hB hz hk hS => ?_)
  obtain ⟨hP1, hD1⟩ := hB
  rw [ht] at hP1
  obtain ⟨hP, hD⟩ := sk_joinM hP hD hP1 hD1 hk
  obtain ⟨w360, wt2, hu360⟩ := w360
  subst hu360
  have hP : va_P (dC, dI) vwCl ([sk_wO oa k fo] ++ (sk_wX a k ((sk_find (bo, t, f) (xs (nI (4 * j) + nI 1).toNatClampNeg) (xs (nI (4 * j) + nI 2).toNatClampNeg)).2) wt2 ++ sk_wM am k (bo, t, f) ex lf th)) H := hP
  have hD : va_D (sk_LA s) ([sk_wO oa k fo] ++ (sk_wX a k ((sk_find (bo, t, f) (xs (nI (4 * j) + nI 1).toNatClampNeg) (xs (nI (4 * j) + nI 2).toNatClampNeg)).2) wt2 ++ sk_wM am k (bo, t, f) ex lf th)) := hD
  refine lv_aload_n hx hb dL_law_363 rfl (lv_at hl 2 rfl) ?_
  refine lv_aload_n hx hb dL_law_364 rfl (lv_at hl 0 rfl) ?_
  refine lv_iload hx hb dL_law_365 (lv_at hl 4 rfl) ?_
  refine lv_iconst (v := nI 1) hx hb dL_law_367 (by decide) ?_
  refine lv_iadd hx hb dL_law_368 ?_
  refine va_sld hx hb hX hbl hbA hS hin1 dL_law_369 ?_
  refine lv_aload_n hx hb dL_law_370 rfl (lv_at hl 0 rfl) ?_
  refine lv_iload hx hb dL_law_371 (lv_at hl 4 rfl) ?_
  refine lv_iconst (v := nI 2) hx hb dL_law_373 (by decide) ?_
  refine lv_iadd hx hb dL_law_374 ?_
  refine va_sld hx hb hX hbl hbA hS hin2 dL_law_375 ?_
  have hPm : va_P (dC, dI) vwCl (sk_wM am k (bo, t, f) ex lf th) H := sk_PR1 (sk_PR1 hP)
  have hDm : va_D (sk_ad (sk_wM am k (bo, t, f) ex lf th)) (sk_wM am k (bo, t, f) ex lf th) := sk_Dself (sk_DR1 (sk_DR1 hD))
  have hin : ∀ q : Nat, sk_ad (sk_wM am k (bo, t, f) ex lf th) q → sk_LA s q := sk_adA (sk_DR1 hD)
  refine va_calli (va_runV (As := [.int (xs (nI (4 * j) + nI 1).toNatClampNeg), .int (xs (nI (4 * j) + nI 2).toNatClampNeg)]) (rest := [.int r360]) ⟨hx, hb, hml, hown, hts⟩ (kM_find l dC dI am k bo t f ex lf th (sk_ad (sk_wM am k (bo, t, f) ex lf th)) (xs (nI (4 * j) + nI 1).toNatClampNeg) (xs (nI (4 * j) + nI 2).toNatClampNeg) j hOK hR hj1) (cwV 2 hts (sk_gV wmL_61 wiM_find wsM_find wnM wcM_find) rfl rfl rfl (by decide +kernel) ⟨Nat.le_of_ble_eq_true rfl, Nat.le_of_ble_eq_true rfl⟩) ⟨sk_blindMD _, va_recv hK hPm (ci := 4) (q0 := 0) rfl rfl, fun U hU hW => ⟨rfl, sk_atM (S := (bo, t, f)) (ex := ex) (lf := lf) (th := th) hPm hK hU hW, hDm⟩⟩ rfl rfl hl.1 rfl (lv_room (Nat.le_of_ble_eq_true rfl)) dL_law_376 ⟨by show 100 + j + 0 + 0 ≤ 601024; omega, by show 20000 + 6 * j + 0 + 0 ≤ 7293034; omega⟩) hS (fun q _ h => hin q h) (fun q h => hin q h) (fun r376 u376 U9 H locs ht hvm w376 hB hz hk hS => ?_)
  obtain ⟨hP1, hD1⟩ := hB
  rw [ht] at hP1
  obtain ⟨hP, hD⟩ := sk_joinR (X := [sk_wO oa k fo] ++ sk_wX a k ((sk_find (bo, t, f) (xs (nI (4 * j) + nI 1).toNatClampNeg) (xs (nI (4 * j) + nI 2).toNatClampNeg)).2) wt2) (Y := sk_wM am k (bo, t, f) ex lf th) hP hD hP1 hD1 hk
  obtain ⟨w376, ex2, lf2, th2, hu376, hR2⟩ := w376
  subst hu376
  have hP : va_P (dC, dI) vwCl ([sk_wO oa k fo] ++ (sk_wX a k ((sk_find (bo, t, f) (xs (nI (4 * j) + nI 1).toNatClampNeg) (xs (nI (4 * j) + nI 2).toNatClampNeg)).2) wt2 ++ sk_wM am k ((sk_find (bo, t, f) (xs (nI (4 * j) + nI 1).toNatClampNeg) (xs (nI (4 * j) + nI 2).toNatClampNeg)).2) ex2 lf2 th2)) H := hP
  have hD : va_D (sk_LA s) ([sk_wO oa k fo] ++ (sk_wX a k ((sk_find (bo, t, f) (xs (nI (4 * j) + nI 1).toNatClampNeg) (xs (nI (4 * j) + nI 2).toNatClampNeg)).2) wt2 ++ sk_wM am k ((sk_find (bo, t, f) (xs (nI (4 * j) + nI 1).toNatClampNeg) (xs (nI (4 * j) + nI 2).toNatClampNeg)).2) ex2 lf2 th2)) := hD
  refine lv_icmp_eq (tgt := 625) hx hb dL_law_379 (by decide) (fun c379 => ?_) (fun c379 => ?_)
  · skip
    exact sk_tail C0 hI (by omega) (by omega) (sk_OK_find hOK hj1 (xs (nI (4 * j) + nI 1).toNatClampNeg) (xs (nI (4 * j) + nI 2).toNatClampNeg)) hR2 hP hD hS (lv_sub hl [0, 1, 2, 3, 4] rfl)
  · exact absurd (w360.trans w376.symm) c379
set_option maxHeartbeats 4000000 in
set_option maxRecDepth 100000 in
theorem law_c6 {p : Program} {e : Env} {s : State} {m : MethodId} {below : List Frame} {meth : Method} {c : Code} {l : Launch} {b L : Nat} {xs : Nat → Int32} {dC : Nat → ClassId} {dI : Nat → Nat → Nat} {a am : Nat → Nat} {k : Nat → ClassId} {oa j : Nat} (C0 : sk_L0 p s m meth c b L xs l dC dI k) (hj : 4 * j + 4 ≤ L) (hI : sk_LC p l e s m below meth c b dC dI a am k oa (j + 1)) {bo : sk_Ob} {t : sk_Tr} {f : sk_Fi} {wt : sk_F} {ex : sk_Ex} {lf : sk_F} {th : Int32} {fo : Nat → Int64} {H : Heap} {locs : List Loc} {ls : Array Slot} (hOK : sk_OK j (bo, t, f)) (hR : sk_RM (bo, t, f) ex) (hP : va_P (dC, dI) vwCl (sk_LW a am k oa (bo, t, f) wt ex lf th fo) H) (hD : va_D (sk_LA s) (sk_LW a am k oa (bo, t, f) wt ex lf th fo)) (hS : va_S (sk_LA s) s.heap H locs) (hl : lv_has ls 7 [(0, .ref b), (1, .ref (a 0)), (2, .ref (am 0)), (3, .ref oa), (4, .int (nI (4 * j)))]) : W p l e room_1 s m #[Value.ref b] below meth c H locs (100 + j) (20000 + 6 * j) (lw_Z below #[Value.ref b] s) (F0 m 384 ls []) := by
  obtain ⟨⟨hx, hb, hr, hml, hown, hts0, hX, hbl, hlocks, hgv⟩, hL, htr, h0, hK, hN⟩ := id C0
  have hts : ∀ w ∈ sk_W, w.before #[Value.ref b] s = true := fun w h => hts0 w (List.mem_filter.mp h).1
  have hown : s.vm.findClass RL = some m.cls := hown
  have hbA : ¬ sk_LA s b := Nat.not_le.mpr hbl
  have hj1 : j + 1 ≤ 512 := by omega
  have hin1 : vp_in (nI (4 * j) + nI 1) L := by rw [nI_add]; exact vp_in_nI (by omega) (by omega)
  have hin2 : vp_in (nI (4 * j) + nI 2) L := by rw [nI_add]; exact vp_in_nI (by omega) (by omega)
  have hin3 : vp_in (nI (4 * j) + nI 3) L := by rw [nI_add]; exact vp_in_nI (by omega) (by omega)
  have hP : va_P (dC, dI) vwCl ([sk_wO oa k fo] ++ (sk_wX a k (bo, t, f) wt ++ sk_wM am k (bo, t, f) ex lf th)) H := hP
  have hD : va_D (sk_LA s) ([sk_wO oa k fo] ++ (sk_wX a k (bo, t, f) wt ++ sk_wM am k (bo, t, f) ex lf th)) := hD
  refine lv_aload_n hx hb dL_law_384 rfl (lv_at hl 1 rfl) ?_
  refine lv_aload_n hx hb dL_law_385 rfl (lv_at hl 0 rfl) ?_
  refine lv_iload hx hb dL_law_386 (lv_at hl 4 rfl) ?_
  refine lv_iconst (v := nI 1) hx hb dL_law_388 (by decide) ?_
  refine lv_iadd hx hb dL_law_389 ?_
  refine va_sld hx hb hX hbl hbA hS hin1 dL_law_390 ?_
  refine lv_aload_n hx hb dL_law_391 rfl (lv_at hl 0 rfl) ?_
  refine lv_iload hx hb dL_law_392 (lv_at hl 4 rfl) ?_
  refine lv_iconst (v := nI 2) hx hb dL_law_394 (by decide) ?_
  refine lv_iadd hx hb dL_law_395 ?_
  refine va_sld hx hb hX hbl hbA hS hin2 dL_law_396 ?_
  have hPx : va_P (dC, dI) vwCl (sk_wX a k (bo, t, f) wt) H := sk_PL1 (sk_PR1 hP)
  refine va_calli (va_runV (As := [.int (xs (nI (4 * j) + nI 1).toNatClampNeg), .int (xs (nI (4 * j) + nI 2).toNatClampNeg)]) (rest := []) ⟨hx, hb, hml, hown, hts⟩ (kK_holds l dC dI a k bo t f wt (xs (nI (4 * j) + nI 1).toNatClampNeg) (xs (nI (4 * j) + nI 2).toNatClampNeg) j hOK) (cwV 2 hts (sk_gV wmL_62 wiK_holds wsK_holds wnK wcK_holds) rfl rfl rfl (by decide +kernel) ⟨Nat.le_of_ble_eq_true rfl, Nat.le_of_ble_eq_true rfl⟩) ⟨sk_blind _, va_recv hK hPx (ci := 3) (q0 := 0) rfl rfl, fun U hU hW => ⟨rfl, sk_at (S := (bo, t, f)) (wt := wt) hPx hK hN hU hW⟩⟩ rfl rfl hl.1 rfl (lv_room (Nat.le_of_ble_eq_true rfl)) dL_law_397 ⟨by show 100 + j + 0 ≤ 601024; omega, by show 20000 + 6 * j + 0 ≤ 7293034; omega⟩) hS (fun _ _ h => h.elim) (fun _ h => h.elim) (fun r397 u397 U9 H locs ht hvm w397 hB hz hk hS => ?_)
  have hP := hP.kept (H1 := H) (fun j q hq => hk q.1 ((hP j q hq).lt) (fun h => h))
  clear hk hB ht
  refine lv_aload_n hx hb dL_law_400 rfl (lv_at hl 2 rfl) ?_
  refine lv_aload_n hx hb dL_law_401 rfl (lv_at hl 0 rfl) ?_
  refine lv_iload hx hb dL_law_402 (lv_at hl 4 rfl) ?_
  refine lv_iconst (v := nI 1) hx hb dL_law_404 (by decide) ?_
  refine lv_iadd hx hb dL_law_405 ?_
  refine va_sld hx hb hX hbl hbA hS hin1 dL_law_406 ?_
  refine lv_aload_n hx hb dL_law_407 rfl (lv_at hl 0 rfl) ?_
  refine lv_iload hx hb dL_law_408 (lv_at hl 4 rfl) ?_
  refine lv_iconst (v := nI 2) hx hb dL_law_410 (by decide) ?_
  refine lv_iadd hx hb dL_law_411 ?_
  refine va_sld hx hb hX hbl hbA hS hin2 dL_law_412 ?_
  have hPm : va_P (dC, dI) vwCl (sk_wM am k (bo, t, f) ex lf th) H := sk_PR1 (sk_PR1 hP)
  have hDm : va_D (sk_ad (sk_wM am k (bo, t, f) ex lf th)) (sk_wM am k (bo, t, f) ex lf th) := sk_Dself (sk_DR1 (sk_DR1 hD))
  have hin : ∀ q : Nat, sk_ad (sk_wM am k (bo, t, f) ex lf th) q → sk_LA s q := sk_adA (sk_DR1 hD)
  refine va_calli (va_runV (As := [.int (xs (nI (4 * j) + nI 1).toNatClampNeg), .int (xs (nI (4 * j) + nI 2).toNatClampNeg)]) (rest := [.int r397]) ⟨hx, hb, hml, hown, hts⟩ (kM_holds l dC dI am k bo t f ex lf th (sk_ad (sk_wM am k (bo, t, f) ex lf th)) (xs (nI (4 * j) + nI 1).toNatClampNeg) (xs (nI (4 * j) + nI 2).toNatClampNeg) j hOK hR) (cwV 2 hts (sk_gV wmL_65 wiM_holds wsM_holds wnM wcM_holds) rfl rfl rfl (by decide +kernel) ⟨Nat.le_of_ble_eq_true rfl, Nat.le_of_ble_eq_true rfl⟩) ⟨sk_blindMD _, va_recv hK hPm (ci := 4) (q0 := 0) rfl rfl, fun U hU hW => ⟨rfl, sk_atM (S := (bo, t, f)) (ex := ex) (lf := lf) (th := th) hPm hK hU hW, hDm⟩⟩ rfl rfl hl.1 rfl (lv_room (Nat.le_of_ble_eq_true rfl)) dL_law_413 ⟨by show 100 + j + 0 + 0 ≤ 601024; omega, by show 20000 + 6 * j + 0 + 0 ≤ 7293034; omega⟩) hS (fun q _ h => hin q h) (fun q h => hin q h) (fun r413 u413 U9 H locs ht hvm w413 hB hz hk hS => ?_)
  obtain ⟨hP1, hD1⟩ := hB
  rw [ht] at hP1
  obtain ⟨hP, hD⟩ := sk_joinR (X := [sk_wO oa k fo] ++ sk_wX a k (bo, t, f) wt) (Y := sk_wM am k (bo, t, f) ex lf th) hP hD hP1 hD1 hk
  obtain ⟨w413, th2, hu413⟩ := w413
  subst hu413
  have hP : va_P (dC, dI) vwCl ([sk_wO oa k fo] ++ (sk_wX a k (bo, t, f) wt ++ sk_wM am k (bo, t, f) ex lf th2)) H := hP
  have hD : va_D (sk_LA s) ([sk_wO oa k fo] ++ (sk_wX a k (bo, t, f) wt ++ sk_wM am k (bo, t, f) ex lf th2)) := hD
  refine lv_icmp_eq (tgt := 625) hx hb dL_law_416 (by decide) (fun c416 => ?_) (fun c416 => ?_)
  · skip
    exact sk_tail C0 hI (by omega) (by omega) (sk_OK_mono hOK hj1) hR hP hD hS (lv_sub hl [0, 1, 2, 3, 4] rfl)
  · exact absurd (w397.trans w413.symm) c416
set_option maxHeartbeats 4000000 in
set_option maxRecDepth 100000 in
theorem law_c7 {p : Program} {e : Env} {s : State} {m : MethodId} {below : List Frame} {meth : Method} {c : Code} {l : Launch} {b L : Nat} {xs : Nat → Int32} {dC : Nat → ClassId} {dI : Nat → Nat → Nat} {a am : Nat → Nat} {k : Nat → ClassId} {oa j : Nat} (C0 : sk_L0 p s m meth c b L xs l dC dI k) (hj : 4 * j + 4 ≤ L) (hI : sk_LC p l e s m below meth c b dC dI a am k oa (j + 1)) {bo : sk_Ob} {t : sk_Tr} {f : sk_Fi} {wt : sk_F} {ex : sk_Ex} {lf : sk_F} {th : Int32} {fo : Nat → Int64} {H : Heap} {locs : List Loc} {ls : Array Slot} (hOK : sk_OK j (bo, t, f)) (hR : sk_RM (bo, t, f) ex) (hP : va_P (dC, dI) vwCl (sk_LW a am k oa (bo, t, f) wt ex lf th fo) H) (hD : va_D (sk_LA s) (sk_LW a am k oa (bo, t, f) wt ex lf th fo)) (hS : va_S (sk_LA s) s.heap H locs) (hl : lv_has ls 7 [(0, .ref b), (1, .ref (a 0)), (2, .ref (am 0)), (3, .ref oa), (4, .int (nI (4 * j)))]) : W p l e room_1 s m #[Value.ref b] below meth c H locs (100 + j) (20000 + 6 * j) (lw_Z below #[Value.ref b] s) (F0 m 421 ls []) := by
  obtain ⟨⟨hx, hb, hr, hml, hown, hts0, hX, hbl, hlocks, hgv⟩, hL, htr, h0, hK, hN⟩ := id C0
  have hts : ∀ w ∈ sk_W, w.before #[Value.ref b] s = true := fun w h => hts0 w (List.mem_filter.mp h).1
  have hown : s.vm.findClass RL = some m.cls := hown
  have hbA : ¬ sk_LA s b := Nat.not_le.mpr hbl
  have hj1 : j + 1 ≤ 512 := by omega
  have hin1 : vp_in (nI (4 * j) + nI 1) L := by rw [nI_add]; exact vp_in_nI (by omega) (by omega)
  have hin2 : vp_in (nI (4 * j) + nI 2) L := by rw [nI_add]; exact vp_in_nI (by omega) (by omega)
  have hin3 : vp_in (nI (4 * j) + nI 3) L := by rw [nI_add]; exact vp_in_nI (by omega) (by omega)
  have hP : va_P (dC, dI) vwCl ([sk_wO oa k fo] ++ (sk_wX a k (bo, t, f) wt ++ sk_wM am k (bo, t, f) ex lf th)) H := hP
  have hD : va_D (sk_LA s) ([sk_wO oa k fo] ++ (sk_wX a k (bo, t, f) wt ++ sk_wM am k (bo, t, f) ex lf th)) := hD
  refine lv_aload_n hx hb dL_law_421 rfl (lv_at hl 1 rfl) ?_
  refine lv_aload_n hx hb dL_law_422 rfl (lv_at hl 0 rfl) ?_
  refine lv_iload hx hb dL_law_423 (lv_at hl 4 rfl) ?_
  refine lv_iconst (v := nI 1) hx hb dL_law_425 (by decide) ?_
  refine lv_iadd hx hb dL_law_426 ?_
  refine va_sld hx hb hX hbl hbA hS hin1 dL_law_427 ?_
  refine lv_aload_n hx hb dL_law_428 rfl (lv_at hl 0 rfl) ?_
  refine lv_iload hx hb dL_law_429 (lv_at hl 4 rfl) ?_
  refine lv_iconst (v := nI 2) hx hb dL_law_431 (by decide) ?_
  refine lv_iadd hx hb dL_law_432 ?_
  refine va_sld hx hb hX hbl hbA hS hin2 dL_law_433 ?_
  refine lv_aload_n hx hb dL_law_434 rfl (lv_at hl 3 rfl) ?_
  have hPl : va_P (dC, dI) vwCl ([sk_wO oa k fo] ++ sk_wX a k (bo, t, f) wt) H := sk_PL1 (X := [sk_wO oa k fo] ++ sk_wX a k (bo, t, f) wt) (Y := sk_wM am k (bo, t, f) ex lf th) hP
  have hDl : va_D (sk_ad ([sk_wO oa k fo] ++ sk_wX a k (bo, t, f) wt)) ([sk_wO oa k fo] ++ sk_wX a k (bo, t, f) wt) := sk_Dself (sk_DL1 (X := [sk_wO oa k fo] ++ sk_wX a k (bo, t, f) wt) (Y := sk_wM am k (bo, t, f) ex lf th) hD)
  have hin : ∀ q : Nat, sk_ad ([sk_wO oa k fo] ++ sk_wX a k (bo, t, f) wt) q → sk_LA s q := sk_adB (X := [sk_wO oa k fo] ++ sk_wX a k (bo, t, f) wt) (Y := sk_wM am k (bo, t, f) ex lf th) hD
  have hold : ∀ q : Nat, q < s.heap.size → H[q]? = s.heap[q]? := fun q hq => hS.2.1 q hq (Nat.not_le.mpr hq)
  refine va_calli (sk_runSW (As := [.ref (a 0), .int (xs (nI (4 * j) + nI 1).toNatClampNeg), .int (xs (nI (4 * j) + nI 2).toNatClampNeg), .ref oa]) (rest := []) (n := 4) ⟨hx, hb, hml, hown, hts⟩ (kL_get l dC dI a k bo t f wt (sk_ad ([sk_wO oa k fo] ++ sk_wX a k (bo, t, f) wt)) s htr h0 oa fo (xs (nI (4 * j) + nI 1).toNatClampNeg) (xs (nI (4 * j) + nI 2).toNatClampNeg) j hOK) rfl rfl (Nat.le_of_ble_eq_true rfl) (Nat.le_of_ble_eq_true rfl) (pay_in hts (sk_gC wcL_get)) List.mem_cons_self (hts _ wnL) (by decide) (sk_lenp (by decide +kernel)) (hts _ wmL_66) (hts _ wiL_get) ⟨sk_blindL _, fun U hU hW => ⟨rfl, by rw [hU]; exact hPl, va_K.moved hW.alike hK, sk_NW_warm hW hN, hDl, sk_TW_at (State.WarmedH.refl s) hold hU hW⟩⟩ rfl rfl hl.1 rfl (lv_room (Nat.le_of_ble_eq_true rfl)) dL_law_435 ⟨by show 100 + j + 1 ≤ 601024; omega, by show 20000 + 6 * j + 6 ≤ 7293034; omega⟩) hS (fun q _ h => hin q h) (fun q h => hin q h) (fun r435 u435 U9 H locs ht hvm w435 hB hz hk hS => ?_)
  obtain ⟨hP1, hD1⟩ := hB
  rw [ht] at hP1
  obtain ⟨hP, hD⟩ := sk_joinL (X := [sk_wO oa k fo] ++ sk_wX a k (bo, t, f) wt) (Y := sk_wM am k (bo, t, f) ex lf th) hP hD hP1 hD1 hk
  obtain ⟨fo2, S2, wt2⟩ := u435
  obtain ⟨w435, hs2, hf2⟩ := w435
  have hs2 : S2 = (bo, t, f) := hs2
  subst hs2
  have hf2 : (sk_get (bo, t, f) (xs (nI (4 * j) + nI 1).toNatClampNeg) (xs (nI (4 * j) + nI 2).toNatClampNeg)).1 = 0 → fo2 0 = (sk_get (bo, t, f) (xs (nI (4 * j) + nI 1).toNatClampNeg) (xs (nI (4 * j) + nI 2).toNatClampNeg)).2.toInt64 := hf2
  have hP : va_P (dC, dI) vwCl ([sk_wO oa k fo2] ++ (sk_wX a k (bo, t, f) wt2 ++ sk_wM am k (bo, t, f) ex lf th)) H := hP
  have hD : va_D (sk_LA s) ([sk_wO oa k fo2] ++ (sk_wX a k (bo, t, f) wt2 ++ sk_wM am k (bo, t, f) ex lf th)) := hD
  refine lv_istore (lv' := [(5, .int r435), (0, .ref b), (1, .ref (a 0)), (2, .ref (am 0)), (3, .ref oa), (4, .int (nI (4 * j)))]) hx hb dL_law_438 hl (by decide) rfl (fun ls hl => ?_)
  refine lv_aload_n hx hb dL_law_440 rfl (lv_at hl 3 rfl) ?_
  refine lv_aload_n hx hb dL_law_441 rfl (lv_at hl 1 rfl) ?_
  refine lv_iload hx hb dL_law_442 (lv_at hl 5 rfl) ?_
  refine lv_iconst (v := nI 1) hx hb dL_law_444 (by decide) ?_
  refine lv_iadd hx hb dL_law_445 ?_
  refine va_sld hx hb hX hbl hbA hS hin1 dL_law_446 ?_
  refine lv_aload_n hx hb dL_law_447 rfl (lv_at hl 1 rfl) ?_
  refine lv_iload hx hb dL_law_448 (lv_at hl 5 rfl) ?_
  refine lv_iconst (v := nI 2) hx hb dL_law_450 (by decide) ?_
  refine lv_iadd hx hb dL_law_451 ?_
  refine va_sld hx hb hX hbl hbA hS hin2 dL_law_452 ?_
  have hPm : va_P (dC, dI) vwCl (sk_wM am k (bo, t, f) ex lf th) H := sk_PR1 (sk_PR1 hP)
  have hDm : va_D (sk_ad (sk_wM am k (bo, t, f) ex lf th)) (sk_wM am k (bo, t, f) ex lf th) := sk_Dself (sk_DR1 (sk_DR1 hD))
  have hin : ∀ q : Nat, sk_ad (sk_wM am k (bo, t, f) ex lf th) q → sk_LA s q := sk_adA (sk_DR1 hD)
  refine va_calli (va_runV (As := [.int (xs (nI (4 * j) + nI 1).toNatClampNeg), .int (xs (nI (4 * j) + nI 2).toNatClampNeg)]) (rest := []) ⟨hx, hb, hml, hown, hts⟩ (kM_get l dC dI am k bo t f ex lf th (sk_ad (sk_wM am k (bo, t, f) ex lf th)) (xs (nI (4 * j) + nI 1).toNatClampNeg) (xs (nI (4 * j) + nI 2).toNatClampNeg) j hOK hR) (cwV 2 hts (sk_gV wmL_68 wiM_get wsM_get wnM wcM_get) rfl rfl rfl (by decide +kernel) ⟨Nat.le_of_ble_eq_true rfl, Nat.le_of_ble_eq_true rfl⟩) ⟨sk_blindMD _, va_recv hK hPm (ci := 4) (q0 := 0) rfl rfl, fun U hU hW => ⟨rfl, sk_atM (S := (bo, t, f)) (ex := ex) (lf := lf) (th := th) hPm hK hU hW, hDm⟩⟩ rfl rfl hl.1 rfl (lv_room (Nat.le_of_ble_eq_true rfl)) dL_law_453 ⟨by show 100 + j + 1 + 0 ≤ 601024; omega, by show 20000 + 6 * j + 6 + 0 ≤ 7293034; omega⟩) hS (fun q _ h => hin q h) (fun q h => hin q h) (fun r453 u453 U9 H locs ht hvm w453 hB hz hk hS => ?_)
  obtain ⟨hP1, hD1⟩ := hB
  rw [ht] at hP1
  obtain ⟨hP, hD⟩ := sk_joinR (X := [sk_wO oa k fo2] ++ sk_wX a k (bo, t, f) wt2) (Y := sk_wM am k (bo, t, f) ex lf th) hP hD hP1 hD1 hk
  obtain ⟨hu453, w453⟩ := w453
  subst hu453
  have hP : va_P (dC, dI) vwCl ([sk_wO oa k fo2] ++ (sk_wX a k (bo, t, f) wt2 ++ sk_wM am k (bo, t, f) ex lf (nI (sk_get (bo, t, f) (xs (nI (4 * j) + nI 1).toNatClampNeg) (xs (nI (4 * j) + nI 2).toNatClampNeg)).1))) H := hP
  have hD : va_D (sk_LA s) ([sk_wO oa k fo2] ++ (sk_wX a k (bo, t, f) wt2 ++ sk_wM am k (bo, t, f) ex lf (nI (sk_get (bo, t, f) (xs (nI (4 * j) + nI 1).toNatClampNeg) (xs (nI (4 * j) + nI 2).toNatClampNeg)).1))) := hD
  refine lv_istore (lv' := [(6, .int r453), (5, .int r435), (0, .ref b), (1, .ref (a 0)), (2, .ref (am 0)), (3, .ref oa), (4, .int (nI (4 * j)))]) hx hb dL_law_456 hl (by decide) rfl (fun ls hl => ?_)
  refine lv_aload_n hx hb dL_law_458 rfl (lv_at hl 4 rfl) ?_
  have hPm : va_P (dC, dI) vwCl (sk_wM am k (bo, t, f) ex lf (nI (sk_get (bo, t, f) (xs (nI (4 * j) + nI 1).toNatClampNeg) (xs (nI (4 * j) + nI 2).toNatClampNeg)).1)) H := sk_PR1 (sk_PR1 hP)
  refine va_calli (va_runV (As := []) (rest := []) ⟨hx, hb, hml, hown, hts⟩ (kM_thrown l dC dI am k (bo, t, f).1 (bo, t, f).2.1 (bo, t, f).2.2 ex lf (nI (sk_get (bo, t, f) (xs (nI (4 * j) + nI 1).toNatClampNeg) (xs (nI (4 * j) + nI 2).toNatClampNeg)).1)) (cwV 0 hts (sk_gV wmL_36 wiM_thrown wsM_thrown wnM wcM_thrown) rfl rfl rfl (by decide +kernel) ⟨Nat.le_of_ble_eq_true rfl, Nat.le_of_ble_eq_true rfl⟩) ⟨sk_blindM _, va_recv hK hPm (ci := 4) (q0 := 0) rfl rfl, fun U hU hW => ⟨rfl, sk_atM (S := (bo, t, f)) (ex := ex) (lf := lf) (th := (nI (sk_get (bo, t, f) (xs (nI (4 * j) + nI 1).toNatClampNeg) (xs (nI (4 * j) + nI 2).toNatClampNeg)).1)) hPm hK hU hW⟩⟩ rfl rfl hl.1 rfl (lv_room (Nat.le_of_ble_eq_true rfl)) dL_law_459 ⟨by show 100 + j + 1 + 0 + 0 ≤ 601024; omega, by show 20000 + 6 * j + 6 + 0 + 0 ≤ 7293034; omega⟩) hS (fun _ _ h => h.elim) (fun _ h => h.elim) (fun r459 u459 U9 H locs ht hvm w459 hB hz hk hS => ?_)
  have hP := hP.kept (H1 := H) (fun j q hq => hk q.1 ((hP j q hq).lt) (fun h => h))
  clear hk hB ht
  refine lv_iload hx hb dL_law_462 (lv_at hl 1 rfl) ?_
  refine lv_icmp_eq (tgt := 469) hx hb dL_law_464 (by decide) (fun c464 => ?_) (fun c464 => ?_)
  · skip
    refine lv_iload hx hb dL_law_469 (lv_at hl 1 rfl) ?_
    refine lv_if_ne (tgt := 486) hx hb dL_law_471 (by decide) (fun c471 => ?_) (fun c471 => ?_)
    · skip
      refine lv_goto (tgt := 625) hx hb dL_law_486 (by decide) ?_
      exact sk_tail C0 hI (by omega) (by omega) (sk_OK_mono hOK hj1) hR hP hD hS (lv_sub hl [2, 3, 4, 5, 6] rfl)
    · skip
      have hco : (sk_get (bo, t, f) (xs (nI (4 * j) + nI 1).toNatClampNeg) (xs (nI (4 * j) + nI 2).toNatClampNeg)).1 = 0 := sk_code0 (sk_get_lt _ (xs (nI (4 * j) + nI 1).toNatClampNeg) (xs (nI (4 * j) + nI 2).toNatClampNeg)) (w435.symm.trans c471)
      refine lv_aload_n hx hb dL_law_474 rfl (lv_at hl 5 rfl) ?_
      refine lv_iconst (v := nI 0) hx hb dL_law_475 (by decide) ?_
      refine va_lald hx hb hK hP 0 2 rfl rfl (vp_in_nI (show 0 < 1 by decide) (by decide)) dL_law_476 ?_
      refine lv_iload hx hb dL_law_477 (lv_at hl 0 rfl) ?_
      refine lv_i2l hx hb dL_law_479 rfl ?_
      refine W.lcmp hx hb dL_law_480 ?_
      refine lv_topi (fun x480 e480 => ?_)
      refine lv_if_eq (tgt := 486) hx hb dL_law_481 (by decide) (fun c481 => ?_) (fun c481 => ?_)
      · skip
        refine lv_goto (tgt := 625) hx hb dL_law_486 (by decide) ?_
        exact sk_tail C0 hI (by omega) (by omega) (sk_OK_mono hOK hj1) hR hP hD hS (lv_sub hl [2, 3, 4, 5, 6] rfl)
      · exact absurd (e480.trans ((lg_cmp_eq _ _).mpr (by rw [nI_clamp (show 0 < 2 ^ 31 by decide), hf2 hco, w453 hco]))) c481
  · exact absurd (w459.trans w435.symm) c464
set_option maxHeartbeats 4000000 in
set_option maxRecDepth 100000 in
theorem law_c8 {p : Program} {e : Env} {s : State} {m : MethodId} {below : List Frame} {meth : Method} {c : Code} {l : Launch} {b L : Nat} {xs : Nat → Int32} {dC : Nat → ClassId} {dI : Nat → Nat → Nat} {a am : Nat → Nat} {k : Nat → ClassId} {oa j : Nat} (C0 : sk_L0 p s m meth c b L xs l dC dI k) (hj : 4 * j + 4 ≤ L) (hI : sk_LC p l e s m below meth c b dC dI a am k oa (j + 1)) {bo : sk_Ob} {t : sk_Tr} {f : sk_Fi} {wt : sk_F} {ex : sk_Ex} {lf : sk_F} {th : Int32} {fo : Nat → Int64} {H : Heap} {locs : List Loc} {ls : Array Slot} (hOK : sk_OK j (bo, t, f)) (hR : sk_RM (bo, t, f) ex) (hP : va_P (dC, dI) vwCl (sk_LW a am k oa (bo, t, f) wt ex lf th fo) H) (hD : va_D (sk_LA s) (sk_LW a am k oa (bo, t, f) wt ex lf th fo)) (hS : va_S (sk_LA s) s.heap H locs) (hl : lv_has ls 7 [(0, .ref b), (1, .ref (a 0)), (2, .ref (am 0)), (3, .ref oa), (4, .int (nI (4 * j)))]) : W p l e room_1 s m #[Value.ref b] below meth c H locs (100 + j) (20000 + 6 * j) (lw_Z below #[Value.ref b] s) (F0 m 489 ls []) := by
  obtain ⟨⟨hx, hb, hr, hml, hown, hts0, hX, hbl, hlocks, hgv⟩, hL, htr, h0, hK, hN⟩ := id C0
  have hts : ∀ w ∈ sk_W, w.before #[Value.ref b] s = true := fun w h => hts0 w (List.mem_filter.mp h).1
  have hown : s.vm.findClass RL = some m.cls := hown
  have hbA : ¬ sk_LA s b := Nat.not_le.mpr hbl
  have hj1 : j + 1 ≤ 512 := by omega
  have hin1 : vp_in (nI (4 * j) + nI 1) L := by rw [nI_add]; exact vp_in_nI (by omega) (by omega)
  have hin2 : vp_in (nI (4 * j) + nI 2) L := by rw [nI_add]; exact vp_in_nI (by omega) (by omega)
  have hin3 : vp_in (nI (4 * j) + nI 3) L := by rw [nI_add]; exact vp_in_nI (by omega) (by omega)
  have hP : va_P (dC, dI) vwCl ([sk_wO oa k fo] ++ (sk_wX a k (bo, t, f) wt ++ sk_wM am k (bo, t, f) ex lf th)) H := hP
  have hD : va_D (sk_LA s) ([sk_wO oa k fo] ++ (sk_wX a k (bo, t, f) wt ++ sk_wM am k (bo, t, f) ex lf th)) := hD
  refine lv_aload_n hx hb dL_law_489 rfl (lv_at hl 1 rfl) ?_
  refine lv_aload_n hx hb dL_law_490 rfl (lv_at hl 0 rfl) ?_
  refine lv_iload hx hb dL_law_491 (lv_at hl 4 rfl) ?_
  refine lv_iconst (v := nI 1) hx hb dL_law_493 (by decide) ?_
  refine lv_iadd hx hb dL_law_494 ?_
  refine va_sld hx hb hX hbl hbA hS hin1 dL_law_495 ?_
  refine lv_aload_n hx hb dL_law_496 rfl (lv_at hl 0 rfl) ?_
  refine lv_iload hx hb dL_law_497 (lv_at hl 4 rfl) ?_
  refine lv_iconst (v := nI 2) hx hb dL_law_499 (by decide) ?_
  refine lv_iadd hx hb dL_law_500 ?_
  refine va_sld hx hb hX hbl hbA hS hin2 dL_law_501 ?_
  have hPx : va_P (dC, dI) vwCl (sk_wX a k (bo, t, f) wt) H := sk_PL1 (sk_PR1 hP)
  refine va_calli (va_runV (As := [.int (xs (nI (4 * j) + nI 1).toNatClampNeg), .int (xs (nI (4 * j) + nI 2).toNatClampNeg)]) (rest := []) ⟨hx, hb, hml, hown, hts⟩ (kK_look l dC dI a k bo t f wt (xs (nI (4 * j) + nI 1).toNatClampNeg) (xs (nI (4 * j) + nI 2).toNatClampNeg) j hOK) (cwV 2 hts (sk_gV wmL_69 wiK_look wsK_look wnK wcK_look) rfl rfl rfl (by decide +kernel) ⟨Nat.le_of_ble_eq_true rfl, Nat.le_of_ble_eq_true rfl⟩) ⟨sk_blind _, va_recv hK hPx (ci := 3) (q0 := 0) rfl rfl, fun U hU hW => ⟨rfl, sk_at (S := (bo, t, f)) (wt := wt) hPx hK hN hU hW⟩⟩ rfl rfl hl.1 rfl (lv_room (Nat.le_of_ble_eq_true rfl)) dL_law_502 ⟨by show 100 + j + 0 ≤ 601024; omega, by show 20000 + 6 * j + 0 ≤ 7293034; omega⟩) hS (fun _ _ h => h.elim) (fun _ h => h.elim) (fun r502 u502 U9 H locs ht hvm w502 hB hz hk hS => ?_)
  have hP := hP.kept (H1 := H) (fun j q hq => hk q.1 ((hP j q hq).lt) (fun h => h))
  clear hk hB ht
  refine lv_aload_n hx hb dL_law_505 rfl (lv_at hl 2 rfl) ?_
  refine lv_aload_n hx hb dL_law_506 rfl (lv_at hl 0 rfl) ?_
  refine lv_iload hx hb dL_law_507 (lv_at hl 4 rfl) ?_
  refine lv_iconst (v := nI 1) hx hb dL_law_509 (by decide) ?_
  refine lv_iadd hx hb dL_law_510 ?_
  refine va_sld hx hb hX hbl hbA hS hin1 dL_law_511 ?_
  refine lv_aload_n hx hb dL_law_512 rfl (lv_at hl 0 rfl) ?_
  refine lv_iload hx hb dL_law_513 (lv_at hl 4 rfl) ?_
  refine lv_iconst (v := nI 2) hx hb dL_law_515 (by decide) ?_
  refine lv_iadd hx hb dL_law_516 ?_
  refine va_sld hx hb hX hbl hbA hS hin2 dL_law_517 ?_
  have hPm : va_P (dC, dI) vwCl (sk_wM am k (bo, t, f) ex lf th) H := sk_PR1 (sk_PR1 hP)
  have hDm : va_D (sk_ad (sk_wM am k (bo, t, f) ex lf th)) (sk_wM am k (bo, t, f) ex lf th) := sk_Dself (sk_DR1 (sk_DR1 hD))
  have hin : ∀ q : Nat, sk_ad (sk_wM am k (bo, t, f) ex lf th) q → sk_LA s q := sk_adA (sk_DR1 hD)
  refine va_calli (va_runV (As := [.int (xs (nI (4 * j) + nI 1).toNatClampNeg), .int (xs (nI (4 * j) + nI 2).toNatClampNeg)]) (rest := [.int r502]) ⟨hx, hb, hml, hown, hts⟩ (kM_look l dC dI am k bo t f ex lf th (sk_ad (sk_wM am k (bo, t, f) ex lf th)) (xs (nI (4 * j) + nI 1).toNatClampNeg) (xs (nI (4 * j) + nI 2).toNatClampNeg) j hOK hR) (cwV 2 hts (sk_gV wmL_72 wiM_look wsM_look wnM wcM_look) rfl rfl rfl (by decide +kernel) ⟨Nat.le_of_ble_eq_true rfl, Nat.le_of_ble_eq_true rfl⟩) ⟨sk_blindMD _, va_recv hK hPm (ci := 4) (q0 := 0) rfl rfl, fun U hU hW => ⟨rfl, sk_atM (S := (bo, t, f)) (ex := ex) (lf := lf) (th := th) hPm hK hU hW, hDm⟩⟩ rfl rfl hl.1 rfl (lv_room (Nat.le_of_ble_eq_true rfl)) dL_law_518 ⟨by show 100 + j + 0 + 0 ≤ 601024; omega, by show 20000 + 6 * j + 0 + 0 ≤ 7293034; omega⟩) hS (fun q _ h => hin q h) (fun q h => hin q h) (fun r518 u518 U9 H locs ht hvm w518 hB hz hk hS => ?_)
  obtain ⟨hP1, hD1⟩ := hB
  rw [ht] at hP1
  obtain ⟨hP, hD⟩ := sk_joinR (X := [sk_wO oa k fo] ++ sk_wX a k (bo, t, f) wt) (Y := sk_wM am k (bo, t, f) ex lf th) hP hD hP1 hD1 hk
  obtain ⟨w518, th2, hu518⟩ := w518
  subst hu518
  have hP : va_P (dC, dI) vwCl ([sk_wO oa k fo] ++ (sk_wX a k (bo, t, f) wt ++ sk_wM am k (bo, t, f) ex lf th2)) H := hP
  have hD : va_D (sk_LA s) ([sk_wO oa k fo] ++ (sk_wX a k (bo, t, f) wt ++ sk_wM am k (bo, t, f) ex lf th2)) := hD
  refine lv_icmp_eq (tgt := 625) hx hb dL_law_521 (by decide) (fun c521 => ?_) (fun c521 => ?_)
  · skip
    exact sk_tail C0 hI (by omega) (by omega) (sk_OK_mono hOK hj1) hR hP hD hS (lv_sub hl [0, 1, 2, 3, 4] rfl)
  · exact absurd (w502.trans w518.symm) c521
set_option maxHeartbeats 4000000 in
set_option maxRecDepth 100000 in
theorem law_c9 {p : Program} {e : Env} {s : State} {m : MethodId} {below : List Frame} {meth : Method} {c : Code} {l : Launch} {b L : Nat} {xs : Nat → Int32} {dC : Nat → ClassId} {dI : Nat → Nat → Nat} {a am : Nat → Nat} {k : Nat → ClassId} {oa j : Nat} (C0 : sk_L0 p s m meth c b L xs l dC dI k) (hj : 4 * j + 4 ≤ L) (hI : sk_LC p l e s m below meth c b dC dI a am k oa (j + 1)) {bo : sk_Ob} {t : sk_Tr} {f : sk_Fi} {wt : sk_F} {ex : sk_Ex} {lf : sk_F} {th : Int32} {fo : Nat → Int64} {H : Heap} {locs : List Loc} {ls : Array Slot} (hOK : sk_OK j (bo, t, f)) (hR : sk_RM (bo, t, f) ex) (hP : va_P (dC, dI) vwCl (sk_LW a am k oa (bo, t, f) wt ex lf th fo) H) (hD : va_D (sk_LA s) (sk_LW a am k oa (bo, t, f) wt ex lf th fo)) (hS : va_S (sk_LA s) s.heap H locs) (hl : lv_has ls 7 [(0, .ref b), (1, .ref (a 0)), (2, .ref (am 0)), (3, .ref oa), (4, .int (nI (4 * j)))]) : W p l e room_1 s m #[Value.ref b] below meth c H locs (100 + j) (20000 + 6 * j) (lw_Z below #[Value.ref b] s) (F0 m 526 ls []) := by
  obtain ⟨⟨hx, hb, hr, hml, hown, hts0, hX, hbl, hlocks, hgv⟩, hL, htr, h0, hK, hN⟩ := id C0
  have hts : ∀ w ∈ sk_W, w.before #[Value.ref b] s = true := fun w h => hts0 w (List.mem_filter.mp h).1
  have hown : s.vm.findClass RL = some m.cls := hown
  have hbA : ¬ sk_LA s b := Nat.not_le.mpr hbl
  have hj1 : j + 1 ≤ 512 := by omega
  have hin1 : vp_in (nI (4 * j) + nI 1) L := by rw [nI_add]; exact vp_in_nI (by omega) (by omega)
  have hin2 : vp_in (nI (4 * j) + nI 2) L := by rw [nI_add]; exact vp_in_nI (by omega) (by omega)
  have hin3 : vp_in (nI (4 * j) + nI 3) L := by rw [nI_add]; exact vp_in_nI (by omega) (by omega)
  have hP : va_P (dC, dI) vwCl ([sk_wO oa k fo] ++ (sk_wX a k (bo, t, f) wt ++ sk_wM am k (bo, t, f) ex lf th)) H := hP
  have hD : va_D (sk_LA s) ([sk_wO oa k fo] ++ (sk_wX a k (bo, t, f) wt ++ sk_wM am k (bo, t, f) ex lf th)) := hD
  refine lv_aload_n hx hb dL_law_526 rfl (lv_at hl 1 rfl) ?_
  refine lv_aload_n hx hb dL_law_527 rfl (lv_at hl 0 rfl) ?_
  refine lv_iload hx hb dL_law_528 (lv_at hl 4 rfl) ?_
  refine lv_iconst (v := nI 1) hx hb dL_law_530 (by decide) ?_
  refine lv_iadd hx hb dL_law_531 ?_
  refine va_sld hx hb hX hbl hbA hS hin1 dL_law_532 ?_
  refine lv_aload_n hx hb dL_law_533 rfl (lv_at hl 0 rfl) ?_
  refine lv_iload hx hb dL_law_534 (lv_at hl 4 rfl) ?_
  refine lv_iconst (v := nI 2) hx hb dL_law_536 (by decide) ?_
  refine lv_iadd hx hb dL_law_537 ?_
  refine va_sld hx hb hX hbl hbA hS hin2 dL_law_538 ?_
  have hPx : va_P (dC, dI) vwCl (sk_wX a k (bo, t, f) wt) H := sk_PL1 (sk_PR1 hP)
  refine va_calli (va_runV (As := [.int (xs (nI (4 * j) + nI 1).toNatClampNeg), .int (xs (nI (4 * j) + nI 2).toNatClampNeg)]) (rest := []) ⟨hx, hb, hml, hown, hts⟩ (kK_shape l dC dI a k bo t f wt (xs (nI (4 * j) + nI 1).toNatClampNeg) (xs (nI (4 * j) + nI 2).toNatClampNeg) j hOK) (cwV 2 hts (sk_gV wmL_73 wiK_shape wsK_shape wnK wcK_shape) rfl rfl rfl (by decide +kernel) ⟨Nat.le_of_ble_eq_true rfl, Nat.le_of_ble_eq_true rfl⟩) ⟨sk_blind _, va_recv hK hPx (ci := 3) (q0 := 0) rfl rfl, fun U hU hW => ⟨rfl, sk_at (S := (bo, t, f)) (wt := wt) hPx hK hN hU hW⟩⟩ rfl rfl hl.1 rfl (lv_room (Nat.le_of_ble_eq_true rfl)) dL_law_539 ⟨by show 100 + j + 0 ≤ 601024; omega, by show 20000 + 6 * j + 0 ≤ 7293034; omega⟩) hS (fun _ _ h => h.elim) (fun _ h => h.elim) (fun r539 u539 U9 H locs ht hvm w539 hB hz hk hS => ?_)
  have hP := hP.kept (H1 := H) (fun j q hq => hk q.1 ((hP j q hq).lt) (fun h => h))
  clear hk hB ht
  refine lv_aload_n hx hb dL_law_542 rfl (lv_at hl 2 rfl) ?_
  refine lv_aload_n hx hb dL_law_543 rfl (lv_at hl 0 rfl) ?_
  refine lv_iload hx hb dL_law_544 (lv_at hl 4 rfl) ?_
  refine lv_iconst (v := nI 1) hx hb dL_law_546 (by decide) ?_
  refine lv_iadd hx hb dL_law_547 ?_
  refine va_sld hx hb hX hbl hbA hS hin1 dL_law_548 ?_
  refine lv_aload_n hx hb dL_law_549 rfl (lv_at hl 0 rfl) ?_
  refine lv_iload hx hb dL_law_550 (lv_at hl 4 rfl) ?_
  refine lv_iconst (v := nI 2) hx hb dL_law_552 (by decide) ?_
  refine lv_iadd hx hb dL_law_553 ?_
  refine va_sld hx hb hX hbl hbA hS hin2 dL_law_554 ?_
  have hPm : va_P (dC, dI) vwCl (sk_wM am k (bo, t, f) ex lf th) H := sk_PR1 (sk_PR1 hP)
  have hDm : va_D (sk_ad (sk_wM am k (bo, t, f) ex lf th)) (sk_wM am k (bo, t, f) ex lf th) := sk_Dself (sk_DR1 (sk_DR1 hD))
  have hin : ∀ q : Nat, sk_ad (sk_wM am k (bo, t, f) ex lf th) q → sk_LA s q := sk_adA (sk_DR1 hD)
  refine va_calli (va_runV (As := [.int (xs (nI (4 * j) + nI 1).toNatClampNeg), .int (xs (nI (4 * j) + nI 2).toNatClampNeg)]) (rest := [.int r539]) ⟨hx, hb, hml, hown, hts⟩ (kM_shape l dC dI am k bo t f ex lf th (sk_ad (sk_wM am k (bo, t, f) ex lf th)) (xs (nI (4 * j) + nI 1).toNatClampNeg) (xs (nI (4 * j) + nI 2).toNatClampNeg) j hOK hR) (cwV 2 hts (sk_gV wmL_76 wiM_shape wsM_shape wnM wcM_shape) rfl rfl rfl (by decide +kernel) ⟨Nat.le_of_ble_eq_true rfl, Nat.le_of_ble_eq_true rfl⟩) ⟨sk_blindMD _, va_recv hK hPm (ci := 4) (q0 := 0) rfl rfl, fun U hU hW => ⟨rfl, sk_atM (S := (bo, t, f)) (ex := ex) (lf := lf) (th := th) hPm hK hU hW, hDm⟩⟩ rfl rfl hl.1 rfl (lv_room (Nat.le_of_ble_eq_true rfl)) dL_law_555 ⟨by show 100 + j + 0 + 0 ≤ 601024; omega, by show 20000 + 6 * j + 0 + 0 ≤ 7293034; omega⟩) hS (fun q _ h => hin q h) (fun q h => hin q h) (fun r555 u555 U9 H locs ht hvm w555 hB hz hk hS => ?_)
  obtain ⟨hP1, hD1⟩ := hB
  rw [ht] at hP1
  obtain ⟨hP, hD⟩ := sk_joinR (X := [sk_wO oa k fo] ++ sk_wX a k (bo, t, f) wt) (Y := sk_wM am k (bo, t, f) ex lf th) hP hD hP1 hD1 hk
  obtain ⟨w555, th2, hu555⟩ := w555
  subst hu555
  have hP : va_P (dC, dI) vwCl ([sk_wO oa k fo] ++ (sk_wX a k (bo, t, f) wt ++ sk_wM am k (bo, t, f) ex lf th2)) H := hP
  have hD : va_D (sk_LA s) ([sk_wO oa k fo] ++ (sk_wX a k (bo, t, f) wt ++ sk_wM am k (bo, t, f) ex lf th2)) := hD
  refine lv_icmp_eq (tgt := 625) hx hb dL_law_558 (by decide) (fun c558 => ?_) (fun c558 => ?_)
  · skip
    exact sk_tail C0 hI (by omega) (by omega) (sk_OK_mono hOK hj1) hR hP hD hS (lv_sub hl [0, 1, 2, 3, 4] rfl)
  · exact absurd (w539.trans w555.symm) c558
set_option maxHeartbeats 4000000 in
set_option maxRecDepth 100000 in
theorem law_c10 {p : Program} {e : Env} {s : State} {m : MethodId} {below : List Frame} {meth : Method} {c : Code} {l : Launch} {b L : Nat} {xs : Nat → Int32} {dC : Nat → ClassId} {dI : Nat → Nat → Nat} {a am : Nat → Nat} {k : Nat → ClassId} {oa j : Nat} (C0 : sk_L0 p s m meth c b L xs l dC dI k) (hj : 4 * j + 4 ≤ L) (hI : sk_LC p l e s m below meth c b dC dI a am k oa (j + 1)) {bo : sk_Ob} {t : sk_Tr} {f : sk_Fi} {wt : sk_F} {ex : sk_Ex} {lf : sk_F} {th : Int32} {fo : Nat → Int64} {H : Heap} {locs : List Loc} {ls : Array Slot} (hOK : sk_OK j (bo, t, f)) (hR : sk_RM (bo, t, f) ex) (hP : va_P (dC, dI) vwCl (sk_LW a am k oa (bo, t, f) wt ex lf th fo) H) (hD : va_D (sk_LA s) (sk_LW a am k oa (bo, t, f) wt ex lf th fo)) (hS : va_S (sk_LA s) s.heap H locs) (hl : lv_has ls 7 [(0, .ref b), (1, .ref (a 0)), (2, .ref (am 0)), (3, .ref oa), (4, .int (nI (4 * j)))]) : W p l e room_1 s m #[Value.ref b] below meth c H locs (100 + j) (20000 + 6 * j) (lw_Z below #[Value.ref b] s) (F0 m 563 ls []) := by
  obtain ⟨⟨hx, hb, hr, hml, hown, hts0, hX, hbl, hlocks, hgv⟩, hL, htr, h0, hK, hN⟩ := id C0
  have hts : ∀ w ∈ sk_W, w.before #[Value.ref b] s = true := fun w h => hts0 w (List.mem_filter.mp h).1
  have hown : s.vm.findClass RL = some m.cls := hown
  have hbA : ¬ sk_LA s b := Nat.not_le.mpr hbl
  have hj1 : j + 1 ≤ 512 := by omega
  have hin1 : vp_in (nI (4 * j) + nI 1) L := by rw [nI_add]; exact vp_in_nI (by omega) (by omega)
  have hin2 : vp_in (nI (4 * j) + nI 2) L := by rw [nI_add]; exact vp_in_nI (by omega) (by omega)
  have hin3 : vp_in (nI (4 * j) + nI 3) L := by rw [nI_add]; exact vp_in_nI (by omega) (by omega)
  have hP : va_P (dC, dI) vwCl ([sk_wO oa k fo] ++ (sk_wX a k (bo, t, f) wt ++ sk_wM am k (bo, t, f) ex lf th)) H := hP
  have hD : va_D (sk_LA s) ([sk_wO oa k fo] ++ (sk_wX a k (bo, t, f) wt ++ sk_wM am k (bo, t, f) ex lf th)) := hD
  refine lv_aload_n hx hb dL_law_563 rfl (lv_at hl 1 rfl) ?_
  refine lv_aload_n hx hb dL_law_564 rfl (lv_at hl 0 rfl) ?_
  refine lv_iload hx hb dL_law_565 (lv_at hl 4 rfl) ?_
  refine lv_iconst (v := nI 1) hx hb dL_law_567 (by decide) ?_
  refine lv_iadd hx hb dL_law_568 ?_
  refine va_sld hx hb hX hbl hbA hS hin1 dL_law_569 ?_
  refine lv_aload_n hx hb dL_law_570 rfl (lv_at hl 0 rfl) ?_
  refine lv_iload hx hb dL_law_571 (lv_at hl 4 rfl) ?_
  refine lv_iconst (v := nI 2) hx hb dL_law_573 (by decide) ?_
  refine lv_iadd hx hb dL_law_574 ?_
  refine va_sld hx hb hX hbl hbA hS hin2 dL_law_575 ?_
  have hPx : va_P (dC, dI) vwCl (sk_wX a k (bo, t, f) wt) H := sk_PL1 (sk_PR1 hP)
  refine va_calli (va_runV (As := [.int (xs (nI (4 * j) + nI 1).toNatClampNeg), .int (xs (nI (4 * j) + nI 2).toNatClampNeg)]) (rest := []) ⟨hx, hb, hml, hown, hts⟩ (kK_finding l dC dI a k bo t f wt (xs (nI (4 * j) + nI 1).toNatClampNeg) (xs (nI (4 * j) + nI 2).toNatClampNeg) j hOK) (cwV 2 hts (sk_gV wmL_77 wiK_finding wsK_finding wnK wcK_finding) rfl rfl rfl (by decide +kernel) ⟨Nat.le_of_ble_eq_true rfl, Nat.le_of_ble_eq_true rfl⟩) ⟨sk_blind _, va_recv hK hPx (ci := 3) (q0 := 0) rfl rfl, fun U hU hW => ⟨rfl, sk_at (S := (bo, t, f)) (wt := wt) hPx hK hN hU hW⟩⟩ rfl rfl hl.1 rfl (lv_room (Nat.le_of_ble_eq_true rfl)) dL_law_576 ⟨by show 100 + j + 0 ≤ 601024; omega, by show 20000 + 6 * j + 0 ≤ 7293034; omega⟩) hS (fun _ _ h => h.elim) (fun _ h => h.elim) (fun r576 u576 U9 H locs ht hvm w576 hB hz hk hS => ?_)
  have hP := hP.kept (H1 := H) (fun j q hq => hk q.1 ((hP j q hq).lt) (fun h => h))
  clear hk hB ht
  refine lv_aload_n hx hb dL_law_579 rfl (lv_at hl 2 rfl) ?_
  refine lv_aload_n hx hb dL_law_580 rfl (lv_at hl 0 rfl) ?_
  refine lv_iload hx hb dL_law_581 (lv_at hl 4 rfl) ?_
  refine lv_iconst (v := nI 1) hx hb dL_law_583 (by decide) ?_
  refine lv_iadd hx hb dL_law_584 ?_
  refine va_sld hx hb hX hbl hbA hS hin1 dL_law_585 ?_
  refine lv_aload_n hx hb dL_law_586 rfl (lv_at hl 0 rfl) ?_
  refine lv_iload hx hb dL_law_587 (lv_at hl 4 rfl) ?_
  refine lv_iconst (v := nI 2) hx hb dL_law_589 (by decide) ?_
  refine lv_iadd hx hb dL_law_590 ?_
  refine va_sld hx hb hX hbl hbA hS hin2 dL_law_591 ?_
  have hPm : va_P (dC, dI) vwCl (sk_wM am k (bo, t, f) ex lf th) H := sk_PR1 (sk_PR1 hP)
  have hDm : va_D (sk_ad (sk_wM am k (bo, t, f) ex lf th)) (sk_wM am k (bo, t, f) ex lf th) := sk_Dself (sk_DR1 (sk_DR1 hD))
  have hin : ∀ q : Nat, sk_ad (sk_wM am k (bo, t, f) ex lf th) q → sk_LA s q := sk_adA (sk_DR1 hD)
  refine va_calli (va_runV (As := [.int (xs (nI (4 * j) + nI 1).toNatClampNeg), .int (xs (nI (4 * j) + nI 2).toNatClampNeg)]) (rest := [.int r576]) ⟨hx, hb, hml, hown, hts⟩ (kM_finding l dC dI am k bo t f ex lf th (sk_ad (sk_wM am k (bo, t, f) ex lf th)) (xs (nI (4 * j) + nI 1).toNatClampNeg) (xs (nI (4 * j) + nI 2).toNatClampNeg) j hOK hR) (cwV 2 hts (sk_gV wmL_80 wiM_finding wsM_finding wnM wcM_finding) rfl rfl rfl (by decide +kernel) ⟨Nat.le_of_ble_eq_true rfl, Nat.le_of_ble_eq_true rfl⟩) ⟨sk_blindMD _, va_recv hK hPm (ci := 4) (q0 := 0) rfl rfl, fun U hU hW => ⟨rfl, sk_atM (S := (bo, t, f)) (ex := ex) (lf := lf) (th := th) hPm hK hU hW, hDm⟩⟩ rfl rfl hl.1 rfl (lv_room (Nat.le_of_ble_eq_true rfl)) dL_law_592 ⟨by show 100 + j + 0 + 0 ≤ 601024; omega, by show 20000 + 6 * j + 0 + 0 ≤ 7293034; omega⟩) hS (fun q _ h => hin q h) (fun q h => hin q h) (fun r592 u592 U9 H locs ht hvm w592 hB hz hk hS => ?_)
  obtain ⟨hP1, hD1⟩ := hB
  rw [ht] at hP1
  obtain ⟨hP, hD⟩ := sk_joinR (X := [sk_wO oa k fo] ++ sk_wX a k (bo, t, f) wt) (Y := sk_wM am k (bo, t, f) ex lf th) hP hD hP1 hD1 hk
  obtain ⟨w592, th2, hu592⟩ := w592
  subst hu592
  have hP : va_P (dC, dI) vwCl ([sk_wO oa k fo] ++ (sk_wX a k (bo, t, f) wt ++ sk_wM am k (bo, t, f) ex lf th2)) H := hP
  have hD : va_D (sk_LA s) ([sk_wO oa k fo] ++ (sk_wX a k (bo, t, f) wt ++ sk_wM am k (bo, t, f) ex lf th2)) := hD
  refine lv_icmp_eq (tgt := 625) hx hb dL_law_595 (by decide) (fun c595 => ?_) (fun c595 => ?_)
  · skip
    exact sk_tail C0 hI (by omega) (by omega) (sk_OK_mono hOK hj1) hR hP hD hS (lv_sub hl [0, 1, 2, 3, 4] rfl)
  · exact absurd (w576.trans w592.symm) c595
set_option maxHeartbeats 4000000 in
set_option maxRecDepth 100000 in
theorem law_c11 {p : Program} {e : Env} {s : State} {m : MethodId} {below : List Frame} {meth : Method} {c : Code} {l : Launch} {b L : Nat} {xs : Nat → Int32} {dC : Nat → ClassId} {dI : Nat → Nat → Nat} {a am : Nat → Nat} {k : Nat → ClassId} {oa j : Nat} (C0 : sk_L0 p s m meth c b L xs l dC dI k) (hj : 4 * j + 4 ≤ L) (hI : sk_LC p l e s m below meth c b dC dI a am k oa (j + 1)) {bo : sk_Ob} {t : sk_Tr} {f : sk_Fi} {wt : sk_F} {ex : sk_Ex} {lf : sk_F} {th : Int32} {fo : Nat → Int64} {H : Heap} {locs : List Loc} {ls : Array Slot} (hOK : sk_OK j (bo, t, f)) (hR : sk_RM (bo, t, f) ex) (hP : va_P (dC, dI) vwCl (sk_LW a am k oa (bo, t, f) wt ex lf th fo) H) (hD : va_D (sk_LA s) (sk_LW a am k oa (bo, t, f) wt ex lf th fo)) (hS : va_S (sk_LA s) s.heap H locs) (hl : lv_has ls 7 [(0, .ref b), (1, .ref (a 0)), (2, .ref (am 0)), (3, .ref oa), (4, .int (nI (4 * j)))]) : W p l e room_1 s m #[Value.ref b] below meth c H locs (100 + j) (20000 + 6 * j) (lw_Z below #[Value.ref b] s) (F0 m 600 ls []) := by
  obtain ⟨⟨hx, hb, hr, hml, hown, hts0, hX, hbl, hlocks, hgv⟩, hL, htr, h0, hK, hN⟩ := id C0
  have hts : ∀ w ∈ sk_W, w.before #[Value.ref b] s = true := fun w h => hts0 w (List.mem_filter.mp h).1
  have hown : s.vm.findClass RL = some m.cls := hown
  have hbA : ¬ sk_LA s b := Nat.not_le.mpr hbl
  have hj1 : j + 1 ≤ 512 := by omega
  have hin1 : vp_in (nI (4 * j) + nI 1) L := by rw [nI_add]; exact vp_in_nI (by omega) (by omega)
  have hin2 : vp_in (nI (4 * j) + nI 2) L := by rw [nI_add]; exact vp_in_nI (by omega) (by omega)
  have hin3 : vp_in (nI (4 * j) + nI 3) L := by rw [nI_add]; exact vp_in_nI (by omega) (by omega)
  have hP : va_P (dC, dI) vwCl ([sk_wO oa k fo] ++ (sk_wX a k (bo, t, f) wt ++ sk_wM am k (bo, t, f) ex lf th)) H := hP
  have hD : va_D (sk_LA s) ([sk_wO oa k fo] ++ (sk_wX a k (bo, t, f) wt ++ sk_wM am k (bo, t, f) ex lf th)) := hD
  refine lv_aload_n hx hb dL_law_600 rfl (lv_at hl 1 rfl) ?_
  refine lv_aload_n hx hb dL_law_601 rfl (lv_at hl 0 rfl) ?_
  refine lv_iload hx hb dL_law_602 (lv_at hl 4 rfl) ?_
  refine lv_iconst (v := nI 1) hx hb dL_law_604 (by decide) ?_
  refine lv_iadd hx hb dL_law_605 ?_
  refine va_sld hx hb hX hbl hbA hS hin1 dL_law_606 ?_
  have hPx : va_P (dC, dI) vwCl (sk_wX a k (bo, t, f) wt) H := sk_PL1 (sk_PR1 hP)
  refine va_calli (va_runV (As := [.int (xs (nI (4 * j) + nI 1).toNatClampNeg)]) (rest := []) ⟨hx, hb, hml, hown, hts⟩ (kK_count l dC dI a k bo t f wt (xs (nI (4 * j) + nI 1).toNatClampNeg) j hOK) (cwV 1 hts (sk_gV wmL_81 wiK_count wsK_count wnK wcK_count) rfl rfl rfl (by decide +kernel) ⟨Nat.le_of_ble_eq_true rfl, Nat.le_of_ble_eq_true rfl⟩) ⟨sk_blind _, va_recv hK hPx (ci := 3) (q0 := 0) rfl rfl, fun U hU hW => ⟨rfl, sk_at (S := (bo, t, f)) (wt := wt) hPx hK hN hU hW⟩⟩ rfl rfl hl.1 rfl (lv_room (Nat.le_of_ble_eq_true rfl)) dL_law_607 ⟨by show 100 + j + 0 ≤ 601024; omega, by show 20000 + 6 * j + 0 ≤ 7293034; omega⟩) hS (fun _ _ h => h.elim) (fun _ h => h.elim) (fun r607 u607 U9 H locs ht hvm w607 hB hz hk hS => ?_)
  have hP := hP.kept (H1 := H) (fun j q hq => hk q.1 ((hP j q hq).lt) (fun h => h))
  clear hk hB ht
  refine lv_aload_n hx hb dL_law_610 rfl (lv_at hl 2 rfl) ?_
  refine lv_aload_n hx hb dL_law_611 rfl (lv_at hl 0 rfl) ?_
  refine lv_iload hx hb dL_law_612 (lv_at hl 4 rfl) ?_
  refine lv_iconst (v := nI 1) hx hb dL_law_614 (by decide) ?_
  refine lv_iadd hx hb dL_law_615 ?_
  refine va_sld hx hb hX hbl hbA hS hin1 dL_law_616 ?_
  have hPm : va_P (dC, dI) vwCl (sk_wM am k (bo, t, f) ex lf th) H := sk_PR1 (sk_PR1 hP)
  have hDm : va_D (sk_ad (sk_wM am k (bo, t, f) ex lf th)) (sk_wM am k (bo, t, f) ex lf th) := sk_Dself (sk_DR1 (sk_DR1 hD))
  have hin : ∀ q : Nat, sk_ad (sk_wM am k (bo, t, f) ex lf th) q → sk_LA s q := sk_adA (sk_DR1 hD)
  refine va_calli (va_runV (As := [.int (xs (nI (4 * j) + nI 1).toNatClampNeg)]) (rest := [.int r607]) ⟨hx, hb, hml, hown, hts⟩ (kM_count l dC dI am k bo t f ex lf th (sk_ad (sk_wM am k (bo, t, f) ex lf th)) (xs (nI (4 * j) + nI 1).toNatClampNeg) j hOK hR) (cwV 1 hts (sk_gV wmL_84 wiM_count wsM_count wnM wcM_count) rfl rfl rfl (by decide +kernel) ⟨Nat.le_of_ble_eq_true rfl, Nat.le_of_ble_eq_true rfl⟩) ⟨sk_blindMD _, va_recv hK hPm (ci := 4) (q0 := 0) rfl rfl, fun U hU hW => ⟨rfl, sk_atM (S := (bo, t, f)) (ex := ex) (lf := lf) (th := th) hPm hK hU hW, hDm⟩⟩ rfl rfl hl.1 rfl (lv_room (Nat.le_of_ble_eq_true rfl)) dL_law_617 ⟨by show 100 + j + 0 + 0 ≤ 601024; omega, by show 20000 + 6 * j + 0 + 0 ≤ 7293034; omega⟩) hS (fun q _ h => hin q h) (fun q h => hin q h) (fun r617 u617 U9 H locs ht hvm w617 hB hz hk hS => ?_)
  obtain ⟨hP1, hD1⟩ := hB
  rw [ht] at hP1
  obtain ⟨hP, hD⟩ := sk_joinR (X := [sk_wO oa k fo] ++ sk_wX a k (bo, t, f) wt) (Y := sk_wM am k (bo, t, f) ex lf th) hP hD hP1 hD1 hk
  obtain ⟨w617, th2, hu617⟩ := w617
  subst hu617
  have hP : va_P (dC, dI) vwCl ([sk_wO oa k fo] ++ (sk_wX a k (bo, t, f) wt ++ sk_wM am k (bo, t, f) ex lf th2)) H := hP
  have hD : va_D (sk_LA s) ([sk_wO oa k fo] ++ (sk_wX a k (bo, t, f) wt ++ sk_wM am k (bo, t, f) ex lf th2)) := hD
  refine lv_icmp_eq (tgt := 625) hx hb dL_law_620 (by decide) (fun c620 => ?_) (fun c620 => ?_)
  · skip
    exact sk_tail C0 hI (by omega) (by omega) (sk_OK_mono hOK hj1) hR hP hD hS (lv_sub hl [0, 1, 2, 3, 4] rfl)
  · exact absurd (w607.trans w617.symm) c620
