theorem sk_cst {X : String} {s0 U : State} {args : Array Value} (h0 : ∀ w ∈ sk_tb X, w.before #[] s0 = true) (h : sk_TW s0 U) : (Cond.castable X X).before args U = true := sk_tbw h0 h _ (by simp [sk_tb])
theorem sk_cIA {s0 U : State} {args : Array Value} (h0 : sk_TW0 s0) (h : sk_TW s0 U) : (Cond.castable xIA xIA).before args U = true := sk_cst (fun w q => h0.1 w (List.mem_append_left _ q)) h
theorem sk_cIS {s0 U : State} {args : Array Value} (h0 : sk_TW0 s0) (h : sk_TW s0 U) : (Cond.castable xIS xIS).before args U = true := sk_cst (fun w q => h0.1 w (List.mem_append_right _ (List.mem_append_left _ q))) h
theorem sk_cIO {s0 U : State} {args : Array Value} (h0 : sk_TW0 s0) (h : sk_TW s0 U) : (Cond.castable xIO xIO).before args U = true := sk_cst (fun w q => h0.1 w (List.mem_append_right _ (List.mem_append_right _ q))) h
abbrev wzL_object : List Cond := .codeWith yL_object cL_object 4 (some .int) [(0, 9, 12, 13), (0, 9, 15, 15)] :: sk_W
abbrev rzL_object : Room := { frames := 7, cells := 1, slots := 6, locals := 120 }
set_option maxHeartbeats 4000000 in
set_option maxRecDepth 100000 in
theorem kL_object (l : Launch) (dC : Nat → ClassId) (dI : Nat → Nat → Nat) (a : Nat → Nat) (k : Nat → ClassId) (b : sk_Ob) (t : sk_Tr) (f : sk_Fi) (wt : sk_F) (A : Nat → Prop) (s0 : State) (htr : l.stackTraces = false) (h0 : sk_TW0 s0) (oa : Nat) (fo : Nat → Int64) (x : Int32) (K : Nat) (hOK : sk_OK K (b, t, f)) : Met l yL_object wzL_object rzL_object (va_Pc [.ref (a 0), .int x, .ref oa] (sk_PL s0 dC dI a k oa fo (b, t, f) wt A)) (va_Qi (fun r (u : (Nat → Int64) × sk_S × sk_F) => r = nI (sk_object (b, t, f) x).1 ∧ u.2.1 = (sk_object (b, t, f) x).2.2 ∧ ((sk_object (b, t, f) x).1 = 0 → u.1 0 = (sk_object (b, t, f) x).2.1.toInt64)) (fun u U => va_P (dC, dI) vwCl ([sk_wO oa k u.1] ++ sk_wX a k u.2.1 u.2.2) U.heap ∧ va_D A ([sk_wO oa k u.1] ++ sk_wX a k u.2.1 u.2.2)) A) 1 6 A := by
  refine sk_ofWH (cc := cL_object) (maxL := 4) (ret := some .int) (by decide) rfl ?_
  intro p e s m args below meth c s₁ B hml htab hv
  obtain ⟨rfl, hP, hK, hN, hD, hTW⟩ := hv
  have hx := B.exec
  have hb := B.bytes
  have hr := B.returns
  have hts : ∀ w ∈ sk_W, w.before ([.ref (a 0), .int x, .ref oa] : List Value).toArray s = true := fun w h => atoms_spec (ws := wzL_object) B.pre w (List.mem_cons_of_mem _ h)
  have hown : s.vm.findClass RL = some m.cls := findClass_of_methodNamed B.named
  have hlocks := B.notSynchronized
  have hS : va_S A s.heap s.heap [] := va_S.rf
  have hl := lv_entry ([.ref (a 0), .int x, .ref oa]) (n := 4) (Nat.le_of_ble_eq_true rfl)
  rw [lg_entry_eq]
  generalize (lg_sl ([.ref (a 0), .int x, .ref oa]) ++ List.replicate (4 - (lg_sl ([.ref (a 0), .int x, .ref oa])).length) Slot.unset).toArray = ls at hl ⊢
  have hl : lv_has ls 4 [(0, .ref (a 0)), (1, .int x), (2, .ref oa)] := hl
  obtain ⟨x1, x2, htl, t1, t2⟩ := sk_tab2 htab
  simp only [Prod.mk.injEq] at t1 t2
  obtain ⟨sa1, se1, sp1, sc1⟩ := t1
  obtain ⟨sa2, se2, sp2, sc2⟩ := t2
  have hPx := sk_PR1 hP
  have hDx := sk_Dself (sk_DR1 hD)
  refine lv_aload_n hx hb dL_object_0 rfl (lv_at hl 2 rfl) ?_
  refine lv_iconst (v := nI 0) hx hb dL_object_1 (by decide) ?_
  refine lv_aload_n hx hb dL_object_2 rfl (lv_at hl 0 rfl) ?_
  refine lv_iload_n hx hb dL_object_3 rfl (lv_at hl 1 rfl) ?_
  rcases sk_object_or (b, t, f) x with hco | ⟨hco, hst⟩ | ⟨hco, hst⟩
  · refine W.widen (k := 1) (n := 6) (by decide) (by decide) ?_
    refine va_calli (va_runV (As := [.int x]) (rest := [.int (nI 0), .ref oa]) ⟨hx, hb, hml, hown, hts⟩ (kK_object l dC dI a k b t f wt (sk_ad (sk_wX a k (b, t, f) wt)) x K hOK hco) (cwV 1 hts (sk_gV wmL_7 wiK_object wsK_object wnK wcK_object) rfl rfl rfl (by decide +kernel) ⟨Nat.le_of_ble_eq_true rfl, Nat.le_of_ble_eq_true rfl⟩) ⟨sk_blindD _, va_recv hK hPx (ci := 3) (q0 := 0) rfl rfl, fun U hU hW => ⟨rfl, sk_at (S := (b, t, f)) (wt := wt) hPx hK hN hU hW, hDx⟩⟩ rfl rfl hl.1 rfl (lv_room (Nat.le_of_ble_eq_true rfl)) dL_object_4 ⟨Nat.le_of_ble_eq_true rfl, Nat.le_of_ble_eq_true rfl⟩) hS (fun q _ h => sk_adA hD q h) (fun q h => sk_adA hD q h) (fun r4 u4 U9 H locs ht hvm w4 hB hz hk hS => ?_)
    obtain ⟨hP1, hD1⟩ := hB
    rw [ht] at hP1
    obtain ⟨hP, hD⟩ := sk_joinR hP hD hP1 hD1 hk
    obtain ⟨hr4, wt2, hu4⟩ := w4
    refine lv_i2l hx hb dL_object_7 rfl ?_
    refine va_last hx hb hK hP hD hS 0 2 rfl rfl (vp_in_nI (show 0 < 1 by decide) (by decide)) dL_object_8 (fun H locs hP hD hS => ?_)
    refine lv_goto (tgt := 18) hx hb dL_object_9 (by decide) ?_
    refine lv_iconst (v := nI 0) hx hb dL_object_18 (by decide) ?_
    have hz9 : vp_updL fo (nI 0).toNatClampNeg r4.toInt64 0 = r4.toInt64 := by rw [nI_clamp (by decide)]; exact if_pos rfl
    exact W.iret (v := nI 0) hx hb hr (fun U9 ht hW => ⟨⟨nI 0, (vp_updL fo (nI 0).toNatClampNeg r4.toInt64, u4.1, u4.2), rfl, ⟨by rw [hco], by rw [hu4], fun _ => hz9.trans (by rw [hr4])⟩, sk_endw ht hP hD⟩, hS.F ht⟩) hS.2.2 dL_object_19
  · refine sk_callC (E := xIA) (nm := xIA) (As := [.int x]) (rest := [.int (nI 0), .ref oa]) ⟨hx, hb, hml, hown, hts⟩ (kK_objectT1 l dC dI a k b t f wt s0 htr h0 x K hOK hco) (cwV 1 hts (sk_gV wmL_7 wiK_object wsK_object wnK wcK_object) rfl rfl rfl (by decide +kernel) ⟨Nat.le_of_ble_eq_true rfl, Nat.le_of_ble_eq_true rfl⟩) ⟨sk_blindT _, va_recv hK hPx (ci := 3) (q0 := 0) rfl rfl, fun U hU hW => ⟨rfl, sk_at (S := (b, t, f)) (wt := wt) hPx hK hN hU hW, sk_TW_at hTW.1 hTW.2 hU hW⟩⟩ rfl hl.1 rfl (Nat.le_of_ble_eq_true rfl) dL_object_4 (Nat.le_of_ble_eq_true rfl) (Nat.le_of_ble_eq_true rfl) [] x1 [x2] htl (fun z hz => nomatch hz) (by unfold covers; rw [sa1, se1]; decide) (by rw [sc1]; decide) (by rw [sc1]; exact hts _ wkL_13) (sk_cIA h0 hTW) (fun q H hz1 hk1 => ?_)
    rw [sp1]
    have hP := hP.kept (H1 := H) (fun j q hq => hk1 q.1 ((hP j q hq).lt))
    have hS : va_S A s.heap H [] := ⟨hz1, fun q h1 _ => hk1 q h1, fun _ h => nomatch h⟩
    refine lv_astore_n (i := 3) hx hb dL_object_12 rfl hl (by decide) rfl (fun ls hl => ?_)
    refine lv_iconst (v := nI 1) hx hb dL_object_13 (by decide) ?_
    exact W.iret (v := nI 1) hx hb hr (fun U9 ht hW => ⟨⟨nI 1, (fo, (b, t, f), wt), rfl, ⟨by rw [hco], hst.symm, fun q => absurd (hco.symm.trans q) (by decide)⟩, sk_endw ht hP hD⟩, hS.F ht⟩) hS.2.2 dL_object_14
  · refine sk_callC (E := xIS) (nm := xIS) (As := [.int x]) (rest := [.int (nI 0), .ref oa]) ⟨hx, hb, hml, hown, hts⟩ (kK_objectT2 l dC dI a k b t f wt s0 htr h0 x K hOK hco) (cwV 1 hts (sk_gV wmL_7 wiK_object wsK_object wnK wcK_object) rfl rfl rfl (by decide +kernel) ⟨Nat.le_of_ble_eq_true rfl, Nat.le_of_ble_eq_true rfl⟩) ⟨sk_blindT _, va_recv hK hPx (ci := 3) (q0 := 0) rfl rfl, fun U hU hW => ⟨rfl, sk_at (S := (b, t, f)) (wt := wt) hPx hK hN hU hW, sk_TW_at hTW.1 hTW.2 hU hW⟩⟩ rfl hl.1 rfl (Nat.le_of_ble_eq_true rfl) dL_object_4 (Nat.le_of_ble_eq_true rfl) (Nat.le_of_ble_eq_true rfl) [x1] x2 [] htl (fun z hz => by simp only [List.mem_cons, List.not_mem_nil, or_false] at hz; subst hz; exact ⟨by rw [sc1]; decide, xIA, by rw [sc1]; exact hts _ wkL_13, va_Nc.moved hTW.1.alike h0.2.2.1⟩) (by unfold covers; rw [sa2, se2]; decide) (by rw [sc2]; decide) (by rw [sc2]; exact hts _ wkL_15) (sk_cIS h0 hTW) (fun q H hz1 hk1 => ?_)
    rw [sp2]
    have hP := hP.kept (H1 := H) (fun j q hq => hk1 q.1 ((hP j q hq).lt))
    have hS : va_S A s.heap H [] := ⟨hz1, fun q h1 _ => hk1 q h1, fun _ h => nomatch h⟩
    refine lv_astore_n (i := 3) hx hb dL_object_15 rfl hl (by decide) rfl (fun ls hl => ?_)
    refine lv_iconst (v := nI 2) hx hb dL_object_16 (by decide) ?_
    exact W.iret (v := nI 2) hx hb hr (fun U9 ht hW => ⟨⟨nI 2, (fo, (b, t, f), wt), rfl, ⟨by rw [hco], hst.symm, fun q => absurd (hco.symm.trans q) (by decide)⟩, sk_endw ht hP hD⟩, hS.F ht⟩) hS.2.2 dL_object_17
abbrev wzL_read : List Cond := .codeWith yL_read cL_read 5 (some .int) [(0, 10, 13, 13), (0, 10, 17, 21)] :: sk_W
abbrev rzL_read : Room := { frames := 7, cells := 1, slots := 6, locals := 120 }
set_option maxHeartbeats 4000000 in
set_option maxRecDepth 100000 in
theorem kL_read (l : Launch) (dC : Nat → ClassId) (dI : Nat → Nat → Nat) (a : Nat → Nat) (k : Nat → ClassId) (b : sk_Ob) (t : sk_Tr) (f : sk_Fi) (wt : sk_F) (A : Nat → Prop) (s0 : State) (htr : l.stackTraces = false) (h0 : sk_TW0 s0) (oa : Nat) (fo : Nat → Int64) (x y : Int32) (K : Nat) (hOK : sk_OK K (b, t, f)) : Met l yL_read wzL_read rzL_read (va_Pc [.ref (a 0), .int x, .int y, .ref oa] (sk_PL s0 dC dI a k oa fo (b, t, f) wt A)) (va_Qi (fun r (u : (Nat → Int64) × sk_S × sk_F) => r = nI (sk_read (b, t, f) x y).1 ∧ u.2.1 = (b, t, f) ∧ ((sk_read (b, t, f) x y).1 = 0 → u.1 0 = (sk_read (b, t, f) x y).2.toInt64)) (fun u U => va_P (dC, dI) vwCl ([sk_wO oa k u.1] ++ sk_wX a k u.2.1 u.2.2) U.heap ∧ va_D A ([sk_wO oa k u.1] ++ sk_wX a k u.2.1 u.2.2)) A) 1 6 A := by
  refine sk_ofWH (cc := cL_read) (maxL := 5) (ret := some .int) (by decide) rfl ?_
  intro p e s m args below meth c s₁ B hml htab hv
  obtain ⟨rfl, hP, hK, hN, hD, hTW⟩ := hv
  have hx := B.exec
  have hb := B.bytes
  have hr := B.returns
  have hts : ∀ w ∈ sk_W, w.before ([.ref (a 0), .int x, .int y, .ref oa] : List Value).toArray s = true := fun w h => atoms_spec (ws := wzL_read) B.pre w (List.mem_cons_of_mem _ h)
  have hown : s.vm.findClass RL = some m.cls := findClass_of_methodNamed B.named
  have hlocks := B.notSynchronized
  have hS : va_S A s.heap s.heap [] := va_S.rf
  have hl := lv_entry ([.ref (a 0), .int x, .int y, .ref oa]) (n := 5) (Nat.le_of_ble_eq_true rfl)
  rw [lg_entry_eq]
  generalize (lg_sl ([.ref (a 0), .int x, .int y, .ref oa]) ++ List.replicate (5 - (lg_sl ([.ref (a 0), .int x, .int y, .ref oa])).length) Slot.unset).toArray = ls at hl ⊢
  have hl : lv_has ls 5 [(0, .ref (a 0)), (1, .int x), (2, .int y), (3, .ref oa)] := hl
  obtain ⟨x1, x2, htl, t1, t2⟩ := sk_tab2 htab
  simp only [Prod.mk.injEq] at t1 t2
  obtain ⟨sa1, se1, sp1, sc1⟩ := t1
  obtain ⟨sa2, se2, sp2, sc2⟩ := t2
  have hPx := sk_PR1 hP
  have hDx := sk_Dself (sk_DR1 hD)
  refine lv_aload_n hx hb dL_read_0 rfl (lv_at hl 3 rfl) ?_
  refine lv_iconst (v := nI 0) hx hb dL_read_1 (by decide) ?_
  refine lv_aload_n hx hb dL_read_2 rfl (lv_at hl 0 rfl) ?_
  refine lv_iload_n hx hb dL_read_3 rfl (lv_at hl 1 rfl) ?_
  refine lv_iload_n hx hb dL_read_4 rfl (lv_at hl 2 rfl) ?_
  rcases sk_read_or (b, t, f) x y with hco | hco | hco
  · refine W.widen (k := 1) (n := 6) (by decide) (by decide) ?_
    refine va_calli (va_runV (As := [.int x, .int y]) (rest := [.int (nI 0), .ref oa]) ⟨hx, hb, hml, hown, hts⟩ (kK_read l dC dI a k b t f wt x y K hOK hco) (cwV 2 hts (sk_gV wmL_17 wiK_read wsK_read wnK wcK_read) rfl rfl rfl (by decide +kernel) ⟨Nat.le_of_ble_eq_true rfl, Nat.le_of_ble_eq_true rfl⟩) ⟨sk_blind _, va_recv hK hPx (ci := 3) (q0 := 0) rfl rfl, fun U hU hW => ⟨rfl, sk_at (S := (b, t, f)) (wt := wt) hPx hK hN hU hW⟩⟩ rfl rfl hl.1 rfl (lv_room (Nat.le_of_ble_eq_true rfl)) dL_read_5 ⟨Nat.le_of_ble_eq_true rfl, Nat.le_of_ble_eq_true rfl⟩) hS (fun _ _ h => h.elim) (fun _ h => h.elim) (fun r4 u4 U9 H locs ht hvm w4 hB hz hk hS => ?_)
    have hP := hP.kept (H1 := H) (fun j q hq => hk q.1 ((hP j q hq).lt) (fun h => h))
    refine lv_i2l hx hb dL_read_8 rfl ?_
    refine va_last hx hb hK hP hD hS 0 2 rfl rfl (vp_in_nI (show 0 < 1 by decide) (by decide)) dL_read_9 (fun H locs hP hD hS => ?_)
    refine lv_goto (tgt := 21) hx hb dL_read_10 (by decide) ?_
    refine lv_iconst (v := nI 0) hx hb dL_read_21 (by decide) ?_
    have hz9 : vp_updL fo (nI 0).toNatClampNeg r4.toInt64 0 = r4.toInt64 := by rw [nI_clamp (by decide)]; exact if_pos rfl
    exact W.iret (v := nI 0) hx hb hr (fun U9 ht hW => ⟨⟨nI 0, (vp_updL fo (nI 0).toNatClampNeg r4.toInt64, (b, t, f), wt), rfl, ⟨by rw [hco], rfl, fun _ => hz9.trans (by rw [w4])⟩, sk_endw ht hP hD⟩, hS.F ht⟩) hS.2.2 dL_read_22
  · refine sk_callC (E := xIA) (nm := xIA) (As := [.int x, .int y]) (rest := [.int (nI 0), .ref oa]) ⟨hx, hb, hml, hown, hts⟩ (kK_readT1 l dC dI a k b t f wt s0 htr h0 x y K hOK hco) (cwV 2 hts (sk_gV wmL_17 wiK_read wsK_read wnK wcK_read) rfl rfl rfl (by decide +kernel) ⟨Nat.le_of_ble_eq_true rfl, Nat.le_of_ble_eq_true rfl⟩) ⟨sk_blindT _, va_recv hK hPx (ci := 3) (q0 := 0) rfl rfl, fun U hU hW => ⟨rfl, sk_at (S := (b, t, f)) (wt := wt) hPx hK hN hU hW, sk_TW_at hTW.1 hTW.2 hU hW⟩⟩ rfl hl.1 rfl (Nat.le_of_ble_eq_true rfl) dL_read_5 (Nat.le_of_ble_eq_true rfl) (Nat.le_of_ble_eq_true rfl) [] x1 [x2] htl (fun z hz => nomatch hz) (by unfold covers; rw [sa1, se1]; decide) (by rw [sc1]; decide) (by rw [sc1]; exact hts _ wkL_13) (sk_cIA h0 hTW) (fun q H hz1 hk1 => ?_)
    rw [sp1]
    have hP := hP.kept (H1 := H) (fun j q hq => hk1 q.1 ((hP j q hq).lt))
    have hS : va_S A s.heap H [] := ⟨hz1, fun q h1 _ => hk1 q h1, fun _ h => nomatch h⟩
    refine lv_astore (i := 4) hx hb dL_read_13 hl (by decide) rfl (fun ls hl => ?_)
    refine lv_iconst (v := nI 1) hx hb dL_read_15 (by decide) ?_
    exact W.iret (v := nI 1) hx hb hr (fun U9 ht hW => ⟨⟨nI 1, (fo, (b, t, f), wt), rfl, ⟨by rw [hco], rfl, fun q => absurd (hco.symm.trans q) (by decide)⟩, sk_endw ht hP hD⟩, hS.F ht⟩) hS.2.2 dL_read_16
  · refine sk_callC (E := xIO) (nm := xIO) (As := [.int x, .int y]) (rest := [.int (nI 0), .ref oa]) ⟨hx, hb, hml, hown, hts⟩ (kK_readT2 l dC dI a k b t f wt s0 htr h0 x y K hOK hco) (cwV 2 hts (sk_gV wmL_17 wiK_read wsK_read wnK wcK_read) rfl rfl rfl (by decide +kernel) ⟨Nat.le_of_ble_eq_true rfl, Nat.le_of_ble_eq_true rfl⟩) ⟨sk_blindT _, va_recv hK hPx (ci := 3) (q0 := 0) rfl rfl, fun U hU hW => ⟨rfl, sk_at (S := (b, t, f)) (wt := wt) hPx hK hN hU hW, sk_TW_at hTW.1 hTW.2 hU hW⟩⟩ rfl hl.1 rfl (Nat.le_of_ble_eq_true rfl) dL_read_5 (Nat.le_of_ble_eq_true rfl) (Nat.le_of_ble_eq_true rfl) [x1] x2 [] htl (fun z hz => by simp only [List.mem_cons, List.not_mem_nil, or_false] at hz; subst hz; exact ⟨by rw [sc1]; decide, xIA, by rw [sc1]; exact hts _ wkL_13, va_Nc.moved hTW.1.alike h0.2.2.2.1⟩) (by unfold covers; rw [sa2, se2]; decide) (by rw [sc2]; decide) (by rw [sc2]; exact hts _ wkL_21) (sk_cIO h0 hTW) (fun q H hz1 hk1 => ?_)
    rw [sp2]
    have hP := hP.kept (H1 := H) (fun j q hq => hk1 q.1 ((hP j q hq).lt))
    have hS : va_S A s.heap H [] := ⟨hz1, fun q h1 _ => hk1 q h1, fun _ h => nomatch h⟩
    refine lv_astore (i := 4) hx hb dL_read_17 hl (by decide) rfl (fun ls hl => ?_)
    refine lv_iconst (v := nI 2) hx hb dL_read_19 (by decide) ?_
    exact W.iret (v := nI 2) hx hb hr (fun U9 ht hW => ⟨⟨nI 2, (fo, (b, t, f), wt), rfl, ⟨by rw [hco], rfl, fun q => absurd (hco.symm.trans q) (by decide)⟩, sk_endw ht hP hD⟩, hS.F ht⟩) hS.2.2 dL_read_20
abbrev wzL_get : List Cond := .codeWith yL_get cL_get 5 (some .int) [(0, 10, 13, 13), (0, 10, 17, 15), (0, 10, 21, 21)] :: sk_W
abbrev rzL_get : Room := { frames := 7, cells := 1, slots := 6, locals := 120 }
set_option maxHeartbeats 4000000 in
set_option maxRecDepth 100000 in
theorem kL_get (l : Launch) (dC : Nat → ClassId) (dI : Nat → Nat → Nat) (a : Nat → Nat) (k : Nat → ClassId) (b : sk_Ob) (t : sk_Tr) (f : sk_Fi) (wt : sk_F) (A : Nat → Prop) (s0 : State) (htr : l.stackTraces = false) (h0 : sk_TW0 s0) (oa : Nat) (fo : Nat → Int64) (x y : Int32) (K : Nat) (hOK : sk_OK K (b, t, f)) : Met l yL_get wzL_get rzL_get (va_Pc [.ref (a 0), .int x, .int y, .ref oa] (sk_PL s0 dC dI a k oa fo (b, t, f) wt A)) (va_Qi (fun r (u : (Nat → Int64) × sk_S × sk_F) => r = nI (sk_get (b, t, f) x y).1 ∧ u.2.1 = (b, t, f) ∧ ((sk_get (b, t, f) x y).1 = 0 → u.1 0 = (sk_get (b, t, f) x y).2.toInt64)) (fun u U => va_P (dC, dI) vwCl ([sk_wO oa k u.1] ++ sk_wX a k u.2.1 u.2.2) U.heap ∧ va_D A ([sk_wO oa k u.1] ++ sk_wX a k u.2.1 u.2.2)) A) 1 6 A := by
  refine sk_ofWH (cc := cL_get) (maxL := 5) (ret := some .int) (by decide) rfl ?_
  intro p e s m args below meth c s₁ B hml htab hv
  obtain ⟨rfl, hP, hK, hN, hD, hTW⟩ := hv
  have hx := B.exec
  have hb := B.bytes
  have hr := B.returns
  have hts : ∀ w ∈ sk_W, w.before ([.ref (a 0), .int x, .int y, .ref oa] : List Value).toArray s = true := fun w h => atoms_spec (ws := wzL_get) B.pre w (List.mem_cons_of_mem _ h)
  have hown : s.vm.findClass RL = some m.cls := findClass_of_methodNamed B.named
  have hlocks := B.notSynchronized
  have hS : va_S A s.heap s.heap [] := va_S.rf
  have hl := lv_entry ([.ref (a 0), .int x, .int y, .ref oa]) (n := 5) (Nat.le_of_ble_eq_true rfl)
  rw [lg_entry_eq]
  generalize (lg_sl ([.ref (a 0), .int x, .int y, .ref oa]) ++ List.replicate (5 - (lg_sl ([.ref (a 0), .int x, .int y, .ref oa])).length) Slot.unset).toArray = ls at hl ⊢
  have hl : lv_has ls 5 [(0, .ref (a 0)), (1, .int x), (2, .int y), (3, .ref oa)] := hl
  obtain ⟨x1, x2, x3, htl, t1, t2, t3⟩ := sk_tab3 htab
  simp only [Prod.mk.injEq] at t1 t2 t3
  obtain ⟨sa1, se1, sp1, sc1⟩ := t1
  obtain ⟨sa2, se2, sp2, sc2⟩ := t2
  obtain ⟨sa3, se3, sp3, sc3⟩ := t3
  have hPx := sk_PR1 hP
  have hDx := sk_Dself (sk_DR1 hD)
  refine lv_aload_n hx hb dL_get_0 rfl (lv_at hl 3 rfl) ?_
  refine lv_iconst (v := nI 0) hx hb dL_get_1 (by decide) ?_
  refine lv_aload_n hx hb dL_get_2 rfl (lv_at hl 0 rfl) ?_
  refine lv_iload_n hx hb dL_get_3 rfl (lv_at hl 1 rfl) ?_
  refine lv_iload_n hx hb dL_get_4 rfl (lv_at hl 2 rfl) ?_
  rcases sk_get_or (b, t, f) x y with hco | hco | hco | hco
  · refine W.widen (k := 1) (n := 6) (by decide) (by decide) ?_
    refine va_calli (va_runV (As := [.int x, .int y]) (rest := [.int (nI 0), .ref oa]) ⟨hx, hb, hml, hown, hts⟩ (kK_get l dC dI a k b t f wt x y K hOK hco) (cwV 2 hts (sk_gV wmL_23 wiK_get wsK_get wnK wcK_get) rfl rfl rfl (by decide +kernel) ⟨Nat.le_of_ble_eq_true rfl, Nat.le_of_ble_eq_true rfl⟩) ⟨sk_blind _, va_recv hK hPx (ci := 3) (q0 := 0) rfl rfl, fun U hU hW => ⟨rfl, sk_at (S := (b, t, f)) (wt := wt) hPx hK hN hU hW⟩⟩ rfl rfl hl.1 rfl (lv_room (Nat.le_of_ble_eq_true rfl)) dL_get_5 ⟨Nat.le_of_ble_eq_true rfl, Nat.le_of_ble_eq_true rfl⟩) hS (fun _ _ h => h.elim) (fun _ h => h.elim) (fun r4 u4 U9 H locs ht hvm w4 hB hz hk hS => ?_)
    have hP := hP.kept (H1 := H) (fun j q hq => hk q.1 ((hP j q hq).lt) (fun h => h))
    refine lv_i2l hx hb dL_get_8 rfl ?_
    refine va_last hx hb hK hP hD hS 0 2 rfl rfl (vp_in_nI (show 0 < 1 by decide) (by decide)) dL_get_9 (fun H locs hP hD hS => ?_)
    refine lv_goto (tgt := 25) hx hb dL_get_10 (by decide) ?_
    refine lv_iconst (v := nI 0) hx hb dL_get_25 (by decide) ?_
    have hz9 : vp_updL fo (nI 0).toNatClampNeg r4.toInt64 0 = r4.toInt64 := by rw [nI_clamp (by decide)]; exact if_pos rfl
    exact W.iret (v := nI 0) hx hb hr (fun U9 ht hW => ⟨⟨nI 0, (vp_updL fo (nI 0).toNatClampNeg r4.toInt64, (b, t, f), wt), rfl, ⟨by rw [hco], rfl, fun _ => hz9.trans (by rw [w4])⟩, sk_endw ht hP hD⟩, hS.F ht⟩) hS.2.2 dL_get_26
  · refine sk_callC (E := xIA) (nm := xIA) (As := [.int x, .int y]) (rest := [.int (nI 0), .ref oa]) ⟨hx, hb, hml, hown, hts⟩ (kK_getT1 l dC dI a k b t f wt s0 htr h0 x y K hOK hco) (cwV 2 hts (sk_gV wmL_23 wiK_get wsK_get wnK wcK_get) rfl rfl rfl (by decide +kernel) ⟨Nat.le_of_ble_eq_true rfl, Nat.le_of_ble_eq_true rfl⟩) ⟨sk_blindT _, va_recv hK hPx (ci := 3) (q0 := 0) rfl rfl, fun U hU hW => ⟨rfl, sk_at (S := (b, t, f)) (wt := wt) hPx hK hN hU hW, sk_TW_at hTW.1 hTW.2 hU hW⟩⟩ rfl hl.1 rfl (Nat.le_of_ble_eq_true rfl) dL_get_5 (Nat.le_of_ble_eq_true rfl) (Nat.le_of_ble_eq_true rfl) [] x1 [x2, x3] htl (fun z hz => nomatch hz) (by unfold covers; rw [sa1, se1]; decide) (by rw [sc1]; decide) (by rw [sc1]; exact hts _ wkL_13) (sk_cIA h0 hTW) (fun q H hz1 hk1 => ?_)
    rw [sp1]
    have hP := hP.kept (H1 := H) (fun j q hq => hk1 q.1 ((hP j q hq).lt))
    have hS : va_S A s.heap H [] := ⟨hz1, fun q h1 _ => hk1 q h1, fun _ h => nomatch h⟩
    refine lv_astore (i := 4) hx hb dL_get_13 hl (by decide) rfl (fun ls hl => ?_)
    refine lv_iconst (v := nI 1) hx hb dL_get_15 (by decide) ?_
    exact W.iret (v := nI 1) hx hb hr (fun U9 ht hW => ⟨⟨nI 1, (fo, (b, t, f), wt), rfl, ⟨by rw [hco], rfl, fun q => absurd (hco.symm.trans q) (by decide)⟩, sk_endw ht hP hD⟩, hS.F ht⟩) hS.2.2 dL_get_16
  · refine sk_callC (E := xIS) (nm := xIS) (As := [.int x, .int y]) (rest := [.int (nI 0), .ref oa]) ⟨hx, hb, hml, hown, hts⟩ (kK_getT2 l dC dI a k b t f wt s0 htr h0 x y K hOK hco) (cwV 2 hts (sk_gV wmL_23 wiK_get wsK_get wnK wcK_get) rfl rfl rfl (by decide +kernel) ⟨Nat.le_of_ble_eq_true rfl, Nat.le_of_ble_eq_true rfl⟩) ⟨sk_blindT _, va_recv hK hPx (ci := 3) (q0 := 0) rfl rfl, fun U hU hW => ⟨rfl, sk_at (S := (b, t, f)) (wt := wt) hPx hK hN hU hW, sk_TW_at hTW.1 hTW.2 hU hW⟩⟩ rfl hl.1 rfl (Nat.le_of_ble_eq_true rfl) dL_get_5 (Nat.le_of_ble_eq_true rfl) (Nat.le_of_ble_eq_true rfl) [x1] x2 [x3] htl (fun z hz => by simp only [List.mem_cons, List.not_mem_nil, or_false] at hz; subst hz; exact ⟨by rw [sc1]; decide, xIA, by rw [sc1]; exact hts _ wkL_13, va_Nc.moved hTW.1.alike h0.2.2.1⟩) (by unfold covers; rw [sa2, se2]; decide) (by rw [sc2]; decide) (by rw [sc2]; exact hts _ wkL_15) (sk_cIS h0 hTW) (fun q H hz1 hk1 => ?_)
    rw [sp2]
    have hP := hP.kept (H1 := H) (fun j q hq => hk1 q.1 ((hP j q hq).lt))
    have hS : va_S A s.heap H [] := ⟨hz1, fun q h1 _ => hk1 q h1, fun _ h => nomatch h⟩
    refine lv_astore (i := 4) hx hb dL_get_17 hl (by decide) rfl (fun ls hl => ?_)
    refine lv_iconst (v := nI 2) hx hb dL_get_19 (by decide) ?_
    exact W.iret (v := nI 2) hx hb hr (fun U9 ht hW => ⟨⟨nI 2, (fo, (b, t, f), wt), rfl, ⟨by rw [hco], rfl, fun q => absurd (hco.symm.trans q) (by decide)⟩, sk_endw ht hP hD⟩, hS.F ht⟩) hS.2.2 dL_get_20
  · have hps : ∀ z ∈ [x1, x2], z.catchType ≠ 0 ∧ ∃ n9 : String, (Cond.classLink RL z.catchType n9).before ([.ref (a 0), .int x, .int y, .ref oa] : List Value).toArray s = true ∧ va_Nc xIO n9 s := by
      intro z hz
      rcases List.mem_cons.mp hz with h9 | h9
      · subst h9; exact ⟨by rw [sc1]; decide, xIA, by rw [sc1]; exact hts _ wkL_13, va_Nc.moved hTW.1.alike h0.2.2.2.1⟩
      · obtain rfl := List.mem_singleton.mp h9; exact ⟨by rw [sc2]; decide, xIS, by rw [sc2]; exact hts _ wkL_15, va_Nc.moved hTW.1.alike h0.2.2.2.2⟩
    refine sk_callC (E := xIO) (nm := xIO) (As := [.int x, .int y]) (rest := [.int (nI 0), .ref oa]) ⟨hx, hb, hml, hown, hts⟩ (kK_getT3 l dC dI a k b t f wt s0 htr h0 x y K hOK hco) (cwV 2 hts (sk_gV wmL_23 wiK_get wsK_get wnK wcK_get) rfl rfl rfl (by decide +kernel) ⟨Nat.le_of_ble_eq_true rfl, Nat.le_of_ble_eq_true rfl⟩) ⟨sk_blindT _, va_recv hK hPx (ci := 3) (q0 := 0) rfl rfl, fun U hU hW => ⟨rfl, sk_at (S := (b, t, f)) (wt := wt) hPx hK hN hU hW, sk_TW_at hTW.1 hTW.2 hU hW⟩⟩ rfl hl.1 rfl (Nat.le_of_ble_eq_true rfl) dL_get_5 (Nat.le_of_ble_eq_true rfl) (Nat.le_of_ble_eq_true rfl) [x1, x2] x3 [] htl hps (by unfold covers; rw [sa3, se3]; decide) (by rw [sc3]; decide) (by rw [sc3]; exact hts _ wkL_21) (sk_cIO h0 hTW) (fun q H hz1 hk1 => ?_)
    rw [sp3]
    have hP := hP.kept (H1 := H) (fun j q hq => hk1 q.1 ((hP j q hq).lt))
    have hS : va_S A s.heap H [] := ⟨hz1, fun q h1 _ => hk1 q h1, fun _ h => nomatch h⟩
    refine lv_astore (i := 4) hx hb dL_get_21 hl (by decide) rfl (fun ls hl => ?_)
    refine lv_iconst (v := nI 3) hx hb dL_get_23 (by decide) ?_
    exact W.iret (v := nI 3) hx hb hr (fun U9 ht hW => ⟨⟨nI 3, (fo, (b, t, f), wt), rfl, ⟨by rw [hco], rfl, fun q => absurd (hco.symm.trans q) (by decide)⟩, sk_endw ht hP hD⟩, hS.F ht⟩) hS.2.2 dL_get_24
