theorem sk_get_t1 {b : sk_Ob} {t : sk_Tr} {f : sk_Fi} {x y : Int32} (h : sk_hasB (sk_there f) x = true) : ¬ (sk_get (b, t, f) x y).1 = 1 := by
  intro q
  unfold sk_get at q
  rw [if_neg (by show ¬ sk_hasB (sk_there f) x = false; rw [h]; decide)] at q
  split at q
  · cases q
  · split at q <;> cases q
theorem sk_get_t2 {b : sk_Ob} {t : sk_Tr} {f : sk_Fi} {x y : Int32} (h : sk_hasB (sk_there f) x = true) (h2 : sk_holds (b, t, f) x y = true) : ¬ (sk_get (b, t, f) x y).1 = 2 := by
  intro q
  unfold sk_get at q
  rw [if_neg (by show ¬ sk_hasB (sk_there f) x = false; rw [h]; decide), if_neg (by rw [h2]; decide)] at q
  split at q <;> cases q
abbrev rzK_objectT1 : Room := { frames := 6, cells := 1, slots := 6, locals := 82 }
set_option maxHeartbeats 4000000 in
set_option maxRecDepth 100000 in
theorem kK_objectT1 (l : Launch) (dC : Nat → ClassId) (dI : Nat → Nat → Nat) (a : Nat → Nat) (k : Nat → ClassId) (b : sk_Ob) (t : sk_Tr) (f : sk_Fi) (wt : sk_F) (s0 : State) (htr : l.stackTraces = false) (h0 : sk_TW0 s0) (x : Int32) (K : Nat) (hOK : sk_OK K (b, t, f)) (hco : (sk_object (b, t, f) x).1 = 1) : sk_MT l yK_object wzK_object rzK_objectT1 (va_Pc [.ref (a 0), .int x] (sk_PT9 s0 dC dI a k (b, t, f) wt)) xIA := by
  refine sk_MT.ofW (cc := cK_object) (maxL := 3) (ret := (some .int)) (by decide) rfl ?_
  intro p e s m args below meth c s₁ B hml he9 hv
  obtain ⟨rfl, ⟨hP, hK, hN⟩, hTW⟩ := hv
  have hx := B.exec
  have hb := B.bytes
  have hts : ∀ w ∈ sk_W, w.before ([.ref (a 0), .int x] : List Value).toArray s = true := fun w h => atoms_spec (ws := wzK_object) B.pre w (List.mem_cons_of_mem _ h)
  have hown : s.vm.findClass RK = some m.cls := findClass_of_methodNamed B.named
  have hlocks := B.notSynchronized
  have hS : va_S (fun _ => False) s.heap s.heap [] := va_S.rf
  have hP : va_P (dC, dI) vwCl (sk_wR a k (nI b.1) b.2.1 b.2.2.1 b.2.2.2.1 b.2.2.2.2 (nI t.1) t.2.1 t.2.2.1 t.2.2.2.1 t.2.2.2.2 (nI f.1) (nI (sk_there f)) (nI (f.1 % 100)) f.2.1 f.2.2.1 f.2.2.2.1 f.2.2.2.2.1 (fun i => lN (sk_nb (f.2.2.2.2.2.1 i))) (fun i => sk_bI (f.2.2.2.2.2.2 i)) wt) s.heap := hP
  have hl := lv_entry ([.ref (a 0), .int x]) (n := 3) (Nat.le_of_ble_eq_true rfl)
  rw [lg_entry_eq]
  generalize (lg_sl ([.ref (a 0), .int x]) ++ List.replicate (3 - (lg_sl ([.ref (a 0), .int x])).length) Slot.unset).toArray = ls at hl ⊢
  have hl : lv_has ls 3 [(0, .ref (a 0)), (1, .int x)] := hl
  obtain ⟨sx, hs40, hs51, hs58, hs103, hs113, hs129, hs134⟩ := h0.2.1
  have hT : sk_TO b.1 t := hOK.1
  have hA : sk_AC b.1 b.2.1 := hOK.2.1
  have hO : sk_OO b t := hOK.2.2.1
  have hmk : f.1 ≤ K := hOK.2.2.2.2.2.2.1
  have hK5 : K ≤ 512 := hOK.2.2.2.2.2.1
  have h200 : t.1 ≤ 200 := hT.2.1
  have h60 : b.1 ≤ 60 := hT.2.2.1
  have hfl : ∀ i, i < sk_there f → ∀ x ∈ f.2.2.2.2.2.1 i, x < 60 := fun i hi x hx => Nat.lt_of_lt_of_le ((hOK.2.2.2.2.2.2.2 i hi).2.2.2 x hx) h60
  refine lv_aload_n hx hb dK_object_0 rfl (lv_at hl 0 rfl) ?_
  refine va_get (D := (dC, dI)) (ci := 3) (v := .ref (a 1)) (C := RK) (T := TK) (N := 4) hx hb hts inK hown hK hP 0 rfl rfl 0 (by decide) (hts _ wfK_10) (fun _ h9 => h9) rfl dK_object_1 ?_
  refine lv_iload_n hx hb dK_object_4 rfl (lv_at hl 1 rfl) ?_
  refine va_calli (va_runVN (As := [.int x]) (rest := []) ⟨hx, hb, hml, hown, hts⟩ (kO_canBePrototype l dC dI a k b t f wt x) ⟨va_cnB 1 hts (sk_gC wcO_canBePrototype) rfl rfl rfl (nlmK_34 hN) (hts _ wnO) (by decide +kernel) ⟨Nat.le_of_ble_eq_true rfl, Nat.le_of_ble_eq_true rfl⟩, hts _ wiO_canBePrototype, hts _ wsO_canBePrototype⟩ ⟨sk_blind _, va_recv hK hP (ci := 1) (q0 := 1) rfl rfl, fun U hU hW => ⟨rfl, sk_at (S := (b, t, f)) (wt := wt) hP hK hN hU hW⟩⟩ rfl rfl hl.1 rfl (lv_room (Nat.le_of_ble_eq_true rfl)) dK_object_5 ⟨Nat.le_of_ble_eq_true rfl, Nat.le_of_ble_eq_true rfl⟩) hS (fun _ _ h => h.elim) (fun _ h => h.elim) (fun r5 u5 U9 H locs ht hvm w5 hB hz hk hS => ?_)
  have hP : va_P (dC, dI) vwCl (sk_wR a k (nI b.1) b.2.1 b.2.2.1 b.2.2.2.1 b.2.2.2.2 (nI t.1) t.2.1 t.2.2.1 t.2.2.2.1 t.2.2.2.2 (nI f.1) (nI (sk_there f)) (nI (f.1 % 100)) f.2.1 f.2.2.1 f.2.2.2.1 f.2.2.2.2.1 (fun i => lN (sk_nb (f.2.2.2.2.2.1 i))) (fun i => sk_bI (f.2.2.2.2.2.2 i)) wt) H := hP.kept (fun j q hq => hk q.1 ((hP j q hq).lt) (fun h => h))
  clear hk hB ht
  rcases sk_bI_or (sk_canP b.1 x) with ⟨h5, hv⟩ | ⟨h5, hv⟩
  · skip
    obtain rfl : r5 = nI 1 := w5.trans hv
    refine lv_if_ne (tgt := 21) hx hb dK_object_8 (by decide) (fun _ => ?_) (fun q => absurd q (by decide))
    exact absurd hco (sk_object_t1 h5)
  · skip
    obtain rfl : r5 = nI 0 := w5.trans hv
    refine lv_if_ne (tgt := 21) hx hb dK_object_8 (by decide) (fun q => absurd q (by decide)) (fun _ => ?_)
    exact sk_throwS (own := RK) (E := xIA) (text := "no such prototype") (names := sk_RE) (ik := 38) (ix := 40) (ic := 42) hx hb htr hown (by decide) (by decide) (hts _ wkK_38) (hts _ winIA) (vk_R.warm hTW.1 hs40) (sk_hIA h0 hTW hts) hS (hl.1.trans hml.symm) he9 dK_object_11 dK_object_14 dK_object_15 dK_object_17 dK_object_20 (Nat.le_of_ble_eq_true rfl) (Nat.le_of_ble_eq_true rfl) (Nat.le_of_ble_eq_true rfl) (Nat.le_of_ble_eq_true rfl) hlocks
abbrev rzK_objectT2 : Room := { frames := 6, cells := 1, slots := 6, locals := 82 }
set_option maxHeartbeats 4000000 in
set_option maxRecDepth 100000 in
theorem kK_objectT2 (l : Launch) (dC : Nat → ClassId) (dI : Nat → Nat → Nat) (a : Nat → Nat) (k : Nat → ClassId) (b : sk_Ob) (t : sk_Tr) (f : sk_Fi) (wt : sk_F) (s0 : State) (htr : l.stackTraces = false) (h0 : sk_TW0 s0) (x : Int32) (K : Nat) (hOK : sk_OK K (b, t, f)) (hco : (sk_object (b, t, f) x).1 = 2) : sk_MT l yK_object wzK_object rzK_objectT2 (va_Pc [.ref (a 0), .int x] (sk_PT9 s0 dC dI a k (b, t, f) wt)) xIS := by
  refine sk_MT.ofW (cc := cK_object) (maxL := 3) (ret := (some .int)) (by decide) rfl ?_
  intro p e s m args below meth c s₁ B hml he9 hv
  obtain ⟨rfl, ⟨hP, hK, hN⟩, hTW⟩ := hv
  have hx := B.exec
  have hb := B.bytes
  have hts : ∀ w ∈ sk_W, w.before ([.ref (a 0), .int x] : List Value).toArray s = true := fun w h => atoms_spec (ws := wzK_object) B.pre w (List.mem_cons_of_mem _ h)
  have hown : s.vm.findClass RK = some m.cls := findClass_of_methodNamed B.named
  have hlocks := B.notSynchronized
  have hS : va_S (fun _ => False) s.heap s.heap [] := va_S.rf
  have hP : va_P (dC, dI) vwCl (sk_wR a k (nI b.1) b.2.1 b.2.2.1 b.2.2.2.1 b.2.2.2.2 (nI t.1) t.2.1 t.2.2.1 t.2.2.2.1 t.2.2.2.2 (nI f.1) (nI (sk_there f)) (nI (f.1 % 100)) f.2.1 f.2.2.1 f.2.2.2.1 f.2.2.2.2.1 (fun i => lN (sk_nb (f.2.2.2.2.2.1 i))) (fun i => sk_bI (f.2.2.2.2.2.2 i)) wt) s.heap := hP
  have hl := lv_entry ([.ref (a 0), .int x]) (n := 3) (Nat.le_of_ble_eq_true rfl)
  rw [lg_entry_eq]
  generalize (lg_sl ([.ref (a 0), .int x]) ++ List.replicate (3 - (lg_sl ([.ref (a 0), .int x])).length) Slot.unset).toArray = ls at hl ⊢
  have hl : lv_has ls 3 [(0, .ref (a 0)), (1, .int x)] := hl
  obtain ⟨sx, hs40, hs51, hs58, hs103, hs113, hs129, hs134⟩ := h0.2.1
  have hT : sk_TO b.1 t := hOK.1
  have hA : sk_AC b.1 b.2.1 := hOK.2.1
  have hO : sk_OO b t := hOK.2.2.1
  have hmk : f.1 ≤ K := hOK.2.2.2.2.2.2.1
  have hK5 : K ≤ 512 := hOK.2.2.2.2.2.1
  have h200 : t.1 ≤ 200 := hT.2.1
  have h60 : b.1 ≤ 60 := hT.2.2.1
  have hfl : ∀ i, i < sk_there f → ∀ x ∈ f.2.2.2.2.2.1 i, x < 60 := fun i hi x hx => Nat.lt_of_lt_of_le ((hOK.2.2.2.2.2.2.2 i hi).2.2.2 x hx) h60
  refine lv_aload_n hx hb dK_object_0 rfl (lv_at hl 0 rfl) ?_
  refine va_get (D := (dC, dI)) (ci := 3) (v := .ref (a 1)) (C := RK) (T := TK) (N := 4) hx hb hts inK hown hK hP 0 rfl rfl 0 (by decide) (hts _ wfK_10) (fun _ h9 => h9) rfl dK_object_1 ?_
  refine lv_iload_n hx hb dK_object_4 rfl (lv_at hl 1 rfl) ?_
  refine va_calli (va_runVN (As := [.int x]) (rest := []) ⟨hx, hb, hml, hown, hts⟩ (kO_canBePrototype l dC dI a k b t f wt x) ⟨va_cnB 1 hts (sk_gC wcO_canBePrototype) rfl rfl rfl (nlmK_34 hN) (hts _ wnO) (by decide +kernel) ⟨Nat.le_of_ble_eq_true rfl, Nat.le_of_ble_eq_true rfl⟩, hts _ wiO_canBePrototype, hts _ wsO_canBePrototype⟩ ⟨sk_blind _, va_recv hK hP (ci := 1) (q0 := 1) rfl rfl, fun U hU hW => ⟨rfl, sk_at (S := (b, t, f)) (wt := wt) hP hK hN hU hW⟩⟩ rfl rfl hl.1 rfl (lv_room (Nat.le_of_ble_eq_true rfl)) dK_object_5 ⟨Nat.le_of_ble_eq_true rfl, Nat.le_of_ble_eq_true rfl⟩) hS (fun _ _ h => h.elim) (fun _ h => h.elim) (fun r5 u5 U9 H locs ht hvm w5 hB hz hk hS => ?_)
  have hP : va_P (dC, dI) vwCl (sk_wR a k (nI b.1) b.2.1 b.2.2.1 b.2.2.2.1 b.2.2.2.2 (nI t.1) t.2.1 t.2.2.1 t.2.2.2.1 t.2.2.2.2 (nI f.1) (nI (sk_there f)) (nI (f.1 % 100)) f.2.1 f.2.2.1 f.2.2.2.1 f.2.2.2.2.1 (fun i => lN (sk_nb (f.2.2.2.2.2.1 i))) (fun i => sk_bI (f.2.2.2.2.2.2 i)) wt) H := hP.kept (fun j q hq => hk q.1 ((hP j q hq).lt) (fun h => h))
  clear hk hB ht
  rcases sk_bI_or (sk_canP b.1 x) with ⟨h5, hv⟩ | ⟨h5, hv⟩
  · skip
    obtain rfl : r5 = nI 1 := w5.trans hv
    refine lv_if_ne (tgt := 21) hx hb dK_object_8 (by decide) (fun _ => ?_) (fun q => absurd q (by decide))
    refine lv_aload_n hx hb dK_object_21 rfl (lv_at hl 0 rfl) ?_
    refine va_get (D := (dC, dI)) (ci := 3) (v := .ref (a 1)) (C := RK) (T := TK) (N := 4) hx hb hts inK hown hK hP 0 rfl rfl 0 (by decide) (hts _ wfK_10) (fun _ h9 => h9) rfl dK_object_22 ?_
    refine va_getN (D := (dC, dI)) (ci := 1) (v := .int (nI b.1)) (C := RO) (T := TO) (N := 5) hx hb hts inO hown hK hP 1 rfl rfl 4 (by decide) (va_Nw.use rfl (nlfK_45 hN)) (fun _ h9 => h9) rfl dK_object_25 ?_
    refine lv_bipush (v := nI 60) hx hb dK_object_28 (by decide) ?_
    refine lv_icmp_lt (tgt := 43) hx hb dK_object_30 (by decide) (fun c30 => ?_) (fun c30 => ?_)
    · skip
      have n30 : b.1 < 60 := (nI_ltI (a := b.1) (b := 60) (by omega) (by omega)).mp c30
      have hno := sk_object_r2 h5 (by omega) hco
      refine lv_aload_n hx hb dK_object_43 rfl (lv_at hl 0 rfl) ?_
      refine va_get (D := (dC, dI)) (ci := 3) (v := .ref (a 2)) (C := RK) (T := TK) (N := 4) hx hb hts inK hown hK hP 0 rfl rfl 1 (by decide) (hts _ wfK_19) (fun _ h9 => h9) rfl dK_object_44 ?_
      refine lv_iload_n hx hb dK_object_47 rfl (lv_at hl 1 rfl) ?_
      refine lv_aload_n hx hb dK_object_48 rfl (lv_at hl 0 rfl) ?_
      refine va_get (D := (dC, dI)) (ci := 3) (v := .ref (a 4)) (C := RK) (T := TK) (N := 4) hx hb hts inK hown hK hP 0 rfl rfl 3 (by decide) (hts _ wfK_30) (fun _ h9 => h9) rfl dK_object_49 ?_
      refine lv_iconst (v := nI 0) hx hb dK_object_52 (by decide) ?_
      refine va_calli (va_runVN (As := [.int x, .ref (a 4), .int (nI 0)]) (rest := []) ⟨hx, hb, hml, hown, hts⟩ (kT_reachN l dC dI a k b t f wt x hT hno) ⟨va_cnB 3 hts (sk_gC wcT_reach) rfl rfl rfl (nlmK_54 hN) (hts _ wnT) (by decide +kernel) ⟨Nat.le_of_ble_eq_true rfl, Nat.le_of_ble_eq_true rfl⟩, hts _ wiT_reach, hts _ wsT_reach⟩ ⟨sk_blind _, va_recv hK hP (ci := 2) (q0 := 2) rfl rfl, fun U hU hW => ⟨rfl, sk_at (S := (b, t, f)) (wt := wt) hP hK hN hU hW⟩⟩ rfl rfl hl.1 rfl (lv_room (Nat.le_of_ble_eq_true rfl)) dK_object_53 ⟨Nat.le_of_ble_eq_true rfl, Nat.le_of_ble_eq_true rfl⟩) hS (fun _ _ h => h.elim) (fun _ h => h.elim) (fun r53 u53 U9 H locs ht hvm w53 hB hz hk hS => ?_)
      have hP : va_P (dC, dI) vwCl (sk_wR a k (nI b.1) b.2.1 b.2.2.1 b.2.2.2.1 b.2.2.2.2 (nI t.1) t.2.1 t.2.2.1 t.2.2.2.1 t.2.2.2.2 (nI f.1) (nI (sk_there f)) (nI (f.1 % 100)) f.2.1 f.2.2.1 f.2.2.2.1 f.2.2.2.2.1 (fun i => lN (sk_nb (f.2.2.2.2.2.1 i))) (fun i => sk_bI (f.2.2.2.2.2.2 i)) wt) H := hP.kept (fun j q hq => hk q.1 ((hP j q hq).lt) (fun h => h))
      clear hk hB ht
      obtain rfl : r53 = -1 := w53
      refine lv_istore_n (lv' := [(2, .int (-1)), (0, .ref (a 0)), (1, .int x)]) hx hb dK_object_56 rfl hl (by decide) rfl (fun ls hl => ?_)
      refine lv_iload_n hx hb dK_object_57 rfl (lv_at hl 0 rfl) ?_
      refine lv_iconst (v := (-1)) hx hb dK_object_58 (by decide) ?_
      refine lv_icmp_ne (tgt := 72) hx hb dK_object_59 (by decide) (fun q => absurd q (by decide)) (fun _ => ?_)
      exact sk_throwS (own := RK) (E := xIS) (text := "no room for a shape") (names := sk_RE) (ik := 49) (ix := 58) (ic := 53) hx hb htr hown (by decide) (by decide) (hts _ wkK_49) (hts _ winIS) (vk_R.warm hTW.1 hs58) (sk_hIS h0 hTW hts) hS (hl.1.trans hml.symm) he9 dK_object_62 dK_object_65 dK_object_66 dK_object_68 dK_object_71 (Nat.le_of_ble_eq_true rfl) (Nat.le_of_ble_eq_true rfl) (Nat.le_of_ble_eq_true rfl) (Nat.le_of_ble_eq_true rfl) hlocks
    · skip
      have n30 : ¬ b.1 < 60 := fun z9 => c30 ((nI_ltI (a := b.1) (b := 60) (by omega) (by omega)).mpr z9)
      exact sk_throwS (own := RK) (E := xIS) (text := "no room for an object") (names := sk_RE) (ik := 49) (ix := 51) (ic := 53) hx hb htr hown (by decide) (by decide) (hts _ wkK_49) (hts _ winIS) (vk_R.warm hTW.1 hs51) (sk_hIS h0 hTW hts) hS (hl.1.trans hml.symm) he9 dK_object_33 dK_object_36 dK_object_37 dK_object_39 dK_object_42 (Nat.le_of_ble_eq_true rfl) (Nat.le_of_ble_eq_true rfl) (Nat.le_of_ble_eq_true rfl) (Nat.le_of_ble_eq_true rfl) hlocks
  · skip
    obtain rfl : r5 = nI 0 := w5.trans hv
    refine lv_if_ne (tgt := 21) hx hb dK_object_8 (by decide) (fun q => absurd q (by decide)) (fun _ => ?_)
    exact absurd ((congrArg Prod.fst (sk_object_1 (t := t) (f := f) h5)).symm.trans hco) (by intro q9; cases q9)
abbrev rzK_readT1 : Room := { frames := 6, cells := 1, slots := 6, locals := 82 }
set_option maxHeartbeats 4000000 in
set_option maxRecDepth 100000 in
theorem kK_readT1 (l : Launch) (dC : Nat → ClassId) (dI : Nat → Nat → Nat) (a : Nat → Nat) (k : Nat → ClassId) (b : sk_Ob) (t : sk_Tr) (f : sk_Fi) (wt : sk_F) (s0 : State) (htr : l.stackTraces = false) (h0 : sk_TW0 s0) (x y : Int32) (K : Nat) (hOK : sk_OK K (b, t, f)) (hco : (sk_read (b, t, f) x y).1 = 1) : sk_MT l yK_read wzK_read rzK_readT1 (va_Pc [.ref (a 0), .int x, .int y] (sk_PT9 s0 dC dI a k (b, t, f) wt)) xIA := by
  refine sk_MT.ofW (cc := cK_read) (maxL := 5) (ret := (some .int)) (by decide) rfl ?_
  intro p e s m args below meth c s₁ B hml he9 hv
  obtain ⟨rfl, ⟨hP, hK, hN⟩, hTW⟩ := hv
  have hx := B.exec
  have hb := B.bytes
  have hts : ∀ w ∈ sk_W, w.before ([.ref (a 0), .int x, .int y] : List Value).toArray s = true := fun w h => atoms_spec (ws := wzK_read) B.pre w (List.mem_cons_of_mem _ h)
  have hown : s.vm.findClass RK = some m.cls := findClass_of_methodNamed B.named
  have hlocks := B.notSynchronized
  have hS : va_S (fun _ => False) s.heap s.heap [] := va_S.rf
  have hP : va_P (dC, dI) vwCl (sk_wR a k (nI b.1) b.2.1 b.2.2.1 b.2.2.2.1 b.2.2.2.2 (nI t.1) t.2.1 t.2.2.1 t.2.2.2.1 t.2.2.2.2 (nI f.1) (nI (sk_there f)) (nI (f.1 % 100)) f.2.1 f.2.2.1 f.2.2.2.1 f.2.2.2.2.1 (fun i => lN (sk_nb (f.2.2.2.2.2.1 i))) (fun i => sk_bI (f.2.2.2.2.2.2 i)) wt) s.heap := hP
  have hl := lv_entry ([.ref (a 0), .int x, .int y]) (n := 5) (Nat.le_of_ble_eq_true rfl)
  rw [lg_entry_eq]
  generalize (lg_sl ([.ref (a 0), .int x, .int y]) ++ List.replicate (5 - (lg_sl ([.ref (a 0), .int x, .int y])).length) Slot.unset).toArray = ls at hl ⊢
  have hl : lv_has ls 5 [(0, .ref (a 0)), (1, .int x), (2, .int y)] := hl
  obtain ⟨sx, hs40, hs51, hs58, hs103, hs113, hs129, hs134⟩ := h0.2.1
  have hT : sk_TO b.1 t := hOK.1
  have hA : sk_AC b.1 b.2.1 := hOK.2.1
  have hO : sk_OO b t := hOK.2.2.1
  have hmk : f.1 ≤ K := hOK.2.2.2.2.2.2.1
  have hK5 : K ≤ 512 := hOK.2.2.2.2.2.1
  have h200 : t.1 ≤ 200 := hT.2.1
  have h60 : b.1 ≤ 60 := hT.2.2.1
  have hfl : ∀ i, i < sk_there f → ∀ x ∈ f.2.2.2.2.2.1 i, x < 60 := fun i hi x hx => Nat.lt_of_lt_of_le ((hOK.2.2.2.2.2.2.2 i hi).2.2.2 x hx) h60
  refine lv_aload_n hx hb dK_read_0 rfl (lv_at hl 0 rfl) ?_
  refine va_get (D := (dC, dI)) (ci := 3) (v := .ref (a 1)) (C := RK) (T := TK) (N := 4) hx hb hts inK hown hK hP 0 rfl rfl 0 (by decide) (hts _ wfK_10) (fun _ h9 => h9) rfl dK_read_1 ?_
  refine lv_iload_n hx hb dK_read_4 rfl (lv_at hl 1 rfl) ?_
  refine va_calli (va_runVN (As := [.int x]) (rest := []) ⟨hx, hb, hml, hown, hts⟩ (kO_has l dC dI a k b t f wt x) ⟨va_cnB 1 hts (sk_gC wcO_has) rfl rfl rfl (nlmK_64 hN) (hts _ wnO) (by decide +kernel) ⟨Nat.le_of_ble_eq_true rfl, Nat.le_of_ble_eq_true rfl⟩, hts _ wiO_has, hts _ wsO_has⟩ ⟨sk_blind _, va_recv hK hP (ci := 1) (q0 := 1) rfl rfl, fun U hU hW => ⟨rfl, sk_at (S := (b, t, f)) (wt := wt) hP hK hN hU hW⟩⟩ rfl rfl hl.1 rfl (lv_room (Nat.le_of_ble_eq_true rfl)) dK_read_5 ⟨Nat.le_of_ble_eq_true rfl, Nat.le_of_ble_eq_true rfl⟩) hS (fun _ _ h => h.elim) (fun _ h => h.elim) (fun r5 u5 U9 H locs ht hvm w5 hB hz hk hS => ?_)
  have hP : va_P (dC, dI) vwCl (sk_wR a k (nI b.1) b.2.1 b.2.2.1 b.2.2.2.1 b.2.2.2.2 (nI t.1) t.2.1 t.2.2.1 t.2.2.2.1 t.2.2.2.2 (nI f.1) (nI (sk_there f)) (nI (f.1 % 100)) f.2.1 f.2.2.1 f.2.2.2.1 f.2.2.2.2.1 (fun i => lN (sk_nb (f.2.2.2.2.2.1 i))) (fun i => sk_bI (f.2.2.2.2.2.2 i)) wt) H := hP.kept (fun j q hq => hk q.1 ((hP j q hq).lt) (fun h => h))
  clear hk hB ht
  rcases sk_bI_or (sk_hasB b.1 x) with ⟨h5, hv⟩ | ⟨h5, hv⟩
  · skip
    obtain rfl : r5 = nI 1 := w5.trans hv
    obtain ⟨o, ho, eo9⟩ := (sk_hasB_iff (by omega)).mp h5
    subst eo9
    obtain ⟨hs1, hs2, hs3⟩ := sk_shOk h200 hO ho
    refine lv_if_ne (tgt := 21) hx hb dK_read_8 (by decide) (fun _ => ?_) (fun q => absurd q (by decide))
    rcases sk_nwk hT hA hO ho y with hw | ⟨q, kk, hq, hw, hk, hp⟩
    · exact absurd ((congrArg Prod.fst (sk_read_2 (f := f) h60 ho hw.symm)).symm.trans hco) (by intro q9; cases q9)
    · exact absurd ((congrArg Prod.fst (sk_read_3 (f := f) h60 ho (by omega) hk hw.symm hp)).symm.trans hco) (by intro q9; cases q9)
  · skip
    obtain rfl : r5 = nI 0 := w5.trans hv
    refine lv_if_ne (tgt := 21) hx hb dK_read_8 (by decide) (fun q => absurd q (by decide)) (fun _ => ?_)
    exact sk_throwS (own := RK) (E := xIA) (text := "no such object") (names := sk_RE) (ik := 38) (ix := 103) (ic := 42) hx hb htr hown (by decide) (by decide) (hts _ wkK_38) (hts _ winIA) (vk_R.warm hTW.1 hs103) (sk_hIA h0 hTW hts) hS (hl.1.trans hml.symm) he9 dK_read_11 dK_read_14 dK_read_15 dK_read_17 dK_read_20 (Nat.le_of_ble_eq_true rfl) (Nat.le_of_ble_eq_true rfl) (Nat.le_of_ble_eq_true rfl) (Nat.le_of_ble_eq_true rfl) hlocks
abbrev rzK_readT2 : Room := { frames := 6, cells := 1, slots := 6, locals := 82 }
set_option maxHeartbeats 4000000 in
set_option maxRecDepth 100000 in
theorem kK_readT2 (l : Launch) (dC : Nat → ClassId) (dI : Nat → Nat → Nat) (a : Nat → Nat) (k : Nat → ClassId) (b : sk_Ob) (t : sk_Tr) (f : sk_Fi) (wt : sk_F) (s0 : State) (htr : l.stackTraces = false) (h0 : sk_TW0 s0) (x y : Int32) (K : Nat) (hOK : sk_OK K (b, t, f)) (hco : (sk_read (b, t, f) x y).1 = 2) : sk_MT l yK_read wzK_read rzK_readT2 (va_Pc [.ref (a 0), .int x, .int y] (sk_PT9 s0 dC dI a k (b, t, f) wt)) xIO := by
  refine sk_MT.ofW (cc := cK_read) (maxL := 5) (ret := (some .int)) (by decide) rfl ?_
  intro p e s m args below meth c s₁ B hml he9 hv
  obtain ⟨rfl, ⟨hP, hK, hN⟩, hTW⟩ := hv
  have hx := B.exec
  have hb := B.bytes
  have hts : ∀ w ∈ sk_W, w.before ([.ref (a 0), .int x, .int y] : List Value).toArray s = true := fun w h => atoms_spec (ws := wzK_read) B.pre w (List.mem_cons_of_mem _ h)
  have hown : s.vm.findClass RK = some m.cls := findClass_of_methodNamed B.named
  have hlocks := B.notSynchronized
  have hS : va_S (fun _ => False) s.heap s.heap [] := va_S.rf
  have hP : va_P (dC, dI) vwCl (sk_wR a k (nI b.1) b.2.1 b.2.2.1 b.2.2.2.1 b.2.2.2.2 (nI t.1) t.2.1 t.2.2.1 t.2.2.2.1 t.2.2.2.2 (nI f.1) (nI (sk_there f)) (nI (f.1 % 100)) f.2.1 f.2.2.1 f.2.2.2.1 f.2.2.2.2.1 (fun i => lN (sk_nb (f.2.2.2.2.2.1 i))) (fun i => sk_bI (f.2.2.2.2.2.2 i)) wt) s.heap := hP
  have hl := lv_entry ([.ref (a 0), .int x, .int y]) (n := 5) (Nat.le_of_ble_eq_true rfl)
  rw [lg_entry_eq]
  generalize (lg_sl ([.ref (a 0), .int x, .int y]) ++ List.replicate (5 - (lg_sl ([.ref (a 0), .int x, .int y])).length) Slot.unset).toArray = ls at hl ⊢
  have hl : lv_has ls 5 [(0, .ref (a 0)), (1, .int x), (2, .int y)] := hl
  obtain ⟨sx, hs40, hs51, hs58, hs103, hs113, hs129, hs134⟩ := h0.2.1
  have hT : sk_TO b.1 t := hOK.1
  have hA : sk_AC b.1 b.2.1 := hOK.2.1
  have hO : sk_OO b t := hOK.2.2.1
  have hmk : f.1 ≤ K := hOK.2.2.2.2.2.2.1
  have hK5 : K ≤ 512 := hOK.2.2.2.2.2.1
  have h200 : t.1 ≤ 200 := hT.2.1
  have h60 : b.1 ≤ 60 := hT.2.2.1
  have hfl : ∀ i, i < sk_there f → ∀ x ∈ f.2.2.2.2.2.1 i, x < 60 := fun i hi x hx => Nat.lt_of_lt_of_le ((hOK.2.2.2.2.2.2.2 i hi).2.2.2 x hx) h60
  refine lv_aload_n hx hb dK_read_0 rfl (lv_at hl 0 rfl) ?_
  refine va_get (D := (dC, dI)) (ci := 3) (v := .ref (a 1)) (C := RK) (T := TK) (N := 4) hx hb hts inK hown hK hP 0 rfl rfl 0 (by decide) (hts _ wfK_10) (fun _ h9 => h9) rfl dK_read_1 ?_
  refine lv_iload_n hx hb dK_read_4 rfl (lv_at hl 1 rfl) ?_
  refine va_calli (va_runVN (As := [.int x]) (rest := []) ⟨hx, hb, hml, hown, hts⟩ (kO_has l dC dI a k b t f wt x) ⟨va_cnB 1 hts (sk_gC wcO_has) rfl rfl rfl (nlmK_64 hN) (hts _ wnO) (by decide +kernel) ⟨Nat.le_of_ble_eq_true rfl, Nat.le_of_ble_eq_true rfl⟩, hts _ wiO_has, hts _ wsO_has⟩ ⟨sk_blind _, va_recv hK hP (ci := 1) (q0 := 1) rfl rfl, fun U hU hW => ⟨rfl, sk_at (S := (b, t, f)) (wt := wt) hP hK hN hU hW⟩⟩ rfl rfl hl.1 rfl (lv_room (Nat.le_of_ble_eq_true rfl)) dK_read_5 ⟨Nat.le_of_ble_eq_true rfl, Nat.le_of_ble_eq_true rfl⟩) hS (fun _ _ h => h.elim) (fun _ h => h.elim) (fun r5 u5 U9 H locs ht hvm w5 hB hz hk hS => ?_)
  have hP : va_P (dC, dI) vwCl (sk_wR a k (nI b.1) b.2.1 b.2.2.1 b.2.2.2.1 b.2.2.2.2 (nI t.1) t.2.1 t.2.2.1 t.2.2.2.1 t.2.2.2.2 (nI f.1) (nI (sk_there f)) (nI (f.1 % 100)) f.2.1 f.2.2.1 f.2.2.2.1 f.2.2.2.2.1 (fun i => lN (sk_nb (f.2.2.2.2.2.1 i))) (fun i => sk_bI (f.2.2.2.2.2.2 i)) wt) H := hP.kept (fun j q hq => hk q.1 ((hP j q hq).lt) (fun h => h))
  clear hk hB ht
  rcases sk_bI_or (sk_hasB b.1 x) with ⟨h5, hv⟩ | ⟨h5, hv⟩
  · skip
    obtain rfl : r5 = nI 1 := w5.trans hv
    obtain ⟨o, ho, eo9⟩ := (sk_hasB_iff (by omega)).mp h5
    subst eo9
    obtain ⟨hs1, hs2, hs3⟩ := sk_shOk h200 hO ho
    refine lv_if_ne (tgt := 21) hx hb dK_read_8 (by decide) (fun _ => ?_) (fun q => absurd q (by decide))
    refine lv_aload_n hx hb dK_read_21 rfl (lv_at hl 0 rfl) ?_
    refine lv_iload_n hx hb dK_read_22 rfl (lv_at hl 1 rfl) ?_
    refine lv_iload_n hx hb dK_read_23 rfl (lv_at hl 2 rfl) ?_
    refine va_calli (va_runV (As := [.int (nI o), .int y]) (rest := []) ⟨hx, hb, hml, hown, hts⟩ (kK_nearestWith l dC dI a k b t f wt (nI o) y hT hO hA (Or.inr ⟨o, ho, rfl⟩)) (cwV 2 hts (sk_gV wmK_105 wiK_nearestWith wsK_nearestWith wnK wcK_nearestWith) rfl rfl rfl (by decide +kernel) ⟨Nat.le_of_ble_eq_true rfl, Nat.le_of_ble_eq_true rfl⟩) ⟨sk_blind _, va_recv hK hP (ci := 3) (q0 := 0) rfl rfl, fun U hU hW => ⟨rfl, sk_at (S := (b, t, f)) (wt := wt) hP hK hN hU hW⟩⟩ rfl rfl hl.1 rfl (lv_room (Nat.le_of_ble_eq_true rfl)) dK_read_24 ⟨Nat.le_of_ble_eq_true rfl, Nat.le_of_ble_eq_true rfl⟩) hS (fun _ _ h => h.elim) (fun _ h => h.elim) (fun r24 u24 U9 H locs ht hvm w24 hB hz hk hS => ?_)
    have hP : va_P (dC, dI) vwCl (sk_wR a k (nI b.1) b.2.1 b.2.2.1 b.2.2.2.1 b.2.2.2.2 (nI t.1) t.2.1 t.2.2.1 t.2.2.2.1 t.2.2.2.2 (nI f.1) (nI (sk_there f)) (nI (f.1 % 100)) f.2.1 f.2.2.1 f.2.2.2.1 f.2.2.2.2.1 (fun i => lN (sk_nb (f.2.2.2.2.2.1 i))) (fun i => sk_bI (f.2.2.2.2.2.2 i)) wt) H := hP.kept (fun j q hq => hk q.1 ((hP j q hq).lt) (fun h => h))
    clear hk hB ht
    rcases sk_nwk hT hA hO ho y with hw | ⟨q, kk, hq, hw, hk, hp⟩
    · skip
      obtain rfl : r24 = -1 := w24.trans hw
      refine lv_istore_n (lv' := [(3, .int (-1)), (0, .ref (a 0)), (1, .int (nI o)), (2, .int y)]) hx hb dK_read_27 rfl hl (by decide) rfl (fun ls hl => ?_)
      refine lv_aload_n hx hb dK_read_28 rfl (lv_at hl 1 rfl) ?_
      refine lv_iload_n hx hb dK_read_29 rfl (lv_at hl 0 rfl) ?_
      refine lv_iload_n hx hb dK_read_30 rfl (lv_at hl 3 rfl) ?_
      refine va_calli (va_runV (As := [.int (-1), .int y]) (rest := []) ⟨hx, hb, hml, hown, hts⟩ (kK_ownPlace l dC dI a k b t f wt (-1) y hT hO (Or.inl rfl)) (cwV 2 hts (sk_gV wmK_108 wiK_ownPlace wsK_ownPlace wnK wcK_ownPlace) rfl rfl rfl (by decide +kernel) ⟨Nat.le_of_ble_eq_true rfl, Nat.le_of_ble_eq_true rfl⟩) ⟨sk_blind _, va_recv hK hP (ci := 3) (q0 := 0) rfl rfl, fun U hU hW => ⟨rfl, sk_at (S := (b, t, f)) (wt := wt) hP hK hN hU hW⟩⟩ rfl rfl hl.1 rfl (lv_room (Nat.le_of_ble_eq_true rfl)) dK_read_31 ⟨Nat.le_of_ble_eq_true rfl, Nat.le_of_ble_eq_true rfl⟩) hS (fun _ _ h => h.elim) (fun _ h => h.elim) (fun r31 u31 U9 H locs ht hvm w31 hB hz hk hS => ?_)
      have hP : va_P (dC, dI) vwCl (sk_wR a k (nI b.1) b.2.1 b.2.2.1 b.2.2.2.1 b.2.2.2.2 (nI t.1) t.2.1 t.2.2.1 t.2.2.2.1 t.2.2.2.2 (nI f.1) (nI (sk_there f)) (nI (f.1 % 100)) f.2.1 f.2.2.1 f.2.2.2.1 f.2.2.2.2.1 (fun i => lN (sk_nb (f.2.2.2.2.2.1 i))) (fun i => sk_bI (f.2.2.2.2.2.2 i)) wt) H := hP.kept (fun j q hq => hk q.1 ((hP j q hq).lt) (fun h => h))
      clear hk hB ht
      obtain rfl : r31 = -1 := w31.trans (if_pos rfl)
      refine lv_istore (lv' := [(4, .int (-1)), (3, .int (-1)), (0, .ref (a 0)), (1, .int (nI o)), (2, .int y)]) hx hb dK_read_34 hl (by decide) rfl (fun ls hl => ?_)
      refine lv_iload hx hb dK_read_36 (lv_at hl 0 rfl) ?_
      refine lv_iconst (v := (-1)) hx hb dK_read_38 (by decide) ?_
      refine lv_icmp_ne (tgt := 52) hx hb dK_read_39 (by decide) (fun q => absurd q (by decide)) (fun _ => ?_)
      exact sk_throwS (own := RK) (E := xIO) (text := "the property is nowhere") (names := sk_RE) (ik := 111) (ix := 113) (ic := 115) hx hb htr hown (by decide) (by decide) (hts _ wkK_111) (hts _ winIO) (vk_R.warm hTW.1 hs113) (sk_hIO h0 hTW hts) hS (hl.1.trans hml.symm) he9 dK_read_42 dK_read_45 dK_read_46 dK_read_48 dK_read_51 (Nat.le_of_ble_eq_true rfl) (Nat.le_of_ble_eq_true rfl) (Nat.le_of_ble_eq_true rfl) (Nat.le_of_ble_eq_true rfl) hlocks
    · skip
      obtain rfl : r24 = nI q := w24.trans hw
      refine lv_istore_n (lv' := [(3, .int (nI q)), (0, .ref (a 0)), (1, .int (nI o)), (2, .int y)]) hx hb dK_read_27 rfl hl (by decide) rfl (fun ls hl => ?_)
      refine lv_aload_n hx hb dK_read_28 rfl (lv_at hl 1 rfl) ?_
      refine lv_iload_n hx hb dK_read_29 rfl (lv_at hl 0 rfl) ?_
      refine lv_iload_n hx hb dK_read_30 rfl (lv_at hl 3 rfl) ?_
      refine va_calli (va_runV (As := [.int (nI q), .int y]) (rest := []) ⟨hx, hb, hml, hown, hts⟩ (kK_ownPlace l dC dI a k b t f wt (nI q) y hT hO (Or.inr ⟨q, hq, rfl⟩)) (cwV 2 hts (sk_gV wmK_108 wiK_ownPlace wsK_ownPlace wnK wcK_ownPlace) rfl rfl rfl (by decide +kernel) ⟨Nat.le_of_ble_eq_true rfl, Nat.le_of_ble_eq_true rfl⟩) ⟨sk_blind _, va_recv hK hP (ci := 3) (q0 := 0) rfl rfl, fun U hU hW => ⟨rfl, sk_at (S := (b, t, f)) (wt := wt) hP hK hN hU hW⟩⟩ rfl rfl hl.1 rfl (lv_room (Nat.le_of_ble_eq_true rfl)) dK_read_31 ⟨Nat.le_of_ble_eq_true rfl, Nat.le_of_ble_eq_true rfl⟩) hS (fun _ _ h => h.elim) (fun _ h => h.elim) (fun r31 u31 U9 H locs ht hvm w31 hB hz hk hS => ?_)
      have hP : va_P (dC, dI) vwCl (sk_wR a k (nI b.1) b.2.1 b.2.2.1 b.2.2.2.1 b.2.2.2.2 (nI t.1) t.2.1 t.2.2.1 t.2.2.2.1 t.2.2.2.2 (nI f.1) (nI (sk_there f)) (nI (f.1 % 100)) f.2.1 f.2.2.1 f.2.2.2.1 f.2.2.2.2.1 (fun i => lN (sk_nb (f.2.2.2.2.2.1 i))) (fun i => sk_bI (f.2.2.2.2.2.2 i)) wt) H := hP.kept (fun j q hq => hk q.1 ((hP j q hq).lt) (fun h => h))
      clear hk hB ht
      obtain rfl : r31 = nI kk := w31.trans ((sk_opl_n (by omega)).trans hp)
      refine lv_istore (lv' := [(4, .int (nI kk)), (3, .int (nI q)), (0, .ref (a 0)), (1, .int (nI o)), (2, .int y)]) hx hb dK_read_34 hl (by decide) rfl (fun ls hl => ?_)
      refine lv_iload hx hb dK_read_36 (lv_at hl 0 rfl) ?_
      refine lv_iconst (v := (-1)) hx hb dK_read_38 (by decide) ?_
      refine lv_icmp_ne (tgt := 52) hx hb dK_read_39 (by decide) (fun c39 => ?_) (fun c39 => ?_)
      · skip
        exact absurd ((congrArg Prod.fst (sk_read_3 (f := f) h60 ho (by omega) hk hw.symm hp)).symm.trans hco) (by intro q9; cases q9)
      · skip
        exact absurd c39 (sk_nm1 (by omega))
  · skip
    obtain rfl : r5 = nI 0 := w5.trans hv
    refine lv_if_ne (tgt := 21) hx hb dK_read_8 (by decide) (fun q => absurd q (by decide)) (fun _ => ?_)
    exact absurd ((congrArg Prod.fst (sk_read_1 (t := t) (f := f) (y := y) h5)).symm.trans hco) (by intro q9; cases q9)
abbrev rzK_getT1 : Room := { frames := 6, cells := 1, slots := 6, locals := 82 }
set_option maxHeartbeats 4000000 in
set_option maxRecDepth 100000 in
theorem kK_getT1 (l : Launch) (dC : Nat → ClassId) (dI : Nat → Nat → Nat) (a : Nat → Nat) (k : Nat → ClassId) (b : sk_Ob) (t : sk_Tr) (f : sk_Fi) (wt : sk_F) (s0 : State) (htr : l.stackTraces = false) (h0 : sk_TW0 s0) (x y : Int32) (K : Nat) (hOK : sk_OK K (b, t, f)) (hco : (sk_get (b, t, f) x y).1 = 1) : sk_MT l yK_get wzK_get rzK_getT1 (va_Pc [.ref (a 0), .int x, .int y] (sk_PT9 s0 dC dI a k (b, t, f) wt)) xIA := by
  refine sk_MT.ofW (cc := cK_get) (maxL := 5) (ret := (some .int)) (by decide) rfl ?_
  intro p e s m args below meth c s₁ B hml he9 hv
  obtain ⟨rfl, ⟨hP, hK, hN⟩, hTW⟩ := hv
  have hx := B.exec
  have hb := B.bytes
  have hts : ∀ w ∈ sk_W, w.before ([.ref (a 0), .int x, .int y] : List Value).toArray s = true := fun w h => atoms_spec (ws := wzK_get) B.pre w (List.mem_cons_of_mem _ h)
  have hown : s.vm.findClass RK = some m.cls := findClass_of_methodNamed B.named
  have hlocks := B.notSynchronized
  have hS : va_S (fun _ => False) s.heap s.heap [] := va_S.rf
  have hP : va_P (dC, dI) vwCl (sk_wR a k (nI b.1) b.2.1 b.2.2.1 b.2.2.2.1 b.2.2.2.2 (nI t.1) t.2.1 t.2.2.1 t.2.2.2.1 t.2.2.2.2 (nI f.1) (nI (sk_there f)) (nI (f.1 % 100)) f.2.1 f.2.2.1 f.2.2.2.1 f.2.2.2.2.1 (fun i => lN (sk_nb (f.2.2.2.2.2.1 i))) (fun i => sk_bI (f.2.2.2.2.2.2 i)) wt) s.heap := hP
  have hl := lv_entry ([.ref (a 0), .int x, .int y]) (n := 5) (Nat.le_of_ble_eq_true rfl)
  rw [lg_entry_eq]
  generalize (lg_sl ([.ref (a 0), .int x, .int y]) ++ List.replicate (5 - (lg_sl ([.ref (a 0), .int x, .int y])).length) Slot.unset).toArray = ls at hl ⊢
  have hl : lv_has ls 5 [(0, .ref (a 0)), (1, .int x), (2, .int y)] := hl
  obtain ⟨sx, hs40, hs51, hs58, hs103, hs113, hs129, hs134⟩ := h0.2.1
  have hT : sk_TO b.1 t := hOK.1
  have hA : sk_AC b.1 b.2.1 := hOK.2.1
  have hO : sk_OO b t := hOK.2.2.1
  have hmk : f.1 ≤ K := hOK.2.2.2.2.2.2.1
  have hK5 : K ≤ 512 := hOK.2.2.2.2.2.1
  have h200 : t.1 ≤ 200 := hT.2.1
  have h60 : b.1 ≤ 60 := hT.2.2.1
  have hfl : ∀ i, i < sk_there f → ∀ x ∈ f.2.2.2.2.2.1 i, x < 60 := fun i hi x hx => Nat.lt_of_lt_of_le ((hOK.2.2.2.2.2.2.2 i hi).2.2.2 x hx) h60
  have h100 : sk_there f ≤ 100 := Nat.min_le_right _ _
  refine lv_aload_n hx hb dK_get_0 rfl (lv_at hl 0 rfl) ?_
  refine va_get (D := (dC, dI)) (ci := 3) (v := .ref (a 3)) (C := RK) (T := TK) (N := 4) hx hb hts inK hown hK hP 0 rfl rfl 2 (by decide) (hts _ wfK_26) (fun _ h9 => h9) rfl dK_get_1 ?_
  refine lv_iload_n hx hb dK_get_4 rfl (lv_at hl 1 rfl) ?_
  refine va_calli (va_runVN (As := [.int x]) (rest := []) ⟨hx, hb, hml, hown, hts⟩ (kF_has l dC dI a k b t f wt x) ⟨va_cnB 1 hts (sk_gC wcF_has) rfl rfl rfl (nlmK_123 hN) (hts _ wnF) (by decide +kernel) ⟨Nat.le_of_ble_eq_true rfl, Nat.le_of_ble_eq_true rfl⟩, hts _ wiF_has, hts _ wsF_has⟩ ⟨sk_blind _, va_recv hK hP (ci := 0) (q0 := 3) rfl rfl, fun U hU hW => ⟨rfl, sk_at (S := (b, t, f)) (wt := wt) hP hK hN hU hW⟩⟩ rfl rfl hl.1 rfl (lv_room (Nat.le_of_ble_eq_true rfl)) dK_get_5 ⟨Nat.le_of_ble_eq_true rfl, Nat.le_of_ble_eq_true rfl⟩) hS (fun _ _ h => h.elim) (fun _ h => h.elim) (fun r5 u5 U9 H locs ht hvm w5 hB hz hk hS => ?_)
  have hP : va_P (dC, dI) vwCl (sk_wR a k (nI b.1) b.2.1 b.2.2.1 b.2.2.2.1 b.2.2.2.2 (nI t.1) t.2.1 t.2.2.1 t.2.2.2.1 t.2.2.2.2 (nI f.1) (nI (sk_there f)) (nI (f.1 % 100)) f.2.1 f.2.2.1 f.2.2.2.1 f.2.2.2.2.1 (fun i => lN (sk_nb (f.2.2.2.2.2.1 i))) (fun i => sk_bI (f.2.2.2.2.2.2 i)) wt) H := hP.kept (fun j q hq => hk q.1 ((hP j q hq).lt) (fun h => h))
  clear hk hB ht
  rcases sk_bI_or (sk_hasB (sk_there f) x) with ⟨h5, hv⟩ | ⟨h5, hv⟩
  · skip
    obtain rfl : r5 = nI 1 := w5.trans hv
    obtain ⟨fi, hfi, efi9⟩ := (sk_hasB_iff (by omega)).mp h5
    subst efi9
    refine lv_if_ne (tgt := 21) hx hb dK_get_8 (by decide) (fun _ => ?_) (fun q => absurd q (by decide))
    exact absurd hco (sk_get_t1 h5)
  · skip
    obtain rfl : r5 = nI 0 := w5.trans hv
    refine lv_if_ne (tgt := 21) hx hb dK_get_8 (by decide) (fun q => absurd q (by decide)) (fun _ => ?_)
    exact sk_throwS (own := RK) (E := xIA) (text := "no such finding") (names := sk_RE) (ik := 38) (ix := 129) (ic := 42) hx hb htr hown (by decide) (by decide) (hts _ wkK_38) (hts _ winIA) (vk_R.warm hTW.1 hs129) (sk_hIA h0 hTW hts) hS (hl.1.trans hml.symm) he9 dK_get_11 dK_get_14 dK_get_15 dK_get_17 dK_get_20 (Nat.le_of_ble_eq_true rfl) (Nat.le_of_ble_eq_true rfl) (Nat.le_of_ble_eq_true rfl) (Nat.le_of_ble_eq_true rfl) hlocks
abbrev rzK_getT2 : Room := { frames := 6, cells := 1, slots := 6, locals := 82 }
set_option maxHeartbeats 4000000 in
set_option maxRecDepth 100000 in
theorem kK_getT2 (l : Launch) (dC : Nat → ClassId) (dI : Nat → Nat → Nat) (a : Nat → Nat) (k : Nat → ClassId) (b : sk_Ob) (t : sk_Tr) (f : sk_Fi) (wt : sk_F) (s0 : State) (htr : l.stackTraces = false) (h0 : sk_TW0 s0) (x y : Int32) (K : Nat) (hOK : sk_OK K (b, t, f)) (hco : (sk_get (b, t, f) x y).1 = 2) : sk_MT l yK_get wzK_get rzK_getT2 (va_Pc [.ref (a 0), .int x, .int y] (sk_PT9 s0 dC dI a k (b, t, f) wt)) xIS := by
  refine sk_MT.ofW (cc := cK_get) (maxL := 5) (ret := (some .int)) (by decide) rfl ?_
  intro p e s m args below meth c s₁ B hml he9 hv
  obtain ⟨rfl, ⟨hP, hK, hN⟩, hTW⟩ := hv
  have hx := B.exec
  have hb := B.bytes
  have hts : ∀ w ∈ sk_W, w.before ([.ref (a 0), .int x, .int y] : List Value).toArray s = true := fun w h => atoms_spec (ws := wzK_get) B.pre w (List.mem_cons_of_mem _ h)
  have hown : s.vm.findClass RK = some m.cls := findClass_of_methodNamed B.named
  have hlocks := B.notSynchronized
  have hS : va_S (fun _ => False) s.heap s.heap [] := va_S.rf
  have hP : va_P (dC, dI) vwCl (sk_wR a k (nI b.1) b.2.1 b.2.2.1 b.2.2.2.1 b.2.2.2.2 (nI t.1) t.2.1 t.2.2.1 t.2.2.2.1 t.2.2.2.2 (nI f.1) (nI (sk_there f)) (nI (f.1 % 100)) f.2.1 f.2.2.1 f.2.2.2.1 f.2.2.2.2.1 (fun i => lN (sk_nb (f.2.2.2.2.2.1 i))) (fun i => sk_bI (f.2.2.2.2.2.2 i)) wt) s.heap := hP
  have hl := lv_entry ([.ref (a 0), .int x, .int y]) (n := 5) (Nat.le_of_ble_eq_true rfl)
  rw [lg_entry_eq]
  generalize (lg_sl ([.ref (a 0), .int x, .int y]) ++ List.replicate (5 - (lg_sl ([.ref (a 0), .int x, .int y])).length) Slot.unset).toArray = ls at hl ⊢
  have hl : lv_has ls 5 [(0, .ref (a 0)), (1, .int x), (2, .int y)] := hl
  obtain ⟨sx, hs40, hs51, hs58, hs103, hs113, hs129, hs134⟩ := h0.2.1
  have hT : sk_TO b.1 t := hOK.1
  have hA : sk_AC b.1 b.2.1 := hOK.2.1
  have hO : sk_OO b t := hOK.2.2.1
  have hmk : f.1 ≤ K := hOK.2.2.2.2.2.2.1
  have hK5 : K ≤ 512 := hOK.2.2.2.2.2.1
  have h200 : t.1 ≤ 200 := hT.2.1
  have h60 : b.1 ≤ 60 := hT.2.2.1
  have hfl : ∀ i, i < sk_there f → ∀ x ∈ f.2.2.2.2.2.1 i, x < 60 := fun i hi x hx => Nat.lt_of_lt_of_le ((hOK.2.2.2.2.2.2.2 i hi).2.2.2 x hx) h60
  have h100 : sk_there f ≤ 100 := Nat.min_le_right _ _
  refine lv_aload_n hx hb dK_get_0 rfl (lv_at hl 0 rfl) ?_
  refine va_get (D := (dC, dI)) (ci := 3) (v := .ref (a 3)) (C := RK) (T := TK) (N := 4) hx hb hts inK hown hK hP 0 rfl rfl 2 (by decide) (hts _ wfK_26) (fun _ h9 => h9) rfl dK_get_1 ?_
  refine lv_iload_n hx hb dK_get_4 rfl (lv_at hl 1 rfl) ?_
  refine va_calli (va_runVN (As := [.int x]) (rest := []) ⟨hx, hb, hml, hown, hts⟩ (kF_has l dC dI a k b t f wt x) ⟨va_cnB 1 hts (sk_gC wcF_has) rfl rfl rfl (nlmK_123 hN) (hts _ wnF) (by decide +kernel) ⟨Nat.le_of_ble_eq_true rfl, Nat.le_of_ble_eq_true rfl⟩, hts _ wiF_has, hts _ wsF_has⟩ ⟨sk_blind _, va_recv hK hP (ci := 0) (q0 := 3) rfl rfl, fun U hU hW => ⟨rfl, sk_at (S := (b, t, f)) (wt := wt) hP hK hN hU hW⟩⟩ rfl rfl hl.1 rfl (lv_room (Nat.le_of_ble_eq_true rfl)) dK_get_5 ⟨Nat.le_of_ble_eq_true rfl, Nat.le_of_ble_eq_true rfl⟩) hS (fun _ _ h => h.elim) (fun _ h => h.elim) (fun r5 u5 U9 H locs ht hvm w5 hB hz hk hS => ?_)
  have hP : va_P (dC, dI) vwCl (sk_wR a k (nI b.1) b.2.1 b.2.2.1 b.2.2.2.1 b.2.2.2.2 (nI t.1) t.2.1 t.2.2.1 t.2.2.2.1 t.2.2.2.2 (nI f.1) (nI (sk_there f)) (nI (f.1 % 100)) f.2.1 f.2.2.1 f.2.2.2.1 f.2.2.2.2.1 (fun i => lN (sk_nb (f.2.2.2.2.2.1 i))) (fun i => sk_bI (f.2.2.2.2.2.2 i)) wt) H := hP.kept (fun j q hq => hk q.1 ((hP j q hq).lt) (fun h => h))
  clear hk hB ht
  rcases sk_bI_or (sk_hasB (sk_there f) x) with ⟨h5, hv⟩ | ⟨h5, hv⟩
  · skip
    obtain rfl : r5 = nI 1 := w5.trans hv
    obtain ⟨fi, hfi, efi9⟩ := (sk_hasB_iff (by omega)).mp h5
    subst efi9
    refine lv_if_ne (tgt := 21) hx hb dK_get_8 (by decide) (fun _ => ?_) (fun q => absurd q (by decide))
    refine lv_aload_n hx hb dK_get_21 rfl (lv_at hl 0 rfl) ?_
    refine lv_iload_n hx hb dK_get_22 rfl (lv_at hl 1 rfl) ?_
    refine lv_iload_n hx hb dK_get_23 rfl (lv_at hl 2 rfl) ?_
    refine va_calli (va_runV (As := [.int (nI fi), .int y]) (rest := []) ⟨hx, hb, hml, hown, hts⟩ (kK_holds l dC dI a k b t f wt (nI fi) y K hOK) (cwV 2 hts (sk_gV wmK_131 wiK_holds wsK_holds wnK wcK_holds) rfl rfl rfl (by decide +kernel) ⟨Nat.le_of_ble_eq_true rfl, Nat.le_of_ble_eq_true rfl⟩) ⟨sk_blind _, va_recv hK hP (ci := 3) (q0 := 0) rfl rfl, fun U hU hW => ⟨rfl, sk_at (S := (b, t, f)) (wt := wt) hP hK hN hU hW⟩⟩ rfl rfl hl.1 rfl (lv_room (Nat.le_of_ble_eq_true rfl)) dK_get_24 ⟨Nat.le_of_ble_eq_true rfl, Nat.le_of_ble_eq_true rfl⟩) hS (fun _ _ h => h.elim) (fun _ h => h.elim) (fun r24 u24 U9 H locs ht hvm w24 hB hz hk hS => ?_)
    have hP : va_P (dC, dI) vwCl (sk_wR a k (nI b.1) b.2.1 b.2.2.1 b.2.2.2.1 b.2.2.2.2 (nI t.1) t.2.1 t.2.2.1 t.2.2.2.1 t.2.2.2.2 (nI f.1) (nI (sk_there f)) (nI (f.1 % 100)) f.2.1 f.2.2.1 f.2.2.2.1 f.2.2.2.2.1 (fun i => lN (sk_nb (f.2.2.2.2.2.1 i))) (fun i => sk_bI (f.2.2.2.2.2.2 i)) wt) H := hP.kept (fun j q hq => hk q.1 ((hP j q hq).lt) (fun h => h))
    clear hk hB ht
    rcases sk_bI_or (sk_holds (b, t, f) (nI fi) y) with ⟨h24, hv⟩ | ⟨h24, hv⟩
    · skip
      obtain rfl : r24 = nI 1 := w24.trans hv
      refine lv_if_ne (tgt := 40) hx hb dK_get_27 (by decide) (fun _ => ?_) (fun q => absurd q (by decide))
      exact absurd hco (sk_get_t2 h5 h24)
    · skip
      obtain rfl : r24 = nI 0 := w24.trans hv
      refine lv_if_ne (tgt := 40) hx hb dK_get_27 (by decide) (fun q => absurd q (by decide)) (fun _ => ?_)
      exact sk_throwS (own := RK) (E := xIS) (text := "the finding does not hold for the object") (names := sk_RE) (ik := 49) (ix := 134) (ic := 53) hx hb htr hown (by decide) (by decide) (hts _ wkK_49) (hts _ winIS) (vk_R.warm hTW.1 hs134) (sk_hIS h0 hTW hts) hS (hl.1.trans hml.symm) he9 dK_get_30 dK_get_33 dK_get_34 dK_get_36 dK_get_39 (Nat.le_of_ble_eq_true rfl) (Nat.le_of_ble_eq_true rfl) (Nat.le_of_ble_eq_true rfl) (Nat.le_of_ble_eq_true rfl) hlocks
  · skip
    obtain rfl : r5 = nI 0 := w5.trans hv
    refine lv_if_ne (tgt := 21) hx hb dK_get_8 (by decide) (fun q => absurd q (by decide)) (fun _ => ?_)
    exact absurd ((congrArg Prod.fst (sk_get_1 (b := b) (t := t) (y := y) h5)).symm.trans hco) (by intro q9; cases q9)
abbrev rzK_getT3 : Room := { frames := 6, cells := 1, slots := 6, locals := 82 }
set_option maxHeartbeats 4000000 in
set_option maxRecDepth 100000 in
theorem kK_getT3 (l : Launch) (dC : Nat → ClassId) (dI : Nat → Nat → Nat) (a : Nat → Nat) (k : Nat → ClassId) (b : sk_Ob) (t : sk_Tr) (f : sk_Fi) (wt : sk_F) (s0 : State) (htr : l.stackTraces = false) (h0 : sk_TW0 s0) (x y : Int32) (K : Nat) (hOK : sk_OK K (b, t, f)) (hco : (sk_get (b, t, f) x y).1 = 3) : sk_MT l yK_get wzK_get rzK_getT3 (va_Pc [.ref (a 0), .int x, .int y] (sk_PT9 s0 dC dI a k (b, t, f) wt)) xIO := by
  refine sk_MT.ofW (cc := cK_get) (maxL := 5) (ret := (some .int)) (by decide) rfl ?_
  intro p e s m args below meth c s₁ B hml he9 hv
  obtain ⟨rfl, ⟨hP, hK, hN⟩, hTW⟩ := hv
  have hx := B.exec
  have hb := B.bytes
  have hts : ∀ w ∈ sk_W, w.before ([.ref (a 0), .int x, .int y] : List Value).toArray s = true := fun w h => atoms_spec (ws := wzK_get) B.pre w (List.mem_cons_of_mem _ h)
  have hown : s.vm.findClass RK = some m.cls := findClass_of_methodNamed B.named
  have hlocks := B.notSynchronized
  have hS : va_S (fun _ => False) s.heap s.heap [] := va_S.rf
  have hP : va_P (dC, dI) vwCl (sk_wR a k (nI b.1) b.2.1 b.2.2.1 b.2.2.2.1 b.2.2.2.2 (nI t.1) t.2.1 t.2.2.1 t.2.2.2.1 t.2.2.2.2 (nI f.1) (nI (sk_there f)) (nI (f.1 % 100)) f.2.1 f.2.2.1 f.2.2.2.1 f.2.2.2.2.1 (fun i => lN (sk_nb (f.2.2.2.2.2.1 i))) (fun i => sk_bI (f.2.2.2.2.2.2 i)) wt) s.heap := hP
  have hl := lv_entry ([.ref (a 0), .int x, .int y]) (n := 5) (Nat.le_of_ble_eq_true rfl)
  rw [lg_entry_eq]
  generalize (lg_sl ([.ref (a 0), .int x, .int y]) ++ List.replicate (5 - (lg_sl ([.ref (a 0), .int x, .int y])).length) Slot.unset).toArray = ls at hl ⊢
  have hl : lv_has ls 5 [(0, .ref (a 0)), (1, .int x), (2, .int y)] := hl
  obtain ⟨sx, hs40, hs51, hs58, hs103, hs113, hs129, hs134⟩ := h0.2.1
  have hT : sk_TO b.1 t := hOK.1
  have hA : sk_AC b.1 b.2.1 := hOK.2.1
  have hO : sk_OO b t := hOK.2.2.1
  have hmk : f.1 ≤ K := hOK.2.2.2.2.2.2.1
  have hK5 : K ≤ 512 := hOK.2.2.2.2.2.1
  have h200 : t.1 ≤ 200 := hT.2.1
  have h60 : b.1 ≤ 60 := hT.2.2.1
  have hfl : ∀ i, i < sk_there f → ∀ x ∈ f.2.2.2.2.2.1 i, x < 60 := fun i hi x hx => Nat.lt_of_lt_of_le ((hOK.2.2.2.2.2.2.2 i hi).2.2.2 x hx) h60
  have h100 : sk_there f ≤ 100 := Nat.min_le_right _ _
  refine lv_aload_n hx hb dK_get_0 rfl (lv_at hl 0 rfl) ?_
  refine va_get (D := (dC, dI)) (ci := 3) (v := .ref (a 3)) (C := RK) (T := TK) (N := 4) hx hb hts inK hown hK hP 0 rfl rfl 2 (by decide) (hts _ wfK_26) (fun _ h9 => h9) rfl dK_get_1 ?_
  refine lv_iload_n hx hb dK_get_4 rfl (lv_at hl 1 rfl) ?_
  refine va_calli (va_runVN (As := [.int x]) (rest := []) ⟨hx, hb, hml, hown, hts⟩ (kF_has l dC dI a k b t f wt x) ⟨va_cnB 1 hts (sk_gC wcF_has) rfl rfl rfl (nlmK_123 hN) (hts _ wnF) (by decide +kernel) ⟨Nat.le_of_ble_eq_true rfl, Nat.le_of_ble_eq_true rfl⟩, hts _ wiF_has, hts _ wsF_has⟩ ⟨sk_blind _, va_recv hK hP (ci := 0) (q0 := 3) rfl rfl, fun U hU hW => ⟨rfl, sk_at (S := (b, t, f)) (wt := wt) hP hK hN hU hW⟩⟩ rfl rfl hl.1 rfl (lv_room (Nat.le_of_ble_eq_true rfl)) dK_get_5 ⟨Nat.le_of_ble_eq_true rfl, Nat.le_of_ble_eq_true rfl⟩) hS (fun _ _ h => h.elim) (fun _ h => h.elim) (fun r5 u5 U9 H locs ht hvm w5 hB hz hk hS => ?_)
  have hP : va_P (dC, dI) vwCl (sk_wR a k (nI b.1) b.2.1 b.2.2.1 b.2.2.2.1 b.2.2.2.2 (nI t.1) t.2.1 t.2.2.1 t.2.2.2.1 t.2.2.2.2 (nI f.1) (nI (sk_there f)) (nI (f.1 % 100)) f.2.1 f.2.2.1 f.2.2.2.1 f.2.2.2.2.1 (fun i => lN (sk_nb (f.2.2.2.2.2.1 i))) (fun i => sk_bI (f.2.2.2.2.2.2 i)) wt) H := hP.kept (fun j q hq => hk q.1 ((hP j q hq).lt) (fun h => h))
  clear hk hB ht
  rcases sk_bI_or (sk_hasB (sk_there f) x) with ⟨h5, hv⟩ | ⟨h5, hv⟩
  · skip
    obtain rfl : r5 = nI 1 := w5.trans hv
    obtain ⟨fi, hfi, efi9⟩ := (sk_hasB_iff (by omega)).mp h5
    subst efi9
    refine lv_if_ne (tgt := 21) hx hb dK_get_8 (by decide) (fun _ => ?_) (fun q => absurd q (by decide))
    refine lv_aload_n hx hb dK_get_21 rfl (lv_at hl 0 rfl) ?_
    refine lv_iload_n hx hb dK_get_22 rfl (lv_at hl 1 rfl) ?_
    refine lv_iload_n hx hb dK_get_23 rfl (lv_at hl 2 rfl) ?_
    refine va_calli (va_runV (As := [.int (nI fi), .int y]) (rest := []) ⟨hx, hb, hml, hown, hts⟩ (kK_holds l dC dI a k b t f wt (nI fi) y K hOK) (cwV 2 hts (sk_gV wmK_131 wiK_holds wsK_holds wnK wcK_holds) rfl rfl rfl (by decide +kernel) ⟨Nat.le_of_ble_eq_true rfl, Nat.le_of_ble_eq_true rfl⟩) ⟨sk_blind _, va_recv hK hP (ci := 3) (q0 := 0) rfl rfl, fun U hU hW => ⟨rfl, sk_at (S := (b, t, f)) (wt := wt) hP hK hN hU hW⟩⟩ rfl rfl hl.1 rfl (lv_room (Nat.le_of_ble_eq_true rfl)) dK_get_24 ⟨Nat.le_of_ble_eq_true rfl, Nat.le_of_ble_eq_true rfl⟩) hS (fun _ _ h => h.elim) (fun _ h => h.elim) (fun r24 u24 U9 H locs ht hvm w24 hB hz hk hS => ?_)
    have hP : va_P (dC, dI) vwCl (sk_wR a k (nI b.1) b.2.1 b.2.2.1 b.2.2.2.1 b.2.2.2.2 (nI t.1) t.2.1 t.2.2.1 t.2.2.2.1 t.2.2.2.2 (nI f.1) (nI (sk_there f)) (nI (f.1 % 100)) f.2.1 f.2.2.1 f.2.2.2.1 f.2.2.2.2.1 (fun i => lN (sk_nb (f.2.2.2.2.2.1 i))) (fun i => sk_bI (f.2.2.2.2.2.2 i)) wt) H := hP.kept (fun j q hq => hk q.1 ((hP j q hq).lt) (fun h => h))
    clear hk hB ht
    rcases sk_bI_or (sk_holds (b, t, f) (nI fi) y) with ⟨h24, hv⟩ | ⟨h24, hv⟩
    · skip
      obtain rfl : r24 = nI 1 := w24.trans hv
      refine lv_if_ne (tgt := 40) hx hb dK_get_27 (by decide) (fun _ => ?_) (fun q => absurd q (by decide))
      obtain ⟨o, ho, rfl, hg3⟩ := sk_getk hOK hfi h24
      refine lv_aload_n hx hb dK_get_40 rfl (lv_at hl 0 rfl) ?_
      rcases hg3 with hpl | ⟨k9, hk9, hpl, hho⟩ | ⟨x9, k9, hx9, hk9, hpl, hho⟩
      · skip
        refine va_get (D := (dC, dI)) (ci := 3) (v := .ref (a 3)) (C := RK) (T := TK) (N := 4) hx hb hts inK hown hK hP 0 rfl rfl 2 (by decide) (hts _ wfK_26) (fun _ h9 => h9) rfl dK_get_41 ?_
        refine va_getN (D := (dC, dI)) (ci := 0) (v := .ref (a 16)) (C := RF) (T := TF) (N := 9) hx hb hts inF hown hK hP 3 rfl rfl 3 (by decide) (va_Nw.use rfl (nlfK_136 hN)) (fun _ h9 => h9) rfl dK_get_44 ?_
        refine lv_iload_n hx hb dK_get_47 rfl (lv_at hl 1 rfl) ?_
        refine va_iald hx hb hK hP 16 0 rfl rfl (vp_in_nI (show fi < 100 by omega) (by decide)) dK_get_48 ?_
        refine lv_topi (fun x48 e48 => ?_)
        rw [nI_clamp (show fi < 2 ^ 31 by omega)] at e48
        obtain rfl : x48 = (-1) := e48.trans (hpl)
        refine lv_istore_n (lv' := [(3, .int (-1)), (0, .ref (a 0)), (1, .int (nI fi)), (2, .int (nI o))]) hx hb dK_get_49 rfl hl (by decide) rfl (fun ls hl => ?_)
        refine lv_iload_n hx hb dK_get_50 rfl (lv_at hl 0 rfl) ?_
        refine lv_iconst (v := (-1)) hx hb dK_get_51 (by decide) ?_
        refine lv_icmp_ne (tgt := 65) hx hb dK_get_52 (by decide) (fun q => absurd q (by decide)) (fun _ => ?_)
        exact sk_throwS (own := RK) (E := xIO) (text := "the property is nowhere") (names := sk_RE) (ik := 111) (ix := 113) (ic := 115) hx hb htr hown (by decide) (by decide) (hts _ wkK_111) (hts _ winIO) (vk_R.warm hTW.1 hs113) (sk_hIO h0 hTW hts) hS (hl.1.trans hml.symm) he9 dK_get_55 dK_get_58 dK_get_59 dK_get_61 dK_get_64 (Nat.le_of_ble_eq_true rfl) (Nat.le_of_ble_eq_true rfl) (Nat.le_of_ble_eq_true rfl) (Nat.le_of_ble_eq_true rfl) hlocks
      · skip
        refine va_get (D := (dC, dI)) (ci := 3) (v := .ref (a 3)) (C := RK) (T := TK) (N := 4) hx hb hts inK hown hK hP 0 rfl rfl 2 (by decide) (hts _ wfK_26) (fun _ h9 => h9) rfl dK_get_41 ?_
        refine va_getN (D := (dC, dI)) (ci := 0) (v := .ref (a 16)) (C := RF) (T := TF) (N := 9) hx hb hts inF hown hK hP 3 rfl rfl 3 (by decide) (va_Nw.use rfl (nlfK_136 hN)) (fun _ h9 => h9) rfl dK_get_44 ?_
        refine lv_iload_n hx hb dK_get_47 rfl (lv_at hl 1 rfl) ?_
        refine va_iald hx hb hK hP 16 0 rfl rfl (vp_in_nI (show fi < 100 by omega) (by decide)) dK_get_48 ?_
        refine lv_topi (fun x48 e48 => ?_)
        rw [nI_clamp (show fi < 2 ^ 31 by omega)] at e48
        obtain rfl : x48 = nI k9 := e48.trans (hpl)
        refine lv_istore_n (lv' := [(3, .int (nI k9)), (0, .ref (a 0)), (1, .int (nI fi)), (2, .int (nI o))]) hx hb dK_get_49 rfl hl (by decide) rfl (fun ls hl => ?_)
        refine lv_iload_n hx hb dK_get_50 rfl (lv_at hl 0 rfl) ?_
        refine lv_iconst (v := (-1)) hx hb dK_get_51 (by decide) ?_
        refine lv_icmp_ne (tgt := 65) hx hb dK_get_52 (by decide) (fun c52 => ?_) (fun c52 => ?_)
        · skip
          exact absurd ((congrArg Prod.fst (sk_getA (b := b) (t := t) (by omega) (by omega) hk9 h5 hv.symm hpl hho)).symm.trans hco) (by intro q9; cases q9)
        · skip
          exact absurd c52 (sk_nm1 (by omega))
      · skip
        refine va_get (D := (dC, dI)) (ci := 3) (v := .ref (a 3)) (C := RK) (T := TK) (N := 4) hx hb hts inK hown hK hP 0 rfl rfl 2 (by decide) (hts _ wfK_26) (fun _ h9 => h9) rfl dK_get_41 ?_
        refine va_getN (D := (dC, dI)) (ci := 0) (v := .ref (a 16)) (C := RF) (T := TF) (N := 9) hx hb hts inF hown hK hP 3 rfl rfl 3 (by decide) (va_Nw.use rfl (nlfK_136 hN)) (fun _ h9 => h9) rfl dK_get_44 ?_
        refine lv_iload_n hx hb dK_get_47 rfl (lv_at hl 1 rfl) ?_
        refine va_iald hx hb hK hP 16 0 rfl rfl (vp_in_nI (show fi < 100 by omega) (by decide)) dK_get_48 ?_
        refine lv_topi (fun x48 e48 => ?_)
        rw [nI_clamp (show fi < 2 ^ 31 by omega)] at e48
        obtain rfl : x48 = nI k9 := e48.trans (hpl)
        refine lv_istore_n (lv' := [(3, .int (nI k9)), (0, .ref (a 0)), (1, .int (nI fi)), (2, .int (nI o))]) hx hb dK_get_49 rfl hl (by decide) rfl (fun ls hl => ?_)
        refine lv_iload_n hx hb dK_get_50 rfl (lv_at hl 0 rfl) ?_
        refine lv_iconst (v := (-1)) hx hb dK_get_51 (by decide) ?_
        refine lv_icmp_ne (tgt := 65) hx hb dK_get_52 (by decide) (fun c52 => ?_) (fun c52 => ?_)
        · skip
          exact absurd ((congrArg Prod.fst (sk_getB (b := b) (t := t) (by omega) (by omega) hk9 h5 hv.symm hpl hho)).symm.trans hco) (by intro q9; cases q9)
        · skip
          exact absurd c52 (sk_nm1 (by omega))
    · skip
      obtain rfl : r24 = nI 0 := w24.trans hv
      refine lv_if_ne (tgt := 40) hx hb dK_get_27 (by decide) (fun q => absurd q (by decide)) (fun _ => ?_)
      exact absurd ((congrArg Prod.fst (sk_get_2 (b := b) (t := t) (f := f) h5 hv.symm)).symm.trans hco) (by intro q9; cases q9)
  · skip
    obtain rfl : r5 = nI 0 := w5.trans hv
    refine lv_if_ne (tgt := 21) hx hb dK_get_8 (by decide) (fun q => absurd q (by decide)) (fun _ => ?_)
    exact absurd ((congrArg Prod.fst (sk_get_1 (b := b) (t := t) (y := y) h5)).symm.trans hco) (by intro q9; cases q9)
