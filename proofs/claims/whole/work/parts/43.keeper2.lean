abbrev wzK_find : List Cond := .code yK_find cK_find 9 (some .int) :: sk_W
abbrev rzK_find : Room := { frames := 3, cells := 0, slots := 0, locals := 70 }
set_option maxHeartbeats 4000000 in
set_option maxRecDepth 100000 in
theorem kK_find (l : Launch) (dC : Nat → ClassId) (dI : Nat → Nat → Nat) (a : Nat → Nat) (k : Nat → ClassId) (b : sk_Ob) (t : sk_Tr) (f : sk_Fi) (wt : sk_F) (A : Nat → Prop) (x y : Int32) (K : Nat) (hOK : sk_OK K (b, t, f)) : Met l yK_find wzK_find rzK_find (va_Pc [.ref (a 0), .int x, .int y] (fun U => sk_PX dC dI a k (b, t, f) wt U ∧ va_D A (sk_wX a k (b, t, f) wt))) (va_Qi (fun r (u : sk_S × sk_F) => r = (sk_find (b, t, f) x y).1 ∧ ∃ wt2, u = ((sk_find (b, t, f) x y).2, wt2)) (fun u U => va_P (dC, dI) vwCl (sk_wX a k u.1 u.2) U.heap ∧ va_D A (sk_wX a k u.1 u.2)) A) 0 0 A := by
  refine Met.ofW (cc := cK_find) (maxL := 9) (ret := (some .int)) (by decide) rfl ?_
  intro p e s m args below meth c s₁ B hml hv
  obtain ⟨rfl, ⟨hP, hK, hN⟩, hD⟩ := hv
  have hx := B.exec
  have hb := B.bytes
  have hr := B.returns
  have hts : ∀ w ∈ sk_W, w.before ([.ref (a 0), .int x, .int y] : List Value).toArray s = true := fun w h => atoms_spec (ws := wzK_find) B.pre w (List.mem_cons_of_mem _ h)
  have hown : s.vm.findClass RK = some m.cls := findClass_of_methodNamed B.named
  have hlocks := B.notSynchronized
  have hS : va_S A s.heap s.heap [] := va_S.rf
  have hP : va_P (dC, dI) vwCl (sk_wR a k (nI b.1) b.2.1 b.2.2.1 b.2.2.2.1 b.2.2.2.2 (nI t.1) t.2.1 t.2.2.1 t.2.2.2.1 t.2.2.2.2 (nI f.1) (nI (sk_there f)) (nI (f.1 % 100)) f.2.1 f.2.2.1 f.2.2.2.1 f.2.2.2.2.1 (fun i => lN (sk_nb (f.2.2.2.2.2.1 i))) (fun i => sk_bI (f.2.2.2.2.2.2 i)) wt) s.heap := hP
  have hD : va_D A (sk_wR a k (nI b.1) b.2.1 b.2.2.1 b.2.2.2.1 b.2.2.2.2 (nI t.1) t.2.1 t.2.2.1 t.2.2.2.1 t.2.2.2.2 (nI f.1) (nI (sk_there f)) (nI (f.1 % 100)) f.2.1 f.2.2.1 f.2.2.2.1 f.2.2.2.2.1 (fun i => lN (sk_nb (f.2.2.2.2.2.1 i))) (fun i => sk_bI (f.2.2.2.2.2.2 i)) wt) := hD
  have hl := lv_entry ([.ref (a 0), .int x, .int y]) (n := 9) (Nat.le_of_ble_eq_true rfl)
  rw [lg_entry_eq]
  generalize (lg_sl ([.ref (a 0), .int x, .int y]) ++ List.replicate (9 - (lg_sl ([.ref (a 0), .int x, .int y])).length) Slot.unset).toArray = ls at hl ⊢
  have hl : lv_has ls 9 [(0, .ref (a 0)), (1, .int x), (2, .int y)] := hl
  have hT : sk_TO b.1 t := hOK.1
  have hA : sk_AC b.1 b.2.1 := hOK.2.1
  have hO : sk_OO b t := hOK.2.2.1
  have hmk : f.1 ≤ K := hOK.2.2.2.2.2.2.1
  have hK5 : K ≤ 512 := hOK.2.2.2.2.2.1
  have h200 : t.1 ≤ 200 := hT.2.1
  have h60 : b.1 ≤ 60 := hT.2.2.1
  have hfl : ∀ i, i < sk_there f → ∀ x ∈ f.2.2.2.2.2.1 i, x < 60 := fun i hi x hx => Nat.lt_of_lt_of_le ((hOK.2.2.2.2.2.2.2 i hi).2.2.2 x hx) h60
  refine lv_aload_n hx hb dK_find_0 rfl (lv_at hl 0 rfl) ?_
  refine va_get (D := (dC, dI)) (ci := 3) (v := .ref (a 1)) (C := RK) (T := TK) (N := 4) hx hb hts inK hown hK hP 0 rfl rfl 0 (by decide) (hts _ wfK_10) (fun _ h9 => h9) rfl dK_find_1 ?_
  refine lv_iload_n hx hb dK_find_4 rfl (lv_at hl 1 rfl) ?_
  refine va_calli (va_runVN (As := [.int x]) (rest := []) ⟨hx, hb, hml, hown, hts⟩ (kO_has l dC dI a k b t f wt x) ⟨va_cnB 1 hts (sk_gC wcO_has) rfl rfl rfl (nlmK_64 hN) (hts _ wnO) (by decide +kernel) ⟨Nat.le_of_ble_eq_true rfl, Nat.le_of_ble_eq_true rfl⟩, hts _ wiO_has, hts _ wsO_has⟩ ⟨sk_blind _, va_recv hK hP (ci := 1) (q0 := 1) rfl rfl, fun U hU hW => ⟨rfl, sk_at (S := (b, t, f)) (wt := wt) hP hK hN hU hW⟩⟩ rfl rfl hl.1 rfl (lv_room (Nat.le_of_ble_eq_true rfl)) dK_find_5 ⟨Nat.le_of_ble_eq_true rfl, Nat.le_of_ble_eq_true rfl⟩) hS (fun _ _ h => h.elim) (fun _ h => h.elim) (fun r5 u5 U9 H locs ht hvm w5 hB hz hk hS => ?_)
  have hP : va_P (dC, dI) vwCl (sk_wR a k (nI b.1) b.2.1 b.2.2.1 b.2.2.2.1 b.2.2.2.2 (nI t.1) t.2.1 t.2.2.1 t.2.2.2.1 t.2.2.2.2 (nI f.1) (nI (sk_there f)) (nI (f.1 % 100)) f.2.1 f.2.2.1 f.2.2.2.1 f.2.2.2.2.1 (fun i => lN (sk_nb (f.2.2.2.2.2.1 i))) (fun i => sk_bI (f.2.2.2.2.2.2 i)) wt) H := hP.kept (fun j q hq => hk q.1 ((hP j q hq).lt) (fun h => h))
  clear hk hB ht
  rcases sk_bI_or (sk_hasB b.1 x) with ⟨h5, hv⟩ | ⟨h5, hv⟩
  · skip
    obtain rfl : r5 = nI 1 := w5.trans hv
    obtain ⟨o, ho, eo9⟩ := (sk_hasB_iff (by omega)).mp h5
    subst eo9
    obtain ⟨hs1, hs2, hs3⟩ := sk_shOk h200 hO ho
    refine lv_if_eq (tgt := 18) hx hb dK_find_8 (by decide) (fun q => absurd q (by decide)) (fun _ => ?_)
    refine lv_iload_n hx hb dK_find_11 rfl (lv_at hl 2 rfl) ?_
    refine va_calli (va_runS (As := [.int y]) (rest := []) ⟨hx, hb, hml, hown, hts⟩ (kK_isName l dC dI a k b t f wt y) (cwS 1 hts (sk_gS wmK_67 wiK_isName wnK wcK_isName) rfl rfl rfl (by decide +kernel) ⟨Nat.le_of_ble_eq_true rfl, Nat.le_of_ble_eq_true rfl⟩) ⟨sk_blind _, fun U hU hW => ⟨rfl, sk_at (S := (b, t, f)) (wt := wt) hP hK hN hU hW⟩⟩ rfl rfl hl.1 rfl (lv_room (Nat.le_of_ble_eq_true rfl)) dK_find_12 ⟨Nat.le_of_ble_eq_true rfl, Nat.le_of_ble_eq_true rfl⟩) hS (fun _ _ h => h.elim) (fun _ h => h.elim) (fun r12 u12 U9 H locs ht hvm w12 hB hz hk hS => ?_)
    have hP : va_P (dC, dI) vwCl (sk_wR a k (nI b.1) b.2.1 b.2.2.1 b.2.2.2.1 b.2.2.2.2 (nI t.1) t.2.1 t.2.2.1 t.2.2.2.1 t.2.2.2.2 (nI f.1) (nI (sk_there f)) (nI (f.1 % 100)) f.2.1 f.2.2.1 f.2.2.2.1 f.2.2.2.2.1 (fun i => lN (sk_nb (f.2.2.2.2.2.1 i))) (fun i => sk_bI (f.2.2.2.2.2.2 i)) wt) H := hP.kept (fun j q hq => hk q.1 ((hP j q hq).lt) (fun h => h))
    clear hk hB ht
    rcases sk_bI_or (sk_isN y) with ⟨h12, hv⟩ | ⟨h12, hv⟩
    · skip
      obtain rfl : r12 = nI 1 := w12.trans hv
      refine lv_if_ne (tgt := 20) hx hb dK_find_15 (by decide) (fun _ => ?_) (fun q => absurd q (by decide))
      refine lv_aload_n hx hb dK_find_20 rfl (lv_at hl 0 rfl) ?_
      refine va_get (D := (dC, dI)) (ci := 3) (v := .ref (a 1)) (C := RK) (T := TK) (N := 4) hx hb hts inK hown hK hP 0 rfl rfl 0 (by decide) (hts _ wfK_10) (fun _ h9 => h9) rfl dK_find_21 ?_
      refine va_getN (D := (dC, dI)) (ci := 1) (v := .ref (a 6)) (C := RO) (T := TO) (N := 5) hx hb hts inO hown hK hP 1 rfl rfl 1 (by decide) (va_Nw.use rfl (nlfK_70 hN)) (fun _ h9 => h9) rfl dK_find_24 ?_
      refine lv_iload_n hx hb dK_find_27 rfl (lv_at hl 1 rfl) ?_
      refine va_iald hx hb hK hP 6 0 rfl rfl (vp_in_nI (show o < 60 by omega) (by decide)) dK_find_28 ?_
      refine lv_topi (fun x28 e28 => ?_)
      rw [nI_clamp (show o < 2 ^ 31 by omega)] at e28
      obtain rfl : x28 = nI (sk_sh b o) := e28.trans (hs2)
      refine lv_istore_n (lv' := [(3, .int (nI (sk_sh b o))), (0, .ref (a 0)), (1, .int (nI o)), (2, .int y)]) hx hb dK_find_29 rfl hl (by decide) rfl (fun ls hl => ?_)
      refine lv_aload_n hx hb dK_find_30 rfl (lv_at hl 1 rfl) ?_
      refine va_get (D := (dC, dI)) (ci := 3) (v := .ref (a 2)) (C := RK) (T := TK) (N := 4) hx hb hts inK hown hK hP 0 rfl rfl 1 (by decide) (hts _ wfK_19) (fun _ h9 => h9) rfl dK_find_31 ?_
      refine lv_iload_n hx hb dK_find_34 rfl (lv_at hl 0 rfl) ?_
      refine lv_iload_n hx hb dK_find_35 rfl (lv_at hl 3 rfl) ?_
      refine va_calli (va_runVN (As := [.int (nI (sk_sh b o)), .int y]) (rest := []) ⟨hx, hb, hml, hown, hts⟩ (kT_placeOf l dC dI a k b t f wt (sk_sh b o) y hT hs1) ⟨va_cnB 2 hts (sk_gC wcT_placeOf) rfl rfl rfl (nlmK_72 hN) (hts _ wnT) (by decide +kernel) ⟨Nat.le_of_ble_eq_true rfl, Nat.le_of_ble_eq_true rfl⟩, hts _ wiT_placeOf, hts _ wsT_placeOf⟩ ⟨sk_blind _, va_recv hK hP (ci := 2) (q0 := 2) rfl rfl, fun U hU hW => ⟨rfl, sk_at (S := (b, t, f)) (wt := wt) hP hK hN hU hW⟩⟩ rfl rfl hl.1 rfl (lv_room (Nat.le_of_ble_eq_true rfl)) dK_find_36 ⟨Nat.le_of_ble_eq_true rfl, Nat.le_of_ble_eq_true rfl⟩) hS (fun _ _ h => h.elim) (fun _ h => h.elim) (fun r36 u36 U9 H locs ht hvm w36 hB hz hk hS => ?_)
      have hP : va_P (dC, dI) vwCl (sk_wR a k (nI b.1) b.2.1 b.2.2.1 b.2.2.2.1 b.2.2.2.2 (nI t.1) t.2.1 t.2.2.1 t.2.2.2.1 t.2.2.2.2 (nI f.1) (nI (sk_there f)) (nI (f.1 % 100)) f.2.1 f.2.2.1 f.2.2.2.1 f.2.2.2.2.1 (fun i => lN (sk_nb (f.2.2.2.2.2.1 i))) (fun i => sk_bI (f.2.2.2.2.2.2 i)) wt) H := hP.kept (fun j q hq => hk q.1 ((hP j q hq).lt) (fun h => h))
      clear hk hB ht
      rcases sk_placeOk hT y hs1 with hp | ⟨kk, hk1, hk2, hp⟩
      · skip
        obtain rfl : r36 = -1 := w36.trans hp
        refine lv_istore (lv' := [(4, .int (-1)), (3, .int (nI (sk_sh b o))), (0, .ref (a 0)), (1, .int (nI o)), (2, .int y)]) hx hb dK_find_39 hl (by decide) rfl (fun ls hl => ?_)
        refine lv_iload hx hb dK_find_41 (lv_at hl 0 rfl) ?_
        refine lv_iconst (v := (-1)) hx hb dK_find_43 (by decide) ?_
        refine lv_icmp_eq (tgt := 61) hx hb dK_find_44 (by decide) (fun _ => ?_) (fun q => absurd (by decide) q)
        refine lv_aload_n hx hb dK_find_61 rfl (lv_at hl 2 rfl) ?_
        refine va_get (D := (dC, dI)) (ci := 3) (v := .ref (a 1)) (C := RK) (T := TK) (N := 4) hx hb hts inK hown hK hP 0 rfl rfl 0 (by decide) (hts _ wfK_10) (fun _ h9 => h9) rfl dK_find_62 ?_
        refine va_getN (D := (dC, dI)) (ci := 1) (v := .ref (a 5)) (C := RO) (T := TO) (N := 5) hx hb hts inO hown hK hP 1 rfl rfl 0 (by decide) (va_Nw.use rfl (nlfK_93 hN)) (fun _ h9 => h9) rfl dK_find_65 ?_
        refine lv_iload_n hx hb dK_find_68 rfl (lv_at hl 3 rfl) ?_
        refine va_iald hx hb hK hP 5 0 rfl rfl (vp_in_nI (show o < 60 by omega) (by decide)) dK_find_69 ?_
        refine lv_topi (fun x69 e69 => ?_)
        rw [nI_clamp (show o < 2 ^ 31 by omega)] at e69
        refine lv_istore (lv' := [(5, .int x69), (4, .int (-1)), (3, .int (nI (sk_sh b o))), (0, .ref (a 0)), (1, .int (nI o)), (2, .int y)]) hx hb dK_find_70 hl (by decide) rfl (fun ls hl => ?_)
        refine lv_aload_n hx hb dK_find_72 rfl (lv_at hl 3 rfl) ?_
        refine lv_iload hx hb dK_find_73 (lv_at hl 0 rfl) ?_
        refine lv_iload_n hx hb dK_find_75 rfl (lv_at hl 5 rfl) ?_
        refine va_calli (va_runV (As := [.int x69, .int y]) (rest := []) ⟨hx, hb, hml, hown, hts⟩ (kK_nearestWith l dC dI a k b t f wt x69 y hT hO hA (by rw [e69]; exact hA.2.1 o ho)) (cwV 2 hts (sk_gV wmK_105 wiK_nearestWith wsK_nearestWith wnK wcK_nearestWith) rfl rfl rfl (by decide +kernel) ⟨Nat.le_of_ble_eq_true rfl, Nat.le_of_ble_eq_true rfl⟩) ⟨sk_blind _, va_recv hK hP (ci := 3) (q0 := 0) rfl rfl, fun U hU hW => ⟨rfl, sk_at (S := (b, t, f)) (wt := wt) hP hK hN hU hW⟩⟩ rfl rfl hl.1 rfl (lv_room (Nat.le_of_ble_eq_true rfl)) dK_find_76 ⟨Nat.le_of_ble_eq_true rfl, Nat.le_of_ble_eq_true rfl⟩) hS (fun _ _ h => h.elim) (fun _ h => h.elim) (fun r76 u76 U9 H locs ht hvm w76 hB hz hk hS => ?_)
        have hP : va_P (dC, dI) vwCl (sk_wR a k (nI b.1) b.2.1 b.2.2.1 b.2.2.2.1 b.2.2.2.2 (nI t.1) t.2.1 t.2.2.1 t.2.2.2.1 t.2.2.2.2 (nI f.1) (nI (sk_there f)) (nI (f.1 % 100)) f.2.1 f.2.2.1 f.2.2.2.1 f.2.2.2.2.1 (fun i => lN (sk_nb (f.2.2.2.2.2.1 i))) (fun i => sk_bI (f.2.2.2.2.2.2 i)) wt) H := hP.kept (fun j q hq => hk q.1 ((hP j q hq).lt) (fun h => h))
        clear hk hB ht
        refine lv_istore (lv' := [(6, .int r76), (5, .int x69), (4, .int (-1)), (3, .int (nI (sk_sh b o))), (0, .ref (a 0)), (1, .int (nI o)), (2, .int y)]) hx hb dK_find_79 hl (by decide) rfl (fun ls hl => ?_)
        refine lv_aload_n hx hb dK_find_81 rfl (lv_at hl 4 rfl) ?_
        refine va_get (D := (dC, dI)) (ci := 3) (v := .ref (a 1)) (C := RK) (T := TK) (N := 4) hx hb hts inK hown hK hP 0 rfl rfl 0 (by decide) (hts _ wfK_10) (fun _ h9 => h9) rfl dK_find_82 ?_
        refine lv_iload hx hb dK_find_85 (lv_at hl 1 rfl) ?_
        refine lv_iload hx hb dK_find_87 (lv_at hl 0 rfl) ?_
        refine va_calll (va_runVN (As := [.int x69, .int r76]) (rest := []) ⟨hx, hb, hml, hown, hts⟩ (kO_way l dC dI a k b t f wt x69 r76 hA (by rw [e69]; exact hA.2.1 o ho)) ⟨va_cnB 2 hts (sk_gC wcO_way) rfl rfl rfl (nlmK_119 hN) (hts _ wnO) (by decide +kernel) ⟨Nat.le_of_ble_eq_true rfl, Nat.le_of_ble_eq_true rfl⟩, hts _ wiO_way, hts _ wsO_way⟩ ⟨sk_blind _, va_recv hK hP (ci := 1) (q0 := 1) rfl rfl, fun U hU hW => ⟨rfl, sk_at (S := (b, t, f)) (wt := wt) hP hK hN hU hW⟩⟩ rfl rfl hl.1 rfl (lv_room (Nat.le_of_ble_eq_true rfl)) dK_find_89 ⟨Nat.le_of_ble_eq_true rfl, Nat.le_of_ble_eq_true rfl⟩) hS (fun _ _ h => h.elim) (fun _ h => h.elim) (fun r89 u89 U9 H locs ht hvm w89 hB hz hk hS => ?_)
        have hP : va_P (dC, dI) vwCl (sk_wR a k (nI b.1) b.2.1 b.2.2.1 b.2.2.2.1 b.2.2.2.2 (nI t.1) t.2.1 t.2.2.1 t.2.2.2.1 t.2.2.2.2 (nI f.1) (nI (sk_there f)) (nI (f.1 % 100)) f.2.1 f.2.2.1 f.2.2.2.1 f.2.2.2.2.1 (fun i => lN (sk_nb (f.2.2.2.2.2.1 i))) (fun i => sk_bI (f.2.2.2.2.2.2 i)) wt) H := hP.kept (fun j q hq => hk q.1 ((hP j q hq).lt) (fun h => h))
        clear hk hB ht
        have hlt9 := sk_abv_lt hA (hA.2.1 o ho)
        obtain rfl : r89 = lN (sk_nb (sk_upto (sk_own b t y) (sk_abv b.2.1 (b.2.1 o)))) := w89.trans (by rw [w76, e69, sk_uptoV _ (fun x hx => Nat.lt_of_lt_of_le (hlt9 x hx) h60)])
        refine lv_lstore (lv' := [(7, .long (lN (sk_nb (sk_upto (sk_own b t y) (sk_abv b.2.1 (b.2.1 o)))))), (6, .int r76), (5, .int x69), (4, .int (-1)), (3, .int (nI (sk_sh b o))), (0, .ref (a 0)), (1, .int (nI o)), (2, .int y)]) hx hb dK_find_92 hl (by decide) rfl (fun ls hl => ?_)
        refine lv_aload_n hx hb dK_find_94 rfl (lv_at hl 5 rfl) ?_
        refine va_get (D := (dC, dI)) (ci := 3) (v := .ref (a 3)) (C := RK) (T := TK) (N := 4) hx hb hts inK hown hK hP 0 rfl rfl 2 (by decide) (hts _ wfK_26) (fun _ h9 => h9) rfl dK_find_95 ?_
        refine lv_iload_n hx hb dK_find_98 rfl (lv_at hl 4 rfl) ?_
        refine lv_iload_n hx hb dK_find_99 rfl (lv_at hl 7 rfl) ?_
        refine lv_iload hx hb dK_find_100 (lv_at hl 1 rfl) ?_
        refine lv_aload_n hx hb dK_find_102 rfl (lv_at hl 5 rfl) ?_
        refine lv_iload hx hb dK_find_103 (lv_at hl 1 rfl) ?_
        refine lv_iload_n hx hb dK_find_105 rfl (lv_at hl 7 rfl) ?_
        refine va_calli (va_runV (As := [.int r76, .int y]) (rest := [.int r76, .int y, .int (nI (sk_sh b o)), .ref (a 3)]) ⟨hx, hb, hml, hown, hts⟩ (kK_ownPlace l dC dI a k b t f wt r76 y hT hO (by rw [w76, e69]; exact sk_nw_v hlt9)) (cwV 2 hts (sk_gV wmK_108 wiK_ownPlace wsK_ownPlace wnK wcK_ownPlace) rfl rfl rfl (by decide +kernel) ⟨Nat.le_of_ble_eq_true rfl, Nat.le_of_ble_eq_true rfl⟩) ⟨sk_blind _, va_recv hK hP (ci := 3) (q0 := 0) rfl rfl, fun U hU hW => ⟨rfl, sk_at (S := (b, t, f)) (wt := wt) hP hK hN hU hW⟩⟩ rfl rfl hl.1 rfl (lv_room (Nat.le_of_ble_eq_true rfl)) dK_find_106 ⟨Nat.le_of_ble_eq_true rfl, Nat.le_of_ble_eq_true rfl⟩) hS (fun _ _ h => h.elim) (fun _ h => h.elim) (fun r106 u106 U9 H locs ht hvm w106 hB hz hk hS => ?_)
        have hP : va_P (dC, dI) vwCl (sk_wR a k (nI b.1) b.2.1 b.2.2.1 b.2.2.2.1 b.2.2.2.2 (nI t.1) t.2.1 t.2.2.1 t.2.2.2.1 t.2.2.2.2 (nI f.1) (nI (sk_there f)) (nI (f.1 % 100)) f.2.1 f.2.2.1 f.2.2.2.1 f.2.2.2.2.1 (fun i => lN (sk_nb (f.2.2.2.2.2.1 i))) (fun i => sk_bI (f.2.2.2.2.2.2 i)) wt) H := hP.kept (fun j q hq => hk q.1 ((hP j q hq).lt) (fun h => h))
        clear hk hB ht
        refine lv_lload hx hb dK_find_109 (lv_at hl 0 rfl) ?_
        refine va_calli (va_runVN (As := [.int (nI (sk_sh b o)), .int y, .int r76, .int r106, .long (lN (sk_nb (sk_upto (sk_own b t y) (sk_abv b.2.1 (b.2.1 o)))))]) (rest := []) ⟨hx, hb, hml, hown, hts⟩ (kF_add l dC dI a k b t f wt A (nI (sk_sh b o)) y r76 r106 (sk_upto (sk_own b t y) (sk_abv b.2.1 (b.2.1 o))) (by omega)) ⟨va_cnB 5 hts (sk_gC wcF_add) rfl rfl rfl (nlmK_116 hN) (hts _ wnF) (by decide +kernel) ⟨Nat.le_of_ble_eq_true rfl, Nat.le_of_ble_eq_true rfl⟩, hts _ wiF_add, hts _ wsF_add⟩ ⟨sk_blindD _, va_recv hK hP (ci := 0) (q0 := 3) rfl rfl, fun U hU hW => ⟨rfl, sk_at (S := (b, t, f)) (wt := wt) hP hK hN hU hW, hD⟩⟩ rfl rfl hl.1 rfl (lv_room (Nat.le_of_ble_eq_true rfl)) dK_find_111 ⟨Nat.le_of_ble_eq_true rfl, Nat.le_of_ble_eq_true rfl⟩) hS (fun _ _ h => h) (fun _ h => h) (fun r111 u111 U9 H locs ht hvm w111 hB hz hk hS => ?_)
        obtain ⟨hP, hD⟩ := hB
        rw [ht] at hP
        obtain ⟨rfl, rfl⟩ := w111
        have hP : va_P (dC, dI) vwCl (sk_wR a k (nI b.1) b.2.1 b.2.2.1 b.2.2.2.1 b.2.2.2.2 (nI t.1) t.2.1 t.2.2.1 t.2.2.2.1 t.2.2.2.2 (nI (sk_add f (nI (sk_sh b o)) y r76 r106 (sk_upto (sk_own b t y) (sk_abv b.2.1 (b.2.1 o)))).1) (nI (sk_there (sk_add f (nI (sk_sh b o)) y r76 r106 (sk_upto (sk_own b t y) (sk_abv b.2.1 (b.2.1 o)))))) (nI ((sk_add f (nI (sk_sh b o)) y r76 r106 (sk_upto (sk_own b t y) (sk_abv b.2.1 (b.2.1 o)))).1 % 100)) ((sk_add f (nI (sk_sh b o)) y r76 r106 (sk_upto (sk_own b t y) (sk_abv b.2.1 (b.2.1 o)))).2.1) ((sk_add f (nI (sk_sh b o)) y r76 r106 (sk_upto (sk_own b t y) (sk_abv b.2.1 (b.2.1 o)))).2.2.1) ((sk_add f (nI (sk_sh b o)) y r76 r106 (sk_upto (sk_own b t y) (sk_abv b.2.1 (b.2.1 o)))).2.2.2.1) ((sk_add f (nI (sk_sh b o)) y r76 r106 (sk_upto (sk_own b t y) (sk_abv b.2.1 (b.2.1 o)))).2.2.2.2.1) (fun i => lN (sk_nb ((sk_add f (nI (sk_sh b o)) y r76 r106 (sk_upto (sk_own b t y) (sk_abv b.2.1 (b.2.1 o)))).2.2.2.2.2.1 i))) (fun i => sk_bI ((sk_add f (nI (sk_sh b o)) y r76 r106 (sk_upto (sk_own b t y) (sk_abv b.2.1 (b.2.1 o)))).2.2.2.2.2.2 i)) wt) H := hP
        have hD : va_D A (sk_wR a k (nI b.1) b.2.1 b.2.2.1 b.2.2.2.1 b.2.2.2.2 (nI t.1) t.2.1 t.2.2.1 t.2.2.2.1 t.2.2.2.2 (nI (sk_add f (nI (sk_sh b o)) y r76 r106 (sk_upto (sk_own b t y) (sk_abv b.2.1 (b.2.1 o)))).1) (nI (sk_there (sk_add f (nI (sk_sh b o)) y r76 r106 (sk_upto (sk_own b t y) (sk_abv b.2.1 (b.2.1 o)))))) (nI ((sk_add f (nI (sk_sh b o)) y r76 r106 (sk_upto (sk_own b t y) (sk_abv b.2.1 (b.2.1 o)))).1 % 100)) ((sk_add f (nI (sk_sh b o)) y r76 r106 (sk_upto (sk_own b t y) (sk_abv b.2.1 (b.2.1 o)))).2.1) ((sk_add f (nI (sk_sh b o)) y r76 r106 (sk_upto (sk_own b t y) (sk_abv b.2.1 (b.2.1 o)))).2.2.1) ((sk_add f (nI (sk_sh b o)) y r76 r106 (sk_upto (sk_own b t y) (sk_abv b.2.1 (b.2.1 o)))).2.2.2.1) ((sk_add f (nI (sk_sh b o)) y r76 r106 (sk_upto (sk_own b t y) (sk_abv b.2.1 (b.2.1 o)))).2.2.2.2.1) (fun i => lN (sk_nb ((sk_add f (nI (sk_sh b o)) y r76 r106 (sk_upto (sk_own b t y) (sk_abv b.2.1 (b.2.1 o)))).2.2.2.2.2.1 i))) (fun i => sk_bI ((sk_add f (nI (sk_sh b o)) y r76 r106 (sk_upto (sk_own b t y) (sk_abv b.2.1 (b.2.1 o)))).2.2.2.2.2.2 i)) wt) := hD
        have hset := sk_find_y (t := t) (f := f) h60 ho h12
        rw [sk_find_2 hs2 hp (by rw [w76, e69]) w106] at hset
        exact W.iret (v := nI (f.1 % 100)) hx hb hr (fun U9 ht hW => ⟨⟨nI (f.1 % 100), ((b, t, sk_add f (nI (sk_sh b o)) y r76 r106 (sk_upto (sk_own b t y) (sk_abv b.2.1 (b.2.1 o)))), wt), rfl, ⟨by rw [hset], wt, by rw [hset]⟩, sk_endw ht hP hD⟩, hS.F ht⟩) hS.2.2 dK_find_114
      · skip
        obtain rfl : r36 = nI kk := w36.trans hp
        refine lv_istore (lv' := [(4, .int (nI kk)), (3, .int (nI (sk_sh b o))), (0, .ref (a 0)), (1, .int (nI o)), (2, .int y)]) hx hb dK_find_39 hl (by decide) rfl (fun ls hl => ?_)
        refine lv_iload hx hb dK_find_41 (lv_at hl 0 rfl) ?_
        refine lv_iconst (v := (-1)) hx hb dK_find_43 (by decide) ?_
        refine lv_icmp_eq (tgt := 61) hx hb dK_find_44 (by decide) (fun c44 => ?_) (fun c44 => ?_)
        · skip
          exact absurd c44 (sk_nm1 (by omega))
        · skip
          refine lv_aload_n hx hb dK_find_47 rfl (lv_at hl 2 rfl) ?_
          refine va_get (D := (dC, dI)) (ci := 3) (v := .ref (a 3)) (C := RK) (T := TK) (N := 4) hx hb hts inK hown hK hP 0 rfl rfl 2 (by decide) (hts _ wfK_26) (fun _ h9 => h9) rfl dK_find_48 ?_
          refine lv_iload_n hx hb dK_find_51 rfl (lv_at hl 1 rfl) ?_
          refine lv_iload_n hx hb dK_find_52 rfl (lv_at hl 4 rfl) ?_
          refine lv_iconst (v := (-1)) hx hb dK_find_53 (by decide) ?_
          refine lv_iload hx hb dK_find_54 (lv_at hl 0 rfl) ?_
          refine lv_lconst (v := lN 0) hx hb dK_find_56 (by decide) ?_
          refine va_calli (va_runVN (As := [.int (nI (sk_sh b o)), .int y, .int (-1), .int (nI kk), .long (lN 0)]) (rest := []) ⟨hx, hb, hml, hown, hts⟩ (kF_add l dC dI a k b t f wt A (nI (sk_sh b o)) y (-1) (nI kk) [] (by omega)) ⟨va_cnB 5 hts (sk_gC wcF_add) rfl rfl rfl (nlmK_116 hN) (hts _ wnF) (by decide +kernel) ⟨Nat.le_of_ble_eq_true rfl, Nat.le_of_ble_eq_true rfl⟩, hts _ wiF_add, hts _ wsF_add⟩ ⟨sk_blindD _, va_recv hK hP (ci := 0) (q0 := 3) rfl rfl, fun U hU hW => ⟨rfl, sk_at (S := (b, t, f)) (wt := wt) hP hK hN hU hW, hD⟩⟩ rfl rfl hl.1 rfl (lv_room (Nat.le_of_ble_eq_true rfl)) dK_find_57 ⟨Nat.le_of_ble_eq_true rfl, Nat.le_of_ble_eq_true rfl⟩) hS (fun _ _ h => h) (fun _ h => h) (fun r57 u57 U9 H locs ht hvm w57 hB hz hk hS => ?_)
          obtain ⟨hP, hD⟩ := hB
          rw [ht] at hP
          obtain ⟨rfl, rfl⟩ := w57
          have hP : va_P (dC, dI) vwCl (sk_wR a k (nI b.1) b.2.1 b.2.2.1 b.2.2.2.1 b.2.2.2.2 (nI t.1) t.2.1 t.2.2.1 t.2.2.2.1 t.2.2.2.2 (nI (sk_add f (nI (sk_sh b o)) y (-1) (nI kk) []).1) (nI (sk_there (sk_add f (nI (sk_sh b o)) y (-1) (nI kk) []))) (nI ((sk_add f (nI (sk_sh b o)) y (-1) (nI kk) []).1 % 100)) ((sk_add f (nI (sk_sh b o)) y (-1) (nI kk) []).2.1) ((sk_add f (nI (sk_sh b o)) y (-1) (nI kk) []).2.2.1) ((sk_add f (nI (sk_sh b o)) y (-1) (nI kk) []).2.2.2.1) ((sk_add f (nI (sk_sh b o)) y (-1) (nI kk) []).2.2.2.2.1) (fun i => lN (sk_nb ((sk_add f (nI (sk_sh b o)) y (-1) (nI kk) []).2.2.2.2.2.1 i))) (fun i => sk_bI ((sk_add f (nI (sk_sh b o)) y (-1) (nI kk) []).2.2.2.2.2.2 i)) wt) H := hP
          have hD : va_D A (sk_wR a k (nI b.1) b.2.1 b.2.2.1 b.2.2.2.1 b.2.2.2.2 (nI t.1) t.2.1 t.2.2.1 t.2.2.2.1 t.2.2.2.2 (nI (sk_add f (nI (sk_sh b o)) y (-1) (nI kk) []).1) (nI (sk_there (sk_add f (nI (sk_sh b o)) y (-1) (nI kk) []))) (nI ((sk_add f (nI (sk_sh b o)) y (-1) (nI kk) []).1 % 100)) ((sk_add f (nI (sk_sh b o)) y (-1) (nI kk) []).2.1) ((sk_add f (nI (sk_sh b o)) y (-1) (nI kk) []).2.2.1) ((sk_add f (nI (sk_sh b o)) y (-1) (nI kk) []).2.2.2.1) ((sk_add f (nI (sk_sh b o)) y (-1) (nI kk) []).2.2.2.2.1) (fun i => lN (sk_nb ((sk_add f (nI (sk_sh b o)) y (-1) (nI kk) []).2.2.2.2.2.1 i))) (fun i => sk_bI ((sk_add f (nI (sk_sh b o)) y (-1) (nI kk) []).2.2.2.2.2.2 i)) wt) := hD
          have hset := sk_find_y (t := t) (f := f) h60 ho h12
          rw [sk_find_1 hk2 hs2 hp] at hset
          exact W.iret (v := nI (f.1 % 100)) hx hb hr (fun U9 ht hW => ⟨⟨nI (f.1 % 100), ((b, t, sk_add f (nI (sk_sh b o)) y (-1) (nI kk) []), wt), rfl, ⟨by rw [hset], wt, by rw [hset]⟩, sk_endw ht hP hD⟩, hS.F ht⟩) hS.2.2 dK_find_60
    · skip
      obtain rfl : r12 = nI 0 := w12.trans hv
      refine lv_if_ne (tgt := 20) hx hb dK_find_15 (by decide) (fun q => absurd q (by decide)) (fun _ => ?_)
      refine lv_iconst (v := (-1)) hx hb dK_find_18 (by decide) ?_
      exact W.iret (v := (-1)) hx hb hr (fun U9 ht hW => ⟨⟨(-1), ((b, t, f), wt), rfl, ⟨by rw [sk_find_n (by show (sk_hasB b.1 _ && sk_isN y) = false; rw [h12, Bool.and_false])], wt, by rw [sk_find_n (by show (sk_hasB b.1 _ && sk_isN y) = false; rw [h12, Bool.and_false])]⟩, sk_endw ht hP hD⟩, hS.F ht⟩) hS.2.2 dK_find_19
  · skip
    obtain rfl : r5 = nI 0 := w5.trans hv
    refine lv_if_eq (tgt := 18) hx hb dK_find_8 (by decide) (fun _ => ?_) (fun q => absurd (by decide) q)
    refine lv_iconst (v := (-1)) hx hb dK_find_18 (by decide) ?_
    exact W.iret (v := (-1)) hx hb hr (fun U9 ht hW => ⟨⟨(-1), ((b, t, f), wt), rfl, ⟨by rw [sk_find_n (by show (sk_hasB b.1 _ && sk_isN y) = false; rw [h5, Bool.false_and])], wt, by rw [sk_find_n (by show (sk_hasB b.1 _ && sk_isN y) = false; rw [h5, Bool.false_and])]⟩, sk_endw ht hP hD⟩, hS.F ht⟩) hS.2.2 dK_find_19
abbrev wzK_holds : List Cond := .code yK_holds cK_holds 3 (some .boolean) :: sk_W
abbrev rzK_holds : Room := { frames := 1, cells := 0, slots := 0, locals := 21 }
set_option maxHeartbeats 4000000 in
set_option maxRecDepth 100000 in
theorem kK_holds (l : Launch) (dC : Nat → ClassId) (dI : Nat → Nat → Nat) (a : Nat → Nat) (k : Nat → ClassId) (b : sk_Ob) (t : sk_Tr) (f : sk_Fi) (wt : sk_F) (x y : Int32) (K : Nat) (hOK : sk_OK K (b, t, f)) : Met l yK_holds wzK_holds rzK_holds (va_Pc [.ref (a 0), .int x, .int y] (sk_PX dC dI a k (b, t, f) wt)) (va_Qi (fun r (_ : Unit) => r = sk_bI (sk_holds (b, t, f) x y)) (fun _ _ => True) (fun _ => False)) 0 0 (fun _ => False) := by
  refine Met.ofW (cc := cK_holds) (maxL := 3) (ret := (some .boolean)) (by decide) rfl ?_
  intro p e s m args below meth c s₁ B hml hv
  obtain ⟨rfl, hP, hK, hN⟩ := hv
  have hx := B.exec
  have hb := B.bytes
  have hr := B.returns
  have hts : ∀ w ∈ sk_W, w.before ([.ref (a 0), .int x, .int y] : List Value).toArray s = true := fun w h => atoms_spec (ws := wzK_holds) B.pre w (List.mem_cons_of_mem _ h)
  have hown : s.vm.findClass RK = some m.cls := findClass_of_methodNamed B.named
  have hlocks := B.notSynchronized
  have hS : va_S (fun _ => False) s.heap s.heap [] := va_S.rf
  have hP : va_P (dC, dI) vwCl (sk_wR a k (nI b.1) b.2.1 b.2.2.1 b.2.2.2.1 b.2.2.2.2 (nI t.1) t.2.1 t.2.2.1 t.2.2.2.1 t.2.2.2.2 (nI f.1) (nI (sk_there f)) (nI (f.1 % 100)) f.2.1 f.2.2.1 f.2.2.2.1 f.2.2.2.2.1 (fun i => lN (sk_nb (f.2.2.2.2.2.1 i))) (fun i => sk_bI (f.2.2.2.2.2.2 i)) wt) s.heap := hP
  have hl := lv_entry ([.ref (a 0), .int x, .int y]) (n := 3) (Nat.le_of_ble_eq_true rfl)
  rw [lg_entry_eq]
  generalize (lg_sl ([.ref (a 0), .int x, .int y]) ++ List.replicate (3 - (lg_sl ([.ref (a 0), .int x, .int y])).length) Slot.unset).toArray = ls at hl ⊢
  have hl : lv_has ls 3 [(0, .ref (a 0)), (1, .int x), (2, .int y)] := hl
  have hT : sk_TO b.1 t := hOK.1
  have hA : sk_AC b.1 b.2.1 := hOK.2.1
  have hO : sk_OO b t := hOK.2.2.1
  have hmk : f.1 ≤ K := hOK.2.2.2.2.2.2.1
  have hK5 : K ≤ 512 := hOK.2.2.2.2.2.1
  have h200 : t.1 ≤ 200 := hT.2.1
  have h60 : b.1 ≤ 60 := hT.2.2.1
  have hfl : ∀ i, i < sk_there f → ∀ x ∈ f.2.2.2.2.2.1 i, x < 60 := fun i hi x hx => Nat.lt_of_lt_of_le ((hOK.2.2.2.2.2.2.2 i hi).2.2.2 x hx) h60
  have h100 : sk_there f ≤ 100 := Nat.min_le_right _ _
  refine lv_aload_n hx hb dK_holds_0 rfl (lv_at hl 0 rfl) ?_
  refine va_get (D := (dC, dI)) (ci := 3) (v := .ref (a 3)) (C := RK) (T := TK) (N := 4) hx hb hts inK hown hK hP 0 rfl rfl 2 (by decide) (hts _ wfK_26) (fun _ h9 => h9) rfl dK_holds_1 ?_
  refine lv_iload_n hx hb dK_holds_4 rfl (lv_at hl 1 rfl) ?_
  refine va_calli (va_runVN (As := [.int x]) (rest := []) ⟨hx, hb, hml, hown, hts⟩ (kF_has l dC dI a k b t f wt x) ⟨va_cnB 1 hts (sk_gC wcF_has) rfl rfl rfl (nlmK_123 hN) (hts _ wnF) (by decide +kernel) ⟨Nat.le_of_ble_eq_true rfl, Nat.le_of_ble_eq_true rfl⟩, hts _ wiF_has, hts _ wsF_has⟩ ⟨sk_blind _, va_recv hK hP (ci := 0) (q0 := 3) rfl rfl, fun U hU hW => ⟨rfl, sk_at (S := (b, t, f)) (wt := wt) hP hK hN hU hW⟩⟩ rfl rfl hl.1 rfl (lv_room (Nat.le_of_ble_eq_true rfl)) dK_holds_5 ⟨Nat.le_of_ble_eq_true rfl, Nat.le_of_ble_eq_true rfl⟩) hS (fun _ _ h => h.elim) (fun _ h => h.elim) (fun r5 u5 U9 H locs ht hvm w5 hB hz hk hS => ?_)
  have hP : va_P (dC, dI) vwCl (sk_wR a k (nI b.1) b.2.1 b.2.2.1 b.2.2.2.1 b.2.2.2.2 (nI t.1) t.2.1 t.2.2.1 t.2.2.2.1 t.2.2.2.2 (nI f.1) (nI (sk_there f)) (nI (f.1 % 100)) f.2.1 f.2.2.1 f.2.2.2.1 f.2.2.2.2.1 (fun i => lN (sk_nb (f.2.2.2.2.2.1 i))) (fun i => sk_bI (f.2.2.2.2.2.2 i)) wt) H := hP.kept (fun j q hq => hk q.1 ((hP j q hq).lt) (fun h => h))
  clear hk hB ht
  rcases sk_bI_or (sk_hasB (sk_there f) x) with ⟨h5, hv⟩ | ⟨h5, hv⟩
  · skip
    obtain rfl : r5 = nI 1 := w5.trans hv
    obtain ⟨fi, hfi, efi9⟩ := (sk_hasB_iff (by omega)).mp h5
    subst efi9
    refine lv_if_eq (tgt := 59) hx hb dK_holds_8 (by decide) (fun q => absurd q (by decide)) (fun _ => ?_)
    refine lv_aload_n hx hb dK_holds_11 rfl (lv_at hl 0 rfl) ?_
    refine va_get (D := (dC, dI)) (ci := 3) (v := .ref (a 1)) (C := RK) (T := TK) (N := 4) hx hb hts inK hown hK hP 0 rfl rfl 0 (by decide) (hts _ wfK_10) (fun _ h9 => h9) rfl dK_holds_12 ?_
    refine lv_iload_n hx hb dK_holds_15 rfl (lv_at hl 2 rfl) ?_
    refine va_calli (va_runVN (As := [.int y]) (rest := []) ⟨hx, hb, hml, hown, hts⟩ (kO_has l dC dI a k b t f wt y) ⟨va_cnB 1 hts (sk_gC wcO_has) rfl rfl rfl (nlmK_64 hN) (hts _ wnO) (by decide +kernel) ⟨Nat.le_of_ble_eq_true rfl, Nat.le_of_ble_eq_true rfl⟩, hts _ wiO_has, hts _ wsO_has⟩ ⟨sk_blind _, va_recv hK hP (ci := 1) (q0 := 1) rfl rfl, fun U hU hW => ⟨rfl, sk_at (S := (b, t, f)) (wt := wt) hP hK hN hU hW⟩⟩ rfl rfl hl.1 rfl (lv_room (Nat.le_of_ble_eq_true rfl)) dK_holds_16 ⟨Nat.le_of_ble_eq_true rfl, Nat.le_of_ble_eq_true rfl⟩) hS (fun _ _ h => h.elim) (fun _ h => h.elim) (fun r16 u16 U9 H locs ht hvm w16 hB hz hk hS => ?_)
    have hP : va_P (dC, dI) vwCl (sk_wR a k (nI b.1) b.2.1 b.2.2.1 b.2.2.2.1 b.2.2.2.2 (nI t.1) t.2.1 t.2.2.1 t.2.2.2.1 t.2.2.2.2 (nI f.1) (nI (sk_there f)) (nI (f.1 % 100)) f.2.1 f.2.2.1 f.2.2.2.1 f.2.2.2.2.1 (fun i => lN (sk_nb (f.2.2.2.2.2.1 i))) (fun i => sk_bI (f.2.2.2.2.2.2 i)) wt) H := hP.kept (fun j q hq => hk q.1 ((hP j q hq).lt) (fun h => h))
    clear hk hB ht
    rcases sk_bI_or (sk_hasB b.1 y) with ⟨h16, hv⟩ | ⟨h16, hv⟩
    · skip
      obtain rfl : r16 = nI 1 := w16.trans hv
      obtain ⟨o, ho, eo9⟩ := (sk_hasB_iff (by omega)).mp h16
      subst eo9
      refine lv_if_eq (tgt := 59) hx hb dK_holds_19 (by decide) (fun q => absurd q (by decide)) (fun _ => ?_)
      refine lv_aload_n hx hb dK_holds_22 rfl (lv_at hl 0 rfl) ?_
      refine va_get (D := (dC, dI)) (ci := 3) (v := .ref (a 3)) (C := RK) (T := TK) (N := 4) hx hb hts inK hown hK hP 0 rfl rfl 2 (by decide) (hts _ wfK_26) (fun _ h9 => h9) rfl dK_holds_23 ?_
      refine va_getN (D := (dC, dI)) (ci := 0) (v := .ref (a 18)) (C := RF) (T := TF) (N := 9) hx hb hts inF hown hK hP 3 rfl rfl 5 (by decide) (va_Nw.use rfl (nlfK_124 hN)) (fun _ h9 => h9) rfl dK_holds_26 ?_
      refine lv_iload_n hx hb dK_holds_29 rfl (lv_at hl 1 rfl) ?_
      refine va_zald hx hb hK hP 18 1 rfl rfl (vp_in_nI (show fi < 100 by omega) (by decide)) dK_holds_30 ?_
      refine lv_topi (fun x30 e30 => ?_)
      rw [nI_clamp (show fi < 2 ^ 31 by omega)] at e30
      rcases sk_bI_or (f.2.2.2.2.2.2 fi) with ⟨h30, hv⟩ | ⟨h30, hv⟩
      · skip
        obtain rfl : x30 = nI 1 := e30.trans hv
        refine lv_if_eq (tgt := 59) hx hb dK_holds_31 (by decide) (fun q => absurd q (by decide)) (fun _ => ?_)
        refine lv_aload_n hx hb dK_holds_34 rfl (lv_at hl 0 rfl) ?_
        refine va_get (D := (dC, dI)) (ci := 3) (v := .ref (a 3)) (C := RK) (T := TK) (N := 4) hx hb hts inK hown hK hP 0 rfl rfl 2 (by decide) (hts _ wfK_26) (fun _ h9 => h9) rfl dK_holds_35 ?_
        refine va_getN (D := (dC, dI)) (ci := 0) (v := .ref (a 13)) (C := RF) (T := TF) (N := 9) hx hb hts inF hown hK hP 3 rfl rfl 0 (by decide) (va_Nw.use rfl (nlfK_128 hN)) (fun _ h9 => h9) rfl dK_holds_38 ?_
        refine lv_iload_n hx hb dK_holds_41 rfl (lv_at hl 1 rfl) ?_
        refine va_iald hx hb hK hP 13 0 rfl rfl (vp_in_nI (show fi < 100 by omega) (by decide)) dK_holds_42 ?_
        refine lv_topi (fun x42 e42 => ?_)
        rw [nI_clamp (show fi < 2 ^ 31 by omega)] at e42
        refine lv_aload_n hx hb dK_holds_43 rfl (lv_at hl 0 rfl) ?_
        refine va_get (D := (dC, dI)) (ci := 3) (v := .ref (a 1)) (C := RK) (T := TK) (N := 4) hx hb hts inK hown hK hP 0 rfl rfl 0 (by decide) (hts _ wfK_10) (fun _ h9 => h9) rfl dK_holds_44 ?_
        refine va_getN (D := (dC, dI)) (ci := 1) (v := .ref (a 6)) (C := RO) (T := TO) (N := 5) hx hb hts inO hown hK hP 1 rfl rfl 1 (by decide) (va_Nw.use rfl (nlfK_70 hN)) (fun _ h9 => h9) rfl dK_holds_47 ?_
        refine lv_iload_n hx hb dK_holds_50 rfl (lv_at hl 2 rfl) ?_
        refine va_iald hx hb hK hP 6 0 rfl rfl (vp_in_nI (show o < 60 by omega) (by decide)) dK_holds_51 ?_
        refine lv_topi (fun x51 e51 => ?_)
        rw [nI_clamp (show o < 2 ^ 31 by omega)] at e51
        refine lv_icmp_ne (tgt := 59) hx hb dK_holds_52 (by decide) (fun c52 => ?_) (fun c52 => ?_)
        · skip
          refine lv_iconst (v := nI 0) hx hb dK_holds_59 (by decide) ?_
          exact W.zret (v := nI 0) hx hb hr (by decide) (fun U9 ht hW => ⟨⟨nI 0, (), rfl, sk_hold_f4 (by omega) (by omega) (fun q => c52 (by rw [e42, e51]; exact q)), trivial⟩, hS.F ht⟩) hS.2.2 dK_holds_60
        · skip
          refine lv_iconst (v := nI 1) hx hb dK_holds_55 (by decide) ?_
          refine lv_goto (tgt := 60) hx hb dK_holds_56 (by decide) ?_
          exact W.zret (v := nI 1) hx hb hr (by decide) (fun U9 ht hW => ⟨⟨nI 1, (), rfl, sk_hold_t (by omega) (by omega) h5 h16 h30 (by rw [← e42, ← e51]; exact c52), trivial⟩, hS.F ht⟩) hS.2.2 dK_holds_60
      · skip
        obtain rfl : x30 = nI 0 := e30.trans hv
        refine lv_if_eq (tgt := 59) hx hb dK_holds_31 (by decide) (fun _ => ?_) (fun q => absurd (by decide) q)
        refine lv_iconst (v := nI 0) hx hb dK_holds_59 (by decide) ?_
        exact W.zret (v := nI 0) hx hb hr (by decide) (fun U9 ht hW => ⟨⟨nI 0, (), rfl, sk_hold_f3 (by omega) h30, trivial⟩, hS.F ht⟩) hS.2.2 dK_holds_60
    · skip
      obtain rfl : r16 = nI 0 := w16.trans hv
      refine lv_if_eq (tgt := 59) hx hb dK_holds_19 (by decide) (fun _ => ?_) (fun q => absurd (by decide) q)
      refine lv_iconst (v := nI 0) hx hb dK_holds_59 (by decide) ?_
      exact W.zret (v := nI 0) hx hb hr (by decide) (fun U9 ht hW => ⟨⟨nI 0, (), rfl, sk_hold_f2 h16, trivial⟩, hS.F ht⟩) hS.2.2 dK_holds_60
  · skip
    obtain rfl : r5 = nI 0 := w5.trans hv
    refine lv_if_eq (tgt := 59) hx hb dK_holds_8 (by decide) (fun _ => ?_) (fun q => absurd (by decide) q)
    refine lv_iconst (v := nI 0) hx hb dK_holds_59 (by decide) ?_
    exact W.zret (v := nI 0) hx hb hr (by decide) (fun U9 ht hW => ⟨⟨nI 0, (), rfl, sk_hold_f1 h5, trivial⟩, hS.F ht⟩) hS.2.2 dK_holds_60
abbrev wzK_finding : List Cond := .code yK_finding cK_finding 3 (some .int) :: sk_W
abbrev rzK_finding : Room := { frames := 1, cells := 0, slots := 0, locals := 21 }
set_option maxHeartbeats 4000000 in
set_option maxRecDepth 100000 in
theorem kK_finding (l : Launch) (dC : Nat → ClassId) (dI : Nat → Nat → Nat) (a : Nat → Nat) (k : Nat → ClassId) (b : sk_Ob) (t : sk_Tr) (f : sk_Fi) (wt : sk_F) (x y : Int32) (K : Nat) (hOK : sk_OK K (b, t, f)) : Met l yK_finding wzK_finding rzK_finding (va_Pc [.ref (a 0), .int x, .int y] (sk_PX dC dI a k (b, t, f) wt)) (va_Qi (fun r (_ : Unit) => r = sk_finding (b, t, f) x y) (fun _ _ => True) (fun _ => False)) 0 0 (fun _ => False) := by
  refine Met.ofW (cc := cK_finding) (maxL := 3) (ret := (some .int)) (by decide) rfl ?_
  intro p e s m args below meth c s₁ B hml hv
  obtain ⟨rfl, hP, hK, hN⟩ := hv
  have hx := B.exec
  have hb := B.bytes
  have hr := B.returns
  have hts : ∀ w ∈ sk_W, w.before ([.ref (a 0), .int x, .int y] : List Value).toArray s = true := fun w h => atoms_spec (ws := wzK_finding) B.pre w (List.mem_cons_of_mem _ h)
  have hown : s.vm.findClass RK = some m.cls := findClass_of_methodNamed B.named
  have hlocks := B.notSynchronized
  have hS : va_S (fun _ => False) s.heap s.heap [] := va_S.rf
  have hP : va_P (dC, dI) vwCl (sk_wR a k (nI b.1) b.2.1 b.2.2.1 b.2.2.2.1 b.2.2.2.2 (nI t.1) t.2.1 t.2.2.1 t.2.2.2.1 t.2.2.2.2 (nI f.1) (nI (sk_there f)) (nI (f.1 % 100)) f.2.1 f.2.2.1 f.2.2.2.1 f.2.2.2.2.1 (fun i => lN (sk_nb (f.2.2.2.2.2.1 i))) (fun i => sk_bI (f.2.2.2.2.2.2 i)) wt) s.heap := hP
  have hl := lv_entry ([.ref (a 0), .int x, .int y]) (n := 3) (Nat.le_of_ble_eq_true rfl)
  rw [lg_entry_eq]
  generalize (lg_sl ([.ref (a 0), .int x, .int y]) ++ List.replicate (3 - (lg_sl ([.ref (a 0), .int x, .int y])).length) Slot.unset).toArray = ls at hl ⊢
  have hl : lv_has ls 3 [(0, .ref (a 0)), (1, .int x), (2, .int y)] := hl
  have hT : sk_TO b.1 t := hOK.1
  have hA : sk_AC b.1 b.2.1 := hOK.2.1
  have hO : sk_OO b t := hOK.2.2.1
  have hmk : f.1 ≤ K := hOK.2.2.2.2.2.2.1
  have hK5 : K ≤ 512 := hOK.2.2.2.2.2.1
  have h200 : t.1 ≤ 200 := hT.2.1
  have h60 : b.1 ≤ 60 := hT.2.2.1
  have hfl : ∀ i, i < sk_there f → ∀ x ∈ f.2.2.2.2.2.1 i, x < 60 := fun i hi x hx => Nat.lt_of_lt_of_le ((hOK.2.2.2.2.2.2.2 i hi).2.2.2 x hx) h60
  have h100 : sk_there f ≤ 100 := Nat.min_le_right _ _
  refine lv_aload_n hx hb dK_finding_0 rfl (lv_at hl 0 rfl) ?_
  refine va_get (D := (dC, dI)) (ci := 3) (v := .ref (a 3)) (C := RK) (T := TK) (N := 4) hx hb hts inK hown hK hP 0 rfl rfl 2 (by decide) (hts _ wfK_26) (fun _ h9 => h9) rfl dK_finding_1 ?_
  refine lv_iload_n hx hb dK_finding_4 rfl (lv_at hl 1 rfl) ?_
  refine va_calli (va_runVN (As := [.int x]) (rest := []) ⟨hx, hb, hml, hown, hts⟩ (kF_has l dC dI a k b t f wt x) ⟨va_cnB 1 hts (sk_gC wcF_has) rfl rfl rfl (nlmK_123 hN) (hts _ wnF) (by decide +kernel) ⟨Nat.le_of_ble_eq_true rfl, Nat.le_of_ble_eq_true rfl⟩, hts _ wiF_has, hts _ wsF_has⟩ ⟨sk_blind _, va_recv hK hP (ci := 0) (q0 := 3) rfl rfl, fun U hU hW => ⟨rfl, sk_at (S := (b, t, f)) (wt := wt) hP hK hN hU hW⟩⟩ rfl rfl hl.1 rfl (lv_room (Nat.le_of_ble_eq_true rfl)) dK_finding_5 ⟨Nat.le_of_ble_eq_true rfl, Nat.le_of_ble_eq_true rfl⟩) hS (fun _ _ h => h.elim) (fun _ h => h.elim) (fun r5 u5 U9 H locs ht hvm w5 hB hz hk hS => ?_)
  have hP : va_P (dC, dI) vwCl (sk_wR a k (nI b.1) b.2.1 b.2.2.1 b.2.2.2.1 b.2.2.2.2 (nI t.1) t.2.1 t.2.2.1 t.2.2.2.1 t.2.2.2.2 (nI f.1) (nI (sk_there f)) (nI (f.1 % 100)) f.2.1 f.2.2.1 f.2.2.2.1 f.2.2.2.2.1 (fun i => lN (sk_nb (f.2.2.2.2.2.1 i))) (fun i => sk_bI (f.2.2.2.2.2.2 i)) wt) H := hP.kept (fun j q hq => hk q.1 ((hP j q hq).lt) (fun h => h))
  clear hk hB ht
  rcases sk_bI_or (sk_hasB (sk_there f) x) with ⟨h5, hv⟩ | ⟨h5, hv⟩
  · skip
    obtain rfl : r5 = nI 1 := w5.trans hv
    obtain ⟨fi, hfi, efi9⟩ := (sk_hasB_iff (by omega)).mp h5
    subst efi9
    refine lv_if_ne (tgt := 13) hx hb dK_finding_8 (by decide) (fun _ => ?_) (fun q => absurd q (by decide))
    refine lv_iload_n hx hb dK_finding_13 rfl (lv_at hl 2 rfl) ?_
    rcases sk_sw5 y with rfl | rfl | rfl | rfl | rfl | rfl | hsw
    · skip
      refine lv_tableIn (off := 38) (tgt := 52) hx hb dK_finding_14 (by decide) (by decide) (by decide +kernel) (by decide) ?_
      refine lv_aload_n hx hb dK_finding_52 rfl (lv_at hl 0 rfl) ?_
      refine va_get (D := (dC, dI)) (ci := 3) (v := .ref (a 3)) (C := RK) (T := TK) (N := 4) hx hb hts inK hown hK hP 0 rfl rfl 2 (by decide) (hts _ wfK_26) (fun _ h9 => h9) rfl dK_finding_53 ?_
      refine va_getN (D := (dC, dI)) (ci := 0) (v := .ref (a 13)) (C := RF) (T := TF) (N := 9) hx hb hts inF hown hK hP 3 rfl rfl 0 (by decide) (va_Nw.use rfl (nlfK_128 hN)) (fun _ h9 => h9) rfl dK_finding_56 ?_
      refine lv_iload_n hx hb dK_finding_59 rfl (lv_at hl 1 rfl) ?_
      refine va_iald hx hb hK hP 13 0 rfl rfl (vp_in_nI (show fi < 100 by omega) (by decide)) dK_finding_60 ?_
      refine lv_topi (fun x60 e60 => ?_)
      rw [nI_clamp (show fi < 2 ^ 31 by omega)] at e60
      exact W.iret (v := x60) hx hb hr (fun U9 ht hW => ⟨⟨x60, (), rfl, by unfold sk_finding; rw [if_pos h5, nI_clamp (by omega), if_pos (by decide)]; exact e60, trivial⟩, hS.F ht⟩) hS.2.2 dK_finding_61
    · skip
      refine lv_tableIn (off := 48) (tgt := 62) hx hb dK_finding_14 (by decide) (by decide) (by decide +kernel) (by decide) ?_
      refine lv_aload_n hx hb dK_finding_62 rfl (lv_at hl 0 rfl) ?_
      refine va_get (D := (dC, dI)) (ci := 3) (v := .ref (a 3)) (C := RK) (T := TK) (N := 4) hx hb hts inK hown hK hP 0 rfl rfl 2 (by decide) (hts _ wfK_26) (fun _ h9 => h9) rfl dK_finding_63 ?_
      refine va_getN (D := (dC, dI)) (ci := 0) (v := .ref (a 14)) (C := RF) (T := TF) (N := 9) hx hb hts inF hown hK hP 3 rfl rfl 1 (by decide) (va_Nw.use rfl (nlfK_163 hN)) (fun _ h9 => h9) rfl dK_finding_66 ?_
      refine lv_iload_n hx hb dK_finding_69 rfl (lv_at hl 1 rfl) ?_
      refine va_iald hx hb hK hP 14 0 rfl rfl (vp_in_nI (show fi < 100 by omega) (by decide)) dK_finding_70 ?_
      refine lv_topi (fun x70 e70 => ?_)
      rw [nI_clamp (show fi < 2 ^ 31 by omega)] at e70
      exact W.iret (v := x70) hx hb hr (fun U9 ht hW => ⟨⟨x70, (), rfl, by unfold sk_finding; rw [if_pos h5, nI_clamp (by omega), if_neg (by decide), if_pos (by decide)]; exact e70, trivial⟩, hS.F ht⟩) hS.2.2 dK_finding_71
    · skip
      refine lv_tableIn (off := 58) (tgt := 72) hx hb dK_finding_14 (by decide) (by decide) (by decide +kernel) (by decide) ?_
      refine lv_aload_n hx hb dK_finding_72 rfl (lv_at hl 0 rfl) ?_
      refine va_get (D := (dC, dI)) (ci := 3) (v := .ref (a 3)) (C := RK) (T := TK) (N := 4) hx hb hts inK hown hK hP 0 rfl rfl 2 (by decide) (hts _ wfK_26) (fun _ h9 => h9) rfl dK_finding_73 ?_
      refine lv_iload_n hx hb dK_finding_76 rfl (lv_at hl 1 rfl) ?_
      refine va_calli (va_runVN (As := [.int (nI fi)]) (rest := []) ⟨hx, hb, hml, hown, hts⟩ (kF_whereOf l dC dI a k b t f wt fi (by omega)) ⟨va_cnB 1 hts (sk_gC wcF_whereOf) rfl rfl rfl (nlmK_166 hN) (hts _ wnF) (by decide +kernel) ⟨Nat.le_of_ble_eq_true rfl, Nat.le_of_ble_eq_true rfl⟩, hts _ wiF_whereOf, hts _ wsF_whereOf⟩ ⟨sk_blind _, va_recv hK hP (ci := 0) (q0 := 3) rfl rfl, fun U hU hW => ⟨rfl, sk_at (S := (b, t, f)) (wt := wt) hP hK hN hU hW⟩⟩ rfl rfl hl.1 rfl (lv_room (Nat.le_of_ble_eq_true rfl)) dK_finding_77 ⟨Nat.le_of_ble_eq_true rfl, Nat.le_of_ble_eq_true rfl⟩) hS (fun _ _ h => h.elim) (fun _ h => h.elim) (fun r77 u77 U9 H locs ht hvm w77 hB hz hk hS => ?_)
      have hP : va_P (dC, dI) vwCl (sk_wR a k (nI b.1) b.2.1 b.2.2.1 b.2.2.2.1 b.2.2.2.2 (nI t.1) t.2.1 t.2.2.1 t.2.2.2.1 t.2.2.2.2 (nI f.1) (nI (sk_there f)) (nI (f.1 % 100)) f.2.1 f.2.2.1 f.2.2.2.1 f.2.2.2.2.1 (fun i => lN (sk_nb (f.2.2.2.2.2.1 i))) (fun i => sk_bI (f.2.2.2.2.2.2 i)) wt) H := hP.kept (fun j q hq => hk q.1 ((hP j q hq).lt) (fun h => h))
      clear hk hB ht
      exact W.iret (v := r77) hx hb hr (fun U9 ht hW => ⟨⟨r77, (), rfl, by unfold sk_finding; rw [if_pos h5, nI_clamp (by omega), if_neg (by decide), if_neg (by decide), if_pos (by decide)]; exact w77, trivial⟩, hS.F ht⟩) hS.2.2 dK_finding_80
    · skip
      refine lv_tableIn (off := 67) (tgt := 81) hx hb dK_finding_14 (by decide) (by decide) (by decide +kernel) (by decide) ?_
      refine lv_aload_n hx hb dK_finding_81 rfl (lv_at hl 0 rfl) ?_
      refine va_get (D := (dC, dI)) (ci := 3) (v := .ref (a 3)) (C := RK) (T := TK) (N := 4) hx hb hts inK hown hK hP 0 rfl rfl 2 (by decide) (hts _ wfK_26) (fun _ h9 => h9) rfl dK_finding_82 ?_
      refine va_getN (D := (dC, dI)) (ci := 0) (v := .ref (a 15)) (C := RF) (T := TF) (N := 9) hx hb hts inF hown hK hP 3 rfl rfl 2 (by decide) (va_Nw.use rfl (nlfK_139 hN)) (fun _ h9 => h9) rfl dK_finding_85 ?_
      refine lv_iload_n hx hb dK_finding_88 rfl (lv_at hl 1 rfl) ?_
      refine va_iald hx hb hK hP 15 0 rfl rfl (vp_in_nI (show fi < 100 by omega) (by decide)) dK_finding_89 ?_
      refine lv_topi (fun x89 e89 => ?_)
      rw [nI_clamp (show fi < 2 ^ 31 by omega)] at e89
      exact W.iret (v := x89) hx hb hr (fun U9 ht hW => ⟨⟨x89, (), rfl, by unfold sk_finding; rw [if_pos h5, nI_clamp (by omega), if_neg (by decide), if_neg (by decide), if_neg (by decide), if_pos (by decide)]; exact e89, trivial⟩, hS.F ht⟩) hS.2.2 dK_finding_90
    · skip
      refine lv_tableIn (off := 77) (tgt := 91) hx hb dK_finding_14 (by decide) (by decide) (by decide +kernel) (by decide) ?_
      refine lv_aload_n hx hb dK_finding_91 rfl (lv_at hl 0 rfl) ?_
      refine va_get (D := (dC, dI)) (ci := 3) (v := .ref (a 3)) (C := RK) (T := TK) (N := 4) hx hb hts inK hown hK hP 0 rfl rfl 2 (by decide) (hts _ wfK_26) (fun _ h9 => h9) rfl dK_finding_92 ?_
      refine va_getN (D := (dC, dI)) (ci := 0) (v := .ref (a 16)) (C := RF) (T := TF) (N := 9) hx hb hts inF hown hK hP 3 rfl rfl 3 (by decide) (va_Nw.use rfl (nlfK_136 hN)) (fun _ h9 => h9) rfl dK_finding_95 ?_
      refine lv_iload_n hx hb dK_finding_98 rfl (lv_at hl 1 rfl) ?_
      refine va_iald hx hb hK hP 16 0 rfl rfl (vp_in_nI (show fi < 100 by omega) (by decide)) dK_finding_99 ?_
      refine lv_topi (fun x99 e99 => ?_)
      rw [nI_clamp (show fi < 2 ^ 31 by omega)] at e99
      exact W.iret (v := x99) hx hb hr (fun U9 ht hW => ⟨⟨x99, (), rfl, by unfold sk_finding; rw [if_pos h5, nI_clamp (by omega), if_neg (by decide), if_neg (by decide), if_neg (by decide), if_neg (by decide), if_pos (by decide)]; exact e99, trivial⟩, hS.F ht⟩) hS.2.2 dK_finding_100
    · skip
      refine lv_tableIn (off := 87) (tgt := 101) hx hb dK_finding_14 (by decide) (by decide) (by decide +kernel) (by decide) ?_
      refine lv_aload_n hx hb dK_finding_101 rfl (lv_at hl 0 rfl) ?_
      refine va_get (D := (dC, dI)) (ci := 3) (v := .ref (a 3)) (C := RK) (T := TK) (N := 4) hx hb hts inK hown hK hP 0 rfl rfl 2 (by decide) (hts _ wfK_26) (fun _ h9 => h9) rfl dK_finding_102 ?_
      refine va_getN (D := (dC, dI)) (ci := 0) (v := .ref (a 18)) (C := RF) (T := TF) (N := 9) hx hb hts inF hown hK hP 3 rfl rfl 5 (by decide) (va_Nw.use rfl (nlfK_124 hN)) (fun _ h9 => h9) rfl dK_finding_105 ?_
      refine lv_iload_n hx hb dK_finding_108 rfl (lv_at hl 1 rfl) ?_
      refine va_zald hx hb hK hP 18 1 rfl rfl (vp_in_nI (show fi < 100 by omega) (by decide)) dK_finding_109 ?_
      refine lv_topi (fun x109 e109 => ?_)
      rw [nI_clamp (show fi < 2 ^ 31 by omega)] at e109
      rcases sk_bI_or (f.2.2.2.2.2.2 fi) with ⟨h109, hv⟩ | ⟨h109, hv⟩
      · skip
        obtain rfl : x109 = nI 1 := e109.trans hv
        refine lv_if_eq (tgt := 117) hx hb dK_finding_110 (by decide) (fun q => absurd q (by decide)) (fun _ => ?_)
        refine lv_iconst (v := nI 1) hx hb dK_finding_113 (by decide) ?_
        refine lv_goto (tgt := 118) hx hb dK_finding_114 (by decide) ?_
        exact W.iret (v := nI 1) hx hb hr (fun U9 ht hW => ⟨⟨nI 1, (), rfl, by unfold sk_finding; rw [if_pos h5, nI_clamp (by omega), if_neg (by decide), if_neg (by decide), if_neg (by decide), if_neg (by decide), if_neg (by decide), if_pos (by decide)]; show _ = sk_bI (f.2.2.2.2.2.2 fi); rw [h109]; rfl, trivial⟩, hS.F ht⟩) hS.2.2 dK_finding_118
      · skip
        obtain rfl : x109 = nI 0 := e109.trans hv
        refine lv_if_eq (tgt := 117) hx hb dK_finding_110 (by decide) (fun _ => ?_) (fun q => absurd (by decide) q)
        refine lv_iconst (v := nI 0) hx hb dK_finding_117 (by decide) ?_
        exact W.iret (v := nI 0) hx hb hr (fun U9 ht hW => ⟨⟨nI 0, (), rfl, by unfold sk_finding; rw [if_pos h5, nI_clamp (by omega), if_neg (by decide), if_neg (by decide), if_neg (by decide), if_neg (by decide), if_neg (by decide), if_pos (by decide)]; show _ = sk_bI (f.2.2.2.2.2.2 fi); rw [h109]; rfl, trivial⟩, hS.F ht⟩) hS.2.2 dK_finding_118
    · skip
      refine lv_tableOut (tgt := 119) hx hb dK_finding_14 hsw (by decide) ?_
      refine lv_iconst (v := (-1)) hx hb dK_finding_119 (by decide) ?_
      exact W.iret (v := (-1)) hx hb hr (fun U9 ht hW => ⟨⟨(-1), (), rfl, by obtain ⟨z0, z1, z2, z3, z4, z5⟩ := sk_ne_of5 hsw; unfold sk_finding; rw [if_pos h5, if_neg z0, if_neg z1, if_neg z2, if_neg z3, if_neg z4, if_neg z5], trivial⟩, hS.F ht⟩) hS.2.2 dK_finding_120
  · skip
    obtain rfl : r5 = nI 0 := w5.trans hv
    refine lv_if_ne (tgt := 13) hx hb dK_finding_8 (by decide) (fun q => absurd q (by decide)) (fun _ => ?_)
    refine lv_iconst (v := (-1)) hx hb dK_finding_11 (by decide) ?_
    exact W.iret (v := (-1)) hx hb hr (fun U9 ht hW => ⟨⟨(-1), (), rfl, (sk_finding_n (S := (b, t, f)) h5).symm, trivial⟩, hS.F ht⟩) hS.2.2 dK_finding_12
abbrev wzK_count : List Cond := .code yK_count cK_count 2 (some .int) :: sk_W
abbrev rzK_count : Room := { frames := 1, cells := 0, slots := 0, locals := 22 }
set_option maxHeartbeats 4000000 in
set_option maxRecDepth 100000 in
theorem kK_count (l : Launch) (dC : Nat → ClassId) (dI : Nat → Nat → Nat) (a : Nat → Nat) (k : Nat → ClassId) (b : sk_Ob) (t : sk_Tr) (f : sk_Fi) (wt : sk_F) (y : Int32) (K : Nat) (hOK : sk_OK K (b, t, f)) : Met l yK_count wzK_count rzK_count (va_Pc [.ref (a 0), .int y] (sk_PX dC dI a k (b, t, f) wt)) (va_Qi (fun r (_ : Unit) => r = sk_count (b, t, f) y) (fun _ _ => True) (fun _ => False)) 0 0 (fun _ => False) := by
  refine Met.ofW (cc := cK_count) (maxL := 2) (ret := (some .int)) (by decide) rfl ?_
  intro p e s m args below meth c s₁ B hml hv
  obtain ⟨rfl, hP, hK, hN⟩ := hv
  have hx := B.exec
  have hb := B.bytes
  have hr := B.returns
  have hts : ∀ w ∈ sk_W, w.before ([.ref (a 0), .int y] : List Value).toArray s = true := fun w h => atoms_spec (ws := wzK_count) B.pre w (List.mem_cons_of_mem _ h)
  have hown : s.vm.findClass RK = some m.cls := findClass_of_methodNamed B.named
  have hlocks := B.notSynchronized
  have hS : va_S (fun _ => False) s.heap s.heap [] := va_S.rf
  have hP : va_P (dC, dI) vwCl (sk_wR a k (nI b.1) b.2.1 b.2.2.1 b.2.2.2.1 b.2.2.2.2 (nI t.1) t.2.1 t.2.2.1 t.2.2.2.1 t.2.2.2.2 (nI f.1) (nI (sk_there f)) (nI (f.1 % 100)) f.2.1 f.2.2.1 f.2.2.2.1 f.2.2.2.2.1 (fun i => lN (sk_nb (f.2.2.2.2.2.1 i))) (fun i => sk_bI (f.2.2.2.2.2.2 i)) wt) s.heap := hP
  have hl := lv_entry ([.ref (a 0), .int y]) (n := 2) (Nat.le_of_ble_eq_true rfl)
  rw [lg_entry_eq]
  generalize (lg_sl ([.ref (a 0), .int y]) ++ List.replicate (2 - (lg_sl ([.ref (a 0), .int y])).length) Slot.unset).toArray = ls at hl ⊢
  have hl : lv_has ls 2 [(0, .ref (a 0)), (1, .int y)] := hl
  have hT : sk_TO b.1 t := hOK.1
  have hA : sk_AC b.1 b.2.1 := hOK.2.1
  have hO : sk_OO b t := hOK.2.2.1
  have hmk : f.1 ≤ K := hOK.2.2.2.2.2.2.1
  have hK5 : K ≤ 512 := hOK.2.2.2.2.2.1
  have h200 : t.1 ≤ 200 := hT.2.1
  have h60 : b.1 ≤ 60 := hT.2.2.1
  have hfl : ∀ i, i < sk_there f → ∀ x ∈ f.2.2.2.2.2.1 i, x < 60 := fun i hi x hx => Nat.lt_of_lt_of_le ((hOK.2.2.2.2.2.2.2 i hi).2.2.2 x hx) h60
  refine lv_iload_n hx hb dK_count_0 rfl (lv_at hl 1 rfl) ?_
  rcases sk_sw3 y with rfl | rfl | rfl | rfl | hsw
  · skip
    refine lv_tableIn (off := 31) (tgt := 32) hx hb dK_count_1 (by decide) (by decide) (by decide +kernel) (by decide) ?_
    refine lv_aload_n hx hb dK_count_32 rfl (lv_at hl 0 rfl) ?_
    refine va_get (D := (dC, dI)) (ci := 3) (v := .ref (a 1)) (C := RK) (T := TK) (N := 4) hx hb hts inK hown hK hP 0 rfl rfl 0 (by decide) (hts _ wfK_10) (fun _ h9 => h9) rfl dK_count_33 ?_
    refine va_getN (D := (dC, dI)) (ci := 1) (v := .int (nI b.1)) (C := RO) (T := TO) (N := 5) hx hb hts inO hown hK hP 1 rfl rfl 4 (by decide) (va_Nw.use rfl (nlfK_45 hN)) (fun _ h9 => h9) rfl dK_count_36 ?_
    exact W.iret (v := nI b.1) hx hb hr (fun U9 ht hW => ⟨⟨nI b.1, (), rfl, by unfold sk_count; rw [if_pos (by decide)], trivial⟩, hS.F ht⟩) hS.2.2 dK_count_39
  · skip
    refine lv_tableIn (off := 39) (tgt := 40) hx hb dK_count_1 (by decide) (by decide) (by decide +kernel) (by decide) ?_
    refine lv_aload_n hx hb dK_count_40 rfl (lv_at hl 0 rfl) ?_
    refine va_get (D := (dC, dI)) (ci := 3) (v := .ref (a 2)) (C := RK) (T := TK) (N := 4) hx hb hts inK hown hK hP 0 rfl rfl 1 (by decide) (hts _ wfK_19) (fun _ h9 => h9) rfl dK_count_41 ?_
    refine va_getN (D := (dC, dI)) (ci := 2) (v := .int (nI t.1)) (C := RT) (T := TT) (N := 5) hx hb hts inT hown hK hP 2 rfl rfl 4 (by decide) (va_Nw.use rfl (nlfK_169 hN)) (fun _ h9 => h9) rfl dK_count_44 ?_
    exact W.iret (v := nI t.1) hx hb hr (fun U9 ht hW => ⟨⟨nI t.1, (), rfl, by unfold sk_count; rw [if_neg (by decide), if_pos (by decide)], trivial⟩, hS.F ht⟩) hS.2.2 dK_count_47
  · skip
    refine lv_tableIn (off := 47) (tgt := 48) hx hb dK_count_1 (by decide) (by decide) (by decide +kernel) (by decide) ?_
    refine lv_aload_n hx hb dK_count_48 rfl (lv_at hl 0 rfl) ?_
    refine va_get (D := (dC, dI)) (ci := 3) (v := .ref (a 3)) (C := RK) (T := TK) (N := 4) hx hb hts inK hown hK hP 0 rfl rfl 2 (by decide) (hts _ wfK_26) (fun _ h9 => h9) rfl dK_count_49 ?_
    refine va_getN (D := (dC, dI)) (ci := 0) (v := .int (nI f.1)) (C := RF) (T := TF) (N := 9) hx hb hts inF hown hK hP 3 rfl rfl 6 (by decide) (va_Nw.use rfl (nlfK_170 hN)) (fun _ h9 => h9) rfl dK_count_52 ?_
    exact W.iret (v := nI f.1) hx hb hr (fun U9 ht hW => ⟨⟨nI f.1, (), rfl, by unfold sk_count; rw [if_neg (by decide), if_neg (by decide), if_pos (by decide)], trivial⟩, hS.F ht⟩) hS.2.2 dK_count_55
  · skip
    refine lv_tableIn (off := 55) (tgt := 56) hx hb dK_count_1 (by decide) (by decide) (by decide +kernel) (by decide) ?_
    refine lv_aload_n hx hb dK_count_56 rfl (lv_at hl 0 rfl) ?_
    refine va_get (D := (dC, dI)) (ci := 3) (v := .ref (a 3)) (C := RK) (T := TK) (N := 4) hx hb hts inK hown hK hP 0 rfl rfl 2 (by decide) (hts _ wfK_26) (fun _ h9 => h9) rfl dK_count_57 ?_
    refine va_calli (va_runVN (As := []) (rest := []) ⟨hx, hb, hml, hown, hts⟩ (kF_countHolding l dC dI a k b t f wt ) ⟨va_cnB 0 hts (sk_gC wcF_countHolding) rfl rfl rfl (nlmK_173 hN) (hts _ wnF) (by decide +kernel) ⟨Nat.le_of_ble_eq_true rfl, Nat.le_of_ble_eq_true rfl⟩, hts _ wiF_countHolding, hts _ wsF_countHolding⟩ ⟨sk_blind _, va_recv hK hP (ci := 0) (q0 := 3) rfl rfl, fun U hU hW => ⟨rfl, sk_at (S := (b, t, f)) (wt := wt) hP hK hN hU hW⟩⟩ rfl rfl hl.1 rfl (lv_room (Nat.le_of_ble_eq_true rfl)) dK_count_60 ⟨Nat.le_of_ble_eq_true rfl, Nat.le_of_ble_eq_true rfl⟩) hS (fun _ _ h => h.elim) (fun _ h => h.elim) (fun r60 u60 U9 H locs ht hvm w60 hB hz hk hS => ?_)
    have hP : va_P (dC, dI) vwCl (sk_wR a k (nI b.1) b.2.1 b.2.2.1 b.2.2.2.1 b.2.2.2.2 (nI t.1) t.2.1 t.2.2.1 t.2.2.2.1 t.2.2.2.2 (nI f.1) (nI (sk_there f)) (nI (f.1 % 100)) f.2.1 f.2.2.1 f.2.2.2.1 f.2.2.2.2.1 (fun i => lN (sk_nb (f.2.2.2.2.2.1 i))) (fun i => sk_bI (f.2.2.2.2.2.2 i)) wt) H := hP.kept (fun j q hq => hk q.1 ((hP j q hq).lt) (fun h => h))
    clear hk hB ht
    exact W.iret (v := r60) hx hb hr (fun U9 ht hW => ⟨⟨r60, (), rfl, by unfold sk_count; rw [if_neg (by decide), if_neg (by decide), if_neg (by decide), if_pos (by decide)]; exact w60, trivial⟩, hS.F ht⟩) hS.2.2 dK_count_63
  · skip
    refine lv_tableOut (tgt := 64) hx hb dK_count_1 hsw (by decide) ?_
    refine lv_iconst (v := (-1)) hx hb dK_count_64 (by decide) ?_
    exact W.iret (v := (-1)) hx hb hr (fun U9 ht hW => ⟨⟨(-1), (), rfl, by obtain ⟨z0, z1, z2, z3⟩ := sk_ne_of3 hsw; unfold sk_count; rw [if_neg z0, if_neg z1, if_neg z2, if_neg z3], trivial⟩, hS.F ht⟩) hS.2.2 dK_count_65
abbrev wzK_look : List Cond := .code yK_look cK_look 3 (some .int) :: sk_W
abbrev rzK_look : Room := { frames := 2, cells := 0, slots := 0, locals := 47 }
set_option maxHeartbeats 4000000 in
set_option maxRecDepth 100000 in
theorem kK_look (l : Launch) (dC : Nat → ClassId) (dI : Nat → Nat → Nat) (a : Nat → Nat) (k : Nat → ClassId) (b : sk_Ob) (t : sk_Tr) (f : sk_Fi) (wt : sk_F) (x y : Int32) (K : Nat) (hOK : sk_OK K (b, t, f)) : Met l yK_look wzK_look rzK_look (va_Pc [.ref (a 0), .int x, .int y] (sk_PX dC dI a k (b, t, f) wt)) (va_Qi (fun r (_ : Unit) => r = sk_look (b, t, f) x y) (fun _ _ => True) (fun _ => False)) 0 0 (fun _ => False) := by
  refine Met.ofW (cc := cK_look) (maxL := 3) (ret := (some .int)) (by decide) rfl ?_
  intro p e s m args below meth c s₁ B hml hv
  obtain ⟨rfl, hP, hK, hN⟩ := hv
  have hx := B.exec
  have hb := B.bytes
  have hr := B.returns
  have hts : ∀ w ∈ sk_W, w.before ([.ref (a 0), .int x, .int y] : List Value).toArray s = true := fun w h => atoms_spec (ws := wzK_look) B.pre w (List.mem_cons_of_mem _ h)
  have hown : s.vm.findClass RK = some m.cls := findClass_of_methodNamed B.named
  have hlocks := B.notSynchronized
  have hS : va_S (fun _ => False) s.heap s.heap [] := va_S.rf
  have hP : va_P (dC, dI) vwCl (sk_wR a k (nI b.1) b.2.1 b.2.2.1 b.2.2.2.1 b.2.2.2.2 (nI t.1) t.2.1 t.2.2.1 t.2.2.2.1 t.2.2.2.2 (nI f.1) (nI (sk_there f)) (nI (f.1 % 100)) f.2.1 f.2.2.1 f.2.2.2.1 f.2.2.2.2.1 (fun i => lN (sk_nb (f.2.2.2.2.2.1 i))) (fun i => sk_bI (f.2.2.2.2.2.2 i)) wt) s.heap := hP
  have hl := lv_entry ([.ref (a 0), .int x, .int y]) (n := 3) (Nat.le_of_ble_eq_true rfl)
  rw [lg_entry_eq]
  generalize (lg_sl ([.ref (a 0), .int x, .int y]) ++ List.replicate (3 - (lg_sl ([.ref (a 0), .int x, .int y])).length) Slot.unset).toArray = ls at hl ⊢
  have hl : lv_has ls 3 [(0, .ref (a 0)), (1, .int x), (2, .int y)] := hl
  have hT : sk_TO b.1 t := hOK.1
  have hA : sk_AC b.1 b.2.1 := hOK.2.1
  have hO : sk_OO b t := hOK.2.2.1
  have hmk : f.1 ≤ K := hOK.2.2.2.2.2.2.1
  have hK5 : K ≤ 512 := hOK.2.2.2.2.2.1
  have h200 : t.1 ≤ 200 := hT.2.1
  have h60 : b.1 ≤ 60 := hT.2.2.1
  have hfl : ∀ i, i < sk_there f → ∀ x ∈ f.2.2.2.2.2.1 i, x < 60 := fun i hi x hx => Nat.lt_of_lt_of_le ((hOK.2.2.2.2.2.2.2 i hi).2.2.2 x hx) h60
  refine lv_aload_n hx hb dK_look_0 rfl (lv_at hl 0 rfl) ?_
  refine va_get (D := (dC, dI)) (ci := 3) (v := .ref (a 1)) (C := RK) (T := TK) (N := 4) hx hb hts inK hown hK hP 0 rfl rfl 0 (by decide) (hts _ wfK_10) (fun _ h9 => h9) rfl dK_look_1 ?_
  refine lv_iload_n hx hb dK_look_4 rfl (lv_at hl 1 rfl) ?_
  refine va_calli (va_runVN (As := [.int x]) (rest := []) ⟨hx, hb, hml, hown, hts⟩ (kO_has l dC dI a k b t f wt x) ⟨va_cnB 1 hts (sk_gC wcO_has) rfl rfl rfl (nlmK_64 hN) (hts _ wnO) (by decide +kernel) ⟨Nat.le_of_ble_eq_true rfl, Nat.le_of_ble_eq_true rfl⟩, hts _ wiO_has, hts _ wsO_has⟩ ⟨sk_blind _, va_recv hK hP (ci := 1) (q0 := 1) rfl rfl, fun U hU hW => ⟨rfl, sk_at (S := (b, t, f)) (wt := wt) hP hK hN hU hW⟩⟩ rfl rfl hl.1 rfl (lv_room (Nat.le_of_ble_eq_true rfl)) dK_look_5 ⟨Nat.le_of_ble_eq_true rfl, Nat.le_of_ble_eq_true rfl⟩) hS (fun _ _ h => h.elim) (fun _ h => h.elim) (fun r5 u5 U9 H locs ht hvm w5 hB hz hk hS => ?_)
  have hP : va_P (dC, dI) vwCl (sk_wR a k (nI b.1) b.2.1 b.2.2.1 b.2.2.2.1 b.2.2.2.2 (nI t.1) t.2.1 t.2.2.1 t.2.2.2.1 t.2.2.2.2 (nI f.1) (nI (sk_there f)) (nI (f.1 % 100)) f.2.1 f.2.2.1 f.2.2.2.1 f.2.2.2.2.1 (fun i => lN (sk_nb (f.2.2.2.2.2.1 i))) (fun i => sk_bI (f.2.2.2.2.2.2 i)) wt) H := hP.kept (fun j q hq => hk q.1 ((hP j q hq).lt) (fun h => h))
  clear hk hB ht
  rcases sk_bI_or (sk_hasB b.1 x) with ⟨h5, hv⟩ | ⟨h5, hv⟩
  · skip
    obtain rfl : r5 = nI 1 := w5.trans hv
    obtain ⟨o, ho, eo9⟩ := (sk_hasB_iff (by omega)).mp h5
    subst eo9
    obtain ⟨hs1, hs2, hs3⟩ := sk_shOk h200 hO ho
    refine lv_if_ne (tgt := 13) hx hb dK_look_8 (by decide) (fun _ => ?_) (fun q => absurd q (by decide))
    refine lv_iload_n hx hb dK_look_13 rfl (lv_at hl 2 rfl) ?_
    rcases sk_sw5 y with rfl | rfl | rfl | rfl | rfl | rfl | hsw
    · skip
      refine lv_tableIn (off := 38) (tgt := 52) hx hb dK_look_14 (by decide) (by decide) (by decide +kernel) (by decide) ?_
      refine lv_aload_n hx hb dK_look_52 rfl (lv_at hl 0 rfl) ?_
      refine va_get (D := (dC, dI)) (ci := 3) (v := .ref (a 1)) (C := RK) (T := TK) (N := 4) hx hb hts inK hown hK hP 0 rfl rfl 0 (by decide) (hts _ wfK_10) (fun _ h9 => h9) rfl dK_look_53 ?_
      refine va_getN (D := (dC, dI)) (ci := 1) (v := .ref (a 6)) (C := RO) (T := TO) (N := 5) hx hb hts inO hown hK hP 1 rfl rfl 1 (by decide) (va_Nw.use rfl (nlfK_70 hN)) (fun _ h9 => h9) rfl dK_look_56 ?_
      refine lv_iload_n hx hb dK_look_59 rfl (lv_at hl 1 rfl) ?_
      refine va_iald hx hb hK hP 6 0 rfl rfl (vp_in_nI (show o < 60 by omega) (by decide)) dK_look_60 ?_
      refine lv_topi (fun x60 e60 => ?_)
      rw [nI_clamp (show o < 2 ^ 31 by omega)] at e60
      obtain rfl : x60 = nI (sk_sh b o) := e60.trans (hs2)
      exact W.iret (v := nI (sk_sh b o)) hx hb hr (fun U9 ht hW => ⟨⟨nI (sk_sh b o), (), rfl, by rw [sk_look_y h60 ho]; unfold sk_lookN; rw [if_pos (by decide)]; exact hs2.symm, trivial⟩, hS.F ht⟩) hS.2.2 dK_look_61
    · skip
      refine lv_tableIn (off := 48) (tgt := 62) hx hb dK_look_14 (by decide) (by decide) (by decide +kernel) (by decide) ?_
      refine lv_aload_n hx hb dK_look_62 rfl (lv_at hl 0 rfl) ?_
      refine va_get (D := (dC, dI)) (ci := 3) (v := .ref (a 1)) (C := RK) (T := TK) (N := 4) hx hb hts inK hown hK hP 0 rfl rfl 0 (by decide) (hts _ wfK_10) (fun _ h9 => h9) rfl dK_look_63 ?_
      refine va_getN (D := (dC, dI)) (ci := 1) (v := .ref (a 5)) (C := RO) (T := TO) (N := 5) hx hb hts inO hown hK hP 1 rfl rfl 0 (by decide) (va_Nw.use rfl (nlfK_93 hN)) (fun _ h9 => h9) rfl dK_look_66 ?_
      refine lv_iload_n hx hb dK_look_69 rfl (lv_at hl 1 rfl) ?_
      refine va_iald hx hb hK hP 5 0 rfl rfl (vp_in_nI (show o < 60 by omega) (by decide)) dK_look_70 ?_
      refine lv_topi (fun x70 e70 => ?_)
      rw [nI_clamp (show o < 2 ^ 31 by omega)] at e70
      exact W.iret (v := x70) hx hb hr (fun U9 ht hW => ⟨⟨x70, (), rfl, by rw [sk_look_y h60 ho]; unfold sk_lookN; rw [if_neg (by decide), if_pos (by decide)]; exact e70, trivial⟩, hS.F ht⟩) hS.2.2 dK_look_71
    · skip
      refine lv_tableIn (off := 58) (tgt := 72) hx hb dK_look_14 (by decide) (by decide) (by decide +kernel) (by decide) ?_
      refine lv_aload_n hx hb dK_look_72 rfl (lv_at hl 0 rfl) ?_
      refine va_get (D := (dC, dI)) (ci := 3) (v := .ref (a 2)) (C := RK) (T := TK) (N := 4) hx hb hts inK hown hK hP 0 rfl rfl 1 (by decide) (hts _ wfK_19) (fun _ h9 => h9) rfl dK_look_73 ?_
      refine va_getN (D := (dC, dI)) (ci := 2) (v := .ref (a 12)) (C := RT) (T := TT) (N := 5) hx hb hts inT hown hK hP 2 rfl rfl 3 (by decide) (va_Nw.use rfl (nlfK_78 hN)) (fun _ h9 => h9) rfl dK_look_76 ?_
      refine lv_aload_n hx hb dK_look_79 rfl (lv_at hl 0 rfl) ?_
      refine va_get (D := (dC, dI)) (ci := 3) (v := .ref (a 1)) (C := RK) (T := TK) (N := 4) hx hb hts inK hown hK hP 0 rfl rfl 0 (by decide) (hts _ wfK_10) (fun _ h9 => h9) rfl dK_look_80 ?_
      refine va_getN (D := (dC, dI)) (ci := 1) (v := .ref (a 6)) (C := RO) (T := TO) (N := 5) hx hb hts inO hown hK hP 1 rfl rfl 1 (by decide) (va_Nw.use rfl (nlfK_70 hN)) (fun _ h9 => h9) rfl dK_look_83 ?_
      refine lv_iload_n hx hb dK_look_86 rfl (lv_at hl 1 rfl) ?_
      refine va_iald hx hb hK hP 6 0 rfl rfl (vp_in_nI (show o < 60 by omega) (by decide)) dK_look_87 ?_
      refine lv_topi (fun x87 e87 => ?_)
      rw [nI_clamp (show o < 2 ^ 31 by omega)] at e87
      obtain rfl : x87 = nI (sk_sh b o) := e87.trans (hs2)
      refine va_iald hx hb hK hP 12 0 rfl rfl (vp_in_nI (show (sk_sh b o) < 200 by omega) (by decide)) dK_look_88 ?_
      refine lv_topi (fun x88 e88 => ?_)
      rw [nI_clamp (show (sk_sh b o) < 2 ^ 31 by omega)] at e88
      exact W.iret (v := x88) hx hb hr (fun U9 ht hW => ⟨⟨x88, (), rfl, by rw [sk_look_y h60 ho]; unfold sk_lookN; rw [if_neg (by decide), if_neg (by decide), if_pos (by decide)]; exact e88, trivial⟩, hS.F ht⟩) hS.2.2 dK_look_89
    · skip
      refine lv_tableIn (off := 76) (tgt := 90) hx hb dK_look_14 (by decide) (by decide) (by decide +kernel) (by decide) ?_
      refine lv_aload_n hx hb dK_look_90 rfl (lv_at hl 0 rfl) ?_
      refine va_get (D := (dC, dI)) (ci := 3) (v := .ref (a 1)) (C := RK) (T := TK) (N := 4) hx hb hts inK hown hK hP 0 rfl rfl 0 (by decide) (hts _ wfK_10) (fun _ h9 => h9) rfl dK_look_91 ?_
      refine va_getN (D := (dC, dI)) (ci := 1) (v := .ref (a 7)) (C := RO) (T := TO) (N := 5) hx hb hts inO hown hK hP 1 rfl rfl 2 (by decide) (va_Nw.use rfl (nlfK_142 hN)) (fun _ h9 => h9) rfl dK_look_94 ?_
      refine lv_iload_n hx hb dK_look_97 rfl (lv_at hl 1 rfl) ?_
      refine va_iald hx hb hK hP 7 0 rfl rfl (vp_in_nI (show o < 60 by omega) (by decide)) dK_look_98 ?_
      refine lv_topi (fun x98 e98 => ?_)
      rw [nI_clamp (show o < 2 ^ 31 by omega)] at e98
      exact W.iret (v := x98) hx hb hr (fun U9 ht hW => ⟨⟨x98, (), rfl, by rw [sk_look_y h60 ho]; unfold sk_lookN; rw [if_neg (by decide), if_neg (by decide), if_neg (by decide), if_pos (by decide)]; exact e98, trivial⟩, hS.F ht⟩) hS.2.2 dK_look_99
    · skip
      refine lv_tableIn (off := 86) (tgt := 100) hx hb dK_look_14 (by decide) (by decide) (by decide +kernel) (by decide) ?_
      refine lv_aload_n hx hb dK_look_100 rfl (lv_at hl 0 rfl) ?_
      refine va_get (D := (dC, dI)) (ci := 3) (v := .ref (a 1)) (C := RK) (T := TK) (N := 4) hx hb hts inK hown hK hP 0 rfl rfl 0 (by decide) (hts _ wfK_10) (fun _ h9 => h9) rfl dK_look_101 ?_
      refine lv_iload_n hx hb dK_look_104 rfl (lv_at hl 1 rfl) ?_
      refine va_calli (va_runVN (As := [.int (nI o)]) (rest := []) ⟨hx, hb, hml, hown, hts⟩ (kO_countAbove l dC dI a k b t f wt o hA ho) ⟨va_cnB 1 hts (sk_gC wcO_countAbove) rfl rfl rfl (nlmK_145 hN) (hts _ wnO) (by decide +kernel) ⟨Nat.le_of_ble_eq_true rfl, Nat.le_of_ble_eq_true rfl⟩, hts _ wiO_countAbove, hts _ wsO_countAbove⟩ ⟨sk_blind _, va_recv hK hP (ci := 1) (q0 := 1) rfl rfl, fun U hU hW => ⟨rfl, sk_at (S := (b, t, f)) (wt := wt) hP hK hN hU hW⟩⟩ rfl rfl hl.1 rfl (lv_room (Nat.le_of_ble_eq_true rfl)) dK_look_105 ⟨Nat.le_of_ble_eq_true rfl, Nat.le_of_ble_eq_true rfl⟩) hS (fun _ _ h => h.elim) (fun _ h => h.elim) (fun r105 u105 U9 H locs ht hvm w105 hB hz hk hS => ?_)
      have hP : va_P (dC, dI) vwCl (sk_wR a k (nI b.1) b.2.1 b.2.2.1 b.2.2.2.1 b.2.2.2.2 (nI t.1) t.2.1 t.2.2.1 t.2.2.2.1 t.2.2.2.2 (nI f.1) (nI (sk_there f)) (nI (f.1 % 100)) f.2.1 f.2.2.1 f.2.2.2.1 f.2.2.2.2.1 (fun i => lN (sk_nb (f.2.2.2.2.2.1 i))) (fun i => sk_bI (f.2.2.2.2.2.2 i)) wt) H := hP.kept (fun j q hq => hk q.1 ((hP j q hq).lt) (fun h => h))
      clear hk hB ht
      exact W.iret (v := r105) hx hb hr (fun U9 ht hW => ⟨⟨r105, (), rfl, by rw [sk_look_y h60 ho]; unfold sk_lookN; rw [if_neg (by decide), if_neg (by decide), if_neg (by decide), if_neg (by decide), if_pos (by decide)]; exact w105, trivial⟩, hS.F ht⟩) hS.2.2 dK_look_108
    · skip
      refine lv_tableIn (off := 95) (tgt := 109) hx hb dK_look_14 (by decide) (by decide) (by decide +kernel) (by decide) ?_
      refine lv_aload_n hx hb dK_look_109 rfl (lv_at hl 0 rfl) ?_
      refine va_get (D := (dC, dI)) (ci := 3) (v := .ref (a 1)) (C := RK) (T := TK) (N := 4) hx hb hts inK hown hK hP 0 rfl rfl 0 (by decide) (hts _ wfK_10) (fun _ h9 => h9) rfl dK_look_110 ?_
      refine lv_iload_n hx hb dK_look_113 rfl (lv_at hl 1 rfl) ?_
      refine va_calli (va_runVN (As := [.int (nI o)]) (rest := []) ⟨hx, hb, hml, hown, hts⟩ (kO_countBelow l dC dI a k b t f wt o hA ho) ⟨va_cnB 1 hts (sk_gC wcO_countBelow) rfl rfl rfl (nlmK_149 hN) (hts _ wnO) (by decide +kernel) ⟨Nat.le_of_ble_eq_true rfl, Nat.le_of_ble_eq_true rfl⟩, hts _ wiO_countBelow, hts _ wsO_countBelow⟩ ⟨sk_blind _, va_recv hK hP (ci := 1) (q0 := 1) rfl rfl, fun U hU hW => ⟨rfl, sk_at (S := (b, t, f)) (wt := wt) hP hK hN hU hW⟩⟩ rfl rfl hl.1 rfl (lv_room (Nat.le_of_ble_eq_true rfl)) dK_look_114 ⟨Nat.le_of_ble_eq_true rfl, Nat.le_of_ble_eq_true rfl⟩) hS (fun _ _ h => h.elim) (fun _ h => h.elim) (fun r114 u114 U9 H locs ht hvm w114 hB hz hk hS => ?_)
      have hP : va_P (dC, dI) vwCl (sk_wR a k (nI b.1) b.2.1 b.2.2.1 b.2.2.2.1 b.2.2.2.2 (nI t.1) t.2.1 t.2.2.1 t.2.2.2.1 t.2.2.2.2 (nI f.1) (nI (sk_there f)) (nI (f.1 % 100)) f.2.1 f.2.2.1 f.2.2.2.1 f.2.2.2.2.1 (fun i => lN (sk_nb (f.2.2.2.2.2.1 i))) (fun i => sk_bI (f.2.2.2.2.2.2 i)) wt) H := hP.kept (fun j q hq => hk q.1 ((hP j q hq).lt) (fun h => h))
      clear hk hB ht
      exact W.iret (v := r114) hx hb hr (fun U9 ht hW => ⟨⟨r114, (), rfl, by rw [sk_look_y h60 ho]; unfold sk_lookN; rw [if_neg (by decide), if_neg (by decide), if_neg (by decide), if_neg (by decide), if_neg (by decide), if_pos (by decide)]; exact w114, trivial⟩, hS.F ht⟩) hS.2.2 dK_look_117
    · skip
      refine lv_tableOut (tgt := 118) hx hb dK_look_14 hsw (by decide) ?_
      refine lv_iconst (v := (-1)) hx hb dK_look_118 (by decide) ?_
      exact W.iret (v := (-1)) hx hb hr (fun U9 ht hW => ⟨⟨(-1), (), rfl, by rw [sk_look_y h60 ho]; unfold sk_lookN; obtain ⟨z0, z1, z2, z3, z4, z5⟩ := sk_ne_of5 hsw; rw [if_neg z0, if_neg z1, if_neg z2, if_neg z3, if_neg z4, if_neg z5], trivial⟩, hS.F ht⟩) hS.2.2 dK_look_119
  · skip
    obtain rfl : r5 = nI 0 := w5.trans hv
    refine lv_if_ne (tgt := 13) hx hb dK_look_8 (by decide) (fun q => absurd q (by decide)) (fun _ => ?_)
    refine lv_iconst (v := (-1)) hx hb dK_look_11 (by decide) ?_
    exact W.iret (v := (-1)) hx hb hr (fun U9 ht hW => ⟨⟨(-1), (), rfl, (sk_look_n (S := (b, t, f)) h5).symm, trivial⟩, hS.F ht⟩) hS.2.2 dK_look_12
abbrev wzK_shape : List Cond := .code yK_shape cK_shape 3 (some .int) :: sk_W
abbrev rzK_shape : Room := { frames := 1, cells := 0, slots := 0, locals := 25 }
set_option maxHeartbeats 4000000 in
set_option maxRecDepth 100000 in
theorem kK_shape (l : Launch) (dC : Nat → ClassId) (dI : Nat → Nat → Nat) (a : Nat → Nat) (k : Nat → ClassId) (b : sk_Ob) (t : sk_Tr) (f : sk_Fi) (wt : sk_F) (x y : Int32) (K : Nat) (hOK : sk_OK K (b, t, f)) : Met l yK_shape wzK_shape rzK_shape (va_Pc [.ref (a 0), .int x, .int y] (sk_PX dC dI a k (b, t, f) wt)) (va_Qi (fun r (_ : Unit) => r = sk_shape (b, t, f) x y) (fun _ _ => True) (fun _ => False)) 0 0 (fun _ => False) := by
  refine Met.ofW (cc := cK_shape) (maxL := 3) (ret := (some .int)) (by decide) rfl ?_
  intro p e s m args below meth c s₁ B hml hv
  obtain ⟨rfl, hP, hK, hN⟩ := hv
  have hx := B.exec
  have hb := B.bytes
  have hr := B.returns
  have hts : ∀ w ∈ sk_W, w.before ([.ref (a 0), .int x, .int y] : List Value).toArray s = true := fun w h => atoms_spec (ws := wzK_shape) B.pre w (List.mem_cons_of_mem _ h)
  have hown : s.vm.findClass RK = some m.cls := findClass_of_methodNamed B.named
  have hlocks := B.notSynchronized
  have hS : va_S (fun _ => False) s.heap s.heap [] := va_S.rf
  have hP : va_P (dC, dI) vwCl (sk_wR a k (nI b.1) b.2.1 b.2.2.1 b.2.2.2.1 b.2.2.2.2 (nI t.1) t.2.1 t.2.2.1 t.2.2.2.1 t.2.2.2.2 (nI f.1) (nI (sk_there f)) (nI (f.1 % 100)) f.2.1 f.2.2.1 f.2.2.2.1 f.2.2.2.2.1 (fun i => lN (sk_nb (f.2.2.2.2.2.1 i))) (fun i => sk_bI (f.2.2.2.2.2.2 i)) wt) s.heap := hP
  have hl := lv_entry ([.ref (a 0), .int x, .int y]) (n := 3) (Nat.le_of_ble_eq_true rfl)
  rw [lg_entry_eq]
  generalize (lg_sl ([.ref (a 0), .int x, .int y]) ++ List.replicate (3 - (lg_sl ([.ref (a 0), .int x, .int y])).length) Slot.unset).toArray = ls at hl ⊢
  have hl : lv_has ls 3 [(0, .ref (a 0)), (1, .int x), (2, .int y)] := hl
  have hT : sk_TO b.1 t := hOK.1
  have hA : sk_AC b.1 b.2.1 := hOK.2.1
  have hO : sk_OO b t := hOK.2.2.1
  have hmk : f.1 ≤ K := hOK.2.2.2.2.2.2.1
  have hK5 : K ≤ 512 := hOK.2.2.2.2.2.1
  have h200 : t.1 ≤ 200 := hT.2.1
  have h60 : b.1 ≤ 60 := hT.2.2.1
  have hfl : ∀ i, i < sk_there f → ∀ x ∈ f.2.2.2.2.2.1 i, x < 60 := fun i hi x hx => Nat.lt_of_lt_of_le ((hOK.2.2.2.2.2.2.2 i hi).2.2.2 x hx) h60
  refine lv_aload_n hx hb dK_shape_0 rfl (lv_at hl 0 rfl) ?_
  refine va_get (D := (dC, dI)) (ci := 3) (v := .ref (a 2)) (C := RK) (T := TK) (N := 4) hx hb hts inK hown hK hP 0 rfl rfl 1 (by decide) (hts _ wfK_19) (fun _ h9 => h9) rfl dK_shape_1 ?_
  refine lv_iload_n hx hb dK_shape_4 rfl (lv_at hl 1 rfl) ?_
  refine va_calli (va_runVN (As := [.int x]) (rest := []) ⟨hx, hb, hml, hown, hts⟩ (kT_has l dC dI a k b t f wt x) ⟨va_cnB 1 hts (sk_gC wcT_has) rfl rfl rfl (nlmK_152 hN) (hts _ wnT) (by decide +kernel) ⟨Nat.le_of_ble_eq_true rfl, Nat.le_of_ble_eq_true rfl⟩, hts _ wiT_has, hts _ wsT_has⟩ ⟨sk_blind _, va_recv hK hP (ci := 2) (q0 := 2) rfl rfl, fun U hU hW => ⟨rfl, sk_at (S := (b, t, f)) (wt := wt) hP hK hN hU hW⟩⟩ rfl rfl hl.1 rfl (lv_room (Nat.le_of_ble_eq_true rfl)) dK_shape_5 ⟨Nat.le_of_ble_eq_true rfl, Nat.le_of_ble_eq_true rfl⟩) hS (fun _ _ h => h.elim) (fun _ h => h.elim) (fun r5 u5 U9 H locs ht hvm w5 hB hz hk hS => ?_)
  have hP : va_P (dC, dI) vwCl (sk_wR a k (nI b.1) b.2.1 b.2.2.1 b.2.2.2.1 b.2.2.2.2 (nI t.1) t.2.1 t.2.2.1 t.2.2.2.1 t.2.2.2.2 (nI f.1) (nI (sk_there f)) (nI (f.1 % 100)) f.2.1 f.2.2.1 f.2.2.2.1 f.2.2.2.2.1 (fun i => lN (sk_nb (f.2.2.2.2.2.1 i))) (fun i => sk_bI (f.2.2.2.2.2.2 i)) wt) H := hP.kept (fun j q hq => hk q.1 ((hP j q hq).lt) (fun h => h))
  clear hk hB ht
  rcases sk_bI_or (sk_hasB t.1 x) with ⟨h5, hv⟩ | ⟨h5, hv⟩
  · skip
    obtain rfl : r5 = nI 1 := w5.trans hv
    obtain ⟨o, ho, eo9⟩ := (sk_hasB_iff (by omega)).mp h5
    subst eo9
    refine lv_if_ne (tgt := 13) hx hb dK_shape_8 (by decide) (fun _ => ?_) (fun q => absurd q (by decide))
    refine lv_iload_n hx hb dK_shape_13 rfl (lv_at hl 2 rfl) ?_
    rcases sk_sw3 y with rfl | rfl | rfl | rfl | hsw
    · skip
      refine lv_tableIn (off := 30) (tgt := 44) hx hb dK_shape_14 (by decide) (by decide) (by decide +kernel) (by decide) ?_
      refine lv_aload_n hx hb dK_shape_44 rfl (lv_at hl 0 rfl) ?_
      refine va_get (D := (dC, dI)) (ci := 3) (v := .ref (a 2)) (C := RK) (T := TK) (N := 4) hx hb hts inK hown hK hP 0 rfl rfl 1 (by decide) (hts _ wfK_19) (fun _ h9 => h9) rfl dK_shape_45 ?_
      refine va_getN (D := (dC, dI)) (ci := 2) (v := .ref (a 9)) (C := RT) (T := TT) (N := 5) hx hb hts inT hown hK hP 2 rfl rfl 0 (by decide) (va_Nw.use rfl (nlfK_153 hN)) (fun _ h9 => h9) rfl dK_shape_48 ?_
      refine lv_iload_n hx hb dK_shape_51 rfl (lv_at hl 1 rfl) ?_
      refine va_iald hx hb hK hP 9 0 rfl rfl (vp_in_nI (show o < 200 by omega) (by decide)) dK_shape_52 ?_
      refine lv_topi (fun x52 e52 => ?_)
      rw [nI_clamp (show o < 2 ^ 31 by omega)] at e52
      exact W.iret (v := x52) hx hb hr (fun U9 ht hW => ⟨⟨x52, (), rfl, by rw [sk_shape_y h200 ho]; unfold sk_shapeN; rw [if_pos (by decide)]; exact e52, trivial⟩, hS.F ht⟩) hS.2.2 dK_shape_53
    · skip
      refine lv_tableIn (off := 40) (tgt := 54) hx hb dK_shape_14 (by decide) (by decide) (by decide +kernel) (by decide) ?_
      refine lv_aload_n hx hb dK_shape_54 rfl (lv_at hl 0 rfl) ?_
      refine va_get (D := (dC, dI)) (ci := 3) (v := .ref (a 2)) (C := RK) (T := TK) (N := 4) hx hb hts inK hown hK hP 0 rfl rfl 1 (by decide) (hts _ wfK_19) (fun _ h9 => h9) rfl dK_shape_55 ?_
      refine va_getN (D := (dC, dI)) (ci := 2) (v := .ref (a 12)) (C := RT) (T := TT) (N := 5) hx hb hts inT hown hK hP 2 rfl rfl 3 (by decide) (va_Nw.use rfl (nlfK_78 hN)) (fun _ h9 => h9) rfl dK_shape_58 ?_
      refine lv_iload_n hx hb dK_shape_61 rfl (lv_at hl 1 rfl) ?_
      refine va_iald hx hb hK hP 12 0 rfl rfl (vp_in_nI (show o < 200 by omega) (by decide)) dK_shape_62 ?_
      refine lv_topi (fun x62 e62 => ?_)
      rw [nI_clamp (show o < 2 ^ 31 by omega)] at e62
      exact W.iret (v := x62) hx hb hr (fun U9 ht hW => ⟨⟨x62, (), rfl, by rw [sk_shape_y h200 ho]; unfold sk_shapeN; rw [if_neg (by decide), if_pos (by decide)]; exact e62, trivial⟩, hS.F ht⟩) hS.2.2 dK_shape_63
    · skip
      refine lv_tableIn (off := 50) (tgt := 64) hx hb dK_shape_14 (by decide) (by decide) (by decide +kernel) (by decide) ?_
      refine lv_aload_n hx hb dK_shape_64 rfl (lv_at hl 0 rfl) ?_
      refine va_get (D := (dC, dI)) (ci := 3) (v := .ref (a 1)) (C := RK) (T := TK) (N := 4) hx hb hts inK hown hK hP 0 rfl rfl 0 (by decide) (hts _ wfK_10) (fun _ h9 => h9) rfl dK_shape_65 ?_
      refine lv_iload_n hx hb dK_shape_68 rfl (lv_at hl 1 rfl) ?_
      refine va_calli (va_runVN (As := [.int (nI o)]) (rest := []) ⟨hx, hb, hml, hown, hts⟩ (kO_countOfShape l dC dI a k b t f wt (nI o) h60) ⟨va_cnB 1 hts (sk_gC wcO_countOfShape) rfl rfl rfl (nlmK_154 hN) (hts _ wnO) (by decide +kernel) ⟨Nat.le_of_ble_eq_true rfl, Nat.le_of_ble_eq_true rfl⟩, hts _ wiO_countOfShape, hts _ wsO_countOfShape⟩ ⟨sk_blind _, va_recv hK hP (ci := 1) (q0 := 1) rfl rfl, fun U hU hW => ⟨rfl, sk_at (S := (b, t, f)) (wt := wt) hP hK hN hU hW⟩⟩ rfl rfl hl.1 rfl (lv_room (Nat.le_of_ble_eq_true rfl)) dK_shape_69 ⟨Nat.le_of_ble_eq_true rfl, Nat.le_of_ble_eq_true rfl⟩) hS (fun _ _ h => h.elim) (fun _ h => h.elim) (fun r69 u69 U9 H locs ht hvm w69 hB hz hk hS => ?_)
      have hP : va_P (dC, dI) vwCl (sk_wR a k (nI b.1) b.2.1 b.2.2.1 b.2.2.2.1 b.2.2.2.2 (nI t.1) t.2.1 t.2.2.1 t.2.2.2.1 t.2.2.2.2 (nI f.1) (nI (sk_there f)) (nI (f.1 % 100)) f.2.1 f.2.2.1 f.2.2.2.1 f.2.2.2.2.1 (fun i => lN (sk_nb (f.2.2.2.2.2.1 i))) (fun i => sk_bI (f.2.2.2.2.2.2 i)) wt) H := hP.kept (fun j q hq => hk q.1 ((hP j q hq).lt) (fun h => h))
      clear hk hB ht
      exact W.iret (v := r69) hx hb hr (fun U9 ht hW => ⟨⟨r69, (), rfl, by rw [sk_shape_y h200 ho]; unfold sk_shapeN; rw [if_neg (by decide), if_neg (by decide), if_pos (by decide)]; exact w69, trivial⟩, hS.F ht⟩) hS.2.2 dK_shape_72
    · skip
      refine lv_tableIn (off := 59) (tgt := 73) hx hb dK_shape_14 (by decide) (by decide) (by decide +kernel) (by decide) ?_
      refine lv_aload_n hx hb dK_shape_73 rfl (lv_at hl 0 rfl) ?_
      refine va_get (D := (dC, dI)) (ci := 3) (v := .ref (a 2)) (C := RK) (T := TK) (N := 4) hx hb hts inK hown hK hP 0 rfl rfl 1 (by decide) (hts _ wfK_19) (fun _ h9 => h9) rfl dK_shape_74 ?_
      refine va_getN (D := (dC, dI)) (ci := 2) (v := .ref (a 10)) (C := RT) (T := TT) (N := 5) hx hb hts inT hown hK hP 2 rfl rfl 1 (by decide) (va_Nw.use rfl (nlfK_157 hN)) (fun _ h9 => h9) rfl dK_shape_77 ?_
      refine lv_iload_n hx hb dK_shape_80 rfl (lv_at hl 1 rfl) ?_
      refine va_iald hx hb hK hP 10 0 rfl rfl (vp_in_nI (show o < 200 by omega) (by decide)) dK_shape_81 ?_
      refine lv_topi (fun x81 e81 => ?_)
      rw [nI_clamp (show o < 2 ^ 31 by omega)] at e81
      exact W.iret (v := x81) hx hb hr (fun U9 ht hW => ⟨⟨x81, (), rfl, by rw [sk_shape_y h200 ho]; unfold sk_shapeN; rw [if_neg (by decide), if_neg (by decide), if_neg (by decide), if_pos (by decide)]; exact e81, trivial⟩, hS.F ht⟩) hS.2.2 dK_shape_82
    · skip
      refine lv_tableOut (tgt := 83) hx hb dK_shape_14 hsw (by decide) ?_
      refine lv_iload_n hx hb dK_shape_83 rfl (lv_at hl 2 rfl) ?_
      refine lv_iconst (v := nI 4) hx hb dK_shape_84 (by decide) ?_
      refine lv_icmp_ge (tgt := 92) hx hb dK_shape_85 (by decide) (fun c85 => ?_) (fun c85 => ?_)
      · skip
        refine lv_aload_n hx hb dK_shape_92 rfl (lv_at hl 0 rfl) ?_
        refine va_get (D := (dC, dI)) (ci := 3) (v := .ref (a 2)) (C := RK) (T := TK) (N := 4) hx hb hts inK hown hK hP 0 rfl rfl 1 (by decide) (hts _ wfK_19) (fun _ h9 => h9) rfl dK_shape_93 ?_
        refine lv_iload_n hx hb dK_shape_96 rfl (lv_at hl 1 rfl) ?_
        refine lv_iload_n hx hb dK_shape_97 rfl (lv_at hl 2 rfl) ?_
        refine lv_iconst (v := nI 4) hx hb dK_shape_98 (by decide) ?_
        refine lv_isub hx hb dK_shape_99 ?_
        refine lv_topi (fun x99 e99 => ?_)
        refine va_calli (va_runVN (As := [.int (nI o), .int x99]) (rest := []) ⟨hx, hb, hml, hown, hts⟩ (kT_nameAt l dC dI a k b t f wt o x99 hT ho) ⟨va_cnB 2 hts (sk_gC wcT_nameAt) rfl rfl rfl (nlmK_160 hN) (hts _ wnT) (by decide +kernel) ⟨Nat.le_of_ble_eq_true rfl, Nat.le_of_ble_eq_true rfl⟩, hts _ wiT_nameAt, hts _ wsT_nameAt⟩ ⟨sk_blind _, va_recv hK hP (ci := 2) (q0 := 2) rfl rfl, fun U hU hW => ⟨rfl, sk_at (S := (b, t, f)) (wt := wt) hP hK hN hU hW⟩⟩ rfl rfl hl.1 rfl (lv_room (Nat.le_of_ble_eq_true rfl)) dK_shape_100 ⟨Nat.le_of_ble_eq_true rfl, Nat.le_of_ble_eq_true rfl⟩) hS (fun _ _ h => h.elim) (fun _ h => h.elim) (fun r100 u100 U9 H locs ht hvm w100 hB hz hk hS => ?_)
        have hP : va_P (dC, dI) vwCl (sk_wR a k (nI b.1) b.2.1 b.2.2.1 b.2.2.2.1 b.2.2.2.2 (nI t.1) t.2.1 t.2.2.1 t.2.2.2.1 t.2.2.2.2 (nI f.1) (nI (sk_there f)) (nI (f.1 % 100)) f.2.1 f.2.2.1 f.2.2.2.1 f.2.2.2.2.1 (fun i => lN (sk_nb (f.2.2.2.2.2.1 i))) (fun i => sk_bI (f.2.2.2.2.2.2 i)) wt) H := hP.kept (fun j q hq => hk q.1 ((hP j q hq).lt) (fun h => h))
        clear hk hB ht
        exact W.iret (v := r100) hx hb hr (fun U9 ht hW => ⟨⟨r100, (), rfl, by rw [sk_shape_y h200 ho]; unfold sk_shapeN; obtain ⟨z0, z1, z2, z3⟩ := sk_ne_of3 hsw; rw [if_neg z0, if_neg z1, if_neg z2, if_neg z3]; rw [w100, e99]; by_cases q9 : sk_hasB (sk_len t o) (y - nI 4) = true; exact (if_pos q9).trans (if_pos (c := sk_hasB (sk_len t o) (y - 4) = true ∧ 4 ≤ y) ⟨q9, c85⟩).symm; exact (if_neg q9).trans (if_neg (c := sk_hasB (sk_len t o) (y - 4) = true ∧ 4 ≤ y) (fun q => q9 q.1)).symm, trivial⟩, hS.F ht⟩) hS.2.2 dK_shape_103
      · skip
        refine lv_iconst (v := (-1)) hx hb dK_shape_88 (by decide) ?_
        refine lv_goto (tgt := 103) hx hb dK_shape_89 (by decide) ?_
        exact W.iret (v := (-1)) hx hb hr (fun U9 ht hW => ⟨⟨(-1), (), rfl, by rw [sk_shape_y h200 ho]; unfold sk_shapeN; obtain ⟨z0, z1, z2, z3⟩ := sk_ne_of3 hsw; rw [if_neg z0, if_neg z1, if_neg z2, if_neg z3, if_neg (fun q => c85 q.2)], trivial⟩, hS.F ht⟩) hS.2.2 dK_shape_103
  · skip
    obtain rfl : r5 = nI 0 := w5.trans hv
    refine lv_if_ne (tgt := 13) hx hb dK_shape_8 (by decide) (fun q => absurd q (by decide)) (fun _ => ?_)
    refine lv_iconst (v := (-1)) hx hb dK_shape_11 (by decide) ?_
    exact W.iret (v := (-1)) hx hb hr (fun U9 ht hW => ⟨⟨(-1), (), rfl, (sk_shape_n (S := (b, t, f)) h5).symm, trivial⟩, hS.F ht⟩) hS.2.2 dK_shape_12
