abbrev wzK_ownPlace : List Cond := .code yK_ownPlace cK_ownPlace 3 (some .int) :: sk_W
abbrev rzK_ownPlace : Room := { frames := 1, cells := 0, slots := 0, locals := 24 }
set_option maxHeartbeats 4000000 in
set_option maxRecDepth 100000 in
theorem kK_ownPlace (l : Launch) (dC : Nat → ClassId) (dI : Nat → Nat → Nat) (a : Nat → Nat) (k : Nat → ClassId) (b : sk_Ob) (t : sk_Tr) (f : sk_Fi) (wt : sk_F) (x y : Int32) (hT : sk_TO b.1 t) (hO : sk_OO b t) (hx9 : sk_v b.1 x) : Met l yK_ownPlace wzK_ownPlace rzK_ownPlace (va_Pc [.ref (a 0), .int x, .int y] (sk_PX dC dI a k (b, t, f) wt)) (va_Qi (fun r (_ : Unit) => r = sk_opl b t y x) (fun _ _ => True) (fun _ => False)) 0 0 (fun _ => False) := by
  refine Met.ofW (cc := cK_ownPlace) (maxL := 3) (ret := (some .int)) (by decide) rfl ?_
  intro p e s m args below meth c s₁ B hml hv
  obtain ⟨rfl, hP, hK, hN⟩ := hv
  have hx := B.exec
  have hb := B.bytes
  have hr := B.returns
  have hts : ∀ w ∈ sk_W, w.before ([.ref (a 0), .int x, .int y] : List Value).toArray s = true := fun w h => atoms_spec (ws := wzK_ownPlace) B.pre w (List.mem_cons_of_mem _ h)
  have hown : s.vm.findClass RK = some m.cls := findClass_of_methodNamed B.named
  have hlocks := B.notSynchronized
  have hS : va_S (fun _ => False) s.heap s.heap [] := va_S.rf
  have hP : va_P (dC, dI) vwCl (sk_wR a k (nI b.1) b.2.1 b.2.2.1 b.2.2.2.1 b.2.2.2.2 (nI t.1) t.2.1 t.2.2.1 t.2.2.2.1 t.2.2.2.2 (nI f.1) (nI (sk_there f)) (nI (f.1 % 100)) f.2.1 f.2.2.1 f.2.2.2.1 f.2.2.2.2.1 (fun i => lN (sk_nb (f.2.2.2.2.2.1 i))) (fun i => sk_bI (f.2.2.2.2.2.2 i)) wt) s.heap := hP
  have hl := lv_entry ([.ref (a 0), .int x, .int y]) (n := 3) (Nat.le_of_ble_eq_true rfl)
  rw [lg_entry_eq]
  generalize (lg_sl ([.ref (a 0), .int x, .int y]) ++ List.replicate (3 - (lg_sl ([.ref (a 0), .int x, .int y])).length) Slot.unset).toArray = ls at hl ⊢
  have hl : lv_has ls 3 [(0, .ref (a 0)), (1, .int x), (2, .int y)] := hl
  have h200 : t.1 ≤ 200 := hT.2.1
  have h60 : b.1 ≤ 60 := hT.2.2.1
  refine lv_iload_n hx hb dK_ownPlace_0 rfl (lv_at hl 1 rfl) ?_
  refine lv_iconst (v := (-1)) hx hb dK_ownPlace_1 (by decide) ?_
  refine lv_icmp_ne (tgt := 9) hx hb dK_ownPlace_2 (by decide) (fun c2 => ?_) (fun c2 => ?_)
  · skip
    obtain ⟨q, hq, eq9⟩ := hx9.resolve_left c2
    subst eq9
    obtain ⟨hs1, hs2, hs3⟩ := sk_shOk h200 hO hq
    refine lv_aload_n hx hb dK_ownPlace_9 rfl (lv_at hl 0 rfl) ?_
    refine va_get (D := (dC, dI)) (ci := 3) (v := .ref (a 2)) (C := RK) (T := TK) (N := 4) hx hb hts inK hown hK hP 0 rfl rfl 1 (by decide) (hts _ wfK_19) (fun _ h9 => h9) rfl dK_ownPlace_10 ?_
    refine lv_aload_n hx hb dK_ownPlace_13 rfl (lv_at hl 0 rfl) ?_
    refine va_get (D := (dC, dI)) (ci := 3) (v := .ref (a 1)) (C := RK) (T := TK) (N := 4) hx hb hts inK hown hK hP 0 rfl rfl 0 (by decide) (hts _ wfK_10) (fun _ h9 => h9) rfl dK_ownPlace_14 ?_
    refine va_getN (D := (dC, dI)) (ci := 1) (v := .ref (a 6)) (C := RO) (T := TO) (N := 5) hx hb hts inO hown hK hP 1 rfl rfl 1 (by decide) (va_Nw.use rfl (nlfK_70 hN)) (fun _ h9 => h9) rfl dK_ownPlace_17 ?_
    refine lv_iload_n hx hb dK_ownPlace_20 rfl (lv_at hl 1 rfl) ?_
    refine va_iald hx hb hK hP 6 0 rfl rfl (vp_in_nI (show q < 60 by omega) (by decide)) dK_ownPlace_21 ?_
    refine lv_topi (fun x21 e21 => ?_)
    rw [nI_clamp (show q < 2 ^ 31 by omega)] at e21
    obtain rfl : x21 = nI (sk_sh b q) := e21.trans (hs2)
    refine lv_iload_n hx hb dK_ownPlace_22 rfl (lv_at hl 2 rfl) ?_
    refine va_calli (va_runVN (As := [.int (nI (sk_sh b q)), .int y]) (rest := []) ⟨hx, hb, hml, hown, hts⟩ (kT_placeOf l dC dI a k b t f wt (sk_sh b q) y hT hs1) ⟨va_cnB 2 hts (sk_gC wcT_placeOf) rfl rfl rfl (nlmK_72 hN) (hts _ wnT) (by decide +kernel) ⟨Nat.le_of_ble_eq_true rfl, Nat.le_of_ble_eq_true rfl⟩, hts _ wiT_placeOf, hts _ wsT_placeOf⟩ ⟨sk_blind _, va_recv hK hP (ci := 2) (q0 := 2) rfl rfl, fun U hU hW => ⟨rfl, sk_at (S := (b, t, f)) (wt := wt) hP hK hN hU hW⟩⟩ rfl rfl hl.1 rfl (lv_room (Nat.le_of_ble_eq_true rfl)) dK_ownPlace_23 ⟨Nat.le_of_ble_eq_true rfl, Nat.le_of_ble_eq_true rfl⟩) hS (fun _ _ h => h.elim) (fun _ h => h.elim) (fun r23 u23 U9 H locs ht hvm w23 hB hz hk hS => ?_)
    have hP : va_P (dC, dI) vwCl (sk_wR a k (nI b.1) b.2.1 b.2.2.1 b.2.2.2.1 b.2.2.2.2 (nI t.1) t.2.1 t.2.2.1 t.2.2.2.1 t.2.2.2.2 (nI f.1) (nI (sk_there f)) (nI (f.1 % 100)) f.2.1 f.2.2.1 f.2.2.2.1 f.2.2.2.2.1 (fun i => lN (sk_nb (f.2.2.2.2.2.1 i))) (fun i => sk_bI (f.2.2.2.2.2.2 i)) wt) H := hP.kept (fun j q hq => hk q.1 ((hP j q hq).lt) (fun h => h))
    clear hk hB ht
    exact W.iret (v := r23) hx hb hr (fun U9 ht hW => ⟨⟨r23, (), rfl, w23.trans (sk_opl_n (by omega)).symm, trivial⟩, hS.F ht⟩) hS.2.2 dK_ownPlace_26
  · skip
    refine lv_iconst (v := (-1)) hx hb dK_ownPlace_5 (by decide) ?_
    refine lv_goto (tgt := 26) hx hb dK_ownPlace_6 (by decide) ?_
    exact W.iret (v := (-1)) hx hb hr (fun U9 ht hW => ⟨⟨(-1), (), rfl, (if_pos c2).symm, trivial⟩, hS.F ht⟩) hS.2.2 dK_ownPlace_26
abbrev wzK_nearestWith : List Cond := .code yK_nearestWith cK_nearestWith 5 (some .int) :: sk_W
abbrev rzK_nearestWith : Room := { frames := 2, cells := 0, slots := 0, locals := 46 }
set_option maxHeartbeats 4000000 in
set_option maxRecDepth 100000 in
theorem kK_nearestWith (l : Launch) (dC : Nat → ClassId) (dI : Nat → Nat → Nat) (a : Nat → Nat) (k : Nat → ClassId) (b : sk_Ob) (t : sk_Tr) (f : sk_Fi) (wt : sk_F) (x y : Int32) (hT : sk_TO b.1 t) (hO : sk_OO b t) (hA : sk_AC b.1 b.2.1) (hx9 : sk_v b.1 x) : Met l yK_nearestWith wzK_nearestWith rzK_nearestWith (va_Pc [.ref (a 0), .int x, .int y] (sk_PX dC dI a k (b, t, f) wt)) (va_Qi (fun r (_ : Unit) => r = sk_nw (sk_own b t y) (sk_abv b.2.1 x)) (fun _ _ => True) (fun _ => False)) 0 0 (fun _ => False) := by
  refine Met.ofW (cc := cK_nearestWith) (maxL := 5) (ret := (some .int)) (by decide) rfl ?_
  intro p e s m args below meth c s₁ B hml hv
  obtain ⟨rfl, hP, hK, hN⟩ := hv
  have hx := B.exec
  have hb := B.bytes
  have hr := B.returns
  have hts : ∀ w ∈ sk_W, w.before ([.ref (a 0), .int x, .int y] : List Value).toArray s = true := fun w h => atoms_spec (ws := wzK_nearestWith) B.pre w (List.mem_cons_of_mem _ h)
  have hown : s.vm.findClass RK = some m.cls := findClass_of_methodNamed B.named
  have hlocks := B.notSynchronized
  have hS : va_S (fun _ => False) s.heap s.heap [] := va_S.rf
  have hP : va_P (dC, dI) vwCl (sk_wR a k (nI b.1) b.2.1 b.2.2.1 b.2.2.2.1 b.2.2.2.2 (nI t.1) t.2.1 t.2.2.1 t.2.2.2.1 t.2.2.2.2 (nI f.1) (nI (sk_there f)) (nI (f.1 % 100)) f.2.1 f.2.2.1 f.2.2.2.1 f.2.2.2.2.1 (fun i => lN (sk_nb (f.2.2.2.2.2.1 i))) (fun i => sk_bI (f.2.2.2.2.2.2 i)) wt) s.heap := hP
  have hl := lv_entry ([.ref (a 0), .int x, .int y]) (n := 5) (Nat.le_of_ble_eq_true rfl)
  rw [lg_entry_eq]
  generalize (lg_sl ([.ref (a 0), .int x, .int y]) ++ List.replicate (5 - (lg_sl ([.ref (a 0), .int x, .int y])).length) Slot.unset).toArray = ls at hl ⊢
  have hl : lv_has ls 5 [(0, .ref (a 0)), (1, .int x), (2, .int y)] := hl
  have h200 : t.1 ≤ 200 := hT.2.1
  have h60 : b.1 ≤ 60 := hT.2.2.1
  refine lv_iload_n hx hb dK_nearestWith_0 rfl (lv_at hl 1 rfl) ?_
  refine lv_istore_n (lv' := [(3, .int x), (0, .ref (a 0)), (1, .int x), (2, .int y)]) hx hb dK_nearestWith_1 rfl hl (by decide) rfl (fun ls hl => ?_)
  refine lv_iconst (v := nI 0) hx hb dK_nearestWith_2 (by decide) ?_
  refine lv_istore (lv' := [(4, .int (nI 0)), (3, .int x), (0, .ref (a 0)), (1, .int x), (2, .int y)]) hx hb dK_nearestWith_3 hl (by decide) rfl (fun ls hl => ?_)
  have loop1 : ∀ (nn : Nat) (z : Int32) (st : Nat), sk_v b.1 z → st + (sk_abv b.2.1 z).length ≤ 60 → sk_nw (sk_own b t y) (sk_abv b.2.1 z) = sk_nw (sk_own b t y) (sk_abv b.2.1 x) → (sk_abv b.2.1 z).length < nn → ∀ (H : Heap) (locs : List Loc), va_P (dC, dI) vwCl (sk_wR a k (nI b.1) b.2.1 b.2.2.1 b.2.2.2.1 b.2.2.2.2 (nI t.1) t.2.1 t.2.2.1 t.2.2.2.1 t.2.2.2.2 (nI f.1) (nI (sk_there f)) (nI (f.1 % 100)) f.2.1 f.2.2.1 f.2.2.2.1 f.2.2.2.2.1 (fun i => lN (sk_nb (f.2.2.2.2.2.1 i))) (fun i => sk_bI (f.2.2.2.2.2.2 i)) wt) H → va_S (fun _ => False) s.heap H locs → ∀ ls : Array Slot, lv_has ls 5 [(4, .int (nI st)), (3, .int z), (0, .ref (a 0)), (1, .int x), (2, .int y)] → W p l e (headSpec wzK_nearestWith rzK_nearestWith).room s m ([.ref (a 0), .int x, .int y] : List Value).toArray below meth c H locs 0 0 (MQ below (va_Qi (fun r (_ : Unit) => r = sk_nw (sk_own b t y) (sk_abv b.2.1 x)) (fun _ _ => True) (fun _ => False)) ([.ref (a 0), .int x, .int y] : List Value).toArray s 0 0 (fun _ => False)) (F0 m 5 ls []) := by
    intro nn
    induction nn with
    | zero => intro z st hz hst he hmu; exact absurd hmu (Nat.not_lt_zero _)
    | succ nn ih1 =>
      intro z st hz hst he hmu H locs hP hS ls hl
      rcases hz with rfl | ⟨q, hq, rfl⟩
      · skip
        refine lv_iload_n hx hb dK_nearestWith_5 rfl (lv_at hl 1 rfl) ?_
        refine lv_iconst (v := (-1)) hx hb dK_nearestWith_6 (by decide) ?_
        refine lv_icmp_eq (tgt := 45) hx hb dK_nearestWith_7 (by decide) (fun _ => ?_) (fun q => absurd (by decide) q)
        refine lv_iconst (v := (-1)) hx hb dK_nearestWith_45 (by decide) ?_
        exact W.iret (v := (-1)) hx hb hr (fun U9 ht hW => ⟨⟨(-1), (), rfl, by rw [← he, sk_abv_m1]; rfl, trivial⟩, hS.F ht⟩) hS.2.2 dK_nearestWith_46
      · skip
        have hs9 := sk_abv_s hA hq
        have hl9 : (sk_abv b.2.1 (nI q)).length = (sk_abv b.2.1 (b.2.1 q)).length + 1 := by rw [hs9]; rfl
        refine lv_iload_n hx hb dK_nearestWith_5 rfl (lv_at hl 1 rfl) ?_
        refine lv_iconst (v := (-1)) hx hb dK_nearestWith_6 (by decide) ?_
        refine lv_icmp_eq (tgt := 45) hx hb dK_nearestWith_7 (by decide) (fun c7 => ?_) (fun c7 => ?_)
        · skip
          exact absurd c7 (sk_nm1 (by omega))
        · skip
          refine lv_iload hx hb dK_nearestWith_10 (lv_at hl 0 rfl) ?_
          refine lv_bipush (v := nI 60) hx hb dK_nearestWith_12 (by decide) ?_
          refine lv_icmp_ge (tgt := 45) hx hb dK_nearestWith_14 (by decide) (fun c14 => ?_) (fun c14 => ?_)
          · skip
            have n14 : 60 ≤ st := (nI_leI (a := 60) (b := st) (by omega) (by omega)).mp c14
            omega
          · skip
            have n14 : ¬ 60 ≤ st := fun z9 => c14 ((nI_leI (a := 60) (b := st) (by omega) (by omega)).mpr z9)
            refine lv_aload_n hx hb dK_nearestWith_17 rfl (lv_at hl 2 rfl) ?_
            refine lv_iload_n hx hb dK_nearestWith_18 rfl (lv_at hl 1 rfl) ?_
            refine lv_iload_n hx hb dK_nearestWith_19 rfl (lv_at hl 4 rfl) ?_
            refine va_calli (va_runV (As := [.int (nI q), .int y]) (rest := []) ⟨hx, hb, hml, hown, hts⟩ (kK_ownPlace l dC dI a k b t f wt (nI q) y hT hO (Or.inr ⟨q, hq, rfl⟩)) (cwV 2 hts (sk_gV wmK_108 wiK_ownPlace wsK_ownPlace wnK wcK_ownPlace) rfl rfl rfl (by decide +kernel) ⟨Nat.le_of_ble_eq_true rfl, Nat.le_of_ble_eq_true rfl⟩) ⟨sk_blind _, va_recv hK hP (ci := 3) (q0 := 0) rfl rfl, fun U hU hW => ⟨rfl, sk_at (S := (b, t, f)) (wt := wt) hP hK hN hU hW⟩⟩ rfl rfl hl.1 rfl (lv_room (Nat.le_of_ble_eq_true rfl)) dK_nearestWith_20 ⟨Nat.le_of_ble_eq_true rfl, Nat.le_of_ble_eq_true rfl⟩) hS (fun _ _ h => h.elim) (fun _ h => h.elim) (fun r20 u20 U9 H locs ht hvm w20 hB hz hk hS => ?_)
            have hP : va_P (dC, dI) vwCl (sk_wR a k (nI b.1) b.2.1 b.2.2.1 b.2.2.2.1 b.2.2.2.2 (nI t.1) t.2.1 t.2.2.1 t.2.2.2.1 t.2.2.2.2 (nI f.1) (nI (sk_there f)) (nI (f.1 % 100)) f.2.1 f.2.2.1 f.2.2.2.1 f.2.2.2.2.1 (fun i => lN (sk_nb (f.2.2.2.2.2.1 i))) (fun i => sk_bI (f.2.2.2.2.2.2 i)) wt) H := hP.kept (fun j q hq => hk q.1 ((hP j q hq).lt) (fun h => h))
            clear hk hB ht
            have hr9 : r20 = sk_place t y (sk_sh b q) := w20.trans (sk_opl_n (by omega))
            refine lv_iconst (v := (-1)) hx hb dK_nearestWith_23 (by decide) ?_
            refine lv_icmp_eq (tgt := 29) hx hb dK_nearestWith_24 (by decide) (fun c24 => ?_) (fun c24 => ?_)
            · skip
              refine lv_aload_n hx hb dK_nearestWith_29 rfl (lv_at hl 2 rfl) ?_
              refine va_get (D := (dC, dI)) (ci := 3) (v := .ref (a 1)) (C := RK) (T := TK) (N := 4) hx hb hts inK hown hK hP 0 rfl rfl 0 (by decide) (hts _ wfK_10) (fun _ h9 => h9) rfl dK_nearestWith_30 ?_
              refine va_getN (D := (dC, dI)) (ci := 1) (v := .ref (a 5)) (C := RO) (T := TO) (N := 5) hx hb hts inO hown hK hP 1 rfl rfl 0 (by decide) (va_Nw.use rfl (nlfK_93 hN)) (fun _ h9 => h9) rfl dK_nearestWith_33 ?_
              refine lv_iload_n hx hb dK_nearestWith_36 rfl (lv_at hl 1 rfl) ?_
              refine va_iald hx hb hK hP 5 0 rfl rfl (vp_in_nI (show q < 60 by omega) (by decide)) dK_nearestWith_37 ?_
              refine lv_topi (fun x37 e37 => ?_)
              rw [nI_clamp (show q < 2 ^ 31 by omega)] at e37
              refine lv_istore_n (lv' := [(3, .int x37), (4, .int (nI st)), (0, .ref (a 0)), (1, .int x), (2, .int y)]) hx hb dK_nearestWith_38 rfl hl (by decide) rfl (fun ls hl => ?_)
              refine lv_iinc (v := nI (st + 1)) (lv' := [(4, .int (nI (st + 1))), (3, .int x37), (0, .ref (a 0)), (1, .int x), (2, .int y)]) hx hb dK_nearestWith_39 hl (k := 1) rfl (sk_inc _) (by decide) rfl (fun ls hl => ?_)
              refine lv_goto (tgt := 5) hx hb dK_nearestWith_42 (by decide) ?_
              have hmx : (sk_abv b.2.1 x37).length < nn := by rw [e37]; omega
              exact ih1 x37 (st + 1) (by rw [e37]; exact hA.2.1 q hq) (by rw [e37]; omega) (by rw [e37, ← he, hs9]; exact (if_neg (by rw [sk_own_f (hr9.symm.trans c24)]; decide)).symm) (by omega) _ _ hP hS ls (lv_sub hl [0, 1, 2, 3, 4] rfl)
            · skip
              refine lv_iload_n hx hb dK_nearestWith_27 rfl (lv_at hl 1 rfl) ?_
              exact W.iret (v := nI q) hx hb hr (fun U9 ht hW => ⟨⟨nI q, (), rfl, by rw [← he, hs9]; exact (if_pos (sk_own_t (fun z9 => c24 (hr9.trans z9)))).symm, trivial⟩, hS.F ht⟩) hS.2.2 dK_nearestWith_28
  exact loop1 ((sk_abv b.2.1 x).length + 1) x 0 (hx9) (by have := sk_abv_len b.2.1 x; omega) (rfl) (Nat.lt_succ_self _) _ _ hP hS ls (lv_sub hl [0, 1, 2, 3, 4] rfl)
abbrev wzK_set : List Cond := .code yK_set cK_set 7 (some .boolean) :: sk_W
abbrev rzK_set : Room := { frames := 3, cells := 0, slots := 0, locals := 70 }
set_option maxHeartbeats 4000000 in
set_option maxRecDepth 100000 in
theorem kK_set (l : Launch) (dC : Nat → ClassId) (dI : Nat → Nat → Nat) (a : Nat → Nat) (k : Nat → ClassId) (b : sk_Ob) (t : sk_Tr) (f : sk_Fi) (wt : sk_F) (A : Nat → Prop) (x y v : Int32) (K : Nat) (hOK : sk_OK K (b, t, f)) : Met l yK_set wzK_set rzK_set (va_Pc [.ref (a 0), .int x, .int y, .int v] (fun U => sk_PX dC dI a k (b, t, f) wt U ∧ va_D A (sk_wX a k (b, t, f) wt))) (va_Qi (fun r (u : sk_S × sk_F) => r = sk_bI (sk_set (b, t, f) x y v).1 ∧ ∃ wt2, u = ((sk_set (b, t, f) x y v).2, wt2)) (fun u U => va_P (dC, dI) vwCl (sk_wX a k u.1 u.2) U.heap ∧ va_D A (sk_wX a k u.1 u.2)) A) 0 0 A := by
  refine Met.ofW (cc := cK_set) (maxL := 7) (ret := (some .boolean)) (by decide) rfl ?_
  intro p e s m args below meth c s₁ B hml hv
  obtain ⟨rfl, ⟨hP, hK, hN⟩, hD⟩ := hv
  have hx := B.exec
  have hb := B.bytes
  have hr := B.returns
  have hts : ∀ w ∈ sk_W, w.before ([.ref (a 0), .int x, .int y, .int v] : List Value).toArray s = true := fun w h => atoms_spec (ws := wzK_set) B.pre w (List.mem_cons_of_mem _ h)
  have hown : s.vm.findClass RK = some m.cls := findClass_of_methodNamed B.named
  have hlocks := B.notSynchronized
  have hS : va_S A s.heap s.heap [] := va_S.rf
  have hP : va_P (dC, dI) vwCl (sk_wR a k (nI b.1) b.2.1 b.2.2.1 b.2.2.2.1 b.2.2.2.2 (nI t.1) t.2.1 t.2.2.1 t.2.2.2.1 t.2.2.2.2 (nI f.1) (nI (sk_there f)) (nI (f.1 % 100)) f.2.1 f.2.2.1 f.2.2.2.1 f.2.2.2.2.1 (fun i => lN (sk_nb (f.2.2.2.2.2.1 i))) (fun i => sk_bI (f.2.2.2.2.2.2 i)) wt) s.heap := hP
  have hD : va_D A (sk_wR a k (nI b.1) b.2.1 b.2.2.1 b.2.2.2.1 b.2.2.2.2 (nI t.1) t.2.1 t.2.2.1 t.2.2.2.1 t.2.2.2.2 (nI f.1) (nI (sk_there f)) (nI (f.1 % 100)) f.2.1 f.2.2.1 f.2.2.2.1 f.2.2.2.2.1 (fun i => lN (sk_nb (f.2.2.2.2.2.1 i))) (fun i => sk_bI (f.2.2.2.2.2.2 i)) wt) := hD
  have hl := lv_entry ([.ref (a 0), .int x, .int y, .int v]) (n := 7) (Nat.le_of_ble_eq_true rfl)
  rw [lg_entry_eq]
  generalize (lg_sl ([.ref (a 0), .int x, .int y, .int v]) ++ List.replicate (7 - (lg_sl ([.ref (a 0), .int x, .int y, .int v])).length) Slot.unset).toArray = ls at hl ⊢
  have hl : lv_has ls 7 [(0, .ref (a 0)), (1, .int x), (2, .int y), (3, .int v)] := hl
  have hT : sk_TO b.1 t := hOK.1
  have hA : sk_AC b.1 b.2.1 := hOK.2.1
  have hO : sk_OO b t := hOK.2.2.1
  have hmk : f.1 ≤ K := hOK.2.2.2.2.2.2.1
  have hK5 : K ≤ 512 := hOK.2.2.2.2.2.1
  have h200 : t.1 ≤ 200 := hT.2.1
  have h60 : b.1 ≤ 60 := hT.2.2.1
  have hfl : ∀ i, i < sk_there f → ∀ x ∈ f.2.2.2.2.2.1 i, x < 60 := fun i hi x hx => Nat.lt_of_lt_of_le ((hOK.2.2.2.2.2.2.2 i hi).2.2.2 x hx) h60
  refine lv_aload_n hx hb dK_set_0 rfl (lv_at hl 0 rfl) ?_
  refine va_get (D := (dC, dI)) (ci := 3) (v := .ref (a 1)) (C := RK) (T := TK) (N := 4) hx hb hts inK hown hK hP 0 rfl rfl 0 (by decide) (hts _ wfK_10) (fun _ h9 => h9) rfl dK_set_1 ?_
  refine lv_iload_n hx hb dK_set_4 rfl (lv_at hl 1 rfl) ?_
  refine va_calli (va_runVN (As := [.int x]) (rest := []) ⟨hx, hb, hml, hown, hts⟩ (kO_has l dC dI a k b t f wt x) ⟨va_cnB 1 hts (sk_gC wcO_has) rfl rfl rfl (nlmK_64 hN) (hts _ wnO) (by decide +kernel) ⟨Nat.le_of_ble_eq_true rfl, Nat.le_of_ble_eq_true rfl⟩, hts _ wiO_has, hts _ wsO_has⟩ ⟨sk_blind _, va_recv hK hP (ci := 1) (q0 := 1) rfl rfl, fun U hU hW => ⟨rfl, sk_at (S := (b, t, f)) (wt := wt) hP hK hN hU hW⟩⟩ rfl rfl hl.1 rfl (lv_room (Nat.le_of_ble_eq_true rfl)) dK_set_5 ⟨Nat.le_of_ble_eq_true rfl, Nat.le_of_ble_eq_true rfl⟩) hS (fun _ _ h => h.elim) (fun _ h => h.elim) (fun r5 u5 U9 H locs ht hvm w5 hB hz hk hS => ?_)
  have hP : va_P (dC, dI) vwCl (sk_wR a k (nI b.1) b.2.1 b.2.2.1 b.2.2.2.1 b.2.2.2.2 (nI t.1) t.2.1 t.2.2.1 t.2.2.2.1 t.2.2.2.2 (nI f.1) (nI (sk_there f)) (nI (f.1 % 100)) f.2.1 f.2.2.1 f.2.2.2.1 f.2.2.2.2.1 (fun i => lN (sk_nb (f.2.2.2.2.2.1 i))) (fun i => sk_bI (f.2.2.2.2.2.2 i)) wt) H := hP.kept (fun j q hq => hk q.1 ((hP j q hq).lt) (fun h => h))
  clear hk hB ht
  rcases sk_bI_or (sk_hasB b.1 x) with ⟨h5, hv⟩ | ⟨h5, hv⟩
  · skip
    obtain rfl : r5 = nI 1 := w5.trans hv
    obtain ⟨o, ho, eo9⟩ := (sk_hasB_iff (by omega)).mp h5
    subst eo9
    obtain ⟨hs1, hs2, hs3⟩ := sk_shOk h200 hO ho
    refine lv_if_eq (tgt := 18) hx hb dK_set_8 (by decide) (fun q => absurd q (by decide)) (fun _ => ?_)
    refine lv_iload_n hx hb dK_set_11 rfl (lv_at hl 2 rfl) ?_
    refine va_calli (va_runS (As := [.int y]) (rest := []) ⟨hx, hb, hml, hown, hts⟩ (kK_isName l dC dI a k b t f wt y) (cwS 1 hts (sk_gS wmK_67 wiK_isName wnK wcK_isName) rfl rfl rfl (by decide +kernel) ⟨Nat.le_of_ble_eq_true rfl, Nat.le_of_ble_eq_true rfl⟩) ⟨sk_blind _, fun U hU hW => ⟨rfl, sk_at (S := (b, t, f)) (wt := wt) hP hK hN hU hW⟩⟩ rfl rfl hl.1 rfl (lv_room (Nat.le_of_ble_eq_true rfl)) dK_set_12 ⟨Nat.le_of_ble_eq_true rfl, Nat.le_of_ble_eq_true rfl⟩) hS (fun _ _ h => h.elim) (fun _ h => h.elim) (fun r12 u12 U9 H locs ht hvm w12 hB hz hk hS => ?_)
    have hP : va_P (dC, dI) vwCl (sk_wR a k (nI b.1) b.2.1 b.2.2.1 b.2.2.2.1 b.2.2.2.2 (nI t.1) t.2.1 t.2.2.1 t.2.2.2.1 t.2.2.2.2 (nI f.1) (nI (sk_there f)) (nI (f.1 % 100)) f.2.1 f.2.2.1 f.2.2.2.1 f.2.2.2.2.1 (fun i => lN (sk_nb (f.2.2.2.2.2.1 i))) (fun i => sk_bI (f.2.2.2.2.2.2 i)) wt) H := hP.kept (fun j q hq => hk q.1 ((hP j q hq).lt) (fun h => h))
    clear hk hB ht
    rcases sk_bI_or (sk_isN y) with ⟨h12, hv⟩ | ⟨h12, hv⟩
    · skip
      obtain rfl : r12 = nI 1 := w12.trans hv
      refine lv_if_ne (tgt := 20) hx hb dK_set_15 (by decide) (fun _ => ?_) (fun q => absurd q (by decide))
      refine lv_aload_n hx hb dK_set_20 rfl (lv_at hl 0 rfl) ?_
      refine va_get (D := (dC, dI)) (ci := 3) (v := .ref (a 1)) (C := RK) (T := TK) (N := 4) hx hb hts inK hown hK hP 0 rfl rfl 0 (by decide) (hts _ wfK_10) (fun _ h9 => h9) rfl dK_set_21 ?_
      refine va_getN (D := (dC, dI)) (ci := 1) (v := .ref (a 6)) (C := RO) (T := TO) (N := 5) hx hb hts inO hown hK hP 1 rfl rfl 1 (by decide) (va_Nw.use rfl (nlfK_70 hN)) (fun _ h9 => h9) rfl dK_set_24 ?_
      refine lv_iload_n hx hb dK_set_27 rfl (lv_at hl 1 rfl) ?_
      refine va_iald hx hb hK hP 6 0 rfl rfl (vp_in_nI (show o < 60 by omega) (by decide)) dK_set_28 ?_
      refine lv_topi (fun x28 e28 => ?_)
      rw [nI_clamp (show o < 2 ^ 31 by omega)] at e28
      obtain rfl : x28 = nI (sk_sh b o) := e28.trans (hs2)
      refine lv_istore (lv' := [(4, .int (nI (sk_sh b o))), (0, .ref (a 0)), (1, .int (nI o)), (2, .int y), (3, .int v)]) hx hb dK_set_29 hl (by decide) rfl (fun ls hl => ?_)
      refine lv_aload_n hx hb dK_set_31 rfl (lv_at hl 1 rfl) ?_
      refine va_get (D := (dC, dI)) (ci := 3) (v := .ref (a 2)) (C := RK) (T := TK) (N := 4) hx hb hts inK hown hK hP 0 rfl rfl 1 (by decide) (hts _ wfK_19) (fun _ h9 => h9) rfl dK_set_32 ?_
      refine lv_iload hx hb dK_set_35 (lv_at hl 0 rfl) ?_
      refine lv_iload_n hx hb dK_set_37 rfl (lv_at hl 3 rfl) ?_
      refine va_calli (va_runVN (As := [.int (nI (sk_sh b o)), .int y]) (rest := []) ⟨hx, hb, hml, hown, hts⟩ (kT_placeOf l dC dI a k b t f wt (sk_sh b o) y hT hs1) ⟨va_cnB 2 hts (sk_gC wcT_placeOf) rfl rfl rfl (nlmK_72 hN) (hts _ wnT) (by decide +kernel) ⟨Nat.le_of_ble_eq_true rfl, Nat.le_of_ble_eq_true rfl⟩, hts _ wiT_placeOf, hts _ wsT_placeOf⟩ ⟨sk_blind _, va_recv hK hP (ci := 2) (q0 := 2) rfl rfl, fun U hU hW => ⟨rfl, sk_at (S := (b, t, f)) (wt := wt) hP hK hN hU hW⟩⟩ rfl rfl hl.1 rfl (lv_room (Nat.le_of_ble_eq_true rfl)) dK_set_38 ⟨Nat.le_of_ble_eq_true rfl, Nat.le_of_ble_eq_true rfl⟩) hS (fun _ _ h => h.elim) (fun _ h => h.elim) (fun r38 u38 U9 H locs ht hvm w38 hB hz hk hS => ?_)
      have hP : va_P (dC, dI) vwCl (sk_wR a k (nI b.1) b.2.1 b.2.2.1 b.2.2.2.1 b.2.2.2.2 (nI t.1) t.2.1 t.2.2.1 t.2.2.2.1 t.2.2.2.2 (nI f.1) (nI (sk_there f)) (nI (f.1 % 100)) f.2.1 f.2.2.1 f.2.2.2.1 f.2.2.2.2.1 (fun i => lN (sk_nb (f.2.2.2.2.2.1 i))) (fun i => sk_bI (f.2.2.2.2.2.2 i)) wt) H := hP.kept (fun j q hq => hk q.1 ((hP j q hq).lt) (fun h => h))
      clear hk hB ht
      rcases sk_placeOk hT y hs1 with hp | ⟨kk, hk1, hk2, hp⟩
      · skip
        obtain rfl : r38 = -1 := w38.trans hp
        refine lv_istore (lv' := [(5, .int (-1)), (4, .int (nI (sk_sh b o))), (0, .ref (a 0)), (1, .int (nI o)), (2, .int y), (3, .int v)]) hx hb dK_set_41 hl (by decide) rfl (fun ls hl => ?_)
        refine lv_iload hx hb dK_set_43 (lv_at hl 0 rfl) ?_
        refine lv_iconst (v := (-1)) hx hb dK_set_45 (by decide) ?_
        refine lv_icmp_ne (tgt := 88) hx hb dK_set_46 (by decide) (fun q => absurd q (by decide)) (fun _ => ?_)
        refine lv_aload_n hx hb dK_set_49 rfl (lv_at hl 2 rfl) ?_
        refine va_get (D := (dC, dI)) (ci := 3) (v := .ref (a 2)) (C := RK) (T := TK) (N := 4) hx hb hts inK hown hK hP 0 rfl rfl 1 (by decide) (hts _ wfK_19) (fun _ h9 => h9) rfl dK_set_50 ?_
        refine lv_iload hx hb dK_set_53 (lv_at hl 1 rfl) ?_
        refine lv_iload_n hx hb dK_set_55 rfl (lv_at hl 4 rfl) ?_
        refine va_calli (va_runVN (As := [.int (nI (sk_sh b o)), .int y]) (rest := []) ⟨hx, hb, hml, hown, hts⟩ (kT_grow l dC dI a k b t f wt A (sk_sh b o) y hT hs1) ⟨va_cnB 2 hts (sk_gC wcT_grow) rfl rfl rfl (nlmK_75 hN) (hts _ wnT) (by decide +kernel) ⟨Nat.le_of_ble_eq_true rfl, Nat.le_of_ble_eq_true rfl⟩, hts _ wiT_grow, hts _ wsT_grow⟩ ⟨sk_blindD _, va_recv hK hP (ci := 2) (q0 := 2) rfl rfl, fun U hU hW => ⟨rfl, sk_at (S := (b, t, f)) (wt := wt) hP hK hN hU hW, hD⟩⟩ rfl rfl hl.1 rfl (lv_room (Nat.le_of_ble_eq_true rfl)) dK_set_56 ⟨Nat.le_of_ble_eq_true rfl, Nat.le_of_ble_eq_true rfl⟩) hS (fun _ _ h => h) (fun _ h => h) (fun r56 u56 U9 H locs ht hvm w56 hB hz hk hS => ?_)
        obtain ⟨hP, hD⟩ := hB
        rw [ht] at hP
        rcases w56 with ⟨hg, rfl, rfl⟩ | ⟨t2, g2, hg, rfl, rfl⟩
        · skip
          have hP : va_P (dC, dI) vwCl (sk_wR a k (nI b.1) b.2.1 b.2.2.1 b.2.2.2.1 b.2.2.2.2 (nI t.1) t.2.1 t.2.2.1 t.2.2.2.1 t.2.2.2.2 (nI f.1) (nI (sk_there f)) (nI (f.1 % 100)) f.2.1 f.2.2.1 f.2.2.2.1 f.2.2.2.2.1 (fun i => lN (sk_nb (f.2.2.2.2.2.1 i))) (fun i => sk_bI (f.2.2.2.2.2.2 i)) wt) H := hP
          have hD : va_D A (sk_wR a k (nI b.1) b.2.1 b.2.2.1 b.2.2.2.1 b.2.2.2.2 (nI t.1) t.2.1 t.2.2.1 t.2.2.2.1 t.2.2.2.2 (nI f.1) (nI (sk_there f)) (nI (f.1 % 100)) f.2.1 f.2.2.1 f.2.2.2.1 f.2.2.2.2.1 (fun i => lN (sk_nb (f.2.2.2.2.2.1 i))) (fun i => sk_bI (f.2.2.2.2.2.2 i)) wt) := hD
          refine lv_istore (lv' := [(6, .int (-1)), (5, .int (-1)), (4, .int (nI (sk_sh b o))), (0, .ref (a 0)), (1, .int (nI o)), (2, .int y), (3, .int v)]) hx hb dK_set_59 hl (by decide) rfl (fun ls hl => ?_)
          refine lv_iload hx hb dK_set_61 (lv_at hl 0 rfl) ?_
          refine lv_iconst (v := (-1)) hx hb dK_set_63 (by decide) ?_
          refine lv_icmp_ne (tgt := 69) hx hb dK_set_64 (by decide) (fun q => absurd q (by decide)) (fun _ => ?_)
          refine lv_iconst (v := nI 0) hx hb dK_set_67 (by decide) ?_
          have hset : sk_set (b, t, f) (nI o) y v = _ := (sk_set_y (S := (b, t, f)) h60 ho h12).trans (sk_set_2 hp hg)
          exact W.zret (v := nI 0) hx hb hr (by decide) (fun U9 ht hW => ⟨⟨nI 0, ((b, t, f), wt), rfl, ⟨by rw [hset]; rfl, wt, by rw [hset]⟩, sk_endw ht hP hD⟩, hS.F ht⟩) hS.2.2 dK_set_68
        · skip
          have hP : va_P (dC, dI) vwCl (sk_wR a k (nI b.1) b.2.1 b.2.2.1 b.2.2.2.1 b.2.2.2.2 (nI t2.1) t2.2.1 t2.2.2.1 t2.2.2.2.1 t2.2.2.2.2 (nI f.1) (nI (sk_there f)) (nI (f.1 % 100)) f.2.1 f.2.2.1 f.2.2.2.1 f.2.2.2.2.1 (fun i => lN (sk_nb (f.2.2.2.2.2.1 i))) (fun i => sk_bI (f.2.2.2.2.2.2 i)) wt) H := hP
          have hD : va_D A (sk_wR a k (nI b.1) b.2.1 b.2.2.1 b.2.2.2.1 b.2.2.2.2 (nI t2.1) t2.2.1 t2.2.2.1 t2.2.2.2.1 t2.2.2.2.2 (nI f.1) (nI (sk_there f)) (nI (f.1 % 100)) f.2.1 f.2.2.1 f.2.2.2.1 f.2.2.2.2.1 (fun i => lN (sk_nb (f.2.2.2.2.2.1 i))) (fun i => sk_bI (f.2.2.2.2.2.2 i)) wt) := hD
          obtain ⟨a9, ha9, ea9⟩ := sk_isN_iff.mp h12
          obtain ⟨q1, q2, q3, q4, q5⟩ := sk_grow_spec hT hs1 ha9 (by rw [← ea9]; exact hp) (by rw [← ea9]; exact hg)
          obtain ⟨m9, hm9, hle9, hlen9⟩ := sk_lenOk hT hs1
          have hle2 : t2.2.2.2.2 (sk_sh b o) = nI (sk_len t (sk_sh b o)) := by rw [(q2.2 _ hs1).2.2.2, hle9, hlen9]
          have hl12 : sk_len t (sk_sh b o) < 12 := by have z1 := sk_len12 (sk_names_nodup q1 q3) (sk_names_in q1 q3); rw [q5, List.length_append, sk_names_len] at z1; exact z1
          have h200b : t2.1 ≤ 200 := q1.2.1
          refine lv_istore (lv' := [(6, .int (nI g2)), (5, .int (-1)), (4, .int (nI (sk_sh b o))), (0, .ref (a 0)), (1, .int (nI o)), (2, .int y), (3, .int v)]) hx hb dK_set_59 hl (by decide) rfl (fun ls hl => ?_)
          refine lv_iload hx hb dK_set_61 (lv_at hl 0 rfl) ?_
          refine lv_iconst (v := (-1)) hx hb dK_set_63 (by decide) ?_
          refine lv_icmp_ne (tgt := 69) hx hb dK_set_64 (by decide) (fun c64 => ?_) (fun c64 => ?_)
          · skip
            refine lv_aload_n hx hb dK_set_69 rfl (lv_at hl 3 rfl) ?_
            refine va_get (D := (dC, dI)) (ci := 3) (v := .ref (a 2)) (C := RK) (T := TK) (N := 4) hx hb hts inK hown hK hP 0 rfl rfl 1 (by decide) (hts _ wfK_19) (fun _ h9 => h9) rfl dK_set_70 ?_
            refine va_getN (D := (dC, dI)) (ci := 2) (v := .ref (a 12)) (C := RT) (T := TT) (N := 5) hx hb hts inT hown hK hP 2 rfl rfl 3 (by decide) (va_Nw.use rfl (nlfK_78 hN)) (fun _ h9 => h9) rfl dK_set_73 ?_
            refine lv_iload hx hb dK_set_76 (lv_at hl 2 rfl) ?_
            refine va_iald hx hb hK hP 12 0 rfl rfl (vp_in_nI (show (sk_sh b o) < 200 by omega) (by decide)) dK_set_78 ?_
            refine lv_topi (fun x78 e78 => ?_)
            rw [nI_clamp (show (sk_sh b o) < 2 ^ 31 by omega)] at e78
            obtain rfl : x78 = nI (sk_len t (sk_sh b o)) := e78.trans (hle2)
            refine lv_istore (lv' := [(5, .int (nI (sk_len t (sk_sh b o)))), (6, .int (nI g2)), (4, .int (nI (sk_sh b o))), (0, .ref (a 0)), (1, .int (nI o)), (2, .int y), (3, .int v)]) hx hb dK_set_79 hl (by decide) rfl (fun ls hl => ?_)
            refine lv_aload_n hx hb dK_set_81 rfl (lv_at hl 3 rfl) ?_
            refine lv_iload_n hx hb dK_set_82 rfl (lv_at hl 4 rfl) ?_
            refine lv_iload hx hb dK_set_83 (lv_at hl 1 rfl) ?_
            refine va_callv (va_runV (As := [.int (nI o), .int (nI g2)]) (rest := []) ⟨hx, hb, hml, hown, hts⟩ (kK_change l dC dI a k b t2 f wt A o g2 (by omega) hfl) (cwV 2 hts (sk_gV wmK_81 wiK_change wsK_change wnK wcK_change) rfl rfl rfl (by decide +kernel) ⟨Nat.le_of_ble_eq_true rfl, Nat.le_of_ble_eq_true rfl⟩) ⟨sk_blindD _, va_recv hK hP (ci := 3) (q0 := 0) rfl rfl, fun U hU hW => ⟨rfl, sk_at (S := (b, t2, f)) (wt := wt) hP hK hN hU hW, hD⟩⟩ rfl rfl hl.1 rfl (lv_room (Nat.le_of_ble_eq_true rfl)) dK_set_85 ⟨Nat.le_of_ble_eq_true rfl, Nat.le_of_ble_eq_true rfl⟩) hS (fun _ _ h => h) (fun _ h => h) (fun u85 U9 H locs ht hvm w85 hB hz hk hS => ?_)
            obtain ⟨hP, hD⟩ := hB
            rw [ht] at hP
            obtain rfl := w85
            have hP : va_P (dC, dI) vwCl (sk_wR a k (nI (sk_chg b o g2).1) ((sk_chg b o g2).2.1) ((sk_chg b o g2).2.2.1) ((sk_chg b o g2).2.2.2.1) ((sk_chg b o g2).2.2.2.2) (nI t2.1) t2.2.1 t2.2.2.1 t2.2.2.2.1 t2.2.2.2.2 (nI (sk_brk f o).1) (nI (sk_there (sk_brk f o))) (nI ((sk_brk f o).1 % 100)) ((sk_brk f o).2.1) ((sk_brk f o).2.2.1) ((sk_brk f o).2.2.2.1) ((sk_brk f o).2.2.2.2.1) (fun i => lN (sk_nb ((sk_brk f o).2.2.2.2.2.1 i))) (fun i => sk_bI ((sk_brk f o).2.2.2.2.2.2 i)) wt) H := hP
            have hD : va_D A (sk_wR a k (nI (sk_chg b o g2).1) ((sk_chg b o g2).2.1) ((sk_chg b o g2).2.2.1) ((sk_chg b o g2).2.2.2.1) ((sk_chg b o g2).2.2.2.2) (nI t2.1) t2.2.1 t2.2.2.1 t2.2.2.2.1 t2.2.2.2.2 (nI (sk_brk f o).1) (nI (sk_there (sk_brk f o))) (nI ((sk_brk f o).1 % 100)) ((sk_brk f o).2.1) ((sk_brk f o).2.2.1) ((sk_brk f o).2.2.2.1) ((sk_brk f o).2.2.2.2.1) (fun i => lN (sk_nb ((sk_brk f o).2.2.2.2.2.1 i))) (fun i => sk_bI ((sk_brk f o).2.2.2.2.2.2 i)) wt) := hD
            refine lv_aload_n hx hb dK_set_88 rfl (lv_at hl 3 rfl) ?_
            refine va_get (D := (dC, dI)) (ci := 3) (v := .ref (a 1)) (C := RK) (T := TK) (N := 4) hx hb hts inK hown hK hP 0 rfl rfl 0 (by decide) (hts _ wfK_10) (fun _ h9 => h9) rfl dK_set_89 ?_
            refine va_getN (D := (dC, dI)) (ci := 1) (v := .ref (a 8)) (C := RO) (T := TO) (N := 5) hx hb hts inO hown hK hP 1 rfl rfl 3 (by decide) (va_Nw.use rfl (nlfK_85 hN)) (fun _ h9 => h9) rfl dK_set_92 ?_
            refine lv_iload_n hx hb dK_set_95 rfl (lv_at hl 4 rfl) ?_
            refine sk_aald hx hb hK hP (show o < 60 by omega) dK_set_96 ?_
            refine lv_iload hx hb dK_set_97 (lv_at hl 0 rfl) ?_
            refine lv_iload_n hx hb dK_set_99 rfl (lv_at hl 6 rfl) ?_
            refine va_iast hx hb hK hP hD hS (19 + o) 0 (sk_row_get (show o < 60 by omega)) rfl (vp_in_nI (show (sk_len t (sk_sh b o)) < 12 by omega) (by decide)) dK_set_100 (fun H locs hP hD hS => ?_)
            rw [nI_clamp (show (sk_len t (sk_sh b o)) < 2 ^ 31 by omega), sk_row_set (show o < 60 by omega)] at hP hD
            have hP : va_P (dC, dI) vwCl (sk_wR a k (nI (sk_chg b o g2).1) ((sk_chg b o g2).2.1) ((sk_chg b o g2).2.2.1) ((sk_chg b o g2).2.2.2.1) (va_up ((sk_chg b o g2).2.2.2.2) o (upd (((sk_chg b o g2).2.2.2.2) o) (sk_len t (sk_sh b o)) v)) (nI t2.1) t2.2.1 t2.2.2.1 t2.2.2.2.1 t2.2.2.2.2 (nI (sk_brk f o).1) (nI (sk_there (sk_brk f o))) (nI ((sk_brk f o).1 % 100)) ((sk_brk f o).2.1) ((sk_brk f o).2.2.1) ((sk_brk f o).2.2.2.1) ((sk_brk f o).2.2.2.2.1) (fun i => lN (sk_nb ((sk_brk f o).2.2.2.2.2.1 i))) (fun i => sk_bI ((sk_brk f o).2.2.2.2.2.2 i)) wt) H := hP
            have hD : va_D A (sk_wR a k (nI (sk_chg b o g2).1) ((sk_chg b o g2).2.1) ((sk_chg b o g2).2.2.1) ((sk_chg b o g2).2.2.2.1) (va_up ((sk_chg b o g2).2.2.2.2) o (upd (((sk_chg b o g2).2.2.2.2) o) (sk_len t (sk_sh b o)) v)) (nI t2.1) t2.2.1 t2.2.2.1 t2.2.2.2.1 t2.2.2.2.2 (nI (sk_brk f o).1) (nI (sk_there (sk_brk f o))) (nI ((sk_brk f o).1 % 100)) ((sk_brk f o).2.1) ((sk_brk f o).2.2.1) ((sk_brk f o).2.2.2.1) ((sk_brk f o).2.2.2.2.1) (fun i => lN (sk_nb ((sk_brk f o).2.2.2.2.2.1 i))) (fun i => sk_bI ((sk_brk f o).2.2.2.2.2.2 i)) wt) := hD
            refine lv_iconst (v := nI 1) hx hb dK_set_101 (by decide) ?_
            have hset : sk_set (b, t, f) (nI o) y v = _ := (sk_set_y (S := (b, t, f)) h60 ho h12).trans (sk_set_3 hp hg)
            exact W.zret (v := nI 1) hx hb hr (by decide) (fun U9 ht hW => ⟨⟨nI 1, ((sk_setv (sk_chg b o g2) o (sk_len t (sk_sh b o)) v, t2, sk_brk f o), wt), rfl, ⟨by rw [hset]; rfl, wt, by rw [hset]⟩, sk_endw ht hP hD⟩, hS.F ht⟩) hS.2.2 dK_set_102
          · skip
            exact absurd c64 (sk_nm1 (by omega))
      · skip
        obtain rfl : r38 = nI kk := w38.trans hp
        refine lv_istore (lv' := [(5, .int (nI kk)), (4, .int (nI (sk_sh b o))), (0, .ref (a 0)), (1, .int (nI o)), (2, .int y), (3, .int v)]) hx hb dK_set_41 hl (by decide) rfl (fun ls hl => ?_)
        refine lv_iload hx hb dK_set_43 (lv_at hl 0 rfl) ?_
        refine lv_iconst (v := (-1)) hx hb dK_set_45 (by decide) ?_
        refine lv_icmp_ne (tgt := 88) hx hb dK_set_46 (by decide) (fun c46 => ?_) (fun c46 => ?_)
        · skip
          refine lv_aload_n hx hb dK_set_88 rfl (lv_at hl 2 rfl) ?_
          refine va_get (D := (dC, dI)) (ci := 3) (v := .ref (a 1)) (C := RK) (T := TK) (N := 4) hx hb hts inK hown hK hP 0 rfl rfl 0 (by decide) (hts _ wfK_10) (fun _ h9 => h9) rfl dK_set_89 ?_
          refine va_getN (D := (dC, dI)) (ci := 1) (v := .ref (a 8)) (C := RO) (T := TO) (N := 5) hx hb hts inO hown hK hP 1 rfl rfl 3 (by decide) (va_Nw.use rfl (nlfK_85 hN)) (fun _ h9 => h9) rfl dK_set_92 ?_
          refine lv_iload_n hx hb dK_set_95 rfl (lv_at hl 3 rfl) ?_
          refine sk_aald hx hb hK hP (show o < 60 by omega) dK_set_96 ?_
          refine lv_iload hx hb dK_set_97 (lv_at hl 0 rfl) ?_
          refine lv_iload_n hx hb dK_set_99 rfl (lv_at hl 5 rfl) ?_
          refine va_iast hx hb hK hP hD hS (19 + o) 0 (sk_row_get (show o < 60 by omega)) rfl (vp_in_nI (show kk < 12 by omega) (by decide)) dK_set_100 (fun H locs hP hD hS => ?_)
          rw [nI_clamp (show kk < 2 ^ 31 by omega), sk_row_set (show o < 60 by omega)] at hP hD
          have hP : va_P (dC, dI) vwCl (sk_wR a k (nI b.1) b.2.1 b.2.2.1 b.2.2.2.1 (va_up b.2.2.2.2 o (upd (b.2.2.2.2 o) kk v)) (nI t.1) t.2.1 t.2.2.1 t.2.2.2.1 t.2.2.2.2 (nI f.1) (nI (sk_there f)) (nI (f.1 % 100)) f.2.1 f.2.2.1 f.2.2.2.1 f.2.2.2.2.1 (fun i => lN (sk_nb (f.2.2.2.2.2.1 i))) (fun i => sk_bI (f.2.2.2.2.2.2 i)) wt) H := hP
          have hD : va_D A (sk_wR a k (nI b.1) b.2.1 b.2.2.1 b.2.2.2.1 (va_up b.2.2.2.2 o (upd (b.2.2.2.2 o) kk v)) (nI t.1) t.2.1 t.2.2.1 t.2.2.2.1 t.2.2.2.2 (nI f.1) (nI (sk_there f)) (nI (f.1 % 100)) f.2.1 f.2.2.1 f.2.2.2.1 f.2.2.2.2.1 (fun i => lN (sk_nb (f.2.2.2.2.2.1 i))) (fun i => sk_bI (f.2.2.2.2.2.2 i)) wt) := hD
          refine lv_iconst (v := nI 1) hx hb dK_set_101 (by decide) ?_
          have hset : sk_set (b, t, f) (nI o) y v = _ := (sk_set_y (S := (b, t, f)) h60 ho h12).trans (sk_set_1 hk2 hp)
          exact W.zret (v := nI 1) hx hb hr (by decide) (fun U9 ht hW => ⟨⟨nI 1, ((sk_setv b o kk v, t, f), wt), rfl, ⟨by rw [hset]; rfl, wt, by rw [hset]⟩, sk_endw ht hP hD⟩, hS.F ht⟩) hS.2.2 dK_set_102
        · skip
          exact absurd c46 (sk_nm1 (by omega))
    · skip
      obtain rfl : r12 = nI 0 := w12.trans hv
      refine lv_if_ne (tgt := 20) hx hb dK_set_15 (by decide) (fun q => absurd q (by decide)) (fun _ => ?_)
      refine lv_iconst (v := nI 0) hx hb dK_set_18 (by decide) ?_
      exact W.zret (v := nI 0) hx hb hr (by decide) (fun U9 ht hW => ⟨⟨nI 0, ((b, t, f), wt), rfl, ⟨by rw [sk_set_n (by show (sk_hasB b.1 _ && sk_isN y) = false; rw [h12, Bool.and_false])]; rfl, wt, by rw [sk_set_n (by show (sk_hasB b.1 _ && sk_isN y) = false; rw [h12, Bool.and_false])]⟩, sk_endw ht hP hD⟩, hS.F ht⟩) hS.2.2 dK_set_19
  · skip
    obtain rfl : r5 = nI 0 := w5.trans hv
    refine lv_if_eq (tgt := 18) hx hb dK_set_8 (by decide) (fun _ => ?_) (fun q => absurd (by decide) q)
    refine lv_iconst (v := nI 0) hx hb dK_set_18 (by decide) ?_
    exact W.zret (v := nI 0) hx hb hr (by decide) (fun U9 ht hW => ⟨⟨nI 0, ((b, t, f), wt), rfl, ⟨by rw [sk_set_n (by show (sk_hasB b.1 _ && sk_isN y) = false; rw [h5, Bool.false_and])]; rfl, wt, by rw [sk_set_n (by show (sk_hasB b.1 _ && sk_isN y) = false; rw [h5, Bool.false_and])]⟩, sk_endw ht hP hD⟩, hS.F ht⟩) hS.2.2 dK_set_19
abbrev wzK_drop : List Cond := .code yK_drop cK_drop 7 (some .boolean) :: sk_W
abbrev rzK_drop : Room := { frames := 3, cells := 0, slots := 0, locals := 74 }
set_option maxHeartbeats 4000000 in
set_option maxRecDepth 100000 in
theorem kK_drop (l : Launch) (dC : Nat → ClassId) (dI : Nat → Nat → Nat) (a : Nat → Nat) (k : Nat → ClassId) (b : sk_Ob) (t : sk_Tr) (f : sk_Fi) (wt : sk_F) (A : Nat → Prop) (x y : Int32) (K : Nat) (hOK : sk_OK K (b, t, f)) : Met l yK_drop wzK_drop rzK_drop (va_Pc [.ref (a 0), .int x, .int y] (fun U => sk_PX dC dI a k (b, t, f) wt U ∧ va_D A (sk_wX a k (b, t, f) wt))) (va_Qi (fun r (u : sk_S × sk_F) => r = sk_bI (sk_drop (b, t, f) x y).1 ∧ ∃ wt2, u = ((sk_drop (b, t, f) x y).2, wt2)) (fun u U => va_P (dC, dI) vwCl (sk_wX a k u.1 u.2) U.heap ∧ va_D A (sk_wX a k u.1 u.2)) A) 0 0 A := by
  refine Met.ofW (cc := cK_drop) (maxL := 7) (ret := (some .boolean)) (by decide) rfl ?_
  intro p e s m args below meth c s₁ B hml hv
  obtain ⟨rfl, ⟨hP, hK, hN⟩, hD⟩ := hv
  have hx := B.exec
  have hb := B.bytes
  have hr := B.returns
  have hts : ∀ w ∈ sk_W, w.before ([.ref (a 0), .int x, .int y] : List Value).toArray s = true := fun w h => atoms_spec (ws := wzK_drop) B.pre w (List.mem_cons_of_mem _ h)
  have hown : s.vm.findClass RK = some m.cls := findClass_of_methodNamed B.named
  have hlocks := B.notSynchronized
  have hS : va_S A s.heap s.heap [] := va_S.rf
  have hP : va_P (dC, dI) vwCl (sk_wR a k (nI b.1) b.2.1 b.2.2.1 b.2.2.2.1 b.2.2.2.2 (nI t.1) t.2.1 t.2.2.1 t.2.2.2.1 t.2.2.2.2 (nI f.1) (nI (sk_there f)) (nI (f.1 % 100)) f.2.1 f.2.2.1 f.2.2.2.1 f.2.2.2.2.1 (fun i => lN (sk_nb (f.2.2.2.2.2.1 i))) (fun i => sk_bI (f.2.2.2.2.2.2 i)) wt) s.heap := hP
  have hD : va_D A (sk_wR a k (nI b.1) b.2.1 b.2.2.1 b.2.2.2.1 b.2.2.2.2 (nI t.1) t.2.1 t.2.2.1 t.2.2.2.1 t.2.2.2.2 (nI f.1) (nI (sk_there f)) (nI (f.1 % 100)) f.2.1 f.2.2.1 f.2.2.2.1 f.2.2.2.2.1 (fun i => lN (sk_nb (f.2.2.2.2.2.1 i))) (fun i => sk_bI (f.2.2.2.2.2.2 i)) wt) := hD
  have hl := lv_entry ([.ref (a 0), .int x, .int y]) (n := 7) (Nat.le_of_ble_eq_true rfl)
  rw [lg_entry_eq]
  generalize (lg_sl ([.ref (a 0), .int x, .int y]) ++ List.replicate (7 - (lg_sl ([.ref (a 0), .int x, .int y])).length) Slot.unset).toArray = ls at hl ⊢
  have hl : lv_has ls 7 [(0, .ref (a 0)), (1, .int x), (2, .int y)] := hl
  have hT : sk_TO b.1 t := hOK.1
  have hA : sk_AC b.1 b.2.1 := hOK.2.1
  have hO : sk_OO b t := hOK.2.2.1
  have hmk : f.1 ≤ K := hOK.2.2.2.2.2.2.1
  have hK5 : K ≤ 512 := hOK.2.2.2.2.2.1
  have h200 : t.1 ≤ 200 := hT.2.1
  have h60 : b.1 ≤ 60 := hT.2.2.1
  have hfl : ∀ i, i < sk_there f → ∀ x ∈ f.2.2.2.2.2.1 i, x < 60 := fun i hi x hx => Nat.lt_of_lt_of_le ((hOK.2.2.2.2.2.2.2 i hi).2.2.2 x hx) h60
  refine lv_aload_n hx hb dK_drop_0 rfl (lv_at hl 0 rfl) ?_
  refine va_get (D := (dC, dI)) (ci := 3) (v := .ref (a 1)) (C := RK) (T := TK) (N := 4) hx hb hts inK hown hK hP 0 rfl rfl 0 (by decide) (hts _ wfK_10) (fun _ h9 => h9) rfl dK_drop_1 ?_
  refine lv_iload_n hx hb dK_drop_4 rfl (lv_at hl 1 rfl) ?_
  refine va_calli (va_runVN (As := [.int x]) (rest := []) ⟨hx, hb, hml, hown, hts⟩ (kO_has l dC dI a k b t f wt x) ⟨va_cnB 1 hts (sk_gC wcO_has) rfl rfl rfl (nlmK_64 hN) (hts _ wnO) (by decide +kernel) ⟨Nat.le_of_ble_eq_true rfl, Nat.le_of_ble_eq_true rfl⟩, hts _ wiO_has, hts _ wsO_has⟩ ⟨sk_blind _, va_recv hK hP (ci := 1) (q0 := 1) rfl rfl, fun U hU hW => ⟨rfl, sk_at (S := (b, t, f)) (wt := wt) hP hK hN hU hW⟩⟩ rfl rfl hl.1 rfl (lv_room (Nat.le_of_ble_eq_true rfl)) dK_drop_5 ⟨Nat.le_of_ble_eq_true rfl, Nat.le_of_ble_eq_true rfl⟩) hS (fun _ _ h => h.elim) (fun _ h => h.elim) (fun r5 u5 U9 H locs ht hvm w5 hB hz hk hS => ?_)
  have hP : va_P (dC, dI) vwCl (sk_wR a k (nI b.1) b.2.1 b.2.2.1 b.2.2.2.1 b.2.2.2.2 (nI t.1) t.2.1 t.2.2.1 t.2.2.2.1 t.2.2.2.2 (nI f.1) (nI (sk_there f)) (nI (f.1 % 100)) f.2.1 f.2.2.1 f.2.2.2.1 f.2.2.2.2.1 (fun i => lN (sk_nb (f.2.2.2.2.2.1 i))) (fun i => sk_bI (f.2.2.2.2.2.2 i)) wt) H := hP.kept (fun j q hq => hk q.1 ((hP j q hq).lt) (fun h => h))
  clear hk hB ht
  rcases sk_bI_or (sk_hasB b.1 x) with ⟨h5, hv⟩ | ⟨h5, hv⟩
  · skip
    obtain rfl : r5 = nI 1 := w5.trans hv
    obtain ⟨o, ho, eo9⟩ := (sk_hasB_iff (by omega)).mp h5
    subst eo9
    obtain ⟨hs1, hs2, hs3⟩ := sk_shOk h200 hO ho
    refine lv_if_ne (tgt := 13) hx hb dK_drop_8 (by decide) (fun _ => ?_) (fun q => absurd q (by decide))
    refine lv_aload_n hx hb dK_drop_13 rfl (lv_at hl 0 rfl) ?_
    refine va_get (D := (dC, dI)) (ci := 3) (v := .ref (a 1)) (C := RK) (T := TK) (N := 4) hx hb hts inK hown hK hP 0 rfl rfl 0 (by decide) (hts _ wfK_10) (fun _ h9 => h9) rfl dK_drop_14 ?_
    refine va_getN (D := (dC, dI)) (ci := 1) (v := .ref (a 6)) (C := RO) (T := TO) (N := 5) hx hb hts inO hown hK hP 1 rfl rfl 1 (by decide) (va_Nw.use rfl (nlfK_70 hN)) (fun _ h9 => h9) rfl dK_drop_17 ?_
    refine lv_iload_n hx hb dK_drop_20 rfl (lv_at hl 1 rfl) ?_
    refine va_iald hx hb hK hP 6 0 rfl rfl (vp_in_nI (show o < 60 by omega) (by decide)) dK_drop_21 ?_
    refine lv_topi (fun x21 e21 => ?_)
    rw [nI_clamp (show o < 2 ^ 31 by omega)] at e21
    obtain rfl : x21 = nI (sk_sh b o) := e21.trans (hs2)
    refine lv_istore_n (lv' := [(3, .int (nI (sk_sh b o))), (0, .ref (a 0)), (1, .int (nI o)), (2, .int y)]) hx hb dK_drop_22 rfl hl (by decide) rfl (fun ls hl => ?_)
    refine lv_aload_n hx hb dK_drop_23 rfl (lv_at hl 1 rfl) ?_
    refine va_get (D := (dC, dI)) (ci := 3) (v := .ref (a 2)) (C := RK) (T := TK) (N := 4) hx hb hts inK hown hK hP 0 rfl rfl 1 (by decide) (hts _ wfK_19) (fun _ h9 => h9) rfl dK_drop_24 ?_
    refine lv_iload_n hx hb dK_drop_27 rfl (lv_at hl 0 rfl) ?_
    refine lv_iload_n hx hb dK_drop_28 rfl (lv_at hl 3 rfl) ?_
    refine va_calli (va_runVN (As := [.int (nI (sk_sh b o)), .int y]) (rest := []) ⟨hx, hb, hml, hown, hts⟩ (kT_placeOf l dC dI a k b t f wt (sk_sh b o) y hT hs1) ⟨va_cnB 2 hts (sk_gC wcT_placeOf) rfl rfl rfl (nlmK_72 hN) (hts _ wnT) (by decide +kernel) ⟨Nat.le_of_ble_eq_true rfl, Nat.le_of_ble_eq_true rfl⟩, hts _ wiT_placeOf, hts _ wsT_placeOf⟩ ⟨sk_blind _, va_recv hK hP (ci := 2) (q0 := 2) rfl rfl, fun U hU hW => ⟨rfl, sk_at (S := (b, t, f)) (wt := wt) hP hK hN hU hW⟩⟩ rfl rfl hl.1 rfl (lv_room (Nat.le_of_ble_eq_true rfl)) dK_drop_29 ⟨Nat.le_of_ble_eq_true rfl, Nat.le_of_ble_eq_true rfl⟩) hS (fun _ _ h => h.elim) (fun _ h => h.elim) (fun r29 u29 U9 H locs ht hvm w29 hB hz hk hS => ?_)
    have hP : va_P (dC, dI) vwCl (sk_wR a k (nI b.1) b.2.1 b.2.2.1 b.2.2.2.1 b.2.2.2.2 (nI t.1) t.2.1 t.2.2.1 t.2.2.2.1 t.2.2.2.2 (nI f.1) (nI (sk_there f)) (nI (f.1 % 100)) f.2.1 f.2.2.1 f.2.2.2.1 f.2.2.2.2.1 (fun i => lN (sk_nb (f.2.2.2.2.2.1 i))) (fun i => sk_bI (f.2.2.2.2.2.2 i)) wt) H := hP.kept (fun j q hq => hk q.1 ((hP j q hq).lt) (fun h => h))
    clear hk hB ht
    rcases sk_placeOk hT y hs1 with hp | ⟨kk, hk1, hk2, hp⟩
    · skip
      obtain rfl : r29 = -1 := w29.trans hp
      refine lv_istore (lv' := [(4, .int (-1)), (3, .int (nI (sk_sh b o))), (0, .ref (a 0)), (1, .int (nI o)), (2, .int y)]) hx hb dK_drop_32 hl (by decide) rfl (fun ls hl => ?_)
      refine lv_iload hx hb dK_drop_34 (lv_at hl 0 rfl) ?_
      refine lv_iconst (v := (-1)) hx hb dK_drop_36 (by decide) ?_
      refine lv_icmp_ne (tgt := 42) hx hb dK_drop_37 (by decide) (fun q => absurd q (by decide)) (fun _ => ?_)
      refine lv_iconst (v := nI 0) hx hb dK_drop_40 (by decide) ?_
      have hset : sk_drop (b, t, f) (nI o) y = _ := (sk_drop_y (S := (b, t, f)) h60 ho).trans (sk_drop_1 hp)
      exact W.zret (v := nI 0) hx hb hr (by decide) (fun U9 ht hW => ⟨⟨nI 0, ((b, t, f), wt), rfl, ⟨by rw [hset]; rfl, wt, by rw [hset]⟩, sk_endw ht hP hD⟩, hS.F ht⟩) hS.2.2 dK_drop_41
    · skip
      obtain rfl : r29 = nI kk := w29.trans hp
      refine lv_istore (lv' := [(4, .int (nI kk)), (3, .int (nI (sk_sh b o))), (0, .ref (a 0)), (1, .int (nI o)), (2, .int y)]) hx hb dK_drop_32 hl (by decide) rfl (fun ls hl => ?_)
      refine lv_iload hx hb dK_drop_34 (lv_at hl 0 rfl) ?_
      refine lv_iconst (v := (-1)) hx hb dK_drop_36 (by decide) ?_
      refine lv_icmp_ne (tgt := 42) hx hb dK_drop_37 (by decide) (fun c37 => ?_) (fun c37 => ?_)
      · skip
        refine lv_aload_n hx hb dK_drop_42 rfl (lv_at hl 2 rfl) ?_
        refine va_get (D := (dC, dI)) (ci := 3) (v := .ref (a 2)) (C := RK) (T := TK) (N := 4) hx hb hts inK hown hK hP 0 rfl rfl 1 (by decide) (hts _ wfK_19) (fun _ h9 => h9) rfl dK_drop_43 ?_
        refine lv_iload_n hx hb dK_drop_46 rfl (lv_at hl 1 rfl) ?_
        refine lv_iload_n hx hb dK_drop_47 rfl (lv_at hl 4 rfl) ?_
        refine lv_aload_n hx hb dK_drop_48 rfl (lv_at hl 2 rfl) ?_
        refine va_get (D := (dC, dI)) (ci := 3) (v := .ref (a 4)) (C := RK) (T := TK) (N := 4) hx hb hts inK hown hK hP 0 rfl rfl 3 (by decide) (hts _ wfK_30) (fun _ h9 => h9) rfl dK_drop_49 ?_
        refine va_calli (va_runVN (As := [.int (nI (sk_sh b o)), .int y, .ref (a 4)]) (rest := []) ⟨hx, hb, hml, hown, hts⟩ (kT_listNames l dC dI a k b t f wt A (sk_sh b o) y hT hs1) ⟨va_cnB 3 hts (sk_gC wcT_listNames) rfl rfl rfl (nlmK_89 hN) (hts _ wnT) (by decide +kernel) ⟨Nat.le_of_ble_eq_true rfl, Nat.le_of_ble_eq_true rfl⟩, hts _ wiT_listNames, hts _ wsT_listNames⟩ ⟨sk_blindD _, va_recv hK hP (ci := 2) (q0 := 2) rfl rfl, fun U hU hW => ⟨rfl, sk_at (S := (b, t, f)) (wt := wt) hP hK hN hU hW, hD⟩⟩ rfl rfl hl.1 rfl (lv_room (Nat.le_of_ble_eq_true rfl)) dK_drop_52 ⟨Nat.le_of_ble_eq_true rfl, Nat.le_of_ble_eq_true rfl⟩) hS (fun _ _ h => h) (fun _ h => h) (fun r52 u52 U9 H locs ht hvm w52 hB hz hk hS => ?_)
        obtain ⟨hP, hD⟩ := hB
        rw [ht] at hP
        obtain ⟨rfl, wt2, rfl, hrow⟩ := w52
        have hP : va_P (dC, dI) vwCl (sk_wR a k (nI b.1) b.2.1 b.2.2.1 b.2.2.2.1 b.2.2.2.2 (nI t.1) t.2.1 t.2.2.1 t.2.2.2.1 t.2.2.2.2 (nI f.1) (nI (sk_there f)) (nI (f.1 % 100)) f.2.1 f.2.2.1 f.2.2.2.1 f.2.2.2.2.1 (fun i => lN (sk_nb (f.2.2.2.2.2.1 i))) (fun i => sk_bI (f.2.2.2.2.2.2 i)) wt2) H := hP
        have hD : va_D A (sk_wR a k (nI b.1) b.2.1 b.2.2.1 b.2.2.2.1 b.2.2.2.2 (nI t.1) t.2.1 t.2.2.1 t.2.2.2.1 t.2.2.2.2 (nI f.1) (nI (sk_there f)) (nI (f.1 % 100)) f.2.1 f.2.2.1 f.2.2.2.1 f.2.2.2.2.1 (fun i => lN (sk_nb (f.2.2.2.2.2.1 i))) (fun i => sk_bI (f.2.2.2.2.2.2 i)) wt2) := hD
        refine lv_istore (lv' := [(5, .int (nI (sk_left t (sk_sh b o) y).length)), (4, .int (nI kk)), (3, .int (nI (sk_sh b o))), (0, .ref (a 0)), (1, .int (nI o)), (2, .int y)]) hx hb dK_drop_55 hl (by decide) rfl (fun ls hl => ?_)
        refine lv_aload_n hx hb dK_drop_57 rfl (lv_at hl 3 rfl) ?_
        refine va_get (D := (dC, dI)) (ci := 3) (v := .ref (a 2)) (C := RK) (T := TK) (N := 4) hx hb hts inK hown hK hP 0 rfl rfl 1 (by decide) (hts _ wfK_19) (fun _ h9 => h9) rfl dK_drop_58 ?_
        refine lv_aload_n hx hb dK_drop_61 rfl (lv_at hl 3 rfl) ?_
        refine va_get (D := (dC, dI)) (ci := 3) (v := .ref (a 1)) (C := RK) (T := TK) (N := 4) hx hb hts inK hown hK hP 0 rfl rfl 0 (by decide) (hts _ wfK_10) (fun _ h9 => h9) rfl dK_drop_62 ?_
        refine va_getN (D := (dC, dI)) (ci := 1) (v := .ref (a 5)) (C := RO) (T := TO) (N := 5) hx hb hts inO hown hK hP 1 rfl rfl 0 (by decide) (va_Nw.use rfl (nlfK_93 hN)) (fun _ h9 => h9) rfl dK_drop_65 ?_
        refine lv_iload_n hx hb dK_drop_68 rfl (lv_at hl 4 rfl) ?_
        refine va_iald hx hb hK hP 5 0 rfl rfl (vp_in_nI (show o < 60 by omega) (by decide)) dK_drop_69 ?_
        refine lv_topi (fun x69 e69 => ?_)
        rw [nI_clamp (show o < 2 ^ 31 by omega)] at e69
        refine lv_aload_n hx hb dK_drop_70 rfl (lv_at hl 3 rfl) ?_
        refine va_get (D := (dC, dI)) (ci := 3) (v := .ref (a 4)) (C := RK) (T := TK) (N := 4) hx hb hts inK hown hK hP 0 rfl rfl 3 (by decide) (hts _ wfK_30) (fun _ h9 => h9) rfl dK_drop_71 ?_
        refine lv_iload hx hb dK_drop_74 (lv_at hl 0 rfl) ?_
        refine va_calli (va_runVN (As := [.int x69, .ref (a 4), .int (nI (sk_left t (sk_sh b o) y).length)]) (rest := []) ⟨hx, hb, hml, hown, hts⟩ (kT_reach l dC dI a k b t f wt2 A x69 (sk_left t (sk_sh b o) y) hT (sk_left_len hT hs1 y) hrow) ⟨va_cnB 3 hts (sk_gC wcT_reach) rfl rfl rfl (nlmK_54 hN) (hts _ wnT) (by decide +kernel) ⟨Nat.le_of_ble_eq_true rfl, Nat.le_of_ble_eq_true rfl⟩, hts _ wiT_reach, hts _ wsT_reach⟩ ⟨sk_blindD _, va_recv hK hP (ci := 2) (q0 := 2) rfl rfl, fun U hU hW => ⟨rfl, sk_at (S := (b, t, f)) (wt := wt2) hP hK hN hU hW, hD⟩⟩ rfl rfl hl.1 rfl (lv_room (Nat.le_of_ble_eq_true rfl)) dK_drop_76 ⟨Nat.le_of_ble_eq_true rfl, Nat.le_of_ble_eq_true rfl⟩) hS (fun _ _ h => h) (fun _ h => h) (fun r76 u76 U9 H locs ht hvm w76 hB hz hk hS => ?_)
        obtain ⟨hP, hD⟩ := hB
        rw [ht] at hP
        rcases w76 with ⟨hg, rfl, rfl⟩ | ⟨t2, g2, hg, rfl, rfl⟩
        · skip
          have hP : va_P (dC, dI) vwCl (sk_wR a k (nI b.1) b.2.1 b.2.2.1 b.2.2.2.1 b.2.2.2.2 (nI t.1) t.2.1 t.2.2.1 t.2.2.2.1 t.2.2.2.2 (nI f.1) (nI (sk_there f)) (nI (f.1 % 100)) f.2.1 f.2.2.1 f.2.2.2.1 f.2.2.2.2.1 (fun i => lN (sk_nb (f.2.2.2.2.2.1 i))) (fun i => sk_bI (f.2.2.2.2.2.2 i)) wt2) H := hP
          have hD : va_D A (sk_wR a k (nI b.1) b.2.1 b.2.2.1 b.2.2.2.1 b.2.2.2.2 (nI t.1) t.2.1 t.2.2.1 t.2.2.2.1 t.2.2.2.2 (nI f.1) (nI (sk_there f)) (nI (f.1 % 100)) f.2.1 f.2.2.1 f.2.2.2.1 f.2.2.2.2.1 (fun i => lN (sk_nb (f.2.2.2.2.2.1 i))) (fun i => sk_bI (f.2.2.2.2.2.2 i)) wt2) := hD
          refine lv_istore (lv' := [(6, .int (-1)), (5, .int (nI (sk_left t (sk_sh b o) y).length)), (4, .int (nI kk)), (3, .int (nI (sk_sh b o))), (0, .ref (a 0)), (1, .int (nI o)), (2, .int y)]) hx hb dK_drop_79 hl (by decide) rfl (fun ls hl => ?_)
          refine lv_iload hx hb dK_drop_81 (lv_at hl 0 rfl) ?_
          refine lv_iconst (v := (-1)) hx hb dK_drop_83 (by decide) ?_
          refine lv_icmp_ne (tgt := 89) hx hb dK_drop_84 (by decide) (fun q => absurd q (by decide)) (fun _ => ?_)
          refine lv_iconst (v := nI 0) hx hb dK_drop_87 (by decide) ?_
          have hset : sk_drop (b, t, f) (nI o) y = _ := (sk_drop_y (S := (b, t, f)) h60 ho).trans (sk_drop_2 hk2 hp (by rw [← e69]; exact hg))
          exact W.zret (v := nI 0) hx hb hr (by decide) (fun U9 ht hW => ⟨⟨nI 0, ((b, t, f), wt2), rfl, ⟨by rw [hset]; rfl, wt2, by rw [hset]⟩, sk_endw ht hP hD⟩, hS.F ht⟩) hS.2.2 dK_drop_88
        · skip
          have hP : va_P (dC, dI) vwCl (sk_wR a k (nI b.1) b.2.1 b.2.2.1 b.2.2.2.1 b.2.2.2.2 (nI t2.1) t2.2.1 t2.2.2.1 t2.2.2.2.1 t2.2.2.2.2 (nI f.1) (nI (sk_there f)) (nI (f.1 % 100)) f.2.1 f.2.2.1 f.2.2.2.1 f.2.2.2.2.1 (fun i => lN (sk_nb (f.2.2.2.2.2.1 i))) (fun i => sk_bI (f.2.2.2.2.2.2 i)) wt2) H := hP
          have hD : va_D A (sk_wR a k (nI b.1) b.2.1 b.2.2.1 b.2.2.2.1 b.2.2.2.2 (nI t2.1) t2.2.1 t2.2.2.1 t2.2.2.2.1 t2.2.2.2.2 (nI f.1) (nI (sk_there f)) (nI (f.1 % 100)) f.2.1 f.2.2.1 f.2.2.2.1 f.2.2.2.2.1 (fun i => lN (sk_nb (f.2.2.2.2.2.1 i))) (fun i => sk_bI (f.2.2.2.2.2.2 i)) wt2) := hD
          refine lv_istore (lv' := [(6, .int (nI g2)), (5, .int (nI (sk_left t (sk_sh b o) y).length)), (4, .int (nI kk)), (3, .int (nI (sk_sh b o))), (0, .ref (a 0)), (1, .int (nI o)), (2, .int y)]) hx hb dK_drop_79 hl (by decide) rfl (fun ls hl => ?_)
          refine lv_iload hx hb dK_drop_81 (lv_at hl 0 rfl) ?_
          refine lv_iconst (v := (-1)) hx hb dK_drop_83 (by decide) ?_
          refine lv_icmp_ne (tgt := 89) hx hb dK_drop_84 (by decide) (fun c84 => ?_) (fun c84 => ?_)
          · skip
            refine lv_aload_n hx hb dK_drop_89 rfl (lv_at hl 4 rfl) ?_
            refine va_get (D := (dC, dI)) (ci := 3) (v := .ref (a 1)) (C := RK) (T := TK) (N := 4) hx hb hts inK hown hK hP 0 rfl rfl 0 (by decide) (hts _ wfK_10) (fun _ h9 => h9) rfl dK_drop_90 ?_
            refine lv_iload_n hx hb dK_drop_93 rfl (lv_at hl 5 rfl) ?_
            refine lv_iload hx hb dK_drop_94 (lv_at hl 2 rfl) ?_
            refine va_callv (va_runVN (As := [.int (nI o), .int (nI kk)]) (rest := []) ⟨hx, hb, hml, hown, hts⟩ (kO_closeGap l dC dI a k b t2 f wt2 A o kk (by omega) hk2) ⟨va_cnB 2 hts (sk_gC wcO_closeGap) rfl rfl rfl (nlmK_96 hN) (hts _ wnO) (by decide +kernel) ⟨Nat.le_of_ble_eq_true rfl, Nat.le_of_ble_eq_true rfl⟩, hts _ wiO_closeGap, hts _ wsO_closeGap⟩ ⟨sk_blindD _, va_recv hK hP (ci := 1) (q0 := 1) rfl rfl, fun U hU hW => ⟨rfl, sk_at (S := (b, t2, f)) (wt := wt2) hP hK hN hU hW, hD⟩⟩ rfl rfl hl.1 rfl (lv_room (Nat.le_of_ble_eq_true rfl)) dK_drop_96 ⟨Nat.le_of_ble_eq_true rfl, Nat.le_of_ble_eq_true rfl⟩) hS (fun _ _ h => h) (fun _ h => h) (fun u96 U9 H locs ht hvm w96 hB hz hk hS => ?_)
            obtain ⟨hP, hD⟩ := hB
            rw [ht] at hP
            obtain rfl := w96
            have hP : va_P (dC, dI) vwCl (sk_wR a k (nI (sk_gap b o kk).1) ((sk_gap b o kk).2.1) ((sk_gap b o kk).2.2.1) ((sk_gap b o kk).2.2.2.1) ((sk_gap b o kk).2.2.2.2) (nI t2.1) t2.2.1 t2.2.2.1 t2.2.2.2.1 t2.2.2.2.2 (nI f.1) (nI (sk_there f)) (nI (f.1 % 100)) f.2.1 f.2.2.1 f.2.2.2.1 f.2.2.2.2.1 (fun i => lN (sk_nb (f.2.2.2.2.2.1 i))) (fun i => sk_bI (f.2.2.2.2.2.2 i)) wt2) H := hP
            have hD : va_D A (sk_wR a k (nI (sk_gap b o kk).1) ((sk_gap b o kk).2.1) ((sk_gap b o kk).2.2.1) ((sk_gap b o kk).2.2.2.1) ((sk_gap b o kk).2.2.2.2) (nI t2.1) t2.2.1 t2.2.2.1 t2.2.2.2.1 t2.2.2.2.2 (nI f.1) (nI (sk_there f)) (nI (f.1 % 100)) f.2.1 f.2.2.1 f.2.2.2.1 f.2.2.2.2.1 (fun i => lN (sk_nb (f.2.2.2.2.2.1 i))) (fun i => sk_bI (f.2.2.2.2.2.2 i)) wt2) := hD
            refine lv_aload_n hx hb dK_drop_99 rfl (lv_at hl 4 rfl) ?_
            refine lv_iload_n hx hb dK_drop_100 rfl (lv_at hl 5 rfl) ?_
            refine lv_iload hx hb dK_drop_101 (lv_at hl 0 rfl) ?_
            refine va_callv (va_runV (As := [.int (nI o), .int (nI g2)]) (rest := []) ⟨hx, hb, hml, hown, hts⟩ (kK_change l dC dI a k (sk_gap b o kk) t2 f wt2 A o g2 (by omega) hfl) (cwV 2 hts (sk_gV wmK_81 wiK_change wsK_change wnK wcK_change) rfl rfl rfl (by decide +kernel) ⟨Nat.le_of_ble_eq_true rfl, Nat.le_of_ble_eq_true rfl⟩) ⟨sk_blindD _, va_recv hK hP (ci := 3) (q0 := 0) rfl rfl, fun U hU hW => ⟨rfl, sk_at (S := (sk_gap b o kk, t2, f)) (wt := wt2) hP hK hN hU hW, hD⟩⟩ rfl rfl hl.1 rfl (lv_room (Nat.le_of_ble_eq_true rfl)) dK_drop_103 ⟨Nat.le_of_ble_eq_true rfl, Nat.le_of_ble_eq_true rfl⟩) hS (fun _ _ h => h) (fun _ h => h) (fun u103 U9 H locs ht hvm w103 hB hz hk hS => ?_)
            obtain ⟨hP, hD⟩ := hB
            rw [ht] at hP
            obtain rfl := w103
            have hP : va_P (dC, dI) vwCl (sk_wR a k (nI (sk_chg (sk_gap b o kk) o g2).1) ((sk_chg (sk_gap b o kk) o g2).2.1) ((sk_chg (sk_gap b o kk) o g2).2.2.1) ((sk_chg (sk_gap b o kk) o g2).2.2.2.1) ((sk_chg (sk_gap b o kk) o g2).2.2.2.2) (nI t2.1) t2.2.1 t2.2.2.1 t2.2.2.2.1 t2.2.2.2.2 (nI (sk_brk f o).1) (nI (sk_there (sk_brk f o))) (nI ((sk_brk f o).1 % 100)) ((sk_brk f o).2.1) ((sk_brk f o).2.2.1) ((sk_brk f o).2.2.2.1) ((sk_brk f o).2.2.2.2.1) (fun i => lN (sk_nb ((sk_brk f o).2.2.2.2.2.1 i))) (fun i => sk_bI ((sk_brk f o).2.2.2.2.2.2 i)) wt2) H := hP
            have hD : va_D A (sk_wR a k (nI (sk_chg (sk_gap b o kk) o g2).1) ((sk_chg (sk_gap b o kk) o g2).2.1) ((sk_chg (sk_gap b o kk) o g2).2.2.1) ((sk_chg (sk_gap b o kk) o g2).2.2.2.1) ((sk_chg (sk_gap b o kk) o g2).2.2.2.2) (nI t2.1) t2.2.1 t2.2.2.1 t2.2.2.2.1 t2.2.2.2.2 (nI (sk_brk f o).1) (nI (sk_there (sk_brk f o))) (nI ((sk_brk f o).1 % 100)) ((sk_brk f o).2.1) ((sk_brk f o).2.2.1) ((sk_brk f o).2.2.2.1) ((sk_brk f o).2.2.2.2.1) (fun i => lN (sk_nb ((sk_brk f o).2.2.2.2.2.1 i))) (fun i => sk_bI ((sk_brk f o).2.2.2.2.2.2 i)) wt2) := hD
            refine lv_iconst (v := nI 1) hx hb dK_drop_106 (by decide) ?_
            have hset : sk_drop (b, t, f) (nI o) y = _ := (sk_drop_y (S := (b, t, f)) h60 ho).trans (sk_drop_3 hk2 hp (by rw [← e69]; exact hg))
            exact W.zret (v := nI 1) hx hb hr (by decide) (fun U9 ht hW => ⟨⟨nI 1, ((sk_chg (sk_gap b o kk) o g2, t2, sk_brk f o), wt2), rfl, ⟨by rw [hset]; rfl, wt2, by rw [hset]⟩, sk_endw ht hP hD⟩, hS.F ht⟩) hS.2.2 dK_drop_107
          · skip
            exact absurd c84 (sk_nm1 (by have z1 := (sk_reach_spec hT (sk_opv hOK ho) (sk_left_ok hT hs1 y).1 (sk_left_ok hT hs1 y).2 (by rw [← e69]; exact hg)); have z2 := z1.1.2.1; have z3 := z1.2.2.1; omega))
      · skip
        exact absurd c37 (sk_nm1 (by omega))
  · skip
    obtain rfl : r5 = nI 0 := w5.trans hv
    refine lv_if_ne (tgt := 13) hx hb dK_drop_8 (by decide) (fun q => absurd q (by decide)) (fun _ => ?_)
    refine lv_iconst (v := nI 0) hx hb dK_drop_11 (by decide) ?_
    exact W.zret (v := nI 0) hx hb hr (by decide) (fun U9 ht hW => ⟨⟨nI 0, ((b, t, f), wt), rfl, ⟨by rw [sk_drop_n (S := (b, t, f)) h5]; rfl, wt, by rw [sk_drop_n (S := (b, t, f)) h5]⟩, sk_endw ht hP hD⟩, hS.F ht⟩) hS.2.2 dK_drop_12
abbrev wzK_turn : List Cond := .code yK_turn cK_turn 5 (some .boolean) :: sk_W
abbrev rzK_turn : Room := { frames := 3, cells := 0, slots := 0, locals := 74 }
set_option maxHeartbeats 4000000 in
set_option maxRecDepth 100000 in
theorem kK_turn (l : Launch) (dC : Nat → ClassId) (dI : Nat → Nat → Nat) (a : Nat → Nat) (k : Nat → ClassId) (b : sk_Ob) (t : sk_Tr) (f : sk_Fi) (wt : sk_F) (A : Nat → Prop) (x y : Int32) (K : Nat) (hOK : sk_OK K (b, t, f)) : Met l yK_turn wzK_turn rzK_turn (va_Pc [.ref (a 0), .int x, .int y] (fun U => sk_PX dC dI a k (b, t, f) wt U ∧ va_D A (sk_wX a k (b, t, f) wt))) (va_Qi (fun r (u : sk_S × sk_F) => r = sk_bI (sk_turn (b, t, f) x y).1 ∧ ∃ wt2, u = ((sk_turn (b, t, f) x y).2, wt2)) (fun u U => va_P (dC, dI) vwCl (sk_wX a k u.1 u.2) U.heap ∧ va_D A (sk_wX a k u.1 u.2)) A) 0 0 A := by
  refine Met.ofW (cc := cK_turn) (maxL := 5) (ret := (some .boolean)) (by decide) rfl ?_
  intro p e s m args below meth c s₁ B hml hv
  obtain ⟨rfl, ⟨hP, hK, hN⟩, hD⟩ := hv
  have hx := B.exec
  have hb := B.bytes
  have hr := B.returns
  have hts : ∀ w ∈ sk_W, w.before ([.ref (a 0), .int x, .int y] : List Value).toArray s = true := fun w h => atoms_spec (ws := wzK_turn) B.pre w (List.mem_cons_of_mem _ h)
  have hown : s.vm.findClass RK = some m.cls := findClass_of_methodNamed B.named
  have hlocks := B.notSynchronized
  have hS : va_S A s.heap s.heap [] := va_S.rf
  have hP : va_P (dC, dI) vwCl (sk_wR a k (nI b.1) b.2.1 b.2.2.1 b.2.2.2.1 b.2.2.2.2 (nI t.1) t.2.1 t.2.2.1 t.2.2.2.1 t.2.2.2.2 (nI f.1) (nI (sk_there f)) (nI (f.1 % 100)) f.2.1 f.2.2.1 f.2.2.2.1 f.2.2.2.2.1 (fun i => lN (sk_nb (f.2.2.2.2.2.1 i))) (fun i => sk_bI (f.2.2.2.2.2.2 i)) wt) s.heap := hP
  have hD : va_D A (sk_wR a k (nI b.1) b.2.1 b.2.2.1 b.2.2.2.1 b.2.2.2.2 (nI t.1) t.2.1 t.2.2.1 t.2.2.2.1 t.2.2.2.2 (nI f.1) (nI (sk_there f)) (nI (f.1 % 100)) f.2.1 f.2.2.1 f.2.2.2.1 f.2.2.2.2.1 (fun i => lN (sk_nb (f.2.2.2.2.2.1 i))) (fun i => sk_bI (f.2.2.2.2.2.2 i)) wt) := hD
  have hl := lv_entry ([.ref (a 0), .int x, .int y]) (n := 5) (Nat.le_of_ble_eq_true rfl)
  rw [lg_entry_eq]
  generalize (lg_sl ([.ref (a 0), .int x, .int y]) ++ List.replicate (5 - (lg_sl ([.ref (a 0), .int x, .int y])).length) Slot.unset).toArray = ls at hl ⊢
  have hl : lv_has ls 5 [(0, .ref (a 0)), (1, .int x), (2, .int y)] := hl
  have hT : sk_TO b.1 t := hOK.1
  have hA : sk_AC b.1 b.2.1 := hOK.2.1
  have hO : sk_OO b t := hOK.2.2.1
  have hmk : f.1 ≤ K := hOK.2.2.2.2.2.2.1
  have hK5 : K ≤ 512 := hOK.2.2.2.2.2.1
  have h200 : t.1 ≤ 200 := hT.2.1
  have h60 : b.1 ≤ 60 := hT.2.2.1
  have hfl : ∀ i, i < sk_there f → ∀ x ∈ f.2.2.2.2.2.1 i, x < 60 := fun i hi x hx => Nat.lt_of_lt_of_le ((hOK.2.2.2.2.2.2.2 i hi).2.2.2 x hx) h60
  refine lv_aload_n hx hb dK_turn_0 rfl (lv_at hl 0 rfl) ?_
  refine va_get (D := (dC, dI)) (ci := 3) (v := .ref (a 1)) (C := RK) (T := TK) (N := 4) hx hb hts inK hown hK hP 0 rfl rfl 0 (by decide) (hts _ wfK_10) (fun _ h9 => h9) rfl dK_turn_1 ?_
  refine lv_iload_n hx hb dK_turn_4 rfl (lv_at hl 1 rfl) ?_
  refine va_calli (va_runVN (As := [.int x]) (rest := []) ⟨hx, hb, hml, hown, hts⟩ (kO_has l dC dI a k b t f wt x) ⟨va_cnB 1 hts (sk_gC wcO_has) rfl rfl rfl (nlmK_64 hN) (hts _ wnO) (by decide +kernel) ⟨Nat.le_of_ble_eq_true rfl, Nat.le_of_ble_eq_true rfl⟩, hts _ wiO_has, hts _ wsO_has⟩ ⟨sk_blind _, va_recv hK hP (ci := 1) (q0 := 1) rfl rfl, fun U hU hW => ⟨rfl, sk_at (S := (b, t, f)) (wt := wt) hP hK hN hU hW⟩⟩ rfl rfl hl.1 rfl (lv_room (Nat.le_of_ble_eq_true rfl)) dK_turn_5 ⟨Nat.le_of_ble_eq_true rfl, Nat.le_of_ble_eq_true rfl⟩) hS (fun _ _ h => h.elim) (fun _ h => h.elim) (fun r5 u5 U9 H locs ht hvm w5 hB hz hk hS => ?_)
  have hP : va_P (dC, dI) vwCl (sk_wR a k (nI b.1) b.2.1 b.2.2.1 b.2.2.2.1 b.2.2.2.2 (nI t.1) t.2.1 t.2.2.1 t.2.2.2.1 t.2.2.2.2 (nI f.1) (nI (sk_there f)) (nI (f.1 % 100)) f.2.1 f.2.2.1 f.2.2.2.1 f.2.2.2.2.1 (fun i => lN (sk_nb (f.2.2.2.2.2.1 i))) (fun i => sk_bI (f.2.2.2.2.2.2 i)) wt) H := hP.kept (fun j q hq => hk q.1 ((hP j q hq).lt) (fun h => h))
  clear hk hB ht
  rcases sk_bI_or (sk_hasB b.1 x) with ⟨h5, hv⟩ | ⟨h5, hv⟩
  · skip
    obtain rfl : r5 = nI 1 := w5.trans hv
    obtain ⟨o, ho, eo9⟩ := (sk_hasB_iff (by omega)).mp h5
    subst eo9
    obtain ⟨hs1, hs2, hs3⟩ := sk_shOk h200 hO ho
    refine lv_if_eq (tgt := 22) hx hb dK_turn_8 (by decide) (fun q => absurd q (by decide)) (fun _ => ?_)
    refine lv_aload_n hx hb dK_turn_11 rfl (lv_at hl 0 rfl) ?_
    refine va_get (D := (dC, dI)) (ci := 3) (v := .ref (a 1)) (C := RK) (T := TK) (N := 4) hx hb hts inK hown hK hP 0 rfl rfl 0 (by decide) (hts _ wfK_10) (fun _ h9 => h9) rfl dK_turn_12 ?_
    refine lv_iload_n hx hb dK_turn_15 rfl (lv_at hl 2 rfl) ?_
    refine va_calli (va_runVN (As := [.int y]) (rest := []) ⟨hx, hb, hml, hown, hts⟩ (kO_canBePrototype l dC dI a k b t f wt y) ⟨va_cnB 1 hts (sk_gC wcO_canBePrototype) rfl rfl rfl (nlmK_34 hN) (hts _ wnO) (by decide +kernel) ⟨Nat.le_of_ble_eq_true rfl, Nat.le_of_ble_eq_true rfl⟩, hts _ wiO_canBePrototype, hts _ wsO_canBePrototype⟩ ⟨sk_blind _, va_recv hK hP (ci := 1) (q0 := 1) rfl rfl, fun U hU hW => ⟨rfl, sk_at (S := (b, t, f)) (wt := wt) hP hK hN hU hW⟩⟩ rfl rfl hl.1 rfl (lv_room (Nat.le_of_ble_eq_true rfl)) dK_turn_16 ⟨Nat.le_of_ble_eq_true rfl, Nat.le_of_ble_eq_true rfl⟩) hS (fun _ _ h => h.elim) (fun _ h => h.elim) (fun r16 u16 U9 H locs ht hvm w16 hB hz hk hS => ?_)
    have hP : va_P (dC, dI) vwCl (sk_wR a k (nI b.1) b.2.1 b.2.2.1 b.2.2.2.1 b.2.2.2.2 (nI t.1) t.2.1 t.2.2.1 t.2.2.2.1 t.2.2.2.2 (nI f.1) (nI (sk_there f)) (nI (f.1 % 100)) f.2.1 f.2.2.1 f.2.2.2.1 f.2.2.2.2.1 (fun i => lN (sk_nb (f.2.2.2.2.2.1 i))) (fun i => sk_bI (f.2.2.2.2.2.2 i)) wt) H := hP.kept (fun j q hq => hk q.1 ((hP j q hq).lt) (fun h => h))
    clear hk hB ht
    rcases sk_bI_or (sk_canP b.1 y) with ⟨h16, hv⟩ | ⟨h16, hv⟩
    · skip
      obtain rfl : r16 = nI 1 := w16.trans hv
      refine lv_if_ne (tgt := 24) hx hb dK_turn_19 (by decide) (fun _ => ?_) (fun q => absurd q (by decide))
      refine lv_aload_n hx hb dK_turn_24 rfl (lv_at hl 0 rfl) ?_
      refine va_get (D := (dC, dI)) (ci := 3) (v := .ref (a 1)) (C := RK) (T := TK) (N := 4) hx hb hts inK hown hK hP 0 rfl rfl 0 (by decide) (hts _ wfK_10) (fun _ h9 => h9) rfl dK_turn_25 ?_
      refine lv_iload_n hx hb dK_turn_28 rfl (lv_at hl 2 rfl) ?_
      refine lv_iload_n hx hb dK_turn_29 rfl (lv_at hl 1 rfl) ?_
      refine va_calli (va_runVN (As := [.int y, .int (nI o)]) (rest := []) ⟨hx, hb, hml, hown, hts⟩ (kO_leadsTo l dC dI a k b t f wt y o hA ((sk_canP_iff (by omega)).mp h16) ho) ⟨va_cnB 2 hts (sk_gC wcO_leadsTo) rfl rfl rfl (nlmK_99 hN) (hts _ wnO) (by decide +kernel) ⟨Nat.le_of_ble_eq_true rfl, Nat.le_of_ble_eq_true rfl⟩, hts _ wiO_leadsTo, hts _ wsO_leadsTo⟩ ⟨sk_blind _, va_recv hK hP (ci := 1) (q0 := 1) rfl rfl, fun U hU hW => ⟨rfl, sk_at (S := (b, t, f)) (wt := wt) hP hK hN hU hW⟩⟩ rfl rfl hl.1 rfl (lv_room (Nat.le_of_ble_eq_true rfl)) dK_turn_30 ⟨Nat.le_of_ble_eq_true rfl, Nat.le_of_ble_eq_true rfl⟩) hS (fun _ _ h => h.elim) (fun _ h => h.elim) (fun r30 u30 U9 H locs ht hvm w30 hB hz hk hS => ?_)
      have hP : va_P (dC, dI) vwCl (sk_wR a k (nI b.1) b.2.1 b.2.2.1 b.2.2.2.1 b.2.2.2.2 (nI t.1) t.2.1 t.2.2.1 t.2.2.2.1 t.2.2.2.2 (nI f.1) (nI (sk_there f)) (nI (f.1 % 100)) f.2.1 f.2.2.1 f.2.2.2.1 f.2.2.2.2.1 (fun i => lN (sk_nb (f.2.2.2.2.2.1 i))) (fun i => sk_bI (f.2.2.2.2.2.2 i)) wt) H := hP.kept (fun j q hq => hk q.1 ((hP j q hq).lt) (fun h => h))
      clear hk hB ht
      rcases sk_bI_or (decide (o ∈ sk_abv b.2.1 y)) with ⟨h30, hv⟩ | ⟨h30, hv⟩
      · skip
        obtain rfl : r30 = nI 1 := w30.trans hv
        refine lv_if_eq (tgt := 38) hx hb dK_turn_33 (by decide) (fun q => absurd q (by decide)) (fun _ => ?_)
        refine lv_iconst (v := nI 0) hx hb dK_turn_36 (by decide) ?_
        have hset : sk_turn (b, t, f) (nI o) y = _ := (sk_turn_y (S := (b, t, f)) h60 ho h16).trans (sk_turn_1 h30)
        exact W.zret (v := nI 0) hx hb hr (by decide) (fun U9 ht hW => ⟨⟨nI 0, ((b, t, f), wt), rfl, ⟨by rw [hset]; rfl, wt, by rw [hset]⟩, sk_endw ht hP hD⟩, hS.F ht⟩) hS.2.2 dK_turn_37
      · skip
        obtain rfl : r30 = nI 0 := w30.trans hv
        refine lv_if_eq (tgt := 38) hx hb dK_turn_33 (by decide) (fun _ => ?_) (fun q => absurd (by decide) q)
        refine lv_aload_n hx hb dK_turn_38 rfl (lv_at hl 0 rfl) ?_
        refine va_get (D := (dC, dI)) (ci := 3) (v := .ref (a 2)) (C := RK) (T := TK) (N := 4) hx hb hts inK hown hK hP 0 rfl rfl 1 (by decide) (hts _ wfK_19) (fun _ h9 => h9) rfl dK_turn_39 ?_
        refine lv_aload_n hx hb dK_turn_42 rfl (lv_at hl 0 rfl) ?_
        refine va_get (D := (dC, dI)) (ci := 3) (v := .ref (a 1)) (C := RK) (T := TK) (N := 4) hx hb hts inK hown hK hP 0 rfl rfl 0 (by decide) (hts _ wfK_10) (fun _ h9 => h9) rfl dK_turn_43 ?_
        refine va_getN (D := (dC, dI)) (ci := 1) (v := .ref (a 6)) (C := RO) (T := TO) (N := 5) hx hb hts inO hown hK hP 1 rfl rfl 1 (by decide) (va_Nw.use rfl (nlfK_70 hN)) (fun _ h9 => h9) rfl dK_turn_46 ?_
        refine lv_iload_n hx hb dK_turn_49 rfl (lv_at hl 1 rfl) ?_
        refine va_iald hx hb hK hP 6 0 rfl rfl (vp_in_nI (show o < 60 by omega) (by decide)) dK_turn_50 ?_
        refine lv_topi (fun x50 e50 => ?_)
        rw [nI_clamp (show o < 2 ^ 31 by omega)] at e50
        obtain rfl : x50 = nI (sk_sh b o) := e50.trans (hs2)
        refine lv_iconst (v := (-1)) hx hb dK_turn_51 (by decide) ?_
        refine lv_aload_n hx hb dK_turn_52 rfl (lv_at hl 0 rfl) ?_
        refine va_get (D := (dC, dI)) (ci := 3) (v := .ref (a 4)) (C := RK) (T := TK) (N := 4) hx hb hts inK hown hK hP 0 rfl rfl 3 (by decide) (hts _ wfK_30) (fun _ h9 => h9) rfl dK_turn_53 ?_
        refine va_calli (va_runVN (As := [.int (nI (sk_sh b o)), .int (-1), .ref (a 4)]) (rest := []) ⟨hx, hb, hml, hown, hts⟩ (kT_listNames l dC dI a k b t f wt A (sk_sh b o) (-1) hT hs1) ⟨va_cnB 3 hts (sk_gC wcT_listNames) rfl rfl rfl (nlmK_89 hN) (hts _ wnT) (by decide +kernel) ⟨Nat.le_of_ble_eq_true rfl, Nat.le_of_ble_eq_true rfl⟩, hts _ wiT_listNames, hts _ wsT_listNames⟩ ⟨sk_blindD _, va_recv hK hP (ci := 2) (q0 := 2) rfl rfl, fun U hU hW => ⟨rfl, sk_at (S := (b, t, f)) (wt := wt) hP hK hN hU hW, hD⟩⟩ rfl rfl hl.1 rfl (lv_room (Nat.le_of_ble_eq_true rfl)) dK_turn_56 ⟨Nat.le_of_ble_eq_true rfl, Nat.le_of_ble_eq_true rfl⟩) hS (fun _ _ h => h) (fun _ h => h) (fun r56 u56 U9 H locs ht hvm w56 hB hz hk hS => ?_)
        obtain ⟨hP, hD⟩ := hB
        rw [ht] at hP
        obtain ⟨rfl, wt2, rfl, hrow⟩ := w56
        have hP : va_P (dC, dI) vwCl (sk_wR a k (nI b.1) b.2.1 b.2.2.1 b.2.2.2.1 b.2.2.2.2 (nI t.1) t.2.1 t.2.2.1 t.2.2.2.1 t.2.2.2.2 (nI f.1) (nI (sk_there f)) (nI (f.1 % 100)) f.2.1 f.2.2.1 f.2.2.2.1 f.2.2.2.2.1 (fun i => lN (sk_nb (f.2.2.2.2.2.1 i))) (fun i => sk_bI (f.2.2.2.2.2.2 i)) wt2) H := hP
        have hD : va_D A (sk_wR a k (nI b.1) b.2.1 b.2.2.1 b.2.2.2.1 b.2.2.2.2 (nI t.1) t.2.1 t.2.2.1 t.2.2.2.1 t.2.2.2.2 (nI f.1) (nI (sk_there f)) (nI (f.1 % 100)) f.2.1 f.2.2.1 f.2.2.2.1 f.2.2.2.2.1 (fun i => lN (sk_nb (f.2.2.2.2.2.1 i))) (fun i => sk_bI (f.2.2.2.2.2.2 i)) wt2) := hD
        refine lv_istore_n (lv' := [(3, .int (nI (sk_left t (sk_sh b o) (-1)).length)), (0, .ref (a 0)), (1, .int (nI o)), (2, .int y)]) hx hb dK_turn_59 rfl hl (by decide) rfl (fun ls hl => ?_)
        refine lv_aload_n hx hb dK_turn_60 rfl (lv_at hl 1 rfl) ?_
        refine va_get (D := (dC, dI)) (ci := 3) (v := .ref (a 2)) (C := RK) (T := TK) (N := 4) hx hb hts inK hown hK hP 0 rfl rfl 1 (by decide) (hts _ wfK_19) (fun _ h9 => h9) rfl dK_turn_61 ?_
        refine lv_iload_n hx hb dK_turn_64 rfl (lv_at hl 3 rfl) ?_
        refine lv_aload_n hx hb dK_turn_65 rfl (lv_at hl 1 rfl) ?_
        refine va_get (D := (dC, dI)) (ci := 3) (v := .ref (a 4)) (C := RK) (T := TK) (N := 4) hx hb hts inK hown hK hP 0 rfl rfl 3 (by decide) (hts _ wfK_30) (fun _ h9 => h9) rfl dK_turn_66 ?_
        refine lv_iload_n hx hb dK_turn_69 rfl (lv_at hl 0 rfl) ?_
        refine va_calli (va_runVN (As := [.int y, .ref (a 4), .int (nI (sk_left t (sk_sh b o) (-1)).length)]) (rest := []) ⟨hx, hb, hml, hown, hts⟩ (kT_reach l dC dI a k b t f wt2 A y (sk_left t (sk_sh b o) (-1)) hT (sk_left_len hT hs1 (-1)) hrow) ⟨va_cnB 3 hts (sk_gC wcT_reach) rfl rfl rfl (nlmK_54 hN) (hts _ wnT) (by decide +kernel) ⟨Nat.le_of_ble_eq_true rfl, Nat.le_of_ble_eq_true rfl⟩, hts _ wiT_reach, hts _ wsT_reach⟩ ⟨sk_blindD _, va_recv hK hP (ci := 2) (q0 := 2) rfl rfl, fun U hU hW => ⟨rfl, sk_at (S := (b, t, f)) (wt := wt2) hP hK hN hU hW, hD⟩⟩ rfl rfl hl.1 rfl (lv_room (Nat.le_of_ble_eq_true rfl)) dK_turn_70 ⟨Nat.le_of_ble_eq_true rfl, Nat.le_of_ble_eq_true rfl⟩) hS (fun _ _ h => h) (fun _ h => h) (fun r70 u70 U9 H locs ht hvm w70 hB hz hk hS => ?_)
        obtain ⟨hP, hD⟩ := hB
        rw [ht] at hP
        rcases w70 with ⟨hg, rfl, rfl⟩ | ⟨t2, g2, hg, rfl, rfl⟩
        · skip
          have hP : va_P (dC, dI) vwCl (sk_wR a k (nI b.1) b.2.1 b.2.2.1 b.2.2.2.1 b.2.2.2.2 (nI t.1) t.2.1 t.2.2.1 t.2.2.2.1 t.2.2.2.2 (nI f.1) (nI (sk_there f)) (nI (f.1 % 100)) f.2.1 f.2.2.1 f.2.2.2.1 f.2.2.2.2.1 (fun i => lN (sk_nb (f.2.2.2.2.2.1 i))) (fun i => sk_bI (f.2.2.2.2.2.2 i)) wt2) H := hP
          have hD : va_D A (sk_wR a k (nI b.1) b.2.1 b.2.2.1 b.2.2.2.1 b.2.2.2.2 (nI t.1) t.2.1 t.2.2.1 t.2.2.2.1 t.2.2.2.2 (nI f.1) (nI (sk_there f)) (nI (f.1 % 100)) f.2.1 f.2.2.1 f.2.2.2.1 f.2.2.2.2.1 (fun i => lN (sk_nb (f.2.2.2.2.2.1 i))) (fun i => sk_bI (f.2.2.2.2.2.2 i)) wt2) := hD
          refine lv_istore (lv' := [(4, .int (-1)), (3, .int (nI (sk_left t (sk_sh b o) (-1)).length)), (0, .ref (a 0)), (1, .int (nI o)), (2, .int y)]) hx hb dK_turn_73 hl (by decide) rfl (fun ls hl => ?_)
          refine lv_iload hx hb dK_turn_75 (lv_at hl 0 rfl) ?_
          refine lv_iconst (v := (-1)) hx hb dK_turn_77 (by decide) ?_
          refine lv_icmp_ne (tgt := 83) hx hb dK_turn_78 (by decide) (fun q => absurd q (by decide)) (fun _ => ?_)
          refine lv_iconst (v := nI 0) hx hb dK_turn_81 (by decide) ?_
          have hset : sk_turn (b, t, f) (nI o) y = _ := (sk_turn_y (S := (b, t, f)) h60 ho h16).trans (sk_turn_2 h30 (by rw [← sk_left_m1 hT hs1]; exact hg))
          exact W.zret (v := nI 0) hx hb hr (by decide) (fun U9 ht hW => ⟨⟨nI 0, ((b, t, f), wt2), rfl, ⟨by rw [hset]; rfl, wt2, by rw [hset]⟩, sk_endw ht hP hD⟩, hS.F ht⟩) hS.2.2 dK_turn_82
        · skip
          have hP : va_P (dC, dI) vwCl (sk_wR a k (nI b.1) b.2.1 b.2.2.1 b.2.2.2.1 b.2.2.2.2 (nI t2.1) t2.2.1 t2.2.2.1 t2.2.2.2.1 t2.2.2.2.2 (nI f.1) (nI (sk_there f)) (nI (f.1 % 100)) f.2.1 f.2.2.1 f.2.2.2.1 f.2.2.2.2.1 (fun i => lN (sk_nb (f.2.2.2.2.2.1 i))) (fun i => sk_bI (f.2.2.2.2.2.2 i)) wt2) H := hP
          have hD : va_D A (sk_wR a k (nI b.1) b.2.1 b.2.2.1 b.2.2.2.1 b.2.2.2.2 (nI t2.1) t2.2.1 t2.2.2.1 t2.2.2.2.1 t2.2.2.2.2 (nI f.1) (nI (sk_there f)) (nI (f.1 % 100)) f.2.1 f.2.2.1 f.2.2.2.1 f.2.2.2.2.1 (fun i => lN (sk_nb (f.2.2.2.2.2.1 i))) (fun i => sk_bI (f.2.2.2.2.2.2 i)) wt2) := hD
          refine lv_istore (lv' := [(4, .int (nI g2)), (3, .int (nI (sk_left t (sk_sh b o) (-1)).length)), (0, .ref (a 0)), (1, .int (nI o)), (2, .int y)]) hx hb dK_turn_73 hl (by decide) rfl (fun ls hl => ?_)
          refine lv_iload hx hb dK_turn_75 (lv_at hl 0 rfl) ?_
          refine lv_iconst (v := (-1)) hx hb dK_turn_77 (by decide) ?_
          refine lv_icmp_ne (tgt := 83) hx hb dK_turn_78 (by decide) (fun c78 => ?_) (fun c78 => ?_)
          · skip
            refine lv_aload_n hx hb dK_turn_83 rfl (lv_at hl 2 rfl) ?_
            refine va_get (D := (dC, dI)) (ci := 3) (v := .ref (a 1)) (C := RK) (T := TK) (N := 4) hx hb hts inK hown hK hP 0 rfl rfl 0 (by decide) (hts _ wfK_10) (fun _ h9 => h9) rfl dK_turn_84 ?_
            refine va_getN (D := (dC, dI)) (ci := 1) (v := .ref (a 5)) (C := RO) (T := TO) (N := 5) hx hb hts inO hown hK hP 1 rfl rfl 0 (by decide) (va_Nw.use rfl (nlfK_93 hN)) (fun _ h9 => h9) rfl dK_turn_87 ?_
            refine lv_iload_n hx hb dK_turn_90 rfl (lv_at hl 3 rfl) ?_
            refine lv_iload_n hx hb dK_turn_91 rfl (lv_at hl 4 rfl) ?_
            refine va_iast hx hb hK hP hD hS 5 0 rfl rfl (vp_in_nI (show o < 60 by omega) (by decide)) dK_turn_92 (fun H locs hP hD hS => ?_)
            rw [nI_clamp (show o < 2 ^ 31 by omega)] at hP hD
            have hP : va_P (dC, dI) vwCl (sk_wR a k (nI b.1) (upd b.2.1 o y) b.2.2.1 b.2.2.2.1 b.2.2.2.2 (nI t2.1) t2.2.1 t2.2.2.1 t2.2.2.2.1 t2.2.2.2.2 (nI f.1) (nI (sk_there f)) (nI (f.1 % 100)) f.2.1 f.2.2.1 f.2.2.2.1 f.2.2.2.2.1 (fun i => lN (sk_nb (f.2.2.2.2.2.1 i))) (fun i => sk_bI (f.2.2.2.2.2.2 i)) wt2) H := hP
            have hD : va_D A (sk_wR a k (nI b.1) (upd b.2.1 o y) b.2.2.1 b.2.2.2.1 b.2.2.2.2 (nI t2.1) t2.2.1 t2.2.2.1 t2.2.2.2.1 t2.2.2.2.2 (nI f.1) (nI (sk_there f)) (nI (f.1 % 100)) f.2.1 f.2.2.1 f.2.2.2.1 f.2.2.2.2.1 (fun i => lN (sk_nb (f.2.2.2.2.2.1 i))) (fun i => sk_bI (f.2.2.2.2.2.2 i)) wt2) := hD
            have hP : va_P (dC, dI) vwCl (sk_wR a k (nI (b.1, upd b.2.1 o y, b.2.2).1) ((b.1, upd b.2.1 o y, b.2.2).2.1) ((b.1, upd b.2.1 o y, b.2.2).2.2.1) ((b.1, upd b.2.1 o y, b.2.2).2.2.2.1) ((b.1, upd b.2.1 o y, b.2.2).2.2.2.2) (nI t2.1) t2.2.1 t2.2.2.1 t2.2.2.2.1 t2.2.2.2.2 (nI f.1) (nI (sk_there f)) (nI (f.1 % 100)) f.2.1 f.2.2.1 f.2.2.2.1 f.2.2.2.2.1 (fun i => lN (sk_nb (f.2.2.2.2.2.1 i))) (fun i => sk_bI (f.2.2.2.2.2.2 i)) wt2) H := hP
            have hD : va_D A (sk_wR a k (nI (b.1, upd b.2.1 o y, b.2.2).1) ((b.1, upd b.2.1 o y, b.2.2).2.1) ((b.1, upd b.2.1 o y, b.2.2).2.2.1) ((b.1, upd b.2.1 o y, b.2.2).2.2.2.1) ((b.1, upd b.2.1 o y, b.2.2).2.2.2.2) (nI t2.1) t2.2.1 t2.2.2.1 t2.2.2.2.1 t2.2.2.2.2 (nI f.1) (nI (sk_there f)) (nI (f.1 % 100)) f.2.1 f.2.2.1 f.2.2.2.1 f.2.2.2.2.1 (fun i => lN (sk_nb (f.2.2.2.2.2.1 i))) (fun i => sk_bI (f.2.2.2.2.2.2 i)) wt2) := hD
            refine lv_aload_n hx hb dK_turn_93 rfl (lv_at hl 2 rfl) ?_
            refine lv_iload_n hx hb dK_turn_94 rfl (lv_at hl 3 rfl) ?_
            refine lv_iload hx hb dK_turn_95 (lv_at hl 0 rfl) ?_
            refine va_callv (va_runV (As := [.int (nI o), .int (nI g2)]) (rest := []) ⟨hx, hb, hml, hown, hts⟩ (kK_change l dC dI a k (b.1, upd b.2.1 o y, b.2.2) t2 f wt2 A o g2 (by omega) hfl) (cwV 2 hts (sk_gV wmK_81 wiK_change wsK_change wnK wcK_change) rfl rfl rfl (by decide +kernel) ⟨Nat.le_of_ble_eq_true rfl, Nat.le_of_ble_eq_true rfl⟩) ⟨sk_blindD _, va_recv hK hP (ci := 3) (q0 := 0) rfl rfl, fun U hU hW => ⟨rfl, sk_at (S := ((b.1, upd b.2.1 o y, b.2.2), t2, f)) (wt := wt2) hP hK hN hU hW, hD⟩⟩ rfl rfl hl.1 rfl (lv_room (Nat.le_of_ble_eq_true rfl)) dK_turn_97 ⟨Nat.le_of_ble_eq_true rfl, Nat.le_of_ble_eq_true rfl⟩) hS (fun _ _ h => h) (fun _ h => h) (fun u97 U9 H locs ht hvm w97 hB hz hk hS => ?_)
            obtain ⟨hP, hD⟩ := hB
            rw [ht] at hP
            obtain rfl := w97
            have hP : va_P (dC, dI) vwCl (sk_wR a k (nI (sk_chg (b.1, upd b.2.1 o y, b.2.2) o g2).1) ((sk_chg (b.1, upd b.2.1 o y, b.2.2) o g2).2.1) ((sk_chg (b.1, upd b.2.1 o y, b.2.2) o g2).2.2.1) ((sk_chg (b.1, upd b.2.1 o y, b.2.2) o g2).2.2.2.1) ((sk_chg (b.1, upd b.2.1 o y, b.2.2) o g2).2.2.2.2) (nI t2.1) t2.2.1 t2.2.2.1 t2.2.2.2.1 t2.2.2.2.2 (nI (sk_brk f o).1) (nI (sk_there (sk_brk f o))) (nI ((sk_brk f o).1 % 100)) ((sk_brk f o).2.1) ((sk_brk f o).2.2.1) ((sk_brk f o).2.2.2.1) ((sk_brk f o).2.2.2.2.1) (fun i => lN (sk_nb ((sk_brk f o).2.2.2.2.2.1 i))) (fun i => sk_bI ((sk_brk f o).2.2.2.2.2.2 i)) wt2) H := hP
            have hD : va_D A (sk_wR a k (nI (sk_chg (b.1, upd b.2.1 o y, b.2.2) o g2).1) ((sk_chg (b.1, upd b.2.1 o y, b.2.2) o g2).2.1) ((sk_chg (b.1, upd b.2.1 o y, b.2.2) o g2).2.2.1) ((sk_chg (b.1, upd b.2.1 o y, b.2.2) o g2).2.2.2.1) ((sk_chg (b.1, upd b.2.1 o y, b.2.2) o g2).2.2.2.2) (nI t2.1) t2.2.1 t2.2.2.1 t2.2.2.2.1 t2.2.2.2.2 (nI (sk_brk f o).1) (nI (sk_there (sk_brk f o))) (nI ((sk_brk f o).1 % 100)) ((sk_brk f o).2.1) ((sk_brk f o).2.2.1) ((sk_brk f o).2.2.2.1) ((sk_brk f o).2.2.2.2.1) (fun i => lN (sk_nb ((sk_brk f o).2.2.2.2.2.1 i))) (fun i => sk_bI ((sk_brk f o).2.2.2.2.2.2 i)) wt2) := hD
            refine lv_iconst (v := nI 1) hx hb dK_turn_100 (by decide) ?_
            have hset : sk_turn (b, t, f) (nI o) y = _ := (sk_turn_y (S := (b, t, f)) h60 ho h16).trans (sk_turn_3 h30 (by rw [← sk_left_m1 hT hs1]; exact hg))
            exact W.zret (v := nI 1) hx hb hr (by decide) (fun U9 ht hW => ⟨⟨nI 1, ((sk_chg (b.1, upd b.2.1 o y, b.2.2) o g2, t2, sk_brk f o), wt2), rfl, ⟨by rw [hset]; rfl, wt2, by rw [hset]⟩, sk_endw ht hP hD⟩, hS.F ht⟩) hS.2.2 dK_turn_101
          · skip
            exact absurd c78 (sk_nm1 (by have z1 := (sk_reach_spec hT ((sk_canP_iff (by omega)).mp h16) (sk_left_ok hT hs1 (-1)).1 (sk_left_ok hT hs1 (-1)).2 hg); have z2 := z1.1.2.1; have z3 := z1.2.2.1; omega))
    · skip
      obtain rfl : r16 = nI 0 := w16.trans hv
      refine lv_if_ne (tgt := 24) hx hb dK_turn_19 (by decide) (fun q => absurd q (by decide)) (fun _ => ?_)
      refine lv_iconst (v := nI 0) hx hb dK_turn_22 (by decide) ?_
      exact W.zret (v := nI 0) hx hb hr (by decide) (fun U9 ht hW => ⟨⟨nI 0, ((b, t, f), wt), rfl, ⟨by rw [sk_turn_n (by show (sk_hasB b.1 _ && sk_canP b.1 y) = false; rw [h16, Bool.and_false])]; rfl, wt, by rw [sk_turn_n (by show (sk_hasB b.1 _ && sk_canP b.1 y) = false; rw [h16, Bool.and_false])]⟩, sk_endw ht hP hD⟩, hS.F ht⟩) hS.2.2 dK_turn_23
  · skip
    obtain rfl : r5 = nI 0 := w5.trans hv
    refine lv_if_eq (tgt := 22) hx hb dK_turn_8 (by decide) (fun _ => ?_) (fun q => absurd (by decide) q)
    refine lv_iconst (v := nI 0) hx hb dK_turn_22 (by decide) ?_
    exact W.zret (v := nI 0) hx hb hr (by decide) (fun U9 ht hW => ⟨⟨nI 0, ((b, t, f), wt), rfl, ⟨by rw [sk_turn_n (by show (sk_hasB b.1 _ && sk_canP b.1 y) = false; rw [h5, Bool.false_and])]; rfl, wt, by rw [sk_turn_n (by show (sk_hasB b.1 _ && sk_canP b.1 y) = false; rw [h5, Bool.false_and])]⟩, sk_endw ht hP hD⟩, hS.F ht⟩) hS.2.2 dK_turn_23
