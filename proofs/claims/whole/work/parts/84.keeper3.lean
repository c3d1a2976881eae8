set_option maxHeartbeats 4000000 in
set_option maxRecDepth 100000 in
theorem kT_reachN (l : Launch) (dC : Nat → ClassId) (dI : Nat → Nat → Nat) (a : Nat → Nat) (k : Nat → ClassId) (b : sk_Ob) (t : sk_Tr) (f : sk_Fi) (wt : sk_F) (x : Int32) (hT : sk_TO b.1 t) (hno : sk_reach t x [] = none) : Met l yT_reach wzT_reach rzT_reach (va_Pc [.ref (a 2), .int x, .ref (a 4), .int (nI 0)] (sk_PX dC dI a k (b, t, f) wt)) (va_Qi (fun r (_ : Unit) => r = -1) (fun _ _ => True) (fun _ => False)) 0 0 (fun _ => False) := by
  refine Met.ofW (cc := cT_reach) (maxL := 8) (ret := (some .int)) (by decide) rfl ?_
  intro p e s m args below meth c s₁ B hml hv
  obtain ⟨rfl, hP, hK, hN⟩ := hv
  have hx := B.exec
  have hb := B.bytes
  have hr := B.returns
  have hts : ∀ w ∈ sk_W, w.before ([.ref (a 2), .int x, .ref (a 4), .int (nI 0)] : List Value).toArray s = true := fun w h => atoms_spec (ws := wzT_reach) B.pre w (List.mem_cons_of_mem _ h)
  have hown : s.vm.findClass RT = some m.cls := findClass_of_methodNamed B.named
  have hlocks := B.notSynchronized
  have hS : va_S (fun _ => False) s.heap s.heap [] := va_S.rf
  have hP : va_P (dC, dI) vwCl (sk_wR a k (nI b.1) b.2.1 b.2.2.1 b.2.2.2.1 b.2.2.2.2 (nI t.1) t.2.1 t.2.2.1 t.2.2.2.1 t.2.2.2.2 (nI f.1) (nI (sk_there f)) (nI (f.1 % 100)) f.2.1 f.2.2.1 f.2.2.2.1 f.2.2.2.2.1 (fun i => lN (sk_nb (f.2.2.2.2.2.1 i))) (fun i => sk_bI (f.2.2.2.2.2.2 i)) wt) s.heap := hP
  have hl := lv_entry ([.ref (a 2), .int x, .ref (a 4), .int (nI 0)]) (n := 8) (Nat.le_of_ble_eq_true rfl)
  rw [lg_entry_eq]
  generalize (lg_sl ([.ref (a 2), .int x, .ref (a 4), .int (nI 0)]) ++ List.replicate (8 - (lg_sl ([.ref (a 2), .int x, .ref (a 4), .int (nI 0)])).length) Slot.unset).toArray = ls at hl ⊢
  have hl : lv_has ls 8 [(0, .ref (a 2)), (1, .int x), (2, .ref (a 4)), (3, .int (nI 0))] := hl
  have h200 : t.1 ≤ 200 := hT.2.1
  have h60 : b.1 ≤ 60 := hT.2.2.1
  obtain ⟨hem, hfull⟩ := sk_reach_nil hT hno
  refine lv_aload_n hx hb dT_reach_0 rfl (lv_at hl 0 rfl) ?_
  refine lv_iload_n hx hb dT_reach_1 rfl (lv_at hl 1 rfl) ?_
  refine va_calli (va_runV (As := [.int x]) (rest := []) ⟨hx, hb, hml, hown, hts⟩ (kT_emptyOf l dC dI a k b t f wt x hT) (cwV 1 hts (sk_gV wmT_35 wiT_emptyOf wsT_emptyOf wnT wcT_emptyOf) rfl rfl rfl (by decide +kernel) ⟨Nat.le_of_ble_eq_true rfl, Nat.le_of_ble_eq_true rfl⟩) ⟨sk_blind _, va_recv hK hP (ci := 2) (q0 := 2) rfl rfl, fun U hU hW => ⟨rfl, sk_at (S := (b, t, f)) (wt := wt) hP hK hN hU hW⟩⟩ rfl rfl hl.1 rfl (lv_room (Nat.le_of_ble_eq_true rfl)) dT_reach_2 ⟨Nat.le_of_ble_eq_true rfl, Nat.le_of_ble_eq_true rfl⟩) hS (fun _ _ h => h.elim) (fun _ h => h.elim) (fun r2 u2 U9 H locs ht hvm w2 hB hz hk hS => ?_)
  have hP : va_P (dC, dI) vwCl (sk_wR a k (nI b.1) b.2.1 b.2.2.1 b.2.2.2.1 b.2.2.2.2 (nI t.1) t.2.1 t.2.2.1 t.2.2.2.1 t.2.2.2.2 (nI f.1) (nI (sk_there f)) (nI (f.1 % 100)) f.2.1 f.2.2.1 f.2.2.2.1 f.2.2.2.2.1 (fun i => lN (sk_nb (f.2.2.2.2.2.1 i))) (fun i => sk_bI (f.2.2.2.2.2.2 i)) wt) H := hP.kept (fun j q hq => hk q.1 ((hP j q hq).lt) (fun h => h))
  clear hk hB ht
  obtain rfl : r2 = -1 := w2.trans hem
  refine lv_istore (lv' := [(4, .int (-1)), (0, .ref (a 2)), (1, .int x), (2, .ref (a 4)), (3, .int (nI 0))]) hx hb dT_reach_5 hl (by decide) rfl (fun ls hl => ?_)
  refine lv_iconst (v := nI 0) hx hb dT_reach_7 (by decide) ?_
  refine lv_istore (lv' := [(5, .int (nI 0)), (4, .int (-1)), (0, .ref (a 2)), (1, .int x), (2, .ref (a 4)), (3, .int (nI 0))]) hx hb dT_reach_8 hl (by decide) rfl (fun ls hl => ?_)
  refine lv_iconst (v := nI 0) hx hb dT_reach_10 (by decide) ?_
  refine lv_istore (lv' := [(6, .int (nI 0)), (5, .int (nI 0)), (4, .int (-1)), (0, .ref (a 2)), (1, .int x), (2, .ref (a 4)), (3, .int (nI 0))]) hx hb dT_reach_11 hl (by decide) rfl (fun ls hl => ?_)
  refine lv_iload hx hb dT_reach_13 (lv_at hl 2 rfl) ?_
  refine lv_iconst (v := (-1)) hx hb dT_reach_15 (by decide) ?_
  refine lv_icmp_eq (tgt := 59) hx hb dT_reach_16 (by decide) (fun _ => ?_) (fun q => absurd (by decide) q)
  refine lv_iload_n hx hb dT_reach_59 rfl (lv_at hl 6 rfl) ?_
  refine lv_iload hx hb dT_reach_60 (lv_at hl 1 rfl) ?_
  refine lv_isub hx hb dT_reach_62 ?_
  refine lv_topi (fun x62 e62 => ?_)
  obtain rfl : x62 = nI (0 - 0) := e62.trans (pk_sub (by omega))
  refine lv_iload hx hb dT_reach_63 (lv_at hl 2 rfl) ?_
  refine lv_iconst (v := (-1)) hx hb dT_reach_65 (by decide) ?_
  refine lv_icmp_ne (tgt := 73) hx hb dT_reach_66 (by decide) (fun q => absurd q (by decide)) (fun _ => ?_)
  refine lv_iconst (v := nI 1) hx hb dT_reach_69 (by decide) ?_
  refine lv_goto (tgt := 74) hx hb dT_reach_70 (by decide) ?_
  refine lv_iadd hx hb dT_reach_74 ?_
  refine lv_topi (fun x74 e74 => ?_)
  obtain rfl : x74 = nI ((0 - 0) + 1) := e74.trans (nI_add _ _)
  refine lv_istore (lv' := [(6, .int (nI ((0 - 0) + 1))), (5, .int (nI 0)), (4, .int (-1)), (0, .ref (a 2)), (1, .int x), (2, .ref (a 4)), (3, .int (nI 0))]) hx hb dT_reach_75 hl (by decide) rfl (fun ls hl => ?_)
  refine lv_iload hx hb dT_reach_77 (lv_at hl 0 rfl) ?_
  refine lv_sipush (v := nI 200) hx hb dT_reach_79 (by decide) ?_
  refine lv_aload_n hx hb dT_reach_82 rfl (lv_at hl 3 rfl) ?_
  refine va_get (D := (dC, dI)) (ci := 2) (v := .int (nI t.1)) (C := RT) (T := TT) (N := 5) hx hb hts inT hown hK hP 2 rfl rfl 4 (by decide) (hts _ wfT_24) (fun _ h9 => h9) rfl dT_reach_83 ?_
  refine lv_isub hx hb dT_reach_86 ?_
  refine lv_topi (fun x86 e86 => ?_)
  obtain rfl : x86 = nI (200 - t.1) := e86.trans (pk_sub (by omega))
  refine lv_icmp_le (tgt := 92) hx hb dT_reach_87 (by decide) (fun c87 => ?_) (fun c87 => ?_)
  · skip
    have n87 : ((0 - 0) + 1) ≤ (200 - t.1) := (nI_leI (a := ((0 - 0) + 1)) (b := (200 - t.1)) (by omega) (by omega)).mp c87
    exfalso; omega
  · skip
    have n87 : ¬ ((0 - 0) + 1) ≤ (200 - t.1) := fun z9 => c87 ((nI_leI (a := ((0 - 0) + 1)) (b := (200 - t.1)) (by omega) (by omega)).mpr z9)
    refine lv_iconst (v := (-1)) hx hb dT_reach_90 (by decide) ?_
    exact W.iret (v := (-1)) hx hb hr (fun U9 ht hW => ⟨⟨(-1), (), rfl, rfl, trivial⟩, hS.F ht⟩) hS.2.2 dT_reach_91
abbrev wzK_object : List Cond := .code yK_object cK_object 3 (some .int) :: sk_W
abbrev rzK_object : Room := { frames := 3, cells := 0, slots := 0, locals := 74 }
set_option maxHeartbeats 4000000 in
set_option maxRecDepth 100000 in
theorem kK_object (l : Launch) (dC : Nat → ClassId) (dI : Nat → Nat → Nat) (a : Nat → Nat) (k : Nat → ClassId) (b : sk_Ob) (t : sk_Tr) (f : sk_Fi) (wt : sk_F) (A : Nat → Prop) (x : Int32) (K : Nat) (hOK : sk_OK K (b, t, f)) (hco : (sk_object (b, t, f) x).1 = 0) : Met l yK_object wzK_object rzK_object (va_Pc [.ref (a 0), .int x] (fun U => sk_PX dC dI a k (b, t, f) wt U ∧ va_D A (sk_wX a k (b, t, f) wt))) (va_Qi (fun r (u : sk_S × sk_F) => r = (sk_object (b, t, f) x).2.1 ∧ ∃ wt2, u = ((sk_object (b, t, f) x).2.2, wt2)) (fun u U => va_P (dC, dI) vwCl (sk_wX a k u.1 u.2) U.heap ∧ va_D A (sk_wX a k u.1 u.2)) A) 0 0 A := by
  refine Met.ofW (cc := cK_object) (maxL := 3) (ret := (some .int)) (by decide) rfl ?_
  intro p e s m args below meth c s₁ B hml hv
  obtain ⟨rfl, ⟨hP, hK, hN⟩, hD⟩ := hv
  have hx := B.exec
  have hb := B.bytes
  have hr := B.returns
  have hts : ∀ w ∈ sk_W, w.before ([.ref (a 0), .int x] : List Value).toArray s = true := fun w h => atoms_spec (ws := wzK_object) B.pre w (List.mem_cons_of_mem _ h)
  have hown : s.vm.findClass RK = some m.cls := findClass_of_methodNamed B.named
  have hlocks := B.notSynchronized
  have hS : va_S A s.heap s.heap [] := va_S.rf
  have hP : va_P (dC, dI) vwCl (sk_wR a k (nI b.1) b.2.1 b.2.2.1 b.2.2.2.1 b.2.2.2.2 (nI t.1) t.2.1 t.2.2.1 t.2.2.2.1 t.2.2.2.2 (nI f.1) (nI (sk_there f)) (nI (f.1 % 100)) f.2.1 f.2.2.1 f.2.2.2.1 f.2.2.2.2.1 (fun i => lN (sk_nb (f.2.2.2.2.2.1 i))) (fun i => sk_bI (f.2.2.2.2.2.2 i)) wt) s.heap := hP
  have hD : va_D A (sk_wR a k (nI b.1) b.2.1 b.2.2.1 b.2.2.2.1 b.2.2.2.2 (nI t.1) t.2.1 t.2.2.1 t.2.2.2.1 t.2.2.2.2 (nI f.1) (nI (sk_there f)) (nI (f.1 % 100)) f.2.1 f.2.2.1 f.2.2.2.1 f.2.2.2.2.1 (fun i => lN (sk_nb (f.2.2.2.2.2.1 i))) (fun i => sk_bI (f.2.2.2.2.2.2 i)) wt) := hD
  have hl := lv_entry ([.ref (a 0), .int x]) (n := 3) (Nat.le_of_ble_eq_true rfl)
  rw [lg_entry_eq]
  generalize (lg_sl ([.ref (a 0), .int x]) ++ List.replicate (3 - (lg_sl ([.ref (a 0), .int x])).length) Slot.unset).toArray = ls at hl ⊢
  have hl : lv_has ls 3 [(0, .ref (a 0)), (1, .int x)] := hl
  have hT : sk_TO b.1 t := hOK.1
  have hA : sk_AC b.1 b.2.1 := hOK.2.1
  have hO : sk_OO b t := hOK.2.2.1
  have hmk : f.1 ≤ K := hOK.2.2.2.2.2.2.1
  have hK5 : K ≤ 512 := hOK.2.2.2.2.2.1
  have h200 : t.1 ≤ 200 := hT.2.1
  have h60 : b.1 ≤ 60 := hT.2.2.1
  have hfl : ∀ i, i < sk_there f → ∀ x ∈ f.2.2.2.2.2.1 i, x < 60 := fun i hi x hx => Nat.lt_of_lt_of_le ((hOK.2.2.2.2.2.2.2 i hi).2.2.2 x hx) h60
  refine lv_aload_n hx hb dK_object_0 rfl (lv_at hl 0 rfl) ?_
  refine va_get (D := (dC, dI)) (ci := 3) (v := .ref (a 1)) (C := RK) (T := TK) (N := 4) hx hb hts inK hown hK hP 0 rfl rfl 0 (by decide) (hts _ wfK_10) (fun _ h9 => h9) rfl dK_object_1 ?_
  refine lv_iload_n hx hb dK_object_4 rfl (lv_at hl 1 rfl) ?_
  refine va_calli (va_runVN (As := [.int x]) (rest := []) ⟨hx, hb, hml, hown, hts⟩ (kO_canBePrototype l dC dI a k b t f wt x) ⟨va_cnB 1 hts (sk_gC wcO_canBePrototype) rfl rfl rfl (nlmK_34 hN) (hts _ wnO) (by decide +kernel) ⟨Nat.le_of_ble_eq_true rfl, Nat.le_of_ble_eq_true rfl⟩, hts _ wiO_canBePrototype, hts _ wsO_canBePrototype⟩ ⟨sk_blind _, va_recv hK hP (ci := 1) (q0 := 1) rfl rfl, fun U hU hW => ⟨rfl, sk_at (S := (b, t, f)) (wt := wt) hP hK hN hU hW⟩⟩ rfl rfl hl.1 rfl (lv_room (Nat.le_of_ble_eq_true rfl)) dK_object_5 ⟨Nat.le_of_ble_eq_true rfl, Nat.le_of_ble_eq_true rfl⟩) hS (fun _ _ h => h.elim) (fun _ h => h.elim) (fun r5 u5 U9 H locs ht hvm w5 hB hz hk hS => ?_)
  have hP : va_P (dC, dI) vwCl (sk_wR a k (nI b.1) b.2.1 b.2.2.1 b.2.2.2.1 b.2.2.2.2 (nI t.1) t.2.1 t.2.2.1 t.2.2.2.1 t.2.2.2.2 (nI f.1) (nI (sk_there f)) (nI (f.1 % 100)) f.2.1 f.2.2.1 f.2.2.2.1 f.2.2.2.2.1 (fun i => lN (sk_nb (f.2.2.2.2.2.1 i))) (fun i => sk_bI (f.2.2.2.2.2.2 i)) wt) H := hP.kept (fun j q hq => hk q.1 ((hP j q hq).lt) (fun h => h))
  clear hk hB ht
  rcases sk_bI_or (sk_canP b.1 x) with ⟨h5, hv⟩ | ⟨h5, hv⟩
  · skip
    obtain rfl : r5 = nI 1 := w5.trans hv
    refine lv_if_ne (tgt := 21) hx hb dK_object_8 (by decide) (fun _ => ?_) (fun q => absurd q (by decide))
    refine lv_aload_n hx hb dK_object_21 rfl (lv_at hl 0 rfl) ?_
    refine va_get (D := (dC, dI)) (ci := 3) (v := .ref (a 1)) (C := RK) (T := TK) (N := 4) hx hb hts inK hown hK hP 0 rfl rfl 0 (by decide) (hts _ wfK_10) (fun _ h9 => h9) rfl dK_object_22 ?_
    refine va_getN (D := (dC, dI)) (ci := 1) (v := .int (nI b.1)) (C := RO) (T := TO) (N := 5) hx hb hts inO hown hK hP 1 rfl rfl 4 (by decide) (va_Nw.use rfl (nlfK_45 hN)) (fun _ h9 => h9) rfl dK_object_25 ?_
    refine lv_bipush (v := nI 60) hx hb dK_object_28 (by decide) ?_
    refine lv_icmp_lt (tgt := 43) hx hb dK_object_30 (by decide) (fun c30 => ?_) (fun c30 => ?_)
    · skip
      have n30 : b.1 < 60 := (nI_ltI (a := b.1) (b := 60) (by omega) (by omega)).mp c30
      refine lv_aload_n hx hb dK_object_43 rfl (lv_at hl 0 rfl) ?_
      refine va_get (D := (dC, dI)) (ci := 3) (v := .ref (a 2)) (C := RK) (T := TK) (N := 4) hx hb hts inK hown hK hP 0 rfl rfl 1 (by decide) (hts _ wfK_19) (fun _ h9 => h9) rfl dK_object_44 ?_
      refine lv_iload_n hx hb dK_object_47 rfl (lv_at hl 1 rfl) ?_
      refine lv_aload_n hx hb dK_object_48 rfl (lv_at hl 0 rfl) ?_
      refine va_get (D := (dC, dI)) (ci := 3) (v := .ref (a 4)) (C := RK) (T := TK) (N := 4) hx hb hts inK hown hK hP 0 rfl rfl 3 (by decide) (hts _ wfK_30) (fun _ h9 => h9) rfl dK_object_49 ?_
      refine lv_iconst (v := nI 0) hx hb dK_object_52 (by decide) ?_
      refine va_calli (va_runVN (As := [.int x, .ref (a 4), .int (nI 0)]) (rest := []) ⟨hx, hb, hml, hown, hts⟩ (kT_reach l dC dI a k b t f wt A x [] hT (by decide) (fun j hj => absurd hj (Nat.not_lt_zero _))) ⟨va_cnB 3 hts (sk_gC wcT_reach) rfl rfl rfl (nlmK_54 hN) (hts _ wnT) (by decide +kernel) ⟨Nat.le_of_ble_eq_true rfl, Nat.le_of_ble_eq_true rfl⟩, hts _ wiT_reach, hts _ wsT_reach⟩ ⟨sk_blindD _, va_recv hK hP (ci := 2) (q0 := 2) rfl rfl, fun U hU hW => ⟨rfl, sk_at (S := (b, t, f)) (wt := wt) hP hK hN hU hW, hD⟩⟩ rfl rfl hl.1 rfl (lv_room (Nat.le_of_ble_eq_true rfl)) dK_object_53 ⟨Nat.le_of_ble_eq_true rfl, Nat.le_of_ble_eq_true rfl⟩) hS (fun _ _ h => h) (fun _ h => h) (fun r53 u53 U9 H locs ht hvm w53 hB hz hk hS => ?_)
      obtain ⟨hP, hD⟩ := hB
      rw [ht] at hP
      rcases w53 with ⟨hg, rfl, rfl⟩ | ⟨t2, g2, hg, rfl, rfl⟩
      · skip
        have hP : va_P (dC, dI) vwCl (sk_wR a k (nI b.1) b.2.1 b.2.2.1 b.2.2.2.1 b.2.2.2.2 (nI t.1) t.2.1 t.2.2.1 t.2.2.2.1 t.2.2.2.2 (nI f.1) (nI (sk_there f)) (nI (f.1 % 100)) f.2.1 f.2.2.1 f.2.2.2.1 f.2.2.2.2.1 (fun i => lN (sk_nb (f.2.2.2.2.2.1 i))) (fun i => sk_bI (f.2.2.2.2.2.2 i)) wt) H := hP
        have hD : va_D A (sk_wR a k (nI b.1) b.2.1 b.2.2.1 b.2.2.2.1 b.2.2.2.2 (nI t.1) t.2.1 t.2.2.1 t.2.2.2.1 t.2.2.2.2 (nI f.1) (nI (sk_there f)) (nI (f.1 % 100)) f.2.1 f.2.2.1 f.2.2.2.1 f.2.2.2.2.1 (fun i => lN (sk_nb (f.2.2.2.2.2.1 i))) (fun i => sk_bI (f.2.2.2.2.2.2 i)) wt) := hD
        refine lv_istore_n (lv' := [(2, .int (-1)), (0, .ref (a 0)), (1, .int x)]) hx hb dK_object_56 rfl hl (by decide) rfl (fun ls hl => ?_)
        refine lv_iload_n hx hb dK_object_57 rfl (lv_at hl 0 rfl) ?_
        refine lv_iconst (v := (-1)) hx hb dK_object_58 (by decide) ?_
        refine lv_icmp_ne (tgt := 72) hx hb dK_object_59 (by decide) (fun q => absurd q (by decide)) (fun _ => ?_)
        exact absurd ((congrArg Prod.fst (sk_object_3 (f := f) h5 (by omega) hg)).symm.trans hco) (by intro q9; cases q9)
      · skip
        have hP : va_P (dC, dI) vwCl (sk_wR a k (nI b.1) b.2.1 b.2.2.1 b.2.2.2.1 b.2.2.2.2 (nI t2.1) t2.2.1 t2.2.2.1 t2.2.2.2.1 t2.2.2.2.2 (nI f.1) (nI (sk_there f)) (nI (f.1 % 100)) f.2.1 f.2.2.1 f.2.2.2.1 f.2.2.2.2.1 (fun i => lN (sk_nb (f.2.2.2.2.2.1 i))) (fun i => sk_bI (f.2.2.2.2.2.2 i)) wt) H := hP
        have hD : va_D A (sk_wR a k (nI b.1) b.2.1 b.2.2.1 b.2.2.2.1 b.2.2.2.2 (nI t2.1) t2.2.1 t2.2.2.1 t2.2.2.2.1 t2.2.2.2.2 (nI f.1) (nI (sk_there f)) (nI (f.1 % 100)) f.2.1 f.2.2.1 f.2.2.2.1 f.2.2.2.2.1 (fun i => lN (sk_nb (f.2.2.2.2.2.1 i))) (fun i => sk_bI (f.2.2.2.2.2.2 i)) wt) := hD
        refine lv_istore_n (lv' := [(2, .int (nI g2)), (0, .ref (a 0)), (1, .int x)]) hx hb dK_object_56 rfl hl (by decide) rfl (fun ls hl => ?_)
        refine lv_iload_n hx hb dK_object_57 rfl (lv_at hl 0 rfl) ?_
        refine lv_iconst (v := (-1)) hx hb dK_object_58 (by decide) ?_
        refine lv_icmp_ne (tgt := 72) hx hb dK_object_59 (by decide) (fun c59 => ?_) (fun c59 => ?_)
        · skip
          refine lv_aload_n hx hb dK_object_72 rfl (lv_at hl 1 rfl) ?_
          refine va_get (D := (dC, dI)) (ci := 3) (v := .ref (a 1)) (C := RK) (T := TK) (N := 4) hx hb hts inK hown hK hP 0 rfl rfl 0 (by decide) (hts _ wfK_10) (fun _ h9 => h9) rfl dK_object_73 ?_
          refine lv_iload_n hx hb dK_object_76 rfl (lv_at hl 2 rfl) ?_
          refine lv_iload_n hx hb dK_object_77 rfl (lv_at hl 0 rfl) ?_
          refine va_calli (va_runVN (As := [.int x, .int (nI g2)]) (rest := []) ⟨hx, hb, hml, hown, hts⟩ (kO_add l dC dI a k b t2 f wt A x (nI g2) (by omega)) ⟨va_cnB 2 hts (sk_gC wcO_add) rfl rfl rfl (nlmK_60 hN) (hts _ wnO) (by decide +kernel) ⟨Nat.le_of_ble_eq_true rfl, Nat.le_of_ble_eq_true rfl⟩, hts _ wiO_add, hts _ wsO_add⟩ ⟨sk_blindD _, va_recv hK hP (ci := 1) (q0 := 1) rfl rfl, fun U hU hW => ⟨rfl, sk_at (S := (b, t2, f)) (wt := wt) hP hK hN hU hW, hD⟩⟩ rfl rfl hl.1 rfl (lv_room (Nat.le_of_ble_eq_true rfl)) dK_object_78 ⟨Nat.le_of_ble_eq_true rfl, Nat.le_of_ble_eq_true rfl⟩) hS (fun _ _ h => h) (fun _ h => h) (fun r78 u78 U9 H locs ht hvm w78 hB hz hk hS => ?_)
          obtain ⟨hP, hD⟩ := hB
          rw [ht] at hP
          obtain ⟨rfl, rfl⟩ := w78
          have hP : va_P (dC, dI) vwCl (sk_wR a k (nI (b.1 + 1, upd b.2.1 b.1 x, upd b.2.2.1 b.1 (nI g2), b.2.2.2.1, b.2.2.2.2).1) ((b.1 + 1, upd b.2.1 b.1 x, upd b.2.2.1 b.1 (nI g2), b.2.2.2.1, b.2.2.2.2).2.1) ((b.1 + 1, upd b.2.1 b.1 x, upd b.2.2.1 b.1 (nI g2), b.2.2.2.1, b.2.2.2.2).2.2.1) ((b.1 + 1, upd b.2.1 b.1 x, upd b.2.2.1 b.1 (nI g2), b.2.2.2.1, b.2.2.2.2).2.2.2.1) ((b.1 + 1, upd b.2.1 b.1 x, upd b.2.2.1 b.1 (nI g2), b.2.2.2.1, b.2.2.2.2).2.2.2.2) (nI t2.1) t2.2.1 t2.2.2.1 t2.2.2.2.1 t2.2.2.2.2 (nI f.1) (nI (sk_there f)) (nI (f.1 % 100)) f.2.1 f.2.2.1 f.2.2.2.1 f.2.2.2.2.1 (fun i => lN (sk_nb (f.2.2.2.2.2.1 i))) (fun i => sk_bI (f.2.2.2.2.2.2 i)) wt) H := hP
          have hD : va_D A (sk_wR a k (nI (b.1 + 1, upd b.2.1 b.1 x, upd b.2.2.1 b.1 (nI g2), b.2.2.2.1, b.2.2.2.2).1) ((b.1 + 1, upd b.2.1 b.1 x, upd b.2.2.1 b.1 (nI g2), b.2.2.2.1, b.2.2.2.2).2.1) ((b.1 + 1, upd b.2.1 b.1 x, upd b.2.2.1 b.1 (nI g2), b.2.2.2.1, b.2.2.2.2).2.2.1) ((b.1 + 1, upd b.2.1 b.1 x, upd b.2.2.1 b.1 (nI g2), b.2.2.2.1, b.2.2.2.2).2.2.2.1) ((b.1 + 1, upd b.2.1 b.1 x, upd b.2.2.1 b.1 (nI g2), b.2.2.2.1, b.2.2.2.2).2.2.2.2) (nI t2.1) t2.2.1 t2.2.2.1 t2.2.2.2.1 t2.2.2.2.2 (nI f.1) (nI (sk_there f)) (nI (f.1 % 100)) f.2.1 f.2.2.1 f.2.2.2.1 f.2.2.2.2.1 (fun i => lN (sk_nb (f.2.2.2.2.2.1 i))) (fun i => sk_bI (f.2.2.2.2.2.2 i)) wt) := hD
          have hset := sk_object_4 (f := f) h5 (by omega) hg
          exact W.iret (v := nI b.1) hx hb hr (fun U9 ht hW => ⟨⟨nI b.1, (((b.1 + 1, upd b.2.1 b.1 x, upd b.2.2.1 b.1 (nI g2), b.2.2.2.1, b.2.2.2.2), t2, f), wt), rfl, ⟨by rw [hset], wt, by rw [hset]⟩, sk_endw ht hP hD⟩, hS.F ht⟩) hS.2.2 dK_object_81
        · skip
          exact absurd c59 (sk_nm1 (by have z1 := (sk_reach_spec hT ((sk_canP_iff (by omega)).mp h5) List.nodup_nil (fun _ h9 => nomatch h9) hg); have z2 := z1.1.2.1; have z3 := z1.2.2.1; omega))
    · skip
      have n30 : ¬ b.1 < 60 := fun z9 => c30 ((nI_ltI (a := b.1) (b := 60) (by omega) (by omega)).mpr z9)
      exact absurd ((congrArg Prod.fst (sk_object_2 (t := t) (f := f) h5 (by omega))).symm.trans hco) (by intro q9; cases q9)
  · skip
    obtain rfl : r5 = nI 0 := w5.trans hv
    refine lv_if_ne (tgt := 21) hx hb dK_object_8 (by decide) (fun q => absurd q (by decide)) (fun _ => ?_)
    exact absurd ((congrArg Prod.fst (sk_object_1 (t := t) (f := f) h5)).symm.trans hco) (by intro q9; cases q9)
abbrev wzK_read : List Cond := .code yK_read cK_read 5 (some .int) :: sk_W
abbrev rzK_read : Room := { frames := 3, cells := 0, slots := 0, locals := 70 }
set_option maxHeartbeats 4000000 in
set_option maxRecDepth 100000 in
theorem kK_read (l : Launch) (dC : Nat → ClassId) (dI : Nat → Nat → Nat) (a : Nat → Nat) (k : Nat → ClassId) (b : sk_Ob) (t : sk_Tr) (f : sk_Fi) (wt : sk_F) (x y : Int32) (K : Nat) (hOK : sk_OK K (b, t, f)) (hco : (sk_read (b, t, f) x y).1 = 0) : Met l yK_read wzK_read rzK_read (va_Pc [.ref (a 0), .int x, .int y] (sk_PX dC dI a k (b, t, f) wt)) (va_Qi (fun r (_ : Unit) => r = (sk_read (b, t, f) x y).2) (fun _ _ => True) (fun _ => False)) 0 0 (fun _ => False) := by
  refine Met.ofW (cc := cK_read) (maxL := 5) (ret := (some .int)) (by decide) rfl ?_
  intro p e s m args below meth c s₁ B hml hv
  obtain ⟨rfl, hP, hK, hN⟩ := hv
  have hx := B.exec
  have hb := B.bytes
  have hr := B.returns
  have hts : ∀ w ∈ sk_W, w.before ([.ref (a 0), .int x, .int y] : List Value).toArray s = true := fun w h => atoms_spec (ws := wzK_read) B.pre w (List.mem_cons_of_mem _ h)
  have hown : s.vm.findClass RK = some m.cls := findClass_of_methodNamed B.named
  have hlocks := B.notSynchronized
  have hS : va_S (fun _ => False) s.heap s.heap [] := va_S.rf
  have hP : va_P (dC, dI) vwCl (sk_wR a k (nI b.1) b.2.1 b.2.2.1 b.2.2.2.1 b.2.2.2.2 (nI t.1) t.2.1 t.2.2.1 t.2.2.2.1 t.2.2.2.2 (nI f.1) (nI (sk_there f)) (nI (f.1 % 100)) f.2.1 f.2.2.1 f.2.2.2.1 f.2.2.2.2.1 (fun i => lN (sk_nb (f.2.2.2.2.2.1 i))) (fun i => sk_bI (f.2.2.2.2.2.2 i)) wt) s.heap := hP
  have hl := lv_entry ([.ref (a 0), .int x, .int y]) (n := 5) (Nat.le_of_ble_eq_true rfl)
  rw [lg_entry_eq]
  generalize (lg_sl ([.ref (a 0), .int x, .int y]) ++ List.replicate (5 - (lg_sl ([.ref (a 0), .int x, .int y])).length) Slot.unset).toArray = ls at hl ⊢
  have hl : lv_has ls 5 [(0, .ref (a 0)), (1, .int x), (2, .int y)] := hl
  have hT : sk_TO b.1 t := hOK.1
  have hA : sk_AC b.1 b.2.1 := hOK.2.1
  have hO : sk_OO b t := hOK.2.2.1
  have hmk : f.1 ≤ K := hOK.2.2.2.2.2.2.1
  have hK5 : K ≤ 512 := hOK.2.2.2.2.2.1
  have h200 : t.1 ≤ 200 := hT.2.1
  have h60 : b.1 ≤ 60 := hT.2.2.1
  have hfl : ∀ i, i < sk_there f → ∀ x ∈ f.2.2.2.2.2.1 i, x < 60 := fun i hi x hx => Nat.lt_of_lt_of_le ((hOK.2.2.2.2.2.2.2 i hi).2.2.2 x hx) h60
  refine lv_aload_n hx hb dK_read_0 rfl (lv_at hl 0 rfl) ?_
  refine va_get (D := (dC, dI)) (ci := 3) (v := .ref (a 1)) (C := RK) (T := TK) (N := 4) hx hb hts inK hown hK hP 0 rfl rfl 0 (by decide) (hts _ wfK_10) (fun _ h9 => h9) rfl dK_read_1 ?_
  refine lv_iload_n hx hb dK_read_4 rfl (lv_at hl 1 rfl) ?_
  refine va_calli (va_runVN (As := [.int x]) (rest := []) ⟨hx, hb, hml, hown, hts⟩ (kO_has l dC dI a k b t f wt x) ⟨va_cnB 1 hts (sk_gC wcO_has) rfl rfl rfl (nlmK_64 hN) (hts _ wnO) (by decide +kernel) ⟨Nat.le_of_ble_eq_true rfl, Nat.le_of_ble_eq_true rfl⟩, hts _ wiO_has, hts _ wsO_has⟩ ⟨sk_blind _, va_recv hK hP (ci := 1) (q0 := 1) rfl rfl, fun U hU hW => ⟨rfl, sk_at (S := (b, t, f)) (wt := wt) hP hK hN hU hW⟩⟩ rfl rfl hl.1 rfl (lv_room (Nat.le_of_ble_eq_true rfl)) dK_read_5 ⟨Nat.le_of_ble_eq_true rfl, Nat.le_of_ble_eq_true rfl⟩) hS (fun _ _ h => h.elim) (fun _ h => h.elim) (fun r5 u5 U9 H locs ht hvm w5 hB hz hk hS => ?_)
  have hP : va_P (dC, dI) vwCl (sk_wR a k (nI b.1) b.2.1 b.2.2.1 b.2.2.2.1 b.2.2.2.2 (nI t.1) t.2.1 t.2.2.1 t.2.2.2.1 t.2.2.2.2 (nI f.1) (nI (sk_there f)) (nI (f.1 % 100)) f.2.1 f.2.2.1 f.2.2.2.1 f.2.2.2.2.1 (fun i => lN (sk_nb (f.2.2.2.2.2.1 i))) (fun i => sk_bI (f.2.2.2.2.2.2 i)) wt) H := hP.kept (fun j q hq => hk q.1 ((hP j q hq).lt) (fun h => h))
  clear hk hB ht
  rcases sk_bI_or (sk_hasB b.1 x) with ⟨h5, hv⟩ | ⟨h5, hv⟩
  · skip
    obtain rfl : r5 = nI 1 := w5.trans hv
    obtain ⟨o, ho, eo9⟩ := (sk_hasB_iff (by omega)).mp h5
    subst eo9
    obtain ⟨hs1, hs2, hs3⟩ := sk_shOk h200 hO ho
    refine lv_if_ne (tgt := 21) hx hb dK_read_8 (by decide) (fun _ => ?_) (fun q => absurd q (by decide))
    refine lv_aload_n hx hb dK_read_21 rfl (lv_at hl 0 rfl) ?_
    refine lv_iload_n hx hb dK_read_22 rfl (lv_at hl 1 rfl) ?_
    refine lv_iload_n hx hb dK_read_23 rfl (lv_at hl 2 rfl) ?_
    refine va_calli (va_runV (As := [.int (nI o), .int y]) (rest := []) ⟨hx, hb, hml, hown, hts⟩ (kK_nearestWith l dC dI a k b t f wt (nI o) y hT hO hA (Or.inr ⟨o, ho, rfl⟩)) (cwV 2 hts (sk_gV wmK_105 wiK_nearestWith wsK_nearestWith wnK wcK_nearestWith) rfl rfl rfl (by decide +kernel) ⟨Nat.le_of_ble_eq_true rfl, Nat.le_of_ble_eq_true rfl⟩) ⟨sk_blind _, va_recv hK hP (ci := 3) (q0 := 0) rfl rfl, fun U hU hW => ⟨rfl, sk_at (S := (b, t, f)) (wt := wt) hP hK hN hU hW⟩⟩ rfl rfl hl.1 rfl (lv_room (Nat.le_of_ble_eq_true rfl)) dK_read_24 ⟨Nat.le_of_ble_eq_true rfl, Nat.le_of_ble_eq_true rfl⟩) hS (fun _ _ h => h.elim) (fun _ h => h.elim) (fun r24 u24 U9 H locs ht hvm w24 hB hz hk hS => ?_)
    have hP : va_P (dC, dI) vwCl (sk_wR a k (nI b.1) b.2.1 b.2.2.1 b.2.2.2.1 b.2.2.2.2 (nI t.1) t.2.1 t.2.2.1 t.2.2.2.1 t.2.2.2.2 (nI f.1) (nI (sk_there f)) (nI (f.1 % 100)) f.2.1 f.2.2.1 f.2.2.2.1 f.2.2.2.2.1 (fun i => lN (sk_nb (f.2.2.2.2.2.1 i))) (fun i => sk_bI (f.2.2.2.2.2.2 i)) wt) H := hP.kept (fun j q hq => hk q.1 ((hP j q hq).lt) (fun h => h))
    clear hk hB ht
    rcases sk_nwk hT hA hO ho y with hw | ⟨q, kk, hq, hw, hk, hp⟩
    · skip
      obtain rfl : r24 = -1 := w24.trans hw
      refine lv_istore_n (lv' := [(3, .int (-1)), (0, .ref (a 0)), (1, .int (nI o)), (2, .int y)]) hx hb dK_read_27 rfl hl (by decide) rfl (fun ls hl => ?_)
      refine lv_aload_n hx hb dK_read_28 rfl (lv_at hl 1 rfl) ?_
      refine lv_iload_n hx hb dK_read_29 rfl (lv_at hl 0 rfl) ?_
      refine lv_iload_n hx hb dK_read_30 rfl (lv_at hl 3 rfl) ?_
      refine va_calli (va_runV (As := [.int (-1), .int y]) (rest := []) ⟨hx, hb, hml, hown, hts⟩ (kK_ownPlace l dC dI a k b t f wt (-1) y hT hO (Or.inl rfl)) (cwV 2 hts (sk_gV wmK_108 wiK_ownPlace wsK_ownPlace wnK wcK_ownPlace) rfl rfl rfl (by decide +kernel) ⟨Nat.le_of_ble_eq_true rfl, Nat.le_of_ble_eq_true rfl⟩) ⟨sk_blind _, va_recv hK hP (ci := 3) (q0 := 0) rfl rfl, fun U hU hW => ⟨rfl, sk_at (S := (b, t, f)) (wt := wt) hP hK hN hU hW⟩⟩ rfl rfl hl.1 rfl (lv_room (Nat.le_of_ble_eq_true rfl)) dK_read_31 ⟨Nat.le_of_ble_eq_true rfl, Nat.le_of_ble_eq_true rfl⟩) hS (fun _ _ h => h.elim) (fun _ h => h.elim) (fun r31 u31 U9 H locs ht hvm w31 hB hz hk hS => ?_)
      have hP : va_P (dC, dI) vwCl (sk_wR a k (nI b.1) b.2.1 b.2.2.1 b.2.2.2.1 b.2.2.2.2 (nI t.1) t.2.1 t.2.2.1 t.2.2.2.1 t.2.2.2.2 (nI f.1) (nI (sk_there f)) (nI (f.1 % 100)) f.2.1 f.2.2.1 f.2.2.2.1 f.2.2.2.2.1 (fun i => lN (sk_nb (f.2.2.2.2.2.1 i))) (fun i => sk_bI (f.2.2.2.2.2.2 i)) wt) H := hP.kept (fun j q hq => hk q.1 ((hP j q hq).lt) (fun h => h))
      clear hk hB ht
      obtain rfl : r31 = -1 := w31.trans (if_pos rfl)
      refine lv_istore (lv' := [(4, .int (-1)), (3, .int (-1)), (0, .ref (a 0)), (1, .int (nI o)), (2, .int y)]) hx hb dK_read_34 hl (by decide) rfl (fun ls hl => ?_)
      refine lv_iload hx hb dK_read_36 (lv_at hl 0 rfl) ?_
      refine lv_iconst (v := (-1)) hx hb dK_read_38 (by decide) ?_
      refine lv_icmp_ne (tgt := 52) hx hb dK_read_39 (by decide) (fun q => absurd q (by decide)) (fun _ => ?_)
      exact absurd ((congrArg Prod.fst (sk_read_2 (f := f) h60 ho hw.symm)).symm.trans hco) (by intro q9; cases q9)
    · skip
      obtain rfl : r24 = nI q := w24.trans hw
      refine lv_istore_n (lv' := [(3, .int (nI q)), (0, .ref (a 0)), (1, .int (nI o)), (2, .int y)]) hx hb dK_read_27 rfl hl (by decide) rfl (fun ls hl => ?_)
      refine lv_aload_n hx hb dK_read_28 rfl (lv_at hl 1 rfl) ?_
      refine lv_iload_n hx hb dK_read_29 rfl (lv_at hl 0 rfl) ?_
      refine lv_iload_n hx hb dK_read_30 rfl (lv_at hl 3 rfl) ?_
      refine va_calli (va_runV (As := [.int (nI q), .int y]) (rest := []) ⟨hx, hb, hml, hown, hts⟩ (kK_ownPlace l dC dI a k b t f wt (nI q) y hT hO (Or.inr ⟨q, hq, rfl⟩)) (cwV 2 hts (sk_gV wmK_108 wiK_ownPlace wsK_ownPlace wnK wcK_ownPlace) rfl rfl rfl (by decide +kernel) ⟨Nat.le_of_ble_eq_true rfl, Nat.le_of_ble_eq_true rfl⟩) ⟨sk_blind _, va_recv hK hP (ci := 3) (q0 := 0) rfl rfl, fun U hU hW => ⟨rfl, sk_at (S := (b, t, f)) (wt := wt) hP hK hN hU hW⟩⟩ rfl rfl hl.1 rfl (lv_room (Nat.le_of_ble_eq_true rfl)) dK_read_31 ⟨Nat.le_of_ble_eq_true rfl, Nat.le_of_ble_eq_true rfl⟩) hS (fun _ _ h => h.elim) (fun _ h => h.elim) (fun r31 u31 U9 H locs ht hvm w31 hB hz hk hS => ?_)
      have hP : va_P (dC, dI) vwCl (sk_wR a k (nI b.1) b.2.1 b.2.2.1 b.2.2.2.1 b.2.2.2.2 (nI t.1) t.2.1 t.2.2.1 t.2.2.2.1 t.2.2.2.2 (nI f.1) (nI (sk_there f)) (nI (f.1 % 100)) f.2.1 f.2.2.1 f.2.2.2.1 f.2.2.2.2.1 (fun i => lN (sk_nb (f.2.2.2.2.2.1 i))) (fun i => sk_bI (f.2.2.2.2.2.2 i)) wt) H := hP.kept (fun j q hq => hk q.1 ((hP j q hq).lt) (fun h => h))
      clear hk hB ht
      obtain rfl : r31 = nI kk := w31.trans ((sk_opl_n (by omega)).trans hp)
      refine lv_istore (lv' := [(4, .int (nI kk)), (3, .int (nI q)), (0, .ref (a 0)), (1, .int (nI o)), (2, .int y)]) hx hb dK_read_34 hl (by decide) rfl (fun ls hl => ?_)
      refine lv_iload hx hb dK_read_36 (lv_at hl 0 rfl) ?_
      refine lv_iconst (v := (-1)) hx hb dK_read_38 (by decide) ?_
      refine lv_icmp_ne (tgt := 52) hx hb dK_read_39 (by decide) (fun c39 => ?_) (fun c39 => ?_)
      · skip
        refine lv_aload_n hx hb dK_read_52 rfl (lv_at hl 2 rfl) ?_
        refine va_get (D := (dC, dI)) (ci := 3) (v := .ref (a 1)) (C := RK) (T := TK) (N := 4) hx hb hts inK hown hK hP 0 rfl rfl 0 (by decide) (hts _ wfK_10) (fun _ h9 => h9) rfl dK_read_53 ?_
        refine va_getN (D := (dC, dI)) (ci := 1) (v := .ref (a 8)) (C := RO) (T := TO) (N := 5) hx hb hts inO hown hK hP 1 rfl rfl 3 (by decide) (va_Nw.use rfl (nlfK_85 hN)) (fun _ h9 => h9) rfl dK_read_56 ?_
        refine lv_iload_n hx hb dK_read_59 rfl (lv_at hl 1 rfl) ?_
        refine sk_aald hx hb hK hP (show q < 60 by omega) dK_read_60 ?_
        refine lv_iload hx hb dK_read_61 (lv_at hl 0 rfl) ?_
        refine va_iald hx hb hK hP (19 + q) 0 (sk_row_get (show q < 60 by omega)) rfl (vp_in_nI (show kk < 12 by omega) (by decide)) dK_read_63 ?_
        refine lv_topi (fun x63 e63 => ?_)
        rw [nI_clamp (show kk < 2 ^ 31 by omega)] at e63
        exact W.iret (v := x63) hx hb hr (fun U9 ht hW => ⟨⟨x63, (), rfl, e63.trans (congrArg Prod.snd (sk_read_3 (f := f) h60 ho (by omega) hk hw.symm hp)).symm, trivial⟩, hS.F ht⟩) hS.2.2 dK_read_64
      · skip
        exact absurd c39 (sk_nm1 (by omega))
  · skip
    obtain rfl : r5 = nI 0 := w5.trans hv
    refine lv_if_ne (tgt := 21) hx hb dK_read_8 (by decide) (fun q => absurd q (by decide)) (fun _ => ?_)
    exact absurd ((congrArg Prod.fst (sk_read_1 (t := t) (f := f) (y := y) h5)).symm.trans hco) (by intro q9; cases q9)
abbrev wzK_get : List Cond := .code yK_get cK_get 5 (some .int) :: sk_W
abbrev rzK_get : Room := { frames := 2, cells := 0, slots := 0, locals := 43 }
set_option maxHeartbeats 4000000 in
set_option maxRecDepth 100000 in
theorem kK_get (l : Launch) (dC : Nat → ClassId) (dI : Nat → Nat → Nat) (a : Nat → Nat) (k : Nat → ClassId) (b : sk_Ob) (t : sk_Tr) (f : sk_Fi) (wt : sk_F) (x y : Int32) (K : Nat) (hOK : sk_OK K (b, t, f)) (hco : (sk_get (b, t, f) x y).1 = 0) : Met l yK_get wzK_get rzK_get (va_Pc [.ref (a 0), .int x, .int y] (sk_PX dC dI a k (b, t, f) wt)) (va_Qi (fun r (_ : Unit) => r = (sk_get (b, t, f) x y).2) (fun _ _ => True) (fun _ => False)) 0 0 (fun _ => False) := by
  refine Met.ofW (cc := cK_get) (maxL := 5) (ret := (some .int)) (by decide) rfl ?_
  intro p e s m args below meth c s₁ B hml hv
  obtain ⟨rfl, hP, hK, hN⟩ := hv
  have hx := B.exec
  have hb := B.bytes
  have hr := B.returns
  have hts : ∀ w ∈ sk_W, w.before ([.ref (a 0), .int x, .int y] : List Value).toArray s = true := fun w h => atoms_spec (ws := wzK_get) B.pre w (List.mem_cons_of_mem _ h)
  have hown : s.vm.findClass RK = some m.cls := findClass_of_methodNamed B.named
  have hlocks := B.notSynchronized
  have hS : va_S (fun _ => False) s.heap s.heap [] := va_S.rf
  have hP : va_P (dC, dI) vwCl (sk_wR a k (nI b.1) b.2.1 b.2.2.1 b.2.2.2.1 b.2.2.2.2 (nI t.1) t.2.1 t.2.2.1 t.2.2.2.1 t.2.2.2.2 (nI f.1) (nI (sk_there f)) (nI (f.1 % 100)) f.2.1 f.2.2.1 f.2.2.2.1 f.2.2.2.2.1 (fun i => lN (sk_nb (f.2.2.2.2.2.1 i))) (fun i => sk_bI (f.2.2.2.2.2.2 i)) wt) s.heap := hP
  have hl := lv_entry ([.ref (a 0), .int x, .int y]) (n := 5) (Nat.le_of_ble_eq_true rfl)
  rw [lg_entry_eq]
  generalize (lg_sl ([.ref (a 0), .int x, .int y]) ++ List.replicate (5 - (lg_sl ([.ref (a 0), .int x, .int y])).length) Slot.unset).toArray = ls at hl ⊢
  have hl : lv_has ls 5 [(0, .ref (a 0)), (1, .int x), (2, .int y)] := hl
  have hT : sk_TO b.1 t := hOK.1
  have hA : sk_AC b.1 b.2.1 := hOK.2.1
  have hO : sk_OO b t := hOK.2.2.1
  have hmk : f.1 ≤ K := hOK.2.2.2.2.2.2.1
  have hK5 : K ≤ 512 := hOK.2.2.2.2.2.1
  have h200 : t.1 ≤ 200 := hT.2.1
  have h60 : b.1 ≤ 60 := hT.2.2.1
  have hfl : ∀ i, i < sk_there f → ∀ x ∈ f.2.2.2.2.2.1 i, x < 60 := fun i hi x hx => Nat.lt_of_lt_of_le ((hOK.2.2.2.2.2.2.2 i hi).2.2.2 x hx) h60
  have h100 : sk_there f ≤ 100 := Nat.min_le_right _ _
  refine lv_aload_n hx hb dK_get_0 rfl (lv_at hl 0 rfl) ?_
  refine va_get (D := (dC, dI)) (ci := 3) (v := .ref (a 3)) (C := RK) (T := TK) (N := 4) hx hb hts inK hown hK hP 0 rfl rfl 2 (by decide) (hts _ wfK_26) (fun _ h9 => h9) rfl dK_get_1 ?_
  refine lv_iload_n hx hb dK_get_4 rfl (lv_at hl 1 rfl) ?_
  refine va_calli (va_runVN (As := [.int x]) (rest := []) ⟨hx, hb, hml, hown, hts⟩ (kF_has l dC dI a k b t f wt x) ⟨va_cnB 1 hts (sk_gC wcF_has) rfl rfl rfl (nlmK_123 hN) (hts _ wnF) (by decide +kernel) ⟨Nat.le_of_ble_eq_true rfl, Nat.le_of_ble_eq_true rfl⟩, hts _ wiF_has, hts _ wsF_has⟩ ⟨sk_blind _, va_recv hK hP (ci := 0) (q0 := 3) rfl rfl, fun U hU hW => ⟨rfl, sk_at (S := (b, t, f)) (wt := wt) hP hK hN hU hW⟩⟩ rfl rfl hl.1 rfl (lv_room (Nat.le_of_ble_eq_true rfl)) dK_get_5 ⟨Nat.le_of_ble_eq_true rfl, Nat.le_of_ble_eq_true rfl⟩) hS (fun _ _ h => h.elim) (fun _ h => h.elim) (fun r5 u5 U9 H locs ht hvm w5 hB hz hk hS => ?_)
  have hP : va_P (dC, dI) vwCl (sk_wR a k (nI b.1) b.2.1 b.2.2.1 b.2.2.2.1 b.2.2.2.2 (nI t.1) t.2.1 t.2.2.1 t.2.2.2.1 t.2.2.2.2 (nI f.1) (nI (sk_there f)) (nI (f.1 % 100)) f.2.1 f.2.2.1 f.2.2.2.1 f.2.2.2.2.1 (fun i => lN (sk_nb (f.2.2.2.2.2.1 i))) (fun i => sk_bI (f.2.2.2.2.2.2 i)) wt) H := hP.kept (fun j q hq => hk q.1 ((hP j q hq).lt) (fun h => h))
  clear hk hB ht
  rcases sk_bI_or (sk_hasB (sk_there f) x) with ⟨h5, hv⟩ | ⟨h5, hv⟩
  · skip
    obtain rfl : r5 = nI 1 := w5.trans hv
    obtain ⟨fi, hfi, efi9⟩ := (sk_hasB_iff (by omega)).mp h5
    subst efi9
    refine lv_if_ne (tgt := 21) hx hb dK_get_8 (by decide) (fun _ => ?_) (fun q => absurd q (by decide))
    refine lv_aload_n hx hb dK_get_21 rfl (lv_at hl 0 rfl) ?_
    refine lv_iload_n hx hb dK_get_22 rfl (lv_at hl 1 rfl) ?_
    refine lv_iload_n hx hb dK_get_23 rfl (lv_at hl 2 rfl) ?_
    refine va_calli (va_runV (As := [.int (nI fi), .int y]) (rest := []) ⟨hx, hb, hml, hown, hts⟩ (kK_holds l dC dI a k b t f wt (nI fi) y K hOK) (cwV 2 hts (sk_gV wmK_131 wiK_holds wsK_holds wnK wcK_holds) rfl rfl rfl (by decide +kernel) ⟨Nat.le_of_ble_eq_true rfl, Nat.le_of_ble_eq_true rfl⟩) ⟨sk_blind _, va_recv hK hP (ci := 3) (q0 := 0) rfl rfl, fun U hU hW => ⟨rfl, sk_at (S := (b, t, f)) (wt := wt) hP hK hN hU hW⟩⟩ rfl rfl hl.1 rfl (lv_room (Nat.le_of_ble_eq_true rfl)) dK_get_24 ⟨Nat.le_of_ble_eq_true rfl, Nat.le_of_ble_eq_true rfl⟩) hS (fun _ _ h => h.elim) (fun _ h => h.elim) (fun r24 u24 U9 H locs ht hvm w24 hB hz hk hS => ?_)
    have hP : va_P (dC, dI) vwCl (sk_wR a k (nI b.1) b.2.1 b.2.2.1 b.2.2.2.1 b.2.2.2.2 (nI t.1) t.2.1 t.2.2.1 t.2.2.2.1 t.2.2.2.2 (nI f.1) (nI (sk_there f)) (nI (f.1 % 100)) f.2.1 f.2.2.1 f.2.2.2.1 f.2.2.2.2.1 (fun i => lN (sk_nb (f.2.2.2.2.2.1 i))) (fun i => sk_bI (f.2.2.2.2.2.2 i)) wt) H := hP.kept (fun j q hq => hk q.1 ((hP j q hq).lt) (fun h => h))
    clear hk hB ht
    rcases sk_bI_or (sk_holds (b, t, f) (nI fi) y) with ⟨h24, hv⟩ | ⟨h24, hv⟩
    · skip
      obtain rfl : r24 = nI 1 := w24.trans hv
      refine lv_if_ne (tgt := 40) hx hb dK_get_27 (by decide) (fun _ => ?_) (fun q => absurd q (by decide))
      obtain ⟨o, ho, rfl, hg3⟩ := sk_getk hOK hfi h24
      refine lv_aload_n hx hb dK_get_40 rfl (lv_at hl 0 rfl) ?_
      rcases hg3 with hpl | ⟨k9, hk9, hpl, hho⟩ | ⟨x9, k9, hx9, hk9, hpl, hho⟩
      · skip
        refine va_get (D := (dC, dI)) (ci := 3) (v := .ref (a 3)) (C := RK) (T := TK) (N := 4) hx hb hts inK hown hK hP 0 rfl rfl 2 (by decide) (hts _ wfK_26) (fun _ h9 => h9) rfl dK_get_41 ?_
        refine va_getN (D := (dC, dI)) (ci := 0) (v := .ref (a 16)) (C := RF) (T := TF) (N := 9) hx hb hts inF hown hK hP 3 rfl rfl 3 (by decide) (va_Nw.use rfl (nlfK_136 hN)) (fun _ h9 => h9) rfl dK_get_44 ?_
        refine lv_iload_n hx hb dK_get_47 rfl (lv_at hl 1 rfl) ?_
        refine va_iald hx hb hK hP 16 0 rfl rfl (vp_in_nI (show fi < 100 by omega) (by decide)) dK_get_48 ?_
        refine lv_topi (fun x48 e48 => ?_)
        rw [nI_clamp (show fi < 2 ^ 31 by omega)] at e48
        obtain rfl : x48 = (-1) := e48.trans (hpl)
        refine lv_istore_n (lv' := [(3, .int (-1)), (0, .ref (a 0)), (1, .int (nI fi)), (2, .int (nI o))]) hx hb dK_get_49 rfl hl (by decide) rfl (fun ls hl => ?_)
        refine lv_iload_n hx hb dK_get_50 rfl (lv_at hl 0 rfl) ?_
        refine lv_iconst (v := (-1)) hx hb dK_get_51 (by decide) ?_
        refine lv_icmp_ne (tgt := 65) hx hb dK_get_52 (by decide) (fun q => absurd q (by decide)) (fun _ => ?_)
        exact absurd ((congrArg Prod.fst (sk_getC (b := b) (t := t) (by omega) h5 hv.symm hpl)).symm.trans hco) (by intro q9; cases q9)
      · skip
        refine va_get (D := (dC, dI)) (ci := 3) (v := .ref (a 3)) (C := RK) (T := TK) (N := 4) hx hb hts inK hown hK hP 0 rfl rfl 2 (by decide) (hts _ wfK_26) (fun _ h9 => h9) rfl dK_get_41 ?_
        refine va_getN (D := (dC, dI)) (ci := 0) (v := .ref (a 16)) (C := RF) (T := TF) (N := 9) hx hb hts inF hown hK hP 3 rfl rfl 3 (by decide) (va_Nw.use rfl (nlfK_136 hN)) (fun _ h9 => h9) rfl dK_get_44 ?_
        refine lv_iload_n hx hb dK_get_47 rfl (lv_at hl 1 rfl) ?_
        refine va_iald hx hb hK hP 16 0 rfl rfl (vp_in_nI (show fi < 100 by omega) (by decide)) dK_get_48 ?_
        refine lv_topi (fun x48 e48 => ?_)
        rw [nI_clamp (show fi < 2 ^ 31 by omega)] at e48
        obtain rfl : x48 = nI k9 := e48.trans (hpl)
        refine lv_istore_n (lv' := [(3, .int (nI k9)), (0, .ref (a 0)), (1, .int (nI fi)), (2, .int (nI o))]) hx hb dK_get_49 rfl hl (by decide) rfl (fun ls hl => ?_)
        refine lv_iload_n hx hb dK_get_50 rfl (lv_at hl 0 rfl) ?_
        refine lv_iconst (v := (-1)) hx hb dK_get_51 (by decide) ?_
        refine lv_icmp_ne (tgt := 65) hx hb dK_get_52 (by decide) (fun c52 => ?_) (fun c52 => ?_)
        · skip
          refine lv_aload_n hx hb dK_get_65 rfl (lv_at hl 1 rfl) ?_
          refine va_get (D := (dC, dI)) (ci := 3) (v := .ref (a 3)) (C := RK) (T := TK) (N := 4) hx hb hts inK hown hK hP 0 rfl rfl 2 (by decide) (hts _ wfK_26) (fun _ h9 => h9) rfl dK_get_66 ?_
          refine va_getN (D := (dC, dI)) (ci := 0) (v := .ref (a 15)) (C := RF) (T := TF) (N := 9) hx hb hts inF hown hK hP 3 rfl rfl 2 (by decide) (va_Nw.use rfl (nlfK_139 hN)) (fun _ h9 => h9) rfl dK_get_69 ?_
          refine lv_iload_n hx hb dK_get_72 rfl (lv_at hl 2 rfl) ?_
          refine va_iald hx hb hK hP 15 0 rfl rfl (vp_in_nI (show fi < 100 by omega) (by decide)) dK_get_73 ?_
          refine lv_topi (fun x73 e73 => ?_)
          rw [nI_clamp (show fi < 2 ^ 31 by omega)] at e73
          obtain rfl : x73 = (-1) := e73.trans (hho)
          refine lv_istore (lv' := [(4, .int (-1)), (3, .int (nI k9)), (0, .ref (a 0)), (1, .int (nI fi)), (2, .int (nI o))]) hx hb dK_get_74 hl (by decide) rfl (fun ls hl => ?_)
          refine lv_aload_n hx hb dK_get_76 rfl (lv_at hl 2 rfl) ?_
          refine va_get (D := (dC, dI)) (ci := 3) (v := .ref (a 1)) (C := RK) (T := TK) (N := 4) hx hb hts inK hown hK hP 0 rfl rfl 0 (by decide) (hts _ wfK_10) (fun _ h9 => h9) rfl dK_get_77 ?_
          refine va_getN (D := (dC, dI)) (ci := 1) (v := .ref (a 8)) (C := RO) (T := TO) (N := 5) hx hb hts inO hown hK hP 1 rfl rfl 3 (by decide) (va_Nw.use rfl (nlfK_85 hN)) (fun _ h9 => h9) rfl dK_get_80 ?_
          refine lv_iload hx hb dK_get_83 (lv_at hl 0 rfl) ?_
          refine lv_iconst (v := (-1)) hx hb dK_get_85 (by decide) ?_
          refine lv_icmp_ne (tgt := 93) hx hb dK_get_86 (by decide) (fun q => absurd q (by decide)) (fun _ => ?_)
          refine lv_iload_n hx hb dK_get_89 rfl (lv_at hl 4 rfl) ?_
          refine lv_goto (tgt := 95) hx hb dK_get_90 (by decide) ?_
          refine sk_aald hx hb hK hP (show o < 60 by omega) dK_get_95 ?_
          refine lv_iload_n hx hb dK_get_96 rfl (lv_at hl 1 rfl) ?_
          refine va_iald hx hb hK hP (19 + o) 0 (sk_row_get (show o < 60 by omega)) rfl (vp_in_nI (show k9 < 12 by omega) (by decide)) dK_get_97 ?_
          refine lv_topi (fun x97 e97 => ?_)
          rw [nI_clamp (show k9 < 2 ^ 31 by omega)] at e97
          exact W.iret (v := x97) hx hb hr (fun U9 ht hW => ⟨⟨x97, (), rfl, e97.trans (congrArg Prod.snd (sk_getA (b := b) (t := t) (by omega) (by omega) hk9 h5 hv.symm hpl hho)).symm, trivial⟩, hS.F ht⟩) hS.2.2 dK_get_98
        · skip
          exact absurd c52 (sk_nm1 (by omega))
      · skip
        refine va_get (D := (dC, dI)) (ci := 3) (v := .ref (a 3)) (C := RK) (T := TK) (N := 4) hx hb hts inK hown hK hP 0 rfl rfl 2 (by decide) (hts _ wfK_26) (fun _ h9 => h9) rfl dK_get_41 ?_
        refine va_getN (D := (dC, dI)) (ci := 0) (v := .ref (a 16)) (C := RF) (T := TF) (N := 9) hx hb hts inF hown hK hP 3 rfl rfl 3 (by decide) (va_Nw.use rfl (nlfK_136 hN)) (fun _ h9 => h9) rfl dK_get_44 ?_
        refine lv_iload_n hx hb dK_get_47 rfl (lv_at hl 1 rfl) ?_
        refine va_iald hx hb hK hP 16 0 rfl rfl (vp_in_nI (show fi < 100 by omega) (by decide)) dK_get_48 ?_
        refine lv_topi (fun x48 e48 => ?_)
        rw [nI_clamp (show fi < 2 ^ 31 by omega)] at e48
        obtain rfl : x48 = nI k9 := e48.trans (hpl)
        refine lv_istore_n (lv' := [(3, .int (nI k9)), (0, .ref (a 0)), (1, .int (nI fi)), (2, .int (nI o))]) hx hb dK_get_49 rfl hl (by decide) rfl (fun ls hl => ?_)
        refine lv_iload_n hx hb dK_get_50 rfl (lv_at hl 0 rfl) ?_
        refine lv_iconst (v := (-1)) hx hb dK_get_51 (by decide) ?_
        refine lv_icmp_ne (tgt := 65) hx hb dK_get_52 (by decide) (fun c52 => ?_) (fun c52 => ?_)
        · skip
          refine lv_aload_n hx hb dK_get_65 rfl (lv_at hl 1 rfl) ?_
          refine va_get (D := (dC, dI)) (ci := 3) (v := .ref (a 3)) (C := RK) (T := TK) (N := 4) hx hb hts inK hown hK hP 0 rfl rfl 2 (by decide) (hts _ wfK_26) (fun _ h9 => h9) rfl dK_get_66 ?_
          refine va_getN (D := (dC, dI)) (ci := 0) (v := .ref (a 15)) (C := RF) (T := TF) (N := 9) hx hb hts inF hown hK hP 3 rfl rfl 2 (by decide) (va_Nw.use rfl (nlfK_139 hN)) (fun _ h9 => h9) rfl dK_get_69 ?_
          refine lv_iload_n hx hb dK_get_72 rfl (lv_at hl 2 rfl) ?_
          refine va_iald hx hb hK hP 15 0 rfl rfl (vp_in_nI (show fi < 100 by omega) (by decide)) dK_get_73 ?_
          refine lv_topi (fun x73 e73 => ?_)
          rw [nI_clamp (show fi < 2 ^ 31 by omega)] at e73
          obtain rfl : x73 = nI x9 := e73.trans (hho)
          refine lv_istore (lv' := [(4, .int (nI x9)), (3, .int (nI k9)), (0, .ref (a 0)), (1, .int (nI fi)), (2, .int (nI o))]) hx hb dK_get_74 hl (by decide) rfl (fun ls hl => ?_)
          refine lv_aload_n hx hb dK_get_76 rfl (lv_at hl 2 rfl) ?_
          refine va_get (D := (dC, dI)) (ci := 3) (v := .ref (a 1)) (C := RK) (T := TK) (N := 4) hx hb hts inK hown hK hP 0 rfl rfl 0 (by decide) (hts _ wfK_10) (fun _ h9 => h9) rfl dK_get_77 ?_
          refine va_getN (D := (dC, dI)) (ci := 1) (v := .ref (a 8)) (C := RO) (T := TO) (N := 5) hx hb hts inO hown hK hP 1 rfl rfl 3 (by decide) (va_Nw.use rfl (nlfK_85 hN)) (fun _ h9 => h9) rfl dK_get_80 ?_
          refine lv_iload hx hb dK_get_83 (lv_at hl 0 rfl) ?_
          refine lv_iconst (v := (-1)) hx hb dK_get_85 (by decide) ?_
          refine lv_icmp_ne (tgt := 93) hx hb dK_get_86 (by decide) (fun c86 => ?_) (fun c86 => ?_)
          · skip
            refine lv_iload hx hb dK_get_93 (lv_at hl 0 rfl) ?_
            refine sk_aald hx hb hK hP (show x9 < 60 by omega) dK_get_95 ?_
            refine lv_iload_n hx hb dK_get_96 rfl (lv_at hl 1 rfl) ?_
            refine va_iald hx hb hK hP (19 + x9) 0 (sk_row_get (show x9 < 60 by omega)) rfl (vp_in_nI (show k9 < 12 by omega) (by decide)) dK_get_97 ?_
            refine lv_topi (fun x97 e97 => ?_)
            rw [nI_clamp (show k9 < 2 ^ 31 by omega)] at e97
            exact W.iret (v := x97) hx hb hr (fun U9 ht hW => ⟨⟨x97, (), rfl, e97.trans (congrArg Prod.snd (sk_getB (b := b) (t := t) (by omega) (by omega) hk9 h5 hv.symm hpl hho)).symm, trivial⟩, hS.F ht⟩) hS.2.2 dK_get_98
          · skip
            exact absurd c86 (sk_nm1 (by omega))
        · skip
          exact absurd c52 (sk_nm1 (by omega))
    · skip
      obtain rfl : r24 = nI 0 := w24.trans hv
      refine lv_if_ne (tgt := 40) hx hb dK_get_27 (by decide) (fun q => absurd q (by decide)) (fun _ => ?_)
      exact absurd ((congrArg Prod.fst (sk_get_2 (b := b) (t := t) (f := f) h5 hv.symm)).symm.trans hco) (by intro q9; cases q9)
  · skip
    obtain rfl : r5 = nI 0 := w5.trans hv
    refine lv_if_ne (tgt := 21) hx hb dK_get_8 (by decide) (fun q => absurd q (by decide)) (fun _ => ?_)
    exact absurd ((congrArg Prod.fst (sk_get_1 (b := b) (t := t) (y := y) h5)).symm.trans hco) (by intro q9; cases q9)
