abbrev wzT_reach : List Cond := .code yT_reach cT_reach 8 (some .int) :: sk_W
abbrev rzT_reach : Room := { frames := 2, cells := 0, slots := 0, locals := 47 }
set_option maxHeartbeats 4000000 in
set_option maxRecDepth 100000 in
theorem kT_reach (l : Launch) (dC : Nat → ClassId) (dI : Nat → Nat → Nat) (a : Nat → Nat) (k : Nat → ClassId) (b : sk_Ob) (t : sk_Tr) (f : sk_Fi) (wt : sk_F) (A : Nat → Prop) (x : Int32) (ns : List Int32) (hT : sk_TO b.1 t) (hns : ns.length ≤ 12) (hrow : ∀ j, j < ns.length → wt j = ns.getD j 0) : Met l yT_reach wzT_reach rzT_reach (va_Pc [.ref (a 2), .int x, .ref (a 4), .int (nI ns.length)] (fun U => sk_PX dC dI a k (b, t, f) wt U ∧ va_D A (sk_wX a k (b, t, f) wt))) (va_Qi (fun r (u : sk_S × sk_F) => (sk_reach t x ns = none ∧ r = -1 ∧ u = ((b, t, f), wt)) ∨ ∃ t2 g, sk_reach t x ns = some (t2, g) ∧ r = nI g ∧ u = ((b, t2, f), wt)) (fun u U => va_P (dC, dI) vwCl (sk_wX a k u.1 u.2) U.heap ∧ va_D A (sk_wX a k u.1 u.2)) A) 0 0 A := by
  refine Met.ofW (cc := cT_reach) (maxL := 8) (ret := (some .int)) (by decide) rfl ?_
  intro p e s m args below meth c s₁ B hml hv
  obtain ⟨rfl, ⟨hP, hK, hN⟩, hD⟩ := hv
  have hx := B.exec
  have hb := B.bytes
  have hr := B.returns
  have hts : ∀ w ∈ sk_W, w.before ([.ref (a 2), .int x, .ref (a 4), .int (nI ns.length)] : List Value).toArray s = true := fun w h => atoms_spec (ws := wzT_reach) B.pre w (List.mem_cons_of_mem _ h)
  have hown : s.vm.findClass RT = some m.cls := findClass_of_methodNamed B.named
  have hlocks := B.notSynchronized
  have hS : va_S A s.heap s.heap [] := va_S.rf
  have hP : va_P (dC, dI) vwCl (sk_wR a k (nI b.1) b.2.1 b.2.2.1 b.2.2.2.1 b.2.2.2.2 (nI t.1) t.2.1 t.2.2.1 t.2.2.2.1 t.2.2.2.2 (nI f.1) (nI (sk_there f)) (nI (f.1 % 100)) f.2.1 f.2.2.1 f.2.2.2.1 f.2.2.2.2.1 (fun i => lN (sk_nb (f.2.2.2.2.2.1 i))) (fun i => sk_bI (f.2.2.2.2.2.2 i)) wt) s.heap := hP
  have hD : va_D A (sk_wR a k (nI b.1) b.2.1 b.2.2.1 b.2.2.2.1 b.2.2.2.2 (nI t.1) t.2.1 t.2.2.1 t.2.2.2.1 t.2.2.2.2 (nI f.1) (nI (sk_there f)) (nI (f.1 % 100)) f.2.1 f.2.2.1 f.2.2.2.1 f.2.2.2.2.1 (fun i => lN (sk_nb (f.2.2.2.2.2.1 i))) (fun i => sk_bI (f.2.2.2.2.2.2 i)) wt) := hD
  have hl := lv_entry ([.ref (a 2), .int x, .ref (a 4), .int (nI ns.length)]) (n := 8) (Nat.le_of_ble_eq_true rfl)
  rw [lg_entry_eq]
  generalize (lg_sl ([.ref (a 2), .int x, .ref (a 4), .int (nI ns.length)]) ++ List.replicate (8 - (lg_sl ([.ref (a 2), .int x, .ref (a 4), .int (nI ns.length)])).length) Slot.unset).toArray = ls at hl ⊢
  have hl : lv_has ls 8 [(0, .ref (a 2)), (1, .int x), (2, .ref (a 4)), (3, .int (nI ns.length))] := hl
  have h200 : t.1 ≤ 200 := hT.2.1
  have h60 : b.1 ≤ 60 := hT.2.2.1
  refine lv_aload_n hx hb dT_reach_0 rfl (lv_at hl 0 rfl) ?_
  refine lv_iload_n hx hb dT_reach_1 rfl (lv_at hl 1 rfl) ?_
  refine va_calli (va_runV (As := [.int x]) (rest := []) ⟨hx, hb, hml, hown, hts⟩ (kT_emptyOf l dC dI a k b t f wt x hT) (cwV 1 hts (sk_gV wmT_35 wiT_emptyOf wsT_emptyOf wnT wcT_emptyOf) rfl rfl rfl (by decide +kernel) ⟨Nat.le_of_ble_eq_true rfl, Nat.le_of_ble_eq_true rfl⟩) ⟨sk_blind _, va_recv hK hP (ci := 2) (q0 := 2) rfl rfl, fun U hU hW => ⟨rfl, sk_at (S := (b, t, f)) (wt := wt) hP hK hN hU hW⟩⟩ rfl rfl hl.1 rfl (lv_room (Nat.le_of_ble_eq_true rfl)) dT_reach_2 ⟨Nat.le_of_ble_eq_true rfl, Nat.le_of_ble_eq_true rfl⟩) hS (fun _ _ h => h.elim) (fun _ h => h.elim) (fun r2 u2 U9 H locs ht hvm w2 hB hz hk hS => ?_)
  have hP : va_P (dC, dI) vwCl (sk_wR a k (nI b.1) b.2.1 b.2.2.1 b.2.2.2.1 b.2.2.2.2 (nI t.1) t.2.1 t.2.2.1 t.2.2.2.1 t.2.2.2.2 (nI f.1) (nI (sk_there f)) (nI (f.1 % 100)) f.2.1 f.2.2.1 f.2.2.2.1 f.2.2.2.2.1 (fun i => lN (sk_nb (f.2.2.2.2.2.1 i))) (fun i => sk_bI (f.2.2.2.2.2.2 i)) wt) H := hP.kept (fun j q hq => hk q.1 ((hP j q hq).lt) (fun h => h))
  clear hk hB ht
  rcases sk_em_spec t x with ⟨hem, -⟩ | ⟨q0, hq0, hem, -, -⟩
  · skip
    obtain rfl : r2 = -1 := w2.trans hem
    refine lv_istore (lv' := [(4, .int (-1)), (0, .ref (a 2)), (1, .int x), (2, .ref (a 4)), (3, .int (nI ns.length))]) hx hb dT_reach_5 hl (by decide) rfl (fun ls hl => ?_)
    refine lv_iconst (v := nI 0) hx hb dT_reach_7 (by decide) ?_
    refine lv_istore (lv' := [(5, .int (nI 0)), (4, .int (-1)), (0, .ref (a 2)), (1, .int x), (2, .ref (a 4)), (3, .int (nI ns.length))]) hx hb dT_reach_8 hl (by decide) rfl (fun ls hl => ?_)
    refine lv_iconst (v := nI 0) hx hb dT_reach_10 (by decide) ?_
    refine lv_istore (lv' := [(6, .int (nI 0)), (5, .int (nI 0)), (4, .int (-1)), (0, .ref (a 2)), (1, .int x), (2, .ref (a 4)), (3, .int (nI ns.length))]) hx hb dT_reach_11 hl (by decide) rfl (fun ls hl => ?_)
    refine lv_iload hx hb dT_reach_13 (lv_at hl 2 rfl) ?_
    refine lv_iconst (v := (-1)) hx hb dT_reach_15 (by decide) ?_
    refine lv_icmp_eq (tgt := 59) hx hb dT_reach_16 (by decide) (fun _ => ?_) (fun q => absurd (by decide) q)
    refine lv_iload_n hx hb dT_reach_59 rfl (lv_at hl 6 rfl) ?_
    refine lv_iload hx hb dT_reach_60 (lv_at hl 1 rfl) ?_
    refine lv_isub hx hb dT_reach_62 ?_
    refine lv_topi (fun x62 e62 => ?_)
    obtain rfl : x62 = nI (ns.length - 0) := e62.trans (pk_sub (by omega))
    refine lv_iload hx hb dT_reach_63 (lv_at hl 2 rfl) ?_
    refine lv_iconst (v := (-1)) hx hb dT_reach_65 (by decide) ?_
    refine lv_icmp_ne (tgt := 73) hx hb dT_reach_66 (by decide) (fun q => absurd q (by decide)) (fun _ => ?_)
    refine lv_iconst (v := nI 1) hx hb dT_reach_69 (by decide) ?_
    refine lv_goto (tgt := 74) hx hb dT_reach_70 (by decide) ?_
    refine lv_iadd hx hb dT_reach_74 ?_
    refine lv_topi (fun x74 e74 => ?_)
    obtain rfl : x74 = nI ((ns.length - 0) + 1) := e74.trans (nI_add _ _)
    refine lv_istore (lv' := [(6, .int (nI ((ns.length - 0) + 1))), (5, .int (nI 0)), (4, .int (-1)), (0, .ref (a 2)), (1, .int x), (2, .ref (a 4)), (3, .int (nI ns.length))]) hx hb dT_reach_75 hl (by decide) rfl (fun ls hl => ?_)
    refine lv_iload hx hb dT_reach_77 (lv_at hl 0 rfl) ?_
    refine lv_sipush (v := nI 200) hx hb dT_reach_79 (by decide) ?_
    refine lv_aload_n hx hb dT_reach_82 rfl (lv_at hl 3 rfl) ?_
    refine va_get (D := (dC, dI)) (ci := 2) (v := .int (nI t.1)) (C := RT) (T := TT) (N := 5) hx hb hts inT hown hK hP 2 rfl rfl 4 (by decide) (hts _ wfT_24) (fun _ h9 => h9) rfl dT_reach_83 ?_
    refine lv_isub hx hb dT_reach_86 ?_
    refine lv_topi (fun x86 e86 => ?_)
    obtain rfl : x86 = nI (200 - t.1) := e86.trans (pk_sub (by omega))
    refine lv_icmp_le (tgt := 92) hx hb dT_reach_87 (by decide) (fun c87 => ?_) (fun c87 => ?_)
    · skip
      have n87 : ((ns.length - 0) + 1) ≤ (200 - t.1) := (nI_leI (a := ((ns.length - 0) + 1)) (b := (200 - t.1)) (by omega) (by omega)).mp c87
      refine lv_iload hx hb dT_reach_92 (lv_at hl 2 rfl) ?_
      refine lv_iconst (v := (-1)) hx hb dT_reach_94 (by decide) ?_
      refine lv_icmp_ne (tgt := 105) hx hb dT_reach_95 (by decide) (fun q => absurd q (by decide)) (fun _ => ?_)
      refine lv_aload_n hx hb dT_reach_98 rfl (lv_at hl 3 rfl) ?_
      refine lv_iload_n hx hb dT_reach_99 rfl (lv_at hl 4 rfl) ?_
      refine va_calli (va_runV (As := [.int x]) (rest := []) ⟨hx, hb, hml, hown, hts⟩ (kT_makeEmpty l dC dI a k b t f wt A x (by omega)) (cwV 1 hts (sk_gV wmT_39 wiT_makeEmpty wsT_makeEmpty wnT wcT_makeEmpty) rfl rfl rfl (by decide +kernel) ⟨Nat.le_of_ble_eq_true rfl, Nat.le_of_ble_eq_true rfl⟩) ⟨sk_blindD _, va_recv hK hP (ci := 2) (q0 := 2) rfl rfl, fun U hU hW => ⟨rfl, sk_at (S := (b, t, f)) (wt := wt) hP hK hN hU hW, hD⟩⟩ rfl rfl hl.1 rfl (lv_room (Nat.le_of_ble_eq_true rfl)) dT_reach_100 ⟨Nat.le_of_ble_eq_true rfl, Nat.le_of_ble_eq_true rfl⟩) hS (fun _ _ h => h) (fun _ h => h) (fun r100 u100 U9 H locs ht hvm w100 hB hz hk hS => ?_)
      obtain ⟨hP, hD⟩ := hB
      rw [ht] at hP
      obtain ⟨rfl, rfl⟩ := w100
      have hP : va_P (dC, dI) vwCl (sk_wR a k (nI b.1) b.2.1 b.2.2.1 b.2.2.2.1 b.2.2.2.2 (nI (sk_make t x (-1) (-1) 0).1) ((sk_make t x (-1) (-1) 0).2.1) ((sk_make t x (-1) (-1) 0).2.2.1) ((sk_make t x (-1) (-1) 0).2.2.2.1) ((sk_make t x (-1) (-1) 0).2.2.2.2) (nI f.1) (nI (sk_there f)) (nI (f.1 % 100)) f.2.1 f.2.2.1 f.2.2.2.1 f.2.2.2.2.1 (fun i => lN (sk_nb (f.2.2.2.2.2.1 i))) (fun i => sk_bI (f.2.2.2.2.2.2 i)) wt) H := hP
      have hD : va_D A (sk_wR a k (nI b.1) b.2.1 b.2.2.1 b.2.2.2.1 b.2.2.2.2 (nI (sk_make t x (-1) (-1) 0).1) ((sk_make t x (-1) (-1) 0).2.1) ((sk_make t x (-1) (-1) 0).2.2.1) ((sk_make t x (-1) (-1) 0).2.2.2.1) ((sk_make t x (-1) (-1) 0).2.2.2.2) (nI f.1) (nI (sk_there f)) (nI (f.1 % 100)) f.2.1 f.2.2.1 f.2.2.2.1 f.2.2.2.2.1 (fun i => lN (sk_nb (f.2.2.2.2.2.1 i))) (fun i => sk_bI (f.2.2.2.2.2.2 i)) wt) := hD
      refine lv_istore (lv' := [(4, .int (nI t.1)), (6, .int (nI ((ns.length - 0) + 1))), (5, .int (nI 0)), (0, .ref (a 2)), (1, .int x), (2, .ref (a 4)), (3, .int (nI ns.length))]) hx hb dT_reach_103 hl (by decide) rfl (fun ls hl => ?_)
      refine lv_iload hx hb dT_reach_105 (lv_at hl 2 rfl) ?_
      refine lv_istore (lv' := [(7, .int (nI 0)), (4, .int (nI t.1)), (6, .int (nI ((ns.length - 0) + 1))), (5, .int (nI 0)), (0, .ref (a 2)), (1, .int x), (2, .ref (a 4)), (3, .int (nI ns.length))]) hx hb dT_reach_107 hl (by decide) rfl (fun ls hl => ?_)
      have loop2 : ∀ (nn : Nat) (j q2 : Nat) (t2 : sk_Tr), j ≤ ns.length → q2 < t2.1 → t2.1 + (ns.length - j) ≤ 200 → sk_reach t x ns = some (sk_mk t2 q2 (ns.drop j)) → ns.length - j < nn → ∀ (H : Heap) (locs : List Loc), va_P (dC, dI) vwCl (sk_wR a k (nI b.1) b.2.1 b.2.2.1 b.2.2.2.1 b.2.2.2.2 (nI t2.1) t2.2.1 t2.2.2.1 t2.2.2.2.1 t2.2.2.2.2 (nI f.1) (nI (sk_there f)) (nI (f.1 % 100)) f.2.1 f.2.2.1 f.2.2.2.1 f.2.2.2.2.1 (fun i => lN (sk_nb (f.2.2.2.2.2.1 i))) (fun i => sk_bI (f.2.2.2.2.2.2 i)) wt) H → va_D A (sk_wR a k (nI b.1) b.2.1 b.2.2.1 b.2.2.2.1 b.2.2.2.2 (nI t2.1) t2.2.1 t2.2.2.1 t2.2.2.2.1 t2.2.2.2.2 (nI f.1) (nI (sk_there f)) (nI (f.1 % 100)) f.2.1 f.2.2.1 f.2.2.2.1 f.2.2.2.2.1 (fun i => lN (sk_nb (f.2.2.2.2.2.1 i))) (fun i => sk_bI (f.2.2.2.2.2.2 i)) wt) → va_S A s.heap H locs → ∀ ls : Array Slot, lv_has ls 8 [(7, .int (nI j)), (4, .int (nI q2)), (0, .ref (a 2)), (2, .ref (a 4)), (3, .int (nI ns.length))] → W p l e (headSpec wzT_reach rzT_reach).room s m ([.ref (a 2), .int x, .ref (a 4), .int (nI ns.length)] : List Value).toArray below meth c H locs 0 0 (MQ below (va_Qi (fun r (u : sk_S × sk_F) => (sk_reach t x ns = none ∧ r = -1 ∧ u = ((b, t, f), wt)) ∨ ∃ t2 g, sk_reach t x ns = some (t2, g) ∧ r = nI g ∧ u = ((b, t2, f), wt)) (fun u U => va_P (dC, dI) vwCl (sk_wX a k u.1 u.2) U.heap ∧ va_D A (sk_wX a k u.1 u.2)) A) ([.ref (a 2), .int x, .ref (a 4), .int (nI ns.length)] : List Value).toArray s 0 0 A) (F0 m 109 ls []) := by
        intro nn
        induction nn with
        | zero => intro j q2 t2 hj hq2 hcap hm hmu; exact absurd hmu (Nat.not_lt_zero _)
        | succ nn ih2 =>
          intro j q2 t2 hj hq2 hcap hm hmu H locs hP hD hS ls hl
          refine lv_iload hx hb dT_reach_109 (lv_at hl 0 rfl) ?_
          refine lv_iload_n hx hb dT_reach_111 rfl (lv_at hl 4 rfl) ?_
          refine lv_icmp_ge (tgt := 133) hx hb dT_reach_112 (by decide) (fun c112 => ?_) (fun c112 => ?_)
          · skip
            have n112 : ns.length ≤ j := (nI_leI (a := ns.length) (b := j) (by omega) (by omega)).mp c112
            refine lv_iload hx hb dT_reach_133 (lv_at hl 1 rfl) ?_
            exact W.iret (v := nI q2) hx hb hr (fun U9 ht hW => ⟨⟨nI q2, ((b, t2, f), wt), rfl, Or.inr ⟨t2, q2, by rw [hm, sk_mk_end n112], rfl, rfl⟩, sk_endw ht hP hD⟩, hS.F ht⟩) hS.2.2 dT_reach_135
          · skip
            have n112 : ¬ ns.length ≤ j := fun z9 => c112 ((nI_leI (a := ns.length) (b := j) (by omega) (by omega)).mpr z9)
            refine lv_aload_n hx hb dT_reach_115 rfl (lv_at hl 2 rfl) ?_
            refine lv_iload hx hb dT_reach_116 (lv_at hl 1 rfl) ?_
            refine lv_aload_n hx hb dT_reach_118 rfl (lv_at hl 3 rfl) ?_
            refine lv_iload hx hb dT_reach_119 (lv_at hl 0 rfl) ?_
            refine va_iald hx hb hK hP 4 0 rfl rfl (vp_in_nI (show j < 12 by omega) (by decide)) dT_reach_121 ?_
            refine lv_topi (fun x121 e121 => ?_)
            rw [nI_clamp (show j < 2 ^ 31 by omega)] at e121
            obtain rfl : x121 = ns.getD j 0 := e121.trans (hrow j (by omega))
            refine va_calli (va_runV (As := [.int (nI q2), .int (ns.getD j 0)]) (rest := []) ⟨hx, hb, hml, hown, hts⟩ (kT_makeWith l dC dI a k b t2 f wt A q2 (ns.getD j 0) hq2 (by omega)) (cwV 2 hts (sk_gV wmT_32 wiT_makeWith wsT_makeWith wnT wcT_makeWith) rfl rfl rfl (by decide +kernel) ⟨Nat.le_of_ble_eq_true rfl, Nat.le_of_ble_eq_true rfl⟩) ⟨sk_blindD _, va_recv hK hP (ci := 2) (q0 := 2) rfl rfl, fun U hU hW => ⟨rfl, sk_at (S := (b, t2, f)) (wt := wt) hP hK hN hU hW, hD⟩⟩ rfl rfl hl.1 rfl (lv_room (Nat.le_of_ble_eq_true rfl)) dT_reach_122 ⟨Nat.le_of_ble_eq_true rfl, Nat.le_of_ble_eq_true rfl⟩) hS (fun _ _ h => h) (fun _ h => h) (fun r122 u122 U9 H locs ht hvm w122 hB hz hk hS => ?_)
            obtain ⟨hP, hD⟩ := hB
            rw [ht] at hP
            obtain ⟨rfl, rfl⟩ := w122
            have hP : va_P (dC, dI) vwCl (sk_wR a k (nI b.1) b.2.1 b.2.2.1 b.2.2.2.1 b.2.2.2.2 (nI (sk_grow1 t2 q2 (ns.getD j 0)).1) ((sk_grow1 t2 q2 (ns.getD j 0)).2.1) ((sk_grow1 t2 q2 (ns.getD j 0)).2.2.1) ((sk_grow1 t2 q2 (ns.getD j 0)).2.2.2.1) ((sk_grow1 t2 q2 (ns.getD j 0)).2.2.2.2) (nI f.1) (nI (sk_there f)) (nI (f.1 % 100)) f.2.1 f.2.2.1 f.2.2.2.1 f.2.2.2.2.1 (fun i => lN (sk_nb (f.2.2.2.2.2.1 i))) (fun i => sk_bI (f.2.2.2.2.2.2 i)) wt) H := hP
            have hD : va_D A (sk_wR a k (nI b.1) b.2.1 b.2.2.1 b.2.2.2.1 b.2.2.2.2 (nI (sk_grow1 t2 q2 (ns.getD j 0)).1) ((sk_grow1 t2 q2 (ns.getD j 0)).2.1) ((sk_grow1 t2 q2 (ns.getD j 0)).2.2.1) ((sk_grow1 t2 q2 (ns.getD j 0)).2.2.2.1) ((sk_grow1 t2 q2 (ns.getD j 0)).2.2.2.2) (nI f.1) (nI (sk_there f)) (nI (f.1 % 100)) f.2.1 f.2.2.1 f.2.2.2.1 f.2.2.2.2.1 (fun i => lN (sk_nb (f.2.2.2.2.2.1 i))) (fun i => sk_bI (f.2.2.2.2.2.2 i)) wt) := hD
            refine lv_istore (lv' := [(4, .int (nI t2.1)), (7, .int (nI j)), (0, .ref (a 2)), (2, .ref (a 4)), (3, .int (nI ns.length))]) hx hb dT_reach_125 hl (by decide) rfl (fun ls hl => ?_)
            refine lv_iinc (v := nI (j + 1)) (lv' := [(7, .int (nI (j + 1))), (4, .int (nI t2.1)), (0, .ref (a 2)), (2, .ref (a 4)), (3, .int (nI ns.length))]) hx hb dT_reach_127 hl (k := 1) rfl (sk_inc _) (by decide) rfl (fun ls hl => ?_)
            refine lv_goto (tgt := 109) hx hb dT_reach_130 (by decide) ?_
            exact ih2 (j + 1) t2.1 (sk_grow1 t2 q2 (ns.getD j 0)) (by omega) (Nat.lt_succ_self _) ((show t2.1 + 1 + (ns.length - (j + 1)) ≤ 200 by omega)) (by rw [hm, sk_mk_step (by omega)]) (by omega) _ _ hP hD hS ls (lv_sub hl [0, 1, 2, 3, 4] rfl)
      exact loop2 (ns.length - 0 + 1) 0 t.1 (sk_make t x (-1) (-1) 0) (by omega) (Nat.lt_succ_self _) ((show t.1 + 1 + (ns.length - 0) ≤ 200 by omega)) (sk_reach_s1 hem (by omega)) (Nat.lt_succ_self _) _ _ hP hD hS ls (lv_sub hl [0, 1, 4, 6, 7] rfl)
    · skip
      have n87 : ¬ ((ns.length - 0) + 1) ≤ (200 - t.1) := fun z9 => c87 ((nI_leI (a := ((ns.length - 0) + 1)) (b := (200 - t.1)) (by omega) (by omega)).mpr z9)
      refine lv_iconst (v := (-1)) hx hb dT_reach_90 (by decide) ?_
      exact W.iret (v := (-1)) hx hb hr (fun U9 ht hW => ⟨⟨(-1), ((b, t, f), wt), rfl, Or.inl ⟨sk_reach_n1 hem (by omega), rfl, rfl⟩, sk_endw ht hP hD⟩, hS.F ht⟩) hS.2.2 dT_reach_91
  · skip
    obtain rfl : r2 = nI q0 := w2.trans hem
    refine lv_istore (lv' := [(4, .int (nI q0)), (0, .ref (a 2)), (1, .int x), (2, .ref (a 4)), (3, .int (nI ns.length))]) hx hb dT_reach_5 hl (by decide) rfl (fun ls hl => ?_)
    refine lv_iconst (v := nI 0) hx hb dT_reach_7 (by decide) ?_
    refine lv_istore (lv' := [(5, .int (nI 0)), (4, .int (nI q0)), (0, .ref (a 2)), (1, .int x), (2, .ref (a 4)), (3, .int (nI ns.length))]) hx hb dT_reach_8 hl (by decide) rfl (fun ls hl => ?_)
    refine lv_iconst (v := nI 0) hx hb dT_reach_10 (by decide) ?_
    refine lv_istore (lv' := [(6, .int (nI 0)), (5, .int (nI 0)), (4, .int (nI q0)), (0, .ref (a 2)), (1, .int x), (2, .ref (a 4)), (3, .int (nI ns.length))]) hx hb dT_reach_11 hl (by decide) rfl (fun ls hl => ?_)
    have loop1 : ∀ (nn : Nat) (i q : Nat), i ≤ ns.length → q < t.1 → sk_down t q (ns.drop i) = sk_down t q0 ns → ns.length - i < nn → ∀ (H : Heap) (locs : List Loc), va_P (dC, dI) vwCl (sk_wR a k (nI b.1) b.2.1 b.2.2.1 b.2.2.2.1 b.2.2.2.2 (nI t.1) t.2.1 t.2.2.1 t.2.2.2.1 t.2.2.2.2 (nI f.1) (nI (sk_there f)) (nI (f.1 % 100)) f.2.1 f.2.2.1 f.2.2.2.1 f.2.2.2.2.1 (fun i => lN (sk_nb (f.2.2.2.2.2.1 i))) (fun i => sk_bI (f.2.2.2.2.2.2 i)) wt) H → va_D A (sk_wR a k (nI b.1) b.2.1 b.2.2.1 b.2.2.2.1 b.2.2.2.2 (nI t.1) t.2.1 t.2.2.1 t.2.2.2.1 t.2.2.2.2 (nI f.1) (nI (sk_there f)) (nI (f.1 % 100)) f.2.1 f.2.2.1 f.2.2.2.1 f.2.2.2.2.1 (fun i => lN (sk_nb (f.2.2.2.2.2.1 i))) (fun i => sk_bI (f.2.2.2.2.2.2 i)) wt) → va_S A s.heap H locs → ∀ ls : Array Slot, lv_has ls 8 [(6, .int (nI i)), (5, .int (nI i)), (4, .int (nI q)), (0, .ref (a 2)), (1, .int x), (2, .ref (a 4)), (3, .int (nI ns.length))] → W p l e (headSpec wzT_reach rzT_reach).room s m ([.ref (a 2), .int x, .ref (a 4), .int (nI ns.length)] : List Value).toArray below meth c H locs 0 0 (MQ below (va_Qi (fun r (u : sk_S × sk_F) => (sk_reach t x ns = none ∧ r = -1 ∧ u = ((b, t, f), wt)) ∨ ∃ t2 g, sk_reach t x ns = some (t2, g) ∧ r = nI g ∧ u = ((b, t2, f), wt)) (fun u U => va_P (dC, dI) vwCl (sk_wX a k u.1 u.2) U.heap ∧ va_D A (sk_wX a k u.1 u.2)) A) ([.ref (a 2), .int x, .ref (a 4), .int (nI ns.length)] : List Value).toArray s 0 0 A) (F0 m 13 ls []) := by
      intro nn
      induction nn with
      | zero => intro i q hi hq hd hmu; exact absurd hmu (Nat.not_lt_zero _)
      | succ nn ih1 =>
        intro i q hi hq hd hmu H locs hP hD hS ls hl
        refine lv_iload hx hb dT_reach_13 (lv_at hl 2 rfl) ?_
        refine lv_iconst (v := (-1)) hx hb dT_reach_15 (by decide) ?_
        refine lv_icmp_eq (tgt := 59) hx hb dT_reach_16 (by decide) (fun c16 => ?_) (fun c16 => ?_)
        · skip
          exact absurd c16 (sk_nm1 (by omega))
        · skip
          refine lv_iload hx hb dT_reach_19 (lv_at hl 0 rfl) ?_
          refine lv_iload_n hx hb dT_reach_21 rfl (lv_at hl 6 rfl) ?_
          refine lv_icmp_ge (tgt := 59) hx hb dT_reach_22 (by decide) (fun c22 => ?_) (fun c22 => ?_)
          · skip
            have n22 : ns.length ≤ i := (nI_leI (a := ns.length) (b := i) (by omega) (by omega)).mp c22
            refine lv_iload_n hx hb dT_reach_59 rfl (lv_at hl 6 rfl) ?_
            refine lv_iload hx hb dT_reach_60 (lv_at hl 1 rfl) ?_
            refine lv_isub hx hb dT_reach_62 ?_
            refine lv_topi (fun x62 e62 => ?_)
            obtain rfl : x62 = nI (ns.length - i) := e62.trans (pk_sub (by omega))
            refine lv_iload hx hb dT_reach_63 (lv_at hl 2 rfl) ?_
            refine lv_iconst (v := (-1)) hx hb dT_reach_65 (by decide) ?_
            refine lv_icmp_ne (tgt := 73) hx hb dT_reach_66 (by decide) (fun c66 => ?_) (fun c66 => ?_)
            · skip
              refine lv_iconst (v := nI 0) hx hb dT_reach_73 (by decide) ?_
              refine lv_iadd hx hb dT_reach_74 ?_
              refine lv_topi (fun x74 e74 => ?_)
              obtain rfl : x74 = nI ((ns.length - i) + 0) := e74.trans (nI_add _ _)
              refine lv_istore (lv' := [(6, .int (nI ((ns.length - i) + 0))), (5, .int (nI i)), (4, .int (nI q)), (0, .ref (a 2)), (1, .int x), (2, .ref (a 4)), (3, .int (nI ns.length))]) hx hb dT_reach_75 hl (by decide) rfl (fun ls hl => ?_)
              refine lv_iload hx hb dT_reach_77 (lv_at hl 0 rfl) ?_
              refine lv_sipush (v := nI 200) hx hb dT_reach_79 (by decide) ?_
              refine lv_aload_n hx hb dT_reach_82 rfl (lv_at hl 3 rfl) ?_
              refine va_get (D := (dC, dI)) (ci := 2) (v := .int (nI t.1)) (C := RT) (T := TT) (N := 5) hx hb hts inT hown hK hP 2 rfl rfl 4 (by decide) (hts _ wfT_24) (fun _ h9 => h9) rfl dT_reach_83 ?_
              refine lv_isub hx hb dT_reach_86 ?_
              refine lv_topi (fun x86 e86 => ?_)
              obtain rfl : x86 = nI (200 - t.1) := e86.trans (pk_sub (by omega))
              refine lv_icmp_le (tgt := 92) hx hb dT_reach_87 (by decide) (fun c87 => ?_) (fun c87 => ?_)
              · skip
                have n87 : ((ns.length - i) + 0) ≤ (200 - t.1) := (nI_leI (a := ((ns.length - i) + 0)) (b := (200 - t.1)) (by omega) (by omega)).mp c87
                refine lv_iload hx hb dT_reach_92 (lv_at hl 2 rfl) ?_
                refine lv_iconst (v := (-1)) hx hb dT_reach_94 (by decide) ?_
                refine lv_icmp_ne (tgt := 105) hx hb dT_reach_95 (by decide) (fun c95 => ?_) (fun c95 => ?_)
                · skip
                  refine lv_iload hx hb dT_reach_105 (lv_at hl 1 rfl) ?_
                  refine lv_istore (lv' := [(7, .int (nI i)), (6, .int (nI ((ns.length - i) + 0))), (5, .int (nI i)), (4, .int (nI q)), (0, .ref (a 2)), (1, .int x), (2, .ref (a 4)), (3, .int (nI ns.length))]) hx hb dT_reach_107 hl (by decide) rfl (fun ls hl => ?_)
                  have loop2 : ∀ (nn : Nat) (j q2 : Nat) (t2 : sk_Tr), j ≤ ns.length → q2 < t2.1 → t2.1 + (ns.length - j) ≤ 200 → sk_reach t x ns = some (sk_mk t2 q2 (ns.drop j)) → ns.length - j < nn → ∀ (H : Heap) (locs : List Loc), va_P (dC, dI) vwCl (sk_wR a k (nI b.1) b.2.1 b.2.2.1 b.2.2.2.1 b.2.2.2.2 (nI t2.1) t2.2.1 t2.2.2.1 t2.2.2.2.1 t2.2.2.2.2 (nI f.1) (nI (sk_there f)) (nI (f.1 % 100)) f.2.1 f.2.2.1 f.2.2.2.1 f.2.2.2.2.1 (fun i => lN (sk_nb (f.2.2.2.2.2.1 i))) (fun i => sk_bI (f.2.2.2.2.2.2 i)) wt) H → va_D A (sk_wR a k (nI b.1) b.2.1 b.2.2.1 b.2.2.2.1 b.2.2.2.2 (nI t2.1) t2.2.1 t2.2.2.1 t2.2.2.2.1 t2.2.2.2.2 (nI f.1) (nI (sk_there f)) (nI (f.1 % 100)) f.2.1 f.2.2.1 f.2.2.2.1 f.2.2.2.2.1 (fun i => lN (sk_nb (f.2.2.2.2.2.1 i))) (fun i => sk_bI (f.2.2.2.2.2.2 i)) wt) → va_S A s.heap H locs → ∀ ls : Array Slot, lv_has ls 8 [(7, .int (nI j)), (4, .int (nI q2)), (0, .ref (a 2)), (2, .ref (a 4)), (3, .int (nI ns.length))] → W p l e (headSpec wzT_reach rzT_reach).room s m ([.ref (a 2), .int x, .ref (a 4), .int (nI ns.length)] : List Value).toArray below meth c H locs 0 0 (MQ below (va_Qi (fun r (u : sk_S × sk_F) => (sk_reach t x ns = none ∧ r = -1 ∧ u = ((b, t, f), wt)) ∨ ∃ t2 g, sk_reach t x ns = some (t2, g) ∧ r = nI g ∧ u = ((b, t2, f), wt)) (fun u U => va_P (dC, dI) vwCl (sk_wX a k u.1 u.2) U.heap ∧ va_D A (sk_wX a k u.1 u.2)) A) ([.ref (a 2), .int x, .ref (a 4), .int (nI ns.length)] : List Value).toArray s 0 0 A) (F0 m 109 ls []) := by
                    intro nn
                    induction nn with
                    | zero => intro j q2 t2 hj hq2 hcap hm hmu; exact absurd hmu (Nat.not_lt_zero _)
                    | succ nn ih2 =>
                      intro j q2 t2 hj hq2 hcap hm hmu H locs hP hD hS ls hl
                      refine lv_iload hx hb dT_reach_109 (lv_at hl 0 rfl) ?_
                      refine lv_iload_n hx hb dT_reach_111 rfl (lv_at hl 4 rfl) ?_
                      refine lv_icmp_ge (tgt := 133) hx hb dT_reach_112 (by decide) (fun c112 => ?_) (fun c112 => ?_)
                      · skip
                        have n112 : ns.length ≤ j := (nI_leI (a := ns.length) (b := j) (by omega) (by omega)).mp c112
                        refine lv_iload hx hb dT_reach_133 (lv_at hl 1 rfl) ?_
                        exact W.iret (v := nI q2) hx hb hr (fun U9 ht hW => ⟨⟨nI q2, ((b, t2, f), wt), rfl, Or.inr ⟨t2, q2, by rw [hm, sk_mk_end n112], rfl, rfl⟩, sk_endw ht hP hD⟩, hS.F ht⟩) hS.2.2 dT_reach_135
                      · skip
                        have n112 : ¬ ns.length ≤ j := fun z9 => c112 ((nI_leI (a := ns.length) (b := j) (by omega) (by omega)).mpr z9)
                        refine lv_aload_n hx hb dT_reach_115 rfl (lv_at hl 2 rfl) ?_
                        refine lv_iload hx hb dT_reach_116 (lv_at hl 1 rfl) ?_
                        refine lv_aload_n hx hb dT_reach_118 rfl (lv_at hl 3 rfl) ?_
                        refine lv_iload hx hb dT_reach_119 (lv_at hl 0 rfl) ?_
                        refine va_iald hx hb hK hP 4 0 rfl rfl (vp_in_nI (show j < 12 by omega) (by decide)) dT_reach_121 ?_
                        refine lv_topi (fun x121 e121 => ?_)
                        rw [nI_clamp (show j < 2 ^ 31 by omega)] at e121
                        obtain rfl : x121 = ns.getD j 0 := e121.trans (hrow j (by omega))
                        refine va_calli (va_runV (As := [.int (nI q2), .int (ns.getD j 0)]) (rest := []) ⟨hx, hb, hml, hown, hts⟩ (kT_makeWith l dC dI a k b t2 f wt A q2 (ns.getD j 0) hq2 (by omega)) (cwV 2 hts (sk_gV wmT_32 wiT_makeWith wsT_makeWith wnT wcT_makeWith) rfl rfl rfl (by decide +kernel) ⟨Nat.le_of_ble_eq_true rfl, Nat.le_of_ble_eq_true rfl⟩) ⟨sk_blindD _, va_recv hK hP (ci := 2) (q0 := 2) rfl rfl, fun U hU hW => ⟨rfl, sk_at (S := (b, t2, f)) (wt := wt) hP hK hN hU hW, hD⟩⟩ rfl rfl hl.1 rfl (lv_room (Nat.le_of_ble_eq_true rfl)) dT_reach_122 ⟨Nat.le_of_ble_eq_true rfl, Nat.le_of_ble_eq_true rfl⟩) hS (fun _ _ h => h) (fun _ h => h) (fun r122 u122 U9 H locs ht hvm w122 hB hz hk hS => ?_)
                        obtain ⟨hP, hD⟩ := hB
                        rw [ht] at hP
                        obtain ⟨rfl, rfl⟩ := w122
                        have hP : va_P (dC, dI) vwCl (sk_wR a k (nI b.1) b.2.1 b.2.2.1 b.2.2.2.1 b.2.2.2.2 (nI (sk_grow1 t2 q2 (ns.getD j 0)).1) ((sk_grow1 t2 q2 (ns.getD j 0)).2.1) ((sk_grow1 t2 q2 (ns.getD j 0)).2.2.1) ((sk_grow1 t2 q2 (ns.getD j 0)).2.2.2.1) ((sk_grow1 t2 q2 (ns.getD j 0)).2.2.2.2) (nI f.1) (nI (sk_there f)) (nI (f.1 % 100)) f.2.1 f.2.2.1 f.2.2.2.1 f.2.2.2.2.1 (fun i => lN (sk_nb (f.2.2.2.2.2.1 i))) (fun i => sk_bI (f.2.2.2.2.2.2 i)) wt) H := hP
                        have hD : va_D A (sk_wR a k (nI b.1) b.2.1 b.2.2.1 b.2.2.2.1 b.2.2.2.2 (nI (sk_grow1 t2 q2 (ns.getD j 0)).1) ((sk_grow1 t2 q2 (ns.getD j 0)).2.1) ((sk_grow1 t2 q2 (ns.getD j 0)).2.2.1) ((sk_grow1 t2 q2 (ns.getD j 0)).2.2.2.1) ((sk_grow1 t2 q2 (ns.getD j 0)).2.2.2.2) (nI f.1) (nI (sk_there f)) (nI (f.1 % 100)) f.2.1 f.2.2.1 f.2.2.2.1 f.2.2.2.2.1 (fun i => lN (sk_nb (f.2.2.2.2.2.1 i))) (fun i => sk_bI (f.2.2.2.2.2.2 i)) wt) := hD
                        refine lv_istore (lv' := [(4, .int (nI t2.1)), (7, .int (nI j)), (0, .ref (a 2)), (2, .ref (a 4)), (3, .int (nI ns.length))]) hx hb dT_reach_125 hl (by decide) rfl (fun ls hl => ?_)
                        refine lv_iinc (v := nI (j + 1)) (lv' := [(7, .int (nI (j + 1))), (4, .int (nI t2.1)), (0, .ref (a 2)), (2, .ref (a 4)), (3, .int (nI ns.length))]) hx hb dT_reach_127 hl (k := 1) rfl (sk_inc _) (by decide) rfl (fun ls hl => ?_)
                        refine lv_goto (tgt := 109) hx hb dT_reach_130 (by decide) ?_
                        exact ih2 (j + 1) t2.1 (sk_grow1 t2 q2 (ns.getD j 0)) (by omega) (Nat.lt_succ_self _) ((show t2.1 + 1 + (ns.length - (j + 1)) ≤ 200 by omega)) (by rw [hm, sk_mk_step (by omega)]) (by omega) _ _ hP hD hS ls (lv_sub hl [0, 1, 2, 3, 4] rfl)
                  exact loop2 (ns.length - i + 1) i q t (by omega) (hq) (by omega) (sk_reach_s2 (by omega) hem (by rw [← hd]; exact sk_down_end n22) (by omega)) (Nat.lt_succ_self _) _ _ hP hD hS ls (lv_sub hl [0, 3, 4, 6, 7] rfl)
                · skip
                  exact absurd c95 (sk_nm1 (by omega))
              · skip
                have n87 : ¬ ((ns.length - i) + 0) ≤ (200 - t.1) := fun z9 => c87 ((nI_leI (a := ((ns.length - i) + 0)) (b := (200 - t.1)) (by omega) (by omega)).mpr z9)
                refine lv_iconst (v := (-1)) hx hb dT_reach_90 (by decide) ?_
                exact W.iret (v := (-1)) hx hb hr (fun U9 ht hW => ⟨⟨(-1), ((b, t, f), wt), rfl, Or.inl ⟨sk_reach_n2 (by omega) hem (by rw [← hd]; exact sk_down_end n22) (by omega), rfl, rfl⟩, sk_endw ht hP hD⟩, hS.F ht⟩) hS.2.2 dT_reach_91
            · skip
              exact absurd c66 (sk_nm1 (by omega))
          · skip
            have n22 : ¬ ns.length ≤ i := fun z9 => c22 ((nI_leI (a := ns.length) (b := i) (by omega) (by omega)).mpr z9)
            refine lv_aload_n hx hb dT_reach_25 rfl (lv_at hl 3 rfl) ?_
            refine lv_iload hx hb dT_reach_26 (lv_at hl 2 rfl) ?_
            refine lv_aload_n hx hb dT_reach_28 rfl (lv_at hl 5 rfl) ?_
            refine lv_iload hx hb dT_reach_29 (lv_at hl 0 rfl) ?_
            refine va_iald hx hb hK hP 4 0 rfl rfl (vp_in_nI (show i < 12 by omega) (by decide)) dT_reach_31 ?_
            refine lv_topi (fun x31 e31 => ?_)
            rw [nI_clamp (show i < 2 ^ 31 by omega)] at e31
            obtain rfl : x31 = ns.getD i 0 := e31.trans (hrow i (by omega))
            refine va_calli (va_runV (As := [.int (nI q), .int (ns.getD i 0)]) (rest := []) ⟨hx, hb, hml, hown, hts⟩ (kT_withName l dC dI a k b t f wt q (ns.getD i 0) hT hq) (cwV 2 hts (sk_gV wmT_28 wiT_withName wsT_withName wnT wcT_withName) rfl rfl rfl (by decide +kernel) ⟨Nat.le_of_ble_eq_true rfl, Nat.le_of_ble_eq_true rfl⟩) ⟨sk_blind _, va_recv hK hP (ci := 2) (q0 := 2) rfl rfl, fun U hU hW => ⟨rfl, sk_at (S := (b, t, f)) (wt := wt) hP hK hN hU hW⟩⟩ rfl rfl hl.1 rfl (lv_room (Nat.le_of_ble_eq_true rfl)) dT_reach_32 ⟨Nat.le_of_ble_eq_true rfl, Nat.le_of_ble_eq_true rfl⟩) hS (fun _ _ h => h.elim) (fun _ h => h.elim) (fun r32 u32 U9 H locs ht hvm w32 hB hz hk hS => ?_)
            have hP : va_P (dC, dI) vwCl (sk_wR a k (nI b.1) b.2.1 b.2.2.1 b.2.2.2.1 b.2.2.2.2 (nI t.1) t.2.1 t.2.2.1 t.2.2.2.1 t.2.2.2.2 (nI f.1) (nI (sk_there f)) (nI (f.1 % 100)) f.2.1 f.2.2.1 f.2.2.2.1 f.2.2.2.2.1 (fun i => lN (sk_nb (f.2.2.2.2.2.1 i))) (fun i => sk_bI (f.2.2.2.2.2.2 i)) wt) H := hP.kept (fun j q hq => hk q.1 ((hP j q hq).lt) (fun h => h))
            clear hk hB ht
            rcases sk_wn_spec hT hq (ns.getD i 0) with ⟨hwn, -⟩ | ⟨i2, m2, hi2, -, hwn, -⟩
            · skip
              obtain rfl : r32 = -1 := w32.trans hwn
              refine lv_istore (lv' := [(7, .int (-1)), (6, .int (nI i)), (5, .int (nI i)), (4, .int (nI q)), (0, .ref (a 2)), (1, .int x), (2, .ref (a 4)), (3, .int (nI ns.length))]) hx hb dT_reach_35 hl (by decide) rfl (fun ls hl => ?_)
              refine lv_iload hx hb dT_reach_37 (lv_at hl 0 rfl) ?_
              refine lv_iconst (v := (-1)) hx hb dT_reach_39 (by decide) ?_
              refine lv_icmp_ne (tgt := 46) hx hb dT_reach_40 (by decide) (fun q => absurd q (by decide)) (fun _ => ?_)
              refine lv_goto (tgt := 59) hx hb dT_reach_43 (by decide) ?_
              refine lv_iload_n hx hb dT_reach_59 rfl (lv_at hl 7 rfl) ?_
              refine lv_iload hx hb dT_reach_60 (lv_at hl 2 rfl) ?_
              refine lv_isub hx hb dT_reach_62 ?_
              refine lv_topi (fun x62 e62 => ?_)
              obtain rfl : x62 = nI (ns.length - i) := e62.trans (pk_sub (by omega))
              refine lv_iload hx hb dT_reach_63 (lv_at hl 3 rfl) ?_
              refine lv_iconst (v := (-1)) hx hb dT_reach_65 (by decide) ?_
              refine lv_icmp_ne (tgt := 73) hx hb dT_reach_66 (by decide) (fun c66 => ?_) (fun c66 => ?_)
              · skip
                refine lv_iconst (v := nI 0) hx hb dT_reach_73 (by decide) ?_
                refine lv_iadd hx hb dT_reach_74 ?_
                refine lv_topi (fun x74 e74 => ?_)
                obtain rfl : x74 = nI ((ns.length - i) + 0) := e74.trans (nI_add _ _)
                refine lv_istore (lv' := [(6, .int (nI ((ns.length - i) + 0))), (7, .int (-1)), (5, .int (nI i)), (4, .int (nI q)), (0, .ref (a 2)), (1, .int x), (2, .ref (a 4)), (3, .int (nI ns.length))]) hx hb dT_reach_75 hl (by decide) rfl (fun ls hl => ?_)
                refine lv_iload hx hb dT_reach_77 (lv_at hl 0 rfl) ?_
                refine lv_sipush (v := nI 200) hx hb dT_reach_79 (by decide) ?_
                refine lv_aload_n hx hb dT_reach_82 rfl (lv_at hl 4 rfl) ?_
                refine va_get (D := (dC, dI)) (ci := 2) (v := .int (nI t.1)) (C := RT) (T := TT) (N := 5) hx hb hts inT hown hK hP 2 rfl rfl 4 (by decide) (hts _ wfT_24) (fun _ h9 => h9) rfl dT_reach_83 ?_
                refine lv_isub hx hb dT_reach_86 ?_
                refine lv_topi (fun x86 e86 => ?_)
                obtain rfl : x86 = nI (200 - t.1) := e86.trans (pk_sub (by omega))
                refine lv_icmp_le (tgt := 92) hx hb dT_reach_87 (by decide) (fun c87 => ?_) (fun c87 => ?_)
                · skip
                  have n87 : ((ns.length - i) + 0) ≤ (200 - t.1) := (nI_leI (a := ((ns.length - i) + 0)) (b := (200 - t.1)) (by omega) (by omega)).mp c87
                  refine lv_iload hx hb dT_reach_92 (lv_at hl 3 rfl) ?_
                  refine lv_iconst (v := (-1)) hx hb dT_reach_94 (by decide) ?_
                  refine lv_icmp_ne (tgt := 105) hx hb dT_reach_95 (by decide) (fun c95 => ?_) (fun c95 => ?_)
                  · skip
                    refine lv_iload hx hb dT_reach_105 (lv_at hl 2 rfl) ?_
                    refine lv_istore (lv' := [(7, .int (nI i)), (6, .int (nI ((ns.length - i) + 0))), (5, .int (nI i)), (4, .int (nI q)), (0, .ref (a 2)), (1, .int x), (2, .ref (a 4)), (3, .int (nI ns.length))]) hx hb dT_reach_107 hl (by decide) rfl (fun ls hl => ?_)
                    have loop2 : ∀ (nn : Nat) (j q2 : Nat) (t2 : sk_Tr), j ≤ ns.length → q2 < t2.1 → t2.1 + (ns.length - j) ≤ 200 → sk_reach t x ns = some (sk_mk t2 q2 (ns.drop j)) → ns.length - j < nn → ∀ (H : Heap) (locs : List Loc), va_P (dC, dI) vwCl (sk_wR a k (nI b.1) b.2.1 b.2.2.1 b.2.2.2.1 b.2.2.2.2 (nI t2.1) t2.2.1 t2.2.2.1 t2.2.2.2.1 t2.2.2.2.2 (nI f.1) (nI (sk_there f)) (nI (f.1 % 100)) f.2.1 f.2.2.1 f.2.2.2.1 f.2.2.2.2.1 (fun i => lN (sk_nb (f.2.2.2.2.2.1 i))) (fun i => sk_bI (f.2.2.2.2.2.2 i)) wt) H → va_D A (sk_wR a k (nI b.1) b.2.1 b.2.2.1 b.2.2.2.1 b.2.2.2.2 (nI t2.1) t2.2.1 t2.2.2.1 t2.2.2.2.1 t2.2.2.2.2 (nI f.1) (nI (sk_there f)) (nI (f.1 % 100)) f.2.1 f.2.2.1 f.2.2.2.1 f.2.2.2.2.1 (fun i => lN (sk_nb (f.2.2.2.2.2.1 i))) (fun i => sk_bI (f.2.2.2.2.2.2 i)) wt) → va_S A s.heap H locs → ∀ ls : Array Slot, lv_has ls 8 [(7, .int (nI j)), (4, .int (nI q2)), (0, .ref (a 2)), (2, .ref (a 4)), (3, .int (nI ns.length))] → W p l e (headSpec wzT_reach rzT_reach).room s m ([.ref (a 2), .int x, .ref (a 4), .int (nI ns.length)] : List Value).toArray below meth c H locs 0 0 (MQ below (va_Qi (fun r (u : sk_S × sk_F) => (sk_reach t x ns = none ∧ r = -1 ∧ u = ((b, t, f), wt)) ∨ ∃ t2 g, sk_reach t x ns = some (t2, g) ∧ r = nI g ∧ u = ((b, t2, f), wt)) (fun u U => va_P (dC, dI) vwCl (sk_wX a k u.1 u.2) U.heap ∧ va_D A (sk_wX a k u.1 u.2)) A) ([.ref (a 2), .int x, .ref (a 4), .int (nI ns.length)] : List Value).toArray s 0 0 A) (F0 m 109 ls []) := by
                      intro nn
                      induction nn with
                      | zero => intro j q2 t2 hj hq2 hcap hm hmu; exact absurd hmu (Nat.not_lt_zero _)
                      | succ nn ih2 =>
                        intro j q2 t2 hj hq2 hcap hm hmu H locs hP hD hS ls hl
                        refine lv_iload hx hb dT_reach_109 (lv_at hl 0 rfl) ?_
                        refine lv_iload_n hx hb dT_reach_111 rfl (lv_at hl 4 rfl) ?_
                        refine lv_icmp_ge (tgt := 133) hx hb dT_reach_112 (by decide) (fun c112 => ?_) (fun c112 => ?_)
                        · skip
                          have n112 : ns.length ≤ j := (nI_leI (a := ns.length) (b := j) (by omega) (by omega)).mp c112
                          refine lv_iload hx hb dT_reach_133 (lv_at hl 1 rfl) ?_
                          exact W.iret (v := nI q2) hx hb hr (fun U9 ht hW => ⟨⟨nI q2, ((b, t2, f), wt), rfl, Or.inr ⟨t2, q2, by rw [hm, sk_mk_end n112], rfl, rfl⟩, sk_endw ht hP hD⟩, hS.F ht⟩) hS.2.2 dT_reach_135
                        · skip
                          have n112 : ¬ ns.length ≤ j := fun z9 => c112 ((nI_leI (a := ns.length) (b := j) (by omega) (by omega)).mpr z9)
                          refine lv_aload_n hx hb dT_reach_115 rfl (lv_at hl 2 rfl) ?_
                          refine lv_iload hx hb dT_reach_116 (lv_at hl 1 rfl) ?_
                          refine lv_aload_n hx hb dT_reach_118 rfl (lv_at hl 3 rfl) ?_
                          refine lv_iload hx hb dT_reach_119 (lv_at hl 0 rfl) ?_
                          refine va_iald hx hb hK hP 4 0 rfl rfl (vp_in_nI (show j < 12 by omega) (by decide)) dT_reach_121 ?_
                          refine lv_topi (fun x121 e121 => ?_)
                          rw [nI_clamp (show j < 2 ^ 31 by omega)] at e121
                          obtain rfl : x121 = ns.getD j 0 := e121.trans (hrow j (by omega))
                          refine va_calli (va_runV (As := [.int (nI q2), .int (ns.getD j 0)]) (rest := []) ⟨hx, hb, hml, hown, hts⟩ (kT_makeWith l dC dI a k b t2 f wt A q2 (ns.getD j 0) hq2 (by omega)) (cwV 2 hts (sk_gV wmT_32 wiT_makeWith wsT_makeWith wnT wcT_makeWith) rfl rfl rfl (by decide +kernel) ⟨Nat.le_of_ble_eq_true rfl, Nat.le_of_ble_eq_true rfl⟩) ⟨sk_blindD _, va_recv hK hP (ci := 2) (q0 := 2) rfl rfl, fun U hU hW => ⟨rfl, sk_at (S := (b, t2, f)) (wt := wt) hP hK hN hU hW, hD⟩⟩ rfl rfl hl.1 rfl (lv_room (Nat.le_of_ble_eq_true rfl)) dT_reach_122 ⟨Nat.le_of_ble_eq_true rfl, Nat.le_of_ble_eq_true rfl⟩) hS (fun _ _ h => h) (fun _ h => h) (fun r122 u122 U9 H locs ht hvm w122 hB hz hk hS => ?_)
                          obtain ⟨hP, hD⟩ := hB
                          rw [ht] at hP
                          obtain ⟨rfl, rfl⟩ := w122
                          have hP : va_P (dC, dI) vwCl (sk_wR a k (nI b.1) b.2.1 b.2.2.1 b.2.2.2.1 b.2.2.2.2 (nI (sk_grow1 t2 q2 (ns.getD j 0)).1) ((sk_grow1 t2 q2 (ns.getD j 0)).2.1) ((sk_grow1 t2 q2 (ns.getD j 0)).2.2.1) ((sk_grow1 t2 q2 (ns.getD j 0)).2.2.2.1) ((sk_grow1 t2 q2 (ns.getD j 0)).2.2.2.2) (nI f.1) (nI (sk_there f)) (nI (f.1 % 100)) f.2.1 f.2.2.1 f.2.2.2.1 f.2.2.2.2.1 (fun i => lN (sk_nb (f.2.2.2.2.2.1 i))) (fun i => sk_bI (f.2.2.2.2.2.2 i)) wt) H := hP
                          have hD : va_D A (sk_wR a k (nI b.1) b.2.1 b.2.2.1 b.2.2.2.1 b.2.2.2.2 (nI (sk_grow1 t2 q2 (ns.getD j 0)).1) ((sk_grow1 t2 q2 (ns.getD j 0)).2.1) ((sk_grow1 t2 q2 (ns.getD j 0)).2.2.1) ((sk_grow1 t2 q2 (ns.getD j 0)).2.2.2.1) ((sk_grow1 t2 q2 (ns.getD j 0)).2.2.2.2) (nI f.1) (nI (sk_there f)) (nI (f.1 % 100)) f.2.1 f.2.2.1 f.2.2.2.1 f.2.2.2.2.1 (fun i => lN (sk_nb (f.2.2.2.2.2.1 i))) (fun i => sk_bI (f.2.2.2.2.2.2 i)) wt) := hD
                          refine lv_istore (lv' := [(4, .int (nI t2.1)), (7, .int (nI j)), (0, .ref (a 2)), (2, .ref (a 4)), (3, .int (nI ns.length))]) hx hb dT_reach_125 hl (by decide) rfl (fun ls hl => ?_)
                          refine lv_iinc (v := nI (j + 1)) (lv' := [(7, .int (nI (j + 1))), (4, .int (nI t2.1)), (0, .ref (a 2)), (2, .ref (a 4)), (3, .int (nI ns.length))]) hx hb dT_reach_127 hl (k := 1) rfl (sk_inc _) (by decide) rfl (fun ls hl => ?_)
                          refine lv_goto (tgt := 109) hx hb dT_reach_130 (by decide) ?_
                          exact ih2 (j + 1) t2.1 (sk_grow1 t2 q2 (ns.getD j 0)) (by omega) (Nat.lt_succ_self _) ((show t2.1 + 1 + (ns.length - (j + 1)) ≤ 200 by omega)) (by rw [hm, sk_mk_step (by omega)]) (by omega) _ _ hP hD hS ls (lv_sub hl [0, 1, 2, 3, 4] rfl)
                    exact loop2 (ns.length - i + 1) i q t (by omega) (hq) (by omega) (sk_reach_s2 (by omega) hem (by rw [← hd]; exact sk_down_miss (by omega) hwn) (by omega)) (Nat.lt_succ_self _) _ _ hP hD hS ls (lv_sub hl [0, 3, 4, 6, 7] rfl)
                  · skip
                    exact absurd c95 (sk_nm1 (by omega))
                · skip
                  have n87 : ¬ ((ns.length - i) + 0) ≤ (200 - t.1) := fun z9 => c87 ((nI_leI (a := ((ns.length - i) + 0)) (b := (200 - t.1)) (by omega) (by omega)).mpr z9)
                  refine lv_iconst (v := (-1)) hx hb dT_reach_90 (by decide) ?_
                  exact W.iret (v := (-1)) hx hb hr (fun U9 ht hW => ⟨⟨(-1), ((b, t, f), wt), rfl, Or.inl ⟨sk_reach_n2 (by omega) hem (by rw [← hd]; exact sk_down_miss (by omega) hwn) (by omega), rfl, rfl⟩, sk_endw ht hP hD⟩, hS.F ht⟩) hS.2.2 dT_reach_91
              · skip
                exact absurd c66 (sk_nm1 (by omega))
            · skip
              obtain rfl : r32 = nI i2 := w32.trans hwn
              refine lv_istore (lv' := [(7, .int (nI i2)), (6, .int (nI i)), (5, .int (nI i)), (4, .int (nI q)), (0, .ref (a 2)), (1, .int x), (2, .ref (a 4)), (3, .int (nI ns.length))]) hx hb dT_reach_35 hl (by decide) rfl (fun ls hl => ?_)
              refine lv_iload hx hb dT_reach_37 (lv_at hl 0 rfl) ?_
              refine lv_iconst (v := (-1)) hx hb dT_reach_39 (by decide) ?_
              refine lv_icmp_ne (tgt := 46) hx hb dT_reach_40 (by decide) (fun c40 => ?_) (fun c40 => ?_)
              · skip
                refine lv_iload hx hb dT_reach_46 (lv_at hl 0 rfl) ?_
                refine lv_istore (lv' := [(4, .int (nI i2)), (7, .int (nI i2)), (6, .int (nI i)), (5, .int (nI i)), (0, .ref (a 2)), (1, .int x), (2, .ref (a 4)), (3, .int (nI ns.length))]) hx hb dT_reach_48 hl (by decide) rfl (fun ls hl => ?_)
                refine lv_iinc (v := nI (i + 1)) (lv' := [(5, .int (nI (i + 1))), (4, .int (nI i2)), (7, .int (nI i2)), (6, .int (nI i)), (0, .ref (a 2)), (1, .int x), (2, .ref (a 4)), (3, .int (nI ns.length))]) hx hb dT_reach_50 hl (k := 3) rfl (sk_inc _) (by decide) rfl (fun ls hl => ?_)
                refine lv_iinc (v := nI (i + 1)) (lv' := [(6, .int (nI (i + 1))), (5, .int (nI (i + 1))), (4, .int (nI i2)), (7, .int (nI i2)), (0, .ref (a 2)), (1, .int x), (2, .ref (a 4)), (3, .int (nI ns.length))]) hx hb dT_reach_53 hl (k := 3) rfl (sk_inc _) (by decide) rfl (fun ls hl => ?_)
                refine lv_goto (tgt := 13) hx hb dT_reach_56 (by decide) ?_
                exact ih1 (i + 1) i2 (by omega) (hi2) (by rw [← hd]; exact (sk_down_hit (by omega) (by omega) hwn).symm) (by omega) _ _ hP hD hS ls (lv_sub hl [0, 1, 2, 4, 5, 6, 7] rfl)
              · skip
                exact absurd c40 (sk_nm1 (by omega))
    exact loop1 (ns.length - 0 + 1) 0 q0 (Nat.zero_le _) (hq0) (rfl) (Nat.lt_succ_self _) _ _ hP hD hS ls (lv_sub hl [0, 1, 2, 3, 4, 5, 6] rfl)
