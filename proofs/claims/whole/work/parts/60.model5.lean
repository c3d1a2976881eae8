abbrev wzM_look : List Cond := .code yM_look cM_look 7 (some .int) :: sk_W
abbrev rzM_look : Room := { frames := 1, cells := 0, slots := 0, locals := 21 }
set_option maxHeartbeats 4000000 in
set_option maxRecDepth 100000 in
theorem kM_look (l : Launch) (dC : Nat → ClassId) (dI : Nat → Nat → Nat) (a : Nat → Nat) (k : Nat → ClassId) (b : sk_Ob) (t : sk_Tr) (f : sk_Fi) (ex : sk_Ex) (lf : sk_F) (th : Int32) (A : Nat → Prop) (x y : Int32) (K : Nat) (hOK : sk_OK K (b, t, f)) (hR : sk_RM (b, t, f) ex) : Met l yM_look wzM_look rzM_look (va_Pc [.ref (a 0), .int x, .int y] (fun U => sk_PM dC dI a k (b, t, f) ex lf th U ∧ va_D A (sk_wM a k (b, t, f) ex lf th))) (va_Qi (fun r (u : sk_S × sk_Ex × sk_F × Int32) => r = sk_look (b, t, f) x y ∧ ∃ th2, u = ((b, t, f), ex, lf, th2)) (fun u U => va_P (dC, dI) vwCl (sk_wM a k u.1 u.2.1 u.2.2.1 u.2.2.2) U.heap ∧ va_D A (sk_wM a k u.1 u.2.1 u.2.2.1 u.2.2.2)) A) 0 0 A := by
  refine Met.ofW (cc := cM_look) (maxL := 7) (ret := (some .int)) (by decide) rfl ?_
  intro p e s m args below meth c s₁ B hml hv
  obtain ⟨rfl, ⟨hP, hK⟩, hD⟩ := hv
  have hx := B.exec
  have hb := B.bytes
  have hr := B.returns
  have hts : ∀ w ∈ sk_W, w.before ([.ref (a 0), .int x, .int y] : List Value).toArray s = true := fun w h => atoms_spec (ws := wzM_look) B.pre w (List.mem_cons_of_mem _ h)
  have hown : s.vm.findClass RM = some m.cls := findClass_of_methodNamed B.named
  have hlocks := B.notSynchronized
  have hS : va_S A s.heap s.heap [] := va_S.rf
  have hP : va_P (dC, dI) vwCl (sk_wMR a k th (nI b.1) b.2.2.1 b.2.2.2.1 ex.1 (nI t.1) t.2.1 t.2.2.1 t.2.2.2.2 ex.2.1 (nI f.1) f.2.1 f.2.2.1 ex.2.2.1 f.2.2.2.1 f.2.2.2.2.1 ex.2.2.2.1 ex.2.2.2.2.1 ex.2.2.2.2.2 lf) s.heap := hP
  have hD : va_D A (sk_wMR a k th (nI b.1) b.2.2.1 b.2.2.2.1 ex.1 (nI t.1) t.2.1 t.2.2.1 t.2.2.2.2 ex.2.1 (nI f.1) f.2.1 f.2.2.1 ex.2.2.1 f.2.2.2.1 f.2.2.2.2.1 ex.2.2.2.1 ex.2.2.2.2.1 ex.2.2.2.2.2 lf) := hD
  have hl := lv_entry ([.ref (a 0), .int x, .int y]) (n := 7) (Nat.le_of_ble_eq_true rfl)
  rw [lg_entry_eq]
  generalize (lg_sl ([.ref (a 0), .int x, .int y]) ++ List.replicate (7 - (lg_sl ([.ref (a 0), .int x, .int y])).length) Slot.unset).toArray = ls at hl ⊢
  have hl : lv_has ls 7 [(0, .ref (a 0)), (1, .int x), (2, .int y)] := hl
  have hT : sk_TO b.1 t := hOK.1
  have hA : sk_AC b.1 b.2.1 := hOK.2.1
  have hO : sk_OO b t := hOK.2.2.1
  have hch0 : ∀ o, b.1 ≤ o → b.2.2.2.1 o = 0 := hOK.2.2.2.2.1
  have hmk : f.1 ≤ K := hOK.2.2.2.2.2.2.1
  have hK5 : K ≤ 512 := hOK.2.2.2.2.2.1
  have h200 : t.1 ≤ 200 := hT.2.1
  have h60 : b.1 ≤ 60 := hT.2.2.1
  have h100 : sk_there f ≤ 100 := Nat.min_le_right _ _
  have hN : sk_RN t ex.2.1 := hR.1
  have hV : sk_RV b t ex.1 := hR.2.1
  have hF : ∀ i, i < sk_there f → sk_RF b f ex i := hR.2.2
  have hFO : ∀ i, i < sk_there f → sk_FO b t f i := hOK.2.2.2.2.2.2.2
  refine lv_aload_n hx hb dM_look_0 rfl (lv_at hl 0 rfl) ?_
  refine lv_iconst (v := nI 0) hx hb dM_look_1 (by decide) ?_
  refine va_put (D := (dC, dI)) (ci := 4) (v := .int (nI 0)) (ty := .int) (C := RM) (T := TM) (N := 20) hx hb hts inM tyM tyM_ok nmM hown hK hP hD hS 0 rfl rfl 0 (by decide) (hts _ wfM_62) (fun _ h9 => h9) rfl (by decide +kernel) rfl rfl (Nat.le_of_ble_eq_true rfl) dM_look_2 (fun H locs hP hD hS => ?_)
  have hP : va_P (dC, dI) vwCl (sk_wMR a k (nI 0) (nI b.1) b.2.2.1 b.2.2.2.1 ex.1 (nI t.1) t.2.1 t.2.2.1 t.2.2.2.2 ex.2.1 (nI f.1) f.2.1 f.2.2.1 ex.2.2.1 f.2.2.2.1 f.2.2.2.2.1 ex.2.2.2.1 ex.2.2.2.2.1 ex.2.2.2.2.2 lf) H := hP
  have hD : va_D A (sk_wMR a k (nI 0) (nI b.1) b.2.2.1 b.2.2.2.1 ex.1 (nI t.1) t.2.1 t.2.2.1 t.2.2.2.2 ex.2.1 (nI f.1) f.2.1 f.2.2.1 ex.2.2.1 f.2.2.2.1 f.2.2.2.2.1 ex.2.2.2.1 ex.2.2.2.2.1 ex.2.2.2.2.2 lf) := hD
  refine lv_aload_n hx hb dM_look_5 rfl (lv_at hl 0 rfl) ?_
  refine lv_iload_n hx hb dM_look_6 rfl (lv_at hl 1 rfl) ?_
  refine va_calli (va_runV (As := [.int x]) (rest := []) ⟨hx, hb, hml, hown, hts⟩ (kM_isObject l dC dI a k b t f ex lf (nI 0) x) (cwV 1 hts (sk_gV wmM_82 wiM_isObject wsM_isObject wnM wcM_isObject) rfl rfl rfl (by decide +kernel) ⟨Nat.le_of_ble_eq_true rfl, Nat.le_of_ble_eq_true rfl⟩) ⟨sk_blindM _, va_recv hK hP (ci := 4) (q0 := 0) rfl rfl, fun U hU hW => ⟨rfl, sk_atM (S := (b, t, f)) (ex := ex) (lf := lf) (th := nI 0) hP hK hU hW⟩⟩ rfl rfl hl.1 rfl (lv_room (Nat.le_of_ble_eq_true rfl)) dM_look_7 ⟨Nat.le_of_ble_eq_true rfl, Nat.le_of_ble_eq_true rfl⟩) hS (fun _ _ h => h.elim) (fun _ h => h.elim) (fun r7 u7 U9 H locs ht hvm w7 hB hz hk hS => ?_)
  have hP : va_P (dC, dI) vwCl (sk_wMR a k (nI 0) (nI b.1) b.2.2.1 b.2.2.2.1 ex.1 (nI t.1) t.2.1 t.2.2.1 t.2.2.2.2 ex.2.1 (nI f.1) f.2.1 f.2.2.1 ex.2.2.1 f.2.2.2.1 f.2.2.2.2.1 ex.2.2.2.1 ex.2.2.2.2.1 ex.2.2.2.2.2 lf) H := hP.kept (fun j q hq => hk q.1 ((hP j q hq).lt) (fun h => h))
  clear hk hB ht
  rcases sk_bI_or (sk_hasB b.1 x) with ⟨h7, hv⟩ | ⟨h7, hv⟩
  · skip
    obtain rfl : r7 = nI 1 := w7.trans hv
    obtain ⟨o, ho, eo9⟩ := (sk_hasB_iff (by omega)).mp h7
    subst eo9
    obtain ⟨hs1, hs2, hs3⟩ := sk_shOk h200 hO ho
    refine lv_if_ne (tgt := 15) hx hb dM_look_10 (by decide) (fun _ => ?_) (fun q => absurd q (by decide))
    refine lv_iconst (v := nI 0) hx hb dM_look_15 (by decide) ?_
    refine lv_istore_n (lv' := [(3, .int (nI 0)), (0, .ref (a 0)), (1, .int (nI o)), (2, .int y)]) hx hb dM_look_16 rfl hl (by decide) rfl (fun ls hl => ?_)
    refine lv_iload_n hx hb dM_look_17 rfl (lv_at hl 3 rfl) ?_
    rcases sk_sw5 y with rfl | rfl | rfl | rfl | rfl | rfl | hsw
    · skip
      refine lv_tableIn (off := 38) (tgt := 56) hx hb dM_look_18 (by decide) (by decide) (by decide +kernel) (by decide) ?_
      refine lv_aload_n hx hb dM_look_56 rfl (lv_at hl 1 rfl) ?_
      refine va_get (D := (dC, dI)) (ci := 4) (v := .ref (a 1)) (C := RM) (T := TM) (N := 20) hx hb hts inM hown hK hP 0 rfl rfl 2 (by decide) (hts _ wfM_7) (fun _ h9 => h9) rfl dM_look_57 ?_
      refine lv_iload_n hx hb dM_look_60 rfl (lv_at hl 2 rfl) ?_
      refine va_iald hx hb hK hP 1 0 rfl rfl (vp_in_nI (show o < 60 by omega) (by decide)) dM_look_61 ?_
      refine lv_topi (fun x61 e61 => ?_)
      rw [nI_clamp (show o < 2 ^ 31 by omega)] at e61
      exact W.iret (v := x61) hx hb hr (fun U9 ht hW => ⟨⟨x61, ((b, t, f), ex, lf, nI 0), rfl, ⟨by rw [sk_look_y h60 ho]; unfold sk_lookN; rw [if_pos (by decide)]; exact e61, _, rfl⟩, sk_endw ht hP hD⟩, hS.F ht⟩) hS.2.2 dM_look_62
    · skip
      refine lv_tableIn (off := 45) (tgt := 63) hx hb dM_look_18 (by decide) (by decide) (by decide +kernel) (by decide) ?_
      refine lv_aload_n hx hb dM_look_63 rfl (lv_at hl 1 rfl) ?_
      refine lv_iload_n hx hb dM_look_64 rfl (lv_at hl 2 rfl) ?_
      refine va_calli (va_runV (As := [.int (nI o)]) (rest := []) ⟨hx, hb, hml, hown, hts⟩ (kM_above l dC dI a k b t f ex lf (nI 0) o hT hO ho) (cwV 1 hts (sk_gV wmM_95 wiM_above wsM_above wnM wcM_above) rfl rfl rfl (by decide +kernel) ⟨Nat.le_of_ble_eq_true rfl, Nat.le_of_ble_eq_true rfl⟩) ⟨sk_blindM _, va_recv hK hP (ci := 4) (q0 := 0) rfl rfl, fun U hU hW => ⟨rfl, sk_atM (S := (b, t, f)) (ex := ex) (lf := lf) (th := nI 0) hP hK hU hW⟩⟩ rfl rfl hl.1 rfl (lv_room (Nat.le_of_ble_eq_true rfl)) dM_look_65 ⟨Nat.le_of_ble_eq_true rfl, Nat.le_of_ble_eq_true rfl⟩) hS (fun _ _ h => h.elim) (fun _ h => h.elim) (fun r65 u65 U9 H locs ht hvm w65 hB hz hk hS => ?_)
      have hP : va_P (dC, dI) vwCl (sk_wMR a k (nI 0) (nI b.1) b.2.2.1 b.2.2.2.1 ex.1 (nI t.1) t.2.1 t.2.2.1 t.2.2.2.2 ex.2.1 (nI f.1) f.2.1 f.2.2.1 ex.2.2.1 f.2.2.2.1 f.2.2.2.2.1 ex.2.2.2.1 ex.2.2.2.2.1 ex.2.2.2.2.2 lf) H := hP.kept (fun j q hq => hk q.1 ((hP j q hq).lt) (fun h => h))
      clear hk hB ht
      exact W.iret (v := r65) hx hb hr (fun U9 ht hW => ⟨⟨r65, ((b, t, f), ex, lf, nI 0), rfl, ⟨by rw [sk_look_y h60 ho]; unfold sk_lookN; rw [if_neg (by decide), if_pos (by decide)]; exact w65, _, rfl⟩, sk_endw ht hP hD⟩, hS.F ht⟩) hS.2.2 dM_look_68
    · skip
      refine lv_tableIn (off := 51) (tgt := 69) hx hb dM_look_18 (by decide) (by decide) (by decide +kernel) (by decide) ?_
      refine lv_aload_n hx hb dM_look_69 rfl (lv_at hl 1 rfl) ?_
      refine va_get (D := (dC, dI)) (ci := 4) (v := .ref (a 6)) (C := RM) (T := TM) (N := 20) hx hb hts inM hown hK hP 0 rfl rfl 8 (by decide) (hts _ wfM_29) (fun _ h9 => h9) rfl dM_look_70 ?_
      refine lv_aload_n hx hb dM_look_73 rfl (lv_at hl 1 rfl) ?_
      refine va_get (D := (dC, dI)) (ci := 4) (v := .ref (a 1)) (C := RM) (T := TM) (N := 20) hx hb hts inM hown hK hP 0 rfl rfl 2 (by decide) (hts _ wfM_7) (fun _ h9 => h9) rfl dM_look_74 ?_
      refine lv_iload_n hx hb dM_look_77 rfl (lv_at hl 2 rfl) ?_
      refine va_iald hx hb hK hP 1 0 rfl rfl (vp_in_nI (show o < 60 by omega) (by decide)) dM_look_78 ?_
      refine lv_topi (fun x78 e78 => ?_)
      rw [nI_clamp (show o < 2 ^ 31 by omega)] at e78
      obtain rfl : x78 = nI (sk_sh b o) := e78.trans (hs2)
      refine va_iald hx hb hK hP 6 0 rfl rfl (vp_in_nI (show (sk_sh b o) < 200 by omega) (by decide)) dM_look_79 ?_
      refine lv_topi (fun x79 e79 => ?_)
      rw [nI_clamp (show (sk_sh b o) < 2 ^ 31 by omega)] at e79
      exact W.iret (v := x79) hx hb hr (fun U9 ht hW => ⟨⟨x79, ((b, t, f), ex, lf, nI 0), rfl, ⟨by rw [sk_look_y h60 ho]; unfold sk_lookN; rw [if_neg (by decide), if_neg (by decide), if_pos (by decide)]; exact e79, _, rfl⟩, sk_endw ht hP hD⟩, hS.F ht⟩) hS.2.2 dM_look_80
    · skip
      refine lv_tableIn (off := 63) (tgt := 81) hx hb dM_look_18 (by decide) (by decide) (by decide +kernel) (by decide) ?_
      refine lv_aload_n hx hb dM_look_81 rfl (lv_at hl 1 rfl) ?_
      refine va_get (D := (dC, dI)) (ci := 4) (v := .ref (a 2)) (C := RM) (T := TM) (N := 20) hx hb hts inM hown hK hP 0 rfl rfl 3 (by decide) (hts _ wfM_13) (fun _ h9 => h9) rfl dM_look_82 ?_
      refine lv_iload_n hx hb dM_look_85 rfl (lv_at hl 2 rfl) ?_
      refine va_iald hx hb hK hP 2 0 rfl rfl (vp_in_nI (show o < 60 by omega) (by decide)) dM_look_86 ?_
      refine lv_topi (fun x86 e86 => ?_)
      rw [nI_clamp (show o < 2 ^ 31 by omega)] at e86
      exact W.iret (v := x86) hx hb hr (fun U9 ht hW => ⟨⟨x86, ((b, t, f), ex, lf, nI 0), rfl, ⟨by rw [sk_look_y h60 ho]; unfold sk_lookN; rw [if_neg (by decide), if_neg (by decide), if_neg (by decide), if_pos (by decide)]; exact e86, _, rfl⟩, sk_endw ht hP hD⟩, hS.F ht⟩) hS.2.2 dM_look_87
    · skip
      refine lv_tableIn (off := 70) (tgt := 88) hx hb dM_look_18 (by decide) (by decide) (by decide +kernel) (by decide) ?_
      refine lv_aload_n hx hb dM_look_88 rfl (lv_at hl 1 rfl) ?_
      refine lv_iload_n hx hb dM_look_89 rfl (lv_at hl 2 rfl) ?_
      refine va_calli (va_runV (As := [.int (nI o)]) (rest := []) ⟨hx, hb, hml, hown, hts⟩ (kM_above l dC dI a k b t f ex lf (nI 0) o hT hO ho) (cwV 1 hts (sk_gV wmM_95 wiM_above wsM_above wnM wcM_above) rfl rfl rfl (by decide +kernel) ⟨Nat.le_of_ble_eq_true rfl, Nat.le_of_ble_eq_true rfl⟩) ⟨sk_blindM _, va_recv hK hP (ci := 4) (q0 := 0) rfl rfl, fun U hU hW => ⟨rfl, sk_atM (S := (b, t, f)) (ex := ex) (lf := lf) (th := nI 0) hP hK hU hW⟩⟩ rfl rfl hl.1 rfl (lv_room (Nat.le_of_ble_eq_true rfl)) dM_look_90 ⟨Nat.le_of_ble_eq_true rfl, Nat.le_of_ble_eq_true rfl⟩) hS (fun _ _ h => h.elim) (fun _ h => h.elim) (fun r90 u90 U9 H locs ht hvm w90 hB hz hk hS => ?_)
      have hP : va_P (dC, dI) vwCl (sk_wMR a k (nI 0) (nI b.1) b.2.2.1 b.2.2.2.1 ex.1 (nI t.1) t.2.1 t.2.2.1 t.2.2.2.2 ex.2.1 (nI f.1) f.2.1 f.2.2.1 ex.2.2.1 f.2.2.2.1 f.2.2.2.2.1 ex.2.2.2.1 ex.2.2.2.2.1 ex.2.2.2.2.2 lf) H := hP.kept (fun j q hq => hk q.1 ((hP j q hq).lt) (fun h => h))
      clear hk hB ht
      refine lv_istore (lv' := [(4, .int r90), (3, .int (nI 0)), (0, .ref (a 0)), (1, .int (nI o)), (2, .int (nI 4))]) hx hb dM_look_93 hl (by decide) rfl (fun ls hl => ?_)
      have loop1 : ∀ (nn : Nat) (z : Int32) (cn : Nat), sk_v b.1 z → cn + (sk_abv b.2.1 z).length = (sk_abv b.2.1 (b.2.1 o)).length → (sk_abv b.2.1 z).length < nn → ∀ (H : Heap) (locs : List Loc), va_P (dC, dI) vwCl (sk_wMR a k (nI 0) (nI b.1) b.2.2.1 b.2.2.2.1 ex.1 (nI t.1) t.2.1 t.2.2.1 t.2.2.2.2 ex.2.1 (nI f.1) f.2.1 f.2.2.1 ex.2.2.1 f.2.2.2.1 f.2.2.2.2.1 ex.2.2.2.1 ex.2.2.2.2.1 ex.2.2.2.2.2 lf) H → va_D A (sk_wMR a k (nI 0) (nI b.1) b.2.2.1 b.2.2.2.1 ex.1 (nI t.1) t.2.1 t.2.2.1 t.2.2.2.2 ex.2.1 (nI f.1) f.2.1 f.2.2.1 ex.2.2.1 f.2.2.2.1 f.2.2.2.2.1 ex.2.2.2.1 ex.2.2.2.2.1 ex.2.2.2.2.2 lf) → va_S A s.heap H locs → ∀ ls : Array Slot, lv_has ls 7 [(4, .int z), (3, .int (nI cn)), (0, .ref (a 0)), (1, .int (nI o))] → W p l e (headSpec wzM_look rzM_look).room s m ([.ref (a 0), .int (nI o), .int (nI 4)] : List Value).toArray below meth c H locs 0 0 (MQ below (va_Qi (fun r (u : sk_S × sk_Ex × sk_F × Int32) => r = sk_look (b, t, f) (nI o) (nI 4) ∧ ∃ th2, u = ((b, t, f), ex, lf, th2)) (fun u U => va_P (dC, dI) vwCl (sk_wM a k u.1 u.2.1 u.2.2.1 u.2.2.2) U.heap ∧ va_D A (sk_wM a k u.1 u.2.1 u.2.2.1 u.2.2.2)) A) ([.ref (a 0), .int (nI o), .int (nI 4)] : List Value).toArray s 0 0 A) (F0 m 95 ls []) := by
        intro nn
        induction nn with
        | zero => intro z cn hz he hmu; exact absurd hmu (Nat.not_lt_zero _)
        | succ nn ih1 =>
          intro z cn hz he hmu H locs hP hD hS ls hl
          rcases hz with rfl | ⟨q, hq, rfl⟩
          · skip
            refine lv_iload hx hb dM_look_95 (lv_at hl 0 rfl) ?_
            refine lv_if_lt (tgt := 114) hx hb dM_look_97 (by decide) (fun _ => ?_) (fun q => absurd (by decide) q)
            refine lv_iload_n hx hb dM_look_114 rfl (lv_at hl 1 rfl) ?_
            exact W.iret (v := nI cn) hx hb hr (fun U9 ht hW => ⟨⟨nI cn, ((b, t, f), ex, lf, nI 0), rfl, ⟨by rw [sk_look_y h60 ho]; unfold sk_lookN; rw [if_neg (by decide), if_neg (by decide), if_neg (by decide), if_neg (by decide), if_pos (by decide)]; show nI cn = nI (sk_abv b.2.1 (b.2.1 o)).length; rw [← he, sk_abv_m1, List.length_nil, Nat.add_zero], _, rfl⟩, sk_endw ht hP hD⟩, hS.F ht⟩) hS.2.2 dM_look_115
          · skip
            have hs9 := sk_abv_s hA hq
            have hl9 : (sk_abv b.2.1 (nI q)).length = (sk_abv b.2.1 (b.2.1 q)).length + 1 := by rw [hs9]; rfl
            refine lv_iload hx hb dM_look_95 (lv_at hl 0 rfl) ?_
            refine lv_if_lt (tgt := 114) hx hb dM_look_97 (by decide) (fun c97 => ?_) (fun c97 => ?_)
            · skip
              have n97 : q < 0 := (nI_ltI (a := q) (b := 0) (by omega) (by omega)).mp c97
              omega
            · skip
              have n97 : ¬ q < 0 := fun z9 => c97 ((nI_ltI (a := q) (b := 0) (by omega) (by omega)).mpr z9)
              refine lv_iinc (v := nI (cn + 1)) (lv' := [(3, .int (nI (cn + 1))), (4, .int (nI q)), (0, .ref (a 0)), (1, .int (nI o))]) hx hb dM_look_100 hl (k := 1) rfl (sk_inc _) (by decide) rfl (fun ls hl => ?_)
              refine lv_aload_n hx hb dM_look_103 rfl (lv_at hl 2 rfl) ?_
              refine lv_iload hx hb dM_look_104 (lv_at hl 1 rfl) ?_
              refine va_calli (va_runV (As := [.int (nI q)]) (rest := []) ⟨hx, hb, hml, hown, hts⟩ (kM_above l dC dI a k b t f ex lf (nI 0) q hT hO hq) (cwV 1 hts (sk_gV wmM_95 wiM_above wsM_above wnM wcM_above) rfl rfl rfl (by decide +kernel) ⟨Nat.le_of_ble_eq_true rfl, Nat.le_of_ble_eq_true rfl⟩) ⟨sk_blindM _, va_recv hK hP (ci := 4) (q0 := 0) rfl rfl, fun U hU hW => ⟨rfl, sk_atM (S := (b, t, f)) (ex := ex) (lf := lf) (th := nI 0) hP hK hU hW⟩⟩ rfl rfl hl.1 rfl (lv_room (Nat.le_of_ble_eq_true rfl)) dM_look_106 ⟨Nat.le_of_ble_eq_true rfl, Nat.le_of_ble_eq_true rfl⟩) hS (fun _ _ h => h.elim) (fun _ h => h.elim) (fun r106 u106 U9 H locs ht hvm w106 hB hz hk hS => ?_)
              have hP : va_P (dC, dI) vwCl (sk_wMR a k (nI 0) (nI b.1) b.2.2.1 b.2.2.2.1 ex.1 (nI t.1) t.2.1 t.2.2.1 t.2.2.2.2 ex.2.1 (nI f.1) f.2.1 f.2.2.1 ex.2.2.1 f.2.2.2.1 f.2.2.2.2.1 ex.2.2.2.1 ex.2.2.2.2.1 ex.2.2.2.2.2 lf) H := hP.kept (fun j q hq => hk q.1 ((hP j q hq).lt) (fun h => h))
              clear hk hB ht
              refine lv_istore (lv' := [(4, .int r106), (3, .int (nI (cn + 1))), (0, .ref (a 0)), (1, .int (nI o))]) hx hb dM_look_109 hl (by decide) rfl (fun ls hl => ?_)
              refine lv_goto (tgt := 95) hx hb dM_look_111 (by decide) ?_
              have hmx : (sk_abv b.2.1 r106).length < nn := by rw [w106]; omega
              exact ih1 r106 (cn + 1) (by rw [w106]; exact hA.2.1 q hq) (by rw [w106]; omega) (by omega) _ _ hP hD hS ls (lv_sub hl [0, 1, 2, 3] rfl)
      exact loop1 ((sk_abv b.2.1 r90).length + 1) r90 0 (by rw [w90]; exact hA.2.1 o ho) (by rw [w90]; exact Nat.zero_add _) (Nat.lt_succ_self _) _ _ hP hD hS ls (lv_sub hl [0, 1, 2, 3] rfl)
    · skip
      refine lv_tableIn (off := 98) (tgt := 116) hx hb dM_look_18 (by decide) (by decide) (by decide +kernel) (by decide) ?_
      refine lv_iconst (v := nI 0) hx hb dM_look_116 (by decide) ?_
      refine lv_istore (lv' := [(4, .int (nI 0)), (3, .int (nI 0)), (0, .ref (a 0)), (1, .int (nI o)), (2, .int (nI 5))]) hx hb dM_look_117 hl (by decide) rfl (fun ls hl => ?_)
      have loop2 : ∀ (nn : Nat) (cn i : Nat), i ≤ b.1 → cn = sk_cnt (fun y9 => decide (o ∈ sk_abv b.2.1 (b.2.1 y9))) i → b.1 - i < nn → ∀ (H : Heap) (locs : List Loc), va_P (dC, dI) vwCl (sk_wMR a k (nI 0) (nI b.1) b.2.2.1 b.2.2.2.1 ex.1 (nI t.1) t.2.1 t.2.2.1 t.2.2.2.2 ex.2.1 (nI f.1) f.2.1 f.2.2.1 ex.2.2.1 f.2.2.2.1 f.2.2.2.2.1 ex.2.2.2.1 ex.2.2.2.2.1 ex.2.2.2.2.2 lf) H → va_D A (sk_wMR a k (nI 0) (nI b.1) b.2.2.1 b.2.2.2.1 ex.1 (nI t.1) t.2.1 t.2.2.1 t.2.2.2.2 ex.2.1 (nI f.1) f.2.1 f.2.2.1 ex.2.2.1 f.2.2.2.1 f.2.2.2.2.1 ex.2.2.2.1 ex.2.2.2.2.1 ex.2.2.2.2.2 lf) → va_S A s.heap H locs → ∀ ls : Array Slot, lv_has ls 7 [(4, .int (nI i)), (3, .int (nI cn)), (0, .ref (a 0)), (1, .int (nI o))] → W p l e (headSpec wzM_look rzM_look).room s m ([.ref (a 0), .int (nI o), .int (nI 5)] : List Value).toArray below meth c H locs 0 0 (MQ below (va_Qi (fun r (u : sk_S × sk_Ex × sk_F × Int32) => r = sk_look (b, t, f) (nI o) (nI 5) ∧ ∃ th2, u = ((b, t, f), ex, lf, th2)) (fun u U => va_P (dC, dI) vwCl (sk_wM a k u.1 u.2.1 u.2.2.1 u.2.2.2) U.heap ∧ va_D A (sk_wM a k u.1 u.2.1 u.2.2.1 u.2.2.2)) A) ([.ref (a 0), .int (nI o), .int (nI 5)] : List Value).toArray s 0 0 A) (F0 m 119 ls []) := by
        intro nn
        induction nn with
        | zero => intro cn i hi hc hmu; exact absurd hmu (Nat.not_lt_zero _)
        | succ nn ih2 =>
          intro cn i hi hc hmu H locs hP hD hS ls hl
          refine lv_iload hx hb dM_look_119 (lv_at hl 0 rfl) ?_
          refine lv_aload_n hx hb dM_look_121 rfl (lv_at hl 2 rfl) ?_
          refine va_get (D := (dC, dI)) (ci := 4) (v := .int (nI b.1)) (C := RM) (T := TM) (N := 20) hx hb hts inM hown hK hP 0 rfl rfl 1 (by decide) (hts _ wfM_65) (fun _ h9 => h9) rfl dM_look_122 ?_
          refine lv_icmp_ge (tgt := 192) hx hb dM_look_125 (by decide) (fun c125 => ?_) (fun c125 => ?_)
          · skip
            have n125 : b.1 ≤ i := (nI_leI (a := b.1) (b := i) (by omega) (by omega)).mp c125
            refine lv_iload_n hx hb dM_look_192 rfl (lv_at hl 1 rfl) ?_
            exact W.iret (v := nI cn) hx hb hr (fun U9 ht hW => ⟨⟨nI cn, ((b, t, f), ex, lf, nI 0), rfl, ⟨by rw [sk_look_y h60 ho]; unfold sk_lookN; rw [if_neg (by decide), if_neg (by decide), if_neg (by decide), if_neg (by decide), if_neg (by decide), if_pos (by decide)]; show nI cn = nI (sk_cnt (fun y => decide (o ∈ sk_abv b.2.1 (b.2.1 y))) b.1); rw [hc, show i = b.1 by omega], _, rfl⟩, sk_endw ht hP hD⟩, hS.F ht⟩) hS.2.2 dM_look_193
          · skip
            have n125 : ¬ b.1 ≤ i := fun z9 => c125 ((nI_leI (a := b.1) (b := i) (by omega) (by omega)).mpr z9)
            refine lv_iconst (v := nI 0) hx hb dM_look_128 (by decide) ?_
            refine lv_istore (lv' := [(5, .int (nI 0)), (4, .int (nI i)), (3, .int (nI cn)), (0, .ref (a 0)), (1, .int (nI o))]) hx hb dM_look_129 hl (by decide) rfl (fun ls hl => ?_)
            refine lv_aload_n hx hb dM_look_131 rfl (lv_at hl 3 rfl) ?_
            refine lv_iload hx hb dM_look_132 (lv_at hl 1 rfl) ?_
            refine va_calli (va_runV (As := [.int (nI i)]) (rest := []) ⟨hx, hb, hml, hown, hts⟩ (kM_above l dC dI a k b t f ex lf (nI 0) i hT hO (by omega)) (cwV 1 hts (sk_gV wmM_95 wiM_above wsM_above wnM wcM_above) rfl rfl rfl (by decide +kernel) ⟨Nat.le_of_ble_eq_true rfl, Nat.le_of_ble_eq_true rfl⟩) ⟨sk_blindM _, va_recv hK hP (ci := 4) (q0 := 0) rfl rfl, fun U hU hW => ⟨rfl, sk_atM (S := (b, t, f)) (ex := ex) (lf := lf) (th := nI 0) hP hK hU hW⟩⟩ rfl rfl hl.1 rfl (lv_room (Nat.le_of_ble_eq_true rfl)) dM_look_134 ⟨Nat.le_of_ble_eq_true rfl, Nat.le_of_ble_eq_true rfl⟩) hS (fun _ _ h => h.elim) (fun _ h => h.elim) (fun r134 u134 U9 H locs ht hvm w134 hB hz hk hS => ?_)
            have hP : va_P (dC, dI) vwCl (sk_wMR a k (nI 0) (nI b.1) b.2.2.1 b.2.2.2.1 ex.1 (nI t.1) t.2.1 t.2.2.1 t.2.2.2.2 ex.2.1 (nI f.1) f.2.1 f.2.2.1 ex.2.2.1 f.2.2.2.1 f.2.2.2.2.1 ex.2.2.2.1 ex.2.2.2.2.1 ex.2.2.2.2.2 lf) H := hP.kept (fun j q hq => hk q.1 ((hP j q hq).lt) (fun h => h))
            clear hk hB ht
            refine lv_istore (lv' := [(6, .int r134), (5, .int (nI 0)), (4, .int (nI i)), (3, .int (nI cn)), (0, .ref (a 0)), (1, .int (nI o))]) hx hb dM_look_137 hl (by decide) rfl (fun ls hl => ?_)
            have loop3 : ∀ (nn : Nat) (z : Int32) (w5 : Int32), sk_v b.1 z → ((w5 = nI 1 ∧ decide (o ∈ sk_abv b.2.1 (b.2.1 i)) = true) ∨ (w5 = nI 0 ∧ decide (o ∈ sk_abv b.2.1 z) = decide (o ∈ sk_abv b.2.1 (b.2.1 i)))) → (sk_abv b.2.1 z).length < nn → ∀ (H : Heap) (locs : List Loc), va_P (dC, dI) vwCl (sk_wMR a k (nI 0) (nI b.1) b.2.2.1 b.2.2.2.1 ex.1 (nI t.1) t.2.1 t.2.2.1 t.2.2.2.2 ex.2.1 (nI f.1) f.2.1 f.2.2.1 ex.2.2.1 f.2.2.2.1 f.2.2.2.2.1 ex.2.2.2.1 ex.2.2.2.2.1 ex.2.2.2.2.2 lf) H → va_D A (sk_wMR a k (nI 0) (nI b.1) b.2.2.1 b.2.2.2.1 ex.1 (nI t.1) t.2.1 t.2.2.1 t.2.2.2.2 ex.2.1 (nI f.1) f.2.1 f.2.2.1 ex.2.2.1 f.2.2.2.1 f.2.2.2.2.1 ex.2.2.2.1 ex.2.2.2.2.1 ex.2.2.2.2.2 lf) → va_S A s.heap H locs → ∀ ls : Array Slot, lv_has ls 7 [(6, .int z), (5, .int w5), (4, .int (nI i)), (3, .int (nI cn)), (0, .ref (a 0)), (1, .int (nI o))] → W p l e (headSpec wzM_look rzM_look).room s m ([.ref (a 0), .int (nI o), .int (nI 5)] : List Value).toArray below meth c H locs 0 0 (MQ below (va_Qi (fun r (u : sk_S × sk_Ex × sk_F × Int32) => r = sk_look (b, t, f) (nI o) (nI 5) ∧ ∃ th2, u = ((b, t, f), ex, lf, th2)) (fun u U => va_P (dC, dI) vwCl (sk_wM a k u.1 u.2.1 u.2.2.1 u.2.2.2) U.heap ∧ va_D A (sk_wM a k u.1 u.2.1 u.2.2.1 u.2.2.2)) A) ([.ref (a 0), .int (nI o), .int (nI 5)] : List Value).toArray s 0 0 A) (F0 m 139 ls []) := by
              intro nn
              induction nn with
              | zero => intro z w5 hz hi5 hmu; exact absurd hmu (Nat.not_lt_zero _)
              | succ nn ih3 =>
                intro z w5 hz hi5 hmu H locs hP hD hS ls hl
                rcases hz with rfl | ⟨q, hq, rfl⟩ <;> rcases hi5 with ⟨rfl, h5⟩ | ⟨rfl, h5⟩
                · skip
                  refine lv_iload hx hb dM_look_139 (lv_at hl 0 rfl) ?_
                  refine lv_if_lt (tgt := 173) hx hb dM_look_141 (by decide) (fun _ => ?_) (fun q => absurd (by decide) q)
                  refine lv_iload_n hx hb dM_look_173 rfl (lv_at hl 3 rfl) ?_
                  refine lv_iload hx hb dM_look_174 (lv_at hl 1 rfl) ?_
                  refine lv_if_eq (tgt := 183) hx hb dM_look_176 (by decide) (fun q => absurd q (by decide)) (fun _ => ?_)
                  refine lv_iconst (v := nI 1) hx hb dM_look_179 (by decide) ?_
                  refine lv_goto (tgt := 184) hx hb dM_look_180 (by decide) ?_
                  refine lv_iadd hx hb dM_look_184 ?_
                  refine lv_topi (fun x184 e184 => ?_)
                  obtain rfl : x184 = nI (cn + 1) := e184.trans (nI_add _ _)
                  refine lv_istore_n (lv' := [(3, .int (nI (cn + 1))), (6, .int (-1)), (5, .int (nI 1)), (4, .int (nI i)), (0, .ref (a 0)), (1, .int (nI o))]) hx hb dM_look_185 rfl hl (by decide) rfl (fun ls hl => ?_)
                  refine lv_iinc (v := nI (i + 1)) (lv' := [(4, .int (nI (i + 1))), (3, .int (nI (cn + 1))), (6, .int (-1)), (5, .int (nI 1)), (0, .ref (a 0)), (1, .int (nI o))]) hx hb dM_look_186 hl (k := 3) rfl (sk_inc _) (by decide) rfl (fun ls hl => ?_)
                  refine lv_goto (tgt := 119) hx hb dM_look_189 (by decide) ?_
                  exact ih2 (cn + 1) (i + 1) (by omega) (sk_cnt_s hc h5) (by omega) _ _ hP hD hS ls (lv_sub hl [0, 1, 4, 5] rfl)
                · skip
                  refine lv_iload hx hb dM_look_139 (lv_at hl 0 rfl) ?_
                  refine lv_if_lt (tgt := 173) hx hb dM_look_141 (by decide) (fun _ => ?_) (fun q => absurd (by decide) q)
                  refine lv_iload_n hx hb dM_look_173 rfl (lv_at hl 3 rfl) ?_
                  refine lv_iload hx hb dM_look_174 (lv_at hl 1 rfl) ?_
                  refine lv_if_eq (tgt := 183) hx hb dM_look_176 (by decide) (fun _ => ?_) (fun q => absurd (by decide) q)
                  refine lv_iconst (v := nI 0) hx hb dM_look_183 (by decide) ?_
                  refine lv_iadd hx hb dM_look_184 ?_
                  refine lv_topi (fun x184 e184 => ?_)
                  obtain rfl : x184 = nI (cn + 0) := e184.trans (nI_add _ _)
                  refine lv_istore_n (lv' := [(3, .int (nI (cn + 0))), (6, .int (-1)), (5, .int (nI 0)), (4, .int (nI i)), (0, .ref (a 0)), (1, .int (nI o))]) hx hb dM_look_185 rfl hl (by decide) rfl (fun ls hl => ?_)
                  refine lv_iinc (v := nI (i + 1)) (lv' := [(4, .int (nI (i + 1))), (3, .int (nI (cn + 0))), (6, .int (-1)), (5, .int (nI 0)), (0, .ref (a 0)), (1, .int (nI o))]) hx hb dM_look_186 hl (k := 3) rfl (sk_inc _) (by decide) rfl (fun ls hl => ?_)
                  refine lv_goto (tgt := 119) hx hb dM_look_189 (by decide) ?_
                  exact ih2 (cn + 0) (i + 1) (by omega) (sk_cnt_n hc (by show decide (o ∈ sk_abv b.2.1 (b.2.1 i)) = false; rw [← h5, sk_abv_m1]; exact decide_eq_false List.not_mem_nil)) (by omega) _ _ hP hD hS ls (lv_sub hl [0, 1, 4, 5] rfl)
                · skip
                  have hs9 := sk_abv_s hA hq
                  have hl9 : (sk_abv b.2.1 (nI q)).length = (sk_abv b.2.1 (b.2.1 q)).length + 1 := by rw [hs9]; rfl
                  refine lv_iload hx hb dM_look_139 (lv_at hl 0 rfl) ?_
                  refine lv_if_lt (tgt := 173) hx hb dM_look_141 (by decide) (fun c141 => ?_) (fun c141 => ?_)
                  · skip
                    have n141 : q < 0 := (nI_ltI (a := q) (b := 0) (by omega) (by omega)).mp c141
                    omega
                  · skip
                    have n141 : ¬ q < 0 := fun z9 => c141 ((nI_ltI (a := q) (b := 0) (by omega) (by omega)).mpr z9)
                    refine lv_iload hx hb dM_look_144 (lv_at hl 1 rfl) ?_
                    refine lv_if_ne (tgt := 155) hx hb dM_look_146 (by decide) (fun _ => ?_) (fun q => absurd q (by decide))
                    refine lv_iconst (v := nI 1) hx hb dM_look_155 (by decide) ?_
                    refine lv_goto (tgt := 160) hx hb dM_look_156 (by decide) ?_
                    refine lv_istore (lv' := [(5, .int (nI 1)), (6, .int (nI q)), (4, .int (nI i)), (3, .int (nI cn)), (0, .ref (a 0)), (1, .int (nI o))]) hx hb dM_look_160 hl (by decide) rfl (fun ls hl => ?_)
                    refine lv_aload_n hx hb dM_look_162 rfl (lv_at hl 4 rfl) ?_
                    refine lv_iload hx hb dM_look_163 (lv_at hl 1 rfl) ?_
                    refine va_calli (va_runV (As := [.int (nI q)]) (rest := []) ⟨hx, hb, hml, hown, hts⟩ (kM_above l dC dI a k b t f ex lf (nI 0) q hT hO hq) (cwV 1 hts (sk_gV wmM_95 wiM_above wsM_above wnM wcM_above) rfl rfl rfl (by decide +kernel) ⟨Nat.le_of_ble_eq_true rfl, Nat.le_of_ble_eq_true rfl⟩) ⟨sk_blindM _, va_recv hK hP (ci := 4) (q0 := 0) rfl rfl, fun U hU hW => ⟨rfl, sk_atM (S := (b, t, f)) (ex := ex) (lf := lf) (th := nI 0) hP hK hU hW⟩⟩ rfl rfl hl.1 rfl (lv_room (Nat.le_of_ble_eq_true rfl)) dM_look_165 ⟨Nat.le_of_ble_eq_true rfl, Nat.le_of_ble_eq_true rfl⟩) hS (fun _ _ h => h.elim) (fun _ h => h.elim) (fun r165 u165 U9 H locs ht hvm w165 hB hz hk hS => ?_)
                    have hP : va_P (dC, dI) vwCl (sk_wMR a k (nI 0) (nI b.1) b.2.2.1 b.2.2.2.1 ex.1 (nI t.1) t.2.1 t.2.2.1 t.2.2.2.2 ex.2.1 (nI f.1) f.2.1 f.2.2.1 ex.2.2.1 f.2.2.2.1 f.2.2.2.2.1 ex.2.2.2.1 ex.2.2.2.2.1 ex.2.2.2.2.2 lf) H := hP.kept (fun j q hq => hk q.1 ((hP j q hq).lt) (fun h => h))
                    clear hk hB ht
                    refine lv_istore (lv' := [(6, .int r165), (5, .int (nI 1)), (4, .int (nI i)), (3, .int (nI cn)), (0, .ref (a 0)), (1, .int (nI o))]) hx hb dM_look_168 hl (by decide) rfl (fun ls hl => ?_)
                    refine lv_goto (tgt := 139) hx hb dM_look_170 (by decide) ?_
                    have hmx : (sk_abv b.2.1 r165).length < nn := by rw [w165]; omega
                    exact ih3 r165 (nI 1) (by rw [w165]; exact hA.2.1 q hq) (Or.inl ⟨rfl, h5⟩) (by omega) _ _ hP hD hS ls (lv_sub hl [0, 1, 2, 3, 4, 5] rfl)
                · skip
                  have hs9 := sk_abv_s hA hq
                  have hl9 : (sk_abv b.2.1 (nI q)).length = (sk_abv b.2.1 (b.2.1 q)).length + 1 := by rw [hs9]; rfl
                  refine lv_iload hx hb dM_look_139 (lv_at hl 0 rfl) ?_
                  refine lv_if_lt (tgt := 173) hx hb dM_look_141 (by decide) (fun c141 => ?_) (fun c141 => ?_)
                  · skip
                    have n141 : q < 0 := (nI_ltI (a := q) (b := 0) (by omega) (by omega)).mp c141
                    omega
                  · skip
                    have n141 : ¬ q < 0 := fun z9 => c141 ((nI_ltI (a := q) (b := 0) (by omega) (by omega)).mpr z9)
                    refine lv_iload hx hb dM_look_144 (lv_at hl 1 rfl) ?_
                    refine lv_if_ne (tgt := 155) hx hb dM_look_146 (by decide) (fun q => absurd q (by decide)) (fun _ => ?_)
                    refine lv_iload hx hb dM_look_149 (lv_at hl 0 rfl) ?_
                    refine lv_iload_n hx hb dM_look_151 rfl (lv_at hl 5 rfl) ?_
                    refine lv_icmp_ne (tgt := 159) hx hb dM_look_152 (by decide) (fun c152 => ?_) (fun c152 => ?_)
                    · skip
                      have n152 : ¬ q = o := fun z9 => c152 ((nI_eq (a := q) (b := o) (by omega) (by omega)).mpr z9)
                      refine lv_iconst (v := nI 0) hx hb dM_look_159 (by decide) ?_
                      refine lv_istore (lv' := [(5, .int (nI 0)), (6, .int (nI q)), (4, .int (nI i)), (3, .int (nI cn)), (0, .ref (a 0)), (1, .int (nI o))]) hx hb dM_look_160 hl (by decide) rfl (fun ls hl => ?_)
                      refine lv_aload_n hx hb dM_look_162 rfl (lv_at hl 4 rfl) ?_
                      refine lv_iload hx hb dM_look_163 (lv_at hl 1 rfl) ?_
                      refine va_calli (va_runV (As := [.int (nI q)]) (rest := []) ⟨hx, hb, hml, hown, hts⟩ (kM_above l dC dI a k b t f ex lf (nI 0) q hT hO hq) (cwV 1 hts (sk_gV wmM_95 wiM_above wsM_above wnM wcM_above) rfl rfl rfl (by decide +kernel) ⟨Nat.le_of_ble_eq_true rfl, Nat.le_of_ble_eq_true rfl⟩) ⟨sk_blindM _, va_recv hK hP (ci := 4) (q0 := 0) rfl rfl, fun U hU hW => ⟨rfl, sk_atM (S := (b, t, f)) (ex := ex) (lf := lf) (th := nI 0) hP hK hU hW⟩⟩ rfl rfl hl.1 rfl (lv_room (Nat.le_of_ble_eq_true rfl)) dM_look_165 ⟨Nat.le_of_ble_eq_true rfl, Nat.le_of_ble_eq_true rfl⟩) hS (fun _ _ h => h.elim) (fun _ h => h.elim) (fun r165 u165 U9 H locs ht hvm w165 hB hz hk hS => ?_)
                      have hP : va_P (dC, dI) vwCl (sk_wMR a k (nI 0) (nI b.1) b.2.2.1 b.2.2.2.1 ex.1 (nI t.1) t.2.1 t.2.2.1 t.2.2.2.2 ex.2.1 (nI f.1) f.2.1 f.2.2.1 ex.2.2.1 f.2.2.2.1 f.2.2.2.2.1 ex.2.2.2.1 ex.2.2.2.2.1 ex.2.2.2.2.2 lf) H := hP.kept (fun j q hq => hk q.1 ((hP j q hq).lt) (fun h => h))
                      clear hk hB ht
                      refine lv_istore (lv' := [(6, .int r165), (5, .int (nI 0)), (4, .int (nI i)), (3, .int (nI cn)), (0, .ref (a 0)), (1, .int (nI o))]) hx hb dM_look_168 hl (by decide) rfl (fun ls hl => ?_)
                      refine lv_goto (tgt := 139) hx hb dM_look_170 (by decide) ?_
                      have hmx : (sk_abv b.2.1 r165).length < nn := by rw [w165]; omega
                      exact ih3 r165 (nI 0) (by rw [w165]; exact hA.2.1 q hq) (Or.inr ⟨rfl, by rw [w165, ← h5, hs9]; simp [show ¬ o = q from fun z9 => n152 z9.symm]⟩) (by omega) _ _ hP hD hS ls (lv_sub hl [0, 1, 2, 3, 4, 5] rfl)
                    · skip
                      have n152 : q = o := (nI_eq (a := q) (b := o) (by omega) (by omega)).mp c152
                      refine lv_iconst (v := nI 1) hx hb dM_look_155 (by decide) ?_
                      refine lv_goto (tgt := 160) hx hb dM_look_156 (by decide) ?_
                      refine lv_istore (lv' := [(5, .int (nI 1)), (6, .int (nI q)), (4, .int (nI i)), (3, .int (nI cn)), (0, .ref (a 0)), (1, .int (nI o))]) hx hb dM_look_160 hl (by decide) rfl (fun ls hl => ?_)
                      refine lv_aload_n hx hb dM_look_162 rfl (lv_at hl 4 rfl) ?_
                      refine lv_iload hx hb dM_look_163 (lv_at hl 1 rfl) ?_
                      refine va_calli (va_runV (As := [.int (nI q)]) (rest := []) ⟨hx, hb, hml, hown, hts⟩ (kM_above l dC dI a k b t f ex lf (nI 0) q hT hO hq) (cwV 1 hts (sk_gV wmM_95 wiM_above wsM_above wnM wcM_above) rfl rfl rfl (by decide +kernel) ⟨Nat.le_of_ble_eq_true rfl, Nat.le_of_ble_eq_true rfl⟩) ⟨sk_blindM _, va_recv hK hP (ci := 4) (q0 := 0) rfl rfl, fun U hU hW => ⟨rfl, sk_atM (S := (b, t, f)) (ex := ex) (lf := lf) (th := nI 0) hP hK hU hW⟩⟩ rfl rfl hl.1 rfl (lv_room (Nat.le_of_ble_eq_true rfl)) dM_look_165 ⟨Nat.le_of_ble_eq_true rfl, Nat.le_of_ble_eq_true rfl⟩) hS (fun _ _ h => h.elim) (fun _ h => h.elim) (fun r165 u165 U9 H locs ht hvm w165 hB hz hk hS => ?_)
                      have hP : va_P (dC, dI) vwCl (sk_wMR a k (nI 0) (nI b.1) b.2.2.1 b.2.2.2.1 ex.1 (nI t.1) t.2.1 t.2.2.1 t.2.2.2.2 ex.2.1 (nI f.1) f.2.1 f.2.2.1 ex.2.2.1 f.2.2.2.1 f.2.2.2.2.1 ex.2.2.2.1 ex.2.2.2.2.1 ex.2.2.2.2.2 lf) H := hP.kept (fun j q hq => hk q.1 ((hP j q hq).lt) (fun h => h))
                      clear hk hB ht
                      refine lv_istore (lv' := [(6, .int r165), (5, .int (nI 1)), (4, .int (nI i)), (3, .int (nI cn)), (0, .ref (a 0)), (1, .int (nI o))]) hx hb dM_look_168 hl (by decide) rfl (fun ls hl => ?_)
                      refine lv_goto (tgt := 139) hx hb dM_look_170 (by decide) ?_
                      have hmx : (sk_abv b.2.1 r165).length < nn := by rw [w165]; omega
                      exact ih3 r165 (nI 1) (by rw [w165]; exact hA.2.1 q hq) (Or.inl ⟨rfl, by rw [← h5, hs9, n152, decide_eq_true List.mem_cons_self]⟩) (by omega) _ _ hP hD hS ls (lv_sub hl [0, 1, 2, 3, 4, 5] rfl)
            exact loop3 ((sk_abv b.2.1 r134).length + 1) r134 (nI 0) (by rw [w134]; exact hA.2.1 i (by omega)) (Or.inr ⟨rfl, by rw [w134]⟩) (Nat.lt_succ_self _) _ _ hP hD hS ls (lv_sub hl [0, 1, 2, 3, 4, 5] rfl)
      exact loop2 (b.1 - 0 + 1) 0 0 (Nat.zero_le _) (rfl) (Nat.lt_succ_self _) _ _ hP hD hS ls (lv_sub hl [0, 1, 2, 3] rfl)
    · skip
      refine lv_tableOut (tgt := 194) hx hb dM_look_18 hsw (by decide) ?_
      refine lv_iconst (v := (-1)) hx hb dM_look_194 (by decide) ?_
      exact W.iret (v := (-1)) hx hb hr (fun U9 ht hW => ⟨⟨(-1), ((b, t, f), ex, lf, nI 0), rfl, ⟨by rw [sk_look_y h60 ho]; unfold sk_lookN; obtain ⟨z0, z1, z2, z3, z4, z5⟩ := sk_ne_of5 hsw; rw [if_neg z0, if_neg z1, if_neg z2, if_neg z3, if_neg z4, if_neg z5], _, rfl⟩, sk_endw ht hP hD⟩, hS.F ht⟩) hS.2.2 dM_look_195
  · skip
    obtain rfl : r7 = nI 0 := w7.trans hv
    refine lv_if_ne (tgt := 15) hx hb dM_look_10 (by decide) (fun q => absurd q (by decide)) (fun _ => ?_)
    refine lv_iconst (v := (-1)) hx hb dM_look_13 (by decide) ?_
    have hset := sk_look_n (S := (b, t, f)) (w := y) h7
    exact W.iret (v := (-1)) hx hb hr (fun U9 ht hW => ⟨⟨(-1), ((b, t, f), ex, lf, nI 0), rfl, ⟨hset.symm, _, rfl⟩, sk_endw ht hP hD⟩, hS.F ht⟩) hS.2.2 dM_look_14
