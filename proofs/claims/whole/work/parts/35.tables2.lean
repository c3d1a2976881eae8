abbrev wzF_add : List Cond := .code yF_add cF_add 8 (some .int) :: sk_W
abbrev rzF_add : Room := { frames := 1, cells := 0, slots := 0, locals := 30 }
set_option maxHeartbeats 4000000 in
set_option maxRecDepth 100000 in
theorem kF_add (l : Launch) (dC : Nat → ClassId) (dI : Nat → Nat → Nat) (a : Nat → Nat) (k : Nat → ClassId) (b : sk_Ob) (t : sk_Tr) (f : sk_Fi) (wt : sk_F) (A : Nat → Prop) (x1 x2 x3 x4 : Int32) (wl : List Nat) (hmk : f.1 < 1000) : Met l yF_add wzF_add rzF_add (va_Pc [.ref (a 3), .int x1, .int x2, .int x3, .int x4, .long (lN (sk_nb wl))] (fun U => sk_PX dC dI a k (b, t, f) wt U ∧ va_D A (sk_wX a k (b, t, f) wt))) (va_Qi (fun r (u : sk_S × sk_F) => r = nI (f.1 % 100) ∧ u = ((b, t, sk_add f x1 x2 x3 x4 wl), wt)) (fun u U => va_P (dC, dI) vwCl (sk_wX a k u.1 u.2) U.heap ∧ va_D A (sk_wX a k u.1 u.2)) A) 0 0 A := by
  refine Met.ofW (cc := cF_add) (maxL := 8) (ret := (some .int)) (by decide) rfl ?_
  intro p e s m args below meth c s₁ B hml hv
  obtain ⟨rfl, ⟨hP, hK, hN⟩, hD⟩ := hv
  have hx := B.exec
  have hb := B.bytes
  have hr := B.returns
  have hts : ∀ w ∈ sk_W, w.before ([.ref (a 3), .int x1, .int x2, .int x3, .int x4, .long (lN (sk_nb wl))] : List Value).toArray s = true := fun w h => atoms_spec (ws := wzF_add) B.pre w (List.mem_cons_of_mem _ h)
  have hown : s.vm.findClass RF = some m.cls := findClass_of_methodNamed B.named
  have hlocks := B.notSynchronized
  have hS : va_S A s.heap s.heap [] := va_S.rf
  have hP : va_P (dC, dI) vwCl (sk_wR a k (nI b.1) b.2.1 b.2.2.1 b.2.2.2.1 b.2.2.2.2 (nI t.1) t.2.1 t.2.2.1 t.2.2.2.1 t.2.2.2.2 (nI f.1) (nI (sk_there f)) (nI (f.1 % 100)) f.2.1 f.2.2.1 f.2.2.2.1 f.2.2.2.2.1 (fun i => lN (sk_nb (f.2.2.2.2.2.1 i))) (fun i => sk_bI (f.2.2.2.2.2.2 i)) wt) s.heap := hP
  have hD : va_D A (sk_wR a k (nI b.1) b.2.1 b.2.2.1 b.2.2.2.1 b.2.2.2.2 (nI t.1) t.2.1 t.2.2.1 t.2.2.2.1 t.2.2.2.2 (nI f.1) (nI (sk_there f)) (nI (f.1 % 100)) f.2.1 f.2.2.1 f.2.2.2.1 f.2.2.2.2.1 (fun i => lN (sk_nb (f.2.2.2.2.2.1 i))) (fun i => sk_bI (f.2.2.2.2.2.2 i)) wt) := hD
  have hl := lv_entry ([.ref (a 3), .int x1, .int x2, .int x3, .int x4, .long (lN (sk_nb wl))]) (n := 8) (Nat.le_of_ble_eq_true rfl)
  rw [lg_entry_eq]
  generalize (lg_sl ([.ref (a 3), .int x1, .int x2, .int x3, .int x4, .long (lN (sk_nb wl))]) ++ List.replicate (8 - (lg_sl ([.ref (a 3), .int x1, .int x2, .int x3, .int x4, .long (lN (sk_nb wl))])).length) Slot.unset).toArray = ls at hl ⊢
  have hl : lv_has ls 8 [(0, .ref (a 3)), (1, .int x1), (2, .int x2), (3, .int x3), (4, .int x4), (5, .long (lN (sk_nb wl)))] := hl
  have h100 : f.1 % 100 < 100 := Nat.mod_lt _ (by decide)
  refine lv_aload_n hx hb dF_add_0 rfl (lv_at hl 0 rfl) ?_
  refine va_get (D := (dC, dI)) (ci := 0) (v := .int (nI (f.1 % 100))) (C := RF) (T := TF) (N := 9) hx hb hts inF hown hK hP 3 rfl rfl 8 (by decide) (hts _ wfF_39) (fun _ h9 => h9) rfl dF_add_1 ?_
  refine lv_istore (lv' := [(7, .int (nI (f.1 % 100))), (0, .ref (a 3)), (1, .int x1), (2, .int x2), (3, .int x3), (4, .int x4), (5, .long (lN (sk_nb wl)))]) hx hb dF_add_4 hl (by decide) rfl (fun ls hl => ?_)
  refine lv_aload_n hx hb dF_add_6 rfl (lv_at hl 1 rfl) ?_
  refine va_get (D := (dC, dI)) (ci := 0) (v := .ref (a 13)) (C := RF) (T := TF) (N := 9) hx hb hts inF hown hK hP 3 rfl rfl 0 (by decide) (hts _ wfF_9) (fun _ h9 => h9) rfl dF_add_7 ?_
  refine lv_iload hx hb dF_add_10 (lv_at hl 0 rfl) ?_
  refine lv_iload_n hx hb dF_add_12 rfl (lv_at hl 2 rfl) ?_
  refine va_iast hx hb hK hP hD hS 13 0 rfl rfl (vp_in_nI (show (f.1 % 100) < 100 by omega) (by decide)) dF_add_13 (fun H locs hP hD hS => ?_)
  rw [nI_clamp (show (f.1 % 100) < 2 ^ 31 by omega)] at hP hD
  have hP : va_P (dC, dI) vwCl (sk_wR a k (nI b.1) b.2.1 b.2.2.1 b.2.2.2.1 b.2.2.2.2 (nI t.1) t.2.1 t.2.2.1 t.2.2.2.1 t.2.2.2.2 (nI f.1) (nI (sk_there f)) (nI (f.1 % 100)) (upd f.2.1 (f.1 % 100) x1) f.2.2.1 f.2.2.2.1 f.2.2.2.2.1 (fun i => lN (sk_nb (f.2.2.2.2.2.1 i))) (fun i => sk_bI (f.2.2.2.2.2.2 i)) wt) H := hP
  have hD : va_D A (sk_wR a k (nI b.1) b.2.1 b.2.2.1 b.2.2.2.1 b.2.2.2.2 (nI t.1) t.2.1 t.2.2.1 t.2.2.2.1 t.2.2.2.2 (nI f.1) (nI (sk_there f)) (nI (f.1 % 100)) (upd f.2.1 (f.1 % 100) x1) f.2.2.1 f.2.2.2.1 f.2.2.2.2.1 (fun i => lN (sk_nb (f.2.2.2.2.2.1 i))) (fun i => sk_bI (f.2.2.2.2.2.2 i)) wt) := hD
  refine lv_aload_n hx hb dF_add_14 rfl (lv_at hl 1 rfl) ?_
  refine va_get (D := (dC, dI)) (ci := 0) (v := .ref (a 14)) (C := RF) (T := TF) (N := 9) hx hb hts inF hown hK hP 3 rfl rfl 1 (by decide) (hts _ wfF_15) (fun _ h9 => h9) rfl dF_add_15 ?_
  refine lv_iload hx hb dF_add_18 (lv_at hl 0 rfl) ?_
  refine lv_iload_n hx hb dF_add_20 rfl (lv_at hl 3 rfl) ?_
  refine va_iast hx hb hK hP hD hS 14 0 rfl rfl (vp_in_nI (show (f.1 % 100) < 100 by omega) (by decide)) dF_add_21 (fun H locs hP hD hS => ?_)
  rw [nI_clamp (show (f.1 % 100) < 2 ^ 31 by omega)] at hP hD
  have hP : va_P (dC, dI) vwCl (sk_wR a k (nI b.1) b.2.1 b.2.2.1 b.2.2.2.1 b.2.2.2.2 (nI t.1) t.2.1 t.2.2.1 t.2.2.2.1 t.2.2.2.2 (nI f.1) (nI (sk_there f)) (nI (f.1 % 100)) (upd f.2.1 (f.1 % 100) x1) (upd f.2.2.1 (f.1 % 100) x2) f.2.2.2.1 f.2.2.2.2.1 (fun i => lN (sk_nb (f.2.2.2.2.2.1 i))) (fun i => sk_bI (f.2.2.2.2.2.2 i)) wt) H := hP
  have hD : va_D A (sk_wR a k (nI b.1) b.2.1 b.2.2.1 b.2.2.2.1 b.2.2.2.2 (nI t.1) t.2.1 t.2.2.1 t.2.2.2.1 t.2.2.2.2 (nI f.1) (nI (sk_there f)) (nI (f.1 % 100)) (upd f.2.1 (f.1 % 100) x1) (upd f.2.2.1 (f.1 % 100) x2) f.2.2.2.1 f.2.2.2.2.1 (fun i => lN (sk_nb (f.2.2.2.2.2.1 i))) (fun i => sk_bI (f.2.2.2.2.2.2 i)) wt) := hD
  refine lv_aload_n hx hb dF_add_22 rfl (lv_at hl 1 rfl) ?_
  refine va_get (D := (dC, dI)) (ci := 0) (v := .ref (a 15)) (C := RF) (T := TF) (N := 9) hx hb hts inF hown hK hP 3 rfl rfl 2 (by decide) (hts _ wfF_18) (fun _ h9 => h9) rfl dF_add_23 ?_
  refine lv_iload hx hb dF_add_26 (lv_at hl 0 rfl) ?_
  refine lv_iload_n hx hb dF_add_28 rfl (lv_at hl 4 rfl) ?_
  refine va_iast hx hb hK hP hD hS 15 0 rfl rfl (vp_in_nI (show (f.1 % 100) < 100 by omega) (by decide)) dF_add_29 (fun H locs hP hD hS => ?_)
  rw [nI_clamp (show (f.1 % 100) < 2 ^ 31 by omega)] at hP hD
  have hP : va_P (dC, dI) vwCl (sk_wR a k (nI b.1) b.2.1 b.2.2.1 b.2.2.2.1 b.2.2.2.2 (nI t.1) t.2.1 t.2.2.1 t.2.2.2.1 t.2.2.2.2 (nI f.1) (nI (sk_there f)) (nI (f.1 % 100)) (upd f.2.1 (f.1 % 100) x1) (upd f.2.2.1 (f.1 % 100) x2) (upd f.2.2.2.1 (f.1 % 100) x3) f.2.2.2.2.1 (fun i => lN (sk_nb (f.2.2.2.2.2.1 i))) (fun i => sk_bI (f.2.2.2.2.2.2 i)) wt) H := hP
  have hD : va_D A (sk_wR a k (nI b.1) b.2.1 b.2.2.1 b.2.2.2.1 b.2.2.2.2 (nI t.1) t.2.1 t.2.2.1 t.2.2.2.1 t.2.2.2.2 (nI f.1) (nI (sk_there f)) (nI (f.1 % 100)) (upd f.2.1 (f.1 % 100) x1) (upd f.2.2.1 (f.1 % 100) x2) (upd f.2.2.2.1 (f.1 % 100) x3) f.2.2.2.2.1 (fun i => lN (sk_nb (f.2.2.2.2.2.1 i))) (fun i => sk_bI (f.2.2.2.2.2.2 i)) wt) := hD
  refine lv_aload_n hx hb dF_add_30 rfl (lv_at hl 1 rfl) ?_
  refine va_get (D := (dC, dI)) (ci := 0) (v := .ref (a 16)) (C := RF) (T := TF) (N := 9) hx hb hts inF hown hK hP 3 rfl rfl 3 (by decide) (hts _ wfF_21) (fun _ h9 => h9) rfl dF_add_31 ?_
  refine lv_iload hx hb dF_add_34 (lv_at hl 0 rfl) ?_
  refine lv_iload hx hb dF_add_36 (lv_at hl 5 rfl) ?_
  refine va_iast hx hb hK hP hD hS 16 0 rfl rfl (vp_in_nI (show (f.1 % 100) < 100 by omega) (by decide)) dF_add_38 (fun H locs hP hD hS => ?_)
  rw [nI_clamp (show (f.1 % 100) < 2 ^ 31 by omega)] at hP hD
  have hP : va_P (dC, dI) vwCl (sk_wR a k (nI b.1) b.2.1 b.2.2.1 b.2.2.2.1 b.2.2.2.2 (nI t.1) t.2.1 t.2.2.1 t.2.2.2.1 t.2.2.2.2 (nI f.1) (nI (sk_there f)) (nI (f.1 % 100)) (upd f.2.1 (f.1 % 100) x1) (upd f.2.2.1 (f.1 % 100) x2) (upd f.2.2.2.1 (f.1 % 100) x3) (upd f.2.2.2.2.1 (f.1 % 100) x4) (fun i => lN (sk_nb (f.2.2.2.2.2.1 i))) (fun i => sk_bI (f.2.2.2.2.2.2 i)) wt) H := hP
  have hD : va_D A (sk_wR a k (nI b.1) b.2.1 b.2.2.1 b.2.2.2.1 b.2.2.2.2 (nI t.1) t.2.1 t.2.2.1 t.2.2.2.1 t.2.2.2.2 (nI f.1) (nI (sk_there f)) (nI (f.1 % 100)) (upd f.2.1 (f.1 % 100) x1) (upd f.2.2.1 (f.1 % 100) x2) (upd f.2.2.2.1 (f.1 % 100) x3) (upd f.2.2.2.2.1 (f.1 % 100) x4) (fun i => lN (sk_nb (f.2.2.2.2.2.1 i))) (fun i => sk_bI (f.2.2.2.2.2.2 i)) wt) := hD
  refine lv_aload_n hx hb dF_add_39 rfl (lv_at hl 1 rfl) ?_
  refine va_get (D := (dC, dI)) (ci := 0) (v := .ref (a 17)) (C := RF) (T := TF) (N := 9) hx hb hts inF hown hK hP 3 rfl rfl 4 (by decide) (hts _ wfF_24) (fun _ h9 => h9) rfl dF_add_40 ?_
  refine lv_iload hx hb dF_add_43 (lv_at hl 0 rfl) ?_
  refine lv_lload hx hb dF_add_45 (lv_at hl 6 rfl) ?_
  refine va_last hx hb hK hP hD hS 17 2 rfl rfl (vp_in_nI (show (f.1 % 100) < 100 by omega) (by decide)) dF_add_47 (fun H locs hP hD hS => ?_)
  rw [nI_clamp (show (f.1 % 100) < 2 ^ 31 by omega)] at hP hD
  have hP : va_P (dC, dI) vwCl (sk_wR a k (nI b.1) b.2.1 b.2.2.1 b.2.2.2.1 b.2.2.2.2 (nI t.1) t.2.1 t.2.2.1 t.2.2.2.1 t.2.2.2.2 (nI f.1) (nI (sk_there f)) (nI (f.1 % 100)) (upd f.2.1 (f.1 % 100) x1) (upd f.2.2.1 (f.1 % 100) x2) (upd f.2.2.2.1 (f.1 % 100) x3) (upd f.2.2.2.2.1 (f.1 % 100) x4) (vp_updL (fun i => lN (sk_nb (f.2.2.2.2.2.1 i))) (f.1 % 100) (lN (sk_nb wl))) (fun i => sk_bI (f.2.2.2.2.2.2 i)) wt) H := hP
  have hD : va_D A (sk_wR a k (nI b.1) b.2.1 b.2.2.1 b.2.2.2.1 b.2.2.2.2 (nI t.1) t.2.1 t.2.2.1 t.2.2.2.1 t.2.2.2.2 (nI f.1) (nI (sk_there f)) (nI (f.1 % 100)) (upd f.2.1 (f.1 % 100) x1) (upd f.2.2.1 (f.1 % 100) x2) (upd f.2.2.2.1 (f.1 % 100) x3) (upd f.2.2.2.2.1 (f.1 % 100) x4) (vp_updL (fun i => lN (sk_nb (f.2.2.2.2.2.1 i))) (f.1 % 100) (lN (sk_nb wl))) (fun i => sk_bI (f.2.2.2.2.2.2 i)) wt) := hD
  refine lv_aload_n hx hb dF_add_48 rfl (lv_at hl 1 rfl) ?_
  refine va_get (D := (dC, dI)) (ci := 0) (v := .ref (a 18)) (C := RF) (T := TF) (N := 9) hx hb hts inF hown hK hP 3 rfl rfl 5 (by decide) (hts _ wfF_28) (fun _ h9 => h9) rfl dF_add_49 ?_
  refine lv_iload hx hb dF_add_52 (lv_at hl 0 rfl) ?_
  refine lv_iconst (v := nI 1) hx hb dF_add_54 (by decide) ?_
  refine va_zast hx hb hK hP hD hS 18 1 rfl rfl (vp_in_nI (show (f.1 % 100) < 100 by omega) (by decide)) dF_add_55 (fun H locs hP hD hS => ?_)
  rw [nI_clamp (show (f.1 % 100) < 2 ^ 31 by omega)] at hP hD
  rw [show vp_nar .boolean (nI 1) = (nI 1) by decide] at hP hD
  have hP : va_P (dC, dI) vwCl (sk_wR a k (nI b.1) b.2.1 b.2.2.1 b.2.2.2.1 b.2.2.2.2 (nI t.1) t.2.1 t.2.2.1 t.2.2.2.1 t.2.2.2.2 (nI f.1) (nI (sk_there f)) (nI (f.1 % 100)) (upd f.2.1 (f.1 % 100) x1) (upd f.2.2.1 (f.1 % 100) x2) (upd f.2.2.2.1 (f.1 % 100) x3) (upd f.2.2.2.2.1 (f.1 % 100) x4) (vp_updL (fun i => lN (sk_nb (f.2.2.2.2.2.1 i))) (f.1 % 100) (lN (sk_nb wl))) (upd (fun i => sk_bI (f.2.2.2.2.2.2 i)) (f.1 % 100) (nI 1)) wt) H := hP
  have hD : va_D A (sk_wR a k (nI b.1) b.2.1 b.2.2.1 b.2.2.2.1 b.2.2.2.2 (nI t.1) t.2.1 t.2.2.1 t.2.2.2.1 t.2.2.2.2 (nI f.1) (nI (sk_there f)) (nI (f.1 % 100)) (upd f.2.1 (f.1 % 100) x1) (upd f.2.2.1 (f.1 % 100) x2) (upd f.2.2.2.1 (f.1 % 100) x3) (upd f.2.2.2.2.1 (f.1 % 100) x4) (vp_updL (fun i => lN (sk_nb (f.2.2.2.2.2.1 i))) (f.1 % 100) (lN (sk_nb wl))) (upd (fun i => sk_bI (f.2.2.2.2.2.2 i)) (f.1 % 100) (nI 1)) wt) := hD
  refine lv_aload_n hx hb dF_add_56 rfl (lv_at hl 1 rfl) ?_
  refine lv_dup hx hb dF_add_57 rfl ?_
  refine va_get (D := (dC, dI)) (ci := 0) (v := .int (nI f.1)) (C := RF) (T := TF) (N := 9) hx hb hts inF hown hK hP 3 rfl rfl 6 (by decide) (hts _ wfF_32) (fun _ h9 => h9) rfl dF_add_58 ?_
  refine lv_iconst (v := nI 1) hx hb dF_add_61 (by decide) ?_
  refine lv_iadd hx hb dF_add_62 ?_
  refine lv_topi (fun x62 e62 => ?_)
  obtain rfl : x62 = nI (f.1 + 1) := e62.trans (nI_add _ _)
  refine va_put (D := (dC, dI)) (ci := 0) (v := .int (nI (f.1 + 1))) (ty := .int) (C := RF) (T := TF) (N := 9) hx hb hts inF tyF tyF_ok nmF hown hK hP hD hS 3 rfl rfl 6 (by decide) (hts _ wfF_32) (fun _ h9 => h9) rfl (by decide +kernel) rfl rfl (Nat.le_of_ble_eq_true rfl) dF_add_63 (fun H locs hP hD hS => ?_)
  have hP : va_P (dC, dI) vwCl (sk_wR a k (nI b.1) b.2.1 b.2.2.1 b.2.2.2.1 b.2.2.2.2 (nI t.1) t.2.1 t.2.2.1 t.2.2.2.1 t.2.2.2.2 (nI (f.1 + 1)) (nI (sk_there f)) (nI (f.1 % 100)) (upd f.2.1 (f.1 % 100) x1) (upd f.2.2.1 (f.1 % 100) x2) (upd f.2.2.2.1 (f.1 % 100) x3) (upd f.2.2.2.2.1 (f.1 % 100) x4) (vp_updL (fun i => lN (sk_nb (f.2.2.2.2.2.1 i))) (f.1 % 100) (lN (sk_nb wl))) (upd (fun i => sk_bI (f.2.2.2.2.2.2 i)) (f.1 % 100) (nI 1)) wt) H := hP
  have hD : va_D A (sk_wR a k (nI b.1) b.2.1 b.2.2.1 b.2.2.2.1 b.2.2.2.2 (nI t.1) t.2.1 t.2.2.1 t.2.2.2.1 t.2.2.2.2 (nI (f.1 + 1)) (nI (sk_there f)) (nI (f.1 % 100)) (upd f.2.1 (f.1 % 100) x1) (upd f.2.2.1 (f.1 % 100) x2) (upd f.2.2.2.1 (f.1 % 100) x3) (upd f.2.2.2.2.1 (f.1 % 100) x4) (vp_updL (fun i => lN (sk_nb (f.2.2.2.2.2.1 i))) (f.1 % 100) (lN (sk_nb wl))) (upd (fun i => sk_bI (f.2.2.2.2.2.2 i)) (f.1 % 100) (nI 1)) wt) := hD
  refine lv_aload_n hx hb dF_add_66 rfl (lv_at hl 1 rfl) ?_
  refine lv_aload_n hx hb dF_add_67 rfl (lv_at hl 1 rfl) ?_
  refine va_get (D := (dC, dI)) (ci := 0) (v := .int (nI (sk_there f))) (C := RF) (T := TF) (N := 9) hx hb hts inF hown hK hP 3 rfl rfl 7 (by decide) (hts _ wfF_36) (fun _ h9 => h9) rfl dF_add_68 ?_
  refine lv_iload hx hb dF_add_71 (lv_at hl 0 rfl) ?_
  refine lv_iconst (v := nI 1) hx hb dF_add_73 (by decide) ?_
  refine lv_iadd hx hb dF_add_74 ?_
  refine lv_topi (fun x74 e74 => ?_)
  obtain rfl : x74 = nI ((f.1 % 100) + 1) := e74.trans (nI_add _ _)
  refine va_mmax hx hb (hml.trans hl.1.symm) hown (hts _ wmJmax) (hts _ wiJmax) (hts _ wnJmath) (hts _ wcJmax) (Nat.le_of_ble_eq_true rfl) (Nat.le_of_ble_eq_true rfl) (Nat.le_refl _) (Nat.le_refl _) dF_add_75 ?_
  refine lv_topi (fun x75 e75 => ?_)
  obtain rfl : x75 = nI (min (f.1 + 1) 100) := e75.trans sk_max
  refine va_put (D := (dC, dI)) (ci := 0) (v := .int (nI (min (f.1 + 1) 100))) (ty := .int) (C := RF) (T := TF) (N := 9) hx hb hts inF tyF tyF_ok nmF hown hK hP hD hS 3 rfl rfl 7 (by decide) (hts _ wfF_36) (fun _ h9 => h9) rfl (by decide +kernel) rfl rfl (Nat.le_of_ble_eq_true rfl) dF_add_78 (fun H locs hP hD hS => ?_)
  have hP : va_P (dC, dI) vwCl (sk_wR a k (nI b.1) b.2.1 b.2.2.1 b.2.2.2.1 b.2.2.2.2 (nI t.1) t.2.1 t.2.2.1 t.2.2.2.1 t.2.2.2.2 (nI (f.1 + 1)) (nI (min (f.1 + 1) 100)) (nI (f.1 % 100)) (upd f.2.1 (f.1 % 100) x1) (upd f.2.2.1 (f.1 % 100) x2) (upd f.2.2.2.1 (f.1 % 100) x3) (upd f.2.2.2.2.1 (f.1 % 100) x4) (vp_updL (fun i => lN (sk_nb (f.2.2.2.2.2.1 i))) (f.1 % 100) (lN (sk_nb wl))) (upd (fun i => sk_bI (f.2.2.2.2.2.2 i)) (f.1 % 100) (nI 1)) wt) H := hP
  have hD : va_D A (sk_wR a k (nI b.1) b.2.1 b.2.2.1 b.2.2.2.1 b.2.2.2.2 (nI t.1) t.2.1 t.2.2.1 t.2.2.2.1 t.2.2.2.2 (nI (f.1 + 1)) (nI (min (f.1 + 1) 100)) (nI (f.1 % 100)) (upd f.2.1 (f.1 % 100) x1) (upd f.2.2.1 (f.1 % 100) x2) (upd f.2.2.2.1 (f.1 % 100) x3) (upd f.2.2.2.2.1 (f.1 % 100) x4) (vp_updL (fun i => lN (sk_nb (f.2.2.2.2.2.1 i))) (f.1 % 100) (lN (sk_nb wl))) (upd (fun i => sk_bI (f.2.2.2.2.2.2 i)) (f.1 % 100) (nI 1)) wt) := hD
  refine lv_aload_n hx hb dF_add_81 rfl (lv_at hl 1 rfl) ?_
  refine lv_iload hx hb dF_add_82 (lv_at hl 0 rfl) ?_
  refine lv_iconst (v := nI 1) hx hb dF_add_84 (by decide) ?_
  refine lv_iadd hx hb dF_add_85 ?_
  refine lv_topi (fun x85 e85 => ?_)
  obtain rfl : x85 = nI ((f.1 % 100) + 1) := e85.trans (nI_add _ _)
  refine lv_bipush (v := nI 100) hx hb dF_add_86 (by decide) ?_
  refine lv_icmp_ge (tgt := 98) hx hb dF_add_88 (by decide) (fun c88 => ?_) (fun c88 => ?_)
  · skip
    have n88 : 100 ≤ ((f.1 % 100) + 1) := (nI_leI (a := 100) (b := ((f.1 % 100) + 1)) (by omega) (by omega)).mp c88
    refine lv_iconst (v := nI 0) hx hb dF_add_98 (by decide) ?_
    refine lv_topi (fun x99 e99 => ?_)
    obtain rfl : x99 = nI ((f.1 + 1) % 100) := e99.trans (congrArg nI (sk_nx0 n88))
    refine va_put (D := (dC, dI)) (ci := 0) (v := .int (nI ((f.1 + 1) % 100))) (ty := .int) (C := RF) (T := TF) (N := 9) hx hb hts inF tyF tyF_ok nmF hown hK hP hD hS 3 rfl rfl 8 (by decide) (hts _ wfF_39) (fun _ h9 => h9) rfl (by decide +kernel) rfl rfl (Nat.le_of_ble_eq_true rfl) dF_add_99 (fun H locs hP hD hS => ?_)
    have hP : va_P (dC, dI) vwCl (sk_wR a k (nI b.1) b.2.1 b.2.2.1 b.2.2.2.1 b.2.2.2.2 (nI t.1) t.2.1 t.2.2.1 t.2.2.2.1 t.2.2.2.2 (nI (f.1 + 1)) (nI (min (f.1 + 1) 100)) (nI ((f.1 + 1) % 100)) (upd f.2.1 (f.1 % 100) x1) (upd f.2.2.1 (f.1 % 100) x2) (upd f.2.2.2.1 (f.1 % 100) x3) (upd f.2.2.2.2.1 (f.1 % 100) x4) (vp_updL (fun i => lN (sk_nb (f.2.2.2.2.2.1 i))) (f.1 % 100) (lN (sk_nb wl))) (upd (fun i => sk_bI (f.2.2.2.2.2.2 i)) (f.1 % 100) (nI 1)) wt) H := hP
    have hD : va_D A (sk_wR a k (nI b.1) b.2.1 b.2.2.1 b.2.2.2.1 b.2.2.2.2 (nI t.1) t.2.1 t.2.2.1 t.2.2.2.1 t.2.2.2.2 (nI (f.1 + 1)) (nI (min (f.1 + 1) 100)) (nI ((f.1 + 1) % 100)) (upd f.2.1 (f.1 % 100) x1) (upd f.2.2.1 (f.1 % 100) x2) (upd f.2.2.2.1 (f.1 % 100) x3) (upd f.2.2.2.2.1 (f.1 % 100) x4) (vp_updL (fun i => lN (sk_nb (f.2.2.2.2.2.1 i))) (f.1 % 100) (lN (sk_nb wl))) (upd (fun i => sk_bI (f.2.2.2.2.2.2 i)) (f.1 % 100) (nI 1)) wt) := hD
    refine lv_iload hx hb dF_add_102 (lv_at hl 0 rfl) ?_
    rw [sk_updW, sk_updH] at hP hD
    exact W.iret (v := nI (f.1 % 100)) hx hb hr (fun U9 ht hW => ⟨⟨nI (f.1 % 100), ((b, t, sk_add f x1 x2 x3 x4 wl), wt), rfl, ⟨rfl, rfl⟩, sk_endw ht hP hD⟩, hS.F ht⟩) hS.2.2 dF_add_104
  · skip
    have n88 : ¬ 100 ≤ ((f.1 % 100) + 1) := fun z9 => c88 ((nI_leI (a := 100) (b := ((f.1 % 100) + 1)) (by omega) (by omega)).mpr z9)
    refine lv_iload hx hb dF_add_91 (lv_at hl 0 rfl) ?_
    refine lv_iconst (v := nI 1) hx hb dF_add_93 (by decide) ?_
    refine lv_iadd hx hb dF_add_94 ?_
    refine lv_topi (fun x94 e94 => ?_)
    obtain rfl : x94 = nI ((f.1 % 100) + 1) := e94.trans (nI_add _ _)
    refine lv_goto (tgt := 99) hx hb dF_add_95 (by decide) ?_
    refine lv_topi (fun x99 e99 => ?_)
    obtain rfl : x99 = nI ((f.1 + 1) % 100) := e99.trans (congrArg nI (sk_nx1 n88))
    refine va_put (D := (dC, dI)) (ci := 0) (v := .int (nI ((f.1 + 1) % 100))) (ty := .int) (C := RF) (T := TF) (N := 9) hx hb hts inF tyF tyF_ok nmF hown hK hP hD hS 3 rfl rfl 8 (by decide) (hts _ wfF_39) (fun _ h9 => h9) rfl (by decide +kernel) rfl rfl (Nat.le_of_ble_eq_true rfl) dF_add_99 (fun H locs hP hD hS => ?_)
    have hP : va_P (dC, dI) vwCl (sk_wR a k (nI b.1) b.2.1 b.2.2.1 b.2.2.2.1 b.2.2.2.2 (nI t.1) t.2.1 t.2.2.1 t.2.2.2.1 t.2.2.2.2 (nI (f.1 + 1)) (nI (min (f.1 + 1) 100)) (nI ((f.1 + 1) % 100)) (upd f.2.1 (f.1 % 100) x1) (upd f.2.2.1 (f.1 % 100) x2) (upd f.2.2.2.1 (f.1 % 100) x3) (upd f.2.2.2.2.1 (f.1 % 100) x4) (vp_updL (fun i => lN (sk_nb (f.2.2.2.2.2.1 i))) (f.1 % 100) (lN (sk_nb wl))) (upd (fun i => sk_bI (f.2.2.2.2.2.2 i)) (f.1 % 100) (nI 1)) wt) H := hP
    have hD : va_D A (sk_wR a k (nI b.1) b.2.1 b.2.2.1 b.2.2.2.1 b.2.2.2.2 (nI t.1) t.2.1 t.2.2.1 t.2.2.2.1 t.2.2.2.2 (nI (f.1 + 1)) (nI (min (f.1 + 1) 100)) (nI ((f.1 + 1) % 100)) (upd f.2.1 (f.1 % 100) x1) (upd f.2.2.1 (f.1 % 100) x2) (upd f.2.2.2.1 (f.1 % 100) x3) (upd f.2.2.2.2.1 (f.1 % 100) x4) (vp_updL (fun i => lN (sk_nb (f.2.2.2.2.2.1 i))) (f.1 % 100) (lN (sk_nb wl))) (upd (fun i => sk_bI (f.2.2.2.2.2.2 i)) (f.1 % 100) (nI 1)) wt) := hD
    refine lv_iload hx hb dF_add_102 (lv_at hl 0 rfl) ?_
    rw [sk_updW, sk_updH] at hP hD
    exact W.iret (v := nI (f.1 % 100)) hx hb hr (fun U9 ht hW => ⟨⟨nI (f.1 % 100), ((b, t, sk_add f x1 x2 x3 x4 wl), wt), rfl, ⟨rfl, rfl⟩, sk_endw ht hP hD⟩, hS.F ht⟩) hS.2.2 dF_add_104
abbrev wzF_breakThrough : List Cond := .code yF_breakThrough cF_breakThrough 5 none :: sk_W
abbrev rzF_breakThrough : Room := { frames := 0, cells := 0, slots := 0, locals := 0 }
set_option maxHeartbeats 4000000 in
set_option maxRecDepth 100000 in
theorem kF_breakThrough (l : Launch) (dC : Nat → ClassId) (dI : Nat → Nat → Nat) (a : Nat → Nat) (k : Nat → ClassId) (b : sk_Ob) (t : sk_Tr) (f : sk_Fi) (wt : sk_F) (A : Nat → Prop) (o : Nat) (ho : o < 60) (hfl : ∀ i, i < sk_there f → ∀ x ∈ f.2.2.2.2.2.1 i, x < 60) : Met l yF_breakThrough wzF_breakThrough rzF_breakThrough (va_Pc [.ref (a 3), .int (nI o)] (fun U => sk_PX dC dI a k (b, t, f) wt U ∧ va_D A (sk_wX a k (b, t, f) wt))) (va_Qv (fun (u : sk_S × sk_F) => u = ((b, t, sk_brk f o), wt)) (fun u U => va_P (dC, dI) vwCl (sk_wX a k u.1 u.2) U.heap ∧ va_D A (sk_wX a k u.1 u.2)) A) 0 0 A := by
  refine Met.ofW (cc := cF_breakThrough) (maxL := 5) (ret := none) (by decide) rfl ?_
  intro p e s m args below meth c s₁ B hml hv
  obtain ⟨rfl, ⟨hP, hK, hN⟩, hD⟩ := hv
  have hx := B.exec
  have hb := B.bytes
  have hr := B.returns
  have hts : ∀ w ∈ sk_W, w.before ([.ref (a 3), .int (nI o)] : List Value).toArray s = true := fun w h => atoms_spec (ws := wzF_breakThrough) B.pre w (List.mem_cons_of_mem _ h)
  have hown : s.vm.findClass RF = some m.cls := findClass_of_methodNamed B.named
  have hlocks := B.notSynchronized
  have hS : va_S A s.heap s.heap [] := va_S.rf
  have hP : va_P (dC, dI) vwCl (sk_wR a k (nI b.1) b.2.1 b.2.2.1 b.2.2.2.1 b.2.2.2.2 (nI t.1) t.2.1 t.2.2.1 t.2.2.2.1 t.2.2.2.2 (nI f.1) (nI (sk_there f)) (nI (f.1 % 100)) f.2.1 f.2.2.1 f.2.2.2.1 f.2.2.2.2.1 (fun i => lN (sk_nb (f.2.2.2.2.2.1 i))) (fun i => sk_bI (f.2.2.2.2.2.2 i)) wt) s.heap := hP
  have hD : va_D A (sk_wR a k (nI b.1) b.2.1 b.2.2.1 b.2.2.2.1 b.2.2.2.2 (nI t.1) t.2.1 t.2.2.1 t.2.2.2.1 t.2.2.2.2 (nI f.1) (nI (sk_there f)) (nI (f.1 % 100)) f.2.1 f.2.2.1 f.2.2.2.1 f.2.2.2.2.1 (fun i => lN (sk_nb (f.2.2.2.2.2.1 i))) (fun i => sk_bI (f.2.2.2.2.2.2 i)) wt) := hD
  have hl := lv_entry ([.ref (a 3), .int (nI o)]) (n := 5) (Nat.le_of_ble_eq_true rfl)
  rw [lg_entry_eq]
  generalize (lg_sl ([.ref (a 3), .int (nI o)]) ++ List.replicate (5 - (lg_sl ([.ref (a 3), .int (nI o)])).length) Slot.unset).toArray = ls at hl ⊢
  have hl : lv_has ls 5 [(0, .ref (a 3)), (1, .int (nI o))] := hl
  have h100 : sk_there f ≤ 100 := Nat.min_le_right _ _
  refine lv_lconst (v := lN 1) hx hb dF_breakThrough_0 (by decide) ?_
  refine lv_iload_n hx hb dF_breakThrough_1 rfl (lv_at hl 1 rfl) ?_
  refine lv_lshl (v := lN (2 ^ o)) hx hb dF_breakThrough_2 (sk_shl ho) ?_
  refine lv_lstore_n (lv' := [(2, .long (lN (2 ^ o))), (0, .ref (a 3)), (1, .int (nI o))]) hx hb dF_breakThrough_3 rfl hl (by decide) rfl (fun ls hl => ?_)
  refine lv_iconst (v := nI 0) hx hb dF_breakThrough_4 (by decide) ?_
  refine lv_istore (lv' := [(4, .int (nI 0)), (2, .long (lN (2 ^ o))), (0, .ref (a 3)), (1, .int (nI o))]) hx hb dF_breakThrough_5 hl (by decide) rfl (fun ls hl => ?_)
  have loop1 : ∀ (nn : Nat) (i : Nat) (hv9 : Nat → Bool), i ≤ sk_there f → (∀ j, hv9 j = if j < i then sk_brkB f o j else f.2.2.2.2.2.2 j) → sk_there f - i < nn → ∀ (H : Heap) (locs : List Loc), va_P (dC, dI) vwCl (sk_wR a k (nI b.1) b.2.1 b.2.2.1 b.2.2.2.1 b.2.2.2.2 (nI t.1) t.2.1 t.2.2.1 t.2.2.2.1 t.2.2.2.2 (nI f.1) (nI (sk_there f)) (nI (f.1 % 100)) f.2.1 f.2.2.1 f.2.2.2.1 f.2.2.2.2.1 (fun i => lN (sk_nb (f.2.2.2.2.2.1 i))) (fun i9 => sk_bI (hv9 i9)) wt) H → va_D A (sk_wR a k (nI b.1) b.2.1 b.2.2.1 b.2.2.2.1 b.2.2.2.2 (nI t.1) t.2.1 t.2.2.1 t.2.2.2.1 t.2.2.2.2 (nI f.1) (nI (sk_there f)) (nI (f.1 % 100)) f.2.1 f.2.2.1 f.2.2.2.1 f.2.2.2.2.1 (fun i => lN (sk_nb (f.2.2.2.2.2.1 i))) (fun i9 => sk_bI (hv9 i9)) wt) → va_S A s.heap H locs → ∀ ls : Array Slot, lv_has ls 5 [(4, .int (nI i)), (2, .long (lN (2 ^ o))), (0, .ref (a 3)), (1, .int (nI o))] → W p l e (headSpec wzF_breakThrough rzF_breakThrough).room s m ([.ref (a 3), .int (nI o)] : List Value).toArray below meth c H locs 0 0 (MQ below (va_Qv (fun (u : sk_S × sk_F) => u = ((b, t, sk_brk f o), wt)) (fun u U => va_P (dC, dI) vwCl (sk_wX a k u.1 u.2) U.heap ∧ va_D A (sk_wX a k u.1 u.2)) A) ([.ref (a 3), .int (nI o)] : List Value).toArray s 0 0 A) (F0 m 7 ls []) := by
    intro nn
    induction nn with
    | zero => intro i hv9 hi hh hmu; exact absurd hmu (Nat.not_lt_zero _)
    | succ nn ih1 =>
      intro i hv9 hi hh hmu H locs hP hD hS ls hl
      refine lv_iload hx hb dF_breakThrough_7 (lv_at hl 0 rfl) ?_
      refine lv_aload_n hx hb dF_breakThrough_9 rfl (lv_at hl 2 rfl) ?_
      refine va_get (D := (dC, dI)) (ci := 0) (v := .int (nI (sk_there f))) (C := RF) (T := TF) (N := 9) hx hb hts inF hown hK hP 3 rfl rfl 7 (by decide) (hts _ wfF_36) (fun _ h9 => h9) rfl dF_breakThrough_10 ?_
      refine lv_icmp_ge (tgt := 44) hx hb dF_breakThrough_13 (by decide) (fun c13 => ?_) (fun c13 => ?_)
      · skip
        have n13 : (sk_there f) ≤ i := (nI_leI (a := (sk_there f)) (b := i) (by omega) (by omega)).mp c13
        obtain rfl : hv9 = sk_brkB f o := sk_brk_end (by omega) hh
        exact W.vret hx hb hr (fun U9 ht hW => ⟨⟨((b, t, sk_brk f o), wt), rfl, rfl, sk_endw ht hP hD⟩, hS.F ht⟩) hS.2.2 dF_breakThrough_44
      · skip
        have n13 : ¬ (sk_there f) ≤ i := fun z9 => c13 ((nI_leI (a := (sk_there f)) (b := i) (by omega) (by omega)).mpr z9)
        refine lv_aload_n hx hb dF_breakThrough_16 rfl (lv_at hl 2 rfl) ?_
        refine va_get (D := (dC, dI)) (ci := 0) (v := .ref (a 17)) (C := RF) (T := TF) (N := 9) hx hb hts inF hown hK hP 3 rfl rfl 4 (by decide) (hts _ wfF_24) (fun _ h9 => h9) rfl dF_breakThrough_17 ?_
        refine lv_iload hx hb dF_breakThrough_20 (lv_at hl 0 rfl) ?_
        refine va_lald hx hb hK hP 17 2 rfl rfl (vp_in_nI (show i < 100 by omega) (by decide)) dF_breakThrough_22 ?_
        refine lv_topl (fun x22 e22 => ?_)
        rw [nI_clamp (show i < 2 ^ 31 by omega)] at e22
        obtain rfl : x22 = lN (sk_nb (f.2.2.2.2.2.1 i)) := e22.trans (rfl)
        refine lv_lload_n hx hb dF_breakThrough_23 rfl (lv_at hl 1 rfl) ?_
        refine lv_land hx hb dF_breakThrough_24 ?_
        refine lv_topl (fun x24 e24 => ?_)
        obtain rfl : x24 = lN (sk_nb (f.2.2.2.2.2.1 i) &&& 2 ^ o) := e24.trans (sk_bitin (hfl i (by omega)) ho)
        refine lv_lconst (v := lN 0) hx hb dF_breakThrough_25 (by decide) ?_
        refine W.lcmp hx hb dF_breakThrough_26 ?_
        refine lv_topi (fun x26 e26 => ?_)
        refine lv_if_eq (tgt := 38) hx hb dF_breakThrough_27 (by decide) (fun c27 => ?_) (fun c27 => ?_)
        · skip
          refine lv_iinc (v := nI (i + 1)) (lv' := [(4, .int (nI (i + 1))), (2, .long (lN (2 ^ o))), (0, .ref (a 3)), (1, .int (nI o))]) hx hb dF_breakThrough_38 hl (k := 0) rfl (sk_inc _) (by decide) rfl (fun ls hl => ?_)
          refine lv_goto (tgt := 7) hx hb dF_breakThrough_41 (by decide) ?_
          exact ih1 (i + 1) hv9 (by omega) (sk_brk_miss hh ((sk_bit0 ho).mp ((lg_cmp_eq _ _).mp (e26.symm.trans c27)))) (by omega) _ _ hP hD hS ls (lv_sub hl [0, 1, 2, 3] rfl)
        · skip
          refine lv_aload_n hx hb dF_breakThrough_30 rfl (lv_at hl 2 rfl) ?_
          refine va_get (D := (dC, dI)) (ci := 0) (v := .ref (a 18)) (C := RF) (T := TF) (N := 9) hx hb hts inF hown hK hP 3 rfl rfl 5 (by decide) (hts _ wfF_28) (fun _ h9 => h9) rfl dF_breakThrough_31 ?_
          refine lv_iload hx hb dF_breakThrough_34 (lv_at hl 0 rfl) ?_
          refine lv_iconst (v := nI 0) hx hb dF_breakThrough_36 (by decide) ?_
          refine va_zast hx hb hK hP hD hS 18 1 rfl rfl (vp_in_nI (show i < 100 by omega) (by decide)) dF_breakThrough_37 (fun H locs hP hD hS => ?_)
          rw [nI_clamp (show i < 2 ^ 31 by omega)] at hP hD
          rw [show vp_nar .boolean (nI 0) = (nI 0) by decide] at hP hD
          have hP : va_P (dC, dI) vwCl (sk_wR a k (nI b.1) b.2.1 b.2.2.1 b.2.2.2.1 b.2.2.2.2 (nI t.1) t.2.1 t.2.2.1 t.2.2.2.1 t.2.2.2.2 (nI f.1) (nI (sk_there f)) (nI (f.1 % 100)) f.2.1 f.2.2.1 f.2.2.2.1 f.2.2.2.2.1 (fun i => lN (sk_nb (f.2.2.2.2.2.1 i))) (upd (fun i9 => sk_bI (hv9 i9)) i (nI 0)) wt) H := hP
          have hD : va_D A (sk_wR a k (nI b.1) b.2.1 b.2.2.1 b.2.2.2.1 b.2.2.2.2 (nI t.1) t.2.1 t.2.2.1 t.2.2.2.1 t.2.2.2.2 (nI f.1) (nI (sk_there f)) (nI (f.1 % 100)) f.2.1 f.2.2.1 f.2.2.2.1 f.2.2.2.2.1 (fun i => lN (sk_nb (f.2.2.2.2.2.1 i))) (upd (fun i9 => sk_bI (hv9 i9)) i (nI 0)) wt) := hD
          refine lv_iinc (v := nI (i + 1)) (lv' := [(4, .int (nI (i + 1))), (2, .long (lN (2 ^ o))), (0, .ref (a 3)), (1, .int (nI o))]) hx hb dF_breakThrough_38 hl (k := 0) rfl (sk_inc _) (by decide) rfl (fun ls hl => ?_)
          refine lv_goto (tgt := 7) hx hb dF_breakThrough_41 (by decide) ?_
          rw [sk_updH0] at hP hD
          exact ih1 (i + 1) (va_up hv9 i false) (by omega) (sk_brk_hit (by omega) hh (Classical.not_not.mp (fun q => c27 (e26.trans ((lg_cmp_eq _ _).mpr ((sk_bit0 ho).mpr q)))))) (by omega) _ _ hP hD hS ls (lv_sub hl [0, 1, 2, 3] rfl)
  exact loop1 (sk_there f - 0 + 1) 0 f.2.2.2.2.2.2 (Nat.zero_le _) (fun j => (if_neg (Nat.not_lt_zero j)).symm) (Nat.lt_succ_self _) _ _ hP hD hS ls (lv_sub hl [0, 1, 2, 3] rfl)
abbrev wzK_isName : List Cond := .code yK_isName cK_isName 1 (some .boolean) :: sk_W
abbrev rzK_isName : Room := { frames := 0, cells := 0, slots := 0, locals := 0 }
set_option maxHeartbeats 4000000 in
set_option maxRecDepth 100000 in
theorem kK_isName (l : Launch) (dC : Nat → ClassId) (dI : Nat → Nat → Nat) (a : Nat → Nat) (k : Nat → ClassId) (b : sk_Ob) (t : sk_Tr) (f : sk_Fi) (wt : sk_F) (x : Int32)  : Met l yK_isName wzK_isName rzK_isName (va_Pc [.int x] (sk_PX dC dI a k (b, t, f) wt)) (va_Qi (fun r (_ : Unit) => r = sk_bI (sk_isN x)) (fun _ _ => True) (fun _ => False)) 0 0 (fun _ => False) := by
  refine Met.ofW (cc := cK_isName) (maxL := 1) (ret := (some .boolean)) (by decide) rfl ?_
  intro p e s m args below meth c s₁ B hml hv
  obtain ⟨rfl, hP, hK, hN⟩ := hv
  have hx := B.exec
  have hb := B.bytes
  have hr := B.returns
  have hts : ∀ w ∈ sk_W, w.before ([.int x] : List Value).toArray s = true := fun w h => atoms_spec (ws := wzK_isName) B.pre w (List.mem_cons_of_mem _ h)
  have hown : s.vm.findClass RK = some m.cls := findClass_of_methodNamed B.named
  have hlocks := B.notSynchronized
  have hS : va_S (fun _ => False) s.heap s.heap [] := va_S.rf
  have hP : va_P (dC, dI) vwCl (sk_wR a k (nI b.1) b.2.1 b.2.2.1 b.2.2.2.1 b.2.2.2.2 (nI t.1) t.2.1 t.2.2.1 t.2.2.2.1 t.2.2.2.2 (nI f.1) (nI (sk_there f)) (nI (f.1 % 100)) f.2.1 f.2.2.1 f.2.2.2.1 f.2.2.2.2.1 (fun i => lN (sk_nb (f.2.2.2.2.2.1 i))) (fun i => sk_bI (f.2.2.2.2.2.2 i)) wt) s.heap := hP
  have hl := lv_entry ([.int x]) (n := 1) (Nat.le_of_ble_eq_true rfl)
  rw [lg_entry_eq]
  generalize (lg_sl ([.int x]) ++ List.replicate (1 - (lg_sl ([.int x])).length) Slot.unset).toArray = ls at hl ⊢
  have hl : lv_has ls 1 [(0, .int x)] := hl
  refine lv_iload_n hx hb dK_isName_0 rfl (lv_at hl 0 rfl) ?_
  refine lv_if_lt (tgt := 14) hx hb dK_isName_1 (by decide) (fun c1 => ?_) (fun c1 => ?_)
  · skip
    refine lv_iconst (v := nI 0) hx hb dK_isName_14 (by decide) ?_
    exact W.zret (v := nI 0) hx hb hr (by decide) (fun U9 ht hW => ⟨⟨nI 0, (), rfl, sk_hasB_f1 c1, trivial⟩, hS.F ht⟩) hS.2.2 dK_isName_15
  · skip
    refine lv_iload_n hx hb dK_isName_4 rfl (lv_at hl 0 rfl) ?_
    refine lv_bipush (v := nI 12) hx hb dK_isName_5 (by decide) ?_
    refine lv_icmp_ge (tgt := 14) hx hb dK_isName_7 (by decide) (fun c7 => ?_) (fun c7 => ?_)
    · skip
      refine lv_iconst (v := nI 0) hx hb dK_isName_14 (by decide) ?_
      exact W.zret (v := nI 0) hx hb hr (by decide) (fun U9 ht hW => ⟨⟨nI 0, (), rfl, sk_hasB_f2 c7, trivial⟩, hS.F ht⟩) hS.2.2 dK_isName_15
    · skip
      refine lv_iconst (v := nI 1) hx hb dK_isName_10 (by decide) ?_
      refine lv_goto (tgt := 15) hx hb dK_isName_11 (by decide) ?_
      exact W.zret (v := nI 1) hx hb hr (by decide) (fun U9 ht hW => ⟨⟨nI 1, (), rfl, sk_hasB_t c1 c7, trivial⟩, hS.F ht⟩) hS.2.2 dK_isName_15
abbrev wzK_change : List Cond := .code yK_change cK_change 3 none :: sk_W
abbrev rzK_change : Room := { frames := 1, cells := 0, slots := 0, locals := 24 }
set_option maxHeartbeats 4000000 in
set_option maxRecDepth 100000 in
theorem kK_change (l : Launch) (dC : Nat → ClassId) (dI : Nat → Nat → Nat) (a : Nat → Nat) (k : Nat → ClassId) (b : sk_Ob) (t : sk_Tr) (f : sk_Fi) (wt : sk_F) (A : Nat → Prop) (o g : Nat) (ho : o < 60) (hfl : ∀ i, i < sk_there f → ∀ x ∈ f.2.2.2.2.2.1 i, x < 60) : Met l yK_change wzK_change rzK_change (va_Pc [.ref (a 0), .int (nI o), .int (nI g)] (fun U => sk_PX dC dI a k (b, t, f) wt U ∧ va_D A (sk_wX a k (b, t, f) wt))) (va_Qv (fun (u : sk_S × sk_F) => u = ((sk_chg b o g, t, sk_brk f o), wt)) (fun u U => va_P (dC, dI) vwCl (sk_wX a k u.1 u.2) U.heap ∧ va_D A (sk_wX a k u.1 u.2)) A) 0 0 A := by
  refine Met.ofW (cc := cK_change) (maxL := 3) (ret := none) (by decide) rfl ?_
  intro p e s m args below meth c s₁ B hml hv
  obtain ⟨rfl, ⟨hP, hK, hN⟩, hD⟩ := hv
  have hx := B.exec
  have hb := B.bytes
  have hr := B.returns
  have hts : ∀ w ∈ sk_W, w.before ([.ref (a 0), .int (nI o), .int (nI g)] : List Value).toArray s = true := fun w h => atoms_spec (ws := wzK_change) B.pre w (List.mem_cons_of_mem _ h)
  have hown : s.vm.findClass RK = some m.cls := findClass_of_methodNamed B.named
  have hlocks := B.notSynchronized
  have hS : va_S A s.heap s.heap [] := va_S.rf
  have hP : va_P (dC, dI) vwCl (sk_wR a k (nI b.1) b.2.1 b.2.2.1 b.2.2.2.1 b.2.2.2.2 (nI t.1) t.2.1 t.2.2.1 t.2.2.2.1 t.2.2.2.2 (nI f.1) (nI (sk_there f)) (nI (f.1 % 100)) f.2.1 f.2.2.1 f.2.2.2.1 f.2.2.2.2.1 (fun i => lN (sk_nb (f.2.2.2.2.2.1 i))) (fun i => sk_bI (f.2.2.2.2.2.2 i)) wt) s.heap := hP
  have hD : va_D A (sk_wR a k (nI b.1) b.2.1 b.2.2.1 b.2.2.2.1 b.2.2.2.2 (nI t.1) t.2.1 t.2.2.1 t.2.2.2.1 t.2.2.2.2 (nI f.1) (nI (sk_there f)) (nI (f.1 % 100)) f.2.1 f.2.2.1 f.2.2.2.1 f.2.2.2.2.1 (fun i => lN (sk_nb (f.2.2.2.2.2.1 i))) (fun i => sk_bI (f.2.2.2.2.2.2 i)) wt) := hD
  have hl := lv_entry ([.ref (a 0), .int (nI o), .int (nI g)]) (n := 3) (Nat.le_of_ble_eq_true rfl)
  rw [lg_entry_eq]
  generalize (lg_sl ([.ref (a 0), .int (nI o), .int (nI g)]) ++ List.replicate (3 - (lg_sl ([.ref (a 0), .int (nI o), .int (nI g)])).length) Slot.unset).toArray = ls at hl ⊢
  have hl : lv_has ls 3 [(0, .ref (a 0)), (1, .int (nI o)), (2, .int (nI g))] := hl
  refine lv_aload_n hx hb dK_change_0 rfl (lv_at hl 0 rfl) ?_
  refine va_get (D := (dC, dI)) (ci := 3) (v := .ref (a 1)) (C := RK) (T := TK) (N := 4) hx hb hts inK hown hK hP 0 rfl rfl 0 (by decide) (hts _ wfK_10) (fun _ h9 => h9) rfl dK_change_1 ?_
  refine va_getN (D := (dC, dI)) (ci := 1) (v := .ref (a 6)) (C := RO) (T := TO) (N := 5) hx hb hts inO hown hK hP 1 rfl rfl 1 (by decide) (va_Nw.use rfl (nlfK_70 hN)) (fun _ h9 => h9) rfl dK_change_4 ?_
  refine lv_iload_n hx hb dK_change_7 rfl (lv_at hl 1 rfl) ?_
  refine lv_iload_n hx hb dK_change_8 rfl (lv_at hl 2 rfl) ?_
  refine va_iast hx hb hK hP hD hS 6 0 rfl rfl (vp_in_nI (show o < 60 by omega) (by decide)) dK_change_9 (fun H locs hP hD hS => ?_)
  rw [nI_clamp (show o < 2 ^ 31 by omega)] at hP hD
  have hP : va_P (dC, dI) vwCl (sk_wR a k (nI b.1) b.2.1 (upd b.2.2.1 o (nI g)) b.2.2.2.1 b.2.2.2.2 (nI t.1) t.2.1 t.2.2.1 t.2.2.2.1 t.2.2.2.2 (nI f.1) (nI (sk_there f)) (nI (f.1 % 100)) f.2.1 f.2.2.1 f.2.2.2.1 f.2.2.2.2.1 (fun i => lN (sk_nb (f.2.2.2.2.2.1 i))) (fun i => sk_bI (f.2.2.2.2.2.2 i)) wt) H := hP
  have hD : va_D A (sk_wR a k (nI b.1) b.2.1 (upd b.2.2.1 o (nI g)) b.2.2.2.1 b.2.2.2.2 (nI t.1) t.2.1 t.2.2.1 t.2.2.2.1 t.2.2.2.2 (nI f.1) (nI (sk_there f)) (nI (f.1 % 100)) f.2.1 f.2.2.1 f.2.2.2.1 f.2.2.2.2.1 (fun i => lN (sk_nb (f.2.2.2.2.2.1 i))) (fun i => sk_bI (f.2.2.2.2.2.2 i)) wt) := hD
  refine lv_aload_n hx hb dK_change_10 rfl (lv_at hl 0 rfl) ?_
  refine va_get (D := (dC, dI)) (ci := 3) (v := .ref (a 1)) (C := RK) (T := TK) (N := 4) hx hb hts inK hown hK hP 0 rfl rfl 0 (by decide) (hts _ wfK_10) (fun _ h9 => h9) rfl dK_change_11 ?_
  refine va_getN (D := (dC, dI)) (ci := 1) (v := .ref (a 7)) (C := RO) (T := TO) (N := 5) hx hb hts inO hown hK hP 1 rfl rfl 2 (by decide) (va_Nw.use rfl (nlfK_142 hN)) (fun _ h9 => h9) rfl dK_change_14 ?_
  refine lv_iload_n hx hb dK_change_17 rfl (lv_at hl 1 rfl) ?_
  refine lv_dup2_11 hx hb dK_change_18 rfl rfl ?_
  refine va_iald hx hb hK hP 7 0 rfl rfl (vp_in_nI (show o < 60 by omega) (by decide)) dK_change_19 ?_
  refine lv_topi (fun x19 e19 => ?_)
  rw [nI_clamp (show o < 2 ^ 31 by omega)] at e19
  refine lv_iconst (v := nI 1) hx hb dK_change_20 (by decide) ?_
  refine lv_iadd hx hb dK_change_21 ?_
  refine lv_topi (fun x21 e21 => ?_)
  obtain rfl : x21 = b.2.2.2.1 o + 1 := e21.trans (by rw [e19]; rfl)
  refine va_iast hx hb hK hP hD hS 7 0 rfl rfl (vp_in_nI (show o < 60 by omega) (by decide)) dK_change_22 (fun H locs hP hD hS => ?_)
  rw [nI_clamp (show o < 2 ^ 31 by omega)] at hP hD
  have hP : va_P (dC, dI) vwCl (sk_wR a k (nI b.1) b.2.1 (upd b.2.2.1 o (nI g)) (upd b.2.2.2.1 o (b.2.2.2.1 o + 1)) b.2.2.2.2 (nI t.1) t.2.1 t.2.2.1 t.2.2.2.1 t.2.2.2.2 (nI f.1) (nI (sk_there f)) (nI (f.1 % 100)) f.2.1 f.2.2.1 f.2.2.2.1 f.2.2.2.2.1 (fun i => lN (sk_nb (f.2.2.2.2.2.1 i))) (fun i => sk_bI (f.2.2.2.2.2.2 i)) wt) H := hP
  have hD : va_D A (sk_wR a k (nI b.1) b.2.1 (upd b.2.2.1 o (nI g)) (upd b.2.2.2.1 o (b.2.2.2.1 o + 1)) b.2.2.2.2 (nI t.1) t.2.1 t.2.2.1 t.2.2.2.1 t.2.2.2.2 (nI f.1) (nI (sk_there f)) (nI (f.1 % 100)) f.2.1 f.2.2.1 f.2.2.2.1 f.2.2.2.2.1 (fun i => lN (sk_nb (f.2.2.2.2.2.1 i))) (fun i => sk_bI (f.2.2.2.2.2.2 i)) wt) := hD
  have hP : va_P (dC, dI) vwCl (sk_wR a k (nI (sk_chg b o g).1) ((sk_chg b o g).2.1) ((sk_chg b o g).2.2.1) ((sk_chg b o g).2.2.2.1) ((sk_chg b o g).2.2.2.2) (nI t.1) t.2.1 t.2.2.1 t.2.2.2.1 t.2.2.2.2 (nI f.1) (nI (sk_there f)) (nI (f.1 % 100)) f.2.1 f.2.2.1 f.2.2.2.1 f.2.2.2.2.1 (fun i => lN (sk_nb (f.2.2.2.2.2.1 i))) (fun i => sk_bI (f.2.2.2.2.2.2 i)) wt) H := hP
  have hD : va_D A (sk_wR a k (nI (sk_chg b o g).1) ((sk_chg b o g).2.1) ((sk_chg b o g).2.2.1) ((sk_chg b o g).2.2.2.1) ((sk_chg b o g).2.2.2.2) (nI t.1) t.2.1 t.2.2.1 t.2.2.2.1 t.2.2.2.2 (nI f.1) (nI (sk_there f)) (nI (f.1 % 100)) f.2.1 f.2.2.1 f.2.2.2.1 f.2.2.2.2.1 (fun i => lN (sk_nb (f.2.2.2.2.2.1 i))) (fun i => sk_bI (f.2.2.2.2.2.2 i)) wt) := hD
  refine lv_aload_n hx hb dK_change_23 rfl (lv_at hl 0 rfl) ?_
  refine va_get (D := (dC, dI)) (ci := 3) (v := .ref (a 3)) (C := RK) (T := TK) (N := 4) hx hb hts inK hown hK hP 0 rfl rfl 2 (by decide) (hts _ wfK_26) (fun _ h9 => h9) rfl dK_change_24 ?_
  refine lv_iload_n hx hb dK_change_27 rfl (lv_at hl 1 rfl) ?_
  refine va_callv (va_runVN (As := [.int (nI o)]) (rest := []) ⟨hx, hb, hml, hown, hts⟩ (kF_breakThrough l dC dI a k (sk_chg b o g) t f wt A o ho hfl) ⟨va_cnB 1 hts (sk_gC wcF_breakThrough) rfl rfl rfl (nlmK_177 hN) (hts _ wnF) (by decide +kernel) ⟨Nat.le_of_ble_eq_true rfl, Nat.le_of_ble_eq_true rfl⟩, hts _ wiF_breakThrough, hts _ wsF_breakThrough⟩ ⟨sk_blindD _, va_recv hK hP (ci := 0) (q0 := 3) rfl rfl, fun U hU hW => ⟨rfl, sk_at (S := (sk_chg b o g, t, f)) (wt := wt) hP hK hN hU hW, hD⟩⟩ rfl rfl hl.1 rfl (lv_room (Nat.le_of_ble_eq_true rfl)) dK_change_28 ⟨Nat.le_of_ble_eq_true rfl, Nat.le_of_ble_eq_true rfl⟩) hS (fun _ _ h => h) (fun _ h => h) (fun u28 U9 H locs ht hvm w28 hB hz hk hS => ?_)
  obtain ⟨hP, hD⟩ := hB
  rw [ht] at hP
  obtain rfl := w28
  have hP : va_P (dC, dI) vwCl (sk_wR a k (nI (sk_chg b o g).1) ((sk_chg b o g).2.1) ((sk_chg b o g).2.2.1) ((sk_chg b o g).2.2.2.1) ((sk_chg b o g).2.2.2.2) (nI t.1) t.2.1 t.2.2.1 t.2.2.2.1 t.2.2.2.2 (nI (sk_brk f o).1) (nI (sk_there (sk_brk f o))) (nI ((sk_brk f o).1 % 100)) ((sk_brk f o).2.1) ((sk_brk f o).2.2.1) ((sk_brk f o).2.2.2.1) ((sk_brk f o).2.2.2.2.1) (fun i => lN (sk_nb ((sk_brk f o).2.2.2.2.2.1 i))) (fun i => sk_bI ((sk_brk f o).2.2.2.2.2.2 i)) wt) H := hP
  have hD : va_D A (sk_wR a k (nI (sk_chg b o g).1) ((sk_chg b o g).2.1) ((sk_chg b o g).2.2.1) ((sk_chg b o g).2.2.2.1) ((sk_chg b o g).2.2.2.2) (nI t.1) t.2.1 t.2.2.1 t.2.2.2.1 t.2.2.2.2 (nI (sk_brk f o).1) (nI (sk_there (sk_brk f o))) (nI ((sk_brk f o).1 % 100)) ((sk_brk f o).2.1) ((sk_brk f o).2.2.1) ((sk_brk f o).2.2.2.1) ((sk_brk f o).2.2.2.2.1) (fun i => lN (sk_nb ((sk_brk f o).2.2.2.2.2.1 i))) (fun i => sk_bI ((sk_brk f o).2.2.2.2.2.2 i)) wt) := hD
  exact W.vret hx hb hr (fun U9 ht hW => ⟨⟨((sk_chg b o g, t, sk_brk f o), wt), rfl, rfl, sk_endw ht hP hD⟩, hS.F ht⟩) hS.2.2 dK_change_31
