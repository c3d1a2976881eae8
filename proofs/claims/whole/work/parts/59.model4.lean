abbrev wzM_turn : List Cond := .code yM_turn cM_turn 5 (some .boolean) :: sk_W
abbrev rzM_turn : Room := { frames := 2, cells := 0, slots := 0, locals := 50 }
set_option maxHeartbeats 4000000 in
set_option maxRecDepth 100000 in
theorem kM_turn (l : Launch) (dC : Nat → ClassId) (dI : Nat → Nat → Nat) (a : Nat → Nat) (k : Nat → ClassId) (b : sk_Ob) (t : sk_Tr) (f : sk_Fi) (ex : sk_Ex) (lf : sk_F) (th : Int32) (A : Nat → Prop) (x y : Int32) (K : Nat) (hOK : sk_OK K (b, t, f)) (hR : sk_RM (b, t, f) ex) (hK1 : K + 1 ≤ 512) : Met l yM_turn wzM_turn rzM_turn (va_Pc [.ref (a 0), .int x, .int y] (fun U => sk_PM dC dI a k (b, t, f) ex lf th U ∧ va_D A (sk_wM a k (b, t, f) ex lf th))) (va_Qi (fun r (u : sk_S × sk_Ex × sk_F × Int32) => r = sk_bI (sk_turn (b, t, f) x y).1 ∧ ∃ ex2 lf2 th2, u = ((sk_turn (b, t, f) x y).2, ex2, lf2, th2) ∧ sk_RM (sk_turn (b, t, f) x y).2 ex2) (fun u U => va_P (dC, dI) vwCl (sk_wM a k u.1 u.2.1 u.2.2.1 u.2.2.2) U.heap ∧ va_D A (sk_wM a k u.1 u.2.1 u.2.2.1 u.2.2.2)) A) 0 0 A := by
  refine Met.ofW (cc := cM_turn) (maxL := 5) (ret := (some .boolean)) (by decide) rfl ?_
  intro p e s m args below meth c s₁ B hml hv
  obtain ⟨rfl, ⟨hP, hK⟩, hD⟩ := hv
  have hx := B.exec
  have hb := B.bytes
  have hr := B.returns
  have hts : ∀ w ∈ sk_W, w.before ([.ref (a 0), .int x, .int y] : List Value).toArray s = true := fun w h => atoms_spec (ws := wzM_turn) B.pre w (List.mem_cons_of_mem _ h)
  have hown : s.vm.findClass RM = some m.cls := findClass_of_methodNamed B.named
  have hlocks := B.notSynchronized
  have hS : va_S A s.heap s.heap [] := va_S.rf
  have hP : va_P (dC, dI) vwCl (sk_wMR a k th (nI b.1) b.2.2.1 b.2.2.2.1 ex.1 (nI t.1) t.2.1 t.2.2.1 t.2.2.2.2 ex.2.1 (nI f.1) f.2.1 f.2.2.1 ex.2.2.1 f.2.2.2.1 f.2.2.2.2.1 ex.2.2.2.1 ex.2.2.2.2.1 ex.2.2.2.2.2 lf) s.heap := hP
  have hD : va_D A (sk_wMR a k th (nI b.1) b.2.2.1 b.2.2.2.1 ex.1 (nI t.1) t.2.1 t.2.2.1 t.2.2.2.2 ex.2.1 (nI f.1) f.2.1 f.2.2.1 ex.2.2.1 f.2.2.2.1 f.2.2.2.2.1 ex.2.2.2.1 ex.2.2.2.2.1 ex.2.2.2.2.2 lf) := hD
  have hl := lv_entry ([.ref (a 0), .int x, .int y]) (n := 5) (Nat.le_of_ble_eq_true rfl)
  rw [lg_entry_eq]
  generalize (lg_sl ([.ref (a 0), .int x, .int y]) ++ List.replicate (5 - (lg_sl ([.ref (a 0), .int x, .int y])).length) Slot.unset).toArray = ls at hl ⊢
  have hl : lv_has ls 5 [(0, .ref (a 0)), (1, .int x), (2, .int y)] := hl
  have hT : sk_TO b.1 t := hOK.1
  have hA : sk_AC b.1 b.2.1 := hOK.2.1
  have hO : sk_OO b t := hOK.2.2.1
  have hch0 : ∀ o, b.1 ≤ o → b.2.2.2.1 o = 0 := hOK.2.2.2.2.1
  have hmk : f.1 ≤ K := hOK.2.2.2.2.2.2.1
  have hK5 : K ≤ 512 := hOK.2.2.2.2.2.1
  have h200 : t.1 ≤ 200 := hT.2.1
  have h60 : b.1 ≤ 60 := hT.2.2.1
  have h100 : sk_there f ≤ 100 := Nat.min_le_right _ _
  have hN : sk_RN t ex.2.1 := hR.1
  have hV : sk_RV b t ex.1 := hR.2.1
  have hF : ∀ i, i < sk_there f → sk_RF b f ex i := hR.2.2
  have hFO : ∀ i, i < sk_there f → sk_FO b t f i := hOK.2.2.2.2.2.2.2
  refine lv_aload_n hx hb dM_turn_0 rfl (lv_at hl 0 rfl) ?_
  refine lv_iconst (v := nI 0) hx hb dM_turn_1 (by decide) ?_
  refine va_put (D := (dC, dI)) (ci := 4) (v := .int (nI 0)) (ty := .int) (C := RM) (T := TM) (N := 20) hx hb hts inM tyM tyM_ok nmM hown hK hP hD hS 0 rfl rfl 0 (by decide) (hts _ wfM_62) (fun _ h9 => h9) rfl (by decide +kernel) rfl rfl (Nat.le_of_ble_eq_true rfl) dM_turn_2 (fun H locs hP hD hS => ?_)
  have hP : va_P (dC, dI) vwCl (sk_wMR a k (nI 0) (nI b.1) b.2.2.1 b.2.2.2.1 ex.1 (nI t.1) t.2.1 t.2.2.1 t.2.2.2.2 ex.2.1 (nI f.1) f.2.1 f.2.2.1 ex.2.2.1 f.2.2.2.1 f.2.2.2.2.1 ex.2.2.2.1 ex.2.2.2.2.1 ex.2.2.2.2.2 lf) H := hP
  have hD : va_D A (sk_wMR a k (nI 0) (nI b.1) b.2.2.1 b.2.2.2.1 ex.1 (nI t.1) t.2.1 t.2.2.1 t.2.2.2.2 ex.2.1 (nI f.1) f.2.1 f.2.2.1 ex.2.2.1 f.2.2.2.1 f.2.2.2.2.1 ex.2.2.2.1 ex.2.2.2.2.1 ex.2.2.2.2.2 lf) := hD
  refine lv_aload_n hx hb dM_turn_5 rfl (lv_at hl 0 rfl) ?_
  refine lv_iload_n hx hb dM_turn_6 rfl (lv_at hl 1 rfl) ?_
  refine va_calli (va_runV (As := [.int x]) (rest := []) ⟨hx, hb, hml, hown, hts⟩ (kM_isObject l dC dI a k b t f ex lf (nI 0) x) (cwV 1 hts (sk_gV wmM_82 wiM_isObject wsM_isObject wnM wcM_isObject) rfl rfl rfl (by decide +kernel) ⟨Nat.le_of_ble_eq_true rfl, Nat.le_of_ble_eq_true rfl⟩) ⟨sk_blindM _, va_recv hK hP (ci := 4) (q0 := 0) rfl rfl, fun U hU hW => ⟨rfl, sk_atM (S := (b, t, f)) (ex := ex) (lf := lf) (th := nI 0) hP hK hU hW⟩⟩ rfl rfl hl.1 rfl (lv_room (Nat.le_of_ble_eq_true rfl)) dM_turn_7 ⟨Nat.le_of_ble_eq_true rfl, Nat.le_of_ble_eq_true rfl⟩) hS (fun _ _ h => h.elim) (fun _ h => h.elim) (fun r7 u7 U9 H locs ht hvm w7 hB hz hk hS => ?_)
  have hP : va_P (dC, dI) vwCl (sk_wMR a k (nI 0) (nI b.1) b.2.2.1 b.2.2.2.1 ex.1 (nI t.1) t.2.1 t.2.2.1 t.2.2.2.2 ex.2.1 (nI f.1) f.2.1 f.2.2.1 ex.2.2.1 f.2.2.2.1 f.2.2.2.2.1 ex.2.2.2.1 ex.2.2.2.2.1 ex.2.2.2.2.2 lf) H := hP.kept (fun j q hq => hk q.1 ((hP j q hq).lt) (fun h => h))
  clear hk hB ht
  rcases sk_bI_or (sk_hasB b.1 x) with ⟨h7, hv⟩ | ⟨h7, hv⟩
  · skip
    obtain rfl : r7 = nI 1 := w7.trans hv
    obtain ⟨o, ho, eo9⟩ := (sk_hasB_iff (by omega)).mp h7
    subst eo9
    obtain ⟨hs1, hs2, hs3⟩ := sk_shOk h200 hO ho
    refine lv_if_eq (tgt := 26) hx hb dM_turn_10 (by decide) (fun q => absurd q (by decide)) (fun _ => ?_)
    refine lv_iload_n hx hb dM_turn_13 rfl (lv_at hl 2 rfl) ?_
    refine lv_iconst (v := (-1)) hx hb dM_turn_14 (by decide) ?_
    refine lv_icmp_eq (tgt := 28) hx hb dM_turn_15 (by decide) (fun c15 => ?_) (fun c15 => ?_)
    · skip
      have hcp : sk_canP b.1 y = true := sk_cP1 c15
      have hvy : sk_v b.1 y := (sk_canP_iff (by omega)).mp hcp
      refine lv_iload_n hx hb dM_turn_28 rfl (lv_at hl 2 rfl) ?_
      refine lv_istore_n (lv' := [(3, .int y), (0, .ref (a 0)), (1, .int (nI o)), (2, .int y)]) hx hb dM_turn_29 rfl hl (by decide) rfl (fun ls hl => ?_)
      have loop1 : ∀ (nn : Nat) (z : Int32), sk_v b.1 z → decide (o ∈ sk_abv b.2.1 z) = decide (o ∈ sk_abv b.2.1 y) → (sk_abv b.2.1 z).length < nn → ∀ (H : Heap) (locs : List Loc), va_P (dC, dI) vwCl (sk_wMR a k (nI 0) (nI b.1) b.2.2.1 b.2.2.2.1 ex.1 (nI t.1) t.2.1 t.2.2.1 t.2.2.2.2 ex.2.1 (nI f.1) f.2.1 f.2.2.1 ex.2.2.1 f.2.2.2.1 f.2.2.2.2.1 ex.2.2.2.1 ex.2.2.2.2.1 ex.2.2.2.2.2 lf) H → va_D A (sk_wMR a k (nI 0) (nI b.1) b.2.2.1 b.2.2.2.1 ex.1 (nI t.1) t.2.1 t.2.2.1 t.2.2.2.2 ex.2.1 (nI f.1) f.2.1 f.2.2.1 ex.2.2.1 f.2.2.2.1 f.2.2.2.2.1 ex.2.2.2.1 ex.2.2.2.2.1 ex.2.2.2.2.2 lf) → va_S A s.heap H locs → ∀ ls : Array Slot, lv_has ls 5 [(3, .int z), (0, .ref (a 0)), (1, .int (nI o)), (2, .int y)] → W p l e (headSpec wzM_turn rzM_turn).room s m ([.ref (a 0), .int (nI o), .int y] : List Value).toArray below meth c H locs 0 0 (MQ below (va_Qi (fun r (u : sk_S × sk_Ex × sk_F × Int32) => r = sk_bI (sk_turn (b, t, f) (nI o) y).1 ∧ ∃ ex2 lf2 th2, u = ((sk_turn (b, t, f) (nI o) y).2, ex2, lf2, th2) ∧ sk_RM (sk_turn (b, t, f) (nI o) y).2 ex2) (fun u U => va_P (dC, dI) vwCl (sk_wM a k u.1 u.2.1 u.2.2.1 u.2.2.2) U.heap ∧ va_D A (sk_wM a k u.1 u.2.1 u.2.2.1 u.2.2.2)) A) ([.ref (a 0), .int (nI o), .int y] : List Value).toArray s 0 0 A) (F0 m 30 ls []) := by
        intro nn
        induction nn with
        | zero => intro z hz he hmu; exact absurd hmu (Nat.not_lt_zero _)
        | succ nn ih1 =>
          intro z hz he hmu H locs hP hD hS ls hl
          rcases hz with rfl | ⟨q, hq, rfl⟩
          · skip
            refine lv_iload_n hx hb dM_turn_30 rfl (lv_at hl 0 rfl) ?_
            refine lv_if_lt (tgt := 50) hx hb dM_turn_31 (by decide) (fun _ => ?_) (fun q => absurd (by decide) q)
            have hno : decide (o ∈ sk_abv b.2.1 y) = false := by rw [← he, sk_abv_m1]; exact decide_eq_false List.not_mem_nil
            obtain ⟨g, hg0, hle, hlen⟩ := sk_lenOk hT hs1
            refine lv_aload_n hx hb dM_turn_50 rfl (lv_at hl 1 rfl) ?_
            refine va_get (D := (dC, dI)) (ci := 4) (v := .ref (a 1)) (C := RM) (T := TM) (N := 20) hx hb hts inM hown hK hP 0 rfl rfl 2 (by decide) (hts _ wfM_7) (fun _ h9 => h9) rfl dM_turn_51 ?_
            refine lv_iload_n hx hb dM_turn_54 rfl (lv_at hl 2 rfl) ?_
            refine va_iald hx hb hK hP 1 0 rfl rfl (vp_in_nI (show o < 60 by omega) (by decide)) dM_turn_55 ?_
            refine lv_topi (fun x55 e55 => ?_)
            rw [nI_clamp (show o < 2 ^ 31 by omega)] at e55
            obtain rfl : x55 = nI (sk_sh b o) := e55.trans (hs2)
            refine lv_istore_n (lv' := [(3, .int (nI (sk_sh b o))), (0, .ref (a 0)), (1, .int (nI o)), (2, .int y)]) hx hb dM_turn_56 rfl hl (by decide) rfl (fun ls hl => ?_)
            refine lv_iconst (v := nI 0) hx hb dM_turn_57 (by decide) ?_
            refine lv_istore (lv' := [(4, .int (nI 0)), (3, .int (nI (sk_sh b o))), (0, .ref (a 0)), (1, .int (nI o)), (2, .int y)]) hx hb dM_turn_58 hl (by decide) rfl (fun ls hl => ?_)
            have loop2 : ∀ (nn : Nat) (pp : Nat) (lf2 : sk_F), pp ≤ g → (∀ j, j < pp → lf2 j = sk_nm t (sk_sh b o) j) → g - pp < nn → ∀ (H : Heap) (locs : List Loc), va_P (dC, dI) vwCl (sk_wMR a k (nI 0) (nI b.1) b.2.2.1 b.2.2.2.1 ex.1 (nI t.1) t.2.1 t.2.2.1 t.2.2.2.2 ex.2.1 (nI f.1) f.2.1 f.2.2.1 ex.2.2.1 f.2.2.2.1 f.2.2.2.2.1 ex.2.2.2.1 ex.2.2.2.2.1 ex.2.2.2.2.2 lf2) H → va_D A (sk_wMR a k (nI 0) (nI b.1) b.2.2.1 b.2.2.2.1 ex.1 (nI t.1) t.2.1 t.2.2.1 t.2.2.2.2 ex.2.1 (nI f.1) f.2.1 f.2.2.1 ex.2.2.1 f.2.2.2.1 f.2.2.2.2.1 ex.2.2.2.1 ex.2.2.2.2.1 ex.2.2.2.2.2 lf2) → va_S A s.heap H locs → ∀ ls : Array Slot, lv_has ls 5 [(4, .int (nI pp)), (3, .int (nI (sk_sh b o))), (0, .ref (a 0)), (1, .int (nI o)), (2, .int y)] → W p l e (headSpec wzM_turn rzM_turn).room s m ([.ref (a 0), .int (nI o), .int y] : List Value).toArray below meth c H locs 0 0 (MQ below (va_Qi (fun r (u : sk_S × sk_Ex × sk_F × Int32) => r = sk_bI (sk_turn (b, t, f) (nI o) y).1 ∧ ∃ ex2 lf2 th2, u = ((sk_turn (b, t, f) (nI o) y).2, ex2, lf2, th2) ∧ sk_RM (sk_turn (b, t, f) (nI o) y).2 ex2) (fun u U => va_P (dC, dI) vwCl (sk_wM a k u.1 u.2.1 u.2.2.1 u.2.2.2) U.heap ∧ va_D A (sk_wM a k u.1 u.2.1 u.2.2.1 u.2.2.2)) A) ([.ref (a 0), .int (nI o), .int y] : List Value).toArray s 0 0 A) (F0 m 60 ls []) := by
              intro nn
              induction nn with
              | zero => intro pp lf2 hpp hw2 hmu; exact absurd hmu (Nat.not_lt_zero _)
              | succ nn ih2 =>
                intro pp lf2 hpp hw2 hmu H locs hP hD hS ls hl
                refine lv_iload hx hb dM_turn_60 (lv_at hl 0 rfl) ?_
                refine lv_aload_n hx hb dM_turn_62 rfl (lv_at hl 2 rfl) ?_
                refine va_get (D := (dC, dI)) (ci := 4) (v := .ref (a 6)) (C := RM) (T := TM) (N := 20) hx hb hts inM hown hK hP 0 rfl rfl 8 (by decide) (hts _ wfM_29) (fun _ h9 => h9) rfl dM_turn_63 ?_
                refine lv_iload_n hx hb dM_turn_66 rfl (lv_at hl 1 rfl) ?_
                refine va_iald hx hb hK hP 6 0 rfl rfl (vp_in_nI (show (sk_sh b o) < 200 by omega) (by decide)) dM_turn_67 ?_
                refine lv_topi (fun x67 e67 => ?_)
                rw [nI_clamp (show (sk_sh b o) < 2 ^ 31 by omega)] at e67
                obtain rfl : x67 = nI g := e67.trans (hle)
                refine lv_icmp_ge (tgt := 96) hx hb dM_turn_68 (by decide) (fun c68 => ?_) (fun c68 => ?_)
                · skip
                  have n68 : g ≤ pp := (nI_leI (a := g) (b := pp) (by omega) (by omega)).mp c68
                  refine lv_aload_n hx hb dM_turn_96 rfl (lv_at hl 2 rfl) ?_
                  refine lv_iload_n hx hb dM_turn_97 rfl (lv_at hl 4 rfl) ?_
                  refine lv_aload_n hx hb dM_turn_98 rfl (lv_at hl 2 rfl) ?_
                  refine va_get (D := (dC, dI)) (ci := 4) (v := .ref (a 6)) (C := RM) (T := TM) (N := 20) hx hb hts inM hown hK hP 0 rfl rfl 8 (by decide) (hts _ wfM_29) (fun _ h9 => h9) rfl dM_turn_99 ?_
                  refine lv_iload_n hx hb dM_turn_102 rfl (lv_at hl 1 rfl) ?_
                  refine va_iald hx hb hK hP 6 0 rfl rfl (vp_in_nI (show (sk_sh b o) < 200 by omega) (by decide)) dM_turn_103 ?_
                  refine lv_topi (fun x103 e103 => ?_)
                  rw [nI_clamp (show (sk_sh b o) < 2 ^ 31 by omega)] at e103
                  obtain rfl : x103 = nI ((sk_names t (sk_sh b o)).length) := e103.trans (by rw [sk_names_len, hlen]; exact hle)
                  refine va_calli (va_runV (As := [.int y, .int (nI ((sk_names t (sk_sh b o)).length))]) (rest := []) ⟨hx, hb, hml, hown, hts⟩ (kM_shapeFor l dC dI a k b t f ex lf2 (nI 0) A y (sk_names t (sk_sh b o)) hT hN hvy (by rw [sk_names_len]; exact sk_lenle hT hs1) (sk_names_nodup hT hs1) (sk_names_in hT hs1) (sk_names_row hlen (fun j hj => hw2 j (by omega)))) (cwV 2 hts (sk_gV wmM_86 wiM_shapeFor wsM_shapeFor wnM wcM_shapeFor) rfl rfl rfl (by decide +kernel) ⟨Nat.le_of_ble_eq_true rfl, Nat.le_of_ble_eq_true rfl⟩) ⟨sk_blindMD _, va_recv hK hP (ci := 4) (q0 := 0) rfl rfl, fun U hU hW => ⟨rfl, sk_atM (S := (b, t, f)) (ex := ex) (lf := lf2) (th := nI 0) hP hK hU hW, hD⟩⟩ rfl rfl hl.1 rfl (lv_room (Nat.le_of_ble_eq_true rfl)) dM_turn_104 ⟨Nat.le_of_ble_eq_true rfl, Nat.le_of_ble_eq_true rfl⟩) hS (fun _ _ h => h) (fun _ h => h) (fun r104 u104 U9 H locs ht hvm w104 hB hz hk hS => ?_)
                  obtain ⟨hP, hD⟩ := hB
                  rw [ht] at hP
                  rcases w104 with ⟨hg, rfl, rfl⟩ | ⟨t2, g2, na2, hg, rfl, rfl, hN2⟩
                  · skip
                    have hP : va_P (dC, dI) vwCl (sk_wMR a k (nI 0) (nI b.1) b.2.2.1 b.2.2.2.1 ex.1 (nI t.1) t.2.1 t.2.2.1 t.2.2.2.2 ex.2.1 (nI f.1) f.2.1 f.2.2.1 ex.2.2.1 f.2.2.2.1 f.2.2.2.2.1 ex.2.2.2.1 ex.2.2.2.2.1 ex.2.2.2.2.2 lf2) H := hP
                    have hD : va_D A (sk_wMR a k (nI 0) (nI b.1) b.2.2.1 b.2.2.2.1 ex.1 (nI t.1) t.2.1 t.2.2.1 t.2.2.2.2 ex.2.1 (nI f.1) f.2.1 f.2.2.1 ex.2.2.1 f.2.2.2.1 f.2.2.2.2.1 ex.2.2.2.1 ex.2.2.2.2.1 ex.2.2.2.2.2 lf2) := hD
                    refine lv_istore (lv' := [(4, .int (-1)), (3, .int (nI (sk_sh b o))), (0, .ref (a 0)), (1, .int (nI o)), (2, .int y)]) hx hb dM_turn_107 hl (by decide) rfl (fun ls hl => ?_)
                    refine lv_iload hx hb dM_turn_109 (lv_at hl 0 rfl) ?_
                    refine lv_if_ge (tgt := 116) hx hb dM_turn_111 (by decide) (fun q => absurd q (by decide)) (fun _ => ?_)
                    refine lv_iconst (v := nI 0) hx hb dM_turn_114 (by decide) ?_
                    have hset : sk_turn (b, t, f) (nI o) y = _ := (sk_turn_y (S := (b, t, f)) h60 ho hcp).trans (sk_turn_2 hno hg)
                    exact W.zret (v := nI 0) hx hb hr (by decide) (fun U9 ht hW => ⟨⟨nI 0, ((b, t, f), ex, lf2, nI 0), rfl, ⟨by rw [hset]; rfl, ex, lf2, nI 0, by rw [hset], by rw [hset]; exact hR⟩, sk_endw ht hP hD⟩, hS.F ht⟩) hS.2.2 dM_turn_115
                  · skip
                    have hP : va_P (dC, dI) vwCl (sk_wMR a k (nI 0) (nI b.1) b.2.2.1 b.2.2.2.1 ((ex.1, na2, ex.2.2).1) (nI t2.1) t2.2.1 t2.2.2.1 t2.2.2.2.2 ((ex.1, na2, ex.2.2).2.1) (nI f.1) f.2.1 f.2.2.1 ((ex.1, na2, ex.2.2).2.2.1) f.2.2.2.1 f.2.2.2.2.1 ((ex.1, na2, ex.2.2).2.2.2.1) ((ex.1, na2, ex.2.2).2.2.2.2.1) ((ex.1, na2, ex.2.2).2.2.2.2.2) lf2) H := hP
                    have hD : va_D A (sk_wMR a k (nI 0) (nI b.1) b.2.2.1 b.2.2.2.1 ((ex.1, na2, ex.2.2).1) (nI t2.1) t2.2.1 t2.2.2.1 t2.2.2.2.2 ((ex.1, na2, ex.2.2).2.1) (nI f.1) f.2.1 f.2.2.1 ((ex.1, na2, ex.2.2).2.2.1) f.2.2.2.1 f.2.2.2.2.1 ((ex.1, na2, ex.2.2).2.2.2.1) ((ex.1, na2, ex.2.2).2.2.2.2.1) ((ex.1, na2, ex.2.2).2.2.2.2.2) lf2) := hD
                    obtain ⟨q1, q2, q3, q4, q5⟩ := sk_reach_spec hT hvy (sk_names_nodup hT hs1) (sk_names_in hT hs1) hg
                    have hg200 : t2.1 ≤ 200 := q1.2.1
                    refine lv_istore (lv' := [(4, .int (nI g2)), (3, .int (nI (sk_sh b o))), (0, .ref (a 0)), (1, .int (nI o)), (2, .int y)]) hx hb dM_turn_107 hl (by decide) rfl (fun ls hl => ?_)
                    refine lv_iload hx hb dM_turn_109 (lv_at hl 0 rfl) ?_
                    refine lv_if_ge (tgt := 116) hx hb dM_turn_111 (by decide) (fun c111 => ?_) (fun c111 => ?_)
                    · skip
                      have n111 : 0 ≤ g2 := (nI_leI (a := 0) (b := g2) (by omega) (by omega)).mp c111
                      refine lv_aload_n hx hb dM_turn_116 rfl (lv_at hl 2 rfl) ?_
                      refine va_get (D := (dC, dI)) (ci := 4) (v := .ref (a 1)) (C := RM) (T := TM) (N := 20) hx hb hts inM hown hK hP 0 rfl rfl 2 (by decide) (hts _ wfM_7) (fun _ h9 => h9) rfl dM_turn_117 ?_
                      refine lv_iload_n hx hb dM_turn_120 rfl (lv_at hl 3 rfl) ?_
                      refine lv_iload hx hb dM_turn_121 (lv_at hl 0 rfl) ?_
                      refine va_iast hx hb hK hP hD hS 1 0 rfl rfl (vp_in_nI (show o < 60 by omega) (by decide)) dM_turn_123 (fun H locs hP hD hS => ?_)
                      rw [nI_clamp (show o < 2 ^ 31 by omega)] at hP hD
                      have hP : va_P (dC, dI) vwCl (sk_wMR a k (nI 0) (nI b.1) (upd b.2.2.1 o (nI g2)) b.2.2.2.1 ((ex.1, na2, ex.2.2).1) (nI t2.1) t2.2.1 t2.2.2.1 t2.2.2.2.2 ((ex.1, na2, ex.2.2).2.1) (nI f.1) f.2.1 f.2.2.1 ((ex.1, na2, ex.2.2).2.2.1) f.2.2.2.1 f.2.2.2.2.1 ((ex.1, na2, ex.2.2).2.2.2.1) ((ex.1, na2, ex.2.2).2.2.2.2.1) ((ex.1, na2, ex.2.2).2.2.2.2.2) lf2) H := hP
                      have hD : va_D A (sk_wMR a k (nI 0) (nI b.1) (upd b.2.2.1 o (nI g2)) b.2.2.2.1 ((ex.1, na2, ex.2.2).1) (nI t2.1) t2.2.1 t2.2.2.1 t2.2.2.2.2 ((ex.1, na2, ex.2.2).2.1) (nI f.1) f.2.1 f.2.2.1 ((ex.1, na2, ex.2.2).2.2.1) f.2.2.2.1 f.2.2.2.2.1 ((ex.1, na2, ex.2.2).2.2.2.1) ((ex.1, na2, ex.2.2).2.2.2.2.1) ((ex.1, na2, ex.2.2).2.2.2.2.2) lf2) := hD
                      refine lv_aload_n hx hb dM_turn_124 rfl (lv_at hl 2 rfl) ?_
                      refine va_get (D := (dC, dI)) (ci := 4) (v := .ref (a 2)) (C := RM) (T := TM) (N := 20) hx hb hts inM hown hK hP 0 rfl rfl 3 (by decide) (hts _ wfM_13) (fun _ h9 => h9) rfl dM_turn_125 ?_
                      refine lv_iload_n hx hb dM_turn_128 rfl (lv_at hl 3 rfl) ?_
                      refine lv_dup2_11 hx hb dM_turn_129 rfl rfl ?_
                      refine va_iald hx hb hK hP 2 0 rfl rfl (vp_in_nI (show o < 60 by omega) (by decide)) dM_turn_130 ?_
                      refine lv_topi (fun x130 e130 => ?_)
                      rw [nI_clamp (show o < 2 ^ 31 by omega)] at e130
                      refine lv_iconst (v := nI 1) hx hb dM_turn_131 (by decide) ?_
                      refine lv_iadd hx hb dM_turn_132 ?_
                      refine lv_topi (fun x132 e132 => ?_)
                      obtain rfl : x132 = b.2.2.2.1 o + 1 := e132.trans (by rw [e130]; rfl)
                      refine va_iast hx hb hK hP hD hS 2 0 rfl rfl (vp_in_nI (show o < 60 by omega) (by decide)) dM_turn_133 (fun H locs hP hD hS => ?_)
                      rw [nI_clamp (show o < 2 ^ 31 by omega)] at hP hD
                      have hP : va_P (dC, dI) vwCl (sk_wMR a k (nI 0) (nI b.1) (upd b.2.2.1 o (nI g2)) (upd b.2.2.2.1 o (b.2.2.2.1 o + 1)) ((ex.1, na2, ex.2.2).1) (nI t2.1) t2.2.1 t2.2.2.1 t2.2.2.2.2 ((ex.1, na2, ex.2.2).2.1) (nI f.1) f.2.1 f.2.2.1 ((ex.1, na2, ex.2.2).2.2.1) f.2.2.2.1 f.2.2.2.2.1 ((ex.1, na2, ex.2.2).2.2.2.1) ((ex.1, na2, ex.2.2).2.2.2.2.1) ((ex.1, na2, ex.2.2).2.2.2.2.2) lf2) H := hP
                      have hD : va_D A (sk_wMR a k (nI 0) (nI b.1) (upd b.2.2.1 o (nI g2)) (upd b.2.2.2.1 o (b.2.2.2.1 o + 1)) ((ex.1, na2, ex.2.2).1) (nI t2.1) t2.2.1 t2.2.2.1 t2.2.2.2.2 ((ex.1, na2, ex.2.2).2.1) (nI f.1) f.2.1 f.2.2.1 ((ex.1, na2, ex.2.2).2.2.1) f.2.2.2.1 f.2.2.2.2.1 ((ex.1, na2, ex.2.2).2.2.2.1) ((ex.1, na2, ex.2.2).2.2.2.2.1) ((ex.1, na2, ex.2.2).2.2.2.2.2) lf2) := hD
                      refine lv_iconst (v := nI 1) hx hb dM_turn_134 (by decide) ?_
                      have hset : sk_turn (b, t, f) (nI o) y = _ := (sk_turn_y (S := (b, t, f)) h60 ho hcp).trans (sk_turn_3 hno hg)
                      exact W.zret (v := nI 1) hx hb hr (by decide) (fun U9 ht hW => ⟨⟨nI 1, ((sk_chg (b.1, upd b.2.1 o y, b.2.2) o g2, t2, sk_brk f o), (ex.1, na2, ex.2.2), lf2, nI 0), rfl, ⟨by rw [hset]; rfl, (ex.1, na2, ex.2.2), lf2, nI 0, by rw [hset], by rw [hset]; exact sk_RM_turn hOK hK1 ho hR q1 q2 q3 (by rw [← sk_names_len, q5, sk_names_len]) hN2⟩, sk_endw ht hP hD⟩, hS.F ht⟩) hS.2.2 dM_turn_135
                    · skip
                      have n111 : ¬ 0 ≤ g2 := fun z9 => c111 ((nI_leI (a := 0) (b := g2) (by omega) (by omega)).mpr z9)
                      omega
                · skip
                  have n68 : ¬ g ≤ pp := fun z9 => c68 ((nI_leI (a := g) (b := pp) (by omega) (by omega)).mpr z9)
                  refine lv_aload_n hx hb dM_turn_71 rfl (lv_at hl 2 rfl) ?_
                  refine va_get (D := (dC, dI)) (ci := 4) (v := .ref (a 16)) (C := RM) (T := TM) (N := 20) hx hb hts inM hown hK hP 0 rfl rfl 19 (by decide) (hts _ wfM_59) (fun _ h9 => h9) rfl dM_turn_72 ?_
                  refine lv_iload hx hb dM_turn_75 (lv_at hl 0 rfl) ?_
                  refine lv_aload_n hx hb dM_turn_77 rfl (lv_at hl 2 rfl) ?_
                  refine va_get (D := (dC, dI)) (ci := 4) (v := .ref (a 7)) (C := RM) (T := TM) (N := 20) hx hb hts inM hown hK hP 0 rfl rfl 9 (by decide) (hts _ wfM_32) (fun _ h9 => h9) rfl dM_turn_78 ?_
                  refine lv_bipush (v := nI 12) hx hb dM_turn_81 (by decide) ?_
                  refine lv_iload_n hx hb dM_turn_83 rfl (lv_at hl 1 rfl) ?_
                  refine lv_imul hx hb dM_turn_84 ?_
                  refine lv_topi (fun x84 e84 => ?_)
                  obtain rfl : x84 = nI (12 * (sk_sh b o)) := e84.trans (pk_mul _ _)
                  refine lv_iload hx hb dM_turn_85 (lv_at hl 0 rfl) ?_
                  refine lv_iadd hx hb dM_turn_87 ?_
                  refine lv_topi (fun x87 e87 => ?_)
                  obtain rfl : x87 = nI ((12 * (sk_sh b o)) + pp) := e87.trans (nI_add _ _)
                  refine va_iald hx hb hK hP 7 0 rfl rfl (vp_in_nI (show ((12 * (sk_sh b o)) + pp) < 2400 by omega) (by decide)) dM_turn_88 ?_
                  refine lv_topi (fun x88 e88 => ?_)
                  rw [nI_clamp (show ((12 * (sk_sh b o)) + pp) < 2 ^ 31 by omega)] at e88
                  obtain rfl : x88 = sk_nm t (sk_sh b o) pp := e88.trans (hN _ hs1 pp (by omega))
                  refine va_iast hx hb hK hP hD hS 16 0 rfl rfl (vp_in_nI (show pp < 12 by omega) (by decide)) dM_turn_89 (fun H locs hP hD hS => ?_)
                  rw [nI_clamp (show pp < 2 ^ 31 by omega)] at hP hD
                  have hP : va_P (dC, dI) vwCl (sk_wMR a k (nI 0) (nI b.1) b.2.2.1 b.2.2.2.1 ex.1 (nI t.1) t.2.1 t.2.2.1 t.2.2.2.2 ex.2.1 (nI f.1) f.2.1 f.2.2.1 ex.2.2.1 f.2.2.2.1 f.2.2.2.2.1 ex.2.2.2.1 ex.2.2.2.2.1 ex.2.2.2.2.2 (upd lf2 pp (sk_nm t (sk_sh b o) pp))) H := hP
                  have hD : va_D A (sk_wMR a k (nI 0) (nI b.1) b.2.2.1 b.2.2.2.1 ex.1 (nI t.1) t.2.1 t.2.2.1 t.2.2.2.2 ex.2.1 (nI f.1) f.2.1 f.2.2.1 ex.2.2.1 f.2.2.2.1 f.2.2.2.2.1 ex.2.2.2.1 ex.2.2.2.2.1 ex.2.2.2.2.2 (upd lf2 pp (sk_nm t (sk_sh b o) pp))) := hD
                  refine lv_iinc (v := nI (pp + 1)) (lv' := [(4, .int (nI (pp + 1))), (3, .int (nI (sk_sh b o))), (0, .ref (a 0)), (1, .int (nI o)), (2, .int y)]) hx hb dM_turn_90 hl (k := 0) rfl (sk_inc _) (by decide) rfl (fun ls hl => ?_)
                  refine lv_goto (tgt := 60) hx hb dM_turn_93 (by decide) ?_
                  exact ih2 (pp + 1) (upd lf2 pp (sk_nm t (sk_sh b o) pp)) (by omega) (fun j hj => (Nat.lt_or_eq_of_le (Nat.le_of_lt_succ hj)).elim (fun z9 => (pk_un (by omega)).trans (hw2 j z9)) (fun z9 => by subst z9; exact pk_us)) (by omega) _ _ hP hD hS ls (lv_sub hl [0, 1, 2, 3, 4] rfl)
            exact loop2 (g - 0 + 1) 0 lf (Nat.zero_le _) (fun j hj => absurd hj (Nat.not_lt_zero j)) (Nat.lt_succ_self _) _ _ hP hD hS ls (lv_sub hl [0, 1, 2, 3, 4] rfl)
          · skip
            have hs9 := sk_abv_s hA hq
            have hl9 : (sk_abv b.2.1 (nI q)).length = (sk_abv b.2.1 (b.2.1 q)).length + 1 := by rw [hs9]; rfl
            refine lv_iload_n hx hb dM_turn_30 rfl (lv_at hl 0 rfl) ?_
            refine lv_if_lt (tgt := 50) hx hb dM_turn_31 (by decide) (fun c31 => ?_) (fun c31 => ?_)
            · skip
              have n31 : q < 0 := (nI_ltI (a := q) (b := 0) (by omega) (by omega)).mp c31
              omega
            · skip
              have n31 : ¬ q < 0 := fun z9 => c31 ((nI_ltI (a := q) (b := 0) (by omega) (by omega)).mpr z9)
              refine lv_iload_n hx hb dM_turn_34 rfl (lv_at hl 0 rfl) ?_
              refine lv_iload_n hx hb dM_turn_35 rfl (lv_at hl 2 rfl) ?_
              refine lv_icmp_ne (tgt := 41) hx hb dM_turn_36 (by decide) (fun c36 => ?_) (fun c36 => ?_)
              · skip
                have n36 : ¬ q = o := fun z9 => c36 ((nI_eq (a := q) (b := o) (by omega) (by omega)).mpr z9)
                refine lv_aload_n hx hb dM_turn_41 rfl (lv_at hl 1 rfl) ?_
                refine lv_iload_n hx hb dM_turn_42 rfl (lv_at hl 0 rfl) ?_
                refine va_calli (va_runV (As := [.int (nI q)]) (rest := []) ⟨hx, hb, hml, hown, hts⟩ (kM_above l dC dI a k b t f ex lf (nI 0) q hT hO hq) (cwV 1 hts (sk_gV wmM_95 wiM_above wsM_above wnM wcM_above) rfl rfl rfl (by decide +kernel) ⟨Nat.le_of_ble_eq_true rfl, Nat.le_of_ble_eq_true rfl⟩) ⟨sk_blindM _, va_recv hK hP (ci := 4) (q0 := 0) rfl rfl, fun U hU hW => ⟨rfl, sk_atM (S := (b, t, f)) (ex := ex) (lf := lf) (th := nI 0) hP hK hU hW⟩⟩ rfl rfl hl.1 rfl (lv_room (Nat.le_of_ble_eq_true rfl)) dM_turn_43 ⟨Nat.le_of_ble_eq_true rfl, Nat.le_of_ble_eq_true rfl⟩) hS (fun _ _ h => h.elim) (fun _ h => h.elim) (fun r43 u43 U9 H locs ht hvm w43 hB hz hk hS => ?_)
                have hP : va_P (dC, dI) vwCl (sk_wMR a k (nI 0) (nI b.1) b.2.2.1 b.2.2.2.1 ex.1 (nI t.1) t.2.1 t.2.2.1 t.2.2.2.2 ex.2.1 (nI f.1) f.2.1 f.2.2.1 ex.2.2.1 f.2.2.2.1 f.2.2.2.2.1 ex.2.2.2.1 ex.2.2.2.2.1 ex.2.2.2.2.2 lf) H := hP.kept (fun j q hq => hk q.1 ((hP j q hq).lt) (fun h => h))
                clear hk hB ht
                refine lv_istore_n (lv' := [(3, .int r43), (0, .ref (a 0)), (1, .int (nI o)), (2, .int y)]) hx hb dM_turn_46 rfl hl (by decide) rfl (fun ls hl => ?_)
                refine lv_goto (tgt := 30) hx hb dM_turn_47 (by decide) ?_
                have hmx : (sk_abv b.2.1 r43).length < nn := by rw [w43]; omega
                exact ih1 r43 (by rw [w43]; exact hA.2.1 q hq) (by rw [w43, ← he, hs9]; simp [show ¬ o = q from fun z9 => n36 z9.symm]) (by omega) _ _ hP hD hS ls (lv_sub hl [0, 1, 2, 3] rfl)
              · skip
                have n36 : q = o := (nI_eq (a := q) (b := o) (by omega) (by omega)).mp c36
                refine lv_iconst (v := nI 0) hx hb dM_turn_39 (by decide) ?_
                have hset : sk_turn (b, t, f) (nI o) y = _ := (sk_turn_y (S := (b, t, f)) h60 ho hcp).trans (sk_turn_1 (by rw [← he, hs9, n36, decide_eq_true List.mem_cons_self]))
                exact W.zret (v := nI 0) hx hb hr (by decide) (fun U9 ht hW => ⟨⟨nI 0, ((b, t, f), ex, lf, nI 0), rfl, ⟨by rw [hset]; rfl, ex, lf, nI 0, by rw [hset], by rw [hset]; exact hR⟩, sk_endw ht hP hD⟩, hS.F ht⟩) hS.2.2 dM_turn_40
      exact loop1 ((sk_abv b.2.1 y).length + 1) y (hvy) (rfl) (Nat.lt_succ_self _) _ _ hP hD hS ls (lv_sub hl [0, 1, 2, 3] rfl)
    · skip
      refine lv_aload_n hx hb dM_turn_18 rfl (lv_at hl 0 rfl) ?_
      refine lv_iload_n hx hb dM_turn_19 rfl (lv_at hl 2 rfl) ?_
      refine va_calli (va_runV (As := [.int y]) (rest := []) ⟨hx, hb, hml, hown, hts⟩ (kM_isObject l dC dI a k b t f ex lf (nI 0) y) (cwV 1 hts (sk_gV wmM_82 wiM_isObject wsM_isObject wnM wcM_isObject) rfl rfl rfl (by decide +kernel) ⟨Nat.le_of_ble_eq_true rfl, Nat.le_of_ble_eq_true rfl⟩) ⟨sk_blindM _, va_recv hK hP (ci := 4) (q0 := 0) rfl rfl, fun U hU hW => ⟨rfl, sk_atM (S := (b, t, f)) (ex := ex) (lf := lf) (th := nI 0) hP hK hU hW⟩⟩ rfl rfl hl.1 rfl (lv_room (Nat.le_of_ble_eq_true rfl)) dM_turn_20 ⟨Nat.le_of_ble_eq_true rfl, Nat.le_of_ble_eq_true rfl⟩) hS (fun _ _ h => h.elim) (fun _ h => h.elim) (fun r20 u20 U9 H locs ht hvm w20 hB hz hk hS => ?_)
      have hP : va_P (dC, dI) vwCl (sk_wMR a k (nI 0) (nI b.1) b.2.2.1 b.2.2.2.1 ex.1 (nI t.1) t.2.1 t.2.2.1 t.2.2.2.2 ex.2.1 (nI f.1) f.2.1 f.2.2.1 ex.2.2.1 f.2.2.2.1 f.2.2.2.2.1 ex.2.2.2.1 ex.2.2.2.2.1 ex.2.2.2.2.2 lf) H := hP.kept (fun j q hq => hk q.1 ((hP j q hq).lt) (fun h => h))
      clear hk hB ht
      rcases sk_bI_or (sk_hasB b.1 y) with ⟨h20, hv⟩ | ⟨h20, hv⟩
      · skip
        obtain rfl : r20 = nI 1 := w20.trans hv
        refine lv_if_ne (tgt := 28) hx hb dM_turn_23 (by decide) (fun _ => ?_) (fun q => absurd q (by decide))
        have hcp : sk_canP b.1 y = true := sk_cP2 h20
        have hvy : sk_v b.1 y := (sk_canP_iff (by omega)).mp hcp
        refine lv_iload_n hx hb dM_turn_28 rfl (lv_at hl 2 rfl) ?_
        refine lv_istore_n (lv' := [(3, .int y), (0, .ref (a 0)), (1, .int (nI o)), (2, .int y)]) hx hb dM_turn_29 rfl hl (by decide) rfl (fun ls hl => ?_)
        have loop1 : ∀ (nn : Nat) (z : Int32), sk_v b.1 z → decide (o ∈ sk_abv b.2.1 z) = decide (o ∈ sk_abv b.2.1 y) → (sk_abv b.2.1 z).length < nn → ∀ (H : Heap) (locs : List Loc), va_P (dC, dI) vwCl (sk_wMR a k (nI 0) (nI b.1) b.2.2.1 b.2.2.2.1 ex.1 (nI t.1) t.2.1 t.2.2.1 t.2.2.2.2 ex.2.1 (nI f.1) f.2.1 f.2.2.1 ex.2.2.1 f.2.2.2.1 f.2.2.2.2.1 ex.2.2.2.1 ex.2.2.2.2.1 ex.2.2.2.2.2 lf) H → va_D A (sk_wMR a k (nI 0) (nI b.1) b.2.2.1 b.2.2.2.1 ex.1 (nI t.1) t.2.1 t.2.2.1 t.2.2.2.2 ex.2.1 (nI f.1) f.2.1 f.2.2.1 ex.2.2.1 f.2.2.2.1 f.2.2.2.2.1 ex.2.2.2.1 ex.2.2.2.2.1 ex.2.2.2.2.2 lf) → va_S A s.heap H locs → ∀ ls : Array Slot, lv_has ls 5 [(3, .int z), (0, .ref (a 0)), (1, .int (nI o)), (2, .int y)] → W p l e (headSpec wzM_turn rzM_turn).room s m ([.ref (a 0), .int (nI o), .int y] : List Value).toArray below meth c H locs 0 0 (MQ below (va_Qi (fun r (u : sk_S × sk_Ex × sk_F × Int32) => r = sk_bI (sk_turn (b, t, f) (nI o) y).1 ∧ ∃ ex2 lf2 th2, u = ((sk_turn (b, t, f) (nI o) y).2, ex2, lf2, th2) ∧ sk_RM (sk_turn (b, t, f) (nI o) y).2 ex2) (fun u U => va_P (dC, dI) vwCl (sk_wM a k u.1 u.2.1 u.2.2.1 u.2.2.2) U.heap ∧ va_D A (sk_wM a k u.1 u.2.1 u.2.2.1 u.2.2.2)) A) ([.ref (a 0), .int (nI o), .int y] : List Value).toArray s 0 0 A) (F0 m 30 ls []) := by
          intro nn
          induction nn with
          | zero => intro z hz he hmu; exact absurd hmu (Nat.not_lt_zero _)
          | succ nn ih1 =>
            intro z hz he hmu H locs hP hD hS ls hl
            rcases hz with rfl | ⟨q, hq, rfl⟩
            · skip
              refine lv_iload_n hx hb dM_turn_30 rfl (lv_at hl 0 rfl) ?_
              refine lv_if_lt (tgt := 50) hx hb dM_turn_31 (by decide) (fun _ => ?_) (fun q => absurd (by decide) q)
              have hno : decide (o ∈ sk_abv b.2.1 y) = false := by rw [← he, sk_abv_m1]; exact decide_eq_false List.not_mem_nil
              obtain ⟨g, hg0, hle, hlen⟩ := sk_lenOk hT hs1
              refine lv_aload_n hx hb dM_turn_50 rfl (lv_at hl 1 rfl) ?_
              refine va_get (D := (dC, dI)) (ci := 4) (v := .ref (a 1)) (C := RM) (T := TM) (N := 20) hx hb hts inM hown hK hP 0 rfl rfl 2 (by decide) (hts _ wfM_7) (fun _ h9 => h9) rfl dM_turn_51 ?_
              refine lv_iload_n hx hb dM_turn_54 rfl (lv_at hl 2 rfl) ?_
              refine va_iald hx hb hK hP 1 0 rfl rfl (vp_in_nI (show o < 60 by omega) (by decide)) dM_turn_55 ?_
              refine lv_topi (fun x55 e55 => ?_)
              rw [nI_clamp (show o < 2 ^ 31 by omega)] at e55
              obtain rfl : x55 = nI (sk_sh b o) := e55.trans (hs2)
              refine lv_istore_n (lv' := [(3, .int (nI (sk_sh b o))), (0, .ref (a 0)), (1, .int (nI o)), (2, .int y)]) hx hb dM_turn_56 rfl hl (by decide) rfl (fun ls hl => ?_)
              refine lv_iconst (v := nI 0) hx hb dM_turn_57 (by decide) ?_
              refine lv_istore (lv' := [(4, .int (nI 0)), (3, .int (nI (sk_sh b o))), (0, .ref (a 0)), (1, .int (nI o)), (2, .int y)]) hx hb dM_turn_58 hl (by decide) rfl (fun ls hl => ?_)
              have loop2 : ∀ (nn : Nat) (pp : Nat) (lf2 : sk_F), pp ≤ g → (∀ j, j < pp → lf2 j = sk_nm t (sk_sh b o) j) → g - pp < nn → ∀ (H : Heap) (locs : List Loc), va_P (dC, dI) vwCl (sk_wMR a k (nI 0) (nI b.1) b.2.2.1 b.2.2.2.1 ex.1 (nI t.1) t.2.1 t.2.2.1 t.2.2.2.2 ex.2.1 (nI f.1) f.2.1 f.2.2.1 ex.2.2.1 f.2.2.2.1 f.2.2.2.2.1 ex.2.2.2.1 ex.2.2.2.2.1 ex.2.2.2.2.2 lf2) H → va_D A (sk_wMR a k (nI 0) (nI b.1) b.2.2.1 b.2.2.2.1 ex.1 (nI t.1) t.2.1 t.2.2.1 t.2.2.2.2 ex.2.1 (nI f.1) f.2.1 f.2.2.1 ex.2.2.1 f.2.2.2.1 f.2.2.2.2.1 ex.2.2.2.1 ex.2.2.2.2.1 ex.2.2.2.2.2 lf2) → va_S A s.heap H locs → ∀ ls : Array Slot, lv_has ls 5 [(4, .int (nI pp)), (3, .int (nI (sk_sh b o))), (0, .ref (a 0)), (1, .int (nI o)), (2, .int y)] → W p l e (headSpec wzM_turn rzM_turn).room s m ([.ref (a 0), .int (nI o), .int y] : List Value).toArray below meth c H locs 0 0 (MQ below (va_Qi (fun r (u : sk_S × sk_Ex × sk_F × Int32) => r = sk_bI (sk_turn (b, t, f) (nI o) y).1 ∧ ∃ ex2 lf2 th2, u = ((sk_turn (b, t, f) (nI o) y).2, ex2, lf2, th2) ∧ sk_RM (sk_turn (b, t, f) (nI o) y).2 ex2) (fun u U => va_P (dC, dI) vwCl (sk_wM a k u.1 u.2.1 u.2.2.1 u.2.2.2) U.heap ∧ va_D A (sk_wM a k u.1 u.2.1 u.2.2.1 u.2.2.2)) A) ([.ref (a 0), .int (nI o), .int y] : List Value).toArray s 0 0 A) (F0 m 60 ls []) := by
                intro nn
                induction nn with
                | zero => intro pp lf2 hpp hw2 hmu; exact absurd hmu (Nat.not_lt_zero _)
                | succ nn ih2 =>
                  intro pp lf2 hpp hw2 hmu H locs hP hD hS ls hl
                  refine lv_iload hx hb dM_turn_60 (lv_at hl 0 rfl) ?_
                  refine lv_aload_n hx hb dM_turn_62 rfl (lv_at hl 2 rfl) ?_
                  refine va_get (D := (dC, dI)) (ci := 4) (v := .ref (a 6)) (C := RM) (T := TM) (N := 20) hx hb hts inM hown hK hP 0 rfl rfl 8 (by decide) (hts _ wfM_29) (fun _ h9 => h9) rfl dM_turn_63 ?_
                  refine lv_iload_n hx hb dM_turn_66 rfl (lv_at hl 1 rfl) ?_
                  refine va_iald hx hb hK hP 6 0 rfl rfl (vp_in_nI (show (sk_sh b o) < 200 by omega) (by decide)) dM_turn_67 ?_
                  refine lv_topi (fun x67 e67 => ?_)
                  rw [nI_clamp (show (sk_sh b o) < 2 ^ 31 by omega)] at e67
                  obtain rfl : x67 = nI g := e67.trans (hle)
                  refine lv_icmp_ge (tgt := 96) hx hb dM_turn_68 (by decide) (fun c68 => ?_) (fun c68 => ?_)
                  · skip
                    have n68 : g ≤ pp := (nI_leI (a := g) (b := pp) (by omega) (by omega)).mp c68
                    refine lv_aload_n hx hb dM_turn_96 rfl (lv_at hl 2 rfl) ?_
                    refine lv_iload_n hx hb dM_turn_97 rfl (lv_at hl 4 rfl) ?_
                    refine lv_aload_n hx hb dM_turn_98 rfl (lv_at hl 2 rfl) ?_
                    refine va_get (D := (dC, dI)) (ci := 4) (v := .ref (a 6)) (C := RM) (T := TM) (N := 20) hx hb hts inM hown hK hP 0 rfl rfl 8 (by decide) (hts _ wfM_29) (fun _ h9 => h9) rfl dM_turn_99 ?_
                    refine lv_iload_n hx hb dM_turn_102 rfl (lv_at hl 1 rfl) ?_
                    refine va_iald hx hb hK hP 6 0 rfl rfl (vp_in_nI (show (sk_sh b o) < 200 by omega) (by decide)) dM_turn_103 ?_
                    refine lv_topi (fun x103 e103 => ?_)
                    rw [nI_clamp (show (sk_sh b o) < 2 ^ 31 by omega)] at e103
                    obtain rfl : x103 = nI ((sk_names t (sk_sh b o)).length) := e103.trans (by rw [sk_names_len, hlen]; exact hle)
                    refine va_calli (va_runV (As := [.int y, .int (nI ((sk_names t (sk_sh b o)).length))]) (rest := []) ⟨hx, hb, hml, hown, hts⟩ (kM_shapeFor l dC dI a k b t f ex lf2 (nI 0) A y (sk_names t (sk_sh b o)) hT hN hvy (by rw [sk_names_len]; exact sk_lenle hT hs1) (sk_names_nodup hT hs1) (sk_names_in hT hs1) (sk_names_row hlen (fun j hj => hw2 j (by omega)))) (cwV 2 hts (sk_gV wmM_86 wiM_shapeFor wsM_shapeFor wnM wcM_shapeFor) rfl rfl rfl (by decide +kernel) ⟨Nat.le_of_ble_eq_true rfl, Nat.le_of_ble_eq_true rfl⟩) ⟨sk_blindMD _, va_recv hK hP (ci := 4) (q0 := 0) rfl rfl, fun U hU hW => ⟨rfl, sk_atM (S := (b, t, f)) (ex := ex) (lf := lf2) (th := nI 0) hP hK hU hW, hD⟩⟩ rfl rfl hl.1 rfl (lv_room (Nat.le_of_ble_eq_true rfl)) dM_turn_104 ⟨Nat.le_of_ble_eq_true rfl, Nat.le_of_ble_eq_true rfl⟩) hS (fun _ _ h => h) (fun _ h => h) (fun r104 u104 U9 H locs ht hvm w104 hB hz hk hS => ?_)
                    obtain ⟨hP, hD⟩ := hB
                    rw [ht] at hP
                    rcases w104 with ⟨hg, rfl, rfl⟩ | ⟨t2, g2, na2, hg, rfl, rfl, hN2⟩
                    · skip
                      have hP : va_P (dC, dI) vwCl (sk_wMR a k (nI 0) (nI b.1) b.2.2.1 b.2.2.2.1 ex.1 (nI t.1) t.2.1 t.2.2.1 t.2.2.2.2 ex.2.1 (nI f.1) f.2.1 f.2.2.1 ex.2.2.1 f.2.2.2.1 f.2.2.2.2.1 ex.2.2.2.1 ex.2.2.2.2.1 ex.2.2.2.2.2 lf2) H := hP
                      have hD : va_D A (sk_wMR a k (nI 0) (nI b.1) b.2.2.1 b.2.2.2.1 ex.1 (nI t.1) t.2.1 t.2.2.1 t.2.2.2.2 ex.2.1 (nI f.1) f.2.1 f.2.2.1 ex.2.2.1 f.2.2.2.1 f.2.2.2.2.1 ex.2.2.2.1 ex.2.2.2.2.1 ex.2.2.2.2.2 lf2) := hD
                      refine lv_istore (lv' := [(4, .int (-1)), (3, .int (nI (sk_sh b o))), (0, .ref (a 0)), (1, .int (nI o)), (2, .int y)]) hx hb dM_turn_107 hl (by decide) rfl (fun ls hl => ?_)
                      refine lv_iload hx hb dM_turn_109 (lv_at hl 0 rfl) ?_
                      refine lv_if_ge (tgt := 116) hx hb dM_turn_111 (by decide) (fun q => absurd q (by decide)) (fun _ => ?_)
                      refine lv_iconst (v := nI 0) hx hb dM_turn_114 (by decide) ?_
                      have hset : sk_turn (b, t, f) (nI o) y = _ := (sk_turn_y (S := (b, t, f)) h60 ho hcp).trans (sk_turn_2 hno hg)
                      exact W.zret (v := nI 0) hx hb hr (by decide) (fun U9 ht hW => ⟨⟨nI 0, ((b, t, f), ex, lf2, nI 0), rfl, ⟨by rw [hset]; rfl, ex, lf2, nI 0, by rw [hset], by rw [hset]; exact hR⟩, sk_endw ht hP hD⟩, hS.F ht⟩) hS.2.2 dM_turn_115
                    · skip
                      have hP : va_P (dC, dI) vwCl (sk_wMR a k (nI 0) (nI b.1) b.2.2.1 b.2.2.2.1 ((ex.1, na2, ex.2.2).1) (nI t2.1) t2.2.1 t2.2.2.1 t2.2.2.2.2 ((ex.1, na2, ex.2.2).2.1) (nI f.1) f.2.1 f.2.2.1 ((ex.1, na2, ex.2.2).2.2.1) f.2.2.2.1 f.2.2.2.2.1 ((ex.1, na2, ex.2.2).2.2.2.1) ((ex.1, na2, ex.2.2).2.2.2.2.1) ((ex.1, na2, ex.2.2).2.2.2.2.2) lf2) H := hP
                      have hD : va_D A (sk_wMR a k (nI 0) (nI b.1) b.2.2.1 b.2.2.2.1 ((ex.1, na2, ex.2.2).1) (nI t2.1) t2.2.1 t2.2.2.1 t2.2.2.2.2 ((ex.1, na2, ex.2.2).2.1) (nI f.1) f.2.1 f.2.2.1 ((ex.1, na2, ex.2.2).2.2.1) f.2.2.2.1 f.2.2.2.2.1 ((ex.1, na2, ex.2.2).2.2.2.1) ((ex.1, na2, ex.2.2).2.2.2.2.1) ((ex.1, na2, ex.2.2).2.2.2.2.2) lf2) := hD
                      obtain ⟨q1, q2, q3, q4, q5⟩ := sk_reach_spec hT hvy (sk_names_nodup hT hs1) (sk_names_in hT hs1) hg
                      have hg200 : t2.1 ≤ 200 := q1.2.1
                      refine lv_istore (lv' := [(4, .int (nI g2)), (3, .int (nI (sk_sh b o))), (0, .ref (a 0)), (1, .int (nI o)), (2, .int y)]) hx hb dM_turn_107 hl (by decide) rfl (fun ls hl => ?_)
                      refine lv_iload hx hb dM_turn_109 (lv_at hl 0 rfl) ?_
                      refine lv_if_ge (tgt := 116) hx hb dM_turn_111 (by decide) (fun c111 => ?_) (fun c111 => ?_)
                      · skip
                        have n111 : 0 ≤ g2 := (nI_leI (a := 0) (b := g2) (by omega) (by omega)).mp c111
                        refine lv_aload_n hx hb dM_turn_116 rfl (lv_at hl 2 rfl) ?_
                        refine va_get (D := (dC, dI)) (ci := 4) (v := .ref (a 1)) (C := RM) (T := TM) (N := 20) hx hb hts inM hown hK hP 0 rfl rfl 2 (by decide) (hts _ wfM_7) (fun _ h9 => h9) rfl dM_turn_117 ?_
                        refine lv_iload_n hx hb dM_turn_120 rfl (lv_at hl 3 rfl) ?_
                        refine lv_iload hx hb dM_turn_121 (lv_at hl 0 rfl) ?_
                        refine va_iast hx hb hK hP hD hS 1 0 rfl rfl (vp_in_nI (show o < 60 by omega) (by decide)) dM_turn_123 (fun H locs hP hD hS => ?_)
                        rw [nI_clamp (show o < 2 ^ 31 by omega)] at hP hD
                        have hP : va_P (dC, dI) vwCl (sk_wMR a k (nI 0) (nI b.1) (upd b.2.2.1 o (nI g2)) b.2.2.2.1 ((ex.1, na2, ex.2.2).1) (nI t2.1) t2.2.1 t2.2.2.1 t2.2.2.2.2 ((ex.1, na2, ex.2.2).2.1) (nI f.1) f.2.1 f.2.2.1 ((ex.1, na2, ex.2.2).2.2.1) f.2.2.2.1 f.2.2.2.2.1 ((ex.1, na2, ex.2.2).2.2.2.1) ((ex.1, na2, ex.2.2).2.2.2.2.1) ((ex.1, na2, ex.2.2).2.2.2.2.2) lf2) H := hP
                        have hD : va_D A (sk_wMR a k (nI 0) (nI b.1) (upd b.2.2.1 o (nI g2)) b.2.2.2.1 ((ex.1, na2, ex.2.2).1) (nI t2.1) t2.2.1 t2.2.2.1 t2.2.2.2.2 ((ex.1, na2, ex.2.2).2.1) (nI f.1) f.2.1 f.2.2.1 ((ex.1, na2, ex.2.2).2.2.1) f.2.2.2.1 f.2.2.2.2.1 ((ex.1, na2, ex.2.2).2.2.2.1) ((ex.1, na2, ex.2.2).2.2.2.2.1) ((ex.1, na2, ex.2.2).2.2.2.2.2) lf2) := hD
                        refine lv_aload_n hx hb dM_turn_124 rfl (lv_at hl 2 rfl) ?_
                        refine va_get (D := (dC, dI)) (ci := 4) (v := .ref (a 2)) (C := RM) (T := TM) (N := 20) hx hb hts inM hown hK hP 0 rfl rfl 3 (by decide) (hts _ wfM_13) (fun _ h9 => h9) rfl dM_turn_125 ?_
                        refine lv_iload_n hx hb dM_turn_128 rfl (lv_at hl 3 rfl) ?_
                        refine lv_dup2_11 hx hb dM_turn_129 rfl rfl ?_
                        refine va_iald hx hb hK hP 2 0 rfl rfl (vp_in_nI (show o < 60 by omega) (by decide)) dM_turn_130 ?_
                        refine lv_topi (fun x130 e130 => ?_)
                        rw [nI_clamp (show o < 2 ^ 31 by omega)] at e130
                        refine lv_iconst (v := nI 1) hx hb dM_turn_131 (by decide) ?_
                        refine lv_iadd hx hb dM_turn_132 ?_
                        refine lv_topi (fun x132 e132 => ?_)
                        obtain rfl : x132 = b.2.2.2.1 o + 1 := e132.trans (by rw [e130]; rfl)
                        refine va_iast hx hb hK hP hD hS 2 0 rfl rfl (vp_in_nI (show o < 60 by omega) (by decide)) dM_turn_133 (fun H locs hP hD hS => ?_)
                        rw [nI_clamp (show o < 2 ^ 31 by omega)] at hP hD
                        have hP : va_P (dC, dI) vwCl (sk_wMR a k (nI 0) (nI b.1) (upd b.2.2.1 o (nI g2)) (upd b.2.2.2.1 o (b.2.2.2.1 o + 1)) ((ex.1, na2, ex.2.2).1) (nI t2.1) t2.2.1 t2.2.2.1 t2.2.2.2.2 ((ex.1, na2, ex.2.2).2.1) (nI f.1) f.2.1 f.2.2.1 ((ex.1, na2, ex.2.2).2.2.1) f.2.2.2.1 f.2.2.2.2.1 ((ex.1, na2, ex.2.2).2.2.2.1) ((ex.1, na2, ex.2.2).2.2.2.2.1) ((ex.1, na2, ex.2.2).2.2.2.2.2) lf2) H := hP
                        have hD : va_D A (sk_wMR a k (nI 0) (nI b.1) (upd b.2.2.1 o (nI g2)) (upd b.2.2.2.1 o (b.2.2.2.1 o + 1)) ((ex.1, na2, ex.2.2).1) (nI t2.1) t2.2.1 t2.2.2.1 t2.2.2.2.2 ((ex.1, na2, ex.2.2).2.1) (nI f.1) f.2.1 f.2.2.1 ((ex.1, na2, ex.2.2).2.2.1) f.2.2.2.1 f.2.2.2.2.1 ((ex.1, na2, ex.2.2).2.2.2.1) ((ex.1, na2, ex.2.2).2.2.2.2.1) ((ex.1, na2, ex.2.2).2.2.2.2.2) lf2) := hD
                        refine lv_iconst (v := nI 1) hx hb dM_turn_134 (by decide) ?_
                        have hset : sk_turn (b, t, f) (nI o) y = _ := (sk_turn_y (S := (b, t, f)) h60 ho hcp).trans (sk_turn_3 hno hg)
                        exact W.zret (v := nI 1) hx hb hr (by decide) (fun U9 ht hW => ⟨⟨nI 1, ((sk_chg (b.1, upd b.2.1 o y, b.2.2) o g2, t2, sk_brk f o), (ex.1, na2, ex.2.2), lf2, nI 0), rfl, ⟨by rw [hset]; rfl, (ex.1, na2, ex.2.2), lf2, nI 0, by rw [hset], by rw [hset]; exact sk_RM_turn hOK hK1 ho hR q1 q2 q3 (by rw [← sk_names_len, q5, sk_names_len]) hN2⟩, sk_endw ht hP hD⟩, hS.F ht⟩) hS.2.2 dM_turn_135
                      · skip
                        have n111 : ¬ 0 ≤ g2 := fun z9 => c111 ((nI_leI (a := 0) (b := g2) (by omega) (by omega)).mpr z9)
                        omega
                  · skip
                    have n68 : ¬ g ≤ pp := fun z9 => c68 ((nI_leI (a := g) (b := pp) (by omega) (by omega)).mpr z9)
                    refine lv_aload_n hx hb dM_turn_71 rfl (lv_at hl 2 rfl) ?_
                    refine va_get (D := (dC, dI)) (ci := 4) (v := .ref (a 16)) (C := RM) (T := TM) (N := 20) hx hb hts inM hown hK hP 0 rfl rfl 19 (by decide) (hts _ wfM_59) (fun _ h9 => h9) rfl dM_turn_72 ?_
                    refine lv_iload hx hb dM_turn_75 (lv_at hl 0 rfl) ?_
                    refine lv_aload_n hx hb dM_turn_77 rfl (lv_at hl 2 rfl) ?_
                    refine va_get (D := (dC, dI)) (ci := 4) (v := .ref (a 7)) (C := RM) (T := TM) (N := 20) hx hb hts inM hown hK hP 0 rfl rfl 9 (by decide) (hts _ wfM_32) (fun _ h9 => h9) rfl dM_turn_78 ?_
                    refine lv_bipush (v := nI 12) hx hb dM_turn_81 (by decide) ?_
                    refine lv_iload_n hx hb dM_turn_83 rfl (lv_at hl 1 rfl) ?_
                    refine lv_imul hx hb dM_turn_84 ?_
                    refine lv_topi (fun x84 e84 => ?_)
                    obtain rfl : x84 = nI (12 * (sk_sh b o)) := e84.trans (pk_mul _ _)
                    refine lv_iload hx hb dM_turn_85 (lv_at hl 0 rfl) ?_
                    refine lv_iadd hx hb dM_turn_87 ?_
                    refine lv_topi (fun x87 e87 => ?_)
                    obtain rfl : x87 = nI ((12 * (sk_sh b o)) + pp) := e87.trans (nI_add _ _)
                    refine va_iald hx hb hK hP 7 0 rfl rfl (vp_in_nI (show ((12 * (sk_sh b o)) + pp) < 2400 by omega) (by decide)) dM_turn_88 ?_
                    refine lv_topi (fun x88 e88 => ?_)
                    rw [nI_clamp (show ((12 * (sk_sh b o)) + pp) < 2 ^ 31 by omega)] at e88
                    obtain rfl : x88 = sk_nm t (sk_sh b o) pp := e88.trans (hN _ hs1 pp (by omega))
                    refine va_iast hx hb hK hP hD hS 16 0 rfl rfl (vp_in_nI (show pp < 12 by omega) (by decide)) dM_turn_89 (fun H locs hP hD hS => ?_)
                    rw [nI_clamp (show pp < 2 ^ 31 by omega)] at hP hD
                    have hP : va_P (dC, dI) vwCl (sk_wMR a k (nI 0) (nI b.1) b.2.2.1 b.2.2.2.1 ex.1 (nI t.1) t.2.1 t.2.2.1 t.2.2.2.2 ex.2.1 (nI f.1) f.2.1 f.2.2.1 ex.2.2.1 f.2.2.2.1 f.2.2.2.2.1 ex.2.2.2.1 ex.2.2.2.2.1 ex.2.2.2.2.2 (upd lf2 pp (sk_nm t (sk_sh b o) pp))) H := hP
                    have hD : va_D A (sk_wMR a k (nI 0) (nI b.1) b.2.2.1 b.2.2.2.1 ex.1 (nI t.1) t.2.1 t.2.2.1 t.2.2.2.2 ex.2.1 (nI f.1) f.2.1 f.2.2.1 ex.2.2.1 f.2.2.2.1 f.2.2.2.2.1 ex.2.2.2.1 ex.2.2.2.2.1 ex.2.2.2.2.2 (upd lf2 pp (sk_nm t (sk_sh b o) pp))) := hD
                    refine lv_iinc (v := nI (pp + 1)) (lv' := [(4, .int (nI (pp + 1))), (3, .int (nI (sk_sh b o))), (0, .ref (a 0)), (1, .int (nI o)), (2, .int y)]) hx hb dM_turn_90 hl (k := 0) rfl (sk_inc _) (by decide) rfl (fun ls hl => ?_)
                    refine lv_goto (tgt := 60) hx hb dM_turn_93 (by decide) ?_
                    exact ih2 (pp + 1) (upd lf2 pp (sk_nm t (sk_sh b o) pp)) (by omega) (fun j hj => (Nat.lt_or_eq_of_le (Nat.le_of_lt_succ hj)).elim (fun z9 => (pk_un (by omega)).trans (hw2 j z9)) (fun z9 => by subst z9; exact pk_us)) (by omega) _ _ hP hD hS ls (lv_sub hl [0, 1, 2, 3, 4] rfl)
              exact loop2 (g - 0 + 1) 0 lf (Nat.zero_le _) (fun j hj => absurd hj (Nat.not_lt_zero j)) (Nat.lt_succ_self _) _ _ hP hD hS ls (lv_sub hl [0, 1, 2, 3, 4] rfl)
            · skip
              have hs9 := sk_abv_s hA hq
              have hl9 : (sk_abv b.2.1 (nI q)).length = (sk_abv b.2.1 (b.2.1 q)).length + 1 := by rw [hs9]; rfl
              refine lv_iload_n hx hb dM_turn_30 rfl (lv_at hl 0 rfl) ?_
              refine lv_if_lt (tgt := 50) hx hb dM_turn_31 (by decide) (fun c31 => ?_) (fun c31 => ?_)
              · skip
                have n31 : q < 0 := (nI_ltI (a := q) (b := 0) (by omega) (by omega)).mp c31
                omega
              · skip
                have n31 : ¬ q < 0 := fun z9 => c31 ((nI_ltI (a := q) (b := 0) (by omega) (by omega)).mpr z9)
                refine lv_iload_n hx hb dM_turn_34 rfl (lv_at hl 0 rfl) ?_
                refine lv_iload_n hx hb dM_turn_35 rfl (lv_at hl 2 rfl) ?_
                refine lv_icmp_ne (tgt := 41) hx hb dM_turn_36 (by decide) (fun c36 => ?_) (fun c36 => ?_)
                · skip
                  have n36 : ¬ q = o := fun z9 => c36 ((nI_eq (a := q) (b := o) (by omega) (by omega)).mpr z9)
                  refine lv_aload_n hx hb dM_turn_41 rfl (lv_at hl 1 rfl) ?_
                  refine lv_iload_n hx hb dM_turn_42 rfl (lv_at hl 0 rfl) ?_
                  refine va_calli (va_runV (As := [.int (nI q)]) (rest := []) ⟨hx, hb, hml, hown, hts⟩ (kM_above l dC dI a k b t f ex lf (nI 0) q hT hO hq) (cwV 1 hts (sk_gV wmM_95 wiM_above wsM_above wnM wcM_above) rfl rfl rfl (by decide +kernel) ⟨Nat.le_of_ble_eq_true rfl, Nat.le_of_ble_eq_true rfl⟩) ⟨sk_blindM _, va_recv hK hP (ci := 4) (q0 := 0) rfl rfl, fun U hU hW => ⟨rfl, sk_atM (S := (b, t, f)) (ex := ex) (lf := lf) (th := nI 0) hP hK hU hW⟩⟩ rfl rfl hl.1 rfl (lv_room (Nat.le_of_ble_eq_true rfl)) dM_turn_43 ⟨Nat.le_of_ble_eq_true rfl, Nat.le_of_ble_eq_true rfl⟩) hS (fun _ _ h => h.elim) (fun _ h => h.elim) (fun r43 u43 U9 H locs ht hvm w43 hB hz hk hS => ?_)
                  have hP : va_P (dC, dI) vwCl (sk_wMR a k (nI 0) (nI b.1) b.2.2.1 b.2.2.2.1 ex.1 (nI t.1) t.2.1 t.2.2.1 t.2.2.2.2 ex.2.1 (nI f.1) f.2.1 f.2.2.1 ex.2.2.1 f.2.2.2.1 f.2.2.2.2.1 ex.2.2.2.1 ex.2.2.2.2.1 ex.2.2.2.2.2 lf) H := hP.kept (fun j q hq => hk q.1 ((hP j q hq).lt) (fun h => h))
                  clear hk hB ht
                  refine lv_istore_n (lv' := [(3, .int r43), (0, .ref (a 0)), (1, .int (nI o)), (2, .int y)]) hx hb dM_turn_46 rfl hl (by decide) rfl (fun ls hl => ?_)
                  refine lv_goto (tgt := 30) hx hb dM_turn_47 (by decide) ?_
                  have hmx : (sk_abv b.2.1 r43).length < nn := by rw [w43]; omega
                  exact ih1 r43 (by rw [w43]; exact hA.2.1 q hq) (by rw [w43, ← he, hs9]; simp [show ¬ o = q from fun z9 => n36 z9.symm]) (by omega) _ _ hP hD hS ls (lv_sub hl [0, 1, 2, 3] rfl)
                · skip
                  have n36 : q = o := (nI_eq (a := q) (b := o) (by omega) (by omega)).mp c36
                  refine lv_iconst (v := nI 0) hx hb dM_turn_39 (by decide) ?_
                  have hset : sk_turn (b, t, f) (nI o) y = _ := (sk_turn_y (S := (b, t, f)) h60 ho hcp).trans (sk_turn_1 (by rw [← he, hs9, n36, decide_eq_true List.mem_cons_self]))
                  exact W.zret (v := nI 0) hx hb hr (by decide) (fun U9 ht hW => ⟨⟨nI 0, ((b, t, f), ex, lf, nI 0), rfl, ⟨by rw [hset]; rfl, ex, lf, nI 0, by rw [hset], by rw [hset]; exact hR⟩, sk_endw ht hP hD⟩, hS.F ht⟩) hS.2.2 dM_turn_40
        exact loop1 ((sk_abv b.2.1 y).length + 1) y (hvy) (rfl) (Nat.lt_succ_self _) _ _ hP hD hS ls (lv_sub hl [0, 1, 2, 3] rfl)
      · skip
        obtain rfl : r20 = nI 0 := w20.trans hv
        refine lv_if_ne (tgt := 28) hx hb dM_turn_23 (by decide) (fun q => absurd q (by decide)) (fun _ => ?_)
        refine lv_iconst (v := nI 0) hx hb dM_turn_26 (by decide) ?_
        have hset := sk_turn_n (S := (b, t, f)) (x := nI o) (y := y) (by show (sk_hasB b.1 _ && sk_canP b.1 y) = false; rw [sk_cPf c15 h20, Bool.and_false])
        exact W.zret (v := nI 0) hx hb hr (by decide) (fun U9 ht hW => ⟨⟨nI 0, ((b, t, f), ex, lf, nI 0), rfl, ⟨by rw [hset]; rfl, ex, lf, nI 0, by rw [hset], by rw [hset]; exact hR⟩, sk_endw ht hP hD⟩, hS.F ht⟩) hS.2.2 dM_turn_27
  · skip
    obtain rfl : r7 = nI 0 := w7.trans hv
    refine lv_if_eq (tgt := 26) hx hb dM_turn_10 (by decide) (fun _ => ?_) (fun q => absurd (by decide) q)
    refine lv_iconst (v := nI 0) hx hb dM_turn_26 (by decide) ?_
    have hset := sk_turn_n (S := (b, t, f)) (x := x) (y := y) (by show (sk_hasB b.1 _ && sk_canP b.1 y) = false; rw [h7, Bool.false_and])
    exact W.zret (v := nI 0) hx hb hr (by decide) (fun U9 ht hW => ⟨⟨nI 0, ((b, t, f), ex, lf, nI 0), rfl, ⟨by rw [hset]; rfl, ex, lf, nI 0, by rw [hset], by rw [hset]; exact hR⟩, sk_endw ht hP hD⟩, hS.F ht⟩) hS.2.2 dM_turn_27
abbrev wzM_finding : List Cond := .code yM_finding cM_finding 3 (some .int) :: sk_W
abbrev rzM_finding : Room := { frames := 1, cells := 0, slots := 0, locals := 23 }
set_option maxHeartbeats 4000000 in
set_option maxRecDepth 100000 in
theorem kM_finding (l : Launch) (dC : Nat → ClassId) (dI : Nat → Nat → Nat) (a : Nat → Nat) (k : Nat → ClassId) (b : sk_Ob) (t : sk_Tr) (f : sk_Fi) (ex : sk_Ex) (lf : sk_F) (th : Int32) (A : Nat → Prop) (x y : Int32) (K : Nat) (hOK : sk_OK K (b, t, f)) (hR : sk_RM (b, t, f) ex) : Met l yM_finding wzM_finding rzM_finding (va_Pc [.ref (a 0), .int x, .int y] (fun U => sk_PM dC dI a k (b, t, f) ex lf th U ∧ va_D A (sk_wM a k (b, t, f) ex lf th))) (va_Qi (fun r (u : sk_S × sk_Ex × sk_F × Int32) => r = sk_finding (b, t, f) x y ∧ ∃ th2, u = ((b, t, f), ex, lf, th2)) (fun u U => va_P (dC, dI) vwCl (sk_wM a k u.1 u.2.1 u.2.2.1 u.2.2.2) U.heap ∧ va_D A (sk_wM a k u.1 u.2.1 u.2.2.1 u.2.2.2)) A) 0 0 A := by
  refine Met.ofW (cc := cM_finding) (maxL := 3) (ret := (some .int)) (by decide) rfl ?_
  intro p e s m args below meth c s₁ B hml hv
  obtain ⟨rfl, ⟨hP, hK⟩, hD⟩ := hv
  have hx := B.exec
  have hb := B.bytes
  have hr := B.returns
  have hts : ∀ w ∈ sk_W, w.before ([.ref (a 0), .int x, .int y] : List Value).toArray s = true := fun w h => atoms_spec (ws := wzM_finding) B.pre w (List.mem_cons_of_mem _ h)
  have hown : s.vm.findClass RM = some m.cls := findClass_of_methodNamed B.named
  have hlocks := B.notSynchronized
  have hS : va_S A s.heap s.heap [] := va_S.rf
  have hP : va_P (dC, dI) vwCl (sk_wMR a k th (nI b.1) b.2.2.1 b.2.2.2.1 ex.1 (nI t.1) t.2.1 t.2.2.1 t.2.2.2.2 ex.2.1 (nI f.1) f.2.1 f.2.2.1 ex.2.2.1 f.2.2.2.1 f.2.2.2.2.1 ex.2.2.2.1 ex.2.2.2.2.1 ex.2.2.2.2.2 lf) s.heap := hP
  have hD : va_D A (sk_wMR a k th (nI b.1) b.2.2.1 b.2.2.2.1 ex.1 (nI t.1) t.2.1 t.2.2.1 t.2.2.2.2 ex.2.1 (nI f.1) f.2.1 f.2.2.1 ex.2.2.1 f.2.2.2.1 f.2.2.2.2.1 ex.2.2.2.1 ex.2.2.2.2.1 ex.2.2.2.2.2 lf) := hD
  have hl := lv_entry ([.ref (a 0), .int x, .int y]) (n := 3) (Nat.le_of_ble_eq_true rfl)
  rw [lg_entry_eq]
  generalize (lg_sl ([.ref (a 0), .int x, .int y]) ++ List.replicate (3 - (lg_sl ([.ref (a 0), .int x, .int y])).length) Slot.unset).toArray = ls at hl ⊢
  have hl : lv_has ls 3 [(0, .ref (a 0)), (1, .int x), (2, .int y)] := hl
  have hT : sk_TO b.1 t := hOK.1
  have hA : sk_AC b.1 b.2.1 := hOK.2.1
  have hO : sk_OO b t := hOK.2.2.1
  have hch0 : ∀ o, b.1 ≤ o → b.2.2.2.1 o = 0 := hOK.2.2.2.2.1
  have hmk : f.1 ≤ K := hOK.2.2.2.2.2.2.1
  have hK5 : K ≤ 512 := hOK.2.2.2.2.2.1
  have h200 : t.1 ≤ 200 := hT.2.1
  have h60 : b.1 ≤ 60 := hT.2.2.1
  have h100 : sk_there f ≤ 100 := Nat.min_le_right _ _
  have hN : sk_RN t ex.2.1 := hR.1
  have hV : sk_RV b t ex.1 := hR.2.1
  have hF : ∀ i, i < sk_there f → sk_RF b f ex i := hR.2.2
  have hFO : ∀ i, i < sk_there f → sk_FO b t f i := hOK.2.2.2.2.2.2.2
  refine lv_aload_n hx hb dM_finding_0 rfl (lv_at hl 0 rfl) ?_
  refine lv_iconst (v := nI 0) hx hb dM_finding_1 (by decide) ?_
  refine va_put (D := (dC, dI)) (ci := 4) (v := .int (nI 0)) (ty := .int) (C := RM) (T := TM) (N := 20) hx hb hts inM tyM tyM_ok nmM hown hK hP hD hS 0 rfl rfl 0 (by decide) (hts _ wfM_62) (fun _ h9 => h9) rfl (by decide +kernel) rfl rfl (Nat.le_of_ble_eq_true rfl) dM_finding_2 (fun H locs hP hD hS => ?_)
  have hP : va_P (dC, dI) vwCl (sk_wMR a k (nI 0) (nI b.1) b.2.2.1 b.2.2.2.1 ex.1 (nI t.1) t.2.1 t.2.2.1 t.2.2.2.2 ex.2.1 (nI f.1) f.2.1 f.2.2.1 ex.2.2.1 f.2.2.2.1 f.2.2.2.2.1 ex.2.2.2.1 ex.2.2.2.2.1 ex.2.2.2.2.2 lf) H := hP
  have hD : va_D A (sk_wMR a k (nI 0) (nI b.1) b.2.2.1 b.2.2.2.1 ex.1 (nI t.1) t.2.1 t.2.2.1 t.2.2.2.2 ex.2.1 (nI f.1) f.2.1 f.2.2.1 ex.2.2.1 f.2.2.2.1 f.2.2.2.2.1 ex.2.2.2.1 ex.2.2.2.2.1 ex.2.2.2.2.2 lf) := hD
  refine lv_aload_n hx hb dM_finding_5 rfl (lv_at hl 0 rfl) ?_
  refine lv_iload_n hx hb dM_finding_6 rfl (lv_at hl 1 rfl) ?_
  refine va_calli (va_runV (As := [.int x]) (rest := []) ⟨hx, hb, hml, hown, hts⟩ (kM_isFinding l dC dI a k b t f ex lf (nI 0) x (by omega)) (cwV 1 hts (sk_gV wmM_101 wiM_isFinding wsM_isFinding wnM wcM_isFinding) rfl rfl rfl (by decide +kernel) ⟨Nat.le_of_ble_eq_true rfl, Nat.le_of_ble_eq_true rfl⟩) ⟨sk_blindM _, va_recv hK hP (ci := 4) (q0 := 0) rfl rfl, fun U hU hW => ⟨rfl, sk_atM (S := (b, t, f)) (ex := ex) (lf := lf) (th := nI 0) hP hK hU hW⟩⟩ rfl rfl hl.1 rfl (lv_room (Nat.le_of_ble_eq_true rfl)) dM_finding_7 ⟨Nat.le_of_ble_eq_true rfl, Nat.le_of_ble_eq_true rfl⟩) hS (fun _ _ h => h.elim) (fun _ h => h.elim) (fun r7 u7 U9 H locs ht hvm w7 hB hz hk hS => ?_)
  have hP : va_P (dC, dI) vwCl (sk_wMR a k (nI 0) (nI b.1) b.2.2.1 b.2.2.2.1 ex.1 (nI t.1) t.2.1 t.2.2.1 t.2.2.2.2 ex.2.1 (nI f.1) f.2.1 f.2.2.1 ex.2.2.1 f.2.2.2.1 f.2.2.2.2.1 ex.2.2.2.1 ex.2.2.2.2.1 ex.2.2.2.2.2 lf) H := hP.kept (fun j q hq => hk q.1 ((hP j q hq).lt) (fun h => h))
  clear hk hB ht
  rcases sk_bI_or (sk_hasB (sk_there f) x) with ⟨h7, hv⟩ | ⟨h7, hv⟩
  · skip
    obtain rfl : r7 = nI 1 := w7.trans hv
    obtain ⟨fi, hfi, efi9⟩ := (sk_hasB_iff (by omega)).mp h7
    subst efi9
    refine lv_if_ne (tgt := 15) hx hb dM_finding_10 (by decide) (fun _ => ?_) (fun q => absurd q (by decide))
    refine lv_iload_n hx hb dM_finding_15 rfl (lv_at hl 2 rfl) ?_
    refine lv_if_ne (tgt := 28) hx hb dM_finding_16 (by decide) (fun c16 => ?_) (fun c16 => ?_)
    · skip
      refine lv_iload_n hx hb dM_finding_28 rfl (lv_at hl 2 rfl) ?_
      refine lv_iconst (v := nI 1) hx hb dM_finding_29 (by decide) ?_
      refine lv_icmp_ne (tgt := 42) hx hb dM_finding_30 (by decide) (fun c30 => ?_) (fun c30 => ?_)
      · skip
        refine lv_iload_n hx hb dM_finding_42 rfl (lv_at hl 2 rfl) ?_
        refine lv_iconst (v := nI 2) hx hb dM_finding_43 (by decide) ?_
        refine lv_icmp_ne (tgt := 56) hx hb dM_finding_44 (by decide) (fun c44 => ?_) (fun c44 => ?_)
        · skip
          refine lv_iload_n hx hb dM_finding_56 rfl (lv_at hl 2 rfl) ?_
          refine lv_iconst (v := nI 3) hx hb dM_finding_57 (by decide) ?_
          refine lv_icmp_ne (tgt := 70) hx hb dM_finding_58 (by decide) (fun c58 => ?_) (fun c58 => ?_)
          · skip
            refine lv_iload_n hx hb dM_finding_70 rfl (lv_at hl 2 rfl) ?_
            refine lv_iconst (v := nI 4) hx hb dM_finding_71 (by decide) ?_
            refine lv_icmp_ne (tgt := 84) hx hb dM_finding_72 (by decide) (fun c72 => ?_) (fun c72 => ?_)
            · skip
              refine lv_iload_n hx hb dM_finding_84 rfl (lv_at hl 2 rfl) ?_
              refine lv_iconst (v := nI 5) hx hb dM_finding_85 (by decide) ?_
              refine lv_icmp_ne (tgt := 105) hx hb dM_finding_86 (by decide) (fun c86 => ?_) (fun c86 => ?_)
              · skip
                refine lv_iconst (v := (-1)) hx hb dM_finding_105 (by decide) ?_
                exact W.iret (v := (-1)) hx hb hr (fun U9 ht hW => ⟨⟨(-1), ((b, t, f), ex, lf, nI 0), rfl, ⟨by unfold sk_finding; rw [if_pos h7, if_neg (show ¬ y = 0 from c16), if_neg (show ¬ y = 1 from c30), if_neg (show ¬ y = 2 from c44), if_neg (show ¬ y = 3 from c58), if_neg (show ¬ y = 4 from c72), if_neg (show ¬ y = 5 from c86)], _, rfl⟩, sk_endw ht hP hD⟩, hS.F ht⟩) hS.2.2 dM_finding_106
              · skip
                refine lv_aload_n hx hb dM_finding_89 rfl (lv_at hl 0 rfl) ?_
                refine lv_iload_n hx hb dM_finding_90 rfl (lv_at hl 1 rfl) ?_
                refine va_calli (va_runV (As := [.int (nI fi)]) (rest := []) ⟨hx, hb, hml, hown, hts⟩ (kM_holdsStill l dC dI a k b t f ex lf (nI 0) fi (by omega) h60 (hF fi hfi) (hFO fi hfi).2.2.2) (cwV 1 hts (sk_gV wmM_104 wiM_holdsStill wsM_holdsStill wnM wcM_holdsStill) rfl rfl rfl (by decide +kernel) ⟨Nat.le_of_ble_eq_true rfl, Nat.le_of_ble_eq_true rfl⟩) ⟨sk_blindM _, va_recv hK hP (ci := 4) (q0 := 0) rfl rfl, fun U hU hW => ⟨rfl, sk_atM (S := (b, t, f)) (ex := ex) (lf := lf) (th := nI 0) hP hK hU hW⟩⟩ rfl rfl hl.1 rfl (lv_room (Nat.le_of_ble_eq_true rfl)) dM_finding_91 ⟨Nat.le_of_ble_eq_true rfl, Nat.le_of_ble_eq_true rfl⟩) hS (fun _ _ h => h.elim) (fun _ h => h.elim) (fun r91 u91 U9 H locs ht hvm w91 hB hz hk hS => ?_)
                have hP : va_P (dC, dI) vwCl (sk_wMR a k (nI 0) (nI b.1) b.2.2.1 b.2.2.2.1 ex.1 (nI t.1) t.2.1 t.2.2.1 t.2.2.2.2 ex.2.1 (nI f.1) f.2.1 f.2.2.1 ex.2.2.1 f.2.2.2.1 f.2.2.2.2.1 ex.2.2.2.1 ex.2.2.2.2.1 ex.2.2.2.2.2 lf) H := hP.kept (fun j q hq => hk q.1 ((hP j q hq).lt) (fun h => h))
                clear hk hB ht
                rcases sk_bI_or (f.2.2.2.2.2.2 fi) with ⟨h91, hv⟩ | ⟨h91, hv⟩
                · skip
                  obtain rfl : r91 = nI 1 := w91.trans hv
                  refine lv_if_eq (tgt := 101) hx hb dM_finding_94 (by decide) (fun q => absurd q (by decide)) (fun _ => ?_)
                  refine lv_iconst (v := nI 1) hx hb dM_finding_97 (by decide) ?_
                  refine lv_goto (tgt := 106) hx hb dM_finding_98 (by decide) ?_
                  exact W.iret (v := nI 1) hx hb hr (fun U9 ht hW => ⟨⟨nI 1, ((b, t, f), ex, lf, nI 0), rfl, ⟨by unfold sk_finding; rw [if_pos h7, nI_clamp (by omega), if_neg (show ¬ y = 0 from c16), if_neg (show ¬ y = 1 from c30), if_neg (show ¬ y = 2 from c44), if_neg (show ¬ y = 3 from c58), if_neg (show ¬ y = 4 from c72), if_pos (show y = 5 from c86)]; exact (show _ = sk_bI (f.2.2.2.2.2.2 fi) by rw [h91]; rfl), _, rfl⟩, sk_endw ht hP hD⟩, hS.F ht⟩) hS.2.2 dM_finding_106
                · skip
                  obtain rfl : r91 = nI 0 := w91.trans hv
                  refine lv_if_eq (tgt := 101) hx hb dM_finding_94 (by decide) (fun _ => ?_) (fun q => absurd (by decide) q)
                  refine lv_iconst (v := nI 0) hx hb dM_finding_101 (by decide) ?_
                  refine lv_goto (tgt := 106) hx hb dM_finding_102 (by decide) ?_
                  exact W.iret (v := nI 0) hx hb hr (fun U9 ht hW => ⟨⟨nI 0, ((b, t, f), ex, lf, nI 0), rfl, ⟨by unfold sk_finding; rw [if_pos h7, nI_clamp (by omega), if_neg (show ¬ y = 0 from c16), if_neg (show ¬ y = 1 from c30), if_neg (show ¬ y = 2 from c44), if_neg (show ¬ y = 3 from c58), if_neg (show ¬ y = 4 from c72), if_pos (show y = 5 from c86)]; exact (show _ = sk_bI (f.2.2.2.2.2.2 fi) by rw [h91]; rfl), _, rfl⟩, sk_endw ht hP hD⟩, hS.F ht⟩) hS.2.2 dM_finding_106
            · skip
              refine lv_aload_n hx hb dM_finding_75 rfl (lv_at hl 0 rfl) ?_
              refine va_get (D := (dC, dI)) (ci := 4) (v := .ref (a 12)) (C := RM) (T := TM) (N := 20) hx hb hts inM hown hK hP 0 rfl rfl 15 (by decide) (hts _ wfM_47) (fun _ h9 => h9) rfl dM_finding_76 ?_
              refine lv_iload_n hx hb dM_finding_79 rfl (lv_at hl 1 rfl) ?_
              refine va_iald hx hb hK hP 12 0 rfl rfl (vp_in_nI (show fi < 100 by omega) (by decide)) dM_finding_80 ?_
              refine lv_topi (fun x80 e80 => ?_)
              rw [nI_clamp (show fi < 2 ^ 31 by omega)] at e80
              refine lv_goto (tgt := 106) hx hb dM_finding_81 (by decide) ?_
              exact W.iret (v := x80) hx hb hr (fun U9 ht hW => ⟨⟨x80, ((b, t, f), ex, lf, nI 0), rfl, ⟨by unfold sk_finding; rw [if_pos h7, nI_clamp (by omega), if_neg (show ¬ y = 0 from c16), if_neg (show ¬ y = 1 from c30), if_neg (show ¬ y = 2 from c44), if_neg (show ¬ y = 3 from c58), if_pos (show y = 4 from c72)]; exact e80, _, rfl⟩, sk_endw ht hP hD⟩, hS.F ht⟩) hS.2.2 dM_finding_106
          · skip
            refine lv_aload_n hx hb dM_finding_61 rfl (lv_at hl 0 rfl) ?_
            refine va_get (D := (dC, dI)) (ci := 4) (v := .ref (a 11)) (C := RM) (T := TM) (N := 20) hx hb hts inM hown hK hP 0 rfl rfl 14 (by decide) (hts _ wfM_44) (fun _ h9 => h9) rfl dM_finding_62 ?_
            refine lv_iload_n hx hb dM_finding_65 rfl (lv_at hl 1 rfl) ?_
            refine va_iald hx hb hK hP 11 0 rfl rfl (vp_in_nI (show fi < 100 by omega) (by decide)) dM_finding_66 ?_
            refine lv_topi (fun x66 e66 => ?_)
            rw [nI_clamp (show fi < 2 ^ 31 by omega)] at e66
            refine lv_goto (tgt := 106) hx hb dM_finding_67 (by decide) ?_
            exact W.iret (v := x66) hx hb hr (fun U9 ht hW => ⟨⟨x66, ((b, t, f), ex, lf, nI 0), rfl, ⟨by unfold sk_finding; rw [if_pos h7, nI_clamp (by omega), if_neg (show ¬ y = 0 from c16), if_neg (show ¬ y = 1 from c30), if_neg (show ¬ y = 2 from c44), if_pos (show y = 3 from c58)]; exact e66, _, rfl⟩, sk_endw ht hP hD⟩, hS.F ht⟩) hS.2.2 dM_finding_106
        · skip
          refine lv_aload_n hx hb dM_finding_47 rfl (lv_at hl 0 rfl) ?_
          refine va_get (D := (dC, dI)) (ci := 4) (v := .ref (a 10)) (C := RM) (T := TM) (N := 20) hx hb hts inM hown hK hP 0 rfl rfl 13 (by decide) (hts _ wfM_41) (fun _ h9 => h9) rfl dM_finding_48 ?_
          refine lv_iload_n hx hb dM_finding_51 rfl (lv_at hl 1 rfl) ?_
          refine va_iald hx hb hK hP 10 0 rfl rfl (vp_in_nI (show fi < 100 by omega) (by decide)) dM_finding_52 ?_
          refine lv_topi (fun x52 e52 => ?_)
          rw [nI_clamp (show fi < 2 ^ 31 by omega)] at e52
          refine lv_goto (tgt := 106) hx hb dM_finding_53 (by decide) ?_
          exact W.iret (v := x52) hx hb hr (fun U9 ht hW => ⟨⟨x52, ((b, t, f), ex, lf, nI 0), rfl, ⟨by unfold sk_finding; rw [if_pos h7, nI_clamp (by omega), if_neg (show ¬ y = 0 from c16), if_neg (show ¬ y = 1 from c30), if_pos (show y = 2 from c44)]; exact e52.trans (hF fi hfi).1, _, rfl⟩, sk_endw ht hP hD⟩, hS.F ht⟩) hS.2.2 dM_finding_106
      · skip
        refine lv_aload_n hx hb dM_finding_33 rfl (lv_at hl 0 rfl) ?_
        refine va_get (D := (dC, dI)) (ci := 4) (v := .ref (a 9)) (C := RM) (T := TM) (N := 20) hx hb hts inM hown hK hP 0 rfl rfl 12 (by decide) (hts _ wfM_38) (fun _ h9 => h9) rfl dM_finding_34 ?_
        refine lv_iload_n hx hb dM_finding_37 rfl (lv_at hl 1 rfl) ?_
        refine va_iald hx hb hK hP 9 0 rfl rfl (vp_in_nI (show fi < 100 by omega) (by decide)) dM_finding_38 ?_
        refine lv_topi (fun x38 e38 => ?_)
        rw [nI_clamp (show fi < 2 ^ 31 by omega)] at e38
        refine lv_goto (tgt := 106) hx hb dM_finding_39 (by decide) ?_
        exact W.iret (v := x38) hx hb hr (fun U9 ht hW => ⟨⟨x38, ((b, t, f), ex, lf, nI 0), rfl, ⟨by unfold sk_finding; rw [if_pos h7, nI_clamp (by omega), if_neg (show ¬ y = 0 from c16), if_pos (show y = 1 from c30)]; exact e38, _, rfl⟩, sk_endw ht hP hD⟩, hS.F ht⟩) hS.2.2 dM_finding_106
    · skip
      refine lv_aload_n hx hb dM_finding_19 rfl (lv_at hl 0 rfl) ?_
      refine va_get (D := (dC, dI)) (ci := 4) (v := .ref (a 8)) (C := RM) (T := TM) (N := 20) hx hb hts inM hown hK hP 0 rfl rfl 11 (by decide) (hts _ wfM_35) (fun _ h9 => h9) rfl dM_finding_20 ?_
      refine lv_iload_n hx hb dM_finding_23 rfl (lv_at hl 1 rfl) ?_
      refine va_iald hx hb hK hP 8 0 rfl rfl (vp_in_nI (show fi < 100 by omega) (by decide)) dM_finding_24 ?_
      refine lv_topi (fun x24 e24 => ?_)
      rw [nI_clamp (show fi < 2 ^ 31 by omega)] at e24
      refine lv_goto (tgt := 106) hx hb dM_finding_25 (by decide) ?_
      exact W.iret (v := x24) hx hb hr (fun U9 ht hW => ⟨⟨x24, ((b, t, f), ex, lf, nI 0), rfl, ⟨by unfold sk_finding; rw [if_pos h7, nI_clamp (by omega), if_pos (show y = 0 from c16)]; exact e24, _, rfl⟩, sk_endw ht hP hD⟩, hS.F ht⟩) hS.2.2 dM_finding_106
  · skip
    obtain rfl : r7 = nI 0 := w7.trans hv
    refine lv_if_ne (tgt := 15) hx hb dM_finding_10 (by decide) (fun q => absurd q (by decide)) (fun _ => ?_)
    refine lv_iconst (v := (-1)) hx hb dM_finding_13 (by decide) ?_
    have hset := sk_finding_n (S := (b, t, f)) (w := y) h7
    exact W.iret (v := (-1)) hx hb hr (fun U9 ht hW => ⟨⟨(-1), ((b, t, f), ex, lf, nI 0), rfl, ⟨hset.symm, _, rfl⟩, sk_endw ht hP hD⟩, hS.F ht⟩) hS.2.2 dM_finding_14
abbrev wzM_count : List Cond := .code yM_count cM_count 4 (some .int) :: sk_W
abbrev rzM_count : Room := { frames := 1, cells := 0, slots := 0, locals := 23 }
set_option maxHeartbeats 4000000 in
set_option maxRecDepth 100000 in
theorem kM_count (l : Launch) (dC : Nat → ClassId) (dI : Nat → Nat → Nat) (a : Nat → Nat) (k : Nat → ClassId) (b : sk_Ob) (t : sk_Tr) (f : sk_Fi) (ex : sk_Ex) (lf : sk_F) (th : Int32) (A : Nat → Prop) (y : Int32) (K : Nat) (hOK : sk_OK K (b, t, f)) (hR : sk_RM (b, t, f) ex) : Met l yM_count wzM_count rzM_count (va_Pc [.ref (a 0), .int y] (fun U => sk_PM dC dI a k (b, t, f) ex lf th U ∧ va_D A (sk_wM a k (b, t, f) ex lf th))) (va_Qi (fun r (u : sk_S × sk_Ex × sk_F × Int32) => r = sk_count (b, t, f) y ∧ ∃ th2, u = ((b, t, f), ex, lf, th2)) (fun u U => va_P (dC, dI) vwCl (sk_wM a k u.1 u.2.1 u.2.2.1 u.2.2.2) U.heap ∧ va_D A (sk_wM a k u.1 u.2.1 u.2.2.1 u.2.2.2)) A) 0 0 A := by
  refine Met.ofW (cc := cM_count) (maxL := 4) (ret := (some .int)) (by decide) rfl ?_
  intro p e s m args below meth c s₁ B hml hv
  obtain ⟨rfl, ⟨hP, hK⟩, hD⟩ := hv
  have hx := B.exec
  have hb := B.bytes
  have hr := B.returns
  have hts : ∀ w ∈ sk_W, w.before ([.ref (a 0), .int y] : List Value).toArray s = true := fun w h => atoms_spec (ws := wzM_count) B.pre w (List.mem_cons_of_mem _ h)
  have hown : s.vm.findClass RM = some m.cls := findClass_of_methodNamed B.named
  have hlocks := B.notSynchronized
  have hS : va_S A s.heap s.heap [] := va_S.rf
  have hP : va_P (dC, dI) vwCl (sk_wMR a k th (nI b.1) b.2.2.1 b.2.2.2.1 ex.1 (nI t.1) t.2.1 t.2.2.1 t.2.2.2.2 ex.2.1 (nI f.1) f.2.1 f.2.2.1 ex.2.2.1 f.2.2.2.1 f.2.2.2.2.1 ex.2.2.2.1 ex.2.2.2.2.1 ex.2.2.2.2.2 lf) s.heap := hP
  have hD : va_D A (sk_wMR a k th (nI b.1) b.2.2.1 b.2.2.2.1 ex.1 (nI t.1) t.2.1 t.2.2.1 t.2.2.2.2 ex.2.1 (nI f.1) f.2.1 f.2.2.1 ex.2.2.1 f.2.2.2.1 f.2.2.2.2.1 ex.2.2.2.1 ex.2.2.2.2.1 ex.2.2.2.2.2 lf) := hD
  have hl := lv_entry ([.ref (a 0), .int y]) (n := 4) (Nat.le_of_ble_eq_true rfl)
  rw [lg_entry_eq]
  generalize (lg_sl ([.ref (a 0), .int y]) ++ List.replicate (4 - (lg_sl ([.ref (a 0), .int y])).length) Slot.unset).toArray = ls at hl ⊢
  have hl : lv_has ls 4 [(0, .ref (a 0)), (1, .int y)] := hl
  have hT : sk_TO b.1 t := hOK.1
  have hA : sk_AC b.1 b.2.1 := hOK.2.1
  have hO : sk_OO b t := hOK.2.2.1
  have hch0 : ∀ o, b.1 ≤ o → b.2.2.2.1 o = 0 := hOK.2.2.2.2.1
  have hmk : f.1 ≤ K := hOK.2.2.2.2.2.2.1
  have hK5 : K ≤ 512 := hOK.2.2.2.2.2.1
  have h200 : t.1 ≤ 200 := hT.2.1
  have h60 : b.1 ≤ 60 := hT.2.2.1
  have h100 : sk_there f ≤ 100 := Nat.min_le_right _ _
  have hN : sk_RN t ex.2.1 := hR.1
  have hV : sk_RV b t ex.1 := hR.2.1
  have hF : ∀ i, i < sk_there f → sk_RF b f ex i := hR.2.2
  have hFO : ∀ i, i < sk_there f → sk_FO b t f i := hOK.2.2.2.2.2.2.2
  have hth : sk_there f = min f.1 100 := rfl
  refine lv_aload_n hx hb dM_count_0 rfl (lv_at hl 0 rfl) ?_
  refine lv_iconst (v := nI 0) hx hb dM_count_1 (by decide) ?_
  refine va_put (D := (dC, dI)) (ci := 4) (v := .int (nI 0)) (ty := .int) (C := RM) (T := TM) (N := 20) hx hb hts inM tyM tyM_ok nmM hown hK hP hD hS 0 rfl rfl 0 (by decide) (hts _ wfM_62) (fun _ h9 => h9) rfl (by decide +kernel) rfl rfl (Nat.le_of_ble_eq_true rfl) dM_count_2 (fun H locs hP hD hS => ?_)
  have hP : va_P (dC, dI) vwCl (sk_wMR a k (nI 0) (nI b.1) b.2.2.1 b.2.2.2.1 ex.1 (nI t.1) t.2.1 t.2.2.1 t.2.2.2.2 ex.2.1 (nI f.1) f.2.1 f.2.2.1 ex.2.2.1 f.2.2.2.1 f.2.2.2.2.1 ex.2.2.2.1 ex.2.2.2.2.1 ex.2.2.2.2.2 lf) H := hP
  have hD : va_D A (sk_wMR a k (nI 0) (nI b.1) b.2.2.1 b.2.2.2.1 ex.1 (nI t.1) t.2.1 t.2.2.1 t.2.2.2.2 ex.2.1 (nI f.1) f.2.1 f.2.2.1 ex.2.2.1 f.2.2.2.1 f.2.2.2.2.1 ex.2.2.2.1 ex.2.2.2.2.1 ex.2.2.2.2.2 lf) := hD
  refine lv_iconst (v := nI 0) hx hb dM_count_5 (by decide) ?_
  refine lv_istore_n (lv' := [(2, .int (nI 0)), (0, .ref (a 0)), (1, .int y)]) hx hb dM_count_6 rfl hl (by decide) rfl (fun ls hl => ?_)
  refine lv_iconst (v := nI 0) hx hb dM_count_7 (by decide) ?_
  refine lv_istore_n (lv' := [(3, .int (nI 0)), (2, .int (nI 0)), (0, .ref (a 0)), (1, .int y)]) hx hb dM_count_8 rfl hl (by decide) rfl (fun ls hl => ?_)
  have loop1 : ∀ (nn : Nat) (cn i : Nat), i ≤ sk_there f → cn = sk_cnt f.2.2.2.2.2.2 i → sk_there f - i < nn → ∀ (H : Heap) (locs : List Loc), va_P (dC, dI) vwCl (sk_wMR a k (nI 0) (nI b.1) b.2.2.1 b.2.2.2.1 ex.1 (nI t.1) t.2.1 t.2.2.1 t.2.2.2.2 ex.2.1 (nI f.1) f.2.1 f.2.2.1 ex.2.2.1 f.2.2.2.1 f.2.2.2.2.1 ex.2.2.2.1 ex.2.2.2.2.1 ex.2.2.2.2.2 lf) H → va_D A (sk_wMR a k (nI 0) (nI b.1) b.2.2.1 b.2.2.2.1 ex.1 (nI t.1) t.2.1 t.2.2.1 t.2.2.2.2 ex.2.1 (nI f.1) f.2.1 f.2.2.1 ex.2.2.1 f.2.2.2.1 f.2.2.2.2.1 ex.2.2.2.1 ex.2.2.2.2.1 ex.2.2.2.2.2 lf) → va_S A s.heap H locs → ∀ ls : Array Slot, lv_has ls 4 [(3, .int (nI i)), (2, .int (nI cn)), (0, .ref (a 0)), (1, .int y)] → W p l e (headSpec wzM_count rzM_count).room s m ([.ref (a 0), .int y] : List Value).toArray below meth c H locs 0 0 (MQ below (va_Qi (fun r (u : sk_S × sk_Ex × sk_F × Int32) => r = sk_count (b, t, f) y ∧ ∃ th2, u = ((b, t, f), ex, lf, th2)) (fun u U => va_P (dC, dI) vwCl (sk_wM a k u.1 u.2.1 u.2.2.1 u.2.2.2) U.heap ∧ va_D A (sk_wM a k u.1 u.2.1 u.2.2.1 u.2.2.2)) A) ([.ref (a 0), .int y] : List Value).toArray s 0 0 A) (F0 m 9 ls []) := by
    intro nn
    induction nn with
    | zero => intro cn i hi hc hmu; exact absurd hmu (Nat.not_lt_zero _)
    | succ nn ih1 =>
      intro cn i hi hc hmu H locs hP hD hS ls hl
      refine lv_iload_n hx hb dM_count_9 rfl (lv_at hl 0 rfl) ?_
      refine lv_bipush (v := nI 100) hx hb dM_count_10 (by decide) ?_
      refine lv_icmp_ge (tgt := 45) hx hb dM_count_12 (by decide) (fun c12 => ?_) (fun c12 => ?_)
      · skip
        have n12 : 100 ≤ i := (nI_leI (a := 100) (b := i) (by omega) (by omega)).mp c12
        refine lv_iload_n hx hb dM_count_45 rfl (lv_at hl 3 rfl) ?_
        refine lv_if_ne (tgt := 56) hx hb dM_count_46 (by decide) (fun c46 => ?_) (fun c46 => ?_)
        · skip
          refine lv_iload_n hx hb dM_count_56 rfl (lv_at hl 3 rfl) ?_
          refine lv_iconst (v := nI 1) hx hb dM_count_57 (by decide) ?_
          refine lv_icmp_ne (tgt := 68) hx hb dM_count_58 (by decide) (fun c58 => ?_) (fun c58 => ?_)
          · skip
            refine lv_iload_n hx hb dM_count_68 rfl (lv_at hl 3 rfl) ?_
            refine lv_iconst (v := nI 2) hx hb dM_count_69 (by decide) ?_
            refine lv_icmp_ne (tgt := 80) hx hb dM_count_70 (by decide) (fun c70 => ?_) (fun c70 => ?_)
            · skip
              refine lv_iload_n hx hb dM_count_80 rfl (lv_at hl 3 rfl) ?_
              refine lv_iconst (v := nI 3) hx hb dM_count_81 (by decide) ?_
              refine lv_icmp_ne (tgt := 89) hx hb dM_count_82 (by decide) (fun c82 => ?_) (fun c82 => ?_)
              · skip
                refine lv_iconst (v := (-1)) hx hb dM_count_89 (by decide) ?_
                exact W.iret (v := (-1)) hx hb hr (fun U9 ht hW => ⟨⟨(-1), ((b, t, f), ex, lf, nI 0), rfl, ⟨by unfold sk_count; rw [if_neg (show ¬ y = 0 from c46), if_neg (show ¬ y = 1 from c58), if_neg (show ¬ y = 2 from c70), if_neg (show ¬ y = 3 from c82)], _, rfl⟩, sk_endw ht hP hD⟩, hS.F ht⟩) hS.2.2 dM_count_90
              · skip
                refine lv_iload_n hx hb dM_count_85 rfl (lv_at hl 1 rfl) ?_
                refine lv_goto (tgt := 90) hx hb dM_count_86 (by decide) ?_
                exact W.iret (v := nI cn) hx hb hr (fun U9 ht hW => ⟨⟨nI cn, ((b, t, f), ex, lf, nI 0), rfl, ⟨by unfold sk_count; rw [if_neg (show ¬ y = 0 from c46), if_neg (show ¬ y = 1 from c58), if_neg (show ¬ y = 2 from c70), if_pos (show y = 3 from c82)]; rw [hc, show i = sk_there f by omega], _, rfl⟩, sk_endw ht hP hD⟩, hS.F ht⟩) hS.2.2 dM_count_90
            · skip
              refine lv_aload_n hx hb dM_count_73 rfl (lv_at hl 2 rfl) ?_
              refine va_get (D := (dC, dI)) (ci := 4) (v := .int (nI f.1)) (C := RM) (T := TM) (N := 20) hx hb hts inM hown hK hP 0 rfl rfl 10 (by decide) (hts _ wfM_98) (fun _ h9 => h9) rfl dM_count_74 ?_
              refine lv_goto (tgt := 90) hx hb dM_count_77 (by decide) ?_
              exact W.iret (v := nI f.1) hx hb hr (fun U9 ht hW => ⟨⟨nI f.1, ((b, t, f), ex, lf, nI 0), rfl, ⟨by unfold sk_count; rw [if_neg (show ¬ y = 0 from c46), if_neg (show ¬ y = 1 from c58), if_pos (show y = 2 from c70)], _, rfl⟩, sk_endw ht hP hD⟩, hS.F ht⟩) hS.2.2 dM_count_90
          · skip
            refine lv_aload_n hx hb dM_count_61 rfl (lv_at hl 2 rfl) ?_
            refine va_get (D := (dC, dI)) (ci := 4) (v := .int (nI t.1)) (C := RM) (T := TM) (N := 20) hx hb hts inM hown hK hP 0 rfl rfl 5 (by decide) (hts _ wfM_19) (fun _ h9 => h9) rfl dM_count_62 ?_
            refine lv_goto (tgt := 90) hx hb dM_count_65 (by decide) ?_
            exact W.iret (v := nI t.1) hx hb hr (fun U9 ht hW => ⟨⟨nI t.1, ((b, t, f), ex, lf, nI 0), rfl, ⟨by unfold sk_count; rw [if_neg (show ¬ y = 0 from c46), if_pos (show y = 1 from c58)], _, rfl⟩, sk_endw ht hP hD⟩, hS.F ht⟩) hS.2.2 dM_count_90
        · skip
          refine lv_aload_n hx hb dM_count_49 rfl (lv_at hl 2 rfl) ?_
          refine va_get (D := (dC, dI)) (ci := 4) (v := .int (nI b.1)) (C := RM) (T := TM) (N := 20) hx hb hts inM hown hK hP 0 rfl rfl 1 (by decide) (hts _ wfM_65) (fun _ h9 => h9) rfl dM_count_50 ?_
          refine lv_goto (tgt := 90) hx hb dM_count_53 (by decide) ?_
          exact W.iret (v := nI b.1) hx hb hr (fun U9 ht hW => ⟨⟨nI b.1, ((b, t, f), ex, lf, nI 0), rfl, ⟨by unfold sk_count; rw [if_pos (show y = 0 from c46)], _, rfl⟩, sk_endw ht hP hD⟩, hS.F ht⟩) hS.2.2 dM_count_90
      · skip
        have n12 : ¬ 100 ≤ i := fun z9 => c12 ((nI_leI (a := 100) (b := i) (by omega) (by omega)).mpr z9)
        refine lv_iload_n hx hb dM_count_15 rfl (lv_at hl 0 rfl) ?_
        refine lv_aload_n hx hb dM_count_16 rfl (lv_at hl 2 rfl) ?_
        refine va_get (D := (dC, dI)) (ci := 4) (v := .int (nI f.1)) (C := RM) (T := TM) (N := 20) hx hb hts inM hown hK hP 0 rfl rfl 10 (by decide) (hts _ wfM_98) (fun _ h9 => h9) rfl dM_count_17 ?_
        refine lv_icmp_ge (tgt := 45) hx hb dM_count_20 (by decide) (fun c20 => ?_) (fun c20 => ?_)
        · skip
          have n20 : f.1 ≤ i := (nI_leI (a := f.1) (b := i) (by omega) (by omega)).mp c20
          refine lv_iload_n hx hb dM_count_45 rfl (lv_at hl 3 rfl) ?_
          refine lv_if_ne (tgt := 56) hx hb dM_count_46 (by decide) (fun c46 => ?_) (fun c46 => ?_)
          · skip
            refine lv_iload_n hx hb dM_count_56 rfl (lv_at hl 3 rfl) ?_
            refine lv_iconst (v := nI 1) hx hb dM_count_57 (by decide) ?_
            refine lv_icmp_ne (tgt := 68) hx hb dM_count_58 (by decide) (fun c58 => ?_) (fun c58 => ?_)
            · skip
              refine lv_iload_n hx hb dM_count_68 rfl (lv_at hl 3 rfl) ?_
              refine lv_iconst (v := nI 2) hx hb dM_count_69 (by decide) ?_
              refine lv_icmp_ne (tgt := 80) hx hb dM_count_70 (by decide) (fun c70 => ?_) (fun c70 => ?_)
              · skip
                refine lv_iload_n hx hb dM_count_80 rfl (lv_at hl 3 rfl) ?_
                refine lv_iconst (v := nI 3) hx hb dM_count_81 (by decide) ?_
                refine lv_icmp_ne (tgt := 89) hx hb dM_count_82 (by decide) (fun c82 => ?_) (fun c82 => ?_)
                · skip
                  refine lv_iconst (v := (-1)) hx hb dM_count_89 (by decide) ?_
                  exact W.iret (v := (-1)) hx hb hr (fun U9 ht hW => ⟨⟨(-1), ((b, t, f), ex, lf, nI 0), rfl, ⟨by unfold sk_count; rw [if_neg (show ¬ y = 0 from c46), if_neg (show ¬ y = 1 from c58), if_neg (show ¬ y = 2 from c70), if_neg (show ¬ y = 3 from c82)], _, rfl⟩, sk_endw ht hP hD⟩, hS.F ht⟩) hS.2.2 dM_count_90
                · skip
                  refine lv_iload_n hx hb dM_count_85 rfl (lv_at hl 1 rfl) ?_
                  refine lv_goto (tgt := 90) hx hb dM_count_86 (by decide) ?_
                  exact W.iret (v := nI cn) hx hb hr (fun U9 ht hW => ⟨⟨nI cn, ((b, t, f), ex, lf, nI 0), rfl, ⟨by unfold sk_count; rw [if_neg (show ¬ y = 0 from c46), if_neg (show ¬ y = 1 from c58), if_neg (show ¬ y = 2 from c70), if_pos (show y = 3 from c82)]; rw [hc, show i = sk_there f by omega], _, rfl⟩, sk_endw ht hP hD⟩, hS.F ht⟩) hS.2.2 dM_count_90
              · skip
                refine lv_aload_n hx hb dM_count_73 rfl (lv_at hl 2 rfl) ?_
                refine va_get (D := (dC, dI)) (ci := 4) (v := .int (nI f.1)) (C := RM) (T := TM) (N := 20) hx hb hts inM hown hK hP 0 rfl rfl 10 (by decide) (hts _ wfM_98) (fun _ h9 => h9) rfl dM_count_74 ?_
                refine lv_goto (tgt := 90) hx hb dM_count_77 (by decide) ?_
                exact W.iret (v := nI f.1) hx hb hr (fun U9 ht hW => ⟨⟨nI f.1, ((b, t, f), ex, lf, nI 0), rfl, ⟨by unfold sk_count; rw [if_neg (show ¬ y = 0 from c46), if_neg (show ¬ y = 1 from c58), if_pos (show y = 2 from c70)], _, rfl⟩, sk_endw ht hP hD⟩, hS.F ht⟩) hS.2.2 dM_count_90
            · skip
              refine lv_aload_n hx hb dM_count_61 rfl (lv_at hl 2 rfl) ?_
              refine va_get (D := (dC, dI)) (ci := 4) (v := .int (nI t.1)) (C := RM) (T := TM) (N := 20) hx hb hts inM hown hK hP 0 rfl rfl 5 (by decide) (hts _ wfM_19) (fun _ h9 => h9) rfl dM_count_62 ?_
              refine lv_goto (tgt := 90) hx hb dM_count_65 (by decide) ?_
              exact W.iret (v := nI t.1) hx hb hr (fun U9 ht hW => ⟨⟨nI t.1, ((b, t, f), ex, lf, nI 0), rfl, ⟨by unfold sk_count; rw [if_neg (show ¬ y = 0 from c46), if_pos (show y = 1 from c58)], _, rfl⟩, sk_endw ht hP hD⟩, hS.F ht⟩) hS.2.2 dM_count_90
          · skip
            refine lv_aload_n hx hb dM_count_49 rfl (lv_at hl 2 rfl) ?_
            refine va_get (D := (dC, dI)) (ci := 4) (v := .int (nI b.1)) (C := RM) (T := TM) (N := 20) hx hb hts inM hown hK hP 0 rfl rfl 1 (by decide) (hts _ wfM_65) (fun _ h9 => h9) rfl dM_count_50 ?_
            refine lv_goto (tgt := 90) hx hb dM_count_53 (by decide) ?_
            exact W.iret (v := nI b.1) hx hb hr (fun U9 ht hW => ⟨⟨nI b.1, ((b, t, f), ex, lf, nI 0), rfl, ⟨by unfold sk_count; rw [if_pos (show y = 0 from c46)], _, rfl⟩, sk_endw ht hP hD⟩, hS.F ht⟩) hS.2.2 dM_count_90
        · skip
          have n20 : ¬ f.1 ≤ i := fun z9 => c20 ((nI_leI (a := f.1) (b := i) (by omega) (by omega)).mpr z9)
          refine lv_iload_n hx hb dM_count_23 rfl (lv_at hl 1 rfl) ?_
          refine lv_aload_n hx hb dM_count_24 rfl (lv_at hl 2 rfl) ?_
          refine lv_iload_n hx hb dM_count_25 rfl (lv_at hl 0 rfl) ?_
          refine va_calli (va_runV (As := [.int (nI i)]) (rest := [.int (nI cn)]) ⟨hx, hb, hml, hown, hts⟩ (kM_holdsStill l dC dI a k b t f ex lf (nI 0) i (by omega) h60 (hF i (by omega)) (hFO i (by omega)).2.2.2) (cwV 1 hts (sk_gV wmM_104 wiM_holdsStill wsM_holdsStill wnM wcM_holdsStill) rfl rfl rfl (by decide +kernel) ⟨Nat.le_of_ble_eq_true rfl, Nat.le_of_ble_eq_true rfl⟩) ⟨sk_blindM _, va_recv hK hP (ci := 4) (q0 := 0) rfl rfl, fun U hU hW => ⟨rfl, sk_atM (S := (b, t, f)) (ex := ex) (lf := lf) (th := nI 0) hP hK hU hW⟩⟩ rfl rfl hl.1 rfl (lv_room (Nat.le_of_ble_eq_true rfl)) dM_count_26 ⟨Nat.le_of_ble_eq_true rfl, Nat.le_of_ble_eq_true rfl⟩) hS (fun _ _ h => h.elim) (fun _ h => h.elim) (fun r26 u26 U9 H locs ht hvm w26 hB hz hk hS => ?_)
          have hP : va_P (dC, dI) vwCl (sk_wMR a k (nI 0) (nI b.1) b.2.2.1 b.2.2.2.1 ex.1 (nI t.1) t.2.1 t.2.2.1 t.2.2.2.2 ex.2.1 (nI f.1) f.2.1 f.2.2.1 ex.2.2.1 f.2.2.2.1 f.2.2.2.2.1 ex.2.2.2.1 ex.2.2.2.2.1 ex.2.2.2.2.2 lf) H := hP.kept (fun j q hq => hk q.1 ((hP j q hq).lt) (fun h => h))
          clear hk hB ht
          rcases sk_bI_or (f.2.2.2.2.2.2 i) with ⟨h26, hv⟩ | ⟨h26, hv⟩
          · skip
            obtain rfl : r26 = nI 1 := w26.trans hv
            refine lv_if_eq (tgt := 36) hx hb dM_count_29 (by decide) (fun q => absurd q (by decide)) (fun _ => ?_)
            refine lv_iconst (v := nI 1) hx hb dM_count_32 (by decide) ?_
            refine lv_goto (tgt := 37) hx hb dM_count_33 (by decide) ?_
            refine lv_iadd hx hb dM_count_37 ?_
            refine lv_topi (fun x37 e37 => ?_)
            obtain rfl : x37 = nI (cn + 1) := e37.trans (nI_add _ _)
            refine lv_istore_n (lv' := [(2, .int (nI (cn + 1))), (3, .int (nI i)), (0, .ref (a 0)), (1, .int y)]) hx hb dM_count_38 rfl hl (by decide) rfl (fun ls hl => ?_)
            refine lv_iinc (v := nI (i + 1)) (lv' := [(3, .int (nI (i + 1))), (2, .int (nI (cn + 1))), (0, .ref (a 0)), (1, .int y)]) hx hb dM_count_39 hl (k := 1) rfl (sk_inc _) (by decide) rfl (fun ls hl => ?_)
            refine lv_goto (tgt := 9) hx hb dM_count_42 (by decide) ?_
            exact ih1 (cn + 1) (i + 1) (by omega) (sk_cnt_s hc h26) (by omega) _ _ hP hD hS ls (lv_sub hl [0, 1, 2, 3] rfl)
          · skip
            obtain rfl : r26 = nI 0 := w26.trans hv
            refine lv_if_eq (tgt := 36) hx hb dM_count_29 (by decide) (fun _ => ?_) (fun q => absurd (by decide) q)
            refine lv_iconst (v := nI 0) hx hb dM_count_36 (by decide) ?_
            refine lv_iadd hx hb dM_count_37 ?_
            refine lv_topi (fun x37 e37 => ?_)
            obtain rfl : x37 = nI (cn + 0) := e37.trans (nI_add _ _)
            refine lv_istore_n (lv' := [(2, .int (nI (cn + 0))), (3, .int (nI i)), (0, .ref (a 0)), (1, .int y)]) hx hb dM_count_38 rfl hl (by decide) rfl (fun ls hl => ?_)
            refine lv_iinc (v := nI (i + 1)) (lv' := [(3, .int (nI (i + 1))), (2, .int (nI (cn + 0))), (0, .ref (a 0)), (1, .int y)]) hx hb dM_count_39 hl (k := 1) rfl (sk_inc _) (by decide) rfl (fun ls hl => ?_)
            refine lv_goto (tgt := 9) hx hb dM_count_42 (by decide) ?_
            exact ih1 (cn + 0) (i + 1) (by omega) (sk_cnt_n hc h26) (by omega) _ _ hP hD hS ls (lv_sub hl [0, 1, 2, 3] rfl)
  exact loop1 (sk_there f - 0 + 1) 0 0 (Nat.zero_le _) (rfl) (Nat.lt_succ_self _) _ _ hP hD hS ls (lv_sub hl [0, 1, 2, 3] rfl)
abbrev wzM_shape : List Cond := .code yM_shape cM_shape 5 (some .int) :: sk_W
abbrev rzM_shape : Room := { frames := 0, cells := 0, slots := 0, locals := 0 }
set_option maxHeartbeats 4000000 in
set_option maxRecDepth 100000 in
theorem kM_shape (l : Launch) (dC : Nat → ClassId) (dI : Nat → Nat → Nat) (a : Nat → Nat) (k : Nat → ClassId) (b : sk_Ob) (t : sk_Tr) (f : sk_Fi) (ex : sk_Ex) (lf : sk_F) (th : Int32) (A : Nat → Prop) (x y : Int32) (K : Nat) (hOK : sk_OK K (b, t, f)) (hR : sk_RM (b, t, f) ex) : Met l yM_shape wzM_shape rzM_shape (va_Pc [.ref (a 0), .int x, .int y] (fun U => sk_PM dC dI a k (b, t, f) ex lf th U ∧ va_D A (sk_wM a k (b, t, f) ex lf th))) (va_Qi (fun r (u : sk_S × sk_Ex × sk_F × Int32) => r = sk_shape (b, t, f) x y ∧ ∃ th2, u = ((b, t, f), ex, lf, th2)) (fun u U => va_P (dC, dI) vwCl (sk_wM a k u.1 u.2.1 u.2.2.1 u.2.2.2) U.heap ∧ va_D A (sk_wM a k u.1 u.2.1 u.2.2.1 u.2.2.2)) A) 0 0 A := by
  refine Met.ofW (cc := cM_shape) (maxL := 5) (ret := (some .int)) (by decide) rfl ?_
  intro p e s m args below meth c s₁ B hml hv
  obtain ⟨rfl, ⟨hP, hK⟩, hD⟩ := hv
  have hx := B.exec
  have hb := B.bytes
  have hr := B.returns
  have hts : ∀ w ∈ sk_W, w.before ([.ref (a 0), .int x, .int y] : List Value).toArray s = true := fun w h => atoms_spec (ws := wzM_shape) B.pre w (List.mem_cons_of_mem _ h)
  have hown : s.vm.findClass RM = some m.cls := findClass_of_methodNamed B.named
  have hlocks := B.notSynchronized
  have hS : va_S A s.heap s.heap [] := va_S.rf
  have hP : va_P (dC, dI) vwCl (sk_wMR a k th (nI b.1) b.2.2.1 b.2.2.2.1 ex.1 (nI t.1) t.2.1 t.2.2.1 t.2.2.2.2 ex.2.1 (nI f.1) f.2.1 f.2.2.1 ex.2.2.1 f.2.2.2.1 f.2.2.2.2.1 ex.2.2.2.1 ex.2.2.2.2.1 ex.2.2.2.2.2 lf) s.heap := hP
  have hD : va_D A (sk_wMR a k th (nI b.1) b.2.2.1 b.2.2.2.1 ex.1 (nI t.1) t.2.1 t.2.2.1 t.2.2.2.2 ex.2.1 (nI f.1) f.2.1 f.2.2.1 ex.2.2.1 f.2.2.2.1 f.2.2.2.2.1 ex.2.2.2.1 ex.2.2.2.2.1 ex.2.2.2.2.2 lf) := hD
  have hl := lv_entry ([.ref (a 0), .int x, .int y]) (n := 5) (Nat.le_of_ble_eq_true rfl)
  rw [lg_entry_eq]
  generalize (lg_sl ([.ref (a 0), .int x, .int y]) ++ List.replicate (5 - (lg_sl ([.ref (a 0), .int x, .int y])).length) Slot.unset).toArray = ls at hl ⊢
  have hl : lv_has ls 5 [(0, .ref (a 0)), (1, .int x), (2, .int y)] := hl
  have hT : sk_TO b.1 t := hOK.1
  have hA : sk_AC b.1 b.2.1 := hOK.2.1
  have hO : sk_OO b t := hOK.2.2.1
  have hch0 : ∀ o, b.1 ≤ o → b.2.2.2.1 o = 0 := hOK.2.2.2.2.1
  have hmk : f.1 ≤ K := hOK.2.2.2.2.2.2.1
  have hK5 : K ≤ 512 := hOK.2.2.2.2.2.1
  have h200 : t.1 ≤ 200 := hT.2.1
  have h60 : b.1 ≤ 60 := hT.2.2.1
  have h100 : sk_there f ≤ 100 := Nat.min_le_right _ _
  have hN : sk_RN t ex.2.1 := hR.1
  have hV : sk_RV b t ex.1 := hR.2.1
  have hF : ∀ i, i < sk_there f → sk_RF b f ex i := hR.2.2
  have hFO : ∀ i, i < sk_there f → sk_FO b t f i := hOK.2.2.2.2.2.2.2
  refine lv_aload_n hx hb dM_shape_0 rfl (lv_at hl 0 rfl) ?_
  refine lv_iconst (v := nI 0) hx hb dM_shape_1 (by decide) ?_
  refine va_put (D := (dC, dI)) (ci := 4) (v := .int (nI 0)) (ty := .int) (C := RM) (T := TM) (N := 20) hx hb hts inM tyM tyM_ok nmM hown hK hP hD hS 0 rfl rfl 0 (by decide) (hts _ wfM_62) (fun _ h9 => h9) rfl (by decide +kernel) rfl rfl (Nat.le_of_ble_eq_true rfl) dM_shape_2 (fun H locs hP hD hS => ?_)
  have hP : va_P (dC, dI) vwCl (sk_wMR a k (nI 0) (nI b.1) b.2.2.1 b.2.2.2.1 ex.1 (nI t.1) t.2.1 t.2.2.1 t.2.2.2.2 ex.2.1 (nI f.1) f.2.1 f.2.2.1 ex.2.2.1 f.2.2.2.1 f.2.2.2.2.1 ex.2.2.2.1 ex.2.2.2.2.1 ex.2.2.2.2.2 lf) H := hP
  have hD : va_D A (sk_wMR a k (nI 0) (nI b.1) b.2.2.1 b.2.2.2.1 ex.1 (nI t.1) t.2.1 t.2.2.1 t.2.2.2.2 ex.2.1 (nI f.1) f.2.1 f.2.2.1 ex.2.2.1 f.2.2.2.1 f.2.2.2.2.1 ex.2.2.2.1 ex.2.2.2.2.1 ex.2.2.2.2.2 lf) := hD
  refine lv_iload_n hx hb dM_shape_5 rfl (lv_at hl 1 rfl) ?_
  refine lv_if_lt (tgt := 21) hx hb dM_shape_6 (by decide) (fun c6 => ?_) (fun c6 => ?_)
  · skip
    refine lv_iconst (v := (-1)) hx hb dM_shape_21 (by decide) ?_
    have hset := sk_shape_n (S := (b, t, f)) (x := x) (w := y) (by show sk_hasB t.1 x = false; cases q5 : sk_hasB t.1 x with | false => rfl | true => have z5 := sk_hasB_f1 (n := t.1) c6; rw [q5] at z5; exact absurd z5 (by decide))
    exact W.iret (v := (-1)) hx hb hr (fun U9 ht hW => ⟨⟨(-1), ((b, t, f), ex, lf, nI 0), rfl, ⟨hset.symm, _, rfl⟩, sk_endw ht hP hD⟩, hS.F ht⟩) hS.2.2 dM_shape_22
  · skip
    refine lv_iload_n hx hb dM_shape_9 rfl (lv_at hl 1 rfl) ?_
    refine lv_aload_n hx hb dM_shape_10 rfl (lv_at hl 0 rfl) ?_
    refine va_get (D := (dC, dI)) (ci := 4) (v := .int (nI t.1)) (C := RM) (T := TM) (N := 20) hx hb hts inM hown hK hP 0 rfl rfl 5 (by decide) (hts _ wfM_19) (fun _ h9 => h9) rfl dM_shape_11 ?_
    refine lv_icmp_ge (tgt := 21) hx hb dM_shape_14 (by decide) (fun c14 => ?_) (fun c14 => ?_)
    · skip
      refine lv_iconst (v := (-1)) hx hb dM_shape_21 (by decide) ?_
      have hset := sk_shape_n (S := (b, t, f)) (x := x) (w := y) (by show sk_hasB t.1 x = false; cases q5 : sk_hasB t.1 x with | false => rfl | true => have z5 := sk_hasB_f2 c14; rw [q5] at z5; exact absurd z5 (by decide))
      exact W.iret (v := (-1)) hx hb hr (fun U9 ht hW => ⟨⟨(-1), ((b, t, f), ex, lf, nI 0), rfl, ⟨hset.symm, _, rfl⟩, sk_endw ht hP hD⟩, hS.F ht⟩) hS.2.2 dM_shape_22
    · skip
      refine lv_iload_n hx hb dM_shape_17 rfl (lv_at hl 2 rfl) ?_
      refine lv_if_ge (tgt := 23) hx hb dM_shape_18 (by decide) (fun c18 => ?_) (fun c18 => ?_)
      · skip
        have hx5 : sk_hasB t.1 x = true := by cases q5 : sk_hasB t.1 x with | true => rfl | false => have z5 := sk_hasB_t c6 c14; rw [q5] at z5; exact absurd z5 (by decide)
        obtain ⟨o, ho, eo9⟩ := (sk_hasB_iff (by omega)).mp hx5
        subst eo9
        obtain ⟨g, hg0, hle, hlen⟩ := sk_lenOk hT ho
        refine lv_iload_n hx hb dM_shape_23 rfl (lv_at hl 2 rfl) ?_
        refine lv_iconst (v := nI 3) hx hb dM_shape_24 (by decide) ?_
        refine lv_icmp_le (tgt := 58) hx hb dM_shape_25 (by decide) (fun c25 => ?_) (fun c25 => ?_)
        · skip
          refine lv_iconst (v := nI 0) hx hb dM_shape_58 (by decide) ?_
          refine lv_istore_n (lv' := [(3, .int (nI 0)), (0, .ref (a 0)), (1, .int (nI o)), (2, .int y)]) hx hb dM_shape_59 rfl hl (by decide) rfl (fun ls hl => ?_)
          refine lv_iconst (v := nI 0) hx hb dM_shape_60 (by decide) ?_
          refine lv_istore (lv' := [(4, .int (nI 0)), (3, .int (nI 0)), (0, .ref (a 0)), (1, .int (nI o)), (2, .int y)]) hx hb dM_shape_61 hl (by decide) rfl (fun ls hl => ?_)
          have loop1 : ∀ (nn : Nat) (cn i : Nat), i ≤ b.1 → cn = sk_cnt (fun y9 => decide (b.2.2.1 y9 = nI o)) i → b.1 - i < nn → ∀ (H : Heap) (locs : List Loc), va_P (dC, dI) vwCl (sk_wMR a k (nI 0) (nI b.1) b.2.2.1 b.2.2.2.1 ex.1 (nI t.1) t.2.1 t.2.2.1 t.2.2.2.2 ex.2.1 (nI f.1) f.2.1 f.2.2.1 ex.2.2.1 f.2.2.2.1 f.2.2.2.2.1 ex.2.2.2.1 ex.2.2.2.2.1 ex.2.2.2.2.2 lf) H → va_D A (sk_wMR a k (nI 0) (nI b.1) b.2.2.1 b.2.2.2.1 ex.1 (nI t.1) t.2.1 t.2.2.1 t.2.2.2.2 ex.2.1 (nI f.1) f.2.1 f.2.2.1 ex.2.2.1 f.2.2.2.1 f.2.2.2.2.1 ex.2.2.2.1 ex.2.2.2.2.1 ex.2.2.2.2.2 lf) → va_S A s.heap H locs → ∀ ls : Array Slot, lv_has ls 5 [(4, .int (nI i)), (3, .int (nI cn)), (0, .ref (a 0)), (1, .int (nI o)), (2, .int y)] → W p l e (headSpec wzM_shape rzM_shape).room s m ([.ref (a 0), .int (nI o), .int y] : List Value).toArray below meth c H locs 0 0 (MQ below (va_Qi (fun r (u : sk_S × sk_Ex × sk_F × Int32) => r = sk_shape (b, t, f) (nI o) y ∧ ∃ th2, u = ((b, t, f), ex, lf, th2)) (fun u U => va_P (dC, dI) vwCl (sk_wM a k u.1 u.2.1 u.2.2.1 u.2.2.2) U.heap ∧ va_D A (sk_wM a k u.1 u.2.1 u.2.2.1 u.2.2.2)) A) ([.ref (a 0), .int (nI o), .int y] : List Value).toArray s 0 0 A) (F0 m 63 ls []) := by
            intro nn
            induction nn with
            | zero => intro cn i hi hc hmu; exact absurd hmu (Nat.not_lt_zero _)
            | succ nn ih1 =>
              intro cn i hi hc hmu H locs hP hD hS ls hl
              refine lv_iload hx hb dM_shape_63 (lv_at hl 0 rfl) ?_
              refine lv_aload_n hx hb dM_shape_65 rfl (lv_at hl 2 rfl) ?_
              refine va_get (D := (dC, dI)) (ci := 4) (v := .int (nI b.1)) (C := RM) (T := TM) (N := 20) hx hb hts inM hown hK hP 0 rfl rfl 1 (by decide) (hts _ wfM_65) (fun _ h9 => h9) rfl dM_shape_66 ?_
              refine lv_icmp_ge (tgt := 97) hx hb dM_shape_69 (by decide) (fun c69 => ?_) (fun c69 => ?_)
              · skip
                have n69 : b.1 ≤ i := (nI_leI (a := b.1) (b := i) (by omega) (by omega)).mp c69
                obtain ⟨jj, hjj, ejj⟩ := nI_of2 (nI_toInt (by decide)) (fun q => by rw [Int32.lt_iff_toInt_lt] at q; rw [Int32.le_iff_toInt_le] at c18; omega) c25
                subst ejj
                refine lv_iload_n hx hb dM_shape_97 rfl (lv_at hl 4 rfl) ?_
                refine lv_if_ne (tgt := 110) hx hb dM_shape_98 (by decide) (fun c98 => ?_) (fun c98 => ?_)
                · skip
                  have n98 : ¬ jj = 0 := fun z9 => c98 ((nI_eq (a := jj) (b := 0) (by omega) (by omega)).mpr z9)
                  refine lv_iload_n hx hb dM_shape_110 rfl (lv_at hl 4 rfl) ?_
                  refine lv_iconst (v := nI 1) hx hb dM_shape_111 (by decide) ?_
                  refine lv_icmp_ne (tgt := 124) hx hb dM_shape_112 (by decide) (fun c112 => ?_) (fun c112 => ?_)
                  · skip
                    have n112 : ¬ jj = 1 := fun z9 => c112 ((nI_eq (a := jj) (b := 1) (by omega) (by omega)).mpr z9)
                    refine lv_iload_n hx hb dM_shape_124 rfl (lv_at hl 4 rfl) ?_
                    refine lv_iconst (v := nI 2) hx hb dM_shape_125 (by decide) ?_
                    refine lv_icmp_ne (tgt := 133) hx hb dM_shape_126 (by decide) (fun c126 => ?_) (fun c126 => ?_)
                    · skip
                      have n126 : ¬ jj = 2 := fun z9 => c126 ((nI_eq (a := jj) (b := 2) (by omega) (by omega)).mpr z9)
                      refine lv_aload_n hx hb dM_shape_133 rfl (lv_at hl 2 rfl) ?_
                      refine va_get (D := (dC, dI)) (ci := 4) (v := .ref (a 5)) (C := RM) (T := TM) (N := 20) hx hb hts inM hown hK hP 0 rfl rfl 7 (by decide) (hts _ wfM_26) (fun _ h9 => h9) rfl dM_shape_134 ?_
                      refine lv_iload_n hx hb dM_shape_137 rfl (lv_at hl 3 rfl) ?_
                      refine va_iald hx hb hK hP 5 0 rfl rfl (vp_in_nI (show o < 200 by omega) (by decide)) dM_shape_138 ?_
                      refine lv_topi (fun x138 e138 => ?_)
                      rw [nI_clamp (show o < 2 ^ 31 by omega)] at e138
                      obtain rfl : jj = 3 := by omega
                      exact W.iret (v := x138) hx hb hr (fun U9 ht hW => ⟨⟨x138, ((b, t, f), ex, lf, nI 0), rfl, ⟨by rw [sk_shape_y h200 ho]; exact e138, _, rfl⟩, sk_endw ht hP hD⟩, hS.F ht⟩) hS.2.2 dM_shape_139
                    · skip
                      have n126 : jj = 2 := (nI_eq (a := jj) (b := 2) (by omega) (by omega)).mp c126
                      refine lv_iload_n hx hb dM_shape_129 rfl (lv_at hl 1 rfl) ?_
                      refine lv_goto (tgt := 139) hx hb dM_shape_130 (by decide) ?_
                      obtain rfl : jj = 2 := n126
                      exact W.iret (v := nI cn) hx hb hr (fun U9 ht hW => ⟨⟨nI cn, ((b, t, f), ex, lf, nI 0), rfl, ⟨by rw [sk_shape_y h200 ho, hc, show i = b.1 by omega]; rfl, _, rfl⟩, sk_endw ht hP hD⟩, hS.F ht⟩) hS.2.2 dM_shape_139
                  · skip
                    have n112 : jj = 1 := (nI_eq (a := jj) (b := 1) (by omega) (by omega)).mp c112
                    refine lv_aload_n hx hb dM_shape_115 rfl (lv_at hl 2 rfl) ?_
                    refine va_get (D := (dC, dI)) (ci := 4) (v := .ref (a 6)) (C := RM) (T := TM) (N := 20) hx hb hts inM hown hK hP 0 rfl rfl 8 (by decide) (hts _ wfM_29) (fun _ h9 => h9) rfl dM_shape_116 ?_
                    refine lv_iload_n hx hb dM_shape_119 rfl (lv_at hl 3 rfl) ?_
                    refine va_iald hx hb hK hP 6 0 rfl rfl (vp_in_nI (show o < 200 by omega) (by decide)) dM_shape_120 ?_
                    refine lv_topi (fun x120 e120 => ?_)
                    rw [nI_clamp (show o < 2 ^ 31 by omega)] at e120
                    refine lv_goto (tgt := 139) hx hb dM_shape_121 (by decide) ?_
                    obtain rfl : jj = 1 := n112
                    exact W.iret (v := x120) hx hb hr (fun U9 ht hW => ⟨⟨x120, ((b, t, f), ex, lf, nI 0), rfl, ⟨by rw [sk_shape_y h200 ho]; exact e120, _, rfl⟩, sk_endw ht hP hD⟩, hS.F ht⟩) hS.2.2 dM_shape_139
                · skip
                  have n98 : jj = 0 := (nI_eq (a := jj) (b := 0) (by omega) (by omega)).mp c98
                  refine lv_aload_n hx hb dM_shape_101 rfl (lv_at hl 2 rfl) ?_
                  refine va_get (D := (dC, dI)) (ci := 4) (v := .ref (a 4)) (C := RM) (T := TM) (N := 20) hx hb hts inM hown hK hP 0 rfl rfl 6 (by decide) (hts _ wfM_23) (fun _ h9 => h9) rfl dM_shape_102 ?_
                  refine lv_iload_n hx hb dM_shape_105 rfl (lv_at hl 3 rfl) ?_
                  refine va_iald hx hb hK hP 4 0 rfl rfl (vp_in_nI (show o < 200 by omega) (by decide)) dM_shape_106 ?_
                  refine lv_topi (fun x106 e106 => ?_)
                  rw [nI_clamp (show o < 2 ^ 31 by omega)] at e106
                  refine lv_goto (tgt := 139) hx hb dM_shape_107 (by decide) ?_
                  obtain rfl : jj = 0 := n98
                  exact W.iret (v := x106) hx hb hr (fun U9 ht hW => ⟨⟨x106, ((b, t, f), ex, lf, nI 0), rfl, ⟨by rw [sk_shape_y h200 ho]; exact e106, _, rfl⟩, sk_endw ht hP hD⟩, hS.F ht⟩) hS.2.2 dM_shape_139
              · skip
                have n69 : ¬ b.1 ≤ i := fun z9 => c69 ((nI_leI (a := b.1) (b := i) (by omega) (by omega)).mpr z9)
                refine lv_iload_n hx hb dM_shape_72 rfl (lv_at hl 1 rfl) ?_
                refine lv_aload_n hx hb dM_shape_73 rfl (lv_at hl 2 rfl) ?_
                refine va_get (D := (dC, dI)) (ci := 4) (v := .ref (a 1)) (C := RM) (T := TM) (N := 20) hx hb hts inM hown hK hP 0 rfl rfl 2 (by decide) (hts _ wfM_7) (fun _ h9 => h9) rfl dM_shape_74 ?_
                refine lv_iload hx hb dM_shape_77 (lv_at hl 0 rfl) ?_
                refine va_iald hx hb hK hP 1 0 rfl rfl (vp_in_nI (show i < 60 by omega) (by decide)) dM_shape_79 ?_
                refine lv_topi (fun x79 e79 => ?_)
                rw [nI_clamp (show i < 2 ^ 31 by omega)] at e79
                refine lv_iload_n hx hb dM_shape_80 rfl (lv_at hl 3 rfl) ?_
                refine lv_icmp_ne (tgt := 88) hx hb dM_shape_81 (by decide) (fun c81 => ?_) (fun c81 => ?_)
                · skip
                  refine lv_iconst (v := nI 0) hx hb dM_shape_88 (by decide) ?_
                  refine lv_iadd hx hb dM_shape_89 ?_
                  refine lv_topi (fun x89 e89 => ?_)
                  obtain rfl : x89 = nI (cn + 0) := e89.trans (nI_add _ _)
                  refine lv_istore_n (lv' := [(3, .int (nI (cn + 0))), (4, .int (nI i)), (0, .ref (a 0)), (1, .int (nI o)), (2, .int y)]) hx hb dM_shape_90 rfl hl (by decide) rfl (fun ls hl => ?_)
                  refine lv_iinc (v := nI (i + 1)) (lv' := [(4, .int (nI (i + 1))), (3, .int (nI (cn + 0))), (0, .ref (a 0)), (1, .int (nI o)), (2, .int y)]) hx hb dM_shape_91 hl (k := 1) rfl (sk_inc _) (by decide) rfl (fun ls hl => ?_)
                  refine lv_goto (tgt := 63) hx hb dM_shape_94 (by decide) ?_
                  exact ih1 (cn + 0) (i + 1) (by omega) (sk_cnt_n hc (by show decide (b.2.2.1 i = nI o) = false; rw [← e79]; exact decide_eq_false c81)) (by omega) _ _ hP hD hS ls (lv_sub hl [0, 1, 2, 3, 4] rfl)
                · skip
                  refine lv_iconst (v := nI 1) hx hb dM_shape_84 (by decide) ?_
                  refine lv_goto (tgt := 89) hx hb dM_shape_85 (by decide) ?_
                  refine lv_iadd hx hb dM_shape_89 ?_
                  refine lv_topi (fun x89 e89 => ?_)
                  obtain rfl : x89 = nI (cn + 1) := e89.trans (nI_add _ _)
                  refine lv_istore_n (lv' := [(3, .int (nI (cn + 1))), (4, .int (nI i)), (0, .ref (a 0)), (1, .int (nI o)), (2, .int y)]) hx hb dM_shape_90 rfl hl (by decide) rfl (fun ls hl => ?_)
                  refine lv_iinc (v := nI (i + 1)) (lv' := [(4, .int (nI (i + 1))), (3, .int (nI (cn + 1))), (0, .ref (a 0)), (1, .int (nI o)), (2, .int y)]) hx hb dM_shape_91 hl (k := 1) rfl (sk_inc _) (by decide) rfl (fun ls hl => ?_)
                  refine lv_goto (tgt := 63) hx hb dM_shape_94 (by decide) ?_
                  exact ih1 (cn + 1) (i + 1) (by omega) (sk_cnt_s hc (by show decide (b.2.2.1 i = nI o) = true; rw [← e79]; exact decide_eq_true c81)) (by omega) _ _ hP hD hS ls (lv_sub hl [0, 1, 2, 3, 4] rfl)
          exact loop1 (b.1 - 0 + 1) 0 0 (Nat.zero_le _) (rfl) (Nat.lt_succ_self _) _ _ hP hD hS ls (lv_sub hl [0, 1, 2, 3, 4] rfl)
        · skip
          obtain ⟨jj, hjj, ejj⟩ := sk_y4 c25
          subst ejj
          refine lv_iload_n hx hb dM_shape_28 rfl (lv_at hl 2 rfl) ?_
          refine lv_iconst (v := nI 4) hx hb dM_shape_29 (by decide) ?_
          refine lv_isub hx hb dM_shape_30 ?_
          refine lv_topi (fun x30 e30 => ?_)
          obtain rfl : x30 = nI ((jj + 4) - 4) := e30.trans (pk_sub (by omega))
          refine lv_aload_n hx hb dM_shape_31 rfl (lv_at hl 0 rfl) ?_
          refine va_get (D := (dC, dI)) (ci := 4) (v := .ref (a 6)) (C := RM) (T := TM) (N := 20) hx hb hts inM hown hK hP 0 rfl rfl 8 (by decide) (hts _ wfM_29) (fun _ h9 => h9) rfl dM_shape_32 ?_
          refine lv_iload_n hx hb dM_shape_35 rfl (lv_at hl 1 rfl) ?_
          refine va_iald hx hb hK hP 6 0 rfl rfl (vp_in_nI (show o < 200 by omega) (by decide)) dM_shape_36 ?_
          refine lv_topi (fun x36 e36 => ?_)
          rw [nI_clamp (show o < 2 ^ 31 by omega)] at e36
          obtain rfl : x36 = nI g := e36.trans (hle)
          refine lv_icmp_ge (tgt := 56) hx hb dM_shape_37 (by decide) (fun c37 => ?_) (fun c37 => ?_)
          · skip
            have n37 : g ≤ ((jj + 4) - 4) := (nI_leI (a := g) (b := ((jj + 4) - 4)) (by omega) (by omega)).mp c37
            refine lv_iconst (v := (-1)) hx hb dM_shape_56 (by decide) ?_
            exact W.iret (v := (-1)) hx hb hr (fun U9 ht hW => ⟨⟨(-1), ((b, t, f), ex, lf, nI 0), rfl, ⟨by rw [sk_shape_y h200 ho, sk_shapeN_4 hjj, if_neg (by omega)], _, rfl⟩, sk_endw ht hP hD⟩, hS.F ht⟩) hS.2.2 dM_shape_57
          · skip
            have n37 : ¬ g ≤ ((jj + 4) - 4) := fun z9 => c37 ((nI_leI (a := g) (b := ((jj + 4) - 4)) (by omega) (by omega)).mpr z9)
            refine lv_aload_n hx hb dM_shape_40 rfl (lv_at hl 0 rfl) ?_
            refine va_get (D := (dC, dI)) (ci := 4) (v := .ref (a 7)) (C := RM) (T := TM) (N := 20) hx hb hts inM hown hK hP 0 rfl rfl 9 (by decide) (hts _ wfM_32) (fun _ h9 => h9) rfl dM_shape_41 ?_
            refine lv_bipush (v := nI 12) hx hb dM_shape_44 (by decide) ?_
            refine lv_iload_n hx hb dM_shape_46 rfl (lv_at hl 1 rfl) ?_
            refine lv_imul hx hb dM_shape_47 ?_
            refine lv_topi (fun x47 e47 => ?_)
            obtain rfl : x47 = nI (12 * o) := e47.trans (pk_mul _ _)
            refine lv_iload_n hx hb dM_shape_48 rfl (lv_at hl 2 rfl) ?_
            refine lv_iadd hx hb dM_shape_49 ?_
            refine lv_topi (fun x49 e49 => ?_)
            obtain rfl : x49 = nI ((12 * o) + (jj + 4)) := e49.trans (nI_add _ _)
            refine lv_iconst (v := nI 4) hx hb dM_shape_50 (by decide) ?_
            refine lv_isub hx hb dM_shape_51 ?_
            refine lv_topi (fun x51 e51 => ?_)
            obtain rfl : x51 = nI (((12 * o) + (jj + 4)) - 4) := e51.trans (pk_sub (by omega))
            refine va_iald hx hb hK hP 7 0 rfl rfl (vp_in_nI (show (((12 * o) + (jj + 4)) - 4) < 2400 by omega) (by decide)) dM_shape_52 ?_
            refine lv_topi (fun x52 e52 => ?_)
            rw [nI_clamp (show (((12 * o) + (jj + 4)) - 4) < 2 ^ 31 by omega)] at e52
            refine lv_goto (tgt := 57) hx hb dM_shape_53 (by decide) ?_
            exact W.iret (v := x52) hx hb hr (fun U9 ht hW => ⟨⟨x52, ((b, t, f), ex, lf, nI 0), rfl, ⟨by rw [sk_shape_y h200 ho, sk_shapeN_4 hjj, if_pos (by omega), e52, show 12 * o + (jj + 4) - 4 = 12 * o + jj by omega]; exact hN o ho jj (by omega), _, rfl⟩, sk_endw ht hP hD⟩, hS.F ht⟩) hS.2.2 dM_shape_57
      · skip
        refine lv_iconst (v := (-1)) hx hb dM_shape_21 (by decide) ?_
        have hset : sk_shape (b, t, f) x y = -1 := by unfold sk_shape; by_cases q5 : sk_hasB t.1 x = true; exact (if_pos q5).trans (sk_shapeN_neg c18); exact if_neg q5
        exact W.iret (v := (-1)) hx hb hr (fun U9 ht hW => ⟨⟨(-1), ((b, t, f), ex, lf, nI 0), rfl, ⟨hset.symm, _, rfl⟩, sk_endw ht hP hD⟩, hS.F ht⟩) hS.2.2 dM_shape_22
