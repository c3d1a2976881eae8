abbrev wzM_object : List Cond := .code yM_object cM_object 3 (some .int) :: sk_W
abbrev rzM_object : Room := { frames := 2, cells := 0, slots := 0, locals := 50 }
set_option maxHeartbeats 4000000 in
set_option maxRecDepth 100000 in
theorem kM_object (l : Launch) (dC : Nat → ClassId) (dI : Nat → Nat → Nat) (a : Nat → Nat) (k : Nat → ClassId) (b : sk_Ob) (t : sk_Tr) (f : sk_Fi) (ex : sk_Ex) (lf : sk_F) (th : Int32) (A : Nat → Prop) (x : Int32) (K : Nat) (hOK : sk_OK K (b, t, f)) (hR : sk_RM (b, t, f) ex) (hK1 : K + 1 ≤ 512) : Met l yM_object wzM_object rzM_object (va_Pc [.ref (a 0), .int x] (fun U => sk_PM dC dI a k (b, t, f) ex lf th U ∧ va_D A (sk_wM a k (b, t, f) ex lf th))) (va_Qi (fun r (u : sk_S × sk_Ex × sk_F × Int32) => ∃ ex2 lf2, u = ((sk_object (b, t, f) x).2.2, ex2, lf2, nI (sk_object (b, t, f) x).1) ∧ sk_RM (sk_object (b, t, f) x).2.2 ex2 ∧ ((sk_object (b, t, f) x).1 = 0 → r = (sk_object (b, t, f) x).2.1)) (fun u U => va_P (dC, dI) vwCl (sk_wM a k u.1 u.2.1 u.2.2.1 u.2.2.2) U.heap ∧ va_D A (sk_wM a k u.1 u.2.1 u.2.2.1 u.2.2.2)) A) 0 0 A := by
  refine Met.ofW (cc := cM_object) (maxL := 3) (ret := (some .int)) (by decide) rfl ?_
  intro p e s m args below meth c s₁ B hml hv
  obtain ⟨rfl, ⟨hP, hK⟩, hD⟩ := hv
  have hx := B.exec
  have hb := B.bytes
  have hr := B.returns
  have hts : ∀ w ∈ sk_W, w.before ([.ref (a 0), .int x] : List Value).toArray s = true := fun w h => atoms_spec (ws := wzM_object) B.pre w (List.mem_cons_of_mem _ h)
  have hown : s.vm.findClass RM = some m.cls := findClass_of_methodNamed B.named
  have hlocks := B.notSynchronized
  have hS : va_S A s.heap s.heap [] := va_S.rf
  have hP : va_P (dC, dI) vwCl (sk_wMR a k th (nI b.1) b.2.2.1 b.2.2.2.1 ex.1 (nI t.1) t.2.1 t.2.2.1 t.2.2.2.2 ex.2.1 (nI f.1) f.2.1 f.2.2.1 ex.2.2.1 f.2.2.2.1 f.2.2.2.2.1 ex.2.2.2.1 ex.2.2.2.2.1 ex.2.2.2.2.2 lf) s.heap := hP
  have hD : va_D A (sk_wMR a k th (nI b.1) b.2.2.1 b.2.2.2.1 ex.1 (nI t.1) t.2.1 t.2.2.1 t.2.2.2.2 ex.2.1 (nI f.1) f.2.1 f.2.2.1 ex.2.2.1 f.2.2.2.1 f.2.2.2.2.1 ex.2.2.2.1 ex.2.2.2.2.1 ex.2.2.2.2.2 lf) := hD
  have hl := lv_entry ([.ref (a 0), .int x]) (n := 3) (Nat.le_of_ble_eq_true rfl)
  rw [lg_entry_eq]
  generalize (lg_sl ([.ref (a 0), .int x]) ++ List.replicate (3 - (lg_sl ([.ref (a 0), .int x])).length) Slot.unset).toArray = ls at hl ⊢
  have hl : lv_has ls 3 [(0, .ref (a 0)), (1, .int x)] := hl
  have hT : sk_TO b.1 t := hOK.1
  have hA : sk_AC b.1 b.2.1 := hOK.2.1
  have hO : sk_OO b t := hOK.2.2.1
  have hch0 : ∀ o, b.1 ≤ o → b.2.2.2.1 o = 0 := hOK.2.2.2.2.1
  have hmk : f.1 ≤ K := hOK.2.2.2.2.2.2.1
  have hK5 : K ≤ 512 := hOK.2.2.2.2.2.1
  have h200 : t.1 ≤ 200 := hT.2.1
  have h60 : b.1 ≤ 60 := hT.2.2.1
  have h100 : sk_there f ≤ 100 := Nat.min_le_right _ _
  have hN : sk_RN t ex.2.1 := hR.1
  have hV : sk_RV b t ex.1 := hR.2.1
  have hF : ∀ i, i < sk_there f → sk_RF b f ex i := hR.2.2
  have hFO : ∀ i, i < sk_there f → sk_FO b t f i := hOK.2.2.2.2.2.2.2
  refine lv_aload_n hx hb dM_object_0 rfl (lv_at hl 0 rfl) ?_
  refine lv_iload_n hx hb dM_object_1 rfl (lv_at hl 1 rfl) ?_
  refine lv_iconst (v := (-1)) hx hb dM_object_2 (by decide) ?_
  refine lv_icmp_eq (tgt := 18) hx hb dM_object_3 (by decide) (fun c3 => ?_) (fun c3 => ?_)
  · skip
    refine lv_aload_n hx hb dM_object_18 rfl (lv_at hl 0 rfl) ?_
    refine va_get (D := (dC, dI)) (ci := 4) (v := .int (nI b.1)) (C := RM) (T := TM) (N := 20) hx hb hts inM hown hK hP 0 rfl rfl 1 (by decide) (hts _ wfM_65) (fun _ h9 => h9) rfl dM_object_19 ?_
    refine lv_bipush (v := nI 60) hx hb dM_object_22 (by decide) ?_
    refine lv_icmp_ne (tgt := 31) hx hb dM_object_24 (by decide) (fun c24 => ?_) (fun c24 => ?_)
    · skip
      have n24 : ¬ b.1 = 60 := fun z9 => c24 ((nI_eq (a := b.1) (b := 60) (by omega) (by omega)).mpr z9)
      refine lv_iconst (v := nI 0) hx hb dM_object_31 (by decide) ?_
      refine va_put (D := (dC, dI)) (ci := 4) (v := .int (nI 0)) (ty := .int) (C := RM) (T := TM) (N := 20) hx hb hts inM tyM tyM_ok nmM hown hK hP hD hS 0 rfl rfl 0 (by decide) (hts _ wfM_62) (fun _ h9 => h9) rfl (by decide +kernel) rfl rfl (Nat.le_of_ble_eq_true rfl) dM_object_32 (fun H locs hP hD hS => ?_)
      have hP : va_P (dC, dI) vwCl (sk_wMR a k (nI 0) (nI b.1) b.2.2.1 b.2.2.2.1 ex.1 (nI t.1) t.2.1 t.2.2.1 t.2.2.2.2 ex.2.1 (nI f.1) f.2.1 f.2.2.1 ex.2.2.1 f.2.2.2.1 f.2.2.2.2.1 ex.2.2.2.1 ex.2.2.2.2.1 ex.2.2.2.2.2 lf) H := hP
      have hD : va_D A (sk_wMR a k (nI 0) (nI b.1) b.2.2.1 b.2.2.2.1 ex.1 (nI t.1) t.2.1 t.2.2.1 t.2.2.2.2 ex.2.1 (nI f.1) f.2.1 f.2.2.1 ex.2.2.1 f.2.2.2.1 f.2.2.2.2.1 ex.2.2.2.1 ex.2.2.2.2.1 ex.2.2.2.2.2 lf) := hD
      refine lv_aload_n hx hb dM_object_35 rfl (lv_at hl 0 rfl) ?_
      refine va_get (D := (dC, dI)) (ci := 4) (v := .int (nI 0)) (C := RM) (T := TM) (N := 20) hx hb hts inM hown hK hP 0 rfl rfl 0 (by decide) (hts _ wfM_62) (fun _ h9 => h9) rfl dM_object_36 ?_
      refine lv_if_le (tgt := 44) hx hb dM_object_39 (by decide) (fun _ => ?_) (fun q => absurd (by decide) q)
      have hv9 : sk_v b.1 x := (sk_canP_iff (by omega)).mp (sk_cP1 c3)
      refine lv_aload_n hx hb dM_object_44 rfl (lv_at hl 0 rfl) ?_
      refine lv_iload_n hx hb dM_object_45 rfl (lv_at hl 1 rfl) ?_
      refine lv_iconst (v := nI 0) hx hb dM_object_46 (by decide) ?_
      refine va_calli (va_runV (As := [.int x, .int (nI 0)]) (rest := []) ⟨hx, hb, hml, hown, hts⟩ (kM_shapeFor l dC dI a k b t f ex lf (nI 0) A x [] hT hN hv9 (by decide) List.Pairwise.nil (fun z hz => by cases hz) (fun j hj => absurd hj (Nat.not_lt_zero j))) (cwV 2 hts (sk_gV wmM_86 wiM_shapeFor wsM_shapeFor wnM wcM_shapeFor) rfl rfl rfl (by decide +kernel) ⟨Nat.le_of_ble_eq_true rfl, Nat.le_of_ble_eq_true rfl⟩) ⟨sk_blindMD _, va_recv hK hP (ci := 4) (q0 := 0) rfl rfl, fun U hU hW => ⟨rfl, sk_atM (S := (b, t, f)) (ex := ex) (lf := lf) (th := nI 0) hP hK hU hW, hD⟩⟩ rfl rfl hl.1 rfl (lv_room (Nat.le_of_ble_eq_true rfl)) dM_object_47 ⟨Nat.le_of_ble_eq_true rfl, Nat.le_of_ble_eq_true rfl⟩) hS (fun _ _ h => h) (fun _ h => h) (fun r47 u47 U9 H locs ht hvm w47 hB hz hk hS => ?_)
      obtain ⟨hP, hD⟩ := hB
      rw [ht] at hP
      rcases w47 with ⟨hg, rfl, rfl⟩ | ⟨t2, g2, na2, hg, rfl, rfl, hN2⟩
      · skip
        have hP : va_P (dC, dI) vwCl (sk_wMR a k (nI 0) (nI b.1) b.2.2.1 b.2.2.2.1 ex.1 (nI t.1) t.2.1 t.2.2.1 t.2.2.2.2 ex.2.1 (nI f.1) f.2.1 f.2.2.1 ex.2.2.1 f.2.2.2.1 f.2.2.2.2.1 ex.2.2.2.1 ex.2.2.2.2.1 ex.2.2.2.2.2 lf) H := hP
        have hD : va_D A (sk_wMR a k (nI 0) (nI b.1) b.2.2.1 b.2.2.2.1 ex.1 (nI t.1) t.2.1 t.2.2.1 t.2.2.2.2 ex.2.1 (nI f.1) f.2.1 f.2.2.1 ex.2.2.1 f.2.2.2.1 f.2.2.2.2.1 ex.2.2.2.1 ex.2.2.2.2.1 ex.2.2.2.2.2 lf) := hD
        refine lv_istore_n (lv' := [(2, .int (-1)), (0, .ref (a 0)), (1, .int x)]) hx hb dM_object_50 rfl hl (by decide) rfl (fun ls hl => ?_)
        refine lv_aload_n hx hb dM_object_51 rfl (lv_at hl 1 rfl) ?_
        refine lv_iload_n hx hb dM_object_52 rfl (lv_at hl 0 rfl) ?_
        refine lv_if_ge (tgt := 60) hx hb dM_object_53 (by decide) (fun q => absurd q (by decide)) (fun _ => ?_)
        refine lv_iconst (v := nI 2) hx hb dM_object_56 (by decide) ?_
        refine lv_goto (tgt := 61) hx hb dM_object_57 (by decide) ?_
        refine va_put (D := (dC, dI)) (ci := 4) (v := .int (nI 2)) (ty := .int) (C := RM) (T := TM) (N := 20) hx hb hts inM tyM tyM_ok nmM hown hK hP hD hS 0 rfl rfl 0 (by decide) (hts _ wfM_62) (fun _ h9 => h9) rfl (by decide +kernel) rfl rfl (Nat.le_of_ble_eq_true rfl) dM_object_61 (fun H locs hP hD hS => ?_)
        have hP : va_P (dC, dI) vwCl (sk_wMR a k (nI 2) (nI b.1) b.2.2.1 b.2.2.2.1 ex.1 (nI t.1) t.2.1 t.2.2.1 t.2.2.2.2 ex.2.1 (nI f.1) f.2.1 f.2.2.1 ex.2.2.1 f.2.2.2.1 f.2.2.2.2.1 ex.2.2.2.1 ex.2.2.2.2.1 ex.2.2.2.2.2 lf) H := hP
        have hD : va_D A (sk_wMR a k (nI 2) (nI b.1) b.2.2.1 b.2.2.2.1 ex.1 (nI t.1) t.2.1 t.2.2.1 t.2.2.2.2 ex.2.1 (nI f.1) f.2.1 f.2.2.1 ex.2.2.1 f.2.2.2.1 f.2.2.2.2.1 ex.2.2.2.1 ex.2.2.2.2.1 ex.2.2.2.2.2 lf) := hD
        refine lv_aload_n hx hb dM_object_64 rfl (lv_at hl 1 rfl) ?_
        refine va_get (D := (dC, dI)) (ci := 4) (v := .int (nI 2)) (C := RM) (T := TM) (N := 20) hx hb hts inM hown hK hP 0 rfl rfl 0 (by decide) (hts _ wfM_62) (fun _ h9 => h9) rfl dM_object_65 ?_
        refine lv_if_le (tgt := 73) hx hb dM_object_68 (by decide) (fun q => absurd q (by decide)) (fun _ => ?_)
        refine lv_iconst (v := nI 0) hx hb dM_object_71 (by decide) ?_
        have hset := sk_object_3 (b := b) (t := t) (f := f) (sk_cP1 c3) (by omega) hg
        exact W.iret (v := nI 0) hx hb hr (fun U9 ht hW => ⟨⟨nI 0, ((b, t, f), ex, lf, nI 2), rfl, ⟨ex, lf, by rw [hset], by rw [hset]; exact hR, fun q => by rw [hset] at q; cases q⟩, sk_endw ht hP hD⟩, hS.F ht⟩) hS.2.2 dM_object_72
      · skip
        have hP : va_P (dC, dI) vwCl (sk_wMR a k (nI 0) (nI b.1) b.2.2.1 b.2.2.2.1 ((ex.1, na2, ex.2.2).1) (nI t2.1) t2.2.1 t2.2.2.1 t2.2.2.2.2 ((ex.1, na2, ex.2.2).2.1) (nI f.1) f.2.1 f.2.2.1 ((ex.1, na2, ex.2.2).2.2.1) f.2.2.2.1 f.2.2.2.2.1 ((ex.1, na2, ex.2.2).2.2.2.1) ((ex.1, na2, ex.2.2).2.2.2.2.1) ((ex.1, na2, ex.2.2).2.2.2.2.2) lf) H := hP
        have hD : va_D A (sk_wMR a k (nI 0) (nI b.1) b.2.2.1 b.2.2.2.1 ((ex.1, na2, ex.2.2).1) (nI t2.1) t2.2.1 t2.2.2.1 t2.2.2.2.2 ((ex.1, na2, ex.2.2).2.1) (nI f.1) f.2.1 f.2.2.1 ((ex.1, na2, ex.2.2).2.2.1) f.2.2.2.1 f.2.2.2.2.1 ((ex.1, na2, ex.2.2).2.2.2.1) ((ex.1, na2, ex.2.2).2.2.2.2.1) ((ex.1, na2, ex.2.2).2.2.2.2.2) lf) := hD
        obtain ⟨q1, q2, q3, q4, q5⟩ := sk_reach_spec hT hv9 List.Pairwise.nil (fun z hz => by cases hz) hg
        have hg200 : t2.1 ≤ 200 := q1.2.1
        refine lv_istore_n (lv' := [(2, .int (nI g2)), (0, .ref (a 0)), (1, .int x)]) hx hb dM_object_50 rfl hl (by decide) rfl (fun ls hl => ?_)
        refine lv_aload_n hx hb dM_object_51 rfl (lv_at hl 1 rfl) ?_
        refine lv_iload_n hx hb dM_object_52 rfl (lv_at hl 0 rfl) ?_
        refine lv_if_ge (tgt := 60) hx hb dM_object_53 (by decide) (fun c53 => ?_) (fun c53 => ?_)
        · skip
          have n53 : 0 ≤ g2 := (nI_leI (a := 0) (b := g2) (by omega) (by omega)).mp c53
          refine lv_iconst (v := nI 0) hx hb dM_object_60 (by decide) ?_
          refine va_put (D := (dC, dI)) (ci := 4) (v := .int (nI 0)) (ty := .int) (C := RM) (T := TM) (N := 20) hx hb hts inM tyM tyM_ok nmM hown hK hP hD hS 0 rfl rfl 0 (by decide) (hts _ wfM_62) (fun _ h9 => h9) rfl (by decide +kernel) rfl rfl (Nat.le_of_ble_eq_true rfl) dM_object_61 (fun H locs hP hD hS => ?_)
          have hP : va_P (dC, dI) vwCl (sk_wMR a k (nI 0) (nI b.1) b.2.2.1 b.2.2.2.1 ((ex.1, na2, ex.2.2).1) (nI t2.1) t2.2.1 t2.2.2.1 t2.2.2.2.2 ((ex.1, na2, ex.2.2).2.1) (nI f.1) f.2.1 f.2.2.1 ((ex.1, na2, ex.2.2).2.2.1) f.2.2.2.1 f.2.2.2.2.1 ((ex.1, na2, ex.2.2).2.2.2.1) ((ex.1, na2, ex.2.2).2.2.2.2.1) ((ex.1, na2, ex.2.2).2.2.2.2.2) lf) H := hP
          have hD : va_D A (sk_wMR a k (nI 0) (nI b.1) b.2.2.1 b.2.2.2.1 ((ex.1, na2, ex.2.2).1) (nI t2.1) t2.2.1 t2.2.2.1 t2.2.2.2.2 ((ex.1, na2, ex.2.2).2.1) (nI f.1) f.2.1 f.2.2.1 ((ex.1, na2, ex.2.2).2.2.1) f.2.2.2.1 f.2.2.2.2.1 ((ex.1, na2, ex.2.2).2.2.2.1) ((ex.1, na2, ex.2.2).2.2.2.2.1) ((ex.1, na2, ex.2.2).2.2.2.2.2) lf) := hD
          refine lv_aload_n hx hb dM_object_64 rfl (lv_at hl 1 rfl) ?_
          refine va_get (D := (dC, dI)) (ci := 4) (v := .int (nI 0)) (C := RM) (T := TM) (N := 20) hx hb hts inM hown hK hP 0 rfl rfl 0 (by decide) (hts _ wfM_62) (fun _ h9 => h9) rfl dM_object_65 ?_
          refine lv_if_le (tgt := 73) hx hb dM_object_68 (by decide) (fun _ => ?_) (fun q => absurd (by decide) q)
          refine lv_aload_n hx hb dM_object_73 rfl (lv_at hl 1 rfl) ?_
          refine va_get (D := (dC, dI)) (ci := 4) (v := .ref (a 1)) (C := RM) (T := TM) (N := 20) hx hb hts inM hown hK hP 0 rfl rfl 2 (by decide) (hts _ wfM_7) (fun _ h9 => h9) rfl dM_object_74 ?_
          refine lv_aload_n hx hb dM_object_77 rfl (lv_at hl 1 rfl) ?_
          refine va_get (D := (dC, dI)) (ci := 4) (v := .int (nI b.1)) (C := RM) (T := TM) (N := 20) hx hb hts inM hown hK hP 0 rfl rfl 1 (by decide) (hts _ wfM_65) (fun _ h9 => h9) rfl dM_object_78 ?_
          refine lv_iload_n hx hb dM_object_81 rfl (lv_at hl 0 rfl) ?_
          refine va_iast hx hb hK hP hD hS 1 0 rfl rfl (vp_in_nI (show b.1 < 60 by omega) (by decide)) dM_object_82 (fun H locs hP hD hS => ?_)
          rw [nI_clamp (show b.1 < 2 ^ 31 by omega)] at hP hD
          have hP : va_P (dC, dI) vwCl (sk_wMR a k (nI 0) (nI b.1) (upd b.2.2.1 b.1 (nI g2)) b.2.2.2.1 ((ex.1, na2, ex.2.2).1) (nI t2.1) t2.2.1 t2.2.2.1 t2.2.2.2.2 ((ex.1, na2, ex.2.2).2.1) (nI f.1) f.2.1 f.2.2.1 ((ex.1, na2, ex.2.2).2.2.1) f.2.2.2.1 f.2.2.2.2.1 ((ex.1, na2, ex.2.2).2.2.2.1) ((ex.1, na2, ex.2.2).2.2.2.2.1) ((ex.1, na2, ex.2.2).2.2.2.2.2) lf) H := hP
          have hD : va_D A (sk_wMR a k (nI 0) (nI b.1) (upd b.2.2.1 b.1 (nI g2)) b.2.2.2.1 ((ex.1, na2, ex.2.2).1) (nI t2.1) t2.2.1 t2.2.2.1 t2.2.2.2.2 ((ex.1, na2, ex.2.2).2.1) (nI f.1) f.2.1 f.2.2.1 ((ex.1, na2, ex.2.2).2.2.1) f.2.2.2.1 f.2.2.2.2.1 ((ex.1, na2, ex.2.2).2.2.2.1) ((ex.1, na2, ex.2.2).2.2.2.2.1) ((ex.1, na2, ex.2.2).2.2.2.2.2) lf) := hD
          refine lv_aload_n hx hb dM_object_83 rfl (lv_at hl 1 rfl) ?_
          refine va_get (D := (dC, dI)) (ci := 4) (v := .ref (a 2)) (C := RM) (T := TM) (N := 20) hx hb hts inM hown hK hP 0 rfl rfl 3 (by decide) (hts _ wfM_13) (fun _ h9 => h9) rfl dM_object_84 ?_
          refine lv_aload_n hx hb dM_object_87 rfl (lv_at hl 1 rfl) ?_
          refine va_get (D := (dC, dI)) (ci := 4) (v := .int (nI b.1)) (C := RM) (T := TM) (N := 20) hx hb hts inM hown hK hP 0 rfl rfl 1 (by decide) (hts _ wfM_65) (fun _ h9 => h9) rfl dM_object_88 ?_
          refine lv_iconst (v := nI 0) hx hb dM_object_91 (by decide) ?_
          refine va_iast hx hb hK hP hD hS 2 0 rfl rfl (vp_in_nI (show b.1 < 60 by omega) (by decide)) dM_object_92 (fun H locs hP hD hS => ?_)
          rw [nI_clamp (show b.1 < 2 ^ 31 by omega)] at hP hD
          have hP : va_P (dC, dI) vwCl (sk_wMR a k (nI 0) (nI b.1) (upd b.2.2.1 b.1 (nI g2)) (upd b.2.2.2.1 b.1 (nI 0)) ((ex.1, na2, ex.2.2).1) (nI t2.1) t2.2.1 t2.2.2.1 t2.2.2.2.2 ((ex.1, na2, ex.2.2).2.1) (nI f.1) f.2.1 f.2.2.1 ((ex.1, na2, ex.2.2).2.2.1) f.2.2.2.1 f.2.2.2.2.1 ((ex.1, na2, ex.2.2).2.2.2.1) ((ex.1, na2, ex.2.2).2.2.2.2.1) ((ex.1, na2, ex.2.2).2.2.2.2.2) lf) H := hP
          have hD : va_D A (sk_wMR a k (nI 0) (nI b.1) (upd b.2.2.1 b.1 (nI g2)) (upd b.2.2.2.1 b.1 (nI 0)) ((ex.1, na2, ex.2.2).1) (nI t2.1) t2.2.1 t2.2.2.1 t2.2.2.2.2 ((ex.1, na2, ex.2.2).2.1) (nI f.1) f.2.1 f.2.2.1 ((ex.1, na2, ex.2.2).2.2.1) f.2.2.2.1 f.2.2.2.2.1 ((ex.1, na2, ex.2.2).2.2.2.1) ((ex.1, na2, ex.2.2).2.2.2.2.1) ((ex.1, na2, ex.2.2).2.2.2.2.2) lf) := hD
          refine lv_aload_n hx hb dM_object_93 rfl (lv_at hl 1 rfl) ?_
          refine lv_dup hx hb dM_object_94 rfl ?_
          refine va_get (D := (dC, dI)) (ci := 4) (v := .int (nI b.1)) (C := RM) (T := TM) (N := 20) hx hb hts inM hown hK hP 0 rfl rfl 1 (by decide) (hts _ wfM_65) (fun _ h9 => h9) rfl dM_object_95 ?_
          refine lv_iconst (v := nI 1) hx hb dM_object_98 (by decide) ?_
          refine lv_iadd hx hb dM_object_99 ?_
          refine lv_topi (fun x99 e99 => ?_)
          obtain rfl : x99 = nI (b.1 + 1) := e99.trans (nI_add _ _)
          refine va_put (D := (dC, dI)) (ci := 4) (v := .int (nI (b.1 + 1))) (ty := .int) (C := RM) (T := TM) (N := 20) hx hb hts inM tyM tyM_ok nmM hown hK hP hD hS 0 rfl rfl 1 (by decide) (hts _ wfM_65) (fun _ h9 => h9) rfl (by decide +kernel) rfl rfl (Nat.le_of_ble_eq_true rfl) dM_object_100 (fun H locs hP hD hS => ?_)
          have hP : va_P (dC, dI) vwCl (sk_wMR a k (nI 0) (nI (b.1 + 1)) (upd b.2.2.1 b.1 (nI g2)) (upd b.2.2.2.1 b.1 (nI 0)) ((ex.1, na2, ex.2.2).1) (nI t2.1) t2.2.1 t2.2.2.1 t2.2.2.2.2 ((ex.1, na2, ex.2.2).2.1) (nI f.1) f.2.1 f.2.2.1 ((ex.1, na2, ex.2.2).2.2.1) f.2.2.2.1 f.2.2.2.2.1 ((ex.1, na2, ex.2.2).2.2.2.1) ((ex.1, na2, ex.2.2).2.2.2.2.1) ((ex.1, na2, ex.2.2).2.2.2.2.2) lf) H := hP
          have hD : va_D A (sk_wMR a k (nI 0) (nI (b.1 + 1)) (upd b.2.2.1 b.1 (nI g2)) (upd b.2.2.2.1 b.1 (nI 0)) ((ex.1, na2, ex.2.2).1) (nI t2.1) t2.2.1 t2.2.2.1 t2.2.2.2.2 ((ex.1, na2, ex.2.2).2.1) (nI f.1) f.2.1 f.2.2.1 ((ex.1, na2, ex.2.2).2.2.1) f.2.2.2.1 f.2.2.2.2.1 ((ex.1, na2, ex.2.2).2.2.2.1) ((ex.1, na2, ex.2.2).2.2.2.2.1) ((ex.1, na2, ex.2.2).2.2.2.2.2) lf) := hD
          refine lv_aload_n hx hb dM_object_103 rfl (lv_at hl 1 rfl) ?_
          refine va_get (D := (dC, dI)) (ci := 4) (v := .int (nI (b.1 + 1))) (C := RM) (T := TM) (N := 20) hx hb hts inM hown hK hP 0 rfl rfl 1 (by decide) (hts _ wfM_65) (fun _ h9 => h9) rfl dM_object_104 ?_
          refine lv_iconst (v := nI 1) hx hb dM_object_107 (by decide) ?_
          refine lv_isub hx hb dM_object_108 ?_
          refine lv_topi (fun x108 e108 => ?_)
          obtain rfl : x108 = nI ((b.1 + 1) - 1) := e108.trans (pk_sub (by omega))
          rw [sk_updsame (v := nI 0) (hch0 b.1 (Nat.le_refl _))] at hP hD
          have hset := sk_object_4 (b := b) (f := f) (sk_cP1 c3) (by omega) hg
          exact W.iret (v := nI ((b.1 + 1) - 1)) hx hb hr (fun U9 ht hW => ⟨⟨nI ((b.1 + 1) - 1), (((b.1 + 1, upd b.2.1 b.1 x, upd b.2.2.1 b.1 (nI g2), b.2.2.2.1, b.2.2.2.2), t2, f), (ex.1, na2, ex.2.2), lf, nI 0), rfl, ⟨_, _, by rw [hset], by rw [hset]; exact sk_RM_object hOK hR q2 q3 q1.2.1 q5 hN2, fun _ => by rw [hset]; rfl⟩, sk_endw ht hP hD⟩, hS.F ht⟩) hS.2.2 dM_object_109
        · skip
          have n53 : ¬ 0 ≤ g2 := fun z9 => c53 ((nI_leI (a := 0) (b := g2) (by omega) (by omega)).mpr z9)
          omega
    · skip
      have n24 : b.1 = 60 := (nI_eq (a := b.1) (b := 60) (by omega) (by omega)).mp c24
      refine lv_iconst (v := nI 2) hx hb dM_object_27 (by decide) ?_
      refine lv_goto (tgt := 32) hx hb dM_object_28 (by decide) ?_
      refine va_put (D := (dC, dI)) (ci := 4) (v := .int (nI 2)) (ty := .int) (C := RM) (T := TM) (N := 20) hx hb hts inM tyM tyM_ok nmM hown hK hP hD hS 0 rfl rfl 0 (by decide) (hts _ wfM_62) (fun _ h9 => h9) rfl (by decide +kernel) rfl rfl (Nat.le_of_ble_eq_true rfl) dM_object_32 (fun H locs hP hD hS => ?_)
      have hP : va_P (dC, dI) vwCl (sk_wMR a k (nI 2) (nI b.1) b.2.2.1 b.2.2.2.1 ex.1 (nI t.1) t.2.1 t.2.2.1 t.2.2.2.2 ex.2.1 (nI f.1) f.2.1 f.2.2.1 ex.2.2.1 f.2.2.2.1 f.2.2.2.2.1 ex.2.2.2.1 ex.2.2.2.2.1 ex.2.2.2.2.2 lf) H := hP
      have hD : va_D A (sk_wMR a k (nI 2) (nI b.1) b.2.2.1 b.2.2.2.1 ex.1 (nI t.1) t.2.1 t.2.2.1 t.2.2.2.2 ex.2.1 (nI f.1) f.2.1 f.2.2.1 ex.2.2.1 f.2.2.2.1 f.2.2.2.2.1 ex.2.2.2.1 ex.2.2.2.2.1 ex.2.2.2.2.2 lf) := hD
      refine lv_aload_n hx hb dM_object_35 rfl (lv_at hl 0 rfl) ?_
      refine va_get (D := (dC, dI)) (ci := 4) (v := .int (nI 2)) (C := RM) (T := TM) (N := 20) hx hb hts inM hown hK hP 0 rfl rfl 0 (by decide) (hts _ wfM_62) (fun _ h9 => h9) rfl dM_object_36 ?_
      refine lv_if_le (tgt := 44) hx hb dM_object_39 (by decide) (fun q => absurd q (by decide)) (fun _ => ?_)
      refine lv_iconst (v := nI 0) hx hb dM_object_42 (by decide) ?_
      have hset := sk_object_2 (b := b) (t := t) (f := f) (sk_cP1 c3) (by omega)
      exact W.iret (v := nI 0) hx hb hr (fun U9 ht hW => ⟨⟨nI 0, ((b, t, f), ex, lf, nI 2), rfl, ⟨ex, lf, by rw [hset], by rw [hset]; exact hR, fun q => by rw [hset] at q; cases q⟩, sk_endw ht hP hD⟩, hS.F ht⟩) hS.2.2 dM_object_43
  · skip
    refine lv_aload_n hx hb dM_object_6 rfl (lv_at hl 0 rfl) ?_
    refine lv_iload_n hx hb dM_object_7 rfl (lv_at hl 1 rfl) ?_
    refine va_calli (va_runV (As := [.int x]) (rest := [.ref (a 0)]) ⟨hx, hb, hml, hown, hts⟩ (kM_isObject l dC dI a k b t f ex lf th x) (cwV 1 hts (sk_gV wmM_82 wiM_isObject wsM_isObject wnM wcM_isObject) rfl rfl rfl (by decide +kernel) ⟨Nat.le_of_ble_eq_true rfl, Nat.le_of_ble_eq_true rfl⟩) ⟨sk_blindM _, va_recv hK hP (ci := 4) (q0 := 0) rfl rfl, fun U hU hW => ⟨rfl, sk_atM (S := (b, t, f)) (ex := ex) (lf := lf) (th := th) hP hK hU hW⟩⟩ rfl rfl hl.1 rfl (lv_room (Nat.le_of_ble_eq_true rfl)) dM_object_8 ⟨Nat.le_of_ble_eq_true rfl, Nat.le_of_ble_eq_true rfl⟩) hS (fun _ _ h => h.elim) (fun _ h => h.elim) (fun r8 u8 U9 H locs ht hvm w8 hB hz hk hS => ?_)
    have hP : va_P (dC, dI) vwCl (sk_wMR a k th (nI b.1) b.2.2.1 b.2.2.2.1 ex.1 (nI t.1) t.2.1 t.2.2.1 t.2.2.2.2 ex.2.1 (nI f.1) f.2.1 f.2.2.1 ex.2.2.1 f.2.2.2.1 f.2.2.2.2.1 ex.2.2.2.1 ex.2.2.2.2.1 ex.2.2.2.2.2 lf) H := hP.kept (fun j q hq => hk q.1 ((hP j q hq).lt) (fun h => h))
    clear hk hB ht
    rcases sk_bI_or (sk_hasB b.1 x) with ⟨h8, hv⟩ | ⟨h8, hv⟩
    · skip
      obtain rfl : r8 = nI 1 := w8.trans hv
      refine lv_if_ne (tgt := 18) hx hb dM_object_11 (by decide) (fun _ => ?_) (fun q => absurd q (by decide))
      refine lv_aload_n hx hb dM_object_18 rfl (lv_at hl 0 rfl) ?_
      refine va_get (D := (dC, dI)) (ci := 4) (v := .int (nI b.1)) (C := RM) (T := TM) (N := 20) hx hb hts inM hown hK hP 0 rfl rfl 1 (by decide) (hts _ wfM_65) (fun _ h9 => h9) rfl dM_object_19 ?_
      refine lv_bipush (v := nI 60) hx hb dM_object_22 (by decide) ?_
      refine lv_icmp_ne (tgt := 31) hx hb dM_object_24 (by decide) (fun c24 => ?_) (fun c24 => ?_)
      · skip
        have n24 : ¬ b.1 = 60 := fun z9 => c24 ((nI_eq (a := b.1) (b := 60) (by omega) (by omega)).mpr z9)
        refine lv_iconst (v := nI 0) hx hb dM_object_31 (by decide) ?_
        refine va_put (D := (dC, dI)) (ci := 4) (v := .int (nI 0)) (ty := .int) (C := RM) (T := TM) (N := 20) hx hb hts inM tyM tyM_ok nmM hown hK hP hD hS 0 rfl rfl 0 (by decide) (hts _ wfM_62) (fun _ h9 => h9) rfl (by decide +kernel) rfl rfl (Nat.le_of_ble_eq_true rfl) dM_object_32 (fun H locs hP hD hS => ?_)
        have hP : va_P (dC, dI) vwCl (sk_wMR a k (nI 0) (nI b.1) b.2.2.1 b.2.2.2.1 ex.1 (nI t.1) t.2.1 t.2.2.1 t.2.2.2.2 ex.2.1 (nI f.1) f.2.1 f.2.2.1 ex.2.2.1 f.2.2.2.1 f.2.2.2.2.1 ex.2.2.2.1 ex.2.2.2.2.1 ex.2.2.2.2.2 lf) H := hP
        have hD : va_D A (sk_wMR a k (nI 0) (nI b.1) b.2.2.1 b.2.2.2.1 ex.1 (nI t.1) t.2.1 t.2.2.1 t.2.2.2.2 ex.2.1 (nI f.1) f.2.1 f.2.2.1 ex.2.2.1 f.2.2.2.1 f.2.2.2.2.1 ex.2.2.2.1 ex.2.2.2.2.1 ex.2.2.2.2.2 lf) := hD
        refine lv_aload_n hx hb dM_object_35 rfl (lv_at hl 0 rfl) ?_
        refine va_get (D := (dC, dI)) (ci := 4) (v := .int (nI 0)) (C := RM) (T := TM) (N := 20) hx hb hts inM hown hK hP 0 rfl rfl 0 (by decide) (hts _ wfM_62) (fun _ h9 => h9) rfl dM_object_36 ?_
        refine lv_if_le (tgt := 44) hx hb dM_object_39 (by decide) (fun _ => ?_) (fun q => absurd (by decide) q)
        have hv9 : sk_v b.1 x := (sk_canP_iff (by omega)).mp (sk_cP2 h8)
        refine lv_aload_n hx hb dM_object_44 rfl (lv_at hl 0 rfl) ?_
        refine lv_iload_n hx hb dM_object_45 rfl (lv_at hl 1 rfl) ?_
        refine lv_iconst (v := nI 0) hx hb dM_object_46 (by decide) ?_
        refine va_calli (va_runV (As := [.int x, .int (nI 0)]) (rest := []) ⟨hx, hb, hml, hown, hts⟩ (kM_shapeFor l dC dI a k b t f ex lf (nI 0) A x [] hT hN hv9 (by decide) List.Pairwise.nil (fun z hz => by cases hz) (fun j hj => absurd hj (Nat.not_lt_zero j))) (cwV 2 hts (sk_gV wmM_86 wiM_shapeFor wsM_shapeFor wnM wcM_shapeFor) rfl rfl rfl (by decide +kernel) ⟨Nat.le_of_ble_eq_true rfl, Nat.le_of_ble_eq_true rfl⟩) ⟨sk_blindMD _, va_recv hK hP (ci := 4) (q0 := 0) rfl rfl, fun U hU hW => ⟨rfl, sk_atM (S := (b, t, f)) (ex := ex) (lf := lf) (th := nI 0) hP hK hU hW, hD⟩⟩ rfl rfl hl.1 rfl (lv_room (Nat.le_of_ble_eq_true rfl)) dM_object_47 ⟨Nat.le_of_ble_eq_true rfl, Nat.le_of_ble_eq_true rfl⟩) hS (fun _ _ h => h) (fun _ h => h) (fun r47 u47 U9 H locs ht hvm w47 hB hz hk hS => ?_)
        obtain ⟨hP, hD⟩ := hB
        rw [ht] at hP
        rcases w47 with ⟨hg, rfl, rfl⟩ | ⟨t2, g2, na2, hg, rfl, rfl, hN2⟩
        · skip
          have hP : va_P (dC, dI) vwCl (sk_wMR a k (nI 0) (nI b.1) b.2.2.1 b.2.2.2.1 ex.1 (nI t.1) t.2.1 t.2.2.1 t.2.2.2.2 ex.2.1 (nI f.1) f.2.1 f.2.2.1 ex.2.2.1 f.2.2.2.1 f.2.2.2.2.1 ex.2.2.2.1 ex.2.2.2.2.1 ex.2.2.2.2.2 lf) H := hP
          have hD : va_D A (sk_wMR a k (nI 0) (nI b.1) b.2.2.1 b.2.2.2.1 ex.1 (nI t.1) t.2.1 t.2.2.1 t.2.2.2.2 ex.2.1 (nI f.1) f.2.1 f.2.2.1 ex.2.2.1 f.2.2.2.1 f.2.2.2.2.1 ex.2.2.2.1 ex.2.2.2.2.1 ex.2.2.2.2.2 lf) := hD
          refine lv_istore_n (lv' := [(2, .int (-1)), (0, .ref (a 0)), (1, .int x)]) hx hb dM_object_50 rfl hl (by decide) rfl (fun ls hl => ?_)
          refine lv_aload_n hx hb dM_object_51 rfl (lv_at hl 1 rfl) ?_
          refine lv_iload_n hx hb dM_object_52 rfl (lv_at hl 0 rfl) ?_
          refine lv_if_ge (tgt := 60) hx hb dM_object_53 (by decide) (fun q => absurd q (by decide)) (fun _ => ?_)
          refine lv_iconst (v := nI 2) hx hb dM_object_56 (by decide) ?_
          refine lv_goto (tgt := 61) hx hb dM_object_57 (by decide) ?_
          refine va_put (D := (dC, dI)) (ci := 4) (v := .int (nI 2)) (ty := .int) (C := RM) (T := TM) (N := 20) hx hb hts inM tyM tyM_ok nmM hown hK hP hD hS 0 rfl rfl 0 (by decide) (hts _ wfM_62) (fun _ h9 => h9) rfl (by decide +kernel) rfl rfl (Nat.le_of_ble_eq_true rfl) dM_object_61 (fun H locs hP hD hS => ?_)
          have hP : va_P (dC, dI) vwCl (sk_wMR a k (nI 2) (nI b.1) b.2.2.1 b.2.2.2.1 ex.1 (nI t.1) t.2.1 t.2.2.1 t.2.2.2.2 ex.2.1 (nI f.1) f.2.1 f.2.2.1 ex.2.2.1 f.2.2.2.1 f.2.2.2.2.1 ex.2.2.2.1 ex.2.2.2.2.1 ex.2.2.2.2.2 lf) H := hP
          have hD : va_D A (sk_wMR a k (nI 2) (nI b.1) b.2.2.1 b.2.2.2.1 ex.1 (nI t.1) t.2.1 t.2.2.1 t.2.2.2.2 ex.2.1 (nI f.1) f.2.1 f.2.2.1 ex.2.2.1 f.2.2.2.1 f.2.2.2.2.1 ex.2.2.2.1 ex.2.2.2.2.1 ex.2.2.2.2.2 lf) := hD
          refine lv_aload_n hx hb dM_object_64 rfl (lv_at hl 1 rfl) ?_
          refine va_get (D := (dC, dI)) (ci := 4) (v := .int (nI 2)) (C := RM) (T := TM) (N := 20) hx hb hts inM hown hK hP 0 rfl rfl 0 (by decide) (hts _ wfM_62) (fun _ h9 => h9) rfl dM_object_65 ?_
          refine lv_if_le (tgt := 73) hx hb dM_object_68 (by decide) (fun q => absurd q (by decide)) (fun _ => ?_)
          refine lv_iconst (v := nI 0) hx hb dM_object_71 (by decide) ?_
          have hset := sk_object_3 (b := b) (t := t) (f := f) (sk_cP2 h8) (by omega) hg
          exact W.iret (v := nI 0) hx hb hr (fun U9 ht hW => ⟨⟨nI 0, ((b, t, f), ex, lf, nI 2), rfl, ⟨ex, lf, by rw [hset], by rw [hset]; exact hR, fun q => by rw [hset] at q; cases q⟩, sk_endw ht hP hD⟩, hS.F ht⟩) hS.2.2 dM_object_72
        · skip
          have hP : va_P (dC, dI) vwCl (sk_wMR a k (nI 0) (nI b.1) b.2.2.1 b.2.2.2.1 ((ex.1, na2, ex.2.2).1) (nI t2.1) t2.2.1 t2.2.2.1 t2.2.2.2.2 ((ex.1, na2, ex.2.2).2.1) (nI f.1) f.2.1 f.2.2.1 ((ex.1, na2, ex.2.2).2.2.1) f.2.2.2.1 f.2.2.2.2.1 ((ex.1, na2, ex.2.2).2.2.2.1) ((ex.1, na2, ex.2.2).2.2.2.2.1) ((ex.1, na2, ex.2.2).2.2.2.2.2) lf) H := hP
          have hD : va_D A (sk_wMR a k (nI 0) (nI b.1) b.2.2.1 b.2.2.2.1 ((ex.1, na2, ex.2.2).1) (nI t2.1) t2.2.1 t2.2.2.1 t2.2.2.2.2 ((ex.1, na2, ex.2.2).2.1) (nI f.1) f.2.1 f.2.2.1 ((ex.1, na2, ex.2.2).2.2.1) f.2.2.2.1 f.2.2.2.2.1 ((ex.1, na2, ex.2.2).2.2.2.1) ((ex.1, na2, ex.2.2).2.2.2.2.1) ((ex.1, na2, ex.2.2).2.2.2.2.2) lf) := hD
          obtain ⟨q1, q2, q3, q4, q5⟩ := sk_reach_spec hT hv9 List.Pairwise.nil (fun z hz => by cases hz) hg
          have hg200 : t2.1 ≤ 200 := q1.2.1
          refine lv_istore_n (lv' := [(2, .int (nI g2)), (0, .ref (a 0)), (1, .int x)]) hx hb dM_object_50 rfl hl (by decide) rfl (fun ls hl => ?_)
          refine lv_aload_n hx hb dM_object_51 rfl (lv_at hl 1 rfl) ?_
          refine lv_iload_n hx hb dM_object_52 rfl (lv_at hl 0 rfl) ?_
          refine lv_if_ge (tgt := 60) hx hb dM_object_53 (by decide) (fun c53 => ?_) (fun c53 => ?_)
          · skip
            have n53 : 0 ≤ g2 := (nI_leI (a := 0) (b := g2) (by omega) (by omega)).mp c53
            refine lv_iconst (v := nI 0) hx hb dM_object_60 (by decide) ?_
            refine va_put (D := (dC, dI)) (ci := 4) (v := .int (nI 0)) (ty := .int) (C := RM) (T := TM) (N := 20) hx hb hts inM tyM tyM_ok nmM hown hK hP hD hS 0 rfl rfl 0 (by decide) (hts _ wfM_62) (fun _ h9 => h9) rfl (by decide +kernel) rfl rfl (Nat.le_of_ble_eq_true rfl) dM_object_61 (fun H locs hP hD hS => ?_)
            have hP : va_P (dC, dI) vwCl (sk_wMR a k (nI 0) (nI b.1) b.2.2.1 b.2.2.2.1 ((ex.1, na2, ex.2.2).1) (nI t2.1) t2.2.1 t2.2.2.1 t2.2.2.2.2 ((ex.1, na2, ex.2.2).2.1) (nI f.1) f.2.1 f.2.2.1 ((ex.1, na2, ex.2.2).2.2.1) f.2.2.2.1 f.2.2.2.2.1 ((ex.1, na2, ex.2.2).2.2.2.1) ((ex.1, na2, ex.2.2).2.2.2.2.1) ((ex.1, na2, ex.2.2).2.2.2.2.2) lf) H := hP
            have hD : va_D A (sk_wMR a k (nI 0) (nI b.1) b.2.2.1 b.2.2.2.1 ((ex.1, na2, ex.2.2).1) (nI t2.1) t2.2.1 t2.2.2.1 t2.2.2.2.2 ((ex.1, na2, ex.2.2).2.1) (nI f.1) f.2.1 f.2.2.1 ((ex.1, na2, ex.2.2).2.2.1) f.2.2.2.1 f.2.2.2.2.1 ((ex.1, na2, ex.2.2).2.2.2.1) ((ex.1, na2, ex.2.2).2.2.2.2.1) ((ex.1, na2, ex.2.2).2.2.2.2.2) lf) := hD
            refine lv_aload_n hx hb dM_object_64 rfl (lv_at hl 1 rfl) ?_
            refine va_get (D := (dC, dI)) (ci := 4) (v := .int (nI 0)) (C := RM) (T := TM) (N := 20) hx hb hts inM hown hK hP 0 rfl rfl 0 (by decide) (hts _ wfM_62) (fun _ h9 => h9) rfl dM_object_65 ?_
            refine lv_if_le (tgt := 73) hx hb dM_object_68 (by decide) (fun _ => ?_) (fun q => absurd (by decide) q)
            refine lv_aload_n hx hb dM_object_73 rfl (lv_at hl 1 rfl) ?_
            refine va_get (D := (dC, dI)) (ci := 4) (v := .ref (a 1)) (C := RM) (T := TM) (N := 20) hx hb hts inM hown hK hP 0 rfl rfl 2 (by decide) (hts _ wfM_7) (fun _ h9 => h9) rfl dM_object_74 ?_
            refine lv_aload_n hx hb dM_object_77 rfl (lv_at hl 1 rfl) ?_
            refine va_get (D := (dC, dI)) (ci := 4) (v := .int (nI b.1)) (C := RM) (T := TM) (N := 20) hx hb hts inM hown hK hP 0 rfl rfl 1 (by decide) (hts _ wfM_65) (fun _ h9 => h9) rfl dM_object_78 ?_
            refine lv_iload_n hx hb dM_object_81 rfl (lv_at hl 0 rfl) ?_
            refine va_iast hx hb hK hP hD hS 1 0 rfl rfl (vp_in_nI (show b.1 < 60 by omega) (by decide)) dM_object_82 (fun H locs hP hD hS => ?_)
            rw [nI_clamp (show b.1 < 2 ^ 31 by omega)] at hP hD
            have hP : va_P (dC, dI) vwCl (sk_wMR a k (nI 0) (nI b.1) (upd b.2.2.1 b.1 (nI g2)) b.2.2.2.1 ((ex.1, na2, ex.2.2).1) (nI t2.1) t2.2.1 t2.2.2.1 t2.2.2.2.2 ((ex.1, na2, ex.2.2).2.1) (nI f.1) f.2.1 f.2.2.1 ((ex.1, na2, ex.2.2).2.2.1) f.2.2.2.1 f.2.2.2.2.1 ((ex.1, na2, ex.2.2).2.2.2.1) ((ex.1, na2, ex.2.2).2.2.2.2.1) ((ex.1, na2, ex.2.2).2.2.2.2.2) lf) H := hP
            have hD : va_D A (sk_wMR a k (nI 0) (nI b.1) (upd b.2.2.1 b.1 (nI g2)) b.2.2.2.1 ((ex.1, na2, ex.2.2).1) (nI t2.1) t2.2.1 t2.2.2.1 t2.2.2.2.2 ((ex.1, na2, ex.2.2).2.1) (nI f.1) f.2.1 f.2.2.1 ((ex.1, na2, ex.2.2).2.2.1) f.2.2.2.1 f.2.2.2.2.1 ((ex.1, na2, ex.2.2).2.2.2.1) ((ex.1, na2, ex.2.2).2.2.2.2.1) ((ex.1, na2, ex.2.2).2.2.2.2.2) lf) := hD
            refine lv_aload_n hx hb dM_object_83 rfl (lv_at hl 1 rfl) ?_
            refine va_get (D := (dC, dI)) (ci := 4) (v := .ref (a 2)) (C := RM) (T := TM) (N := 20) hx hb hts inM hown hK hP 0 rfl rfl 3 (by decide) (hts _ wfM_13) (fun _ h9 => h9) rfl dM_object_84 ?_
            refine lv_aload_n hx hb dM_object_87 rfl (lv_at hl 1 rfl) ?_
            refine va_get (D := (dC, dI)) (ci := 4) (v := .int (nI b.1)) (C := RM) (T := TM) (N := 20) hx hb hts inM hown hK hP 0 rfl rfl 1 (by decide) (hts _ wfM_65) (fun _ h9 => h9) rfl dM_object_88 ?_
            refine lv_iconst (v := nI 0) hx hb dM_object_91 (by decide) ?_
            refine va_iast hx hb hK hP hD hS 2 0 rfl rfl (vp_in_nI (show b.1 < 60 by omega) (by decide)) dM_object_92 (fun H locs hP hD hS => ?_)
            rw [nI_clamp (show b.1 < 2 ^ 31 by omega)] at hP hD
            have hP : va_P (dC, dI) vwCl (sk_wMR a k (nI 0) (nI b.1) (upd b.2.2.1 b.1 (nI g2)) (upd b.2.2.2.1 b.1 (nI 0)) ((ex.1, na2, ex.2.2).1) (nI t2.1) t2.2.1 t2.2.2.1 t2.2.2.2.2 ((ex.1, na2, ex.2.2).2.1) (nI f.1) f.2.1 f.2.2.1 ((ex.1, na2, ex.2.2).2.2.1) f.2.2.2.1 f.2.2.2.2.1 ((ex.1, na2, ex.2.2).2.2.2.1) ((ex.1, na2, ex.2.2).2.2.2.2.1) ((ex.1, na2, ex.2.2).2.2.2.2.2) lf) H := hP
            have hD : va_D A (sk_wMR a k (nI 0) (nI b.1) (upd b.2.2.1 b.1 (nI g2)) (upd b.2.2.2.1 b.1 (nI 0)) ((ex.1, na2, ex.2.2).1) (nI t2.1) t2.2.1 t2.2.2.1 t2.2.2.2.2 ((ex.1, na2, ex.2.2).2.1) (nI f.1) f.2.1 f.2.2.1 ((ex.1, na2, ex.2.2).2.2.1) f.2.2.2.1 f.2.2.2.2.1 ((ex.1, na2, ex.2.2).2.2.2.1) ((ex.1, na2, ex.2.2).2.2.2.2.1) ((ex.1, na2, ex.2.2).2.2.2.2.2) lf) := hD
            refine lv_aload_n hx hb dM_object_93 rfl (lv_at hl 1 rfl) ?_
            refine lv_dup hx hb dM_object_94 rfl ?_
            refine va_get (D := (dC, dI)) (ci := 4) (v := .int (nI b.1)) (C := RM) (T := TM) (N := 20) hx hb hts inM hown hK hP 0 rfl rfl 1 (by decide) (hts _ wfM_65) (fun _ h9 => h9) rfl dM_object_95 ?_
            refine lv_iconst (v := nI 1) hx hb dM_object_98 (by decide) ?_
            refine lv_iadd hx hb dM_object_99 ?_
            refine lv_topi (fun x99 e99 => ?_)
            obtain rfl : x99 = nI (b.1 + 1) := e99.trans (nI_add _ _)
            refine va_put (D := (dC, dI)) (ci := 4) (v := .int (nI (b.1 + 1))) (ty := .int) (C := RM) (T := TM) (N := 20) hx hb hts inM tyM tyM_ok nmM hown hK hP hD hS 0 rfl rfl 1 (by decide) (hts _ wfM_65) (fun _ h9 => h9) rfl (by decide +kernel) rfl rfl (Nat.le_of_ble_eq_true rfl) dM_object_100 (fun H locs hP hD hS => ?_)
            have hP : va_P (dC, dI) vwCl (sk_wMR a k (nI 0) (nI (b.1 + 1)) (upd b.2.2.1 b.1 (nI g2)) (upd b.2.2.2.1 b.1 (nI 0)) ((ex.1, na2, ex.2.2).1) (nI t2.1) t2.2.1 t2.2.2.1 t2.2.2.2.2 ((ex.1, na2, ex.2.2).2.1) (nI f.1) f.2.1 f.2.2.1 ((ex.1, na2, ex.2.2).2.2.1) f.2.2.2.1 f.2.2.2.2.1 ((ex.1, na2, ex.2.2).2.2.2.1) ((ex.1, na2, ex.2.2).2.2.2.2.1) ((ex.1, na2, ex.2.2).2.2.2.2.2) lf) H := hP
            have hD : va_D A (sk_wMR a k (nI 0) (nI (b.1 + 1)) (upd b.2.2.1 b.1 (nI g2)) (upd b.2.2.2.1 b.1 (nI 0)) ((ex.1, na2, ex.2.2).1) (nI t2.1) t2.2.1 t2.2.2.1 t2.2.2.2.2 ((ex.1, na2, ex.2.2).2.1) (nI f.1) f.2.1 f.2.2.1 ((ex.1, na2, ex.2.2).2.2.1) f.2.2.2.1 f.2.2.2.2.1 ((ex.1, na2, ex.2.2).2.2.2.1) ((ex.1, na2, ex.2.2).2.2.2.2.1) ((ex.1, na2, ex.2.2).2.2.2.2.2) lf) := hD
            refine lv_aload_n hx hb dM_object_103 rfl (lv_at hl 1 rfl) ?_
            refine va_get (D := (dC, dI)) (ci := 4) (v := .int (nI (b.1 + 1))) (C := RM) (T := TM) (N := 20) hx hb hts inM hown hK hP 0 rfl rfl 1 (by decide) (hts _ wfM_65) (fun _ h9 => h9) rfl dM_object_104 ?_
            refine lv_iconst (v := nI 1) hx hb dM_object_107 (by decide) ?_
            refine lv_isub hx hb dM_object_108 ?_
            refine lv_topi (fun x108 e108 => ?_)
            obtain rfl : x108 = nI ((b.1 + 1) - 1) := e108.trans (pk_sub (by omega))
            rw [sk_updsame (v := nI 0) (hch0 b.1 (Nat.le_refl _))] at hP hD
            have hset := sk_object_4 (b := b) (f := f) (sk_cP2 h8) (by omega) hg
            exact W.iret (v := nI ((b.1 + 1) - 1)) hx hb hr (fun U9 ht hW => ⟨⟨nI ((b.1 + 1) - 1), (((b.1 + 1, upd b.2.1 b.1 x, upd b.2.2.1 b.1 (nI g2), b.2.2.2.1, b.2.2.2.2), t2, f), (ex.1, na2, ex.2.2), lf, nI 0), rfl, ⟨_, _, by rw [hset], by rw [hset]; exact sk_RM_object hOK hR q2 q3 q1.2.1 q5 hN2, fun _ => by rw [hset]; rfl⟩, sk_endw ht hP hD⟩, hS.F ht⟩) hS.2.2 dM_object_109
          · skip
            have n53 : ¬ 0 ≤ g2 := fun z9 => c53 ((nI_leI (a := 0) (b := g2) (by omega) (by omega)).mpr z9)
            omega
      · skip
        have n24 : b.1 = 60 := (nI_eq (a := b.1) (b := 60) (by omega) (by omega)).mp c24
        refine lv_iconst (v := nI 2) hx hb dM_object_27 (by decide) ?_
        refine lv_goto (tgt := 32) hx hb dM_object_28 (by decide) ?_
        refine va_put (D := (dC, dI)) (ci := 4) (v := .int (nI 2)) (ty := .int) (C := RM) (T := TM) (N := 20) hx hb hts inM tyM tyM_ok nmM hown hK hP hD hS 0 rfl rfl 0 (by decide) (hts _ wfM_62) (fun _ h9 => h9) rfl (by decide +kernel) rfl rfl (Nat.le_of_ble_eq_true rfl) dM_object_32 (fun H locs hP hD hS => ?_)
        have hP : va_P (dC, dI) vwCl (sk_wMR a k (nI 2) (nI b.1) b.2.2.1 b.2.2.2.1 ex.1 (nI t.1) t.2.1 t.2.2.1 t.2.2.2.2 ex.2.1 (nI f.1) f.2.1 f.2.2.1 ex.2.2.1 f.2.2.2.1 f.2.2.2.2.1 ex.2.2.2.1 ex.2.2.2.2.1 ex.2.2.2.2.2 lf) H := hP
        have hD : va_D A (sk_wMR a k (nI 2) (nI b.1) b.2.2.1 b.2.2.2.1 ex.1 (nI t.1) t.2.1 t.2.2.1 t.2.2.2.2 ex.2.1 (nI f.1) f.2.1 f.2.2.1 ex.2.2.1 f.2.2.2.1 f.2.2.2.2.1 ex.2.2.2.1 ex.2.2.2.2.1 ex.2.2.2.2.2 lf) := hD
        refine lv_aload_n hx hb dM_object_35 rfl (lv_at hl 0 rfl) ?_
        refine va_get (D := (dC, dI)) (ci := 4) (v := .int (nI 2)) (C := RM) (T := TM) (N := 20) hx hb hts inM hown hK hP 0 rfl rfl 0 (by decide) (hts _ wfM_62) (fun _ h9 => h9) rfl dM_object_36 ?_
        refine lv_if_le (tgt := 44) hx hb dM_object_39 (by decide) (fun q => absurd q (by decide)) (fun _ => ?_)
        refine lv_iconst (v := nI 0) hx hb dM_object_42 (by decide) ?_
        have hset := sk_object_2 (b := b) (t := t) (f := f) (sk_cP2 h8) (by omega)
        exact W.iret (v := nI 0) hx hb hr (fun U9 ht hW => ⟨⟨nI 0, ((b, t, f), ex, lf, nI 2), rfl, ⟨ex, lf, by rw [hset], by rw [hset]; exact hR, fun q => by rw [hset] at q; cases q⟩, sk_endw ht hP hD⟩, hS.F ht⟩) hS.2.2 dM_object_43
    · skip
      obtain rfl : r8 = nI 0 := w8.trans hv
      refine lv_if_ne (tgt := 18) hx hb dM_object_11 (by decide) (fun q => absurd q (by decide)) (fun _ => ?_)
      refine lv_iconst (v := nI 1) hx hb dM_object_14 (by decide) ?_
      refine lv_goto (tgt := 32) hx hb dM_object_15 (by decide) ?_
      refine va_put (D := (dC, dI)) (ci := 4) (v := .int (nI 1)) (ty := .int) (C := RM) (T := TM) (N := 20) hx hb hts inM tyM tyM_ok nmM hown hK hP hD hS 0 rfl rfl 0 (by decide) (hts _ wfM_62) (fun _ h9 => h9) rfl (by decide +kernel) rfl rfl (Nat.le_of_ble_eq_true rfl) dM_object_32 (fun H locs hP hD hS => ?_)
      have hP : va_P (dC, dI) vwCl (sk_wMR a k (nI 1) (nI b.1) b.2.2.1 b.2.2.2.1 ex.1 (nI t.1) t.2.1 t.2.2.1 t.2.2.2.2 ex.2.1 (nI f.1) f.2.1 f.2.2.1 ex.2.2.1 f.2.2.2.1 f.2.2.2.2.1 ex.2.2.2.1 ex.2.2.2.2.1 ex.2.2.2.2.2 lf) H := hP
      have hD : va_D A (sk_wMR a k (nI 1) (nI b.1) b.2.2.1 b.2.2.2.1 ex.1 (nI t.1) t.2.1 t.2.2.1 t.2.2.2.2 ex.2.1 (nI f.1) f.2.1 f.2.2.1 ex.2.2.1 f.2.2.2.1 f.2.2.2.2.1 ex.2.2.2.1 ex.2.2.2.2.1 ex.2.2.2.2.2 lf) := hD
      refine lv_aload_n hx hb dM_object_35 rfl (lv_at hl 0 rfl) ?_
      refine va_get (D := (dC, dI)) (ci := 4) (v := .int (nI 1)) (C := RM) (T := TM) (N := 20) hx hb hts inM hown hK hP 0 rfl rfl 0 (by decide) (hts _ wfM_62) (fun _ h9 => h9) rfl dM_object_36 ?_
      refine lv_if_le (tgt := 44) hx hb dM_object_39 (by decide) (fun q => absurd q (by decide)) (fun _ => ?_)
      refine lv_iconst (v := nI 0) hx hb dM_object_42 (by decide) ?_
      have hset := sk_object_1 (b := b) (t := t) (f := f) (sk_cPf c3 h8)
      exact W.iret (v := nI 0) hx hb hr (fun U9 ht hW => ⟨⟨nI 0, ((b, t, f), ex, lf, nI 1), rfl, ⟨ex, lf, by rw [hset], by rw [hset]; exact hR, fun q => by rw [hset] at q; cases q⟩, sk_endw ht hP hD⟩, hS.F ht⟩) hS.2.2 dM_object_43
abbrev wzM_set : List Cond := .code yM_set cM_set 7 (some .boolean) :: sk_W
abbrev rzM_set : Room := { frames := 1, cells := 0, slots := 0, locals := 24 }
set_option maxHeartbeats 4000000 in
set_option maxRecDepth 100000 in
theorem kM_set (l : Launch) (dC : Nat → ClassId) (dI : Nat → Nat → Nat) (a : Nat → Nat) (k : Nat → ClassId) (b : sk_Ob) (t : sk_Tr) (f : sk_Fi) (ex : sk_Ex) (lf : sk_F) (th : Int32) (A : Nat → Prop) (x y v : Int32) (K : Nat) (hOK : sk_OK K (b, t, f)) (hR : sk_RM (b, t, f) ex) (hK1 : K + 1 ≤ 512) : Met l yM_set wzM_set rzM_set (va_Pc [.ref (a 0), .int x, .int y, .int v] (fun U => sk_PM dC dI a k (b, t, f) ex lf th U ∧ va_D A (sk_wM a k (b, t, f) ex lf th))) (va_Qi (fun r (u : sk_S × sk_Ex × sk_F × Int32) => r = sk_bI (sk_set (b, t, f) x y v).1 ∧ ∃ ex2 lf2 th2, u = ((sk_set (b, t, f) x y v).2, ex2, lf2, th2) ∧ sk_RM (sk_set (b, t, f) x y v).2 ex2) (fun u U => va_P (dC, dI) vwCl (sk_wM a k u.1 u.2.1 u.2.2.1 u.2.2.2) U.heap ∧ va_D A (sk_wM a k u.1 u.2.1 u.2.2.1 u.2.2.2)) A) 0 0 A := by
  refine Met.ofW (cc := cM_set) (maxL := 7) (ret := (some .boolean)) (by decide) rfl ?_
  intro p e s m args below meth c s₁ B hml hv
  obtain ⟨rfl, ⟨hP, hK⟩, hD⟩ := hv
  have hx := B.exec
  have hb := B.bytes
  have hr := B.returns
  have hts : ∀ w ∈ sk_W, w.before ([.ref (a 0), .int x, .int y, .int v] : List Value).toArray s = true := fun w h => atoms_spec (ws := wzM_set) B.pre w (List.mem_cons_of_mem _ h)
  have hown : s.vm.findClass RM = some m.cls := findClass_of_methodNamed B.named
  have hlocks := B.notSynchronized
  have hS : va_S A s.heap s.heap [] := va_S.rf
  have hP : va_P (dC, dI) vwCl (sk_wMR a k th (nI b.1) b.2.2.1 b.2.2.2.1 ex.1 (nI t.1) t.2.1 t.2.2.1 t.2.2.2.2 ex.2.1 (nI f.1) f.2.1 f.2.2.1 ex.2.2.1 f.2.2.2.1 f.2.2.2.2.1 ex.2.2.2.1 ex.2.2.2.2.1 ex.2.2.2.2.2 lf) s.heap := hP
  have hD : va_D A (sk_wMR a k th (nI b.1) b.2.2.1 b.2.2.2.1 ex.1 (nI t.1) t.2.1 t.2.2.1 t.2.2.2.2 ex.2.1 (nI f.1) f.2.1 f.2.2.1 ex.2.2.1 f.2.2.2.1 f.2.2.2.2.1 ex.2.2.2.1 ex.2.2.2.2.1 ex.2.2.2.2.2 lf) := hD
  have hl := lv_entry ([.ref (a 0), .int x, .int y, .int v]) (n := 7) (Nat.le_of_ble_eq_true rfl)
  rw [lg_entry_eq]
  generalize (lg_sl ([.ref (a 0), .int x, .int y, .int v]) ++ List.replicate (7 - (lg_sl ([.ref (a 0), .int x, .int y, .int v])).length) Slot.unset).toArray = ls at hl ⊢
  have hl : lv_has ls 7 [(0, .ref (a 0)), (1, .int x), (2, .int y), (3, .int v)] := hl
  have hT : sk_TO b.1 t := hOK.1
  have hA : sk_AC b.1 b.2.1 := hOK.2.1
  have hO : sk_OO b t := hOK.2.2.1
  have hch0 : ∀ o, b.1 ≤ o → b.2.2.2.1 o = 0 := hOK.2.2.2.2.1
  have hmk : f.1 ≤ K := hOK.2.2.2.2.2.2.1
  have hK5 : K ≤ 512 := hOK.2.2.2.2.2.1
  have h200 : t.1 ≤ 200 := hT.2.1
  have h60 : b.1 ≤ 60 := hT.2.2.1
  have h100 : sk_there f ≤ 100 := Nat.min_le_right _ _
  have hN : sk_RN t ex.2.1 := hR.1
  have hV : sk_RV b t ex.1 := hR.2.1
  have hF : ∀ i, i < sk_there f → sk_RF b f ex i := hR.2.2
  have hFO : ∀ i, i < sk_there f → sk_FO b t f i := hOK.2.2.2.2.2.2.2
  refine lv_aload_n hx hb dM_set_0 rfl (lv_at hl 0 rfl) ?_
  refine lv_iconst (v := nI 0) hx hb dM_set_1 (by decide) ?_
  refine va_put (D := (dC, dI)) (ci := 4) (v := .int (nI 0)) (ty := .int) (C := RM) (T := TM) (N := 20) hx hb hts inM tyM tyM_ok nmM hown hK hP hD hS 0 rfl rfl 0 (by decide) (hts _ wfM_62) (fun _ h9 => h9) rfl (by decide +kernel) rfl rfl (Nat.le_of_ble_eq_true rfl) dM_set_2 (fun H locs hP hD hS => ?_)
  have hP : va_P (dC, dI) vwCl (sk_wMR a k (nI 0) (nI b.1) b.2.2.1 b.2.2.2.1 ex.1 (nI t.1) t.2.1 t.2.2.1 t.2.2.2.2 ex.2.1 (nI f.1) f.2.1 f.2.2.1 ex.2.2.1 f.2.2.2.1 f.2.2.2.2.1 ex.2.2.2.1 ex.2.2.2.2.1 ex.2.2.2.2.2 lf) H := hP
  have hD : va_D A (sk_wMR a k (nI 0) (nI b.1) b.2.2.1 b.2.2.2.1 ex.1 (nI t.1) t.2.1 t.2.2.1 t.2.2.2.2 ex.2.1 (nI f.1) f.2.1 f.2.2.1 ex.2.2.1 f.2.2.2.1 f.2.2.2.2.1 ex.2.2.2.1 ex.2.2.2.2.1 ex.2.2.2.2.2 lf) := hD
  refine lv_aload_n hx hb dM_set_5 rfl (lv_at hl 0 rfl) ?_
  refine lv_iload_n hx hb dM_set_6 rfl (lv_at hl 1 rfl) ?_
  refine va_calli (va_runV (As := [.int x]) (rest := []) ⟨hx, hb, hml, hown, hts⟩ (kM_isObject l dC dI a k b t f ex lf (nI 0) x) (cwV 1 hts (sk_gV wmM_82 wiM_isObject wsM_isObject wnM wcM_isObject) rfl rfl rfl (by decide +kernel) ⟨Nat.le_of_ble_eq_true rfl, Nat.le_of_ble_eq_true rfl⟩) ⟨sk_blindM _, va_recv hK hP (ci := 4) (q0 := 0) rfl rfl, fun U hU hW => ⟨rfl, sk_atM (S := (b, t, f)) (ex := ex) (lf := lf) (th := nI 0) hP hK hU hW⟩⟩ rfl rfl hl.1 rfl (lv_room (Nat.le_of_ble_eq_true rfl)) dM_set_7 ⟨Nat.le_of_ble_eq_true rfl, Nat.le_of_ble_eq_true rfl⟩) hS (fun _ _ h => h.elim) (fun _ h => h.elim) (fun r7 u7 U9 H locs ht hvm w7 hB hz hk hS => ?_)
  have hP : va_P (dC, dI) vwCl (sk_wMR a k (nI 0) (nI b.1) b.2.2.1 b.2.2.2.1 ex.1 (nI t.1) t.2.1 t.2.2.1 t.2.2.2.2 ex.2.1 (nI f.1) f.2.1 f.2.2.1 ex.2.2.1 f.2.2.2.1 f.2.2.2.2.1 ex.2.2.2.1 ex.2.2.2.2.1 ex.2.2.2.2.2 lf) H := hP.kept (fun j q hq => hk q.1 ((hP j q hq).lt) (fun h => h))
  clear hk hB ht
  rcases sk_bI_or (sk_hasB b.1 x) with ⟨h7, hv⟩ | ⟨h7, hv⟩
  · skip
    obtain rfl : r7 = nI 1 := w7.trans hv
    obtain ⟨o, ho, eo9⟩ := (sk_hasB_iff (by omega)).mp h7
    subst eo9
    obtain ⟨hs1, hs2, hs3⟩ := sk_shOk h200 hO ho
    refine lv_if_eq (tgt := 20) hx hb dM_set_10 (by decide) (fun q => absurd q (by decide)) (fun _ => ?_)
    refine lv_iload_n hx hb dM_set_13 rfl (lv_at hl 2 rfl) ?_
    refine va_calli (va_runS (As := [.int y]) (rest := []) ⟨hx, hb, hml, hown, hts⟩ (kM_isName l dC dI a k b t f ex lf (nI 0) y) (cwS 1 hts (sk_gS wmM_89 wiM_isName wnM wcM_isName) rfl rfl rfl (by decide +kernel) ⟨Nat.le_of_ble_eq_true rfl, Nat.le_of_ble_eq_true rfl⟩) ⟨sk_blindM _, fun U hU hW => ⟨rfl, sk_atM (S := (b, t, f)) (ex := ex) (lf := lf) (th := nI 0) hP hK hU hW⟩⟩ rfl rfl hl.1 rfl (lv_room (Nat.le_of_ble_eq_true rfl)) dM_set_14 ⟨Nat.le_of_ble_eq_true rfl, Nat.le_of_ble_eq_true rfl⟩) hS (fun _ _ h => h.elim) (fun _ h => h.elim) (fun r14 u14 U9 H locs ht hvm w14 hB hz hk hS => ?_)
    have hP : va_P (dC, dI) vwCl (sk_wMR a k (nI 0) (nI b.1) b.2.2.1 b.2.2.2.1 ex.1 (nI t.1) t.2.1 t.2.2.1 t.2.2.2.2 ex.2.1 (nI f.1) f.2.1 f.2.2.1 ex.2.2.1 f.2.2.2.1 f.2.2.2.2.1 ex.2.2.2.1 ex.2.2.2.2.1 ex.2.2.2.2.2 lf) H := hP.kept (fun j q hq => hk q.1 ((hP j q hq).lt) (fun h => h))
    clear hk hB ht
    rcases sk_bI_or (sk_isN y) with ⟨h14, hv⟩ | ⟨h14, hv⟩
    · skip
      obtain rfl : r14 = nI 1 := w14.trans hv
      refine lv_if_ne (tgt := 22) hx hb dM_set_17 (by decide) (fun _ => ?_) (fun q => absurd q (by decide))
      refine lv_aload_n hx hb dM_set_22 rfl (lv_at hl 0 rfl) ?_
      refine va_get (D := (dC, dI)) (ci := 4) (v := .ref (a 1)) (C := RM) (T := TM) (N := 20) hx hb hts inM hown hK hP 0 rfl rfl 2 (by decide) (hts _ wfM_7) (fun _ h9 => h9) rfl dM_set_23 ?_
      refine lv_iload_n hx hb dM_set_26 rfl (lv_at hl 1 rfl) ?_
      refine va_iald hx hb hK hP 1 0 rfl rfl (vp_in_nI (show o < 60 by omega) (by decide)) dM_set_27 ?_
      refine lv_topi (fun x27 e27 => ?_)
      rw [nI_clamp (show o < 2 ^ 31 by omega)] at e27
      obtain rfl : x27 = nI (sk_sh b o) := e27.trans (hs2)
      refine lv_istore (lv' := [(4, .int (nI (sk_sh b o))), (0, .ref (a 0)), (1, .int (nI o)), (2, .int y), (3, .int v)]) hx hb dM_set_28 hl (by decide) rfl (fun ls hl => ?_)
      refine lv_aload_n hx hb dM_set_30 rfl (lv_at hl 1 rfl) ?_
      refine lv_iload hx hb dM_set_31 (lv_at hl 0 rfl) ?_
      refine lv_iload_n hx hb dM_set_33 rfl (lv_at hl 3 rfl) ?_
      refine va_calli (va_runV (As := [.int (nI (sk_sh b o)), .int y]) (rest := []) ⟨hx, hb, hml, hown, hts⟩ (kM_placeOf l dC dI a k b t f ex lf (nI 0) (sk_sh b o) y hT hN hs1) (cwV 2 hts (sk_gV wmM_92 wiM_placeOf wsM_placeOf wnM wcM_placeOf) rfl rfl rfl (by decide +kernel) ⟨Nat.le_of_ble_eq_true rfl, Nat.le_of_ble_eq_true rfl⟩) ⟨sk_blindM _, va_recv hK hP (ci := 4) (q0 := 0) rfl rfl, fun U hU hW => ⟨rfl, sk_atM (S := (b, t, f)) (ex := ex) (lf := lf) (th := nI 0) hP hK hU hW⟩⟩ rfl rfl hl.1 rfl (lv_room (Nat.le_of_ble_eq_true rfl)) dM_set_34 ⟨Nat.le_of_ble_eq_true rfl, Nat.le_of_ble_eq_true rfl⟩) hS (fun _ _ h => h.elim) (fun _ h => h.elim) (fun r34 u34 U9 H locs ht hvm w34 hB hz hk hS => ?_)
      have hP : va_P (dC, dI) vwCl (sk_wMR a k (nI 0) (nI b.1) b.2.2.1 b.2.2.2.1 ex.1 (nI t.1) t.2.1 t.2.2.1 t.2.2.2.2 ex.2.1 (nI f.1) f.2.1 f.2.2.1 ex.2.2.1 f.2.2.2.1 f.2.2.2.2.1 ex.2.2.2.1 ex.2.2.2.2.1 ex.2.2.2.2.2 lf) H := hP.kept (fun j q hq => hk q.1 ((hP j q hq).lt) (fun h => h))
      clear hk hB ht
      rcases sk_place_spec hT y _ hs1 with ⟨hp, hno⟩ | ⟨kk, hk1, hp, hpk⟩
      · skip
        obtain rfl : r34 = -1 := w34.trans hp
        refine lv_istore (lv' := [(5, .int (-1)), (4, .int (nI (sk_sh b o))), (0, .ref (a 0)), (1, .int (nI o)), (2, .int y), (3, .int v)]) hx hb dM_set_37 hl (by decide) rfl (fun ls hl => ?_)
        refine lv_iload hx hb dM_set_39 (lv_at hl 0 rfl) ?_
        refine lv_if_ge (tgt := 116) hx hb dM_set_41 (by decide) (fun q => absurd q (by decide)) (fun _ => ?_)
        refine lv_aload_n hx hb dM_set_44 rfl (lv_at hl 2 rfl) ?_
        refine lv_iload hx hb dM_set_45 (lv_at hl 1 rfl) ?_
        refine lv_iload_n hx hb dM_set_47 rfl (lv_at hl 4 rfl) ?_
        refine va_calli (va_runV (As := [.int (nI (sk_sh b o)), .int y]) (rest := []) ⟨hx, hb, hml, hown, hts⟩ (kM_child l dC dI a k b t f ex lf (nI 0) (sk_sh b o) y hT hN hs1) (cwV 2 hts (sk_gV wmM_72 wiM_child wsM_child wnM wcM_child) rfl rfl rfl (by decide +kernel) ⟨Nat.le_of_ble_eq_true rfl, Nat.le_of_ble_eq_true rfl⟩) ⟨sk_blindM _, va_recv hK hP (ci := 4) (q0 := 0) rfl rfl, fun U hU hW => ⟨rfl, sk_atM (S := (b, t, f)) (ex := ex) (lf := lf) (th := nI 0) hP hK hU hW⟩⟩ rfl rfl hl.1 rfl (lv_room (Nat.le_of_ble_eq_true rfl)) dM_set_48 ⟨Nat.le_of_ble_eq_true rfl, Nat.le_of_ble_eq_true rfl⟩) hS (fun _ _ h => h.elim) (fun _ h => h.elim) (fun r48 u48 U9 H locs ht hvm w48 hB hz hk hS => ?_)
        have hP : va_P (dC, dI) vwCl (sk_wMR a k (nI 0) (nI b.1) b.2.2.1 b.2.2.2.1 ex.1 (nI t.1) t.2.1 t.2.2.1 t.2.2.2.2 ex.2.1 (nI f.1) f.2.1 f.2.2.1 ex.2.2.1 f.2.2.2.1 f.2.2.2.2.1 ex.2.2.2.1 ex.2.2.2.2.1 ex.2.2.2.2.2 lf) H := hP.kept (fun j q hq => hk q.1 ((hP j q hq).lt) (fun h => h))
        clear hk hB ht
        rcases sk_wn_spec hT hs1 y with ⟨hwn, -⟩ | ⟨i2, m2, hi2, -, hwn, -⟩
        · skip
          obtain rfl : r48 = -1 := w48.trans hwn
          refine lv_istore (lv' := [(6, .int (-1)), (5, .int (-1)), (4, .int (nI (sk_sh b o))), (0, .ref (a 0)), (1, .int (nI o)), (2, .int y), (3, .int v)]) hx hb dM_set_51 hl (by decide) rfl (fun ls hl => ?_)
          refine lv_iload hx hb dM_set_53 (lv_at hl 0 rfl) ?_
          refine lv_if_ge (tgt := 70) hx hb dM_set_55 (by decide) (fun q => absurd q (by decide)) (fun _ => ?_)
          refine lv_aload_n hx hb dM_set_58 rfl (lv_at hl 3 rfl) ?_
          refine va_get (D := (dC, dI)) (ci := 4) (v := .int (nI t.1)) (C := RM) (T := TM) (N := 20) hx hb hts inM hown hK hP 0 rfl rfl 5 (by decide) (hts _ wfM_19) (fun _ h9 => h9) rfl dM_set_59 ?_
          refine lv_sipush (v := nI 200) hx hb dM_set_62 (by decide) ?_
          refine lv_icmp_ne (tgt := 70) hx hb dM_set_65 (by decide) (fun c65 => ?_) (fun c65 => ?_)
          · skip
            have n65 : ¬ t.1 = 200 := fun z9 => c65 ((nI_eq (a := t.1) (b := 200) (by omega) (by omega)).mpr z9)
            refine lv_iload hx hb dM_set_70 (lv_at hl 0 rfl) ?_
            refine lv_if_ge (tgt := 85) hx hb dM_set_72 (by decide) (fun q => absurd q (by decide)) (fun _ => ?_)
            have hg : sk_grow t (sk_sh b o) y = some (sk_grow1 t (sk_sh b o) y, t.1) := by unfold sk_grow; rw [if_pos hwn, if_neg (by omega)]
            obtain ⟨a9, ha9, ea9⟩ := sk_isN_iff.mp h14
            obtain ⟨q1, q2, q3, q4, q5⟩ := sk_grow_spec hT hs1 ha9 (by rw [← ea9]; exact hp) (by rw [← ea9]; exact hg)
            obtain ⟨m9, hm9, hle9, hlen9⟩ := sk_lenOk hT hs1
            have hl12 : sk_len t (sk_sh b o) < 12 := sk_len_new q1 q3 q5
            refine lv_aload_n hx hb dM_set_75 rfl (lv_at hl 3 rfl) ?_
            refine lv_iload hx hb dM_set_76 (lv_at hl 2 rfl) ?_
            refine lv_iload_n hx hb dM_set_78 rfl (lv_at hl 5 rfl) ?_
            refine va_calli (va_runV (As := [.int (nI (sk_sh b o)), .int y]) (rest := []) ⟨hx, hb, hml, hown, hts⟩ (kM_makeChild l dC dI a k b t f ex lf (nI 0) A (sk_sh b o) y hT hN hs1 (by omega) hl12) (cwV 2 hts (sk_gV wmM_79 wiM_makeChild wsM_makeChild wnM wcM_makeChild) rfl rfl rfl (by decide +kernel) ⟨Nat.le_of_ble_eq_true rfl, Nat.le_of_ble_eq_true rfl⟩) ⟨sk_blindMD _, va_recv hK hP (ci := 4) (q0 := 0) rfl rfl, fun U hU hW => ⟨rfl, sk_atM (S := (b, t, f)) (ex := ex) (lf := lf) (th := nI 0) hP hK hU hW, hD⟩⟩ rfl rfl hl.1 rfl (lv_room (Nat.le_of_ble_eq_true rfl)) dM_set_79 ⟨Nat.le_of_ble_eq_true rfl, Nat.le_of_ble_eq_true rfl⟩) hS (fun _ _ h => h) (fun _ h => h) (fun r79 u79 U9 H locs ht hvm w79 hB hz hk hS => ?_)
            obtain ⟨hP, hD⟩ := hB
            rw [ht] at hP
            obtain ⟨rfl, na3, rfl, hN3⟩ := w79
            have hP : va_P (dC, dI) vwCl (sk_wMR a k (nI 0) (nI b.1) b.2.2.1 b.2.2.2.1 ((ex.1, na3, ex.2.2).1) (nI (sk_grow1 t (sk_sh b o) y).1) ((sk_grow1 t (sk_sh b o) y).2.1) ((sk_grow1 t (sk_sh b o) y).2.2.1) ((sk_grow1 t (sk_sh b o) y).2.2.2.2) ((ex.1, na3, ex.2.2).2.1) (nI f.1) f.2.1 f.2.2.1 ((ex.1, na3, ex.2.2).2.2.1) f.2.2.2.1 f.2.2.2.2.1 ((ex.1, na3, ex.2.2).2.2.2.1) ((ex.1, na3, ex.2.2).2.2.2.2.1) ((ex.1, na3, ex.2.2).2.2.2.2.2) lf) H := hP
            have hD : va_D A (sk_wMR a k (nI 0) (nI b.1) b.2.2.1 b.2.2.2.1 ((ex.1, na3, ex.2.2).1) (nI (sk_grow1 t (sk_sh b o) y).1) ((sk_grow1 t (sk_sh b o) y).2.1) ((sk_grow1 t (sk_sh b o) y).2.2.1) ((sk_grow1 t (sk_sh b o) y).2.2.2.2) ((ex.1, na3, ex.2.2).2.1) (nI f.1) f.2.1 f.2.2.1 ((ex.1, na3, ex.2.2).2.2.1) f.2.2.2.1 f.2.2.2.2.1 ((ex.1, na3, ex.2.2).2.2.2.1) ((ex.1, na3, ex.2.2).2.2.2.2.1) ((ex.1, na3, ex.2.2).2.2.2.2.2) lf) := hD
            refine lv_goto (tgt := 87) hx hb dM_set_82 (by decide) ?_
            refine lv_istore (lv' := [(6, .int (nI t.1)), (5, .int (-1)), (4, .int (nI (sk_sh b o))), (0, .ref (a 0)), (1, .int (nI o)), (2, .int y), (3, .int v)]) hx hb dM_set_87 hl (by decide) rfl (fun ls hl => ?_)
            refine lv_aload_n hx hb dM_set_89 rfl (lv_at hl 3 rfl) ?_
            refine va_get (D := (dC, dI)) (ci := 4) (v := .ref (a 6)) (C := RM) (T := TM) (N := 20) hx hb hts inM hown hK hP 0 rfl rfl 8 (by decide) (hts _ wfM_29) (fun _ h9 => h9) rfl dM_set_90 ?_
            refine lv_iload hx hb dM_set_93 (lv_at hl 2 rfl) ?_
            refine va_iald hx hb hK hP 6 0 rfl rfl (vp_in_nI (show (sk_sh b o) < 200 by omega) (by decide)) dM_set_95 ?_
            refine lv_topi (fun x95 e95 => ?_)
            rw [nI_clamp (show (sk_sh b o) < 2 ^ 31 by omega)] at e95
            obtain rfl : x95 = nI (sk_len t (sk_sh b o)) := e95.trans (by rw [hlen9]; exact ((q2.2 _ hs1).2.2.2).trans hle9)
            refine lv_istore (lv' := [(5, .int (nI (sk_len t (sk_sh b o)))), (6, .int (nI t.1)), (4, .int (nI (sk_sh b o))), (0, .ref (a 0)), (1, .int (nI o)), (2, .int y), (3, .int v)]) hx hb dM_set_96 hl (by decide) rfl (fun ls hl => ?_)
            refine lv_aload_n hx hb dM_set_98 rfl (lv_at hl 3 rfl) ?_
            refine va_get (D := (dC, dI)) (ci := 4) (v := .ref (a 1)) (C := RM) (T := TM) (N := 20) hx hb hts inM hown hK hP 0 rfl rfl 2 (by decide) (hts _ wfM_7) (fun _ h9 => h9) rfl dM_set_99 ?_
            refine lv_iload_n hx hb dM_set_102 rfl (lv_at hl 4 rfl) ?_
            refine lv_iload hx hb dM_set_103 (lv_at hl 1 rfl) ?_
            refine va_iast hx hb hK hP hD hS 1 0 rfl rfl (vp_in_nI (show o < 60 by omega) (by decide)) dM_set_105 (fun H locs hP hD hS => ?_)
            rw [nI_clamp (show o < 2 ^ 31 by omega)] at hP hD
            have hP : va_P (dC, dI) vwCl (sk_wMR a k (nI 0) (nI b.1) (upd b.2.2.1 o (nI t.1)) b.2.2.2.1 ((ex.1, na3, ex.2.2).1) (nI (sk_grow1 t (sk_sh b o) y).1) ((sk_grow1 t (sk_sh b o) y).2.1) ((sk_grow1 t (sk_sh b o) y).2.2.1) ((sk_grow1 t (sk_sh b o) y).2.2.2.2) ((ex.1, na3, ex.2.2).2.1) (nI f.1) f.2.1 f.2.2.1 ((ex.1, na3, ex.2.2).2.2.1) f.2.2.2.1 f.2.2.2.2.1 ((ex.1, na3, ex.2.2).2.2.2.1) ((ex.1, na3, ex.2.2).2.2.2.2.1) ((ex.1, na3, ex.2.2).2.2.2.2.2) lf) H := hP
            have hD : va_D A (sk_wMR a k (nI 0) (nI b.1) (upd b.2.2.1 o (nI t.1)) b.2.2.2.1 ((ex.1, na3, ex.2.2).1) (nI (sk_grow1 t (sk_sh b o) y).1) ((sk_grow1 t (sk_sh b o) y).2.1) ((sk_grow1 t (sk_sh b o) y).2.2.1) ((sk_grow1 t (sk_sh b o) y).2.2.2.2) ((ex.1, na3, ex.2.2).2.1) (nI f.1) f.2.1 f.2.2.1 ((ex.1, na3, ex.2.2).2.2.1) f.2.2.2.1 f.2.2.2.2.1 ((ex.1, na3, ex.2.2).2.2.2.1) ((ex.1, na3, ex.2.2).2.2.2.2.1) ((ex.1, na3, ex.2.2).2.2.2.2.2) lf) := hD
            refine lv_aload_n hx hb dM_set_106 rfl (lv_at hl 3 rfl) ?_
            refine va_get (D := (dC, dI)) (ci := 4) (v := .ref (a 2)) (C := RM) (T := TM) (N := 20) hx hb hts inM hown hK hP 0 rfl rfl 3 (by decide) (hts _ wfM_13) (fun _ h9 => h9) rfl dM_set_107 ?_
            refine lv_iload_n hx hb dM_set_110 rfl (lv_at hl 4 rfl) ?_
            refine lv_dup2_11 hx hb dM_set_111 rfl rfl ?_
            refine va_iald hx hb hK hP 2 0 rfl rfl (vp_in_nI (show o < 60 by omega) (by decide)) dM_set_112 ?_
            refine lv_topi (fun x112 e112 => ?_)
            rw [nI_clamp (show o < 2 ^ 31 by omega)] at e112
            refine lv_iconst (v := nI 1) hx hb dM_set_113 (by decide) ?_
            refine lv_iadd hx hb dM_set_114 ?_
            refine lv_topi (fun x114 e114 => ?_)
            obtain rfl : x114 = b.2.2.2.1 o + 1 := e114.trans (by rw [e112]; rfl)
            refine va_iast hx hb hK hP hD hS 2 0 rfl rfl (vp_in_nI (show o < 60 by omega) (by decide)) dM_set_115 (fun H locs hP hD hS => ?_)
            rw [nI_clamp (show o < 2 ^ 31 by omega)] at hP hD
            have hP : va_P (dC, dI) vwCl (sk_wMR a k (nI 0) (nI b.1) (upd b.2.2.1 o (nI t.1)) (upd b.2.2.2.1 o (b.2.2.2.1 o + 1)) ((ex.1, na3, ex.2.2).1) (nI (sk_grow1 t (sk_sh b o) y).1) ((sk_grow1 t (sk_sh b o) y).2.1) ((sk_grow1 t (sk_sh b o) y).2.2.1) ((sk_grow1 t (sk_sh b o) y).2.2.2.2) ((ex.1, na3, ex.2.2).2.1) (nI f.1) f.2.1 f.2.2.1 ((ex.1, na3, ex.2.2).2.2.1) f.2.2.2.1 f.2.2.2.2.1 ((ex.1, na3, ex.2.2).2.2.2.1) ((ex.1, na3, ex.2.2).2.2.2.2.1) ((ex.1, na3, ex.2.2).2.2.2.2.2) lf) H := hP
            have hD : va_D A (sk_wMR a k (nI 0) (nI b.1) (upd b.2.2.1 o (nI t.1)) (upd b.2.2.2.1 o (b.2.2.2.1 o + 1)) ((ex.1, na3, ex.2.2).1) (nI (sk_grow1 t (sk_sh b o) y).1) ((sk_grow1 t (sk_sh b o) y).2.1) ((sk_grow1 t (sk_sh b o) y).2.2.1) ((sk_grow1 t (sk_sh b o) y).2.2.2.2) ((ex.1, na3, ex.2.2).2.1) (nI f.1) f.2.1 f.2.2.1 ((ex.1, na3, ex.2.2).2.2.1) f.2.2.2.1 f.2.2.2.2.1 ((ex.1, na3, ex.2.2).2.2.2.1) ((ex.1, na3, ex.2.2).2.2.2.2.1) ((ex.1, na3, ex.2.2).2.2.2.2.2) lf) := hD
            refine lv_aload_n hx hb dM_set_116 rfl (lv_at hl 3 rfl) ?_
            refine va_get (D := (dC, dI)) (ci := 4) (v := .ref (a 3)) (C := RM) (T := TM) (N := 20) hx hb hts inM hown hK hP 0 rfl rfl 4 (by decide) (hts _ wfM_16) (fun _ h9 => h9) rfl dM_set_117 ?_
            refine lv_bipush (v := nI 12) hx hb dM_set_120 (by decide) ?_
            refine lv_iload_n hx hb dM_set_122 rfl (lv_at hl 4 rfl) ?_
            refine lv_imul hx hb dM_set_123 ?_
            refine lv_topi (fun x123 e123 => ?_)
            obtain rfl : x123 = nI (12 * o) := e123.trans (pk_mul _ _)
            refine lv_iload hx hb dM_set_124 (lv_at hl 0 rfl) ?_
            refine lv_iadd hx hb dM_set_126 ?_
            refine lv_topi (fun x126 e126 => ?_)
            obtain rfl : x126 = nI ((12 * o) + (sk_len t (sk_sh b o))) := e126.trans (nI_add _ _)
            refine lv_iload_n hx hb dM_set_127 rfl (lv_at hl 6 rfl) ?_
            refine va_iast hx hb hK hP hD hS 3 0 rfl rfl (vp_in_nI (show ((12 * o) + (sk_len t (sk_sh b o))) < 720 by omega) (by decide)) dM_set_128 (fun H locs hP hD hS => ?_)
            rw [nI_clamp (show ((12 * o) + (sk_len t (sk_sh b o))) < 2 ^ 31 by omega)] at hP hD
            have hP : va_P (dC, dI) vwCl (sk_wMR a k (nI 0) (nI b.1) (upd b.2.2.1 o (nI t.1)) (upd b.2.2.2.1 o (b.2.2.2.1 o + 1)) (upd ((ex.1, na3, ex.2.2).1) ((12 * o) + (sk_len t (sk_sh b o))) v) (nI (sk_grow1 t (sk_sh b o) y).1) ((sk_grow1 t (sk_sh b o) y).2.1) ((sk_grow1 t (sk_sh b o) y).2.2.1) ((sk_grow1 t (sk_sh b o) y).2.2.2.2) ((ex.1, na3, ex.2.2).2.1) (nI f.1) f.2.1 f.2.2.1 ((ex.1, na3, ex.2.2).2.2.1) f.2.2.2.1 f.2.2.2.2.1 ((ex.1, na3, ex.2.2).2.2.2.1) ((ex.1, na3, ex.2.2).2.2.2.2.1) ((ex.1, na3, ex.2.2).2.2.2.2.2) lf) H := hP
            have hD : va_D A (sk_wMR a k (nI 0) (nI b.1) (upd b.2.2.1 o (nI t.1)) (upd b.2.2.2.1 o (b.2.2.2.1 o + 1)) (upd ((ex.1, na3, ex.2.2).1) ((12 * o) + (sk_len t (sk_sh b o))) v) (nI (sk_grow1 t (sk_sh b o) y).1) ((sk_grow1 t (sk_sh b o) y).2.1) ((sk_grow1 t (sk_sh b o) y).2.2.1) ((sk_grow1 t (sk_sh b o) y).2.2.2.2) ((ex.1, na3, ex.2.2).2.1) (nI f.1) f.2.1 f.2.2.1 ((ex.1, na3, ex.2.2).2.2.1) f.2.2.2.1 f.2.2.2.2.1 ((ex.1, na3, ex.2.2).2.2.2.1) ((ex.1, na3, ex.2.2).2.2.2.2.1) ((ex.1, na3, ex.2.2).2.2.2.2.2) lf) := hD
            refine lv_iconst (v := nI 1) hx hb dM_set_129 (by decide) ?_
            have hset : sk_set (b, t, f) (nI o) y v = _ := (sk_set_y (S := (b, t, f)) h60 ho h14).trans (sk_set_3 hp hg)
            exact W.zret (v := nI 1) hx hb hr (by decide) (fun U9 ht hW => ⟨⟨nI 1, ((sk_setv (sk_chg b o t.1) o (sk_len t (sk_sh b o)) v, sk_grow1 t (sk_sh b o) y, sk_brk f o), (upd ex.1 (12 * o + sk_len t (sk_sh b o)) v, na3, ex.2.2), lf, nI 0), rfl, ⟨by rw [hset]; rfl, _, lf, nI 0, by rw [hset], by rw [hset]; exact sk_RM_set3 hOK hK1 ho hR q1 q2 q3 q5 hN3⟩, sk_endw ht hP hD⟩, hS.F ht⟩) hS.2.2 dM_set_130
          · skip
            have n65 : t.1 = 200 := (nI_eq (a := t.1) (b := 200) (by omega) (by omega)).mp c65
            refine lv_iconst (v := nI 0) hx hb dM_set_68 (by decide) ?_
            have hset : sk_set (b, t, f) (nI o) y v = _ := (sk_set_y (S := (b, t, f)) h60 ho h14).trans (sk_set_2 hp (by unfold sk_grow; rw [if_pos hwn, if_pos (by omega)]))
            exact W.zret (v := nI 0) hx hb hr (by decide) (fun U9 ht hW => ⟨⟨nI 0, ((b, t, f), ex, lf, nI 0), rfl, ⟨by rw [hset]; rfl, ex, lf, nI 0, by rw [hset], by rw [hset]; exact hR⟩, sk_endw ht hP hD⟩, hS.F ht⟩) hS.2.2 dM_set_69
        · skip
          obtain rfl : r48 = nI i2 := w48.trans hwn
          have hg : sk_grow t (sk_sh b o) y = some (t, i2) := by unfold sk_grow; rw [if_neg (by rw [hwn]; exact sk_nm1 (by omega)), hwn, nI_clamp (by omega)]
          obtain ⟨a9, ha9, ea9⟩ := sk_isN_iff.mp h14
          obtain ⟨q1, q2, q3, q4, q5⟩ := sk_grow_spec hT hs1 ha9 (by rw [← ea9]; exact hp) (by rw [← ea9]; exact hg)
          obtain ⟨m9, hm9, hle9, hlen9⟩ := sk_lenOk hT hs1
          have hl12 : sk_len t (sk_sh b o) < 12 := sk_len_new q1 q3 q5
          refine lv_istore (lv' := [(6, .int (nI i2)), (5, .int (-1)), (4, .int (nI (sk_sh b o))), (0, .ref (a 0)), (1, .int (nI o)), (2, .int y), (3, .int v)]) hx hb dM_set_51 hl (by decide) rfl (fun ls hl => ?_)
          refine lv_iload hx hb dM_set_53 (lv_at hl 0 rfl) ?_
          refine lv_if_ge (tgt := 70) hx hb dM_set_55 (by decide) (fun c55 => ?_) (fun c55 => ?_)
          · skip
            have n55 : 0 ≤ i2 := (nI_leI (a := 0) (b := i2) (by omega) (by omega)).mp c55
            refine lv_iload hx hb dM_set_70 (lv_at hl 0 rfl) ?_
            refine lv_if_ge (tgt := 85) hx hb dM_set_72 (by decide) (fun c72 => ?_) (fun c72 => ?_)
            · skip
              have n72 : 0 ≤ i2 := (nI_leI (a := 0) (b := i2) (by omega) (by omega)).mp c72
              refine lv_iload hx hb dM_set_85 (lv_at hl 0 rfl) ?_
              refine lv_istore (lv' := [(6, .int (nI i2)), (5, .int (-1)), (4, .int (nI (sk_sh b o))), (0, .ref (a 0)), (1, .int (nI o)), (2, .int y), (3, .int v)]) hx hb dM_set_87 hl (by decide) rfl (fun ls hl => ?_)
              refine lv_aload_n hx hb dM_set_89 rfl (lv_at hl 3 rfl) ?_
              refine va_get (D := (dC, dI)) (ci := 4) (v := .ref (a 6)) (C := RM) (T := TM) (N := 20) hx hb hts inM hown hK hP 0 rfl rfl 8 (by decide) (hts _ wfM_29) (fun _ h9 => h9) rfl dM_set_90 ?_
              refine lv_iload hx hb dM_set_93 (lv_at hl 2 rfl) ?_
              refine va_iald hx hb hK hP 6 0 rfl rfl (vp_in_nI (show (sk_sh b o) < 200 by omega) (by decide)) dM_set_95 ?_
              refine lv_topi (fun x95 e95 => ?_)
              rw [nI_clamp (show (sk_sh b o) < 2 ^ 31 by omega)] at e95
              obtain rfl : x95 = nI (sk_len t (sk_sh b o)) := e95.trans (by rw [hlen9]; exact hle9)
              refine lv_istore (lv' := [(5, .int (nI (sk_len t (sk_sh b o)))), (6, .int (nI i2)), (4, .int (nI (sk_sh b o))), (0, .ref (a 0)), (1, .int (nI o)), (2, .int y), (3, .int v)]) hx hb dM_set_96 hl (by decide) rfl (fun ls hl => ?_)
              refine lv_aload_n hx hb dM_set_98 rfl (lv_at hl 3 rfl) ?_
              refine va_get (D := (dC, dI)) (ci := 4) (v := .ref (a 1)) (C := RM) (T := TM) (N := 20) hx hb hts inM hown hK hP 0 rfl rfl 2 (by decide) (hts _ wfM_7) (fun _ h9 => h9) rfl dM_set_99 ?_
              refine lv_iload_n hx hb dM_set_102 rfl (lv_at hl 4 rfl) ?_
              refine lv_iload hx hb dM_set_103 (lv_at hl 1 rfl) ?_
              refine va_iast hx hb hK hP hD hS 1 0 rfl rfl (vp_in_nI (show o < 60 by omega) (by decide)) dM_set_105 (fun H locs hP hD hS => ?_)
              rw [nI_clamp (show o < 2 ^ 31 by omega)] at hP hD
              have hP : va_P (dC, dI) vwCl (sk_wMR a k (nI 0) (nI b.1) (upd b.2.2.1 o (nI i2)) b.2.2.2.1 ex.1 (nI t.1) t.2.1 t.2.2.1 t.2.2.2.2 ex.2.1 (nI f.1) f.2.1 f.2.2.1 ex.2.2.1 f.2.2.2.1 f.2.2.2.2.1 ex.2.2.2.1 ex.2.2.2.2.1 ex.2.2.2.2.2 lf) H := hP
              have hD : va_D A (sk_wMR a k (nI 0) (nI b.1) (upd b.2.2.1 o (nI i2)) b.2.2.2.1 ex.1 (nI t.1) t.2.1 t.2.2.1 t.2.2.2.2 ex.2.1 (nI f.1) f.2.1 f.2.2.1 ex.2.2.1 f.2.2.2.1 f.2.2.2.2.1 ex.2.2.2.1 ex.2.2.2.2.1 ex.2.2.2.2.2 lf) := hD
              refine lv_aload_n hx hb dM_set_106 rfl (lv_at hl 3 rfl) ?_
              refine va_get (D := (dC, dI)) (ci := 4) (v := .ref (a 2)) (C := RM) (T := TM) (N := 20) hx hb hts inM hown hK hP 0 rfl rfl 3 (by decide) (hts _ wfM_13) (fun _ h9 => h9) rfl dM_set_107 ?_
              refine lv_iload_n hx hb dM_set_110 rfl (lv_at hl 4 rfl) ?_
              refine lv_dup2_11 hx hb dM_set_111 rfl rfl ?_
              refine va_iald hx hb hK hP 2 0 rfl rfl (vp_in_nI (show o < 60 by omega) (by decide)) dM_set_112 ?_
              refine lv_topi (fun x112 e112 => ?_)
              rw [nI_clamp (show o < 2 ^ 31 by omega)] at e112
              refine lv_iconst (v := nI 1) hx hb dM_set_113 (by decide) ?_
              refine lv_iadd hx hb dM_set_114 ?_
              refine lv_topi (fun x114 e114 => ?_)
              obtain rfl : x114 = b.2.2.2.1 o + 1 := e114.trans (by rw [e112]; rfl)
              refine va_iast hx hb hK hP hD hS 2 0 rfl rfl (vp_in_nI (show o < 60 by omega) (by decide)) dM_set_115 (fun H locs hP hD hS => ?_)
              rw [nI_clamp (show o < 2 ^ 31 by omega)] at hP hD
              have hP : va_P (dC, dI) vwCl (sk_wMR a k (nI 0) (nI b.1) (upd b.2.2.1 o (nI i2)) (upd b.2.2.2.1 o (b.2.2.2.1 o + 1)) ex.1 (nI t.1) t.2.1 t.2.2.1 t.2.2.2.2 ex.2.1 (nI f.1) f.2.1 f.2.2.1 ex.2.2.1 f.2.2.2.1 f.2.2.2.2.1 ex.2.2.2.1 ex.2.2.2.2.1 ex.2.2.2.2.2 lf) H := hP
              have hD : va_D A (sk_wMR a k (nI 0) (nI b.1) (upd b.2.2.1 o (nI i2)) (upd b.2.2.2.1 o (b.2.2.2.1 o + 1)) ex.1 (nI t.1) t.2.1 t.2.2.1 t.2.2.2.2 ex.2.1 (nI f.1) f.2.1 f.2.2.1 ex.2.2.1 f.2.2.2.1 f.2.2.2.2.1 ex.2.2.2.1 ex.2.2.2.2.1 ex.2.2.2.2.2 lf) := hD
              refine lv_aload_n hx hb dM_set_116 rfl (lv_at hl 3 rfl) ?_
              refine va_get (D := (dC, dI)) (ci := 4) (v := .ref (a 3)) (C := RM) (T := TM) (N := 20) hx hb hts inM hown hK hP 0 rfl rfl 4 (by decide) (hts _ wfM_16) (fun _ h9 => h9) rfl dM_set_117 ?_
              refine lv_bipush (v := nI 12) hx hb dM_set_120 (by decide) ?_
              refine lv_iload_n hx hb dM_set_122 rfl (lv_at hl 4 rfl) ?_
              refine lv_imul hx hb dM_set_123 ?_
              refine lv_topi (fun x123 e123 => ?_)
              obtain rfl : x123 = nI (12 * o) := e123.trans (pk_mul _ _)
              refine lv_iload hx hb dM_set_124 (lv_at hl 0 rfl) ?_
              refine lv_iadd hx hb dM_set_126 ?_
              refine lv_topi (fun x126 e126 => ?_)
              obtain rfl : x126 = nI ((12 * o) + (sk_len t (sk_sh b o))) := e126.trans (nI_add _ _)
              refine lv_iload_n hx hb dM_set_127 rfl (lv_at hl 6 rfl) ?_
              refine va_iast hx hb hK hP hD hS 3 0 rfl rfl (vp_in_nI (show ((12 * o) + (sk_len t (sk_sh b o))) < 720 by omega) (by decide)) dM_set_128 (fun H locs hP hD hS => ?_)
              rw [nI_clamp (show ((12 * o) + (sk_len t (sk_sh b o))) < 2 ^ 31 by omega)] at hP hD
              have hP : va_P (dC, dI) vwCl (sk_wMR a k (nI 0) (nI b.1) (upd b.2.2.1 o (nI i2)) (upd b.2.2.2.1 o (b.2.2.2.1 o + 1)) (upd ex.1 ((12 * o) + (sk_len t (sk_sh b o))) v) (nI t.1) t.2.1 t.2.2.1 t.2.2.2.2 ex.2.1 (nI f.1) f.2.1 f.2.2.1 ex.2.2.1 f.2.2.2.1 f.2.2.2.2.1 ex.2.2.2.1 ex.2.2.2.2.1 ex.2.2.2.2.2 lf) H := hP
              have hD : va_D A (sk_wMR a k (nI 0) (nI b.1) (upd b.2.2.1 o (nI i2)) (upd b.2.2.2.1 o (b.2.2.2.1 o + 1)) (upd ex.1 ((12 * o) + (sk_len t (sk_sh b o))) v) (nI t.1) t.2.1 t.2.2.1 t.2.2.2.2 ex.2.1 (nI f.1) f.2.1 f.2.2.1 ex.2.2.1 f.2.2.2.1 f.2.2.2.2.1 ex.2.2.2.1 ex.2.2.2.2.1 ex.2.2.2.2.2 lf) := hD
              refine lv_iconst (v := nI 1) hx hb dM_set_129 (by decide) ?_
              have hset : sk_set (b, t, f) (nI o) y v = _ := (sk_set_y (S := (b, t, f)) h60 ho h14).trans (sk_set_3 hp hg)
              exact W.zret (v := nI 1) hx hb hr (by decide) (fun U9 ht hW => ⟨⟨nI 1, ((sk_setv (sk_chg b o i2) o (sk_len t (sk_sh b o)) v, t, sk_brk f o), (upd ex.1 (12 * o + sk_len t (sk_sh b o)) v, ex.2.1, ex.2.2), lf, nI 0), rfl, ⟨by rw [hset]; rfl, _, lf, nI 0, by rw [hset], by rw [hset]; exact sk_RM_set3 hOK hK1 ho hR q1 q2 q3 q5 hN⟩, sk_endw ht hP hD⟩, hS.F ht⟩) hS.2.2 dM_set_130
            · skip
              have n72 : ¬ 0 ≤ i2 := fun z9 => c72 ((nI_leI (a := 0) (b := i2) (by omega) (by omega)).mpr z9)
              omega
          · skip
            have n55 : ¬ 0 ≤ i2 := fun z9 => c55 ((nI_leI (a := 0) (b := i2) (by omega) (by omega)).mpr z9)
            omega
      · skip
        obtain rfl : r34 = nI kk := w34.trans hp
        have hk2 : kk < 12 := Nat.lt_of_lt_of_le hk1 (sk_lenle hT hs1)
        refine lv_istore (lv' := [(5, .int (nI kk)), (4, .int (nI (sk_sh b o))), (0, .ref (a 0)), (1, .int (nI o)), (2, .int y), (3, .int v)]) hx hb dM_set_37 hl (by decide) rfl (fun ls hl => ?_)
        refine lv_iload hx hb dM_set_39 (lv_at hl 0 rfl) ?_
        refine lv_if_ge (tgt := 116) hx hb dM_set_41 (by decide) (fun c41 => ?_) (fun c41 => ?_)
        · skip
          have n41 : 0 ≤ kk := (nI_leI (a := 0) (b := kk) (by omega) (by omega)).mp c41
          refine lv_aload_n hx hb dM_set_116 rfl (lv_at hl 2 rfl) ?_
          refine va_get (D := (dC, dI)) (ci := 4) (v := .ref (a 3)) (C := RM) (T := TM) (N := 20) hx hb hts inM hown hK hP 0 rfl rfl 4 (by decide) (hts _ wfM_16) (fun _ h9 => h9) rfl dM_set_117 ?_
          refine lv_bipush (v := nI 12) hx hb dM_set_120 (by decide) ?_
          refine lv_iload_n hx hb dM_set_122 rfl (lv_at hl 3 rfl) ?_
          refine lv_imul hx hb dM_set_123 ?_
          refine lv_topi (fun x123 e123 => ?_)
          obtain rfl : x123 = nI (12 * o) := e123.trans (pk_mul _ _)
          refine lv_iload hx hb dM_set_124 (lv_at hl 0 rfl) ?_
          refine lv_iadd hx hb dM_set_126 ?_
          refine lv_topi (fun x126 e126 => ?_)
          obtain rfl : x126 = nI ((12 * o) + kk) := e126.trans (nI_add _ _)
          refine lv_iload_n hx hb dM_set_127 rfl (lv_at hl 5 rfl) ?_
          refine va_iast hx hb hK hP hD hS 3 0 rfl rfl (vp_in_nI (show ((12 * o) + kk) < 720 by omega) (by decide)) dM_set_128 (fun H locs hP hD hS => ?_)
          rw [nI_clamp (show ((12 * o) + kk) < 2 ^ 31 by omega)] at hP hD
          have hP : va_P (dC, dI) vwCl (sk_wMR a k (nI 0) (nI b.1) b.2.2.1 b.2.2.2.1 (upd ex.1 ((12 * o) + kk) v) (nI t.1) t.2.1 t.2.2.1 t.2.2.2.2 ex.2.1 (nI f.1) f.2.1 f.2.2.1 ex.2.2.1 f.2.2.2.1 f.2.2.2.2.1 ex.2.2.2.1 ex.2.2.2.2.1 ex.2.2.2.2.2 lf) H := hP
          have hD : va_D A (sk_wMR a k (nI 0) (nI b.1) b.2.2.1 b.2.2.2.1 (upd ex.1 ((12 * o) + kk) v) (nI t.1) t.2.1 t.2.2.1 t.2.2.2.2 ex.2.1 (nI f.1) f.2.1 f.2.2.1 ex.2.2.1 f.2.2.2.1 f.2.2.2.2.1 ex.2.2.2.1 ex.2.2.2.2.1 ex.2.2.2.2.2 lf) := hD
          refine lv_iconst (v := nI 1) hx hb dM_set_129 (by decide) ?_
          have hset : sk_set (b, t, f) (nI o) y v = _ := (sk_set_y (S := (b, t, f)) h60 ho h14).trans (sk_set_1 hk2 hp)
          exact W.zret (v := nI 1) hx hb hr (by decide) (fun U9 ht hW => ⟨⟨nI 1, ((sk_setv b o kk v, t, f), (upd ex.1 (12 * o + kk) v, ex.2), lf, nI 0), rfl, ⟨by rw [hset]; rfl, _, lf, nI 0, by rw [hset], by rw [hset]; exact sk_RM_set1 hOK hR hk2 v⟩, sk_endw ht hP hD⟩, hS.F ht⟩) hS.2.2 dM_set_130
        · skip
          have n41 : ¬ 0 ≤ kk := fun z9 => c41 ((nI_leI (a := 0) (b := kk) (by omega) (by omega)).mpr z9)
          omega
    · skip
      obtain rfl : r14 = nI 0 := w14.trans hv
      refine lv_if_ne (tgt := 22) hx hb dM_set_17 (by decide) (fun q => absurd q (by decide)) (fun _ => ?_)
      refine lv_iconst (v := nI 0) hx hb dM_set_20 (by decide) ?_
      have hset := sk_set_n (S := (b, t, f)) (x := nI o) (y := y) (v := v) (by show (sk_hasB b.1 _ && sk_isN y) = false; rw [h14, Bool.and_false])
      exact W.zret (v := nI 0) hx hb hr (by decide) (fun U9 ht hW => ⟨⟨nI 0, ((b, t, f), ex, lf, nI 0), rfl, ⟨by rw [hset]; rfl, ex, lf, nI 0, by rw [hset], by rw [hset]; exact hR⟩, sk_endw ht hP hD⟩, hS.F ht⟩) hS.2.2 dM_set_21
  · skip
    obtain rfl : r7 = nI 0 := w7.trans hv
    refine lv_if_eq (tgt := 20) hx hb dM_set_10 (by decide) (fun _ => ?_) (fun q => absurd (by decide) q)
    refine lv_iconst (v := nI 0) hx hb dM_set_20 (by decide) ?_
    have hset := sk_set_n (S := (b, t, f)) (x := x) (y := y) (v := v) (by show (sk_hasB b.1 _ && sk_isN y) = false; rw [h7, Bool.false_and])
    exact W.zret (v := nI 0) hx hb hr (by decide) (fun U9 ht hW => ⟨⟨nI 0, ((b, t, f), ex, lf, nI 0), rfl, ⟨by rw [hset]; rfl, ex, lf, nI 0, by rw [hset], by rw [hset]; exact hR⟩, sk_endw ht hP hD⟩, hS.F ht⟩) hS.2.2 dM_set_21
abbrev wzM_drop : List Cond := .code yM_drop cM_drop 8 (some .boolean) :: sk_W
abbrev rzM_drop : Room := { frames := 2, cells := 0, slots := 0, locals := 50 }
set_option maxHeartbeats 4000000 in
set_option maxRecDepth 100000 in
theorem kM_drop (l : Launch) (dC : Nat → ClassId) (dI : Nat → Nat → Nat) (a : Nat → Nat) (k : Nat → ClassId) (b : sk_Ob) (t : sk_Tr) (f : sk_Fi) (ex : sk_Ex) (lf : sk_F) (th : Int32) (A : Nat → Prop) (x y : Int32) (K : Nat) (hOK : sk_OK K (b, t, f)) (hR : sk_RM (b, t, f) ex) (hK1 : K + 1 ≤ 512) : Met l yM_drop wzM_drop rzM_drop (va_Pc [.ref (a 0), .int x, .int y] (fun U => sk_PM dC dI a k (b, t, f) ex lf th U ∧ va_D A (sk_wM a k (b, t, f) ex lf th))) (va_Qi (fun r (u : sk_S × sk_Ex × sk_F × Int32) => r = sk_bI (sk_drop (b, t, f) x y).1 ∧ ∃ ex2 lf2 th2, u = ((sk_drop (b, t, f) x y).2, ex2, lf2, th2) ∧ sk_RM (sk_drop (b, t, f) x y).2 ex2) (fun u U => va_P (dC, dI) vwCl (sk_wM a k u.1 u.2.1 u.2.2.1 u.2.2.2) U.heap ∧ va_D A (sk_wM a k u.1 u.2.1 u.2.2.1 u.2.2.2)) A) 0 0 A := by
  refine Met.ofW (cc := cM_drop) (maxL := 8) (ret := (some .boolean)) (by decide) rfl ?_
  intro p e s m args below meth c s₁ B hml hv
  obtain ⟨rfl, ⟨hP, hK⟩, hD⟩ := hv
  have hx := B.exec
  have hb := B.bytes
  have hr := B.returns
  have hts : ∀ w ∈ sk_W, w.before ([.ref (a 0), .int x, .int y] : List Value).toArray s = true := fun w h => atoms_spec (ws := wzM_drop) B.pre w (List.mem_cons_of_mem _ h)
  have hown : s.vm.findClass RM = some m.cls := findClass_of_methodNamed B.named
  have hlocks := B.notSynchronized
  have hS : va_S A s.heap s.heap [] := va_S.rf
  have hP : va_P (dC, dI) vwCl (sk_wMR a k th (nI b.1) b.2.2.1 b.2.2.2.1 ex.1 (nI t.1) t.2.1 t.2.2.1 t.2.2.2.2 ex.2.1 (nI f.1) f.2.1 f.2.2.1 ex.2.2.1 f.2.2.2.1 f.2.2.2.2.1 ex.2.2.2.1 ex.2.2.2.2.1 ex.2.2.2.2.2 lf) s.heap := hP
  have hD : va_D A (sk_wMR a k th (nI b.1) b.2.2.1 b.2.2.2.1 ex.1 (nI t.1) t.2.1 t.2.2.1 t.2.2.2.2 ex.2.1 (nI f.1) f.2.1 f.2.2.1 ex.2.2.1 f.2.2.2.1 f.2.2.2.2.1 ex.2.2.2.1 ex.2.2.2.2.1 ex.2.2.2.2.2 lf) := hD
  have hl := lv_entry ([.ref (a 0), .int x, .int y]) (n := 8) (Nat.le_of_ble_eq_true rfl)
  rw [lg_entry_eq]
  generalize (lg_sl ([.ref (a 0), .int x, .int y]) ++ List.replicate (8 - (lg_sl ([.ref (a 0), .int x, .int y])).length) Slot.unset).toArray = ls at hl ⊢
  have hl : lv_has ls 8 [(0, .ref (a 0)), (1, .int x), (2, .int y)] := hl
  have hT : sk_TO b.1 t := hOK.1
  have hA : sk_AC b.1 b.2.1 := hOK.2.1
  have hO : sk_OO b t := hOK.2.2.1
  have hch0 : ∀ o, b.1 ≤ o → b.2.2.2.1 o = 0 := hOK.2.2.2.2.1
  have hmk : f.1 ≤ K := hOK.2.2.2.2.2.2.1
  have hK5 : K ≤ 512 := hOK.2.2.2.2.2.1
  have h200 : t.1 ≤ 200 := hT.2.1
  have h60 : b.1 ≤ 60 := hT.2.2.1
  have h100 : sk_there f ≤ 100 := Nat.min_le_right _ _
  have hN : sk_RN t ex.2.1 := hR.1
  have hV : sk_RV b t ex.1 := hR.2.1
  have hF : ∀ i, i < sk_there f → sk_RF b f ex i := hR.2.2
  have hFO : ∀ i, i < sk_there f → sk_FO b t f i := hOK.2.2.2.2.2.2.2
  refine lv_aload_n hx hb dM_drop_0 rfl (lv_at hl 0 rfl) ?_
  refine lv_iconst (v := nI 0) hx hb dM_drop_1 (by decide) ?_
  refine va_put (D := (dC, dI)) (ci := 4) (v := .int (nI 0)) (ty := .int) (C := RM) (T := TM) (N := 20) hx hb hts inM tyM tyM_ok nmM hown hK hP hD hS 0 rfl rfl 0 (by decide) (hts _ wfM_62) (fun _ h9 => h9) rfl (by decide +kernel) rfl rfl (Nat.le_of_ble_eq_true rfl) dM_drop_2 (fun H locs hP hD hS => ?_)
  have hP : va_P (dC, dI) vwCl (sk_wMR a k (nI 0) (nI b.1) b.2.2.1 b.2.2.2.1 ex.1 (nI t.1) t.2.1 t.2.2.1 t.2.2.2.2 ex.2.1 (nI f.1) f.2.1 f.2.2.1 ex.2.2.1 f.2.2.2.1 f.2.2.2.2.1 ex.2.2.2.1 ex.2.2.2.2.1 ex.2.2.2.2.2 lf) H := hP
  have hD : va_D A (sk_wMR a k (nI 0) (nI b.1) b.2.2.1 b.2.2.2.1 ex.1 (nI t.1) t.2.1 t.2.2.1 t.2.2.2.2 ex.2.1 (nI f.1) f.2.1 f.2.2.1 ex.2.2.1 f.2.2.2.1 f.2.2.2.2.1 ex.2.2.2.1 ex.2.2.2.2.1 ex.2.2.2.2.2 lf) := hD
  refine lv_aload_n hx hb dM_drop_5 rfl (lv_at hl 0 rfl) ?_
  refine lv_iload_n hx hb dM_drop_6 rfl (lv_at hl 1 rfl) ?_
  refine va_calli (va_runV (As := [.int x]) (rest := []) ⟨hx, hb, hml, hown, hts⟩ (kM_isObject l dC dI a k b t f ex lf (nI 0) x) (cwV 1 hts (sk_gV wmM_82 wiM_isObject wsM_isObject wnM wcM_isObject) rfl rfl rfl (by decide +kernel) ⟨Nat.le_of_ble_eq_true rfl, Nat.le_of_ble_eq_true rfl⟩) ⟨sk_blindM _, va_recv hK hP (ci := 4) (q0 := 0) rfl rfl, fun U hU hW => ⟨rfl, sk_atM (S := (b, t, f)) (ex := ex) (lf := lf) (th := nI 0) hP hK hU hW⟩⟩ rfl rfl hl.1 rfl (lv_room (Nat.le_of_ble_eq_true rfl)) dM_drop_7 ⟨Nat.le_of_ble_eq_true rfl, Nat.le_of_ble_eq_true rfl⟩) hS (fun _ _ h => h.elim) (fun _ h => h.elim) (fun r7 u7 U9 H locs ht hvm w7 hB hz hk hS => ?_)
  have hP : va_P (dC, dI) vwCl (sk_wMR a k (nI 0) (nI b.1) b.2.2.1 b.2.2.2.1 ex.1 (nI t.1) t.2.1 t.2.2.1 t.2.2.2.2 ex.2.1 (nI f.1) f.2.1 f.2.2.1 ex.2.2.1 f.2.2.2.1 f.2.2.2.2.1 ex.2.2.2.1 ex.2.2.2.2.1 ex.2.2.2.2.2 lf) H := hP.kept (fun j q hq => hk q.1 ((hP j q hq).lt) (fun h => h))
  clear hk hB ht
  rcases sk_bI_or (sk_hasB b.1 x) with ⟨h7, hv⟩ | ⟨h7, hv⟩
  · skip
    obtain rfl : r7 = nI 1 := w7.trans hv
    obtain ⟨o, ho, eo9⟩ := (sk_hasB_iff (by omega)).mp h7
    subst eo9
    obtain ⟨hs1, hs2, hs3⟩ := sk_shOk h200 hO ho
    refine lv_if_ne (tgt := 15) hx hb dM_drop_10 (by decide) (fun _ => ?_) (fun q => absurd q (by decide))
    refine lv_aload_n hx hb dM_drop_15 rfl (lv_at hl 0 rfl) ?_
    refine va_get (D := (dC, dI)) (ci := 4) (v := .ref (a 1)) (C := RM) (T := TM) (N := 20) hx hb hts inM hown hK hP 0 rfl rfl 2 (by decide) (hts _ wfM_7) (fun _ h9 => h9) rfl dM_drop_16 ?_
    refine lv_iload_n hx hb dM_drop_19 rfl (lv_at hl 1 rfl) ?_
    refine va_iald hx hb hK hP 1 0 rfl rfl (vp_in_nI (show o < 60 by omega) (by decide)) dM_drop_20 ?_
    refine lv_topi (fun x20 e20 => ?_)
    rw [nI_clamp (show o < 2 ^ 31 by omega)] at e20
    obtain rfl : x20 = nI (sk_sh b o) := e20.trans (hs2)
    refine lv_istore_n (lv' := [(3, .int (nI (sk_sh b o))), (0, .ref (a 0)), (1, .int (nI o)), (2, .int y)]) hx hb dM_drop_21 rfl hl (by decide) rfl (fun ls hl => ?_)
    refine lv_aload_n hx hb dM_drop_22 rfl (lv_at hl 1 rfl) ?_
    refine lv_iload_n hx hb dM_drop_23 rfl (lv_at hl 0 rfl) ?_
    refine lv_iload_n hx hb dM_drop_24 rfl (lv_at hl 3 rfl) ?_
    refine va_calli (va_runV (As := [.int (nI (sk_sh b o)), .int y]) (rest := []) ⟨hx, hb, hml, hown, hts⟩ (kM_placeOf l dC dI a k b t f ex lf (nI 0) (sk_sh b o) y hT hN hs1) (cwV 2 hts (sk_gV wmM_92 wiM_placeOf wsM_placeOf wnM wcM_placeOf) rfl rfl rfl (by decide +kernel) ⟨Nat.le_of_ble_eq_true rfl, Nat.le_of_ble_eq_true rfl⟩) ⟨sk_blindM _, va_recv hK hP (ci := 4) (q0 := 0) rfl rfl, fun U hU hW => ⟨rfl, sk_atM (S := (b, t, f)) (ex := ex) (lf := lf) (th := nI 0) hP hK hU hW⟩⟩ rfl rfl hl.1 rfl (lv_room (Nat.le_of_ble_eq_true rfl)) dM_drop_25 ⟨Nat.le_of_ble_eq_true rfl, Nat.le_of_ble_eq_true rfl⟩) hS (fun _ _ h => h.elim) (fun _ h => h.elim) (fun r25 u25 U9 H locs ht hvm w25 hB hz hk hS => ?_)
    have hP : va_P (dC, dI) vwCl (sk_wMR a k (nI 0) (nI b.1) b.2.2.1 b.2.2.2.1 ex.1 (nI t.1) t.2.1 t.2.2.1 t.2.2.2.2 ex.2.1 (nI f.1) f.2.1 f.2.2.1 ex.2.2.1 f.2.2.2.1 f.2.2.2.2.1 ex.2.2.2.1 ex.2.2.2.2.1 ex.2.2.2.2.2 lf) H := hP.kept (fun j q hq => hk q.1 ((hP j q hq).lt) (fun h => h))
    clear hk hB ht
    rcases sk_place_spec hT y _ hs1 with ⟨hp, hno⟩ | ⟨kk, hk1, hp, hpk⟩
    · skip
      obtain rfl : r25 = -1 := w25.trans hp
      refine lv_istore (lv' := [(4, .int (-1)), (3, .int (nI (sk_sh b o))), (0, .ref (a 0)), (1, .int (nI o)), (2, .int y)]) hx hb dM_drop_28 hl (by decide) rfl (fun ls hl => ?_)
      refine lv_iload hx hb dM_drop_30 (lv_at hl 0 rfl) ?_
      refine lv_if_ge (tgt := 37) hx hb dM_drop_32 (by decide) (fun q => absurd q (by decide)) (fun _ => ?_)
      refine lv_iconst (v := nI 0) hx hb dM_drop_35 (by decide) ?_
      have hset : sk_drop (b, t, f) (nI o) y = _ := (sk_drop_y (S := (b, t, f)) h60 ho).trans (sk_drop_1 hp)
      exact W.zret (v := nI 0) hx hb hr (by decide) (fun U9 ht hW => ⟨⟨nI 0, ((b, t, f), ex, lf, nI 0), rfl, ⟨by rw [hset]; rfl, ex, lf, nI 0, by rw [hset], by rw [hset]; exact hR⟩, sk_endw ht hP hD⟩, hS.F ht⟩) hS.2.2 dM_drop_36
    · skip
      obtain rfl : r25 = nI kk := w25.trans hp
      have hk2 : kk < 12 := Nat.lt_of_lt_of_le hk1 (sk_lenle hT hs1)
      refine lv_istore (lv' := [(4, .int (nI kk)), (3, .int (nI (sk_sh b o))), (0, .ref (a 0)), (1, .int (nI o)), (2, .int y)]) hx hb dM_drop_28 hl (by decide) rfl (fun ls hl => ?_)
      refine lv_iload hx hb dM_drop_30 (lv_at hl 0 rfl) ?_
      refine lv_if_ge (tgt := 37) hx hb dM_drop_32 (by decide) (fun c32 => ?_) (fun c32 => ?_)
      · skip
        have n32 : 0 ≤ kk := (nI_leI (a := 0) (b := kk) (by omega) (by omega)).mp c32
        obtain ⟨g, hg0, hle, hlen⟩ := sk_lenOk hT hs1
        refine lv_iconst (v := nI 0) hx hb dM_drop_37 (by decide) ?_
        refine lv_istore (lv' := [(5, .int (nI 0)), (4, .int (nI kk)), (3, .int (nI (sk_sh b o))), (0, .ref (a 0)), (1, .int (nI o)), (2, .int y)]) hx hb dM_drop_38 hl (by decide) rfl (fun ls hl => ?_)
        refine lv_iconst (v := nI 0) hx hb dM_drop_40 (by decide) ?_
        refine lv_istore (lv' := [(6, .int (nI 0)), (5, .int (nI 0)), (4, .int (nI kk)), (3, .int (nI (sk_sh b o))), (0, .ref (a 0)), (1, .int (nI o)), (2, .int y)]) hx hb dM_drop_41 hl (by decide) rfl (fun ls hl => ?_)
        have loop1 : ∀ (nn : Nat) (cn pp : Nat) (lf2 : sk_F), pp ≤ g → cn = (sk_lft t (sk_sh b o) y pp).length → (∀ j, j < (sk_lft t (sk_sh b o) y pp).length → lf2 j = (sk_lft t (sk_sh b o) y pp).getD j 0) → g - pp < nn → ∀ (H : Heap) (locs : List Loc), va_P (dC, dI) vwCl (sk_wMR a k (nI 0) (nI b.1) b.2.2.1 b.2.2.2.1 ex.1 (nI t.1) t.2.1 t.2.2.1 t.2.2.2.2 ex.2.1 (nI f.1) f.2.1 f.2.2.1 ex.2.2.1 f.2.2.2.1 f.2.2.2.2.1 ex.2.2.2.1 ex.2.2.2.2.1 ex.2.2.2.2.2 lf2) H → va_D A (sk_wMR a k (nI 0) (nI b.1) b.2.2.1 b.2.2.2.1 ex.1 (nI t.1) t.2.1 t.2.2.1 t.2.2.2.2 ex.2.1 (nI f.1) f.2.1 f.2.2.1 ex.2.2.1 f.2.2.2.1 f.2.2.2.2.1 ex.2.2.2.1 ex.2.2.2.2.1 ex.2.2.2.2.2 lf2) → va_S A s.heap H locs → ∀ ls : Array Slot, lv_has ls 8 [(6, .int (nI pp)), (5, .int (nI cn)), (4, .int (nI kk)), (3, .int (nI (sk_sh b o))), (0, .ref (a 0)), (1, .int (nI o)), (2, .int y)] → W p l e (headSpec wzM_drop rzM_drop).room s m ([.ref (a 0), .int (nI o), .int y] : List Value).toArray below meth c H locs 0 0 (MQ below (va_Qi (fun r (u : sk_S × sk_Ex × sk_F × Int32) => r = sk_bI (sk_drop (b, t, f) (nI o) y).1 ∧ ∃ ex2 lf2 th2, u = ((sk_drop (b, t, f) (nI o) y).2, ex2, lf2, th2) ∧ sk_RM (sk_drop (b, t, f) (nI o) y).2 ex2) (fun u U => va_P (dC, dI) vwCl (sk_wM a k u.1 u.2.1 u.2.2.1 u.2.2.2) U.heap ∧ va_D A (sk_wM a k u.1 u.2.1 u.2.2.1 u.2.2.2)) A) ([.ref (a 0), .int (nI o), .int y] : List Value).toArray s 0 0 A) (F0 m 43 ls []) := by
          intro nn
          induction nn with
          | zero => intro cn pp lf2 hpp hc hw2 hmu; exact absurd hmu (Nat.not_lt_zero _)
          | succ nn ih1 =>
            intro cn pp lf2 hpp hc hw2 hmu H locs hP hD hS ls hl
            refine lv_iload hx hb dM_drop_43 (lv_at hl 0 rfl) ?_
            refine lv_aload_n hx hb dM_drop_45 rfl (lv_at hl 4 rfl) ?_
            refine va_get (D := (dC, dI)) (ci := 4) (v := .ref (a 6)) (C := RM) (T := TM) (N := 20) hx hb hts inM hown hK hP 0 rfl rfl 8 (by decide) (hts _ wfM_29) (fun _ h9 => h9) rfl dM_drop_46 ?_
            refine lv_iload_n hx hb dM_drop_49 rfl (lv_at hl 3 rfl) ?_
            refine va_iald hx hb hK hP 6 0 rfl rfl (vp_in_nI (show (sk_sh b o) < 200 by omega) (by decide)) dM_drop_50 ?_
            refine lv_topi (fun x50 e50 => ?_)
            rw [nI_clamp (show (sk_sh b o) < 2 ^ 31 by omega)] at e50
            obtain rfl : x50 = nI g := e50.trans (hle)
            refine lv_icmp_ge (tgt := 92) hx hb dM_drop_51 (by decide) (fun c51 => ?_) (fun c51 => ?_)
            · skip
              have n51 : g ≤ pp := (nI_leI (a := g) (b := pp) (by omega) (by omega)).mp c51
              have hall : (sk_lft t (sk_sh b o) y pp) = (sk_left t (sk_sh b o) y) := sk_lft_all (by omega)
              rw [hall] at hc hw2
              subst hc
              refine lv_aload_n hx hb dM_drop_92 rfl (lv_at hl 4 rfl) ?_
              refine lv_aload_n hx hb dM_drop_93 rfl (lv_at hl 4 rfl) ?_
              refine va_get (D := (dC, dI)) (ci := 4) (v := .ref (a 4)) (C := RM) (T := TM) (N := 20) hx hb hts inM hown hK hP 0 rfl rfl 6 (by decide) (hts _ wfM_23) (fun _ h9 => h9) rfl dM_drop_94 ?_
              refine lv_iload_n hx hb dM_drop_97 rfl (lv_at hl 3 rfl) ?_
              refine va_iald hx hb hK hP 4 0 rfl rfl (vp_in_nI (show (sk_sh b o) < 200 by omega) (by decide)) dM_drop_98 ?_
              refine lv_topi (fun x98 e98 => ?_)
              rw [nI_clamp (show (sk_sh b o) < 2 ^ 31 by omega)] at e98
              obtain rfl : x98 = b.2.1 o := e98.trans (hs3.symm)
              refine lv_iload hx hb dM_drop_99 (lv_at hl 1 rfl) ?_
              refine va_calli (va_runV (As := [.int (b.2.1 o), .int (nI ((sk_left t (sk_sh b o) y).length))]) (rest := []) ⟨hx, hb, hml, hown, hts⟩ (kM_shapeFor l dC dI a k b t f ex lf2 (nI 0) A (b.2.1 o) (sk_left t (sk_sh b o) y) hT hN (hA.2.1 o ho) (sk_left_len hT hs1 y) (sk_left_ok hT hs1 y).1 (sk_left_ok hT hs1 y).2 hw2) (cwV 2 hts (sk_gV wmM_86 wiM_shapeFor wsM_shapeFor wnM wcM_shapeFor) rfl rfl rfl (by decide +kernel) ⟨Nat.le_of_ble_eq_true rfl, Nat.le_of_ble_eq_true rfl⟩) ⟨sk_blindMD _, va_recv hK hP (ci := 4) (q0 := 0) rfl rfl, fun U hU hW => ⟨rfl, sk_atM (S := (b, t, f)) (ex := ex) (lf := lf2) (th := nI 0) hP hK hU hW, hD⟩⟩ rfl rfl hl.1 rfl (lv_room (Nat.le_of_ble_eq_true rfl)) dM_drop_101 ⟨Nat.le_of_ble_eq_true rfl, Nat.le_of_ble_eq_true rfl⟩) hS (fun _ _ h => h) (fun _ h => h) (fun r101 u101 U9 H locs ht hvm w101 hB hz hk hS => ?_)
              obtain ⟨hP, hD⟩ := hB
              rw [ht] at hP
              rcases w101 with ⟨hg, rfl, rfl⟩ | ⟨t2, g2, na2, hg, rfl, rfl, hN2⟩
              · skip
                have hP : va_P (dC, dI) vwCl (sk_wMR a k (nI 0) (nI b.1) b.2.2.1 b.2.2.2.1 ex.1 (nI t.1) t.2.1 t.2.2.1 t.2.2.2.2 ex.2.1 (nI f.1) f.2.1 f.2.2.1 ex.2.2.1 f.2.2.2.1 f.2.2.2.2.1 ex.2.2.2.1 ex.2.2.2.2.1 ex.2.2.2.2.2 lf2) H := hP
                have hD : va_D A (sk_wMR a k (nI 0) (nI b.1) b.2.2.1 b.2.2.2.1 ex.1 (nI t.1) t.2.1 t.2.2.1 t.2.2.2.2 ex.2.1 (nI f.1) f.2.1 f.2.2.1 ex.2.2.1 f.2.2.2.1 f.2.2.2.2.1 ex.2.2.2.1 ex.2.2.2.2.1 ex.2.2.2.2.2 lf2) := hD
                refine lv_istore (lv' := [(6, .int (-1)), (5, .int (nI ((sk_left t (sk_sh b o) y).length))), (4, .int (nI kk)), (3, .int (nI (sk_sh b o))), (0, .ref (a 0)), (1, .int (nI o)), (2, .int y)]) hx hb dM_drop_104 hl (by decide) rfl (fun ls hl => ?_)
                refine lv_iload hx hb dM_drop_106 (lv_at hl 0 rfl) ?_
                refine lv_if_ge (tgt := 113) hx hb dM_drop_108 (by decide) (fun q => absurd q (by decide)) (fun _ => ?_)
                refine lv_iconst (v := nI 0) hx hb dM_drop_111 (by decide) ?_
                have hset : sk_drop (b, t, f) (nI o) y = _ := (sk_drop_y (S := (b, t, f)) h60 ho).trans (sk_drop_2 hk2 hp hg)
                exact W.zret (v := nI 0) hx hb hr (by decide) (fun U9 ht hW => ⟨⟨nI 0, ((b, t, f), ex, lf2, nI 0), rfl, ⟨by rw [hset]; rfl, ex, lf2, nI 0, by rw [hset], by rw [hset]; exact hR⟩, sk_endw ht hP hD⟩, hS.F ht⟩) hS.2.2 dM_drop_112
              · skip
                have hP : va_P (dC, dI) vwCl (sk_wMR a k (nI 0) (nI b.1) b.2.2.1 b.2.2.2.1 ((ex.1, na2, ex.2.2).1) (nI t2.1) t2.2.1 t2.2.2.1 t2.2.2.2.2 ((ex.1, na2, ex.2.2).2.1) (nI f.1) f.2.1 f.2.2.1 ((ex.1, na2, ex.2.2).2.2.1) f.2.2.2.1 f.2.2.2.2.1 ((ex.1, na2, ex.2.2).2.2.2.1) ((ex.1, na2, ex.2.2).2.2.2.2.1) ((ex.1, na2, ex.2.2).2.2.2.2.2) lf2) H := hP
                have hD : va_D A (sk_wMR a k (nI 0) (nI b.1) b.2.2.1 b.2.2.2.1 ((ex.1, na2, ex.2.2).1) (nI t2.1) t2.2.1 t2.2.2.1 t2.2.2.2.2 ((ex.1, na2, ex.2.2).2.1) (nI f.1) f.2.1 f.2.2.1 ((ex.1, na2, ex.2.2).2.2.1) f.2.2.2.1 f.2.2.2.2.1 ((ex.1, na2, ex.2.2).2.2.2.1) ((ex.1, na2, ex.2.2).2.2.2.2.1) ((ex.1, na2, ex.2.2).2.2.2.2.2) lf2) := hD
                obtain ⟨q1, q2, q3, q4, q5⟩ := sk_reach_spec hT (hA.2.1 o ho) (sk_left_ok hT hs1 y).1 (sk_left_ok hT hs1 y).2 hg
                have hg200 : t2.1 ≤ 200 := q1.2.1
                have hcut : (sk_left t (sk_sh b o) y).length + 1 = sk_len t (sk_sh b o) := sk_left_cut hT hs1 hk1 hpk
                refine lv_istore (lv' := [(6, .int (nI g2)), (5, .int (nI ((sk_left t (sk_sh b o) y).length))), (4, .int (nI kk)), (3, .int (nI (sk_sh b o))), (0, .ref (a 0)), (1, .int (nI o)), (2, .int y)]) hx hb dM_drop_104 hl (by decide) rfl (fun ls hl => ?_)
                refine lv_iload hx hb dM_drop_106 (lv_at hl 0 rfl) ?_
                refine lv_if_ge (tgt := 113) hx hb dM_drop_108 (by decide) (fun c108 => ?_) (fun c108 => ?_)
                · skip
                  have n108 : 0 ≤ g2 := (nI_leI (a := 0) (b := g2) (by omega) (by omega)).mp c108
                  refine lv_iload hx hb dM_drop_113 (lv_at hl 2 rfl) ?_
                  refine lv_istore (lv' := [(7, .int (nI kk)), (6, .int (nI g2)), (5, .int (nI ((sk_left t (sk_sh b o) y).length))), (4, .int (nI kk)), (3, .int (nI (sk_sh b o))), (0, .ref (a 0)), (1, .int (nI o)), (2, .int y)]) hx hb dM_drop_115 hl (by decide) rfl (fun ls hl => ?_)
                  have loop2 : ∀ (nn : Nat) (j : Nat) (vw : sk_F), kk ≤ j → j ≤ (sk_left t (sk_sh b o) y).length → (∀ q, ¬ (12 * o + kk ≤ q ∧ q < 12 * o + j) → vw q = ex.1 q) → (∀ i9, kk ≤ i9 → i9 < j → vw (12 * o + i9) = ex.1 (12 * o + (i9 + 1))) → (sk_left t (sk_sh b o) y).length - j < nn → ∀ (H : Heap) (locs : List Loc), va_P (dC, dI) vwCl (sk_wMR a k (nI 0) (nI b.1) b.2.2.1 b.2.2.2.1 vw (nI t2.1) t2.2.1 t2.2.2.1 t2.2.2.2.2 ((ex.1, na2, ex.2.2).2.1) (nI f.1) f.2.1 f.2.2.1 ((ex.1, na2, ex.2.2).2.2.1) f.2.2.2.1 f.2.2.2.2.1 ((ex.1, na2, ex.2.2).2.2.2.1) ((ex.1, na2, ex.2.2).2.2.2.2.1) ((ex.1, na2, ex.2.2).2.2.2.2.2) lf2) H → va_D A (sk_wMR a k (nI 0) (nI b.1) b.2.2.1 b.2.2.2.1 vw (nI t2.1) t2.2.1 t2.2.2.1 t2.2.2.2.2 ((ex.1, na2, ex.2.2).2.1) (nI f.1) f.2.1 f.2.2.1 ((ex.1, na2, ex.2.2).2.2.1) f.2.2.2.1 f.2.2.2.2.1 ((ex.1, na2, ex.2.2).2.2.2.1) ((ex.1, na2, ex.2.2).2.2.2.2.1) ((ex.1, na2, ex.2.2).2.2.2.2.2) lf2) → va_S A s.heap H locs → ∀ ls : Array Slot, lv_has ls 8 [(7, .int (nI j)), (6, .int (nI g2)), (5, .int (nI ((sk_left t (sk_sh b o) y).length))), (0, .ref (a 0)), (1, .int (nI o))] → W p l e (headSpec wzM_drop rzM_drop).room s m ([.ref (a 0), .int (nI o), .int y] : List Value).toArray below meth c H locs 0 0 (MQ below (va_Qi (fun r (u : sk_S × sk_Ex × sk_F × Int32) => r = sk_bI (sk_drop (b, t, f) (nI o) y).1 ∧ ∃ ex2 lf2 th2, u = ((sk_drop (b, t, f) (nI o) y).2, ex2, lf2, th2) ∧ sk_RM (sk_drop (b, t, f) (nI o) y).2 ex2) (fun u U => va_P (dC, dI) vwCl (sk_wM a k u.1 u.2.1 u.2.2.1 u.2.2.2) U.heap ∧ va_D A (sk_wM a k u.1 u.2.1 u.2.2.1 u.2.2.2)) A) ([.ref (a 0), .int (nI o), .int y] : List Value).toArray s 0 0 A) (F0 m 117 ls []) := by
                    intro nn
                    induction nn with
                    | zero => intro j vw hj1 hj2 hA9 hB9 hmu; exact absurd hmu (Nat.not_lt_zero _)
                    | succ nn ih2 =>
                      intro j vw hj1 hj2 hA9 hB9 hmu H locs hP hD hS ls hl
                      refine lv_iload hx hb dM_drop_117 (lv_at hl 0 rfl) ?_
                      refine lv_iload hx hb dM_drop_119 (lv_at hl 2 rfl) ?_
                      refine lv_icmp_ge (tgt := 156) hx hb dM_drop_121 (by decide) (fun c121 => ?_) (fun c121 => ?_)
                      · skip
                        have n121 : ((sk_left t (sk_sh b o) y).length) ≤ j := (nI_leI (a := ((sk_left t (sk_sh b o) y).length)) (b := j) (by omega) (by omega)).mp c121
                        refine lv_aload_n hx hb dM_drop_156 rfl (lv_at hl 3 rfl) ?_
                        refine va_get (D := (dC, dI)) (ci := 4) (v := .ref (a 1)) (C := RM) (T := TM) (N := 20) hx hb hts inM hown hK hP 0 rfl rfl 2 (by decide) (hts _ wfM_7) (fun _ h9 => h9) rfl dM_drop_157 ?_
                        refine lv_iload_n hx hb dM_drop_160 rfl (lv_at hl 4 rfl) ?_
                        refine lv_iload hx hb dM_drop_161 (lv_at hl 1 rfl) ?_
                        refine va_iast hx hb hK hP hD hS 1 0 rfl rfl (vp_in_nI (show o < 60 by omega) (by decide)) dM_drop_163 (fun H locs hP hD hS => ?_)
                        rw [nI_clamp (show o < 2 ^ 31 by omega)] at hP hD
                        have hP : va_P (dC, dI) vwCl (sk_wMR a k (nI 0) (nI b.1) (upd b.2.2.1 o (nI g2)) b.2.2.2.1 vw (nI t2.1) t2.2.1 t2.2.2.1 t2.2.2.2.2 ((ex.1, na2, ex.2.2).2.1) (nI f.1) f.2.1 f.2.2.1 ((ex.1, na2, ex.2.2).2.2.1) f.2.2.2.1 f.2.2.2.2.1 ((ex.1, na2, ex.2.2).2.2.2.1) ((ex.1, na2, ex.2.2).2.2.2.2.1) ((ex.1, na2, ex.2.2).2.2.2.2.2) lf2) H := hP
                        have hD : va_D A (sk_wMR a k (nI 0) (nI b.1) (upd b.2.2.1 o (nI g2)) b.2.2.2.1 vw (nI t2.1) t2.2.1 t2.2.2.1 t2.2.2.2.2 ((ex.1, na2, ex.2.2).2.1) (nI f.1) f.2.1 f.2.2.1 ((ex.1, na2, ex.2.2).2.2.1) f.2.2.2.1 f.2.2.2.2.1 ((ex.1, na2, ex.2.2).2.2.2.1) ((ex.1, na2, ex.2.2).2.2.2.2.1) ((ex.1, na2, ex.2.2).2.2.2.2.2) lf2) := hD
                        refine lv_aload_n hx hb dM_drop_164 rfl (lv_at hl 3 rfl) ?_
                        refine va_get (D := (dC, dI)) (ci := 4) (v := .ref (a 2)) (C := RM) (T := TM) (N := 20) hx hb hts inM hown hK hP 0 rfl rfl 3 (by decide) (hts _ wfM_13) (fun _ h9 => h9) rfl dM_drop_165 ?_
                        refine lv_iload_n hx hb dM_drop_168 rfl (lv_at hl 4 rfl) ?_
                        refine lv_dup2_11 hx hb dM_drop_169 rfl rfl ?_
                        refine va_iald hx hb hK hP 2 0 rfl rfl (vp_in_nI (show o < 60 by omega) (by decide)) dM_drop_170 ?_
                        refine lv_topi (fun x170 e170 => ?_)
                        rw [nI_clamp (show o < 2 ^ 31 by omega)] at e170
                        refine lv_iconst (v := nI 1) hx hb dM_drop_171 (by decide) ?_
                        refine lv_iadd hx hb dM_drop_172 ?_
                        refine lv_topi (fun x172 e172 => ?_)
                        obtain rfl : x172 = b.2.2.2.1 o + 1 := e172.trans (by rw [e170]; rfl)
                        refine va_iast hx hb hK hP hD hS 2 0 rfl rfl (vp_in_nI (show o < 60 by omega) (by decide)) dM_drop_173 (fun H locs hP hD hS => ?_)
                        rw [nI_clamp (show o < 2 ^ 31 by omega)] at hP hD
                        have hP : va_P (dC, dI) vwCl (sk_wMR a k (nI 0) (nI b.1) (upd b.2.2.1 o (nI g2)) (upd b.2.2.2.1 o (b.2.2.2.1 o + 1)) vw (nI t2.1) t2.2.1 t2.2.2.1 t2.2.2.2.2 ((ex.1, na2, ex.2.2).2.1) (nI f.1) f.2.1 f.2.2.1 ((ex.1, na2, ex.2.2).2.2.1) f.2.2.2.1 f.2.2.2.2.1 ((ex.1, na2, ex.2.2).2.2.2.1) ((ex.1, na2, ex.2.2).2.2.2.2.1) ((ex.1, na2, ex.2.2).2.2.2.2.2) lf2) H := hP
                        have hD : va_D A (sk_wMR a k (nI 0) (nI b.1) (upd b.2.2.1 o (nI g2)) (upd b.2.2.2.1 o (b.2.2.2.1 o + 1)) vw (nI t2.1) t2.2.1 t2.2.2.1 t2.2.2.2.2 ((ex.1, na2, ex.2.2).2.1) (nI f.1) f.2.1 f.2.2.1 ((ex.1, na2, ex.2.2).2.2.1) f.2.2.2.1 f.2.2.2.2.1 ((ex.1, na2, ex.2.2).2.2.2.1) ((ex.1, na2, ex.2.2).2.2.2.2.1) ((ex.1, na2, ex.2.2).2.2.2.2.2) lf2) := hD
                        refine lv_iconst (v := nI 1) hx hb dM_drop_174 (by decide) ?_
                        have hset : sk_drop (b, t, f) (nI o) y = _ := (sk_drop_y (S := (b, t, f)) h60 ho).trans (sk_drop_3 hk2 hp hg)
                        have hj9 : j = (sk_left t (sk_sh b o) y).length := by omega
                        subst hj9
                        exact W.zret (v := nI 1) hx hb hr (by decide) (fun U9 ht hW => ⟨⟨nI 1, ((sk_chg (sk_gap b o kk) o g2, t2, sk_brk f o), (vw, na2, ex.2.2), lf2, nI 0), rfl, ⟨by rw [hset]; rfl, (vw, na2, ex.2.2), lf2, nI 0, by rw [hset], by rw [hset]; exact sk_RM_drop hOK hK1 ho hR q1 q2 q3 (by rw [← sk_names_len, q5]) hcut hN2 hA9 hB9⟩, sk_endw ht hP hD⟩, hS.F ht⟩) hS.2.2 dM_drop_175
                      · skip
                        have n121 : ¬ ((sk_left t (sk_sh b o) y).length) ≤ j := fun z9 => c121 ((nI_leI (a := ((sk_left t (sk_sh b o) y).length)) (b := j) (by omega) (by omega)).mpr z9)
                        refine lv_aload_n hx hb dM_drop_124 rfl (lv_at hl 3 rfl) ?_
                        refine va_get (D := (dC, dI)) (ci := 4) (v := .ref (a 3)) (C := RM) (T := TM) (N := 20) hx hb hts inM hown hK hP 0 rfl rfl 4 (by decide) (hts _ wfM_16) (fun _ h9 => h9) rfl dM_drop_125 ?_
                        refine lv_bipush (v := nI 12) hx hb dM_drop_128 (by decide) ?_
                        refine lv_iload_n hx hb dM_drop_130 rfl (lv_at hl 4 rfl) ?_
                        refine lv_imul hx hb dM_drop_131 ?_
                        refine lv_topi (fun x131 e131 => ?_)
                        obtain rfl : x131 = nI (12 * o) := e131.trans (pk_mul _ _)
                        refine lv_iload hx hb dM_drop_132 (lv_at hl 0 rfl) ?_
                        refine lv_iadd hx hb dM_drop_134 ?_
                        refine lv_topi (fun x134 e134 => ?_)
                        obtain rfl : x134 = nI ((12 * o) + j) := e134.trans (nI_add _ _)
                        refine lv_aload_n hx hb dM_drop_135 rfl (lv_at hl 3 rfl) ?_
                        refine va_get (D := (dC, dI)) (ci := 4) (v := .ref (a 3)) (C := RM) (T := TM) (N := 20) hx hb hts inM hown hK hP 0 rfl rfl 4 (by decide) (hts _ wfM_16) (fun _ h9 => h9) rfl dM_drop_136 ?_
                        refine lv_bipush (v := nI 12) hx hb dM_drop_139 (by decide) ?_
                        refine lv_iload_n hx hb dM_drop_141 rfl (lv_at hl 4 rfl) ?_
                        refine lv_imul hx hb dM_drop_142 ?_
                        refine lv_topi (fun x142 e142 => ?_)
                        obtain rfl : x142 = nI (12 * o) := e142.trans (pk_mul _ _)
                        refine lv_iload hx hb dM_drop_143 (lv_at hl 0 rfl) ?_
                        refine lv_iadd hx hb dM_drop_145 ?_
                        refine lv_topi (fun x145 e145 => ?_)
                        obtain rfl : x145 = nI ((12 * o) + j) := e145.trans (nI_add _ _)
                        refine lv_iconst (v := nI 1) hx hb dM_drop_146 (by decide) ?_
                        refine lv_iadd hx hb dM_drop_147 ?_
                        refine lv_topi (fun x147 e147 => ?_)
                        obtain rfl : x147 = nI (((12 * o) + j) + 1) := e147.trans (nI_add _ _)
                        refine va_iald hx hb hK hP 3 0 rfl rfl (vp_in_nI (show (((12 * o) + j) + 1) < 720 by omega) (by decide)) dM_drop_148 ?_
                        refine lv_topi (fun x148 e148 => ?_)
                        rw [nI_clamp (show (((12 * o) + j) + 1) < 2 ^ 31 by omega)] at e148
                        refine va_iast hx hb hK hP hD hS 3 0 rfl rfl (vp_in_nI (show ((12 * o) + j) < 720 by omega) (by decide)) dM_drop_149 (fun H locs hP hD hS => ?_)
                        rw [nI_clamp (show ((12 * o) + j) < 2 ^ 31 by omega)] at hP hD
                        have hP : va_P (dC, dI) vwCl (sk_wMR a k (nI 0) (nI b.1) b.2.2.1 b.2.2.2.1 (upd vw ((12 * o) + j) x148) (nI t2.1) t2.2.1 t2.2.2.1 t2.2.2.2.2 ((ex.1, na2, ex.2.2).2.1) (nI f.1) f.2.1 f.2.2.1 ((ex.1, na2, ex.2.2).2.2.1) f.2.2.2.1 f.2.2.2.2.1 ((ex.1, na2, ex.2.2).2.2.2.1) ((ex.1, na2, ex.2.2).2.2.2.2.1) ((ex.1, na2, ex.2.2).2.2.2.2.2) lf2) H := hP
                        have hD : va_D A (sk_wMR a k (nI 0) (nI b.1) b.2.2.1 b.2.2.2.1 (upd vw ((12 * o) + j) x148) (nI t2.1) t2.2.1 t2.2.2.1 t2.2.2.2.2 ((ex.1, na2, ex.2.2).2.1) (nI f.1) f.2.1 f.2.2.1 ((ex.1, na2, ex.2.2).2.2.1) f.2.2.2.1 f.2.2.2.2.1 ((ex.1, na2, ex.2.2).2.2.2.1) ((ex.1, na2, ex.2.2).2.2.2.2.1) ((ex.1, na2, ex.2.2).2.2.2.2.2) lf2) := hD
                        refine lv_iinc (v := nI (j + 1)) (lv' := [(7, .int (nI (j + 1))), (6, .int (nI g2)), (5, .int (nI ((sk_left t (sk_sh b o) y).length))), (0, .ref (a 0)), (1, .int (nI o))]) hx hb dM_drop_150 hl (k := 0) rfl (sk_inc _) (by decide) rfl (fun ls hl => ?_)
                        refine lv_goto (tgt := 117) hx hb dM_drop_153 (by decide) ?_
                        exact ih2 (j + 1) (upd vw (12 * o + j) x148) (by omega) (by omega) (fun q hq => (pk_un (by omega)).trans (hA9 q (by omega))) (fun i9 h1 h2 => (Nat.lt_or_eq_of_le (Nat.le_of_lt_succ h2)).elim (fun z9 => (pk_un (by omega)).trans (hB9 i9 h1 z9)) (fun z9 => by subst z9; rw [pk_us, e148]; exact hA9 _ (by omega))) (by omega) _ _ hP hD hS ls (lv_sub hl [0, 1, 2, 3, 4] rfl)
                  exact loop2 ((sk_left t (sk_sh b o) y).length - kk + 1) kk ex.1 (Nat.le_refl _) (by omega) (fun _ _ => rfl) (fun i9 h1 h2 => absurd h2 (by omega)) (Nat.lt_succ_self _) _ _ hP hD hS ls (lv_sub hl [0, 1, 2, 5, 6] rfl)
                · skip
                  have n108 : ¬ 0 ≤ g2 := fun z9 => c108 ((nI_leI (a := 0) (b := g2) (by omega) (by omega)).mpr z9)
                  omega
            · skip
              have n51 : ¬ g ≤ pp := fun z9 => c51 ((nI_leI (a := g) (b := pp) (by omega) (by omega)).mpr z9)
              have hcl : cn ≤ pp := by rw [hc]; exact sk_lft_len _ _ _ _
              refine lv_iload hx hb dM_drop_54 (lv_at hl 0 rfl) ?_
              refine lv_iload hx hb dM_drop_56 (lv_at hl 2 rfl) ?_
              refine lv_icmp_ne (tgt := 64) hx hb dM_drop_58 (by decide) (fun c58 => ?_) (fun c58 => ?_)
              · skip
                have n58 : ¬ pp = kk := fun z9 => c58 ((nI_eq (a := pp) (b := kk) (by omega) (by omega)).mpr z9)
                refine lv_aload_n hx hb dM_drop_64 rfl (lv_at hl 4 rfl) ?_
                refine va_get (D := (dC, dI)) (ci := 4) (v := .ref (a 16)) (C := RM) (T := TM) (N := 20) hx hb hts inM hown hK hP 0 rfl rfl 19 (by decide) (hts _ wfM_59) (fun _ h9 => h9) rfl dM_drop_65 ?_
                refine lv_iload hx hb dM_drop_68 (lv_at hl 1 rfl) ?_
                refine lv_aload_n hx hb dM_drop_70 rfl (lv_at hl 4 rfl) ?_
                refine va_get (D := (dC, dI)) (ci := 4) (v := .ref (a 7)) (C := RM) (T := TM) (N := 20) hx hb hts inM hown hK hP 0 rfl rfl 9 (by decide) (hts _ wfM_32) (fun _ h9 => h9) rfl dM_drop_71 ?_
                refine lv_bipush (v := nI 12) hx hb dM_drop_74 (by decide) ?_
                refine lv_iload_n hx hb dM_drop_76 rfl (lv_at hl 3 rfl) ?_
                refine lv_imul hx hb dM_drop_77 ?_
                refine lv_topi (fun x77 e77 => ?_)
                obtain rfl : x77 = nI (12 * (sk_sh b o)) := e77.trans (pk_mul _ _)
                refine lv_iload hx hb dM_drop_78 (lv_at hl 0 rfl) ?_
                refine lv_iadd hx hb dM_drop_80 ?_
                refine lv_topi (fun x80 e80 => ?_)
                obtain rfl : x80 = nI ((12 * (sk_sh b o)) + pp) := e80.trans (nI_add _ _)
                refine va_iald hx hb hK hP 7 0 rfl rfl (vp_in_nI (show ((12 * (sk_sh b o)) + pp) < 2400 by omega) (by decide)) dM_drop_81 ?_
                refine lv_topi (fun x81 e81 => ?_)
                rw [nI_clamp (show ((12 * (sk_sh b o)) + pp) < 2 ^ 31 by omega)] at e81
                obtain rfl : x81 = sk_nm t (sk_sh b o) pp := e81.trans (hN _ hs1 pp (by omega))
                refine va_iast hx hb hK hP hD hS 16 0 rfl rfl (vp_in_nI (show cn < 12 by omega) (by decide)) dM_drop_82 (fun H locs hP hD hS => ?_)
                rw [nI_clamp (show cn < 2 ^ 31 by omega)] at hP hD
                have hP : va_P (dC, dI) vwCl (sk_wMR a k (nI 0) (nI b.1) b.2.2.1 b.2.2.2.1 ex.1 (nI t.1) t.2.1 t.2.2.1 t.2.2.2.2 ex.2.1 (nI f.1) f.2.1 f.2.2.1 ex.2.2.1 f.2.2.2.1 f.2.2.2.2.1 ex.2.2.2.1 ex.2.2.2.2.1 ex.2.2.2.2.2 (upd lf2 cn (sk_nm t (sk_sh b o) pp))) H := hP
                have hD : va_D A (sk_wMR a k (nI 0) (nI b.1) b.2.2.1 b.2.2.2.1 ex.1 (nI t.1) t.2.1 t.2.2.1 t.2.2.2.2 ex.2.1 (nI f.1) f.2.1 f.2.2.1 ex.2.2.1 f.2.2.2.1 f.2.2.2.2.1 ex.2.2.2.1 ex.2.2.2.2.1 ex.2.2.2.2.2 (upd lf2 cn (sk_nm t (sk_sh b o) pp))) := hD
                refine lv_iinc (v := nI (cn + 1)) (lv' := [(5, .int (nI (cn + 1))), (6, .int (nI pp)), (4, .int (nI kk)), (3, .int (nI (sk_sh b o))), (0, .ref (a 0)), (1, .int (nI o)), (2, .int y)]) hx hb dM_drop_83 hl (k := 1) rfl (sk_inc _) (by decide) rfl (fun ls hl => ?_)
                refine lv_iinc (v := nI (pp + 1)) (lv' := [(6, .int (nI (pp + 1))), (5, .int (nI (cn + 1))), (4, .int (nI kk)), (3, .int (nI (sk_sh b o))), (0, .ref (a 0)), (1, .int (nI o)), (2, .int y)]) hx hb dM_drop_86 hl (k := 1) rfl (sk_inc _) (by decide) rfl (fun ls hl => ?_)
                refine lv_goto (tgt := 43) hx hb dM_drop_89 (by decide) ?_
                exact ih1 (cn + 1) (pp + 1) (upd lf2 cn (sk_nm t (sk_sh b o) pp)) (by omega) (by rw [sk_lft_s (by omega), if_neg (fun z9 => n58 (sk_nm_inj hT _ hs1 pp (by omega) kk hk1 (z9.trans hpk.symm))), List.length_append, ← hc]; rfl) (by rw [sk_lft_s (by omega), if_neg (fun z9 => n58 (sk_nm_inj hT _ hs1 pp (by omega) kk hk1 (z9.trans hpk.symm))), hc]; exact sk_row_app hw2) (by omega) _ _ hP hD hS ls (lv_sub hl [0, 1, 2, 3, 4, 5, 6] rfl)
              · skip
                have n58 : pp = kk := (nI_eq (a := pp) (b := kk) (by omega) (by omega)).mp c58
                refine lv_goto (tgt := 86) hx hb dM_drop_61 (by decide) ?_
                refine lv_iinc (v := nI (pp + 1)) (lv' := [(6, .int (nI (pp + 1))), (5, .int (nI cn)), (4, .int (nI kk)), (3, .int (nI (sk_sh b o))), (0, .ref (a 0)), (1, .int (nI o)), (2, .int y)]) hx hb dM_drop_86 hl (k := 0) rfl (sk_inc _) (by decide) rfl (fun ls hl => ?_)
                refine lv_goto (tgt := 43) hx hb dM_drop_89 (by decide) ?_
                exact ih1 cn (pp + 1) lf2 (by omega) (by rw [sk_lft_s (by omega), if_pos (by rw [n58]; exact hpk), List.append_nil]; exact hc) (by rw [sk_lft_s (by omega), if_pos (by rw [n58]; exact hpk), List.append_nil]; exact hw2) (by omega) _ _ hP hD hS ls (lv_sub hl [0, 1, 2, 3, 4, 5, 6] rfl)
        exact loop1 (g - 0 + 1) 0 0 lf (Nat.zero_le _) (rfl) (fun j hj => absurd hj (Nat.not_lt_zero j)) (Nat.lt_succ_self _) _ _ hP hD hS ls (lv_sub hl [0, 1, 2, 3, 4, 5, 6] rfl)
      · skip
        have n32 : ¬ 0 ≤ kk := fun z9 => c32 ((nI_leI (a := 0) (b := kk) (by omega) (by omega)).mpr z9)
        omega
  · skip
    obtain rfl : r7 = nI 0 := w7.trans hv
    refine lv_if_ne (tgt := 15) hx hb dM_drop_10 (by decide) (fun q => absurd q (by decide)) (fun _ => ?_)
    refine lv_iconst (v := nI 0) hx hb dM_drop_13 (by decide) ?_
    have hset := sk_drop_n (S := (b, t, f)) (y := y) h7
    exact W.zret (v := nI 0) hx hb hr (by decide) (fun U9 ht hW => ⟨⟨nI 0, ((b, t, f), ex, lf, nI 0), rfl, ⟨by rw [hset]; rfl, ex, lf, nI 0, by rw [hset], by rw [hset]; exact hR⟩, sk_endw ht hP hD⟩, hS.F ht⟩) hS.2.2 dM_drop_14
