abbrev wzM_isFinding : List Cond := .code yM_isFinding cM_isFinding 2 (some .boolean) :: sk_W
abbrev rzM_isFinding : Room := { frames := 0, cells := 0, slots := 0, locals := 0 }
set_option maxHeartbeats 4000000 in
set_option maxRecDepth 100000 in
theorem kM_isFinding (l : Launch) (dC : Nat → ClassId) (dI : Nat → Nat → Nat) (a : Nat → Nat) (k : Nat → ClassId) (b : sk_Ob) (t : sk_Tr) (f : sk_Fi) (ex : sk_Ex) (lf : sk_F) (th : Int32) (x : Int32) (hmk : f.1 ≤ 512) : Met l yM_isFinding wzM_isFinding rzM_isFinding (va_Pc [.ref (a 0), .int x] (sk_PM dC dI a k (b, t, f) ex lf th)) (va_Qi (fun r (_ : Unit) => r = sk_bI (sk_hasB (sk_there f) x)) (fun _ _ => True) (fun _ => False)) 0 0 (fun _ => False) := by
  refine Met.ofW (cc := cM_isFinding) (maxL := 2) (ret := (some .boolean)) (by decide) rfl ?_
  intro p e s m args below meth c s₁ B hml hv
  obtain ⟨rfl, hP, hK⟩ := hv
  have hx := B.exec
  have hb := B.bytes
  have hr := B.returns
  have hts : ∀ w ∈ sk_W, w.before ([.ref (a 0), .int x] : List Value).toArray s = true := fun w h => atoms_spec (ws := wzM_isFinding) B.pre w (List.mem_cons_of_mem _ h)
  have hown : s.vm.findClass RM = some m.cls := findClass_of_methodNamed B.named
  have hlocks := B.notSynchronized
  have hS : va_S (fun _ => False) s.heap s.heap [] := va_S.rf
  have hP : va_P (dC, dI) vwCl (sk_wMR a k th (nI b.1) b.2.2.1 b.2.2.2.1 ex.1 (nI t.1) t.2.1 t.2.2.1 t.2.2.2.2 ex.2.1 (nI f.1) f.2.1 f.2.2.1 ex.2.2.1 f.2.2.2.1 f.2.2.2.2.1 ex.2.2.2.1 ex.2.2.2.2.1 ex.2.2.2.2.2 lf) s.heap := hP
  have hl := lv_entry ([.ref (a 0), .int x]) (n := 2) (Nat.le_of_ble_eq_true rfl)
  rw [lg_entry_eq]
  generalize (lg_sl ([.ref (a 0), .int x]) ++ List.replicate (2 - (lg_sl ([.ref (a 0), .int x])).length) Slot.unset).toArray = ls at hl ⊢
  have hl : lv_has ls 2 [(0, .ref (a 0)), (1, .int x)] := hl
  refine lv_iload_n hx hb dM_isFinding_0 rfl (lv_at hl 1 rfl) ?_
  refine lv_if_lt (tgt := 22) hx hb dM_isFinding_1 (by decide) (fun c1 => ?_) (fun c1 => ?_)
  · skip
    refine lv_iconst (v := nI 0) hx hb dM_isFinding_22 (by decide) ?_
    exact W.zret (v := nI 0) hx hb hr (by decide) (fun U9 ht hW => ⟨⟨nI 0, (), rfl, sk_hasB_f1 c1, trivial⟩, hS.F ht⟩) hS.2.2 dM_isFinding_23
  · skip
    refine lv_iload_n hx hb dM_isFinding_4 rfl (lv_at hl 1 rfl) ?_
    refine lv_bipush (v := nI 100) hx hb dM_isFinding_5 (by decide) ?_
    refine lv_icmp_ge (tgt := 22) hx hb dM_isFinding_7 (by decide) (fun c7 => ?_) (fun c7 => ?_)
    · skip
      refine lv_iconst (v := nI 0) hx hb dM_isFinding_22 (by decide) ?_
      exact W.zret (v := nI 0) hx hb hr (by decide) (fun U9 ht hW => ⟨⟨nI 0, (), rfl, sk_isF_f2 (by omega) c7, trivial⟩, hS.F ht⟩) hS.2.2 dM_isFinding_23
    · skip
      refine lv_iload_n hx hb dM_isFinding_10 rfl (lv_at hl 1 rfl) ?_
      refine lv_aload_n hx hb dM_isFinding_11 rfl (lv_at hl 0 rfl) ?_
      refine va_get (D := (dC, dI)) (ci := 4) (v := .int (nI f.1)) (C := RM) (T := TM) (N := 20) hx hb hts inM hown hK hP 0 rfl rfl 10 (by decide) (hts _ wfM_98) (fun _ h9 => h9) rfl dM_isFinding_12 ?_
      refine lv_icmp_ge (tgt := 22) hx hb dM_isFinding_15 (by decide) (fun c15 => ?_) (fun c15 => ?_)
      · skip
        refine lv_iconst (v := nI 0) hx hb dM_isFinding_22 (by decide) ?_
        exact W.zret (v := nI 0) hx hb hr (by decide) (fun U9 ht hW => ⟨⟨nI 0, (), rfl, sk_isF_f3 (by omega) c15, trivial⟩, hS.F ht⟩) hS.2.2 dM_isFinding_23
      · skip
        refine lv_iconst (v := nI 1) hx hb dM_isFinding_18 (by decide) ?_
        refine lv_goto (tgt := 23) hx hb dM_isFinding_19 (by decide) ?_
        exact W.zret (v := nI 1) hx hb hr (by decide) (fun U9 ht hW => ⟨⟨nI 1, (), rfl, sk_isF_t c1 c7 c15, trivial⟩, hS.F ht⟩) hS.2.2 dM_isFinding_23
abbrev wzM_holdsStill : List Cond := .code yM_holdsStill cM_holdsStill 4 (some .boolean) :: sk_W
abbrev rzM_holdsStill : Room := { frames := 0, cells := 0, slots := 0, locals := 0 }
set_option maxHeartbeats 4000000 in
set_option maxRecDepth 100000 in
theorem kM_holdsStill (l : Launch) (dC : Nat → ClassId) (dI : Nat → Nat → Nat) (a : Nat → Nat) (k : Nat → ClassId) (b : sk_Ob) (t : sk_Tr) (f : sk_Fi) (ex : sk_Ex) (lf : sk_F) (th : Int32) (g : Nat) (hg : g < 100) (h60 : b.1 ≤ 60) (hF : sk_RF b f ex g) (hwl : ∀ q ∈ (f.2.2.2.2.2.1 g), q < b.1) : Met l yM_holdsStill wzM_holdsStill rzM_holdsStill (va_Pc [.ref (a 0), .int (nI g)] (sk_PM dC dI a k (b, t, f) ex lf th)) (va_Qi (fun r (_ : Unit) => r = sk_bI (f.2.2.2.2.2.2 g)) (fun _ _ => True) (fun _ => False)) 0 0 (fun _ => False) := by
  refine Met.ofW (cc := cM_holdsStill) (maxL := 4) (ret := (some .boolean)) (by decide) rfl ?_
  intro p e s m args below meth c s₁ B hml hv
  obtain ⟨rfl, hP, hK⟩ := hv
  have hx := B.exec
  have hb := B.bytes
  have hr := B.returns
  have hts : ∀ w ∈ sk_W, w.before ([.ref (a 0), .int (nI g)] : List Value).toArray s = true := fun w h => atoms_spec (ws := wzM_holdsStill) B.pre w (List.mem_cons_of_mem _ h)
  have hown : s.vm.findClass RM = some m.cls := findClass_of_methodNamed B.named
  have hlocks := B.notSynchronized
  have hS : va_S (fun _ => False) s.heap s.heap [] := va_S.rf
  have hP : va_P (dC, dI) vwCl (sk_wMR a k th (nI b.1) b.2.2.1 b.2.2.2.1 ex.1 (nI t.1) t.2.1 t.2.2.1 t.2.2.2.2 ex.2.1 (nI f.1) f.2.1 f.2.2.1 ex.2.2.1 f.2.2.2.1 f.2.2.2.2.1 ex.2.2.2.1 ex.2.2.2.2.1 ex.2.2.2.2.2 lf) s.heap := hP
  have hl := lv_entry ([.ref (a 0), .int (nI g)]) (n := 4) (Nat.le_of_ble_eq_true rfl)
  rw [lg_entry_eq]
  generalize (lg_sl ([.ref (a 0), .int (nI g)]) ++ List.replicate (4 - (lg_sl ([.ref (a 0), .int (nI g)])).length) Slot.unset).toArray = ls at hl ⊢
  have hl : lv_has ls 4 [(0, .ref (a 0)), (1, .int (nI g))] := hl
  obtain ⟨a1, a2, a3, a4, a5, a6⟩ := hF
  have hget : ∀ j, j < (f.2.2.2.2.2.1 g).length → (f.2.2.2.2.2.1 g).getD j 0 < 60 := fun j hj => by rw [List.getD_eq_getElem?_getD, List.getElem?_eq_getElem hj, Option.getD_some]; exact Nat.lt_of_lt_of_le (hwl _ (List.getElem_mem hj)) h60
  refine lv_iconst (v := nI 1) hx hb dM_holdsStill_0 (by decide) ?_
  refine lv_istore_n (lv' := [(2, .int (nI 1)), (0, .ref (a 0)), (1, .int (nI g))]) hx hb dM_holdsStill_1 rfl hl (by decide) rfl (fun ls hl => ?_)
  refine lv_iconst (v := nI 0) hx hb dM_holdsStill_2 (by decide) ?_
  refine lv_istore_n (lv' := [(3, .int (nI 0)), (2, .int (nI 1)), (0, .ref (a 0)), (1, .int (nI g))]) hx hb dM_holdsStill_3 rfl hl (by decide) rfl (fun ls hl => ?_)
  have loop1 : ∀ (nn : Nat) (j : Nat), j ≤ (f.2.2.2.2.2.1 g).length → (∀ q, q < j → b.2.2.2.1 ((f.2.2.2.2.2.1 g).getD q 0) = ex.2.2.2.2.2 (60 * g + q)) → (f.2.2.2.2.2.1 g).length - j < nn → ∀ ls : Array Slot, lv_has ls 4 [(3, .int (nI j)), (2, .int (nI 1)), (0, .ref (a 0)), (1, .int (nI g))] → W p l e (headSpec wzM_holdsStill rzM_holdsStill).room s m ([.ref (a 0), .int (nI g)] : List Value).toArray below meth c s.heap [] 0 0 (MQ below (va_Qi (fun r (_ : Unit) => r = sk_bI (f.2.2.2.2.2.2 g)) (fun _ _ => True) (fun _ => False)) ([.ref (a 0), .int (nI g)] : List Value).toArray s 0 0 (fun _ => False)) (F0 m 4 ls []) := by
    intro nn
    induction nn with
    | zero => intro j hj hall hmu; exact absurd hmu (Nat.not_lt_zero _)
    | succ nn ih1 =>
      intro j hj hall hmu ls hl
      refine lv_iload_n hx hb dM_holdsStill_4 rfl (lv_at hl 0 rfl) ?_
      refine lv_aload_n hx hb dM_holdsStill_5 rfl (lv_at hl 2 rfl) ?_
      refine va_get (D := (dC, dI)) (ci := 4) (v := .ref (a 13)) (C := RM) (T := TM) (N := 20) hx hb hts inM hown hK hP 0 rfl rfl 16 (by decide) (hts _ wfM_50) (fun _ h9 => h9) rfl dM_holdsStill_6 ?_
      refine lv_iload_n hx hb dM_holdsStill_9 rfl (lv_at hl 3 rfl) ?_
      refine va_iald hx hb hK hP 13 0 rfl rfl (vp_in_nI (show g < 100 by omega) (by decide)) dM_holdsStill_10 ?_
      refine lv_topi (fun x10 e10 => ?_)
      rw [nI_clamp (show g < 2 ^ 31 by omega)] at e10
      obtain rfl : x10 = nI ((f.2.2.2.2.2.1 g).length) := e10.trans (a2)
      refine lv_icmp_ge (tgt := 60) hx hb dM_holdsStill_11 (by decide) (fun c11 => ?_) (fun c11 => ?_)
      · skip
        have n11 : ((f.2.2.2.2.2.1 g).length) ≤ j := (nI_leI (a := ((f.2.2.2.2.2.1 g).length)) (b := j) (by omega) (by omega)).mp c11
        refine lv_iload_n hx hb dM_holdsStill_60 rfl (lv_at hl 1 rfl) ?_
        exact W.zret (v := nI 1) hx hb hr (by decide) (fun U9 ht hW => ⟨⟨nI 1, (), rfl, by rw [a6.mpr (fun q hq => hall q (by omega))]; rfl, trivial⟩, hS.F ht⟩) hS.2.2 dM_holdsStill_61
      · skip
        have n11 : ¬ ((f.2.2.2.2.2.1 g).length) ≤ j := fun z9 => c11 ((nI_leI (a := ((f.2.2.2.2.2.1 g).length)) (b := j) (by omega) (by omega)).mpr z9)
        have hgj := hget j (by omega)
        refine lv_iload_n hx hb dM_holdsStill_14 rfl (lv_at hl 1 rfl) ?_
        refine lv_if_eq (tgt := 60) hx hb dM_holdsStill_15 (by decide) (fun q => absurd q (by decide)) (fun _ => ?_)
        refine lv_aload_n hx hb dM_holdsStill_18 rfl (lv_at hl 2 rfl) ?_
        refine va_get (D := (dC, dI)) (ci := 4) (v := .ref (a 2)) (C := RM) (T := TM) (N := 20) hx hb hts inM hown hK hP 0 rfl rfl 3 (by decide) (hts _ wfM_13) (fun _ h9 => h9) rfl dM_holdsStill_19 ?_
        refine lv_aload_n hx hb dM_holdsStill_22 rfl (lv_at hl 2 rfl) ?_
        refine va_get (D := (dC, dI)) (ci := 4) (v := .ref (a 14)) (C := RM) (T := TM) (N := 20) hx hb hts inM hown hK hP 0 rfl rfl 17 (by decide) (hts _ wfM_53) (fun _ h9 => h9) rfl dM_holdsStill_23 ?_
        refine lv_bipush (v := nI 60) hx hb dM_holdsStill_26 (by decide) ?_
        refine lv_iload_n hx hb dM_holdsStill_28 rfl (lv_at hl 3 rfl) ?_
        refine lv_imul hx hb dM_holdsStill_29 ?_
        refine lv_topi (fun x29 e29 => ?_)
        obtain rfl : x29 = nI (60 * g) := e29.trans (pk_mul _ _)
        refine lv_iload_n hx hb dM_holdsStill_30 rfl (lv_at hl 0 rfl) ?_
        refine lv_iadd hx hb dM_holdsStill_31 ?_
        refine lv_topi (fun x31 e31 => ?_)
        obtain rfl : x31 = nI ((60 * g) + j) := e31.trans (nI_add _ _)
        refine va_iald hx hb hK hP 14 0 rfl rfl (vp_in_nI (show ((60 * g) + j) < 6000 by omega) (by decide)) dM_holdsStill_32 ?_
        refine lv_topi (fun x32 e32 => ?_)
        rw [nI_clamp (show ((60 * g) + j) < 2 ^ 31 by omega)] at e32
        obtain rfl : x32 = nI ((f.2.2.2.2.2.1 g).getD j 0) := e32.trans (a4 j (by omega))
        refine va_iald hx hb hK hP 2 0 rfl rfl (vp_in_nI (hget j (by omega)) (by decide)) dM_holdsStill_33 ?_
        refine lv_topi (fun x33 e33 => ?_)
        rw [nI_clamp (show ((f.2.2.2.2.2.1 g).getD j 0) < 2 ^ 31 by omega)] at e33
        refine lv_aload_n hx hb dM_holdsStill_34 rfl (lv_at hl 2 rfl) ?_
        refine va_get (D := (dC, dI)) (ci := 4) (v := .ref (a 15)) (C := RM) (T := TM) (N := 20) hx hb hts inM hown hK hP 0 rfl rfl 18 (by decide) (hts _ wfM_56) (fun _ h9 => h9) rfl dM_holdsStill_35 ?_
        refine lv_bipush (v := nI 60) hx hb dM_holdsStill_38 (by decide) ?_
        refine lv_iload_n hx hb dM_holdsStill_40 rfl (lv_at hl 3 rfl) ?_
        refine lv_imul hx hb dM_holdsStill_41 ?_
        refine lv_topi (fun x41 e41 => ?_)
        obtain rfl : x41 = nI (60 * g) := e41.trans (pk_mul _ _)
        refine lv_iload_n hx hb dM_holdsStill_42 rfl (lv_at hl 0 rfl) ?_
        refine lv_iadd hx hb dM_holdsStill_43 ?_
        refine lv_topi (fun x43 e43 => ?_)
        obtain rfl : x43 = nI ((60 * g) + j) := e43.trans (nI_add _ _)
        refine va_iald hx hb hK hP 15 0 rfl rfl (vp_in_nI (show ((60 * g) + j) < 6000 by omega) (by decide)) dM_holdsStill_44 ?_
        refine lv_topi (fun x44 e44 => ?_)
        rw [nI_clamp (show ((60 * g) + j) < 2 ^ 31 by omega)] at e44
        refine lv_icmp_ne (tgt := 52) hx hb dM_holdsStill_45 (by decide) (fun c45 => ?_) (fun c45 => ?_)
        · skip
          refine lv_iconst (v := nI 0) hx hb dM_holdsStill_52 (by decide) ?_
          refine lv_istore_n (lv' := [(2, .int (nI 0)), (3, .int (nI j)), (0, .ref (a 0)), (1, .int (nI g))]) hx hb dM_holdsStill_53 rfl hl (by decide) rfl (fun ls hl => ?_)
          refine lv_iinc (v := nI (j + 1)) (lv' := [(3, .int (nI (j + 1))), (2, .int (nI 0)), (0, .ref (a 0)), (1, .int (nI g))]) hx hb dM_holdsStill_54 hl (k := 1) rfl (sk_inc _) (by decide) rfl (fun ls hl => ?_)
          refine lv_goto (tgt := 4) hx hb dM_holdsStill_57 (by decide) ?_
          refine lv_iload_n hx hb dM_holdsStill_4 rfl (lv_at hl 0 rfl) ?_
          refine lv_aload_n hx hb dM_holdsStill_5 rfl (lv_at hl 2 rfl) ?_
          refine va_get (D := (dC, dI)) (ci := 4) (v := .ref (a 13)) (C := RM) (T := TM) (N := 20) hx hb hts inM hown hK hP 0 rfl rfl 16 (by decide) (hts _ wfM_50) (fun _ h9 => h9) rfl dM_holdsStill_6 ?_
          refine lv_iload_n hx hb dM_holdsStill_9 rfl (lv_at hl 3 rfl) ?_
          refine va_iald hx hb hK hP 13 0 rfl rfl (vp_in_nI (show g < 100 by omega) (by decide)) dM_holdsStill_10 ?_
          refine lv_topi (fun x10 e10 => ?_)
          rw [nI_clamp (show g < 2 ^ 31 by omega)] at e10
          obtain rfl : x10 = nI ((f.2.2.2.2.2.1 g).length) := e10.trans (a2)
          refine lv_icmp_ge (tgt := 60) hx hb dM_holdsStill_11 (by decide) (fun c11 => ?_) (fun c11 => ?_)
          · skip
            have n11 : ((f.2.2.2.2.2.1 g).length) ≤ (j + 1) := (nI_leI (a := ((f.2.2.2.2.2.1 g).length)) (b := (j + 1)) (by omega) (by omega)).mp c11
            refine lv_iload_n hx hb dM_holdsStill_60 rfl (lv_at hl 1 rfl) ?_
            exact W.zret (v := nI 0) hx hb hr (by decide) (fun U9 ht hW => ⟨⟨nI 0, (), rfl, by rw [show f.2.2.2.2.2.2 g = false from Bool.eq_false_iff.mpr (fun z => c45 (by rw [e33, e44]; exact a6.mp z j (by omega)))]; rfl, trivial⟩, hS.F ht⟩) hS.2.2 dM_holdsStill_61
          · skip
            have n11 : ¬ ((f.2.2.2.2.2.1 g).length) ≤ (j + 1) := fun z9 => c11 ((nI_leI (a := ((f.2.2.2.2.2.1 g).length)) (b := (j + 1)) (by omega) (by omega)).mpr z9)
            have hgj := hget j (by omega)
            refine lv_iload_n hx hb dM_holdsStill_14 rfl (lv_at hl 1 rfl) ?_
            refine lv_if_eq (tgt := 60) hx hb dM_holdsStill_15 (by decide) (fun _ => ?_) (fun q => absurd (by decide) q)
            refine lv_iload_n hx hb dM_holdsStill_60 rfl (lv_at hl 1 rfl) ?_
            exact W.zret (v := nI 0) hx hb hr (by decide) (fun U9 ht hW => ⟨⟨nI 0, (), rfl, by rw [show f.2.2.2.2.2.2 g = false from Bool.eq_false_iff.mpr (fun z => c45 (by rw [e33, e44]; exact a6.mp z j (by omega)))]; rfl, trivial⟩, hS.F ht⟩) hS.2.2 dM_holdsStill_61
        · skip
          refine lv_iconst (v := nI 1) hx hb dM_holdsStill_48 (by decide) ?_
          refine lv_goto (tgt := 53) hx hb dM_holdsStill_49 (by decide) ?_
          refine lv_istore_n (lv' := [(2, .int (nI 1)), (3, .int (nI j)), (0, .ref (a 0)), (1, .int (nI g))]) hx hb dM_holdsStill_53 rfl hl (by decide) rfl (fun ls hl => ?_)
          refine lv_iinc (v := nI (j + 1)) (lv' := [(3, .int (nI (j + 1))), (2, .int (nI 1)), (0, .ref (a 0)), (1, .int (nI g))]) hx hb dM_holdsStill_54 hl (k := 1) rfl (sk_inc _) (by decide) rfl (fun ls hl => ?_)
          refine lv_goto (tgt := 4) hx hb dM_holdsStill_57 (by decide) ?_
          exact ih1 (j + 1) (by omega) (fun q hq => (Nat.lt_or_eq_of_le (Nat.le_of_lt_succ hq)).elim (fun z9 => hall q z9) (fun z9 => by subst z9; rw [← e33, ← e44]; exact c45)) (by omega) ls (lv_sub hl [0, 1, 2, 3] rfl)
  exact loop1 ((f.2.2.2.2.2.1 g).length - 0 + 1) 0 (Nat.zero_le _) (fun q hq => absurd hq (Nat.not_lt_zero q)) (Nat.lt_succ_self _) ls (lv_sub hl [0, 1, 2, 3] rfl)
abbrev wzM_holds : List Cond := .code yM_holds cM_holds 3 (some .boolean) :: sk_W
abbrev rzM_holds : Room := { frames := 1, cells := 0, slots := 0, locals := 23 }
set_option maxHeartbeats 4000000 in
set_option maxRecDepth 100000 in
theorem kM_holds (l : Launch) (dC : Nat → ClassId) (dI : Nat → Nat → Nat) (a : Nat → Nat) (k : Nat → ClassId) (b : sk_Ob) (t : sk_Tr) (f : sk_Fi) (ex : sk_Ex) (lf : sk_F) (th : Int32) (A : Nat → Prop) (x y : Int32) (K : Nat) (hOK : sk_OK K (b, t, f)) (hR : sk_RM (b, t, f) ex) : Met l yM_holds wzM_holds rzM_holds (va_Pc [.ref (a 0), .int x, .int y] (fun U => sk_PM dC dI a k (b, t, f) ex lf th U ∧ va_D A (sk_wM a k (b, t, f) ex lf th))) (va_Qi (fun r (u : sk_S × sk_Ex × sk_F × Int32) => r = sk_bI (sk_holds (b, t, f) x y) ∧ ∃ th2, u = ((b, t, f), ex, lf, th2)) (fun u U => va_P (dC, dI) vwCl (sk_wM a k u.1 u.2.1 u.2.2.1 u.2.2.2) U.heap ∧ va_D A (sk_wM a k u.1 u.2.1 u.2.2.1 u.2.2.2)) A) 0 0 A := by
  refine Met.ofW (cc := cM_holds) (maxL := 3) (ret := (some .boolean)) (by decide) rfl ?_
  intro p e s m args below meth c s₁ B hml hv
  obtain ⟨rfl, ⟨hP, hK⟩, hD⟩ := hv
  have hx := B.exec
  have hb := B.bytes
  have hr := B.returns
  have hts : ∀ w ∈ sk_W, w.before ([.ref (a 0), .int x, .int y] : List Value).toArray s = true := fun w h => atoms_spec (ws := wzM_holds) B.pre w (List.mem_cons_of_mem _ h)
  have hown : s.vm.findClass RM = some m.cls := findClass_of_methodNamed B.named
  have hlocks := B.notSynchronized
  have hS : va_S A s.heap s.heap [] := va_S.rf
  have hP : va_P (dC, dI) vwCl (sk_wMR a k th (nI b.1) b.2.2.1 b.2.2.2.1 ex.1 (nI t.1) t.2.1 t.2.2.1 t.2.2.2.2 ex.2.1 (nI f.1) f.2.1 f.2.2.1 ex.2.2.1 f.2.2.2.1 f.2.2.2.2.1 ex.2.2.2.1 ex.2.2.2.2.1 ex.2.2.2.2.2 lf) s.heap := hP
  have hD : va_D A (sk_wMR a k th (nI b.1) b.2.2.1 b.2.2.2.1 ex.1 (nI t.1) t.2.1 t.2.2.1 t.2.2.2.2 ex.2.1 (nI f.1) f.2.1 f.2.2.1 ex.2.2.1 f.2.2.2.1 f.2.2.2.2.1 ex.2.2.2.1 ex.2.2.2.2.1 ex.2.2.2.2.2 lf) := hD
  have hl := lv_entry ([.ref (a 0), .int x, .int y]) (n := 3) (Nat.le_of_ble_eq_true rfl)
  rw [lg_entry_eq]
  generalize (lg_sl ([.ref (a 0), .int x, .int y]) ++ List.replicate (3 - (lg_sl ([.ref (a 0), .int x, .int y])).length) Slot.unset).toArray = ls at hl ⊢
  have hl : lv_has ls 3 [(0, .ref (a 0)), (1, .int x), (2, .int y)] := hl
  have hT : sk_TO b.1 t := hOK.1
  have hA : sk_AC b.1 b.2.1 := hOK.2.1
  have hO : sk_OO b t := hOK.2.2.1
  have hch0 : ∀ o, b.1 ≤ o → b.2.2.2.1 o = 0 := hOK.2.2.2.2.1
  have hmk : f.1 ≤ K := hOK.2.2.2.2.2.2.1
  have hK5 : K ≤ 512 := hOK.2.2.2.2.2.1
  have h200 : t.1 ≤ 200 := hT.2.1
  have h60 : b.1 ≤ 60 := hT.2.2.1
  have h100 : sk_there f ≤ 100 := Nat.min_le_right _ _
  have hN : sk_RN t ex.2.1 := hR.1
  have hV : sk_RV b t ex.1 := hR.2.1
  have hF : ∀ i, i < sk_there f → sk_RF b f ex i := hR.2.2
  have hFO : ∀ i, i < sk_there f → sk_FO b t f i := hOK.2.2.2.2.2.2.2
  refine lv_aload_n hx hb dM_holds_0 rfl (lv_at hl 0 rfl) ?_
  refine lv_iconst (v := nI 0) hx hb dM_holds_1 (by decide) ?_
  refine va_put (D := (dC, dI)) (ci := 4) (v := .int (nI 0)) (ty := .int) (C := RM) (T := TM) (N := 20) hx hb hts inM tyM tyM_ok nmM hown hK hP hD hS 0 rfl rfl 0 (by decide) (hts _ wfM_62) (fun _ h9 => h9) rfl (by decide +kernel) rfl rfl (Nat.le_of_ble_eq_true rfl) dM_holds_2 (fun H locs hP hD hS => ?_)
  have hP : va_P (dC, dI) vwCl (sk_wMR a k (nI 0) (nI b.1) b.2.2.1 b.2.2.2.1 ex.1 (nI t.1) t.2.1 t.2.2.1 t.2.2.2.2 ex.2.1 (nI f.1) f.2.1 f.2.2.1 ex.2.2.1 f.2.2.2.1 f.2.2.2.2.1 ex.2.2.2.1 ex.2.2.2.2.1 ex.2.2.2.2.2 lf) H := hP
  have hD : va_D A (sk_wMR a k (nI 0) (nI b.1) b.2.2.1 b.2.2.2.1 ex.1 (nI t.1) t.2.1 t.2.2.1 t.2.2.2.2 ex.2.1 (nI f.1) f.2.1 f.2.2.1 ex.2.2.1 f.2.2.2.1 f.2.2.2.2.1 ex.2.2.2.1 ex.2.2.2.2.1 ex.2.2.2.2.2 lf) := hD
  refine lv_aload_n hx hb dM_holds_5 rfl (lv_at hl 0 rfl) ?_
  refine lv_iload_n hx hb dM_holds_6 rfl (lv_at hl 1 rfl) ?_
  refine va_calli (va_runV (As := [.int x]) (rest := []) ⟨hx, hb, hml, hown, hts⟩ (kM_isFinding l dC dI a k b t f ex lf (nI 0) x (by omega)) (cwV 1 hts (sk_gV wmM_101 wiM_isFinding wsM_isFinding wnM wcM_isFinding) rfl rfl rfl (by decide +kernel) ⟨Nat.le_of_ble_eq_true rfl, Nat.le_of_ble_eq_true rfl⟩) ⟨sk_blindM _, va_recv hK hP (ci := 4) (q0 := 0) rfl rfl, fun U hU hW => ⟨rfl, sk_atM (S := (b, t, f)) (ex := ex) (lf := lf) (th := nI 0) hP hK hU hW⟩⟩ rfl rfl hl.1 rfl (lv_room (Nat.le_of_ble_eq_true rfl)) dM_holds_7 ⟨Nat.le_of_ble_eq_true rfl, Nat.le_of_ble_eq_true rfl⟩) hS (fun _ _ h => h.elim) (fun _ h => h.elim) (fun r7 u7 U9 H locs ht hvm w7 hB hz hk hS => ?_)
  have hP : va_P (dC, dI) vwCl (sk_wMR a k (nI 0) (nI b.1) b.2.2.1 b.2.2.2.1 ex.1 (nI t.1) t.2.1 t.2.2.1 t.2.2.2.2 ex.2.1 (nI f.1) f.2.1 f.2.2.1 ex.2.2.1 f.2.2.2.1 f.2.2.2.2.1 ex.2.2.2.1 ex.2.2.2.2.1 ex.2.2.2.2.2 lf) H := hP.kept (fun j q hq => hk q.1 ((hP j q hq).lt) (fun h => h))
  clear hk hB ht
  rcases sk_bI_or (sk_hasB (sk_there f) x) with ⟨h7, hv⟩ | ⟨h7, hv⟩
  · skip
    obtain rfl : r7 = nI 1 := w7.trans hv
    obtain ⟨fi, hfi, efi9⟩ := (sk_hasB_iff (by omega)).mp h7
    subst efi9
    refine lv_if_eq (tgt := 48) hx hb dM_holds_10 (by decide) (fun q => absurd q (by decide)) (fun _ => ?_)
    refine lv_aload_n hx hb dM_holds_13 rfl (lv_at hl 0 rfl) ?_
    refine lv_iload_n hx hb dM_holds_14 rfl (lv_at hl 2 rfl) ?_
    refine va_calli (va_runV (As := [.int y]) (rest := []) ⟨hx, hb, hml, hown, hts⟩ (kM_isObject l dC dI a k b t f ex lf (nI 0) y) (cwV 1 hts (sk_gV wmM_82 wiM_isObject wsM_isObject wnM wcM_isObject) rfl rfl rfl (by decide +kernel) ⟨Nat.le_of_ble_eq_true rfl, Nat.le_of_ble_eq_true rfl⟩) ⟨sk_blindM _, va_recv hK hP (ci := 4) (q0 := 0) rfl rfl, fun U hU hW => ⟨rfl, sk_atM (S := (b, t, f)) (ex := ex) (lf := lf) (th := nI 0) hP hK hU hW⟩⟩ rfl rfl hl.1 rfl (lv_room (Nat.le_of_ble_eq_true rfl)) dM_holds_15 ⟨Nat.le_of_ble_eq_true rfl, Nat.le_of_ble_eq_true rfl⟩) hS (fun _ _ h => h.elim) (fun _ h => h.elim) (fun r15 u15 U9 H locs ht hvm w15 hB hz hk hS => ?_)
    have hP : va_P (dC, dI) vwCl (sk_wMR a k (nI 0) (nI b.1) b.2.2.1 b.2.2.2.1 ex.1 (nI t.1) t.2.1 t.2.2.1 t.2.2.2.2 ex.2.1 (nI f.1) f.2.1 f.2.2.1 ex.2.2.1 f.2.2.2.1 f.2.2.2.2.1 ex.2.2.2.1 ex.2.2.2.2.1 ex.2.2.2.2.2 lf) H := hP.kept (fun j q hq => hk q.1 ((hP j q hq).lt) (fun h => h))
    clear hk hB ht
    rcases sk_bI_or (sk_hasB b.1 y) with ⟨h15, hv⟩ | ⟨h15, hv⟩
    · skip
      obtain rfl : r15 = nI 1 := w15.trans hv
      obtain ⟨o, ho, eo9⟩ := (sk_hasB_iff (by omega)).mp h15
      subst eo9
      refine lv_if_eq (tgt := 48) hx hb dM_holds_18 (by decide) (fun q => absurd q (by decide)) (fun _ => ?_)
      refine lv_aload_n hx hb dM_holds_21 rfl (lv_at hl 0 rfl) ?_
      refine va_get (D := (dC, dI)) (ci := 4) (v := .ref (a 1)) (C := RM) (T := TM) (N := 20) hx hb hts inM hown hK hP 0 rfl rfl 2 (by decide) (hts _ wfM_7) (fun _ h9 => h9) rfl dM_holds_22 ?_
      refine lv_iload_n hx hb dM_holds_25 rfl (lv_at hl 2 rfl) ?_
      refine va_iald hx hb hK hP 1 0 rfl rfl (vp_in_nI (show o < 60 by omega) (by decide)) dM_holds_26 ?_
      refine lv_topi (fun x26 e26 => ?_)
      rw [nI_clamp (show o < 2 ^ 31 by omega)] at e26
      refine lv_aload_n hx hb dM_holds_27 rfl (lv_at hl 0 rfl) ?_
      refine va_get (D := (dC, dI)) (ci := 4) (v := .ref (a 8)) (C := RM) (T := TM) (N := 20) hx hb hts inM hown hK hP 0 rfl rfl 11 (by decide) (hts _ wfM_35) (fun _ h9 => h9) rfl dM_holds_28 ?_
      refine lv_iload_n hx hb dM_holds_31 rfl (lv_at hl 1 rfl) ?_
      refine va_iald hx hb hK hP 8 0 rfl rfl (vp_in_nI (show fi < 100 by omega) (by decide)) dM_holds_32 ?_
      refine lv_topi (fun x32 e32 => ?_)
      rw [nI_clamp (show fi < 2 ^ 31 by omega)] at e32
      refine lv_icmp_ne (tgt := 48) hx hb dM_holds_33 (by decide) (fun c33 => ?_) (fun c33 => ?_)
      · skip
        refine lv_iconst (v := nI 0) hx hb dM_holds_48 (by decide) ?_
        exact W.zret (v := nI 0) hx hb hr (by decide) (fun U9 ht hW => ⟨⟨nI 0, ((b, t, f), ex, lf, nI 0), rfl, ⟨sk_hold_f4 (g := fi) (o := o) (by omega) (by omega) (fun q => c33 (by rw [e26, e32]; exact q.symm)), _, rfl⟩, sk_endw ht hP hD⟩, hS.F ht⟩) hS.2.2 dM_holds_49
      · skip
        refine lv_aload_n hx hb dM_holds_36 rfl (lv_at hl 0 rfl) ?_
        refine lv_iload_n hx hb dM_holds_37 rfl (lv_at hl 1 rfl) ?_
        refine va_calli (va_runV (As := [.int (nI fi)]) (rest := []) ⟨hx, hb, hml, hown, hts⟩ (kM_holdsStill l dC dI a k b t f ex lf (nI 0) fi (by omega) h60 (hF fi hfi) (hFO fi hfi).2.2.2) (cwV 1 hts (sk_gV wmM_104 wiM_holdsStill wsM_holdsStill wnM wcM_holdsStill) rfl rfl rfl (by decide +kernel) ⟨Nat.le_of_ble_eq_true rfl, Nat.le_of_ble_eq_true rfl⟩) ⟨sk_blindM _, va_recv hK hP (ci := 4) (q0 := 0) rfl rfl, fun U hU hW => ⟨rfl, sk_atM (S := (b, t, f)) (ex := ex) (lf := lf) (th := nI 0) hP hK hU hW⟩⟩ rfl rfl hl.1 rfl (lv_room (Nat.le_of_ble_eq_true rfl)) dM_holds_38 ⟨Nat.le_of_ble_eq_true rfl, Nat.le_of_ble_eq_true rfl⟩) hS (fun _ _ h => h.elim) (fun _ h => h.elim) (fun r38 u38 U9 H locs ht hvm w38 hB hz hk hS => ?_)
        have hP : va_P (dC, dI) vwCl (sk_wMR a k (nI 0) (nI b.1) b.2.2.1 b.2.2.2.1 ex.1 (nI t.1) t.2.1 t.2.2.1 t.2.2.2.2 ex.2.1 (nI f.1) f.2.1 f.2.2.1 ex.2.2.1 f.2.2.2.1 f.2.2.2.2.1 ex.2.2.2.1 ex.2.2.2.2.1 ex.2.2.2.2.2 lf) H := hP.kept (fun j q hq => hk q.1 ((hP j q hq).lt) (fun h => h))
        clear hk hB ht
        rcases sk_bI_or (f.2.2.2.2.2.2 fi) with ⟨h38, hv⟩ | ⟨h38, hv⟩
        · skip
          obtain rfl : r38 = nI 1 := w38.trans hv
          refine lv_if_eq (tgt := 48) hx hb dM_holds_41 (by decide) (fun q => absurd q (by decide)) (fun _ => ?_)
          refine lv_iconst (v := nI 1) hx hb dM_holds_44 (by decide) ?_
          refine lv_goto (tgt := 49) hx hb dM_holds_45 (by decide) ?_
          exact W.zret (v := nI 1) hx hb hr (by decide) (fun U9 ht hW => ⟨⟨nI 1, ((b, t, f), ex, lf, nI 0), rfl, ⟨sk_hold_t (g := fi) (o := o) (by omega) (by omega) h7 h15 h38 (by rw [← e26, ← e32]; exact c33.symm), _, rfl⟩, sk_endw ht hP hD⟩, hS.F ht⟩) hS.2.2 dM_holds_49
        · skip
          obtain rfl : r38 = nI 0 := w38.trans hv
          refine lv_if_eq (tgt := 48) hx hb dM_holds_41 (by decide) (fun _ => ?_) (fun q => absurd (by decide) q)
          refine lv_iconst (v := nI 0) hx hb dM_holds_48 (by decide) ?_
          exact W.zret (v := nI 0) hx hb hr (by decide) (fun U9 ht hW => ⟨⟨nI 0, ((b, t, f), ex, lf, nI 0), rfl, ⟨sk_hold_f3 (g := fi) (y := nI o) (by omega) h38, _, rfl⟩, sk_endw ht hP hD⟩, hS.F ht⟩) hS.2.2 dM_holds_49
    · skip
      obtain rfl : r15 = nI 0 := w15.trans hv
      refine lv_if_eq (tgt := 48) hx hb dM_holds_18 (by decide) (fun _ => ?_) (fun q => absurd (by decide) q)
      refine lv_iconst (v := nI 0) hx hb dM_holds_48 (by decide) ?_
      exact W.zret (v := nI 0) hx hb hr (by decide) (fun U9 ht hW => ⟨⟨nI 0, ((b, t, f), ex, lf, nI 0), rfl, ⟨sk_hold_f2 h15, _, rfl⟩, sk_endw ht hP hD⟩, hS.F ht⟩) hS.2.2 dM_holds_49
  · skip
    obtain rfl : r7 = nI 0 := w7.trans hv
    refine lv_if_eq (tgt := 48) hx hb dM_holds_10 (by decide) (fun _ => ?_) (fun q => absurd (by decide) q)
    refine lv_iconst (v := nI 0) hx hb dM_holds_48 (by decide) ?_
    exact W.zret (v := nI 0) hx hb hr (by decide) (fun U9 ht hW => ⟨⟨nI 0, ((b, t, f), ex, lf, nI 0), rfl, ⟨sk_hold_f1 h7, _, rfl⟩, sk_endw ht hP hD⟩, hS.F ht⟩) hS.2.2 dM_holds_49
abbrev wzM_get : List Cond := .code yM_get cM_get 3 (some .int) :: sk_W
abbrev rzM_get : Room := { frames := 1, cells := 0, slots := 0, locals := 23 }
set_option maxHeartbeats 4000000 in
set_option maxRecDepth 100000 in
theorem kM_get (l : Launch) (dC : Nat → ClassId) (dI : Nat → Nat → Nat) (a : Nat → Nat) (k : Nat → ClassId) (b : sk_Ob) (t : sk_Tr) (f : sk_Fi) (ex : sk_Ex) (lf : sk_F) (th : Int32) (A : Nat → Prop) (x y : Int32) (K : Nat) (hOK : sk_OK K (b, t, f)) (hR : sk_RM (b, t, f) ex) : Met l yM_get wzM_get rzM_get (va_Pc [.ref (a 0), .int x, .int y] (fun U => sk_PM dC dI a k (b, t, f) ex lf th U ∧ va_D A (sk_wM a k (b, t, f) ex lf th))) (va_Qi (fun r (u : sk_S × sk_Ex × sk_F × Int32) => u = ((b, t, f), ex, lf, nI (sk_get (b, t, f) x y).1) ∧ ((sk_get (b, t, f) x y).1 = 0 → r = (sk_get (b, t, f) x y).2)) (fun u U => va_P (dC, dI) vwCl (sk_wM a k u.1 u.2.1 u.2.2.1 u.2.2.2) U.heap ∧ va_D A (sk_wM a k u.1 u.2.1 u.2.2.1 u.2.2.2)) A) 0 0 A := by
  refine Met.ofW (cc := cM_get) (maxL := 3) (ret := (some .int)) (by decide) rfl ?_
  intro p e s m args below meth c s₁ B hml hv
  obtain ⟨rfl, ⟨hP, hK⟩, hD⟩ := hv
  have hx := B.exec
  have hb := B.bytes
  have hr := B.returns
  have hts : ∀ w ∈ sk_W, w.before ([.ref (a 0), .int x, .int y] : List Value).toArray s = true := fun w h => atoms_spec (ws := wzM_get) B.pre w (List.mem_cons_of_mem _ h)
  have hown : s.vm.findClass RM = some m.cls := findClass_of_methodNamed B.named
  have hlocks := B.notSynchronized
  have hS : va_S A s.heap s.heap [] := va_S.rf
  have hP : va_P (dC, dI) vwCl (sk_wMR a k th (nI b.1) b.2.2.1 b.2.2.2.1 ex.1 (nI t.1) t.2.1 t.2.2.1 t.2.2.2.2 ex.2.1 (nI f.1) f.2.1 f.2.2.1 ex.2.2.1 f.2.2.2.1 f.2.2.2.2.1 ex.2.2.2.1 ex.2.2.2.2.1 ex.2.2.2.2.2 lf) s.heap := hP
  have hD : va_D A (sk_wMR a k th (nI b.1) b.2.2.1 b.2.2.2.1 ex.1 (nI t.1) t.2.1 t.2.2.1 t.2.2.2.2 ex.2.1 (nI f.1) f.2.1 f.2.2.1 ex.2.2.1 f.2.2.2.1 f.2.2.2.2.1 ex.2.2.2.1 ex.2.2.2.2.1 ex.2.2.2.2.2 lf) := hD
  have hl := lv_entry ([.ref (a 0), .int x, .int y]) (n := 3) (Nat.le_of_ble_eq_true rfl)
  rw [lg_entry_eq]
  generalize (lg_sl ([.ref (a 0), .int x, .int y]) ++ List.replicate (3 - (lg_sl ([.ref (a 0), .int x, .int y])).length) Slot.unset).toArray = ls at hl ⊢
  have hl : lv_has ls 3 [(0, .ref (a 0)), (1, .int x), (2, .int y)] := hl
  have hT : sk_TO b.1 t := hOK.1
  have hA : sk_AC b.1 b.2.1 := hOK.2.1
  have hO : sk_OO b t := hOK.2.2.1
  have hch0 : ∀ o, b.1 ≤ o → b.2.2.2.1 o = 0 := hOK.2.2.2.2.1
  have hmk : f.1 ≤ K := hOK.2.2.2.2.2.2.1
  have hK5 : K ≤ 512 := hOK.2.2.2.2.2.1
  have h200 : t.1 ≤ 200 := hT.2.1
  have h60 : b.1 ≤ 60 := hT.2.2.1
  have h100 : sk_there f ≤ 100 := Nat.min_le_right _ _
  have hN : sk_RN t ex.2.1 := hR.1
  have hV : sk_RV b t ex.1 := hR.2.1
  have hF : ∀ i, i < sk_there f → sk_RF b f ex i := hR.2.2
  have hFO : ∀ i, i < sk_there f → sk_FO b t f i := hOK.2.2.2.2.2.2.2
  refine lv_aload_n hx hb dM_get_0 rfl (lv_at hl 0 rfl) ?_
  refine lv_aload_n hx hb dM_get_1 rfl (lv_at hl 0 rfl) ?_
  refine lv_iload_n hx hb dM_get_2 rfl (lv_at hl 1 rfl) ?_
  refine va_calli (va_runV (As := [.int x]) (rest := [.ref (a 0)]) ⟨hx, hb, hml, hown, hts⟩ (kM_isFinding l dC dI a k b t f ex lf th x (by omega)) (cwV 1 hts (sk_gV wmM_101 wiM_isFinding wsM_isFinding wnM wcM_isFinding) rfl rfl rfl (by decide +kernel) ⟨Nat.le_of_ble_eq_true rfl, Nat.le_of_ble_eq_true rfl⟩) ⟨sk_blindM _, va_recv hK hP (ci := 4) (q0 := 0) rfl rfl, fun U hU hW => ⟨rfl, sk_atM (S := (b, t, f)) (ex := ex) (lf := lf) (th := th) hP hK hU hW⟩⟩ rfl rfl hl.1 rfl (lv_room (Nat.le_of_ble_eq_true rfl)) dM_get_3 ⟨Nat.le_of_ble_eq_true rfl, Nat.le_of_ble_eq_true rfl⟩) hS (fun _ _ h => h.elim) (fun _ h => h.elim) (fun r3 u3 U9 H locs ht hvm w3 hB hz hk hS => ?_)
  have hP : va_P (dC, dI) vwCl (sk_wMR a k th (nI b.1) b.2.2.1 b.2.2.2.1 ex.1 (nI t.1) t.2.1 t.2.2.1 t.2.2.2.2 ex.2.1 (nI f.1) f.2.1 f.2.2.1 ex.2.2.1 f.2.2.2.1 f.2.2.2.2.1 ex.2.2.2.1 ex.2.2.2.2.1 ex.2.2.2.2.2 lf) H := hP.kept (fun j q hq => hk q.1 ((hP j q hq).lt) (fun h => h))
  clear hk hB ht
  rcases sk_bI_or (sk_hasB (sk_there f) x) with ⟨h3, hv⟩ | ⟨h3, hv⟩
  · skip
    obtain rfl : r3 = nI 1 := w3.trans hv
    obtain ⟨fi, hfi, efi9⟩ := (sk_hasB_iff (by omega)).mp h3
    subst efi9
    refine lv_if_ne (tgt := 13) hx hb dM_get_6 (by decide) (fun _ => ?_) (fun q => absurd q (by decide))
    refine lv_aload_n hx hb dM_get_13 rfl (lv_at hl 0 rfl) ?_
    refine lv_iload_n hx hb dM_get_14 rfl (lv_at hl 2 rfl) ?_
    refine va_calli (va_runV (As := [.int y]) (rest := [.ref (a 0)]) ⟨hx, hb, hml, hown, hts⟩ (kM_isObject l dC dI a k b t f ex lf th y) (cwV 1 hts (sk_gV wmM_82 wiM_isObject wsM_isObject wnM wcM_isObject) rfl rfl rfl (by decide +kernel) ⟨Nat.le_of_ble_eq_true rfl, Nat.le_of_ble_eq_true rfl⟩) ⟨sk_blindM _, va_recv hK hP (ci := 4) (q0 := 0) rfl rfl, fun U hU hW => ⟨rfl, sk_atM (S := (b, t, f)) (ex := ex) (lf := lf) (th := th) hP hK hU hW⟩⟩ rfl rfl hl.1 rfl (lv_room (Nat.le_of_ble_eq_true rfl)) dM_get_15 ⟨Nat.le_of_ble_eq_true rfl, Nat.le_of_ble_eq_true rfl⟩) hS (fun _ _ h => h.elim) (fun _ h => h.elim) (fun r15 u15 U9 H locs ht hvm w15 hB hz hk hS => ?_)
    have hP : va_P (dC, dI) vwCl (sk_wMR a k th (nI b.1) b.2.2.1 b.2.2.2.1 ex.1 (nI t.1) t.2.1 t.2.2.1 t.2.2.2.2 ex.2.1 (nI f.1) f.2.1 f.2.2.1 ex.2.2.1 f.2.2.2.1 f.2.2.2.2.1 ex.2.2.2.1 ex.2.2.2.2.1 ex.2.2.2.2.2 lf) H := hP.kept (fun j q hq => hk q.1 ((hP j q hq).lt) (fun h => h))
    clear hk hB ht
    rcases sk_bI_or (sk_hasB b.1 y) with ⟨h15, hv⟩ | ⟨h15, hv⟩
    · skip
      obtain rfl : r15 = nI 1 := w15.trans hv
      obtain ⟨o, ho, eo9⟩ := (sk_hasB_iff (by omega)).mp h15
      subst eo9
      refine lv_if_eq (tgt := 44) hx hb dM_get_18 (by decide) (fun q => absurd q (by decide)) (fun _ => ?_)
      refine lv_aload_n hx hb dM_get_21 rfl (lv_at hl 0 rfl) ?_
      refine va_get (D := (dC, dI)) (ci := 4) (v := .ref (a 1)) (C := RM) (T := TM) (N := 20) hx hb hts inM hown hK hP 0 rfl rfl 2 (by decide) (hts _ wfM_7) (fun _ h9 => h9) rfl dM_get_22 ?_
      refine lv_iload_n hx hb dM_get_25 rfl (lv_at hl 2 rfl) ?_
      refine va_iald hx hb hK hP 1 0 rfl rfl (vp_in_nI (show o < 60 by omega) (by decide)) dM_get_26 ?_
      refine lv_topi (fun x26 e26 => ?_)
      rw [nI_clamp (show o < 2 ^ 31 by omega)] at e26
      refine lv_aload_n hx hb dM_get_27 rfl (lv_at hl 0 rfl) ?_
      refine va_get (D := (dC, dI)) (ci := 4) (v := .ref (a 8)) (C := RM) (T := TM) (N := 20) hx hb hts inM hown hK hP 0 rfl rfl 11 (by decide) (hts _ wfM_35) (fun _ h9 => h9) rfl dM_get_28 ?_
      refine lv_iload_n hx hb dM_get_31 rfl (lv_at hl 1 rfl) ?_
      refine va_iald hx hb hK hP 8 0 rfl rfl (vp_in_nI (show fi < 100 by omega) (by decide)) dM_get_32 ?_
      refine lv_topi (fun x32 e32 => ?_)
      rw [nI_clamp (show fi < 2 ^ 31 by omega)] at e32
      refine lv_icmp_ne (tgt := 44) hx hb dM_get_33 (by decide) (fun c33 => ?_) (fun c33 => ?_)
      · skip
        refine lv_iconst (v := nI 2) hx hb dM_get_44 (by decide) ?_
        refine lv_goto (tgt := 62) hx hb dM_get_45 (by decide) ?_
        refine va_put (D := (dC, dI)) (ci := 4) (v := .int (nI 2)) (ty := .int) (C := RM) (T := TM) (N := 20) hx hb hts inM tyM tyM_ok nmM hown hK hP hD hS 0 rfl rfl 0 (by decide) (hts _ wfM_62) (fun _ h9 => h9) rfl (by decide +kernel) rfl rfl (Nat.le_of_ble_eq_true rfl) dM_get_62 (fun H locs hP hD hS => ?_)
        have hP : va_P (dC, dI) vwCl (sk_wMR a k (nI 2) (nI b.1) b.2.2.1 b.2.2.2.1 ex.1 (nI t.1) t.2.1 t.2.2.1 t.2.2.2.2 ex.2.1 (nI f.1) f.2.1 f.2.2.1 ex.2.2.1 f.2.2.2.1 f.2.2.2.2.1 ex.2.2.2.1 ex.2.2.2.2.1 ex.2.2.2.2.2 lf) H := hP
        have hD : va_D A (sk_wMR a k (nI 2) (nI b.1) b.2.2.1 b.2.2.2.1 ex.1 (nI t.1) t.2.1 t.2.2.1 t.2.2.2.2 ex.2.1 (nI f.1) f.2.1 f.2.2.1 ex.2.2.1 f.2.2.2.1 f.2.2.2.2.1 ex.2.2.2.1 ex.2.2.2.2.1 ex.2.2.2.2.2 lf) := hD
        refine lv_aload_n hx hb dM_get_65 rfl (lv_at hl 0 rfl) ?_
        refine va_get (D := (dC, dI)) (ci := 4) (v := .int (nI 2)) (C := RM) (T := TM) (N := 20) hx hb hts inM hown hK hP 0 rfl rfl 0 (by decide) (hts _ wfM_62) (fun _ h9 => h9) rfl dM_get_66 ?_
        refine lv_if_le (tgt := 76) hx hb dM_get_69 (by decide) (fun q => absurd q (by decide)) (fun _ => ?_)
        refine lv_iconst (v := nI 0) hx hb dM_get_72 (by decide) ?_
        refine lv_goto (tgt := 111) hx hb dM_get_73 (by decide) ?_
        have hgk := sk_get_2 (b := b) (t := t) (f := f) h3 (sk_hold_f4 (g := fi) (o := o) (by omega) (by omega) (fun q => c33 (by rw [e26, e32]; exact q.symm)))
        exact W.iret (v := nI 0) hx hb hr (fun U9 ht hW => ⟨⟨nI 0, ((b, t, f), ex, lf, nI 2), rfl, ⟨by rw [hgk], fun q => by rw [hgk] at q; cases q⟩, sk_endw ht hP hD⟩, hS.F ht⟩) hS.2.2 dM_get_111
      · skip
        refine lv_aload_n hx hb dM_get_36 rfl (lv_at hl 0 rfl) ?_
        refine lv_iload_n hx hb dM_get_37 rfl (lv_at hl 1 rfl) ?_
        refine va_calli (va_runV (As := [.int (nI fi)]) (rest := [.ref (a 0)]) ⟨hx, hb, hml, hown, hts⟩ (kM_holdsStill l dC dI a k b t f ex lf th fi (by omega) h60 (hF fi hfi) (hFO fi hfi).2.2.2) (cwV 1 hts (sk_gV wmM_104 wiM_holdsStill wsM_holdsStill wnM wcM_holdsStill) rfl rfl rfl (by decide +kernel) ⟨Nat.le_of_ble_eq_true rfl, Nat.le_of_ble_eq_true rfl⟩) ⟨sk_blindM _, va_recv hK hP (ci := 4) (q0 := 0) rfl rfl, fun U hU hW => ⟨rfl, sk_atM (S := (b, t, f)) (ex := ex) (lf := lf) (th := th) hP hK hU hW⟩⟩ rfl rfl hl.1 rfl (lv_room (Nat.le_of_ble_eq_true rfl)) dM_get_38 ⟨Nat.le_of_ble_eq_true rfl, Nat.le_of_ble_eq_true rfl⟩) hS (fun _ _ h => h.elim) (fun _ h => h.elim) (fun r38 u38 U9 H locs ht hvm w38 hB hz hk hS => ?_)
        have hP : va_P (dC, dI) vwCl (sk_wMR a k th (nI b.1) b.2.2.1 b.2.2.2.1 ex.1 (nI t.1) t.2.1 t.2.2.1 t.2.2.2.2 ex.2.1 (nI f.1) f.2.1 f.2.2.1 ex.2.2.1 f.2.2.2.1 f.2.2.2.2.1 ex.2.2.2.1 ex.2.2.2.2.1 ex.2.2.2.2.2 lf) H := hP.kept (fun j q hq => hk q.1 ((hP j q hq).lt) (fun h => h))
        clear hk hB ht
        rcases sk_bI_or (f.2.2.2.2.2.2 fi) with ⟨h38, hv⟩ | ⟨h38, hv⟩
        · skip
          obtain rfl : r38 = nI 1 := w38.trans hv
          refine lv_if_ne (tgt := 48) hx hb dM_get_41 (by decide) (fun _ => ?_) (fun q => absurd q (by decide))
          refine lv_aload_n hx hb dM_get_48 rfl (lv_at hl 0 rfl) ?_
          refine va_get (D := (dC, dI)) (ci := 4) (v := .ref (a 10)) (C := RM) (T := TM) (N := 20) hx hb hts inM hown hK hP 0 rfl rfl 13 (by decide) (hts _ wfM_41) (fun _ h9 => h9) rfl dM_get_49 ?_
          refine lv_iload_n hx hb dM_get_52 rfl (lv_at hl 1 rfl) ?_
          refine va_iald hx hb hK hP 10 0 rfl rfl (vp_in_nI (show fi < 100 by omega) (by decide)) dM_get_53 ?_
          refine lv_topi (fun x53 e53 => ?_)
          rw [nI_clamp (show fi < 2 ^ 31 by omega)] at e53
          rcases sk_where_or f fi with ⟨hfp, hwh⟩ | ⟨hfp, hfh, hwh⟩ | ⟨hfp, hfh, hwh⟩
          · skip
            obtain rfl : x53 = nI 0 := e53.trans ((hF fi hfi).1.trans hwh)
            refine lv_if_ne (tgt := 61) hx hb dM_get_54 (by decide) (fun q => absurd q (by decide)) (fun _ => ?_)
            refine lv_iconst (v := nI 3) hx hb dM_get_57 (by decide) ?_
            refine lv_goto (tgt := 62) hx hb dM_get_58 (by decide) ?_
            refine va_put (D := (dC, dI)) (ci := 4) (v := .int (nI 3)) (ty := .int) (C := RM) (T := TM) (N := 20) hx hb hts inM tyM tyM_ok nmM hown hK hP hD hS 0 rfl rfl 0 (by decide) (hts _ wfM_62) (fun _ h9 => h9) rfl (by decide +kernel) rfl rfl (Nat.le_of_ble_eq_true rfl) dM_get_62 (fun H locs hP hD hS => ?_)
            have hP : va_P (dC, dI) vwCl (sk_wMR a k (nI 3) (nI b.1) b.2.2.1 b.2.2.2.1 ex.1 (nI t.1) t.2.1 t.2.2.1 t.2.2.2.2 ex.2.1 (nI f.1) f.2.1 f.2.2.1 ex.2.2.1 f.2.2.2.1 f.2.2.2.2.1 ex.2.2.2.1 ex.2.2.2.2.1 ex.2.2.2.2.2 lf) H := hP
            have hD : va_D A (sk_wMR a k (nI 3) (nI b.1) b.2.2.1 b.2.2.2.1 ex.1 (nI t.1) t.2.1 t.2.2.1 t.2.2.2.2 ex.2.1 (nI f.1) f.2.1 f.2.2.1 ex.2.2.1 f.2.2.2.1 f.2.2.2.2.1 ex.2.2.2.1 ex.2.2.2.2.1 ex.2.2.2.2.2 lf) := hD
            refine lv_aload_n hx hb dM_get_65 rfl (lv_at hl 0 rfl) ?_
            refine va_get (D := (dC, dI)) (ci := 4) (v := .int (nI 3)) (C := RM) (T := TM) (N := 20) hx hb hts inM hown hK hP 0 rfl rfl 0 (by decide) (hts _ wfM_62) (fun _ h9 => h9) rfl dM_get_66 ?_
            refine lv_if_le (tgt := 76) hx hb dM_get_69 (by decide) (fun q => absurd q (by decide)) (fun _ => ?_)
            refine lv_iconst (v := nI 0) hx hb dM_get_72 (by decide) ?_
            refine lv_goto (tgt := 111) hx hb dM_get_73 (by decide) ?_
            have hgk := sk_get_ok (b := b) (t := t) (f := f) h3 (sk_hold_t (g := fi) (o := o) (by omega) (by omega) h3 h15 h38 (by rw [← e26, ← e32]; exact c33.symm))
            rw [nI_clamp (by omega), if_pos hfp] at hgk
            exact W.iret (v := nI 0) hx hb hr (fun U9 ht hW => ⟨⟨nI 0, ((b, t, f), ex, lf, nI 3), rfl, ⟨by rw [hgk], fun q => by rw [hgk] at q; cases q⟩, sk_endw ht hP hD⟩, hS.F ht⟩) hS.2.2 dM_get_111
          · skip
            obtain rfl : x53 = nI 1 := e53.trans ((hF fi hfi).1.trans hwh)
            refine lv_if_ne (tgt := 61) hx hb dM_get_54 (by decide) (fun _ => ?_) (fun q => absurd q (by decide))
            refine lv_iconst (v := nI 0) hx hb dM_get_61 (by decide) ?_
            refine va_put (D := (dC, dI)) (ci := 4) (v := .int (nI 0)) (ty := .int) (C := RM) (T := TM) (N := 20) hx hb hts inM tyM tyM_ok nmM hown hK hP hD hS 0 rfl rfl 0 (by decide) (hts _ wfM_62) (fun _ h9 => h9) rfl (by decide +kernel) rfl rfl (Nat.le_of_ble_eq_true rfl) dM_get_62 (fun H locs hP hD hS => ?_)
            have hP : va_P (dC, dI) vwCl (sk_wMR a k (nI 0) (nI b.1) b.2.2.1 b.2.2.2.1 ex.1 (nI t.1) t.2.1 t.2.2.1 t.2.2.2.2 ex.2.1 (nI f.1) f.2.1 f.2.2.1 ex.2.2.1 f.2.2.2.1 f.2.2.2.2.1 ex.2.2.2.1 ex.2.2.2.2.1 ex.2.2.2.2.2 lf) H := hP
            have hD : va_D A (sk_wMR a k (nI 0) (nI b.1) b.2.2.1 b.2.2.2.1 ex.1 (nI t.1) t.2.1 t.2.2.1 t.2.2.2.2 ex.2.1 (nI f.1) f.2.1 f.2.2.1 ex.2.2.1 f.2.2.2.1 f.2.2.2.2.1 ex.2.2.2.1 ex.2.2.2.2.1 ex.2.2.2.2.2 lf) := hD
            have hgk := sk_get_ok (b := b) (t := t) (f := f) h3 (sk_hold_t (g := fi) (o := o) (by omega) (by omega) h3 h15 h38 (by rw [← e26, ← e32]; exact c33.symm))
            rw [nI_clamp (by omega), nI_clamp (by omega), if_neg hfp, if_pos hfh] at hgk
            obtain ⟨s9, hs9, es9, hp9⟩ := (hFO fi hfi).1
            obtain ⟨kk, hk1, hk2⟩ := (hp9 hfh).resolve_left hfp
            have hse : s9 = sk_sh b o := sk_inj (by omega) (by have := (sk_shOk h200 hO ho).1; omega) (es9.symm.trans (e32.symm.trans (c33.symm.trans (e26.trans (sk_shOk h200 hO ho).2.1))))
            have hk3 : kk < sk_len t (sk_sh b o) := by rw [← hse]; exact hk1
            have hk12 : kk < 12 := Nat.lt_of_lt_of_le hk3 (sk_lenle hT (sk_shOk h200 hO ho).1)
            rw [hk2, nI_clamp (by omega)] at hgk
            refine lv_aload_n hx hb dM_get_65 rfl (lv_at hl 0 rfl) ?_
            refine va_get (D := (dC, dI)) (ci := 4) (v := .int (nI 0)) (C := RM) (T := TM) (N := 20) hx hb hts inM hown hK hP 0 rfl rfl 0 (by decide) (hts _ wfM_62) (fun _ h9 => h9) rfl dM_get_66 ?_
            refine lv_if_le (tgt := 76) hx hb dM_get_69 (by decide) (fun _ => ?_) (fun q => absurd (by decide) q)
            refine lv_aload_n hx hb dM_get_76 rfl (lv_at hl 0 rfl) ?_
            refine va_get (D := (dC, dI)) (ci := 4) (v := .ref (a 3)) (C := RM) (T := TM) (N := 20) hx hb hts inM hown hK hP 0 rfl rfl 4 (by decide) (hts _ wfM_16) (fun _ h9 => h9) rfl dM_get_77 ?_
            refine lv_bipush (v := nI 12) hx hb dM_get_80 (by decide) ?_
            refine lv_aload_n hx hb dM_get_82 rfl (lv_at hl 0 rfl) ?_
            refine va_get (D := (dC, dI)) (ci := 4) (v := .ref (a 10)) (C := RM) (T := TM) (N := 20) hx hb hts inM hown hK hP 0 rfl rfl 13 (by decide) (hts _ wfM_41) (fun _ h9 => h9) rfl dM_get_83 ?_
            refine lv_iload_n hx hb dM_get_86 rfl (lv_at hl 1 rfl) ?_
            refine va_iald hx hb hK hP 10 0 rfl rfl (vp_in_nI (show fi < 100 by omega) (by decide)) dM_get_87 ?_
            refine lv_topi (fun x87 e87 => ?_)
            rw [nI_clamp (show fi < 2 ^ 31 by omega)] at e87
            obtain rfl : x87 = nI 1 := e87.trans ((hF fi hfi).1.trans hwh)
            refine lv_iconst (v := nI 1) hx hb dM_get_88 (by decide) ?_
            refine lv_icmp_ne (tgt := 96) hx hb dM_get_89 (by decide) (fun q => absurd q (by decide)) (fun _ => ?_)
            refine lv_iload_n hx hb dM_get_92 rfl (lv_at hl 2 rfl) ?_
            refine lv_goto (tgt := 102) hx hb dM_get_93 (by decide) ?_
            refine lv_imul hx hb dM_get_102 ?_
            refine lv_topi (fun x102 e102 => ?_)
            obtain rfl : x102 = nI (12 * o) := e102.trans (pk_mul _ _)
            refine lv_aload_n hx hb dM_get_103 rfl (lv_at hl 0 rfl) ?_
            refine va_get (D := (dC, dI)) (ci := 4) (v := .ref (a 12)) (C := RM) (T := TM) (N := 20) hx hb hts inM hown hK hP 0 rfl rfl 15 (by decide) (hts _ wfM_47) (fun _ h9 => h9) rfl dM_get_104 ?_
            refine lv_iload_n hx hb dM_get_107 rfl (lv_at hl 1 rfl) ?_
            refine va_iald hx hb hK hP 12 0 rfl rfl (vp_in_nI (show fi < 100 by omega) (by decide)) dM_get_108 ?_
            refine lv_topi (fun x108 e108 => ?_)
            rw [nI_clamp (show fi < 2 ^ 31 by omega)] at e108
            obtain rfl : x108 = nI kk := e108.trans (hk2)
            refine lv_iadd hx hb dM_get_109 ?_
            refine lv_topi (fun x109 e109 => ?_)
            obtain rfl : x109 = nI ((12 * o) + kk) := e109.trans (nI_add _ _)
            refine va_iald hx hb hK hP 3 0 rfl rfl (vp_in_nI (show ((12 * o) + kk) < 720 by omega) (by decide)) dM_get_110 ?_
            refine lv_topi (fun x110 e110 => ?_)
            rw [nI_clamp (show ((12 * o) + kk) < 2 ^ 31 by omega)] at e110
            exact W.iret (v := x110) hx hb hr (fun U9 ht hW => ⟨⟨x110, ((b, t, f), ex, lf, nI 0), rfl, ⟨by rw [hgk], fun _ => by rw [hgk]; exact e110.trans (hV o ho kk hk3)⟩, sk_endw ht hP hD⟩, hS.F ht⟩) hS.2.2 dM_get_111
          · skip
            obtain rfl : x53 = nI 2 := e53.trans ((hF fi hfi).1.trans hwh)
            refine lv_if_ne (tgt := 61) hx hb dM_get_54 (by decide) (fun _ => ?_) (fun q => absurd q (by decide))
            refine lv_iconst (v := nI 0) hx hb dM_get_61 (by decide) ?_
            refine va_put (D := (dC, dI)) (ci := 4) (v := .int (nI 0)) (ty := .int) (C := RM) (T := TM) (N := 20) hx hb hts inM tyM tyM_ok nmM hown hK hP hD hS 0 rfl rfl 0 (by decide) (hts _ wfM_62) (fun _ h9 => h9) rfl (by decide +kernel) rfl rfl (Nat.le_of_ble_eq_true rfl) dM_get_62 (fun H locs hP hD hS => ?_)
            have hP : va_P (dC, dI) vwCl (sk_wMR a k (nI 0) (nI b.1) b.2.2.1 b.2.2.2.1 ex.1 (nI t.1) t.2.1 t.2.2.1 t.2.2.2.2 ex.2.1 (nI f.1) f.2.1 f.2.2.1 ex.2.2.1 f.2.2.2.1 f.2.2.2.2.1 ex.2.2.2.1 ex.2.2.2.2.1 ex.2.2.2.2.2 lf) H := hP
            have hD : va_D A (sk_wMR a k (nI 0) (nI b.1) b.2.2.1 b.2.2.2.1 ex.1 (nI t.1) t.2.1 t.2.2.1 t.2.2.2.2 ex.2.1 (nI f.1) f.2.1 f.2.2.1 ex.2.2.1 f.2.2.2.1 f.2.2.2.2.1 ex.2.2.2.1 ex.2.2.2.2.1 ex.2.2.2.2.2 lf) := hD
            have hgk := sk_get_ok (b := b) (t := t) (f := f) h3 (sk_hold_t (g := fi) (o := o) (by omega) (by omega) h3 h15 h38 (by rw [← e26, ← e32]; exact c33.symm))
            rw [nI_clamp (by omega), nI_clamp (by omega), if_neg hfp, if_neg hfh] at hgk
            obtain ⟨hh, kk, hh1, hh2, hk12, hk2, -, hk3⟩ := (hFO fi hfi).2.2.1.resolve_left hfh
            have hk3 := hk3 h38
            rw [hk2, hh2, nI_clamp (by omega), nI_clamp (by omega)] at hgk
            refine lv_aload_n hx hb dM_get_65 rfl (lv_at hl 0 rfl) ?_
            refine va_get (D := (dC, dI)) (ci := 4) (v := .int (nI 0)) (C := RM) (T := TM) (N := 20) hx hb hts inM hown hK hP 0 rfl rfl 0 (by decide) (hts _ wfM_62) (fun _ h9 => h9) rfl dM_get_66 ?_
            refine lv_if_le (tgt := 76) hx hb dM_get_69 (by decide) (fun _ => ?_) (fun q => absurd (by decide) q)
            refine lv_aload_n hx hb dM_get_76 rfl (lv_at hl 0 rfl) ?_
            refine va_get (D := (dC, dI)) (ci := 4) (v := .ref (a 3)) (C := RM) (T := TM) (N := 20) hx hb hts inM hown hK hP 0 rfl rfl 4 (by decide) (hts _ wfM_16) (fun _ h9 => h9) rfl dM_get_77 ?_
            refine lv_bipush (v := nI 12) hx hb dM_get_80 (by decide) ?_
            refine lv_aload_n hx hb dM_get_82 rfl (lv_at hl 0 rfl) ?_
            refine va_get (D := (dC, dI)) (ci := 4) (v := .ref (a 10)) (C := RM) (T := TM) (N := 20) hx hb hts inM hown hK hP 0 rfl rfl 13 (by decide) (hts _ wfM_41) (fun _ h9 => h9) rfl dM_get_83 ?_
            refine lv_iload_n hx hb dM_get_86 rfl (lv_at hl 1 rfl) ?_
            refine va_iald hx hb hK hP 10 0 rfl rfl (vp_in_nI (show fi < 100 by omega) (by decide)) dM_get_87 ?_
            refine lv_topi (fun x87 e87 => ?_)
            rw [nI_clamp (show fi < 2 ^ 31 by omega)] at e87
            obtain rfl : x87 = nI 2 := e87.trans ((hF fi hfi).1.trans hwh)
            refine lv_iconst (v := nI 1) hx hb dM_get_88 (by decide) ?_
            refine lv_icmp_ne (tgt := 96) hx hb dM_get_89 (by decide) (fun _ => ?_) (fun q => absurd q (by decide))
            refine lv_aload_n hx hb dM_get_96 rfl (lv_at hl 0 rfl) ?_
            refine va_get (D := (dC, dI)) (ci := 4) (v := .ref (a 11)) (C := RM) (T := TM) (N := 20) hx hb hts inM hown hK hP 0 rfl rfl 14 (by decide) (hts _ wfM_44) (fun _ h9 => h9) rfl dM_get_97 ?_
            refine lv_iload_n hx hb dM_get_100 rfl (lv_at hl 1 rfl) ?_
            refine va_iald hx hb hK hP 11 0 rfl rfl (vp_in_nI (show fi < 100 by omega) (by decide)) dM_get_101 ?_
            refine lv_topi (fun x101 e101 => ?_)
            rw [nI_clamp (show fi < 2 ^ 31 by omega)] at e101
            obtain rfl : x101 = nI hh := e101.trans (hh2)
            refine lv_imul hx hb dM_get_102 ?_
            refine lv_topi (fun x102 e102 => ?_)
            obtain rfl : x102 = nI (12 * hh) := e102.trans (pk_mul _ _)
            refine lv_aload_n hx hb dM_get_103 rfl (lv_at hl 0 rfl) ?_
            refine va_get (D := (dC, dI)) (ci := 4) (v := .ref (a 12)) (C := RM) (T := TM) (N := 20) hx hb hts inM hown hK hP 0 rfl rfl 15 (by decide) (hts _ wfM_47) (fun _ h9 => h9) rfl dM_get_104 ?_
            refine lv_iload_n hx hb dM_get_107 rfl (lv_at hl 1 rfl) ?_
            refine va_iald hx hb hK hP 12 0 rfl rfl (vp_in_nI (show fi < 100 by omega) (by decide)) dM_get_108 ?_
            refine lv_topi (fun x108 e108 => ?_)
            rw [nI_clamp (show fi < 2 ^ 31 by omega)] at e108
            obtain rfl : x108 = nI kk := e108.trans (hk2)
            refine lv_iadd hx hb dM_get_109 ?_
            refine lv_topi (fun x109 e109 => ?_)
            obtain rfl : x109 = nI ((12 * hh) + kk) := e109.trans (nI_add _ _)
            refine va_iald hx hb hK hP 3 0 rfl rfl (vp_in_nI (show ((12 * hh) + kk) < 720 by omega) (by decide)) dM_get_110 ?_
            refine lv_topi (fun x110 e110 => ?_)
            rw [nI_clamp (show ((12 * hh) + kk) < 2 ^ 31 by omega)] at e110
            exact W.iret (v := x110) hx hb hr (fun U9 ht hW => ⟨⟨x110, ((b, t, f), ex, lf, nI 0), rfl, ⟨by rw [hgk], fun _ => by rw [hgk]; exact e110.trans (hV hh hh1 kk hk3)⟩, sk_endw ht hP hD⟩, hS.F ht⟩) hS.2.2 dM_get_111
        · skip
          obtain rfl : r38 = nI 0 := w38.trans hv
          refine lv_if_ne (tgt := 48) hx hb dM_get_41 (by decide) (fun q => absurd q (by decide)) (fun _ => ?_)
          refine lv_iconst (v := nI 2) hx hb dM_get_44 (by decide) ?_
          refine lv_goto (tgt := 62) hx hb dM_get_45 (by decide) ?_
          refine va_put (D := (dC, dI)) (ci := 4) (v := .int (nI 2)) (ty := .int) (C := RM) (T := TM) (N := 20) hx hb hts inM tyM tyM_ok nmM hown hK hP hD hS 0 rfl rfl 0 (by decide) (hts _ wfM_62) (fun _ h9 => h9) rfl (by decide +kernel) rfl rfl (Nat.le_of_ble_eq_true rfl) dM_get_62 (fun H locs hP hD hS => ?_)
          have hP : va_P (dC, dI) vwCl (sk_wMR a k (nI 2) (nI b.1) b.2.2.1 b.2.2.2.1 ex.1 (nI t.1) t.2.1 t.2.2.1 t.2.2.2.2 ex.2.1 (nI f.1) f.2.1 f.2.2.1 ex.2.2.1 f.2.2.2.1 f.2.2.2.2.1 ex.2.2.2.1 ex.2.2.2.2.1 ex.2.2.2.2.2 lf) H := hP
          have hD : va_D A (sk_wMR a k (nI 2) (nI b.1) b.2.2.1 b.2.2.2.1 ex.1 (nI t.1) t.2.1 t.2.2.1 t.2.2.2.2 ex.2.1 (nI f.1) f.2.1 f.2.2.1 ex.2.2.1 f.2.2.2.1 f.2.2.2.2.1 ex.2.2.2.1 ex.2.2.2.2.1 ex.2.2.2.2.2 lf) := hD
          refine lv_aload_n hx hb dM_get_65 rfl (lv_at hl 0 rfl) ?_
          refine va_get (D := (dC, dI)) (ci := 4) (v := .int (nI 2)) (C := RM) (T := TM) (N := 20) hx hb hts inM hown hK hP 0 rfl rfl 0 (by decide) (hts _ wfM_62) (fun _ h9 => h9) rfl dM_get_66 ?_
          refine lv_if_le (tgt := 76) hx hb dM_get_69 (by decide) (fun q => absurd q (by decide)) (fun _ => ?_)
          refine lv_iconst (v := nI 0) hx hb dM_get_72 (by decide) ?_
          refine lv_goto (tgt := 111) hx hb dM_get_73 (by decide) ?_
          have hgk := sk_get_2 (b := b) (t := t) (f := f) h3 (sk_hold_f3 (g := fi) (y := nI o) (by omega) h38)
          exact W.iret (v := nI 0) hx hb hr (fun U9 ht hW => ⟨⟨nI 0, ((b, t, f), ex, lf, nI 2), rfl, ⟨by rw [hgk], fun q => by rw [hgk] at q; cases q⟩, sk_endw ht hP hD⟩, hS.F ht⟩) hS.2.2 dM_get_111
    · skip
      obtain rfl : r15 = nI 0 := w15.trans hv
      refine lv_if_eq (tgt := 44) hx hb dM_get_18 (by decide) (fun _ => ?_) (fun q => absurd (by decide) q)
      refine lv_iconst (v := nI 2) hx hb dM_get_44 (by decide) ?_
      refine lv_goto (tgt := 62) hx hb dM_get_45 (by decide) ?_
      refine va_put (D := (dC, dI)) (ci := 4) (v := .int (nI 2)) (ty := .int) (C := RM) (T := TM) (N := 20) hx hb hts inM tyM tyM_ok nmM hown hK hP hD hS 0 rfl rfl 0 (by decide) (hts _ wfM_62) (fun _ h9 => h9) rfl (by decide +kernel) rfl rfl (Nat.le_of_ble_eq_true rfl) dM_get_62 (fun H locs hP hD hS => ?_)
      have hP : va_P (dC, dI) vwCl (sk_wMR a k (nI 2) (nI b.1) b.2.2.1 b.2.2.2.1 ex.1 (nI t.1) t.2.1 t.2.2.1 t.2.2.2.2 ex.2.1 (nI f.1) f.2.1 f.2.2.1 ex.2.2.1 f.2.2.2.1 f.2.2.2.2.1 ex.2.2.2.1 ex.2.2.2.2.1 ex.2.2.2.2.2 lf) H := hP
      have hD : va_D A (sk_wMR a k (nI 2) (nI b.1) b.2.2.1 b.2.2.2.1 ex.1 (nI t.1) t.2.1 t.2.2.1 t.2.2.2.2 ex.2.1 (nI f.1) f.2.1 f.2.2.1 ex.2.2.1 f.2.2.2.1 f.2.2.2.2.1 ex.2.2.2.1 ex.2.2.2.2.1 ex.2.2.2.2.2 lf) := hD
      refine lv_aload_n hx hb dM_get_65 rfl (lv_at hl 0 rfl) ?_
      refine va_get (D := (dC, dI)) (ci := 4) (v := .int (nI 2)) (C := RM) (T := TM) (N := 20) hx hb hts inM hown hK hP 0 rfl rfl 0 (by decide) (hts _ wfM_62) (fun _ h9 => h9) rfl dM_get_66 ?_
      refine lv_if_le (tgt := 76) hx hb dM_get_69 (by decide) (fun q => absurd q (by decide)) (fun _ => ?_)
      refine lv_iconst (v := nI 0) hx hb dM_get_72 (by decide) ?_
      refine lv_goto (tgt := 111) hx hb dM_get_73 (by decide) ?_
      have hgk := sk_get_2 (b := b) (t := t) (f := f) h3 (sk_hold_f2 h15)
      exact W.iret (v := nI 0) hx hb hr (fun U9 ht hW => ⟨⟨nI 0, ((b, t, f), ex, lf, nI 2), rfl, ⟨by rw [hgk], fun q => by rw [hgk] at q; cases q⟩, sk_endw ht hP hD⟩, hS.F ht⟩) hS.2.2 dM_get_111
  · skip
    obtain rfl : r3 = nI 0 := w3.trans hv
    refine lv_if_ne (tgt := 13) hx hb dM_get_6 (by decide) (fun q => absurd q (by decide)) (fun _ => ?_)
    refine lv_iconst (v := nI 1) hx hb dM_get_9 (by decide) ?_
    refine lv_goto (tgt := 62) hx hb dM_get_10 (by decide) ?_
    refine va_put (D := (dC, dI)) (ci := 4) (v := .int (nI 1)) (ty := .int) (C := RM) (T := TM) (N := 20) hx hb hts inM tyM tyM_ok nmM hown hK hP hD hS 0 rfl rfl 0 (by decide) (hts _ wfM_62) (fun _ h9 => h9) rfl (by decide +kernel) rfl rfl (Nat.le_of_ble_eq_true rfl) dM_get_62 (fun H locs hP hD hS => ?_)
    have hP : va_P (dC, dI) vwCl (sk_wMR a k (nI 1) (nI b.1) b.2.2.1 b.2.2.2.1 ex.1 (nI t.1) t.2.1 t.2.2.1 t.2.2.2.2 ex.2.1 (nI f.1) f.2.1 f.2.2.1 ex.2.2.1 f.2.2.2.1 f.2.2.2.2.1 ex.2.2.2.1 ex.2.2.2.2.1 ex.2.2.2.2.2 lf) H := hP
    have hD : va_D A (sk_wMR a k (nI 1) (nI b.1) b.2.2.1 b.2.2.2.1 ex.1 (nI t.1) t.2.1 t.2.2.1 t.2.2.2.2 ex.2.1 (nI f.1) f.2.1 f.2.2.1 ex.2.2.1 f.2.2.2.1 f.2.2.2.2.1 ex.2.2.2.1 ex.2.2.2.2.1 ex.2.2.2.2.2 lf) := hD
    refine lv_aload_n hx hb dM_get_65 rfl (lv_at hl 0 rfl) ?_
    refine va_get (D := (dC, dI)) (ci := 4) (v := .int (nI 1)) (C := RM) (T := TM) (N := 20) hx hb hts inM hown hK hP 0 rfl rfl 0 (by decide) (hts _ wfM_62) (fun _ h9 => h9) rfl dM_get_66 ?_
    refine lv_if_le (tgt := 76) hx hb dM_get_69 (by decide) (fun q => absurd q (by decide)) (fun _ => ?_)
    refine lv_iconst (v := nI 0) hx hb dM_get_72 (by decide) ?_
    refine lv_goto (tgt := 111) hx hb dM_get_73 (by decide) ?_
    have hgk := sk_get_1 (b := b) (t := t) (y := y) h3
    exact W.iret (v := nI 0) hx hb hr (fun U9 ht hW => ⟨⟨nI 0, ((b, t, f), ex, lf, nI 1), rfl, ⟨by rw [hgk], fun q => by rw [hgk] at q; cases q⟩, sk_endw ht hP hD⟩, hS.F ht⟩) hS.2.2 dM_get_111
abbrev wzM_read : List Cond := .code yM_read cM_read 5 (some .int) :: sk_W
abbrev rzM_read : Room := { frames := 1, cells := 0, slots := 0, locals := 23 }
set_option maxHeartbeats 4000000 in
set_option maxRecDepth 100000 in
theorem kM_read (l : Launch) (dC : Nat → ClassId) (dI : Nat → Nat → Nat) (a : Nat → Nat) (k : Nat → ClassId) (b : sk_Ob) (t : sk_Tr) (f : sk_Fi) (ex : sk_Ex) (lf : sk_F) (th : Int32) (A : Nat → Prop) (x y : Int32) (K : Nat) (hOK : sk_OK K (b, t, f)) (hR : sk_RM (b, t, f) ex) : Met l yM_read wzM_read rzM_read (va_Pc [.ref (a 0), .int x, .int y] (fun U => sk_PM dC dI a k (b, t, f) ex lf th U ∧ va_D A (sk_wM a k (b, t, f) ex lf th))) (va_Qi (fun r (u : sk_S × sk_Ex × sk_F × Int32) => u = ((b, t, f), ex, lf, nI (sk_read (b, t, f) x y).1) ∧ ((sk_read (b, t, f) x y).1 = 0 → r = (sk_read (b, t, f) x y).2)) (fun u U => va_P (dC, dI) vwCl (sk_wM a k u.1 u.2.1 u.2.2.1 u.2.2.2) U.heap ∧ va_D A (sk_wM a k u.1 u.2.1 u.2.2.1 u.2.2.2)) A) 0 0 A := by
  refine Met.ofW (cc := cM_read) (maxL := 5) (ret := (some .int)) (by decide) rfl ?_
  intro p e s m args below meth c s₁ B hml hv
  obtain ⟨rfl, ⟨hP, hK⟩, hD⟩ := hv
  have hx := B.exec
  have hb := B.bytes
  have hr := B.returns
  have hts : ∀ w ∈ sk_W, w.before ([.ref (a 0), .int x, .int y] : List Value).toArray s = true := fun w h => atoms_spec (ws := wzM_read) B.pre w (List.mem_cons_of_mem _ h)
  have hown : s.vm.findClass RM = some m.cls := findClass_of_methodNamed B.named
  have hlocks := B.notSynchronized
  have hS : va_S A s.heap s.heap [] := va_S.rf
  have hP : va_P (dC, dI) vwCl (sk_wMR a k th (nI b.1) b.2.2.1 b.2.2.2.1 ex.1 (nI t.1) t.2.1 t.2.2.1 t.2.2.2.2 ex.2.1 (nI f.1) f.2.1 f.2.2.1 ex.2.2.1 f.2.2.2.1 f.2.2.2.2.1 ex.2.2.2.1 ex.2.2.2.2.1 ex.2.2.2.2.2 lf) s.heap := hP
  have hD : va_D A (sk_wMR a k th (nI b.1) b.2.2.1 b.2.2.2.1 ex.1 (nI t.1) t.2.1 t.2.2.1 t.2.2.2.2 ex.2.1 (nI f.1) f.2.1 f.2.2.1 ex.2.2.1 f.2.2.2.1 f.2.2.2.2.1 ex.2.2.2.1 ex.2.2.2.2.1 ex.2.2.2.2.2 lf) := hD
  have hl := lv_entry ([.ref (a 0), .int x, .int y]) (n := 5) (Nat.le_of_ble_eq_true rfl)
  rw [lg_entry_eq]
  generalize (lg_sl ([.ref (a 0), .int x, .int y]) ++ List.replicate (5 - (lg_sl ([.ref (a 0), .int x, .int y])).length) Slot.unset).toArray = ls at hl ⊢
  have hl : lv_has ls 5 [(0, .ref (a 0)), (1, .int x), (2, .int y)] := hl
  have hT : sk_TO b.1 t := hOK.1
  have hA : sk_AC b.1 b.2.1 := hOK.2.1
  have hO : sk_OO b t := hOK.2.2.1
  have hch0 : ∀ o, b.1 ≤ o → b.2.2.2.1 o = 0 := hOK.2.2.2.2.1
  have hmk : f.1 ≤ K := hOK.2.2.2.2.2.2.1
  have hK5 : K ≤ 512 := hOK.2.2.2.2.2.1
  have h200 : t.1 ≤ 200 := hT.2.1
  have h60 : b.1 ≤ 60 := hT.2.2.1
  have h100 : sk_there f ≤ 100 := Nat.min_le_right _ _
  have hN : sk_RN t ex.2.1 := hR.1
  have hV : sk_RV b t ex.1 := hR.2.1
  have hF : ∀ i, i < sk_there f → sk_RF b f ex i := hR.2.2
  have hFO : ∀ i, i < sk_there f → sk_FO b t f i := hOK.2.2.2.2.2.2.2
  refine lv_aload_n hx hb dM_read_0 rfl (lv_at hl 0 rfl) ?_
  refine lv_aload_n hx hb dM_read_1 rfl (lv_at hl 0 rfl) ?_
  refine lv_iload_n hx hb dM_read_2 rfl (lv_at hl 1 rfl) ?_
  refine va_calli (va_runV (As := [.int x]) (rest := [.ref (a 0)]) ⟨hx, hb, hml, hown, hts⟩ (kM_isObject l dC dI a k b t f ex lf th x) (cwV 1 hts (sk_gV wmM_82 wiM_isObject wsM_isObject wnM wcM_isObject) rfl rfl rfl (by decide +kernel) ⟨Nat.le_of_ble_eq_true rfl, Nat.le_of_ble_eq_true rfl⟩) ⟨sk_blindM _, va_recv hK hP (ci := 4) (q0 := 0) rfl rfl, fun U hU hW => ⟨rfl, sk_atM (S := (b, t, f)) (ex := ex) (lf := lf) (th := th) hP hK hU hW⟩⟩ rfl rfl hl.1 rfl (lv_room (Nat.le_of_ble_eq_true rfl)) dM_read_3 ⟨Nat.le_of_ble_eq_true rfl, Nat.le_of_ble_eq_true rfl⟩) hS (fun _ _ h => h.elim) (fun _ h => h.elim) (fun r3 u3 U9 H locs ht hvm w3 hB hz hk hS => ?_)
  have hP : va_P (dC, dI) vwCl (sk_wMR a k th (nI b.1) b.2.2.1 b.2.2.2.1 ex.1 (nI t.1) t.2.1 t.2.2.1 t.2.2.2.2 ex.2.1 (nI f.1) f.2.1 f.2.2.1 ex.2.2.1 f.2.2.2.1 f.2.2.2.2.1 ex.2.2.2.1 ex.2.2.2.2.1 ex.2.2.2.2.2 lf) H := hP.kept (fun j q hq => hk q.1 ((hP j q hq).lt) (fun h => h))
  clear hk hB ht
  rcases sk_bI_or (sk_hasB b.1 x) with ⟨h3, hv⟩ | ⟨h3, hv⟩
  · skip
    obtain rfl : r3 = nI 1 := w3.trans hv
    obtain ⟨o, ho, eo9⟩ := (sk_hasB_iff (by omega)).mp h3
    subst eo9
    obtain ⟨hs1, hs2, hs3⟩ := sk_shOk h200 hO ho
    refine lv_if_eq (tgt := 13) hx hb dM_read_6 (by decide) (fun q => absurd q (by decide)) (fun _ => ?_)
    refine lv_iconst (v := nI 0) hx hb dM_read_9 (by decide) ?_
    refine lv_goto (tgt := 14) hx hb dM_read_10 (by decide) ?_
    refine va_put (D := (dC, dI)) (ci := 4) (v := .int (nI 0)) (ty := .int) (C := RM) (T := TM) (N := 20) hx hb hts inM tyM tyM_ok nmM hown hK hP hD hS 0 rfl rfl 0 (by decide) (hts _ wfM_62) (fun _ h9 => h9) rfl (by decide +kernel) rfl rfl (Nat.le_of_ble_eq_true rfl) dM_read_14 (fun H locs hP hD hS => ?_)
    have hP : va_P (dC, dI) vwCl (sk_wMR a k (nI 0) (nI b.1) b.2.2.1 b.2.2.2.1 ex.1 (nI t.1) t.2.1 t.2.2.1 t.2.2.2.2 ex.2.1 (nI f.1) f.2.1 f.2.2.1 ex.2.2.1 f.2.2.2.1 f.2.2.2.2.1 ex.2.2.2.1 ex.2.2.2.2.1 ex.2.2.2.2.2 lf) H := hP
    have hD : va_D A (sk_wMR a k (nI 0) (nI b.1) b.2.2.1 b.2.2.2.1 ex.1 (nI t.1) t.2.1 t.2.2.1 t.2.2.2.2 ex.2.1 (nI f.1) f.2.1 f.2.2.1 ex.2.2.1 f.2.2.2.1 f.2.2.2.2.1 ex.2.2.2.1 ex.2.2.2.2.1 ex.2.2.2.2.2 lf) := hD
    refine lv_aload_n hx hb dM_read_17 rfl (lv_at hl 0 rfl) ?_
    refine va_get (D := (dC, dI)) (ci := 4) (v := .int (nI 0)) (C := RM) (T := TM) (N := 20) hx hb hts inM hown hK hP 0 rfl rfl 0 (by decide) (hts _ wfM_62) (fun _ h9 => h9) rfl dM_read_18 ?_
    refine lv_if_le (tgt := 26) hx hb dM_read_21 (by decide) (fun _ => ?_) (fun q => absurd (by decide) q)
    refine lv_iload_n hx hb dM_read_26 rfl (lv_at hl 1 rfl) ?_
    refine lv_istore_n (lv' := [(3, .int (nI o)), (0, .ref (a 0)), (1, .int (nI o)), (2, .int y)]) hx hb dM_read_27 rfl hl (by decide) rfl (fun ls hl => ?_)
    have loop1 : ∀ (nn : Nat) (z : Int32), sk_v b.1 z → sk_nw (sk_own b t y) (sk_abv b.2.1 z) = sk_nw (sk_own b t y) (sk_abv b.2.1 (nI o)) → (sk_abv b.2.1 z).length < nn → ∀ (H : Heap) (locs : List Loc), va_P (dC, dI) vwCl (sk_wMR a k (nI 0) (nI b.1) b.2.2.1 b.2.2.2.1 ex.1 (nI t.1) t.2.1 t.2.2.1 t.2.2.2.2 ex.2.1 (nI f.1) f.2.1 f.2.2.1 ex.2.2.1 f.2.2.2.1 f.2.2.2.2.1 ex.2.2.2.1 ex.2.2.2.2.1 ex.2.2.2.2.2 lf) H → va_D A (sk_wMR a k (nI 0) (nI b.1) b.2.2.1 b.2.2.2.1 ex.1 (nI t.1) t.2.1 t.2.2.1 t.2.2.2.2 ex.2.1 (nI f.1) f.2.1 f.2.2.1 ex.2.2.1 f.2.2.2.1 f.2.2.2.2.1 ex.2.2.2.1 ex.2.2.2.2.1 ex.2.2.2.2.2 lf) → va_S A s.heap H locs → ∀ ls : Array Slot, lv_has ls 5 [(3, .int z), (0, .ref (a 0)), (1, .int (nI o)), (2, .int y)] → W p l e (headSpec wzM_read rzM_read).room s m ([.ref (a 0), .int (nI o), .int y] : List Value).toArray below meth c H locs 0 0 (MQ below (va_Qi (fun r (u : sk_S × sk_Ex × sk_F × Int32) => u = ((b, t, f), ex, lf, nI (sk_read (b, t, f) (nI o) y).1) ∧ ((sk_read (b, t, f) (nI o) y).1 = 0 → r = (sk_read (b, t, f) (nI o) y).2)) (fun u U => va_P (dC, dI) vwCl (sk_wM a k u.1 u.2.1 u.2.2.1 u.2.2.2) U.heap ∧ va_D A (sk_wM a k u.1 u.2.1 u.2.2.1 u.2.2.2)) A) ([.ref (a 0), .int (nI o), .int y] : List Value).toArray s 0 0 A) (F0 m 28 ls []) := by
      intro nn
      induction nn with
      | zero => intro z hz he hmu; exact absurd hmu (Nat.not_lt_zero _)
      | succ nn ih1 =>
        intro z hz he hmu H locs hP hD hS ls hl
        rcases hz with rfl | ⟨q, hq, rfl⟩
        · skip
          refine lv_iload_n hx hb dM_read_28 rfl (lv_at hl 0 rfl) ?_
          refine lv_if_lt (tgt := 72) hx hb dM_read_29 (by decide) (fun _ => ?_) (fun q => absurd (by decide) q)
          refine lv_aload_n hx hb dM_read_72 rfl (lv_at hl 1 rfl) ?_
          refine lv_iconst (v := nI 2) hx hb dM_read_73 (by decide) ?_
          refine va_put (D := (dC, dI)) (ci := 4) (v := .int (nI 2)) (ty := .int) (C := RM) (T := TM) (N := 20) hx hb hts inM tyM tyM_ok nmM hown hK hP hD hS 0 rfl rfl 0 (by decide) (hts _ wfM_62) (fun _ h9 => h9) rfl (by decide +kernel) rfl rfl (Nat.le_of_ble_eq_true rfl) dM_read_74 (fun H locs hP hD hS => ?_)
          have hP : va_P (dC, dI) vwCl (sk_wMR a k (nI 2) (nI b.1) b.2.2.1 b.2.2.2.1 ex.1 (nI t.1) t.2.1 t.2.2.1 t.2.2.2.2 ex.2.1 (nI f.1) f.2.1 f.2.2.1 ex.2.2.1 f.2.2.2.1 f.2.2.2.2.1 ex.2.2.2.1 ex.2.2.2.2.1 ex.2.2.2.2.2 lf) H := hP
          have hD : va_D A (sk_wMR a k (nI 2) (nI b.1) b.2.2.1 b.2.2.2.1 ex.1 (nI t.1) t.2.1 t.2.2.1 t.2.2.2.2 ex.2.1 (nI f.1) f.2.1 f.2.2.1 ex.2.2.1 f.2.2.2.1 f.2.2.2.2.1 ex.2.2.2.1 ex.2.2.2.2.1 ex.2.2.2.2.2 lf) := hD
          refine lv_iconst (v := nI 0) hx hb dM_read_77 (by decide) ?_
          have hgk := sk_read_2 (t := t) (f := f) (y := y) h60 ho (by rw [← he, sk_abv_m1]; rfl)
          exact W.iret (v := nI 0) hx hb hr (fun U9 ht hW => ⟨⟨nI 0, ((b, t, f), ex, lf, nI 2), rfl, ⟨by rw [hgk], fun q => by rw [hgk] at q; cases q⟩, sk_endw ht hP hD⟩, hS.F ht⟩) hS.2.2 dM_read_78
        · skip
          have hs9 := sk_abv_s hA hq
          have hl9 : (sk_abv b.2.1 (nI q)).length = (sk_abv b.2.1 (b.2.1 q)).length + 1 := by rw [hs9]; rfl
          obtain ⟨hq1, hq2, hq3⟩ := sk_shOk h200 hO hq
          refine lv_iload_n hx hb dM_read_28 rfl (lv_at hl 0 rfl) ?_
          refine lv_if_lt (tgt := 72) hx hb dM_read_29 (by decide) (fun c29 => ?_) (fun c29 => ?_)
          · skip
            have n29 : q < 0 := (nI_ltI (a := q) (b := 0) (by omega) (by omega)).mp c29
            omega
          · skip
            have n29 : ¬ q < 0 := fun z9 => c29 ((nI_ltI (a := q) (b := 0) (by omega) (by omega)).mpr z9)
            refine lv_aload_n hx hb dM_read_32 rfl (lv_at hl 1 rfl) ?_
            refine lv_aload_n hx hb dM_read_33 rfl (lv_at hl 1 rfl) ?_
            refine va_get (D := (dC, dI)) (ci := 4) (v := .ref (a 1)) (C := RM) (T := TM) (N := 20) hx hb hts inM hown hK hP 0 rfl rfl 2 (by decide) (hts _ wfM_7) (fun _ h9 => h9) rfl dM_read_34 ?_
            refine lv_iload_n hx hb dM_read_37 rfl (lv_at hl 0 rfl) ?_
            refine va_iald hx hb hK hP 1 0 rfl rfl (vp_in_nI (show q < 60 by omega) (by decide)) dM_read_38 ?_
            refine lv_topi (fun x38 e38 => ?_)
            rw [nI_clamp (show q < 2 ^ 31 by omega)] at e38
            obtain rfl : x38 = nI (sk_sh b q) := e38.trans (hq2)
            refine lv_iload_n hx hb dM_read_39 rfl (lv_at hl 3 rfl) ?_
            refine va_calli (va_runV (As := [.int (nI (sk_sh b q)), .int y]) (rest := []) ⟨hx, hb, hml, hown, hts⟩ (kM_placeOf l dC dI a k b t f ex lf (nI 0) (sk_sh b q) y hT hN hq1) (cwV 2 hts (sk_gV wmM_92 wiM_placeOf wsM_placeOf wnM wcM_placeOf) rfl rfl rfl (by decide +kernel) ⟨Nat.le_of_ble_eq_true rfl, Nat.le_of_ble_eq_true rfl⟩) ⟨sk_blindM _, va_recv hK hP (ci := 4) (q0 := 0) rfl rfl, fun U hU hW => ⟨rfl, sk_atM (S := (b, t, f)) (ex := ex) (lf := lf) (th := nI 0) hP hK hU hW⟩⟩ rfl rfl hl.1 rfl (lv_room (Nat.le_of_ble_eq_true rfl)) dM_read_40 ⟨Nat.le_of_ble_eq_true rfl, Nat.le_of_ble_eq_true rfl⟩) hS (fun _ _ h => h.elim) (fun _ h => h.elim) (fun r40 u40 U9 H locs ht hvm w40 hB hz hk hS => ?_)
            have hP : va_P (dC, dI) vwCl (sk_wMR a k (nI 0) (nI b.1) b.2.2.1 b.2.2.2.1 ex.1 (nI t.1) t.2.1 t.2.2.1 t.2.2.2.2 ex.2.1 (nI f.1) f.2.1 f.2.2.1 ex.2.2.1 f.2.2.2.1 f.2.2.2.2.1 ex.2.2.2.1 ex.2.2.2.2.1 ex.2.2.2.2.2 lf) H := hP.kept (fun j q hq => hk q.1 ((hP j q hq).lt) (fun h => h))
            clear hk hB ht
            rcases sk_placeOk hT y hq1 with hp | ⟨kk, hk1, hk2, hp⟩
            · skip
              obtain rfl : r40 = -1 := w40.trans hp
              refine lv_istore (lv' := [(4, .int (-1)), (3, .int (nI q)), (0, .ref (a 0)), (1, .int (nI o)), (2, .int y)]) hx hb dM_read_43 hl (by decide) rfl (fun ls hl => ?_)
              refine lv_iload hx hb dM_read_45 (lv_at hl 0 rfl) ?_
              refine lv_if_lt (tgt := 63) hx hb dM_read_47 (by decide) (fun _ => ?_) (fun q => absurd (by decide) q)
              refine lv_aload_n hx hb dM_read_63 rfl (lv_at hl 2 rfl) ?_
              refine lv_iload_n hx hb dM_read_64 rfl (lv_at hl 1 rfl) ?_
              refine va_calli (va_runV (As := [.int (nI q)]) (rest := []) ⟨hx, hb, hml, hown, hts⟩ (kM_above l dC dI a k b t f ex lf (nI 0) q hT hO hq) (cwV 1 hts (sk_gV wmM_95 wiM_above wsM_above wnM wcM_above) rfl rfl rfl (by decide +kernel) ⟨Nat.le_of_ble_eq_true rfl, Nat.le_of_ble_eq_true rfl⟩) ⟨sk_blindM _, va_recv hK hP (ci := 4) (q0 := 0) rfl rfl, fun U hU hW => ⟨rfl, sk_atM (S := (b, t, f)) (ex := ex) (lf := lf) (th := nI 0) hP hK hU hW⟩⟩ rfl rfl hl.1 rfl (lv_room (Nat.le_of_ble_eq_true rfl)) dM_read_65 ⟨Nat.le_of_ble_eq_true rfl, Nat.le_of_ble_eq_true rfl⟩) hS (fun _ _ h => h.elim) (fun _ h => h.elim) (fun r65 u65 U9 H locs ht hvm w65 hB hz hk hS => ?_)
              have hP : va_P (dC, dI) vwCl (sk_wMR a k (nI 0) (nI b.1) b.2.2.1 b.2.2.2.1 ex.1 (nI t.1) t.2.1 t.2.2.1 t.2.2.2.2 ex.2.1 (nI f.1) f.2.1 f.2.2.1 ex.2.2.1 f.2.2.2.1 f.2.2.2.2.1 ex.2.2.2.1 ex.2.2.2.2.1 ex.2.2.2.2.2 lf) H := hP.kept (fun j q hq => hk q.1 ((hP j q hq).lt) (fun h => h))
              clear hk hB ht
              refine lv_istore_n (lv' := [(3, .int r65), (4, .int (-1)), (0, .ref (a 0)), (1, .int (nI o)), (2, .int y)]) hx hb dM_read_68 rfl hl (by decide) rfl (fun ls hl => ?_)
              refine lv_goto (tgt := 28) hx hb dM_read_69 (by decide) ?_
              have hmx : (sk_abv b.2.1 r65).length < nn := by rw [w65]; omega
              exact ih1 r65 (by rw [w65]; exact hA.2.1 q hq) (by rw [w65, ← he, hs9]; exact (if_neg (by rw [sk_own_f hp]; decide)).symm) (by omega) _ _ hP hD hS ls (lv_sub hl [0, 2, 3, 4] rfl)
            · skip
              obtain rfl : r40 = nI kk := w40.trans hp
              refine lv_istore (lv' := [(4, .int (nI kk)), (3, .int (nI q)), (0, .ref (a 0)), (1, .int (nI o)), (2, .int y)]) hx hb dM_read_43 hl (by decide) rfl (fun ls hl => ?_)
              refine lv_iload hx hb dM_read_45 (lv_at hl 0 rfl) ?_
              refine lv_if_lt (tgt := 63) hx hb dM_read_47 (by decide) (fun c47 => ?_) (fun c47 => ?_)
              · skip
                have n47 : kk < 0 := (nI_ltI (a := kk) (b := 0) (by omega) (by omega)).mp c47
                omega
              · skip
                have n47 : ¬ kk < 0 := fun z9 => c47 ((nI_ltI (a := kk) (b := 0) (by omega) (by omega)).mpr z9)
                refine lv_aload_n hx hb dM_read_50 rfl (lv_at hl 2 rfl) ?_
                refine va_get (D := (dC, dI)) (ci := 4) (v := .ref (a 3)) (C := RM) (T := TM) (N := 20) hx hb hts inM hown hK hP 0 rfl rfl 4 (by decide) (hts _ wfM_16) (fun _ h9 => h9) rfl dM_read_51 ?_
                refine lv_bipush (v := nI 12) hx hb dM_read_54 (by decide) ?_
                refine lv_iload_n hx hb dM_read_56 rfl (lv_at hl 1 rfl) ?_
                refine lv_imul hx hb dM_read_57 ?_
                refine lv_topi (fun x57 e57 => ?_)
                obtain rfl : x57 = nI (12 * q) := e57.trans (pk_mul _ _)
                refine lv_iload hx hb dM_read_58 (lv_at hl 0 rfl) ?_
                refine lv_iadd hx hb dM_read_60 ?_
                refine lv_topi (fun x60 e60 => ?_)
                obtain rfl : x60 = nI ((12 * q) + kk) := e60.trans (nI_add _ _)
                refine va_iald hx hb hK hP 3 0 rfl rfl (vp_in_nI (show ((12 * q) + kk) < 720 by omega) (by decide)) dM_read_61 ?_
                refine lv_topi (fun x61 e61 => ?_)
                rw [nI_clamp (show ((12 * q) + kk) < 2 ^ 31 by omega)] at e61
                have hgk := sk_read_3 (t := t) (f := f) (y := y) h60 ho (by omega) hk2 (by rw [← he, hs9]; exact (if_pos (sk_own_t (by rw [hp]; exact sk_nm1 (by omega)))).symm) hp
                exact W.iret (v := x61) hx hb hr (fun U9 ht hW => ⟨⟨x61, ((b, t, f), ex, lf, nI 0), rfl, ⟨by rw [hgk], fun _ => by rw [hgk]; exact e61.trans (hV q hq kk hk1)⟩, sk_endw ht hP hD⟩, hS.F ht⟩) hS.2.2 dM_read_62
    exact loop1 ((sk_abv b.2.1 (nI o)).length + 1) (nI o) (Or.inr ⟨o, ho, rfl⟩) (rfl) (Nat.lt_succ_self _) _ _ hP hD hS ls (lv_sub hl [0, 1, 2, 3] rfl)
  · skip
    obtain rfl : r3 = nI 0 := w3.trans hv
    refine lv_if_eq (tgt := 13) hx hb dM_read_6 (by decide) (fun _ => ?_) (fun q => absurd (by decide) q)
    refine lv_iconst (v := nI 1) hx hb dM_read_13 (by decide) ?_
    refine va_put (D := (dC, dI)) (ci := 4) (v := .int (nI 1)) (ty := .int) (C := RM) (T := TM) (N := 20) hx hb hts inM tyM tyM_ok nmM hown hK hP hD hS 0 rfl rfl 0 (by decide) (hts _ wfM_62) (fun _ h9 => h9) rfl (by decide +kernel) rfl rfl (Nat.le_of_ble_eq_true rfl) dM_read_14 (fun H locs hP hD hS => ?_)
    have hP : va_P (dC, dI) vwCl (sk_wMR a k (nI 1) (nI b.1) b.2.2.1 b.2.2.2.1 ex.1 (nI t.1) t.2.1 t.2.2.1 t.2.2.2.2 ex.2.1 (nI f.1) f.2.1 f.2.2.1 ex.2.2.1 f.2.2.2.1 f.2.2.2.2.1 ex.2.2.2.1 ex.2.2.2.2.1 ex.2.2.2.2.2 lf) H := hP
    have hD : va_D A (sk_wMR a k (nI 1) (nI b.1) b.2.2.1 b.2.2.2.1 ex.1 (nI t.1) t.2.1 t.2.2.1 t.2.2.2.2 ex.2.1 (nI f.1) f.2.1 f.2.2.1 ex.2.2.1 f.2.2.2.1 f.2.2.2.2.1 ex.2.2.2.1 ex.2.2.2.2.1 ex.2.2.2.2.2 lf) := hD
    refine lv_aload_n hx hb dM_read_17 rfl (lv_at hl 0 rfl) ?_
    refine va_get (D := (dC, dI)) (ci := 4) (v := .int (nI 1)) (C := RM) (T := TM) (N := 20) hx hb hts inM hown hK hP 0 rfl rfl 0 (by decide) (hts _ wfM_62) (fun _ h9 => h9) rfl dM_read_18 ?_
    refine lv_if_le (tgt := 26) hx hb dM_read_21 (by decide) (fun q => absurd q (by decide)) (fun _ => ?_)
    refine lv_iconst (v := nI 0) hx hb dM_read_24 (by decide) ?_
    have hgk := sk_read_1 (t := t) (f := f) (y := y) h3
    exact W.iret (v := nI 0) hx hb hr (fun U9 ht hW => ⟨⟨nI 0, ((b, t, f), ex, lf, nI 1), rfl, ⟨by rw [hgk], fun q => by rw [hgk] at q; cases q⟩, sk_endw ht hP hD⟩, hS.F ht⟩) hS.2.2 dM_read_25
