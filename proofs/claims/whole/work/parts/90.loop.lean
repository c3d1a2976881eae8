theorem sk_sw11 (y : Int32) : y = nI 0 ∨ y = nI 1 ∨ y = nI 2 ∨ y = nI 3 ∨ y = nI 4 ∨ y = nI 5 ∨ y = nI 6 ∨ y = nI 7 ∨ y = nI 8 ∨ y = nI 9 ∨ y = nI 10 ∨ y = nI 11 ∨ (y.toInt < 0 ∨ 11 < y.toInt) := by
  rcases sk_swn y 11 (by decide) with ⟨j, hj, e⟩ | h
  · rcases (show j = 0 ∨ j = 1 ∨ j = 2 ∨ j = 3 ∨ j = 4 ∨ j = 5 ∨ j = 6 ∨ j = 7 ∨ j = 8 ∨ j = 9 ∨ j = 10 ∨ j = 11 by omega) with rfl | rfl | rfl | rfl | rfl | rfl | rfl | rfl | rfl | rfl | rfl | rfl <;> simp [e]
  · exact Or.inr (Or.inr (Or.inr (Or.inr (Or.inr (Or.inr (Or.inr (Or.inr (Or.inr (Or.inr (Or.inr (Or.inr h)))))))))))
theorem sk_guard {L j : Nat} (hL : L ≤ 2048) (hj : j ≤ 512) (h : ¬ Int32.ofNat L - nI 4 < nI (4 * j)) : 4 * j + 4 ≤ L := by
  have e1 : Int32.ofNat L = nI L := rfl
  rw [e1] at h
  by_cases h4 : 4 ≤ L
  · rw [pk_sub h4, Int32.lt_iff_toInt_lt, nI_toInt (by omega), nI_toInt (by omega)] at h
    omega
  · refine absurd ?_ h
    rw [Int32.lt_iff_toInt_lt, nI_toInt (n := 4 * j) (by omega)]
    rcases (show L = 0 ∨ L = 1 ∨ L = 2 ∨ L = 3 by omega) with rfl | rfl | rfl | rfl
    · have : (nI 0 - nI 4).toInt = -4 := by decide
      omega
    · have : (nI 1 - nI 4).toInt = -3 := by decide
      omega
    · have : (nI 2 - nI 4).toInt = -2 := by decide
      omega
    · have : (nI 3 - nI 4).toInt = -1 := by decide
      omega
set_option maxHeartbeats 4000000 in
set_option maxRecDepth 100000 in
theorem law_loop {p : Program} {e : Env} {s : State} {m : MethodId} {below : List Frame} {meth : Method} {c : Code} {l : Launch} {b L : Nat} {xs : Nat → Int32} {dC : Nat → ClassId} {dI : Nat → Nat → Nat} {a am : Nat → Nat} {k : Nat → ClassId} {oa : Nat} (C0 : sk_L0 p s m meth c b L xs l dC dI k) : ∀ n j : Nat, 513 - j < n → j ≤ 512 → sk_LC p l e s m below meth c b dC dI a am k oa j := by
  intro n
  induction n with
  | zero => intro j hn; exact absurd hn (Nat.not_lt_zero _)
  | succ n ih =>
    intro j hn hj S wt ex lf th fo H locs ls hOK hR hP hD hS hl
    obtain ⟨bo, t, f⟩ := S
    obtain ⟨⟨hx, hb, hr, hml, hown, hts0, hX, hbl, hlocks, hgv⟩, hL, -⟩ := id C0
    have hbA : ¬ sk_LA s b := Nat.not_le.mpr hbl
    refine lv_iload hx hb dL_law_23 (lv_at hl 4 rfl) ?_
    refine lv_aload_n hx hb dL_law_25 rfl (lv_at hl 0 rfl) ?_
    refine va_slen hx hb hX hbl hbA hS dL_law_26 ?_
    refine lv_iconst (v := nI 4) hx hb dL_law_27 (by decide) ?_
    refine lv_isub hx hb dL_law_28 ?_
    refine lv_icmp_gt (tgt := 631) hx hb dL_law_29 (by decide) (fun c29 => ?_) (fun c29 => ?_)
    · refine lv_iconst (v := 1) hx hb dL_law_631 (by decide) ?_
      refine va_forget (fun q hq => hS.2.2 q hq) ?_
      refine W.widen (k := 601024) (n := 7293034) (by omega) (by omega) ?_
      exact lw_ret hx hb hr hlocks dL_law_632
    · have hg : 4 * j + 4 ≤ L := sk_guard hL hj c29
      have hin0 : vp_in (nI (4 * j)) L := vp_in_nI (by omega) (by omega)
      refine lv_aload_n hx hb dL_law_32 rfl (lv_at hl 0 rfl) ?_
      refine lv_iload hx hb dL_law_33 (lv_at hl 4 rfl) ?_
      refine va_sld hx hb hX hbl hbA hS hin0 dL_law_35 ?_
      refine lv_bipush (v := nI 15) hx hb dL_law_36 (by decide) ?_
      refine lv_iand hx hb dL_law_38 ?_
      refine lv_topi (fun x38 e38 => ?_)
      have hI := ih (j + 1) (by omega) (by omega)
      clear e38 c29
      rcases sk_sw11 x38 with rfl | rfl | rfl | rfl | rfl | rfl | rfl | rfl | rfl | rfl | rfl | rfl | hsw
      · refine lv_tableIn (off := 61) (tgt := 100) hx hb dL_law_39 (by decide) (by decide) (by decide +kernel) (by decide) ?_
        exact law_c0 C0 hg hI hOK hR hP hD hS hl
      · refine lv_tableIn (off := 117) (tgt := 156) hx hb dL_law_39 (by decide) (by decide) (by decide +kernel) (by decide) ?_
        exact law_c1 C0 hg hI hOK hR hP hD hS hl
      · refine lv_tableIn (off := 166) (tgt := 205) hx hb dL_law_39 (by decide) (by decide) (by decide +kernel) (by decide) ?_
        exact law_c2 C0 hg hI hOK hR hP hD hS hl
      · refine lv_tableIn (off := 203) (tgt := 242) hx hb dL_law_39 (by decide) (by decide) (by decide +kernel) (by decide) ?_
        exact law_c3 C0 hg hI hOK hR hP hD hS hl
      · refine lv_tableIn (off := 240) (tgt := 279) hx hb dL_law_39 (by decide) (by decide) (by decide +kernel) (by decide) ?_
        exact law_c4 C0 hg hI hOK hR hP hD hS hl
      · refine lv_tableIn (off := 308) (tgt := 347) hx hb dL_law_39 (by decide) (by decide) (by decide +kernel) (by decide) ?_
        exact law_c5 C0 hg hI hOK hR hP hD hS hl
      · refine lv_tableIn (off := 345) (tgt := 384) hx hb dL_law_39 (by decide) (by decide) (by decide +kernel) (by decide) ?_
        exact law_c6 C0 hg hI hOK hR hP hD hS hl
      · refine lv_tableIn (off := 382) (tgt := 421) hx hb dL_law_39 (by decide) (by decide) (by decide +kernel) (by decide) ?_
        exact law_c7 C0 hg hI hOK hR hP hD hS hl
      · refine lv_tableIn (off := 450) (tgt := 489) hx hb dL_law_39 (by decide) (by decide) (by decide +kernel) (by decide) ?_
        exact law_c8 C0 hg hI hOK hR hP hD hS hl
      · refine lv_tableIn (off := 487) (tgt := 526) hx hb dL_law_39 (by decide) (by decide) (by decide +kernel) (by decide) ?_
        exact law_c9 C0 hg hI hOK hR hP hD hS hl
      · refine lv_tableIn (off := 524) (tgt := 563) hx hb dL_law_39 (by decide) (by decide) (by decide +kernel) (by decide) ?_
        exact law_c10 C0 hg hI hOK hR hP hD hS hl
      · refine lv_tableIn (off := 561) (tgt := 600) hx hb dL_law_39 (by decide) (by decide) (by decide +kernel) (by decide) ?_
        exact law_c11 C0 hg hI hOK hR hP hD hS hl
      · refine lv_tableOut (tgt := 625) hx hb dL_law_39 hsw (by decide) ?_
        exact sk_tail C0 hI (by omega) (by omega) (sk_OK_mono hOK (by omega)) hR hP hD hS hl
