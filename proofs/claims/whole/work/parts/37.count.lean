abbrev cJ_bitCount : ByteArray := prog_11_method_50_code
def RJ : String := "java/lang/Long"
def yJ_bitCount : MethodName := ⟨RJ, "bitCount", "(J)I"⟩
theorem dJ_bitCount_0 : decode cJ_bitCount 0 = .ok (.lload_n 0, 1) := by decide +kernel
theorem dJ_bitCount_1 : decode cJ_bitCount 1 = .ok (.lload_n 0, 1) := by decide +kernel
theorem dJ_bitCount_2 : decode cJ_bitCount 2 = .ok (.iconst 1, 1) := by decide +kernel
theorem dJ_bitCount_3 : decode cJ_bitCount 3 = .ok (.lushr, 1) := by decide +kernel
theorem dJ_bitCount_4 : decode cJ_bitCount 4 = .ok (.ldc2_w 314, 3) := by decide +kernel
theorem dJ_bitCount_7 : decode cJ_bitCount 7 = .ok (.land, 1) := by decide +kernel
theorem dJ_bitCount_8 : decode cJ_bitCount 8 = .ok (.lsub, 1) := by decide +kernel
theorem dJ_bitCount_9 : decode cJ_bitCount 9 = .ok (.lstore_n 0, 1) := by decide +kernel
theorem dJ_bitCount_10 : decode cJ_bitCount 10 = .ok (.lload_n 0, 1) := by decide +kernel
theorem dJ_bitCount_11 : decode cJ_bitCount 11 = .ok (.ldc2_w 316, 3) := by decide +kernel
theorem dJ_bitCount_14 : decode cJ_bitCount 14 = .ok (.land, 1) := by decide +kernel
theorem dJ_bitCount_15 : decode cJ_bitCount 15 = .ok (.lload_n 0, 1) := by decide +kernel
theorem dJ_bitCount_16 : decode cJ_bitCount 16 = .ok (.iconst 2, 1) := by decide +kernel
theorem dJ_bitCount_17 : decode cJ_bitCount 17 = .ok (.lushr, 1) := by decide +kernel
theorem dJ_bitCount_18 : decode cJ_bitCount 18 = .ok (.ldc2_w 316, 3) := by decide +kernel
theorem dJ_bitCount_21 : decode cJ_bitCount 21 = .ok (.land, 1) := by decide +kernel
theorem dJ_bitCount_22 : decode cJ_bitCount 22 = .ok (.ladd, 1) := by decide +kernel
theorem dJ_bitCount_23 : decode cJ_bitCount 23 = .ok (.lstore_n 0, 1) := by decide +kernel
theorem dJ_bitCount_24 : decode cJ_bitCount 24 = .ok (.lload_n 0, 1) := by decide +kernel
theorem dJ_bitCount_25 : decode cJ_bitCount 25 = .ok (.lload_n 0, 1) := by decide +kernel
theorem dJ_bitCount_26 : decode cJ_bitCount 26 = .ok (.iconst 4, 1) := by decide +kernel
theorem dJ_bitCount_27 : decode cJ_bitCount 27 = .ok (.lushr, 1) := by decide +kernel
theorem dJ_bitCount_28 : decode cJ_bitCount 28 = .ok (.ladd, 1) := by decide +kernel
theorem dJ_bitCount_29 : decode cJ_bitCount 29 = .ok (.ldc2_w 318, 3) := by decide +kernel
theorem dJ_bitCount_32 : decode cJ_bitCount 32 = .ok (.land, 1) := by decide +kernel
theorem dJ_bitCount_33 : decode cJ_bitCount 33 = .ok (.lstore_n 0, 1) := by decide +kernel
theorem dJ_bitCount_34 : decode cJ_bitCount 34 = .ok (.lload_n 0, 1) := by decide +kernel
theorem dJ_bitCount_35 : decode cJ_bitCount 35 = .ok (.lload_n 0, 1) := by decide +kernel
theorem dJ_bitCount_36 : decode cJ_bitCount 36 = .ok (.bipush 8, 2) := by decide +kernel
theorem dJ_bitCount_38 : decode cJ_bitCount 38 = .ok (.lushr, 1) := by decide +kernel
theorem dJ_bitCount_39 : decode cJ_bitCount 39 = .ok (.ladd, 1) := by decide +kernel
theorem dJ_bitCount_40 : decode cJ_bitCount 40 = .ok (.lstore_n 0, 1) := by decide +kernel
theorem dJ_bitCount_41 : decode cJ_bitCount 41 = .ok (.lload_n 0, 1) := by decide +kernel
theorem dJ_bitCount_42 : decode cJ_bitCount 42 = .ok (.lload_n 0, 1) := by decide +kernel
theorem dJ_bitCount_43 : decode cJ_bitCount 43 = .ok (.bipush 16, 2) := by decide +kernel
theorem dJ_bitCount_45 : decode cJ_bitCount 45 = .ok (.lushr, 1) := by decide +kernel
theorem dJ_bitCount_46 : decode cJ_bitCount 46 = .ok (.ladd, 1) := by decide +kernel
theorem dJ_bitCount_47 : decode cJ_bitCount 47 = .ok (.lstore_n 0, 1) := by decide +kernel
theorem dJ_bitCount_48 : decode cJ_bitCount 48 = .ok (.lload_n 0, 1) := by decide +kernel
theorem dJ_bitCount_49 : decode cJ_bitCount 49 = .ok (.lload_n 0, 1) := by decide +kernel
theorem dJ_bitCount_50 : decode cJ_bitCount 50 = .ok (.bipush 32, 2) := by decide +kernel
theorem dJ_bitCount_52 : decode cJ_bitCount 52 = .ok (.lushr, 1) := by decide +kernel
theorem dJ_bitCount_53 : decode cJ_bitCount 53 = .ok (.ladd, 1) := by decide +kernel
theorem dJ_bitCount_54 : decode cJ_bitCount 54 = .ok (.lstore_n 0, 1) := by decide +kernel
theorem dJ_bitCount_55 : decode cJ_bitCount 55 = .ok (.lload_n 0, 1) := by decide +kernel
theorem dJ_bitCount_56 : decode cJ_bitCount 56 = .ok (.l2i, 1) := by decide +kernel
theorem dJ_bitCount_57 : decode cJ_bitCount 57 = .ok (.bipush 127, 2) := by decide +kernel
theorem dJ_bitCount_59 : decode cJ_bitCount 59 = .ok (.iand, 1) := by decide +kernel
theorem dJ_bitCount_60 : decode cJ_bitCount 60 = .ok (.ireturn, 1) := by decide +kernel
theorem wmO_38b : Cond.methodLink RO 38 yJ_bitCount ∈ sk_W := sk_mem 292 (by decide +kernel) (by decide +kernel)
theorem wiJ_bitCount : Cond.static yJ_bitCount ∈ sk_W := sk_mem 293 (by decide +kernel) (by decide +kernel)
theorem wcJ_bitCount : Cond.code yJ_bitCount cJ_bitCount 2 (some .int) ∈ sk_W := sk_mem 294 (by decide +kernel) (by decide +kernel)
theorem wvJ_314 : Cond.constantLong RJ 314 (lN (sk_M 85 8)) ∈ sk_W := sk_mem 295 (by decide +kernel) (by decide +kernel)
theorem wvJ_316 : Cond.constantLong RJ 316 (lN (sk_M 51 8)) ∈ sk_W := sk_mem 296 (by decide +kernel) (by decide +kernel)
theorem wvJ_318 : Cond.constantLong RJ 318 (lN (sk_M 15 8)) ∈ sk_W := sk_mem 297 (by decide +kernel) (by decide +kernel)
theorem wnJ : Cond.initialized RJ ∈ sk_W := sk_mem 52 (by decide +kernel) (by decide +kernel)
theorem sk_and127 (n : Nat) : nI n &&& nI 127 = nI (n % 128) := by
  rw [pk_and (nI n) 7 (by decide), show (nI n).toBitVec.toNat = n % 2 ^ 32 from BitVec.toNat_ofNat n 32]
  congr 1
  omega
theorem sk_i64 {n : Nat} (h : n < 2 ^ 64) (k : Nat) : n / 2 ^ k < 2 ^ 64 := Nat.lt_of_le_of_lt (Nat.div_le_self _ _) h
abbrev wzJ_bitCount : List Cond := .code yJ_bitCount cJ_bitCount 2 (some .int) :: sk_W
abbrev rzJ_bitCount : Room := { frames := 0, cells := 0, slots := 0, locals := 0 }
theorem sk_gS2 {own : String} {idx : Nat} {y : MethodName} {c : Cond} (h1 : Cond.methodLink own idx y ∈ sk_W) (h2 : Cond.static y ∈ sk_W) (h4 : Cond.initialized y.cls ∈ sk_W) (h5 : c ∈ sk_W) : GoodIn sk_W (va_wsS own idx y (c :: sk_W)) := by
  intro w hw
  rcases List.mem_append.mp hw with q | q
  · simp only [List.mem_cons, List.not_mem_nil, or_false] at q
    rcases q with rfl | rfl | rfl
    · exact sk_Wgood _ h1
    · exact sk_Wgood _ h2
    · exact sk_Wgood _ h4
  · exact sk_gC h5 w q
set_option maxHeartbeats 4000000 in
set_option maxRecDepth 100000 in
theorem kJ_bitCount (l : Launch) (v : Nat) (hv : v < 2 ^ 64) : Met l yJ_bitCount wzJ_bitCount rzJ_bitCount (va_Pc [.long (lN v)] (fun _ => True)) (va_Qi (fun r (_ : Unit) => r = nI (sk_pop 8 v)) (fun _ _ => True) (fun _ => False)) 0 0 (fun _ => False) := by
  refine Met.ofW (cc := cJ_bitCount) (maxL := 2) (ret := (some .int)) (by decide) rfl ?_
  intro p e s m args below meth c s₁ B hml hv9
  obtain ⟨rfl, -⟩ := hv9
  have hx := B.exec
  have hb := B.bytes
  have hr := B.returns
  have hts : ∀ w ∈ sk_W, w.before ([.long (lN v)] : List Value).toArray s = true := fun w h => atoms_spec (ws := wzJ_bitCount) B.pre w (List.mem_cons_of_mem _ h)
  have hown : s.vm.findClass RJ = some m.cls := findClass_of_methodNamed B.named
  have hlocks := B.notSynchronized
  have hS : va_S (fun _ => False) s.heap s.heap [] := va_S.rf
  have hl := lv_entry ([.long (lN v)]) (n := 2) (Nat.le_of_ble_eq_true rfl)
  rw [lg_entry_eq]
  generalize (lg_sl ([.long (lN v)]) ++ List.replicate (2 - (lg_sl ([.long (lN v)])).length) Slot.unset).toArray = ls at hl ⊢
  have hl : lv_has ls 2 [(0, .long (lN v))] := hl
  have hv1 : sk_S1 8 v < 2 ^ 64 := Nat.lt_of_le_of_lt (Nat.sub_le _ _) hv
  have hm3 : sk_M 51 8 = 3689348814741910323 := by decide +kernel
  have hv2 : sk_S2 8 (sk_S1 8 v) ≤ 7378697629483820646 := by
    have z1 : (sk_S1 8 v &&& sk_M 51 8) ≤ sk_M 51 8 := Nat.and_le_right
    have z2 : (sk_S1 8 v / 4 &&& sk_M 51 8) ≤ sk_M 51 8 := Nat.and_le_right
    unfold sk_S2
    rw [hm3] at z1 z2 ⊢
    omega
  have hv3 : sk_S2 8 (sk_S1 8 v) + sk_S2 8 (sk_S1 8 v) / 16 < 2 ^ 64 := by
    have z1 : sk_S2 8 (sk_S1 8 v) / 16 ≤ 461168601842738790 := by
      have := Nat.div_le_div_right (c := 16) hv2
      exact Nat.le_trans this (by decide)
    have z2 : (18446744073709551616 : Nat) = 2 ^ 64 := by decide
    omega
  have hv4 : sk_S2 8 (sk_S1 8 v) < 2 ^ 64 := Nat.lt_of_le_of_lt (Nat.le_add_right _ _) hv3
  have hfo := sk_fo_eq 8 v (by rw [show (256 : Nat) ^ 8 = 2 ^ 64 by decide]; exact hv)
  obtain ⟨R1, R2, R4, g0, g1, g2, g3, g4, g5⟩ := sk_fin_eq v
  have z64 : (18446744073709551616 : Nat) = 2 ^ 64 := by decide
  have y1 : sk_fo 8 v < 2 ^ 64 := by omega
  have y2 : sk_fo 8 v + R1 < 2 ^ 64 := by omega
  have y3 : sk_fo 8 v + R1 + R2 < 2 ^ 64 := by omega
  refine lv_lload_n hx hb dJ_bitCount_0 rfl (lv_at hl 0 rfl) ?_
  refine lv_lload_n hx hb dJ_bitCount_1 rfl (lv_at hl 0 rfl) ?_
  refine lv_iconst (v := nI 1) hx hb dJ_bitCount_2 (by decide) ?_
  refine lv_lushr (v := lN (v / 2)) hx hb dJ_bitCount_3 (wb_shr (k := 1) hv (by decide)) ?_
  refine lv_ldc2 (v := lN (sk_M 85 8)) hx hb hown (hts _ wvJ_314) dJ_bitCount_4 ?_
  refine lv_land hx hb dJ_bitCount_7 ?_
  refine lv_topl (fun x7 e7 => ?_)
  obtain rfl : x7 = lN (v / 2 &&& sk_M 85 8) := e7.trans (wb_and (sk_i64 hv 1) (by decide))
  refine lv_lsub hx hb dJ_bitCount_8 ?_
  refine lv_topl (fun x8 e8 => ?_)
  obtain rfl : x8 = lN (sk_S1 8 v) := e8.trans (lN_sub (Nat.le_trans Nat.and_le_left (Nat.div_le_self v 2)))
  refine lv_lstore_n (lv' := [(0, .long (lN (sk_S1 8 v)))]) hx hb dJ_bitCount_9 rfl hl (by decide) rfl (fun ls hl => ?_)
  refine lv_lload_n hx hb dJ_bitCount_10 rfl (lv_at hl 0 rfl) ?_
  refine lv_ldc2 (v := lN (sk_M 51 8)) hx hb hown (hts _ wvJ_316) dJ_bitCount_11 ?_
  refine lv_land hx hb dJ_bitCount_14 ?_
  refine lv_topl (fun x14 e14 => ?_)
  obtain rfl : x14 = lN (sk_S1 8 v &&& sk_M 51 8) := e14.trans (wb_and hv1 (by decide))
  refine lv_lload_n hx hb dJ_bitCount_15 rfl (lv_at hl 0 rfl) ?_
  refine lv_iconst (v := nI 2) hx hb dJ_bitCount_16 (by decide) ?_
  refine lv_lushr (v := lN (sk_S1 8 v / 4)) hx hb dJ_bitCount_17 (wb_shr (k := 2) hv1 (by decide)) ?_
  refine lv_ldc2 (v := lN (sk_M 51 8)) hx hb hown (hts _ wvJ_316) dJ_bitCount_18 ?_
  refine lv_land hx hb dJ_bitCount_21 ?_
  refine lv_topl (fun x21 e21 => ?_)
  obtain rfl : x21 = lN (sk_S1 8 v / 4 &&& sk_M 51 8) := e21.trans (wb_and (sk_i64 hv1 2) (by decide))
  refine lv_ladd hx hb dJ_bitCount_22 ?_
  refine lv_topl (fun x22 e22 => ?_)
  obtain rfl : x22 = lN (sk_S2 8 (sk_S1 8 v)) := e22.trans (lN_add _ _)
  refine lv_lstore_n (lv' := [(0, .long (lN (sk_S2 8 (sk_S1 8 v))))]) hx hb dJ_bitCount_23 rfl hl (by decide) rfl (fun ls hl => ?_)
  refine lv_lload_n hx hb dJ_bitCount_24 rfl (lv_at hl 0 rfl) ?_
  refine lv_lload_n hx hb dJ_bitCount_25 rfl (lv_at hl 0 rfl) ?_
  refine lv_iconst (v := nI 4) hx hb dJ_bitCount_26 (by decide) ?_
  refine lv_lushr (v := lN (sk_S2 8 (sk_S1 8 v) / 16)) hx hb dJ_bitCount_27 (wb_shr (k := 4) hv4 (by decide)) ?_
  refine lv_ladd hx hb dJ_bitCount_28 ?_
  refine lv_topl (fun x28 e28 => ?_)
  obtain rfl : x28 = lN (sk_S2 8 (sk_S1 8 v) + sk_S2 8 (sk_S1 8 v) / 16) := e28.trans (lN_add _ _)
  refine lv_ldc2 (v := lN (sk_M 15 8)) hx hb hown (hts _ wvJ_318) dJ_bitCount_29 ?_
  refine lv_land hx hb dJ_bitCount_32 ?_
  refine lv_topl (fun x32 e32 => ?_)
  obtain rfl : x32 = lN (sk_fo 8 v) := e32.trans ((wb_and hv3 (by decide)).trans (congrArg lN hfo))
  refine lv_lstore_n (lv' := [(0, .long (lN (sk_fo 8 v)))]) hx hb dJ_bitCount_33 rfl hl (by decide) rfl (fun ls hl => ?_)
  refine lv_lload_n hx hb dJ_bitCount_34 rfl (lv_at hl 0 rfl) ?_
  refine lv_lload_n hx hb dJ_bitCount_35 rfl (lv_at hl 0 rfl) ?_
  refine lv_bipush (v := nI 8) hx hb dJ_bitCount_36 (by decide) ?_
  refine lv_lushr (v := lN R1) hx hb dJ_bitCount_38 ((wb_shr (k := 8) y1 (by decide)).trans (congrArg lN g1)) ?_
  refine lv_ladd hx hb dJ_bitCount_39 ?_
  refine lv_topl (fun x39 e39 => ?_)
  obtain rfl : x39 = lN (sk_fo 8 v + R1) := e39.trans (lN_add _ _)
  refine lv_lstore_n (lv' := [(0, .long (lN (sk_fo 8 v + R1)))]) hx hb dJ_bitCount_40 rfl hl (by decide) rfl (fun ls hl => ?_)
  refine lv_lload_n hx hb dJ_bitCount_41 rfl (lv_at hl 0 rfl) ?_
  refine lv_lload_n hx hb dJ_bitCount_42 rfl (lv_at hl 0 rfl) ?_
  refine lv_bipush (v := nI 16) hx hb dJ_bitCount_43 (by decide) ?_
  refine lv_lushr (v := lN R2) hx hb dJ_bitCount_45 ((wb_shr (k := 16) y2 (by decide)).trans (congrArg lN g2)) ?_
  refine lv_ladd hx hb dJ_bitCount_46 ?_
  refine lv_topl (fun x46 e46 => ?_)
  obtain rfl : x46 = lN (sk_fo 8 v + R1 + R2) := e46.trans (lN_add _ _)
  refine lv_lstore_n (lv' := [(0, .long (lN (sk_fo 8 v + R1 + R2)))]) hx hb dJ_bitCount_47 rfl hl (by decide) rfl (fun ls hl => ?_)
  refine lv_lload_n hx hb dJ_bitCount_48 rfl (lv_at hl 0 rfl) ?_
  refine lv_lload_n hx hb dJ_bitCount_49 rfl (lv_at hl 0 rfl) ?_
  refine lv_bipush (v := nI 32) hx hb dJ_bitCount_50 (by decide) ?_
  refine lv_lushr (v := lN R4) hx hb dJ_bitCount_52 ((wb_shr (k := 32) y3 (by decide)).trans (congrArg lN g3)) ?_
  refine lv_ladd hx hb dJ_bitCount_53 ?_
  refine lv_topl (fun x53 e53 => ?_)
  obtain rfl : x53 = lN (sk_fo 8 v + R1 + R2 + R4) := e53.trans (lN_add _ _)
  refine lv_lstore_n (lv' := [(0, .long (lN (sk_fo 8 v + R1 + R2 + R4)))]) hx hb dJ_bitCount_54 rfl hl (by decide) rfl (fun ls hl => ?_)
  refine lv_lload_n hx hb dJ_bitCount_55 rfl (lv_at hl 0 rfl) ?_
  refine lv_l2i (v := nI (sk_fo 8 v + R1 + R2 + R4)) hx hb dJ_bitCount_56 (lN_i _) ?_
  refine lv_bipush (v := nI 127) hx hb dJ_bitCount_57 (by decide) ?_
  refine lv_iand hx hb dJ_bitCount_59 ?_
  refine lv_topi (fun x59 e59 => ?_)
  obtain rfl : x59 = nI (sk_pop 8 v) := e59.trans ((sk_and127 _).trans (congrArg nI g5))
  exact W.iret (v := nI (sk_pop 8 v)) hx hb hr (fun U9 ht hW => ⟨⟨nI (sk_pop 8 v), (), rfl, rfl, trivial⟩, hS.F ht⟩) hS.2.2 dJ_bitCount_60
abbrev wzO_countAbove : List Cond := .code yO_countAbove cO_countAbove 2 (some .int) :: sk_W
abbrev rzO_countAbove : Room := { frames := 1, cells := 0, slots := 0, locals := 26 }
set_option maxHeartbeats 4000000 in
set_option maxRecDepth 100000 in
theorem kO_countAbove (l : Launch) (dC : Nat → ClassId) (dI : Nat → Nat → Nat) (a : Nat → Nat) (k : Nat → ClassId) (b : sk_Ob) (t : sk_Tr) (f : sk_Fi) (wt : sk_F) (o : Nat) (hA : sk_AC b.1 b.2.1) (ho : o < b.1) : Met l yO_countAbove wzO_countAbove rzO_countAbove (va_Pc [.ref (a 1), .int (nI o)] (sk_PX dC dI a k (b, t, f) wt)) (va_Qi (fun r (_ : Unit) => r = nI (sk_abv b.2.1 (b.2.1 o)).length) (fun _ _ => True) (fun _ => False)) 0 0 (fun _ => False) := by
  refine Met.ofW (cc := cO_countAbove) (maxL := 2) (ret := (some .int)) (by decide) rfl ?_
  intro p e s m args below meth c s₁ B hml hv
  obtain ⟨rfl, hP, hK, hN⟩ := hv
  have hx := B.exec
  have hb := B.bytes
  have hr := B.returns
  have hts : ∀ w ∈ sk_W, w.before ([.ref (a 1), .int (nI o)] : List Value).toArray s = true := fun w h => atoms_spec (ws := wzO_countAbove) B.pre w (List.mem_cons_of_mem _ h)
  have hown : s.vm.findClass RO = some m.cls := findClass_of_methodNamed B.named
  have hlocks := B.notSynchronized
  have hS : va_S (fun _ => False) s.heap s.heap [] := va_S.rf
  have hP : va_P (dC, dI) vwCl (sk_wR a k (nI b.1) b.2.1 b.2.2.1 b.2.2.2.1 b.2.2.2.2 (nI t.1) t.2.1 t.2.2.1 t.2.2.2.1 t.2.2.2.2 (nI f.1) (nI (sk_there f)) (nI (f.1 % 100)) f.2.1 f.2.2.1 f.2.2.2.1 f.2.2.2.2.1 (fun i => lN (sk_nb (f.2.2.2.2.2.1 i))) (fun i => sk_bI (f.2.2.2.2.2.2 i)) wt) s.heap := hP
  have hl := lv_entry ([.ref (a 1), .int (nI o)]) (n := 2) (Nat.le_of_ble_eq_true rfl)
  rw [lg_entry_eq]
  generalize (lg_sl ([.ref (a 1), .int (nI o)]) ++ List.replicate (2 - (lg_sl ([.ref (a 1), .int (nI o)])).length) Slot.unset).toArray = ls at hl ⊢
  have hl : lv_has ls 2 [(0, .ref (a 1)), (1, .int (nI o))] := hl
  have h60 : b.1 ≤ 60 := hA.1
  have hlt := sk_abv_lt hA (hA.2.1 o ho)
  have h6 : ∀ x ∈ sk_abv b.2.1 (b.2.1 o), x < 60 := fun x hx => Nat.lt_of_lt_of_le (hlt x hx) h60
  have hn64 := sk_nb_lt (sk_abv b.2.1 (b.2.1 o)) (fun x hx => Nat.lt_trans (h6 x hx) (by decide))
  refine lv_aload_n hx hb dO_countAbove_0 rfl (lv_at hl 0 rfl) ?_
  refine lv_aload_n hx hb dO_countAbove_1 rfl (lv_at hl 0 rfl) ?_
  refine va_get (D := (dC, dI)) (ci := 1) (v := .ref (a 5)) (C := RO) (T := TO) (N := 5) hx hb hts inO hown hK hP 1 rfl rfl 0 (by decide) (hts _ wfO_9) (fun _ h9 => h9) rfl dO_countAbove_2 ?_
  refine lv_iload_n hx hb dO_countAbove_5 rfl (lv_at hl 1 rfl) ?_
  refine va_iald hx hb hK hP 5 0 rfl rfl (vp_in_nI (show o < 60 by omega) (by decide)) dO_countAbove_6 ?_
  refine lv_topi (fun x6 e6 => ?_)
  rw [nI_clamp (show o < 2 ^ 31 by omega)] at e6
  refine lv_iconst (v := (-1)) hx hb dO_countAbove_7 (by decide) ?_
  refine va_calll (va_runV (As := [.int x6, .int (-1)]) (rest := []) ⟨hx, hb, hml, hown, hts⟩ (kO_way l dC dI a k b t f wt x6 (-1) hA (by rw [e6]; exact hA.2.1 o ho)) (cwV 2 hts (sk_gV wmO_34 wiO_way wsO_way wnO wcO_way) rfl rfl rfl (by decide +kernel) ⟨Nat.le_of_ble_eq_true rfl, Nat.le_of_ble_eq_true rfl⟩) ⟨sk_blind _, va_recv hK hP (ci := 1) (q0 := 1) rfl rfl, fun U hU hW => ⟨rfl, sk_at (S := (b, t, f)) (wt := wt) hP hK hN hU hW⟩⟩ rfl rfl hl.1 rfl (lv_room (Nat.le_of_ble_eq_true rfl)) dO_countAbove_8 ⟨Nat.le_of_ble_eq_true rfl, Nat.le_of_ble_eq_true rfl⟩) hS (fun _ _ h => h.elim) (fun _ h => h.elim) (fun r8 u8 U9 H locs ht hvm w8 hB hz hk hS => ?_)
  have hP : va_P (dC, dI) vwCl (sk_wR a k (nI b.1) b.2.1 b.2.2.1 b.2.2.2.1 b.2.2.2.2 (nI t.1) t.2.1 t.2.2.1 t.2.2.2.1 t.2.2.2.2 (nI f.1) (nI (sk_there f)) (nI (f.1 % 100)) f.2.1 f.2.2.1 f.2.2.2.1 f.2.2.2.2.1 (fun i => lN (sk_nb (f.2.2.2.2.2.1 i))) (fun i => sk_bI (f.2.2.2.2.2.2 i)) wt) H := hP.kept (fun j q hq => hk q.1 ((hP j q hq).lt) (fun h => h))
  clear hk hB ht
  obtain rfl : r8 = lN (sk_nb (sk_abv b.2.1 (b.2.1 o))) := w8.trans (by rw [e6, sk_uptoM _ h6])
  refine va_calli (va_runS (As := [.long (lN (sk_nb (sk_abv b.2.1 (b.2.1 o))))]) (rest := []) ⟨hx, hb, hml, hown, hts⟩ (kJ_bitCount l (sk_nb (sk_abv b.2.1 (b.2.1 o))) hn64) (va_cwS 1 hts (sk_gS2 wmO_38b wiJ_bitCount wnJ wcJ_bitCount) rfl rfl rfl (by decide +kernel) ⟨Nat.le_of_ble_eq_true rfl, Nat.le_of_ble_eq_true rfl⟩) ⟨fun _ _ _ _ q => q, fun U hU hW => ⟨rfl, trivial⟩⟩ rfl rfl hl.1 rfl (lv_room (Nat.le_of_ble_eq_true rfl)) dO_countAbove_11 ⟨Nat.le_of_ble_eq_true rfl, Nat.le_of_ble_eq_true rfl⟩) hS (fun _ _ h => h.elim) (fun _ h => h.elim) (fun r11 u11 U9 H locs ht hvm w11 hB hz hk hS => ?_)
  exact W.iret (v := r11) hx hb hr (fun U9 ht hW => ⟨⟨r11, (), rfl, w11.trans (congrArg nI (sk_pop_nb _ (sk_abv_nodup hA (hA.2.1 o ho)) (fun x hx => Nat.lt_trans (h6 x hx) (by decide)))), trivial⟩, hS.F ht⟩) hS.2.2 dO_countAbove_14
