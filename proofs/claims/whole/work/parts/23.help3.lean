theorem sk_canP_t1 {n : Nat} {x : Int32} (h : x = -1) : nI 1 = sk_bI (sk_canP n x) := by unfold sk_canP; rw [decide_eq_true h]; rfl
theorem sk_canP_t2 {n : Nat} {x : Int32} (h : sk_hasB n x = true) : nI 1 = sk_bI (sk_canP n x) := by unfold sk_canP; rw [h, Bool.or_true]; rfl
theorem sk_canP_f {n : Nat} {x : Int32} (h0 : ¬ x = -1) (h : sk_hasB n x = false) : nI 0 = sk_bI (sk_canP n x) := by unfold sk_canP; rw [h, decide_eq_false h0]; rfl
theorem sk_isN_eq (x : Int32) : sk_isN x = sk_hasB 12 x := rfl
def sk_shf (g : sk_F) (k i : Nat) : sk_F := fun j => if k ≤ j ∧ j < i then g (j + 1) else g j
theorem sk_shf_0 (g : sk_F) (k : Nat) : sk_shf g k k = g := by
  funext j; unfold sk_shf; rw [if_neg (by omega)]
theorem sk_shf_s {g : sk_F} {k i : Nat} (h : k ≤ i) : upd (sk_shf g k i) i (sk_shf g k i (i + 1)) = sk_shf g k (i + 1) := by
  funext j
  unfold upd sk_shf
  by_cases e : j = i
  · subst e
    rw [if_pos rfl, if_neg (by omega), if_pos (by omega)]
  · rw [if_neg e]
    by_cases q : k ≤ j ∧ j < i
    · rw [if_pos q, if_pos (by omega)]
    · rw [if_neg q, if_neg (by omega)]
theorem sk_shf_e (g : sk_F) (k : Nat) : sk_shf g k 11 = sk_shift g k := rfl
theorem sk_upup {α : Type} (f : Nat → α) (k : Nat) (v w : α) : va_up (va_up f k v) k w = va_up f k w := bx_uu f k v w
theorem sk_upsame {α : Type} (f : Nat → α) (k : Nat) : va_up f k (f k) = f := by
  funext j; unfold va_up; by_cases e : j = k
  · subst e; rw [if_pos rfl]
  · rw [if_neg e]
section SKA
variable {p : Program} {l : Launch} {e : Env} {R : Room} {s : State} {m : MethodId} {args : Array Value} {below : List Frame} {meth : Method} {c : Code} {H : Heap} {locs : List Loc} {cells slots : Nat} {Q : State → Prop}
theorem sk_aldA {cc : ByteArray} {pc : Nat} {ls : Array Slot} {rest : List Value} {D : va_G} {cl : List vw_C} {tys : List (ClassId × FieldType)} {ws : va_W} {a : Nat} (hexec : p.tables.exec = Jvm.exec) (hb : c.code = cc) (hK : va_K D cl tys s) (hP : va_P D cl ws H) (q0 t0 : Nat) {cA : ClassId} {t : FieldType} {n : Nat} {f : Nat → Option Nat} (ha : ws[q0]? = some (a, .inl (cA, n, .inr (.inr (.inr (.inr f)))))) (ht : tys[t0]? = some (cA, .array t)) {i : Int32} (hin : vp_in i n) (hdg : decode cc pc = .ok (.aaload, 1))
    (kk : W p l e R s m args below meth c H locs cells slots Q (F0 m (pc + 1) ls (va_rf (f i.toNatClampNeg) :: rest))) : W p l e R s m args below meth c H locs cells slots Q (F0 m pc ls (.int i :: .ref a :: rest)) := by
  have hlt : i.toNatClampNeg < n := Nat.not_le.mp fun q => hin (Or.inr q)
  exact W.aald (v := va_rf (f i.toNatClampNeg)) (ty := .array t) hexec hb (hP q0 _ ha) ((hK.2 t0 _ ht).1 n (fun j => va_rf (f j))) rfl (fun q => by cases q) (by show ¬ (i < 0 ∨ (arrV _ _ _).slots.size ≤ _); rw [arrV_size]; exact hin) (by show (arrV _ _ _).slots[_]? = _; rw [arrV_read _ _ hlt]) rfl rfl hdg kk
theorem sk_aald {cc : ByteArray} {pc : Nat} {ls : Array Slot} {rest : List Value} {D : va_G} {a : Nat → Nat} {k : Nat → ClassId} {nO : Int32} {op sh ch : sk_F} {va : Nat → sk_F} {nS : Int32} {pr og la le : sk_F} {mk th nx : Int32} {fs fn fh fp : sk_F} {wy : Nat → Int64} {hd wt : sk_F} (hexec : p.tables.exec = Jvm.exec) (hb : c.code = cc) (hK : va_K D vwCl (sk_tys k) s) (hP : va_P D vwCl (sk_wR a k nO op sh ch va nS pr og la le mk th nx fs fn fh fp wy hd wt) H) {o : Nat} (ho : o < 60) (hdg : decode cc pc = .ok (.aaload, 1))
    (kk : W p l e R s m args below meth c H locs cells slots Q (F0 m (pc + 1) ls (.ref (a (100 + o)) :: rest))) : W p l e R s m args below meth c H locs cells slots Q (F0 m pc ls (.int (nI o) :: .ref (a 8) :: rest)) := by
  have e9 : va_rf (if (nI o).toNatClampNeg < 60 then some (a (100 + (nI o).toNatClampNeg)) else none) = .ref (a (100 + o)) := by
    rw [nI_clamp (by omega), if_pos ho]; rfl
  refine sk_aldA (f := fun i => if i < 60 then some (a (100 + i)) else none) hexec hb hK hP 8 3 rfl rfl (vp_in_nI ho (by decide)) hdg ?_
  show W p l e R s m args below meth c H locs cells slots Q (F0 m (pc + 1) ls (va_rf (if (nI o).toNatClampNeg < 60 then some (a (100 + (nI o).toNatClampNeg)) else none) :: rest))
  rw [e9]
  exact kk
end SKA
theorem sk_uptoV {own : Nat → Bool} : ∀ l : List Nat, (∀ x ∈ l, x < 60) → sk_upto (fun y => decide (nI y = sk_nw own l)) l = sk_upto own l
  | [], _ => rfl
  | x :: r, h => by
    have hx := h x List.mem_cons_self
    by_cases ho : own x = true
    · have e1 : sk_nw own (x :: r) = nI x := if_pos ho
      rw [e1, sk_upto, sk_upto, if_pos (decide_eq_true rfl), if_pos ho]
    · have e1 : sk_nw own (x :: r) = sk_nw own r := if_neg ho
      have ih := sk_uptoV (own := own) r (fun y hy => h y (List.mem_cons_of_mem _ hy))
      have hne : ¬ nI x = sk_nw own r := fun q => by
        rcases sk_nw_spec own r with ⟨a, -, -⟩ | ⟨y, hy, a, b, -⟩
        · exact sk_nm1 (by omega) (q.trans a)
        · have hy60 := h y (List.mem_cons_of_mem _ hy)
          have := sk_inj (by omega) (by omega) (q.trans a)
          subst this
          exact ho b
      rw [e1, sk_upto, sk_upto, if_neg (by simp [hne]), if_neg ho, ih]
theorem sk_uptoM : ∀ l : List Nat, (∀ x ∈ l, x < 60) → sk_upto (fun y => decide (nI y = -1)) l = l
  | [], _ => rfl
  | x :: r, h => by
    have hx := h x List.mem_cons_self
    rw [sk_upto, if_neg (by simp [sk_nm1 (show x < 2 ^ 31 by omega)]), sk_uptoM r (fun y hy => h y (List.mem_cons_of_mem _ hy))]
theorem sk_p64 {q : Nat} (h : q < 60) : 2 ^ q < 2 ^ 64 := wb_lt2 (by omega)
theorem sk_shl {q : Nat} (h : q < 60) : lN 1 <<< ((nI q).toInt64 &&& 63) = lN (2 ^ q) := by rw [wb_shl 1 (by omega), Nat.one_mul]
theorem sk_cnt_s {P : Nat → Bool} {i : Nat} {c : Nat} (h : c = sk_cnt P i) (hp : P i = true) : c + 1 = sk_cnt P (i + 1) := by rw [h, sk_cnt, if_pos hp]
theorem sk_cnt_n {P : Nat → Bool} {i : Nat} {c : Nat} (h : c = sk_cnt P i) (hp : P i = false) : c = sk_cnt P (i + 1) := by rw [h, sk_cnt, if_neg (by rw [hp]; decide)]; rfl
theorem sk_cnt_le (P : Nat → Bool) : ∀ i, sk_cnt P i ≤ i
  | 0 => Nat.le_refl _
  | i + 1 => by
    have := sk_cnt_le P i
    rw [sk_cnt]
    split <;> omega
theorem sk_updW {wl : Nat → List Nat} {k : Nat} {w : List Nat} : vp_updL (fun i => lN (sk_nb (wl i))) k (lN (sk_nb w)) = fun i => lN (sk_nb (va_up wl k w i)) := by
  funext j; unfold vp_updL va_up; by_cases e : j = k
  · rw [if_pos e, if_pos e]
  · rw [if_neg e, if_neg e]
theorem sk_updH {hb : Nat → Bool} {k : Nat} : upd (fun i => sk_bI (hb i)) k (nI 1) = fun i => sk_bI (va_up hb k true i) := by
  funext j; unfold upd va_up; by_cases e : j = k
  · rw [if_pos e, if_pos e]; rfl
  · rw [if_neg e, if_neg e]
theorem sk_updH0 {hb : Nat → Bool} {k : Nat} : upd (fun i => sk_bI (hb i)) k (nI 0) = fun i => sk_bI (va_up hb k false i) := by
  funext j; unfold upd va_up; by_cases e : j = k
  · rw [if_pos e, if_pos e]; rfl
  · rw [if_neg e, if_neg e]
theorem sk_max {n : Nat} : (if nI (min n 100) < nI (n % 100 + 1) then nI (n % 100 + 1) else nI (min n 100)) = nI (min (n + 1) 100) := by
  by_cases h : n < 100
  · rw [Nat.mod_eq_of_lt h, Nat.min_eq_left (by omega), Nat.min_eq_left (by omega), if_pos (nI_lt (by omega) (by omega))]
  · rw [Nat.min_eq_right (by omega), Nat.min_eq_right (by omega)]
    have h2 : n % 100 < 100 := Nat.mod_lt _ (by decide)
    by_cases e : nI 100 < nI (n % 100 + 1)
    · rw [nI_ltI (by omega) (by omega)] at e; omega
    · rw [if_neg e]
theorem sk_nx1 {n : Nat} (h : ¬ 100 ≤ n % 100 + 1) : n % 100 + 1 = (n + 1) % 100 := by omega
theorem sk_nx0 {n : Nat} (h : 100 ≤ n % 100 + 1) : 0 = (n + 1) % 100 := by omega
theorem sk_bitin {l : List Nat} {o : Nat} (hl : ∀ x ∈ l, x < 60) (ho : o < 60) : lN (sk_nb l) &&& lN (2 ^ o) = lN (sk_nb l &&& 2 ^ o) := wb_and (sk_nb_lt l (fun x hx => by have := hl x hx; omega)) (sk_p64 ho)
theorem sk_bit0 {l : List Nat} {o : Nat} (ho : o < 60) : lN (sk_nb l &&& 2 ^ o) = lN 0 ↔ o ∉ l := by
  have hlt : sk_nb l &&& 2 ^ o < 2 ^ 64 := Nat.and_lt_two_pow _ (sk_p64 ho)
  constructor
  · intro h hm
    have h2 := congrArg (fun z => Int64.toBitVec z |>.toNat) h
    simp only [wb_tn hlt, wb_tn (show 0 < 2 ^ 64 by decide)] at h2
    have h3 : (sk_nb l &&& 2 ^ o).testBit o = true := by rw [Nat.testBit_and, sk_nb_bit, Nat.testBit_two_pow]; simp [hm]
    rw [h2] at h3
    simp at h3
  · intro h
    have h2 : sk_nb l &&& 2 ^ o = 0 := by
      apply Nat.eq_of_testBit_eq
      intro j
      rw [Nat.testBit_and, sk_nb_bit, Nat.testBit_two_pow, Nat.zero_testBit]
      by_cases e : o = j
      · subst e; simp [h]
      · simp [e]
    rw [h2]
