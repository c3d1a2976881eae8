/-! the whole state, and what each call answers and does -/
abbrev sk_Ob : Type := Nat × sk_F × sk_F × sk_F × (Nat → sk_F)
abbrev sk_Fi : Type := Nat × sk_F × sk_F × sk_F × sk_F × (Nat → List Nat) × (Nat → Bool)
abbrev sk_S : Type := sk_Ob × sk_Tr × sk_Fi
def sk_there (f : sk_Fi) : Nat := min f.1 100
def sk_hasB (n : Nat) (x : Int32) : Bool := decide (0 ≤ x) && decide (x < nI n)
def sk_isN (x : Int32) : Bool := decide (0 ≤ x) && decide (x < nI 12)
def sk_canP (n : Nat) (p : Int32) : Bool := decide (p = -1) || sk_hasB n p
theorem sk_hasB_iff {n : Nat} (hn : n < 2 ^ 31) {x : Int32} : sk_hasB n x = true ↔ ∃ j, j < n ∧ x = nI j := by
  unfold sk_hasB
  rw [Bool.and_eq_true, decide_eq_true_eq, decide_eq_true_eq]
  constructor
  · intro ⟨h1, h2⟩
    rcases pk_ix x hn with h | h | h
    · exact absurd h1 (by rw [Int32.le_iff_toInt_le]; rw [Int32.lt_iff_toInt_lt] at h; omega)
    · exact absurd h2 (by rw [Int32.lt_iff_toInt_lt]; rw [Int32.le_iff_toInt_le] at h; omega)
    · exact h
  · intro ⟨j, hj, e⟩
    subst e
    exact ⟨nI_pos' (by omega), nI_lt hj hn⟩
theorem sk_hasB_nI {n j : Nat} (hn : n < 2 ^ 31) (h : j < n) : sk_hasB n (nI j) = true := (sk_hasB_iff hn).mpr ⟨j, h, rfl⟩
theorem sk_isN_iff {x : Int32} : sk_isN x = true ↔ ∃ j, j < 12 ∧ x = nI j := sk_hasB_iff (n := 12) (by decide)
theorem sk_canP_iff {n : Nat} (hn : n < 2 ^ 31) {p : Int32} : sk_canP n p = true ↔ sk_v n p := by
  unfold sk_canP sk_v
  rw [Bool.or_eq_true, decide_eq_true_eq, sk_hasB_iff hn]
def sk_chg (b : sk_Ob) (o g : Nat) : sk_Ob := (b.1, b.2.1, upd b.2.2.1 o (nI g), upd b.2.2.2.1 o (b.2.2.2.1 o + 1), b.2.2.2.2)
def sk_setv (b : sk_Ob) (o k : Nat) (x : Int32) : sk_Ob := (b.1, b.2.1, b.2.2.1, b.2.2.2.1, va_up b.2.2.2.2 o (upd (b.2.2.2.2 o) k x))
def sk_shift (g : sk_F) (k : Nat) : sk_F := fun j => if k ≤ j ∧ j < 11 then g (j + 1) else g j
def sk_gap (b : sk_Ob) (o k : Nat) : sk_Ob := (b.1, b.2.1, b.2.2.1, b.2.2.2.1, va_up b.2.2.2.2 o (sk_shift (b.2.2.2.2 o) k))
def sk_brkB (f : sk_Fi) (o i : Nat) : Bool := f.2.2.2.2.2.2 i && !(decide (i < sk_there f) && decide (o ∈ f.2.2.2.2.2.1 i))
def sk_brk (f : sk_Fi) (o : Nat) : sk_Fi := (f.1, f.2.1, f.2.2.1, f.2.2.2.1, f.2.2.2.2.1, f.2.2.2.2.2.1, sk_brkB f o)
def sk_add (f : sk_Fi) (s nm h pl : Int32) (w : List Nat) : sk_Fi := (f.1 + 1, upd f.2.1 (f.1 % 100) s, upd f.2.2.1 (f.1 % 100) nm, upd f.2.2.2.1 (f.1 % 100) h, upd f.2.2.2.2.1 (f.1 % 100) pl, va_up f.2.2.2.2.2.1 (f.1 % 100) w, va_up f.2.2.2.2.2.2 (f.1 % 100) true)
def sk_sh (b : sk_Ob) (x : Nat) : Nat := (b.2.2.1 x).toNatClampNeg
def sk_own (b : sk_Ob) (t : sk_Tr) (nm : Int32) (x : Nat) : Bool := !decide (sk_place t nm (sk_sh b x) = -1)
def sk_grow (t : sk_Tr) (s : Nat) (a : Int32) : Option (sk_Tr × Nat) :=
  if sk_wn t s a = -1 then (if 200 ≤ t.1 then none else some (sk_grow1 t s a, t.1)) else some (t, (sk_wn t s a).toNatClampNeg)
def sk_object (S : sk_S) (p : Int32) : Nat × Int32 × sk_S :=
  if sk_canP S.1.1 p = false then (1, 0, S) else if 60 ≤ S.1.1 then (2, 0, S) else
  match sk_reach S.2.1 p [] with
  | none => (2, 0, S)
  | some (u, r) => (0, nI S.1.1, ((S.1.1 + 1, upd S.1.2.1 S.1.1 p, upd S.1.2.2.1 S.1.1 (nI r), S.1.2.2.2.1, S.1.2.2.2.2), u, S.2.2))
def sk_setN (S : sk_S) (x : Nat) (nm v : Int32) : Bool × sk_S :=
  if sk_place S.2.1 nm (sk_sh S.1 x) = -1 then
    (match sk_grow S.2.1 (sk_sh S.1 x) nm with
    | none => (false, S)
    | some (u, g) => (true, (sk_setv (sk_chg S.1 x g) x (sk_len S.2.1 (sk_sh S.1 x)) v, u, sk_brk S.2.2 x)))
  else (true, (sk_setv S.1 x (sk_place S.2.1 nm (sk_sh S.1 x)).toNatClampNeg v, S.2.1, S.2.2))
def sk_set (S : sk_S) (o nm v : Int32) : Bool × sk_S := if (sk_hasB S.1.1 o && sk_isN nm) = true then sk_setN S o.toNatClampNeg nm v else (false, S)
def sk_left (t : sk_Tr) (s : Nat) (nm : Int32) : List Int32 := (sk_names t s).filter (fun a => !decide (a = nm))
def sk_dropN (S : sk_S) (x : Nat) (nm : Int32) : Bool × sk_S :=
  if sk_place S.2.1 nm (sk_sh S.1 x) = -1 then (false, S) else
  match sk_reach S.2.1 (S.1.2.1 x) (sk_left S.2.1 (sk_sh S.1 x) nm) with
  | none => (false, S)
  | some (u, r) => (true, (sk_chg (sk_gap S.1 x (sk_place S.2.1 nm (sk_sh S.1 x)).toNatClampNeg) x r, u, sk_brk S.2.2 x))
def sk_drop (S : sk_S) (o nm : Int32) : Bool × sk_S := if sk_hasB S.1.1 o = true then sk_dropN S o.toNatClampNeg nm else (false, S)
def sk_turnN (S : sk_S) (x : Nat) (p : Int32) : Bool × sk_S :=
  if x ∈ sk_abv S.1.2.1 p then (false, S) else
  match sk_reach S.2.1 p (sk_names S.2.1 (sk_sh S.1 x)) with
  | none => (false, S)
  | some (u, r) => (true, (sk_chg (S.1.1, upd S.1.2.1 x p, S.1.2.2) x r, u, sk_brk S.2.2 x))
def sk_turn (S : sk_S) (o p : Int32) : Bool × sk_S := if (sk_hasB S.1.1 o && sk_canP S.1.1 p) = true then sk_turnN S o.toNatClampNeg p else (false, S)
def sk_readN (S : sk_S) (x : Nat) (nm : Int32) : Nat × Int32 :=
  if sk_nw (sk_own S.1 S.2.1 nm) (sk_abv S.1.2.1 (nI x)) = -1 then (2, 0)
  else (0, S.1.2.2.2.2 (sk_nw (sk_own S.1 S.2.1 nm) (sk_abv S.1.2.1 (nI x))).toNatClampNeg (sk_place S.2.1 nm (sk_sh S.1 (sk_nw (sk_own S.1 S.2.1 nm) (sk_abv S.1.2.1 (nI x))).toNatClampNeg)).toNatClampNeg)
def sk_read (S : sk_S) (o nm : Int32) : Nat × Int32 := if sk_hasB S.1.1 o = true then sk_readN S o.toNatClampNeg nm else (1, 0)
def sk_opl (b : sk_Ob) (t : sk_Tr) (nm h : Int32) : Int32 := if h = -1 then -1 else sk_place t nm (sk_sh b h.toNatClampNeg)
def sk_findN (S : sk_S) (x : Nat) (nm : Int32) : sk_Fi :=
  if sk_place S.2.1 nm (sk_sh S.1 x) = -1 then sk_add S.2.2 (S.1.2.2.1 x) nm (sk_nw (sk_own S.1 S.2.1 nm) (sk_abv S.1.2.1 (S.1.2.1 x))) (sk_opl S.1 S.2.1 nm (sk_nw (sk_own S.1 S.2.1 nm) (sk_abv S.1.2.1 (S.1.2.1 x)))) (sk_upto (sk_own S.1 S.2.1 nm) (sk_abv S.1.2.1 (S.1.2.1 x)))
  else sk_add S.2.2 (S.1.2.2.1 x) nm (-1) (sk_place S.2.1 nm (sk_sh S.1 x)) []
def sk_find (S : sk_S) (o nm : Int32) : Int32 × sk_S := if (sk_hasB S.1.1 o && sk_isN nm) = true then (nI (S.2.2.1 % 100), (S.1, S.2.1, sk_findN S o.toNatClampNeg nm)) else (-1, S)
def sk_holds (S : sk_S) (f o : Int32) : Bool := sk_hasB (sk_there S.2.2) f && (sk_hasB S.1.1 o && (S.2.2.2.2.2.2.2.2 f.toNatClampNeg && decide (S.2.2.2.1 f.toNatClampNeg = S.1.2.2.1 o.toNatClampNeg)))
def sk_get (S : sk_S) (f o : Int32) : Nat × Int32 :=
  if sk_hasB (sk_there S.2.2) f = false then (1, 0) else if sk_holds S f o = false then (2, 0) else
  if S.2.2.2.2.2.2.1 f.toNatClampNeg = -1 then (3, 0) else
  (0, S.1.2.2.2.2 (if S.2.2.2.2.2.1 f.toNatClampNeg = -1 then o.toNatClampNeg else (S.2.2.2.2.2.1 f.toNatClampNeg).toNatClampNeg) (S.2.2.2.2.2.2.1 f.toNatClampNeg).toNatClampNeg)
def sk_cnt (P : Nat → Bool) : Nat → Nat
  | 0 => 0
  | k + 1 => sk_cnt P k + (if P k = true then 1 else 0)
def sk_lookN (S : sk_S) (x : Nat) (w : Int32) : Int32 :=
  if w = 0 then S.1.2.2.1 x else if w = 1 then S.1.2.1 x else if w = 2 then S.2.1.2.2.2.2 (sk_sh S.1 x) else if w = 3 then S.1.2.2.2.1 x else
  if w = 4 then nI (sk_abv S.1.2.1 (S.1.2.1 x)).length else if w = 5 then nI (sk_cnt (fun y => decide (x ∈ sk_abv S.1.2.1 (S.1.2.1 y))) S.1.1) else -1
def sk_look (S : sk_S) (o w : Int32) : Int32 := if sk_hasB S.1.1 o = true then sk_lookN S o.toNatClampNeg w else -1
def sk_shapeN (S : sk_S) (s : Nat) (w : Int32) : Int32 :=
  if w = 0 then S.2.1.2.1 s else if w = 1 then S.2.1.2.2.2.2 s else if w = 2 then nI (sk_cnt (fun y => decide (S.1.2.2.1 y = nI s)) S.1.1) else if w = 3 then S.2.1.2.2.1 s else
  if sk_hasB (sk_len S.2.1 s) (w - 4) = true ∧ 4 ≤ w then sk_nm S.2.1 s (w - 4).toNatClampNeg else -1
def sk_shape (S : sk_S) (s w : Int32) : Int32 := if sk_hasB S.2.1.1 s = true then sk_shapeN S s.toNatClampNeg w else -1
def sk_where (f : sk_Fi) (i : Nat) : Int32 := if f.2.2.2.2.1 i = -1 then 0 else if f.2.2.2.1 i = -1 then 1 else 2
def sk_bI (b : Bool) : Int32 := if b = true then 1 else 0
def sk_finding (S : sk_S) (f w : Int32) : Int32 := if sk_hasB (sk_there S.2.2) f = true then
  (if w = 0 then S.2.2.2.1 f.toNatClampNeg else if w = 1 then S.2.2.2.2.1 f.toNatClampNeg else if w = 2 then sk_where S.2.2 f.toNatClampNeg else if w = 3 then S.2.2.2.2.2.1 f.toNatClampNeg else if w = 4 then S.2.2.2.2.2.2.1 f.toNatClampNeg else if w = 5 then sk_bI (S.2.2.2.2.2.2.2.2 f.toNatClampNeg) else -1) else -1
def sk_count (S : sk_S) (w : Int32) : Int32 := if w = 0 then nI S.1.1 else if w = 1 then nI S.2.1.1 else if w = 2 then nI S.2.2.1 else if w = 3 then nI (sk_cnt S.2.2.2.2.2.2.2.2 (sk_there S.2.2)) else -1
/-! what always holds, K calls on -/
def sk_FO (b : sk_Ob) (t : sk_Tr) (f : sk_Fi) (i : Nat) : Prop :=
  (∃ s, s < t.1 ∧ f.2.1 i = nI s ∧ (f.2.2.2.1 i = -1 → f.2.2.2.2.1 i = -1 ∨ ∃ k, k < sk_len t s ∧ f.2.2.2.2.1 i = nI k)) ∧ (∃ a, a < 12 ∧ f.2.2.1 i = nI a) ∧
  (f.2.2.2.1 i = -1 ∨ ∃ x k, x < b.1 ∧ f.2.2.2.1 i = nI x ∧ k < 12 ∧ f.2.2.2.2.1 i = nI k ∧ x ∈ f.2.2.2.2.2.1 i ∧ (f.2.2.2.2.2.2 i = true → k < sk_len t (sk_sh b x))) ∧ ∀ x ∈ f.2.2.2.2.2.1 i, x < b.1
def sk_OO (b : sk_Ob) (t : sk_Tr) : Prop := ∀ o, o < b.1 → ∃ s, s < t.1 ∧ b.2.2.1 o = nI s ∧ b.2.1 o = t.2.1 s
def sk_OK (K : Nat) (S : sk_S) : Prop := sk_TO S.1.1 S.2.1 ∧ sk_AC S.1.1 S.1.2.1 ∧ sk_OO S.1 S.2.1 ∧ (∀ o, ∃ c, c ≤ K ∧ S.1.2.2.2.1 o = nI c) ∧ (∀ o, S.1.1 ≤ o → S.1.2.2.2.1 o = 0) ∧ K ≤ 512 ∧ S.2.2.1 ≤ K ∧ ∀ i, i < sk_there S.2.2 → sk_FO S.1 S.2.1 S.2.2 i
