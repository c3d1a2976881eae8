/-! the objects above: chains of prototypes -/
def sk_v (n : Nat) (a : Int32) : Prop := a = -1 ∨ ∃ x, x < n ∧ a = nI x
def sk_vp (n : Nat) (op : sk_F) : Prop := ∀ x, x < n → sk_v n (op x)
def sk_ch (op : sk_F) : Nat → Int32 → List Nat
  | 0, _ => []
  | k + 1, a => if a = -1 then [] else a.toNatClampNeg :: sk_ch op k (op a.toNatClampNeg)
/-- the chain ends within k steps -/
def sk_dp (op : sk_F) : Nat → Int32 → Prop
  | 0, a => a = -1
  | k + 1, a => a = -1 ∨ sk_dp op k (op a.toNatClampNeg)
theorem sk_dp_m1 (op : sk_F) : ∀ k, sk_dp op k (-1)
  | 0 => rfl
  | _ + 1 => Or.inl rfl
theorem sk_ch_m1 (op : sk_F) : ∀ k, sk_ch op k (-1) = []
  | 0 => rfl
  | _ + 1 => if_pos rfl
theorem sk_dp_mono {op : sk_F} : ∀ (k : Nat) (a : Int32), sk_dp op k a → sk_dp op (k + 1) a
  | 0, _, h => Or.inl h
  | _ + 1, _, Or.inl h => Or.inl h
  | k + 1, _, Or.inr h => Or.inr (sk_dp_mono k _ h)
theorem sk_dp_add {op : sk_F} {k : Nat} {a : Int32} (h : sk_dp op k a) : ∀ d, sk_dp op (k + d) a
  | 0 => h
  | d + 1 => sk_dp_mono _ _ (sk_dp_add h d)
theorem sk_dp_le {op : sk_F} {k g : Nat} {a : Int32} (h : sk_dp op k a) (hg : k ≤ g) : sk_dp op g a := by
  have := sk_dp_add h (g - k)
  rwa [show k + (g - k) = g by omega] at this
theorem sk_ch_stable {op : sk_F} : ∀ (k : Nat) (a : Int32), sk_dp op k a → ∀ d, sk_ch op (k + d) a = sk_ch op k a
  | 0, a, h, d => by
    have h : a = -1 := h
    rw [h, sk_ch_m1, sk_ch_m1]
  | k + 1, a, h, d => by
    rw [show k + 1 + d = (k + d) + 1 by omega]
    show (if a = -1 then [] else a.toNatClampNeg :: sk_ch op (k + d) (op a.toNatClampNeg)) = (if a = -1 then [] else a.toNatClampNeg :: sk_ch op k (op a.toNatClampNeg))
    by_cases ha : a = -1
    · rw [if_pos ha, if_pos ha]
    · rcases h with h | h
      · exact absurd h ha
      · rw [if_neg ha, if_neg ha, sk_ch_stable k _ h d]
theorem sk_ch_le {op : sk_F} {k g : Nat} {a : Int32} (h : sk_dp op k a) (hg : k ≤ g) : sk_ch op g a = sk_ch op k a := by
  have := sk_ch_stable k a h (g - k)
  rwa [show k + (g - k) = g by omega] at this
theorem sk_ch_len {op : sk_F} : ∀ (k : Nat) (a : Int32), (sk_ch op k a).length ≤ k
  | 0, _ => Nat.le_refl _
  | k + 1, a => by
    show (if a = -1 then [] else a.toNatClampNeg :: sk_ch op k (op a.toNatClampNeg)).length ≤ _
    by_cases ha : a = -1
    · rw [if_pos ha]; exact Nat.zero_le _
    · rw [if_neg ha, List.length_cons]
      have := sk_ch_len (op := op) k (op a.toNatClampNeg)
      omega
theorem sk_ch_s {op : sk_F} {k : Nat} {a : Int32} (ha : ¬ a = -1) : sk_ch op (k + 1) a = a.toNatClampNeg :: sk_ch op k (op a.toNatClampNeg) := if_neg ha
theorem sk_dp_s {op : sk_F} {k : Nat} {a : Int32} (ha : ¬ a = -1) (h : sk_dp op (k + 1) a) : sk_dp op k (op a.toNatClampNeg) := h.resolve_left ha
theorem sk_ch_lt {n : Nat} {op : sk_F} (hn : n ≤ 60) (hv : sk_vp n op) : ∀ (k : Nat) (a : Int32), sk_v n a → ∀ y ∈ sk_ch op k a, y < n
  | 0, _, _, _, h => by cases h
  | k + 1, a, ha, y, hy => by
    rcases ha with e | ⟨x, hx, e⟩
    · rw [e, sk_ch_m1] at hy; cases hy
    · subst e
      rw [sk_ch_s (sk_nm1 (by omega)), nI_clamp (by omega)] at hy
      rcases List.mem_cons.mp hy with h | h
      · rw [h]; exact hx
      · exact sk_ch_lt hn hv k _ (hv x hx) y h
theorem sk_dp_len {op : sk_F} : ∀ (k : Nat) (a : Int32), sk_dp op k a → sk_dp op (sk_ch op k a).length a
  | 0, _, h => h
  | k + 1, a, h => by
    by_cases ha : a = -1
    · rw [ha]; exact sk_dp_m1 op _
    · rw [sk_ch_s ha, List.length_cons]
      exact Or.inr (sk_dp_len k _ (sk_dp_s ha h))
theorem sk_ch_in {n : Nat} {op : sk_F} (hn : n ≤ 60) (hv : sk_vp n op) : ∀ (k : Nat) (a : Int32), sk_dp op k a → sk_v n a → ∀ y ∈ sk_ch op k a, sk_dp op k (nI y) ∧ (sk_ch op k (nI y)).length ≤ (sk_ch op k a).length
  | 0, _, _, _, _, h => by cases h
  | k + 1, a, hd, ha, y, hy => by
    rcases ha with e | ⟨x, hx, e⟩
    · rw [e, sk_ch_m1] at hy; cases hy
    · subst e
      have hne := sk_nm1 (show x < 2 ^ 31 by omega)
      have hd1 := sk_dp_s hne hd
      rw [nI_clamp (by omega)] at hd1
      rw [sk_ch_s hne, nI_clamp (by omega)] at hy
      rcases List.mem_cons.mp hy with h | h
      · subst h
        exact ⟨hd, Nat.le_refl _⟩
      · obtain ⟨q1, q2⟩ := sk_ch_in hn hv k _ hd1 (hv x hx) y h
        refine ⟨sk_dp_mono _ _ q1, ?_⟩
        rw [sk_ch_le q1 (Nat.le_succ k), sk_ch_s hne, nI_clamp (by omega), List.length_cons]
        omega
theorem sk_ch_nodup {n : Nat} {op : sk_F} (hn : n ≤ 60) (hv : sk_vp n op) : ∀ (k : Nat) (a : Int32), sk_dp op k a → sk_v n a → (sk_ch op k a).Nodup
  | 0, _, _, _ => List.Pairwise.nil
  | k + 1, a, hd, ha => by
    rcases ha with e | ⟨x, hx, e⟩
    · rw [e, sk_ch_m1]; exact List.Pairwise.nil
    · subst e
      have hne := sk_nm1 (show x < 2 ^ 31 by omega)
      have hd1 := sk_dp_s hne hd
      rw [nI_clamp (by omega)] at hd1
      have e1 : sk_ch op (k + 1) (nI x) = x :: sk_ch op k (op x) := by rw [sk_ch_s hne, nI_clamp (by omega)]
      rw [e1]
      refine List.nodup_cons.mpr ⟨fun h => ?_, sk_ch_nodup hn hv k _ hd1 (hv x hx)⟩
      obtain ⟨q1, q2⟩ := sk_ch_in hn hv k _ hd1 (hv x hx) x h
      rw [← sk_ch_le q1 (Nat.le_succ k), e1, List.length_cons] at q2
      omega
theorem sk_nd_len {n : Nat} {l : List Nat} (hd : l.Nodup) (h : ∀ y ∈ l, y < n) : l.length ≤ n := by
  refine sk_pigeon n l.length (fun i => l.getD i 0) (fun i hi => ?_) (fun i j hi hj e => ?_)
  · try dsimp only
    rw [List.getD_eq_getElem?_getD, List.getElem?_eq_getElem hi, Option.getD_some]
    exact h _ (List.getElem_mem hi)
  · try dsimp only at e
    rw [List.getD_eq_getElem?_getD, List.getElem?_eq_getElem hi, Option.getD_some, List.getD_eq_getElem?_getD, List.getElem?_eq_getElem hj, Option.getD_some] at e
    rcases Nat.lt_trichotomy i j with g | g | g
    · exact absurd e (List.pairwise_iff_getElem.mp hd i j hi hj g)
    · exact g
    · exact absurd e.symm (List.pairwise_iff_getElem.mp hd j i hj hi g)
theorem sk_dp_bound {n : Nat} {op : sk_F} (hn : n ≤ 60) (hv : sk_vp n op) {k : Nat} {a : Int32} (hd : sk_dp op k a) (ha : sk_v n a) : sk_dp op n a :=
  sk_dp_le (sk_dp_len k a hd) (sk_nd_len (sk_ch_nodup hn hv k a hd ha) (sk_ch_lt hn hv k a ha))
/-- no object is above itself -/
def sk_AC (n : Nat) (op : sk_F) : Prop := n ≤ 60 ∧ sk_vp n op ∧ ∀ a, sk_v n a → sk_dp op n a
def sk_abv (op : sk_F) (a : Int32) : List Nat := sk_ch op 60 a
theorem sk_abv_m1 (op : sk_F) : sk_abv op (-1) = [] := sk_ch_m1 op 60
theorem sk_abv_s {n : Nat} {op : sk_F} (h : sk_AC n op) {x : Nat} (hx : x < n) : sk_abv op (nI x) = x :: sk_abv op (op x) := by
  obtain ⟨hn, hv, hd⟩ := h
  have hne := sk_nm1 (show x < 2 ^ 31 by omega)
  have h1 : sk_dp op (59 + 1) (nI x) := sk_dp_le (hd _ (Or.inr ⟨x, hx, rfl⟩)) hn
  have h2 := sk_dp_s hne h1
  rw [nI_clamp (by omega)] at h2
  unfold sk_abv
  rw [show (60 : Nat) = 59 + 1 from rfl, sk_ch_s hne, nI_clamp (by omega), sk_ch_le h2 (Nat.le_succ 59)]
theorem sk_abv_lt {n : Nat} {op : sk_F} (h : sk_AC n op) {a : Int32} (ha : sk_v n a) : ∀ y ∈ sk_abv op a, y < n := sk_ch_lt h.1 h.2.1 60 a ha
theorem sk_abv_nodup {n : Nat} {op : sk_F} (h : sk_AC n op) {a : Int32} (ha : sk_v n a) : (sk_abv op a).Nodup := sk_ch_nodup h.1 h.2.1 60 a (sk_dp_le (h.2.2 a ha) h.1) ha
theorem sk_abv_len (op : sk_F) (a : Int32) : (sk_abv op a).length ≤ 60 := sk_ch_len 60 a
theorem sk_ac_ind {n : Nat} {op : sk_F} (h : sk_AC n op) (P : Int32 → Prop) (h0 : P (-1)) (hs : ∀ x, x < n → P (op x) → P (nI x)) : ∀ a, sk_v n a → P a := by
  have key : ∀ (k : Nat) (a : Int32), sk_dp op k a → sk_v n a → P a := by
    intro k
    induction k with
    | zero => intro a hd _; rw [show a = -1 from hd]; exact h0
    | succ k ih =>
      intro a hd ha
      rcases ha with e | ⟨x, hx, e⟩
      · rw [e]; exact h0
      · subst e
        have h1 := sk_dp_s (sk_nm1 (show x < 2 ^ 31 by have := h.1; omega)) hd
        rw [nI_clamp (by have := h.1; omega)] at h1
        exact hs x hx (ih _ h1 (h.2.1 x hx))
  exact fun a ha => key n a (h.2.2 a ha) ha
/-- a prototype is turned; or one more object -/
theorem sk_ch_upd {op : sk_F} {o : Nat} {p : Int32} : ∀ (k : Nat) (a : Int32), o ∉ sk_ch op k a → sk_dp op k a → sk_ch (upd op o p) k a = sk_ch op k a ∧ sk_dp (upd op o p) k a
  | 0, _, _, h => ⟨rfl, h⟩
  | k + 1, a, ho, h => by
    by_cases ha : a = -1
    · rw [ha]; exact ⟨by rw [sk_ch_m1, sk_ch_m1], sk_dp_m1 _ _⟩
    · rw [sk_ch_s ha] at ho
      have hne : a.toNatClampNeg ≠ o := fun e => ho (by rw [e]; exact List.mem_cons_self)
      have hin : o ∉ sk_ch op k (op a.toNatClampNeg) := fun q => ho (List.mem_cons_of_mem _ q)
      obtain ⟨q1, q2⟩ := sk_ch_upd (p := p) k _ hin (sk_dp_s ha h)
      refine ⟨?_, Or.inr ?_⟩
      · rw [sk_ch_s ha, sk_ch_s ha, pk_un hne, q1]
      · rw [pk_un hne]; exact q2
theorem sk_AC_turn {n : Nat} {op : sk_F} (h : sk_AC n op) {o : Nat} {p : Int32} (ho : o < n) (hp : sk_v n p) (hx : o ∉ sk_abv op p) : sk_AC n (upd op o p) := by
  obtain ⟨hn, hv, hd⟩ := id h
  have hv2 : sk_vp n (upd op o p) := fun x hxn => by
    by_cases e : x = o
    · subst e; rw [pk_us]; exact hp
    · rw [pk_un e]; exact hv x hxn
  have hp2 : sk_dp (upd op o p) 60 p := (sk_ch_upd 60 p hx (sk_dp_le (hd p hp) hn)).2
  have key : ∀ (k : Nat) (a : Int32), sk_dp op k a → sk_dp (upd op o p) (k + 61) a := by
    intro k
    induction k with
    | zero => intro a q; rw [show a = -1 from q]; exact sk_dp_m1 _ _
    | succ k ih =>
      intro a q
      by_cases ha : a = -1
      · rw [ha]; exact sk_dp_m1 _ _
      · rw [show k + 1 + 61 = (k + 61) + 1 by omega]
        refine Or.inr ?_
        by_cases e : a.toNatClampNeg = o
        · rw [e, pk_us]
          exact sk_dp_le hp2 (by omega)
        · rw [pk_un e]
          exact ih _ (sk_dp_s ha q)
  exact ⟨hn, hv2, fun a ha => sk_dp_bound hn hv2 (key n a (hd a ha)) ha⟩
theorem sk_v_mono {n g : Nat} {a : Int32} (h : sk_v n a) (hg : n ≤ g) : sk_v g a := by
  rcases h with e | ⟨x, hx, e⟩
  · exact Or.inl e
  · exact Or.inr ⟨x, by omega, e⟩
theorem sk_AC_more {n : Nat} {op : sk_F} (h : sk_AC n op) (hn1 : n < 60) {p : Int32} (hp : sk_v n p) : sk_AC (n + 1) (upd op n p) := by
  obtain ⟨hn, hv, hd⟩ := id h
  have hnot : ∀ a, sk_v n a → n ∉ sk_ch op n a := fun a ha q => absurd (sk_ch_lt hn hv n a ha n q) (Nat.lt_irrefl n)
  have hv2 : sk_vp (n + 1) (upd op n p) := fun x hxn => by
    by_cases e : x = n
    · subst e; rw [pk_us]; exact sk_v_mono hp (by omega)
    · rw [pk_un e]; exact sk_v_mono (hv x (by omega)) (by omega)
  refine ⟨by omega, hv2, fun a ha => ?_⟩
  rcases ha with e | ⟨x, hx, e⟩
  · rw [e]; exact sk_dp_m1 _ _
  · by_cases hxn : x = n
    · subst hxn
      subst e
      refine Or.inr ?_
      rw [nI_clamp (by omega), pk_us]
      exact (sk_ch_upd x p (hnot p hp) (hd p hp)).2
    · have ha : sk_v n a := Or.inr ⟨x, by omega, e⟩
      exact sk_dp_mono _ _ (sk_ch_upd n a (hnot a ha) (hd a ha)).2
/-- the nearest of a list -/
def sk_nw (own : Nat → Bool) : List Nat → Int32
  | [] => -1
  | x :: r => if own x = true then nI x else sk_nw own r
/-- a list up to one of its own -/
def sk_upto (own : Nat → Bool) : List Nat → List Nat
  | [] => []
  | x :: r => if own x = true then [x] else x :: sk_upto own r
theorem sk_nw_spec (own : Nat → Bool) : ∀ l : List Nat, (sk_nw own l = -1 ∧ (∀ x ∈ l, own x = false) ∧ sk_upto own l = l) ∨ ∃ x, x ∈ l ∧ sk_nw own l = nI x ∧ own x = true ∧ x ∈ sk_upto own l
  | [] => Or.inl ⟨rfl, (fun _ h => by cases h), rfl⟩
  | y :: r => by
    by_cases h : own y = true
    · exact Or.inr ⟨y, List.mem_cons_self, if_pos h, h, by rw [sk_upto, if_pos h]; exact List.mem_cons_self⟩
    · have hf : own y = false := by cases hp : own y <;> simp_all
      have e1 : sk_nw own (y :: r) = sk_nw own r := if_neg h
      have e2 : sk_upto own (y :: r) = y :: sk_upto own r := if_neg h
      rw [e1, e2]
      rcases sk_nw_spec own r with ⟨a, b, c⟩ | ⟨x, hx, a, b, c⟩
      · refine Or.inl ⟨a, fun x hx => ?_, by rw [c]⟩
        rcases List.mem_cons.mp hx with g | g
        · rw [g]; exact hf
        · exact b x g
      · exact Or.inr ⟨x, List.mem_cons_of_mem _ hx, a, b, List.mem_cons_of_mem _ c⟩
theorem sk_upto_sub (own : Nat → Bool) : ∀ l : List Nat, ∀ x ∈ sk_upto own l, x ∈ l
  | [], _, h => h
  | y :: r, x, h => by
    by_cases ho : own y = true
    · rw [sk_upto, if_pos ho] at h
      rw [List.mem_singleton.mp h]; exact List.mem_cons_self
    · rw [sk_upto, if_neg ho] at h
      rcases List.mem_cons.mp h with g | g
      · rw [g]; exact List.mem_cons_self
      · exact List.mem_cons_of_mem _ (sk_upto_sub own r x g)
