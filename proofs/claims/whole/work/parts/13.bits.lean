/-! ===== lN n to 2^64: shifts, and, or, masks, one bit ===== -/
theorem wb_tb (n : Nat) : (lN n).toBitVec = BitVec.ofNat 64 n := rfl
theorem wb_inj {a b : Int64} (h : a.toBitVec = b.toBitVec) : a = b := Int64.toBitVec_inj.mp h
theorem wb_tn {n : Nat} (h : n < 2 ^ 64) : (lN n).toBitVec.toNat = n := by rw [wb_tb, BitVec.toNat_ofNat, Nat.mod_eq_of_lt h]
theorem wb_of (x : Int64) : ∃ n, n < 2 ^ 64 ∧ x = lN n := ⟨x.toBitVec.toNat, x.toBitVec.isLt, wb_inj (by rw [wb_tb]; simp)⟩
theorem wb_of32 (x : Int32) : ∃ n, n < 2 ^ 32 ∧ x = nI n := ⟨x.toBitVec.toNat, x.toBitVec.isLt, Int32.toBitVec_inj.mp (by show _ = BitVec.ofNat 32 _; simp)⟩
theorem wb_c : ∀ k, k < 64 → ((nI k).toInt64 &&& 63) = lN k := by decide +kernel
theorem wb_cu : ∀ k, k < 64 → ((nI k).toInt64.toUInt64 &&& Int64.toUInt64 63) = UInt64.ofNat k := by decide +kernel
theorem wb_sm : ∀ k, k < 64 → (BitVec.ofNat 64 k).smod 64 = BitVec.ofNat 64 k := by decide +kernel
theorem wb_pw {a b : Nat} (h : a ≤ b) : 2 ^ b = 2 ^ a * 2 ^ (b - a) := by rw [← Nat.pow_add]; congr 1; omega
theorem wb_lt2 {a b : Nat} (h : a < b) : 2 ^ a < 2 ^ b := Nat.pow_lt_pow_right (by decide) h
theorem wb_mod (n : Nat) : lN n = lN (n % 2 ^ 64) := wb_inj (by rw [wb_tb, wb_tb]; apply BitVec.eq_of_toNat_eq; rw [BitVec.toNat_ofNat, BitVec.toNat_ofNat, Nat.mod_mod])
theorem wb_shr {n k : Nat} (hn : n < 2 ^ 64) (hk : k < 64) : ((lN n).toUInt64 >>> ((nI k).toInt64.toUInt64 &&& Int64.toUInt64 63)).toInt64 = lN (n / 2 ^ k) := by
  rw [wb_cu k hk]
  apply wb_inj
  apply BitVec.eq_of_toNat_eq
  show ((lN n).toUInt64 >>> UInt64.ofNat k).toNat = (BitVec.ofNat 64 _).toNat
  have h1 : (UInt64.ofNat k).toNat = k := by
    show (BitVec.ofNat 64 k).toNat = k
    rw [BitVec.toNat_ofNat, Nat.mod_eq_of_lt (by omega)]
  have h2 : (lN n).toUInt64.toNat = n := wb_tn hn
  rw [UInt64.toNat_shiftRight, h1, h2, Nat.mod_eq_of_lt hk, Nat.shiftRight_eq_div_pow, BitVec.toNat_ofNat, Nat.mod_eq_of_lt (Nat.lt_of_le_of_lt (Nat.div_le_self _ _) hn)]
theorem wb_shl (n : Nat) {k : Nat} (hk : k < 64) : lN n <<< ((nI k).toInt64 &&& 63) = lN (n * 2 ^ k) := by
  rw [wb_c k hk]
  apply wb_inj
  rw [Int64.toBitVec_shiftLeft, wb_tb, wb_tb, wb_tb, wb_sm k hk]
  apply BitVec.eq_of_toNat_eq
  rw [BitVec.shiftLeft_eq', BitVec.toNat_shiftLeft, BitVec.toNat_ofNat, BitVec.toNat_ofNat, BitVec.toNat_ofNat, Nat.mod_eq_of_lt (show k < 2 ^ 64 by omega), Nat.shiftLeft_eq, Nat.mul_mod, Nat.mod_mod, ← Nat.mul_mod]
theorem wb_and {a b : Nat} (ha : a < 2 ^ 64) (hb : b < 2 ^ 64) : lN a &&& lN b = lN (a &&& b) := by
  apply wb_inj
  rw [Int64.toBitVec_and, wb_tb, wb_tb, wb_tb]
  apply BitVec.eq_of_toNat_eq
  rw [BitVec.toNat_and, BitVec.toNat_ofNat, BitVec.toNat_ofNat, BitVec.toNat_ofNat, Nat.mod_eq_of_lt ha, Nat.mod_eq_of_lt hb, Nat.mod_eq_of_lt (Nat.and_lt_two_pow _ hb)]
theorem wb_or {a b : Nat} (ha : a < 2 ^ 64) (hb : b < 2 ^ 64) : lN a ||| lN b = lN (a ||| b) := by
  apply wb_inj
  rw [Int64.toBitVec_or, wb_tb, wb_tb, wb_tb]
  apply BitVec.eq_of_toNat_eq
  rw [BitVec.toNat_or, BitVec.toNat_ofNat, BitVec.toNat_ofNat, BitVec.toNat_ofNat, Nat.mod_eq_of_lt ha, Nat.mod_eq_of_lt hb, Nat.mod_eq_of_lt (Nat.or_lt_two_pow ha hb)]
theorem wb_mask {n k : Nat} (hn : n < 2 ^ 64) (hk : k < 64) : lN n &&& lN (2 ^ k - 1) = lN (n % 2 ^ k) := by
  rw [wb_and hn (by have := wb_lt2 hk; omega), Nat.and_two_pow_sub_one_eq_mod]
theorem wb_a1 {n : Nat} (hn : n < 2 ^ 64) : lN n &&& 1 = lN (n % 2) := wb_mask (k := 1) hn (by decide)
theorem wb_bit {n k : Nat} (hn : n < 2 ^ 64) (hk : k < 64) : ((lN n).toUInt64 >>> ((nI k).toInt64.toUInt64 &&& Int64.toUInt64 63)).toInt64 &&& 1 = lN (n / 2 ^ k % 2) := by
  rw [wb_shr hn hk, wb_a1 (Nat.lt_of_le_of_lt (Nat.div_le_self _ _) hn)]
/-! a set of numbers under 64 as bits; how many they are -/
def sk_nb : List Nat → Nat
  | [] => 0
  | x :: r => sk_nb r ||| 2 ^ x
theorem sk_nb_bit : ∀ (l : List Nat) (j : Nat), (sk_nb l).testBit j = decide (j ∈ l)
  | [], j => by simp [sk_nb]
  | x :: r, j => by
    rw [sk_nb, Nat.testBit_or, sk_nb_bit r j, Nat.testBit_two_pow]
    by_cases h1 : j ∈ r
    · simp [h1]
    · by_cases h2 : x = j
      · subst h2; simp
      · simp [h1, h2, Ne.symm h2, show ¬ j = x from fun e => h2 e.symm]
theorem sk_nb_lt : ∀ l : List Nat, (∀ x ∈ l, x < 64) → sk_nb l < 2 ^ 64
  | [], _ => by simp [sk_nb]
  | x :: r, h => by
    rw [sk_nb]
    exact Nat.or_lt_two_pow (sk_nb_lt r (fun y hy => h y (List.mem_cons_of_mem _ hy))) (wb_lt2 (h x List.mem_cons_self))
def sk_M (m : Nat) : Nat → Nat
  | 0 => 0
  | k + 1 => 2 ^ 8 * sk_M m k + m
theorem sk_Ms (m k : Nat) : sk_M m (k + 1) = 2 ^ 8 * sk_M m k + m := rfl
theorem sk_land8 {a m : Nat} (w M : Nat) (ha : a < 2 ^ 8) (hm : m < 2 ^ 8) : (2 ^ 8 * w + a) &&& (2 ^ 8 * M + m) = 2 ^ 8 * (w &&& M) + (a &&& m) := by
  apply Nat.eq_of_testBit_eq
  intro j
  rw [Nat.testBit_and, Nat.testBit_two_pow_mul_add _ ha, Nat.testBit_two_pow_mul_add _ hm, Nat.testBit_two_pow_mul_add _ (Nat.and_lt_two_pow _ hm)]
  by_cases h : j < 8
  · rw [if_pos h, if_pos h, if_pos h, Nat.testBit_and]
  · rw [if_neg h, if_neg h, if_neg h, Nat.testBit_and]
def sk_s1 (a : Nat) : Nat := a - (a / 2 &&& 85)
def sk_s2 (a : Nat) : Nat := (a &&& 51) + (a / 4 &&& 51)
def sk_s3 (a : Nat) : Nat := (a + a / 16) &&& 15
def sk_pb (a : Nat) : Nat := sk_s3 (sk_s2 (sk_s1 a))
def sk_S1 (k v : Nat) : Nat := v - (v / 2 &&& sk_M 85 k)
def sk_S2 (k v : Nat) : Nat := (v &&& sk_M 51 k) + (v / 4 &&& sk_M 51 k)
def sk_S3 (k v : Nat) : Nat := (v + v / 16) &&& sk_M 15 k
theorem sk_d1 : ∀ a, a < 256 → ∀ e, e < 2 → (128 * e + a / 2) &&& 85 = a / 2 &&& 85 := by decide +kernel
theorem sk_d2 : ∀ a, a < 256 → ∀ e, e < 4 → (64 * e + a / 4) &&& 51 = a / 4 &&& 51 := by decide +kernel
theorem sk_d3 : ∀ a, a < 69 → ∀ e, e < 5 → (a + a / 16 + 16 * e) &&& 15 = (a + a / 16) &&& 15 := by decide +kernel
theorem sk_d4 : ∀ b, b < 256 → sk_s1 b < 256 ∧ (b / 2 &&& 85) ≤ b ∧ sk_s2 (sk_s1 b) < 69 ∧ sk_s2 (sk_s1 b) % 16 < 5 ∧ sk_pb b < 9 := by decide +kernel
theorem sk_S1s (k w a : Nat) (ha : a < 256) : sk_S1 (k + 1) (2 ^ 8 * w + a) = 2 ^ 8 * sk_S1 k w + sk_s1 a := by
  unfold sk_S1 sk_s1
  rw [sk_Ms]
  have e : (2 ^ 8 * w + a) / 2 = 2 ^ 8 * (w / 2) + (128 * (w % 2) + a / 2) := by omega
  rw [e, sk_land8 _ _ (by omega) (by decide), sk_d1 a ha _ (Nat.mod_lt _ (by decide))]
  have h1 : (w / 2 &&& sk_M 85 k) ≤ w / 2 := Nat.and_le_left
  have h2 := (sk_d4 a ha).2.1
  omega
theorem sk_S2s (k w a : Nat) (ha : a < 256) : sk_S2 (k + 1) (2 ^ 8 * w + a) = 2 ^ 8 * sk_S2 k w + sk_s2 a := by
  unfold sk_S2 sk_s2
  rw [sk_Ms]
  have e : (2 ^ 8 * w + a) / 4 = 2 ^ 8 * (w / 4) + (64 * (w % 4) + a / 4) := by omega
  rw [e, sk_land8 (a := a) w _ ha (by decide), sk_land8 (w / 4) _ (by omega) (by decide), sk_d2 a ha _ (Nat.mod_lt _ (by decide))]
  omega
theorem sk_S3s (k w a : Nat) (ha : a < 69) (hw : w % 16 < 5) : sk_S3 (k + 1) (2 ^ 8 * w + a) = 2 ^ 8 * sk_S3 k w + sk_s3 a := by
  unfold sk_S3 sk_s3
  rw [sk_Ms]
  have e : (2 ^ 8 * w + a) + (2 ^ 8 * w + a) / 16 = 2 ^ 8 * (w + w / 16) + (a + a / 16 + 16 * (w % 16)) := by omega
  rw [e, sk_land8 _ _ (by omega) (by decide), sk_d3 a ha _ hw]
theorem sk_low : ∀ (k v : Nat), v < 256 ^ k → sk_S2 k (sk_S1 k v) % 16 < 5
  | 0, v, h => by
    have hv : v = 0 := by simpa using h
    subst hv
    decide
  | k + 1, v, h => by
    have hv : v = 2 ^ 8 * (v / 256) + v % 256 := by omega
    have hm : v % 256 < 256 := Nat.mod_lt _ (by decide)
    rw [hv, sk_S1s k _ _ hm, sk_S2s k _ _ (sk_d4 _ hm).1]
    have := (sk_d4 _ hm).2.2.2.1
    omega
def sk_fo : Nat → Nat → Nat
  | 0, _ => 0
  | k + 1, v => 2 ^ 8 * sk_fo k (v / 256) + sk_pb (v % 256)
def sk_pop : Nat → Nat → Nat
  | 0, _ => 0
  | k + 1, v => sk_pop k (v / 256) + sk_pb (v % 256)
theorem sk_fo_eq : ∀ (k v : Nat), v < 256 ^ k → sk_S3 k (sk_S2 k (sk_S1 k v)) = sk_fo k v
  | 0, v, h => by
    have hv : v = 0 := by simpa using h
    subst hv
    decide
  | k + 1, v, h => by
    have hv : v = 2 ^ 8 * (v / 256) + v % 256 := by omega
    have hm : v % 256 < 256 := Nat.mod_lt _ (by decide)
    have hd : v / 256 < 256 ^ k := by
      rw [Nat.pow_succ] at h
      exact Nat.div_lt_of_lt_mul (by rw [Nat.mul_comm]; exact h)
    have h4 := sk_d4 _ hm
    have e : sk_S3 (k + 1) (sk_S2 (k + 1) (sk_S1 (k + 1) (2 ^ 8 * (v / 256) + v % 256))) = 2 ^ 8 * sk_fo k (v / 256) + sk_pb (v % 256) := by
      rw [sk_S1s k _ _ hm, sk_S2s k _ _ h4.1, sk_S3s k _ _ h4.2.2.1 (sk_low k _ hd), sk_fo_eq k _ hd]
      rfl
    rw [← hv] at e
    exact e
theorem sk_pb9 (v : Nat) : sk_pb (v % 256) < 9 := (sk_d4 _ (Nat.mod_lt _ (by decide))).2.2.2.2
def sk_fin (V : Nat) : Nat := ((V + V / 256) + (V + V / 256) / 65536) + ((V + V / 256) + (V + V / 256) / 65536) / 4294967296
theorem sk_fo_s (k v : Nat) : sk_fo (k + 1) v = 2 ^ 8 * sk_fo k (v / 256) + sk_pb (v % 256) := rfl
theorem sk_pop_s (k v : Nat) : sk_pop (k + 1) v = sk_pop k (v / 256) + sk_pb (v % 256) := rfl
theorem sk_d5 : ∀ x, x < 8 → ∀ b, b < 256 → b.testBit x = false → (b ||| 2 ^ x) < 256 ∧ sk_pb (b ||| 2 ^ x) = sk_pb b + 1 := by decide +kernel
theorem sk_pop_or : ∀ (k v x : Nat), x < 8 * k → v.testBit x = false → sk_pop k (v ||| 2 ^ x) = sk_pop k v + 1
  | 0, _, _, h, _ => absurd h (by omega)
  | k + 1, v, x, h, hb => by
    show sk_pop k ((v ||| 2 ^ x) / 2 ^ 8) + sk_pb ((v ||| 2 ^ x) % 2 ^ 8) = sk_pop k (v / 2 ^ 8) + sk_pb (v % 2 ^ 8) + 1
    rw [Nat.or_mod_two_pow, Nat.or_div_two_pow]
    by_cases hx : x < 8
    · have e1 : 2 ^ x / 2 ^ 8 = 0 := Nat.div_eq_of_lt (Nat.pow_lt_pow_right (by decide) hx)
      have e2 : 2 ^ x % 2 ^ 8 = 2 ^ x := Nat.mod_eq_of_lt (Nat.pow_lt_pow_right (by decide) hx)
      have hb2 : (v % 2 ^ 8).testBit x = false := by rw [Nat.testBit_mod_two_pow, hb]; simp
      rw [e1, e2, Nat.or_zero, (sk_d5 x hx (v % 2 ^ 8) (Nat.mod_lt _ (by decide)) hb2).2]
      omega
    · have e0 : 2 ^ x = 2 ^ 8 * 2 ^ (x - 8) := by rw [← Nat.pow_add]; congr 1; omega
      have e1 : 2 ^ x / 2 ^ 8 = 2 ^ (x - 8) := by rw [e0, Nat.mul_div_cancel_left _ (by decide)]
      have e2 : 2 ^ x % 2 ^ 8 = 0 := by rw [e0, Nat.mul_mod_right]
      have hb2 : (v / 2 ^ 8).testBit (x - 8) = false := by rw [Nat.testBit_div_two_pow, show x - 8 + 8 = x by omega]; exact hb
      rw [e1, e2, Nat.or_zero, sk_pop_or k (v / 2 ^ 8) (x - 8) (by omega) hb2]
      omega
theorem sk_pop_0 : ∀ k : Nat, sk_pop k 0 = 0
  | 0 => rfl
  | k + 1 => by
    show sk_pop k (0 / 256) + sk_pb (0 % 256) = 0
    rw [Nat.zero_div, sk_pop_0 k]
    decide
theorem sk_pop_nb : ∀ l : List Nat, l.Nodup → (∀ x ∈ l, x < 64) → sk_pop 8 (sk_nb l) = l.length
  | [], _, _ => sk_pop_0 8
  | x :: r, hd, h => by
    rw [sk_nb, sk_pop_or 8 _ x (h x List.mem_cons_self) (by rw [sk_nb_bit]; exact decide_eq_false (List.nodup_cons.mp hd).1), sk_pop_nb r (List.nodup_cons.mp hd).2 (fun y hy => h y (List.mem_cons_of_mem _ hy)), List.length_cons]
