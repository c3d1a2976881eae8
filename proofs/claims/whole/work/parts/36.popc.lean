/-! how many bits, as the JDK counts them -/
theorem sk_dv {q r m : Nat} (h : r < m) : (m * q + r) / m = q := by
  rw [Nat.mul_add_div (by omega), Nat.div_eq_of_lt h, Nat.add_zero]
theorem sk_bd {R Q c B C : Nat} (e : R = 2 ^ 8 * Q + c) (hq : Q ≤ B) (hc : c < 9) (hC : 256 * B + 8 ≤ C) : R ≤ C := by omega
theorem sk_L1 {R0 R1 R2 R3 c0 c1 c2 : Nat} (e0 : R0 = 2 ^ 8 * R1 + c0) (e1 : R1 = 2 ^ 8 * R2 + c1) (e2 : R2 = 2 ^ 8 * R3 + c2) : R0 + R1 = 65536 * (R2 + R3) + (256 * (c1 + c2) + (c0 + c1)) := by
  subst e0; subst e1; subst e2; omega
theorem sk_L2 {R0 R1 R2 R3 R4 R5 R6 R7 c0 c1 c2 c3 c4 c5 c6 : Nat} (e0 : R0 = 2 ^ 8 * R1 + c0) (e1 : R1 = 2 ^ 8 * R2 + c1) (e2 : R2 = 2 ^ 8 * R3 + c2) (e3 : R3 = 2 ^ 8 * R4 + c3) (e4 : R4 = 2 ^ 8 * R5 + c4) (e5 : R5 = 2 ^ 8 * R6 + c5) (e6 : R6 = 2 ^ 8 * R7 + c6) : R0 + R1 + (R2 + R3) = 4294967296 * (R4 + R5 + R6 + R7) + (16777216 * (c3 + c4 + c5 + c6) + 65536 * (c2 + c3 + c4 + c5) + 256 * (c1 + c2 + c3 + c4) + (c0 + c1 + c2 + c3)) := by
  subst e0; subst e1; subst e2; subst e3; subst e4; subst e5; subst e6; omega
theorem sk_L3 {R0 R1 R2 R3 R4 R5 R6 R7 c0 c1 c2 c3 c4 c5 c6 c7 : Nat} (e0 : R0 = 2 ^ 8 * R1 + c0) (e1 : R1 = 2 ^ 8 * R2 + c1) (e2 : R2 = 2 ^ 8 * R3 + c2) (e3 : R3 = 2 ^ 8 * R4 + c3) (e4 : R4 = 2 ^ 8 * R5 + c4) (e5 : R5 = 2 ^ 8 * R6 + c5) (e6 : R6 = 2 ^ 8 * R7 + c6) (e7 : R7 = c7) : R0 + R1 + (R2 + R3) + (R4 + R5 + R6 + R7) = 128 * (2 * (R1 + R2 + R3 + R4 + R5 + R6 + R7)) + (c0 + c1 + c2 + c3 + c4 + c5 + c6 + c7) := by
  subst e7; subst e0; subst e1; subst e2; subst e3; subst e4; subst e5; subst e6; omega
theorem sk_B2 {c0 c1 c2 : Nat} (h0 : c0 < 9) (h1 : c1 < 9) (h2 : c2 < 9) : 256 * (c1 + c2) + (c0 + c1) < 65536 := by omega
theorem sk_B3 {c0 c1 c2 c3 c4 c5 c6 : Nat} (h0 : c0 < 9) (h1 : c1 < 9) (h2 : c2 < 9) (h3 : c3 < 9) (h4 : c4 < 9) (h5 : c5 < 9) (h6 : c6 < 9) : 16777216 * (c3 + c4 + c5 + c6) + 65536 * (c2 + c3 + c4 + c5) + 256 * (c1 + c2 + c3 + c4) + (c0 + c1 + c2 + c3) < 4294967296 := by omega
theorem sk_B4 {c0 c1 c2 c3 c4 c5 c6 c7 : Nat} (h0 : c0 < 9) (h1 : c1 < 9) (h2 : c2 < 9) (h3 : c3 < 9) (h4 : c4 < 9) (h5 : c5 < 9) (h6 : c6 < 9) (h7 : c7 < 9) : c0 + c1 + c2 + c3 + c4 + c5 + c6 + c7 ≤ 64 := by omega
theorem sk_B5 {R0 R1 R2 R3 R4 R5 R6 R7 : Nat} (h0 : R0 ≤ 651061555542690056) (h1 : R1 ≤ 2543209201338632) (h2 : R2 ≤ 9934410942728) (h3 : R3 ≤ 38806292744) (h4 : R4 ≤ 151587080) (h5 : R5 ≤ 592136) (h6 : R6 ≤ 2312) (h7 : R7 ≤ 8) : R0 + R1 + (R2 + R3) + (R4 + R5 + R6 + R7) < 4611686018427387904 := by omega
theorem sk_fin_eq0 {c0 c1 c2 c3 c4 c5 c6 c7 R0 R1 R2 R3 R4 R5 R6 R7 : Nat} (h0 : c0 < 9) (h1 : c1 < 9) (h2 : c2 < 9) (h3 : c3 < 9) (h4 : c4 < 9) (h5 : c5 < 9) (h6 : c6 < 9) (h7 : c7 < 9)
    (e0 : R0 = 2 ^ 8 * R1 + c0) (e1 : R1 = 2 ^ 8 * R2 + c1) (e2 : R2 = 2 ^ 8 * R3 + c2) (e3 : R3 = 2 ^ 8 * R4 + c3) (e4 : R4 = 2 ^ 8 * R5 + c4) (e5 : R5 = 2 ^ 8 * R6 + c5) (e6 : R6 = 2 ^ 8 * R7 + c6) (e7 : R7 = c7) :
    R0 ≤ 651061555542690056 ∧ R0 / 256 = R1 ∧ (R0 + R1) / 65536 = R2 + R3 ∧ (R0 + R1 + (R2 + R3)) / 4294967296 = R4 + R5 + R6 + R7 ∧ R0 + R1 + (R2 + R3) + (R4 + R5 + R6 + R7) < 4611686018427387904 ∧ (R0 + R1 + (R2 + R3) + (R4 + R5 + R6 + R7)) % 128 = c0 + c1 + c2 + c3 + c4 + c5 + c6 + c7 := by
  have b7 : R7 ≤ 8 := by rw [e7]; exact Nat.le_of_lt_succ h7
  have b6 := sk_bd (C := 2312) e6 b7 h6 (by decide)
  have b5 := sk_bd (C := 592136) e5 b6 h5 (by decide)
  have b4 := sk_bd (C := 151587080) e4 b5 h4 (by decide)
  have b3 := sk_bd (C := 38806292744) e3 b4 h3 (by decide)
  have b2 := sk_bd (C := 9934410942728) e2 b3 h2 (by decide)
  have b1 := sk_bd (C := 2543209201338632) e1 b2 h1 (by decide)
  have b0 := sk_bd (C := 651061555542690056) e0 b1 h0 (by decide)
  refine ⟨b0, ?_, ?_, ?_, sk_B5 b0 b1 b2 b3 b4 b5 b6 b7, ?_⟩
  · rw [e0]; exact sk_dv (m := 2 ^ 8) (Nat.lt_of_lt_of_le h0 (by decide))
  · rw [sk_L1 e0 e1 e2]; exact sk_dv (sk_B2 h0 h1 h2)
  · rw [sk_L2 e0 e1 e2 e3 e4 e5 e6]; exact sk_dv (sk_B3 h0 h1 h2 h3 h4 h5 h6)
  · rw [sk_L3 e0 e1 e2 e3 e4 e5 e6 e7, Nat.mul_add_mod, Nat.mod_eq_of_lt (Nat.lt_of_le_of_lt (sk_B4 h0 h1 h2 h3 h4 h5 h6 h7) (by decide))]
theorem sk_fo_0 (v : Nat) : sk_fo 0 v = 0 := rfl
theorem sk_pop_00 (v : Nat) : sk_pop 0 v = 0 := rfl
theorem sk_fin_eq (v : Nat) : ∃ R1 R2 R4 : Nat, sk_fo 8 v ≤ 651061555542690056 ∧ sk_fo 8 v / 256 = R1 ∧ (sk_fo 8 v + R1) / 65536 = R2 ∧ (sk_fo 8 v + R1 + R2) / 4294967296 = R4 ∧ sk_fo 8 v + R1 + R2 + R4 < 4611686018427387904 ∧ (sk_fo 8 v + R1 + R2 + R4) % 128 = sk_pop 8 v := by
  have key := sk_fin_eq0 (sk_pb9 v) (sk_pb9 (v / 256)) (sk_pb9 (v / 256 / 256)) (sk_pb9 (v / 256 / 256 / 256)) (sk_pb9 (v / 256 / 256 / 256 / 256)) (sk_pb9 (v / 256 / 256 / 256 / 256 / 256)) (sk_pb9 (v / 256 / 256 / 256 / 256 / 256 / 256)) (sk_pb9 (v / 256 / 256 / 256 / 256 / 256 / 256 / 256)) (sk_fo_s 7 v) (sk_fo_s 6 _) (sk_fo_s 5 _) (sk_fo_s 4 _) (sk_fo_s 3 _) (sk_fo_s 2 _) (sk_fo_s 1 _) (by rw [sk_fo_s 0, sk_fo_0, Nat.mul_zero, Nat.zero_add])
  obtain ⟨k1, k2, k3, k4, k5, k6⟩ := key
  refine ⟨_, _, _, k1, k2, k3, k4, k5, k6.trans ?_⟩
  rw [sk_pop_s 7, sk_pop_s 6, sk_pop_s 5, sk_pop_s 4, sk_pop_s 3, sk_pop_s 2, sk_pop_s 1, sk_pop_s 0, sk_pop_00]
  generalize sk_pb (v % 256) = c0
  generalize sk_pb (v / 256 % 256) = c1
  generalize sk_pb (v / 256 / 256 % 256) = c2
  generalize sk_pb (v / 256 / 256 / 256 % 256) = c3
  generalize sk_pb (v / 256 / 256 / 256 / 256 % 256) = c4
  generalize sk_pb (v / 256 / 256 / 256 / 256 / 256 % 256) = c5
  generalize sk_pb (v / 256 / 256 / 256 / 256 / 256 / 256 % 256) = c6
  generalize sk_pb (v / 256 / 256 / 256 / 256 / 256 / 256 / 256 % 256) = c7
  clear k1 k2 k3 k4 k5 k6
  omega
