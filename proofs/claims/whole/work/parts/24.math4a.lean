theorem dp_c1 : dp_M 4 1 16 = 1431655765 := by decide +kernel
theorem dp_c2 : dp_M 16 3 8 = 858993459 := by decide +kernel
theorem dp_c3 : dp_M 256 15 4 = 252645135 := by decide +kernel
theorem dp_l1 : dp_M 4 1 32 = 6148914691236517205 := by decide +kernel
theorem dp_l2 : dp_M 16 3 16 = 3689348814741910323 := by decide +kernel
theorem dp_l3 : dp_M 256 15 8 = 1085102592571150095 := by decide +kernel
theorem dp_dv {A B q : Nat} (h : A < B) : (A + B * q) / B = q := by rw [Nat.add_mul_div_left _ _ (by omega), Nat.div_eq_of_lt h, Nat.zero_add]
theorem dp_f32 {a b c d w : Nat} (ha : a ≤ 12) (hb : b ≤ 12) (hc : c ≤ 12) (hd : d ≤ 12) (hw : w = a + 256 * (b + 256 * (c + 256 * d))) : (w + w / 256 + (w + w / 256) / 65536) % 64 = a + b + c + d := by
  have w1 : w / 256 = b + 256 * (c + 256 * d) := by rw [hw]; exact dp_dv (by omega)
  have w2 : w + w / 256 = ((a + b) + 256 * (b + c)) + 65536 * (c + d + 256 * d) := by rw [w1, hw]; omega
  have w3 : (w + w / 256) / 65536 = c + d + 256 * d := by rw [w2]; exact dp_dv (by omega)
  have w4 : w + w / 256 + (w + w / 256) / 65536 = (a + b + c + d) + 64 * (4 * (b + c + d) + 1024 * (c + d + 256 * d)) := by rw [w3, w2]; omega
  rw [w4, Nat.add_mul_mod_self_left, Nat.mod_eq_of_lt (by omega)]
theorem dp_32 {n n1 n2 n3 n4 n5 : Nat} (hn : n < 2 ^ 32) (e1 : n1 = n - ((n / 2) &&& 1431655765)) (e2 : n2 = (n1 &&& 858993459) + ((n1 / 4) &&& 858993459)) (e3 : n3 = (n2 + n2 / 16) &&& 252645135) (e4 : n4 = n3 + n3 / 256) (e5 : n5 = n4 + n4 / 65536) : n5 % 64 = dm_ct (fun i => n.testBit i) 32 := by
  have h1 := dp_1 16 n
  rw [Nat.mod_eq_of_lt (show n < 4 ^ 16 by omega), dp_c1, ← e1] at h1
  have h2 := dp_2 8 n1
  rw [dp_c2, ← e2] at h2
  have b2 : n2 < 256 ^ 4 := by
    have q1 : (n1 &&& 858993459) ≤ 858993459 := Nat.and_le_right
    have q2 : ((n1 / 4) &&& 858993459) ≤ 858993459 := Nat.and_le_right
    omega
  have h3 := dp_3 4 n2 b2 h2.2
  rw [dp_c3, ← e3] at h3
  rw [h2.1, h1] at h3
  have h4 := h3.1
  have h5 := h3.2
  have b3 : n3 ≤ 252645135 := by rw [e3]; exact Nat.and_le_right
  simp only [dp_dg, and_true] at h5
  simp only [dp_sd] at h4
  obtain ⟨q0, q1, q2, q3⟩ := h5
  rw [show (2 : Nat) * 16 = 32 from rfl] at h4
  have k3 : n3 / 256 / 256 / 256 / 256 = 0 := by
    rw [Nat.div_div_eq_div_mul, Nat.div_div_eq_div_mul, Nat.div_div_eq_div_mul]
    exact Nat.div_eq_of_lt (by omega)
  have hw : n3 = n3 % 256 + 256 * (n3 / 256 % 256 + 256 * (n3 / 256 / 256 % 256 + 256 * (n3 / 256 / 256 / 256 % 256))) := by
    have m0 := Nat.mod_add_div n3 256
    have m1 := Nat.mod_add_div (n3 / 256) 256
    have m2 := Nat.mod_add_div (n3 / 256 / 256) 256
    have m3 := Nat.mod_add_div (n3 / 256 / 256 / 256) 256
    rw [k3, Nat.mul_zero, Nat.add_zero] at m3
    rw [m3, m2, m1, m0]
  rw [e5, e4, dp_f32 q0 q1 q2 q3 hw, ← h4]
  simp only [Nat.add_zero, Nat.add_assoc]
theorem ng_rw_len {fi : Int32} : ∀ {n : Nat}, (ng_rw fi n).length = dm_ct (fun i => nb_t fi i) n := by
  intro n
  induction n with
  | zero => rfl
  | succ n ih =>
    rw [ng_rw, dm_ct, ← ih]
    split
    · rw [List.length_append]; rfl
    · rfl
theorem ng_tbL {n i : Nat} (hn : n < 2 ^ 64) : nb_u (lN n) i = n.testBit i := by
  unfold nb_u
  show (BitVec.ofNat 64 n).getLsbD i = _
  rw [BitVec.getLsbD_ofNat]
  by_cases h : i < 64
  · simp [h]
  · rw [decide_eq_false h, Bool.false_and, Nat.testBit_lt_two_pow (Nat.lt_of_lt_of_le hn (Nat.pow_le_pow_right (by decide) (Nat.not_lt.mp h)))]
