theorem dp_64 {n n1 n2 n3 n4 n5 n6 : Nat} (hn : n < 2 ^ 64) (e1 : n1 = n - ((n / 2) &&& 6148914691236517205)) (e2 : n2 = (n1 &&& 3689348814741910323) + ((n1 / 4) &&& 3689348814741910323)) (e3 : n3 = (n2 + n2 / 16) &&& 1085102592571150095) (e4 : n4 = n3 + n3 / 256) (e5 : n5 = n4 + n4 / 65536) (e6 : n6 = n5 + n5 / 4294967296) : n6 % 128 = dm_ct (fun i => n.testBit i) 64 := by
  have h1 := dp_1 32 n
  rw [Nat.mod_eq_of_lt (show n < 4 ^ 32 by omega), dp_l1, ← e1] at h1
  have h2 := dp_2 16 n1
  rw [dp_l2, ← e2] at h2
  have b2 : n2 < 256 ^ 8 := by
    have q1 : (n1 &&& 3689348814741910323) ≤ 3689348814741910323 := Nat.and_le_right
    have q2 : ((n1 / 4) &&& 3689348814741910323) ≤ 3689348814741910323 := Nat.and_le_right
    omega
  have h3 := dp_3 8 n2 b2 h2.2
  rw [dp_l3, ← e3] at h3
  rw [h2.1, h1] at h3
  have h4 := h3.1
  have h5 := h3.2
  have b3 : n3 ≤ 1085102592571150095 := by rw [e3]; exact Nat.and_le_right
  simp only [dp_dg, and_true] at h5
  simp only [dp_sd] at h4
  obtain ⟨q0, q1, q2, q3, q4, q5, q6, q7⟩ := h5
  rw [show (2 : Nat) * 32 = 64 from rfl] at h4
  have k7 : n3 / 256 / 256 / 256 / 256 / 256 / 256 / 256 / 256 = 0 := by
    rw [Nat.div_div_eq_div_mul, Nat.div_div_eq_div_mul, Nat.div_div_eq_div_mul, Nat.div_div_eq_div_mul, Nat.div_div_eq_div_mul, Nat.div_div_eq_div_mul, Nat.div_div_eq_div_mul]
    exact Nat.div_eq_of_lt (by omega)
  have hw : n3 = n3 % 256 + 256 * (n3 / 256 % 256 + 256 * (n3 / 256 / 256 % 256 + 256 * (n3 / 256 / 256 / 256 % 256 + 256 * (n3 / 256 / 256 / 256 / 256 % 256 + 256 * (n3 / 256 / 256 / 256 / 256 / 256 % 256 + 256 * (n3 / 256 / 256 / 256 / 256 / 256 / 256 % 256 + 256 * (n3 / 256 / 256 / 256 / 256 / 256 / 256 / 256 % 256))))))) := by
    have m0 := Nat.mod_add_div n3 256
    have m1 := Nat.mod_add_div (n3 / 256) 256
    have m2 := Nat.mod_add_div (n3 / 256 / 256) 256
    have m3 := Nat.mod_add_div (n3 / 256 / 256 / 256) 256
    have m4 := Nat.mod_add_div (n3 / 256 / 256 / 256 / 256) 256
    have m5 := Nat.mod_add_div (n3 / 256 / 256 / 256 / 256 / 256) 256
    have m6 := Nat.mod_add_div (n3 / 256 / 256 / 256 / 256 / 256 / 256) 256
    have m7 := Nat.mod_add_div (n3 / 256 / 256 / 256 / 256 / 256 / 256 / 256) 256
    rw [k7, Nat.mul_zero, Nat.add_zero] at m7
    rw [m7, m6, m5, m4, m3, m2, m1, m0]
  rw [e6, e5, e4, dp_f64 q0 q1 q2 q3 q4 q5 q6 q7 hw, ← h4]
  simp only [Nat.add_zero, Nat.add_assoc]
