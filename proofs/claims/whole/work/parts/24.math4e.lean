theorem dp_long {x y1 y2 y3 y4 y5 y6 : Int64} (e1 : y1 = x - ((x.toUInt64 >>> ((nI 1).toInt64.toUInt64 &&& Int64.toUInt64 63)).toInt64 &&& lN 6148914691236517205)) (e2 : y2 = (y1 &&& lN 3689348814741910323) + ((y1.toUInt64 >>> ((nI 2).toInt64.toUInt64 &&& Int64.toUInt64 63)).toInt64 &&& lN 3689348814741910323)) (e3 : y3 = (y2 + (y2.toUInt64 >>> ((nI 4).toInt64.toUInt64 &&& Int64.toUInt64 63)).toInt64) &&& lN 1085102592571150095) (e4 : y4 = y3 + (y3.toUInt64 >>> ((nI 8).toInt64.toUInt64 &&& Int64.toUInt64 63)).toInt64) (e5 : y5 = y4 + (y4.toUInt64 >>> ((nI 16).toInt64.toUInt64 &&& Int64.toUInt64 63)).toInt64) (e6 : y6 = y5 + (y5.toUInt64 >>> ((nI 32).toInt64.toUInt64 &&& Int64.toUInt64 63)).toInt64) : y6.toInt32 &&& nI 127 = nI (dm_ct (fun i => nb_u x i) 64) := by
  obtain ⟨n, hn, rfl⟩ := wb_of x
  rw [wb_shr hn (by decide), dp_land] at e1
  have l1 : ((n / 2 ^ 1) &&& 6148914691236517205) ≤ n := Nat.le_trans Nat.and_le_left (Nat.div_le_self _ _)
  rw [lN_sub l1] at e1
  obtain ⟨n1, hn1⟩ : ∃ k, k = n - ((n / 2) &&& 6148914691236517205) := ⟨_, rfl⟩
  rw [show n / 2 ^ 1 = n / 2 from rfl, ← hn1] at e1
  subst e1
  rw [wb_shr (by omega) (by decide), dp_land, dp_land, lN_add] at e2
  obtain ⟨n2, hn2⟩ : ∃ k, k = (n1 &&& 3689348814741910323) + ((n1 / 4) &&& 3689348814741910323) := ⟨_, rfl⟩
  rw [show n1 / 2 ^ 2 = n1 / 4 from rfl, ← hn2] at e2
  subst e2
  have b2 : n2 ≤ 7378697629483820646 := by
    have q1 : (n1 &&& 3689348814741910323) ≤ 3689348814741910323 := Nat.and_le_right
    have q2 : ((n1 / 4) &&& 3689348814741910323) ≤ 3689348814741910323 := Nat.and_le_right
    omega
  rw [wb_shr (by omega) (by decide), lN_add, dp_land] at e3
  obtain ⟨n3, hn3⟩ : ∃ k, k = (n2 + n2 / 16) &&& 1085102592571150095 := ⟨_, rfl⟩
  rw [show n2 / 2 ^ 4 = n2 / 16 from rfl, ← hn3] at e3
  subst e3
  have b3 : n3 ≤ 1085102592571150095 := by rw [hn3]; exact Nat.and_le_right
  rw [wb_shr (by omega) (by decide), lN_add] at e4
  subst e4
  rw [wb_shr (by omega) (by decide), lN_add] at e5
  subst e5
  rw [wb_shr (by omega) (by decide), lN_add] at e6
  subst e6
  rw [lN_i, dp_nand, show (127 : Nat) = 2 ^ 7 - 1 from rfl, Nat.and_two_pow_sub_one_eq_mod]
  have h := dp_64 hn hn1 hn2 hn3 rfl rfl rfl
  have e : (fun i => nb_u (lN n) i) = (fun i => n.testBit i) := by
    funext i; exact ng_tbL hn
  rw [e, ← h]
