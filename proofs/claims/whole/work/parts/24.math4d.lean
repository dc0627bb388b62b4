theorem dp_int {x y1 y2 y3 y4 y5 : Int32} (e1 : y1 = x - ((x.toUInt32 >>> ((nI 1).toUInt32 &&& Int32.toUInt32 31)).toInt32 &&& nI 1431655765)) (e2 : y2 = (y1 &&& nI 858993459) + ((y1.toUInt32 >>> ((nI 2).toUInt32 &&& Int32.toUInt32 31)).toInt32 &&& nI 858993459)) (e3 : y3 = (y2 + (y2.toUInt32 >>> ((nI 4).toUInt32 &&& Int32.toUInt32 31)).toInt32) &&& nI 252645135) (e4 : y4 = y3 + (y3.toUInt32 >>> ((nI 8).toUInt32 &&& Int32.toUInt32 31)).toInt32) (e5 : y5 = y4 + (y4.toUInt32 >>> ((nI 16).toUInt32 &&& Int32.toUInt32 31)).toInt32) : y5 &&& nI 63 = nI (dm_ct (fun i => nb_t x i) 32) := by
  obtain ⟨n, hn, rfl⟩ := wb_of32 x
  rw [dp_shr hn (by decide), dp_nand] at e1
  have l1 : ((n / 2 ^ 1) &&& 1431655765) ≤ n := Nat.le_trans Nat.and_le_left (Nat.div_le_self _ _)
  rw [pk_sub l1] at e1
  obtain ⟨n1, hn1⟩ : ∃ k, k = n - ((n / 2) &&& 1431655765) := ⟨_, rfl⟩
  rw [show n / 2 ^ 1 = n / 2 from rfl, ← hn1] at e1
  subst e1
  rw [dp_shr (by omega) (by decide), dp_nand, dp_nand, nI_add] at e2
  obtain ⟨n2, hn2⟩ : ∃ k, k = (n1 &&& 858993459) + ((n1 / 4) &&& 858993459) := ⟨_, rfl⟩
  rw [show n1 / 2 ^ 2 = n1 / 4 from rfl, ← hn2] at e2
  subst e2
  have b2 : n2 ≤ 1717986918 := by
    have q1 : (n1 &&& 858993459) ≤ 858993459 := Nat.and_le_right
    have q2 : ((n1 / 4) &&& 858993459) ≤ 858993459 := Nat.and_le_right
    omega
  rw [dp_shr (by omega) (by decide), nI_add, dp_nand] at e3
  obtain ⟨n3, hn3⟩ : ∃ k, k = (n2 + n2 / 16) &&& 252645135 := ⟨_, rfl⟩
  rw [show n2 / 2 ^ 4 = n2 / 16 from rfl, ← hn3] at e3
  subst e3
  have b3 : n3 ≤ 252645135 := by rw [hn3]; exact Nat.and_le_right
  rw [dp_shr (by omega) (by decide), nI_add] at e4
  subst e4
  rw [dp_shr (by omega) (by decide), nI_add] at e5
  subst e5
  rw [dp_nand, show (63 : Nat) = 2 ^ 6 - 1 from rfl, Nat.and_two_pow_sub_one_eq_mod]
  have h := dp_32 hn hn1 hn2 hn3 rfl rfl
  have e : (fun i => nb_t (nI n) i) = (fun i => n.testBit i) := by
    funext i; exact ng_tb hn
  rw [e, ← h]
