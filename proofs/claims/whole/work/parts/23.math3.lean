/-! how many bits are set: what bitCount computes (rows wb_ .. out of kit/laws/BITS.to-paste) -/
theorem wb_tb (n : Nat) : (lN n).toBitVec = BitVec.ofNat 64 n := rfl
theorem wb_inj {a b : Int64} (h : a.toBitVec = b.toBitVec) : a = b := Int64.toBitVec_inj.mp h
theorem wb_tn {n : Nat} (h : n < 2 ^ 64) : (lN n).toBitVec.toNat = n := by rw [wb_tb, BitVec.toNat_ofNat, Nat.mod_eq_of_lt h]
theorem wb_of (x : Int64) : ∃ n, n < 2 ^ 64 ∧ x = lN n := ⟨x.toBitVec.toNat, x.toBitVec.isLt, wb_inj (by rw [wb_tb]; simp)⟩
theorem wb_of32 (x : Int32) : ∃ n, n < 2 ^ 32 ∧ x = nI n := ⟨x.toBitVec.toNat, x.toBitVec.isLt, Int32.toBitVec_inj.mp (by show _ = BitVec.ofNat 32 _; simp)⟩
theorem wb_cu : ∀ k, k < 64 → ((nI k).toInt64.toUInt64 &&& Int64.toUInt64 63) = UInt64.ofNat k := by decide +kernel
theorem wb_shr {n k : Nat} (hn : n < 2 ^ 64) (hk : k < 64) : ((lN n).toUInt64 >>> ((nI k).toInt64.toUInt64 &&& Int64.toUInt64 63)).toInt64 = lN (n / 2 ^ k) := by
  rw [wb_cu k hk]
  apply wb_inj
  apply BitVec.eq_of_toNat_eq
  show ((lN n).toUInt64 >>> UInt64.ofNat k).toNat = (BitVec.ofNat 64 _).toNat
  have h1 : (UInt64.ofNat k).toNat = k := by
    show (BitVec.ofNat 64 k).toNat = k
    rw [BitVec.toNat_ofNat, Nat.mod_eq_of_lt (by omega)]
  have h2 : (lN n).toUInt64.toNat = n := wb_tn hn
  rw [UInt64.toNat_shiftRight, h1, h2, Nat.mod_eq_of_lt hk, Nat.shiftRight_eq_div_pow, BitVec.toNat_ofNat, Nat.mod_eq_of_lt (Nat.lt_of_le_of_lt (Nat.div_le_self _ _) hn)]
theorem dp_nand (a b : Nat) : nI a &&& nI b = nI (a &&& b) := by
  apply Int32.toBitVec_inj.1
  show BitVec.ofNat 32 a &&& BitVec.ofNat 32 b = BitVec.ofNat 32 (a &&& b)
  apply BitVec.eq_of_getLsbD_eq
  intro i hi
  simp [hi]
theorem dp_land (a b : Nat) : lN a &&& lN b = lN (a &&& b) := by
  apply Int64.toBitVec_inj.1
  show BitVec.ofNat 64 a &&& BitVec.ofNat 64 b = BitVec.ofNat 64 (a &&& b)
  apply BitVec.eq_of_getLsbD_eq
  intro i hi
  simp [hi]
theorem dp_ush : ∀ k, k < 32 → (((nI k).toUInt32 &&& Int32.toUInt32 31).toBitVec % 32).toNat = k := by decide +kernel
theorem dp_shr {n k : Nat} (hn : n < 2 ^ 32) (hk : k < 32) : ((nI n).toUInt32 >>> ((nI k).toUInt32 &&& Int32.toUInt32 31)).toInt32 = nI (n / 2 ^ k) := pk_ushrN hn (nI k) k (dp_ush k hk)
def dp_M (P m : Nat) : Nat → Nat
  | 0 => 0
  | n + 1 => m + P * dp_M P m n
def dp_sd (B : Nat) : Nat → Nat → Nat
  | 0, _ => 0
  | n + 1, y => y % B + dp_sd B n (y / B)
def dp_dg (B b : Nat) : Nat → Nat → Prop
  | 0, _ => True
  | n + 1, z => z % B ≤ b ∧ dp_dg B b n (z / B)
theorem dp_and (s x y : Nat) : x &&& y = ((x % 2 ^ s) &&& (y % 2 ^ s)) + 2 ^ s * ((x / 2 ^ s) &&& (y / 2 ^ s)) := by
  rw [← Nat.and_mod_two_pow, ← Nat.and_div_two_pow]
  have := Nat.mod_add_div (x &&& y) (2 ^ s)
  omega
theorem dp_ct_s {P : Nat → Bool} : ∀ {n : Nat}, dm_ct P (n + 1) = (if P 0 = true then 1 else 0) + dm_ct (fun i => P (i + 1)) n := by
  intro n
  induction n with
  | zero => simp [dm_ct]
  | succ n ih =>
    rw [dm_ct, ih]
    show _ = (if P 0 = true then 1 else 0) + (dm_ct (fun i => P (i + 1)) n + (if P (n + 1) = true then 1 else 0))
    omega
theorem dp_ct4 (x n : Nat) : dm_ct (fun i => x.testBit i) (2 * (n + 1)) = x % 2 + (x / 2) % 2 + dm_ct (fun i => (x / 4).testBit i) (2 * n) := by
  have b : ∀ z : Nat, (if z.testBit 0 = true then 1 else 0) = z % 2 := by
    intro z
    rw [Nat.testBit_zero]
    by_cases q : z % 2 = 1
    · simp [q]
    · simp [q]; omega
  have e1 : (fun i => x.testBit (i + 1)) = (fun i => (x / 2).testBit i) := by
    funext i; exact Nat.testBit_succ x i
  have e2 : (fun i => (x / 2).testBit (i + 1)) = (fun i => (x / 4).testBit i) := by
    funext i
    rw [show x / 4 = x / 2 / 2 by omega]
    exact Nat.testBit_succ (x / 2) i
  rw [show 2 * (n + 1) = (2 * n + 1) + 1 by omega, dp_ct_s, b]
  show x % 2 + dm_ct (fun i => x.testBit (i + 1)) (2 * n + 1) = _
  rw [e1, dp_ct_s, b]
  show x % 2 + (x / 2 % 2 + dm_ct (fun i => (x / 2).testBit (i + 1)) (2 * n)) = _
  rw [e2]
  omega
theorem dp_1 : ∀ n x : Nat, dp_sd 4 n (x % 4 ^ n - ((x % 4 ^ n / 2) &&& dp_M 4 1 n)) = dm_ct (fun i => (x % 4 ^ n).testBit i) (2 * n) := by
  intro n
  induction n with
  | zero => intro x; rfl
  | succ n ih =>
    intro x
    rw [dp_ct4]
    have hx : x % 4 ^ (n + 1) / 4 = (x / 4) % 4 ^ n := by
      rw [Nat.pow_succ, Nat.mul_comm]; exact Nat.mod_mul_right_div_self x 4 (4 ^ n)
    generalize x % 4 ^ (n + 1) = y at hx ⊢
    have hy := ih (x / 4)
    rw [← hx] at hy
    rw [← hy]
    have e : (y / 2) &&& dp_M 4 1 (n + 1) = (y % 4) / 2 + 4 * ((y / 4 / 2) &&& dp_M 4 1 n) := by
      rw [dp_and 2 (y / 2) (dp_M 4 1 (n + 1))]
      have m1 : dp_M 4 1 (n + 1) = 1 + 4 * dp_M 4 1 n := rfl
      have m2 : dp_M 4 1 (n + 1) % 2 ^ 2 = 1 := by rw [m1]; omega
      have m3 : dp_M 4 1 (n + 1) / 2 ^ 2 = dp_M 4 1 n := by rw [m1]; omega
      rw [m2, m3, show y / 2 / 2 ^ 2 = y / 4 / 2 by omega]
      have m4 : (y / 2 % 2 ^ 2) &&& 1 = (y % 4) / 2 := by
        rw [Nat.and_one_is_mod]; omega
      rw [m4]
    have hz : ((y / 4 / 2) &&& dp_M 4 1 n) ≤ y / 4 / 2 := Nat.and_le_left
    rw [e]
    generalize (y / 4 / 2) &&& dp_M 4 1 n = z at hz ⊢
    show (y - (y % 4 / 2 + 4 * z)) % 4 + dp_sd 4 n ((y - (y % 4 / 2 + 4 * z)) / 4) = _
    rw [show (y - (y % 4 / 2 + 4 * z)) / 4 = y / 4 - z by omega, show (y - (y % 4 / 2 + 4 * z)) % 4 = y % 2 + y / 2 % 2 by omega]
theorem dp_2 : ∀ n y : Nat, dp_sd 16 n ((y &&& dp_M 16 3 n) + ((y / 4) &&& dp_M 16 3 n)) = dp_sd 4 (2 * n) y ∧ dp_dg 16 6 n ((y &&& dp_M 16 3 n) + ((y / 4) &&& dp_M 16 3 n)) := by
  intro n
  induction n with
  | zero => intro y; exact ⟨rfl, trivial⟩
  | succ n ih =>
    intro y
    have h := ih (y / 16)
    have m1 : dp_M 16 3 (n + 1) = 3 + 16 * dp_M 16 3 n := rfl
    have m2 : dp_M 16 3 (n + 1) % 2 ^ 4 = 3 := by rw [m1]; omega
    have m3 : dp_M 16 3 (n + 1) / 2 ^ 4 = dp_M 16 3 n := by rw [m1]; omega
    have a3 : ∀ z : Nat, z &&& 3 = z % 4 := fun z => Nat.and_two_pow_sub_one_eq_mod z 2
    have e1 : y &&& dp_M 16 3 (n + 1) = y % 4 + 16 * ((y / 16) &&& dp_M 16 3 n) := by
      rw [dp_and 4 y, m2, m3, a3]
      show y % 16 % 4 + 16 * (y / 16 &&& _) = _
      omega
    have e2 : (y / 4) &&& dp_M 16 3 (n + 1) = (y / 4) % 4 + 16 * ((y / 16 / 4) &&& dp_M 16 3 n) := by
      rw [dp_and 4 (y / 4), m2, m3, a3, show y / 4 / 2 ^ 4 = y / 16 / 4 by omega]
      show y / 4 % 16 % 4 + 16 * _ = _
      omega
    rw [e1, e2]
    generalize (y / 16) &&& dp_M 16 3 n = u at h ⊢
    generalize (y / 16 / 4) &&& dp_M 16 3 n = v at h ⊢
    have f1 : (y % 4 + 16 * u + (y / 4 % 4 + 16 * v)) / 16 = u + v := by omega
    have f2 : (y % 4 + 16 * u + (y / 4 % 4 + 16 * v)) % 16 = y % 4 + y / 4 % 4 := by omega
    refine ⟨?_, ?_⟩
    · show (y % 4 + 16 * u + (y / 4 % 4 + 16 * v)) % 16 + dp_sd 16 n ((y % 4 + 16 * u + (y / 4 % 4 + 16 * v)) / 16) = y % 4 + (y / 4 % 4 + dp_sd 4 (2 * n) (y / 4 / 4))
      rw [f1, f2, h.1, show y / 4 / 4 = y / 16 by omega]
      omega
    · show (y % 4 + 16 * u + (y / 4 % 4 + 16 * v)) % 16 ≤ 6 ∧ dp_dg 16 6 n ((y % 4 + 16 * u + (y / 4 % 4 + 16 * v)) / 16)
      rw [f1, f2]
      exact ⟨by omega, h.2⟩
theorem dp_3 : ∀ n z : Nat, z < 256 ^ n → dp_dg 16 6 (2 * n) z → dp_sd 256 n ((z + z / 16) &&& dp_M 256 15 n) = dp_sd 16 (2 * n) z ∧ dp_dg 256 12 n ((z + z / 16) &&& dp_M 256 15 n) := by
  intro n
  induction n with
  | zero => intro z _ _; exact ⟨rfl, trivial⟩
  | succ n ih =>
    intro z hz hd
    have hd1 : z % 16 ≤ 6 ∧ (z / 16 % 16 ≤ 6 ∧ dp_dg 16 6 (2 * n) (z / 16 / 16)) := hd
    obtain ⟨d0, d1, d2⟩ := hd1
    rw [show z / 16 / 16 = z / 256 by omega] at d2
    have hz2 : z / 256 < 256 ^ n := by
      rw [Nat.pow_succ] at hz
      exact Nat.div_lt_of_lt_mul (by rw [Nat.mul_comm]; exact hz)
    have h := ih (z / 256) hz2 d2
    have r0 : z / 256 % 16 ≤ 6 := by
      cases n with
      | zero => simp at hz2; omega
      | succ n => exact d2.1
    have m1 : dp_M 256 15 (n + 1) = 15 + 256 * dp_M 256 15 n := rfl
    have m2 : dp_M 256 15 (n + 1) % 2 ^ 8 = 15 := by rw [m1]; omega
    have m3 : dp_M 256 15 (n + 1) / 2 ^ 8 = dp_M 256 15 n := by rw [m1]; omega
    have a3 : ∀ z : Nat, z &&& 15 = z % 16 := fun z => Nat.and_two_pow_sub_one_eq_mod z 4
    have e1 : (z + z / 16) &&& dp_M 256 15 (n + 1) = (z % 16 + z / 16 % 16) + 256 * ((z / 256 + z / 256 / 16) &&& dp_M 256 15 n) := by
      rw [dp_and 8 (z + z / 16), m2, m3, a3]
      show (z + z / 16) % 256 % 16 + 256 * ((z + z / 16) / 256 &&& _) = _
      obtain ⟨a0, ha0⟩ : ∃ k, k = z % 16 := ⟨_, rfl⟩
      obtain ⟨a1, ha1⟩ : ∃ k, k = z / 16 % 16 := ⟨_, rfl⟩
      obtain ⟨r, hr⟩ : ∃ k, k = z / 256 := ⟨_, rfl⟩
      have z1 : z = a0 + 16 * a1 + 256 * r := by omega
      have z2 : z / 16 = a1 + 16 * r := by omega
      obtain ⟨r1, hr1⟩ : ∃ k, k = r / 16 := ⟨_, rfl⟩
      obtain ⟨s0, hs0⟩ : ∃ k, k = r % 16 := ⟨_, rfl⟩
      have z3 : r = s0 + 16 * r1 := by omega
      have z4 : z + z / 16 = (a0 + 17 * a1 + 16 * s0) + 256 * (r + r1) := by rw [z2]; omega
      have z5 : s0 ≤ 6 := by rw [hs0, hr]; exact r0
      have z6 : (z + z / 16) / 256 = r + r1 := by rw [z4]; omega
      have z7 : (z + z / 16) % 256 % 16 = a0 + a1 := by rw [z4]; omega
      rw [z6, z7, ← hr, ← hr1, ← ha0, ← ha1]
    rw [e1]
    generalize (z / 256 + z / 256 / 16) &&& dp_M 256 15 n = u at h ⊢
    refine ⟨?_, ?_⟩
    · show (z % 16 + z / 16 % 16 + 256 * u) % 256 + dp_sd 256 n ((z % 16 + z / 16 % 16 + 256 * u) / 256) = z % 16 + (z / 16 % 16 + dp_sd 16 (2 * n) (z / 16 / 16))
      rw [show (z % 16 + z / 16 % 16 + 256 * u) / 256 = u by omega, h.1, show z / 16 / 16 = z / 256 by omega]
      omega
    · show (z % 16 + z / 16 % 16 + 256 * u) % 256 ≤ 12 ∧ dp_dg 256 12 n ((z % 16 + z / 16 % 16 + 256 * u) / 256)
      rw [show (z % 16 + z / 16 % 16 + 256 * u) / 256 = u by omega]
      exact ⟨by omega, h.2⟩
