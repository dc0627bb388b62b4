/-! the model's search of all pairings -/
def ng_ff (pr : Nat → Option Nat) (mn : Nat) : Nat := (ng_fst (fun i => (pr i).isNone) mn 0).getD mn
def ng_may (mn : Nat) (pr co : Nat → Option Nat) (i j : Nat) : Bool := if j = 10 then (co (11 * i + 10)).isSome else decide (j < mn) && ((pr j).isNone && (co (11 * i + j)).isSome)
def ng_hw (pr co : Nat → Option Nat) : Nat → Nat
  | 0 => 0
  | n + 1 => match pr n with
    | none => ng_hw pr co n
    | some j => if n < j then ng_hw pr co n + (co (11 * n + j)).getD 0 else ng_hw pr co n
def ng_s2 (pr : Nat → Option Nat) (i j : Nat) : Nat → Option Nat := if j < 10 then va_up (va_up pr i (some j)) j (some i) else va_up pr i (some j)
def ng_un (pr : Nat → Option Nat) (i j : Nat) : Nat → Option Nat := if j < 10 then va_up (va_up pr j none) i none else va_up pr i none
theorem ng_un_s2 {pr : Nat → Option Nat} {i j : Nat} (hi : pr i = none) (hj : j < 10 → pr j = none) (hij : i ≠ j) : ng_un (ng_s2 pr i j) i j = pr := by
  funext k
  unfold ng_un ng_s2
  by_cases q : j < 10
  · rw [if_pos q, if_pos q]
    by_cases k1 : k = i
    · subst k1; rw [va_up_self, hi]
    · rw [va_up_ne _ _ k1]
      by_cases k2 : k = j
      · subst k2; rw [va_up_self, hj q]
      · rw [va_up_ne _ _ k2, va_up_ne _ _ k2, va_up_ne _ _ k1]
  · rw [if_neg q, if_neg q]
    by_cases k1 : k = i
    · subst k1; rw [va_up_self, hi]
    · rw [va_up_ne _ _ k1, va_up_ne _ _ k1]
theorem ng_s2_i {pr : Nat → Option Nat} {i j : Nat} (hij : i ≠ j) : ng_s2 pr i j i = some j := by
  unfold ng_s2
  split
  · rw [va_up_ne _ _ hij, va_up_self]
  · rw [va_up_self]
/-- what the partners are when a place is looked at: free as before, or as it was last tried -/
def ng_cp (pr cp : Nat → Option Nat) (i : Nat) : Prop := cp = pr ∨ ∃ j, cp = ng_s2 pr i j ∧ i < j ∧ j ≤ 10 ∧ (j < 10 → pr j = none)
theorem ng_cp_n {pr cp : Nat → Option Nat} {i : Nat} (h : ng_cp pr cp i) (hc : cp i = none) : cp = pr := by
  rcases h with h | ⟨j, h1, h2, -, -⟩
  · exact h
  · rw [h1, ng_s2_i (by omega)] at hc; cases hc
theorem ng_cp_s {pr cp : Nat → Option Nat} {i j : Nat} (h : ng_cp pr cp i) (hi : pr i = none) (hc : cp i = some j) : ng_un cp i j = pr ∧ i < j ∧ j ≤ 10 := by
  rcases h with h | ⟨k, h1, h2, h3, h4⟩
  · rw [h, hi] at hc; cases hc
  · rw [h1, ng_s2_i (by omega)] at hc
    cases hc
    exact ⟨by rw [h1]; exact ng_un_s2 hi h4 (by omega), h2, h3⟩
def ng_nj (mn : Nat) (pr co : Nat → Option Nat) (i t : Nat) : Option Nat := ng_fst (fun j => ng_may mn pr co i j) (10 - t) (t + 1)
theorem ng_nj_f {mn : Nat} {pr co : Nat → Option Nat} {i t : Nat} (ht : t < 10) (h : ng_may mn pr co i (t + 1) = false) : ng_nj mn pr co i t = ng_nj mn pr co i (t + 1) := by
  unfold ng_nj
  rw [show 10 - t = (10 - (t + 1)) + 1 by omega, ng_fst, if_neg (by rw [h]; decide)]
theorem ng_nj_t {mn : Nat} {pr co : Nat → Option Nat} {i t : Nat} (ht : t < 10) (h : ng_may mn pr co i (t + 1) = true) : ng_nj mn pr co i t = some (t + 1) := by
  unfold ng_nj
  rw [show 10 - t = (10 - (t + 1)) + 1 by omega, ng_fst, if_pos h]
theorem ng_nj_e {mn : Nat} {pr co : Nat → Option Nat} {i t : Nat} (ht : 10 ≤ t) : ng_nj mn pr co i t = none := by
  unfold ng_nj
  rw [show 10 - t = 0 by omega]; rfl
abbrev ng_ac : Type := Nat × Nat × (Nat → Option Nat)
def ng_hd (mn : Nat) (co : Nat → Option Nat) (a : ng_ac) (pr : Nat → Option Nat) : ng_ac := if 0 < a.1 ∧ a.2.1 < ng_hw pr co mn then a else if 0 < a.1 ∧ ng_hw pr co mn = a.2.1 then (a.1 + 1, a.2.1, a.2.2) else (1, ng_hw pr co mn, pr)
theorem ng_hw_s {pr co : Nat → Option Nat} {n j c : Nat} (h : pr n = some j) (hj : n < j) (hc : co (11 * n + j) = some c) : ng_hw pr co (n + 1) = ng_hw pr co n + c := by
  rw [ng_hw, h]
  show (if n < j then _ else _) = _
  rw [if_pos hj, hc]; rfl
theorem ng_hw_l {pr co : Nat → Option Nat} {n j : Nat} (h : pr n = some j) (hj : j ≤ n) : ng_hw pr co (n + 1) = ng_hw pr co n := by
  rw [ng_hw, h]
  show (if n < j then _ else _) = _
  rw [if_neg (by omega)]
/-- all places have partners, and there are ways for them -/
def ng_fl (mn : Nat) (pr co : Nat → Option Nat) : Prop := ∀ i, i < mn → ∃ j, pr i = some j ∧ j ≤ 10 ∧ (i < j → ∃ c, co (11 * i + j) = some c ∧ c ≤ 19000000)
theorem ng_hw_le {mn : Nat} {pr co : Nat → Option Nat} (h : ng_fl mn pr co) : ∀ n, n ≤ mn → ng_hw pr co n ≤ 19000000 * n := by
  intro n
  induction n with
  | zero => intro _; exact Nat.zero_le _
  | succ n ih =>
    intro hn
    obtain ⟨j, h1, h2, h3⟩ := h n (by omega)
    have h4 := ih (by omega)
    by_cases q : n < j
    · obtain ⟨c, h5, h6⟩ := h3 q
      rw [ng_hw_s h1 q h5]; omega
    · rw [ng_hw_l h1 (by omega)]; omega
theorem ng_cpy {be1 pr : Nat → Option Nat} {i : Nat} (h : ∀ k, k < i → be1 k = pr k) : ∀ k, k < i + 1 → va_up be1 i (pr i) k = pr k := by
  intro k hk
  by_cases q : k = i
  · subst q; rw [va_up_self]
  · rw [va_up_ne _ _ q]; exact h k (by omega)
