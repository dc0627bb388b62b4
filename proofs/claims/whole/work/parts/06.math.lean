/-! the lightest ways by their costs: what a table of costs must satisfy, that this fixes it, and that stages over inner middles reach it -/
def dm_FAR : Nat := 1000000000000
def dm_inc (oe ot : Nat → Nat) (e a x : Nat) : Prop := (oe e = a ∧ ot e = x) ∨ (ot e = a ∧ oe e = x)
def dm_D (np ne : Nat) (inn : Nat → Bool) (oe ot co : Nat → Nat) (D : Nat → Nat → Nat) : Prop :=
  (∀ a, a < np → D a a = 0) ∧ (∀ a b, a < np → b < np → D a b ≤ dm_FAR) ∧
  (∀ e a x b, e < ne → dm_inc oe ot e a x → b < np → (x = b ∨ inn x = true) → D a b ≤ co e + D x b) ∧
  (∀ a b, a < np → b < np → a ≠ b → D a b ≠ dm_FAR → ∃ e x, e < ne ∧ dm_inc oe ot e a x ∧ (x = b ∨ inn x = true) ∧ D a b = co e + D x b)
theorem dm_inc_lt {np ne : Nat} {oe ot : Nat → Nat} (hE : ∀ e, e < ne → oe e < np ∧ ot e < np) {e a x : Nat} (he : e < ne) (h : dm_inc oe ot e a x) : a < np ∧ x < np := by
  have h1 := hE e he
  rcases h with ⟨h2, h3⟩ | ⟨h2, h3⟩ <;> omega
theorem dm_le {np ne : Nat} {inn : Nat → Bool} {oe ot co : Nat → Nat} {D D' : Nat → Nat → Nat} (hE : ∀ e, e < ne → oe e < np ∧ ot e < np) (hco : ∀ e, e < ne → 0 < co e) (h1 : dm_D np ne inn oe ot co D) (h2 : dm_D np ne inn oe ot co D') : ∀ n a b, a < np → b < np → D' a b ≤ n → D a b ≤ D' a b := by
  intro n
  induction n with
  | zero =>
    intro a b ha hb hn
    by_cases hab : a = b
    · subst hab; rw [h1.1 a ha]; exact Nat.zero_le _
    · by_cases hF : D' a b = dm_FAR
      · rw [hF]; exact h1.2.1 a b ha hb
      · obtain ⟨e, x, he, hi, hx, hd⟩ := h2.2.2.2 a b ha hb hab hF
        have h3 := hco e he
        omega
  | succ n ih =>
    intro a b ha hb hn
    by_cases hab : a = b
    · subst hab; rw [h1.1 a ha]; exact Nat.zero_le _
    · by_cases hF : D' a b = dm_FAR
      · rw [hF]; exact h1.2.1 a b ha hb
      · obtain ⟨e, x, he, hi, hx, hd⟩ := h2.2.2.2 a b ha hb hab hF
        have h3 := hco e he
        have hxl := (dm_inc_lt hE he hi).2
        have h4 := ih x b hxl hb (by omega)
        have h5 := h1.2.2.1 e a x b he hi hb hx
        omega
theorem dm_uniq {np ne : Nat} {inn : Nat → Bool} {oe ot co : Nat → Nat} {D D' : Nat → Nat → Nat} (hE : ∀ e, e < ne → oe e < np ∧ ot e < np) (hco : ∀ e, e < ne → 0 < co e) (h1 : dm_D np ne inn oe ot co D) (h2 : dm_D np ne inn oe ot co D') {a b : Nat} (ha : a < np) (hb : b < np) : D a b = D' a b :=
  Nat.le_antisymm (dm_le hE hco h1 h2 _ a b ha hb (Nat.le_refl _)) (dm_le hE hco h2 h1 _ a b ha hb (Nat.le_refl _))
/-- a stage over the middle m -/
def dm_st (m : Nat) (D : Nat → Nat → Nat) (a b : Nat) : Nat := if D a m ≠ dm_FAR ∧ D m b ≠ dm_FAR ∧ D a m + D m b < D a b then D a m + D m b else D a b
/-- behind the stages over the inner middles below k -/
def dm_I (np ne : Nat) (inn : Nat → Bool) (oe ot co : Nat → Nat) (k : Nat) (D : Nat → Nat → Nat) : Prop :=
  (∀ a, a < np → D a a = 0) ∧ (∀ a b, a < np → b < np → D a b ≤ dm_FAR) ∧ (∀ a b, a < np → b < np → D a b = D b a) ∧
  (∀ e a x, e < ne → dm_inc oe ot e a x → D a x ≤ co e) ∧
  (∀ m a b, m < k → m < np → inn m = true → a < np → b < np → D a b ≤ D a m + D m b) ∧
  (∀ a b, a < np → b < np → a ≠ b → D a b ≠ dm_FAR → ∃ e x, e < ne ∧ dm_inc oe ot e a x ∧ (x = b ∨ inn x = true) ∧ co e + D x b ≤ D a b)
theorem dm_st_le (m : Nat) (D : Nat → Nat → Nat) (a b : Nat) : dm_st m D a b ≤ D a b := by
  unfold dm_st
  split
  · omega
  · exact Nat.le_refl _
theorem dm_st_or (m : Nat) (D : Nat → Nat → Nat) (a b : Nat) : dm_st m D a b = D a b ∨ (dm_st m D a b = D a m + D m b ∧ D a m ≠ dm_FAR ∧ D m b ≠ dm_FAR ∧ D a m + D m b < D a b) := by
  unfold dm_st
  split
  · rename_i h
    exact Or.inr ⟨rfl, h.1, h.2.1, h.2.2⟩
  · exact Or.inl rfl
theorem dm_st_sum (m : Nat) {D : Nat → Nat → Nat} {a b : Nat} (hF : D a b ≤ dm_FAR) : dm_st m D a b ≤ D a m + D m b := by
  unfold dm_st
  split
  · exact Nat.le_refl _
  · rename_i h
    by_cases h1 : D a m = dm_FAR
    · omega
    · by_cases h2 : D m b = dm_FAR
      · omega
      · have h3 : ¬ (D a m + D m b < D a b) := fun q => h ⟨h1, h2, q⟩
        omega
theorem dm_st_row {m : Nat} {D : Nat → Nat → Nat} (h0 : D m m = 0) (b : Nat) : dm_st m D m b = D m b := by
  unfold dm_st
  rw [h0]
  split
  · rename_i h
    omega
  · rfl
theorem dm_st_col {m : Nat} {D : Nat → Nat → Nat} (h0 : D m m = 0) (a : Nat) : dm_st m D a m = D a m := by
  unfold dm_st
  rw [h0]
  split
  · rename_i h
    omega
  · rfl
theorem dm_step {np ne : Nat} {inn : Nat → Bool} {oe ot co : Nat → Nat} {k : Nat} {D : Nat → Nat → Nat} (hE : ∀ e, e < ne → oe e < np ∧ ot e < np) (hk : k < np) (hi : inn k = true) (h : dm_I np ne inn oe ot co k D) : dm_I np ne inn oe ot co (k + 1) (dm_st k D) := by
  obtain ⟨h0, hF, hS, hEd, hC, h3⟩ := h
  have hkk := h0 k hk
  refine ⟨fun a ha => ?_, fun a b ha hb => ?_, fun a b ha hb => ?_, fun e a x he hx => ?_, fun m a b hm hmn hmi ha hb => ?_, fun a b ha hb hab hne => ?_⟩
  · have := dm_st_le k D a a
    have := h0 a ha
    omega
  · exact Nat.le_trans (dm_st_le k D a b) (hF a b ha hb)
  · unfold dm_st
    rw [hS a k ha hk, hS k b hk hb, hS a b ha hb, Nat.add_comm (D k a) (D b k)]
    by_cases q : D k a ≠ dm_FAR ∧ D b k ≠ dm_FAR ∧ D b k + D k a < D b a
    · rw [if_pos q, if_pos ⟨q.2.1, q.1, q.2.2⟩]
    · rw [if_neg q, if_neg (fun z => q ⟨z.2.1, z.1, z.2.2⟩)]
  · exact Nat.le_trans (dm_st_le k D a x) (hEd e a x he hx)
  · by_cases hmk : m = k
    · subst hmk
      rw [dm_st_col hkk, dm_st_row hkk]
      exact dm_st_sum m (hF a b ha hb)
    · have hm' : m < k := by omega
      have c1 := hC m a b hm' hmn hmi ha hb
      have c2 := hC m k b hm' hmn hmi hk hb
      have c3 := hC m a k hm' hmn hmi ha hk
      have s1 := dm_st_le k D a b
      have s2 := dm_st_sum k (hF a b ha hb)
      rcases dm_st_or k D a m with e1 | ⟨e1, -, -, -⟩ <;> rcases dm_st_or k D m b with e2 | ⟨e2, -, -, -⟩ <;> omega
  · rcases dm_st_or k D a b with e1 | ⟨e1, n1, n2, n3⟩
    · rw [e1] at hne ⊢
      obtain ⟨e, x, he, hx, hxb, hd⟩ := h3 a b ha hb hab hne
      exact ⟨e, x, he, hx, hxb, Nat.le_trans (Nat.add_le_add_left (dm_st_le k D x b) _) hd⟩
    · rw [e1]
      have hak : a ≠ k := by
        intro q
        subst q
        omega
      obtain ⟨e, x, he, hx, hxb, hd⟩ := h3 a k ha hk hak n1
      have hxl := (dm_inc_lt hE he hx).2
      have s2 := dm_st_sum k (hF x b hxl hb)
      refine ⟨e, x, he, hx, Or.inr ?_, by omega⟩
      rcases hxb with rfl | q
      · exact hi
      · exact q
theorem dm_skip {np ne : Nat} {inn : Nat → Bool} {oe ot co : Nat → Nat} {k : Nat} {D : Nat → Nat → Nat} (hi : inn k = false) (h : dm_I np ne inn oe ot co k D) : dm_I np ne inn oe ot co (k + 1) D := by
  obtain ⟨h0, hF, hS, hEd, hC, h3⟩ := h
  refine ⟨h0, hF, hS, hEd, fun m a b hm hmn hmi ha hb => ?_, h3⟩
  by_cases hmk : m = k
  · subst hmk; rw [hi] at hmi; cases hmi
  · exact hC m a b (by omega) hmn hmi ha hb
theorem dm_end {np ne : Nat} {inn : Nat → Bool} {oe ot co : Nat → Nat} {D : Nat → Nat → Nat} (hE : ∀ e, e < ne → oe e < np ∧ ot e < np) (h : dm_I np ne inn oe ot co np D) : dm_D np ne inn oe ot co D := by
  obtain ⟨h0, hF, hS, hEd, hC, h3⟩ := h
  have h2 : ∀ e a x b, e < ne → dm_inc oe ot e a x → b < np → (x = b ∨ inn x = true) → D a b ≤ co e + D x b := by
    intro e a x b he hx hb hxb
    obtain ⟨ha, hxl⟩ := dm_inc_lt hE he hx
    have q1 := hEd e a x he hx
    rcases hxb with rfl | q
    · omega
    · have q2 := hC x a b hxl hxl q ha hb
      omega
  refine ⟨h0, hF, h2, fun a b ha hb hab hne => ?_⟩
  obtain ⟨e, x, he, hx, hxb, hd⟩ := h3 a b ha hb hab hne
  exact ⟨e, x, he, hx, hxb, Nat.le_antisymm (h2 e a x b he hx hb hxb) hd⟩
theorem dm_congr {np ne : Nat} {inn : Nat → Bool} {oe ot co : Nat → Nat} {k : Nat} {D D' : Nat → Nat → Nat} (hE : ∀ e, e < ne → oe e < np ∧ ot e < np) (hc : ∀ a b, a < np → b < np → D' a b = D a b) (h : dm_I np ne inn oe ot co k D) : dm_I np ne inn oe ot co k D' := by
  obtain ⟨h0, hF, hS, hEd, hC, h3⟩ := h
  refine ⟨fun a ha => ?_, fun a b ha hb => ?_, fun a b ha hb => ?_, fun e a x he hx => ?_, fun m a b hm hmn hmi ha hb => ?_, fun a b ha hb hab hne => ?_⟩
  · rw [hc a a ha ha]; exact h0 a ha
  · rw [hc a b ha hb]; exact hF a b ha hb
  · rw [hc a b ha hb, hc b a hb ha]; exact hS a b ha hb
  · obtain ⟨ha, hxl⟩ := dm_inc_lt hE he hx
    rw [hc a x ha hxl]; exact hEd e a x he hx
  · rw [hc a b ha hb, hc a m ha hmn, hc m b hmn hb]; exact hC m a b hm hmn hmi ha hb
  · rw [hc a b ha hb] at hne ⊢
    obtain ⟨e, x, he, hx, hxb, hd⟩ := h3 a b ha hb hab hne
    refine ⟨e, x, he, hx, hxb, ?_⟩
    rw [hc x b (dm_inc_lt hE he hx).2 hb]; exact hd
theorem dm_zero {np : Nat} {inn : Nat → Bool} {oe ot co : Nat → Nat} {D : Nat → Nat → Nat} (h0 : ∀ a, a < np → D a a = 0) (hF : ∀ a b, a < np → b < np → a ≠ b → D a b = dm_FAR) : dm_I np 0 inn oe ot co 0 D := by
  refine ⟨h0, fun a b ha hb => ?_, fun a b ha hb => ?_, fun e a x he hx => absurd he (Nat.not_lt_zero _), fun m a b hm hmn hmi ha hb => absurd hm (Nat.not_lt_zero _), fun a b ha hb hab hne => absurd (hF a b ha hb hab) hne⟩
  · by_cases hab : a = b
    · subst hab; rw [h0 a ha]; exact Nat.zero_le _
    · rw [hF a b ha hb hab]; exact Nat.le_refl _
  · by_cases hab : a = b
    · subst hab; rfl
    · rw [hF a b ha hb hab, hF b a hb ha (fun q => hab q.symm)]
theorem dm_edge {np j : Nat} {inn : Nat → Bool} {oe ot co : Nat → Nat} {D D' : Nat → Nat → Nat} (hE : ∀ e, e < j + 1 → oe e < np ∧ ot e < np) (hne : oe j ≠ ot j) (hj : co j < dm_FAR) (hc : ∀ a b, a < np → b < np → dm_inc oe ot j a b → D' a b = min (D a b) (co j)) (hn : ∀ a b, a < np → b < np → ¬ dm_inc oe ot j a b → D' a b = D a b) (h : dm_I np j inn oe ot co 0 D) : dm_I np (j + 1) inn oe ot co 0 D' := by
  obtain ⟨h0, hF, hS, hEd, hC, h3⟩ := h
  have hself : ∀ a, ¬ dm_inc oe ot j a a := by
    intro a q
    rcases q with ⟨q1, q2⟩ | ⟨q1, q2⟩ <;> omega
  have hle : ∀ a b, a < np → b < np → D' a b ≤ D a b := by
    intro a b ha hb
    by_cases q : dm_inc oe ot j a b
    · rw [hc a b ha hb q]; exact Nat.min_le_left _ _
    · rw [hn a b ha hb q]; exact Nat.le_refl _
  refine ⟨fun a ha => ?_, fun a b ha hb => Nat.le_trans (hle a b ha hb) (hF a b ha hb), fun a b ha hb => ?_, fun e a x he hx => ?_, fun m a b hm hmn hmi ha hb => absurd hm (Nat.not_lt_zero _), fun a b ha hb hab hnf => ?_⟩
  · rw [hn a a ha ha (hself a)]; exact h0 a ha
  · by_cases q : dm_inc oe ot j a b
    · have q' : dm_inc oe ot j b a := by
        rcases q with ⟨q1, q2⟩ | ⟨q1, q2⟩
        · exact Or.inr ⟨q2, q1⟩
        · exact Or.inl ⟨q2, q1⟩
      rw [hc a b ha hb q, hc b a hb ha q', hS a b ha hb]
    · have q' : ¬ dm_inc oe ot j b a := by
        intro z
        rcases z with ⟨q1, q2⟩ | ⟨q1, q2⟩
        · exact q (Or.inr ⟨q2, q1⟩)
        · exact q (Or.inl ⟨q2, q1⟩)
      rw [hn a b ha hb q, hn b a hb ha q', hS a b ha hb]
  · obtain ⟨ha, hxl⟩ := dm_inc_lt hE he hx
    by_cases hej : e = j
    · subst hej
      rw [hc a x ha hxl hx]; exact Nat.min_le_right _ _
    · exact Nat.le_trans (hle a x ha hxl) (hEd e a x (by omega) hx)
  · have old : D a b ≠ dm_FAR → D' a b = D a b → ∃ e x, e < j + 1 ∧ dm_inc oe ot e a x ∧ (x = b ∨ inn x = true) ∧ co e + D' x b ≤ D' a b := by
      intro z1 z2
      obtain ⟨e, x, he, hx, hxb, hd⟩ := h3 a b ha hb hab z1
      have hxl := (dm_inc_lt hE (show e < j + 1 by omega) hx).2
      have := hle x b hxl hb
      exact ⟨e, x, by omega, hx, hxb, by omega⟩
    by_cases q : dm_inc oe ot j a b
    · have e1 := hc a b ha hb q
      by_cases z : D a b ≤ co j
      · rw [Nat.min_eq_left z] at e1
        exact old (by omega) e1
      · rw [Nat.min_eq_right (by omega)] at e1
        refine ⟨j, b, by omega, q, Or.inl rfl, ?_⟩
        rw [hn b b hb hb (hself b), h0 b hb]
        omega
    · have e1 := hn a b ha hb q
      exact old (by rw [← e1]; exact hnf) e1
