/-! the model's table of costs -/
def ng_wt (D : Nat → Nat → Nat) (a z : Nat) : Option Nat := if D a z = dm_FAR then none else some (D a z / 64)
def ng_nbD (ib : Nat → Bool) (D : Nat → Nat → Nat) (p : Nat) : Nat → Option Nat
  | 0 => none
  | n + 1 => if ib n = true ∧ D p n ≠ dm_FAR ∧ (∀ y, ng_nbD ib D p n = some y → D p n / 64 < D p y / 64) then some n else ng_nbD ib D p n
theorem ng_T_wt {np ne z : Nat} {ib inn : Nat → Bool} {oe ot hv co : Nat → Nat} {wo eo : Nat → Option Nat} {D : Nat → Nat → Nat} (hnp : np ≤ 20) (hz : z < np) (hE : ∀ i, i < ne → oe i < np ∧ ot i < np) (hhv : ∀ i, i < ne → hv i ≤ 1000000) (hco : ∀ i, i < ne → co i = hv i * 64 + 1) (hinn : ∀ i, i < np → inn i = !ib i) (h : ng_T ne z ib oe ot hv wo eo) (hD : dm_D np ne inn oe ot co D) : ∀ a, a < np → wo a = ng_wt D a z := by
  intro a ha
  have hF : dm_FAR = 1000000000000 := rfl
  have e := ng_T_D hnp hz hE hhv hco hinn h hD a ha
  unfold ng_wt
  cases hw : wo a with
  | none => rw [ng_F_n hw] at e; rw [if_pos e.symm]
  | some w =>
    obtain ⟨n, h1, h2, h3, h4⟩ := ng_V_get h.1 (show a < 20 by omega) hw
    rw [h4] at e
    rw [if_neg (by omega), ← e, show (w * 64 + n) / 64 = w by omega]
def fc_2 (W : Nat → Nat → Option Nat) (mn : Nat) (co bo : Nat → Option Nat) (j i : Nat) : Prop := (∀ a b, a < mn → b < mn → (b < j ∨ (b = j ∧ a < i)) → co (11 * a + b) = W a b) ∧ (∀ b, b < j → co (11 * b + 10) = none ∧ bo b = none)
theorem fc_2_in {W : Nat → Nat → Option Nat} {mn j i : Nat} {co bo : Nat → Option Nat} (hm : mn ≤ 10) (hi : i < mn) (hj : j < mn) (h : fc_2 W mn co bo j i) : fc_2 W mn (va_up co (11 * i + j) (W i j)) bo j (i + 1) := by
  refine ⟨fun a b ha hb hab => ?_, fun b hb => ?_⟩
  · by_cases q : 11 * a + b = 11 * i + j
    · have q1 : a = i := by omega
      have q2 : b = j := by omega
      subst q1 q2
      rw [va_up_self]
    · rw [va_up_ne _ _ q]
      refine h.1 a b ha hb ?_
      by_cases z : b = j
      · have : a ≠ i := fun z2 => q (by rw [z, z2])
        omega
      · omega
  · rw [va_up_ne _ _ (by omega)]; exact h.2 b hb
theorem fc_2_out {W : Nat → Nat → Option Nat} {mn j i : Nat} {co bo : Nat → Option Nat} (hm : mn ≤ 10) (hj : j < mn) (hi : mn ≤ i) (h : fc_2 W mn co bo j i) : fc_2 W mn (va_up co (11 * j + 10) none) (va_up bo j none) (j + 1) 0 := by
  refine ⟨fun a b ha hb hab => ?_, fun b hb => ?_⟩
  · rw [va_up_ne _ _ (by omega)]
    exact h.1 a b ha hb (by omega)
  · by_cases q : b = j
    · subst q; rw [va_up_self, va_up_self]; exact ⟨rfl, rfl⟩
    · rw [va_up_ne _ _ (by omega), va_up_ne _ _ q]; exact h.2 b (by omega)
def fc_wb (D : Nat → Nat → Nat) (p : Nat) (o : Option Nat) : Option Nat := o.map (fun y => D p y / 64)
def fc_3 (W : Nat → Nat → Option Nat) (ib : Nat → Bool) (D : Nat → Nat → Nat) (li : Nat → Nat) (mn : Nat) (co bo : Nat → Option Nat) (b i : Nat) : Prop := (∀ a c, a < mn → c < mn → co (11 * a + c) = W a c) ∧ ∀ a, a < mn → bo a = ng_nbD ib D (li a) (if a < i then b + 1 else b) ∧ co (11 * a + 10) = fc_wb D (li a) (bo a)
theorem fc_3_0 {W : Nat → Nat → Option Nat} {ib : Nat → Bool} {D : Nat → Nat → Nat} {li : Nat → Nat} {mn j : Nat} {co bo : Nat → Option Nat} (hj : mn ≤ j) (h : fc_2 W mn co bo j 0) : fc_3 W ib D li mn co bo 0 0 := by
  refine ⟨fun a c ha hc => h.1 a c ha hc (by omega), fun a ha => ?_⟩
  have := h.2 a (by omega)
  rw [this.1, this.2, if_neg (Nat.not_lt_zero _)]
  exact ⟨rfl, rfl⟩
theorem fc_3_sk {W : Nat → Nat → Option Nat} {ib : Nat → Bool} {D : Nat → Nat → Nat} {li : Nat → Nat} {mn b : Nat} {co bo : Nat → Option Nat} (hb : ib b = false) (h : fc_3 W ib D li mn co bo b 0) : fc_3 W ib D li mn co bo (b + 1) 0 := by
  refine ⟨h.1, fun a ha => ?_⟩
  have := h.2 a ha
  rw [if_neg (Nat.not_lt_zero _)] at this ⊢
  refine ⟨?_, this.2⟩
  rw [this.1, ng_nbD, if_neg (fun q => by rw [hb] at q; cases q.1)]
theorem fc_3_end {W : Nat → Nat → Option Nat} {ib : Nat → Bool} {D : Nat → Nat → Nat} {li : Nat → Nat} {mn b i : Nat} {co bo : Nat → Option Nat} (hi : mn ≤ i) (h : fc_3 W ib D li mn co bo b i) : fc_3 W ib D li mn co bo (b + 1) 0 := by
  refine ⟨h.1, fun a ha => ?_⟩
  have := h.2 a ha
  rw [if_pos (by omega)] at this
  rw [if_neg (Nat.not_lt_zero _)]
  exact this
theorem fc_3_no {W : Nat → Nat → Option Nat} {ib : Nat → Bool} {D : Nat → Nat → Nat} {li : Nat → Nat} {mn b i : Nat} {co bo : Nat → Option Nat} (hi : i < mn) (hn : ¬ (ib b = true ∧ D (li i) b ≠ dm_FAR ∧ (∀ y, ng_nbD ib D (li i) b = some y → D (li i) b / 64 < D (li i) y / 64))) (h : fc_3 W ib D li mn co bo b i) : fc_3 W ib D li mn co bo b (i + 1) := by
  refine ⟨h.1, fun a ha => ?_⟩
  have := h.2 a ha
  by_cases q : a = i
  · subst q
    rw [if_neg (Nat.lt_irrefl _)] at this
    rw [if_pos (by omega), ng_nbD, if_neg hn]
    exact this
  · by_cases z : a < i
    · rw [if_pos z] at this; rw [if_pos (by omega)]; exact this
    · rw [if_neg z] at this; rw [if_neg (by omega)]; exact this
theorem fc_3_up {W : Nat → Nat → Option Nat} {ib : Nat → Bool} {D : Nat → Nat → Nat} {li : Nat → Nat} {mn b i w : Nat} {co bo : Nat → Option Nat} (hm : mn ≤ 10) (hi : i < mn) (hw : w = D (li i) b / 64) (hn : ib b = true ∧ D (li i) b ≠ dm_FAR ∧ (∀ y, ng_nbD ib D (li i) b = some y → D (li i) b / 64 < D (li i) y / 64)) (h : fc_3 W ib D li mn co bo b i) : fc_3 W ib D li mn (va_up co (11 * i + 10) (some w)) (va_up bo i (some b)) b (i + 1) := by
  refine ⟨fun a c ha hc => ?_, fun a ha => ?_⟩
  · rw [va_up_ne _ _ (by omega)]; exact h.1 a c ha hc
  · have := h.2 a ha
    by_cases q : a = i
    · subst q
      rw [va_up_self, va_up_self, if_pos (by omega), ng_nbD, if_pos hn, hw]
      exact ⟨rfl, rfl⟩
    · rw [va_up_ne bo _ q, va_up_ne co _ (show 11 * a + 10 ≠ 11 * i + 10 by omega)]
      by_cases z : a < i
      · rw [if_pos z] at this; rw [if_pos (by omega)]; exact this
      · rw [if_neg z] at this; rw [if_neg (by omega)]; exact this
theorem ng_wt_some {D : Nat → Nat → Nat} {a z w : Nat} (h : ng_wt D a z = some w) : D a z ≠ dm_FAR ∧ w = D a z / 64 := by
  unfold ng_wt at h
  split at h
  · cases h
  · rename_i q
    cases h; exact ⟨q, rfl⟩
theorem ng_wt_none {D : Nat → Nat → Nat} {a z : Nat} (h : ng_wt D a z = none) : D a z = dm_FAR := by
  unfold ng_wt at h
  split at h
  · rename_i q; exact q
  · cases h
theorem fc_wb_n {D : Nat → Nat → Nat} {p : Nat} {o : Option Nat} (h : fc_wb D p o = none) : o = none := by
  cases o with
  | none => rfl
  | some y => cases h
theorem fc_wb_s {D : Nat → Nat → Nat} {p w : Nat} {o : Option Nat} (h : fc_wb D p o = some w) : ∃ y, o = some y ∧ w = D p y / 64 := by
  cases o with
  | none => cases h
  | some y => exact ⟨y, rfl, (Option.some.inj h).symm⟩
theorem ng_nbD_lt {ib : Nat → Bool} {D : Nat → Nat → Nat} {p : Nat} : ∀ {n y : Nat}, ng_nbD ib D p n = some y → y < n ∧ D p y ≠ dm_FAR ∧ ib y = true := by
  intro n
  induction n with
  | zero => intro y h; simp [ng_nbD] at h
  | succ n ih =>
    intro y h
    unfold ng_nbD at h
    split at h
    · rename_i q
      cases h
      exact ⟨by omega, q.2.1, q.1⟩
    · have := ih h
      exact ⟨by omega, this.2⟩
theorem fc_nb_lt {ib : Nat → Bool} {D : Nat → Nat → Nat} {p n y np : Nat} {o : Option Nat} (h : o = ng_nbD ib D p n) (hy : o = some y) (hn : n < np) : y < np := by
  have := (ng_nbD_lt (h.symm.trans hy)).1
  omega
theorem fc_bd {np ne : Nat} {inn : Nat → Bool} {oe ot hv : Nat → Nat} {D : Nat → Nat → Nat} (hnp : np ≤ 20) (hE : ∀ i, i < ne → oe i < np ∧ ot i < np) (hhv : ∀ i, i < ne → hv i ≤ 1000000) (h : dm_D np ne inn oe ot (fun e => hv e * 64 + 1) D) {a b : Nat} (ha : a < np) (hb : b < np) (q : D a b ≠ dm_FAR) : D a b ≤ 1300000000 := by
  have h1 := dm_bound (M := 64000001) hE (fun e he => ⟨Nat.succ_pos _, by have := hhv e he; show hv e * 64 + 1 ≤ 64000001; omega⟩) h _ a b ha hb q (Nat.le_refl _)
  have h2 : dm_rk np D a b ≤ 20 := Nat.le_trans dm_rk_le hnp
  have h3 : 64000001 * dm_rk np D a b ≤ 64000001 * 20 := Nat.mul_le_mul_left _ h2
  omega
def ng_cob (co : Nat → Option Nat) : Prop := ∀ k c, k < 110 → co k = some c → c ≤ 19000000
theorem ng_cob_up {co : Nat → Option Nat} {i : Nat} {x : Option Nat} (h : ng_cob co) (hx : ∀ c, x = some c → c ≤ 19000000) : ng_cob (va_up co i x) := by
  intro k c hk hc
  by_cases q : k = i
  · subst q; rw [va_up_self] at hc; exact hx c hc
  · rw [va_up_ne _ _ q] at hc; exact h k c hk hc
