/-! how long a lightest way can be -/
def dm_ct (P : Nat → Bool) : Nat → Nat
  | 0 => 0
  | n + 1 => dm_ct P n + (if P n = true then 1 else 0)
theorem dm_ct_le {P : Nat → Bool} : ∀ {n : Nat}, dm_ct P n ≤ n := by
  intro n
  induction n with
  | zero => exact Nat.le_refl _
  | succ n ih =>
    unfold dm_ct
    split <;> omega
theorem dm_ct_mono {P Q : Nat → Bool} : ∀ {n : Nat}, (∀ u, u < n → P u = true → Q u = true) → dm_ct P n ≤ dm_ct Q n := by
  intro n
  induction n with
  | zero => intro _; exact Nat.le_refl _
  | succ n ih =>
    intro h
    have h1 := ih (fun u hu => h u (by omega))
    have h2 := h n (by omega)
    unfold dm_ct
    by_cases q : P n = true
    · rw [if_pos q, if_pos (h2 q)]; omega
    · rw [if_neg q]
      split <;> omega
theorem dm_ct_lt {P Q : Nat → Bool} : ∀ {n x : Nat}, (∀ u, u < n → P u = true → Q u = true) → x < n → Q x = true → P x = false → dm_ct P n + 1 ≤ dm_ct Q n := by
  intro n
  induction n with
  | zero => intro x _ hx; omega
  | succ n ih =>
    intro x h hx hq hp
    have h2 := h n (by omega)
    unfold dm_ct
    by_cases z : x = n
    · subst z
      have h1 := dm_ct_mono (fun u hu => h u (by omega)) (n := x)
      rw [if_pos hq, if_neg (by rw [hp]; decide)]
      omega
    · have h1 := ih (fun u hu => h u (by omega)) (show x < n by omega) hq hp
      by_cases q : P n = true
      · rw [if_pos q, if_pos (h2 q)]; omega
      · rw [if_neg q]
        split <;> omega
def dm_rk (np : Nat) (D : Nat → Nat → Nat) (a b : Nat) : Nat := dm_ct (fun u => decide (D u b < D a b)) np
theorem dm_rk_lt {np : Nat} {D : Nat → Nat → Nat} {a x b : Nat} (hx : x < np) (h : D x b < D a b) : dm_rk np D x b + 1 ≤ dm_rk np D a b := by
  refine dm_ct_lt (x := x) (fun u hu q => ?_) hx (decide_eq_true h) (decide_eq_false (Nat.lt_irrefl _))
  exact decide_eq_true (Nat.lt_trans (of_decide_eq_true q) h)
theorem dm_rk_le {np : Nat} {D : Nat → Nat → Nat} {a b : Nat} : dm_rk np D a b ≤ np := dm_ct_le
theorem dm_bound {np ne M : Nat} {inn : Nat → Bool} {oe ot co : Nat → Nat} {D : Nat → Nat → Nat} (hE : ∀ e, e < ne → oe e < np ∧ ot e < np) (hco : ∀ e, e < ne → 0 < co e ∧ co e ≤ M) (h : dm_D np ne inn oe ot co D) : ∀ t a b, a < np → b < np → D a b ≠ dm_FAR → D a b ≤ t → D a b ≤ M * dm_rk np D a b := by
  intro t
  induction t with
  | zero =>
    intro a b ha hb hF hz
    rw [Nat.le_zero.mp hz]; exact Nat.zero_le _
  | succ t ih =>
    intro a b ha hb hF ht
    by_cases hab : a = b
    · subst hab; rw [h.1 a ha]; exact Nat.zero_le _
    · obtain ⟨e, x, he, hi, hx, hd⟩ := h.2.2.2 a b ha hb hab hF
      have h3 := hco e he
      have hxl := (dm_inc_lt hE he hi).2
      have hle := h.2.1 a b ha hb
      have h4 := ih x b hxl hb (by omega) (by omega)
      have h5 := dm_rk_lt (np := np) (D := D) (a := a) (x := x) (b := b) hxl (by omega)
      have h6 : M * (dm_rk np D x b + 1) ≤ M * dm_rk np D a b := Nat.mul_le_mul_left _ h5
      rw [Nat.mul_add, Nat.mul_one] at h6
      omega
theorem ng_M_D {np ne : Nat} {bd : Int32} {er : Int64} {oe ot wt ct : Nat → Nat} (hE : ∀ i, i < ne → oe i < np ∧ ot i < np) (h : ng_M np ne bd er oe ot wt ct) : dm_D np ne (fun k => !nb_t bd k) oe ot (fun e => ng_w er wt e * 64 + 1) (fun a b => ct (a * 20 + b)) := dm_end hE h.1
theorem ng_M_cf {np ne : Nat} {bd : Int32} {er : Int64} {oe ot wt ct : Nat → Nat} (hnp : np ≤ 20) (hE : ∀ i, i < ne → oe i < np ∧ ot i < np) (hW : ∀ i, i < ne → ng_w er wt i ≤ 1000000) (h : ng_M np ne bd er oe ot wt ct) : ∀ a b, a < np → b < np → ct (a * 20 + b) = dm_FAR ∨ ct (a * 20 + b) ≤ 1300000000 := by
  intro a b ha hb
  by_cases q : ct (a * 20 + b) = dm_FAR
  · exact Or.inl q
  · refine Or.inr ?_
    have h1 := dm_bound (M := 64000001) hE (fun e he => ⟨Nat.succ_pos _, by have := hW e he; show ng_w er wt e * 64 + 1 ≤ 64000001; omega⟩) (ng_M_D hE h) _ a b ha hb q (Nat.le_refl _)
    have h2 : dm_rk np (fun a b => ct (a * 20 + b)) a b ≤ 20 := Nat.le_trans dm_rk_le hnp
    have h3 : 64000001 * dm_rk np (fun a b => ct (a * 20 + b)) a b ≤ 64000001 * 20 := Nat.mul_le_mul_left _ h2
    have h1 : ct (a * 20 + b) ≤ 64000001 * dm_rk np (fun a b => ct (a * 20 + b)) a b := h1
    omega
def ng_pth (bd : Int32) (er : Int64) (oe ot wt ct : Nat → Nat) (ne a b : Nat) : List Nat := ng_path (ng_nxt bd er oe ot wt ct ne (max a b)) (max a b) 20 (min a b)
def ng_way (ct : Nat → Nat) (l : List Nat) (a b : Nat) (x : Int32) : Int32 := if ct (a * 20 + b) = dm_FAR then -1 else if x = 0 then nI (ct (a * 20 + b) / 64) else if x = nI 1 then nI l.length else ng_te l.length (fun i => l.getD i 0) (x - nI 2) (decide (b < a))
theorem ng_te_l {l : List Nat} {tr : Nat → Nat} {x : Int32} {b : Bool} (hl : l.length < 2 ^ 31) (h : ∀ i, i < l.length → l[i]? = some (tr i)) : ng_te l.length tr x b = ng_te l.length (fun i => l.getD i 0) x b := by
  unfold ng_te
  by_cases q : nb_in l.length x = true
  · rw [if_pos q, if_pos q]
    obtain ⟨j, hj, rfl⟩ := nb_inI_of hl q
    rw [nI_clamp (by omega)]
    have e : ∀ i, i < l.length → l.getD i 0 = tr i := fun i hi => by rw [List.getD_eq_getElem?_getD, h i hi]; rfl
    show (if b = true then nI (tr (l.length - 1 - j)) else nI (tr j)) = (if b = true then nI (l.getD (l.length - 1 - j) 0) else nI (l.getD j 0))
    rw [e _ (by omega), e _ hj]
  · rw [if_neg q, if_neg q]
