/-! groups: the recurrence of least weights and counts -/
theorem ng_fst_none {P : Nat → Bool} : ∀ {n i : Nat}, ng_fst P n i = none → ∀ k, i ≤ k → k < i + n → P k = false := by
  intro n
  induction n with
  | zero => intro i h k h1 h2; omega
  | succ n ih =>
    intro i h k h1 h2
    unfold ng_fst at h
    split at h
    · cases h
    · rename_i hp
      by_cases q : k = i
      · subst q; simpa using hp
      · exact ih h k (by omega) (by omega)
theorem ng_fst_min {P : Nat → Bool} : ∀ {n i k : Nat}, ng_fst P n i = some k → ∀ j, i ≤ j → j < k → P j = false := by
  intro n
  induction n with
  | zero => intro i k h; simp [ng_fst] at h
  | succ n ih =>
    intro i k h j h1 h2
    unfold ng_fst at h
    split at h
    · cases h; omega
    · rename_i hp
      by_cases q : j = i
      · subst q; simpa using hp
      · exact ih h j (by omega) h2
theorem ng_lp_ok {rl g : Nat} (h0 : 0 < g) (hg : g < 2 ^ rl) (hr : rl ≤ 10) : ng_lp rl g < rl ∧ g.testBit (ng_lp rl g) = true ∧ ∀ j, j < ng_lp rl g → g.testBit j = false := by
  have hr0 : 0 < rl := by
    rcases Nat.eq_zero_or_pos rl with q | q
    · subst q; simp at hg; omega
    · exact q
  have hp : 2 ^ rl ≤ 2 ^ 10 := Nat.pow_le_pow_right (by decide) hr
  have hg32 : g < 2 ^ 32 := by omega
  unfold ng_lp
  cases hf : ng_fst (fun p => nb_t (nI g) p) (rl - 1) 0 with
  | some k =>
    obtain ⟨h1, h2, -⟩ := ng_fst_ok hf
    have h3 := ng_fst_min hf
    refine ⟨?_, ?_, fun j hj => ?_⟩
    · show k < rl; omega
    · show g.testBit k = true
      rw [← ng_tb hg32]; exact h1
    · rw [← ng_tb hg32]; exact h3 j (Nat.zero_le _) hj
  | none =>
    have h3 := ng_fst_none hf
    have hz : ∀ j, j < rl - 1 → g.testBit j = false := fun j hj => by
      rw [← ng_tb hg32]; exact h3 j (Nat.zero_le _) (by omega)
    refine ⟨?_, ?_, fun j hj => hz j hj⟩
    · show rl - 1 < rl; omega
    · show g.testBit (rl - 1) = true
      cases hb : g.testBit (rl - 1) with
      | true => rfl
      | false =>
        exfalso
        have : g = 0 := by
          apply Nat.eq_of_testBit_eq
          intro j
          rw [Nat.zero_testBit]
          rcases Nat.lt_or_ge j (rl - 1) with q | q
          · exact hz j q
          · by_cases q2 : j = rl - 1
            · rw [q2]; exact hb
            · exact Nat.testBit_lt_two_pow (Nat.lt_of_lt_of_le hg (Nat.pow_le_pow_right (by decide) (by omega)))
        omega
theorem ng_sg_congr {pw lw lw' lc lc' : Nat → Nat} {g pl : Nat} : ∀ {n : Nat}, (∀ pa, lw (ng_wo g pl pa) = lw' (ng_wo g pl pa)) → (∀ pa, lc (ng_wo g pl pa) = lc' (ng_wo g pl pa)) → ng_sg pw lw lc g pl n = ng_sg pw lw' lc' g pl n := by
  intro n h1 h2
  induction n with
  | zero => rfl
  | succ n ih =>
    unfold ng_sg
    rw [ih, h2]
    have e : ng_ww pw lw g pl (pl + n) = ng_ww pw lw' g pl (pl + n) := by
      unfold ng_ww; rw [h1]
    rw [e]
/-- the groups below k are solved -/
def ng_gr (rl : Nat) (pw lw lc : Nat → Nat) (k : Nat) : Prop := lw 0 = 0 ∧ lc 0 = 1 ∧ (∀ i, i < 1024 → lw i ≤ ng_F1) ∧ ∀ g, 0 < g → g < k → lw g = (ng_sg pw lw lc g (ng_lp rl g) (rl - ng_lp rl g)).1 ∧ lc g = (ng_sg pw lw lc g (ng_lp rl g) (rl - ng_lp rl g)).2
theorem ng_wo_eq0 {g a b : Nat} (hg : g < 2 ^ 31) (ha : 32 ≤ b) (h : a < 32) : True := trivial
theorem ng_gr_step {rl : Nat} {pw lw lc : Nat → Nat} {k : Nat} (hr : rl ≤ 10) (h0 : 0 < k) (hk : k < 2 ^ rl) (hpw : ∀ i, i < 100 → pw i ≤ ng_F1) (h : ng_gr rl pw lw lc k) : ng_gr rl pw (va_up lw k (ng_sg pw lw lc k (ng_lp rl k) (rl - ng_lp rl k)).1) (va_up lc k (ng_sg pw lw lc k (ng_lp rl k) (rl - ng_lp rl k)).2) (k + 1) := by
  obtain ⟨h1, h2, h3, h4⟩ := h
  obtain ⟨p1, p2, -⟩ := ng_lp_ok h0 hk hr
  have hp : 2 ^ rl ≤ 2 ^ 10 := Nat.pow_le_pow_right (by decide) hr
  have hsb := ng_sg_b (pw := pw) (lw := lw) (lc := lc) (g := k) (pl := ng_lp rl k) hpw h3 (show k < 1024 by omega) (by omega) (show ng_lp rl k + (rl - ng_lp rl k) ≤ 10 by omega)
  refine ⟨?_, ?_, ng_up1 h3 hsb, fun g g0 gk => ?_⟩
  · rw [va_up_ne _ _ (by omega)]; exact h1
  · rw [va_up_ne _ _ (by omega)]; exact h2
  · have hgl : g < 2 ^ 31 := by omega
    have key : ∀ pa, ng_wo g (ng_lp rl g) pa ≠ k := by
      intro pa q
      by_cases z : g = k
      · subst z
        have hle := ng_wo_le (g := g) (a := ng_lp rl g) (b := pa) hgl
        by_cases hpa : pa < 32
        · exact ng_wo_ne hgl (by omega) hpa p2 q
        · have e : (ng_wo g (ng_lp rl g) pa).testBit (ng_lp rl g) = false := by
            unfold ng_wo
            have e2 : nb_t (nI g &&& ((nb_o (ng_lp rl g) ||| nb_o pa) ^^^ (-1))) (ng_lp rl g) = false := by
              rw [nb_bt_and, nb_bt_xor, nb_bt_or, nb_bt_b1 (show ng_lp rl g < 32 by omega), nb_bt_m1 _ (show ng_lp rl g < 32 by omega)]
              simp
            exact e2
          rw [q, p2] at e
          cases e
      · have hle := ng_wo_le (g := g) (a := ng_lp rl g) (b := pa) hgl
        omega
    have e : ng_sg pw (va_up lw k (ng_sg pw lw lc k (ng_lp rl k) (rl - ng_lp rl k)).1) (va_up lc k (ng_sg pw lw lc k (ng_lp rl k) (rl - ng_lp rl k)).2) g (ng_lp rl g) (rl - ng_lp rl g) = ng_sg pw lw lc g (ng_lp rl g) (rl - ng_lp rl g) :=
      ng_sg_congr (fun pa => va_up_ne _ _ (key pa)) (fun pa => va_up_ne _ _ (key pa))
    rw [e]
    by_cases z : g = k
    · subst z
      rw [va_up_self, va_up_self]; exact ⟨rfl, rfl⟩
    · rw [va_up_ne _ _ z, va_up_ne _ _ z]
      exact h4 g g0 (by omega)
/-- attained: a group with a pairing has a partner that gives its least weight -/
theorem ng_sg_att {pw lw lc : Nat → Nat} {g pl : Nat} : ∀ {n : Nat}, (ng_sg pw lw lc g pl n).1 ≠ ng_F1 → ∃ pa, pl ≤ pa ∧ pa < pl + n ∧ nb_t (nI g) pa = true ∧ ng_ww pw lw g pl pa = (ng_sg pw lw lc g pl n).1 := by
  intro n
  induction n with
  | zero => intro h; exact absurd rfl h
  | succ n ih =>
    intro h
    have e : ng_sg pw lw lc g pl (n + 1) = if nb_t (nI g) (pl + n) = true then ng_wq (ng_sg pw lw lc g pl n) (ng_ww pw lw g pl (pl + n)) (lc (ng_wo g pl (pl + n))) else ng_sg pw lw lc g pl n := rfl
    by_cases hb : nb_t (nI g) (pl + n) = true
    · rw [if_pos hb] at e
      by_cases hw : ng_ww pw lw g pl (pl + n) < (ng_sg pw lw lc g pl n).1
      · have e2 : (ng_sg pw lw lc g pl (n + 1)).1 = ng_ww pw lw g pl (pl + n) := by rw [e]; unfold ng_wq; rw [if_pos hw]
        exact ⟨pl + n, by omega, by omega, hb, e2.symm⟩
      · have e2 : (ng_sg pw lw lc g pl (n + 1)).1 = (ng_sg pw lw lc g pl n).1 := by
          rw [e]; unfold ng_wq; rw [if_neg hw]; split <;> rfl
        rw [e2] at h ⊢
        obtain ⟨pa, q1, q2, q3, q4⟩ := ih h
        exact ⟨pa, q1, by omega, q3, q4⟩
    · rw [if_neg hb] at e
      rw [e] at h ⊢
      obtain ⟨pa, q1, q2, q3, q4⟩ := ih h
      exact ⟨pa, q1, by omega, q3, q4⟩
theorem ng_fp_ok {rl : Nat} {pw lw lc : Nat → Nat} {g pl : Nat} (hpl : pl < rl) (hb : nb_t (nI g) pl = true) (h : lw g = (ng_sg pw lw lc g pl (rl - pl)).1) (hF : lw g ≠ ng_F1) : pl ≤ ng_fp rl pw lw g pl ∧ ng_fp rl pw lw g pl < rl ∧ nb_t (nI g) (ng_fp rl pw lw g pl) = true ∧ ng_ww pw lw g pl (ng_fp rl pw lw g pl) = lw g := by
  unfold ng_fp
  cases hf : ng_fst (fun p => nb_t (nI g) p && decide (ng_ww pw lw g pl p = lw g)) (rl - (pl + 1)) (pl + 1) with
  | some k =>
    obtain ⟨h1, h2, h3⟩ := ng_fst_ok hf
    simp only [Bool.and_eq_true, decide_eq_true_eq] at h1
    exact ⟨by show pl ≤ k; omega, by show k < rl; omega, h1.1, h1.2⟩
  | none =>
    have h3 := ng_fst_none hf
    refine ⟨Nat.le_refl _, hpl, hb, ?_⟩
    obtain ⟨pa, q1, q2, q3, q4⟩ := ng_sg_att (pw := pw) (lw := lw) (lc := lc) (g := g) (pl := pl) (n := rl - pl) (by rw [← h]; exact hF)
    by_cases z : pa = pl
    · subst z; show ng_ww pw lw g pa pa = lw g; rw [h]; exact q4
    · have h4 := h3 pa (by omega) (by omega)
      rw [q3, Bool.true_and] at h4
      exact absurd (q4.trans h.symm) (by simpa using h4)
theorem ng_ww_fin {pw lw : Nat → Nat} {g pl pa : Nat} (h : ng_ww pw lw g pl pa ≠ ng_F1) : pw (pl * 10 + pa) ≠ ng_F1 ∧ lw (ng_wo g pl pa) ≠ ng_F1 ∧ ng_ww pw lw g pl pa = pw (pl * 10 + pa) + lw (ng_wo g pl pa) := by
  unfold ng_ww at h ⊢
  split at h
  · exact absurd rfl h
  · rename_i hq
    rw [if_neg hq]
    exact ⟨fun z => hq (Or.inl z), fun z => hq (Or.inr z), rfl⟩
theorem ng_pv_some {ct row : Nat → Nat} {nr : Nat → Option Nat} {a b : Nat} (h : ng_pv ct row nr a b ≠ ng_F1) : ∃ y, ng_pt row nr a b = some y ∧ ct (row a * 20 + y) ≠ dm_FAR ∧ ng_pv ct row nr a b = ct (row a * 20 + y) / 64 := by
  unfold ng_pv at h ⊢
  cases hp : ng_pt row nr a b with
  | none => rw [hp] at h; exact absurd rfl h
  | some y =>
    rw [hp] at h
    show ∃ y', some y = some y' ∧ ct (row a * 20 + y') ≠ dm_FAR ∧ (if ct (row a * 20 + y) = dm_FAR then ng_F1 else ct (row a * 20 + y) / 64) = ct (row a * 20 + y') / 64
    have h : (if ct (row a * 20 + y) = dm_FAR then ng_F1 else ct (row a * 20 + y) / 64) ≠ ng_F1 := h
    split at h
    · exact absurd rfl h
    · rename_i hq
      exact ⟨y, rfl, hq, if_neg hq⟩
def ng_tf (rl : Nat) (pw lw : Nat → Nat) : Nat → Nat → Nat → List (Nat × Nat)
  | 0, _, _ => []
  | n + 1, i, g => if nb_t (nI g) i = true then (i, ng_fp rl pw lw g i) :: ng_tf rl pw lw n (i + 1) (ng_wo g i (ng_fp rl pw lw g i)) else ng_tf rl pw lw n (i + 1) g
def ng_lset (l : List Nat) : Int64 := l.foldl (fun s k => s ||| nb_p k) (lN 0)
theorem ng_set_l {tr : Nat → Nat} {l : List Nat} : ∀ {n : Nat}, n ≤ l.length → (∀ i, i < l.length → l[i]? = some (tr i)) → ng_set tr n = ng_lset (l.take n) := by
  intro n
  induction n with
  | zero => intro _ _; rfl
  | succ n ih =>
    intro hn h
    have h1 : l.take (n + 1) = l.take n ++ [tr n] := by
      rw [List.take_add_one, h n (by omega)]; rfl
    rw [h1]
    unfold ng_lset
    rw [List.foldl_append]
    show ng_set tr n ||| nb_p (tr n) = _
    rw [ih (by omega) h]
    rfl
theorem ng_set_eq {tr : Nat → Nat} {l : List Nat} (h : ∀ i, i < l.length → l[i]? = some (tr i)) : ng_set tr l.length = ng_lset l := by
  have := ng_set_l (Nat.le_refl l.length) h
  rwa [List.take_length] at this
