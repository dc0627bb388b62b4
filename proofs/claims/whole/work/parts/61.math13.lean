/-! the search's sum at a row of partners is the class's least weight and count of the free places -/
def ng_qq (i p : Nat) : Nat := if p = i then 10 else p
def ng_cmp (mn : Nat) (pw lw : Nat → Nat) : Nat → (Nat → Option Nat) → Nat → (Nat → Option Nat)
  | 0, pr, _ => pr
  | f + 1, pr, g => if ng_ff pr mn = mn then pr else ng_cmp mn pw lw f (ng_s2 pr (ng_ff pr mn) (ng_qq (ng_ff pr mn) (ng_fp mn pw lw g (ng_ff pr mn)))) (ng_wo g (ng_ff pr mn) (ng_fp mn pw lw g (ng_ff pr mn)))
theorem ng_hw_s2 {i j c : Nat} {pr co : Nat → Option Nat} (hij : i < j) (hi : pr i = none) (hj : j < 10 → pr j = none) (hc : co (11 * i + j) = some c) : ∀ n, n ≤ 10 → ng_hw (ng_s2 pr i j) co n = ng_hw pr co n + if i < n then c else 0 := by
  intro n
  induction n with
  | zero => intro _; rfl
  | succ n ih =>
    intro hn
    have ih := ih (by omega)
    have hv := ng_s2_v (pr := pr) (k := n) (Nat.ne_of_lt hij)
    by_cases h1 : n = i
    · subst h1
      rw [if_pos rfl] at hv
      rw [ng_hw_s hv hij hc, ih, if_neg (by omega), if_pos (by omega)]
      conv => rhs; rw [ng_hw, hi]
      show ng_hw pr co n + 0 + c = ng_hw pr co n + c
      rw [Nat.add_zero]
    · rw [if_neg h1] at hv
      have hif : (if i < n + 1 then c else 0) = if i < n then c else 0 := by
        by_cases z : i < n
        · rw [if_pos z, if_pos (by omega)]
        · rw [if_neg z, if_neg (by omega)]
      rw [hif]
      by_cases h2 : n = j ∧ j < 10
      · rw [if_pos h2] at hv
        obtain ⟨h2, h3⟩ := h2
        subst h2
        rw [ng_hw_l hv (by omega), ih]
        conv => rhs; rw [ng_hw, hj h3]
      · rw [if_neg h2] at hv
        unfold ng_hw
        rw [hv, ih]
        cases pr n with
        | none => rfl
        | some x =>
          dsimp only
          split <;> omega
theorem ng_may_no {mn i j : Nat} {pr co : Nat → Option Nat} (h10 : j ≠ 10) (h : ¬ (j < mn ∧ pr j = none)) : ng_may mn pr co i j = false := by
  unfold ng_may
  rw [if_neg h10]
  by_cases z : j < mn
  · cases hp : pr j with
    | none => exact absurd ⟨z, hp⟩ h
    | some x => simp
  · simp [z]
theorem ng_may_co {mn i j : Nat} {pr co : Nat → Option Nat} (h : j = 10 ∨ (j < mn ∧ pr j = none)) : ng_may mn pr co i j = (co (11 * i + j)).isSome := by
  unfold ng_may
  by_cases z : j = 10
  · rw [if_pos z, z]
  · rcases h with h | ⟨h1, h2⟩
    · exact absurd h z
    · rw [if_neg z, h2]
      simp [h1]
/-- the items from t on, summed -/
theorem ng_er_sm {mn i g f B : Nat} {pw lw lc : Nat → Nat} {co pr : Nat → Option Nat} {P : Nat → Nat → Option Nat} (hmn : mn ≤ 10) (hi : i < mn) (hg : g < 2 ^ mn) (hb : ∀ k, k < mn → g.testBit k = (pr k).isNone)
    (hI : ∀ p, i ≤ p → p < mn → g.testBit p = true → ng_ww pw lw g i p ≤ ng_F1 ∧ ng_sm mn co (if ng_may mn pr co i (ng_qq i p) = true then ng_en mn co f (ng_s2 pr i (ng_qq i p)) else []) = ng_cl B (ng_ww pw lw g i p, lc (ng_wo g i p)) (P p)) (hbi : g.testBit i = true) :
    ∀ (d t : Nat), t + d = 9 → i ≤ t → ng_sm mn co (ng_er mn co f pr i t) = ng_cl B (ng_wq (ng_tw pw lw lc g i (mn - (t + 1)) (t + 1)) (ng_nm (ng_ww pw lw g i i) (lc (ng_wo g i i))).1 (ng_nm (ng_ww pw lw g i i) (lc (ng_wo g i i))).2) (P ((ng_fst (fun p => nb_t (nI g) p && decide (ng_ww pw lw g i p = (ng_wq (ng_tw pw lw lc g i (mn - (t + 1)) (t + 1)) (ng_nm (ng_ww pw lw g i i) (lc (ng_wo g i i))).1 (ng_nm (ng_ww pw lw g i i) (lc (ng_wo g i i))).2).1)) (mn - (t + 1)) (t + 1)).getD i)) := by
  have hg32 : g < 2 ^ 32 := Nat.lt_of_lt_of_le hg (Nat.pow_le_pow_right (by decide) (by omega))
  obtain ⟨hwi, hsi⟩ := hI i (Nat.le_refl _) hi hbi
  have hnb := ng_nn_nm (ng_ww pw lw g i i) (lc (ng_wo g i i))
  generalize hbb : ng_nm (ng_ww pw lw g i i) (lc (ng_wo g i i)) = b at hnb ⊢
  intro d
  induction d with
  | zero =>
    intro t ht hit
    obtain rfl : t = 9 := by omega
    rw [ng_er_c (by decide), ng_er_e (by decide), List.append_nil, show mn - (9 + 1) = 0 by omega]
    have e0 : ng_wq (ng_tw pw lw lc g i 0 (9 + 1)) b.1 b.2 = b := by
      show ng_wq (ng_F1, 0) b.1 b.2 = b
      have h1 := ng_wq_comm ng_nn_0 hnb
      rw [h1]
      exact ng_wq_0 hnb
    rw [e0]
    have e1 : ng_qq i i = 9 + 1 := by unfold ng_qq; rw [if_pos rfl]
    rw [e1] at hsi
    rw [hsi]
    show _ = ng_cl B b (P i)
    by_cases z : ng_ww pw lw g i i = ng_F1
    · rw [ng_nm_ge (by omega)] at hbb
      rw [ng_cl_n z, ← hbb, ng_cl_n rfl]
    · rw [ng_nm_lt (by omega)] at hbb
      rw [← hbb]
  | succ d ih =>
    intro t ht hit
    have ih := ih (t + 1) (by omega) (by omega)
    rw [ng_er_c (by omega), ng_sm_app, ih]
    have hnt := ng_nn_tw (pw := pw) (lw := lw) (lc := lc) (g := g) (pl := i) (mn - (t + 1 + 1)) (t + 1 + 1)
    by_cases hj : t + 1 < mn
    · rw [show mn - (t + 1) = (mn - (t + 1 + 1)) + 1 by omega]
      have htb := ng_tb (k := t + 1) hg32
      cases hbt : g.testBit (t + 1) with
      | false =>
        rw [hbt] at htb
        have hp : ¬ (t + 1 < mn ∧ pr (t + 1) = none) := by
          rintro ⟨h1, h2⟩
          have := hb _ h1
          rw [hbt, h2] at this
          cases this
        rw [if_neg (by rw [ng_may_no (by omega) hp]; decide)]
        show ng_mo none _ = _
        rw [ng_tw, if_neg (by rw [htb]; decide), ng_fst, if_neg (by rw [htb]; simp)]
        rfl
      | true =>
        rw [hbt] at htb
        obtain ⟨hw1, hs1⟩ := hI (t + 1) (by omega) hj hbt
        have e1 : ng_qq i (t + 1) = t + 1 := by unfold ng_qq; rw [if_neg (by omega)]
        rw [e1] at hs1
        rw [hs1, ng_cl_m hw1 (ng_nn_wq hnt), ng_tw, if_pos htb, ng_wq_assoc (ng_nn_nm _ _) hnt hnb, ng_fst]
        generalize hv : ng_wq (ng_nm (ng_ww pw lw g i (t + 1)) (lc (ng_wo g i (t + 1)))) (ng_wq (ng_tw pw lw lc g i (mn - (t + 1 + 1)) (t + 1 + 1)) b.1 b.2).1 (ng_wq (ng_tw pw lw lc g i (mn - (t + 1 + 1)) (t + 1 + 1)) b.1 b.2).2 = v
        by_cases z : ng_ww pw lw g i (t + 1) = v.1
        · rw [if_pos z, if_pos (by rw [htb, z]; simp)]
          rfl
        · rw [if_neg z, if_neg (by rw [htb]; simp [z])]
          have hvv : v.1 = (ng_wq (ng_tw pw lw lc g i (mn - (t + 1 + 1)) (t + 1 + 1)) b.1 b.2).1 := by
            generalize ng_wq (ng_tw pw lw lc g i (mn - (t + 1 + 1)) (t + 1 + 1)) b.1 b.2 = y at hv ⊢
            by_cases q : ng_ww pw lw g i (t + 1) < ng_F1
            · rw [ng_nm_lt q] at hv
              unfold ng_wq at hv
              dsimp only at hv
              by_cases c1 : y.1 < ng_ww pw lw g i (t + 1)
              · rw [if_pos c1] at hv
                rw [← hv]
              · rw [if_neg c1] at hv
                by_cases c2 : y.1 = ng_ww pw lw g i (t + 1) ∧ y.1 ≠ ng_F1
                · rw [if_pos c2] at hv
                  rw [← hv]
                  exact c2.1.symm
                · rw [if_neg c2] at hv
                  rw [← hv] at z
                  exact absurd rfl z
            · rw [ng_nm_ge (by omega)] at hv
              unfold ng_wq at hv
              dsimp only at hv
              by_cases c1 : y.1 < ng_F1
              · rw [if_pos c1] at hv
                rw [← hv]
              · rw [if_neg c1, if_neg (by omega)] at hv
                rw [← hv] at z
                exact absurd (by dsimp only; omega) z
          rw [hvv]
    · rw [show mn - (t + 1) = 0 by omega, show mn - (t + 1 + 1) = 0 by omega, if_neg (by rw [ng_may_no (by omega) (fun q => hj q.1)]; decide)]
      rfl
theorem ng_main {mn : Nat} {pw lw lc : Nat → Nat} {co : Nat → Option Nat} (hmn : mn ≤ 10) (hgr : ng_gr mn pw lw lc (2 ^ mn)) (hpw : ∀ a b, a < b → b < mn → pw (a * 10 + b) = (co (11 * a + b)).getD ng_F1) (hpb : ∀ a, a < mn → pw (a * 10 + a) = (co (11 * a + 10)).getD ng_F1) (hcb : ng_cob co) :
    ∀ (f : Nat) (pr : Nat → Option Nat) (g : Nat), f ≤ 10 → g < 2 ^ mn → (∀ k, k < mn → g.testBit k = (pr k).isNone) → (∀ k, k + f < mn → pr k ≠ none) →
      ng_sm mn co (ng_en mn co f pr) = ng_cl (ng_hw pr co mn) (lw g, lc g) (ng_cmp mn pw lw f pr g) ∧ (lw g = ng_F1 ∨ lw g ≤ 19000000 * f) := by
  have hfin : ∀ (pr : Nat → Option Nat) (g : Nat), g < 2 ^ mn → (∀ k, k < mn → g.testBit k = (pr k).isNone) → (∀ k, k < mn → pr k ≠ none) → g = 0 := by
    intro pr g hg hb hn
    refine Nat.eq_of_testBit_eq (fun k => ?_)
    rw [Nat.zero_testBit]
    by_cases hk : k < mn
    · rw [hb k hk]
      cases hp : pr k with
      | none => exact absurd hp (hn k hk)
      | some x => rfl
    · exact Nat.testBit_lt_two_pow (Nat.lt_of_lt_of_le hg (Nat.pow_le_pow_right (by decide) (by omega)))
  have hF0 : (0 : Nat) ≠ ng_F1 := by unfold ng_F1; decide
  have hdone : ∀ (pr : Nat → Option Nat) (g : Nat), g = 0 → ng_sm mn co [pr] = ng_cl (ng_hw pr co mn) (lw g, lc g) pr ∧ lw g = 0 := by
    intro pr g hg
    subst hg
    rw [hgr.1, hgr.2.1, ng_cl_s hF0]
    exact ⟨rfl, rfl⟩
  intro f
  induction f with
  | zero =>
    intro pr g _ hg hb hn
    obtain ⟨h1, h2⟩ := hdone pr g (hfin pr g hg hb (fun k hk => hn k (by omega)))
    exact ⟨h1, Or.inr (by rw [h2]; omega)⟩
  | succ f ih =>
    intro pr g hf hg hb hn
    by_cases hff : ng_ff pr mn = mn
    · obtain ⟨h1, h2⟩ := hdone pr g (hfin pr g hg hb (ng_ff_mn hff))
      rw [ng_en_1 hff, ng_cmp, if_pos hff]
      exact ⟨h1, Or.inr (by rw [h2]; omega)⟩
    · obtain ⟨hi, hpi, hlt⟩ := ng_ff_lt hff
      rw [ng_en_r hff, ng_cmp, if_neg hff]
      generalize hie : ng_ff pr mn = i at hi hpi hlt ⊢
      have hg31 : g < 2 ^ 31 := Nat.lt_of_lt_of_le hg (Nat.pow_le_pow_right (by decide) (by omega))
      have hbi : g.testBit i = true := by rw [hb i hi, hpi]; rfl
      have hg0 : 0 < g := by
        rcases Nat.eq_zero_or_pos g with z | z
        · rw [z, Nat.zero_testBit] at hbi
          cases hbi
        · exact z
      have hlp : ng_lp mn g = i := by
        obtain ⟨q1, q2, q3⟩ := ng_lp_ok hg0 hg hmn
        rcases Nat.lt_trichotomy (ng_lp mn g) i with z | z | z
        · have := hb _ q1
          rw [q2] at this
          have h2 := hlt _ z
          cases hp : pr (ng_lp mn g) with
          | none => exact absurd hp h2
          | some x => rw [hp] at this; cases this
        · exact z
        · have := q3 i z
          rw [hbi] at this
          cases this
      obtain ⟨hlw, hlc⟩ := hgr.2.2.2 g hg0 hg
      rw [hlp] at hlw hlc
      have hif : mn ≤ i + (f + 1) := by
        refine Nat.not_lt.mp (fun z => hn i z hpi)
      -- an item
      have hit : ∀ p, i ≤ p → p < mn → g.testBit p = true → (ng_ww pw lw g i p = ng_F1 ∨ ng_ww pw lw g i p ≤ 19000000 * (f + 1)) ∧ ng_sm mn co (if ng_may mn pr co i (ng_qq i p) = true then ng_en mn co f (ng_s2 pr i (ng_qq i p)) else []) = ng_cl (ng_hw pr co mn) (ng_ww pw lw g i p, lc (ng_wo g i p)) (ng_cmp mn pw lw f (ng_s2 pr i (ng_qq i p)) (ng_wo g i p)) := by
        intro p hip hp hbp
        have hqj : i < ng_qq i p ∧ ng_qq i p ≤ 10 ∧ (ng_qq i p = 10 ∨ (ng_qq i p < mn ∧ pr (ng_qq i p) = none)) ∧ pw (i * 10 + p) = (co (11 * i + ng_qq i p)).getD ng_F1 ∧ (ng_qq i p < 10 → ng_qq i p = p) ∧ (ng_qq i p = 10 → p = i) := by
          unfold ng_qq
          by_cases z : p = i
          · rw [if_pos z]
            subst z
            exact ⟨by omega, by omega, Or.inl rfl, hpb p hp, fun z => absurd z (by omega), fun _ => rfl⟩
          · rw [if_neg z]
            refine ⟨by omega, by omega, Or.inr ⟨hp, ?_⟩, hpw i p (by omega) hp, fun _ => rfl, fun z => by omega⟩
            have := hb p hp
            rw [hbp] at this
            cases hq : pr p with
            | none => rfl
            | some x => rw [hq] at this; cases this
        obtain ⟨hj1, hj2, hj3, hj4, hj5, hj6⟩ := hqj
        generalize hje : ng_qq i p = j at hj1 hj2 hj3 hj4 hj5 hj6 ⊢
        have hmay := ng_may_co (co := co) (i := i) hj3
        cases hc : co (11 * i + j) with
        | none =>
          rw [hc] at hmay hj4
          have hj4 : pw (i * 10 + p) = ng_F1 := hj4
          have hw : ng_ww pw lw g i p = ng_F1 := by
            unfold ng_ww
            rw [if_pos (Or.inl hj4)]
          refine ⟨Or.inl hw, ?_⟩
          rw [if_neg (by rw [hmay]; decide), ng_cl_n (v := (ng_ww pw lw g i p, lc (ng_wo g i p))) hw]
          rfl
        | some c =>
          rw [hc] at hmay hj4
          have hcle : c ≤ 19000000 := hcb _ c (by omega) hc
          have hcF : c ≠ ng_F1 := by unfold ng_F1; omega
          have hj4 : pw (i * 10 + p) = c := hj4
          have hwo : ng_wo g i p < 2 ^ mn := Nat.lt_of_le_of_lt (ng_wo_le hg31) hg
          obtain ⟨ih1, ih2⟩ := ih (ng_s2 pr i j) (ng_wo g i p) (by omega) hwo (by
            intro k hk
            rw [ng_wo_tb hg31 (by omega) (by omega), hb k hk, ng_s2_v (by omega)]
            by_cases z1 : k = i
            · rw [if_pos z1, z1]; simp
            · rw [if_neg z1]
              by_cases z2 : k = j ∧ j < 10
              · rw [if_pos z2]
                have : k = p := z2.1.trans (hj5 z2.2)
                simp [this]
              · rw [if_neg z2]
                have : k ≠ p := by
                  intro q
                  by_cases z3 : j < 10
                  · exact z2 ⟨by rw [hj5 z3]; exact q, z3⟩
                  · exact z1 (q.trans (hj6 (by omega)))
                simp [z1, this]) (by
            intro k hk
            rw [ng_s2_v (by omega)]
            by_cases z1 : k = i
            · rw [if_pos z1]; intro q; cases q
            · rw [if_neg z1]
              by_cases z2 : k = j ∧ j < 10
              · rw [if_pos z2]; intro q; cases q
              · rw [if_neg z2]
                exact hlt k (by omega))
          have hhw := ng_hw_s2 (co := co) hj1 hpi (fun z => by
            rcases hj3 with q | q
            · omega
            · exact q.2) hc mn hmn
          rw [if_pos hi] at hhw
          rw [if_pos (by rw [hmay]; rfl), ih1, hhw]
          by_cases z : lw (ng_wo g i p) = ng_F1
          · have hw : ng_ww pw lw g i p = ng_F1 := by
              unfold ng_ww
              rw [if_pos (Or.inr z)]
            refine ⟨Or.inl hw, ?_⟩
            rw [ng_cl_n (v := (ng_ww pw lw g i p, lc (ng_wo g i p))) hw, ng_cl_n (v := (lw (ng_wo g i p), lc (ng_wo g i p))) z]
          · have hw : ng_ww pw lw g i p = c + lw (ng_wo g i p) := by
              unfold ng_ww
              rw [if_neg (by rw [hj4]; exact fun q => q.elim hcF z), hj4]
            have hle : lw (ng_wo g i p) ≤ 19000000 * f := ih2.resolve_left z
            have hF : c + lw (ng_wo g i p) ≠ ng_F1 := by unfold ng_F1; omega
            refine ⟨Or.inr (by rw [hw]; omega), ?_⟩
            rw [hw, ng_cl_s (v := (c + lw (ng_wo g i p), lc (ng_wo g i p))) hF, ng_cl_s (v := (lw (ng_wo g i p), lc (ng_wo g i p))) z, Nat.add_assoc]
      have hF1 : 19000000 * (f + 1) ≤ ng_F1 := by unfold ng_F1; omega
      have hsum := ng_er_sm (f := f) (B := ng_hw pr co mn) (lc := lc) (P := fun p => ng_cmp mn pw lw f (ng_s2 pr i (ng_qq i p)) (ng_wo g i p)) hmn hi hg hb (fun p h1 h2 h3 => ⟨(hit p h1 h2 h3).1.elim (fun q => Nat.le_of_eq q) (fun q => Nat.le_trans q hF1), (hit p h1 h2 h3).2⟩) hbi (9 - i) i (by omega) (Nat.le_refl _)
      have hv : ng_wq (ng_tw pw lw lc g i (mn - (i + 1)) (i + 1)) (ng_nm (ng_ww pw lw g i i) (lc (ng_wo g i i))).1 (ng_nm (ng_ww pw lw g i i) (lc (ng_wo g i i))).2 = (lw g, lc g) := by
        rw [ng_wq_comm (ng_nn_tw _ _) (ng_nn_nm _ _)]
        have h1 := ng_sg_tw (pw := pw) (lw := lw) (lc := lc) (g := g) (pl := i) (mn - (i + 1)) 1
        have h2 : ng_sg pw lw lc g i 1 = ng_nm (ng_ww pw lw g i i) (lc (ng_wo g i i)) := by
          show (if nb_t (nI g) (i + 0) = true then _ else _) = _
          rw [if_pos (by rw [Nat.add_zero, ng_tb (by omega)]; exact hbi)]
          rfl
        rw [h2] at h1
        rw [h1, show 1 + (mn - (i + 1)) = mn - i by omega, hlw, hlc]
      rw [hv] at hsum
      refine ⟨hsum, ?_⟩
      by_cases z : lw g = ng_F1
      · exact Or.inl z
      · refine Or.inr ?_
        rw [hlw] at z
        obtain ⟨pa, p1, p2, p3, p4⟩ := ng_sg_att z
        rw [ng_tb (by omega)] at p3
        rw [hlw, ← p4]
        rw [← p4] at z
        exact ((hit pa p1 (by omega) p3).1).resolve_left z
/-! the first pairing: the class's list of pairs is the model's -/
theorem ng_fp_b {rl : Nat} {pw lw : Nat → Nat} {g pl : Nat} (hg : g < 2 ^ 32) (hpl : pl < rl) (hb : g.testBit pl = true) : pl ≤ ng_fp rl pw lw g pl ∧ ng_fp rl pw lw g pl < rl ∧ g.testBit (ng_fp rl pw lw g pl) = true := by
  unfold ng_fp
  cases hf : ng_fst (fun p => nb_t (nI g) p && decide (ng_ww pw lw g pl p = lw g)) (rl - (pl + 1)) (pl + 1) with
  | some k =>
    obtain ⟨h1, h2, h3⟩ := ng_fst_ok hf
    simp only [Bool.and_eq_true, decide_eq_true_eq] at h1
    refine ⟨by show pl ≤ k; omega, by show k < rl; omega, ?_⟩
    show g.testBit k = true
    rw [← ng_tb hg]
    exact h1.1
  | none => exact ⟨Nat.le_refl _, hpl, hb⟩
theorem ng_bs {mn i p g : Nat} {pr : Nat → Option Nat} (hmn : mn ≤ 10) (hg : g < 2 ^ 31) (hi : i < mn) (hip : i ≤ p) (hp : p < mn) (hb : ∀ k, k < mn → g.testBit k = (pr k).isNone) : ∀ k, k < mn → (ng_wo g i p).testBit k = (ng_s2 pr i (ng_qq i p) k).isNone := by
  intro k hk
  have hq : i ≠ ng_qq i p := by unfold ng_qq; split <;> omega
  rw [ng_wo_tb hg (by omega) (by omega), hb k hk, ng_s2_v hq]
  by_cases z1 : k = i
  · rw [if_pos z1, z1]; simp
  · rw [if_neg z1]
    unfold ng_qq
    by_cases z : p = i
    · rw [if_pos z, if_neg (by omega), z]
      simp [z1]
    · rw [if_neg z]
      by_cases z2 : k = p
      · rw [if_pos ⟨z2, by omega⟩]
        simp [z2]
      · rw [if_neg (fun q => z2 q.1)]
        simp [z1, z2]
theorem ng_cmp_k {mn : Nat} {pw lw : Nat → Nat} (hmn : mn ≤ 10) : ∀ (f : Nat) (pr : Nat → Option Nat) (g : Nat), g < 2 ^ mn → (∀ k, k < mn → g.testBit k = (pr k).isNone) → ∀ k x, k < mn → pr k = some x → ng_cmp mn pw lw f pr g k = some x := by
  intro f
  induction f with
  | zero => intro pr g _ _ k x _ h; exact h
  | succ f ih =>
    intro pr g hg hb k x hk h
    rw [ng_cmp]
    by_cases hff : ng_ff pr mn = mn
    · rw [if_pos hff]; exact h
    · obtain ⟨hi, hpi, -⟩ := ng_ff_lt hff
      rw [if_neg hff]
      generalize ng_ff pr mn = i at hi hpi ⊢
      have hg31 : g < 2 ^ 31 := Nat.lt_of_lt_of_le hg (Nat.pow_le_pow_right (by decide) (by omega))
      have hbi : g.testBit i = true := by rw [hb i hi, hpi]; rfl
      obtain ⟨p1, p2, p3⟩ := ng_fp_b (rl := mn) (pw := pw) (lw := lw) (by omega) hi hbi
      generalize ng_fp mn pw lw g i = p at p1 p2 p3 ⊢
      refine ih _ _ (Nat.lt_of_le_of_lt (ng_wo_le hg31) hg) (ng_bs hmn hg31 hi p1 p2 hb) k x hk ?_
      have hq : i ≠ ng_qq i p := by unfold ng_qq; split <;> omega
      rw [ng_s2_v hq, if_neg (by intro z; rw [z, hpi] at h; cases h), if_neg ?_]
      · exact h
      · unfold ng_qq
        intro z
        by_cases c : p = i
        · rw [if_pos c] at z; omega
        · rw [if_neg c] at z
          have := hb k hk
          rw [z.1, p3, ← z.1, h] at this
          cases this
theorem ng_pl_tf {mn : Nat} {pw lw : Nat → Nat} (hmn : mn ≤ 10) : ∀ (n i f g : Nat) (pr : Nat → Option Nat), i + n = mn → n ≤ f → g < 2 ^ mn → (∀ k, k < mn → g.testBit k = (pr k).isNone) → (∀ k, k < i → pr k ≠ none) → (∀ k x, k < mn → i ≤ k → pr k = some x → x < i) → ng_pl (ng_cmp mn pw lw f pr g) n i = ng_tf mn pw lw n i g := by
  intro n
  induction n with
  | zero => intro i f g pr _ _ _ _ _ _; rfl
  | succ n ih =>
    intro i f g pr hin hf hg hb hlt hback
    have hg31 : g < 2 ^ 31 := Nat.lt_of_lt_of_le hg (Nat.pow_le_pow_right (by decide) (by omega))
    have hi : i < mn := by omega
    rw [ng_tf, ng_tb (by omega)]
    cases hp : pr i with
    | some x =>
      have hbi : g.testBit i = false := by rw [hb i hi, hp]; rfl
      have hx := hback i x hi (Nat.le_refl _) hp
      rw [if_neg (by rw [hbi]; decide), ng_pl, ng_cmp_k hmn f pr g hg hb i x hi hp]
      dsimp only
      rw [if_pos hx]
      refine ih (i + 1) f g pr (by omega) (by omega) hg hb (fun k hk => ?_) (fun k y h1 h2 h3 => ?_)
      · by_cases z : k = i
        · rw [z, hp]; intro q; cases q
        · exact hlt k (by omega)
      · have := hback k y h1 (by omega) h3
        omega
    | none =>
      have hbi : g.testBit i = true := by rw [hb i hi, hp]; rfl
      rw [if_pos hbi]
      have hff : ng_ff pr mn = i := by
        by_cases z : ng_ff pr mn = mn
        · exact absurd hp (ng_ff_mn z i hi)
        · obtain ⟨h1, h2, h3⟩ := ng_ff_lt z
          rcases Nat.lt_trichotomy (ng_ff pr mn) i with c | c | c
          · exact absurd h2 (hlt _ c)
          · exact c
          · exact absurd hp (h3 i c)
      obtain ⟨f, rfl⟩ : ∃ f', f = f' + 1 := ⟨f - 1, by omega⟩
      rw [ng_cmp, hff, if_neg (by omega)]
      obtain ⟨p1, p2, p3⟩ := ng_fp_b (rl := mn) (pw := pw) (lw := lw) (by omega) hi hbi
      generalize ng_fp mn pw lw g i = p at p1 p2 p3 ⊢
      have hq : i < ng_qq i p ∧ (ng_qq i p = 10 ∨ ng_qq i p = p) := by unfold ng_qq; split <;> omega
      have hb2 := ng_bs hmn hg31 hi p1 p2 hb
      have hg2 : ng_wo g i p < 2 ^ mn := Nat.lt_of_le_of_lt (ng_wo_le hg31) hg
      have hv := ng_s2_v (pr := pr) (k := i) (Nat.ne_of_lt hq.1)
      rw [if_pos rfl] at hv
      rw [ng_pl, ng_cmp_k hmn f _ _ hg2 hb2 i _ hi hv]
      dsimp only
      have e : (if ng_qq i p = 10 then i else ng_qq i p) = p := by
        unfold ng_qq
        by_cases z : p = i
        · rw [if_pos z, if_pos rfl, z]
        · rw [if_neg z, if_neg (by omega)]
      rw [if_neg (by omega), e]
      rw [ih (i + 1) f _ _ (by omega) (by omega) hg2 hb2 (fun k hk => ?_) (fun k y h1 h2 h3 => ?_)]
      · rw [ng_s2_v (Nat.ne_of_lt hq.1)]
        by_cases z : k = i
        · rw [if_pos z]; intro q; cases q
        · rw [if_neg z]
          by_cases z2 : k = ng_qq i p ∧ ng_qq i p < 10
          · rw [if_pos z2]; intro q; cases q
          · rw [if_neg z2]
            exact hlt k (by omega)
      · rw [ng_s2_v (Nat.ne_of_lt hq.1), if_neg (by omega)] at h3
        by_cases z2 : k = ng_qq i p ∧ ng_qq i p < 10
        · rw [if_pos z2] at h3
          cases h3
          omega
        · rw [if_neg z2] at h3
          have := hback k y h1 (by omega) h3
          omega
theorem ng_sm_pos {mn : Nat} {co : Nat → Option Nat} : ∀ (L : List (Nat → Option Nat)) (t : Nat × Nat × (Nat → Option Nat)), ng_sm mn co L = some t → 0 < t.1 := by
  intro L
  induction L with
  | nil => intro t h; cases h
  | cons p L ih =>
    intro t h
    have h : ng_mo (some (1, ng_hw p co mn, p)) (ng_sm mn co L) = some t := by
      rw [← h]
      show _ = List.foldl _ none (p :: L)
      rw [List.foldl_cons, ng_sm_f]
      rfl
    cases hL : ng_sm mn co L with
    | none =>
      rw [hL] at h
      rw [← Option.some.inj h]
      exact Nat.one_pos
    | some r =>
      rw [hL] at h
      obtain ⟨k, w, q⟩ := r
      have hk := ih _ hL
      dsimp only at hk
      rw [ng_mo_ss] at h
      by_cases h1 : w < ng_hw p co mn
      · rw [if_pos h1] at h
        rw [← Option.some.inj h]
        exact hk
      · rw [if_neg h1] at h
        by_cases h2 : w = ng_hw p co mn
        · rw [if_pos h2] at h
          rw [← Option.some.inj h]
          exact Nat.lt_of_lt_of_le Nat.one_pos (Nat.le_add_right _ _)
        · rw [if_neg h2] at h
          rw [← Option.some.inj h]
          exact Nat.one_pos
theorem ng_hw_0 {co pr : Nat → Option Nat} : ∀ n, (∀ k, k < n → pr k = none) → ng_hw pr co n = 0 := by
  intro n
  induction n with
  | zero => intro _; rfl
  | succ n ih =>
    intro h
    rw [ng_hw, h n (by omega)]
    exact ih (fun k hk => h k (by omega))
theorem ng_pl_cg {be be2 : Nat → Option Nat} : ∀ (n i : Nat), (∀ k, k < i + n → be k = be2 k) → ng_pl be n i = ng_pl be2 n i := by
  intro n
  induction n with
  | zero => intro i _; rfl
  | succ n ih =>
    intro i h
    rw [ng_pl, ng_pl, h i (by omega), ih (i + 1) (fun k hk => h k (by omega))]
theorem ng_same {mn bw bs9 bw9 : Nat} {pw lw lc : Nat → Nat} {co be be9 pp : Nat → Option Nat} (hmn : mn ≤ 10) (hgr : ng_gr mn pw lw lc (2 ^ mn)) (hpw : ∀ a b, a < b → b < mn → pw (a * 10 + b) = (co (11 * a + b)).getD ng_F1) (hpb : ∀ a, a < mn → pw (a * 10 + a) = (co (11 * a + 10)).getD ng_F1) (hcb : ng_cob co)
    (hp : ∀ k, k < mn → pp k = none) (h : ng_eqA mn (bs9, bw9, be9) (List.foldl (ng_hd mn co) (0, bw, be) (ng_en mn co mn pp))) :
    (lw (2 ^ mn - 1) = ng_F1 → bs9 = 0) ∧ (lw (2 ^ mn - 1) ≠ ng_F1 → 0 < bs9 ∧ bs9 = lc (2 ^ mn - 1) ∧ bw9 = lw (2 ^ mn - 1) ∧ ng_pl be9 mn 0 = ng_tf mn pw lw mn 0 (2 ^ mn - 1)) := by
  have hpos := Nat.two_pow_pos mn
  have hg : 2 ^ mn - 1 < 2 ^ mn := by omega
  have hb : ∀ k, k < mn → (2 ^ mn - 1).testBit k = (pp k).isNone := by
    intro k hk
    rw [hp k hk, Nat.testBit_two_pow_sub_one]
    simp [hk]
  obtain ⟨h1, -⟩ := ng_main hmn hgr hpw hpb hcb mn pp (2 ^ mn - 1) hmn hg hb (fun k hk => absurd hk (by omega))
  rw [ng_hw_0 mn hp] at h1
  have h2 := ng_fo_sm (bw := bw) (be := be) (mn := mn) (co := co) (ng_en mn co mn pp) none (fun t ht => by cases ht)
  have h2 : List.foldl (ng_hd mn co) (0, bw, be) (ng_en mn co mn pp) = (ng_sm mn co (ng_en mn co mn pp)).getD (0, bw, be) := h2
  rw [h2] at h
  obtain ⟨q1, q2, q3⟩ := h
  dsimp only at q1 q2 q3
  refine ⟨fun hF => ?_, fun hF => ?_⟩
  · rw [h1, ng_cl_n (v := (lw (2 ^ mn - 1), lc (2 ^ mn - 1))) hF] at q1
    exact q1
  · have hs := h1
    rw [ng_cl_s (v := (lw (2 ^ mn - 1), lc (2 ^ mn - 1))) hF] at hs
    rw [hs] at q1 q2 q3
    have hps := ng_sm_pos _ _ hs
    have q1 : bs9 = lc (2 ^ mn - 1) := q1
    have q2 : bw9 = 0 + lw (2 ^ mn - 1) := q2
    refine ⟨by rw [q1]; exact hps, q1, by omega, ?_⟩
    rw [ng_pl_cg mn 0 (be2 := ng_cmp mn pw lw mn pp (2 ^ mn - 1)) (fun k hk => q3 k (by omega))]
    exact ng_pl_tf hmn mn 0 mn _ pp (by omega) (Nat.le_refl _) hg hb (fun k hk => absurd hk (by omega)) (fun k x h1 _ h3 => by rw [hp k h1] at h3; cases h3)
