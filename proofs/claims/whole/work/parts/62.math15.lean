/-! the class's pictures and the model's -/
theorem dm_D_cg {np ne : Nat} {inn inn2 : Nat → Bool} {oe ot co co2 : Nat → Nat} {D : Nat → Nat → Nat} (hE : ∀ i, i < ne → oe i < np ∧ ot i < np) (hi : ∀ k, k < np → inn k = inn2 k) (hc : ∀ e, e < ne → co e = co2 e) (h : dm_D np ne inn oe ot co D) : dm_D np ne inn2 oe ot co2 D := by
  obtain ⟨h1, h2, h3, h4⟩ := h
  have hx : ∀ e a x, e < ne → dm_inc oe ot e a x → x < np := by
    intro e a x he hq
    have := hE e he
    rcases hq with ⟨q1, q2⟩ | ⟨q1, q2⟩ <;> omega
  refine ⟨h1, h2, fun e a x b he hq hb hor => ?_, fun a b ha hb hab hf => ?_⟩
  · rw [← hc e he]
    refine h3 e a x b he hq hb ?_
    rw [hi x (hx e a x he hq)]
    exact hor
  · obtain ⟨e, x, he, hq, hor, heq⟩ := h4 a b ha hb hab hf
    refine ⟨e, x, he, hq, ?_, by rw [← hc e he]; exact heq⟩
    rw [← hi x (hx e a x he hq)]
    exact hor
theorem ng_nb_D {bd : Int32} {ct : Nat → Nat} {ib : Nat → Bool} {p : Nat} : ∀ n, (∀ k, k < n → ib k = nb_t bd k) → ng_nb bd ct p n = ng_nbD ib (fun a b => ct (a * 20 + b)) p n := by
  intro n
  induction n with
  | zero => intro _; rfl
  | succ n ih =>
    intro h
    rw [ng_nb, ng_nbD, ih (fun k hk => h k (by omega)), h n (by omega)]
theorem ng_tf_b {rl : Nat} {pw lw : Nat → Nat} : ∀ (n i g : Nat) (q : Nat × Nat), i + n ≤ rl → q ∈ ng_tf rl pw lw n i g → i ≤ q.1 ∧ q.1 < rl ∧ q.1 ≤ q.2 ∧ q.2 < rl := by
  intro n
  induction n with
  | zero => intro i g q _ h; cases h
  | succ n ih =>
    intro i g q hi h
    rw [ng_tf] at h
    by_cases hb : nb_t (nI g) i = true
    · rw [if_pos hb] at h
      rcases List.mem_cons.mp h with h | h
      · subst h
        dsimp only
        unfold ng_fp
        cases hf : ng_fst (fun p => nb_t (nI g) p && decide (ng_ww pw lw g i p = lw g)) (rl - (i + 1)) (i + 1) with
        | some k =>
          obtain ⟨-, h2, h3⟩ := ng_fst_ok hf
          show i ≤ i ∧ i < rl ∧ i ≤ k ∧ k < rl
          omega
        | none =>
          show i ≤ i ∧ i < rl ∧ i ≤ i ∧ i < rl
          omega
      · have := ih (i + 1) _ q (by omega) h
        omega
    · rw [if_neg hb] at h
      have := ih (i + 1) _ q (by omega) h
      omega
theorem ng_pt_cg {row li : Nat → Nat} {nr bo : Nat → Option Nat} {rl a b : Nat} (h1 : ∀ i, i < rl → row i = li i) (h2 : ∀ i, i < rl → nr i = bo i) (ha : a < rl) (hb : b < rl) : ng_pt row nr a b = ng_pt li bo a b := by
  unfold ng_pt
  rw [h1 b hb, h2 a ha]
theorem ng_od_cg {ps : Nat → Nat → Int64} {row li : Nat → Nat} {nr bo : Nat → Option Nat} {rl : Nat} (h1 : ∀ i, i < rl → row i = li i) (h2 : ∀ i, i < rl → nr i = bo i) (l : List (Nat × Nat)) (hl : ∀ q ∈ l, q.1 < rl ∧ q.2 < rl) : ng_od ps row nr l = ng_od ps li bo l := by
  unfold ng_od
  generalize lN 0 = x
  induction l generalizing x with
  | nil => rfl
  | cons q l ih =>
    obtain ⟨q1, q2⟩ := hl q List.mem_cons_self
    rw [List.foldl_cons, List.foldl_cons, h1 _ q1, ng_pt_cg h1 h2 q1 q2]
    exact ih (fun q h => hl q (List.mem_cons_of_mem _ h)) _
/-- one search: the class's and the model's -/
theorem ng_find {np mn bw bs9 bw9 : Nat} {fi bd : Int32} {ib : Nat → Bool} {ct row2 li9 pw2 lw2 lc2 : Nat → Nat} {nr2 co9 bo9 be be9 pp9 : Nat → Option Nat} (hmn : (ng_rw fi np).length = mn) (hfl : mn ≤ 10) (hib : ∀ k, k < np → ib k = nb_t bd k)
    (hrow : ∀ i, i < mn → (ng_rw fi np)[i]? = some (row2 i)) (hnr : ∀ i, i < mn → nr2 i = ng_nb bd ct (row2 i) np) (hpw : ∀ a b, a ≤ b → b < mn → pw2 (a * 10 + b) = ng_pv ct row2 nr2 a b) (hgr : ng_gr mn pw2 lw2 lc2 (2 ^ mn))
    (hli : ∀ i, i < mn → (ng_rw fi np)[i]? = some (li9 i)) (hfc : fc_3 (fun a b => ng_wt (fun a b => ct (a * 20 + b)) (li9 a) (li9 b)) ib (fun a b => ct (a * 20 + b)) li9 mn co9 bo9 np 0) (hcb : ng_cob co9) (hpp : ∀ k, k < mn → pp9 k = none) (heq : ng_eqA mn (bs9, bw9, be9) (List.foldl (ng_hd mn co9) (0, bw, be) (ng_en mn co9 mn pp9))) :
    (∀ i, i < mn → row2 i = li9 i) ∧ (∀ i, i < mn → nr2 i = bo9 i) ∧ (lw2 (2 ^ mn - 1) = ng_F1 → bs9 = 0) ∧ (lw2 (2 ^ mn - 1) ≠ ng_F1 → 0 < bs9 ∧ bs9 = lc2 (2 ^ mn - 1) ∧ bw9 = lw2 (2 ^ mn - 1) ∧ ng_pl be9 mn 0 = ng_tf mn pw2 lw2 mn 0 (2 ^ mn - 1)) := by
  have e1 : ∀ i, i < mn → row2 i = li9 i := fun i hi => Option.some.inj ((hrow i hi).symm.trans (hli i hi))
  have e2 : ∀ i, i < mn → nr2 i = bo9 i := by
    intro i hi
    rw [hnr i hi, ng_nb_D np hib, (hfc.2 i hi).1, if_neg (by omega), e1 i hi]
  refine ⟨e1, e2, ng_same hfl hgr (fun a b hab hb => ?_) (fun a ha => ?_) hcb hpp heq⟩
  · rw [hpw a b (by omega) hb, hfc.1 a b (by omega) hb]
    unfold ng_pv ng_pt
    rw [if_neg (by omega)]
    dsimp only
    unfold ng_wt
    rw [e1 a (by omega), e1 b hb]
    by_cases z : ct (li9 a * 20 + li9 b) = dm_FAR
    · rw [if_pos z, if_pos z]; rfl
    · rw [if_neg z, if_neg z]; rfl
  · rw [hpw a a (Nat.le_refl _) ha, (hfc.2 a ha).2, ← e2 a ha]
    unfold ng_pv ng_pt
    rw [if_pos rfl]
    cases hy : nr2 a with
    | none => rfl
    | some y =>
      have h3 := hnr a ha
      rw [hy] at h3
      have h4 := (ng_nb_ok h3.symm).2
      dsimp only
      rw [if_neg h4, e1 a ha]
      rfl
/-! sets of bits -/
theorem ng_ct_eq {P Q : Nat → Bool} : ∀ {n : Nat}, (∀ u, u < n → P u = Q u) → dm_ct P n = dm_ct Q n := by
  intro n
  induction n with
  | zero => intro _; rfl
  | succ n ih => intro h; rw [dm_ct, dm_ct, ih (fun u hu => h u (by omega)), h n (by omega)]
theorem ng_ct_up {P : Nat → Bool} {a : Nat} : ∀ (n : Nat), a ≤ n → (∀ u, a ≤ u → u < n → P u = false) → dm_ct P n = dm_ct P a := by
  intro n
  induction n with
  | zero => intro h _; rw [show a = 0 by omega]
  | succ n ih =>
    intro h h2
    by_cases z : a = n + 1
    · rw [z]
    · rw [dm_ct, h2 n (by omega) (by omega), ih (by omega) (fun u h3 h4 => h2 u h3 (by omega))]
      rfl
theorem ng_ct_rm {P Q : Nat → Bool} {a : Nat} : ∀ {n : Nat}, a < n → P a = true → Q a = false → (∀ u, u < n → u ≠ a → Q u = P u) → dm_ct Q n + 1 = dm_ct P n := by
  intro n
  induction n with
  | zero => intro h; omega
  | succ n ih =>
    intro h h1 h2 h3
    rw [dm_ct, dm_ct]
    by_cases z : a = n
    · subst z
      rw [h1, h2, ng_ct_eq (Q := P) (fun u hu => h3 u (by omega) (by omega))]
      simp
    · have := ih (by omega) h1 h2 (fun u hu hu2 => h3 u (by omega) hu2)
      rw [h3 n (by omega) (by omega)]
      omega
theorem ng_rw_ct {fi : Int32} : ∀ n, (ng_rw fi n).length = dm_ct (fun i => nb_t fi i) n := by
  intro n
  induction n with
  | zero => rfl
  | succ n ih =>
    rw [dm_ct]
    cases hb : nb_t fi n with
    | true => rw [ng_rw_t hb, List.length_append, ih]; simp
    | false => rw [ng_rw_f hb, ih]; simp
theorem ng_rw_inj {fi : Int32} : ∀ n, (ng_rw fi n).Nodup := by
  intro n
  induction n with
  | zero => exact List.nodup_nil
  | succ n ih =>
    cases hb : nb_t fi n with
    | true =>
      rw [ng_rw_t hb, List.nodup_append]
      refine ⟨ih, by simp, ?_⟩
      intro a ha b hb2
      have := (ng_rw_lt ha).1
      have : b = n := by simpa using hb2
      omega
    | false => rw [ng_rw_f hb]; exact ih
theorem ng_not_t {x : Int32} {i : Nat} (hi : i < 32) : nb_t (x ^^^ (-1)) i = !nb_t x i := by
  rw [nb_bt_xor, nb_bt_m1 i hi]
  simp
theorem ng_clr_t {x : Int32} {k i : Nat} (hi : i < 32) (hk : k < 32) : nb_t (x &&& (nb_o k ^^^ (-1))) i = (nb_t x i && !decide (i = k)) := by
  rw [nb_bt_and, ng_not_t hi, nb_bt_b1 hk]
/-! what commit takes out -/
theorem ng_cc_cm {np sz t rl : Nat} {fi bd : Int32} {kp : Int64} {ps : Nat → Nat → Int64} {tm row le ho po pt : Nat → Nat} {nr : Nat → Option Nat} {al : Nat → Bool} {wy : Nat → Int64} {l : List (Nat × Nat)} (hnp : np ≤ 20) (hl : sz ≤ l.length) (hb : ∀ q ∈ l, q.1 < rl ∧ q.2 < rl)
    (hdj : ∀ (i j : Nat) (p q : Nat × Nat), i < j → l[i]? = some p → l[j]? = some q → p.1 ≠ q.1 ∧ p.1 ≠ q.2 ∧ p.2 ≠ q.1 ∧ p.2 ≠ q.2)
    (hr : ∀ i, i < rl → row i < np ∧ nb_t fi (row i) = true) (hinj : ∀ i j, i < rl → j < rl → row i = row j → i = j) (hnb : ∀ i y, i < rl → nr i = some y → y < np ∧ nb_t bd y = true) (hfb : ∀ k, k < np → nb_t fi k = true → nb_t bd k = false)
    (hpr : ∀ k, k < sz → ∃ q, l[k]? = some q ∧ le k = row q.1 ∧ ng_pt row nr q.1 q.2 = some (ho k) ∧ po k = le k ∧ pt k = ho k ∧ al k = decide (q.1 = q.2) ∧ wy k = ps (le k) (ho k)) :
    ∀ k, k ≤ sz → ng_cc (fun j => ng_early bd tm le ho j t) le ho ps fi kp k = ((ng_cm (ng_eaD tm po pt al t) al po pt wy fi kp k).1, (ng_cm (ng_eaD tm po pt al t) al po pt wy fi kp k).2.1) ∧
      dm_ct (fun i => nb_t (ng_cm (ng_eaD tm po pt al t) al po pt wy fi kp k).1 i) 32 + (ng_cm (ng_eaD tm po pt al t) al po pt wy fi kp k).2.2 = dm_ct (fun i => nb_t fi i) 32 ∧
      (∀ i, i < 32 → nb_t (ng_cm (ng_eaD tm po pt al t) al po pt wy fi kp k).1 i = true → nb_t fi i = true) ∧
      (∀ j q, k ≤ j → j < sz → l[j]? = some q → nb_t (ng_cm (ng_eaD tm po pt al t) al po pt wy fi kp k).1 (row q.1) = true ∧ nb_t (ng_cm (ng_eaD tm po pt al t) al po pt wy fi kp k).1 (row q.2) = true) := by
  intro k
  induction k with
  | zero =>
    intro _
    refine ⟨rfl, rfl, fun i _ h => h, fun j q _ _ h => ?_⟩
    have := hb q (List.mem_of_getElem? h)
    exact ⟨(hr _ this.1).2, (hr _ this.2).2⟩
  | succ k ih =>
    intro hk
    obtain ⟨i1, i2, i3, i4⟩ := ih (by omega)
    obtain ⟨q, hq, h1, h2, h3, h4, h5, h6⟩ := hpr k (by omega)
    obtain ⟨hq1, hq2⟩ := hb q (List.mem_of_getElem? hq)
    obtain ⟨hr1, hr1b⟩ := hr q.1 hq1
    obtain ⟨hb1, hb2⟩ := i4 k q (Nat.le_refl _) (by omega) hq
    have hea : ng_early bd tm le ho k t = ng_eaD tm po pt al t k := by
      have hlb : nb_t bd (le k) = false := by rw [h1]; exact hfb _ hr1 hr1b
      unfold ng_early ng_be ng_eaD
      rw [h3, h4, h5, hlb]
      by_cases z : q.1 = q.2
      · have hz : nr q.1 = some (ho k) := by
          rw [← h2]; unfold ng_pt; rw [if_pos z.symm]
        rw [(hnb _ _ hq1 hz).2]
        simp [z]
      · have hz : row q.2 = ho k := by
          have : ng_pt row nr q.1 q.2 = some (row q.2) := by unfold ng_pt; rw [if_neg (fun c => z c.symm)]
          rw [this] at h2
          exact Option.some.inj h2
        rw [← hz, hfb _ (hr q.2 hq2).1 (hr q.2 hq2).2]
        simp [z]
    rw [ng_cc, ng_cm]
    rw [hea, i1]
    generalize hG : ng_cm (ng_eaD tm po pt al t) al po pt wy fi kp k = G at i1 i2 i3 i4 hb1 hb2 ⊢
    obtain ⟨F, K, n⟩ := G
    dsimp only at i2 i3 i4 hb1 hb2 ⊢
    by_cases he : ng_eaD tm po pt al t k = true
    · rw [if_pos he, if_pos he]
      by_cases z : q.1 = q.2
      · have hz : nr q.1 = some (ho k) := by
          rw [← h2]; unfold ng_pt; rw [if_pos z.symm]
        obtain ⟨hy1, hy2⟩ := hnb _ _ hq1 hz
        have hal : al k = true := by rw [h5]; simp [z]
        rw [if_pos hal]
        dsimp only
        have hF : F &&& ((nb_o (le k) ||| nb_o (ho k)) ^^^ (-1)) = F &&& (nb_o (po k) ^^^ (-1)) := by
          refine nb_bt_ext (fun i hi => ?_)
          rw [ng_clr_t hi (by omega), nb_bt_and, ng_not_t hi, nb_bt_or, nb_bt_b1 (by omega), nb_bt_b1 (by omega), h3]
          by_cases c : i = ho k
          · have hn : nb_t F i = false := by
              cases hv : nb_t F i with
              | false => rfl
              | true =>
                have := i3 i hi hv
                rw [c] at this
                rw [hfb _ hy1 this] at hy2
                cases hy2
            rw [hn]; rfl
          · simp [c]
        rw [hF, h6]
        refine ⟨rfl, ?_, fun i hi hv => ?_, fun j p hj1 hj2 hp => ?_⟩
        · have := ng_ct_rm (P := fun i => nb_t F i) (Q := fun i => nb_t (F &&& (nb_o (po k) ^^^ (-1))) i) (a := po k) (n := 32) (by omega) (by rw [h3, h1]; exact hb1) (by rw [ng_clr_t (by omega) (by omega)]; simp) (fun u hu hne => by rw [ng_clr_t hu (by omega)]; simp [hne])
          omega
        · rw [ng_clr_t hi (by omega)] at hv
          exact i3 i hi (by revert hv; cases nb_t F i <;> simp)
        · obtain ⟨g1, g2⟩ := i4 j p (by omega) hj2 hp
          obtain ⟨d1, d2, d3, d4⟩ := hdj k j q p (by omega) hq hp
          obtain ⟨p1, p2⟩ := hb p (List.mem_of_getElem? hp)
          have r1 := hr p.1 p1
          have r2 := hr p.2 p2
          rw [ng_clr_t (by omega) (by omega), ng_clr_t (by omega) (by omega), g1, g2, h3, h1]
          have n1 : ¬ row p.1 = row q.1 := fun c => d1 (hinj _ _ p1 hq1 c).symm
          have n2 : ¬ row p.2 = row q.1 := fun c => d2 (hinj _ _ p2 hq1 c).symm
          simp [n1, n2]
      · have hz : row q.2 = ho k := by
          have : ng_pt row nr q.1 q.2 = some (row q.2) := by unfold ng_pt; rw [if_neg (fun c => z c.symm)]
          rw [this] at h2
          exact Option.some.inj h2
        obtain ⟨hr2, hr2b⟩ := hr q.2 hq2
        have hal : al k = false := by rw [h5]; simp [z]
        rw [if_neg (by rw [hal]; decide)]
        dsimp only
        have hne : po k ≠ pt k := by
          rw [h3, h4, h1, ← hz]
          exact fun c => z (hinj _ _ hq1 hq2 c)
        have hF : F &&& ((nb_o (le k) ||| nb_o (ho k)) ^^^ (-1)) = (F &&& (nb_o (po k) ^^^ (-1))) &&& (nb_o (pt k) ^^^ (-1)) := by
          refine nb_bt_ext (fun i hi => ?_)
          rw [ng_clr_t hi (by omega), ng_clr_t hi (by omega), nb_bt_and, ng_not_t hi, nb_bt_or, nb_bt_b1 (by omega), nb_bt_b1 (by omega), h3, h4]
          cases nb_t F i <;> by_cases c : i = le k <;> by_cases c2 : i = ho k <;> simp [c, c2]
        rw [hF, h6]
        have hv1 : ∀ i, i < 32 → nb_t ((F &&& (nb_o (po k) ^^^ (-1))) &&& (nb_o (pt k) ^^^ (-1))) i = (nb_t F i && !decide (i = po k) && !decide (i = pt k)) := fun i hi => by rw [ng_clr_t hi (by omega), ng_clr_t hi (by omega)]
        refine ⟨rfl, ?_, fun i hi hv => ?_, fun j p hj1 hj2 hp => ?_⟩
        · have c1 := ng_ct_rm (P := fun i => nb_t F i) (Q := fun i => nb_t (F &&& (nb_o (po k) ^^^ (-1))) i) (a := po k) (n := 32) (by omega) (by rw [h3, h1]; exact hb1) (by rw [ng_clr_t (by omega) (by omega)]; simp) (fun u hu hne => by rw [ng_clr_t hu (by omega)]; simp [hne])
          have c2 := ng_ct_rm (P := fun i => nb_t (F &&& (nb_o (po k) ^^^ (-1))) i) (Q := fun i => nb_t ((F &&& (nb_o (po k) ^^^ (-1))) &&& (nb_o (pt k) ^^^ (-1))) i) (a := pt k) (n := 32) (by omega) (by rw [ng_clr_t (by omega) (by omega), h4, ← hz, hb2, hz, ← h4]; simp [Ne.symm hne]) (by rw [hv1 _ (by omega)]; simp) (fun u hu hne => by rw [ng_clr_t hu (by omega)]; simp [hne])
          omega
        · rw [hv1 i hi] at hv
          exact i3 i hi (by revert hv; cases nb_t F i <;> simp)
        · obtain ⟨g1, g2⟩ := i4 j p (by omega) hj2 hp
          obtain ⟨d1, d2, d3, d4⟩ := hdj k j q p (by omega) hq hp
          obtain ⟨p1, p2⟩ := hb p (List.mem_of_getElem? hp)
          have r1 := hr p.1 p1
          have r2 := hr p.2 p2
          rw [hv1 _ (by omega), hv1 _ (by omega), g1, g2, h3, h1, h4, ← hz]
          have n1 : ¬ row p.1 = row q.1 := fun c => d1 (hinj _ _ p1 hq1 c).symm
          have n2 : ¬ row p.2 = row q.1 := fun c => d2 (hinj _ _ p2 hq1 c).symm
          have n3 : ¬ row p.1 = row q.2 := fun c => d3 (hinj _ _ p1 hq2 c).symm
          have n4 : ¬ row p.2 = row q.2 := fun c => d4 (hinj _ _ p2 hq2 c).symm
          simp [n1, n2, n3, n4]
    · rw [if_neg he, if_neg he]
      exact ⟨rfl, i2, i3, fun j p hj => i4 j p (by omega)⟩
theorem ng_tf_dj {rl : Nat} {pw lw : Nat → Nat} (hrl : rl ≤ 10) : ∀ (n i g : Nat), i + n ≤ rl → g < 2 ^ 31 → (∀ q ∈ ng_tf rl pw lw n i g, g.testBit q.1 = true ∧ g.testBit q.2 = true) ∧ ∀ (a b : Nat) (p q : Nat × Nat), a < b → (ng_tf rl pw lw n i g)[a]? = some p → (ng_tf rl pw lw n i g)[b]? = some q → p.1 ≠ q.1 ∧ p.1 ≠ q.2 ∧ p.2 ≠ q.1 ∧ p.2 ≠ q.2 := by
  intro n
  induction n with
  | zero => intro i g _ _; exact ⟨fun q h => (by cases h), fun a b p q _ h => (by simp [ng_tf] at h)⟩
  | succ n ih =>
    intro i g hi hg
    rw [ng_tf]
    by_cases hb : nb_t (nI g) i = true
    · rw [if_pos hb]
      rw [ng_tb (by omega)] at hb
      obtain ⟨p1, p2, p3⟩ := ng_fp_b (rl := rl) (pw := pw) (lw := lw) (by omega) (show i < rl by omega) hb
      generalize ng_fp rl pw lw g i = p at p1 p2 p3 ⊢
      obtain ⟨k1, k2⟩ := ih (i + 1) (ng_wo g i p) (by omega) (Nat.lt_of_le_of_lt (ng_wo_le hg) hg)
      have kb : ∀ q ∈ ng_tf rl pw lw n (i + 1) (ng_wo g i p), g.testBit q.1 = true ∧ g.testBit q.2 = true ∧ i ≠ q.1 ∧ i ≠ q.2 ∧ p ≠ q.1 ∧ p ≠ q.2 := by
        intro q hq
        obtain ⟨c1, c2⟩ := k1 q hq
        rw [ng_wo_tb hg (by omega) (by omega)] at c1 c2
        simp only [Bool.and_eq_true, Bool.not_eq_true', decide_eq_false_iff_not] at c1 c2
        exact ⟨c1.1.1, c2.1.1, fun z => c1.1.2 z.symm, fun z => c2.1.2 z.symm, fun z => c1.2 z.symm, fun z => c2.2 z.symm⟩
      refine ⟨fun q hq => ?_, fun a b u v hab hu hv => ?_⟩
      · rcases List.mem_cons.mp hq with h | h
        · subst h; exact ⟨hb, p3⟩
        · exact ⟨(kb q h).1, (kb q h).2.1⟩
      · obtain ⟨b, rfl⟩ : ∃ c, b = c + 1 := ⟨b - 1, by omega⟩
        rw [List.getElem?_cons_succ] at hv
        cases a with
        | zero =>
          rw [List.getElem?_cons_zero] at hu
          have hu := Option.some.inj hu
          subst hu
          obtain ⟨-, -, c1, c2, c3, c4⟩ := kb v (List.mem_of_getElem? hv)
          exact ⟨c1, c2, c3, c4⟩
        | succ a =>
          rw [List.getElem?_cons_succ] at hu
          exact k2 a b u v (by omega) hu hv
    · rw [if_neg hb]
      exact ih (i + 1) g (by omega) hg
