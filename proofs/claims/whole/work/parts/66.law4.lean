/-! the splits of the law's cases -/
theorem ls_inE {np : Nat} {bd a b : Int32} (hnp : np ≤ 20) (h : ng_join np bd a b = true) : ∃ ja jb, ja < np ∧ jb < np ∧ ja ≠ jb ∧ a = nI ja ∧ b = nI jb := by
  unfold ng_join at h
  simp only [Bool.and_eq_true, Bool.not_eq_true', decide_eq_false_iff_not] at h
  obtain ⟨h1, h2, h3, -⟩ := h
  obtain ⟨ja, q1, e1⟩ := nb_inI_of (by omega) h1
  obtain ⟨jb, q2, e2⟩ := nb_inI_of (by omega) h2
  exact ⟨ja, jb, q1, q2, fun z => h3 (by rw [e1, e2, z]), e1, e2⟩
theorem ls_evE {w z : Int32} (h : ng_ev w z = true) : ∃ jw jz, jw ≤ 1000000 ∧ w = nI jw ∧ z = nI jz := by
  unfold ng_ev at h
  simp only [Bool.and_eq_true, Bool.not_eq_true', decide_eq_false_iff_not] at h
  obtain ⟨h1, h2, h3, h4⟩ := h
  obtain ⟨jw, q1, e1⟩ := nI_of2 (M := nI 1000000) (n := 1000000) (by decide) h1 (Int32.not_lt.mp h2)
  obtain ⟨jz, q2, e2⟩ := nI_of2 (M := nI 255) (n := 255) (by decide) h3 (Int32.not_lt.mp h4)
  exact ⟨jw, jz, q1, e1, e2⟩
theorem ls_nofire {np c : Nat} {bd fi k : Int32} {b : Bool} (h : ¬ ∃ j, j < np ∧ k = nI j ∧ nb_t bd j = false ∧ nb_t fi j ≠ b ∧ (b = true → c < 10)) : ∀ j, j < np → k = nI j → nb_t bd j = true ∨ nb_t fi j = b ∨ (b = true ∧ 10 ≤ c) := by
  intro j hj ej
  cases h1 : nb_t bd j with
  | true => exact Or.inl rfl
  | false =>
    by_cases h2 : nb_t fi j = b
    · exact Or.inr (Or.inl h2)
    · refine Or.inr (Or.inr ?_)
      cases b with
      | false => exact absurd ⟨j, hj, ej, h1, h2, fun z => by cases z⟩ h
      | true =>
        refine ⟨rfl, Nat.le_of_not_lt (fun z => h ⟨j, hj, ej, h1, h2, fun _ => z⟩)⟩
theorem ls_ct32 {np : Nat} {x : Int32} (hnp : np ≤ 20) (h : ng_fit np x = true) : dm_ct (fun i => nb_t x i) 32 = dm_ct (fun i => nb_t x i) 20 := ng_ct_up 32 (by omega) (fun u hu _ => ng_fit_b hnp h u (by omega))
theorem ls_flt {np ne : Nat} {bd x w z : Int32} {ib : Nat → Bool} (hnp : np ≤ 20) (hib : ∀ k, k < np → ib k = nb_t bd k) (hbd : ∀ k, np ≤ k → nb_t bd k = false) :
    (¬ x < 0 ∧ ng_fit np x = true ∧ (dm_ct (fun i => nb_t x i) 20 = 3 ∨ dm_ct (fun i => nb_t x i) 20 = 4) ∧ ng_cb np ib (ng_nth x 20 0 0) (ng_nth x 20 0 1) w z = true ∧ ng_cb np ib (ng_nth x 20 0 2) (if dm_ct (fun i => nb_t x i) 20 = 4 then ng_nth x 20 0 3 else ng_oi (ng_fst ib np 0)) (nI 0) (nI 0) = true ∧ ne + 2 ≤ 60) ↔
    (ng_fit np x = true ∧ (dm_ct (fun i => nb_t x i) 32 = 3 ∨ dm_ct (fun i => nb_t x i) 32 = 4) ∧ ng_join np bd (ng_nth x 20 0 0) (ng_nth x 20 0 1) = true ∧ ng_join np bd (ng_nth x 20 0 2) (if dm_ct (fun i => nb_t x i) 32 = 4 then ng_nth x 20 0 3 else ng_nth bd 20 0 0) = true ∧ ng_ev w z = true ∧ ne + 2 ≤ 60) := by
  have hev : ng_ev (nI 0) (nI 0) = true := by decide
  rw [ng_cb_eq hnp hib, ng_cb_eq hnp hib, hev, ng_nth0 hnp hib hbd]
  simp only [Bool.and_eq_true, Bool.and_true]
  constructor
  · rintro ⟨-, h1, h2, ⟨h3, h4⟩, h5, h6⟩
    rw [ls_ct32 hnp h1]
    exact ⟨h1, h2, h3, h5, h4, h6⟩
  · rintro ⟨h1, h2, h3, h5, h4, h6⟩
    rw [ls_ct32 hnp h1] at h2 h5
    exact ⟨ng_neg_t (ng_fit_b hnp h1 31 (by omega)), h1, h2, ⟨h3, h4⟩, h5, h6⟩
theorem ls_wayE {np : Nat} {a b x : Int32} (hnp : np ≤ 20) (h : nb_in np a = true ∧ nb_in np b = true ∧ a ≠ b ∧ ¬ x < 0) : ∃ ja jb, ja < np ∧ jb < np ∧ ja ≠ jb ∧ a = nI ja ∧ b = nI jb := by
  obtain ⟨h1, h2, h3, -⟩ := h
  obtain ⟨ja, q1, e1⟩ := nb_inI_of (by omega) h1
  obtain ⟨jb, q2, e2⟩ := nb_inI_of (by omega) h2
  exact ⟨ja, jb, q1, q2, fun z => h3 (by rw [e1, e2, z]), e1, e2⟩
theorem ls_sw (x : Int32) : ∃ k, k < 16 ∧ x &&& nI 15 = nI k := by
  have h1 : ∀ i, i < 32 → 4 ≤ i → nb_t (x &&& nI 15) i = false := by
    intro i hi h4
    rw [nb_bt_and, (by decide +kernel : ∀ i, i < 32 → 4 ≤ i → nb_t (nI 15) i = false) i hi h4]
    simp
  refine ⟨(x &&& nI 15).toBitVec.toNat, ?_, ng_natI _⟩
  have h2 : (x &&& nI 15).toBitVec.toNat < 2 ^ 4 := by
    refine Nat.lt_pow_two_of_testBit _ (fun i hi => ?_)
    by_cases z : i < 32
    · exact h1 i z hi
    · exact Nat.testBit_lt_two_pow (Nat.lt_of_lt_of_le (x &&& nI 15).toBitVec.isLt (Nat.pow_le_pow_right (by decide) (by omega)))
  exact h2
