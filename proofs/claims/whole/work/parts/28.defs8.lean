theorem ng_sw5 (x : Int32) : x = nI 0 ∨ x = nI 1 ∨ x = nI 2 ∨ x = nI 3 ∨ x = nI 4 ∨ (x.toInt < 0 ∨ 4 < x.toInt) := by
  by_cases q : x.toInt < 0 ∨ 4 < x.toInt
  · exact Or.inr (Or.inr (Or.inr (Or.inr (Or.inr q))))
  · have h0 : (0 : Int32).toInt = 0 := by decide
    have h4 : (4 : Int32).toInt = 4 := by decide
    obtain ⟨j, hj, e⟩ := nI_of2 (x := x) (M := 4) (n := 4) h4 (by rw [Int32.lt_iff_toInt_lt]; omega) (by rw [Int32.le_iff_toInt_le]; omega)
    subst e
    rcases (show j = 0 ∨ j = 1 ∨ j = 2 ∨ j = 3 ∨ j = 4 by omega) with rfl | rfl | rfl | rfl | rfl <;> simp
def ng_tot (np ne : Nat) (fi : Int32) (sz : Nat) (er : Int64) (x : Int32) : Int32 := if x = nI 0 then nI np else if x = nI 1 then nI ne else if x = nI 2 then fi else if x = nI 3 then nI sz else if x = nI 4 then nI (dm_ct (fun i => nb_u er i) 64) else -1
theorem ng_out {x : Int32} (h : x.toInt < 0 ∨ 4 < x.toInt) {k : Nat} (hk : k ≤ 4) : x ≠ nI k := by
  intro q
  rw [q, nI_toInt (by omega)] at h
  omega
theorem ng_tot_d {np ne : Nat} {fi : Int32} {sz : Nat} {er : Int64} {x : Int32} (h : x.toInt < 0 ∨ 4 < x.toInt) : ng_tot np ne fi sz er x = -1 := by
  unfold ng_tot
  rw [if_neg (ng_out h (by omega)), if_neg (ng_out h (by omega)), if_neg (ng_out h (by omega)), if_neg (ng_out h (by omega)), if_neg (ng_out h (by omega))]
