/-! the model's way, edge by edge -/
def ng_nk (wo eo : Nat → Option Nat) (ib : Nat → Bool) (oe ot hv : Nat → Nat) (h z e : Nat) : Bool := match ng_nx oe ot e h with
  | none => false
  | some y => ng_go wo ib y z && (decide ((wo y).getD 0 + hv e = (wo h).getD 0) && decide ((eo y).getD 0 + 1 = (eo h).getD 0))
theorem ng_nk_0 {wo eo : Nat → Option Nat} {ib : Nat → Bool} {oe ot hv : Nat → Nat} {h z e : Nat} (hn : ng_nx oe ot e h = none) : ng_nk wo eo ib oe ot hv h z e = false := by
  unfold ng_nk; rw [hn]
theorem ng_nk_e {wo eo : Nat → Option Nat} {ib : Nat → Bool} {oe ot hv : Nat → Nat} {h z e y : Nat} (hn : ng_nx oe ot e h = some y) : ng_nk wo eo ib oe ot hv h z e = (ng_go wo ib y z && (decide ((wo y).getD 0 + hv e = (wo h).getD 0) && decide ((eo y).getD 0 + 1 = (eo h).getD 0))) := by
  unfold ng_nk; rw [hn]
theorem ng_nk_1 {wo eo : Nat → Option Nat} {ib : Nat → Bool} {oe ot hv : Nat → Nat} {h z e y : Nat} (hn : ng_nx oe ot e h = some y) (hg : ng_go wo ib y z = false) : ng_nk wo eo ib oe ot hv h z e = false := by
  rw [ng_nk_e hn, hg]; rfl
theorem ng_nk_2 {wo eo : Nat → Option Nat} {ib : Nat → Bool} {oe ot hv : Nat → Nat} {h z e y wy wh : Nat} (hn : ng_nx oe ot e h = some y) (h1 : wo y = some wy) (h2 : wo h = some wh) (hw : wy + hv e ≠ wh) : ng_nk wo eo ib oe ot hv h z e = false := by
  rw [ng_nk_e hn, h1, h2, decide_eq_false (show ¬ ((some wy).getD 0 + hv e = (some wh).getD 0) from hw)]
  simp
theorem ng_nk_3 {wo eo : Nat → Option Nat} {ib : Nat → Bool} {oe ot hv : Nat → Nat} {h z e y ny nh : Nat} (hn : ng_nx oe ot e h = some y) (h1 : eo y = some ny) (h2 : eo h = some nh) (hw : ny + 1 ≠ nh) : ng_nk wo eo ib oe ot hv h z e = false := by
  rw [ng_nk_e hn, h1, h2, decide_eq_false (show ¬ ((some ny).getD 0 + 1 = (some nh).getD 0) from hw)]
  simp
theorem ng_nk_t {wo eo : Nat → Option Nat} {ib : Nat → Bool} {oe ot hv : Nat → Nat} {h z e y wy wh ny nh : Nat} (hn : ng_nx oe ot e h = some y) (hg : ng_go wo ib y z = true) (h1 : wo y = some wy) (h2 : wo h = some wh) (h3 : eo y = some ny) (h4 : eo h = some nh) (hw : wy + hv e = wh) (hq : ny + 1 = nh) : ng_nk wo eo ib oe ot hv h z e = true := by
  rw [ng_nk_e hn, hg, h1, h2, h3, h4, decide_eq_true (show (some wy).getD 0 + hv e = (some wh).getD 0 from hw), decide_eq_true (show (some ny).getD 0 + 1 = (some nh).getD 0 from hq)]
  rfl
def ng_nxD (wo eo : Nat → Option Nat) (ib : Nat → Bool) (oe ot hv : Nat → Nat) (ne z h : Nat) : Option (Nat × Nat) := match ng_fst (ng_nk wo eo ib oe ot hv h z) ne 0 with
  | none => none
  | some e => match ng_nx oe ot e h with
    | none => none
    | some y => some (e, y)
theorem ng_inc_nx {oe ot : Nat → Nat} {e a x : Nat} (h : dm_inc oe ot e a x) (hd : oe e ≠ ot e) : ng_nx oe ot e a = some x := by
  unfold ng_nx
  rcases h with ⟨q1, q2⟩ | ⟨q1, q2⟩
  · rw [if_pos q1, q2]
  · rw [if_neg (fun q => hd (q.trans q1.symm)), if_pos q1, q2]
theorem ng_T_nx {np ne z h wh nh : Nat} {ib : Nat → Bool} {oe ot hv : Nat → Nat} {wo eo : Nat → Option Nat} (hnp : np ≤ 20) (hE : ∀ i, i < ne → oe i < np ∧ ot i < np) (hdf : ∀ i, i < ne → oe i ≠ ot i) (hhv : ∀ i, i < ne → hv i ≤ 1000000) (hT : ng_T ne z ib oe ot hv wo eo) (hh : h < 20) (hz : h ≠ z) (hw : wo h = some wh) (hn : eo h = some nh) : ∃ k y wy ny, ng_fst (ng_nk wo eo ib oe ot hv h z) ne 0 = some k ∧ k < ne ∧ ng_nx oe ot k h = some y ∧ y < np ∧ wo y = some wy ∧ eo y = some ny ∧ ny + 1 = nh := by
  have hF : dm_FAR = 1000000000000 := rfl
  obtain ⟨e, x, he, hi, hx, hd⟩ := hT.1.2.2.2.2.2 h hh hz (by rw [hw]; intro q; cases q)
  have h2 := ng_T_2 hnp hE hhv hT he hi hx
  have hxl := (dm_inc_lt hE he hi).2
  obtain ⟨n', e1, e2, e3, e4⟩ := ng_V_get hT.1 hh hw
  rw [hn] at e1
  cases e1
  have hfx : ng_F wo eo x < dm_FAR := by omega
  have hok : ng_nk wo eo ib oe ot hv h z e = true := by
    cases hwx : wo x with
    | none => rw [ng_F_n hwx] at hfx; omega
    | some wx =>
      obtain ⟨nx, f1, f2, f3, f4⟩ := ng_V_get hT.1 (show x < 20 by omega) hwx
      have hgo : ng_go wo ib x z = true := by
        unfold ng_go
        rw [hwx]
        rcases hx with q2 | q2
        · rw [decide_eq_true q2]; rfl
        · rw [q2]; simp
      rw [e4, f4] at hd h2
      exact ng_nk_t (ng_inc_nx hi (hdf e he)) hgo hwx hw f1 hn (by omega) (by omega)
  cases hf : ng_fst (ng_nk wo eo ib oe ot hv h z) ne 0 with
  | none =>
    have := ng_fst_none hf e (Nat.zero_le _) (by omega)
    rw [hok] at this; cases this
  | some k =>
    obtain ⟨k1, k2, -⟩ := ng_fst_ok hf
    have hk : k < ne := by omega
    cases hnx : ng_nx oe ot k h with
    | none => rw [ng_nk_0 hnx] at k1; cases k1
    | some y =>
      rw [ng_nk_e hnx] at k1
      simp only [Bool.and_eq_true, decide_eq_true_eq] at k1
      obtain ⟨wy, g1, -⟩ := ng_go_t k1.1
      have hyl := ng_nx_lt hnx (hE k hk).1 (hE k hk).2
      obtain ⟨ny, g2, -, -, -⟩ := ng_V_get hT.1 (show y < 20 by omega) g1
      refine ⟨k, y, wy, ny, rfl, hk, hnx, hyl, g1, g2, ?_⟩
      have := k1.2.2
      rw [g2, hn] at this
      exact this
theorem ng_nx_sum {oe ot : Nat → Nat} {e h y : Nat} (hn : ng_nx oe ot e h = some y) : oe e + ot e - h = y ∧ h ≤ oe e + ot e := by
  unfold ng_nx at hn
  split at hn
  · cases hn; omega
  · split at hn
    · cases hn; omega
    · cases hn
theorem ng_m2 {x : Int32} (h0 : ¬ x < 0) (h1 : ¬ x = 0) (h2 : ¬ x = nI 1) : ¬ (x - nI 2) < 0 := by
  obtain ⟨j, hj, rfl⟩ := nI_of h0
  have q1 : j ≠ 0 := fun q => h1 (by rw [q]; rfl)
  have q2 : j ≠ 1 := fun q => h2 (by rw [q])
  rw [pk_sub (show 2 ≤ j by omega)]
  exact nI_pos (by omega)
theorem ng_te_o {l : Nat} {tr : Nat → Nat} {x : Int32} {b : Bool} (h : ¬ x < nI l) : ng_te l tr x b = -1 := by
  unfold ng_te; rw [nb_inI_f3 h]; rfl
theorem ng_te_v1 {l : List Nat} {la : Nat → Nat} {x : Int32} {j : Nat} (hx : x = nI j) (hj : j < l.length) (hl : l.length < 2 ^ 31) (ht : ∀ i, i < l.length → l[i]? = some (la i)) : ng_te l.length (fun i => l.getD i 0) x false = nI (la j) := by
  rw [← ng_te_l hl ht]
  unfold ng_te
  rw [hx, nb_inI_nI hl (by omega), decide_eq_true hj, nI_clamp (by omega)]
  rfl
theorem ng_te_v2 {l : List Nat} {la : Nat → Nat} {x : Int32} {j : Nat} (hx : x = nI j) (hj : j < l.length) (hl : l.length < 2 ^ 31) (ht : ∀ i, i < l.length → l[i]? = some (la i)) : ng_te l.length (fun i => l.getD i 0) x true = nI (la (l.length - 1 - j)) := by
  rw [← ng_te_l hl ht]
  unfold ng_te
  rw [hx, nb_inI_nI hl (by omega), decide_eq_true hj, nI_clamp (by omega)]
  rfl
