/-! the class's matcher and the model's search of all pairings find the same -/
def ng_nm (w k : Nat) : Nat × Nat := ng_wq (ng_F1, 0) w k
def ng_nn (x : Nat × Nat) : Prop := x.1 ≤ ng_F1 ∧ (x.1 = ng_F1 → x.2 = 0)
theorem ng_nn_0 : ng_nn (ng_F1, 0) := ⟨Nat.le_refl _, fun _ => rfl⟩
theorem ng_nn_wq {x : Nat × Nat} {w k : Nat} (hx : ng_nn x) : ng_nn (ng_wq x w k) := by
  obtain ⟨a, b⟩ := x
  obtain ⟨h1, h2⟩ := hx
  dsimp only at h1 h2
  unfold ng_wq
  dsimp only
  split
  · exact ⟨by dsimp only; omega, fun z => by dsimp only at z ⊢; omega⟩
  · split
    · exact ⟨h1, fun z => by dsimp only at z ⊢; omega⟩
    · exact ⟨h1, h2⟩
theorem ng_nn_nm (w k : Nat) : ng_nn (ng_nm w k) := ng_nn_wq ng_nn_0
theorem ng_nm_lt {w k : Nat} (h : w < ng_F1) : ng_nm w k = (w, k) := by
  unfold ng_nm ng_wq
  exact if_pos h
theorem ng_nm_ge {w k : Nat} (h : ng_F1 ≤ w) : ng_nm w k = (ng_F1, 0) := by
  unfold ng_nm ng_wq
  rw [if_neg (by dsimp only; omega), if_neg (by dsimp only; omega)]
theorem ng_wq_0 {x : Nat × Nat} (hx : ng_nn x) : ng_wq x ng_F1 0 = x := by
  unfold ng_wq
  rw [if_neg (by have := hx.1; omega), if_neg (by omega)]
theorem ng_wq_raw {x : Nat × Nat} {w k : Nat} (hx : ng_nn x) : ng_wq x w k = ng_wq x (ng_nm w k).1 (ng_nm w k).2 := by
  by_cases h : w < ng_F1
  · rw [ng_nm_lt h]
  · rw [ng_nm_ge (by omega)]
    dsimp only
    rw [ng_wq_0 hx]
    unfold ng_wq
    have := hx.1
    rw [if_neg (by omega), if_neg (by omega)]
theorem ng_wq_comm {x y : Nat × Nat} (hx : ng_nn x) (hy : ng_nn y) : ng_wq x y.1 y.2 = ng_wq y x.1 x.2 := by
  obtain ⟨a, b⟩ := x
  obtain ⟨c, d⟩ := y
  obtain ⟨h1, h2⟩ := hx
  obtain ⟨h3, h4⟩ := hy
  dsimp only at h1 h2 h3 h4
  unfold ng_wq
  dsimp only
  repeat' split
  all_goals first | rfl | (rw [Prod.mk.injEq]; omega) | (exfalso; omega)
theorem ng_wq_assoc {x y z : Nat × Nat} (hx : ng_nn x) (hy : ng_nn y) (hz : ng_nn z) : ng_wq (ng_wq x y.1 y.2) z.1 z.2 = ng_wq x (ng_wq y z.1 z.2).1 (ng_wq y z.1 z.2).2 := by
  obtain ⟨a, b⟩ := x
  obtain ⟨c, d⟩ := y
  obtain ⟨u, v⟩ := z
  obtain ⟨h1, h2⟩ := hx
  obtain ⟨h3, h4⟩ := hy
  obtain ⟨h5, h6⟩ := hz
  dsimp only at h1 h2 h3 h4 h5 h6
  unfold ng_wq
  dsimp only
  by_cases k1 : c < a
  · rw [if_pos k1]
    dsimp only
    repeat' split
    all_goals first | rfl | (rw [Prod.mk.injEq]; omega) | (exfalso; omega) | (simp only [Prod.mk.injEq] at *; omega)
  · rw [if_neg k1]
    by_cases k2 : c = a ∧ c ≠ ng_F1
    · rw [if_pos k2]
      dsimp only
      repeat' split
      all_goals first | rfl | (rw [Prod.mk.injEq]; omega) | (exfalso; omega) | (simp only [Prod.mk.injEq] at *; omega)
    · rw [if_neg k2]
      dsimp only
      repeat' split
      all_goals first | rfl | (rw [Prod.mk.injEq]; omega) | (exfalso; omega) | (simp only [Prod.mk.injEq] at *; omega)
def ng_tw (pw lw lc : Nat → Nat) (g pl : Nat) : Nat → Nat → Nat × Nat
  | 0, _ => (ng_F1, 0)
  | n + 1, a => if nb_t (nI g) a = true then ng_wq (ng_nm (ng_ww pw lw g pl a) (lc (ng_wo g pl a))) (ng_tw pw lw lc g pl n (a + 1)).1 (ng_tw pw lw lc g pl n (a + 1)).2 else ng_tw pw lw lc g pl n (a + 1)
theorem ng_nn_tw {pw lw lc : Nat → Nat} {g pl : Nat} : ∀ (n a : Nat), ng_nn (ng_tw pw lw lc g pl n a) := by
  intro n
  induction n with
  | zero => intro a; exact ng_nn_0
  | succ n ih =>
    intro a
    unfold ng_tw
    split
    · exact ng_nn_wq (ng_nn_nm _ _)
    · exact ih _
theorem ng_nn_sg {pw lw lc : Nat → Nat} {g pl : Nat} : ∀ (n : Nat), ng_nn (ng_sg pw lw lc g pl n) := by
  intro n
  induction n with
  | zero => exact ng_nn_0
  | succ n ih =>
    unfold ng_sg
    split
    · exact ng_nn_wq ih
    · exact ih
theorem ng_sg_tw {pw lw lc : Nat → Nat} {g pl : Nat} : ∀ (n m : Nat), ng_wq (ng_sg pw lw lc g pl m) (ng_tw pw lw lc g pl n (pl + m)).1 (ng_tw pw lw lc g pl n (pl + m)).2 = ng_sg pw lw lc g pl (m + n) := by
  intro n
  induction n with
  | zero => intro m; exact ng_wq_0 (ng_nn_sg m)
  | succ n ih =>
    intro m
    have h := ih (m + 1)
    rw [show m + 1 + n = m + (n + 1) by omega] at h
    rw [← h]
    by_cases hb : nb_t (nI g) (pl + m) = true
    · have e := ng_wq_raw (w := ng_ww pw lw g pl (pl + m)) (k := lc (ng_wo g pl (pl + m))) (ng_nn_sg (pw := pw) (lw := lw) (lc := lc) (g := g) (pl := pl) m)
      rw [ng_tw, if_pos hb, ng_sg, if_pos hb, e, ng_wq_assoc (ng_nn_sg m) (ng_nn_nm _ _) (ng_nn_tw _ _)]
      rfl
    · rw [ng_tw, if_neg hb, ng_sg, if_neg hb]
      rfl
/-! a sum of pairings: how many, their weight, the first -/
abbrev ng_it : Type := Option (Nat × Nat × (Nat → Option Nat))
def ng_mo (x y : ng_it) : ng_it := match x with
  | none => y
  | some x => match y with
    | none => some x
    | some y => if y.2.1 < x.2.1 then some y else if y.2.1 = x.2.1 then some (x.1 + y.1, x.2.1, x.2.2) else some x
theorem ng_mo_n (x : ng_it) : ng_mo x none = x := by cases x <;> rfl
theorem ng_mo_ss (k w k2 w2 : Nat) (p p2 : Nat → Option Nat) : ng_mo (some (k, w, p)) (some (k2, w2, p2)) = if w2 < w then some (k2, w2, p2) else if w2 = w then some (k + k2, w, p) else some (k, w, p) := rfl
theorem ng_mo_assoc (x y z : ng_it) : ng_mo (ng_mo x y) z = ng_mo x (ng_mo y z) := by
  cases x with
  | none => rfl
  | some x =>
    cases y with
    | none => rfl
    | some y =>
      cases z with
      | none => rw [ng_mo_n, ng_mo_n]
      | some z =>
        obtain ⟨k, w, p⟩ := x
        obtain ⟨k2, w2, p2⟩ := y
        obtain ⟨k3, w3, p3⟩ := z
        rw [ng_mo_ss, ng_mo_ss]
        by_cases h1 : w2 < w
        · rw [if_pos h1, ng_mo_ss]
          by_cases h3 : w3 < w2
          · rw [if_pos h3, ng_mo_ss, if_pos (by omega)]
          · rw [if_neg h3]
            by_cases h4 : w3 = w2
            · rw [if_pos h4, ng_mo_ss, if_pos h1]
            · rw [if_neg h4, ng_mo_ss, if_pos h1]
        · rw [if_neg h1]
          by_cases h2 : w2 = w
          · rw [if_pos h2, ng_mo_ss]
            by_cases h3 : w3 < w2
            · rw [if_pos h3, ng_mo_ss, if_pos (by omega), if_pos (by omega)]
            · rw [if_neg h3, if_neg (by omega)]
              by_cases h4 : w3 = w2
              · rw [if_pos h4, if_pos (by omega), ng_mo_ss, if_neg h1, if_pos h2, Nat.add_assoc]
              · rw [if_neg h4, if_neg (by omega), ng_mo_ss, if_neg h1, if_pos h2]
          · rw [if_neg h2, ng_mo_ss]
            by_cases h3 : w3 < w2
            · rw [if_pos h3, ng_mo_ss]
            · rw [if_neg h3]
              by_cases h4 : w3 = w2
              · rw [if_pos h4, ng_mo_ss, if_neg h1, if_neg h2, if_neg (by omega), if_neg (by omega)]
              · rw [if_neg h4, ng_mo_ss, if_neg h1, if_neg h2, if_neg (by omega), if_neg (by omega)]
def ng_one (mn : Nat) (co : Nat → Option Nat) (pr : Nat → Option Nat) : ng_it := some (1, ng_hw pr co mn, pr)
def ng_sm (mn : Nat) (co : Nat → Option Nat) (L : List (Nat → Option Nat)) : ng_it := L.foldl (fun x pr => ng_mo x (ng_one mn co pr)) none
theorem ng_sm_f {mn : Nat} {co : Nat → Option Nat} : ∀ (L : List (Nat → Option Nat)) (x : ng_it), L.foldl (fun x pr => ng_mo x (ng_one mn co pr)) x = ng_mo x (ng_sm mn co L) := by
  intro L
  induction L with
  | nil => intro x; exact (ng_mo_n x).symm
  | cons p L ih =>
    intro x
    unfold ng_sm
    rw [List.foldl_cons, List.foldl_cons, ih, ih, ng_mo_assoc]
    rfl
theorem ng_sm_app {mn : Nat} {co : Nat → Option Nat} (L M : List (Nat → Option Nat)) : ng_sm mn co (L ++ M) = ng_mo (ng_sm mn co L) (ng_sm mn co M) := by
  show List.foldl _ none (L ++ M) = _
  rw [List.foldl_append, ng_sm_f]
  rfl
theorem ng_fo_sm {mn bw : Nat} {co be : Nat → Option Nat} : ∀ (L : List (Nat → Option Nat)) (x : ng_it), (∀ t, x = some t → 0 < t.1) → L.foldl (ng_hd mn co) (x.getD (0, bw, be)) = (L.foldl (fun x pr => ng_mo x (ng_one mn co pr)) x).getD (0, bw, be) := by
  intro L
  induction L with
  | nil => intro x _; rfl
  | cons p L ih =>
    intro x hx
    rw [List.foldl_cons, List.foldl_cons]
    have h1 : ng_hd mn co (x.getD (0, bw, be)) p = (ng_mo x (ng_one mn co p)).getD (0, bw, be) := by
      cases x with
      | none =>
        show ng_hd mn co (0, bw, be) p = (1, ng_hw p co mn, p)
        unfold ng_hd
        rw [if_neg (by dsimp only; omega), if_neg (by dsimp only; omega)]
      | some t =>
        obtain ⟨k, w, q⟩ := t
        have hk := hx _ rfl
        dsimp only at hk
        show ng_hd mn co (k, w, q) p = _
        unfold ng_hd ng_one
        rw [ng_mo_ss]
        dsimp only
        by_cases h1 : ng_hw p co mn < w
        · rw [if_pos h1, if_neg (by omega), if_neg (by omega)]
          rfl
        · rw [if_neg h1]
          by_cases h2 : ng_hw p co mn = w
          · rw [if_pos h2, if_neg (by omega), if_pos ⟨hk, h2⟩]
            rfl
          · rw [if_neg h2, if_pos ⟨hk, by omega⟩]
            rfl
    rw [h1]
    refine ih _ (fun t ht => ?_)
    cases x with
    | none =>
      have h : some (1, ng_hw p co mn, p) = some t := ht
      rw [← Option.some.inj h]
      exact Nat.one_pos
    | some r =>
      obtain ⟨k, w, q⟩ := r
      have hk := hx _ rfl
      dsimp only at hk
      unfold ng_one at ht
      rw [ng_mo_ss] at ht
      by_cases h1 : ng_hw p co mn < w
      · rw [if_pos h1] at ht
        rw [← Option.some.inj ht]
        exact Nat.one_pos
      · rw [if_neg h1] at ht
        by_cases h2 : ng_hw p co mn = w
        · rw [if_pos h2] at ht
          rw [← Option.some.inj ht]
          exact Nat.lt_of_lt_of_le hk (Nat.le_add_right _ _)
        · rw [if_neg h2] at ht
          rw [← Option.some.inj ht]
          exact hk
def ng_cl (B : Nat) (v : Nat × Nat) (p : Nat → Option Nat) : ng_it := if v.1 = ng_F1 then none else some (v.2, B + v.1, p)
theorem ng_cl_n {B : Nat} {v : Nat × Nat} {p : Nat → Option Nat} (h : v.1 = ng_F1) : ng_cl B v p = none := if_pos h
theorem ng_cl_s {B : Nat} {v : Nat × Nat} {p : Nat → Option Nat} (h : v.1 ≠ ng_F1) : ng_cl B v p = some (v.2, B + v.1, p) := if_neg h
theorem ng_cl_m {B w k : Nat} {v : Nat × Nat} {p q : Nat → Option Nat} (hw : w ≤ ng_F1) (hv : ng_nn v) : ng_mo (ng_cl B (w, k) p) (ng_cl B v q) = ng_cl B (ng_wq (ng_nm w k) v.1 v.2) (if w = (ng_wq (ng_nm w k) v.1 v.2).1 then p else q) := by
  obtain ⟨a, b⟩ := v
  obtain ⟨h1, h2⟩ := hv
  dsimp only at h1 h2 ⊢
  by_cases hF : w = ng_F1
  · rw [ng_cl_n (v := (w, k)) hF, ng_nm_ge (by omega)]
    have e : ng_wq (ng_F1, 0) a b = (a, b) := by
      unfold ng_wq
      dsimp only
      by_cases z : a < ng_F1
      · rw [if_pos z]
      · rw [if_neg z, if_neg (by omega), Prod.mk.injEq]
        omega
    rw [e]
    dsimp only
    by_cases z : a = ng_F1
    · rw [ng_cl_n (v := (a, b)) z, ng_cl_n (v := (a, b)) z]
      rfl
    · rw [if_neg (by omega)]
      rfl
  · rw [ng_nm_lt (by omega), ng_cl_s (v := (w, k)) hF]
    unfold ng_wq
    dsimp only
    by_cases z : a = ng_F1
    · rw [ng_cl_n (v := (a, b)) z, ng_mo_n, if_neg (by omega), if_neg (by omega), ng_cl_s (v := (w, k)) hF, if_pos rfl]
    · rw [ng_cl_s (v := (a, b)) z, ng_mo_ss]
      by_cases c1 : a < w
      · rw [if_pos c1, if_pos (show B + a < B + w by omega)]
        dsimp only
        rw [if_neg (by omega), ng_cl_s (v := (a, b)) z]
      · rw [if_neg c1, if_neg (show ¬ B + a < B + w by omega)]
        by_cases c2 : a = w
        · rw [if_pos (show B + a = B + w by omega), if_pos (show a = w ∧ a ≠ ng_F1 from ⟨c2, z⟩)]
          dsimp only
          rw [if_pos rfl, ng_cl_s (v := (w, k + b)) hF]
        · rw [if_neg (show ¬ B + a = B + w by omega), if_neg (show ¬ (a = w ∧ a ≠ ng_F1) by omega)]
          dsimp only
          rw [if_pos rfl, ng_cl_s (v := (w, k)) hF]
