/-! a stage over a middle, entry by entry -/
def ng_lo1 (np m0 : Nat) (ct ct1 : Nat → Nat) (i : Nat) : Prop := ∀ x y, x < np → y < np → ct1 (x * 20 + y) = if x < i then dm_st m0 (fun a b => ct (a * 20 + b)) x y else ct (x * 20 + y)
def ng_lo2 (np m0 : Nat) (ct ct1 : Nat → Nat) (i j : Nat) : Prop := ∀ x y, x < np → y < np → ct1 (x * 20 + y) = if x < i ∨ (x = i ∧ y < j) then dm_st m0 (fun a b => ct (a * 20 + b)) x y else ct (x * 20 + y)
theorem ng_jn0 {np m0 i : Nat} {ct ct1 : Nat → Nat} (h : ng_lo1 np m0 ct ct1 i) : ng_lo2 np m0 ct ct1 i 0 := by
  intro x y hx hy
  rw [h x y hx hy]
  by_cases q : x < i
  · rw [if_pos q, if_pos (Or.inl q)]
  · rw [if_neg q, if_neg (by omega)]
theorem ng_jn_end {np m0 i j : Nat} {ct ct1 : Nat → Nat} (hj : np ≤ j) (h : ng_lo2 np m0 ct ct1 i j) : ng_lo1 np m0 ct ct1 (i + 1) := by
  intro x y hx hy
  rw [h x y hx hy]
  by_cases q : x < i + 1
  · rw [if_pos q, if_pos (by omega)]
  · rw [if_neg q, if_neg (by omega)]
theorem ng_jn_far {np m0 i : Nat} {ct ct1 : Nat → Nat} (hF : ct (i * 20 + m0) = dm_FAR) (h : ng_lo1 np m0 ct ct1 i) : ng_lo1 np m0 ct ct1 (i + 1) := by
  intro x y hx hy
  rw [h x y hx hy]
  by_cases q : x < i
  · rw [if_pos q, if_pos (by omega)]
  · rw [if_neg q]
    by_cases q2 : x = i
    · subst q2
      rw [if_pos (by omega)]
      unfold dm_st
      rw [if_neg (fun z => z.1 hF)]
    · rw [if_neg (by omega)]
theorem ng_jn_at {np m0 i j : Nat} {ct ct1 : Nat → Nat} (hi : i < np) (hj : j < np) (h : ng_lo2 np m0 ct ct1 i j) : ct1 (i * 20 + j) = ct (i * 20 + j) := by
  rw [h i j hi hj, if_neg (by omega)]
theorem ng_jn_row {np m0 i j : Nat} {ct ct1 : Nat → Nat} (hm : m0 < np) (hmm : ct (m0 * 20 + m0) = 0) (hj : j < np) (h : ng_lo2 np m0 ct ct1 i j) : ct1 (m0 * 20 + j) = ct (m0 * 20 + j) := by
  rw [h m0 j hm hj]
  split
  · exact dm_st_row (D := fun a b => ct (a * 20 + b)) hmm j
  · rfl
theorem ng_jn_col {np m0 i : Nat} {ct ct1 : Nat → Nat} (hi : i < np) (hm : m0 < np) (h : ng_lo1 np m0 ct ct1 i) : ct1 (i * 20 + m0) = ct (i * 20 + m0) := by
  rw [h i m0 hi hm, if_neg (Nat.lt_irrefl _)]
theorem ng_jn_skip {np m0 i j : Nat} {ct ct1 : Nat → Nat} (hi : i < np) (hj : j < np) (hF : ct (m0 * 20 + j) = dm_FAR) (h : ng_lo2 np m0 ct ct1 i j) : ng_lo2 np m0 ct ct1 i (j + 1) := by
  intro x y hx hy
  by_cases q : x = i ∧ y = j
  · obtain ⟨q1, q2⟩ := q
    subst q1 q2
    rw [ng_jn_at hi hj h, if_pos (by omega)]
    unfold dm_st
    rw [if_neg (fun z => z.2.1 hF)]
  · rw [h x y hx hy]
    by_cases z : x < i ∨ (x = i ∧ y < j)
    · rw [if_pos z, if_pos (by omega)]
    · rw [if_neg z, if_neg (by omega)]
theorem ng_jn_low {np m0 i j : Nat} {ct ct1 : Nat → Nat} (hn : np ≤ 20) (hi : i < np) (hj : j < np) (hF1 : ct (i * 20 + m0) ≠ dm_FAR) (hF2 : ct (m0 * 20 + j) ≠ dm_FAR) (h : ng_lo2 np m0 ct ct1 i j) : ng_lo2 np m0 ct (ng_low ct1 (i * 20 + j) (ct (i * 20 + m0) + ct (m0 * 20 + j))) i (j + 1) := by
  have hat := ng_jn_at hi hj h
  intro x y hx hy
  by_cases q : x = i ∧ y = j
  · obtain ⟨q1, q2⟩ := q
    subst q1 q2
    rw [if_pos (by omega)]
    unfold ng_low dm_st
    rw [hat]
    by_cases z : ct (x * 20 + m0) + ct (m0 * 20 + y) < ct (x * 20 + y)
    · rw [if_pos z, if_pos ⟨hF1, hF2, z⟩, va_up_self]
    · rw [if_neg z, if_neg (fun w => z w.2.2), hat]
  · have e1 : ng_low ct1 (i * 20 + j) (ct (i * 20 + m0) + ct (m0 * 20 + j)) (x * 20 + y) = ct1 (x * 20 + y) := by
      unfold ng_low
      split
      · refine va_up_ne _ _ (fun z => q ?_)
        constructor <;> omega
      · rfl
    rw [e1, h x y hx hy]
    by_cases z : x < i ∨ (x = i ∧ y < j)
    · rw [if_pos z, if_pos (by omega)]
    · rw [if_neg z, if_neg (by omega)]
theorem ng_low_far {f : Nat → Nat} {k c : Nat} (h : ∀ i, i < 400 → f i ≤ dm_FAR) (hk : k < 400) : ∀ i, i < 400 → ng_low f k c i ≤ dm_FAR := by
  intro i hi
  unfold ng_low
  split
  · rename_i hc
    by_cases q : i = k
    · subst q
      rw [va_up_self]
      have := h i hi
      omega
    · rw [va_up_ne _ _ q]; exact h i hi
  · exact h i hi
theorem ng_up_far {f : Nat → Nat} {k v : Nat} (h : ∀ i, i < 400 → f i ≤ dm_FAR) (hv : v ≤ dm_FAR) : ∀ i, i < 400 → va_up f k v i ≤ dm_FAR := by
  intro i hi
  by_cases q : i = k
  · subst q; rw [va_up_self]; exact hv
  · rw [va_up_ne _ _ q]; exact h i hi
/-- the table of costs is that of the graph -/
def ng_M (np ne : Nat) (bd : Int32) (er : Int64) (oe ot wt ct : Nat → Nat) : Prop := dm_I np ne (fun k => !nb_t bd k) oe ot (fun e => ng_w er wt e * 64 + 1) np (fun a b => ct (a * 20 + b)) ∧ ∀ i, i < 400 → ct i ≤ dm_FAR
theorem ng_low_at {f : Nat → Nat} {k c : Nat} : ng_low f k c k = min (f k) c := by
  unfold ng_low
  split
  · rw [va_up_self]; omega
  · omega
theorem ng_low_ne {f : Nat → Nat} {k c i : Nat} (h : i ≠ k) : ng_low f k c i = f i := by
  unfold ng_low
  split
  · exact va_up_ne _ _ h
  · rfl
theorem ng_ed {np j c : Nat} {inn : Nat → Bool} {oe ot co ct1 : Nat → Nat} (hn : np ≤ 20) (hE : ∀ e, e < j + 1 → oe e < np ∧ ot e < np) (hne : oe j ≠ ot j) (hc : co j = c) (hj : c < dm_FAR) (h : dm_I np j inn oe ot co 0 (fun a b => ct1 (a * 20 + b))) : dm_I np (j + 1) inn oe ot co 0 (fun a b => ng_low (ng_low ct1 (oe j * 20 + ot j) c) (ot j * 20 + oe j) c (a * 20 + b)) := by
  have hj1 := hE j (Nat.lt_succ_self j)
  subst hc
  refine dm_edge (D := fun a b => ct1 (a * 20 + b)) hE hne hj ?_ ?_ h
  · intro a b ha hb hab
    show ng_low (ng_low ct1 (oe j * 20 + ot j) (co j)) (ot j * 20 + oe j) (co j) (a * 20 + b) = _
    rcases hab with ⟨q1, q2⟩ | ⟨q1, q2⟩
    · subst q1 q2
      rw [ng_low_ne (by omega), ng_low_at]
    · subst q1 q2
      rw [ng_low_at, ng_low_ne (by omega)]
  · intro a b ha hb hab
    show ng_low (ng_low ct1 (oe j * 20 + ot j) (co j)) (ot j * 20 + oe j) (co j) (a * 20 + b) = _
    have z1 : a * 20 + b ≠ ot j * 20 + oe j := fun q => hab (Or.inr ⟨by omega, by omega⟩)
    have z2 : a * 20 + b ≠ oe j * 20 + ot j := fun q => hab (Or.inl ⟨by omega, by omega⟩)
    rw [ng_low_ne z1, ng_low_ne z2]
def ng_nxt (bd : Int32) (er : Int64) (oe ot wt ct : Nat → Nat) (ne z h : Nat) : Option (Nat × Nat) := match ng_fst (ng_ok bd er oe ot wt ct h z) ne 0 with
  | none => none
  | some e => match ng_nx oe ot e h with
    | none => none
    | some y => some (e, y)
def ng_path (nx : Nat → Option (Nat × Nat)) (z : Nat) : Nat → Nat → List Nat
  | 0, _ => []
  | n + 1, h => if h = z then [] else match nx h with
    | none => []
    | some q => q.1 :: ng_path nx z n q.2
theorem ng_path_z {nx : Nat → Option (Nat × Nat)} {z n : Nat} : ng_path nx z n z = [] := by
  cases n <;> simp [ng_path]
theorem ng_fst_ok {P : Nat → Bool} : ∀ {n i k : Nat}, ng_fst P n i = some k → P k = true ∧ k < i + n ∧ i ≤ k := by
  intro n
  induction n with
  | zero => intro i k h; simp [ng_fst] at h
  | succ n ih =>
    intro i k h
    unfold ng_fst at h
    split at h
    · rename_i hp
      cases h
      exact ⟨hp, by omega, Nat.le_refl _⟩
    · obtain ⟨h1, h2, h3⟩ := ih h
      exact ⟨h1, by omega, by omega⟩
theorem ng_ok_some {bd : Int32} {er : Int64} {oe ot wt ct : Nat → Nat} {h z e : Nat} (q : ng_ok bd er oe ot wt ct h z e = true) : ∃ y, ng_nx oe ot e h = some y ∧ (y = z ∨ nb_t bd y = false) ∧ ct (y * 20 + z) + (ng_w er wt e * 64 + 1) = ct (h * 20 + z) := by
  unfold ng_ok at q
  cases hn : ng_nx oe ot e h with
  | none => rw [hn] at q; cases q
  | some y =>
    rw [hn] at q
    simp only [Bool.and_eq_true, Bool.or_eq_true, decide_eq_true_eq, Bool.not_eq_true'] at q
    exact ⟨y, rfl, q.1, q.2⟩
theorem ng_min {a b : Nat} (ha : a < 2 ^ 31) (hb : b < 2 ^ 31) : (if nI b < nI a then nI b else nI a) = nI (min a b) := by
  by_cases h : b < a
  · rw [if_pos ((nI_ltI hb ha).mpr h), Nat.min_eq_right (by omega)]
  · rw [if_neg (fun q => h ((nI_ltI hb ha).mp q)), Nat.min_eq_left (by omega)]
theorem ng_max {a b : Nat} (ha : a < 2 ^ 31) (hb : b < 2 ^ 31) : (if nI a < nI b then nI b else nI a) = nI (max a b) := by
  by_cases h : a < b
  · rw [if_pos ((nI_ltI ha hb).mpr h), Nat.max_eq_right (by omega)]
  · rw [if_neg (fun q => h ((nI_ltI ha hb).mp q)), Nat.max_eq_left (by omega)]
def ng_set (tr : Nat → Nat) : Nat → Int64
  | 0 => lN 0
  | n + 1 => ng_set tr n ||| nb_p (tr n)
def ng_osg (x : Int64) (sg : Nat → Nat) : Nat → Int32
  | 0 => nI 0
  | n + 1 => if nb_u x n = true then ng_osg x sg n ^^^ nI (sg n) else ng_osg x sg n
def ng_opt (x : Int64) (oe ot : Nat → Nat) : Nat → Int32
  | 0 => nI 0
  | n + 1 => if nb_u x n = true then ng_opt x oe ot n ^^^ (nb_o (oe n) ^^^ nb_o (ot n)) else ng_opt x oe ot n
theorem ng_dropl {α : Type} {l : List α} {n : Nat} (h : l.drop n = []) (hn : n ≤ l.length) : l.length = n := by
  have := congrArg List.length h
  rw [List.length_drop] at this
  simp at this
  omega
theorem ng_dropc {l t : List Nat} {n k : Nat} (h : l.drop n = k :: t) : l[n]? = some k ∧ l.drop (n + 1) = t ∧ n < l.length := by
  have h0 : n < l.length := by
    rcases Nat.lt_or_ge n l.length with q | q
    · exact q
    · rw [List.drop_eq_nil_of_le q] at h; cases h
  rw [List.drop_eq_getElem_cons h0] at h
  injection h with h1 h2
  refine ⟨?_, h2, h0⟩
  rw [List.getElem?_eq_getElem h0, h1]
def ng_te (tl : Nat) (tr : Nat → Nat) (a : Int32) (b : Bool) : Int32 := if nb_in tl a = true then (if b = true then nI (tr (tl - 1 - a.toNatClampNeg)) else nI (tr a.toNatClampNeg)) else -1
theorem ng_trs {l : List Nat} {n k : Nat} {tr1 : Nat → Nat} (h1 : l[n]? = some k) (h : ∀ i, i < n → l[i]? = some (tr1 i)) : ∀ i, i < n + 1 → l[i]? = some (va_up tr1 n k i) := by
  intro i hi
  by_cases q : i = n
  · subst q; rw [va_up_self]; exact h1
  · rw [va_up_ne _ _ q]; exact h i (by omega)
theorem ng_ok_t {bd : Int32} {er : Int64} {oe ot wt ct : Nat → Nat} {h z e y : Nat} (hn : ng_nx oe ot e h = some y) (h1 : y = z ∨ nb_t bd y = false) (h2 : ct (y * 20 + z) + (ng_w er wt e * 64 + 1) = ct (h * 20 + z)) : ng_ok bd er oe ot wt ct h z e = true := by
  unfold ng_ok
  rw [hn]
  show ((decide (y = z) || !nb_t bd y) && decide (ct (y * 20 + z) + (ng_w er wt e * 64 + 1) = ct (h * 20 + z))) = true
  rw [decide_eq_true h2, Bool.and_true]
  rcases h1 with q | q
  · rw [decide_eq_true q, Bool.true_or]
  · rw [q]; simp
theorem ng_ok_0 {bd : Int32} {er : Int64} {oe ot wt ct : Nat → Nat} {h z e : Nat} (hn : ng_nx oe ot e h = none) : ng_ok bd er oe ot wt ct h z e = false := by
  unfold ng_ok
  rw [hn]
theorem ng_ok_1 {bd : Int32} {er : Int64} {oe ot wt ct : Nat → Nat} {h z e y : Nat} (hn : ng_nx oe ot e h = some y) (h1 : y ≠ z) (h2 : nb_t bd y = true) : ng_ok bd er oe ot wt ct h z e = false := by
  unfold ng_ok
  rw [hn]
  show ((decide (y = z) || !nb_t bd y) && decide (ct (y * 20 + z) + (ng_w er wt e * 64 + 1) = ct (h * 20 + z))) = false
  rw [decide_eq_false h1, h2]; rfl
theorem ng_ok_2 {bd : Int32} {er : Int64} {oe ot wt ct : Nat → Nat} {h z e y : Nat} (hn : ng_nx oe ot e h = some y) (h2 : ¬ (ct (y * 20 + z) + (ng_w er wt e * 64 + 1) = ct (h * 20 + z))) : ng_ok bd er oe ot wt ct h z e = false := by
  unfold ng_ok
  rw [hn]
  show ((decide (y = z) || !nb_t bd y) && decide (ct (y * 20 + z) + (ng_w er wt e * 64 + 1) = ct (h * 20 + z))) = false
  rw [decide_eq_false h2, Bool.and_false]
theorem ng_path_s {nx : Nat → Option (Nat × Nat)} {z h n k y : Nat} (hz : h ≠ z) (hn : n < 20) (hx : nx h = some (k, y)) : ng_path nx z (20 - n) h = k :: ng_path nx z (20 - (n + 1)) y := by
  rw [show 20 - n = (20 - (n + 1)) + 1 by omega]
  simp only [ng_path, if_neg hz, hx]
theorem ng_path_n {nx : Nat → Option (Nat × Nat)} {z h n : Nat} (hx : nx h = none) : ng_path nx z n h = [] := by
  cases n with
  | zero => rfl
  | succ n =>
    unfold ng_path
    rw [hx]
    split <;> rfl
theorem ng_path_0 {nx : Nat → Option (Nat × Nat)} {z h n : Nat} (hn : n = 0) : ng_path nx z n h = [] := by
  subst hn; rfl
