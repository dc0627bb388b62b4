/-! the first pairing, read off -/
def ng_pset (bd : Int32) (er : Int64) (oe ot wt ct : Nat → Nat) (ne a b : Nat) : Int64 := ng_lset (ng_path (ng_nxt bd er oe ot wt ct ne (max a b)) (max a b) 20 (min a b))
def ng_od (ps : Nat → Nat → Int64) (row : Nat → Nat) (nr : Nat → Option Nat) (l : List (Nat × Nat)) : Int64 := l.foldl (fun s q => s ^^^ ps (row q.1) ((ng_pt row nr q.1 q.2).getD 0)) (lN 0)
theorem ng_dropP {α : Type} {l t : List α} {n : Nat} {k : α} (h : l.drop n = k :: t) : l[n]? = some k ∧ l.drop (n + 1) = t ∧ n < l.length := by
  have h0 : n < l.length := by
    rcases Nat.lt_or_ge n l.length with q | q
    · exact q
    · rw [List.drop_eq_nil_of_le q] at h; cases h
  rw [List.drop_eq_getElem_cons h0] at h
  injection h with h1 h2
  refine ⟨?_, h2, h0⟩
  rw [List.getElem?_eq_getElem h0, h1]
theorem ng_tf_t {rl : Nat} {pw lw : Nat → Nat} {i g : Nat} (hi : i < rl) (hb : nb_t (nI g) i = true) : ng_tf rl pw lw (rl - i) i g = (i, ng_fp rl pw lw g i) :: ng_tf rl pw lw (rl - (i + 1)) (i + 1) (ng_wo g i (ng_fp rl pw lw g i)) := by
  rw [show rl - i = (rl - (i + 1)) + 1 by omega, ng_tf, if_pos hb]
theorem ng_tf_f {rl : Nat} {pw lw : Nat → Nat} {i g : Nat} (hi : i < rl) (hb : nb_t (nI g) i = false) : ng_tf rl pw lw (rl - i) i g = ng_tf rl pw lw (rl - (i + 1)) (i + 1) g := by
  rw [show rl - i = (rl - (i + 1)) + 1 by omega, ng_tf, if_neg (by rw [hb]; decide)]
theorem ng_lp_eq {rl g i : Nat} (hr : rl ≤ 10) (hg : g < 2 ^ rl) (hi : i < rl) (hb : g.testBit i = true) (hz : ∀ j, j < i → g.testBit j = false) : 0 < g ∧ ng_lp rl g = i := by
  have g0 : 0 < g := by
    rcases Nat.eq_zero_or_pos g with q | q
    · subst q; simp at hb
    · exact q
  obtain ⟨h1, h2, h3⟩ := ng_lp_ok g0 hg hr
  refine ⟨g0, ?_⟩
  rcases Nat.lt_trichotomy (ng_lp rl g) i with q | q | q
  · rw [hz _ q] at h2; cases h2
  · exact q
  · rw [h3 i q] at hb; cases hb
theorem ng_od_s {ps : Nat → Nat → Int64} {row : Nat → Nat} {nr : Nat → Option Nat} {l : List (Nat × Nat)} {n y : Nat} {q : Nat × Nat} (h : l[n]? = some q) (hp : ng_pt row nr q.1 q.2 = some y) : ng_od ps row nr (l.take (n + 1)) = ng_od ps row nr (l.take n) ^^^ ps (row q.1) y := by
  unfold ng_od
  rw [List.take_add_one, h, List.foldl_append]
  show _ ^^^ ps (row q.1) ((ng_pt row nr q.1 q.2).getD 0) = _
  rw [hp]; rfl
/-- what stands in the rows of pairs -/
def ng_pr (np : Nat) (row : Nat → Nat) (nr : Nat → Option Nat) (l : List (Nat × Nat)) (le ho : Nat → Nat) (n : Nat) : Prop := ∀ k, k < n → ∃ q, l[k]? = some q ∧ le k = row q.1 ∧ ng_pt row nr q.1 q.2 = some (ho k) ∧ le k < np ∧ ho k < np
theorem ng_pr_s {np : Nat} {row : Nat → Nat} {nr : Nat → Option Nat} {l : List (Nat × Nat)} {le ho : Nat → Nat} {n y : Nat} {q : Nat × Nat} (h : l[n]? = some q) (hp : ng_pt row nr q.1 q.2 = some y) (hn1 : row q.1 < np) (hn2 : y < np) (hr : ng_pr np row nr l le ho n) : ng_pr np row nr l (va_up le n (row q.1)) (va_up ho n y) (n + 1) := by
  intro k hk
  by_cases z : k = n
  · subst z
    exact ⟨q, h, va_up_self _ _ _, by rw [va_up_self]; exact hp, by rw [va_up_self]; exact hn1, by rw [va_up_self]; exact hn2⟩
  · obtain ⟨q2, h1, h2, h3, h4, h5⟩ := hr k (by omega)
    exact ⟨q2, h1, by rw [va_up_ne _ _ z]; exact h2, by rw [va_up_ne _ _ z]; exact h3, by rw [va_up_ne _ _ z]; exact h4, by rw [va_up_ne _ _ z]; exact h5⟩
theorem ng_wo_z {g i b : Nat} (hg : g < 2 ^ 31) (hi : i < 32) (hb : b < 32) (hz : ∀ j, j < i → g.testBit j = false) : ∀ j, j < i + 1 → (ng_wo g i b).testBit j = false := by
  intro j hj
  rw [ng_wo_tb hg hi hb]
  by_cases q : j = i
  · subst q; simp
  · rw [hz j (by omega)]; simp
theorem ng_gz {g i : Nat} (hz : ∀ j, j < i → g.testBit j = false) (hb : g.testBit i = false) : ∀ j, j < i + 1 → g.testBit j = false := by
  intro j hj
  by_cases q : j = i
  · subst q; exact hb
  · exact hz j (by omega)
