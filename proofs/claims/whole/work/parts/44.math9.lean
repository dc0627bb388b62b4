/-! all completions of a row of partners, in the order of the search -/
def ng_en (mn : Nat) (co : Nat → Option Nat) : Nat → (Nat → Option Nat) → List (Nat → Option Nat)
  | 0, pr => [pr]
  | f + 1, pr => if ng_ff pr mn = mn then [pr] else (List.range' (ng_ff pr mn + 1) (10 - ng_ff pr mn)).flatMap (fun j => if ng_may mn pr co (ng_ff pr mn) j = true then ng_en mn co f (ng_s2 pr (ng_ff pr mn) j) else [])
def ng_er (mn : Nat) (co : Nat → Option Nat) (f : Nat) (pr : Nat → Option Nat) (i t : Nat) : List (Nat → Option Nat) := (List.range' (t + 1) (10 - t)).flatMap (fun j => if ng_may mn pr co i j = true then ng_en mn co f (ng_s2 pr i j) else [])
theorem ng_en_r {mn f : Nat} {co pr : Nat → Option Nat} (h : ng_ff pr mn ≠ mn) : ng_en mn co (f + 1) pr = ng_er mn co f pr (ng_ff pr mn) (ng_ff pr mn) := by
  rw [ng_en, if_neg h]; rfl
theorem ng_en_1 {mn : Nat} {co pr : Nat → Option Nat} (h : ng_ff pr mn = mn) : ∀ f, ng_en mn co f pr = [pr] := by
  intro f
  cases f with
  | zero => rfl
  | succ f => rw [ng_en, if_pos h]
theorem ng_er_c {mn f t i : Nat} {co pr : Nat → Option Nat} (ht : t < 10) : ng_er mn co f pr i t = (if ng_may mn pr co i (t + 1) = true then ng_en mn co f (ng_s2 pr i (t + 1)) else []) ++ ng_er mn co f pr i (t + 1) := by
  unfold ng_er
  rw [show 10 - t = (10 - (t + 1)) + 1 by omega, List.range'_succ, List.flatMap_cons]
theorem ng_er_e {mn f t i : Nat} {co pr : Nat → Option Nat} (ht : 10 ≤ t) : ng_er mn co f pr i t = [] := by
  unfold ng_er
  rw [show 10 - t = 0 by omega]; rfl
theorem ng_er_n {mn f i : Nat} {co pr : Nat → Option Nat} : ∀ (u t : Nat), 10 - t ≤ u → ng_nj mn pr co i t = none → ng_er mn co f pr i t = [] := by
  intro u
  induction u with
  | zero => intro t hu _; exact ng_er_e (by omega)
  | succ u ih =>
    intro t hu h
    rcases Nat.lt_or_ge t 10 with q | q
    · cases hm : ng_may mn pr co i (t + 1) with
      | true => rw [ng_nj_t q hm] at h; cases h
      | false =>
        rw [ng_er_c q, hm, ih (t + 1) (by omega) (by rw [← ng_nj_f q hm]; exact h)]
        rfl
    · exact ng_er_e q
theorem ng_er_s {mn f i j : Nat} {co pr : Nat → Option Nat} : ∀ (u t : Nat), 10 - t ≤ u → ng_nj mn pr co i t = some j → t < j ∧ j ≤ 10 ∧ ng_may mn pr co i j = true ∧ ng_er mn co f pr i t = ng_en mn co f (ng_s2 pr i j) ++ ng_er mn co f pr i j := by
  intro u
  induction u with
  | zero =>
    intro t hu h
    rw [ng_nj_e (by omega)] at h; cases h
  | succ u ih =>
    intro t hu h
    rcases Nat.lt_or_ge t 10 with q | q
    · cases hm : ng_may mn pr co i (t + 1) with
      | true =>
        rw [ng_nj_t q hm] at h
        cases h
        refine ⟨by omega, by omega, hm, ?_⟩
        rw [ng_er_c q, hm]; rfl
      | false =>
        rw [ng_nj_f q hm] at h
        obtain ⟨h1, h2, h3, h4⟩ := ih (t + 1) (by omega) h
        refine ⟨by omega, h2, h3, ?_⟩
        rw [ng_er_c q, hm, h4]; rfl
    · rw [ng_nj_e q] at h; cases h
def ng_fr (mn : Nat) (pr : Nat → Option Nat) : Nat := dm_ct (fun i => (pr i).isNone) mn
theorem ng_ff_lt {mn : Nat} {pr : Nat → Option Nat} (h : ng_ff pr mn ≠ mn) : ng_ff pr mn < mn ∧ pr (ng_ff pr mn) = none ∧ ∀ k, k < ng_ff pr mn → pr k ≠ none := by
  unfold ng_ff at h ⊢
  cases hf : ng_fst (fun i => (pr i).isNone) mn 0 with
  | none => rw [hf] at h; exact absurd rfl h
  | some k =>
    obtain ⟨h1, h2, -⟩ := ng_fst_ok hf
    have h3 := ng_fst_min hf
    refine ⟨by show k < mn; omega, by simpa using h1, fun q hq => ?_⟩
    have := h3 q (Nat.zero_le _) hq
    intro z
    rw [z] at this
    cases this
theorem ng_ff_mn {mn : Nat} {pr : Nat → Option Nat} (h : ng_ff pr mn = mn) : ∀ k, k < mn → pr k ≠ none := by
  unfold ng_ff at h
  cases hf : ng_fst (fun i => (pr i).isNone) mn 0 with
  | some k =>
    rw [hf] at h
    have h2 := (ng_fst_ok hf).2.1
    have h : k = mn := h
    omega
  | none =>
    intro k hk z
    have := ng_fst_none hf k (Nat.zero_le _) (by omega)
    rw [z] at this; cases this
theorem ng_fr_pos {mn i : Nat} {pr : Nat → Option Nat} (hi : i < mn) (h : pr i = none) : 1 ≤ ng_fr mn pr := by
  have := dm_ct_lt (P := fun _ => false) (Q := fun i => (pr i).isNone) (n := mn) (x := i) (fun u _ q => by cases q) hi (by rw [h]; rfl) rfl
  unfold ng_fr
  omega
theorem ng_fr_s2 {mn i j : Nat} {pr : Nat → Option Nat} (hi : i < mn) (h : pr i = none) (hij : i ≠ j) : ng_fr mn (ng_s2 pr i j) + 1 ≤ ng_fr mn pr := by
  refine dm_ct_lt (x := i) (fun u hu q => ?_) hi (by rw [h]; rfl) (by rw [ng_s2_i hij]; rfl)
  have q : (ng_s2 pr i j u).isNone = true := q
  show (pr u).isNone = true
  unfold ng_s2 at q
  split at q
  · by_cases u1 : u = j
    · subst u1; rw [va_up_self] at q; cases q
    · rw [va_up_ne _ _ u1] at q
      by_cases u2 : u = i
      · subst u2; rw [va_up_self] at q; cases q
      · rw [va_up_ne _ _ u2] at q; exact q
  · by_cases u2 : u = i
    · subst u2; rw [va_up_self] at q; cases q
    · rw [va_up_ne _ _ u2] at q; exact q
/-- the partners that stand are fit -/
def ng_ok2 (mn : Nat) (pr co : Nat → Option Nat) : Prop := ∀ k j, k < mn → pr k = some j → j ≤ 10 ∧ (k < j → ∃ c, co (11 * k + j) = some c)
theorem ng_may_s {mn i j : Nat} {pr co : Nat → Option Nat} (h : ng_may mn pr co i j = true) : (∃ c, co (11 * i + j) = some c) ∧ (j ≠ 10 → j < mn ∧ pr j = none) := by
  unfold ng_may at h
  split at h
  · rename_i q
    subst q
    exact ⟨Option.isSome_iff_exists.mp h, fun z => absurd rfl z⟩
  · simp only [Bool.and_eq_true, decide_eq_true_eq] at h
    exact ⟨Option.isSome_iff_exists.mp h.2.2, fun _ => ⟨h.1, by simpa using h.2.1⟩⟩
theorem ng_ok2_s {mn i j : Nat} {pr co : Nat → Option Nat} (hmn : mn ≤ 10) (hij : i < j) (hj : j ≤ 10) (hm : ng_may mn pr co i j = true) (h : ng_ok2 mn pr co) : ng_ok2 mn (ng_s2 pr i j) co := by
  have hs := ng_may_s hm
  intro k j' hk hp
  unfold ng_s2 at hp
  split at hp
  · by_cases u1 : k = j
    · subst u1
      rw [va_up_self] at hp
      cases hp
      exact ⟨by omega, fun q => by omega⟩
    · rw [va_up_ne _ _ u1] at hp
      by_cases u2 : k = i
      · subst u2; rw [va_up_self] at hp; cases hp; exact ⟨hj, fun _ => hs.1⟩
      · rw [va_up_ne _ _ u2] at hp; exact h k j' hk hp
  · by_cases u2 : k = i
    · subst u2; rw [va_up_self] at hp; cases hp; exact ⟨hj, fun _ => hs.1⟩
    · rw [va_up_ne _ _ u2] at hp; exact h k j' hk hp
theorem ng_ok2_fl {mn : Nat} {pr co : Nat → Option Nat} (hmn : mn ≤ 10) (hco : ∀ k c, k < 110 → co k = some c → c ≤ 19000000) (h : ng_ok2 mn pr co) (hf : ng_ff pr mn = mn) : ng_fl mn pr co := by
  intro k hk
  have h1 := ng_ff_mn hf k hk
  cases hp : pr k with
  | none => exact absurd hp h1
  | some j =>
    obtain ⟨h2, h3⟩ := h k j hk hp
    refine ⟨j, rfl, h2, fun q => ?_⟩
    obtain ⟨c, hc⟩ := h3 q
    exact ⟨c, hc, hco _ c (by omega) hc⟩
def ng_fac : Nat → Nat
  | 0 => 1
  | n + 1 => (n + 1) * ng_fac n
theorem ng_fac_mono : ∀ {a b : Nat}, a ≤ b → ng_fac a ≤ ng_fac b := by
  intro a b h
  induction b with
  | zero => rw [Nat.le_zero.mp h]; exact Nat.le_refl _
  | succ b ih =>
    by_cases q : a = b + 1
    · rw [q]; exact Nat.le_refl _
    · have h1 := ih (by omega)
      rw [ng_fac]
      have : ng_fac b ≤ (b + 1) * ng_fac b := Nat.le_mul_of_pos_left _ (by omega)
      omega
theorem ng_ff_s2 {mn i j : Nat} {pr : Nat → Option Nat} (hij : i < j) (hi : i = ng_ff pr mn) (hlt : i < mn) : i + 1 ≤ ng_ff (ng_s2 pr i j) mn := by
  rcases Nat.lt_or_ge (ng_ff (ng_s2 pr i j) mn) (i + 1) with q | q
  · exfalso
    have hne : ng_ff (ng_s2 pr i j) mn ≠ mn := by omega
    obtain ⟨h1, h2, -⟩ := ng_ff_lt hne
    have hf := ng_ff_lt (pr := pr) (mn := mn) (by omega)
    rw [← hi] at hf
    generalize ng_ff (ng_s2 pr i j) mn = k at q h1 h2
    unfold ng_s2 at h2
    by_cases u2 : k = i
    · subst u2
      split at h2
      · rw [va_up_ne _ _ (by omega), va_up_self] at h2; cases h2
      · rw [va_up_self] at h2; cases h2
    · have := hf.2.2 k (by omega)
      split at h2
      · rw [va_up_ne _ _ (by omega), va_up_ne _ _ u2] at h2; exact this h2
      · rw [va_up_ne _ _ u2] at h2; exact this h2
  · exact q
theorem ng_ff_le {mn : Nat} {pr : Nat → Option Nat} : ng_ff pr mn ≤ mn := by
  by_cases q : ng_ff pr mn = mn
  · omega
  · have := (ng_ff_lt q).1; omega
theorem ng_en_len {mn : Nat} {co : Nat → Option Nat} (hmn : mn ≤ 10) : ∀ (f : Nat) (pr : Nat → Option Nat), (ng_en mn co f pr).length ≤ ng_fac (10 - ng_ff pr mn) := by
  intro f
  induction f with
  | zero => intro pr; exact ng_fac_mono (Nat.zero_le _)
  | succ f ih =>
    intro pr
    by_cases h : ng_ff pr mn = mn
    · rw [ng_en_1 h]; exact ng_fac_mono (Nat.zero_le _)
    · rw [ng_en_r h]
      have hlt := (ng_ff_lt h).1
      have key : ∀ u t, 10 - t = u → ng_ff pr mn ≤ t → (ng_er mn co f pr (ng_ff pr mn) t).length ≤ u * ng_fac (10 - (ng_ff pr mn + 1)) := by
        intro u
        induction u with
        | zero => intro t hu _; rw [ng_er_e (by omega)]; exact Nat.zero_le _
        | succ u ihu =>
          intro t hu ht
          rw [ng_er_c (by omega), List.length_append]
          have h1 := ihu (t + 1) (by omega) (by omega)
          have h2 : (if ng_may mn pr co (ng_ff pr mn) (t + 1) = true then ng_en mn co f (ng_s2 pr (ng_ff pr mn) (t + 1)) else []).length ≤ ng_fac (10 - (ng_ff pr mn + 1)) := by
            split
            · exact Nat.le_trans (ih _) (ng_fac_mono (by have := ng_ff_s2 (j := t + 1) (pr := pr) (mn := mn) (i := ng_ff pr mn) (by omega) rfl hlt; omega))
            · exact Nat.zero_le _
          rw [Nat.succ_mul]
          omega
      have h1 := key _ (ng_ff pr mn) rfl (Nat.le_refl _)
      rw [show 10 - ng_ff pr mn = (10 - (ng_ff pr mn + 1)) + 1 by omega] at h1 ⊢
      exact h1
def ng_dm : Nat → Int32
  | 0 => -1
  | d + 1 => nI d
theorem ng_dm_eq (d : Nat) : nI d + Int32.ofInt (-1) = ng_dm d := by
  cases d with
  | zero => decide
  | succ k => exact nr_dec (k := k + 1) (by omega)
theorem ng_ff_0 {mn : Nat} {pr : Nat → Option Nat} (h0 : 0 < mn) (h : ∀ k, k < mn → pr k = none) : ng_ff pr mn = 0 := by
  have hne : ng_ff pr mn ≠ mn := fun q => ng_ff_mn q 0 h0 (h 0 h0)
  rcases Nat.eq_zero_or_pos (ng_ff pr mn) with q | q
  · exact q
  · exact absurd (h 0 h0) ((ng_ff_lt hne).2.2 0 q)
theorem ng_hd_b {mn : Nat} {co pr : Nat → Option Nat} {a : ng_ac} (hmn : mn ≤ 10) (hf : ng_fl mn pr co) (h : a.2.1 ≤ 190000000) : (ng_hd mn co a pr).2.1 ≤ 190000000 ∧ (ng_hd mn co a pr).1 ≤ a.1 + 1 := by
  have := ng_hw_le hf mn (Nat.le_refl _)
  unfold ng_hd
  split
  · exact ⟨h, by omega⟩
  · split
    · exact ⟨h, Nat.le_refl _⟩
    · exact ⟨by show ng_hw pr co mn ≤ _; omega, by show 1 ≤ a.1 + 1; omega⟩
theorem ng_hd_c {mn : Nat} {co pr be be2 : Nat → Option Nat} {bs bw : Nat} (h : ∀ i, i < mn → be2 i = be i) : (ng_hd mn co (bs, bw, be2) pr).1 = (ng_hd mn co (bs, bw, be) pr).1 ∧ (ng_hd mn co (bs, bw, be2) pr).2.1 = (ng_hd mn co (bs, bw, be) pr).2.1 ∧ ∀ i, i < mn → (ng_hd mn co (bs, bw, be2) pr).2.2 i = (ng_hd mn co (bs, bw, be) pr).2.2 i := by
  unfold ng_hd
  by_cases c1 : 0 < bs ∧ bw < ng_hw pr co mn
  · rw [if_pos c1, if_pos c1]; exact ⟨rfl, rfl, h⟩
  · rw [if_neg c1, if_neg c1]
    by_cases c2 : 0 < bs ∧ ng_hw pr co mn = bw
    · rw [if_pos c2, if_pos c2]; exact ⟨rfl, rfl, h⟩
    · rw [if_neg c2, if_neg c2]; exact ⟨rfl, rfl, fun _ _ => rfl⟩
