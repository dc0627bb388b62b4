/-! the model's way is the class's, and what a best pairing is -/
theorem ng_fst_cg {P Q : Nat → Bool} : ∀ {n i : Nat}, (∀ k, i ≤ k → k < i + n → P k = Q k) → ng_fst P n i = ng_fst Q n i := by
  intro n
  induction n with
  | zero => intro i _; rfl
  | succ n ih =>
    intro i h
    rw [ng_fst, ng_fst, h i (Nat.le_refl _) (by omega), ih (fun k h1 h2 => h k (by omega) (by omega))]
theorem ng_nk_ok {np ne z h wh e : Nat} {ib : Nat → Bool} {oe ot hv wg ct : Nat → Nat} {bd : Int32} {er : Int64} {wo eo : Nat → Option Nat} (hnp : np ≤ 20) (hE : ∀ i, i < ne → oe i < np ∧ ot i < np) (hT : ng_T ne z ib oe ot hv wo eo) (hF : ∀ a, a < np → ng_F wo eo a = ct (a * 20 + z)) (hib : ∀ k, k < np → ib k = nb_t bd k) (hhw : ∀ e, e < ne → hv e = ng_w er wg e) (he : e < ne) (hh : h < np) (hwh : wo h = some wh) : ng_nk wo eo ib oe ot hv h z e = ng_ok bd er oe ot wg ct h z e := by
  have hFA : dm_FAR = 1000000000000 := rfl
  unfold ng_ok ng_nk
  cases hn : ng_nx oe ot e h with
  | none => rfl
  | some y =>
    have hy := ng_nx_lt hn (hE e he).1 (hE e he).2
    obtain ⟨nh, h1, h2, h3, h4⟩ := ng_V_get hT.1 (show h < 20 by omega) hwh
    rw [hF h hh] at h4
    show (ng_go wo ib y z && (decide ((wo y).getD 0 + hv e = (wo h).getD 0) && decide ((eo y).getD 0 + 1 = (eo h).getD 0))) = ((decide (y = z) || !nb_t bd y) && decide (ct (y * 20 + z) + (ng_w er wg e * 64 + 1) = ct (h * 20 + z)))
    rw [h4, ← hhw e he, hwh, h1]
    unfold ng_go
    cases hwy : wo y with
    | none =>
      have h5 := ng_F_n (eo := eo) hwy
      rw [hF y hy] at h5
      rw [h5, decide_eq_false (show ¬ (dm_FAR + (hv e * 64 + 1) = wh * 64 + nh) by omega)]
      simp
    | some wy =>
      obtain ⟨ny, e1, e2, e3, e4⟩ := ng_V_get hT.1 (show y < 20 by omega) hwy
      rw [hF y hy] at e4
      rw [e4, e1, hib y hy]
      have q : (decide (wy * 64 + ny + (hv e * 64 + 1) = wh * 64 + nh)) = (decide (wy + hv e = wh) && decide (ny + 1 = nh)) := by
        by_cases a1 : wy + hv e = wh
        · by_cases a2 : ny + 1 = nh
          · rw [decide_eq_true a1, decide_eq_true a2, decide_eq_true (by omega)]; rfl
          · rw [decide_eq_false a2, decide_eq_false (by omega)]; simp
        · rw [decide_eq_false a1, decide_eq_false (by omega)]; rfl
      rw [q]
      rfl
theorem ng_nx_eq {np ne z h wh : Nat} {ib : Nat → Bool} {oe ot hv wg ct : Nat → Nat} {bd : Int32} {er : Int64} {wo eo : Nat → Option Nat} (hnp : np ≤ 20) (hE : ∀ i, i < ne → oe i < np ∧ ot i < np) (hT : ng_T ne z ib oe ot hv wo eo) (hF : ∀ a, a < np → ng_F wo eo a = ct (a * 20 + z)) (hib : ∀ k, k < np → ib k = nb_t bd k) (hhw : ∀ e, e < ne → hv e = ng_w er wg e) (hh : h < np) (hwh : wo h = some wh) : ng_nxD wo eo ib oe ot hv ne z h = ng_nxt bd er oe ot wg ct ne z h := by
  unfold ng_nxD ng_nxt
  rw [ng_fst_cg (Q := ng_ok bd er oe ot wg ct h z) (fun k _ h2 => ng_nk_ok hnp hE hT hF hib hhw (by omega) hh hwh)]
  rfl
theorem ng_pa_eq {np ne z : Nat} {ib : Nat → Bool} {oe ot hv wg ct : Nat → Nat} {bd : Int32} {er : Int64} {wo eo : Nat → Option Nat} (hnp : np ≤ 20) (hE : ∀ i, i < ne → oe i < np ∧ ot i < np) (hdf : ∀ i, i < ne → oe i ≠ ot i) (hhv : ∀ i, i < ne → hv i ≤ 1000000) (hT : ng_T ne z ib oe ot hv wo eo) (hF : ∀ a, a < np → ng_F wo eo a = ct (a * 20 + z)) (hib : ∀ k, k < np → ib k = nb_t bd k) (hhw : ∀ e, e < ne → hv e = ng_w er wg e) : ∀ (n h wh : Nat), h < np → wo h = some wh → ng_path (ng_nxD wo eo ib oe ot hv ne z) z n h = ng_path (ng_nxt bd er oe ot wg ct ne z) z n h := by
  intro n
  induction n with
  | zero => intro h wh _ _; rfl
  | succ n ih =>
    intro h wh hh hw
    rw [ng_path, ng_path, ← ng_nx_eq hnp hE hT hF hib hhw hh hw]
    by_cases q : h = z
    · rw [if_pos q, if_pos q]
    · rw [if_neg q, if_neg q]
      obtain ⟨nh, h1, -, -, -⟩ := ng_V_get hT.1 (show h < 20 by omega) hw
      obtain ⟨k, y, wy, ny, hf, hk, hnx, hyl, hwy, hny, hn1⟩ := ng_T_nx hnp hE hdf hhv hT (show h < 20 by omega) q hw h1
      have hnn : ng_nxD wo eo ib oe ot hv ne z h = some (k, y) := by simp [ng_nxD, hf, hnx]
      rw [hnn]
      show k :: _ = k :: _
      rw [ih y wy hyl hwy]
/-- a row of partners that fits -/
def ng_in (mn : Nat) (co pr : Nat → Option Nat) : Prop := ∀ i j, i < mn → pr i = some j → i ≠ j ∧ j ≤ 10 ∧ (i < j → ∃ c, co (11 * i + j) = some c) ∧ (j ≠ 10 → j < mn ∧ pr j = some i)
theorem ng_s2_v {pr : Nat → Option Nat} {i j k : Nat} (hij : i ≠ j) : ng_s2 pr i j k = if k = i then some j else if k = j ∧ j < 10 then some i else pr k := by
  unfold ng_s2
  by_cases k1 : k = i
  · subst k1; rw [if_pos rfl]
    split
    · rw [va_up_ne _ _ hij, va_up_self]
    · rw [va_up_self]
  · rw [if_neg k1]
    by_cases k2 : k = j
    · subst k2
      by_cases q : k < 10
      · rw [if_pos q, va_up_self, if_pos ⟨rfl, q⟩]
      · rw [if_neg q, va_up_ne _ _ k1, if_neg (fun z => q z.2)]
    · rw [if_neg (show ¬ (k = j ∧ j < 10) from fun z => k2 z.1)]
      split
      · rw [va_up_ne _ _ k2, va_up_ne _ _ k1]
      · rw [va_up_ne _ _ k1]
theorem ng_in_s2 {mn i j : Nat} {co pr : Nat → Option Nat} (hmn : mn ≤ 10) (hi : i < mn) (hp : pr i = none) (hij : i < j) (hj : j ≤ 10) (hm : ng_may mn pr co i j = true) (h : ng_in mn co pr) : ng_in mn co (ng_s2 pr i j) := by
  have hs := ng_may_s hm
  have hne : i ≠ j := by omega
  intro k l hk hl
  rw [ng_s2_v hne] at hl
  by_cases k1 : k = i
  · subst k1
    rw [if_pos rfl] at hl
    cases hl
    refine ⟨hne, hj, fun _ => hs.1, fun q => ⟨(hs.2 q).1, ?_⟩⟩
    rw [ng_s2_v hne, if_neg (by omega), if_pos ⟨rfl, by omega⟩]
  · rw [if_neg k1] at hl
    by_cases k2 : k = j ∧ j < 10
    · rw [if_pos k2] at hl
      cases hl
      refine ⟨by omega, by omega, fun q => by omega, fun _ => ⟨hi, ?_⟩⟩
      rw [ng_s2_v hne, if_pos rfl, k2.1]
    · rw [if_neg k2] at hl
      obtain ⟨h1, h2, h3, h4⟩ := h k l hk hl
      refine ⟨h1, h2, h3, fun q => ⟨(h4 q).1, ?_⟩⟩
      have h5 := (h4 q).2
      rw [ng_s2_v hne]
      have l1 : l ≠ i := fun z => by rw [z, hp] at h5; cases h5
      rw [if_neg l1]
      by_cases l2 : l = j ∧ j < 10
      · exfalso
        have := (hs.2 (by omega)).2
        rw [l2.1, this] at h5; cases h5
      · rw [if_neg l2]; exact h5
theorem ng_er_m {mn f i : Nat} {co pr q : Nat → Option Nat} : ∀ (u t : Nat), 10 - t ≤ u → q ∈ ng_er mn co f pr i t → ∃ j, t < j ∧ j ≤ 10 ∧ ng_may mn pr co i j = true ∧ q ∈ ng_en mn co f (ng_s2 pr i j) := by
  intro u
  induction u with
  | zero => intro t hu hq; rw [ng_er_e (by omega)] at hq; cases hq
  | succ u ih =>
    intro t hu hq
    rcases Nat.lt_or_ge t 10 with z | z
    · rw [ng_er_c z, List.mem_append] at hq
      rcases hq with hq | hq
      · by_cases hm : ng_may mn pr co i (t + 1) = true
        · rw [if_pos hm] at hq; exact ⟨t + 1, by omega, by omega, hm, hq⟩
        · rw [if_neg hm] at hq; cases hq
      · obtain ⟨j, h1, h2, h3, h4⟩ := ih (t + 1) (by omega) hq
        exact ⟨j, by omega, h2, h3, h4⟩
    · rw [ng_er_e z] at hq; cases hq
theorem ng_fr_0 {mn : Nat} {pr : Nat → Option Nat} (h : ng_fr mn pr = 0) : ng_ff pr mn = mn := by
  by_cases q : ng_ff pr mn = mn
  · exact q
  · have h1 := ng_ff_lt q
    have := ng_fr_pos h1.1 h1.2.1
    omega
theorem ng_en_in {mn : Nat} {co : Nat → Option Nat} (hmn : mn ≤ 10) : ∀ (f : Nat) (pr q : Nat → Option Nat), ng_in mn co pr → ng_fr mn pr ≤ f → q ∈ ng_en mn co f pr → ng_in mn co q ∧ ng_ff q mn = mn := by
  intro f
  induction f with
  | zero =>
    intro pr q h hf hq
    rw [ng_en, List.mem_singleton] at hq
    subst hq
    exact ⟨h, ng_fr_0 (by omega)⟩
  | succ f ih =>
    intro pr q h hf hq
    by_cases z : ng_ff pr mn = mn
    · rw [ng_en_1 z, List.mem_singleton] at hq
      subst hq
      exact ⟨h, z⟩
    · rw [ng_en_r z] at hq
      obtain ⟨j, h1, h2, h3, h4⟩ := ng_er_m _ _ (Nat.le_refl _) hq
      have hlt := ng_ff_lt z
      have := ng_fr_s2 hlt.1 hlt.2.1 (show ng_ff pr mn ≠ j by omega)
      exact ih _ q (ng_in_s2 hmn hlt.1 hlt.2.1 h1 h2 h3 h) (by omega) h4
theorem ng_fo_m {mn : Nat} {co : Nat → Option Nat} : ∀ (L : List (Nat → Option Nat)) (a : ng_ac), (L.foldl (ng_hd mn co) a).1 ≠ 0 → ((L.foldl (ng_hd mn co) a).2.2 = a.2.2 ∧ a.1 ≠ 0) ∨ (L.foldl (ng_hd mn co) a).2.2 ∈ L := by
  intro L
  induction L with
  | nil => intro a h; exact Or.inl ⟨rfl, h⟩
  | cons x L ih =>
    intro a h
    rw [List.foldl_cons] at h ⊢
    rcases ih _ h with ⟨h1, h2⟩ | h1
    · rw [h1]
      unfold ng_hd at h2 ⊢
      split
      · rename_i c; exact Or.inl ⟨rfl, by omega⟩
      · split
        · rename_i c; exact Or.inl ⟨rfl, by omega⟩
        · exact Or.inr (List.mem_cons_self)
    · exact Or.inr (List.mem_cons_of_mem _ h1)
theorem ng_best {mn bw bs9 bw9 : Nat} {co be be9 pp : Nat → Option Nat} (hmn : mn ≤ 10) (hp : ∀ k, k < mn → pp k = none) (h : ng_eqA mn (bs9, bw9, be9) (List.foldl (ng_hd mn co) (0, bw, be) (ng_en mn co mn pp))) (h0 : bs9 ≠ 0) : ∀ i, i < mn → ∃ j, be9 i = some j ∧ i ≠ j ∧ j ≤ 10 ∧ (i < j → ∃ c, co (11 * i + j) = some c) ∧ (j ≠ 10 → j < mn ∧ be9 j = some i) := by
  obtain ⟨h1, h2, h3⟩ := h
  have h1 : bs9 = _ := h1
  rcases ng_fo_m (mn := mn) (co := co) (ng_en mn co mn pp) (0, bw, be) (by rw [← h1]; exact h0) with ⟨-, q⟩ | q
  · exact absurd rfl q
  · obtain ⟨g1, g2⟩ := ng_en_in hmn mn pp _ (fun i j hi hj => by rw [hp i hi] at hj; cases hj) (dm_ct_le) q
    intro i hi
    have h3 : ∀ i, i < mn → be9 i = _ := h3
    have g3 := ng_ff_mn g2 i hi
    cases hb : be9 i with
    | none => rw [h3 i hi] at hb; exact absurd hb g3
    | some j =>
      rw [h3 i hi] at hb
      obtain ⟨q1, q2, q3, q4⟩ := g1 i j hi hb
      exact ⟨j, rfl, q1, q2, q3, fun z => ⟨(q4 z).1, by rw [h3 j (q4 z).1]; exact (q4 z).2⟩⟩
/-- the pairs of a row of partners: the place, and its partner or itself -/
def ng_pl (be : Nat → Option Nat) : Nat → Nat → List (Nat × Nat)
  | 0, _ => []
  | n + 1, i => match be i with
    | none => ng_pl be n (i + 1)
    | some j => if j < i then ng_pl be n (i + 1) else (i, if j = 10 then i else j) :: ng_pl be n (i + 1)
theorem ng_pl_lt {be : Nat → Option Nat} {mn i j : Nat} (hi : i < mn) (h : be i = some j) (hj : j < i) : ng_pl be (mn - i) i = ng_pl be (mn - (i + 1)) (i + 1) := by
  rw [show mn - i = (mn - (i + 1)) + 1 by omega, ng_pl, h]
  exact if_pos hj
theorem ng_pl_ge {be : Nat → Option Nat} {mn i j : Nat} (hi : i < mn) (h : be i = some j) (hj : ¬ j < i) : ng_pl be (mn - i) i = (i, if j = 10 then i else j) :: ng_pl be (mn - (i + 1)) (i + 1) := by
  rw [show mn - i = (mn - (i + 1)) + 1 by omega, ng_pl, h]
  exact if_neg hj
/-- the pairs as the model lays them down -/
def ng_fd (np : Nat) (ps : Nat → Nat → Int64) (li : Nat → Nat) (bo : Nat → Option Nat) (l : List (Nat × Nat)) (po pt : Nat → Nat) (al : Nat → Bool) (wy : Nat → Int64) (n : Nat) : Prop := ∀ k, k < n → ∃ q, l[k]? = some q ∧ po k = li q.1 ∧ ng_pt li bo q.1 q.2 = some (pt k) ∧ al k = decide (q.1 = q.2) ∧ wy k = ps (po k) (pt k) ∧ po k < np ∧ pt k < np
theorem ng_fd_s {np : Nat} {ps : Nat → Nat → Int64} {li : Nat → Nat} {bo : Nat → Option Nat} {l : List (Nat × Nat)} {po pt : Nat → Nat} {al : Nat → Bool} {wy : Nat → Int64} {n y : Nat} {q : Nat × Nat} {b : Bool} (h : l[n]? = some q) (hp : ng_pt li bo q.1 q.2 = some y) (hb : b = decide (q.1 = q.2)) (hn1 : li q.1 < np) (hn2 : y < np) (hr : ng_fd np ps li bo l po pt al wy n) : ng_fd np ps li bo l (va_up po n (li q.1)) (va_up pt n y) (va_up al n b) (va_up wy n (ps (li q.1) y)) (n + 1) := by
  intro k hk
  by_cases z : k = n
  · subst z
    exact ⟨q, h, va_up_self _ _ _, by rw [va_up_self]; exact hp, by rw [va_up_self]; exact hb, by rw [va_up_self, va_up_self, va_up_self], by rw [va_up_self]; exact hn1, by rw [va_up_self]; exact hn2⟩
  · rw [va_up_ne _ _ z, va_up_ne _ _ z, va_up_ne _ _ z, va_up_ne _ _ z]
    exact hr k (by omega)
theorem ng_lay {np ne p0 z ll : Nat} {ib : Nat → Bool} {oe ot hv wg ct la : Nat → Nat} {bd : Int32} {er : Int64} {wo eo : Nat → Option Nat} (hnp : np ≤ 20) (hE : ∀ i, i < ne → oe i < np ∧ ot i < np) (hdf : ∀ i, i < ne → oe i ≠ ot i) (hhv : ∀ i, i < ne → hv i ≤ 1000000) (hDD : dm_D np ne (fun k => !ib k) oe ot (fun e => hv e * 64 + 1) (fun a b => ct (a * 20 + b))) (hib : ∀ k, k < np → ib k = nb_t bd k) (hhw : ∀ e, e < ne → hv e = ng_w er wg e) (hp0 : p0 < np) (hz : z < np) (hT : ng_T ne z ib oe ot hv wo eo) (hc : ct (p0 * 20 + z) ≠ dm_FAR) (ho : wo p0 ≠ none → ll = (ng_path (ng_nxD wo eo ib oe ot hv ne z) z 20 p0).length ∧ ∀ i, i < (ng_path (ng_nxD wo eo ib oe ot hv ne z) z 20 p0).length → (ng_path (ng_nxD wo eo ib oe ot hv ne z) z 20 p0)[i]? = some (la i)) : ng_set la ll = ng_lset (ng_path (ng_nxt bd er oe ot wg ct ne z) z 20 p0) := by
  have hF : ∀ a, a < np → ng_F wo eo a = ct (a * 20 + z) := ng_T_D (D := fun a b => ct (a * 20 + b)) hnp hz hE hhv (fun _ _ => rfl) (fun _ _ => rfl) hT hDD
  cases hw : wo p0 with
  | none =>
    have := hF p0 hp0
    rw [ng_F_n hw] at this
    exact absurd this.symm hc
  | some w =>
    obtain ⟨h1, h2⟩ := ho (by rw [hw]; intro q; cases q)
    rw [h1, ng_set_eq h2, ng_pa_eq hnp hE hdf hhv hT hF hib hhw 20 p0 w hp0 hw]
/-! what commit does -/
def ng_eaD (tm po pt : Nat → Nat) (al : Nat → Bool) (t k : Nat) : Bool := decide (tm (po k) < t) && (al k || decide (tm (pt k) < t))
def ng_cm (ea al : Nat → Bool) (po pt : Nat → Nat) (wy : Nat → Int64) (fi : Int32) (kp : Int64) : Nat → Int32 × Int64 × Nat
  | 0 => (fi, kp, 0)
  | k + 1 => if ea k = true then (if al k = true then ((ng_cm ea al po pt wy fi kp k).1 &&& (nb_o (po k) ^^^ (-1)), (ng_cm ea al po pt wy fi kp k).2.1 ^^^ wy k, (ng_cm ea al po pt wy fi kp k).2.2 + 1) else (((ng_cm ea al po pt wy fi kp k).1 &&& (nb_o (po k) ^^^ (-1))) &&& (nb_o (pt k) ^^^ (-1)), (ng_cm ea al po pt wy fi kp k).2.1 ^^^ wy k, (ng_cm ea al po pt wy fi kp k).2.2 + 1 + 1)) else ng_cm ea al po pt wy fi kp k
theorem ng_cm_f {ea al : Nat → Bool} {po pt : Nat → Nat} {wy : Nat → Int64} {fi fi1 : Int32} {kp kp1 : Int64} {k n1 : Nat} (h : (fi1, kp1, n1) = ng_cm ea al po pt wy fi kp k) (he : ea k = false) : (fi1, kp1, n1) = ng_cm ea al po pt wy fi kp (k + 1) := by
  rw [ng_cm, if_neg (by rw [he]; decide)]; exact h
theorem ng_cm_a {ea al : Nat → Bool} {po pt : Nat → Nat} {wy : Nat → Int64} {fi fi1 : Int32} {kp kp1 : Int64} {k n1 : Nat} (h : (fi1, kp1, n1) = ng_cm ea al po pt wy fi kp k) (he : ea k = true) (ha : al k = true) : (fi1 &&& (nb_o (po k) ^^^ (-1)), kp1 ^^^ wy k, n1 + 1) = ng_cm ea al po pt wy fi kp (k + 1) := by
  rw [ng_cm, if_pos he, if_pos ha, ← h]
theorem ng_cm_n {ea al : Nat → Bool} {po pt : Nat → Nat} {wy : Nat → Int64} {fi fi1 : Int32} {kp kp1 : Int64} {k n1 : Nat} (h : (fi1, kp1, n1) = ng_cm ea al po pt wy fi kp k) (he : ea k = true) (ha : al k = false) : ((fi1 &&& (nb_o (po k) ^^^ (-1))) &&& (nb_o (pt k) ^^^ (-1)), kp1 ^^^ wy k, n1 + 1 + 1) = ng_cm ea al po pt wy fi kp (k + 1) := by
  rw [ng_cm, if_pos he, if_neg (by rw [ha]; decide), ← h]
