/-! the model's search of all points' ways to one -/
def ng_F (wo eo : Nat → Option Nat) (p : Nat) : Nat := match wo p with
  | none => dm_FAR
  | some w => w * 64 + (eo p).getD 0
theorem ng_F_s {wo eo : Nat → Option Nat} {p w n : Nat} (h1 : wo p = some w) (h2 : eo p = some n) : ng_F wo eo p = w * 64 + n := by
  unfold ng_F; rw [h1, h2]; rfl
theorem ng_F_n {wo eo : Nat → Option Nat} {p : Nat} (h1 : wo p = none) : ng_F wo eo p = dm_FAR := by
  unfold ng_F; rw [h1]
theorem ng_F_u {wo eo : Nat → Option Nat} {a w n : Nat} : ng_F (va_up wo a (some w)) (va_up eo a (some n)) a = w * 64 + n := ng_F_s (va_up_self _ _ _) (va_up_self _ _ _)
theorem ng_F_ne {wo eo : Nat → Option Nat} {a w n p : Nat} (h : p ≠ a) : ng_F (va_up wo a (some w)) (va_up eo a (some n)) p = ng_F wo eo p := by
  unfold ng_F; rw [va_up_ne _ _ h, va_up_ne _ _ h]
theorem dm_pg : ∀ (k : Nat) (l : List Nat), l.Nodup → (∀ v, v ∈ l → v < k) → l.length ≤ k := by
  intro k
  induction k with
  | zero =>
    intro l _ h
    cases l with
    | nil => exact Nat.le_refl _
    | cons a t => exact absurd (h a List.mem_cons_self) (Nat.not_lt_zero _)
  | succ k ih =>
    intro l hn h
    have h1 := ih (l.erase k) (hn.erase k) (fun v hv => by
      have q1 : v ∈ l := List.mem_of_mem_erase hv
      have q2 : v ≠ k := ((hn.mem_erase_iff).mp hv).1
      have := h v q1
      omega)
    by_cases hk : k ∈ l
    · rw [List.length_erase_of_mem hk] at h1; omega
    · rw [List.erase_of_not_mem hk] at h1; omega
def ng_V (ne z : Nat) (ib : Nat → Bool) (oe ot hv : Nat → Nat) (wo eo : Nat → Option Nat) : Prop :=
  wo z = some 0 ∧ eo z = some 0 ∧ (∀ p, p < 20 → (wo p).isSome = (eo p).isSome) ∧
  (∀ p w n, p < 20 → wo p = some w → eo p = some n → w ≤ 1000000 * n) ∧
  (∀ p w n, p < 20 → wo p = some w → eo p = some n → ∃ l : List Nat, l.Nodup ∧ (∀ v, v ∈ l → v < 20 ∧ wo v ≠ none ∧ ng_F wo eo v ≤ w * 64 + n) ∧ l.length = n + 1) ∧
  (∀ p, p < 20 → p ≠ z → wo p ≠ none → ∃ e x, e < ne ∧ dm_inc oe ot e p x ∧ (x = z ∨ ib x = false) ∧ hv e * 64 + 1 + ng_F wo eo x ≤ ng_F wo eo p)
theorem ng_V_get {ne z : Nat} {ib : Nat → Bool} {oe ot hv : Nat → Nat} {wo eo : Nat → Option Nat} (h : ng_V ne z ib oe ot hv wo eo) {p w : Nat} (hp : p < 20) (hw : wo p = some w) : ∃ n, eo p = some n ∧ n ≤ 19 ∧ w ≤ 1000000 * n ∧ ng_F wo eo p = w * 64 + n := by
  have h1 := h.2.2.1 p hp
  rw [hw] at h1
  cases he : eo p with
  | none => rw [he] at h1; cases h1
  | some n =>
    obtain ⟨l, l1, l2, l3⟩ := h.2.2.2.2.1 p w n hp hw he
    have h3 := dm_pg 20 l l1 (fun v hv => (l2 v hv).1)
    exact ⟨n, rfl, by omega, h.2.2.2.1 p w n hp hw he, ng_F_s hw he⟩
theorem ng_V_le {ne z : Nat} {ib : Nat → Bool} {oe ot hv : Nat → Nat} {wo eo : Nat → Option Nat} (h : ng_V ne z ib oe ot hv wo eo) {p : Nat} (hp : p < 20) : ng_F wo eo p ≤ dm_FAR ∧ (wo p ≠ none → ng_F wo eo p < dm_FAR) := by
  have hF : dm_FAR = 1000000000000 := rfl
  cases hw : wo p with
  | none => rw [ng_F_n hw]; exact ⟨Nat.le_refl _, fun q => absurd rfl q⟩
  | some w =>
    obtain ⟨n, -, h2, h3, h4⟩ := ng_V_get h hp hw
    rw [h4]
    exact ⟨by omega, fun _ => by omega⟩
theorem ng_V_step {ne z e a b w n wb nb : Nat} {ib : Nat → Bool} {oe ot hv : Nat → Nat} {wo eo : Nat → Option Nat} (h : ng_V ne z ib oe ot hv wo eo) (ha : a < 20) (hb : b < 20) (he : e < ne) (hinc : dm_inc oe ot e a b) (hab : a ≠ b) (haz : a ≠ z) (hbz : b = z ∨ ib b = false) (hwb : wo b = some wb) (hnb : eo b = some nb) (hw : w = wb + hv e) (hn : n = nb + 1) (hhv : hv e ≤ 1000000) (hlt : w * 64 + n < ng_F wo eo a) : ng_V ne z ib oe ot hv (va_up wo a (some w)) (va_up eo a (some n)) := by
  obtain ⟨h1, h2, h3, h4, h5, h6⟩ := id h
  have hFb := ng_F_s hwb hnb
  have hle : ∀ v, ng_F (va_up wo a (some w)) (va_up eo a (some n)) v ≤ ng_F wo eo v := by
    intro v
    by_cases q : v = a
    · subst q; rw [ng_F_u]; omega
    · rw [ng_F_ne q]; exact Nat.le_refl _
  have hsome : ∀ v, wo v ≠ none → va_up wo a (some w) v ≠ none := by
    intro v hv2
    by_cases q : v = a
    · subst q; rw [va_up_self]; intro z; cases z
    · rw [va_up_ne _ _ q]; exact hv2
  refine ⟨?_, ?_, ?_, ?_, ?_, ?_⟩
  · rw [va_up_ne _ _ (fun q => haz q.symm)]; exact h1
  · rw [va_up_ne _ _ (fun q => haz q.symm)]; exact h2
  · intro p hp
    by_cases q : p = a
    · subst q; rw [va_up_self, va_up_self]; rfl
    · rw [va_up_ne _ _ q, va_up_ne _ _ q]; exact h3 p hp
  · intro p w' n' hp hw' hn'
    by_cases q : p = a
    · subst q
      rw [va_up_self] at hw' hn'
      cases hw'; cases hn'
      have := h4 b wb nb hb hwb hnb
      omega
    · rw [va_up_ne _ _ q] at hw' hn'
      exact h4 p w' n' hp hw' hn'
  · intro p w' n' hp hw' hn'
    by_cases q : p = a
    · subst q
      rw [va_up_self] at hw' hn'
      cases hw'; cases hn'
      obtain ⟨l, l1, l2, l3⟩ := h5 b wb nb hb hwb hnb
      refine ⟨p :: l, List.nodup_cons.mpr ⟨fun hm => ?_, l1⟩, fun v hv2 => ?_, by rw [List.length_cons, l3, hn]⟩
      · have := (l2 p hm).2.2
        omega
      · rcases List.mem_cons.mp hv2 with rfl | hm
        · refine ⟨ha, (by rw [va_up_self]; intro z; cases z), ?_⟩
          rw [ng_F_u]; exact Nat.le_refl _
        · have q2 := l2 v hm
          exact ⟨q2.1, hsome v q2.2.1, Nat.le_trans (hle v) (by omega)⟩
    · rw [va_up_ne _ _ q] at hw' hn'
      obtain ⟨l, l1, l2, l3⟩ := h5 p w' n' hp hw' hn'
      exact ⟨l, l1, fun v hv2 => ⟨(l2 v hv2).1, hsome v (l2 v hv2).2.1, Nat.le_trans (hle v) (l2 v hv2).2.2⟩, l3⟩
  · intro p hp hpz hpn
    by_cases q : p = a
    · subst q
      refine ⟨e, b, he, hinc, hbz, ?_⟩
      rw [ng_F_u, ng_F_ne (fun z => hab z.symm), hFb]
      omega
    · rw [va_up_ne _ _ q] at hpn
      obtain ⟨e', x, e1, e2, e3, e4⟩ := h6 p hp hpz hpn
      refine ⟨e', x, e1, e2, e3, ?_⟩
      rw [ng_F_ne q]
      have := hle x
      omega
def ng_S (f : Nat → Nat) : Nat → Nat
  | 0 => 0
  | n + 1 => ng_S f n + f n
theorem ng_S_le {f g : Nat → Nat} (h : ∀ i, f i ≤ g i) : ∀ n, ng_S f n ≤ ng_S g n := by
  intro n
  induction n with
  | zero => exact Nat.le_refl _
  | succ n ih => unfold ng_S; have := h n; omega
theorem ng_S_lt {f g : Nat → Nat} {a : Nat} (h : ∀ i, f i ≤ g i) (hlt : f a < g a) : ∀ n, a < n → ng_S f n < ng_S g n := by
  intro n
  induction n with
  | zero => intro q; omega
  | succ n ih =>
    intro q
    unfold ng_S
    by_cases z : a = n
    · subst z; have := ng_S_le h a; omega
    · have := ih (by omega); have := h n; omega
theorem ng_S_step {wo eo : Nat → Option Nat} {a w n : Nat} (ha : a < 20) (hlt : w * 64 + n < ng_F wo eo a) : ng_S (ng_F (va_up wo a (some w)) (va_up eo a (some n))) 20 < ng_S (ng_F wo eo) 20 := by
  refine ng_S_lt (a := a) (fun i => ?_) (by rw [ng_F_u]; exact hlt) 20 ha
  by_cases q : i = a
  · subst q; rw [ng_F_u]; omega
  · rw [ng_F_ne q]; exact Nat.le_refl _
/-- one step of the search along an edge e from a to b -/
def ng_rl (wo eo : Nat → Option Nat) (ib : Nat → Bool) (hv : Nat → Nat) (z e a b : Nat) : Option (Nat × Nat) :=
  if a ≠ z ∧ ng_go wo ib b z = true then
    (if wo a = none ∨ ¬ ((wo a).getD 0 < (wo b).getD 0 + hv e ∨ ((wo b).getD 0 + hv e = (wo a).getD 0 ∧ (eo a).getD 0 ≤ (eo b).getD 0 + 1)) then some ((wo b).getD 0 + hv e, (eo b).getD 0 + 1) else none)
  else none
theorem ng_go_t {wo : Nat → Option Nat} {ib : Nat → Bool} {b z : Nat} (h : ng_go wo ib b z = true) : ∃ wb, wo b = some wb ∧ (b = z ∨ ib b = false) := by
  unfold ng_go at h
  simp only [Bool.and_eq_true, Bool.or_eq_true, decide_eq_true_eq, Bool.not_eq_true'] at h
  obtain ⟨wb, hwb⟩ := Option.isSome_iff_exists.mp h.1
  exact ⟨wb, hwb, h.2⟩
theorem ng_rl_s {ne z e a b w n : Nat} {ib : Nat → Bool} {oe ot hv : Nat → Nat} {wo eo : Nat → Option Nat} (h : ng_V ne z ib oe ot hv wo eo) (ha : a < 20) (hb : b < 20) (hhv : hv e ≤ 1000000) (q : ng_rl wo eo ib hv z e a b = some (w, n)) : a ≠ z ∧ (b = z ∨ ib b = false) ∧ ∃ wb nb, wo b = some wb ∧ eo b = some nb ∧ w = wb + hv e ∧ n = nb + 1 ∧ w * 64 + n < ng_F wo eo a := by
  have hF : dm_FAR = 1000000000000 := rfl
  unfold ng_rl at q
  split at q
  · rename_i hc
    split at q
    · rename_i hd
      cases q
      obtain ⟨wb, hwb, hbz⟩ := ng_go_t hc.2
      obtain ⟨nb, hnb, n1, n2, n3⟩ := ng_V_get h hb hwb
      refine ⟨hc.1, hbz, wb, nb, hwb, hnb, by rw [hwb]; rfl, by rw [hnb]; rfl, ?_⟩
      rw [hwb, hnb] at hd ⊢
      show (wb + hv e) * 64 + (nb + 1) < ng_F wo eo a
      cases hwa : wo a with
      | none => rw [ng_F_n hwa]; omega
      | some wa =>
        obtain ⟨na, hna, a1, a2, a3⟩ := ng_V_get h ha hwa
        rw [a3]
        rw [hwa, hna] at hd
        rcases hd with hd | hd
        · cases hd
        · have hd : ¬ (wa < wb + hv e ∨ (wb + hv e = wa ∧ na ≤ nb + 1)) := hd
          omega
    · cases q
  · cases q
theorem ng_rl_n {ne z e a b : Nat} {ib : Nat → Bool} {oe ot hv : Nat → Nat} {wo eo : Nat → Option Nat} (h : ng_V ne z ib oe ot hv wo eo) (ha : a < 20) (hb : b < 20) (hhv : hv e ≤ 1000000) (hbz : b = z ∨ ib b = false) (q : ng_rl wo eo ib hv z e a b = none) : ng_F wo eo a ≤ hv e * 64 + 1 + ng_F wo eo b := by
  have hF : dm_FAR = 1000000000000 := rfl
  cases hwb : wo b with
  | none =>
    rw [ng_F_n hwb]
    have := (ng_V_le h ha).1
    omega
  | some wb =>
    obtain ⟨nb, hnb, n1, n2, n3⟩ := ng_V_get h hb hwb
    by_cases haz : a = z
    · subst haz
      rw [ng_F_s h.1 h.2.1]
      omega
    · have hgo : ng_go wo ib b z = true := by
        unfold ng_go
        rw [hwb]
        rcases hbz with q2 | q2
        · rw [decide_eq_true q2]; rfl
        · rw [q2]; simp
      unfold ng_rl at q
      rw [if_pos ⟨haz, hgo⟩] at q
      split at q
      · cases q
      · rename_i hd
        cases hwa : wo a with
        | none => exact absurd (Or.inl hwa) hd
        | some wa =>
          obtain ⟨na, hna, a1, a2, a3⟩ := ng_V_get h ha hwa
          rw [a3, n3]
          rw [hwa, hna, hwb, hnb] at hd
          have hd : ¬ (some wa = none ∨ ¬ (wa < wb + hv e ∨ (wb + hv e = wa ∧ na ≤ nb + 1))) := hd
          have hd2 : wa < wb + hv e ∨ (wb + hv e = wa ∧ na ≤ nb + 1) := by
            by_cases z2 : wa < wb + hv e ∨ (wb + hv e = wa ∧ na ≤ nb + 1)
            · exact z2
            · exact absurd (Or.inr z2) hd
          omega
/-- what the search leaves: no edge can better it -/
def ng_T (ne z : Nat) (ib : Nat → Bool) (oe ot hv : Nat → Nat) (wo eo : Nat → Option Nat) : Prop := ng_V ne z ib oe ot hv wo eo ∧ ∀ e, e < ne → ng_rl wo eo ib hv z e (oe e) (ot e) = none ∧ ng_rl wo eo ib hv z e (ot e) (oe e) = none
theorem ng_T_2 {np ne z : Nat} {ib : Nat → Bool} {oe ot hv : Nat → Nat} {wo eo : Nat → Option Nat} (hnp : np ≤ 20) (hE : ∀ i, i < ne → oe i < np ∧ ot i < np) (hhv : ∀ i, i < ne → hv i ≤ 1000000) (h : ng_T ne z ib oe ot hv wo eo) {e a x : Nat} (he : e < ne) (hi : dm_inc oe ot e a x) (hx : x = z ∨ ib x = false) : ng_F wo eo a ≤ hv e * 64 + 1 + ng_F wo eo x := by
  have hl := dm_inc_lt hE he hi
  have h2 := h.2 e he
  rcases hi with ⟨q1, q2⟩ | ⟨q1, q2⟩
  · refine ng_rl_n h.1 (by omega) (by omega) (hhv e he) hx ?_
    rw [← q1, ← q2]; exact h2.1
  · refine ng_rl_n h.1 (by omega) (by omega) (hhv e he) hx ?_
    rw [← q1, ← q2]; exact h2.2
theorem ng_T_D {np ne z : Nat} {ib inn : Nat → Bool} {oe ot hv co : Nat → Nat} {wo eo : Nat → Option Nat} {D : Nat → Nat → Nat} (hnp : np ≤ 20) (hz : z < np) (hE : ∀ i, i < ne → oe i < np ∧ ot i < np) (hhv : ∀ i, i < ne → hv i ≤ 1000000) (hco : ∀ i, i < ne → co i = hv i * 64 + 1) (hinn : ∀ i, i < np → inn i = !ib i) (h : ng_T ne z ib oe ot hv wo eo) (hD : dm_D np ne inn oe ot co D) : ∀ a, a < np → ng_F wo eo a = D a z := by
  have h2 : ∀ {e a x : Nat}, e < ne → dm_inc oe ot e a x → (x = z ∨ ib x = false) → ng_F wo eo a ≤ hv e * 64 + 1 + ng_F wo eo x := fun he hi hx => ng_T_2 hnp hE hhv h he hi hx
  have F0 : ng_F wo eo z = 0 := ng_F_s h.1.1 h.1.2.1
  have cv : ∀ x, x < np → ((x = z ∨ inn x = true) ↔ (x = z ∨ ib x = false)) := by
    intro x hx
    rw [hinn x hx]
    cases ib x <;> simp
  have le1 : ∀ n a, a < np → D a z ≤ n → ng_F wo eo a ≤ D a z := by
    intro n
    induction n with
    | zero =>
      intro a ha hn
      by_cases hab : a = z
      · subst hab; rw [F0]; exact Nat.zero_le _
      · obtain ⟨e, x, he, hi, hx, hd⟩ := hD.2.2.2 a z ha hz hab (by have : dm_FAR = 1000000000000 := rfl; omega)
        have := hco e he
        omega
    | succ n ih =>
      intro a ha hn
      by_cases hab : a = z
      · subst hab; rw [F0]; exact Nat.zero_le _
      · by_cases hF : D a z = dm_FAR
        · rw [hF]; exact (ng_V_le h.1 (by omega)).1
        · obtain ⟨e, x, he, hi, hx, hd⟩ := hD.2.2.2 a z ha hz hab hF
          have h3 := hco e he
          have hxl := (dm_inc_lt hE he hi).2
          have h4 := ih x hxl (by omega)
          have h5 := h2 he hi ((cv x hxl).mp hx)
          omega
  have le2 : ∀ n a, a < np → ng_F wo eo a ≤ n → D a z ≤ ng_F wo eo a := by
    intro n
    induction n with
    | zero =>
      intro a ha hn
      by_cases hab : a = z
      · subst hab; rw [hD.1 a ha]; exact Nat.zero_le _
      · cases hw : wo a with
        | none => rw [ng_F_n hw] at hn; have : dm_FAR = 1000000000000 := rfl; omega
        | some w =>
          obtain ⟨e, x, he, hi, hx, hd⟩ := h.1.2.2.2.2.2 a (by omega) hab (by rw [hw]; intro q; cases q)
          omega
    | succ n ih =>
      intro a ha hn
      by_cases hab : a = z
      · subst hab; rw [hD.1 a ha]; exact Nat.zero_le _
      · cases hw : wo a with
        | none => rw [ng_F_n hw]; exact hD.2.1 a z ha hz
        | some w =>
          obtain ⟨e, x, he, hi, hx, hd⟩ := h.1.2.2.2.2.2 a (by omega) hab (by rw [hw]; intro q; cases q)
          have hxl := (dm_inc_lt hE he hi).2
          have h4 := ih x hxl (by omega)
          have h5 := hD.2.2.1 e a x z he hi hz ((cv x hxl).mpr hx)
          have h3 := hco e he
          omega
  intro a ha
  exact Nat.le_antisymm (le1 _ a ha (Nat.le_refl _)) (le2 _ a ha (Nat.le_refl _))
theorem ng_rl_az {wo eo : Nat → Option Nat} {ib : Nat → Bool} {hv : Nat → Nat} {z e a b : Nat} (h : a = z) : ng_rl wo eo ib hv z e a b = none := by
  unfold ng_rl; rw [if_neg (fun q => q.1 h)]
theorem ng_rl_ng {wo eo : Nat → Option Nat} {ib : Nat → Bool} {hv : Nat → Nat} {z e a b : Nat} (h : ng_go wo ib b z = false) : ng_rl wo eo ib hv z e a b = none := by
  unfold ng_rl; rw [if_neg (fun q => by rw [h] at q; cases q.2)]
theorem ng_rl_go {wo eo : Nat → Option Nat} {ib : Nat → Bool} {hv : Nat → Nat} {z e a b wb nb : Nat} (haz : a ≠ z) (hgo : ng_go wo ib b z = true) (hwb : wo b = some wb) (hnb : eo b = some nb) : ng_rl wo eo ib hv z e a b = if wo a = none ∨ ¬ ((wo a).getD 0 < wb + hv e ∨ (wb + hv e = (wo a).getD 0 ∧ (eo a).getD 0 ≤ nb + 1)) then some (wb + hv e, nb + 1) else none := by
  unfold ng_rl; rw [if_pos ⟨haz, hgo⟩, hwb, hnb]; rfl
theorem ng_rl_1 {wo eo : Nat → Option Nat} {ib : Nat → Bool} {hv : Nat → Nat} {z e a b wb nb : Nat} (haz : a ≠ z) (hgo : ng_go wo ib b z = true) (hwb : wo b = some wb) (hnb : eo b = some nb) (hwa : wo a = none) : ng_rl wo eo ib hv z e a b = some (wb + hv e, nb + 1) := by
  rw [ng_rl_go haz hgo hwb hnb, if_pos (Or.inl hwa)]
theorem ng_rl_2 {wo eo : Nat → Option Nat} {ib : Nat → Bool} {hv : Nat → Nat} {z e a b wb nb wa na : Nat} (haz : a ≠ z) (hgo : ng_go wo ib b z = true) (hwb : wo b = some wb) (hnb : eo b = some nb) (hwa : wo a = some wa) (hna : eo a = some na) (h : ¬ (wa < wb + hv e ∨ (wb + hv e = wa ∧ na ≤ nb + 1))) : ng_rl wo eo ib hv z e a b = some (wb + hv e, nb + 1) := by
  rw [ng_rl_go haz hgo hwb hnb, if_pos (Or.inr (by rw [hwa, hna]; exact h))]
theorem ng_rl_3 {wo eo : Nat → Option Nat} {ib : Nat → Bool} {hv : Nat → Nat} {z e a b wb nb wa na : Nat} (haz : a ≠ z) (hgo : ng_go wo ib b z = true) (hwb : wo b = some wb) (hnb : eo b = some nb) (hwa : wo a = some wa) (hna : eo a = some na) (h : wa < wb + hv e ∨ (wb + hv e = wa ∧ na ≤ nb + 1)) : ng_rl wo eo ib hv z e a b = none := by
  rw [ng_rl_go haz hgo hwb hnb, if_neg (fun q => by
    rw [hwa, hna] at q
    rcases q with q | q
    · cases q
    · exact q h)]
theorem ng_V_0 {ne z : Nat} {ib : Nat → Bool} {oe ot hv : Nat → Nat} {wo eo : Nat → Option Nat} (hz : z < 20) (h : ∀ p, p < 20 → wo p = none ∧ eo p = none) : ng_V ne z ib oe ot hv (va_up wo z (some 0)) (va_up eo z (some 0)) := by
  have key : ∀ p w, p < 20 → va_up wo z (some 0) p = some w → p = z := by
    intro p w hp hw
    by_cases q : p = z
    · exact q
    · rw [va_up_ne _ _ q, (h p hp).1] at hw; cases hw
  refine ⟨va_up_self _ _ _, va_up_self _ _ _, ?_, ?_, ?_, ?_⟩
  · intro p hp
    by_cases q : p = z
    · subst q; rw [va_up_self, va_up_self]
    · rw [va_up_ne _ _ q, va_up_ne _ _ q, (h p hp).1, (h p hp).2]
  · intro p w n hp hw hn
    have q := key p w hp hw
    subst q
    rw [va_up_self] at hw
    cases hw
    exact Nat.zero_le _
  · intro p w n hp hw hn
    have q := key p w hp hw
    subst q
    rw [va_up_self] at hw hn
    cases hw; cases hn
    refine ⟨[p], List.nodup_cons.mpr ⟨List.not_mem_nil, List.nodup_nil⟩, fun v hv2 => ?_, rfl⟩
    rw [List.mem_singleton] at hv2
    subst hv2
    exact ⟨hz, by rw [va_up_self]; simp, by rw [ng_F_u]; exact Nat.le_refl _⟩
  · intro p hp hpz hpn
    rw [va_up_ne _ _ hpz, (h p hp).1] at hpn
    exact absurd rfl hpn
theorem ng_mf {i : Nat} {P : Nat → Prop} (h : ∀ e, e < i → P e) (hi : P i) : ∀ e, e < i + 1 → P e := by
  intro e he
  by_cases q : e = i
  · subst q; exact hi
  · exact h e (by omega)
theorem ng_no {wo eo : Nat → Option Nat} {i : Nat} (h : ∀ p, p < i → wo p = none ∧ eo p = none) : ∀ p, p < i + 1 → va_up wo i none p = none ∧ va_up eo i none p = none := by
  intro p hp
  by_cases q : p = i
  · subst q; rw [va_up_self, va_up_self]; exact ⟨rfl, rfl⟩
  · rw [va_up_ne _ _ q, va_up_ne _ _ q]; exact h p (by omega)
theorem ng_mm {mo m1 : Bool} {S2 S3 n : Nat} (c : mo = true) (hme : (if mo = true then S2 + 1 else 0) < n + 1) (hmt : m1 = true → S3 < S2) : (if m1 = true then S3 + 1 else 0) < n := by
  rw [if_pos c] at hme
  by_cases q : m1 = true
  · rw [if_pos q]; have := hmt q; omega
  · rw [if_neg q]; omega
