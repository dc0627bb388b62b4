/-! the matcher's words -/
abbrev cg_O (a : Nat) (cI : ClassId) (n : Nat) (f : Nat → Option Nat) : Nat × va_E := (a, .inl (cI, n, .inl (fun k => ng_oi (f k))))
theorem ng_m1l : (-1 : Int32) < 0 := by decide
def ng_F1 : Nat := 1000000000
theorem ng_natI (x : Int32) : x = nI x.toBitVec.toNat := by
  apply Int32.toBitVec_inj.1
  show x.toBitVec = BitVec.ofNat 32 x.toBitVec.toNat
  simp
def ng_wo (g a b : Nat) : Nat := (nI g &&& ((nb_o a ||| nb_o b) ^^^ (-1))).toBitVec.toNat
theorem ng_wo_eq (g a b : Nat) : nI g &&& ((nb_o a ||| nb_o b) ^^^ (-1)) = nI (ng_wo g a b) := ng_natI _
theorem ng_tb {g k : Nat} (hg : g < 2 ^ 32) : nb_t (nI g) k = g.testBit k := by
  unfold nb_t
  show (BitVec.ofNat 32 g).getLsbD k = _
  rw [BitVec.getLsbD_ofNat]
  by_cases h : k < 32
  · simp [h]
  · rw [decide_eq_false h, Bool.false_and, Nat.testBit_lt_two_pow (Nat.lt_of_lt_of_le hg (Nat.pow_le_pow_right (by decide) (Nat.not_lt.mp h)))]
theorem ng_wo_tb {g a b k : Nat} (hg : g < 2 ^ 31) (ha : a < 32) (hb : b < 32) : (ng_wo g a b).testBit k = (g.testBit k && !decide (k = a) && !decide (k = b)) := by
  have e : (ng_wo g a b).testBit k = nb_t (nI g &&& ((nb_o a ||| nb_o b) ^^^ (-1))) k := by
    unfold ng_wo nb_t
    rw [BitVec.getLsbD]
  rw [e, nb_bt_and, nb_bt_xor, nb_bt_or, nb_bt_b1 ha, nb_bt_b1 hb, ng_tb (by omega)]
  rcases Nat.lt_or_ge k 32 with h | h
  · rw [nb_bt_m1 k h]
    cases g.testBit k <;> cases decide (k = a) <;> cases decide (k = b) <;> rfl
  · have : g.testBit k = false := Nat.testBit_lt_two_pow (Nat.lt_of_lt_of_le hg (Nat.pow_le_pow_right (by decide) (by omega)))
    rw [this]; simp
theorem ng_wo_le {g a b : Nat} (hg : g < 2 ^ 31) : ng_wo g a b ≤ g := by
  unfold ng_wo
  rw [Int32.toBitVec_and, BitVec.toNat_and]
  have h1 : (nI g).toBitVec.toNat = g := pk_tn (by omega)
  rw [h1]
  exact Nat.and_le_left
theorem ng_whole {rl : Nat} (h : rl ≤ 10) : nb_o rl - nI 1 = nI (2 ^ rl - 1) := (by decide +kernel : ∀ rl, rl ≤ 10 → nb_o rl - nI 1 = nI (2 ^ rl - 1)) rl h
def ng_ww (pw lw : Nat → Nat) (g pl pa : Nat) : Nat := if pw (pl * 10 + pa) = ng_F1 ∨ lw (ng_wo g pl pa) = ng_F1 then ng_F1 else pw (pl * 10 + pa) + lw (ng_wo g pl pa)
def ng_lp (rl g : Nat) : Nat := (ng_fst (fun p => nb_t (nI g) p) (rl - 1) 0).getD (rl - 1)
def ng_wi1 (lw : Nat → Nat) (g w : Nat) : Nat → Nat := if w < lw g then va_up lw g w else lw
def ng_wi2 (lw lc : Nat → Nat) (g w k : Nat) : Nat → Nat := if w < lw g then va_up lc g k else if w = lw g ∧ w ≠ ng_F1 then va_up lc g (lc g + k) else lc
def ng_fp (rl : Nat) (pw lw : Nat → Nat) (g pl : Nat) : Nat := (ng_fst (fun p => nb_t (nI g) p && decide (ng_ww pw lw g pl p = lw g)) (rl - (pl + 1)) (pl + 1)).getD pl
def ng_pt (row : Nat → Nat) (nr : Nat → Option Nat) (pl pa : Nat) : Option Nat := if pa = pl then nr pl else some (row pa)
def ng_nb (bd : Int32) (ct : Nat → Nat) (p : Nat) : Nat → Option Nat
  | 0 => none
  | n + 1 => if nb_t bd n = true ∧ ct (p * 20 + n) ≠ dm_FAR ∧ (∀ y, ng_nb bd ct p n = some y → ct (p * 20 + n) / 64 < ct (p * 20 + y) / 64) then some n else ng_nb bd ct p n
theorem ng_nb_lt {bd : Int32} {ct : Nat → Nat} {p : Nat} : ∀ {n y : Nat}, ng_nb bd ct p n = some y → y < n := by
  intro n
  induction n with
  | zero => intro y h; simp [ng_nb] at h
  | succ n ih =>
    intro y h
    unfold ng_nb at h
    split at h
    · cases h; omega
    · have := ih h; omega
theorem ng_nb_t {bd : Int32} {ct : Nat → Nat} {p n : Nat} (h1 : nb_t bd n = true) (h2 : ct (p * 20 + n) ≠ dm_FAR) (h3 : ∀ y, ng_nb bd ct p n = some y → ct (p * 20 + n) / 64 < ct (p * 20 + y) / 64) : ng_nb bd ct p (n + 1) = some n := by
  rw [ng_nb, if_pos ⟨h1, h2, h3⟩]
theorem ng_nb_f {bd : Int32} {ct : Nat → Nat} {p n : Nat} (h : ¬ (nb_t bd n = true ∧ ct (p * 20 + n) ≠ dm_FAR ∧ (∀ y, ng_nb bd ct p n = some y → ct (p * 20 + n) / 64 < ct (p * 20 + y) / 64))) : ng_nb bd ct p (n + 1) = ng_nb bd ct p n := by
  rw [ng_nb, if_neg h]
def ng_rw (fi : Int32) : Nat → List Nat
  | 0 => []
  | n + 1 => if nb_t fi n = true then ng_rw fi n ++ [n] else ng_rw fi n
theorem ng_rw_mono {fi : Int32} {i : Nat} : ∀ {n : Nat}, i ≤ n → (ng_rw fi i).length ≤ (ng_rw fi n).length := by
  intro n
  induction n with
  | zero => intro h; rw [Nat.le_zero.mp h]; exact Nat.le_refl _
  | succ n ih =>
    intro h
    by_cases q : i = n + 1
    · rw [q]; exact Nat.le_refl _
    · have h1 := ih (by omega)
      have h2 : (ng_rw fi n).length ≤ (ng_rw fi (n + 1)).length := by
        rw [ng_rw]
        split
        · simp
        · exact Nat.le_refl _
      omega
theorem ng_rw_same {fi : Int32} {i : Nat} : ∀ {n : Nat}, i ≤ n → (ng_rw fi n).length ≤ (ng_rw fi i).length → ng_rw fi n = ng_rw fi i := by
  intro n
  induction n with
  | zero => intro h _; rw [Nat.le_zero.mp h]
  | succ n ih =>
    intro h hl
    by_cases q : i = n + 1
    · rw [q]
    · have h1 := ng_rw_mono (fi := fi) (show i ≤ n by omega)
      rw [ng_rw] at hl ⊢
      split at hl
      · rw [List.length_append] at hl
        simp at hl
        omega
      · rename_i hb
        rw [if_neg hb]
        exact ih (by omega) hl
theorem ng_rw_t {fi : Int32} {n : Nat} (h : nb_t fi n = true) : ng_rw fi (n + 1) = ng_rw fi n ++ [n] := by rw [ng_rw, if_pos h]
theorem ng_rw_f {fi : Int32} {n : Nat} (h : nb_t fi n = false) : ng_rw fi (n + 1) = ng_rw fi n := by rw [ng_rw, if_neg (by rw [h]; decide)]
theorem ng_rw_lt {fi : Int32} : ∀ {n x : Nat}, x ∈ ng_rw fi n → x < n ∧ nb_t fi x = true := by
  intro n
  induction n with
  | zero => intro x h; cases h
  | succ n ih =>
    intro x h
    rw [ng_rw] at h
    split at h
    · rename_i hb
      rcases List.mem_append.mp h with q | q
      · have := ih q; exact ⟨by omega, this.2⟩
      · rw [List.mem_singleton] at q; subst q; exact ⟨by omega, hb⟩
    · have := ih h; exact ⟨by omega, this.2⟩
def ng_pv (ct row : Nat → Nat) (nr : Nat → Option Nat) (a b : Nat) : Nat := match ng_pt row nr a b with
  | none => ng_F1
  | some y => if ct (row a * 20 + y) = dm_FAR then ng_F1 else ct (row a * 20 + y) / 64
def ng_wq (q : Nat × Nat) (w k : Nat) : Nat × Nat := if w < q.1 then (w, k) else if w = q.1 ∧ w ≠ ng_F1 then (q.1, q.2 + k) else q
def ng_sg (pw lw lc : Nat → Nat) (g pl : Nat) : Nat → Nat × Nat
  | 0 => (ng_F1, 0)
  | n + 1 => if nb_t (nI g) (pl + n) = true then ng_wq (ng_sg pw lw lc g pl n) (ng_ww pw lw g pl (pl + n)) (lc (ng_wo g pl (pl + n))) else ng_sg pw lw lc g pl n
theorem ng_nb_ok {bd : Int32} {ct : Nat → Nat} {p : Nat} : ∀ {n y : Nat}, ng_nb bd ct p n = some y → nb_t bd y = true ∧ ct (p * 20 + y) ≠ dm_FAR := by
  intro n
  induction n with
  | zero => intro y h; simp [ng_nb] at h
  | succ n ih =>
    intro y h
    unfold ng_nb at h
    split at h
    · rename_i hq
      cases h
      exact ⟨hq.1, hq.2.1⟩
    · exact ih h
theorem ng_row1 {l l2 : List Nat} {n x : Nat} {f : Nat → Nat} (hn : n = l.length) (h2 : l2 = l ++ [x]) (h : ∀ j, j < n → l[j]? = some (f j)) : ∀ j, j < n + 1 → l2[j]? = some (va_up f n x j) := by
  intro j hj
  subst h2
  by_cases q : j = n
  · subst q
    rw [va_up_self, hn, List.getElem?_append_right (Nat.le_refl _)]
    simp
  · rw [va_up_ne _ _ q, List.getElem?_append_left (by omega)]
    exact h j (by omega)
theorem ng_row2 {n x : Nat} {f : Nat → Nat} {g : Nat → Option Nat} {F : Nat → Option Nat} {v : Option Nat} (hv : v = F x) (h : ∀ j, j < n → g j = F (f j)) : ∀ j, j < n + 1 → va_up g n v j = F (va_up f n x j) := by
  intro j hj
  by_cases q : j = n
  · subst q
    rw [va_up_self, va_up_self]; exact hv
  · rw [va_up_ne _ _ q, va_up_ne _ _ q]
    exact h j (by omega)
theorem ng_pws {rl i j v : Nat} {ct row pw1 : Nat → Nat} {nr : Nat → Option Nat} (hrl : rl ≤ 10) (hi : i < rl) (hj : j < rl) (hij : i ≤ j) (hv : v = ng_pv ct row nr i j) (h : ∀ a b, a ≤ b → b < rl → (a < i ∨ (a = i ∧ b < j)) → pw1 (a * 10 + b) = ng_pv ct row nr a b) : ∀ a b, a ≤ b → b < rl → (a < i ∨ (a = i ∧ b < j + 1)) → va_up pw1 (i * 10 + j) v (a * 10 + b) = ng_pv ct row nr a b := by
  intro a b h1 h2 h3
  by_cases q : a * 10 + b = i * 10 + j
  · have q1 : a = i := by omega
    have q2 : b = j := by omega
    subst q1 q2
    rw [va_up_self]; exact hv
  · rw [va_up_ne _ _ q]
    refine h a b h1 h2 ?_
    by_cases z : a = i
    · have : b ≠ j := fun z2 => q (by rw [z, z2])
      omega
    · omega
theorem ng_pwf {f : Nat → Nat} {k v : Nat} (h : ∀ i, i < 100 → f i ≤ ng_F1) (hv : v ≤ ng_F1) : ∀ i, i < 100 → va_up f k v i ≤ ng_F1 := by
  intro i hi
  by_cases q : i = k
  · subst q; rw [va_up_self]; exact hv
  · rw [va_up_ne _ _ q]; exact h i hi
theorem ng_up1 {f : Nat → Nat} {k v : Nat} (h : ∀ i, i < 1024 → f i ≤ ng_F1) (hv : v ≤ ng_F1) : ∀ i, i < 1024 → va_up f k v i ≤ ng_F1 := by
  intro i hi
  by_cases q : i = k
  · subst q; rw [va_up_self]; exact hv
  · rw [va_up_ne _ _ q]; exact h i hi
theorem ng_pt_lt {row : Nat → Nat} {nr : Nat → Option Nat} {i j y np rl : Nat} (h : ng_pt row nr i j = some y) (hrow : ∀ j, j < rl → row j < np) (hnr : ∀ z, nr i = some z → z < np) (hj : j < rl) : y < np := by
  unfold ng_pt at h
  split at h
  · exact hnr y h
  · cases h; exact hrow j hj
theorem ng_wo_ne {g a b : Nat} (hg : g < 2 ^ 31) (ha : a < 32) (hb : b < 32) (h : g.testBit a = true) : ng_wo g a b ≠ g := by
  intro q
  have e := ng_wo_tb (g := g) (a := a) (b := b) (k := a) hg ha hb
  rw [q, h] at e
  simp at e
theorem ng_ww_up {pw lw : Nat → Nat} {g pl pa v : Nat} (h : ng_wo g pl pa ≠ g) : ng_ww pw (va_up lw g v) g pl pa = ng_ww pw lw g pl pa := by
  unfold ng_ww
  rw [va_up_ne _ _ h]
theorem ng_ww_le {pw lw : Nat → Nat} {g pl pa : Nat} (hpw : ∀ i, i < 100 → pw i ≤ ng_F1) (hlw : ∀ i, i < 1024 → lw i ≤ ng_F1) (hg : g < 1024) (h1 : pl < 10) (h2 : pa < 10) : ng_ww pw lw g pl pa < 2 ^ 31 := by
  have e1 := hpw (pl * 10 + pa) (by omega)
  have e2 := hlw (ng_wo g pl pa) (Nat.lt_of_le_of_lt (ng_wo_le (by omega)) hg)
  have hF1 : ng_F1 = 1000000000 := rfl
  unfold ng_ww
  split <;> omega
theorem ng_ww_b {pw lw : Nat → Nat} {g pl pa : Nat} (hpw : ∀ i, i < 100 → pw i ≤ ng_F1) (hlw : ∀ i, i < 1024 → lw i ≤ ng_F1) (hg : g < 1024) (h1 : pl < 10) (h2 : pa < 10) : ng_ww pw lw g pl pa < 2 ^ 31 := ng_ww_le hpw hlw hg h1 h2
theorem ng_wq_le {q : Nat × Nat} {w k : Nat} (h : q.1 ≤ ng_F1) : (ng_wq q w k).1 ≤ ng_F1 := by
  unfold ng_wq
  split
  · show w ≤ ng_F1; omega
  · split
    · exact h
    · exact h
theorem ng_sg_b {pw lw lc : Nat → Nat} {g pl n : Nat} (hpw : ∀ i, i < 100 → pw i ≤ ng_F1) (hlw : ∀ i, i < 1024 → lw i ≤ ng_F1) (hg : g < 1024) (h1 : pl < 10) (h2 : pl + n ≤ 10) : (ng_sg pw lw lc g pl n).1 ≤ ng_F1 := by
  induction n with
  | zero => exact Nat.le_refl _
  | succ n ih =>
    unfold ng_sg
    split
    · exact ng_wq_le (ih (by omega))
    · exact ih (by omega)
theorem ng_sg_f {pw lw lc : Nat → Nat} {g pl i : Nat} (h : pl ≤ i) (hb : nb_t (nI g) i = false) : ng_sg pw lw lc g pl (i + 1 - pl) = ng_sg pw lw lc g pl (i - pl) := by
  rw [show i + 1 - pl = (i - pl) + 1 by omega, ng_sg, if_neg (by rw [show pl + (i - pl) = i by omega, hb]; decide)]
theorem ng_sg_t {pw lw lc : Nat → Nat} {g pl i : Nat} (h : pl ≤ i) (hb : nb_t (nI g) i = true) : ng_sg pw lw lc g pl (i + 1 - pl) = ng_wq (ng_sg pw lw lc g pl (i - pl)) (ng_ww pw lw g pl i) (lc (ng_wo g pl i)) := by
  rw [show i + 1 - pl = (i - pl) + 1 by omega, ng_sg, show pl + (i - pl) = i by omega, if_pos hb]
theorem ng_sg_1 {pw lw lc : Nat → Nat} {g pl i : Nat} (h : pl ≤ i) (hb : nb_t (nI g) i = true) : ng_wi1 (va_up lw g (ng_sg pw lw lc g pl (i - pl)).1) g (ng_ww pw lw g pl i) = va_up lw g (ng_sg pw lw lc g pl (i + 1 - pl)).1 := by
  rw [ng_sg_t h hb]
  unfold ng_wi1 ng_wq
  rw [va_up_self]
  split
  · rw [bx_uu]
  · split <;> rfl
theorem ng_sg_2 {pw lw lc : Nat → Nat} {g pl i : Nat} (h : pl ≤ i) (hb : nb_t (nI g) i = true) : ng_wi2 (va_up lw g (ng_sg pw lw lc g pl (i - pl)).1) (va_up lc g (ng_sg pw lw lc g pl (i - pl)).2) g (ng_ww pw lw g pl i) (lc (ng_wo g pl i)) = va_up lc g (ng_sg pw lw lc g pl (i + 1 - pl)).2 := by
  rw [ng_sg_t h hb]
  unfold ng_wi2 ng_wq
  rw [va_up_self, va_up_self]
  split
  · rw [bx_uu]
  · split
    · rw [bx_uu]
    · rfl
/-! arrays of options (-1 for none) and of booleans -/
section OR
variable {p : Program} {l : Launch} {e : Env} {R : Room} {s : State} {m : MethodId} {args : Array Value} {below : List Frame} {meth : Method} {c : Code} {H : Heap} {locs : List Loc} {cells slots : Nat} {Q : State → Prop} {cc : ByteArray} {pc : Nat} {ls : Array Slot} {rest : List Value}
variable {D : va_G} {cl : List vw_C} {A : Nat → Prop} {a : Nat} {tys : List (ClassId × FieldType)} {ws : va_W} {H0 : Heap}
theorem nr_oald (hx : p.tables.exec = Jvm.exec) (hb : c.code = cc) (hK : va_K D cl tys s) (hP : va_P D cl ws H) (q0 t0 : Nat) {cA : ClassId} {n : Nat} {f : Nat → Option Nat} (ha : ws[q0]? = some (a, .inl (cA, n, .inl (fun k => ng_oi (f k))))) (ht : tys[t0]? = some (cA, .int)) {i : Nat} (hi : i < n) (hn : n < 2 ^ 31) (hd : decode cc pc = .ok (.iaload, 1)) (k : W p l e R s m args below meth c H locs cells slots Q (F0 m (pc + 1) ls (.int (ng_oi (f i)) :: rest))) : W p l e R s m args below meth c H locs cells slots Q (F0 m pc ls (.int (nI i) :: .ref a :: rest)) := va_iald hx hb hK hP q0 t0 ha ht (vp_in_nI hi hn) hd (by rw [nI_clamp (Nat.lt_trans hi hn)]; exact k)
theorem nr_oup (f : Nat → Option Nat) (i : Nat) (x : Option Nat) : upd (fun k => ng_oi (f k)) i (ng_oi x) = fun k => ng_oi (va_up f i x k) := by funext j; unfold upd va_up; by_cases h : j = i <;> simp [h]
theorem nr_oast {x : Option Nat} (hx : p.tables.exec = Jvm.exec) (hb : c.code = cc) (hK : va_K D cl tys s) (hP : va_P D cl ws H) (hD : va_D A ws) (hS : va_S A H0 H locs) (q0 t0 : Nat) {cA : ClassId} {n : Nat} {f : Nat → Option Nat} (ha : ws[q0]? = some (a, .inl (cA, n, .inl (fun k => ng_oi (f k))))) (ht : tys[t0]? = some (cA, .int)) {i : Nat} (hi : i < n) (hn : n < 2 ^ 31) (hd : decode cc pc = .ok (.iastore, 1)) (kk : ∀ (H1 : Heap) (locs1 : List Loc), va_P D cl (ws.set q0 (a, .inl (cA, n, .inl (fun k => ng_oi (va_up f i x k))))) H1 → va_D A (ws.set q0 (a, .inl (cA, n, .inl (fun k => ng_oi (va_up f i x k))))) → va_S A H0 H1 locs1 → W p l e R s m args below meth c H1 locs1 cells slots Q (F0 m (pc + 1) ls rest)) : W p l e R s m args below meth c H locs cells slots Q (F0 m pc ls (.int (ng_oi x) :: .int (nI i) :: .ref a :: rest)) := va_iast hx hb hK hP hD hS q0 t0 ha ht (vp_in_nI hi hn) hd (fun H1 locs1 h1 h2 h3 => by rw [nI_clamp (Nat.lt_trans hi hn), nr_oup] at h1 h2; exact kk H1 locs1 h1 h2 h3)
theorem nr_zald (hx : p.tables.exec = Jvm.exec) (hb : c.code = cc) (hK : va_K D cl tys s) (hP : va_P D cl ws H) (q0 t0 : Nat) {cA : ClassId} {n : Nat} {f : Nat → Bool} (ha : ws[q0]? = some (a, .inl (cA, n, .inl (fun k => nb_i (f k))))) (ht : tys[t0]? = some (cA, .boolean)) {i : Nat} (hi : i < n) (hn : n < 2 ^ 31) (hd : decode cc pc = .ok (.baload, 1)) (k : W p l e R s m args below meth c H locs cells slots Q (F0 m (pc + 1) ls (.int (nb_i (f i)) :: rest))) : W p l e R s m args below meth c H locs cells slots Q (F0 m pc ls (.int (nI i) :: .ref a :: rest)) := va_zald hx hb hK hP q0 t0 ha ht (vp_in_nI hi hn) hd (by rw [nI_clamp (Nat.lt_trans hi hn)]; exact k)
theorem nr_zup (f : Nat → Bool) (i : Nat) (x : Bool) : upd (fun k => nb_i (f k)) i (nb_i x) = fun k => nb_i (va_up f i x k) := by funext j; unfold upd va_up; by_cases h : j = i <;> simp [h]
end OR
