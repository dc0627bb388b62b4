/-! cells by their pictures -/
abbrev cg_N (a : Nat) (cI : ClassId) (n : Nat) (f : Nat → Nat) : Nat × va_E := (a, .inl (cI, n, .inl (fun k => nI (f k))))
abbrev cg_I (a : Nat) (cI : ClassId) (n : Nat) (f : Nat → Int32) : Nat × va_E := (a, .inl (cI, n, .inl f))
abbrev cg_L (a : Nat) (cL : ClassId) (n : Nat) (f : Nat → Nat) : Nat × va_E := (a, .inl (cL, n, .inr (.inl (fun k => lN (f k)))))
abbrev cg_K (a : Nat) (cL : ClassId) (n : Nat) (f : Nat → Int64) : Nat × va_E := (a, .inl (cL, n, .inr (.inl f)))
abbrev cg_G (g tA oA uA wA sA np ne : Nat) (bd : Int32) (er : Int64) (vr : Nat) : Nat × va_E := (g, .inr (0, [.ref tA, .ref oA, .ref uA, .ref wA, .ref sA, .int (nI np), .int (nI ne), .int bd, .long er, .int (nI vr)]))
abbrev cg_W (wy g cA rA : Nat) (mv : Int32) (tl : Nat) : Nat × va_E := (wy, .inr (1, [.ref g, .ref cA, .ref rA, .int mv, .int (nI tl)]))
abbrev cg_F (fo lA hA sz wt lc : Nat) (od : Int64) : Nat × va_E := (fo, .inr (2, [.ref lA, .ref hA, .int (nI sz), .int (nI wt), .int (nI lc), .long od]))
abbrev cg_M (mt g wy xA nA pA qA kA rl : Nat) : Nat × va_E := (mt, .inr (3, [.ref g, .ref wy, .ref xA, .ref nA, .ref pA, .ref qA, .ref kA, .int (nI rl)]))
abbrev cg_P (pd g wy mt fo : Nat) (fi : Int32) (kp : Int64) : Nat × va_E := (pd, .inr (4, [.ref g, .ref wy, .ref mt, .ref fo, .int fi, .long kp]))
/-! the class's small words -/
def ng_fit (n : Nat) (x : Int32) : Bool := decide ((x.toUInt32 >>> ((nI n).toUInt32 &&& Int32.toUInt32 31)).toInt32 = 0)
def ng_fitL (n : Nat) (x : Int64) : Bool := decide ((x.toUInt64 >>> ((nI n).toInt64.toUInt64 &&& Int64.toUInt64 63)).toInt64 = lN 0)
def ng_nth (x : Int32) : Nat → Nat → Nat → Int32
  | 0, _, _ => -1
  | n + 1, i, lf => if nb_t x i = true then (if lf = 0 then nI i else ng_nth x n (i + 1) (lf - 1)) else ng_nth x n (i + 1) lf
theorem ng_nth_f {x : Int32} {i lf : Nat} (hi : i < 20) (h : nb_t x i = false) : ng_nth x (20 - i) i lf = ng_nth x (20 - (i + 1)) (i + 1) lf := by
  rw [show 20 - i = (20 - (i + 1)) + 1 by omega]
  simp [ng_nth, h]
theorem ng_nth_t {x : Int32} {i lf : Nat} (hi : i < 20) (h : nb_t x i = true) (hl : 0 < lf) : ng_nth x (20 - i) i lf = ng_nth x (20 - (i + 1)) (i + 1) (lf - 1) := by
  rw [show 20 - i = (20 - (i + 1)) + 1 by omega]
  simp [ng_nth, h, show ¬ lf = 0 by omega]
theorem ng_nth_0 {x : Int32} {i : Nat} (hi : i < 20) (h : nb_t x i = true) : ng_nth x (20 - i) i 0 = nI i := by
  rw [show 20 - i = (20 - (i + 1)) + 1 by omega]
  simp [ng_nth, h]
def ng_join (np : Nat) (bd a b : Int32) : Bool := nb_in np a && (nb_in np b && (!decide (a = b) && !(nb_t bd a.toNatClampNeg && nb_t bd b.toNatClampNeg)))
def ng_be (bd : Int32) (tm : Nat → Nat) (k t : Nat) : Bool := nb_t bd k || decide (tm k < t)
def ng_w (er : Int64) (wt : Nat → Nat) (e : Nat) : Nat := if nb_u er e = true then 0 else wt e
def ng_nx (oe ot : Nat → Nat) (e x : Nat) : Option Nat := if oe e = x then some (ot e) else if ot e = x then some (oe e) else none
def ng_oi (o : Option Nat) : Int32 := match o with
  | none => -1
  | some e => nI e
def ng_bd (b : Bool) (bd : Int32) (k : Nat) : Int32 := if b = true then bd ||| nb_o k else bd
def ng_low (f : Nat → Nat) (i c : Nat) : Nat → Nat := if c < f i then va_up f i c else f
def ng_fst (P : Nat → Bool) : Nat → Nat → Option Nat
  | 0, _ => none
  | n + 1, i => if P i = true then some i else ng_fst P n (i + 1)
theorem ng_clr {np i j v : Nat} {ct1 : Nat → Nat} (hi : i < np) (hj : j < np) (hn : np ≤ 20) (hv : v = if i = j then 0 else dm_FAR) (h : ∀ x y, x < np → y < np → (x < i ∨ (x = i ∧ y < j)) → ct1 (x * 20 + y) = if x = y then 0 else dm_FAR) : ∀ x y, x < np → y < np → (x < i ∨ (x = i ∧ y < j + 1)) → va_up ct1 (i * 20 + j) v (x * 20 + y) = if x = y then 0 else dm_FAR := by
  intro x y hx hy hxy
  by_cases q : x * 20 + y = i * 20 + j
  · have q1 : x = i := by omega
    have q2 : y = j := by omega
    subst q1 q2
    rw [va_up_self]; exact hv
  · rw [va_up_ne _ _ q]
    refine h x y hx hy ?_
    by_cases z : x = i
    · have : y ≠ j := fun z2 => q (by rw [z, z2])
      omega
    · omega
theorem ng_nm1 {y : Nat} (h : y < 2 ^ 31) : ¬ nI y = -1 := fun q => by
  have h1 := nI_toInt h
  rw [q] at h1
  have h2 : (-1 : Int32).toInt = -1 := by decide
  omega
theorem ng_m1n {y : Nat} (h : y < 2 ^ 31) : ¬ (-1 : Int32) = nI y := fun q => ng_nm1 h q.symm
theorem ng_nx_lt {oe ot : Nat → Nat} {e x y B : Nat} (h : ng_nx oe ot e x = some y) (h1 : oe e < B) (h2 : ot e < B) : y < B := by
  unfold ng_nx at h
  split at h
  · cases h; exact h2
  · split at h
    · cases h; exact h1
    · cases h
def ng_ok (bd : Int32) (er : Int64) (oe ot wt ct : Nat → Nat) (h z e : Nat) : Bool := match ng_nx oe ot e h with
  | none => false
  | some y => (decide (y = z) || !nb_t bd y) && decide (ct (y * 20 + z) + (ng_w er wt e * 64 + 1) = ct (h * 20 + z))
theorem ng_fst_t {P : Nat → Bool} {n i : Nat} (hi : i < n) (h : P i = true) : ng_fst P (n - i) i = some i := by
  rw [show n - i = (n - (i + 1)) + 1 by omega]
  simp [ng_fst, h]
theorem ng_fst_f {P : Nat → Bool} {n i : Nat} (hi : i < n) (h : P i = false) : ng_fst P (n - i) i = ng_fst P (n - (i + 1)) (i + 1) := by
  rw [show n - i = (n - (i + 1)) + 1 by omega]
  simp [ng_fst, h]
theorem ng_subL {x y z : Nat} (hx : x < 2 ^ 62) (hy : y < 2 ^ 62) (hz : z < 2 ^ 62) : (lN z = lN x - lN y) ↔ z + y = x := by
  constructor
  · intro h
    have h1 : lN z + lN y = lN x := by rw [h, Int64.sub_add_cancel]
    rw [lN_add] at h1
    exact (pk_lEQ (by omega) (by omega)).mp h1
  · intro h
    rw [← h, ← lN_add, Int64.add_sub_cancel]
