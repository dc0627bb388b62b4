/-! what the class's commit does -/
def ng_cc (ea : Nat → Bool) (le ho : Nat → Nat) (ps : Nat → Nat → Int64) (fi : Int32) (kp : Int64) : Nat → Int32 × Int64
  | 0 => (fi, kp)
  | k + 1 => if ea k = true then ((ng_cc ea le ho ps fi kp k).1 &&& ((nb_o (le k) ||| nb_o (ho k)) ^^^ (-1)), (ng_cc ea le ho ps fi kp k).2 ^^^ ps (le k) (ho k)) else ng_cc ea le ho ps fi kp k
theorem ng_cc_f {ea : Nat → Bool} {le ho : Nat → Nat} {ps : Nat → Nat → Int64} {fi fi1 : Int32} {kp kp1 : Int64} {k : Nat} (h : (fi1, kp1) = ng_cc ea le ho ps fi kp k) (he : ea k = false) : (fi1, kp1) = ng_cc ea le ho ps fi kp (k + 1) := by
  rw [ng_cc, if_neg (by rw [he]; decide)]; exact h
theorem ng_cc_t {ea : Nat → Bool} {le ho : Nat → Nat} {ps : Nat → Nat → Int64} {fi fi1 : Int32} {kp kp1 : Int64} {k : Nat} (h : (fi1, kp1) = ng_cc ea le ho ps fi kp k) (he : ea k = true) : (fi1 &&& ((nb_o (le k) ||| nb_o (ho k)) ^^^ (-1)), kp1 ^^^ ps (le k) (ho k)) = ng_cc ea le ho ps fi kp (k + 1) := by
  rw [ng_cc, if_pos he, ← h]
