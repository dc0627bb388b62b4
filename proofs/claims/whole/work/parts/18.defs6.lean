/-! PairDecoder's own words -/
def ng_ev (a b : Int32) : Bool := !decide (a < 0) && (!decide (nI 1000000 < a) && (!decide (b < 0) && !decide (nI 255 < b)))
def ng_pair (sz : Nat) (le ho : Nat → Nat) (i z : Int32) : Int32 := if nb_in sz i = true then (if z = 0 then nI (le i.toNatClampNeg) else if z = nI 1 then nI (ho i.toNatClampNeg) else -1) else -1
theorem nb_inI_t2 {n : Nat} {x : Int32} (h1 : ¬ x < 0) (h2 : x < nI n) : nb_in n x = true := nb_inI_t h1 (fun q => Int32.not_lt.mpr q h2)
theorem nb_inI_f3 {n : Nat} {x : Int32} (h2 : ¬ x < nI n) : nb_in n x = false := nb_inI_f2 (Int32.not_lt.mp h2)
def ng_early (bd : Int32) (tm le ho : Nat → Nat) (k t : Nat) : Bool := ng_be bd tm (le k) t && ng_be bd tm (ho k) t
