/-! the model's cells and rows for its arrays -/
abbrev cg_B (a : Nat) (cZ : ClassId) (n : Nat) (f : Nat → Bool) : Nat × va_E := (a, .inl (cZ, n, .inl (fun k => nb_i (f k))))
abbrev cg_D (dm : Nat) (th : Nat) (np : Nat) (ne : Nat) (fi : Int32) (kp : Int64) (iA : Nat) (tA : Nat) (oA : Nat) (uA : Nat) (wA : Nat) (sA : Nat) (eA : Nat) (vA : Nat) (yA : Nat) (lA : Nat) (ll : Nat) (mn : Nat) (xA : Nat) (cA : Nat) (zA : Nat) (pA : Nat) (bA : Nat) (fA : Nat) (gA : Nat) (bw : Nat) (bs : Nat) (ps : Nat) (qA : Nat) (rA : Nat) (aA : Nat) (kA : Nat) (lt : Nat) (wt : Nat) (fx : Int64) : Nat × va_E := (dm, .inr (5, [.int (nI th), .int (nI np), .int (nI ne), .int fi, .long kp, .ref iA, .ref tA, .ref oA, .ref uA, .ref wA, .ref sA, .ref eA, .ref vA, .ref yA, .ref lA, .int (nI ll), .int (nI mn), .ref xA, .ref cA, .ref zA, .ref pA, .ref bA, .ref fA, .ref gA, .int (nI bw), .int (nI bs), .int (nI ps), .ref qA, .ref rA, .ref aA, .ref kA, .int (nI lt), .int (nI wt), .long fx]))
theorem nb_narZ (b : Bool) : vp_nar .boolean (nb_i b) = nb_i b := by cases b <;> decide
section ZR
variable {p : Program} {l : Launch} {e : Env} {R : Room} {s : State} {m : MethodId} {args : Array Value} {below : List Frame} {meth : Method} {c : Code} {H : Heap} {locs : List Loc} {cells slots : Nat} {Q : State → Prop} {cc : ByteArray} {pc : Nat} {ls : Array Slot} {rest : List Value}
variable {D : va_G} {cl : List vw_C} {A : Nat → Prop} {a : Nat} {tys : List (ClassId × FieldType)} {ws : va_W} {H0 : Heap}
theorem nr_zast {x : Bool} (hx : p.tables.exec = Jvm.exec) (hb : c.code = cc) (hK : va_K D cl tys s) (hP : va_P D cl ws H) (hD : va_D A ws) (hS : va_S A H0 H locs) (q0 t0 : Nat) {cA : ClassId} {n : Nat} {f : Nat → Bool} (ha : ws[q0]? = some (a, .inl (cA, n, .inl (fun k => nb_i (f k))))) (ht : tys[t0]? = some (cA, .boolean)) {i : Nat} (hi : i < n) (hn : n < 2 ^ 31) (hd : decode cc pc = .ok (.bastore, 1)) (kk : ∀ (H1 : Heap) (locs1 : List Loc), va_P D cl (ws.set q0 (a, .inl (cA, n, .inl (fun k => nb_i (va_up f i x k))))) H1 → va_D A (ws.set q0 (a, .inl (cA, n, .inl (fun k => nb_i (va_up f i x k))))) → va_S A H0 H1 locs1 → W p l e R s m args below meth c H1 locs1 cells slots Q (F0 m (pc + 1) ls rest)) : W p l e R s m args below meth c H locs cells slots Q (F0 m pc ls (.int (nb_i x) :: .int (nI i) :: .ref a :: rest)) := va_zast hx hb hK hP hD hS q0 t0 ha ht (vp_in_nI hi hn) hd (fun H1 locs1 h1 h2 h3 => by rw [nI_clamp (Nat.lt_trans hi hn), nb_narZ, nr_zup] at h1 h2; exact kk H1 locs1 h1 h2 h3)
theorem nr_lastR {x : Int64} (hx : p.tables.exec = Jvm.exec) (hb : c.code = cc) (hK : va_K D cl tys s) (hP : va_P D cl ws H) (hD : va_D A ws) (hS : va_S A H0 H locs) (q0 t0 : Nat) {cA : ClassId} {n : Nat} {f : Nat → Int64} (ha : ws[q0]? = some (a, .inl (cA, n, .inr (.inl f)))) (ht : tys[t0]? = some (cA, .long)) {i : Nat} (hi : i < n) (hn : n < 2 ^ 31) (hd : decode cc pc = .ok (.lastore, 1)) (kk : ∀ (H1 : Heap) (locs1 : List Loc), va_P D cl (ws.set q0 (a, .inl (cA, n, .inr (.inl (va_up f i x))))) H1 → va_D A (ws.set q0 (a, .inl (cA, n, .inr (.inl (va_up f i x))))) → va_S A H0 H1 locs1 → W p l e R s m args below meth c H1 locs1 cells slots Q (F0 m (pc + 1) ls rest)) : W p l e R s m args below meth c H locs cells slots Q (F0 m pc ls (.long x :: .int (nI i) :: .ref a :: rest)) := va_last hx hb hK hP hD hS q0 t0 ha ht (vp_in_nI hi hn) hd (fun H1 locs1 h1 h2 h3 => by rw [nI_clamp (Nat.lt_trans hi hn)] at h1 h2; exact kk H1 locs1 h1 h2 h3)
end ZR
def ng_hv (ie : Nat → Bool) (wt : Nat → Nat) (k : Nat) : Nat := if ie k = true then 0 else wt k
def ng_go (wo : Nat → Option Nat) (ib : Nat → Bool) (p z : Nat) : Bool := (wo p).isSome && (decide (p = z) || !ib p)
def ng_cb (np : Nat) (ib : Nat → Bool) (a b w z : Int32) : Bool := nb_in np a && (nb_in np b && (!decide (a = b) && (!(ib a.toNatClampNeg && ib b.toNatClampNeg) && ng_ev w z)))
theorem ng_addb (n : Nat) (b : Bool) : nI n + nb_i b = nI (n + if b = true then 1 else 0) := by
  cases b
  · show nI n + nI 0 = _
    rw [nI_add]; rfl
  · show nI n + nI 1 = _
    rw [nI_add]; rfl
def ng_and (x : Int32) (ib : Nat → Bool) : Nat → Int32
  | 0 => x
  | n + 1 => if ib n = true then ng_and x ib n &&& (nb_o n ^^^ (-1)) else ng_and x ib n
def ng_totD (np ne : Nat) (fi : Int32) (ps : Nat) (ie : Nat → Bool) (x : Int32) : Int32 := if x = nI 0 then nI np else if x = nI 1 then nI ne else if x = nI 2 then fi else if x = nI 3 then nI ps else if x = nI 4 then nI (dm_ct ie ne) else -1
theorem ng_totD_d {np ne : Nat} {fi : Int32} {ps : Nat} {ie : Nat → Bool} {x : Int32} (h : x.toInt < 0 ∨ 4 < x.toInt) : ng_totD np ne fi ps ie x = -1 := by
  unfold ng_totD
  rw [if_neg (ng_out h (by omega)), if_neg (ng_out h (by omega)), if_neg (ng_out h (by omega)), if_neg (ng_out h (by omega)), if_neg (ng_out h (by omega))]
def ng_pairD (ps : Nat) (q r : Nat → Nat) (i z : Int32) : Int32 := if nb_in ps i = true ∧ nb_in 2 z = true then (if z = 0 then nI (q i.toNatClampNeg) else nI (r i.toNatClampNeg)) else -1
def ng_ae (ne : Nat) (x : Int64) : Bool := !decide (x < lN 0) && ng_fitL ne x
theorem ng_lt1 {z : Int32} (h : nI 1 < z) : nI 2 ≤ z := by
  rw [Int32.lt_iff_toInt_lt] at h
  rw [Int32.le_iff_toInt_le]
  have h1 : (nI 1).toInt = 1 := by decide
  have h2 : (nI 2).toInt = 2 := by decide
  omega
