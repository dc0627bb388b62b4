/-! constructors -/
def nw_B (D : va_G) (cl : List vw_C) (tys : List (ClassId × FieldType)) (ws : va_W) (sz : Nat) (U : State) : Prop := U.heap.size = sz ∧ va_P D cl ws U.heap ∧ va_K D cl tys U ∧ va_D (fun _ => True) ws
def nw_Q {S : Type} (D : va_G) (cl : List vw_C) (A : Nat → Prop) (W1 : S → va_W) : Array Value → State → Outcome → State → Prop := va_Qv (fun _ : S => True) (fun u t => va_P D cl (W1 u) t.heap ∧ va_D A (W1 u)) A
def nw_1 : Cond := .methodLinkNest "PairDecoder" 9 y_G_init "PairDecoder"
def nw_2 : Cond := .methodLinkNest "PairDecoder" 36 y_F_init "PairDecoder"
def nw_U (U : State) : Prop := va_Nw nw_1 U ∧ va_Nw nw_2 U
theorem nw_same {u U : State} (h : u.vm = U.vm) (q : nw_U u) : nw_U U := ⟨va_Nw.same rfl h q.1, va_Nw.same rfl h q.2⟩
theorem nw_warm {s U : State} (hW : s.WarmedH U.vm) (q : nw_U s) : nw_U U := ⟨va_Nw.warmM hW q.1, va_Nw.warmM hW q.2⟩
section NW
variable {p : Program} {l : Launch} {e : Env} {R : Room} {s : State} {m : MethodId} {args : Array Value} {below : List Frame} {meth : Method} {c : Code} {H : Heap} {locs : List Loc} {cells slots : Nat} {Q : State → Prop} {cc : ByteArray} {pc : Nat} {ls : Array Slot} {rest : List Value}
variable {D : va_G} {cl : List vw_C} {tys : List (ClassId × FieldType)} {ws : va_W} {A : Nat → Prop} {H0 : Heap}
theorem nw_newa (hexec : p.tables.exec = Jvm.exec) (hb : c.code = cc) {atype : ArrayType} (harr : (Cond.arrayClass (newarray.typeOf atype)).before args s = true) {ty : FieldType} (hty : newarray.typeOf atype = ty) (hK : va_K D cl tys s) (hP : va_P D cl ws H) (hD : va_D A ws) (hS : va_S A H0 H locs) (hA : ∀ q, H0.size ≤ q → A q) (t0 : Nat) {cA : ClassId} (ht : tys[t0]? = some (cA, ty)) (hra : ∀ k : ClassId, va_RA s k ty → s.vm.findClass ("[" ++ ty.toString) = some k)
    {n : Int32} {N' : Nat} {a0 : vp_A} (ha : ∀ cA : ClassId, vp_cell cA a0 = arrV cA N' (fun _ => defaultValue ty)) (hn : ¬ n < 0) (hN : n.toNatClampNeg = N') (hbytes : N' * componentBytes ty ≤ 536870912) (hcells : cells + 1 ≤ R.cells) (hslots : slots + N' ≤ R.slots) (hdg : decode cc pc = .ok (.newarray atype, 2))
    (kk : ∀ (q : Nat) (H1 : Heap), va_P D cl (ws ++ [(q, .inl (cA, a0))]) H1 → va_D A (ws ++ [(q, .inl (cA, a0))]) → va_S A H0 H1 locs → W p l e R s m args below meth c H1 locs (cells + 1) (slots + N') Q (F0 m (pc + 2) ls (.ref q :: rest))) : W p l e R s m args below meth c H locs cells slots Q (F0 m pc ls (.int n :: rest)) := by
  refine va_newa hexec hb harr hty hK hP hD hS hA ha hn hN hbytes hcells hslots hdg fun q cB H1 hK1 hP1 hD1 hS1 => ?_
  have h1 := hra _ (hK1.2 tys.length (cB, ty) (by simp)).2
  have h2 := hra _ (hK.2 t0 _ ht).2
  have h3 : cB = cA := Option.some.inj (h1.symm.trans h2)
  subst h3
  exact kk q H1 hP1 hD1 hS1
theorem nw_blind {sz : Nat} {av : List Value} : FrameBlind (va_Pc av (nw_B D cl tys ws sz)) := fun a U g mk q => ⟨q.1, q.2.1, q.2.2.1, va_K.moved (u := U) (U := U.calling g mk a) (Vm.Alike.refl U.vm) q.2.2.2.1, q.2.2.2.2⟩
end NW
