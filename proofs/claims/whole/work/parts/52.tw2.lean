section TW2
variable {p : Program} {l : Launch} {e : Env} {R : Room} {s : State} {m : MethodId} {args : Array Value} {below : List Frame} {meth : Method} {c : Code} {H : Heap} {locs : List Loc} {cells slots : Nat} {Q : State → Prop}
variable {cc : ByteArray} {pc : Nat} {ls : Array Slot} {D : va_G} {cl : List vw_C} {tys : List (ClassId × FieldType)} {A : Nat → Prop} {c0 : Cond}
set_option maxHeartbeats 2000000 in
/-- throw new ArithmeticException(text): the method ends -/
theorem tw_throw (hl : l.stackTraces = false) (hx : p.tables.exec = Jvm.exec) (hb : c.code = cc) (hsz : ls.size = c.maxLocals) (hts : ∀ w ∈ c0 :: wg_all, w.before args s = true) (hown : s.vm.findClass R_P = some m.cls) (hexc : c.exceptionTable.isEmpty = true) (hlocks : meth.locks = false) (hst : tw_st s) (hkp : ∀ (q : Nat) (c : Cell), s.heap[q]? = some c → c.vm.isStatics = true → H[q]? = some c)
    (hd0 : decode cc pc = .ok (.new 131, 3)) (hd3 : decode cc (pc + 3) = .ok (.dup, 1)) (hd4 : decode cc (pc + 4) = .ok (.ldc 133, 2)) (hd6 : decode cc (pc + 6) = .ok (.invokespecial 135, 3)) (hd9 : decode cc (pc + 9) = .ok (.athrow, 1))
    (hRc : cells + 1 ≤ R.cells) (hRs : slots + 6 ≤ R.slots) (hRf : 6 ≤ R.frames) (hRl : 100 ≤ R.locals)
    (kk : ∀ (U : State) (ad : Nat) (ce : Cell), U.status = .running → Ended U below (.threw ad) → s.WarmedH U.vm → s.sameButNew ({ U with vm := s.vm } : State) locs (cells + 1) (slots + 6) → U.heap[ad]? = some ce → s.vm.findClass tw_AE = some ce.cls → ce.vm = .none → H.size ≤ U.heap.size → (∀ q : Nat, q < H.size → U.heap[q]? = H[q]?) → Q U) : W p l e R s m args below meth c H locs cells slots Q (F0 m pc ls []) := by
  intro T hT X
  subst hT
  have X0 := tw_base X (by omega) (by omega)
  have htr : e.platform.stackTraces = false := by rw [X.admits.platform]; exact hl
  have hgw : ∀ w ∈ wg_all, w.before args (tw_at s T) = true := fun w hw => word_at (U := tw_at s T) (State.WarmedH.refl s) (wg_good hw) (hts w (List.mem_cons_of_mem _ hw))
  have hst' : tw_st (tw_at s T) := tw_move (U := tw_at s T) hst (State.WarmedH.refl s) hkp
  have hoa : ∀ w ∈ Bundle.ownAtoms R_P 135 tw_AE tw_up, w.before args (tw_at s T) = true := fun w hw => by
    rcases tw_own w hw with q | q
    · exact hgw w q
    · exact tw_args hst' args w q
  have hsr : (Cond.stringRef R_P 133 "there is no pairing").before args (tw_at s T) = true := tw_args hst' args tw_sr (List.mem_append_right _ List.mem_cons_self)
  have hown' : (tw_at s T).vm.findClass R_P = some m.cls := hown
  obtain ⟨vm₁, cX, kX, hfX, hkX, -, -, X₁, st1⟩ := X0.newCold hx (own := R_P) (C := tw_AE) (index := 131) (n := 6) hown' (hgw _ tw_k131) (hoa (.instantiable tw_AE 6) (by simp [Bundle.ownAtoms])) (hgw _ tw_ini) (g := F0 m pc ls []) rfl (by rw [hb]; exact hd0) (show 0 + 1 ≤ R.cells - cells by omega) (show 0 + 6 ≤ R.slots - slots by omega)
  generalize hT1 : (T.setVm vm₁).pushCell { cls := cX, slots := kX.instanceTypes.map defaultValue, vm := .none } = T1 at X₁ st1
  have hcellA : T1.heap[T.heap.size]? = some (freshCell cX kX) := by rw [← hT1]; exact State.heap_pushCell_size _ _
  obtain ⟨k9, cf9, i9, a9, -, -, -, -, -, hev⟩ := Cond.stringRef_spec hown' hsr
  have st2 := ldcString X₁ hx hown' hsr hev (g := F0 m (pc + 4) ls [.ref T.heap.size, .ref T.heap.size]) rfl (by rw [hb]; exact hd4)
  obtain ⟨U, hsteps, hrun, hend, hW, hsame, ce, hce, K⟩ := X₁.ctorThrowS hx htr (own := R_P) (cls := tw_AE) (names := tw_up) (ic := 135) hown' (by decide +kernel) (by decide +kernel) hoa (fun y hy => by cases hy) hfX hkX hcellA (Nat.le_refl _) (msg := .ref a9) rfl
    (g := F0 m (pc + 6) ls [.ref a9, .ref T.heap.size, .ref T.heap.size]) rfl hsz rfl rfl (rest := []) rfl (by rw [hb]; exact hd6) (by rw [hb]; exact hd9) (covers_of_empty hexc _) (show 2 + 3 < R.frames by omega) (by simp [tw_up, Value.category, JFrame.monitorRoom]; omega) hlocks
  refine ⟨U, ?_, kk U _ ce hrun hend hW (tw_trans X hsame) hce K.cls K.vm hsame.2.1 (fun q hq => ?_)⟩
  · refine st1 _ ?_
    show Steps p.tables e below (T1.setTop (F0 m (pc + 3) ls [.ref T.heap.size])) _
    jvm_step X₁.here [X₁.here.top, hx, hb, hd3, Value.category]
    refine st2 _ ?_
    exact hsteps
  · have h9 : T.heap[q]? = some T.heap[q] := Array.getElem?_eq_getElem hq
    obtain ⟨c', g1, g2, g3, g4⟩ := hsame.2.2.2.2.2 q _ h9
    have g5 : c'.slots = T.heap[q].slots := Array.ext_getElem? (fun i => g4 i (by simp))
    show U.heap[q]? = T.heap[q]?
    rw [h9]
    refine (show U.heap[q]? = some c' from g1).trans ?_
    rw [g2, g5]
def tw_Q {S : Type} (D : va_G) (cl : List vw_C) (A : Nat → Prop) (post : Option Int32 → S → Prop) (W1 : S → va_W) : Array Value → State → Outcome → State → Prop := fun _ st oc t =>
  ∃ (o : Option Int32) (u : S), post o u ∧ va_P D cl (W1 u) t.heap ∧ va_F A st t ∧ (match o with | some r => oc = .returned (some (.int r)) | none => ∃ (ad : Nat) (ce : Cell), oc = .threw ad ∧ t.heap[ad]? = some ce ∧ st.vm.findClass tw_AE = some ce.cls ∧ ce.vm = .none)
def tw_E (st t : State) (A : Nat → Prop) : Prop := st.WarmedH t.vm ∧ ∃ L, st.sameButNew ({ t with vm := st.vm } : State) L 1 6 ∧ ∀ q ∈ L, A q.base
def tw_MQ (below : List Frame) (Qc : Array Value → State → Outcome → State → Prop) (a : Array Value) (s : State) (A : Nat → Prop) : State → Prop := fun t => ∃ o, t.status = .running ∧ Ended t below o ∧ Qc a s o t ∧ tw_E s t A
def tw_Met (l : Launch) (y : MethodName) (ws : List Cond) (rm : Room) (Pc : Array Value → State → Prop) (Qc : Array Value → State → Outcome → State → Prop) (A : Nat → Prop) : Prop := MetFree l y (headSpec ws rm) Pc (fun _ _ _ _ _ => True) (fun a st o t => Qc a st o t ∧ tw_E st t A)
theorem tw_ofW {y : MethodName} {ws ws' : List Cond} {rm : Room} {Pc : Array Value → State → Prop} {Qc : Array Value → State → Outcome → State → Prop} {maxL : Nat} {ret : Option FieldType}
    (hy : plainName y.cls = true) (hw : ws = Cond.code y cc maxL ret :: ws')
    (body : ∀ p e s m args below meth c s₁, BodyLoose p l y (headSpec ws rm) cc maxL ret e s m args below meth c s₁ → c.maxLocals = maxL → Pc args s →
      W p l e (headSpec ws rm).room s m args below meth c s.heap [] 0 0 (tw_MQ below Qc args s A) (entryFrame m args maxL)) : tw_Met l y ws rm Pc Qc A := by
  refine MetFree.of_bodyS (code := cc) (maxLocals := maxL) (ret := ret) hy ?_ ?_
  · intro args s m h hn
    obtain ⟨meth, c, h1, h2, h3, h4, h5, h6, -, -⟩ := Cond.code_spec hn (atoms_spec (ws := ws) h _ (by rw [hw]; exact List.mem_cons_self))
    exact ⟨meth, c, h1, h2, h3, h4, h5, h6⟩
  · intro p e s m args below meth c s₁ B hml hP _
    have hh0 : s₁.heap = s.heap := by rw [B.state]; rfl
    obtain ⟨t, a1, o, b1, b2, b3⟩ := body p e s m args below meth c s₁ B hml hP s₁ hh0 (Stand.of_body B)
    exact ⟨t, o, a1, b1, b2, b3⟩
theorem tw_iret {S : Type} {post : Option Int32 → S → Prop} {W1 : S → va_W} (u : S) {v : Int32} (hx : p.tables.exec = Jvm.exec) (hb : c.code = cc) (hr : meth.sig.returnType = some .int) (hlocks : meth.locks = false) (hS : va_S A s.heap H locs) (hP : va_P D cl (W1 u) H) (h : post (some v) u) (hc : cells ≤ 1) (hs : slots ≤ 6) (hd : decode cc pc = .ok (.ireturn, 1)) : W p l e R s m args below meth c H locs cells slots (tw_MQ below (tw_Q D cl A post W1) args s A) (F0 m pc ls [.int v]) := by
  intro T hT X
  obtain ⟨t, a1, o, b1, b2, ⟨b3, b4⟩, L, ⟨-, hW, hsm⟩, hL⟩ := W.iret (Qc := fun _ _ oc t => oc = .returned (some (.int v)) ∧ t.heap = H) (free := A) (v := v) hx hb hr (fun t ht _ => ⟨rfl, ht⟩) hS.2.2 hd hlocks T hT X
  exact ⟨t, a1, o, b1, b2, ⟨some v, u, h, by rw [b4]; exact hP, hS.F b4, b3⟩, hW, L, hsm.mono hc hs, hL⟩
theorem tw_thr {S : Type} {post : Option Int32 → S → Prop} {W1 : S → va_W} (u : S) (hl : l.stackTraces = false) (hx : p.tables.exec = Jvm.exec) (hb : c.code = cc) (hsz : ls.size = c.maxLocals) (hts : ∀ w ∈ c0 :: wg_all, w.before args s = true) (hown : s.vm.findClass R_P = some m.cls) (hexc : c.exceptionTable.isEmpty = true) (hlocks : meth.locks = false) (hst : tw_st s) (hA : ∀ (q : Nat) (c : Cell), s.heap[q]? = some c → c.vm.isStatics = true → ¬ A q)
    (hd0 : decode cc pc = .ok (.new 131, 3)) (hd3 : decode cc (pc + 3) = .ok (.dup, 1)) (hd4 : decode cc (pc + 4) = .ok (.ldc 133, 2)) (hd6 : decode cc (pc + 6) = .ok (.invokespecial 135, 3)) (hd9 : decode cc (pc + 9) = .ok (.athrow, 1))
    (hRc : 1 ≤ R.cells) (hRs : 6 ≤ R.slots) (hRf : 6 ≤ R.frames) (hRl : 100 ≤ R.locals) (hS : va_S A s.heap H locs) (hP : va_P D cl (W1 u) H) (h : post none u) : W p l e R s m args below meth c H locs 0 0 (tw_MQ below (tw_Q D cl A post W1) args s A) (F0 m pc ls []) := by
  refine tw_throw hl hx hb hsz hts hown hexc hlocks hst (fun q c h1 h2 => ?_) hd0 hd3 hd4 hd6 hd9 (by omega) (by omega) hRf hRl (fun U ad ce h1 h2 h3 h4 h5 h6 h7 h8 h9 => ?_)
  · rw [hS.2.1 q (Array.getElem?_eq_some_iff.mp h1).1 (hA q c h1 h2)]; exact h1
  · refine ⟨_, h1, h2, ⟨none, u, h, hP.kept (fun k q hq => h9 q.1 (hP k q hq).lt), ⟨Nat.le_trans hS.1 h8, fun q g1 g2 => ?_⟩, ad, ce, rfl, h5, h6, h7⟩, h3, locs, ?_, hS.2.2⟩
    · rw [h9 q (Nat.lt_of_lt_of_le g1 hS.1)]; exact hS.2.1 q g1 g2
    · exact h4
end TW2
