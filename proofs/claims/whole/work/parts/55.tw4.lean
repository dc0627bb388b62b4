section TW4
variable {p : Program} {l : Launch} {e : Env} {R : Room} {s : State} {m : MethodId} {args : Array Value} {below : List Frame} {meth : Method} {c : Code} {H : Heap} {locs : List Loc} {cells slots : Nat} {Q : State → Prop}
variable {cc : ByteArray} {pc : Nat} {ls : Array Slot} {rest : List Value} {D : va_G} {cl : List vw_C} {tys : List (ClassId × FieldType)}
variable {wc ws0 : va_W} {A0 : Nat → Prop} {H0 : Heap} {y : MethodName} {bytes : ByteArray} {maxL nL n index : Nat} {ret : Option FieldType} {ws : List Cond} {rm : Room} {Ts : List Cond} {own C : String} {b : Addr} {As st0 : List Value}
set_option maxHeartbeats 2000000 in
/-- a call that comes back, or throws into the caller's own handler -/
theorem tw_callV {S : Type} {post : Option Int32 → S → Prop} {W1 : S → va_W} {wr : va_W} (isC isR : List Nat) (hC : isC.map (fun i => ws0[i]?) = wc.map some) (hR : isR.map (fun i => ws0[i]?) = wr.map some) (hdis : ∀ i ∈ isR, i ∉ isC) (S9 : CallFix p m c cc nL s args Ts own)
    (hM : tw_Met l y ws rm (va_Pc (.ref b :: As) (fun U => rw_B D cl tys wc U ∧ tw_st U)) (tw_Q D cl (rw_A wc) post W1) (rw_A wc)) (cw : CallW R s args own C index y bytes maxL ret ws rm 1 6 n) (hK : va_K D cl tys s) (hPc : va_P D cl wc H) (hDc : va_D (fun _ => True) wc)
    {q0 ci : Nat} {fs : List Value} {q : vw_C} (he : wc[q0]? = some (b, .inr (ci, fs))) (hc : cl[ci]? = some q) (hq : q.1 = C) (hn : As.length = n) (hsize : ls.size = nL) (hst0 : st0 = As.reverse ++ .ref b :: rest) (hW : 2 * (F0 m pc ls st0).monitorRoom + (rest.map fun v => v.category).sum ≤ 8) (hdg : decode cc pc = .ok (.invokevirtual index, 3))
    (hf : cells + 1 ≤ R.cells ∧ slots + 6 ≤ R.slots) (hS : va_S A0 H0 H locs) (hP : va_P D cl ws0 H) (hD : va_D A0 ws0) (hst : tw_st s) (hkp : ∀ (q : Nat) (c : Cell), s.heap[q]? = some c → c.vm.isStatics = true → H[q]? = some c)
    {x : ExceptionTableEntry} (hex : c.exceptionTable.toList = [x]) (hcov : covers x pc = true) (h0 : x.catchType ≠ 0) (hlink : (Cond.classLink own x.catchType tw_AE).before args s = true)
    (kr : ∀ (r : Int32) (u : S) (H1 : Heap) (locs1 : List Loc), post (some r) u → va_P D cl (wr ++ W1 u) H1 → va_S A0 H0 H1 locs1 → W p l e R s m args below meth c H1 locs1 (cells + 1) (slots + 6) Q (F0 m (pc + 3) ls (.int r :: rest)))
    (kt : ∀ (ad : Nat) (u : S) (H1 : Heap) (locs1 : List Loc), post none u → va_P D cl (wr ++ W1 u) H1 → va_S A0 H0 H1 locs1 → W p l e R s m args below meth c H1 locs1 (cells + 1) (slots + 6) Q (F0 m x.handlerPc ls [.ref ad])) : W p l e R s m args below meth c H locs cells slots Q (F0 m pc ls st0) := by
  intro T hT X
  obtain ⟨⟨hrc, hrs, hfr, hlo, hws, hcw, hcode, hini, hy, hlen, hl⟩, hin, hse⟩ := cw
  obtain ⟨hx, hb, hml, ho, -⟩ := S9
  obtain ⟨cellB, hcB, hoB, hclB⟩ := va_recv hK hPc hc he
  rw [hq] at hclB
  obtain ⟨mk, methM, hnamed, hmethM, hstM, habM⟩ := Cond.instanceMethod_spec hin
  obtain ⟨methM', cM, hmethM', -, -, -, -, -, -, hsigM⟩ := Cond.code_spec hnamed hcode
  cases hmethM.symm.trans hmethM'
  obtain ⟨c2, r2, m2, q1, q2, q3, q4, kP, hkP, hkPi⟩ := Cond.selects_spec hse
  cases hclB.symm.trans q1
  cases (State.methodFound?_of_named hnamed hy).symm.trans q2
  cases hnamed.symm.trans q3
  have hselP : selectMethod e.platform s.vm cellB.cls mk = .method mk := by rw [Launch.admits_selectMethod X.admits]; exact q4
  obtain ⟨vm₁, X₁, hstep₁⟩ := X.invokevirtual hx ho hl hnamed hmethM hstM hkP hkPi hy (a := b) (cell := cellB) (by rw [hT]; exact hcB)
    (fun z h => by rw [h] at hoB; cases hoB) hselP hmethM habM hkP hkPi (g := F0 m pc ls st0) rfl (argsL := As) (rest := rest) (hn.trans (hlen _ hsigM)) hst0 (by rw [hb]; exact hdg)
  have hUh : (T.setVm vm₁).heap = H := hT
  generalize hU : T.setVm vm₁ = U at X₁ hUh
  have hnU : U.methodNamed? y = some mk := X₁.named hnamed
  have h2 : (Cond.code y bytes maxL ret).before (Value.ref b :: As).toArray U = true := hws _ hcw _ _ X₁.warmed
  have h3 : (Cond.initialized y.cls).before (Value.ref b :: As).toArray U = true := word_at X₁.warmed (Or.inl (by first | rfl | simp [Cond.onTables, Cond.keeps, Cond.steady])) hini
  obtain ⟨methY, cY, hmY, hcY, -, hlY, -, -, -, -⟩ := Cond.code_spec hnU h2
  obtain ⟨kY, hkY, -⟩ := className_of_methodNamed hnU
  have hinitY : kY.init = .initialized := Cond.initialized_spec (findClass_of_methodNamed hnU) hkY h3
  have h : At U (F0 m pc ls rest).method c below := X₁.here
  have hdg' : decode c.code (F0 m pc ls rest).pc = .ok (.invokevirtual index, 3) := by rw [hb]; exact hdg
  have happ : (headSpec ws rm).appliesLoose y e.platform (U.calling (F0 m pc ls rest) mk (Value.ref b :: As).toArray) = true :=
    Spec.appliesLoose_calling (g := F0 m pc ls rest) h hdg' hnU hkY hinitY
      (X₁.room_calling (g := F0 m pc ls rest) (R' := (headSpec ws rm).room) (hsize.trans hml.symm) hmY hcY hfr (by rw [hlY]; have h9 : 2 * (F0 m pc ls rest).monitorRoom + (rest.map fun v => v.category).sum ≤ 8 := hW; exact Nat.le_trans (Nat.add_le_add_right (Nat.add_le_add_right h9 _) _) hlo) (by rw [show (headSpec ws rm).room.cells = 1 from hrc]; exact hf.1) (by rw [show (headSpec ws rm).room.slots = 6 from hrs]; exact hf.2))
      (atoms_intro fun w hw => hws w hw _ _ X₁.warmed)
  have hPre : va_Pc (.ref b :: As) (fun U => rw_B D cl tys wc U ∧ tw_st U) (Value.ref b :: As).toArray (U.calling (F0 m pc ls rest) mk (Value.ref b :: As).toArray) := by
    refine ⟨rfl, ⟨?_, ?_, hDc⟩, ?_⟩
    · show va_P D cl wc U.heap
      rw [hUh]; exact hPc
    · exact va_K.moved (u := U) (U := U.calling (F0 m pc ls rest) mk (Value.ref b :: As).toArray) (Vm.Alike.refl U.vm) (va_K.moved X₁.warmed.alike hK)
    · refine tw_move (s := s) hst ?_ ?_
      · exact X₁.warmed
      · intro q c h1 h2
        show U.heap[q]? = some c
        rw [hUh]; exact hkp q c h1 h2
  obtain ⟨mid, hmid⟩ := h.above
  have hfr : (U.setTop (F0 m pc ls rest)).frames = (.java (F0 m pc ls rest) :: mid) ++ below := by rw [State.frames_setTop' (F0 m pc ls rest) h.top, hmid]; rfl
  obtain ⟨o, s₂, hsteps, -, hend, hqq⟩ := Steps.callFree hM p X₁.admits X₁.cas X₁.clock (acts := []) hfr happ hPre trivial
  rw [State.frames_setTop' (F0 m pc ls rest) h.top] at hend
  have hqq : tw_Q D cl (rw_A wc) post W1 (Value.ref b :: As).toArray (U.calling (F0 m pc ls rest) mk (Value.ref b :: As).toArray) o s₂ ∧ tw_E (U.calling (F0 m pc ls rest) mk (Value.ref b :: As).toArray) s₂ (rw_A wc) := hqq
  obtain ⟨⟨oo, u, hpo, hPo, hFo, hoo⟩, hW₂, L, hsm, hL⟩ := hqq
  obtain ⟨e2, g2, g3, g4, g5, g6⟩ := id hsm
  have hW' : U.WarmedH s₂.vm := hW₂
  have e3 : s₂ = ({ (U.calling (F0 m pc ls rest) mk (Value.ref b :: As).toArray).setFrames s₂.frames with heap := s₂.heap, slotsUsed := s₂.slotsUsed } : State).setVm s₂.vm := by
    have : s₂ = ({ s₂ with vm := (U.calling (F0 m pc ls rest) mk (Value.ref b :: As).toArray).vm } : State).setVm s₂.vm := rfl
    rw [e2] at this
    exact this
  obtain ⟨g₀, hg0⟩ := Option.isSome_iff_exists.mp h.top
  obtain ⟨r, hr⟩ := State.topJava?_eq_some.mp hg0
  have hr' : (({ U with heap := s₂.heap, slotsUsed := s₂.slotsUsed } : State).setVm s₂.vm).frames = .java g₀ :: r := hr
  have hsame : U.sameButNew ({ U with heap := s₂.heap, slotsUsed := s₂.slotsUsed } : State) L 1 6 := by
    refine ⟨?_, g2, g3, g4, g5, g6⟩
    obtain ⟨t, ht, -⟩ := State.frames_cons hr
    show ({ U with heap := s₂.heap, slotsUsed := s₂.slotsUsed } : State) = { U.setFrames U.frames with heap := s₂.heap, slotsUsed := s₂.slotsUsed }
    rw [State.setFrames_self ht]
  have XT : Stand p l e R s m args below meth c (({ U with heap := s₂.heap, slotsUsed := s₂.slotsUsed } : State).setVm s₂.vm) (locs ++ L) (cells + 1) (slots + 6) :=
    ⟨X₁.admits, X₁.cas, X₁.clock, X₁.frames, X₁.room, X₁.hears, X₁.method, X₁.code, (X₁.here.setHeapUsed s₂.heap s₂.slotsUsed).setVm hW'.alike, X₁.tail, State.WarmedH.trans X₁.warmed hW', X₁.limits, X₁.bytes, X₁.same.trans (hsame.setVm s.vm)⟩
  have hk1 : ∀ q : Nat, q < H.size → ¬ rw_A wc q → s₂.heap[q]? = H[q]? := fun q h1 h2 => by
    have h9 := hFo.2 q (show q < U.heap.size by rw [hUh]; exact h1) h2
    rw [h9]
    show U.heap[q]? = H[q]?
    rw [hUh]
  have hz1 : H.size ≤ s₂.heap.size := by
    have h9 : U.heap.size ≤ s₂.heap.size := hFo.1
    rw [hUh] at h9; exact h9
  have hSn : va_S A0 H0 s₂.heap (locs ++ L) := ⟨Nat.le_trans hS.1 hz1, fun q h1 h2 => by rw [hk1 q (Nat.lt_of_lt_of_le h1 hS.1) (fun z => h2 (rw_free hD hC q z))]; exact hS.2.1 q h1 h2, fun q hq => by
      rcases List.mem_append.mp hq with h | h
      · exact hS.2.2 q h
      · exact rw_free hD hC _ (hL q h)⟩
  have hPn : va_P D cl (wr ++ W1 u) s₂.heap := rw_join hP hD hC hR hdis hk1 hPo
  cases oo with
  | some rv =>
    have hoo : o = .returned (some (.int rv)) := hoo
    subst hoo
    obtain ⟨c₂, i₂, len₂, hc₂, hd₂, hf₂⟩ := hend
    have hcc : c₂ = c := by
      have h1 : s₂.code? (F0 m pc ls rest).method = U.code? (F0 m pc ls rest).method := by
        rw [State.code?_eq, State.code?_eq, hW'.alike.method?]
      exact Option.some.inj (hc₂.symm.trans (h1.trans h.code))
    subst hcc
    have hlen : len₂ = 3 := by rw [hdg'] at hd₂; cases hd₂; rfl
    subst hlen
    have hs₂ : s₂ = (({ U with heap := s₂.heap, slotsUsed := s₂.slotsUsed } : State).setVm s₂.vm).setTop (F0 m (pc + 3) ls (.int rv :: rest)) := by
      refine e3.trans ?_
      rw [hf₂, State.calling_eq h.top, State.setFrames_setFrames, State.setTop_of_frames _ hr', hr]
      rfl
    obtain ⟨t, a1, b1⟩ := kr rv u s₂.heap (locs ++ L) hpo hPn hSn (({ U with heap := s₂.heap, slotsUsed := s₂.slotsUsed } : State).setVm s₂.vm) rfl XT
    rw [← hs₂] at a1
    exact ⟨t, hstep₁ _ fun acts => by rw [hU, doInvoke_state]; exact hsteps.trans a1, b1⟩
  | none =>
    obtain ⟨ad, ce, rfl, hce, hcls, hvm⟩ := hoo
    have hf₂ : s₂.frames = .throwing ad :: .java (F0 m pc ls rest) :: U.frames.tail := hend
    have hs₂ : s₂ = (({ U with heap := s₂.heap, slotsUsed := s₂.slotsUsed } : State).setVm s₂.vm).setFrames (.throwing ad :: .java (F0 m pc ls rest) :: below) := by
      refine e3.trans ?_
      rw [hf₂, State.calling_eq h.top, State.setFrames_setFrames, X₁.tail]
      rfl
    have hcT : s.vm.findClass tw_AE = some ce.cls := by
      have h9 : U.vm.findClass tw_AE = some ce.cls := hcls
      rw [X₁.warmed.alike.findClass] at h9
      exact h9
    have hcast : (Cond.castable tw_AE tw_AE).before args s = true := tw_args hst args _ (by simp [tw_ex, tw_fa, tw_AE])
    obtain ⟨c3, t3, w1, w2, w3⟩ := Cond.castable_spec hcast
    cases hcT.symm.trans w1
    cases w1.symm.trans w2
    obtain ⟨vm', XV, stV⟩ := XT.caughtLink ad (g := F0 m pc ls rest) rfl ho [] x [] hex (fun y hy => by cases hy) hcov h0 hlink hcT hce (by rw [hvm]; rfl) w3
    obtain ⟨t, a1, b1⟩ := kt ad u s₂.heap (locs ++ L) hpo hPn hSn ((({ U with heap := s₂.heap, slotsUsed := s₂.slotsUsed } : State).setVm s₂.vm).setVm vm') rfl XV
    have a2 := stV t a1
    rw [← hs₂] at a2
    exact ⟨t, hstep₁ _ fun acts => by rw [hU, doInvoke_state]; exact hsteps.trans a2, b1⟩
end TW4
theorem tw_tab {p : Program} {l : Launch} {y : MethodName} {S : Spec} {cc : ByteArray} {maxL : Nat} {ret : Option FieldType} {e : Env} {s : State} {m : MethodId} {args : Array Value} {below : List Frame} {meth : Method} {c : Code} {s₁ : State} {a b d f : Nat} (B : BodyLoose p l y S cc maxL ret e s m args below meth c s₁) (h : (Cond.codeWith y cc maxL ret [(a, b, d, f)]).before args s = true) : ∃ x, c.exceptionTable.toList = [x] ∧ x.startPc = a ∧ x.endPc = b ∧ x.handlerPc = d ∧ x.catchType = f := by
  obtain ⟨m9, meth9, c9, hn9, hm9, hc9, -, -, ht, -⟩ := Cond.codeWith_spec h
  cases B.named.symm.trans hn9
  cases B.method.symm.trans hm9
  cases (Stand.of_body B).code.symm.trans hc9
  cases hl : c.exceptionTable.toList with
  | nil => rw [hl] at ht; cases ht
  | cons x r =>
    rw [hl] at ht
    cases r with
    | nil =>
      simp only [List.map_cons, List.map_nil, List.cons.injEq, Prod.mk.injEq, and_true] at ht
      exact ⟨x, rfl, ht.1, ht.2.1, ht.2.2.1, ht.2.2.2⟩
    | cons z r => simp at ht
