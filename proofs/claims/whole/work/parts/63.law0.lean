/-! the law's own rows: the call of its static methods, the script -/
theorem wx_L_decode : Cond.codeWith y_L_decode b_L_decode 3 (some .int) [(0, 8, 11, 13)] ∈ wg_all := wg_in 410 (by decide +kernel)
theorem wx_L_commit : Cond.codeWith y_L_commit b_L_commit 4 (some .int) [(0, 9, 12, 13)] ∈ wg_all := wg_in 556 (by decide +kernel)
theorem tw_blind {D : va_G} {cl : List vw_C} {tys : List (ClassId × FieldType)} {ws : va_W} {av : List Value} : FrameBlind (va_Pc av (fun U => rw_B D cl tys ws U ∧ tw_st U)) := fun a U g mk q => ⟨q.1, ⟨q.2.1.1, va_K.moved (u := U) (U := U.calling g mk a) (Vm.Alike.refl U.vm) q.2.1.2.1, q.2.1.2.2⟩, tw_move (s := U) (U := U.calling g mk a) q.2.2 (State.WarmedH.refl U) (fun _ _ h _ => h)⟩
section LWR
variable {p : Program} {l : Launch} {e : Env} {R : Room} {s : State} {m : MethodId} {args : Array Value} {below : List Frame} {meth : Method} {c : Code} {H : Heap} {locs : List Loc} {cells slots : Nat} {Q : State → Prop} {cc : ByteArray} {pc : Nat} {ls : Array Slot} {rest : List Value}
variable {D : va_G} {cl : List vw_C} {tys : List (ClassId × FieldType)} {wc ws0 : va_W} {A0 : Nat → Prop} {H0 : Heap} {y : MethodName} {bytes : ByteArray} {maxL nL n index : Nat} {ret : Option FieldType} {rm : Room} {Ts : List Cond} {own : String} {As st0 : List Value} {hh : List (Nat × Nat × Nat × Nat)}
theorem lw_SW {S0 : Type} {post : Int32 → S0 → Prop} {W1 : S0 → va_W} {wr : va_W} (isC isR : List Nat) (hC : isC.map (fun i => ws0[i]?) = wc.map some) (hR : isR.map (fun i => ws0[i]?) = wr.map some) (hdis : ∀ i ∈ isR, i ∉ isC) (S : CallFix p m c cc nL s args Ts own)
    (hM : Met l y (Cond.codeWith y bytes maxL ret hh :: wg_all) rm (va_Pc As (fun U => rw_B D cl tys wc U ∧ tw_st U)) (rw_Qi D cl (rw_A wc) post W1) 1 6 (rw_A wc)) (hTs : ∀ w ∈ wg_all, w ∈ Ts) (hcin : Cond.codeWith y bytes maxL ret hh ∈ wg_all) (hrc : rm.cells = 1) (hrs : rm.slots = 6) (hR9 : rm.frames + 1 ≤ R.frames ∧ 8 + (maxL + 11) + rm.locals ≤ R.locals)
    (hlink : Cond.methodLink own index y ∈ wg_all) (hstat : Cond.static y ∈ wg_all) (hini : Cond.initialized y.cls ∈ wg_all) (hd : y.cls ≠ "java/lang/invoke/MethodHandle" ∧ y.cls ≠ "java/lang/invoke/VarHandle" ∧ (parseMethodDescriptor y.desc).map (fun d => d.parameters.length) = some n)
    (hK : va_K D cl tys s) (hPc : va_P D cl wc H) (hDc : va_D (fun _ => True) wc) (hn : As.length = n) (hsize : ls.size = nL) (hst : st0 = As.reverse ++ rest) (hW : 2 * (F0 m pc ls st0).monitorRoom + (rest.map fun v => v.category).sum ≤ 8) (hdg : decode cc pc = .ok (.invokestatic index, 3)) (hf : cells + 1 ≤ R.cells ∧ slots + 6 ≤ R.slots)
    (hS : va_S A0 H0 H locs) (hP : va_P D cl ws0 H) (hD : va_D A0 ws0) (hst9 : tw_st s) (hkp : ∀ (q : Nat) (c : Cell), s.heap[q]? = some c → c.vm.isStatics = true → H[q]? = some c)
    (kk : ∀ (r : Int32) (u : S0) (H1 : Heap) (locs1 : List Loc), post r u → va_P D cl (wr ++ W1 u) H1 → va_S A0 H0 H1 locs1 → W p l e R s m args below meth c H1 locs1 (cells + 1) (slots + 6) Q (F0 m (pc + 3) ls (.int r :: rest))) : W p l e R s m args below meth c H locs cells slots Q (F0 m pc ls st0) := by
  obtain ⟨hx, hb, hml, ho, hts⟩ := S
  have hws : ∀ w ∈ (Cond.codeWith y bytes maxL ret hh :: wg_all), ∀ (a' : Array Value) (U : State), s.WarmedH U.vm → w.before a' U = true := by
    refine pay_in hts (fun w hw => ?_)
    have h : w ∈ wg_all := by
      rcases List.mem_cons.mp hw with h | h
      · rw [h]; exact hcin
      · exact h
    exact ⟨hTs _ h, wg_good h⟩
  have hinit := hts _ (hTs _ hini)
  have hBk : Back l R p e below s args y 3 8 (PreOf R 1 6 (va_Pc As (fun U => rw_B D cl tys wc U ∧ tw_st U))) (PostOf (rw_Qi D cl (rw_A wc) post W1) 1 6 (rw_A wc)) := va_backW (hh := hh) (bytes := bytes) (maxL := maxL) (ret := ret) hM tw_blind hrc hrs hR9.1 hR9.2 hws List.mem_cons_self (fun a' U hW => word_at hW (wg_good hini) hinit)
  have hrun : va_Run p l e R s m args below meth c H locs cells slots 1 6 (F0 m pc ls st0) rest (rw_Qi D cl (rw_A wc) post W1 As.toArray) (rw_A wc) := by
    intro T hT X
    have hcode := hts _ (hTs _ hcin)
    obtain ⟨mk, methM, cM, hnamed, hmethM, -, -, -, -, -, -, hsigM⟩ := Cond.codeWith_spec hcode
    have hstatic : methM.isStatic = true := Cond.static_spec hnamed hmethM (hts _ (hTs _ hstat))
    obtain ⟨kP, hkP, -⟩ := className_of_methodNamed hnamed
    have hinitP : kP.init = .initialized := Cond.initialized_spec (findClass_of_methodNamed hnamed) hkP hinit
    have hlen : As.length = methM.sig.parameters.length := by
      have h2 := hd.2.2
      rw [hsigM] at h2
      rw [hn]
      exact (Option.some.inj h2).symm
    obtain ⟨vm₁, X₁, hstep₁⟩ := X.invokestatic hx ho (hts _ (hTs _ hlink)) hnamed hmethM hstatic hkP hinitP ⟨hd.1, hd.2.1⟩ (g := F0 m pc ls st0) rfl (argsL := As) (rest := rest) hlen hst (by rw [hb]; exact hdg)
    have hUh : (T.setVm vm₁).heap = H := hT
    obtain ⟨v, ⟨U', l2, c2, s2⟩, X', hpost, hsteps⟩ := hBk m meth c ⟨T.setVm vm₁, locs, cells, slots⟩ { F0 m pc ls st0 with stack := rest } (.invokestatic index) mk As.toArray X₁ rfl (hsize.trans hml.symm) (by rw [hb]; exact hdg) hW (X₁.named hnamed) ⟨hf.1, hf.2, rfl, ⟨by show va_P D cl wc (T.setVm vm₁).heap; rw [hUh]; exact hPc, va_K.moved X₁.warmed.alike hK, hDc⟩, tw_move (s := s) hst9 X₁.warmed (fun q c h1 h2 => by show (T.setVm vm₁).heap[q]? = some c; rw [hUh]; exact hkp q c h1 h2)⟩
    obtain ⟨g', mk', t, L, e1, e2, hq, h1, hL, h2, h3⟩ := hpost
    dsimp only [Pt.U, Pt.locs, Pt.cells, Pt.slots] at X' e1 e2 h1 h2 h3 hsteps
    subst h1; subst h2; subst h3
    exact ⟨v, (T.setVm vm₁).calling g' mk' As.toArray, t, U', L, hT, X', hL, e1, e2, hq, fun target h => hstep₁ _ fun acts => by rw [doInvoke_state]; exact hsteps.trans h⟩
  refine va_calli hrun hS (fun q _ h => rw_free hD hC q h) (rw_free hD hC) (fun r u t H1 locs1 ht hvm hw hB hz hk hS1 => ?_)
  rw [ht] at hB
  exact kk r u H1 locs1 hw (rw_join hP hD hC hR hdis hk hB) hS1
/-- an int of the script -/
theorem lw_sld {b L k : Nat} {xs : Nat → Int32} (hx : p.tables.exec = Jvm.exec) (hb : c.code = cc) (hX : va_X b L xs s s.heap) (hbl : b < s.heap.size) (hbA : ¬ A0 b) (hS : va_S A0 s.heap H locs) (hk : k < L) (hL : L ≤ 2560) (hdg : decode cc pc = .ok (.iaload, 1))
    (kk : W p l e R s m args below meth c H locs cells slots Q (F0 m (pc + 1) ls (.int (xs k) :: rest))) : W p l e R s m args below meth c H locs cells slots Q (F0 m pc ls (.int (nI k) :: .ref b :: rest)) := by
  have e1 : (nI k).toNatClampNeg = k := nI_clamp (by omega)
  refine va_sld hx hb hX hbl hbA hS (i := nI k) (vp_in_nI hk (by omega)) hdg ?_
  rw [e1]
  exact kk
end LWR
