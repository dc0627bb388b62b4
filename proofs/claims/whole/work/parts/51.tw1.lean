/-! throws: what the start must say of Throwable's statics, and that it stays said -/
def tw_st (U : State) : Prop := ∀ w ∈ tw_ex, w.before #[] U = true
theorem tw_h1 {C f d : String} {S1 S2 : State} {a1 a2 : Array Value} (h : (Cond.isRef (.static C f d)).before a1 S1 = true) (hvm : S2.vm = S1.vm) (hk : ∀ (q : Nat) (c : Cell), S1.heap[q]? = some c → c.vm.isStatics = true → S2.heap[q]? = some c) : (Cond.isRef (.static C f d)).before a2 S2 = true := by
  have ef : S2.fieldFound? C f d = S1.fieldFound? C f d := by unfold State.fieldFound?; rw [hvm]
  simp only [Cond.before, Cond.holds, Cond.value, Term.eval, State.fieldNamed?, ef] at h ⊢
  cases hf : S1.fieldFound? C f d with
  | none => simp [hf] at h
  | some x =>
    obtain ⟨c, k, i, fl⟩ := x
    simp only [hf, Option.bind_eq_bind, Option.bind_some] at h ⊢
    cases hs : (fl.isStatic == true) with
    | false => simp [hs] at h
    | true =>
      simp only [hs, if_true, Option.pure_def, Option.bind_some] at h ⊢
      cases hst : k.statics with
      | none => simp [hst] at h
      | some a =>
        simp only [hst, Option.bind_some] at h ⊢
        cases hc : S1.heap[a]? with
        | none => simp [hc] at h
        | some cell =>
          simp only [hc, Option.bind_some] at h
          cases hi : cell.vm.isStatics with
          | false => simp [hi] at h
          | true =>
            rw [hk a cell hc hi]
            exact h
theorem tw_h2 {C f d : String} {S1 S2 : State} {a1 a2 : Array Value} (h : (Cond.laysStatic C f d).before a1 S1 = true) (hvm : S2.vm = S1.vm) (hk : ∀ (q : Nat) (c : Cell), S1.heap[q]? = some c → c.vm.isStatics = true → S2.heap[q]? = some c) : (Cond.laysStatic C f d).before a2 S2 = true := by
  have ef : S2.fieldFound? C f d = S1.fieldFound? C f d := by unfold State.fieldFound?; rw [hvm]
  simp only [Cond.before, Cond.holds, Cond.value, ef, hvm] at h ⊢
  cases hc0 : S1.vm.findClass C with
  | none => simp [hc0] at h
  | some c0 =>
    cases hf : S1.fieldFound? C f d with
    | none => simp [hc0, hf] at h
    | some x =>
      obtain ⟨c, k, i, fl⟩ := x
      simp only [hc0, hf] at h ⊢
      cases hst : k.statics with
      | none => simp [hst] at h
      | some a =>
        simp only [hst, Option.bind_some] at h ⊢
        cases hc : S1.heap[a]? with
        | none => simp [hc] at h
        | some cell =>
          rw [hc] at h
          cases hi : cell.vm.isStatics with
          | false => simp [hi] at h
          | true => rw [hk a cell hc hi]; exact h
theorem tw_move {s U : State} (h : tw_st s) (hW : s.WarmedH U.vm) (hk : ∀ (q : Nat) (c : Cell), s.heap[q]? = some c → c.vm.isStatics = true → U.heap[q]? = some c) : tw_st U := by
  have K : ∀ w : Cond, w ∈ tw_ex → w.keepsFace = true → w.before #[] (s.setVm U.vm) = true := fun w hw hf => Cond.before_shiftedFace (State.Shifted.of_warmed hW) _ hf (h w hw)
  have H : ∀ (q : Nat) (c : Cell), (s.setVm U.vm).heap[q]? = some c → c.vm.isStatics = true → U.heap[q]? = some c := hk
  intro w hw
  have hw0 := hw
  simp only [tw_ex, tw_fa, List.cons_append, List.nil_append, List.mem_cons, List.not_mem_nil, or_false] at hw
  rcases hw with rfl | rfl | rfl | rfl | rfl | rfl | rfl | rfl | rfl | rfl
  · exact K _ hw0 rfl
  · exact tw_h2 (K _ hw0 rfl) rfl H
  · exact tw_h2 (K _ hw0 rfl) rfl H
  · exact K _ hw0 rfl
  · exact K _ hw0 rfl
  · exact K _ hw0 rfl
  · exact K _ hw0 rfl
  · exact Cond.stringRef_warmed hW (h _ hw0)
  · exact tw_h1 (K _ hw0 (by decide)) rfl H
  · exact tw_h1 (K _ hw0 (by decide)) rfl H
theorem tw_args {U : State} (h : tw_st U) (a : Array Value) : ∀ w ∈ tw_ex, w.before a U = true := by
  intro w hw
  have hw0 := hw
  simp only [tw_ex, tw_fa, List.cons_append, List.nil_append, List.mem_cons, List.not_mem_nil, or_false] at hw
  rcases hw with rfl | rfl | rfl | rfl | rfl | rfl | rfl | rfl | rfl | rfl
  · exact h _ hw0
  · exact h _ hw0
  · exact h _ hw0
  · exact h _ hw0
  · exact h _ hw0
  · exact h _ hw0
  · exact h _ hw0
  · exact h _ hw0
  · exact tw_h1 (h _ hw0) rfl (fun _ _ q _ => q)
  · exact tw_h1 (h _ hw0) rfl (fun _ _ q _ => q)
theorem tw_own' {U : State} {a : Array Value} {c0 : Cond} (hts : ∀ w ∈ c0 :: wg_all, w.before a U = true) (h : tw_st U) : ∀ w ∈ Bundle.ownAtoms R_P 135 tw_AE tw_up, w.before a U = true := fun w hw => by
  rcases tw_own w hw with q | q
  · exact hts w (List.mem_cons_of_mem _ q)
  · exact tw_args h a w q
/-- cells of a world are no statics -/
theorem tw_ns {D : va_G} {cl : List vw_C} {ws : va_W} {H : Heap} (hP : va_P D cl ws H) {q : Nat} (hq : rw_A ws q) {c : Cell} (hc : H[q]? = some c) : c.vm.isStatics = false := by
  obtain ⟨k, e, h⟩ := hq
  have h1 := hP k (q, e) h
  cases e with
  | inl a =>
    have h2 : H[q]? = some (vp_cell a.1 a.2) := h1
    rw [hc] at h2
    cases h2
    obtain ⟨a1, a2, a3⟩ := a
    cases a3 with
    | inl f => rfl
    | inr f => cases f with
      | inl f => rfl
      | inr f => first | rfl | (cases f with
        | inl f => rfl
        | inr f => first | rfl | (cases f <;> rfl))
  | inr o =>
    obtain ⟨r, -, cell, g1, g2, g3, -⟩ := h1
    have g1 : H[q]? = some cell := g1
    rw [hc] at g1
    cases g1
    rw [g3]; rfl
/-- the walk, told from here on: the start is this heap -/
abbrev tw_at (s T : State) : State := { s with heap := T.heap, slotsUsed := T.slotsUsed }
section TW
variable {p : Program} {l : Launch} {e : Env} {R : Room} {s : State} {m : MethodId} {args : Array Value} {below : List Frame} {meth : Method} {c : Code} {T : State} {locs : List Loc} {cells slots : Nat}
theorem tw_base (X : Stand p l e R s m args below meth c T locs cells slots) (h1 : cells ≤ R.cells) (h2 : slots ≤ R.slots) : Stand p l e { R with cells := R.cells - cells, slots := R.slots - slots } (tw_at s T) m args below meth c T [] 0 0 := by
  refine ⟨X.admits, X.cas, X.clock, X.frames, ?_, X.hears, X.method, X.code, X.here, X.tail, X.warmed, X.limits, X.bytes, ?_⟩
  · have hr := X.room
    have hb := X.book
    have h3 := X.heapSize
    have h4 := X.used
    simp only [State.hasRoom, Bool.and_eq_true, decide_eq_true_eq] at hr ⊢
    refine ⟨⟨⟨⟨hr.1.1.1.1, hr.1.1.1.2⟩, ?_⟩, ?_⟩, hb⟩
    · have := hr.1.1.2
      show T.heap.size + (R.cells - cells) ≤ e.platform.maxCells
      omega
    · have := hr.1.2
      show T.slotsUsed + (R.slots - slots) ≤ e.platform.maxSlots
      omega
  · have e1 := X.same.1
    refine ⟨e1, Nat.le_refl _, Nat.le_refl _, ?_, ?_, fun a c h => ⟨c, h, rfl, rfl, fun _ _ => rfl⟩⟩
    · show T.slotsUsed = T.slotsUsed + ((T.heap.toList.drop T.heap.size).map (·.slots.size)).sum
      rw [List.drop_eq_nil_of_le (by simp)]
      rfl
    · show ((T.heap.toList.drop T.heap.size).map (·.slots.size)).sum ≤ 0
      rw [List.drop_eq_nil_of_le (by simp)]
      exact Nat.le_refl _
theorem tw_trans (X : Stand p l e R s m args below meth c T locs cells slots) {U : State} {k n : Nat} (h : (tw_at s T).sameButNew ({ U with vm := s.vm } : State) [] k n) : s.sameButNew ({ U with vm := s.vm } : State) locs (cells + k) (slots + n) := by
  have e1 := X.same.1
  have h2 : (T.setVm s.vm).sameButNew ({ U with vm := s.vm } : State) [] k n := by
    refine ⟨?_, h.2⟩
    refine h.1.trans ?_
    have key : ∀ (V : State) (F : List Frame), V = { s.setFrames V.frames with heap := V.heap, slotsUsed := V.slotsUsed } → V.setFrames F = { s.setFrames F with heap := V.heap, slotsUsed := V.slotsUsed } := by
      intro V F hV
      have h5 : V.setFrames F = ({ s.setFrames V.frames with heap := V.heap, slotsUsed := V.slotsUsed } : State).setFrames F := congrArg (fun z : State => z.setFrames F) hV
      refine h5.trans ?_
      show ({ (s.setFrames V.frames).setFrames F with heap := V.heap, slotsUsed := V.slotsUsed } : State) = _
      rw [State.setFrames_setFrames]
    rw [key (T.setVm s.vm) _ e1]
    rfl
  have h3 := X.same.trans h2
  rwa [List.append_nil] at h3
end TW
