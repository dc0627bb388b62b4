set_option maxHeartbeats 4000000 in
set_option maxRecDepth 100000 in
theorem c_D_thrown (l : Launch) (dC : Nat → ClassId) (dI : Nat → Nat → Nat) (cI cL cZ : ClassId) (dm : Nat) (th : Nat) (np : Nat) (ne : Nat) (fi : Int32) (kp : Int64) (iA : Nat) (tA : Nat) (oA : Nat) (uA : Nat) (wA : Nat) (sA : Nat) (eA : Nat) (vA : Nat) (yA : Nat) (lA : Nat) (ll : Nat) (mn : Nat) (xA : Nat) (cA : Nat) (zA : Nat) (pA : Nat) (bA : Nat) (fA : Nat) (gA : Nat) (bw : Nat) (bs : Nat) (ps : Nat) (qA : Nat) (rA : Nat) (aA : Nat) (kA : Nat) (lt : Nat) (wt : Nat) (fx : Int64)  : Met l y_D_thrown w_D_thrown ({ frames := 0, cells := 0, slots := 0, locals := 0 } : Room) (va_Pc [.ref dm] (ro_B (dC, dI) classes [(cI, .int), (cL, .long), (cZ, .boolean)] [cg_D dm th np ne fi kp iA tA oA uA wA sA eA vA yA lA ll mn xA cA zA pA bA fA gA bw bs ps qA rA aA kA lt wt fx])) (ro_Qi (nI th)) 0 0 ro_A := by
  refine Met.ofW (cc := b_D_thrown) (maxL := 1) (ret := (some .int)) (by decide) rfl ?_
  intro p e s m args below meth c s₁ B hml hv
  obtain ⟨rfl, hP, hK⟩ := hv
  have hx := B.exec
  have hb := B.bytes
  have hr := B.returns
  have hts := atoms_spec (ws := w_D_thrown) B.pre
  have hown : s.vm.findClass R_D = some m.cls := findClass_of_methodNamed B.named
  have hlocks := B.notSynchronized
  have iD : ∀ w ∈ w_D, w ∈ w_D_thrown := fun w h => List.mem_cons_of_mem _ (i_D w h)
  have hS : va_S ro_A s.heap s.heap [] := va_S.rf
  have hP : va_P (dC, dI) classes [cg_D dm th np ne fi kp iA tA oA uA wA sA eA vA yA lA ll mn xA cA zA pA bA fA gA bw bs ps qA rA aA kA lt wt fx] s.heap := hP
  have hl := lv_entry ([.ref dm]) (n := 1) (Nat.le_of_ble_eq_true rfl)
  rw [lg_entry_eq]
  generalize (lg_sl ([.ref dm]) ++ List.replicate (1 - (lg_sl ([.ref dm])).length) Slot.unset).toArray = ls at hl ⊢
  have hl : lv_has ls 1 [(0, .ref dm)] := hl
  refine lv_aload_n hx hb d_D_thrown_0 rfl (lv_at hl 0 rfl) ?_
  refine va_get (D := (dC, dI)) (ci := 5) (v := .int (nI th)) (C := R_D) (T := F_D) (N := 34) hx hb hts iD hown hK hP 0 rfl rfl 0 (by decide) (hts _ (List.mem_cons_of_mem _ wk_D_75)) (fun _ h9 => h9) rfl d_D_thrown_1 ?_
  exact ro_iret hx hb hr hlocks hS rfl d_D_thrown_4
set_option maxHeartbeats 4000000 in
set_option maxRecDepth 100000 in
theorem c_D_isPoint (l : Launch) (dC : Nat → ClassId) (dI : Nat → Nat → Nat) (cI cL cZ : ClassId) (dm : Nat) (th : Nat) (np : Nat) (ne : Nat) (fi : Int32) (kp : Int64) (iA : Nat) (tA : Nat) (oA : Nat) (uA : Nat) (wA : Nat) (sA : Nat) (eA : Nat) (vA : Nat) (yA : Nat) (lA : Nat) (ll : Nat) (mn : Nat) (xA : Nat) (cA : Nat) (zA : Nat) (pA : Nat) (bA : Nat) (fA : Nat) (gA : Nat) (bw : Nat) (bs : Nat) (ps : Nat) (qA : Nat) (rA : Nat) (aA : Nat) (kA : Nat) (lt : Nat) (wt : Nat) (fx : Int64) (a : Int32)  : Met l y_D_isPoint w_D_isPoint ({ frames := 0, cells := 0, slots := 0, locals := 0 } : Room) (va_Pc [.ref dm, .int a] (ro_B (dC, dI) classes [(cI, .int), (cL, .long), (cZ, .boolean)] [cg_D dm th np ne fi kp iA tA oA uA wA sA eA vA yA lA ll mn xA cA zA pA bA fA gA bw bs ps qA rA aA kA lt wt fx])) (ro_Qi (nb_i (nb_in np a))) 0 0 ro_A := by
  refine Met.ofW (cc := b_D_isPoint) (maxL := 2) (ret := (some .boolean)) (by decide) rfl ?_
  intro p e s m args below meth c s₁ B hml hv
  obtain ⟨rfl, hP, hK⟩ := hv
  have hx := B.exec
  have hb := B.bytes
  have hr := B.returns
  have hts := atoms_spec (ws := w_D_isPoint) B.pre
  have hown : s.vm.findClass R_D = some m.cls := findClass_of_methodNamed B.named
  have hlocks := B.notSynchronized
  have iD : ∀ w ∈ w_D, w ∈ w_D_isPoint := fun w h => List.mem_cons_of_mem _ (i_D w h)
  have hS : va_S ro_A s.heap s.heap [] := va_S.rf
  have hP : va_P (dC, dI) classes [cg_D dm th np ne fi kp iA tA oA uA wA sA eA vA yA lA ll mn xA cA zA pA bA fA gA bw bs ps qA rA aA kA lt wt fx] s.heap := hP
  have hl := lv_entry ([.ref dm, .int a]) (n := 2) (Nat.le_of_ble_eq_true rfl)
  rw [lg_entry_eq]
  generalize (lg_sl ([.ref dm, .int a]) ++ List.replicate (2 - (lg_sl ([.ref dm, .int a])).length) Slot.unset).toArray = ls at hl ⊢
  have hl : lv_has ls 2 [(0, .ref dm), (1, .int a)] := hl
  refine lv_iload_n hx hb d_D_isPoint_0 rfl (lv_at hl 1 rfl) ?_
  refine lv_if_lt (tgt := 16) hx hb d_D_isPoint_1 (by decide) (fun c_1 => ?_) (fun c_1 => ?_)
  · refine lv_iconst (v := nI 0) hx hb d_D_isPoint_16 (by decide) ?_
    exact ro_zret hx hb hr hlocks hS rfl (by simp [nb_i, nb_in, *]) d_D_isPoint_17
  · refine lv_iload_n hx hb d_D_isPoint_4 rfl (lv_at hl 1 rfl) ?_
    refine lv_aload_n hx hb d_D_isPoint_5 rfl (lv_at hl 0 rfl) ?_
    refine va_get (D := (dC, dI)) (ci := 5) (v := .int (nI np)) (C := R_D) (T := F_D) (N := 34) hx hb hts iD hown hK hP 0 rfl rfl 1 (by decide) (hts _ (List.mem_cons_of_mem _ wk_D_79)) (fun _ h9 => h9) rfl d_D_isPoint_6 ?_
    refine lv_icmp_ge (tgt := 16) hx hb d_D_isPoint_9 (by decide) (fun c_9 => ?_) (fun c_9 => ?_)
    · refine lv_iconst (v := nI 0) hx hb d_D_isPoint_16 (by decide) ?_
      exact ro_zret hx hb hr hlocks hS rfl (by simp [nb_i, nb_in, *]) d_D_isPoint_17
    · refine lv_iconst (v := nI 1) hx hb d_D_isPoint_12 (by decide) ?_
      refine lv_goto (tgt := 17) hx hb d_D_isPoint_13 (by decide) ?_
      exact ro_zret hx hb hr hlocks hS rfl (by simp [nb_i, nb_in, *]) d_D_isPoint_17
set_option maxHeartbeats 4000000 in
set_option maxRecDepth 100000 in
theorem c_D_count (l : Launch) (dC : Nat → ClassId) (dI : Nat → Nat → Nat) (cI cL cZ : ClassId) (x : Int32)  : Met l y_D_count w_D_count ({ frames := 0, cells := 0, slots := 0, locals := 0 } : Room) (va_Pc [.int x] (ro_B (dC, dI) classes [(cI, .int), (cL, .long), (cZ, .boolean)] [])) (ro_Qi (nI (dm_ct (fun i => nb_t x i) 20))) 0 0 ro_A := by
  refine Met.ofW (cc := b_D_count) (maxL := 3) (ret := (some .int)) (by decide) rfl ?_
  intro p e s m args below meth c s₁ B hml hv
  obtain ⟨rfl, hP, hK⟩ := hv
  have hx := B.exec
  have hb := B.bytes
  have hr := B.returns
  have hts := atoms_spec (ws := w_D_count) B.pre
  have hown : s.vm.findClass R_D = some m.cls := findClass_of_methodNamed B.named
  have hlocks := B.notSynchronized
  have hS : va_S ro_A s.heap s.heap [] := va_S.rf
  have hP : va_P (dC, dI) classes [] s.heap := hP
  have hl := lv_entry ([.int x]) (n := 3) (Nat.le_of_ble_eq_true rfl)
  rw [lg_entry_eq]
  generalize (lg_sl ([.int x]) ++ List.replicate (3 - (lg_sl ([.int x])).length) Slot.unset).toArray = ls at hl ⊢
  have hl : lv_has ls 3 [(0, .int x)] := hl
  refine lv_iconst (v := nI 0) hx hb d_D_count_0 (by decide) ?_
  refine lv_istore_n (lv' := [(1, .int (nI 0)), (0, .int x)]) hx hb d_D_count_1 rfl hl (by decide) rfl (fun ls hl => ?_)
  refine lv_iconst (v := nI 0) hx hb d_D_count_2 (by decide) ?_
  refine lv_istore_n (lv' := [(2, .int (nI 0)), (1, .int (nI 0)), (0, .int x)]) hx hb d_D_count_3 rfl hl (by decide) rfl (fun ls hl => ?_)
  have lp_4 : ∀ (n : Nat) (i n1 : Nat), (i ≤ 20) → (n1 = dm_ct (fun i => nb_t x i) i) → 20 - i < n → ∀ (H : Heap) (locs : List Loc), va_P (dC, dI) classes [] H → va_S ro_A s.heap H locs → ∀ (ls : Array Slot), lv_has ls 3 [(0, .int x), (1, .int (nI n1)), (2, .int (nI i))] → W p l e (headSpec w_D_count ({ frames := 0, cells := 0, slots := 0, locals := 0 } : Room)).room s m ([.int x] : List Value).toArray below meth c H locs 0 0 (MQ below (ro_Qi (nI (dm_ct (fun i => nb_t x i) 20))) ([.int x] : List Value).toArray s 0 0 ro_A) (F0 m 4 ls []) := by
    intro n
    induction n with
    | zero => intro i n1 hi hc hme; exact absurd hme (Nat.not_lt_zero _)
    | succ n ih =>
      intro i n1 hi hc hme H locs hP hS ls hl
      have ih_4 := ih
      refine lv_iload_n hx hb d_D_count_4 rfl (lv_at hl 2 rfl) ?_
      refine lv_bipush (v := nI 20) hx hb d_D_count_5 (by decide) ?_
      refine nr_icmp_ge (by omega) (by omega) (tgt := 24) hx hb d_D_count_7 (by decide) (fun c_7 => ?_) (fun c_7 => ?_)
      · refine lv_iload_n hx hb d_D_count_24 rfl (lv_at hl 1 rfl) ?_
        exact ro_iret hx hb hr hlocks hS (by rw [hc, show i = 20 by omega]) d_D_count_25
      · refine lv_iload_n hx hb d_D_count_10 rfl (lv_at hl 1 rfl) ?_
        refine lv_iload_n hx hb d_D_count_11 rfl (lv_at hl 0 rfl) ?_
        refine lv_iload_n hx hb d_D_count_12 rfl (lv_at hl 2 rfl) ?_
        refine lv_ishr hx hb d_D_count_13 ?_
        refine lv_iconst (v := nI 1) hx hb d_D_count_14 (by decide) ?_
        refine lv_iand hx hb d_D_count_15 ?_
        refine nr_as (v := nb_i (nb_t x i)) (nb_bt_and1 (by omega)) ?_
        refine lv_iadd hx hb d_D_count_16 ?_
        refine nr_as (v := nI (n1 + if nb_t x i = true then 1 else 0)) (ng_addb _ _) ?_
        refine lv_istore_n (lv' := [(1, .int (nI (n1 + if nb_t x i = true then 1 else 0))), (0, .int x), (2, .int (nI i))]) hx hb d_D_count_17 rfl hl (by decide) rfl (fun ls hl => ?_)
        refine lv_iinc (v := (nI (i + 1))) (lv' := [(2, .int (nI (i + 1))), (1, .int (nI (n1 + if nb_t x i = true then 1 else 0))), (0, .int x)]) hx hb d_D_count_18 hl (k := 2) rfl (nI_1 i) (by decide) rfl (fun ls hl => ?_)
        refine lv_goto (tgt := 4) hx hb d_D_count_21 (by decide) ?_
        exact ih_4 (i + 1) (n1 + if nb_t x i = true then 1 else 0) (by omega) (by rw [hc]; rfl) (by omega) _ _ hP hS ls (lv_sub hl [2, 1, 0] rfl)
  exact lp_4 (20 - 0 + 1) 0 0 (by omega) rfl (Nat.lt_succ_self _) _ _ hP hS ls (lv_sub hl [2, 1, 0] rfl)
set_option maxHeartbeats 4000000 in
set_option maxRecDepth 100000 in
theorem c_D_of (l : Launch) (dC : Nat → ClassId) (dI : Nat → Nat → Nat) (cI cL cZ : ClassId) (x : Int32) (j : Nat) (hj : j < 2 ^ 31) : Met l y_D_of w_D_of ({ frames := 0, cells := 0, slots := 0, locals := 0 } : Room) (va_Pc [.int x, .int (nI j)] (ro_B (dC, dI) classes [(cI, .int), (cL, .long), (cZ, .boolean)] [])) (ro_Qi (ng_nth x 20 0 j)) 0 0 ro_A := by
  refine Met.ofW (cc := b_D_of) (maxL := 4) (ret := (some .int)) (by decide) rfl ?_
  intro p e s m args below meth c s₁ B hml hv
  obtain ⟨rfl, hP, hK⟩ := hv
  have hx := B.exec
  have hb := B.bytes
  have hr := B.returns
  have hts := atoms_spec (ws := w_D_of) B.pre
  have hown : s.vm.findClass R_D = some m.cls := findClass_of_methodNamed B.named
  have hlocks := B.notSynchronized
  have hS : va_S ro_A s.heap s.heap [] := va_S.rf
  have hP : va_P (dC, dI) classes [] s.heap := hP
  have hl := lv_entry ([.int x, .int (nI j)]) (n := 4) (Nat.le_of_ble_eq_true rfl)
  rw [lg_entry_eq]
  generalize (lg_sl ([.int x, .int (nI j)]) ++ List.replicate (4 - (lg_sl ([.int x, .int (nI j)])).length) Slot.unset).toArray = ls at hl ⊢
  have hl : lv_has ls 4 [(0, .int x), (1, .int (nI j))] := hl
  refine lv_iload_n hx hb d_D_of_0 rfl (lv_at hl 1 rfl) ?_
  refine lv_istore_n (lv' := [(2, .int (nI j)), (0, .int x), (1, .int (nI j))]) hx hb d_D_of_1 rfl hl (by decide) rfl (fun ls hl => ?_)
  refine lv_iconst (v := nI 0) hx hb d_D_of_2 (by decide) ?_
  refine lv_istore_n (lv' := [(3, .int (nI 0)), (2, .int (nI j)), (0, .int x), (1, .int (nI j))]) hx hb d_D_of_3 rfl hl (by decide) rfl (fun ls hl => ?_)
  have lp_4 : ∀ (n : Nat) (i lf : Nat), (i ≤ 20) → (lf < 2 ^ 31) → (ng_nth x 20 0 j = ng_nth x (20 - i) i lf) → 20 - i < n → ∀ (H : Heap) (locs : List Loc), va_P (dC, dI) classes [] H → va_S ro_A s.heap H locs → ∀ (ls : Array Slot), lv_has ls 4 [(0, .int x), (1, .int (nI j)), (2, .int (nI lf)), (3, .int (nI i))] → W p l e (headSpec w_D_of ({ frames := 0, cells := 0, slots := 0, locals := 0 } : Room)).room s m ([.int x, .int (nI j)] : List Value).toArray below meth c H locs 0 0 (MQ below (ro_Qi (ng_nth x 20 0 j)) ([.int x, .int (nI j)] : List Value).toArray s 0 0 ro_A) (F0 m 4 ls []) := by
    intro n
    induction n with
    | zero => intro i lf hi hlf he hme; exact absurd hme (Nat.not_lt_zero _)
    | succ n ih =>
      intro i lf hi hlf he hme H locs hP hS ls hl
      have ih_4 := ih
      refine lv_iload_n hx hb d_D_of_4 rfl (lv_at hl 3 rfl) ?_
      refine lv_bipush (v := nI 20) hx hb d_D_of_5 (by decide) ?_
      refine nr_icmp_ge (by omega) (by omega) (tgt := 36) hx hb d_D_of_7 (by decide) (fun c_7 => ?_) (fun c_7 => ?_)
      · refine lv_iconst (v := -1) hx hb d_D_of_36 (by decide) ?_
        exact ro_iret hx hb hr hlocks hS (by rw [he, show 20 - i = 0 by omega]; rfl) d_D_of_37
      · refine lv_iload_n hx hb d_D_of_10 rfl (lv_at hl 0 rfl) ?_
        refine lv_iload_n hx hb d_D_of_11 rfl (lv_at hl 3 rfl) ?_
        refine lv_ishr hx hb d_D_of_12 ?_
        refine lv_iconst (v := nI 1) hx hb d_D_of_13 (by decide) ?_
        refine lv_iand hx hb d_D_of_14 ?_
        refine nr_as (v := nb_i (nb_t x i)) (nb_bt_and1 (by omega)) ?_
        refine nr_ifneB (tgt := 21) hx hb d_D_of_15 (by decide) (fun c_15 => ?_) (fun c_15 => ?_)
        · refine lv_iload_n hx hb d_D_of_21 rfl (lv_at hl 2 rfl) ?_
          refine nr_if_ne (by omega) (tgt := 27) hx hb d_D_of_22 (by decide) (fun c_22 => ?_) (fun c_22 => ?_)
          · refine lv_iinc (v := (nI (lf - 1))) (lv' := [(2, .int (nI (lf - 1))), (0, .int x), (1, .int (nI j)), (3, .int (nI i))]) hx hb d_D_of_27 hl (k := 2) rfl (nr_dec (by omega)) (by decide) rfl (fun ls hl => ?_)
            refine lv_iinc (v := (nI (i + 1))) (lv' := [(3, .int (nI (i + 1))), (2, .int (nI (lf - 1))), (0, .int x), (1, .int (nI j))]) hx hb d_D_of_30 hl (k := 3) rfl (nI_1 i) (by decide) rfl (fun ls hl => ?_)
            refine lv_goto (tgt := 4) hx hb d_D_of_33 (by decide) ?_
            exact ih_4 (i + 1) (lf - 1) (by omega) (by omega) (he.trans (by first | exact ng_nth_f c_7 c_15 | exact ng_nth_t c_7 c_15 c_22)) (by omega) _ _ hP hS ls (lv_sub hl [2, 3, 1, 0] rfl)
          · refine lv_iload_n hx hb d_D_of_25 rfl (lv_at hl 3 rfl) ?_
            exact ro_iret hx hb hr hlocks hS (by subst c_22; exact (he.trans (ng_nth_0 c_7 c_15)).symm) d_D_of_26
        · refine lv_goto (tgt := 30) hx hb d_D_of_18 (by decide) ?_
          refine lv_iinc (v := (nI (i + 1))) (lv' := [(3, .int (nI (i + 1))), (0, .int x), (1, .int (nI j)), (2, .int (nI lf))]) hx hb d_D_of_30 hl (k := 3) rfl (nI_1 i) (by decide) rfl (fun ls hl => ?_)
          refine lv_goto (tgt := 4) hx hb d_D_of_33 (by decide) ?_
          exact ih_4 (i + 1) lf (by omega) (by omega) (he.trans (by first | exact ng_nth_f c_7 c_15 | exact ng_nth_t c_7 c_15 c_22)) (by omega) _ _ hP hS ls (lv_sub hl [1, 2, 3, 0] rfl)
  exact lp_4 (20 - 0 + 1) 0 j (by omega) hj rfl (Nat.lt_succ_self _) _ _ hP hS ls (lv_sub hl [2, 3, 1, 0] rfl)
set_option maxHeartbeats 4000000 in
set_option maxRecDepth 100000 in
theorem c_D_firstBoundary (l : Launch) (dC : Nat → ClassId) (dI : Nat → Nat → Nat) (cI cL cZ : ClassId) (dm : Nat) (th : Nat) (np : Nat) (ne : Nat) (fi : Int32) (kp : Int64) (iA : Nat) (tA : Nat) (oA : Nat) (uA : Nat) (wA : Nat) (sA : Nat) (eA : Nat) (vA : Nat) (yA : Nat) (lA : Nat) (ll : Nat) (mn : Nat) (xA : Nat) (cA : Nat) (zA : Nat) (pA : Nat) (bA : Nat) (fA : Nat) (gA : Nat) (bw : Nat) (bs : Nat) (ps : Nat) (qA : Nat) (rA : Nat) (aA : Nat) (kA : Nat) (lt : Nat) (wt : Nat) (fx : Int64) (ib : Nat → Bool) (hnp : np ≤ 20) : Met l y_D_firstBoundary w_D_firstBoundary ({ frames := 0, cells := 0, slots := 0, locals := 0 } : Room) (va_Pc [.ref dm] (ro_B (dC, dI) classes [(cI, .int), (cL, .long), (cZ, .boolean)] [cg_D dm th np ne fi kp iA tA oA uA wA sA eA vA yA lA ll mn xA cA zA pA bA fA gA bw bs ps qA rA aA kA lt wt fx, cg_B iA cZ 20 ib])) (ro_Qi (ng_oi (ng_fst ib np 0))) 0 0 ro_A := by
  refine Met.ofW (cc := b_D_firstBoundary) (maxL := 2) (ret := (some .int)) (by decide) rfl ?_
  intro p e s m args below meth c s₁ B hml hv
  obtain ⟨rfl, hP, hK⟩ := hv
  have hx := B.exec
  have hb := B.bytes
  have hr := B.returns
  have hts := atoms_spec (ws := w_D_firstBoundary) B.pre
  have hown : s.vm.findClass R_D = some m.cls := findClass_of_methodNamed B.named
  have hlocks := B.notSynchronized
  have iD : ∀ w ∈ w_D, w ∈ w_D_firstBoundary := fun w h => List.mem_cons_of_mem _ (i_D w h)
  have hS : va_S ro_A s.heap s.heap [] := va_S.rf
  have hP : va_P (dC, dI) classes [cg_D dm th np ne fi kp iA tA oA uA wA sA eA vA yA lA ll mn xA cA zA pA bA fA gA bw bs ps qA rA aA kA lt wt fx, cg_B iA cZ 20 ib] s.heap := hP
  have hl := lv_entry ([.ref dm]) (n := 2) (Nat.le_of_ble_eq_true rfl)
  rw [lg_entry_eq]
  generalize (lg_sl ([.ref dm]) ++ List.replicate (2 - (lg_sl ([.ref dm])).length) Slot.unset).toArray = ls at hl ⊢
  have hl : lv_has ls 2 [(0, .ref dm)] := hl
  refine lv_iconst (v := nI 0) hx hb d_D_firstBoundary_0 (by decide) ?_
  refine lv_istore_n (lv' := [(1, .int (nI 0)), (0, .ref dm)]) hx hb d_D_firstBoundary_1 rfl hl (by decide) rfl (fun ls hl => ?_)
  have lp_2 : ∀ (n : Nat) (i : Nat), (i ≤ np) → (ng_fst ib np 0 = ng_fst ib (np - i) i) → np - i < n → ∀ (H : Heap) (locs : List Loc), va_P (dC, dI) classes [cg_D dm th np ne fi kp iA tA oA uA wA sA eA vA yA lA ll mn xA cA zA pA bA fA gA bw bs ps qA rA aA kA lt wt fx, cg_B iA cZ 20 ib] H → va_S ro_A s.heap H locs → ∀ (ls : Array Slot), lv_has ls 2 [(0, .ref dm), (1, .int (nI i))] → W p l e (headSpec w_D_firstBoundary ({ frames := 0, cells := 0, slots := 0, locals := 0 } : Room)).room s m ([.ref dm] : List Value).toArray below meth c H locs 0 0 (MQ below (ro_Qi (ng_oi (ng_fst ib np 0))) ([.ref dm] : List Value).toArray s 0 0 ro_A) (F0 m 2 ls []) := by
    intro n
    induction n with
    | zero => intro i hi hq hme; exact absurd hme (Nat.not_lt_zero _)
    | succ n ih =>
      intro i hi hq hme H locs hP hS ls hl
      have ih_2 := ih
      refine lv_iload_n hx hb d_D_firstBoundary_2 rfl (lv_at hl 1 rfl) ?_
      refine lv_aload_n hx hb d_D_firstBoundary_3 rfl (lv_at hl 0 rfl) ?_
      refine va_get (D := (dC, dI)) (ci := 5) (v := .int (nI np)) (C := R_D) (T := F_D) (N := 34) hx hb hts iD hown hK hP 0 rfl rfl 1 (by decide) (hts _ (List.mem_cons_of_mem _ wk_D_79)) (fun _ h9 => h9) rfl d_D_firstBoundary_4 ?_
      refine nr_icmp_ge (by omega) (by omega) (tgt := 27) hx hb d_D_firstBoundary_7 (by decide) (fun c_7 => ?_) (fun c_7 => ?_)
      · refine lv_iconst (v := -1) hx hb d_D_firstBoundary_27 (by decide) ?_
        exact ro_iret hx hb hr hlocks hS (by rw [hq, show np - i = 0 by omega]; rfl) d_D_firstBoundary_28
      · refine lv_aload_n hx hb d_D_firstBoundary_10 rfl (lv_at hl 0 rfl) ?_
        refine va_get (D := (dC, dI)) (ci := 5) (v := .ref iA) (C := R_D) (T := F_D) (N := 34) hx hb hts iD hown hK hP 0 rfl rfl 5 (by decide) (hts _ (List.mem_cons_of_mem _ wk_D_7)) (fun _ h9 => h9) rfl d_D_firstBoundary_11 ?_
        refine lv_iload_n hx hb d_D_firstBoundary_14 rfl (lv_at hl 1 rfl) ?_
        refine nr_zald hx hb hK hP 1 2 rfl rfl (by omega) (by decide) d_D_firstBoundary_15 ?_
        refine nr_ifeqB (tgt := 21) hx hb d_D_firstBoundary_16 (by decide) (fun c_16 => ?_) (fun c_16 => ?_)
        · refine lv_iinc (v := (nI (i + 1))) (lv' := [(1, .int (nI (i + 1))), (0, .ref dm)]) hx hb d_D_firstBoundary_21 hl (k := 1) rfl (nI_1 i) (by decide) rfl (fun ls hl => ?_)
          refine lv_goto (tgt := 2) hx hb d_D_firstBoundary_24 (by decide) ?_
          exact ih_2 (i + 1) (by omega) (hq.trans (ng_fst_f c_7 c_16)) (by omega) _ _ hP hS ls (lv_sub hl [1, 0] rfl)
        · refine lv_iload_n hx hb d_D_firstBoundary_19 rfl (lv_at hl 1 rfl) ?_
          exact ro_iret hx hb hr hlocks hS (by rw [hq, ng_fst_t c_7 c_16]; rfl) d_D_firstBoundary_20
  exact lp_2 (np - 0 + 1) 0 (by omega) rfl (Nat.lt_succ_self _) _ _ hP hS ls (lv_sub hl [1, 0] rfl)
set_option maxHeartbeats 4000000 in
set_option maxRecDepth 100000 in
theorem c_D_heavy (l : Launch) (dC : Nat → ClassId) (dI : Nat → Nat → Nat) (cI cL cZ : ClassId) (dm : Nat) (th : Nat) (np : Nat) (ne : Nat) (fi : Int32) (kp : Int64) (iA : Nat) (tA : Nat) (oA : Nat) (uA : Nat) (wA : Nat) (sA : Nat) (eA : Nat) (vA : Nat) (yA : Nat) (lA : Nat) (ll : Nat) (mn : Nat) (xA : Nat) (cA : Nat) (zA : Nat) (pA : Nat) (bA : Nat) (fA : Nat) (gA : Nat) (bw : Nat) (bs : Nat) (ps : Nat) (qA : Nat) (rA : Nat) (aA : Nat) (kA : Nat) (lt : Nat) (wt : Nat) (fx : Int64) (ie : Nat → Bool) (wg : Nat → Nat) (k : Nat) (hk : k < 60) : Met l y_D_heavy w_D_heavy ({ frames := 0, cells := 0, slots := 0, locals := 0 } : Room) (va_Pc [.ref dm, .int (nI k)] (ro_B (dC, dI) classes [(cI, .int), (cL, .long), (cZ, .boolean)] [cg_D dm th np ne fi kp iA tA oA uA wA sA eA vA yA lA ll mn xA cA zA pA bA fA gA bw bs ps qA rA aA kA lt wt fx, cg_B eA cZ 60 ie, cg_N wA cI 60 wg])) (ro_Qi (nI (ng_hv ie wg k))) 0 0 ro_A := by
  refine Met.ofW (cc := b_D_heavy) (maxL := 2) (ret := (some .int)) (by decide) rfl ?_
  intro p e s m args below meth c s₁ B hml hv
  obtain ⟨rfl, hP, hK⟩ := hv
  have hx := B.exec
  have hb := B.bytes
  have hr := B.returns
  have hts := atoms_spec (ws := w_D_heavy) B.pre
  have hown : s.vm.findClass R_D = some m.cls := findClass_of_methodNamed B.named
  have hlocks := B.notSynchronized
  have iD : ∀ w ∈ w_D, w ∈ w_D_heavy := fun w h => List.mem_cons_of_mem _ (i_D w h)
  have hS : va_S ro_A s.heap s.heap [] := va_S.rf
  have hP : va_P (dC, dI) classes [cg_D dm th np ne fi kp iA tA oA uA wA sA eA vA yA lA ll mn xA cA zA pA bA fA gA bw bs ps qA rA aA kA lt wt fx, cg_B eA cZ 60 ie, cg_N wA cI 60 wg] s.heap := hP
  have hl := lv_entry ([.ref dm, .int (nI k)]) (n := 2) (Nat.le_of_ble_eq_true rfl)
  rw [lg_entry_eq]
  generalize (lg_sl ([.ref dm, .int (nI k)]) ++ List.replicate (2 - (lg_sl ([.ref dm, .int (nI k)])).length) Slot.unset).toArray = ls at hl ⊢
  have hl : lv_has ls 2 [(0, .ref dm), (1, .int (nI k))] := hl
  refine lv_aload_n hx hb d_D_heavy_0 rfl (lv_at hl 0 rfl) ?_
  refine va_get (D := (dC, dI)) (ci := 5) (v := .ref eA) (C := R_D) (T := F_D) (N := 34) hx hb hts iD hown hK hP 0 rfl rfl 11 (by decide) (hts _ (List.mem_cons_of_mem _ wk_D_29)) (fun _ h9 => h9) rfl d_D_heavy_1 ?_
  refine lv_iload_n hx hb d_D_heavy_4 rfl (lv_at hl 1 rfl) ?_
  refine nr_zald hx hb hK hP 1 2 rfl rfl (by omega) (by decide) d_D_heavy_5 ?_
  refine nr_ifeqB (tgt := 13) hx hb d_D_heavy_6 (by decide) (fun c_6 => ?_) (fun c_6 => ?_)
  · refine lv_aload_n hx hb d_D_heavy_13 rfl (lv_at hl 0 rfl) ?_
    refine va_get (D := (dC, dI)) (ci := 5) (v := .ref wA) (C := R_D) (T := F_D) (N := 34) hx hb hts iD hown hK hP 0 rfl rfl 9 (by decide) (hts _ (List.mem_cons_of_mem _ wk_D_23)) (fun _ h9 => h9) rfl d_D_heavy_14 ?_
    refine lv_iload_n hx hb d_D_heavy_17 rfl (lv_at hl 1 rfl) ?_
    refine nr_iald hx hb hK hP 2 0 rfl rfl (by omega) (by decide) d_D_heavy_18 ?_
    exact ro_iret hx hb hr hlocks hS (by simp [ng_hv, *]) d_D_heavy_19
  · refine lv_iconst (v := nI 0) hx hb d_D_heavy_9 (by decide) ?_
    refine lv_goto (tgt := 19) hx hb d_D_heavy_10 (by decide) ?_
    exact ro_iret hx hb hr hlocks hS (by simp [ng_hv, *]) d_D_heavy_19
set_option maxHeartbeats 4000000 in
set_option maxRecDepth 100000 in
theorem c_D_goesOn (l : Launch) (dC : Nat → ClassId) (dI : Nat → Nat → Nat) (cI cL cZ : ClassId) (dm : Nat) (th : Nat) (np : Nat) (ne : Nat) (fi : Int32) (kp : Int64) (iA : Nat) (tA : Nat) (oA : Nat) (uA : Nat) (wA : Nat) (sA : Nat) (eA : Nat) (vA : Nat) (yA : Nat) (lA : Nat) (ll : Nat) (mn : Nat) (xA : Nat) (cA : Nat) (zA : Nat) (pA : Nat) (bA : Nat) (fA : Nat) (gA : Nat) (bw : Nat) (bs : Nat) (ps : Nat) (qA : Nat) (rA : Nat) (aA : Nat) (kA : Nat) (lt : Nat) (wt : Nat) (fx : Int64) (ib : Nat → Bool) (wo : Nat → Option Nat) (p0 z : Nat) (hp0 : p0 < 20) (hz : z < 2 ^ 31) (hwo : ∀ w, wo p0 = some w → w < 2 ^ 31) : Met l y_D_goesOn w_D_goesOn ({ frames := 0, cells := 0, slots := 0, locals := 0 } : Room) (va_Pc [.ref dm, .int (nI p0), .int (nI z)] (ro_B (dC, dI) classes [(cI, .int), (cL, .long), (cZ, .boolean)] [cg_D dm th np ne fi kp iA tA oA uA wA sA eA vA yA lA ll mn xA cA zA pA bA fA gA bw bs ps qA rA aA kA lt wt fx, cg_B iA cZ 20 ib, cg_O vA cI 20 wo])) (ro_Qi (nb_i (ng_go wo ib p0 z))) 0 0 ro_A := by
  refine Met.ofW (cc := b_D_goesOn) (maxL := 3) (ret := (some .boolean)) (by decide) rfl ?_
  intro p e s m args below meth c s₁ B hml hv
  obtain ⟨rfl, hP, hK⟩ := hv
  have hx := B.exec
  have hb := B.bytes
  have hr := B.returns
  have hts := atoms_spec (ws := w_D_goesOn) B.pre
  have hown : s.vm.findClass R_D = some m.cls := findClass_of_methodNamed B.named
  have hlocks := B.notSynchronized
  have iD : ∀ w ∈ w_D, w ∈ w_D_goesOn := fun w h => List.mem_cons_of_mem _ (i_D w h)
  have hS : va_S ro_A s.heap s.heap [] := va_S.rf
  have hP : va_P (dC, dI) classes [cg_D dm th np ne fi kp iA tA oA uA wA sA eA vA yA lA ll mn xA cA zA pA bA fA gA bw bs ps qA rA aA kA lt wt fx, cg_B iA cZ 20 ib, cg_O vA cI 20 wo] s.heap := hP
  have hl := lv_entry ([.ref dm, .int (nI p0), .int (nI z)]) (n := 3) (Nat.le_of_ble_eq_true rfl)
  rw [lg_entry_eq]
  generalize (lg_sl ([.ref dm, .int (nI p0), .int (nI z)]) ++ List.replicate (3 - (lg_sl ([.ref dm, .int (nI p0), .int (nI z)])).length) Slot.unset).toArray = ls at hl ⊢
  have hl : lv_has ls 3 [(0, .ref dm), (1, .int (nI p0)), (2, .int (nI z))] := hl
  refine lv_aload_n hx hb d_D_goesOn_0 rfl (lv_at hl 0 rfl) ?_
  refine va_get (D := (dC, dI)) (ci := 5) (v := .ref vA) (C := R_D) (T := F_D) (N := 34) hx hb hts iD hown hK hP 0 rfl rfl 12 (by decide) (hts _ (List.mem_cons_of_mem _ wk_D_32)) (fun _ h9 => h9) rfl d_D_goesOn_1 ?_
  refine lv_iload_n hx hb d_D_goesOn_4 rfl (lv_at hl 1 rfl) ?_
  refine nr_oald hx hb hK hP 2 0 rfl rfl (by omega) (by decide) d_D_goesOn_5 ?_
  rcases hq : wo p0 with _ | y
  · refine nr_as (v := -1) rfl ?_
    refine lv_if_lt (tgt := 27) hx hb d_D_goesOn_6 (by decide) (fun c_6 => ?_) (fun c => absurd ng_m1l c)
    refine lv_iconst (v := nI 0) hx hb d_D_goesOn_27 (by decide) ?_
    exact ro_zret hx hb hr hlocks hS rfl (by first | (rw [ng_go, hq]; rfl) | (rw [ng_go, hq, decide_eq_true c_11]; rfl) | (rw [ng_go, hq, decide_eq_false c_11, c_20]; rfl)) d_D_goesOn_28
  · refine nr_as (v := nI y) rfl ?_
    have hy := hwo y hq
    refine nr_if_lt (by omega) (tgt := 27) hx hb d_D_goesOn_6 (by decide) (fun c => False.elim c) (fun c_6 => ?_)
    refine lv_iload_n hx hb d_D_goesOn_9 rfl (lv_at hl 1 rfl) ?_
    refine lv_iload_n hx hb d_D_goesOn_10 rfl (lv_at hl 2 rfl) ?_
    refine nr_icmp_eq (by omega) (by omega) (tgt := 23) hx hb d_D_goesOn_11 (by decide) (fun c_11 => ?_) (fun c_11 => ?_)
    · refine lv_iconst (v := nI 1) hx hb d_D_goesOn_23 (by decide) ?_
      refine lv_goto (tgt := 28) hx hb d_D_goesOn_24 (by decide) ?_
      exact ro_zret hx hb hr hlocks hS rfl (by first | (rw [ng_go, hq]; rfl) | (rw [ng_go, hq, decide_eq_true c_11]; rfl) | (rw [ng_go, hq, decide_eq_false c_11, c_20]; rfl)) d_D_goesOn_28
    · refine lv_aload_n hx hb d_D_goesOn_14 rfl (lv_at hl 0 rfl) ?_
      refine va_get (D := (dC, dI)) (ci := 5) (v := .ref iA) (C := R_D) (T := F_D) (N := 34) hx hb hts iD hown hK hP 0 rfl rfl 5 (by decide) (hts _ (List.mem_cons_of_mem _ wk_D_7)) (fun _ h9 => h9) rfl d_D_goesOn_15 ?_
      refine lv_iload_n hx hb d_D_goesOn_18 rfl (lv_at hl 1 rfl) ?_
      refine nr_zald hx hb hK hP 1 2 rfl rfl (by omega) (by decide) d_D_goesOn_19 ?_
      refine nr_ifneB (tgt := 27) hx hb d_D_goesOn_20 (by decide) (fun c_20 => ?_) (fun c_20 => ?_)
      · refine lv_iconst (v := nI 0) hx hb d_D_goesOn_27 (by decide) ?_
        exact ro_zret hx hb hr hlocks hS rfl (by first | (rw [ng_go, hq]; rfl) | (rw [ng_go, hq, decide_eq_true c_11]; rfl) | (rw [ng_go, hq, decide_eq_false c_11, c_20]; rfl)) d_D_goesOn_28
      · refine lv_iconst (v := nI 1) hx hb d_D_goesOn_23 (by decide) ?_
        refine lv_goto (tgt := 28) hx hb d_D_goesOn_24 (by decide) ?_
        exact ro_zret hx hb hr hlocks hS rfl (by first | (rw [ng_go, hq]; rfl) | (rw [ng_go, hq, decide_eq_true c_11]; rfl) | (rw [ng_go, hq, decide_eq_false c_11, c_20]; rfl)) d_D_goesOn_28
set_option maxHeartbeats 4000000 in
set_option maxRecDepth 100000 in
theorem c_D_canBe (l : Launch) (dC : Nat → ClassId) (dI : Nat → Nat → Nat) (cI cL cZ : ClassId) (dm : Nat) (th : Nat) (np : Nat) (ne : Nat) (fi : Int32) (kp : Int64) (iA : Nat) (tA : Nat) (oA : Nat) (uA : Nat) (wA : Nat) (sA : Nat) (eA : Nat) (vA : Nat) (yA : Nat) (lA : Nat) (ll : Nat) (mn : Nat) (xA : Nat) (cA : Nat) (zA : Nat) (pA : Nat) (bA : Nat) (fA : Nat) (gA : Nat) (bw : Nat) (bs : Nat) (ps : Nat) (qA : Nat) (rA : Nat) (aA : Nat) (kA : Nat) (lt : Nat) (wt : Nat) (fx : Int64) (ib : Nat → Bool) (a b w z : Int32) (hnp : np ≤ 20) : Met l y_D_canBe w_D_canBe ({ frames := 1, cells := 0, slots := 0, locals := 21 } : Room) (va_Pc [.ref dm, .int a, .int b, .int w, .int z] (ro_B (dC, dI) classes [(cI, .int), (cL, .long), (cZ, .boolean)] [cg_D dm th np ne fi kp iA tA oA uA wA sA eA vA yA lA ll mn xA cA zA pA bA fA gA bw bs ps qA rA aA kA lt wt fx, cg_B iA cZ 20 ib])) (ro_Qi (nb_i (ng_cb np ib a b w z))) 0 0 ro_A := by
  refine Met.ofW (cc := b_D_canBe) (maxL := 5) (ret := (some .boolean)) (by decide) rfl ?_
  intro p e s m args below meth c s₁ B hml hv
  obtain ⟨rfl, hP, hK⟩ := hv
  have hx := B.exec
  have hb := B.bytes
  have hr := B.returns
  have hts := atoms_spec (ws := w_D_canBe) B.pre
  have hown : s.vm.findClass R_D = some m.cls := findClass_of_methodNamed B.named
  have hlocks := B.notSynchronized
  have iD : ∀ w ∈ w_D, w ∈ w_D_canBe := fun w h => List.mem_cons_of_mem _ (i_D w h)
  have hS : va_S ro_A s.heap s.heap [] := va_S.rf
  have hP : va_P (dC, dI) classes [cg_D dm th np ne fi kp iA tA oA uA wA sA eA vA yA lA ll mn xA cA zA pA bA fA gA bw bs ps qA rA aA kA lt wt fx, cg_B iA cZ 20 ib] s.heap := hP
  have hl := lv_entry ([.ref dm, .int a, .int b, .int w, .int z]) (n := 5) (Nat.le_of_ble_eq_true rfl)
  rw [lg_entry_eq]
  generalize (lg_sl ([.ref dm, .int a, .int b, .int w, .int z]) ++ List.replicate (5 - (lg_sl ([.ref dm, .int a, .int b, .int w, .int z])).length) Slot.unset).toArray = ls at hl ⊢
  have hl : lv_has ls 5 [(0, .ref dm), (1, .int a), (2, .int b), (3, .int w), (4, .int z)] := hl
  refine lv_aload_n hx hb d_D_canBe_0 rfl (lv_at hl 0 rfl) ?_
  refine lv_iload_n hx hb d_D_canBe_1 rfl (lv_at hl 1 rfl) ?_
  refine ro_Vi (As := [.int a]) (rest := []) ⟨hx, hb, hml, hown, hts⟩ (c_D_isPoint l dC dI cI cL cZ dm th np ne fi kp iA tA oA uA wA sA eA vA yA lA ll mn xA cA zA pA bA fA gA bw bs ps qA rA aA kA lt wt fx a ) (cwV 1 hts (wg_V wk_D_82 wm_D_isPoint we_D_isPoint wi_D wc_D_isPoint) rfl rfl rfl (by decide +kernel) ⟨Nat.le_of_ble_eq_true rfl, Nat.le_of_ble_eq_true rfl⟩) hK (hP.sub [0] rfl) (q0 := 0) rfl rfl rfl rfl hl.1 rfl (lv_room (Nat.le_of_ble_eq_true rfl)) d_D_canBe_2 ⟨Nat.zero_le _, Nat.zero_le _⟩ hS hP (fun H locs hP hS => ?_)
  refine nr_ifeqB (tgt := 66) hx hb d_D_canBe_5 (by decide) (fun c_5 => ?_) (fun c_5 => ?_)
  · refine lv_iconst (v := nI 0) hx hb d_D_canBe_66 (by decide) ?_
    exact ro_zret hx hb hr hlocks hS rfl (by simp [nb_i, ng_cb, ng_ev, *]) d_D_canBe_67
  · refine lv_aload_n hx hb d_D_canBe_8 rfl (lv_at hl 0 rfl) ?_
    refine lv_iload_n hx hb d_D_canBe_9 rfl (lv_at hl 2 rfl) ?_
    refine ro_Vi (As := [.int b]) (rest := []) ⟨hx, hb, hml, hown, hts⟩ (c_D_isPoint l dC dI cI cL cZ dm th np ne fi kp iA tA oA uA wA sA eA vA yA lA ll mn xA cA zA pA bA fA gA bw bs ps qA rA aA kA lt wt fx b ) (cwV 1 hts (wg_V wk_D_82 wm_D_isPoint we_D_isPoint wi_D wc_D_isPoint) rfl rfl rfl (by decide +kernel) ⟨Nat.le_of_ble_eq_true rfl, Nat.le_of_ble_eq_true rfl⟩) hK (hP.sub [0] rfl) (q0 := 0) rfl rfl rfl rfl hl.1 rfl (lv_room (Nat.le_of_ble_eq_true rfl)) d_D_canBe_10 ⟨Nat.zero_le _, Nat.zero_le _⟩ hS hP (fun H locs hP hS => ?_)
    refine nr_ifeqB (tgt := 66) hx hb d_D_canBe_13 (by decide) (fun c_13 => ?_) (fun c_13 => ?_)
    · refine lv_iconst (v := nI 0) hx hb d_D_canBe_66 (by decide) ?_
      exact ro_zret hx hb hr hlocks hS rfl (by simp [nb_i, ng_cb, ng_ev, *]) d_D_canBe_67
    · obtain ⟨ja, hja, rfl⟩ := nb_inI_of (by omega) c_5
      obtain ⟨jb, hjb, rfl⟩ := nb_inI_of (by omega) c_13
      have eja := nI_clamp (n := ja) (by omega)
      have ejb := nI_clamp (n := jb) (by omega)
      refine lv_iload_n hx hb d_D_canBe_16 rfl (lv_at hl 1 rfl) ?_
      refine lv_iload_n hx hb d_D_canBe_17 rfl (lv_at hl 2 rfl) ?_
      refine nr_icmp_eq (by omega) (by omega) (tgt := 66) hx hb d_D_canBe_18 (by decide) (fun c_18 => ?_) (fun c_18 => ?_)
      · refine lv_iconst (v := nI 0) hx hb d_D_canBe_66 (by decide) ?_
        exact ro_zret hx hb hr hlocks hS rfl (by simp [nb_i, ng_cb, ng_ev, *]) d_D_canBe_67
      · have hne : ¬ (nI ja = nI jb) := fun q => c_18 ((nI_eq (by omega) (by omega)).mp q)
        refine lv_aload_n hx hb d_D_canBe_21 rfl (lv_at hl 0 rfl) ?_
        refine va_get (D := (dC, dI)) (ci := 5) (v := .ref iA) (C := R_D) (T := F_D) (N := 34) hx hb hts iD hown hK hP 0 rfl rfl 5 (by decide) (hts _ (List.mem_cons_of_mem _ wk_D_7)) (fun _ h9 => h9) rfl d_D_canBe_22 ?_
        refine lv_iload_n hx hb d_D_canBe_25 rfl (lv_at hl 1 rfl) ?_
        refine nr_zald hx hb hK hP 1 2 rfl rfl (by omega) (by decide) d_D_canBe_26 ?_
        refine nr_ifeqB (tgt := 39) hx hb d_D_canBe_27 (by decide) (fun c_27 => ?_) (fun c_27 => ?_)
        · refine lv_iload_n hx hb d_D_canBe_39 rfl (lv_at hl 3 rfl) ?_
          refine lv_if_lt (tgt := 66) hx hb d_D_canBe_40 (by decide) (fun c_40 => ?_) (fun c_40 => ?_)
          · refine lv_iconst (v := nI 0) hx hb d_D_canBe_66 (by decide) ?_
            exact ro_zret hx hb hr hlocks hS rfl (by simp [nb_i, ng_cb, ng_ev, *]) d_D_canBe_67
          · refine lv_iload_n hx hb d_D_canBe_43 rfl (lv_at hl 3 rfl) ?_
            refine lv_ldc (v := 1000000) hx hb hown (hts _ (List.mem_cons_of_mem _ wk_D_86)) d_D_canBe_44 ?_
            refine nr_as (v := nI 1000000) (by decide) ?_
            refine lv_icmp_gt (tgt := 66) hx hb d_D_canBe_46 (by decide) (fun c_46 => ?_) (fun c_46 => ?_)
            · refine lv_iconst (v := nI 0) hx hb d_D_canBe_66 (by decide) ?_
              exact ro_zret hx hb hr hlocks hS rfl (by simp [nb_i, ng_cb, ng_ev, *]) d_D_canBe_67
            · refine lv_iload hx hb d_D_canBe_49 (lv_at hl 4 rfl) ?_
              refine lv_if_lt (tgt := 66) hx hb d_D_canBe_51 (by decide) (fun c_51 => ?_) (fun c_51 => ?_)
              · refine lv_iconst (v := nI 0) hx hb d_D_canBe_66 (by decide) ?_
                exact ro_zret hx hb hr hlocks hS rfl (by simp [nb_i, ng_cb, ng_ev, *]) d_D_canBe_67
              · refine lv_iload hx hb d_D_canBe_54 (lv_at hl 4 rfl) ?_
                refine lv_sipush (v := nI 255) hx hb d_D_canBe_56 (by decide) ?_
                refine lv_icmp_gt (tgt := 66) hx hb d_D_canBe_59 (by decide) (fun c_59 => ?_) (fun c_59 => ?_)
                · refine lv_iconst (v := nI 0) hx hb d_D_canBe_66 (by decide) ?_
                  exact ro_zret hx hb hr hlocks hS rfl (by simp [nb_i, ng_cb, ng_ev, *]) d_D_canBe_67
                · refine lv_iconst (v := nI 1) hx hb d_D_canBe_62 (by decide) ?_
                  refine lv_goto (tgt := 67) hx hb d_D_canBe_63 (by decide) ?_
                  exact ro_zret hx hb hr hlocks hS rfl (by simp [nb_i, ng_cb, ng_ev, *]) d_D_canBe_67
        · refine lv_aload_n hx hb d_D_canBe_30 rfl (lv_at hl 0 rfl) ?_
          refine va_get (D := (dC, dI)) (ci := 5) (v := .ref iA) (C := R_D) (T := F_D) (N := 34) hx hb hts iD hown hK hP 0 rfl rfl 5 (by decide) (hts _ (List.mem_cons_of_mem _ wk_D_7)) (fun _ h9 => h9) rfl d_D_canBe_31 ?_
          refine lv_iload_n hx hb d_D_canBe_34 rfl (lv_at hl 2 rfl) ?_
          refine nr_zald hx hb hK hP 1 2 rfl rfl (by omega) (by decide) d_D_canBe_35 ?_
          refine nr_ifneB (tgt := 66) hx hb d_D_canBe_36 (by decide) (fun c_36 => ?_) (fun c_36 => ?_)
          · refine lv_iconst (v := nI 0) hx hb d_D_canBe_66 (by decide) ?_
            exact ro_zret hx hb hr hlocks hS rfl (by simp [nb_i, ng_cb, ng_ev, *]) d_D_canBe_67
          · refine lv_iload_n hx hb d_D_canBe_39 rfl (lv_at hl 3 rfl) ?_
            refine lv_if_lt (tgt := 66) hx hb d_D_canBe_40 (by decide) (fun c_40 => ?_) (fun c_40 => ?_)
            · refine lv_iconst (v := nI 0) hx hb d_D_canBe_66 (by decide) ?_
              exact ro_zret hx hb hr hlocks hS rfl (by simp [nb_i, ng_cb, ng_ev, *]) d_D_canBe_67
            · refine lv_iload_n hx hb d_D_canBe_43 rfl (lv_at hl 3 rfl) ?_
              refine lv_ldc (v := 1000000) hx hb hown (hts _ (List.mem_cons_of_mem _ wk_D_86)) d_D_canBe_44 ?_
              refine nr_as (v := nI 1000000) (by decide) ?_
              refine lv_icmp_gt (tgt := 66) hx hb d_D_canBe_46 (by decide) (fun c_46 => ?_) (fun c_46 => ?_)
              · refine lv_iconst (v := nI 0) hx hb d_D_canBe_66 (by decide) ?_
                exact ro_zret hx hb hr hlocks hS rfl (by simp [nb_i, ng_cb, ng_ev, *]) d_D_canBe_67
              · refine lv_iload hx hb d_D_canBe_49 (lv_at hl 4 rfl) ?_
                refine lv_if_lt (tgt := 66) hx hb d_D_canBe_51 (by decide) (fun c_51 => ?_) (fun c_51 => ?_)
                · refine lv_iconst (v := nI 0) hx hb d_D_canBe_66 (by decide) ?_
                  exact ro_zret hx hb hr hlocks hS rfl (by simp [nb_i, ng_cb, ng_ev, *]) d_D_canBe_67
                · refine lv_iload hx hb d_D_canBe_54 (lv_at hl 4 rfl) ?_
                  refine lv_sipush (v := nI 255) hx hb d_D_canBe_56 (by decide) ?_
                  refine lv_icmp_gt (tgt := 66) hx hb d_D_canBe_59 (by decide) (fun c_59 => ?_) (fun c_59 => ?_)
                  · refine lv_iconst (v := nI 0) hx hb d_D_canBe_66 (by decide) ?_
                    exact ro_zret hx hb hr hlocks hS rfl (by simp [nb_i, ng_cb, ng_ev, *]) d_D_canBe_67
                  · refine lv_iconst (v := nI 1) hx hb d_D_canBe_62 (by decide) ?_
                    refine lv_goto (tgt := 67) hx hb d_D_canBe_63 (by decide) ?_
                    exact ro_zret hx hb hr hlocks hS rfl (by simp [nb_i, ng_cb, ng_ev, *]) d_D_canBe_67
set_option maxHeartbeats 4000000 in
set_option maxRecDepth 100000 in
theorem c_D_add (l : Launch) (dC : Nat → ClassId) (dI : Nat → Nat → Nat) (cI cL cZ : ClassId) (dm : Nat) (th : Nat) (np : Nat) (ne : Nat) (fi : Int32) (kp : Int64) (iA : Nat) (tA : Nat) (oA : Nat) (uA : Nat) (wA : Nat) (sA : Nat) (eA : Nat) (vA : Nat) (yA : Nat) (lA : Nat) (ll : Nat) (mn : Nat) (xA : Nat) (cA : Nat) (zA : Nat) (pA : Nat) (bA : Nat) (fA : Nat) (gA : Nat) (bw : Nat) (bs : Nat) (ps : Nat) (qA : Nat) (rA : Nat) (aA : Nat) (kA : Nat) (lt : Nat) (wt : Nat) (fx : Int64) (oe ot wg sg : Nat → Nat) (ie : Nat → Bool) (a b w z : Nat) (hne : ne < 60) : Met l y_D_add w_D_add ({ frames := 0, cells := 0, slots := 0, locals := 0 } : Room) (va_Pc [.ref dm, .int (nI a), .int (nI b), .int (nI w), .int (nI z)] (rw_B (dC, dI) classes [(cI, .int), (cL, .long), (cZ, .boolean)] [cg_D dm th np ne fi kp iA tA oA uA wA sA eA vA yA lA ll mn xA cA zA pA bA fA gA bw bs ps qA rA aA kA lt wt fx, cg_N oA cI 60 oe, cg_N uA cI 60 ot, cg_N wA cI 60 wg, cg_N sA cI 60 sg, cg_B eA cZ 60 ie])) (rw_Qv (dC, dI) classes (rw_A [cg_D dm th np ne fi kp iA tA oA uA wA sA eA vA yA lA ll mn xA cA zA pA bA fA gA bw bs ps qA rA aA kA lt wt fx, cg_N oA cI 60 oe, cg_N uA cI 60 ot, cg_N wA cI 60 wg, cg_N sA cI 60 sg, cg_B eA cZ 60 ie]) (fun (u : Unit) => True) (fun u => [cg_D dm th np (ne + 1) fi kp iA tA oA uA wA sA eA vA yA lA ll mn xA cA zA pA bA fA gA bw bs ps qA rA aA kA lt wt fx, cg_N oA cI 60 (va_up oe ne a), cg_N uA cI 60 (va_up ot ne b), cg_N wA cI 60 (va_up wg ne w), cg_N sA cI 60 (va_up sg ne z), cg_B eA cZ 60 (va_up ie ne false)])) 0 0 (rw_A [cg_D dm th np ne fi kp iA tA oA uA wA sA eA vA yA lA ll mn xA cA zA pA bA fA gA bw bs ps qA rA aA kA lt wt fx, cg_N oA cI 60 oe, cg_N uA cI 60 ot, cg_N wA cI 60 wg, cg_N sA cI 60 sg, cg_B eA cZ 60 ie]) := by
  refine Met.ofW (cc := b_D_add) (maxL := 5) (ret := none) (by decide) rfl ?_
  intro p e s m args below meth c s₁ B hml hv
  obtain ⟨rfl, hP, hK, hD0⟩ := hv
  have hx := B.exec
  have hb := B.bytes
  have hr := B.returns
  have hts := atoms_spec (ws := w_D_add) B.pre
  have hown : s.vm.findClass R_D = some m.cls := findClass_of_methodNamed B.named
  have hlocks := B.notSynchronized
  have iD : ∀ w ∈ w_D, w ∈ w_D_add := fun w h => List.mem_cons_of_mem _ (i_D w h)
  have hD := rw_own hD0
  generalize hAe : rw_A [cg_D dm th np ne fi kp iA tA oA uA wA sA eA vA yA lA ll mn xA cA zA pA bA fA gA bw bs ps qA rA aA kA lt wt fx, cg_N oA cI 60 oe, cg_N uA cI 60 ot, cg_N wA cI 60 wg, cg_N sA cI 60 sg, cg_B eA cZ 60 ie] = A at hD ⊢
  have hS : va_S A s.heap s.heap [] := va_S.rf
  have hP : va_P (dC, dI) classes [cg_D dm th np ne fi kp iA tA oA uA wA sA eA vA yA lA ll mn xA cA zA pA bA fA gA bw bs ps qA rA aA kA lt wt fx, cg_N oA cI 60 oe, cg_N uA cI 60 ot, cg_N wA cI 60 wg, cg_N sA cI 60 sg, cg_B eA cZ 60 ie] s.heap := hP
  have hl := lv_entry ([.ref dm, .int (nI a), .int (nI b), .int (nI w), .int (nI z)]) (n := 5) (Nat.le_of_ble_eq_true rfl)
  rw [lg_entry_eq]
  generalize (lg_sl ([.ref dm, .int (nI a), .int (nI b), .int (nI w), .int (nI z)]) ++ List.replicate (5 - (lg_sl ([.ref dm, .int (nI a), .int (nI b), .int (nI w), .int (nI z)])).length) Slot.unset).toArray = ls at hl ⊢
  have hl : lv_has ls 5 [(0, .ref dm), (1, .int (nI a)), (2, .int (nI b)), (3, .int (nI w)), (4, .int (nI z))] := hl
  refine lv_aload_n hx hb d_D_add_0 rfl (lv_at hl 0 rfl) ?_
  refine va_get (D := (dC, dI)) (ci := 5) (v := .ref oA) (C := R_D) (T := F_D) (N := 34) hx hb hts iD hown hK hP 0 rfl rfl 7 (by decide) (hts _ (List.mem_cons_of_mem _ wk_D_17)) (fun _ h9 => h9) rfl d_D_add_1 ?_
  refine lv_aload_n hx hb d_D_add_4 rfl (lv_at hl 0 rfl) ?_
  refine va_get (D := (dC, dI)) (ci := 5) (v := .int (nI ne)) (C := R_D) (T := F_D) (N := 34) hx hb hts iD hown hK hP 0 rfl rfl 2 (by decide) (hts _ (List.mem_cons_of_mem _ wk_D_87)) (fun _ h9 => h9) rfl d_D_add_5 ?_
  refine lv_iload_n hx hb d_D_add_8 rfl (lv_at hl 1 rfl) ?_
  refine nr_iast hx hb hK hP hD hS 1 0 rfl rfl (by omega) (by decide) d_D_add_9 (fun H locs hP hD hS => ?_)
  have hP : va_P (dC, dI) classes [cg_D dm th np ne fi kp iA tA oA uA wA sA eA vA yA lA ll mn xA cA zA pA bA fA gA bw bs ps qA rA aA kA lt wt fx, cg_N oA cI 60 (va_up oe ne a), cg_N uA cI 60 ot, cg_N wA cI 60 wg, cg_N sA cI 60 sg, cg_B eA cZ 60 ie] H := hP
  have hD : va_D A [cg_D dm th np ne fi kp iA tA oA uA wA sA eA vA yA lA ll mn xA cA zA pA bA fA gA bw bs ps qA rA aA kA lt wt fx, cg_N oA cI 60 (va_up oe ne a), cg_N uA cI 60 ot, cg_N wA cI 60 wg, cg_N sA cI 60 sg, cg_B eA cZ 60 ie] := hD
  refine lv_aload_n hx hb d_D_add_10 rfl (lv_at hl 0 rfl) ?_
  refine va_get (D := (dC, dI)) (ci := 5) (v := .ref uA) (C := R_D) (T := F_D) (N := 34) hx hb hts iD hown hK hP 0 rfl rfl 8 (by decide) (hts _ (List.mem_cons_of_mem _ wk_D_20)) (fun _ h9 => h9) rfl d_D_add_11 ?_
  refine lv_aload_n hx hb d_D_add_14 rfl (lv_at hl 0 rfl) ?_
  refine va_get (D := (dC, dI)) (ci := 5) (v := .int (nI ne)) (C := R_D) (T := F_D) (N := 34) hx hb hts iD hown hK hP 0 rfl rfl 2 (by decide) (hts _ (List.mem_cons_of_mem _ wk_D_87)) (fun _ h9 => h9) rfl d_D_add_15 ?_
  refine lv_iload_n hx hb d_D_add_18 rfl (lv_at hl 2 rfl) ?_
  refine nr_iast hx hb hK hP hD hS 2 0 rfl rfl (by omega) (by decide) d_D_add_19 (fun H locs hP hD hS => ?_)
  have hP : va_P (dC, dI) classes [cg_D dm th np ne fi kp iA tA oA uA wA sA eA vA yA lA ll mn xA cA zA pA bA fA gA bw bs ps qA rA aA kA lt wt fx, cg_N oA cI 60 (va_up oe ne a), cg_N uA cI 60 (va_up ot ne b), cg_N wA cI 60 wg, cg_N sA cI 60 sg, cg_B eA cZ 60 ie] H := hP
  have hD : va_D A [cg_D dm th np ne fi kp iA tA oA uA wA sA eA vA yA lA ll mn xA cA zA pA bA fA gA bw bs ps qA rA aA kA lt wt fx, cg_N oA cI 60 (va_up oe ne a), cg_N uA cI 60 (va_up ot ne b), cg_N wA cI 60 wg, cg_N sA cI 60 sg, cg_B eA cZ 60 ie] := hD
  refine lv_aload_n hx hb d_D_add_20 rfl (lv_at hl 0 rfl) ?_
  refine va_get (D := (dC, dI)) (ci := 5) (v := .ref wA) (C := R_D) (T := F_D) (N := 34) hx hb hts iD hown hK hP 0 rfl rfl 9 (by decide) (hts _ (List.mem_cons_of_mem _ wk_D_23)) (fun _ h9 => h9) rfl d_D_add_21 ?_
  refine lv_aload_n hx hb d_D_add_24 rfl (lv_at hl 0 rfl) ?_
  refine va_get (D := (dC, dI)) (ci := 5) (v := .int (nI ne)) (C := R_D) (T := F_D) (N := 34) hx hb hts iD hown hK hP 0 rfl rfl 2 (by decide) (hts _ (List.mem_cons_of_mem _ wk_D_87)) (fun _ h9 => h9) rfl d_D_add_25 ?_
  refine lv_iload_n hx hb d_D_add_28 rfl (lv_at hl 3 rfl) ?_
  refine nr_iast hx hb hK hP hD hS 3 0 rfl rfl (by omega) (by decide) d_D_add_29 (fun H locs hP hD hS => ?_)
  have hP : va_P (dC, dI) classes [cg_D dm th np ne fi kp iA tA oA uA wA sA eA vA yA lA ll mn xA cA zA pA bA fA gA bw bs ps qA rA aA kA lt wt fx, cg_N oA cI 60 (va_up oe ne a), cg_N uA cI 60 (va_up ot ne b), cg_N wA cI 60 (va_up wg ne w), cg_N sA cI 60 sg, cg_B eA cZ 60 ie] H := hP
  have hD : va_D A [cg_D dm th np ne fi kp iA tA oA uA wA sA eA vA yA lA ll mn xA cA zA pA bA fA gA bw bs ps qA rA aA kA lt wt fx, cg_N oA cI 60 (va_up oe ne a), cg_N uA cI 60 (va_up ot ne b), cg_N wA cI 60 (va_up wg ne w), cg_N sA cI 60 sg, cg_B eA cZ 60 ie] := hD
  refine lv_aload_n hx hb d_D_add_30 rfl (lv_at hl 0 rfl) ?_
  refine va_get (D := (dC, dI)) (ci := 5) (v := .ref sA) (C := R_D) (T := F_D) (N := 34) hx hb hts iD hown hK hP 0 rfl rfl 10 (by decide) (hts _ (List.mem_cons_of_mem _ wk_D_26)) (fun _ h9 => h9) rfl d_D_add_31 ?_
  refine lv_aload_n hx hb d_D_add_34 rfl (lv_at hl 0 rfl) ?_
  refine va_get (D := (dC, dI)) (ci := 5) (v := .int (nI ne)) (C := R_D) (T := F_D) (N := 34) hx hb hts iD hown hK hP 0 rfl rfl 2 (by decide) (hts _ (List.mem_cons_of_mem _ wk_D_87)) (fun _ h9 => h9) rfl d_D_add_35 ?_
  refine lv_iload hx hb d_D_add_38 (lv_at hl 4 rfl) ?_
  refine nr_iast hx hb hK hP hD hS 4 0 rfl rfl (by omega) (by decide) d_D_add_40 (fun H locs hP hD hS => ?_)
  have hP : va_P (dC, dI) classes [cg_D dm th np ne fi kp iA tA oA uA wA sA eA vA yA lA ll mn xA cA zA pA bA fA gA bw bs ps qA rA aA kA lt wt fx, cg_N oA cI 60 (va_up oe ne a), cg_N uA cI 60 (va_up ot ne b), cg_N wA cI 60 (va_up wg ne w), cg_N sA cI 60 (va_up sg ne z), cg_B eA cZ 60 ie] H := hP
  have hD : va_D A [cg_D dm th np ne fi kp iA tA oA uA wA sA eA vA yA lA ll mn xA cA zA pA bA fA gA bw bs ps qA rA aA kA lt wt fx, cg_N oA cI 60 (va_up oe ne a), cg_N uA cI 60 (va_up ot ne b), cg_N wA cI 60 (va_up wg ne w), cg_N sA cI 60 (va_up sg ne z), cg_B eA cZ 60 ie] := hD
  refine lv_aload_n hx hb d_D_add_41 rfl (lv_at hl 0 rfl) ?_
  refine va_get (D := (dC, dI)) (ci := 5) (v := .ref eA) (C := R_D) (T := F_D) (N := 34) hx hb hts iD hown hK hP 0 rfl rfl 11 (by decide) (hts _ (List.mem_cons_of_mem _ wk_D_29)) (fun _ h9 => h9) rfl d_D_add_42 ?_
  refine lv_aload_n hx hb d_D_add_45 rfl (lv_at hl 0 rfl) ?_
  refine va_get (D := (dC, dI)) (ci := 5) (v := .int (nI ne)) (C := R_D) (T := F_D) (N := 34) hx hb hts iD hown hK hP 0 rfl rfl 2 (by decide) (hts _ (List.mem_cons_of_mem _ wk_D_87)) (fun _ h9 => h9) rfl d_D_add_46 ?_
  refine lv_iconst (v := nI 0) hx hb d_D_add_49 (by decide) ?_
  refine nr_zast (x := false) hx hb hK hP hD hS 5 2 rfl rfl (by omega) (by decide) d_D_add_50 (fun H locs hP hD hS => ?_)
  have hP : va_P (dC, dI) classes [cg_D dm th np ne fi kp iA tA oA uA wA sA eA vA yA lA ll mn xA cA zA pA bA fA gA bw bs ps qA rA aA kA lt wt fx, cg_N oA cI 60 (va_up oe ne a), cg_N uA cI 60 (va_up ot ne b), cg_N wA cI 60 (va_up wg ne w), cg_N sA cI 60 (va_up sg ne z), cg_B eA cZ 60 (va_up ie ne false)] H := hP
  have hD : va_D A [cg_D dm th np ne fi kp iA tA oA uA wA sA eA vA yA lA ll mn xA cA zA pA bA fA gA bw bs ps qA rA aA kA lt wt fx, cg_N oA cI 60 (va_up oe ne a), cg_N uA cI 60 (va_up ot ne b), cg_N wA cI 60 (va_up wg ne w), cg_N sA cI 60 (va_up sg ne z), cg_B eA cZ 60 (va_up ie ne false)] := hD
  refine lv_aload_n hx hb d_D_add_51 rfl (lv_at hl 0 rfl) ?_
  refine lv_dup hx hb d_D_add_52 rfl ?_
  refine va_get (D := (dC, dI)) (ci := 5) (v := .int (nI ne)) (C := R_D) (T := F_D) (N := 34) hx hb hts iD hown hK hP 0 rfl rfl 2 (by decide) (hts _ (List.mem_cons_of_mem _ wk_D_87)) (fun _ h9 => h9) rfl d_D_add_53 ?_
  refine lv_iconst (v := nI 1) hx hb d_D_add_56 (by decide) ?_
  refine nr_iadd hx hb d_D_add_57 ?_
  refine va_put (D := (dC, dI)) (ci := 5) (v := .int (nI (ne + 1))) (ty := .int) (C := R_D) (T := F_D) (N := 34) hx hb hts iD t_D t_D_ok n_D hown hK hP hD hS 0 rfl rfl 2 (by decide) (hts _ (List.mem_cons_of_mem _ wk_D_87)) (fun _ h9 => h9) rfl (by decide +kernel) rfl rfl (Nat.le_of_ble_eq_true rfl) d_D_add_58 (fun H locs hP hD hS => ?_)
  have hP : va_P (dC, dI) classes [cg_D dm th np (ne + 1) fi kp iA tA oA uA wA sA eA vA yA lA ll mn xA cA zA pA bA fA gA bw bs ps qA rA aA kA lt wt fx, cg_N oA cI 60 (va_up oe ne a), cg_N uA cI 60 (va_up ot ne b), cg_N wA cI 60 (va_up wg ne w), cg_N sA cI 60 (va_up sg ne z), cg_B eA cZ 60 (va_up ie ne false)] H := hP
  have hD : va_D A [cg_D dm th np (ne + 1) fi kp iA tA oA uA wA sA eA vA yA lA ll mn xA cA zA pA bA fA gA bw bs ps qA rA aA kA lt wt fx, cg_N oA cI 60 (va_up oe ne a), cg_N uA cI 60 (va_up ot ne b), cg_N wA cI 60 (va_up wg ne w), cg_N sA cI 60 (va_up sg ne z), cg_B eA cZ 60 (va_up ie ne false)] := hD
  exact rw_vret () hx hb hr hlocks hS hP trivial d_D_add_61
set_option maxHeartbeats 4000000 in
set_option maxRecDepth 100000 in
theorem c_D_point_ok (l : Launch) (dC : Nat → ClassId) (dI : Nat → Nat → Nat) (cI cL cZ : ClassId) (dm : Nat) (th : Nat) (np : Nat) (ne : Nat) (fi : Int32) (kp : Int64) (iA : Nat) (tA : Nat) (oA : Nat) (uA : Nat) (wA : Nat) (sA : Nat) (eA : Nat) (vA : Nat) (yA : Nat) (lA : Nat) (ll : Nat) (mn : Nat) (xA : Nat) (cA : Nat) (zA : Nat) (pA : Nat) (bA : Nat) (fA : Nat) (gA : Nat) (bw : Nat) (bs : Nat) (ps : Nat) (qA : Nat) (rA : Nat) (aA : Nat) (kA : Nat) (lt : Nat) (wt : Nat) (fx : Int64) (ib : Nat → Bool) (tm : Nat → Nat) (b : Bool) (t : Nat) (hnp : np < 20) (ht : t < 10) : Met l y_D_point w_D_point ({ frames := 0, cells := 0, slots := 0, locals := 0 } : Room) (va_Pc [.ref dm, .int (nb_i b), .int (nI t)] (rw_B (dC, dI) classes [(cI, .int), (cL, .long), (cZ, .boolean)] [cg_D dm th np ne fi kp iA tA oA uA wA sA eA vA yA lA ll mn xA cA zA pA bA fA gA bw bs ps qA rA aA kA lt wt fx, cg_B iA cZ 20 ib, cg_N tA cI 20 tm])) (rw_Qi (dC, dI) classes (rw_A [cg_D dm th np ne fi kp iA tA oA uA wA sA eA vA yA lA ll mn xA cA zA pA bA fA gA bw bs ps qA rA aA kA lt wt fx, cg_B iA cZ 20 ib, cg_N tA cI 20 tm]) (fun r (u : Unit) => r = nI np) (fun u => [cg_D dm 0 (np + 1) ne fi kp iA tA oA uA wA sA eA vA yA lA ll mn xA cA zA pA bA fA gA bw bs ps qA rA aA kA lt wt fx, cg_B iA cZ 20 (va_up ib np b), cg_N tA cI 20 (va_up tm np t)])) 0 0 (rw_A [cg_D dm th np ne fi kp iA tA oA uA wA sA eA vA yA lA ll mn xA cA zA pA bA fA gA bw bs ps qA rA aA kA lt wt fx, cg_B iA cZ 20 ib, cg_N tA cI 20 tm]) := by
  refine Met.ofW (cc := b_D_point) (maxL := 3) (ret := (some .int)) (by decide) rfl ?_
  intro p e s m args below meth c s₁ B hml hv
  obtain ⟨rfl, hP, hK, hD0⟩ := hv
  have hx := B.exec
  have hb := B.bytes
  have hr := B.returns
  have hts := atoms_spec (ws := w_D_point) B.pre
  have hown : s.vm.findClass R_D = some m.cls := findClass_of_methodNamed B.named
  have hlocks := B.notSynchronized
  have iD : ∀ w ∈ w_D, w ∈ w_D_point := fun w h => List.mem_cons_of_mem _ (i_D w h)
  have hD := rw_own hD0
  generalize hAe : rw_A [cg_D dm th np ne fi kp iA tA oA uA wA sA eA vA yA lA ll mn xA cA zA pA bA fA gA bw bs ps qA rA aA kA lt wt fx, cg_B iA cZ 20 ib, cg_N tA cI 20 tm] = A at hD ⊢
  have hS : va_S A s.heap s.heap [] := va_S.rf
  have hP : va_P (dC, dI) classes [cg_D dm th np ne fi kp iA tA oA uA wA sA eA vA yA lA ll mn xA cA zA pA bA fA gA bw bs ps qA rA aA kA lt wt fx, cg_B iA cZ 20 ib, cg_N tA cI 20 tm] s.heap := hP
  have hl := lv_entry ([.ref dm, .int (nb_i b), .int (nI t)]) (n := 3) (Nat.le_of_ble_eq_true rfl)
  rw [lg_entry_eq]
  generalize (lg_sl ([.ref dm, .int (nb_i b), .int (nI t)]) ++ List.replicate (3 - (lg_sl ([.ref dm, .int (nb_i b), .int (nI t)])).length) Slot.unset).toArray = ls at hl ⊢
  have hl : lv_has ls 3 [(0, .ref dm), (1, .int (nb_i b)), (2, .int (nI t))] := hl
  refine lv_aload_n hx hb d_D_point_0 rfl (lv_at hl 0 rfl) ?_
  refine lv_iconst (v := nI 0) hx hb d_D_point_1 (by decide) ?_
  refine va_put (D := (dC, dI)) (ci := 5) (v := .int (nI 0)) (ty := .int) (C := R_D) (T := F_D) (N := 34) hx hb hts iD t_D t_D_ok n_D hown hK hP hD hS 0 rfl rfl 0 (by decide) (hts _ (List.mem_cons_of_mem _ wk_D_75)) (fun _ h9 => h9) rfl (by decide +kernel) rfl rfl (Nat.le_of_ble_eq_true rfl) d_D_point_2 (fun H locs hP hD hS => ?_)
  have hP : va_P (dC, dI) classes [cg_D dm 0 np ne fi kp iA tA oA uA wA sA eA vA yA lA ll mn xA cA zA pA bA fA gA bw bs ps qA rA aA kA lt wt fx, cg_B iA cZ 20 ib, cg_N tA cI 20 tm] H := hP
  have hD : va_D A [cg_D dm 0 np ne fi kp iA tA oA uA wA sA eA vA yA lA ll mn xA cA zA pA bA fA gA bw bs ps qA rA aA kA lt wt fx, cg_B iA cZ 20 ib, cg_N tA cI 20 tm] := hD
  refine lv_iload_n hx hb d_D_point_5 rfl (lv_at hl 2 rfl) ?_
  refine nr_if_lt (by omega) (tgt := 24) hx hb d_D_point_6 (by decide) (fun c => False.elim c) (fun c_6 => ?_)
  refine lv_iload_n hx hb d_D_point_9 rfl (lv_at hl 2 rfl) ?_
  refine lv_bipush (v := nI 9) hx hb d_D_point_10 (by decide) ?_
  refine nr_icmp_gt (by omega) (by omega) (tgt := 24) hx hb d_D_point_12 (by decide) (fun c_12 => ?_) (fun c_12 => ?_)
  · exact False.elim (by omega)
  · refine lv_aload_n hx hb d_D_point_15 rfl (lv_at hl 0 rfl) ?_
    refine va_get (D := (dC, dI)) (ci := 5) (v := .int (nI np)) (C := R_D) (T := F_D) (N := 34) hx hb hts iD hown hK hP 0 rfl rfl 1 (by decide) (hts _ (List.mem_cons_of_mem _ wk_D_79)) (fun _ h9 => h9) rfl d_D_point_16 ?_
    refine lv_bipush (v := nI 20) hx hb d_D_point_19 (by decide) ?_
    refine nr_icmp_ne (by omega) (by omega) (tgt := 26) hx hb d_D_point_21 (by decide) (fun c_21 => ?_) (fun c_21 => ?_)
    · refine lv_aload_n hx hb d_D_point_26 rfl (lv_at hl 0 rfl) ?_
      refine va_get (D := (dC, dI)) (ci := 5) (v := .ref iA) (C := R_D) (T := F_D) (N := 34) hx hb hts iD hown hK hP 0 rfl rfl 5 (by decide) (hts _ (List.mem_cons_of_mem _ wk_D_7)) (fun _ h9 => h9) rfl d_D_point_27 ?_
      refine lv_aload_n hx hb d_D_point_30 rfl (lv_at hl 0 rfl) ?_
      refine va_get (D := (dC, dI)) (ci := 5) (v := .int (nI np)) (C := R_D) (T := F_D) (N := 34) hx hb hts iD hown hK hP 0 rfl rfl 1 (by decide) (hts _ (List.mem_cons_of_mem _ wk_D_79)) (fun _ h9 => h9) rfl d_D_point_31 ?_
      refine lv_iload_n hx hb d_D_point_34 rfl (lv_at hl 1 rfl) ?_
      refine nr_zast (x := b) hx hb hK hP hD hS 1 2 rfl rfl (by omega) (by decide) d_D_point_35 (fun H locs hP hD hS => ?_)
      have hP : va_P (dC, dI) classes [cg_D dm 0 np ne fi kp iA tA oA uA wA sA eA vA yA lA ll mn xA cA zA pA bA fA gA bw bs ps qA rA aA kA lt wt fx, cg_B iA cZ 20 (va_up ib np b), cg_N tA cI 20 tm] H := hP
      have hD : va_D A [cg_D dm 0 np ne fi kp iA tA oA uA wA sA eA vA yA lA ll mn xA cA zA pA bA fA gA bw bs ps qA rA aA kA lt wt fx, cg_B iA cZ 20 (va_up ib np b), cg_N tA cI 20 tm] := hD
      refine lv_aload_n hx hb d_D_point_36 rfl (lv_at hl 0 rfl) ?_
      refine va_get (D := (dC, dI)) (ci := 5) (v := .ref tA) (C := R_D) (T := F_D) (N := 34) hx hb hts iD hown hK hP 0 rfl rfl 6 (by decide) (hts _ (List.mem_cons_of_mem _ wk_D_13)) (fun _ h9 => h9) rfl d_D_point_37 ?_
      refine lv_aload_n hx hb d_D_point_40 rfl (lv_at hl 0 rfl) ?_
      refine va_get (D := (dC, dI)) (ci := 5) (v := .int (nI np)) (C := R_D) (T := F_D) (N := 34) hx hb hts iD hown hK hP 0 rfl rfl 1 (by decide) (hts _ (List.mem_cons_of_mem _ wk_D_79)) (fun _ h9 => h9) rfl d_D_point_41 ?_
      refine lv_iload_n hx hb d_D_point_44 rfl (lv_at hl 2 rfl) ?_
      refine nr_iast hx hb hK hP hD hS 2 0 rfl rfl (by omega) (by decide) d_D_point_45 (fun H locs hP hD hS => ?_)
      have hP : va_P (dC, dI) classes [cg_D dm 0 np ne fi kp iA tA oA uA wA sA eA vA yA lA ll mn xA cA zA pA bA fA gA bw bs ps qA rA aA kA lt wt fx, cg_B iA cZ 20 (va_up ib np b), cg_N tA cI 20 (va_up tm np t)] H := hP
      have hD : va_D A [cg_D dm 0 np ne fi kp iA tA oA uA wA sA eA vA yA lA ll mn xA cA zA pA bA fA gA bw bs ps qA rA aA kA lt wt fx, cg_B iA cZ 20 (va_up ib np b), cg_N tA cI 20 (va_up tm np t)] := hD
      refine lv_aload_n hx hb d_D_point_46 rfl (lv_at hl 0 rfl) ?_
      refine lv_dup hx hb d_D_point_47 rfl ?_
      refine va_get (D := (dC, dI)) (ci := 5) (v := .int (nI np)) (C := R_D) (T := F_D) (N := 34) hx hb hts iD hown hK hP 0 rfl rfl 1 (by decide) (hts _ (List.mem_cons_of_mem _ wk_D_79)) (fun _ h9 => h9) rfl d_D_point_48 ?_
      refine lv_iconst (v := nI 1) hx hb d_D_point_51 (by decide) ?_
      refine nr_iadd hx hb d_D_point_52 ?_
      refine va_put (D := (dC, dI)) (ci := 5) (v := .int (nI (np + 1))) (ty := .int) (C := R_D) (T := F_D) (N := 34) hx hb hts iD t_D t_D_ok n_D hown hK hP hD hS 0 rfl rfl 1 (by decide) (hts _ (List.mem_cons_of_mem _ wk_D_79)) (fun _ h9 => h9) rfl (by decide +kernel) rfl rfl (Nat.le_of_ble_eq_true rfl) d_D_point_53 (fun H locs hP hD hS => ?_)
      have hP : va_P (dC, dI) classes [cg_D dm 0 (np + 1) ne fi kp iA tA oA uA wA sA eA vA yA lA ll mn xA cA zA pA bA fA gA bw bs ps qA rA aA kA lt wt fx, cg_B iA cZ 20 (va_up ib np b), cg_N tA cI 20 (va_up tm np t)] H := hP
      have hD : va_D A [cg_D dm 0 (np + 1) ne fi kp iA tA oA uA wA sA eA vA yA lA ll mn xA cA zA pA bA fA gA bw bs ps qA rA aA kA lt wt fx, cg_B iA cZ 20 (va_up ib np b), cg_N tA cI 20 (va_up tm np t)] := hD
      refine lv_aload_n hx hb d_D_point_56 rfl (lv_at hl 0 rfl) ?_
      refine va_get (D := (dC, dI)) (ci := 5) (v := .int (nI (np + 1))) (C := R_D) (T := F_D) (N := 34) hx hb hts iD hown hK hP 0 rfl rfl 1 (by decide) (hts _ (List.mem_cons_of_mem _ wk_D_79)) (fun _ h9 => h9) rfl d_D_point_57 ?_
      refine lv_iconst (v := nI 1) hx hb d_D_point_60 (by decide) ?_
      refine nr_isub (by omega) hx hb d_D_point_61 ?_
      exact rw_iret () hx hb hr hlocks hS hP (by rw [Nat.add_sub_cancel]) d_D_point_62
    · exact False.elim (by omega)
set_option maxHeartbeats 4000000 in
set_option maxRecDepth 100000 in
theorem c_D_point_no (l : Launch) (dC : Nat → ClassId) (dI : Nat → Nat → Nat) (cI cL cZ : ClassId) (dm : Nat) (th : Nat) (np : Nat) (ne : Nat) (fi : Int32) (kp : Int64) (iA : Nat) (tA : Nat) (oA : Nat) (uA : Nat) (wA : Nat) (sA : Nat) (eA : Nat) (vA : Nat) (yA : Nat) (lA : Nat) (ll : Nat) (mn : Nat) (xA : Nat) (cA : Nat) (zA : Nat) (pA : Nat) (bA : Nat) (fA : Nat) (gA : Nat) (bw : Nat) (bs : Nat) (ps : Nat) (qA : Nat) (rA : Nat) (aA : Nat) (kA : Nat) (lt : Nat) (wt : Nat) (fx : Int64) (b : Bool) (t : Int32) (hnp : np ≤ 20) (hno : nb_in 10 t = false ∨ np = 20) : Met l y_D_point w_D_point ({ frames := 0, cells := 0, slots := 0, locals := 0 } : Room) (va_Pc [.ref dm, .int (nb_i b), .int t] (rw_B (dC, dI) classes [(cI, .int), (cL, .long), (cZ, .boolean)] [cg_D dm th np ne fi kp iA tA oA uA wA sA eA vA yA lA ll mn xA cA zA pA bA fA gA bw bs ps qA rA aA kA lt wt fx])) (rw_Qi (dC, dI) classes (rw_A [cg_D dm th np ne fi kp iA tA oA uA wA sA eA vA yA lA ll mn xA cA zA pA bA fA gA bw bs ps qA rA aA kA lt wt fx]) (fun r (u : Unit) => r = -1) (fun u => [cg_D dm 0 np ne fi kp iA tA oA uA wA sA eA vA yA lA ll mn xA cA zA pA bA fA gA bw bs ps qA rA aA kA lt wt fx])) 0 0 (rw_A [cg_D dm th np ne fi kp iA tA oA uA wA sA eA vA yA lA ll mn xA cA zA pA bA fA gA bw bs ps qA rA aA kA lt wt fx]) := by
  refine Met.ofW (cc := b_D_point) (maxL := 3) (ret := (some .int)) (by decide) rfl ?_
  intro p e s m args below meth c s₁ B hml hv
  obtain ⟨rfl, hP, hK, hD0⟩ := hv
  have hx := B.exec
  have hb := B.bytes
  have hr := B.returns
  have hts := atoms_spec (ws := w_D_point) B.pre
  have hown : s.vm.findClass R_D = some m.cls := findClass_of_methodNamed B.named
  have hlocks := B.notSynchronized
  have iD : ∀ w ∈ w_D, w ∈ w_D_point := fun w h => List.mem_cons_of_mem _ (i_D w h)
  have hD := rw_own hD0
  generalize hAe : rw_A [cg_D dm th np ne fi kp iA tA oA uA wA sA eA vA yA lA ll mn xA cA zA pA bA fA gA bw bs ps qA rA aA kA lt wt fx] = A at hD ⊢
  have hS : va_S A s.heap s.heap [] := va_S.rf
  have hP : va_P (dC, dI) classes [cg_D dm th np ne fi kp iA tA oA uA wA sA eA vA yA lA ll mn xA cA zA pA bA fA gA bw bs ps qA rA aA kA lt wt fx] s.heap := hP
  have hl := lv_entry ([.ref dm, .int (nb_i b), .int t]) (n := 3) (Nat.le_of_ble_eq_true rfl)
  rw [lg_entry_eq]
  generalize (lg_sl ([.ref dm, .int (nb_i b), .int t]) ++ List.replicate (3 - (lg_sl ([.ref dm, .int (nb_i b), .int t])).length) Slot.unset).toArray = ls at hl ⊢
  have hl : lv_has ls 3 [(0, .ref dm), (1, .int (nb_i b)), (2, .int t)] := hl
  refine lv_aload_n hx hb d_D_point_0 rfl (lv_at hl 0 rfl) ?_
  refine lv_iconst (v := nI 0) hx hb d_D_point_1 (by decide) ?_
  refine va_put (D := (dC, dI)) (ci := 5) (v := .int (nI 0)) (ty := .int) (C := R_D) (T := F_D) (N := 34) hx hb hts iD t_D t_D_ok n_D hown hK hP hD hS 0 rfl rfl 0 (by decide) (hts _ (List.mem_cons_of_mem _ wk_D_75)) (fun _ h9 => h9) rfl (by decide +kernel) rfl rfl (Nat.le_of_ble_eq_true rfl) d_D_point_2 (fun H locs hP hD hS => ?_)
  have hP : va_P (dC, dI) classes [cg_D dm 0 np ne fi kp iA tA oA uA wA sA eA vA yA lA ll mn xA cA zA pA bA fA gA bw bs ps qA rA aA kA lt wt fx] H := hP
  have hD : va_D A [cg_D dm 0 np ne fi kp iA tA oA uA wA sA eA vA yA lA ll mn xA cA zA pA bA fA gA bw bs ps qA rA aA kA lt wt fx] := hD
  refine lv_iload_n hx hb d_D_point_5 rfl (lv_at hl 2 rfl) ?_
  refine lv_if_lt (tgt := 24) hx hb d_D_point_6 (by decide) (fun c_6 => ?_) (fun c_6 => ?_)
  · refine lv_iconst (v := -1) hx hb d_D_point_24 (by decide) ?_
    exact rw_iret () hx hb hr hlocks hS hP rfl d_D_point_25
  · refine lv_iload_n hx hb d_D_point_9 rfl (lv_at hl 2 rfl) ?_
    refine lv_bipush (v := nI 9) hx hb d_D_point_10 (by decide) ?_
    refine lv_icmp_gt (tgt := 24) hx hb d_D_point_12 (by decide) (fun c_12 => ?_) (fun c_12 => ?_)
    · refine lv_iconst (v := -1) hx hb d_D_point_24 (by decide) ?_
      exact rw_iret () hx hb hr hlocks hS hP rfl d_D_point_25
    · refine lv_aload_n hx hb d_D_point_15 rfl (lv_at hl 0 rfl) ?_
      refine va_get (D := (dC, dI)) (ci := 5) (v := .int (nI np)) (C := R_D) (T := F_D) (N := 34) hx hb hts iD hown hK hP 0 rfl rfl 1 (by decide) (hts _ (List.mem_cons_of_mem _ wk_D_79)) (fun _ h9 => h9) rfl d_D_point_16 ?_
      refine lv_bipush (v := nI 20) hx hb d_D_point_19 (by decide) ?_
      refine nr_icmp_ne (by omega) (by omega) (tgt := 26) hx hb d_D_point_21 (by decide) (fun c_21 => ?_) (fun c_21 => ?_)
      · exact False.elim (by rcases hno with q | q; (rw [nb_inI_t c_6 (fun z => c_12 (Int32.lt_of_lt_of_le (by decide) z))] at q; cases q); exact c_21 q)
      · refine lv_iconst (v := -1) hx hb d_D_point_24 (by decide) ?_
        exact rw_iret () hx hb hr hlocks hS hP rfl d_D_point_25
set_option maxHeartbeats 4000000 in
set_option maxRecDepth 100000 in
theorem c_D_edge_ok (l : Launch) (dC : Nat → ClassId) (dI : Nat → Nat → Nat) (cI cL cZ : ClassId) (dm : Nat) (th : Nat) (np : Nat) (ne : Nat) (fi : Int32) (kp : Int64) (iA : Nat) (tA : Nat) (oA : Nat) (uA : Nat) (wA : Nat) (sA : Nat) (eA : Nat) (vA : Nat) (yA : Nat) (lA : Nat) (ll : Nat) (mn : Nat) (xA : Nat) (cA : Nat) (zA : Nat) (pA : Nat) (bA : Nat) (fA : Nat) (gA : Nat) (bw : Nat) (bs : Nat) (ps : Nat) (qA : Nat) (rA : Nat) (aA : Nat) (kA : Nat) (lt : Nat) (wt : Nat) (fx : Int64) (ib : Nat → Bool) (oe ot wg sg : Nat → Nat) (ie : Nat → Bool) (a b w z : Nat) (hnp : np ≤ 20) (hj : ng_cb np ib (nI a) (nI b) (nI w) (nI z) = true) (hne : ne < 60) : Met l y_D_edge w_D_edge ({ frames := 2, cells := 0, slots := 0, locals := 45 } : Room) (va_Pc [.ref dm, .int (nI a), .int (nI b), .int (nI w), .int (nI z)] (rw_B (dC, dI) classes [(cI, .int), (cL, .long), (cZ, .boolean)] [cg_D dm th np ne fi kp iA tA oA uA wA sA eA vA yA lA ll mn xA cA zA pA bA fA gA bw bs ps qA rA aA kA lt wt fx, cg_B iA cZ 20 ib, cg_N oA cI 60 oe, cg_N uA cI 60 ot, cg_N wA cI 60 wg, cg_N sA cI 60 sg, cg_B eA cZ 60 ie])) (rw_Qi (dC, dI) classes (rw_A [cg_D dm th np ne fi kp iA tA oA uA wA sA eA vA yA lA ll mn xA cA zA pA bA fA gA bw bs ps qA rA aA kA lt wt fx, cg_B iA cZ 20 ib, cg_N oA cI 60 oe, cg_N uA cI 60 ot, cg_N wA cI 60 wg, cg_N sA cI 60 sg, cg_B eA cZ 60 ie]) (fun r (u : Unit) => r = nI ne) (fun u => [cg_D dm 0 np (ne + 1) fi kp iA tA oA uA wA sA eA vA yA lA ll mn xA cA zA pA bA fA gA bw bs ps qA rA aA kA lt wt fx, cg_B iA cZ 20 ib, cg_N oA cI 60 (va_up oe ne a), cg_N uA cI 60 (va_up ot ne b), cg_N wA cI 60 (va_up wg ne w), cg_N sA cI 60 (va_up sg ne z), cg_B eA cZ 60 (va_up ie ne false)])) 0 0 (rw_A [cg_D dm th np ne fi kp iA tA oA uA wA sA eA vA yA lA ll mn xA cA zA pA bA fA gA bw bs ps qA rA aA kA lt wt fx, cg_B iA cZ 20 ib, cg_N oA cI 60 oe, cg_N uA cI 60 ot, cg_N wA cI 60 wg, cg_N sA cI 60 sg, cg_B eA cZ 60 ie]) := by
  refine Met.ofW (cc := b_D_edge) (maxL := 5) (ret := (some .int)) (by decide) rfl ?_
  intro p e s m args below meth c s₁ B hml hv
  obtain ⟨rfl, hP, hK, hD0⟩ := hv
  have hx := B.exec
  have hb := B.bytes
  have hr := B.returns
  have hts := atoms_spec (ws := w_D_edge) B.pre
  have hown : s.vm.findClass R_D = some m.cls := findClass_of_methodNamed B.named
  have hlocks := B.notSynchronized
  have iD : ∀ w ∈ w_D, w ∈ w_D_edge := fun w h => List.mem_cons_of_mem _ (i_D w h)
  have hD := rw_own hD0
  generalize hAe : rw_A [cg_D dm th np ne fi kp iA tA oA uA wA sA eA vA yA lA ll mn xA cA zA pA bA fA gA bw bs ps qA rA aA kA lt wt fx, cg_B iA cZ 20 ib, cg_N oA cI 60 oe, cg_N uA cI 60 ot, cg_N wA cI 60 wg, cg_N sA cI 60 sg, cg_B eA cZ 60 ie] = A at hD ⊢
  have hS : va_S A s.heap s.heap [] := va_S.rf
  have hP : va_P (dC, dI) classes [cg_D dm th np ne fi kp iA tA oA uA wA sA eA vA yA lA ll mn xA cA zA pA bA fA gA bw bs ps qA rA aA kA lt wt fx, cg_B iA cZ 20 ib, cg_N oA cI 60 oe, cg_N uA cI 60 ot, cg_N wA cI 60 wg, cg_N sA cI 60 sg, cg_B eA cZ 60 ie] s.heap := hP
  have hl := lv_entry ([.ref dm, .int (nI a), .int (nI b), .int (nI w), .int (nI z)]) (n := 5) (Nat.le_of_ble_eq_true rfl)
  rw [lg_entry_eq]
  generalize (lg_sl ([.ref dm, .int (nI a), .int (nI b), .int (nI w), .int (nI z)]) ++ List.replicate (5 - (lg_sl ([.ref dm, .int (nI a), .int (nI b), .int (nI w), .int (nI z)])).length) Slot.unset).toArray = ls at hl ⊢
  have hl : lv_has ls 5 [(0, .ref dm), (1, .int (nI a)), (2, .int (nI b)), (3, .int (nI w)), (4, .int (nI z))] := hl
  refine lv_aload_n hx hb d_D_edge_0 rfl (lv_at hl 0 rfl) ?_
  refine lv_iconst (v := nI 0) hx hb d_D_edge_1 (by decide) ?_
  refine va_put (D := (dC, dI)) (ci := 5) (v := .int (nI 0)) (ty := .int) (C := R_D) (T := F_D) (N := 34) hx hb hts iD t_D t_D_ok n_D hown hK hP hD hS 0 rfl rfl 0 (by decide) (hts _ (List.mem_cons_of_mem _ wk_D_75)) (fun _ h9 => h9) rfl (by decide +kernel) rfl rfl (Nat.le_of_ble_eq_true rfl) d_D_edge_2 (fun H locs hP hD hS => ?_)
  have hP : va_P (dC, dI) classes [cg_D dm 0 np ne fi kp iA tA oA uA wA sA eA vA yA lA ll mn xA cA zA pA bA fA gA bw bs ps qA rA aA kA lt wt fx, cg_B iA cZ 20 ib, cg_N oA cI 60 oe, cg_N uA cI 60 ot, cg_N wA cI 60 wg, cg_N sA cI 60 sg, cg_B eA cZ 60 ie] H := hP
  have hD : va_D A [cg_D dm 0 np ne fi kp iA tA oA uA wA sA eA vA yA lA ll mn xA cA zA pA bA fA gA bw bs ps qA rA aA kA lt wt fx, cg_B iA cZ 20 ib, cg_N oA cI 60 oe, cg_N uA cI 60 ot, cg_N wA cI 60 wg, cg_N sA cI 60 sg, cg_B eA cZ 60 ie] := hD
  refine lv_aload_n hx hb d_D_edge_5 rfl (lv_at hl 0 rfl) ?_
  refine lv_iload_n hx hb d_D_edge_6 rfl (lv_at hl 1 rfl) ?_
  refine lv_iload_n hx hb d_D_edge_7 rfl (lv_at hl 2 rfl) ?_
  refine lv_iload_n hx hb d_D_edge_8 rfl (lv_at hl 3 rfl) ?_
  refine lv_iload hx hb d_D_edge_9 (lv_at hl 4 rfl) ?_
  refine ro_Vi (As := [.int (nI a), .int (nI b), .int (nI w), .int (nI z)]) (rest := []) ⟨hx, hb, hml, hown, hts⟩ (c_D_canBe l dC dI cI cL cZ dm 0 np ne fi kp iA tA oA uA wA sA eA vA yA lA ll mn xA cA zA pA bA fA gA bw bs ps qA rA aA kA lt wt fx ib (nI a) (nI b) (nI w) (nI z) (by omega)) (cwV 4 hts (wg_V wk_D_90 wm_D_canBe we_D_canBe wi_D wc_D_canBe) rfl rfl rfl (by decide +kernel) ⟨Nat.le_of_ble_eq_true rfl, Nat.le_of_ble_eq_true rfl⟩) hK (hP.sub [0, 1] rfl) (q0 := 0) rfl rfl rfl rfl hl.1 rfl (lv_room (Nat.le_of_ble_eq_true rfl)) d_D_edge_11 ⟨Nat.zero_le _, Nat.zero_le _⟩ hS hP (fun H locs hP hS => ?_)
  refine nr_ifeqB (tgt := 26) hx hb d_D_edge_14 (by decide) (fun c_14 => ?_) (fun c_14 => ?_)
  · exact False.elim (by first | (rw [hj] at c_14; cases c_14; done) | omega)
  · refine lv_aload_n hx hb d_D_edge_17 rfl (lv_at hl 0 rfl) ?_
    refine va_get (D := (dC, dI)) (ci := 5) (v := .int (nI ne)) (C := R_D) (T := F_D) (N := 34) hx hb hts iD hown hK hP 0 rfl rfl 2 (by decide) (hts _ (List.mem_cons_of_mem _ wk_D_87)) (fun _ h9 => h9) rfl d_D_edge_18 ?_
    refine lv_bipush (v := nI 60) hx hb d_D_edge_21 (by decide) ?_
    refine nr_icmp_ne (by omega) (by omega) (tgt := 28) hx hb d_D_edge_23 (by decide) (fun c_23 => ?_) (fun c_23 => ?_)
    · refine lv_aload_n hx hb d_D_edge_28 rfl (lv_at hl 0 rfl) ?_
      refine lv_iload_n hx hb d_D_edge_29 rfl (lv_at hl 1 rfl) ?_
      refine lv_iload_n hx hb d_D_edge_30 rfl (lv_at hl 2 rfl) ?_
      refine lv_iload_n hx hb d_D_edge_31 rfl (lv_at hl 3 rfl) ?_
      refine lv_iload hx hb d_D_edge_32 (lv_at hl 4 rfl) ?_
      refine rw_Vv (wr := [cg_B iA cZ 20 ib]) [0, 2, 3, 4, 5, 6] [1] rfl rfl (by decide) (As := [.int (nI a), .int (nI b), .int (nI w), .int (nI z)]) (rest := []) ⟨hx, hb, hml, hown, hts⟩ (c_D_add l dC dI cI cL cZ dm 0 np ne fi kp iA tA oA uA wA sA eA vA yA lA ll mn xA cA zA pA bA fA gA bw bs ps qA rA aA kA lt wt fx oe ot wg sg ie a b w z (by omega)) (cwV 4 hts (wg_V wk_D_94 wm_D_add we_D_add wi_D wc_D_add) rfl rfl rfl (by decide +kernel) ⟨Nat.le_of_ble_eq_true rfl, Nat.le_of_ble_eq_true rfl⟩) hK (hP.sub [0, 2, 3, 4, 5, 6] rfl) ((hD.sub [0, 2, 3, 4, 5, 6] (by decide) rfl).weaken (fun _ _ _ _ => trivial)) (q0 := 0) rfl rfl rfl rfl hl.1 rfl (lv_room (Nat.le_of_ble_eq_true rfl)) d_D_edge_34 ⟨Nat.zero_le _, Nat.zero_le _⟩ hS hP hD (fun u H locs hw_2 hP hS => ?_)
      have hP : va_P (dC, dI) classes [cg_D dm 0 np (ne + 1) fi kp iA tA oA uA wA sA eA vA yA lA ll mn xA cA zA pA bA fA gA bw bs ps qA rA aA kA lt wt fx, cg_B iA cZ 20 ib, cg_N oA cI 60 (va_up oe ne a), cg_N uA cI 60 (va_up ot ne b), cg_N wA cI 60 (va_up wg ne w), cg_N sA cI 60 (va_up sg ne z), cg_B eA cZ 60 (va_up ie ne false)] H := hP.sub [1, 0, 2, 3, 4, 5, 6] rfl
      have hD : va_D A [cg_D dm 0 np (ne + 1) fi kp iA tA oA uA wA sA eA vA yA lA ll mn xA cA zA pA bA fA gA bw bs ps qA rA aA kA lt wt fx, cg_B iA cZ 20 ib, cg_N oA cI 60 (va_up oe ne a), cg_N uA cI 60 (va_up ot ne b), cg_N wA cI 60 (va_up wg ne w), cg_N sA cI 60 (va_up sg ne z), cg_B eA cZ 60 (va_up ie ne false)] := rw_re hD rfl
      refine lv_aload_n hx hb d_D_edge_37 rfl (lv_at hl 0 rfl) ?_
      refine va_get (D := (dC, dI)) (ci := 5) (v := .int (nI (ne + 1))) (C := R_D) (T := F_D) (N := 34) hx hb hts iD hown hK hP 0 rfl rfl 2 (by decide) (hts _ (List.mem_cons_of_mem _ wk_D_87)) (fun _ h9 => h9) rfl d_D_edge_38 ?_
      refine lv_iconst (v := nI 1) hx hb d_D_edge_41 (by decide) ?_
      refine nr_isub (by omega) hx hb d_D_edge_42 ?_
      exact rw_iret () hx hb hr hlocks hS hP (by rw [Nat.add_sub_cancel]) d_D_edge_43
    · exact False.elim (by first | (rw [hj] at c_14; cases c_14; done) | omega)
set_option maxHeartbeats 4000000 in
set_option maxRecDepth 100000 in
theorem c_D_edge_no (l : Launch) (dC : Nat → ClassId) (dI : Nat → Nat → Nat) (cI cL cZ : ClassId) (dm : Nat) (th : Nat) (np : Nat) (ne : Nat) (fi : Int32) (kp : Int64) (iA : Nat) (tA : Nat) (oA : Nat) (uA : Nat) (wA : Nat) (sA : Nat) (eA : Nat) (vA : Nat) (yA : Nat) (lA : Nat) (ll : Nat) (mn : Nat) (xA : Nat) (cA : Nat) (zA : Nat) (pA : Nat) (bA : Nat) (fA : Nat) (gA : Nat) (bw : Nat) (bs : Nat) (ps : Nat) (qA : Nat) (rA : Nat) (aA : Nat) (kA : Nat) (lt : Nat) (wt : Nat) (fx : Int64) (ib : Nat → Bool) (a b w z : Int32) (hnp : np ≤ 20) (hne : ne ≤ 60) (hno : ¬ (ng_cb np ib a b w z = true ∧ ne < 60)) : Met l y_D_edge w_D_edge ({ frames := 2, cells := 0, slots := 0, locals := 45 } : Room) (va_Pc [.ref dm, .int a, .int b, .int w, .int z] (rw_B (dC, dI) classes [(cI, .int), (cL, .long), (cZ, .boolean)] [cg_D dm th np ne fi kp iA tA oA uA wA sA eA vA yA lA ll mn xA cA zA pA bA fA gA bw bs ps qA rA aA kA lt wt fx, cg_B iA cZ 20 ib])) (rw_Qi (dC, dI) classes (rw_A [cg_D dm th np ne fi kp iA tA oA uA wA sA eA vA yA lA ll mn xA cA zA pA bA fA gA bw bs ps qA rA aA kA lt wt fx, cg_B iA cZ 20 ib]) (fun r (u : Unit) => r = -1) (fun u => [cg_D dm 0 np ne fi kp iA tA oA uA wA sA eA vA yA lA ll mn xA cA zA pA bA fA gA bw bs ps qA rA aA kA lt wt fx, cg_B iA cZ 20 ib])) 0 0 (rw_A [cg_D dm th np ne fi kp iA tA oA uA wA sA eA vA yA lA ll mn xA cA zA pA bA fA gA bw bs ps qA rA aA kA lt wt fx, cg_B iA cZ 20 ib]) := by
  refine Met.ofW (cc := b_D_edge) (maxL := 5) (ret := (some .int)) (by decide) rfl ?_
  intro p e s m args below meth c s₁ B hml hv
  obtain ⟨rfl, hP, hK, hD0⟩ := hv
  have hx := B.exec
  have hb := B.bytes
  have hr := B.returns
  have hts := atoms_spec (ws := w_D_edge) B.pre
  have hown : s.vm.findClass R_D = some m.cls := findClass_of_methodNamed B.named
  have hlocks := B.notSynchronized
  have iD : ∀ w ∈ w_D, w ∈ w_D_edge := fun w h => List.mem_cons_of_mem _ (i_D w h)
  have hD := rw_own hD0
  generalize hAe : rw_A [cg_D dm th np ne fi kp iA tA oA uA wA sA eA vA yA lA ll mn xA cA zA pA bA fA gA bw bs ps qA rA aA kA lt wt fx, cg_B iA cZ 20 ib] = A at hD ⊢
  have hS : va_S A s.heap s.heap [] := va_S.rf
  have hP : va_P (dC, dI) classes [cg_D dm th np ne fi kp iA tA oA uA wA sA eA vA yA lA ll mn xA cA zA pA bA fA gA bw bs ps qA rA aA kA lt wt fx, cg_B iA cZ 20 ib] s.heap := hP
  have hl := lv_entry ([.ref dm, .int a, .int b, .int w, .int z]) (n := 5) (Nat.le_of_ble_eq_true rfl)
  rw [lg_entry_eq]
  generalize (lg_sl ([.ref dm, .int a, .int b, .int w, .int z]) ++ List.replicate (5 - (lg_sl ([.ref dm, .int a, .int b, .int w, .int z])).length) Slot.unset).toArray = ls at hl ⊢
  have hl : lv_has ls 5 [(0, .ref dm), (1, .int a), (2, .int b), (3, .int w), (4, .int z)] := hl
  refine lv_aload_n hx hb d_D_edge_0 rfl (lv_at hl 0 rfl) ?_
  refine lv_iconst (v := nI 0) hx hb d_D_edge_1 (by decide) ?_
  refine va_put (D := (dC, dI)) (ci := 5) (v := .int (nI 0)) (ty := .int) (C := R_D) (T := F_D) (N := 34) hx hb hts iD t_D t_D_ok n_D hown hK hP hD hS 0 rfl rfl 0 (by decide) (hts _ (List.mem_cons_of_mem _ wk_D_75)) (fun _ h9 => h9) rfl (by decide +kernel) rfl rfl (Nat.le_of_ble_eq_true rfl) d_D_edge_2 (fun H locs hP hD hS => ?_)
  have hP : va_P (dC, dI) classes [cg_D dm 0 np ne fi kp iA tA oA uA wA sA eA vA yA lA ll mn xA cA zA pA bA fA gA bw bs ps qA rA aA kA lt wt fx, cg_B iA cZ 20 ib] H := hP
  have hD : va_D A [cg_D dm 0 np ne fi kp iA tA oA uA wA sA eA vA yA lA ll mn xA cA zA pA bA fA gA bw bs ps qA rA aA kA lt wt fx, cg_B iA cZ 20 ib] := hD
  refine lv_aload_n hx hb d_D_edge_5 rfl (lv_at hl 0 rfl) ?_
  refine lv_iload_n hx hb d_D_edge_6 rfl (lv_at hl 1 rfl) ?_
  refine lv_iload_n hx hb d_D_edge_7 rfl (lv_at hl 2 rfl) ?_
  refine lv_iload_n hx hb d_D_edge_8 rfl (lv_at hl 3 rfl) ?_
  refine lv_iload hx hb d_D_edge_9 (lv_at hl 4 rfl) ?_
  refine ro_Vi (As := [.int a, .int b, .int w, .int z]) (rest := []) ⟨hx, hb, hml, hown, hts⟩ (c_D_canBe l dC dI cI cL cZ dm 0 np ne fi kp iA tA oA uA wA sA eA vA yA lA ll mn xA cA zA pA bA fA gA bw bs ps qA rA aA kA lt wt fx ib a b w z (by omega)) (cwV 4 hts (wg_V wk_D_90 wm_D_canBe we_D_canBe wi_D wc_D_canBe) rfl rfl rfl (by decide +kernel) ⟨Nat.le_of_ble_eq_true rfl, Nat.le_of_ble_eq_true rfl⟩) hK (hP.sub [0, 1] rfl) (q0 := 0) rfl rfl rfl rfl hl.1 rfl (lv_room (Nat.le_of_ble_eq_true rfl)) d_D_edge_11 ⟨Nat.zero_le _, Nat.zero_le _⟩ hS hP (fun H locs hP hS => ?_)
  refine nr_ifeqB (tgt := 26) hx hb d_D_edge_14 (by decide) (fun c_14 => ?_) (fun c_14 => ?_)
  · refine lv_iconst (v := -1) hx hb d_D_edge_26 (by decide) ?_
    exact rw_iret () hx hb hr hlocks hS hP rfl d_D_edge_27
  · refine lv_aload_n hx hb d_D_edge_17 rfl (lv_at hl 0 rfl) ?_
    refine va_get (D := (dC, dI)) (ci := 5) (v := .int (nI ne)) (C := R_D) (T := F_D) (N := 34) hx hb hts iD hown hK hP 0 rfl rfl 2 (by decide) (hts _ (List.mem_cons_of_mem _ wk_D_87)) (fun _ h9 => h9) rfl d_D_edge_18 ?_
    refine lv_bipush (v := nI 60) hx hb d_D_edge_21 (by decide) ?_
    refine nr_icmp_ne (by omega) (by omega) (tgt := 28) hx hb d_D_edge_23 (by decide) (fun c_23 => ?_) (fun c_23 => ?_)
    · exact False.elim (hno ⟨c_14, by omega⟩)
    · refine lv_iconst (v := -1) hx hb d_D_edge_26 (by decide) ?_
      exact rw_iret () hx hb hr hlocks hS hP rfl d_D_edge_27
set_option maxHeartbeats 4000000 in
set_option maxRecDepth 100000 in
theorem c_D_fire_ok (l : Launch) (dC : Nat → ClassId) (dI : Nat → Nat → Nat) (cI cL cZ : ClassId) (dm : Nat) (th : Nat) (np : Nat) (ne : Nat) (fi : Int32) (kp : Int64) (iA : Nat) (tA : Nat) (oA : Nat) (uA : Nat) (wA : Nat) (sA : Nat) (eA : Nat) (vA : Nat) (yA : Nat) (lA : Nat) (ll : Nat) (mn : Nat) (xA : Nat) (cA : Nat) (zA : Nat) (pA : Nat) (bA : Nat) (fA : Nat) (gA : Nat) (bw : Nat) (bs : Nat) (ps : Nat) (qA : Nat) (rA : Nat) (aA : Nat) (kA : Nat) (lt : Nat) (wt : Nat) (fx : Int64) (ib : Nat → Bool) (k : Nat) (b : Bool) (hnp : np ≤ 20) (hk : k < np) (hin : ib k = false) (hbb : nb_t fi k ≠ b) (hcn : b = true → dm_ct (fun i => nb_t fi i) 20 ≠ 10) : Met l y_D_fire w_D_fire ({ frames := 1, cells := 0, slots := 0, locals := 22 } : Room) (va_Pc [.ref dm, .int (nI k), .int (nb_i b)] (rw_B (dC, dI) classes [(cI, .int), (cL, .long), (cZ, .boolean)] [cg_D dm th np ne fi kp iA tA oA uA wA sA eA vA yA lA ll mn xA cA zA pA bA fA gA bw bs ps qA rA aA kA lt wt fx, cg_B iA cZ 20 ib])) (rw_Qi (dC, dI) classes (rw_A [cg_D dm th np ne fi kp iA tA oA uA wA sA eA vA yA lA ll mn xA cA zA pA bA fA gA bw bs ps qA rA aA kA lt wt fx, cg_B iA cZ 20 ib]) (fun r (u : Unit) => r = nb_i true) (fun u => [cg_D dm 0 np ne (fi ^^^ nb_o k) kp iA tA oA uA wA sA eA vA yA lA ll mn xA cA zA pA bA fA gA bw bs ps qA rA aA kA lt wt fx, cg_B iA cZ 20 ib])) 0 0 (rw_A [cg_D dm th np ne fi kp iA tA oA uA wA sA eA vA yA lA ll mn xA cA zA pA bA fA gA bw bs ps qA rA aA kA lt wt fx, cg_B iA cZ 20 ib]) := by
  refine Met.ofW (cc := b_D_fire) (maxL := 3) (ret := (some .boolean)) (by decide) rfl ?_
  intro p e s m args below meth c s₁ B hml hv
  obtain ⟨rfl, hP, hK, hD0⟩ := hv
  have hx := B.exec
  have hb := B.bytes
  have hr := B.returns
  have hts := atoms_spec (ws := w_D_fire) B.pre
  have hown : s.vm.findClass R_D = some m.cls := findClass_of_methodNamed B.named
  have hlocks := B.notSynchronized
  have iD : ∀ w ∈ w_D, w ∈ w_D_fire := fun w h => List.mem_cons_of_mem _ (i_D w h)
  have hD := rw_own hD0
  generalize hAe : rw_A [cg_D dm th np ne fi kp iA tA oA uA wA sA eA vA yA lA ll mn xA cA zA pA bA fA gA bw bs ps qA rA aA kA lt wt fx, cg_B iA cZ 20 ib] = A at hD ⊢
  have hS : va_S A s.heap s.heap [] := va_S.rf
  have hP : va_P (dC, dI) classes [cg_D dm th np ne fi kp iA tA oA uA wA sA eA vA yA lA ll mn xA cA zA pA bA fA gA bw bs ps qA rA aA kA lt wt fx, cg_B iA cZ 20 ib] s.heap := hP
  have hl := lv_entry ([.ref dm, .int (nI k), .int (nb_i b)]) (n := 3) (Nat.le_of_ble_eq_true rfl)
  rw [lg_entry_eq]
  generalize (lg_sl ([.ref dm, .int (nI k), .int (nb_i b)]) ++ List.replicate (3 - (lg_sl ([.ref dm, .int (nI k), .int (nb_i b)])).length) Slot.unset).toArray = ls at hl ⊢
  have hl : lv_has ls 3 [(0, .ref dm), (1, .int (nI k)), (2, .int (nb_i b))] := hl
  have hpc := dm_ct_le (P := fun i => nb_t fi i) (n := 20)
  refine lv_aload_n hx hb d_D_fire_0 rfl (lv_at hl 0 rfl) ?_
  refine lv_iconst (v := nI 0) hx hb d_D_fire_1 (by decide) ?_
  refine va_put (D := (dC, dI)) (ci := 5) (v := .int (nI 0)) (ty := .int) (C := R_D) (T := F_D) (N := 34) hx hb hts iD t_D t_D_ok n_D hown hK hP hD hS 0 rfl rfl 0 (by decide) (hts _ (List.mem_cons_of_mem _ wk_D_75)) (fun _ h9 => h9) rfl (by decide +kernel) rfl rfl (Nat.le_of_ble_eq_true rfl) d_D_fire_2 (fun H locs hP hD hS => ?_)
  have hP : va_P (dC, dI) classes [cg_D dm 0 np ne fi kp iA tA oA uA wA sA eA vA yA lA ll mn xA cA zA pA bA fA gA bw bs ps qA rA aA kA lt wt fx, cg_B iA cZ 20 ib] H := hP
  have hD : va_D A [cg_D dm 0 np ne fi kp iA tA oA uA wA sA eA vA yA lA ll mn xA cA zA pA bA fA gA bw bs ps qA rA aA kA lt wt fx, cg_B iA cZ 20 ib] := hD
  refine lv_aload_n hx hb d_D_fire_5 rfl (lv_at hl 0 rfl) ?_
  refine lv_iload_n hx hb d_D_fire_6 rfl (lv_at hl 1 rfl) ?_
  refine ro_Vi (As := [.int (nI k)]) (rest := []) ⟨hx, hb, hml, hown, hts⟩ (c_D_isPoint l dC dI cI cL cZ dm 0 np ne fi kp iA tA oA uA wA sA eA vA yA lA ll mn xA cA zA pA bA fA gA bw bs ps qA rA aA kA lt wt fx (nI k) ) (cwV 1 hts (wg_V wk_D_82 wm_D_isPoint we_D_isPoint wi_D wc_D_isPoint) rfl rfl rfl (by decide +kernel) ⟨Nat.le_of_ble_eq_true rfl, Nat.le_of_ble_eq_true rfl⟩) hK (hP.sub [0] rfl) (q0 := 0) rfl rfl rfl rfl hl.1 rfl (lv_room (Nat.le_of_ble_eq_true rfl)) d_D_fire_7 ⟨Nat.zero_le _, Nat.zero_le _⟩ hS hP (fun H locs hP hS => ?_)
  refine nr_ifeqB (tgt := 58) hx hb d_D_fire_10 (by decide) (fun c_10 => ?_) (fun c_10 => ?_)
  · exact False.elim (by first | (rw [nb_inI_nI (by omega) (by omega), decide_eq_true hk] at c_10; cases c_10; done) | (rw [hin] at c_19; cases c_19; done) | exact hbb (c_39.trans c_31.symm) | exact hcn c_43 c_55)
  · refine lv_aload_n hx hb d_D_fire_13 rfl (lv_at hl 0 rfl) ?_
    refine va_get (D := (dC, dI)) (ci := 5) (v := .ref iA) (C := R_D) (T := F_D) (N := 34) hx hb hts iD hown hK hP 0 rfl rfl 5 (by decide) (hts _ (List.mem_cons_of_mem _ wk_D_7)) (fun _ h9 => h9) rfl d_D_fire_14 ?_
    refine lv_iload_n hx hb d_D_fire_17 rfl (lv_at hl 1 rfl) ?_
    refine nr_zald hx hb hK hP 1 2 rfl rfl (by omega) (by decide) d_D_fire_18 ?_
    refine nr_ifneB (tgt := 58) hx hb d_D_fire_19 (by decide) (fun c_19 => ?_) (fun c_19 => ?_)
    · exact False.elim (by first | (rw [nb_inI_nI (by omega) (by omega), decide_eq_true hk] at c_10; cases c_10; done) | (rw [hin] at c_19; cases c_19; done) | exact hbb (c_39.trans c_31.symm) | exact hcn c_43 c_55)
    · refine lv_aload_n hx hb d_D_fire_22 rfl (lv_at hl 0 rfl) ?_
      refine va_get (D := (dC, dI)) (ci := 5) (v := .int fi) (C := R_D) (T := F_D) (N := 34) hx hb hts iD hown hK hP 0 rfl rfl 3 (by decide) (hts _ (List.mem_cons_of_mem _ wk_D_110)) (fun _ h9 => h9) rfl d_D_fire_23 ?_
      refine lv_iload_n hx hb d_D_fire_26 rfl (lv_at hl 1 rfl) ?_
      refine lv_ishr hx hb d_D_fire_27 ?_
      refine lv_iconst (v := nI 1) hx hb d_D_fire_28 (by decide) ?_
      refine lv_iand hx hb d_D_fire_29 ?_
      refine nr_as (v := nb_i (nb_t fi k)) (nb_bt_and1 (by omega)) ?_
      refine lv_iload_n hx hb d_D_fire_30 rfl (lv_at hl 2 rfl) ?_
      refine nr_ifeqB (tgt := 38) hx hb d_D_fire_31 (by decide) (fun c_31 => ?_) (fun c_31 => ?_)
      · refine lv_iconst (v := nI 0) hx hb d_D_fire_38 (by decide) ?_
        refine nr_icmpeqB0 (tgt := 58) hx hb d_D_fire_39 (by decide) (fun c_39 => ?_) (fun c_39 => ?_)
        · exact False.elim (by first | (rw [nb_inI_nI (by omega) (by omega), decide_eq_true hk] at c_10; cases c_10; done) | (rw [hin] at c_19; cases c_19; done) | exact hbb (c_39.trans c_31.symm) | exact hcn c_43 c_55)
        · refine lv_iload_n hx hb d_D_fire_42 rfl (lv_at hl 2 rfl) ?_
          refine nr_ifeqB (tgt := 60) hx hb d_D_fire_43 (by decide) (fun c_43 => ?_) (fun c_43 => ?_)
          · refine lv_aload_n hx hb d_D_fire_60 rfl (lv_at hl 0 rfl) ?_
            refine lv_dup hx hb d_D_fire_61 rfl ?_
            refine va_get (D := (dC, dI)) (ci := 5) (v := .int fi) (C := R_D) (T := F_D) (N := 34) hx hb hts iD hown hK hP 0 rfl rfl 3 (by decide) (hts _ (List.mem_cons_of_mem _ wk_D_110)) (fun _ h9 => h9) rfl d_D_fire_62 ?_
            refine lv_iconst (v := nI 1) hx hb d_D_fire_65 (by decide) ?_
            refine lv_iload_n hx hb d_D_fire_66 rfl (lv_at hl 1 rfl) ?_
            refine lv_ishl hx hb d_D_fire_67 ?_
            refine nr_as (v := nb_o k) rfl ?_
            refine lv_ixor hx hb d_D_fire_68 ?_
            refine va_put (D := (dC, dI)) (ci := 5) (v := .int (fi ^^^ (nb_o k))) (ty := .int) (C := R_D) (T := F_D) (N := 34) hx hb hts iD t_D t_D_ok n_D hown hK hP hD hS 0 rfl rfl 3 (by decide) (hts _ (List.mem_cons_of_mem _ wk_D_110)) (fun _ h9 => h9) rfl (by decide +kernel) rfl rfl (Nat.le_of_ble_eq_true rfl) d_D_fire_69 (fun H locs hP hD hS => ?_)
            have hP : va_P (dC, dI) classes [cg_D dm 0 np ne (fi ^^^ (nb_o k)) kp iA tA oA uA wA sA eA vA yA lA ll mn xA cA zA pA bA fA gA bw bs ps qA rA aA kA lt wt fx, cg_B iA cZ 20 ib] H := hP
            have hD : va_D A [cg_D dm 0 np ne (fi ^^^ (nb_o k)) kp iA tA oA uA wA sA eA vA yA lA ll mn xA cA zA pA bA fA gA bw bs ps qA rA aA kA lt wt fx, cg_B iA cZ 20 ib] := hD
            refine lv_iconst (v := nI 1) hx hb d_D_fire_72 (by decide) ?_
            exact rw_zret () (b := true) hx hb hr hlocks hS hP rfl rfl d_D_fire_73
          · refine lv_aload_n hx hb d_D_fire_46 rfl (lv_at hl 0 rfl) ?_
            refine va_get (D := (dC, dI)) (ci := 5) (v := .int fi) (C := R_D) (T := F_D) (N := 34) hx hb hts iD hown hK hP 0 rfl rfl 3 (by decide) (hts _ (List.mem_cons_of_mem _ wk_D_110)) (fun _ h9 => h9) rfl d_D_fire_47 ?_
            refine ro_Si (As := [.int fi]) (rest := []) ⟨hx, hb, hml, hown, hts⟩ (c_D_count l dC dI cI cL cZ fi ) (cwS 1 hts (wg_S wk_D_98 ws_D_count wi_D wc_D_count) rfl rfl rfl (by decide +kernel) ⟨Nat.le_of_ble_eq_true rfl, Nat.le_of_ble_eq_true rfl⟩) hK (hP.sub [] rfl) rfl hl.1 rfl (lv_room (Nat.le_of_ble_eq_true rfl)) d_D_fire_50 ⟨Nat.zero_le _, Nat.zero_le _⟩ hS hP (fun H locs hP hS => ?_)
            refine lv_bipush (v := nI 10) hx hb d_D_fire_53 (by decide) ?_
            refine nr_icmp_ne (by omega) (by omega) (tgt := 60) hx hb d_D_fire_55 (by decide) (fun c_55 => ?_) (fun c_55 => ?_)
            · refine lv_aload_n hx hb d_D_fire_60 rfl (lv_at hl 0 rfl) ?_
              refine lv_dup hx hb d_D_fire_61 rfl ?_
              refine va_get (D := (dC, dI)) (ci := 5) (v := .int fi) (C := R_D) (T := F_D) (N := 34) hx hb hts iD hown hK hP 0 rfl rfl 3 (by decide) (hts _ (List.mem_cons_of_mem _ wk_D_110)) (fun _ h9 => h9) rfl d_D_fire_62 ?_
              refine lv_iconst (v := nI 1) hx hb d_D_fire_65 (by decide) ?_
              refine lv_iload_n hx hb d_D_fire_66 rfl (lv_at hl 1 rfl) ?_
              refine lv_ishl hx hb d_D_fire_67 ?_
              refine nr_as (v := nb_o k) rfl ?_
              refine lv_ixor hx hb d_D_fire_68 ?_
              refine va_put (D := (dC, dI)) (ci := 5) (v := .int (fi ^^^ (nb_o k))) (ty := .int) (C := R_D) (T := F_D) (N := 34) hx hb hts iD t_D t_D_ok n_D hown hK hP hD hS 0 rfl rfl 3 (by decide) (hts _ (List.mem_cons_of_mem _ wk_D_110)) (fun _ h9 => h9) rfl (by decide +kernel) rfl rfl (Nat.le_of_ble_eq_true rfl) d_D_fire_69 (fun H locs hP hD hS => ?_)
              have hP : va_P (dC, dI) classes [cg_D dm 0 np ne (fi ^^^ (nb_o k)) kp iA tA oA uA wA sA eA vA yA lA ll mn xA cA zA pA bA fA gA bw bs ps qA rA aA kA lt wt fx, cg_B iA cZ 20 ib] H := hP
              have hD : va_D A [cg_D dm 0 np ne (fi ^^^ (nb_o k)) kp iA tA oA uA wA sA eA vA yA lA ll mn xA cA zA pA bA fA gA bw bs ps qA rA aA kA lt wt fx, cg_B iA cZ 20 ib] := hD
              refine lv_iconst (v := nI 1) hx hb d_D_fire_72 (by decide) ?_
              exact rw_zret () (b := true) hx hb hr hlocks hS hP rfl rfl d_D_fire_73
            · exact False.elim (by first | (rw [nb_inI_nI (by omega) (by omega), decide_eq_true hk] at c_10; cases c_10; done) | (rw [hin] at c_19; cases c_19; done) | exact hbb (c_39.trans c_31.symm) | exact hcn c_43 c_55)
      · refine lv_iconst (v := nI 1) hx hb d_D_fire_34 (by decide) ?_
        refine lv_goto (tgt := 39) hx hb d_D_fire_35 (by decide) ?_
        refine nr_icmpeqB1 (tgt := 58) hx hb d_D_fire_39 (by decide) (fun c_39 => ?_) (fun c_39 => ?_)
        · exact False.elim (by first | (rw [nb_inI_nI (by omega) (by omega), decide_eq_true hk] at c_10; cases c_10; done) | (rw [hin] at c_19; cases c_19; done) | exact hbb (c_39.trans c_31.symm) | exact hcn c_43 c_55)
        · refine lv_iload_n hx hb d_D_fire_42 rfl (lv_at hl 2 rfl) ?_
          refine nr_ifeqB (tgt := 60) hx hb d_D_fire_43 (by decide) (fun c_43 => ?_) (fun c_43 => ?_)
          · refine lv_aload_n hx hb d_D_fire_60 rfl (lv_at hl 0 rfl) ?_
            refine lv_dup hx hb d_D_fire_61 rfl ?_
            refine va_get (D := (dC, dI)) (ci := 5) (v := .int fi) (C := R_D) (T := F_D) (N := 34) hx hb hts iD hown hK hP 0 rfl rfl 3 (by decide) (hts _ (List.mem_cons_of_mem _ wk_D_110)) (fun _ h9 => h9) rfl d_D_fire_62 ?_
            refine lv_iconst (v := nI 1) hx hb d_D_fire_65 (by decide) ?_
            refine lv_iload_n hx hb d_D_fire_66 rfl (lv_at hl 1 rfl) ?_
            refine lv_ishl hx hb d_D_fire_67 ?_
            refine nr_as (v := nb_o k) rfl ?_
            refine lv_ixor hx hb d_D_fire_68 ?_
            refine va_put (D := (dC, dI)) (ci := 5) (v := .int (fi ^^^ (nb_o k))) (ty := .int) (C := R_D) (T := F_D) (N := 34) hx hb hts iD t_D t_D_ok n_D hown hK hP hD hS 0 rfl rfl 3 (by decide) (hts _ (List.mem_cons_of_mem _ wk_D_110)) (fun _ h9 => h9) rfl (by decide +kernel) rfl rfl (Nat.le_of_ble_eq_true rfl) d_D_fire_69 (fun H locs hP hD hS => ?_)
            have hP : va_P (dC, dI) classes [cg_D dm 0 np ne (fi ^^^ (nb_o k)) kp iA tA oA uA wA sA eA vA yA lA ll mn xA cA zA pA bA fA gA bw bs ps qA rA aA kA lt wt fx, cg_B iA cZ 20 ib] H := hP
            have hD : va_D A [cg_D dm 0 np ne (fi ^^^ (nb_o k)) kp iA tA oA uA wA sA eA vA yA lA ll mn xA cA zA pA bA fA gA bw bs ps qA rA aA kA lt wt fx, cg_B iA cZ 20 ib] := hD
            refine lv_iconst (v := nI 1) hx hb d_D_fire_72 (by decide) ?_
            exact rw_zret () (b := true) hx hb hr hlocks hS hP rfl rfl d_D_fire_73
          · refine lv_aload_n hx hb d_D_fire_46 rfl (lv_at hl 0 rfl) ?_
            refine va_get (D := (dC, dI)) (ci := 5) (v := .int fi) (C := R_D) (T := F_D) (N := 34) hx hb hts iD hown hK hP 0 rfl rfl 3 (by decide) (hts _ (List.mem_cons_of_mem _ wk_D_110)) (fun _ h9 => h9) rfl d_D_fire_47 ?_
            refine ro_Si (As := [.int fi]) (rest := []) ⟨hx, hb, hml, hown, hts⟩ (c_D_count l dC dI cI cL cZ fi ) (cwS 1 hts (wg_S wk_D_98 ws_D_count wi_D wc_D_count) rfl rfl rfl (by decide +kernel) ⟨Nat.le_of_ble_eq_true rfl, Nat.le_of_ble_eq_true rfl⟩) hK (hP.sub [] rfl) rfl hl.1 rfl (lv_room (Nat.le_of_ble_eq_true rfl)) d_D_fire_50 ⟨Nat.zero_le _, Nat.zero_le _⟩ hS hP (fun H locs hP hS => ?_)
            refine lv_bipush (v := nI 10) hx hb d_D_fire_53 (by decide) ?_
            refine nr_icmp_ne (by omega) (by omega) (tgt := 60) hx hb d_D_fire_55 (by decide) (fun c_55 => ?_) (fun c_55 => ?_)
            · refine lv_aload_n hx hb d_D_fire_60 rfl (lv_at hl 0 rfl) ?_
              refine lv_dup hx hb d_D_fire_61 rfl ?_
              refine va_get (D := (dC, dI)) (ci := 5) (v := .int fi) (C := R_D) (T := F_D) (N := 34) hx hb hts iD hown hK hP 0 rfl rfl 3 (by decide) (hts _ (List.mem_cons_of_mem _ wk_D_110)) (fun _ h9 => h9) rfl d_D_fire_62 ?_
              refine lv_iconst (v := nI 1) hx hb d_D_fire_65 (by decide) ?_
              refine lv_iload_n hx hb d_D_fire_66 rfl (lv_at hl 1 rfl) ?_
              refine lv_ishl hx hb d_D_fire_67 ?_
              refine nr_as (v := nb_o k) rfl ?_
              refine lv_ixor hx hb d_D_fire_68 ?_
              refine va_put (D := (dC, dI)) (ci := 5) (v := .int (fi ^^^ (nb_o k))) (ty := .int) (C := R_D) (T := F_D) (N := 34) hx hb hts iD t_D t_D_ok n_D hown hK hP hD hS 0 rfl rfl 3 (by decide) (hts _ (List.mem_cons_of_mem _ wk_D_110)) (fun _ h9 => h9) rfl (by decide +kernel) rfl rfl (Nat.le_of_ble_eq_true rfl) d_D_fire_69 (fun H locs hP hD hS => ?_)
              have hP : va_P (dC, dI) classes [cg_D dm 0 np ne (fi ^^^ (nb_o k)) kp iA tA oA uA wA sA eA vA yA lA ll mn xA cA zA pA bA fA gA bw bs ps qA rA aA kA lt wt fx, cg_B iA cZ 20 ib] H := hP
              have hD : va_D A [cg_D dm 0 np ne (fi ^^^ (nb_o k)) kp iA tA oA uA wA sA eA vA yA lA ll mn xA cA zA pA bA fA gA bw bs ps qA rA aA kA lt wt fx, cg_B iA cZ 20 ib] := hD
              refine lv_iconst (v := nI 1) hx hb d_D_fire_72 (by decide) ?_
              exact rw_zret () (b := true) hx hb hr hlocks hS hP rfl rfl d_D_fire_73
            · exact False.elim (by first | (rw [nb_inI_nI (by omega) (by omega), decide_eq_true hk] at c_10; cases c_10; done) | (rw [hin] at c_19; cases c_19; done) | exact hbb (c_39.trans c_31.symm) | exact hcn c_43 c_55)
set_option maxHeartbeats 4000000 in
set_option maxRecDepth 100000 in
theorem c_D_fire_no (l : Launch) (dC : Nat → ClassId) (dI : Nat → Nat → Nat) (cI cL cZ : ClassId) (dm : Nat) (th : Nat) (np : Nat) (ne : Nat) (fi : Int32) (kp : Int64) (iA : Nat) (tA : Nat) (oA : Nat) (uA : Nat) (wA : Nat) (sA : Nat) (eA : Nat) (vA : Nat) (yA : Nat) (lA : Nat) (ll : Nat) (mn : Nat) (xA : Nat) (cA : Nat) (zA : Nat) (pA : Nat) (bA : Nat) (fA : Nat) (gA : Nat) (bw : Nat) (bs : Nat) (ps : Nat) (qA : Nat) (rA : Nat) (aA : Nat) (kA : Nat) (lt : Nat) (wt : Nat) (fx : Int64) (ib : Nat → Bool) (k : Int32) (b : Bool) (hnp : np ≤ 20) (hno : ∀ j, j < np → k = nI j → ib j = true ∨ nb_t fi j = b ∨ (b = true ∧ dm_ct (fun i => nb_t fi i) 20 = 10)) : Met l y_D_fire w_D_fire ({ frames := 1, cells := 0, slots := 0, locals := 22 } : Room) (va_Pc [.ref dm, .int k, .int (nb_i b)] (rw_B (dC, dI) classes [(cI, .int), (cL, .long), (cZ, .boolean)] [cg_D dm th np ne fi kp iA tA oA uA wA sA eA vA yA lA ll mn xA cA zA pA bA fA gA bw bs ps qA rA aA kA lt wt fx, cg_B iA cZ 20 ib])) (rw_Qi (dC, dI) classes (rw_A [cg_D dm th np ne fi kp iA tA oA uA wA sA eA vA yA lA ll mn xA cA zA pA bA fA gA bw bs ps qA rA aA kA lt wt fx, cg_B iA cZ 20 ib]) (fun r (u : Unit) => r = nb_i false) (fun u => [cg_D dm 0 np ne fi kp iA tA oA uA wA sA eA vA yA lA ll mn xA cA zA pA bA fA gA bw bs ps qA rA aA kA lt wt fx, cg_B iA cZ 20 ib])) 0 0 (rw_A [cg_D dm th np ne fi kp iA tA oA uA wA sA eA vA yA lA ll mn xA cA zA pA bA fA gA bw bs ps qA rA aA kA lt wt fx, cg_B iA cZ 20 ib]) := by
  refine Met.ofW (cc := b_D_fire) (maxL := 3) (ret := (some .boolean)) (by decide) rfl ?_
  intro p e s m args below meth c s₁ B hml hv
  obtain ⟨rfl, hP, hK, hD0⟩ := hv
  have hx := B.exec
  have hb := B.bytes
  have hr := B.returns
  have hts := atoms_spec (ws := w_D_fire) B.pre
  have hown : s.vm.findClass R_D = some m.cls := findClass_of_methodNamed B.named
  have hlocks := B.notSynchronized
  have iD : ∀ w ∈ w_D, w ∈ w_D_fire := fun w h => List.mem_cons_of_mem _ (i_D w h)
  have hD := rw_own hD0
  generalize hAe : rw_A [cg_D dm th np ne fi kp iA tA oA uA wA sA eA vA yA lA ll mn xA cA zA pA bA fA gA bw bs ps qA rA aA kA lt wt fx, cg_B iA cZ 20 ib] = A at hD ⊢
  have hS : va_S A s.heap s.heap [] := va_S.rf
  have hP : va_P (dC, dI) classes [cg_D dm th np ne fi kp iA tA oA uA wA sA eA vA yA lA ll mn xA cA zA pA bA fA gA bw bs ps qA rA aA kA lt wt fx, cg_B iA cZ 20 ib] s.heap := hP
  have hl := lv_entry ([.ref dm, .int k, .int (nb_i b)]) (n := 3) (Nat.le_of_ble_eq_true rfl)
  rw [lg_entry_eq]
  generalize (lg_sl ([.ref dm, .int k, .int (nb_i b)]) ++ List.replicate (3 - (lg_sl ([.ref dm, .int k, .int (nb_i b)])).length) Slot.unset).toArray = ls at hl ⊢
  have hl : lv_has ls 3 [(0, .ref dm), (1, .int k), (2, .int (nb_i b))] := hl
  have hpc := dm_ct_le (P := fun i => nb_t fi i) (n := 20)
  refine lv_aload_n hx hb d_D_fire_0 rfl (lv_at hl 0 rfl) ?_
  refine lv_iconst (v := nI 0) hx hb d_D_fire_1 (by decide) ?_
  refine va_put (D := (dC, dI)) (ci := 5) (v := .int (nI 0)) (ty := .int) (C := R_D) (T := F_D) (N := 34) hx hb hts iD t_D t_D_ok n_D hown hK hP hD hS 0 rfl rfl 0 (by decide) (hts _ (List.mem_cons_of_mem _ wk_D_75)) (fun _ h9 => h9) rfl (by decide +kernel) rfl rfl (Nat.le_of_ble_eq_true rfl) d_D_fire_2 (fun H locs hP hD hS => ?_)
  have hP : va_P (dC, dI) classes [cg_D dm 0 np ne fi kp iA tA oA uA wA sA eA vA yA lA ll mn xA cA zA pA bA fA gA bw bs ps qA rA aA kA lt wt fx, cg_B iA cZ 20 ib] H := hP
  have hD : va_D A [cg_D dm 0 np ne fi kp iA tA oA uA wA sA eA vA yA lA ll mn xA cA zA pA bA fA gA bw bs ps qA rA aA kA lt wt fx, cg_B iA cZ 20 ib] := hD
  refine lv_aload_n hx hb d_D_fire_5 rfl (lv_at hl 0 rfl) ?_
  refine lv_iload_n hx hb d_D_fire_6 rfl (lv_at hl 1 rfl) ?_
  refine ro_Vi (As := [.int k]) (rest := []) ⟨hx, hb, hml, hown, hts⟩ (c_D_isPoint l dC dI cI cL cZ dm 0 np ne fi kp iA tA oA uA wA sA eA vA yA lA ll mn xA cA zA pA bA fA gA bw bs ps qA rA aA kA lt wt fx k ) (cwV 1 hts (wg_V wk_D_82 wm_D_isPoint we_D_isPoint wi_D wc_D_isPoint) rfl rfl rfl (by decide +kernel) ⟨Nat.le_of_ble_eq_true rfl, Nat.le_of_ble_eq_true rfl⟩) hK (hP.sub [0] rfl) (q0 := 0) rfl rfl rfl rfl hl.1 rfl (lv_room (Nat.le_of_ble_eq_true rfl)) d_D_fire_7 ⟨Nat.zero_le _, Nat.zero_le _⟩ hS hP (fun H locs hP hS => ?_)
  refine nr_ifeqB (tgt := 58) hx hb d_D_fire_10 (by decide) (fun c_10 => ?_) (fun c_10 => ?_)
  · refine lv_iconst (v := nI 0) hx hb d_D_fire_58 (by decide) ?_
    exact rw_zret () (b := false) hx hb hr hlocks hS hP rfl rfl d_D_fire_59
  · obtain ⟨j, hj, rfl⟩ := nb_inI_of (by omega) c_10
    refine lv_aload_n hx hb d_D_fire_13 rfl (lv_at hl 0 rfl) ?_
    refine va_get (D := (dC, dI)) (ci := 5) (v := .ref iA) (C := R_D) (T := F_D) (N := 34) hx hb hts iD hown hK hP 0 rfl rfl 5 (by decide) (hts _ (List.mem_cons_of_mem _ wk_D_7)) (fun _ h9 => h9) rfl d_D_fire_14 ?_
    refine lv_iload_n hx hb d_D_fire_17 rfl (lv_at hl 1 rfl) ?_
    refine nr_zald hx hb hK hP 1 2 rfl rfl (by omega) (by decide) d_D_fire_18 ?_
    refine nr_ifneB (tgt := 58) hx hb d_D_fire_19 (by decide) (fun c_19 => ?_) (fun c_19 => ?_)
    · refine lv_iconst (v := nI 0) hx hb d_D_fire_58 (by decide) ?_
      exact rw_zret () (b := false) hx hb hr hlocks hS hP rfl rfl d_D_fire_59
    · refine lv_aload_n hx hb d_D_fire_22 rfl (lv_at hl 0 rfl) ?_
      refine va_get (D := (dC, dI)) (ci := 5) (v := .int fi) (C := R_D) (T := F_D) (N := 34) hx hb hts iD hown hK hP 0 rfl rfl 3 (by decide) (hts _ (List.mem_cons_of_mem _ wk_D_110)) (fun _ h9 => h9) rfl d_D_fire_23 ?_
      refine lv_iload_n hx hb d_D_fire_26 rfl (lv_at hl 1 rfl) ?_
      refine lv_ishr hx hb d_D_fire_27 ?_
      refine lv_iconst (v := nI 1) hx hb d_D_fire_28 (by decide) ?_
      refine lv_iand hx hb d_D_fire_29 ?_
      refine nr_as (v := nb_i (nb_t fi j)) (nb_bt_and1 (by omega)) ?_
      refine lv_iload_n hx hb d_D_fire_30 rfl (lv_at hl 2 rfl) ?_
      refine nr_ifeqB (tgt := 38) hx hb d_D_fire_31 (by decide) (fun c_31 => ?_) (fun c_31 => ?_)
      · refine lv_iconst (v := nI 0) hx hb d_D_fire_38 (by decide) ?_
        refine nr_icmpeqB0 (tgt := 58) hx hb d_D_fire_39 (by decide) (fun c_39 => ?_) (fun c_39 => ?_)
        · refine lv_iconst (v := nI 0) hx hb d_D_fire_58 (by decide) ?_
          exact rw_zret () (b := false) hx hb hr hlocks hS hP rfl rfl d_D_fire_59
        · refine lv_iload_n hx hb d_D_fire_42 rfl (lv_at hl 2 rfl) ?_
          refine nr_ifeqB (tgt := 60) hx hb d_D_fire_43 (by decide) (fun c_43 => ?_) (fun c_43 => ?_)
          · exact False.elim (by rcases hno j hj rfl with q | q | q; (rw [c_19] at q; cases q); (first | (rw [q, c_31] at c_39; cases c_39; done) | exact c_39 (by rw [q, c_31]) | simp_all); (first | (rw [c_43] at q; cases q.1; done) | exact c_55 q.2))
          · refine lv_aload_n hx hb d_D_fire_46 rfl (lv_at hl 0 rfl) ?_
            refine va_get (D := (dC, dI)) (ci := 5) (v := .int fi) (C := R_D) (T := F_D) (N := 34) hx hb hts iD hown hK hP 0 rfl rfl 3 (by decide) (hts _ (List.mem_cons_of_mem _ wk_D_110)) (fun _ h9 => h9) rfl d_D_fire_47 ?_
            refine ro_Si (As := [.int fi]) (rest := []) ⟨hx, hb, hml, hown, hts⟩ (c_D_count l dC dI cI cL cZ fi ) (cwS 1 hts (wg_S wk_D_98 ws_D_count wi_D wc_D_count) rfl rfl rfl (by decide +kernel) ⟨Nat.le_of_ble_eq_true rfl, Nat.le_of_ble_eq_true rfl⟩) hK (hP.sub [] rfl) rfl hl.1 rfl (lv_room (Nat.le_of_ble_eq_true rfl)) d_D_fire_50 ⟨Nat.zero_le _, Nat.zero_le _⟩ hS hP (fun H locs hP hS => ?_)
            refine lv_bipush (v := nI 10) hx hb d_D_fire_53 (by decide) ?_
            refine nr_icmp_ne (by omega) (by omega) (tgt := 60) hx hb d_D_fire_55 (by decide) (fun c_55 => ?_) (fun c_55 => ?_)
            · exact False.elim (by rcases hno j hj rfl with q | q | q; (rw [c_19] at q; cases q); (first | (rw [q, c_31] at c_39; cases c_39; done) | exact c_39 (by rw [q, c_31]) | simp_all); (first | (rw [c_43] at q; cases q.1; done) | exact c_55 q.2))
            · refine lv_iconst (v := nI 0) hx hb d_D_fire_58 (by decide) ?_
              exact rw_zret () (b := false) hx hb hr hlocks hS hP rfl rfl d_D_fire_59
      · refine lv_iconst (v := nI 1) hx hb d_D_fire_34 (by decide) ?_
        refine lv_goto (tgt := 39) hx hb d_D_fire_35 (by decide) ?_
        refine nr_icmpeqB1 (tgt := 58) hx hb d_D_fire_39 (by decide) (fun c_39 => ?_) (fun c_39 => ?_)
        · refine lv_iconst (v := nI 0) hx hb d_D_fire_58 (by decide) ?_
          exact rw_zret () (b := false) hx hb hr hlocks hS hP rfl rfl d_D_fire_59
        · refine lv_iload_n hx hb d_D_fire_42 rfl (lv_at hl 2 rfl) ?_
          refine nr_ifeqB (tgt := 60) hx hb d_D_fire_43 (by decide) (fun c_43 => ?_) (fun c_43 => ?_)
          · exact False.elim (by rcases hno j hj rfl with q | q | q; (rw [c_19] at q; cases q); (first | (rw [q, c_31] at c_39; cases c_39; done) | exact c_39 (by rw [q, c_31]) | simp_all); (first | (rw [c_43] at q; cases q.1; done) | exact c_55 q.2))
          · refine lv_aload_n hx hb d_D_fire_46 rfl (lv_at hl 0 rfl) ?_
            refine va_get (D := (dC, dI)) (ci := 5) (v := .int fi) (C := R_D) (T := F_D) (N := 34) hx hb hts iD hown hK hP 0 rfl rfl 3 (by decide) (hts _ (List.mem_cons_of_mem _ wk_D_110)) (fun _ h9 => h9) rfl d_D_fire_47 ?_
            refine ro_Si (As := [.int fi]) (rest := []) ⟨hx, hb, hml, hown, hts⟩ (c_D_count l dC dI cI cL cZ fi ) (cwS 1 hts (wg_S wk_D_98 ws_D_count wi_D wc_D_count) rfl rfl rfl (by decide +kernel) ⟨Nat.le_of_ble_eq_true rfl, Nat.le_of_ble_eq_true rfl⟩) hK (hP.sub [] rfl) rfl hl.1 rfl (lv_room (Nat.le_of_ble_eq_true rfl)) d_D_fire_50 ⟨Nat.zero_le _, Nat.zero_le _⟩ hS hP (fun H locs hP hS => ?_)
            refine lv_bipush (v := nI 10) hx hb d_D_fire_53 (by decide) ?_
            refine nr_icmp_ne (by omega) (by omega) (tgt := 60) hx hb d_D_fire_55 (by decide) (fun c_55 => ?_) (fun c_55 => ?_)
            · exact False.elim (by rcases hno j hj rfl with q | q | q; (rw [c_19] at q; cases q); (first | (rw [q, c_31] at c_39; cases c_39; done) | exact c_39 (by rw [q, c_31]) | simp_all); (first | (rw [c_43] at q; cases q.1; done) | exact c_55 q.2))
            · refine lv_iconst (v := nI 0) hx hb d_D_fire_58 (by decide) ?_
              exact rw_zret () (b := false) hx hb hr hlocks hS hP rfl rfl d_D_fire_59
set_option maxHeartbeats 4000000 in
set_option maxRecDepth 100000 in
theorem c_D_erase_ok (l : Launch) (dC : Nat → ClassId) (dI : Nat → Nat → Nat) (cI cL cZ : ClassId) (dm : Nat) (th : Nat) (np : Nat) (ne : Nat) (fi : Int32) (kp : Int64) (iA : Nat) (tA : Nat) (oA : Nat) (uA : Nat) (wA : Nat) (sA : Nat) (eA : Nat) (vA : Nat) (yA : Nat) (lA : Nat) (ll : Nat) (mn : Nat) (xA : Nat) (cA : Nat) (zA : Nat) (pA : Nat) (bA : Nat) (fA : Nat) (gA : Nat) (bw : Nat) (bs : Nat) (ps : Nat) (qA : Nat) (rA : Nat) (aA : Nat) (kA : Nat) (lt : Nat) (wt : Nat) (fx : Int64) (ie : Nat → Bool) (k : Nat) (b : Bool) (hne : ne ≤ 60) (hk : k < ne) (hbb : ie k ≠ b) : Met l y_D_erase w_D_erase ({ frames := 0, cells := 0, slots := 0, locals := 0 } : Room) (va_Pc [.ref dm, .int (nI k), .int (nb_i b)] (rw_B (dC, dI) classes [(cI, .int), (cL, .long), (cZ, .boolean)] [cg_D dm th np ne fi kp iA tA oA uA wA sA eA vA yA lA ll mn xA cA zA pA bA fA gA bw bs ps qA rA aA kA lt wt fx, cg_B eA cZ 60 ie])) (rw_Qi (dC, dI) classes (rw_A [cg_D dm th np ne fi kp iA tA oA uA wA sA eA vA yA lA ll mn xA cA zA pA bA fA gA bw bs ps qA rA aA kA lt wt fx, cg_B eA cZ 60 ie]) (fun r (u : Unit) => r = nb_i true) (fun u => [cg_D dm 0 np ne fi kp iA tA oA uA wA sA eA vA yA lA ll mn xA cA zA pA bA fA gA bw bs ps qA rA aA kA lt wt fx, cg_B eA cZ 60 (va_up ie k b)])) 0 0 (rw_A [cg_D dm th np ne fi kp iA tA oA uA wA sA eA vA yA lA ll mn xA cA zA pA bA fA gA bw bs ps qA rA aA kA lt wt fx, cg_B eA cZ 60 ie]) := by
  refine Met.ofW (cc := b_D_erase) (maxL := 3) (ret := (some .boolean)) (by decide) rfl ?_
  intro p e s m args below meth c s₁ B hml hv
  obtain ⟨rfl, hP, hK, hD0⟩ := hv
  have hx := B.exec
  have hb := B.bytes
  have hr := B.returns
  have hts := atoms_spec (ws := w_D_erase) B.pre
  have hown : s.vm.findClass R_D = some m.cls := findClass_of_methodNamed B.named
  have hlocks := B.notSynchronized
  have iD : ∀ w ∈ w_D, w ∈ w_D_erase := fun w h => List.mem_cons_of_mem _ (i_D w h)
  have hD := rw_own hD0
  generalize hAe : rw_A [cg_D dm th np ne fi kp iA tA oA uA wA sA eA vA yA lA ll mn xA cA zA pA bA fA gA bw bs ps qA rA aA kA lt wt fx, cg_B eA cZ 60 ie] = A at hD ⊢
  have hS : va_S A s.heap s.heap [] := va_S.rf
  have hP : va_P (dC, dI) classes [cg_D dm th np ne fi kp iA tA oA uA wA sA eA vA yA lA ll mn xA cA zA pA bA fA gA bw bs ps qA rA aA kA lt wt fx, cg_B eA cZ 60 ie] s.heap := hP
  have hl := lv_entry ([.ref dm, .int (nI k), .int (nb_i b)]) (n := 3) (Nat.le_of_ble_eq_true rfl)
  rw [lg_entry_eq]
  generalize (lg_sl ([.ref dm, .int (nI k), .int (nb_i b)]) ++ List.replicate (3 - (lg_sl ([.ref dm, .int (nI k), .int (nb_i b)])).length) Slot.unset).toArray = ls at hl ⊢
  have hl : lv_has ls 3 [(0, .ref dm), (1, .int (nI k)), (2, .int (nb_i b))] := hl
  refine lv_aload_n hx hb d_D_erase_0 rfl (lv_at hl 0 rfl) ?_
  refine lv_iconst (v := nI 0) hx hb d_D_erase_1 (by decide) ?_
  refine va_put (D := (dC, dI)) (ci := 5) (v := .int (nI 0)) (ty := .int) (C := R_D) (T := F_D) (N := 34) hx hb hts iD t_D t_D_ok n_D hown hK hP hD hS 0 rfl rfl 0 (by decide) (hts _ (List.mem_cons_of_mem _ wk_D_75)) (fun _ h9 => h9) rfl (by decide +kernel) rfl rfl (Nat.le_of_ble_eq_true rfl) d_D_erase_2 (fun H locs hP hD hS => ?_)
  have hP : va_P (dC, dI) classes [cg_D dm 0 np ne fi kp iA tA oA uA wA sA eA vA yA lA ll mn xA cA zA pA bA fA gA bw bs ps qA rA aA kA lt wt fx, cg_B eA cZ 60 ie] H := hP
  have hD : va_D A [cg_D dm 0 np ne fi kp iA tA oA uA wA sA eA vA yA lA ll mn xA cA zA pA bA fA gA bw bs ps qA rA aA kA lt wt fx, cg_B eA cZ 60 ie] := hD
  refine lv_iload_n hx hb d_D_erase_5 rfl (lv_at hl 1 rfl) ?_
  refine nr_if_lt (by omega) (tgt := 27) hx hb d_D_erase_6 (by decide) (fun c => False.elim c) (fun c_6 => ?_)
  refine lv_iload_n hx hb d_D_erase_9 rfl (lv_at hl 1 rfl) ?_
  refine lv_aload_n hx hb d_D_erase_10 rfl (lv_at hl 0 rfl) ?_
  refine va_get (D := (dC, dI)) (ci := 5) (v := .int (nI ne)) (C := R_D) (T := F_D) (N := 34) hx hb hts iD hown hK hP 0 rfl rfl 2 (by decide) (hts _ (List.mem_cons_of_mem _ wk_D_87)) (fun _ h9 => h9) rfl d_D_erase_11 ?_
  refine nr_icmp_ge (by omega) (by omega) (tgt := 27) hx hb d_D_erase_14 (by decide) (fun c_14 => ?_) (fun c_14 => ?_)
  · exact False.elim (by first | omega | exact hbb (nb_bI_inj c_24))
  · refine lv_aload_n hx hb d_D_erase_17 rfl (lv_at hl 0 rfl) ?_
    refine va_get (D := (dC, dI)) (ci := 5) (v := .ref eA) (C := R_D) (T := F_D) (N := 34) hx hb hts iD hown hK hP 0 rfl rfl 11 (by decide) (hts _ (List.mem_cons_of_mem _ wk_D_29)) (fun _ h9 => h9) rfl d_D_erase_18 ?_
    refine lv_iload_n hx hb d_D_erase_21 rfl (lv_at hl 1 rfl) ?_
    refine nr_zald hx hb hK hP 1 2 rfl rfl (by omega) (by decide) d_D_erase_22 ?_
    refine lv_iload_n hx hb d_D_erase_23 rfl (lv_at hl 2 rfl) ?_
    refine lv_icmp_ne (tgt := 29) hx hb d_D_erase_24 (by decide) (fun c_24 => ?_) (fun c_24 => ?_)
    · refine lv_aload_n hx hb d_D_erase_29 rfl (lv_at hl 0 rfl) ?_
      refine va_get (D := (dC, dI)) (ci := 5) (v := .ref eA) (C := R_D) (T := F_D) (N := 34) hx hb hts iD hown hK hP 0 rfl rfl 11 (by decide) (hts _ (List.mem_cons_of_mem _ wk_D_29)) (fun _ h9 => h9) rfl d_D_erase_30 ?_
      refine lv_iload_n hx hb d_D_erase_33 rfl (lv_at hl 1 rfl) ?_
      refine lv_iload_n hx hb d_D_erase_34 rfl (lv_at hl 2 rfl) ?_
      refine nr_zast (x := b) hx hb hK hP hD hS 1 2 rfl rfl (by omega) (by decide) d_D_erase_35 (fun H locs hP hD hS => ?_)
      have hP : va_P (dC, dI) classes [cg_D dm 0 np ne fi kp iA tA oA uA wA sA eA vA yA lA ll mn xA cA zA pA bA fA gA bw bs ps qA rA aA kA lt wt fx, cg_B eA cZ 60 (va_up ie k b)] H := hP
      have hD : va_D A [cg_D dm 0 np ne fi kp iA tA oA uA wA sA eA vA yA lA ll mn xA cA zA pA bA fA gA bw bs ps qA rA aA kA lt wt fx, cg_B eA cZ 60 (va_up ie k b)] := hD
      refine lv_iconst (v := nI 1) hx hb d_D_erase_36 (by decide) ?_
      exact rw_zret () (b := true) hx hb hr hlocks hS hP rfl rfl d_D_erase_37
    · exact False.elim (by first | omega | exact hbb (nb_bI_inj c_24))
set_option maxHeartbeats 4000000 in
set_option maxRecDepth 100000 in
theorem c_D_erase_no (l : Launch) (dC : Nat → ClassId) (dI : Nat → Nat → Nat) (cI cL cZ : ClassId) (dm : Nat) (th : Nat) (np : Nat) (ne : Nat) (fi : Int32) (kp : Int64) (iA : Nat) (tA : Nat) (oA : Nat) (uA : Nat) (wA : Nat) (sA : Nat) (eA : Nat) (vA : Nat) (yA : Nat) (lA : Nat) (ll : Nat) (mn : Nat) (xA : Nat) (cA : Nat) (zA : Nat) (pA : Nat) (bA : Nat) (fA : Nat) (gA : Nat) (bw : Nat) (bs : Nat) (ps : Nat) (qA : Nat) (rA : Nat) (aA : Nat) (kA : Nat) (lt : Nat) (wt : Nat) (fx : Int64) (ie : Nat → Bool) (k : Int32) (b : Bool) (hne : ne ≤ 60) (hno : ∀ j, j < ne → k = nI j → ie j = b) : Met l y_D_erase w_D_erase ({ frames := 0, cells := 0, slots := 0, locals := 0 } : Room) (va_Pc [.ref dm, .int k, .int (nb_i b)] (rw_B (dC, dI) classes [(cI, .int), (cL, .long), (cZ, .boolean)] [cg_D dm th np ne fi kp iA tA oA uA wA sA eA vA yA lA ll mn xA cA zA pA bA fA gA bw bs ps qA rA aA kA lt wt fx, cg_B eA cZ 60 ie])) (rw_Qi (dC, dI) classes (rw_A [cg_D dm th np ne fi kp iA tA oA uA wA sA eA vA yA lA ll mn xA cA zA pA bA fA gA bw bs ps qA rA aA kA lt wt fx, cg_B eA cZ 60 ie]) (fun r (u : Unit) => r = nb_i false) (fun u => [cg_D dm 0 np ne fi kp iA tA oA uA wA sA eA vA yA lA ll mn xA cA zA pA bA fA gA bw bs ps qA rA aA kA lt wt fx, cg_B eA cZ 60 ie])) 0 0 (rw_A [cg_D dm th np ne fi kp iA tA oA uA wA sA eA vA yA lA ll mn xA cA zA pA bA fA gA bw bs ps qA rA aA kA lt wt fx, cg_B eA cZ 60 ie]) := by
  refine Met.ofW (cc := b_D_erase) (maxL := 3) (ret := (some .boolean)) (by decide) rfl ?_
  intro p e s m args below meth c s₁ B hml hv
  obtain ⟨rfl, hP, hK, hD0⟩ := hv
  have hx := B.exec
  have hb := B.bytes
  have hr := B.returns
  have hts := atoms_spec (ws := w_D_erase) B.pre
  have hown : s.vm.findClass R_D = some m.cls := findClass_of_methodNamed B.named
  have hlocks := B.notSynchronized
  have iD : ∀ w ∈ w_D, w ∈ w_D_erase := fun w h => List.mem_cons_of_mem _ (i_D w h)
  have hD := rw_own hD0
  generalize hAe : rw_A [cg_D dm th np ne fi kp iA tA oA uA wA sA eA vA yA lA ll mn xA cA zA pA bA fA gA bw bs ps qA rA aA kA lt wt fx, cg_B eA cZ 60 ie] = A at hD ⊢
  have hS : va_S A s.heap s.heap [] := va_S.rf
  have hP : va_P (dC, dI) classes [cg_D dm th np ne fi kp iA tA oA uA wA sA eA vA yA lA ll mn xA cA zA pA bA fA gA bw bs ps qA rA aA kA lt wt fx, cg_B eA cZ 60 ie] s.heap := hP
  have hl := lv_entry ([.ref dm, .int k, .int (nb_i b)]) (n := 3) (Nat.le_of_ble_eq_true rfl)
  rw [lg_entry_eq]
  generalize (lg_sl ([.ref dm, .int k, .int (nb_i b)]) ++ List.replicate (3 - (lg_sl ([.ref dm, .int k, .int (nb_i b)])).length) Slot.unset).toArray = ls at hl ⊢
  have hl : lv_has ls 3 [(0, .ref dm), (1, .int k), (2, .int (nb_i b))] := hl
  refine lv_aload_n hx hb d_D_erase_0 rfl (lv_at hl 0 rfl) ?_
  refine lv_iconst (v := nI 0) hx hb d_D_erase_1 (by decide) ?_
  refine va_put (D := (dC, dI)) (ci := 5) (v := .int (nI 0)) (ty := .int) (C := R_D) (T := F_D) (N := 34) hx hb hts iD t_D t_D_ok n_D hown hK hP hD hS 0 rfl rfl 0 (by decide) (hts _ (List.mem_cons_of_mem _ wk_D_75)) (fun _ h9 => h9) rfl (by decide +kernel) rfl rfl (Nat.le_of_ble_eq_true rfl) d_D_erase_2 (fun H locs hP hD hS => ?_)
  have hP : va_P (dC, dI) classes [cg_D dm 0 np ne fi kp iA tA oA uA wA sA eA vA yA lA ll mn xA cA zA pA bA fA gA bw bs ps qA rA aA kA lt wt fx, cg_B eA cZ 60 ie] H := hP
  have hD : va_D A [cg_D dm 0 np ne fi kp iA tA oA uA wA sA eA vA yA lA ll mn xA cA zA pA bA fA gA bw bs ps qA rA aA kA lt wt fx, cg_B eA cZ 60 ie] := hD
  refine lv_iload_n hx hb d_D_erase_5 rfl (lv_at hl 1 rfl) ?_
  refine lv_if_lt (tgt := 27) hx hb d_D_erase_6 (by decide) (fun c_6 => ?_) (fun c_6 => ?_)
  · refine lv_iconst (v := nI 0) hx hb d_D_erase_27 (by decide) ?_
    exact rw_zret () (b := false) hx hb hr hlocks hS hP rfl rfl d_D_erase_28
  · refine lv_iload_n hx hb d_D_erase_9 rfl (lv_at hl 1 rfl) ?_
    refine lv_aload_n hx hb d_D_erase_10 rfl (lv_at hl 0 rfl) ?_
    refine va_get (D := (dC, dI)) (ci := 5) (v := .int (nI ne)) (C := R_D) (T := F_D) (N := 34) hx hb hts iD hown hK hP 0 rfl rfl 2 (by decide) (hts _ (List.mem_cons_of_mem _ wk_D_87)) (fun _ h9 => h9) rfl d_D_erase_11 ?_
    refine lv_icmp_ge (tgt := 27) hx hb d_D_erase_14 (by decide) (fun c_14 => ?_) (fun c_14 => ?_)
    · refine lv_iconst (v := nI 0) hx hb d_D_erase_27 (by decide) ?_
      exact rw_zret () (b := false) hx hb hr hlocks hS hP rfl rfl d_D_erase_28
    · obtain ⟨j, hj, rfl⟩ := nb_inI_of (n := ne) (by omega) (nb_inI_t c_6 c_14)
      refine lv_aload_n hx hb d_D_erase_17 rfl (lv_at hl 0 rfl) ?_
      refine va_get (D := (dC, dI)) (ci := 5) (v := .ref eA) (C := R_D) (T := F_D) (N := 34) hx hb hts iD hown hK hP 0 rfl rfl 11 (by decide) (hts _ (List.mem_cons_of_mem _ wk_D_29)) (fun _ h9 => h9) rfl d_D_erase_18 ?_
      refine lv_iload_n hx hb d_D_erase_21 rfl (lv_at hl 1 rfl) ?_
      refine nr_zald hx hb hK hP 1 2 rfl rfl (by omega) (by decide) d_D_erase_22 ?_
      refine lv_iload_n hx hb d_D_erase_23 rfl (lv_at hl 2 rfl) ?_
      refine lv_icmp_ne (tgt := 29) hx hb d_D_erase_24 (by decide) (fun c_24 => ?_) (fun c_24 => ?_)
      · exact False.elim (c_24 (by rw [hno j hj rfl]))
      · refine lv_iconst (v := nI 0) hx hb d_D_erase_27 (by decide) ?_
        exact rw_zret () (b := false) hx hb hr hlocks hS hP rfl rfl d_D_erase_28
set_option maxHeartbeats 4000000 in
set_option maxRecDepth 100000 in
theorem c_D_least (l : Launch) (dC : Nat → ClassId) (dI : Nat → Nat → Nat) (cI cL cZ : ClassId) (dm : Nat) (th : Nat) (np : Nat) (ne : Nat) (fi : Int32) (kp : Int64) (iA : Nat) (tA : Nat) (oA : Nat) (uA : Nat) (wA : Nat) (sA : Nat) (eA : Nat) (vA : Nat) (yA : Nat) (lA : Nat) (ll : Nat) (mn : Nat) (xA : Nat) (cA : Nat) (zA : Nat) (pA : Nat) (bA : Nat) (fA : Nat) (gA : Nat) (bw : Nat) (bs : Nat) (ps : Nat) (qA : Nat) (rA : Nat) (aA : Nat) (kA : Nat) (lt : Nat) (wt : Nat) (fx : Int64)  : Met l y_D_least w_D_least ({ frames := 0, cells := 0, slots := 0, locals := 0 } : Room) (va_Pc [.ref dm] (rw_B (dC, dI) classes [(cI, .int), (cL, .long), (cZ, .boolean)] [cg_D dm th np ne fi kp iA tA oA uA wA sA eA vA yA lA ll mn xA cA zA pA bA fA gA bw bs ps qA rA aA kA lt wt fx])) (rw_Qi (dC, dI) classes (rw_A [cg_D dm th np ne fi kp iA tA oA uA wA sA eA vA yA lA ll mn xA cA zA pA bA fA gA bw bs ps qA rA aA kA lt wt fx]) (fun r (u : Unit) => r = nI lt) (fun u => [cg_D dm 0 np ne fi kp iA tA oA uA wA sA eA vA yA lA ll mn xA cA zA pA bA fA gA bw bs ps qA rA aA kA lt wt fx])) 0 0 (rw_A [cg_D dm th np ne fi kp iA tA oA uA wA sA eA vA yA lA ll mn xA cA zA pA bA fA gA bw bs ps qA rA aA kA lt wt fx]) := by
  refine Met.ofW (cc := b_D_least) (maxL := 1) (ret := (some .int)) (by decide) rfl ?_
  intro p e s m args below meth c s₁ B hml hv
  obtain ⟨rfl, hP, hK, hD0⟩ := hv
  have hx := B.exec
  have hb := B.bytes
  have hr := B.returns
  have hts := atoms_spec (ws := w_D_least) B.pre
  have hown : s.vm.findClass R_D = some m.cls := findClass_of_methodNamed B.named
  have hlocks := B.notSynchronized
  have iD : ∀ w ∈ w_D, w ∈ w_D_least := fun w h => List.mem_cons_of_mem _ (i_D w h)
  have hD := rw_own hD0
  generalize hAe : rw_A [cg_D dm th np ne fi kp iA tA oA uA wA sA eA vA yA lA ll mn xA cA zA pA bA fA gA bw bs ps qA rA aA kA lt wt fx] = A at hD ⊢
  have hS : va_S A s.heap s.heap [] := va_S.rf
  have hP : va_P (dC, dI) classes [cg_D dm th np ne fi kp iA tA oA uA wA sA eA vA yA lA ll mn xA cA zA pA bA fA gA bw bs ps qA rA aA kA lt wt fx] s.heap := hP
  have hl := lv_entry ([.ref dm]) (n := 1) (Nat.le_of_ble_eq_true rfl)
  rw [lg_entry_eq]
  generalize (lg_sl ([.ref dm]) ++ List.replicate (1 - (lg_sl ([.ref dm])).length) Slot.unset).toArray = ls at hl ⊢
  have hl : lv_has ls 1 [(0, .ref dm)] := hl
  refine lv_aload_n hx hb d_D_least_0 rfl (lv_at hl 0 rfl) ?_
  refine lv_iconst (v := nI 0) hx hb d_D_least_1 (by decide) ?_
  refine va_put (D := (dC, dI)) (ci := 5) (v := .int (nI 0)) (ty := .int) (C := R_D) (T := F_D) (N := 34) hx hb hts iD t_D t_D_ok n_D hown hK hP hD hS 0 rfl rfl 0 (by decide) (hts _ (List.mem_cons_of_mem _ wk_D_75)) (fun _ h9 => h9) rfl (by decide +kernel) rfl rfl (Nat.le_of_ble_eq_true rfl) d_D_least_2 (fun H locs hP hD hS => ?_)
  have hP : va_P (dC, dI) classes [cg_D dm 0 np ne fi kp iA tA oA uA wA sA eA vA yA lA ll mn xA cA zA pA bA fA gA bw bs ps qA rA aA kA lt wt fx] H := hP
  have hD : va_D A [cg_D dm 0 np ne fi kp iA tA oA uA wA sA eA vA yA lA ll mn xA cA zA pA bA fA gA bw bs ps qA rA aA kA lt wt fx] := hD
  refine lv_aload_n hx hb d_D_least_5 rfl (lv_at hl 0 rfl) ?_
  refine va_get (D := (dC, dI)) (ci := 5) (v := .int (nI lt)) (C := R_D) (T := F_D) (N := 34) hx hb hts iD hown hK hP 0 rfl rfl 31 (by decide) (hts _ (List.mem_cons_of_mem _ wk_D_173)) (fun _ h9 => h9) rfl d_D_least_6 ?_
  exact rw_iret () hx hb hr hlocks hS hP rfl d_D_least_9
set_option maxHeartbeats 4000000 in
set_option maxRecDepth 100000 in
theorem c_D_fix (l : Launch) (dC : Nat → ClassId) (dI : Nat → Nat → Nat) (cI cL cZ : ClassId) (dm : Nat) (th : Nat) (np : Nat) (ne : Nat) (fi : Int32) (kp : Int64) (iA : Nat) (tA : Nat) (oA : Nat) (uA : Nat) (wA : Nat) (sA : Nat) (eA : Nat) (vA : Nat) (yA : Nat) (lA : Nat) (ll : Nat) (mn : Nat) (xA : Nat) (cA : Nat) (zA : Nat) (pA : Nat) (bA : Nat) (fA : Nat) (gA : Nat) (bw : Nat) (bs : Nat) (ps : Nat) (qA : Nat) (rA : Nat) (aA : Nat) (kA : Nat) (lt : Nat) (wt : Nat) (fx : Int64)  : Met l y_D_fix w_D_fix ({ frames := 0, cells := 0, slots := 0, locals := 0 } : Room) (va_Pc [.ref dm] (rw_B (dC, dI) classes [(cI, .int), (cL, .long), (cZ, .boolean)] [cg_D dm th np ne fi kp iA tA oA uA wA sA eA vA yA lA ll mn xA cA zA pA bA fA gA bw bs ps qA rA aA kA lt wt fx])) (rw_Ql (dC, dI) classes (rw_A [cg_D dm th np ne fi kp iA tA oA uA wA sA eA vA yA lA ll mn xA cA zA pA bA fA gA bw bs ps qA rA aA kA lt wt fx]) (fun r (u : Unit) => r = fx) (fun u => [cg_D dm 0 np ne fi kp iA tA oA uA wA sA eA vA yA lA ll mn xA cA zA pA bA fA gA bw bs ps qA rA aA kA lt wt fx])) 0 0 (rw_A [cg_D dm th np ne fi kp iA tA oA uA wA sA eA vA yA lA ll mn xA cA zA pA bA fA gA bw bs ps qA rA aA kA lt wt fx]) := by
  refine Met.ofW (cc := b_D_fix) (maxL := 1) (ret := (some .long)) (by decide) rfl ?_
  intro p e s m args below meth c s₁ B hml hv
  obtain ⟨rfl, hP, hK, hD0⟩ := hv
  have hx := B.exec
  have hb := B.bytes
  have hr := B.returns
  have hts := atoms_spec (ws := w_D_fix) B.pre
  have hown : s.vm.findClass R_D = some m.cls := findClass_of_methodNamed B.named
  have hlocks := B.notSynchronized
  have iD : ∀ w ∈ w_D, w ∈ w_D_fix := fun w h => List.mem_cons_of_mem _ (i_D w h)
  have hD := rw_own hD0
  generalize hAe : rw_A [cg_D dm th np ne fi kp iA tA oA uA wA sA eA vA yA lA ll mn xA cA zA pA bA fA gA bw bs ps qA rA aA kA lt wt fx] = A at hD ⊢
  have hS : va_S A s.heap s.heap [] := va_S.rf
  have hP : va_P (dC, dI) classes [cg_D dm th np ne fi kp iA tA oA uA wA sA eA vA yA lA ll mn xA cA zA pA bA fA gA bw bs ps qA rA aA kA lt wt fx] s.heap := hP
  have hl := lv_entry ([.ref dm]) (n := 1) (Nat.le_of_ble_eq_true rfl)
  rw [lg_entry_eq]
  generalize (lg_sl ([.ref dm]) ++ List.replicate (1 - (lg_sl ([.ref dm])).length) Slot.unset).toArray = ls at hl ⊢
  have hl : lv_has ls 1 [(0, .ref dm)] := hl
  refine lv_aload_n hx hb d_D_fix_0 rfl (lv_at hl 0 rfl) ?_
  refine lv_iconst (v := nI 0) hx hb d_D_fix_1 (by decide) ?_
  refine va_put (D := (dC, dI)) (ci := 5) (v := .int (nI 0)) (ty := .int) (C := R_D) (T := F_D) (N := 34) hx hb hts iD t_D t_D_ok n_D hown hK hP hD hS 0 rfl rfl 0 (by decide) (hts _ (List.mem_cons_of_mem _ wk_D_75)) (fun _ h9 => h9) rfl (by decide +kernel) rfl rfl (Nat.le_of_ble_eq_true rfl) d_D_fix_2 (fun H locs hP hD hS => ?_)
  have hP : va_P (dC, dI) classes [cg_D dm 0 np ne fi kp iA tA oA uA wA sA eA vA yA lA ll mn xA cA zA pA bA fA gA bw bs ps qA rA aA kA lt wt fx] H := hP
  have hD : va_D A [cg_D dm 0 np ne fi kp iA tA oA uA wA sA eA vA yA lA ll mn xA cA zA pA bA fA gA bw bs ps qA rA aA kA lt wt fx] := hD
  refine lv_aload_n hx hb d_D_fix_5 rfl (lv_at hl 0 rfl) ?_
  refine va_get (D := (dC, dI)) (ci := 5) (v := .long fx) (C := R_D) (T := F_D) (N := 34) hx hb hts iD hown hK hP 0 rfl rfl 33 (by decide) (hts _ (List.mem_cons_of_mem _ wk_D_169)) (fun _ h9 => h9) rfl d_D_fix_6 ?_
  exact rw_lret () hx hb hr hlocks hS hP rfl d_D_fix_9
set_option maxHeartbeats 4000000 in
set_option maxRecDepth 100000 in
theorem c_D_kept (l : Launch) (dC : Nat → ClassId) (dI : Nat → Nat → Nat) (cI cL cZ : ClassId) (dm : Nat) (th : Nat) (np : Nat) (ne : Nat) (fi : Int32) (kp : Int64) (iA : Nat) (tA : Nat) (oA : Nat) (uA : Nat) (wA : Nat) (sA : Nat) (eA : Nat) (vA : Nat) (yA : Nat) (lA : Nat) (ll : Nat) (mn : Nat) (xA : Nat) (cA : Nat) (zA : Nat) (pA : Nat) (bA : Nat) (fA : Nat) (gA : Nat) (bw : Nat) (bs : Nat) (ps : Nat) (qA : Nat) (rA : Nat) (aA : Nat) (kA : Nat) (lt : Nat) (wt : Nat) (fx : Int64)  : Met l y_D_kept w_D_kept ({ frames := 0, cells := 0, slots := 0, locals := 0 } : Room) (va_Pc [.ref dm] (rw_B (dC, dI) classes [(cI, .int), (cL, .long), (cZ, .boolean)] [cg_D dm th np ne fi kp iA tA oA uA wA sA eA vA yA lA ll mn xA cA zA pA bA fA gA bw bs ps qA rA aA kA lt wt fx])) (rw_Ql (dC, dI) classes (rw_A [cg_D dm th np ne fi kp iA tA oA uA wA sA eA vA yA lA ll mn xA cA zA pA bA fA gA bw bs ps qA rA aA kA lt wt fx]) (fun r (u : Unit) => r = kp) (fun u => [cg_D dm 0 np ne fi kp iA tA oA uA wA sA eA vA yA lA ll mn xA cA zA pA bA fA gA bw bs ps qA rA aA kA lt wt fx])) 0 0 (rw_A [cg_D dm th np ne fi kp iA tA oA uA wA sA eA vA yA lA ll mn xA cA zA pA bA fA gA bw bs ps qA rA aA kA lt wt fx]) := by
  refine Met.ofW (cc := b_D_kept) (maxL := 1) (ret := (some .long)) (by decide) rfl ?_
  intro p e s m args below meth c s₁ B hml hv
  obtain ⟨rfl, hP, hK, hD0⟩ := hv
  have hx := B.exec
  have hb := B.bytes
  have hr := B.returns
  have hts := atoms_spec (ws := w_D_kept) B.pre
  have hown : s.vm.findClass R_D = some m.cls := findClass_of_methodNamed B.named
  have hlocks := B.notSynchronized
  have iD : ∀ w ∈ w_D, w ∈ w_D_kept := fun w h => List.mem_cons_of_mem _ (i_D w h)
  have hD := rw_own hD0
  generalize hAe : rw_A [cg_D dm th np ne fi kp iA tA oA uA wA sA eA vA yA lA ll mn xA cA zA pA bA fA gA bw bs ps qA rA aA kA lt wt fx] = A at hD ⊢
  have hS : va_S A s.heap s.heap [] := va_S.rf
  have hP : va_P (dC, dI) classes [cg_D dm th np ne fi kp iA tA oA uA wA sA eA vA yA lA ll mn xA cA zA pA bA fA gA bw bs ps qA rA aA kA lt wt fx] s.heap := hP
  have hl := lv_entry ([.ref dm]) (n := 1) (Nat.le_of_ble_eq_true rfl)
  rw [lg_entry_eq]
  generalize (lg_sl ([.ref dm]) ++ List.replicate (1 - (lg_sl ([.ref dm])).length) Slot.unset).toArray = ls at hl ⊢
  have hl : lv_has ls 1 [(0, .ref dm)] := hl
  refine lv_aload_n hx hb d_D_kept_0 rfl (lv_at hl 0 rfl) ?_
  refine lv_iconst (v := nI 0) hx hb d_D_kept_1 (by decide) ?_
  refine va_put (D := (dC, dI)) (ci := 5) (v := .int (nI 0)) (ty := .int) (C := R_D) (T := F_D) (N := 34) hx hb hts iD t_D t_D_ok n_D hown hK hP hD hS 0 rfl rfl 0 (by decide) (hts _ (List.mem_cons_of_mem _ wk_D_75)) (fun _ h9 => h9) rfl (by decide +kernel) rfl rfl (Nat.le_of_ble_eq_true rfl) d_D_kept_2 (fun H locs hP hD hS => ?_)
  have hP : va_P (dC, dI) classes [cg_D dm 0 np ne fi kp iA tA oA uA wA sA eA vA yA lA ll mn xA cA zA pA bA fA gA bw bs ps qA rA aA kA lt wt fx] H := hP
  have hD : va_D A [cg_D dm 0 np ne fi kp iA tA oA uA wA sA eA vA yA lA ll mn xA cA zA pA bA fA gA bw bs ps qA rA aA kA lt wt fx] := hD
  refine lv_aload_n hx hb d_D_kept_5 rfl (lv_at hl 0 rfl) ?_
  refine va_get (D := (dC, dI)) (ci := 5) (v := .long kp) (C := R_D) (T := F_D) (N := 34) hx hb hts iD hown hK hP 0 rfl rfl 4 (by decide) (hts _ (List.mem_cons_of_mem _ wk_D_191)) (fun _ h9 => h9) rfl d_D_kept_6 ?_
  exact rw_lret () hx hb hr hlocks hS hP rfl d_D_kept_9
set_option maxHeartbeats 4000000 in
set_option maxRecDepth 100000 in
theorem c_D_pair (l : Launch) (dC : Nat → ClassId) (dI : Nat → Nat → Nat) (cI cL cZ : ClassId) (dm : Nat) (th : Nat) (np : Nat) (ne : Nat) (fi : Int32) (kp : Int64) (iA : Nat) (tA : Nat) (oA : Nat) (uA : Nat) (wA : Nat) (sA : Nat) (eA : Nat) (vA : Nat) (yA : Nat) (lA : Nat) (ll : Nat) (mn : Nat) (xA : Nat) (cA : Nat) (zA : Nat) (pA : Nat) (bA : Nat) (fA : Nat) (gA : Nat) (bw : Nat) (bs : Nat) (ps : Nat) (qA : Nat) (rA : Nat) (aA : Nat) (kA : Nat) (lt : Nat) (wt : Nat) (fx : Int64) (po pt : Nat → Nat) (i z : Int32) (hps : ps ≤ 10) : Met l y_D_pair w_D_pair ({ frames := 0, cells := 0, slots := 0, locals := 0 } : Room) (va_Pc [.ref dm, .int i, .int z] (rw_B (dC, dI) classes [(cI, .int), (cL, .long), (cZ, .boolean)] [cg_D dm th np ne fi kp iA tA oA uA wA sA eA vA yA lA ll mn xA cA zA pA bA fA gA bw bs ps qA rA aA kA lt wt fx, cg_N qA cI 10 po, cg_N rA cI 10 pt])) (rw_Qi (dC, dI) classes (rw_A [cg_D dm th np ne fi kp iA tA oA uA wA sA eA vA yA lA ll mn xA cA zA pA bA fA gA bw bs ps qA rA aA kA lt wt fx, cg_N qA cI 10 po, cg_N rA cI 10 pt]) (fun r (u : Unit) => r = ng_pairD ps po pt i z) (fun u => [cg_D dm 0 np ne fi kp iA tA oA uA wA sA eA vA yA lA ll mn xA cA zA pA bA fA gA bw bs ps qA rA aA kA lt wt fx, cg_N qA cI 10 po, cg_N rA cI 10 pt])) 0 0 (rw_A [cg_D dm th np ne fi kp iA tA oA uA wA sA eA vA yA lA ll mn xA cA zA pA bA fA gA bw bs ps qA rA aA kA lt wt fx, cg_N qA cI 10 po, cg_N rA cI 10 pt]) := by
  refine Met.ofW (cc := b_D_pair) (maxL := 3) (ret := (some .int)) (by decide) rfl ?_
  intro p e s m args below meth c s₁ B hml hv
  obtain ⟨rfl, hP, hK, hD0⟩ := hv
  have hx := B.exec
  have hb := B.bytes
  have hr := B.returns
  have hts := atoms_spec (ws := w_D_pair) B.pre
  have hown : s.vm.findClass R_D = some m.cls := findClass_of_methodNamed B.named
  have hlocks := B.notSynchronized
  have iD : ∀ w ∈ w_D, w ∈ w_D_pair := fun w h => List.mem_cons_of_mem _ (i_D w h)
  have hD := rw_own hD0
  generalize hAe : rw_A [cg_D dm th np ne fi kp iA tA oA uA wA sA eA vA yA lA ll mn xA cA zA pA bA fA gA bw bs ps qA rA aA kA lt wt fx, cg_N qA cI 10 po, cg_N rA cI 10 pt] = A at hD ⊢
  have hS : va_S A s.heap s.heap [] := va_S.rf
  have hP : va_P (dC, dI) classes [cg_D dm th np ne fi kp iA tA oA uA wA sA eA vA yA lA ll mn xA cA zA pA bA fA gA bw bs ps qA rA aA kA lt wt fx, cg_N qA cI 10 po, cg_N rA cI 10 pt] s.heap := hP
  have hl := lv_entry ([.ref dm, .int i, .int z]) (n := 3) (Nat.le_of_ble_eq_true rfl)
  rw [lg_entry_eq]
  generalize (lg_sl ([.ref dm, .int i, .int z]) ++ List.replicate (3 - (lg_sl ([.ref dm, .int i, .int z])).length) Slot.unset).toArray = ls at hl ⊢
  have hl : lv_has ls 3 [(0, .ref dm), (1, .int i), (2, .int z)] := hl
  refine lv_aload_n hx hb d_D_pair_0 rfl (lv_at hl 0 rfl) ?_
  refine lv_iconst (v := nI 0) hx hb d_D_pair_1 (by decide) ?_
  refine va_put (D := (dC, dI)) (ci := 5) (v := .int (nI 0)) (ty := .int) (C := R_D) (T := F_D) (N := 34) hx hb hts iD t_D t_D_ok n_D hown hK hP hD hS 0 rfl rfl 0 (by decide) (hts _ (List.mem_cons_of_mem _ wk_D_75)) (fun _ h9 => h9) rfl (by decide +kernel) rfl rfl (Nat.le_of_ble_eq_true rfl) d_D_pair_2 (fun H locs hP hD hS => ?_)
  have hP : va_P (dC, dI) classes [cg_D dm 0 np ne fi kp iA tA oA uA wA sA eA vA yA lA ll mn xA cA zA pA bA fA gA bw bs ps qA rA aA kA lt wt fx, cg_N qA cI 10 po, cg_N rA cI 10 pt] H := hP
  have hD : va_D A [cg_D dm 0 np ne fi kp iA tA oA uA wA sA eA vA yA lA ll mn xA cA zA pA bA fA gA bw bs ps qA rA aA kA lt wt fx, cg_N qA cI 10 po, cg_N rA cI 10 pt] := hD
  refine lv_iload_n hx hb d_D_pair_5 rfl (lv_at hl 1 rfl) ?_
  refine lv_if_lt (tgt := 26) hx hb d_D_pair_6 (by decide) (fun c_6 => ?_) (fun c_6 => ?_)
  · refine lv_iconst (v := -1) hx hb d_D_pair_26 (by decide) ?_
    exact rw_iret () hx hb hr hlocks hS hP (by rw [ng_pairD, if_neg (fun q => by first | (have := q.1; rw [nb_inI_f1 c_6] at this; cases this; done) | (have := q.1; rw [nb_inI_f2 c_14] at this; cases this; done) | (have := q.2; rw [nb_inI_f1 c_18] at this; cases this; done) | (have := q.2; rw [nb_inI_f2 (ng_lt1 (Int32.not_le.mp c_23))] at this; cases this; done))]) d_D_pair_27
  · refine lv_iload_n hx hb d_D_pair_9 rfl (lv_at hl 1 rfl) ?_
    refine lv_aload_n hx hb d_D_pair_10 rfl (lv_at hl 0 rfl) ?_
    refine va_get (D := (dC, dI)) (ci := 5) (v := .int (nI ps)) (C := R_D) (T := F_D) (N := 34) hx hb hts iD hown hK hP 0 rfl rfl 26 (by decide) (hts _ (List.mem_cons_of_mem _ wk_D_166)) (fun _ h9 => h9) rfl d_D_pair_11 ?_
    refine lv_icmp_ge (tgt := 26) hx hb d_D_pair_14 (by decide) (fun c_14 => ?_) (fun c_14 => ?_)
    · refine lv_iconst (v := -1) hx hb d_D_pair_26 (by decide) ?_
      exact rw_iret () hx hb hr hlocks hS hP (by rw [ng_pairD, if_neg (fun q => by first | (have := q.1; rw [nb_inI_f1 c_6] at this; cases this; done) | (have := q.1; rw [nb_inI_f2 c_14] at this; cases this; done) | (have := q.2; rw [nb_inI_f1 c_18] at this; cases this; done) | (have := q.2; rw [nb_inI_f2 (ng_lt1 (Int32.not_le.mp c_23))] at this; cases this; done))]) d_D_pair_27
    · refine lv_iload_n hx hb d_D_pair_17 rfl (lv_at hl 2 rfl) ?_
      refine lv_if_lt (tgt := 26) hx hb d_D_pair_18 (by decide) (fun c_18 => ?_) (fun c_18 => ?_)
      · refine lv_iconst (v := -1) hx hb d_D_pair_26 (by decide) ?_
        exact rw_iret () hx hb hr hlocks hS hP (by rw [ng_pairD, if_neg (fun q => by first | (have := q.1; rw [nb_inI_f1 c_6] at this; cases this; done) | (have := q.1; rw [nb_inI_f2 c_14] at this; cases this; done) | (have := q.2; rw [nb_inI_f1 c_18] at this; cases this; done) | (have := q.2; rw [nb_inI_f2 (ng_lt1 (Int32.not_le.mp c_23))] at this; cases this; done))]) d_D_pair_27
      · refine lv_iload_n hx hb d_D_pair_21 rfl (lv_at hl 2 rfl) ?_
        refine lv_iconst (v := nI 1) hx hb d_D_pair_22 (by decide) ?_
        refine lv_icmp_le (tgt := 28) hx hb d_D_pair_23 (by decide) (fun c_23 => ?_) (fun c_23 => ?_)
        · obtain ⟨j, hj, rfl⟩ := nb_inI_of (n := ps) (by omega) (nb_inI_t c_6 c_14)
          have hij : nb_in ps (nI j) = true := by rw [nb_inI_nI (by omega) (by omega), decide_eq_true hj]
          have ej := nI_clamp (n := j) (by omega)
          have hz2 : nb_in 2 z = true := nb_inI_t c_18 (fun q => Int32.not_le.mpr (Int32.lt_of_lt_of_le (show nI 1 < nI 2 by decide) q) c_23)
          refine lv_iload_n hx hb d_D_pair_28 rfl (lv_at hl 2 rfl) ?_
          refine lv_if_ne (tgt := 41) hx hb d_D_pair_29 (by decide) (fun c_29 => ?_) (fun c_29 => ?_)
          · refine lv_aload_n hx hb d_D_pair_41 rfl (lv_at hl 0 rfl) ?_
            refine va_get (D := (dC, dI)) (ci := 5) (v := .ref rA) (C := R_D) (T := F_D) (N := 34) hx hb hts iD hown hK hP 0 rfl rfl 28 (by decide) (hts _ (List.mem_cons_of_mem _ wk_D_65)) (fun _ h9 => h9) rfl d_D_pair_42 ?_
            refine lv_iload_n hx hb d_D_pair_45 rfl (lv_at hl 1 rfl) ?_
            refine nr_iald hx hb hK hP 2 0 rfl rfl (by omega) (by decide) d_D_pair_46 ?_
            exact rw_iret () hx hb hr hlocks hS hP (by first | (rw [ng_pairD, if_pos ⟨hij, hz2⟩, if_pos c_29, ej]; done) | (rw [ng_pairD, if_pos ⟨hij, hz2⟩, if_neg c_29, ej]; done)) d_D_pair_47
          · refine lv_aload_n hx hb d_D_pair_32 rfl (lv_at hl 0 rfl) ?_
            refine va_get (D := (dC, dI)) (ci := 5) (v := .ref qA) (C := R_D) (T := F_D) (N := 34) hx hb hts iD hown hK hP 0 rfl rfl 27 (by decide) (hts _ (List.mem_cons_of_mem _ wk_D_62)) (fun _ h9 => h9) rfl d_D_pair_33 ?_
            refine lv_iload_n hx hb d_D_pair_36 rfl (lv_at hl 1 rfl) ?_
            refine nr_iald hx hb hK hP 1 0 rfl rfl (by omega) (by decide) d_D_pair_37 ?_
            refine lv_goto (tgt := 47) hx hb d_D_pair_38 (by decide) ?_
            exact rw_iret () hx hb hr hlocks hS hP (by first | (rw [ng_pairD, if_pos ⟨hij, hz2⟩, if_pos c_29, ej]; done) | (rw [ng_pairD, if_pos ⟨hij, hz2⟩, if_neg c_29, ej]; done)) d_D_pair_47
        · refine lv_iconst (v := -1) hx hb d_D_pair_26 (by decide) ?_
          exact rw_iret () hx hb hr hlocks hS hP (by rw [ng_pairD, if_neg (fun q => by first | (have := q.1; rw [nb_inI_f1 c_6] at this; cases this; done) | (have := q.1; rw [nb_inI_f2 c_14] at this; cases this; done) | (have := q.2; rw [nb_inI_f1 c_18] at this; cases this; done) | (have := q.2; rw [nb_inI_f2 (ng_lt1 (Int32.not_le.mp c_23))] at this; cases this; done))]) d_D_pair_27
set_option maxHeartbeats 4000000 in
set_option maxRecDepth 100000 in
theorem c_D_areEdges (l : Launch) (dC : Nat → ClassId) (dI : Nat → Nat → Nat) (cI cL cZ : ClassId) (dm : Nat) (th : Nat) (np : Nat) (ne : Nat) (fi : Int32) (kp : Int64) (iA : Nat) (tA : Nat) (oA : Nat) (uA : Nat) (wA : Nat) (sA : Nat) (eA : Nat) (vA : Nat) (yA : Nat) (lA : Nat) (ll : Nat) (mn : Nat) (xA : Nat) (cA : Nat) (zA : Nat) (pA : Nat) (bA : Nat) (fA : Nat) (gA : Nat) (bw : Nat) (bs : Nat) (ps : Nat) (qA : Nat) (rA : Nat) (aA : Nat) (kA : Nat) (lt : Nat) (wt : Nat) (fx : Int64) (x : Int64)  : Met l y_D_areEdges w_D_areEdges ({ frames := 0, cells := 0, slots := 0, locals := 0 } : Room) (va_Pc [.ref dm, .long x] (ro_B (dC, dI) classes [(cI, .int), (cL, .long), (cZ, .boolean)] [cg_D dm th np ne fi kp iA tA oA uA wA sA eA vA yA lA ll mn xA cA zA pA bA fA gA bw bs ps qA rA aA kA lt wt fx])) (ro_Qi (nb_i (ng_ae ne x))) 0 0 ro_A := by
  refine Met.ofW (cc := b_D_areEdges) (maxL := 3) (ret := (some .boolean)) (by decide) rfl ?_
  intro p e s m args below meth c s₁ B hml hv
  obtain ⟨rfl, hP, hK⟩ := hv
  have hx := B.exec
  have hb := B.bytes
  have hr := B.returns
  have hts := atoms_spec (ws := w_D_areEdges) B.pre
  have hown : s.vm.findClass R_D = some m.cls := findClass_of_methodNamed B.named
  have hlocks := B.notSynchronized
  have iD : ∀ w ∈ w_D, w ∈ w_D_areEdges := fun w h => List.mem_cons_of_mem _ (i_D w h)
  have hS : va_S ro_A s.heap s.heap [] := va_S.rf
  have hP : va_P (dC, dI) classes [cg_D dm th np ne fi kp iA tA oA uA wA sA eA vA yA lA ll mn xA cA zA pA bA fA gA bw bs ps qA rA aA kA lt wt fx] s.heap := hP
  have hl := lv_entry ([.ref dm, .long x]) (n := 3) (Nat.le_of_ble_eq_true rfl)
  rw [lg_entry_eq]
  generalize (lg_sl ([.ref dm, .long x]) ++ List.replicate (3 - (lg_sl ([.ref dm, .long x])).length) Slot.unset).toArray = ls at hl ⊢
  have hl : lv_has ls 3 [(0, .ref dm), (1, .long x)] := hl
  refine lv_lload_n hx hb d_D_areEdges_0 rfl (lv_at hl 1 rfl) ?_
  refine lv_lconst (v := lN 0) hx hb d_D_areEdges_1 (by decide) ?_
  refine W.lcmp hx hb d_D_areEdges_2 ?_
  refine nr_lraw_lt (tgt := 21) hx hb d_D_areEdges_3 (by decide) (fun c_3 => ?_) (fun c_3 => ?_)
  · refine lv_iconst (v := nI 0) hx hb d_D_areEdges_21 (by decide) ?_
    exact ro_zret hx hb hr hlocks hS rfl (by simp [nb_i, ng_ae, ng_fitL, *]) d_D_areEdges_22
  · refine lv_lload_n hx hb d_D_areEdges_6 rfl (lv_at hl 1 rfl) ?_
    refine lv_aload_n hx hb d_D_areEdges_7 rfl (lv_at hl 0 rfl) ?_
    refine va_get (D := (dC, dI)) (ci := 5) (v := .int (nI ne)) (C := R_D) (T := F_D) (N := 34) hx hb hts iD hown hK hP 0 rfl rfl 2 (by decide) (hts _ (List.mem_cons_of_mem _ wk_D_87)) (fun _ h9 => h9) rfl d_D_areEdges_8 ?_
    refine lv_lushr hx hb d_D_areEdges_11 rfl ?_
    refine lv_lconst (v := lN 0) hx hb d_D_areEdges_12 (by decide) ?_
    refine W.lcmp hx hb d_D_areEdges_13 ?_
    refine nr_lraw_ne (tgt := 21) hx hb d_D_areEdges_14 (by decide) (fun c_14 => ?_) (fun c_14 => ?_)
    · refine lv_iconst (v := nI 0) hx hb d_D_areEdges_21 (by decide) ?_
      exact ro_zret hx hb hr hlocks hS rfl (by simp [nb_i, ng_ae, ng_fitL, *]) d_D_areEdges_22
    · refine lv_iconst (v := nI 1) hx hb d_D_areEdges_17 (by decide) ?_
      refine lv_goto (tgt := 22) hx hb d_D_areEdges_18 (by decide) ?_
      exact ro_zret hx hb hr hlocks hS rfl (by simp [nb_i, ng_ae, ng_fitL, *]) d_D_areEdges_22
set_option maxHeartbeats 4000000 in
set_option maxRecDepth 100000 in
theorem c_D_laidSet (l : Launch) (dC : Nat → ClassId) (dI : Nat → Nat → Nat) (cI cL cZ : ClassId) (dm : Nat) (th : Nat) (np : Nat) (ne : Nat) (fi : Int32) (kp : Int64) (iA : Nat) (tA : Nat) (oA : Nat) (uA : Nat) (wA : Nat) (sA : Nat) (eA : Nat) (vA : Nat) (yA : Nat) (lA : Nat) (ll : Nat) (mn : Nat) (xA : Nat) (cA : Nat) (zA : Nat) (pA : Nat) (bA : Nat) (fA : Nat) (gA : Nat) (bw : Nat) (bs : Nat) (ps : Nat) (qA : Nat) (rA : Nat) (aA : Nat) (kA : Nat) (lt : Nat) (wt : Nat) (fx : Int64) (la : Nat → Nat) (hll : ll ≤ 60) : Met l y_D_laidSet w_D_laidSet ({ frames := 0, cells := 0, slots := 0, locals := 0 } : Room) (va_Pc [.ref dm] (ro_B (dC, dI) classes [(cI, .int), (cL, .long), (cZ, .boolean)] [cg_D dm th np ne fi kp iA tA oA uA wA sA eA vA yA lA ll mn xA cA zA pA bA fA gA bw bs ps qA rA aA kA lt wt fx, cg_N lA cI 60 la])) (ro_Ql (ng_set la ll)) 0 0 ro_A := by
  refine Met.ofW (cc := b_D_laidSet) (maxL := 4) (ret := (some .long)) (by decide) rfl ?_
  intro p e s m args below meth c s₁ B hml hv
  obtain ⟨rfl, hP, hK⟩ := hv
  have hx := B.exec
  have hb := B.bytes
  have hr := B.returns
  have hts := atoms_spec (ws := w_D_laidSet) B.pre
  have hown : s.vm.findClass R_D = some m.cls := findClass_of_methodNamed B.named
  have hlocks := B.notSynchronized
  have iD : ∀ w ∈ w_D, w ∈ w_D_laidSet := fun w h => List.mem_cons_of_mem _ (i_D w h)
  have hS : va_S ro_A s.heap s.heap [] := va_S.rf
  have hP : va_P (dC, dI) classes [cg_D dm th np ne fi kp iA tA oA uA wA sA eA vA yA lA ll mn xA cA zA pA bA fA gA bw bs ps qA rA aA kA lt wt fx, cg_N lA cI 60 la] s.heap := hP
  have hl := lv_entry ([.ref dm]) (n := 4) (Nat.le_of_ble_eq_true rfl)
  rw [lg_entry_eq]
  generalize (lg_sl ([.ref dm]) ++ List.replicate (4 - (lg_sl ([.ref dm])).length) Slot.unset).toArray = ls at hl ⊢
  have hl : lv_has ls 4 [(0, .ref dm)] := hl
  refine lv_lconst (v := lN 0) hx hb d_D_laidSet_0 (by decide) ?_
  refine lv_lstore_n (lv' := [(1, .long (lN 0)), (0, .ref dm)]) hx hb d_D_laidSet_1 rfl hl (by decide) rfl (fun ls hl => ?_)
  refine lv_iconst (v := nI 0) hx hb d_D_laidSet_2 (by decide) ?_
  refine lv_istore_n (lv' := [(3, .int (nI 0)), (1, .long (lN 0)), (0, .ref dm)]) hx hb d_D_laidSet_3 rfl hl (by decide) rfl (fun ls hl => ?_)
  have lp_4 : ∀ (n : Nat) (i : Nat) (sx : Int64), (i ≤ ll) → (sx = ng_set la i) → ll - i < n → ∀ (H : Heap) (locs : List Loc), va_P (dC, dI) classes [cg_D dm th np ne fi kp iA tA oA uA wA sA eA vA yA lA ll mn xA cA zA pA bA fA gA bw bs ps qA rA aA kA lt wt fx, cg_N lA cI 60 la] H → va_S ro_A s.heap H locs → ∀ (ls : Array Slot), lv_has ls 4 [(0, .ref dm), (1, .long sx), (3, .int (nI i))] → W p l e (headSpec w_D_laidSet ({ frames := 0, cells := 0, slots := 0, locals := 0 } : Room)).room s m ([.ref dm] : List Value).toArray below meth c H locs 0 0 (MQ below (ro_Ql (ng_set la ll)) ([.ref dm] : List Value).toArray s 0 0 ro_A) (F0 m 4 ls []) := by
    intro n
    induction n with
    | zero => intro i sx hi ho hme; exact absurd hme (Nat.not_lt_zero _)
    | succ n ih =>
      intro i sx hi ho hme H locs hP hS ls hl
      have ih_4 := ih
      refine lv_iload_n hx hb d_D_laidSet_4 rfl (lv_at hl 2 rfl) ?_
      refine lv_aload_n hx hb d_D_laidSet_5 rfl (lv_at hl 0 rfl) ?_
      refine va_get (D := (dC, dI)) (ci := 5) (v := .int (nI ll)) (C := R_D) (T := F_D) (N := 34) hx hb hts iD hown hK hP 0 rfl rfl 15 (by decide) (hts _ (List.mem_cons_of_mem _ wk_D_127)) (fun _ h9 => h9) rfl d_D_laidSet_6 ?_
      refine nr_icmp_ge (by omega) (by omega) (tgt := 29) hx hb d_D_laidSet_9 (by decide) (fun c_9 => ?_) (fun c_9 => ?_)
      · refine lv_lload_n hx hb d_D_laidSet_29 rfl (lv_at hl 1 rfl) ?_
        exact ro_lret hx hb hr hlocks hS (by rw [ho, show i = ll by omega]) d_D_laidSet_30
      · refine lv_lload_n hx hb d_D_laidSet_12 rfl (lv_at hl 1 rfl) ?_
        refine lv_lconst (v := lN 1) hx hb d_D_laidSet_13 (by decide) ?_
        refine lv_aload_n hx hb d_D_laidSet_14 rfl (lv_at hl 0 rfl) ?_
        refine va_get (D := (dC, dI)) (ci := 5) (v := .ref lA) (C := R_D) (T := F_D) (N := 34) hx hb hts iD hown hK hP 0 rfl rfl 14 (by decide) (hts _ (List.mem_cons_of_mem _ wk_D_38)) (fun _ h9 => h9) rfl d_D_laidSet_15 ?_
        refine lv_iload_n hx hb d_D_laidSet_18 rfl (lv_at hl 2 rfl) ?_
        refine nr_iald hx hb hK hP 1 0 rfl rfl (by omega) (by decide) d_D_laidSet_19 ?_
        refine lv_lshl hx hb d_D_laidSet_20 rfl ?_
        refine nr_asL (v := nb_p (la i)) rfl ?_
        refine lv_lor hx hb d_D_laidSet_21 ?_
        refine lv_lstore_n (lv' := [(1, .long (sx ||| (nb_p (la i)))), (0, .ref dm), (3, .int (nI i))]) hx hb d_D_laidSet_22 rfl hl (by decide) rfl (fun ls hl => ?_)
        refine lv_iinc (v := (nI (i + 1))) (lv' := [(3, .int (nI (i + 1))), (1, .long (sx ||| (nb_p (la i)))), (0, .ref dm)]) hx hb d_D_laidSet_23 hl (k := 2) rfl (nI_1 i) (by decide) rfl (fun ls hl => ?_)
        refine lv_goto (tgt := 4) hx hb d_D_laidSet_26 (by decide) ?_
        exact ih_4 (i + 1) (sx ||| (nb_p (la i))) (by omega) (by subst ho; rfl) (by omega) _ _ hP hS ls (lv_sub hl [2, 1, 0] rfl)
  exact lp_4 (ll - 0 + 1) 0 (lN 0) (by omega) rfl (Nat.lt_succ_self _) _ _ hP hS ls (lv_sub hl [2, 1, 0] rfl)
set_option maxHeartbeats 4000000 in
set_option maxRecDepth 100000 in
theorem c_D_signs (l : Launch) (dC : Nat → ClassId) (dI : Nat → Nat → Nat) (cI cL cZ : ClassId) (dm : Nat) (th : Nat) (np : Nat) (ne : Nat) (fi : Int32) (kp : Int64) (iA : Nat) (tA : Nat) (oA : Nat) (uA : Nat) (wA : Nat) (sA : Nat) (eA : Nat) (vA : Nat) (yA : Nat) (lA : Nat) (ll : Nat) (mn : Nat) (xA : Nat) (cA : Nat) (zA : Nat) (pA : Nat) (bA : Nat) (fA : Nat) (gA : Nat) (bw : Nat) (bs : Nat) (ps : Nat) (qA : Nat) (rA : Nat) (aA : Nat) (kA : Nat) (lt : Nat) (wt : Nat) (fx : Int64) (sg : Nat → Nat) (x : Int64) (hne : ne ≤ 60) : Met l y_D_signs w_D_signs ({ frames := 1, cells := 0, slots := 0, locals := 22 } : Room) (va_Pc [.ref dm, .long x] (rw_B (dC, dI) classes [(cI, .int), (cL, .long), (cZ, .boolean)] [cg_D dm th np ne fi kp iA tA oA uA wA sA eA vA yA lA ll mn xA cA zA pA bA fA gA bw bs ps qA rA aA kA lt wt fx, cg_N sA cI 60 sg])) (rw_Qi (dC, dI) classes (rw_A [cg_D dm th np ne fi kp iA tA oA uA wA sA eA vA yA lA ll mn xA cA zA pA bA fA gA bw bs ps qA rA aA kA lt wt fx, cg_N sA cI 60 sg]) (fun r (u : Unit) => r = if ng_ae ne x = true then ng_osg x sg ne else -1) (fun u => [cg_D dm 0 np ne fi kp iA tA oA uA wA sA eA vA yA lA ll mn xA cA zA pA bA fA gA bw bs ps qA rA aA kA lt wt fx, cg_N sA cI 60 sg])) 0 0 (rw_A [cg_D dm th np ne fi kp iA tA oA uA wA sA eA vA yA lA ll mn xA cA zA pA bA fA gA bw bs ps qA rA aA kA lt wt fx, cg_N sA cI 60 sg]) := by
  refine Met.ofW (cc := b_D_signs) (maxL := 5) (ret := (some .int)) (by decide) rfl ?_
  intro p e s m args below meth c s₁ B hml hv
  obtain ⟨rfl, hP, hK, hD0⟩ := hv
  have hx := B.exec
  have hb := B.bytes
  have hr := B.returns
  have hts := atoms_spec (ws := w_D_signs) B.pre
  have hown : s.vm.findClass R_D = some m.cls := findClass_of_methodNamed B.named
  have hlocks := B.notSynchronized
  have iD : ∀ w ∈ w_D, w ∈ w_D_signs := fun w h => List.mem_cons_of_mem _ (i_D w h)
  have hD := rw_own hD0
  generalize hAe : rw_A [cg_D dm th np ne fi kp iA tA oA uA wA sA eA vA yA lA ll mn xA cA zA pA bA fA gA bw bs ps qA rA aA kA lt wt fx, cg_N sA cI 60 sg] = A at hD ⊢
  have hS : va_S A s.heap s.heap [] := va_S.rf
  have hP : va_P (dC, dI) classes [cg_D dm th np ne fi kp iA tA oA uA wA sA eA vA yA lA ll mn xA cA zA pA bA fA gA bw bs ps qA rA aA kA lt wt fx, cg_N sA cI 60 sg] s.heap := hP
  have hl := lv_entry ([.ref dm, .long x]) (n := 5) (Nat.le_of_ble_eq_true rfl)
  rw [lg_entry_eq]
  generalize (lg_sl ([.ref dm, .long x]) ++ List.replicate (5 - (lg_sl ([.ref dm, .long x])).length) Slot.unset).toArray = ls at hl ⊢
  have hl : lv_has ls 5 [(0, .ref dm), (1, .long x)] := hl
  refine lv_aload_n hx hb d_D_signs_0 rfl (lv_at hl 0 rfl) ?_
  refine lv_iconst (v := nI 0) hx hb d_D_signs_1 (by decide) ?_
  refine va_put (D := (dC, dI)) (ci := 5) (v := .int (nI 0)) (ty := .int) (C := R_D) (T := F_D) (N := 34) hx hb hts iD t_D t_D_ok n_D hown hK hP hD hS 0 rfl rfl 0 (by decide) (hts _ (List.mem_cons_of_mem _ wk_D_75)) (fun _ h9 => h9) rfl (by decide +kernel) rfl rfl (Nat.le_of_ble_eq_true rfl) d_D_signs_2 (fun H locs hP hD hS => ?_)
  have hP : va_P (dC, dI) classes [cg_D dm 0 np ne fi kp iA tA oA uA wA sA eA vA yA lA ll mn xA cA zA pA bA fA gA bw bs ps qA rA aA kA lt wt fx, cg_N sA cI 60 sg] H := hP
  have hD : va_D A [cg_D dm 0 np ne fi kp iA tA oA uA wA sA eA vA yA lA ll mn xA cA zA pA bA fA gA bw bs ps qA rA aA kA lt wt fx, cg_N sA cI 60 sg] := hD
  refine lv_aload_n hx hb d_D_signs_5 rfl (lv_at hl 0 rfl) ?_
  refine lv_lload_n hx hb d_D_signs_6 rfl (lv_at hl 1 rfl) ?_
  refine ro_Vi (As := [.long x]) (rest := []) ⟨hx, hb, hml, hown, hts⟩ (c_D_areEdges l dC dI cI cL cZ dm 0 np ne fi kp iA tA oA uA wA sA eA vA yA lA ll mn xA cA zA pA bA fA gA bw bs ps qA rA aA kA lt wt fx x ) (cwV 1 hts (wg_V wk_D_187 wm_D_areEdges we_D_areEdges wi_D wc_D_areEdges) rfl rfl rfl (by decide +kernel) ⟨Nat.le_of_ble_eq_true rfl, Nat.le_of_ble_eq_true rfl⟩) hK (hP.sub [0] rfl) (q0 := 0) rfl rfl rfl rfl hl.1 rfl (lv_room (Nat.le_of_ble_eq_true rfl)) d_D_signs_7 ⟨Nat.zero_le _, Nat.zero_le _⟩ hS hP (fun H locs hP hS => ?_)
  refine nr_ifneB (tgt := 15) hx hb d_D_signs_10 (by decide) (fun c_10 => ?_) (fun c_10 => ?_)
  · refine lv_iconst (v := nI 0) hx hb d_D_signs_15 (by decide) ?_
    refine lv_istore_n (lv' := [(3, .int (nI 0)), (0, .ref dm), (1, .long x)]) hx hb d_D_signs_16 rfl hl (by decide) rfl (fun ls hl => ?_)
    refine lv_iconst (v := nI 0) hx hb d_D_signs_17 (by decide) ?_
    refine lv_istore (lv' := [(4, .int (nI 0)), (3, .int (nI 0)), (0, .ref dm), (1, .long x)]) hx hb d_D_signs_18 hl (by decide) rfl (fun ls hl => ?_)
    have lp_20 : ∀ (n : Nat) (i : Nat) (od : Int32), (i ≤ ne) → (od = ng_osg x sg i) → ne - i < n → ∀ (H : Heap) (locs : List Loc), va_P (dC, dI) classes [cg_D dm 0 np ne fi kp iA tA oA uA wA sA eA vA yA lA ll mn xA cA zA pA bA fA gA bw bs ps qA rA aA kA lt wt fx, cg_N sA cI 60 sg] H → va_D A [cg_D dm 0 np ne fi kp iA tA oA uA wA sA eA vA yA lA ll mn xA cA zA pA bA fA gA bw bs ps qA rA aA kA lt wt fx, cg_N sA cI 60 sg] → va_S A s.heap H locs → ∀ (ls : Array Slot), lv_has ls 5 [(0, .ref dm), (1, .long x), (3, .int od), (4, .int (nI i))] → W p l e (headSpec w_D_signs ({ frames := 1, cells := 0, slots := 0, locals := 22 } : Room)).room s m ([.ref dm, .long x] : List Value).toArray below meth c H locs 0 0 (MQ below (rw_Qi (dC, dI) classes A (fun r (u : Unit) => r = if ng_ae ne x = true then ng_osg x sg ne else -1) (fun u => [cg_D dm 0 np ne fi kp iA tA oA uA wA sA eA vA yA lA ll mn xA cA zA pA bA fA gA bw bs ps qA rA aA kA lt wt fx, cg_N sA cI 60 sg])) ([.ref dm, .long x] : List Value).toArray s 0 0 A) (F0 m 20 ls []) := by
      intro n
      induction n with
      | zero => intro i od hi ho hme; exact absurd hme (Nat.not_lt_zero _)
      | succ n ih =>
        intro i od hi ho hme H locs hP hD hS ls hl
        have ih_20 := ih
        refine lv_iload hx hb d_D_signs_20 (lv_at hl 3 rfl) ?_
        refine lv_aload_n hx hb d_D_signs_22 rfl (lv_at hl 0 rfl) ?_
        refine va_get (D := (dC, dI)) (ci := 5) (v := .int (nI ne)) (C := R_D) (T := F_D) (N := 34) hx hb hts iD hown hK hP 0 rfl rfl 2 (by decide) (hts _ (List.mem_cons_of_mem _ wk_D_87)) (fun _ h9 => h9) rfl d_D_signs_23 ?_
        refine nr_icmp_ge (by omega) (by omega) (tgt := 56) hx hb d_D_signs_26 (by decide) (fun c_26 => ?_) (fun c_26 => ?_)
        · refine lv_iload_n hx hb d_D_signs_56 rfl (lv_at hl 2 rfl) ?_
          exact rw_iret () hx hb hr hlocks hS hP (by rw [if_pos c_10, ho, show i = ne by omega]) d_D_signs_57
        · refine lv_lload_n hx hb d_D_signs_29 rfl (lv_at hl 1 rfl) ?_
          refine lv_iload hx hb d_D_signs_30 (lv_at hl 3 rfl) ?_
          refine lv_lshr hx hb d_D_signs_32 rfl ?_
          refine lv_lconst (v := lN 1) hx hb d_D_signs_33 (by decide) ?_
          refine lv_land hx hb d_D_signs_34 ?_
          refine nr_asL (v := nb_l (nb_u x i)) (nb_lbt_and1 (by omega)) ?_
          refine lv_lconst (v := lN 1) hx hb d_D_signs_35 (by decide) ?_
          refine W.lcmp hx hb d_D_signs_36 ?_
          refine nr_lifneB (tgt := 50) hx hb d_D_signs_37 (by decide) (fun c_37 => ?_) (fun c_37 => ?_)
          · refine lv_iinc (v := (nI (i + 1))) (lv' := [(4, .int (nI (i + 1))), (0, .ref dm), (1, .long x), (3, .int od)]) hx hb d_D_signs_50 hl (k := 3) rfl (nI_1 i) (by decide) rfl (fun ls hl => ?_)
            refine lv_goto (tgt := 20) hx hb d_D_signs_53 (by decide) ?_
            exact ih_20 (i + 1) od (by omega) (by subst ho; simp [ng_osg, *]) (by omega) _ _ hP hD hS ls (lv_sub hl [1, 2, 3, 0] rfl)
          · refine lv_iload_n hx hb d_D_signs_40 rfl (lv_at hl 2 rfl) ?_
            refine lv_aload_n hx hb d_D_signs_41 rfl (lv_at hl 0 rfl) ?_
            refine va_get (D := (dC, dI)) (ci := 5) (v := .ref sA) (C := R_D) (T := F_D) (N := 34) hx hb hts iD hown hK hP 0 rfl rfl 10 (by decide) (hts _ (List.mem_cons_of_mem _ wk_D_26)) (fun _ h9 => h9) rfl d_D_signs_42 ?_
            refine lv_iload hx hb d_D_signs_45 (lv_at hl 3 rfl) ?_
            refine nr_iald hx hb hK hP 1 0 rfl rfl (by omega) (by decide) d_D_signs_47 ?_
            refine lv_ixor hx hb d_D_signs_48 ?_
            refine lv_istore_n (lv' := [(3, .int (od ^^^ (nI (sg i)))), (0, .ref dm), (1, .long x), (4, .int (nI i))]) hx hb d_D_signs_49 rfl hl (by decide) rfl (fun ls hl => ?_)
            refine lv_iinc (v := (nI (i + 1))) (lv' := [(4, .int (nI (i + 1))), (3, .int (od ^^^ (nI (sg i)))), (0, .ref dm), (1, .long x)]) hx hb d_D_signs_50 hl (k := 3) rfl (nI_1 i) (by decide) rfl (fun ls hl => ?_)
            refine lv_goto (tgt := 20) hx hb d_D_signs_53 (by decide) ?_
            exact ih_20 (i + 1) (od ^^^ (nI (sg i))) (by omega) (by subst ho; simp [ng_osg, *]) (by omega) _ _ hP hD hS ls (lv_sub hl [2, 3, 1, 0] rfl)
    exact lp_20 (ne - 0 + 1) 0 (nI 0) (by omega) rfl (Nat.lt_succ_self _) _ _ hP hD hS ls (lv_sub hl [2, 3, 1, 0] rfl)
  · refine lv_iconst (v := -1) hx hb d_D_signs_13 (by decide) ?_
    exact rw_iret () hx hb hr hlocks hS hP (by rw [c_10]; rfl) d_D_signs_14
set_option maxHeartbeats 4000000 in
set_option maxRecDepth 100000 in
theorem c_D_syndrome (l : Launch) (dC : Nat → ClassId) (dI : Nat → Nat → Nat) (cI cL cZ : ClassId) (dm : Nat) (th : Nat) (np : Nat) (ne : Nat) (fi : Int32) (kp : Int64) (iA : Nat) (tA : Nat) (oA : Nat) (uA : Nat) (wA : Nat) (sA : Nat) (eA : Nat) (vA : Nat) (yA : Nat) (lA : Nat) (ll : Nat) (mn : Nat) (xA : Nat) (cA : Nat) (zA : Nat) (pA : Nat) (bA : Nat) (fA : Nat) (gA : Nat) (bw : Nat) (bs : Nat) (ps : Nat) (qA : Nat) (rA : Nat) (aA : Nat) (kA : Nat) (lt : Nat) (wt : Nat) (fx : Int64) (ib : Nat → Bool) (oe ot : Nat → Nat) (x : Int64) (hne : ne ≤ 60) (hnp : np ≤ 20) : Met l y_D_syndrome w_D_syndrome ({ frames := 1, cells := 0, slots := 0, locals := 22 } : Room) (va_Pc [.ref dm, .long x] (rw_B (dC, dI) classes [(cI, .int), (cL, .long), (cZ, .boolean)] [cg_D dm th np ne fi kp iA tA oA uA wA sA eA vA yA lA ll mn xA cA zA pA bA fA gA bw bs ps qA rA aA kA lt wt fx, cg_B iA cZ 20 ib, cg_N oA cI 60 oe, cg_N uA cI 60 ot])) (rw_Qi (dC, dI) classes (rw_A [cg_D dm th np ne fi kp iA tA oA uA wA sA eA vA yA lA ll mn xA cA zA pA bA fA gA bw bs ps qA rA aA kA lt wt fx, cg_B iA cZ 20 ib, cg_N oA cI 60 oe, cg_N uA cI 60 ot]) (fun r (u : Unit) => r = if ng_ae ne x = true then ng_and (ng_opt x oe ot ne) ib np else -1) (fun u => [cg_D dm 0 np ne fi kp iA tA oA uA wA sA eA vA yA lA ll mn xA cA zA pA bA fA gA bw bs ps qA rA aA kA lt wt fx, cg_B iA cZ 20 ib, cg_N oA cI 60 oe, cg_N uA cI 60 ot])) 0 0 (rw_A [cg_D dm th np ne fi kp iA tA oA uA wA sA eA vA yA lA ll mn xA cA zA pA bA fA gA bw bs ps qA rA aA kA lt wt fx, cg_B iA cZ 20 ib, cg_N oA cI 60 oe, cg_N uA cI 60 ot]) := by
  refine Met.ofW (cc := b_D_syndrome) (maxL := 5) (ret := (some .int)) (by decide) rfl ?_
  intro p e s m args below meth c s₁ B hml hv
  obtain ⟨rfl, hP, hK, hD0⟩ := hv
  have hx := B.exec
  have hb := B.bytes
  have hr := B.returns
  have hts := atoms_spec (ws := w_D_syndrome) B.pre
  have hown : s.vm.findClass R_D = some m.cls := findClass_of_methodNamed B.named
  have hlocks := B.notSynchronized
  have iD : ∀ w ∈ w_D, w ∈ w_D_syndrome := fun w h => List.mem_cons_of_mem _ (i_D w h)
  have hD := rw_own hD0
  generalize hAe : rw_A [cg_D dm th np ne fi kp iA tA oA uA wA sA eA vA yA lA ll mn xA cA zA pA bA fA gA bw bs ps qA rA aA kA lt wt fx, cg_B iA cZ 20 ib, cg_N oA cI 60 oe, cg_N uA cI 60 ot] = A at hD ⊢
  have hS : va_S A s.heap s.heap [] := va_S.rf
  have hP : va_P (dC, dI) classes [cg_D dm th np ne fi kp iA tA oA uA wA sA eA vA yA lA ll mn xA cA zA pA bA fA gA bw bs ps qA rA aA kA lt wt fx, cg_B iA cZ 20 ib, cg_N oA cI 60 oe, cg_N uA cI 60 ot] s.heap := hP
  have hl := lv_entry ([.ref dm, .long x]) (n := 5) (Nat.le_of_ble_eq_true rfl)
  rw [lg_entry_eq]
  generalize (lg_sl ([.ref dm, .long x]) ++ List.replicate (5 - (lg_sl ([.ref dm, .long x])).length) Slot.unset).toArray = ls at hl ⊢
  have hl : lv_has ls 5 [(0, .ref dm), (1, .long x)] := hl
  refine lv_aload_n hx hb d_D_syndrome_0 rfl (lv_at hl 0 rfl) ?_
  refine lv_iconst (v := nI 0) hx hb d_D_syndrome_1 (by decide) ?_
  refine va_put (D := (dC, dI)) (ci := 5) (v := .int (nI 0)) (ty := .int) (C := R_D) (T := F_D) (N := 34) hx hb hts iD t_D t_D_ok n_D hown hK hP hD hS 0 rfl rfl 0 (by decide) (hts _ (List.mem_cons_of_mem _ wk_D_75)) (fun _ h9 => h9) rfl (by decide +kernel) rfl rfl (Nat.le_of_ble_eq_true rfl) d_D_syndrome_2 (fun H locs hP hD hS => ?_)
  have hP : va_P (dC, dI) classes [cg_D dm 0 np ne fi kp iA tA oA uA wA sA eA vA yA lA ll mn xA cA zA pA bA fA gA bw bs ps qA rA aA kA lt wt fx, cg_B iA cZ 20 ib, cg_N oA cI 60 oe, cg_N uA cI 60 ot] H := hP
  have hD : va_D A [cg_D dm 0 np ne fi kp iA tA oA uA wA sA eA vA yA lA ll mn xA cA zA pA bA fA gA bw bs ps qA rA aA kA lt wt fx, cg_B iA cZ 20 ib, cg_N oA cI 60 oe, cg_N uA cI 60 ot] := hD
  refine lv_aload_n hx hb d_D_syndrome_5 rfl (lv_at hl 0 rfl) ?_
  refine lv_lload_n hx hb d_D_syndrome_6 rfl (lv_at hl 1 rfl) ?_
  refine ro_Vi (As := [.long x]) (rest := []) ⟨hx, hb, hml, hown, hts⟩ (c_D_areEdges l dC dI cI cL cZ dm 0 np ne fi kp iA tA oA uA wA sA eA vA yA lA ll mn xA cA zA pA bA fA gA bw bs ps qA rA aA kA lt wt fx x ) (cwV 1 hts (wg_V wk_D_187 wm_D_areEdges we_D_areEdges wi_D wc_D_areEdges) rfl rfl rfl (by decide +kernel) ⟨Nat.le_of_ble_eq_true rfl, Nat.le_of_ble_eq_true rfl⟩) hK (hP.sub [0] rfl) (q0 := 0) rfl rfl rfl rfl hl.1 rfl (lv_room (Nat.le_of_ble_eq_true rfl)) d_D_syndrome_7 ⟨Nat.zero_le _, Nat.zero_le _⟩ hS hP (fun H locs hP hS => ?_)
  refine nr_ifneB (tgt := 15) hx hb d_D_syndrome_10 (by decide) (fun c_10 => ?_) (fun c_10 => ?_)
  · refine lv_iconst (v := nI 0) hx hb d_D_syndrome_15 (by decide) ?_
    refine lv_istore_n (lv' := [(3, .int (nI 0)), (0, .ref dm), (1, .long x)]) hx hb d_D_syndrome_16 rfl hl (by decide) rfl (fun ls hl => ?_)
    refine lv_iconst (v := nI 0) hx hb d_D_syndrome_17 (by decide) ?_
    refine lv_istore (lv' := [(4, .int (nI 0)), (3, .int (nI 0)), (0, .ref dm), (1, .long x)]) hx hb d_D_syndrome_18 hl (by decide) rfl (fun ls hl => ?_)
    have lp_20 : ∀ (n : Nat) (i : Nat) (od : Int32), (i ≤ ne) → (od = ng_opt x oe ot i) → ne - i < n → ∀ (H : Heap) (locs : List Loc), va_P (dC, dI) classes [cg_D dm 0 np ne fi kp iA tA oA uA wA sA eA vA yA lA ll mn xA cA zA pA bA fA gA bw bs ps qA rA aA kA lt wt fx, cg_B iA cZ 20 ib, cg_N oA cI 60 oe, cg_N uA cI 60 ot] H → va_D A [cg_D dm 0 np ne fi kp iA tA oA uA wA sA eA vA yA lA ll mn xA cA zA pA bA fA gA bw bs ps qA rA aA kA lt wt fx, cg_B iA cZ 20 ib, cg_N oA cI 60 oe, cg_N uA cI 60 ot] → va_S A s.heap H locs → ∀ (ls : Array Slot), lv_has ls 5 [(0, .ref dm), (1, .long x), (3, .int od), (4, .int (nI i))] → W p l e (headSpec w_D_syndrome ({ frames := 1, cells := 0, slots := 0, locals := 22 } : Room)).room s m ([.ref dm, .long x] : List Value).toArray below meth c H locs 0 0 (MQ below (rw_Qi (dC, dI) classes A (fun r (u : Unit) => r = if ng_ae ne x = true then ng_and (ng_opt x oe ot ne) ib np else -1) (fun u => [cg_D dm 0 np ne fi kp iA tA oA uA wA sA eA vA yA lA ll mn xA cA zA pA bA fA gA bw bs ps qA rA aA kA lt wt fx, cg_B iA cZ 20 ib, cg_N oA cI 60 oe, cg_N uA cI 60 ot])) ([.ref dm, .long x] : List Value).toArray s 0 0 A) (F0 m 20 ls []) := by
      intro n
      induction n with
      | zero => intro i od hi ho hme; exact absurd hme (Nat.not_lt_zero _)
      | succ n ih =>
        intro i od hi ho hme H locs hP hD hS ls hl
        have ih_20 := ih
        refine lv_iload hx hb d_D_syndrome_20 (lv_at hl 3 rfl) ?_
        refine lv_aload_n hx hb d_D_syndrome_22 rfl (lv_at hl 0 rfl) ?_
        refine va_get (D := (dC, dI)) (ci := 5) (v := .int (nI ne)) (C := R_D) (T := F_D) (N := 34) hx hb hts iD hown hK hP 0 rfl rfl 2 (by decide) (hts _ (List.mem_cons_of_mem _ wk_D_87)) (fun _ h9 => h9) rfl d_D_syndrome_23 ?_
        refine nr_icmp_ge (by omega) (by omega) (tgt := 68) hx hb d_D_syndrome_26 (by decide) (fun c_26 => ?_) (fun c_26 => ?_)
        · refine lv_iconst (v := nI 0) hx hb d_D_syndrome_68 (by decide) ?_
          refine lv_istore (lv' := [(4, .int (nI 0)), (0, .ref dm), (1, .long x), (3, .int od)]) hx hb d_D_syndrome_69 hl (by decide) rfl (fun ls hl => ?_)
          have lp_71 : ∀ (n : Nat) (i : Nat) (od : Int32), (i ≤ np) → (od = ng_and (ng_opt x oe ot ne) ib i) → np - i < n → ∀ (H : Heap) (locs : List Loc), va_P (dC, dI) classes [cg_D dm 0 np ne fi kp iA tA oA uA wA sA eA vA yA lA ll mn xA cA zA pA bA fA gA bw bs ps qA rA aA kA lt wt fx, cg_B iA cZ 20 ib, cg_N oA cI 60 oe, cg_N uA cI 60 ot] H → va_D A [cg_D dm 0 np ne fi kp iA tA oA uA wA sA eA vA yA lA ll mn xA cA zA pA bA fA gA bw bs ps qA rA aA kA lt wt fx, cg_B iA cZ 20 ib, cg_N oA cI 60 oe, cg_N uA cI 60 ot] → va_S A s.heap H locs → ∀ (ls : Array Slot), lv_has ls 5 [(0, .ref dm), (1, .long x), (3, .int od), (4, .int (nI i))] → W p l e (headSpec w_D_syndrome ({ frames := 1, cells := 0, slots := 0, locals := 22 } : Room)).room s m ([.ref dm, .long x] : List Value).toArray below meth c H locs 0 0 (MQ below (rw_Qi (dC, dI) classes A (fun r (u : Unit) => r = if ng_ae ne x = true then ng_and (ng_opt x oe ot ne) ib np else -1) (fun u => [cg_D dm 0 np ne fi kp iA tA oA uA wA sA eA vA yA lA ll mn xA cA zA pA bA fA gA bw bs ps qA rA aA kA lt wt fx, cg_B iA cZ 20 ib, cg_N oA cI 60 oe, cg_N uA cI 60 ot])) ([.ref dm, .long x] : List Value).toArray s 0 0 A) (F0 m 71 ls []) := by
            intro n
            induction n with
            | zero => intro i od hi2 ho2 hme; exact absurd hme (Nat.not_lt_zero _)
            | succ n ih =>
              intro i od hi2 ho2 hme H locs hP hD hS ls hl
              have ih_71 := ih
              refine lv_iload hx hb d_D_syndrome_71 (lv_at hl 3 rfl) ?_
              refine lv_aload_n hx hb d_D_syndrome_73 rfl (lv_at hl 0 rfl) ?_
              refine va_get (D := (dC, dI)) (ci := 5) (v := .int (nI np)) (C := R_D) (T := F_D) (N := 34) hx hb hts iD hown hK hP 0 rfl rfl 1 (by decide) (hts _ (List.mem_cons_of_mem _ wk_D_79)) (fun _ h9 => h9) rfl d_D_syndrome_74 ?_
              refine nr_icmp_ge (by omega) (by omega) (tgt := 105) hx hb d_D_syndrome_77 (by decide) (fun c_77 => ?_) (fun c_77 => ?_)
              · refine lv_iload_n hx hb d_D_syndrome_105 rfl (lv_at hl 2 rfl) ?_
                exact rw_iret () hx hb hr hlocks hS hP (by rw [if_pos c_10, ho2, show i = np by omega]) d_D_syndrome_106
              · refine lv_aload_n hx hb d_D_syndrome_80 rfl (lv_at hl 0 rfl) ?_
                refine va_get (D := (dC, dI)) (ci := 5) (v := .ref iA) (C := R_D) (T := F_D) (N := 34) hx hb hts iD hown hK hP 0 rfl rfl 5 (by decide) (hts _ (List.mem_cons_of_mem _ wk_D_7)) (fun _ h9 => h9) rfl d_D_syndrome_81 ?_
                refine lv_iload hx hb d_D_syndrome_84 (lv_at hl 3 rfl) ?_
                refine nr_zald hx hb hK hP 1 2 rfl rfl (by omega) (by decide) d_D_syndrome_86 ?_
                refine nr_ifeqB (tgt := 99) hx hb d_D_syndrome_87 (by decide) (fun c_87 => ?_) (fun c_87 => ?_)
                · refine lv_iinc (v := (nI (i + 1))) (lv' := [(4, .int (nI (i + 1))), (0, .ref dm), (1, .long x), (3, .int od)]) hx hb d_D_syndrome_99 hl (k := 3) rfl (nI_1 i) (by decide) rfl (fun ls hl => ?_)
                  refine lv_goto (tgt := 71) hx hb d_D_syndrome_102 (by decide) ?_
                  exact ih_71 (i + 1) od (by omega) (by subst ho2; simp [ng_and, *]) (by omega) _ _ hP hD hS ls (lv_sub hl [1, 2, 3, 0] rfl)
                · refine lv_iload_n hx hb d_D_syndrome_90 rfl (lv_at hl 2 rfl) ?_
                  refine lv_iconst (v := nI 1) hx hb d_D_syndrome_91 (by decide) ?_
                  refine lv_iload hx hb d_D_syndrome_92 (lv_at hl 3 rfl) ?_
                  refine lv_ishl hx hb d_D_syndrome_94 ?_
                  refine nr_as (v := nb_o i) rfl ?_
                  refine lv_iconst (v := -1) hx hb d_D_syndrome_95 (by decide) ?_
                  refine lv_ixor hx hb d_D_syndrome_96 ?_
                  refine lv_iand hx hb d_D_syndrome_97 ?_
                  refine lv_istore_n (lv' := [(3, .int (od &&& ((nb_o i) ^^^ (-1)))), (0, .ref dm), (1, .long x), (4, .int (nI i))]) hx hb d_D_syndrome_98 rfl hl (by decide) rfl (fun ls hl => ?_)
                  refine lv_iinc (v := (nI (i + 1))) (lv' := [(4, .int (nI (i + 1))), (3, .int (od &&& ((nb_o i) ^^^ (-1)))), (0, .ref dm), (1, .long x)]) hx hb d_D_syndrome_99 hl (k := 3) rfl (nI_1 i) (by decide) rfl (fun ls hl => ?_)
                  refine lv_goto (tgt := 71) hx hb d_D_syndrome_102 (by decide) ?_
                  exact ih_71 (i + 1) (od &&& ((nb_o i) ^^^ (-1))) (by omega) (by subst ho2; simp [ng_and, *]) (by omega) _ _ hP hD hS ls (lv_sub hl [2, 3, 1, 0] rfl)
          exact lp_71 (np - 0 + 1) 0 od (by omega) (by rw [ho, show i = ne by omega]; rfl) (Nat.lt_succ_self _) _ _ hP hD hS ls (lv_sub hl [1, 2, 3, 0] rfl)
        · refine lv_lload_n hx hb d_D_syndrome_29 rfl (lv_at hl 1 rfl) ?_
          refine lv_iload hx hb d_D_syndrome_30 (lv_at hl 3 rfl) ?_
          refine lv_lshr hx hb d_D_syndrome_32 rfl ?_
          refine lv_lconst (v := lN 1) hx hb d_D_syndrome_33 (by decide) ?_
          refine lv_land hx hb d_D_syndrome_34 ?_
          refine nr_asL (v := nb_l (nb_u x i)) (nb_lbt_and1 (by omega)) ?_
          refine lv_lconst (v := lN 1) hx hb d_D_syndrome_35 (by decide) ?_
          refine W.lcmp hx hb d_D_syndrome_36 ?_
          refine nr_lifneB (tgt := 62) hx hb d_D_syndrome_37 (by decide) (fun c_37 => ?_) (fun c_37 => ?_)
          · refine lv_iinc (v := (nI (i + 1))) (lv' := [(4, .int (nI (i + 1))), (0, .ref dm), (1, .long x), (3, .int od)]) hx hb d_D_syndrome_62 hl (k := 3) rfl (nI_1 i) (by decide) rfl (fun ls hl => ?_)
            refine lv_goto (tgt := 20) hx hb d_D_syndrome_65 (by decide) ?_
            exact ih_20 (i + 1) od (by omega) (by subst ho; simp [ng_opt, *]) (by omega) _ _ hP hD hS ls (lv_sub hl [1, 2, 3, 0] rfl)
          · refine lv_iload_n hx hb d_D_syndrome_40 rfl (lv_at hl 2 rfl) ?_
            refine lv_iconst (v := nI 1) hx hb d_D_syndrome_41 (by decide) ?_
            refine lv_aload_n hx hb d_D_syndrome_42 rfl (lv_at hl 0 rfl) ?_
            refine va_get (D := (dC, dI)) (ci := 5) (v := .ref oA) (C := R_D) (T := F_D) (N := 34) hx hb hts iD hown hK hP 0 rfl rfl 7 (by decide) (hts _ (List.mem_cons_of_mem _ wk_D_17)) (fun _ h9 => h9) rfl d_D_syndrome_43 ?_
            refine lv_iload hx hb d_D_syndrome_46 (lv_at hl 3 rfl) ?_
            refine nr_iald hx hb hK hP 2 0 rfl rfl (by omega) (by decide) d_D_syndrome_48 ?_
            refine lv_ishl hx hb d_D_syndrome_49 ?_
            refine nr_as (v := nb_o (oe i)) rfl ?_
            refine lv_iconst (v := nI 1) hx hb d_D_syndrome_50 (by decide) ?_
            refine lv_aload_n hx hb d_D_syndrome_51 rfl (lv_at hl 0 rfl) ?_
            refine va_get (D := (dC, dI)) (ci := 5) (v := .ref uA) (C := R_D) (T := F_D) (N := 34) hx hb hts iD hown hK hP 0 rfl rfl 8 (by decide) (hts _ (List.mem_cons_of_mem _ wk_D_20)) (fun _ h9 => h9) rfl d_D_syndrome_52 ?_
            refine lv_iload hx hb d_D_syndrome_55 (lv_at hl 3 rfl) ?_
            refine nr_iald hx hb hK hP 3 0 rfl rfl (by omega) (by decide) d_D_syndrome_57 ?_
            refine lv_ishl hx hb d_D_syndrome_58 ?_
            refine nr_as (v := nb_o (ot i)) rfl ?_
            refine lv_ixor hx hb d_D_syndrome_59 ?_
            refine lv_ixor hx hb d_D_syndrome_60 ?_
            refine lv_istore_n (lv' := [(3, .int (od ^^^ ((nb_o (oe i)) ^^^ (nb_o (ot i))))), (0, .ref dm), (1, .long x), (4, .int (nI i))]) hx hb d_D_syndrome_61 rfl hl (by decide) rfl (fun ls hl => ?_)
            refine lv_iinc (v := (nI (i + 1))) (lv' := [(4, .int (nI (i + 1))), (3, .int (od ^^^ ((nb_o (oe i)) ^^^ (nb_o (ot i))))), (0, .ref dm), (1, .long x)]) hx hb d_D_syndrome_62 hl (k := 3) rfl (nI_1 i) (by decide) rfl (fun ls hl => ?_)
            refine lv_goto (tgt := 20) hx hb d_D_syndrome_65 (by decide) ?_
            exact ih_20 (i + 1) (od ^^^ ((nb_o (oe i)) ^^^ (nb_o (ot i)))) (by omega) (by subst ho; simp [ng_opt, *]) (by omega) _ _ hP hD hS ls (lv_sub hl [2, 3, 1, 0] rfl)
    exact lp_20 (ne - 0 + 1) 0 (nI 0) (by omega) rfl (Nat.lt_succ_self _) _ _ hP hD hS ls (lv_sub hl [2, 3, 1, 0] rfl)
  · refine lv_iconst (v := -1) hx hb d_D_syndrome_13 (by decide) ?_
    exact rw_iret () hx hb hr hlocks hS hP (by rw [c_10]; rfl) d_D_syndrome_14
set_option maxHeartbeats 4000000 in
set_option maxRecDepth 100000 in
theorem c_D_total (l : Launch) (dC : Nat → ClassId) (dI : Nat → Nat → Nat) (cI cL cZ : ClassId) (dm : Nat) (th : Nat) (np : Nat) (ne : Nat) (fi : Int32) (kp : Int64) (iA : Nat) (tA : Nat) (oA : Nat) (uA : Nat) (wA : Nat) (sA : Nat) (eA : Nat) (vA : Nat) (yA : Nat) (lA : Nat) (ll : Nat) (mn : Nat) (xA : Nat) (cA : Nat) (zA : Nat) (pA : Nat) (bA : Nat) (fA : Nat) (gA : Nat) (bw : Nat) (bs : Nat) (ps : Nat) (qA : Nat) (rA : Nat) (aA : Nat) (kA : Nat) (lt : Nat) (wt : Nat) (fx : Int64) (ie : Nat → Bool) (x : Int32) (hne : ne ≤ 60) : Met l y_D_total w_D_total ({ frames := 0, cells := 0, slots := 0, locals := 0 } : Room) (va_Pc [.ref dm, .int x] (rw_B (dC, dI) classes [(cI, .int), (cL, .long), (cZ, .boolean)] [cg_D dm th np ne fi kp iA tA oA uA wA sA eA vA yA lA ll mn xA cA zA pA bA fA gA bw bs ps qA rA aA kA lt wt fx, cg_B eA cZ 60 ie])) (rw_Qi (dC, dI) classes (rw_A [cg_D dm th np ne fi kp iA tA oA uA wA sA eA vA yA lA ll mn xA cA zA pA bA fA gA bw bs ps qA rA aA kA lt wt fx, cg_B eA cZ 60 ie]) (fun r (u : Unit) => r = ng_totD np ne fi ps ie x) (fun u => [cg_D dm 0 np ne fi kp iA tA oA uA wA sA eA vA yA lA ll mn xA cA zA pA bA fA gA bw bs ps qA rA aA kA lt wt fx, cg_B eA cZ 60 ie])) 0 0 (rw_A [cg_D dm th np ne fi kp iA tA oA uA wA sA eA vA yA lA ll mn xA cA zA pA bA fA gA bw bs ps qA rA aA kA lt wt fx, cg_B eA cZ 60 ie]) := by
  refine Met.ofW (cc := b_D_total) (maxL := 4) (ret := (some .int)) (by decide) rfl ?_
  intro p e s m args below meth c s₁ B hml hv
  obtain ⟨rfl, hP, hK, hD0⟩ := hv
  have hx := B.exec
  have hb := B.bytes
  have hr := B.returns
  have hts := atoms_spec (ws := w_D_total) B.pre
  have hown : s.vm.findClass R_D = some m.cls := findClass_of_methodNamed B.named
  have hlocks := B.notSynchronized
  have iD : ∀ w ∈ w_D, w ∈ w_D_total := fun w h => List.mem_cons_of_mem _ (i_D w h)
  have hD := rw_own hD0
  generalize hAe : rw_A [cg_D dm th np ne fi kp iA tA oA uA wA sA eA vA yA lA ll mn xA cA zA pA bA fA gA bw bs ps qA rA aA kA lt wt fx, cg_B eA cZ 60 ie] = A at hD ⊢
  have hS : va_S A s.heap s.heap [] := va_S.rf
  have hP : va_P (dC, dI) classes [cg_D dm th np ne fi kp iA tA oA uA wA sA eA vA yA lA ll mn xA cA zA pA bA fA gA bw bs ps qA rA aA kA lt wt fx, cg_B eA cZ 60 ie] s.heap := hP
  have hl := lv_entry ([.ref dm, .int x]) (n := 4) (Nat.le_of_ble_eq_true rfl)
  rw [lg_entry_eq]
  generalize (lg_sl ([.ref dm, .int x]) ++ List.replicate (4 - (lg_sl ([.ref dm, .int x])).length) Slot.unset).toArray = ls at hl ⊢
  have hl : lv_has ls 4 [(0, .ref dm), (1, .int x)] := hl
  refine lv_aload_n hx hb d_D_total_0 rfl (lv_at hl 0 rfl) ?_
  refine lv_iconst (v := nI 0) hx hb d_D_total_1 (by decide) ?_
  refine va_put (D := (dC, dI)) (ci := 5) (v := .int (nI 0)) (ty := .int) (C := R_D) (T := F_D) (N := 34) hx hb hts iD t_D t_D_ok n_D hown hK hP hD hS 0 rfl rfl 0 (by decide) (hts _ (List.mem_cons_of_mem _ wk_D_75)) (fun _ h9 => h9) rfl (by decide +kernel) rfl rfl (Nat.le_of_ble_eq_true rfl) d_D_total_2 (fun H locs hP hD hS => ?_)
  have hP : va_P (dC, dI) classes [cg_D dm 0 np ne fi kp iA tA oA uA wA sA eA vA yA lA ll mn xA cA zA pA bA fA gA bw bs ps qA rA aA kA lt wt fx, cg_B eA cZ 60 ie] H := hP
  have hD : va_D A [cg_D dm 0 np ne fi kp iA tA oA uA wA sA eA vA yA lA ll mn xA cA zA pA bA fA gA bw bs ps qA rA aA kA lt wt fx, cg_B eA cZ 60 ie] := hD
  refine lv_iconst (v := nI 0) hx hb d_D_total_5 (by decide) ?_
  refine lv_istore_n (lv' := [(2, .int (nI 0)), (0, .ref dm), (1, .int x)]) hx hb d_D_total_6 rfl hl (by decide) rfl (fun ls hl => ?_)
  refine lv_iload_n hx hb d_D_total_7 rfl (lv_at hl 2 rfl) ?_
  rcases ng_sw5 x with hsw | hsw | hsw | hsw | hsw | hsw
  · refine nr_as (v := nI 0) hsw ?_
    refine lv_tableIn (tgt := 44) hx hb d_D_total_8 (by decide) (by decide) rfl (by decide) ?_
    refine lv_aload_n hx hb d_D_total_44 rfl (lv_at hl 1 rfl) ?_
    refine va_get (D := (dC, dI)) (ci := 5) (v := .int (nI np)) (C := R_D) (T := F_D) (N := 34) hx hb hts iD hown hK hP 0 rfl rfl 1 (by decide) (hts _ (List.mem_cons_of_mem _ wk_D_79)) (fun _ h9 => h9) rfl d_D_total_45 ?_
    exact rw_iret () hx hb hr hlocks hS hP (by rw [hsw]; rfl) d_D_total_48
  · refine nr_as (v := nI 1) hsw ?_
    refine lv_tableIn (tgt := 49) hx hb d_D_total_8 (by decide) (by decide) rfl (by decide) ?_
    refine lv_aload_n hx hb d_D_total_49 rfl (lv_at hl 1 rfl) ?_
    refine va_get (D := (dC, dI)) (ci := 5) (v := .int (nI ne)) (C := R_D) (T := F_D) (N := 34) hx hb hts iD hown hK hP 0 rfl rfl 2 (by decide) (hts _ (List.mem_cons_of_mem _ wk_D_87)) (fun _ h9 => h9) rfl d_D_total_50 ?_
    exact rw_iret () hx hb hr hlocks hS hP (by rw [hsw]; rfl) d_D_total_53
  · refine nr_as (v := nI 2) hsw ?_
    refine lv_tableIn (tgt := 54) hx hb d_D_total_8 (by decide) (by decide) rfl (by decide) ?_
    refine lv_aload_n hx hb d_D_total_54 rfl (lv_at hl 1 rfl) ?_
    refine va_get (D := (dC, dI)) (ci := 5) (v := .int fi) (C := R_D) (T := F_D) (N := 34) hx hb hts iD hown hK hP 0 rfl rfl 3 (by decide) (hts _ (List.mem_cons_of_mem _ wk_D_110)) (fun _ h9 => h9) rfl d_D_total_55 ?_
    exact rw_iret () hx hb hr hlocks hS hP (by rw [hsw]; rfl) d_D_total_58
  · refine nr_as (v := nI 3) hsw ?_
    refine lv_tableIn (tgt := 59) hx hb d_D_total_8 (by decide) (by decide) rfl (by decide) ?_
    refine lv_aload_n hx hb d_D_total_59 rfl (lv_at hl 1 rfl) ?_
    refine va_get (D := (dC, dI)) (ci := 5) (v := .int (nI ps)) (C := R_D) (T := F_D) (N := 34) hx hb hts iD hown hK hP 0 rfl rfl 26 (by decide) (hts _ (List.mem_cons_of_mem _ wk_D_166)) (fun _ h9 => h9) rfl d_D_total_60 ?_
    exact rw_iret () hx hb hr hlocks hS hP (by rw [hsw]; rfl) d_D_total_63
  · refine nr_as (v := nI 4) hsw ?_
    refine lv_tableIn (tgt := 64) hx hb d_D_total_8 (by decide) (by decide) rfl (by decide) ?_
    refine lv_iconst (v := nI 0) hx hb d_D_total_64 (by decide) ?_
    refine lv_istore_n (lv' := [(3, .int (nI 0)), (2, .int (nI 0)), (0, .ref dm), (1, .int x)]) hx hb d_D_total_65 rfl hl (by decide) rfl (fun ls hl => ?_)
    have lp_66 : ∀ (n : Nat) (i n1 : Nat), (i ≤ ne) → (n1 = dm_ct ie i) → ne - i < n → ∀ (H : Heap) (locs : List Loc), va_P (dC, dI) classes [cg_D dm 0 np ne fi kp iA tA oA uA wA sA eA vA yA lA ll mn xA cA zA pA bA fA gA bw bs ps qA rA aA kA lt wt fx, cg_B eA cZ 60 ie] H → va_D A [cg_D dm 0 np ne fi kp iA tA oA uA wA sA eA vA yA lA ll mn xA cA zA pA bA fA gA bw bs ps qA rA aA kA lt wt fx, cg_B eA cZ 60 ie] → va_S A s.heap H locs → ∀ (ls : Array Slot), lv_has ls 4 [(0, .ref dm), (2, .int (nI n1)), (3, .int (nI i))] → W p l e (headSpec w_D_total ({ frames := 0, cells := 0, slots := 0, locals := 0 } : Room)).room s m ([.ref dm, .int x] : List Value).toArray below meth c H locs 0 0 (MQ below (rw_Qi (dC, dI) classes A (fun r (u : Unit) => r = ng_totD np ne fi ps ie x) (fun u => [cg_D dm 0 np ne fi kp iA tA oA uA wA sA eA vA yA lA ll mn xA cA zA pA bA fA gA bw bs ps qA rA aA kA lt wt fx, cg_B eA cZ 60 ie])) ([.ref dm, .int x] : List Value).toArray s 0 0 A) (F0 m 66 ls []) := by
      intro n
      induction n with
      | zero => intro i n1 hi hc hme; exact absurd hme (Nat.not_lt_zero _)
      | succ n ih =>
        intro i n1 hi hc hme H locs hP hD hS ls hl
        have ih_66 := ih
        refine lv_iload_n hx hb d_D_total_66 rfl (lv_at hl 2 rfl) ?_
        refine lv_aload_n hx hb d_D_total_67 rfl (lv_at hl 0 rfl) ?_
        refine va_get (D := (dC, dI)) (ci := 5) (v := .int (nI ne)) (C := R_D) (T := F_D) (N := 34) hx hb hts iD hown hK hP 0 rfl rfl 2 (by decide) (hts _ (List.mem_cons_of_mem _ wk_D_87)) (fun _ h9 => h9) rfl d_D_total_68 ?_
        refine nr_icmp_ge (by omega) (by omega) (tgt := 97) hx hb d_D_total_71 (by decide) (fun c_71 => ?_) (fun c_71 => ?_)
        · refine lv_iload_n hx hb d_D_total_97 rfl (lv_at hl 1 rfl) ?_
          exact rw_iret () hx hb hr hlocks hS hP (by rw [hsw, hc, show i = ne by omega]; rfl) d_D_total_98
        · refine lv_iload_n hx hb d_D_total_74 rfl (lv_at hl 1 rfl) ?_
          refine lv_aload_n hx hb d_D_total_75 rfl (lv_at hl 0 rfl) ?_
          refine va_get (D := (dC, dI)) (ci := 5) (v := .ref eA) (C := R_D) (T := F_D) (N := 34) hx hb hts iD hown hK hP 0 rfl rfl 11 (by decide) (hts _ (List.mem_cons_of_mem _ wk_D_29)) (fun _ h9 => h9) rfl d_D_total_76 ?_
          refine lv_iload_n hx hb d_D_total_79 rfl (lv_at hl 2 rfl) ?_
          refine nr_zald hx hb hK hP 1 2 rfl rfl (by omega) (by decide) d_D_total_80 ?_
          refine nr_ifeqB (tgt := 88) hx hb d_D_total_81 (by decide) (fun c_81 => ?_) (fun c_81 => ?_)
          · refine lv_iconst (v := nI 0) hx hb d_D_total_88 (by decide) ?_
            refine nr_iadd hx hb d_D_total_89 ?_
            refine lv_istore_n (lv' := [(2, .int (nI (n1 + 0))), (0, .ref dm), (3, .int (nI i))]) hx hb d_D_total_90 rfl hl (by decide) rfl (fun ls hl => ?_)
            refine lv_iinc (v := (nI (i + 1))) (lv' := [(3, .int (nI (i + 1))), (2, .int (nI (n1 + 0))), (0, .ref dm)]) hx hb d_D_total_91 hl (k := 2) rfl (nI_1 i) (by decide) rfl (fun ls hl => ?_)
            refine lv_goto (tgt := 66) hx hb d_D_total_94 (by decide) ?_
            exact ih_66 (i + 1) (n1 + 0) (by omega) (by rw [hc]; simp [dm_ct, *]) (by omega) _ _ hP hD hS ls (lv_sub hl [2, 1, 0] rfl)
          · refine lv_iconst (v := nI 1) hx hb d_D_total_84 (by decide) ?_
            refine lv_goto (tgt := 89) hx hb d_D_total_85 (by decide) ?_
            refine nr_iadd hx hb d_D_total_89 ?_
            refine lv_istore_n (lv' := [(2, .int (nI (n1 + 1))), (0, .ref dm), (3, .int (nI i))]) hx hb d_D_total_90 rfl hl (by decide) rfl (fun ls hl => ?_)
            refine lv_iinc (v := (nI (i + 1))) (lv' := [(3, .int (nI (i + 1))), (2, .int (nI (n1 + 1))), (0, .ref dm)]) hx hb d_D_total_91 hl (k := 2) rfl (nI_1 i) (by decide) rfl (fun ls hl => ?_)
            refine lv_goto (tgt := 66) hx hb d_D_total_94 (by decide) ?_
            exact ih_66 (i + 1) (n1 + 1) (by omega) (by rw [hc]; simp [dm_ct, *]) (by omega) _ _ hP hD hS ls (lv_sub hl [2, 1, 0] rfl)
    exact lp_66 (ne - 0 + 1) 0 0 (by omega) rfl (Nat.lt_succ_self _) _ _ hP hD hS ls (lv_sub hl [2, 1, 0] rfl)
  · refine lv_tableOut (tgt := 99) hx hb d_D_total_8 hsw (by decide) ?_
    refine lv_iconst (v := -1) hx hb d_D_total_99 (by decide) ?_
    exact rw_iret () hx hb hr hlocks hS hP ((ng_totD_d hsw).symm) d_D_total_100
