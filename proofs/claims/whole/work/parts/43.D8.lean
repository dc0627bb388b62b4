set_option maxHeartbeats 4000000 in
set_option maxRecDepth 100000 in
theorem c_D_firstFree (l : Launch) (dC : Nat → ClassId) (dI : Nat → Nat → Nat) (cI cL cZ : ClassId) (dm : Nat) (th : Nat) (np : Nat) (ne : Nat) (fi : Int32) (kp : Int64) (iA : Nat) (tA : Nat) (oA : Nat) (uA : Nat) (wA : Nat) (sA : Nat) (eA : Nat) (vA : Nat) (yA : Nat) (lA : Nat) (ll : Nat) (mn : Nat) (xA : Nat) (cA : Nat) (zA : Nat) (pA : Nat) (bA : Nat) (fA : Nat) (gA : Nat) (bw : Nat) (bs : Nat) (ps : Nat) (qA : Nat) (rA : Nat) (aA : Nat) (kA : Nat) (lt : Nat) (wt : Nat) (fx : Int64) (pr : Nat → Option Nat) (hmn : mn ≤ 10) (hpr : ∀ i j, i < mn → pr i = some j → j ≤ 10) : Met l y_D_firstFree w_D_firstFree ({ frames := 0, cells := 0, slots := 0, locals := 0 } : Room) (va_Pc [.ref dm] (ro_B (dC, dI) classes [(cI, .int), (cL, .long), (cZ, .boolean)] [cg_D dm th np ne fi kp iA tA oA uA wA sA eA vA yA lA ll mn xA cA zA pA bA fA gA bw bs ps qA rA aA kA lt wt fx, cg_O pA cI 10 pr])) (ro_Qi (nI (ng_ff pr mn))) 0 0 ro_A := by
  refine Met.ofW (cc := b_D_firstFree) (maxL := 2) (ret := (some .int)) (by decide) rfl ?_
  intro p e s m args below meth c s₁ B hml hv
  obtain ⟨rfl, hP, hK⟩ := hv
  have hx := B.exec
  have hb := B.bytes
  have hr := B.returns
  have hts := atoms_spec (ws := w_D_firstFree) B.pre
  have hown : s.vm.findClass R_D = some m.cls := findClass_of_methodNamed B.named
  have hlocks := B.notSynchronized
  have iD : ∀ w ∈ w_D, w ∈ w_D_firstFree := fun w h => List.mem_cons_of_mem _ (i_D w h)
  have hS : va_S ro_A s.heap s.heap [] := va_S.rf
  have hP : va_P (dC, dI) classes [cg_D dm th np ne fi kp iA tA oA uA wA sA eA vA yA lA ll mn xA cA zA pA bA fA gA bw bs ps qA rA aA kA lt wt fx, cg_O pA cI 10 pr] s.heap := hP
  have hl := lv_entry ([.ref dm]) (n := 2) (Nat.le_of_ble_eq_true rfl)
  rw [lg_entry_eq]
  generalize (lg_sl ([.ref dm]) ++ List.replicate (2 - (lg_sl ([.ref dm])).length) Slot.unset).toArray = ls at hl ⊢
  have hl : lv_has ls 2 [(0, .ref dm)] := hl
  refine lv_iconst (v := nI 0) hx hb d_D_firstFree_0 (by decide) ?_
  refine lv_istore_n (lv' := [(1, .int (nI 0)), (0, .ref dm)]) hx hb d_D_firstFree_1 rfl hl (by decide) rfl (fun ls hl => ?_)
  have lp_2 : ∀ (n : Nat) (i : Nat), (i ≤ mn) → (ng_fst (fun i => (pr i).isNone) mn 0 = ng_fst (fun i => (pr i).isNone) (mn - i) i) → mn - i < n → ∀ (H : Heap) (locs : List Loc), va_P (dC, dI) classes [cg_D dm th np ne fi kp iA tA oA uA wA sA eA vA yA lA ll mn xA cA zA pA bA fA gA bw bs ps qA rA aA kA lt wt fx, cg_O pA cI 10 pr] H → va_S ro_A s.heap H locs → ∀ (ls : Array Slot), lv_has ls 2 [(0, .ref dm), (1, .int (nI i))] → W p l e (headSpec w_D_firstFree ({ frames := 0, cells := 0, slots := 0, locals := 0 } : Room)).room s m ([.ref dm] : List Value).toArray below meth c H locs 0 0 (MQ below (ro_Qi (nI (ng_ff pr mn))) ([.ref dm] : List Value).toArray s 0 0 ro_A) (F0 m 2 ls []) := by
    intro n
    induction n with
    | zero => intro i hi hq hme; exact absurd hme (Nat.not_lt_zero _)
    | succ n ih =>
      intro i hi hq hme H locs hP hS ls hl
      have ih_2 := ih
      refine lv_iload_n hx hb d_D_firstFree_2 rfl (lv_at hl 1 rfl) ?_
      refine lv_aload_n hx hb d_D_firstFree_3 rfl (lv_at hl 0 rfl) ?_
      refine va_get (D := (dC, dI)) (ci := 5) (v := .int (nI mn)) (C := R_D) (T := F_D) (N := 34) hx hb hts iD hown hK hP 0 rfl rfl 16 (by decide) (hts _ (List.mem_cons_of_mem _ wk_D_136)) (fun _ h9 => h9) rfl d_D_firstFree_4 ?_
      refine nr_icmp_ge (by omega) (by omega) (tgt := 28) hx hb d_D_firstFree_7 (by decide) (fun c_7 => ?_) (fun c_7 => ?_)
      · refine lv_aload_n hx hb d_D_firstFree_28 rfl (lv_at hl 0 rfl) ?_
        refine va_get (D := (dC, dI)) (ci := 5) (v := .int (nI mn)) (C := R_D) (T := F_D) (N := 34) hx hb hts iD hown hK hP 0 rfl rfl 16 (by decide) (hts _ (List.mem_cons_of_mem _ wk_D_136)) (fun _ h9 => h9) rfl d_D_firstFree_29 ?_
        exact ro_iret hx hb hr hlocks hS (by rw [ng_ff, hq, show mn - i = 0 by omega]; rfl) d_D_firstFree_32
      · refine lv_aload_n hx hb d_D_firstFree_10 rfl (lv_at hl 0 rfl) ?_
        refine va_get (D := (dC, dI)) (ci := 5) (v := .ref pA) (C := R_D) (T := F_D) (N := 34) hx hb hts iD hown hK hP 0 rfl rfl 20 (by decide) (hts _ (List.mem_cons_of_mem _ wk_D_50)) (fun _ h9 => h9) rfl d_D_firstFree_11 ?_
        refine lv_iload_n hx hb d_D_firstFree_14 rfl (lv_at hl 1 rfl) ?_
        refine nr_oald hx hb hK hP 1 0 rfl rfl (by omega) (by decide) d_D_firstFree_15 ?_
        rcases hpi : pr i with _ | j
        · refine nr_as (v := -1) rfl ?_
          refine lv_iconst (v := -1) hx hb d_D_firstFree_16 (by decide) ?_
          refine lv_icmp_ne (tgt := 22) hx hb d_D_firstFree_17 (by decide) (fun c => absurd rfl c) (fun c_17 => ?_)
          refine lv_iload_n hx hb d_D_firstFree_20 rfl (lv_at hl 1 rfl) ?_
          exact ro_iret hx hb hr hlocks hS (by rw [ng_ff, hq, ng_fst_t (P := (fun i => (pr i).isNone)) c_7 (by simp [hpi])]; rfl) d_D_firstFree_21
        · refine nr_as (v := nI j) rfl ?_
          have hj10 := hpr i j c_7 hpi
          refine lv_iconst (v := -1) hx hb d_D_firstFree_16 (by decide) ?_
          refine lv_icmp_ne (tgt := 22) hx hb d_D_firstFree_17 (by decide) (fun c_17 => ?_) (fun c => absurd c (ng_nm1 (by omega)))
          refine lv_iinc (v := (nI (i + 1))) (lv' := [(1, .int (nI (i + 1))), (0, .ref dm)]) hx hb d_D_firstFree_22 hl (k := 1) rfl (nI_1 i) (by decide) rfl (fun ls hl => ?_)
          refine lv_goto (tgt := 2) hx hb d_D_firstFree_25 (by decide) ?_
          exact ih_2 (i + 1) (by omega) (hq.trans (ng_fst_f (P := (fun i => (pr i).isNone)) c_7 (by simp [hpi]))) (by omega) _ _ hP hS ls (lv_sub hl [1, 0] rfl)
  exact lp_2 (mn - 0 + 1) 0 (by omega) rfl (Nat.lt_succ_self _) _ _ hP hS ls (lv_sub hl [1, 0] rfl)
set_option maxHeartbeats 4000000 in
set_option maxRecDepth 100000 in
theorem c_D_unpair (l : Launch) (dC : Nat → ClassId) (dI : Nat → Nat → Nat) (cI cL cZ : ClassId) (dm : Nat) (th : Nat) (np : Nat) (ne : Nat) (fi : Int32) (kp : Int64) (iA : Nat) (tA : Nat) (oA : Nat) (uA : Nat) (wA : Nat) (sA : Nat) (eA : Nat) (vA : Nat) (yA : Nat) (lA : Nat) (ll : Nat) (mn : Nat) (xA : Nat) (cA : Nat) (zA : Nat) (pA : Nat) (bA : Nat) (fA : Nat) (gA : Nat) (bw : Nat) (bs : Nat) (ps : Nat) (qA : Nat) (rA : Nat) (aA : Nat) (kA : Nat) (lt : Nat) (wt : Nat) (fx : Int64) (pr : Nat → Option Nat) (i j : Nat) (hi : i < 10) (hij : i ≠ j) (hj : j ≤ 10) (hp : pr i = some j) : Met l y_D_unpair w_D_unpair ({ frames := 0, cells := 0, slots := 0, locals := 0 } : Room) (va_Pc [.ref dm, .int (nI i)] (rw_B (dC, dI) classes [(cI, .int), (cL, .long), (cZ, .boolean)] [cg_D dm th np ne fi kp iA tA oA uA wA sA eA vA yA lA ll mn xA cA zA pA bA fA gA bw bs ps qA rA aA kA lt wt fx, cg_O pA cI 10 pr])) (rw_Qv (dC, dI) classes (rw_A [cg_D dm th np ne fi kp iA tA oA uA wA sA eA vA yA lA ll mn xA cA zA pA bA fA gA bw bs ps qA rA aA kA lt wt fx, cg_O pA cI 10 pr]) (fun (u : Unit) => True) (fun u => [cg_D dm th np ne fi kp iA tA oA uA wA sA eA vA yA lA ll mn xA cA zA pA bA fA gA bw bs ps qA rA aA kA lt wt fx, cg_O pA cI 10 (ng_un pr i j)])) 0 0 (rw_A [cg_D dm th np ne fi kp iA tA oA uA wA sA eA vA yA lA ll mn xA cA zA pA bA fA gA bw bs ps qA rA aA kA lt wt fx, cg_O pA cI 10 pr]) := by
  refine Met.ofW (cc := b_D_unpair) (maxL := 2) (ret := none) (by decide) rfl ?_
  intro p e s m args below meth c s₁ B hml hv
  obtain ⟨rfl, hP, hK, hD0⟩ := hv
  have hx := B.exec
  have hb := B.bytes
  have hr := B.returns
  have hts := atoms_spec (ws := w_D_unpair) B.pre
  have hown : s.vm.findClass R_D = some m.cls := findClass_of_methodNamed B.named
  have hlocks := B.notSynchronized
  have iD : ∀ w ∈ w_D, w ∈ w_D_unpair := fun w h => List.mem_cons_of_mem _ (i_D w h)
  have hD := rw_own hD0
  generalize hAe : rw_A [cg_D dm th np ne fi kp iA tA oA uA wA sA eA vA yA lA ll mn xA cA zA pA bA fA gA bw bs ps qA rA aA kA lt wt fx, cg_O pA cI 10 pr] = A at hD ⊢
  have hS : va_S A s.heap s.heap [] := va_S.rf
  have hP : va_P (dC, dI) classes [cg_D dm th np ne fi kp iA tA oA uA wA sA eA vA yA lA ll mn xA cA zA pA bA fA gA bw bs ps qA rA aA kA lt wt fx, cg_O pA cI 10 pr] s.heap := hP
  have hl := lv_entry ([.ref dm, .int (nI i)]) (n := 2) (Nat.le_of_ble_eq_true rfl)
  rw [lg_entry_eq]
  generalize (lg_sl ([.ref dm, .int (nI i)]) ++ List.replicate (2 - (lg_sl ([.ref dm, .int (nI i)])).length) Slot.unset).toArray = ls at hl ⊢
  have hl : lv_has ls 2 [(0, .ref dm), (1, .int (nI i))] := hl
  refine lv_aload_n hx hb d_D_unpair_0 rfl (lv_at hl 0 rfl) ?_
  refine va_get (D := (dC, dI)) (ci := 5) (v := .ref pA) (C := R_D) (T := F_D) (N := 34) hx hb hts iD hown hK hP 0 rfl rfl 20 (by decide) (hts _ (List.mem_cons_of_mem _ wk_D_50)) (fun _ h9 => h9) rfl d_D_unpair_1 ?_
  refine lv_iload_n hx hb d_D_unpair_4 rfl (lv_at hl 1 rfl) ?_
  refine nr_oald hx hb hK hP 1 0 rfl rfl (by omega) (by decide) d_D_unpair_5 ?_
  rw [hp]
  refine nr_as (v := nI j) rfl ?_
  refine lv_bipush (v := nI 10) hx hb d_D_unpair_6 (by decide) ?_
  refine nr_icmp_ge (by omega) (by omega) (tgt := 23) hx hb d_D_unpair_8 (by decide) (fun c_8 => ?_) (fun c_8 => ?_)
  · refine lv_aload_n hx hb d_D_unpair_23 rfl (lv_at hl 0 rfl) ?_
    refine va_get (D := (dC, dI)) (ci := 5) (v := .ref pA) (C := R_D) (T := F_D) (N := 34) hx hb hts iD hown hK hP 0 rfl rfl 20 (by decide) (hts _ (List.mem_cons_of_mem _ wk_D_50)) (fun _ h9 => h9) rfl d_D_unpair_24 ?_
    refine lv_iload_n hx hb d_D_unpair_27 rfl (lv_at hl 1 rfl) ?_
    refine lv_iconst (v := -1) hx hb d_D_unpair_28 (by decide) ?_
    refine nr_oast (x := none) hx hb hK hP hD hS 1 0 rfl rfl (by omega) (by decide) d_D_unpair_29 (fun H locs hP hD hS => ?_)
    have hP : va_P (dC, dI) classes [cg_D dm th np ne fi kp iA tA oA uA wA sA eA vA yA lA ll mn xA cA zA pA bA fA gA bw bs ps qA rA aA kA lt wt fx, cg_O pA cI 10 (va_up pr i none)] H := hP
    have hD : va_D A [cg_D dm th np ne fi kp iA tA oA uA wA sA eA vA yA lA ll mn xA cA zA pA bA fA gA bw bs ps qA rA aA kA lt wt fx, cg_O pA cI 10 (va_up pr i none)] := hD
    rw [show ng_un pr i j = va_up pr i none from if_neg (by omega)]
    exact rw_vret () hx hb hr hlocks hS hP trivial d_D_unpair_30
  · refine lv_aload_n hx hb d_D_unpair_11 rfl (lv_at hl 0 rfl) ?_
    refine va_get (D := (dC, dI)) (ci := 5) (v := .ref pA) (C := R_D) (T := F_D) (N := 34) hx hb hts iD hown hK hP 0 rfl rfl 20 (by decide) (hts _ (List.mem_cons_of_mem _ wk_D_50)) (fun _ h9 => h9) rfl d_D_unpair_12 ?_
    refine lv_aload_n hx hb d_D_unpair_15 rfl (lv_at hl 0 rfl) ?_
    refine va_get (D := (dC, dI)) (ci := 5) (v := .ref pA) (C := R_D) (T := F_D) (N := 34) hx hb hts iD hown hK hP 0 rfl rfl 20 (by decide) (hts _ (List.mem_cons_of_mem _ wk_D_50)) (fun _ h9 => h9) rfl d_D_unpair_16 ?_
    refine lv_iload_n hx hb d_D_unpair_19 rfl (lv_at hl 1 rfl) ?_
    refine nr_oald hx hb hK hP 1 0 rfl rfl (by omega) (by decide) d_D_unpair_20 ?_
    rw [hp]
    refine nr_as (v := nI j) rfl ?_
    refine lv_iconst (v := -1) hx hb d_D_unpair_21 (by decide) ?_
    refine nr_oast (x := none) hx hb hK hP hD hS 1 0 rfl rfl (by omega) (by decide) d_D_unpair_22 (fun H locs hP hD hS => ?_)
    have hP : va_P (dC, dI) classes [cg_D dm th np ne fi kp iA tA oA uA wA sA eA vA yA lA ll mn xA cA zA pA bA fA gA bw bs ps qA rA aA kA lt wt fx, cg_O pA cI 10 (va_up pr j none)] H := hP
    have hD : va_D A [cg_D dm th np ne fi kp iA tA oA uA wA sA eA vA yA lA ll mn xA cA zA pA bA fA gA bw bs ps qA rA aA kA lt wt fx, cg_O pA cI 10 (va_up pr j none)] := hD
    refine lv_aload_n hx hb d_D_unpair_23 rfl (lv_at hl 0 rfl) ?_
    refine va_get (D := (dC, dI)) (ci := 5) (v := .ref pA) (C := R_D) (T := F_D) (N := 34) hx hb hts iD hown hK hP 0 rfl rfl 20 (by decide) (hts _ (List.mem_cons_of_mem _ wk_D_50)) (fun _ h9 => h9) rfl d_D_unpair_24 ?_
    refine lv_iload_n hx hb d_D_unpair_27 rfl (lv_at hl 1 rfl) ?_
    refine lv_iconst (v := -1) hx hb d_D_unpair_28 (by decide) ?_
    refine nr_oast (x := none) hx hb hK hP hD hS 1 0 rfl rfl (by omega) (by decide) d_D_unpair_29 (fun H locs hP hD hS => ?_)
    have hP : va_P (dC, dI) classes [cg_D dm th np ne fi kp iA tA oA uA wA sA eA vA yA lA ll mn xA cA zA pA bA fA gA bw bs ps qA rA aA kA lt wt fx, cg_O pA cI 10 (va_up (va_up pr j none) i none)] H := hP
    have hD : va_D A [cg_D dm th np ne fi kp iA tA oA uA wA sA eA vA yA lA ll mn xA cA zA pA bA fA gA bw bs ps qA rA aA kA lt wt fx, cg_O pA cI 10 (va_up (va_up pr j none) i none)] := hD
    rw [show ng_un pr i j = va_up (va_up pr j none) i none from if_pos (by omega)]
    exact rw_vret () hx hb hr hlocks hS hP trivial d_D_unpair_30
set_option maxHeartbeats 4000000 in
set_option maxRecDepth 100000 in
theorem c_D_may (l : Launch) (dC : Nat → ClassId) (dI : Nat → Nat → Nat) (cI cL cZ : ClassId) (dm : Nat) (th : Nat) (np : Nat) (ne : Nat) (fi : Int32) (kp : Int64) (iA : Nat) (tA : Nat) (oA : Nat) (uA : Nat) (wA : Nat) (sA : Nat) (eA : Nat) (vA : Nat) (yA : Nat) (lA : Nat) (ll : Nat) (mn : Nat) (xA : Nat) (cA : Nat) (zA : Nat) (pA : Nat) (bA : Nat) (fA : Nat) (gA : Nat) (bw : Nat) (bs : Nat) (ps : Nat) (qA : Nat) (rA : Nat) (aA : Nat) (kA : Nat) (lt : Nat) (wt : Nat) (fx : Int64) (pr co : Nat → Option Nat) (i j : Nat) (hmn : mn ≤ 10) (hi : i < 10) (hj : j ≤ 10) (hco : ∀ k c, k < 110 → co k = some c → c < 2 ^ 31) (hpr : ∀ i j, i < mn → pr i = some j → j ≤ 10) : Met l y_D_may w_D_may ({ frames := 0, cells := 0, slots := 0, locals := 0 } : Room) (va_Pc [.ref dm, .int (nI i), .int (nI j)] (ro_B (dC, dI) classes [(cI, .int), (cL, .long), (cZ, .boolean)] [cg_D dm th np ne fi kp iA tA oA uA wA sA eA vA yA lA ll mn xA cA zA pA bA fA gA bw bs ps qA rA aA kA lt wt fx, cg_O pA cI 10 pr, cg_O cA cI 110 co])) (ro_Qi (nb_i (ng_may mn pr co i j))) 0 0 ro_A := by
  refine Met.ofW (cc := b_D_may) (maxL := 3) (ret := (some .boolean)) (by decide) rfl ?_
  intro p e s m args below meth c s₁ B hml hv
  obtain ⟨rfl, hP, hK⟩ := hv
  have hx := B.exec
  have hb := B.bytes
  have hr := B.returns
  have hts := atoms_spec (ws := w_D_may) B.pre
  have hown : s.vm.findClass R_D = some m.cls := findClass_of_methodNamed B.named
  have hlocks := B.notSynchronized
  have iD : ∀ w ∈ w_D, w ∈ w_D_may := fun w h => List.mem_cons_of_mem _ (i_D w h)
  have hS : va_S ro_A s.heap s.heap [] := va_S.rf
  have hP : va_P (dC, dI) classes [cg_D dm th np ne fi kp iA tA oA uA wA sA eA vA yA lA ll mn xA cA zA pA bA fA gA bw bs ps qA rA aA kA lt wt fx, cg_O pA cI 10 pr, cg_O cA cI 110 co] s.heap := hP
  have hl := lv_entry ([.ref dm, .int (nI i), .int (nI j)]) (n := 3) (Nat.le_of_ble_eq_true rfl)
  rw [lg_entry_eq]
  generalize (lg_sl ([.ref dm, .int (nI i), .int (nI j)]) ++ List.replicate (3 - (lg_sl ([.ref dm, .int (nI i), .int (nI j)])).length) Slot.unset).toArray = ls at hl ⊢
  have hl : lv_has ls 3 [(0, .ref dm), (1, .int (nI i)), (2, .int (nI j))] := hl
  refine lv_iload_n hx hb d_D_may_0 rfl (lv_at hl 2 rfl) ?_
  refine lv_bipush (v := nI 10) hx hb d_D_may_1 (by decide) ?_
  refine nr_icmp_ne (by omega) (by omega) (tgt := 29) hx hb d_D_may_3 (by decide) (fun c_3 => ?_) (fun c_3 => ?_)
  · refine lv_iload_n hx hb d_D_may_29 rfl (lv_at hl 2 rfl) ?_
    refine lv_aload_n hx hb d_D_may_30 rfl (lv_at hl 0 rfl) ?_
    refine va_get (D := (dC, dI)) (ci := 5) (v := .int (nI mn)) (C := R_D) (T := F_D) (N := 34) hx hb hts iD hown hK hP 0 rfl rfl 16 (by decide) (hts _ (List.mem_cons_of_mem _ wk_D_136)) (fun _ h9 => h9) rfl d_D_may_31 ?_
    refine nr_icmp_ge (by omega) (by omega) (tgt := 65) hx hb d_D_may_34 (by decide) (fun c_34 => ?_) (fun c_34 => ?_)
    · refine lv_iconst (v := nI 0) hx hb d_D_may_65 (by decide) ?_
      exact ro_zret hx hb hr hlocks hS rfl (by first | (subst c_3; simp [ng_may, nb_i, *]; done) | (rw [ng_may, if_neg c_3]; simp [nb_i, *]; done) | (rw [ng_may, if_neg c_3, decide_eq_false (by omega)]; rfl)) d_D_may_66
    · refine lv_aload_n hx hb d_D_may_37 rfl (lv_at hl 0 rfl) ?_
      refine va_get (D := (dC, dI)) (ci := 5) (v := .ref pA) (C := R_D) (T := F_D) (N := 34) hx hb hts iD hown hK hP 0 rfl rfl 20 (by decide) (hts _ (List.mem_cons_of_mem _ wk_D_50)) (fun _ h9 => h9) rfl d_D_may_38 ?_
      refine lv_iload_n hx hb d_D_may_41 rfl (lv_at hl 2 rfl) ?_
      refine nr_oald hx hb hK hP 1 0 rfl rfl (by omega) (by decide) d_D_may_42 ?_
      rcases hpj : pr j with _ | pj
      · refine nr_as (v := -1) rfl ?_
        refine lv_iconst (v := -1) hx hb d_D_may_43 (by decide) ?_
        refine lv_icmp_ne (tgt := 65) hx hb d_D_may_44 (by decide) (fun c => absurd rfl c) (fun c_44 => ?_)
        refine lv_aload_n hx hb d_D_may_47 rfl (lv_at hl 0 rfl) ?_
        refine va_get (D := (dC, dI)) (ci := 5) (v := .ref cA) (C := R_D) (T := F_D) (N := 34) hx hb hts iD hown hK hP 0 rfl rfl 18 (by decide) (hts _ (List.mem_cons_of_mem _ wk_D_44)) (fun _ h9 => h9) rfl d_D_may_48 ?_
        refine lv_bipush (v := nI 11) hx hb d_D_may_51 (by decide) ?_
        refine lv_iload_n hx hb d_D_may_53 rfl (lv_at hl 1 rfl) ?_
        refine nr_imul hx hb d_D_may_54 ?_
        refine lv_iload_n hx hb d_D_may_55 rfl (lv_at hl 2 rfl) ?_
        refine nr_iadd hx hb d_D_may_56 ?_
        refine nr_oald hx hb hK hP 2 0 rfl rfl (by omega) (by decide) d_D_may_57 ?_
        rcases hcq : co (11 * i + j) with _ | cc1
        · refine nr_as (v := -1) rfl ?_
          refine lv_if_lt (tgt := 65) hx hb d_D_may_58 (by decide) (fun c_58 => ?_) (fun c => absurd ng_m1l c)
          refine lv_iconst (v := nI 0) hx hb d_D_may_65 (by decide) ?_
          exact ro_zret hx hb hr hlocks hS rfl (by first | (subst c_3; simp [ng_may, nb_i, *]; done) | (rw [ng_may, if_neg c_3]; simp [nb_i, *]; done) | (rw [ng_may, if_neg c_3, decide_eq_false (by omega)]; rfl)) d_D_may_66
        · refine nr_as (v := nI cc1) rfl ?_
          have hcl := hco _ _ (by omega) hcq
          refine nr_if_lt (by omega) (tgt := 65) hx hb d_D_may_58 (by decide) (fun c => False.elim c) (fun c_58 => ?_)
          refine lv_iconst (v := nI 1) hx hb d_D_may_61 (by decide) ?_
          refine lv_goto (tgt := 66) hx hb d_D_may_62 (by decide) ?_
          exact ro_zret hx hb hr hlocks hS rfl (by first | (subst c_3; simp [ng_may, nb_i, *]; done) | (rw [ng_may, if_neg c_3]; simp [nb_i, *]; done) | (rw [ng_may, if_neg c_3, decide_eq_false (by omega)]; rfl)) d_D_may_66
      · refine nr_as (v := nI pj) rfl ?_
        have hpl := hpr j pj c_34 hpj
        refine lv_iconst (v := -1) hx hb d_D_may_43 (by decide) ?_
        refine lv_icmp_ne (tgt := 65) hx hb d_D_may_44 (by decide) (fun c_44 => ?_) (fun c => absurd c (ng_nm1 (by omega)))
        refine lv_iconst (v := nI 0) hx hb d_D_may_65 (by decide) ?_
        exact ro_zret hx hb hr hlocks hS rfl (by first | (subst c_3; simp [ng_may, nb_i, *]; done) | (rw [ng_may, if_neg c_3]; simp [nb_i, *]; done) | (rw [ng_may, if_neg c_3, decide_eq_false (by omega)]; rfl)) d_D_may_66
  · refine lv_aload_n hx hb d_D_may_6 rfl (lv_at hl 0 rfl) ?_
    refine va_get (D := (dC, dI)) (ci := 5) (v := .ref cA) (C := R_D) (T := F_D) (N := 34) hx hb hts iD hown hK hP 0 rfl rfl 18 (by decide) (hts _ (List.mem_cons_of_mem _ wk_D_44)) (fun _ h9 => h9) rfl d_D_may_7 ?_
    refine lv_bipush (v := nI 11) hx hb d_D_may_10 (by decide) ?_
    refine lv_iload_n hx hb d_D_may_12 rfl (lv_at hl 1 rfl) ?_
    refine nr_imul hx hb d_D_may_13 ?_
    refine lv_bipush (v := nI 10) hx hb d_D_may_14 (by decide) ?_
    refine nr_iadd hx hb d_D_may_16 ?_
    refine nr_oald hx hb hK hP 2 0 rfl rfl (by omega) (by decide) d_D_may_17 ?_
    rcases hcq : co (11 * i + 10) with _ | cc1
    · refine nr_as (v := -1) rfl ?_
      refine lv_if_lt (tgt := 25) hx hb d_D_may_18 (by decide) (fun c_18 => ?_) (fun c => absurd ng_m1l c)
      refine lv_iconst (v := nI 0) hx hb d_D_may_25 (by decide) ?_
      refine lv_goto (tgt := 66) hx hb d_D_may_26 (by decide) ?_
      exact ro_zret hx hb hr hlocks hS rfl (by first | (subst c_3; simp [ng_may, nb_i, *]; done) | (rw [ng_may, if_neg c_3]; simp [nb_i, *]; done) | (rw [ng_may, if_neg c_3, decide_eq_false (by omega)]; rfl)) d_D_may_66
    · refine nr_as (v := nI cc1) rfl ?_
      have hcl := hco _ _ (by omega) hcq
      refine nr_if_lt (by omega) (tgt := 25) hx hb d_D_may_18 (by decide) (fun c => False.elim c) (fun c_18 => ?_)
      refine lv_iconst (v := nI 1) hx hb d_D_may_21 (by decide) ?_
      refine lv_goto (tgt := 66) hx hb d_D_may_22 (by decide) ?_
      exact ro_zret hx hb hr hlocks hS rfl (by first | (subst c_3; simp [ng_may, nb_i, *]; done) | (rw [ng_may, if_neg c_3]; simp [nb_i, *]; done) | (rw [ng_may, if_neg c_3, decide_eq_false (by omega)]; rfl)) d_D_may_66
set_option maxHeartbeats 4000000 in
set_option maxRecDepth 100000 in
theorem c_D_tryNext (l : Launch) (dC : Nat → ClassId) (dI : Nat → Nat → Nat) (cI cL cZ : ClassId) (dm : Nat) (th : Nat) (np : Nat) (ne : Nat) (fi : Int32) (kp : Int64) (iA : Nat) (tA : Nat) (oA : Nat) (uA : Nat) (wA : Nat) (sA : Nat) (eA : Nat) (vA : Nat) (yA : Nat) (lA : Nat) (ll : Nat) (mn : Nat) (xA : Nat) (cA : Nat) (zA : Nat) (pA : Nat) (bA : Nat) (fA : Nat) (gA : Nat) (bw : Nat) (bs : Nat) (ps : Nat) (qA : Nat) (rA : Nat) (aA : Nat) (kA : Nat) (lt : Nat) (wt : Nat) (fx : Int64) (pr co cp : Nat → Option Nat) (fs tr : Nat → Nat) (d0 i t0 : Nat) (hmn : mn ≤ 10) (hd0 : d0 < 11) (hi : i < mn) (hfs : fs d0 = i) (htr : tr d0 = t0) (ht0 : t0 ≤ 10) (hpi : pr i = none) (hcp : ng_cp pr cp i) (hco : ∀ k c, k < 110 → co k = some c → c < 2 ^ 31) (hpr : ∀ i j, i < mn → pr i = some j → j ≤ 10) : Met l y_D_tryNext w_D_tryNext ({ frames := 1, cells := 0, slots := 0, locals := 22 } : Room) (va_Pc [.ref dm, .int (nI d0)] (rw_B (dC, dI) classes [(cI, .int), (cL, .long), (cZ, .boolean)] [cg_D dm th np ne fi kp iA tA oA uA wA sA eA vA yA lA ll mn xA cA zA pA bA fA gA bw bs ps qA rA aA kA lt wt fx, cg_O cA cI 110 co, cg_O pA cI 10 cp, cg_N fA cI 11 fs, cg_N gA cI 11 tr])) (rw_Qi (dC, dI) classes (rw_A [cg_D dm th np ne fi kp iA tA oA uA wA sA eA vA yA lA ll mn xA cA zA pA bA fA gA bw bs ps qA rA aA kA lt wt fx, cg_O cA cI 110 co, cg_O pA cI 10 cp, cg_N fA cI 11 fs, cg_N gA cI 11 tr]) (fun r (u : (Nat → Option Nat) × (Nat → Nat)) => (∀ q, q ≠ d0 → u.2 q = tr q) ∧ ((ng_nj mn pr co i t0 = none ∧ r = nb_i false ∧ u.1 = pr) ∨ (∃ j, ng_nj mn pr co i t0 = some j ∧ r = nb_i true ∧ u.2 d0 = j ∧ u.1 = ng_s2 pr i j))) (fun u => [cg_D dm th np ne fi kp iA tA oA uA wA sA eA vA yA lA ll mn xA cA zA pA bA fA gA bw bs ps qA rA aA kA lt wt fx, cg_O cA cI 110 co, cg_O pA cI 10 u.1, cg_N fA cI 11 fs, cg_N gA cI 11 u.2])) 0 0 (rw_A [cg_D dm th np ne fi kp iA tA oA uA wA sA eA vA yA lA ll mn xA cA zA pA bA fA gA bw bs ps qA rA aA kA lt wt fx, cg_O cA cI 110 co, cg_O pA cI 10 cp, cg_N fA cI 11 fs, cg_N gA cI 11 tr]) := by
  refine Met.ofW (cc := b_D_tryNext) (maxL := 4) (ret := (some .boolean)) (by decide) rfl ?_
  intro p e s m args below meth c s₁ B hml hv
  obtain ⟨rfl, hP, hK, hD0⟩ := hv
  have hx := B.exec
  have hb := B.bytes
  have hr := B.returns
  have hts := atoms_spec (ws := w_D_tryNext) B.pre
  have hown : s.vm.findClass R_D = some m.cls := findClass_of_methodNamed B.named
  have hlocks := B.notSynchronized
  have iD : ∀ w ∈ w_D, w ∈ w_D_tryNext := fun w h => List.mem_cons_of_mem _ (i_D w h)
  have hD := rw_own hD0
  generalize hAe : rw_A [cg_D dm th np ne fi kp iA tA oA uA wA sA eA vA yA lA ll mn xA cA zA pA bA fA gA bw bs ps qA rA aA kA lt wt fx, cg_O cA cI 110 co, cg_O pA cI 10 cp, cg_N fA cI 11 fs, cg_N gA cI 11 tr] = A at hD ⊢
  have hS : va_S A s.heap s.heap [] := va_S.rf
  have hP : va_P (dC, dI) classes [cg_D dm th np ne fi kp iA tA oA uA wA sA eA vA yA lA ll mn xA cA zA pA bA fA gA bw bs ps qA rA aA kA lt wt fx, cg_O cA cI 110 co, cg_O pA cI 10 cp, cg_N fA cI 11 fs, cg_N gA cI 11 tr] s.heap := hP
  have hl := lv_entry ([.ref dm, .int (nI d0)]) (n := 4) (Nat.le_of_ble_eq_true rfl)
  rw [lg_entry_eq]
  generalize (lg_sl ([.ref dm, .int (nI d0)]) ++ List.replicate (4 - (lg_sl ([.ref dm, .int (nI d0)])).length) Slot.unset).toArray = ls at hl ⊢
  have hl : lv_has ls 4 [(0, .ref dm), (1, .int (nI d0))] := hl
  refine lv_aload_n hx hb d_D_tryNext_0 rfl (lv_at hl 0 rfl) ?_
  refine va_get (D := (dC, dI)) (ci := 5) (v := .ref fA) (C := R_D) (T := F_D) (N := 34) hx hb hts iD hown hK hP 0 rfl rfl 22 (by decide) (hts _ (List.mem_cons_of_mem _ wk_D_56)) (fun _ h9 => h9) rfl d_D_tryNext_1 ?_
  refine lv_iload_n hx hb d_D_tryNext_4 rfl (lv_at hl 1 rfl) ?_
  refine nr_iald hx hb hK hP 3 0 rfl rfl (by omega) (by decide) d_D_tryNext_5 ?_
  rw [hfs]
  refine lv_istore_n (lv' := [(2, .int (nI i)), (0, .ref dm), (1, .int (nI d0))]) hx hb d_D_tryNext_6 rfl hl (by decide) rfl (fun ls hl => ?_)
  refine lv_aload_n hx hb d_D_tryNext_7 rfl (lv_at hl 1 rfl) ?_
  refine va_get (D := (dC, dI)) (ci := 5) (v := .ref pA) (C := R_D) (T := F_D) (N := 34) hx hb hts iD hown hK hP 0 rfl rfl 20 (by decide) (hts _ (List.mem_cons_of_mem _ wk_D_50)) (fun _ h9 => h9) rfl d_D_tryNext_8 ?_
  refine lv_iload_n hx hb d_D_tryNext_11 rfl (lv_at hl 0 rfl) ?_
  refine nr_oald hx hb hK hP 2 0 rfl rfl (by omega) (by decide) d_D_tryNext_12 ?_
  rcases hci : cp i with _ | j
  · refine nr_as (v := -1) rfl ?_
    have ecp := ng_cp_n hcp hci
    rw [ecp] at hP hD
    refine lv_iconst (v := -1) hx hb d_D_tryNext_13 (by decide) ?_
    refine lv_icmp_eq (tgt := 22) hx hb d_D_tryNext_14 (by decide) (fun c_14 => ?_) (fun c => absurd rfl c)
    have lp_22 : ∀ (n : Nat) (t : Nat) (tr1 : Nat → Nat), (t ≤ 10) → (tr1 d0 = t) → (∀ q, q ≠ d0 → tr1 q = tr q) → (ng_nj mn pr co i t0 = ng_nj mn pr co i t) → 10 - t < n → ∀ (H : Heap) (locs : List Loc), va_P (dC, dI) classes [cg_D dm th np ne fi kp iA tA oA uA wA sA eA vA yA lA ll mn xA cA zA pA bA fA gA bw bs ps qA rA aA kA lt wt fx, cg_O cA cI 110 co, cg_O pA cI 10 pr, cg_N fA cI 11 fs, cg_N gA cI 11 tr1] H → va_D A [cg_D dm th np ne fi kp iA tA oA uA wA sA eA vA yA lA ll mn xA cA zA pA bA fA gA bw bs ps qA rA aA kA lt wt fx, cg_O cA cI 110 co, cg_O pA cI 10 pr, cg_N fA cI 11 fs, cg_N gA cI 11 tr1] → va_S A s.heap H locs → ∀ (ls : Array Slot), lv_has ls 4 [(0, .ref dm), (1, .int (nI d0)), (2, .int (nI i))] → W p l e (headSpec w_D_tryNext ({ frames := 1, cells := 0, slots := 0, locals := 22 } : Room)).room s m ([.ref dm, .int (nI d0)] : List Value).toArray below meth c H locs 0 0 (MQ below (rw_Qi (dC, dI) classes A (fun r (u : (Nat → Option Nat) × (Nat → Nat)) => (∀ q, q ≠ d0 → u.2 q = tr q) ∧ ((ng_nj mn pr co i t0 = none ∧ r = nb_i false ∧ u.1 = pr) ∨ (∃ j, ng_nj mn pr co i t0 = some j ∧ r = nb_i true ∧ u.2 d0 = j ∧ u.1 = ng_s2 pr i j))) (fun u => [cg_D dm th np ne fi kp iA tA oA uA wA sA eA vA yA lA ll mn xA cA zA pA bA fA gA bw bs ps qA rA aA kA lt wt fx, cg_O cA cI 110 co, cg_O pA cI 10 u.1, cg_N fA cI 11 fs, cg_N gA cI 11 u.2])) ([.ref dm, .int (nI d0)] : List Value).toArray s 0 0 A) (F0 m 22 ls []) := by
      intro n
      induction n with
      | zero => intro t tr1 ht htd hto hnj hme; exact absurd hme (Nat.not_lt_zero _)
      | succ n ih =>
        intro t tr1 ht htd hto hnj hme H locs hP hD hS ls hl
        have ih_22 := ih
        refine lv_aload_n hx hb d_D_tryNext_22 rfl (lv_at hl 0 rfl) ?_
        refine va_get (D := (dC, dI)) (ci := 5) (v := .ref gA) (C := R_D) (T := F_D) (N := 34) hx hb hts iD hown hK hP 0 rfl rfl 23 (by decide) (hts _ (List.mem_cons_of_mem _ wk_D_59)) (fun _ h9 => h9) rfl d_D_tryNext_23 ?_
        refine lv_iload_n hx hb d_D_tryNext_26 rfl (lv_at hl 1 rfl) ?_
        refine nr_iald hx hb hK hP 4 0 rfl rfl (by omega) (by decide) d_D_tryNext_27 ?_
        rw [htd]
        refine lv_bipush (v := nI 10) hx hb d_D_tryNext_28 (by decide) ?_
        refine nr_icmp_ge (by omega) (by omega) (tgt := 84) hx hb d_D_tryNext_30 (by decide) (fun c_30 => ?_) (fun c_30 => ?_)
        · refine lv_iconst (v := nI 0) hx hb d_D_tryNext_84 (by decide) ?_
          exact rw_zret (pr, tr1) (b := false) hx hb hr hlocks hS hP rfl (⟨hto, Or.inl ⟨hnj.trans (ng_nj_e c_30), rfl, rfl⟩⟩) d_D_tryNext_85
        · refine lv_aload_n hx hb d_D_tryNext_33 rfl (lv_at hl 0 rfl) ?_
          refine va_get (D := (dC, dI)) (ci := 5) (v := .ref gA) (C := R_D) (T := F_D) (N := 34) hx hb hts iD hown hK hP 0 rfl rfl 23 (by decide) (hts _ (List.mem_cons_of_mem _ wk_D_59)) (fun _ h9 => h9) rfl d_D_tryNext_34 ?_
          refine lv_iload_n hx hb d_D_tryNext_37 rfl (lv_at hl 1 rfl) ?_
          refine lv_dup2_11 hx hb d_D_tryNext_38 rfl rfl ?_
          refine nr_iald hx hb hK hP 4 0 rfl rfl (by omega) (by decide) d_D_tryNext_39 ?_
          rw [htd]
          refine lv_iconst (v := nI 1) hx hb d_D_tryNext_40 (by decide) ?_
          refine nr_iadd hx hb d_D_tryNext_41 ?_
          refine nr_iast hx hb hK hP hD hS 4 0 rfl rfl (by omega) (by decide) d_D_tryNext_42 (fun H locs hP hD hS => ?_)
          have hP : va_P (dC, dI) classes [cg_D dm th np ne fi kp iA tA oA uA wA sA eA vA yA lA ll mn xA cA zA pA bA fA gA bw bs ps qA rA aA kA lt wt fx, cg_O cA cI 110 co, cg_O pA cI 10 pr, cg_N fA cI 11 fs, cg_N gA cI 11 (va_up tr1 d0 (t + 1))] H := hP
          have hD : va_D A [cg_D dm th np ne fi kp iA tA oA uA wA sA eA vA yA lA ll mn xA cA zA pA bA fA gA bw bs ps qA rA aA kA lt wt fx, cg_O cA cI 110 co, cg_O pA cI 10 pr, cg_N fA cI 11 fs, cg_N gA cI 11 (va_up tr1 d0 (t + 1))] := hD
          refine lv_aload_n hx hb d_D_tryNext_43 rfl (lv_at hl 0 rfl) ?_
          refine va_get (D := (dC, dI)) (ci := 5) (v := .ref gA) (C := R_D) (T := F_D) (N := 34) hx hb hts iD hown hK hP 0 rfl rfl 23 (by decide) (hts _ (List.mem_cons_of_mem _ wk_D_59)) (fun _ h9 => h9) rfl d_D_tryNext_44 ?_
          refine lv_iload_n hx hb d_D_tryNext_47 rfl (lv_at hl 1 rfl) ?_
          refine nr_iald hx hb hK hP 4 0 rfl rfl (by omega) (by decide) d_D_tryNext_48 ?_
          rw [va_up_self]
          refine lv_istore_n (lv' := [(3, .int (nI (t + 1))), (0, .ref dm), (1, .int (nI d0)), (2, .int (nI i))]) hx hb d_D_tryNext_49 rfl hl (by decide) rfl (fun ls hl => ?_)
          refine lv_aload_n hx hb d_D_tryNext_50 rfl (lv_at hl 1 rfl) ?_
          refine lv_iload_n hx hb d_D_tryNext_51 rfl (lv_at hl 3 rfl) ?_
          refine lv_iload_n hx hb d_D_tryNext_52 rfl (lv_at hl 0 rfl) ?_
          refine ro_Vi (As := [.int (nI i), .int (nI (t + 1))]) (rest := []) ⟨hx, hb, hml, hown, hts⟩ (c_D_may l dC dI cI cL cZ dm th np ne fi kp iA tA oA uA wA sA eA vA yA lA ll mn xA cA zA pA bA fA gA bw bs ps qA rA aA kA lt wt fx pr co i (t + 1) (by omega) (by omega) (by omega) hco hpr) (cwV 2 hts (wg_V wk_D_148 wm_D_may we_D_may wi_D wc_D_may) rfl rfl rfl (by decide +kernel) ⟨Nat.le_of_ble_eq_true rfl, Nat.le_of_ble_eq_true rfl⟩) hK (hP.sub [0, 2, 1] rfl) (q0 := 0) rfl rfl rfl rfl hl.1 rfl (lv_room (Nat.le_of_ble_eq_true rfl)) d_D_tryNext_53 ⟨Nat.zero_le _, Nat.zero_le _⟩ hS hP (fun H locs hP hS => ?_)
          refine nr_ifneB (tgt := 62) hx hb d_D_tryNext_56 (by decide) (fun c_56 => ?_) (fun c_56 => ?_)
          · refine lv_aload_n hx hb d_D_tryNext_62 rfl (lv_at hl 1 rfl) ?_
            refine va_get (D := (dC, dI)) (ci := 5) (v := .ref pA) (C := R_D) (T := F_D) (N := 34) hx hb hts iD hown hK hP 0 rfl rfl 20 (by decide) (hts _ (List.mem_cons_of_mem _ wk_D_50)) (fun _ h9 => h9) rfl d_D_tryNext_63 ?_
            refine lv_iload_n hx hb d_D_tryNext_66 rfl (lv_at hl 3 rfl) ?_
            refine lv_iload_n hx hb d_D_tryNext_67 rfl (lv_at hl 0 rfl) ?_
            refine nr_oast (x := (some (t + 1))) hx hb hK hP hD hS 2 0 rfl rfl (by omega) (by decide) d_D_tryNext_68 (fun H locs hP hD hS => ?_)
            have hP : va_P (dC, dI) classes [cg_D dm th np ne fi kp iA tA oA uA wA sA eA vA yA lA ll mn xA cA zA pA bA fA gA bw bs ps qA rA aA kA lt wt fx, cg_O cA cI 110 co, cg_O pA cI 10 (va_up pr i (some (t + 1))), cg_N fA cI 11 fs, cg_N gA cI 11 (va_up tr1 d0 (t + 1))] H := hP
            have hD : va_D A [cg_D dm th np ne fi kp iA tA oA uA wA sA eA vA yA lA ll mn xA cA zA pA bA fA gA bw bs ps qA rA aA kA lt wt fx, cg_O cA cI 110 co, cg_O pA cI 10 (va_up pr i (some (t + 1))), cg_N fA cI 11 fs, cg_N gA cI 11 (va_up tr1 d0 (t + 1))] := hD
            refine lv_iload_n hx hb d_D_tryNext_69 rfl (lv_at hl 0 rfl) ?_
            refine lv_bipush (v := nI 10) hx hb d_D_tryNext_70 (by decide) ?_
            refine nr_icmp_ge (by omega) (by omega) (tgt := 82) hx hb d_D_tryNext_72 (by decide) (fun c_72 => ?_) (fun c_72 => ?_)
            · have es2 : ng_s2 pr i (t + 1) = va_up pr i (some (t + 1)) := if_neg (by omega)
              refine lv_iconst (v := nI 1) hx hb d_D_tryNext_82 (by decide) ?_
              exact rw_zret (va_up pr i (some (t + 1)), va_up tr1 d0 (t + 1)) (b := true) hx hb hr hlocks hS hP rfl (⟨fun q hq => by dsimp only; rw [va_up_ne _ _ hq]; exact hto q hq, Or.inr ⟨t + 1, hnj.trans (ng_nj_t c_30 c_56), rfl, by dsimp only; rw [va_up_self], es2.symm⟩⟩) d_D_tryNext_83
            · refine lv_aload_n hx hb d_D_tryNext_75 rfl (lv_at hl 1 rfl) ?_
              refine va_get (D := (dC, dI)) (ci := 5) (v := .ref pA) (C := R_D) (T := F_D) (N := 34) hx hb hts iD hown hK hP 0 rfl rfl 20 (by decide) (hts _ (List.mem_cons_of_mem _ wk_D_50)) (fun _ h9 => h9) rfl d_D_tryNext_76 ?_
              refine lv_iload_n hx hb d_D_tryNext_79 rfl (lv_at hl 0 rfl) ?_
              refine lv_iload_n hx hb d_D_tryNext_80 rfl (lv_at hl 3 rfl) ?_
              refine nr_oast (x := (some i)) hx hb hK hP hD hS 2 0 rfl rfl (by omega) (by decide) d_D_tryNext_81 (fun H locs hP hD hS => ?_)
              have hP : va_P (dC, dI) classes [cg_D dm th np ne fi kp iA tA oA uA wA sA eA vA yA lA ll mn xA cA zA pA bA fA gA bw bs ps qA rA aA kA lt wt fx, cg_O cA cI 110 co, cg_O pA cI 10 (va_up (va_up pr i (some (t + 1))) (t + 1) (some i)), cg_N fA cI 11 fs, cg_N gA cI 11 (va_up tr1 d0 (t + 1))] H := hP
              have hD : va_D A [cg_D dm th np ne fi kp iA tA oA uA wA sA eA vA yA lA ll mn xA cA zA pA bA fA gA bw bs ps qA rA aA kA lt wt fx, cg_O cA cI 110 co, cg_O pA cI 10 (va_up (va_up pr i (some (t + 1))) (t + 1) (some i)), cg_N fA cI 11 fs, cg_N gA cI 11 (va_up tr1 d0 (t + 1))] := hD
              have es2 : ng_s2 pr i (t + 1) = va_up (va_up pr i (some (t + 1))) (t + 1) (some i) := if_pos (by omega)
              refine lv_iconst (v := nI 1) hx hb d_D_tryNext_82 (by decide) ?_
              exact rw_zret (va_up (va_up pr i (some (t + 1))) (t + 1) (some i), va_up tr1 d0 (t + 1)) (b := true) hx hb hr hlocks hS hP rfl (⟨fun q hq => by dsimp only; rw [va_up_ne _ _ hq]; exact hto q hq, Or.inr ⟨t + 1, hnj.trans (ng_nj_t c_30 c_56), rfl, by dsimp only; rw [va_up_self], es2.symm⟩⟩) d_D_tryNext_83
          · refine lv_goto (tgt := 22) hx hb d_D_tryNext_59 (by decide) ?_
            exact ih_22 (t + 1) (va_up tr1 d0 (t + 1)) (by omega) (va_up_self _ _ _) (fun q hq => by rw [va_up_ne _ _ hq]; exact hto q hq) (hnj.trans (ng_nj_f c_30 c_56)) (by omega) _ _ hP hD hS ls (lv_sub hl [1, 2, 3] rfl)
    exact lp_22 (10 - t0 + 1) t0 tr ht0 htr (fun _ _ => rfl) rfl (Nat.lt_succ_self _) _ _ hP hD hS ls (lv_sub hl [1, 2, 0] rfl)
  · refine nr_as (v := nI j) rfl ?_
    obtain ⟨eun, hij, hj10⟩ := ng_cp_s hcp hpi hci
    refine lv_iconst (v := -1) hx hb d_D_tryNext_13 (by decide) ?_
    refine lv_icmp_eq (tgt := 22) hx hb d_D_tryNext_14 (by decide) (fun c => absurd c (ng_nm1 (by omega))) (fun c_14 => ?_)
    refine lv_aload_n hx hb d_D_tryNext_17 rfl (lv_at hl 1 rfl) ?_
    refine lv_iload_n hx hb d_D_tryNext_18 rfl (lv_at hl 0 rfl) ?_
    refine rw_Vv (wr := [cg_O cA cI 110 co, cg_N fA cI 11 fs, cg_N gA cI 11 tr]) [0, 2] [1, 3, 4] rfl rfl (by decide) (As := [.int (nI i)]) (rest := []) ⟨hx, hb, hml, hown, hts⟩ (c_D_unpair l dC dI cI cL cZ dm th np ne fi kp iA tA oA uA wA sA eA vA yA lA ll mn xA cA zA pA bA fA gA bw bs ps qA rA aA kA lt wt fx cp i j (by omega) (by omega) (by omega) hci) (cwV 1 hts (wg_V wk_D_145 wm_D_unpair we_D_unpair wi_D wc_D_unpair) rfl rfl rfl (by decide +kernel) ⟨Nat.le_of_ble_eq_true rfl, Nat.le_of_ble_eq_true rfl⟩) hK (hP.sub [0, 2] rfl) ((hD.sub [0, 2] (by decide) rfl).weaken (fun _ _ _ _ => trivial)) (q0 := 0) rfl rfl rfl rfl hl.1 rfl (lv_room (Nat.le_of_ble_eq_true rfl)) d_D_tryNext_19 ⟨Nat.zero_le _, Nat.zero_le _⟩ hS hP hD (fun u H locs hw_2 hP hS => ?_)
    have hP : va_P (dC, dI) classes [cg_D dm th np ne fi kp iA tA oA uA wA sA eA vA yA lA ll mn xA cA zA pA bA fA gA bw bs ps qA rA aA kA lt wt fx, cg_O cA cI 110 co, cg_O pA cI 10 (ng_un cp i j), cg_N fA cI 11 fs, cg_N gA cI 11 tr] H := hP.sub [3, 0, 4, 1, 2] rfl
    have hD : va_D A [cg_D dm th np ne fi kp iA tA oA uA wA sA eA vA yA lA ll mn xA cA zA pA bA fA gA bw bs ps qA rA aA kA lt wt fx, cg_O cA cI 110 co, cg_O pA cI 10 (ng_un cp i j), cg_N fA cI 11 fs, cg_N gA cI 11 tr] := rw_re hD rfl
    rw [eun] at hP
    have hD : va_D A [cg_D dm th np ne fi kp iA tA oA uA wA sA eA vA yA lA ll mn xA cA zA pA bA fA gA bw bs ps qA rA aA kA lt wt fx, cg_O cA cI 110 co, cg_O pA cI 10 pr, cg_N fA cI 11 fs, cg_N gA cI 11 tr] := rw_re hD rfl
    have lp_22 : ∀ (n : Nat) (t : Nat) (tr1 : Nat → Nat), (t ≤ 10) → (tr1 d0 = t) → (∀ q, q ≠ d0 → tr1 q = tr q) → (ng_nj mn pr co i t0 = ng_nj mn pr co i t) → 10 - t < n → ∀ (H : Heap) (locs : List Loc), va_P (dC, dI) classes [cg_D dm th np ne fi kp iA tA oA uA wA sA eA vA yA lA ll mn xA cA zA pA bA fA gA bw bs ps qA rA aA kA lt wt fx, cg_O cA cI 110 co, cg_O pA cI 10 pr, cg_N fA cI 11 fs, cg_N gA cI 11 tr1] H → va_D A [cg_D dm th np ne fi kp iA tA oA uA wA sA eA vA yA lA ll mn xA cA zA pA bA fA gA bw bs ps qA rA aA kA lt wt fx, cg_O cA cI 110 co, cg_O pA cI 10 pr, cg_N fA cI 11 fs, cg_N gA cI 11 tr1] → va_S A s.heap H locs → ∀ (ls : Array Slot), lv_has ls 4 [(0, .ref dm), (1, .int (nI d0)), (2, .int (nI i))] → W p l e (headSpec w_D_tryNext ({ frames := 1, cells := 0, slots := 0, locals := 22 } : Room)).room s m ([.ref dm, .int (nI d0)] : List Value).toArray below meth c H locs 0 0 (MQ below (rw_Qi (dC, dI) classes A (fun r (u : (Nat → Option Nat) × (Nat → Nat)) => (∀ q, q ≠ d0 → u.2 q = tr q) ∧ ((ng_nj mn pr co i t0 = none ∧ r = nb_i false ∧ u.1 = pr) ∨ (∃ j, ng_nj mn pr co i t0 = some j ∧ r = nb_i true ∧ u.2 d0 = j ∧ u.1 = ng_s2 pr i j))) (fun u => [cg_D dm th np ne fi kp iA tA oA uA wA sA eA vA yA lA ll mn xA cA zA pA bA fA gA bw bs ps qA rA aA kA lt wt fx, cg_O cA cI 110 co, cg_O pA cI 10 u.1, cg_N fA cI 11 fs, cg_N gA cI 11 u.2])) ([.ref dm, .int (nI d0)] : List Value).toArray s 0 0 A) (F0 m 22 ls []) := by
      intro n
      induction n with
      | zero => intro t tr1 ht htd hto hnj hme; exact absurd hme (Nat.not_lt_zero _)
      | succ n ih =>
        intro t tr1 ht htd hto hnj hme H locs hP hD hS ls hl
        have ih_22 := ih
        refine lv_aload_n hx hb d_D_tryNext_22 rfl (lv_at hl 0 rfl) ?_
        refine va_get (D := (dC, dI)) (ci := 5) (v := .ref gA) (C := R_D) (T := F_D) (N := 34) hx hb hts iD hown hK hP 0 rfl rfl 23 (by decide) (hts _ (List.mem_cons_of_mem _ wk_D_59)) (fun _ h9 => h9) rfl d_D_tryNext_23 ?_
        refine lv_iload_n hx hb d_D_tryNext_26 rfl (lv_at hl 1 rfl) ?_
        refine nr_iald hx hb hK hP 4 0 rfl rfl (by omega) (by decide) d_D_tryNext_27 ?_
        rw [htd]
        refine lv_bipush (v := nI 10) hx hb d_D_tryNext_28 (by decide) ?_
        refine nr_icmp_ge (by omega) (by omega) (tgt := 84) hx hb d_D_tryNext_30 (by decide) (fun c_30 => ?_) (fun c_30 => ?_)
        · refine lv_iconst (v := nI 0) hx hb d_D_tryNext_84 (by decide) ?_
          exact rw_zret (pr, tr1) (b := false) hx hb hr hlocks hS hP rfl (⟨hto, Or.inl ⟨hnj.trans (ng_nj_e c_30), rfl, rfl⟩⟩) d_D_tryNext_85
        · refine lv_aload_n hx hb d_D_tryNext_33 rfl (lv_at hl 0 rfl) ?_
          refine va_get (D := (dC, dI)) (ci := 5) (v := .ref gA) (C := R_D) (T := F_D) (N := 34) hx hb hts iD hown hK hP 0 rfl rfl 23 (by decide) (hts _ (List.mem_cons_of_mem _ wk_D_59)) (fun _ h9 => h9) rfl d_D_tryNext_34 ?_
          refine lv_iload_n hx hb d_D_tryNext_37 rfl (lv_at hl 1 rfl) ?_
          refine lv_dup2_11 hx hb d_D_tryNext_38 rfl rfl ?_
          refine nr_iald hx hb hK hP 4 0 rfl rfl (by omega) (by decide) d_D_tryNext_39 ?_
          rw [htd]
          refine lv_iconst (v := nI 1) hx hb d_D_tryNext_40 (by decide) ?_
          refine nr_iadd hx hb d_D_tryNext_41 ?_
          refine nr_iast hx hb hK hP hD hS 4 0 rfl rfl (by omega) (by decide) d_D_tryNext_42 (fun H locs hP hD hS => ?_)
          have hP : va_P (dC, dI) classes [cg_D dm th np ne fi kp iA tA oA uA wA sA eA vA yA lA ll mn xA cA zA pA bA fA gA bw bs ps qA rA aA kA lt wt fx, cg_O cA cI 110 co, cg_O pA cI 10 pr, cg_N fA cI 11 fs, cg_N gA cI 11 (va_up tr1 d0 (t + 1))] H := hP
          have hD : va_D A [cg_D dm th np ne fi kp iA tA oA uA wA sA eA vA yA lA ll mn xA cA zA pA bA fA gA bw bs ps qA rA aA kA lt wt fx, cg_O cA cI 110 co, cg_O pA cI 10 pr, cg_N fA cI 11 fs, cg_N gA cI 11 (va_up tr1 d0 (t + 1))] := hD
          refine lv_aload_n hx hb d_D_tryNext_43 rfl (lv_at hl 0 rfl) ?_
          refine va_get (D := (dC, dI)) (ci := 5) (v := .ref gA) (C := R_D) (T := F_D) (N := 34) hx hb hts iD hown hK hP 0 rfl rfl 23 (by decide) (hts _ (List.mem_cons_of_mem _ wk_D_59)) (fun _ h9 => h9) rfl d_D_tryNext_44 ?_
          refine lv_iload_n hx hb d_D_tryNext_47 rfl (lv_at hl 1 rfl) ?_
          refine nr_iald hx hb hK hP 4 0 rfl rfl (by omega) (by decide) d_D_tryNext_48 ?_
          rw [va_up_self]
          refine lv_istore_n (lv' := [(3, .int (nI (t + 1))), (0, .ref dm), (1, .int (nI d0)), (2, .int (nI i))]) hx hb d_D_tryNext_49 rfl hl (by decide) rfl (fun ls hl => ?_)
          refine lv_aload_n hx hb d_D_tryNext_50 rfl (lv_at hl 1 rfl) ?_
          refine lv_iload_n hx hb d_D_tryNext_51 rfl (lv_at hl 3 rfl) ?_
          refine lv_iload_n hx hb d_D_tryNext_52 rfl (lv_at hl 0 rfl) ?_
          refine ro_Vi (As := [.int (nI i), .int (nI (t + 1))]) (rest := []) ⟨hx, hb, hml, hown, hts⟩ (c_D_may l dC dI cI cL cZ dm th np ne fi kp iA tA oA uA wA sA eA vA yA lA ll mn xA cA zA pA bA fA gA bw bs ps qA rA aA kA lt wt fx pr co i (t + 1) (by omega) (by omega) (by omega) hco hpr) (cwV 2 hts (wg_V wk_D_148 wm_D_may we_D_may wi_D wc_D_may) rfl rfl rfl (by decide +kernel) ⟨Nat.le_of_ble_eq_true rfl, Nat.le_of_ble_eq_true rfl⟩) hK (hP.sub [0, 2, 1] rfl) (q0 := 0) rfl rfl rfl rfl hl.1 rfl (lv_room (Nat.le_of_ble_eq_true rfl)) d_D_tryNext_53 ⟨Nat.zero_le _, Nat.zero_le _⟩ hS hP (fun H locs hP hS => ?_)
          refine nr_ifneB (tgt := 62) hx hb d_D_tryNext_56 (by decide) (fun c_56 => ?_) (fun c_56 => ?_)
          · refine lv_aload_n hx hb d_D_tryNext_62 rfl (lv_at hl 1 rfl) ?_
            refine va_get (D := (dC, dI)) (ci := 5) (v := .ref pA) (C := R_D) (T := F_D) (N := 34) hx hb hts iD hown hK hP 0 rfl rfl 20 (by decide) (hts _ (List.mem_cons_of_mem _ wk_D_50)) (fun _ h9 => h9) rfl d_D_tryNext_63 ?_
            refine lv_iload_n hx hb d_D_tryNext_66 rfl (lv_at hl 3 rfl) ?_
            refine lv_iload_n hx hb d_D_tryNext_67 rfl (lv_at hl 0 rfl) ?_
            refine nr_oast (x := (some (t + 1))) hx hb hK hP hD hS 2 0 rfl rfl (by omega) (by decide) d_D_tryNext_68 (fun H locs hP hD hS => ?_)
            have hP : va_P (dC, dI) classes [cg_D dm th np ne fi kp iA tA oA uA wA sA eA vA yA lA ll mn xA cA zA pA bA fA gA bw bs ps qA rA aA kA lt wt fx, cg_O cA cI 110 co, cg_O pA cI 10 (va_up pr i (some (t + 1))), cg_N fA cI 11 fs, cg_N gA cI 11 (va_up tr1 d0 (t + 1))] H := hP
            have hD : va_D A [cg_D dm th np ne fi kp iA tA oA uA wA sA eA vA yA lA ll mn xA cA zA pA bA fA gA bw bs ps qA rA aA kA lt wt fx, cg_O cA cI 110 co, cg_O pA cI 10 (va_up pr i (some (t + 1))), cg_N fA cI 11 fs, cg_N gA cI 11 (va_up tr1 d0 (t + 1))] := hD
            refine lv_iload_n hx hb d_D_tryNext_69 rfl (lv_at hl 0 rfl) ?_
            refine lv_bipush (v := nI 10) hx hb d_D_tryNext_70 (by decide) ?_
            refine nr_icmp_ge (by omega) (by omega) (tgt := 82) hx hb d_D_tryNext_72 (by decide) (fun c_72 => ?_) (fun c_72 => ?_)
            · have es2 : ng_s2 pr i (t + 1) = va_up pr i (some (t + 1)) := if_neg (by omega)
              refine lv_iconst (v := nI 1) hx hb d_D_tryNext_82 (by decide) ?_
              exact rw_zret (va_up pr i (some (t + 1)), va_up tr1 d0 (t + 1)) (b := true) hx hb hr hlocks hS hP rfl (⟨fun q hq => by dsimp only; rw [va_up_ne _ _ hq]; exact hto q hq, Or.inr ⟨t + 1, hnj.trans (ng_nj_t c_30 c_56), rfl, by dsimp only; rw [va_up_self], es2.symm⟩⟩) d_D_tryNext_83
            · refine lv_aload_n hx hb d_D_tryNext_75 rfl (lv_at hl 1 rfl) ?_
              refine va_get (D := (dC, dI)) (ci := 5) (v := .ref pA) (C := R_D) (T := F_D) (N := 34) hx hb hts iD hown hK hP 0 rfl rfl 20 (by decide) (hts _ (List.mem_cons_of_mem _ wk_D_50)) (fun _ h9 => h9) rfl d_D_tryNext_76 ?_
              refine lv_iload_n hx hb d_D_tryNext_79 rfl (lv_at hl 0 rfl) ?_
              refine lv_iload_n hx hb d_D_tryNext_80 rfl (lv_at hl 3 rfl) ?_
              refine nr_oast (x := (some i)) hx hb hK hP hD hS 2 0 rfl rfl (by omega) (by decide) d_D_tryNext_81 (fun H locs hP hD hS => ?_)
              have hP : va_P (dC, dI) classes [cg_D dm th np ne fi kp iA tA oA uA wA sA eA vA yA lA ll mn xA cA zA pA bA fA gA bw bs ps qA rA aA kA lt wt fx, cg_O cA cI 110 co, cg_O pA cI 10 (va_up (va_up pr i (some (t + 1))) (t + 1) (some i)), cg_N fA cI 11 fs, cg_N gA cI 11 (va_up tr1 d0 (t + 1))] H := hP
              have hD : va_D A [cg_D dm th np ne fi kp iA tA oA uA wA sA eA vA yA lA ll mn xA cA zA pA bA fA gA bw bs ps qA rA aA kA lt wt fx, cg_O cA cI 110 co, cg_O pA cI 10 (va_up (va_up pr i (some (t + 1))) (t + 1) (some i)), cg_N fA cI 11 fs, cg_N gA cI 11 (va_up tr1 d0 (t + 1))] := hD
              have es2 : ng_s2 pr i (t + 1) = va_up (va_up pr i (some (t + 1))) (t + 1) (some i) := if_pos (by omega)
              refine lv_iconst (v := nI 1) hx hb d_D_tryNext_82 (by decide) ?_
              exact rw_zret (va_up (va_up pr i (some (t + 1))) (t + 1) (some i), va_up tr1 d0 (t + 1)) (b := true) hx hb hr hlocks hS hP rfl (⟨fun q hq => by dsimp only; rw [va_up_ne _ _ hq]; exact hto q hq, Or.inr ⟨t + 1, hnj.trans (ng_nj_t c_30 c_56), rfl, by dsimp only; rw [va_up_self], es2.symm⟩⟩) d_D_tryNext_83
          · refine lv_goto (tgt := 22) hx hb d_D_tryNext_59 (by decide) ?_
            exact ih_22 (t + 1) (va_up tr1 d0 (t + 1)) (by omega) (va_up_self _ _ _) (fun q hq => by rw [va_up_ne _ _ hq]; exact hto q hq) (hnj.trans (ng_nj_f c_30 c_56)) (by omega) _ _ hP hD hS ls (lv_sub hl [1, 2, 3] rfl)
    exact lp_22 (10 - t0 + 1) t0 tr ht0 htr (fun _ _ => rfl) rfl (Nat.lt_succ_self _) _ _ hP hD hS ls (lv_sub hl [1, 2, 0] rfl)
set_option maxHeartbeats 4000000 in
set_option maxRecDepth 100000 in
theorem c_D_hold (l : Launch) (dC : Nat → ClassId) (dI : Nat → Nat → Nat) (cI cL cZ : ClassId) (dm : Nat) (th : Nat) (np : Nat) (ne : Nat) (fi : Int32) (kp : Int64) (iA : Nat) (tA : Nat) (oA : Nat) (uA : Nat) (wA : Nat) (sA : Nat) (eA : Nat) (vA : Nat) (yA : Nat) (lA : Nat) (ll : Nat) (mn : Nat) (xA : Nat) (cA : Nat) (zA : Nat) (pA : Nat) (bA : Nat) (fA : Nat) (gA : Nat) (bw : Nat) (bs : Nat) (ps : Nat) (qA : Nat) (rA : Nat) (aA : Nat) (kA : Nat) (lt : Nat) (wt : Nat) (fx : Int64) (pr co be : Nat → Option Nat) (hmn : mn ≤ 10) (hfl : ng_fl mn pr co) (hbw : bw < 2 ^ 31) (hbs : bs < 2 ^ 31) : Met l y_D_hold w_D_hold ({ frames := 0, cells := 0, slots := 0, locals := 0 } : Room) (va_Pc [.ref dm] (rw_B (dC, dI) classes [(cI, .int), (cL, .long), (cZ, .boolean)] [cg_D dm th np ne fi kp iA tA oA uA wA sA eA vA yA lA ll mn xA cA zA pA bA fA gA bw bs ps qA rA aA kA lt wt fx, cg_O cA cI 110 co, cg_O pA cI 10 pr, cg_O bA cI 10 be])) (rw_Qv (dC, dI) classes (rw_A [cg_D dm th np ne fi kp iA tA oA uA wA sA eA vA yA lA ll mn xA cA zA pA bA fA gA bw bs ps qA rA aA kA lt wt fx, cg_O cA cI 110 co, cg_O pA cI 10 pr, cg_O bA cI 10 be]) (fun (u : (Nat → Option Nat)) => ∀ i, i < mn → u i = (ng_hd mn co (bs, bw, be) pr).2.2 i) (fun u => [cg_D dm th np ne fi kp iA tA oA uA wA sA eA vA yA lA ll mn xA cA zA pA bA fA gA ((ng_hd mn co (bs, bw, be) pr).2.1) ((ng_hd mn co (bs, bw, be) pr).1) ps qA rA aA kA lt wt fx, cg_O cA cI 110 co, cg_O pA cI 10 pr, cg_O bA cI 10 u])) 0 0 (rw_A [cg_D dm th np ne fi kp iA tA oA uA wA sA eA vA yA lA ll mn xA cA zA pA bA fA gA bw bs ps qA rA aA kA lt wt fx, cg_O cA cI 110 co, cg_O pA cI 10 pr, cg_O bA cI 10 be]) := by
  refine Met.ofW (cc := b_D_hold) (maxL := 3) (ret := none) (by decide) rfl ?_
  intro p e s m args below meth c s₁ B hml hv
  obtain ⟨rfl, hP, hK, hD0⟩ := hv
  have hx := B.exec
  have hb := B.bytes
  have hr := B.returns
  have hts := atoms_spec (ws := w_D_hold) B.pre
  have hown : s.vm.findClass R_D = some m.cls := findClass_of_methodNamed B.named
  have hlocks := B.notSynchronized
  have iD : ∀ w ∈ w_D, w ∈ w_D_hold := fun w h => List.mem_cons_of_mem _ (i_D w h)
  have hD := rw_own hD0
  generalize hAe : rw_A [cg_D dm th np ne fi kp iA tA oA uA wA sA eA vA yA lA ll mn xA cA zA pA bA fA gA bw bs ps qA rA aA kA lt wt fx, cg_O cA cI 110 co, cg_O pA cI 10 pr, cg_O bA cI 10 be] = A at hD ⊢
  have hS : va_S A s.heap s.heap [] := va_S.rf
  have hP : va_P (dC, dI) classes [cg_D dm th np ne fi kp iA tA oA uA wA sA eA vA yA lA ll mn xA cA zA pA bA fA gA bw bs ps qA rA aA kA lt wt fx, cg_O cA cI 110 co, cg_O pA cI 10 pr, cg_O bA cI 10 be] s.heap := hP
  have hl := lv_entry ([.ref dm]) (n := 3) (Nat.le_of_ble_eq_true rfl)
  rw [lg_entry_eq]
  generalize (lg_sl ([.ref dm]) ++ List.replicate (3 - (lg_sl ([.ref dm])).length) Slot.unset).toArray = ls at hl ⊢
  have hl : lv_has ls 3 [(0, .ref dm)] := hl
  refine lv_iconst (v := nI 0) hx hb d_D_hold_0 (by decide) ?_
  refine lv_istore_n (lv' := [(1, .int (nI 0)), (0, .ref dm)]) hx hb d_D_hold_1 rfl hl (by decide) rfl (fun ls hl => ?_)
  refine lv_iconst (v := nI 0) hx hb d_D_hold_2 (by decide) ?_
  refine lv_istore_n (lv' := [(2, .int (nI 0)), (1, .int (nI 0)), (0, .ref dm)]) hx hb d_D_hold_3 rfl hl (by decide) rfl (fun ls hl => ?_)
  have lp_4 : ∀ (n : Nat) (i w : Nat), (i ≤ mn) → (w = ng_hw pr co i) → mn - i < n → ∀ (H : Heap) (locs : List Loc), va_P (dC, dI) classes [cg_D dm th np ne fi kp iA tA oA uA wA sA eA vA yA lA ll mn xA cA zA pA bA fA gA bw bs ps qA rA aA kA lt wt fx, cg_O cA cI 110 co, cg_O pA cI 10 pr, cg_O bA cI 10 be] H → va_D A [cg_D dm th np ne fi kp iA tA oA uA wA sA eA vA yA lA ll mn xA cA zA pA bA fA gA bw bs ps qA rA aA kA lt wt fx, cg_O cA cI 110 co, cg_O pA cI 10 pr, cg_O bA cI 10 be] → va_S A s.heap H locs → ∀ (ls : Array Slot), lv_has ls 3 [(0, .ref dm), (1, .int (nI w)), (2, .int (nI i))] → W p l e (headSpec w_D_hold ({ frames := 0, cells := 0, slots := 0, locals := 0 } : Room)).room s m ([.ref dm] : List Value).toArray below meth c H locs 0 0 (MQ below (rw_Qv (dC, dI) classes A (fun (u : (Nat → Option Nat)) => ∀ i, i < mn → u i = (ng_hd mn co (bs, bw, be) pr).2.2 i) (fun u => [cg_D dm th np ne fi kp iA tA oA uA wA sA eA vA yA lA ll mn xA cA zA pA bA fA gA ((ng_hd mn co (bs, bw, be) pr).2.1) ((ng_hd mn co (bs, bw, be) pr).1) ps qA rA aA kA lt wt fx, cg_O cA cI 110 co, cg_O pA cI 10 pr, cg_O bA cI 10 u])) ([.ref dm] : List Value).toArray s 0 0 A) (F0 m 4 ls []) := by
    intro n
    induction n with
    | zero => intro i w hi hw hme; exact absurd hme (Nat.not_lt_zero _)
    | succ n ih =>
      intro i w hi hw hme H locs hP hD hS ls hl
      have ih_4 := ih
      refine lv_iload_n hx hb d_D_hold_4 rfl (lv_at hl 2 rfl) ?_
      refine lv_aload_n hx hb d_D_hold_5 rfl (lv_at hl 0 rfl) ?_
      refine va_get (D := (dC, dI)) (ci := 5) (v := .int (nI mn)) (C := R_D) (T := F_D) (N := 34) hx hb hts iD hown hK hP 0 rfl rfl 16 (by decide) (hts _ (List.mem_cons_of_mem _ wk_D_136)) (fun _ h9 => h9) rfl d_D_hold_6 ?_
      refine nr_icmp_ge (by omega) (by omega) (tgt := 47) hx hb d_D_hold_9 (by decide) (fun c_9 => ?_) (fun c_9 => ?_)
      · have hie : i = mn := by omega
        rw [hie] at hw
        have hwl := ng_hw_le hfl mn (Nat.le_refl _)
        refine lv_aload_n hx hb d_D_hold_47 rfl (lv_at hl 0 rfl) ?_
        refine va_get (D := (dC, dI)) (ci := 5) (v := .int (nI bs)) (C := R_D) (T := F_D) (N := 34) hx hb hts iD hown hK hP 0 rfl rfl 25 (by decide) (hts _ (List.mem_cons_of_mem _ wk_D_139)) (fun _ h9 => h9) rfl d_D_hold_48 ?_
        refine nr_if_le (by omega) (tgt := 63) hx hb d_D_hold_51 (by decide) (fun c_51 => ?_) (fun c_51 => ?_)
        · refine lv_aload_n hx hb d_D_hold_63 rfl (lv_at hl 0 rfl) ?_
          refine va_get (D := (dC, dI)) (ci := 5) (v := .int (nI bs)) (C := R_D) (T := F_D) (N := 34) hx hb hts iD hown hK hP 0 rfl rfl 25 (by decide) (hts _ (List.mem_cons_of_mem _ wk_D_139)) (fun _ h9 => h9) rfl d_D_hold_64 ?_
          refine nr_if_le (by omega) (tgt := 89) hx hb d_D_hold_67 (by decide) (fun c_67 => ?_) (fun c_67 => ?_)
          · have eac : (ng_hd mn co (bs, bw, be) pr) = (1, w, pr) := by rw [hw]; exact (if_neg (fun q => by have h8 : 0 < bs := q.1; have h9 : bw < ng_hw pr co mn := q.2; omega)).trans (if_neg (fun q => by have h8 : 0 < bs := q.1; have h9 : ng_hw pr co mn = bw := q.2; omega))
            refine lv_aload_n hx hb d_D_hold_89 rfl (lv_at hl 0 rfl) ?_
            refine lv_iconst (v := nI 1) hx hb d_D_hold_90 (by decide) ?_
            refine va_put (D := (dC, dI)) (ci := 5) (v := .int (nI 1)) (ty := .int) (C := R_D) (T := F_D) (N := 34) hx hb hts iD t_D t_D_ok n_D hown hK hP hD hS 0 rfl rfl 25 (by decide) (hts _ (List.mem_cons_of_mem _ wk_D_139)) (fun _ h9 => h9) rfl (by decide +kernel) rfl rfl (Nat.le_of_ble_eq_true rfl) d_D_hold_91 (fun H locs hP hD hS => ?_)
            have hP : va_P (dC, dI) classes [cg_D dm th np ne fi kp iA tA oA uA wA sA eA vA yA lA ll mn xA cA zA pA bA fA gA bw 1 ps qA rA aA kA lt wt fx, cg_O cA cI 110 co, cg_O pA cI 10 pr, cg_O bA cI 10 be] H := hP
            have hD : va_D A [cg_D dm th np ne fi kp iA tA oA uA wA sA eA vA yA lA ll mn xA cA zA pA bA fA gA bw 1 ps qA rA aA kA lt wt fx, cg_O cA cI 110 co, cg_O pA cI 10 pr, cg_O bA cI 10 be] := hD
            refine lv_aload_n hx hb d_D_hold_94 rfl (lv_at hl 0 rfl) ?_
            refine lv_iload_n hx hb d_D_hold_95 rfl (lv_at hl 1 rfl) ?_
            refine va_put (D := (dC, dI)) (ci := 5) (v := .int (nI w)) (ty := .int) (C := R_D) (T := F_D) (N := 34) hx hb hts iD t_D t_D_ok n_D hown hK hP hD hS 0 rfl rfl 24 (by decide) (hts _ (List.mem_cons_of_mem _ wk_D_142)) (fun _ h9 => h9) rfl (by decide +kernel) rfl rfl (Nat.le_of_ble_eq_true rfl) d_D_hold_96 (fun H locs hP hD hS => ?_)
            have hP : va_P (dC, dI) classes [cg_D dm th np ne fi kp iA tA oA uA wA sA eA vA yA lA ll mn xA cA zA pA bA fA gA w 1 ps qA rA aA kA lt wt fx, cg_O cA cI 110 co, cg_O pA cI 10 pr, cg_O bA cI 10 be] H := hP
            have hD : va_D A [cg_D dm th np ne fi kp iA tA oA uA wA sA eA vA yA lA ll mn xA cA zA pA bA fA gA w 1 ps qA rA aA kA lt wt fx, cg_O cA cI 110 co, cg_O pA cI 10 pr, cg_O bA cI 10 be] := hD
            refine lv_iconst (v := nI 0) hx hb d_D_hold_99 (by decide) ?_
            refine lv_istore_n (lv' := [(2, .int (nI 0)), (0, .ref dm), (1, .int (nI w))]) hx hb d_D_hold_100 rfl hl (by decide) rfl (fun ls hl => ?_)
            have lp_101 : ∀ (n : Nat) (i : Nat) (be1 : Nat → Option Nat), (i ≤ mn) → (∀ k, k < i → be1 k = pr k) → mn - i < n → ∀ (H : Heap) (locs : List Loc), va_P (dC, dI) classes [cg_D dm th np ne fi kp iA tA oA uA wA sA eA vA yA lA ll mn xA cA zA pA bA fA gA w 1 ps qA rA aA kA lt wt fx, cg_O cA cI 110 co, cg_O pA cI 10 pr, cg_O bA cI 10 be1] H → va_D A [cg_D dm th np ne fi kp iA tA oA uA wA sA eA vA yA lA ll mn xA cA zA pA bA fA gA w 1 ps qA rA aA kA lt wt fx, cg_O cA cI 110 co, cg_O pA cI 10 pr, cg_O bA cI 10 be1] → va_S A s.heap H locs → ∀ (ls : Array Slot), lv_has ls 3 [(0, .ref dm), (1, .int (nI w)), (2, .int (nI i))] → W p l e (headSpec w_D_hold ({ frames := 0, cells := 0, slots := 0, locals := 0 } : Room)).room s m ([.ref dm] : List Value).toArray below meth c H locs 0 0 (MQ below (rw_Qv (dC, dI) classes A (fun (u : (Nat → Option Nat)) => ∀ i, i < mn → u i = (ng_hd mn co (bs, bw, be) pr).2.2 i) (fun u => [cg_D dm th np ne fi kp iA tA oA uA wA sA eA vA yA lA ll mn xA cA zA pA bA fA gA ((ng_hd mn co (bs, bw, be) pr).2.1) ((ng_hd mn co (bs, bw, be) pr).1) ps qA rA aA kA lt wt fx, cg_O cA cI 110 co, cg_O pA cI 10 pr, cg_O bA cI 10 u])) ([.ref dm] : List Value).toArray s 0 0 A) (F0 m 101 ls []) := by
              intro n
              induction n with
              | zero => intro i be1 hi2 hb2 hme; exact absurd hme (Nat.not_lt_zero _)
              | succ n ih =>
                intro i be1 hi2 hb2 hme H locs hP hD hS ls hl
                have ih_101 := ih
                refine lv_iload_n hx hb d_D_hold_101 rfl (lv_at hl 2 rfl) ?_
                refine lv_aload_n hx hb d_D_hold_102 rfl (lv_at hl 0 rfl) ?_
                refine va_get (D := (dC, dI)) (ci := 5) (v := .int (nI mn)) (C := R_D) (T := F_D) (N := 34) hx hb hts iD hown hK hP 0 rfl rfl 16 (by decide) (hts _ (List.mem_cons_of_mem _ wk_D_136)) (fun _ h9 => h9) rfl d_D_hold_103 ?_
                refine nr_icmp_ge (by omega) (by omega) (tgt := 127) hx hb d_D_hold_106 (by decide) (fun c_106 => ?_) (fun c_106 => ?_)
                · rw [eac]
                  exact rw_vret be1 hx hb hr hlocks hS hP (fun k hk => hb2 k (by omega)) d_D_hold_127
                · refine lv_aload_n hx hb d_D_hold_109 rfl (lv_at hl 0 rfl) ?_
                  refine va_get (D := (dC, dI)) (ci := 5) (v := .ref bA) (C := R_D) (T := F_D) (N := 34) hx hb hts iD hown hK hP 0 rfl rfl 21 (by decide) (hts _ (List.mem_cons_of_mem _ wk_D_53)) (fun _ h9 => h9) rfl d_D_hold_110 ?_
                  refine lv_iload_n hx hb d_D_hold_113 rfl (lv_at hl 2 rfl) ?_
                  refine lv_aload_n hx hb d_D_hold_114 rfl (lv_at hl 0 rfl) ?_
                  refine va_get (D := (dC, dI)) (ci := 5) (v := .ref pA) (C := R_D) (T := F_D) (N := 34) hx hb hts iD hown hK hP 0 rfl rfl 20 (by decide) (hts _ (List.mem_cons_of_mem _ wk_D_50)) (fun _ h9 => h9) rfl d_D_hold_115 ?_
                  refine lv_iload_n hx hb d_D_hold_118 rfl (lv_at hl 2 rfl) ?_
                  refine nr_oald hx hb hK hP 2 0 rfl rfl (by omega) (by decide) d_D_hold_119 ?_
                  refine nr_oast (x := (pr i)) hx hb hK hP hD hS 3 0 rfl rfl (by omega) (by decide) d_D_hold_120 (fun H locs hP hD hS => ?_)
                  have hP : va_P (dC, dI) classes [cg_D dm th np ne fi kp iA tA oA uA wA sA eA vA yA lA ll mn xA cA zA pA bA fA gA w 1 ps qA rA aA kA lt wt fx, cg_O cA cI 110 co, cg_O pA cI 10 pr, cg_O bA cI 10 (va_up be1 i (pr i))] H := hP
                  have hD : va_D A [cg_D dm th np ne fi kp iA tA oA uA wA sA eA vA yA lA ll mn xA cA zA pA bA fA gA w 1 ps qA rA aA kA lt wt fx, cg_O cA cI 110 co, cg_O pA cI 10 pr, cg_O bA cI 10 (va_up be1 i (pr i))] := hD
                  refine lv_iinc (v := (nI (i + 1))) (lv' := [(2, .int (nI (i + 1))), (0, .ref dm), (1, .int (nI w))]) hx hb d_D_hold_121 hl (k := 2) rfl (nI_1 i) (by decide) rfl (fun ls hl => ?_)
                  refine lv_goto (tgt := 101) hx hb d_D_hold_124 (by decide) ?_
                  exact ih_101 (i + 1) (va_up be1 i (pr i)) (by omega) (ng_cpy hb2) (by omega) _ _ hP hD hS ls (lv_sub hl [1, 2, 0] rfl)
            exact lp_101 (mn - 0 + 1) 0 be (by omega) (fun k h => absurd h (Nat.not_lt_zero _)) (Nat.lt_succ_self _) _ _ hP hD hS ls (lv_sub hl [1, 2, 0] rfl)
          · refine lv_iload_n hx hb d_D_hold_70 rfl (lv_at hl 1 rfl) ?_
            refine lv_aload_n hx hb d_D_hold_71 rfl (lv_at hl 0 rfl) ?_
            refine va_get (D := (dC, dI)) (ci := 5) (v := .int (nI bw)) (C := R_D) (T := F_D) (N := 34) hx hb hts iD hown hK hP 0 rfl rfl 24 (by decide) (hts _ (List.mem_cons_of_mem _ wk_D_142)) (fun _ h9 => h9) rfl d_D_hold_72 ?_
            refine nr_icmp_ne (by omega) (by omega) (tgt := 89) hx hb d_D_hold_75 (by decide) (fun c_75 => ?_) (fun c_75 => ?_)
            · have eac : (ng_hd mn co (bs, bw, be) pr) = (1, w, pr) := by rw [hw]; exact (if_neg (fun q => by have h8 : 0 < bs := q.1; have h9 : bw < ng_hw pr co mn := q.2; omega)).trans (if_neg (fun q => by have h8 : 0 < bs := q.1; have h9 : ng_hw pr co mn = bw := q.2; omega))
              refine lv_aload_n hx hb d_D_hold_89 rfl (lv_at hl 0 rfl) ?_
              refine lv_iconst (v := nI 1) hx hb d_D_hold_90 (by decide) ?_
              refine va_put (D := (dC, dI)) (ci := 5) (v := .int (nI 1)) (ty := .int) (C := R_D) (T := F_D) (N := 34) hx hb hts iD t_D t_D_ok n_D hown hK hP hD hS 0 rfl rfl 25 (by decide) (hts _ (List.mem_cons_of_mem _ wk_D_139)) (fun _ h9 => h9) rfl (by decide +kernel) rfl rfl (Nat.le_of_ble_eq_true rfl) d_D_hold_91 (fun H locs hP hD hS => ?_)
              have hP : va_P (dC, dI) classes [cg_D dm th np ne fi kp iA tA oA uA wA sA eA vA yA lA ll mn xA cA zA pA bA fA gA bw 1 ps qA rA aA kA lt wt fx, cg_O cA cI 110 co, cg_O pA cI 10 pr, cg_O bA cI 10 be] H := hP
              have hD : va_D A [cg_D dm th np ne fi kp iA tA oA uA wA sA eA vA yA lA ll mn xA cA zA pA bA fA gA bw 1 ps qA rA aA kA lt wt fx, cg_O cA cI 110 co, cg_O pA cI 10 pr, cg_O bA cI 10 be] := hD
              refine lv_aload_n hx hb d_D_hold_94 rfl (lv_at hl 0 rfl) ?_
              refine lv_iload_n hx hb d_D_hold_95 rfl (lv_at hl 1 rfl) ?_
              refine va_put (D := (dC, dI)) (ci := 5) (v := .int (nI w)) (ty := .int) (C := R_D) (T := F_D) (N := 34) hx hb hts iD t_D t_D_ok n_D hown hK hP hD hS 0 rfl rfl 24 (by decide) (hts _ (List.mem_cons_of_mem _ wk_D_142)) (fun _ h9 => h9) rfl (by decide +kernel) rfl rfl (Nat.le_of_ble_eq_true rfl) d_D_hold_96 (fun H locs hP hD hS => ?_)
              have hP : va_P (dC, dI) classes [cg_D dm th np ne fi kp iA tA oA uA wA sA eA vA yA lA ll mn xA cA zA pA bA fA gA w 1 ps qA rA aA kA lt wt fx, cg_O cA cI 110 co, cg_O pA cI 10 pr, cg_O bA cI 10 be] H := hP
              have hD : va_D A [cg_D dm th np ne fi kp iA tA oA uA wA sA eA vA yA lA ll mn xA cA zA pA bA fA gA w 1 ps qA rA aA kA lt wt fx, cg_O cA cI 110 co, cg_O pA cI 10 pr, cg_O bA cI 10 be] := hD
              refine lv_iconst (v := nI 0) hx hb d_D_hold_99 (by decide) ?_
              refine lv_istore_n (lv' := [(2, .int (nI 0)), (0, .ref dm), (1, .int (nI w))]) hx hb d_D_hold_100 rfl hl (by decide) rfl (fun ls hl => ?_)
              have lp_101 : ∀ (n : Nat) (i : Nat) (be1 : Nat → Option Nat), (i ≤ mn) → (∀ k, k < i → be1 k = pr k) → mn - i < n → ∀ (H : Heap) (locs : List Loc), va_P (dC, dI) classes [cg_D dm th np ne fi kp iA tA oA uA wA sA eA vA yA lA ll mn xA cA zA pA bA fA gA w 1 ps qA rA aA kA lt wt fx, cg_O cA cI 110 co, cg_O pA cI 10 pr, cg_O bA cI 10 be1] H → va_D A [cg_D dm th np ne fi kp iA tA oA uA wA sA eA vA yA lA ll mn xA cA zA pA bA fA gA w 1 ps qA rA aA kA lt wt fx, cg_O cA cI 110 co, cg_O pA cI 10 pr, cg_O bA cI 10 be1] → va_S A s.heap H locs → ∀ (ls : Array Slot), lv_has ls 3 [(0, .ref dm), (1, .int (nI w)), (2, .int (nI i))] → W p l e (headSpec w_D_hold ({ frames := 0, cells := 0, slots := 0, locals := 0 } : Room)).room s m ([.ref dm] : List Value).toArray below meth c H locs 0 0 (MQ below (rw_Qv (dC, dI) classes A (fun (u : (Nat → Option Nat)) => ∀ i, i < mn → u i = (ng_hd mn co (bs, bw, be) pr).2.2 i) (fun u => [cg_D dm th np ne fi kp iA tA oA uA wA sA eA vA yA lA ll mn xA cA zA pA bA fA gA ((ng_hd mn co (bs, bw, be) pr).2.1) ((ng_hd mn co (bs, bw, be) pr).1) ps qA rA aA kA lt wt fx, cg_O cA cI 110 co, cg_O pA cI 10 pr, cg_O bA cI 10 u])) ([.ref dm] : List Value).toArray s 0 0 A) (F0 m 101 ls []) := by
                intro n
                induction n with
                | zero => intro i be1 hi2 hb2 hme; exact absurd hme (Nat.not_lt_zero _)
                | succ n ih =>
                  intro i be1 hi2 hb2 hme H locs hP hD hS ls hl
                  have ih_101 := ih
                  refine lv_iload_n hx hb d_D_hold_101 rfl (lv_at hl 2 rfl) ?_
                  refine lv_aload_n hx hb d_D_hold_102 rfl (lv_at hl 0 rfl) ?_
                  refine va_get (D := (dC, dI)) (ci := 5) (v := .int (nI mn)) (C := R_D) (T := F_D) (N := 34) hx hb hts iD hown hK hP 0 rfl rfl 16 (by decide) (hts _ (List.mem_cons_of_mem _ wk_D_136)) (fun _ h9 => h9) rfl d_D_hold_103 ?_
                  refine nr_icmp_ge (by omega) (by omega) (tgt := 127) hx hb d_D_hold_106 (by decide) (fun c_106 => ?_) (fun c_106 => ?_)
                  · rw [eac]
                    exact rw_vret be1 hx hb hr hlocks hS hP (fun k hk => hb2 k (by omega)) d_D_hold_127
                  · refine lv_aload_n hx hb d_D_hold_109 rfl (lv_at hl 0 rfl) ?_
                    refine va_get (D := (dC, dI)) (ci := 5) (v := .ref bA) (C := R_D) (T := F_D) (N := 34) hx hb hts iD hown hK hP 0 rfl rfl 21 (by decide) (hts _ (List.mem_cons_of_mem _ wk_D_53)) (fun _ h9 => h9) rfl d_D_hold_110 ?_
                    refine lv_iload_n hx hb d_D_hold_113 rfl (lv_at hl 2 rfl) ?_
                    refine lv_aload_n hx hb d_D_hold_114 rfl (lv_at hl 0 rfl) ?_
                    refine va_get (D := (dC, dI)) (ci := 5) (v := .ref pA) (C := R_D) (T := F_D) (N := 34) hx hb hts iD hown hK hP 0 rfl rfl 20 (by decide) (hts _ (List.mem_cons_of_mem _ wk_D_50)) (fun _ h9 => h9) rfl d_D_hold_115 ?_
                    refine lv_iload_n hx hb d_D_hold_118 rfl (lv_at hl 2 rfl) ?_
                    refine nr_oald hx hb hK hP 2 0 rfl rfl (by omega) (by decide) d_D_hold_119 ?_
                    refine nr_oast (x := (pr i)) hx hb hK hP hD hS 3 0 rfl rfl (by omega) (by decide) d_D_hold_120 (fun H locs hP hD hS => ?_)
                    have hP : va_P (dC, dI) classes [cg_D dm th np ne fi kp iA tA oA uA wA sA eA vA yA lA ll mn xA cA zA pA bA fA gA w 1 ps qA rA aA kA lt wt fx, cg_O cA cI 110 co, cg_O pA cI 10 pr, cg_O bA cI 10 (va_up be1 i (pr i))] H := hP
                    have hD : va_D A [cg_D dm th np ne fi kp iA tA oA uA wA sA eA vA yA lA ll mn xA cA zA pA bA fA gA w 1 ps qA rA aA kA lt wt fx, cg_O cA cI 110 co, cg_O pA cI 10 pr, cg_O bA cI 10 (va_up be1 i (pr i))] := hD
                    refine lv_iinc (v := (nI (i + 1))) (lv' := [(2, .int (nI (i + 1))), (0, .ref dm), (1, .int (nI w))]) hx hb d_D_hold_121 hl (k := 2) rfl (nI_1 i) (by decide) rfl (fun ls hl => ?_)
                    refine lv_goto (tgt := 101) hx hb d_D_hold_124 (by decide) ?_
                    exact ih_101 (i + 1) (va_up be1 i (pr i)) (by omega) (ng_cpy hb2) (by omega) _ _ hP hD hS ls (lv_sub hl [1, 2, 0] rfl)
              exact lp_101 (mn - 0 + 1) 0 be (by omega) (fun k h => absurd h (Nat.not_lt_zero _)) (Nat.lt_succ_self _) _ _ hP hD hS ls (lv_sub hl [1, 2, 0] rfl)
            · refine lv_aload_n hx hb d_D_hold_78 rfl (lv_at hl 0 rfl) ?_
              refine lv_dup hx hb d_D_hold_79 rfl ?_
              refine va_get (D := (dC, dI)) (ci := 5) (v := .int (nI bs)) (C := R_D) (T := F_D) (N := 34) hx hb hts iD hown hK hP 0 rfl rfl 25 (by decide) (hts _ (List.mem_cons_of_mem _ wk_D_139)) (fun _ h9 => h9) rfl d_D_hold_80 ?_
              refine lv_iconst (v := nI 1) hx hb d_D_hold_83 (by decide) ?_
              refine nr_iadd hx hb d_D_hold_84 ?_
              refine va_put (D := (dC, dI)) (ci := 5) (v := .int (nI (bs + 1))) (ty := .int) (C := R_D) (T := F_D) (N := 34) hx hb hts iD t_D t_D_ok n_D hown hK hP hD hS 0 rfl rfl 25 (by decide) (hts _ (List.mem_cons_of_mem _ wk_D_139)) (fun _ h9 => h9) rfl (by decide +kernel) rfl rfl (Nat.le_of_ble_eq_true rfl) d_D_hold_85 (fun H locs hP hD hS => ?_)
              have hP : va_P (dC, dI) classes [cg_D dm th np ne fi kp iA tA oA uA wA sA eA vA yA lA ll mn xA cA zA pA bA fA gA bw (bs + 1) ps qA rA aA kA lt wt fx, cg_O cA cI 110 co, cg_O pA cI 10 pr, cg_O bA cI 10 be] H := hP
              have hD : va_D A [cg_D dm th np ne fi kp iA tA oA uA wA sA eA vA yA lA ll mn xA cA zA pA bA fA gA bw (bs + 1) ps qA rA aA kA lt wt fx, cg_O cA cI 110 co, cg_O pA cI 10 pr, cg_O bA cI 10 be] := hD
              have eac : (ng_hd mn co (bs, bw, be) pr) = (bs + 1, bw, be) := (if_neg (fun q => by have := q.2; rw [← hw] at this; have h9 : bw < w := this; omega)).trans (if_pos ⟨c_67, by rw [← hw]; exact c_75⟩)
              rw [eac]
              exact rw_vret be hx hb hr hlocks hS hP (fun i hi => rfl) d_D_hold_88
        · refine lv_iload_n hx hb d_D_hold_54 rfl (lv_at hl 1 rfl) ?_
          refine lv_aload_n hx hb d_D_hold_55 rfl (lv_at hl 0 rfl) ?_
          refine va_get (D := (dC, dI)) (ci := 5) (v := .int (nI bw)) (C := R_D) (T := F_D) (N := 34) hx hb hts iD hown hK hP 0 rfl rfl 24 (by decide) (hts _ (List.mem_cons_of_mem _ wk_D_142)) (fun _ h9 => h9) rfl d_D_hold_56 ?_
          refine nr_icmp_le (by omega) (by omega) (tgt := 63) hx hb d_D_hold_59 (by decide) (fun c_59 => ?_) (fun c_59 => ?_)
          · refine lv_aload_n hx hb d_D_hold_63 rfl (lv_at hl 0 rfl) ?_
            refine va_get (D := (dC, dI)) (ci := 5) (v := .int (nI bs)) (C := R_D) (T := F_D) (N := 34) hx hb hts iD hown hK hP 0 rfl rfl 25 (by decide) (hts _ (List.mem_cons_of_mem _ wk_D_139)) (fun _ h9 => h9) rfl d_D_hold_64 ?_
            refine nr_if_le (by omega) (tgt := 89) hx hb d_D_hold_67 (by decide) (fun c_67 => ?_) (fun c_67 => ?_)
            · have eac : (ng_hd mn co (bs, bw, be) pr) = (1, w, pr) := by rw [hw]; exact (if_neg (fun q => by have h8 : 0 < bs := q.1; have h9 : bw < ng_hw pr co mn := q.2; omega)).trans (if_neg (fun q => by have h8 : 0 < bs := q.1; have h9 : ng_hw pr co mn = bw := q.2; omega))
              refine lv_aload_n hx hb d_D_hold_89 rfl (lv_at hl 0 rfl) ?_
              refine lv_iconst (v := nI 1) hx hb d_D_hold_90 (by decide) ?_
              refine va_put (D := (dC, dI)) (ci := 5) (v := .int (nI 1)) (ty := .int) (C := R_D) (T := F_D) (N := 34) hx hb hts iD t_D t_D_ok n_D hown hK hP hD hS 0 rfl rfl 25 (by decide) (hts _ (List.mem_cons_of_mem _ wk_D_139)) (fun _ h9 => h9) rfl (by decide +kernel) rfl rfl (Nat.le_of_ble_eq_true rfl) d_D_hold_91 (fun H locs hP hD hS => ?_)
              have hP : va_P (dC, dI) classes [cg_D dm th np ne fi kp iA tA oA uA wA sA eA vA yA lA ll mn xA cA zA pA bA fA gA bw 1 ps qA rA aA kA lt wt fx, cg_O cA cI 110 co, cg_O pA cI 10 pr, cg_O bA cI 10 be] H := hP
              have hD : va_D A [cg_D dm th np ne fi kp iA tA oA uA wA sA eA vA yA lA ll mn xA cA zA pA bA fA gA bw 1 ps qA rA aA kA lt wt fx, cg_O cA cI 110 co, cg_O pA cI 10 pr, cg_O bA cI 10 be] := hD
              refine lv_aload_n hx hb d_D_hold_94 rfl (lv_at hl 0 rfl) ?_
              refine lv_iload_n hx hb d_D_hold_95 rfl (lv_at hl 1 rfl) ?_
              refine va_put (D := (dC, dI)) (ci := 5) (v := .int (nI w)) (ty := .int) (C := R_D) (T := F_D) (N := 34) hx hb hts iD t_D t_D_ok n_D hown hK hP hD hS 0 rfl rfl 24 (by decide) (hts _ (List.mem_cons_of_mem _ wk_D_142)) (fun _ h9 => h9) rfl (by decide +kernel) rfl rfl (Nat.le_of_ble_eq_true rfl) d_D_hold_96 (fun H locs hP hD hS => ?_)
              have hP : va_P (dC, dI) classes [cg_D dm th np ne fi kp iA tA oA uA wA sA eA vA yA lA ll mn xA cA zA pA bA fA gA w 1 ps qA rA aA kA lt wt fx, cg_O cA cI 110 co, cg_O pA cI 10 pr, cg_O bA cI 10 be] H := hP
              have hD : va_D A [cg_D dm th np ne fi kp iA tA oA uA wA sA eA vA yA lA ll mn xA cA zA pA bA fA gA w 1 ps qA rA aA kA lt wt fx, cg_O cA cI 110 co, cg_O pA cI 10 pr, cg_O bA cI 10 be] := hD
              refine lv_iconst (v := nI 0) hx hb d_D_hold_99 (by decide) ?_
              refine lv_istore_n (lv' := [(2, .int (nI 0)), (0, .ref dm), (1, .int (nI w))]) hx hb d_D_hold_100 rfl hl (by decide) rfl (fun ls hl => ?_)
              have lp_101 : ∀ (n : Nat) (i : Nat) (be1 : Nat → Option Nat), (i ≤ mn) → (∀ k, k < i → be1 k = pr k) → mn - i < n → ∀ (H : Heap) (locs : List Loc), va_P (dC, dI) classes [cg_D dm th np ne fi kp iA tA oA uA wA sA eA vA yA lA ll mn xA cA zA pA bA fA gA w 1 ps qA rA aA kA lt wt fx, cg_O cA cI 110 co, cg_O pA cI 10 pr, cg_O bA cI 10 be1] H → va_D A [cg_D dm th np ne fi kp iA tA oA uA wA sA eA vA yA lA ll mn xA cA zA pA bA fA gA w 1 ps qA rA aA kA lt wt fx, cg_O cA cI 110 co, cg_O pA cI 10 pr, cg_O bA cI 10 be1] → va_S A s.heap H locs → ∀ (ls : Array Slot), lv_has ls 3 [(0, .ref dm), (1, .int (nI w)), (2, .int (nI i))] → W p l e (headSpec w_D_hold ({ frames := 0, cells := 0, slots := 0, locals := 0 } : Room)).room s m ([.ref dm] : List Value).toArray below meth c H locs 0 0 (MQ below (rw_Qv (dC, dI) classes A (fun (u : (Nat → Option Nat)) => ∀ i, i < mn → u i = (ng_hd mn co (bs, bw, be) pr).2.2 i) (fun u => [cg_D dm th np ne fi kp iA tA oA uA wA sA eA vA yA lA ll mn xA cA zA pA bA fA gA ((ng_hd mn co (bs, bw, be) pr).2.1) ((ng_hd mn co (bs, bw, be) pr).1) ps qA rA aA kA lt wt fx, cg_O cA cI 110 co, cg_O pA cI 10 pr, cg_O bA cI 10 u])) ([.ref dm] : List Value).toArray s 0 0 A) (F0 m 101 ls []) := by
                intro n
                induction n with
                | zero => intro i be1 hi2 hb2 hme; exact absurd hme (Nat.not_lt_zero _)
                | succ n ih =>
                  intro i be1 hi2 hb2 hme H locs hP hD hS ls hl
                  have ih_101 := ih
                  refine lv_iload_n hx hb d_D_hold_101 rfl (lv_at hl 2 rfl) ?_
                  refine lv_aload_n hx hb d_D_hold_102 rfl (lv_at hl 0 rfl) ?_
                  refine va_get (D := (dC, dI)) (ci := 5) (v := .int (nI mn)) (C := R_D) (T := F_D) (N := 34) hx hb hts iD hown hK hP 0 rfl rfl 16 (by decide) (hts _ (List.mem_cons_of_mem _ wk_D_136)) (fun _ h9 => h9) rfl d_D_hold_103 ?_
                  refine nr_icmp_ge (by omega) (by omega) (tgt := 127) hx hb d_D_hold_106 (by decide) (fun c_106 => ?_) (fun c_106 => ?_)
                  · rw [eac]
                    exact rw_vret be1 hx hb hr hlocks hS hP (fun k hk => hb2 k (by omega)) d_D_hold_127
                  · refine lv_aload_n hx hb d_D_hold_109 rfl (lv_at hl 0 rfl) ?_
                    refine va_get (D := (dC, dI)) (ci := 5) (v := .ref bA) (C := R_D) (T := F_D) (N := 34) hx hb hts iD hown hK hP 0 rfl rfl 21 (by decide) (hts _ (List.mem_cons_of_mem _ wk_D_53)) (fun _ h9 => h9) rfl d_D_hold_110 ?_
                    refine lv_iload_n hx hb d_D_hold_113 rfl (lv_at hl 2 rfl) ?_
                    refine lv_aload_n hx hb d_D_hold_114 rfl (lv_at hl 0 rfl) ?_
                    refine va_get (D := (dC, dI)) (ci := 5) (v := .ref pA) (C := R_D) (T := F_D) (N := 34) hx hb hts iD hown hK hP 0 rfl rfl 20 (by decide) (hts _ (List.mem_cons_of_mem _ wk_D_50)) (fun _ h9 => h9) rfl d_D_hold_115 ?_
                    refine lv_iload_n hx hb d_D_hold_118 rfl (lv_at hl 2 rfl) ?_
                    refine nr_oald hx hb hK hP 2 0 rfl rfl (by omega) (by decide) d_D_hold_119 ?_
                    refine nr_oast (x := (pr i)) hx hb hK hP hD hS 3 0 rfl rfl (by omega) (by decide) d_D_hold_120 (fun H locs hP hD hS => ?_)
                    have hP : va_P (dC, dI) classes [cg_D dm th np ne fi kp iA tA oA uA wA sA eA vA yA lA ll mn xA cA zA pA bA fA gA w 1 ps qA rA aA kA lt wt fx, cg_O cA cI 110 co, cg_O pA cI 10 pr, cg_O bA cI 10 (va_up be1 i (pr i))] H := hP
                    have hD : va_D A [cg_D dm th np ne fi kp iA tA oA uA wA sA eA vA yA lA ll mn xA cA zA pA bA fA gA w 1 ps qA rA aA kA lt wt fx, cg_O cA cI 110 co, cg_O pA cI 10 pr, cg_O bA cI 10 (va_up be1 i (pr i))] := hD
                    refine lv_iinc (v := (nI (i + 1))) (lv' := [(2, .int (nI (i + 1))), (0, .ref dm), (1, .int (nI w))]) hx hb d_D_hold_121 hl (k := 2) rfl (nI_1 i) (by decide) rfl (fun ls hl => ?_)
                    refine lv_goto (tgt := 101) hx hb d_D_hold_124 (by decide) ?_
                    exact ih_101 (i + 1) (va_up be1 i (pr i)) (by omega) (ng_cpy hb2) (by omega) _ _ hP hD hS ls (lv_sub hl [1, 2, 0] rfl)
              exact lp_101 (mn - 0 + 1) 0 be (by omega) (fun k h => absurd h (Nat.not_lt_zero _)) (Nat.lt_succ_self _) _ _ hP hD hS ls (lv_sub hl [1, 2, 0] rfl)
            · refine lv_iload_n hx hb d_D_hold_70 rfl (lv_at hl 1 rfl) ?_
              refine lv_aload_n hx hb d_D_hold_71 rfl (lv_at hl 0 rfl) ?_
              refine va_get (D := (dC, dI)) (ci := 5) (v := .int (nI bw)) (C := R_D) (T := F_D) (N := 34) hx hb hts iD hown hK hP 0 rfl rfl 24 (by decide) (hts _ (List.mem_cons_of_mem _ wk_D_142)) (fun _ h9 => h9) rfl d_D_hold_72 ?_
              refine nr_icmp_ne (by omega) (by omega) (tgt := 89) hx hb d_D_hold_75 (by decide) (fun c_75 => ?_) (fun c_75 => ?_)
              · have eac : (ng_hd mn co (bs, bw, be) pr) = (1, w, pr) := by rw [hw]; exact (if_neg (fun q => by have h8 : 0 < bs := q.1; have h9 : bw < ng_hw pr co mn := q.2; omega)).trans (if_neg (fun q => by have h8 : 0 < bs := q.1; have h9 : ng_hw pr co mn = bw := q.2; omega))
                refine lv_aload_n hx hb d_D_hold_89 rfl (lv_at hl 0 rfl) ?_
                refine lv_iconst (v := nI 1) hx hb d_D_hold_90 (by decide) ?_
                refine va_put (D := (dC, dI)) (ci := 5) (v := .int (nI 1)) (ty := .int) (C := R_D) (T := F_D) (N := 34) hx hb hts iD t_D t_D_ok n_D hown hK hP hD hS 0 rfl rfl 25 (by decide) (hts _ (List.mem_cons_of_mem _ wk_D_139)) (fun _ h9 => h9) rfl (by decide +kernel) rfl rfl (Nat.le_of_ble_eq_true rfl) d_D_hold_91 (fun H locs hP hD hS => ?_)
                have hP : va_P (dC, dI) classes [cg_D dm th np ne fi kp iA tA oA uA wA sA eA vA yA lA ll mn xA cA zA pA bA fA gA bw 1 ps qA rA aA kA lt wt fx, cg_O cA cI 110 co, cg_O pA cI 10 pr, cg_O bA cI 10 be] H := hP
                have hD : va_D A [cg_D dm th np ne fi kp iA tA oA uA wA sA eA vA yA lA ll mn xA cA zA pA bA fA gA bw 1 ps qA rA aA kA lt wt fx, cg_O cA cI 110 co, cg_O pA cI 10 pr, cg_O bA cI 10 be] := hD
                refine lv_aload_n hx hb d_D_hold_94 rfl (lv_at hl 0 rfl) ?_
                refine lv_iload_n hx hb d_D_hold_95 rfl (lv_at hl 1 rfl) ?_
                refine va_put (D := (dC, dI)) (ci := 5) (v := .int (nI w)) (ty := .int) (C := R_D) (T := F_D) (N := 34) hx hb hts iD t_D t_D_ok n_D hown hK hP hD hS 0 rfl rfl 24 (by decide) (hts _ (List.mem_cons_of_mem _ wk_D_142)) (fun _ h9 => h9) rfl (by decide +kernel) rfl rfl (Nat.le_of_ble_eq_true rfl) d_D_hold_96 (fun H locs hP hD hS => ?_)
                have hP : va_P (dC, dI) classes [cg_D dm th np ne fi kp iA tA oA uA wA sA eA vA yA lA ll mn xA cA zA pA bA fA gA w 1 ps qA rA aA kA lt wt fx, cg_O cA cI 110 co, cg_O pA cI 10 pr, cg_O bA cI 10 be] H := hP
                have hD : va_D A [cg_D dm th np ne fi kp iA tA oA uA wA sA eA vA yA lA ll mn xA cA zA pA bA fA gA w 1 ps qA rA aA kA lt wt fx, cg_O cA cI 110 co, cg_O pA cI 10 pr, cg_O bA cI 10 be] := hD
                refine lv_iconst (v := nI 0) hx hb d_D_hold_99 (by decide) ?_
                refine lv_istore_n (lv' := [(2, .int (nI 0)), (0, .ref dm), (1, .int (nI w))]) hx hb d_D_hold_100 rfl hl (by decide) rfl (fun ls hl => ?_)
                have lp_101 : ∀ (n : Nat) (i : Nat) (be1 : Nat → Option Nat), (i ≤ mn) → (∀ k, k < i → be1 k = pr k) → mn - i < n → ∀ (H : Heap) (locs : List Loc), va_P (dC, dI) classes [cg_D dm th np ne fi kp iA tA oA uA wA sA eA vA yA lA ll mn xA cA zA pA bA fA gA w 1 ps qA rA aA kA lt wt fx, cg_O cA cI 110 co, cg_O pA cI 10 pr, cg_O bA cI 10 be1] H → va_D A [cg_D dm th np ne fi kp iA tA oA uA wA sA eA vA yA lA ll mn xA cA zA pA bA fA gA w 1 ps qA rA aA kA lt wt fx, cg_O cA cI 110 co, cg_O pA cI 10 pr, cg_O bA cI 10 be1] → va_S A s.heap H locs → ∀ (ls : Array Slot), lv_has ls 3 [(0, .ref dm), (1, .int (nI w)), (2, .int (nI i))] → W p l e (headSpec w_D_hold ({ frames := 0, cells := 0, slots := 0, locals := 0 } : Room)).room s m ([.ref dm] : List Value).toArray below meth c H locs 0 0 (MQ below (rw_Qv (dC, dI) classes A (fun (u : (Nat → Option Nat)) => ∀ i, i < mn → u i = (ng_hd mn co (bs, bw, be) pr).2.2 i) (fun u => [cg_D dm th np ne fi kp iA tA oA uA wA sA eA vA yA lA ll mn xA cA zA pA bA fA gA ((ng_hd mn co (bs, bw, be) pr).2.1) ((ng_hd mn co (bs, bw, be) pr).1) ps qA rA aA kA lt wt fx, cg_O cA cI 110 co, cg_O pA cI 10 pr, cg_O bA cI 10 u])) ([.ref dm] : List Value).toArray s 0 0 A) (F0 m 101 ls []) := by
                  intro n
                  induction n with
                  | zero => intro i be1 hi2 hb2 hme; exact absurd hme (Nat.not_lt_zero _)
                  | succ n ih =>
                    intro i be1 hi2 hb2 hme H locs hP hD hS ls hl
                    have ih_101 := ih
                    refine lv_iload_n hx hb d_D_hold_101 rfl (lv_at hl 2 rfl) ?_
                    refine lv_aload_n hx hb d_D_hold_102 rfl (lv_at hl 0 rfl) ?_
                    refine va_get (D := (dC, dI)) (ci := 5) (v := .int (nI mn)) (C := R_D) (T := F_D) (N := 34) hx hb hts iD hown hK hP 0 rfl rfl 16 (by decide) (hts _ (List.mem_cons_of_mem _ wk_D_136)) (fun _ h9 => h9) rfl d_D_hold_103 ?_
                    refine nr_icmp_ge (by omega) (by omega) (tgt := 127) hx hb d_D_hold_106 (by decide) (fun c_106 => ?_) (fun c_106 => ?_)
                    · rw [eac]
                      exact rw_vret be1 hx hb hr hlocks hS hP (fun k hk => hb2 k (by omega)) d_D_hold_127
                    · refine lv_aload_n hx hb d_D_hold_109 rfl (lv_at hl 0 rfl) ?_
                      refine va_get (D := (dC, dI)) (ci := 5) (v := .ref bA) (C := R_D) (T := F_D) (N := 34) hx hb hts iD hown hK hP 0 rfl rfl 21 (by decide) (hts _ (List.mem_cons_of_mem _ wk_D_53)) (fun _ h9 => h9) rfl d_D_hold_110 ?_
                      refine lv_iload_n hx hb d_D_hold_113 rfl (lv_at hl 2 rfl) ?_
                      refine lv_aload_n hx hb d_D_hold_114 rfl (lv_at hl 0 rfl) ?_
                      refine va_get (D := (dC, dI)) (ci := 5) (v := .ref pA) (C := R_D) (T := F_D) (N := 34) hx hb hts iD hown hK hP 0 rfl rfl 20 (by decide) (hts _ (List.mem_cons_of_mem _ wk_D_50)) (fun _ h9 => h9) rfl d_D_hold_115 ?_
                      refine lv_iload_n hx hb d_D_hold_118 rfl (lv_at hl 2 rfl) ?_
                      refine nr_oald hx hb hK hP 2 0 rfl rfl (by omega) (by decide) d_D_hold_119 ?_
                      refine nr_oast (x := (pr i)) hx hb hK hP hD hS 3 0 rfl rfl (by omega) (by decide) d_D_hold_120 (fun H locs hP hD hS => ?_)
                      have hP : va_P (dC, dI) classes [cg_D dm th np ne fi kp iA tA oA uA wA sA eA vA yA lA ll mn xA cA zA pA bA fA gA w 1 ps qA rA aA kA lt wt fx, cg_O cA cI 110 co, cg_O pA cI 10 pr, cg_O bA cI 10 (va_up be1 i (pr i))] H := hP
                      have hD : va_D A [cg_D dm th np ne fi kp iA tA oA uA wA sA eA vA yA lA ll mn xA cA zA pA bA fA gA w 1 ps qA rA aA kA lt wt fx, cg_O cA cI 110 co, cg_O pA cI 10 pr, cg_O bA cI 10 (va_up be1 i (pr i))] := hD
                      refine lv_iinc (v := (nI (i + 1))) (lv' := [(2, .int (nI (i + 1))), (0, .ref dm), (1, .int (nI w))]) hx hb d_D_hold_121 hl (k := 2) rfl (nI_1 i) (by decide) rfl (fun ls hl => ?_)
                      refine lv_goto (tgt := 101) hx hb d_D_hold_124 (by decide) ?_
                      exact ih_101 (i + 1) (va_up be1 i (pr i)) (by omega) (ng_cpy hb2) (by omega) _ _ hP hD hS ls (lv_sub hl [1, 2, 0] rfl)
                exact lp_101 (mn - 0 + 1) 0 be (by omega) (fun k h => absurd h (Nat.not_lt_zero _)) (Nat.lt_succ_self _) _ _ hP hD hS ls (lv_sub hl [1, 2, 0] rfl)
              · refine lv_aload_n hx hb d_D_hold_78 rfl (lv_at hl 0 rfl) ?_
                refine lv_dup hx hb d_D_hold_79 rfl ?_
                refine va_get (D := (dC, dI)) (ci := 5) (v := .int (nI bs)) (C := R_D) (T := F_D) (N := 34) hx hb hts iD hown hK hP 0 rfl rfl 25 (by decide) (hts _ (List.mem_cons_of_mem _ wk_D_139)) (fun _ h9 => h9) rfl d_D_hold_80 ?_
                refine lv_iconst (v := nI 1) hx hb d_D_hold_83 (by decide) ?_
                refine nr_iadd hx hb d_D_hold_84 ?_
                refine va_put (D := (dC, dI)) (ci := 5) (v := .int (nI (bs + 1))) (ty := .int) (C := R_D) (T := F_D) (N := 34) hx hb hts iD t_D t_D_ok n_D hown hK hP hD hS 0 rfl rfl 25 (by decide) (hts _ (List.mem_cons_of_mem _ wk_D_139)) (fun _ h9 => h9) rfl (by decide +kernel) rfl rfl (Nat.le_of_ble_eq_true rfl) d_D_hold_85 (fun H locs hP hD hS => ?_)
                have hP : va_P (dC, dI) classes [cg_D dm th np ne fi kp iA tA oA uA wA sA eA vA yA lA ll mn xA cA zA pA bA fA gA bw (bs + 1) ps qA rA aA kA lt wt fx, cg_O cA cI 110 co, cg_O pA cI 10 pr, cg_O bA cI 10 be] H := hP
                have hD : va_D A [cg_D dm th np ne fi kp iA tA oA uA wA sA eA vA yA lA ll mn xA cA zA pA bA fA gA bw (bs + 1) ps qA rA aA kA lt wt fx, cg_O cA cI 110 co, cg_O pA cI 10 pr, cg_O bA cI 10 be] := hD
                have eac : (ng_hd mn co (bs, bw, be) pr) = (bs + 1, bw, be) := (if_neg (fun q => by have := q.2; rw [← hw] at this; have h9 : bw < w := this; omega)).trans (if_pos ⟨c_67, by rw [← hw]; exact c_75⟩)
                rw [eac]
                exact rw_vret be hx hb hr hlocks hS hP (fun i hi => rfl) d_D_hold_88
          · have eac : (ng_hd mn co (bs, bw, be) pr) = (bs, bw, be) := if_pos ⟨c_51, by rw [← hw]; exact c_59⟩
            rw [eac]
            exact rw_vret be hx hb hr hlocks hS hP (fun i hi => rfl) d_D_hold_62
      · obtain ⟨j, hj, hj10, hjc⟩ := hfl i c_9
        have hwl := ng_hw_le hfl i hi
        refine lv_aload_n hx hb d_D_hold_12 rfl (lv_at hl 0 rfl) ?_
        refine va_get (D := (dC, dI)) (ci := 5) (v := .ref pA) (C := R_D) (T := F_D) (N := 34) hx hb hts iD hown hK hP 0 rfl rfl 20 (by decide) (hts _ (List.mem_cons_of_mem _ wk_D_50)) (fun _ h9 => h9) rfl d_D_hold_13 ?_
        refine lv_iload_n hx hb d_D_hold_16 rfl (lv_at hl 2 rfl) ?_
        refine nr_oald hx hb hK hP 2 0 rfl rfl (by omega) (by decide) d_D_hold_17 ?_
        rw [hj]
        refine nr_as (v := nI j) rfl ?_
        refine lv_iload_n hx hb d_D_hold_18 rfl (lv_at hl 2 rfl) ?_
        refine nr_icmp_le (by omega) (by omega) (tgt := 41) hx hb d_D_hold_19 (by decide) (fun c_19 => ?_) (fun c_19 => ?_)
        · refine lv_iinc (v := (nI (i + 1))) (lv' := [(2, .int (nI (i + 1))), (0, .ref dm), (1, .int (nI w))]) hx hb d_D_hold_41 hl (k := 2) rfl (nI_1 i) (by decide) rfl (fun ls hl => ?_)
          refine lv_goto (tgt := 4) hx hb d_D_hold_44 (by decide) ?_
          exact ih_4 (i + 1) w (by omega) (by first | (rw [hw, ng_hw_l hj c_19]; done) | (rw [hw, ng_hw_s hj c_19 hcc]; done)) (by omega) _ _ hP hD hS ls (lv_sub hl [1, 2, 0] rfl)
        · obtain ⟨cc1, hcc, hcc2⟩ := hjc c_19
          refine lv_iload_n hx hb d_D_hold_22 rfl (lv_at hl 1 rfl) ?_
          refine lv_aload_n hx hb d_D_hold_23 rfl (lv_at hl 0 rfl) ?_
          refine va_get (D := (dC, dI)) (ci := 5) (v := .ref cA) (C := R_D) (T := F_D) (N := 34) hx hb hts iD hown hK hP 0 rfl rfl 18 (by decide) (hts _ (List.mem_cons_of_mem _ wk_D_44)) (fun _ h9 => h9) rfl d_D_hold_24 ?_
          refine lv_bipush (v := nI 11) hx hb d_D_hold_27 (by decide) ?_
          refine lv_iload_n hx hb d_D_hold_29 rfl (lv_at hl 2 rfl) ?_
          refine nr_imul hx hb d_D_hold_30 ?_
          refine lv_aload_n hx hb d_D_hold_31 rfl (lv_at hl 0 rfl) ?_
          refine va_get (D := (dC, dI)) (ci := 5) (v := .ref pA) (C := R_D) (T := F_D) (N := 34) hx hb hts iD hown hK hP 0 rfl rfl 20 (by decide) (hts _ (List.mem_cons_of_mem _ wk_D_50)) (fun _ h9 => h9) rfl d_D_hold_32 ?_
          refine lv_iload_n hx hb d_D_hold_35 rfl (lv_at hl 2 rfl) ?_
          refine nr_oald hx hb hK hP 2 0 rfl rfl (by omega) (by decide) d_D_hold_36 ?_
          rw [hj]
          refine nr_as (v := nI j) rfl ?_
          refine nr_iadd hx hb d_D_hold_37 ?_
          refine nr_oald hx hb hK hP 1 0 rfl rfl (by omega) (by decide) d_D_hold_38 ?_
          rw [hcc]
          refine nr_as (v := nI cc1) rfl ?_
          refine nr_iadd hx hb d_D_hold_39 ?_
          refine lv_istore_n (lv' := [(1, .int (nI (w + cc1))), (0, .ref dm), (2, .int (nI i))]) hx hb d_D_hold_40 rfl hl (by decide) rfl (fun ls hl => ?_)
          refine lv_iinc (v := (nI (i + 1))) (lv' := [(2, .int (nI (i + 1))), (1, .int (nI (w + cc1))), (0, .ref dm)]) hx hb d_D_hold_41 hl (k := 2) rfl (nI_1 i) (by decide) rfl (fun ls hl => ?_)
          refine lv_goto (tgt := 4) hx hb d_D_hold_44 (by decide) ?_
          exact ih_4 (i + 1) (w + cc1) (by omega) (by first | (rw [hw, ng_hw_l hj c_19]; done) | (rw [hw, ng_hw_s hj c_19 hcc]; done)) (by omega) _ _ hP hD hS ls (lv_sub hl [2, 1, 0] rfl)
  exact lp_4 (mn - 0 + 1) 0 0 (by omega) rfl (Nat.lt_succ_self _) _ _ hP hD hS ls (lv_sub hl [2, 1, 0] rfl)
