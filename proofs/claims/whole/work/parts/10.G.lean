set_option maxHeartbeats 4000000 in
set_option maxRecDepth 100000 in
theorem c_P_memberOf (l : Launch) (dC : Nat → ClassId) (dI : Nat → Nat → Nat) (cI cL : ClassId) (x : Int32) (j : Nat) (hj : j < 2 ^ 31) : Met l y_P_memberOf w_P_memberOf ({ frames := 0, cells := 0, slots := 0, locals := 0 } : Room) (va_Pc [.int x, .int (nI j)] (ro_B (dC, dI) classes [(cI, .int), (cL, .long)] [])) (ro_Qi (ng_nth x 20 0 j)) 0 0 ro_A := by
  refine Met.ofW (cc := b_P_memberOf) (maxL := 4) (ret := (some .int)) (by decide) rfl ?_
  intro p e s m args below meth c s₁ B hml hv
  obtain ⟨rfl, hP, hK⟩ := hv
  have hx := B.exec
  have hb := B.bytes
  have hr := B.returns
  have hts := atoms_spec (ws := w_P_memberOf) B.pre
  have hown : s.vm.findClass R_P = some m.cls := findClass_of_methodNamed B.named
  have hlocks := B.notSynchronized
  have hS : va_S ro_A s.heap s.heap [] := va_S.rf
  have hP : va_P (dC, dI) classes [] s.heap := hP
  have hl := lv_entry ([.int x, .int (nI j)]) (n := 4) (Nat.le_of_ble_eq_true rfl)
  rw [lg_entry_eq]
  generalize (lg_sl ([.int x, .int (nI j)]) ++ List.replicate (4 - (lg_sl ([.int x, .int (nI j)])).length) Slot.unset).toArray = ls at hl ⊢
  have hl : lv_has ls 4 [(0, .int x), (1, .int (nI j))] := hl
  refine lv_iload_n hx hb d_P_memberOf_0 rfl (lv_at hl 1 rfl) ?_
  refine lv_istore_n (lv' := [(2, .int (nI j)), (0, .int x), (1, .int (nI j))]) hx hb d_P_memberOf_1 rfl hl (by decide) rfl (fun ls hl => ?_)
  refine lv_iconst (v := nI 0) hx hb d_P_memberOf_2 (by decide) ?_
  refine lv_istore_n (lv' := [(3, .int (nI 0)), (2, .int (nI j)), (0, .int x), (1, .int (nI j))]) hx hb d_P_memberOf_3 rfl hl (by decide) rfl (fun ls hl => ?_)
  have lp_4 : ∀ (n : Nat) (i lf : Nat), (i ≤ 20) → (lf < 2 ^ 31) → (ng_nth x 20 0 j = ng_nth x (20 - i) i lf) → 20 - i < n → ∀ (H : Heap) (locs : List Loc), va_P (dC, dI) classes [] H → va_S ro_A s.heap H locs → ∀ (ls : Array Slot), lv_has ls 4 [(0, .int x), (1, .int (nI j)), (2, .int (nI lf)), (3, .int (nI i))] → W p l e (headSpec w_P_memberOf ({ frames := 0, cells := 0, slots := 0, locals := 0 } : Room)).room s m ([.int x, .int (nI j)] : List Value).toArray below meth c H locs 0 0 (MQ below (ro_Qi (ng_nth x 20 0 j)) ([.int x, .int (nI j)] : List Value).toArray s 0 0 ro_A) (F0 m 4 ls []) := by
    intro n
    induction n with
    | zero => intro i lf hi hlf he hme; exact absurd hme (Nat.not_lt_zero _)
    | succ n ih =>
      intro i lf hi hlf he hme H locs hP hS ls hl
      have ih_4 := ih
      refine lv_iload_n hx hb d_P_memberOf_4 rfl (lv_at hl 3 rfl) ?_
      refine lv_bipush (v := nI 20) hx hb d_P_memberOf_5 (by decide) ?_
      refine nr_icmp_ge (by omega) (by omega) (tgt := 34) hx hb d_P_memberOf_7 (by decide) (fun c_7 => ?_) (fun c_7 => ?_)
      · refine lv_iconst (v := -1) hx hb d_P_memberOf_34 (by decide) ?_
        exact ro_iret hx hb hr hlocks hS (by rw [he, show 20 - i = 0 by omega]; rfl) d_P_memberOf_35
      · refine lv_iload_n hx hb d_P_memberOf_10 rfl (lv_at hl 0 rfl) ?_
        refine lv_iload_n hx hb d_P_memberOf_11 rfl (lv_at hl 3 rfl) ?_
        refine lv_ishr hx hb d_P_memberOf_12 ?_
        refine lv_iconst (v := nI 1) hx hb d_P_memberOf_13 (by decide) ?_
        refine lv_iand hx hb d_P_memberOf_14 ?_
        refine nr_as (v := nb_i (nb_t x i)) (nb_bt_and1 (by omega)) ?_
        refine lv_iconst (v := nI 1) hx hb d_P_memberOf_15 (by decide) ?_
        refine nr_icmpneB1 (tgt := 28) hx hb d_P_memberOf_16 (by decide) (fun c_16 => ?_) (fun c_16 => ?_)
        · refine lv_iinc (v := (nI (i + 1))) (lv' := [(3, .int (nI (i + 1))), (0, .int x), (1, .int (nI j)), (2, .int (nI lf))]) hx hb d_P_memberOf_28 hl (k := 3) rfl (nI_1 i) (by decide) rfl (fun ls hl => ?_)
          refine lv_goto (tgt := 4) hx hb d_P_memberOf_31 (by decide) ?_
          exact ih_4 (i + 1) lf (by omega) (by omega) (he.trans (by first | exact ng_nth_f c_7 c_16 | exact ng_nth_t c_7 c_16 c_20)) (by omega) _ _ hP hS ls (lv_sub hl [1, 2, 3, 0] rfl)
        · refine lv_iload_n hx hb d_P_memberOf_19 rfl (lv_at hl 2 rfl) ?_
          refine nr_if_ne (by omega) (tgt := 25) hx hb d_P_memberOf_20 (by decide) (fun c_20 => ?_) (fun c_20 => ?_)
          · refine lv_iinc (v := (nI (lf - 1))) (lv' := [(2, .int (nI (lf - 1))), (0, .int x), (1, .int (nI j)), (3, .int (nI i))]) hx hb d_P_memberOf_25 hl (k := 2) rfl (nr_dec (by omega)) (by decide) rfl (fun ls hl => ?_)
            refine lv_iinc (v := (nI (i + 1))) (lv' := [(3, .int (nI (i + 1))), (2, .int (nI (lf - 1))), (0, .int x), (1, .int (nI j))]) hx hb d_P_memberOf_28 hl (k := 3) rfl (nI_1 i) (by decide) rfl (fun ls hl => ?_)
            refine lv_goto (tgt := 4) hx hb d_P_memberOf_31 (by decide) ?_
            exact ih_4 (i + 1) (lf - 1) (by omega) (by omega) (he.trans (by first | exact ng_nth_f c_7 c_16 | exact ng_nth_t c_7 c_16 c_20)) (by omega) _ _ hP hS ls (lv_sub hl [2, 3, 1, 0] rfl)
          · refine lv_iload_n hx hb d_P_memberOf_23 rfl (lv_at hl 3 rfl) ?_
            exact ro_iret hx hb hr hlocks hS (by subst c_20; exact (he.trans (ng_nth_0 c_7 c_16)).symm) d_P_memberOf_24
  exact lp_4 (20 - 0 + 1) 0 j (by omega) hj rfl (Nat.lt_succ_self _) _ _ hP hS ls (lv_sub hl [2, 3, 1, 0] rfl)
set_option maxHeartbeats 4000000 in
set_option maxRecDepth 100000 in
theorem c_G_hasPoint (l : Launch) (dC : Nat → ClassId) (dI : Nat → Nat → Nat) (cI cL : ClassId) (g tA oA uA wA sA np ne : Nat) (bd : Int32) (er : Int64) (vr : Nat) (a : Int32)  : Met l y_G_hasPoint w_G_hasPoint ({ frames := 0, cells := 0, slots := 0, locals := 0 } : Room) (va_Pc [.ref g, .int a] (ro_B (dC, dI) classes [(cI, .int), (cL, .long)] [cg_G g tA oA uA wA sA np ne bd er vr])) (ro_Qi (nb_i (nb_in np a))) 0 0 ro_A := by
  refine Met.ofW (cc := b_G_hasPoint) (maxL := 2) (ret := (some .boolean)) (by decide) rfl ?_
  intro p e s m args below meth c s₁ B hml hv
  obtain ⟨rfl, hP, hK⟩ := hv
  have hx := B.exec
  have hb := B.bytes
  have hr := B.returns
  have hts := atoms_spec (ws := w_G_hasPoint) B.pre
  have hown : s.vm.findClass R_G = some m.cls := findClass_of_methodNamed B.named
  have hlocks := B.notSynchronized
  have iG : ∀ w ∈ w_G, w ∈ w_G_hasPoint := fun w h => List.mem_cons_of_mem _ (i_G w h)
  have hS : va_S ro_A s.heap s.heap [] := va_S.rf
  have hP : va_P (dC, dI) classes [cg_G g tA oA uA wA sA np ne bd er vr] s.heap := hP
  have hl := lv_entry ([.ref g, .int a]) (n := 2) (Nat.le_of_ble_eq_true rfl)
  rw [lg_entry_eq]
  generalize (lg_sl ([.ref g, .int a]) ++ List.replicate (2 - (lg_sl ([.ref g, .int a])).length) Slot.unset).toArray = ls at hl ⊢
  have hl : lv_has ls 2 [(0, .ref g), (1, .int a)] := hl
  refine lv_iload_n hx hb d_G_hasPoint_0 rfl (lv_at hl 1 rfl) ?_
  refine lv_if_lt (tgt := 16) hx hb d_G_hasPoint_1 (by decide) (fun c_1 => ?_) (fun c_1 => ?_)
  · refine lv_iconst (v := nI 0) hx hb d_G_hasPoint_16 (by decide) ?_
    exact ro_zret hx hb hr hlocks hS rfl (by simp [nb_i, nb_in, *]) d_G_hasPoint_17
  · refine lv_iload_n hx hb d_G_hasPoint_4 rfl (lv_at hl 1 rfl) ?_
    refine lv_aload_n hx hb d_G_hasPoint_5 rfl (lv_at hl 0 rfl) ?_
    refine va_get (D := (dC, dI)) (ci := 0) (v := .int (nI np)) (C := R_G) (T := F_G) (N := 10) hx hb hts iG hown hK hP 0 rfl rfl 5 (by decide) (hts _ (List.mem_cons_of_mem _ wk_G_27)) (fun _ h9 => h9) rfl d_G_hasPoint_6 ?_
    refine lv_icmp_ge (tgt := 16) hx hb d_G_hasPoint_9 (by decide) (fun c_9 => ?_) (fun c_9 => ?_)
    · refine lv_iconst (v := nI 0) hx hb d_G_hasPoint_16 (by decide) ?_
      exact ro_zret hx hb hr hlocks hS rfl (by simp [nb_i, nb_in, *]) d_G_hasPoint_17
    · refine lv_iconst (v := nI 1) hx hb d_G_hasPoint_12 (by decide) ?_
      refine lv_goto (tgt := 17) hx hb d_G_hasPoint_13 (by decide) ?_
      exact ro_zret hx hb hr hlocks hS rfl (by simp [nb_i, nb_in, *]) d_G_hasPoint_17
set_option maxHeartbeats 4000000 in
set_option maxRecDepth 100000 in
theorem c_G_hasPoints (l : Launch) (dC : Nat → ClassId) (dI : Nat → Nat → Nat) (cI cL : ClassId) (g tA oA uA wA sA np ne : Nat) (bd : Int32) (er : Int64) (vr : Nat) (a : Int32)  : Met l y_G_hasPoints w_G_hasPoints ({ frames := 0, cells := 0, slots := 0, locals := 0 } : Room) (va_Pc [.ref g, .int a] (ro_B (dC, dI) classes [(cI, .int), (cL, .long)] [cg_G g tA oA uA wA sA np ne bd er vr])) (ro_Qi (nb_i (ng_fit np a))) 0 0 ro_A := by
  refine Met.ofW (cc := b_G_hasPoints) (maxL := 2) (ret := (some .boolean)) (by decide) rfl ?_
  intro p e s m args below meth c s₁ B hml hv
  obtain ⟨rfl, hP, hK⟩ := hv
  have hx := B.exec
  have hb := B.bytes
  have hr := B.returns
  have hts := atoms_spec (ws := w_G_hasPoints) B.pre
  have hown : s.vm.findClass R_G = some m.cls := findClass_of_methodNamed B.named
  have hlocks := B.notSynchronized
  have iG : ∀ w ∈ w_G, w ∈ w_G_hasPoints := fun w h => List.mem_cons_of_mem _ (i_G w h)
  have hS : va_S ro_A s.heap s.heap [] := va_S.rf
  have hP : va_P (dC, dI) classes [cg_G g tA oA uA wA sA np ne bd er vr] s.heap := hP
  have hl := lv_entry ([.ref g, .int a]) (n := 2) (Nat.le_of_ble_eq_true rfl)
  rw [lg_entry_eq]
  generalize (lg_sl ([.ref g, .int a]) ++ List.replicate (2 - (lg_sl ([.ref g, .int a])).length) Slot.unset).toArray = ls at hl ⊢
  have hl : lv_has ls 2 [(0, .ref g), (1, .int a)] := hl
  refine lv_iload_n hx hb d_G_hasPoints_0 rfl (lv_at hl 1 rfl) ?_
  refine lv_aload_n hx hb d_G_hasPoints_1 rfl (lv_at hl 0 rfl) ?_
  refine va_get (D := (dC, dI)) (ci := 0) (v := .int (nI np)) (C := R_G) (T := F_G) (N := 10) hx hb hts iG hown hK hP 0 rfl rfl 5 (by decide) (hts _ (List.mem_cons_of_mem _ wk_G_27)) (fun _ h9 => h9) rfl d_G_hasPoints_2 ?_
  refine lv_iushr hx hb d_G_hasPoints_5 rfl ?_
  refine lv_if_ne (tgt := 13) hx hb d_G_hasPoints_6 (by decide) (fun c_6 => ?_) (fun c_6 => ?_)
  · refine lv_iconst (v := nI 0) hx hb d_G_hasPoints_13 (by decide) ?_
    exact ro_zret hx hb hr hlocks hS rfl (by simp [nb_i, ng_fit, *]) d_G_hasPoints_14
  · refine lv_iconst (v := nI 1) hx hb d_G_hasPoints_9 (by decide) ?_
    refine lv_goto (tgt := 14) hx hb d_G_hasPoints_10 (by decide) ?_
    exact ro_zret hx hb hr hlocks hS rfl (by simp [nb_i, ng_fit, *]) d_G_hasPoints_14
set_option maxHeartbeats 4000000 in
set_option maxRecDepth 100000 in
theorem c_G_isBoundary (l : Launch) (dC : Nat → ClassId) (dI : Nat → Nat → Nat) (cI cL : ClassId) (g tA oA uA wA sA np ne : Nat) (bd : Int32) (er : Int64) (vr : Nat) (k : Nat) (hk : k < 32) : Met l y_G_isBoundary w_G_isBoundary ({ frames := 0, cells := 0, slots := 0, locals := 0 } : Room) (va_Pc [.ref g, .int (nI k)] (ro_B (dC, dI) classes [(cI, .int), (cL, .long)] [cg_G g tA oA uA wA sA np ne bd er vr])) (ro_Qi (nb_i (nb_t bd k))) 0 0 ro_A := by
  refine Met.ofW (cc := b_G_isBoundary) (maxL := 2) (ret := (some .boolean)) (by decide) rfl ?_
  intro p e s m args below meth c s₁ B hml hv
  obtain ⟨rfl, hP, hK⟩ := hv
  have hx := B.exec
  have hb := B.bytes
  have hr := B.returns
  have hts := atoms_spec (ws := w_G_isBoundary) B.pre
  have hown : s.vm.findClass R_G = some m.cls := findClass_of_methodNamed B.named
  have hlocks := B.notSynchronized
  have iG : ∀ w ∈ w_G, w ∈ w_G_isBoundary := fun w h => List.mem_cons_of_mem _ (i_G w h)
  have hS : va_S ro_A s.heap s.heap [] := va_S.rf
  have hP : va_P (dC, dI) classes [cg_G g tA oA uA wA sA np ne bd er vr] s.heap := hP
  have hl := lv_entry ([.ref g, .int (nI k)]) (n := 2) (Nat.le_of_ble_eq_true rfl)
  rw [lg_entry_eq]
  generalize (lg_sl ([.ref g, .int (nI k)]) ++ List.replicate (2 - (lg_sl ([.ref g, .int (nI k)])).length) Slot.unset).toArray = ls at hl ⊢
  have hl : lv_has ls 2 [(0, .ref g), (1, .int (nI k))] := hl
  refine lv_aload_n hx hb d_G_isBoundary_0 rfl (lv_at hl 0 rfl) ?_
  refine va_get (D := (dC, dI)) (ci := 0) (v := .int bd) (C := R_G) (T := F_G) (N := 10) hx hb hts iG hown hK hP 0 rfl rfl 7 (by decide) (hts _ (List.mem_cons_of_mem _ wk_G_34)) (fun _ h9 => h9) rfl d_G_isBoundary_1 ?_
  refine lv_iload_n hx hb d_G_isBoundary_4 rfl (lv_at hl 1 rfl) ?_
  refine lv_ishr hx hb d_G_isBoundary_5 ?_
  refine lv_iconst (v := nI 1) hx hb d_G_isBoundary_6 (by decide) ?_
  refine lv_iand hx hb d_G_isBoundary_7 ?_
  refine nr_as (v := nb_i (nb_t bd k)) (nb_bt_and1 (by omega)) ?_
  refine lv_iconst (v := nI 1) hx hb d_G_isBoundary_8 (by decide) ?_
  refine nr_icmpneB1 (tgt := 16) hx hb d_G_isBoundary_9 (by decide) (fun c_9 => ?_) (fun c_9 => ?_)
  · refine lv_iconst (v := nI 0) hx hb d_G_isBoundary_16 (by decide) ?_
    exact ro_zret hx hb hr hlocks hS rfl (by simp [nb_i, *]) d_G_isBoundary_17
  · refine lv_iconst (v := nI 1) hx hb d_G_isBoundary_12 (by decide) ?_
    refine lv_goto (tgt := 17) hx hb d_G_isBoundary_13 (by decide) ?_
    exact ro_zret hx hb hr hlocks hS rfl (by simp [nb_i, *]) d_G_isBoundary_17
set_option maxHeartbeats 4000000 in
set_option maxRecDepth 100000 in
theorem c_G_isBefore (l : Launch) (dC : Nat → ClassId) (dI : Nat → Nat → Nat) (cI cL : ClassId) (g tA oA uA wA sA np ne : Nat) (bd : Int32) (er : Int64) (vr : Nat) (tm : Nat → Nat) (k t : Nat) (hnp : np ≤ 20) (hk : k < np) (ht : t < 2 ^ 31) (htm : ∀ i, i < 20 → tm i < 2 ^ 31) : Met l y_G_isBefore w_G_isBefore ({ frames := 1, cells := 0, slots := 0, locals := 21 } : Room) (va_Pc [.ref g, .int (nI k), .int (nI t)] (ro_B (dC, dI) classes [(cI, .int), (cL, .long)] [cg_G g tA oA uA wA sA np ne bd er vr, cg_N tA cI 20 tm])) (ro_Qi (nb_i (ng_be bd tm k t))) 0 0 ro_A := by
  refine Met.ofW (cc := b_G_isBefore) (maxL := 3) (ret := (some .boolean)) (by decide) rfl ?_
  intro p e s m args below meth c s₁ B hml hv
  obtain ⟨rfl, hP, hK⟩ := hv
  have hx := B.exec
  have hb := B.bytes
  have hr := B.returns
  have hts := atoms_spec (ws := w_G_isBefore) B.pre
  have hown : s.vm.findClass R_G = some m.cls := findClass_of_methodNamed B.named
  have hlocks := B.notSynchronized
  have iG : ∀ w ∈ w_G, w ∈ w_G_isBefore := fun w h => List.mem_cons_of_mem _ (i_G w h)
  have hS : va_S ro_A s.heap s.heap [] := va_S.rf
  have hP : va_P (dC, dI) classes [cg_G g tA oA uA wA sA np ne bd er vr, cg_N tA cI 20 tm] s.heap := hP
  have hl := lv_entry ([.ref g, .int (nI k), .int (nI t)]) (n := 3) (Nat.le_of_ble_eq_true rfl)
  rw [lg_entry_eq]
  generalize (lg_sl ([.ref g, .int (nI k), .int (nI t)]) ++ List.replicate (3 - (lg_sl ([.ref g, .int (nI k), .int (nI t)])).length) Slot.unset).toArray = ls at hl ⊢
  have hl : lv_has ls 3 [(0, .ref g), (1, .int (nI k)), (2, .int (nI t))] := hl
  have htk := htm k (by omega)
  refine lv_aload_n hx hb d_G_isBefore_0 rfl (lv_at hl 0 rfl) ?_
  refine lv_iload_n hx hb d_G_isBefore_1 rfl (lv_at hl 1 rfl) ?_
  refine ro_Vi (As := [.int (nI k)]) (rest := []) ⟨hx, hb, hml, hown, hts⟩ (c_G_isBoundary l dC dI cI cL g tA oA uA wA sA np ne bd er vr k (by omega)) (cwV 1 hts (wg_V wk_G_44 wm_G_isBoundary we_G_isBoundary wi_G wc_G_isBoundary) rfl rfl rfl (by decide +kernel) ⟨Nat.le_of_ble_eq_true rfl, Nat.le_of_ble_eq_true rfl⟩) hK (hP.sub [0] rfl) (q0 := 0) rfl rfl rfl rfl hl.1 rfl (lv_room (Nat.le_of_ble_eq_true rfl)) d_G_isBefore_2 ⟨Nat.zero_le _, Nat.zero_le _⟩ hS hP (fun H locs hP hS => ?_)
  refine nr_ifneB (tgt := 26) hx hb d_G_isBefore_5 (by decide) (fun c_5 => ?_) (fun c_5 => ?_)
  · refine lv_iconst (v := nI 1) hx hb d_G_isBefore_26 (by decide) ?_
    refine lv_goto (tgt := 31) hx hb d_G_isBefore_27 (by decide) ?_
    exact ro_zret hx hb hr hlocks hS rfl (by first | (rw [nb_inI_nI (by omega) (by omega), decide_eq_true hk] at c_13; cases c_13; done) | (rw [ng_be, c_5, decide_eq_true c_23]; rfl) | (rw [ng_be, c_5, decide_eq_false (show ¬ tm k < t by omega)]; rfl) | (rw [ng_be, c_5]; rfl)) d_G_isBefore_31
  · refine lv_aload_n hx hb d_G_isBefore_8 rfl (lv_at hl 0 rfl) ?_
    refine lv_iload_n hx hb d_G_isBefore_9 rfl (lv_at hl 1 rfl) ?_
    refine ro_Vi (As := [.int (nI k)]) (rest := []) ⟨hx, hb, hml, hown, hts⟩ (c_G_hasPoint l dC dI cI cL g tA oA uA wA sA np ne bd er vr (nI k) ) (cwV 1 hts (wg_V wk_G_48 wm_G_hasPoint we_G_hasPoint wi_G wc_G_hasPoint) rfl rfl rfl (by decide +kernel) ⟨Nat.le_of_ble_eq_true rfl, Nat.le_of_ble_eq_true rfl⟩) hK (hP.sub [0] rfl) (q0 := 0) rfl rfl rfl rfl hl.1 rfl (lv_room (Nat.le_of_ble_eq_true rfl)) d_G_isBefore_10 ⟨Nat.zero_le _, Nat.zero_le _⟩ hS hP (fun H locs hP hS => ?_)
    refine nr_ifeqB (tgt := 30) hx hb d_G_isBefore_13 (by decide) (fun c_13 => ?_) (fun c_13 => ?_)
    · refine lv_iconst (v := nI 0) hx hb d_G_isBefore_30 (by decide) ?_
      exact ro_zret hx hb hr hlocks hS rfl (by first | (rw [nb_inI_nI (by omega) (by omega), decide_eq_true hk] at c_13; cases c_13; done) | (rw [ng_be, c_5, decide_eq_true c_23]; rfl) | (rw [ng_be, c_5, decide_eq_false (show ¬ tm k < t by omega)]; rfl) | (rw [ng_be, c_5]; rfl)) d_G_isBefore_31
    · refine lv_aload_n hx hb d_G_isBefore_16 rfl (lv_at hl 0 rfl) ?_
      refine va_get (D := (dC, dI)) (ci := 0) (v := .ref tA) (C := R_G) (T := F_G) (N := 10) hx hb hts iG hown hK hP 0 rfl rfl 0 (by decide) (hts _ (List.mem_cons_of_mem _ wk_G_9)) (fun _ h9 => h9) rfl d_G_isBefore_17 ?_
      refine lv_iload_n hx hb d_G_isBefore_20 rfl (lv_at hl 1 rfl) ?_
      refine nr_iald hx hb hK hP 1 0 rfl rfl (by omega) (by decide) d_G_isBefore_21 ?_
      refine lv_iload_n hx hb d_G_isBefore_22 rfl (lv_at hl 2 rfl) ?_
      refine nr_icmp_ge (by omega) (by omega) (tgt := 30) hx hb d_G_isBefore_23 (by decide) (fun c_23 => ?_) (fun c_23 => ?_)
      · refine lv_iconst (v := nI 0) hx hb d_G_isBefore_30 (by decide) ?_
        exact ro_zret hx hb hr hlocks hS rfl (by first | (rw [nb_inI_nI (by omega) (by omega), decide_eq_true hk] at c_13; cases c_13; done) | (rw [ng_be, c_5, decide_eq_true c_23]; rfl) | (rw [ng_be, c_5, decide_eq_false (show ¬ tm k < t by omega)]; rfl) | (rw [ng_be, c_5]; rfl)) d_G_isBefore_31
      · refine lv_iconst (v := nI 1) hx hb d_G_isBefore_26 (by decide) ?_
        refine lv_goto (tgt := 31) hx hb d_G_isBefore_27 (by decide) ?_
        exact ro_zret hx hb hr hlocks hS rfl (by first | (rw [nb_inI_nI (by omega) (by omega), decide_eq_true hk] at c_13; cases c_13; done) | (rw [ng_be, c_5, decide_eq_true c_23]; rfl) | (rw [ng_be, c_5, decide_eq_false (show ¬ tm k < t by omega)]; rfl) | (rw [ng_be, c_5]; rfl)) d_G_isBefore_31
set_option maxHeartbeats 4000000 in
set_option maxRecDepth 100000 in
theorem c_G_canJoin (l : Launch) (dC : Nat → ClassId) (dI : Nat → Nat → Nat) (cI cL : ClassId) (g tA oA uA wA sA np ne : Nat) (bd : Int32) (er : Int64) (vr : Nat) (a b : Int32) (hnp : np ≤ 20) : Met l y_G_canJoin w_G_canJoin ({ frames := 1, cells := 0, slots := 0, locals := 21 } : Room) (va_Pc [.ref g, .int a, .int b] (ro_B (dC, dI) classes [(cI, .int), (cL, .long)] [cg_G g tA oA uA wA sA np ne bd er vr])) (ro_Qi (nb_i (ng_join np bd a b))) 0 0 ro_A := by
  refine Met.ofW (cc := b_G_canJoin) (maxL := 3) (ret := (some .boolean)) (by decide) rfl ?_
  intro p e s m args below meth c s₁ B hml hv
  obtain ⟨rfl, hP, hK⟩ := hv
  have hx := B.exec
  have hb := B.bytes
  have hr := B.returns
  have hts := atoms_spec (ws := w_G_canJoin) B.pre
  have hown : s.vm.findClass R_G = some m.cls := findClass_of_methodNamed B.named
  have hlocks := B.notSynchronized
  have hS : va_S ro_A s.heap s.heap [] := va_S.rf
  have hP : va_P (dC, dI) classes [cg_G g tA oA uA wA sA np ne bd er vr] s.heap := hP
  have hl := lv_entry ([.ref g, .int a, .int b]) (n := 3) (Nat.le_of_ble_eq_true rfl)
  rw [lg_entry_eq]
  generalize (lg_sl ([.ref g, .int a, .int b]) ++ List.replicate (3 - (lg_sl ([.ref g, .int a, .int b])).length) Slot.unset).toArray = ls at hl ⊢
  have hl : lv_has ls 3 [(0, .ref g), (1, .int a), (2, .int b)] := hl
  refine lv_aload_n hx hb d_G_canJoin_0 rfl (lv_at hl 0 rfl) ?_
  refine lv_iload_n hx hb d_G_canJoin_1 rfl (lv_at hl 1 rfl) ?_
  refine ro_Vi (As := [.int a]) (rest := []) ⟨hx, hb, hml, hown, hts⟩ (c_G_hasPoint l dC dI cI cL g tA oA uA wA sA np ne bd er vr a ) (cwV 1 hts (wg_V wk_G_48 wm_G_hasPoint we_G_hasPoint wi_G wc_G_hasPoint) rfl rfl rfl (by decide +kernel) ⟨Nat.le_of_ble_eq_true rfl, Nat.le_of_ble_eq_true rfl⟩) hK (hP.sub [0] rfl) (q0 := 0) rfl rfl rfl rfl hl.1 rfl (lv_room (Nat.le_of_ble_eq_true rfl)) d_G_canJoin_2 ⟨Nat.zero_le _, Nat.zero_le _⟩ hS hP (fun H locs hP hS => ?_)
  refine nr_ifeqB (tgt := 41) hx hb d_G_canJoin_5 (by decide) (fun c_5 => ?_) (fun c_5 => ?_)
  · refine lv_iconst (v := nI 0) hx hb d_G_canJoin_41 (by decide) ?_
    exact ro_zret hx hb hr hlocks hS rfl (by first | (have hne : ¬ (nI ja = nI jb) := fun q => c_18 ((nI_eq (by omega) (by omega)).mp q); simp [nb_i, ng_join, *]; done) | (simp [nb_i, ng_join, *]; done)) d_G_canJoin_42
  · refine lv_aload_n hx hb d_G_canJoin_8 rfl (lv_at hl 0 rfl) ?_
    refine lv_iload_n hx hb d_G_canJoin_9 rfl (lv_at hl 2 rfl) ?_
    refine ro_Vi (As := [.int b]) (rest := []) ⟨hx, hb, hml, hown, hts⟩ (c_G_hasPoint l dC dI cI cL g tA oA uA wA sA np ne bd er vr b ) (cwV 1 hts (wg_V wk_G_48 wm_G_hasPoint we_G_hasPoint wi_G wc_G_hasPoint) rfl rfl rfl (by decide +kernel) ⟨Nat.le_of_ble_eq_true rfl, Nat.le_of_ble_eq_true rfl⟩) hK (hP.sub [0] rfl) (q0 := 0) rfl rfl rfl rfl hl.1 rfl (lv_room (Nat.le_of_ble_eq_true rfl)) d_G_canJoin_10 ⟨Nat.zero_le _, Nat.zero_le _⟩ hS hP (fun H locs hP hS => ?_)
    refine nr_ifeqB (tgt := 41) hx hb d_G_canJoin_13 (by decide) (fun c_13 => ?_) (fun c_13 => ?_)
    · refine lv_iconst (v := nI 0) hx hb d_G_canJoin_41 (by decide) ?_
      exact ro_zret hx hb hr hlocks hS rfl (by first | (have hne : ¬ (nI ja = nI jb) := fun q => c_18 ((nI_eq (by omega) (by omega)).mp q); simp [nb_i, ng_join, *]; done) | (simp [nb_i, ng_join, *]; done)) d_G_canJoin_42
    · obtain ⟨ja, hja, rfl⟩ := nb_inI_of (by omega) c_5
      obtain ⟨jb, hjb, rfl⟩ := nb_inI_of (by omega) c_13
      have eja := nI_clamp (n := ja) (by omega)
      have ejb := nI_clamp (n := jb) (by omega)
      refine lv_iload_n hx hb d_G_canJoin_16 rfl (lv_at hl 1 rfl) ?_
      refine lv_iload_n hx hb d_G_canJoin_17 rfl (lv_at hl 2 rfl) ?_
      refine nr_icmp_eq (by omega) (by omega) (tgt := 41) hx hb d_G_canJoin_18 (by decide) (fun c_18 => ?_) (fun c_18 => ?_)
      · refine lv_iconst (v := nI 0) hx hb d_G_canJoin_41 (by decide) ?_
        exact ro_zret hx hb hr hlocks hS rfl (by first | (have hne : ¬ (nI ja = nI jb) := fun q => c_18 ((nI_eq (by omega) (by omega)).mp q); simp [nb_i, ng_join, *]; done) | (simp [nb_i, ng_join, *]; done)) d_G_canJoin_42
      · refine lv_aload_n hx hb d_G_canJoin_21 rfl (lv_at hl 0 rfl) ?_
        refine lv_iload_n hx hb d_G_canJoin_22 rfl (lv_at hl 1 rfl) ?_
        refine ro_Vi (As := [.int (nI ja)]) (rest := []) ⟨hx, hb, hml, hown, hts⟩ (c_G_isBoundary l dC dI cI cL g tA oA uA wA sA np ne bd er vr ja (by omega)) (cwV 1 hts (wg_V wk_G_44 wm_G_isBoundary we_G_isBoundary wi_G wc_G_isBoundary) rfl rfl rfl (by decide +kernel) ⟨Nat.le_of_ble_eq_true rfl, Nat.le_of_ble_eq_true rfl⟩) hK (hP.sub [0] rfl) (q0 := 0) rfl rfl rfl rfl hl.1 rfl (lv_room (Nat.le_of_ble_eq_true rfl)) d_G_canJoin_23 ⟨Nat.zero_le _, Nat.zero_le _⟩ hS hP (fun H locs hP hS => ?_)
        refine nr_ifeqB (tgt := 37) hx hb d_G_canJoin_26 (by decide) (fun c_26 => ?_) (fun c_26 => ?_)
        · refine lv_iconst (v := nI 1) hx hb d_G_canJoin_37 (by decide) ?_
          refine lv_goto (tgt := 42) hx hb d_G_canJoin_38 (by decide) ?_
          exact ro_zret hx hb hr hlocks hS rfl (by first | (have hne : ¬ (nI ja = nI jb) := fun q => c_18 ((nI_eq (by omega) (by omega)).mp q); simp [nb_i, ng_join, *]; done) | (simp [nb_i, ng_join, *]; done)) d_G_canJoin_42
        · refine lv_aload_n hx hb d_G_canJoin_29 rfl (lv_at hl 0 rfl) ?_
          refine lv_iload_n hx hb d_G_canJoin_30 rfl (lv_at hl 2 rfl) ?_
          refine ro_Vi (As := [.int (nI jb)]) (rest := []) ⟨hx, hb, hml, hown, hts⟩ (c_G_isBoundary l dC dI cI cL g tA oA uA wA sA np ne bd er vr jb (by omega)) (cwV 1 hts (wg_V wk_G_44 wm_G_isBoundary we_G_isBoundary wi_G wc_G_isBoundary) rfl rfl rfl (by decide +kernel) ⟨Nat.le_of_ble_eq_true rfl, Nat.le_of_ble_eq_true rfl⟩) hK (hP.sub [0] rfl) (q0 := 0) rfl rfl rfl rfl hl.1 rfl (lv_room (Nat.le_of_ble_eq_true rfl)) d_G_canJoin_31 ⟨Nat.zero_le _, Nat.zero_le _⟩ hS hP (fun H locs hP hS => ?_)
          refine nr_ifneB (tgt := 41) hx hb d_G_canJoin_34 (by decide) (fun c_34 => ?_) (fun c_34 => ?_)
          · refine lv_iconst (v := nI 0) hx hb d_G_canJoin_41 (by decide) ?_
            exact ro_zret hx hb hr hlocks hS rfl (by first | (have hne : ¬ (nI ja = nI jb) := fun q => c_18 ((nI_eq (by omega) (by omega)).mp q); simp [nb_i, ng_join, *]; done) | (simp [nb_i, ng_join, *]; done)) d_G_canJoin_42
          · refine lv_iconst (v := nI 1) hx hb d_G_canJoin_37 (by decide) ?_
            refine lv_goto (tgt := 42) hx hb d_G_canJoin_38 (by decide) ?_
            exact ro_zret hx hb hr hlocks hS rfl (by first | (have hne : ¬ (nI ja = nI jb) := fun q => c_18 ((nI_eq (by omega) (by omega)).mp q); simp [nb_i, ng_join, *]; done) | (simp [nb_i, ng_join, *]; done)) d_G_canJoin_42
set_option maxHeartbeats 4000000 in
set_option maxRecDepth 100000 in
theorem c_G_hasEdge (l : Launch) (dC : Nat → ClassId) (dI : Nat → Nat → Nat) (cI cL : ClassId) (g tA oA uA wA sA np ne : Nat) (bd : Int32) (er : Int64) (vr : Nat) (a : Int32)  : Met l y_G_hasEdge w_G_hasEdge ({ frames := 0, cells := 0, slots := 0, locals := 0 } : Room) (va_Pc [.ref g, .int a] (ro_B (dC, dI) classes [(cI, .int), (cL, .long)] [cg_G g tA oA uA wA sA np ne bd er vr])) (ro_Qi (nb_i (nb_in ne a))) 0 0 ro_A := by
  refine Met.ofW (cc := b_G_hasEdge) (maxL := 2) (ret := (some .boolean)) (by decide) rfl ?_
  intro p e s m args below meth c s₁ B hml hv
  obtain ⟨rfl, hP, hK⟩ := hv
  have hx := B.exec
  have hb := B.bytes
  have hr := B.returns
  have hts := atoms_spec (ws := w_G_hasEdge) B.pre
  have hown : s.vm.findClass R_G = some m.cls := findClass_of_methodNamed B.named
  have hlocks := B.notSynchronized
  have iG : ∀ w ∈ w_G, w ∈ w_G_hasEdge := fun w h => List.mem_cons_of_mem _ (i_G w h)
  have hS : va_S ro_A s.heap s.heap [] := va_S.rf
  have hP : va_P (dC, dI) classes [cg_G g tA oA uA wA sA np ne bd er vr] s.heap := hP
  have hl := lv_entry ([.ref g, .int a]) (n := 2) (Nat.le_of_ble_eq_true rfl)
  rw [lg_entry_eq]
  generalize (lg_sl ([.ref g, .int a]) ++ List.replicate (2 - (lg_sl ([.ref g, .int a])).length) Slot.unset).toArray = ls at hl ⊢
  have hl : lv_has ls 2 [(0, .ref g), (1, .int a)] := hl
  refine lv_iload_n hx hb d_G_hasEdge_0 rfl (lv_at hl 1 rfl) ?_
  refine lv_if_lt (tgt := 16) hx hb d_G_hasEdge_1 (by decide) (fun c_1 => ?_) (fun c_1 => ?_)
  · refine lv_iconst (v := nI 0) hx hb d_G_hasEdge_16 (by decide) ?_
    exact ro_zret hx hb hr hlocks hS rfl (by simp [nb_i, nb_in, *]) d_G_hasEdge_17
  · refine lv_iload_n hx hb d_G_hasEdge_4 rfl (lv_at hl 1 rfl) ?_
    refine lv_aload_n hx hb d_G_hasEdge_5 rfl (lv_at hl 0 rfl) ?_
    refine va_get (D := (dC, dI)) (ci := 0) (v := .int (nI ne)) (C := R_G) (T := F_G) (N := 10) hx hb hts iG hown hK hP 0 rfl rfl 6 (by decide) (hts _ (List.mem_cons_of_mem _ wk_G_31)) (fun _ h9 => h9) rfl d_G_hasEdge_6 ?_
    refine lv_icmp_ge (tgt := 16) hx hb d_G_hasEdge_9 (by decide) (fun c_9 => ?_) (fun c_9 => ?_)
    · refine lv_iconst (v := nI 0) hx hb d_G_hasEdge_16 (by decide) ?_
      exact ro_zret hx hb hr hlocks hS rfl (by simp [nb_i, nb_in, *]) d_G_hasEdge_17
    · refine lv_iconst (v := nI 1) hx hb d_G_hasEdge_12 (by decide) ?_
      refine lv_goto (tgt := 17) hx hb d_G_hasEdge_13 (by decide) ?_
      exact ro_zret hx hb hr hlocks hS rfl (by simp [nb_i, nb_in, *]) d_G_hasEdge_17
set_option maxHeartbeats 4000000 in
set_option maxRecDepth 100000 in
theorem c_G_hasEdges (l : Launch) (dC : Nat → ClassId) (dI : Nat → Nat → Nat) (cI cL : ClassId) (g tA oA uA wA sA np ne : Nat) (bd : Int32) (er : Int64) (vr : Nat) (a : Int64)  : Met l y_G_hasEdges w_G_hasEdges ({ frames := 0, cells := 0, slots := 0, locals := 0 } : Room) (va_Pc [.ref g, .long a] (ro_B (dC, dI) classes [(cI, .int), (cL, .long)] [cg_G g tA oA uA wA sA np ne bd er vr])) (ro_Qi (nb_i (ng_fitL ne a))) 0 0 ro_A := by
  refine Met.ofW (cc := b_G_hasEdges) (maxL := 3) (ret := (some .boolean)) (by decide) rfl ?_
  intro p e s m args below meth c s₁ B hml hv
  obtain ⟨rfl, hP, hK⟩ := hv
  have hx := B.exec
  have hb := B.bytes
  have hr := B.returns
  have hts := atoms_spec (ws := w_G_hasEdges) B.pre
  have hown : s.vm.findClass R_G = some m.cls := findClass_of_methodNamed B.named
  have hlocks := B.notSynchronized
  have iG : ∀ w ∈ w_G, w ∈ w_G_hasEdges := fun w h => List.mem_cons_of_mem _ (i_G w h)
  have hS : va_S ro_A s.heap s.heap [] := va_S.rf
  have hP : va_P (dC, dI) classes [cg_G g tA oA uA wA sA np ne bd er vr] s.heap := hP
  have hl := lv_entry ([.ref g, .long a]) (n := 3) (Nat.le_of_ble_eq_true rfl)
  rw [lg_entry_eq]
  generalize (lg_sl ([.ref g, .long a]) ++ List.replicate (3 - (lg_sl ([.ref g, .long a])).length) Slot.unset).toArray = ls at hl ⊢
  have hl : lv_has ls 3 [(0, .ref g), (1, .long a)] := hl
  refine lv_lload_n hx hb d_G_hasEdges_0 rfl (lv_at hl 1 rfl) ?_
  refine lv_aload_n hx hb d_G_hasEdges_1 rfl (lv_at hl 0 rfl) ?_
  refine va_get (D := (dC, dI)) (ci := 0) (v := .int (nI ne)) (C := R_G) (T := F_G) (N := 10) hx hb hts iG hown hK hP 0 rfl rfl 6 (by decide) (hts _ (List.mem_cons_of_mem _ wk_G_31)) (fun _ h9 => h9) rfl d_G_hasEdges_2 ?_
  refine lv_lushr hx hb d_G_hasEdges_5 rfl ?_
  refine lv_lconst (v := lN 0) hx hb d_G_hasEdges_6 (by decide) ?_
  refine W.lcmp hx hb d_G_hasEdges_7 ?_
  refine nr_lraw_ne (tgt := 15) hx hb d_G_hasEdges_8 (by decide) (fun c_8 => ?_) (fun c_8 => ?_)
  · refine lv_iconst (v := nI 0) hx hb d_G_hasEdges_15 (by decide) ?_
    exact ro_zret hx hb hr hlocks hS rfl (by simp [nb_i, ng_fitL, *]) d_G_hasEdges_16
  · refine lv_iconst (v := nI 1) hx hb d_G_hasEdges_11 (by decide) ?_
    refine lv_goto (tgt := 16) hx hb d_G_hasEdges_12 (by decide) ?_
    exact ro_zret hx hb hr hlocks hS rfl (by simp [nb_i, ng_fitL, *]) d_G_hasEdges_16
set_option maxHeartbeats 4000000 in
set_option maxRecDepth 100000 in
theorem c_G_hasRoomFor (l : Launch) (dC : Nat → ClassId) (dI : Nat → Nat → Nat) (cI cL : ClassId) (g tA oA uA wA sA np ne : Nat) (bd : Int32) (er : Int64) (vr : Nat) (k : Nat) (hne : ne ≤ 60) (hk : k ≤ 60) : Met l y_G_hasRoomFor w_G_hasRoomFor ({ frames := 0, cells := 0, slots := 0, locals := 0 } : Room) (va_Pc [.ref g, .int (nI k)] (ro_B (dC, dI) classes [(cI, .int), (cL, .long)] [cg_G g tA oA uA wA sA np ne bd er vr])) (ro_Qi (nb_i (decide (ne + k ≤ 60)))) 0 0 ro_A := by
  refine Met.ofW (cc := b_G_hasRoomFor) (maxL := 2) (ret := (some .boolean)) (by decide) rfl ?_
  intro p e s m args below meth c s₁ B hml hv
  obtain ⟨rfl, hP, hK⟩ := hv
  have hx := B.exec
  have hb := B.bytes
  have hr := B.returns
  have hts := atoms_spec (ws := w_G_hasRoomFor) B.pre
  have hown : s.vm.findClass R_G = some m.cls := findClass_of_methodNamed B.named
  have hlocks := B.notSynchronized
  have iG : ∀ w ∈ w_G, w ∈ w_G_hasRoomFor := fun w h => List.mem_cons_of_mem _ (i_G w h)
  have hS : va_S ro_A s.heap s.heap [] := va_S.rf
  have hP : va_P (dC, dI) classes [cg_G g tA oA uA wA sA np ne bd er vr] s.heap := hP
  have hl := lv_entry ([.ref g, .int (nI k)]) (n := 2) (Nat.le_of_ble_eq_true rfl)
  rw [lg_entry_eq]
  generalize (lg_sl ([.ref g, .int (nI k)]) ++ List.replicate (2 - (lg_sl ([.ref g, .int (nI k)])).length) Slot.unset).toArray = ls at hl ⊢
  have hl : lv_has ls 2 [(0, .ref g), (1, .int (nI k))] := hl
  refine lv_aload_n hx hb d_G_hasRoomFor_0 rfl (lv_at hl 0 rfl) ?_
  refine va_get (D := (dC, dI)) (ci := 0) (v := .int (nI ne)) (C := R_G) (T := F_G) (N := 10) hx hb hts iG hown hK hP 0 rfl rfl 6 (by decide) (hts _ (List.mem_cons_of_mem _ wk_G_31)) (fun _ h9 => h9) rfl d_G_hasRoomFor_1 ?_
  refine lv_iload_n hx hb d_G_hasRoomFor_4 rfl (lv_at hl 1 rfl) ?_
  refine nr_iadd hx hb d_G_hasRoomFor_5 ?_
  refine lv_bipush (v := nI 60) hx hb d_G_hasRoomFor_6 (by decide) ?_
  refine nr_icmp_gt (by omega) (by omega) (tgt := 15) hx hb d_G_hasRoomFor_8 (by decide) (fun c_8 => ?_) (fun c_8 => ?_)
  · refine lv_iconst (v := nI 0) hx hb d_G_hasRoomFor_15 (by decide) ?_
    exact ro_zret hx hb hr hlocks hS rfl (by simp [nb_i]; omega) d_G_hasRoomFor_16
  · refine lv_iconst (v := nI 1) hx hb d_G_hasRoomFor_11 (by decide) ?_
    refine lv_goto (tgt := 16) hx hb d_G_hasRoomFor_12 (by decide) ?_
    exact ro_zret hx hb hr hlocks hS rfl (by simp [nb_i]; omega) d_G_hasRoomFor_16
set_option maxHeartbeats 4000000 in
set_option maxRecDepth 100000 in
theorem c_G_isErased (l : Launch) (dC : Nat → ClassId) (dI : Nat → Nat → Nat) (cI cL : ClassId) (g tA oA uA wA sA np ne : Nat) (bd : Int32) (er : Int64) (vr : Nat) (k : Nat) (hk : k < 64) : Met l y_G_isErased w_G_isErased ({ frames := 0, cells := 0, slots := 0, locals := 0 } : Room) (va_Pc [.ref g, .int (nI k)] (ro_B (dC, dI) classes [(cI, .int), (cL, .long)] [cg_G g tA oA uA wA sA np ne bd er vr])) (ro_Qi (nb_i (nb_u er k))) 0 0 ro_A := by
  refine Met.ofW (cc := b_G_isErased) (maxL := 2) (ret := (some .boolean)) (by decide) rfl ?_
  intro p e s m args below meth c s₁ B hml hv
  obtain ⟨rfl, hP, hK⟩ := hv
  have hx := B.exec
  have hb := B.bytes
  have hr := B.returns
  have hts := atoms_spec (ws := w_G_isErased) B.pre
  have hown : s.vm.findClass R_G = some m.cls := findClass_of_methodNamed B.named
  have hlocks := B.notSynchronized
  have iG : ∀ w ∈ w_G, w ∈ w_G_isErased := fun w h => List.mem_cons_of_mem _ (i_G w h)
  have hS : va_S ro_A s.heap s.heap [] := va_S.rf
  have hP : va_P (dC, dI) classes [cg_G g tA oA uA wA sA np ne bd er vr] s.heap := hP
  have hl := lv_entry ([.ref g, .int (nI k)]) (n := 2) (Nat.le_of_ble_eq_true rfl)
  rw [lg_entry_eq]
  generalize (lg_sl ([.ref g, .int (nI k)]) ++ List.replicate (2 - (lg_sl ([.ref g, .int (nI k)])).length) Slot.unset).toArray = ls at hl ⊢
  have hl : lv_has ls 2 [(0, .ref g), (1, .int (nI k))] := hl
  refine lv_aload_n hx hb d_G_isErased_0 rfl (lv_at hl 0 rfl) ?_
  refine va_get (D := (dC, dI)) (ci := 0) (v := .long er) (C := R_G) (T := F_G) (N := 10) hx hb hts iG hown hK hP 0 rfl rfl 8 (by decide) (hts _ (List.mem_cons_of_mem _ wk_G_37)) (fun _ h9 => h9) rfl d_G_isErased_1 ?_
  refine lv_iload_n hx hb d_G_isErased_4 rfl (lv_at hl 1 rfl) ?_
  refine lv_lshr hx hb d_G_isErased_5 rfl ?_
  refine lv_lconst (v := lN 1) hx hb d_G_isErased_6 (by decide) ?_
  refine lv_land hx hb d_G_isErased_7 ?_
  refine nr_asL (v := nb_l (nb_u er k)) (nb_lbt_and1 (by omega)) ?_
  refine lv_lconst (v := lN 1) hx hb d_G_isErased_8 (by decide) ?_
  refine W.lcmp hx hb d_G_isErased_9 ?_
  refine nr_lifneB (tgt := 17) hx hb d_G_isErased_10 (by decide) (fun c_10 => ?_) (fun c_10 => ?_)
  · refine lv_iconst (v := nI 0) hx hb d_G_isErased_17 (by decide) ?_
    exact ro_zret hx hb hr hlocks hS rfl (by simp [nb_i, *]) d_G_isErased_18
  · refine lv_iconst (v := nI 1) hx hb d_G_isErased_13 (by decide) ?_
    refine lv_goto (tgt := 18) hx hb d_G_isErased_14 (by decide) ?_
    exact ro_zret hx hb hr hlocks hS rfl (by simp [nb_i, *]) d_G_isErased_18
set_option maxHeartbeats 4000000 in
set_option maxRecDepth 100000 in
theorem c_G_weightNow (l : Launch) (dC : Nat → ClassId) (dI : Nat → Nat → Nat) (cI cL : ClassId) (g tA oA uA wA sA np ne : Nat) (bd : Int32) (er : Int64) (vr : Nat) (wt : Nat → Nat) (k : Nat) (hk : k < 60) : Met l y_G_weightNow w_G_weightNow ({ frames := 0, cells := 0, slots := 0, locals := 0 } : Room) (va_Pc [.ref g, .int (nI k)] (ro_B (dC, dI) classes [(cI, .int), (cL, .long)] [cg_G g tA oA uA wA sA np ne bd er vr, cg_N wA cI 60 wt])) (ro_Qi (nI (ng_w er wt k))) 0 0 ro_A := by
  refine Met.ofW (cc := b_G_weightNow) (maxL := 2) (ret := (some .int)) (by decide) rfl ?_
  intro p e s m args below meth c s₁ B hml hv
  obtain ⟨rfl, hP, hK⟩ := hv
  have hx := B.exec
  have hb := B.bytes
  have hr := B.returns
  have hts := atoms_spec (ws := w_G_weightNow) B.pre
  have hown : s.vm.findClass R_G = some m.cls := findClass_of_methodNamed B.named
  have hlocks := B.notSynchronized
  have iG : ∀ w ∈ w_G, w ∈ w_G_weightNow := fun w h => List.mem_cons_of_mem _ (i_G w h)
  have hS : va_S ro_A s.heap s.heap [] := va_S.rf
  have hP : va_P (dC, dI) classes [cg_G g tA oA uA wA sA np ne bd er vr, cg_N wA cI 60 wt] s.heap := hP
  have hl := lv_entry ([.ref g, .int (nI k)]) (n := 2) (Nat.le_of_ble_eq_true rfl)
  rw [lg_entry_eq]
  generalize (lg_sl ([.ref g, .int (nI k)]) ++ List.replicate (2 - (lg_sl ([.ref g, .int (nI k)])).length) Slot.unset).toArray = ls at hl ⊢
  have hl : lv_has ls 2 [(0, .ref g), (1, .int (nI k))] := hl
  refine lv_aload_n hx hb d_G_weightNow_0 rfl (lv_at hl 0 rfl) ?_
  refine va_get (D := (dC, dI)) (ci := 0) (v := .long er) (C := R_G) (T := F_G) (N := 10) hx hb hts iG hown hK hP 0 rfl rfl 8 (by decide) (hts _ (List.mem_cons_of_mem _ wk_G_37)) (fun _ h9 => h9) rfl d_G_weightNow_1 ?_
  refine lv_iload_n hx hb d_G_weightNow_4 rfl (lv_at hl 1 rfl) ?_
  refine lv_lshr hx hb d_G_weightNow_5 rfl ?_
  refine lv_lconst (v := lN 1) hx hb d_G_weightNow_6 (by decide) ?_
  refine lv_land hx hb d_G_weightNow_7 ?_
  refine nr_asL (v := nb_l (nb_u er k)) (nb_lbt_and1 (by omega)) ?_
  refine lv_lconst (v := lN 1) hx hb d_G_weightNow_8 (by decide) ?_
  refine W.lcmp hx hb d_G_weightNow_9 ?_
  refine nr_lifneB (tgt := 17) hx hb d_G_weightNow_10 (by decide) (fun c_10 => ?_) (fun c_10 => ?_)
  · refine lv_aload_n hx hb d_G_weightNow_17 rfl (lv_at hl 0 rfl) ?_
    refine va_get (D := (dC, dI)) (ci := 0) (v := .ref wA) (C := R_G) (T := F_G) (N := 10) hx hb hts iG hown hK hP 0 rfl rfl 3 (by decide) (hts _ (List.mem_cons_of_mem _ wk_G_21)) (fun _ h9 => h9) rfl d_G_weightNow_18 ?_
    refine lv_iload_n hx hb d_G_weightNow_21 rfl (lv_at hl 1 rfl) ?_
    refine nr_iald hx hb hK hP 1 0 rfl rfl (by omega) (by decide) d_G_weightNow_22 ?_
    exact ro_iret hx hb hr hlocks hS (by simp [ng_w, *]) d_G_weightNow_23
  · refine lv_iconst (v := nI 0) hx hb d_G_weightNow_13 (by decide) ?_
    refine lv_goto (tgt := 23) hx hb d_G_weightNow_14 (by decide) ?_
    exact ro_iret hx hb hr hlocks hS (by simp [ng_w, *]) d_G_weightNow_23
set_option maxHeartbeats 4000000 in
set_option maxRecDepth 100000 in
theorem c_G_endBeyond (l : Launch) (dC : Nat → ClassId) (dI : Nat → Nat → Nat) (cI cL : ClassId) (g tA oA uA wA sA np ne : Nat) (bd : Int32) (er : Int64) (vr : Nat) (oe ot : Nat → Nat) (k x : Nat) (hk : k < 60) (hx1 : x < 2 ^ 31) (ho : oe k < 2 ^ 31) (hu : ot k < 2 ^ 31) : Met l y_G_endBeyond w_G_endBeyond ({ frames := 0, cells := 0, slots := 0, locals := 0 } : Room) (va_Pc [.ref g, .int (nI k), .int (nI x)] (ro_B (dC, dI) classes [(cI, .int), (cL, .long)] [cg_G g tA oA uA wA sA np ne bd er vr, cg_N oA cI 60 oe, cg_N uA cI 60 ot])) (ro_Qi (ng_oi (ng_nx oe ot k x))) 0 0 ro_A := by
  refine Met.ofW (cc := b_G_endBeyond) (maxL := 3) (ret := (some .int)) (by decide) rfl ?_
  intro p e s m args below meth c s₁ B hml hv
  obtain ⟨rfl, hP, hK⟩ := hv
  have hx := B.exec
  have hb := B.bytes
  have hr := B.returns
  have hts := atoms_spec (ws := w_G_endBeyond) B.pre
  have hown : s.vm.findClass R_G = some m.cls := findClass_of_methodNamed B.named
  have hlocks := B.notSynchronized
  have iG : ∀ w ∈ w_G, w ∈ w_G_endBeyond := fun w h => List.mem_cons_of_mem _ (i_G w h)
  have hS : va_S ro_A s.heap s.heap [] := va_S.rf
  have hP : va_P (dC, dI) classes [cg_G g tA oA uA wA sA np ne bd er vr, cg_N oA cI 60 oe, cg_N uA cI 60 ot] s.heap := hP
  have hl := lv_entry ([.ref g, .int (nI k), .int (nI x)]) (n := 3) (Nat.le_of_ble_eq_true rfl)
  rw [lg_entry_eq]
  generalize (lg_sl ([.ref g, .int (nI k), .int (nI x)]) ++ List.replicate (3 - (lg_sl ([.ref g, .int (nI k), .int (nI x)])).length) Slot.unset).toArray = ls at hl ⊢
  have hl : lv_has ls 3 [(0, .ref g), (1, .int (nI k)), (2, .int (nI x))] := hl
  refine lv_aload_n hx hb d_G_endBeyond_0 rfl (lv_at hl 0 rfl) ?_
  refine va_get (D := (dC, dI)) (ci := 0) (v := .ref oA) (C := R_G) (T := F_G) (N := 10) hx hb hts iG hown hK hP 0 rfl rfl 1 (by decide) (hts _ (List.mem_cons_of_mem _ wk_G_15)) (fun _ h9 => h9) rfl d_G_endBeyond_1 ?_
  refine lv_iload_n hx hb d_G_endBeyond_4 rfl (lv_at hl 1 rfl) ?_
  refine nr_iald hx hb hK hP 1 0 rfl rfl (by omega) (by decide) d_G_endBeyond_5 ?_
  refine lv_iload_n hx hb d_G_endBeyond_6 rfl (lv_at hl 2 rfl) ?_
  refine nr_icmp_ne (by omega) (by omega) (tgt := 17) hx hb d_G_endBeyond_7 (by decide) (fun c_7 => ?_) (fun c_7 => ?_)
  · refine lv_aload_n hx hb d_G_endBeyond_17 rfl (lv_at hl 0 rfl) ?_
    refine va_get (D := (dC, dI)) (ci := 0) (v := .ref uA) (C := R_G) (T := F_G) (N := 10) hx hb hts iG hown hK hP 0 rfl rfl 2 (by decide) (hts _ (List.mem_cons_of_mem _ wk_G_18)) (fun _ h9 => h9) rfl d_G_endBeyond_18 ?_
    refine lv_iload_n hx hb d_G_endBeyond_21 rfl (lv_at hl 1 rfl) ?_
    refine nr_iald hx hb hK hP 2 0 rfl rfl (by omega) (by decide) d_G_endBeyond_22 ?_
    refine lv_iload_n hx hb d_G_endBeyond_23 rfl (lv_at hl 2 rfl) ?_
    refine nr_icmp_ne (by omega) (by omega) (tgt := 36) hx hb d_G_endBeyond_24 (by decide) (fun c_24 => ?_) (fun c_24 => ?_)
    · refine lv_iconst (v := -1) hx hb d_G_endBeyond_36 (by decide) ?_
      exact ro_iret hx hb hr hlocks hS (by simp [ng_oi, ng_nx, *]) d_G_endBeyond_37
    · refine lv_aload_n hx hb d_G_endBeyond_27 rfl (lv_at hl 0 rfl) ?_
      refine va_get (D := (dC, dI)) (ci := 0) (v := .ref oA) (C := R_G) (T := F_G) (N := 10) hx hb hts iG hown hK hP 0 rfl rfl 1 (by decide) (hts _ (List.mem_cons_of_mem _ wk_G_15)) (fun _ h9 => h9) rfl d_G_endBeyond_28 ?_
      refine lv_iload_n hx hb d_G_endBeyond_31 rfl (lv_at hl 1 rfl) ?_
      refine nr_iald hx hb hK hP 1 0 rfl rfl (by omega) (by decide) d_G_endBeyond_32 ?_
      refine lv_goto (tgt := 37) hx hb d_G_endBeyond_33 (by decide) ?_
      exact ro_iret hx hb hr hlocks hS (by simp [ng_oi, ng_nx, *]) d_G_endBeyond_37
  · refine lv_aload_n hx hb d_G_endBeyond_10 rfl (lv_at hl 0 rfl) ?_
    refine va_get (D := (dC, dI)) (ci := 0) (v := .ref uA) (C := R_G) (T := F_G) (N := 10) hx hb hts iG hown hK hP 0 rfl rfl 2 (by decide) (hts _ (List.mem_cons_of_mem _ wk_G_18)) (fun _ h9 => h9) rfl d_G_endBeyond_11 ?_
    refine lv_iload_n hx hb d_G_endBeyond_14 rfl (lv_at hl 1 rfl) ?_
    refine nr_iald hx hb hK hP 2 0 rfl rfl (by omega) (by decide) d_G_endBeyond_15 ?_
    exact ro_iret hx hb hr hlocks hS (by simp [ng_oi, ng_nx, *]) d_G_endBeyond_16
set_option maxHeartbeats 4000000 in
set_option maxRecDepth 100000 in
theorem c_G_addPoint (l : Launch) (dC : Nat → ClassId) (dI : Nat → Nat → Nat) (cI cL : ClassId) (g tA oA uA wA sA np ne : Nat) (bd : Int32) (er : Int64) (vr : Nat) (tm : Nat → Nat) (b : Bool) (t : Nat) (hnp : np < 20) : Met l y_G_addPoint w_G_addPoint ({ frames := 0, cells := 0, slots := 0, locals := 0 } : Room) (va_Pc [.ref g, .int (nb_i b), .int (nI t)] (rw_B (dC, dI) classes [(cI, .int), (cL, .long)] [cg_G g tA oA uA wA sA np ne bd er vr, cg_N tA cI 20 tm])) (rw_Qi (dC, dI) classes (rw_A [cg_G g tA oA uA wA sA np ne bd er vr, cg_N tA cI 20 tm]) (fun r (u : Unit) => r = (nI np)) (fun u => [cg_G g tA oA uA wA sA (np + 1) ne (ng_bd b bd np) er (vr + 1), cg_N tA cI 20 (va_up tm np t)])) 0 0 (rw_A [cg_G g tA oA uA wA sA np ne bd er vr, cg_N tA cI 20 tm]) := by
  refine Met.ofW (cc := b_G_addPoint) (maxL := 4) (ret := (some .int)) (by decide) rfl ?_
  intro p e s m args below meth c s₁ B hml hv
  obtain ⟨rfl, hP, hK, hD0⟩ := hv
  have hx := B.exec
  have hb := B.bytes
  have hr := B.returns
  have hts := atoms_spec (ws := w_G_addPoint) B.pre
  have hown : s.vm.findClass R_G = some m.cls := findClass_of_methodNamed B.named
  have hlocks := B.notSynchronized
  have iG : ∀ w ∈ w_G, w ∈ w_G_addPoint := fun w h => List.mem_cons_of_mem _ (i_G w h)
  have hD := rw_own hD0
  generalize hAe : rw_A [cg_G g tA oA uA wA sA np ne bd er vr, cg_N tA cI 20 tm] = A at hD ⊢
  have hS : va_S A s.heap s.heap [] := va_S.rf
  have hP : va_P (dC, dI) classes [cg_G g tA oA uA wA sA np ne bd er vr, cg_N tA cI 20 tm] s.heap := hP
  have hl := lv_entry ([.ref g, .int (nb_i b), .int (nI t)]) (n := 4) (Nat.le_of_ble_eq_true rfl)
  rw [lg_entry_eq]
  generalize (lg_sl ([.ref g, .int (nb_i b), .int (nI t)]) ++ List.replicate (4 - (lg_sl ([.ref g, .int (nb_i b), .int (nI t)])).length) Slot.unset).toArray = ls at hl ⊢
  have hl : lv_has ls 4 [(0, .ref g), (1, .int (nb_i b)), (2, .int (nI t))] := hl
  refine lv_aload_n hx hb d_G_addPoint_0 rfl (lv_at hl 0 rfl) ?_
  refine va_get (D := (dC, dI)) (ci := 0) (v := .int (nI np)) (C := R_G) (T := F_G) (N := 10) hx hb hts iG hown hK hP 0 rfl rfl 5 (by decide) (hts _ (List.mem_cons_of_mem _ wk_G_27)) (fun _ h9 => h9) rfl d_G_addPoint_1 ?_
  refine lv_istore_n (lv' := [(3, .int (nI np)), (0, .ref g), (1, .int (nb_i b)), (2, .int (nI t))]) hx hb d_G_addPoint_4 rfl hl (by decide) rfl (fun ls hl => ?_)
  refine lv_aload_n hx hb d_G_addPoint_5 rfl (lv_at hl 1 rfl) ?_
  refine va_get (D := (dC, dI)) (ci := 0) (v := .ref tA) (C := R_G) (T := F_G) (N := 10) hx hb hts iG hown hK hP 0 rfl rfl 0 (by decide) (hts _ (List.mem_cons_of_mem _ wk_G_9)) (fun _ h9 => h9) rfl d_G_addPoint_6 ?_
  refine lv_iload_n hx hb d_G_addPoint_9 rfl (lv_at hl 0 rfl) ?_
  refine lv_iload_n hx hb d_G_addPoint_10 rfl (lv_at hl 3 rfl) ?_
  refine nr_iast hx hb hK hP hD hS 1 0 rfl rfl (by omega) (by decide) d_G_addPoint_11 (fun H locs hP hD hS => ?_)
  have hP : va_P (dC, dI) classes [cg_G g tA oA uA wA sA np ne bd er vr, cg_N tA cI 20 (va_up tm np t)] H := hP
  have hD : va_D A [cg_G g tA oA uA wA sA np ne bd er vr, cg_N tA cI 20 (va_up tm np t)] := hD
  refine lv_iload_n hx hb d_G_addPoint_12 rfl (lv_at hl 2 rfl) ?_
  refine nr_ifeqB (tgt := 28) hx hb d_G_addPoint_13 (by decide) (fun c_13 => ?_) (fun c_13 => ?_)
  · subst c_13
    refine lv_aload_n hx hb d_G_addPoint_28 rfl (lv_at hl 1 rfl) ?_
    refine lv_dup hx hb d_G_addPoint_29 rfl ?_
    refine va_get (D := (dC, dI)) (ci := 0) (v := .int (nI np)) (C := R_G) (T := F_G) (N := 10) hx hb hts iG hown hK hP 0 rfl rfl 5 (by decide) (hts _ (List.mem_cons_of_mem _ wk_G_27)) (fun _ h9 => h9) rfl d_G_addPoint_30 ?_
    refine lv_iconst (v := nI 1) hx hb d_G_addPoint_33 (by decide) ?_
    refine nr_iadd hx hb d_G_addPoint_34 ?_
    refine va_put (D := (dC, dI)) (ci := 0) (v := .int (nI (np + 1))) (ty := .int) (C := R_G) (T := F_G) (N := 10) hx hb hts iG t_G t_G_ok n_G hown hK hP hD hS 0 rfl rfl 5 (by decide) (hts _ (List.mem_cons_of_mem _ wk_G_27)) (fun _ h9 => h9) rfl (by decide +kernel) rfl rfl (Nat.le_of_ble_eq_true rfl) d_G_addPoint_35 (fun H locs hP hD hS => ?_)
    have hP : va_P (dC, dI) classes [cg_G g tA oA uA wA sA (np + 1) ne bd er vr, cg_N tA cI 20 (va_up tm np t)] H := hP
    have hD : va_D A [cg_G g tA oA uA wA sA (np + 1) ne bd er vr, cg_N tA cI 20 (va_up tm np t)] := hD
    refine lv_aload_n hx hb d_G_addPoint_38 rfl (lv_at hl 1 rfl) ?_
    refine lv_dup hx hb d_G_addPoint_39 rfl ?_
    refine va_get (D := (dC, dI)) (ci := 0) (v := .int (nI vr)) (C := R_G) (T := F_G) (N := 10) hx hb hts iG hown hK hP 0 rfl rfl 9 (by decide) (hts _ (List.mem_cons_of_mem _ wk_G_41)) (fun _ h9 => h9) rfl d_G_addPoint_40 ?_
    refine lv_iconst (v := nI 1) hx hb d_G_addPoint_43 (by decide) ?_
    refine nr_iadd hx hb d_G_addPoint_44 ?_
    refine va_put (D := (dC, dI)) (ci := 0) (v := .int (nI (vr + 1))) (ty := .int) (C := R_G) (T := F_G) (N := 10) hx hb hts iG t_G t_G_ok n_G hown hK hP hD hS 0 rfl rfl 9 (by decide) (hts _ (List.mem_cons_of_mem _ wk_G_41)) (fun _ h9 => h9) rfl (by decide +kernel) rfl rfl (Nat.le_of_ble_eq_true rfl) d_G_addPoint_45 (fun H locs hP hD hS => ?_)
    have hP : va_P (dC, dI) classes [cg_G g tA oA uA wA sA (np + 1) ne bd er (vr + 1), cg_N tA cI 20 (va_up tm np t)] H := hP
    have hD : va_D A [cg_G g tA oA uA wA sA (np + 1) ne bd er (vr + 1), cg_N tA cI 20 (va_up tm np t)] := hD
    refine lv_iload_n hx hb d_G_addPoint_48 rfl (lv_at hl 0 rfl) ?_
    exact rw_iret () hx hb hr hlocks hS hP rfl d_G_addPoint_49
  · subst c_13
    refine lv_aload_n hx hb d_G_addPoint_16 rfl (lv_at hl 1 rfl) ?_
    refine lv_dup hx hb d_G_addPoint_17 rfl ?_
    refine va_get (D := (dC, dI)) (ci := 0) (v := .int bd) (C := R_G) (T := F_G) (N := 10) hx hb hts iG hown hK hP 0 rfl rfl 7 (by decide) (hts _ (List.mem_cons_of_mem _ wk_G_34)) (fun _ h9 => h9) rfl d_G_addPoint_18 ?_
    refine lv_iconst (v := nI 1) hx hb d_G_addPoint_21 (by decide) ?_
    refine lv_iload_n hx hb d_G_addPoint_22 rfl (lv_at hl 0 rfl) ?_
    refine lv_ishl hx hb d_G_addPoint_23 ?_
    refine nr_as (v := nb_o np) rfl ?_
    refine lv_ior hx hb d_G_addPoint_24 ?_
    refine va_put (D := (dC, dI)) (ci := 0) (v := .int (bd ||| (nb_o np))) (ty := .int) (C := R_G) (T := F_G) (N := 10) hx hb hts iG t_G t_G_ok n_G hown hK hP hD hS 0 rfl rfl 7 (by decide) (hts _ (List.mem_cons_of_mem _ wk_G_34)) (fun _ h9 => h9) rfl (by decide +kernel) rfl rfl (Nat.le_of_ble_eq_true rfl) d_G_addPoint_25 (fun H locs hP hD hS => ?_)
    have hP : va_P (dC, dI) classes [cg_G g tA oA uA wA sA np ne (bd ||| (nb_o np)) er vr, cg_N tA cI 20 (va_up tm np t)] H := hP
    have hD : va_D A [cg_G g tA oA uA wA sA np ne (bd ||| (nb_o np)) er vr, cg_N tA cI 20 (va_up tm np t)] := hD
    refine lv_aload_n hx hb d_G_addPoint_28 rfl (lv_at hl 1 rfl) ?_
    refine lv_dup hx hb d_G_addPoint_29 rfl ?_
    refine va_get (D := (dC, dI)) (ci := 0) (v := .int (nI np)) (C := R_G) (T := F_G) (N := 10) hx hb hts iG hown hK hP 0 rfl rfl 5 (by decide) (hts _ (List.mem_cons_of_mem _ wk_G_27)) (fun _ h9 => h9) rfl d_G_addPoint_30 ?_
    refine lv_iconst (v := nI 1) hx hb d_G_addPoint_33 (by decide) ?_
    refine nr_iadd hx hb d_G_addPoint_34 ?_
    refine va_put (D := (dC, dI)) (ci := 0) (v := .int (nI (np + 1))) (ty := .int) (C := R_G) (T := F_G) (N := 10) hx hb hts iG t_G t_G_ok n_G hown hK hP hD hS 0 rfl rfl 5 (by decide) (hts _ (List.mem_cons_of_mem _ wk_G_27)) (fun _ h9 => h9) rfl (by decide +kernel) rfl rfl (Nat.le_of_ble_eq_true rfl) d_G_addPoint_35 (fun H locs hP hD hS => ?_)
    have hP : va_P (dC, dI) classes [cg_G g tA oA uA wA sA (np + 1) ne (bd ||| (nb_o np)) er vr, cg_N tA cI 20 (va_up tm np t)] H := hP
    have hD : va_D A [cg_G g tA oA uA wA sA (np + 1) ne (bd ||| (nb_o np)) er vr, cg_N tA cI 20 (va_up tm np t)] := hD
    refine lv_aload_n hx hb d_G_addPoint_38 rfl (lv_at hl 1 rfl) ?_
    refine lv_dup hx hb d_G_addPoint_39 rfl ?_
    refine va_get (D := (dC, dI)) (ci := 0) (v := .int (nI vr)) (C := R_G) (T := F_G) (N := 10) hx hb hts iG hown hK hP 0 rfl rfl 9 (by decide) (hts _ (List.mem_cons_of_mem _ wk_G_41)) (fun _ h9 => h9) rfl d_G_addPoint_40 ?_
    refine lv_iconst (v := nI 1) hx hb d_G_addPoint_43 (by decide) ?_
    refine nr_iadd hx hb d_G_addPoint_44 ?_
    refine va_put (D := (dC, dI)) (ci := 0) (v := .int (nI (vr + 1))) (ty := .int) (C := R_G) (T := F_G) (N := 10) hx hb hts iG t_G t_G_ok n_G hown hK hP hD hS 0 rfl rfl 9 (by decide) (hts _ (List.mem_cons_of_mem _ wk_G_41)) (fun _ h9 => h9) rfl (by decide +kernel) rfl rfl (Nat.le_of_ble_eq_true rfl) d_G_addPoint_45 (fun H locs hP hD hS => ?_)
    have hP : va_P (dC, dI) classes [cg_G g tA oA uA wA sA (np + 1) ne (bd ||| (nb_o np)) er (vr + 1), cg_N tA cI 20 (va_up tm np t)] H := hP
    have hD : va_D A [cg_G g tA oA uA wA sA (np + 1) ne (bd ||| (nb_o np)) er (vr + 1), cg_N tA cI 20 (va_up tm np t)] := hD
    refine lv_iload_n hx hb d_G_addPoint_48 rfl (lv_at hl 0 rfl) ?_
    exact rw_iret () hx hb hr hlocks hS hP rfl d_G_addPoint_49
set_option maxHeartbeats 4000000 in
set_option maxRecDepth 100000 in
theorem c_G_addEdge (l : Launch) (dC : Nat → ClassId) (dI : Nat → Nat → Nat) (cI cL : ClassId) (g tA oA uA wA sA np ne : Nat) (bd : Int32) (er : Int64) (vr : Nat) (oe ot wt sg : Nat → Nat) (a b w z : Nat) (hne : ne < 60) : Met l y_G_addEdge w_G_addEdge ({ frames := 0, cells := 0, slots := 0, locals := 0 } : Room) (va_Pc [.ref g, .int (nI a), .int (nI b), .int (nI w), .int (nI z)] (rw_B (dC, dI) classes [(cI, .int), (cL, .long)] [cg_G g tA oA uA wA sA np ne bd er vr, cg_N oA cI 60 oe, cg_N uA cI 60 ot, cg_N wA cI 60 wt, cg_N sA cI 60 sg])) (rw_Qi (dC, dI) classes (rw_A [cg_G g tA oA uA wA sA np ne bd er vr, cg_N oA cI 60 oe, cg_N uA cI 60 ot, cg_N wA cI 60 wt, cg_N sA cI 60 sg]) (fun r (u : Unit) => r = (nI ne)) (fun u => [cg_G g tA oA uA wA sA np (ne + 1) bd er (vr + 1), cg_N oA cI 60 (va_up oe ne a), cg_N uA cI 60 (va_up ot ne b), cg_N wA cI 60 (va_up wt ne w), cg_N sA cI 60 (va_up sg ne z)])) 0 0 (rw_A [cg_G g tA oA uA wA sA np ne bd er vr, cg_N oA cI 60 oe, cg_N uA cI 60 ot, cg_N wA cI 60 wt, cg_N sA cI 60 sg]) := by
  refine Met.ofW (cc := b_G_addEdge) (maxL := 6) (ret := (some .int)) (by decide) rfl ?_
  intro p e s m args below meth c s₁ B hml hv
  obtain ⟨rfl, hP, hK, hD0⟩ := hv
  have hx := B.exec
  have hb := B.bytes
  have hr := B.returns
  have hts := atoms_spec (ws := w_G_addEdge) B.pre
  have hown : s.vm.findClass R_G = some m.cls := findClass_of_methodNamed B.named
  have hlocks := B.notSynchronized
  have iG : ∀ w ∈ w_G, w ∈ w_G_addEdge := fun w h => List.mem_cons_of_mem _ (i_G w h)
  have hD := rw_own hD0
  generalize hAe : rw_A [cg_G g tA oA uA wA sA np ne bd er vr, cg_N oA cI 60 oe, cg_N uA cI 60 ot, cg_N wA cI 60 wt, cg_N sA cI 60 sg] = A at hD ⊢
  have hS : va_S A s.heap s.heap [] := va_S.rf
  have hP : va_P (dC, dI) classes [cg_G g tA oA uA wA sA np ne bd er vr, cg_N oA cI 60 oe, cg_N uA cI 60 ot, cg_N wA cI 60 wt, cg_N sA cI 60 sg] s.heap := hP
  have hl := lv_entry ([.ref g, .int (nI a), .int (nI b), .int (nI w), .int (nI z)]) (n := 6) (Nat.le_of_ble_eq_true rfl)
  rw [lg_entry_eq]
  generalize (lg_sl ([.ref g, .int (nI a), .int (nI b), .int (nI w), .int (nI z)]) ++ List.replicate (6 - (lg_sl ([.ref g, .int (nI a), .int (nI b), .int (nI w), .int (nI z)])).length) Slot.unset).toArray = ls at hl ⊢
  have hl : lv_has ls 6 [(0, .ref g), (1, .int (nI a)), (2, .int (nI b)), (3, .int (nI w)), (4, .int (nI z))] := hl
  refine lv_aload_n hx hb d_G_addEdge_0 rfl (lv_at hl 0 rfl) ?_
  refine va_get (D := (dC, dI)) (ci := 0) (v := .int (nI ne)) (C := R_G) (T := F_G) (N := 10) hx hb hts iG hown hK hP 0 rfl rfl 6 (by decide) (hts _ (List.mem_cons_of_mem _ wk_G_31)) (fun _ h9 => h9) rfl d_G_addEdge_1 ?_
  refine lv_istore (lv' := [(5, .int (nI ne)), (0, .ref g), (1, .int (nI a)), (2, .int (nI b)), (3, .int (nI w)), (4, .int (nI z))]) hx hb d_G_addEdge_4 hl (by decide) rfl (fun ls hl => ?_)
  refine lv_aload_n hx hb d_G_addEdge_6 rfl (lv_at hl 1 rfl) ?_
  refine va_get (D := (dC, dI)) (ci := 0) (v := .ref oA) (C := R_G) (T := F_G) (N := 10) hx hb hts iG hown hK hP 0 rfl rfl 1 (by decide) (hts _ (List.mem_cons_of_mem _ wk_G_15)) (fun _ h9 => h9) rfl d_G_addEdge_7 ?_
  refine lv_iload hx hb d_G_addEdge_10 (lv_at hl 0 rfl) ?_
  refine lv_iload_n hx hb d_G_addEdge_12 rfl (lv_at hl 2 rfl) ?_
  refine nr_iast hx hb hK hP hD hS 1 0 rfl rfl (by omega) (by decide) d_G_addEdge_13 (fun H locs hP hD hS => ?_)
  have hP : va_P (dC, dI) classes [cg_G g tA oA uA wA sA np ne bd er vr, cg_N oA cI 60 (va_up oe ne a), cg_N uA cI 60 ot, cg_N wA cI 60 wt, cg_N sA cI 60 sg] H := hP
  have hD : va_D A [cg_G g tA oA uA wA sA np ne bd er vr, cg_N oA cI 60 (va_up oe ne a), cg_N uA cI 60 ot, cg_N wA cI 60 wt, cg_N sA cI 60 sg] := hD
  refine lv_aload_n hx hb d_G_addEdge_14 rfl (lv_at hl 1 rfl) ?_
  refine va_get (D := (dC, dI)) (ci := 0) (v := .ref uA) (C := R_G) (T := F_G) (N := 10) hx hb hts iG hown hK hP 0 rfl rfl 2 (by decide) (hts _ (List.mem_cons_of_mem _ wk_G_18)) (fun _ h9 => h9) rfl d_G_addEdge_15 ?_
  refine lv_iload hx hb d_G_addEdge_18 (lv_at hl 0 rfl) ?_
  refine lv_iload_n hx hb d_G_addEdge_20 rfl (lv_at hl 3 rfl) ?_
  refine nr_iast hx hb hK hP hD hS 2 0 rfl rfl (by omega) (by decide) d_G_addEdge_21 (fun H locs hP hD hS => ?_)
  have hP : va_P (dC, dI) classes [cg_G g tA oA uA wA sA np ne bd er vr, cg_N oA cI 60 (va_up oe ne a), cg_N uA cI 60 (va_up ot ne b), cg_N wA cI 60 wt, cg_N sA cI 60 sg] H := hP
  have hD : va_D A [cg_G g tA oA uA wA sA np ne bd er vr, cg_N oA cI 60 (va_up oe ne a), cg_N uA cI 60 (va_up ot ne b), cg_N wA cI 60 wt, cg_N sA cI 60 sg] := hD
  refine lv_aload_n hx hb d_G_addEdge_22 rfl (lv_at hl 1 rfl) ?_
  refine va_get (D := (dC, dI)) (ci := 0) (v := .ref wA) (C := R_G) (T := F_G) (N := 10) hx hb hts iG hown hK hP 0 rfl rfl 3 (by decide) (hts _ (List.mem_cons_of_mem _ wk_G_21)) (fun _ h9 => h9) rfl d_G_addEdge_23 ?_
  refine lv_iload hx hb d_G_addEdge_26 (lv_at hl 0 rfl) ?_
  refine lv_iload_n hx hb d_G_addEdge_28 rfl (lv_at hl 4 rfl) ?_
  refine nr_iast hx hb hK hP hD hS 3 0 rfl rfl (by omega) (by decide) d_G_addEdge_29 (fun H locs hP hD hS => ?_)
  have hP : va_P (dC, dI) classes [cg_G g tA oA uA wA sA np ne bd er vr, cg_N oA cI 60 (va_up oe ne a), cg_N uA cI 60 (va_up ot ne b), cg_N wA cI 60 (va_up wt ne w), cg_N sA cI 60 sg] H := hP
  have hD : va_D A [cg_G g tA oA uA wA sA np ne bd er vr, cg_N oA cI 60 (va_up oe ne a), cg_N uA cI 60 (va_up ot ne b), cg_N wA cI 60 (va_up wt ne w), cg_N sA cI 60 sg] := hD
  refine lv_aload_n hx hb d_G_addEdge_30 rfl (lv_at hl 1 rfl) ?_
  refine va_get (D := (dC, dI)) (ci := 0) (v := .ref sA) (C := R_G) (T := F_G) (N := 10) hx hb hts iG hown hK hP 0 rfl rfl 4 (by decide) (hts _ (List.mem_cons_of_mem _ wk_G_24)) (fun _ h9 => h9) rfl d_G_addEdge_31 ?_
  refine lv_iload hx hb d_G_addEdge_34 (lv_at hl 0 rfl) ?_
  refine lv_iload hx hb d_G_addEdge_36 (lv_at hl 5 rfl) ?_
  refine nr_iast hx hb hK hP hD hS 4 0 rfl rfl (by omega) (by decide) d_G_addEdge_38 (fun H locs hP hD hS => ?_)
  have hP : va_P (dC, dI) classes [cg_G g tA oA uA wA sA np ne bd er vr, cg_N oA cI 60 (va_up oe ne a), cg_N uA cI 60 (va_up ot ne b), cg_N wA cI 60 (va_up wt ne w), cg_N sA cI 60 (va_up sg ne z)] H := hP
  have hD : va_D A [cg_G g tA oA uA wA sA np ne bd er vr, cg_N oA cI 60 (va_up oe ne a), cg_N uA cI 60 (va_up ot ne b), cg_N wA cI 60 (va_up wt ne w), cg_N sA cI 60 (va_up sg ne z)] := hD
  refine lv_aload_n hx hb d_G_addEdge_39 rfl (lv_at hl 1 rfl) ?_
  refine lv_dup hx hb d_G_addEdge_40 rfl ?_
  refine va_get (D := (dC, dI)) (ci := 0) (v := .int (nI ne)) (C := R_G) (T := F_G) (N := 10) hx hb hts iG hown hK hP 0 rfl rfl 6 (by decide) (hts _ (List.mem_cons_of_mem _ wk_G_31)) (fun _ h9 => h9) rfl d_G_addEdge_41 ?_
  refine lv_iconst (v := nI 1) hx hb d_G_addEdge_44 (by decide) ?_
  refine nr_iadd hx hb d_G_addEdge_45 ?_
  refine va_put (D := (dC, dI)) (ci := 0) (v := .int (nI (ne + 1))) (ty := .int) (C := R_G) (T := F_G) (N := 10) hx hb hts iG t_G t_G_ok n_G hown hK hP hD hS 0 rfl rfl 6 (by decide) (hts _ (List.mem_cons_of_mem _ wk_G_31)) (fun _ h9 => h9) rfl (by decide +kernel) rfl rfl (Nat.le_of_ble_eq_true rfl) d_G_addEdge_46 (fun H locs hP hD hS => ?_)
  have hP : va_P (dC, dI) classes [cg_G g tA oA uA wA sA np (ne + 1) bd er vr, cg_N oA cI 60 (va_up oe ne a), cg_N uA cI 60 (va_up ot ne b), cg_N wA cI 60 (va_up wt ne w), cg_N sA cI 60 (va_up sg ne z)] H := hP
  have hD : va_D A [cg_G g tA oA uA wA sA np (ne + 1) bd er vr, cg_N oA cI 60 (va_up oe ne a), cg_N uA cI 60 (va_up ot ne b), cg_N wA cI 60 (va_up wt ne w), cg_N sA cI 60 (va_up sg ne z)] := hD
  refine lv_aload_n hx hb d_G_addEdge_49 rfl (lv_at hl 1 rfl) ?_
  refine lv_dup hx hb d_G_addEdge_50 rfl ?_
  refine va_get (D := (dC, dI)) (ci := 0) (v := .int (nI vr)) (C := R_G) (T := F_G) (N := 10) hx hb hts iG hown hK hP 0 rfl rfl 9 (by decide) (hts _ (List.mem_cons_of_mem _ wk_G_41)) (fun _ h9 => h9) rfl d_G_addEdge_51 ?_
  refine lv_iconst (v := nI 1) hx hb d_G_addEdge_54 (by decide) ?_
  refine nr_iadd hx hb d_G_addEdge_55 ?_
  refine va_put (D := (dC, dI)) (ci := 0) (v := .int (nI (vr + 1))) (ty := .int) (C := R_G) (T := F_G) (N := 10) hx hb hts iG t_G t_G_ok n_G hown hK hP hD hS 0 rfl rfl 9 (by decide) (hts _ (List.mem_cons_of_mem _ wk_G_41)) (fun _ h9 => h9) rfl (by decide +kernel) rfl rfl (Nat.le_of_ble_eq_true rfl) d_G_addEdge_56 (fun H locs hP hD hS => ?_)
  have hP : va_P (dC, dI) classes [cg_G g tA oA uA wA sA np (ne + 1) bd er (vr + 1), cg_N oA cI 60 (va_up oe ne a), cg_N uA cI 60 (va_up ot ne b), cg_N wA cI 60 (va_up wt ne w), cg_N sA cI 60 (va_up sg ne z)] H := hP
  have hD : va_D A [cg_G g tA oA uA wA sA np (ne + 1) bd er (vr + 1), cg_N oA cI 60 (va_up oe ne a), cg_N uA cI 60 (va_up ot ne b), cg_N wA cI 60 (va_up wt ne w), cg_N sA cI 60 (va_up sg ne z)] := hD
  refine lv_iload hx hb d_G_addEdge_59 (lv_at hl 0 rfl) ?_
  exact rw_iret () hx hb hr hlocks hS hP rfl d_G_addEdge_61
set_option maxHeartbeats 4000000 in
set_option maxRecDepth 100000 in
theorem c_G_turnErased (l : Launch) (dC : Nat → ClassId) (dI : Nat → Nat → Nat) (cI cL : ClassId) (g tA oA uA wA sA np ne : Nat) (bd : Int32) (er : Int64) (vr : Nat) (k : Nat)  : Met l y_G_turnErased w_G_turnErased ({ frames := 0, cells := 0, slots := 0, locals := 0 } : Room) (va_Pc [.ref g, .int (nI k)] (rw_B (dC, dI) classes [(cI, .int), (cL, .long)] [cg_G g tA oA uA wA sA np ne bd er vr])) (rw_Qv (dC, dI) classes (rw_A [cg_G g tA oA uA wA sA np ne bd er vr]) (fun (u : Unit) => True) (fun u => [cg_G g tA oA uA wA sA np ne bd (er ^^^ nb_p k) (vr + 1)])) 0 0 (rw_A [cg_G g tA oA uA wA sA np ne bd er vr]) := by
  refine Met.ofW (cc := b_G_turnErased) (maxL := 2) (ret := none) (by decide) rfl ?_
  intro p e s m args below meth c s₁ B hml hv
  obtain ⟨rfl, hP, hK, hD0⟩ := hv
  have hx := B.exec
  have hb := B.bytes
  have hr := B.returns
  have hts := atoms_spec (ws := w_G_turnErased) B.pre
  have hown : s.vm.findClass R_G = some m.cls := findClass_of_methodNamed B.named
  have hlocks := B.notSynchronized
  have iG : ∀ w ∈ w_G, w ∈ w_G_turnErased := fun w h => List.mem_cons_of_mem _ (i_G w h)
  have hD := rw_own hD0
  generalize hAe : rw_A [cg_G g tA oA uA wA sA np ne bd er vr] = A at hD ⊢
  have hS : va_S A s.heap s.heap [] := va_S.rf
  have hP : va_P (dC, dI) classes [cg_G g tA oA uA wA sA np ne bd er vr] s.heap := hP
  have hl := lv_entry ([.ref g, .int (nI k)]) (n := 2) (Nat.le_of_ble_eq_true rfl)
  rw [lg_entry_eq]
  generalize (lg_sl ([.ref g, .int (nI k)]) ++ List.replicate (2 - (lg_sl ([.ref g, .int (nI k)])).length) Slot.unset).toArray = ls at hl ⊢
  have hl : lv_has ls 2 [(0, .ref g), (1, .int (nI k))] := hl
  refine lv_aload_n hx hb d_G_turnErased_0 rfl (lv_at hl 0 rfl) ?_
  refine lv_dup hx hb d_G_turnErased_1 rfl ?_
  refine va_get (D := (dC, dI)) (ci := 0) (v := .long er) (C := R_G) (T := F_G) (N := 10) hx hb hts iG hown hK hP 0 rfl rfl 8 (by decide) (hts _ (List.mem_cons_of_mem _ wk_G_37)) (fun _ h9 => h9) rfl d_G_turnErased_2 ?_
  refine lv_lconst (v := lN 1) hx hb d_G_turnErased_5 (by decide) ?_
  refine lv_iload_n hx hb d_G_turnErased_6 rfl (lv_at hl 1 rfl) ?_
  refine lv_lshl hx hb d_G_turnErased_7 rfl ?_
  refine nr_asL (v := nb_p k) rfl ?_
  refine lv_lxor hx hb d_G_turnErased_8 ?_
  refine va_put (D := (dC, dI)) (ci := 0) (v := .long (er ^^^ (nb_p k))) (ty := .long) (C := R_G) (T := F_G) (N := 10) hx hb hts iG t_G t_G_ok n_G hown hK hP hD hS 0 rfl rfl 8 (by decide) (hts _ (List.mem_cons_of_mem _ wk_G_37)) (fun _ h9 => h9) rfl (by decide +kernel) rfl rfl (Nat.le_of_ble_eq_true rfl) d_G_turnErased_9 (fun H locs hP hD hS => ?_)
  have hP : va_P (dC, dI) classes [cg_G g tA oA uA wA sA np ne bd (er ^^^ (nb_p k)) vr] H := hP
  have hD : va_D A [cg_G g tA oA uA wA sA np ne bd (er ^^^ (nb_p k)) vr] := hD
  refine lv_aload_n hx hb d_G_turnErased_12 rfl (lv_at hl 0 rfl) ?_
  refine lv_dup hx hb d_G_turnErased_13 rfl ?_
  refine va_get (D := (dC, dI)) (ci := 0) (v := .int (nI vr)) (C := R_G) (T := F_G) (N := 10) hx hb hts iG hown hK hP 0 rfl rfl 9 (by decide) (hts _ (List.mem_cons_of_mem _ wk_G_41)) (fun _ h9 => h9) rfl d_G_turnErased_14 ?_
  refine lv_iconst (v := nI 1) hx hb d_G_turnErased_17 (by decide) ?_
  refine nr_iadd hx hb d_G_turnErased_18 ?_
  refine va_put (D := (dC, dI)) (ci := 0) (v := .int (nI (vr + 1))) (ty := .int) (C := R_G) (T := F_G) (N := 10) hx hb hts iG t_G t_G_ok n_G hown hK hP hD hS 0 rfl rfl 9 (by decide) (hts _ (List.mem_cons_of_mem _ wk_G_41)) (fun _ h9 => h9) rfl (by decide +kernel) rfl rfl (Nat.le_of_ble_eq_true rfl) d_G_turnErased_19 (fun H locs hP hD hS => ?_)
  have hP : va_P (dC, dI) classes [cg_G g tA oA uA wA sA np ne bd (er ^^^ (nb_p k)) (vr + 1)] H := hP
  have hD : va_D A [cg_G g tA oA uA wA sA np ne bd (er ^^^ (nb_p k)) (vr + 1)] := hD
  exact rw_vret () hx hb hr hlocks hS hP trivial d_G_turnErased_22
set_option maxHeartbeats 4000000 in
set_option maxRecDepth 100000 in
theorem c_G_oddSigns (l : Launch) (dC : Nat → ClassId) (dI : Nat → Nat → Nat) (cI cL : ClassId) (g tA oA uA wA sA np ne : Nat) (bd : Int32) (er : Int64) (vr : Nat) (sg : Nat → Nat) (x : Int64) (hne : ne ≤ 60) : Met l y_G_oddSigns w_G_oddSigns ({ frames := 0, cells := 0, slots := 0, locals := 0 } : Room) (va_Pc [.ref g, .long x] (ro_B (dC, dI) classes [(cI, .int), (cL, .long)] [cg_G g tA oA uA wA sA np ne bd er vr, cg_N sA cI 60 sg])) (ro_Qi (ng_osg x sg ne)) 0 0 ro_A := by
  refine Met.ofW (cc := b_G_oddSigns) (maxL := 5) (ret := (some .int)) (by decide) rfl ?_
  intro p e s m args below meth c s₁ B hml hv
  obtain ⟨rfl, hP, hK⟩ := hv
  have hx := B.exec
  have hb := B.bytes
  have hr := B.returns
  have hts := atoms_spec (ws := w_G_oddSigns) B.pre
  have hown : s.vm.findClass R_G = some m.cls := findClass_of_methodNamed B.named
  have hlocks := B.notSynchronized
  have iG : ∀ w ∈ w_G, w ∈ w_G_oddSigns := fun w h => List.mem_cons_of_mem _ (i_G w h)
  have hS : va_S ro_A s.heap s.heap [] := va_S.rf
  have hP : va_P (dC, dI) classes [cg_G g tA oA uA wA sA np ne bd er vr, cg_N sA cI 60 sg] s.heap := hP
  have hl := lv_entry ([.ref g, .long x]) (n := 5) (Nat.le_of_ble_eq_true rfl)
  rw [lg_entry_eq]
  generalize (lg_sl ([.ref g, .long x]) ++ List.replicate (5 - (lg_sl ([.ref g, .long x])).length) Slot.unset).toArray = ls at hl ⊢
  have hl : lv_has ls 5 [(0, .ref g), (1, .long x)] := hl
  refine lv_iconst (v := nI 0) hx hb d_G_oddSigns_0 (by decide) ?_
  refine lv_istore_n (lv' := [(3, .int (nI 0)), (0, .ref g), (1, .long x)]) hx hb d_G_oddSigns_1 rfl hl (by decide) rfl (fun ls hl => ?_)
  refine lv_iconst (v := nI 0) hx hb d_G_oddSigns_2 (by decide) ?_
  refine lv_istore (lv' := [(4, .int (nI 0)), (3, .int (nI 0)), (0, .ref g), (1, .long x)]) hx hb d_G_oddSigns_3 hl (by decide) rfl (fun ls hl => ?_)
  have lp_5 : ∀ (n : Nat) (i : Nat) (od : Int32), (i ≤ ne) → (od = ng_osg x sg i) → ne - i < n → ∀ (H : Heap) (locs : List Loc), va_P (dC, dI) classes [cg_G g tA oA uA wA sA np ne bd er vr, cg_N sA cI 60 sg] H → va_S ro_A s.heap H locs → ∀ (ls : Array Slot), lv_has ls 5 [(0, .ref g), (1, .long x), (3, .int od), (4, .int (nI i))] → W p l e (headSpec w_G_oddSigns ({ frames := 0, cells := 0, slots := 0, locals := 0 } : Room)).room s m ([.ref g, .long x] : List Value).toArray below meth c H locs 0 0 (MQ below (ro_Qi (ng_osg x sg ne)) ([.ref g, .long x] : List Value).toArray s 0 0 ro_A) (F0 m 5 ls []) := by
    intro n
    induction n with
    | zero => intro i od hi ho hme; exact absurd hme (Nat.not_lt_zero _)
    | succ n ih =>
      intro i od hi ho hme H locs hP hS ls hl
      have ih_5 := ih
      refine lv_iload hx hb d_G_oddSigns_5 (lv_at hl 3 rfl) ?_
      refine lv_aload_n hx hb d_G_oddSigns_7 rfl (lv_at hl 0 rfl) ?_
      refine va_get (D := (dC, dI)) (ci := 0) (v := .int (nI ne)) (C := R_G) (T := F_G) (N := 10) hx hb hts iG hown hK hP 0 rfl rfl 6 (by decide) (hts _ (List.mem_cons_of_mem _ wk_G_31)) (fun _ h9 => h9) rfl d_G_oddSigns_8 ?_
      refine nr_icmp_ge (by omega) (by omega) (tgt := 41) hx hb d_G_oddSigns_11 (by decide) (fun c_11 => ?_) (fun c_11 => ?_)
      · refine lv_iload_n hx hb d_G_oddSigns_41 rfl (lv_at hl 2 rfl) ?_
        exact ro_iret hx hb hr hlocks hS (by rw [ho, show i = ne by omega]) d_G_oddSigns_42
      · refine lv_lload_n hx hb d_G_oddSigns_14 rfl (lv_at hl 1 rfl) ?_
        refine lv_iload hx hb d_G_oddSigns_15 (lv_at hl 3 rfl) ?_
        refine lv_lshr hx hb d_G_oddSigns_17 rfl ?_
        refine lv_lconst (v := lN 1) hx hb d_G_oddSigns_18 (by decide) ?_
        refine lv_land hx hb d_G_oddSigns_19 ?_
        refine nr_asL (v := nb_l (nb_u x i)) (nb_lbt_and1 (by omega)) ?_
        refine lv_lconst (v := lN 1) hx hb d_G_oddSigns_20 (by decide) ?_
        refine W.lcmp hx hb d_G_oddSigns_21 ?_
        refine nr_lifneB (tgt := 35) hx hb d_G_oddSigns_22 (by decide) (fun c_22 => ?_) (fun c_22 => ?_)
        · refine lv_iinc (v := (nI (i + 1))) (lv' := [(4, .int (nI (i + 1))), (0, .ref g), (1, .long x), (3, .int od)]) hx hb d_G_oddSigns_35 hl (k := 3) rfl (nI_1 i) (by decide) rfl (fun ls hl => ?_)
          refine lv_goto (tgt := 5) hx hb d_G_oddSigns_38 (by decide) ?_
          exact ih_5 (i + 1) od (by omega) (by subst ho; simp [ng_osg, *]) (by omega) _ _ hP hS ls (lv_sub hl [1, 2, 3, 0] rfl)
        · refine lv_iload_n hx hb d_G_oddSigns_25 rfl (lv_at hl 2 rfl) ?_
          refine lv_aload_n hx hb d_G_oddSigns_26 rfl (lv_at hl 0 rfl) ?_
          refine va_get (D := (dC, dI)) (ci := 0) (v := .ref sA) (C := R_G) (T := F_G) (N := 10) hx hb hts iG hown hK hP 0 rfl rfl 4 (by decide) (hts _ (List.mem_cons_of_mem _ wk_G_24)) (fun _ h9 => h9) rfl d_G_oddSigns_27 ?_
          refine lv_iload hx hb d_G_oddSigns_30 (lv_at hl 3 rfl) ?_
          refine nr_iald hx hb hK hP 1 0 rfl rfl (by omega) (by decide) d_G_oddSigns_32 ?_
          refine lv_ixor hx hb d_G_oddSigns_33 ?_
          refine lv_istore_n (lv' := [(3, .int (od ^^^ (nI (sg i)))), (0, .ref g), (1, .long x), (4, .int (nI i))]) hx hb d_G_oddSigns_34 rfl hl (by decide) rfl (fun ls hl => ?_)
          refine lv_iinc (v := (nI (i + 1))) (lv' := [(4, .int (nI (i + 1))), (3, .int (od ^^^ (nI (sg i)))), (0, .ref g), (1, .long x)]) hx hb d_G_oddSigns_35 hl (k := 3) rfl (nI_1 i) (by decide) rfl (fun ls hl => ?_)
          refine lv_goto (tgt := 5) hx hb d_G_oddSigns_38 (by decide) ?_
          exact ih_5 (i + 1) (od ^^^ (nI (sg i))) (by omega) (by subst ho; simp [ng_osg, *]) (by omega) _ _ hP hS ls (lv_sub hl [2, 3, 1, 0] rfl)
  exact lp_5 (ne - 0 + 1) 0 (nI 0) (by omega) rfl (Nat.lt_succ_self _) _ _ hP hS ls (lv_sub hl [2, 3, 1, 0] rfl)
set_option maxHeartbeats 4000000 in
set_option maxRecDepth 100000 in
theorem c_G_oddPoints (l : Launch) (dC : Nat → ClassId) (dI : Nat → Nat → Nat) (cI cL : ClassId) (g tA oA uA wA sA np ne : Nat) (bd : Int32) (er : Int64) (vr : Nat) (oe ot : Nat → Nat) (x : Int64) (hne : ne ≤ 60) : Met l y_G_oddPoints w_G_oddPoints ({ frames := 0, cells := 0, slots := 0, locals := 0 } : Room) (va_Pc [.ref g, .long x] (ro_B (dC, dI) classes [(cI, .int), (cL, .long)] [cg_G g tA oA uA wA sA np ne bd er vr, cg_N oA cI 60 oe, cg_N uA cI 60 ot])) (ro_Qi (ng_opt x oe ot ne &&& (bd ^^^ (-1)))) 0 0 ro_A := by
  refine Met.ofW (cc := b_G_oddPoints) (maxL := 5) (ret := (some .int)) (by decide) rfl ?_
  intro p e s m args below meth c s₁ B hml hv
  obtain ⟨rfl, hP, hK⟩ := hv
  have hx := B.exec
  have hb := B.bytes
  have hr := B.returns
  have hts := atoms_spec (ws := w_G_oddPoints) B.pre
  have hown : s.vm.findClass R_G = some m.cls := findClass_of_methodNamed B.named
  have hlocks := B.notSynchronized
  have iG : ∀ w ∈ w_G, w ∈ w_G_oddPoints := fun w h => List.mem_cons_of_mem _ (i_G w h)
  have hS : va_S ro_A s.heap s.heap [] := va_S.rf
  have hP : va_P (dC, dI) classes [cg_G g tA oA uA wA sA np ne bd er vr, cg_N oA cI 60 oe, cg_N uA cI 60 ot] s.heap := hP
  have hl := lv_entry ([.ref g, .long x]) (n := 5) (Nat.le_of_ble_eq_true rfl)
  rw [lg_entry_eq]
  generalize (lg_sl ([.ref g, .long x]) ++ List.replicate (5 - (lg_sl ([.ref g, .long x])).length) Slot.unset).toArray = ls at hl ⊢
  have hl : lv_has ls 5 [(0, .ref g), (1, .long x)] := hl
  refine lv_iconst (v := nI 0) hx hb d_G_oddPoints_0 (by decide) ?_
  refine lv_istore_n (lv' := [(3, .int (nI 0)), (0, .ref g), (1, .long x)]) hx hb d_G_oddPoints_1 rfl hl (by decide) rfl (fun ls hl => ?_)
  refine lv_iconst (v := nI 0) hx hb d_G_oddPoints_2 (by decide) ?_
  refine lv_istore (lv' := [(4, .int (nI 0)), (3, .int (nI 0)), (0, .ref g), (1, .long x)]) hx hb d_G_oddPoints_3 hl (by decide) rfl (fun ls hl => ?_)
  have lp_5 : ∀ (n : Nat) (i : Nat) (od : Int32), (i ≤ ne) → (od = ng_opt x oe ot i) → ne - i < n → ∀ (H : Heap) (locs : List Loc), va_P (dC, dI) classes [cg_G g tA oA uA wA sA np ne bd er vr, cg_N oA cI 60 oe, cg_N uA cI 60 ot] H → va_S ro_A s.heap H locs → ∀ (ls : Array Slot), lv_has ls 5 [(0, .ref g), (1, .long x), (3, .int od), (4, .int (nI i))] → W p l e (headSpec w_G_oddPoints ({ frames := 0, cells := 0, slots := 0, locals := 0 } : Room)).room s m ([.ref g, .long x] : List Value).toArray below meth c H locs 0 0 (MQ below (ro_Qi (ng_opt x oe ot ne &&& (bd ^^^ (-1)))) ([.ref g, .long x] : List Value).toArray s 0 0 ro_A) (F0 m 5 ls []) := by
    intro n
    induction n with
    | zero => intro i od hi ho hme; exact absurd hme (Nat.not_lt_zero _)
    | succ n ih =>
      intro i od hi ho hme H locs hP hS ls hl
      have ih_5 := ih
      refine lv_iload hx hb d_G_oddPoints_5 (lv_at hl 3 rfl) ?_
      refine lv_aload_n hx hb d_G_oddPoints_7 rfl (lv_at hl 0 rfl) ?_
      refine va_get (D := (dC, dI)) (ci := 0) (v := .int (nI ne)) (C := R_G) (T := F_G) (N := 10) hx hb hts iG hown hK hP 0 rfl rfl 6 (by decide) (hts _ (List.mem_cons_of_mem _ wk_G_31)) (fun _ h9 => h9) rfl d_G_oddPoints_8 ?_
      refine nr_icmp_ge (by omega) (by omega) (tgt := 53) hx hb d_G_oddPoints_11 (by decide) (fun c_11 => ?_) (fun c_11 => ?_)
      · refine lv_iload_n hx hb d_G_oddPoints_53 rfl (lv_at hl 2 rfl) ?_
        refine lv_aload_n hx hb d_G_oddPoints_54 rfl (lv_at hl 0 rfl) ?_
        refine va_get (D := (dC, dI)) (ci := 0) (v := .int bd) (C := R_G) (T := F_G) (N := 10) hx hb hts iG hown hK hP 0 rfl rfl 7 (by decide) (hts _ (List.mem_cons_of_mem _ wk_G_34)) (fun _ h9 => h9) rfl d_G_oddPoints_55 ?_
        refine lv_iconst (v := -1) hx hb d_G_oddPoints_58 (by decide) ?_
        refine lv_ixor hx hb d_G_oddPoints_59 ?_
        refine lv_iand hx hb d_G_oddPoints_60 ?_
        exact ro_iret hx hb hr hlocks hS (by rw [ho, show i = ne by omega]) d_G_oddPoints_61
      · refine lv_lload_n hx hb d_G_oddPoints_14 rfl (lv_at hl 1 rfl) ?_
        refine lv_iload hx hb d_G_oddPoints_15 (lv_at hl 3 rfl) ?_
        refine lv_lshr hx hb d_G_oddPoints_17 rfl ?_
        refine lv_lconst (v := lN 1) hx hb d_G_oddPoints_18 (by decide) ?_
        refine lv_land hx hb d_G_oddPoints_19 ?_
        refine nr_asL (v := nb_l (nb_u x i)) (nb_lbt_and1 (by omega)) ?_
        refine lv_lconst (v := lN 1) hx hb d_G_oddPoints_20 (by decide) ?_
        refine W.lcmp hx hb d_G_oddPoints_21 ?_
        refine nr_lifneB (tgt := 47) hx hb d_G_oddPoints_22 (by decide) (fun c_22 => ?_) (fun c_22 => ?_)
        · refine lv_iinc (v := (nI (i + 1))) (lv' := [(4, .int (nI (i + 1))), (0, .ref g), (1, .long x), (3, .int od)]) hx hb d_G_oddPoints_47 hl (k := 3) rfl (nI_1 i) (by decide) rfl (fun ls hl => ?_)
          refine lv_goto (tgt := 5) hx hb d_G_oddPoints_50 (by decide) ?_
          exact ih_5 (i + 1) od (by omega) (by subst ho; simp [ng_opt, *]) (by omega) _ _ hP hS ls (lv_sub hl [1, 2, 3, 0] rfl)
        · refine lv_iload_n hx hb d_G_oddPoints_25 rfl (lv_at hl 2 rfl) ?_
          refine lv_iconst (v := nI 1) hx hb d_G_oddPoints_26 (by decide) ?_
          refine lv_aload_n hx hb d_G_oddPoints_27 rfl (lv_at hl 0 rfl) ?_
          refine va_get (D := (dC, dI)) (ci := 0) (v := .ref oA) (C := R_G) (T := F_G) (N := 10) hx hb hts iG hown hK hP 0 rfl rfl 1 (by decide) (hts _ (List.mem_cons_of_mem _ wk_G_15)) (fun _ h9 => h9) rfl d_G_oddPoints_28 ?_
          refine lv_iload hx hb d_G_oddPoints_31 (lv_at hl 3 rfl) ?_
          refine nr_iald hx hb hK hP 1 0 rfl rfl (by omega) (by decide) d_G_oddPoints_33 ?_
          refine lv_ishl hx hb d_G_oddPoints_34 ?_
          refine nr_as (v := nb_o (oe i)) rfl ?_
          refine lv_iconst (v := nI 1) hx hb d_G_oddPoints_35 (by decide) ?_
          refine lv_aload_n hx hb d_G_oddPoints_36 rfl (lv_at hl 0 rfl) ?_
          refine va_get (D := (dC, dI)) (ci := 0) (v := .ref uA) (C := R_G) (T := F_G) (N := 10) hx hb hts iG hown hK hP 0 rfl rfl 2 (by decide) (hts _ (List.mem_cons_of_mem _ wk_G_18)) (fun _ h9 => h9) rfl d_G_oddPoints_37 ?_
          refine lv_iload hx hb d_G_oddPoints_40 (lv_at hl 3 rfl) ?_
          refine nr_iald hx hb hK hP 2 0 rfl rfl (by omega) (by decide) d_G_oddPoints_42 ?_
          refine lv_ishl hx hb d_G_oddPoints_43 ?_
          refine nr_as (v := nb_o (ot i)) rfl ?_
          refine lv_ixor hx hb d_G_oddPoints_44 ?_
          refine lv_ixor hx hb d_G_oddPoints_45 ?_
          refine lv_istore_n (lv' := [(3, .int (od ^^^ ((nb_o (oe i)) ^^^ (nb_o (ot i))))), (0, .ref g), (1, .long x), (4, .int (nI i))]) hx hb d_G_oddPoints_46 rfl hl (by decide) rfl (fun ls hl => ?_)
          refine lv_iinc (v := (nI (i + 1))) (lv' := [(4, .int (nI (i + 1))), (3, .int (od ^^^ ((nb_o (oe i)) ^^^ (nb_o (ot i))))), (0, .ref g), (1, .long x)]) hx hb d_G_oddPoints_47 hl (k := 3) rfl (nI_1 i) (by decide) rfl (fun ls hl => ?_)
          refine lv_goto (tgt := 5) hx hb d_G_oddPoints_50 (by decide) ?_
          exact ih_5 (i + 1) (od ^^^ ((nb_o (oe i)) ^^^ (nb_o (ot i)))) (by omega) (by subst ho; simp [ng_opt, *]) (by omega) _ _ hP hS ls (lv_sub hl [2, 3, 1, 0] rfl)
  exact lp_5 (ne - 0 + 1) 0 (nI 0) (by omega) rfl (Nat.lt_succ_self _) _ _ hP hS ls (lv_sub hl [2, 3, 1, 0] rfl)
