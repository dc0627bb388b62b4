set_option maxHeartbeats 4000000 in
set_option maxRecDepth 100000 in
theorem c_P_areEdgeValues (l : Launch) (dC : Nat → ClassId) (dI : Nat → Nat → Nat) (cI cL : ClassId) (a b : Int32)  : Met l y_P_areEdgeValues w_P_areEdgeValues ({ frames := 0, cells := 0, slots := 0, locals := 0 } : Room) (va_Pc [.int a, .int b] (ro_B (dC, dI) classes [(cI, .int), (cL, .long)] [])) (ro_Qi (nb_i (ng_ev a b))) 0 0 ro_A := by
  refine Met.ofW (cc := b_P_areEdgeValues) (maxL := 2) (ret := (some .boolean)) (by decide) rfl ?_
  intro p e s m args below meth c s₁ B hml hv
  obtain ⟨rfl, hP, hK⟩ := hv
  have hx := B.exec
  have hb := B.bytes
  have hr := B.returns
  have hts := atoms_spec (ws := w_P_areEdgeValues) B.pre
  have hown : s.vm.findClass R_P = some m.cls := findClass_of_methodNamed B.named
  have hlocks := B.notSynchronized
  have hS : va_S ro_A s.heap s.heap [] := va_S.rf
  have hP : va_P (dC, dI) classes [] s.heap := hP
  have hl := lv_entry ([.int a, .int b]) (n := 2) (Nat.le_of_ble_eq_true rfl)
  rw [lg_entry_eq]
  generalize (lg_sl ([.int a, .int b]) ++ List.replicate (2 - (lg_sl ([.int a, .int b])).length) Slot.unset).toArray = ls at hl ⊢
  have hl : lv_has ls 2 [(0, .int a), (1, .int b)] := hl
  refine lv_iload_n hx hb d_P_areEdgeValues_0 rfl (lv_at hl 0 rfl) ?_
  refine lv_if_lt (tgt := 25) hx hb d_P_areEdgeValues_1 (by decide) (fun c_1 => ?_) (fun c_1 => ?_)
  · refine lv_iconst (v := nI 0) hx hb d_P_areEdgeValues_25 (by decide) ?_
    exact ro_zret hx hb hr hlocks hS rfl (by simp [nb_i, ng_ev, *]) d_P_areEdgeValues_26
  · refine lv_iload_n hx hb d_P_areEdgeValues_4 rfl (lv_at hl 0 rfl) ?_
    refine lv_ldc (v := 1000000) hx hb hown (hts _ (List.mem_cons_of_mem _ wk_P_184)) d_P_areEdgeValues_5 ?_
    refine nr_as (v := nI 1000000) (by decide) ?_
    refine lv_icmp_gt (tgt := 25) hx hb d_P_areEdgeValues_7 (by decide) (fun c_7 => ?_) (fun c_7 => ?_)
    · refine lv_iconst (v := nI 0) hx hb d_P_areEdgeValues_25 (by decide) ?_
      exact ro_zret hx hb hr hlocks hS rfl (by simp [nb_i, ng_ev, *]) d_P_areEdgeValues_26
    · refine lv_iload_n hx hb d_P_areEdgeValues_10 rfl (lv_at hl 1 rfl) ?_
      refine lv_if_lt (tgt := 25) hx hb d_P_areEdgeValues_11 (by decide) (fun c_11 => ?_) (fun c_11 => ?_)
      · refine lv_iconst (v := nI 0) hx hb d_P_areEdgeValues_25 (by decide) ?_
        exact ro_zret hx hb hr hlocks hS rfl (by simp [nb_i, ng_ev, *]) d_P_areEdgeValues_26
      · refine lv_iload_n hx hb d_P_areEdgeValues_14 rfl (lv_at hl 1 rfl) ?_
        refine lv_sipush (v := nI 255) hx hb d_P_areEdgeValues_15 (by decide) ?_
        refine lv_icmp_gt (tgt := 25) hx hb d_P_areEdgeValues_18 (by decide) (fun c_18 => ?_) (fun c_18 => ?_)
        · refine lv_iconst (v := nI 0) hx hb d_P_areEdgeValues_25 (by decide) ?_
          exact ro_zret hx hb hr hlocks hS rfl (by simp [nb_i, ng_ev, *]) d_P_areEdgeValues_26
        · refine lv_iconst (v := nI 1) hx hb d_P_areEdgeValues_21 (by decide) ?_
          refine lv_goto (tgt := 26) hx hb d_P_areEdgeValues_22 (by decide) ?_
          exact ro_zret hx hb hr hlocks hS rfl (by simp [nb_i, ng_ev, *]) d_P_areEdgeValues_26
set_option maxHeartbeats 4000000 in
set_option maxRecDepth 100000 in
theorem c_P_isFired (l : Launch) (dC : Nat → ClassId) (dI : Nat → Nat → Nat) (cI cL : ClassId) (pd g wy mt fo : Nat) (fi : Int32) (kp : Int64) (k : Nat) (hk : k < 32) : Met l y_P_isFired w_P_isFired ({ frames := 0, cells := 0, slots := 0, locals := 0 } : Room) (va_Pc [.ref pd, .int (nI k)] (ro_B (dC, dI) classes [(cI, .int), (cL, .long)] [cg_P pd g wy mt fo fi kp])) (ro_Qi (nb_i (nb_t fi k))) 0 0 ro_A := by
  refine Met.ofW (cc := b_P_isFired) (maxL := 2) (ret := (some .boolean)) (by decide) rfl ?_
  intro p e s m args below meth c s₁ B hml hv
  obtain ⟨rfl, hP, hK⟩ := hv
  have hx := B.exec
  have hb := B.bytes
  have hr := B.returns
  have hts := atoms_spec (ws := w_P_isFired) B.pre
  have hown : s.vm.findClass R_P = some m.cls := findClass_of_methodNamed B.named
  have hlocks := B.notSynchronized
  have iP : ∀ w ∈ w_P, w ∈ w_P_isFired := fun w h => List.mem_cons_of_mem _ (i_P w h)
  have hS : va_S ro_A s.heap s.heap [] := va_S.rf
  have hP : va_P (dC, dI) classes [cg_P pd g wy mt fo fi kp] s.heap := hP
  have hl := lv_entry ([.ref pd, .int (nI k)]) (n := 2) (Nat.le_of_ble_eq_true rfl)
  rw [lg_entry_eq]
  generalize (lg_sl ([.ref pd, .int (nI k)]) ++ List.replicate (2 - (lg_sl ([.ref pd, .int (nI k)])).length) Slot.unset).toArray = ls at hl ⊢
  have hl : lv_has ls 2 [(0, .ref pd), (1, .int (nI k))] := hl
  refine lv_aload_n hx hb d_P_isFired_0 rfl (lv_at hl 0 rfl) ?_
  refine va_get (D := (dC, dI)) (ci := 4) (v := .int fi) (C := R_P) (T := F_P) (N := 6) hx hb hts iP hown hK hP 0 rfl rfl 4 (by decide) (hts _ (List.mem_cons_of_mem _ wk_P_41)) (fun _ h9 => h9) rfl d_P_isFired_1 ?_
  refine lv_iload_n hx hb d_P_isFired_4 rfl (lv_at hl 1 rfl) ?_
  refine lv_ishr hx hb d_P_isFired_5 ?_
  refine lv_iconst (v := nI 1) hx hb d_P_isFired_6 (by decide) ?_
  refine lv_iand hx hb d_P_isFired_7 ?_
  refine nr_as (v := nb_i (nb_t fi k)) (nb_bt_and1 (by omega)) ?_
  refine lv_iconst (v := nI 1) hx hb d_P_isFired_8 (by decide) ?_
  refine nr_icmpneB1 (tgt := 16) hx hb d_P_isFired_9 (by decide) (fun c_9 => ?_) (fun c_9 => ?_)
  · refine lv_iconst (v := nI 0) hx hb d_P_isFired_16 (by decide) ?_
    exact ro_zret hx hb hr hlocks hS rfl (by simp [nb_i, *]) d_P_isFired_17
  · refine lv_iconst (v := nI 1) hx hb d_P_isFired_12 (by decide) ?_
    refine lv_goto (tgt := 17) hx hb d_P_isFired_13 (by decide) ?_
    exact ro_zret hx hb hr hlocks hS rfl (by simp [nb_i, *]) d_P_isFired_17
set_option maxHeartbeats 4000000 in
set_option maxRecDepth 100000 in
theorem c_P_point_ok (l : Launch) (dC : Nat → ClassId) (dI : Nat → Nat → Nat) (cI cL : ClassId) (pd g wy mt fo : Nat) (fi : Int32) (kp : Int64) (tA oA uA wA sA np ne : Nat) (bd : Int32) (er : Int64) (vr : Nat) (tm : Nat → Nat) (b : Bool) (t : Nat) (ht : t < 10) (hnp : np < 20) : Met l y_P_point w_P_point ({ frames := 1, cells := 0, slots := 0, locals := 23 } : Room) (va_Pc [.ref pd, .int (nb_i b), .int (nI t)] (rw_B (dC, dI) classes [(cI, .int), (cL, .long)] [cg_P pd g wy mt fo fi kp, cg_G g tA oA uA wA sA np ne bd er vr, cg_N tA cI 20 tm])) (rw_Qi (dC, dI) classes (rw_A [cg_P pd g wy mt fo fi kp, cg_G g tA oA uA wA sA np ne bd er vr, cg_N tA cI 20 tm]) (fun r (u : Unit) => r = (nI np)) (fun u => [cg_P pd g wy mt fo fi kp, cg_G g tA oA uA wA sA (np + 1) ne (ng_bd b bd np) er (vr + 1), cg_N tA cI 20 (va_up tm np t)])) 0 0 (rw_A [cg_P pd g wy mt fo fi kp, cg_G g tA oA uA wA sA np ne bd er vr, cg_N tA cI 20 tm]) := by
  refine Met.ofW (cc := b_P_point) (maxL := 3) (ret := (some .int)) (by decide) rfl ?_
  intro p e s m args below meth c s₁ B hml hv
  obtain ⟨rfl, hP, hK, hD0⟩ := hv
  have hx := B.exec
  have hb := B.bytes
  have hr := B.returns
  have hts := atoms_spec (ws := w_P_point) B.pre
  have hown : s.vm.findClass R_P = some m.cls := findClass_of_methodNamed B.named
  have hlocks := B.notSynchronized
  have iP : ∀ w ∈ w_P, w ∈ w_P_point := fun w h => List.mem_cons_of_mem _ (i_P w h)
  have iG : ∀ w ∈ w_G, w ∈ w_P_point := fun w h => List.mem_cons_of_mem _ (i_G w h)
  have hD := rw_own hD0
  generalize hAe : rw_A [cg_P pd g wy mt fo fi kp, cg_G g tA oA uA wA sA np ne bd er vr, cg_N tA cI 20 tm] = A at hD ⊢
  have hS : va_S A s.heap s.heap [] := va_S.rf
  have hP : va_P (dC, dI) classes [cg_P pd g wy mt fo fi kp, cg_G g tA oA uA wA sA np ne bd er vr, cg_N tA cI 20 tm] s.heap := hP
  have hl := lv_entry ([.ref pd, .int (nb_i b), .int (nI t)]) (n := 3) (Nat.le_of_ble_eq_true rfl)
  rw [lg_entry_eq]
  generalize (lg_sl ([.ref pd, .int (nb_i b), .int (nI t)]) ++ List.replicate (3 - (lg_sl ([.ref pd, .int (nb_i b), .int (nI t)])).length) Slot.unset).toArray = ls at hl ⊢
  have hl : lv_has ls 3 [(0, .ref pd), (1, .int (nb_i b)), (2, .int (nI t))] := hl
  refine lv_iload_n hx hb d_P_point_0 rfl (lv_at hl 2 rfl) ?_
  refine nr_if_lt (by omega) (tgt := 22) hx hb d_P_point_1 (by decide) (fun c => False.elim c) (fun c_1 => ?_)
  refine lv_iload_n hx hb d_P_point_4 rfl (lv_at hl 2 rfl) ?_
  refine lv_bipush (v := nI 10) hx hb d_P_point_5 (by decide) ?_
  refine nr_icmp_ge (by omega) (by omega) (tgt := 22) hx hb d_P_point_7 (by decide) (fun c_7 => ?_) (fun c_7 => ?_)
  · exact False.elim (by omega)
  · refine lv_aload_n hx hb d_P_point_10 rfl (lv_at hl 0 rfl) ?_
    refine va_get (D := (dC, dI)) (ci := 4) (v := .ref g) (C := R_P) (T := F_P) (N := 6) hx hb hts iP hown hK hP 0 rfl rfl 0 (by decide) (hts _ (List.mem_cons_of_mem _ wk_P_10)) (fun _ h9 => h9) rfl d_P_point_11 ?_
    refine va_get (D := (dC, dI)) (ci := 0) (v := .int (nI np)) (C := R_G) (T := F_G) (N := 10) hx hb hts iG hown hK hP 1 rfl rfl 5 (by decide) (hts _ (List.mem_cons_of_mem _ wk_P_49)) (fun _ h9 => h9) rfl d_P_point_14 ?_
    refine lv_bipush (v := nI 20) hx hb d_P_point_17 (by decide) ?_
    refine nr_icmp_lt (by omega) (by omega) (tgt := 24) hx hb d_P_point_19 (by decide) (fun c_19 => ?_) (fun c_19 => ?_)
    · refine lv_aload_n hx hb d_P_point_24 rfl (lv_at hl 0 rfl) ?_
      refine va_get (D := (dC, dI)) (ci := 4) (v := .ref g) (C := R_P) (T := F_P) (N := 6) hx hb hts iP hown hK hP 0 rfl rfl 0 (by decide) (hts _ (List.mem_cons_of_mem _ wk_P_10)) (fun _ h9 => h9) rfl d_P_point_25 ?_
      refine lv_iload_n hx hb d_P_point_28 rfl (lv_at hl 1 rfl) ?_
      refine lv_iload_n hx hb d_P_point_29 rfl (lv_at hl 2 rfl) ?_
      refine rw_Vi (wr := [cg_P pd g wy mt fo fi kp]) [1, 2] [0] rfl rfl (by decide) (As := [.int (nb_i b), .int (nI t)]) (rest := []) ⟨hx, hb, hml, hown, hts⟩ (c_G_addPoint l dC dI cI cL g tA oA uA wA sA np ne bd er vr tm b t (by omega)) (cwV 2 hts (wg_V wk_P_52 wm_G_addPoint we_G_addPoint wi_G wc_G_addPoint) rfl rfl rfl (by decide +kernel) ⟨Nat.le_of_ble_eq_true rfl, Nat.le_of_ble_eq_true rfl⟩) hK (hP.sub [1, 2] rfl) ((hD.sub [1, 2] (by decide) rfl).weaken (fun _ _ _ _ => trivial)) (q0 := 0) rfl rfl rfl rfl hl.1 rfl (lv_room (Nat.le_of_ble_eq_true rfl)) d_P_point_30 ⟨Nat.zero_le _, Nat.zero_le _⟩ hS hP hD (fun r_1 u H locs hw_2 hP hS => ?_)
      have hP : va_P (dC, dI) classes [cg_P pd g wy mt fo fi kp, cg_G g tA oA uA wA sA (np + 1) ne (ng_bd b bd np) er (vr + 1), cg_N tA cI 20 (va_up tm np t)] H := hP.sub [0, 1, 2] rfl
      have hD : va_D A [cg_P pd g wy mt fo fi kp, cg_G g tA oA uA wA sA (np + 1) ne (ng_bd b bd np) er (vr + 1), cg_N tA cI 20 (va_up tm np t)] := rw_re hD rfl
      subst hw_2
      exact rw_iret () hx hb hr hlocks hS hP rfl d_P_point_33
    · exact False.elim (by omega)
set_option maxHeartbeats 4000000 in
set_option maxRecDepth 100000 in
theorem c_P_point_no (l : Launch) (dC : Nat → ClassId) (dI : Nat → Nat → Nat) (cI cL : ClassId) (pd g wy mt fo : Nat) (fi : Int32) (kp : Int64) (tA oA uA wA sA np ne : Nat) (bd : Int32) (er : Int64) (vr : Nat) (b : Bool) (t : Int32) (hnp : np ≤ 20) (hno : nb_in 10 t = false ∨ np = 20) : Met l y_P_point w_P_point ({ frames := 1, cells := 0, slots := 0, locals := 23 } : Room) (va_Pc [.ref pd, .int (nb_i b), .int t] (ro_B (dC, dI) classes [(cI, .int), (cL, .long)] [cg_P pd g wy mt fo fi kp, cg_G g tA oA uA wA sA np ne bd er vr])) (ro_Qi (-1)) 0 0 ro_A := by
  refine Met.ofW (cc := b_P_point) (maxL := 3) (ret := (some .int)) (by decide) rfl ?_
  intro p e s m args below meth c s₁ B hml hv
  obtain ⟨rfl, hP, hK⟩ := hv
  have hx := B.exec
  have hb := B.bytes
  have hr := B.returns
  have hts := atoms_spec (ws := w_P_point) B.pre
  have hown : s.vm.findClass R_P = some m.cls := findClass_of_methodNamed B.named
  have hlocks := B.notSynchronized
  have iP : ∀ w ∈ w_P, w ∈ w_P_point := fun w h => List.mem_cons_of_mem _ (i_P w h)
  have iG : ∀ w ∈ w_G, w ∈ w_P_point := fun w h => List.mem_cons_of_mem _ (i_G w h)
  have hS : va_S ro_A s.heap s.heap [] := va_S.rf
  have hP : va_P (dC, dI) classes [cg_P pd g wy mt fo fi kp, cg_G g tA oA uA wA sA np ne bd er vr] s.heap := hP
  have hl := lv_entry ([.ref pd, .int (nb_i b), .int t]) (n := 3) (Nat.le_of_ble_eq_true rfl)
  rw [lg_entry_eq]
  generalize (lg_sl ([.ref pd, .int (nb_i b), .int t]) ++ List.replicate (3 - (lg_sl ([.ref pd, .int (nb_i b), .int t])).length) Slot.unset).toArray = ls at hl ⊢
  have hl : lv_has ls 3 [(0, .ref pd), (1, .int (nb_i b)), (2, .int t)] := hl
  refine lv_iload_n hx hb d_P_point_0 rfl (lv_at hl 2 rfl) ?_
  refine lv_if_lt (tgt := 22) hx hb d_P_point_1 (by decide) (fun c_1 => ?_) (fun c_1 => ?_)
  · refine lv_iconst (v := -1) hx hb d_P_point_22 (by decide) ?_
    exact ro_iret hx hb hr hlocks hS rfl d_P_point_23
  · refine lv_iload_n hx hb d_P_point_4 rfl (lv_at hl 2 rfl) ?_
    refine lv_bipush (v := nI 10) hx hb d_P_point_5 (by decide) ?_
    refine lv_icmp_ge (tgt := 22) hx hb d_P_point_7 (by decide) (fun c_7 => ?_) (fun c_7 => ?_)
    · refine lv_iconst (v := -1) hx hb d_P_point_22 (by decide) ?_
      exact ro_iret hx hb hr hlocks hS rfl d_P_point_23
    · refine lv_aload_n hx hb d_P_point_10 rfl (lv_at hl 0 rfl) ?_
      refine va_get (D := (dC, dI)) (ci := 4) (v := .ref g) (C := R_P) (T := F_P) (N := 6) hx hb hts iP hown hK hP 0 rfl rfl 0 (by decide) (hts _ (List.mem_cons_of_mem _ wk_P_10)) (fun _ h9 => h9) rfl d_P_point_11 ?_
      refine va_get (D := (dC, dI)) (ci := 0) (v := .int (nI np)) (C := R_G) (T := F_G) (N := 10) hx hb hts iG hown hK hP 1 rfl rfl 5 (by decide) (hts _ (List.mem_cons_of_mem _ wk_P_49)) (fun _ h9 => h9) rfl d_P_point_14 ?_
      refine lv_bipush (v := nI 20) hx hb d_P_point_17 (by decide) ?_
      refine nr_icmp_lt (by omega) (by omega) (tgt := 24) hx hb d_P_point_19 (by decide) (fun c_19 => ?_) (fun c_19 => ?_)
      · exact False.elim (by rcases hno with q | q; (rw [nb_inI_t c_1 c_7] at q; cases q); omega)
      · refine lv_iconst (v := -1) hx hb d_P_point_22 (by decide) ?_
        exact ro_iret hx hb hr hlocks hS rfl d_P_point_23
set_option maxHeartbeats 4000000 in
set_option maxRecDepth 100000 in
theorem c_P_edge_ok (l : Launch) (dC : Nat → ClassId) (dI : Nat → Nat → Nat) (cI cL : ClassId) (pd g wy mt fo : Nat) (fi : Int32) (kp : Int64) (tA oA uA wA sA np ne : Nat) (bd : Int32) (er : Int64) (vr : Nat) (oe ot wt sg : Nat → Nat) (a b w z : Nat) (hnp : np ≤ 20) (hj : ng_join np bd (nI a) (nI b) = true) (hv : ng_ev (nI w) (nI z) = true) (hne : ne < 60) : Met l y_P_edge w_P_edge ({ frames := 2, cells := 0, slots := 0, locals := 43 } : Room) (va_Pc [.ref pd, .int (nI a), .int (nI b), .int (nI w), .int (nI z)] (rw_B (dC, dI) classes [(cI, .int), (cL, .long)] [cg_P pd g wy mt fo fi kp, cg_G g tA oA uA wA sA np ne bd er vr, cg_N oA cI 60 oe, cg_N uA cI 60 ot, cg_N wA cI 60 wt, cg_N sA cI 60 sg])) (rw_Qi (dC, dI) classes (rw_A [cg_P pd g wy mt fo fi kp, cg_G g tA oA uA wA sA np ne bd er vr, cg_N oA cI 60 oe, cg_N uA cI 60 ot, cg_N wA cI 60 wt, cg_N sA cI 60 sg]) (fun r (u : Unit) => r = (nI ne)) (fun u => [cg_P pd g wy mt fo fi kp, cg_G g tA oA uA wA sA np (ne + 1) bd er (vr + 1), cg_N oA cI 60 (va_up oe ne a), cg_N uA cI 60 (va_up ot ne b), cg_N wA cI 60 (va_up wt ne w), cg_N sA cI 60 (va_up sg ne z)])) 0 0 (rw_A [cg_P pd g wy mt fo fi kp, cg_G g tA oA uA wA sA np ne bd er vr, cg_N oA cI 60 oe, cg_N uA cI 60 ot, cg_N wA cI 60 wt, cg_N sA cI 60 sg]) := by
  refine Met.ofW (cc := b_P_edge) (maxL := 5) (ret := (some .int)) (by decide) rfl ?_
  intro p e s m args below meth c s₁ B hml hv
  obtain ⟨rfl, hP, hK, hD0⟩ := hv
  have hx := B.exec
  have hb := B.bytes
  have hr := B.returns
  have hts := atoms_spec (ws := w_P_edge) B.pre
  have hown : s.vm.findClass R_P = some m.cls := findClass_of_methodNamed B.named
  have hlocks := B.notSynchronized
  have iP : ∀ w ∈ w_P, w ∈ w_P_edge := fun w h => List.mem_cons_of_mem _ (i_P w h)
  have hD := rw_own hD0
  generalize hAe : rw_A [cg_P pd g wy mt fo fi kp, cg_G g tA oA uA wA sA np ne bd er vr, cg_N oA cI 60 oe, cg_N uA cI 60 ot, cg_N wA cI 60 wt, cg_N sA cI 60 sg] = A at hD ⊢
  have hS : va_S A s.heap s.heap [] := va_S.rf
  have hP : va_P (dC, dI) classes [cg_P pd g wy mt fo fi kp, cg_G g tA oA uA wA sA np ne bd er vr, cg_N oA cI 60 oe, cg_N uA cI 60 ot, cg_N wA cI 60 wt, cg_N sA cI 60 sg] s.heap := hP
  have hl := lv_entry ([.ref pd, .int (nI a), .int (nI b), .int (nI w), .int (nI z)]) (n := 5) (Nat.le_of_ble_eq_true rfl)
  rw [lg_entry_eq]
  generalize (lg_sl ([.ref pd, .int (nI a), .int (nI b), .int (nI w), .int (nI z)]) ++ List.replicate (5 - (lg_sl ([.ref pd, .int (nI a), .int (nI b), .int (nI w), .int (nI z)])).length) Slot.unset).toArray = ls at hl ⊢
  have hl : lv_has ls 5 [(0, .ref pd), (1, .int (nI a)), (2, .int (nI b)), (3, .int (nI w)), (4, .int (nI z))] := hl
  refine lv_aload_n hx hb d_P_edge_0 rfl (lv_at hl 0 rfl) ?_
  refine va_get (D := (dC, dI)) (ci := 4) (v := .ref g) (C := R_P) (T := F_P) (N := 6) hx hb hts iP hown hK hP 0 rfl rfl 0 (by decide) (hts _ (List.mem_cons_of_mem _ wk_P_10)) (fun _ h9 => h9) rfl d_P_edge_1 ?_
  refine lv_iload_n hx hb d_P_edge_4 rfl (lv_at hl 1 rfl) ?_
  refine lv_iload_n hx hb d_P_edge_5 rfl (lv_at hl 2 rfl) ?_
  refine ro_Vi (As := [.int (nI a), .int (nI b)]) (rest := []) ⟨hx, hb, hml, hown, hts⟩ (c_G_canJoin l dC dI cI cL g tA oA uA wA sA np ne bd er vr (nI a) (nI b) (by omega)) (cwV 2 hts (wg_V wk_P_56 wm_G_canJoin we_G_canJoin wi_G wc_G_canJoin) rfl rfl rfl (by decide +kernel) ⟨Nat.le_of_ble_eq_true rfl, Nat.le_of_ble_eq_true rfl⟩) hK (hP.sub [1] rfl) (q0 := 0) rfl rfl rfl rfl hl.1 rfl (lv_room (Nat.le_of_ble_eq_true rfl)) d_P_edge_6 ⟨Nat.zero_le _, Nat.zero_le _⟩ hS hP (fun H locs hP hS => ?_)
  refine nr_ifeqB (tgt := 32) hx hb d_P_edge_9 (by decide) (fun c_9 => ?_) (fun c_9 => ?_)
  · exact False.elim (by first | (rw [hj] at c_9; cases c_9; done) | (rw [hv] at c_18; cases c_18; done) | (simp at c_29; omega))
  · refine lv_iload_n hx hb d_P_edge_12 rfl (lv_at hl 3 rfl) ?_
    refine lv_iload hx hb d_P_edge_13 (lv_at hl 4 rfl) ?_
    refine ro_Si (As := [.int (nI w), .int (nI z)]) (rest := []) ⟨hx, hb, hml, hown, hts⟩ (c_P_areEdgeValues l dC dI cI cL (nI w) (nI z) ) (cwS 2 hts (wg_S wk_P_60 ws_P_areEdgeValues wi_P wc_P_areEdgeValues) rfl rfl rfl (by decide +kernel) ⟨Nat.le_of_ble_eq_true rfl, Nat.le_of_ble_eq_true rfl⟩) hK (hP.sub [] rfl) rfl hl.1 rfl (lv_room (Nat.le_of_ble_eq_true rfl)) d_P_edge_15 ⟨Nat.zero_le _, Nat.zero_le _⟩ hS hP (fun H locs hP hS => ?_)
    refine nr_ifeqB (tgt := 32) hx hb d_P_edge_18 (by decide) (fun c_18 => ?_) (fun c_18 => ?_)
    · exact False.elim (by first | (rw [hj] at c_9; cases c_9; done) | (rw [hv] at c_18; cases c_18; done) | (simp at c_29; omega))
    · refine lv_aload_n hx hb d_P_edge_21 rfl (lv_at hl 0 rfl) ?_
      refine va_get (D := (dC, dI)) (ci := 4) (v := .ref g) (C := R_P) (T := F_P) (N := 6) hx hb hts iP hown hK hP 0 rfl rfl 0 (by decide) (hts _ (List.mem_cons_of_mem _ wk_P_10)) (fun _ h9 => h9) rfl d_P_edge_22 ?_
      refine lv_iconst (v := nI 1) hx hb d_P_edge_25 (by decide) ?_
      refine ro_Vi (As := [.int (nI 1)]) (rest := []) ⟨hx, hb, hml, hown, hts⟩ (c_G_hasRoomFor l dC dI cI cL g tA oA uA wA sA np ne bd er vr 1 (by omega) (by omega)) (cwV 1 hts (wg_V wk_P_63 wm_G_hasRoomFor we_G_hasRoomFor wi_G wc_G_hasRoomFor) rfl rfl rfl (by decide +kernel) ⟨Nat.le_of_ble_eq_true rfl, Nat.le_of_ble_eq_true rfl⟩) hK (hP.sub [1] rfl) (q0 := 0) rfl rfl rfl rfl hl.1 rfl (lv_room (Nat.le_of_ble_eq_true rfl)) d_P_edge_26 ⟨Nat.zero_le _, Nat.zero_le _⟩ hS hP (fun H locs hP hS => ?_)
      refine nr_ifneB (tgt := 34) hx hb d_P_edge_29 (by decide) (fun c_29 => ?_) (fun c_29 => ?_)
      · refine lv_aload_n hx hb d_P_edge_34 rfl (lv_at hl 0 rfl) ?_
        refine va_get (D := (dC, dI)) (ci := 4) (v := .ref g) (C := R_P) (T := F_P) (N := 6) hx hb hts iP hown hK hP 0 rfl rfl 0 (by decide) (hts _ (List.mem_cons_of_mem _ wk_P_10)) (fun _ h9 => h9) rfl d_P_edge_35 ?_
        refine lv_iload_n hx hb d_P_edge_38 rfl (lv_at hl 1 rfl) ?_
        refine lv_iload_n hx hb d_P_edge_39 rfl (lv_at hl 2 rfl) ?_
        refine lv_iload_n hx hb d_P_edge_40 rfl (lv_at hl 3 rfl) ?_
        refine lv_iload hx hb d_P_edge_41 (lv_at hl 4 rfl) ?_
        refine rw_Vi (wr := [cg_P pd g wy mt fo fi kp]) [1, 2, 3, 4, 5] [0] rfl rfl (by decide) (As := [.int (nI a), .int (nI b), .int (nI w), .int (nI z)]) (rest := []) ⟨hx, hb, hml, hown, hts⟩ (c_G_addEdge l dC dI cI cL g tA oA uA wA sA np ne bd er vr oe ot wt sg a b w z (by omega)) (cwV 4 hts (wg_V wk_P_67 wm_G_addEdge we_G_addEdge wi_G wc_G_addEdge) rfl rfl rfl (by decide +kernel) ⟨Nat.le_of_ble_eq_true rfl, Nat.le_of_ble_eq_true rfl⟩) hK (hP.sub [1, 2, 3, 4, 5] rfl) ((hD.sub [1, 2, 3, 4, 5] (by decide) rfl).weaken (fun _ _ _ _ => trivial)) (q0 := 0) rfl rfl rfl rfl hl.1 rfl (lv_room (Nat.le_of_ble_eq_true rfl)) d_P_edge_43 ⟨Nat.zero_le _, Nat.zero_le _⟩ hS hP hD (fun r_1 u H locs hw_2 hP hS => ?_)
        have hP : va_P (dC, dI) classes [cg_P pd g wy mt fo fi kp, cg_G g tA oA uA wA sA np (ne + 1) bd er (vr + 1), cg_N oA cI 60 (va_up oe ne a), cg_N uA cI 60 (va_up ot ne b), cg_N wA cI 60 (va_up wt ne w), cg_N sA cI 60 (va_up sg ne z)] H := hP.sub [0, 1, 2, 3, 4, 5] rfl
        have hD : va_D A [cg_P pd g wy mt fo fi kp, cg_G g tA oA uA wA sA np (ne + 1) bd er (vr + 1), cg_N oA cI 60 (va_up oe ne a), cg_N uA cI 60 (va_up ot ne b), cg_N wA cI 60 (va_up wt ne w), cg_N sA cI 60 (va_up sg ne z)] := rw_re hD rfl
        subst hw_2
        exact rw_iret () hx hb hr hlocks hS hP rfl d_P_edge_46
      · exact False.elim (by first | (rw [hj] at c_9; cases c_9; done) | (rw [hv] at c_18; cases c_18; done) | (simp at c_29; omega))
set_option maxHeartbeats 4000000 in
set_option maxRecDepth 100000 in
theorem c_P_edge_no (l : Launch) (dC : Nat → ClassId) (dI : Nat → Nat → Nat) (cI cL : ClassId) (pd g wy mt fo : Nat) (fi : Int32) (kp : Int64) (tA oA uA wA sA np ne : Nat) (bd : Int32) (er : Int64) (vr : Nat) (a b w z : Int32) (hnp : np ≤ 20) (hne : ne ≤ 60) (hno : ¬ (ng_join np bd a b = true ∧ ng_ev w z = true ∧ ne < 60)) : Met l y_P_edge w_P_edge ({ frames := 2, cells := 0, slots := 0, locals := 43 } : Room) (va_Pc [.ref pd, .int a, .int b, .int w, .int z] (ro_B (dC, dI) classes [(cI, .int), (cL, .long)] [cg_P pd g wy mt fo fi kp, cg_G g tA oA uA wA sA np ne bd er vr])) (ro_Qi (-1)) 0 0 ro_A := by
  refine Met.ofW (cc := b_P_edge) (maxL := 5) (ret := (some .int)) (by decide) rfl ?_
  intro p e s m args below meth c s₁ B hml hv
  obtain ⟨rfl, hP, hK⟩ := hv
  have hx := B.exec
  have hb := B.bytes
  have hr := B.returns
  have hts := atoms_spec (ws := w_P_edge) B.pre
  have hown : s.vm.findClass R_P = some m.cls := findClass_of_methodNamed B.named
  have hlocks := B.notSynchronized
  have iP : ∀ w ∈ w_P, w ∈ w_P_edge := fun w h => List.mem_cons_of_mem _ (i_P w h)
  have hS : va_S ro_A s.heap s.heap [] := va_S.rf
  have hP : va_P (dC, dI) classes [cg_P pd g wy mt fo fi kp, cg_G g tA oA uA wA sA np ne bd er vr] s.heap := hP
  have hl := lv_entry ([.ref pd, .int a, .int b, .int w, .int z]) (n := 5) (Nat.le_of_ble_eq_true rfl)
  rw [lg_entry_eq]
  generalize (lg_sl ([.ref pd, .int a, .int b, .int w, .int z]) ++ List.replicate (5 - (lg_sl ([.ref pd, .int a, .int b, .int w, .int z])).length) Slot.unset).toArray = ls at hl ⊢
  have hl : lv_has ls 5 [(0, .ref pd), (1, .int a), (2, .int b), (3, .int w), (4, .int z)] := hl
  refine lv_aload_n hx hb d_P_edge_0 rfl (lv_at hl 0 rfl) ?_
  refine va_get (D := (dC, dI)) (ci := 4) (v := .ref g) (C := R_P) (T := F_P) (N := 6) hx hb hts iP hown hK hP 0 rfl rfl 0 (by decide) (hts _ (List.mem_cons_of_mem _ wk_P_10)) (fun _ h9 => h9) rfl d_P_edge_1 ?_
  refine lv_iload_n hx hb d_P_edge_4 rfl (lv_at hl 1 rfl) ?_
  refine lv_iload_n hx hb d_P_edge_5 rfl (lv_at hl 2 rfl) ?_
  refine ro_Vi (As := [.int a, .int b]) (rest := []) ⟨hx, hb, hml, hown, hts⟩ (c_G_canJoin l dC dI cI cL g tA oA uA wA sA np ne bd er vr a b (by omega)) (cwV 2 hts (wg_V wk_P_56 wm_G_canJoin we_G_canJoin wi_G wc_G_canJoin) rfl rfl rfl (by decide +kernel) ⟨Nat.le_of_ble_eq_true rfl, Nat.le_of_ble_eq_true rfl⟩) hK (hP.sub [1] rfl) (q0 := 0) rfl rfl rfl rfl hl.1 rfl (lv_room (Nat.le_of_ble_eq_true rfl)) d_P_edge_6 ⟨Nat.zero_le _, Nat.zero_le _⟩ hS hP (fun H locs hP hS => ?_)
  refine nr_ifeqB (tgt := 32) hx hb d_P_edge_9 (by decide) (fun c_9 => ?_) (fun c_9 => ?_)
  · refine lv_iconst (v := -1) hx hb d_P_edge_32 (by decide) ?_
    exact ro_iret hx hb hr hlocks hS rfl d_P_edge_33
  · refine lv_iload_n hx hb d_P_edge_12 rfl (lv_at hl 3 rfl) ?_
    refine lv_iload hx hb d_P_edge_13 (lv_at hl 4 rfl) ?_
    refine ro_Si (As := [.int w, .int z]) (rest := []) ⟨hx, hb, hml, hown, hts⟩ (c_P_areEdgeValues l dC dI cI cL w z ) (cwS 2 hts (wg_S wk_P_60 ws_P_areEdgeValues wi_P wc_P_areEdgeValues) rfl rfl rfl (by decide +kernel) ⟨Nat.le_of_ble_eq_true rfl, Nat.le_of_ble_eq_true rfl⟩) hK (hP.sub [] rfl) rfl hl.1 rfl (lv_room (Nat.le_of_ble_eq_true rfl)) d_P_edge_15 ⟨Nat.zero_le _, Nat.zero_le _⟩ hS hP (fun H locs hP hS => ?_)
    refine nr_ifeqB (tgt := 32) hx hb d_P_edge_18 (by decide) (fun c_18 => ?_) (fun c_18 => ?_)
    · refine lv_iconst (v := -1) hx hb d_P_edge_32 (by decide) ?_
      exact ro_iret hx hb hr hlocks hS rfl d_P_edge_33
    · refine lv_aload_n hx hb d_P_edge_21 rfl (lv_at hl 0 rfl) ?_
      refine va_get (D := (dC, dI)) (ci := 4) (v := .ref g) (C := R_P) (T := F_P) (N := 6) hx hb hts iP hown hK hP 0 rfl rfl 0 (by decide) (hts _ (List.mem_cons_of_mem _ wk_P_10)) (fun _ h9 => h9) rfl d_P_edge_22 ?_
      refine lv_iconst (v := nI 1) hx hb d_P_edge_25 (by decide) ?_
      refine ro_Vi (As := [.int (nI 1)]) (rest := []) ⟨hx, hb, hml, hown, hts⟩ (c_G_hasRoomFor l dC dI cI cL g tA oA uA wA sA np ne bd er vr 1 (by omega) (by omega)) (cwV 1 hts (wg_V wk_P_63 wm_G_hasRoomFor we_G_hasRoomFor wi_G wc_G_hasRoomFor) rfl rfl rfl (by decide +kernel) ⟨Nat.le_of_ble_eq_true rfl, Nat.le_of_ble_eq_true rfl⟩) hK (hP.sub [1] rfl) (q0 := 0) rfl rfl rfl rfl hl.1 rfl (lv_room (Nat.le_of_ble_eq_true rfl)) d_P_edge_26 ⟨Nat.zero_le _, Nat.zero_le _⟩ hS hP (fun H locs hP hS => ?_)
      refine nr_ifneB (tgt := 34) hx hb d_P_edge_29 (by decide) (fun c_29 => ?_) (fun c_29 => ?_)
      · exact False.elim (hno ⟨c_9, c_18, by simp at c_29; omega⟩)
      · refine lv_iconst (v := -1) hx hb d_P_edge_32 (by decide) ?_
        exact ro_iret hx hb hr hlocks hS rfl d_P_edge_33
set_option maxHeartbeats 4000000 in
set_option maxRecDepth 100000 in
theorem c_P_erase_ok (l : Launch) (dC : Nat → ClassId) (dI : Nat → Nat → Nat) (cI cL : ClassId) (pd g wy mt fo : Nat) (fi : Int32) (kp : Int64) (tA oA uA wA sA np ne : Nat) (bd : Int32) (er : Int64) (vr : Nat) (k : Nat) (b : Bool) (hne : ne ≤ 60) (hk : k < ne) (hbb : nb_u er k ≠ b) : Met l y_P_erase w_P_erase ({ frames := 1, cells := 0, slots := 0, locals := 21 } : Room) (va_Pc [.ref pd, .int (nI k), .int (nb_i b)] (rw_B (dC, dI) classes [(cI, .int), (cL, .long)] [cg_P pd g wy mt fo fi kp, cg_G g tA oA uA wA sA np ne bd er vr])) (rw_Qi (dC, dI) classes (rw_A [cg_P pd g wy mt fo fi kp, cg_G g tA oA uA wA sA np ne bd er vr]) (fun r (u : Unit) => r = nb_i true) (fun u => [cg_P pd g wy mt fo fi kp, cg_G g tA oA uA wA sA np ne bd (er ^^^ nb_p k) (vr + 1)])) 0 0 (rw_A [cg_P pd g wy mt fo fi kp, cg_G g tA oA uA wA sA np ne bd er vr]) := by
  refine Met.ofW (cc := b_P_erase) (maxL := 3) (ret := (some .boolean)) (by decide) rfl ?_
  intro p e s m args below meth c s₁ B hml hv
  obtain ⟨rfl, hP, hK, hD0⟩ := hv
  have hx := B.exec
  have hb := B.bytes
  have hr := B.returns
  have hts := atoms_spec (ws := w_P_erase) B.pre
  have hown : s.vm.findClass R_P = some m.cls := findClass_of_methodNamed B.named
  have hlocks := B.notSynchronized
  have iP : ∀ w ∈ w_P, w ∈ w_P_erase := fun w h => List.mem_cons_of_mem _ (i_P w h)
  have hD := rw_own hD0
  generalize hAe : rw_A [cg_P pd g wy mt fo fi kp, cg_G g tA oA uA wA sA np ne bd er vr] = A at hD ⊢
  have hS : va_S A s.heap s.heap [] := va_S.rf
  have hP : va_P (dC, dI) classes [cg_P pd g wy mt fo fi kp, cg_G g tA oA uA wA sA np ne bd er vr] s.heap := hP
  have hl := lv_entry ([.ref pd, .int (nI k), .int (nb_i b)]) (n := 3) (Nat.le_of_ble_eq_true rfl)
  rw [lg_entry_eq]
  generalize (lg_sl ([.ref pd, .int (nI k), .int (nb_i b)]) ++ List.replicate (3 - (lg_sl ([.ref pd, .int (nI k), .int (nb_i b)])).length) Slot.unset).toArray = ls at hl ⊢
  have hl : lv_has ls 3 [(0, .ref pd), (1, .int (nI k)), (2, .int (nb_i b))] := hl
  refine lv_aload_n hx hb d_P_erase_0 rfl (lv_at hl 0 rfl) ?_
  refine va_get (D := (dC, dI)) (ci := 4) (v := .ref g) (C := R_P) (T := F_P) (N := 6) hx hb hts iP hown hK hP 0 rfl rfl 0 (by decide) (hts _ (List.mem_cons_of_mem _ wk_P_10)) (fun _ h9 => h9) rfl d_P_erase_1 ?_
  refine lv_iload_n hx hb d_P_erase_4 rfl (lv_at hl 1 rfl) ?_
  refine ro_Vi (As := [.int (nI k)]) (rest := []) ⟨hx, hb, hml, hown, hts⟩ (c_G_hasEdge l dC dI cI cL g tA oA uA wA sA np ne bd er vr (nI k) ) (cwV 1 hts (wg_V wk_P_97 wm_G_hasEdge we_G_hasEdge wi_G wc_G_hasEdge) rfl rfl rfl (by decide +kernel) ⟨Nat.le_of_ble_eq_true rfl, Nat.le_of_ble_eq_true rfl⟩) hK (hP.sub [1] rfl) (q0 := 0) rfl rfl rfl rfl hl.1 rfl (lv_room (Nat.le_of_ble_eq_true rfl)) d_P_erase_5 ⟨Nat.zero_le _, Nat.zero_le _⟩ hS hP (fun H locs hP hS => ?_)
  refine nr_ifeqB (tgt := 23) hx hb d_P_erase_8 (by decide) (fun c_8 => ?_) (fun c_8 => ?_)
  · exact False.elim (by first | (rw [nb_inI_nI (by omega) (by omega), decide_eq_true hk] at c_8; cases c_8; done) | exact hbb (nb_bI_inj c_20))
  · refine lv_aload_n hx hb d_P_erase_11 rfl (lv_at hl 0 rfl) ?_
    refine va_get (D := (dC, dI)) (ci := 4) (v := .ref g) (C := R_P) (T := F_P) (N := 6) hx hb hts iP hown hK hP 0 rfl rfl 0 (by decide) (hts _ (List.mem_cons_of_mem _ wk_P_10)) (fun _ h9 => h9) rfl d_P_erase_12 ?_
    refine lv_iload_n hx hb d_P_erase_15 rfl (lv_at hl 1 rfl) ?_
    refine ro_Vi (As := [.int (nI k)]) (rest := []) ⟨hx, hb, hml, hown, hts⟩ (c_G_isErased l dC dI cI cL g tA oA uA wA sA np ne bd er vr k (by omega)) (cwV 1 hts (wg_V wk_P_100 wm_G_isErased we_G_isErased wi_G wc_G_isErased) rfl rfl rfl (by decide +kernel) ⟨Nat.le_of_ble_eq_true rfl, Nat.le_of_ble_eq_true rfl⟩) hK (hP.sub [1] rfl) (q0 := 0) rfl rfl rfl rfl hl.1 rfl (lv_room (Nat.le_of_ble_eq_true rfl)) d_P_erase_16 ⟨Nat.zero_le _, Nat.zero_le _⟩ hS hP (fun H locs hP hS => ?_)
    refine lv_iload_n hx hb d_P_erase_19 rfl (lv_at hl 2 rfl) ?_
    refine lv_icmp_ne (tgt := 25) hx hb d_P_erase_20 (by decide) (fun c_20 => ?_) (fun c_20 => ?_)
    · refine lv_aload_n hx hb d_P_erase_25 rfl (lv_at hl 0 rfl) ?_
      refine va_get (D := (dC, dI)) (ci := 4) (v := .ref g) (C := R_P) (T := F_P) (N := 6) hx hb hts iP hown hK hP 0 rfl rfl 0 (by decide) (hts _ (List.mem_cons_of_mem _ wk_P_10)) (fun _ h9 => h9) rfl d_P_erase_26 ?_
      refine lv_iload_n hx hb d_P_erase_29 rfl (lv_at hl 1 rfl) ?_
      refine rw_Vv (wr := [cg_P pd g wy mt fo fi kp]) [1] [0] rfl rfl (by decide) (As := [.int (nI k)]) (rest := []) ⟨hx, hb, hml, hown, hts⟩ (c_G_turnErased l dC dI cI cL g tA oA uA wA sA np ne bd er vr k ) (cwV 1 hts (wg_V wk_P_103 wm_G_turnErased we_G_turnErased wi_G wc_G_turnErased) rfl rfl rfl (by decide +kernel) ⟨Nat.le_of_ble_eq_true rfl, Nat.le_of_ble_eq_true rfl⟩) hK (hP.sub [1] rfl) ((hD.sub [1] (by decide) rfl).weaken (fun _ _ _ _ => trivial)) (q0 := 0) rfl rfl rfl rfl hl.1 rfl (lv_room (Nat.le_of_ble_eq_true rfl)) d_P_erase_30 ⟨Nat.zero_le _, Nat.zero_le _⟩ hS hP hD (fun u H locs hw_2 hP hS => ?_)
      have hP : va_P (dC, dI) classes [cg_P pd g wy mt fo fi kp, cg_G g tA oA uA wA sA np ne bd (er ^^^ nb_p k) (vr + 1)] H := hP.sub [0, 1] rfl
      have hD : va_D A [cg_P pd g wy mt fo fi kp, cg_G g tA oA uA wA sA np ne bd (er ^^^ nb_p k) (vr + 1)] := rw_re hD rfl
      refine lv_iconst (v := nI 1) hx hb d_P_erase_33 (by decide) ?_
      exact rw_zret () (b := true) hx hb hr hlocks hS hP rfl rfl d_P_erase_34
    · exact False.elim (by first | (rw [nb_inI_nI (by omega) (by omega), decide_eq_true hk] at c_8; cases c_8; done) | exact hbb (nb_bI_inj c_20))
set_option maxHeartbeats 4000000 in
set_option maxRecDepth 100000 in
theorem c_P_erase_no (l : Launch) (dC : Nat → ClassId) (dI : Nat → Nat → Nat) (cI cL : ClassId) (pd g wy mt fo : Nat) (fi : Int32) (kp : Int64) (tA oA uA wA sA np ne : Nat) (bd : Int32) (er : Int64) (vr : Nat) (k : Int32) (b : Bool) (hne : ne ≤ 60) (hno : ∀ j, j < ne → k = nI j → nb_u er j = b) : Met l y_P_erase w_P_erase ({ frames := 1, cells := 0, slots := 0, locals := 21 } : Room) (va_Pc [.ref pd, .int k, .int (nb_i b)] (ro_B (dC, dI) classes [(cI, .int), (cL, .long)] [cg_P pd g wy mt fo fi kp, cg_G g tA oA uA wA sA np ne bd er vr])) (ro_Qi (nb_i false)) 0 0 ro_A := by
  refine Met.ofW (cc := b_P_erase) (maxL := 3) (ret := (some .boolean)) (by decide) rfl ?_
  intro p e s m args below meth c s₁ B hml hv
  obtain ⟨rfl, hP, hK⟩ := hv
  have hx := B.exec
  have hb := B.bytes
  have hr := B.returns
  have hts := atoms_spec (ws := w_P_erase) B.pre
  have hown : s.vm.findClass R_P = some m.cls := findClass_of_methodNamed B.named
  have hlocks := B.notSynchronized
  have iP : ∀ w ∈ w_P, w ∈ w_P_erase := fun w h => List.mem_cons_of_mem _ (i_P w h)
  have hS : va_S ro_A s.heap s.heap [] := va_S.rf
  have hP : va_P (dC, dI) classes [cg_P pd g wy mt fo fi kp, cg_G g tA oA uA wA sA np ne bd er vr] s.heap := hP
  have hl := lv_entry ([.ref pd, .int k, .int (nb_i b)]) (n := 3) (Nat.le_of_ble_eq_true rfl)
  rw [lg_entry_eq]
  generalize (lg_sl ([.ref pd, .int k, .int (nb_i b)]) ++ List.replicate (3 - (lg_sl ([.ref pd, .int k, .int (nb_i b)])).length) Slot.unset).toArray = ls at hl ⊢
  have hl : lv_has ls 3 [(0, .ref pd), (1, .int k), (2, .int (nb_i b))] := hl
  refine lv_aload_n hx hb d_P_erase_0 rfl (lv_at hl 0 rfl) ?_
  refine va_get (D := (dC, dI)) (ci := 4) (v := .ref g) (C := R_P) (T := F_P) (N := 6) hx hb hts iP hown hK hP 0 rfl rfl 0 (by decide) (hts _ (List.mem_cons_of_mem _ wk_P_10)) (fun _ h9 => h9) rfl d_P_erase_1 ?_
  refine lv_iload_n hx hb d_P_erase_4 rfl (lv_at hl 1 rfl) ?_
  refine ro_Vi (As := [.int k]) (rest := []) ⟨hx, hb, hml, hown, hts⟩ (c_G_hasEdge l dC dI cI cL g tA oA uA wA sA np ne bd er vr k ) (cwV 1 hts (wg_V wk_P_97 wm_G_hasEdge we_G_hasEdge wi_G wc_G_hasEdge) rfl rfl rfl (by decide +kernel) ⟨Nat.le_of_ble_eq_true rfl, Nat.le_of_ble_eq_true rfl⟩) hK (hP.sub [1] rfl) (q0 := 0) rfl rfl rfl rfl hl.1 rfl (lv_room (Nat.le_of_ble_eq_true rfl)) d_P_erase_5 ⟨Nat.zero_le _, Nat.zero_le _⟩ hS hP (fun H locs hP hS => ?_)
  refine nr_ifeqB (tgt := 23) hx hb d_P_erase_8 (by decide) (fun c_8 => ?_) (fun c_8 => ?_)
  · refine lv_iconst (v := nI 0) hx hb d_P_erase_23 (by decide) ?_
    exact ro_zret hx hb hr hlocks hS rfl rfl d_P_erase_24
  · obtain ⟨j, hj, rfl⟩ := nb_inI_of (by omega) c_8
    refine lv_aload_n hx hb d_P_erase_11 rfl (lv_at hl 0 rfl) ?_
    refine va_get (D := (dC, dI)) (ci := 4) (v := .ref g) (C := R_P) (T := F_P) (N := 6) hx hb hts iP hown hK hP 0 rfl rfl 0 (by decide) (hts _ (List.mem_cons_of_mem _ wk_P_10)) (fun _ h9 => h9) rfl d_P_erase_12 ?_
    refine lv_iload_n hx hb d_P_erase_15 rfl (lv_at hl 1 rfl) ?_
    refine ro_Vi (As := [.int (nI j)]) (rest := []) ⟨hx, hb, hml, hown, hts⟩ (c_G_isErased l dC dI cI cL g tA oA uA wA sA np ne bd er vr j (by omega)) (cwV 1 hts (wg_V wk_P_100 wm_G_isErased we_G_isErased wi_G wc_G_isErased) rfl rfl rfl (by decide +kernel) ⟨Nat.le_of_ble_eq_true rfl, Nat.le_of_ble_eq_true rfl⟩) hK (hP.sub [1] rfl) (q0 := 0) rfl rfl rfl rfl hl.1 rfl (lv_room (Nat.le_of_ble_eq_true rfl)) d_P_erase_16 ⟨Nat.zero_le _, Nat.zero_le _⟩ hS hP (fun H locs hP hS => ?_)
    refine lv_iload_n hx hb d_P_erase_19 rfl (lv_at hl 2 rfl) ?_
    refine lv_icmp_ne (tgt := 25) hx hb d_P_erase_20 (by decide) (fun c_20 => ?_) (fun c_20 => ?_)
    · exact False.elim (c_20 (by rw [hno j hj rfl]))
    · refine lv_iconst (v := nI 0) hx hb d_P_erase_23 (by decide) ?_
      exact ro_zret hx hb hr hlocks hS rfl rfl d_P_erase_24
set_option maxHeartbeats 4000000 in
set_option maxRecDepth 100000 in
theorem c_P_pair (l : Launch) (dC : Nat → ClassId) (dI : Nat → Nat → Nat) (cI cL : ClassId) (pd g wy mt fo : Nat) (fi : Int32) (kp : Int64) (lA hA sz fw fk : Nat) (od : Int64) (le ho : Nat → Nat) (i z : Int32) (hsz : sz ≤ 10) : Met l y_P_pair w_P_pair ({ frames := 0, cells := 0, slots := 0, locals := 0 } : Room) (va_Pc [.ref pd, .int i, .int z] (ro_B (dC, dI) classes [(cI, .int), (cL, .long)] [cg_P pd g wy mt fo fi kp, cg_F fo lA hA sz fw fk od, cg_N lA cI 10 le, cg_N hA cI 10 ho])) (ro_Qi (ng_pair sz le ho i z)) 0 0 ro_A := by
  refine Met.ofW (cc := b_P_pair) (maxL := 3) (ret := (some .int)) (by decide) rfl ?_
  intro p e s m args below meth c s₁ B hml hv
  obtain ⟨rfl, hP, hK⟩ := hv
  have hx := B.exec
  have hb := B.bytes
  have hr := B.returns
  have hts := atoms_spec (ws := w_P_pair) B.pre
  have hown : s.vm.findClass R_P = some m.cls := findClass_of_methodNamed B.named
  have hlocks := B.notSynchronized
  have iP : ∀ w ∈ w_P, w ∈ w_P_pair := fun w h => List.mem_cons_of_mem _ (i_P w h)
  have iF : ∀ w ∈ w_F, w ∈ w_P_pair := fun w h => List.mem_cons_of_mem _ (i_F w h)
  have hS : va_S ro_A s.heap s.heap [] := va_S.rf
  have hP : va_P (dC, dI) classes [cg_P pd g wy mt fo fi kp, cg_F fo lA hA sz fw fk od, cg_N lA cI 10 le, cg_N hA cI 10 ho] s.heap := hP
  have hl := lv_entry ([.ref pd, .int i, .int z]) (n := 3) (Nat.le_of_ble_eq_true rfl)
  rw [lg_entry_eq]
  generalize (lg_sl ([.ref pd, .int i, .int z]) ++ List.replicate (3 - (lg_sl ([.ref pd, .int i, .int z])).length) Slot.unset).toArray = ls at hl ⊢
  have hl : lv_has ls 3 [(0, .ref pd), (1, .int i), (2, .int z)] := hl
  refine lv_iload_n hx hb d_P_pair_0 rfl (lv_at hl 1 rfl) ?_
  refine lv_if_lt (tgt := 15) hx hb d_P_pair_1 (by decide) (fun c_1 => ?_) (fun c_1 => ?_)
  · refine lv_iconst (v := -1) hx hb d_P_pair_15 (by decide) ?_
    exact ro_iret hx hb hr hlocks hS (by first | (rw [ng_pair, nb_inI_f1 c_1]; rfl) | (rw [ng_pair, nb_inI_f3 c_12]; rfl)) d_P_pair_16
  · refine lv_iload_n hx hb d_P_pair_4 rfl (lv_at hl 1 rfl) ?_
    refine lv_aload_n hx hb d_P_pair_5 rfl (lv_at hl 0 rfl) ?_
    refine va_get (D := (dC, dI)) (ci := 4) (v := .ref fo) (C := R_P) (T := F_P) (N := 6) hx hb hts iP hown hK hP 0 rfl rfl 3 (by decide) (hts _ (List.mem_cons_of_mem _ wk_P_37)) (fun _ h9 => h9) rfl d_P_pair_6 ?_
    refine va_get (D := (dC, dI)) (ci := 2) (v := .int (nI sz)) (C := R_F) (T := F_F) (N := 6) hx hb hts iF hown hK hP 1 rfl rfl 2 (by decide) (hts _ (List.mem_cons_of_mem _ wk_P_141)) (fun _ h9 => h9) rfl d_P_pair_9 ?_
    refine lv_icmp_lt (tgt := 17) hx hb d_P_pair_12 (by decide) (fun c_12 => ?_) (fun c_12 => ?_)
    · obtain ⟨j, hj, rfl⟩ := nb_inI_of (n := sz) (by omega) (nb_inI_t2 c_1 c_12)
      have hij : nb_in sz (nI j) = true := by rw [nb_inI_nI (by omega) (by omega), decide_eq_true hj]
      have ej := nI_clamp (n := j) (by omega)
      refine lv_iload_n hx hb d_P_pair_17 rfl (lv_at hl 2 rfl) ?_
      refine lv_if_ne (tgt := 31) hx hb d_P_pair_18 (by decide) (fun c_18 => ?_) (fun c_18 => ?_)
      · refine lv_iload_n hx hb d_P_pair_31 rfl (lv_at hl 2 rfl) ?_
        refine lv_iconst (v := nI 1) hx hb d_P_pair_32 (by decide) ?_
        refine lv_icmp_ne (tgt := 48) hx hb d_P_pair_33 (by decide) (fun c_33 => ?_) (fun c_33 => ?_)
        · refine lv_iconst (v := -1) hx hb d_P_pair_48 (by decide) ?_
          exact ro_iret hx hb hr hlocks hS (by first | (rw [ng_pair, if_pos hij, if_neg c_18, if_pos c_33, ej]; done) | (rw [ng_pair, if_pos hij, if_neg c_18, if_neg c_33]; done)) d_P_pair_49
        · refine lv_aload_n hx hb d_P_pair_36 rfl (lv_at hl 0 rfl) ?_
          refine va_get (D := (dC, dI)) (ci := 4) (v := .ref fo) (C := R_P) (T := F_P) (N := 6) hx hb hts iP hown hK hP 0 rfl rfl 3 (by decide) (hts _ (List.mem_cons_of_mem _ wk_P_37)) (fun _ h9 => h9) rfl d_P_pair_37 ?_
          refine va_get (D := (dC, dI)) (ci := 2) (v := .ref hA) (C := R_F) (T := F_F) (N := 6) hx hb hts iF hown hK hP 1 rfl rfl 1 (by decide) (hts _ (List.mem_cons_of_mem _ wk_P_148)) (fun _ h9 => h9) rfl d_P_pair_40 ?_
          refine lv_iload_n hx hb d_P_pair_43 rfl (lv_at hl 1 rfl) ?_
          refine nr_iald hx hb hK hP 3 0 rfl rfl (by omega) (by decide) d_P_pair_44 ?_
          refine lv_goto (tgt := 49) hx hb d_P_pair_45 (by decide) ?_
          exact ro_iret hx hb hr hlocks hS (by first | (rw [ng_pair, if_pos hij, if_neg c_18, if_pos c_33, ej]; done) | (rw [ng_pair, if_pos hij, if_neg c_18, if_neg c_33]; done)) d_P_pair_49
      · refine lv_aload_n hx hb d_P_pair_21 rfl (lv_at hl 0 rfl) ?_
        refine va_get (D := (dC, dI)) (ci := 4) (v := .ref fo) (C := R_P) (T := F_P) (N := 6) hx hb hts iP hown hK hP 0 rfl rfl 3 (by decide) (hts _ (List.mem_cons_of_mem _ wk_P_37)) (fun _ h9 => h9) rfl d_P_pair_22 ?_
        refine va_get (D := (dC, dI)) (ci := 2) (v := .ref lA) (C := R_F) (T := F_F) (N := 6) hx hb hts iF hown hK hP 1 rfl rfl 0 (by decide) (hts _ (List.mem_cons_of_mem _ wk_P_144)) (fun _ h9 => h9) rfl d_P_pair_25 ?_
        refine lv_iload_n hx hb d_P_pair_28 rfl (lv_at hl 1 rfl) ?_
        refine nr_iald hx hb hK hP 2 0 rfl rfl (by omega) (by decide) d_P_pair_29 ?_
        exact ro_iret hx hb hr hlocks hS (by rw [ng_pair, if_pos hij, if_pos c_18, ej]) d_P_pair_30
    · refine lv_iconst (v := -1) hx hb d_P_pair_15 (by decide) ?_
      exact ro_iret hx hb hr hlocks hS (by first | (rw [ng_pair, nb_inI_f1 c_1]; rfl) | (rw [ng_pair, nb_inI_f3 c_12]; rfl)) d_P_pair_16
set_option maxHeartbeats 4000000 in
set_option maxRecDepth 100000 in
theorem c_P_least (l : Launch) (dC : Nat → ClassId) (dI : Nat → Nat → Nat) (cI cL : ClassId) (pd g wy mt fo : Nat) (fi : Int32) (kp : Int64) (lA hA sz fw fk : Nat) (od : Int64)  : Met l y_P_least w_P_least ({ frames := 0, cells := 0, slots := 0, locals := 0 } : Room) (va_Pc [.ref pd] (ro_B (dC, dI) classes [(cI, .int), (cL, .long)] [cg_P pd g wy mt fo fi kp, cg_F fo lA hA sz fw fk od])) (ro_Qi (nI fk)) 0 0 ro_A := by
  refine Met.ofW (cc := b_P_least) (maxL := 1) (ret := (some .int)) (by decide) rfl ?_
  intro p e s m args below meth c s₁ B hml hv
  obtain ⟨rfl, hP, hK⟩ := hv
  have hx := B.exec
  have hb := B.bytes
  have hr := B.returns
  have hts := atoms_spec (ws := w_P_least) B.pre
  have hown : s.vm.findClass R_P = some m.cls := findClass_of_methodNamed B.named
  have hlocks := B.notSynchronized
  have iP : ∀ w ∈ w_P, w ∈ w_P_least := fun w h => List.mem_cons_of_mem _ (i_P w h)
  have iF : ∀ w ∈ w_F, w ∈ w_P_least := fun w h => List.mem_cons_of_mem _ (i_F w h)
  have hS : va_S ro_A s.heap s.heap [] := va_S.rf
  have hP : va_P (dC, dI) classes [cg_P pd g wy mt fo fi kp, cg_F fo lA hA sz fw fk od] s.heap := hP
  have hl := lv_entry ([.ref pd]) (n := 1) (Nat.le_of_ble_eq_true rfl)
  rw [lg_entry_eq]
  generalize (lg_sl ([.ref pd]) ++ List.replicate (1 - (lg_sl ([.ref pd])).length) Slot.unset).toArray = ls at hl ⊢
  have hl : lv_has ls 1 [(0, .ref pd)] := hl
  refine lv_aload_n hx hb d_P_least_0 rfl (lv_at hl 0 rfl) ?_
  refine va_get (D := (dC, dI)) (ci := 4) (v := .ref fo) (C := R_P) (T := F_P) (N := 6) hx hb hts iP hown hK hP 0 rfl rfl 3 (by decide) (hts _ (List.mem_cons_of_mem _ wk_P_37)) (fun _ h9 => h9) rfl d_P_least_1 ?_
  refine va_get (D := (dC, dI)) (ci := 2) (v := .int (nI fk)) (C := R_F) (T := F_F) (N := 6) hx hb hts iF hown hK hP 1 rfl rfl 4 (by decide) (hts _ (List.mem_cons_of_mem _ wk_P_151)) (fun _ h9 => h9) rfl d_P_least_4 ?_
  exact ro_iret hx hb hr hlocks hS rfl d_P_least_7
set_option maxHeartbeats 4000000 in
set_option maxRecDepth 100000 in
theorem c_P_fix (l : Launch) (dC : Nat → ClassId) (dI : Nat → Nat → Nat) (cI cL : ClassId) (pd g wy mt fo : Nat) (fi : Int32) (kp : Int64) (lA hA sz fw fk : Nat) (od : Int64)  : Met l y_P_fix w_P_fix ({ frames := 0, cells := 0, slots := 0, locals := 0 } : Room) (va_Pc [.ref pd] (ro_B (dC, dI) classes [(cI, .int), (cL, .long)] [cg_P pd g wy mt fo fi kp, cg_F fo lA hA sz fw fk od])) (ro_Ql od) 0 0 ro_A := by
  refine Met.ofW (cc := b_P_fix) (maxL := 1) (ret := (some .long)) (by decide) rfl ?_
  intro p e s m args below meth c s₁ B hml hv
  obtain ⟨rfl, hP, hK⟩ := hv
  have hx := B.exec
  have hb := B.bytes
  have hr := B.returns
  have hts := atoms_spec (ws := w_P_fix) B.pre
  have hown : s.vm.findClass R_P = some m.cls := findClass_of_methodNamed B.named
  have hlocks := B.notSynchronized
  have iP : ∀ w ∈ w_P, w ∈ w_P_fix := fun w h => List.mem_cons_of_mem _ (i_P w h)
  have iF : ∀ w ∈ w_F, w ∈ w_P_fix := fun w h => List.mem_cons_of_mem _ (i_F w h)
  have hS : va_S ro_A s.heap s.heap [] := va_S.rf
  have hP : va_P (dC, dI) classes [cg_P pd g wy mt fo fi kp, cg_F fo lA hA sz fw fk od] s.heap := hP
  have hl := lv_entry ([.ref pd]) (n := 1) (Nat.le_of_ble_eq_true rfl)
  rw [lg_entry_eq]
  generalize (lg_sl ([.ref pd]) ++ List.replicate (1 - (lg_sl ([.ref pd])).length) Slot.unset).toArray = ls at hl ⊢
  have hl : lv_has ls 1 [(0, .ref pd)] := hl
  refine lv_aload_n hx hb d_P_fix_0 rfl (lv_at hl 0 rfl) ?_
  refine va_get (D := (dC, dI)) (ci := 4) (v := .ref fo) (C := R_P) (T := F_P) (N := 6) hx hb hts iP hown hK hP 0 rfl rfl 3 (by decide) (hts _ (List.mem_cons_of_mem _ wk_P_37)) (fun _ h9 => h9) rfl d_P_fix_1 ?_
  refine va_get (D := (dC, dI)) (ci := 2) (v := .long od) (C := R_F) (T := F_F) (N := 6) hx hb hts iF hown hK hP 1 rfl rfl 5 (by decide) (hts _ (List.mem_cons_of_mem _ wk_P_154)) (fun _ h9 => h9) rfl d_P_fix_4 ?_
  exact ro_lret hx hb hr hlocks hS rfl d_P_fix_7
set_option maxHeartbeats 4000000 in
set_option maxRecDepth 100000 in
theorem c_P_kept (l : Launch) (dC : Nat → ClassId) (dI : Nat → Nat → Nat) (cI cL : ClassId) (pd g wy mt fo : Nat) (fi : Int32) (kp : Int64)  : Met l y_P_kept w_P_kept ({ frames := 0, cells := 0, slots := 0, locals := 0 } : Room) (va_Pc [.ref pd] (ro_B (dC, dI) classes [(cI, .int), (cL, .long)] [cg_P pd g wy mt fo fi kp])) (ro_Ql kp) 0 0 ro_A := by
  refine Met.ofW (cc := b_P_kept) (maxL := 1) (ret := (some .long)) (by decide) rfl ?_
  intro p e s m args below meth c s₁ B hml hv
  obtain ⟨rfl, hP, hK⟩ := hv
  have hx := B.exec
  have hb := B.bytes
  have hr := B.returns
  have hts := atoms_spec (ws := w_P_kept) B.pre
  have hown : s.vm.findClass R_P = some m.cls := findClass_of_methodNamed B.named
  have hlocks := B.notSynchronized
  have iP : ∀ w ∈ w_P, w ∈ w_P_kept := fun w h => List.mem_cons_of_mem _ (i_P w h)
  have hS : va_S ro_A s.heap s.heap [] := va_S.rf
  have hP : va_P (dC, dI) classes [cg_P pd g wy mt fo fi kp] s.heap := hP
  have hl := lv_entry ([.ref pd]) (n := 1) (Nat.le_of_ble_eq_true rfl)
  rw [lg_entry_eq]
  generalize (lg_sl ([.ref pd]) ++ List.replicate (1 - (lg_sl ([.ref pd])).length) Slot.unset).toArray = ls at hl ⊢
  have hl : lv_has ls 1 [(0, .ref pd)] := hl
  refine lv_aload_n hx hb d_P_kept_0 rfl (lv_at hl 0 rfl) ?_
  refine va_get (D := (dC, dI)) (ci := 4) (v := .long kp) (C := R_P) (T := F_P) (N := 6) hx hb hts iP hown hK hP 0 rfl rfl 5 (by decide) (hts _ (List.mem_cons_of_mem _ wk_P_45)) (fun _ h9 => h9) rfl d_P_kept_1 ?_
  exact ro_lret hx hb hr hlocks hS rfl d_P_kept_4
set_option maxHeartbeats 4000000 in
set_option maxRecDepth 100000 in
theorem c_P_signs (l : Launch) (dC : Nat → ClassId) (dI : Nat → Nat → Nat) (cI cL : ClassId) (pd g wy mt fo : Nat) (fi : Int32) (kp : Int64) (tA oA uA wA sA np ne : Nat) (bd : Int32) (er : Int64) (vr : Nat) (sg : Nat → Nat) (x : Int64) (hne : ne ≤ 60) : Met l y_P_signs w_P_signs ({ frames := 1, cells := 0, slots := 0, locals := 24 } : Room) (va_Pc [.ref pd, .long x] (ro_B (dC, dI) classes [(cI, .int), (cL, .long)] [cg_P pd g wy mt fo fi kp, cg_G g tA oA uA wA sA np ne bd er vr, cg_N sA cI 60 sg])) (ro_Qi (if ng_fitL ne x = true then ng_osg x sg ne else -1)) 0 0 ro_A := by
  refine Met.ofW (cc := b_P_signs) (maxL := 3) (ret := (some .int)) (by decide) rfl ?_
  intro p e s m args below meth c s₁ B hml hv
  obtain ⟨rfl, hP, hK⟩ := hv
  have hx := B.exec
  have hb := B.bytes
  have hr := B.returns
  have hts := atoms_spec (ws := w_P_signs) B.pre
  have hown : s.vm.findClass R_P = some m.cls := findClass_of_methodNamed B.named
  have hlocks := B.notSynchronized
  have iP : ∀ w ∈ w_P, w ∈ w_P_signs := fun w h => List.mem_cons_of_mem _ (i_P w h)
  have hS : va_S ro_A s.heap s.heap [] := va_S.rf
  have hP : va_P (dC, dI) classes [cg_P pd g wy mt fo fi kp, cg_G g tA oA uA wA sA np ne bd er vr, cg_N sA cI 60 sg] s.heap := hP
  have hl := lv_entry ([.ref pd, .long x]) (n := 3) (Nat.le_of_ble_eq_true rfl)
  rw [lg_entry_eq]
  generalize (lg_sl ([.ref pd, .long x]) ++ List.replicate (3 - (lg_sl ([.ref pd, .long x])).length) Slot.unset).toArray = ls at hl ⊢
  have hl : lv_has ls 3 [(0, .ref pd), (1, .long x)] := hl
  refine lv_aload_n hx hb d_P_signs_0 rfl (lv_at hl 0 rfl) ?_
  refine va_get (D := (dC, dI)) (ci := 4) (v := .ref g) (C := R_P) (T := F_P) (N := 6) hx hb hts iP hown hK hP 0 rfl rfl 0 (by decide) (hts _ (List.mem_cons_of_mem _ wk_P_10)) (fun _ h9 => h9) rfl d_P_signs_1 ?_
  refine lv_lload_n hx hb d_P_signs_4 rfl (lv_at hl 1 rfl) ?_
  refine ro_Vi (As := [.long x]) (rest := []) ⟨hx, hb, hml, hown, hts⟩ (c_G_hasEdges l dC dI cI cL g tA oA uA wA sA np ne bd er vr x ) (cwV 1 hts (wg_V wk_P_157 wm_G_hasEdges we_G_hasEdges wi_G wc_G_hasEdges) rfl rfl rfl (by decide +kernel) ⟨Nat.le_of_ble_eq_true rfl, Nat.le_of_ble_eq_true rfl⟩) hK (hP.sub [1] rfl) (q0 := 0) rfl rfl rfl rfl hl.1 rfl (lv_room (Nat.le_of_ble_eq_true rfl)) d_P_signs_5 ⟨Nat.zero_le _, Nat.zero_le _⟩ hS hP (fun H locs hP hS => ?_)
  refine nr_ifeqB (tgt := 22) hx hb d_P_signs_8 (by decide) (fun c_8 => ?_) (fun c_8 => ?_)
  · refine lv_iconst (v := -1) hx hb d_P_signs_22 (by decide) ?_
    exact ro_iret hx hb hr hlocks hS (by first | (rw [if_pos c_8]; done) | (rw [c_8]; rfl)) d_P_signs_23
  · refine lv_aload_n hx hb d_P_signs_11 rfl (lv_at hl 0 rfl) ?_
    refine va_get (D := (dC, dI)) (ci := 4) (v := .ref g) (C := R_P) (T := F_P) (N := 6) hx hb hts iP hown hK hP 0 rfl rfl 0 (by decide) (hts _ (List.mem_cons_of_mem _ wk_P_10)) (fun _ h9 => h9) rfl d_P_signs_12 ?_
    refine lv_lload_n hx hb d_P_signs_15 rfl (lv_at hl 1 rfl) ?_
    refine ro_Vi (As := [.long x]) (rest := []) ⟨hx, hb, hml, hown, hts⟩ (c_G_oddSigns l dC dI cI cL g tA oA uA wA sA np ne bd er vr sg x (by omega)) (cwV 1 hts (wg_V wk_P_161 wm_G_oddSigns we_G_oddSigns wi_G wc_G_oddSigns) rfl rfl rfl (by decide +kernel) ⟨Nat.le_of_ble_eq_true rfl, Nat.le_of_ble_eq_true rfl⟩) hK (hP.sub [1, 2] rfl) (q0 := 0) rfl rfl rfl rfl hl.1 rfl (lv_room (Nat.le_of_ble_eq_true rfl)) d_P_signs_16 ⟨Nat.zero_le _, Nat.zero_le _⟩ hS hP (fun H locs hP hS => ?_)
    refine lv_goto (tgt := 23) hx hb d_P_signs_19 (by decide) ?_
    exact ro_iret hx hb hr hlocks hS (by first | (rw [if_pos c_8]; done) | (rw [c_8]; rfl)) d_P_signs_23
set_option maxHeartbeats 4000000 in
set_option maxRecDepth 100000 in
theorem c_P_syndrome (l : Launch) (dC : Nat → ClassId) (dI : Nat → Nat → Nat) (cI cL : ClassId) (pd g wy mt fo : Nat) (fi : Int32) (kp : Int64) (tA oA uA wA sA np ne : Nat) (bd : Int32) (er : Int64) (vr : Nat) (oe ot : Nat → Nat) (x : Int64) (hne : ne ≤ 60) : Met l y_P_syndrome w_P_syndrome ({ frames := 1, cells := 0, slots := 0, locals := 24 } : Room) (va_Pc [.ref pd, .long x] (ro_B (dC, dI) classes [(cI, .int), (cL, .long)] [cg_P pd g wy mt fo fi kp, cg_G g tA oA uA wA sA np ne bd er vr, cg_N oA cI 60 oe, cg_N uA cI 60 ot])) (ro_Qi (if ng_fitL ne x = true then ng_opt x oe ot ne &&& (bd ^^^ (-1)) else -1)) 0 0 ro_A := by
  refine Met.ofW (cc := b_P_syndrome) (maxL := 3) (ret := (some .int)) (by decide) rfl ?_
  intro p e s m args below meth c s₁ B hml hv
  obtain ⟨rfl, hP, hK⟩ := hv
  have hx := B.exec
  have hb := B.bytes
  have hr := B.returns
  have hts := atoms_spec (ws := w_P_syndrome) B.pre
  have hown : s.vm.findClass R_P = some m.cls := findClass_of_methodNamed B.named
  have hlocks := B.notSynchronized
  have iP : ∀ w ∈ w_P, w ∈ w_P_syndrome := fun w h => List.mem_cons_of_mem _ (i_P w h)
  have hS : va_S ro_A s.heap s.heap [] := va_S.rf
  have hP : va_P (dC, dI) classes [cg_P pd g wy mt fo fi kp, cg_G g tA oA uA wA sA np ne bd er vr, cg_N oA cI 60 oe, cg_N uA cI 60 ot] s.heap := hP
  have hl := lv_entry ([.ref pd, .long x]) (n := 3) (Nat.le_of_ble_eq_true rfl)
  rw [lg_entry_eq]
  generalize (lg_sl ([.ref pd, .long x]) ++ List.replicate (3 - (lg_sl ([.ref pd, .long x])).length) Slot.unset).toArray = ls at hl ⊢
  have hl : lv_has ls 3 [(0, .ref pd), (1, .long x)] := hl
  refine lv_aload_n hx hb d_P_syndrome_0 rfl (lv_at hl 0 rfl) ?_
  refine va_get (D := (dC, dI)) (ci := 4) (v := .ref g) (C := R_P) (T := F_P) (N := 6) hx hb hts iP hown hK hP 0 rfl rfl 0 (by decide) (hts _ (List.mem_cons_of_mem _ wk_P_10)) (fun _ h9 => h9) rfl d_P_syndrome_1 ?_
  refine lv_lload_n hx hb d_P_syndrome_4 rfl (lv_at hl 1 rfl) ?_
  refine ro_Vi (As := [.long x]) (rest := []) ⟨hx, hb, hml, hown, hts⟩ (c_G_hasEdges l dC dI cI cL g tA oA uA wA sA np ne bd er vr x ) (cwV 1 hts (wg_V wk_P_157 wm_G_hasEdges we_G_hasEdges wi_G wc_G_hasEdges) rfl rfl rfl (by decide +kernel) ⟨Nat.le_of_ble_eq_true rfl, Nat.le_of_ble_eq_true rfl⟩) hK (hP.sub [1] rfl) (q0 := 0) rfl rfl rfl rfl hl.1 rfl (lv_room (Nat.le_of_ble_eq_true rfl)) d_P_syndrome_5 ⟨Nat.zero_le _, Nat.zero_le _⟩ hS hP (fun H locs hP hS => ?_)
  refine nr_ifeqB (tgt := 22) hx hb d_P_syndrome_8 (by decide) (fun c_8 => ?_) (fun c_8 => ?_)
  · refine lv_iconst (v := -1) hx hb d_P_syndrome_22 (by decide) ?_
    exact ro_iret hx hb hr hlocks hS (by first | (rw [if_pos c_8]; done) | (rw [c_8]; rfl)) d_P_syndrome_23
  · refine lv_aload_n hx hb d_P_syndrome_11 rfl (lv_at hl 0 rfl) ?_
    refine va_get (D := (dC, dI)) (ci := 4) (v := .ref g) (C := R_P) (T := F_P) (N := 6) hx hb hts iP hown hK hP 0 rfl rfl 0 (by decide) (hts _ (List.mem_cons_of_mem _ wk_P_10)) (fun _ h9 => h9) rfl d_P_syndrome_12 ?_
    refine lv_lload_n hx hb d_P_syndrome_15 rfl (lv_at hl 1 rfl) ?_
    refine ro_Vi (As := [.long x]) (rest := []) ⟨hx, hb, hml, hown, hts⟩ (c_G_oddPoints l dC dI cI cL g tA oA uA wA sA np ne bd er vr oe ot x (by omega)) (cwV 1 hts (wg_V wk_P_165 wm_G_oddPoints we_G_oddPoints wi_G wc_G_oddPoints) rfl rfl rfl (by decide +kernel) ⟨Nat.le_of_ble_eq_true rfl, Nat.le_of_ble_eq_true rfl⟩) hK (hP.sub [1, 2, 3] rfl) (q0 := 0) rfl rfl rfl rfl hl.1 rfl (lv_room (Nat.le_of_ble_eq_true rfl)) d_P_syndrome_16 ⟨Nat.zero_le _, Nat.zero_le _⟩ hS hP (fun H locs hP hS => ?_)
    refine lv_goto (tgt := 23) hx hb d_P_syndrome_19 (by decide) ?_
    exact ro_iret hx hb hr hlocks hS (by first | (rw [if_pos c_8]; done) | (rw [c_8]; rfl)) d_P_syndrome_23
set_option maxHeartbeats 4000000 in
set_option maxRecDepth 100000 in
theorem c_P_isPairBefore (l : Launch) (dC : Nat → ClassId) (dI : Nat → Nat → Nat) (cI cL : ClassId) (pd g wy mt fo : Nat) (fi : Int32) (kp : Int64) (tA oA uA wA sA np ne : Nat) (bd : Int32) (er : Int64) (vr : Nat) (lA hA sz fw fk : Nat) (od : Int64) (tm le ho : Nat → Nat) (k t : Nat) (hnp : np ≤ 20) (hk : k < 10) (hle : le k < np) (hho : ho k < np) (ht : t < 2 ^ 31) (htm : ∀ i, i < 20 → tm i < 2 ^ 31) : Met l y_P_isPairBefore w_P_isPairBefore ({ frames := 2, cells := 0, slots := 0, locals := 43 } : Room) (va_Pc [.ref pd, .int (nI k), .int (nI t)] (ro_B (dC, dI) classes [(cI, .int), (cL, .long)] [cg_P pd g wy mt fo fi kp, cg_G g tA oA uA wA sA np ne bd er vr, cg_N tA cI 20 tm, cg_F fo lA hA sz fw fk od, cg_N lA cI 10 le, cg_N hA cI 10 ho])) (ro_Qi (nb_i (ng_early bd tm le ho k t))) 0 0 ro_A := by
  refine Met.ofW (cc := b_P_isPairBefore) (maxL := 3) (ret := (some .boolean)) (by decide) rfl ?_
  intro p e s m args below meth c s₁ B hml hv
  obtain ⟨rfl, hP, hK⟩ := hv
  have hx := B.exec
  have hb := B.bytes
  have hr := B.returns
  have hts := atoms_spec (ws := w_P_isPairBefore) B.pre
  have hown : s.vm.findClass R_P = some m.cls := findClass_of_methodNamed B.named
  have hlocks := B.notSynchronized
  have iP : ∀ w ∈ w_P, w ∈ w_P_isPairBefore := fun w h => List.mem_cons_of_mem _ (i_P w h)
  have iF : ∀ w ∈ w_F, w ∈ w_P_isPairBefore := fun w h => List.mem_cons_of_mem _ (i_F w h)
  have hS : va_S ro_A s.heap s.heap [] := va_S.rf
  have hP : va_P (dC, dI) classes [cg_P pd g wy mt fo fi kp, cg_G g tA oA uA wA sA np ne bd er vr, cg_N tA cI 20 tm, cg_F fo lA hA sz fw fk od, cg_N lA cI 10 le, cg_N hA cI 10 ho] s.heap := hP
  have hl := lv_entry ([.ref pd, .int (nI k), .int (nI t)]) (n := 3) (Nat.le_of_ble_eq_true rfl)
  rw [lg_entry_eq]
  generalize (lg_sl ([.ref pd, .int (nI k), .int (nI t)]) ++ List.replicate (3 - (lg_sl ([.ref pd, .int (nI k), .int (nI t)])).length) Slot.unset).toArray = ls at hl ⊢
  have hl : lv_has ls 3 [(0, .ref pd), (1, .int (nI k)), (2, .int (nI t))] := hl
  refine lv_aload_n hx hb d_P_isPairBefore_0 rfl (lv_at hl 0 rfl) ?_
  refine va_get (D := (dC, dI)) (ci := 4) (v := .ref g) (C := R_P) (T := F_P) (N := 6) hx hb hts iP hown hK hP 0 rfl rfl 0 (by decide) (hts _ (List.mem_cons_of_mem _ wk_P_10)) (fun _ h9 => h9) rfl d_P_isPairBefore_1 ?_
  refine lv_aload_n hx hb d_P_isPairBefore_4 rfl (lv_at hl 0 rfl) ?_
  refine va_get (D := (dC, dI)) (ci := 4) (v := .ref fo) (C := R_P) (T := F_P) (N := 6) hx hb hts iP hown hK hP 0 rfl rfl 3 (by decide) (hts _ (List.mem_cons_of_mem _ wk_P_37)) (fun _ h9 => h9) rfl d_P_isPairBefore_5 ?_
  refine va_get (D := (dC, dI)) (ci := 2) (v := .ref lA) (C := R_F) (T := F_F) (N := 6) hx hb hts iF hown hK hP 3 rfl rfl 0 (by decide) (hts _ (List.mem_cons_of_mem _ wk_P_144)) (fun _ h9 => h9) rfl d_P_isPairBefore_8 ?_
  refine lv_iload_n hx hb d_P_isPairBefore_11 rfl (lv_at hl 1 rfl) ?_
  refine nr_iald hx hb hK hP 4 0 rfl rfl (by omega) (by decide) d_P_isPairBefore_12 ?_
  refine lv_iload_n hx hb d_P_isPairBefore_13 rfl (lv_at hl 2 rfl) ?_
  refine ro_Vi (As := [.int (nI (le k)), .int (nI t)]) (rest := []) ⟨hx, hb, hml, hown, hts⟩ (c_G_isBefore l dC dI cI cL g tA oA uA wA sA np ne bd er vr tm (le k) t (by omega) (by omega) (by omega) htm) (cwV 2 hts (wg_V wk_P_192 wm_G_isBefore we_G_isBefore wi_G wc_G_isBefore) rfl rfl rfl (by decide +kernel) ⟨Nat.le_of_ble_eq_true rfl, Nat.le_of_ble_eq_true rfl⟩) hK (hP.sub [1, 2] rfl) (q0 := 0) rfl rfl rfl rfl hl.1 rfl (lv_room (Nat.le_of_ble_eq_true rfl)) d_P_isPairBefore_14 ⟨Nat.zero_le _, Nat.zero_le _⟩ hS hP (fun H locs hP hS => ?_)
  refine nr_ifeqB (tgt := 44) hx hb d_P_isPairBefore_17 (by decide) (fun c_17 => ?_) (fun c_17 => ?_)
  · refine lv_iconst (v := nI 0) hx hb d_P_isPairBefore_44 (by decide) ?_
    exact ro_zret hx hb hr hlocks hS rfl (by first | (rw [ng_early, c_17, c_37]; rfl) | (rw [ng_early, c_17]; rfl)) d_P_isPairBefore_45
  · refine lv_aload_n hx hb d_P_isPairBefore_20 rfl (lv_at hl 0 rfl) ?_
    refine va_get (D := (dC, dI)) (ci := 4) (v := .ref g) (C := R_P) (T := F_P) (N := 6) hx hb hts iP hown hK hP 0 rfl rfl 0 (by decide) (hts _ (List.mem_cons_of_mem _ wk_P_10)) (fun _ h9 => h9) rfl d_P_isPairBefore_21 ?_
    refine lv_aload_n hx hb d_P_isPairBefore_24 rfl (lv_at hl 0 rfl) ?_
    refine va_get (D := (dC, dI)) (ci := 4) (v := .ref fo) (C := R_P) (T := F_P) (N := 6) hx hb hts iP hown hK hP 0 rfl rfl 3 (by decide) (hts _ (List.mem_cons_of_mem _ wk_P_37)) (fun _ h9 => h9) rfl d_P_isPairBefore_25 ?_
    refine va_get (D := (dC, dI)) (ci := 2) (v := .ref hA) (C := R_F) (T := F_F) (N := 6) hx hb hts iF hown hK hP 3 rfl rfl 1 (by decide) (hts _ (List.mem_cons_of_mem _ wk_P_148)) (fun _ h9 => h9) rfl d_P_isPairBefore_28 ?_
    refine lv_iload_n hx hb d_P_isPairBefore_31 rfl (lv_at hl 1 rfl) ?_
    refine nr_iald hx hb hK hP 5 0 rfl rfl (by omega) (by decide) d_P_isPairBefore_32 ?_
    refine lv_iload_n hx hb d_P_isPairBefore_33 rfl (lv_at hl 2 rfl) ?_
    refine ro_Vi (As := [.int (nI (ho k)), .int (nI t)]) (rest := []) ⟨hx, hb, hml, hown, hts⟩ (c_G_isBefore l dC dI cI cL g tA oA uA wA sA np ne bd er vr tm (ho k) t (by omega) (by omega) (by omega) htm) (cwV 2 hts (wg_V wk_P_192 wm_G_isBefore we_G_isBefore wi_G wc_G_isBefore) rfl rfl rfl (by decide +kernel) ⟨Nat.le_of_ble_eq_true rfl, Nat.le_of_ble_eq_true rfl⟩) hK (hP.sub [1, 2] rfl) (q0 := 0) rfl rfl rfl rfl hl.1 rfl (lv_room (Nat.le_of_ble_eq_true rfl)) d_P_isPairBefore_34 ⟨Nat.zero_le _, Nat.zero_le _⟩ hS hP (fun H locs hP hS => ?_)
    refine nr_ifeqB (tgt := 44) hx hb d_P_isPairBefore_37 (by decide) (fun c_37 => ?_) (fun c_37 => ?_)
    · refine lv_iconst (v := nI 0) hx hb d_P_isPairBefore_44 (by decide) ?_
      exact ro_zret hx hb hr hlocks hS rfl (by first | (rw [ng_early, c_17, c_37]; rfl) | (rw [ng_early, c_17]; rfl)) d_P_isPairBefore_45
    · refine lv_iconst (v := nI 1) hx hb d_P_isPairBefore_40 (by decide) ?_
      refine lv_goto (tgt := 45) hx hb d_P_isPairBefore_41 (by decide) ?_
      exact ro_zret hx hb hr hlocks hS rfl (by first | (rw [ng_early, c_17, c_37]; rfl) | (rw [ng_early, c_17]; rfl)) d_P_isPairBefore_45
