set_option maxHeartbeats 4000000 in
set_option maxRecDepth 100000 in
theorem c_G_leastBoundary (l : Launch) (dC : Nat → ClassId) (dI : Nat → Nat → Nat) (cI cL : ClassId) (g tA oA uA wA sA np ne : Nat) (bd : Int32) (er : Int64) (vr : Nat)  : Met l y_G_leastBoundary w_G_leastBoundary ({ frames := 1, cells := 0, slots := 0, locals := 23 } : Room) (va_Pc [.ref g] (ro_Z (dC, dI) classes [(cI, .int), (cL, .long)] [cg_G g tA oA uA wA sA np ne bd er vr])) (ro_Qi (ng_nth bd 20 0 0)) 0 0 ro_A := by
  refine Met.ofW (cc := b_G_leastBoundary) (maxL := 1) (ret := (some .int)) (by decide) rfl ?_
  intro p e s m args below meth c s₁ B hml hv
  obtain ⟨rfl, ⟨hP, hK⟩, hnz⟩ := hv
  have hx := B.exec
  have hb := B.bytes
  have hr := B.returns
  have hts := atoms_spec (ws := w_G_leastBoundary) B.pre
  have hown : s.vm.findClass R_G = some m.cls := findClass_of_methodNamed B.named
  have hlocks := B.notSynchronized
  have iG : ∀ w ∈ w_G, w ∈ w_G_leastBoundary := fun w h => List.mem_cons_of_mem _ (i_G w h)
  have hS : va_S ro_A s.heap s.heap [] := va_S.rf
  have hP : va_P (dC, dI) classes [cg_G g tA oA uA wA sA np ne bd er vr] s.heap := hP
  have hl := lv_entry ([.ref g]) (n := 1) (Nat.le_of_ble_eq_true rfl)
  rw [lg_entry_eq]
  generalize (lg_sl ([.ref g]) ++ List.replicate (1 - (lg_sl ([.ref g])).length) Slot.unset).toArray = ls at hl ⊢
  have hl : lv_has ls 1 [(0, .ref g)] := hl
  refine lv_aload_n hx hb d_G_leastBoundary_0 rfl (lv_at hl 0 rfl) ?_
  refine va_get (D := (dC, dI)) (ci := 0) (v := .int bd) (C := R_G) (T := F_G) (N := 10) hx hb hts iG hown hK hP 0 rfl rfl 7 (by decide) (hts _ (List.mem_cons_of_mem _ wk_G_34)) (fun _ h9 => h9) rfl d_G_leastBoundary_1 ?_
  refine lv_iconst (v := nI 0) hx hb d_G_leastBoundary_4 (by decide) ?_
  refine ro_SNi (As := [.int bd, .int (nI 0)]) (rest := []) ⟨hx, hb, hml, hown, hts⟩ (c_P_memberOf l dC dI cI cL bd 0 (by omega)) ⟨va_cnB 2 hts (wg_I wc_P_memberOf) rfl rfl rfl hnz (hts _ (List.mem_cons_of_mem _ wi_P)) (by decide +kernel) ⟨Nat.le_of_ble_eq_true rfl, Nat.le_of_ble_eq_true rfl⟩, hts _ (List.mem_cons_of_mem _ ws_P_memberOf), trivial⟩ hK (hP.sub [] rfl) rfl hl.1 rfl (lv_room (Nat.le_of_ble_eq_true rfl)) d_G_leastBoundary_5 ⟨Nat.zero_le _, Nat.zero_le _⟩ hS hP (fun H locs hP hS => ?_)
  exact ro_iret hx hb hr hlocks hS rfl d_G_leastBoundary_8
set_option maxHeartbeats 4000000 in
set_option maxRecDepth 100000 in
theorem c_P_fire_ok (l : Launch) (dC : Nat → ClassId) (dI : Nat → Nat → Nat) (cI cL : ClassId) (pd g wy mt fo : Nat) (fi : Int32) (kp : Int64) (tA oA uA wA sA np ne : Nat) (bd : Int32) (er : Int64) (vr : Nat) (k : Nat) (b : Bool) (hnp : np ≤ 20) (hk : k < np) (hin : nb_t bd k = false) (hbb : nb_t fi k ≠ b) (hcn : b = true → dm_ct (fun i => nb_t fi i) 32 < 10) : Met l y_P_fire w_P_fire ({ frames := 1, cells := 0, slots := 0, locals := 21 } : Room) (va_Pc [.ref pd, .int (nI k), .int (nb_i b)] (rw_B (dC, dI) classes [(cI, .int), (cL, .long)] [cg_P pd g wy mt fo fi kp, cg_G g tA oA uA wA sA np ne bd er vr])) (rw_Qi (dC, dI) classes (rw_A [cg_P pd g wy mt fo fi kp, cg_G g tA oA uA wA sA np ne bd er vr]) (fun r (u : Unit) => r = nb_i true) (fun u => [cg_P pd g wy mt fo (fi ^^^ nb_o k) kp, cg_G g tA oA uA wA sA np ne bd er vr])) 0 0 (rw_A [cg_P pd g wy mt fo fi kp, cg_G g tA oA uA wA sA np ne bd er vr]) := by
  refine Met.ofW (cc := b_P_fire) (maxL := 3) (ret := (some .boolean)) (by decide) rfl ?_
  intro p e s m args below meth c s₁ B hml hv
  obtain ⟨rfl, hP, hK, hD0⟩ := hv
  have hx := B.exec
  have hb := B.bytes
  have hr := B.returns
  have hts := atoms_spec (ws := w_P_fire) B.pre
  have hown : s.vm.findClass R_P = some m.cls := findClass_of_methodNamed B.named
  have hlocks := B.notSynchronized
  have iP : ∀ w ∈ w_P, w ∈ w_P_fire := fun w h => List.mem_cons_of_mem _ (i_P w h)
  have hD := rw_own hD0
  generalize hAe : rw_A [cg_P pd g wy mt fo fi kp, cg_G g tA oA uA wA sA np ne bd er vr] = A at hD ⊢
  have hS : va_S A s.heap s.heap [] := va_S.rf
  have hP : va_P (dC, dI) classes [cg_P pd g wy mt fo fi kp, cg_G g tA oA uA wA sA np ne bd er vr] s.heap := hP
  have hl := lv_entry ([.ref pd, .int (nI k), .int (nb_i b)]) (n := 3) (Nat.le_of_ble_eq_true rfl)
  rw [lg_entry_eq]
  generalize (lg_sl ([.ref pd, .int (nI k), .int (nb_i b)]) ++ List.replicate (3 - (lg_sl ([.ref pd, .int (nI k), .int (nb_i b)])).length) Slot.unset).toArray = ls at hl ⊢
  have hl : lv_has ls 3 [(0, .ref pd), (1, .int (nI k)), (2, .int (nb_i b))] := hl
  have hpc := dm_ct_le (P := fun i => nb_t fi i) (n := 32)
  refine lv_aload_n hx hb d_P_fire_0 rfl (lv_at hl 0 rfl) ?_
  refine va_get (D := (dC, dI)) (ci := 4) (v := .ref g) (C := R_P) (T := F_P) (N := 6) hx hb hts iP hown hK hP 0 rfl rfl 0 (by decide) (hts _ (List.mem_cons_of_mem _ wk_P_10)) (fun _ h9 => h9) rfl d_P_fire_1 ?_
  refine lv_iload_n hx hb d_P_fire_4 rfl (lv_at hl 1 rfl) ?_
  refine ro_Vi (As := [.int (nI k)]) (rest := []) ⟨hx, hb, hml, hown, hts⟩ (c_G_hasPoint l dC dI cI cL g tA oA uA wA sA np ne bd er vr (nI k) ) (cwV 1 hts (wg_V wk_P_88 wm_G_hasPoint we_G_hasPoint wi_G wc_G_hasPoint) rfl rfl rfl (by decide +kernel) ⟨Nat.le_of_ble_eq_true rfl, Nat.le_of_ble_eq_true rfl⟩) hK (hP.sub [1] rfl) (q0 := 0) rfl rfl rfl rfl hl.1 rfl (lv_room (Nat.le_of_ble_eq_true rfl)) d_P_fire_5 ⟨Nat.zero_le _, Nat.zero_le _⟩ hS hP (fun H locs hP hS => ?_)
  refine nr_ifeqB (tgt := 31) hx hb d_P_fire_8 (by decide) (fun c_8 => ?_) (fun c_8 => ?_)
  · exact False.elim (by first | (rw [nb_inI_nI (by omega) (by omega), decide_eq_true hk] at c_8; cases c_8; done) | (rw [hin] at c_19; cases c_19; done) | exact hbb (nb_bI_inj c_28))
  · refine lv_aload_n hx hb d_P_fire_11 rfl (lv_at hl 0 rfl) ?_
    refine va_get (D := (dC, dI)) (ci := 4) (v := .ref g) (C := R_P) (T := F_P) (N := 6) hx hb hts iP hown hK hP 0 rfl rfl 0 (by decide) (hts _ (List.mem_cons_of_mem _ wk_P_10)) (fun _ h9 => h9) rfl d_P_fire_12 ?_
    refine lv_iload_n hx hb d_P_fire_15 rfl (lv_at hl 1 rfl) ?_
    refine ro_Vi (As := [.int (nI k)]) (rest := []) ⟨hx, hb, hml, hown, hts⟩ (c_G_isBoundary l dC dI cI cL g tA oA uA wA sA np ne bd er vr k (by omega)) (cwV 1 hts (wg_V wk_P_91 wm_G_isBoundary we_G_isBoundary wi_G wc_G_isBoundary) rfl rfl rfl (by decide +kernel) ⟨Nat.le_of_ble_eq_true rfl, Nat.le_of_ble_eq_true rfl⟩) hK (hP.sub [1] rfl) (q0 := 0) rfl rfl rfl rfl hl.1 rfl (lv_room (Nat.le_of_ble_eq_true rfl)) d_P_fire_16 ⟨Nat.zero_le _, Nat.zero_le _⟩ hS hP (fun H locs hP hS => ?_)
    refine nr_ifneB (tgt := 31) hx hb d_P_fire_19 (by decide) (fun c_19 => ?_) (fun c_19 => ?_)
    · exact False.elim (by first | (rw [nb_inI_nI (by omega) (by omega), decide_eq_true hk] at c_8; cases c_8; done) | (rw [hin] at c_19; cases c_19; done) | exact hbb (nb_bI_inj c_28))
    · refine lv_aload_n hx hb d_P_fire_22 rfl (lv_at hl 0 rfl) ?_
      refine lv_iload_n hx hb d_P_fire_23 rfl (lv_at hl 1 rfl) ?_
      refine ro_Vi (As := [.int (nI k)]) (rest := []) ⟨hx, hb, hml, hown, hts⟩ (c_P_isFired l dC dI cI cL pd g wy mt fo fi kp k (by omega)) (cwV 1 hts (wg_V wk_P_94 wm_P_isFired we_P_isFired wi_P wc_P_isFired) rfl rfl rfl (by decide +kernel) ⟨Nat.le_of_ble_eq_true rfl, Nat.le_of_ble_eq_true rfl⟩) hK (hP.sub [0] rfl) (q0 := 0) rfl rfl rfl rfl hl.1 rfl (lv_room (Nat.le_of_ble_eq_true rfl)) d_P_fire_24 ⟨Nat.zero_le _, Nat.zero_le _⟩ hS hP (fun H locs hP hS => ?_)
      refine lv_iload_n hx hb d_P_fire_27 rfl (lv_at hl 2 rfl) ?_
      refine lv_icmp_ne (tgt := 33) hx hb d_P_fire_28 (by decide) (fun c_28 => ?_) (fun c_28 => ?_)
      · refine lv_iload_n hx hb d_P_fire_33 rfl (lv_at hl 2 rfl) ?_
        refine nr_ifeqB (tgt := 51) hx hb d_P_fire_34 (by decide) (fun c_34 => ?_) (fun c_34 => ?_)
        · refine lv_aload_n hx hb d_P_fire_51 rfl (lv_at hl 0 rfl) ?_
          refine lv_dup hx hb d_P_fire_52 rfl ?_
          refine va_get (D := (dC, dI)) (ci := 4) (v := .int fi) (C := R_P) (T := F_P) (N := 6) hx hb hts iP hown hK hP 0 rfl rfl 4 (by decide) (hts _ (List.mem_cons_of_mem _ wk_P_41)) (fun _ h9 => h9) rfl d_P_fire_53 ?_
          refine lv_iconst (v := nI 1) hx hb d_P_fire_56 (by decide) ?_
          refine lv_iload_n hx hb d_P_fire_57 rfl (lv_at hl 1 rfl) ?_
          refine lv_ishl hx hb d_P_fire_58 ?_
          refine nr_as (v := nb_o k) rfl ?_
          refine lv_ixor hx hb d_P_fire_59 ?_
          refine va_put (D := (dC, dI)) (ci := 4) (v := .int (fi ^^^ (nb_o k))) (ty := .int) (C := R_P) (T := F_P) (N := 6) hx hb hts iP t_P t_P_ok n_P hown hK hP hD hS 0 rfl rfl 4 (by decide) (hts _ (List.mem_cons_of_mem _ wk_P_41)) (fun _ h9 => h9) rfl (by decide +kernel) rfl rfl (Nat.le_of_ble_eq_true rfl) d_P_fire_60 (fun H locs hP hD hS => ?_)
          have hP : va_P (dC, dI) classes [cg_P pd g wy mt fo (fi ^^^ (nb_o k)) kp, cg_G g tA oA uA wA sA np ne bd er vr] H := hP
          have hD : va_D A [cg_P pd g wy mt fo (fi ^^^ (nb_o k)) kp, cg_G g tA oA uA wA sA np ne bd er vr] := hD
          refine lv_iconst (v := nI 1) hx hb d_P_fire_63 (by decide) ?_
          exact rw_zret () (b := true) hx hb hr hlocks hS hP rfl rfl d_P_fire_64
        · refine lv_aload_n hx hb d_P_fire_37 rfl (lv_at hl 0 rfl) ?_
          refine va_get (D := (dC, dI)) (ci := 4) (v := .int fi) (C := R_P) (T := F_P) (N := 6) hx hb hts iP hown hK hP 0 rfl rfl 4 (by decide) (hts _ (List.mem_cons_of_mem _ wk_P_41)) (fun _ h9 => h9) rfl d_P_fire_38 ?_
          refine ro_Si (As := [.int fi]) (rest := []) ⟨hx, hb, hml, hown, hts⟩ (c_JI_bitCount l dC dI cI cL fi ) ⟨callB_of 1 hts (wg_I wc_JI_bitCount) rfl rfl rfl (hts _ (List.mem_cons_of_mem _ wi_JI)) (hts _ (List.mem_cons_of_mem _ wk_P_74)) (by decide +kernel) ⟨Nat.le_of_ble_eq_true rfl, Nat.le_of_ble_eq_true rfl⟩, hts _ (List.mem_cons_of_mem _ ws_JI_bitCount)⟩ hK (hP.sub [] rfl) rfl hl.1 rfl (lv_room (Nat.le_of_ble_eq_true rfl)) d_P_fire_41 ⟨Nat.zero_le _, Nat.zero_le _⟩ hS hP (fun H locs hP hS => ?_)
          refine lv_bipush (v := nI 10) hx hb d_P_fire_44 (by decide) ?_
          refine nr_icmp_lt (by omega) (by omega) (tgt := 51) hx hb d_P_fire_46 (by decide) (fun c_46 => ?_) (fun c_46 => ?_)
          · refine lv_aload_n hx hb d_P_fire_51 rfl (lv_at hl 0 rfl) ?_
            refine lv_dup hx hb d_P_fire_52 rfl ?_
            refine va_get (D := (dC, dI)) (ci := 4) (v := .int fi) (C := R_P) (T := F_P) (N := 6) hx hb hts iP hown hK hP 0 rfl rfl 4 (by decide) (hts _ (List.mem_cons_of_mem _ wk_P_41)) (fun _ h9 => h9) rfl d_P_fire_53 ?_
            refine lv_iconst (v := nI 1) hx hb d_P_fire_56 (by decide) ?_
            refine lv_iload_n hx hb d_P_fire_57 rfl (lv_at hl 1 rfl) ?_
            refine lv_ishl hx hb d_P_fire_58 ?_
            refine nr_as (v := nb_o k) rfl ?_
            refine lv_ixor hx hb d_P_fire_59 ?_
            refine va_put (D := (dC, dI)) (ci := 4) (v := .int (fi ^^^ (nb_o k))) (ty := .int) (C := R_P) (T := F_P) (N := 6) hx hb hts iP t_P t_P_ok n_P hown hK hP hD hS 0 rfl rfl 4 (by decide) (hts _ (List.mem_cons_of_mem _ wk_P_41)) (fun _ h9 => h9) rfl (by decide +kernel) rfl rfl (Nat.le_of_ble_eq_true rfl) d_P_fire_60 (fun H locs hP hD hS => ?_)
            have hP : va_P (dC, dI) classes [cg_P pd g wy mt fo (fi ^^^ (nb_o k)) kp, cg_G g tA oA uA wA sA np ne bd er vr] H := hP
            have hD : va_D A [cg_P pd g wy mt fo (fi ^^^ (nb_o k)) kp, cg_G g tA oA uA wA sA np ne bd er vr] := hD
            refine lv_iconst (v := nI 1) hx hb d_P_fire_63 (by decide) ?_
            exact rw_zret () (b := true) hx hb hr hlocks hS hP rfl rfl d_P_fire_64
          · exact False.elim (by have := hcn c_34; omega)
      · exact False.elim (by first | (rw [nb_inI_nI (by omega) (by omega), decide_eq_true hk] at c_8; cases c_8; done) | (rw [hin] at c_19; cases c_19; done) | exact hbb (nb_bI_inj c_28))
set_option maxHeartbeats 4000000 in
set_option maxRecDepth 100000 in
theorem c_P_fire_no (l : Launch) (dC : Nat → ClassId) (dI : Nat → Nat → Nat) (cI cL : ClassId) (pd g wy mt fo : Nat) (fi : Int32) (kp : Int64) (tA oA uA wA sA np ne : Nat) (bd : Int32) (er : Int64) (vr : Nat) (k : Int32) (b : Bool) (hnp : np ≤ 20) (hno : ∀ j, j < np → k = nI j → nb_t bd j = true ∨ nb_t fi j = b ∨ (b = true ∧ 10 ≤ dm_ct (fun i => nb_t fi i) 32)) : Met l y_P_fire w_P_fire ({ frames := 1, cells := 0, slots := 0, locals := 21 } : Room) (va_Pc [.ref pd, .int k, .int (nb_i b)] (ro_B (dC, dI) classes [(cI, .int), (cL, .long)] [cg_P pd g wy mt fo fi kp, cg_G g tA oA uA wA sA np ne bd er vr])) (ro_Qi (nb_i false)) 0 0 ro_A := by
  refine Met.ofW (cc := b_P_fire) (maxL := 3) (ret := (some .boolean)) (by decide) rfl ?_
  intro p e s m args below meth c s₁ B hml hv
  obtain ⟨rfl, hP, hK⟩ := hv
  have hx := B.exec
  have hb := B.bytes
  have hr := B.returns
  have hts := atoms_spec (ws := w_P_fire) B.pre
  have hown : s.vm.findClass R_P = some m.cls := findClass_of_methodNamed B.named
  have hlocks := B.notSynchronized
  have iP : ∀ w ∈ w_P, w ∈ w_P_fire := fun w h => List.mem_cons_of_mem _ (i_P w h)
  have hS : va_S ro_A s.heap s.heap [] := va_S.rf
  have hP : va_P (dC, dI) classes [cg_P pd g wy mt fo fi kp, cg_G g tA oA uA wA sA np ne bd er vr] s.heap := hP
  have hl := lv_entry ([.ref pd, .int k, .int (nb_i b)]) (n := 3) (Nat.le_of_ble_eq_true rfl)
  rw [lg_entry_eq]
  generalize (lg_sl ([.ref pd, .int k, .int (nb_i b)]) ++ List.replicate (3 - (lg_sl ([.ref pd, .int k, .int (nb_i b)])).length) Slot.unset).toArray = ls at hl ⊢
  have hl : lv_has ls 3 [(0, .ref pd), (1, .int k), (2, .int (nb_i b))] := hl
  have hpc := dm_ct_le (P := fun i => nb_t fi i) (n := 32)
  refine lv_aload_n hx hb d_P_fire_0 rfl (lv_at hl 0 rfl) ?_
  refine va_get (D := (dC, dI)) (ci := 4) (v := .ref g) (C := R_P) (T := F_P) (N := 6) hx hb hts iP hown hK hP 0 rfl rfl 0 (by decide) (hts _ (List.mem_cons_of_mem _ wk_P_10)) (fun _ h9 => h9) rfl d_P_fire_1 ?_
  refine lv_iload_n hx hb d_P_fire_4 rfl (lv_at hl 1 rfl) ?_
  refine ro_Vi (As := [.int k]) (rest := []) ⟨hx, hb, hml, hown, hts⟩ (c_G_hasPoint l dC dI cI cL g tA oA uA wA sA np ne bd er vr k ) (cwV 1 hts (wg_V wk_P_88 wm_G_hasPoint we_G_hasPoint wi_G wc_G_hasPoint) rfl rfl rfl (by decide +kernel) ⟨Nat.le_of_ble_eq_true rfl, Nat.le_of_ble_eq_true rfl⟩) hK (hP.sub [1] rfl) (q0 := 0) rfl rfl rfl rfl hl.1 rfl (lv_room (Nat.le_of_ble_eq_true rfl)) d_P_fire_5 ⟨Nat.zero_le _, Nat.zero_le _⟩ hS hP (fun H locs hP hS => ?_)
  refine nr_ifeqB (tgt := 31) hx hb d_P_fire_8 (by decide) (fun c_8 => ?_) (fun c_8 => ?_)
  · refine lv_iconst (v := nI 0) hx hb d_P_fire_31 (by decide) ?_
    exact ro_zret hx hb hr hlocks hS rfl rfl d_P_fire_32
  · obtain ⟨j, hj, rfl⟩ := nb_inI_of (by omega) c_8
    refine lv_aload_n hx hb d_P_fire_11 rfl (lv_at hl 0 rfl) ?_
    refine va_get (D := (dC, dI)) (ci := 4) (v := .ref g) (C := R_P) (T := F_P) (N := 6) hx hb hts iP hown hK hP 0 rfl rfl 0 (by decide) (hts _ (List.mem_cons_of_mem _ wk_P_10)) (fun _ h9 => h9) rfl d_P_fire_12 ?_
    refine lv_iload_n hx hb d_P_fire_15 rfl (lv_at hl 1 rfl) ?_
    refine ro_Vi (As := [.int (nI j)]) (rest := []) ⟨hx, hb, hml, hown, hts⟩ (c_G_isBoundary l dC dI cI cL g tA oA uA wA sA np ne bd er vr j (by omega)) (cwV 1 hts (wg_V wk_P_91 wm_G_isBoundary we_G_isBoundary wi_G wc_G_isBoundary) rfl rfl rfl (by decide +kernel) ⟨Nat.le_of_ble_eq_true rfl, Nat.le_of_ble_eq_true rfl⟩) hK (hP.sub [1] rfl) (q0 := 0) rfl rfl rfl rfl hl.1 rfl (lv_room (Nat.le_of_ble_eq_true rfl)) d_P_fire_16 ⟨Nat.zero_le _, Nat.zero_le _⟩ hS hP (fun H locs hP hS => ?_)
    refine nr_ifneB (tgt := 31) hx hb d_P_fire_19 (by decide) (fun c_19 => ?_) (fun c_19 => ?_)
    · refine lv_iconst (v := nI 0) hx hb d_P_fire_31 (by decide) ?_
      exact ro_zret hx hb hr hlocks hS rfl rfl d_P_fire_32
    · refine lv_aload_n hx hb d_P_fire_22 rfl (lv_at hl 0 rfl) ?_
      refine lv_iload_n hx hb d_P_fire_23 rfl (lv_at hl 1 rfl) ?_
      refine ro_Vi (As := [.int (nI j)]) (rest := []) ⟨hx, hb, hml, hown, hts⟩ (c_P_isFired l dC dI cI cL pd g wy mt fo fi kp j (by omega)) (cwV 1 hts (wg_V wk_P_94 wm_P_isFired we_P_isFired wi_P wc_P_isFired) rfl rfl rfl (by decide +kernel) ⟨Nat.le_of_ble_eq_true rfl, Nat.le_of_ble_eq_true rfl⟩) hK (hP.sub [0] rfl) (q0 := 0) rfl rfl rfl rfl hl.1 rfl (lv_room (Nat.le_of_ble_eq_true rfl)) d_P_fire_24 ⟨Nat.zero_le _, Nat.zero_le _⟩ hS hP (fun H locs hP hS => ?_)
      refine lv_iload_n hx hb d_P_fire_27 rfl (lv_at hl 2 rfl) ?_
      refine lv_icmp_ne (tgt := 33) hx hb d_P_fire_28 (by decide) (fun c_28 => ?_) (fun c_28 => ?_)
      · refine lv_iload_n hx hb d_P_fire_33 rfl (lv_at hl 2 rfl) ?_
        refine nr_ifeqB (tgt := 51) hx hb d_P_fire_34 (by decide) (fun c_34 => ?_) (fun c_34 => ?_)
        · exact False.elim (by rcases hno j hj rfl with q | q | q; (rw [c_19] at q; cases q); (exact c_28 (by rw [q])); first | (rw [c_34] at q; cases q.1; done) | omega)
        · refine lv_aload_n hx hb d_P_fire_37 rfl (lv_at hl 0 rfl) ?_
          refine va_get (D := (dC, dI)) (ci := 4) (v := .int fi) (C := R_P) (T := F_P) (N := 6) hx hb hts iP hown hK hP 0 rfl rfl 4 (by decide) (hts _ (List.mem_cons_of_mem _ wk_P_41)) (fun _ h9 => h9) rfl d_P_fire_38 ?_
          refine ro_Si (As := [.int fi]) (rest := []) ⟨hx, hb, hml, hown, hts⟩ (c_JI_bitCount l dC dI cI cL fi ) ⟨callB_of 1 hts (wg_I wc_JI_bitCount) rfl rfl rfl (hts _ (List.mem_cons_of_mem _ wi_JI)) (hts _ (List.mem_cons_of_mem _ wk_P_74)) (by decide +kernel) ⟨Nat.le_of_ble_eq_true rfl, Nat.le_of_ble_eq_true rfl⟩, hts _ (List.mem_cons_of_mem _ ws_JI_bitCount)⟩ hK (hP.sub [] rfl) rfl hl.1 rfl (lv_room (Nat.le_of_ble_eq_true rfl)) d_P_fire_41 ⟨Nat.zero_le _, Nat.zero_le _⟩ hS hP (fun H locs hP hS => ?_)
          refine lv_bipush (v := nI 10) hx hb d_P_fire_44 (by decide) ?_
          refine nr_icmp_lt (by omega) (by omega) (tgt := 51) hx hb d_P_fire_46 (by decide) (fun c_46 => ?_) (fun c_46 => ?_)
          · exact False.elim (by rcases hno j hj rfl with q | q | q; (rw [c_19] at q; cases q); (exact c_28 (by rw [q])); first | (rw [c_34] at q; cases q.1; done) | omega)
          · refine lv_iconst (v := nI 0) hx hb d_P_fire_49 (by decide) ?_
            exact ro_zret hx hb hr hlocks hS rfl rfl d_P_fire_50
      · refine lv_iconst (v := nI 0) hx hb d_P_fire_31 (by decide) ?_
        exact ro_zret hx hb hr hlocks hS rfl rfl d_P_fire_32
