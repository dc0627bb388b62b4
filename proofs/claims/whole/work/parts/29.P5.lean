set_option maxHeartbeats 4000000 in
set_option maxRecDepth 100000 in
theorem c_P_total (l : Launch) (dC : Nat → ClassId) (dI : Nat → Nat → Nat) (cI cL : ClassId) (pd g wy mt fo : Nat) (fi : Int32) (kp : Int64) (tA oA uA wA sA np ne : Nat) (bd : Int32) (er : Int64) (vr : Nat) (lA hA sz fw fk : Nat) (od : Int64) (x : Int32)  : Met l y_P_total w_P_total ({ frames := 1, cells := 0, slots := 0, locals := 21 } : Room) (va_Pc [.ref pd, .int x] (ro_B (dC, dI) classes [(cI, .int), (cL, .long)] [cg_P pd g wy mt fo fi kp, cg_G g tA oA uA wA sA np ne bd er vr, cg_F fo lA hA sz fw fk od])) (ro_Qi (ng_tot np ne fi sz er x)) 0 0 ro_A := by
  refine Met.ofW (cc := b_P_total) (maxL := 2) (ret := (some .int)) (by decide) rfl ?_
  intro p e s m args below meth c s₁ B hml hv
  obtain ⟨rfl, hP, hK⟩ := hv
  have hx := B.exec
  have hb := B.bytes
  have hr := B.returns
  have hts := atoms_spec (ws := w_P_total) B.pre
  have hown : s.vm.findClass R_P = some m.cls := findClass_of_methodNamed B.named
  have hlocks := B.notSynchronized
  have iP : ∀ w ∈ w_P, w ∈ w_P_total := fun w h => List.mem_cons_of_mem _ (i_P w h)
  have iG : ∀ w ∈ w_G, w ∈ w_P_total := fun w h => List.mem_cons_of_mem _ (i_G w h)
  have iF : ∀ w ∈ w_F, w ∈ w_P_total := fun w h => List.mem_cons_of_mem _ (i_F w h)
  have hS : va_S ro_A s.heap s.heap [] := va_S.rf
  have hP : va_P (dC, dI) classes [cg_P pd g wy mt fo fi kp, cg_G g tA oA uA wA sA np ne bd er vr, cg_F fo lA hA sz fw fk od] s.heap := hP
  have hl := lv_entry ([.ref pd, .int x]) (n := 2) (Nat.le_of_ble_eq_true rfl)
  rw [lg_entry_eq]
  generalize (lg_sl ([.ref pd, .int x]) ++ List.replicate (2 - (lg_sl ([.ref pd, .int x])).length) Slot.unset).toArray = ls at hl ⊢
  have hl : lv_has ls 2 [(0, .ref pd), (1, .int x)] := hl
  refine lv_iload_n hx hb d_P_total_0 rfl (lv_at hl 1 rfl) ?_
  rcases ng_sw5 x with hsw | hsw | hsw | hsw | hsw | hsw
  · refine nr_as (v := nI 0) hsw ?_
    refine lv_tableIn (tgt := 36) hx hb d_P_total_1 (by decide) (by decide) rfl (by decide) ?_
    refine lv_aload_n hx hb d_P_total_36 rfl (lv_at hl 0 rfl) ?_
    refine va_get (D := (dC, dI)) (ci := 4) (v := .ref g) (C := R_P) (T := F_P) (N := 6) hx hb hts iP hown hK hP 0 rfl rfl 0 (by decide) (hts _ (List.mem_cons_of_mem _ wk_P_10)) (fun _ h9 => h9) rfl d_P_total_37 ?_
    refine va_get (D := (dC, dI)) (ci := 0) (v := .int (nI np)) (C := R_G) (T := F_G) (N := 10) hx hb hts iG hown hK hP 1 rfl rfl 5 (by decide) (hts _ (List.mem_cons_of_mem _ wk_P_49)) (fun _ h9 => h9) rfl d_P_total_40 ?_
    exact ro_iret hx hb hr hlocks hS (by rw [hsw]; rfl) d_P_total_43
  · refine nr_as (v := nI 1) hsw ?_
    refine lv_tableIn (tgt := 44) hx hb d_P_total_1 (by decide) (by decide) rfl (by decide) ?_
    refine lv_aload_n hx hb d_P_total_44 rfl (lv_at hl 0 rfl) ?_
    refine va_get (D := (dC, dI)) (ci := 4) (v := .ref g) (C := R_P) (T := F_P) (N := 6) hx hb hts iP hown hK hP 0 rfl rfl 0 (by decide) (hts _ (List.mem_cons_of_mem _ wk_P_10)) (fun _ h9 => h9) rfl d_P_total_45 ?_
    refine va_get (D := (dC, dI)) (ci := 0) (v := .int (nI ne)) (C := R_G) (T := F_G) (N := 10) hx hb hts iG hown hK hP 1 rfl rfl 6 (by decide) (hts _ (List.mem_cons_of_mem _ wk_P_174)) (fun _ h9 => h9) rfl d_P_total_48 ?_
    exact ro_iret hx hb hr hlocks hS (by rw [hsw]; rfl) d_P_total_51
  · refine nr_as (v := nI 2) hsw ?_
    refine lv_tableIn (tgt := 52) hx hb d_P_total_1 (by decide) (by decide) rfl (by decide) ?_
    refine lv_aload_n hx hb d_P_total_52 rfl (lv_at hl 0 rfl) ?_
    refine va_get (D := (dC, dI)) (ci := 4) (v := .int fi) (C := R_P) (T := F_P) (N := 6) hx hb hts iP hown hK hP 0 rfl rfl 4 (by decide) (hts _ (List.mem_cons_of_mem _ wk_P_41)) (fun _ h9 => h9) rfl d_P_total_53 ?_
    exact ro_iret hx hb hr hlocks hS (by rw [hsw]; rfl) d_P_total_56
  · refine nr_as (v := nI 3) hsw ?_
    refine lv_tableIn (tgt := 57) hx hb d_P_total_1 (by decide) (by decide) rfl (by decide) ?_
    refine lv_aload_n hx hb d_P_total_57 rfl (lv_at hl 0 rfl) ?_
    refine va_get (D := (dC, dI)) (ci := 4) (v := .ref fo) (C := R_P) (T := F_P) (N := 6) hx hb hts iP hown hK hP 0 rfl rfl 3 (by decide) (hts _ (List.mem_cons_of_mem _ wk_P_37)) (fun _ h9 => h9) rfl d_P_total_58 ?_
    refine va_get (D := (dC, dI)) (ci := 2) (v := .int (nI sz)) (C := R_F) (T := F_F) (N := 6) hx hb hts iF hown hK hP 2 rfl rfl 2 (by decide) (hts _ (List.mem_cons_of_mem _ wk_P_141)) (fun _ h9 => h9) rfl d_P_total_61 ?_
    exact ro_iret hx hb hr hlocks hS (by rw [hsw]; rfl) d_P_total_64
  · refine nr_as (v := nI 4) hsw ?_
    refine lv_tableIn (tgt := 65) hx hb d_P_total_1 (by decide) (by decide) rfl (by decide) ?_
    refine lv_aload_n hx hb d_P_total_65 rfl (lv_at hl 0 rfl) ?_
    refine va_get (D := (dC, dI)) (ci := 4) (v := .ref g) (C := R_P) (T := F_P) (N := 6) hx hb hts iP hown hK hP 0 rfl rfl 0 (by decide) (hts _ (List.mem_cons_of_mem _ wk_P_10)) (fun _ h9 => h9) rfl d_P_total_66 ?_
    refine va_get (D := (dC, dI)) (ci := 0) (v := .long er) (C := R_G) (T := F_G) (N := 10) hx hb hts iG hown hK hP 1 rfl rfl 8 (by decide) (hts _ (List.mem_cons_of_mem _ wk_P_177)) (fun _ h9 => h9) rfl d_P_total_69 ?_
    refine ro_Si (As := [.long er]) (rest := []) ⟨hx, hb, hml, hown, hts⟩ (c_JL_bitCount l dC dI cI cL er ) ⟨callB_of 1 hts (wg_I wc_JL_bitCount) rfl rfl rfl (hts _ (List.mem_cons_of_mem _ wi_JL)) (hts _ (List.mem_cons_of_mem _ wk_P_180)) (by decide +kernel) ⟨Nat.le_of_ble_eq_true rfl, Nat.le_of_ble_eq_true rfl⟩, hts _ (List.mem_cons_of_mem _ ws_JL_bitCount)⟩ hK (hP.sub [] rfl) rfl hl.1 rfl (lv_room (Nat.le_of_ble_eq_true rfl)) d_P_total_72 ⟨Nat.zero_le _, Nat.zero_le _⟩ hS hP (fun H locs hP hS => ?_)
    exact ro_iret hx hb hr hlocks hS (by rw [hsw]; rfl) d_P_total_75
  · refine lv_tableOut (tgt := 76) hx hb d_P_total_1 hsw (by decide) ?_
    refine lv_iconst (v := -1) hx hb d_P_total_76 (by decide) ?_
    exact ro_iret hx hb hr hlocks hS ((ng_tot_d hsw).symm) d_P_total_77
set_option maxHeartbeats 4000000 in
set_option maxRecDepth 100000 in
theorem c_P_fault_ok (l : Launch) (dC : Nat → ClassId) (dI : Nat → Nat → Nat) (cI cL : ClassId) (pd g wy mt fo : Nat) (fi : Int32) (kp : Int64) (tA oA uA wA sA np ne : Nat) (bd : Int32) (er : Int64) (vr : Nat) (oe ot wt sg : Nat → Nat) (x : Int32) (jp jq jr js w z : Nat) (hnp : np ≤ 20) (hfit : ng_fit np x = true) (hcn : dm_ct (fun i => nb_t x i) 32 = 3 ∨ dm_ct (fun i => nb_t x i) 32 = 4) (hp : ng_nth x 20 0 0 = nI jp) (hq : ng_nth x 20 0 1 = nI jq) (hr1 : ng_nth x 20 0 2 = nI jr) (hs : (if dm_ct (fun i => nb_t x i) 32 = 4 then ng_nth x 20 0 3 else ng_nth bd 20 0 0) = nI js) (hj1 : ng_join np bd (nI jp) (nI jq) = true) (hj2 : ng_join np bd (nI jr) (nI js) = true) (hv : ng_ev (nI w) (nI z) = true) (hne : ne + 2 ≤ 60) : Met l y_P_fault w_P_fault ({ frames := 2, cells := 0, slots := 0, locals := 43 } : Room) (va_Pc [.ref pd, .int x, .int (nI w), .int (nI z)] (rw_Z (dC, dI) classes [(cI, .int), (cL, .long)] [cg_P pd g wy mt fo fi kp, cg_G g tA oA uA wA sA np ne bd er vr, cg_N oA cI 60 oe, cg_N uA cI 60 ot, cg_N wA cI 60 wt, cg_N sA cI 60 sg])) (rw_Qi (dC, dI) classes (rw_A [cg_P pd g wy mt fo fi kp, cg_G g tA oA uA wA sA np ne bd er vr, cg_N oA cI 60 oe, cg_N uA cI 60 ot, cg_N wA cI 60 wt, cg_N sA cI 60 sg]) (fun r (u : Unit) => r = (nI ne)) (fun u => [cg_P pd g wy mt fo fi kp, cg_G g tA oA uA wA sA np (ne + 1 + 1) bd er (vr + 1 + 1), cg_N oA cI 60 (va_up (va_up oe ne jp) (ne + 1) jr), cg_N uA cI 60 (va_up (va_up ot ne jq) (ne + 1) js), cg_N wA cI 60 (va_up (va_up wt ne w) (ne + 1) 0), cg_N sA cI 60 (va_up (va_up sg ne z) (ne + 1) 0)])) 0 0 (rw_A [cg_P pd g wy mt fo fi kp, cg_G g tA oA uA wA sA np ne bd er vr, cg_N oA cI 60 oe, cg_N uA cI 60 ot, cg_N wA cI 60 wt, cg_N sA cI 60 sg]) := by
  refine Met.ofW (cc := b_P_fault) (maxL := 10) (ret := (some .int)) (by decide) rfl ?_
  intro p e s m args below meth c s₁ B hml hv
  obtain ⟨rfl, ⟨hP, hK, hD0⟩, hnz⟩ := hv
  have hx := B.exec
  have hb := B.bytes
  have hr := B.returns
  have hts := atoms_spec (ws := w_P_fault) B.pre
  have hown : s.vm.findClass R_P = some m.cls := findClass_of_methodNamed B.named
  have hlocks := B.notSynchronized
  have iP : ∀ w ∈ w_P, w ∈ w_P_fault := fun w h => List.mem_cons_of_mem _ (i_P w h)
  have hD := rw_own hD0
  generalize hAe : rw_A [cg_P pd g wy mt fo fi kp, cg_G g tA oA uA wA sA np ne bd er vr, cg_N oA cI 60 oe, cg_N uA cI 60 ot, cg_N wA cI 60 wt, cg_N sA cI 60 sg] = A at hD ⊢
  have hS : va_S A s.heap s.heap [] := va_S.rf
  have hP : va_P (dC, dI) classes [cg_P pd g wy mt fo fi kp, cg_G g tA oA uA wA sA np ne bd er vr, cg_N oA cI 60 oe, cg_N uA cI 60 ot, cg_N wA cI 60 wt, cg_N sA cI 60 sg] s.heap := hP
  have hl := lv_entry ([.ref pd, .int x, .int (nI w), .int (nI z)]) (n := 10) (Nat.le_of_ble_eq_true rfl)
  rw [lg_entry_eq]
  generalize (lg_sl ([.ref pd, .int x, .int (nI w), .int (nI z)]) ++ List.replicate (10 - (lg_sl ([.ref pd, .int x, .int (nI w), .int (nI z)])).length) Slot.unset).toArray = ls at hl ⊢
  have hl : lv_has ls 10 [(0, .ref pd), (1, .int x), (2, .int (nI w)), (3, .int (nI z))] := hl
  have hpc := dm_ct_le (P := fun i => nb_t x i) (n := 32)
  refine lv_aload_n hx hb d_P_fault_0 rfl (lv_at hl 0 rfl) ?_
  refine va_get (D := (dC, dI)) (ci := 4) (v := .ref g) (C := R_P) (T := F_P) (N := 6) hx hb hts iP hown hK hP 0 rfl rfl 0 (by decide) (hts _ (List.mem_cons_of_mem _ wk_P_10)) (fun _ h9 => h9) rfl d_P_fault_1 ?_
  refine lv_iload_n hx hb d_P_fault_4 rfl (lv_at hl 1 rfl) ?_
  refine ro_Vi (As := [.int x]) (rest := []) ⟨hx, hb, hml, hown, hts⟩ (c_G_hasPoints l dC dI cI cL g tA oA uA wA sA np ne bd er vr x ) (cwV 1 hts (wg_V wk_P_71 wm_G_hasPoints we_G_hasPoints wi_G wc_G_hasPoints) rfl rfl rfl (by decide +kernel) ⟨Nat.le_of_ble_eq_true rfl, Nat.le_of_ble_eq_true rfl⟩) hK (hP.sub [1] rfl) (q0 := 0) rfl rfl rfl rfl hl.1 rfl (lv_room (Nat.le_of_ble_eq_true rfl)) d_P_fault_5 ⟨Nat.zero_le _, Nat.zero_le _⟩ hS hP (fun H locs hP hS => ?_)
  refine nr_ifeqB (tgt := 18) hx hb d_P_fault_8 (by decide) (fun c_8 => ?_) (fun c_8 => ?_)
  · exact absurd hfit (by rw [c_8]; decide)
  · refine lv_iload_n hx hb d_P_fault_11 rfl (lv_at hl 1 rfl) ?_
    refine ro_Si (As := [.int x]) (rest := []) ⟨hx, hb, hml, hown, hts⟩ (c_JI_bitCount l dC dI cI cL x ) ⟨callB_of 1 hts (wg_I wc_JI_bitCount) rfl rfl rfl (hts _ (List.mem_cons_of_mem _ wi_JI)) (hts _ (List.mem_cons_of_mem _ wk_P_74)) (by decide +kernel) ⟨Nat.le_of_ble_eq_true rfl, Nat.le_of_ble_eq_true rfl⟩, hts _ (List.mem_cons_of_mem _ ws_JI_bitCount)⟩ hK (hP.sub [] rfl) rfl hl.1 rfl (lv_room (Nat.le_of_ble_eq_true rfl)) d_P_fault_12 ⟨Nat.zero_le _, Nat.zero_le _⟩ hS hP (fun H locs hP hS => ?_)
    refine lv_goto (tgt := 19) hx hb d_P_fault_15 (by decide) ?_
    refine lv_istore (lv' := [(4, .int (nI (dm_ct (fun i => nb_t x i) 32))), (0, .ref pd), (1, .int x), (2, .int (nI w)), (3, .int (nI z))]) hx hb d_P_fault_19 hl (by decide) rfl (fun ls hl => ?_)
    refine lv_iload hx hb d_P_fault_21 (lv_at hl 0 rfl) ?_
    refine lv_iconst (v := nI 3) hx hb d_P_fault_23 (by decide) ?_
    refine nr_icmp_eq (by omega) (by omega) (tgt := 35) hx hb d_P_fault_24 (by decide) (fun c_24 => ?_) (fun c_24 => ?_)
    · refine lv_iload_n hx hb d_P_fault_35 rfl (lv_at hl 2 rfl) ?_
      refine lv_iconst (v := nI 0) hx hb d_P_fault_36 (by decide) ?_
      refine ro_Si (As := [.int x, .int (nI 0)]) (rest := []) ⟨hx, hb, hml, hown, hts⟩ (c_P_memberOf l dC dI cI cL x 0 (by omega)) (cwS 2 hts (wg_S wk_P_80 ws_P_memberOf wi_P wc_P_memberOf) rfl rfl rfl (by decide +kernel) ⟨Nat.le_of_ble_eq_true rfl, Nat.le_of_ble_eq_true rfl⟩) hK (hP.sub [] rfl) rfl hl.1 rfl (lv_room (Nat.le_of_ble_eq_true rfl)) d_P_fault_37 ⟨Nat.zero_le _, Nat.zero_le _⟩ hS hP (fun H locs hP hS => ?_)
      rw [hp]
      refine lv_istore (lv' := [(5, .int (nI jp)), (4, .int (nI (dm_ct (fun i => nb_t x i) 32))), (0, .ref pd), (1, .int x), (2, .int (nI w)), (3, .int (nI z))]) hx hb d_P_fault_40 hl (by decide) rfl (fun ls hl => ?_)
      refine lv_iload_n hx hb d_P_fault_42 rfl (lv_at hl 3 rfl) ?_
      refine lv_iconst (v := nI 1) hx hb d_P_fault_43 (by decide) ?_
      refine ro_Si (As := [.int x, .int (nI 1)]) (rest := []) ⟨hx, hb, hml, hown, hts⟩ (c_P_memberOf l dC dI cI cL x 1 (by omega)) (cwS 2 hts (wg_S wk_P_80 ws_P_memberOf wi_P wc_P_memberOf) rfl rfl rfl (by decide +kernel) ⟨Nat.le_of_ble_eq_true rfl, Nat.le_of_ble_eq_true rfl⟩) hK (hP.sub [] rfl) rfl hl.1 rfl (lv_room (Nat.le_of_ble_eq_true rfl)) d_P_fault_44 ⟨Nat.zero_le _, Nat.zero_le _⟩ hS hP (fun H locs hP hS => ?_)
      rw [hq]
      refine lv_istore (lv' := [(6, .int (nI jq)), (5, .int (nI jp)), (4, .int (nI (dm_ct (fun i => nb_t x i) 32))), (0, .ref pd), (1, .int x), (2, .int (nI w)), (3, .int (nI z))]) hx hb d_P_fault_47 hl (by decide) rfl (fun ls hl => ?_)
      refine lv_iload_n hx hb d_P_fault_49 rfl (lv_at hl 4 rfl) ?_
      refine lv_iconst (v := nI 2) hx hb d_P_fault_50 (by decide) ?_
      refine ro_Si (As := [.int x, .int (nI 2)]) (rest := []) ⟨hx, hb, hml, hown, hts⟩ (c_P_memberOf l dC dI cI cL x 2 (by omega)) (cwS 2 hts (wg_S wk_P_80 ws_P_memberOf wi_P wc_P_memberOf) rfl rfl rfl (by decide +kernel) ⟨Nat.le_of_ble_eq_true rfl, Nat.le_of_ble_eq_true rfl⟩) hK (hP.sub [] rfl) rfl hl.1 rfl (lv_room (Nat.le_of_ble_eq_true rfl)) d_P_fault_51 ⟨Nat.zero_le _, Nat.zero_le _⟩ hS hP (fun H locs hP hS => ?_)
      rw [hr1]
      refine lv_istore (lv' := [(7, .int (nI jr)), (6, .int (nI jq)), (5, .int (nI jp)), (4, .int (nI (dm_ct (fun i => nb_t x i) 32))), (0, .ref pd), (1, .int x), (2, .int (nI w)), (3, .int (nI z))]) hx hb d_P_fault_54 hl (by decide) rfl (fun ls hl => ?_)
      refine lv_iload hx hb d_P_fault_56 (lv_at hl 3 rfl) ?_
      refine lv_iconst (v := nI 4) hx hb d_P_fault_58 (by decide) ?_
      refine nr_icmp_ne (by omega) (by omega) (tgt := 70) hx hb d_P_fault_59 (by decide) (fun c_59 => ?_) (fun c_59 => ?_)
      · have hs2 := hs
        rw [if_neg c_59] at hs2
        refine lv_aload_n hx hb d_P_fault_70 rfl (lv_at hl 4 rfl) ?_
        refine va_get (D := (dC, dI)) (ci := 4) (v := .ref g) (C := R_P) (T := F_P) (N := 6) hx hb hts iP hown hK hP 0 rfl rfl 0 (by decide) (hts _ (List.mem_cons_of_mem _ wk_P_10)) (fun _ h9 => h9) rfl d_P_fault_71 ?_
        refine ro_ViZ (As := []) (rest := []) ⟨hx, hb, hml, hown, hts⟩ (c_G_leastBoundary l dC dI cI cL g tA oA uA wA sA np ne bd er vr ) (cwV 0 hts (wg_V wk_P_84 wm_G_leastBoundary we_G_leastBoundary wi_G wc_G_leastBoundary) rfl rfl rfl (by decide +kernel) ⟨Nat.le_of_ble_eq_true rfl, Nat.le_of_ble_eq_true rfl⟩) hnz hK (hP.sub [1] rfl) (q0 := 0) rfl rfl rfl rfl hl.1 rfl (lv_room (Nat.le_of_ble_eq_true rfl)) d_P_fault_74 ⟨Nat.zero_le _, Nat.zero_le _⟩ hS hP (fun H locs hP hS => ?_)
        rw [hs2]
        refine lv_istore (lv' := [(8, .int (nI js)), (7, .int (nI jr)), (6, .int (nI jq)), (5, .int (nI jp)), (4, .int (nI (dm_ct (fun i => nb_t x i) 32))), (0, .ref pd), (1, .int x), (2, .int (nI w)), (3, .int (nI z))]) hx hb d_P_fault_77 hl (by decide) rfl (fun ls hl => ?_)
        refine lv_aload_n hx hb d_P_fault_79 rfl (lv_at hl 5 rfl) ?_
        refine va_get (D := (dC, dI)) (ci := 4) (v := .ref g) (C := R_P) (T := F_P) (N := 6) hx hb hts iP hown hK hP 0 rfl rfl 0 (by decide) (hts _ (List.mem_cons_of_mem _ wk_P_10)) (fun _ h9 => h9) rfl d_P_fault_80 ?_
        refine lv_iload hx hb d_P_fault_83 (lv_at hl 3 rfl) ?_
        refine lv_iload hx hb d_P_fault_85 (lv_at hl 2 rfl) ?_
        refine ro_Vi (As := [.int (nI jp), .int (nI jq)]) (rest := []) ⟨hx, hb, hml, hown, hts⟩ (c_G_canJoin l dC dI cI cL g tA oA uA wA sA np ne bd er vr (nI jp) (nI jq) (by omega)) (cwV 2 hts (wg_V wk_P_56 wm_G_canJoin we_G_canJoin wi_G wc_G_canJoin) rfl rfl rfl (by decide +kernel) ⟨Nat.le_of_ble_eq_true rfl, Nat.le_of_ble_eq_true rfl⟩) hK (hP.sub [1] rfl) (q0 := 0) rfl rfl rfl rfl hl.1 rfl (lv_room (Nat.le_of_ble_eq_true rfl)) d_P_fault_87 ⟨Nat.zero_le _, Nat.zero_le _⟩ hS hP (fun H locs hP hS => ?_)
        refine nr_ifeqB (tgt := 126) hx hb d_P_fault_90 (by decide) (fun c_90 => ?_) (fun c_90 => ?_)
        · exact False.elim (by first | (rw [hj1] at c_90; cases c_90; done) | (rw [hj2] at c_104; cases c_104; done) | (rw [hv] at c_112; cases c_112; done) | (simp at c_123; omega))
        · refine lv_aload_n hx hb d_P_fault_93 rfl (lv_at hl 5 rfl) ?_
          refine va_get (D := (dC, dI)) (ci := 4) (v := .ref g) (C := R_P) (T := F_P) (N := 6) hx hb hts iP hown hK hP 0 rfl rfl 0 (by decide) (hts _ (List.mem_cons_of_mem _ wk_P_10)) (fun _ h9 => h9) rfl d_P_fault_94 ?_
          refine lv_iload hx hb d_P_fault_97 (lv_at hl 1 rfl) ?_
          refine lv_iload hx hb d_P_fault_99 (lv_at hl 0 rfl) ?_
          refine ro_Vi (As := [.int (nI jr), .int (nI js)]) (rest := []) ⟨hx, hb, hml, hown, hts⟩ (c_G_canJoin l dC dI cI cL g tA oA uA wA sA np ne bd er vr (nI jr) (nI js) (by omega)) (cwV 2 hts (wg_V wk_P_56 wm_G_canJoin we_G_canJoin wi_G wc_G_canJoin) rfl rfl rfl (by decide +kernel) ⟨Nat.le_of_ble_eq_true rfl, Nat.le_of_ble_eq_true rfl⟩) hK (hP.sub [1] rfl) (q0 := 0) rfl rfl rfl rfl hl.1 rfl (lv_room (Nat.le_of_ble_eq_true rfl)) d_P_fault_101 ⟨Nat.zero_le _, Nat.zero_le _⟩ hS hP (fun H locs hP hS => ?_)
          refine nr_ifeqB (tgt := 126) hx hb d_P_fault_104 (by decide) (fun c_104 => ?_) (fun c_104 => ?_)
          · exact False.elim (by first | (rw [hj1] at c_90; cases c_90; done) | (rw [hj2] at c_104; cases c_104; done) | (rw [hv] at c_112; cases c_112; done) | (simp at c_123; omega))
          · refine lv_iload_n hx hb d_P_fault_107 rfl (lv_at hl 7 rfl) ?_
            refine lv_iload_n hx hb d_P_fault_108 rfl (lv_at hl 8 rfl) ?_
            refine ro_Si (As := [.int (nI w), .int (nI z)]) (rest := []) ⟨hx, hb, hml, hown, hts⟩ (c_P_areEdgeValues l dC dI cI cL (nI w) (nI z) ) (cwS 2 hts (wg_S wk_P_60 ws_P_areEdgeValues wi_P wc_P_areEdgeValues) rfl rfl rfl (by decide +kernel) ⟨Nat.le_of_ble_eq_true rfl, Nat.le_of_ble_eq_true rfl⟩) hK (hP.sub [] rfl) rfl hl.1 rfl (lv_room (Nat.le_of_ble_eq_true rfl)) d_P_fault_109 ⟨Nat.zero_le _, Nat.zero_le _⟩ hS hP (fun H locs hP hS => ?_)
            refine nr_ifeqB (tgt := 126) hx hb d_P_fault_112 (by decide) (fun c_112 => ?_) (fun c_112 => ?_)
            · exact False.elim (by first | (rw [hj1] at c_90; cases c_90; done) | (rw [hj2] at c_104; cases c_104; done) | (rw [hv] at c_112; cases c_112; done) | (simp at c_123; omega))
            · refine lv_aload_n hx hb d_P_fault_115 rfl (lv_at hl 5 rfl) ?_
              refine va_get (D := (dC, dI)) (ci := 4) (v := .ref g) (C := R_P) (T := F_P) (N := 6) hx hb hts iP hown hK hP 0 rfl rfl 0 (by decide) (hts _ (List.mem_cons_of_mem _ wk_P_10)) (fun _ h9 => h9) rfl d_P_fault_116 ?_
              refine lv_iconst (v := nI 2) hx hb d_P_fault_119 (by decide) ?_
              refine ro_Vi (As := [.int (nI 2)]) (rest := []) ⟨hx, hb, hml, hown, hts⟩ (c_G_hasRoomFor l dC dI cI cL g tA oA uA wA sA np ne bd er vr 2 (by omega) (by omega)) (cwV 1 hts (wg_V wk_P_63 wm_G_hasRoomFor we_G_hasRoomFor wi_G wc_G_hasRoomFor) rfl rfl rfl (by decide +kernel) ⟨Nat.le_of_ble_eq_true rfl, Nat.le_of_ble_eq_true rfl⟩) hK (hP.sub [1] rfl) (q0 := 0) rfl rfl rfl rfl hl.1 rfl (lv_room (Nat.le_of_ble_eq_true rfl)) d_P_fault_120 ⟨Nat.zero_le _, Nat.zero_le _⟩ hS hP (fun H locs hP hS => ?_)
              refine nr_ifneB (tgt := 128) hx hb d_P_fault_123 (by decide) (fun c_123 => ?_) (fun c_123 => ?_)
              · refine lv_aload_n hx hb d_P_fault_128 rfl (lv_at hl 5 rfl) ?_
                refine va_get (D := (dC, dI)) (ci := 4) (v := .ref g) (C := R_P) (T := F_P) (N := 6) hx hb hts iP hown hK hP 0 rfl rfl 0 (by decide) (hts _ (List.mem_cons_of_mem _ wk_P_10)) (fun _ h9 => h9) rfl d_P_fault_129 ?_
                refine lv_iload hx hb d_P_fault_132 (lv_at hl 3 rfl) ?_
                refine lv_iload hx hb d_P_fault_134 (lv_at hl 2 rfl) ?_
                refine lv_iload_n hx hb d_P_fault_136 rfl (lv_at hl 7 rfl) ?_
                refine lv_iload_n hx hb d_P_fault_137 rfl (lv_at hl 8 rfl) ?_
                refine rw_Vi (wr := [cg_P pd g wy mt fo fi kp]) [1, 2, 3, 4, 5] [0] rfl rfl (by decide) (As := [.int (nI jp), .int (nI jq), .int (nI w), .int (nI z)]) (rest := []) ⟨hx, hb, hml, hown, hts⟩ (c_G_addEdge l dC dI cI cL g tA oA uA wA sA np ne bd er vr oe ot wt sg jp jq w z (by omega)) (cwV 4 hts (wg_V wk_P_67 wm_G_addEdge we_G_addEdge wi_G wc_G_addEdge) rfl rfl rfl (by decide +kernel) ⟨Nat.le_of_ble_eq_true rfl, Nat.le_of_ble_eq_true rfl⟩) hK (hP.sub [1, 2, 3, 4, 5] rfl) ((hD.sub [1, 2, 3, 4, 5] (by decide) rfl).weaken (fun _ _ _ _ => trivial)) (q0 := 0) rfl rfl rfl rfl hl.1 rfl (lv_room (Nat.le_of_ble_eq_true rfl)) d_P_fault_138 ⟨Nat.zero_le _, Nat.zero_le _⟩ hS hP hD (fun r_1 u H locs hw_2 hP hS => ?_)
                have hP : va_P (dC, dI) classes [cg_P pd g wy mt fo fi kp, cg_G g tA oA uA wA sA np (ne + 1) bd er (vr + 1), cg_N oA cI 60 (va_up oe ne jp), cg_N uA cI 60 (va_up ot ne jq), cg_N wA cI 60 (va_up wt ne w), cg_N sA cI 60 (va_up sg ne z)] H := hP.sub [0, 1, 2, 3, 4, 5] rfl
                have hD : va_D A [cg_P pd g wy mt fo fi kp, cg_G g tA oA uA wA sA np (ne + 1) bd er (vr + 1), cg_N oA cI 60 (va_up oe ne jp), cg_N uA cI 60 (va_up ot ne jq), cg_N wA cI 60 (va_up wt ne w), cg_N sA cI 60 (va_up sg ne z)] := rw_re hD rfl
                subst hw_2
                refine lv_istore (lv' := [(9, .int (nI ne)), (8, .int (nI js)), (7, .int (nI jr)), (6, .int (nI jq)), (5, .int (nI jp)), (4, .int (nI (dm_ct (fun i => nb_t x i) 32))), (0, .ref pd), (1, .int x), (2, .int (nI w)), (3, .int (nI z))]) hx hb d_P_fault_141 hl (by decide) rfl (fun ls hl => ?_)
                refine lv_aload_n hx hb d_P_fault_143 rfl (lv_at hl 6 rfl) ?_
                refine va_get (D := (dC, dI)) (ci := 4) (v := .ref g) (C := R_P) (T := F_P) (N := 6) hx hb hts iP hown hK hP 0 rfl rfl 0 (by decide) (hts _ (List.mem_cons_of_mem _ wk_P_10)) (fun _ h9 => h9) rfl d_P_fault_144 ?_
                refine lv_iload hx hb d_P_fault_147 (lv_at hl 2 rfl) ?_
                refine lv_iload hx hb d_P_fault_149 (lv_at hl 1 rfl) ?_
                refine lv_iconst (v := nI 0) hx hb d_P_fault_151 (by decide) ?_
                refine lv_iconst (v := nI 0) hx hb d_P_fault_152 (by decide) ?_
                refine rw_Vi (wr := [cg_P pd g wy mt fo fi kp]) [1, 2, 3, 4, 5] [0] rfl rfl (by decide) (As := [.int (nI jr), .int (nI js), .int (nI 0), .int (nI 0)]) (rest := []) ⟨hx, hb, hml, hown, hts⟩ (c_G_addEdge l dC dI cI cL g tA oA uA wA sA np (ne + 1) bd er (vr + 1) (va_up oe ne jp) (va_up ot ne jq) (va_up wt ne w) (va_up sg ne z) jr js 0 0 (by omega)) (cwV 4 hts (wg_V wk_P_67 wm_G_addEdge we_G_addEdge wi_G wc_G_addEdge) rfl rfl rfl (by decide +kernel) ⟨Nat.le_of_ble_eq_true rfl, Nat.le_of_ble_eq_true rfl⟩) hK (hP.sub [1, 2, 3, 4, 5] rfl) ((hD.sub [1, 2, 3, 4, 5] (by decide) rfl).weaken (fun _ _ _ _ => trivial)) (q0 := 0) rfl rfl rfl rfl hl.1 rfl (lv_room (Nat.le_of_ble_eq_true rfl)) d_P_fault_153 ⟨Nat.zero_le _, Nat.zero_le _⟩ hS hP hD (fun r_3 u H locs hw_4 hP hS => ?_)
                have hP : va_P (dC, dI) classes [cg_P pd g wy mt fo fi kp, cg_G g tA oA uA wA sA np ((ne + 1) + 1) bd er ((vr + 1) + 1), cg_N oA cI 60 (va_up (va_up oe ne jp) (ne + 1) jr), cg_N uA cI 60 (va_up (va_up ot ne jq) (ne + 1) js), cg_N wA cI 60 (va_up (va_up wt ne w) (ne + 1) 0), cg_N sA cI 60 (va_up (va_up sg ne z) (ne + 1) 0)] H := hP.sub [0, 1, 2, 3, 4, 5] rfl
                have hD : va_D A [cg_P pd g wy mt fo fi kp, cg_G g tA oA uA wA sA np ((ne + 1) + 1) bd er ((vr + 1) + 1), cg_N oA cI 60 (va_up (va_up oe ne jp) (ne + 1) jr), cg_N uA cI 60 (va_up (va_up ot ne jq) (ne + 1) js), cg_N wA cI 60 (va_up (va_up wt ne w) (ne + 1) 0), cg_N sA cI 60 (va_up (va_up sg ne z) (ne + 1) 0)] := rw_re hD rfl
                subst hw_4
                refine lv_pop hx hb d_P_fault_156 rfl ?_
                refine lv_iload hx hb d_P_fault_157 (lv_at hl 0 rfl) ?_
                exact rw_iret () hx hb hr hlocks hS hP rfl d_P_fault_159
              · exact False.elim (by first | (rw [hj1] at c_90; cases c_90; done) | (rw [hj2] at c_104; cases c_104; done) | (rw [hv] at c_112; cases c_112; done) | (simp at c_123; omega))
      · refine lv_iload_n hx hb d_P_fault_62 rfl (lv_at hl 5 rfl) ?_
        refine lv_iconst (v := nI 3) hx hb d_P_fault_63 (by decide) ?_
        refine ro_Si (As := [.int x, .int (nI 3)]) (rest := []) ⟨hx, hb, hml, hown, hts⟩ (c_P_memberOf l dC dI cI cL x 3 (by omega)) (cwS 2 hts (wg_S wk_P_80 ws_P_memberOf wi_P wc_P_memberOf) rfl rfl rfl (by decide +kernel) ⟨Nat.le_of_ble_eq_true rfl, Nat.le_of_ble_eq_true rfl⟩) hK (hP.sub [] rfl) rfl hl.1 rfl (lv_room (Nat.le_of_ble_eq_true rfl)) d_P_fault_64 ⟨Nat.zero_le _, Nat.zero_le _⟩ hS hP (fun H locs hP hS => ?_)
        have hs2 := hs
        rw [if_pos c_59] at hs2
        rw [hs2]
        refine lv_goto (tgt := 77) hx hb d_P_fault_67 (by decide) ?_
        refine lv_istore (lv' := [(8, .int (nI js)), (7, .int (nI jr)), (6, .int (nI jq)), (5, .int (nI jp)), (4, .int (nI (dm_ct (fun i => nb_t x i) 32))), (0, .ref pd), (1, .int x), (2, .int (nI w)), (3, .int (nI z))]) hx hb d_P_fault_77 hl (by decide) rfl (fun ls hl => ?_)
        refine lv_aload_n hx hb d_P_fault_79 rfl (lv_at hl 5 rfl) ?_
        refine va_get (D := (dC, dI)) (ci := 4) (v := .ref g) (C := R_P) (T := F_P) (N := 6) hx hb hts iP hown hK hP 0 rfl rfl 0 (by decide) (hts _ (List.mem_cons_of_mem _ wk_P_10)) (fun _ h9 => h9) rfl d_P_fault_80 ?_
        refine lv_iload hx hb d_P_fault_83 (lv_at hl 3 rfl) ?_
        refine lv_iload hx hb d_P_fault_85 (lv_at hl 2 rfl) ?_
        refine ro_Vi (As := [.int (nI jp), .int (nI jq)]) (rest := []) ⟨hx, hb, hml, hown, hts⟩ (c_G_canJoin l dC dI cI cL g tA oA uA wA sA np ne bd er vr (nI jp) (nI jq) (by omega)) (cwV 2 hts (wg_V wk_P_56 wm_G_canJoin we_G_canJoin wi_G wc_G_canJoin) rfl rfl rfl (by decide +kernel) ⟨Nat.le_of_ble_eq_true rfl, Nat.le_of_ble_eq_true rfl⟩) hK (hP.sub [1] rfl) (q0 := 0) rfl rfl rfl rfl hl.1 rfl (lv_room (Nat.le_of_ble_eq_true rfl)) d_P_fault_87 ⟨Nat.zero_le _, Nat.zero_le _⟩ hS hP (fun H locs hP hS => ?_)
        refine nr_ifeqB (tgt := 126) hx hb d_P_fault_90 (by decide) (fun c_90 => ?_) (fun c_90 => ?_)
        · exact False.elim (by first | (rw [hj1] at c_90; cases c_90; done) | (rw [hj2] at c_104; cases c_104; done) | (rw [hv] at c_112; cases c_112; done) | (simp at c_123; omega))
        · refine lv_aload_n hx hb d_P_fault_93 rfl (lv_at hl 5 rfl) ?_
          refine va_get (D := (dC, dI)) (ci := 4) (v := .ref g) (C := R_P) (T := F_P) (N := 6) hx hb hts iP hown hK hP 0 rfl rfl 0 (by decide) (hts _ (List.mem_cons_of_mem _ wk_P_10)) (fun _ h9 => h9) rfl d_P_fault_94 ?_
          refine lv_iload hx hb d_P_fault_97 (lv_at hl 1 rfl) ?_
          refine lv_iload hx hb d_P_fault_99 (lv_at hl 0 rfl) ?_
          refine ro_Vi (As := [.int (nI jr), .int (nI js)]) (rest := []) ⟨hx, hb, hml, hown, hts⟩ (c_G_canJoin l dC dI cI cL g tA oA uA wA sA np ne bd er vr (nI jr) (nI js) (by omega)) (cwV 2 hts (wg_V wk_P_56 wm_G_canJoin we_G_canJoin wi_G wc_G_canJoin) rfl rfl rfl (by decide +kernel) ⟨Nat.le_of_ble_eq_true rfl, Nat.le_of_ble_eq_true rfl⟩) hK (hP.sub [1] rfl) (q0 := 0) rfl rfl rfl rfl hl.1 rfl (lv_room (Nat.le_of_ble_eq_true rfl)) d_P_fault_101 ⟨Nat.zero_le _, Nat.zero_le _⟩ hS hP (fun H locs hP hS => ?_)
          refine nr_ifeqB (tgt := 126) hx hb d_P_fault_104 (by decide) (fun c_104 => ?_) (fun c_104 => ?_)
          · exact False.elim (by first | (rw [hj1] at c_90; cases c_90; done) | (rw [hj2] at c_104; cases c_104; done) | (rw [hv] at c_112; cases c_112; done) | (simp at c_123; omega))
          · refine lv_iload_n hx hb d_P_fault_107 rfl (lv_at hl 7 rfl) ?_
            refine lv_iload_n hx hb d_P_fault_108 rfl (lv_at hl 8 rfl) ?_
            refine ro_Si (As := [.int (nI w), .int (nI z)]) (rest := []) ⟨hx, hb, hml, hown, hts⟩ (c_P_areEdgeValues l dC dI cI cL (nI w) (nI z) ) (cwS 2 hts (wg_S wk_P_60 ws_P_areEdgeValues wi_P wc_P_areEdgeValues) rfl rfl rfl (by decide +kernel) ⟨Nat.le_of_ble_eq_true rfl, Nat.le_of_ble_eq_true rfl⟩) hK (hP.sub [] rfl) rfl hl.1 rfl (lv_room (Nat.le_of_ble_eq_true rfl)) d_P_fault_109 ⟨Nat.zero_le _, Nat.zero_le _⟩ hS hP (fun H locs hP hS => ?_)
            refine nr_ifeqB (tgt := 126) hx hb d_P_fault_112 (by decide) (fun c_112 => ?_) (fun c_112 => ?_)
            · exact False.elim (by first | (rw [hj1] at c_90; cases c_90; done) | (rw [hj2] at c_104; cases c_104; done) | (rw [hv] at c_112; cases c_112; done) | (simp at c_123; omega))
            · refine lv_aload_n hx hb d_P_fault_115 rfl (lv_at hl 5 rfl) ?_
              refine va_get (D := (dC, dI)) (ci := 4) (v := .ref g) (C := R_P) (T := F_P) (N := 6) hx hb hts iP hown hK hP 0 rfl rfl 0 (by decide) (hts _ (List.mem_cons_of_mem _ wk_P_10)) (fun _ h9 => h9) rfl d_P_fault_116 ?_
              refine lv_iconst (v := nI 2) hx hb d_P_fault_119 (by decide) ?_
              refine ro_Vi (As := [.int (nI 2)]) (rest := []) ⟨hx, hb, hml, hown, hts⟩ (c_G_hasRoomFor l dC dI cI cL g tA oA uA wA sA np ne bd er vr 2 (by omega) (by omega)) (cwV 1 hts (wg_V wk_P_63 wm_G_hasRoomFor we_G_hasRoomFor wi_G wc_G_hasRoomFor) rfl rfl rfl (by decide +kernel) ⟨Nat.le_of_ble_eq_true rfl, Nat.le_of_ble_eq_true rfl⟩) hK (hP.sub [1] rfl) (q0 := 0) rfl rfl rfl rfl hl.1 rfl (lv_room (Nat.le_of_ble_eq_true rfl)) d_P_fault_120 ⟨Nat.zero_le _, Nat.zero_le _⟩ hS hP (fun H locs hP hS => ?_)
              refine nr_ifneB (tgt := 128) hx hb d_P_fault_123 (by decide) (fun c_123 => ?_) (fun c_123 => ?_)
              · refine lv_aload_n hx hb d_P_fault_128 rfl (lv_at hl 5 rfl) ?_
                refine va_get (D := (dC, dI)) (ci := 4) (v := .ref g) (C := R_P) (T := F_P) (N := 6) hx hb hts iP hown hK hP 0 rfl rfl 0 (by decide) (hts _ (List.mem_cons_of_mem _ wk_P_10)) (fun _ h9 => h9) rfl d_P_fault_129 ?_
                refine lv_iload hx hb d_P_fault_132 (lv_at hl 3 rfl) ?_
                refine lv_iload hx hb d_P_fault_134 (lv_at hl 2 rfl) ?_
                refine lv_iload_n hx hb d_P_fault_136 rfl (lv_at hl 7 rfl) ?_
                refine lv_iload_n hx hb d_P_fault_137 rfl (lv_at hl 8 rfl) ?_
                refine rw_Vi (wr := [cg_P pd g wy mt fo fi kp]) [1, 2, 3, 4, 5] [0] rfl rfl (by decide) (As := [.int (nI jp), .int (nI jq), .int (nI w), .int (nI z)]) (rest := []) ⟨hx, hb, hml, hown, hts⟩ (c_G_addEdge l dC dI cI cL g tA oA uA wA sA np ne bd er vr oe ot wt sg jp jq w z (by omega)) (cwV 4 hts (wg_V wk_P_67 wm_G_addEdge we_G_addEdge wi_G wc_G_addEdge) rfl rfl rfl (by decide +kernel) ⟨Nat.le_of_ble_eq_true rfl, Nat.le_of_ble_eq_true rfl⟩) hK (hP.sub [1, 2, 3, 4, 5] rfl) ((hD.sub [1, 2, 3, 4, 5] (by decide) rfl).weaken (fun _ _ _ _ => trivial)) (q0 := 0) rfl rfl rfl rfl hl.1 rfl (lv_room (Nat.le_of_ble_eq_true rfl)) d_P_fault_138 ⟨Nat.zero_le _, Nat.zero_le _⟩ hS hP hD (fun r_5 u H locs hw_6 hP hS => ?_)
                have hP : va_P (dC, dI) classes [cg_P pd g wy mt fo fi kp, cg_G g tA oA uA wA sA np (ne + 1) bd er (vr + 1), cg_N oA cI 60 (va_up oe ne jp), cg_N uA cI 60 (va_up ot ne jq), cg_N wA cI 60 (va_up wt ne w), cg_N sA cI 60 (va_up sg ne z)] H := hP.sub [0, 1, 2, 3, 4, 5] rfl
                have hD : va_D A [cg_P pd g wy mt fo fi kp, cg_G g tA oA uA wA sA np (ne + 1) bd er (vr + 1), cg_N oA cI 60 (va_up oe ne jp), cg_N uA cI 60 (va_up ot ne jq), cg_N wA cI 60 (va_up wt ne w), cg_N sA cI 60 (va_up sg ne z)] := rw_re hD rfl
                subst hw_6
                refine lv_istore (lv' := [(9, .int (nI ne)), (8, .int (nI js)), (7, .int (nI jr)), (6, .int (nI jq)), (5, .int (nI jp)), (4, .int (nI (dm_ct (fun i => nb_t x i) 32))), (0, .ref pd), (1, .int x), (2, .int (nI w)), (3, .int (nI z))]) hx hb d_P_fault_141 hl (by decide) rfl (fun ls hl => ?_)
                refine lv_aload_n hx hb d_P_fault_143 rfl (lv_at hl 6 rfl) ?_
                refine va_get (D := (dC, dI)) (ci := 4) (v := .ref g) (C := R_P) (T := F_P) (N := 6) hx hb hts iP hown hK hP 0 rfl rfl 0 (by decide) (hts _ (List.mem_cons_of_mem _ wk_P_10)) (fun _ h9 => h9) rfl d_P_fault_144 ?_
                refine lv_iload hx hb d_P_fault_147 (lv_at hl 2 rfl) ?_
                refine lv_iload hx hb d_P_fault_149 (lv_at hl 1 rfl) ?_
                refine lv_iconst (v := nI 0) hx hb d_P_fault_151 (by decide) ?_
                refine lv_iconst (v := nI 0) hx hb d_P_fault_152 (by decide) ?_
                refine rw_Vi (wr := [cg_P pd g wy mt fo fi kp]) [1, 2, 3, 4, 5] [0] rfl rfl (by decide) (As := [.int (nI jr), .int (nI js), .int (nI 0), .int (nI 0)]) (rest := []) ⟨hx, hb, hml, hown, hts⟩ (c_G_addEdge l dC dI cI cL g tA oA uA wA sA np (ne + 1) bd er (vr + 1) (va_up oe ne jp) (va_up ot ne jq) (va_up wt ne w) (va_up sg ne z) jr js 0 0 (by omega)) (cwV 4 hts (wg_V wk_P_67 wm_G_addEdge we_G_addEdge wi_G wc_G_addEdge) rfl rfl rfl (by decide +kernel) ⟨Nat.le_of_ble_eq_true rfl, Nat.le_of_ble_eq_true rfl⟩) hK (hP.sub [1, 2, 3, 4, 5] rfl) ((hD.sub [1, 2, 3, 4, 5] (by decide) rfl).weaken (fun _ _ _ _ => trivial)) (q0 := 0) rfl rfl rfl rfl hl.1 rfl (lv_room (Nat.le_of_ble_eq_true rfl)) d_P_fault_153 ⟨Nat.zero_le _, Nat.zero_le _⟩ hS hP hD (fun r_7 u H locs hw_8 hP hS => ?_)
                have hP : va_P (dC, dI) classes [cg_P pd g wy mt fo fi kp, cg_G g tA oA uA wA sA np ((ne + 1) + 1) bd er ((vr + 1) + 1), cg_N oA cI 60 (va_up (va_up oe ne jp) (ne + 1) jr), cg_N uA cI 60 (va_up (va_up ot ne jq) (ne + 1) js), cg_N wA cI 60 (va_up (va_up wt ne w) (ne + 1) 0), cg_N sA cI 60 (va_up (va_up sg ne z) (ne + 1) 0)] H := hP.sub [0, 1, 2, 3, 4, 5] rfl
                have hD : va_D A [cg_P pd g wy mt fo fi kp, cg_G g tA oA uA wA sA np ((ne + 1) + 1) bd er ((vr + 1) + 1), cg_N oA cI 60 (va_up (va_up oe ne jp) (ne + 1) jr), cg_N uA cI 60 (va_up (va_up ot ne jq) (ne + 1) js), cg_N wA cI 60 (va_up (va_up wt ne w) (ne + 1) 0), cg_N sA cI 60 (va_up (va_up sg ne z) (ne + 1) 0)] := rw_re hD rfl
                subst hw_8
                refine lv_pop hx hb d_P_fault_156 rfl ?_
                refine lv_iload hx hb d_P_fault_157 (lv_at hl 0 rfl) ?_
                exact rw_iret () hx hb hr hlocks hS hP rfl d_P_fault_159
              · exact False.elim (by first | (rw [hj1] at c_90; cases c_90; done) | (rw [hj2] at c_104; cases c_104; done) | (rw [hv] at c_112; cases c_112; done) | (simp at c_123; omega))
    · refine lv_iload hx hb d_P_fault_27 (lv_at hl 0 rfl) ?_
      refine lv_iconst (v := nI 4) hx hb d_P_fault_29 (by decide) ?_
      refine nr_icmp_eq (by omega) (by omega) (tgt := 35) hx hb d_P_fault_30 (by decide) (fun c_30 => ?_) (fun c_30 => ?_)
      · refine lv_iload_n hx hb d_P_fault_35 rfl (lv_at hl 2 rfl) ?_
        refine lv_iconst (v := nI 0) hx hb d_P_fault_36 (by decide) ?_
        refine ro_Si (As := [.int x, .int (nI 0)]) (rest := []) ⟨hx, hb, hml, hown, hts⟩ (c_P_memberOf l dC dI cI cL x 0 (by omega)) (cwS 2 hts (wg_S wk_P_80 ws_P_memberOf wi_P wc_P_memberOf) rfl rfl rfl (by decide +kernel) ⟨Nat.le_of_ble_eq_true rfl, Nat.le_of_ble_eq_true rfl⟩) hK (hP.sub [] rfl) rfl hl.1 rfl (lv_room (Nat.le_of_ble_eq_true rfl)) d_P_fault_37 ⟨Nat.zero_le _, Nat.zero_le _⟩ hS hP (fun H locs hP hS => ?_)
        rw [hp]
        refine lv_istore (lv' := [(5, .int (nI jp)), (4, .int (nI (dm_ct (fun i => nb_t x i) 32))), (0, .ref pd), (1, .int x), (2, .int (nI w)), (3, .int (nI z))]) hx hb d_P_fault_40 hl (by decide) rfl (fun ls hl => ?_)
        refine lv_iload_n hx hb d_P_fault_42 rfl (lv_at hl 3 rfl) ?_
        refine lv_iconst (v := nI 1) hx hb d_P_fault_43 (by decide) ?_
        refine ro_Si (As := [.int x, .int (nI 1)]) (rest := []) ⟨hx, hb, hml, hown, hts⟩ (c_P_memberOf l dC dI cI cL x 1 (by omega)) (cwS 2 hts (wg_S wk_P_80 ws_P_memberOf wi_P wc_P_memberOf) rfl rfl rfl (by decide +kernel) ⟨Nat.le_of_ble_eq_true rfl, Nat.le_of_ble_eq_true rfl⟩) hK (hP.sub [] rfl) rfl hl.1 rfl (lv_room (Nat.le_of_ble_eq_true rfl)) d_P_fault_44 ⟨Nat.zero_le _, Nat.zero_le _⟩ hS hP (fun H locs hP hS => ?_)
        rw [hq]
        refine lv_istore (lv' := [(6, .int (nI jq)), (5, .int (nI jp)), (4, .int (nI (dm_ct (fun i => nb_t x i) 32))), (0, .ref pd), (1, .int x), (2, .int (nI w)), (3, .int (nI z))]) hx hb d_P_fault_47 hl (by decide) rfl (fun ls hl => ?_)
        refine lv_iload_n hx hb d_P_fault_49 rfl (lv_at hl 4 rfl) ?_
        refine lv_iconst (v := nI 2) hx hb d_P_fault_50 (by decide) ?_
        refine ro_Si (As := [.int x, .int (nI 2)]) (rest := []) ⟨hx, hb, hml, hown, hts⟩ (c_P_memberOf l dC dI cI cL x 2 (by omega)) (cwS 2 hts (wg_S wk_P_80 ws_P_memberOf wi_P wc_P_memberOf) rfl rfl rfl (by decide +kernel) ⟨Nat.le_of_ble_eq_true rfl, Nat.le_of_ble_eq_true rfl⟩) hK (hP.sub [] rfl) rfl hl.1 rfl (lv_room (Nat.le_of_ble_eq_true rfl)) d_P_fault_51 ⟨Nat.zero_le _, Nat.zero_le _⟩ hS hP (fun H locs hP hS => ?_)
        rw [hr1]
        refine lv_istore (lv' := [(7, .int (nI jr)), (6, .int (nI jq)), (5, .int (nI jp)), (4, .int (nI (dm_ct (fun i => nb_t x i) 32))), (0, .ref pd), (1, .int x), (2, .int (nI w)), (3, .int (nI z))]) hx hb d_P_fault_54 hl (by decide) rfl (fun ls hl => ?_)
        refine lv_iload hx hb d_P_fault_56 (lv_at hl 3 rfl) ?_
        refine lv_iconst (v := nI 4) hx hb d_P_fault_58 (by decide) ?_
        refine nr_icmp_ne (by omega) (by omega) (tgt := 70) hx hb d_P_fault_59 (by decide) (fun c_59 => ?_) (fun c_59 => ?_)
        · have hs2 := hs
          rw [if_neg c_59] at hs2
          refine lv_aload_n hx hb d_P_fault_70 rfl (lv_at hl 4 rfl) ?_
          refine va_get (D := (dC, dI)) (ci := 4) (v := .ref g) (C := R_P) (T := F_P) (N := 6) hx hb hts iP hown hK hP 0 rfl rfl 0 (by decide) (hts _ (List.mem_cons_of_mem _ wk_P_10)) (fun _ h9 => h9) rfl d_P_fault_71 ?_
          refine ro_ViZ (As := []) (rest := []) ⟨hx, hb, hml, hown, hts⟩ (c_G_leastBoundary l dC dI cI cL g tA oA uA wA sA np ne bd er vr ) (cwV 0 hts (wg_V wk_P_84 wm_G_leastBoundary we_G_leastBoundary wi_G wc_G_leastBoundary) rfl rfl rfl (by decide +kernel) ⟨Nat.le_of_ble_eq_true rfl, Nat.le_of_ble_eq_true rfl⟩) hnz hK (hP.sub [1] rfl) (q0 := 0) rfl rfl rfl rfl hl.1 rfl (lv_room (Nat.le_of_ble_eq_true rfl)) d_P_fault_74 ⟨Nat.zero_le _, Nat.zero_le _⟩ hS hP (fun H locs hP hS => ?_)
          rw [hs2]
          refine lv_istore (lv' := [(8, .int (nI js)), (7, .int (nI jr)), (6, .int (nI jq)), (5, .int (nI jp)), (4, .int (nI (dm_ct (fun i => nb_t x i) 32))), (0, .ref pd), (1, .int x), (2, .int (nI w)), (3, .int (nI z))]) hx hb d_P_fault_77 hl (by decide) rfl (fun ls hl => ?_)
          refine lv_aload_n hx hb d_P_fault_79 rfl (lv_at hl 5 rfl) ?_
          refine va_get (D := (dC, dI)) (ci := 4) (v := .ref g) (C := R_P) (T := F_P) (N := 6) hx hb hts iP hown hK hP 0 rfl rfl 0 (by decide) (hts _ (List.mem_cons_of_mem _ wk_P_10)) (fun _ h9 => h9) rfl d_P_fault_80 ?_
          refine lv_iload hx hb d_P_fault_83 (lv_at hl 3 rfl) ?_
          refine lv_iload hx hb d_P_fault_85 (lv_at hl 2 rfl) ?_
          refine ro_Vi (As := [.int (nI jp), .int (nI jq)]) (rest := []) ⟨hx, hb, hml, hown, hts⟩ (c_G_canJoin l dC dI cI cL g tA oA uA wA sA np ne bd er vr (nI jp) (nI jq) (by omega)) (cwV 2 hts (wg_V wk_P_56 wm_G_canJoin we_G_canJoin wi_G wc_G_canJoin) rfl rfl rfl (by decide +kernel) ⟨Nat.le_of_ble_eq_true rfl, Nat.le_of_ble_eq_true rfl⟩) hK (hP.sub [1] rfl) (q0 := 0) rfl rfl rfl rfl hl.1 rfl (lv_room (Nat.le_of_ble_eq_true rfl)) d_P_fault_87 ⟨Nat.zero_le _, Nat.zero_le _⟩ hS hP (fun H locs hP hS => ?_)
          refine nr_ifeqB (tgt := 126) hx hb d_P_fault_90 (by decide) (fun c_90 => ?_) (fun c_90 => ?_)
          · exact False.elim (by first | (rw [hj1] at c_90; cases c_90; done) | (rw [hj2] at c_104; cases c_104; done) | (rw [hv] at c_112; cases c_112; done) | (simp at c_123; omega))
          · refine lv_aload_n hx hb d_P_fault_93 rfl (lv_at hl 5 rfl) ?_
            refine va_get (D := (dC, dI)) (ci := 4) (v := .ref g) (C := R_P) (T := F_P) (N := 6) hx hb hts iP hown hK hP 0 rfl rfl 0 (by decide) (hts _ (List.mem_cons_of_mem _ wk_P_10)) (fun _ h9 => h9) rfl d_P_fault_94 ?_
            refine lv_iload hx hb d_P_fault_97 (lv_at hl 1 rfl) ?_
            refine lv_iload hx hb d_P_fault_99 (lv_at hl 0 rfl) ?_
            refine ro_Vi (As := [.int (nI jr), .int (nI js)]) (rest := []) ⟨hx, hb, hml, hown, hts⟩ (c_G_canJoin l dC dI cI cL g tA oA uA wA sA np ne bd er vr (nI jr) (nI js) (by omega)) (cwV 2 hts (wg_V wk_P_56 wm_G_canJoin we_G_canJoin wi_G wc_G_canJoin) rfl rfl rfl (by decide +kernel) ⟨Nat.le_of_ble_eq_true rfl, Nat.le_of_ble_eq_true rfl⟩) hK (hP.sub [1] rfl) (q0 := 0) rfl rfl rfl rfl hl.1 rfl (lv_room (Nat.le_of_ble_eq_true rfl)) d_P_fault_101 ⟨Nat.zero_le _, Nat.zero_le _⟩ hS hP (fun H locs hP hS => ?_)
            refine nr_ifeqB (tgt := 126) hx hb d_P_fault_104 (by decide) (fun c_104 => ?_) (fun c_104 => ?_)
            · exact False.elim (by first | (rw [hj1] at c_90; cases c_90; done) | (rw [hj2] at c_104; cases c_104; done) | (rw [hv] at c_112; cases c_112; done) | (simp at c_123; omega))
            · refine lv_iload_n hx hb d_P_fault_107 rfl (lv_at hl 7 rfl) ?_
              refine lv_iload_n hx hb d_P_fault_108 rfl (lv_at hl 8 rfl) ?_
              refine ro_Si (As := [.int (nI w), .int (nI z)]) (rest := []) ⟨hx, hb, hml, hown, hts⟩ (c_P_areEdgeValues l dC dI cI cL (nI w) (nI z) ) (cwS 2 hts (wg_S wk_P_60 ws_P_areEdgeValues wi_P wc_P_areEdgeValues) rfl rfl rfl (by decide +kernel) ⟨Nat.le_of_ble_eq_true rfl, Nat.le_of_ble_eq_true rfl⟩) hK (hP.sub [] rfl) rfl hl.1 rfl (lv_room (Nat.le_of_ble_eq_true rfl)) d_P_fault_109 ⟨Nat.zero_le _, Nat.zero_le _⟩ hS hP (fun H locs hP hS => ?_)
              refine nr_ifeqB (tgt := 126) hx hb d_P_fault_112 (by decide) (fun c_112 => ?_) (fun c_112 => ?_)
              · exact False.elim (by first | (rw [hj1] at c_90; cases c_90; done) | (rw [hj2] at c_104; cases c_104; done) | (rw [hv] at c_112; cases c_112; done) | (simp at c_123; omega))
              · refine lv_aload_n hx hb d_P_fault_115 rfl (lv_at hl 5 rfl) ?_
                refine va_get (D := (dC, dI)) (ci := 4) (v := .ref g) (C := R_P) (T := F_P) (N := 6) hx hb hts iP hown hK hP 0 rfl rfl 0 (by decide) (hts _ (List.mem_cons_of_mem _ wk_P_10)) (fun _ h9 => h9) rfl d_P_fault_116 ?_
                refine lv_iconst (v := nI 2) hx hb d_P_fault_119 (by decide) ?_
                refine ro_Vi (As := [.int (nI 2)]) (rest := []) ⟨hx, hb, hml, hown, hts⟩ (c_G_hasRoomFor l dC dI cI cL g tA oA uA wA sA np ne bd er vr 2 (by omega) (by omega)) (cwV 1 hts (wg_V wk_P_63 wm_G_hasRoomFor we_G_hasRoomFor wi_G wc_G_hasRoomFor) rfl rfl rfl (by decide +kernel) ⟨Nat.le_of_ble_eq_true rfl, Nat.le_of_ble_eq_true rfl⟩) hK (hP.sub [1] rfl) (q0 := 0) rfl rfl rfl rfl hl.1 rfl (lv_room (Nat.le_of_ble_eq_true rfl)) d_P_fault_120 ⟨Nat.zero_le _, Nat.zero_le _⟩ hS hP (fun H locs hP hS => ?_)
                refine nr_ifneB (tgt := 128) hx hb d_P_fault_123 (by decide) (fun c_123 => ?_) (fun c_123 => ?_)
                · refine lv_aload_n hx hb d_P_fault_128 rfl (lv_at hl 5 rfl) ?_
                  refine va_get (D := (dC, dI)) (ci := 4) (v := .ref g) (C := R_P) (T := F_P) (N := 6) hx hb hts iP hown hK hP 0 rfl rfl 0 (by decide) (hts _ (List.mem_cons_of_mem _ wk_P_10)) (fun _ h9 => h9) rfl d_P_fault_129 ?_
                  refine lv_iload hx hb d_P_fault_132 (lv_at hl 3 rfl) ?_
                  refine lv_iload hx hb d_P_fault_134 (lv_at hl 2 rfl) ?_
                  refine lv_iload_n hx hb d_P_fault_136 rfl (lv_at hl 7 rfl) ?_
                  refine lv_iload_n hx hb d_P_fault_137 rfl (lv_at hl 8 rfl) ?_
                  refine rw_Vi (wr := [cg_P pd g wy mt fo fi kp]) [1, 2, 3, 4, 5] [0] rfl rfl (by decide) (As := [.int (nI jp), .int (nI jq), .int (nI w), .int (nI z)]) (rest := []) ⟨hx, hb, hml, hown, hts⟩ (c_G_addEdge l dC dI cI cL g tA oA uA wA sA np ne bd er vr oe ot wt sg jp jq w z (by omega)) (cwV 4 hts (wg_V wk_P_67 wm_G_addEdge we_G_addEdge wi_G wc_G_addEdge) rfl rfl rfl (by decide +kernel) ⟨Nat.le_of_ble_eq_true rfl, Nat.le_of_ble_eq_true rfl⟩) hK (hP.sub [1, 2, 3, 4, 5] rfl) ((hD.sub [1, 2, 3, 4, 5] (by decide) rfl).weaken (fun _ _ _ _ => trivial)) (q0 := 0) rfl rfl rfl rfl hl.1 rfl (lv_room (Nat.le_of_ble_eq_true rfl)) d_P_fault_138 ⟨Nat.zero_le _, Nat.zero_le _⟩ hS hP hD (fun r_9 u H locs hw_10 hP hS => ?_)
                  have hP : va_P (dC, dI) classes [cg_P pd g wy mt fo fi kp, cg_G g tA oA uA wA sA np (ne + 1) bd er (vr + 1), cg_N oA cI 60 (va_up oe ne jp), cg_N uA cI 60 (va_up ot ne jq), cg_N wA cI 60 (va_up wt ne w), cg_N sA cI 60 (va_up sg ne z)] H := hP.sub [0, 1, 2, 3, 4, 5] rfl
                  have hD : va_D A [cg_P pd g wy mt fo fi kp, cg_G g tA oA uA wA sA np (ne + 1) bd er (vr + 1), cg_N oA cI 60 (va_up oe ne jp), cg_N uA cI 60 (va_up ot ne jq), cg_N wA cI 60 (va_up wt ne w), cg_N sA cI 60 (va_up sg ne z)] := rw_re hD rfl
                  subst hw_10
                  refine lv_istore (lv' := [(9, .int (nI ne)), (8, .int (nI js)), (7, .int (nI jr)), (6, .int (nI jq)), (5, .int (nI jp)), (4, .int (nI (dm_ct (fun i => nb_t x i) 32))), (0, .ref pd), (1, .int x), (2, .int (nI w)), (3, .int (nI z))]) hx hb d_P_fault_141 hl (by decide) rfl (fun ls hl => ?_)
                  refine lv_aload_n hx hb d_P_fault_143 rfl (lv_at hl 6 rfl) ?_
                  refine va_get (D := (dC, dI)) (ci := 4) (v := .ref g) (C := R_P) (T := F_P) (N := 6) hx hb hts iP hown hK hP 0 rfl rfl 0 (by decide) (hts _ (List.mem_cons_of_mem _ wk_P_10)) (fun _ h9 => h9) rfl d_P_fault_144 ?_
                  refine lv_iload hx hb d_P_fault_147 (lv_at hl 2 rfl) ?_
                  refine lv_iload hx hb d_P_fault_149 (lv_at hl 1 rfl) ?_
                  refine lv_iconst (v := nI 0) hx hb d_P_fault_151 (by decide) ?_
                  refine lv_iconst (v := nI 0) hx hb d_P_fault_152 (by decide) ?_
                  refine rw_Vi (wr := [cg_P pd g wy mt fo fi kp]) [1, 2, 3, 4, 5] [0] rfl rfl (by decide) (As := [.int (nI jr), .int (nI js), .int (nI 0), .int (nI 0)]) (rest := []) ⟨hx, hb, hml, hown, hts⟩ (c_G_addEdge l dC dI cI cL g tA oA uA wA sA np (ne + 1) bd er (vr + 1) (va_up oe ne jp) (va_up ot ne jq) (va_up wt ne w) (va_up sg ne z) jr js 0 0 (by omega)) (cwV 4 hts (wg_V wk_P_67 wm_G_addEdge we_G_addEdge wi_G wc_G_addEdge) rfl rfl rfl (by decide +kernel) ⟨Nat.le_of_ble_eq_true rfl, Nat.le_of_ble_eq_true rfl⟩) hK (hP.sub [1, 2, 3, 4, 5] rfl) ((hD.sub [1, 2, 3, 4, 5] (by decide) rfl).weaken (fun _ _ _ _ => trivial)) (q0 := 0) rfl rfl rfl rfl hl.1 rfl (lv_room (Nat.le_of_ble_eq_true rfl)) d_P_fault_153 ⟨Nat.zero_le _, Nat.zero_le _⟩ hS hP hD (fun r_11 u H locs hw_12 hP hS => ?_)
                  have hP : va_P (dC, dI) classes [cg_P pd g wy mt fo fi kp, cg_G g tA oA uA wA sA np ((ne + 1) + 1) bd er ((vr + 1) + 1), cg_N oA cI 60 (va_up (va_up oe ne jp) (ne + 1) jr), cg_N uA cI 60 (va_up (va_up ot ne jq) (ne + 1) js), cg_N wA cI 60 (va_up (va_up wt ne w) (ne + 1) 0), cg_N sA cI 60 (va_up (va_up sg ne z) (ne + 1) 0)] H := hP.sub [0, 1, 2, 3, 4, 5] rfl
                  have hD : va_D A [cg_P pd g wy mt fo fi kp, cg_G g tA oA uA wA sA np ((ne + 1) + 1) bd er ((vr + 1) + 1), cg_N oA cI 60 (va_up (va_up oe ne jp) (ne + 1) jr), cg_N uA cI 60 (va_up (va_up ot ne jq) (ne + 1) js), cg_N wA cI 60 (va_up (va_up wt ne w) (ne + 1) 0), cg_N sA cI 60 (va_up (va_up sg ne z) (ne + 1) 0)] := rw_re hD rfl
                  subst hw_12
                  refine lv_pop hx hb d_P_fault_156 rfl ?_
                  refine lv_iload hx hb d_P_fault_157 (lv_at hl 0 rfl) ?_
                  exact rw_iret () hx hb hr hlocks hS hP rfl d_P_fault_159
                · exact False.elim (by first | (rw [hj1] at c_90; cases c_90; done) | (rw [hj2] at c_104; cases c_104; done) | (rw [hv] at c_112; cases c_112; done) | (simp at c_123; omega))
        · refine lv_iload_n hx hb d_P_fault_62 rfl (lv_at hl 5 rfl) ?_
          refine lv_iconst (v := nI 3) hx hb d_P_fault_63 (by decide) ?_
          refine ro_Si (As := [.int x, .int (nI 3)]) (rest := []) ⟨hx, hb, hml, hown, hts⟩ (c_P_memberOf l dC dI cI cL x 3 (by omega)) (cwS 2 hts (wg_S wk_P_80 ws_P_memberOf wi_P wc_P_memberOf) rfl rfl rfl (by decide +kernel) ⟨Nat.le_of_ble_eq_true rfl, Nat.le_of_ble_eq_true rfl⟩) hK (hP.sub [] rfl) rfl hl.1 rfl (lv_room (Nat.le_of_ble_eq_true rfl)) d_P_fault_64 ⟨Nat.zero_le _, Nat.zero_le _⟩ hS hP (fun H locs hP hS => ?_)
          have hs2 := hs
          rw [if_pos c_59] at hs2
          rw [hs2]
          refine lv_goto (tgt := 77) hx hb d_P_fault_67 (by decide) ?_
          refine lv_istore (lv' := [(8, .int (nI js)), (7, .int (nI jr)), (6, .int (nI jq)), (5, .int (nI jp)), (4, .int (nI (dm_ct (fun i => nb_t x i) 32))), (0, .ref pd), (1, .int x), (2, .int (nI w)), (3, .int (nI z))]) hx hb d_P_fault_77 hl (by decide) rfl (fun ls hl => ?_)
          refine lv_aload_n hx hb d_P_fault_79 rfl (lv_at hl 5 rfl) ?_
          refine va_get (D := (dC, dI)) (ci := 4) (v := .ref g) (C := R_P) (T := F_P) (N := 6) hx hb hts iP hown hK hP 0 rfl rfl 0 (by decide) (hts _ (List.mem_cons_of_mem _ wk_P_10)) (fun _ h9 => h9) rfl d_P_fault_80 ?_
          refine lv_iload hx hb d_P_fault_83 (lv_at hl 3 rfl) ?_
          refine lv_iload hx hb d_P_fault_85 (lv_at hl 2 rfl) ?_
          refine ro_Vi (As := [.int (nI jp), .int (nI jq)]) (rest := []) ⟨hx, hb, hml, hown, hts⟩ (c_G_canJoin l dC dI cI cL g tA oA uA wA sA np ne bd er vr (nI jp) (nI jq) (by omega)) (cwV 2 hts (wg_V wk_P_56 wm_G_canJoin we_G_canJoin wi_G wc_G_canJoin) rfl rfl rfl (by decide +kernel) ⟨Nat.le_of_ble_eq_true rfl, Nat.le_of_ble_eq_true rfl⟩) hK (hP.sub [1] rfl) (q0 := 0) rfl rfl rfl rfl hl.1 rfl (lv_room (Nat.le_of_ble_eq_true rfl)) d_P_fault_87 ⟨Nat.zero_le _, Nat.zero_le _⟩ hS hP (fun H locs hP hS => ?_)
          refine nr_ifeqB (tgt := 126) hx hb d_P_fault_90 (by decide) (fun c_90 => ?_) (fun c_90 => ?_)
          · exact False.elim (by first | (rw [hj1] at c_90; cases c_90; done) | (rw [hj2] at c_104; cases c_104; done) | (rw [hv] at c_112; cases c_112; done) | (simp at c_123; omega))
          · refine lv_aload_n hx hb d_P_fault_93 rfl (lv_at hl 5 rfl) ?_
            refine va_get (D := (dC, dI)) (ci := 4) (v := .ref g) (C := R_P) (T := F_P) (N := 6) hx hb hts iP hown hK hP 0 rfl rfl 0 (by decide) (hts _ (List.mem_cons_of_mem _ wk_P_10)) (fun _ h9 => h9) rfl d_P_fault_94 ?_
            refine lv_iload hx hb d_P_fault_97 (lv_at hl 1 rfl) ?_
            refine lv_iload hx hb d_P_fault_99 (lv_at hl 0 rfl) ?_
            refine ro_Vi (As := [.int (nI jr), .int (nI js)]) (rest := []) ⟨hx, hb, hml, hown, hts⟩ (c_G_canJoin l dC dI cI cL g tA oA uA wA sA np ne bd er vr (nI jr) (nI js) (by omega)) (cwV 2 hts (wg_V wk_P_56 wm_G_canJoin we_G_canJoin wi_G wc_G_canJoin) rfl rfl rfl (by decide +kernel) ⟨Nat.le_of_ble_eq_true rfl, Nat.le_of_ble_eq_true rfl⟩) hK (hP.sub [1] rfl) (q0 := 0) rfl rfl rfl rfl hl.1 rfl (lv_room (Nat.le_of_ble_eq_true rfl)) d_P_fault_101 ⟨Nat.zero_le _, Nat.zero_le _⟩ hS hP (fun H locs hP hS => ?_)
            refine nr_ifeqB (tgt := 126) hx hb d_P_fault_104 (by decide) (fun c_104 => ?_) (fun c_104 => ?_)
            · exact False.elim (by first | (rw [hj1] at c_90; cases c_90; done) | (rw [hj2] at c_104; cases c_104; done) | (rw [hv] at c_112; cases c_112; done) | (simp at c_123; omega))
            · refine lv_iload_n hx hb d_P_fault_107 rfl (lv_at hl 7 rfl) ?_
              refine lv_iload_n hx hb d_P_fault_108 rfl (lv_at hl 8 rfl) ?_
              refine ro_Si (As := [.int (nI w), .int (nI z)]) (rest := []) ⟨hx, hb, hml, hown, hts⟩ (c_P_areEdgeValues l dC dI cI cL (nI w) (nI z) ) (cwS 2 hts (wg_S wk_P_60 ws_P_areEdgeValues wi_P wc_P_areEdgeValues) rfl rfl rfl (by decide +kernel) ⟨Nat.le_of_ble_eq_true rfl, Nat.le_of_ble_eq_true rfl⟩) hK (hP.sub [] rfl) rfl hl.1 rfl (lv_room (Nat.le_of_ble_eq_true rfl)) d_P_fault_109 ⟨Nat.zero_le _, Nat.zero_le _⟩ hS hP (fun H locs hP hS => ?_)
              refine nr_ifeqB (tgt := 126) hx hb d_P_fault_112 (by decide) (fun c_112 => ?_) (fun c_112 => ?_)
              · exact False.elim (by first | (rw [hj1] at c_90; cases c_90; done) | (rw [hj2] at c_104; cases c_104; done) | (rw [hv] at c_112; cases c_112; done) | (simp at c_123; omega))
              · refine lv_aload_n hx hb d_P_fault_115 rfl (lv_at hl 5 rfl) ?_
                refine va_get (D := (dC, dI)) (ci := 4) (v := .ref g) (C := R_P) (T := F_P) (N := 6) hx hb hts iP hown hK hP 0 rfl rfl 0 (by decide) (hts _ (List.mem_cons_of_mem _ wk_P_10)) (fun _ h9 => h9) rfl d_P_fault_116 ?_
                refine lv_iconst (v := nI 2) hx hb d_P_fault_119 (by decide) ?_
                refine ro_Vi (As := [.int (nI 2)]) (rest := []) ⟨hx, hb, hml, hown, hts⟩ (c_G_hasRoomFor l dC dI cI cL g tA oA uA wA sA np ne bd er vr 2 (by omega) (by omega)) (cwV 1 hts (wg_V wk_P_63 wm_G_hasRoomFor we_G_hasRoomFor wi_G wc_G_hasRoomFor) rfl rfl rfl (by decide +kernel) ⟨Nat.le_of_ble_eq_true rfl, Nat.le_of_ble_eq_true rfl⟩) hK (hP.sub [1] rfl) (q0 := 0) rfl rfl rfl rfl hl.1 rfl (lv_room (Nat.le_of_ble_eq_true rfl)) d_P_fault_120 ⟨Nat.zero_le _, Nat.zero_le _⟩ hS hP (fun H locs hP hS => ?_)
                refine nr_ifneB (tgt := 128) hx hb d_P_fault_123 (by decide) (fun c_123 => ?_) (fun c_123 => ?_)
                · refine lv_aload_n hx hb d_P_fault_128 rfl (lv_at hl 5 rfl) ?_
                  refine va_get (D := (dC, dI)) (ci := 4) (v := .ref g) (C := R_P) (T := F_P) (N := 6) hx hb hts iP hown hK hP 0 rfl rfl 0 (by decide) (hts _ (List.mem_cons_of_mem _ wk_P_10)) (fun _ h9 => h9) rfl d_P_fault_129 ?_
                  refine lv_iload hx hb d_P_fault_132 (lv_at hl 3 rfl) ?_
                  refine lv_iload hx hb d_P_fault_134 (lv_at hl 2 rfl) ?_
                  refine lv_iload_n hx hb d_P_fault_136 rfl (lv_at hl 7 rfl) ?_
                  refine lv_iload_n hx hb d_P_fault_137 rfl (lv_at hl 8 rfl) ?_
                  refine rw_Vi (wr := [cg_P pd g wy mt fo fi kp]) [1, 2, 3, 4, 5] [0] rfl rfl (by decide) (As := [.int (nI jp), .int (nI jq), .int (nI w), .int (nI z)]) (rest := []) ⟨hx, hb, hml, hown, hts⟩ (c_G_addEdge l dC dI cI cL g tA oA uA wA sA np ne bd er vr oe ot wt sg jp jq w z (by omega)) (cwV 4 hts (wg_V wk_P_67 wm_G_addEdge we_G_addEdge wi_G wc_G_addEdge) rfl rfl rfl (by decide +kernel) ⟨Nat.le_of_ble_eq_true rfl, Nat.le_of_ble_eq_true rfl⟩) hK (hP.sub [1, 2, 3, 4, 5] rfl) ((hD.sub [1, 2, 3, 4, 5] (by decide) rfl).weaken (fun _ _ _ _ => trivial)) (q0 := 0) rfl rfl rfl rfl hl.1 rfl (lv_room (Nat.le_of_ble_eq_true rfl)) d_P_fault_138 ⟨Nat.zero_le _, Nat.zero_le _⟩ hS hP hD (fun r_13 u H locs hw_14 hP hS => ?_)
                  have hP : va_P (dC, dI) classes [cg_P pd g wy mt fo fi kp, cg_G g tA oA uA wA sA np (ne + 1) bd er (vr + 1), cg_N oA cI 60 (va_up oe ne jp), cg_N uA cI 60 (va_up ot ne jq), cg_N wA cI 60 (va_up wt ne w), cg_N sA cI 60 (va_up sg ne z)] H := hP.sub [0, 1, 2, 3, 4, 5] rfl
                  have hD : va_D A [cg_P pd g wy mt fo fi kp, cg_G g tA oA uA wA sA np (ne + 1) bd er (vr + 1), cg_N oA cI 60 (va_up oe ne jp), cg_N uA cI 60 (va_up ot ne jq), cg_N wA cI 60 (va_up wt ne w), cg_N sA cI 60 (va_up sg ne z)] := rw_re hD rfl
                  subst hw_14
                  refine lv_istore (lv' := [(9, .int (nI ne)), (8, .int (nI js)), (7, .int (nI jr)), (6, .int (nI jq)), (5, .int (nI jp)), (4, .int (nI (dm_ct (fun i => nb_t x i) 32))), (0, .ref pd), (1, .int x), (2, .int (nI w)), (3, .int (nI z))]) hx hb d_P_fault_141 hl (by decide) rfl (fun ls hl => ?_)
                  refine lv_aload_n hx hb d_P_fault_143 rfl (lv_at hl 6 rfl) ?_
                  refine va_get (D := (dC, dI)) (ci := 4) (v := .ref g) (C := R_P) (T := F_P) (N := 6) hx hb hts iP hown hK hP 0 rfl rfl 0 (by decide) (hts _ (List.mem_cons_of_mem _ wk_P_10)) (fun _ h9 => h9) rfl d_P_fault_144 ?_
                  refine lv_iload hx hb d_P_fault_147 (lv_at hl 2 rfl) ?_
                  refine lv_iload hx hb d_P_fault_149 (lv_at hl 1 rfl) ?_
                  refine lv_iconst (v := nI 0) hx hb d_P_fault_151 (by decide) ?_
                  refine lv_iconst (v := nI 0) hx hb d_P_fault_152 (by decide) ?_
                  refine rw_Vi (wr := [cg_P pd g wy mt fo fi kp]) [1, 2, 3, 4, 5] [0] rfl rfl (by decide) (As := [.int (nI jr), .int (nI js), .int (nI 0), .int (nI 0)]) (rest := []) ⟨hx, hb, hml, hown, hts⟩ (c_G_addEdge l dC dI cI cL g tA oA uA wA sA np (ne + 1) bd er (vr + 1) (va_up oe ne jp) (va_up ot ne jq) (va_up wt ne w) (va_up sg ne z) jr js 0 0 (by omega)) (cwV 4 hts (wg_V wk_P_67 wm_G_addEdge we_G_addEdge wi_G wc_G_addEdge) rfl rfl rfl (by decide +kernel) ⟨Nat.le_of_ble_eq_true rfl, Nat.le_of_ble_eq_true rfl⟩) hK (hP.sub [1, 2, 3, 4, 5] rfl) ((hD.sub [1, 2, 3, 4, 5] (by decide) rfl).weaken (fun _ _ _ _ => trivial)) (q0 := 0) rfl rfl rfl rfl hl.1 rfl (lv_room (Nat.le_of_ble_eq_true rfl)) d_P_fault_153 ⟨Nat.zero_le _, Nat.zero_le _⟩ hS hP hD (fun r_15 u H locs hw_16 hP hS => ?_)
                  have hP : va_P (dC, dI) classes [cg_P pd g wy mt fo fi kp, cg_G g tA oA uA wA sA np ((ne + 1) + 1) bd er ((vr + 1) + 1), cg_N oA cI 60 (va_up (va_up oe ne jp) (ne + 1) jr), cg_N uA cI 60 (va_up (va_up ot ne jq) (ne + 1) js), cg_N wA cI 60 (va_up (va_up wt ne w) (ne + 1) 0), cg_N sA cI 60 (va_up (va_up sg ne z) (ne + 1) 0)] H := hP.sub [0, 1, 2, 3, 4, 5] rfl
                  have hD : va_D A [cg_P pd g wy mt fo fi kp, cg_G g tA oA uA wA sA np ((ne + 1) + 1) bd er ((vr + 1) + 1), cg_N oA cI 60 (va_up (va_up oe ne jp) (ne + 1) jr), cg_N uA cI 60 (va_up (va_up ot ne jq) (ne + 1) js), cg_N wA cI 60 (va_up (va_up wt ne w) (ne + 1) 0), cg_N sA cI 60 (va_up (va_up sg ne z) (ne + 1) 0)] := rw_re hD rfl
                  subst hw_16
                  refine lv_pop hx hb d_P_fault_156 rfl ?_
                  refine lv_iload hx hb d_P_fault_157 (lv_at hl 0 rfl) ?_
                  exact rw_iret () hx hb hr hlocks hS hP rfl d_P_fault_159
                · exact False.elim (by first | (rw [hj1] at c_90; cases c_90; done) | (rw [hj2] at c_104; cases c_104; done) | (rw [hv] at c_112; cases c_112; done) | (simp at c_123; omega))
      · exact False.elim (by omega)
set_option maxHeartbeats 4000000 in
set_option maxRecDepth 100000 in
theorem c_P_fault_no (l : Launch) (dC : Nat → ClassId) (dI : Nat → Nat → Nat) (cI cL : ClassId) (pd g wy mt fo : Nat) (fi : Int32) (kp : Int64) (tA oA uA wA sA np ne : Nat) (bd : Int32) (er : Int64) (vr : Nat) (x w z : Int32) (hnp : np ≤ 20) (hne : ne ≤ 60) (hno : ¬ (ng_fit np x = true ∧ (dm_ct (fun i => nb_t x i) 32 = 3 ∨ dm_ct (fun i => nb_t x i) 32 = 4) ∧ ng_join np bd (ng_nth x 20 0 0) (ng_nth x 20 0 1) = true ∧ ng_join np bd (ng_nth x 20 0 2) (if dm_ct (fun i => nb_t x i) 32 = 4 then ng_nth x 20 0 3 else ng_nth bd 20 0 0) = true ∧ ng_ev w z = true ∧ ne + 2 ≤ 60)) : Met l y_P_fault w_P_fault ({ frames := 2, cells := 0, slots := 0, locals := 43 } : Room) (va_Pc [.ref pd, .int x, .int w, .int z] (ro_Z (dC, dI) classes [(cI, .int), (cL, .long)] [cg_P pd g wy mt fo fi kp, cg_G g tA oA uA wA sA np ne bd er vr])) (ro_Qi (-1)) 0 0 ro_A := by
  refine Met.ofW (cc := b_P_fault) (maxL := 10) (ret := (some .int)) (by decide) rfl ?_
  intro p e s m args below meth c s₁ B hml hv
  obtain ⟨rfl, ⟨hP, hK⟩, hnz⟩ := hv
  have hx := B.exec
  have hb := B.bytes
  have hr := B.returns
  have hts := atoms_spec (ws := w_P_fault) B.pre
  have hown : s.vm.findClass R_P = some m.cls := findClass_of_methodNamed B.named
  have hlocks := B.notSynchronized
  have iP : ∀ w ∈ w_P, w ∈ w_P_fault := fun w h => List.mem_cons_of_mem _ (i_P w h)
  have hS : va_S ro_A s.heap s.heap [] := va_S.rf
  have hP : va_P (dC, dI) classes [cg_P pd g wy mt fo fi kp, cg_G g tA oA uA wA sA np ne bd er vr] s.heap := hP
  have hl := lv_entry ([.ref pd, .int x, .int w, .int z]) (n := 10) (Nat.le_of_ble_eq_true rfl)
  rw [lg_entry_eq]
  generalize (lg_sl ([.ref pd, .int x, .int w, .int z]) ++ List.replicate (10 - (lg_sl ([.ref pd, .int x, .int w, .int z])).length) Slot.unset).toArray = ls at hl ⊢
  have hl : lv_has ls 10 [(0, .ref pd), (1, .int x), (2, .int w), (3, .int z)] := hl
  have hpc := dm_ct_le (P := fun i => nb_t x i) (n := 32)
  refine lv_aload_n hx hb d_P_fault_0 rfl (lv_at hl 0 rfl) ?_
  refine va_get (D := (dC, dI)) (ci := 4) (v := .ref g) (C := R_P) (T := F_P) (N := 6) hx hb hts iP hown hK hP 0 rfl rfl 0 (by decide) (hts _ (List.mem_cons_of_mem _ wk_P_10)) (fun _ h9 => h9) rfl d_P_fault_1 ?_
  refine lv_iload_n hx hb d_P_fault_4 rfl (lv_at hl 1 rfl) ?_
  refine ro_Vi (As := [.int x]) (rest := []) ⟨hx, hb, hml, hown, hts⟩ (c_G_hasPoints l dC dI cI cL g tA oA uA wA sA np ne bd er vr x ) (cwV 1 hts (wg_V wk_P_71 wm_G_hasPoints we_G_hasPoints wi_G wc_G_hasPoints) rfl rfl rfl (by decide +kernel) ⟨Nat.le_of_ble_eq_true rfl, Nat.le_of_ble_eq_true rfl⟩) hK (hP.sub [1] rfl) (q0 := 0) rfl rfl rfl rfl hl.1 rfl (lv_room (Nat.le_of_ble_eq_true rfl)) d_P_fault_5 ⟨Nat.zero_le _, Nat.zero_le _⟩ hS hP (fun H locs hP hS => ?_)
  refine nr_ifeqB (tgt := 18) hx hb d_P_fault_8 (by decide) (fun c_8 => ?_) (fun c_8 => ?_)
  · refine lv_iconst (v := nI 0) hx hb d_P_fault_18 (by decide) ?_
    refine lv_istore (lv' := [(4, .int (nI 0)), (0, .ref pd), (1, .int x), (2, .int w), (3, .int z)]) hx hb d_P_fault_19 hl (by decide) rfl (fun ls hl => ?_)
    refine lv_iload hx hb d_P_fault_21 (lv_at hl 0 rfl) ?_
    refine lv_iconst (v := nI 3) hx hb d_P_fault_23 (by decide) ?_
    refine nr_icmp_eq (by omega) (by omega) (tgt := 35) hx hb d_P_fault_24 (by decide) (fun c_24 => ?_) (fun c_24 => ?_)
    · refine lv_iload_n hx hb d_P_fault_35 rfl (lv_at hl 2 rfl) ?_
      refine lv_iconst (v := nI 0) hx hb d_P_fault_36 (by decide) ?_
      refine ro_Si (As := [.int x, .int (nI 0)]) (rest := []) ⟨hx, hb, hml, hown, hts⟩ (c_P_memberOf l dC dI cI cL x 0 (by omega)) (cwS 2 hts (wg_S wk_P_80 ws_P_memberOf wi_P wc_P_memberOf) rfl rfl rfl (by decide +kernel) ⟨Nat.le_of_ble_eq_true rfl, Nat.le_of_ble_eq_true rfl⟩) hK (hP.sub [] rfl) rfl hl.1 rfl (lv_room (Nat.le_of_ble_eq_true rfl)) d_P_fault_37 ⟨Nat.zero_le _, Nat.zero_le _⟩ hS hP (fun H locs hP hS => ?_)
      refine lv_istore (lv' := [(5, .int (ng_nth x 20 0 0)), (4, .int (nI 0)), (0, .ref pd), (1, .int x), (2, .int w), (3, .int z)]) hx hb d_P_fault_40 hl (by decide) rfl (fun ls hl => ?_)
      refine lv_iload_n hx hb d_P_fault_42 rfl (lv_at hl 3 rfl) ?_
      refine lv_iconst (v := nI 1) hx hb d_P_fault_43 (by decide) ?_
      refine ro_Si (As := [.int x, .int (nI 1)]) (rest := []) ⟨hx, hb, hml, hown, hts⟩ (c_P_memberOf l dC dI cI cL x 1 (by omega)) (cwS 2 hts (wg_S wk_P_80 ws_P_memberOf wi_P wc_P_memberOf) rfl rfl rfl (by decide +kernel) ⟨Nat.le_of_ble_eq_true rfl, Nat.le_of_ble_eq_true rfl⟩) hK (hP.sub [] rfl) rfl hl.1 rfl (lv_room (Nat.le_of_ble_eq_true rfl)) d_P_fault_44 ⟨Nat.zero_le _, Nat.zero_le _⟩ hS hP (fun H locs hP hS => ?_)
      refine lv_istore (lv' := [(6, .int (ng_nth x 20 0 1)), (5, .int (ng_nth x 20 0 0)), (4, .int (nI 0)), (0, .ref pd), (1, .int x), (2, .int w), (3, .int z)]) hx hb d_P_fault_47 hl (by decide) rfl (fun ls hl => ?_)
      refine lv_iload_n hx hb d_P_fault_49 rfl (lv_at hl 4 rfl) ?_
      refine lv_iconst (v := nI 2) hx hb d_P_fault_50 (by decide) ?_
      refine ro_Si (As := [.int x, .int (nI 2)]) (rest := []) ⟨hx, hb, hml, hown, hts⟩ (c_P_memberOf l dC dI cI cL x 2 (by omega)) (cwS 2 hts (wg_S wk_P_80 ws_P_memberOf wi_P wc_P_memberOf) rfl rfl rfl (by decide +kernel) ⟨Nat.le_of_ble_eq_true rfl, Nat.le_of_ble_eq_true rfl⟩) hK (hP.sub [] rfl) rfl hl.1 rfl (lv_room (Nat.le_of_ble_eq_true rfl)) d_P_fault_51 ⟨Nat.zero_le _, Nat.zero_le _⟩ hS hP (fun H locs hP hS => ?_)
      refine lv_istore (lv' := [(7, .int (ng_nth x 20 0 2)), (6, .int (ng_nth x 20 0 1)), (5, .int (ng_nth x 20 0 0)), (4, .int (nI 0)), (0, .ref pd), (1, .int x), (2, .int w), (3, .int z)]) hx hb d_P_fault_54 hl (by decide) rfl (fun ls hl => ?_)
      refine lv_iload hx hb d_P_fault_56 (lv_at hl 3 rfl) ?_
      refine lv_iconst (v := nI 4) hx hb d_P_fault_58 (by decide) ?_
      refine nr_icmp_ne (by omega) (by omega) (tgt := 70) hx hb d_P_fault_59 (by decide) (fun c_59 => ?_) (fun c_59 => ?_)
      · have e59 : (if dm_ct (fun i => nb_t x i) 32 = 4 then ng_nth x 20 0 3 else ng_nth bd 20 0 0) = ng_nth bd 20 0 0 := if_neg (by omega)
        refine lv_aload_n hx hb d_P_fault_70 rfl (lv_at hl 4 rfl) ?_
        refine va_get (D := (dC, dI)) (ci := 4) (v := .ref g) (C := R_P) (T := F_P) (N := 6) hx hb hts iP hown hK hP 0 rfl rfl 0 (by decide) (hts _ (List.mem_cons_of_mem _ wk_P_10)) (fun _ h9 => h9) rfl d_P_fault_71 ?_
        refine ro_ViZ (As := []) (rest := []) ⟨hx, hb, hml, hown, hts⟩ (c_G_leastBoundary l dC dI cI cL g tA oA uA wA sA np ne bd er vr ) (cwV 0 hts (wg_V wk_P_84 wm_G_leastBoundary we_G_leastBoundary wi_G wc_G_leastBoundary) rfl rfl rfl (by decide +kernel) ⟨Nat.le_of_ble_eq_true rfl, Nat.le_of_ble_eq_true rfl⟩) hnz hK (hP.sub [1] rfl) (q0 := 0) rfl rfl rfl rfl hl.1 rfl (lv_room (Nat.le_of_ble_eq_true rfl)) d_P_fault_74 ⟨Nat.zero_le _, Nat.zero_le _⟩ hS hP (fun H locs hP hS => ?_)
        refine lv_istore (lv' := [(8, .int (ng_nth bd 20 0 0)), (7, .int (ng_nth x 20 0 2)), (6, .int (ng_nth x 20 0 1)), (5, .int (ng_nth x 20 0 0)), (4, .int (nI 0)), (0, .ref pd), (1, .int x), (2, .int w), (3, .int z)]) hx hb d_P_fault_77 hl (by decide) rfl (fun ls hl => ?_)
        refine lv_aload_n hx hb d_P_fault_79 rfl (lv_at hl 5 rfl) ?_
        refine va_get (D := (dC, dI)) (ci := 4) (v := .ref g) (C := R_P) (T := F_P) (N := 6) hx hb hts iP hown hK hP 0 rfl rfl 0 (by decide) (hts _ (List.mem_cons_of_mem _ wk_P_10)) (fun _ h9 => h9) rfl d_P_fault_80 ?_
        refine lv_iload hx hb d_P_fault_83 (lv_at hl 3 rfl) ?_
        refine lv_iload hx hb d_P_fault_85 (lv_at hl 2 rfl) ?_
        refine ro_Vi (As := [.int (ng_nth x 20 0 0), .int (ng_nth x 20 0 1)]) (rest := []) ⟨hx, hb, hml, hown, hts⟩ (c_G_canJoin l dC dI cI cL g tA oA uA wA sA np ne bd er vr (ng_nth x 20 0 0) (ng_nth x 20 0 1) (by omega)) (cwV 2 hts (wg_V wk_P_56 wm_G_canJoin we_G_canJoin wi_G wc_G_canJoin) rfl rfl rfl (by decide +kernel) ⟨Nat.le_of_ble_eq_true rfl, Nat.le_of_ble_eq_true rfl⟩) hK (hP.sub [1] rfl) (q0 := 0) rfl rfl rfl rfl hl.1 rfl (lv_room (Nat.le_of_ble_eq_true rfl)) d_P_fault_87 ⟨Nat.zero_le _, Nat.zero_le _⟩ hS hP (fun H locs hP hS => ?_)
        refine nr_ifeqB (tgt := 126) hx hb d_P_fault_90 (by decide) (fun c_90 => ?_) (fun c_90 => ?_)
        · refine lv_iconst (v := -1) hx hb d_P_fault_126 (by decide) ?_
          exact ro_iret hx hb hr hlocks hS rfl d_P_fault_127
        · refine lv_aload_n hx hb d_P_fault_93 rfl (lv_at hl 5 rfl) ?_
          refine va_get (D := (dC, dI)) (ci := 4) (v := .ref g) (C := R_P) (T := F_P) (N := 6) hx hb hts iP hown hK hP 0 rfl rfl 0 (by decide) (hts _ (List.mem_cons_of_mem _ wk_P_10)) (fun _ h9 => h9) rfl d_P_fault_94 ?_
          refine lv_iload hx hb d_P_fault_97 (lv_at hl 1 rfl) ?_
          refine lv_iload hx hb d_P_fault_99 (lv_at hl 0 rfl) ?_
          refine ro_Vi (As := [.int (ng_nth x 20 0 2), .int (ng_nth bd 20 0 0)]) (rest := []) ⟨hx, hb, hml, hown, hts⟩ (c_G_canJoin l dC dI cI cL g tA oA uA wA sA np ne bd er vr (ng_nth x 20 0 2) (ng_nth bd 20 0 0) (by omega)) (cwV 2 hts (wg_V wk_P_56 wm_G_canJoin we_G_canJoin wi_G wc_G_canJoin) rfl rfl rfl (by decide +kernel) ⟨Nat.le_of_ble_eq_true rfl, Nat.le_of_ble_eq_true rfl⟩) hK (hP.sub [1] rfl) (q0 := 0) rfl rfl rfl rfl hl.1 rfl (lv_room (Nat.le_of_ble_eq_true rfl)) d_P_fault_101 ⟨Nat.zero_le _, Nat.zero_le _⟩ hS hP (fun H locs hP hS => ?_)
          refine nr_ifeqB (tgt := 126) hx hb d_P_fault_104 (by decide) (fun c_104 => ?_) (fun c_104 => ?_)
          · refine lv_iconst (v := -1) hx hb d_P_fault_126 (by decide) ?_
            exact ro_iret hx hb hr hlocks hS rfl d_P_fault_127
          · refine lv_iload_n hx hb d_P_fault_107 rfl (lv_at hl 7 rfl) ?_
            refine lv_iload_n hx hb d_P_fault_108 rfl (lv_at hl 8 rfl) ?_
            refine ro_Si (As := [.int w, .int z]) (rest := []) ⟨hx, hb, hml, hown, hts⟩ (c_P_areEdgeValues l dC dI cI cL w z ) (cwS 2 hts (wg_S wk_P_60 ws_P_areEdgeValues wi_P wc_P_areEdgeValues) rfl rfl rfl (by decide +kernel) ⟨Nat.le_of_ble_eq_true rfl, Nat.le_of_ble_eq_true rfl⟩) hK (hP.sub [] rfl) rfl hl.1 rfl (lv_room (Nat.le_of_ble_eq_true rfl)) d_P_fault_109 ⟨Nat.zero_le _, Nat.zero_le _⟩ hS hP (fun H locs hP hS => ?_)
            refine nr_ifeqB (tgt := 126) hx hb d_P_fault_112 (by decide) (fun c_112 => ?_) (fun c_112 => ?_)
            · refine lv_iconst (v := -1) hx hb d_P_fault_126 (by decide) ?_
              exact ro_iret hx hb hr hlocks hS rfl d_P_fault_127
            · refine lv_aload_n hx hb d_P_fault_115 rfl (lv_at hl 5 rfl) ?_
              refine va_get (D := (dC, dI)) (ci := 4) (v := .ref g) (C := R_P) (T := F_P) (N := 6) hx hb hts iP hown hK hP 0 rfl rfl 0 (by decide) (hts _ (List.mem_cons_of_mem _ wk_P_10)) (fun _ h9 => h9) rfl d_P_fault_116 ?_
              refine lv_iconst (v := nI 2) hx hb d_P_fault_119 (by decide) ?_
              refine ro_Vi (As := [.int (nI 2)]) (rest := []) ⟨hx, hb, hml, hown, hts⟩ (c_G_hasRoomFor l dC dI cI cL g tA oA uA wA sA np ne bd er vr 2 (by omega) (by omega)) (cwV 1 hts (wg_V wk_P_63 wm_G_hasRoomFor we_G_hasRoomFor wi_G wc_G_hasRoomFor) rfl rfl rfl (by decide +kernel) ⟨Nat.le_of_ble_eq_true rfl, Nat.le_of_ble_eq_true rfl⟩) hK (hP.sub [1] rfl) (q0 := 0) rfl rfl rfl rfl hl.1 rfl (lv_room (Nat.le_of_ble_eq_true rfl)) d_P_fault_120 ⟨Nat.zero_le _, Nat.zero_le _⟩ hS hP (fun H locs hP hS => ?_)
              refine nr_ifneB (tgt := 128) hx hb d_P_fault_123 (by decide) (fun c_123 => ?_) (fun c_123 => ?_)
              · exact False.elim (by first | (exact hno ⟨c_8, by omega, c_90, by rw [e59]; exact c_104, c_112, by simp at c_123; omega⟩) | omega)
              · refine lv_iconst (v := -1) hx hb d_P_fault_126 (by decide) ?_
                exact ro_iret hx hb hr hlocks hS rfl d_P_fault_127
      · have e59 : (if dm_ct (fun i => nb_t x i) 32 = 4 then ng_nth x 20 0 3 else ng_nth bd 20 0 0) = ng_nth x 20 0 3 := if_pos (by omega)
        refine lv_iload_n hx hb d_P_fault_62 rfl (lv_at hl 5 rfl) ?_
        refine lv_iconst (v := nI 3) hx hb d_P_fault_63 (by decide) ?_
        refine ro_Si (As := [.int x, .int (nI 3)]) (rest := []) ⟨hx, hb, hml, hown, hts⟩ (c_P_memberOf l dC dI cI cL x 3 (by omega)) (cwS 2 hts (wg_S wk_P_80 ws_P_memberOf wi_P wc_P_memberOf) rfl rfl rfl (by decide +kernel) ⟨Nat.le_of_ble_eq_true rfl, Nat.le_of_ble_eq_true rfl⟩) hK (hP.sub [] rfl) rfl hl.1 rfl (lv_room (Nat.le_of_ble_eq_true rfl)) d_P_fault_64 ⟨Nat.zero_le _, Nat.zero_le _⟩ hS hP (fun H locs hP hS => ?_)
        refine lv_goto (tgt := 77) hx hb d_P_fault_67 (by decide) ?_
        refine lv_istore (lv' := [(8, .int (ng_nth x 20 0 3)), (7, .int (ng_nth x 20 0 2)), (6, .int (ng_nth x 20 0 1)), (5, .int (ng_nth x 20 0 0)), (4, .int (nI 0)), (0, .ref pd), (1, .int x), (2, .int w), (3, .int z)]) hx hb d_P_fault_77 hl (by decide) rfl (fun ls hl => ?_)
        refine lv_aload_n hx hb d_P_fault_79 rfl (lv_at hl 5 rfl) ?_
        refine va_get (D := (dC, dI)) (ci := 4) (v := .ref g) (C := R_P) (T := F_P) (N := 6) hx hb hts iP hown hK hP 0 rfl rfl 0 (by decide) (hts _ (List.mem_cons_of_mem _ wk_P_10)) (fun _ h9 => h9) rfl d_P_fault_80 ?_
        refine lv_iload hx hb d_P_fault_83 (lv_at hl 3 rfl) ?_
        refine lv_iload hx hb d_P_fault_85 (lv_at hl 2 rfl) ?_
        refine ro_Vi (As := [.int (ng_nth x 20 0 0), .int (ng_nth x 20 0 1)]) (rest := []) ⟨hx, hb, hml, hown, hts⟩ (c_G_canJoin l dC dI cI cL g tA oA uA wA sA np ne bd er vr (ng_nth x 20 0 0) (ng_nth x 20 0 1) (by omega)) (cwV 2 hts (wg_V wk_P_56 wm_G_canJoin we_G_canJoin wi_G wc_G_canJoin) rfl rfl rfl (by decide +kernel) ⟨Nat.le_of_ble_eq_true rfl, Nat.le_of_ble_eq_true rfl⟩) hK (hP.sub [1] rfl) (q0 := 0) rfl rfl rfl rfl hl.1 rfl (lv_room (Nat.le_of_ble_eq_true rfl)) d_P_fault_87 ⟨Nat.zero_le _, Nat.zero_le _⟩ hS hP (fun H locs hP hS => ?_)
        refine nr_ifeqB (tgt := 126) hx hb d_P_fault_90 (by decide) (fun c_90 => ?_) (fun c_90 => ?_)
        · refine lv_iconst (v := -1) hx hb d_P_fault_126 (by decide) ?_
          exact ro_iret hx hb hr hlocks hS rfl d_P_fault_127
        · refine lv_aload_n hx hb d_P_fault_93 rfl (lv_at hl 5 rfl) ?_
          refine va_get (D := (dC, dI)) (ci := 4) (v := .ref g) (C := R_P) (T := F_P) (N := 6) hx hb hts iP hown hK hP 0 rfl rfl 0 (by decide) (hts _ (List.mem_cons_of_mem _ wk_P_10)) (fun _ h9 => h9) rfl d_P_fault_94 ?_
          refine lv_iload hx hb d_P_fault_97 (lv_at hl 1 rfl) ?_
          refine lv_iload hx hb d_P_fault_99 (lv_at hl 0 rfl) ?_
          refine ro_Vi (As := [.int (ng_nth x 20 0 2), .int (ng_nth x 20 0 3)]) (rest := []) ⟨hx, hb, hml, hown, hts⟩ (c_G_canJoin l dC dI cI cL g tA oA uA wA sA np ne bd er vr (ng_nth x 20 0 2) (ng_nth x 20 0 3) (by omega)) (cwV 2 hts (wg_V wk_P_56 wm_G_canJoin we_G_canJoin wi_G wc_G_canJoin) rfl rfl rfl (by decide +kernel) ⟨Nat.le_of_ble_eq_true rfl, Nat.le_of_ble_eq_true rfl⟩) hK (hP.sub [1] rfl) (q0 := 0) rfl rfl rfl rfl hl.1 rfl (lv_room (Nat.le_of_ble_eq_true rfl)) d_P_fault_101 ⟨Nat.zero_le _, Nat.zero_le _⟩ hS hP (fun H locs hP hS => ?_)
          refine nr_ifeqB (tgt := 126) hx hb d_P_fault_104 (by decide) (fun c_104 => ?_) (fun c_104 => ?_)
          · refine lv_iconst (v := -1) hx hb d_P_fault_126 (by decide) ?_
            exact ro_iret hx hb hr hlocks hS rfl d_P_fault_127
          · refine lv_iload_n hx hb d_P_fault_107 rfl (lv_at hl 7 rfl) ?_
            refine lv_iload_n hx hb d_P_fault_108 rfl (lv_at hl 8 rfl) ?_
            refine ro_Si (As := [.int w, .int z]) (rest := []) ⟨hx, hb, hml, hown, hts⟩ (c_P_areEdgeValues l dC dI cI cL w z ) (cwS 2 hts (wg_S wk_P_60 ws_P_areEdgeValues wi_P wc_P_areEdgeValues) rfl rfl rfl (by decide +kernel) ⟨Nat.le_of_ble_eq_true rfl, Nat.le_of_ble_eq_true rfl⟩) hK (hP.sub [] rfl) rfl hl.1 rfl (lv_room (Nat.le_of_ble_eq_true rfl)) d_P_fault_109 ⟨Nat.zero_le _, Nat.zero_le _⟩ hS hP (fun H locs hP hS => ?_)
            refine nr_ifeqB (tgt := 126) hx hb d_P_fault_112 (by decide) (fun c_112 => ?_) (fun c_112 => ?_)
            · refine lv_iconst (v := -1) hx hb d_P_fault_126 (by decide) ?_
              exact ro_iret hx hb hr hlocks hS rfl d_P_fault_127
            · refine lv_aload_n hx hb d_P_fault_115 rfl (lv_at hl 5 rfl) ?_
              refine va_get (D := (dC, dI)) (ci := 4) (v := .ref g) (C := R_P) (T := F_P) (N := 6) hx hb hts iP hown hK hP 0 rfl rfl 0 (by decide) (hts _ (List.mem_cons_of_mem _ wk_P_10)) (fun _ h9 => h9) rfl d_P_fault_116 ?_
              refine lv_iconst (v := nI 2) hx hb d_P_fault_119 (by decide) ?_
              refine ro_Vi (As := [.int (nI 2)]) (rest := []) ⟨hx, hb, hml, hown, hts⟩ (c_G_hasRoomFor l dC dI cI cL g tA oA uA wA sA np ne bd er vr 2 (by omega) (by omega)) (cwV 1 hts (wg_V wk_P_63 wm_G_hasRoomFor we_G_hasRoomFor wi_G wc_G_hasRoomFor) rfl rfl rfl (by decide +kernel) ⟨Nat.le_of_ble_eq_true rfl, Nat.le_of_ble_eq_true rfl⟩) hK (hP.sub [1] rfl) (q0 := 0) rfl rfl rfl rfl hl.1 rfl (lv_room (Nat.le_of_ble_eq_true rfl)) d_P_fault_120 ⟨Nat.zero_le _, Nat.zero_le _⟩ hS hP (fun H locs hP hS => ?_)
              refine nr_ifneB (tgt := 128) hx hb d_P_fault_123 (by decide) (fun c_123 => ?_) (fun c_123 => ?_)
              · exact False.elim (by first | (exact hno ⟨c_8, by omega, c_90, by rw [e59]; exact c_104, c_112, by simp at c_123; omega⟩) | omega)
              · refine lv_iconst (v := -1) hx hb d_P_fault_126 (by decide) ?_
                exact ro_iret hx hb hr hlocks hS rfl d_P_fault_127
    · refine lv_iload hx hb d_P_fault_27 (lv_at hl 0 rfl) ?_
      refine lv_iconst (v := nI 4) hx hb d_P_fault_29 (by decide) ?_
      refine nr_icmp_eq (by omega) (by omega) (tgt := 35) hx hb d_P_fault_30 (by decide) (fun c_30 => ?_) (fun c_30 => ?_)
      · refine lv_iload_n hx hb d_P_fault_35 rfl (lv_at hl 2 rfl) ?_
        refine lv_iconst (v := nI 0) hx hb d_P_fault_36 (by decide) ?_
        refine ro_Si (As := [.int x, .int (nI 0)]) (rest := []) ⟨hx, hb, hml, hown, hts⟩ (c_P_memberOf l dC dI cI cL x 0 (by omega)) (cwS 2 hts (wg_S wk_P_80 ws_P_memberOf wi_P wc_P_memberOf) rfl rfl rfl (by decide +kernel) ⟨Nat.le_of_ble_eq_true rfl, Nat.le_of_ble_eq_true rfl⟩) hK (hP.sub [] rfl) rfl hl.1 rfl (lv_room (Nat.le_of_ble_eq_true rfl)) d_P_fault_37 ⟨Nat.zero_le _, Nat.zero_le _⟩ hS hP (fun H locs hP hS => ?_)
        refine lv_istore (lv' := [(5, .int (ng_nth x 20 0 0)), (4, .int (nI 0)), (0, .ref pd), (1, .int x), (2, .int w), (3, .int z)]) hx hb d_P_fault_40 hl (by decide) rfl (fun ls hl => ?_)
        refine lv_iload_n hx hb d_P_fault_42 rfl (lv_at hl 3 rfl) ?_
        refine lv_iconst (v := nI 1) hx hb d_P_fault_43 (by decide) ?_
        refine ro_Si (As := [.int x, .int (nI 1)]) (rest := []) ⟨hx, hb, hml, hown, hts⟩ (c_P_memberOf l dC dI cI cL x 1 (by omega)) (cwS 2 hts (wg_S wk_P_80 ws_P_memberOf wi_P wc_P_memberOf) rfl rfl rfl (by decide +kernel) ⟨Nat.le_of_ble_eq_true rfl, Nat.le_of_ble_eq_true rfl⟩) hK (hP.sub [] rfl) rfl hl.1 rfl (lv_room (Nat.le_of_ble_eq_true rfl)) d_P_fault_44 ⟨Nat.zero_le _, Nat.zero_le _⟩ hS hP (fun H locs hP hS => ?_)
        refine lv_istore (lv' := [(6, .int (ng_nth x 20 0 1)), (5, .int (ng_nth x 20 0 0)), (4, .int (nI 0)), (0, .ref pd), (1, .int x), (2, .int w), (3, .int z)]) hx hb d_P_fault_47 hl (by decide) rfl (fun ls hl => ?_)
        refine lv_iload_n hx hb d_P_fault_49 rfl (lv_at hl 4 rfl) ?_
        refine lv_iconst (v := nI 2) hx hb d_P_fault_50 (by decide) ?_
        refine ro_Si (As := [.int x, .int (nI 2)]) (rest := []) ⟨hx, hb, hml, hown, hts⟩ (c_P_memberOf l dC dI cI cL x 2 (by omega)) (cwS 2 hts (wg_S wk_P_80 ws_P_memberOf wi_P wc_P_memberOf) rfl rfl rfl (by decide +kernel) ⟨Nat.le_of_ble_eq_true rfl, Nat.le_of_ble_eq_true rfl⟩) hK (hP.sub [] rfl) rfl hl.1 rfl (lv_room (Nat.le_of_ble_eq_true rfl)) d_P_fault_51 ⟨Nat.zero_le _, Nat.zero_le _⟩ hS hP (fun H locs hP hS => ?_)
        refine lv_istore (lv' := [(7, .int (ng_nth x 20 0 2)), (6, .int (ng_nth x 20 0 1)), (5, .int (ng_nth x 20 0 0)), (4, .int (nI 0)), (0, .ref pd), (1, .int x), (2, .int w), (3, .int z)]) hx hb d_P_fault_54 hl (by decide) rfl (fun ls hl => ?_)
        refine lv_iload hx hb d_P_fault_56 (lv_at hl 3 rfl) ?_
        refine lv_iconst (v := nI 4) hx hb d_P_fault_58 (by decide) ?_
        refine nr_icmp_ne (by omega) (by omega) (tgt := 70) hx hb d_P_fault_59 (by decide) (fun c_59 => ?_) (fun c_59 => ?_)
        · have e59 : (if dm_ct (fun i => nb_t x i) 32 = 4 then ng_nth x 20 0 3 else ng_nth bd 20 0 0) = ng_nth bd 20 0 0 := if_neg (by omega)
          refine lv_aload_n hx hb d_P_fault_70 rfl (lv_at hl 4 rfl) ?_
          refine va_get (D := (dC, dI)) (ci := 4) (v := .ref g) (C := R_P) (T := F_P) (N := 6) hx hb hts iP hown hK hP 0 rfl rfl 0 (by decide) (hts _ (List.mem_cons_of_mem _ wk_P_10)) (fun _ h9 => h9) rfl d_P_fault_71 ?_
          refine ro_ViZ (As := []) (rest := []) ⟨hx, hb, hml, hown, hts⟩ (c_G_leastBoundary l dC dI cI cL g tA oA uA wA sA np ne bd er vr ) (cwV 0 hts (wg_V wk_P_84 wm_G_leastBoundary we_G_leastBoundary wi_G wc_G_leastBoundary) rfl rfl rfl (by decide +kernel) ⟨Nat.le_of_ble_eq_true rfl, Nat.le_of_ble_eq_true rfl⟩) hnz hK (hP.sub [1] rfl) (q0 := 0) rfl rfl rfl rfl hl.1 rfl (lv_room (Nat.le_of_ble_eq_true rfl)) d_P_fault_74 ⟨Nat.zero_le _, Nat.zero_le _⟩ hS hP (fun H locs hP hS => ?_)
          refine lv_istore (lv' := [(8, .int (ng_nth bd 20 0 0)), (7, .int (ng_nth x 20 0 2)), (6, .int (ng_nth x 20 0 1)), (5, .int (ng_nth x 20 0 0)), (4, .int (nI 0)), (0, .ref pd), (1, .int x), (2, .int w), (3, .int z)]) hx hb d_P_fault_77 hl (by decide) rfl (fun ls hl => ?_)
          refine lv_aload_n hx hb d_P_fault_79 rfl (lv_at hl 5 rfl) ?_
          refine va_get (D := (dC, dI)) (ci := 4) (v := .ref g) (C := R_P) (T := F_P) (N := 6) hx hb hts iP hown hK hP 0 rfl rfl 0 (by decide) (hts _ (List.mem_cons_of_mem _ wk_P_10)) (fun _ h9 => h9) rfl d_P_fault_80 ?_
          refine lv_iload hx hb d_P_fault_83 (lv_at hl 3 rfl) ?_
          refine lv_iload hx hb d_P_fault_85 (lv_at hl 2 rfl) ?_
          refine ro_Vi (As := [.int (ng_nth x 20 0 0), .int (ng_nth x 20 0 1)]) (rest := []) ⟨hx, hb, hml, hown, hts⟩ (c_G_canJoin l dC dI cI cL g tA oA uA wA sA np ne bd er vr (ng_nth x 20 0 0) (ng_nth x 20 0 1) (by omega)) (cwV 2 hts (wg_V wk_P_56 wm_G_canJoin we_G_canJoin wi_G wc_G_canJoin) rfl rfl rfl (by decide +kernel) ⟨Nat.le_of_ble_eq_true rfl, Nat.le_of_ble_eq_true rfl⟩) hK (hP.sub [1] rfl) (q0 := 0) rfl rfl rfl rfl hl.1 rfl (lv_room (Nat.le_of_ble_eq_true rfl)) d_P_fault_87 ⟨Nat.zero_le _, Nat.zero_le _⟩ hS hP (fun H locs hP hS => ?_)
          refine nr_ifeqB (tgt := 126) hx hb d_P_fault_90 (by decide) (fun c_90 => ?_) (fun c_90 => ?_)
          · refine lv_iconst (v := -1) hx hb d_P_fault_126 (by decide) ?_
            exact ro_iret hx hb hr hlocks hS rfl d_P_fault_127
          · refine lv_aload_n hx hb d_P_fault_93 rfl (lv_at hl 5 rfl) ?_
            refine va_get (D := (dC, dI)) (ci := 4) (v := .ref g) (C := R_P) (T := F_P) (N := 6) hx hb hts iP hown hK hP 0 rfl rfl 0 (by decide) (hts _ (List.mem_cons_of_mem _ wk_P_10)) (fun _ h9 => h9) rfl d_P_fault_94 ?_
            refine lv_iload hx hb d_P_fault_97 (lv_at hl 1 rfl) ?_
            refine lv_iload hx hb d_P_fault_99 (lv_at hl 0 rfl) ?_
            refine ro_Vi (As := [.int (ng_nth x 20 0 2), .int (ng_nth bd 20 0 0)]) (rest := []) ⟨hx, hb, hml, hown, hts⟩ (c_G_canJoin l dC dI cI cL g tA oA uA wA sA np ne bd er vr (ng_nth x 20 0 2) (ng_nth bd 20 0 0) (by omega)) (cwV 2 hts (wg_V wk_P_56 wm_G_canJoin we_G_canJoin wi_G wc_G_canJoin) rfl rfl rfl (by decide +kernel) ⟨Nat.le_of_ble_eq_true rfl, Nat.le_of_ble_eq_true rfl⟩) hK (hP.sub [1] rfl) (q0 := 0) rfl rfl rfl rfl hl.1 rfl (lv_room (Nat.le_of_ble_eq_true rfl)) d_P_fault_101 ⟨Nat.zero_le _, Nat.zero_le _⟩ hS hP (fun H locs hP hS => ?_)
            refine nr_ifeqB (tgt := 126) hx hb d_P_fault_104 (by decide) (fun c_104 => ?_) (fun c_104 => ?_)
            · refine lv_iconst (v := -1) hx hb d_P_fault_126 (by decide) ?_
              exact ro_iret hx hb hr hlocks hS rfl d_P_fault_127
            · refine lv_iload_n hx hb d_P_fault_107 rfl (lv_at hl 7 rfl) ?_
              refine lv_iload_n hx hb d_P_fault_108 rfl (lv_at hl 8 rfl) ?_
              refine ro_Si (As := [.int w, .int z]) (rest := []) ⟨hx, hb, hml, hown, hts⟩ (c_P_areEdgeValues l dC dI cI cL w z ) (cwS 2 hts (wg_S wk_P_60 ws_P_areEdgeValues wi_P wc_P_areEdgeValues) rfl rfl rfl (by decide +kernel) ⟨Nat.le_of_ble_eq_true rfl, Nat.le_of_ble_eq_true rfl⟩) hK (hP.sub [] rfl) rfl hl.1 rfl (lv_room (Nat.le_of_ble_eq_true rfl)) d_P_fault_109 ⟨Nat.zero_le _, Nat.zero_le _⟩ hS hP (fun H locs hP hS => ?_)
              refine nr_ifeqB (tgt := 126) hx hb d_P_fault_112 (by decide) (fun c_112 => ?_) (fun c_112 => ?_)
              · refine lv_iconst (v := -1) hx hb d_P_fault_126 (by decide) ?_
                exact ro_iret hx hb hr hlocks hS rfl d_P_fault_127
              · refine lv_aload_n hx hb d_P_fault_115 rfl (lv_at hl 5 rfl) ?_
                refine va_get (D := (dC, dI)) (ci := 4) (v := .ref g) (C := R_P) (T := F_P) (N := 6) hx hb hts iP hown hK hP 0 rfl rfl 0 (by decide) (hts _ (List.mem_cons_of_mem _ wk_P_10)) (fun _ h9 => h9) rfl d_P_fault_116 ?_
                refine lv_iconst (v := nI 2) hx hb d_P_fault_119 (by decide) ?_
                refine ro_Vi (As := [.int (nI 2)]) (rest := []) ⟨hx, hb, hml, hown, hts⟩ (c_G_hasRoomFor l dC dI cI cL g tA oA uA wA sA np ne bd er vr 2 (by omega) (by omega)) (cwV 1 hts (wg_V wk_P_63 wm_G_hasRoomFor we_G_hasRoomFor wi_G wc_G_hasRoomFor) rfl rfl rfl (by decide +kernel) ⟨Nat.le_of_ble_eq_true rfl, Nat.le_of_ble_eq_true rfl⟩) hK (hP.sub [1] rfl) (q0 := 0) rfl rfl rfl rfl hl.1 rfl (lv_room (Nat.le_of_ble_eq_true rfl)) d_P_fault_120 ⟨Nat.zero_le _, Nat.zero_le _⟩ hS hP (fun H locs hP hS => ?_)
                refine nr_ifneB (tgt := 128) hx hb d_P_fault_123 (by decide) (fun c_123 => ?_) (fun c_123 => ?_)
                · exact False.elim (by first | (exact hno ⟨c_8, by omega, c_90, by rw [e59]; exact c_104, c_112, by simp at c_123; omega⟩) | omega)
                · refine lv_iconst (v := -1) hx hb d_P_fault_126 (by decide) ?_
                  exact ro_iret hx hb hr hlocks hS rfl d_P_fault_127
        · have e59 : (if dm_ct (fun i => nb_t x i) 32 = 4 then ng_nth x 20 0 3 else ng_nth bd 20 0 0) = ng_nth x 20 0 3 := if_pos (by omega)
          refine lv_iload_n hx hb d_P_fault_62 rfl (lv_at hl 5 rfl) ?_
          refine lv_iconst (v := nI 3) hx hb d_P_fault_63 (by decide) ?_
          refine ro_Si (As := [.int x, .int (nI 3)]) (rest := []) ⟨hx, hb, hml, hown, hts⟩ (c_P_memberOf l dC dI cI cL x 3 (by omega)) (cwS 2 hts (wg_S wk_P_80 ws_P_memberOf wi_P wc_P_memberOf) rfl rfl rfl (by decide +kernel) ⟨Nat.le_of_ble_eq_true rfl, Nat.le_of_ble_eq_true rfl⟩) hK (hP.sub [] rfl) rfl hl.1 rfl (lv_room (Nat.le_of_ble_eq_true rfl)) d_P_fault_64 ⟨Nat.zero_le _, Nat.zero_le _⟩ hS hP (fun H locs hP hS => ?_)
          refine lv_goto (tgt := 77) hx hb d_P_fault_67 (by decide) ?_
          refine lv_istore (lv' := [(8, .int (ng_nth x 20 0 3)), (7, .int (ng_nth x 20 0 2)), (6, .int (ng_nth x 20 0 1)), (5, .int (ng_nth x 20 0 0)), (4, .int (nI 0)), (0, .ref pd), (1, .int x), (2, .int w), (3, .int z)]) hx hb d_P_fault_77 hl (by decide) rfl (fun ls hl => ?_)
          refine lv_aload_n hx hb d_P_fault_79 rfl (lv_at hl 5 rfl) ?_
          refine va_get (D := (dC, dI)) (ci := 4) (v := .ref g) (C := R_P) (T := F_P) (N := 6) hx hb hts iP hown hK hP 0 rfl rfl 0 (by decide) (hts _ (List.mem_cons_of_mem _ wk_P_10)) (fun _ h9 => h9) rfl d_P_fault_80 ?_
          refine lv_iload hx hb d_P_fault_83 (lv_at hl 3 rfl) ?_
          refine lv_iload hx hb d_P_fault_85 (lv_at hl 2 rfl) ?_
          refine ro_Vi (As := [.int (ng_nth x 20 0 0), .int (ng_nth x 20 0 1)]) (rest := []) ⟨hx, hb, hml, hown, hts⟩ (c_G_canJoin l dC dI cI cL g tA oA uA wA sA np ne bd er vr (ng_nth x 20 0 0) (ng_nth x 20 0 1) (by omega)) (cwV 2 hts (wg_V wk_P_56 wm_G_canJoin we_G_canJoin wi_G wc_G_canJoin) rfl rfl rfl (by decide +kernel) ⟨Nat.le_of_ble_eq_true rfl, Nat.le_of_ble_eq_true rfl⟩) hK (hP.sub [1] rfl) (q0 := 0) rfl rfl rfl rfl hl.1 rfl (lv_room (Nat.le_of_ble_eq_true rfl)) d_P_fault_87 ⟨Nat.zero_le _, Nat.zero_le _⟩ hS hP (fun H locs hP hS => ?_)
          refine nr_ifeqB (tgt := 126) hx hb d_P_fault_90 (by decide) (fun c_90 => ?_) (fun c_90 => ?_)
          · refine lv_iconst (v := -1) hx hb d_P_fault_126 (by decide) ?_
            exact ro_iret hx hb hr hlocks hS rfl d_P_fault_127
          · refine lv_aload_n hx hb d_P_fault_93 rfl (lv_at hl 5 rfl) ?_
            refine va_get (D := (dC, dI)) (ci := 4) (v := .ref g) (C := R_P) (T := F_P) (N := 6) hx hb hts iP hown hK hP 0 rfl rfl 0 (by decide) (hts _ (List.mem_cons_of_mem _ wk_P_10)) (fun _ h9 => h9) rfl d_P_fault_94 ?_
            refine lv_iload hx hb d_P_fault_97 (lv_at hl 1 rfl) ?_
            refine lv_iload hx hb d_P_fault_99 (lv_at hl 0 rfl) ?_
            refine ro_Vi (As := [.int (ng_nth x 20 0 2), .int (ng_nth x 20 0 3)]) (rest := []) ⟨hx, hb, hml, hown, hts⟩ (c_G_canJoin l dC dI cI cL g tA oA uA wA sA np ne bd er vr (ng_nth x 20 0 2) (ng_nth x 20 0 3) (by omega)) (cwV 2 hts (wg_V wk_P_56 wm_G_canJoin we_G_canJoin wi_G wc_G_canJoin) rfl rfl rfl (by decide +kernel) ⟨Nat.le_of_ble_eq_true rfl, Nat.le_of_ble_eq_true rfl⟩) hK (hP.sub [1] rfl) (q0 := 0) rfl rfl rfl rfl hl.1 rfl (lv_room (Nat.le_of_ble_eq_true rfl)) d_P_fault_101 ⟨Nat.zero_le _, Nat.zero_le _⟩ hS hP (fun H locs hP hS => ?_)
            refine nr_ifeqB (tgt := 126) hx hb d_P_fault_104 (by decide) (fun c_104 => ?_) (fun c_104 => ?_)
            · refine lv_iconst (v := -1) hx hb d_P_fault_126 (by decide) ?_
              exact ro_iret hx hb hr hlocks hS rfl d_P_fault_127
            · refine lv_iload_n hx hb d_P_fault_107 rfl (lv_at hl 7 rfl) ?_
              refine lv_iload_n hx hb d_P_fault_108 rfl (lv_at hl 8 rfl) ?_
              refine ro_Si (As := [.int w, .int z]) (rest := []) ⟨hx, hb, hml, hown, hts⟩ (c_P_areEdgeValues l dC dI cI cL w z ) (cwS 2 hts (wg_S wk_P_60 ws_P_areEdgeValues wi_P wc_P_areEdgeValues) rfl rfl rfl (by decide +kernel) ⟨Nat.le_of_ble_eq_true rfl, Nat.le_of_ble_eq_true rfl⟩) hK (hP.sub [] rfl) rfl hl.1 rfl (lv_room (Nat.le_of_ble_eq_true rfl)) d_P_fault_109 ⟨Nat.zero_le _, Nat.zero_le _⟩ hS hP (fun H locs hP hS => ?_)
              refine nr_ifeqB (tgt := 126) hx hb d_P_fault_112 (by decide) (fun c_112 => ?_) (fun c_112 => ?_)
              · refine lv_iconst (v := -1) hx hb d_P_fault_126 (by decide) ?_
                exact ro_iret hx hb hr hlocks hS rfl d_P_fault_127
              · refine lv_aload_n hx hb d_P_fault_115 rfl (lv_at hl 5 rfl) ?_
                refine va_get (D := (dC, dI)) (ci := 4) (v := .ref g) (C := R_P) (T := F_P) (N := 6) hx hb hts iP hown hK hP 0 rfl rfl 0 (by decide) (hts _ (List.mem_cons_of_mem _ wk_P_10)) (fun _ h9 => h9) rfl d_P_fault_116 ?_
                refine lv_iconst (v := nI 2) hx hb d_P_fault_119 (by decide) ?_
                refine ro_Vi (As := [.int (nI 2)]) (rest := []) ⟨hx, hb, hml, hown, hts⟩ (c_G_hasRoomFor l dC dI cI cL g tA oA uA wA sA np ne bd er vr 2 (by omega) (by omega)) (cwV 1 hts (wg_V wk_P_63 wm_G_hasRoomFor we_G_hasRoomFor wi_G wc_G_hasRoomFor) rfl rfl rfl (by decide +kernel) ⟨Nat.le_of_ble_eq_true rfl, Nat.le_of_ble_eq_true rfl⟩) hK (hP.sub [1] rfl) (q0 := 0) rfl rfl rfl rfl hl.1 rfl (lv_room (Nat.le_of_ble_eq_true rfl)) d_P_fault_120 ⟨Nat.zero_le _, Nat.zero_le _⟩ hS hP (fun H locs hP hS => ?_)
                refine nr_ifneB (tgt := 128) hx hb d_P_fault_123 (by decide) (fun c_123 => ?_) (fun c_123 => ?_)
                · exact False.elim (by first | (exact hno ⟨c_8, by omega, c_90, by rw [e59]; exact c_104, c_112, by simp at c_123; omega⟩) | omega)
                · refine lv_iconst (v := -1) hx hb d_P_fault_126 (by decide) ?_
                  exact ro_iret hx hb hr hlocks hS rfl d_P_fault_127
      · refine lv_iconst (v := -1) hx hb d_P_fault_33 (by decide) ?_
        exact ro_iret hx hb hr hlocks hS rfl d_P_fault_34
  · refine lv_iload_n hx hb d_P_fault_11 rfl (lv_at hl 1 rfl) ?_
    refine ro_Si (As := [.int x]) (rest := []) ⟨hx, hb, hml, hown, hts⟩ (c_JI_bitCount l dC dI cI cL x ) ⟨callB_of 1 hts (wg_I wc_JI_bitCount) rfl rfl rfl (hts _ (List.mem_cons_of_mem _ wi_JI)) (hts _ (List.mem_cons_of_mem _ wk_P_74)) (by decide +kernel) ⟨Nat.le_of_ble_eq_true rfl, Nat.le_of_ble_eq_true rfl⟩, hts _ (List.mem_cons_of_mem _ ws_JI_bitCount)⟩ hK (hP.sub [] rfl) rfl hl.1 rfl (lv_room (Nat.le_of_ble_eq_true rfl)) d_P_fault_12 ⟨Nat.zero_le _, Nat.zero_le _⟩ hS hP (fun H locs hP hS => ?_)
    refine lv_goto (tgt := 19) hx hb d_P_fault_15 (by decide) ?_
    refine lv_istore (lv' := [(4, .int (nI (dm_ct (fun i => nb_t x i) 32))), (0, .ref pd), (1, .int x), (2, .int w), (3, .int z)]) hx hb d_P_fault_19 hl (by decide) rfl (fun ls hl => ?_)
    refine lv_iload hx hb d_P_fault_21 (lv_at hl 0 rfl) ?_
    refine lv_iconst (v := nI 3) hx hb d_P_fault_23 (by decide) ?_
    refine nr_icmp_eq (by omega) (by omega) (tgt := 35) hx hb d_P_fault_24 (by decide) (fun c_24 => ?_) (fun c_24 => ?_)
    · refine lv_iload_n hx hb d_P_fault_35 rfl (lv_at hl 2 rfl) ?_
      refine lv_iconst (v := nI 0) hx hb d_P_fault_36 (by decide) ?_
      refine ro_Si (As := [.int x, .int (nI 0)]) (rest := []) ⟨hx, hb, hml, hown, hts⟩ (c_P_memberOf l dC dI cI cL x 0 (by omega)) (cwS 2 hts (wg_S wk_P_80 ws_P_memberOf wi_P wc_P_memberOf) rfl rfl rfl (by decide +kernel) ⟨Nat.le_of_ble_eq_true rfl, Nat.le_of_ble_eq_true rfl⟩) hK (hP.sub [] rfl) rfl hl.1 rfl (lv_room (Nat.le_of_ble_eq_true rfl)) d_P_fault_37 ⟨Nat.zero_le _, Nat.zero_le _⟩ hS hP (fun H locs hP hS => ?_)
      refine lv_istore (lv' := [(5, .int (ng_nth x 20 0 0)), (4, .int (nI (dm_ct (fun i => nb_t x i) 32))), (0, .ref pd), (1, .int x), (2, .int w), (3, .int z)]) hx hb d_P_fault_40 hl (by decide) rfl (fun ls hl => ?_)
      refine lv_iload_n hx hb d_P_fault_42 rfl (lv_at hl 3 rfl) ?_
      refine lv_iconst (v := nI 1) hx hb d_P_fault_43 (by decide) ?_
      refine ro_Si (As := [.int x, .int (nI 1)]) (rest := []) ⟨hx, hb, hml, hown, hts⟩ (c_P_memberOf l dC dI cI cL x 1 (by omega)) (cwS 2 hts (wg_S wk_P_80 ws_P_memberOf wi_P wc_P_memberOf) rfl rfl rfl (by decide +kernel) ⟨Nat.le_of_ble_eq_true rfl, Nat.le_of_ble_eq_true rfl⟩) hK (hP.sub [] rfl) rfl hl.1 rfl (lv_room (Nat.le_of_ble_eq_true rfl)) d_P_fault_44 ⟨Nat.zero_le _, Nat.zero_le _⟩ hS hP (fun H locs hP hS => ?_)
      refine lv_istore (lv' := [(6, .int (ng_nth x 20 0 1)), (5, .int (ng_nth x 20 0 0)), (4, .int (nI (dm_ct (fun i => nb_t x i) 32))), (0, .ref pd), (1, .int x), (2, .int w), (3, .int z)]) hx hb d_P_fault_47 hl (by decide) rfl (fun ls hl => ?_)
      refine lv_iload_n hx hb d_P_fault_49 rfl (lv_at hl 4 rfl) ?_
      refine lv_iconst (v := nI 2) hx hb d_P_fault_50 (by decide) ?_
      refine ro_Si (As := [.int x, .int (nI 2)]) (rest := []) ⟨hx, hb, hml, hown, hts⟩ (c_P_memberOf l dC dI cI cL x 2 (by omega)) (cwS 2 hts (wg_S wk_P_80 ws_P_memberOf wi_P wc_P_memberOf) rfl rfl rfl (by decide +kernel) ⟨Nat.le_of_ble_eq_true rfl, Nat.le_of_ble_eq_true rfl⟩) hK (hP.sub [] rfl) rfl hl.1 rfl (lv_room (Nat.le_of_ble_eq_true rfl)) d_P_fault_51 ⟨Nat.zero_le _, Nat.zero_le _⟩ hS hP (fun H locs hP hS => ?_)
      refine lv_istore (lv' := [(7, .int (ng_nth x 20 0 2)), (6, .int (ng_nth x 20 0 1)), (5, .int (ng_nth x 20 0 0)), (4, .int (nI (dm_ct (fun i => nb_t x i) 32))), (0, .ref pd), (1, .int x), (2, .int w), (3, .int z)]) hx hb d_P_fault_54 hl (by decide) rfl (fun ls hl => ?_)
      refine lv_iload hx hb d_P_fault_56 (lv_at hl 3 rfl) ?_
      refine lv_iconst (v := nI 4) hx hb d_P_fault_58 (by decide) ?_
      refine nr_icmp_ne (by omega) (by omega) (tgt := 70) hx hb d_P_fault_59 (by decide) (fun c_59 => ?_) (fun c_59 => ?_)
      · have e59 : (if dm_ct (fun i => nb_t x i) 32 = 4 then ng_nth x 20 0 3 else ng_nth bd 20 0 0) = ng_nth bd 20 0 0 := if_neg (by omega)
        refine lv_aload_n hx hb d_P_fault_70 rfl (lv_at hl 4 rfl) ?_
        refine va_get (D := (dC, dI)) (ci := 4) (v := .ref g) (C := R_P) (T := F_P) (N := 6) hx hb hts iP hown hK hP 0 rfl rfl 0 (by decide) (hts _ (List.mem_cons_of_mem _ wk_P_10)) (fun _ h9 => h9) rfl d_P_fault_71 ?_
        refine ro_ViZ (As := []) (rest := []) ⟨hx, hb, hml, hown, hts⟩ (c_G_leastBoundary l dC dI cI cL g tA oA uA wA sA np ne bd er vr ) (cwV 0 hts (wg_V wk_P_84 wm_G_leastBoundary we_G_leastBoundary wi_G wc_G_leastBoundary) rfl rfl rfl (by decide +kernel) ⟨Nat.le_of_ble_eq_true rfl, Nat.le_of_ble_eq_true rfl⟩) hnz hK (hP.sub [1] rfl) (q0 := 0) rfl rfl rfl rfl hl.1 rfl (lv_room (Nat.le_of_ble_eq_true rfl)) d_P_fault_74 ⟨Nat.zero_le _, Nat.zero_le _⟩ hS hP (fun H locs hP hS => ?_)
        refine lv_istore (lv' := [(8, .int (ng_nth bd 20 0 0)), (7, .int (ng_nth x 20 0 2)), (6, .int (ng_nth x 20 0 1)), (5, .int (ng_nth x 20 0 0)), (4, .int (nI (dm_ct (fun i => nb_t x i) 32))), (0, .ref pd), (1, .int x), (2, .int w), (3, .int z)]) hx hb d_P_fault_77 hl (by decide) rfl (fun ls hl => ?_)
        refine lv_aload_n hx hb d_P_fault_79 rfl (lv_at hl 5 rfl) ?_
        refine va_get (D := (dC, dI)) (ci := 4) (v := .ref g) (C := R_P) (T := F_P) (N := 6) hx hb hts iP hown hK hP 0 rfl rfl 0 (by decide) (hts _ (List.mem_cons_of_mem _ wk_P_10)) (fun _ h9 => h9) rfl d_P_fault_80 ?_
        refine lv_iload hx hb d_P_fault_83 (lv_at hl 3 rfl) ?_
        refine lv_iload hx hb d_P_fault_85 (lv_at hl 2 rfl) ?_
        refine ro_Vi (As := [.int (ng_nth x 20 0 0), .int (ng_nth x 20 0 1)]) (rest := []) ⟨hx, hb, hml, hown, hts⟩ (c_G_canJoin l dC dI cI cL g tA oA uA wA sA np ne bd er vr (ng_nth x 20 0 0) (ng_nth x 20 0 1) (by omega)) (cwV 2 hts (wg_V wk_P_56 wm_G_canJoin we_G_canJoin wi_G wc_G_canJoin) rfl rfl rfl (by decide +kernel) ⟨Nat.le_of_ble_eq_true rfl, Nat.le_of_ble_eq_true rfl⟩) hK (hP.sub [1] rfl) (q0 := 0) rfl rfl rfl rfl hl.1 rfl (lv_room (Nat.le_of_ble_eq_true rfl)) d_P_fault_87 ⟨Nat.zero_le _, Nat.zero_le _⟩ hS hP (fun H locs hP hS => ?_)
        refine nr_ifeqB (tgt := 126) hx hb d_P_fault_90 (by decide) (fun c_90 => ?_) (fun c_90 => ?_)
        · refine lv_iconst (v := -1) hx hb d_P_fault_126 (by decide) ?_
          exact ro_iret hx hb hr hlocks hS rfl d_P_fault_127
        · refine lv_aload_n hx hb d_P_fault_93 rfl (lv_at hl 5 rfl) ?_
          refine va_get (D := (dC, dI)) (ci := 4) (v := .ref g) (C := R_P) (T := F_P) (N := 6) hx hb hts iP hown hK hP 0 rfl rfl 0 (by decide) (hts _ (List.mem_cons_of_mem _ wk_P_10)) (fun _ h9 => h9) rfl d_P_fault_94 ?_
          refine lv_iload hx hb d_P_fault_97 (lv_at hl 1 rfl) ?_
          refine lv_iload hx hb d_P_fault_99 (lv_at hl 0 rfl) ?_
          refine ro_Vi (As := [.int (ng_nth x 20 0 2), .int (ng_nth bd 20 0 0)]) (rest := []) ⟨hx, hb, hml, hown, hts⟩ (c_G_canJoin l dC dI cI cL g tA oA uA wA sA np ne bd er vr (ng_nth x 20 0 2) (ng_nth bd 20 0 0) (by omega)) (cwV 2 hts (wg_V wk_P_56 wm_G_canJoin we_G_canJoin wi_G wc_G_canJoin) rfl rfl rfl (by decide +kernel) ⟨Nat.le_of_ble_eq_true rfl, Nat.le_of_ble_eq_true rfl⟩) hK (hP.sub [1] rfl) (q0 := 0) rfl rfl rfl rfl hl.1 rfl (lv_room (Nat.le_of_ble_eq_true rfl)) d_P_fault_101 ⟨Nat.zero_le _, Nat.zero_le _⟩ hS hP (fun H locs hP hS => ?_)
          refine nr_ifeqB (tgt := 126) hx hb d_P_fault_104 (by decide) (fun c_104 => ?_) (fun c_104 => ?_)
          · refine lv_iconst (v := -1) hx hb d_P_fault_126 (by decide) ?_
            exact ro_iret hx hb hr hlocks hS rfl d_P_fault_127
          · refine lv_iload_n hx hb d_P_fault_107 rfl (lv_at hl 7 rfl) ?_
            refine lv_iload_n hx hb d_P_fault_108 rfl (lv_at hl 8 rfl) ?_
            refine ro_Si (As := [.int w, .int z]) (rest := []) ⟨hx, hb, hml, hown, hts⟩ (c_P_areEdgeValues l dC dI cI cL w z ) (cwS 2 hts (wg_S wk_P_60 ws_P_areEdgeValues wi_P wc_P_areEdgeValues) rfl rfl rfl (by decide +kernel) ⟨Nat.le_of_ble_eq_true rfl, Nat.le_of_ble_eq_true rfl⟩) hK (hP.sub [] rfl) rfl hl.1 rfl (lv_room (Nat.le_of_ble_eq_true rfl)) d_P_fault_109 ⟨Nat.zero_le _, Nat.zero_le _⟩ hS hP (fun H locs hP hS => ?_)
            refine nr_ifeqB (tgt := 126) hx hb d_P_fault_112 (by decide) (fun c_112 => ?_) (fun c_112 => ?_)
            · refine lv_iconst (v := -1) hx hb d_P_fault_126 (by decide) ?_
              exact ro_iret hx hb hr hlocks hS rfl d_P_fault_127
            · refine lv_aload_n hx hb d_P_fault_115 rfl (lv_at hl 5 rfl) ?_
              refine va_get (D := (dC, dI)) (ci := 4) (v := .ref g) (C := R_P) (T := F_P) (N := 6) hx hb hts iP hown hK hP 0 rfl rfl 0 (by decide) (hts _ (List.mem_cons_of_mem _ wk_P_10)) (fun _ h9 => h9) rfl d_P_fault_116 ?_
              refine lv_iconst (v := nI 2) hx hb d_P_fault_119 (by decide) ?_
              refine ro_Vi (As := [.int (nI 2)]) (rest := []) ⟨hx, hb, hml, hown, hts⟩ (c_G_hasRoomFor l dC dI cI cL g tA oA uA wA sA np ne bd er vr 2 (by omega) (by omega)) (cwV 1 hts (wg_V wk_P_63 wm_G_hasRoomFor we_G_hasRoomFor wi_G wc_G_hasRoomFor) rfl rfl rfl (by decide +kernel) ⟨Nat.le_of_ble_eq_true rfl, Nat.le_of_ble_eq_true rfl⟩) hK (hP.sub [1] rfl) (q0 := 0) rfl rfl rfl rfl hl.1 rfl (lv_room (Nat.le_of_ble_eq_true rfl)) d_P_fault_120 ⟨Nat.zero_le _, Nat.zero_le _⟩ hS hP (fun H locs hP hS => ?_)
              refine nr_ifneB (tgt := 128) hx hb d_P_fault_123 (by decide) (fun c_123 => ?_) (fun c_123 => ?_)
              · exact False.elim (by first | (exact hno ⟨c_8, by omega, c_90, by rw [e59]; exact c_104, c_112, by simp at c_123; omega⟩) | omega)
              · refine lv_iconst (v := -1) hx hb d_P_fault_126 (by decide) ?_
                exact ro_iret hx hb hr hlocks hS rfl d_P_fault_127
      · have e59 : (if dm_ct (fun i => nb_t x i) 32 = 4 then ng_nth x 20 0 3 else ng_nth bd 20 0 0) = ng_nth x 20 0 3 := if_pos (by omega)
        refine lv_iload_n hx hb d_P_fault_62 rfl (lv_at hl 5 rfl) ?_
        refine lv_iconst (v := nI 3) hx hb d_P_fault_63 (by decide) ?_
        refine ro_Si (As := [.int x, .int (nI 3)]) (rest := []) ⟨hx, hb, hml, hown, hts⟩ (c_P_memberOf l dC dI cI cL x 3 (by omega)) (cwS 2 hts (wg_S wk_P_80 ws_P_memberOf wi_P wc_P_memberOf) rfl rfl rfl (by decide +kernel) ⟨Nat.le_of_ble_eq_true rfl, Nat.le_of_ble_eq_true rfl⟩) hK (hP.sub [] rfl) rfl hl.1 rfl (lv_room (Nat.le_of_ble_eq_true rfl)) d_P_fault_64 ⟨Nat.zero_le _, Nat.zero_le _⟩ hS hP (fun H locs hP hS => ?_)
        refine lv_goto (tgt := 77) hx hb d_P_fault_67 (by decide) ?_
        refine lv_istore (lv' := [(8, .int (ng_nth x 20 0 3)), (7, .int (ng_nth x 20 0 2)), (6, .int (ng_nth x 20 0 1)), (5, .int (ng_nth x 20 0 0)), (4, .int (nI (dm_ct (fun i => nb_t x i) 32))), (0, .ref pd), (1, .int x), (2, .int w), (3, .int z)]) hx hb d_P_fault_77 hl (by decide) rfl (fun ls hl => ?_)
        refine lv_aload_n hx hb d_P_fault_79 rfl (lv_at hl 5 rfl) ?_
        refine va_get (D := (dC, dI)) (ci := 4) (v := .ref g) (C := R_P) (T := F_P) (N := 6) hx hb hts iP hown hK hP 0 rfl rfl 0 (by decide) (hts _ (List.mem_cons_of_mem _ wk_P_10)) (fun _ h9 => h9) rfl d_P_fault_80 ?_
        refine lv_iload hx hb d_P_fault_83 (lv_at hl 3 rfl) ?_
        refine lv_iload hx hb d_P_fault_85 (lv_at hl 2 rfl) ?_
        refine ro_Vi (As := [.int (ng_nth x 20 0 0), .int (ng_nth x 20 0 1)]) (rest := []) ⟨hx, hb, hml, hown, hts⟩ (c_G_canJoin l dC dI cI cL g tA oA uA wA sA np ne bd er vr (ng_nth x 20 0 0) (ng_nth x 20 0 1) (by omega)) (cwV 2 hts (wg_V wk_P_56 wm_G_canJoin we_G_canJoin wi_G wc_G_canJoin) rfl rfl rfl (by decide +kernel) ⟨Nat.le_of_ble_eq_true rfl, Nat.le_of_ble_eq_true rfl⟩) hK (hP.sub [1] rfl) (q0 := 0) rfl rfl rfl rfl hl.1 rfl (lv_room (Nat.le_of_ble_eq_true rfl)) d_P_fault_87 ⟨Nat.zero_le _, Nat.zero_le _⟩ hS hP (fun H locs hP hS => ?_)
        refine nr_ifeqB (tgt := 126) hx hb d_P_fault_90 (by decide) (fun c_90 => ?_) (fun c_90 => ?_)
        · refine lv_iconst (v := -1) hx hb d_P_fault_126 (by decide) ?_
          exact ro_iret hx hb hr hlocks hS rfl d_P_fault_127
        · refine lv_aload_n hx hb d_P_fault_93 rfl (lv_at hl 5 rfl) ?_
          refine va_get (D := (dC, dI)) (ci := 4) (v := .ref g) (C := R_P) (T := F_P) (N := 6) hx hb hts iP hown hK hP 0 rfl rfl 0 (by decide) (hts _ (List.mem_cons_of_mem _ wk_P_10)) (fun _ h9 => h9) rfl d_P_fault_94 ?_
          refine lv_iload hx hb d_P_fault_97 (lv_at hl 1 rfl) ?_
          refine lv_iload hx hb d_P_fault_99 (lv_at hl 0 rfl) ?_
          refine ro_Vi (As := [.int (ng_nth x 20 0 2), .int (ng_nth x 20 0 3)]) (rest := []) ⟨hx, hb, hml, hown, hts⟩ (c_G_canJoin l dC dI cI cL g tA oA uA wA sA np ne bd er vr (ng_nth x 20 0 2) (ng_nth x 20 0 3) (by omega)) (cwV 2 hts (wg_V wk_P_56 wm_G_canJoin we_G_canJoin wi_G wc_G_canJoin) rfl rfl rfl (by decide +kernel) ⟨Nat.le_of_ble_eq_true rfl, Nat.le_of_ble_eq_true rfl⟩) hK (hP.sub [1] rfl) (q0 := 0) rfl rfl rfl rfl hl.1 rfl (lv_room (Nat.le_of_ble_eq_true rfl)) d_P_fault_101 ⟨Nat.zero_le _, Nat.zero_le _⟩ hS hP (fun H locs hP hS => ?_)
          refine nr_ifeqB (tgt := 126) hx hb d_P_fault_104 (by decide) (fun c_104 => ?_) (fun c_104 => ?_)
          · refine lv_iconst (v := -1) hx hb d_P_fault_126 (by decide) ?_
            exact ro_iret hx hb hr hlocks hS rfl d_P_fault_127
          · refine lv_iload_n hx hb d_P_fault_107 rfl (lv_at hl 7 rfl) ?_
            refine lv_iload_n hx hb d_P_fault_108 rfl (lv_at hl 8 rfl) ?_
            refine ro_Si (As := [.int w, .int z]) (rest := []) ⟨hx, hb, hml, hown, hts⟩ (c_P_areEdgeValues l dC dI cI cL w z ) (cwS 2 hts (wg_S wk_P_60 ws_P_areEdgeValues wi_P wc_P_areEdgeValues) rfl rfl rfl (by decide +kernel) ⟨Nat.le_of_ble_eq_true rfl, Nat.le_of_ble_eq_true rfl⟩) hK (hP.sub [] rfl) rfl hl.1 rfl (lv_room (Nat.le_of_ble_eq_true rfl)) d_P_fault_109 ⟨Nat.zero_le _, Nat.zero_le _⟩ hS hP (fun H locs hP hS => ?_)
            refine nr_ifeqB (tgt := 126) hx hb d_P_fault_112 (by decide) (fun c_112 => ?_) (fun c_112 => ?_)
            · refine lv_iconst (v := -1) hx hb d_P_fault_126 (by decide) ?_
              exact ro_iret hx hb hr hlocks hS rfl d_P_fault_127
            · refine lv_aload_n hx hb d_P_fault_115 rfl (lv_at hl 5 rfl) ?_
              refine va_get (D := (dC, dI)) (ci := 4) (v := .ref g) (C := R_P) (T := F_P) (N := 6) hx hb hts iP hown hK hP 0 rfl rfl 0 (by decide) (hts _ (List.mem_cons_of_mem _ wk_P_10)) (fun _ h9 => h9) rfl d_P_fault_116 ?_
              refine lv_iconst (v := nI 2) hx hb d_P_fault_119 (by decide) ?_
              refine ro_Vi (As := [.int (nI 2)]) (rest := []) ⟨hx, hb, hml, hown, hts⟩ (c_G_hasRoomFor l dC dI cI cL g tA oA uA wA sA np ne bd er vr 2 (by omega) (by omega)) (cwV 1 hts (wg_V wk_P_63 wm_G_hasRoomFor we_G_hasRoomFor wi_G wc_G_hasRoomFor) rfl rfl rfl (by decide +kernel) ⟨Nat.le_of_ble_eq_true rfl, Nat.le_of_ble_eq_true rfl⟩) hK (hP.sub [1] rfl) (q0 := 0) rfl rfl rfl rfl hl.1 rfl (lv_room (Nat.le_of_ble_eq_true rfl)) d_P_fault_120 ⟨Nat.zero_le _, Nat.zero_le _⟩ hS hP (fun H locs hP hS => ?_)
              refine nr_ifneB (tgt := 128) hx hb d_P_fault_123 (by decide) (fun c_123 => ?_) (fun c_123 => ?_)
              · exact False.elim (by first | (exact hno ⟨c_8, by omega, c_90, by rw [e59]; exact c_104, c_112, by simp at c_123; omega⟩) | omega)
              · refine lv_iconst (v := -1) hx hb d_P_fault_126 (by decide) ?_
                exact ro_iret hx hb hr hlocks hS rfl d_P_fault_127
    · refine lv_iload hx hb d_P_fault_27 (lv_at hl 0 rfl) ?_
      refine lv_iconst (v := nI 4) hx hb d_P_fault_29 (by decide) ?_
      refine nr_icmp_eq (by omega) (by omega) (tgt := 35) hx hb d_P_fault_30 (by decide) (fun c_30 => ?_) (fun c_30 => ?_)
      · refine lv_iload_n hx hb d_P_fault_35 rfl (lv_at hl 2 rfl) ?_
        refine lv_iconst (v := nI 0) hx hb d_P_fault_36 (by decide) ?_
        refine ro_Si (As := [.int x, .int (nI 0)]) (rest := []) ⟨hx, hb, hml, hown, hts⟩ (c_P_memberOf l dC dI cI cL x 0 (by omega)) (cwS 2 hts (wg_S wk_P_80 ws_P_memberOf wi_P wc_P_memberOf) rfl rfl rfl (by decide +kernel) ⟨Nat.le_of_ble_eq_true rfl, Nat.le_of_ble_eq_true rfl⟩) hK (hP.sub [] rfl) rfl hl.1 rfl (lv_room (Nat.le_of_ble_eq_true rfl)) d_P_fault_37 ⟨Nat.zero_le _, Nat.zero_le _⟩ hS hP (fun H locs hP hS => ?_)
        refine lv_istore (lv' := [(5, .int (ng_nth x 20 0 0)), (4, .int (nI (dm_ct (fun i => nb_t x i) 32))), (0, .ref pd), (1, .int x), (2, .int w), (3, .int z)]) hx hb d_P_fault_40 hl (by decide) rfl (fun ls hl => ?_)
        refine lv_iload_n hx hb d_P_fault_42 rfl (lv_at hl 3 rfl) ?_
        refine lv_iconst (v := nI 1) hx hb d_P_fault_43 (by decide) ?_
        refine ro_Si (As := [.int x, .int (nI 1)]) (rest := []) ⟨hx, hb, hml, hown, hts⟩ (c_P_memberOf l dC dI cI cL x 1 (by omega)) (cwS 2 hts (wg_S wk_P_80 ws_P_memberOf wi_P wc_P_memberOf) rfl rfl rfl (by decide +kernel) ⟨Nat.le_of_ble_eq_true rfl, Nat.le_of_ble_eq_true rfl⟩) hK (hP.sub [] rfl) rfl hl.1 rfl (lv_room (Nat.le_of_ble_eq_true rfl)) d_P_fault_44 ⟨Nat.zero_le _, Nat.zero_le _⟩ hS hP (fun H locs hP hS => ?_)
        refine lv_istore (lv' := [(6, .int (ng_nth x 20 0 1)), (5, .int (ng_nth x 20 0 0)), (4, .int (nI (dm_ct (fun i => nb_t x i) 32))), (0, .ref pd), (1, .int x), (2, .int w), (3, .int z)]) hx hb d_P_fault_47 hl (by decide) rfl (fun ls hl => ?_)
        refine lv_iload_n hx hb d_P_fault_49 rfl (lv_at hl 4 rfl) ?_
        refine lv_iconst (v := nI 2) hx hb d_P_fault_50 (by decide) ?_
        refine ro_Si (As := [.int x, .int (nI 2)]) (rest := []) ⟨hx, hb, hml, hown, hts⟩ (c_P_memberOf l dC dI cI cL x 2 (by omega)) (cwS 2 hts (wg_S wk_P_80 ws_P_memberOf wi_P wc_P_memberOf) rfl rfl rfl (by decide +kernel) ⟨Nat.le_of_ble_eq_true rfl, Nat.le_of_ble_eq_true rfl⟩) hK (hP.sub [] rfl) rfl hl.1 rfl (lv_room (Nat.le_of_ble_eq_true rfl)) d_P_fault_51 ⟨Nat.zero_le _, Nat.zero_le _⟩ hS hP (fun H locs hP hS => ?_)
        refine lv_istore (lv' := [(7, .int (ng_nth x 20 0 2)), (6, .int (ng_nth x 20 0 1)), (5, .int (ng_nth x 20 0 0)), (4, .int (nI (dm_ct (fun i => nb_t x i) 32))), (0, .ref pd), (1, .int x), (2, .int w), (3, .int z)]) hx hb d_P_fault_54 hl (by decide) rfl (fun ls hl => ?_)
        refine lv_iload hx hb d_P_fault_56 (lv_at hl 3 rfl) ?_
        refine lv_iconst (v := nI 4) hx hb d_P_fault_58 (by decide) ?_
        refine nr_icmp_ne (by omega) (by omega) (tgt := 70) hx hb d_P_fault_59 (by decide) (fun c_59 => ?_) (fun c_59 => ?_)
        · have e59 : (if dm_ct (fun i => nb_t x i) 32 = 4 then ng_nth x 20 0 3 else ng_nth bd 20 0 0) = ng_nth bd 20 0 0 := if_neg (by omega)
          refine lv_aload_n hx hb d_P_fault_70 rfl (lv_at hl 4 rfl) ?_
          refine va_get (D := (dC, dI)) (ci := 4) (v := .ref g) (C := R_P) (T := F_P) (N := 6) hx hb hts iP hown hK hP 0 rfl rfl 0 (by decide) (hts _ (List.mem_cons_of_mem _ wk_P_10)) (fun _ h9 => h9) rfl d_P_fault_71 ?_
          refine ro_ViZ (As := []) (rest := []) ⟨hx, hb, hml, hown, hts⟩ (c_G_leastBoundary l dC dI cI cL g tA oA uA wA sA np ne bd er vr ) (cwV 0 hts (wg_V wk_P_84 wm_G_leastBoundary we_G_leastBoundary wi_G wc_G_leastBoundary) rfl rfl rfl (by decide +kernel) ⟨Nat.le_of_ble_eq_true rfl, Nat.le_of_ble_eq_true rfl⟩) hnz hK (hP.sub [1] rfl) (q0 := 0) rfl rfl rfl rfl hl.1 rfl (lv_room (Nat.le_of_ble_eq_true rfl)) d_P_fault_74 ⟨Nat.zero_le _, Nat.zero_le _⟩ hS hP (fun H locs hP hS => ?_)
          refine lv_istore (lv' := [(8, .int (ng_nth bd 20 0 0)), (7, .int (ng_nth x 20 0 2)), (6, .int (ng_nth x 20 0 1)), (5, .int (ng_nth x 20 0 0)), (4, .int (nI (dm_ct (fun i => nb_t x i) 32))), (0, .ref pd), (1, .int x), (2, .int w), (3, .int z)]) hx hb d_P_fault_77 hl (by decide) rfl (fun ls hl => ?_)
          refine lv_aload_n hx hb d_P_fault_79 rfl (lv_at hl 5 rfl) ?_
          refine va_get (D := (dC, dI)) (ci := 4) (v := .ref g) (C := R_P) (T := F_P) (N := 6) hx hb hts iP hown hK hP 0 rfl rfl 0 (by decide) (hts _ (List.mem_cons_of_mem _ wk_P_10)) (fun _ h9 => h9) rfl d_P_fault_80 ?_
          refine lv_iload hx hb d_P_fault_83 (lv_at hl 3 rfl) ?_
          refine lv_iload hx hb d_P_fault_85 (lv_at hl 2 rfl) ?_
          refine ro_Vi (As := [.int (ng_nth x 20 0 0), .int (ng_nth x 20 0 1)]) (rest := []) ⟨hx, hb, hml, hown, hts⟩ (c_G_canJoin l dC dI cI cL g tA oA uA wA sA np ne bd er vr (ng_nth x 20 0 0) (ng_nth x 20 0 1) (by omega)) (cwV 2 hts (wg_V wk_P_56 wm_G_canJoin we_G_canJoin wi_G wc_G_canJoin) rfl rfl rfl (by decide +kernel) ⟨Nat.le_of_ble_eq_true rfl, Nat.le_of_ble_eq_true rfl⟩) hK (hP.sub [1] rfl) (q0 := 0) rfl rfl rfl rfl hl.1 rfl (lv_room (Nat.le_of_ble_eq_true rfl)) d_P_fault_87 ⟨Nat.zero_le _, Nat.zero_le _⟩ hS hP (fun H locs hP hS => ?_)
          refine nr_ifeqB (tgt := 126) hx hb d_P_fault_90 (by decide) (fun c_90 => ?_) (fun c_90 => ?_)
          · refine lv_iconst (v := -1) hx hb d_P_fault_126 (by decide) ?_
            exact ro_iret hx hb hr hlocks hS rfl d_P_fault_127
          · refine lv_aload_n hx hb d_P_fault_93 rfl (lv_at hl 5 rfl) ?_
            refine va_get (D := (dC, dI)) (ci := 4) (v := .ref g) (C := R_P) (T := F_P) (N := 6) hx hb hts iP hown hK hP 0 rfl rfl 0 (by decide) (hts _ (List.mem_cons_of_mem _ wk_P_10)) (fun _ h9 => h9) rfl d_P_fault_94 ?_
            refine lv_iload hx hb d_P_fault_97 (lv_at hl 1 rfl) ?_
            refine lv_iload hx hb d_P_fault_99 (lv_at hl 0 rfl) ?_
            refine ro_Vi (As := [.int (ng_nth x 20 0 2), .int (ng_nth bd 20 0 0)]) (rest := []) ⟨hx, hb, hml, hown, hts⟩ (c_G_canJoin l dC dI cI cL g tA oA uA wA sA np ne bd er vr (ng_nth x 20 0 2) (ng_nth bd 20 0 0) (by omega)) (cwV 2 hts (wg_V wk_P_56 wm_G_canJoin we_G_canJoin wi_G wc_G_canJoin) rfl rfl rfl (by decide +kernel) ⟨Nat.le_of_ble_eq_true rfl, Nat.le_of_ble_eq_true rfl⟩) hK (hP.sub [1] rfl) (q0 := 0) rfl rfl rfl rfl hl.1 rfl (lv_room (Nat.le_of_ble_eq_true rfl)) d_P_fault_101 ⟨Nat.zero_le _, Nat.zero_le _⟩ hS hP (fun H locs hP hS => ?_)
            refine nr_ifeqB (tgt := 126) hx hb d_P_fault_104 (by decide) (fun c_104 => ?_) (fun c_104 => ?_)
            · refine lv_iconst (v := -1) hx hb d_P_fault_126 (by decide) ?_
              exact ro_iret hx hb hr hlocks hS rfl d_P_fault_127
            · refine lv_iload_n hx hb d_P_fault_107 rfl (lv_at hl 7 rfl) ?_
              refine lv_iload_n hx hb d_P_fault_108 rfl (lv_at hl 8 rfl) ?_
              refine ro_Si (As := [.int w, .int z]) (rest := []) ⟨hx, hb, hml, hown, hts⟩ (c_P_areEdgeValues l dC dI cI cL w z ) (cwS 2 hts (wg_S wk_P_60 ws_P_areEdgeValues wi_P wc_P_areEdgeValues) rfl rfl rfl (by decide +kernel) ⟨Nat.le_of_ble_eq_true rfl, Nat.le_of_ble_eq_true rfl⟩) hK (hP.sub [] rfl) rfl hl.1 rfl (lv_room (Nat.le_of_ble_eq_true rfl)) d_P_fault_109 ⟨Nat.zero_le _, Nat.zero_le _⟩ hS hP (fun H locs hP hS => ?_)
              refine nr_ifeqB (tgt := 126) hx hb d_P_fault_112 (by decide) (fun c_112 => ?_) (fun c_112 => ?_)
              · refine lv_iconst (v := -1) hx hb d_P_fault_126 (by decide) ?_
                exact ro_iret hx hb hr hlocks hS rfl d_P_fault_127
              · refine lv_aload_n hx hb d_P_fault_115 rfl (lv_at hl 5 rfl) ?_
                refine va_get (D := (dC, dI)) (ci := 4) (v := .ref g) (C := R_P) (T := F_P) (N := 6) hx hb hts iP hown hK hP 0 rfl rfl 0 (by decide) (hts _ (List.mem_cons_of_mem _ wk_P_10)) (fun _ h9 => h9) rfl d_P_fault_116 ?_
                refine lv_iconst (v := nI 2) hx hb d_P_fault_119 (by decide) ?_
                refine ro_Vi (As := [.int (nI 2)]) (rest := []) ⟨hx, hb, hml, hown, hts⟩ (c_G_hasRoomFor l dC dI cI cL g tA oA uA wA sA np ne bd er vr 2 (by omega) (by omega)) (cwV 1 hts (wg_V wk_P_63 wm_G_hasRoomFor we_G_hasRoomFor wi_G wc_G_hasRoomFor) rfl rfl rfl (by decide +kernel) ⟨Nat.le_of_ble_eq_true rfl, Nat.le_of_ble_eq_true rfl⟩) hK (hP.sub [1] rfl) (q0 := 0) rfl rfl rfl rfl hl.1 rfl (lv_room (Nat.le_of_ble_eq_true rfl)) d_P_fault_120 ⟨Nat.zero_le _, Nat.zero_le _⟩ hS hP (fun H locs hP hS => ?_)
                refine nr_ifneB (tgt := 128) hx hb d_P_fault_123 (by decide) (fun c_123 => ?_) (fun c_123 => ?_)
                · exact False.elim (by first | (exact hno ⟨c_8, by omega, c_90, by rw [e59]; exact c_104, c_112, by simp at c_123; omega⟩) | omega)
                · refine lv_iconst (v := -1) hx hb d_P_fault_126 (by decide) ?_
                  exact ro_iret hx hb hr hlocks hS rfl d_P_fault_127
        · have e59 : (if dm_ct (fun i => nb_t x i) 32 = 4 then ng_nth x 20 0 3 else ng_nth bd 20 0 0) = ng_nth x 20 0 3 := if_pos (by omega)
          refine lv_iload_n hx hb d_P_fault_62 rfl (lv_at hl 5 rfl) ?_
          refine lv_iconst (v := nI 3) hx hb d_P_fault_63 (by decide) ?_
          refine ro_Si (As := [.int x, .int (nI 3)]) (rest := []) ⟨hx, hb, hml, hown, hts⟩ (c_P_memberOf l dC dI cI cL x 3 (by omega)) (cwS 2 hts (wg_S wk_P_80 ws_P_memberOf wi_P wc_P_memberOf) rfl rfl rfl (by decide +kernel) ⟨Nat.le_of_ble_eq_true rfl, Nat.le_of_ble_eq_true rfl⟩) hK (hP.sub [] rfl) rfl hl.1 rfl (lv_room (Nat.le_of_ble_eq_true rfl)) d_P_fault_64 ⟨Nat.zero_le _, Nat.zero_le _⟩ hS hP (fun H locs hP hS => ?_)
          refine lv_goto (tgt := 77) hx hb d_P_fault_67 (by decide) ?_
          refine lv_istore (lv' := [(8, .int (ng_nth x 20 0 3)), (7, .int (ng_nth x 20 0 2)), (6, .int (ng_nth x 20 0 1)), (5, .int (ng_nth x 20 0 0)), (4, .int (nI (dm_ct (fun i => nb_t x i) 32))), (0, .ref pd), (1, .int x), (2, .int w), (3, .int z)]) hx hb d_P_fault_77 hl (by decide) rfl (fun ls hl => ?_)
          refine lv_aload_n hx hb d_P_fault_79 rfl (lv_at hl 5 rfl) ?_
          refine va_get (D := (dC, dI)) (ci := 4) (v := .ref g) (C := R_P) (T := F_P) (N := 6) hx hb hts iP hown hK hP 0 rfl rfl 0 (by decide) (hts _ (List.mem_cons_of_mem _ wk_P_10)) (fun _ h9 => h9) rfl d_P_fault_80 ?_
          refine lv_iload hx hb d_P_fault_83 (lv_at hl 3 rfl) ?_
          refine lv_iload hx hb d_P_fault_85 (lv_at hl 2 rfl) ?_
          refine ro_Vi (As := [.int (ng_nth x 20 0 0), .int (ng_nth x 20 0 1)]) (rest := []) ⟨hx, hb, hml, hown, hts⟩ (c_G_canJoin l dC dI cI cL g tA oA uA wA sA np ne bd er vr (ng_nth x 20 0 0) (ng_nth x 20 0 1) (by omega)) (cwV 2 hts (wg_V wk_P_56 wm_G_canJoin we_G_canJoin wi_G wc_G_canJoin) rfl rfl rfl (by decide +kernel) ⟨Nat.le_of_ble_eq_true rfl, Nat.le_of_ble_eq_true rfl⟩) hK (hP.sub [1] rfl) (q0 := 0) rfl rfl rfl rfl hl.1 rfl (lv_room (Nat.le_of_ble_eq_true rfl)) d_P_fault_87 ⟨Nat.zero_le _, Nat.zero_le _⟩ hS hP (fun H locs hP hS => ?_)
          refine nr_ifeqB (tgt := 126) hx hb d_P_fault_90 (by decide) (fun c_90 => ?_) (fun c_90 => ?_)
          · refine lv_iconst (v := -1) hx hb d_P_fault_126 (by decide) ?_
            exact ro_iret hx hb hr hlocks hS rfl d_P_fault_127
          · refine lv_aload_n hx hb d_P_fault_93 rfl (lv_at hl 5 rfl) ?_
            refine va_get (D := (dC, dI)) (ci := 4) (v := .ref g) (C := R_P) (T := F_P) (N := 6) hx hb hts iP hown hK hP 0 rfl rfl 0 (by decide) (hts _ (List.mem_cons_of_mem _ wk_P_10)) (fun _ h9 => h9) rfl d_P_fault_94 ?_
            refine lv_iload hx hb d_P_fault_97 (lv_at hl 1 rfl) ?_
            refine lv_iload hx hb d_P_fault_99 (lv_at hl 0 rfl) ?_
            refine ro_Vi (As := [.int (ng_nth x 20 0 2), .int (ng_nth x 20 0 3)]) (rest := []) ⟨hx, hb, hml, hown, hts⟩ (c_G_canJoin l dC dI cI cL g tA oA uA wA sA np ne bd er vr (ng_nth x 20 0 2) (ng_nth x 20 0 3) (by omega)) (cwV 2 hts (wg_V wk_P_56 wm_G_canJoin we_G_canJoin wi_G wc_G_canJoin) rfl rfl rfl (by decide +kernel) ⟨Nat.le_of_ble_eq_true rfl, Nat.le_of_ble_eq_true rfl⟩) hK (hP.sub [1] rfl) (q0 := 0) rfl rfl rfl rfl hl.1 rfl (lv_room (Nat.le_of_ble_eq_true rfl)) d_P_fault_101 ⟨Nat.zero_le _, Nat.zero_le _⟩ hS hP (fun H locs hP hS => ?_)
            refine nr_ifeqB (tgt := 126) hx hb d_P_fault_104 (by decide) (fun c_104 => ?_) (fun c_104 => ?_)
            · refine lv_iconst (v := -1) hx hb d_P_fault_126 (by decide) ?_
              exact ro_iret hx hb hr hlocks hS rfl d_P_fault_127
            · refine lv_iload_n hx hb d_P_fault_107 rfl (lv_at hl 7 rfl) ?_
              refine lv_iload_n hx hb d_P_fault_108 rfl (lv_at hl 8 rfl) ?_
              refine ro_Si (As := [.int w, .int z]) (rest := []) ⟨hx, hb, hml, hown, hts⟩ (c_P_areEdgeValues l dC dI cI cL w z ) (cwS 2 hts (wg_S wk_P_60 ws_P_areEdgeValues wi_P wc_P_areEdgeValues) rfl rfl rfl (by decide +kernel) ⟨Nat.le_of_ble_eq_true rfl, Nat.le_of_ble_eq_true rfl⟩) hK (hP.sub [] rfl) rfl hl.1 rfl (lv_room (Nat.le_of_ble_eq_true rfl)) d_P_fault_109 ⟨Nat.zero_le _, Nat.zero_le _⟩ hS hP (fun H locs hP hS => ?_)
              refine nr_ifeqB (tgt := 126) hx hb d_P_fault_112 (by decide) (fun c_112 => ?_) (fun c_112 => ?_)
              · refine lv_iconst (v := -1) hx hb d_P_fault_126 (by decide) ?_
                exact ro_iret hx hb hr hlocks hS rfl d_P_fault_127
              · refine lv_aload_n hx hb d_P_fault_115 rfl (lv_at hl 5 rfl) ?_
                refine va_get (D := (dC, dI)) (ci := 4) (v := .ref g) (C := R_P) (T := F_P) (N := 6) hx hb hts iP hown hK hP 0 rfl rfl 0 (by decide) (hts _ (List.mem_cons_of_mem _ wk_P_10)) (fun _ h9 => h9) rfl d_P_fault_116 ?_
                refine lv_iconst (v := nI 2) hx hb d_P_fault_119 (by decide) ?_
                refine ro_Vi (As := [.int (nI 2)]) (rest := []) ⟨hx, hb, hml, hown, hts⟩ (c_G_hasRoomFor l dC dI cI cL g tA oA uA wA sA np ne bd er vr 2 (by omega) (by omega)) (cwV 1 hts (wg_V wk_P_63 wm_G_hasRoomFor we_G_hasRoomFor wi_G wc_G_hasRoomFor) rfl rfl rfl (by decide +kernel) ⟨Nat.le_of_ble_eq_true rfl, Nat.le_of_ble_eq_true rfl⟩) hK (hP.sub [1] rfl) (q0 := 0) rfl rfl rfl rfl hl.1 rfl (lv_room (Nat.le_of_ble_eq_true rfl)) d_P_fault_120 ⟨Nat.zero_le _, Nat.zero_le _⟩ hS hP (fun H locs hP hS => ?_)
                refine nr_ifneB (tgt := 128) hx hb d_P_fault_123 (by decide) (fun c_123 => ?_) (fun c_123 => ?_)
                · exact False.elim (by first | (exact hno ⟨c_8, by omega, c_90, by rw [e59]; exact c_104, c_112, by simp at c_123; omega⟩) | omega)
                · refine lv_iconst (v := -1) hx hb d_P_fault_126 (by decide) ?_
                  exact ro_iret hx hb hr hlocks hS rfl d_P_fault_127
      · refine lv_iconst (v := -1) hx hb d_P_fault_33 (by decide) ?_
        exact ro_iret hx hb hr hlocks hS rfl d_P_fault_34
