set_option maxHeartbeats 4000000 in
set_option maxRecDepth 100000 in
theorem c_P_way_no (l : Launch) (dC : Nat → ClassId) (dI : Nat → Nat → Nat) (cI cL : ClassId) (pd g wy mt fo : Nat) (fi : Int32) (kp : Int64) (tA oA uA wA sA np ne : Nat) (bd : Int32) (er : Int64) (vr : Nat) (a b x : Int32) (hno : ¬ (nb_in np a = true ∧ nb_in np b = true ∧ a ≠ b ∧ ¬ x < 0)) : Met l y_P_way w_P_way ({ frames := 4, cells := 0, slots := 0, locals := 95 } : Room) (va_Pc [.ref pd, .int a, .int b, .int x] (ro_B (dC, dI) classes [(cI, .int), (cL, .long)] [cg_P pd g wy mt fo fi kp, cg_G g tA oA uA wA sA np ne bd er vr])) (ro_Qi (-1)) 0 0 ro_A := by
  refine Met.ofW (cc := b_P_way) (maxL := 4) (ret := (some .int)) (by decide) rfl ?_
  intro p e s m args below meth c s₁ B hml hv
  obtain ⟨rfl, hP, hK⟩ := hv
  have hx := B.exec
  have hb := B.bytes
  have hr := B.returns
  have hts := atoms_spec (ws := w_P_way) B.pre
  have hown : s.vm.findClass R_P = some m.cls := findClass_of_methodNamed B.named
  have hlocks := B.notSynchronized
  have iP : ∀ w ∈ w_P, w ∈ w_P_way := fun w h => List.mem_cons_of_mem _ (i_P w h)
  have iW : ∀ w ∈ w_W, w ∈ w_P_way := fun w h => List.mem_cons_of_mem _ (i_W w h)
  have hS : va_S ro_A s.heap s.heap [] := va_S.rf
  have hP : va_P (dC, dI) classes [cg_P pd g wy mt fo fi kp, cg_G g tA oA uA wA sA np ne bd er vr] s.heap := hP
  have hl := lv_entry ([.ref pd, .int a, .int b, .int x]) (n := 4) (Nat.le_of_ble_eq_true rfl)
  rw [lg_entry_eq]
  generalize (lg_sl ([.ref pd, .int a, .int b, .int x]) ++ List.replicate (4 - (lg_sl ([.ref pd, .int a, .int b, .int x])).length) Slot.unset).toArray = ls at hl ⊢
  have hl : lv_has ls 4 [(0, .ref pd), (1, .int a), (2, .int b), (3, .int x)] := hl
  refine lv_aload_n hx hb d_P_way_0 rfl (lv_at hl 0 rfl) ?_
  refine va_get (D := (dC, dI)) (ci := 4) (v := .ref g) (C := R_P) (T := F_P) (N := 6) hx hb hts iP hown hK hP 0 rfl rfl 0 (by decide) (hts _ (List.mem_cons_of_mem _ wk_P_10)) (fun _ h9 => h9) rfl d_P_way_1 ?_
  refine lv_iload_n hx hb d_P_way_4 rfl (lv_at hl 1 rfl) ?_
  refine ro_Vi (As := [.int a]) (rest := []) ⟨hx, hb, hml, hown, hts⟩ (c_G_hasPoint l dC dI cI cL g tA oA uA wA sA np ne bd er vr a ) (cwV 1 hts (wg_V wk_P_88 wm_G_hasPoint we_G_hasPoint wi_G wc_G_hasPoint) rfl rfl rfl (by decide +kernel) ⟨Nat.le_of_ble_eq_true rfl, Nat.le_of_ble_eq_true rfl⟩) hK (hP.sub [1] rfl) (q0 := 0) rfl rfl rfl rfl hl.1 rfl (lv_room (Nat.le_of_ble_eq_true rfl)) d_P_way_5 ⟨Nat.zero_le _, Nat.zero_le _⟩ hS hP (fun H locs hP hS => ?_)
  refine nr_ifeqB (tgt := 31) hx hb d_P_way_8 (by decide) (fun c_8 => ?_) (fun c_8 => ?_)
  · refine lv_iconst (v := -1) hx hb d_P_way_31 (by decide) ?_
    exact ro_iret hx hb hr hlocks hS rfl d_P_way_32
  · refine lv_aload_n hx hb d_P_way_11 rfl (lv_at hl 0 rfl) ?_
    refine va_get (D := (dC, dI)) (ci := 4) (v := .ref g) (C := R_P) (T := F_P) (N := 6) hx hb hts iP hown hK hP 0 rfl rfl 0 (by decide) (hts _ (List.mem_cons_of_mem _ wk_P_10)) (fun _ h9 => h9) rfl d_P_way_12 ?_
    refine lv_iload_n hx hb d_P_way_15 rfl (lv_at hl 2 rfl) ?_
    refine ro_Vi (As := [.int b]) (rest := []) ⟨hx, hb, hml, hown, hts⟩ (c_G_hasPoint l dC dI cI cL g tA oA uA wA sA np ne bd er vr b ) (cwV 1 hts (wg_V wk_P_88 wm_G_hasPoint we_G_hasPoint wi_G wc_G_hasPoint) rfl rfl rfl (by decide +kernel) ⟨Nat.le_of_ble_eq_true rfl, Nat.le_of_ble_eq_true rfl⟩) hK (hP.sub [1] rfl) (q0 := 0) rfl rfl rfl rfl hl.1 rfl (lv_room (Nat.le_of_ble_eq_true rfl)) d_P_way_16 ⟨Nat.zero_le _, Nat.zero_le _⟩ hS hP (fun H locs hP hS => ?_)
    refine nr_ifeqB (tgt := 31) hx hb d_P_way_19 (by decide) (fun c_19 => ?_) (fun c_19 => ?_)
    · refine lv_iconst (v := -1) hx hb d_P_way_31 (by decide) ?_
      exact ro_iret hx hb hr hlocks hS rfl d_P_way_32
    · refine lv_iload_n hx hb d_P_way_22 rfl (lv_at hl 1 rfl) ?_
      refine lv_iload_n hx hb d_P_way_23 rfl (lv_at hl 2 rfl) ?_
      refine lv_icmp_eq (tgt := 31) hx hb d_P_way_24 (by decide) (fun c_24 => ?_) (fun c_24 => ?_)
      · refine lv_iconst (v := -1) hx hb d_P_way_31 (by decide) ?_
        exact ro_iret hx hb hr hlocks hS rfl d_P_way_32
      · refine lv_iload_n hx hb d_P_way_27 rfl (lv_at hl 3 rfl) ?_
        refine lv_if_ge (tgt := 33) hx hb d_P_way_28 (by decide) (fun c_28 => ?_) (fun c_28 => ?_)
        · exact False.elim (hno ⟨c_8, c_19, c_24, fun q => Int32.not_lt.mpr c_28 q⟩)
        · refine lv_iconst (v := -1) hx hb d_P_way_31 (by decide) ?_
          exact ro_iret hx hb hr hlocks hS rfl d_P_way_32
set_option maxHeartbeats 4000000 in
set_option maxRecDepth 100000 in
theorem c_P_way_ok (l : Launch) (dC : Nat → ClassId) (dI : Nat → Nat → Nat) (cI cL : ClassId) (pd g wy mt fo : Nat) (fi : Int32) (kp : Int64) (tA oA uA wA sA np ne : Nat) (bd : Int32) (er : Int64) (vr : Nat) (cA rA : Nat) (mv : Int32) (tl : Nat) (oe ot wt ct tr : Nat → Nat) (a b : Nat) (x : Int32) (hnp : np ≤ 20) (hne : ne ≤ 60) (hE : ∀ i, i < ne → oe i < np ∧ ot i < np) (hdf : ∀ i, i < ne → oe i ≠ ot i) (hW : ∀ i, i < ne → ng_w er wt i ≤ 1000000) (hct : ∀ i, i < 400 → ct i ≤ dm_FAR) (hm : mv = nI vr → ng_M np ne bd er oe ot wt ct) (ha : a < np) (hb1 : b < np) (hab : a ≠ b) (hx0 : ¬ x < 0) (htl : tl ≤ 20) : Met l y_P_way w_P_way ({ frames := 4, cells := 0, slots := 0, locals := 95 } : Room) (va_Pc [.ref pd, .int (nI a), .int (nI b), .int x] (rw_B (dC, dI) classes [(cI, .int), (cL, .long)] [cg_P pd g wy mt fo fi kp, cg_G g tA oA uA wA sA np ne bd er vr, cg_N oA cI 60 oe, cg_N uA cI 60 ot, cg_N wA cI 60 wt, cg_W wy g cA rA mv tl, cg_L cA cL 400 ct, cg_N rA cI 20 tr])) (rw_Qi (dC, dI) classes (rw_A [cg_P pd g wy mt fo fi kp, cg_G g tA oA uA wA sA np ne bd er vr, cg_N oA cI 60 oe, cg_N uA cI 60 ot, cg_N wA cI 60 wt, cg_W wy g cA rA mv tl, cg_L cA cL 400 ct, cg_N rA cI 20 tr]) (fun r (u : (Nat) × (Nat → Nat) × (Nat → Nat)) => r = ng_way u.2.1 (ng_pth bd er oe ot wt u.2.1 ne a b) a b x ∧ ng_M np ne bd er oe ot wt u.2.1 ∧ u.1 ≤ 20) (fun u => [cg_P pd g wy mt fo fi kp, cg_G g tA oA uA wA sA np ne bd er vr, cg_N oA cI 60 oe, cg_N uA cI 60 ot, cg_N wA cI 60 wt, cg_W wy g cA rA (nI vr) u.1, cg_L cA cL 400 u.2.1, cg_N rA cI 20 u.2.2])) 0 0 (rw_A [cg_P pd g wy mt fo fi kp, cg_G g tA oA uA wA sA np ne bd er vr, cg_N oA cI 60 oe, cg_N uA cI 60 ot, cg_N wA cI 60 wt, cg_W wy g cA rA mv tl, cg_L cA cL 400 ct, cg_N rA cI 20 tr]) := by
  refine Met.ofW (cc := b_P_way) (maxL := 4) (ret := (some .int)) (by decide) rfl ?_
  intro p e s m args below meth c s₁ B hml hv
  obtain ⟨rfl, hP, hK, hD0⟩ := hv
  have hx := B.exec
  have hb := B.bytes
  have hr := B.returns
  have hts := atoms_spec (ws := w_P_way) B.pre
  have hown : s.vm.findClass R_P = some m.cls := findClass_of_methodNamed B.named
  have hlocks := B.notSynchronized
  have iP : ∀ w ∈ w_P, w ∈ w_P_way := fun w h => List.mem_cons_of_mem _ (i_P w h)
  have iW : ∀ w ∈ w_W, w ∈ w_P_way := fun w h => List.mem_cons_of_mem _ (i_W w h)
  have hD := rw_own hD0
  generalize hAe : rw_A [cg_P pd g wy mt fo fi kp, cg_G g tA oA uA wA sA np ne bd er vr, cg_N oA cI 60 oe, cg_N uA cI 60 ot, cg_N wA cI 60 wt, cg_W wy g cA rA mv tl, cg_L cA cL 400 ct, cg_N rA cI 20 tr] = A at hD ⊢
  have hS : va_S A s.heap s.heap [] := va_S.rf
  have hP : va_P (dC, dI) classes [cg_P pd g wy mt fo fi kp, cg_G g tA oA uA wA sA np ne bd er vr, cg_N oA cI 60 oe, cg_N uA cI 60 ot, cg_N wA cI 60 wt, cg_W wy g cA rA mv tl, cg_L cA cL 400 ct, cg_N rA cI 20 tr] s.heap := hP
  have hl := lv_entry ([.ref pd, .int (nI a), .int (nI b), .int x]) (n := 4) (Nat.le_of_ble_eq_true rfl)
  rw [lg_entry_eq]
  generalize (lg_sl ([.ref pd, .int (nI a), .int (nI b), .int x]) ++ List.replicate (4 - (lg_sl ([.ref pd, .int (nI a), .int (nI b), .int x])).length) Slot.unset).toArray = ls at hl ⊢
  have hl : lv_has ls 4 [(0, .ref pd), (1, .int (nI a)), (2, .int (nI b)), (3, .int x)] := hl
  have ia : nb_in np (nI a) = true := by rw [nb_inI_nI (by omega) (by omega), decide_eq_true ha]
  have ib : nb_in np (nI b) = true := by rw [nb_inI_nI (by omega) (by omega), decide_eq_true hb1]
  have hFAR : dm_FAR = 1000000000000 := rfl
  refine lv_aload_n hx hb d_P_way_0 rfl (lv_at hl 0 rfl) ?_
  refine va_get (D := (dC, dI)) (ci := 4) (v := .ref g) (C := R_P) (T := F_P) (N := 6) hx hb hts iP hown hK hP 0 rfl rfl 0 (by decide) (hts _ (List.mem_cons_of_mem _ wk_P_10)) (fun _ h9 => h9) rfl d_P_way_1 ?_
  refine lv_iload_n hx hb d_P_way_4 rfl (lv_at hl 1 rfl) ?_
  refine ro_Vi (As := [.int (nI a)]) (rest := []) ⟨hx, hb, hml, hown, hts⟩ (c_G_hasPoint l dC dI cI cL g tA oA uA wA sA np ne bd er vr (nI a) ) (cwV 1 hts (wg_V wk_P_88 wm_G_hasPoint we_G_hasPoint wi_G wc_G_hasPoint) rfl rfl rfl (by decide +kernel) ⟨Nat.le_of_ble_eq_true rfl, Nat.le_of_ble_eq_true rfl⟩) hK (hP.sub [1] rfl) (q0 := 0) rfl rfl rfl rfl hl.1 rfl (lv_room (Nat.le_of_ble_eq_true rfl)) d_P_way_5 ⟨Nat.zero_le _, Nat.zero_le _⟩ hS hP (fun H locs hP hS => ?_)
  refine nr_ifeqB (tgt := 31) hx hb d_P_way_8 (by decide) (fun c_8 => ?_) (fun c_8 => ?_)
  · exact False.elim (by first | (rw [ia] at c_8; cases c_8; done) | (rw [ib] at c_19; cases c_19; done) | exact hab c_24 | exact c_28 (Int32.not_lt.mp hx0))
  · refine lv_aload_n hx hb d_P_way_11 rfl (lv_at hl 0 rfl) ?_
    refine va_get (D := (dC, dI)) (ci := 4) (v := .ref g) (C := R_P) (T := F_P) (N := 6) hx hb hts iP hown hK hP 0 rfl rfl 0 (by decide) (hts _ (List.mem_cons_of_mem _ wk_P_10)) (fun _ h9 => h9) rfl d_P_way_12 ?_
    refine lv_iload_n hx hb d_P_way_15 rfl (lv_at hl 2 rfl) ?_
    refine ro_Vi (As := [.int (nI b)]) (rest := []) ⟨hx, hb, hml, hown, hts⟩ (c_G_hasPoint l dC dI cI cL g tA oA uA wA sA np ne bd er vr (nI b) ) (cwV 1 hts (wg_V wk_P_88 wm_G_hasPoint we_G_hasPoint wi_G wc_G_hasPoint) rfl rfl rfl (by decide +kernel) ⟨Nat.le_of_ble_eq_true rfl, Nat.le_of_ble_eq_true rfl⟩) hK (hP.sub [1] rfl) (q0 := 0) rfl rfl rfl rfl hl.1 rfl (lv_room (Nat.le_of_ble_eq_true rfl)) d_P_way_16 ⟨Nat.zero_le _, Nat.zero_le _⟩ hS hP (fun H locs hP hS => ?_)
    refine nr_ifeqB (tgt := 31) hx hb d_P_way_19 (by decide) (fun c_19 => ?_) (fun c_19 => ?_)
    · exact False.elim (by first | (rw [ia] at c_8; cases c_8; done) | (rw [ib] at c_19; cases c_19; done) | exact hab c_24 | exact c_28 (Int32.not_lt.mp hx0))
    · refine lv_iload_n hx hb d_P_way_22 rfl (lv_at hl 1 rfl) ?_
      refine lv_iload_n hx hb d_P_way_23 rfl (lv_at hl 2 rfl) ?_
      refine nr_icmp_eq (by omega) (by omega) (tgt := 31) hx hb d_P_way_24 (by decide) (fun c_24 => ?_) (fun c_24 => ?_)
      · exact False.elim (by first | (rw [ia] at c_8; cases c_8; done) | (rw [ib] at c_19; cases c_19; done) | exact hab c_24 | exact c_28 (Int32.not_lt.mp hx0))
      · refine lv_iload_n hx hb d_P_way_27 rfl (lv_at hl 3 rfl) ?_
        refine lv_if_ge (tgt := 33) hx hb d_P_way_28 (by decide) (fun c_28 => ?_) (fun c_28 => ?_)
        · refine lv_aload_n hx hb d_P_way_33 rfl (lv_at hl 0 rfl) ?_
          refine va_get (D := (dC, dI)) (ci := 4) (v := .ref wy) (C := R_P) (T := F_P) (N := 6) hx hb hts iP hown hK hP 0 rfl rfl 1 (by decide) (hts _ (List.mem_cons_of_mem _ wk_P_21)) (fun _ h9 => h9) rfl d_P_way_34 ?_
          refine rw_Vv (wr := [cg_P pd g wy mt fo fi kp, cg_N rA cI 20 tr]) [1, 2, 3, 4, 5, 6] [0, 7] rfl rfl (by decide) (As := []) (rest := []) ⟨hx, hb, hml, hown, hts⟩ (c_W_measure l dC dI cI cL g tA oA uA wA sA np ne bd er vr wy cA rA mv tl oe ot wt ct (by omega) (by omega) hE hdf hW hct hm) (cwV 0 hts (wg_V wk_P_107 wm_W_measure we_W_measure wi_W wc_W_measure) rfl rfl rfl (by decide +kernel) ⟨Nat.le_of_ble_eq_true rfl, Nat.le_of_ble_eq_true rfl⟩) hK (hP.sub [1, 2, 3, 4, 5, 6] rfl) ((hD.sub [1, 2, 3, 4, 5, 6] (by decide) rfl).weaken (fun _ _ _ _ => trivial)) (q0 := 4) rfl rfl rfl rfl hl.1 rfl (lv_room (Nat.le_of_ble_eq_true rfl)) d_P_way_37 ⟨Nat.zero_le _, Nat.zero_le _⟩ hS hP hD (fun ct2_1 H locs hw_3 hP hS => ?_)
          have hP : va_P (dC, dI) classes [cg_P pd g wy mt fo fi kp, cg_G g tA oA uA wA sA np ne bd er vr, cg_N oA cI 60 oe, cg_N uA cI 60 ot, cg_N wA cI 60 wt, cg_W wy g cA rA (nI vr) tl, cg_L cA cL 400 ct2_1, cg_N rA cI 20 tr] H := hP.sub [0, 2, 3, 4, 5, 6, 7, 1] rfl
          have hD : va_D A [cg_P pd g wy mt fo fi kp, cg_G g tA oA uA wA sA np ne bd er vr, cg_N oA cI 60 oe, cg_N uA cI 60 ot, cg_N wA cI 60 wt, cg_W wy g cA rA (nI vr) tl, cg_L cA cL 400 ct2_1, cg_N rA cI 20 tr] := rw_re hD rfl
          try dsimp only at hw_3
          have hM2 := hw_3
          have hcc := hM2.2 (a * 20 + b) (by omega)
          refine lv_aload_n hx hb d_P_way_40 rfl (lv_at hl 0 rfl) ?_
          refine va_get (D := (dC, dI)) (ci := 4) (v := .ref wy) (C := R_P) (T := F_P) (N := 6) hx hb hts iP hown hK hP 0 rfl rfl 1 (by decide) (hts _ (List.mem_cons_of_mem _ wk_P_21)) (fun _ h9 => h9) rfl d_P_way_41 ?_
          refine lv_iload_n hx hb d_P_way_44 rfl (lv_at hl 1 rfl) ?_
          refine lv_iload_n hx hb d_P_way_45 rfl (lv_at hl 2 rfl) ?_
          refine ro_Vi (As := [.int (nI a), .int (nI b)]) (rest := []) ⟨hx, hb, hml, hown, hts⟩ (c_W_isThere l dC dI cI cL wy g cA rA (nI vr) tl ct2_1 a b (by omega) (by omega) (by omega)) (cwV 2 hts (wg_V wk_P_110 wm_W_isThere we_W_isThere wi_W wc_W_isThere) rfl rfl rfl (by decide +kernel) ⟨Nat.le_of_ble_eq_true rfl, Nat.le_of_ble_eq_true rfl⟩) hK (hP.sub [5, 6] rfl) (q0 := 0) rfl rfl rfl rfl hl.1 rfl (lv_room (Nat.le_of_ble_eq_true rfl)) d_P_way_46 ⟨Nat.zero_le _, Nat.zero_le _⟩ hS hP (fun H locs hP hS => ?_)
          refine nr_ifneB (tgt := 54) hx hb d_P_way_49 (by decide) (fun c_49 => ?_) (fun c_49 => ?_)
          · refine lv_iload_n hx hb d_P_way_54 rfl (lv_at hl 3 rfl) ?_
            refine lv_if_ne (tgt := 68) hx hb d_P_way_55 (by decide) (fun c_55 => ?_) (fun c_55 => ?_)
            · refine lv_aload_n hx hb d_P_way_68 rfl (lv_at hl 0 rfl) ?_
              refine va_get (D := (dC, dI)) (ci := 4) (v := .ref wy) (C := R_P) (T := F_P) (N := 6) hx hb hts iP hown hK hP 0 rfl rfl 1 (by decide) (hts _ (List.mem_cons_of_mem _ wk_P_21)) (fun _ h9 => h9) rfl d_P_way_69 ?_
              refine lv_iload_n hx hb d_P_way_72 rfl (lv_at hl 1 rfl) ?_
              refine lv_iload_n hx hb d_P_way_73 rfl (lv_at hl 2 rfl) ?_
              refine rw_Vv (wr := [cg_P pd g wy mt fo fi kp]) [1, 2, 3, 4, 5, 6, 7] [0] rfl rfl (by decide) (As := [.int (nI a), .int (nI b)]) (rest := []) ⟨hx, hb, hml, hown, hts⟩ (c_W_trace l dC dI cI cL g tA oA uA wA sA np ne bd er vr wy cA rA (nI vr) tl oe ot wt ct2_1 tr a b (by omega) (by omega) (by omega) (fun i h => ⟨Nat.lt_of_lt_of_le (hE i h).1 hnp, Nat.lt_of_lt_of_le (hE i h).2 hnp⟩) hW hM2.2) (cwV 2 hts (wg_V wk_P_116 wm_W_trace we_W_trace wi_W wc_W_trace) rfl rfl rfl (by decide +kernel) ⟨Nat.le_of_ble_eq_true rfl, Nat.le_of_ble_eq_true rfl⟩) hK (hP.sub [1, 2, 3, 4, 5, 6, 7] rfl) ((hD.sub [1, 2, 3, 4, 5, 6, 7] (by decide) rfl).weaken (fun _ _ _ _ => trivial)) (q0 := 4) rfl rfl rfl rfl hl.1 rfl (lv_room (Nat.le_of_ble_eq_true rfl)) d_P_way_74 ⟨Nat.zero_le _, Nat.zero_le _⟩ hS hP hD (fun tr2_4 H locs hw_6 hP hS => ?_)
              have hP : va_P (dC, dI) classes [cg_P pd g wy mt fo fi kp, cg_G g tA oA uA wA sA np ne bd er vr, cg_N oA cI 60 oe, cg_N uA cI 60 ot, cg_N wA cI 60 wt, cg_W wy g cA rA (nI vr) ((ng_path (ng_nxt bd er oe ot wt ct2_1 ne (max a b)) (max a b) 20 (min a b)).length), cg_L cA cL 400 ct2_1, cg_N rA cI 20 tr2_4] H := hP.sub [0, 1, 2, 3, 4, 5, 6, 7] rfl
              have hD : va_D A [cg_P pd g wy mt fo fi kp, cg_G g tA oA uA wA sA np ne bd er vr, cg_N oA cI 60 oe, cg_N uA cI 60 ot, cg_N wA cI 60 wt, cg_W wy g cA rA (nI vr) ((ng_path (ng_nxt bd er oe ot wt ct2_1 ne (max a b)) (max a b) 20 (min a b)).length), cg_L cA cL 400 ct2_1, cg_N rA cI 20 tr2_4] := rw_re hD rfl
              try dsimp only at hw_6
              have htr := hw_6
              refine lv_iload_n hx hb d_P_way_77 rfl (lv_at hl 3 rfl) ?_
              refine lv_iconst (v := nI 1) hx hb d_P_way_78 (by decide) ?_
              refine lv_icmp_ne (tgt := 92) hx hb d_P_way_79 (by decide) (fun c_79 => ?_) (fun c_79 => ?_)
              · refine lv_aload_n hx hb d_P_way_92 rfl (lv_at hl 0 rfl) ?_
                refine va_get (D := (dC, dI)) (ci := 4) (v := .ref wy) (C := R_P) (T := F_P) (N := 6) hx hb hts iP hown hK hP 0 rfl rfl 1 (by decide) (hts _ (List.mem_cons_of_mem _ wk_P_21)) (fun _ h9 => h9) rfl d_P_way_93 ?_
                refine lv_iload_n hx hb d_P_way_96 rfl (lv_at hl 3 rfl) ?_
                refine lv_iconst (v := nI 2) hx hb d_P_way_97 (by decide) ?_
                refine lv_isub hx hb d_P_way_98 ?_
                refine lv_iload_n hx hb d_P_way_99 rfl (lv_at hl 1 rfl) ?_
                refine lv_iload_n hx hb d_P_way_100 rfl (lv_at hl 2 rfl) ?_
                refine nr_icmp_le (by omega) (by omega) (tgt := 108) hx hb d_P_way_101 (by decide) (fun c_101 => ?_) (fun c_101 => ?_)
                · refine lv_iconst (v := nI 0) hx hb d_P_way_108 (by decide) ?_
                  refine ro_Vi (As := [.int (x - (nI 2)), .int (nI 0)]) (rest := []) ⟨hx, hb, hml, hown, hts⟩ (c_W_trailEdge l dC dI cI cL wy g cA rA (nI vr) ((ng_path (ng_nxt bd er oe ot wt ct2_1 ne (max a b)) (max a b) 20 (min a b)).length) tr2_4 (x - (nI 2)) false htr.2) (cwV 2 hts (wg_V wk_P_123 wm_W_trailEdge we_W_trailEdge wi_W wc_W_trailEdge) rfl rfl rfl (by decide +kernel) ⟨Nat.le_of_ble_eq_true rfl, Nat.le_of_ble_eq_true rfl⟩) hK (hP.sub [5, 7] rfl) (q0 := 0) rfl rfl rfl rfl hl.1 rfl (lv_room (Nat.le_of_ble_eq_true rfl)) d_P_way_109 ⟨Nat.zero_le _, Nat.zero_le _⟩ hS hP (fun H locs hP hS => ?_)
                  exact rw_iret ((ng_path (ng_nxt bd er oe ot wt ct2_1 ne (max a b)) (max a b) 20 (min a b)).length, ct2_1, tr2_4) hx hb hr hlocks hS hP (⟨by first | (rw [ng_way, if_neg (by simpa using c_49), if_neg c_55, if_pos c_79]; rfl) | (rw [ng_way, if_neg (by simpa using c_49), if_neg c_55, if_neg c_79, decide_eq_true c_101]; exact ng_te_l (by omega) htr.1) | (rw [ng_way, if_neg (by simpa using c_49), if_neg c_55, if_neg c_79, decide_eq_false (by omega)]; exact ng_te_l (by omega) htr.1), hM2, htr.2⟩) d_P_way_112
                · refine lv_iconst (v := nI 1) hx hb d_P_way_104 (by decide) ?_
                  refine lv_goto (tgt := 109) hx hb d_P_way_105 (by decide) ?_
                  refine ro_Vi (As := [.int (x - (nI 2)), .int (nI 1)]) (rest := []) ⟨hx, hb, hml, hown, hts⟩ (c_W_trailEdge l dC dI cI cL wy g cA rA (nI vr) ((ng_path (ng_nxt bd er oe ot wt ct2_1 ne (max a b)) (max a b) 20 (min a b)).length) tr2_4 (x - (nI 2)) true htr.2) (cwV 2 hts (wg_V wk_P_123 wm_W_trailEdge we_W_trailEdge wi_W wc_W_trailEdge) rfl rfl rfl (by decide +kernel) ⟨Nat.le_of_ble_eq_true rfl, Nat.le_of_ble_eq_true rfl⟩) hK (hP.sub [5, 7] rfl) (q0 := 0) rfl rfl rfl rfl hl.1 rfl (lv_room (Nat.le_of_ble_eq_true rfl)) d_P_way_109 ⟨Nat.zero_le _, Nat.zero_le _⟩ hS hP (fun H locs hP hS => ?_)
                  exact rw_iret ((ng_path (ng_nxt bd er oe ot wt ct2_1 ne (max a b)) (max a b) 20 (min a b)).length, ct2_1, tr2_4) hx hb hr hlocks hS hP (⟨by first | (rw [ng_way, if_neg (by simpa using c_49), if_neg c_55, if_pos c_79]; rfl) | (rw [ng_way, if_neg (by simpa using c_49), if_neg c_55, if_neg c_79, decide_eq_true c_101]; exact ng_te_l (by omega) htr.1) | (rw [ng_way, if_neg (by simpa using c_49), if_neg c_55, if_neg c_79, decide_eq_false (by omega)]; exact ng_te_l (by omega) htr.1), hM2, htr.2⟩) d_P_way_112
              · refine lv_aload_n hx hb d_P_way_82 rfl (lv_at hl 0 rfl) ?_
                refine va_get (D := (dC, dI)) (ci := 4) (v := .ref wy) (C := R_P) (T := F_P) (N := 6) hx hb hts iP hown hK hP 0 rfl rfl 1 (by decide) (hts _ (List.mem_cons_of_mem _ wk_P_21)) (fun _ h9 => h9) rfl d_P_way_83 ?_
                refine va_get (D := (dC, dI)) (ci := 1) (v := .int (nI ((ng_path (ng_nxt bd er oe ot wt ct2_1 ne (max a b)) (max a b) 20 (min a b)).length))) (C := R_W) (T := F_W) (N := 5) hx hb hts iW hown hK hP 5 rfl rfl 4 (by decide) (hts _ (List.mem_cons_of_mem _ wk_P_120)) (fun _ h9 => h9) rfl d_P_way_86 ?_
                refine lv_goto (tgt := 112) hx hb d_P_way_89 (by decide) ?_
                exact rw_iret ((ng_path (ng_nxt bd er oe ot wt ct2_1 ne (max a b)) (max a b) 20 (min a b)).length, ct2_1, tr2_4) hx hb hr hlocks hS hP (⟨by first | (rw [ng_way, if_neg (by simpa using c_49), if_neg c_55, if_pos c_79]; rfl) | (rw [ng_way, if_neg (by simpa using c_49), if_neg c_55, if_neg c_79, decide_eq_true c_101]; exact ng_te_l (by omega) htr.1) | (rw [ng_way, if_neg (by simpa using c_49), if_neg c_55, if_neg c_79, decide_eq_false (by omega)]; exact ng_te_l (by omega) htr.1), hM2, htr.2⟩) d_P_way_112
            · refine lv_aload_n hx hb d_P_way_58 rfl (lv_at hl 0 rfl) ?_
              refine va_get (D := (dC, dI)) (ci := 4) (v := .ref wy) (C := R_P) (T := F_P) (N := 6) hx hb hts iP hown hK hP 0 rfl rfl 1 (by decide) (hts _ (List.mem_cons_of_mem _ wk_P_21)) (fun _ h9 => h9) rfl d_P_way_59 ?_
              refine lv_iload_n hx hb d_P_way_62 rfl (lv_at hl 1 rfl) ?_
              refine lv_iload_n hx hb d_P_way_63 rfl (lv_at hl 2 rfl) ?_
              refine ro_Vi (As := [.int (nI a), .int (nI b)]) (rest := []) ⟨hx, hb, hml, hown, hts⟩ (c_W_weightBetween l dC dI cI cL wy g cA rA (nI vr) tl ct2_1 a b (by omega) (by omega) (by omega)) (cwV 2 hts (wg_V wk_P_113 wm_W_weightBetween we_W_weightBetween wi_W wc_W_weightBetween) rfl rfl rfl (by decide +kernel) ⟨Nat.le_of_ble_eq_true rfl, Nat.le_of_ble_eq_true rfl⟩) hK (hP.sub [5, 6] rfl) (q0 := 0) rfl rfl rfl rfl hl.1 rfl (lv_room (Nat.le_of_ble_eq_true rfl)) d_P_way_64 ⟨Nat.zero_le _, Nat.zero_le _⟩ hS hP (fun H locs hP hS => ?_)
              exact rw_iret (tl, ct2_1, tr) hx hb hr hlocks hS hP (⟨by rw [ng_way, if_neg (by simpa using c_49), if_pos c_55], hM2, htl⟩) d_P_way_67
          · refine lv_iconst (v := -1) hx hb d_P_way_52 (by decide) ?_
            exact rw_iret (tl, ct2_1, tr) hx hb hr hlocks hS hP (⟨by rw [ng_way, if_pos (by simpa using c_49)], hM2, htl⟩) d_P_way_53
        · exact False.elim (by first | (rw [ia] at c_8; cases c_8; done) | (rw [ib] at c_19; cases c_19; done) | exact hab c_24 | exact c_28 (Int32.not_lt.mp hx0))
set_option maxHeartbeats 4000000 in
set_option maxRecDepth 100000 in
theorem c_P_commitPair (l : Launch) (dC : Nat → ClassId) (dI : Nat → Nat → Nat) (cI cL : ClassId) (pd g wy mt fo : Nat) (fi : Int32) (kp : Int64) (tA oA uA wA sA np ne : Nat) (bd : Int32) (er : Int64) (vr : Nat) (cA rA : Nat) (mv : Int32) (tl : Nat) (lA hA sz fw fk : Nat) (od : Int64) (oe ot wt ct tr le ho : Nat → Nat) (k : Nat) (hne : ne ≤ 60) (hE : ∀ i, i < ne → oe i < 20 ∧ ot i < 20) (hW : ∀ i, i < ne → ng_w er wt i ≤ 1000000) (hct : ∀ i, i < 400 → ct i ≤ dm_FAR) (hk : k < 10) (hle : le k < 20) (hho : ho k < 20) : Met l y_P_commitPair w_P_commitPair ({ frames := 4, cells := 0, slots := 0, locals := 91 } : Room) (va_Pc [.ref pd, .int (nI k)] (rw_B (dC, dI) classes [(cI, .int), (cL, .long)] [cg_P pd g wy mt fo fi kp, cg_G g tA oA uA wA sA np ne bd er vr, cg_N oA cI 60 oe, cg_N uA cI 60 ot, cg_N wA cI 60 wt, cg_W wy g cA rA mv tl, cg_L cA cL 400 ct, cg_N rA cI 20 tr, cg_F fo lA hA sz fw fk od, cg_N lA cI 10 le, cg_N hA cI 10 ho])) (rw_Qv (dC, dI) classes (rw_A [cg_P pd g wy mt fo fi kp, cg_G g tA oA uA wA sA np ne bd er vr, cg_N oA cI 60 oe, cg_N uA cI 60 ot, cg_N wA cI 60 wt, cg_W wy g cA rA mv tl, cg_L cA cL 400 ct, cg_N rA cI 20 tr, cg_F fo lA hA sz fw fk od, cg_N lA cI 10 le, cg_N hA cI 10 ho]) (fun (u : (Nat) × (Nat → Nat)) => u.1 ≤ 20) (fun u => [cg_P pd g wy mt fo (fi &&& ((nb_o (le k) ||| nb_o (ho k)) ^^^ (-1))) (kp ^^^ ng_pset bd er oe ot wt ct ne (le k) (ho k)), cg_G g tA oA uA wA sA np ne bd er vr, cg_N oA cI 60 oe, cg_N uA cI 60 ot, cg_N wA cI 60 wt, cg_W wy g cA rA mv u.1, cg_L cA cL 400 ct, cg_N rA cI 20 u.2, cg_F fo lA hA sz fw fk od, cg_N lA cI 10 le, cg_N hA cI 10 ho])) 0 0 (rw_A [cg_P pd g wy mt fo fi kp, cg_G g tA oA uA wA sA np ne bd er vr, cg_N oA cI 60 oe, cg_N uA cI 60 ot, cg_N wA cI 60 wt, cg_W wy g cA rA mv tl, cg_L cA cL 400 ct, cg_N rA cI 20 tr, cg_F fo lA hA sz fw fk od, cg_N lA cI 10 le, cg_N hA cI 10 ho]) := by
  refine Met.ofW (cc := b_P_commitPair) (maxL := 4) (ret := none) (by decide) rfl ?_
  intro p e s m args below meth c s₁ B hml hv
  obtain ⟨rfl, hP, hK, hD0⟩ := hv
  have hx := B.exec
  have hb := B.bytes
  have hr := B.returns
  have hts := atoms_spec (ws := w_P_commitPair) B.pre
  have hown : s.vm.findClass R_P = some m.cls := findClass_of_methodNamed B.named
  have hlocks := B.notSynchronized
  have iP : ∀ w ∈ w_P, w ∈ w_P_commitPair := fun w h => List.mem_cons_of_mem _ (i_P w h)
  have iF : ∀ w ∈ w_F, w ∈ w_P_commitPair := fun w h => List.mem_cons_of_mem _ (i_F w h)
  have hD := rw_own hD0
  generalize hAe : rw_A [cg_P pd g wy mt fo fi kp, cg_G g tA oA uA wA sA np ne bd er vr, cg_N oA cI 60 oe, cg_N uA cI 60 ot, cg_N wA cI 60 wt, cg_W wy g cA rA mv tl, cg_L cA cL 400 ct, cg_N rA cI 20 tr, cg_F fo lA hA sz fw fk od, cg_N lA cI 10 le, cg_N hA cI 10 ho] = A at hD ⊢
  have hS : va_S A s.heap s.heap [] := va_S.rf
  have hP : va_P (dC, dI) classes [cg_P pd g wy mt fo fi kp, cg_G g tA oA uA wA sA np ne bd er vr, cg_N oA cI 60 oe, cg_N uA cI 60 ot, cg_N wA cI 60 wt, cg_W wy g cA rA mv tl, cg_L cA cL 400 ct, cg_N rA cI 20 tr, cg_F fo lA hA sz fw fk od, cg_N lA cI 10 le, cg_N hA cI 10 ho] s.heap := hP
  have hl := lv_entry ([.ref pd, .int (nI k)]) (n := 4) (Nat.le_of_ble_eq_true rfl)
  rw [lg_entry_eq]
  generalize (lg_sl ([.ref pd, .int (nI k)]) ++ List.replicate (4 - (lg_sl ([.ref pd, .int (nI k)])).length) Slot.unset).toArray = ls at hl ⊢
  have hl : lv_has ls 4 [(0, .ref pd), (1, .int (nI k))] := hl
  refine lv_aload_n hx hb d_P_commitPair_0 rfl (lv_at hl 0 rfl) ?_
  refine va_get (D := (dC, dI)) (ci := 4) (v := .ref fo) (C := R_P) (T := F_P) (N := 6) hx hb hts iP hown hK hP 0 rfl rfl 3 (by decide) (hts _ (List.mem_cons_of_mem _ wk_P_37)) (fun _ h9 => h9) rfl d_P_commitPair_1 ?_
  refine va_get (D := (dC, dI)) (ci := 2) (v := .ref lA) (C := R_F) (T := F_F) (N := 6) hx hb hts iF hown hK hP 8 rfl rfl 0 (by decide) (hts _ (List.mem_cons_of_mem _ wk_P_144)) (fun _ h9 => h9) rfl d_P_commitPair_4 ?_
  refine lv_iload_n hx hb d_P_commitPair_7 rfl (lv_at hl 1 rfl) ?_
  refine nr_iald hx hb hK hP 9 0 rfl rfl (by omega) (by decide) d_P_commitPair_8 ?_
  refine lv_istore_n (lv' := [(2, .int (nI (le k))), (0, .ref pd), (1, .int (nI k))]) hx hb d_P_commitPair_9 rfl hl (by decide) rfl (fun ls hl => ?_)
  refine lv_aload_n hx hb d_P_commitPair_10 rfl (lv_at hl 1 rfl) ?_
  refine va_get (D := (dC, dI)) (ci := 4) (v := .ref fo) (C := R_P) (T := F_P) (N := 6) hx hb hts iP hown hK hP 0 rfl rfl 3 (by decide) (hts _ (List.mem_cons_of_mem _ wk_P_37)) (fun _ h9 => h9) rfl d_P_commitPair_11 ?_
  refine va_get (D := (dC, dI)) (ci := 2) (v := .ref hA) (C := R_F) (T := F_F) (N := 6) hx hb hts iF hown hK hP 8 rfl rfl 1 (by decide) (hts _ (List.mem_cons_of_mem _ wk_P_148)) (fun _ h9 => h9) rfl d_P_commitPair_14 ?_
  refine lv_iload_n hx hb d_P_commitPair_17 rfl (lv_at hl 2 rfl) ?_
  refine nr_iald hx hb hK hP 10 0 rfl rfl (by omega) (by decide) d_P_commitPair_18 ?_
  refine lv_istore_n (lv' := [(3, .int (nI (ho k))), (2, .int (nI (le k))), (0, .ref pd), (1, .int (nI k))]) hx hb d_P_commitPair_19 rfl hl (by decide) rfl (fun ls hl => ?_)
  refine lv_aload_n hx hb d_P_commitPair_20 rfl (lv_at hl 2 rfl) ?_
  refine va_get (D := (dC, dI)) (ci := 4) (v := .ref wy) (C := R_P) (T := F_P) (N := 6) hx hb hts iP hown hK hP 0 rfl rfl 1 (by decide) (hts _ (List.mem_cons_of_mem _ wk_P_21)) (fun _ h9 => h9) rfl d_P_commitPair_21 ?_
  refine lv_iload_n hx hb d_P_commitPair_24 rfl (lv_at hl 1 rfl) ?_
  refine lv_iload_n hx hb d_P_commitPair_25 rfl (lv_at hl 0 rfl) ?_
  refine rw_Vv (wr := [cg_P pd g wy mt fo fi kp, cg_F fo lA hA sz fw fk od, cg_N lA cI 10 le, cg_N hA cI 10 ho]) [1, 2, 3, 4, 5, 6, 7] [0, 8, 9, 10] rfl rfl (by decide) (As := [.int (nI (le k)), .int (nI (ho k))]) (rest := []) ⟨hx, hb, hml, hown, hts⟩ (c_W_trace l dC dI cI cL g tA oA uA wA sA np ne bd er vr wy cA rA mv tl oe ot wt ct tr (le k) (ho k) (by omega) (by omega) (by omega) hE hW hct) (cwV 2 hts (wg_V wk_P_116 wm_W_trace we_W_trace wi_W wc_W_trace) rfl rfl rfl (by decide +kernel) ⟨Nat.le_of_ble_eq_true rfl, Nat.le_of_ble_eq_true rfl⟩) hK (hP.sub [1, 2, 3, 4, 5, 6, 7] rfl) ((hD.sub [1, 2, 3, 4, 5, 6, 7] (by decide) rfl).weaken (fun _ _ _ _ => trivial)) (q0 := 4) rfl rfl rfl rfl hl.1 rfl (lv_room (Nat.le_of_ble_eq_true rfl)) d_P_commitPair_26 ⟨Nat.zero_le _, Nat.zero_le _⟩ hS hP hD (fun tr2_1 H locs hw_3 hP hS => ?_)
  have hP : va_P (dC, dI) classes [cg_P pd g wy mt fo fi kp, cg_G g tA oA uA wA sA np ne bd er vr, cg_N oA cI 60 oe, cg_N uA cI 60 ot, cg_N wA cI 60 wt, cg_W wy g cA rA mv ((ng_path (ng_nxt bd er oe ot wt ct ne (max (le k) (ho k))) (max (le k) (ho k)) 20 (min (le k) (ho k))).length), cg_L cA cL 400 ct, cg_N rA cI 20 tr2_1, cg_F fo lA hA sz fw fk od, cg_N lA cI 10 le, cg_N hA cI 10 ho] H := hP.sub [0, 4, 5, 6, 7, 8, 9, 10, 1, 2, 3] rfl
  have hD : va_D A [cg_P pd g wy mt fo fi kp, cg_G g tA oA uA wA sA np ne bd er vr, cg_N oA cI 60 oe, cg_N uA cI 60 ot, cg_N wA cI 60 wt, cg_W wy g cA rA mv ((ng_path (ng_nxt bd er oe ot wt ct ne (max (le k) (ho k))) (max (le k) (ho k)) 20 (min (le k) (ho k))).length), cg_L cA cL 400 ct, cg_N rA cI 20 tr2_1, cg_F fo lA hA sz fw fk od, cg_N lA cI 10 le, cg_N hA cI 10 ho] := rw_re hD rfl
  try dsimp only at hw_3
  have htr := hw_3
  refine lv_aload_n hx hb d_P_commitPair_29 rfl (lv_at hl 2 rfl) ?_
  refine lv_dup hx hb d_P_commitPair_30 rfl ?_
  refine va_get (D := (dC, dI)) (ci := 4) (v := .long kp) (C := R_P) (T := F_P) (N := 6) hx hb hts iP hown hK hP 0 rfl rfl 5 (by decide) (hts _ (List.mem_cons_of_mem _ wk_P_45)) (fun _ h9 => h9) rfl d_P_commitPair_31 ?_
  refine lv_aload_n hx hb d_P_commitPair_34 rfl (lv_at hl 2 rfl) ?_
  refine va_get (D := (dC, dI)) (ci := 4) (v := .ref wy) (C := R_P) (T := F_P) (N := 6) hx hb hts iP hown hK hP 0 rfl rfl 1 (by decide) (hts _ (List.mem_cons_of_mem _ wk_P_21)) (fun _ h9 => h9) rfl d_P_commitPair_35 ?_
  refine ro_Vl (As := []) (rest := [.long kp, .ref pd]) ⟨hx, hb, hml, hown, hts⟩ (c_W_trailAsSet l dC dI cI cL wy g cA rA mv ((ng_path (ng_nxt bd er oe ot wt ct ne (max (le k) (ho k))) (max (le k) (ho k)) 20 (min (le k) (ho k))).length) tr2_1 htr.2) (cwV 0 hts (wg_V wk_P_195 wm_W_trailAsSet we_W_trailAsSet wi_W wc_W_trailAsSet) rfl rfl rfl (by decide +kernel) ⟨Nat.le_of_ble_eq_true rfl, Nat.le_of_ble_eq_true rfl⟩) hK (hP.sub [5, 7] rfl) (q0 := 0) rfl rfl rfl rfl hl.1 rfl (lv_room (Nat.le_of_ble_eq_true rfl)) d_P_commitPair_38 ⟨Nat.zero_le _, Nat.zero_le _⟩ hS hP (fun H locs hP hS => ?_)
  refine nr_asL (v := ng_pset bd er oe ot wt ct ne (le k) (ho k)) (ng_set_eq htr.1) ?_
  refine lv_lxor hx hb d_P_commitPair_41 ?_
  refine va_put (D := (dC, dI)) (ci := 4) (v := .long (kp ^^^ (ng_pset bd er oe ot wt ct ne (le k) (ho k)))) (ty := .long) (C := R_P) (T := F_P) (N := 6) hx hb hts iP t_P t_P_ok n_P hown hK hP hD hS 0 rfl rfl 5 (by decide) (hts _ (List.mem_cons_of_mem _ wk_P_45)) (fun _ h9 => h9) rfl (by decide +kernel) rfl rfl (Nat.le_of_ble_eq_true rfl) d_P_commitPair_42 (fun H locs hP hD hS => ?_)
  have hP : va_P (dC, dI) classes [cg_P pd g wy mt fo fi (kp ^^^ (ng_pset bd er oe ot wt ct ne (le k) (ho k))), cg_G g tA oA uA wA sA np ne bd er vr, cg_N oA cI 60 oe, cg_N uA cI 60 ot, cg_N wA cI 60 wt, cg_W wy g cA rA mv ((ng_path (ng_nxt bd er oe ot wt ct ne (max (le k) (ho k))) (max (le k) (ho k)) 20 (min (le k) (ho k))).length), cg_L cA cL 400 ct, cg_N rA cI 20 tr2_1, cg_F fo lA hA sz fw fk od, cg_N lA cI 10 le, cg_N hA cI 10 ho] H := hP
  have hD : va_D A [cg_P pd g wy mt fo fi (kp ^^^ (ng_pset bd er oe ot wt ct ne (le k) (ho k))), cg_G g tA oA uA wA sA np ne bd er vr, cg_N oA cI 60 oe, cg_N uA cI 60 ot, cg_N wA cI 60 wt, cg_W wy g cA rA mv ((ng_path (ng_nxt bd er oe ot wt ct ne (max (le k) (ho k))) (max (le k) (ho k)) 20 (min (le k) (ho k))).length), cg_L cA cL 400 ct, cg_N rA cI 20 tr2_1, cg_F fo lA hA sz fw fk od, cg_N lA cI 10 le, cg_N hA cI 10 ho] := hD
  refine lv_aload_n hx hb d_P_commitPair_45 rfl (lv_at hl 2 rfl) ?_
  refine lv_dup hx hb d_P_commitPair_46 rfl ?_
  refine va_get (D := (dC, dI)) (ci := 4) (v := .int fi) (C := R_P) (T := F_P) (N := 6) hx hb hts iP hown hK hP 0 rfl rfl 4 (by decide) (hts _ (List.mem_cons_of_mem _ wk_P_41)) (fun _ h9 => h9) rfl d_P_commitPair_47 ?_
  refine lv_iconst (v := nI 1) hx hb d_P_commitPair_50 (by decide) ?_
  refine lv_iload_n hx hb d_P_commitPair_51 rfl (lv_at hl 1 rfl) ?_
  refine lv_ishl hx hb d_P_commitPair_52 ?_
  refine nr_as (v := nb_o (le k)) rfl ?_
  refine lv_iconst (v := nI 1) hx hb d_P_commitPair_53 (by decide) ?_
  refine lv_iload_n hx hb d_P_commitPair_54 rfl (lv_at hl 0 rfl) ?_
  refine lv_ishl hx hb d_P_commitPair_55 ?_
  refine nr_as (v := nb_o (ho k)) rfl ?_
  refine lv_ior hx hb d_P_commitPair_56 ?_
  refine lv_iconst (v := -1) hx hb d_P_commitPair_57 (by decide) ?_
  refine lv_ixor hx hb d_P_commitPair_58 ?_
  refine lv_iand hx hb d_P_commitPair_59 ?_
  refine va_put (D := (dC, dI)) (ci := 4) (v := .int (fi &&& (((nb_o (le k)) ||| (nb_o (ho k))) ^^^ (-1)))) (ty := .int) (C := R_P) (T := F_P) (N := 6) hx hb hts iP t_P t_P_ok n_P hown hK hP hD hS 0 rfl rfl 4 (by decide) (hts _ (List.mem_cons_of_mem _ wk_P_41)) (fun _ h9 => h9) rfl (by decide +kernel) rfl rfl (Nat.le_of_ble_eq_true rfl) d_P_commitPair_60 (fun H locs hP hD hS => ?_)
  have hP : va_P (dC, dI) classes [cg_P pd g wy mt fo (fi &&& (((nb_o (le k)) ||| (nb_o (ho k))) ^^^ (-1))) (kp ^^^ (ng_pset bd er oe ot wt ct ne (le k) (ho k))), cg_G g tA oA uA wA sA np ne bd er vr, cg_N oA cI 60 oe, cg_N uA cI 60 ot, cg_N wA cI 60 wt, cg_W wy g cA rA mv ((ng_path (ng_nxt bd er oe ot wt ct ne (max (le k) (ho k))) (max (le k) (ho k)) 20 (min (le k) (ho k))).length), cg_L cA cL 400 ct, cg_N rA cI 20 tr2_1, cg_F fo lA hA sz fw fk od, cg_N lA cI 10 le, cg_N hA cI 10 ho] H := hP
  have hD : va_D A [cg_P pd g wy mt fo (fi &&& (((nb_o (le k)) ||| (nb_o (ho k))) ^^^ (-1))) (kp ^^^ (ng_pset bd er oe ot wt ct ne (le k) (ho k))), cg_G g tA oA uA wA sA np ne bd er vr, cg_N oA cI 60 oe, cg_N uA cI 60 ot, cg_N wA cI 60 wt, cg_W wy g cA rA mv ((ng_path (ng_nxt bd er oe ot wt ct ne (max (le k) (ho k))) (max (le k) (ho k)) 20 (min (le k) (ho k))).length), cg_L cA cL 400 ct, cg_N rA cI 20 tr2_1, cg_F fo lA hA sz fw fk od, cg_N lA cI 10 le, cg_N hA cI 10 ho] := hD
  exact rw_vret ((ng_path (ng_nxt bd er oe ot wt ct ne (max (le k) (ho k))) (max (le k) (ho k)) 20 (min (le k) (ho k))).length, tr2_1) hx hb hr hlocks hS hP htr.2 d_P_commitPair_63
