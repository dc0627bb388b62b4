set_option maxHeartbeats 4000000 in
set_option maxRecDepth 100000 in
theorem c_D_fault_ok (l : Launch) (dC : Nat → ClassId) (dI : Nat → Nat → Nat) (cI cL cZ : ClassId) (dm : Nat) (th : Nat) (np : Nat) (ne : Nat) (fi : Int32) (kp : Int64) (iA : Nat) (tA : Nat) (oA : Nat) (uA : Nat) (wA : Nat) (sA : Nat) (eA : Nat) (vA : Nat) (yA : Nat) (lA : Nat) (ll : Nat) (mn : Nat) (xA : Nat) (cA : Nat) (zA : Nat) (pA : Nat) (bA : Nat) (fA : Nat) (gA : Nat) (bw : Nat) (bs : Nat) (ps : Nat) (qA : Nat) (rA : Nat) (aA : Nat) (kA : Nat) (lt : Nat) (wt : Nat) (fx : Int64) (ib : Nat → Bool) (oe ot wg sg : Nat → Nat) (ie : Nat → Bool) (x : Int32) (jp jq jr js w z : Nat) (hnp : np ≤ 20) (hx0 : ¬ x < 0) (hfit : ng_fit np x = true) (hcn : dm_ct (fun i => nb_t x i) 20 = 3 ∨ dm_ct (fun i => nb_t x i) 20 = 4) (hp : ng_nth x 20 0 0 = nI jp) (hq : ng_nth x 20 0 1 = nI jq) (hr1 : ng_nth x 20 0 2 = nI jr) (hs : (if dm_ct (fun i => nb_t x i) 20 = 4 then ng_nth x 20 0 3 else ng_oi (ng_fst ib np 0)) = nI js) (hc1 : ng_cb np ib (nI jp) (nI jq) (nI w) (nI z) = true) (hc2 : ng_cb np ib (nI jr) (nI js) (nI 0) (nI 0) = true) (hne : ne + 2 ≤ 60) : Met l y_D_fault w_D_fault ({ frames := 2, cells := 0, slots := 0, locals := 45 } : Room) (va_Pc [.ref dm, .int x, .int (nI w), .int (nI z)] (rw_B (dC, dI) classes [(cI, .int), (cL, .long), (cZ, .boolean)] [cg_D dm th np ne fi kp iA tA oA uA wA sA eA vA yA lA ll mn xA cA zA pA bA fA gA bw bs ps qA rA aA kA lt wt fx, cg_B iA cZ 20 ib, cg_N oA cI 60 oe, cg_N uA cI 60 ot, cg_N wA cI 60 wg, cg_N sA cI 60 sg, cg_B eA cZ 60 ie])) (rw_Qi (dC, dI) classes (rw_A [cg_D dm th np ne fi kp iA tA oA uA wA sA eA vA yA lA ll mn xA cA zA pA bA fA gA bw bs ps qA rA aA kA lt wt fx, cg_B iA cZ 20 ib, cg_N oA cI 60 oe, cg_N uA cI 60 ot, cg_N wA cI 60 wg, cg_N sA cI 60 sg, cg_B eA cZ 60 ie]) (fun r (u : Unit) => r = nI ne) (fun u => [cg_D dm 0 np (ne + 1 + 1) fi kp iA tA oA uA wA sA eA vA yA lA ll mn xA cA zA pA bA fA gA bw bs ps qA rA aA kA lt wt fx, cg_B iA cZ 20 ib, cg_N oA cI 60 (va_up (va_up oe ne jp) (ne + 1) jr), cg_N uA cI 60 (va_up (va_up ot ne jq) (ne + 1) js), cg_N wA cI 60 (va_up (va_up wg ne w) (ne + 1) 0), cg_N sA cI 60 (va_up (va_up sg ne z) (ne + 1) 0), cg_B eA cZ 60 (va_up (va_up ie ne false) (ne + 1) false)])) 0 0 (rw_A [cg_D dm th np ne fi kp iA tA oA uA wA sA eA vA yA lA ll mn xA cA zA pA bA fA gA bw bs ps qA rA aA kA lt wt fx, cg_B iA cZ 20 ib, cg_N oA cI 60 oe, cg_N uA cI 60 ot, cg_N wA cI 60 wg, cg_N sA cI 60 sg, cg_B eA cZ 60 ie]) := by
  refine Met.ofW (cc := b_D_fault) (maxL := 6) (ret := (some .int)) (by decide) rfl ?_
  intro p e s m args below meth c s₁ B hml hv
  obtain ⟨rfl, hP, hK, hD0⟩ := hv
  have hx := B.exec
  have hb := B.bytes
  have hr := B.returns
  have hts := atoms_spec (ws := w_D_fault) B.pre
  have hown : s.vm.findClass R_D = some m.cls := findClass_of_methodNamed B.named
  have hlocks := B.notSynchronized
  have iD : ∀ w ∈ w_D, w ∈ w_D_fault := fun w h => List.mem_cons_of_mem _ (i_D w h)
  have hD := rw_own hD0
  generalize hAe : rw_A [cg_D dm th np ne fi kp iA tA oA uA wA sA eA vA yA lA ll mn xA cA zA pA bA fA gA bw bs ps qA rA aA kA lt wt fx, cg_B iA cZ 20 ib, cg_N oA cI 60 oe, cg_N uA cI 60 ot, cg_N wA cI 60 wg, cg_N sA cI 60 sg, cg_B eA cZ 60 ie] = A at hD ⊢
  have hS : va_S A s.heap s.heap [] := va_S.rf
  have hP : va_P (dC, dI) classes [cg_D dm th np ne fi kp iA tA oA uA wA sA eA vA yA lA ll mn xA cA zA pA bA fA gA bw bs ps qA rA aA kA lt wt fx, cg_B iA cZ 20 ib, cg_N oA cI 60 oe, cg_N uA cI 60 ot, cg_N wA cI 60 wg, cg_N sA cI 60 sg, cg_B eA cZ 60 ie] s.heap := hP
  have hl := lv_entry ([.ref dm, .int x, .int (nI w), .int (nI z)]) (n := 6) (Nat.le_of_ble_eq_true rfl)
  rw [lg_entry_eq]
  generalize (lg_sl ([.ref dm, .int x, .int (nI w), .int (nI z)]) ++ List.replicate (6 - (lg_sl ([.ref dm, .int x, .int (nI w), .int (nI z)])).length) Slot.unset).toArray = ls at hl ⊢
  have hl : lv_has ls 6 [(0, .ref dm), (1, .int x), (2, .int (nI w)), (3, .int (nI z))] := hl
  have hpc := dm_ct_le (P := fun i => nb_t x i) (n := 20)
  refine lv_aload_n hx hb d_D_fault_0 rfl (lv_at hl 0 rfl) ?_
  refine lv_iconst (v := nI 0) hx hb d_D_fault_1 (by decide) ?_
  refine va_put (D := (dC, dI)) (ci := 5) (v := .int (nI 0)) (ty := .int) (C := R_D) (T := F_D) (N := 34) hx hb hts iD t_D t_D_ok n_D hown hK hP hD hS 0 rfl rfl 0 (by decide) (hts _ (List.mem_cons_of_mem _ wk_D_75)) (fun _ h9 => h9) rfl (by decide +kernel) rfl rfl (Nat.le_of_ble_eq_true rfl) d_D_fault_2 (fun H locs hP hD hS => ?_)
  have hP : va_P (dC, dI) classes [cg_D dm 0 np ne fi kp iA tA oA uA wA sA eA vA yA lA ll mn xA cA zA pA bA fA gA bw bs ps qA rA aA kA lt wt fx, cg_B iA cZ 20 ib, cg_N oA cI 60 oe, cg_N uA cI 60 ot, cg_N wA cI 60 wg, cg_N sA cI 60 sg, cg_B eA cZ 60 ie] H := hP
  have hD : va_D A [cg_D dm 0 np ne fi kp iA tA oA uA wA sA eA vA yA lA ll mn xA cA zA pA bA fA gA bw bs ps qA rA aA kA lt wt fx, cg_B iA cZ 20 ib, cg_N oA cI 60 oe, cg_N uA cI 60 ot, cg_N wA cI 60 wg, cg_N sA cI 60 sg, cg_B eA cZ 60 ie] := hD
  refine lv_iload_n hx hb d_D_fault_5 rfl (lv_at hl 1 rfl) ?_
  refine lv_if_lt (tgt := 29) hx hb d_D_fault_6 (by decide) (fun c_6 => ?_) (fun c_6 => ?_)
  · exact False.elim (by first | exact hx0 c_6 | (exact c_15 (by simpa [ng_fit] using hfit)) | omega)
  · refine lv_iload_n hx hb d_D_fault_9 rfl (lv_at hl 1 rfl) ?_
    refine lv_aload_n hx hb d_D_fault_10 rfl (lv_at hl 0 rfl) ?_
    refine va_get (D := (dC, dI)) (ci := 5) (v := .int (nI np)) (C := R_D) (T := F_D) (N := 34) hx hb hts iD hown hK hP 0 rfl rfl 1 (by decide) (hts _ (List.mem_cons_of_mem _ wk_D_79)) (fun _ h9 => h9) rfl d_D_fault_11 ?_
    refine lv_iushr hx hb d_D_fault_14 rfl ?_
    refine lv_if_ne (tgt := 29) hx hb d_D_fault_15 (by decide) (fun c_15 => ?_) (fun c_15 => ?_)
    · exact False.elim (by first | exact hx0 c_6 | (exact c_15 (by simpa [ng_fit] using hfit)) | omega)
    · refine lv_aload_n hx hb d_D_fault_18 rfl (lv_at hl 0 rfl) ?_
      refine va_get (D := (dC, dI)) (ci := 5) (v := .int (nI ne)) (C := R_D) (T := F_D) (N := 34) hx hb hts iD hown hK hP 0 rfl rfl 2 (by decide) (hts _ (List.mem_cons_of_mem _ wk_D_87)) (fun _ h9 => h9) rfl d_D_fault_19 ?_
      refine lv_iconst (v := nI 2) hx hb d_D_fault_22 (by decide) ?_
      refine nr_iadd hx hb d_D_fault_23 ?_
      refine lv_bipush (v := nI 60) hx hb d_D_fault_24 (by decide) ?_
      refine nr_icmp_le (by omega) (by omega) (tgt := 31) hx hb d_D_fault_26 (by decide) (fun c_26 => ?_) (fun c_26 => ?_)
      · refine lv_iload_n hx hb d_D_fault_31 rfl (lv_at hl 1 rfl) ?_
        refine ro_Si (As := [.int x]) (rest := []) ⟨hx, hb, hml, hown, hts⟩ (c_D_count l dC dI cI cL cZ x ) (cwS 1 hts (wg_S wk_D_98 ws_D_count wi_D wc_D_count) rfl rfl rfl (by decide +kernel) ⟨Nat.le_of_ble_eq_true rfl, Nat.le_of_ble_eq_true rfl⟩) hK (hP.sub [] rfl) rfl hl.1 rfl (lv_room (Nat.le_of_ble_eq_true rfl)) d_D_fault_32 ⟨Nat.zero_le _, Nat.zero_le _⟩ hS hP (fun H locs hP hS => ?_)
        refine lv_istore (lv' := [(4, .int (nI (dm_ct (fun i => nb_t x i) 20))), (0, .ref dm), (1, .int x), (2, .int (nI w)), (3, .int (nI z))]) hx hb d_D_fault_35 hl (by decide) rfl (fun ls hl => ?_)
        refine lv_iload hx hb d_D_fault_37 (lv_at hl 0 rfl) ?_
        refine lv_iconst (v := nI 3) hx hb d_D_fault_39 (by decide) ?_
        refine nr_icmp_eq (by omega) (by omega) (tgt := 51) hx hb d_D_fault_40 (by decide) (fun c_40 => ?_) (fun c_40 => ?_)
        · refine lv_iload hx hb d_D_fault_51 (lv_at hl 0 rfl) ?_
          refine lv_iconst (v := nI 4) hx hb d_D_fault_53 (by decide) ?_
          refine nr_icmp_ne (by omega) (by omega) (tgt := 65) hx hb d_D_fault_54 (by decide) (fun c_54 => ?_) (fun c_54 => ?_)
          · have hs2 : ng_oi (ng_fst ib np 0) = nI js := by rw [if_neg c_54] at hs; exact hs
            refine lv_aload_n hx hb d_D_fault_65 rfl (lv_at hl 1 rfl) ?_
            refine ro_Vi (As := []) (rest := []) ⟨hx, hb, hml, hown, hts⟩ (c_D_firstBoundary l dC dI cI cL cZ dm 0 np ne fi kp iA tA oA uA wA sA eA vA yA lA ll mn xA cA zA pA bA fA gA bw bs ps qA rA aA kA lt wt fx ib (by omega)) (cwV 0 hts (wg_V wk_D_106 wm_D_firstBoundary we_D_firstBoundary wi_D wc_D_firstBoundary) rfl rfl rfl (by decide +kernel) ⟨Nat.le_of_ble_eq_true rfl, Nat.le_of_ble_eq_true rfl⟩) hK (hP.sub [0, 1] rfl) (q0 := 0) rfl rfl rfl rfl hl.1 rfl (lv_room (Nat.le_of_ble_eq_true rfl)) d_D_fault_66 ⟨Nat.zero_le _, Nat.zero_le _⟩ hS hP (fun H locs hP hS => ?_)
            rw [hs2]
            refine lv_istore (lv' := [(5, .int (nI js)), (4, .int (nI (dm_ct (fun i => nb_t x i) 20))), (0, .ref dm), (1, .int x), (2, .int (nI w)), (3, .int (nI z))]) hx hb d_D_fault_69 hl (by decide) rfl (fun ls hl => ?_)
            refine lv_aload_n hx hb d_D_fault_71 rfl (lv_at hl 2 rfl) ?_
            refine lv_iload_n hx hb d_D_fault_72 rfl (lv_at hl 3 rfl) ?_
            refine lv_iconst (v := nI 0) hx hb d_D_fault_73 (by decide) ?_
            refine ro_Si (As := [.int x, .int (nI 0)]) (rest := [.ref dm]) ⟨hx, hb, hml, hown, hts⟩ (c_D_of l dC dI cI cL cZ x 0 (by omega)) (cwS 2 hts (wg_S wk_D_102 ws_D_of wi_D wc_D_of) rfl rfl rfl (by decide +kernel) ⟨Nat.le_of_ble_eq_true rfl, Nat.le_of_ble_eq_true rfl⟩) hK (hP.sub [] rfl) rfl hl.1 rfl (lv_room (Nat.le_of_ble_eq_true rfl)) d_D_fault_74 ⟨Nat.zero_le _, Nat.zero_le _⟩ hS hP (fun H locs hP hS => ?_)
            rw [hp]
            refine lv_iload_n hx hb d_D_fault_77 rfl (lv_at hl 3 rfl) ?_
            refine lv_iconst (v := nI 1) hx hb d_D_fault_78 (by decide) ?_
            refine ro_Si (As := [.int x, .int (nI 1)]) (rest := [.int (nI jp), .ref dm]) ⟨hx, hb, hml, hown, hts⟩ (c_D_of l dC dI cI cL cZ x 1 (by omega)) (cwS 2 hts (wg_S wk_D_102 ws_D_of wi_D wc_D_of) rfl rfl rfl (by decide +kernel) ⟨Nat.le_of_ble_eq_true rfl, Nat.le_of_ble_eq_true rfl⟩) hK (hP.sub [] rfl) rfl hl.1 rfl (lv_room (Nat.le_of_ble_eq_true rfl)) d_D_fault_79 ⟨Nat.zero_le _, Nat.zero_le _⟩ hS hP (fun H locs hP hS => ?_)
            rw [hq]
            refine lv_iload_n hx hb d_D_fault_82 rfl (lv_at hl 4 rfl) ?_
            refine lv_iload_n hx hb d_D_fault_83 rfl (lv_at hl 5 rfl) ?_
            refine ro_Vi (As := [.int (nI jp), .int (nI jq), .int (nI w), .int (nI z)]) (rest := []) ⟨hx, hb, hml, hown, hts⟩ (c_D_canBe l dC dI cI cL cZ dm 0 np ne fi kp iA tA oA uA wA sA eA vA yA lA ll mn xA cA zA pA bA fA gA bw bs ps qA rA aA kA lt wt fx ib (nI jp) (nI jq) (nI w) (nI z) (by omega)) (cwV 4 hts (wg_V wk_D_90 wm_D_canBe we_D_canBe wi_D wc_D_canBe) rfl rfl rfl (by decide +kernel) ⟨Nat.le_of_ble_eq_true rfl, Nat.le_of_ble_eq_true rfl⟩) hK (hP.sub [0, 1] rfl) (q0 := 0) rfl rfl rfl rfl hl.1 rfl (lv_room (Nat.le_of_ble_eq_true rfl)) d_D_fault_84 ⟨Nat.zero_le _, Nat.zero_le _⟩ hS hP (fun H locs hP hS => ?_)
            refine nr_ifeqB (tgt := 106) hx hb d_D_fault_87 (by decide) (fun c_87 => ?_) (fun c_87 => ?_)
            · exact False.elim (by first | (rw [hc1] at c_87; cases c_87; done) | (rw [hc2] at c_103; cases c_103; done))
            · refine lv_aload_n hx hb d_D_fault_90 rfl (lv_at hl 2 rfl) ?_
              refine lv_iload_n hx hb d_D_fault_91 rfl (lv_at hl 3 rfl) ?_
              refine lv_iconst (v := nI 2) hx hb d_D_fault_92 (by decide) ?_
              refine ro_Si (As := [.int x, .int (nI 2)]) (rest := [.ref dm]) ⟨hx, hb, hml, hown, hts⟩ (c_D_of l dC dI cI cL cZ x 2 (by omega)) (cwS 2 hts (wg_S wk_D_102 ws_D_of wi_D wc_D_of) rfl rfl rfl (by decide +kernel) ⟨Nat.le_of_ble_eq_true rfl, Nat.le_of_ble_eq_true rfl⟩) hK (hP.sub [] rfl) rfl hl.1 rfl (lv_room (Nat.le_of_ble_eq_true rfl)) d_D_fault_93 ⟨Nat.zero_le _, Nat.zero_le _⟩ hS hP (fun H locs hP hS => ?_)
              rw [hr1]
              refine lv_iload hx hb d_D_fault_96 (lv_at hl 0 rfl) ?_
              refine lv_iconst (v := nI 0) hx hb d_D_fault_98 (by decide) ?_
              refine lv_iconst (v := nI 0) hx hb d_D_fault_99 (by decide) ?_
              refine ro_Vi (As := [.int (nI jr), .int (nI js), .int (nI 0), .int (nI 0)]) (rest := []) ⟨hx, hb, hml, hown, hts⟩ (c_D_canBe l dC dI cI cL cZ dm 0 np ne fi kp iA tA oA uA wA sA eA vA yA lA ll mn xA cA zA pA bA fA gA bw bs ps qA rA aA kA lt wt fx ib (nI jr) (nI js) (nI 0) (nI 0) (by omega)) (cwV 4 hts (wg_V wk_D_90 wm_D_canBe we_D_canBe wi_D wc_D_canBe) rfl rfl rfl (by decide +kernel) ⟨Nat.le_of_ble_eq_true rfl, Nat.le_of_ble_eq_true rfl⟩) hK (hP.sub [0, 1] rfl) (q0 := 0) rfl rfl rfl rfl hl.1 rfl (lv_room (Nat.le_of_ble_eq_true rfl)) d_D_fault_100 ⟨Nat.zero_le _, Nat.zero_le _⟩ hS hP (fun H locs hP hS => ?_)
              refine nr_ifneB (tgt := 108) hx hb d_D_fault_103 (by decide) (fun c_103 => ?_) (fun c_103 => ?_)
              · refine lv_aload_n hx hb d_D_fault_108 rfl (lv_at hl 2 rfl) ?_
                refine lv_iload_n hx hb d_D_fault_109 rfl (lv_at hl 3 rfl) ?_
                refine lv_iconst (v := nI 0) hx hb d_D_fault_110 (by decide) ?_
                refine ro_Si (As := [.int x, .int (nI 0)]) (rest := [.ref dm]) ⟨hx, hb, hml, hown, hts⟩ (c_D_of l dC dI cI cL cZ x 0 (by omega)) (cwS 2 hts (wg_S wk_D_102 ws_D_of wi_D wc_D_of) rfl rfl rfl (by decide +kernel) ⟨Nat.le_of_ble_eq_true rfl, Nat.le_of_ble_eq_true rfl⟩) hK (hP.sub [] rfl) rfl hl.1 rfl (lv_room (Nat.le_of_ble_eq_true rfl)) d_D_fault_111 ⟨Nat.zero_le _, Nat.zero_le _⟩ hS hP (fun H locs hP hS => ?_)
                rw [hp]
                refine lv_iload_n hx hb d_D_fault_114 rfl (lv_at hl 3 rfl) ?_
                refine lv_iconst (v := nI 1) hx hb d_D_fault_115 (by decide) ?_
                refine ro_Si (As := [.int x, .int (nI 1)]) (rest := [.int (nI jp), .ref dm]) ⟨hx, hb, hml, hown, hts⟩ (c_D_of l dC dI cI cL cZ x 1 (by omega)) (cwS 2 hts (wg_S wk_D_102 ws_D_of wi_D wc_D_of) rfl rfl rfl (by decide +kernel) ⟨Nat.le_of_ble_eq_true rfl, Nat.le_of_ble_eq_true rfl⟩) hK (hP.sub [] rfl) rfl hl.1 rfl (lv_room (Nat.le_of_ble_eq_true rfl)) d_D_fault_116 ⟨Nat.zero_le _, Nat.zero_le _⟩ hS hP (fun H locs hP hS => ?_)
                rw [hq]
                refine lv_iload_n hx hb d_D_fault_119 rfl (lv_at hl 4 rfl) ?_
                refine lv_iload_n hx hb d_D_fault_120 rfl (lv_at hl 5 rfl) ?_
                refine rw_Vv (wr := [cg_B iA cZ 20 ib]) [0, 2, 3, 4, 5, 6] [1] rfl rfl (by decide) (As := [.int (nI jp), .int (nI jq), .int (nI w), .int (nI z)]) (rest := []) ⟨hx, hb, hml, hown, hts⟩ (c_D_add l dC dI cI cL cZ dm 0 np ne fi kp iA tA oA uA wA sA eA vA yA lA ll mn xA cA zA pA bA fA gA bw bs ps qA rA aA kA lt wt fx oe ot wg sg ie jp jq w z (by omega)) (cwV 4 hts (wg_V wk_D_94 wm_D_add we_D_add wi_D wc_D_add) rfl rfl rfl (by decide +kernel) ⟨Nat.le_of_ble_eq_true rfl, Nat.le_of_ble_eq_true rfl⟩) hK (hP.sub [0, 2, 3, 4, 5, 6] rfl) ((hD.sub [0, 2, 3, 4, 5, 6] (by decide) rfl).weaken (fun _ _ _ _ => trivial)) (q0 := 0) rfl rfl rfl rfl hl.1 rfl (lv_room (Nat.le_of_ble_eq_true rfl)) d_D_fault_121 ⟨Nat.zero_le _, Nat.zero_le _⟩ hS hP hD (fun u H locs hw_2 hP hS => ?_)
                have hP : va_P (dC, dI) classes [cg_D dm 0 np (ne + 1) fi kp iA tA oA uA wA sA eA vA yA lA ll mn xA cA zA pA bA fA gA bw bs ps qA rA aA kA lt wt fx, cg_B iA cZ 20 ib, cg_N oA cI 60 (va_up oe ne jp), cg_N uA cI 60 (va_up ot ne jq), cg_N wA cI 60 (va_up wg ne w), cg_N sA cI 60 (va_up sg ne z), cg_B eA cZ 60 (va_up ie ne false)] H := hP.sub [1, 0, 2, 3, 4, 5, 6] rfl
                have hD : va_D A [cg_D dm 0 np (ne + 1) fi kp iA tA oA uA wA sA eA vA yA lA ll mn xA cA zA pA bA fA gA bw bs ps qA rA aA kA lt wt fx, cg_B iA cZ 20 ib, cg_N oA cI 60 (va_up oe ne jp), cg_N uA cI 60 (va_up ot ne jq), cg_N wA cI 60 (va_up wg ne w), cg_N sA cI 60 (va_up sg ne z), cg_B eA cZ 60 (va_up ie ne false)] := rw_re hD rfl
                refine lv_aload_n hx hb d_D_fault_124 rfl (lv_at hl 2 rfl) ?_
                refine lv_iload_n hx hb d_D_fault_125 rfl (lv_at hl 3 rfl) ?_
                refine lv_iconst (v := nI 2) hx hb d_D_fault_126 (by decide) ?_
                refine ro_Si (As := [.int x, .int (nI 2)]) (rest := [.ref dm]) ⟨hx, hb, hml, hown, hts⟩ (c_D_of l dC dI cI cL cZ x 2 (by omega)) (cwS 2 hts (wg_S wk_D_102 ws_D_of wi_D wc_D_of) rfl rfl rfl (by decide +kernel) ⟨Nat.le_of_ble_eq_true rfl, Nat.le_of_ble_eq_true rfl⟩) hK (hP.sub [] rfl) rfl hl.1 rfl (lv_room (Nat.le_of_ble_eq_true rfl)) d_D_fault_127 ⟨Nat.zero_le _, Nat.zero_le _⟩ hS hP (fun H locs hP hS => ?_)
                rw [hr1]
                refine lv_iload hx hb d_D_fault_130 (lv_at hl 0 rfl) ?_
                refine lv_iconst (v := nI 0) hx hb d_D_fault_132 (by decide) ?_
                refine lv_iconst (v := nI 0) hx hb d_D_fault_133 (by decide) ?_
                refine rw_Vv (wr := [cg_B iA cZ 20 ib]) [0, 2, 3, 4, 5, 6] [1] rfl rfl (by decide) (As := [.int (nI jr), .int (nI js), .int (nI 0), .int (nI 0)]) (rest := []) ⟨hx, hb, hml, hown, hts⟩ (c_D_add l dC dI cI cL cZ dm 0 np (ne + 1) fi kp iA tA oA uA wA sA eA vA yA lA ll mn xA cA zA pA bA fA gA bw bs ps qA rA aA kA lt wt fx (va_up oe ne jp) (va_up ot ne jq) (va_up wg ne w) (va_up sg ne z) (va_up ie ne false) jr js 0 0 (by omega)) (cwV 4 hts (wg_V wk_D_94 wm_D_add we_D_add wi_D wc_D_add) rfl rfl rfl (by decide +kernel) ⟨Nat.le_of_ble_eq_true rfl, Nat.le_of_ble_eq_true rfl⟩) hK (hP.sub [0, 2, 3, 4, 5, 6] rfl) ((hD.sub [0, 2, 3, 4, 5, 6] (by decide) rfl).weaken (fun _ _ _ _ => trivial)) (q0 := 0) rfl rfl rfl rfl hl.1 rfl (lv_room (Nat.le_of_ble_eq_true rfl)) d_D_fault_134 ⟨Nat.zero_le _, Nat.zero_le _⟩ hS hP hD (fun u H locs hw_4 hP hS => ?_)
                have hP : va_P (dC, dI) classes [cg_D dm 0 np ((ne + 1) + 1) fi kp iA tA oA uA wA sA eA vA yA lA ll mn xA cA zA pA bA fA gA bw bs ps qA rA aA kA lt wt fx, cg_B iA cZ 20 ib, cg_N oA cI 60 (va_up (va_up oe ne jp) (ne + 1) jr), cg_N uA cI 60 (va_up (va_up ot ne jq) (ne + 1) js), cg_N wA cI 60 (va_up (va_up wg ne w) (ne + 1) 0), cg_N sA cI 60 (va_up (va_up sg ne z) (ne + 1) 0), cg_B eA cZ 60 (va_up (va_up ie ne false) (ne + 1) false)] H := hP.sub [1, 0, 2, 3, 4, 5, 6] rfl
                have hD : va_D A [cg_D dm 0 np ((ne + 1) + 1) fi kp iA tA oA uA wA sA eA vA yA lA ll mn xA cA zA pA bA fA gA bw bs ps qA rA aA kA lt wt fx, cg_B iA cZ 20 ib, cg_N oA cI 60 (va_up (va_up oe ne jp) (ne + 1) jr), cg_N uA cI 60 (va_up (va_up ot ne jq) (ne + 1) js), cg_N wA cI 60 (va_up (va_up wg ne w) (ne + 1) 0), cg_N sA cI 60 (va_up (va_up sg ne z) (ne + 1) 0), cg_B eA cZ 60 (va_up (va_up ie ne false) (ne + 1) false)] := rw_re hD rfl
                refine lv_aload_n hx hb d_D_fault_137 rfl (lv_at hl 2 rfl) ?_
                refine va_get (D := (dC, dI)) (ci := 5) (v := .int (nI ((ne + 1) + 1))) (C := R_D) (T := F_D) (N := 34) hx hb hts iD hown hK hP 0 rfl rfl 2 (by decide) (hts _ (List.mem_cons_of_mem _ wk_D_87)) (fun _ h9 => h9) rfl d_D_fault_138 ?_
                refine lv_iconst (v := nI 2) hx hb d_D_fault_141 (by decide) ?_
                refine nr_isub (by omega) hx hb d_D_fault_142 ?_
                exact rw_iret () hx hb hr hlocks hS hP (by rw [show ne + 1 + 1 - 2 = ne by omega]) d_D_fault_143
              · exact False.elim (by first | (rw [hc1] at c_87; cases c_87; done) | (rw [hc2] at c_103; cases c_103; done))
          · have hs2 : ng_nth x 20 0 3 = nI js := by rw [if_pos c_54] at hs; exact hs
            refine lv_iload_n hx hb d_D_fault_57 rfl (lv_at hl 2 rfl) ?_
            refine lv_iconst (v := nI 3) hx hb d_D_fault_58 (by decide) ?_
            refine ro_Si (As := [.int x, .int (nI 3)]) (rest := []) ⟨hx, hb, hml, hown, hts⟩ (c_D_of l dC dI cI cL cZ x 3 (by omega)) (cwS 2 hts (wg_S wk_D_102 ws_D_of wi_D wc_D_of) rfl rfl rfl (by decide +kernel) ⟨Nat.le_of_ble_eq_true rfl, Nat.le_of_ble_eq_true rfl⟩) hK (hP.sub [] rfl) rfl hl.1 rfl (lv_room (Nat.le_of_ble_eq_true rfl)) d_D_fault_59 ⟨Nat.zero_le _, Nat.zero_le _⟩ hS hP (fun H locs hP hS => ?_)
            refine lv_goto (tgt := 69) hx hb d_D_fault_62 (by decide) ?_
            rw [hs2]
            refine lv_istore (lv' := [(5, .int (nI js)), (4, .int (nI (dm_ct (fun i => nb_t x i) 20))), (0, .ref dm), (1, .int x), (2, .int (nI w)), (3, .int (nI z))]) hx hb d_D_fault_69 hl (by decide) rfl (fun ls hl => ?_)
            refine lv_aload_n hx hb d_D_fault_71 rfl (lv_at hl 2 rfl) ?_
            refine lv_iload_n hx hb d_D_fault_72 rfl (lv_at hl 3 rfl) ?_
            refine lv_iconst (v := nI 0) hx hb d_D_fault_73 (by decide) ?_
            refine ro_Si (As := [.int x, .int (nI 0)]) (rest := [.ref dm]) ⟨hx, hb, hml, hown, hts⟩ (c_D_of l dC dI cI cL cZ x 0 (by omega)) (cwS 2 hts (wg_S wk_D_102 ws_D_of wi_D wc_D_of) rfl rfl rfl (by decide +kernel) ⟨Nat.le_of_ble_eq_true rfl, Nat.le_of_ble_eq_true rfl⟩) hK (hP.sub [] rfl) rfl hl.1 rfl (lv_room (Nat.le_of_ble_eq_true rfl)) d_D_fault_74 ⟨Nat.zero_le _, Nat.zero_le _⟩ hS hP (fun H locs hP hS => ?_)
            rw [hp]
            refine lv_iload_n hx hb d_D_fault_77 rfl (lv_at hl 3 rfl) ?_
            refine lv_iconst (v := nI 1) hx hb d_D_fault_78 (by decide) ?_
            refine ro_Si (As := [.int x, .int (nI 1)]) (rest := [.int (nI jp), .ref dm]) ⟨hx, hb, hml, hown, hts⟩ (c_D_of l dC dI cI cL cZ x 1 (by omega)) (cwS 2 hts (wg_S wk_D_102 ws_D_of wi_D wc_D_of) rfl rfl rfl (by decide +kernel) ⟨Nat.le_of_ble_eq_true rfl, Nat.le_of_ble_eq_true rfl⟩) hK (hP.sub [] rfl) rfl hl.1 rfl (lv_room (Nat.le_of_ble_eq_true rfl)) d_D_fault_79 ⟨Nat.zero_le _, Nat.zero_le _⟩ hS hP (fun H locs hP hS => ?_)
            rw [hq]
            refine lv_iload_n hx hb d_D_fault_82 rfl (lv_at hl 4 rfl) ?_
            refine lv_iload_n hx hb d_D_fault_83 rfl (lv_at hl 5 rfl) ?_
            refine ro_Vi (As := [.int (nI jp), .int (nI jq), .int (nI w), .int (nI z)]) (rest := []) ⟨hx, hb, hml, hown, hts⟩ (c_D_canBe l dC dI cI cL cZ dm 0 np ne fi kp iA tA oA uA wA sA eA vA yA lA ll mn xA cA zA pA bA fA gA bw bs ps qA rA aA kA lt wt fx ib (nI jp) (nI jq) (nI w) (nI z) (by omega)) (cwV 4 hts (wg_V wk_D_90 wm_D_canBe we_D_canBe wi_D wc_D_canBe) rfl rfl rfl (by decide +kernel) ⟨Nat.le_of_ble_eq_true rfl, Nat.le_of_ble_eq_true rfl⟩) hK (hP.sub [0, 1] rfl) (q0 := 0) rfl rfl rfl rfl hl.1 rfl (lv_room (Nat.le_of_ble_eq_true rfl)) d_D_fault_84 ⟨Nat.zero_le _, Nat.zero_le _⟩ hS hP (fun H locs hP hS => ?_)
            refine nr_ifeqB (tgt := 106) hx hb d_D_fault_87 (by decide) (fun c_87 => ?_) (fun c_87 => ?_)
            · exact False.elim (by first | (rw [hc1] at c_87; cases c_87; done) | (rw [hc2] at c_103; cases c_103; done))
            · refine lv_aload_n hx hb d_D_fault_90 rfl (lv_at hl 2 rfl) ?_
              refine lv_iload_n hx hb d_D_fault_91 rfl (lv_at hl 3 rfl) ?_
              refine lv_iconst (v := nI 2) hx hb d_D_fault_92 (by decide) ?_
              refine ro_Si (As := [.int x, .int (nI 2)]) (rest := [.ref dm]) ⟨hx, hb, hml, hown, hts⟩ (c_D_of l dC dI cI cL cZ x 2 (by omega)) (cwS 2 hts (wg_S wk_D_102 ws_D_of wi_D wc_D_of) rfl rfl rfl (by decide +kernel) ⟨Nat.le_of_ble_eq_true rfl, Nat.le_of_ble_eq_true rfl⟩) hK (hP.sub [] rfl) rfl hl.1 rfl (lv_room (Nat.le_of_ble_eq_true rfl)) d_D_fault_93 ⟨Nat.zero_le _, Nat.zero_le _⟩ hS hP (fun H locs hP hS => ?_)
              rw [hr1]
              refine lv_iload hx hb d_D_fault_96 (lv_at hl 0 rfl) ?_
              refine lv_iconst (v := nI 0) hx hb d_D_fault_98 (by decide) ?_
              refine lv_iconst (v := nI 0) hx hb d_D_fault_99 (by decide) ?_
              refine ro_Vi (As := [.int (nI jr), .int (nI js), .int (nI 0), .int (nI 0)]) (rest := []) ⟨hx, hb, hml, hown, hts⟩ (c_D_canBe l dC dI cI cL cZ dm 0 np ne fi kp iA tA oA uA wA sA eA vA yA lA ll mn xA cA zA pA bA fA gA bw bs ps qA rA aA kA lt wt fx ib (nI jr) (nI js) (nI 0) (nI 0) (by omega)) (cwV 4 hts (wg_V wk_D_90 wm_D_canBe we_D_canBe wi_D wc_D_canBe) rfl rfl rfl (by decide +kernel) ⟨Nat.le_of_ble_eq_true rfl, Nat.le_of_ble_eq_true rfl⟩) hK (hP.sub [0, 1] rfl) (q0 := 0) rfl rfl rfl rfl hl.1 rfl (lv_room (Nat.le_of_ble_eq_true rfl)) d_D_fault_100 ⟨Nat.zero_le _, Nat.zero_le _⟩ hS hP (fun H locs hP hS => ?_)
              refine nr_ifneB (tgt := 108) hx hb d_D_fault_103 (by decide) (fun c_103 => ?_) (fun c_103 => ?_)
              · refine lv_aload_n hx hb d_D_fault_108 rfl (lv_at hl 2 rfl) ?_
                refine lv_iload_n hx hb d_D_fault_109 rfl (lv_at hl 3 rfl) ?_
                refine lv_iconst (v := nI 0) hx hb d_D_fault_110 (by decide) ?_
                refine ro_Si (As := [.int x, .int (nI 0)]) (rest := [.ref dm]) ⟨hx, hb, hml, hown, hts⟩ (c_D_of l dC dI cI cL cZ x 0 (by omega)) (cwS 2 hts (wg_S wk_D_102 ws_D_of wi_D wc_D_of) rfl rfl rfl (by decide +kernel) ⟨Nat.le_of_ble_eq_true rfl, Nat.le_of_ble_eq_true rfl⟩) hK (hP.sub [] rfl) rfl hl.1 rfl (lv_room (Nat.le_of_ble_eq_true rfl)) d_D_fault_111 ⟨Nat.zero_le _, Nat.zero_le _⟩ hS hP (fun H locs hP hS => ?_)
                rw [hp]
                refine lv_iload_n hx hb d_D_fault_114 rfl (lv_at hl 3 rfl) ?_
                refine lv_iconst (v := nI 1) hx hb d_D_fault_115 (by decide) ?_
                refine ro_Si (As := [.int x, .int (nI 1)]) (rest := [.int (nI jp), .ref dm]) ⟨hx, hb, hml, hown, hts⟩ (c_D_of l dC dI cI cL cZ x 1 (by omega)) (cwS 2 hts (wg_S wk_D_102 ws_D_of wi_D wc_D_of) rfl rfl rfl (by decide +kernel) ⟨Nat.le_of_ble_eq_true rfl, Nat.le_of_ble_eq_true rfl⟩) hK (hP.sub [] rfl) rfl hl.1 rfl (lv_room (Nat.le_of_ble_eq_true rfl)) d_D_fault_116 ⟨Nat.zero_le _, Nat.zero_le _⟩ hS hP (fun H locs hP hS => ?_)
                rw [hq]
                refine lv_iload_n hx hb d_D_fault_119 rfl (lv_at hl 4 rfl) ?_
                refine lv_iload_n hx hb d_D_fault_120 rfl (lv_at hl 5 rfl) ?_
                refine rw_Vv (wr := [cg_B iA cZ 20 ib]) [0, 2, 3, 4, 5, 6] [1] rfl rfl (by decide) (As := [.int (nI jp), .int (nI jq), .int (nI w), .int (nI z)]) (rest := []) ⟨hx, hb, hml, hown, hts⟩ (c_D_add l dC dI cI cL cZ dm 0 np ne fi kp iA tA oA uA wA sA eA vA yA lA ll mn xA cA zA pA bA fA gA bw bs ps qA rA aA kA lt wt fx oe ot wg sg ie jp jq w z (by omega)) (cwV 4 hts (wg_V wk_D_94 wm_D_add we_D_add wi_D wc_D_add) rfl rfl rfl (by decide +kernel) ⟨Nat.le_of_ble_eq_true rfl, Nat.le_of_ble_eq_true rfl⟩) hK (hP.sub [0, 2, 3, 4, 5, 6] rfl) ((hD.sub [0, 2, 3, 4, 5, 6] (by decide) rfl).weaken (fun _ _ _ _ => trivial)) (q0 := 0) rfl rfl rfl rfl hl.1 rfl (lv_room (Nat.le_of_ble_eq_true rfl)) d_D_fault_121 ⟨Nat.zero_le _, Nat.zero_le _⟩ hS hP hD (fun u H locs hw_6 hP hS => ?_)
                have hP : va_P (dC, dI) classes [cg_D dm 0 np (ne + 1) fi kp iA tA oA uA wA sA eA vA yA lA ll mn xA cA zA pA bA fA gA bw bs ps qA rA aA kA lt wt fx, cg_B iA cZ 20 ib, cg_N oA cI 60 (va_up oe ne jp), cg_N uA cI 60 (va_up ot ne jq), cg_N wA cI 60 (va_up wg ne w), cg_N sA cI 60 (va_up sg ne z), cg_B eA cZ 60 (va_up ie ne false)] H := hP.sub [1, 0, 2, 3, 4, 5, 6] rfl
                have hD : va_D A [cg_D dm 0 np (ne + 1) fi kp iA tA oA uA wA sA eA vA yA lA ll mn xA cA zA pA bA fA gA bw bs ps qA rA aA kA lt wt fx, cg_B iA cZ 20 ib, cg_N oA cI 60 (va_up oe ne jp), cg_N uA cI 60 (va_up ot ne jq), cg_N wA cI 60 (va_up wg ne w), cg_N sA cI 60 (va_up sg ne z), cg_B eA cZ 60 (va_up ie ne false)] := rw_re hD rfl
                refine lv_aload_n hx hb d_D_fault_124 rfl (lv_at hl 2 rfl) ?_
                refine lv_iload_n hx hb d_D_fault_125 rfl (lv_at hl 3 rfl) ?_
                refine lv_iconst (v := nI 2) hx hb d_D_fault_126 (by decide) ?_
                refine ro_Si (As := [.int x, .int (nI 2)]) (rest := [.ref dm]) ⟨hx, hb, hml, hown, hts⟩ (c_D_of l dC dI cI cL cZ x 2 (by omega)) (cwS 2 hts (wg_S wk_D_102 ws_D_of wi_D wc_D_of) rfl rfl rfl (by decide +kernel) ⟨Nat.le_of_ble_eq_true rfl, Nat.le_of_ble_eq_true rfl⟩) hK (hP.sub [] rfl) rfl hl.1 rfl (lv_room (Nat.le_of_ble_eq_true rfl)) d_D_fault_127 ⟨Nat.zero_le _, Nat.zero_le _⟩ hS hP (fun H locs hP hS => ?_)
                rw [hr1]
                refine lv_iload hx hb d_D_fault_130 (lv_at hl 0 rfl) ?_
                refine lv_iconst (v := nI 0) hx hb d_D_fault_132 (by decide) ?_
                refine lv_iconst (v := nI 0) hx hb d_D_fault_133 (by decide) ?_
                refine rw_Vv (wr := [cg_B iA cZ 20 ib]) [0, 2, 3, 4, 5, 6] [1] rfl rfl (by decide) (As := [.int (nI jr), .int (nI js), .int (nI 0), .int (nI 0)]) (rest := []) ⟨hx, hb, hml, hown, hts⟩ (c_D_add l dC dI cI cL cZ dm 0 np (ne + 1) fi kp iA tA oA uA wA sA eA vA yA lA ll mn xA cA zA pA bA fA gA bw bs ps qA rA aA kA lt wt fx (va_up oe ne jp) (va_up ot ne jq) (va_up wg ne w) (va_up sg ne z) (va_up ie ne false) jr js 0 0 (by omega)) (cwV 4 hts (wg_V wk_D_94 wm_D_add we_D_add wi_D wc_D_add) rfl rfl rfl (by decide +kernel) ⟨Nat.le_of_ble_eq_true rfl, Nat.le_of_ble_eq_true rfl⟩) hK (hP.sub [0, 2, 3, 4, 5, 6] rfl) ((hD.sub [0, 2, 3, 4, 5, 6] (by decide) rfl).weaken (fun _ _ _ _ => trivial)) (q0 := 0) rfl rfl rfl rfl hl.1 rfl (lv_room (Nat.le_of_ble_eq_true rfl)) d_D_fault_134 ⟨Nat.zero_le _, Nat.zero_le _⟩ hS hP hD (fun u H locs hw_8 hP hS => ?_)
                have hP : va_P (dC, dI) classes [cg_D dm 0 np ((ne + 1) + 1) fi kp iA tA oA uA wA sA eA vA yA lA ll mn xA cA zA pA bA fA gA bw bs ps qA rA aA kA lt wt fx, cg_B iA cZ 20 ib, cg_N oA cI 60 (va_up (va_up oe ne jp) (ne + 1) jr), cg_N uA cI 60 (va_up (va_up ot ne jq) (ne + 1) js), cg_N wA cI 60 (va_up (va_up wg ne w) (ne + 1) 0), cg_N sA cI 60 (va_up (va_up sg ne z) (ne + 1) 0), cg_B eA cZ 60 (va_up (va_up ie ne false) (ne + 1) false)] H := hP.sub [1, 0, 2, 3, 4, 5, 6] rfl
                have hD : va_D A [cg_D dm 0 np ((ne + 1) + 1) fi kp iA tA oA uA wA sA eA vA yA lA ll mn xA cA zA pA bA fA gA bw bs ps qA rA aA kA lt wt fx, cg_B iA cZ 20 ib, cg_N oA cI 60 (va_up (va_up oe ne jp) (ne + 1) jr), cg_N uA cI 60 (va_up (va_up ot ne jq) (ne + 1) js), cg_N wA cI 60 (va_up (va_up wg ne w) (ne + 1) 0), cg_N sA cI 60 (va_up (va_up sg ne z) (ne + 1) 0), cg_B eA cZ 60 (va_up (va_up ie ne false) (ne + 1) false)] := rw_re hD rfl
                refine lv_aload_n hx hb d_D_fault_137 rfl (lv_at hl 2 rfl) ?_
                refine va_get (D := (dC, dI)) (ci := 5) (v := .int (nI ((ne + 1) + 1))) (C := R_D) (T := F_D) (N := 34) hx hb hts iD hown hK hP 0 rfl rfl 2 (by decide) (hts _ (List.mem_cons_of_mem _ wk_D_87)) (fun _ h9 => h9) rfl d_D_fault_138 ?_
                refine lv_iconst (v := nI 2) hx hb d_D_fault_141 (by decide) ?_
                refine nr_isub (by omega) hx hb d_D_fault_142 ?_
                exact rw_iret () hx hb hr hlocks hS hP (by rw [show ne + 1 + 1 - 2 = ne by omega]) d_D_fault_143
              · exact False.elim (by first | (rw [hc1] at c_87; cases c_87; done) | (rw [hc2] at c_103; cases c_103; done))
        · refine lv_iload hx hb d_D_fault_43 (lv_at hl 0 rfl) ?_
          refine lv_iconst (v := nI 4) hx hb d_D_fault_45 (by decide) ?_
          refine nr_icmp_eq (by omega) (by omega) (tgt := 51) hx hb d_D_fault_46 (by decide) (fun c_46 => ?_) (fun c_46 => ?_)
          · refine lv_iload hx hb d_D_fault_51 (lv_at hl 0 rfl) ?_
            refine lv_iconst (v := nI 4) hx hb d_D_fault_53 (by decide) ?_
            refine nr_icmp_ne (by omega) (by omega) (tgt := 65) hx hb d_D_fault_54 (by decide) (fun c_54 => ?_) (fun c_54 => ?_)
            · have hs2 : ng_oi (ng_fst ib np 0) = nI js := by rw [if_neg c_54] at hs; exact hs
              refine lv_aload_n hx hb d_D_fault_65 rfl (lv_at hl 1 rfl) ?_
              refine ro_Vi (As := []) (rest := []) ⟨hx, hb, hml, hown, hts⟩ (c_D_firstBoundary l dC dI cI cL cZ dm 0 np ne fi kp iA tA oA uA wA sA eA vA yA lA ll mn xA cA zA pA bA fA gA bw bs ps qA rA aA kA lt wt fx ib (by omega)) (cwV 0 hts (wg_V wk_D_106 wm_D_firstBoundary we_D_firstBoundary wi_D wc_D_firstBoundary) rfl rfl rfl (by decide +kernel) ⟨Nat.le_of_ble_eq_true rfl, Nat.le_of_ble_eq_true rfl⟩) hK (hP.sub [0, 1] rfl) (q0 := 0) rfl rfl rfl rfl hl.1 rfl (lv_room (Nat.le_of_ble_eq_true rfl)) d_D_fault_66 ⟨Nat.zero_le _, Nat.zero_le _⟩ hS hP (fun H locs hP hS => ?_)
              rw [hs2]
              refine lv_istore (lv' := [(5, .int (nI js)), (4, .int (nI (dm_ct (fun i => nb_t x i) 20))), (0, .ref dm), (1, .int x), (2, .int (nI w)), (3, .int (nI z))]) hx hb d_D_fault_69 hl (by decide) rfl (fun ls hl => ?_)
              refine lv_aload_n hx hb d_D_fault_71 rfl (lv_at hl 2 rfl) ?_
              refine lv_iload_n hx hb d_D_fault_72 rfl (lv_at hl 3 rfl) ?_
              refine lv_iconst (v := nI 0) hx hb d_D_fault_73 (by decide) ?_
              refine ro_Si (As := [.int x, .int (nI 0)]) (rest := [.ref dm]) ⟨hx, hb, hml, hown, hts⟩ (c_D_of l dC dI cI cL cZ x 0 (by omega)) (cwS 2 hts (wg_S wk_D_102 ws_D_of wi_D wc_D_of) rfl rfl rfl (by decide +kernel) ⟨Nat.le_of_ble_eq_true rfl, Nat.le_of_ble_eq_true rfl⟩) hK (hP.sub [] rfl) rfl hl.1 rfl (lv_room (Nat.le_of_ble_eq_true rfl)) d_D_fault_74 ⟨Nat.zero_le _, Nat.zero_le _⟩ hS hP (fun H locs hP hS => ?_)
              rw [hp]
              refine lv_iload_n hx hb d_D_fault_77 rfl (lv_at hl 3 rfl) ?_
              refine lv_iconst (v := nI 1) hx hb d_D_fault_78 (by decide) ?_
              refine ro_Si (As := [.int x, .int (nI 1)]) (rest := [.int (nI jp), .ref dm]) ⟨hx, hb, hml, hown, hts⟩ (c_D_of l dC dI cI cL cZ x 1 (by omega)) (cwS 2 hts (wg_S wk_D_102 ws_D_of wi_D wc_D_of) rfl rfl rfl (by decide +kernel) ⟨Nat.le_of_ble_eq_true rfl, Nat.le_of_ble_eq_true rfl⟩) hK (hP.sub [] rfl) rfl hl.1 rfl (lv_room (Nat.le_of_ble_eq_true rfl)) d_D_fault_79 ⟨Nat.zero_le _, Nat.zero_le _⟩ hS hP (fun H locs hP hS => ?_)
              rw [hq]
              refine lv_iload_n hx hb d_D_fault_82 rfl (lv_at hl 4 rfl) ?_
              refine lv_iload_n hx hb d_D_fault_83 rfl (lv_at hl 5 rfl) ?_
              refine ro_Vi (As := [.int (nI jp), .int (nI jq), .int (nI w), .int (nI z)]) (rest := []) ⟨hx, hb, hml, hown, hts⟩ (c_D_canBe l dC dI cI cL cZ dm 0 np ne fi kp iA tA oA uA wA sA eA vA yA lA ll mn xA cA zA pA bA fA gA bw bs ps qA rA aA kA lt wt fx ib (nI jp) (nI jq) (nI w) (nI z) (by omega)) (cwV 4 hts (wg_V wk_D_90 wm_D_canBe we_D_canBe wi_D wc_D_canBe) rfl rfl rfl (by decide +kernel) ⟨Nat.le_of_ble_eq_true rfl, Nat.le_of_ble_eq_true rfl⟩) hK (hP.sub [0, 1] rfl) (q0 := 0) rfl rfl rfl rfl hl.1 rfl (lv_room (Nat.le_of_ble_eq_true rfl)) d_D_fault_84 ⟨Nat.zero_le _, Nat.zero_le _⟩ hS hP (fun H locs hP hS => ?_)
              refine nr_ifeqB (tgt := 106) hx hb d_D_fault_87 (by decide) (fun c_87 => ?_) (fun c_87 => ?_)
              · exact False.elim (by first | (rw [hc1] at c_87; cases c_87; done) | (rw [hc2] at c_103; cases c_103; done))
              · refine lv_aload_n hx hb d_D_fault_90 rfl (lv_at hl 2 rfl) ?_
                refine lv_iload_n hx hb d_D_fault_91 rfl (lv_at hl 3 rfl) ?_
                refine lv_iconst (v := nI 2) hx hb d_D_fault_92 (by decide) ?_
                refine ro_Si (As := [.int x, .int (nI 2)]) (rest := [.ref dm]) ⟨hx, hb, hml, hown, hts⟩ (c_D_of l dC dI cI cL cZ x 2 (by omega)) (cwS 2 hts (wg_S wk_D_102 ws_D_of wi_D wc_D_of) rfl rfl rfl (by decide +kernel) ⟨Nat.le_of_ble_eq_true rfl, Nat.le_of_ble_eq_true rfl⟩) hK (hP.sub [] rfl) rfl hl.1 rfl (lv_room (Nat.le_of_ble_eq_true rfl)) d_D_fault_93 ⟨Nat.zero_le _, Nat.zero_le _⟩ hS hP (fun H locs hP hS => ?_)
                rw [hr1]
                refine lv_iload hx hb d_D_fault_96 (lv_at hl 0 rfl) ?_
                refine lv_iconst (v := nI 0) hx hb d_D_fault_98 (by decide) ?_
                refine lv_iconst (v := nI 0) hx hb d_D_fault_99 (by decide) ?_
                refine ro_Vi (As := [.int (nI jr), .int (nI js), .int (nI 0), .int (nI 0)]) (rest := []) ⟨hx, hb, hml, hown, hts⟩ (c_D_canBe l dC dI cI cL cZ dm 0 np ne fi kp iA tA oA uA wA sA eA vA yA lA ll mn xA cA zA pA bA fA gA bw bs ps qA rA aA kA lt wt fx ib (nI jr) (nI js) (nI 0) (nI 0) (by omega)) (cwV 4 hts (wg_V wk_D_90 wm_D_canBe we_D_canBe wi_D wc_D_canBe) rfl rfl rfl (by decide +kernel) ⟨Nat.le_of_ble_eq_true rfl, Nat.le_of_ble_eq_true rfl⟩) hK (hP.sub [0, 1] rfl) (q0 := 0) rfl rfl rfl rfl hl.1 rfl (lv_room (Nat.le_of_ble_eq_true rfl)) d_D_fault_100 ⟨Nat.zero_le _, Nat.zero_le _⟩ hS hP (fun H locs hP hS => ?_)
                refine nr_ifneB (tgt := 108) hx hb d_D_fault_103 (by decide) (fun c_103 => ?_) (fun c_103 => ?_)
                · refine lv_aload_n hx hb d_D_fault_108 rfl (lv_at hl 2 rfl) ?_
                  refine lv_iload_n hx hb d_D_fault_109 rfl (lv_at hl 3 rfl) ?_
                  refine lv_iconst (v := nI 0) hx hb d_D_fault_110 (by decide) ?_
                  refine ro_Si (As := [.int x, .int (nI 0)]) (rest := [.ref dm]) ⟨hx, hb, hml, hown, hts⟩ (c_D_of l dC dI cI cL cZ x 0 (by omega)) (cwS 2 hts (wg_S wk_D_102 ws_D_of wi_D wc_D_of) rfl rfl rfl (by decide +kernel) ⟨Nat.le_of_ble_eq_true rfl, Nat.le_of_ble_eq_true rfl⟩) hK (hP.sub [] rfl) rfl hl.1 rfl (lv_room (Nat.le_of_ble_eq_true rfl)) d_D_fault_111 ⟨Nat.zero_le _, Nat.zero_le _⟩ hS hP (fun H locs hP hS => ?_)
                  rw [hp]
                  refine lv_iload_n hx hb d_D_fault_114 rfl (lv_at hl 3 rfl) ?_
                  refine lv_iconst (v := nI 1) hx hb d_D_fault_115 (by decide) ?_
                  refine ro_Si (As := [.int x, .int (nI 1)]) (rest := [.int (nI jp), .ref dm]) ⟨hx, hb, hml, hown, hts⟩ (c_D_of l dC dI cI cL cZ x 1 (by omega)) (cwS 2 hts (wg_S wk_D_102 ws_D_of wi_D wc_D_of) rfl rfl rfl (by decide +kernel) ⟨Nat.le_of_ble_eq_true rfl, Nat.le_of_ble_eq_true rfl⟩) hK (hP.sub [] rfl) rfl hl.1 rfl (lv_room (Nat.le_of_ble_eq_true rfl)) d_D_fault_116 ⟨Nat.zero_le _, Nat.zero_le _⟩ hS hP (fun H locs hP hS => ?_)
                  rw [hq]
                  refine lv_iload_n hx hb d_D_fault_119 rfl (lv_at hl 4 rfl) ?_
                  refine lv_iload_n hx hb d_D_fault_120 rfl (lv_at hl 5 rfl) ?_
                  refine rw_Vv (wr := [cg_B iA cZ 20 ib]) [0, 2, 3, 4, 5, 6] [1] rfl rfl (by decide) (As := [.int (nI jp), .int (nI jq), .int (nI w), .int (nI z)]) (rest := []) ⟨hx, hb, hml, hown, hts⟩ (c_D_add l dC dI cI cL cZ dm 0 np ne fi kp iA tA oA uA wA sA eA vA yA lA ll mn xA cA zA pA bA fA gA bw bs ps qA rA aA kA lt wt fx oe ot wg sg ie jp jq w z (by omega)) (cwV 4 hts (wg_V wk_D_94 wm_D_add we_D_add wi_D wc_D_add) rfl rfl rfl (by decide +kernel) ⟨Nat.le_of_ble_eq_true rfl, Nat.le_of_ble_eq_true rfl⟩) hK (hP.sub [0, 2, 3, 4, 5, 6] rfl) ((hD.sub [0, 2, 3, 4, 5, 6] (by decide) rfl).weaken (fun _ _ _ _ => trivial)) (q0 := 0) rfl rfl rfl rfl hl.1 rfl (lv_room (Nat.le_of_ble_eq_true rfl)) d_D_fault_121 ⟨Nat.zero_le _, Nat.zero_le _⟩ hS hP hD (fun u H locs hw_10 hP hS => ?_)
                  have hP : va_P (dC, dI) classes [cg_D dm 0 np (ne + 1) fi kp iA tA oA uA wA sA eA vA yA lA ll mn xA cA zA pA bA fA gA bw bs ps qA rA aA kA lt wt fx, cg_B iA cZ 20 ib, cg_N oA cI 60 (va_up oe ne jp), cg_N uA cI 60 (va_up ot ne jq), cg_N wA cI 60 (va_up wg ne w), cg_N sA cI 60 (va_up sg ne z), cg_B eA cZ 60 (va_up ie ne false)] H := hP.sub [1, 0, 2, 3, 4, 5, 6] rfl
                  have hD : va_D A [cg_D dm 0 np (ne + 1) fi kp iA tA oA uA wA sA eA vA yA lA ll mn xA cA zA pA bA fA gA bw bs ps qA rA aA kA lt wt fx, cg_B iA cZ 20 ib, cg_N oA cI 60 (va_up oe ne jp), cg_N uA cI 60 (va_up ot ne jq), cg_N wA cI 60 (va_up wg ne w), cg_N sA cI 60 (va_up sg ne z), cg_B eA cZ 60 (va_up ie ne false)] := rw_re hD rfl
                  refine lv_aload_n hx hb d_D_fault_124 rfl (lv_at hl 2 rfl) ?_
                  refine lv_iload_n hx hb d_D_fault_125 rfl (lv_at hl 3 rfl) ?_
                  refine lv_iconst (v := nI 2) hx hb d_D_fault_126 (by decide) ?_
                  refine ro_Si (As := [.int x, .int (nI 2)]) (rest := [.ref dm]) ⟨hx, hb, hml, hown, hts⟩ (c_D_of l dC dI cI cL cZ x 2 (by omega)) (cwS 2 hts (wg_S wk_D_102 ws_D_of wi_D wc_D_of) rfl rfl rfl (by decide +kernel) ⟨Nat.le_of_ble_eq_true rfl, Nat.le_of_ble_eq_true rfl⟩) hK (hP.sub [] rfl) rfl hl.1 rfl (lv_room (Nat.le_of_ble_eq_true rfl)) d_D_fault_127 ⟨Nat.zero_le _, Nat.zero_le _⟩ hS hP (fun H locs hP hS => ?_)
                  rw [hr1]
                  refine lv_iload hx hb d_D_fault_130 (lv_at hl 0 rfl) ?_
                  refine lv_iconst (v := nI 0) hx hb d_D_fault_132 (by decide) ?_
                  refine lv_iconst (v := nI 0) hx hb d_D_fault_133 (by decide) ?_
                  refine rw_Vv (wr := [cg_B iA cZ 20 ib]) [0, 2, 3, 4, 5, 6] [1] rfl rfl (by decide) (As := [.int (nI jr), .int (nI js), .int (nI 0), .int (nI 0)]) (rest := []) ⟨hx, hb, hml, hown, hts⟩ (c_D_add l dC dI cI cL cZ dm 0 np (ne + 1) fi kp iA tA oA uA wA sA eA vA yA lA ll mn xA cA zA pA bA fA gA bw bs ps qA rA aA kA lt wt fx (va_up oe ne jp) (va_up ot ne jq) (va_up wg ne w) (va_up sg ne z) (va_up ie ne false) jr js 0 0 (by omega)) (cwV 4 hts (wg_V wk_D_94 wm_D_add we_D_add wi_D wc_D_add) rfl rfl rfl (by decide +kernel) ⟨Nat.le_of_ble_eq_true rfl, Nat.le_of_ble_eq_true rfl⟩) hK (hP.sub [0, 2, 3, 4, 5, 6] rfl) ((hD.sub [0, 2, 3, 4, 5, 6] (by decide) rfl).weaken (fun _ _ _ _ => trivial)) (q0 := 0) rfl rfl rfl rfl hl.1 rfl (lv_room (Nat.le_of_ble_eq_true rfl)) d_D_fault_134 ⟨Nat.zero_le _, Nat.zero_le _⟩ hS hP hD (fun u H locs hw_12 hP hS => ?_)
                  have hP : va_P (dC, dI) classes [cg_D dm 0 np ((ne + 1) + 1) fi kp iA tA oA uA wA sA eA vA yA lA ll mn xA cA zA pA bA fA gA bw bs ps qA rA aA kA lt wt fx, cg_B iA cZ 20 ib, cg_N oA cI 60 (va_up (va_up oe ne jp) (ne + 1) jr), cg_N uA cI 60 (va_up (va_up ot ne jq) (ne + 1) js), cg_N wA cI 60 (va_up (va_up wg ne w) (ne + 1) 0), cg_N sA cI 60 (va_up (va_up sg ne z) (ne + 1) 0), cg_B eA cZ 60 (va_up (va_up ie ne false) (ne + 1) false)] H := hP.sub [1, 0, 2, 3, 4, 5, 6] rfl
                  have hD : va_D A [cg_D dm 0 np ((ne + 1) + 1) fi kp iA tA oA uA wA sA eA vA yA lA ll mn xA cA zA pA bA fA gA bw bs ps qA rA aA kA lt wt fx, cg_B iA cZ 20 ib, cg_N oA cI 60 (va_up (va_up oe ne jp) (ne + 1) jr), cg_N uA cI 60 (va_up (va_up ot ne jq) (ne + 1) js), cg_N wA cI 60 (va_up (va_up wg ne w) (ne + 1) 0), cg_N sA cI 60 (va_up (va_up sg ne z) (ne + 1) 0), cg_B eA cZ 60 (va_up (va_up ie ne false) (ne + 1) false)] := rw_re hD rfl
                  refine lv_aload_n hx hb d_D_fault_137 rfl (lv_at hl 2 rfl) ?_
                  refine va_get (D := (dC, dI)) (ci := 5) (v := .int (nI ((ne + 1) + 1))) (C := R_D) (T := F_D) (N := 34) hx hb hts iD hown hK hP 0 rfl rfl 2 (by decide) (hts _ (List.mem_cons_of_mem _ wk_D_87)) (fun _ h9 => h9) rfl d_D_fault_138 ?_
                  refine lv_iconst (v := nI 2) hx hb d_D_fault_141 (by decide) ?_
                  refine nr_isub (by omega) hx hb d_D_fault_142 ?_
                  exact rw_iret () hx hb hr hlocks hS hP (by rw [show ne + 1 + 1 - 2 = ne by omega]) d_D_fault_143
                · exact False.elim (by first | (rw [hc1] at c_87; cases c_87; done) | (rw [hc2] at c_103; cases c_103; done))
            · have hs2 : ng_nth x 20 0 3 = nI js := by rw [if_pos c_54] at hs; exact hs
              refine lv_iload_n hx hb d_D_fault_57 rfl (lv_at hl 2 rfl) ?_
              refine lv_iconst (v := nI 3) hx hb d_D_fault_58 (by decide) ?_
              refine ro_Si (As := [.int x, .int (nI 3)]) (rest := []) ⟨hx, hb, hml, hown, hts⟩ (c_D_of l dC dI cI cL cZ x 3 (by omega)) (cwS 2 hts (wg_S wk_D_102 ws_D_of wi_D wc_D_of) rfl rfl rfl (by decide +kernel) ⟨Nat.le_of_ble_eq_true rfl, Nat.le_of_ble_eq_true rfl⟩) hK (hP.sub [] rfl) rfl hl.1 rfl (lv_room (Nat.le_of_ble_eq_true rfl)) d_D_fault_59 ⟨Nat.zero_le _, Nat.zero_le _⟩ hS hP (fun H locs hP hS => ?_)
              refine lv_goto (tgt := 69) hx hb d_D_fault_62 (by decide) ?_
              rw [hs2]
              refine lv_istore (lv' := [(5, .int (nI js)), (4, .int (nI (dm_ct (fun i => nb_t x i) 20))), (0, .ref dm), (1, .int x), (2, .int (nI w)), (3, .int (nI z))]) hx hb d_D_fault_69 hl (by decide) rfl (fun ls hl => ?_)
              refine lv_aload_n hx hb d_D_fault_71 rfl (lv_at hl 2 rfl) ?_
              refine lv_iload_n hx hb d_D_fault_72 rfl (lv_at hl 3 rfl) ?_
              refine lv_iconst (v := nI 0) hx hb d_D_fault_73 (by decide) ?_
              refine ro_Si (As := [.int x, .int (nI 0)]) (rest := [.ref dm]) ⟨hx, hb, hml, hown, hts⟩ (c_D_of l dC dI cI cL cZ x 0 (by omega)) (cwS 2 hts (wg_S wk_D_102 ws_D_of wi_D wc_D_of) rfl rfl rfl (by decide +kernel) ⟨Nat.le_of_ble_eq_true rfl, Nat.le_of_ble_eq_true rfl⟩) hK (hP.sub [] rfl) rfl hl.1 rfl (lv_room (Nat.le_of_ble_eq_true rfl)) d_D_fault_74 ⟨Nat.zero_le _, Nat.zero_le _⟩ hS hP (fun H locs hP hS => ?_)
              rw [hp]
              refine lv_iload_n hx hb d_D_fault_77 rfl (lv_at hl 3 rfl) ?_
              refine lv_iconst (v := nI 1) hx hb d_D_fault_78 (by decide) ?_
              refine ro_Si (As := [.int x, .int (nI 1)]) (rest := [.int (nI jp), .ref dm]) ⟨hx, hb, hml, hown, hts⟩ (c_D_of l dC dI cI cL cZ x 1 (by omega)) (cwS 2 hts (wg_S wk_D_102 ws_D_of wi_D wc_D_of) rfl rfl rfl (by decide +kernel) ⟨Nat.le_of_ble_eq_true rfl, Nat.le_of_ble_eq_true rfl⟩) hK (hP.sub [] rfl) rfl hl.1 rfl (lv_room (Nat.le_of_ble_eq_true rfl)) d_D_fault_79 ⟨Nat.zero_le _, Nat.zero_le _⟩ hS hP (fun H locs hP hS => ?_)
              rw [hq]
              refine lv_iload_n hx hb d_D_fault_82 rfl (lv_at hl 4 rfl) ?_
              refine lv_iload_n hx hb d_D_fault_83 rfl (lv_at hl 5 rfl) ?_
              refine ro_Vi (As := [.int (nI jp), .int (nI jq), .int (nI w), .int (nI z)]) (rest := []) ⟨hx, hb, hml, hown, hts⟩ (c_D_canBe l dC dI cI cL cZ dm 0 np ne fi kp iA tA oA uA wA sA eA vA yA lA ll mn xA cA zA pA bA fA gA bw bs ps qA rA aA kA lt wt fx ib (nI jp) (nI jq) (nI w) (nI z) (by omega)) (cwV 4 hts (wg_V wk_D_90 wm_D_canBe we_D_canBe wi_D wc_D_canBe) rfl rfl rfl (by decide +kernel) ⟨Nat.le_of_ble_eq_true rfl, Nat.le_of_ble_eq_true rfl⟩) hK (hP.sub [0, 1] rfl) (q0 := 0) rfl rfl rfl rfl hl.1 rfl (lv_room (Nat.le_of_ble_eq_true rfl)) d_D_fault_84 ⟨Nat.zero_le _, Nat.zero_le _⟩ hS hP (fun H locs hP hS => ?_)
              refine nr_ifeqB (tgt := 106) hx hb d_D_fault_87 (by decide) (fun c_87 => ?_) (fun c_87 => ?_)
              · exact False.elim (by first | (rw [hc1] at c_87; cases c_87; done) | (rw [hc2] at c_103; cases c_103; done))
              · refine lv_aload_n hx hb d_D_fault_90 rfl (lv_at hl 2 rfl) ?_
                refine lv_iload_n hx hb d_D_fault_91 rfl (lv_at hl 3 rfl) ?_
                refine lv_iconst (v := nI 2) hx hb d_D_fault_92 (by decide) ?_
                refine ro_Si (As := [.int x, .int (nI 2)]) (rest := [.ref dm]) ⟨hx, hb, hml, hown, hts⟩ (c_D_of l dC dI cI cL cZ x 2 (by omega)) (cwS 2 hts (wg_S wk_D_102 ws_D_of wi_D wc_D_of) rfl rfl rfl (by decide +kernel) ⟨Nat.le_of_ble_eq_true rfl, Nat.le_of_ble_eq_true rfl⟩) hK (hP.sub [] rfl) rfl hl.1 rfl (lv_room (Nat.le_of_ble_eq_true rfl)) d_D_fault_93 ⟨Nat.zero_le _, Nat.zero_le _⟩ hS hP (fun H locs hP hS => ?_)
                rw [hr1]
                refine lv_iload hx hb d_D_fault_96 (lv_at hl 0 rfl) ?_
                refine lv_iconst (v := nI 0) hx hb d_D_fault_98 (by decide) ?_
                refine lv_iconst (v := nI 0) hx hb d_D_fault_99 (by decide) ?_
                refine ro_Vi (As := [.int (nI jr), .int (nI js), .int (nI 0), .int (nI 0)]) (rest := []) ⟨hx, hb, hml, hown, hts⟩ (c_D_canBe l dC dI cI cL cZ dm 0 np ne fi kp iA tA oA uA wA sA eA vA yA lA ll mn xA cA zA pA bA fA gA bw bs ps qA rA aA kA lt wt fx ib (nI jr) (nI js) (nI 0) (nI 0) (by omega)) (cwV 4 hts (wg_V wk_D_90 wm_D_canBe we_D_canBe wi_D wc_D_canBe) rfl rfl rfl (by decide +kernel) ⟨Nat.le_of_ble_eq_true rfl, Nat.le_of_ble_eq_true rfl⟩) hK (hP.sub [0, 1] rfl) (q0 := 0) rfl rfl rfl rfl hl.1 rfl (lv_room (Nat.le_of_ble_eq_true rfl)) d_D_fault_100 ⟨Nat.zero_le _, Nat.zero_le _⟩ hS hP (fun H locs hP hS => ?_)
                refine nr_ifneB (tgt := 108) hx hb d_D_fault_103 (by decide) (fun c_103 => ?_) (fun c_103 => ?_)
                · refine lv_aload_n hx hb d_D_fault_108 rfl (lv_at hl 2 rfl) ?_
                  refine lv_iload_n hx hb d_D_fault_109 rfl (lv_at hl 3 rfl) ?_
                  refine lv_iconst (v := nI 0) hx hb d_D_fault_110 (by decide) ?_
                  refine ro_Si (As := [.int x, .int (nI 0)]) (rest := [.ref dm]) ⟨hx, hb, hml, hown, hts⟩ (c_D_of l dC dI cI cL cZ x 0 (by omega)) (cwS 2 hts (wg_S wk_D_102 ws_D_of wi_D wc_D_of) rfl rfl rfl (by decide +kernel) ⟨Nat.le_of_ble_eq_true rfl, Nat.le_of_ble_eq_true rfl⟩) hK (hP.sub [] rfl) rfl hl.1 rfl (lv_room (Nat.le_of_ble_eq_true rfl)) d_D_fault_111 ⟨Nat.zero_le _, Nat.zero_le _⟩ hS hP (fun H locs hP hS => ?_)
                  rw [hp]
                  refine lv_iload_n hx hb d_D_fault_114 rfl (lv_at hl 3 rfl) ?_
                  refine lv_iconst (v := nI 1) hx hb d_D_fault_115 (by decide) ?_
                  refine ro_Si (As := [.int x, .int (nI 1)]) (rest := [.int (nI jp), .ref dm]) ⟨hx, hb, hml, hown, hts⟩ (c_D_of l dC dI cI cL cZ x 1 (by omega)) (cwS 2 hts (wg_S wk_D_102 ws_D_of wi_D wc_D_of) rfl rfl rfl (by decide +kernel) ⟨Nat.le_of_ble_eq_true rfl, Nat.le_of_ble_eq_true rfl⟩) hK (hP.sub [] rfl) rfl hl.1 rfl (lv_room (Nat.le_of_ble_eq_true rfl)) d_D_fault_116 ⟨Nat.zero_le _, Nat.zero_le _⟩ hS hP (fun H locs hP hS => ?_)
                  rw [hq]
                  refine lv_iload_n hx hb d_D_fault_119 rfl (lv_at hl 4 rfl) ?_
                  refine lv_iload_n hx hb d_D_fault_120 rfl (lv_at hl 5 rfl) ?_
                  refine rw_Vv (wr := [cg_B iA cZ 20 ib]) [0, 2, 3, 4, 5, 6] [1] rfl rfl (by decide) (As := [.int (nI jp), .int (nI jq), .int (nI w), .int (nI z)]) (rest := []) ⟨hx, hb, hml, hown, hts⟩ (c_D_add l dC dI cI cL cZ dm 0 np ne fi kp iA tA oA uA wA sA eA vA yA lA ll mn xA cA zA pA bA fA gA bw bs ps qA rA aA kA lt wt fx oe ot wg sg ie jp jq w z (by omega)) (cwV 4 hts (wg_V wk_D_94 wm_D_add we_D_add wi_D wc_D_add) rfl rfl rfl (by decide +kernel) ⟨Nat.le_of_ble_eq_true rfl, Nat.le_of_ble_eq_true rfl⟩) hK (hP.sub [0, 2, 3, 4, 5, 6] rfl) ((hD.sub [0, 2, 3, 4, 5, 6] (by decide) rfl).weaken (fun _ _ _ _ => trivial)) (q0 := 0) rfl rfl rfl rfl hl.1 rfl (lv_room (Nat.le_of_ble_eq_true rfl)) d_D_fault_121 ⟨Nat.zero_le _, Nat.zero_le _⟩ hS hP hD (fun u H locs hw_14 hP hS => ?_)
                  have hP : va_P (dC, dI) classes [cg_D dm 0 np (ne + 1) fi kp iA tA oA uA wA sA eA vA yA lA ll mn xA cA zA pA bA fA gA bw bs ps qA rA aA kA lt wt fx, cg_B iA cZ 20 ib, cg_N oA cI 60 (va_up oe ne jp), cg_N uA cI 60 (va_up ot ne jq), cg_N wA cI 60 (va_up wg ne w), cg_N sA cI 60 (va_up sg ne z), cg_B eA cZ 60 (va_up ie ne false)] H := hP.sub [1, 0, 2, 3, 4, 5, 6] rfl
                  have hD : va_D A [cg_D dm 0 np (ne + 1) fi kp iA tA oA uA wA sA eA vA yA lA ll mn xA cA zA pA bA fA gA bw bs ps qA rA aA kA lt wt fx, cg_B iA cZ 20 ib, cg_N oA cI 60 (va_up oe ne jp), cg_N uA cI 60 (va_up ot ne jq), cg_N wA cI 60 (va_up wg ne w), cg_N sA cI 60 (va_up sg ne z), cg_B eA cZ 60 (va_up ie ne false)] := rw_re hD rfl
                  refine lv_aload_n hx hb d_D_fault_124 rfl (lv_at hl 2 rfl) ?_
                  refine lv_iload_n hx hb d_D_fault_125 rfl (lv_at hl 3 rfl) ?_
                  refine lv_iconst (v := nI 2) hx hb d_D_fault_126 (by decide) ?_
                  refine ro_Si (As := [.int x, .int (nI 2)]) (rest := [.ref dm]) ⟨hx, hb, hml, hown, hts⟩ (c_D_of l dC dI cI cL cZ x 2 (by omega)) (cwS 2 hts (wg_S wk_D_102 ws_D_of wi_D wc_D_of) rfl rfl rfl (by decide +kernel) ⟨Nat.le_of_ble_eq_true rfl, Nat.le_of_ble_eq_true rfl⟩) hK (hP.sub [] rfl) rfl hl.1 rfl (lv_room (Nat.le_of_ble_eq_true rfl)) d_D_fault_127 ⟨Nat.zero_le _, Nat.zero_le _⟩ hS hP (fun H locs hP hS => ?_)
                  rw [hr1]
                  refine lv_iload hx hb d_D_fault_130 (lv_at hl 0 rfl) ?_
                  refine lv_iconst (v := nI 0) hx hb d_D_fault_132 (by decide) ?_
                  refine lv_iconst (v := nI 0) hx hb d_D_fault_133 (by decide) ?_
                  refine rw_Vv (wr := [cg_B iA cZ 20 ib]) [0, 2, 3, 4, 5, 6] [1] rfl rfl (by decide) (As := [.int (nI jr), .int (nI js), .int (nI 0), .int (nI 0)]) (rest := []) ⟨hx, hb, hml, hown, hts⟩ (c_D_add l dC dI cI cL cZ dm 0 np (ne + 1) fi kp iA tA oA uA wA sA eA vA yA lA ll mn xA cA zA pA bA fA gA bw bs ps qA rA aA kA lt wt fx (va_up oe ne jp) (va_up ot ne jq) (va_up wg ne w) (va_up sg ne z) (va_up ie ne false) jr js 0 0 (by omega)) (cwV 4 hts (wg_V wk_D_94 wm_D_add we_D_add wi_D wc_D_add) rfl rfl rfl (by decide +kernel) ⟨Nat.le_of_ble_eq_true rfl, Nat.le_of_ble_eq_true rfl⟩) hK (hP.sub [0, 2, 3, 4, 5, 6] rfl) ((hD.sub [0, 2, 3, 4, 5, 6] (by decide) rfl).weaken (fun _ _ _ _ => trivial)) (q0 := 0) rfl rfl rfl rfl hl.1 rfl (lv_room (Nat.le_of_ble_eq_true rfl)) d_D_fault_134 ⟨Nat.zero_le _, Nat.zero_le _⟩ hS hP hD (fun u H locs hw_16 hP hS => ?_)
                  have hP : va_P (dC, dI) classes [cg_D dm 0 np ((ne + 1) + 1) fi kp iA tA oA uA wA sA eA vA yA lA ll mn xA cA zA pA bA fA gA bw bs ps qA rA aA kA lt wt fx, cg_B iA cZ 20 ib, cg_N oA cI 60 (va_up (va_up oe ne jp) (ne + 1) jr), cg_N uA cI 60 (va_up (va_up ot ne jq) (ne + 1) js), cg_N wA cI 60 (va_up (va_up wg ne w) (ne + 1) 0), cg_N sA cI 60 (va_up (va_up sg ne z) (ne + 1) 0), cg_B eA cZ 60 (va_up (va_up ie ne false) (ne + 1) false)] H := hP.sub [1, 0, 2, 3, 4, 5, 6] rfl
                  have hD : va_D A [cg_D dm 0 np ((ne + 1) + 1) fi kp iA tA oA uA wA sA eA vA yA lA ll mn xA cA zA pA bA fA gA bw bs ps qA rA aA kA lt wt fx, cg_B iA cZ 20 ib, cg_N oA cI 60 (va_up (va_up oe ne jp) (ne + 1) jr), cg_N uA cI 60 (va_up (va_up ot ne jq) (ne + 1) js), cg_N wA cI 60 (va_up (va_up wg ne w) (ne + 1) 0), cg_N sA cI 60 (va_up (va_up sg ne z) (ne + 1) 0), cg_B eA cZ 60 (va_up (va_up ie ne false) (ne + 1) false)] := rw_re hD rfl
                  refine lv_aload_n hx hb d_D_fault_137 rfl (lv_at hl 2 rfl) ?_
                  refine va_get (D := (dC, dI)) (ci := 5) (v := .int (nI ((ne + 1) + 1))) (C := R_D) (T := F_D) (N := 34) hx hb hts iD hown hK hP 0 rfl rfl 2 (by decide) (hts _ (List.mem_cons_of_mem _ wk_D_87)) (fun _ h9 => h9) rfl d_D_fault_138 ?_
                  refine lv_iconst (v := nI 2) hx hb d_D_fault_141 (by decide) ?_
                  refine nr_isub (by omega) hx hb d_D_fault_142 ?_
                  exact rw_iret () hx hb hr hlocks hS hP (by rw [show ne + 1 + 1 - 2 = ne by omega]) d_D_fault_143
                · exact False.elim (by first | (rw [hc1] at c_87; cases c_87; done) | (rw [hc2] at c_103; cases c_103; done))
          · exact False.elim (by omega)
      · exact False.elim (by first | exact hx0 c_6 | (exact c_15 (by simpa [ng_fit] using hfit)) | omega)
set_option maxHeartbeats 4000000 in
set_option maxRecDepth 100000 in
theorem c_D_fault_no (l : Launch) (dC : Nat → ClassId) (dI : Nat → Nat → Nat) (cI cL cZ : ClassId) (dm : Nat) (th : Nat) (np : Nat) (ne : Nat) (fi : Int32) (kp : Int64) (iA : Nat) (tA : Nat) (oA : Nat) (uA : Nat) (wA : Nat) (sA : Nat) (eA : Nat) (vA : Nat) (yA : Nat) (lA : Nat) (ll : Nat) (mn : Nat) (xA : Nat) (cA : Nat) (zA : Nat) (pA : Nat) (bA : Nat) (fA : Nat) (gA : Nat) (bw : Nat) (bs : Nat) (ps : Nat) (qA : Nat) (rA : Nat) (aA : Nat) (kA : Nat) (lt : Nat) (wt : Nat) (fx : Int64) (ib : Nat → Bool) (x w z : Int32) (hnp : np ≤ 20) (hne : ne ≤ 60) (hno : ¬ (¬ x < 0 ∧ ng_fit np x = true ∧ (dm_ct (fun i => nb_t x i) 20 = 3 ∨ dm_ct (fun i => nb_t x i) 20 = 4) ∧ ng_cb np ib (ng_nth x 20 0 0) (ng_nth x 20 0 1) w z = true ∧ ng_cb np ib (ng_nth x 20 0 2) (if dm_ct (fun i => nb_t x i) 20 = 4 then ng_nth x 20 0 3 else ng_oi (ng_fst ib np 0)) (nI 0) (nI 0) = true ∧ ne + 2 ≤ 60)) : Met l y_D_fault w_D_fault ({ frames := 2, cells := 0, slots := 0, locals := 45 } : Room) (va_Pc [.ref dm, .int x, .int w, .int z] (rw_B (dC, dI) classes [(cI, .int), (cL, .long), (cZ, .boolean)] [cg_D dm th np ne fi kp iA tA oA uA wA sA eA vA yA lA ll mn xA cA zA pA bA fA gA bw bs ps qA rA aA kA lt wt fx, cg_B iA cZ 20 ib])) (rw_Qi (dC, dI) classes (rw_A [cg_D dm th np ne fi kp iA tA oA uA wA sA eA vA yA lA ll mn xA cA zA pA bA fA gA bw bs ps qA rA aA kA lt wt fx, cg_B iA cZ 20 ib]) (fun r (u : Unit) => r = -1) (fun u => [cg_D dm 0 np ne fi kp iA tA oA uA wA sA eA vA yA lA ll mn xA cA zA pA bA fA gA bw bs ps qA rA aA kA lt wt fx, cg_B iA cZ 20 ib])) 0 0 (rw_A [cg_D dm th np ne fi kp iA tA oA uA wA sA eA vA yA lA ll mn xA cA zA pA bA fA gA bw bs ps qA rA aA kA lt wt fx, cg_B iA cZ 20 ib]) := by
  refine Met.ofW (cc := b_D_fault) (maxL := 6) (ret := (some .int)) (by decide) rfl ?_
  intro p e s m args below meth c s₁ B hml hv
  obtain ⟨rfl, hP, hK, hD0⟩ := hv
  have hx := B.exec
  have hb := B.bytes
  have hr := B.returns
  have hts := atoms_spec (ws := w_D_fault) B.pre
  have hown : s.vm.findClass R_D = some m.cls := findClass_of_methodNamed B.named
  have hlocks := B.notSynchronized
  have iD : ∀ w ∈ w_D, w ∈ w_D_fault := fun w h => List.mem_cons_of_mem _ (i_D w h)
  have hD := rw_own hD0
  generalize hAe : rw_A [cg_D dm th np ne fi kp iA tA oA uA wA sA eA vA yA lA ll mn xA cA zA pA bA fA gA bw bs ps qA rA aA kA lt wt fx, cg_B iA cZ 20 ib] = A at hD ⊢
  have hS : va_S A s.heap s.heap [] := va_S.rf
  have hP : va_P (dC, dI) classes [cg_D dm th np ne fi kp iA tA oA uA wA sA eA vA yA lA ll mn xA cA zA pA bA fA gA bw bs ps qA rA aA kA lt wt fx, cg_B iA cZ 20 ib] s.heap := hP
  have hl := lv_entry ([.ref dm, .int x, .int w, .int z]) (n := 6) (Nat.le_of_ble_eq_true rfl)
  rw [lg_entry_eq]
  generalize (lg_sl ([.ref dm, .int x, .int w, .int z]) ++ List.replicate (6 - (lg_sl ([.ref dm, .int x, .int w, .int z])).length) Slot.unset).toArray = ls at hl ⊢
  have hl : lv_has ls 6 [(0, .ref dm), (1, .int x), (2, .int w), (3, .int z)] := hl
  have hpc := dm_ct_le (P := fun i => nb_t x i) (n := 20)
  refine lv_aload_n hx hb d_D_fault_0 rfl (lv_at hl 0 rfl) ?_
  refine lv_iconst (v := nI 0) hx hb d_D_fault_1 (by decide) ?_
  refine va_put (D := (dC, dI)) (ci := 5) (v := .int (nI 0)) (ty := .int) (C := R_D) (T := F_D) (N := 34) hx hb hts iD t_D t_D_ok n_D hown hK hP hD hS 0 rfl rfl 0 (by decide) (hts _ (List.mem_cons_of_mem _ wk_D_75)) (fun _ h9 => h9) rfl (by decide +kernel) rfl rfl (Nat.le_of_ble_eq_true rfl) d_D_fault_2 (fun H locs hP hD hS => ?_)
  have hP : va_P (dC, dI) classes [cg_D dm 0 np ne fi kp iA tA oA uA wA sA eA vA yA lA ll mn xA cA zA pA bA fA gA bw bs ps qA rA aA kA lt wt fx, cg_B iA cZ 20 ib] H := hP
  have hD : va_D A [cg_D dm 0 np ne fi kp iA tA oA uA wA sA eA vA yA lA ll mn xA cA zA pA bA fA gA bw bs ps qA rA aA kA lt wt fx, cg_B iA cZ 20 ib] := hD
  refine lv_iload_n hx hb d_D_fault_5 rfl (lv_at hl 1 rfl) ?_
  refine lv_if_lt (tgt := 29) hx hb d_D_fault_6 (by decide) (fun c_6 => ?_) (fun c_6 => ?_)
  · refine lv_iconst (v := -1) hx hb d_D_fault_29 (by decide) ?_
    exact rw_iret () hx hb hr hlocks hS hP rfl d_D_fault_30
  · refine lv_iload_n hx hb d_D_fault_9 rfl (lv_at hl 1 rfl) ?_
    refine lv_aload_n hx hb d_D_fault_10 rfl (lv_at hl 0 rfl) ?_
    refine va_get (D := (dC, dI)) (ci := 5) (v := .int (nI np)) (C := R_D) (T := F_D) (N := 34) hx hb hts iD hown hK hP 0 rfl rfl 1 (by decide) (hts _ (List.mem_cons_of_mem _ wk_D_79)) (fun _ h9 => h9) rfl d_D_fault_11 ?_
    refine lv_iushr hx hb d_D_fault_14 rfl ?_
    refine lv_if_ne (tgt := 29) hx hb d_D_fault_15 (by decide) (fun c_15 => ?_) (fun c_15 => ?_)
    · refine lv_iconst (v := -1) hx hb d_D_fault_29 (by decide) ?_
      exact rw_iret () hx hb hr hlocks hS hP rfl d_D_fault_30
    · refine lv_aload_n hx hb d_D_fault_18 rfl (lv_at hl 0 rfl) ?_
      refine va_get (D := (dC, dI)) (ci := 5) (v := .int (nI ne)) (C := R_D) (T := F_D) (N := 34) hx hb hts iD hown hK hP 0 rfl rfl 2 (by decide) (hts _ (List.mem_cons_of_mem _ wk_D_87)) (fun _ h9 => h9) rfl d_D_fault_19 ?_
      refine lv_iconst (v := nI 2) hx hb d_D_fault_22 (by decide) ?_
      refine nr_iadd hx hb d_D_fault_23 ?_
      refine lv_bipush (v := nI 60) hx hb d_D_fault_24 (by decide) ?_
      refine nr_icmp_le (by omega) (by omega) (tgt := 31) hx hb d_D_fault_26 (by decide) (fun c_26 => ?_) (fun c_26 => ?_)
      · refine lv_iload_n hx hb d_D_fault_31 rfl (lv_at hl 1 rfl) ?_
        refine ro_Si (As := [.int x]) (rest := []) ⟨hx, hb, hml, hown, hts⟩ (c_D_count l dC dI cI cL cZ x ) (cwS 1 hts (wg_S wk_D_98 ws_D_count wi_D wc_D_count) rfl rfl rfl (by decide +kernel) ⟨Nat.le_of_ble_eq_true rfl, Nat.le_of_ble_eq_true rfl⟩) hK (hP.sub [] rfl) rfl hl.1 rfl (lv_room (Nat.le_of_ble_eq_true rfl)) d_D_fault_32 ⟨Nat.zero_le _, Nat.zero_le _⟩ hS hP (fun H locs hP hS => ?_)
        refine lv_istore (lv' := [(4, .int (nI (dm_ct (fun i => nb_t x i) 20))), (0, .ref dm), (1, .int x), (2, .int w), (3, .int z)]) hx hb d_D_fault_35 hl (by decide) rfl (fun ls hl => ?_)
        refine lv_iload hx hb d_D_fault_37 (lv_at hl 0 rfl) ?_
        refine lv_iconst (v := nI 3) hx hb d_D_fault_39 (by decide) ?_
        refine nr_icmp_eq (by omega) (by omega) (tgt := 51) hx hb d_D_fault_40 (by decide) (fun c_40 => ?_) (fun c_40 => ?_)
        · refine lv_iload hx hb d_D_fault_51 (lv_at hl 0 rfl) ?_
          refine lv_iconst (v := nI 4) hx hb d_D_fault_53 (by decide) ?_
          refine nr_icmp_ne (by omega) (by omega) (tgt := 65) hx hb d_D_fault_54 (by decide) (fun c_54 => ?_) (fun c_54 => ?_)
          · have e54 : (if dm_ct (fun i => nb_t x i) 20 = 4 then ng_nth x 20 0 3 else ng_oi (ng_fst ib np 0)) = ng_oi (ng_fst ib np 0) := if_neg (by omega)
            refine lv_aload_n hx hb d_D_fault_65 rfl (lv_at hl 1 rfl) ?_
            refine ro_Vi (As := []) (rest := []) ⟨hx, hb, hml, hown, hts⟩ (c_D_firstBoundary l dC dI cI cL cZ dm 0 np ne fi kp iA tA oA uA wA sA eA vA yA lA ll mn xA cA zA pA bA fA gA bw bs ps qA rA aA kA lt wt fx ib (by omega)) (cwV 0 hts (wg_V wk_D_106 wm_D_firstBoundary we_D_firstBoundary wi_D wc_D_firstBoundary) rfl rfl rfl (by decide +kernel) ⟨Nat.le_of_ble_eq_true rfl, Nat.le_of_ble_eq_true rfl⟩) hK (hP.sub [0, 1] rfl) (q0 := 0) rfl rfl rfl rfl hl.1 rfl (lv_room (Nat.le_of_ble_eq_true rfl)) d_D_fault_66 ⟨Nat.zero_le _, Nat.zero_le _⟩ hS hP (fun H locs hP hS => ?_)
            refine lv_istore (lv' := [(5, .int (ng_oi (ng_fst ib np 0))), (4, .int (nI (dm_ct (fun i => nb_t x i) 20))), (0, .ref dm), (1, .int x), (2, .int w), (3, .int z)]) hx hb d_D_fault_69 hl (by decide) rfl (fun ls hl => ?_)
            refine lv_aload_n hx hb d_D_fault_71 rfl (lv_at hl 2 rfl) ?_
            refine lv_iload_n hx hb d_D_fault_72 rfl (lv_at hl 3 rfl) ?_
            refine lv_iconst (v := nI 0) hx hb d_D_fault_73 (by decide) ?_
            refine ro_Si (As := [.int x, .int (nI 0)]) (rest := [.ref dm]) ⟨hx, hb, hml, hown, hts⟩ (c_D_of l dC dI cI cL cZ x 0 (by omega)) (cwS 2 hts (wg_S wk_D_102 ws_D_of wi_D wc_D_of) rfl rfl rfl (by decide +kernel) ⟨Nat.le_of_ble_eq_true rfl, Nat.le_of_ble_eq_true rfl⟩) hK (hP.sub [] rfl) rfl hl.1 rfl (lv_room (Nat.le_of_ble_eq_true rfl)) d_D_fault_74 ⟨Nat.zero_le _, Nat.zero_le _⟩ hS hP (fun H locs hP hS => ?_)
            refine lv_iload_n hx hb d_D_fault_77 rfl (lv_at hl 3 rfl) ?_
            refine lv_iconst (v := nI 1) hx hb d_D_fault_78 (by decide) ?_
            refine ro_Si (As := [.int x, .int (nI 1)]) (rest := [.int (ng_nth x 20 0 0), .ref dm]) ⟨hx, hb, hml, hown, hts⟩ (c_D_of l dC dI cI cL cZ x 1 (by omega)) (cwS 2 hts (wg_S wk_D_102 ws_D_of wi_D wc_D_of) rfl rfl rfl (by decide +kernel) ⟨Nat.le_of_ble_eq_true rfl, Nat.le_of_ble_eq_true rfl⟩) hK (hP.sub [] rfl) rfl hl.1 rfl (lv_room (Nat.le_of_ble_eq_true rfl)) d_D_fault_79 ⟨Nat.zero_le _, Nat.zero_le _⟩ hS hP (fun H locs hP hS => ?_)
            refine lv_iload_n hx hb d_D_fault_82 rfl (lv_at hl 4 rfl) ?_
            refine lv_iload_n hx hb d_D_fault_83 rfl (lv_at hl 5 rfl) ?_
            refine ro_Vi (As := [.int (ng_nth x 20 0 0), .int (ng_nth x 20 0 1), .int w, .int z]) (rest := []) ⟨hx, hb, hml, hown, hts⟩ (c_D_canBe l dC dI cI cL cZ dm 0 np ne fi kp iA tA oA uA wA sA eA vA yA lA ll mn xA cA zA pA bA fA gA bw bs ps qA rA aA kA lt wt fx ib (ng_nth x 20 0 0) (ng_nth x 20 0 1) w z (by omega)) (cwV 4 hts (wg_V wk_D_90 wm_D_canBe we_D_canBe wi_D wc_D_canBe) rfl rfl rfl (by decide +kernel) ⟨Nat.le_of_ble_eq_true rfl, Nat.le_of_ble_eq_true rfl⟩) hK (hP.sub [0, 1] rfl) (q0 := 0) rfl rfl rfl rfl hl.1 rfl (lv_room (Nat.le_of_ble_eq_true rfl)) d_D_fault_84 ⟨Nat.zero_le _, Nat.zero_le _⟩ hS hP (fun H locs hP hS => ?_)
            refine nr_ifeqB (tgt := 106) hx hb d_D_fault_87 (by decide) (fun c_87 => ?_) (fun c_87 => ?_)
            · refine lv_iconst (v := -1) hx hb d_D_fault_106 (by decide) ?_
              exact rw_iret () hx hb hr hlocks hS hP rfl d_D_fault_107
            · refine lv_aload_n hx hb d_D_fault_90 rfl (lv_at hl 2 rfl) ?_
              refine lv_iload_n hx hb d_D_fault_91 rfl (lv_at hl 3 rfl) ?_
              refine lv_iconst (v := nI 2) hx hb d_D_fault_92 (by decide) ?_
              refine ro_Si (As := [.int x, .int (nI 2)]) (rest := [.ref dm]) ⟨hx, hb, hml, hown, hts⟩ (c_D_of l dC dI cI cL cZ x 2 (by omega)) (cwS 2 hts (wg_S wk_D_102 ws_D_of wi_D wc_D_of) rfl rfl rfl (by decide +kernel) ⟨Nat.le_of_ble_eq_true rfl, Nat.le_of_ble_eq_true rfl⟩) hK (hP.sub [] rfl) rfl hl.1 rfl (lv_room (Nat.le_of_ble_eq_true rfl)) d_D_fault_93 ⟨Nat.zero_le _, Nat.zero_le _⟩ hS hP (fun H locs hP hS => ?_)
              refine lv_iload hx hb d_D_fault_96 (lv_at hl 0 rfl) ?_
              refine lv_iconst (v := nI 0) hx hb d_D_fault_98 (by decide) ?_
              refine lv_iconst (v := nI 0) hx hb d_D_fault_99 (by decide) ?_
              refine ro_Vi (As := [.int (ng_nth x 20 0 2), .int (ng_oi (ng_fst ib np 0)), .int (nI 0), .int (nI 0)]) (rest := []) ⟨hx, hb, hml, hown, hts⟩ (c_D_canBe l dC dI cI cL cZ dm 0 np ne fi kp iA tA oA uA wA sA eA vA yA lA ll mn xA cA zA pA bA fA gA bw bs ps qA rA aA kA lt wt fx ib (ng_nth x 20 0 2) (ng_oi (ng_fst ib np 0)) (nI 0) (nI 0) (by omega)) (cwV 4 hts (wg_V wk_D_90 wm_D_canBe we_D_canBe wi_D wc_D_canBe) rfl rfl rfl (by decide +kernel) ⟨Nat.le_of_ble_eq_true rfl, Nat.le_of_ble_eq_true rfl⟩) hK (hP.sub [0, 1] rfl) (q0 := 0) rfl rfl rfl rfl hl.1 rfl (lv_room (Nat.le_of_ble_eq_true rfl)) d_D_fault_100 ⟨Nat.zero_le _, Nat.zero_le _⟩ hS hP (fun H locs hP hS => ?_)
              refine nr_ifneB (tgt := 108) hx hb d_D_fault_103 (by decide) (fun c_103 => ?_) (fun c_103 => ?_)
              · exact False.elim (hno ⟨c_6, by simpa [ng_fit] using c_15, by omega, c_87, by rw [e54]; exact c_103, by omega⟩)
              · refine lv_iconst (v := -1) hx hb d_D_fault_106 (by decide) ?_
                exact rw_iret () hx hb hr hlocks hS hP rfl d_D_fault_107
          · have e54 : (if dm_ct (fun i => nb_t x i) 20 = 4 then ng_nth x 20 0 3 else ng_oi (ng_fst ib np 0)) = ng_nth x 20 0 3 := if_pos (by omega)
            refine lv_iload_n hx hb d_D_fault_57 rfl (lv_at hl 2 rfl) ?_
            refine lv_iconst (v := nI 3) hx hb d_D_fault_58 (by decide) ?_
            refine ro_Si (As := [.int x, .int (nI 3)]) (rest := []) ⟨hx, hb, hml, hown, hts⟩ (c_D_of l dC dI cI cL cZ x 3 (by omega)) (cwS 2 hts (wg_S wk_D_102 ws_D_of wi_D wc_D_of) rfl rfl rfl (by decide +kernel) ⟨Nat.le_of_ble_eq_true rfl, Nat.le_of_ble_eq_true rfl⟩) hK (hP.sub [] rfl) rfl hl.1 rfl (lv_room (Nat.le_of_ble_eq_true rfl)) d_D_fault_59 ⟨Nat.zero_le _, Nat.zero_le _⟩ hS hP (fun H locs hP hS => ?_)
            refine lv_goto (tgt := 69) hx hb d_D_fault_62 (by decide) ?_
            refine lv_istore (lv' := [(5, .int (ng_nth x 20 0 3)), (4, .int (nI (dm_ct (fun i => nb_t x i) 20))), (0, .ref dm), (1, .int x), (2, .int w), (3, .int z)]) hx hb d_D_fault_69 hl (by decide) rfl (fun ls hl => ?_)
            refine lv_aload_n hx hb d_D_fault_71 rfl (lv_at hl 2 rfl) ?_
            refine lv_iload_n hx hb d_D_fault_72 rfl (lv_at hl 3 rfl) ?_
            refine lv_iconst (v := nI 0) hx hb d_D_fault_73 (by decide) ?_
            refine ro_Si (As := [.int x, .int (nI 0)]) (rest := [.ref dm]) ⟨hx, hb, hml, hown, hts⟩ (c_D_of l dC dI cI cL cZ x 0 (by omega)) (cwS 2 hts (wg_S wk_D_102 ws_D_of wi_D wc_D_of) rfl rfl rfl (by decide +kernel) ⟨Nat.le_of_ble_eq_true rfl, Nat.le_of_ble_eq_true rfl⟩) hK (hP.sub [] rfl) rfl hl.1 rfl (lv_room (Nat.le_of_ble_eq_true rfl)) d_D_fault_74 ⟨Nat.zero_le _, Nat.zero_le _⟩ hS hP (fun H locs hP hS => ?_)
            refine lv_iload_n hx hb d_D_fault_77 rfl (lv_at hl 3 rfl) ?_
            refine lv_iconst (v := nI 1) hx hb d_D_fault_78 (by decide) ?_
            refine ro_Si (As := [.int x, .int (nI 1)]) (rest := [.int (ng_nth x 20 0 0), .ref dm]) ⟨hx, hb, hml, hown, hts⟩ (c_D_of l dC dI cI cL cZ x 1 (by omega)) (cwS 2 hts (wg_S wk_D_102 ws_D_of wi_D wc_D_of) rfl rfl rfl (by decide +kernel) ⟨Nat.le_of_ble_eq_true rfl, Nat.le_of_ble_eq_true rfl⟩) hK (hP.sub [] rfl) rfl hl.1 rfl (lv_room (Nat.le_of_ble_eq_true rfl)) d_D_fault_79 ⟨Nat.zero_le _, Nat.zero_le _⟩ hS hP (fun H locs hP hS => ?_)
            refine lv_iload_n hx hb d_D_fault_82 rfl (lv_at hl 4 rfl) ?_
            refine lv_iload_n hx hb d_D_fault_83 rfl (lv_at hl 5 rfl) ?_
            refine ro_Vi (As := [.int (ng_nth x 20 0 0), .int (ng_nth x 20 0 1), .int w, .int z]) (rest := []) ⟨hx, hb, hml, hown, hts⟩ (c_D_canBe l dC dI cI cL cZ dm 0 np ne fi kp iA tA oA uA wA sA eA vA yA lA ll mn xA cA zA pA bA fA gA bw bs ps qA rA aA kA lt wt fx ib (ng_nth x 20 0 0) (ng_nth x 20 0 1) w z (by omega)) (cwV 4 hts (wg_V wk_D_90 wm_D_canBe we_D_canBe wi_D wc_D_canBe) rfl rfl rfl (by decide +kernel) ⟨Nat.le_of_ble_eq_true rfl, Nat.le_of_ble_eq_true rfl⟩) hK (hP.sub [0, 1] rfl) (q0 := 0) rfl rfl rfl rfl hl.1 rfl (lv_room (Nat.le_of_ble_eq_true rfl)) d_D_fault_84 ⟨Nat.zero_le _, Nat.zero_le _⟩ hS hP (fun H locs hP hS => ?_)
            refine nr_ifeqB (tgt := 106) hx hb d_D_fault_87 (by decide) (fun c_87 => ?_) (fun c_87 => ?_)
            · refine lv_iconst (v := -1) hx hb d_D_fault_106 (by decide) ?_
              exact rw_iret () hx hb hr hlocks hS hP rfl d_D_fault_107
            · refine lv_aload_n hx hb d_D_fault_90 rfl (lv_at hl 2 rfl) ?_
              refine lv_iload_n hx hb d_D_fault_91 rfl (lv_at hl 3 rfl) ?_
              refine lv_iconst (v := nI 2) hx hb d_D_fault_92 (by decide) ?_
              refine ro_Si (As := [.int x, .int (nI 2)]) (rest := [.ref dm]) ⟨hx, hb, hml, hown, hts⟩ (c_D_of l dC dI cI cL cZ x 2 (by omega)) (cwS 2 hts (wg_S wk_D_102 ws_D_of wi_D wc_D_of) rfl rfl rfl (by decide +kernel) ⟨Nat.le_of_ble_eq_true rfl, Nat.le_of_ble_eq_true rfl⟩) hK (hP.sub [] rfl) rfl hl.1 rfl (lv_room (Nat.le_of_ble_eq_true rfl)) d_D_fault_93 ⟨Nat.zero_le _, Nat.zero_le _⟩ hS hP (fun H locs hP hS => ?_)
              refine lv_iload hx hb d_D_fault_96 (lv_at hl 0 rfl) ?_
              refine lv_iconst (v := nI 0) hx hb d_D_fault_98 (by decide) ?_
              refine lv_iconst (v := nI 0) hx hb d_D_fault_99 (by decide) ?_
              refine ro_Vi (As := [.int (ng_nth x 20 0 2), .int (ng_nth x 20 0 3), .int (nI 0), .int (nI 0)]) (rest := []) ⟨hx, hb, hml, hown, hts⟩ (c_D_canBe l dC dI cI cL cZ dm 0 np ne fi kp iA tA oA uA wA sA eA vA yA lA ll mn xA cA zA pA bA fA gA bw bs ps qA rA aA kA lt wt fx ib (ng_nth x 20 0 2) (ng_nth x 20 0 3) (nI 0) (nI 0) (by omega)) (cwV 4 hts (wg_V wk_D_90 wm_D_canBe we_D_canBe wi_D wc_D_canBe) rfl rfl rfl (by decide +kernel) ⟨Nat.le_of_ble_eq_true rfl, Nat.le_of_ble_eq_true rfl⟩) hK (hP.sub [0, 1] rfl) (q0 := 0) rfl rfl rfl rfl hl.1 rfl (lv_room (Nat.le_of_ble_eq_true rfl)) d_D_fault_100 ⟨Nat.zero_le _, Nat.zero_le _⟩ hS hP (fun H locs hP hS => ?_)
              refine nr_ifneB (tgt := 108) hx hb d_D_fault_103 (by decide) (fun c_103 => ?_) (fun c_103 => ?_)
              · exact False.elim (hno ⟨c_6, by simpa [ng_fit] using c_15, by omega, c_87, by rw [e54]; exact c_103, by omega⟩)
              · refine lv_iconst (v := -1) hx hb d_D_fault_106 (by decide) ?_
                exact rw_iret () hx hb hr hlocks hS hP rfl d_D_fault_107
        · refine lv_iload hx hb d_D_fault_43 (lv_at hl 0 rfl) ?_
          refine lv_iconst (v := nI 4) hx hb d_D_fault_45 (by decide) ?_
          refine nr_icmp_eq (by omega) (by omega) (tgt := 51) hx hb d_D_fault_46 (by decide) (fun c_46 => ?_) (fun c_46 => ?_)
          · refine lv_iload hx hb d_D_fault_51 (lv_at hl 0 rfl) ?_
            refine lv_iconst (v := nI 4) hx hb d_D_fault_53 (by decide) ?_
            refine nr_icmp_ne (by omega) (by omega) (tgt := 65) hx hb d_D_fault_54 (by decide) (fun c_54 => ?_) (fun c_54 => ?_)
            · have e54 : (if dm_ct (fun i => nb_t x i) 20 = 4 then ng_nth x 20 0 3 else ng_oi (ng_fst ib np 0)) = ng_oi (ng_fst ib np 0) := if_neg (by omega)
              refine lv_aload_n hx hb d_D_fault_65 rfl (lv_at hl 1 rfl) ?_
              refine ro_Vi (As := []) (rest := []) ⟨hx, hb, hml, hown, hts⟩ (c_D_firstBoundary l dC dI cI cL cZ dm 0 np ne fi kp iA tA oA uA wA sA eA vA yA lA ll mn xA cA zA pA bA fA gA bw bs ps qA rA aA kA lt wt fx ib (by omega)) (cwV 0 hts (wg_V wk_D_106 wm_D_firstBoundary we_D_firstBoundary wi_D wc_D_firstBoundary) rfl rfl rfl (by decide +kernel) ⟨Nat.le_of_ble_eq_true rfl, Nat.le_of_ble_eq_true rfl⟩) hK (hP.sub [0, 1] rfl) (q0 := 0) rfl rfl rfl rfl hl.1 rfl (lv_room (Nat.le_of_ble_eq_true rfl)) d_D_fault_66 ⟨Nat.zero_le _, Nat.zero_le _⟩ hS hP (fun H locs hP hS => ?_)
              refine lv_istore (lv' := [(5, .int (ng_oi (ng_fst ib np 0))), (4, .int (nI (dm_ct (fun i => nb_t x i) 20))), (0, .ref dm), (1, .int x), (2, .int w), (3, .int z)]) hx hb d_D_fault_69 hl (by decide) rfl (fun ls hl => ?_)
              refine lv_aload_n hx hb d_D_fault_71 rfl (lv_at hl 2 rfl) ?_
              refine lv_iload_n hx hb d_D_fault_72 rfl (lv_at hl 3 rfl) ?_
              refine lv_iconst (v := nI 0) hx hb d_D_fault_73 (by decide) ?_
              refine ro_Si (As := [.int x, .int (nI 0)]) (rest := [.ref dm]) ⟨hx, hb, hml, hown, hts⟩ (c_D_of l dC dI cI cL cZ x 0 (by omega)) (cwS 2 hts (wg_S wk_D_102 ws_D_of wi_D wc_D_of) rfl rfl rfl (by decide +kernel) ⟨Nat.le_of_ble_eq_true rfl, Nat.le_of_ble_eq_true rfl⟩) hK (hP.sub [] rfl) rfl hl.1 rfl (lv_room (Nat.le_of_ble_eq_true rfl)) d_D_fault_74 ⟨Nat.zero_le _, Nat.zero_le _⟩ hS hP (fun H locs hP hS => ?_)
              refine lv_iload_n hx hb d_D_fault_77 rfl (lv_at hl 3 rfl) ?_
              refine lv_iconst (v := nI 1) hx hb d_D_fault_78 (by decide) ?_
              refine ro_Si (As := [.int x, .int (nI 1)]) (rest := [.int (ng_nth x 20 0 0), .ref dm]) ⟨hx, hb, hml, hown, hts⟩ (c_D_of l dC dI cI cL cZ x 1 (by omega)) (cwS 2 hts (wg_S wk_D_102 ws_D_of wi_D wc_D_of) rfl rfl rfl (by decide +kernel) ⟨Nat.le_of_ble_eq_true rfl, Nat.le_of_ble_eq_true rfl⟩) hK (hP.sub [] rfl) rfl hl.1 rfl (lv_room (Nat.le_of_ble_eq_true rfl)) d_D_fault_79 ⟨Nat.zero_le _, Nat.zero_le _⟩ hS hP (fun H locs hP hS => ?_)
              refine lv_iload_n hx hb d_D_fault_82 rfl (lv_at hl 4 rfl) ?_
              refine lv_iload_n hx hb d_D_fault_83 rfl (lv_at hl 5 rfl) ?_
              refine ro_Vi (As := [.int (ng_nth x 20 0 0), .int (ng_nth x 20 0 1), .int w, .int z]) (rest := []) ⟨hx, hb, hml, hown, hts⟩ (c_D_canBe l dC dI cI cL cZ dm 0 np ne fi kp iA tA oA uA wA sA eA vA yA lA ll mn xA cA zA pA bA fA gA bw bs ps qA rA aA kA lt wt fx ib (ng_nth x 20 0 0) (ng_nth x 20 0 1) w z (by omega)) (cwV 4 hts (wg_V wk_D_90 wm_D_canBe we_D_canBe wi_D wc_D_canBe) rfl rfl rfl (by decide +kernel) ⟨Nat.le_of_ble_eq_true rfl, Nat.le_of_ble_eq_true rfl⟩) hK (hP.sub [0, 1] rfl) (q0 := 0) rfl rfl rfl rfl hl.1 rfl (lv_room (Nat.le_of_ble_eq_true rfl)) d_D_fault_84 ⟨Nat.zero_le _, Nat.zero_le _⟩ hS hP (fun H locs hP hS => ?_)
              refine nr_ifeqB (tgt := 106) hx hb d_D_fault_87 (by decide) (fun c_87 => ?_) (fun c_87 => ?_)
              · refine lv_iconst (v := -1) hx hb d_D_fault_106 (by decide) ?_
                exact rw_iret () hx hb hr hlocks hS hP rfl d_D_fault_107
              · refine lv_aload_n hx hb d_D_fault_90 rfl (lv_at hl 2 rfl) ?_
                refine lv_iload_n hx hb d_D_fault_91 rfl (lv_at hl 3 rfl) ?_
                refine lv_iconst (v := nI 2) hx hb d_D_fault_92 (by decide) ?_
                refine ro_Si (As := [.int x, .int (nI 2)]) (rest := [.ref dm]) ⟨hx, hb, hml, hown, hts⟩ (c_D_of l dC dI cI cL cZ x 2 (by omega)) (cwS 2 hts (wg_S wk_D_102 ws_D_of wi_D wc_D_of) rfl rfl rfl (by decide +kernel) ⟨Nat.le_of_ble_eq_true rfl, Nat.le_of_ble_eq_true rfl⟩) hK (hP.sub [] rfl) rfl hl.1 rfl (lv_room (Nat.le_of_ble_eq_true rfl)) d_D_fault_93 ⟨Nat.zero_le _, Nat.zero_le _⟩ hS hP (fun H locs hP hS => ?_)
                refine lv_iload hx hb d_D_fault_96 (lv_at hl 0 rfl) ?_
                refine lv_iconst (v := nI 0) hx hb d_D_fault_98 (by decide) ?_
                refine lv_iconst (v := nI 0) hx hb d_D_fault_99 (by decide) ?_
                refine ro_Vi (As := [.int (ng_nth x 20 0 2), .int (ng_oi (ng_fst ib np 0)), .int (nI 0), .int (nI 0)]) (rest := []) ⟨hx, hb, hml, hown, hts⟩ (c_D_canBe l dC dI cI cL cZ dm 0 np ne fi kp iA tA oA uA wA sA eA vA yA lA ll mn xA cA zA pA bA fA gA bw bs ps qA rA aA kA lt wt fx ib (ng_nth x 20 0 2) (ng_oi (ng_fst ib np 0)) (nI 0) (nI 0) (by omega)) (cwV 4 hts (wg_V wk_D_90 wm_D_canBe we_D_canBe wi_D wc_D_canBe) rfl rfl rfl (by decide +kernel) ⟨Nat.le_of_ble_eq_true rfl, Nat.le_of_ble_eq_true rfl⟩) hK (hP.sub [0, 1] rfl) (q0 := 0) rfl rfl rfl rfl hl.1 rfl (lv_room (Nat.le_of_ble_eq_true rfl)) d_D_fault_100 ⟨Nat.zero_le _, Nat.zero_le _⟩ hS hP (fun H locs hP hS => ?_)
                refine nr_ifneB (tgt := 108) hx hb d_D_fault_103 (by decide) (fun c_103 => ?_) (fun c_103 => ?_)
                · exact False.elim (hno ⟨c_6, by simpa [ng_fit] using c_15, by omega, c_87, by rw [e54]; exact c_103, by omega⟩)
                · refine lv_iconst (v := -1) hx hb d_D_fault_106 (by decide) ?_
                  exact rw_iret () hx hb hr hlocks hS hP rfl d_D_fault_107
            · have e54 : (if dm_ct (fun i => nb_t x i) 20 = 4 then ng_nth x 20 0 3 else ng_oi (ng_fst ib np 0)) = ng_nth x 20 0 3 := if_pos (by omega)
              refine lv_iload_n hx hb d_D_fault_57 rfl (lv_at hl 2 rfl) ?_
              refine lv_iconst (v := nI 3) hx hb d_D_fault_58 (by decide) ?_
              refine ro_Si (As := [.int x, .int (nI 3)]) (rest := []) ⟨hx, hb, hml, hown, hts⟩ (c_D_of l dC dI cI cL cZ x 3 (by omega)) (cwS 2 hts (wg_S wk_D_102 ws_D_of wi_D wc_D_of) rfl rfl rfl (by decide +kernel) ⟨Nat.le_of_ble_eq_true rfl, Nat.le_of_ble_eq_true rfl⟩) hK (hP.sub [] rfl) rfl hl.1 rfl (lv_room (Nat.le_of_ble_eq_true rfl)) d_D_fault_59 ⟨Nat.zero_le _, Nat.zero_le _⟩ hS hP (fun H locs hP hS => ?_)
              refine lv_goto (tgt := 69) hx hb d_D_fault_62 (by decide) ?_
              refine lv_istore (lv' := [(5, .int (ng_nth x 20 0 3)), (4, .int (nI (dm_ct (fun i => nb_t x i) 20))), (0, .ref dm), (1, .int x), (2, .int w), (3, .int z)]) hx hb d_D_fault_69 hl (by decide) rfl (fun ls hl => ?_)
              refine lv_aload_n hx hb d_D_fault_71 rfl (lv_at hl 2 rfl) ?_
              refine lv_iload_n hx hb d_D_fault_72 rfl (lv_at hl 3 rfl) ?_
              refine lv_iconst (v := nI 0) hx hb d_D_fault_73 (by decide) ?_
              refine ro_Si (As := [.int x, .int (nI 0)]) (rest := [.ref dm]) ⟨hx, hb, hml, hown, hts⟩ (c_D_of l dC dI cI cL cZ x 0 (by omega)) (cwS 2 hts (wg_S wk_D_102 ws_D_of wi_D wc_D_of) rfl rfl rfl (by decide +kernel) ⟨Nat.le_of_ble_eq_true rfl, Nat.le_of_ble_eq_true rfl⟩) hK (hP.sub [] rfl) rfl hl.1 rfl (lv_room (Nat.le_of_ble_eq_true rfl)) d_D_fault_74 ⟨Nat.zero_le _, Nat.zero_le _⟩ hS hP (fun H locs hP hS => ?_)
              refine lv_iload_n hx hb d_D_fault_77 rfl (lv_at hl 3 rfl) ?_
              refine lv_iconst (v := nI 1) hx hb d_D_fault_78 (by decide) ?_
              refine ro_Si (As := [.int x, .int (nI 1)]) (rest := [.int (ng_nth x 20 0 0), .ref dm]) ⟨hx, hb, hml, hown, hts⟩ (c_D_of l dC dI cI cL cZ x 1 (by omega)) (cwS 2 hts (wg_S wk_D_102 ws_D_of wi_D wc_D_of) rfl rfl rfl (by decide +kernel) ⟨Nat.le_of_ble_eq_true rfl, Nat.le_of_ble_eq_true rfl⟩) hK (hP.sub [] rfl) rfl hl.1 rfl (lv_room (Nat.le_of_ble_eq_true rfl)) d_D_fault_79 ⟨Nat.zero_le _, Nat.zero_le _⟩ hS hP (fun H locs hP hS => ?_)
              refine lv_iload_n hx hb d_D_fault_82 rfl (lv_at hl 4 rfl) ?_
              refine lv_iload_n hx hb d_D_fault_83 rfl (lv_at hl 5 rfl) ?_
              refine ro_Vi (As := [.int (ng_nth x 20 0 0), .int (ng_nth x 20 0 1), .int w, .int z]) (rest := []) ⟨hx, hb, hml, hown, hts⟩ (c_D_canBe l dC dI cI cL cZ dm 0 np ne fi kp iA tA oA uA wA sA eA vA yA lA ll mn xA cA zA pA bA fA gA bw bs ps qA rA aA kA lt wt fx ib (ng_nth x 20 0 0) (ng_nth x 20 0 1) w z (by omega)) (cwV 4 hts (wg_V wk_D_90 wm_D_canBe we_D_canBe wi_D wc_D_canBe) rfl rfl rfl (by decide +kernel) ⟨Nat.le_of_ble_eq_true rfl, Nat.le_of_ble_eq_true rfl⟩) hK (hP.sub [0, 1] rfl) (q0 := 0) rfl rfl rfl rfl hl.1 rfl (lv_room (Nat.le_of_ble_eq_true rfl)) d_D_fault_84 ⟨Nat.zero_le _, Nat.zero_le _⟩ hS hP (fun H locs hP hS => ?_)
              refine nr_ifeqB (tgt := 106) hx hb d_D_fault_87 (by decide) (fun c_87 => ?_) (fun c_87 => ?_)
              · refine lv_iconst (v := -1) hx hb d_D_fault_106 (by decide) ?_
                exact rw_iret () hx hb hr hlocks hS hP rfl d_D_fault_107
              · refine lv_aload_n hx hb d_D_fault_90 rfl (lv_at hl 2 rfl) ?_
                refine lv_iload_n hx hb d_D_fault_91 rfl (lv_at hl 3 rfl) ?_
                refine lv_iconst (v := nI 2) hx hb d_D_fault_92 (by decide) ?_
                refine ro_Si (As := [.int x, .int (nI 2)]) (rest := [.ref dm]) ⟨hx, hb, hml, hown, hts⟩ (c_D_of l dC dI cI cL cZ x 2 (by omega)) (cwS 2 hts (wg_S wk_D_102 ws_D_of wi_D wc_D_of) rfl rfl rfl (by decide +kernel) ⟨Nat.le_of_ble_eq_true rfl, Nat.le_of_ble_eq_true rfl⟩) hK (hP.sub [] rfl) rfl hl.1 rfl (lv_room (Nat.le_of_ble_eq_true rfl)) d_D_fault_93 ⟨Nat.zero_le _, Nat.zero_le _⟩ hS hP (fun H locs hP hS => ?_)
                refine lv_iload hx hb d_D_fault_96 (lv_at hl 0 rfl) ?_
                refine lv_iconst (v := nI 0) hx hb d_D_fault_98 (by decide) ?_
                refine lv_iconst (v := nI 0) hx hb d_D_fault_99 (by decide) ?_
                refine ro_Vi (As := [.int (ng_nth x 20 0 2), .int (ng_nth x 20 0 3), .int (nI 0), .int (nI 0)]) (rest := []) ⟨hx, hb, hml, hown, hts⟩ (c_D_canBe l dC dI cI cL cZ dm 0 np ne fi kp iA tA oA uA wA sA eA vA yA lA ll mn xA cA zA pA bA fA gA bw bs ps qA rA aA kA lt wt fx ib (ng_nth x 20 0 2) (ng_nth x 20 0 3) (nI 0) (nI 0) (by omega)) (cwV 4 hts (wg_V wk_D_90 wm_D_canBe we_D_canBe wi_D wc_D_canBe) rfl rfl rfl (by decide +kernel) ⟨Nat.le_of_ble_eq_true rfl, Nat.le_of_ble_eq_true rfl⟩) hK (hP.sub [0, 1] rfl) (q0 := 0) rfl rfl rfl rfl hl.1 rfl (lv_room (Nat.le_of_ble_eq_true rfl)) d_D_fault_100 ⟨Nat.zero_le _, Nat.zero_le _⟩ hS hP (fun H locs hP hS => ?_)
                refine nr_ifneB (tgt := 108) hx hb d_D_fault_103 (by decide) (fun c_103 => ?_) (fun c_103 => ?_)
                · exact False.elim (hno ⟨c_6, by simpa [ng_fit] using c_15, by omega, c_87, by rw [e54]; exact c_103, by omega⟩)
                · refine lv_iconst (v := -1) hx hb d_D_fault_106 (by decide) ?_
                  exact rw_iret () hx hb hr hlocks hS hP rfl d_D_fault_107
          · refine lv_iconst (v := -1) hx hb d_D_fault_49 (by decide) ?_
            exact rw_iret () hx hb hr hlocks hS hP rfl d_D_fault_50
      · refine lv_iconst (v := -1) hx hb d_D_fault_29 (by decide) ?_
        exact rw_iret () hx hb hr hlocks hS hP rfl d_D_fault_30
