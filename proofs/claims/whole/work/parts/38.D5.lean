set_option maxHeartbeats 4000000 in
set_option maxRecDepth 100000 in
theorem c_D_way_no (l : Launch) (dC : Nat → ClassId) (dI : Nat → Nat → Nat) (cI cL cZ : ClassId) (dm : Nat) (th : Nat) (np : Nat) (ne : Nat) (fi : Int32) (kp : Int64) (iA : Nat) (tA : Nat) (oA : Nat) (uA : Nat) (wA : Nat) (sA : Nat) (eA : Nat) (vA : Nat) (yA : Nat) (lA : Nat) (ll : Nat) (mn : Nat) (xA : Nat) (cA : Nat) (zA : Nat) (pA : Nat) (bA : Nat) (fA : Nat) (gA : Nat) (bw : Nat) (bs : Nat) (ps : Nat) (qA : Nat) (rA : Nat) (aA : Nat) (kA : Nat) (lt : Nat) (wt : Nat) (fx : Int64) (a b x : Int32) (hno : ¬ (nb_in np a = true ∧ nb_in np b = true ∧ a ≠ b ∧ ¬ x < 0)) : Met l y_D_way w_D_way ({ frames := 4, cells := 0, slots := 0, locals := 98 } : Room) (va_Pc [.ref dm, .int a, .int b, .int x] (rw_B (dC, dI) classes [(cI, .int), (cL, .long), (cZ, .boolean)] [cg_D dm th np ne fi kp iA tA oA uA wA sA eA vA yA lA ll mn xA cA zA pA bA fA gA bw bs ps qA rA aA kA lt wt fx])) (rw_Qi (dC, dI) classes (rw_A [cg_D dm th np ne fi kp iA tA oA uA wA sA eA vA yA lA ll mn xA cA zA pA bA fA gA bw bs ps qA rA aA kA lt wt fx]) (fun r (u : Unit) => r = -1) (fun u => [cg_D dm 0 np ne fi kp iA tA oA uA wA sA eA vA yA lA ll mn xA cA zA pA bA fA gA bw bs ps qA rA aA kA lt wt fx])) 0 0 (rw_A [cg_D dm th np ne fi kp iA tA oA uA wA sA eA vA yA lA ll mn xA cA zA pA bA fA gA bw bs ps qA rA aA kA lt wt fx]) := by
  refine Met.ofW (cc := b_D_way) (maxL := 5) (ret := (some .int)) (by decide) rfl ?_
  intro p e s m args below meth c s₁ B hml hv
  obtain ⟨rfl, hP, hK, hD0⟩ := hv
  have hx := B.exec
  have hb := B.bytes
  have hr := B.returns
  have hts := atoms_spec (ws := w_D_way) B.pre
  have hown : s.vm.findClass R_D = some m.cls := findClass_of_methodNamed B.named
  have hlocks := B.notSynchronized
  have iD : ∀ w ∈ w_D, w ∈ w_D_way := fun w h => List.mem_cons_of_mem _ (i_D w h)
  have hD := rw_own hD0
  generalize hAe : rw_A [cg_D dm th np ne fi kp iA tA oA uA wA sA eA vA yA lA ll mn xA cA zA pA bA fA gA bw bs ps qA rA aA kA lt wt fx] = A at hD ⊢
  have hS : va_S A s.heap s.heap [] := va_S.rf
  have hP : va_P (dC, dI) classes [cg_D dm th np ne fi kp iA tA oA uA wA sA eA vA yA lA ll mn xA cA zA pA bA fA gA bw bs ps qA rA aA kA lt wt fx] s.heap := hP
  have hl := lv_entry ([.ref dm, .int a, .int b, .int x]) (n := 5) (Nat.le_of_ble_eq_true rfl)
  rw [lg_entry_eq]
  generalize (lg_sl ([.ref dm, .int a, .int b, .int x]) ++ List.replicate (5 - (lg_sl ([.ref dm, .int a, .int b, .int x])).length) Slot.unset).toArray = ls at hl ⊢
  have hl : lv_has ls 5 [(0, .ref dm), (1, .int a), (2, .int b), (3, .int x)] := hl
  refine lv_aload_n hx hb d_D_way_0 rfl (lv_at hl 0 rfl) ?_
  refine lv_iconst (v := nI 0) hx hb d_D_way_1 (by decide) ?_
  refine va_put (D := (dC, dI)) (ci := 5) (v := .int (nI 0)) (ty := .int) (C := R_D) (T := F_D) (N := 34) hx hb hts iD t_D t_D_ok n_D hown hK hP hD hS 0 rfl rfl 0 (by decide) (hts _ (List.mem_cons_of_mem _ wk_D_75)) (fun _ h9 => h9) rfl (by decide +kernel) rfl rfl (Nat.le_of_ble_eq_true rfl) d_D_way_2 (fun H locs hP hD hS => ?_)
  have hP : va_P (dC, dI) classes [cg_D dm 0 np ne fi kp iA tA oA uA wA sA eA vA yA lA ll mn xA cA zA pA bA fA gA bw bs ps qA rA aA kA lt wt fx] H := hP
  have hD : va_D A [cg_D dm 0 np ne fi kp iA tA oA uA wA sA eA vA yA lA ll mn xA cA zA pA bA fA gA bw bs ps qA rA aA kA lt wt fx] := hD
  refine lv_aload_n hx hb d_D_way_5 rfl (lv_at hl 0 rfl) ?_
  refine lv_iload_n hx hb d_D_way_6 rfl (lv_at hl 1 rfl) ?_
  refine ro_Vi (As := [.int a]) (rest := []) ⟨hx, hb, hml, hown, hts⟩ (c_D_isPoint l dC dI cI cL cZ dm 0 np ne fi kp iA tA oA uA wA sA eA vA yA lA ll mn xA cA zA pA bA fA gA bw bs ps qA rA aA kA lt wt fx a ) (cwV 1 hts (wg_V wk_D_82 wm_D_isPoint we_D_isPoint wi_D wc_D_isPoint) rfl rfl rfl (by decide +kernel) ⟨Nat.le_of_ble_eq_true rfl, Nat.le_of_ble_eq_true rfl⟩) hK (hP.sub [0] rfl) (q0 := 0) rfl rfl rfl rfl hl.1 rfl (lv_room (Nat.le_of_ble_eq_true rfl)) d_D_way_7 ⟨Nat.zero_le _, Nat.zero_le _⟩ hS hP (fun H locs hP hS => ?_)
  refine nr_ifeqB (tgt := 39) hx hb d_D_way_10 (by decide) (fun c_10 => ?_) (fun c_10 => ?_)
  · refine lv_iconst (v := -1) hx hb d_D_way_39 (by decide) ?_
    exact rw_iret () hx hb hr hlocks hS hP rfl d_D_way_40
  · refine lv_aload_n hx hb d_D_way_13 rfl (lv_at hl 0 rfl) ?_
    refine lv_iload_n hx hb d_D_way_14 rfl (lv_at hl 2 rfl) ?_
    refine ro_Vi (As := [.int b]) (rest := []) ⟨hx, hb, hml, hown, hts⟩ (c_D_isPoint l dC dI cI cL cZ dm 0 np ne fi kp iA tA oA uA wA sA eA vA yA lA ll mn xA cA zA pA bA fA gA bw bs ps qA rA aA kA lt wt fx b ) (cwV 1 hts (wg_V wk_D_82 wm_D_isPoint we_D_isPoint wi_D wc_D_isPoint) rfl rfl rfl (by decide +kernel) ⟨Nat.le_of_ble_eq_true rfl, Nat.le_of_ble_eq_true rfl⟩) hK (hP.sub [0] rfl) (q0 := 0) rfl rfl rfl rfl hl.1 rfl (lv_room (Nat.le_of_ble_eq_true rfl)) d_D_way_15 ⟨Nat.zero_le _, Nat.zero_le _⟩ hS hP (fun H locs hP hS => ?_)
    refine nr_ifeqB (tgt := 39) hx hb d_D_way_18 (by decide) (fun c_18 => ?_) (fun c_18 => ?_)
    · refine lv_iconst (v := -1) hx hb d_D_way_39 (by decide) ?_
      exact rw_iret () hx hb hr hlocks hS hP rfl d_D_way_40
    · refine lv_iload_n hx hb d_D_way_21 rfl (lv_at hl 1 rfl) ?_
      refine lv_iload_n hx hb d_D_way_22 rfl (lv_at hl 2 rfl) ?_
      refine lv_icmp_eq (tgt := 39) hx hb d_D_way_23 (by decide) (fun c_23 => ?_) (fun c_23 => ?_)
      · refine lv_iconst (v := -1) hx hb d_D_way_39 (by decide) ?_
        exact rw_iret () hx hb hr hlocks hS hP rfl d_D_way_40
      · refine lv_iload_n hx hb d_D_way_26 rfl (lv_at hl 3 rfl) ?_
        refine lv_if_lt (tgt := 39) hx hb d_D_way_27 (by decide) (fun c_27 => ?_) (fun c_27 => ?_)
        · refine lv_iconst (v := -1) hx hb d_D_way_39 (by decide) ?_
          exact rw_iret () hx hb hr hlocks hS hP rfl d_D_way_40
        · exact False.elim (hno ⟨c_10, c_18, c_23, c_27⟩)
set_option maxHeartbeats 4000000 in
set_option maxRecDepth 100000 in
theorem c_D_way_lt (l : Launch) (dC : Nat → ClassId) (dI : Nat → Nat → Nat) (cI cL cZ : ClassId) (dm : Nat) (th : Nat) (np : Nat) (ne : Nat) (fi : Int32) (kp : Int64) (iA : Nat) (tA : Nat) (oA : Nat) (uA : Nat) (wA : Nat) (sA : Nat) (eA : Nat) (vA : Nat) (yA : Nat) (lA : Nat) (ll : Nat) (mn : Nat) (xA : Nat) (cA : Nat) (zA : Nat) (pA : Nat) (bA : Nat) (fA : Nat) (gA : Nat) (bw : Nat) (bs : Nat) (ps : Nat) (qA : Nat) (rA : Nat) (aA : Nat) (kA : Nat) (lt : Nat) (wt : Nat) (fx : Int64) (ib : Nat → Bool) (oe ot wg : Nat → Nat) (ie : Nat → Bool) (wo eo : Nat → Option Nat) (la : Nat → Nat) (a b : Nat) (x : Int32) (hnp : np ≤ 20) (hne : ne ≤ 60) (hE : ∀ i, i < ne → oe i < np ∧ ot i < np) (hdf : ∀ i, i < ne → oe i ≠ ot i) (hhv : ∀ i, i < ne → ng_hv ie wg i ≤ 1000000) (ha : a < np) (hb1 : b < np) (hab : a < b) (hx0 : ¬ x < 0) : Met l y_D_way w_D_way ({ frames := 4, cells := 0, slots := 0, locals := 98 } : Room) (va_Pc [.ref dm, .int (nI a), .int (nI b), .int x] (rw_B (dC, dI) classes [(cI, .int), (cL, .long), (cZ, .boolean)] [cg_D dm th np ne fi kp iA tA oA uA wA sA eA vA yA lA ll mn xA cA zA pA bA fA gA bw bs ps qA rA aA kA lt wt fx, cg_B iA cZ 20 ib, cg_N oA cI 60 oe, cg_N uA cI 60 ot, cg_N wA cI 60 wg, cg_B eA cZ 60 ie, cg_O vA cI 20 wo, cg_O yA cI 20 eo, cg_N lA cI 60 la])) (rw_Qi (dC, dI) classes (rw_A [cg_D dm th np ne fi kp iA tA oA uA wA sA eA vA yA lA ll mn xA cA zA pA bA fA gA bw bs ps qA rA aA kA lt wt fx, cg_B iA cZ 20 ib, cg_N oA cI 60 oe, cg_N uA cI 60 ot, cg_N wA cI 60 wg, cg_B eA cZ 60 ie, cg_O vA cI 20 wo, cg_O yA cI 20 eo, cg_N lA cI 60 la]) (fun r (u : (Nat → Option Nat) × (Nat → Option Nat) × (Nat) × (Nat → Nat)) => ng_T ne b ib oe ot (ng_hv ie wg) u.1 u.2.1 ∧ r = (match u.1 a with | none => -1 | some w => if x = 0 then nI w else if x = nI 1 then nI (ng_path (ng_nxD u.1 u.2.1 ib oe ot (ng_hv ie wg) ne b) b 20 a).length else ng_te (ng_path (ng_nxD u.1 u.2.1 ib oe ot (ng_hv ie wg) ne b) b 20 a).length (fun i => (ng_path (ng_nxD u.1 u.2.1 ib oe ot (ng_hv ie wg) ne b) b 20 a).getD i 0) (x - nI 2) false)) (fun u => [cg_D dm 0 np ne fi kp iA tA oA uA wA sA eA vA yA lA u.2.2.1 mn xA cA zA pA bA fA gA bw bs ps qA rA aA kA lt wt fx, cg_B iA cZ 20 ib, cg_N oA cI 60 oe, cg_N uA cI 60 ot, cg_N wA cI 60 wg, cg_B eA cZ 60 ie, cg_O vA cI 20 u.1, cg_O yA cI 20 u.2.1, cg_N lA cI 60 u.2.2.2])) 0 0 (rw_A [cg_D dm th np ne fi kp iA tA oA uA wA sA eA vA yA lA ll mn xA cA zA pA bA fA gA bw bs ps qA rA aA kA lt wt fx, cg_B iA cZ 20 ib, cg_N oA cI 60 oe, cg_N uA cI 60 ot, cg_N wA cI 60 wg, cg_B eA cZ 60 ie, cg_O vA cI 20 wo, cg_O yA cI 20 eo, cg_N lA cI 60 la]) := by
  refine Met.ofW (cc := b_D_way) (maxL := 5) (ret := (some .int)) (by decide) rfl ?_
  intro p e s m args below meth c s₁ B hml hv
  obtain ⟨rfl, hP, hK, hD0⟩ := hv
  have hx := B.exec
  have hb := B.bytes
  have hr := B.returns
  have hts := atoms_spec (ws := w_D_way) B.pre
  have hown : s.vm.findClass R_D = some m.cls := findClass_of_methodNamed B.named
  have hlocks := B.notSynchronized
  have iD : ∀ w ∈ w_D, w ∈ w_D_way := fun w h => List.mem_cons_of_mem _ (i_D w h)
  have hD := rw_own hD0
  generalize hAe : rw_A [cg_D dm th np ne fi kp iA tA oA uA wA sA eA vA yA lA ll mn xA cA zA pA bA fA gA bw bs ps qA rA aA kA lt wt fx, cg_B iA cZ 20 ib, cg_N oA cI 60 oe, cg_N uA cI 60 ot, cg_N wA cI 60 wg, cg_B eA cZ 60 ie, cg_O vA cI 20 wo, cg_O yA cI 20 eo, cg_N lA cI 60 la] = A at hD ⊢
  have hS : va_S A s.heap s.heap [] := va_S.rf
  have hP : va_P (dC, dI) classes [cg_D dm th np ne fi kp iA tA oA uA wA sA eA vA yA lA ll mn xA cA zA pA bA fA gA bw bs ps qA rA aA kA lt wt fx, cg_B iA cZ 20 ib, cg_N oA cI 60 oe, cg_N uA cI 60 ot, cg_N wA cI 60 wg, cg_B eA cZ 60 ie, cg_O vA cI 20 wo, cg_O yA cI 20 eo, cg_N lA cI 60 la] s.heap := hP
  have hl := lv_entry ([.ref dm, .int (nI a), .int (nI b), .int x]) (n := 5) (Nat.le_of_ble_eq_true rfl)
  rw [lg_entry_eq]
  generalize (lg_sl ([.ref dm, .int (nI a), .int (nI b), .int x]) ++ List.replicate (5 - (lg_sl ([.ref dm, .int (nI a), .int (nI b), .int x])).length) Slot.unset).toArray = ls at hl ⊢
  have hl : lv_has ls 5 [(0, .ref dm), (1, .int (nI a)), (2, .int (nI b)), (3, .int x)] := hl
  have ia : nb_in np (nI a) = true := by rw [nb_inI_nI (by omega) (by omega), decide_eq_true ha]
  have ib1 : nb_in np (nI b) = true := by rw [nb_inI_nI (by omega) (by omega), decide_eq_true hb1]
  refine lv_aload_n hx hb d_D_way_0 rfl (lv_at hl 0 rfl) ?_
  refine lv_iconst (v := nI 0) hx hb d_D_way_1 (by decide) ?_
  refine va_put (D := (dC, dI)) (ci := 5) (v := .int (nI 0)) (ty := .int) (C := R_D) (T := F_D) (N := 34) hx hb hts iD t_D t_D_ok n_D hown hK hP hD hS 0 rfl rfl 0 (by decide) (hts _ (List.mem_cons_of_mem _ wk_D_75)) (fun _ h9 => h9) rfl (by decide +kernel) rfl rfl (Nat.le_of_ble_eq_true rfl) d_D_way_2 (fun H locs hP hD hS => ?_)
  have hP : va_P (dC, dI) classes [cg_D dm 0 np ne fi kp iA tA oA uA wA sA eA vA yA lA ll mn xA cA zA pA bA fA gA bw bs ps qA rA aA kA lt wt fx, cg_B iA cZ 20 ib, cg_N oA cI 60 oe, cg_N uA cI 60 ot, cg_N wA cI 60 wg, cg_B eA cZ 60 ie, cg_O vA cI 20 wo, cg_O yA cI 20 eo, cg_N lA cI 60 la] H := hP
  have hD : va_D A [cg_D dm 0 np ne fi kp iA tA oA uA wA sA eA vA yA lA ll mn xA cA zA pA bA fA gA bw bs ps qA rA aA kA lt wt fx, cg_B iA cZ 20 ib, cg_N oA cI 60 oe, cg_N uA cI 60 ot, cg_N wA cI 60 wg, cg_B eA cZ 60 ie, cg_O vA cI 20 wo, cg_O yA cI 20 eo, cg_N lA cI 60 la] := hD
  refine lv_aload_n hx hb d_D_way_5 rfl (lv_at hl 0 rfl) ?_
  refine lv_iload_n hx hb d_D_way_6 rfl (lv_at hl 1 rfl) ?_
  refine ro_Vi (As := [.int (nI a)]) (rest := []) ⟨hx, hb, hml, hown, hts⟩ (c_D_isPoint l dC dI cI cL cZ dm 0 np ne fi kp iA tA oA uA wA sA eA vA yA lA ll mn xA cA zA pA bA fA gA bw bs ps qA rA aA kA lt wt fx (nI a) ) (cwV 1 hts (wg_V wk_D_82 wm_D_isPoint we_D_isPoint wi_D wc_D_isPoint) rfl rfl rfl (by decide +kernel) ⟨Nat.le_of_ble_eq_true rfl, Nat.le_of_ble_eq_true rfl⟩) hK (hP.sub [0] rfl) (q0 := 0) rfl rfl rfl rfl hl.1 rfl (lv_room (Nat.le_of_ble_eq_true rfl)) d_D_way_7 ⟨Nat.zero_le _, Nat.zero_le _⟩ hS hP (fun H locs hP hS => ?_)
  refine nr_ifeqB (tgt := 39) hx hb d_D_way_10 (by decide) (fun c_10 => ?_) (fun c_10 => ?_)
  · exact False.elim (by rw [ia] at c_10; cases c_10)
  · refine lv_aload_n hx hb d_D_way_13 rfl (lv_at hl 0 rfl) ?_
    refine lv_iload_n hx hb d_D_way_14 rfl (lv_at hl 2 rfl) ?_
    refine ro_Vi (As := [.int (nI b)]) (rest := []) ⟨hx, hb, hml, hown, hts⟩ (c_D_isPoint l dC dI cI cL cZ dm 0 np ne fi kp iA tA oA uA wA sA eA vA yA lA ll mn xA cA zA pA bA fA gA bw bs ps qA rA aA kA lt wt fx (nI b) ) (cwV 1 hts (wg_V wk_D_82 wm_D_isPoint we_D_isPoint wi_D wc_D_isPoint) rfl rfl rfl (by decide +kernel) ⟨Nat.le_of_ble_eq_true rfl, Nat.le_of_ble_eq_true rfl⟩) hK (hP.sub [0] rfl) (q0 := 0) rfl rfl rfl rfl hl.1 rfl (lv_room (Nat.le_of_ble_eq_true rfl)) d_D_way_15 ⟨Nat.zero_le _, Nat.zero_le _⟩ hS hP (fun H locs hP hS => ?_)
    refine nr_ifeqB (tgt := 39) hx hb d_D_way_18 (by decide) (fun c_18 => ?_) (fun c_18 => ?_)
    · exact False.elim (by rw [ib1] at c_18; cases c_18)
    · refine lv_iload_n hx hb d_D_way_21 rfl (lv_at hl 1 rfl) ?_
      refine lv_iload_n hx hb d_D_way_22 rfl (lv_at hl 2 rfl) ?_
      refine nr_icmp_eq (by omega) (by omega) (tgt := 39) hx hb d_D_way_23 (by decide) (fun c_23 => ?_) (fun c_23 => ?_)
      · exact False.elim (by omega)
      · refine lv_iload_n hx hb d_D_way_26 rfl (lv_at hl 3 rfl) ?_
        refine lv_if_lt (tgt := 39) hx hb d_D_way_27 (by decide) (fun c_27 => ?_) (fun c_27 => ?_)
        · exact absurd c_27 hx0
        · refine lv_aload_n hx hb d_D_way_30 rfl (lv_at hl 0 rfl) ?_
          refine lv_iload_n hx hb d_D_way_31 rfl (lv_at hl 1 rfl) ?_
          refine lv_iload_n hx hb d_D_way_32 rfl (lv_at hl 2 rfl) ?_
          refine rw_Vi (wr := []) [0, 1, 2, 3, 4, 5, 6, 7, 8] [] rfl rfl (by decide) (As := [.int (nI a), .int (nI b)]) (rest := []) ⟨hx, hb, hml, hown, hts⟩ (c_D_lay_lt l dC dI cI cL cZ dm 0 np ne fi kp iA tA oA uA wA sA eA vA yA lA ll mn xA cA zA pA bA fA gA bw bs ps qA rA aA kA lt wt fx ib oe ot wg ie wo eo la a b (by omega) (by omega) hE hdf hhv (by omega) (by omega) (by omega)) (cwV 2 hts (wg_V wk_D_133 wm_D_lay we_D_lay wi_D wc_D_lay) rfl rfl rfl (by decide +kernel) ⟨Nat.le_of_ble_eq_true rfl, Nat.le_of_ble_eq_true rfl⟩) hK (hP.sub [0, 1, 2, 3, 4, 5, 6, 7, 8] rfl) ((hD.sub [0, 1, 2, 3, 4, 5, 6, 7, 8] (by decide) rfl).weaken (fun _ _ _ _ => trivial)) (q0 := 0) rfl rfl rfl rfl hl.1 rfl (lv_room (Nat.le_of_ble_eq_true rfl)) d_D_way_33 ⟨Nat.zero_le _, Nat.zero_le _⟩ hS hP hD (fun r_5 u H locs hw_6 hP hS => ?_)
          obtain ⟨wo9_1, eo9_2, ll9_3, la9_4⟩ := u
          have hP : va_P (dC, dI) classes [cg_D dm 0 np ne fi kp iA tA oA uA wA sA eA vA yA lA ll9_3 mn xA cA zA pA bA fA gA bw bs ps qA rA aA kA lt wt fx, cg_B iA cZ 20 ib, cg_N oA cI 60 oe, cg_N uA cI 60 ot, cg_N wA cI 60 wg, cg_B eA cZ 60 ie, cg_O vA cI 20 wo9_1, cg_O yA cI 20 eo9_2, cg_N lA cI 60 la9_4] H := hP.sub [0, 1, 2, 3, 4, 5, 6, 7, 8] rfl
          have hD : va_D A [cg_D dm 0 np ne fi kp iA tA oA uA wA sA eA vA yA lA ll9_3 mn xA cA zA pA bA fA gA bw bs ps qA rA aA kA lt wt fx, cg_B iA cZ 20 ib, cg_N oA cI 60 oe, cg_N uA cI 60 ot, cg_N wA cI 60 wg, cg_B eA cZ 60 ie, cg_O vA cI 20 wo9_1, cg_O yA cI 20 eo9_2, cg_N lA cI 60 la9_4] := rw_re hD rfl
          try dsimp only at hw_6
          obtain ⟨hT, hcs⟩ := hw_6
          rcases hcs with ⟨hw0, hr0, hl0, hla⟩ | ⟨w0, hw0, hr0, hl0, ht, hl20⟩
          · subst hr0
            refine nr_ifneB (tgt := 41) hx hb d_D_way_36 (by decide) (fun c => absurd c (by decide)) (fun c_36 => ?_)
            refine lv_iconst (v := -1) hx hb d_D_way_39 (by decide) ?_
            exact rw_iret (wo9_1, eo9_2, ll9_3, la9_4) hx hb hr hlocks hS hP (⟨hT, by dsimp only; rw [hw0]⟩) d_D_way_40
          · subst hr0
            obtain ⟨n9, hn9, hn10, hn11, -⟩ := ng_V_get hT.1 (by omega) hw0
            refine nr_ifneB (tgt := 41) hx hb d_D_way_36 (by decide) (fun c_36 => ?_) (fun c => absurd c (by decide))
            refine lv_iload_n hx hb d_D_way_41 rfl (lv_at hl 3 rfl) ?_
            refine lv_if_ne (tgt := 61) hx hb d_D_way_42 (by decide) (fun c_42 => ?_) (fun c_42 => ?_)
            · refine lv_iload_n hx hb d_D_way_61 rfl (lv_at hl 3 rfl) ?_
              refine lv_iconst (v := nI 1) hx hb d_D_way_62 (by decide) ?_
              refine lv_icmp_ne (tgt := 71) hx hb d_D_way_63 (by decide) (fun c_63 => ?_) (fun c_63 => ?_)
              · refine lv_iload_n hx hb d_D_way_71 rfl (lv_at hl 3 rfl) ?_
                refine lv_iconst (v := nI 2) hx hb d_D_way_72 (by decide) ?_
                refine lv_isub hx hb d_D_way_73 ?_
                refine lv_istore (lv' := [(4, .int (x - (nI 2))), (0, .ref dm), (1, .int (nI a)), (2, .int (nI b)), (3, .int x)]) hx hb d_D_way_74 hl (by decide) rfl (fun ls hl => ?_)
                refine lv_iload hx hb d_D_way_76 (lv_at hl 0 rfl) ?_
                refine lv_aload_n hx hb d_D_way_78 rfl (lv_at hl 1 rfl) ?_
                refine va_get (D := (dC, dI)) (ci := 5) (v := .int (nI ll9_3)) (C := R_D) (T := F_D) (N := 34) hx hb hts iD hown hK hP 0 rfl rfl 15 (by decide) (hts _ (List.mem_cons_of_mem _ wk_D_127)) (fun _ h9 => h9) rfl d_D_way_79 ?_
                refine lv_icmp_lt (tgt := 87) hx hb d_D_way_82 (by decide) (fun c_82 => ?_) (fun c_82 => ?_)
                · obtain ⟨j, hj, hxj⟩ := nb_inI_of (n := ll9_3) (by omega) (nb_inI_t2 (ng_m2 hx0 c_42 c_63) c_82)
                  rw [hxj] at hl
                  refine lv_aload_n hx hb d_D_way_87 rfl (lv_at hl 1 rfl) ?_
                  refine va_get (D := (dC, dI)) (ci := 5) (v := .ref lA) (C := R_D) (T := F_D) (N := 34) hx hb hts iD hown hK hP 0 rfl rfl 14 (by decide) (hts _ (List.mem_cons_of_mem _ wk_D_38)) (fun _ h9 => h9) rfl d_D_way_88 ?_
                  refine lv_iload_n hx hb d_D_way_91 rfl (lv_at hl 2 rfl) ?_
                  refine lv_iload_n hx hb d_D_way_92 rfl (lv_at hl 3 rfl) ?_
                  refine nr_icmp_ge (by omega) (by omega) (tgt := 101) hx hb d_D_way_93 (by decide) (fun c_93 => ?_) (fun c_93 => ?_)
                  · exact False.elim (by omega)
                  · refine lv_iload hx hb d_D_way_96 (lv_at hl 0 rfl) ?_
                    refine lv_goto (tgt := 110) hx hb d_D_way_98 (by decide) ?_
                    refine nr_iald hx hb hK hP 8 0 rfl rfl (by omega) (by decide) d_D_way_110 ?_
                    exact rw_iret (wo9_1, eo9_2, ll9_3, la9_4) hx hb hr hlocks hS hP (⟨hT, by dsimp only; rw [hw0]; exact (((if_neg c_42).trans (if_neg c_63)).trans (ng_te_v1 hxj (by omega) (by omega) ht)).symm⟩) d_D_way_111
                · refine lv_iconst (v := -1) hx hb d_D_way_85 (by decide) ?_
                  exact rw_iret (wo9_1, eo9_2, ll9_3, la9_4) hx hb hr hlocks hS hP (⟨hT, by dsimp only; rw [hw0]; exact (((if_neg c_42).trans (if_neg c_63)).trans (ng_te_o (by rw [← hl0]; exact c_82))).symm⟩) d_D_way_86
              · refine lv_aload_n hx hb d_D_way_66 rfl (lv_at hl 0 rfl) ?_
                refine va_get (D := (dC, dI)) (ci := 5) (v := .int (nI ll9_3)) (C := R_D) (T := F_D) (N := 34) hx hb hts iD hown hK hP 0 rfl rfl 15 (by decide) (hts _ (List.mem_cons_of_mem _ wk_D_127)) (fun _ h9 => h9) rfl d_D_way_67 ?_
                exact rw_iret (wo9_1, eo9_2, ll9_3, la9_4) hx hb hr hlocks hS hP (⟨hT, by dsimp only; rw [hw0, hl0]; exact ((if_neg c_42).trans (if_pos c_63)).symm⟩) d_D_way_70
            · refine lv_aload_n hx hb d_D_way_45 rfl (lv_at hl 0 rfl) ?_
              refine va_get (D := (dC, dI)) (ci := 5) (v := .ref vA) (C := R_D) (T := F_D) (N := 34) hx hb hts iD hown hK hP 0 rfl rfl 12 (by decide) (hts _ (List.mem_cons_of_mem _ wk_D_32)) (fun _ h9 => h9) rfl d_D_way_46 ?_
              refine lv_iload_n hx hb d_D_way_49 rfl (lv_at hl 1 rfl) ?_
              refine lv_iload_n hx hb d_D_way_50 rfl (lv_at hl 2 rfl) ?_
              refine nr_icmp_ge (by omega) (by omega) (tgt := 58) hx hb d_D_way_51 (by decide) (fun c_51 => ?_) (fun c_51 => ?_)
              · exact False.elim (by omega)
              · refine lv_iload_n hx hb d_D_way_54 rfl (lv_at hl 1 rfl) ?_
                refine lv_goto (tgt := 59) hx hb d_D_way_55 (by decide) ?_
                refine nr_oald hx hb hK hP 6 0 rfl rfl (by omega) (by decide) d_D_way_59 ?_
                rw [hw0]
                refine nr_as (v := nI w0) rfl ?_
                exact rw_iret (wo9_1, eo9_2, ll9_3, la9_4) hx hb hr hlocks hS hP (⟨hT, by dsimp only; rw [hw0]; exact (if_pos c_42).symm⟩) d_D_way_60
set_option maxHeartbeats 4000000 in
set_option maxRecDepth 100000 in
theorem c_D_way_ge (l : Launch) (dC : Nat → ClassId) (dI : Nat → Nat → Nat) (cI cL cZ : ClassId) (dm : Nat) (th : Nat) (np : Nat) (ne : Nat) (fi : Int32) (kp : Int64) (iA : Nat) (tA : Nat) (oA : Nat) (uA : Nat) (wA : Nat) (sA : Nat) (eA : Nat) (vA : Nat) (yA : Nat) (lA : Nat) (ll : Nat) (mn : Nat) (xA : Nat) (cA : Nat) (zA : Nat) (pA : Nat) (bA : Nat) (fA : Nat) (gA : Nat) (bw : Nat) (bs : Nat) (ps : Nat) (qA : Nat) (rA : Nat) (aA : Nat) (kA : Nat) (lt : Nat) (wt : Nat) (fx : Int64) (ib : Nat → Bool) (oe ot wg : Nat → Nat) (ie : Nat → Bool) (wo eo : Nat → Option Nat) (la : Nat → Nat) (a b : Nat) (x : Int32) (hnp : np ≤ 20) (hne : ne ≤ 60) (hE : ∀ i, i < ne → oe i < np ∧ ot i < np) (hdf : ∀ i, i < ne → oe i ≠ ot i) (hhv : ∀ i, i < ne → ng_hv ie wg i ≤ 1000000) (ha : a < np) (hb1 : b < np) (hab : b < a) (hx0 : ¬ x < 0) : Met l y_D_way w_D_way ({ frames := 4, cells := 0, slots := 0, locals := 98 } : Room) (va_Pc [.ref dm, .int (nI a), .int (nI b), .int x] (rw_B (dC, dI) classes [(cI, .int), (cL, .long), (cZ, .boolean)] [cg_D dm th np ne fi kp iA tA oA uA wA sA eA vA yA lA ll mn xA cA zA pA bA fA gA bw bs ps qA rA aA kA lt wt fx, cg_B iA cZ 20 ib, cg_N oA cI 60 oe, cg_N uA cI 60 ot, cg_N wA cI 60 wg, cg_B eA cZ 60 ie, cg_O vA cI 20 wo, cg_O yA cI 20 eo, cg_N lA cI 60 la])) (rw_Qi (dC, dI) classes (rw_A [cg_D dm th np ne fi kp iA tA oA uA wA sA eA vA yA lA ll mn xA cA zA pA bA fA gA bw bs ps qA rA aA kA lt wt fx, cg_B iA cZ 20 ib, cg_N oA cI 60 oe, cg_N uA cI 60 ot, cg_N wA cI 60 wg, cg_B eA cZ 60 ie, cg_O vA cI 20 wo, cg_O yA cI 20 eo, cg_N lA cI 60 la]) (fun r (u : (Nat → Option Nat) × (Nat → Option Nat) × (Nat) × (Nat → Nat)) => ng_T ne a ib oe ot (ng_hv ie wg) u.1 u.2.1 ∧ r = (match u.1 b with | none => -1 | some w => if x = 0 then nI w else if x = nI 1 then nI (ng_path (ng_nxD u.1 u.2.1 ib oe ot (ng_hv ie wg) ne a) a 20 b).length else ng_te (ng_path (ng_nxD u.1 u.2.1 ib oe ot (ng_hv ie wg) ne a) a 20 b).length (fun i => (ng_path (ng_nxD u.1 u.2.1 ib oe ot (ng_hv ie wg) ne a) a 20 b).getD i 0) (x - nI 2) true)) (fun u => [cg_D dm 0 np ne fi kp iA tA oA uA wA sA eA vA yA lA u.2.2.1 mn xA cA zA pA bA fA gA bw bs ps qA rA aA kA lt wt fx, cg_B iA cZ 20 ib, cg_N oA cI 60 oe, cg_N uA cI 60 ot, cg_N wA cI 60 wg, cg_B eA cZ 60 ie, cg_O vA cI 20 u.1, cg_O yA cI 20 u.2.1, cg_N lA cI 60 u.2.2.2])) 0 0 (rw_A [cg_D dm th np ne fi kp iA tA oA uA wA sA eA vA yA lA ll mn xA cA zA pA bA fA gA bw bs ps qA rA aA kA lt wt fx, cg_B iA cZ 20 ib, cg_N oA cI 60 oe, cg_N uA cI 60 ot, cg_N wA cI 60 wg, cg_B eA cZ 60 ie, cg_O vA cI 20 wo, cg_O yA cI 20 eo, cg_N lA cI 60 la]) := by
  refine Met.ofW (cc := b_D_way) (maxL := 5) (ret := (some .int)) (by decide) rfl ?_
  intro p e s m args below meth c s₁ B hml hv
  obtain ⟨rfl, hP, hK, hD0⟩ := hv
  have hx := B.exec
  have hb := B.bytes
  have hr := B.returns
  have hts := atoms_spec (ws := w_D_way) B.pre
  have hown : s.vm.findClass R_D = some m.cls := findClass_of_methodNamed B.named
  have hlocks := B.notSynchronized
  have iD : ∀ w ∈ w_D, w ∈ w_D_way := fun w h => List.mem_cons_of_mem _ (i_D w h)
  have hD := rw_own hD0
  generalize hAe : rw_A [cg_D dm th np ne fi kp iA tA oA uA wA sA eA vA yA lA ll mn xA cA zA pA bA fA gA bw bs ps qA rA aA kA lt wt fx, cg_B iA cZ 20 ib, cg_N oA cI 60 oe, cg_N uA cI 60 ot, cg_N wA cI 60 wg, cg_B eA cZ 60 ie, cg_O vA cI 20 wo, cg_O yA cI 20 eo, cg_N lA cI 60 la] = A at hD ⊢
  have hS : va_S A s.heap s.heap [] := va_S.rf
  have hP : va_P (dC, dI) classes [cg_D dm th np ne fi kp iA tA oA uA wA sA eA vA yA lA ll mn xA cA zA pA bA fA gA bw bs ps qA rA aA kA lt wt fx, cg_B iA cZ 20 ib, cg_N oA cI 60 oe, cg_N uA cI 60 ot, cg_N wA cI 60 wg, cg_B eA cZ 60 ie, cg_O vA cI 20 wo, cg_O yA cI 20 eo, cg_N lA cI 60 la] s.heap := hP
  have hl := lv_entry ([.ref dm, .int (nI a), .int (nI b), .int x]) (n := 5) (Nat.le_of_ble_eq_true rfl)
  rw [lg_entry_eq]
  generalize (lg_sl ([.ref dm, .int (nI a), .int (nI b), .int x]) ++ List.replicate (5 - (lg_sl ([.ref dm, .int (nI a), .int (nI b), .int x])).length) Slot.unset).toArray = ls at hl ⊢
  have hl : lv_has ls 5 [(0, .ref dm), (1, .int (nI a)), (2, .int (nI b)), (3, .int x)] := hl
  have ia : nb_in np (nI a) = true := by rw [nb_inI_nI (by omega) (by omega), decide_eq_true ha]
  have ib1 : nb_in np (nI b) = true := by rw [nb_inI_nI (by omega) (by omega), decide_eq_true hb1]
  refine lv_aload_n hx hb d_D_way_0 rfl (lv_at hl 0 rfl) ?_
  refine lv_iconst (v := nI 0) hx hb d_D_way_1 (by decide) ?_
  refine va_put (D := (dC, dI)) (ci := 5) (v := .int (nI 0)) (ty := .int) (C := R_D) (T := F_D) (N := 34) hx hb hts iD t_D t_D_ok n_D hown hK hP hD hS 0 rfl rfl 0 (by decide) (hts _ (List.mem_cons_of_mem _ wk_D_75)) (fun _ h9 => h9) rfl (by decide +kernel) rfl rfl (Nat.le_of_ble_eq_true rfl) d_D_way_2 (fun H locs hP hD hS => ?_)
  have hP : va_P (dC, dI) classes [cg_D dm 0 np ne fi kp iA tA oA uA wA sA eA vA yA lA ll mn xA cA zA pA bA fA gA bw bs ps qA rA aA kA lt wt fx, cg_B iA cZ 20 ib, cg_N oA cI 60 oe, cg_N uA cI 60 ot, cg_N wA cI 60 wg, cg_B eA cZ 60 ie, cg_O vA cI 20 wo, cg_O yA cI 20 eo, cg_N lA cI 60 la] H := hP
  have hD : va_D A [cg_D dm 0 np ne fi kp iA tA oA uA wA sA eA vA yA lA ll mn xA cA zA pA bA fA gA bw bs ps qA rA aA kA lt wt fx, cg_B iA cZ 20 ib, cg_N oA cI 60 oe, cg_N uA cI 60 ot, cg_N wA cI 60 wg, cg_B eA cZ 60 ie, cg_O vA cI 20 wo, cg_O yA cI 20 eo, cg_N lA cI 60 la] := hD
  refine lv_aload_n hx hb d_D_way_5 rfl (lv_at hl 0 rfl) ?_
  refine lv_iload_n hx hb d_D_way_6 rfl (lv_at hl 1 rfl) ?_
  refine ro_Vi (As := [.int (nI a)]) (rest := []) ⟨hx, hb, hml, hown, hts⟩ (c_D_isPoint l dC dI cI cL cZ dm 0 np ne fi kp iA tA oA uA wA sA eA vA yA lA ll mn xA cA zA pA bA fA gA bw bs ps qA rA aA kA lt wt fx (nI a) ) (cwV 1 hts (wg_V wk_D_82 wm_D_isPoint we_D_isPoint wi_D wc_D_isPoint) rfl rfl rfl (by decide +kernel) ⟨Nat.le_of_ble_eq_true rfl, Nat.le_of_ble_eq_true rfl⟩) hK (hP.sub [0] rfl) (q0 := 0) rfl rfl rfl rfl hl.1 rfl (lv_room (Nat.le_of_ble_eq_true rfl)) d_D_way_7 ⟨Nat.zero_le _, Nat.zero_le _⟩ hS hP (fun H locs hP hS => ?_)
  refine nr_ifeqB (tgt := 39) hx hb d_D_way_10 (by decide) (fun c_10 => ?_) (fun c_10 => ?_)
  · exact False.elim (by rw [ia] at c_10; cases c_10)
  · refine lv_aload_n hx hb d_D_way_13 rfl (lv_at hl 0 rfl) ?_
    refine lv_iload_n hx hb d_D_way_14 rfl (lv_at hl 2 rfl) ?_
    refine ro_Vi (As := [.int (nI b)]) (rest := []) ⟨hx, hb, hml, hown, hts⟩ (c_D_isPoint l dC dI cI cL cZ dm 0 np ne fi kp iA tA oA uA wA sA eA vA yA lA ll mn xA cA zA pA bA fA gA bw bs ps qA rA aA kA lt wt fx (nI b) ) (cwV 1 hts (wg_V wk_D_82 wm_D_isPoint we_D_isPoint wi_D wc_D_isPoint) rfl rfl rfl (by decide +kernel) ⟨Nat.le_of_ble_eq_true rfl, Nat.le_of_ble_eq_true rfl⟩) hK (hP.sub [0] rfl) (q0 := 0) rfl rfl rfl rfl hl.1 rfl (lv_room (Nat.le_of_ble_eq_true rfl)) d_D_way_15 ⟨Nat.zero_le _, Nat.zero_le _⟩ hS hP (fun H locs hP hS => ?_)
    refine nr_ifeqB (tgt := 39) hx hb d_D_way_18 (by decide) (fun c_18 => ?_) (fun c_18 => ?_)
    · exact False.elim (by rw [ib1] at c_18; cases c_18)
    · refine lv_iload_n hx hb d_D_way_21 rfl (lv_at hl 1 rfl) ?_
      refine lv_iload_n hx hb d_D_way_22 rfl (lv_at hl 2 rfl) ?_
      refine nr_icmp_eq (by omega) (by omega) (tgt := 39) hx hb d_D_way_23 (by decide) (fun c_23 => ?_) (fun c_23 => ?_)
      · exact False.elim (by omega)
      · refine lv_iload_n hx hb d_D_way_26 rfl (lv_at hl 3 rfl) ?_
        refine lv_if_lt (tgt := 39) hx hb d_D_way_27 (by decide) (fun c_27 => ?_) (fun c_27 => ?_)
        · exact absurd c_27 hx0
        · refine lv_aload_n hx hb d_D_way_30 rfl (lv_at hl 0 rfl) ?_
          refine lv_iload_n hx hb d_D_way_31 rfl (lv_at hl 1 rfl) ?_
          refine lv_iload_n hx hb d_D_way_32 rfl (lv_at hl 2 rfl) ?_
          refine rw_Vi (wr := []) [0, 1, 2, 3, 4, 5, 6, 7, 8] [] rfl rfl (by decide) (As := [.int (nI a), .int (nI b)]) (rest := []) ⟨hx, hb, hml, hown, hts⟩ (c_D_lay_ge l dC dI cI cL cZ dm 0 np ne fi kp iA tA oA uA wA sA eA vA yA lA ll mn xA cA zA pA bA fA gA bw bs ps qA rA aA kA lt wt fx ib oe ot wg ie wo eo la b a (by omega) (by omega) hE hdf hhv (by omega) (by omega) (by omega)) (cwV 2 hts (wg_V wk_D_133 wm_D_lay we_D_lay wi_D wc_D_lay) rfl rfl rfl (by decide +kernel) ⟨Nat.le_of_ble_eq_true rfl, Nat.le_of_ble_eq_true rfl⟩) hK (hP.sub [0, 1, 2, 3, 4, 5, 6, 7, 8] rfl) ((hD.sub [0, 1, 2, 3, 4, 5, 6, 7, 8] (by decide) rfl).weaken (fun _ _ _ _ => trivial)) (q0 := 0) rfl rfl rfl rfl hl.1 rfl (lv_room (Nat.le_of_ble_eq_true rfl)) d_D_way_33 ⟨Nat.zero_le _, Nat.zero_le _⟩ hS hP hD (fun r_5 u H locs hw_6 hP hS => ?_)
          obtain ⟨wo9_1, eo9_2, ll9_3, la9_4⟩ := u
          have hP : va_P (dC, dI) classes [cg_D dm 0 np ne fi kp iA tA oA uA wA sA eA vA yA lA ll9_3 mn xA cA zA pA bA fA gA bw bs ps qA rA aA kA lt wt fx, cg_B iA cZ 20 ib, cg_N oA cI 60 oe, cg_N uA cI 60 ot, cg_N wA cI 60 wg, cg_B eA cZ 60 ie, cg_O vA cI 20 wo9_1, cg_O yA cI 20 eo9_2, cg_N lA cI 60 la9_4] H := hP.sub [0, 1, 2, 3, 4, 5, 6, 7, 8] rfl
          have hD : va_D A [cg_D dm 0 np ne fi kp iA tA oA uA wA sA eA vA yA lA ll9_3 mn xA cA zA pA bA fA gA bw bs ps qA rA aA kA lt wt fx, cg_B iA cZ 20 ib, cg_N oA cI 60 oe, cg_N uA cI 60 ot, cg_N wA cI 60 wg, cg_B eA cZ 60 ie, cg_O vA cI 20 wo9_1, cg_O yA cI 20 eo9_2, cg_N lA cI 60 la9_4] := rw_re hD rfl
          try dsimp only at hw_6
          obtain ⟨hT, hcs⟩ := hw_6
          rcases hcs with ⟨hw0, hr0, hl0, hla⟩ | ⟨w0, hw0, hr0, hl0, ht, hl20⟩
          · subst hr0
            refine nr_ifneB (tgt := 41) hx hb d_D_way_36 (by decide) (fun c => absurd c (by decide)) (fun c_36 => ?_)
            refine lv_iconst (v := -1) hx hb d_D_way_39 (by decide) ?_
            exact rw_iret (wo9_1, eo9_2, ll9_3, la9_4) hx hb hr hlocks hS hP (⟨hT, by dsimp only; rw [hw0]⟩) d_D_way_40
          · subst hr0
            obtain ⟨n9, hn9, hn10, hn11, -⟩ := ng_V_get hT.1 (by omega) hw0
            refine nr_ifneB (tgt := 41) hx hb d_D_way_36 (by decide) (fun c_36 => ?_) (fun c => absurd c (by decide))
            refine lv_iload_n hx hb d_D_way_41 rfl (lv_at hl 3 rfl) ?_
            refine lv_if_ne (tgt := 61) hx hb d_D_way_42 (by decide) (fun c_42 => ?_) (fun c_42 => ?_)
            · refine lv_iload_n hx hb d_D_way_61 rfl (lv_at hl 3 rfl) ?_
              refine lv_iconst (v := nI 1) hx hb d_D_way_62 (by decide) ?_
              refine lv_icmp_ne (tgt := 71) hx hb d_D_way_63 (by decide) (fun c_63 => ?_) (fun c_63 => ?_)
              · refine lv_iload_n hx hb d_D_way_71 rfl (lv_at hl 3 rfl) ?_
                refine lv_iconst (v := nI 2) hx hb d_D_way_72 (by decide) ?_
                refine lv_isub hx hb d_D_way_73 ?_
                refine lv_istore (lv' := [(4, .int (x - (nI 2))), (0, .ref dm), (1, .int (nI a)), (2, .int (nI b)), (3, .int x)]) hx hb d_D_way_74 hl (by decide) rfl (fun ls hl => ?_)
                refine lv_iload hx hb d_D_way_76 (lv_at hl 0 rfl) ?_
                refine lv_aload_n hx hb d_D_way_78 rfl (lv_at hl 1 rfl) ?_
                refine va_get (D := (dC, dI)) (ci := 5) (v := .int (nI ll9_3)) (C := R_D) (T := F_D) (N := 34) hx hb hts iD hown hK hP 0 rfl rfl 15 (by decide) (hts _ (List.mem_cons_of_mem _ wk_D_127)) (fun _ h9 => h9) rfl d_D_way_79 ?_
                refine lv_icmp_lt (tgt := 87) hx hb d_D_way_82 (by decide) (fun c_82 => ?_) (fun c_82 => ?_)
                · obtain ⟨j, hj, hxj⟩ := nb_inI_of (n := ll9_3) (by omega) (nb_inI_t2 (ng_m2 hx0 c_42 c_63) c_82)
                  rw [hxj] at hl
                  refine lv_aload_n hx hb d_D_way_87 rfl (lv_at hl 1 rfl) ?_
                  refine va_get (D := (dC, dI)) (ci := 5) (v := .ref lA) (C := R_D) (T := F_D) (N := 34) hx hb hts iD hown hK hP 0 rfl rfl 14 (by decide) (hts _ (List.mem_cons_of_mem _ wk_D_38)) (fun _ h9 => h9) rfl d_D_way_88 ?_
                  refine lv_iload_n hx hb d_D_way_91 rfl (lv_at hl 2 rfl) ?_
                  refine lv_iload_n hx hb d_D_way_92 rfl (lv_at hl 3 rfl) ?_
                  refine nr_icmp_ge (by omega) (by omega) (tgt := 101) hx hb d_D_way_93 (by decide) (fun c_93 => ?_) (fun c_93 => ?_)
                  · refine lv_aload_n hx hb d_D_way_101 rfl (lv_at hl 1 rfl) ?_
                    refine va_get (D := (dC, dI)) (ci := 5) (v := .int (nI ll9_3)) (C := R_D) (T := F_D) (N := 34) hx hb hts iD hown hK hP 0 rfl rfl 15 (by decide) (hts _ (List.mem_cons_of_mem _ wk_D_127)) (fun _ h9 => h9) rfl d_D_way_102 ?_
                    refine lv_iconst (v := nI 1) hx hb d_D_way_105 (by decide) ?_
                    refine nr_isub (by omega) hx hb d_D_way_106 ?_
                    refine lv_iload hx hb d_D_way_107 (lv_at hl 0 rfl) ?_
                    refine nr_isub (by omega) hx hb d_D_way_109 ?_
                    refine nr_iald hx hb hK hP 8 0 rfl rfl (by omega) (by decide) d_D_way_110 ?_
                    exact rw_iret (wo9_1, eo9_2, ll9_3, la9_4) hx hb hr hlocks hS hP (⟨hT, by dsimp only; rw [hw0, hl0]; exact (((if_neg c_42).trans (if_neg c_63)).trans (ng_te_v2 hxj (by omega) (by omega) ht)).symm⟩) d_D_way_111
                  · exact False.elim (by omega)
                · refine lv_iconst (v := -1) hx hb d_D_way_85 (by decide) ?_
                  exact rw_iret (wo9_1, eo9_2, ll9_3, la9_4) hx hb hr hlocks hS hP (⟨hT, by dsimp only; rw [hw0]; exact (((if_neg c_42).trans (if_neg c_63)).trans (ng_te_o (by rw [← hl0]; exact c_82))).symm⟩) d_D_way_86
              · refine lv_aload_n hx hb d_D_way_66 rfl (lv_at hl 0 rfl) ?_
                refine va_get (D := (dC, dI)) (ci := 5) (v := .int (nI ll9_3)) (C := R_D) (T := F_D) (N := 34) hx hb hts iD hown hK hP 0 rfl rfl 15 (by decide) (hts _ (List.mem_cons_of_mem _ wk_D_127)) (fun _ h9 => h9) rfl d_D_way_67 ?_
                exact rw_iret (wo9_1, eo9_2, ll9_3, la9_4) hx hb hr hlocks hS hP (⟨hT, by dsimp only; rw [hw0, hl0]; exact ((if_neg c_42).trans (if_pos c_63)).symm⟩) d_D_way_70
            · refine lv_aload_n hx hb d_D_way_45 rfl (lv_at hl 0 rfl) ?_
              refine va_get (D := (dC, dI)) (ci := 5) (v := .ref vA) (C := R_D) (T := F_D) (N := 34) hx hb hts iD hown hK hP 0 rfl rfl 12 (by decide) (hts _ (List.mem_cons_of_mem _ wk_D_32)) (fun _ h9 => h9) rfl d_D_way_46 ?_
              refine lv_iload_n hx hb d_D_way_49 rfl (lv_at hl 1 rfl) ?_
              refine lv_iload_n hx hb d_D_way_50 rfl (lv_at hl 2 rfl) ?_
              refine nr_icmp_ge (by omega) (by omega) (tgt := 58) hx hb d_D_way_51 (by decide) (fun c_51 => ?_) (fun c_51 => ?_)
              · refine lv_iload_n hx hb d_D_way_58 rfl (lv_at hl 2 rfl) ?_
                refine nr_oald hx hb hK hP 6 0 rfl rfl (by omega) (by decide) d_D_way_59 ?_
                rw [hw0]
                refine nr_as (v := nI w0) rfl ?_
                exact rw_iret (wo9_1, eo9_2, ll9_3, la9_4) hx hb hr hlocks hS hP (⟨hT, by dsimp only; rw [hw0]; exact (if_pos c_42).symm⟩) d_D_way_60
              · exact False.elim (by omega)
