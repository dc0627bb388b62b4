set_option maxHeartbeats 4000000 in
set_option maxRecDepth 100000 in
theorem c_D_relax_no (l : Launch) (dC : Nat → ClassId) (dI : Nat → Nat → Nat) (cI cL cZ : ClassId) (dm : Nat) (th : Nat) (np : Nat) (ne : Nat) (fi : Int32) (kp : Int64) (iA : Nat) (tA : Nat) (oA : Nat) (uA : Nat) (wA : Nat) (sA : Nat) (eA : Nat) (vA : Nat) (yA : Nat) (lA : Nat) (ll : Nat) (mn : Nat) (xA : Nat) (cA : Nat) (zA : Nat) (pA : Nat) (bA : Nat) (fA : Nat) (gA : Nat) (bw : Nat) (bs : Nat) (ps : Nat) (qA : Nat) (rA : Nat) (aA : Nat) (kA : Nat) (lt : Nat) (wt : Nat) (fx : Int64) (ib : Nat → Bool) (wg : Nat → Nat) (ie : Nat → Bool) (wo eo : Nat → Option Nat) (e1 a b z : Nat) (he1 : e1 < 60) (ha : a < 20) (hb1 : b < 20) (hz : z < 20) (hV : ∀ p w, p < 20 → wo p = some w → ∃ n, eo p = some n ∧ n ≤ 19 ∧ w ≤ 19000000) (hh : ng_hv ie wg e1 ≤ 1000000) (hrl : ng_rl wo eo ib (ng_hv ie wg) z e1 a b = none) : Met l y_D_relax w_D_relax ({ frames := 1, cells := 0, slots := 0, locals := 22 } : Room) (va_Pc [.ref dm, .int (nI e1), .int (nI a), .int (nI b), .int (nI z)] (ro_B (dC, dI) classes [(cI, .int), (cL, .long), (cZ, .boolean)] [cg_D dm th np ne fi kp iA tA oA uA wA sA eA vA yA lA ll mn xA cA zA pA bA fA gA bw bs ps qA rA aA kA lt wt fx, cg_B iA cZ 20 ib, cg_N wA cI 60 wg, cg_B eA cZ 60 ie, cg_O vA cI 20 wo, cg_O yA cI 20 eo])) (ro_Qi (nb_i false)) 0 0 ro_A := by
  refine Met.ofW (cc := b_D_relax) (maxL := 7) (ret := (some .boolean)) (by decide) rfl ?_
  intro p e s m args below meth c s₁ B hml hv
  obtain ⟨rfl, hP, hK⟩ := hv
  have hx := B.exec
  have hb := B.bytes
  have hr := B.returns
  have hts := atoms_spec (ws := w_D_relax) B.pre
  have hown : s.vm.findClass R_D = some m.cls := findClass_of_methodNamed B.named
  have hlocks := B.notSynchronized
  have iD : ∀ w ∈ w_D, w ∈ w_D_relax := fun w h => List.mem_cons_of_mem _ (i_D w h)
  have hS : va_S ro_A s.heap s.heap [] := va_S.rf
  have hP : va_P (dC, dI) classes [cg_D dm th np ne fi kp iA tA oA uA wA sA eA vA yA lA ll mn xA cA zA pA bA fA gA bw bs ps qA rA aA kA lt wt fx, cg_B iA cZ 20 ib, cg_N wA cI 60 wg, cg_B eA cZ 60 ie, cg_O vA cI 20 wo, cg_O yA cI 20 eo] s.heap := hP
  have hl := lv_entry ([.ref dm, .int (nI e1), .int (nI a), .int (nI b), .int (nI z)]) (n := 7) (Nat.le_of_ble_eq_true rfl)
  rw [lg_entry_eq]
  generalize (lg_sl ([.ref dm, .int (nI e1), .int (nI a), .int (nI b), .int (nI z)]) ++ List.replicate (7 - (lg_sl ([.ref dm, .int (nI e1), .int (nI a), .int (nI b), .int (nI z)])).length) Slot.unset).toArray = ls at hl ⊢
  have hl : lv_has ls 7 [(0, .ref dm), (1, .int (nI e1)), (2, .int (nI a)), (3, .int (nI b)), (4, .int (nI z))] := hl
  refine lv_iload_n hx hb d_D_relax_0 rfl (lv_at hl 2 rfl) ?_
  refine lv_iload hx hb d_D_relax_1 (lv_at hl 4 rfl) ?_
  refine nr_icmp_eq (by omega) (by omega) (tgt := 16) hx hb d_D_relax_3 (by decide) (fun c_3 => ?_) (fun c_3 => ?_)
  · refine lv_iconst (v := nI 0) hx hb d_D_relax_16 (by decide) ?_
    exact ro_zret hx hb hr hlocks hS rfl rfl d_D_relax_17
  · refine lv_aload_n hx hb d_D_relax_6 rfl (lv_at hl 0 rfl) ?_
    refine lv_iload_n hx hb d_D_relax_7 rfl (lv_at hl 3 rfl) ?_
    refine lv_iload hx hb d_D_relax_8 (lv_at hl 4 rfl) ?_
    refine ro_Vi (As := [.int (nI b), .int (nI z)]) (rest := []) ⟨hx, hb, hml, hown, hts⟩ (c_D_goesOn l dC dI cI cL cZ dm th np ne fi kp iA tA oA uA wA sA eA vA yA lA ll mn xA cA zA pA bA fA gA bw bs ps qA rA aA kA lt wt fx ib wo b z hb1 (by omega) (fun w hw => by obtain ⟨n, -, -, q⟩ := hV b w hb1 hw; omega)) (cwV 2 hts (wg_V wk_D_113 wm_D_goesOn we_D_goesOn wi_D wc_D_goesOn) rfl rfl rfl (by decide +kernel) ⟨Nat.le_of_ble_eq_true rfl, Nat.le_of_ble_eq_true rfl⟩) hK (hP.sub [0, 1, 4] rfl) (q0 := 0) rfl rfl rfl rfl hl.1 rfl (lv_room (Nat.le_of_ble_eq_true rfl)) d_D_relax_10 ⟨Nat.zero_le _, Nat.zero_le _⟩ hS hP (fun H locs hP hS => ?_)
    refine nr_ifneB (tgt := 18) hx hb d_D_relax_13 (by decide) (fun c_13 => ?_) (fun c_13 => ?_)
    · obtain ⟨wb, hwb, hbz⟩ := ng_go_t c_13
      obtain ⟨nb, hnb, n1, n2⟩ := hV b wb hb1 hwb
      refine lv_aload_n hx hb d_D_relax_18 rfl (lv_at hl 0 rfl) ?_
      refine va_get (D := (dC, dI)) (ci := 5) (v := .ref vA) (C := R_D) (T := F_D) (N := 34) hx hb hts iD hown hK hP 0 rfl rfl 12 (by decide) (hts _ (List.mem_cons_of_mem _ wk_D_32)) (fun _ h9 => h9) rfl d_D_relax_19 ?_
      refine lv_iload_n hx hb d_D_relax_22 rfl (lv_at hl 3 rfl) ?_
      refine nr_oald hx hb hK hP 4 0 rfl rfl (by omega) (by decide) d_D_relax_23 ?_
      rw [hwb]
      refine nr_as (v := nI wb) rfl ?_
      refine lv_aload_n hx hb d_D_relax_24 rfl (lv_at hl 0 rfl) ?_
      refine lv_iload_n hx hb d_D_relax_25 rfl (lv_at hl 1 rfl) ?_
      refine ro_Vi (As := [.int (nI e1)]) (rest := [.int (nI wb)]) ⟨hx, hb, hml, hown, hts⟩ (c_D_heavy l dC dI cI cL cZ dm th np ne fi kp iA tA oA uA wA sA eA vA yA lA ll mn xA cA zA pA bA fA gA bw bs ps qA rA aA kA lt wt fx ie wg e1 (by omega)) (cwV 1 hts (wg_V wk_D_117 wm_D_heavy we_D_heavy wi_D wc_D_heavy) rfl rfl rfl (by decide +kernel) ⟨Nat.le_of_ble_eq_true rfl, Nat.le_of_ble_eq_true rfl⟩) hK (hP.sub [0, 3, 2] rfl) (q0 := 0) rfl rfl rfl rfl hl.1 rfl (lv_room (Nat.le_of_ble_eq_true rfl)) d_D_relax_26 ⟨Nat.zero_le _, Nat.zero_le _⟩ hS hP (fun H locs hP hS => ?_)
      refine nr_iadd hx hb d_D_relax_29 ?_
      refine lv_istore (lv' := [(5, .int (nI (wb + (ng_hv ie wg e1)))), (0, .ref dm), (1, .int (nI e1)), (2, .int (nI a)), (3, .int (nI b)), (4, .int (nI z))]) hx hb d_D_relax_30 hl (by decide) rfl (fun ls hl => ?_)
      refine lv_aload_n hx hb d_D_relax_32 rfl (lv_at hl 1 rfl) ?_
      refine va_get (D := (dC, dI)) (ci := 5) (v := .ref yA) (C := R_D) (T := F_D) (N := 34) hx hb hts iD hown hK hP 0 rfl rfl 13 (by decide) (hts _ (List.mem_cons_of_mem _ wk_D_35)) (fun _ h9 => h9) rfl d_D_relax_33 ?_
      refine lv_iload_n hx hb d_D_relax_36 rfl (lv_at hl 4 rfl) ?_
      refine nr_oald hx hb hK hP 5 0 rfl rfl (by omega) (by decide) d_D_relax_37 ?_
      rw [hnb]
      refine nr_as (v := nI nb) rfl ?_
      refine lv_iconst (v := nI 1) hx hb d_D_relax_38 (by decide) ?_
      refine nr_iadd hx hb d_D_relax_39 ?_
      refine lv_istore (lv' := [(6, .int (nI (nb + 1))), (5, .int (nI (wb + (ng_hv ie wg e1)))), (0, .ref dm), (1, .int (nI e1)), (2, .int (nI a)), (3, .int (nI b)), (4, .int (nI z))]) hx hb d_D_relax_40 hl (by decide) rfl (fun ls hl => ?_)
      refine lv_aload_n hx hb d_D_relax_42 rfl (lv_at hl 2 rfl) ?_
      refine va_get (D := (dC, dI)) (ci := 5) (v := .ref vA) (C := R_D) (T := F_D) (N := 34) hx hb hts iD hown hK hP 0 rfl rfl 12 (by decide) (hts _ (List.mem_cons_of_mem _ wk_D_32)) (fun _ h9 => h9) rfl d_D_relax_43 ?_
      refine lv_iload_n hx hb d_D_relax_46 rfl (lv_at hl 4 rfl) ?_
      refine nr_oald hx hb hK hP 4 0 rfl rfl (by omega) (by decide) d_D_relax_47 ?_
      rcases hwa : wo a with _ | wa
      · refine nr_as (v := -1) rfl ?_
        refine lv_if_lt (tgt := 86) hx hb d_D_relax_48 (by decide) (fun c_48 => ?_) (fun c => absurd ng_m1l c)
        exact False.elim (by first | (rw [ng_rl_1 c_3 c_13 hwb hnb hwa] at hrl; cases hrl; done) | (rw [ng_rl_2 c_3 c_13 hwb hnb hwa hna (by omega)] at hrl; cases hrl; done))
      · refine nr_as (v := nI wa) rfl ?_
        obtain ⟨na, hna, m1, m2⟩ := hV a wa ha hwa
        refine nr_if_lt (by omega) (tgt := 86) hx hb d_D_relax_48 (by decide) (fun c => False.elim c) (fun c_48 => ?_)
        refine lv_iload hx hb d_D_relax_51 (lv_at hl 1 rfl) ?_
        refine lv_aload_n hx hb d_D_relax_53 rfl (lv_at hl 2 rfl) ?_
        refine va_get (D := (dC, dI)) (ci := 5) (v := .ref vA) (C := R_D) (T := F_D) (N := 34) hx hb hts iD hown hK hP 0 rfl rfl 12 (by decide) (hts _ (List.mem_cons_of_mem _ wk_D_32)) (fun _ h9 => h9) rfl d_D_relax_54 ?_
        refine lv_iload_n hx hb d_D_relax_57 rfl (lv_at hl 4 rfl) ?_
        refine nr_oald hx hb hK hP 4 0 rfl rfl (by omega) (by decide) d_D_relax_58 ?_
        rw [hwa]
        refine nr_as (v := nI wa) rfl ?_
        refine nr_icmp_gt (by omega) (by omega) (tgt := 84) hx hb d_D_relax_59 (by decide) (fun c_59 => ?_) (fun c_59 => ?_)
        · refine lv_iconst (v := nI 0) hx hb d_D_relax_84 (by decide) ?_
          exact ro_zret hx hb hr hlocks hS rfl rfl d_D_relax_85
        · refine lv_iload hx hb d_D_relax_62 (lv_at hl 1 rfl) ?_
          refine lv_aload_n hx hb d_D_relax_64 rfl (lv_at hl 2 rfl) ?_
          refine va_get (D := (dC, dI)) (ci := 5) (v := .ref vA) (C := R_D) (T := F_D) (N := 34) hx hb hts iD hown hK hP 0 rfl rfl 12 (by decide) (hts _ (List.mem_cons_of_mem _ wk_D_32)) (fun _ h9 => h9) rfl d_D_relax_65 ?_
          refine lv_iload_n hx hb d_D_relax_68 rfl (lv_at hl 4 rfl) ?_
          refine nr_oald hx hb hK hP 4 0 rfl rfl (by omega) (by decide) d_D_relax_69 ?_
          rw [hwa]
          refine nr_as (v := nI wa) rfl ?_
          refine nr_icmp_ne (by omega) (by omega) (tgt := 86) hx hb d_D_relax_70 (by decide) (fun c_70 => ?_) (fun c_70 => ?_)
          · exact False.elim (by first | (rw [ng_rl_1 c_3 c_13 hwb hnb hwa] at hrl; cases hrl; done) | (rw [ng_rl_2 c_3 c_13 hwb hnb hwa hna (by omega)] at hrl; cases hrl; done))
          · refine lv_iload hx hb d_D_relax_73 (lv_at hl 0 rfl) ?_
            refine lv_aload_n hx hb d_D_relax_75 rfl (lv_at hl 2 rfl) ?_
            refine va_get (D := (dC, dI)) (ci := 5) (v := .ref yA) (C := R_D) (T := F_D) (N := 34) hx hb hts iD hown hK hP 0 rfl rfl 13 (by decide) (hts _ (List.mem_cons_of_mem _ wk_D_35)) (fun _ h9 => h9) rfl d_D_relax_76 ?_
            refine lv_iload_n hx hb d_D_relax_79 rfl (lv_at hl 4 rfl) ?_
            refine nr_oald hx hb hK hP 5 0 rfl rfl (by omega) (by decide) d_D_relax_80 ?_
            rw [hna]
            refine nr_as (v := nI na) rfl ?_
            refine nr_icmp_lt (by omega) (by omega) (tgt := 86) hx hb d_D_relax_81 (by decide) (fun c_81 => ?_) (fun c_81 => ?_)
            · exact False.elim (by first | (rw [ng_rl_1 c_3 c_13 hwb hnb hwa] at hrl; cases hrl; done) | (rw [ng_rl_2 c_3 c_13 hwb hnb hwa hna (by omega)] at hrl; cases hrl; done))
            · refine lv_iconst (v := nI 0) hx hb d_D_relax_84 (by decide) ?_
              exact ro_zret hx hb hr hlocks hS rfl rfl d_D_relax_85
    · refine lv_iconst (v := nI 0) hx hb d_D_relax_16 (by decide) ?_
      exact ro_zret hx hb hr hlocks hS rfl rfl d_D_relax_17
set_option maxHeartbeats 4000000 in
set_option maxRecDepth 100000 in
theorem c_D_relax_ok (l : Launch) (dC : Nat → ClassId) (dI : Nat → Nat → Nat) (cI cL cZ : ClassId) (dm : Nat) (th : Nat) (np : Nat) (ne : Nat) (fi : Int32) (kp : Int64) (iA : Nat) (tA : Nat) (oA : Nat) (uA : Nat) (wA : Nat) (sA : Nat) (eA : Nat) (vA : Nat) (yA : Nat) (lA : Nat) (ll : Nat) (mn : Nat) (xA : Nat) (cA : Nat) (zA : Nat) (pA : Nat) (bA : Nat) (fA : Nat) (gA : Nat) (bw : Nat) (bs : Nat) (ps : Nat) (qA : Nat) (rA : Nat) (aA : Nat) (kA : Nat) (lt : Nat) (wt : Nat) (fx : Int64) (ib : Nat → Bool) (wg : Nat → Nat) (ie : Nat → Bool) (wo eo : Nat → Option Nat) (e1 a b z : Nat) (w n : Nat) (he1 : e1 < 60) (ha : a < 20) (hb1 : b < 20) (hz : z < 20) (hV : ∀ p w, p < 20 → wo p = some w → ∃ n, eo p = some n ∧ n ≤ 19 ∧ w ≤ 19000000) (hh : ng_hv ie wg e1 ≤ 1000000) (hrl : ng_rl wo eo ib (ng_hv ie wg) z e1 a b = some (w, n)) : Met l y_D_relax w_D_relax ({ frames := 1, cells := 0, slots := 0, locals := 22 } : Room) (va_Pc [.ref dm, .int (nI e1), .int (nI a), .int (nI b), .int (nI z)] (rw_B (dC, dI) classes [(cI, .int), (cL, .long), (cZ, .boolean)] [cg_D dm th np ne fi kp iA tA oA uA wA sA eA vA yA lA ll mn xA cA zA pA bA fA gA bw bs ps qA rA aA kA lt wt fx, cg_B iA cZ 20 ib, cg_N wA cI 60 wg, cg_B eA cZ 60 ie, cg_O vA cI 20 wo, cg_O yA cI 20 eo])) (rw_Qi (dC, dI) classes (rw_A [cg_D dm th np ne fi kp iA tA oA uA wA sA eA vA yA lA ll mn xA cA zA pA bA fA gA bw bs ps qA rA aA kA lt wt fx, cg_B iA cZ 20 ib, cg_N wA cI 60 wg, cg_B eA cZ 60 ie, cg_O vA cI 20 wo, cg_O yA cI 20 eo]) (fun r (u : Unit) => r = (nb_i true)) (fun u => [cg_D dm th np ne fi kp iA tA oA uA wA sA eA vA yA lA ll mn xA cA zA pA bA fA gA bw bs ps qA rA aA kA lt wt fx, cg_B iA cZ 20 ib, cg_N wA cI 60 wg, cg_B eA cZ 60 ie, cg_O vA cI 20 (va_up wo a (some w)), cg_O yA cI 20 (va_up eo a (some n))])) 0 0 (rw_A [cg_D dm th np ne fi kp iA tA oA uA wA sA eA vA yA lA ll mn xA cA zA pA bA fA gA bw bs ps qA rA aA kA lt wt fx, cg_B iA cZ 20 ib, cg_N wA cI 60 wg, cg_B eA cZ 60 ie, cg_O vA cI 20 wo, cg_O yA cI 20 eo]) := by
  refine Met.ofW (cc := b_D_relax) (maxL := 7) (ret := (some .boolean)) (by decide) rfl ?_
  intro p e s m args below meth c s₁ B hml hv
  obtain ⟨rfl, hP, hK, hD0⟩ := hv
  have hx := B.exec
  have hb := B.bytes
  have hr := B.returns
  have hts := atoms_spec (ws := w_D_relax) B.pre
  have hown : s.vm.findClass R_D = some m.cls := findClass_of_methodNamed B.named
  have hlocks := B.notSynchronized
  have iD : ∀ w ∈ w_D, w ∈ w_D_relax := fun w h => List.mem_cons_of_mem _ (i_D w h)
  have hD := rw_own hD0
  generalize hAe : rw_A [cg_D dm th np ne fi kp iA tA oA uA wA sA eA vA yA lA ll mn xA cA zA pA bA fA gA bw bs ps qA rA aA kA lt wt fx, cg_B iA cZ 20 ib, cg_N wA cI 60 wg, cg_B eA cZ 60 ie, cg_O vA cI 20 wo, cg_O yA cI 20 eo] = A at hD ⊢
  have hS : va_S A s.heap s.heap [] := va_S.rf
  have hP : va_P (dC, dI) classes [cg_D dm th np ne fi kp iA tA oA uA wA sA eA vA yA lA ll mn xA cA zA pA bA fA gA bw bs ps qA rA aA kA lt wt fx, cg_B iA cZ 20 ib, cg_N wA cI 60 wg, cg_B eA cZ 60 ie, cg_O vA cI 20 wo, cg_O yA cI 20 eo] s.heap := hP
  have hl := lv_entry ([.ref dm, .int (nI e1), .int (nI a), .int (nI b), .int (nI z)]) (n := 7) (Nat.le_of_ble_eq_true rfl)
  rw [lg_entry_eq]
  generalize (lg_sl ([.ref dm, .int (nI e1), .int (nI a), .int (nI b), .int (nI z)]) ++ List.replicate (7 - (lg_sl ([.ref dm, .int (nI e1), .int (nI a), .int (nI b), .int (nI z)])).length) Slot.unset).toArray = ls at hl ⊢
  have hl : lv_has ls 7 [(0, .ref dm), (1, .int (nI e1)), (2, .int (nI a)), (3, .int (nI b)), (4, .int (nI z))] := hl
  refine lv_iload_n hx hb d_D_relax_0 rfl (lv_at hl 2 rfl) ?_
  refine lv_iload hx hb d_D_relax_1 (lv_at hl 4 rfl) ?_
  refine nr_icmp_eq (by omega) (by omega) (tgt := 16) hx hb d_D_relax_3 (by decide) (fun c_3 => ?_) (fun c_3 => ?_)
  · exact False.elim (by first | (rw [ng_rl_az c_3] at hrl; cases hrl; done) | (rw [ng_rl_ng c_13] at hrl; cases hrl; done))
  · refine lv_aload_n hx hb d_D_relax_6 rfl (lv_at hl 0 rfl) ?_
    refine lv_iload_n hx hb d_D_relax_7 rfl (lv_at hl 3 rfl) ?_
    refine lv_iload hx hb d_D_relax_8 (lv_at hl 4 rfl) ?_
    refine ro_Vi (As := [.int (nI b), .int (nI z)]) (rest := []) ⟨hx, hb, hml, hown, hts⟩ (c_D_goesOn l dC dI cI cL cZ dm th np ne fi kp iA tA oA uA wA sA eA vA yA lA ll mn xA cA zA pA bA fA gA bw bs ps qA rA aA kA lt wt fx ib wo b z hb1 (by omega) (fun w hw => by obtain ⟨n, -, -, q⟩ := hV b w hb1 hw; omega)) (cwV 2 hts (wg_V wk_D_113 wm_D_goesOn we_D_goesOn wi_D wc_D_goesOn) rfl rfl rfl (by decide +kernel) ⟨Nat.le_of_ble_eq_true rfl, Nat.le_of_ble_eq_true rfl⟩) hK (hP.sub [0, 1, 4] rfl) (q0 := 0) rfl rfl rfl rfl hl.1 rfl (lv_room (Nat.le_of_ble_eq_true rfl)) d_D_relax_10 ⟨Nat.zero_le _, Nat.zero_le _⟩ hS hP (fun H locs hP hS => ?_)
    refine nr_ifneB (tgt := 18) hx hb d_D_relax_13 (by decide) (fun c_13 => ?_) (fun c_13 => ?_)
    · obtain ⟨wb, hwb, hbz⟩ := ng_go_t c_13
      obtain ⟨nb, hnb, n1, n2⟩ := hV b wb hb1 hwb
      refine lv_aload_n hx hb d_D_relax_18 rfl (lv_at hl 0 rfl) ?_
      refine va_get (D := (dC, dI)) (ci := 5) (v := .ref vA) (C := R_D) (T := F_D) (N := 34) hx hb hts iD hown hK hP 0 rfl rfl 12 (by decide) (hts _ (List.mem_cons_of_mem _ wk_D_32)) (fun _ h9 => h9) rfl d_D_relax_19 ?_
      refine lv_iload_n hx hb d_D_relax_22 rfl (lv_at hl 3 rfl) ?_
      refine nr_oald hx hb hK hP 4 0 rfl rfl (by omega) (by decide) d_D_relax_23 ?_
      rw [hwb]
      refine nr_as (v := nI wb) rfl ?_
      refine lv_aload_n hx hb d_D_relax_24 rfl (lv_at hl 0 rfl) ?_
      refine lv_iload_n hx hb d_D_relax_25 rfl (lv_at hl 1 rfl) ?_
      refine ro_Vi (As := [.int (nI e1)]) (rest := [.int (nI wb)]) ⟨hx, hb, hml, hown, hts⟩ (c_D_heavy l dC dI cI cL cZ dm th np ne fi kp iA tA oA uA wA sA eA vA yA lA ll mn xA cA zA pA bA fA gA bw bs ps qA rA aA kA lt wt fx ie wg e1 (by omega)) (cwV 1 hts (wg_V wk_D_117 wm_D_heavy we_D_heavy wi_D wc_D_heavy) rfl rfl rfl (by decide +kernel) ⟨Nat.le_of_ble_eq_true rfl, Nat.le_of_ble_eq_true rfl⟩) hK (hP.sub [0, 3, 2] rfl) (q0 := 0) rfl rfl rfl rfl hl.1 rfl (lv_room (Nat.le_of_ble_eq_true rfl)) d_D_relax_26 ⟨Nat.zero_le _, Nat.zero_le _⟩ hS hP (fun H locs hP hS => ?_)
      refine nr_iadd hx hb d_D_relax_29 ?_
      refine lv_istore (lv' := [(5, .int (nI (wb + (ng_hv ie wg e1)))), (0, .ref dm), (1, .int (nI e1)), (2, .int (nI a)), (3, .int (nI b)), (4, .int (nI z))]) hx hb d_D_relax_30 hl (by decide) rfl (fun ls hl => ?_)
      refine lv_aload_n hx hb d_D_relax_32 rfl (lv_at hl 1 rfl) ?_
      refine va_get (D := (dC, dI)) (ci := 5) (v := .ref yA) (C := R_D) (T := F_D) (N := 34) hx hb hts iD hown hK hP 0 rfl rfl 13 (by decide) (hts _ (List.mem_cons_of_mem _ wk_D_35)) (fun _ h9 => h9) rfl d_D_relax_33 ?_
      refine lv_iload_n hx hb d_D_relax_36 rfl (lv_at hl 4 rfl) ?_
      refine nr_oald hx hb hK hP 5 0 rfl rfl (by omega) (by decide) d_D_relax_37 ?_
      rw [hnb]
      refine nr_as (v := nI nb) rfl ?_
      refine lv_iconst (v := nI 1) hx hb d_D_relax_38 (by decide) ?_
      refine nr_iadd hx hb d_D_relax_39 ?_
      refine lv_istore (lv' := [(6, .int (nI (nb + 1))), (5, .int (nI (wb + (ng_hv ie wg e1)))), (0, .ref dm), (1, .int (nI e1)), (2, .int (nI a)), (3, .int (nI b)), (4, .int (nI z))]) hx hb d_D_relax_40 hl (by decide) rfl (fun ls hl => ?_)
      refine lv_aload_n hx hb d_D_relax_42 rfl (lv_at hl 2 rfl) ?_
      refine va_get (D := (dC, dI)) (ci := 5) (v := .ref vA) (C := R_D) (T := F_D) (N := 34) hx hb hts iD hown hK hP 0 rfl rfl 12 (by decide) (hts _ (List.mem_cons_of_mem _ wk_D_32)) (fun _ h9 => h9) rfl d_D_relax_43 ?_
      refine lv_iload_n hx hb d_D_relax_46 rfl (lv_at hl 4 rfl) ?_
      refine nr_oald hx hb hK hP 4 0 rfl rfl (by omega) (by decide) d_D_relax_47 ?_
      rcases hwa : wo a with _ | wa
      · refine nr_as (v := -1) rfl ?_
        refine lv_if_lt (tgt := 86) hx hb d_D_relax_48 (by decide) (fun c_48 => ?_) (fun c => absurd ng_m1l c)
        have e9 : some (w, n) = some (wb + ng_hv ie wg e1, nb + 1) := by first | exact hrl.symm.trans (ng_rl_1 c_3 c_13 hwb hnb hwa) | exact hrl.symm.trans (ng_rl_2 c_3 c_13 hwb hnb hwa hna (by omega))
        obtain ⟨rfl, rfl⟩ : w = wb + ng_hv ie wg e1 ∧ n = nb + 1 := by cases e9; exact ⟨rfl, rfl⟩
        refine lv_aload_n hx hb d_D_relax_86 rfl (lv_at hl 2 rfl) ?_
        refine va_get (D := (dC, dI)) (ci := 5) (v := .ref vA) (C := R_D) (T := F_D) (N := 34) hx hb hts iD hown hK hP 0 rfl rfl 12 (by decide) (hts _ (List.mem_cons_of_mem _ wk_D_32)) (fun _ h9 => h9) rfl d_D_relax_87 ?_
        refine lv_iload_n hx hb d_D_relax_90 rfl (lv_at hl 4 rfl) ?_
        refine lv_iload hx hb d_D_relax_91 (lv_at hl 1 rfl) ?_
        refine nr_oast (x := (some (wb + (ng_hv ie wg e1)))) hx hb hK hP hD hS 4 0 rfl rfl (by omega) (by decide) d_D_relax_93 (fun H locs hP hD hS => ?_)
        have hP : va_P (dC, dI) classes [cg_D dm th np ne fi kp iA tA oA uA wA sA eA vA yA lA ll mn xA cA zA pA bA fA gA bw bs ps qA rA aA kA lt wt fx, cg_B iA cZ 20 ib, cg_N wA cI 60 wg, cg_B eA cZ 60 ie, cg_O vA cI 20 (va_up wo a (some (wb + (ng_hv ie wg e1)))), cg_O yA cI 20 eo] H := hP
        have hD : va_D A [cg_D dm th np ne fi kp iA tA oA uA wA sA eA vA yA lA ll mn xA cA zA pA bA fA gA bw bs ps qA rA aA kA lt wt fx, cg_B iA cZ 20 ib, cg_N wA cI 60 wg, cg_B eA cZ 60 ie, cg_O vA cI 20 (va_up wo a (some (wb + (ng_hv ie wg e1)))), cg_O yA cI 20 eo] := hD
        refine lv_aload_n hx hb d_D_relax_94 rfl (lv_at hl 2 rfl) ?_
        refine va_get (D := (dC, dI)) (ci := 5) (v := .ref yA) (C := R_D) (T := F_D) (N := 34) hx hb hts iD hown hK hP 0 rfl rfl 13 (by decide) (hts _ (List.mem_cons_of_mem _ wk_D_35)) (fun _ h9 => h9) rfl d_D_relax_95 ?_
        refine lv_iload_n hx hb d_D_relax_98 rfl (lv_at hl 4 rfl) ?_
        refine lv_iload hx hb d_D_relax_99 (lv_at hl 0 rfl) ?_
        refine nr_oast (x := (some (nb + 1))) hx hb hK hP hD hS 5 0 rfl rfl (by omega) (by decide) d_D_relax_101 (fun H locs hP hD hS => ?_)
        have hP : va_P (dC, dI) classes [cg_D dm th np ne fi kp iA tA oA uA wA sA eA vA yA lA ll mn xA cA zA pA bA fA gA bw bs ps qA rA aA kA lt wt fx, cg_B iA cZ 20 ib, cg_N wA cI 60 wg, cg_B eA cZ 60 ie, cg_O vA cI 20 (va_up wo a (some (wb + (ng_hv ie wg e1)))), cg_O yA cI 20 (va_up eo a (some (nb + 1)))] H := hP
        have hD : va_D A [cg_D dm th np ne fi kp iA tA oA uA wA sA eA vA yA lA ll mn xA cA zA pA bA fA gA bw bs ps qA rA aA kA lt wt fx, cg_B iA cZ 20 ib, cg_N wA cI 60 wg, cg_B eA cZ 60 ie, cg_O vA cI 20 (va_up wo a (some (wb + (ng_hv ie wg e1)))), cg_O yA cI 20 (va_up eo a (some (nb + 1)))] := hD
        refine lv_iconst (v := nI 1) hx hb d_D_relax_102 (by decide) ?_
        exact rw_zret () (b := true) hx hb hr hlocks hS hP rfl rfl d_D_relax_103
      · refine nr_as (v := nI wa) rfl ?_
        obtain ⟨na, hna, m1, m2⟩ := hV a wa ha hwa
        refine nr_if_lt (by omega) (tgt := 86) hx hb d_D_relax_48 (by decide) (fun c => False.elim c) (fun c_48 => ?_)
        refine lv_iload hx hb d_D_relax_51 (lv_at hl 1 rfl) ?_
        refine lv_aload_n hx hb d_D_relax_53 rfl (lv_at hl 2 rfl) ?_
        refine va_get (D := (dC, dI)) (ci := 5) (v := .ref vA) (C := R_D) (T := F_D) (N := 34) hx hb hts iD hown hK hP 0 rfl rfl 12 (by decide) (hts _ (List.mem_cons_of_mem _ wk_D_32)) (fun _ h9 => h9) rfl d_D_relax_54 ?_
        refine lv_iload_n hx hb d_D_relax_57 rfl (lv_at hl 4 rfl) ?_
        refine nr_oald hx hb hK hP 4 0 rfl rfl (by omega) (by decide) d_D_relax_58 ?_
        rw [hwa]
        refine nr_as (v := nI wa) rfl ?_
        refine nr_icmp_gt (by omega) (by omega) (tgt := 84) hx hb d_D_relax_59 (by decide) (fun c_59 => ?_) (fun c_59 => ?_)
        · exact False.elim (by rw [ng_rl_3 c_3 c_13 hwb hnb hwa hna (by omega)] at hrl; cases hrl)
        · refine lv_iload hx hb d_D_relax_62 (lv_at hl 1 rfl) ?_
          refine lv_aload_n hx hb d_D_relax_64 rfl (lv_at hl 2 rfl) ?_
          refine va_get (D := (dC, dI)) (ci := 5) (v := .ref vA) (C := R_D) (T := F_D) (N := 34) hx hb hts iD hown hK hP 0 rfl rfl 12 (by decide) (hts _ (List.mem_cons_of_mem _ wk_D_32)) (fun _ h9 => h9) rfl d_D_relax_65 ?_
          refine lv_iload_n hx hb d_D_relax_68 rfl (lv_at hl 4 rfl) ?_
          refine nr_oald hx hb hK hP 4 0 rfl rfl (by omega) (by decide) d_D_relax_69 ?_
          rw [hwa]
          refine nr_as (v := nI wa) rfl ?_
          refine nr_icmp_ne (by omega) (by omega) (tgt := 86) hx hb d_D_relax_70 (by decide) (fun c_70 => ?_) (fun c_70 => ?_)
          · have e9 : some (w, n) = some (wb + ng_hv ie wg e1, nb + 1) := by first | exact hrl.symm.trans (ng_rl_1 c_3 c_13 hwb hnb hwa) | exact hrl.symm.trans (ng_rl_2 c_3 c_13 hwb hnb hwa hna (by omega))
            obtain ⟨rfl, rfl⟩ : w = wb + ng_hv ie wg e1 ∧ n = nb + 1 := by cases e9; exact ⟨rfl, rfl⟩
            refine lv_aload_n hx hb d_D_relax_86 rfl (lv_at hl 2 rfl) ?_
            refine va_get (D := (dC, dI)) (ci := 5) (v := .ref vA) (C := R_D) (T := F_D) (N := 34) hx hb hts iD hown hK hP 0 rfl rfl 12 (by decide) (hts _ (List.mem_cons_of_mem _ wk_D_32)) (fun _ h9 => h9) rfl d_D_relax_87 ?_
            refine lv_iload_n hx hb d_D_relax_90 rfl (lv_at hl 4 rfl) ?_
            refine lv_iload hx hb d_D_relax_91 (lv_at hl 1 rfl) ?_
            refine nr_oast (x := (some (wb + (ng_hv ie wg e1)))) hx hb hK hP hD hS 4 0 rfl rfl (by omega) (by decide) d_D_relax_93 (fun H locs hP hD hS => ?_)
            have hP : va_P (dC, dI) classes [cg_D dm th np ne fi kp iA tA oA uA wA sA eA vA yA lA ll mn xA cA zA pA bA fA gA bw bs ps qA rA aA kA lt wt fx, cg_B iA cZ 20 ib, cg_N wA cI 60 wg, cg_B eA cZ 60 ie, cg_O vA cI 20 (va_up wo a (some (wb + (ng_hv ie wg e1)))), cg_O yA cI 20 eo] H := hP
            have hD : va_D A [cg_D dm th np ne fi kp iA tA oA uA wA sA eA vA yA lA ll mn xA cA zA pA bA fA gA bw bs ps qA rA aA kA lt wt fx, cg_B iA cZ 20 ib, cg_N wA cI 60 wg, cg_B eA cZ 60 ie, cg_O vA cI 20 (va_up wo a (some (wb + (ng_hv ie wg e1)))), cg_O yA cI 20 eo] := hD
            refine lv_aload_n hx hb d_D_relax_94 rfl (lv_at hl 2 rfl) ?_
            refine va_get (D := (dC, dI)) (ci := 5) (v := .ref yA) (C := R_D) (T := F_D) (N := 34) hx hb hts iD hown hK hP 0 rfl rfl 13 (by decide) (hts _ (List.mem_cons_of_mem _ wk_D_35)) (fun _ h9 => h9) rfl d_D_relax_95 ?_
            refine lv_iload_n hx hb d_D_relax_98 rfl (lv_at hl 4 rfl) ?_
            refine lv_iload hx hb d_D_relax_99 (lv_at hl 0 rfl) ?_
            refine nr_oast (x := (some (nb + 1))) hx hb hK hP hD hS 5 0 rfl rfl (by omega) (by decide) d_D_relax_101 (fun H locs hP hD hS => ?_)
            have hP : va_P (dC, dI) classes [cg_D dm th np ne fi kp iA tA oA uA wA sA eA vA yA lA ll mn xA cA zA pA bA fA gA bw bs ps qA rA aA kA lt wt fx, cg_B iA cZ 20 ib, cg_N wA cI 60 wg, cg_B eA cZ 60 ie, cg_O vA cI 20 (va_up wo a (some (wb + (ng_hv ie wg e1)))), cg_O yA cI 20 (va_up eo a (some (nb + 1)))] H := hP
            have hD : va_D A [cg_D dm th np ne fi kp iA tA oA uA wA sA eA vA yA lA ll mn xA cA zA pA bA fA gA bw bs ps qA rA aA kA lt wt fx, cg_B iA cZ 20 ib, cg_N wA cI 60 wg, cg_B eA cZ 60 ie, cg_O vA cI 20 (va_up wo a (some (wb + (ng_hv ie wg e1)))), cg_O yA cI 20 (va_up eo a (some (nb + 1)))] := hD
            refine lv_iconst (v := nI 1) hx hb d_D_relax_102 (by decide) ?_
            exact rw_zret () (b := true) hx hb hr hlocks hS hP rfl rfl d_D_relax_103
          · refine lv_iload hx hb d_D_relax_73 (lv_at hl 0 rfl) ?_
            refine lv_aload_n hx hb d_D_relax_75 rfl (lv_at hl 2 rfl) ?_
            refine va_get (D := (dC, dI)) (ci := 5) (v := .ref yA) (C := R_D) (T := F_D) (N := 34) hx hb hts iD hown hK hP 0 rfl rfl 13 (by decide) (hts _ (List.mem_cons_of_mem _ wk_D_35)) (fun _ h9 => h9) rfl d_D_relax_76 ?_
            refine lv_iload_n hx hb d_D_relax_79 rfl (lv_at hl 4 rfl) ?_
            refine nr_oald hx hb hK hP 5 0 rfl rfl (by omega) (by decide) d_D_relax_80 ?_
            rw [hna]
            refine nr_as (v := nI na) rfl ?_
            refine nr_icmp_lt (by omega) (by omega) (tgt := 86) hx hb d_D_relax_81 (by decide) (fun c_81 => ?_) (fun c_81 => ?_)
            · have e9 : some (w, n) = some (wb + ng_hv ie wg e1, nb + 1) := by first | exact hrl.symm.trans (ng_rl_1 c_3 c_13 hwb hnb hwa) | exact hrl.symm.trans (ng_rl_2 c_3 c_13 hwb hnb hwa hna (by omega))
              obtain ⟨rfl, rfl⟩ : w = wb + ng_hv ie wg e1 ∧ n = nb + 1 := by cases e9; exact ⟨rfl, rfl⟩
              refine lv_aload_n hx hb d_D_relax_86 rfl (lv_at hl 2 rfl) ?_
              refine va_get (D := (dC, dI)) (ci := 5) (v := .ref vA) (C := R_D) (T := F_D) (N := 34) hx hb hts iD hown hK hP 0 rfl rfl 12 (by decide) (hts _ (List.mem_cons_of_mem _ wk_D_32)) (fun _ h9 => h9) rfl d_D_relax_87 ?_
              refine lv_iload_n hx hb d_D_relax_90 rfl (lv_at hl 4 rfl) ?_
              refine lv_iload hx hb d_D_relax_91 (lv_at hl 1 rfl) ?_
              refine nr_oast (x := (some (wb + (ng_hv ie wg e1)))) hx hb hK hP hD hS 4 0 rfl rfl (by omega) (by decide) d_D_relax_93 (fun H locs hP hD hS => ?_)
              have hP : va_P (dC, dI) classes [cg_D dm th np ne fi kp iA tA oA uA wA sA eA vA yA lA ll mn xA cA zA pA bA fA gA bw bs ps qA rA aA kA lt wt fx, cg_B iA cZ 20 ib, cg_N wA cI 60 wg, cg_B eA cZ 60 ie, cg_O vA cI 20 (va_up wo a (some (wb + (ng_hv ie wg e1)))), cg_O yA cI 20 eo] H := hP
              have hD : va_D A [cg_D dm th np ne fi kp iA tA oA uA wA sA eA vA yA lA ll mn xA cA zA pA bA fA gA bw bs ps qA rA aA kA lt wt fx, cg_B iA cZ 20 ib, cg_N wA cI 60 wg, cg_B eA cZ 60 ie, cg_O vA cI 20 (va_up wo a (some (wb + (ng_hv ie wg e1)))), cg_O yA cI 20 eo] := hD
              refine lv_aload_n hx hb d_D_relax_94 rfl (lv_at hl 2 rfl) ?_
              refine va_get (D := (dC, dI)) (ci := 5) (v := .ref yA) (C := R_D) (T := F_D) (N := 34) hx hb hts iD hown hK hP 0 rfl rfl 13 (by decide) (hts _ (List.mem_cons_of_mem _ wk_D_35)) (fun _ h9 => h9) rfl d_D_relax_95 ?_
              refine lv_iload_n hx hb d_D_relax_98 rfl (lv_at hl 4 rfl) ?_
              refine lv_iload hx hb d_D_relax_99 (lv_at hl 0 rfl) ?_
              refine nr_oast (x := (some (nb + 1))) hx hb hK hP hD hS 5 0 rfl rfl (by omega) (by decide) d_D_relax_101 (fun H locs hP hD hS => ?_)
              have hP : va_P (dC, dI) classes [cg_D dm th np ne fi kp iA tA oA uA wA sA eA vA yA lA ll mn xA cA zA pA bA fA gA bw bs ps qA rA aA kA lt wt fx, cg_B iA cZ 20 ib, cg_N wA cI 60 wg, cg_B eA cZ 60 ie, cg_O vA cI 20 (va_up wo a (some (wb + (ng_hv ie wg e1)))), cg_O yA cI 20 (va_up eo a (some (nb + 1)))] H := hP
              have hD : va_D A [cg_D dm th np ne fi kp iA tA oA uA wA sA eA vA yA lA ll mn xA cA zA pA bA fA gA bw bs ps qA rA aA kA lt wt fx, cg_B iA cZ 20 ib, cg_N wA cI 60 wg, cg_B eA cZ 60 ie, cg_O vA cI 20 (va_up wo a (some (wb + (ng_hv ie wg e1)))), cg_O yA cI 20 (va_up eo a (some (nb + 1)))] := hD
              refine lv_iconst (v := nI 1) hx hb d_D_relax_102 (by decide) ?_
              exact rw_zret () (b := true) hx hb hr hlocks hS hP rfl rfl d_D_relax_103
            · exact False.elim (by rw [ng_rl_3 c_3 c_13 hwb hnb hwa hna (by omega)] at hrl; cases hrl)
    · exact False.elim (by first | (rw [ng_rl_az c_3] at hrl; cases hrl; done) | (rw [ng_rl_ng c_13] at hrl; cases hrl; done))
