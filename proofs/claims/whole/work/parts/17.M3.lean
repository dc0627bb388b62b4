set_option maxHeartbeats 4000000 in
set_option maxRecDepth 100000 in
theorem c_M_tellFirst (l : Launch) (dC : Nat → ClassId) (dI : Nat → Nat → Nat) (cI cL : ClassId) (g tA oA uA wA sA np ne : Nat) (bd : Int32) (er : Int64) (vr : Nat) (wy cA rA : Nat) (mv : Int32) (tl : Nat) (mt xA nA pA qA kA rl : Nat) (fo lA hA sz fw fk : Nat) (od : Int64) (oe ot wt ct tr row pw lw lc le ho : Nat → Nat) (nr : Nat → Option Nat) (hne : ne ≤ 60) (hE : ∀ i, i < ne → oe i < 20 ∧ ot i < 20) (hW : ∀ i, i < ne → ng_w er wt i ≤ 1000000) (hct : ∀ i, i < 400 → ct i ≤ dm_FAR) (hnp : np ≤ 20) (hrl : rl ≤ 10) (hrow : ∀ j, j < rl → row j < np) (hnr : ∀ j y, j < rl → nr j = some y → y < np) (hpv : ∀ a b, a ≤ b → b < rl → pw (a * 10 + b) = ng_pv ct row nr a b) (hpw : ∀ i, i < 100 → pw i ≤ ng_F1) (hgr : ng_gr rl pw lw lc (2 ^ rl)) (hfin : lw (2 ^ rl - 1) ≠ ng_F1) (htl0 : tl ≤ 20) : Met l y_M_tellFirst w_M_tellFirst ({ frames := 4, cells := 0, slots := 0, locals := 91 } : Room) (va_Pc [.ref mt, .ref fo] (rw_B (dC, dI) classes [(cI, .int), (cL, .long)] [cg_G g tA oA uA wA sA np ne bd er vr, cg_N oA cI 60 oe, cg_N uA cI 60 ot, cg_N wA cI 60 wt, cg_W wy g cA rA mv tl, cg_L cA cL 400 ct, cg_N rA cI 20 tr, cg_M mt g wy xA nA pA qA kA rl, cg_N xA cI 10 row, cg_O nA cI 10 nr, cg_N pA cI 100 pw, cg_N qA cI 1024 lw, cg_N kA cI 1024 lc, cg_F fo lA hA sz fw fk od, cg_N lA cI 10 le, cg_N hA cI 10 ho])) (rw_Qv (dC, dI) classes (rw_A [cg_G g tA oA uA wA sA np ne bd er vr, cg_N oA cI 60 oe, cg_N uA cI 60 ot, cg_N wA cI 60 wt, cg_W wy g cA rA mv tl, cg_L cA cL 400 ct, cg_N rA cI 20 tr, cg_M mt g wy xA nA pA qA kA rl, cg_N xA cI 10 row, cg_O nA cI 10 nr, cg_N pA cI 100 pw, cg_N qA cI 1024 lw, cg_N kA cI 1024 lc, cg_F fo lA hA sz fw fk od, cg_N lA cI 10 le, cg_N hA cI 10 ho]) (fun (u : (Nat) × (Nat → Nat) × (Nat → Nat) × (Nat → Nat)) => ng_pr np row nr (ng_tf rl pw lw rl 0 (2 ^ rl - 1)) u.2.2.1 u.2.2.2 (ng_tf rl pw lw rl 0 (2 ^ rl - 1)).length ∧ (ng_tf rl pw lw rl 0 (2 ^ rl - 1)).length ≤ 10 ∧ u.1 ≤ 20) (fun u => [cg_G g tA oA uA wA sA np ne bd er vr, cg_N oA cI 60 oe, cg_N uA cI 60 ot, cg_N wA cI 60 wt, cg_W wy g cA rA mv u.1, cg_L cA cL 400 ct, cg_N rA cI 20 u.2.1, cg_M mt g wy xA nA pA qA kA rl, cg_N xA cI 10 row, cg_O nA cI 10 nr, cg_N pA cI 100 pw, cg_N qA cI 1024 lw, cg_N kA cI 1024 lc, cg_F fo lA hA ((ng_tf rl pw lw rl 0 (2 ^ rl - 1)).length) (lw (2 ^ rl - 1)) (lc (2 ^ rl - 1)) (ng_od (ng_pset bd er oe ot wt ct ne) row nr (ng_tf rl pw lw rl 0 (2 ^ rl - 1))), cg_N lA cI 10 u.2.2.1, cg_N hA cI 10 u.2.2.2])) 0 0 (rw_A [cg_G g tA oA uA wA sA np ne bd er vr, cg_N oA cI 60 oe, cg_N uA cI 60 ot, cg_N wA cI 60 wt, cg_W wy g cA rA mv tl, cg_L cA cL 400 ct, cg_N rA cI 20 tr, cg_M mt g wy xA nA pA qA kA rl, cg_N xA cI 10 row, cg_O nA cI 10 nr, cg_N pA cI 100 pw, cg_N qA cI 1024 lw, cg_N kA cI 1024 lc, cg_F fo lA hA sz fw fk od, cg_N lA cI 10 le, cg_N hA cI 10 ho]) := by
  refine Met.ofW (cc := b_M_tellFirst) (maxL := 6) (ret := none) (by decide) rfl ?_
  intro p e s m args below meth c s₁ B hml hv
  obtain ⟨rfl, hP, hK, hD0⟩ := hv
  have hx := B.exec
  have hb := B.bytes
  have hr := B.returns
  have hts := atoms_spec (ws := w_M_tellFirst) B.pre
  have hown : s.vm.findClass R_M = some m.cls := findClass_of_methodNamed B.named
  have hlocks := B.notSynchronized
  have iM : ∀ w ∈ w_M, w ∈ w_M_tellFirst := fun w h => List.mem_cons_of_mem _ (i_M w h)
  have hD := rw_own hD0
  generalize hAe : rw_A [cg_G g tA oA uA wA sA np ne bd er vr, cg_N oA cI 60 oe, cg_N uA cI 60 ot, cg_N wA cI 60 wt, cg_W wy g cA rA mv tl, cg_L cA cL 400 ct, cg_N rA cI 20 tr, cg_M mt g wy xA nA pA qA kA rl, cg_N xA cI 10 row, cg_O nA cI 10 nr, cg_N pA cI 100 pw, cg_N qA cI 1024 lw, cg_N kA cI 1024 lc, cg_F fo lA hA sz fw fk od, cg_N lA cI 10 le, cg_N hA cI 10 ho] = A at hD ⊢
  have hS : va_S A s.heap s.heap [] := va_S.rf
  have hP : va_P (dC, dI) classes [cg_G g tA oA uA wA sA np ne bd er vr, cg_N oA cI 60 oe, cg_N uA cI 60 ot, cg_N wA cI 60 wt, cg_W wy g cA rA mv tl, cg_L cA cL 400 ct, cg_N rA cI 20 tr, cg_M mt g wy xA nA pA qA kA rl, cg_N xA cI 10 row, cg_O nA cI 10 nr, cg_N pA cI 100 pw, cg_N qA cI 1024 lw, cg_N kA cI 1024 lc, cg_F fo lA hA sz fw fk od, cg_N lA cI 10 le, cg_N hA cI 10 ho] s.heap := hP
  have hl := lv_entry ([.ref mt, .ref fo]) (n := 6) (Nat.le_of_ble_eq_true rfl)
  rw [lg_entry_eq]
  generalize (lg_sl ([.ref mt, .ref fo]) ++ List.replicate (6 - (lg_sl ([.ref mt, .ref fo])).length) Slot.unset).toArray = ls at hl ⊢
  have hl : lv_has ls 6 [(0, .ref mt), (1, .ref fo)] := hl
  have hF1 : ng_F1 = 1000000000 := rfl
  have hp2 : 2 ^ rl ≤ 2 ^ 10 := Nat.pow_le_pow_right (by decide) hrl
  have hp1 : 0 < 2 ^ rl := Nat.pow_pos (by decide)
  refine lv_aload_n hx hb d_M_tellFirst_0 rfl (lv_at hl 0 rfl) ?_
  refine ro_Vi (As := []) (rest := []) ⟨hx, hb, hml, hown, hts⟩ (c_M_wholeGroup l dC dI cI cL mt g wy xA nA pA qA kA rl hrl) (cwV 0 hts (wg_V wk_M_46 wm_M_wholeGroup we_M_wholeGroup wi_M wc_M_wholeGroup) rfl rfl rfl (by decide +kernel) ⟨Nat.le_of_ble_eq_true rfl, Nat.le_of_ble_eq_true rfl⟩) hK (hP.sub [7] rfl) (q0 := 0) rfl rfl rfl rfl hl.1 rfl (lv_room (Nat.le_of_ble_eq_true rfl)) d_M_tellFirst_1 ⟨Nat.zero_le _, Nat.zero_le _⟩ hS hP (fun H locs hP hS => ?_)
  refine lv_istore_n (lv' := [(2, .int (nI (2 ^ rl - 1))), (0, .ref mt), (1, .ref fo)]) hx hb d_M_tellFirst_4 rfl hl (by decide) rfl (fun ls hl => ?_)
  refine lv_aload_n hx hb d_M_tellFirst_5 rfl (lv_at hl 2 rfl) ?_
  refine lv_aload_n hx hb d_M_tellFirst_6 rfl (lv_at hl 1 rfl) ?_
  refine va_get (D := (dC, dI)) (ci := 3) (v := .ref qA) (C := R_M) (T := F_M) (N := 8) hx hb hts iM hown hK hP 7 rfl rfl 5 (by decide) (hts _ (List.mem_cons_of_mem _ wk_M_21)) (fun _ h9 => h9) rfl d_M_tellFirst_7 ?_
  refine lv_iload_n hx hb d_M_tellFirst_10 rfl (lv_at hl 0 rfl) ?_
  refine nr_iald hx hb hK hP 11 0 rfl rfl (by omega) (by decide) d_M_tellFirst_11 ?_
  refine lv_aload_n hx hb d_M_tellFirst_12 rfl (lv_at hl 1 rfl) ?_
  refine va_get (D := (dC, dI)) (ci := 3) (v := .ref kA) (C := R_M) (T := F_M) (N := 8) hx hb hts iM hown hK hP 7 rfl rfl 6 (by decide) (hts _ (List.mem_cons_of_mem _ wk_M_24)) (fun _ h9 => h9) rfl d_M_tellFirst_13 ?_
  refine lv_iload_n hx hb d_M_tellFirst_16 rfl (lv_at hl 0 rfl) ?_
  refine nr_iald hx hb hK hP 12 0 rfl rfl (by omega) (by decide) d_M_tellFirst_17 ?_
  refine rw_Vv (wr := [cg_G g tA oA uA wA sA np ne bd er vr, cg_N oA cI 60 oe, cg_N uA cI 60 ot, cg_N wA cI 60 wt, cg_W wy g cA rA mv tl, cg_L cA cL 400 ct, cg_N rA cI 20 tr, cg_M mt g wy xA nA pA qA kA rl, cg_N xA cI 10 row, cg_O nA cI 10 nr, cg_N pA cI 100 pw, cg_N qA cI 1024 lw, cg_N kA cI 1024 lc, cg_N lA cI 10 le, cg_N hA cI 10 ho]) [13] [0, 1, 2, 3, 4, 5, 6, 7, 8, 9, 10, 11, 12, 14, 15] rfl rfl (by decide) (As := [.int (nI (lw (2 ^ rl - 1))), .int (nI (lc (2 ^ rl - 1)))]) (rest := []) ⟨hx, hb, hml, hown, hts⟩ (c_F_begin l dC dI cI cL fo lA hA sz fw fk od (lw (2 ^ rl - 1)) (lc (2 ^ rl - 1)) ) (cwV 2 hts (wg_V wk_M_54 wm_F_begin we_F_begin wi_F wc_F_begin) rfl rfl rfl (by decide +kernel) ⟨Nat.le_of_ble_eq_true rfl, Nat.le_of_ble_eq_true rfl⟩) hK (hP.sub [13] rfl) ((hD.sub [13] (by decide) rfl).weaken (fun _ _ _ _ => trivial)) (q0 := 0) rfl rfl rfl rfl hl.1 rfl (lv_room (Nat.le_of_ble_eq_true rfl)) d_M_tellFirst_18 ⟨Nat.zero_le _, Nat.zero_le _⟩ hS hP hD (fun u H locs hw_2 hP hS => ?_)
  have hP : va_P (dC, dI) classes [cg_G g tA oA uA wA sA np ne bd er vr, cg_N oA cI 60 oe, cg_N uA cI 60 ot, cg_N wA cI 60 wt, cg_W wy g cA rA mv tl, cg_L cA cL 400 ct, cg_N rA cI 20 tr, cg_M mt g wy xA nA pA qA kA rl, cg_N xA cI 10 row, cg_O nA cI 10 nr, cg_N pA cI 100 pw, cg_N qA cI 1024 lw, cg_N kA cI 1024 lc, cg_F fo lA hA 0 (lw (2 ^ rl - 1)) (lc (2 ^ rl - 1)) (lN 0), cg_N lA cI 10 le, cg_N hA cI 10 ho] H := hP.sub [0, 1, 2, 3, 4, 5, 6, 7, 8, 9, 10, 11, 12, 15, 13, 14] rfl
  have hD : va_D A [cg_G g tA oA uA wA sA np ne bd er vr, cg_N oA cI 60 oe, cg_N uA cI 60 ot, cg_N wA cI 60 wt, cg_W wy g cA rA mv tl, cg_L cA cL 400 ct, cg_N rA cI 20 tr, cg_M mt g wy xA nA pA qA kA rl, cg_N xA cI 10 row, cg_O nA cI 10 nr, cg_N pA cI 100 pw, cg_N qA cI 1024 lw, cg_N kA cI 1024 lc, cg_F fo lA hA 0 (lw (2 ^ rl - 1)) (lc (2 ^ rl - 1)) (lN 0), cg_N lA cI 10 le, cg_N hA cI 10 ho] := rw_re hD rfl
  refine lv_iconst (v := nI 0) hx hb d_M_tellFirst_21 (by decide) ?_
  refine lv_istore_n (lv' := [(3, .int (nI 0)), (2, .int (nI (2 ^ rl - 1))), (0, .ref mt), (1, .ref fo)]) hx hb d_M_tellFirst_22 rfl hl (by decide) rfl (fun ls hl => ?_)
  have lp_23 : ∀ (n : Nat) (i gg n1 tl1 : Nat) (tr1 le1 ho1 : Nat → Nat) (od1 : Int64), (i ≤ rl) → (gg < 2 ^ rl) → (∀ j, j < i → gg.testBit j = false) → (lw gg ≠ ng_F1) → ((ng_tf rl pw lw rl 0 (2 ^ rl - 1)).drop n1 = ng_tf rl pw lw (rl - i) i gg) → (n1 ≤ (ng_tf rl pw lw rl 0 (2 ^ rl - 1)).length) → (n1 ≤ i) → (ng_pr np row nr (ng_tf rl pw lw rl 0 (2 ^ rl - 1)) le1 ho1 n1) → (od1 = ng_od (ng_pset bd er oe ot wt ct ne) row nr ((ng_tf rl pw lw rl 0 (2 ^ rl - 1)).take n1)) → (tl1 ≤ 20) → rl - i < n → ∀ (H : Heap) (locs : List Loc), va_P (dC, dI) classes [cg_G g tA oA uA wA sA np ne bd er vr, cg_N oA cI 60 oe, cg_N uA cI 60 ot, cg_N wA cI 60 wt, cg_W wy g cA rA mv tl1, cg_L cA cL 400 ct, cg_N rA cI 20 tr1, cg_M mt g wy xA nA pA qA kA rl, cg_N xA cI 10 row, cg_O nA cI 10 nr, cg_N pA cI 100 pw, cg_N qA cI 1024 lw, cg_N kA cI 1024 lc, cg_F fo lA hA n1 (lw (2 ^ rl - 1)) (lc (2 ^ rl - 1)) od1, cg_N lA cI 10 le1, cg_N hA cI 10 ho1] H → va_D A [cg_G g tA oA uA wA sA np ne bd er vr, cg_N oA cI 60 oe, cg_N uA cI 60 ot, cg_N wA cI 60 wt, cg_W wy g cA rA mv tl1, cg_L cA cL 400 ct, cg_N rA cI 20 tr1, cg_M mt g wy xA nA pA qA kA rl, cg_N xA cI 10 row, cg_O nA cI 10 nr, cg_N pA cI 100 pw, cg_N qA cI 1024 lw, cg_N kA cI 1024 lc, cg_F fo lA hA n1 (lw (2 ^ rl - 1)) (lc (2 ^ rl - 1)) od1, cg_N lA cI 10 le1, cg_N hA cI 10 ho1] → va_S A s.heap H locs → ∀ (ls : Array Slot), lv_has ls 6 [(0, .ref mt), (1, .ref fo), (2, .int (nI gg)), (3, .int (nI i))] → W p l e (headSpec w_M_tellFirst ({ frames := 4, cells := 0, slots := 0, locals := 91 } : Room)).room s m ([.ref mt, .ref fo] : List Value).toArray below meth c H locs 0 0 (MQ below (rw_Qv (dC, dI) classes A (fun (u : (Nat) × (Nat → Nat) × (Nat → Nat) × (Nat → Nat)) => ng_pr np row nr (ng_tf rl pw lw rl 0 (2 ^ rl - 1)) u.2.2.1 u.2.2.2 (ng_tf rl pw lw rl 0 (2 ^ rl - 1)).length ∧ (ng_tf rl pw lw rl 0 (2 ^ rl - 1)).length ≤ 10 ∧ u.1 ≤ 20) (fun u => [cg_G g tA oA uA wA sA np ne bd er vr, cg_N oA cI 60 oe, cg_N uA cI 60 ot, cg_N wA cI 60 wt, cg_W wy g cA rA mv u.1, cg_L cA cL 400 ct, cg_N rA cI 20 u.2.1, cg_M mt g wy xA nA pA qA kA rl, cg_N xA cI 10 row, cg_O nA cI 10 nr, cg_N pA cI 100 pw, cg_N qA cI 1024 lw, cg_N kA cI 1024 lc, cg_F fo lA hA ((ng_tf rl pw lw rl 0 (2 ^ rl - 1)).length) (lw (2 ^ rl - 1)) (lc (2 ^ rl - 1)) (ng_od (ng_pset bd er oe ot wt ct ne) row nr (ng_tf rl pw lw rl 0 (2 ^ rl - 1))), cg_N lA cI 10 u.2.2.1, cg_N hA cI 10 u.2.2.2])) ([.ref mt, .ref fo] : List Value).toArray s 0 0 A) (F0 m 23 ls []) := by
    intro n
    induction n with
    | zero => intro i gg n1 tl1 tr1 le1 ho1 od1 hi hg hz hf hd hn hni hpr hod htl hme; exact absurd hme (Nat.not_lt_zero _)
    | succ n ih =>
      intro i gg n1 tl1 tr1 le1 ho1 od1 hi hg hz hf hd hn hni hpr hod htl hme H locs hP hD hS ls hl
      have ih_23 := ih
      refine lv_iload_n hx hb d_M_tellFirst_23 rfl (lv_at hl 3 rfl) ?_
      refine lv_aload_n hx hb d_M_tellFirst_24 rfl (lv_at hl 0 rfl) ?_
      refine va_get (D := (dC, dI)) (ci := 3) (v := .int (nI rl)) (C := R_M) (T := F_M) (N := 8) hx hb hts iM hown hK hP 7 rfl rfl 7 (by decide) (hts _ (List.mem_cons_of_mem _ wk_M_27)) (fun _ h9 => h9) rfl d_M_tellFirst_25 ?_
      refine nr_icmp_ge (by omega) (by omega) (tgt := 105) hx hb d_M_tellFirst_28 (by decide) (fun c_28 => ?_) (fun c_28 => ?_)
      · have e9 := ng_dropl (hd.trans (by rw [show rl - i = 0 by omega]; rfl)) hn
        rw [← e9] at hpr hod
        rw [List.take_length] at hod
        rw [← hod, e9]
        exact rw_vret (tl1, tr1, le1, ho1) hx hb hr hlocks hS hP (⟨by first | exact hpr | (rw [← e9]; exact hpr), by omega, htl⟩) d_M_tellFirst_105
      · refine lv_iload_n hx hb d_M_tellFirst_31 rfl (lv_at hl 2 rfl) ?_
        refine lv_iload_n hx hb d_M_tellFirst_32 rfl (lv_at hl 3 rfl) ?_
        refine lv_ishr hx hb d_M_tellFirst_33 ?_
        refine lv_iconst (v := nI 1) hx hb d_M_tellFirst_34 (by decide) ?_
        refine lv_iand hx hb d_M_tellFirst_35 ?_
        refine nr_as (v := nb_i (nb_t (nI gg) i)) (nb_bt_and1 (by omega)) ?_
        refine lv_iconst (v := nI 1) hx hb d_M_tellFirst_36 (by decide) ?_
        refine nr_icmpneB1 (tgt := 99) hx hb d_M_tellFirst_37 (by decide) (fun c_37 => ?_) (fun c_37 => ?_)
        · have hbf : gg.testBit i = false := by rw [← ng_tb (by omega)]; exact c_37
          have hg4 := hg
          have hz4 := ng_gz hz hbf
          have hf4 := hf
          have hd4 := hd.trans (ng_tf_f c_28 c_37)
          have hn4 := hn
          have hpr4 := hpr
          have hod4 := hod
          have htl4 := htl
          refine lv_iinc (v := (nI (i + 1))) (lv' := [(3, .int (nI (i + 1))), (0, .ref mt), (1, .ref fo), (2, .int (nI gg))]) hx hb d_M_tellFirst_99 hl (k := 3) rfl (nI_1 i) (by decide) rfl (fun ls hl => ?_)
          refine lv_goto (tgt := 23) hx hb d_M_tellFirst_102 (by decide) ?_
          exact ih_23 (i + 1) gg n1 tl1 tr1 le1 ho1 od1 (by omega) hg4 hz4 hf4 hd4 hn4 (by omega) hpr4 hod4 htl4 (by omega) _ _ hP hD hS ls (lv_sub hl [1, 2, 3, 0] rfl)
        · have hbt : gg.testBit i = true := by rw [← ng_tb (by omega)]; exact c_37
          obtain ⟨g0, hlp⟩ := ng_lp_eq hrl hg c_28 hbt hz
          have hrec := (hgr.2.2.2 gg g0 hg).1
          rw [hlp] at hrec
          obtain ⟨fp1, fp2, fp3, fp4⟩ := ng_fp_ok c_28 c_37 hrec hf
          obtain ⟨fw1, fw2, -⟩ := ng_ww_fin (by rw [fp4]; exact hf)
          rw [hpv i _ fp1 fp2] at fw1
          obtain ⟨y, hpt, hcy, -⟩ := ng_pv_some fw1
          have hyl : y < np := ng_pt_lt hpt hrow (fun z hz => hnr i z c_28 hz) fp2
          have hri := hrow i c_28
          obtain ⟨hd1, hd4, hn4⟩ := ng_dropP (hd.trans (ng_tf_t c_28 c_37))
          have hg4 : ng_wo gg i (ng_fp rl pw lw gg i) < 2 ^ rl := Nat.lt_of_le_of_lt (ng_wo_le (by omega)) hg
          have hz4 := ng_wo_z (b := ng_fp rl pw lw gg i) (by omega) (by omega) (by omega) hz
          have hf4 := fw2
          have hpr4 := ng_pr_s hd1 hpt hri hyl hpr
          have hod4 : od1 ^^^ (ng_pset bd er oe ot wt ct ne) (row i) y = ng_od (ng_pset bd er oe ot wt ct ne) row nr ((ng_tf rl pw lw rl 0 (2 ^ rl - 1)).take (n1 + 1)) := by rw [hod]; exact (ng_od_s (ps := (ng_pset bd er oe ot wt ct ne)) hd1 hpt).symm
          refine lv_aload_n hx hb d_M_tellFirst_40 rfl (lv_at hl 0 rfl) ?_
          refine lv_iload_n hx hb d_M_tellFirst_41 rfl (lv_at hl 2 rfl) ?_
          refine lv_iload_n hx hb d_M_tellFirst_42 rfl (lv_at hl 3 rfl) ?_
          refine ro_Vi (As := [.int (nI gg), .int (nI i)]) (rest := []) ⟨hx, hb, hml, hown, hts⟩ (c_M_firstPartner l dC dI cI cL mt g wy xA nA pA qA kA rl pw lw gg i (by omega) hrl (by omega) hpw hgr.2.2.1) (cwV 2 hts (wg_V wk_M_60 wm_M_firstPartner we_M_firstPartner wi_M wc_M_firstPartner) rfl rfl rfl (by decide +kernel) ⟨Nat.le_of_ble_eq_true rfl, Nat.le_of_ble_eq_true rfl⟩) hK (hP.sub [7, 10, 11] rfl) (q0 := 0) rfl rfl rfl rfl hl.1 rfl (lv_room (Nat.le_of_ble_eq_true rfl)) d_M_tellFirst_43 ⟨Nat.zero_le _, Nat.zero_le _⟩ hS hP (fun H locs hP hS => ?_)
          refine lv_istore (lv' := [(4, .int (nI (ng_fp rl pw lw gg i))), (0, .ref mt), (1, .ref fo), (2, .int (nI gg)), (3, .int (nI i))]) hx hb d_M_tellFirst_46 hl (by decide) rfl (fun ls hl => ?_)
          refine lv_aload_n hx hb d_M_tellFirst_48 rfl (lv_at hl 1 rfl) ?_
          refine lv_iload_n hx hb d_M_tellFirst_49 rfl (lv_at hl 4 rfl) ?_
          refine lv_iload hx hb d_M_tellFirst_50 (lv_at hl 0 rfl) ?_
          refine ro_Vi (As := [.int (nI i), .int (nI (ng_fp rl pw lw gg i))]) (rest := []) ⟨hx, hb, hml, hown, hts⟩ (c_M_pointOf l dC dI cI cL mt g wy xA nA pA qA kA rl row nr i (ng_fp rl pw lw gg i) (by omega) (by omega)) (cwV 2 hts (wg_V wk_M_64 wm_M_pointOf we_M_pointOf wi_M wc_M_pointOf) rfl rfl rfl (by decide +kernel) ⟨Nat.le_of_ble_eq_true rfl, Nat.le_of_ble_eq_true rfl⟩) hK (hP.sub [7, 8, 9] rfl) (q0 := 0) rfl rfl rfl rfl hl.1 rfl (lv_room (Nat.le_of_ble_eq_true rfl)) d_M_tellFirst_52 ⟨Nat.zero_le _, Nat.zero_le _⟩ hS hP (fun H locs hP hS => ?_)
          rw [hpt]
          refine nr_as (v := nI y) rfl ?_
          refine lv_istore (lv' := [(5, .int (nI y)), (4, .int (nI (ng_fp rl pw lw gg i))), (0, .ref mt), (1, .ref fo), (2, .int (nI gg)), (3, .int (nI i))]) hx hb d_M_tellFirst_55 hl (by decide) rfl (fun ls hl => ?_)
          refine lv_aload_n hx hb d_M_tellFirst_57 rfl (lv_at hl 2 rfl) ?_
          refine va_get (D := (dC, dI)) (ci := 3) (v := .ref wy) (C := R_M) (T := F_M) (N := 8) hx hb hts iM hown hK hP 7 rfl rfl 1 (by decide) (hts _ (List.mem_cons_of_mem _ wk_M_35)) (fun _ h9 => h9) rfl d_M_tellFirst_58 ?_
          refine lv_aload_n hx hb d_M_tellFirst_61 rfl (lv_at hl 2 rfl) ?_
          refine va_get (D := (dC, dI)) (ci := 3) (v := .ref xA) (C := R_M) (T := F_M) (N := 8) hx hb hts iM hown hK hP 7 rfl rfl 2 (by decide) (hts _ (List.mem_cons_of_mem _ wk_M_9)) (fun _ h9 => h9) rfl d_M_tellFirst_62 ?_
          refine lv_iload_n hx hb d_M_tellFirst_65 rfl (lv_at hl 5 rfl) ?_
          refine nr_iald hx hb hK hP 8 0 rfl rfl (by omega) (by decide) d_M_tellFirst_66 ?_
          refine lv_iload hx hb d_M_tellFirst_67 (lv_at hl 0 rfl) ?_
          refine rw_Vv (wr := [cg_M mt g wy xA nA pA qA kA rl, cg_N xA cI 10 row, cg_O nA cI 10 nr, cg_N pA cI 100 pw, cg_N qA cI 1024 lw, cg_N kA cI 1024 lc, cg_F fo lA hA n1 (lw (2 ^ rl - 1)) (lc (2 ^ rl - 1)) od1, cg_N lA cI 10 le1, cg_N hA cI 10 ho1]) [0, 1, 2, 3, 4, 5, 6] [7, 8, 9, 10, 11, 12, 13, 14, 15] rfl rfl (by decide) (As := [.int (nI (row i)), .int (nI y)]) (rest := []) ⟨hx, hb, hml, hown, hts⟩ (c_W_trace l dC dI cI cL g tA oA uA wA sA np ne bd er vr wy cA rA mv tl1 oe ot wt ct tr1 (row i) y (by omega) (by omega) (by omega) hE hW hct) (cwV 2 hts (wg_V wk_M_67 wm_W_trace we_W_trace wi_W wc_W_trace) rfl rfl rfl (by decide +kernel) ⟨Nat.le_of_ble_eq_true rfl, Nat.le_of_ble_eq_true rfl⟩) hK (hP.sub [0, 1, 2, 3, 4, 5, 6] rfl) ((hD.sub [0, 1, 2, 3, 4, 5, 6] (by decide) rfl).weaken (fun _ _ _ _ => trivial)) (q0 := 4) rfl rfl rfl rfl hl.1 rfl (lv_room (Nat.le_of_ble_eq_true rfl)) d_M_tellFirst_69 ⟨Nat.zero_le _, Nat.zero_le _⟩ hS hP hD (fun tr2_3 H locs hw_5 hP hS => ?_)
          have hP : va_P (dC, dI) classes [cg_G g tA oA uA wA sA np ne bd er vr, cg_N oA cI 60 oe, cg_N uA cI 60 ot, cg_N wA cI 60 wt, cg_W wy g cA rA mv ((ng_path (ng_nxt bd er oe ot wt ct ne (max (row i) y)) (max (row i) y) 20 (min (row i) y)).length), cg_L cA cL 400 ct, cg_N rA cI 20 tr2_3, cg_M mt g wy xA nA pA qA kA rl, cg_N xA cI 10 row, cg_O nA cI 10 nr, cg_N pA cI 100 pw, cg_N qA cI 1024 lw, cg_N kA cI 1024 lc, cg_F fo lA hA n1 (lw (2 ^ rl - 1)) (lc (2 ^ rl - 1)) od1, cg_N lA cI 10 le1, cg_N hA cI 10 ho1] H := hP.sub [9, 10, 11, 12, 13, 14, 15, 0, 1, 2, 3, 4, 5, 6, 7, 8] rfl
          have hD : va_D A [cg_G g tA oA uA wA sA np ne bd er vr, cg_N oA cI 60 oe, cg_N uA cI 60 ot, cg_N wA cI 60 wt, cg_W wy g cA rA mv ((ng_path (ng_nxt bd er oe ot wt ct ne (max (row i) y)) (max (row i) y) 20 (min (row i) y)).length), cg_L cA cL 400 ct, cg_N rA cI 20 tr2_3, cg_M mt g wy xA nA pA qA kA rl, cg_N xA cI 10 row, cg_O nA cI 10 nr, cg_N pA cI 100 pw, cg_N qA cI 1024 lw, cg_N kA cI 1024 lc, cg_F fo lA hA n1 (lw (2 ^ rl - 1)) (lc (2 ^ rl - 1)) od1, cg_N lA cI 10 le1, cg_N hA cI 10 ho1] := rw_re hD rfl
          try dsimp only at hw_5
          have htr := hw_5
          have htl4 := hw_5.2
          refine lv_aload_n hx hb d_M_tellFirst_72 rfl (lv_at hl 3 rfl) ?_
          refine lv_aload_n hx hb d_M_tellFirst_73 rfl (lv_at hl 2 rfl) ?_
          refine va_get (D := (dC, dI)) (ci := 3) (v := .ref xA) (C := R_M) (T := F_M) (N := 8) hx hb hts iM hown hK hP 7 rfl rfl 2 (by decide) (hts _ (List.mem_cons_of_mem _ wk_M_9)) (fun _ h9 => h9) rfl d_M_tellFirst_74 ?_
          refine lv_iload_n hx hb d_M_tellFirst_77 rfl (lv_at hl 5 rfl) ?_
          refine nr_iald hx hb hK hP 8 0 rfl rfl (by omega) (by decide) d_M_tellFirst_78 ?_
          refine lv_iload hx hb d_M_tellFirst_79 (lv_at hl 0 rfl) ?_
          refine lv_aload_n hx hb d_M_tellFirst_81 rfl (lv_at hl 2 rfl) ?_
          refine va_get (D := (dC, dI)) (ci := 3) (v := .ref wy) (C := R_M) (T := F_M) (N := 8) hx hb hts iM hown hK hP 7 rfl rfl 1 (by decide) (hts _ (List.mem_cons_of_mem _ wk_M_35)) (fun _ h9 => h9) rfl d_M_tellFirst_82 ?_
          refine ro_Vl (As := []) (rest := [.int (nI y), .int (nI (row i)), .ref fo]) ⟨hx, hb, hml, hown, hts⟩ (c_W_trailAsSet l dC dI cI cL wy g cA rA mv ((ng_path (ng_nxt bd er oe ot wt ct ne (max (row i) y)) (max (row i) y) 20 (min (row i) y)).length) tr2_3 htr.2) (cwV 0 hts (wg_V wk_M_72 wm_W_trailAsSet we_W_trailAsSet wi_W wc_W_trailAsSet) rfl rfl rfl (by decide +kernel) ⟨Nat.le_of_ble_eq_true rfl, Nat.le_of_ble_eq_true rfl⟩) hK (hP.sub [4, 6] rfl) (q0 := 0) rfl rfl rfl rfl hl.1 rfl (lv_room (Nat.le_of_ble_eq_true rfl)) d_M_tellFirst_85 ⟨Nat.zero_le _, Nat.zero_le _⟩ hS hP (fun H locs hP hS => ?_)
          refine nr_asL (v := (ng_pset bd er oe ot wt ct ne) (row i) y) (ng_set_eq htr.1) ?_
          refine rw_Vv (wr := [cg_G g tA oA uA wA sA np ne bd er vr, cg_N oA cI 60 oe, cg_N uA cI 60 ot, cg_N wA cI 60 wt, cg_W wy g cA rA mv ((ng_path (ng_nxt bd er oe ot wt ct ne (max (row i) y)) (max (row i) y) 20 (min (row i) y)).length), cg_L cA cL 400 ct, cg_N rA cI 20 tr2_3, cg_M mt g wy xA nA pA qA kA rl, cg_N xA cI 10 row, cg_O nA cI 10 nr, cg_N pA cI 100 pw, cg_N qA cI 1024 lw, cg_N kA cI 1024 lc]) [13, 14, 15] [0, 1, 2, 3, 4, 5, 6, 7, 8, 9, 10, 11, 12] rfl rfl (by decide) (As := [.int (nI (row i)), .int (nI y), .long ((ng_pset bd er oe ot wt ct ne) (row i) y)]) (rest := []) ⟨hx, hb, hml, hown, hts⟩ (c_F_addPair l dC dI cI cL fo lA hA n1 (lw (2 ^ rl - 1)) (lc (2 ^ rl - 1)) od1 le1 ho1 (row i) y ((ng_pset bd er oe ot wt ct ne) (row i) y) (by omega)) (cwV 3 hts (wg_V wk_M_76 wm_F_addPair we_F_addPair wi_F wc_F_addPair) rfl rfl rfl (by decide +kernel) ⟨Nat.le_of_ble_eq_true rfl, Nat.le_of_ble_eq_true rfl⟩) hK (hP.sub [13, 14, 15] rfl) ((hD.sub [13, 14, 15] (by decide) rfl).weaken (fun _ _ _ _ => trivial)) (q0 := 0) rfl rfl rfl rfl hl.1 rfl (lv_room (Nat.le_of_ble_eq_true rfl)) d_M_tellFirst_88 ⟨Nat.zero_le _, Nat.zero_le _⟩ hS hP hD (fun u H locs hw_7 hP hS => ?_)
          have hP : va_P (dC, dI) classes [cg_G g tA oA uA wA sA np ne bd er vr, cg_N oA cI 60 oe, cg_N uA cI 60 ot, cg_N wA cI 60 wt, cg_W wy g cA rA mv ((ng_path (ng_nxt bd er oe ot wt ct ne (max (row i) y)) (max (row i) y) 20 (min (row i) y)).length), cg_L cA cL 400 ct, cg_N rA cI 20 tr2_3, cg_M mt g wy xA nA pA qA kA rl, cg_N xA cI 10 row, cg_O nA cI 10 nr, cg_N pA cI 100 pw, cg_N qA cI 1024 lw, cg_N kA cI 1024 lc, cg_F fo lA hA (n1 + 1) (lw (2 ^ rl - 1)) (lc (2 ^ rl - 1)) (od1 ^^^ ((ng_pset bd er oe ot wt ct ne) (row i) y)), cg_N lA cI 10 (va_up le1 n1 (row i)), cg_N hA cI 10 (va_up ho1 n1 y)] H := hP.sub [0, 1, 2, 3, 4, 5, 6, 7, 8, 9, 10, 11, 12, 13, 14, 15] rfl
          have hD : va_D A [cg_G g tA oA uA wA sA np ne bd er vr, cg_N oA cI 60 oe, cg_N uA cI 60 ot, cg_N wA cI 60 wt, cg_W wy g cA rA mv ((ng_path (ng_nxt bd er oe ot wt ct ne (max (row i) y)) (max (row i) y) 20 (min (row i) y)).length), cg_L cA cL 400 ct, cg_N rA cI 20 tr2_3, cg_M mt g wy xA nA pA qA kA rl, cg_N xA cI 10 row, cg_O nA cI 10 nr, cg_N pA cI 100 pw, cg_N qA cI 1024 lw, cg_N kA cI 1024 lc, cg_F fo lA hA (n1 + 1) (lw (2 ^ rl - 1)) (lc (2 ^ rl - 1)) (od1 ^^^ ((ng_pset bd er oe ot wt ct ne) (row i) y)), cg_N lA cI 10 (va_up le1 n1 (row i)), cg_N hA cI 10 (va_up ho1 n1 y)] := rw_re hD rfl
          refine lv_iload_n hx hb d_M_tellFirst_91 rfl (lv_at hl 4 rfl) ?_
          refine lv_iload_n hx hb d_M_tellFirst_92 rfl (lv_at hl 5 rfl) ?_
          refine lv_iload hx hb d_M_tellFirst_93 (lv_at hl 1 rfl) ?_
          refine ro_Si (As := [.int (nI gg), .int (nI i), .int (nI (ng_fp rl pw lw gg i))]) (rest := []) ⟨hx, hb, hml, hown, hts⟩ (c_M_without l dC dI cI cL gg i (ng_fp rl pw lw gg i) ) (cwS 3 hts (wg_S wk_M_80 ws_M_without wi_M wc_M_without) rfl rfl rfl (by decide +kernel) ⟨Nat.le_of_ble_eq_true rfl, Nat.le_of_ble_eq_true rfl⟩) hK (hP.sub [] rfl) rfl hl.1 rfl (lv_room (Nat.le_of_ble_eq_true rfl)) d_M_tellFirst_95 ⟨Nat.zero_le _, Nat.zero_le _⟩ hS hP (fun H locs hP hS => ?_)
          refine lv_istore_n (lv' := [(2, .int (nI (ng_wo gg i (ng_fp rl pw lw gg i)))), (5, .int (nI y)), (4, .int (nI (ng_fp rl pw lw gg i))), (0, .ref mt), (1, .ref fo), (3, .int (nI i))]) hx hb d_M_tellFirst_98 rfl hl (by decide) rfl (fun ls hl => ?_)
          refine lv_iinc (v := (nI (i + 1))) (lv' := [(3, .int (nI (i + 1))), (2, .int (nI (ng_wo gg i (ng_fp rl pw lw gg i)))), (5, .int (nI y)), (4, .int (nI (ng_fp rl pw lw gg i))), (0, .ref mt), (1, .ref fo)]) hx hb d_M_tellFirst_99 hl (k := 5) rfl (nI_1 i) (by decide) rfl (fun ls hl => ?_)
          refine lv_goto (tgt := 23) hx hb d_M_tellFirst_102 (by decide) ?_
          exact ih_23 (i + 1) (ng_wo gg i (ng_fp rl pw lw gg i)) (n1 + 1) ((ng_path (ng_nxt bd er oe ot wt ct ne (max (row i) y)) (max (row i) y) 20 (min (row i) y)).length) tr2_3 (va_up le1 n1 (row i)) (va_up ho1 n1 y) (od1 ^^^ ((ng_pset bd er oe ot wt ct ne) (row i) y)) (by omega) hg4 hz4 hf4 hd4 hn4 (by omega) hpr4 hod4 htl4 (by omega) _ _ hP hD hS ls (lv_sub hl [4, 5, 1, 0] rfl)
  exact lp_23 (rl - 0 + 1) 0 (2 ^ rl - 1) 0 tl tr le ho (lN 0) (by omega) (by omega) (fun j h => absurd h (Nat.not_lt_zero _)) hfin rfl (Nat.zero_le _) (Nat.le_refl _) (fun k h => absurd h (Nat.not_lt_zero _)) rfl htl0 (Nat.lt_succ_self _) _ _ hP hD hS ls (lv_sub hl [2, 3, 1, 0] rfl)
