set_option maxHeartbeats 4000000 in
set_option maxRecDepth 100000 in
theorem c_M_solve (l : Launch) (dC : Nat → ClassId) (dI : Nat → Nat → Nat) (cI cL : ClassId) (g tA oA uA wA sA np ne : Nat) (bd : Int32) (er : Int64) (vr : Nat) (wy cA rA : Nat) (mv : Int32) (tl : Nat) (mt xA nA pA qA kA rl : Nat) (ct row pw lw lc : Nat → Nat) (nr : Nat → Option Nat) (fi : Int32) (hnp : np ≤ 20) (hfl : (ng_rw fi np).length ≤ 10) (hpw : ∀ i, i < 100 → pw i ≤ ng_F1) (hlw : ∀ i, i < 1024 → lw i ≤ ng_F1) (hct : ∀ i, i < 400 → ct i ≤ dm_FAR) (hcf : ∀ a b, a < np → b < np → ct (a * 20 + b) = dm_FAR ∨ ct (a * 20 + b) ≤ 1300000000) : Met l y_M_solve w_M_solve ({ frames := 4, cells := 0, slots := 0, locals := 88 } : Room) (va_Pc [.ref mt, .int fi] (rw_B (dC, dI) classes [(cI, .int), (cL, .long)] [cg_G g tA oA uA wA sA np ne bd er vr, cg_W wy g cA rA mv tl, cg_L cA cL 400 ct, cg_M mt g wy xA nA pA qA kA rl, cg_N xA cI 10 row, cg_O nA cI 10 nr, cg_N pA cI 100 pw, cg_N qA cI 1024 lw, cg_N kA cI 1024 lc])) (rw_Qi (dC, dI) classes (rw_A [cg_G g tA oA uA wA sA np ne bd er vr, cg_W wy g cA rA mv tl, cg_L cA cL 400 ct, cg_M mt g wy xA nA pA qA kA rl, cg_N xA cI 10 row, cg_O nA cI 10 nr, cg_N pA cI 100 pw, cg_N qA cI 1024 lw, cg_N kA cI 1024 lc]) (fun r (u : (Nat → Nat) × (Nat → Option Nat) × (Nat → Nat) × (Nat → Nat) × (Nat → Nat)) => r = nb_i (!decide (u.2.2.2.1 (2 ^ (ng_rw fi np).length - 1) = ng_F1)) ∧ (∀ i, i < (ng_rw fi np).length → (ng_rw fi np)[i]? = some (u.1 i)) ∧ (∀ i, i < (ng_rw fi np).length → u.2.1 i = ng_nb bd ct (u.1 i) np) ∧ (∀ a b, a ≤ b → b < (ng_rw fi np).length → u.2.2.1 (a * 10 + b) = ng_pv ct u.1 u.2.1 a b) ∧ (∀ i, i < 100 → u.2.2.1 i ≤ ng_F1) ∧ ng_gr (ng_rw fi np).length u.2.2.1 u.2.2.2.1 u.2.2.2.2 (2 ^ (ng_rw fi np).length)) (fun u => [cg_G g tA oA uA wA sA np ne bd er vr, cg_W wy g cA rA mv tl, cg_L cA cL 400 ct, cg_M mt g wy xA nA pA qA kA ((ng_rw fi np).length), cg_N xA cI 10 u.1, cg_O nA cI 10 u.2.1, cg_N pA cI 100 u.2.2.1, cg_N qA cI 1024 u.2.2.2.1, cg_N kA cI 1024 u.2.2.2.2])) 0 0 (rw_A [cg_G g tA oA uA wA sA np ne bd er vr, cg_W wy g cA rA mv tl, cg_L cA cL 400 ct, cg_M mt g wy xA nA pA qA kA rl, cg_N xA cI 10 row, cg_O nA cI 10 nr, cg_N pA cI 100 pw, cg_N qA cI 1024 lw, cg_N kA cI 1024 lc]) := by
  refine Met.ofW (cc := b_M_solve) (maxL := 4) (ret := (some .boolean)) (by decide) rfl ?_
  intro p e s m args below meth c s₁ B hml hv
  obtain ⟨rfl, hP, hK, hD0⟩ := hv
  have hx := B.exec
  have hb := B.bytes
  have hr := B.returns
  have hts := atoms_spec (ws := w_M_solve) B.pre
  have hown : s.vm.findClass R_M = some m.cls := findClass_of_methodNamed B.named
  have hlocks := B.notSynchronized
  have iM : ∀ w ∈ w_M, w ∈ w_M_solve := fun w h => List.mem_cons_of_mem _ (i_M w h)
  have hD := rw_own hD0
  generalize hAe : rw_A [cg_G g tA oA uA wA sA np ne bd er vr, cg_W wy g cA rA mv tl, cg_L cA cL 400 ct, cg_M mt g wy xA nA pA qA kA rl, cg_N xA cI 10 row, cg_O nA cI 10 nr, cg_N pA cI 100 pw, cg_N qA cI 1024 lw, cg_N kA cI 1024 lc] = A at hD ⊢
  have hS : va_S A s.heap s.heap [] := va_S.rf
  have hP : va_P (dC, dI) classes [cg_G g tA oA uA wA sA np ne bd er vr, cg_W wy g cA rA mv tl, cg_L cA cL 400 ct, cg_M mt g wy xA nA pA qA kA rl, cg_N xA cI 10 row, cg_O nA cI 10 nr, cg_N pA cI 100 pw, cg_N qA cI 1024 lw, cg_N kA cI 1024 lc] s.heap := hP
  have hl := lv_entry ([.ref mt, .int fi]) (n := 4) (Nat.le_of_ble_eq_true rfl)
  rw [lg_entry_eq]
  generalize (lg_sl ([.ref mt, .int fi]) ++ List.replicate (4 - (lg_sl ([.ref mt, .int fi])).length) Slot.unset).toArray = ls at hl ⊢
  have hl : lv_has ls 4 [(0, .ref mt), (1, .int fi)] := hl
  have hF1 : ng_F1 = 1000000000 := rfl
  have hp2 : 2 ^ (ng_rw fi np).length ≤ 2 ^ 10 := Nat.pow_le_pow_right (by decide) hfl
  have hp1 : 0 < 2 ^ (ng_rw fi np).length := Nat.pow_pos (by decide)
  refine lv_aload_n hx hb d_M_solve_0 rfl (lv_at hl 0 rfl) ?_
  refine lv_iload_n hx hb d_M_solve_1 rfl (lv_at hl 1 rfl) ?_
  refine rw_Vv (wr := [cg_N pA cI 100 pw, cg_N qA cI 1024 lw, cg_N kA cI 1024 lc]) [0, 1, 2, 3, 4, 5] [6, 7, 8] rfl rfl (by decide) (As := [.int fi]) (rest := []) ⟨hx, hb, hml, hown, hts⟩ (c_M_layRow l dC dI cI cL g tA oA uA wA sA np ne bd er vr wy cA rA mv tl mt xA nA pA qA kA rl ct row nr fi (by omega) hfl hct hcf) (cwV 1 hts (wg_V wk_M_39 wm_M_layRow we_M_layRow wi_M wc_M_layRow) rfl rfl rfl (by decide +kernel) ⟨Nat.le_of_ble_eq_true rfl, Nat.le_of_ble_eq_true rfl⟩) hK (hP.sub [0, 1, 2, 3, 4, 5] rfl) ((hD.sub [0, 1, 2, 3, 4, 5] (by decide) rfl).weaken (fun _ _ _ _ => trivial)) (q0 := 3) rfl rfl rfl rfl hl.1 rfl (lv_room (Nat.le_of_ble_eq_true rfl)) d_M_solve_2 ⟨Nat.zero_le _, Nat.zero_le _⟩ hS hP hD (fun u H locs hw_4 hP hS => ?_)
  obtain ⟨row2_1, nr2_2⟩ := u
  have hP : va_P (dC, dI) classes [cg_G g tA oA uA wA sA np ne bd er vr, cg_W wy g cA rA mv tl, cg_L cA cL 400 ct, cg_M mt g wy xA nA pA qA kA ((ng_rw fi np).length), cg_N xA cI 10 row2_1, cg_O nA cI 10 nr2_2, cg_N pA cI 100 pw, cg_N qA cI 1024 lw, cg_N kA cI 1024 lc] H := hP.sub [3, 4, 5, 6, 7, 8, 0, 1, 2] rfl
  have hD : va_D A [cg_G g tA oA uA wA sA np ne bd er vr, cg_W wy g cA rA mv tl, cg_L cA cL 400 ct, cg_M mt g wy xA nA pA qA kA ((ng_rw fi np).length), cg_N xA cI 10 row2_1, cg_O nA cI 10 nr2_2, cg_N pA cI 100 pw, cg_N qA cI 1024 lw, cg_N kA cI 1024 lc] := rw_re hD rfl
  try dsimp only at hw_4
  obtain ⟨hr1, hr2⟩ := hw_4
  have hrow : ∀ j, j < (ng_rw fi np).length → row2_1 j < np := fun j hj => (ng_rw_lt (List.mem_of_getElem? (hr1 j hj))).1
  have hnr : ∀ j y, j < (ng_rw fi np).length → nr2_2 j = some y → y < np := fun j y hj hy => ng_nb_lt ((hr2 j hj).symm.trans hy)
  refine lv_aload_n hx hb d_M_solve_5 rfl (lv_at hl 0 rfl) ?_
  refine rw_Vv (wr := [cg_N qA cI 1024 lw, cg_N kA cI 1024 lc]) [0, 1, 2, 3, 4, 5, 6] [7, 8] rfl rfl (by decide) (As := []) (rest := []) ⟨hx, hb, hml, hown, hts⟩ (c_M_weighPairs l dC dI cI cL g tA oA uA wA sA np ne bd er vr wy cA rA mv tl mt xA nA pA qA kA ((ng_rw fi np).length) ct row2_1 pw nr2_2 (by omega) hfl hrow hnr hpw hct hcf) (cwV 0 hts (wg_V wk_M_43 wm_M_weighPairs we_M_weighPairs wi_M wc_M_weighPairs) rfl rfl rfl (by decide +kernel) ⟨Nat.le_of_ble_eq_true rfl, Nat.le_of_ble_eq_true rfl⟩) hK (hP.sub [0, 1, 2, 3, 4, 5, 6] rfl) ((hD.sub [0, 1, 2, 3, 4, 5, 6] (by decide) rfl).weaken (fun _ _ _ _ => trivial)) (q0 := 3) rfl rfl rfl rfl hl.1 rfl (lv_room (Nat.le_of_ble_eq_true rfl)) d_M_solve_6 ⟨Nat.zero_le _, Nat.zero_le _⟩ hS hP hD (fun pw2_5 H locs hw_7 hP hS => ?_)
  have hP : va_P (dC, dI) classes [cg_G g tA oA uA wA sA np ne bd er vr, cg_W wy g cA rA mv tl, cg_L cA cL 400 ct, cg_M mt g wy xA nA pA qA kA ((ng_rw fi np).length), cg_N xA cI 10 row2_1, cg_O nA cI 10 nr2_2, cg_N pA cI 100 pw2_5, cg_N qA cI 1024 lw, cg_N kA cI 1024 lc] H := hP.sub [2, 3, 4, 5, 6, 7, 8, 0, 1] rfl
  have hD : va_D A [cg_G g tA oA uA wA sA np ne bd er vr, cg_W wy g cA rA mv tl, cg_L cA cL 400 ct, cg_M mt g wy xA nA pA qA kA ((ng_rw fi np).length), cg_N xA cI 10 row2_1, cg_O nA cI 10 nr2_2, cg_N pA cI 100 pw2_5, cg_N qA cI 1024 lw, cg_N kA cI 1024 lc] := rw_re hD rfl
  try dsimp only at hw_7
  obtain ⟨hv1, hv2⟩ := hw_7
  refine lv_aload_n hx hb d_M_solve_9 rfl (lv_at hl 0 rfl) ?_
  refine va_get (D := (dC, dI)) (ci := 3) (v := .ref qA) (C := R_M) (T := F_M) (N := 8) hx hb hts iM hown hK hP 3 rfl rfl 5 (by decide) (hts _ (List.mem_cons_of_mem _ wk_M_21)) (fun _ h9 => h9) rfl d_M_solve_10 ?_
  refine lv_iconst (v := nI 0) hx hb d_M_solve_13 (by decide) ?_
  refine lv_iconst (v := nI 0) hx hb d_M_solve_14 (by decide) ?_
  refine nr_iast hx hb hK hP hD hS 7 0 rfl rfl (by omega) (by decide) d_M_solve_15 (fun H locs hP hD hS => ?_)
  have hP : va_P (dC, dI) classes [cg_G g tA oA uA wA sA np ne bd er vr, cg_W wy g cA rA mv tl, cg_L cA cL 400 ct, cg_M mt g wy xA nA pA qA kA ((ng_rw fi np).length), cg_N xA cI 10 row2_1, cg_O nA cI 10 nr2_2, cg_N pA cI 100 pw2_5, cg_N qA cI 1024 (va_up lw 0 0), cg_N kA cI 1024 lc] H := hP
  have hD : va_D A [cg_G g tA oA uA wA sA np ne bd er vr, cg_W wy g cA rA mv tl, cg_L cA cL 400 ct, cg_M mt g wy xA nA pA qA kA ((ng_rw fi np).length), cg_N xA cI 10 row2_1, cg_O nA cI 10 nr2_2, cg_N pA cI 100 pw2_5, cg_N qA cI 1024 (va_up lw 0 0), cg_N kA cI 1024 lc] := hD
  refine lv_aload_n hx hb d_M_solve_16 rfl (lv_at hl 0 rfl) ?_
  refine va_get (D := (dC, dI)) (ci := 3) (v := .ref kA) (C := R_M) (T := F_M) (N := 8) hx hb hts iM hown hK hP 3 rfl rfl 6 (by decide) (hts _ (List.mem_cons_of_mem _ wk_M_24)) (fun _ h9 => h9) rfl d_M_solve_17 ?_
  refine lv_iconst (v := nI 0) hx hb d_M_solve_20 (by decide) ?_
  refine lv_iconst (v := nI 1) hx hb d_M_solve_21 (by decide) ?_
  refine nr_iast hx hb hK hP hD hS 8 0 rfl rfl (by omega) (by decide) d_M_solve_22 (fun H locs hP hD hS => ?_)
  have hP : va_P (dC, dI) classes [cg_G g tA oA uA wA sA np ne bd er vr, cg_W wy g cA rA mv tl, cg_L cA cL 400 ct, cg_M mt g wy xA nA pA qA kA ((ng_rw fi np).length), cg_N xA cI 10 row2_1, cg_O nA cI 10 nr2_2, cg_N pA cI 100 pw2_5, cg_N qA cI 1024 (va_up lw 0 0), cg_N kA cI 1024 (va_up lc 0 1)] H := hP
  have hD : va_D A [cg_G g tA oA uA wA sA np ne bd er vr, cg_W wy g cA rA mv tl, cg_L cA cL 400 ct, cg_M mt g wy xA nA pA qA kA ((ng_rw fi np).length), cg_N xA cI 10 row2_1, cg_O nA cI 10 nr2_2, cg_N pA cI 100 pw2_5, cg_N qA cI 1024 (va_up lw 0 0), cg_N kA cI 1024 (va_up lc 0 1)] := hD
  have hg0 : ng_gr (ng_rw fi np).length pw2_5 (va_up lw 0 0) (va_up lc 0 1) 1 := ⟨va_up_self _ _ _, va_up_self _ _ _, ng_up1 hlw (Nat.zero_le _), fun g g0 g1 => by omega⟩
  refine lv_aload_n hx hb d_M_solve_23 rfl (lv_at hl 0 rfl) ?_
  refine ro_Vi (As := []) (rest := []) ⟨hx, hb, hml, hown, hts⟩ (c_M_wholeGroup l dC dI cI cL mt g wy xA nA pA qA kA ((ng_rw fi np).length) hfl) (cwV 0 hts (wg_V wk_M_46 wm_M_wholeGroup we_M_wholeGroup wi_M wc_M_wholeGroup) rfl rfl rfl (by decide +kernel) ⟨Nat.le_of_ble_eq_true rfl, Nat.le_of_ble_eq_true rfl⟩) hK (hP.sub [3] rfl) (q0 := 0) rfl rfl rfl rfl hl.1 rfl (lv_room (Nat.le_of_ble_eq_true rfl)) d_M_solve_24 ⟨Nat.zero_le _, Nat.zero_le _⟩ hS hP (fun H locs hP hS => ?_)
  refine lv_istore_n (lv' := [(2, .int (nI (2 ^ ((ng_rw fi np).length) - 1))), (0, .ref mt), (1, .int fi)]) hx hb d_M_solve_27 rfl hl (by decide) rfl (fun ls hl => ?_)
  refine lv_iconst (v := nI 1) hx hb d_M_solve_28 (by decide) ?_
  refine lv_istore_n (lv' := [(3, .int (nI 1)), (2, .int (nI (2 ^ ((ng_rw fi np).length) - 1))), (0, .ref mt), (1, .int fi)]) hx hb d_M_solve_29 rfl hl (by decide) rfl (fun ls hl => ?_)
  have lp_30 : ∀ (n : Nat) (k : Nat) (lw1 lc1 : Nat → Nat), (0 < k) → (k ≤ 2 ^ (ng_rw fi np).length) → (ng_gr (ng_rw fi np).length pw2_5 lw1 lc1 k) → 2 ^ (ng_rw fi np).length - k < n → ∀ (H : Heap) (locs : List Loc), va_P (dC, dI) classes [cg_G g tA oA uA wA sA np ne bd er vr, cg_W wy g cA rA mv tl, cg_L cA cL 400 ct, cg_M mt g wy xA nA pA qA kA ((ng_rw fi np).length), cg_N xA cI 10 row2_1, cg_O nA cI 10 nr2_2, cg_N pA cI 100 pw2_5, cg_N qA cI 1024 lw1, cg_N kA cI 1024 lc1] H → va_D A [cg_G g tA oA uA wA sA np ne bd er vr, cg_W wy g cA rA mv tl, cg_L cA cL 400 ct, cg_M mt g wy xA nA pA qA kA ((ng_rw fi np).length), cg_N xA cI 10 row2_1, cg_O nA cI 10 nr2_2, cg_N pA cI 100 pw2_5, cg_N qA cI 1024 lw1, cg_N kA cI 1024 lc1] → va_S A s.heap H locs → ∀ (ls : Array Slot), lv_has ls 4 [(0, .ref mt), (1, .int fi), (2, .int (nI (2 ^ ((ng_rw fi np).length) - 1))), (3, .int (nI k))] → W p l e (headSpec w_M_solve ({ frames := 4, cells := 0, slots := 0, locals := 88 } : Room)).room s m ([.ref mt, .int fi] : List Value).toArray below meth c H locs 0 0 (MQ below (rw_Qi (dC, dI) classes A (fun r (u : (Nat → Nat) × (Nat → Option Nat) × (Nat → Nat) × (Nat → Nat) × (Nat → Nat)) => r = nb_i (!decide (u.2.2.2.1 (2 ^ (ng_rw fi np).length - 1) = ng_F1)) ∧ (∀ i, i < (ng_rw fi np).length → (ng_rw fi np)[i]? = some (u.1 i)) ∧ (∀ i, i < (ng_rw fi np).length → u.2.1 i = ng_nb bd ct (u.1 i) np) ∧ (∀ a b, a ≤ b → b < (ng_rw fi np).length → u.2.2.1 (a * 10 + b) = ng_pv ct u.1 u.2.1 a b) ∧ (∀ i, i < 100 → u.2.2.1 i ≤ ng_F1) ∧ ng_gr (ng_rw fi np).length u.2.2.1 u.2.2.2.1 u.2.2.2.2 (2 ^ (ng_rw fi np).length)) (fun u => [cg_G g tA oA uA wA sA np ne bd er vr, cg_W wy g cA rA mv tl, cg_L cA cL 400 ct, cg_M mt g wy xA nA pA qA kA ((ng_rw fi np).length), cg_N xA cI 10 u.1, cg_O nA cI 10 u.2.1, cg_N pA cI 100 u.2.2.1, cg_N qA cI 1024 u.2.2.2.1, cg_N kA cI 1024 u.2.2.2.2])) ([.ref mt, .int fi] : List Value).toArray s 0 0 A) (F0 m 30 ls []) := by
    intro n
    induction n with
    | zero => intro k lw1 lc1 hk0 hk hgr hme; exact absurd hme (Nat.not_lt_zero _)
    | succ n ih =>
      intro k lw1 lc1 hk0 hk hgr hme H locs hP hD hS ls hl
      have ih_30 := ih
      refine lv_iload_n hx hb d_M_solve_30 rfl (lv_at hl 3 rfl) ?_
      refine lv_iload_n hx hb d_M_solve_31 rfl (lv_at hl 2 rfl) ?_
      refine nr_icmp_gt (by omega) (by omega) (tgt := 46) hx hb d_M_solve_32 (by decide) (fun c_32 => ?_) (fun c_32 => ?_)
      · have hke : k = 2 ^ (ng_rw fi np).length := by omega
        rw [hke] at hgr
        have hlg := hgr.2.2.1 (2 ^ (ng_rw fi np).length - 1) (by omega)
        refine lv_aload_n hx hb d_M_solve_46 rfl (lv_at hl 0 rfl) ?_
        refine va_get (D := (dC, dI)) (ci := 3) (v := .ref qA) (C := R_M) (T := F_M) (N := 8) hx hb hts iM hown hK hP 3 rfl rfl 5 (by decide) (hts _ (List.mem_cons_of_mem _ wk_M_21)) (fun _ h9 => h9) rfl d_M_solve_47 ?_
        refine lv_iload_n hx hb d_M_solve_50 rfl (lv_at hl 2 rfl) ?_
        refine nr_iald hx hb hK hP 7 0 rfl rfl (by omega) (by decide) d_M_solve_51 ?_
        refine lv_ldc (v := 1000000000) hx hb hown (hts _ (List.mem_cons_of_mem _ wk_M_53)) d_M_solve_52 ?_
        refine nr_as (v := nI 1000000000) (by decide) ?_
        refine nr_icmp_eq (by omega) (by omega) (tgt := 61) hx hb d_M_solve_54 (by decide) (fun c_54 => ?_) (fun c_54 => ?_)
        · refine lv_iconst (v := nI 0) hx hb d_M_solve_61 (by decide) ?_
          exact rw_zret (row2_1, nr2_2, pw2_5, lw1, lc1) (b := false) hx hb hr hlocks hS hP rfl (⟨by simp [nb_i, *], hr1, hr2, hv1, hv2, hgr⟩) d_M_solve_62
        · refine lv_iconst (v := nI 1) hx hb d_M_solve_57 (by decide) ?_
          refine lv_goto (tgt := 62) hx hb d_M_solve_58 (by decide) ?_
          exact rw_zret (row2_1, nr2_2, pw2_5, lw1, lc1) (b := true) hx hb hr hlocks hS hP rfl (⟨by simp [nb_i, *], hr1, hr2, hv1, hv2, hgr⟩) d_M_solve_62
      · have hkl : k < 2 ^ (ng_rw fi np).length := by omega
        obtain ⟨lp1, lp2, -⟩ := ng_lp_ok hk0 hkl hfl
        have hg1 := ng_gr_step hfl hk0 hkl hv2 hgr
        refine lv_aload_n hx hb d_M_solve_35 rfl (lv_at hl 0 rfl) ?_
        refine lv_iload_n hx hb d_M_solve_36 rfl (lv_at hl 3 rfl) ?_
        refine rw_Vv (wr := [cg_G g tA oA uA wA sA np ne bd er vr, cg_W wy g cA rA mv tl, cg_L cA cL 400 ct, cg_N xA cI 10 row2_1, cg_O nA cI 10 nr2_2]) [3, 6, 7, 8] [0, 1, 2, 4, 5] rfl rfl (by decide) (As := [.int (nI k)]) (rest := []) ⟨hx, hb, hml, hown, hts⟩ (c_M_solveGroup l dC dI cI cL mt g wy xA nA pA qA kA ((ng_rw fi np).length) pw2_5 lw1 lc1 k (by omega) hfl (by omega) hv2 hgr.2.2.1 lp1 lp2) (cwV 1 hts (wg_V wk_M_50 wm_M_solveGroup we_M_solveGroup wi_M wc_M_solveGroup) rfl rfl rfl (by decide +kernel) ⟨Nat.le_of_ble_eq_true rfl, Nat.le_of_ble_eq_true rfl⟩) hK (hP.sub [3, 6, 7, 8] rfl) ((hD.sub [3, 6, 7, 8] (by decide) rfl).weaken (fun _ _ _ _ => trivial)) (q0 := 0) rfl rfl rfl rfl hl.1 rfl (lv_room (Nat.le_of_ble_eq_true rfl)) d_M_solve_37 ⟨Nat.zero_le _, Nat.zero_le _⟩ hS hP hD (fun u H locs hw_9 hP hS => ?_)
        have hP : va_P (dC, dI) classes [cg_G g tA oA uA wA sA np ne bd er vr, cg_W wy g cA rA mv tl, cg_L cA cL 400 ct, cg_M mt g wy xA nA pA qA kA ((ng_rw fi np).length), cg_N xA cI 10 row2_1, cg_O nA cI 10 nr2_2, cg_N pA cI 100 pw2_5, cg_N qA cI 1024 (va_up lw1 k (ng_sg pw2_5 lw1 lc1 k (ng_lp ((ng_rw fi np).length) k) (((ng_rw fi np).length) - ng_lp ((ng_rw fi np).length) k)).1), cg_N kA cI 1024 (va_up lc1 k (ng_sg pw2_5 lw1 lc1 k (ng_lp ((ng_rw fi np).length) k) (((ng_rw fi np).length) - ng_lp ((ng_rw fi np).length) k)).2)] H := hP.sub [0, 1, 2, 5, 3, 4, 6, 7, 8] rfl
        have hD : va_D A [cg_G g tA oA uA wA sA np ne bd er vr, cg_W wy g cA rA mv tl, cg_L cA cL 400 ct, cg_M mt g wy xA nA pA qA kA ((ng_rw fi np).length), cg_N xA cI 10 row2_1, cg_O nA cI 10 nr2_2, cg_N pA cI 100 pw2_5, cg_N qA cI 1024 (va_up lw1 k (ng_sg pw2_5 lw1 lc1 k (ng_lp ((ng_rw fi np).length) k) (((ng_rw fi np).length) - ng_lp ((ng_rw fi np).length) k)).1), cg_N kA cI 1024 (va_up lc1 k (ng_sg pw2_5 lw1 lc1 k (ng_lp ((ng_rw fi np).length) k) (((ng_rw fi np).length) - ng_lp ((ng_rw fi np).length) k)).2)] := rw_re hD rfl
        refine lv_iinc (v := (nI (k + 1))) (lv' := [(3, .int (nI (k + 1))), (0, .ref mt), (1, .int fi), (2, .int (nI (2 ^ ((ng_rw fi np).length) - 1)))]) hx hb d_M_solve_40 hl (k := 3) rfl (nI_1 k) (by decide) rfl (fun ls hl => ?_)
        refine lv_goto (tgt := 30) hx hb d_M_solve_43 (by decide) ?_
        exact ih_30 (k + 1) (va_up lw1 k (ng_sg pw2_5 lw1 lc1 k (ng_lp ((ng_rw fi np).length) k) (((ng_rw fi np).length) - ng_lp ((ng_rw fi np).length) k)).1) (va_up lc1 k (ng_sg pw2_5 lw1 lc1 k (ng_lp ((ng_rw fi np).length) k) (((ng_rw fi np).length) - ng_lp ((ng_rw fi np).length) k)).2) (by omega) (by omega) hg1 (by omega) _ _ hP hD hS ls (lv_sub hl [1, 2, 3, 0] rfl)
  exact lp_30 (2 ^ (ng_rw fi np).length - 1 + 1) 1 (va_up lw 0 0) (va_up lc 0 1) (by omega) (by omega) hg0 (Nat.lt_succ_self _) _ _ hP hD hS ls (lv_sub hl [2, 3, 1, 0] rfl)
