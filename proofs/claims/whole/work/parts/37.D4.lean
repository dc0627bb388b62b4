set_option maxHeartbeats 4000000 in
set_option maxRecDepth 100000 in
theorem c_D_nextEdge (l : Launch) (dC : Nat → ClassId) (dI : Nat → Nat → Nat) (cI cL cZ : ClassId) (dm : Nat) (th : Nat) (np : Nat) (ne : Nat) (fi : Int32) (kp : Int64) (iA : Nat) (tA : Nat) (oA : Nat) (uA : Nat) (wA : Nat) (sA : Nat) (eA : Nat) (vA : Nat) (yA : Nat) (lA : Nat) (ll : Nat) (mn : Nat) (xA : Nat) (cA : Nat) (zA : Nat) (pA : Nat) (bA : Nat) (fA : Nat) (gA : Nat) (bw : Nat) (bs : Nat) (ps : Nat) (qA : Nat) (rA : Nat) (aA : Nat) (kA : Nat) (lt : Nat) (wt : Nat) (fx : Int64) (ib : Nat → Bool) (oe ot wg : Nat → Nat) (ie : Nat → Bool) (wo eo : Nat → Option Nat) (p0 z wp ep : Nat) (hnp : np ≤ 20) (hne : ne ≤ 60) (hE : ∀ i, i < ne → oe i < np ∧ ot i < np) (hdf : ∀ i, i < ne → oe i ≠ ot i) (hhv : ∀ i, i < ne → ng_hv ie wg i ≤ 1000000) (hp0 : p0 < 20) (hz : z < 20) (hV : ∀ p w, p < 20 → wo p = some w → ∃ n, eo p = some n ∧ n ≤ 19 ∧ w ≤ 19000000) (hwp : wo p0 = some wp) (hep : eo p0 = some ep) : Met l y_D_nextEdge w_D_nextEdge ({ frames := 1, cells := 0, slots := 0, locals := 22 } : Room) (va_Pc [.ref dm, .int (nI p0), .int (nI z)] (ro_B (dC, dI) classes [(cI, .int), (cL, .long), (cZ, .boolean)] [cg_D dm th np ne fi kp iA tA oA uA wA sA eA vA yA lA ll mn xA cA zA pA bA fA gA bw bs ps qA rA aA kA lt wt fx, cg_B iA cZ 20 ib, cg_N oA cI 60 oe, cg_N uA cI 60 ot, cg_N wA cI 60 wg, cg_B eA cZ 60 ie, cg_O vA cI 20 wo, cg_O yA cI 20 eo])) (ro_Qi (ng_oi (ng_fst (ng_nk wo eo ib oe ot (ng_hv ie wg) p0 z) ne 0))) 0 0 ro_A := by
  refine Met.ofW (cc := b_D_nextEdge) (maxL := 5) (ret := (some .int)) (by decide) rfl ?_
  intro p e s m args below meth c s₁ B hml hv
  obtain ⟨rfl, hP, hK⟩ := hv
  have hx := B.exec
  have hb := B.bytes
  have hr := B.returns
  have hts := atoms_spec (ws := w_D_nextEdge) B.pre
  have hown : s.vm.findClass R_D = some m.cls := findClass_of_methodNamed B.named
  have hlocks := B.notSynchronized
  have iD : ∀ w ∈ w_D, w ∈ w_D_nextEdge := fun w h => List.mem_cons_of_mem _ (i_D w h)
  have hS : va_S ro_A s.heap s.heap [] := va_S.rf
  have hP : va_P (dC, dI) classes [cg_D dm th np ne fi kp iA tA oA uA wA sA eA vA yA lA ll mn xA cA zA pA bA fA gA bw bs ps qA rA aA kA lt wt fx, cg_B iA cZ 20 ib, cg_N oA cI 60 oe, cg_N uA cI 60 ot, cg_N wA cI 60 wg, cg_B eA cZ 60 ie, cg_O vA cI 20 wo, cg_O yA cI 20 eo] s.heap := hP
  have hl := lv_entry ([.ref dm, .int (nI p0), .int (nI z)]) (n := 5) (Nat.le_of_ble_eq_true rfl)
  rw [lg_entry_eq]
  generalize (lg_sl ([.ref dm, .int (nI p0), .int (nI z)]) ++ List.replicate (5 - (lg_sl ([.ref dm, .int (nI p0), .int (nI z)])).length) Slot.unset).toArray = ls at hl ⊢
  have hl : lv_has ls 5 [(0, .ref dm), (1, .int (nI p0)), (2, .int (nI z))] := hl
  obtain ⟨ep2, hep2, ep3, ep4⟩ := hV p0 wp hp0 hwp
  rw [hep] at hep2
  cases hep2
  refine lv_iconst (v := nI 0) hx hb d_D_nextEdge_0 (by decide) ?_
  refine lv_istore_n (lv' := [(3, .int (nI 0)), (0, .ref dm), (1, .int (nI p0)), (2, .int (nI z))]) hx hb d_D_nextEdge_1 rfl hl (by decide) rfl (fun ls hl => ?_)
  have lp_2 : ∀ (n : Nat) (i : Nat), (i ≤ ne) → (ng_fst (ng_nk wo eo ib oe ot (ng_hv ie wg) p0 z) ne 0 = ng_fst (ng_nk wo eo ib oe ot (ng_hv ie wg) p0 z) (ne - i) i) → ne - i < n → ∀ (H : Heap) (locs : List Loc), va_P (dC, dI) classes [cg_D dm th np ne fi kp iA tA oA uA wA sA eA vA yA lA ll mn xA cA zA pA bA fA gA bw bs ps qA rA aA kA lt wt fx, cg_B iA cZ 20 ib, cg_N oA cI 60 oe, cg_N uA cI 60 ot, cg_N wA cI 60 wg, cg_B eA cZ 60 ie, cg_O vA cI 20 wo, cg_O yA cI 20 eo] H → va_S ro_A s.heap H locs → ∀ (ls : Array Slot), lv_has ls 5 [(0, .ref dm), (1, .int (nI p0)), (2, .int (nI z)), (3, .int (nI i))] → W p l e (headSpec w_D_nextEdge ({ frames := 1, cells := 0, slots := 0, locals := 22 } : Room)).room s m ([.ref dm, .int (nI p0), .int (nI z)] : List Value).toArray below meth c H locs 0 0 (MQ below (ro_Qi (ng_oi (ng_fst (ng_nk wo eo ib oe ot (ng_hv ie wg) p0 z) ne 0))) ([.ref dm, .int (nI p0), .int (nI z)] : List Value).toArray s 0 0 ro_A) (F0 m 2 ls []) := by
    intro n
    induction n with
    | zero => intro i hi hq hme; exact absurd hme (Nat.not_lt_zero _)
    | succ n ih =>
      intro i hi hq hme H locs hP hS ls hl
      have ih_2 := ih
      refine lv_iload_n hx hb d_D_nextEdge_2 rfl (lv_at hl 3 rfl) ?_
      refine lv_aload_n hx hb d_D_nextEdge_3 rfl (lv_at hl 0 rfl) ?_
      refine va_get (D := (dC, dI)) (ci := 5) (v := .int (nI ne)) (C := R_D) (T := F_D) (N := 34) hx hb hts iD hown hK hP 0 rfl rfl 2 (by decide) (hts _ (List.mem_cons_of_mem _ wk_D_87)) (fun _ h9 => h9) rfl d_D_nextEdge_4 ?_
      refine nr_icmp_ge (by omega) (by omega) (tgt := 108) hx hb d_D_nextEdge_7 (by decide) (fun c_7 => ?_) (fun c_7 => ?_)
      · refine lv_iconst (v := -1) hx hb d_D_nextEdge_108 (by decide) ?_
        exact ro_iret hx hb hr hlocks hS (by rw [hq, show ne - i = 0 by omega]; rfl) d_D_nextEdge_109
      · have hEi := hE i c_7
        have hhi := hhv i c_7
        refine lv_aload_n hx hb d_D_nextEdge_10 rfl (lv_at hl 0 rfl) ?_
        refine va_get (D := (dC, dI)) (ci := 5) (v := .ref oA) (C := R_D) (T := F_D) (N := 34) hx hb hts iD hown hK hP 0 rfl rfl 7 (by decide) (hts _ (List.mem_cons_of_mem _ wk_D_17)) (fun _ h9 => h9) rfl d_D_nextEdge_11 ?_
        refine lv_iload_n hx hb d_D_nextEdge_14 rfl (lv_at hl 3 rfl) ?_
        refine nr_iald hx hb hK hP 2 0 rfl rfl (by omega) (by decide) d_D_nextEdge_15 ?_
        refine lv_iload_n hx hb d_D_nextEdge_16 rfl (lv_at hl 1 rfl) ?_
        refine nr_icmp_eq (by omega) (by omega) (tgt := 33) hx hb d_D_nextEdge_17 (by decide) (fun c_17 => ?_) (fun c_17 => ?_)
        · refine lv_aload_n hx hb d_D_nextEdge_33 rfl (lv_at hl 0 rfl) ?_
          refine va_get (D := (dC, dI)) (ci := 5) (v := .ref oA) (C := R_D) (T := F_D) (N := 34) hx hb hts iD hown hK hP 0 rfl rfl 7 (by decide) (hts _ (List.mem_cons_of_mem _ wk_D_17)) (fun _ h9 => h9) rfl d_D_nextEdge_34 ?_
          refine lv_iload_n hx hb d_D_nextEdge_37 rfl (lv_at hl 3 rfl) ?_
          refine nr_iald hx hb hK hP 2 0 rfl rfl (by omega) (by decide) d_D_nextEdge_38 ?_
          refine lv_aload_n hx hb d_D_nextEdge_39 rfl (lv_at hl 0 rfl) ?_
          refine va_get (D := (dC, dI)) (ci := 5) (v := .ref uA) (C := R_D) (T := F_D) (N := 34) hx hb hts iD hown hK hP 0 rfl rfl 8 (by decide) (hts _ (List.mem_cons_of_mem _ wk_D_20)) (fun _ h9 => h9) rfl d_D_nextEdge_40 ?_
          refine lv_iload_n hx hb d_D_nextEdge_43 rfl (lv_at hl 3 rfl) ?_
          refine nr_iald hx hb hK hP 3 0 rfl rfl (by omega) (by decide) d_D_nextEdge_44 ?_
          refine nr_iadd hx hb d_D_nextEdge_45 ?_
          refine lv_iload_n hx hb d_D_nextEdge_46 rfl (lv_at hl 1 rfl) ?_
          refine nr_isub (by omega) hx hb d_D_nextEdge_47 ?_
          obtain ⟨y, hnx, hy0⟩ : ∃ y, ng_nx oe ot i p0 = some y ∧ oe i + ot i - p0 = y := by first | exact ⟨ot i, by rw [ng_nx, if_pos c_17], by omega⟩ | exact ⟨oe i, by rw [ng_nx, if_neg c_17, if_pos c_27], by omega⟩
          refine nr_as (v := nI y) (by rw [hy0]) ?_
          have hy := ng_nx_lt hnx hEi.1 hEi.2
          refine lv_istore (lv' := [(4, .int (nI y)), (0, .ref dm), (1, .int (nI p0)), (2, .int (nI z)), (3, .int (nI i))]) hx hb d_D_nextEdge_48 hl (by decide) rfl (fun ls hl => ?_)
          refine lv_aload_n hx hb d_D_nextEdge_50 rfl (lv_at hl 1 rfl) ?_
          refine lv_iload hx hb d_D_nextEdge_51 (lv_at hl 0 rfl) ?_
          refine lv_iload_n hx hb d_D_nextEdge_53 rfl (lv_at hl 3 rfl) ?_
          refine ro_Vi (As := [.int (nI y), .int (nI z)]) (rest := []) ⟨hx, hb, hml, hown, hts⟩ (c_D_goesOn l dC dI cI cL cZ dm th np ne fi kp iA tA oA uA wA sA eA vA yA lA ll mn xA cA zA pA bA fA gA bw bs ps qA rA aA kA lt wt fx ib wo y z (by omega) (by omega) (fun w hw => by obtain ⟨n, -, -, q⟩ := hV y w (by omega) hw; omega)) (cwV 2 hts (wg_V wk_D_113 wm_D_goesOn we_D_goesOn wi_D wc_D_goesOn) rfl rfl rfl (by decide +kernel) ⟨Nat.le_of_ble_eq_true rfl, Nat.le_of_ble_eq_true rfl⟩) hK (hP.sub [0, 1, 6] rfl) (q0 := 0) rfl rfl rfl rfl hl.1 rfl (lv_room (Nat.le_of_ble_eq_true rfl)) d_D_nextEdge_54 ⟨Nat.zero_le _, Nat.zero_le _⟩ hS hP (fun H locs hP hS => ?_)
          refine nr_ifeqB (tgt := 102) hx hb d_D_nextEdge_57 (by decide) (fun c_57 => ?_) (fun c_57 => ?_)
          · refine lv_iinc (v := (nI (i + 1))) (lv' := [(3, .int (nI (i + 1))), (4, .int (nI y)), (0, .ref dm), (1, .int (nI p0)), (2, .int (nI z))]) hx hb d_D_nextEdge_102 hl (k := 4) rfl (nI_1 i) (by decide) rfl (fun ls hl => ?_)
            refine lv_goto (tgt := 2) hx hb d_D_nextEdge_105 (by decide) ?_
            exact ih_2 (i + 1) (by omega) (hq.trans (ng_fst_f c_7 (by first | exact ng_nk_0 hnx | exact ng_nk_1 hnx c_57 | exact ng_nk_2 hnx hwy hwp c_79 | exact ng_nk_3 hnx hny hep c_97))) (by omega) _ _ hP hS ls (lv_sub hl [2, 3, 4, 0] rfl)
          · obtain ⟨wy, hwy, -⟩ := ng_go_t c_57
            obtain ⟨ny, hny, ny1, ny2⟩ := hV y wy (by omega) hwy
            refine lv_aload_n hx hb d_D_nextEdge_60 rfl (lv_at hl 1 rfl) ?_
            refine va_get (D := (dC, dI)) (ci := 5) (v := .ref vA) (C := R_D) (T := F_D) (N := 34) hx hb hts iD hown hK hP 0 rfl rfl 12 (by decide) (hts _ (List.mem_cons_of_mem _ wk_D_32)) (fun _ h9 => h9) rfl d_D_nextEdge_61 ?_
            refine lv_iload hx hb d_D_nextEdge_64 (lv_at hl 0 rfl) ?_
            refine nr_oald hx hb hK hP 6 0 rfl rfl (by omega) (by decide) d_D_nextEdge_66 ?_
            rw [hwy]
            refine nr_as (v := nI wy) rfl ?_
            refine lv_aload_n hx hb d_D_nextEdge_67 rfl (lv_at hl 1 rfl) ?_
            refine lv_iload_n hx hb d_D_nextEdge_68 rfl (lv_at hl 4 rfl) ?_
            refine ro_Vi (As := [.int (nI i)]) (rest := [.int (nI wy)]) ⟨hx, hb, hml, hown, hts⟩ (c_D_heavy l dC dI cI cL cZ dm th np ne fi kp iA tA oA uA wA sA eA vA yA lA ll mn xA cA zA pA bA fA gA bw bs ps qA rA aA kA lt wt fx ie wg i (by omega)) (cwV 1 hts (wg_V wk_D_117 wm_D_heavy we_D_heavy wi_D wc_D_heavy) rfl rfl rfl (by decide +kernel) ⟨Nat.le_of_ble_eq_true rfl, Nat.le_of_ble_eq_true rfl⟩) hK (hP.sub [0, 5, 4] rfl) (q0 := 0) rfl rfl rfl rfl hl.1 rfl (lv_room (Nat.le_of_ble_eq_true rfl)) d_D_nextEdge_69 ⟨Nat.zero_le _, Nat.zero_le _⟩ hS hP (fun H locs hP hS => ?_)
            refine nr_iadd hx hb d_D_nextEdge_72 ?_
            refine lv_aload_n hx hb d_D_nextEdge_73 rfl (lv_at hl 1 rfl) ?_
            refine va_get (D := (dC, dI)) (ci := 5) (v := .ref vA) (C := R_D) (T := F_D) (N := 34) hx hb hts iD hown hK hP 0 rfl rfl 12 (by decide) (hts _ (List.mem_cons_of_mem _ wk_D_32)) (fun _ h9 => h9) rfl d_D_nextEdge_74 ?_
            refine lv_iload_n hx hb d_D_nextEdge_77 rfl (lv_at hl 2 rfl) ?_
            refine nr_oald hx hb hK hP 6 0 rfl rfl (by omega) (by decide) d_D_nextEdge_78 ?_
            rw [hwp]
            refine nr_as (v := nI wp) rfl ?_
            refine nr_icmp_ne (by omega) (by omega) (tgt := 102) hx hb d_D_nextEdge_79 (by decide) (fun c_79 => ?_) (fun c_79 => ?_)
            · refine lv_iinc (v := (nI (i + 1))) (lv' := [(3, .int (nI (i + 1))), (4, .int (nI y)), (0, .ref dm), (1, .int (nI p0)), (2, .int (nI z))]) hx hb d_D_nextEdge_102 hl (k := 4) rfl (nI_1 i) (by decide) rfl (fun ls hl => ?_)
              refine lv_goto (tgt := 2) hx hb d_D_nextEdge_105 (by decide) ?_
              exact ih_2 (i + 1) (by omega) (hq.trans (ng_fst_f c_7 (by first | exact ng_nk_0 hnx | exact ng_nk_1 hnx c_57 | exact ng_nk_2 hnx hwy hwp c_79 | exact ng_nk_3 hnx hny hep c_97))) (by omega) _ _ hP hS ls (lv_sub hl [2, 3, 4, 0] rfl)
            · refine lv_aload_n hx hb d_D_nextEdge_82 rfl (lv_at hl 1 rfl) ?_
              refine va_get (D := (dC, dI)) (ci := 5) (v := .ref yA) (C := R_D) (T := F_D) (N := 34) hx hb hts iD hown hK hP 0 rfl rfl 13 (by decide) (hts _ (List.mem_cons_of_mem _ wk_D_35)) (fun _ h9 => h9) rfl d_D_nextEdge_83 ?_
              refine lv_iload hx hb d_D_nextEdge_86 (lv_at hl 0 rfl) ?_
              refine nr_oald hx hb hK hP 7 0 rfl rfl (by omega) (by decide) d_D_nextEdge_88 ?_
              rw [hny]
              refine nr_as (v := nI ny) rfl ?_
              refine lv_iconst (v := nI 1) hx hb d_D_nextEdge_89 (by decide) ?_
              refine nr_iadd hx hb d_D_nextEdge_90 ?_
              refine lv_aload_n hx hb d_D_nextEdge_91 rfl (lv_at hl 1 rfl) ?_
              refine va_get (D := (dC, dI)) (ci := 5) (v := .ref yA) (C := R_D) (T := F_D) (N := 34) hx hb hts iD hown hK hP 0 rfl rfl 13 (by decide) (hts _ (List.mem_cons_of_mem _ wk_D_35)) (fun _ h9 => h9) rfl d_D_nextEdge_92 ?_
              refine lv_iload_n hx hb d_D_nextEdge_95 rfl (lv_at hl 2 rfl) ?_
              refine nr_oald hx hb hK hP 7 0 rfl rfl (by omega) (by decide) d_D_nextEdge_96 ?_
              rw [hep]
              refine nr_as (v := nI ep) rfl ?_
              refine nr_icmp_ne (by omega) (by omega) (tgt := 102) hx hb d_D_nextEdge_97 (by decide) (fun c_97 => ?_) (fun c_97 => ?_)
              · refine lv_iinc (v := (nI (i + 1))) (lv' := [(3, .int (nI (i + 1))), (4, .int (nI y)), (0, .ref dm), (1, .int (nI p0)), (2, .int (nI z))]) hx hb d_D_nextEdge_102 hl (k := 4) rfl (nI_1 i) (by decide) rfl (fun ls hl => ?_)
                refine lv_goto (tgt := 2) hx hb d_D_nextEdge_105 (by decide) ?_
                exact ih_2 (i + 1) (by omega) (hq.trans (ng_fst_f c_7 (by first | exact ng_nk_0 hnx | exact ng_nk_1 hnx c_57 | exact ng_nk_2 hnx hwy hwp c_79 | exact ng_nk_3 hnx hny hep c_97))) (by omega) _ _ hP hS ls (lv_sub hl [2, 3, 4, 0] rfl)
              · refine lv_iload_n hx hb d_D_nextEdge_100 rfl (lv_at hl 4 rfl) ?_
                exact ro_iret hx hb hr hlocks hS (by rw [hq, ng_fst_t c_7 (ng_nk_t hnx c_57 hwy hwp hny hep c_79 c_97)]; rfl) d_D_nextEdge_101
        · refine lv_aload_n hx hb d_D_nextEdge_20 rfl (lv_at hl 0 rfl) ?_
          refine va_get (D := (dC, dI)) (ci := 5) (v := .ref uA) (C := R_D) (T := F_D) (N := 34) hx hb hts iD hown hK hP 0 rfl rfl 8 (by decide) (hts _ (List.mem_cons_of_mem _ wk_D_20)) (fun _ h9 => h9) rfl d_D_nextEdge_21 ?_
          refine lv_iload_n hx hb d_D_nextEdge_24 rfl (lv_at hl 3 rfl) ?_
          refine nr_iald hx hb hK hP 3 0 rfl rfl (by omega) (by decide) d_D_nextEdge_25 ?_
          refine lv_iload_n hx hb d_D_nextEdge_26 rfl (lv_at hl 1 rfl) ?_
          refine nr_icmp_eq (by omega) (by omega) (tgt := 33) hx hb d_D_nextEdge_27 (by decide) (fun c_27 => ?_) (fun c_27 => ?_)
          · refine lv_aload_n hx hb d_D_nextEdge_33 rfl (lv_at hl 0 rfl) ?_
            refine va_get (D := (dC, dI)) (ci := 5) (v := .ref oA) (C := R_D) (T := F_D) (N := 34) hx hb hts iD hown hK hP 0 rfl rfl 7 (by decide) (hts _ (List.mem_cons_of_mem _ wk_D_17)) (fun _ h9 => h9) rfl d_D_nextEdge_34 ?_
            refine lv_iload_n hx hb d_D_nextEdge_37 rfl (lv_at hl 3 rfl) ?_
            refine nr_iald hx hb hK hP 2 0 rfl rfl (by omega) (by decide) d_D_nextEdge_38 ?_
            refine lv_aload_n hx hb d_D_nextEdge_39 rfl (lv_at hl 0 rfl) ?_
            refine va_get (D := (dC, dI)) (ci := 5) (v := .ref uA) (C := R_D) (T := F_D) (N := 34) hx hb hts iD hown hK hP 0 rfl rfl 8 (by decide) (hts _ (List.mem_cons_of_mem _ wk_D_20)) (fun _ h9 => h9) rfl d_D_nextEdge_40 ?_
            refine lv_iload_n hx hb d_D_nextEdge_43 rfl (lv_at hl 3 rfl) ?_
            refine nr_iald hx hb hK hP 3 0 rfl rfl (by omega) (by decide) d_D_nextEdge_44 ?_
            refine nr_iadd hx hb d_D_nextEdge_45 ?_
            refine lv_iload_n hx hb d_D_nextEdge_46 rfl (lv_at hl 1 rfl) ?_
            refine nr_isub (by omega) hx hb d_D_nextEdge_47 ?_
            obtain ⟨y, hnx, hy0⟩ : ∃ y, ng_nx oe ot i p0 = some y ∧ oe i + ot i - p0 = y := by first | exact ⟨ot i, by rw [ng_nx, if_pos c_17], by omega⟩ | exact ⟨oe i, by rw [ng_nx, if_neg c_17, if_pos c_27], by omega⟩
            refine nr_as (v := nI y) (by rw [hy0]) ?_
            have hy := ng_nx_lt hnx hEi.1 hEi.2
            refine lv_istore (lv' := [(4, .int (nI y)), (0, .ref dm), (1, .int (nI p0)), (2, .int (nI z)), (3, .int (nI i))]) hx hb d_D_nextEdge_48 hl (by decide) rfl (fun ls hl => ?_)
            refine lv_aload_n hx hb d_D_nextEdge_50 rfl (lv_at hl 1 rfl) ?_
            refine lv_iload hx hb d_D_nextEdge_51 (lv_at hl 0 rfl) ?_
            refine lv_iload_n hx hb d_D_nextEdge_53 rfl (lv_at hl 3 rfl) ?_
            refine ro_Vi (As := [.int (nI y), .int (nI z)]) (rest := []) ⟨hx, hb, hml, hown, hts⟩ (c_D_goesOn l dC dI cI cL cZ dm th np ne fi kp iA tA oA uA wA sA eA vA yA lA ll mn xA cA zA pA bA fA gA bw bs ps qA rA aA kA lt wt fx ib wo y z (by omega) (by omega) (fun w hw => by obtain ⟨n, -, -, q⟩ := hV y w (by omega) hw; omega)) (cwV 2 hts (wg_V wk_D_113 wm_D_goesOn we_D_goesOn wi_D wc_D_goesOn) rfl rfl rfl (by decide +kernel) ⟨Nat.le_of_ble_eq_true rfl, Nat.le_of_ble_eq_true rfl⟩) hK (hP.sub [0, 1, 6] rfl) (q0 := 0) rfl rfl rfl rfl hl.1 rfl (lv_room (Nat.le_of_ble_eq_true rfl)) d_D_nextEdge_54 ⟨Nat.zero_le _, Nat.zero_le _⟩ hS hP (fun H locs hP hS => ?_)
            refine nr_ifeqB (tgt := 102) hx hb d_D_nextEdge_57 (by decide) (fun c_57 => ?_) (fun c_57 => ?_)
            · refine lv_iinc (v := (nI (i + 1))) (lv' := [(3, .int (nI (i + 1))), (4, .int (nI y)), (0, .ref dm), (1, .int (nI p0)), (2, .int (nI z))]) hx hb d_D_nextEdge_102 hl (k := 4) rfl (nI_1 i) (by decide) rfl (fun ls hl => ?_)
              refine lv_goto (tgt := 2) hx hb d_D_nextEdge_105 (by decide) ?_
              exact ih_2 (i + 1) (by omega) (hq.trans (ng_fst_f c_7 (by first | exact ng_nk_0 hnx | exact ng_nk_1 hnx c_57 | exact ng_nk_2 hnx hwy hwp c_79 | exact ng_nk_3 hnx hny hep c_97))) (by omega) _ _ hP hS ls (lv_sub hl [2, 3, 4, 0] rfl)
            · obtain ⟨wy, hwy, -⟩ := ng_go_t c_57
              obtain ⟨ny, hny, ny1, ny2⟩ := hV y wy (by omega) hwy
              refine lv_aload_n hx hb d_D_nextEdge_60 rfl (lv_at hl 1 rfl) ?_
              refine va_get (D := (dC, dI)) (ci := 5) (v := .ref vA) (C := R_D) (T := F_D) (N := 34) hx hb hts iD hown hK hP 0 rfl rfl 12 (by decide) (hts _ (List.mem_cons_of_mem _ wk_D_32)) (fun _ h9 => h9) rfl d_D_nextEdge_61 ?_
              refine lv_iload hx hb d_D_nextEdge_64 (lv_at hl 0 rfl) ?_
              refine nr_oald hx hb hK hP 6 0 rfl rfl (by omega) (by decide) d_D_nextEdge_66 ?_
              rw [hwy]
              refine nr_as (v := nI wy) rfl ?_
              refine lv_aload_n hx hb d_D_nextEdge_67 rfl (lv_at hl 1 rfl) ?_
              refine lv_iload_n hx hb d_D_nextEdge_68 rfl (lv_at hl 4 rfl) ?_
              refine ro_Vi (As := [.int (nI i)]) (rest := [.int (nI wy)]) ⟨hx, hb, hml, hown, hts⟩ (c_D_heavy l dC dI cI cL cZ dm th np ne fi kp iA tA oA uA wA sA eA vA yA lA ll mn xA cA zA pA bA fA gA bw bs ps qA rA aA kA lt wt fx ie wg i (by omega)) (cwV 1 hts (wg_V wk_D_117 wm_D_heavy we_D_heavy wi_D wc_D_heavy) rfl rfl rfl (by decide +kernel) ⟨Nat.le_of_ble_eq_true rfl, Nat.le_of_ble_eq_true rfl⟩) hK (hP.sub [0, 5, 4] rfl) (q0 := 0) rfl rfl rfl rfl hl.1 rfl (lv_room (Nat.le_of_ble_eq_true rfl)) d_D_nextEdge_69 ⟨Nat.zero_le _, Nat.zero_le _⟩ hS hP (fun H locs hP hS => ?_)
              refine nr_iadd hx hb d_D_nextEdge_72 ?_
              refine lv_aload_n hx hb d_D_nextEdge_73 rfl (lv_at hl 1 rfl) ?_
              refine va_get (D := (dC, dI)) (ci := 5) (v := .ref vA) (C := R_D) (T := F_D) (N := 34) hx hb hts iD hown hK hP 0 rfl rfl 12 (by decide) (hts _ (List.mem_cons_of_mem _ wk_D_32)) (fun _ h9 => h9) rfl d_D_nextEdge_74 ?_
              refine lv_iload_n hx hb d_D_nextEdge_77 rfl (lv_at hl 2 rfl) ?_
              refine nr_oald hx hb hK hP 6 0 rfl rfl (by omega) (by decide) d_D_nextEdge_78 ?_
              rw [hwp]
              refine nr_as (v := nI wp) rfl ?_
              refine nr_icmp_ne (by omega) (by omega) (tgt := 102) hx hb d_D_nextEdge_79 (by decide) (fun c_79 => ?_) (fun c_79 => ?_)
              · refine lv_iinc (v := (nI (i + 1))) (lv' := [(3, .int (nI (i + 1))), (4, .int (nI y)), (0, .ref dm), (1, .int (nI p0)), (2, .int (nI z))]) hx hb d_D_nextEdge_102 hl (k := 4) rfl (nI_1 i) (by decide) rfl (fun ls hl => ?_)
                refine lv_goto (tgt := 2) hx hb d_D_nextEdge_105 (by decide) ?_
                exact ih_2 (i + 1) (by omega) (hq.trans (ng_fst_f c_7 (by first | exact ng_nk_0 hnx | exact ng_nk_1 hnx c_57 | exact ng_nk_2 hnx hwy hwp c_79 | exact ng_nk_3 hnx hny hep c_97))) (by omega) _ _ hP hS ls (lv_sub hl [2, 3, 4, 0] rfl)
              · refine lv_aload_n hx hb d_D_nextEdge_82 rfl (lv_at hl 1 rfl) ?_
                refine va_get (D := (dC, dI)) (ci := 5) (v := .ref yA) (C := R_D) (T := F_D) (N := 34) hx hb hts iD hown hK hP 0 rfl rfl 13 (by decide) (hts _ (List.mem_cons_of_mem _ wk_D_35)) (fun _ h9 => h9) rfl d_D_nextEdge_83 ?_
                refine lv_iload hx hb d_D_nextEdge_86 (lv_at hl 0 rfl) ?_
                refine nr_oald hx hb hK hP 7 0 rfl rfl (by omega) (by decide) d_D_nextEdge_88 ?_
                rw [hny]
                refine nr_as (v := nI ny) rfl ?_
                refine lv_iconst (v := nI 1) hx hb d_D_nextEdge_89 (by decide) ?_
                refine nr_iadd hx hb d_D_nextEdge_90 ?_
                refine lv_aload_n hx hb d_D_nextEdge_91 rfl (lv_at hl 1 rfl) ?_
                refine va_get (D := (dC, dI)) (ci := 5) (v := .ref yA) (C := R_D) (T := F_D) (N := 34) hx hb hts iD hown hK hP 0 rfl rfl 13 (by decide) (hts _ (List.mem_cons_of_mem _ wk_D_35)) (fun _ h9 => h9) rfl d_D_nextEdge_92 ?_
                refine lv_iload_n hx hb d_D_nextEdge_95 rfl (lv_at hl 2 rfl) ?_
                refine nr_oald hx hb hK hP 7 0 rfl rfl (by omega) (by decide) d_D_nextEdge_96 ?_
                rw [hep]
                refine nr_as (v := nI ep) rfl ?_
                refine nr_icmp_ne (by omega) (by omega) (tgt := 102) hx hb d_D_nextEdge_97 (by decide) (fun c_97 => ?_) (fun c_97 => ?_)
                · refine lv_iinc (v := (nI (i + 1))) (lv' := [(3, .int (nI (i + 1))), (4, .int (nI y)), (0, .ref dm), (1, .int (nI p0)), (2, .int (nI z))]) hx hb d_D_nextEdge_102 hl (k := 4) rfl (nI_1 i) (by decide) rfl (fun ls hl => ?_)
                  refine lv_goto (tgt := 2) hx hb d_D_nextEdge_105 (by decide) ?_
                  exact ih_2 (i + 1) (by omega) (hq.trans (ng_fst_f c_7 (by first | exact ng_nk_0 hnx | exact ng_nk_1 hnx c_57 | exact ng_nk_2 hnx hwy hwp c_79 | exact ng_nk_3 hnx hny hep c_97))) (by omega) _ _ hP hS ls (lv_sub hl [2, 3, 4, 0] rfl)
                · refine lv_iload_n hx hb d_D_nextEdge_100 rfl (lv_at hl 4 rfl) ?_
                  exact ro_iret hx hb hr hlocks hS (by rw [hq, ng_fst_t c_7 (ng_nk_t hnx c_57 hwy hwp hny hep c_79 c_97)]; rfl) d_D_nextEdge_101
          · have hnx : ng_nx oe ot i p0 = none := by rw [ng_nx, if_neg c_17, if_neg c_27]
            refine lv_goto (tgt := 102) hx hb d_D_nextEdge_30 (by decide) ?_
            refine lv_iinc (v := (nI (i + 1))) (lv' := [(3, .int (nI (i + 1))), (0, .ref dm), (1, .int (nI p0)), (2, .int (nI z))]) hx hb d_D_nextEdge_102 hl (k := 3) rfl (nI_1 i) (by decide) rfl (fun ls hl => ?_)
            refine lv_goto (tgt := 2) hx hb d_D_nextEdge_105 (by decide) ?_
            exact ih_2 (i + 1) (by omega) (hq.trans (ng_fst_f c_7 (by first | exact ng_nk_0 hnx | exact ng_nk_1 hnx c_57 | exact ng_nk_2 hnx hwy hwp c_79 | exact ng_nk_3 hnx hny hep c_97))) (by omega) _ _ hP hS ls (lv_sub hl [1, 2, 3, 0] rfl)
  exact lp_2 (ne - 0 + 1) 0 (by omega) rfl (Nat.lt_succ_self _) _ _ hP hS ls (lv_sub hl [1, 2, 3, 0] rfl)
set_option maxHeartbeats 4000000 in
set_option maxRecDepth 100000 in
theorem c_D_lay_lt (l : Launch) (dC : Nat → ClassId) (dI : Nat → Nat → Nat) (cI cL cZ : ClassId) (dm : Nat) (th : Nat) (np : Nat) (ne : Nat) (fi : Int32) (kp : Int64) (iA : Nat) (tA : Nat) (oA : Nat) (uA : Nat) (wA : Nat) (sA : Nat) (eA : Nat) (vA : Nat) (yA : Nat) (lA : Nat) (ll : Nat) (mn : Nat) (xA : Nat) (cA : Nat) (zA : Nat) (pA : Nat) (bA : Nat) (fA : Nat) (gA : Nat) (bw : Nat) (bs : Nat) (ps : Nat) (qA : Nat) (rA : Nat) (aA : Nat) (kA : Nat) (lt : Nat) (wt : Nat) (fx : Int64) (ib : Nat → Bool) (oe ot wg : Nat → Nat) (ie : Nat → Bool) (wo eo : Nat → Option Nat) (la : Nat → Nat) (p0 z : Nat) (hnp : np ≤ 20) (hne : ne ≤ 60) (hE : ∀ i, i < ne → oe i < np ∧ ot i < np) (hdf : ∀ i, i < ne → oe i ≠ ot i) (hhv : ∀ i, i < ne → ng_hv ie wg i ≤ 1000000) (hp0 : p0 < 20) (hz : z < 20) (hpz : p0 < z) : Met l y_D_lay w_D_lay ({ frames := 3, cells := 0, slots := 0, locals := 73 } : Room) (va_Pc [.ref dm, .int (nI p0), .int (nI z)] (rw_B (dC, dI) classes [(cI, .int), (cL, .long), (cZ, .boolean)] [cg_D dm th np ne fi kp iA tA oA uA wA sA eA vA yA lA ll mn xA cA zA pA bA fA gA bw bs ps qA rA aA kA lt wt fx, cg_B iA cZ 20 ib, cg_N oA cI 60 oe, cg_N uA cI 60 ot, cg_N wA cI 60 wg, cg_B eA cZ 60 ie, cg_O vA cI 20 wo, cg_O yA cI 20 eo, cg_N lA cI 60 la])) (rw_Qi (dC, dI) classes (rw_A [cg_D dm th np ne fi kp iA tA oA uA wA sA eA vA yA lA ll mn xA cA zA pA bA fA gA bw bs ps qA rA aA kA lt wt fx, cg_B iA cZ 20 ib, cg_N oA cI 60 oe, cg_N uA cI 60 ot, cg_N wA cI 60 wg, cg_B eA cZ 60 ie, cg_O vA cI 20 wo, cg_O yA cI 20 eo, cg_N lA cI 60 la]) (fun r (u : (Nat → Option Nat) × (Nat → Option Nat) × (Nat) × (Nat → Nat)) => ng_T ne z ib oe ot (ng_hv ie wg) u.1 u.2.1 ∧ ((u.1 p0 = none ∧ r = nb_i false ∧ u.2.2.1 = 0 ∧ u.2.2.2 = la) ∨ (∃ w0, u.1 p0 = some w0 ∧ r = nb_i true ∧ u.2.2.1 = (ng_path (ng_nxD u.1 u.2.1 ib oe ot (ng_hv ie wg) ne z) z 20 p0).length ∧ (∀ i, i < (ng_path (ng_nxD u.1 u.2.1 ib oe ot (ng_hv ie wg) ne z) z 20 p0).length → (ng_path (ng_nxD u.1 u.2.1 ib oe ot (ng_hv ie wg) ne z) z 20 p0)[i]? = some (u.2.2.2 i)) ∧ (ng_path (ng_nxD u.1 u.2.1 ib oe ot (ng_hv ie wg) ne z) z 20 p0).length ≤ 20))) (fun u => [cg_D dm th np ne fi kp iA tA oA uA wA sA eA vA yA lA u.2.2.1 mn xA cA zA pA bA fA gA bw bs ps qA rA aA kA lt wt fx, cg_B iA cZ 20 ib, cg_N oA cI 60 oe, cg_N uA cI 60 ot, cg_N wA cI 60 wg, cg_B eA cZ 60 ie, cg_O vA cI 20 u.1, cg_O yA cI 20 u.2.1, cg_N lA cI 60 u.2.2.2])) 0 0 (rw_A [cg_D dm th np ne fi kp iA tA oA uA wA sA eA vA yA lA ll mn xA cA zA pA bA fA gA bw bs ps qA rA aA kA lt wt fx, cg_B iA cZ 20 ib, cg_N oA cI 60 oe, cg_N uA cI 60 ot, cg_N wA cI 60 wg, cg_B eA cZ 60 ie, cg_O vA cI 20 wo, cg_O yA cI 20 eo, cg_N lA cI 60 la]) := by
  refine Met.ofW (cc := b_D_lay) (maxL := 6) (ret := (some .boolean)) (by decide) rfl ?_
  intro p e s m args below meth c s₁ B hml hv
  obtain ⟨rfl, hP, hK, hD0⟩ := hv
  have hx := B.exec
  have hb := B.bytes
  have hr := B.returns
  have hts := atoms_spec (ws := w_D_lay) B.pre
  have hown : s.vm.findClass R_D = some m.cls := findClass_of_methodNamed B.named
  have hlocks := B.notSynchronized
  have iD : ∀ w ∈ w_D, w ∈ w_D_lay := fun w h => List.mem_cons_of_mem _ (i_D w h)
  have hD := rw_own hD0
  generalize hAe : rw_A [cg_D dm th np ne fi kp iA tA oA uA wA sA eA vA yA lA ll mn xA cA zA pA bA fA gA bw bs ps qA rA aA kA lt wt fx, cg_B iA cZ 20 ib, cg_N oA cI 60 oe, cg_N uA cI 60 ot, cg_N wA cI 60 wg, cg_B eA cZ 60 ie, cg_O vA cI 20 wo, cg_O yA cI 20 eo, cg_N lA cI 60 la] = A at hD ⊢
  have hS : va_S A s.heap s.heap [] := va_S.rf
  have hP : va_P (dC, dI) classes [cg_D dm th np ne fi kp iA tA oA uA wA sA eA vA yA lA ll mn xA cA zA pA bA fA gA bw bs ps qA rA aA kA lt wt fx, cg_B iA cZ 20 ib, cg_N oA cI 60 oe, cg_N uA cI 60 ot, cg_N wA cI 60 wg, cg_B eA cZ 60 ie, cg_O vA cI 20 wo, cg_O yA cI 20 eo, cg_N lA cI 60 la] s.heap := hP
  have hl := lv_entry ([.ref dm, .int (nI p0), .int (nI z)]) (n := 6) (Nat.le_of_ble_eq_true rfl)
  rw [lg_entry_eq]
  generalize (lg_sl ([.ref dm, .int (nI p0), .int (nI z)]) ++ List.replicate (6 - (lg_sl ([.ref dm, .int (nI p0), .int (nI z)])).length) Slot.unset).toArray = ls at hl ⊢
  have hl : lv_has ls 6 [(0, .ref dm), (1, .int (nI p0)), (2, .int (nI z))] := hl
  refine lv_iload_n hx hb d_D_lay_0 rfl (lv_at hl 1 rfl) ?_
  refine lv_iload_n hx hb d_D_lay_1 rfl (lv_at hl 2 rfl) ?_
  refine nr_icmp_ge (by omega) (by omega) (tgt := 9) hx hb d_D_lay_2 (by decide) (fun c_2 => ?_) (fun c_2 => ?_)
  · exact False.elim (by omega)
  · refine lv_iload_n hx hb d_D_lay_5 rfl (lv_at hl 1 rfl) ?_
    refine lv_goto (tgt := 10) hx hb d_D_lay_6 (by decide) ?_
    refine lv_istore_n (lv' := [(3, .int (nI p0)), (0, .ref dm), (1, .int (nI p0)), (2, .int (nI z))]) hx hb d_D_lay_10 rfl hl (by decide) rfl (fun ls hl => ?_)
    refine lv_iload_n hx hb d_D_lay_11 rfl (lv_at hl 2 rfl) ?_
    refine lv_iload_n hx hb d_D_lay_12 rfl (lv_at hl 3 rfl) ?_
    refine nr_icmp_ge (by omega) (by omega) (tgt := 20) hx hb d_D_lay_13 (by decide) (fun c_13 => ?_) (fun c_13 => ?_)
    · exact False.elim (by omega)
    · refine lv_iload_n hx hb d_D_lay_16 rfl (lv_at hl 3 rfl) ?_
      refine lv_goto (tgt := 21) hx hb d_D_lay_17 (by decide) ?_
      refine lv_istore (lv' := [(4, .int (nI z)), (3, .int (nI p0)), (0, .ref dm), (1, .int (nI p0)), (2, .int (nI z))]) hx hb d_D_lay_21 hl (by decide) rfl (fun ls hl => ?_)
      refine lv_aload_n hx hb d_D_lay_23 rfl (lv_at hl 2 rfl) ?_
      refine lv_iload hx hb d_D_lay_24 (lv_at hl 0 rfl) ?_
      refine rw_Vv (wr := [cg_N lA cI 60 la]) [0, 1, 2, 3, 4, 5, 6, 7] [8] rfl rfl (by decide) (As := [.int (nI z)]) (rest := []) ⟨hx, hb, hml, hown, hts⟩ (c_D_findTo l dC dI cI cL cZ dm th np ne fi kp iA tA oA uA wA sA eA vA yA lA ll mn xA cA zA pA bA fA gA bw bs ps qA rA aA kA lt wt fx ib oe ot wg ie wo eo z (by omega) (by omega) (by omega) (fun i h => ⟨Nat.lt_of_lt_of_le (hE i h).1 hnp, Nat.lt_of_lt_of_le (hE i h).2 hnp⟩) hdf hhv) (cwV 1 hts (wg_V wk_D_123 wm_D_findTo we_D_findTo wi_D wc_D_findTo) rfl rfl rfl (by decide +kernel) ⟨Nat.le_of_ble_eq_true rfl, Nat.le_of_ble_eq_true rfl⟩) hK (hP.sub [0, 1, 2, 3, 4, 5, 6, 7] rfl) ((hD.sub [0, 1, 2, 3, 4, 5, 6, 7] (by decide) rfl).weaken (fun _ _ _ _ => trivial)) (q0 := 0) rfl rfl rfl rfl hl.1 rfl (lv_room (Nat.le_of_ble_eq_true rfl)) d_D_lay_26 ⟨Nat.zero_le _, Nat.zero_le _⟩ hS hP hD (fun u H locs hw_4 hP hS => ?_)
      obtain ⟨wo9_1, eo9_2⟩ := u
      have hP : va_P (dC, dI) classes [cg_D dm th np ne fi kp iA tA oA uA wA sA eA vA yA lA ll mn xA cA zA pA bA fA gA bw bs ps qA rA aA kA lt wt fx, cg_B iA cZ 20 ib, cg_N oA cI 60 oe, cg_N uA cI 60 ot, cg_N wA cI 60 wg, cg_B eA cZ 60 ie, cg_O vA cI 20 wo9_1, cg_O yA cI 20 eo9_2, cg_N lA cI 60 la] H := hP.sub [1, 2, 3, 4, 5, 6, 7, 8, 0] rfl
      have hD : va_D A [cg_D dm th np ne fi kp iA tA oA uA wA sA eA vA yA lA ll mn xA cA zA pA bA fA gA bw bs ps qA rA aA kA lt wt fx, cg_B iA cZ 20 ib, cg_N oA cI 60 oe, cg_N uA cI 60 ot, cg_N wA cI 60 wg, cg_B eA cZ 60 ie, cg_O vA cI 20 wo9_1, cg_O yA cI 20 eo9_2, cg_N lA cI 60 la] := rw_re hD rfl
      try dsimp only at hw_4
      have hT := hw_4
      have hV : ∀ p w, p < 20 → wo9_1 p = some w → ∃ n, eo9_2 p = some n ∧ n ≤ 19 ∧ w ≤ 19000000 := fun p w hp hw => by obtain ⟨n, h1, h2, h3, -⟩ := ng_V_get hT.1 hp hw; exact ⟨n, h1, h2, by omega⟩
      refine lv_aload_n hx hb d_D_lay_29 rfl (lv_at hl 2 rfl) ?_
      refine lv_iconst (v := nI 0) hx hb d_D_lay_30 (by decide) ?_
      refine va_put (D := (dC, dI)) (ci := 5) (v := .int (nI 0)) (ty := .int) (C := R_D) (T := F_D) (N := 34) hx hb hts iD t_D t_D_ok n_D hown hK hP hD hS 0 rfl rfl 15 (by decide) (hts _ (List.mem_cons_of_mem _ wk_D_127)) (fun _ h9 => h9) rfl (by decide +kernel) rfl rfl (Nat.le_of_ble_eq_true rfl) d_D_lay_31 (fun H locs hP hD hS => ?_)
      have hP : va_P (dC, dI) classes [cg_D dm th np ne fi kp iA tA oA uA wA sA eA vA yA lA 0 mn xA cA zA pA bA fA gA bw bs ps qA rA aA kA lt wt fx, cg_B iA cZ 20 ib, cg_N oA cI 60 oe, cg_N uA cI 60 ot, cg_N wA cI 60 wg, cg_B eA cZ 60 ie, cg_O vA cI 20 wo9_1, cg_O yA cI 20 eo9_2, cg_N lA cI 60 la] H := hP
      have hD : va_D A [cg_D dm th np ne fi kp iA tA oA uA wA sA eA vA yA lA 0 mn xA cA zA pA bA fA gA bw bs ps qA rA aA kA lt wt fx, cg_B iA cZ 20 ib, cg_N oA cI 60 oe, cg_N uA cI 60 ot, cg_N wA cI 60 wg, cg_B eA cZ 60 ie, cg_O vA cI 20 wo9_1, cg_O yA cI 20 eo9_2, cg_N lA cI 60 la] := hD
      refine lv_aload_n hx hb d_D_lay_34 rfl (lv_at hl 2 rfl) ?_
      refine va_get (D := (dC, dI)) (ci := 5) (v := .ref vA) (C := R_D) (T := F_D) (N := 34) hx hb hts iD hown hK hP 0 rfl rfl 12 (by decide) (hts _ (List.mem_cons_of_mem _ wk_D_32)) (fun _ h9 => h9) rfl d_D_lay_35 ?_
      refine lv_iload_n hx hb d_D_lay_38 rfl (lv_at hl 1 rfl) ?_
      refine nr_oald hx hb hK hP 6 0 rfl rfl (by omega) (by decide) d_D_lay_39 ?_
      rcases hw0 : wo9_1 p0 with _ | w0
      · refine nr_as (v := -1) rfl ?_
        refine lv_if_ge (tgt := 45) hx hb d_D_lay_40 (by decide) (fun c => absurd c (by decide)) (fun c_40 => ?_)
        refine lv_iconst (v := nI 0) hx hb d_D_lay_43 (by decide) ?_
        exact rw_zret (wo9_1, eo9_2, 0, la) (b := false) hx hb hr hlocks hS hP rfl (⟨hT, Or.inl ⟨hw0, rfl, rfl, rfl⟩⟩) d_D_lay_44
      · refine nr_as (v := nI w0) rfl ?_
        obtain ⟨nh0, hnh0, hnh1, hnh2⟩ := hV p0 w0 hp0 hw0
        refine nr_if_ge (by omega) (tgt := 45) hx hb d_D_lay_40 (by decide) (fun c_40 => ?_) (fun c => False.elim c)
        have lp_45 : ∀ (n : Nat) (h n0 nh wh : Nat) (la1 : Nat → Nat), (n0 + nh ≤ 19) → (h < 20) → (wo9_1 h = some wh) → (eo9_2 h = some nh) → ((ng_path (ng_nxD wo9_1 eo9_2 ib oe ot (ng_hv ie wg) ne z) z 20 p0).drop n0 = ng_path (ng_nxD wo9_1 eo9_2 ib oe ot (ng_hv ie wg) ne z) z (20 - n0) h) → (n0 ≤ (ng_path (ng_nxD wo9_1 eo9_2 ib oe ot (ng_hv ie wg) ne z) z 20 p0).length) → (∀ i, i < n0 → (ng_path (ng_nxD wo9_1 eo9_2 ib oe ot (ng_hv ie wg) ne z) z 20 p0)[i]? = some (la1 i)) → nh < n → ∀ (H : Heap) (locs : List Loc), va_P (dC, dI) classes [cg_D dm th np ne fi kp iA tA oA uA wA sA eA vA yA lA n0 mn xA cA zA pA bA fA gA bw bs ps qA rA aA kA lt wt fx, cg_B iA cZ 20 ib, cg_N oA cI 60 oe, cg_N uA cI 60 ot, cg_N wA cI 60 wg, cg_B eA cZ 60 ie, cg_O vA cI 20 wo9_1, cg_O yA cI 20 eo9_2, cg_N lA cI 60 la1] H → va_D A [cg_D dm th np ne fi kp iA tA oA uA wA sA eA vA yA lA n0 mn xA cA zA pA bA fA gA bw bs ps qA rA aA kA lt wt fx, cg_B iA cZ 20 ib, cg_N oA cI 60 oe, cg_N uA cI 60 ot, cg_N wA cI 60 wg, cg_B eA cZ 60 ie, cg_O vA cI 20 wo9_1, cg_O yA cI 20 eo9_2, cg_N lA cI 60 la1] → va_S A s.heap H locs → ∀ (ls : Array Slot), lv_has ls 6 [(0, .ref dm), (1, .int (nI p0)), (2, .int (nI z)), (3, .int (nI h)), (4, .int (nI z))] → W p l e (headSpec w_D_lay ({ frames := 3, cells := 0, slots := 0, locals := 73 } : Room)).room s m ([.ref dm, .int (nI p0), .int (nI z)] : List Value).toArray below meth c H locs 0 0 (MQ below (rw_Qi (dC, dI) classes A (fun r (u : (Nat → Option Nat) × (Nat → Option Nat) × (Nat) × (Nat → Nat)) => ng_T ne z ib oe ot (ng_hv ie wg) u.1 u.2.1 ∧ ((u.1 p0 = none ∧ r = nb_i false ∧ u.2.2.1 = 0 ∧ u.2.2.2 = la) ∨ (∃ w0, u.1 p0 = some w0 ∧ r = nb_i true ∧ u.2.2.1 = (ng_path (ng_nxD u.1 u.2.1 ib oe ot (ng_hv ie wg) ne z) z 20 p0).length ∧ (∀ i, i < (ng_path (ng_nxD u.1 u.2.1 ib oe ot (ng_hv ie wg) ne z) z 20 p0).length → (ng_path (ng_nxD u.1 u.2.1 ib oe ot (ng_hv ie wg) ne z) z 20 p0)[i]? = some (u.2.2.2 i)) ∧ (ng_path (ng_nxD u.1 u.2.1 ib oe ot (ng_hv ie wg) ne z) z 20 p0).length ≤ 20))) (fun u => [cg_D dm th np ne fi kp iA tA oA uA wA sA eA vA yA lA u.2.2.1 mn xA cA zA pA bA fA gA bw bs ps qA rA aA kA lt wt fx, cg_B iA cZ 20 ib, cg_N oA cI 60 oe, cg_N uA cI 60 ot, cg_N wA cI 60 wg, cg_B eA cZ 60 ie, cg_O vA cI 20 u.1, cg_O yA cI 20 u.2.1, cg_N lA cI 60 u.2.2.2])) ([.ref dm, .int (nI p0), .int (nI z)] : List Value).toArray s 0 0 A) (F0 m 45 ls []) := by
          intro n
          induction n with
          | zero => intro h n0 nh wh la1 hn0 hh hwh hnh hd hln ht hme; exact absurd hme (Nat.not_lt_zero _)
          | succ n ih =>
            intro h n0 nh wh la1 hn0 hh hwh hnh hd hln ht hme H locs hP hD hS ls hl
            have ih_45 := ih
            refine lv_iload_n hx hb d_D_lay_45 rfl (lv_at hl 3 rfl) ?_
            refine lv_iload hx hb d_D_lay_46 (lv_at hl 4 rfl) ?_
            refine nr_icmp_eq (by omega) (by omega) (tgt := 102) hx hb d_D_lay_48 (by decide) (fun c_48 => ?_) (fun c_48 => ?_)
            · have e9 := ng_dropl (hd.trans (by rw [c_48]; exact ng_path_z)) hln
              refine lv_iconst (v := nI 1) hx hb d_D_lay_102 (by decide) ?_
              exact rw_zret (wo9_1, eo9_2, n0, la1) (b := true) hx hb hr hlocks hS hP rfl (⟨hT, Or.inr ⟨w0, hw0, rfl, e9.symm, fun i hi => ht i (by rw [← e9]; exact hi), Nat.le_trans (Nat.le_of_eq e9) (by omega)⟩⟩) d_D_lay_103
            · obtain ⟨k, y, wy, ny, hf, hk, hnx, hyl, hwy, hny, hn1⟩ := ng_T_nx hnp hE hdf hhv hT hh c_48 hwh hnh
              have hnn : (ng_nxD wo9_1 eo9_2 ib oe ot (ng_hv ie wg) ne z) h = some (k, y) := by simp [ng_nxD, hf, hnx]
              obtain ⟨hd1, hd2, hln2⟩ := ng_dropc (hd.trans (ng_path_s c_48 (by omega) hnn))
              have ht2 := ng_trs hd1 ht
              have hEk := hE k hk
              have hyk : oe k + ot k - h = y ∧ h ≤ oe k + ot k := ng_nx_sum hnx
              refine lv_aload_n hx hb d_D_lay_51 rfl (lv_at hl 0 rfl) ?_
              refine lv_iload_n hx hb d_D_lay_52 rfl (lv_at hl 3 rfl) ?_
              refine lv_iload hx hb d_D_lay_53 (lv_at hl 4 rfl) ?_
              refine ro_Vi (As := [.int (nI h), .int (nI z)]) (rest := []) ⟨hx, hb, hml, hown, hts⟩ (c_D_nextEdge l dC dI cI cL cZ dm th np ne fi kp iA tA oA uA wA sA eA vA yA lA n0 mn xA cA zA pA bA fA gA bw bs ps qA rA aA kA lt wt fx ib oe ot wg ie wo9_1 eo9_2 h z wh nh (by omega) (by omega) hE hdf hhv (by omega) (by omega) hV hwh hnh) (cwV 2 hts (wg_V wk_D_130 wm_D_nextEdge we_D_nextEdge wi_D wc_D_nextEdge) rfl rfl rfl (by decide +kernel) ⟨Nat.le_of_ble_eq_true rfl, Nat.le_of_ble_eq_true rfl⟩) hK (hP.sub [0, 1, 2, 3, 4, 5, 6, 7] rfl) (q0 := 0) rfl rfl rfl rfl hl.1 rfl (lv_room (Nat.le_of_ble_eq_true rfl)) d_D_lay_55 ⟨Nat.zero_le _, Nat.zero_le _⟩ hS hP (fun H locs hP hS => ?_)
              rw [hf]
              refine nr_as (v := nI k) rfl ?_
              refine lv_istore (lv' := [(5, .int (nI k)), (0, .ref dm), (1, .int (nI p0)), (2, .int (nI z)), (3, .int (nI h)), (4, .int (nI z))]) hx hb d_D_lay_58 hl (by decide) rfl (fun ls hl => ?_)
              refine lv_aload_n hx hb d_D_lay_60 rfl (lv_at hl 1 rfl) ?_
              refine va_get (D := (dC, dI)) (ci := 5) (v := .ref lA) (C := R_D) (T := F_D) (N := 34) hx hb hts iD hown hK hP 0 rfl rfl 14 (by decide) (hts _ (List.mem_cons_of_mem _ wk_D_38)) (fun _ h9 => h9) rfl d_D_lay_61 ?_
              refine lv_aload_n hx hb d_D_lay_64 rfl (lv_at hl 1 rfl) ?_
              refine va_get (D := (dC, dI)) (ci := 5) (v := .int (nI n0)) (C := R_D) (T := F_D) (N := 34) hx hb hts iD hown hK hP 0 rfl rfl 15 (by decide) (hts _ (List.mem_cons_of_mem _ wk_D_127)) (fun _ h9 => h9) rfl d_D_lay_65 ?_
              refine lv_iload hx hb d_D_lay_68 (lv_at hl 0 rfl) ?_
              refine nr_iast hx hb hK hP hD hS 8 0 rfl rfl (by omega) (by decide) d_D_lay_70 (fun H locs hP hD hS => ?_)
              have hP : va_P (dC, dI) classes [cg_D dm th np ne fi kp iA tA oA uA wA sA eA vA yA lA n0 mn xA cA zA pA bA fA gA bw bs ps qA rA aA kA lt wt fx, cg_B iA cZ 20 ib, cg_N oA cI 60 oe, cg_N uA cI 60 ot, cg_N wA cI 60 wg, cg_B eA cZ 60 ie, cg_O vA cI 20 wo9_1, cg_O yA cI 20 eo9_2, cg_N lA cI 60 (va_up la1 n0 k)] H := hP
              have hD : va_D A [cg_D dm th np ne fi kp iA tA oA uA wA sA eA vA yA lA n0 mn xA cA zA pA bA fA gA bw bs ps qA rA aA kA lt wt fx, cg_B iA cZ 20 ib, cg_N oA cI 60 oe, cg_N uA cI 60 ot, cg_N wA cI 60 wg, cg_B eA cZ 60 ie, cg_O vA cI 20 wo9_1, cg_O yA cI 20 eo9_2, cg_N lA cI 60 (va_up la1 n0 k)] := hD
              refine lv_aload_n hx hb d_D_lay_71 rfl (lv_at hl 1 rfl) ?_
              refine lv_dup hx hb d_D_lay_72 rfl ?_
              refine va_get (D := (dC, dI)) (ci := 5) (v := .int (nI n0)) (C := R_D) (T := F_D) (N := 34) hx hb hts iD hown hK hP 0 rfl rfl 15 (by decide) (hts _ (List.mem_cons_of_mem _ wk_D_127)) (fun _ h9 => h9) rfl d_D_lay_73 ?_
              refine lv_iconst (v := nI 1) hx hb d_D_lay_76 (by decide) ?_
              refine nr_iadd hx hb d_D_lay_77 ?_
              refine va_put (D := (dC, dI)) (ci := 5) (v := .int (nI (n0 + 1))) (ty := .int) (C := R_D) (T := F_D) (N := 34) hx hb hts iD t_D t_D_ok n_D hown hK hP hD hS 0 rfl rfl 15 (by decide) (hts _ (List.mem_cons_of_mem _ wk_D_127)) (fun _ h9 => h9) rfl (by decide +kernel) rfl rfl (Nat.le_of_ble_eq_true rfl) d_D_lay_78 (fun H locs hP hD hS => ?_)
              have hP : va_P (dC, dI) classes [cg_D dm th np ne fi kp iA tA oA uA wA sA eA vA yA lA (n0 + 1) mn xA cA zA pA bA fA gA bw bs ps qA rA aA kA lt wt fx, cg_B iA cZ 20 ib, cg_N oA cI 60 oe, cg_N uA cI 60 ot, cg_N wA cI 60 wg, cg_B eA cZ 60 ie, cg_O vA cI 20 wo9_1, cg_O yA cI 20 eo9_2, cg_N lA cI 60 (va_up la1 n0 k)] H := hP
              have hD : va_D A [cg_D dm th np ne fi kp iA tA oA uA wA sA eA vA yA lA (n0 + 1) mn xA cA zA pA bA fA gA bw bs ps qA rA aA kA lt wt fx, cg_B iA cZ 20 ib, cg_N oA cI 60 oe, cg_N uA cI 60 ot, cg_N wA cI 60 wg, cg_B eA cZ 60 ie, cg_O vA cI 20 wo9_1, cg_O yA cI 20 eo9_2, cg_N lA cI 60 (va_up la1 n0 k)] := hD
              refine lv_aload_n hx hb d_D_lay_81 rfl (lv_at hl 1 rfl) ?_
              refine va_get (D := (dC, dI)) (ci := 5) (v := .ref oA) (C := R_D) (T := F_D) (N := 34) hx hb hts iD hown hK hP 0 rfl rfl 7 (by decide) (hts _ (List.mem_cons_of_mem _ wk_D_17)) (fun _ h9 => h9) rfl d_D_lay_82 ?_
              refine lv_iload hx hb d_D_lay_85 (lv_at hl 0 rfl) ?_
              refine nr_iald hx hb hK hP 2 0 rfl rfl (by omega) (by decide) d_D_lay_87 ?_
              refine lv_aload_n hx hb d_D_lay_88 rfl (lv_at hl 1 rfl) ?_
              refine va_get (D := (dC, dI)) (ci := 5) (v := .ref uA) (C := R_D) (T := F_D) (N := 34) hx hb hts iD hown hK hP 0 rfl rfl 8 (by decide) (hts _ (List.mem_cons_of_mem _ wk_D_20)) (fun _ h9 => h9) rfl d_D_lay_89 ?_
              refine lv_iload hx hb d_D_lay_92 (lv_at hl 0 rfl) ?_
              refine nr_iald hx hb hK hP 3 0 rfl rfl (by omega) (by decide) d_D_lay_94 ?_
              refine nr_iadd hx hb d_D_lay_95 ?_
              refine lv_iload_n hx hb d_D_lay_96 rfl (lv_at hl 4 rfl) ?_
              refine nr_isub hyk.2 hx hb d_D_lay_97 ?_
              refine nr_as (v := nI y) (by rw [hyk.1]) ?_
              refine lv_istore_n (lv' := [(3, .int (nI y)), (5, .int (nI k)), (0, .ref dm), (1, .int (nI p0)), (2, .int (nI z)), (4, .int (nI z))]) hx hb d_D_lay_98 rfl hl (by decide) rfl (fun ls hl => ?_)
              refine lv_goto (tgt := 45) hx hb d_D_lay_99 (by decide) ?_
              exact ih_45 y (n0 + 1) ny wy (va_up la1 n0 k) (by omega) (by omega) hwy hny hd2 hln2 ht2 (by omega) _ _ hP hD hS ls (lv_sub hl [2, 3, 4, 0, 5] rfl)
        exact lp_45 (nh0 + 1) p0 0 nh0 w0 la (by omega) hp0 hw0 hnh0 rfl (Nat.zero_le _) (fun i h => absurd h (Nat.not_lt_zero _)) (Nat.lt_succ_self _) _ _ hP hD hS ls (lv_sub hl [2, 3, 4, 1, 0] rfl)
set_option maxHeartbeats 4000000 in
set_option maxRecDepth 100000 in
theorem c_D_lay_ge (l : Launch) (dC : Nat → ClassId) (dI : Nat → Nat → Nat) (cI cL cZ : ClassId) (dm : Nat) (th : Nat) (np : Nat) (ne : Nat) (fi : Int32) (kp : Int64) (iA : Nat) (tA : Nat) (oA : Nat) (uA : Nat) (wA : Nat) (sA : Nat) (eA : Nat) (vA : Nat) (yA : Nat) (lA : Nat) (ll : Nat) (mn : Nat) (xA : Nat) (cA : Nat) (zA : Nat) (pA : Nat) (bA : Nat) (fA : Nat) (gA : Nat) (bw : Nat) (bs : Nat) (ps : Nat) (qA : Nat) (rA : Nat) (aA : Nat) (kA : Nat) (lt : Nat) (wt : Nat) (fx : Int64) (ib : Nat → Bool) (oe ot wg : Nat → Nat) (ie : Nat → Bool) (wo eo : Nat → Option Nat) (la : Nat → Nat) (p0 z : Nat) (hnp : np ≤ 20) (hne : ne ≤ 60) (hE : ∀ i, i < ne → oe i < np ∧ ot i < np) (hdf : ∀ i, i < ne → oe i ≠ ot i) (hhv : ∀ i, i < ne → ng_hv ie wg i ≤ 1000000) (hp0 : p0 < 20) (hz : z < 20) (hpz : p0 ≤ z) : Met l y_D_lay w_D_lay ({ frames := 3, cells := 0, slots := 0, locals := 73 } : Room) (va_Pc [.ref dm, .int (nI z), .int (nI p0)] (rw_B (dC, dI) classes [(cI, .int), (cL, .long), (cZ, .boolean)] [cg_D dm th np ne fi kp iA tA oA uA wA sA eA vA yA lA ll mn xA cA zA pA bA fA gA bw bs ps qA rA aA kA lt wt fx, cg_B iA cZ 20 ib, cg_N oA cI 60 oe, cg_N uA cI 60 ot, cg_N wA cI 60 wg, cg_B eA cZ 60 ie, cg_O vA cI 20 wo, cg_O yA cI 20 eo, cg_N lA cI 60 la])) (rw_Qi (dC, dI) classes (rw_A [cg_D dm th np ne fi kp iA tA oA uA wA sA eA vA yA lA ll mn xA cA zA pA bA fA gA bw bs ps qA rA aA kA lt wt fx, cg_B iA cZ 20 ib, cg_N oA cI 60 oe, cg_N uA cI 60 ot, cg_N wA cI 60 wg, cg_B eA cZ 60 ie, cg_O vA cI 20 wo, cg_O yA cI 20 eo, cg_N lA cI 60 la]) (fun r (u : (Nat → Option Nat) × (Nat → Option Nat) × (Nat) × (Nat → Nat)) => ng_T ne z ib oe ot (ng_hv ie wg) u.1 u.2.1 ∧ ((u.1 p0 = none ∧ r = nb_i false ∧ u.2.2.1 = 0 ∧ u.2.2.2 = la) ∨ (∃ w0, u.1 p0 = some w0 ∧ r = nb_i true ∧ u.2.2.1 = (ng_path (ng_nxD u.1 u.2.1 ib oe ot (ng_hv ie wg) ne z) z 20 p0).length ∧ (∀ i, i < (ng_path (ng_nxD u.1 u.2.1 ib oe ot (ng_hv ie wg) ne z) z 20 p0).length → (ng_path (ng_nxD u.1 u.2.1 ib oe ot (ng_hv ie wg) ne z) z 20 p0)[i]? = some (u.2.2.2 i)) ∧ (ng_path (ng_nxD u.1 u.2.1 ib oe ot (ng_hv ie wg) ne z) z 20 p0).length ≤ 20))) (fun u => [cg_D dm th np ne fi kp iA tA oA uA wA sA eA vA yA lA u.2.2.1 mn xA cA zA pA bA fA gA bw bs ps qA rA aA kA lt wt fx, cg_B iA cZ 20 ib, cg_N oA cI 60 oe, cg_N uA cI 60 ot, cg_N wA cI 60 wg, cg_B eA cZ 60 ie, cg_O vA cI 20 u.1, cg_O yA cI 20 u.2.1, cg_N lA cI 60 u.2.2.2])) 0 0 (rw_A [cg_D dm th np ne fi kp iA tA oA uA wA sA eA vA yA lA ll mn xA cA zA pA bA fA gA bw bs ps qA rA aA kA lt wt fx, cg_B iA cZ 20 ib, cg_N oA cI 60 oe, cg_N uA cI 60 ot, cg_N wA cI 60 wg, cg_B eA cZ 60 ie, cg_O vA cI 20 wo, cg_O yA cI 20 eo, cg_N lA cI 60 la]) := by
  refine Met.ofW (cc := b_D_lay) (maxL := 6) (ret := (some .boolean)) (by decide) rfl ?_
  intro p e s m args below meth c s₁ B hml hv
  obtain ⟨rfl, hP, hK, hD0⟩ := hv
  have hx := B.exec
  have hb := B.bytes
  have hr := B.returns
  have hts := atoms_spec (ws := w_D_lay) B.pre
  have hown : s.vm.findClass R_D = some m.cls := findClass_of_methodNamed B.named
  have hlocks := B.notSynchronized
  have iD : ∀ w ∈ w_D, w ∈ w_D_lay := fun w h => List.mem_cons_of_mem _ (i_D w h)
  have hD := rw_own hD0
  generalize hAe : rw_A [cg_D dm th np ne fi kp iA tA oA uA wA sA eA vA yA lA ll mn xA cA zA pA bA fA gA bw bs ps qA rA aA kA lt wt fx, cg_B iA cZ 20 ib, cg_N oA cI 60 oe, cg_N uA cI 60 ot, cg_N wA cI 60 wg, cg_B eA cZ 60 ie, cg_O vA cI 20 wo, cg_O yA cI 20 eo, cg_N lA cI 60 la] = A at hD ⊢
  have hS : va_S A s.heap s.heap [] := va_S.rf
  have hP : va_P (dC, dI) classes [cg_D dm th np ne fi kp iA tA oA uA wA sA eA vA yA lA ll mn xA cA zA pA bA fA gA bw bs ps qA rA aA kA lt wt fx, cg_B iA cZ 20 ib, cg_N oA cI 60 oe, cg_N uA cI 60 ot, cg_N wA cI 60 wg, cg_B eA cZ 60 ie, cg_O vA cI 20 wo, cg_O yA cI 20 eo, cg_N lA cI 60 la] s.heap := hP
  have hl := lv_entry ([.ref dm, .int (nI z), .int (nI p0)]) (n := 6) (Nat.le_of_ble_eq_true rfl)
  rw [lg_entry_eq]
  generalize (lg_sl ([.ref dm, .int (nI z), .int (nI p0)]) ++ List.replicate (6 - (lg_sl ([.ref dm, .int (nI z), .int (nI p0)])).length) Slot.unset).toArray = ls at hl ⊢
  have hl : lv_has ls 6 [(0, .ref dm), (1, .int (nI z)), (2, .int (nI p0))] := hl
  refine lv_iload_n hx hb d_D_lay_0 rfl (lv_at hl 1 rfl) ?_
  refine lv_iload_n hx hb d_D_lay_1 rfl (lv_at hl 2 rfl) ?_
  refine nr_icmp_ge (by omega) (by omega) (tgt := 9) hx hb d_D_lay_2 (by decide) (fun c_2 => ?_) (fun c_2 => ?_)
  · refine lv_iload_n hx hb d_D_lay_9 rfl (lv_at hl 2 rfl) ?_
    refine lv_istore_n (lv' := [(3, .int (nI p0)), (0, .ref dm), (1, .int (nI z)), (2, .int (nI p0))]) hx hb d_D_lay_10 rfl hl (by decide) rfl (fun ls hl => ?_)
    refine lv_iload_n hx hb d_D_lay_11 rfl (lv_at hl 2 rfl) ?_
    refine lv_iload_n hx hb d_D_lay_12 rfl (lv_at hl 3 rfl) ?_
    refine nr_icmp_ge (by omega) (by omega) (tgt := 20) hx hb d_D_lay_13 (by decide) (fun c_13 => ?_) (fun c_13 => ?_)
    · refine lv_iload_n hx hb d_D_lay_20 rfl (lv_at hl 2 rfl) ?_
      refine lv_istore (lv' := [(4, .int (nI z)), (3, .int (nI p0)), (0, .ref dm), (1, .int (nI z)), (2, .int (nI p0))]) hx hb d_D_lay_21 hl (by decide) rfl (fun ls hl => ?_)
      refine lv_aload_n hx hb d_D_lay_23 rfl (lv_at hl 2 rfl) ?_
      refine lv_iload hx hb d_D_lay_24 (lv_at hl 0 rfl) ?_
      refine rw_Vv (wr := [cg_N lA cI 60 la]) [0, 1, 2, 3, 4, 5, 6, 7] [8] rfl rfl (by decide) (As := [.int (nI z)]) (rest := []) ⟨hx, hb, hml, hown, hts⟩ (c_D_findTo l dC dI cI cL cZ dm th np ne fi kp iA tA oA uA wA sA eA vA yA lA ll mn xA cA zA pA bA fA gA bw bs ps qA rA aA kA lt wt fx ib oe ot wg ie wo eo z (by omega) (by omega) (by omega) (fun i h => ⟨Nat.lt_of_lt_of_le (hE i h).1 hnp, Nat.lt_of_lt_of_le (hE i h).2 hnp⟩) hdf hhv) (cwV 1 hts (wg_V wk_D_123 wm_D_findTo we_D_findTo wi_D wc_D_findTo) rfl rfl rfl (by decide +kernel) ⟨Nat.le_of_ble_eq_true rfl, Nat.le_of_ble_eq_true rfl⟩) hK (hP.sub [0, 1, 2, 3, 4, 5, 6, 7] rfl) ((hD.sub [0, 1, 2, 3, 4, 5, 6, 7] (by decide) rfl).weaken (fun _ _ _ _ => trivial)) (q0 := 0) rfl rfl rfl rfl hl.1 rfl (lv_room (Nat.le_of_ble_eq_true rfl)) d_D_lay_26 ⟨Nat.zero_le _, Nat.zero_le _⟩ hS hP hD (fun u H locs hw_4 hP hS => ?_)
      obtain ⟨wo9_1, eo9_2⟩ := u
      have hP : va_P (dC, dI) classes [cg_D dm th np ne fi kp iA tA oA uA wA sA eA vA yA lA ll mn xA cA zA pA bA fA gA bw bs ps qA rA aA kA lt wt fx, cg_B iA cZ 20 ib, cg_N oA cI 60 oe, cg_N uA cI 60 ot, cg_N wA cI 60 wg, cg_B eA cZ 60 ie, cg_O vA cI 20 wo9_1, cg_O yA cI 20 eo9_2, cg_N lA cI 60 la] H := hP.sub [1, 2, 3, 4, 5, 6, 7, 8, 0] rfl
      have hD : va_D A [cg_D dm th np ne fi kp iA tA oA uA wA sA eA vA yA lA ll mn xA cA zA pA bA fA gA bw bs ps qA rA aA kA lt wt fx, cg_B iA cZ 20 ib, cg_N oA cI 60 oe, cg_N uA cI 60 ot, cg_N wA cI 60 wg, cg_B eA cZ 60 ie, cg_O vA cI 20 wo9_1, cg_O yA cI 20 eo9_2, cg_N lA cI 60 la] := rw_re hD rfl
      try dsimp only at hw_4
      have hT := hw_4
      have hV : ∀ p w, p < 20 → wo9_1 p = some w → ∃ n, eo9_2 p = some n ∧ n ≤ 19 ∧ w ≤ 19000000 := fun p w hp hw => by obtain ⟨n, h1, h2, h3, -⟩ := ng_V_get hT.1 hp hw; exact ⟨n, h1, h2, by omega⟩
      refine lv_aload_n hx hb d_D_lay_29 rfl (lv_at hl 2 rfl) ?_
      refine lv_iconst (v := nI 0) hx hb d_D_lay_30 (by decide) ?_
      refine va_put (D := (dC, dI)) (ci := 5) (v := .int (nI 0)) (ty := .int) (C := R_D) (T := F_D) (N := 34) hx hb hts iD t_D t_D_ok n_D hown hK hP hD hS 0 rfl rfl 15 (by decide) (hts _ (List.mem_cons_of_mem _ wk_D_127)) (fun _ h9 => h9) rfl (by decide +kernel) rfl rfl (Nat.le_of_ble_eq_true rfl) d_D_lay_31 (fun H locs hP hD hS => ?_)
      have hP : va_P (dC, dI) classes [cg_D dm th np ne fi kp iA tA oA uA wA sA eA vA yA lA 0 mn xA cA zA pA bA fA gA bw bs ps qA rA aA kA lt wt fx, cg_B iA cZ 20 ib, cg_N oA cI 60 oe, cg_N uA cI 60 ot, cg_N wA cI 60 wg, cg_B eA cZ 60 ie, cg_O vA cI 20 wo9_1, cg_O yA cI 20 eo9_2, cg_N lA cI 60 la] H := hP
      have hD : va_D A [cg_D dm th np ne fi kp iA tA oA uA wA sA eA vA yA lA 0 mn xA cA zA pA bA fA gA bw bs ps qA rA aA kA lt wt fx, cg_B iA cZ 20 ib, cg_N oA cI 60 oe, cg_N uA cI 60 ot, cg_N wA cI 60 wg, cg_B eA cZ 60 ie, cg_O vA cI 20 wo9_1, cg_O yA cI 20 eo9_2, cg_N lA cI 60 la] := hD
      refine lv_aload_n hx hb d_D_lay_34 rfl (lv_at hl 2 rfl) ?_
      refine va_get (D := (dC, dI)) (ci := 5) (v := .ref vA) (C := R_D) (T := F_D) (N := 34) hx hb hts iD hown hK hP 0 rfl rfl 12 (by decide) (hts _ (List.mem_cons_of_mem _ wk_D_32)) (fun _ h9 => h9) rfl d_D_lay_35 ?_
      refine lv_iload_n hx hb d_D_lay_38 rfl (lv_at hl 1 rfl) ?_
      refine nr_oald hx hb hK hP 6 0 rfl rfl (by omega) (by decide) d_D_lay_39 ?_
      rcases hw0 : wo9_1 p0 with _ | w0
      · refine nr_as (v := -1) rfl ?_
        refine lv_if_ge (tgt := 45) hx hb d_D_lay_40 (by decide) (fun c => absurd c (by decide)) (fun c_40 => ?_)
        refine lv_iconst (v := nI 0) hx hb d_D_lay_43 (by decide) ?_
        exact rw_zret (wo9_1, eo9_2, 0, la) (b := false) hx hb hr hlocks hS hP rfl (⟨hT, Or.inl ⟨hw0, rfl, rfl, rfl⟩⟩) d_D_lay_44
      · refine nr_as (v := nI w0) rfl ?_
        obtain ⟨nh0, hnh0, hnh1, hnh2⟩ := hV p0 w0 hp0 hw0
        refine nr_if_ge (by omega) (tgt := 45) hx hb d_D_lay_40 (by decide) (fun c_40 => ?_) (fun c => False.elim c)
        have lp_45 : ∀ (n : Nat) (h n0 nh wh : Nat) (la1 : Nat → Nat), (n0 + nh ≤ 19) → (h < 20) → (wo9_1 h = some wh) → (eo9_2 h = some nh) → ((ng_path (ng_nxD wo9_1 eo9_2 ib oe ot (ng_hv ie wg) ne z) z 20 p0).drop n0 = ng_path (ng_nxD wo9_1 eo9_2 ib oe ot (ng_hv ie wg) ne z) z (20 - n0) h) → (n0 ≤ (ng_path (ng_nxD wo9_1 eo9_2 ib oe ot (ng_hv ie wg) ne z) z 20 p0).length) → (∀ i, i < n0 → (ng_path (ng_nxD wo9_1 eo9_2 ib oe ot (ng_hv ie wg) ne z) z 20 p0)[i]? = some (la1 i)) → nh < n → ∀ (H : Heap) (locs : List Loc), va_P (dC, dI) classes [cg_D dm th np ne fi kp iA tA oA uA wA sA eA vA yA lA n0 mn xA cA zA pA bA fA gA bw bs ps qA rA aA kA lt wt fx, cg_B iA cZ 20 ib, cg_N oA cI 60 oe, cg_N uA cI 60 ot, cg_N wA cI 60 wg, cg_B eA cZ 60 ie, cg_O vA cI 20 wo9_1, cg_O yA cI 20 eo9_2, cg_N lA cI 60 la1] H → va_D A [cg_D dm th np ne fi kp iA tA oA uA wA sA eA vA yA lA n0 mn xA cA zA pA bA fA gA bw bs ps qA rA aA kA lt wt fx, cg_B iA cZ 20 ib, cg_N oA cI 60 oe, cg_N uA cI 60 ot, cg_N wA cI 60 wg, cg_B eA cZ 60 ie, cg_O vA cI 20 wo9_1, cg_O yA cI 20 eo9_2, cg_N lA cI 60 la1] → va_S A s.heap H locs → ∀ (ls : Array Slot), lv_has ls 6 [(0, .ref dm), (1, .int (nI z)), (2, .int (nI p0)), (3, .int (nI h)), (4, .int (nI z))] → W p l e (headSpec w_D_lay ({ frames := 3, cells := 0, slots := 0, locals := 73 } : Room)).room s m ([.ref dm, .int (nI z), .int (nI p0)] : List Value).toArray below meth c H locs 0 0 (MQ below (rw_Qi (dC, dI) classes A (fun r (u : (Nat → Option Nat) × (Nat → Option Nat) × (Nat) × (Nat → Nat)) => ng_T ne z ib oe ot (ng_hv ie wg) u.1 u.2.1 ∧ ((u.1 p0 = none ∧ r = nb_i false ∧ u.2.2.1 = 0 ∧ u.2.2.2 = la) ∨ (∃ w0, u.1 p0 = some w0 ∧ r = nb_i true ∧ u.2.2.1 = (ng_path (ng_nxD u.1 u.2.1 ib oe ot (ng_hv ie wg) ne z) z 20 p0).length ∧ (∀ i, i < (ng_path (ng_nxD u.1 u.2.1 ib oe ot (ng_hv ie wg) ne z) z 20 p0).length → (ng_path (ng_nxD u.1 u.2.1 ib oe ot (ng_hv ie wg) ne z) z 20 p0)[i]? = some (u.2.2.2 i)) ∧ (ng_path (ng_nxD u.1 u.2.1 ib oe ot (ng_hv ie wg) ne z) z 20 p0).length ≤ 20))) (fun u => [cg_D dm th np ne fi kp iA tA oA uA wA sA eA vA yA lA u.2.2.1 mn xA cA zA pA bA fA gA bw bs ps qA rA aA kA lt wt fx, cg_B iA cZ 20 ib, cg_N oA cI 60 oe, cg_N uA cI 60 ot, cg_N wA cI 60 wg, cg_B eA cZ 60 ie, cg_O vA cI 20 u.1, cg_O yA cI 20 u.2.1, cg_N lA cI 60 u.2.2.2])) ([.ref dm, .int (nI z), .int (nI p0)] : List Value).toArray s 0 0 A) (F0 m 45 ls []) := by
          intro n
          induction n with
          | zero => intro h n0 nh wh la1 hn0 hh hwh hnh hd hln ht hme; exact absurd hme (Nat.not_lt_zero _)
          | succ n ih =>
            intro h n0 nh wh la1 hn0 hh hwh hnh hd hln ht hme H locs hP hD hS ls hl
            have ih_45 := ih
            refine lv_iload_n hx hb d_D_lay_45 rfl (lv_at hl 3 rfl) ?_
            refine lv_iload hx hb d_D_lay_46 (lv_at hl 4 rfl) ?_
            refine nr_icmp_eq (by omega) (by omega) (tgt := 102) hx hb d_D_lay_48 (by decide) (fun c_48 => ?_) (fun c_48 => ?_)
            · have e9 := ng_dropl (hd.trans (by rw [c_48]; exact ng_path_z)) hln
              refine lv_iconst (v := nI 1) hx hb d_D_lay_102 (by decide) ?_
              exact rw_zret (wo9_1, eo9_2, n0, la1) (b := true) hx hb hr hlocks hS hP rfl (⟨hT, Or.inr ⟨w0, hw0, rfl, e9.symm, fun i hi => ht i (by rw [← e9]; exact hi), Nat.le_trans (Nat.le_of_eq e9) (by omega)⟩⟩) d_D_lay_103
            · obtain ⟨k, y, wy, ny, hf, hk, hnx, hyl, hwy, hny, hn1⟩ := ng_T_nx hnp hE hdf hhv hT hh c_48 hwh hnh
              have hnn : (ng_nxD wo9_1 eo9_2 ib oe ot (ng_hv ie wg) ne z) h = some (k, y) := by simp [ng_nxD, hf, hnx]
              obtain ⟨hd1, hd2, hln2⟩ := ng_dropc (hd.trans (ng_path_s c_48 (by omega) hnn))
              have ht2 := ng_trs hd1 ht
              have hEk := hE k hk
              have hyk : oe k + ot k - h = y ∧ h ≤ oe k + ot k := ng_nx_sum hnx
              refine lv_aload_n hx hb d_D_lay_51 rfl (lv_at hl 0 rfl) ?_
              refine lv_iload_n hx hb d_D_lay_52 rfl (lv_at hl 3 rfl) ?_
              refine lv_iload hx hb d_D_lay_53 (lv_at hl 4 rfl) ?_
              refine ro_Vi (As := [.int (nI h), .int (nI z)]) (rest := []) ⟨hx, hb, hml, hown, hts⟩ (c_D_nextEdge l dC dI cI cL cZ dm th np ne fi kp iA tA oA uA wA sA eA vA yA lA n0 mn xA cA zA pA bA fA gA bw bs ps qA rA aA kA lt wt fx ib oe ot wg ie wo9_1 eo9_2 h z wh nh (by omega) (by omega) hE hdf hhv (by omega) (by omega) hV hwh hnh) (cwV 2 hts (wg_V wk_D_130 wm_D_nextEdge we_D_nextEdge wi_D wc_D_nextEdge) rfl rfl rfl (by decide +kernel) ⟨Nat.le_of_ble_eq_true rfl, Nat.le_of_ble_eq_true rfl⟩) hK (hP.sub [0, 1, 2, 3, 4, 5, 6, 7] rfl) (q0 := 0) rfl rfl rfl rfl hl.1 rfl (lv_room (Nat.le_of_ble_eq_true rfl)) d_D_lay_55 ⟨Nat.zero_le _, Nat.zero_le _⟩ hS hP (fun H locs hP hS => ?_)
              rw [hf]
              refine nr_as (v := nI k) rfl ?_
              refine lv_istore (lv' := [(5, .int (nI k)), (0, .ref dm), (1, .int (nI z)), (2, .int (nI p0)), (3, .int (nI h)), (4, .int (nI z))]) hx hb d_D_lay_58 hl (by decide) rfl (fun ls hl => ?_)
              refine lv_aload_n hx hb d_D_lay_60 rfl (lv_at hl 1 rfl) ?_
              refine va_get (D := (dC, dI)) (ci := 5) (v := .ref lA) (C := R_D) (T := F_D) (N := 34) hx hb hts iD hown hK hP 0 rfl rfl 14 (by decide) (hts _ (List.mem_cons_of_mem _ wk_D_38)) (fun _ h9 => h9) rfl d_D_lay_61 ?_
              refine lv_aload_n hx hb d_D_lay_64 rfl (lv_at hl 1 rfl) ?_
              refine va_get (D := (dC, dI)) (ci := 5) (v := .int (nI n0)) (C := R_D) (T := F_D) (N := 34) hx hb hts iD hown hK hP 0 rfl rfl 15 (by decide) (hts _ (List.mem_cons_of_mem _ wk_D_127)) (fun _ h9 => h9) rfl d_D_lay_65 ?_
              refine lv_iload hx hb d_D_lay_68 (lv_at hl 0 rfl) ?_
              refine nr_iast hx hb hK hP hD hS 8 0 rfl rfl (by omega) (by decide) d_D_lay_70 (fun H locs hP hD hS => ?_)
              have hP : va_P (dC, dI) classes [cg_D dm th np ne fi kp iA tA oA uA wA sA eA vA yA lA n0 mn xA cA zA pA bA fA gA bw bs ps qA rA aA kA lt wt fx, cg_B iA cZ 20 ib, cg_N oA cI 60 oe, cg_N uA cI 60 ot, cg_N wA cI 60 wg, cg_B eA cZ 60 ie, cg_O vA cI 20 wo9_1, cg_O yA cI 20 eo9_2, cg_N lA cI 60 (va_up la1 n0 k)] H := hP
              have hD : va_D A [cg_D dm th np ne fi kp iA tA oA uA wA sA eA vA yA lA n0 mn xA cA zA pA bA fA gA bw bs ps qA rA aA kA lt wt fx, cg_B iA cZ 20 ib, cg_N oA cI 60 oe, cg_N uA cI 60 ot, cg_N wA cI 60 wg, cg_B eA cZ 60 ie, cg_O vA cI 20 wo9_1, cg_O yA cI 20 eo9_2, cg_N lA cI 60 (va_up la1 n0 k)] := hD
              refine lv_aload_n hx hb d_D_lay_71 rfl (lv_at hl 1 rfl) ?_
              refine lv_dup hx hb d_D_lay_72 rfl ?_
              refine va_get (D := (dC, dI)) (ci := 5) (v := .int (nI n0)) (C := R_D) (T := F_D) (N := 34) hx hb hts iD hown hK hP 0 rfl rfl 15 (by decide) (hts _ (List.mem_cons_of_mem _ wk_D_127)) (fun _ h9 => h9) rfl d_D_lay_73 ?_
              refine lv_iconst (v := nI 1) hx hb d_D_lay_76 (by decide) ?_
              refine nr_iadd hx hb d_D_lay_77 ?_
              refine va_put (D := (dC, dI)) (ci := 5) (v := .int (nI (n0 + 1))) (ty := .int) (C := R_D) (T := F_D) (N := 34) hx hb hts iD t_D t_D_ok n_D hown hK hP hD hS 0 rfl rfl 15 (by decide) (hts _ (List.mem_cons_of_mem _ wk_D_127)) (fun _ h9 => h9) rfl (by decide +kernel) rfl rfl (Nat.le_of_ble_eq_true rfl) d_D_lay_78 (fun H locs hP hD hS => ?_)
              have hP : va_P (dC, dI) classes [cg_D dm th np ne fi kp iA tA oA uA wA sA eA vA yA lA (n0 + 1) mn xA cA zA pA bA fA gA bw bs ps qA rA aA kA lt wt fx, cg_B iA cZ 20 ib, cg_N oA cI 60 oe, cg_N uA cI 60 ot, cg_N wA cI 60 wg, cg_B eA cZ 60 ie, cg_O vA cI 20 wo9_1, cg_O yA cI 20 eo9_2, cg_N lA cI 60 (va_up la1 n0 k)] H := hP
              have hD : va_D A [cg_D dm th np ne fi kp iA tA oA uA wA sA eA vA yA lA (n0 + 1) mn xA cA zA pA bA fA gA bw bs ps qA rA aA kA lt wt fx, cg_B iA cZ 20 ib, cg_N oA cI 60 oe, cg_N uA cI 60 ot, cg_N wA cI 60 wg, cg_B eA cZ 60 ie, cg_O vA cI 20 wo9_1, cg_O yA cI 20 eo9_2, cg_N lA cI 60 (va_up la1 n0 k)] := hD
              refine lv_aload_n hx hb d_D_lay_81 rfl (lv_at hl 1 rfl) ?_
              refine va_get (D := (dC, dI)) (ci := 5) (v := .ref oA) (C := R_D) (T := F_D) (N := 34) hx hb hts iD hown hK hP 0 rfl rfl 7 (by decide) (hts _ (List.mem_cons_of_mem _ wk_D_17)) (fun _ h9 => h9) rfl d_D_lay_82 ?_
              refine lv_iload hx hb d_D_lay_85 (lv_at hl 0 rfl) ?_
              refine nr_iald hx hb hK hP 2 0 rfl rfl (by omega) (by decide) d_D_lay_87 ?_
              refine lv_aload_n hx hb d_D_lay_88 rfl (lv_at hl 1 rfl) ?_
              refine va_get (D := (dC, dI)) (ci := 5) (v := .ref uA) (C := R_D) (T := F_D) (N := 34) hx hb hts iD hown hK hP 0 rfl rfl 8 (by decide) (hts _ (List.mem_cons_of_mem _ wk_D_20)) (fun _ h9 => h9) rfl d_D_lay_89 ?_
              refine lv_iload hx hb d_D_lay_92 (lv_at hl 0 rfl) ?_
              refine nr_iald hx hb hK hP 3 0 rfl rfl (by omega) (by decide) d_D_lay_94 ?_
              refine nr_iadd hx hb d_D_lay_95 ?_
              refine lv_iload_n hx hb d_D_lay_96 rfl (lv_at hl 4 rfl) ?_
              refine nr_isub hyk.2 hx hb d_D_lay_97 ?_
              refine nr_as (v := nI y) (by rw [hyk.1]) ?_
              refine lv_istore_n (lv' := [(3, .int (nI y)), (5, .int (nI k)), (0, .ref dm), (1, .int (nI z)), (2, .int (nI p0)), (4, .int (nI z))]) hx hb d_D_lay_98 rfl hl (by decide) rfl (fun ls hl => ?_)
              refine lv_goto (tgt := 45) hx hb d_D_lay_99 (by decide) ?_
              exact ih_45 y (n0 + 1) ny wy (va_up la1 n0 k) (by omega) (by omega) hwy hny hd2 hln2 ht2 (by omega) _ _ hP hD hS ls (lv_sub hl [2, 3, 4, 0, 5] rfl)
        exact lp_45 (nh0 + 1) p0 0 nh0 w0 la (by omega) hp0 hw0 hnh0 rfl (Nat.zero_le _) (fun i h => absurd h (Nat.not_lt_zero _)) (Nat.lt_succ_self _) _ _ hP hD hS ls (lv_sub hl [2, 3, 4, 1, 0] rfl)
    · exact False.elim (by omega)
  · exact False.elim (by omega)
