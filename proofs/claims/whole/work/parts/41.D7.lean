set_option maxHeartbeats 4000000 in
set_option maxRecDepth 100000 in
theorem c_D_findCosts (l : Launch) (dC : Nat → ClassId) (dI : Nat → Nat → Nat) (cI cL cZ : ClassId) (dm : Nat) (th : Nat) (np : Nat) (ne : Nat) (fi : Int32) (kp : Int64) (iA : Nat) (tA : Nat) (oA : Nat) (uA : Nat) (wA : Nat) (sA : Nat) (eA : Nat) (vA : Nat) (yA : Nat) (lA : Nat) (ll : Nat) (mn : Nat) (xA : Nat) (cA : Nat) (zA : Nat) (pA : Nat) (bA : Nat) (fA : Nat) (gA : Nat) (bw : Nat) (bs : Nat) (ps : Nat) (qA : Nat) (rA : Nat) (aA : Nat) (kA : Nat) (lt : Nat) (wt : Nat) (fx : Int64) (ib : Nat → Bool) (oe ot wg : Nat → Nat) (ie : Nat → Bool) (wo eo : Nat → Option Nat) (li : Nat → Nat) (co bo : Nat → Option Nat) (D0 : Nat → Nat → Nat) (hnp : np ≤ 20) (hne : ne ≤ 60) (hE : ∀ i, i < ne → oe i < np ∧ ot i < np) (hdf : ∀ i, i < ne → oe i ≠ ot i) (hhv : ∀ i, i < ne → ng_hv ie wg i ≤ 1000000) (hfl : (ng_rw fi np).length ≤ 10) (hDD : dm_D np ne (fun k => !ib k) oe ot (fun e => ng_hv ie wg e * 64 + 1) D0) (hcb : ng_cob co) : Met l y_D_findCosts w_D_findCosts ({ frames := 3, cells := 0, slots := 0, locals := 73 } : Room) (va_Pc [.ref dm] (rw_B (dC, dI) classes [(cI, .int), (cL, .long), (cZ, .boolean)] [cg_D dm th np ne fi kp iA tA oA uA wA sA eA vA yA lA ll mn xA cA zA pA bA fA gA bw bs ps qA rA aA kA lt wt fx, cg_B iA cZ 20 ib, cg_N oA cI 60 oe, cg_N uA cI 60 ot, cg_N wA cI 60 wg, cg_B eA cZ 60 ie, cg_O vA cI 20 wo, cg_O yA cI 20 eo, cg_N xA cI 10 li, cg_O cA cI 110 co, cg_O zA cI 10 bo])) (rw_Qv (dC, dI) classes (rw_A [cg_D dm th np ne fi kp iA tA oA uA wA sA eA vA yA lA ll mn xA cA zA pA bA fA gA bw bs ps qA rA aA kA lt wt fx, cg_B iA cZ 20 ib, cg_N oA cI 60 oe, cg_N uA cI 60 ot, cg_N wA cI 60 wg, cg_B eA cZ 60 ie, cg_O vA cI 20 wo, cg_O yA cI 20 eo, cg_N xA cI 10 li, cg_O cA cI 110 co, cg_O zA cI 10 bo]) (fun (u : (Nat → Option Nat) × (Nat → Option Nat) × (Nat → Nat) × (Nat → Option Nat) × (Nat → Option Nat)) => (∀ i, i < (ng_rw fi np).length → (ng_rw fi np)[i]? = some (u.2.2.1 i)) ∧ fc_3 (fun a b => ng_wt D0 (u.2.2.1 a) (u.2.2.1 b)) ib D0 u.2.2.1 (ng_rw fi np).length u.2.2.2.1 u.2.2.2.2 np 0 ∧ ng_cob u.2.2.2.1) (fun u => [cg_D dm th np ne fi kp iA tA oA uA wA sA eA vA yA lA ll ((ng_rw fi np).length) xA cA zA pA bA fA gA bw bs ps qA rA aA kA lt wt fx, cg_B iA cZ 20 ib, cg_N oA cI 60 oe, cg_N uA cI 60 ot, cg_N wA cI 60 wg, cg_B eA cZ 60 ie, cg_O vA cI 20 u.1, cg_O yA cI 20 u.2.1, cg_N xA cI 10 u.2.2.1, cg_O cA cI 110 u.2.2.2.1, cg_O zA cI 10 u.2.2.2.2])) 0 0 (rw_A [cg_D dm th np ne fi kp iA tA oA uA wA sA eA vA yA lA ll mn xA cA zA pA bA fA gA bw bs ps qA rA aA kA lt wt fx, cg_B iA cZ 20 ib, cg_N oA cI 60 oe, cg_N uA cI 60 ot, cg_N wA cI 60 wg, cg_B eA cZ 60 ie, cg_O vA cI 20 wo, cg_O yA cI 20 eo, cg_N xA cI 10 li, cg_O cA cI 110 co, cg_O zA cI 10 bo]) := by
  refine Met.ofW (cc := b_D_findCosts) (maxL := 4) (ret := none) (by decide) rfl ?_
  intro p e s m args below meth c s₁ B hml hv
  obtain ⟨rfl, hP, hK, hD0⟩ := hv
  have hx := B.exec
  have hb := B.bytes
  have hr := B.returns
  have hts := atoms_spec (ws := w_D_findCosts) B.pre
  have hown : s.vm.findClass R_D = some m.cls := findClass_of_methodNamed B.named
  have hlocks := B.notSynchronized
  have iD : ∀ w ∈ w_D, w ∈ w_D_findCosts := fun w h => List.mem_cons_of_mem _ (i_D w h)
  have hD := rw_own hD0
  generalize hAe : rw_A [cg_D dm th np ne fi kp iA tA oA uA wA sA eA vA yA lA ll mn xA cA zA pA bA fA gA bw bs ps qA rA aA kA lt wt fx, cg_B iA cZ 20 ib, cg_N oA cI 60 oe, cg_N uA cI 60 ot, cg_N wA cI 60 wg, cg_B eA cZ 60 ie, cg_O vA cI 20 wo, cg_O yA cI 20 eo, cg_N xA cI 10 li, cg_O cA cI 110 co, cg_O zA cI 10 bo] = A at hD ⊢
  have hS : va_S A s.heap s.heap [] := va_S.rf
  have hP : va_P (dC, dI) classes [cg_D dm th np ne fi kp iA tA oA uA wA sA eA vA yA lA ll mn xA cA zA pA bA fA gA bw bs ps qA rA aA kA lt wt fx, cg_B iA cZ 20 ib, cg_N oA cI 60 oe, cg_N uA cI 60 ot, cg_N wA cI 60 wg, cg_B eA cZ 60 ie, cg_O vA cI 20 wo, cg_O yA cI 20 eo, cg_N xA cI 10 li, cg_O cA cI 110 co, cg_O zA cI 10 bo] s.heap := hP
  have hl := lv_entry ([.ref dm]) (n := 4) (Nat.le_of_ble_eq_true rfl)
  rw [lg_entry_eq]
  generalize (lg_sl ([.ref dm]) ++ List.replicate (4 - (lg_sl ([.ref dm])).length) Slot.unset).toArray = ls at hl ⊢
  have hl : lv_has ls 4 [(0, .ref dm)] := hl
  refine lv_aload_n hx hb d_D_findCosts_0 rfl (lv_at hl 0 rfl) ?_
  refine lv_iconst (v := nI 0) hx hb d_D_findCosts_1 (by decide) ?_
  refine va_put (D := (dC, dI)) (ci := 5) (v := .int (nI 0)) (ty := .int) (C := R_D) (T := F_D) (N := 34) hx hb hts iD t_D t_D_ok n_D hown hK hP hD hS 0 rfl rfl 16 (by decide) (hts _ (List.mem_cons_of_mem _ wk_D_136)) (fun _ h9 => h9) rfl (by decide +kernel) rfl rfl (Nat.le_of_ble_eq_true rfl) d_D_findCosts_2 (fun H locs hP hD hS => ?_)
  have hP : va_P (dC, dI) classes [cg_D dm th np ne fi kp iA tA oA uA wA sA eA vA yA lA ll 0 xA cA zA pA bA fA gA bw bs ps qA rA aA kA lt wt fx, cg_B iA cZ 20 ib, cg_N oA cI 60 oe, cg_N uA cI 60 ot, cg_N wA cI 60 wg, cg_B eA cZ 60 ie, cg_O vA cI 20 wo, cg_O yA cI 20 eo, cg_N xA cI 10 li, cg_O cA cI 110 co, cg_O zA cI 10 bo] H := hP
  have hD : va_D A [cg_D dm th np ne fi kp iA tA oA uA wA sA eA vA yA lA ll 0 xA cA zA pA bA fA gA bw bs ps qA rA aA kA lt wt fx, cg_B iA cZ 20 ib, cg_N oA cI 60 oe, cg_N uA cI 60 ot, cg_N wA cI 60 wg, cg_B eA cZ 60 ie, cg_O vA cI 20 wo, cg_O yA cI 20 eo, cg_N xA cI 10 li, cg_O cA cI 110 co, cg_O zA cI 10 bo] := hD
  refine lv_iconst (v := nI 0) hx hb d_D_findCosts_5 (by decide) ?_
  refine lv_istore_n (lv' := [(1, .int (nI 0)), (0, .ref dm)]) hx hb d_D_findCosts_6 rfl hl (by decide) rfl (fun ls hl => ?_)
  have lp_7 : ∀ (n : Nat) (i mn1 : Nat) (li1 : Nat → Nat), (i ≤ np) → (mn1 = (ng_rw fi i).length) → (∀ j, j < mn1 → (ng_rw fi i)[j]? = some (li1 j)) → np - i < n → ∀ (H : Heap) (locs : List Loc), va_P (dC, dI) classes [cg_D dm th np ne fi kp iA tA oA uA wA sA eA vA yA lA ll mn1 xA cA zA pA bA fA gA bw bs ps qA rA aA kA lt wt fx, cg_B iA cZ 20 ib, cg_N oA cI 60 oe, cg_N uA cI 60 ot, cg_N wA cI 60 wg, cg_B eA cZ 60 ie, cg_O vA cI 20 wo, cg_O yA cI 20 eo, cg_N xA cI 10 li1, cg_O cA cI 110 co, cg_O zA cI 10 bo] H → va_D A [cg_D dm th np ne fi kp iA tA oA uA wA sA eA vA yA lA ll mn1 xA cA zA pA bA fA gA bw bs ps qA rA aA kA lt wt fx, cg_B iA cZ 20 ib, cg_N oA cI 60 oe, cg_N uA cI 60 ot, cg_N wA cI 60 wg, cg_B eA cZ 60 ie, cg_O vA cI 20 wo, cg_O yA cI 20 eo, cg_N xA cI 10 li1, cg_O cA cI 110 co, cg_O zA cI 10 bo] → va_S A s.heap H locs → ∀ (ls : Array Slot), lv_has ls 4 [(0, .ref dm), (1, .int (nI i))] → W p l e (headSpec w_D_findCosts ({ frames := 3, cells := 0, slots := 0, locals := 73 } : Room)).room s m ([.ref dm] : List Value).toArray below meth c H locs 0 0 (MQ below (rw_Qv (dC, dI) classes A (fun (u : (Nat → Option Nat) × (Nat → Option Nat) × (Nat → Nat) × (Nat → Option Nat) × (Nat → Option Nat)) => (∀ i, i < (ng_rw fi np).length → (ng_rw fi np)[i]? = some (u.2.2.1 i)) ∧ fc_3 (fun a b => ng_wt D0 (u.2.2.1 a) (u.2.2.1 b)) ib D0 u.2.2.1 (ng_rw fi np).length u.2.2.2.1 u.2.2.2.2 np 0 ∧ ng_cob u.2.2.2.1) (fun u => [cg_D dm th np ne fi kp iA tA oA uA wA sA eA vA yA lA ll ((ng_rw fi np).length) xA cA zA pA bA fA gA bw bs ps qA rA aA kA lt wt fx, cg_B iA cZ 20 ib, cg_N oA cI 60 oe, cg_N uA cI 60 ot, cg_N wA cI 60 wg, cg_B eA cZ 60 ie, cg_O vA cI 20 u.1, cg_O yA cI 20 u.2.1, cg_N xA cI 10 u.2.2.1, cg_O cA cI 110 u.2.2.2.1, cg_O zA cI 10 u.2.2.2.2])) ([.ref dm] : List Value).toArray s 0 0 A) (F0 m 7 ls []) := by
    intro n
    induction n with
    | zero => intro i mn1 li1 hi hrl h1 hme; exact absurd hme (Nat.not_lt_zero _)
    | succ n ih =>
      intro i mn1 li1 hi hrl h1 hme H locs hP hD hS ls hl
      have ih_7 := ih
      refine lv_iload_n hx hb d_D_findCosts_7 rfl (lv_at hl 1 rfl) ?_
      refine lv_aload_n hx hb d_D_findCosts_8 rfl (lv_at hl 0 rfl) ?_
      refine va_get (D := (dC, dI)) (ci := 5) (v := .int (nI np)) (C := R_D) (T := F_D) (N := 34) hx hb hts iD hown hK hP 0 rfl rfl 1 (by decide) (hts _ (List.mem_cons_of_mem _ wk_D_79)) (fun _ h9 => h9) rfl d_D_findCosts_9 ?_
      refine nr_icmp_ge (by omega) (by omega) (tgt := 55) hx hb d_D_findCosts_12 (by decide) (fun c_12 => ?_) (fun c_12 => ?_)
      · have hin : i = np := by omega
        rw [hin] at hrl h1
        have hm10 : mn1 ≤ 10 := by omega
        have hli : ∀ j, j < mn1 → li1 j < np := fun j hj => (ng_rw_lt (List.mem_of_getElem? (h1 j hj))).1
        clear hin
        refine lv_iconst (v := nI 0) hx hb d_D_findCosts_55 (by decide) ?_
        refine lv_istore_n (lv' := [(1, .int (nI 0)), (0, .ref dm)]) hx hb d_D_findCosts_56 rfl hl (by decide) rfl (fun ls hl => ?_)
        have lp_57 : ∀ (n : Nat) (i : Nat) (wo1 eo1 co1 bo1 : Nat → Option Nat), (i ≤ mn1) → (fc_2 (fun a b => ng_wt D0 (li1 a) (li1 b)) mn1 co1 bo1 i 0) → (ng_cob co1) → mn1 - i < n → ∀ (H : Heap) (locs : List Loc), va_P (dC, dI) classes [cg_D dm th np ne fi kp iA tA oA uA wA sA eA vA yA lA ll mn1 xA cA zA pA bA fA gA bw bs ps qA rA aA kA lt wt fx, cg_B iA cZ 20 ib, cg_N oA cI 60 oe, cg_N uA cI 60 ot, cg_N wA cI 60 wg, cg_B eA cZ 60 ie, cg_O vA cI 20 wo1, cg_O yA cI 20 eo1, cg_N xA cI 10 li1, cg_O cA cI 110 co1, cg_O zA cI 10 bo1] H → va_D A [cg_D dm th np ne fi kp iA tA oA uA wA sA eA vA yA lA ll mn1 xA cA zA pA bA fA gA bw bs ps qA rA aA kA lt wt fx, cg_B iA cZ 20 ib, cg_N oA cI 60 oe, cg_N uA cI 60 ot, cg_N wA cI 60 wg, cg_B eA cZ 60 ie, cg_O vA cI 20 wo1, cg_O yA cI 20 eo1, cg_N xA cI 10 li1, cg_O cA cI 110 co1, cg_O zA cI 10 bo1] → va_S A s.heap H locs → ∀ (ls : Array Slot), lv_has ls 4 [(0, .ref dm), (1, .int (nI i))] → W p l e (headSpec w_D_findCosts ({ frames := 3, cells := 0, slots := 0, locals := 73 } : Room)).room s m ([.ref dm] : List Value).toArray below meth c H locs 0 0 (MQ below (rw_Qv (dC, dI) classes A (fun (u : (Nat → Option Nat) × (Nat → Option Nat) × (Nat → Nat) × (Nat → Option Nat) × (Nat → Option Nat)) => (∀ i, i < (ng_rw fi np).length → (ng_rw fi np)[i]? = some (u.2.2.1 i)) ∧ fc_3 (fun a b => ng_wt D0 (u.2.2.1 a) (u.2.2.1 b)) ib D0 u.2.2.1 (ng_rw fi np).length u.2.2.2.1 u.2.2.2.2 np 0 ∧ ng_cob u.2.2.2.1) (fun u => [cg_D dm th np ne fi kp iA tA oA uA wA sA eA vA yA lA ll ((ng_rw fi np).length) xA cA zA pA bA fA gA bw bs ps qA rA aA kA lt wt fx, cg_B iA cZ 20 ib, cg_N oA cI 60 oe, cg_N uA cI 60 ot, cg_N wA cI 60 wg, cg_B eA cZ 60 ie, cg_O vA cI 20 u.1, cg_O yA cI 20 u.2.1, cg_N xA cI 10 u.2.2.1, cg_O cA cI 110 u.2.2.2.1, cg_O zA cI 10 u.2.2.2.2])) ([.ref dm] : List Value).toArray s 0 0 A) (F0 m 57 ls []) := by
          intro n
          induction n with
          | zero => intro i wo1 eo1 co1 bo1 hi2 hf2 hcb1 hme; exact absurd hme (Nat.not_lt_zero _)
          | succ n ih =>
            intro i wo1 eo1 co1 bo1 hi2 hf2 hcb1 hme H locs hP hD hS ls hl
            have ih_57 := ih
            refine lv_iload_n hx hb d_D_findCosts_57 rfl (lv_at hl 1 rfl) ?_
            refine lv_aload_n hx hb d_D_findCosts_58 rfl (lv_at hl 0 rfl) ?_
            refine va_get (D := (dC, dI)) (ci := 5) (v := .int (nI mn1)) (C := R_D) (T := F_D) (N := 34) hx hb hts iD hown hK hP 0 rfl rfl 16 (by decide) (hts _ (List.mem_cons_of_mem _ wk_D_136)) (fun _ h9 => h9) rfl d_D_findCosts_59 ?_
            refine nr_icmp_ge (by omega) (by omega) (tgt := 139) hx hb d_D_findCosts_62 (by decide) (fun c_62 => ?_) (fun c_62 => ?_)
            · refine lv_iconst (v := nI 0) hx hb d_D_findCosts_139 (by decide) ?_
              refine lv_istore_n (lv' := [(1, .int (nI 0)), (0, .ref dm)]) hx hb d_D_findCosts_140 rfl hl (by decide) rfl (fun ls hl => ?_)
              have lp_141 : ∀ (n : Nat) (i : Nat) (wo1 eo1 co1 bo1 : Nat → Option Nat), (i ≤ np) → (fc_3 (fun a b => ng_wt D0 (li1 a) (li1 b)) ib D0 li1 mn1 co1 bo1 i 0) → (ng_cob co1) → np - i < n → ∀ (H : Heap) (locs : List Loc), va_P (dC, dI) classes [cg_D dm th np ne fi kp iA tA oA uA wA sA eA vA yA lA ll mn1 xA cA zA pA bA fA gA bw bs ps qA rA aA kA lt wt fx, cg_B iA cZ 20 ib, cg_N oA cI 60 oe, cg_N uA cI 60 ot, cg_N wA cI 60 wg, cg_B eA cZ 60 ie, cg_O vA cI 20 wo1, cg_O yA cI 20 eo1, cg_N xA cI 10 li1, cg_O cA cI 110 co1, cg_O zA cI 10 bo1] H → va_D A [cg_D dm th np ne fi kp iA tA oA uA wA sA eA vA yA lA ll mn1 xA cA zA pA bA fA gA bw bs ps qA rA aA kA lt wt fx, cg_B iA cZ 20 ib, cg_N oA cI 60 oe, cg_N uA cI 60 ot, cg_N wA cI 60 wg, cg_B eA cZ 60 ie, cg_O vA cI 20 wo1, cg_O yA cI 20 eo1, cg_N xA cI 10 li1, cg_O cA cI 110 co1, cg_O zA cI 10 bo1] → va_S A s.heap H locs → ∀ (ls : Array Slot), lv_has ls 4 [(0, .ref dm), (1, .int (nI i))] → W p l e (headSpec w_D_findCosts ({ frames := 3, cells := 0, slots := 0, locals := 73 } : Room)).room s m ([.ref dm] : List Value).toArray below meth c H locs 0 0 (MQ below (rw_Qv (dC, dI) classes A (fun (u : (Nat → Option Nat) × (Nat → Option Nat) × (Nat → Nat) × (Nat → Option Nat) × (Nat → Option Nat)) => (∀ i, i < (ng_rw fi np).length → (ng_rw fi np)[i]? = some (u.2.2.1 i)) ∧ fc_3 (fun a b => ng_wt D0 (u.2.2.1 a) (u.2.2.1 b)) ib D0 u.2.2.1 (ng_rw fi np).length u.2.2.2.1 u.2.2.2.2 np 0 ∧ ng_cob u.2.2.2.1) (fun u => [cg_D dm th np ne fi kp iA tA oA uA wA sA eA vA yA lA ll ((ng_rw fi np).length) xA cA zA pA bA fA gA bw bs ps qA rA aA kA lt wt fx, cg_B iA cZ 20 ib, cg_N oA cI 60 oe, cg_N uA cI 60 ot, cg_N wA cI 60 wg, cg_B eA cZ 60 ie, cg_O vA cI 20 u.1, cg_O yA cI 20 u.2.1, cg_N xA cI 10 u.2.2.1, cg_O cA cI 110 u.2.2.2.1, cg_O zA cI 10 u.2.2.2.2])) ([.ref dm] : List Value).toArray s 0 0 A) (F0 m 141 ls []) := by
                intro n
                induction n with
                | zero => intro i wo1 eo1 co1 bo1 hi4 hf4 hcb1 hme; exact absurd hme (Nat.not_lt_zero _)
                | succ n ih =>
                  intro i wo1 eo1 co1 bo1 hi4 hf4 hcb1 hme H locs hP hD hS ls hl
                  have ih_141 := ih
                  refine lv_iload_n hx hb d_D_findCosts_141 rfl (lv_at hl 1 rfl) ?_
                  refine lv_aload_n hx hb d_D_findCosts_142 rfl (lv_at hl 0 rfl) ?_
                  refine va_get (D := (dC, dI)) (ci := 5) (v := .int (nI np)) (C := R_D) (T := F_D) (N := 34) hx hb hts iD hown hK hP 0 rfl rfl 1 (by decide) (hts _ (List.mem_cons_of_mem _ wk_D_79)) (fun _ h9 => h9) rfl d_D_findCosts_143 ?_
                  refine nr_icmp_ge (by omega) (by omega) (tgt := 258) hx hb d_D_findCosts_146 (by decide) (fun c_146 => ?_) (fun c_146 => ?_)
                  · have hin : i = np := by omega
                    rw [hin] at hf4
                    rw [← hrl]
                    exact rw_vret (wo1, eo1, li1, co1, bo1) hx hb hr hlocks hS hP (⟨fun j hj => h1 j hj, hf4, hcb1⟩) d_D_findCosts_258
                  · refine lv_aload_n hx hb d_D_findCosts_149 rfl (lv_at hl 0 rfl) ?_
                    refine va_get (D := (dC, dI)) (ci := 5) (v := .ref iA) (C := R_D) (T := F_D) (N := 34) hx hb hts iD hown hK hP 0 rfl rfl 5 (by decide) (hts _ (List.mem_cons_of_mem _ wk_D_7)) (fun _ h9 => h9) rfl d_D_findCosts_150 ?_
                    refine lv_iload_n hx hb d_D_findCosts_153 rfl (lv_at hl 1 rfl) ?_
                    refine nr_zald hx hb hK hP 1 2 rfl rfl (by omega) (by decide) d_D_findCosts_154 ?_
                    refine nr_ifneB (tgt := 161) hx hb d_D_findCosts_155 (by decide) (fun c_155 => ?_) (fun c_155 => ?_)
                    · refine lv_aload_n hx hb d_D_findCosts_161 rfl (lv_at hl 0 rfl) ?_
                      refine lv_iload_n hx hb d_D_findCosts_162 rfl (lv_at hl 1 rfl) ?_
                      refine rw_Vv (wr := [cg_N xA cI 10 li1, cg_O cA cI 110 co1, cg_O zA cI 10 bo1]) [0, 1, 2, 3, 4, 5, 6, 7] [8, 9, 10] rfl rfl (by decide) (As := [.int (nI i)]) (rest := []) ⟨hx, hb, hml, hown, hts⟩ (c_D_findTo l dC dI cI cL cZ dm th np ne fi kp iA tA oA uA wA sA eA vA yA lA ll mn1 xA cA zA pA bA fA gA bw bs ps qA rA aA kA lt wt fx ib oe ot wg ie wo1 eo1 i (by omega) (by omega) (by omega) (fun i h => ⟨Nat.lt_of_lt_of_le (hE i h).1 hnp, Nat.lt_of_lt_of_le (hE i h).2 hnp⟩) hdf hhv) (cwV 1 hts (wg_V wk_D_123 wm_D_findTo we_D_findTo wi_D wc_D_findTo) rfl rfl rfl (by decide +kernel) ⟨Nat.le_of_ble_eq_true rfl, Nat.le_of_ble_eq_true rfl⟩) hK (hP.sub [0, 1, 2, 3, 4, 5, 6, 7] rfl) ((hD.sub [0, 1, 2, 3, 4, 5, 6, 7] (by decide) rfl).weaken (fun _ _ _ _ => trivial)) (q0 := 0) rfl rfl rfl rfl hl.1 rfl (lv_room (Nat.le_of_ble_eq_true rfl)) d_D_findCosts_163 ⟨Nat.zero_le _, Nat.zero_le _⟩ hS hP hD (fun u H locs hw_4 hP hS => ?_)
                      obtain ⟨wo9_1, eo9_2⟩ := u
                      have hP : va_P (dC, dI) classes [cg_D dm th np ne fi kp iA tA oA uA wA sA eA vA yA lA ll mn1 xA cA zA pA bA fA gA bw bs ps qA rA aA kA lt wt fx, cg_B iA cZ 20 ib, cg_N oA cI 60 oe, cg_N uA cI 60 ot, cg_N wA cI 60 wg, cg_B eA cZ 60 ie, cg_O vA cI 20 wo9_1, cg_O yA cI 20 eo9_2, cg_N xA cI 10 li1, cg_O cA cI 110 co1, cg_O zA cI 10 bo1] H := hP.sub [3, 4, 5, 6, 7, 8, 9, 10, 0, 1, 2] rfl
                      have hD : va_D A [cg_D dm th np ne fi kp iA tA oA uA wA sA eA vA yA lA ll mn1 xA cA zA pA bA fA gA bw bs ps qA rA aA kA lt wt fx, cg_B iA cZ 20 ib, cg_N oA cI 60 oe, cg_N uA cI 60 ot, cg_N wA cI 60 wg, cg_B eA cZ 60 ie, cg_O vA cI 20 wo9_1, cg_O yA cI 20 eo9_2, cg_N xA cI 10 li1, cg_O cA cI 110 co1, cg_O zA cI 10 bo1] := rw_re hD rfl
                      try dsimp only at hw_4
                      have hT := hw_4
                      have hwt := ng_T_wt hnp c_146 hE hhv (fun _ _ => rfl) (fun _ _ => rfl) hT hDD
                      have hwb : ∀ a w, a < np → wo9_1 a = some w → w ≤ 19000000 := fun a w ha hw => by obtain ⟨n, h1, h2, h3, -⟩ := ng_V_get hT.1 (show a < 20 by omega) hw; omega
                      refine lv_iconst (v := nI 0) hx hb d_D_findCosts_166 (by decide) ?_
                      refine lv_istore_n (lv' := [(2, .int (nI 0)), (0, .ref dm), (1, .int (nI i))]) hx hb d_D_findCosts_167 rfl hl (by decide) rfl (fun ls hl => ?_)
                      have lp_168 : ∀ (n : Nat) (i2 : Nat) (co1 bo1 : Nat → Option Nat), (i2 ≤ mn1) → (fc_3 (fun a b => ng_wt D0 (li1 a) (li1 b)) ib D0 li1 mn1 co1 bo1 i i2) → (ng_cob co1) → mn1 - i2 < n → ∀ (H : Heap) (locs : List Loc), va_P (dC, dI) classes [cg_D dm th np ne fi kp iA tA oA uA wA sA eA vA yA lA ll mn1 xA cA zA pA bA fA gA bw bs ps qA rA aA kA lt wt fx, cg_B iA cZ 20 ib, cg_N oA cI 60 oe, cg_N uA cI 60 ot, cg_N wA cI 60 wg, cg_B eA cZ 60 ie, cg_O vA cI 20 wo9_1, cg_O yA cI 20 eo9_2, cg_N xA cI 10 li1, cg_O cA cI 110 co1, cg_O zA cI 10 bo1] H → va_D A [cg_D dm th np ne fi kp iA tA oA uA wA sA eA vA yA lA ll mn1 xA cA zA pA bA fA gA bw bs ps qA rA aA kA lt wt fx, cg_B iA cZ 20 ib, cg_N oA cI 60 oe, cg_N uA cI 60 ot, cg_N wA cI 60 wg, cg_B eA cZ 60 ie, cg_O vA cI 20 wo9_1, cg_O yA cI 20 eo9_2, cg_N xA cI 10 li1, cg_O cA cI 110 co1, cg_O zA cI 10 bo1] → va_S A s.heap H locs → ∀ (ls : Array Slot), lv_has ls 4 [(0, .ref dm), (1, .int (nI i)), (2, .int (nI i2))] → W p l e (headSpec w_D_findCosts ({ frames := 3, cells := 0, slots := 0, locals := 73 } : Room)).room s m ([.ref dm] : List Value).toArray below meth c H locs 0 0 (MQ below (rw_Qv (dC, dI) classes A (fun (u : (Nat → Option Nat) × (Nat → Option Nat) × (Nat → Nat) × (Nat → Option Nat) × (Nat → Option Nat)) => (∀ i, i < (ng_rw fi np).length → (ng_rw fi np)[i]? = some (u.2.2.1 i)) ∧ fc_3 (fun a b => ng_wt D0 (u.2.2.1 a) (u.2.2.1 b)) ib D0 u.2.2.1 (ng_rw fi np).length u.2.2.2.1 u.2.2.2.2 np 0 ∧ ng_cob u.2.2.2.1) (fun u => [cg_D dm th np ne fi kp iA tA oA uA wA sA eA vA yA lA ll ((ng_rw fi np).length) xA cA zA pA bA fA gA bw bs ps qA rA aA kA lt wt fx, cg_B iA cZ 20 ib, cg_N oA cI 60 oe, cg_N uA cI 60 ot, cg_N wA cI 60 wg, cg_B eA cZ 60 ie, cg_O vA cI 20 u.1, cg_O yA cI 20 u.2.1, cg_N xA cI 10 u.2.2.1, cg_O cA cI 110 u.2.2.2.1, cg_O zA cI 10 u.2.2.2.2])) ([.ref dm] : List Value).toArray s 0 0 A) (F0 m 168 ls []) := by
                        intro n
                        induction n with
                        | zero => intro i2 co1 bo1 hi5 hf5 hcb1 hme; exact absurd hme (Nat.not_lt_zero _)
                        | succ n ih =>
                          intro i2 co1 bo1 hi5 hf5 hcb1 hme H locs hP hD hS ls hl
                          have ih_168 := ih
                          refine lv_iload_n hx hb d_D_findCosts_168 rfl (lv_at hl 2 rfl) ?_
                          refine lv_aload_n hx hb d_D_findCosts_169 rfl (lv_at hl 0 rfl) ?_
                          refine va_get (D := (dC, dI)) (ci := 5) (v := .int (nI mn1)) (C := R_D) (T := F_D) (N := 34) hx hb hts iD hown hK hP 0 rfl rfl 16 (by decide) (hts _ (List.mem_cons_of_mem _ wk_D_136)) (fun _ h9 => h9) rfl d_D_findCosts_170 ?_
                          refine nr_icmp_ge (by omega) (by omega) (tgt := 252) hx hb d_D_findCosts_173 (by decide) (fun c_173 => ?_) (fun c_173 => ?_)
                          · have hf9 := fc_3_end c_173 hf5
                            refine lv_iinc (v := (nI (i + 1))) (lv' := [(1, .int (nI (i + 1))), (0, .ref dm), (2, .int (nI i2))]) hx hb d_D_findCosts_252 hl (k := 1) rfl (nI_1 i) (by decide) rfl (fun ls hl => ?_)
                            refine lv_goto (tgt := 141) hx hb d_D_findCosts_255 (by decide) ?_
                            exact ih_141 (i + 1) wo9_1 eo9_2 co1 bo1 (by omega) hf9 hcb1 (by omega) _ _ hP hD hS ls (lv_sub hl [1, 0] rfl)
                          · have hl2 := hli i2 c_173
                            have hfi := hf5.2 i2 c_173
                            rw [if_neg (Nat.lt_irrefl _)] at hfi
                            refine lv_aload_n hx hb d_D_findCosts_176 rfl (lv_at hl 0 rfl) ?_
                            refine va_get (D := (dC, dI)) (ci := 5) (v := .ref vA) (C := R_D) (T := F_D) (N := 34) hx hb hts iD hown hK hP 0 rfl rfl 12 (by decide) (hts _ (List.mem_cons_of_mem _ wk_D_32)) (fun _ h9 => h9) rfl d_D_findCosts_177 ?_
                            refine lv_aload_n hx hb d_D_findCosts_180 rfl (lv_at hl 0 rfl) ?_
                            refine va_get (D := (dC, dI)) (ci := 5) (v := .ref xA) (C := R_D) (T := F_D) (N := 34) hx hb hts iD hown hK hP 0 rfl rfl 17 (by decide) (hts _ (List.mem_cons_of_mem _ wk_D_41)) (fun _ h9 => h9) rfl d_D_findCosts_181 ?_
                            refine lv_iload_n hx hb d_D_findCosts_184 rfl (lv_at hl 2 rfl) ?_
                            refine nr_iald hx hb hK hP 8 0 rfl rfl (by omega) (by decide) d_D_findCosts_185 ?_
                            refine nr_oald hx hb hK hP 6 0 rfl rfl (by omega) (by decide) d_D_findCosts_186 ?_
                            rcases hwq : wo9_1 (li1 i2) with _ | w
                            · refine nr_as (v := -1) rfl ?_
                              have hf6 := fc_3_no c_173 (fun q => q.2.1 (ng_wt_none ((hwt _ hl2).symm.trans hwq))) hf5
                              refine lv_istore_n (lv' := [(3, .int (-1)), (0, .ref dm), (1, .int (nI i)), (2, .int (nI i2))]) hx hb d_D_findCosts_187 rfl hl (by decide) rfl (fun ls hl => ?_)
                              refine lv_iload_n hx hb d_D_findCosts_188 rfl (lv_at hl 0 rfl) ?_
                              refine lv_if_lt (tgt := 246) hx hb d_D_findCosts_189 (by decide) (fun c_189 => ?_) (fun c => absurd ng_m1l c)
                              refine lv_iinc (v := (nI (i2 + 1))) (lv' := [(2, .int (nI (i2 + 1))), (3, .int (-1)), (0, .ref dm), (1, .int (nI i))]) hx hb d_D_findCosts_246 hl (k := 3) rfl (nI_1 i2) (by decide) rfl (fun ls hl => ?_)
                              refine lv_goto (tgt := 168) hx hb d_D_findCosts_249 (by decide) ?_
                              exact ih_168 (i2 + 1) co1 bo1 (by omega) hf6 (by first | exact hcb1 | exact ng_cob_up hcb1 (fun c h => by cases h; exact hw9)) (by omega) _ _ hP hD hS ls (lv_sub hl [2, 3, 0] rfl)
                            · refine nr_as (v := nI w) rfl ?_
                              have hw9 := hwb _ _ hl2 hwq
                              obtain ⟨hnf, hwe⟩ := ng_wt_some ((hwt _ hl2).symm.trans hwq)
                              refine lv_istore_n (lv' := [(3, .int (nI w)), (0, .ref dm), (1, .int (nI i)), (2, .int (nI i2))]) hx hb d_D_findCosts_187 rfl hl (by decide) rfl (fun ls hl => ?_)
                              refine lv_iload_n hx hb d_D_findCosts_188 rfl (lv_at hl 0 rfl) ?_
                              refine nr_if_lt (by omega) (tgt := 246) hx hb d_D_findCosts_189 (by decide) (fun c => False.elim c) (fun c_189 => ?_)
                              refine lv_aload_n hx hb d_D_findCosts_192 rfl (lv_at hl 1 rfl) ?_
                              refine va_get (D := (dC, dI)) (ci := 5) (v := .ref cA) (C := R_D) (T := F_D) (N := 34) hx hb hts iD hown hK hP 0 rfl rfl 18 (by decide) (hts _ (List.mem_cons_of_mem _ wk_D_44)) (fun _ h9 => h9) rfl d_D_findCosts_193 ?_
                              refine lv_bipush (v := nI 11) hx hb d_D_findCosts_196 (by decide) ?_
                              refine lv_iload_n hx hb d_D_findCosts_198 rfl (lv_at hl 3 rfl) ?_
                              refine nr_imul hx hb d_D_findCosts_199 ?_
                              refine lv_bipush (v := nI 10) hx hb d_D_findCosts_200 (by decide) ?_
                              refine nr_iadd hx hb d_D_findCosts_202 ?_
                              refine nr_oald hx hb hK hP 9 0 rfl rfl (by omega) (by decide) d_D_findCosts_203 ?_
                              rcases hcq : co1 (11 * i2 + 10) with _ | cc1
                              · refine nr_as (v := -1) rfl ?_
                                have hbn : bo1 i2 = none := fc_wb_n (hfi.2.symm.trans hcq)
                                have hf6 := fc_3_up hm10 c_173 hwe ⟨c_155, hnf, fun y hy => by rw [← hfi.1, hbn] at hy; cases hy⟩ hf5
                                refine lv_if_lt (tgt := 226) hx hb d_D_findCosts_204 (by decide) (fun c_204 => ?_) (fun c => absurd ng_m1l c)
                                refine lv_aload_n hx hb d_D_findCosts_226 rfl (lv_at hl 1 rfl) ?_
                                refine va_get (D := (dC, dI)) (ci := 5) (v := .ref cA) (C := R_D) (T := F_D) (N := 34) hx hb hts iD hown hK hP 0 rfl rfl 18 (by decide) (hts _ (List.mem_cons_of_mem _ wk_D_44)) (fun _ h9 => h9) rfl d_D_findCosts_227 ?_
                                refine lv_bipush (v := nI 11) hx hb d_D_findCosts_230 (by decide) ?_
                                refine lv_iload_n hx hb d_D_findCosts_232 rfl (lv_at hl 3 rfl) ?_
                                refine nr_imul hx hb d_D_findCosts_233 ?_
                                refine lv_bipush (v := nI 10) hx hb d_D_findCosts_234 (by decide) ?_
                                refine nr_iadd hx hb d_D_findCosts_236 ?_
                                refine lv_iload_n hx hb d_D_findCosts_237 rfl (lv_at hl 0 rfl) ?_
                                refine nr_oast (x := (some w)) hx hb hK hP hD hS 9 0 rfl rfl (by omega) (by decide) d_D_findCosts_238 (fun H locs hP hD hS => ?_)
                                have hP : va_P (dC, dI) classes [cg_D dm th np ne fi kp iA tA oA uA wA sA eA vA yA lA ll mn1 xA cA zA pA bA fA gA bw bs ps qA rA aA kA lt wt fx, cg_B iA cZ 20 ib, cg_N oA cI 60 oe, cg_N uA cI 60 ot, cg_N wA cI 60 wg, cg_B eA cZ 60 ie, cg_O vA cI 20 wo9_1, cg_O yA cI 20 eo9_2, cg_N xA cI 10 li1, cg_O cA cI 110 (va_up co1 ((11 * i2) + 10) (some w)), cg_O zA cI 10 bo1] H := hP
                                have hD : va_D A [cg_D dm th np ne fi kp iA tA oA uA wA sA eA vA yA lA ll mn1 xA cA zA pA bA fA gA bw bs ps qA rA aA kA lt wt fx, cg_B iA cZ 20 ib, cg_N oA cI 60 oe, cg_N uA cI 60 ot, cg_N wA cI 60 wg, cg_B eA cZ 60 ie, cg_O vA cI 20 wo9_1, cg_O yA cI 20 eo9_2, cg_N xA cI 10 li1, cg_O cA cI 110 (va_up co1 ((11 * i2) + 10) (some w)), cg_O zA cI 10 bo1] := hD
                                refine lv_aload_n hx hb d_D_findCosts_239 rfl (lv_at hl 1 rfl) ?_
                                refine va_get (D := (dC, dI)) (ci := 5) (v := .ref zA) (C := R_D) (T := F_D) (N := 34) hx hb hts iD hown hK hP 0 rfl rfl 19 (by decide) (hts _ (List.mem_cons_of_mem _ wk_D_47)) (fun _ h9 => h9) rfl d_D_findCosts_240 ?_
                                refine lv_iload_n hx hb d_D_findCosts_243 rfl (lv_at hl 3 rfl) ?_
                                refine lv_iload_n hx hb d_D_findCosts_244 rfl (lv_at hl 2 rfl) ?_
                                refine nr_oast (x := (some i)) hx hb hK hP hD hS 10 0 rfl rfl (by omega) (by decide) d_D_findCosts_245 (fun H locs hP hD hS => ?_)
                                have hP : va_P (dC, dI) classes [cg_D dm th np ne fi kp iA tA oA uA wA sA eA vA yA lA ll mn1 xA cA zA pA bA fA gA bw bs ps qA rA aA kA lt wt fx, cg_B iA cZ 20 ib, cg_N oA cI 60 oe, cg_N uA cI 60 ot, cg_N wA cI 60 wg, cg_B eA cZ 60 ie, cg_O vA cI 20 wo9_1, cg_O yA cI 20 eo9_2, cg_N xA cI 10 li1, cg_O cA cI 110 (va_up co1 ((11 * i2) + 10) (some w)), cg_O zA cI 10 (va_up bo1 i2 (some i))] H := hP
                                have hD : va_D A [cg_D dm th np ne fi kp iA tA oA uA wA sA eA vA yA lA ll mn1 xA cA zA pA bA fA gA bw bs ps qA rA aA kA lt wt fx, cg_B iA cZ 20 ib, cg_N oA cI 60 oe, cg_N uA cI 60 ot, cg_N wA cI 60 wg, cg_B eA cZ 60 ie, cg_O vA cI 20 wo9_1, cg_O yA cI 20 eo9_2, cg_N xA cI 10 li1, cg_O cA cI 110 (va_up co1 ((11 * i2) + 10) (some w)), cg_O zA cI 10 (va_up bo1 i2 (some i))] := hD
                                refine lv_iinc (v := (nI (i2 + 1))) (lv' := [(2, .int (nI (i2 + 1))), (3, .int (nI w)), (0, .ref dm), (1, .int (nI i))]) hx hb d_D_findCosts_246 hl (k := 3) rfl (nI_1 i2) (by decide) rfl (fun ls hl => ?_)
                                refine lv_goto (tgt := 168) hx hb d_D_findCosts_249 (by decide) ?_
                                exact ih_168 (i2 + 1) (va_up co1 ((11 * i2) + 10) (some w)) (va_up bo1 i2 (some i)) (by omega) hf6 (by first | exact hcb1 | exact ng_cob_up hcb1 (fun c h => by cases h; exact hw9)) (by omega) _ _ hP hD hS ls (lv_sub hl [2, 3, 0] rfl)
                              · refine nr_as (v := nI cc1) rfl ?_
                                obtain ⟨yb, hyb, hyc⟩ := fc_wb_s (hfi.2.symm.trans hcq)
                                have hcl : cc1 < 2 ^ 31 := by have q0 := ng_nbD_lt (hfi.1.symm.trans hyb); have q1 := fc_bd hnp hE hhv hDD hl2 (show yb < np by omega) q0.2.1; omega
                                refine nr_if_lt (by omega) (tgt := 226) hx hb d_D_findCosts_204 (by decide) (fun c => False.elim c) (fun c_204 => ?_)
                                refine lv_aload_n hx hb d_D_findCosts_207 rfl (lv_at hl 1 rfl) ?_
                                refine va_get (D := (dC, dI)) (ci := 5) (v := .ref cA) (C := R_D) (T := F_D) (N := 34) hx hb hts iD hown hK hP 0 rfl rfl 18 (by decide) (hts _ (List.mem_cons_of_mem _ wk_D_44)) (fun _ h9 => h9) rfl d_D_findCosts_208 ?_
                                refine lv_bipush (v := nI 11) hx hb d_D_findCosts_211 (by decide) ?_
                                refine lv_iload_n hx hb d_D_findCosts_213 rfl (lv_at hl 3 rfl) ?_
                                refine nr_imul hx hb d_D_findCosts_214 ?_
                                refine lv_bipush (v := nI 10) hx hb d_D_findCosts_215 (by decide) ?_
                                refine nr_iadd hx hb d_D_findCosts_217 ?_
                                refine nr_oald hx hb hK hP 9 0 rfl rfl (by omega) (by decide) d_D_findCosts_218 ?_
                                rw [hcq]
                                refine nr_as (v := nI cc1) rfl ?_
                                refine lv_iload_n hx hb d_D_findCosts_219 rfl (lv_at hl 0 rfl) ?_
                                refine nr_icmp_gt (by omega) (by omega) (tgt := 226) hx hb d_D_findCosts_220 (by decide) (fun c_220 => ?_) (fun c_220 => ?_)
                                · have hf6 := fc_3_up hm10 c_173 hwe ⟨c_155, hnf, fun y hy => by rw [← hfi.1, hyb] at hy; cases hy; omega⟩ hf5
                                  refine lv_aload_n hx hb d_D_findCosts_226 rfl (lv_at hl 1 rfl) ?_
                                  refine va_get (D := (dC, dI)) (ci := 5) (v := .ref cA) (C := R_D) (T := F_D) (N := 34) hx hb hts iD hown hK hP 0 rfl rfl 18 (by decide) (hts _ (List.mem_cons_of_mem _ wk_D_44)) (fun _ h9 => h9) rfl d_D_findCosts_227 ?_
                                  refine lv_bipush (v := nI 11) hx hb d_D_findCosts_230 (by decide) ?_
                                  refine lv_iload_n hx hb d_D_findCosts_232 rfl (lv_at hl 3 rfl) ?_
                                  refine nr_imul hx hb d_D_findCosts_233 ?_
                                  refine lv_bipush (v := nI 10) hx hb d_D_findCosts_234 (by decide) ?_
                                  refine nr_iadd hx hb d_D_findCosts_236 ?_
                                  refine lv_iload_n hx hb d_D_findCosts_237 rfl (lv_at hl 0 rfl) ?_
                                  refine nr_oast (x := (some w)) hx hb hK hP hD hS 9 0 rfl rfl (by omega) (by decide) d_D_findCosts_238 (fun H locs hP hD hS => ?_)
                                  have hP : va_P (dC, dI) classes [cg_D dm th np ne fi kp iA tA oA uA wA sA eA vA yA lA ll mn1 xA cA zA pA bA fA gA bw bs ps qA rA aA kA lt wt fx, cg_B iA cZ 20 ib, cg_N oA cI 60 oe, cg_N uA cI 60 ot, cg_N wA cI 60 wg, cg_B eA cZ 60 ie, cg_O vA cI 20 wo9_1, cg_O yA cI 20 eo9_2, cg_N xA cI 10 li1, cg_O cA cI 110 (va_up co1 ((11 * i2) + 10) (some w)), cg_O zA cI 10 bo1] H := hP
                                  have hD : va_D A [cg_D dm th np ne fi kp iA tA oA uA wA sA eA vA yA lA ll mn1 xA cA zA pA bA fA gA bw bs ps qA rA aA kA lt wt fx, cg_B iA cZ 20 ib, cg_N oA cI 60 oe, cg_N uA cI 60 ot, cg_N wA cI 60 wg, cg_B eA cZ 60 ie, cg_O vA cI 20 wo9_1, cg_O yA cI 20 eo9_2, cg_N xA cI 10 li1, cg_O cA cI 110 (va_up co1 ((11 * i2) + 10) (some w)), cg_O zA cI 10 bo1] := hD
                                  refine lv_aload_n hx hb d_D_findCosts_239 rfl (lv_at hl 1 rfl) ?_
                                  refine va_get (D := (dC, dI)) (ci := 5) (v := .ref zA) (C := R_D) (T := F_D) (N := 34) hx hb hts iD hown hK hP 0 rfl rfl 19 (by decide) (hts _ (List.mem_cons_of_mem _ wk_D_47)) (fun _ h9 => h9) rfl d_D_findCosts_240 ?_
                                  refine lv_iload_n hx hb d_D_findCosts_243 rfl (lv_at hl 3 rfl) ?_
                                  refine lv_iload_n hx hb d_D_findCosts_244 rfl (lv_at hl 2 rfl) ?_
                                  refine nr_oast (x := (some i)) hx hb hK hP hD hS 10 0 rfl rfl (by omega) (by decide) d_D_findCosts_245 (fun H locs hP hD hS => ?_)
                                  have hP : va_P (dC, dI) classes [cg_D dm th np ne fi kp iA tA oA uA wA sA eA vA yA lA ll mn1 xA cA zA pA bA fA gA bw bs ps qA rA aA kA lt wt fx, cg_B iA cZ 20 ib, cg_N oA cI 60 oe, cg_N uA cI 60 ot, cg_N wA cI 60 wg, cg_B eA cZ 60 ie, cg_O vA cI 20 wo9_1, cg_O yA cI 20 eo9_2, cg_N xA cI 10 li1, cg_O cA cI 110 (va_up co1 ((11 * i2) + 10) (some w)), cg_O zA cI 10 (va_up bo1 i2 (some i))] H := hP
                                  have hD : va_D A [cg_D dm th np ne fi kp iA tA oA uA wA sA eA vA yA lA ll mn1 xA cA zA pA bA fA gA bw bs ps qA rA aA kA lt wt fx, cg_B iA cZ 20 ib, cg_N oA cI 60 oe, cg_N uA cI 60 ot, cg_N wA cI 60 wg, cg_B eA cZ 60 ie, cg_O vA cI 20 wo9_1, cg_O yA cI 20 eo9_2, cg_N xA cI 10 li1, cg_O cA cI 110 (va_up co1 ((11 * i2) + 10) (some w)), cg_O zA cI 10 (va_up bo1 i2 (some i))] := hD
                                  refine lv_iinc (v := (nI (i2 + 1))) (lv' := [(2, .int (nI (i2 + 1))), (3, .int (nI w)), (0, .ref dm), (1, .int (nI i))]) hx hb d_D_findCosts_246 hl (k := 3) rfl (nI_1 i2) (by decide) rfl (fun ls hl => ?_)
                                  refine lv_goto (tgt := 168) hx hb d_D_findCosts_249 (by decide) ?_
                                  exact ih_168 (i2 + 1) (va_up co1 ((11 * i2) + 10) (some w)) (va_up bo1 i2 (some i)) (by omega) hf6 (by first | exact hcb1 | exact ng_cob_up hcb1 (fun c h => by cases h; exact hw9)) (by omega) _ _ hP hD hS ls (lv_sub hl [2, 3, 0] rfl)
                                · have hf6 := fc_3_no c_173 (fun q => by have := q.2.2 yb (by rw [← hfi.1]; exact hyb); omega) hf5
                                  refine lv_goto (tgt := 246) hx hb d_D_findCosts_223 (by decide) ?_
                                  refine lv_iinc (v := (nI (i2 + 1))) (lv' := [(2, .int (nI (i2 + 1))), (3, .int (nI w)), (0, .ref dm), (1, .int (nI i))]) hx hb d_D_findCosts_246 hl (k := 3) rfl (nI_1 i2) (by decide) rfl (fun ls hl => ?_)
                                  refine lv_goto (tgt := 168) hx hb d_D_findCosts_249 (by decide) ?_
                                  exact ih_168 (i2 + 1) co1 bo1 (by omega) hf6 (by first | exact hcb1 | exact ng_cob_up hcb1 (fun c h => by cases h; exact hw9)) (by omega) _ _ hP hD hS ls (lv_sub hl [2, 3, 0] rfl)
                      exact lp_168 (mn1 - 0 + 1) 0 co1 bo1 (by omega) hf4 hcb1 (Nat.lt_succ_self _) _ _ hP hD hS ls (lv_sub hl [1, 2, 0] rfl)
                    · have hf9 := fc_3_sk c_155 hf4
                      refine lv_goto (tgt := 252) hx hb d_D_findCosts_158 (by decide) ?_
                      refine lv_iinc (v := (nI (i + 1))) (lv' := [(1, .int (nI (i + 1))), (0, .ref dm)]) hx hb d_D_findCosts_252 hl (k := 1) rfl (nI_1 i) (by decide) rfl (fun ls hl => ?_)
                      refine lv_goto (tgt := 141) hx hb d_D_findCosts_255 (by decide) ?_
                      exact ih_141 (i + 1) wo1 eo1 co1 bo1 (by omega) hf9 hcb1 (by omega) _ _ hP hD hS ls (lv_sub hl [1, 0] rfl)
              exact lp_141 (np - 0 + 1) 0 wo1 eo1 co1 bo1 (by omega) (fc_3_0 c_62 hf2) hcb1 (Nat.lt_succ_self _) _ _ hP hD hS ls (lv_sub hl [1, 0] rfl)
            · have hlj := hli i c_62
              refine lv_aload_n hx hb d_D_findCosts_65 rfl (lv_at hl 0 rfl) ?_
              refine lv_aload_n hx hb d_D_findCosts_66 rfl (lv_at hl 0 rfl) ?_
              refine va_get (D := (dC, dI)) (ci := 5) (v := .ref xA) (C := R_D) (T := F_D) (N := 34) hx hb hts iD hown hK hP 0 rfl rfl 17 (by decide) (hts _ (List.mem_cons_of_mem _ wk_D_41)) (fun _ h9 => h9) rfl d_D_findCosts_67 ?_
              refine lv_iload_n hx hb d_D_findCosts_70 rfl (lv_at hl 1 rfl) ?_
              refine nr_iald hx hb hK hP 8 0 rfl rfl (by omega) (by decide) d_D_findCosts_71 ?_
              refine rw_Vv (wr := [cg_N xA cI 10 li1, cg_O cA cI 110 co1, cg_O zA cI 10 bo1]) [0, 1, 2, 3, 4, 5, 6, 7] [8, 9, 10] rfl rfl (by decide) (As := [.int (nI (li1 i))]) (rest := []) ⟨hx, hb, hml, hown, hts⟩ (c_D_findTo l dC dI cI cL cZ dm th np ne fi kp iA tA oA uA wA sA eA vA yA lA ll mn1 xA cA zA pA bA fA gA bw bs ps qA rA aA kA lt wt fx ib oe ot wg ie wo1 eo1 (li1 i) (by omega) (by omega) (by omega) (fun i h => ⟨Nat.lt_of_lt_of_le (hE i h).1 hnp, Nat.lt_of_lt_of_le (hE i h).2 hnp⟩) hdf hhv) (cwV 1 hts (wg_V wk_D_123 wm_D_findTo we_D_findTo wi_D wc_D_findTo) rfl rfl rfl (by decide +kernel) ⟨Nat.le_of_ble_eq_true rfl, Nat.le_of_ble_eq_true rfl⟩) hK (hP.sub [0, 1, 2, 3, 4, 5, 6, 7] rfl) ((hD.sub [0, 1, 2, 3, 4, 5, 6, 7] (by decide) rfl).weaken (fun _ _ _ _ => trivial)) (q0 := 0) rfl rfl rfl rfl hl.1 rfl (lv_room (Nat.le_of_ble_eq_true rfl)) d_D_findCosts_72 ⟨Nat.zero_le _, Nat.zero_le _⟩ hS hP hD (fun u H locs hw_8 hP hS => ?_)
              obtain ⟨wo9_5, eo9_6⟩ := u
              have hP : va_P (dC, dI) classes [cg_D dm th np ne fi kp iA tA oA uA wA sA eA vA yA lA ll mn1 xA cA zA pA bA fA gA bw bs ps qA rA aA kA lt wt fx, cg_B iA cZ 20 ib, cg_N oA cI 60 oe, cg_N uA cI 60 ot, cg_N wA cI 60 wg, cg_B eA cZ 60 ie, cg_O vA cI 20 wo9_5, cg_O yA cI 20 eo9_6, cg_N xA cI 10 li1, cg_O cA cI 110 co1, cg_O zA cI 10 bo1] H := hP.sub [3, 4, 5, 6, 7, 8, 9, 10, 0, 1, 2] rfl
              have hD : va_D A [cg_D dm th np ne fi kp iA tA oA uA wA sA eA vA yA lA ll mn1 xA cA zA pA bA fA gA bw bs ps qA rA aA kA lt wt fx, cg_B iA cZ 20 ib, cg_N oA cI 60 oe, cg_N uA cI 60 ot, cg_N wA cI 60 wg, cg_B eA cZ 60 ie, cg_O vA cI 20 wo9_5, cg_O yA cI 20 eo9_6, cg_N xA cI 10 li1, cg_O cA cI 110 co1, cg_O zA cI 10 bo1] := rw_re hD rfl
              try dsimp only at hw_8
              have hT := hw_8
              have hwt := ng_T_wt hnp hlj hE hhv (fun _ _ => rfl) (fun _ _ => rfl) hT hDD
              have hwb : ∀ a w, a < np → wo9_5 a = some w → w ≤ 19000000 := fun a w ha hw => by obtain ⟨n, h1, h2, h3, -⟩ := ng_V_get hT.1 (show a < 20 by omega) hw; omega
              refine lv_iconst (v := nI 0) hx hb d_D_findCosts_75 (by decide) ?_
              refine lv_istore_n (lv' := [(2, .int (nI 0)), (0, .ref dm), (1, .int (nI i))]) hx hb d_D_findCosts_76 rfl hl (by decide) rfl (fun ls hl => ?_)
              have lp_77 : ∀ (n : Nat) (i2 : Nat) (co1 : Nat → Option Nat), (i2 ≤ mn1) → (fc_2 (fun a b => ng_wt D0 (li1 a) (li1 b)) mn1 co1 bo1 i i2) → (ng_cob co1) → mn1 - i2 < n → ∀ (H : Heap) (locs : List Loc), va_P (dC, dI) classes [cg_D dm th np ne fi kp iA tA oA uA wA sA eA vA yA lA ll mn1 xA cA zA pA bA fA gA bw bs ps qA rA aA kA lt wt fx, cg_B iA cZ 20 ib, cg_N oA cI 60 oe, cg_N uA cI 60 ot, cg_N wA cI 60 wg, cg_B eA cZ 60 ie, cg_O vA cI 20 wo9_5, cg_O yA cI 20 eo9_6, cg_N xA cI 10 li1, cg_O cA cI 110 co1, cg_O zA cI 10 bo1] H → va_D A [cg_D dm th np ne fi kp iA tA oA uA wA sA eA vA yA lA ll mn1 xA cA zA pA bA fA gA bw bs ps qA rA aA kA lt wt fx, cg_B iA cZ 20 ib, cg_N oA cI 60 oe, cg_N uA cI 60 ot, cg_N wA cI 60 wg, cg_B eA cZ 60 ie, cg_O vA cI 20 wo9_5, cg_O yA cI 20 eo9_6, cg_N xA cI 10 li1, cg_O cA cI 110 co1, cg_O zA cI 10 bo1] → va_S A s.heap H locs → ∀ (ls : Array Slot), lv_has ls 4 [(0, .ref dm), (1, .int (nI i)), (2, .int (nI i2))] → W p l e (headSpec w_D_findCosts ({ frames := 3, cells := 0, slots := 0, locals := 73 } : Room)).room s m ([.ref dm] : List Value).toArray below meth c H locs 0 0 (MQ below (rw_Qv (dC, dI) classes A (fun (u : (Nat → Option Nat) × (Nat → Option Nat) × (Nat → Nat) × (Nat → Option Nat) × (Nat → Option Nat)) => (∀ i, i < (ng_rw fi np).length → (ng_rw fi np)[i]? = some (u.2.2.1 i)) ∧ fc_3 (fun a b => ng_wt D0 (u.2.2.1 a) (u.2.2.1 b)) ib D0 u.2.2.1 (ng_rw fi np).length u.2.2.2.1 u.2.2.2.2 np 0 ∧ ng_cob u.2.2.2.1) (fun u => [cg_D dm th np ne fi kp iA tA oA uA wA sA eA vA yA lA ll ((ng_rw fi np).length) xA cA zA pA bA fA gA bw bs ps qA rA aA kA lt wt fx, cg_B iA cZ 20 ib, cg_N oA cI 60 oe, cg_N uA cI 60 ot, cg_N wA cI 60 wg, cg_B eA cZ 60 ie, cg_O vA cI 20 u.1, cg_O yA cI 20 u.2.1, cg_N xA cI 10 u.2.2.1, cg_O cA cI 110 u.2.2.2.1, cg_O zA cI 10 u.2.2.2.2])) ([.ref dm] : List Value).toArray s 0 0 A) (F0 m 77 ls []) := by
                intro n
                induction n with
                | zero => intro i2 co1 hi3 hf3 hcb1 hme; exact absurd hme (Nat.not_lt_zero _)
                | succ n ih =>
                  intro i2 co1 hi3 hf3 hcb1 hme H locs hP hD hS ls hl
                  have ih_77 := ih
                  refine lv_iload_n hx hb d_D_findCosts_77 rfl (lv_at hl 2 rfl) ?_
                  refine lv_aload_n hx hb d_D_findCosts_78 rfl (lv_at hl 0 rfl) ?_
                  refine va_get (D := (dC, dI)) (ci := 5) (v := .int (nI mn1)) (C := R_D) (T := F_D) (N := 34) hx hb hts iD hown hK hP 0 rfl rfl 16 (by decide) (hts _ (List.mem_cons_of_mem _ wk_D_136)) (fun _ h9 => h9) rfl d_D_findCosts_79 ?_
                  refine nr_icmp_ge (by omega) (by omega) (tgt := 113) hx hb d_D_findCosts_82 (by decide) (fun c_82 => ?_) (fun c_82 => ?_)
                  · refine lv_aload_n hx hb d_D_findCosts_113 rfl (lv_at hl 0 rfl) ?_
                    refine va_get (D := (dC, dI)) (ci := 5) (v := .ref cA) (C := R_D) (T := F_D) (N := 34) hx hb hts iD hown hK hP 0 rfl rfl 18 (by decide) (hts _ (List.mem_cons_of_mem _ wk_D_44)) (fun _ h9 => h9) rfl d_D_findCosts_114 ?_
                    refine lv_bipush (v := nI 11) hx hb d_D_findCosts_117 (by decide) ?_
                    refine lv_iload_n hx hb d_D_findCosts_119 rfl (lv_at hl 1 rfl) ?_
                    refine nr_imul hx hb d_D_findCosts_120 ?_
                    refine lv_bipush (v := nI 10) hx hb d_D_findCosts_121 (by decide) ?_
                    refine nr_iadd hx hb d_D_findCosts_123 ?_
                    refine lv_iconst (v := -1) hx hb d_D_findCosts_124 (by decide) ?_
                    refine nr_oast (x := none) hx hb hK hP hD hS 9 0 rfl rfl (by omega) (by decide) d_D_findCosts_125 (fun H locs hP hD hS => ?_)
                    have hP : va_P (dC, dI) classes [cg_D dm th np ne fi kp iA tA oA uA wA sA eA vA yA lA ll mn1 xA cA zA pA bA fA gA bw bs ps qA rA aA kA lt wt fx, cg_B iA cZ 20 ib, cg_N oA cI 60 oe, cg_N uA cI 60 ot, cg_N wA cI 60 wg, cg_B eA cZ 60 ie, cg_O vA cI 20 wo9_5, cg_O yA cI 20 eo9_6, cg_N xA cI 10 li1, cg_O cA cI 110 (va_up co1 ((11 * i) + 10) none), cg_O zA cI 10 bo1] H := hP
                    have hD : va_D A [cg_D dm th np ne fi kp iA tA oA uA wA sA eA vA yA lA ll mn1 xA cA zA pA bA fA gA bw bs ps qA rA aA kA lt wt fx, cg_B iA cZ 20 ib, cg_N oA cI 60 oe, cg_N uA cI 60 ot, cg_N wA cI 60 wg, cg_B eA cZ 60 ie, cg_O vA cI 20 wo9_5, cg_O yA cI 20 eo9_6, cg_N xA cI 10 li1, cg_O cA cI 110 (va_up co1 ((11 * i) + 10) none), cg_O zA cI 10 bo1] := hD
                    refine lv_aload_n hx hb d_D_findCosts_126 rfl (lv_at hl 0 rfl) ?_
                    refine va_get (D := (dC, dI)) (ci := 5) (v := .ref zA) (C := R_D) (T := F_D) (N := 34) hx hb hts iD hown hK hP 0 rfl rfl 19 (by decide) (hts _ (List.mem_cons_of_mem _ wk_D_47)) (fun _ h9 => h9) rfl d_D_findCosts_127 ?_
                    refine lv_iload_n hx hb d_D_findCosts_130 rfl (lv_at hl 1 rfl) ?_
                    refine lv_iconst (v := -1) hx hb d_D_findCosts_131 (by decide) ?_
                    refine nr_oast (x := none) hx hb hK hP hD hS 10 0 rfl rfl (by omega) (by decide) d_D_findCosts_132 (fun H locs hP hD hS => ?_)
                    have hP : va_P (dC, dI) classes [cg_D dm th np ne fi kp iA tA oA uA wA sA eA vA yA lA ll mn1 xA cA zA pA bA fA gA bw bs ps qA rA aA kA lt wt fx, cg_B iA cZ 20 ib, cg_N oA cI 60 oe, cg_N uA cI 60 ot, cg_N wA cI 60 wg, cg_B eA cZ 60 ie, cg_O vA cI 20 wo9_5, cg_O yA cI 20 eo9_6, cg_N xA cI 10 li1, cg_O cA cI 110 (va_up co1 ((11 * i) + 10) none), cg_O zA cI 10 (va_up bo1 i none)] H := hP
                    have hD : va_D A [cg_D dm th np ne fi kp iA tA oA uA wA sA eA vA yA lA ll mn1 xA cA zA pA bA fA gA bw bs ps qA rA aA kA lt wt fx, cg_B iA cZ 20 ib, cg_N oA cI 60 oe, cg_N uA cI 60 ot, cg_N wA cI 60 wg, cg_B eA cZ 60 ie, cg_O vA cI 20 wo9_5, cg_O yA cI 20 eo9_6, cg_N xA cI 10 li1, cg_O cA cI 110 (va_up co1 ((11 * i) + 10) none), cg_O zA cI 10 (va_up bo1 i none)] := hD
                    refine lv_iinc (v := (nI (i + 1))) (lv' := [(1, .int (nI (i + 1))), (0, .ref dm), (2, .int (nI i2))]) hx hb d_D_findCosts_133 hl (k := 1) rfl (nI_1 i) (by decide) rfl (fun ls hl => ?_)
                    refine lv_goto (tgt := 57) hx hb d_D_findCosts_136 (by decide) ?_
                    exact ih_57 (i + 1) wo9_5 eo9_6 (va_up co1 ((11 * i) + 10) none) (va_up bo1 i none) (by omega) (fc_2_out hm10 c_62 c_82 hf3) (ng_cob_up hcb1 (fun _ q => by cases q)) (by omega) _ _ hP hD hS ls (lv_sub hl [1, 0] rfl)
                  · have hl2 := hli i2 c_82
                    refine lv_aload_n hx hb d_D_findCosts_85 rfl (lv_at hl 0 rfl) ?_
                    refine va_get (D := (dC, dI)) (ci := 5) (v := .ref cA) (C := R_D) (T := F_D) (N := 34) hx hb hts iD hown hK hP 0 rfl rfl 18 (by decide) (hts _ (List.mem_cons_of_mem _ wk_D_44)) (fun _ h9 => h9) rfl d_D_findCosts_86 ?_
                    refine lv_bipush (v := nI 11) hx hb d_D_findCosts_89 (by decide) ?_
                    refine lv_iload_n hx hb d_D_findCosts_91 rfl (lv_at hl 2 rfl) ?_
                    refine nr_imul hx hb d_D_findCosts_92 ?_
                    refine lv_iload_n hx hb d_D_findCosts_93 rfl (lv_at hl 1 rfl) ?_
                    refine nr_iadd hx hb d_D_findCosts_94 ?_
                    refine lv_aload_n hx hb d_D_findCosts_95 rfl (lv_at hl 0 rfl) ?_
                    refine va_get (D := (dC, dI)) (ci := 5) (v := .ref vA) (C := R_D) (T := F_D) (N := 34) hx hb hts iD hown hK hP 0 rfl rfl 12 (by decide) (hts _ (List.mem_cons_of_mem _ wk_D_32)) (fun _ h9 => h9) rfl d_D_findCosts_96 ?_
                    refine lv_aload_n hx hb d_D_findCosts_99 rfl (lv_at hl 0 rfl) ?_
                    refine va_get (D := (dC, dI)) (ci := 5) (v := .ref xA) (C := R_D) (T := F_D) (N := 34) hx hb hts iD hown hK hP 0 rfl rfl 17 (by decide) (hts _ (List.mem_cons_of_mem _ wk_D_41)) (fun _ h9 => h9) rfl d_D_findCosts_100 ?_
                    refine lv_iload_n hx hb d_D_findCosts_103 rfl (lv_at hl 2 rfl) ?_
                    refine nr_iald hx hb hK hP 8 0 rfl rfl (by omega) (by decide) d_D_findCosts_104 ?_
                    refine nr_oald hx hb hK hP 6 0 rfl rfl (by omega) (by decide) d_D_findCosts_105 ?_
                    rw [hwt (li1 i2) (hli i2 c_82)]
                    refine nr_oast (x := (ng_wt D0 (li1 i2) (li1 i))) hx hb hK hP hD hS 9 0 rfl rfl (by omega) (by decide) d_D_findCosts_106 (fun H locs hP hD hS => ?_)
                    have hP : va_P (dC, dI) classes [cg_D dm th np ne fi kp iA tA oA uA wA sA eA vA yA lA ll mn1 xA cA zA pA bA fA gA bw bs ps qA rA aA kA lt wt fx, cg_B iA cZ 20 ib, cg_N oA cI 60 oe, cg_N uA cI 60 ot, cg_N wA cI 60 wg, cg_B eA cZ 60 ie, cg_O vA cI 20 wo9_5, cg_O yA cI 20 eo9_6, cg_N xA cI 10 li1, cg_O cA cI 110 (va_up co1 ((11 * i2) + i) (ng_wt D0 (li1 i2) (li1 i))), cg_O zA cI 10 bo1] H := hP
                    have hD : va_D A [cg_D dm th np ne fi kp iA tA oA uA wA sA eA vA yA lA ll mn1 xA cA zA pA bA fA gA bw bs ps qA rA aA kA lt wt fx, cg_B iA cZ 20 ib, cg_N oA cI 60 oe, cg_N uA cI 60 ot, cg_N wA cI 60 wg, cg_B eA cZ 60 ie, cg_O vA cI 20 wo9_5, cg_O yA cI 20 eo9_6, cg_N xA cI 10 li1, cg_O cA cI 110 (va_up co1 ((11 * i2) + i) (ng_wt D0 (li1 i2) (li1 i))), cg_O zA cI 10 bo1] := hD
                    refine lv_iinc (v := (nI (i2 + 1))) (lv' := [(2, .int (nI (i2 + 1))), (0, .ref dm), (1, .int (nI i))]) hx hb d_D_findCosts_107 hl (k := 2) rfl (nI_1 i2) (by decide) rfl (fun ls hl => ?_)
                    refine lv_goto (tgt := 77) hx hb d_D_findCosts_110 (by decide) ?_
                    exact ih_77 (i2 + 1) (va_up co1 ((11 * i2) + i) (ng_wt D0 (li1 i2) (li1 i))) (by omega) (fc_2_in hm10 c_82 c_62 hf3) (ng_cob_up hcb1 (fun c h => hwb _ _ hl2 ((hwt _ hl2).trans h))) (by omega) _ _ hP hD hS ls (lv_sub hl [1, 2, 0] rfl)
              exact lp_77 (mn1 - 0 + 1) 0 co1 (by omega) hf2 hcb1 (Nat.lt_succ_self _) _ _ hP hD hS ls (lv_sub hl [1, 2, 0] rfl)
        exact lp_57 (mn1 - 0 + 1) 0 wo eo co bo (by omega) ⟨fun a b _ _ h => absurd h (by omega), fun b h => absurd h (Nat.not_lt_zero _)⟩ hcb (Nat.lt_succ_self _) _ _ hP hD hS ls (lv_sub hl [1, 0] rfl)
      · have hmo := ng_rw_mono (fi := fi) (show i + 1 ≤ np by omega)
        refine lv_aload_n hx hb d_D_findCosts_15 rfl (lv_at hl 0 rfl) ?_
        refine va_get (D := (dC, dI)) (ci := 5) (v := .int fi) (C := R_D) (T := F_D) (N := 34) hx hb hts iD hown hK hP 0 rfl rfl 3 (by decide) (hts _ (List.mem_cons_of_mem _ wk_D_110)) (fun _ h9 => h9) rfl d_D_findCosts_16 ?_
        refine lv_iload_n hx hb d_D_findCosts_19 rfl (lv_at hl 1 rfl) ?_
        refine lv_ishr hx hb d_D_findCosts_20 ?_
        refine lv_iconst (v := nI 1) hx hb d_D_findCosts_21 (by decide) ?_
        refine lv_iand hx hb d_D_findCosts_22 ?_
        refine nr_as (v := nb_i (nb_t fi i)) (nb_bt_and1 (by omega)) ?_
        refine nr_ifneB (tgt := 29) hx hb d_D_findCosts_23 (by decide) (fun c_23 => ?_) (fun c_23 => ?_)
        · have e8 := ng_rw_t c_23
          have hrl2 : mn1 + 1 = (ng_rw fi (i + 1)).length := by rw [e8, List.length_append]; simp; exact hrl
          have h12 := ng_row1 hrl e8 h1
          refine lv_aload_n hx hb d_D_findCosts_29 rfl (lv_at hl 0 rfl) ?_
          refine va_get (D := (dC, dI)) (ci := 5) (v := .ref xA) (C := R_D) (T := F_D) (N := 34) hx hb hts iD hown hK hP 0 rfl rfl 17 (by decide) (hts _ (List.mem_cons_of_mem _ wk_D_41)) (fun _ h9 => h9) rfl d_D_findCosts_30 ?_
          refine lv_aload_n hx hb d_D_findCosts_33 rfl (lv_at hl 0 rfl) ?_
          refine va_get (D := (dC, dI)) (ci := 5) (v := .int (nI mn1)) (C := R_D) (T := F_D) (N := 34) hx hb hts iD hown hK hP 0 rfl rfl 16 (by decide) (hts _ (List.mem_cons_of_mem _ wk_D_136)) (fun _ h9 => h9) rfl d_D_findCosts_34 ?_
          refine lv_iload_n hx hb d_D_findCosts_37 rfl (lv_at hl 1 rfl) ?_
          refine nr_iast hx hb hK hP hD hS 8 0 rfl rfl (by omega) (by decide) d_D_findCosts_38 (fun H locs hP hD hS => ?_)
          have hP : va_P (dC, dI) classes [cg_D dm th np ne fi kp iA tA oA uA wA sA eA vA yA lA ll mn1 xA cA zA pA bA fA gA bw bs ps qA rA aA kA lt wt fx, cg_B iA cZ 20 ib, cg_N oA cI 60 oe, cg_N uA cI 60 ot, cg_N wA cI 60 wg, cg_B eA cZ 60 ie, cg_O vA cI 20 wo, cg_O yA cI 20 eo, cg_N xA cI 10 (va_up li1 mn1 i), cg_O cA cI 110 co, cg_O zA cI 10 bo] H := hP
          have hD : va_D A [cg_D dm th np ne fi kp iA tA oA uA wA sA eA vA yA lA ll mn1 xA cA zA pA bA fA gA bw bs ps qA rA aA kA lt wt fx, cg_B iA cZ 20 ib, cg_N oA cI 60 oe, cg_N uA cI 60 ot, cg_N wA cI 60 wg, cg_B eA cZ 60 ie, cg_O vA cI 20 wo, cg_O yA cI 20 eo, cg_N xA cI 10 (va_up li1 mn1 i), cg_O cA cI 110 co, cg_O zA cI 10 bo] := hD
          refine lv_aload_n hx hb d_D_findCosts_39 rfl (lv_at hl 0 rfl) ?_
          refine lv_dup hx hb d_D_findCosts_40 rfl ?_
          refine va_get (D := (dC, dI)) (ci := 5) (v := .int (nI mn1)) (C := R_D) (T := F_D) (N := 34) hx hb hts iD hown hK hP 0 rfl rfl 16 (by decide) (hts _ (List.mem_cons_of_mem _ wk_D_136)) (fun _ h9 => h9) rfl d_D_findCosts_41 ?_
          refine lv_iconst (v := nI 1) hx hb d_D_findCosts_44 (by decide) ?_
          refine nr_iadd hx hb d_D_findCosts_45 ?_
          refine va_put (D := (dC, dI)) (ci := 5) (v := .int (nI (mn1 + 1))) (ty := .int) (C := R_D) (T := F_D) (N := 34) hx hb hts iD t_D t_D_ok n_D hown hK hP hD hS 0 rfl rfl 16 (by decide) (hts _ (List.mem_cons_of_mem _ wk_D_136)) (fun _ h9 => h9) rfl (by decide +kernel) rfl rfl (Nat.le_of_ble_eq_true rfl) d_D_findCosts_46 (fun H locs hP hD hS => ?_)
          have hP : va_P (dC, dI) classes [cg_D dm th np ne fi kp iA tA oA uA wA sA eA vA yA lA ll (mn1 + 1) xA cA zA pA bA fA gA bw bs ps qA rA aA kA lt wt fx, cg_B iA cZ 20 ib, cg_N oA cI 60 oe, cg_N uA cI 60 ot, cg_N wA cI 60 wg, cg_B eA cZ 60 ie, cg_O vA cI 20 wo, cg_O yA cI 20 eo, cg_N xA cI 10 (va_up li1 mn1 i), cg_O cA cI 110 co, cg_O zA cI 10 bo] H := hP
          have hD : va_D A [cg_D dm th np ne fi kp iA tA oA uA wA sA eA vA yA lA ll (mn1 + 1) xA cA zA pA bA fA gA bw bs ps qA rA aA kA lt wt fx, cg_B iA cZ 20 ib, cg_N oA cI 60 oe, cg_N uA cI 60 ot, cg_N wA cI 60 wg, cg_B eA cZ 60 ie, cg_O vA cI 20 wo, cg_O yA cI 20 eo, cg_N xA cI 10 (va_up li1 mn1 i), cg_O cA cI 110 co, cg_O zA cI 10 bo] := hD
          refine lv_iinc (v := (nI (i + 1))) (lv' := [(1, .int (nI (i + 1))), (0, .ref dm)]) hx hb d_D_findCosts_49 hl (k := 1) rfl (nI_1 i) (by decide) rfl (fun ls hl => ?_)
          refine lv_goto (tgt := 7) hx hb d_D_findCosts_52 (by decide) ?_
          exact ih_7 (i + 1) (mn1 + 1) (va_up li1 mn1 i) (by omega) hrl2 h12 (by omega) _ _ hP hD hS ls (lv_sub hl [1, 0] rfl)
        · have e8 := ng_rw_f c_23
          have hrl2 : mn1 = (ng_rw fi (i + 1)).length := by rw [e8]; exact hrl
          have h12 : ∀ j, j < mn1 → (ng_rw fi (i + 1))[j]? = some (li1 j) := by rw [e8]; exact h1
          refine lv_goto (tgt := 49) hx hb d_D_findCosts_26 (by decide) ?_
          refine lv_iinc (v := (nI (i + 1))) (lv' := [(1, .int (nI (i + 1))), (0, .ref dm)]) hx hb d_D_findCosts_49 hl (k := 1) rfl (nI_1 i) (by decide) rfl (fun ls hl => ?_)
          refine lv_goto (tgt := 7) hx hb d_D_findCosts_52 (by decide) ?_
          exact ih_7 (i + 1) mn1 li1 (by omega) hrl2 h12 (by omega) _ _ hP hD hS ls (lv_sub hl [1, 0] rfl)
  exact lp_7 (np - 0 + 1) 0 0 li (by omega) rfl (fun j h => absurd h (Nat.not_lt_zero _)) (Nat.lt_succ_self _) _ _ hP hD hS ls (lv_sub hl [1, 0] rfl)
