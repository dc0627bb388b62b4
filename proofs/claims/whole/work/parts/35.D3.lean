set_option maxHeartbeats 4000000 in
set_option maxRecDepth 100000 in
theorem c_D_findTo (l : Launch) (dC : Nat → ClassId) (dI : Nat → Nat → Nat) (cI cL cZ : ClassId) (dm : Nat) (th : Nat) (np : Nat) (ne : Nat) (fi : Int32) (kp : Int64) (iA : Nat) (tA : Nat) (oA : Nat) (uA : Nat) (wA : Nat) (sA : Nat) (eA : Nat) (vA : Nat) (yA : Nat) (lA : Nat) (ll : Nat) (mn : Nat) (xA : Nat) (cA : Nat) (zA : Nat) (pA : Nat) (bA : Nat) (fA : Nat) (gA : Nat) (bw : Nat) (bs : Nat) (ps : Nat) (qA : Nat) (rA : Nat) (aA : Nat) (kA : Nat) (lt : Nat) (wt : Nat) (fx : Int64) (ib : Nat → Bool) (oe ot wg : Nat → Nat) (ie : Nat → Bool) (wo eo : Nat → Option Nat) (z : Nat) (hnp : np ≤ 20) (hne : ne ≤ 60) (hz : z < 20) (hE : ∀ i, i < ne → oe i < 20 ∧ ot i < 20) (hdf : ∀ i, i < ne → oe i ≠ ot i) (hhv : ∀ i, i < ne → ng_hv ie wg i ≤ 1000000) : Met l y_D_findTo w_D_findTo ({ frames := 2, cells := 0, slots := 0, locals := 48 } : Room) (va_Pc [.ref dm, .int (nI z)] (rw_B (dC, dI) classes [(cI, .int), (cL, .long), (cZ, .boolean)] [cg_D dm th np ne fi kp iA tA oA uA wA sA eA vA yA lA ll mn xA cA zA pA bA fA gA bw bs ps qA rA aA kA lt wt fx, cg_B iA cZ 20 ib, cg_N oA cI 60 oe, cg_N uA cI 60 ot, cg_N wA cI 60 wg, cg_B eA cZ 60 ie, cg_O vA cI 20 wo, cg_O yA cI 20 eo])) (rw_Qv (dC, dI) classes (rw_A [cg_D dm th np ne fi kp iA tA oA uA wA sA eA vA yA lA ll mn xA cA zA pA bA fA gA bw bs ps qA rA aA kA lt wt fx, cg_B iA cZ 20 ib, cg_N oA cI 60 oe, cg_N uA cI 60 ot, cg_N wA cI 60 wg, cg_B eA cZ 60 ie, cg_O vA cI 20 wo, cg_O yA cI 20 eo]) (fun (u : (Nat → Option Nat) × (Nat → Option Nat)) => ng_T ne z ib oe ot (ng_hv ie wg) u.1 u.2) (fun u => [cg_D dm th np ne fi kp iA tA oA uA wA sA eA vA yA lA ll mn xA cA zA pA bA fA gA bw bs ps qA rA aA kA lt wt fx, cg_B iA cZ 20 ib, cg_N oA cI 60 oe, cg_N uA cI 60 ot, cg_N wA cI 60 wg, cg_B eA cZ 60 ie, cg_O vA cI 20 u.1, cg_O yA cI 20 u.2])) 0 0 (rw_A [cg_D dm th np ne fi kp iA tA oA uA wA sA eA vA yA lA ll mn xA cA zA pA bA fA gA bw bs ps qA rA aA kA lt wt fx, cg_B iA cZ 20 ib, cg_N oA cI 60 oe, cg_N uA cI 60 ot, cg_N wA cI 60 wg, cg_B eA cZ 60 ie, cg_O vA cI 20 wo, cg_O yA cI 20 eo]) := by
  refine Met.ofW (cc := b_D_findTo) (maxL := 6) (ret := none) (by decide) rfl ?_
  intro p e s m args below meth c s₁ B hml hv
  obtain ⟨rfl, hP, hK, hD0⟩ := hv
  have hx := B.exec
  have hb := B.bytes
  have hr := B.returns
  have hts := atoms_spec (ws := w_D_findTo) B.pre
  have hown : s.vm.findClass R_D = some m.cls := findClass_of_methodNamed B.named
  have hlocks := B.notSynchronized
  have iD : ∀ w ∈ w_D, w ∈ w_D_findTo := fun w h => List.mem_cons_of_mem _ (i_D w h)
  have hD := rw_own hD0
  generalize hAe : rw_A [cg_D dm th np ne fi kp iA tA oA uA wA sA eA vA yA lA ll mn xA cA zA pA bA fA gA bw bs ps qA rA aA kA lt wt fx, cg_B iA cZ 20 ib, cg_N oA cI 60 oe, cg_N uA cI 60 ot, cg_N wA cI 60 wg, cg_B eA cZ 60 ie, cg_O vA cI 20 wo, cg_O yA cI 20 eo] = A at hD ⊢
  have hS : va_S A s.heap s.heap [] := va_S.rf
  have hP : va_P (dC, dI) classes [cg_D dm th np ne fi kp iA tA oA uA wA sA eA vA yA lA ll mn xA cA zA pA bA fA gA bw bs ps qA rA aA kA lt wt fx, cg_B iA cZ 20 ib, cg_N oA cI 60 oe, cg_N uA cI 60 ot, cg_N wA cI 60 wg, cg_B eA cZ 60 ie, cg_O vA cI 20 wo, cg_O yA cI 20 eo] s.heap := hP
  have hl := lv_entry ([.ref dm, .int (nI z)]) (n := 6) (Nat.le_of_ble_eq_true rfl)
  rw [lg_entry_eq]
  generalize (lg_sl ([.ref dm, .int (nI z)]) ++ List.replicate (6 - (lg_sl ([.ref dm, .int (nI z)])).length) Slot.unset).toArray = ls at hl ⊢
  have hl : lv_has ls 6 [(0, .ref dm), (1, .int (nI z))] := hl
  refine lv_iconst (v := nI 0) hx hb d_D_findTo_0 (by decide) ?_
  refine lv_istore_n (lv' := [(2, .int (nI 0)), (0, .ref dm), (1, .int (nI z))]) hx hb d_D_findTo_1 rfl hl (by decide) rfl (fun ls hl => ?_)
  have lp_2 : ∀ (n : Nat) (i : Nat) (wo1 eo1 : Nat → Option Nat), (i ≤ 20) → (∀ p, p < i → wo1 p = none ∧ eo1 p = none) → 20 - i < n → ∀ (H : Heap) (locs : List Loc), va_P (dC, dI) classes [cg_D dm th np ne fi kp iA tA oA uA wA sA eA vA yA lA ll mn xA cA zA pA bA fA gA bw bs ps qA rA aA kA lt wt fx, cg_B iA cZ 20 ib, cg_N oA cI 60 oe, cg_N uA cI 60 ot, cg_N wA cI 60 wg, cg_B eA cZ 60 ie, cg_O vA cI 20 wo1, cg_O yA cI 20 eo1] H → va_D A [cg_D dm th np ne fi kp iA tA oA uA wA sA eA vA yA lA ll mn xA cA zA pA bA fA gA bw bs ps qA rA aA kA lt wt fx, cg_B iA cZ 20 ib, cg_N oA cI 60 oe, cg_N uA cI 60 ot, cg_N wA cI 60 wg, cg_B eA cZ 60 ie, cg_O vA cI 20 wo1, cg_O yA cI 20 eo1] → va_S A s.heap H locs → ∀ (ls : Array Slot), lv_has ls 6 [(0, .ref dm), (1, .int (nI z)), (2, .int (nI i))] → W p l e (headSpec w_D_findTo ({ frames := 2, cells := 0, slots := 0, locals := 48 } : Room)).room s m ([.ref dm, .int (nI z)] : List Value).toArray below meth c H locs 0 0 (MQ below (rw_Qv (dC, dI) classes A (fun (u : (Nat → Option Nat) × (Nat → Option Nat)) => ng_T ne z ib oe ot (ng_hv ie wg) u.1 u.2) (fun u => [cg_D dm th np ne fi kp iA tA oA uA wA sA eA vA yA lA ll mn xA cA zA pA bA fA gA bw bs ps qA rA aA kA lt wt fx, cg_B iA cZ 20 ib, cg_N oA cI 60 oe, cg_N uA cI 60 ot, cg_N wA cI 60 wg, cg_B eA cZ 60 ie, cg_O vA cI 20 u.1, cg_O yA cI 20 u.2])) ([.ref dm, .int (nI z)] : List Value).toArray s 0 0 A) (F0 m 2 ls []) := by
    intro n
    induction n with
    | zero => intro i wo1 eo1 hi h0 hme; exact absurd hme (Nat.not_lt_zero _)
    | succ n ih =>
      intro i wo1 eo1 hi h0 hme H locs hP hD hS ls hl
      have ih_2 := ih
      refine lv_iload_n hx hb d_D_findTo_2 rfl (lv_at hl 2 rfl) ?_
      refine lv_bipush (v := nI 20) hx hb d_D_findTo_3 (by decide) ?_
      refine nr_icmp_ge (by omega) (by omega) (tgt := 28) hx hb d_D_findTo_5 (by decide) (fun c_5 => ?_) (fun c_5 => ?_)
      · have hz0 : ∀ p, p < 20 → wo1 p = none ∧ eo1 p = none := fun p hp => h0 p (by omega)
        have hv9 : ng_V ne z ib oe ot (ng_hv ie wg) (va_up wo1 z (some 0)) (va_up eo1 z (some 0)) := ng_V_0 hz hz0
        refine lv_aload_n hx hb d_D_findTo_28 rfl (lv_at hl 0 rfl) ?_
        refine va_get (D := (dC, dI)) (ci := 5) (v := .ref vA) (C := R_D) (T := F_D) (N := 34) hx hb hts iD hown hK hP 0 rfl rfl 12 (by decide) (hts _ (List.mem_cons_of_mem _ wk_D_32)) (fun _ h9 => h9) rfl d_D_findTo_29 ?_
        refine lv_iload_n hx hb d_D_findTo_32 rfl (lv_at hl 1 rfl) ?_
        refine lv_iconst (v := nI 0) hx hb d_D_findTo_33 (by decide) ?_
        refine nr_oast (x := (some 0)) hx hb hK hP hD hS 6 0 rfl rfl (by omega) (by decide) d_D_findTo_34 (fun H locs hP hD hS => ?_)
        have hP : va_P (dC, dI) classes [cg_D dm th np ne fi kp iA tA oA uA wA sA eA vA yA lA ll mn xA cA zA pA bA fA gA bw bs ps qA rA aA kA lt wt fx, cg_B iA cZ 20 ib, cg_N oA cI 60 oe, cg_N uA cI 60 ot, cg_N wA cI 60 wg, cg_B eA cZ 60 ie, cg_O vA cI 20 (va_up wo1 z (some 0)), cg_O yA cI 20 eo1] H := hP
        have hD : va_D A [cg_D dm th np ne fi kp iA tA oA uA wA sA eA vA yA lA ll mn xA cA zA pA bA fA gA bw bs ps qA rA aA kA lt wt fx, cg_B iA cZ 20 ib, cg_N oA cI 60 oe, cg_N uA cI 60 ot, cg_N wA cI 60 wg, cg_B eA cZ 60 ie, cg_O vA cI 20 (va_up wo1 z (some 0)), cg_O yA cI 20 eo1] := hD
        refine lv_aload_n hx hb d_D_findTo_35 rfl (lv_at hl 0 rfl) ?_
        refine va_get (D := (dC, dI)) (ci := 5) (v := .ref yA) (C := R_D) (T := F_D) (N := 34) hx hb hts iD hown hK hP 0 rfl rfl 13 (by decide) (hts _ (List.mem_cons_of_mem _ wk_D_35)) (fun _ h9 => h9) rfl d_D_findTo_36 ?_
        refine lv_iload_n hx hb d_D_findTo_39 rfl (lv_at hl 1 rfl) ?_
        refine lv_iconst (v := nI 0) hx hb d_D_findTo_40 (by decide) ?_
        refine nr_oast (x := (some 0)) hx hb hK hP hD hS 7 0 rfl rfl (by omega) (by decide) d_D_findTo_41 (fun H locs hP hD hS => ?_)
        have hP : va_P (dC, dI) classes [cg_D dm th np ne fi kp iA tA oA uA wA sA eA vA yA lA ll mn xA cA zA pA bA fA gA bw bs ps qA rA aA kA lt wt fx, cg_B iA cZ 20 ib, cg_N oA cI 60 oe, cg_N uA cI 60 ot, cg_N wA cI 60 wg, cg_B eA cZ 60 ie, cg_O vA cI 20 (va_up wo1 z (some 0)), cg_O yA cI 20 (va_up eo1 z (some 0))] H := hP
        have hD : va_D A [cg_D dm th np ne fi kp iA tA oA uA wA sA eA vA yA lA ll mn xA cA zA pA bA fA gA bw bs ps qA rA aA kA lt wt fx, cg_B iA cZ 20 ib, cg_N oA cI 60 oe, cg_N uA cI 60 ot, cg_N wA cI 60 wg, cg_B eA cZ 60 ie, cg_O vA cI 20 (va_up wo1 z (some 0)), cg_O yA cI 20 (va_up eo1 z (some 0))] := hD
        refine lv_iconst (v := nI 1) hx hb d_D_findTo_42 (by decide) ?_
        refine lv_istore_n (lv' := [(2, .int (nI 1)), (0, .ref dm), (1, .int (nI z))]) hx hb d_D_findTo_43 rfl hl (by decide) rfl (fun ls hl => ?_)
        have lp_44 : ∀ (n : Nat) (mo : Bool) (wo2 eo2 : Nat → Option Nat), (ng_V ne z ib oe ot (ng_hv ie wg) wo2 eo2) → (mo = false → ∀ e, e < ne → ng_rl wo2 eo2 ib (ng_hv ie wg) z e (oe e) (ot e) = none ∧ ng_rl wo2 eo2 ib (ng_hv ie wg) z e (ot e) (oe e) = none) → (if mo = true then ng_S (ng_F wo2 eo2) 20 + 1 else 0) < n → ∀ (H : Heap) (locs : List Loc), va_P (dC, dI) classes [cg_D dm th np ne fi kp iA tA oA uA wA sA eA vA yA lA ll mn xA cA zA pA bA fA gA bw bs ps qA rA aA kA lt wt fx, cg_B iA cZ 20 ib, cg_N oA cI 60 oe, cg_N uA cI 60 ot, cg_N wA cI 60 wg, cg_B eA cZ 60 ie, cg_O vA cI 20 wo2, cg_O yA cI 20 eo2] H → va_D A [cg_D dm th np ne fi kp iA tA oA uA wA sA eA vA yA lA ll mn xA cA zA pA bA fA gA bw bs ps qA rA aA kA lt wt fx, cg_B iA cZ 20 ib, cg_N oA cI 60 oe, cg_N uA cI 60 ot, cg_N wA cI 60 wg, cg_B eA cZ 60 ie, cg_O vA cI 20 wo2, cg_O yA cI 20 eo2] → va_S A s.heap H locs → ∀ (ls : Array Slot), lv_has ls 6 [(0, .ref dm), (1, .int (nI z)), (2, .int (nb_i mo))] → W p l e (headSpec w_D_findTo ({ frames := 2, cells := 0, slots := 0, locals := 48 } : Room)).room s m ([.ref dm, .int (nI z)] : List Value).toArray below meth c H locs 0 0 (MQ below (rw_Qv (dC, dI) classes A (fun (u : (Nat → Option Nat) × (Nat → Option Nat)) => ng_T ne z ib oe ot (ng_hv ie wg) u.1 u.2) (fun u => [cg_D dm th np ne fi kp iA tA oA uA wA sA eA vA yA lA ll mn xA cA zA pA bA fA gA bw bs ps qA rA aA kA lt wt fx, cg_B iA cZ 20 ib, cg_N oA cI 60 oe, cg_N uA cI 60 ot, cg_N wA cI 60 wg, cg_B eA cZ 60 ie, cg_O vA cI 20 u.1, cg_O yA cI 20 u.2])) ([.ref dm, .int (nI z)] : List Value).toArray s 0 0 A) (F0 m 44 ls []) := by
          intro n
          induction n with
          | zero => intro mo wo2 eo2 hv2 hdn hme; exact absurd hme (Nat.not_lt_zero _)
          | succ n ih =>
            intro mo wo2 eo2 hv2 hdn hme H locs hP hD hS ls hl
            have ih_44 := ih
            have hme_44 := hme
            refine lv_iload_n hx hb d_D_findTo_44 rfl (lv_at hl 2 rfl) ?_
            refine nr_ifeqB (tgt := 129) hx hb d_D_findTo_45 (by decide) (fun c_45 => ?_) (fun c_45 => ?_)
            · exact rw_vret (wo2, eo2) hx hb hr hlocks hS hP (⟨hv2, hdn c_45⟩) d_D_findTo_129
            · refine lv_iconst (v := nI 0) hx hb d_D_findTo_48 (by decide) ?_
              refine lv_istore_n (lv' := [(2, .int (nI 0)), (0, .ref dm), (1, .int (nI z))]) hx hb d_D_findTo_49 rfl hl (by decide) rfl (fun ls hl => ?_)
              refine lv_iconst (v := nI 0) hx hb d_D_findTo_50 (by decide) ?_
              refine lv_istore_n (lv' := [(3, .int (nI 0)), (2, .int (nI 0)), (0, .ref dm), (1, .int (nI z))]) hx hb d_D_findTo_51 rfl hl (by decide) rfl (fun ls hl => ?_)
              have lp_52 : ∀ (n : Nat) (i : Nat) (m1 : Bool) (wo3 eo3 : Nat → Option Nat), (i ≤ ne) → (ng_V ne z ib oe ot (ng_hv ie wg) wo3 eo3) → (ng_S (ng_F wo3 eo3) 20 ≤ ng_S (ng_F wo2 eo2) 20) → (m1 = true → ng_S (ng_F wo3 eo3) 20 < ng_S (ng_F wo2 eo2) 20) → (m1 = false → ∀ e, e < i → ng_rl wo3 eo3 ib (ng_hv ie wg) z e (oe e) (ot e) = none ∧ ng_rl wo3 eo3 ib (ng_hv ie wg) z e (ot e) (oe e) = none) → ne - i < n → ∀ (H : Heap) (locs : List Loc), va_P (dC, dI) classes [cg_D dm th np ne fi kp iA tA oA uA wA sA eA vA yA lA ll mn xA cA zA pA bA fA gA bw bs ps qA rA aA kA lt wt fx, cg_B iA cZ 20 ib, cg_N oA cI 60 oe, cg_N uA cI 60 ot, cg_N wA cI 60 wg, cg_B eA cZ 60 ie, cg_O vA cI 20 wo3, cg_O yA cI 20 eo3] H → va_D A [cg_D dm th np ne fi kp iA tA oA uA wA sA eA vA yA lA ll mn xA cA zA pA bA fA gA bw bs ps qA rA aA kA lt wt fx, cg_B iA cZ 20 ib, cg_N oA cI 60 oe, cg_N uA cI 60 ot, cg_N wA cI 60 wg, cg_B eA cZ 60 ie, cg_O vA cI 20 wo3, cg_O yA cI 20 eo3] → va_S A s.heap H locs → ∀ (ls : Array Slot), lv_has ls 6 [(0, .ref dm), (1, .int (nI z)), (2, .int (nb_i m1)), (3, .int (nI i))] → W p l e (headSpec w_D_findTo ({ frames := 2, cells := 0, slots := 0, locals := 48 } : Room)).room s m ([.ref dm, .int (nI z)] : List Value).toArray below meth c H locs 0 0 (MQ below (rw_Qv (dC, dI) classes A (fun (u : (Nat → Option Nat) × (Nat → Option Nat)) => ng_T ne z ib oe ot (ng_hv ie wg) u.1 u.2) (fun u => [cg_D dm th np ne fi kp iA tA oA uA wA sA eA vA yA lA ll mn xA cA zA pA bA fA gA bw bs ps qA rA aA kA lt wt fx, cg_B iA cZ 20 ib, cg_N oA cI 60 oe, cg_N uA cI 60 ot, cg_N wA cI 60 wg, cg_B eA cZ 60 ie, cg_O vA cI 20 u.1, cg_O yA cI 20 u.2])) ([.ref dm, .int (nI z)] : List Value).toArray s 0 0 A) (F0 m 52 ls []) := by
                intro n
                induction n with
                | zero => intro i m1 wo3 eo3 hi3 hv3 hle hmt hmf hme; exact absurd hme (Nat.not_lt_zero _)
                | succ n ih =>
                  intro i m1 wo3 eo3 hi3 hv3 hle hmt hmf hme H locs hP hD hS ls hl
                  have ih_52 := ih
                  refine lv_iload_n hx hb d_D_findTo_52 rfl (lv_at hl 3 rfl) ?_
                  refine lv_aload_n hx hb d_D_findTo_53 rfl (lv_at hl 0 rfl) ?_
                  refine va_get (D := (dC, dI)) (ci := 5) (v := .int (nI ne)) (C := R_D) (T := F_D) (N := 34) hx hb hts iD hown hK hP 0 rfl rfl 2 (by decide) (hts _ (List.mem_cons_of_mem _ wk_D_87)) (fun _ h9 => h9) rfl d_D_findTo_54 ?_
                  refine nr_icmp_ge (by omega) (by omega) (tgt := 126) hx hb d_D_findTo_57 (by decide) (fun c_57 => ?_) (fun c_57 => ?_)
                  · refine lv_goto (tgt := 44) hx hb d_D_findTo_126 (by decide) ?_
                    exact ih_44 m1 wo3 eo3 hv3 (fun q => by have := hmf q; rw [show i = ne by omega] at this; exact this) (ng_mm c_45 hme_44 hmt) _ _ hP hD hS ls (lv_sub hl [0, 1, 2] rfl)
                  · have hEi := hE i c_57
                    have hdi := hdf i c_57
                    have hhi := hhv i c_57
                    have hvN := hv3
                    refine lv_aload_n hx hb d_D_findTo_60 rfl (lv_at hl 0 rfl) ?_
                    refine lv_iload_n hx hb d_D_findTo_61 rfl (lv_at hl 3 rfl) ?_
                    refine lv_aload_n hx hb d_D_findTo_62 rfl (lv_at hl 0 rfl) ?_
                    refine va_get (D := (dC, dI)) (ci := 5) (v := .ref oA) (C := R_D) (T := F_D) (N := 34) hx hb hts iD hown hK hP 0 rfl rfl 7 (by decide) (hts _ (List.mem_cons_of_mem _ wk_D_17)) (fun _ h9 => h9) rfl d_D_findTo_63 ?_
                    refine lv_iload_n hx hb d_D_findTo_66 rfl (lv_at hl 3 rfl) ?_
                    refine nr_iald hx hb hK hP 2 0 rfl rfl (by omega) (by decide) d_D_findTo_67 ?_
                    refine lv_aload_n hx hb d_D_findTo_68 rfl (lv_at hl 0 rfl) ?_
                    refine va_get (D := (dC, dI)) (ci := 5) (v := .ref uA) (C := R_D) (T := F_D) (N := 34) hx hb hts iD hown hK hP 0 rfl rfl 8 (by decide) (hts _ (List.mem_cons_of_mem _ wk_D_20)) (fun _ h9 => h9) rfl d_D_findTo_69 ?_
                    refine lv_iload_n hx hb d_D_findTo_72 rfl (lv_at hl 3 rfl) ?_
                    refine nr_iald hx hb hK hP 3 0 rfl rfl (by omega) (by decide) d_D_findTo_73 ?_
                    refine lv_iload_n hx hb d_D_findTo_74 rfl (lv_at hl 1 rfl) ?_
                    rcases hr1 : ng_rl wo3 eo3 ib (ng_hv ie wg) z i (oe i) (ot i) with _ | ⟨w1, n1⟩
                    · have hvO := hvN
                      refine ro_Vi (As := [.int (nI i), .int (nI (oe i)), .int (nI (ot i)), .int (nI z)]) (rest := []) ⟨hx, hb, hml, hown, hts⟩ (c_D_relax_no l dC dI cI cL cZ dm th np ne fi kp iA tA oA uA wA sA eA vA yA lA ll mn xA cA zA pA bA fA gA bw bs ps qA rA aA kA lt wt fx ib wg ie wo3 eo3 i (oe i) (ot i) z (by omega) (by omega) (by omega) (by omega) (fun p w hp hw => by obtain ⟨n, h1, h2, h3, -⟩ := ng_V_get hvO hp hw; exact ⟨n, h1, h2, by omega⟩) hhi hr1) (cwV 4 hts (wg_V wk_D_120 wm_D_relax we_D_relax wi_D wc_D_relax) rfl rfl rfl (by decide +kernel) ⟨Nat.le_of_ble_eq_true rfl, Nat.le_of_ble_eq_true rfl⟩) hK (hP.sub [0, 1, 4, 5, 6, 7] rfl) (q0 := 0) rfl rfl rfl rfl hl.1 rfl (lv_room (Nat.le_of_ble_eq_true rfl)) d_D_findTo_75 ⟨Nat.zero_le _, Nat.zero_le _⟩ hS hP (fun H locs hP hS => ?_)
                      refine lv_istore (lv' := [(4, .int (nb_i false)), (0, .ref dm), (1, .int (nI z)), (2, .int (nb_i m1)), (3, .int (nI i))]) hx hb d_D_findTo_78 hl (by decide) rfl (fun ls hl => ?_)
                      refine lv_aload_n hx hb d_D_findTo_80 rfl (lv_at hl 1 rfl) ?_
                      refine lv_iload_n hx hb d_D_findTo_81 rfl (lv_at hl 4 rfl) ?_
                      refine lv_aload_n hx hb d_D_findTo_82 rfl (lv_at hl 1 rfl) ?_
                      refine va_get (D := (dC, dI)) (ci := 5) (v := .ref uA) (C := R_D) (T := F_D) (N := 34) hx hb hts iD hown hK hP 0 rfl rfl 8 (by decide) (hts _ (List.mem_cons_of_mem _ wk_D_20)) (fun _ h9 => h9) rfl d_D_findTo_83 ?_
                      refine lv_iload_n hx hb d_D_findTo_86 rfl (lv_at hl 4 rfl) ?_
                      refine nr_iald hx hb hK hP 3 0 rfl rfl (by omega) (by decide) d_D_findTo_87 ?_
                      refine lv_aload_n hx hb d_D_findTo_88 rfl (lv_at hl 1 rfl) ?_
                      refine va_get (D := (dC, dI)) (ci := 5) (v := .ref oA) (C := R_D) (T := F_D) (N := 34) hx hb hts iD hown hK hP 0 rfl rfl 7 (by decide) (hts _ (List.mem_cons_of_mem _ wk_D_17)) (fun _ h9 => h9) rfl d_D_findTo_89 ?_
                      refine lv_iload_n hx hb d_D_findTo_92 rfl (lv_at hl 4 rfl) ?_
                      refine nr_iald hx hb hK hP 2 0 rfl rfl (by omega) (by decide) d_D_findTo_93 ?_
                      refine lv_iload_n hx hb d_D_findTo_94 rfl (lv_at hl 2 rfl) ?_
                      rcases hr2 : ng_rl wo3 eo3 ib (ng_hv ie wg) z i (ot i) (oe i) with _ | ⟨w2, n2⟩
                      · have hvO := hvN
                        refine ro_Vi (As := [.int (nI i), .int (nI (ot i)), .int (nI (oe i)), .int (nI z)]) (rest := []) ⟨hx, hb, hml, hown, hts⟩ (c_D_relax_no l dC dI cI cL cZ dm th np ne fi kp iA tA oA uA wA sA eA vA yA lA ll mn xA cA zA pA bA fA gA bw bs ps qA rA aA kA lt wt fx ib wg ie wo3 eo3 i (ot i) (oe i) z (by omega) (by omega) (by omega) (by omega) (fun p w hp hw => by obtain ⟨n, h1, h2, h3, -⟩ := ng_V_get hvO hp hw; exact ⟨n, h1, h2, by omega⟩) hhi hr2) (cwV 4 hts (wg_V wk_D_120 wm_D_relax we_D_relax wi_D wc_D_relax) rfl rfl rfl (by decide +kernel) ⟨Nat.le_of_ble_eq_true rfl, Nat.le_of_ble_eq_true rfl⟩) hK (hP.sub [0, 1, 4, 5, 6, 7] rfl) (q0 := 0) rfl rfl rfl rfl hl.1 rfl (lv_room (Nat.le_of_ble_eq_true rfl)) d_D_findTo_95 ⟨Nat.zero_le _, Nat.zero_le _⟩ hS hP (fun H locs hP hS => ?_)
                        refine lv_istore (lv' := [(5, .int (nb_i false)), (4, .int (nb_i false)), (0, .ref dm), (1, .int (nI z)), (2, .int (nb_i m1)), (3, .int (nI i))]) hx hb d_D_findTo_98 hl (by decide) rfl (fun ls hl => ?_)
                        refine lv_iload_n hx hb d_D_findTo_100 rfl (lv_at hl 4 rfl) ?_
                        refine nr_ifneB (tgt := 114) hx hb d_D_findTo_101 (by decide) (fun c_101 => ?_) (fun c_101 => ?_)
                        · refine lv_iconst (v := nI 1) hx hb d_D_findTo_114 (by decide) ?_
                          refine lv_goto (tgt := 119) hx hb d_D_findTo_115 (by decide) ?_
                          refine lv_istore_n (lv' := [(2, .int (nI 1)), (5, .int (nb_i false)), (4, .int (nb_i false)), (0, .ref dm), (1, .int (nI z)), (3, .int (nI i))]) hx hb d_D_findTo_119 rfl hl (by decide) rfl (fun ls hl => ?_)
                          refine lv_iinc (v := (nI (i + 1))) (lv' := [(3, .int (nI (i + 1))), (2, .int (nI 1)), (5, .int (nb_i false)), (4, .int (nb_i false)), (0, .ref dm), (1, .int (nI z))]) hx hb d_D_findTo_120 hl (k := 5) rfl (nI_1 i) (by decide) rfl (fun ls hl => ?_)
                          refine lv_goto (tgt := 52) hx hb d_D_findTo_123 (by decide) ?_
                          exact ih_52 (i + 1) true wo3 eo3 (by omega) hvN (by omega) (fun q => by first | (cases q; done) | omega | (have := hmt c_101; omega)) (fun q => by first | (cases q; done) | exact ng_mf (hmf c_101) ⟨hr1, hr2⟩) (by omega) _ _ hP hD hS ls (lv_sub hl [4, 5, 1, 0] rfl)
                        · refine lv_iload hx hb d_D_findTo_104 (lv_at hl 1 rfl) ?_
                          refine nr_ifneB (tgt := 114) hx hb d_D_findTo_106 (by decide) (fun c => absurd c (by decide)) (fun c_106 => ?_)
                          refine lv_iload hx hb d_D_findTo_109 (lv_at hl 0 rfl) ?_
                          refine nr_ifeqB (tgt := 118) hx hb d_D_findTo_111 (by decide) (fun c_111 => ?_) (fun c => absurd c (by decide))
                          refine lv_iconst (v := nI 0) hx hb d_D_findTo_118 (by decide) ?_
                          refine lv_istore_n (lv' := [(2, .int (nI 0)), (5, .int (nb_i false)), (4, .int (nb_i false)), (0, .ref dm), (1, .int (nI z)), (3, .int (nI i))]) hx hb d_D_findTo_119 rfl hl (by decide) rfl (fun ls hl => ?_)
                          refine lv_iinc (v := (nI (i + 1))) (lv' := [(3, .int (nI (i + 1))), (2, .int (nI 0)), (5, .int (nb_i false)), (4, .int (nb_i false)), (0, .ref dm), (1, .int (nI z))]) hx hb d_D_findTo_120 hl (k := 5) rfl (nI_1 i) (by decide) rfl (fun ls hl => ?_)
                          refine lv_goto (tgt := 52) hx hb d_D_findTo_123 (by decide) ?_
                          exact ih_52 (i + 1) false wo3 eo3 (by omega) hvN (by omega) (fun q => by first | (cases q; done) | omega | (have := hmt c_101; omega)) (fun q => by first | (cases q; done) | exact ng_mf (hmf c_101) ⟨hr1, hr2⟩) (by omega) _ _ hP hD hS ls (lv_sub hl [4, 5, 1, 0] rfl)
                      · obtain ⟨hs1, hs2, wb_95, nb_95, hs3, hs4, hs5, hs6, hs7⟩ := ng_rl_s hvN (by omega) (by omega) hhi hr2
                        have hd_95 := ng_S_step (by omega) hs7
                        have hvO := hvN
                        have hvN := ng_V_step hvN (by omega) (by omega) c_57 (Or.inr ⟨rfl, rfl⟩) (fun q => hdi q.symm) hs1 hs2 hs3 hs4 hs5 hs6 hhi hs7
                        refine rw_Vi (wr := [cg_N oA cI 60 oe, cg_N uA cI 60 ot]) [0, 1, 4, 5, 6, 7] [2, 3] rfl rfl (by decide) (As := [.int (nI i), .int (nI (ot i)), .int (nI (oe i)), .int (nI z)]) (rest := []) ⟨hx, hb, hml, hown, hts⟩ (c_D_relax_ok l dC dI cI cL cZ dm th np ne fi kp iA tA oA uA wA sA eA vA yA lA ll mn xA cA zA pA bA fA gA bw bs ps qA rA aA kA lt wt fx ib wg ie wo3 eo3 i (ot i) (oe i) z w2 n2 (by omega) (by omega) (by omega) (by omega) (fun p w hp hw => by obtain ⟨n, h1, h2, h3, -⟩ := ng_V_get hvO hp hw; exact ⟨n, h1, h2, by omega⟩) hhi hr2) (cwV 4 hts (wg_V wk_D_120 wm_D_relax we_D_relax wi_D wc_D_relax) rfl rfl rfl (by decide +kernel) ⟨Nat.le_of_ble_eq_true rfl, Nat.le_of_ble_eq_true rfl⟩) hK (hP.sub [0, 1, 4, 5, 6, 7] rfl) ((hD.sub [0, 1, 4, 5, 6, 7] (by decide) rfl).weaken (fun _ _ _ _ => trivial)) (q0 := 0) rfl rfl rfl rfl hl.1 rfl (lv_room (Nat.le_of_ble_eq_true rfl)) d_D_findTo_95 ⟨Nat.zero_le _, Nat.zero_le _⟩ hS hP hD (fun r_1 u H locs hw_2 hP hS => ?_)
                        have hP : va_P (dC, dI) classes [cg_D dm th np ne fi kp iA tA oA uA wA sA eA vA yA lA ll mn xA cA zA pA bA fA gA bw bs ps qA rA aA kA lt wt fx, cg_B iA cZ 20 ib, cg_N oA cI 60 oe, cg_N uA cI 60 ot, cg_N wA cI 60 wg, cg_B eA cZ 60 ie, cg_O vA cI 20 (va_up wo3 (ot i) (some w2)), cg_O yA cI 20 (va_up eo3 (ot i) (some n2))] H := hP.sub [2, 3, 0, 1, 4, 5, 6, 7] rfl
                        have hD : va_D A [cg_D dm th np ne fi kp iA tA oA uA wA sA eA vA yA lA ll mn xA cA zA pA bA fA gA bw bs ps qA rA aA kA lt wt fx, cg_B iA cZ 20 ib, cg_N oA cI 60 oe, cg_N uA cI 60 ot, cg_N wA cI 60 wg, cg_B eA cZ 60 ie, cg_O vA cI 20 (va_up wo3 (ot i) (some w2)), cg_O yA cI 20 (va_up eo3 (ot i) (some n2))] := rw_re hD rfl
                        subst hw_2
                        refine lv_istore (lv' := [(5, .int (nb_i true)), (4, .int (nb_i false)), (0, .ref dm), (1, .int (nI z)), (2, .int (nb_i m1)), (3, .int (nI i))]) hx hb d_D_findTo_98 hl (by decide) rfl (fun ls hl => ?_)
                        refine lv_iload_n hx hb d_D_findTo_100 rfl (lv_at hl 4 rfl) ?_
                        refine nr_ifneB (tgt := 114) hx hb d_D_findTo_101 (by decide) (fun c_101 => ?_) (fun c_101 => ?_)
                        · refine lv_iconst (v := nI 1) hx hb d_D_findTo_114 (by decide) ?_
                          refine lv_goto (tgt := 119) hx hb d_D_findTo_115 (by decide) ?_
                          refine lv_istore_n (lv' := [(2, .int (nI 1)), (5, .int (nb_i true)), (4, .int (nb_i false)), (0, .ref dm), (1, .int (nI z)), (3, .int (nI i))]) hx hb d_D_findTo_119 rfl hl (by decide) rfl (fun ls hl => ?_)
                          refine lv_iinc (v := (nI (i + 1))) (lv' := [(3, .int (nI (i + 1))), (2, .int (nI 1)), (5, .int (nb_i true)), (4, .int (nb_i false)), (0, .ref dm), (1, .int (nI z))]) hx hb d_D_findTo_120 hl (k := 5) rfl (nI_1 i) (by decide) rfl (fun ls hl => ?_)
                          refine lv_goto (tgt := 52) hx hb d_D_findTo_123 (by decide) ?_
                          exact ih_52 (i + 1) true (va_up wo3 (ot i) (some w2)) (va_up eo3 (ot i) (some n2)) (by omega) hvN (by omega) (fun q => by first | (cases q; done) | omega | (have := hmt c_101; omega)) (fun q => by first | (cases q; done) | exact ng_mf (hmf c_101) ⟨hr1, hr2⟩) (by omega) _ _ hP hD hS ls (lv_sub hl [4, 5, 1, 0] rfl)
                        · refine lv_iload hx hb d_D_findTo_104 (lv_at hl 1 rfl) ?_
                          refine nr_ifneB (tgt := 114) hx hb d_D_findTo_106 (by decide) (fun c => absurd c (by decide)) (fun c_106 => ?_)
                          refine lv_iload hx hb d_D_findTo_109 (lv_at hl 0 rfl) ?_
                          refine nr_ifeqB (tgt := 118) hx hb d_D_findTo_111 (by decide) (fun c => absurd c (by decide)) (fun c_111 => ?_)
                          refine lv_iconst (v := nI 1) hx hb d_D_findTo_114 (by decide) ?_
                          refine lv_goto (tgt := 119) hx hb d_D_findTo_115 (by decide) ?_
                          refine lv_istore_n (lv' := [(2, .int (nI 1)), (5, .int (nb_i true)), (4, .int (nb_i false)), (0, .ref dm), (1, .int (nI z)), (3, .int (nI i))]) hx hb d_D_findTo_119 rfl hl (by decide) rfl (fun ls hl => ?_)
                          refine lv_iinc (v := (nI (i + 1))) (lv' := [(3, .int (nI (i + 1))), (2, .int (nI 1)), (5, .int (nb_i true)), (4, .int (nb_i false)), (0, .ref dm), (1, .int (nI z))]) hx hb d_D_findTo_120 hl (k := 5) rfl (nI_1 i) (by decide) rfl (fun ls hl => ?_)
                          refine lv_goto (tgt := 52) hx hb d_D_findTo_123 (by decide) ?_
                          exact ih_52 (i + 1) true (va_up wo3 (ot i) (some w2)) (va_up eo3 (ot i) (some n2)) (by omega) hvN (by omega) (fun q => by first | (cases q; done) | omega | (have := hmt c_101; omega)) (fun q => by first | (cases q; done) | exact ng_mf (hmf c_101) ⟨hr1, hr2⟩) (by omega) _ _ hP hD hS ls (lv_sub hl [4, 5, 1, 0] rfl)
                    · obtain ⟨hs1, hs2, wb_75, nb_75, hs3, hs4, hs5, hs6, hs7⟩ := ng_rl_s hvN (by omega) (by omega) hhi hr1
                      have hd_75 := ng_S_step (by omega) hs7
                      have hvO := hvN
                      have hvN := ng_V_step hvN (by omega) (by omega) c_57 (Or.inl ⟨rfl, rfl⟩) hdi hs1 hs2 hs3 hs4 hs5 hs6 hhi hs7
                      refine rw_Vi (wr := [cg_N oA cI 60 oe, cg_N uA cI 60 ot]) [0, 1, 4, 5, 6, 7] [2, 3] rfl rfl (by decide) (As := [.int (nI i), .int (nI (oe i)), .int (nI (ot i)), .int (nI z)]) (rest := []) ⟨hx, hb, hml, hown, hts⟩ (c_D_relax_ok l dC dI cI cL cZ dm th np ne fi kp iA tA oA uA wA sA eA vA yA lA ll mn xA cA zA pA bA fA gA bw bs ps qA rA aA kA lt wt fx ib wg ie wo3 eo3 i (oe i) (ot i) z w1 n1 (by omega) (by omega) (by omega) (by omega) (fun p w hp hw => by obtain ⟨n, h1, h2, h3, -⟩ := ng_V_get hvO hp hw; exact ⟨n, h1, h2, by omega⟩) hhi hr1) (cwV 4 hts (wg_V wk_D_120 wm_D_relax we_D_relax wi_D wc_D_relax) rfl rfl rfl (by decide +kernel) ⟨Nat.le_of_ble_eq_true rfl, Nat.le_of_ble_eq_true rfl⟩) hK (hP.sub [0, 1, 4, 5, 6, 7] rfl) ((hD.sub [0, 1, 4, 5, 6, 7] (by decide) rfl).weaken (fun _ _ _ _ => trivial)) (q0 := 0) rfl rfl rfl rfl hl.1 rfl (lv_room (Nat.le_of_ble_eq_true rfl)) d_D_findTo_75 ⟨Nat.zero_le _, Nat.zero_le _⟩ hS hP hD (fun r_3 u H locs hw_4 hP hS => ?_)
                      have hP : va_P (dC, dI) classes [cg_D dm th np ne fi kp iA tA oA uA wA sA eA vA yA lA ll mn xA cA zA pA bA fA gA bw bs ps qA rA aA kA lt wt fx, cg_B iA cZ 20 ib, cg_N oA cI 60 oe, cg_N uA cI 60 ot, cg_N wA cI 60 wg, cg_B eA cZ 60 ie, cg_O vA cI 20 (va_up wo3 (oe i) (some w1)), cg_O yA cI 20 (va_up eo3 (oe i) (some n1))] H := hP.sub [2, 3, 0, 1, 4, 5, 6, 7] rfl
                      have hD : va_D A [cg_D dm th np ne fi kp iA tA oA uA wA sA eA vA yA lA ll mn xA cA zA pA bA fA gA bw bs ps qA rA aA kA lt wt fx, cg_B iA cZ 20 ib, cg_N oA cI 60 oe, cg_N uA cI 60 ot, cg_N wA cI 60 wg, cg_B eA cZ 60 ie, cg_O vA cI 20 (va_up wo3 (oe i) (some w1)), cg_O yA cI 20 (va_up eo3 (oe i) (some n1))] := rw_re hD rfl
                      subst hw_4
                      refine lv_istore (lv' := [(4, .int (nb_i true)), (0, .ref dm), (1, .int (nI z)), (2, .int (nb_i m1)), (3, .int (nI i))]) hx hb d_D_findTo_78 hl (by decide) rfl (fun ls hl => ?_)
                      refine lv_aload_n hx hb d_D_findTo_80 rfl (lv_at hl 1 rfl) ?_
                      refine lv_iload_n hx hb d_D_findTo_81 rfl (lv_at hl 4 rfl) ?_
                      refine lv_aload_n hx hb d_D_findTo_82 rfl (lv_at hl 1 rfl) ?_
                      refine va_get (D := (dC, dI)) (ci := 5) (v := .ref uA) (C := R_D) (T := F_D) (N := 34) hx hb hts iD hown hK hP 0 rfl rfl 8 (by decide) (hts _ (List.mem_cons_of_mem _ wk_D_20)) (fun _ h9 => h9) rfl d_D_findTo_83 ?_
                      refine lv_iload_n hx hb d_D_findTo_86 rfl (lv_at hl 4 rfl) ?_
                      refine nr_iald hx hb hK hP 3 0 rfl rfl (by omega) (by decide) d_D_findTo_87 ?_
                      refine lv_aload_n hx hb d_D_findTo_88 rfl (lv_at hl 1 rfl) ?_
                      refine va_get (D := (dC, dI)) (ci := 5) (v := .ref oA) (C := R_D) (T := F_D) (N := 34) hx hb hts iD hown hK hP 0 rfl rfl 7 (by decide) (hts _ (List.mem_cons_of_mem _ wk_D_17)) (fun _ h9 => h9) rfl d_D_findTo_89 ?_
                      refine lv_iload_n hx hb d_D_findTo_92 rfl (lv_at hl 4 rfl) ?_
                      refine nr_iald hx hb hK hP 2 0 rfl rfl (by omega) (by decide) d_D_findTo_93 ?_
                      refine lv_iload_n hx hb d_D_findTo_94 rfl (lv_at hl 2 rfl) ?_
                      rcases hr2 : ng_rl (va_up wo3 (oe i) (some w1)) (va_up eo3 (oe i) (some n1)) ib (ng_hv ie wg) z i (ot i) (oe i) with _ | ⟨w2, n2⟩
                      · have hvO := hvN
                        refine ro_Vi (As := [.int (nI i), .int (nI (ot i)), .int (nI (oe i)), .int (nI z)]) (rest := []) ⟨hx, hb, hml, hown, hts⟩ (c_D_relax_no l dC dI cI cL cZ dm th np ne fi kp iA tA oA uA wA sA eA vA yA lA ll mn xA cA zA pA bA fA gA bw bs ps qA rA aA kA lt wt fx ib wg ie (va_up wo3 (oe i) (some w1)) (va_up eo3 (oe i) (some n1)) i (ot i) (oe i) z (by omega) (by omega) (by omega) (by omega) (fun p w hp hw => by obtain ⟨n, h1, h2, h3, -⟩ := ng_V_get hvO hp hw; exact ⟨n, h1, h2, by omega⟩) hhi hr2) (cwV 4 hts (wg_V wk_D_120 wm_D_relax we_D_relax wi_D wc_D_relax) rfl rfl rfl (by decide +kernel) ⟨Nat.le_of_ble_eq_true rfl, Nat.le_of_ble_eq_true rfl⟩) hK (hP.sub [0, 1, 4, 5, 6, 7] rfl) (q0 := 0) rfl rfl rfl rfl hl.1 rfl (lv_room (Nat.le_of_ble_eq_true rfl)) d_D_findTo_95 ⟨Nat.zero_le _, Nat.zero_le _⟩ hS hP (fun H locs hP hS => ?_)
                        refine lv_istore (lv' := [(5, .int (nb_i false)), (4, .int (nb_i true)), (0, .ref dm), (1, .int (nI z)), (2, .int (nb_i m1)), (3, .int (nI i))]) hx hb d_D_findTo_98 hl (by decide) rfl (fun ls hl => ?_)
                        refine lv_iload_n hx hb d_D_findTo_100 rfl (lv_at hl 4 rfl) ?_
                        refine nr_ifneB (tgt := 114) hx hb d_D_findTo_101 (by decide) (fun c_101 => ?_) (fun c_101 => ?_)
                        · refine lv_iconst (v := nI 1) hx hb d_D_findTo_114 (by decide) ?_
                          refine lv_goto (tgt := 119) hx hb d_D_findTo_115 (by decide) ?_
                          refine lv_istore_n (lv' := [(2, .int (nI 1)), (5, .int (nb_i false)), (4, .int (nb_i true)), (0, .ref dm), (1, .int (nI z)), (3, .int (nI i))]) hx hb d_D_findTo_119 rfl hl (by decide) rfl (fun ls hl => ?_)
                          refine lv_iinc (v := (nI (i + 1))) (lv' := [(3, .int (nI (i + 1))), (2, .int (nI 1)), (5, .int (nb_i false)), (4, .int (nb_i true)), (0, .ref dm), (1, .int (nI z))]) hx hb d_D_findTo_120 hl (k := 5) rfl (nI_1 i) (by decide) rfl (fun ls hl => ?_)
                          refine lv_goto (tgt := 52) hx hb d_D_findTo_123 (by decide) ?_
                          exact ih_52 (i + 1) true (va_up wo3 (oe i) (some w1)) (va_up eo3 (oe i) (some n1)) (by omega) hvN (by omega) (fun q => by first | (cases q; done) | omega | (have := hmt c_101; omega)) (fun q => by first | (cases q; done) | exact ng_mf (hmf c_101) ⟨hr1, hr2⟩) (by omega) _ _ hP hD hS ls (lv_sub hl [4, 5, 1, 0] rfl)
                        · refine lv_iload hx hb d_D_findTo_104 (lv_at hl 1 rfl) ?_
                          refine nr_ifneB (tgt := 114) hx hb d_D_findTo_106 (by decide) (fun c_106 => ?_) (fun c => absurd c (by decide))
                          refine lv_iconst (v := nI 1) hx hb d_D_findTo_114 (by decide) ?_
                          refine lv_goto (tgt := 119) hx hb d_D_findTo_115 (by decide) ?_
                          refine lv_istore_n (lv' := [(2, .int (nI 1)), (5, .int (nb_i false)), (4, .int (nb_i true)), (0, .ref dm), (1, .int (nI z)), (3, .int (nI i))]) hx hb d_D_findTo_119 rfl hl (by decide) rfl (fun ls hl => ?_)
                          refine lv_iinc (v := (nI (i + 1))) (lv' := [(3, .int (nI (i + 1))), (2, .int (nI 1)), (5, .int (nb_i false)), (4, .int (nb_i true)), (0, .ref dm), (1, .int (nI z))]) hx hb d_D_findTo_120 hl (k := 5) rfl (nI_1 i) (by decide) rfl (fun ls hl => ?_)
                          refine lv_goto (tgt := 52) hx hb d_D_findTo_123 (by decide) ?_
                          exact ih_52 (i + 1) true (va_up wo3 (oe i) (some w1)) (va_up eo3 (oe i) (some n1)) (by omega) hvN (by omega) (fun q => by first | (cases q; done) | omega | (have := hmt c_101; omega)) (fun q => by first | (cases q; done) | exact ng_mf (hmf c_101) ⟨hr1, hr2⟩) (by omega) _ _ hP hD hS ls (lv_sub hl [4, 5, 1, 0] rfl)
                      · obtain ⟨hs1, hs2, wb_95, nb_95, hs3, hs4, hs5, hs6, hs7⟩ := ng_rl_s hvN (by omega) (by omega) hhi hr2
                        have hd_95 := ng_S_step (by omega) hs7
                        have hvO := hvN
                        have hvN := ng_V_step hvN (by omega) (by omega) c_57 (Or.inr ⟨rfl, rfl⟩) (fun q => hdi q.symm) hs1 hs2 hs3 hs4 hs5 hs6 hhi hs7
                        refine rw_Vi (wr := [cg_N oA cI 60 oe, cg_N uA cI 60 ot]) [0, 1, 4, 5, 6, 7] [2, 3] rfl rfl (by decide) (As := [.int (nI i), .int (nI (ot i)), .int (nI (oe i)), .int (nI z)]) (rest := []) ⟨hx, hb, hml, hown, hts⟩ (c_D_relax_ok l dC dI cI cL cZ dm th np ne fi kp iA tA oA uA wA sA eA vA yA lA ll mn xA cA zA pA bA fA gA bw bs ps qA rA aA kA lt wt fx ib wg ie (va_up wo3 (oe i) (some w1)) (va_up eo3 (oe i) (some n1)) i (ot i) (oe i) z w2 n2 (by omega) (by omega) (by omega) (by omega) (fun p w hp hw => by obtain ⟨n, h1, h2, h3, -⟩ := ng_V_get hvO hp hw; exact ⟨n, h1, h2, by omega⟩) hhi hr2) (cwV 4 hts (wg_V wk_D_120 wm_D_relax we_D_relax wi_D wc_D_relax) rfl rfl rfl (by decide +kernel) ⟨Nat.le_of_ble_eq_true rfl, Nat.le_of_ble_eq_true rfl⟩) hK (hP.sub [0, 1, 4, 5, 6, 7] rfl) ((hD.sub [0, 1, 4, 5, 6, 7] (by decide) rfl).weaken (fun _ _ _ _ => trivial)) (q0 := 0) rfl rfl rfl rfl hl.1 rfl (lv_room (Nat.le_of_ble_eq_true rfl)) d_D_findTo_95 ⟨Nat.zero_le _, Nat.zero_le _⟩ hS hP hD (fun r_5 u H locs hw_6 hP hS => ?_)
                        have hP : va_P (dC, dI) classes [cg_D dm th np ne fi kp iA tA oA uA wA sA eA vA yA lA ll mn xA cA zA pA bA fA gA bw bs ps qA rA aA kA lt wt fx, cg_B iA cZ 20 ib, cg_N oA cI 60 oe, cg_N uA cI 60 ot, cg_N wA cI 60 wg, cg_B eA cZ 60 ie, cg_O vA cI 20 (va_up (va_up wo3 (oe i) (some w1)) (ot i) (some w2)), cg_O yA cI 20 (va_up (va_up eo3 (oe i) (some n1)) (ot i) (some n2))] H := hP.sub [2, 3, 0, 1, 4, 5, 6, 7] rfl
                        have hD : va_D A [cg_D dm th np ne fi kp iA tA oA uA wA sA eA vA yA lA ll mn xA cA zA pA bA fA gA bw bs ps qA rA aA kA lt wt fx, cg_B iA cZ 20 ib, cg_N oA cI 60 oe, cg_N uA cI 60 ot, cg_N wA cI 60 wg, cg_B eA cZ 60 ie, cg_O vA cI 20 (va_up (va_up wo3 (oe i) (some w1)) (ot i) (some w2)), cg_O yA cI 20 (va_up (va_up eo3 (oe i) (some n1)) (ot i) (some n2))] := rw_re hD rfl
                        subst hw_6
                        refine lv_istore (lv' := [(5, .int (nb_i true)), (4, .int (nb_i true)), (0, .ref dm), (1, .int (nI z)), (2, .int (nb_i m1)), (3, .int (nI i))]) hx hb d_D_findTo_98 hl (by decide) rfl (fun ls hl => ?_)
                        refine lv_iload_n hx hb d_D_findTo_100 rfl (lv_at hl 4 rfl) ?_
                        refine nr_ifneB (tgt := 114) hx hb d_D_findTo_101 (by decide) (fun c_101 => ?_) (fun c_101 => ?_)
                        · refine lv_iconst (v := nI 1) hx hb d_D_findTo_114 (by decide) ?_
                          refine lv_goto (tgt := 119) hx hb d_D_findTo_115 (by decide) ?_
                          refine lv_istore_n (lv' := [(2, .int (nI 1)), (5, .int (nb_i true)), (4, .int (nb_i true)), (0, .ref dm), (1, .int (nI z)), (3, .int (nI i))]) hx hb d_D_findTo_119 rfl hl (by decide) rfl (fun ls hl => ?_)
                          refine lv_iinc (v := (nI (i + 1))) (lv' := [(3, .int (nI (i + 1))), (2, .int (nI 1)), (5, .int (nb_i true)), (4, .int (nb_i true)), (0, .ref dm), (1, .int (nI z))]) hx hb d_D_findTo_120 hl (k := 5) rfl (nI_1 i) (by decide) rfl (fun ls hl => ?_)
                          refine lv_goto (tgt := 52) hx hb d_D_findTo_123 (by decide) ?_
                          exact ih_52 (i + 1) true (va_up (va_up wo3 (oe i) (some w1)) (ot i) (some w2)) (va_up (va_up eo3 (oe i) (some n1)) (ot i) (some n2)) (by omega) hvN (by omega) (fun q => by first | (cases q; done) | omega | (have := hmt c_101; omega)) (fun q => by first | (cases q; done) | exact ng_mf (hmf c_101) ⟨hr1, hr2⟩) (by omega) _ _ hP hD hS ls (lv_sub hl [4, 5, 1, 0] rfl)
                        · refine lv_iload hx hb d_D_findTo_104 (lv_at hl 1 rfl) ?_
                          refine nr_ifneB (tgt := 114) hx hb d_D_findTo_106 (by decide) (fun c_106 => ?_) (fun c => absurd c (by decide))
                          refine lv_iconst (v := nI 1) hx hb d_D_findTo_114 (by decide) ?_
                          refine lv_goto (tgt := 119) hx hb d_D_findTo_115 (by decide) ?_
                          refine lv_istore_n (lv' := [(2, .int (nI 1)), (5, .int (nb_i true)), (4, .int (nb_i true)), (0, .ref dm), (1, .int (nI z)), (3, .int (nI i))]) hx hb d_D_findTo_119 rfl hl (by decide) rfl (fun ls hl => ?_)
                          refine lv_iinc (v := (nI (i + 1))) (lv' := [(3, .int (nI (i + 1))), (2, .int (nI 1)), (5, .int (nb_i true)), (4, .int (nb_i true)), (0, .ref dm), (1, .int (nI z))]) hx hb d_D_findTo_120 hl (k := 5) rfl (nI_1 i) (by decide) rfl (fun ls hl => ?_)
                          refine lv_goto (tgt := 52) hx hb d_D_findTo_123 (by decide) ?_
                          exact ih_52 (i + 1) true (va_up (va_up wo3 (oe i) (some w1)) (ot i) (some w2)) (va_up (va_up eo3 (oe i) (some n1)) (ot i) (some n2)) (by omega) hvN (by omega) (fun q => by first | (cases q; done) | omega | (have := hmt c_101; omega)) (fun q => by first | (cases q; done) | exact ng_mf (hmf c_101) ⟨hr1, hr2⟩) (by omega) _ _ hP hD hS ls (lv_sub hl [4, 5, 1, 0] rfl)
              exact lp_52 (ne - 0 + 1) 0 false wo2 eo2 (by omega) hv2 (Nat.le_refl _) (fun q => by cases q) (fun q e he => absurd he (Nat.not_lt_zero _)) (Nat.lt_succ_self _) _ _ hP hD hS ls (lv_sub hl [2, 3, 1, 0] rfl)
        exact lp_44 ((if true = true then ng_S (ng_F (va_up wo1 z (some 0)) (va_up eo1 z (some 0))) 20 + 1 else 0) + 1) true (va_up wo1 z (some 0)) (va_up eo1 z (some 0)) hv9 (fun q => by cases q) (Nat.lt_succ_self _) _ _ hP hD hS ls (lv_sub hl [1, 2, 0] rfl)
      · refine lv_aload_n hx hb d_D_findTo_8 rfl (lv_at hl 0 rfl) ?_
        refine va_get (D := (dC, dI)) (ci := 5) (v := .ref vA) (C := R_D) (T := F_D) (N := 34) hx hb hts iD hown hK hP 0 rfl rfl 12 (by decide) (hts _ (List.mem_cons_of_mem _ wk_D_32)) (fun _ h9 => h9) rfl d_D_findTo_9 ?_
        refine lv_iload_n hx hb d_D_findTo_12 rfl (lv_at hl 2 rfl) ?_
        refine lv_iconst (v := -1) hx hb d_D_findTo_13 (by decide) ?_
        refine nr_oast (x := none) hx hb hK hP hD hS 6 0 rfl rfl (by omega) (by decide) d_D_findTo_14 (fun H locs hP hD hS => ?_)
        have hP : va_P (dC, dI) classes [cg_D dm th np ne fi kp iA tA oA uA wA sA eA vA yA lA ll mn xA cA zA pA bA fA gA bw bs ps qA rA aA kA lt wt fx, cg_B iA cZ 20 ib, cg_N oA cI 60 oe, cg_N uA cI 60 ot, cg_N wA cI 60 wg, cg_B eA cZ 60 ie, cg_O vA cI 20 (va_up wo1 i none), cg_O yA cI 20 eo1] H := hP
        have hD : va_D A [cg_D dm th np ne fi kp iA tA oA uA wA sA eA vA yA lA ll mn xA cA zA pA bA fA gA bw bs ps qA rA aA kA lt wt fx, cg_B iA cZ 20 ib, cg_N oA cI 60 oe, cg_N uA cI 60 ot, cg_N wA cI 60 wg, cg_B eA cZ 60 ie, cg_O vA cI 20 (va_up wo1 i none), cg_O yA cI 20 eo1] := hD
        refine lv_aload_n hx hb d_D_findTo_15 rfl (lv_at hl 0 rfl) ?_
        refine va_get (D := (dC, dI)) (ci := 5) (v := .ref yA) (C := R_D) (T := F_D) (N := 34) hx hb hts iD hown hK hP 0 rfl rfl 13 (by decide) (hts _ (List.mem_cons_of_mem _ wk_D_35)) (fun _ h9 => h9) rfl d_D_findTo_16 ?_
        refine lv_iload_n hx hb d_D_findTo_19 rfl (lv_at hl 2 rfl) ?_
        refine lv_iconst (v := -1) hx hb d_D_findTo_20 (by decide) ?_
        refine nr_oast (x := none) hx hb hK hP hD hS 7 0 rfl rfl (by omega) (by decide) d_D_findTo_21 (fun H locs hP hD hS => ?_)
        have hP : va_P (dC, dI) classes [cg_D dm th np ne fi kp iA tA oA uA wA sA eA vA yA lA ll mn xA cA zA pA bA fA gA bw bs ps qA rA aA kA lt wt fx, cg_B iA cZ 20 ib, cg_N oA cI 60 oe, cg_N uA cI 60 ot, cg_N wA cI 60 wg, cg_B eA cZ 60 ie, cg_O vA cI 20 (va_up wo1 i none), cg_O yA cI 20 (va_up eo1 i none)] H := hP
        have hD : va_D A [cg_D dm th np ne fi kp iA tA oA uA wA sA eA vA yA lA ll mn xA cA zA pA bA fA gA bw bs ps qA rA aA kA lt wt fx, cg_B iA cZ 20 ib, cg_N oA cI 60 oe, cg_N uA cI 60 ot, cg_N wA cI 60 wg, cg_B eA cZ 60 ie, cg_O vA cI 20 (va_up wo1 i none), cg_O yA cI 20 (va_up eo1 i none)] := hD
        refine lv_iinc (v := (nI (i + 1))) (lv' := [(2, .int (nI (i + 1))), (0, .ref dm), (1, .int (nI z))]) hx hb d_D_findTo_22 hl (k := 2) rfl (nI_1 i) (by decide) rfl (fun ls hl => ?_)
        refine lv_goto (tgt := 2) hx hb d_D_findTo_25 (by decide) ?_
        exact ih_2 (i + 1) (va_up wo1 i none) (va_up eo1 i none) (by omega) (ng_no h0) (by omega) _ _ hP hD hS ls (lv_sub hl [1, 2, 0] rfl)
  exact lp_2 (20 - 0 + 1) 0 wo eo (by omega) (fun p h => absurd h (Nat.not_lt_zero _)) (Nat.lt_succ_self _) _ _ hP hD hS ls (lv_sub hl [1, 2, 0] rfl)
