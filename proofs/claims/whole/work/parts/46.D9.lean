set_option maxHeartbeats 4000000 in
set_option maxRecDepth 100000 in
theorem c_D_goThrough (l : Launch) (dC : Nat → ClassId) (dI : Nat → Nat → Nat) (cI cL cZ : ClassId) (dm : Nat) (th : Nat) (np : Nat) (ne : Nat) (fi : Int32) (kp : Int64) (iA : Nat) (tA : Nat) (oA : Nat) (uA : Nat) (wA : Nat) (sA : Nat) (eA : Nat) (vA : Nat) (yA : Nat) (lA : Nat) (ll : Nat) (mn : Nat) (xA : Nat) (cA : Nat) (zA : Nat) (pA : Nat) (bA : Nat) (fA : Nat) (gA : Nat) (bw : Nat) (bs : Nat) (ps : Nat) (qA : Nat) (rA : Nat) (aA : Nat) (kA : Nat) (lt : Nat) (wt : Nat) (fx : Int64) (co pr be : Nat → Option Nat) (fs tr : Nat → Nat) (hmn : mn ≤ 10) (hco : ∀ k c, k < 110 → co k = some c → c ≤ 19000000) (hbw : bw ≤ 190000000) : Met l y_D_goThrough w_D_goThrough ({ frames := 2, cells := 0, slots := 0, locals := 45 } : Room) (va_Pc [.ref dm] (rw_B (dC, dI) classes [(cI, .int), (cL, .long), (cZ, .boolean)] [cg_D dm th np ne fi kp iA tA oA uA wA sA eA vA yA lA ll mn xA cA zA pA bA fA gA bw bs ps qA rA aA kA lt wt fx, cg_O cA cI 110 co, cg_O pA cI 10 pr, cg_O bA cI 10 be, cg_N fA cI 11 fs, cg_N gA cI 11 tr])) (rw_Qv (dC, dI) classes (rw_A [cg_D dm th np ne fi kp iA tA oA uA wA sA eA vA yA lA ll mn xA cA zA pA bA fA gA bw bs ps qA rA aA kA lt wt fx, cg_O cA cI 110 co, cg_O pA cI 10 pr, cg_O bA cI 10 be, cg_N fA cI 11 fs, cg_N gA cI 11 tr]) (fun (u : (Nat → Option Nat) × (Nat → Option Nat) × (Nat → Nat) × (Nat → Nat) × (Nat) × (Nat) × (Nat → Option Nat)) => (∀ k, k < mn → u.2.2.2.2.2.2 k = none) ∧ ng_eqA mn (u.2.2.2.2.2.1, u.2.2.2.2.1, u.2.1) (List.foldl (ng_hd mn co) (0, bw, be) (ng_en mn co mn u.2.2.2.2.2.2)) ∧ u.2.2.2.2.1 ≤ 190000000 ∧ u.2.2.2.2.2.1 ≤ 3628800) (fun u => [cg_D dm th np ne fi kp iA tA oA uA wA sA eA vA yA lA ll mn xA cA zA pA bA fA gA u.2.2.2.2.1 u.2.2.2.2.2.1 ps qA rA aA kA lt wt fx, cg_O cA cI 110 co, cg_O pA cI 10 u.1, cg_O bA cI 10 u.2.1, cg_N fA cI 11 u.2.2.1, cg_N gA cI 11 u.2.2.2.1])) 0 0 (rw_A [cg_D dm th np ne fi kp iA tA oA uA wA sA eA vA yA lA ll mn xA cA zA pA bA fA gA bw bs ps qA rA aA kA lt wt fx, cg_O cA cI 110 co, cg_O pA cI 10 pr, cg_O bA cI 10 be, cg_N fA cI 11 fs, cg_N gA cI 11 tr]) := by
  refine Met.ofW (cc := b_D_goThrough) (maxL := 3) (ret := none) (by decide) rfl ?_
  intro p e s m args below meth c s₁ B hml hv
  obtain ⟨rfl, hP, hK, hD0⟩ := hv
  have hx := B.exec
  have hb := B.bytes
  have hr := B.returns
  have hts := atoms_spec (ws := w_D_goThrough) B.pre
  have hown : s.vm.findClass R_D = some m.cls := findClass_of_methodNamed B.named
  have hlocks := B.notSynchronized
  have iD : ∀ w ∈ w_D, w ∈ w_D_goThrough := fun w h => List.mem_cons_of_mem _ (i_D w h)
  have hD := rw_own hD0
  generalize hAe : rw_A [cg_D dm th np ne fi kp iA tA oA uA wA sA eA vA yA lA ll mn xA cA zA pA bA fA gA bw bs ps qA rA aA kA lt wt fx, cg_O cA cI 110 co, cg_O pA cI 10 pr, cg_O bA cI 10 be, cg_N fA cI 11 fs, cg_N gA cI 11 tr] = A at hD ⊢
  have hS : va_S A s.heap s.heap [] := va_S.rf
  have hP : va_P (dC, dI) classes [cg_D dm th np ne fi kp iA tA oA uA wA sA eA vA yA lA ll mn xA cA zA pA bA fA gA bw bs ps qA rA aA kA lt wt fx, cg_O cA cI 110 co, cg_O pA cI 10 pr, cg_O bA cI 10 be, cg_N fA cI 11 fs, cg_N gA cI 11 tr] s.heap := hP
  have hl := lv_entry ([.ref dm]) (n := 3) (Nat.le_of_ble_eq_true rfl)
  rw [lg_entry_eq]
  generalize (lg_sl ([.ref dm]) ++ List.replicate (3 - (lg_sl ([.ref dm])).length) Slot.unset).toArray = ls at hl ⊢
  have hl : lv_has ls 3 [(0, .ref dm)] := hl
  refine lv_aload_n hx hb d_D_goThrough_0 rfl (lv_at hl 0 rfl) ?_
  refine lv_iconst (v := nI 0) hx hb d_D_goThrough_1 (by decide) ?_
  refine va_put (D := (dC, dI)) (ci := 5) (v := .int (nI 0)) (ty := .int) (C := R_D) (T := F_D) (N := 34) hx hb hts iD t_D t_D_ok n_D hown hK hP hD hS 0 rfl rfl 25 (by decide) (hts _ (List.mem_cons_of_mem _ wk_D_139)) (fun _ h9 => h9) rfl (by decide +kernel) rfl rfl (Nat.le_of_ble_eq_true rfl) d_D_goThrough_2 (fun H locs hP hD hS => ?_)
  have hP : va_P (dC, dI) classes [cg_D dm th np ne fi kp iA tA oA uA wA sA eA vA yA lA ll mn xA cA zA pA bA fA gA bw 0 ps qA rA aA kA lt wt fx, cg_O cA cI 110 co, cg_O pA cI 10 pr, cg_O bA cI 10 be, cg_N fA cI 11 fs, cg_N gA cI 11 tr] H := hP
  have hD : va_D A [cg_D dm th np ne fi kp iA tA oA uA wA sA eA vA yA lA ll mn xA cA zA pA bA fA gA bw 0 ps qA rA aA kA lt wt fx, cg_O cA cI 110 co, cg_O pA cI 10 pr, cg_O bA cI 10 be, cg_N fA cI 11 fs, cg_N gA cI 11 tr] := hD
  refine lv_iconst (v := nI 0) hx hb d_D_goThrough_5 (by decide) ?_
  refine lv_istore_n (lv' := [(1, .int (nI 0)), (0, .ref dm)]) hx hb d_D_goThrough_6 rfl hl (by decide) rfl (fun ls hl => ?_)
  have lp_7 : ∀ (n : Nat) (i : Nat) (pr1 : Nat → Option Nat), (i ≤ mn) → (∀ k, k < i → pr1 k = none) → mn - i < n → ∀ (H : Heap) (locs : List Loc), va_P (dC, dI) classes [cg_D dm th np ne fi kp iA tA oA uA wA sA eA vA yA lA ll mn xA cA zA pA bA fA gA bw 0 ps qA rA aA kA lt wt fx, cg_O cA cI 110 co, cg_O pA cI 10 pr1, cg_O bA cI 10 be, cg_N fA cI 11 fs, cg_N gA cI 11 tr] H → va_D A [cg_D dm th np ne fi kp iA tA oA uA wA sA eA vA yA lA ll mn xA cA zA pA bA fA gA bw 0 ps qA rA aA kA lt wt fx, cg_O cA cI 110 co, cg_O pA cI 10 pr1, cg_O bA cI 10 be, cg_N fA cI 11 fs, cg_N gA cI 11 tr] → va_S A s.heap H locs → ∀ (ls : Array Slot), lv_has ls 3 [(0, .ref dm), (1, .int (nI i))] → W p l e (headSpec w_D_goThrough ({ frames := 2, cells := 0, slots := 0, locals := 45 } : Room)).room s m ([.ref dm] : List Value).toArray below meth c H locs 0 0 (MQ below (rw_Qv (dC, dI) classes A (fun (u : (Nat → Option Nat) × (Nat → Option Nat) × (Nat → Nat) × (Nat → Nat) × (Nat) × (Nat) × (Nat → Option Nat)) => (∀ k, k < mn → u.2.2.2.2.2.2 k = none) ∧ ng_eqA mn (u.2.2.2.2.2.1, u.2.2.2.2.1, u.2.1) (List.foldl (ng_hd mn co) (0, bw, be) (ng_en mn co mn u.2.2.2.2.2.2)) ∧ u.2.2.2.2.1 ≤ 190000000 ∧ u.2.2.2.2.2.1 ≤ 3628800) (fun u => [cg_D dm th np ne fi kp iA tA oA uA wA sA eA vA yA lA ll mn xA cA zA pA bA fA gA u.2.2.2.2.1 u.2.2.2.2.2.1 ps qA rA aA kA lt wt fx, cg_O cA cI 110 co, cg_O pA cI 10 u.1, cg_O bA cI 10 u.2.1, cg_N fA cI 11 u.2.2.1, cg_N gA cI 11 u.2.2.2.1])) ([.ref dm] : List Value).toArray s 0 0 A) (F0 m 7 ls []) := by
    intro n
    induction n with
    | zero => intro i pr1 hi hp1 hme; exact absurd hme (Nat.not_lt_zero _)
    | succ n ih =>
      intro i pr1 hi hp1 hme H locs hP hD hS ls hl
      have ih_7 := ih
      refine lv_iload_n hx hb d_D_goThrough_7 rfl (lv_at hl 1 rfl) ?_
      refine lv_aload_n hx hb d_D_goThrough_8 rfl (lv_at hl 0 rfl) ?_
      refine va_get (D := (dC, dI)) (ci := 5) (v := .int (nI mn)) (C := R_D) (T := F_D) (N := 34) hx hb hts iD hown hK hP 0 rfl rfl 16 (by decide) (hts _ (List.mem_cons_of_mem _ wk_D_136)) (fun _ h9 => h9) rfl d_D_goThrough_9 ?_
      refine nr_icmp_ge (by omega) (by omega) (tgt := 28) hx hb d_D_goThrough_12 (by decide) (fun c_12 => ?_) (fun c_12 => ?_)
      · have hpn : ∀ k, k < mn → pr1 k = none := fun k hk => hp1 k (by omega)
        refine lv_iconst (v := nI 0) hx hb d_D_goThrough_28 (by decide) ?_
        refine lv_istore_n (lv' := [(1, .int (nI 0)), (0, .ref dm)]) hx hb d_D_goThrough_29 rfl hl (by decide) rfl (fun ls hl => ?_)
        refine lv_aload_n hx hb d_D_goThrough_30 rfl (lv_at hl 1 rfl) ?_
        refine va_get (D := (dC, dI)) (ci := 5) (v := .ref fA) (C := R_D) (T := F_D) (N := 34) hx hb hts iD hown hK hP 0 rfl rfl 22 (by decide) (hts _ (List.mem_cons_of_mem _ wk_D_56)) (fun _ h9 => h9) rfl d_D_goThrough_31 ?_
        refine lv_iconst (v := nI 0) hx hb d_D_goThrough_34 (by decide) ?_
        refine lv_iconst (v := nI 0) hx hb d_D_goThrough_35 (by decide) ?_
        refine nr_iast hx hb hK hP hD hS 4 0 rfl rfl (by omega) (by decide) d_D_goThrough_36 (fun H locs hP hD hS => ?_)
        have hP : va_P (dC, dI) classes [cg_D dm th np ne fi kp iA tA oA uA wA sA eA vA yA lA ll mn xA cA zA pA bA fA gA bw 0 ps qA rA aA kA lt wt fx, cg_O cA cI 110 co, cg_O pA cI 10 pr1, cg_O bA cI 10 be, cg_N fA cI 11 (va_up fs 0 0), cg_N gA cI 11 tr] H := hP
        have hD : va_D A [cg_D dm th np ne fi kp iA tA oA uA wA sA eA vA yA lA ll mn xA cA zA pA bA fA gA bw 0 ps qA rA aA kA lt wt fx, cg_O cA cI 110 co, cg_O pA cI 10 pr1, cg_O bA cI 10 be, cg_N fA cI 11 (va_up fs 0 0), cg_N gA cI 11 tr] := hD
        refine lv_aload_n hx hb d_D_goThrough_37 rfl (lv_at hl 1 rfl) ?_
        refine va_get (D := (dC, dI)) (ci := 5) (v := .ref gA) (C := R_D) (T := F_D) (N := 34) hx hb hts iD hown hK hP 0 rfl rfl 23 (by decide) (hts _ (List.mem_cons_of_mem _ wk_D_59)) (fun _ h9 => h9) rfl d_D_goThrough_38 ?_
        refine lv_iconst (v := nI 0) hx hb d_D_goThrough_41 (by decide) ?_
        refine lv_iconst (v := nI 0) hx hb d_D_goThrough_42 (by decide) ?_
        refine nr_iast hx hb hK hP hD hS 5 0 rfl rfl (by omega) (by decide) d_D_goThrough_43 (fun H locs hP hD hS => ?_)
        have hP : va_P (dC, dI) classes [cg_D dm th np ne fi kp iA tA oA uA wA sA eA vA yA lA ll mn xA cA zA pA bA fA gA bw 0 ps qA rA aA kA lt wt fx, cg_O cA cI 110 co, cg_O pA cI 10 pr1, cg_O bA cI 10 be, cg_N fA cI 11 (va_up fs 0 0), cg_N gA cI 11 (va_up tr 0 0)] H := hP
        have hD : va_D A [cg_D dm th np ne fi kp iA tA oA uA wA sA eA vA yA lA ll mn xA cA zA pA bA fA gA bw 0 ps qA rA aA kA lt wt fx, cg_O cA cI 110 co, cg_O pA cI 10 pr1, cg_O bA cI 10 be, cg_N fA cI 11 (va_up fs 0 0), cg_N gA cI 11 (va_up tr 0 0)] := hD
        refine lv_aload_n hx hb d_D_goThrough_44 rfl (lv_at hl 1 rfl) ?_
        refine va_get (D := (dC, dI)) (ci := 5) (v := .int (nI mn)) (C := R_D) (T := F_D) (N := 34) hx hb hts iD hown hK hP 0 rfl rfl 16 (by decide) (hts _ (List.mem_cons_of_mem _ wk_D_136)) (fun _ h9 => h9) rfl d_D_goThrough_45 ?_
        refine nr_if_ne (by omega) (tgt := 55) hx hb d_D_goThrough_48 (by decide) (fun c_48 => ?_) (fun c_48 => ?_)
        · have h0 : 0 < mn := by omega
          have lp_55 : ∀ (n : Nat) (fr : List ng_fm) (dv : Int32) (cp be1 : Nat → Option Nat) (fs1 tr1 : Nat → Nat) (bw1 bs1 : Nat), (dv = ng_dm fr.length) → (ng_gi mn co fs1 tr1 fr cp) → (ng_eqA mn (List.foldl (ng_hd mn co) (bs1, bw1, be1) (ng_rs mn co fr)) (List.foldl (ng_hd mn co) (0, bw, be) (ng_en mn co mn pr1))) → (bs1 + (ng_rs mn co fr).length ≤ 3628800) → (bw1 ≤ 190000000) → ng_ms mn fr < n → ∀ (H : Heap) (locs : List Loc), va_P (dC, dI) classes [cg_D dm th np ne fi kp iA tA oA uA wA sA eA vA yA lA ll mn xA cA zA pA bA fA gA bw1 bs1 ps qA rA aA kA lt wt fx, cg_O cA cI 110 co, cg_O pA cI 10 cp, cg_O bA cI 10 be1, cg_N fA cI 11 fs1, cg_N gA cI 11 tr1] H → va_D A [cg_D dm th np ne fi kp iA tA oA uA wA sA eA vA yA lA ll mn xA cA zA pA bA fA gA bw1 bs1 ps qA rA aA kA lt wt fx, cg_O cA cI 110 co, cg_O pA cI 10 cp, cg_O bA cI 10 be1, cg_N fA cI 11 fs1, cg_N gA cI 11 tr1] → va_S A s.heap H locs → ∀ (ls : Array Slot), lv_has ls 3 [(0, .ref dm), (1, .int dv)] → W p l e (headSpec w_D_goThrough ({ frames := 2, cells := 0, slots := 0, locals := 45 } : Room)).room s m ([.ref dm] : List Value).toArray below meth c H locs 0 0 (MQ below (rw_Qv (dC, dI) classes A (fun (u : (Nat → Option Nat) × (Nat → Option Nat) × (Nat → Nat) × (Nat → Nat) × (Nat) × (Nat) × (Nat → Option Nat)) => (∀ k, k < mn → u.2.2.2.2.2.2 k = none) ∧ ng_eqA mn (u.2.2.2.2.2.1, u.2.2.2.2.1, u.2.1) (List.foldl (ng_hd mn co) (0, bw, be) (ng_en mn co mn u.2.2.2.2.2.2)) ∧ u.2.2.2.2.1 ≤ 190000000 ∧ u.2.2.2.2.2.1 ≤ 3628800) (fun u => [cg_D dm th np ne fi kp iA tA oA uA wA sA eA vA yA lA ll mn xA cA zA pA bA fA gA u.2.2.2.2.1 u.2.2.2.2.2.1 ps qA rA aA kA lt wt fx, cg_O cA cI 110 co, cg_O pA cI 10 u.1, cg_O bA cI 10 u.2.1, cg_N fA cI 11 u.2.2.1, cg_N gA cI 11 u.2.2.2.1])) ([.ref dm] : List Value).toArray s 0 0 A) (F0 m 55 ls []) := by
            intro n
            induction n with
            | zero => intro fr dv cp be1 fs1 tr1 bw1 bs1 hdv hgi hbe hbs hbw1 hme; exact absurd hme (Nat.not_lt_zero _)
            | succ n ih =>
              intro fr dv cp be1 fs1 tr1 bw1 bs1 hdv hgi hbe hbs hbw1 hme H locs hP hD hS ls hl
              have ih_55 := ih
              subst hdv
              rcases fr with _ | ⟨⟨i2, t2, pr2⟩, rr⟩
              · have hl : lv_has ls 3 [(0, .ref dm), (1, .int (-1))] := hl
                refine lv_iload_n hx hb d_D_goThrough_55 rfl (lv_at hl 1 rfl) ?_
                refine lv_if_lt (tgt := 120) hx hb d_D_goThrough_56 (by decide) (fun c_56 => ?_) (fun c => absurd ng_m1l c)
                exact rw_vret (cp, be1, fs1, tr1, bw1, bs1, pr1) hx hb hr hlocks hS hP (⟨hpn, hbe, hbw1, by have h9 : bs1 + 0 ≤ 3628800 := hbs; exact h9⟩) d_D_goThrough_120
              · have hl : lv_has ls 3 [(0, .ref dm), (1, .int (nI rr.length))] := hl
                have hgi0 := hgi
                obtain ⟨hg1, hg2, hg3, hg4, hg5, hg6, hg7, hg8, hg9, hg10⟩ := hgi0
                have hgp : pr2 i2 = none := by have h3 : i2 = ng_ff pr2 mn := hg3; have h4 : i2 < mn := hg4; have := ng_ff_lt (pr := pr2) (mn := mn) (by omega); rw [h3]; exact this.2.1
                have hgl : rr.length < mn := by have := ng_fr_pos hg4 hgp; have h9 : rr.length + ng_fr mn pr2 ≤ mn := hg9; omega
                refine lv_iload_n hx hb d_D_goThrough_55 rfl (lv_at hl 1 rfl) ?_
                refine nr_if_lt (by omega) (tgt := 120) hx hb d_D_goThrough_56 (by decide) (fun c => False.elim c) (fun c_56 => ?_)
                refine lv_aload_n hx hb d_D_goThrough_59 rfl (lv_at hl 0 rfl) ?_
                refine va_get (D := (dC, dI)) (ci := 5) (v := .int (nI mn)) (C := R_D) (T := F_D) (N := 34) hx hb hts iD hown hK hP 0 rfl rfl 16 (by decide) (hts _ (List.mem_cons_of_mem _ wk_D_136)) (fun _ h9 => h9) rfl d_D_goThrough_60 ?_
                refine nr_if_le (by omega) (tgt := 120) hx hb d_D_goThrough_63 (by decide) (fun c_63 => ?_) (fun c_63 => ?_)
                · exact False.elim (by omega)
                · refine lv_aload_n hx hb d_D_goThrough_66 rfl (lv_at hl 0 rfl) ?_
                  refine lv_iload_n hx hb d_D_goThrough_67 rfl (lv_at hl 1 rfl) ?_
                  refine rw_Vi (wr := [cg_O bA cI 10 be1]) [0, 1, 2, 4, 5] [3] rfl rfl (by decide) (As := [.int (nI rr.length)]) (rest := []) ⟨hx, hb, hml, hown, hts⟩ (c_D_tryNext l dC dI cI cL cZ dm th np ne fi kp iA tA oA uA wA sA eA vA yA lA ll mn xA cA zA pA bA fA gA bw1 bs1 ps qA rA aA kA lt wt fx pr2 co cp fs1 tr1 rr.length i2 t2 (by omega) (by omega) hg4 hg1 hg2 hg6 hgp hg8 (fun k c hk h => by have := hco k c hk h; omega) (fun i j hi hp => (hg7 i j hi hp).1)) (cwV 1 hts (wg_V wk_D_154 wm_D_tryNext we_D_tryNext wi_D wc_D_tryNext) rfl rfl rfl (by decide +kernel) ⟨Nat.le_of_ble_eq_true rfl, Nat.le_of_ble_eq_true rfl⟩) hK (hP.sub [0, 1, 2, 4, 5] rfl) ((hD.sub [0, 1, 2, 4, 5] (by decide) rfl).weaken (fun _ _ _ _ => trivial)) (q0 := 0) rfl rfl rfl rfl hl.1 rfl (lv_room (Nat.le_of_ble_eq_true rfl)) d_D_goThrough_68 ⟨Nat.zero_le _, Nat.zero_le _⟩ hS hP hD (fun r_3 u H locs hw_4 hP hS => ?_)
                  obtain ⟨pr9_1, tr9_2⟩ := u
                  have hP : va_P (dC, dI) classes [cg_D dm th np ne fi kp iA tA oA uA wA sA eA vA yA lA ll mn xA cA zA pA bA fA gA bw1 bs1 ps qA rA aA kA lt wt fx, cg_O cA cI 110 co, cg_O pA cI 10 pr9_1, cg_O bA cI 10 be1, cg_N fA cI 11 fs1, cg_N gA cI 11 tr9_2] H := hP.sub [1, 2, 3, 0, 4, 5] rfl
                  have hD : va_D A [cg_D dm th np ne fi kp iA tA oA uA wA sA eA vA yA lA ll mn xA cA zA pA bA fA gA bw1 bs1 ps qA rA aA kA lt wt fx, cg_O cA cI 110 co, cg_O pA cI 10 pr9_1, cg_O bA cI 10 be1, cg_N fA cI 11 fs1, cg_N gA cI 11 tr9_2] := rw_re hD rfl
                  try dsimp only at hw_4
                  obtain ⟨hto, ⟨hnj, hrr, hp9⟩ | ⟨j, hnj, hrr, htj, hp9⟩⟩ := hw_4
                  · subst hrr
                    rw [hp9] at hP
                    have hP : va_P (dC, dI) classes [cg_D dm th np ne fi kp iA tA oA uA wA sA eA vA yA lA ll mn xA cA zA pA bA fA gA bw1 bs1 ps qA rA aA kA lt wt fx, cg_O cA cI 110 co, cg_O pA cI 10 pr2, cg_O bA cI 10 be1, cg_N fA cI 11 fs1, cg_N gA cI 11 tr9_2] H := hP
                    have hD : va_D A [cg_D dm th np ne fi kp iA tA oA uA wA sA eA vA yA lA ll mn xA cA zA pA bA fA gA bw1 bs1 ps qA rA aA kA lt wt fx, cg_O cA cI 110 co, cg_O pA cI 10 pr2, cg_O bA cI 10 be1, cg_N fA cI 11 fs1, cg_N gA cI 11 tr9_2] := rw_re hD rfl
                    have erp := ng_rs_pop (r := rr) hnj
                    have hdv2 : ng_dm rr.length = ng_dm rr.length := rfl
                    have hgi2 := ng_gi_pop hgi hto
                    have hbe2 := hbe
                    rw [erp] at hbe2
                    have hbs2 := hbs
                    rw [erp] at hbs2
                    have hbw2 := hbw1
                    have hme2 : ng_ms mn rr < ng_ms mn ((i2, t2, pr2) :: rr) := ng_ms_pop hg6
                    refine nr_ifneB (tgt := 80) hx hb d_D_goThrough_71 (by decide) (fun c => absurd c (by decide)) (fun c_71 => ?_)
                    refine lv_iinc (v := ng_dm rr.length) (lv' := [(1, .int (ng_dm rr.length)), (0, .ref dm)]) hx hb d_D_goThrough_74 hl (k := 1) rfl (ng_dm_eq rr.length) (by decide) rfl (fun ls hl => ?_)
                    refine lv_goto (tgt := 55) hx hb d_D_goThrough_77 (by decide) ?_
                    exact ih_55 rr (ng_dm rr.length) pr2 be1 fs1 tr9_2 bw1 bs1 hdv2 hgi2 hbe2 hbs2 hbw2 (by omega) _ _ hP hD hS ls (lv_sub hl [1, 0] rfl)
                  · subst hrr
                    rw [hp9] at hP
                    have hP : va_P (dC, dI) classes [cg_D dm th np ne fi kp iA tA oA uA wA sA eA vA yA lA ll mn xA cA zA pA bA fA gA bw1 bs1 ps qA rA aA kA lt wt fx, cg_O cA cI 110 co, cg_O pA cI 10 (ng_s2 pr2 i2 j), cg_O bA cI 10 be1, cg_N fA cI 11 fs1, cg_N gA cI 11 tr9_2] H := hP
                    have hD : va_D A [cg_D dm th np ne fi kp iA tA oA uA wA sA eA vA yA lA ll mn xA cA zA pA bA fA gA bw1 bs1 ps qA rA aA kA lt wt fx, cg_O cA cI 110 co, cg_O pA cI 10 (ng_s2 pr2 i2 j), cg_O bA cI 10 be1, cg_N fA cI 11 fs1, cg_N gA cI 11 tr9_2] := rw_re hD rfl
                    obtain ⟨htj1, hj10, hmy, ers⟩ := ng_rs_st (r := rr) hnj
                    obtain ⟨hgs, hok⟩ := ng_gi_st hmn hgi htj1 hj10 hmy hto htj
                    have hffl := ng_ff_le (pr := ng_s2 pr2 i2 j) (mn := mn)
                    have hij : i2 < j := by have h5 : i2 ≤ t2 := hg5; omega
                    refine nr_ifneB (tgt := 80) hx hb d_D_goThrough_71 (by decide) (fun c_71 => ?_) (fun c => absurd c (by decide))
                    refine lv_aload_n hx hb d_D_goThrough_80 rfl (lv_at hl 0 rfl) ?_
                    refine ro_Vi (As := []) (rest := []) ⟨hx, hb, hml, hown, hts⟩ (c_D_firstFree l dC dI cI cL cZ dm th np ne fi kp iA tA oA uA wA sA eA vA yA lA ll mn xA cA zA pA bA fA gA bw1 bs1 ps qA rA aA kA lt wt fx (ng_s2 pr2 i2 j) (by omega) (fun i j hi hp => (hok i j hi hp).1)) (cwV 0 hts (wg_V wk_D_157 wm_D_firstFree we_D_firstFree wi_D wc_D_firstFree) rfl rfl rfl (by decide +kernel) ⟨Nat.le_of_ble_eq_true rfl, Nat.le_of_ble_eq_true rfl⟩) hK (hP.sub [0, 2] rfl) (q0 := 0) rfl rfl rfl rfl hl.1 rfl (lv_room (Nat.le_of_ble_eq_true rfl)) d_D_goThrough_81 ⟨Nat.zero_le _, Nat.zero_le _⟩ hS hP (fun H locs hP hS => ?_)
                    refine lv_istore_n (lv' := [(2, .int (nI (ng_ff (ng_s2 pr2 i2 j) mn))), (0, .ref dm), (1, .int (nI rr.length))]) hx hb d_D_goThrough_84 rfl hl (by decide) rfl (fun ls hl => ?_)
                    refine lv_iload_n hx hb d_D_goThrough_85 rfl (lv_at hl 0 rfl) ?_
                    refine lv_aload_n hx hb d_D_goThrough_86 rfl (lv_at hl 1 rfl) ?_
                    refine va_get (D := (dC, dI)) (ci := 5) (v := .int (nI mn)) (C := R_D) (T := F_D) (N := 34) hx hb hts iD hown hK hP 0 rfl rfl 16 (by decide) (hts _ (List.mem_cons_of_mem _ wk_D_136)) (fun _ h9 => h9) rfl d_D_goThrough_87 ?_
                    refine nr_icmp_ne (by omega) (by omega) (tgt := 100) hx hb d_D_goThrough_90 (by decide) (fun c_90 => ?_) (fun c_90 => ?_)
                    · have hgp2 := ng_gi_push hij hmn hgs hok rfl c_90
                      have hgl2 : rr.length + 1 < mn := hgp2.2
                      refine lv_iinc (v := (nI (rr.length + 1))) (lv' := [(1, .int (nI (rr.length + 1))), (2, .int (nI (ng_ff (ng_s2 pr2 i2 j) mn))), (0, .ref dm)]) hx hb d_D_goThrough_100 hl (k := 2) rfl (nI_1 rr.length) (by decide) rfl (fun ls hl => ?_)
                      refine lv_aload_n hx hb d_D_goThrough_103 rfl (lv_at hl 2 rfl) ?_
                      refine va_get (D := (dC, dI)) (ci := 5) (v := .ref fA) (C := R_D) (T := F_D) (N := 34) hx hb hts iD hown hK hP 0 rfl rfl 22 (by decide) (hts _ (List.mem_cons_of_mem _ wk_D_56)) (fun _ h9 => h9) rfl d_D_goThrough_104 ?_
                      refine lv_iload_n hx hb d_D_goThrough_107 rfl (lv_at hl 0 rfl) ?_
                      refine lv_iload_n hx hb d_D_goThrough_108 rfl (lv_at hl 1 rfl) ?_
                      refine nr_iast hx hb hK hP hD hS 4 0 rfl rfl (by omega) (by decide) d_D_goThrough_109 (fun H locs hP hD hS => ?_)
                      have hP : va_P (dC, dI) classes [cg_D dm th np ne fi kp iA tA oA uA wA sA eA vA yA lA ll mn xA cA zA pA bA fA gA bw1 bs1 ps qA rA aA kA lt wt fx, cg_O cA cI 110 co, cg_O pA cI 10 (ng_s2 pr2 i2 j), cg_O bA cI 10 be1, cg_N fA cI 11 (va_up fs1 (rr.length + 1) (ng_ff (ng_s2 pr2 i2 j) mn)), cg_N gA cI 11 tr9_2] H := hP
                      have hD : va_D A [cg_D dm th np ne fi kp iA tA oA uA wA sA eA vA yA lA ll mn xA cA zA pA bA fA gA bw1 bs1 ps qA rA aA kA lt wt fx, cg_O cA cI 110 co, cg_O pA cI 10 (ng_s2 pr2 i2 j), cg_O bA cI 10 be1, cg_N fA cI 11 (va_up fs1 (rr.length + 1) (ng_ff (ng_s2 pr2 i2 j) mn)), cg_N gA cI 11 tr9_2] := hD
                      refine lv_aload_n hx hb d_D_goThrough_110 rfl (lv_at hl 2 rfl) ?_
                      refine va_get (D := (dC, dI)) (ci := 5) (v := .ref gA) (C := R_D) (T := F_D) (N := 34) hx hb hts iD hown hK hP 0 rfl rfl 23 (by decide) (hts _ (List.mem_cons_of_mem _ wk_D_59)) (fun _ h9 => h9) rfl d_D_goThrough_111 ?_
                      refine lv_iload_n hx hb d_D_goThrough_114 rfl (lv_at hl 0 rfl) ?_
                      refine lv_iload_n hx hb d_D_goThrough_115 rfl (lv_at hl 1 rfl) ?_
                      refine nr_iast hx hb hK hP hD hS 5 0 rfl rfl (by omega) (by decide) d_D_goThrough_116 (fun H locs hP hD hS => ?_)
                      have hP : va_P (dC, dI) classes [cg_D dm th np ne fi kp iA tA oA uA wA sA eA vA yA lA ll mn xA cA zA pA bA fA gA bw1 bs1 ps qA rA aA kA lt wt fx, cg_O cA cI 110 co, cg_O pA cI 10 (ng_s2 pr2 i2 j), cg_O bA cI 10 be1, cg_N fA cI 11 (va_up fs1 (rr.length + 1) (ng_ff (ng_s2 pr2 i2 j) mn)), cg_N gA cI 11 (va_up tr9_2 (rr.length + 1) (ng_ff (ng_s2 pr2 i2 j) mn))] H := hP
                      have hD : va_D A [cg_D dm th np ne fi kp iA tA oA uA wA sA eA vA yA lA ll mn xA cA zA pA bA fA gA bw1 bs1 ps qA rA aA kA lt wt fx, cg_O cA cI 110 co, cg_O pA cI 10 (ng_s2 pr2 i2 j), cg_O bA cI 10 be1, cg_N fA cI 11 (va_up fs1 (rr.length + 1) (ng_ff (ng_s2 pr2 i2 j) mn)), cg_N gA cI 11 (va_up tr9_2 (rr.length + 1) (ng_ff (ng_s2 pr2 i2 j) mn))] := hD
                      have hdv2 : nI (rr.length + 1) = ng_dm (((ng_ff (ng_s2 pr2 i2 j) mn, ng_ff (ng_s2 pr2 i2 j) mn, ng_s2 pr2 i2 j) :: (i2, j, pr2) :: rr) : List ng_fm).length := rfl
                      have hgi2 := hgp2.1
                      have hme2 : ng_ms mn ((ng_ff (ng_s2 pr2 i2 j) mn, ng_ff (ng_s2 pr2 i2 j) mn, ng_s2 pr2 i2 j) :: (i2, j, pr2) :: rr) < ng_ms mn ((i2, t2, pr2) :: rr) := ng_ms_s2 htj1 hj10 hgl
                      have erp := ng_rs_push (co := co) hgp2.2 rfl c_90 rfl
                      have hbe2 := hbe
                      rw [ers, erp] at hbe2
                      have hbs2 := hbs
                      rw [ers, erp] at hbs2
                      have hbw2 := hbw1
                      refine lv_goto (tgt := 55) hx hb d_D_goThrough_117 (by decide) ?_
                      exact ih_55 ((ng_ff (ng_s2 pr2 i2 j) mn, ng_ff (ng_s2 pr2 i2 j) mn, ng_s2 pr2 i2 j) :: (i2, j, pr2) :: rr) (nI (rr.length + 1)) (ng_s2 pr2 i2 j) be1 (va_up fs1 (rr.length + 1) (ng_ff (ng_s2 pr2 i2 j) mn)) (va_up tr9_2 (rr.length + 1) (ng_ff (ng_s2 pr2 i2 j) mn)) bw1 bs1 hdv2 hgi2 hbe2 hbs2 hbw2 (by omega) _ _ hP hD hS ls (lv_sub hl [2, 0] rfl)
                    · have hfl := ng_ok2_fl hmn hco hok c_90
                      refine lv_aload_n hx hb d_D_goThrough_93 rfl (lv_at hl 1 rfl) ?_
                      refine rw_Vv (wr := [cg_N fA cI 11 fs1, cg_N gA cI 11 tr9_2]) [0, 1, 2, 3] [4, 5] rfl rfl (by decide) (As := []) (rest := []) ⟨hx, hb, hml, hown, hts⟩ (c_D_hold l dC dI cI cL cZ dm th np ne fi kp iA tA oA uA wA sA eA vA yA lA ll mn xA cA zA pA bA fA gA bw1 bs1 ps qA rA aA kA lt wt fx (ng_s2 pr2 i2 j) co be1 (by omega) hfl (by omega) (by omega)) (cwV 0 hts (wg_V wk_D_151 wm_D_hold we_D_hold wi_D wc_D_hold) rfl rfl rfl (by decide +kernel) ⟨Nat.le_of_ble_eq_true rfl, Nat.le_of_ble_eq_true rfl⟩) hK (hP.sub [0, 1, 2, 3] rfl) ((hD.sub [0, 1, 2, 3] (by decide) rfl).weaken (fun _ _ _ _ => trivial)) (q0 := 0) rfl rfl rfl rfl hl.1 rfl (lv_room (Nat.le_of_ble_eq_true rfl)) d_D_goThrough_94 ⟨Nat.zero_le _, Nat.zero_le _⟩ hS hP hD (fun be9_5 H locs hw_7 hP hS => ?_)
                      have hP : va_P (dC, dI) classes [cg_D dm th np ne fi kp iA tA oA uA wA sA eA vA yA lA ll mn xA cA zA pA bA fA gA ((ng_hd mn co (bs1, bw1, be1) (ng_s2 pr2 i2 j)).2.1) ((ng_hd mn co (bs1, bw1, be1) (ng_s2 pr2 i2 j)).1) ps qA rA aA kA lt wt fx, cg_O cA cI 110 co, cg_O pA cI 10 (ng_s2 pr2 i2 j), cg_O bA cI 10 be9_5, cg_N fA cI 11 fs1, cg_N gA cI 11 tr9_2] H := hP.sub [2, 3, 4, 5, 0, 1] rfl
                      have hD : va_D A [cg_D dm th np ne fi kp iA tA oA uA wA sA eA vA yA lA ll mn xA cA zA pA bA fA gA ((ng_hd mn co (bs1, bw1, be1) (ng_s2 pr2 i2 j)).2.1) ((ng_hd mn co (bs1, bw1, be1) (ng_s2 pr2 i2 j)).1) ps qA rA aA kA lt wt fx, cg_O cA cI 110 co, cg_O pA cI 10 (ng_s2 pr2 i2 j), cg_O bA cI 10 be9_5, cg_N fA cI 11 fs1, cg_N gA cI 11 tr9_2] := rw_re hD rfl
                      try dsimp only at hw_7
                      have hdv2 : nI rr.length = ng_dm ((i2, j, pr2) :: rr : List ng_fm).length := rfl
                      have hgi2 := hgs
                      have hme2 : ng_ms mn ((i2, j, pr2) :: rr) < ng_ms mn ((i2, t2, pr2) :: rr) := ng_ms_s1 htj1 hj10
                      have hb9 := ng_hd_b (a := (bs1, bw1, be1)) hmn hfl hbw1
                      have hbw2 := hb9.1
                      have hbe2 := hbe
                      rw [ers, ng_en_1 c_90, List.singleton_append, List.foldl_cons] at hbe2
                      replace hbe2 := ng_eqA_t (ng_fo_cg (co := co) (ng_rs mn co ((i2, j, pr2) :: rr)) ((ng_hd mn co (bs1, bw1, be1) (ng_s2 pr2 i2 j)).1, (ng_hd mn co (bs1, bw1, be1) (ng_s2 pr2 i2 j)).2.1, be9_5) (ng_hd mn co (bs1, bw1, be1) (ng_s2 pr2 i2 j)) ⟨rfl, rfl, hw_7⟩) hbe2
                      have hbs2 : (ng_hd mn co (bs1, bw1, be1) (ng_s2 pr2 i2 j)).1 + (ng_rs mn co ((i2, j, pr2) :: rr)).length ≤ 3628800 := by have h7 := hbs; rw [ers, ng_en_1 c_90, List.singleton_append, List.length_cons] at h7; have h8 : (ng_hd mn co (bs1, bw1, be1) (ng_s2 pr2 i2 j)).1 ≤ bs1 + 1 := hb9.2; omega
                      refine lv_goto (tgt := 55) hx hb d_D_goThrough_97 (by decide) ?_
                      exact ih_55 ((i2, j, pr2) :: rr) (nI rr.length) (ng_s2 pr2 i2 j) be9_5 fs1 tr9_2 ((ng_hd mn co (bs1, bw1, be1) (ng_s2 pr2 i2 j)).2.1) ((ng_hd mn co (bs1, bw1, be1) (ng_s2 pr2 i2 j)).1) hdv2 hgi2 hbe2 hbs2 hbw2 (by omega) _ _ hP hD hS ls (lv_sub hl [1, 2] rfl)
          exact lp_55 (ng_ms mn ([(0, 0, pr1)]) + 1) ([(0, 0, pr1)]) (nI 0) pr1 be (va_up fs 0 0) (va_up tr 0 0) bw 0 rfl (ng_gi_0 h0 hpn) (by rw [ng_rs_0 h0 hpn]; exact ⟨rfl, rfl, fun _ _ => rfl⟩) (by rw [ng_rs_0 h0 hpn]; have := ng_en_l (co := co) (pr := pr1) hmn mn; omega) hbw (Nat.lt_succ_self _) _ _ hP hD hS ls (lv_sub hl [1, 0] rfl)
        · have hz : mn = 0 := by omega
          have hfl : ng_fl mn pr1 co := fun i hi => absurd hi (by omega)
          refine lv_aload_n hx hb d_D_goThrough_51 rfl (lv_at hl 1 rfl) ?_
          refine rw_Vv (wr := [cg_N fA cI 11 (va_up fs 0 0), cg_N gA cI 11 (va_up tr 0 0)]) [0, 1, 2, 3] [4, 5] rfl rfl (by decide) (As := []) (rest := []) ⟨hx, hb, hml, hown, hts⟩ (c_D_hold l dC dI cI cL cZ dm th np ne fi kp iA tA oA uA wA sA eA vA yA lA ll mn xA cA zA pA bA fA gA bw 0 ps qA rA aA kA lt wt fx pr1 co be (by omega) hfl (by omega) (by omega)) (cwV 0 hts (wg_V wk_D_151 wm_D_hold we_D_hold wi_D wc_D_hold) rfl rfl rfl (by decide +kernel) ⟨Nat.le_of_ble_eq_true rfl, Nat.le_of_ble_eq_true rfl⟩) hK (hP.sub [0, 1, 2, 3] rfl) ((hD.sub [0, 1, 2, 3] (by decide) rfl).weaken (fun _ _ _ _ => trivial)) (q0 := 0) rfl rfl rfl rfl hl.1 rfl (lv_room (Nat.le_of_ble_eq_true rfl)) d_D_goThrough_52 ⟨Nat.zero_le _, Nat.zero_le _⟩ hS hP hD (fun be9_8 H locs hw_10 hP hS => ?_)
          have hP : va_P (dC, dI) classes [cg_D dm th np ne fi kp iA tA oA uA wA sA eA vA yA lA ll mn xA cA zA pA bA fA gA ((ng_hd mn co (0, bw, be) pr1).2.1) ((ng_hd mn co (0, bw, be) pr1).1) ps qA rA aA kA lt wt fx, cg_O cA cI 110 co, cg_O pA cI 10 pr1, cg_O bA cI 10 be9_8, cg_N fA cI 11 (va_up fs 0 0), cg_N gA cI 11 (va_up tr 0 0)] H := hP.sub [2, 3, 4, 5, 0, 1] rfl
          have hD : va_D A [cg_D dm th np ne fi kp iA tA oA uA wA sA eA vA yA lA ll mn xA cA zA pA bA fA gA ((ng_hd mn co (0, bw, be) pr1).2.1) ((ng_hd mn co (0, bw, be) pr1).1) ps qA rA aA kA lt wt fx, cg_O cA cI 110 co, cg_O pA cI 10 pr1, cg_O bA cI 10 be9_8, cg_N fA cI 11 (va_up fs 0 0), cg_N gA cI 11 (va_up tr 0 0)] := rw_re hD rfl
          try dsimp only at hw_10
          have hb9 := hw_10
          refine lv_iload_n hx hb d_D_goThrough_55 rfl (lv_at hl 0 rfl) ?_
          refine nr_if_lt (by omega) (tgt := 120) hx hb d_D_goThrough_56 (by decide) (fun c => False.elim c) (fun c_56 => ?_)
          refine lv_aload_n hx hb d_D_goThrough_59 rfl (lv_at hl 1 rfl) ?_
          refine va_get (D := (dC, dI)) (ci := 5) (v := .int (nI mn)) (C := R_D) (T := F_D) (N := 34) hx hb hts iD hown hK hP 0 rfl rfl 16 (by decide) (hts _ (List.mem_cons_of_mem _ wk_D_136)) (fun _ h9 => h9) rfl d_D_goThrough_60 ?_
          refine nr_if_le (by omega) (tgt := 120) hx hb d_D_goThrough_63 (by decide) (fun c_63 => ?_) (fun c_63 => ?_)
          · exact rw_vret (pr1, be9_8, va_up fs 0 0, va_up tr 0 0, (ng_hd mn co (0, bw, be) pr1).2.1, (ng_hd mn co (0, bw, be) pr1).1, pr1) hx hb hr hlocks hS hP (⟨hpn, by have e9 := ng_en_1 (co := co) (show ng_ff pr1 mn = mn by have := ng_ff_le (pr := pr1) (mn := mn); omega) mn; rw [e9]; exact ⟨rfl, rfl, hb9⟩, (ng_hd_b (a := (0, bw, be)) hmn hfl hbw).1, by have h9 : (ng_hd mn co (0, bw, be) pr1).1 ≤ 0 + 1 := (ng_hd_b (a := (0, bw, be)) hmn hfl hbw).2; show (ng_hd mn co (0, bw, be) pr1).1 ≤ _; omega⟩) d_D_goThrough_120
          · exact False.elim (by omega)
      · refine lv_aload_n hx hb d_D_goThrough_15 rfl (lv_at hl 0 rfl) ?_
        refine va_get (D := (dC, dI)) (ci := 5) (v := .ref pA) (C := R_D) (T := F_D) (N := 34) hx hb hts iD hown hK hP 0 rfl rfl 20 (by decide) (hts _ (List.mem_cons_of_mem _ wk_D_50)) (fun _ h9 => h9) rfl d_D_goThrough_16 ?_
        refine lv_iload_n hx hb d_D_goThrough_19 rfl (lv_at hl 1 rfl) ?_
        refine lv_iconst (v := -1) hx hb d_D_goThrough_20 (by decide) ?_
        refine nr_oast (x := none) hx hb hK hP hD hS 2 0 rfl rfl (by omega) (by decide) d_D_goThrough_21 (fun H locs hP hD hS => ?_)
        have hP : va_P (dC, dI) classes [cg_D dm th np ne fi kp iA tA oA uA wA sA eA vA yA lA ll mn xA cA zA pA bA fA gA bw 0 ps qA rA aA kA lt wt fx, cg_O cA cI 110 co, cg_O pA cI 10 (va_up pr1 i none), cg_O bA cI 10 be, cg_N fA cI 11 fs, cg_N gA cI 11 tr] H := hP
        have hD : va_D A [cg_D dm th np ne fi kp iA tA oA uA wA sA eA vA yA lA ll mn xA cA zA pA bA fA gA bw 0 ps qA rA aA kA lt wt fx, cg_O cA cI 110 co, cg_O pA cI 10 (va_up pr1 i none), cg_O bA cI 10 be, cg_N fA cI 11 fs, cg_N gA cI 11 tr] := hD
        refine lv_iinc (v := (nI (i + 1))) (lv' := [(1, .int (nI (i + 1))), (0, .ref dm)]) hx hb d_D_goThrough_22 hl (k := 1) rfl (nI_1 i) (by decide) rfl (fun ls hl => ?_)
        refine lv_goto (tgt := 7) hx hb d_D_goThrough_25 (by decide) ?_
        exact ih_7 (i + 1) (va_up pr1 i none) (by omega) (fun k hk => by by_cases q : k = i; (subst q; rw [va_up_self]); (rw [va_up_ne _ _ q]; exact hp1 k (by omega))) (by omega) _ _ hP hD hS ls (lv_sub hl [1, 0] rfl)
  exact lp_7 (mn - 0 + 1) 0 pr (by omega) (fun k h => absurd h (Nat.not_lt_zero _)) (Nat.lt_succ_self _) _ _ hP hD hS ls (lv_sub hl [1, 0] rfl)
