set_option maxHeartbeats 4000000 in
set_option maxRecDepth 100000 in
theorem c_F_begin (l : Launch) (dC : Nat → ClassId) (dI : Nat → Nat → Nat) (cI cL : ClassId) (fo lA hA sz wt lc : Nat) (od : Int64) (w k : Nat)  : Met l y_F_begin w_F_begin ({ frames := 0, cells := 0, slots := 0, locals := 0 } : Room) (va_Pc [.ref fo, .int (nI w), .int (nI k)] (rw_B (dC, dI) classes [(cI, .int), (cL, .long)] [cg_F fo lA hA sz wt lc od])) (rw_Qv (dC, dI) classes (rw_A [cg_F fo lA hA sz wt lc od]) (fun (u : Unit) => True) (fun u => [cg_F fo lA hA 0 w k (lN 0)])) 0 0 (rw_A [cg_F fo lA hA sz wt lc od]) := by
  refine Met.ofW (cc := b_F_begin) (maxL := 3) (ret := none) (by decide) rfl ?_
  intro p e s m args below meth c s₁ B hml hv
  obtain ⟨rfl, hP, hK, hD0⟩ := hv
  have hx := B.exec
  have hb := B.bytes
  have hr := B.returns
  have hts := atoms_spec (ws := w_F_begin) B.pre
  have hown : s.vm.findClass R_F = some m.cls := findClass_of_methodNamed B.named
  have hlocks := B.notSynchronized
  have iF : ∀ w ∈ w_F, w ∈ w_F_begin := fun w h => List.mem_cons_of_mem _ (i_F w h)
  have hD := rw_own hD0
  generalize hAe : rw_A [cg_F fo lA hA sz wt lc od] = A at hD ⊢
  have hS : va_S A s.heap s.heap [] := va_S.rf
  have hP : va_P (dC, dI) classes [cg_F fo lA hA sz wt lc od] s.heap := hP
  have hl := lv_entry ([.ref fo, .int (nI w), .int (nI k)]) (n := 3) (Nat.le_of_ble_eq_true rfl)
  rw [lg_entry_eq]
  generalize (lg_sl ([.ref fo, .int (nI w), .int (nI k)]) ++ List.replicate (3 - (lg_sl ([.ref fo, .int (nI w), .int (nI k)])).length) Slot.unset).toArray = ls at hl ⊢
  have hl : lv_has ls 3 [(0, .ref fo), (1, .int (nI w)), (2, .int (nI k))] := hl
  refine lv_aload_n hx hb d_F_begin_0 rfl (lv_at hl 0 rfl) ?_
  refine lv_iconst (v := nI 0) hx hb d_F_begin_1 (by decide) ?_
  refine va_put (D := (dC, dI)) (ci := 2) (v := .int (nI 0)) (ty := .int) (C := R_F) (T := F_F) (N := 6) hx hb hts iF t_F t_F_ok n_F hown hK hP hD hS 0 rfl rfl 2 (by decide) (hts _ (List.mem_cons_of_mem _ wk_F_18)) (fun _ h9 => h9) rfl (by decide +kernel) rfl rfl (Nat.le_of_ble_eq_true rfl) d_F_begin_2 (fun H locs hP hD hS => ?_)
  have hP : va_P (dC, dI) classes [cg_F fo lA hA 0 wt lc od] H := hP
  have hD : va_D A [cg_F fo lA hA 0 wt lc od] := hD
  refine lv_aload_n hx hb d_F_begin_5 rfl (lv_at hl 0 rfl) ?_
  refine lv_iload_n hx hb d_F_begin_6 rfl (lv_at hl 1 rfl) ?_
  refine va_put (D := (dC, dI)) (ci := 2) (v := .int (nI w)) (ty := .int) (C := R_F) (T := F_F) (N := 6) hx hb hts iF t_F t_F_ok n_F hown hK hP hD hS 0 rfl rfl 3 (by decide) (hts _ (List.mem_cons_of_mem _ wk_F_22)) (fun _ h9 => h9) rfl (by decide +kernel) rfl rfl (Nat.le_of_ble_eq_true rfl) d_F_begin_7 (fun H locs hP hD hS => ?_)
  have hP : va_P (dC, dI) classes [cg_F fo lA hA 0 w lc od] H := hP
  have hD : va_D A [cg_F fo lA hA 0 w lc od] := hD
  refine lv_aload_n hx hb d_F_begin_10 rfl (lv_at hl 0 rfl) ?_
  refine lv_iload_n hx hb d_F_begin_11 rfl (lv_at hl 2 rfl) ?_
  refine va_put (D := (dC, dI)) (ci := 2) (v := .int (nI k)) (ty := .int) (C := R_F) (T := F_F) (N := 6) hx hb hts iF t_F t_F_ok n_F hown hK hP hD hS 0 rfl rfl 4 (by decide) (hts _ (List.mem_cons_of_mem _ wk_F_25)) (fun _ h9 => h9) rfl (by decide +kernel) rfl rfl (Nat.le_of_ble_eq_true rfl) d_F_begin_12 (fun H locs hP hD hS => ?_)
  have hP : va_P (dC, dI) classes [cg_F fo lA hA 0 w k od] H := hP
  have hD : va_D A [cg_F fo lA hA 0 w k od] := hD
  refine lv_aload_n hx hb d_F_begin_15 rfl (lv_at hl 0 rfl) ?_
  refine lv_lconst (v := lN 0) hx hb d_F_begin_16 (by decide) ?_
  refine va_put (D := (dC, dI)) (ci := 2) (v := .long (lN 0)) (ty := .long) (C := R_F) (T := F_F) (N := 6) hx hb hts iF t_F t_F_ok n_F hown hK hP hD hS 0 rfl rfl 5 (by decide) (hts _ (List.mem_cons_of_mem _ wk_F_28)) (fun _ h9 => h9) rfl (by decide +kernel) rfl rfl (Nat.le_of_ble_eq_true rfl) d_F_begin_17 (fun H locs hP hD hS => ?_)
  have hP : va_P (dC, dI) classes [cg_F fo lA hA 0 w k (lN 0)] H := hP
  have hD : va_D A [cg_F fo lA hA 0 w k (lN 0)] := hD
  exact rw_vret () hx hb hr hlocks hS hP trivial d_F_begin_20
set_option maxHeartbeats 4000000 in
set_option maxRecDepth 100000 in
theorem c_F_addPair (l : Launch) (dC : Nat → ClassId) (dI : Nat → Nat → Nat) (cI cL : ClassId) (fo lA hA sz wt lc : Nat) (od : Int64) (le ho : Nat → Nat) (a b : Nat) (x : Int64) (hsz : sz < 10) : Met l y_F_addPair w_F_addPair ({ frames := 0, cells := 0, slots := 0, locals := 0 } : Room) (va_Pc [.ref fo, .int (nI a), .int (nI b), .long x] (rw_B (dC, dI) classes [(cI, .int), (cL, .long)] [cg_F fo lA hA sz wt lc od, cg_N lA cI 10 le, cg_N hA cI 10 ho])) (rw_Qv (dC, dI) classes (rw_A [cg_F fo lA hA sz wt lc od, cg_N lA cI 10 le, cg_N hA cI 10 ho]) (fun (u : Unit) => True) (fun u => [cg_F fo lA hA (sz + 1) wt lc (od ^^^ x), cg_N lA cI 10 (va_up le sz a), cg_N hA cI 10 (va_up ho sz b)])) 0 0 (rw_A [cg_F fo lA hA sz wt lc od, cg_N lA cI 10 le, cg_N hA cI 10 ho]) := by
  refine Met.ofW (cc := b_F_addPair) (maxL := 5) (ret := none) (by decide) rfl ?_
  intro p e s m args below meth c s₁ B hml hv
  obtain ⟨rfl, hP, hK, hD0⟩ := hv
  have hx := B.exec
  have hb := B.bytes
  have hr := B.returns
  have hts := atoms_spec (ws := w_F_addPair) B.pre
  have hown : s.vm.findClass R_F = some m.cls := findClass_of_methodNamed B.named
  have hlocks := B.notSynchronized
  have iF : ∀ w ∈ w_F, w ∈ w_F_addPair := fun w h => List.mem_cons_of_mem _ (i_F w h)
  have hD := rw_own hD0
  generalize hAe : rw_A [cg_F fo lA hA sz wt lc od, cg_N lA cI 10 le, cg_N hA cI 10 ho] = A at hD ⊢
  have hS : va_S A s.heap s.heap [] := va_S.rf
  have hP : va_P (dC, dI) classes [cg_F fo lA hA sz wt lc od, cg_N lA cI 10 le, cg_N hA cI 10 ho] s.heap := hP
  have hl := lv_entry ([.ref fo, .int (nI a), .int (nI b), .long x]) (n := 5) (Nat.le_of_ble_eq_true rfl)
  rw [lg_entry_eq]
  generalize (lg_sl ([.ref fo, .int (nI a), .int (nI b), .long x]) ++ List.replicate (5 - (lg_sl ([.ref fo, .int (nI a), .int (nI b), .long x])).length) Slot.unset).toArray = ls at hl ⊢
  have hl : lv_has ls 5 [(0, .ref fo), (1, .int (nI a)), (2, .int (nI b)), (3, .long x)] := hl
  refine lv_aload_n hx hb d_F_addPair_0 rfl (lv_at hl 0 rfl) ?_
  refine va_get (D := (dC, dI)) (ci := 2) (v := .int (nI sz)) (C := R_F) (T := F_F) (N := 6) hx hb hts iF hown hK hP 0 rfl rfl 2 (by decide) (hts _ (List.mem_cons_of_mem _ wk_F_18)) (fun _ h9 => h9) rfl d_F_addPair_1 ?_
  refine lv_bipush (v := nI 10) hx hb d_F_addPair_4 (by decide) ?_
  refine nr_icmp_lt (by omega) (by omega) (tgt := 10) hx hb d_F_addPair_6 (by decide) (fun c_6 => ?_) (fun c_6 => ?_)
  · refine lv_aload_n hx hb d_F_addPair_10 rfl (lv_at hl 0 rfl) ?_
    refine va_get (D := (dC, dI)) (ci := 2) (v := .ref lA) (C := R_F) (T := F_F) (N := 6) hx hb hts iF hown hK hP 0 rfl rfl 0 (by decide) (hts _ (List.mem_cons_of_mem _ wk_F_9)) (fun _ h9 => h9) rfl d_F_addPair_11 ?_
    refine lv_aload_n hx hb d_F_addPair_14 rfl (lv_at hl 0 rfl) ?_
    refine va_get (D := (dC, dI)) (ci := 2) (v := .int (nI sz)) (C := R_F) (T := F_F) (N := 6) hx hb hts iF hown hK hP 0 rfl rfl 2 (by decide) (hts _ (List.mem_cons_of_mem _ wk_F_18)) (fun _ h9 => h9) rfl d_F_addPair_15 ?_
    refine lv_iload_n hx hb d_F_addPair_18 rfl (lv_at hl 1 rfl) ?_
    refine nr_iast hx hb hK hP hD hS 1 0 rfl rfl (by omega) (by decide) d_F_addPair_19 (fun H locs hP hD hS => ?_)
    have hP : va_P (dC, dI) classes [cg_F fo lA hA sz wt lc od, cg_N lA cI 10 (va_up le sz a), cg_N hA cI 10 ho] H := hP
    have hD : va_D A [cg_F fo lA hA sz wt lc od, cg_N lA cI 10 (va_up le sz a), cg_N hA cI 10 ho] := hD
    refine lv_aload_n hx hb d_F_addPair_20 rfl (lv_at hl 0 rfl) ?_
    refine va_get (D := (dC, dI)) (ci := 2) (v := .ref hA) (C := R_F) (T := F_F) (N := 6) hx hb hts iF hown hK hP 0 rfl rfl 1 (by decide) (hts _ (List.mem_cons_of_mem _ wk_F_15)) (fun _ h9 => h9) rfl d_F_addPair_21 ?_
    refine lv_aload_n hx hb d_F_addPair_24 rfl (lv_at hl 0 rfl) ?_
    refine va_get (D := (dC, dI)) (ci := 2) (v := .int (nI sz)) (C := R_F) (T := F_F) (N := 6) hx hb hts iF hown hK hP 0 rfl rfl 2 (by decide) (hts _ (List.mem_cons_of_mem _ wk_F_18)) (fun _ h9 => h9) rfl d_F_addPair_25 ?_
    refine lv_iload_n hx hb d_F_addPair_28 rfl (lv_at hl 2 rfl) ?_
    refine nr_iast hx hb hK hP hD hS 2 0 rfl rfl (by omega) (by decide) d_F_addPair_29 (fun H locs hP hD hS => ?_)
    have hP : va_P (dC, dI) classes [cg_F fo lA hA sz wt lc od, cg_N lA cI 10 (va_up le sz a), cg_N hA cI 10 (va_up ho sz b)] H := hP
    have hD : va_D A [cg_F fo lA hA sz wt lc od, cg_N lA cI 10 (va_up le sz a), cg_N hA cI 10 (va_up ho sz b)] := hD
    refine lv_aload_n hx hb d_F_addPair_30 rfl (lv_at hl 0 rfl) ?_
    refine lv_dup hx hb d_F_addPair_31 rfl ?_
    refine va_get (D := (dC, dI)) (ci := 2) (v := .int (nI sz)) (C := R_F) (T := F_F) (N := 6) hx hb hts iF hown hK hP 0 rfl rfl 2 (by decide) (hts _ (List.mem_cons_of_mem _ wk_F_18)) (fun _ h9 => h9) rfl d_F_addPair_32 ?_
    refine lv_iconst (v := nI 1) hx hb d_F_addPair_35 (by decide) ?_
    refine nr_iadd hx hb d_F_addPair_36 ?_
    refine va_put (D := (dC, dI)) (ci := 2) (v := .int (nI (sz + 1))) (ty := .int) (C := R_F) (T := F_F) (N := 6) hx hb hts iF t_F t_F_ok n_F hown hK hP hD hS 0 rfl rfl 2 (by decide) (hts _ (List.mem_cons_of_mem _ wk_F_18)) (fun _ h9 => h9) rfl (by decide +kernel) rfl rfl (Nat.le_of_ble_eq_true rfl) d_F_addPair_37 (fun H locs hP hD hS => ?_)
    have hP : va_P (dC, dI) classes [cg_F fo lA hA (sz + 1) wt lc od, cg_N lA cI 10 (va_up le sz a), cg_N hA cI 10 (va_up ho sz b)] H := hP
    have hD : va_D A [cg_F fo lA hA (sz + 1) wt lc od, cg_N lA cI 10 (va_up le sz a), cg_N hA cI 10 (va_up ho sz b)] := hD
    refine lv_aload_n hx hb d_F_addPair_40 rfl (lv_at hl 0 rfl) ?_
    refine lv_dup hx hb d_F_addPair_41 rfl ?_
    refine va_get (D := (dC, dI)) (ci := 2) (v := .long od) (C := R_F) (T := F_F) (N := 6) hx hb hts iF hown hK hP 0 rfl rfl 5 (by decide) (hts _ (List.mem_cons_of_mem _ wk_F_28)) (fun _ h9 => h9) rfl d_F_addPair_42 ?_
    refine lv_lload_n hx hb d_F_addPair_45 rfl (lv_at hl 3 rfl) ?_
    refine lv_lxor hx hb d_F_addPair_46 ?_
    refine va_put (D := (dC, dI)) (ci := 2) (v := .long (od ^^^ x)) (ty := .long) (C := R_F) (T := F_F) (N := 6) hx hb hts iF t_F t_F_ok n_F hown hK hP hD hS 0 rfl rfl 5 (by decide) (hts _ (List.mem_cons_of_mem _ wk_F_28)) (fun _ h9 => h9) rfl (by decide +kernel) rfl rfl (Nat.le_of_ble_eq_true rfl) d_F_addPair_47 (fun H locs hP hD hS => ?_)
    have hP : va_P (dC, dI) classes [cg_F fo lA hA (sz + 1) wt lc (od ^^^ x), cg_N lA cI 10 (va_up le sz a), cg_N hA cI 10 (va_up ho sz b)] H := hP
    have hD : va_D A [cg_F fo lA hA (sz + 1) wt lc (od ^^^ x), cg_N lA cI 10 (va_up le sz a), cg_N hA cI 10 (va_up ho sz b)] := hD
    exact rw_vret () hx hb hr hlocks hS hP trivial d_F_addPair_50
  · exact absurd hsz (by omega)
set_option maxHeartbeats 4000000 in
set_option maxRecDepth 100000 in
theorem c_M_wholeGroup (l : Launch) (dC : Nat → ClassId) (dI : Nat → Nat → Nat) (cI cL : ClassId) (mt g wy xA nA pA qA kA rl : Nat) (hrl : rl ≤ 10) : Met l y_M_wholeGroup w_M_wholeGroup ({ frames := 0, cells := 0, slots := 0, locals := 0 } : Room) (va_Pc [.ref mt] (ro_B (dC, dI) classes [(cI, .int), (cL, .long)] [cg_M mt g wy xA nA pA qA kA rl])) (ro_Qi (nI (2 ^ rl - 1))) 0 0 ro_A := by
  refine Met.ofW (cc := b_M_wholeGroup) (maxL := 1) (ret := (some .int)) (by decide) rfl ?_
  intro p e s m args below meth c s₁ B hml hv
  obtain ⟨rfl, hP, hK⟩ := hv
  have hx := B.exec
  have hb := B.bytes
  have hr := B.returns
  have hts := atoms_spec (ws := w_M_wholeGroup) B.pre
  have hown : s.vm.findClass R_M = some m.cls := findClass_of_methodNamed B.named
  have hlocks := B.notSynchronized
  have iM : ∀ w ∈ w_M, w ∈ w_M_wholeGroup := fun w h => List.mem_cons_of_mem _ (i_M w h)
  have hS : va_S ro_A s.heap s.heap [] := va_S.rf
  have hP : va_P (dC, dI) classes [cg_M mt g wy xA nA pA qA kA rl] s.heap := hP
  have hl := lv_entry ([.ref mt]) (n := 1) (Nat.le_of_ble_eq_true rfl)
  rw [lg_entry_eq]
  generalize (lg_sl ([.ref mt]) ++ List.replicate (1 - (lg_sl ([.ref mt])).length) Slot.unset).toArray = ls at hl ⊢
  have hl : lv_has ls 1 [(0, .ref mt)] := hl
  refine lv_iconst (v := nI 1) hx hb d_M_wholeGroup_0 (by decide) ?_
  refine lv_aload_n hx hb d_M_wholeGroup_1 rfl (lv_at hl 0 rfl) ?_
  refine va_get (D := (dC, dI)) (ci := 3) (v := .int (nI rl)) (C := R_M) (T := F_M) (N := 8) hx hb hts iM hown hK hP 0 rfl rfl 7 (by decide) (hts _ (List.mem_cons_of_mem _ wk_M_27)) (fun _ h9 => h9) rfl d_M_wholeGroup_2 ?_
  refine lv_ishl hx hb d_M_wholeGroup_5 ?_
  refine nr_as (v := nb_o rl) rfl ?_
  refine lv_iconst (v := nI 1) hx hb d_M_wholeGroup_6 (by decide) ?_
  refine lv_isub hx hb d_M_wholeGroup_7 ?_
  exact ro_iret hx hb hr hlocks hS (ng_whole hrl) d_M_wholeGroup_8
set_option maxHeartbeats 4000000 in
set_option maxRecDepth 100000 in
theorem c_M_pointOf (l : Launch) (dC : Nat → ClassId) (dI : Nat → Nat → Nat) (cI cL : ClassId) (mt g wy xA nA pA qA kA rl : Nat) (row : Nat → Nat) (nr : Nat → Option Nat) (a b : Nat) (ha : a < 10) (hb1 : b < 10) : Met l y_M_pointOf w_M_pointOf ({ frames := 0, cells := 0, slots := 0, locals := 0 } : Room) (va_Pc [.ref mt, .int (nI a), .int (nI b)] (ro_B (dC, dI) classes [(cI, .int), (cL, .long)] [cg_M mt g wy xA nA pA qA kA rl, cg_N xA cI 10 row, cg_O nA cI 10 nr])) (ro_Qi (ng_oi (ng_pt row nr a b))) 0 0 ro_A := by
  refine Met.ofW (cc := b_M_pointOf) (maxL := 3) (ret := (some .int)) (by decide) rfl ?_
  intro p e s m args below meth c s₁ B hml hv
  obtain ⟨rfl, hP, hK⟩ := hv
  have hx := B.exec
  have hb := B.bytes
  have hr := B.returns
  have hts := atoms_spec (ws := w_M_pointOf) B.pre
  have hown : s.vm.findClass R_M = some m.cls := findClass_of_methodNamed B.named
  have hlocks := B.notSynchronized
  have iM : ∀ w ∈ w_M, w ∈ w_M_pointOf := fun w h => List.mem_cons_of_mem _ (i_M w h)
  have hS : va_S ro_A s.heap s.heap [] := va_S.rf
  have hP : va_P (dC, dI) classes [cg_M mt g wy xA nA pA qA kA rl, cg_N xA cI 10 row, cg_O nA cI 10 nr] s.heap := hP
  have hl := lv_entry ([.ref mt, .int (nI a), .int (nI b)]) (n := 3) (Nat.le_of_ble_eq_true rfl)
  rw [lg_entry_eq]
  generalize (lg_sl ([.ref mt, .int (nI a), .int (nI b)]) ++ List.replicate (3 - (lg_sl ([.ref mt, .int (nI a), .int (nI b)])).length) Slot.unset).toArray = ls at hl ⊢
  have hl : lv_has ls 3 [(0, .ref mt), (1, .int (nI a)), (2, .int (nI b))] := hl
  refine lv_iload_n hx hb d_M_pointOf_0 rfl (lv_at hl 2 rfl) ?_
  refine lv_iload_n hx hb d_M_pointOf_1 rfl (lv_at hl 1 rfl) ?_
  refine nr_icmp_ne (by omega) (by omega) (tgt := 14) hx hb d_M_pointOf_2 (by decide) (fun c_2 => ?_) (fun c_2 => ?_)
  · refine lv_aload_n hx hb d_M_pointOf_14 rfl (lv_at hl 0 rfl) ?_
    refine va_get (D := (dC, dI)) (ci := 3) (v := .ref xA) (C := R_M) (T := F_M) (N := 8) hx hb hts iM hown hK hP 0 rfl rfl 2 (by decide) (hts _ (List.mem_cons_of_mem _ wk_M_9)) (fun _ h9 => h9) rfl d_M_pointOf_15 ?_
    refine lv_iload_n hx hb d_M_pointOf_18 rfl (lv_at hl 2 rfl) ?_
    refine nr_iald hx hb hK hP 1 0 rfl rfl (by omega) (by decide) d_M_pointOf_19 ?_
    exact ro_iret hx hb hr hlocks hS (by first | (rw [ng_pt, if_pos c_2]; done) | (rw [ng_pt, if_neg c_2]; rfl)) d_M_pointOf_20
  · refine lv_aload_n hx hb d_M_pointOf_5 rfl (lv_at hl 0 rfl) ?_
    refine va_get (D := (dC, dI)) (ci := 3) (v := .ref nA) (C := R_M) (T := F_M) (N := 8) hx hb hts iM hown hK hP 0 rfl rfl 3 (by decide) (hts _ (List.mem_cons_of_mem _ wk_M_15)) (fun _ h9 => h9) rfl d_M_pointOf_6 ?_
    refine lv_iload_n hx hb d_M_pointOf_9 rfl (lv_at hl 1 rfl) ?_
    refine nr_oald hx hb hK hP 2 0 rfl rfl (by omega) (by decide) d_M_pointOf_10 ?_
    refine lv_goto (tgt := 20) hx hb d_M_pointOf_11 (by decide) ?_
    exact ro_iret hx hb hr hlocks hS (by first | (rw [ng_pt, if_pos c_2]; done) | (rw [ng_pt, if_neg c_2]; rfl)) d_M_pointOf_20
set_option maxHeartbeats 4000000 in
set_option maxRecDepth 100000 in
theorem c_M_without (l : Launch) (dC : Nat → ClassId) (dI : Nat → Nat → Nat) (cI cL : ClassId) (g a b : Nat)  : Met l y_M_without w_M_without ({ frames := 0, cells := 0, slots := 0, locals := 0 } : Room) (va_Pc [.int (nI g), .int (nI a), .int (nI b)] (ro_B (dC, dI) classes [(cI, .int), (cL, .long)] [])) (ro_Qi (nI (ng_wo g a b))) 0 0 ro_A := by
  refine Met.ofW (cc := b_M_without) (maxL := 3) (ret := (some .int)) (by decide) rfl ?_
  intro p e s m args below meth c s₁ B hml hv
  obtain ⟨rfl, hP, hK⟩ := hv
  have hx := B.exec
  have hb := B.bytes
  have hr := B.returns
  have hts := atoms_spec (ws := w_M_without) B.pre
  have hown : s.vm.findClass R_M = some m.cls := findClass_of_methodNamed B.named
  have hlocks := B.notSynchronized
  have hS : va_S ro_A s.heap s.heap [] := va_S.rf
  have hP : va_P (dC, dI) classes [] s.heap := hP
  have hl := lv_entry ([.int (nI g), .int (nI a), .int (nI b)]) (n := 3) (Nat.le_of_ble_eq_true rfl)
  rw [lg_entry_eq]
  generalize (lg_sl ([.int (nI g), .int (nI a), .int (nI b)]) ++ List.replicate (3 - (lg_sl ([.int (nI g), .int (nI a), .int (nI b)])).length) Slot.unset).toArray = ls at hl ⊢
  have hl : lv_has ls 3 [(0, .int (nI g)), (1, .int (nI a)), (2, .int (nI b))] := hl
  refine lv_iload_n hx hb d_M_without_0 rfl (lv_at hl 0 rfl) ?_
  refine lv_iconst (v := nI 1) hx hb d_M_without_1 (by decide) ?_
  refine lv_iload_n hx hb d_M_without_2 rfl (lv_at hl 1 rfl) ?_
  refine lv_ishl hx hb d_M_without_3 ?_
  refine nr_as (v := nb_o a) rfl ?_
  refine lv_iconst (v := nI 1) hx hb d_M_without_4 (by decide) ?_
  refine lv_iload_n hx hb d_M_without_5 rfl (lv_at hl 2 rfl) ?_
  refine lv_ishl hx hb d_M_without_6 ?_
  refine nr_as (v := nb_o b) rfl ?_
  refine lv_ior hx hb d_M_without_7 ?_
  refine lv_iconst (v := -1) hx hb d_M_without_8 (by decide) ?_
  refine lv_ixor hx hb d_M_without_9 ?_
  refine lv_iand hx hb d_M_without_10 ?_
  exact ro_iret hx hb hr hlocks hS (ng_wo_eq g a b) d_M_without_11
set_option maxHeartbeats 4000000 in
set_option maxRecDepth 100000 in
theorem c_M_weightWith (l : Launch) (dC : Nat → ClassId) (dI : Nat → Nat → Nat) (cI cL : ClassId) (mt g wy xA nA pA qA kA rl : Nat) (pw lw : Nat → Nat) (g0 a b : Nat) (hg : g0 < 1024) (ha : a < 10) (hb1 : b < 10) (hpw : pw (a * 10 + b) ≤ ng_F1) (hlw : ∀ i, i < 1024 → lw i ≤ ng_F1) : Met l y_M_weightWith w_M_weightWith ({ frames := 1, cells := 0, slots := 0, locals := 22 } : Room) (va_Pc [.ref mt, .int (nI g0), .int (nI a), .int (nI b)] (ro_B (dC, dI) classes [(cI, .int), (cL, .long)] [cg_M mt g wy xA nA pA qA kA rl, cg_N pA cI 100 pw, cg_N qA cI 1024 lw])) (ro_Qi (nI (ng_ww pw lw g0 a b))) 0 0 ro_A := by
  refine Met.ofW (cc := b_M_weightWith) (maxL := 6) (ret := (some .int)) (by decide) rfl ?_
  intro p e s m args below meth c s₁ B hml hv
  obtain ⟨rfl, hP, hK⟩ := hv
  have hx := B.exec
  have hb := B.bytes
  have hr := B.returns
  have hts := atoms_spec (ws := w_M_weightWith) B.pre
  have hown : s.vm.findClass R_M = some m.cls := findClass_of_methodNamed B.named
  have hlocks := B.notSynchronized
  have iM : ∀ w ∈ w_M, w ∈ w_M_weightWith := fun w h => List.mem_cons_of_mem _ (i_M w h)
  have hS : va_S ro_A s.heap s.heap [] := va_S.rf
  have hP : va_P (dC, dI) classes [cg_M mt g wy xA nA pA qA kA rl, cg_N pA cI 100 pw, cg_N qA cI 1024 lw] s.heap := hP
  have hl := lv_entry ([.ref mt, .int (nI g0), .int (nI a), .int (nI b)]) (n := 6) (Nat.le_of_ble_eq_true rfl)
  rw [lg_entry_eq]
  generalize (lg_sl ([.ref mt, .int (nI g0), .int (nI a), .int (nI b)]) ++ List.replicate (6 - (lg_sl ([.ref mt, .int (nI g0), .int (nI a), .int (nI b)])).length) Slot.unset).toArray = ls at hl ⊢
  have hl : lv_has ls 6 [(0, .ref mt), (1, .int (nI g0)), (2, .int (nI a)), (3, .int (nI b))] := hl
  have hF1 : ng_F1 = 1000000000 := rfl
  have hwo : ng_wo g0 a b < 1024 := Nat.lt_of_le_of_lt (ng_wo_le (by omega)) hg
  have hlx := hlw (ng_wo g0 a b) hwo
  refine lv_aload_n hx hb d_M_weightWith_0 rfl (lv_at hl 0 rfl) ?_
  refine va_get (D := (dC, dI)) (ci := 3) (v := .ref pA) (C := R_M) (T := F_M) (N := 8) hx hb hts iM hown hK hP 0 rfl rfl 4 (by decide) (hts _ (List.mem_cons_of_mem _ wk_M_18)) (fun _ h9 => h9) rfl d_M_weightWith_1 ?_
  refine lv_iload_n hx hb d_M_weightWith_4 rfl (lv_at hl 2 rfl) ?_
  refine lv_bipush (v := nI 10) hx hb d_M_weightWith_5 (by decide) ?_
  refine nr_imul hx hb d_M_weightWith_7 ?_
  refine lv_iload_n hx hb d_M_weightWith_8 rfl (lv_at hl 3 rfl) ?_
  refine nr_iadd hx hb d_M_weightWith_9 ?_
  refine nr_iald hx hb hK hP 1 0 rfl rfl (by omega) (by decide) d_M_weightWith_10 ?_
  refine lv_istore (lv' := [(4, .int (nI (pw ((a * 10) + b)))), (0, .ref mt), (1, .int (nI g0)), (2, .int (nI a)), (3, .int (nI b))]) hx hb d_M_weightWith_11 hl (by decide) rfl (fun ls hl => ?_)
  refine lv_aload_n hx hb d_M_weightWith_13 rfl (lv_at hl 1 rfl) ?_
  refine va_get (D := (dC, dI)) (ci := 3) (v := .ref qA) (C := R_M) (T := F_M) (N := 8) hx hb hts iM hown hK hP 0 rfl rfl 5 (by decide) (hts _ (List.mem_cons_of_mem _ wk_M_21)) (fun _ h9 => h9) rfl d_M_weightWith_14 ?_
  refine lv_iload_n hx hb d_M_weightWith_17 rfl (lv_at hl 2 rfl) ?_
  refine lv_iload_n hx hb d_M_weightWith_18 rfl (lv_at hl 3 rfl) ?_
  refine lv_iload_n hx hb d_M_weightWith_19 rfl (lv_at hl 4 rfl) ?_
  refine ro_Si (As := [.int (nI g0), .int (nI a), .int (nI b)]) (rest := [.ref qA]) ⟨hx, hb, hml, hown, hts⟩ (c_M_without l dC dI cI cL g0 a b ) (cwS 3 hts (wg_S wk_M_80 ws_M_without wi_M wc_M_without) rfl rfl rfl (by decide +kernel) ⟨Nat.le_of_ble_eq_true rfl, Nat.le_of_ble_eq_true rfl⟩) hK (hP.sub [] rfl) rfl hl.1 rfl (lv_room (Nat.le_of_ble_eq_true rfl)) d_M_weightWith_20 ⟨Nat.zero_le _, Nat.zero_le _⟩ hS hP (fun H locs hP hS => ?_)
  refine nr_iald hx hb hK hP 2 0 rfl rfl (by omega) (by decide) d_M_weightWith_23 ?_
  refine lv_istore (lv' := [(5, .int (nI (lw (ng_wo g0 a b)))), (4, .int (nI (pw ((a * 10) + b)))), (0, .ref mt), (1, .int (nI g0)), (2, .int (nI a)), (3, .int (nI b))]) hx hb d_M_weightWith_24 hl (by decide) rfl (fun ls hl => ?_)
  refine lv_iload hx hb d_M_weightWith_26 (lv_at hl 1 rfl) ?_
  refine lv_ldc (v := 1000000000) hx hb hown (hts _ (List.mem_cons_of_mem _ wk_M_53)) d_M_weightWith_28 ?_
  refine nr_as (v := nI 1000000000) (by decide) ?_
  refine nr_icmp_eq (by omega) (by omega) (tgt := 40) hx hb d_M_weightWith_30 (by decide) (fun c_30 => ?_) (fun c_30 => ?_)
  · refine lv_ldc (v := 1000000000) hx hb hown (hts _ (List.mem_cons_of_mem _ wk_M_53)) d_M_weightWith_40 ?_
    refine nr_as (v := nI 1000000000) (by decide) ?_
    refine lv_goto (tgt := 50) hx hb d_M_weightWith_42 (by decide) ?_
    exact ro_iret hx hb hr hlocks hS (by first | (rw [ng_ww, if_pos (Or.inl (show pw (a * 10 + b) = ng_F1 from c_30))]; rfl) | (rw [ng_ww, if_pos (Or.inr (show lw (ng_wo g0 a b) = ng_F1 from c_37))]; rfl) | (rw [ng_ww, if_neg (by omega)])) d_M_weightWith_50
  · refine lv_iload hx hb d_M_weightWith_33 (lv_at hl 0 rfl) ?_
    refine lv_ldc (v := 1000000000) hx hb hown (hts _ (List.mem_cons_of_mem _ wk_M_53)) d_M_weightWith_35 ?_
    refine nr_as (v := nI 1000000000) (by decide) ?_
    refine nr_icmp_ne (by omega) (by omega) (tgt := 45) hx hb d_M_weightWith_37 (by decide) (fun c_37 => ?_) (fun c_37 => ?_)
    · refine lv_iload hx hb d_M_weightWith_45 (lv_at hl 1 rfl) ?_
      refine lv_iload hx hb d_M_weightWith_47 (lv_at hl 0 rfl) ?_
      refine nr_iadd hx hb d_M_weightWith_49 ?_
      exact ro_iret hx hb hr hlocks hS (by first | (rw [ng_ww, if_pos (Or.inl (show pw (a * 10 + b) = ng_F1 from c_30))]; rfl) | (rw [ng_ww, if_pos (Or.inr (show lw (ng_wo g0 a b) = ng_F1 from c_37))]; rfl) | (rw [ng_ww, if_neg (by omega)])) d_M_weightWith_50
    · refine lv_ldc (v := 1000000000) hx hb hown (hts _ (List.mem_cons_of_mem _ wk_M_53)) d_M_weightWith_40 ?_
      refine nr_as (v := nI 1000000000) (by decide) ?_
      refine lv_goto (tgt := 50) hx hb d_M_weightWith_42 (by decide) ?_
      exact ro_iret hx hb hr hlocks hS (by first | (rw [ng_ww, if_pos (Or.inl (show pw (a * 10 + b) = ng_F1 from c_30))]; rfl) | (rw [ng_ww, if_pos (Or.inr (show lw (ng_wo g0 a b) = ng_F1 from c_37))]; rfl) | (rw [ng_ww, if_neg (by omega)])) d_M_weightWith_50
set_option maxHeartbeats 4000000 in
set_option maxRecDepth 100000 in
theorem c_M_leastPlace (l : Launch) (dC : Nat → ClassId) (dI : Nat → Nat → Nat) (cI cL : ClassId) (mt g wy xA nA pA qA kA rl : Nat) (g0 : Nat) (hrl : rl ≤ 10) (hr0 : 0 < rl) : Met l y_M_leastPlace w_M_leastPlace ({ frames := 0, cells := 0, slots := 0, locals := 0 } : Room) (va_Pc [.ref mt, .int (nI g0)] (ro_B (dC, dI) classes [(cI, .int), (cL, .long)] [cg_M mt g wy xA nA pA qA kA rl])) (ro_Qi (nI (ng_lp rl g0))) 0 0 ro_A := by
  refine Met.ofW (cc := b_M_leastPlace) (maxL := 3) (ret := (some .int)) (by decide) rfl ?_
  intro p e s m args below meth c s₁ B hml hv
  obtain ⟨rfl, hP, hK⟩ := hv
  have hx := B.exec
  have hb := B.bytes
  have hr := B.returns
  have hts := atoms_spec (ws := w_M_leastPlace) B.pre
  have hown : s.vm.findClass R_M = some m.cls := findClass_of_methodNamed B.named
  have hlocks := B.notSynchronized
  have iM : ∀ w ∈ w_M, w ∈ w_M_leastPlace := fun w h => List.mem_cons_of_mem _ (i_M w h)
  have hS : va_S ro_A s.heap s.heap [] := va_S.rf
  have hP : va_P (dC, dI) classes [cg_M mt g wy xA nA pA qA kA rl] s.heap := hP
  have hl := lv_entry ([.ref mt, .int (nI g0)]) (n := 3) (Nat.le_of_ble_eq_true rfl)
  rw [lg_entry_eq]
  generalize (lg_sl ([.ref mt, .int (nI g0)]) ++ List.replicate (3 - (lg_sl ([.ref mt, .int (nI g0)])).length) Slot.unset).toArray = ls at hl ⊢
  have hl : lv_has ls 3 [(0, .ref mt), (1, .int (nI g0))] := hl
  refine lv_iconst (v := nI 0) hx hb d_M_leastPlace_0 (by decide) ?_
  refine lv_istore_n (lv' := [(2, .int (nI 0)), (0, .ref mt), (1, .int (nI g0))]) hx hb d_M_leastPlace_1 rfl hl (by decide) rfl (fun ls hl => ?_)
  have lp_2 : ∀ (n : Nat) (i : Nat), (i ≤ rl - 1) → (ng_fst (fun p => nb_t (nI g0) p) (rl - 1) 0 = ng_fst (fun p => nb_t (nI g0) p) (rl - 1 - i) i) → rl - 1 - i < n → ∀ (H : Heap) (locs : List Loc), va_P (dC, dI) classes [cg_M mt g wy xA nA pA qA kA rl] H → va_S ro_A s.heap H locs → ∀ (ls : Array Slot), lv_has ls 3 [(0, .ref mt), (1, .int (nI g0)), (2, .int (nI i))] → W p l e (headSpec w_M_leastPlace ({ frames := 0, cells := 0, slots := 0, locals := 0 } : Room)).room s m ([.ref mt, .int (nI g0)] : List Value).toArray below meth c H locs 0 0 (MQ below (ro_Qi (nI (ng_lp rl g0))) ([.ref mt, .int (nI g0)] : List Value).toArray s 0 0 ro_A) (F0 m 2 ls []) := by
    intro n
    induction n with
    | zero => intro i hi hq hme; exact absurd hme (Nat.not_lt_zero _)
    | succ n ih =>
      intro i hi hq hme H locs hP hS ls hl
      have ih_2 := ih
      refine lv_iload_n hx hb d_M_leastPlace_2 rfl (lv_at hl 2 rfl) ?_
      refine lv_aload_n hx hb d_M_leastPlace_3 rfl (lv_at hl 0 rfl) ?_
      refine va_get (D := (dC, dI)) (ci := 3) (v := .int (nI rl)) (C := R_M) (T := F_M) (N := 8) hx hb hts iM hown hK hP 0 rfl rfl 7 (by decide) (hts _ (List.mem_cons_of_mem _ wk_M_27)) (fun _ h9 => h9) rfl d_M_leastPlace_4 ?_
      refine lv_iconst (v := nI 1) hx hb d_M_leastPlace_7 (by decide) ?_
      refine nr_isub (by omega) hx hb d_M_leastPlace_8 ?_
      refine nr_icmp_ge (by omega) (by omega) (tgt := 26) hx hb d_M_leastPlace_9 (by decide) (fun c_9 => ?_) (fun c_9 => ?_)
      · refine lv_iload_n hx hb d_M_leastPlace_26 rfl (lv_at hl 2 rfl) ?_
        exact ro_iret hx hb hr hlocks hS (by first | (rw [ng_lp, hq, ng_fst_t (P := (fun p => nb_t (nI g0) p)) c_9 c_17]; rfl) | (rw [ng_lp, hq, show rl - 1 - i = 0 by omega]; exact congrArg nI (show i = rl - 1 by omega))) d_M_leastPlace_27
      · refine lv_iload_n hx hb d_M_leastPlace_12 rfl (lv_at hl 1 rfl) ?_
        refine lv_iload_n hx hb d_M_leastPlace_13 rfl (lv_at hl 2 rfl) ?_
        refine lv_ishr hx hb d_M_leastPlace_14 ?_
        refine lv_iconst (v := nI 1) hx hb d_M_leastPlace_15 (by decide) ?_
        refine lv_iand hx hb d_M_leastPlace_16 ?_
        refine nr_as (v := nb_i (nb_t (nI g0) i)) (nb_bt_and1 (by omega)) ?_
        refine nr_ifneB (tgt := 26) hx hb d_M_leastPlace_17 (by decide) (fun c_17 => ?_) (fun c_17 => ?_)
        · refine lv_iload_n hx hb d_M_leastPlace_26 rfl (lv_at hl 2 rfl) ?_
          exact ro_iret hx hb hr hlocks hS (by first | (rw [ng_lp, hq, ng_fst_t (P := (fun p => nb_t (nI g0) p)) c_9 c_17]; rfl) | (rw [ng_lp, hq, show rl - 1 - i = 0 by omega]; exact congrArg nI (show i = rl - 1 by omega))) d_M_leastPlace_27
        · refine lv_iinc (v := (nI (i + 1))) (lv' := [(2, .int (nI (i + 1))), (0, .ref mt), (1, .int (nI g0))]) hx hb d_M_leastPlace_20 hl (k := 2) rfl (nI_1 i) (by decide) rfl (fun ls hl => ?_)
          refine lv_goto (tgt := 2) hx hb d_M_leastPlace_23 (by decide) ?_
          exact ih_2 (i + 1) (by omega) (hq.trans (ng_fst_f (P := (fun p => nb_t (nI g0) p)) c_9 c_17)) (by omega) _ _ hP hS ls (lv_sub hl [1, 2, 0] rfl)
  exact lp_2 (rl - 1 - 0 + 1) 0 (by omega) rfl (Nat.lt_succ_self _) _ _ hP hS ls (lv_sub hl [1, 2, 0] rfl)
set_option maxHeartbeats 4000000 in
set_option maxRecDepth 100000 in
theorem c_M_weighIn (l : Launch) (dC : Nat → ClassId) (dI : Nat → Nat → Nat) (cI cL : ClassId) (mt g wy xA nA pA qA kA rl : Nat) (lw lc : Nat → Nat) (g0 w k : Nat) (hg : g0 < 1024) (hw : w < 2 ^ 31) (hl1 : lw g0 < 2 ^ 31) : Met l y_M_weighIn w_M_weighIn ({ frames := 0, cells := 0, slots := 0, locals := 0 } : Room) (va_Pc [.ref mt, .int (nI g0), .int (nI w), .int (nI k)] (rw_B (dC, dI) classes [(cI, .int), (cL, .long)] [cg_M mt g wy xA nA pA qA kA rl, cg_N qA cI 1024 lw, cg_N kA cI 1024 lc])) (rw_Qv (dC, dI) classes (rw_A [cg_M mt g wy xA nA pA qA kA rl, cg_N qA cI 1024 lw, cg_N kA cI 1024 lc]) (fun (u : Unit) => True) (fun u => [cg_M mt g wy xA nA pA qA kA rl, cg_N qA cI 1024 (ng_wi1 lw g0 w), cg_N kA cI 1024 (ng_wi2 lw lc g0 w k)])) 0 0 (rw_A [cg_M mt g wy xA nA pA qA kA rl, cg_N qA cI 1024 lw, cg_N kA cI 1024 lc]) := by
  refine Met.ofW (cc := b_M_weighIn) (maxL := 4) (ret := none) (by decide) rfl ?_
  intro p e s m args below meth c s₁ B hml hv
  obtain ⟨rfl, hP, hK, hD0⟩ := hv
  have hx := B.exec
  have hb := B.bytes
  have hr := B.returns
  have hts := atoms_spec (ws := w_M_weighIn) B.pre
  have hown : s.vm.findClass R_M = some m.cls := findClass_of_methodNamed B.named
  have hlocks := B.notSynchronized
  have iM : ∀ w ∈ w_M, w ∈ w_M_weighIn := fun w h => List.mem_cons_of_mem _ (i_M w h)
  have hD := rw_own hD0
  generalize hAe : rw_A [cg_M mt g wy xA nA pA qA kA rl, cg_N qA cI 1024 lw, cg_N kA cI 1024 lc] = A at hD ⊢
  have hS : va_S A s.heap s.heap [] := va_S.rf
  have hP : va_P (dC, dI) classes [cg_M mt g wy xA nA pA qA kA rl, cg_N qA cI 1024 lw, cg_N kA cI 1024 lc] s.heap := hP
  have hl := lv_entry ([.ref mt, .int (nI g0), .int (nI w), .int (nI k)]) (n := 4) (Nat.le_of_ble_eq_true rfl)
  rw [lg_entry_eq]
  generalize (lg_sl ([.ref mt, .int (nI g0), .int (nI w), .int (nI k)]) ++ List.replicate (4 - (lg_sl ([.ref mt, .int (nI g0), .int (nI w), .int (nI k)])).length) Slot.unset).toArray = ls at hl ⊢
  have hl : lv_has ls 4 [(0, .ref mt), (1, .int (nI g0)), (2, .int (nI w)), (3, .int (nI k))] := hl
  refine lv_iload_n hx hb d_M_weighIn_0 rfl (lv_at hl 2 rfl) ?_
  refine lv_aload_n hx hb d_M_weighIn_1 rfl (lv_at hl 0 rfl) ?_
  refine va_get (D := (dC, dI)) (ci := 3) (v := .ref qA) (C := R_M) (T := F_M) (N := 8) hx hb hts iM hown hK hP 0 rfl rfl 5 (by decide) (hts _ (List.mem_cons_of_mem _ wk_M_21)) (fun _ h9 => h9) rfl d_M_weighIn_2 ?_
  refine lv_iload_n hx hb d_M_weighIn_5 rfl (lv_at hl 1 rfl) ?_
  refine nr_iald hx hb hK hP 1 0 rfl rfl (by omega) (by decide) d_M_weighIn_6 ?_
  refine nr_icmp_ge (by omega) (by omega) (tgt := 27) hx hb d_M_weighIn_7 (by decide) (fun c_7 => ?_) (fun c_7 => ?_)
  · refine lv_iload_n hx hb d_M_weighIn_27 rfl (lv_at hl 2 rfl) ?_
    refine lv_aload_n hx hb d_M_weighIn_28 rfl (lv_at hl 0 rfl) ?_
    refine va_get (D := (dC, dI)) (ci := 3) (v := .ref qA) (C := R_M) (T := F_M) (N := 8) hx hb hts iM hown hK hP 0 rfl rfl 5 (by decide) (hts _ (List.mem_cons_of_mem _ wk_M_21)) (fun _ h9 => h9) rfl d_M_weighIn_29 ?_
    refine lv_iload_n hx hb d_M_weighIn_32 rfl (lv_at hl 1 rfl) ?_
    refine nr_iald hx hb hK hP 1 0 rfl rfl (by omega) (by decide) d_M_weighIn_33 ?_
    refine nr_icmp_ne (by omega) (by omega) (tgt := 53) hx hb d_M_weighIn_34 (by decide) (fun c_34 => ?_) (fun c_34 => ?_)
    · rw [show ng_wi1 lw g0 w = lw from if_neg (by omega), show ng_wi2 lw lc g0 w k = lc from (if_neg (by omega)).trans (if_neg (fun q => c_34 q.1))]
      exact rw_vret () hx hb hr hlocks hS hP trivial d_M_weighIn_53
    · refine lv_iload_n hx hb d_M_weighIn_37 rfl (lv_at hl 2 rfl) ?_
      refine lv_ldc (v := 1000000000) hx hb hown (hts _ (List.mem_cons_of_mem _ wk_M_53)) d_M_weighIn_38 ?_
      refine nr_as (v := nI 1000000000) (by decide) ?_
      refine nr_icmp_eq (by omega) (by omega) (tgt := 53) hx hb d_M_weighIn_40 (by decide) (fun c_40 => ?_) (fun c_40 => ?_)
      · rw [show ng_wi1 lw g0 w = lw from if_neg (by omega), show ng_wi2 lw lc g0 w k = lc from (if_neg (by omega)).trans (if_neg (fun q => q.2 c_40))]
        exact rw_vret () hx hb hr hlocks hS hP trivial d_M_weighIn_53
      · rw [show ng_wi1 lw g0 w = lw from if_neg (by omega), show ng_wi2 lw lc g0 w k = va_up lc g0 (lc g0 + k) from (if_neg (by omega)).trans (if_pos ⟨c_34, c_40⟩)]
        refine lv_aload_n hx hb d_M_weighIn_43 rfl (lv_at hl 0 rfl) ?_
        refine va_get (D := (dC, dI)) (ci := 3) (v := .ref kA) (C := R_M) (T := F_M) (N := 8) hx hb hts iM hown hK hP 0 rfl rfl 6 (by decide) (hts _ (List.mem_cons_of_mem _ wk_M_24)) (fun _ h9 => h9) rfl d_M_weighIn_44 ?_
        refine lv_iload_n hx hb d_M_weighIn_47 rfl (lv_at hl 1 rfl) ?_
        refine lv_dup2_11 hx hb d_M_weighIn_48 rfl rfl ?_
        refine nr_iald hx hb hK hP 2 0 rfl rfl (by omega) (by decide) d_M_weighIn_49 ?_
        refine lv_iload_n hx hb d_M_weighIn_50 rfl (lv_at hl 3 rfl) ?_
        refine nr_iadd hx hb d_M_weighIn_51 ?_
        refine nr_iast hx hb hK hP hD hS 2 0 rfl rfl (by omega) (by decide) d_M_weighIn_52 (fun H locs hP hD hS => ?_)
        have hP : va_P (dC, dI) classes [cg_M mt g wy xA nA pA qA kA rl, cg_N qA cI 1024 lw, cg_N kA cI 1024 (va_up lc g0 ((lc g0) + k))] H := hP
        have hD : va_D A [cg_M mt g wy xA nA pA qA kA rl, cg_N qA cI 1024 lw, cg_N kA cI 1024 (va_up lc g0 ((lc g0) + k))] := hD
        exact rw_vret () hx hb hr hlocks hS hP trivial d_M_weighIn_53
  · refine lv_aload_n hx hb d_M_weighIn_10 rfl (lv_at hl 0 rfl) ?_
    refine va_get (D := (dC, dI)) (ci := 3) (v := .ref qA) (C := R_M) (T := F_M) (N := 8) hx hb hts iM hown hK hP 0 rfl rfl 5 (by decide) (hts _ (List.mem_cons_of_mem _ wk_M_21)) (fun _ h9 => h9) rfl d_M_weighIn_11 ?_
    refine lv_iload_n hx hb d_M_weighIn_14 rfl (lv_at hl 1 rfl) ?_
    refine lv_iload_n hx hb d_M_weighIn_15 rfl (lv_at hl 2 rfl) ?_
    refine nr_iast hx hb hK hP hD hS 1 0 rfl rfl (by omega) (by decide) d_M_weighIn_16 (fun H locs hP hD hS => ?_)
    have hP : va_P (dC, dI) classes [cg_M mt g wy xA nA pA qA kA rl, cg_N qA cI 1024 (va_up lw g0 w), cg_N kA cI 1024 lc] H := hP
    have hD : va_D A [cg_M mt g wy xA nA pA qA kA rl, cg_N qA cI 1024 (va_up lw g0 w), cg_N kA cI 1024 lc] := hD
    refine lv_aload_n hx hb d_M_weighIn_17 rfl (lv_at hl 0 rfl) ?_
    refine va_get (D := (dC, dI)) (ci := 3) (v := .ref kA) (C := R_M) (T := F_M) (N := 8) hx hb hts iM hown hK hP 0 rfl rfl 6 (by decide) (hts _ (List.mem_cons_of_mem _ wk_M_24)) (fun _ h9 => h9) rfl d_M_weighIn_18 ?_
    refine lv_iload_n hx hb d_M_weighIn_21 rfl (lv_at hl 1 rfl) ?_
    refine lv_iload_n hx hb d_M_weighIn_22 rfl (lv_at hl 3 rfl) ?_
    refine nr_iast hx hb hK hP hD hS 2 0 rfl rfl (by omega) (by decide) d_M_weighIn_23 (fun H locs hP hD hS => ?_)
    have hP : va_P (dC, dI) classes [cg_M mt g wy xA nA pA qA kA rl, cg_N qA cI 1024 (va_up lw g0 w), cg_N kA cI 1024 (va_up lc g0 k)] H := hP
    have hD : va_D A [cg_M mt g wy xA nA pA qA kA rl, cg_N qA cI 1024 (va_up lw g0 w), cg_N kA cI 1024 (va_up lc g0 k)] := hD
    rw [show ng_wi1 lw g0 w = va_up lw g0 w from if_pos c_7, show ng_wi2 lw lc g0 w k = va_up lc g0 k from if_pos c_7]
    refine lv_goto (tgt := 53) hx hb d_M_weighIn_24 (by decide) ?_
    exact rw_vret () hx hb hr hlocks hS hP trivial d_M_weighIn_53
set_option maxHeartbeats 4000000 in
set_option maxRecDepth 100000 in
theorem c_M_firstPartner (l : Launch) (dC : Nat → ClassId) (dI : Nat → Nat → Nat) (cI cL : ClassId) (mt g wy xA nA pA qA kA rl : Nat) (pw lw : Nat → Nat) (g0 a : Nat) (hg : g0 < 1024) (hrl : rl ≤ 10) (ha : a < rl) (hpw : ∀ i, i < 100 → pw i ≤ ng_F1) (hlw : ∀ i, i < 1024 → lw i ≤ ng_F1) : Met l y_M_firstPartner w_M_firstPartner ({ frames := 2, cells := 0, slots := 0, locals := 47 } : Room) (va_Pc [.ref mt, .int (nI g0), .int (nI a)] (ro_B (dC, dI) classes [(cI, .int), (cL, .long)] [cg_M mt g wy xA nA pA qA kA rl, cg_N pA cI 100 pw, cg_N qA cI 1024 lw])) (ro_Qi (nI (ng_fp rl pw lw g0 a))) 0 0 ro_A := by
  refine Met.ofW (cc := b_M_firstPartner) (maxL := 4) (ret := (some .int)) (by decide) rfl ?_
  intro p e s m args below meth c s₁ B hml hv
  obtain ⟨rfl, hP, hK⟩ := hv
  have hx := B.exec
  have hb := B.bytes
  have hr := B.returns
  have hts := atoms_spec (ws := w_M_firstPartner) B.pre
  have hown : s.vm.findClass R_M = some m.cls := findClass_of_methodNamed B.named
  have hlocks := B.notSynchronized
  have iM : ∀ w ∈ w_M, w ∈ w_M_firstPartner := fun w h => List.mem_cons_of_mem _ (i_M w h)
  have hS : va_S ro_A s.heap s.heap [] := va_S.rf
  have hP : va_P (dC, dI) classes [cg_M mt g wy xA nA pA qA kA rl, cg_N pA cI 100 pw, cg_N qA cI 1024 lw] s.heap := hP
  have hl := lv_entry ([.ref mt, .int (nI g0), .int (nI a)]) (n := 4) (Nat.le_of_ble_eq_true rfl)
  rw [lg_entry_eq]
  generalize (lg_sl ([.ref mt, .int (nI g0), .int (nI a)]) ++ List.replicate (4 - (lg_sl ([.ref mt, .int (nI g0), .int (nI a)])).length) Slot.unset).toArray = ls at hl ⊢
  have hl : lv_has ls 4 [(0, .ref mt), (1, .int (nI g0)), (2, .int (nI a))] := hl
  have hF1 : ng_F1 = 1000000000 := rfl
  have hlg := hlw g0 hg
  refine lv_iload_n hx hb d_M_firstPartner_0 rfl (lv_at hl 2 rfl) ?_
  refine lv_iconst (v := nI 1) hx hb d_M_firstPartner_1 (by decide) ?_
  refine nr_iadd hx hb d_M_firstPartner_2 ?_
  refine lv_istore_n (lv' := [(3, .int (nI (a + 1))), (0, .ref mt), (1, .int (nI g0)), (2, .int (nI a))]) hx hb d_M_firstPartner_3 rfl hl (by decide) rfl (fun ls hl => ?_)
  have lp_4 : ∀ (n : Nat) (i : Nat), (i ≤ rl) → (a < i) → (ng_fst (fun p => nb_t (nI g0) p && decide (ng_ww pw lw g0 a p = lw g0)) (rl - (a + 1)) (a + 1) = ng_fst (fun p => nb_t (nI g0) p && decide (ng_ww pw lw g0 a p = lw g0)) (rl - i) i) → rl - i < n → ∀ (H : Heap) (locs : List Loc), va_P (dC, dI) classes [cg_M mt g wy xA nA pA qA kA rl, cg_N pA cI 100 pw, cg_N qA cI 1024 lw] H → va_S ro_A s.heap H locs → ∀ (ls : Array Slot), lv_has ls 4 [(0, .ref mt), (1, .int (nI g0)), (2, .int (nI a)), (3, .int (nI i))] → W p l e (headSpec w_M_firstPartner ({ frames := 2, cells := 0, slots := 0, locals := 47 } : Room)).room s m ([.ref mt, .int (nI g0), .int (nI a)] : List Value).toArray below meth c H locs 0 0 (MQ below (ro_Qi (nI (ng_fp rl pw lw g0 a))) ([.ref mt, .int (nI g0), .int (nI a)] : List Value).toArray s 0 0 ro_A) (F0 m 4 ls []) := by
    intro n
    induction n with
    | zero => intro i hi hai hq hme; exact absurd hme (Nat.not_lt_zero _)
    | succ n ih =>
      intro i hi hai hq hme H locs hP hS ls hl
      have ih_4 := ih
      refine lv_iload_n hx hb d_M_firstPartner_4 rfl (lv_at hl 3 rfl) ?_
      refine lv_aload_n hx hb d_M_firstPartner_5 rfl (lv_at hl 0 rfl) ?_
      refine va_get (D := (dC, dI)) (ci := 3) (v := .int (nI rl)) (C := R_M) (T := F_M) (N := 8) hx hb hts iM hown hK hP 0 rfl rfl 7 (by decide) (hts _ (List.mem_cons_of_mem _ wk_M_27)) (fun _ h9 => h9) rfl d_M_firstPartner_6 ?_
      refine nr_icmp_ge (by omega) (by omega) (tgt := 45) hx hb d_M_firstPartner_9 (by decide) (fun c_9 => ?_) (fun c_9 => ?_)
      · refine lv_iload_n hx hb d_M_firstPartner_45 rfl (lv_at hl 2 rfl) ?_
        exact ro_iret hx hb hr hlocks hS (by rw [ng_fp, hq, show rl - i = 0 by omega]; rfl) d_M_firstPartner_46
      · refine lv_iload_n hx hb d_M_firstPartner_12 rfl (lv_at hl 1 rfl) ?_
        refine lv_iload_n hx hb d_M_firstPartner_13 rfl (lv_at hl 3 rfl) ?_
        refine lv_ishr hx hb d_M_firstPartner_14 ?_
        refine lv_iconst (v := nI 1) hx hb d_M_firstPartner_15 (by decide) ?_
        refine lv_iand hx hb d_M_firstPartner_16 ?_
        refine nr_as (v := nb_i (nb_t (nI g0) i)) (nb_bt_and1 (by omega)) ?_
        refine lv_iconst (v := nI 1) hx hb d_M_firstPartner_17 (by decide) ?_
        refine nr_icmpneB1 (tgt := 39) hx hb d_M_firstPartner_18 (by decide) (fun c_18 => ?_) (fun c_18 => ?_)
        · refine lv_iinc (v := (nI (i + 1))) (lv' := [(3, .int (nI (i + 1))), (0, .ref mt), (1, .int (nI g0)), (2, .int (nI a))]) hx hb d_M_firstPartner_39 hl (k := 3) rfl (nI_1 i) (by decide) rfl (fun ls hl => ?_)
          refine lv_goto (tgt := 4) hx hb d_M_firstPartner_42 (by decide) ?_
          exact ih_4 (i + 1) (by omega) (by omega) (hq.trans (ng_fst_f (P := (fun p => nb_t (nI g0) p && decide (ng_ww pw lw g0 a p = lw g0))) c_9 (by first | (show (nb_t (nI g0) i && decide (ng_ww pw lw g0 a i = lw g0)) = false; rw [c_18]; rfl) | (show (nb_t (nI g0) i && decide (ng_ww pw lw g0 a i = lw g0)) = false; rw [decide_eq_false c_34, Bool.and_false])))) (by omega) _ _ hP hS ls (lv_sub hl [1, 2, 3, 0] rfl)
        · refine lv_aload_n hx hb d_M_firstPartner_21 rfl (lv_at hl 0 rfl) ?_
          refine lv_iload_n hx hb d_M_firstPartner_22 rfl (lv_at hl 1 rfl) ?_
          refine lv_iload_n hx hb d_M_firstPartner_23 rfl (lv_at hl 2 rfl) ?_
          refine lv_iload_n hx hb d_M_firstPartner_24 rfl (lv_at hl 3 rfl) ?_
          refine ro_Vi (As := [.int (nI g0), .int (nI a), .int (nI i)]) (rest := []) ⟨hx, hb, hml, hown, hts⟩ (c_M_weightWith l dC dI cI cL mt g wy xA nA pA qA kA rl pw lw g0 a i (by omega) (by omega) (by omega) (hpw (a * 10 + i) (by omega)) hlw) (cwV 3 hts (wg_V wk_M_107 wm_M_weightWith we_M_weightWith wi_M wc_M_weightWith) rfl rfl rfl (by decide +kernel) ⟨Nat.le_of_ble_eq_true rfl, Nat.le_of_ble_eq_true rfl⟩) hK (hP.sub [0, 1, 2] rfl) (q0 := 0) rfl rfl rfl rfl hl.1 rfl (lv_room (Nat.le_of_ble_eq_true rfl)) d_M_firstPartner_25 ⟨Nat.zero_le _, Nat.zero_le _⟩ hS hP (fun H locs hP hS => ?_)
          have hwb : ng_ww pw lw g0 a i < 2 ^ 31 := by unfold ng_ww; have h1 := hpw (a * 10 + i) (by omega); have h2 := hlw (ng_wo g0 a i) (Nat.lt_of_le_of_lt (ng_wo_le (by omega)) hg); split <;> omega
          refine lv_aload_n hx hb d_M_firstPartner_28 rfl (lv_at hl 0 rfl) ?_
          refine va_get (D := (dC, dI)) (ci := 3) (v := .ref qA) (C := R_M) (T := F_M) (N := 8) hx hb hts iM hown hK hP 0 rfl rfl 5 (by decide) (hts _ (List.mem_cons_of_mem _ wk_M_21)) (fun _ h9 => h9) rfl d_M_firstPartner_29 ?_
          refine lv_iload_n hx hb d_M_firstPartner_32 rfl (lv_at hl 1 rfl) ?_
          refine nr_iald hx hb hK hP 2 0 rfl rfl (by omega) (by decide) d_M_firstPartner_33 ?_
          refine nr_icmp_ne (by omega) (by omega) (tgt := 39) hx hb d_M_firstPartner_34 (by decide) (fun c_34 => ?_) (fun c_34 => ?_)
          · refine lv_iinc (v := (nI (i + 1))) (lv' := [(3, .int (nI (i + 1))), (0, .ref mt), (1, .int (nI g0)), (2, .int (nI a))]) hx hb d_M_firstPartner_39 hl (k := 3) rfl (nI_1 i) (by decide) rfl (fun ls hl => ?_)
            refine lv_goto (tgt := 4) hx hb d_M_firstPartner_42 (by decide) ?_
            exact ih_4 (i + 1) (by omega) (by omega) (hq.trans (ng_fst_f (P := (fun p => nb_t (nI g0) p && decide (ng_ww pw lw g0 a p = lw g0))) c_9 (by first | (show (nb_t (nI g0) i && decide (ng_ww pw lw g0 a i = lw g0)) = false; rw [c_18]; rfl) | (show (nb_t (nI g0) i && decide (ng_ww pw lw g0 a i = lw g0)) = false; rw [decide_eq_false c_34, Bool.and_false])))) (by omega) _ _ hP hS ls (lv_sub hl [1, 2, 3, 0] rfl)
          · refine lv_iload_n hx hb d_M_firstPartner_37 rfl (lv_at hl 3 rfl) ?_
            exact ro_iret hx hb hr hlocks hS (by rw [ng_fp, hq, ng_fst_t (P := (fun p => nb_t (nI g0) p && decide (ng_ww pw lw g0 a p = lw g0))) c_9 (by show (nb_t (nI g0) i && decide (ng_ww pw lw g0 a i = lw g0)) = true; rw [c_18, decide_eq_true c_34]; rfl)]; rfl) d_M_firstPartner_38
  exact lp_4 (rl - (a + 1) + 1) (a + 1) (by omega) (by omega) rfl (Nat.lt_succ_self _) _ _ hP hS ls (lv_sub hl [1, 2, 3, 0] rfl)
set_option maxHeartbeats 4000000 in
set_option maxRecDepth 100000 in
theorem c_M_nearestBoundary (l : Launch) (dC : Nat → ClassId) (dI : Nat → Nat → Nat) (cI cL : ClassId) (g tA oA uA wA sA np ne : Nat) (bd : Int32) (er : Int64) (vr : Nat) (wy cA rA : Nat) (mv : Int32) (tl : Nat) (mt xA nA pA qA kA rl : Nat) (ct : Nat → Nat) (p0 : Nat) (hnp : np ≤ 20) (hp0 : p0 < np) (hct : ∀ i, i < 400 → ct i ≤ dm_FAR) (hcf : ∀ a b, a < np → b < np → ct (a * 20 + b) = dm_FAR ∨ ct (a * 20 + b) ≤ 1300000000) : Met l y_M_nearestBoundary w_M_nearestBoundary ({ frames := 2, cells := 0, slots := 0, locals := 43 } : Room) (va_Pc [.ref mt, .int (nI p0)] (ro_B (dC, dI) classes [(cI, .int), (cL, .long)] [cg_G g tA oA uA wA sA np ne bd er vr, cg_W wy g cA rA mv tl, cg_L cA cL 400 ct, cg_M mt g wy xA nA pA qA kA rl])) (ro_Qi (ng_oi (ng_nb bd ct p0 np))) 0 0 ro_A := by
  refine Met.ofW (cc := b_M_nearestBoundary) (maxL := 4) (ret := (some .int)) (by decide) rfl ?_
  intro p e s m args below meth c s₁ B hml hv
  obtain ⟨rfl, hP, hK⟩ := hv
  have hx := B.exec
  have hb := B.bytes
  have hr := B.returns
  have hts := atoms_spec (ws := w_M_nearestBoundary) B.pre
  have hown : s.vm.findClass R_M = some m.cls := findClass_of_methodNamed B.named
  have hlocks := B.notSynchronized
  have iG : ∀ w ∈ w_G, w ∈ w_M_nearestBoundary := fun w h => List.mem_cons_of_mem _ (i_G w h)
  have iM : ∀ w ∈ w_M, w ∈ w_M_nearestBoundary := fun w h => List.mem_cons_of_mem _ (i_M w h)
  have hS : va_S ro_A s.heap s.heap [] := va_S.rf
  have hP : va_P (dC, dI) classes [cg_G g tA oA uA wA sA np ne bd er vr, cg_W wy g cA rA mv tl, cg_L cA cL 400 ct, cg_M mt g wy xA nA pA qA kA rl] s.heap := hP
  have hl := lv_entry ([.ref mt, .int (nI p0)]) (n := 4) (Nat.le_of_ble_eq_true rfl)
  rw [lg_entry_eq]
  generalize (lg_sl ([.ref mt, .int (nI p0)]) ++ List.replicate (4 - (lg_sl ([.ref mt, .int (nI p0)])).length) Slot.unset).toArray = ls at hl ⊢
  have hl : lv_has ls 4 [(0, .ref mt), (1, .int (nI p0))] := hl
  have hFAR : dm_FAR = 1000000000000 := rfl
  refine lv_iconst (v := -1) hx hb d_M_nearestBoundary_0 (by decide) ?_
  refine lv_istore_n (lv' := [(2, .int (-1)), (0, .ref mt), (1, .int (nI p0))]) hx hb d_M_nearestBoundary_1 rfl hl (by decide) rfl (fun ls hl => ?_)
  refine lv_iconst (v := nI 0) hx hb d_M_nearestBoundary_2 (by decide) ?_
  refine lv_istore_n (lv' := [(3, .int (nI 0)), (2, .int (-1)), (0, .ref mt), (1, .int (nI p0))]) hx hb d_M_nearestBoundary_3 rfl hl (by decide) rfl (fun ls hl => ?_)
  have lp_4 : ∀ (n : Nat) (i : Nat) (bo : Option Nat), (i ≤ np) → (bo = ng_nb bd ct p0 i) → np - i < n → ∀ (H : Heap) (locs : List Loc), va_P (dC, dI) classes [cg_G g tA oA uA wA sA np ne bd er vr, cg_W wy g cA rA mv tl, cg_L cA cL 400 ct, cg_M mt g wy xA nA pA qA kA rl] H → va_S ro_A s.heap H locs → ∀ (ls : Array Slot), lv_has ls 4 [(0, .ref mt), (1, .int (nI p0)), (2, .int (ng_oi bo)), (3, .int (nI i))] → W p l e (headSpec w_M_nearestBoundary ({ frames := 2, cells := 0, slots := 0, locals := 43 } : Room)).room s m ([.ref mt, .int (nI p0)] : List Value).toArray below meth c H locs 0 0 (MQ below (ro_Qi (ng_oi (ng_nb bd ct p0 np))) ([.ref mt, .int (nI p0)] : List Value).toArray s 0 0 ro_A) (F0 m 4 ls []) := by
    intro n
    induction n with
    | zero => intro i bo hi hbo hme; exact absurd hme (Nat.not_lt_zero _)
    | succ n ih =>
      intro i bo hi hbo hme H locs hP hS ls hl
      have ih_4 := ih
      refine lv_iload_n hx hb d_M_nearestBoundary_4 rfl (lv_at hl 3 rfl) ?_
      refine lv_aload_n hx hb d_M_nearestBoundary_5 rfl (lv_at hl 0 rfl) ?_
      refine va_get (D := (dC, dI)) (ci := 3) (v := .ref g) (C := R_M) (T := F_M) (N := 8) hx hb hts iM hown hK hP 3 rfl rfl 0 (by decide) (hts _ (List.mem_cons_of_mem _ wk_M_31)) (fun _ h9 => h9) rfl d_M_nearestBoundary_6 ?_
      refine va_get (D := (dC, dI)) (ci := 0) (v := .int (nI np)) (C := R_G) (T := F_G) (N := 10) hx hb hts iG hown hK hP 0 rfl rfl 5 (by decide) (hts _ (List.mem_cons_of_mem _ wk_M_84)) (fun _ h9 => h9) rfl d_M_nearestBoundary_9 ?_
      refine nr_icmp_ge (by omega) (by omega) (tgt := 72) hx hb d_M_nearestBoundary_12 (by decide) (fun c_12 => ?_) (fun c_12 => ?_)
      · refine lv_iload_n hx hb d_M_nearestBoundary_72 rfl (lv_at hl 2 rfl) ?_
        exact ro_iret hx hb hr hlocks hS (by rw [hbo, show i = np by omega]) d_M_nearestBoundary_73
      · have hc1 := hct (p0 * 20 + i) (by omega)
        refine lv_aload_n hx hb d_M_nearestBoundary_15 rfl (lv_at hl 0 rfl) ?_
        refine va_get (D := (dC, dI)) (ci := 3) (v := .ref g) (C := R_M) (T := F_M) (N := 8) hx hb hts iM hown hK hP 3 rfl rfl 0 (by decide) (hts _ (List.mem_cons_of_mem _ wk_M_31)) (fun _ h9 => h9) rfl d_M_nearestBoundary_16 ?_
        refine lv_iload_n hx hb d_M_nearestBoundary_19 rfl (lv_at hl 3 rfl) ?_
        refine ro_Vi (As := [.int (nI i)]) (rest := []) ⟨hx, hb, hml, hown, hts⟩ (c_G_isBoundary l dC dI cI cL g tA oA uA wA sA np ne bd er vr i (by omega)) (cwV 1 hts (wg_V wk_M_93 wm_G_isBoundary we_G_isBoundary wi_G wc_G_isBoundary) rfl rfl rfl (by decide +kernel) ⟨Nat.le_of_ble_eq_true rfl, Nat.le_of_ble_eq_true rfl⟩) hK (hP.sub [0] rfl) (q0 := 0) rfl rfl rfl rfl hl.1 rfl (lv_room (Nat.le_of_ble_eq_true rfl)) d_M_nearestBoundary_20 ⟨Nat.zero_le _, Nat.zero_le _⟩ hS hP (fun H locs hP hS => ?_)
        refine nr_ifeqB (tgt := 66) hx hb d_M_nearestBoundary_23 (by decide) (fun c_23 => ?_) (fun c_23 => ?_)
        · have hb2 : bo = ng_nb bd ct p0 (i + 1) := hbo.trans (ng_nb_f (fun q => by rw [c_23] at q; exact absurd q.1 (by decide))).symm
          refine lv_iinc (v := (nI (i + 1))) (lv' := [(3, .int (nI (i + 1))), (0, .ref mt), (1, .int (nI p0)), (2, .int (ng_oi bo))]) hx hb d_M_nearestBoundary_66 hl (k := 3) rfl (nI_1 i) (by decide) rfl (fun ls hl => ?_)
          refine lv_goto (tgt := 4) hx hb d_M_nearestBoundary_69 (by decide) ?_
          exact ih_4 (i + 1) bo (by omega) hb2 (by omega) _ _ hP hS ls (lv_sub hl [1, 2, 3, 0] rfl)
        · refine lv_aload_n hx hb d_M_nearestBoundary_26 rfl (lv_at hl 0 rfl) ?_
          refine va_get (D := (dC, dI)) (ci := 3) (v := .ref wy) (C := R_M) (T := F_M) (N := 8) hx hb hts iM hown hK hP 3 rfl rfl 1 (by decide) (hts _ (List.mem_cons_of_mem _ wk_M_35)) (fun _ h9 => h9) rfl d_M_nearestBoundary_27 ?_
          refine lv_iload_n hx hb d_M_nearestBoundary_30 rfl (lv_at hl 1 rfl) ?_
          refine lv_iload_n hx hb d_M_nearestBoundary_31 rfl (lv_at hl 3 rfl) ?_
          refine ro_Vi (As := [.int (nI p0), .int (nI i)]) (rest := []) ⟨hx, hb, hml, hown, hts⟩ (c_W_isThere l dC dI cI cL wy g cA rA mv tl ct p0 i (by omega) (by omega) (by omega)) (cwV 2 hts (wg_V wk_M_97 wm_W_isThere we_W_isThere wi_W wc_W_isThere) rfl rfl rfl (by decide +kernel) ⟨Nat.le_of_ble_eq_true rfl, Nat.le_of_ble_eq_true rfl⟩) hK (hP.sub [1, 2] rfl) (q0 := 0) rfl rfl rfl rfl hl.1 rfl (lv_room (Nat.le_of_ble_eq_true rfl)) d_M_nearestBoundary_32 ⟨Nat.zero_le _, Nat.zero_le _⟩ hS hP (fun H locs hP hS => ?_)
          refine nr_ifeqB (tgt := 66) hx hb d_M_nearestBoundary_35 (by decide) (fun c_35 => ?_) (fun c_35 => ?_)
          · have hb2 : bo = ng_nb bd ct p0 (i + 1) := hbo.trans (ng_nb_f (fun q => by simp at c_35; exact q.2.1 c_35)).symm
            refine lv_iinc (v := (nI (i + 1))) (lv' := [(3, .int (nI (i + 1))), (0, .ref mt), (1, .int (nI p0)), (2, .int (ng_oi bo))]) hx hb d_M_nearestBoundary_66 hl (k := 3) rfl (nI_1 i) (by decide) rfl (fun ls hl => ?_)
            refine lv_goto (tgt := 4) hx hb d_M_nearestBoundary_69 (by decide) ?_
            exact ih_4 (i + 1) bo (by omega) hb2 (by omega) _ _ hP hS ls (lv_sub hl [1, 2, 3, 0] rfl)
          · rcases bo with _ | y
            · have hl : lv_has ls 4 [(0, .ref mt), (1, .int (nI p0)), (2, .int (-1)), (3, .int (nI i))] := hl
              have hb2 : some i = ng_nb bd ct p0 (i + 1) := (ng_nb_t c_23 (by simpa using c_35) (fun y hy => by rw [← hbo] at hy; cases hy)).symm
              refine lv_iload_n hx hb d_M_nearestBoundary_38 rfl (lv_at hl 2 rfl) ?_
              refine lv_iconst (v := -1) hx hb d_M_nearestBoundary_39 (by decide) ?_
              refine lv_icmp_eq (tgt := 64) hx hb d_M_nearestBoundary_40 (by decide) (fun c_40 => ?_) (fun c => absurd rfl c)
              refine lv_iload_n hx hb d_M_nearestBoundary_64 rfl (lv_at hl 3 rfl) ?_
              refine lv_istore_n (lv' := [(2, .int (nI i)), (0, .ref mt), (1, .int (nI p0)), (3, .int (nI i))]) hx hb d_M_nearestBoundary_65 rfl hl (by decide) rfl (fun ls hl => ?_)
              refine lv_iinc (v := (nI (i + 1))) (lv' := [(3, .int (nI (i + 1))), (2, .int (nI i)), (0, .ref mt), (1, .int (nI p0))]) hx hb d_M_nearestBoundary_66 hl (k := 3) rfl (nI_1 i) (by decide) rfl (fun ls hl => ?_)
              refine lv_goto (tgt := 4) hx hb d_M_nearestBoundary_69 (by decide) ?_
              exact ih_4 (i + 1) (some i) (by omega) hb2 (by omega) _ _ hP hS ls (lv_sub hl [2, 3, 1, 0] rfl)
            · have hl : lv_has ls 4 [(0, .ref mt), (1, .int (nI p0)), (2, .int (nI y)), (3, .int (nI i))] := hl
              have hyl := ng_nb_lt hbo.symm
              have hc2 := hct (p0 * 20 + y) (by omega)
              have hz1 := (hcf p0 i hp0 c_12).resolve_left (by simpa using c_35)
              have hz2 := (hcf p0 y hp0 (by omega)).resolve_left (ng_nb_ok hbo.symm).2
              refine lv_iload_n hx hb d_M_nearestBoundary_38 rfl (lv_at hl 2 rfl) ?_
              refine lv_iconst (v := -1) hx hb d_M_nearestBoundary_39 (by decide) ?_
              refine lv_icmp_eq (tgt := 64) hx hb d_M_nearestBoundary_40 (by decide) (fun c => absurd c (ng_nm1 (by omega))) (fun c_40 => ?_)
              refine lv_aload_n hx hb d_M_nearestBoundary_43 rfl (lv_at hl 0 rfl) ?_
              refine va_get (D := (dC, dI)) (ci := 3) (v := .ref wy) (C := R_M) (T := F_M) (N := 8) hx hb hts iM hown hK hP 3 rfl rfl 1 (by decide) (hts _ (List.mem_cons_of_mem _ wk_M_35)) (fun _ h9 => h9) rfl d_M_nearestBoundary_44 ?_
              refine lv_iload_n hx hb d_M_nearestBoundary_47 rfl (lv_at hl 1 rfl) ?_
              refine lv_iload_n hx hb d_M_nearestBoundary_48 rfl (lv_at hl 3 rfl) ?_
              refine ro_Vi (As := [.int (nI p0), .int (nI i)]) (rest := []) ⟨hx, hb, hml, hown, hts⟩ (c_W_weightBetween l dC dI cI cL wy g cA rA mv tl ct p0 i (by omega) (by omega) (by omega)) (cwV 2 hts (wg_V wk_M_101 wm_W_weightBetween we_W_weightBetween wi_W wc_W_weightBetween) rfl rfl rfl (by decide +kernel) ⟨Nat.le_of_ble_eq_true rfl, Nat.le_of_ble_eq_true rfl⟩) hK (hP.sub [1, 2] rfl) (q0 := 0) rfl rfl rfl rfl hl.1 rfl (lv_room (Nat.le_of_ble_eq_true rfl)) d_M_nearestBoundary_49 ⟨Nat.zero_le _, Nat.zero_le _⟩ hS hP (fun H locs hP hS => ?_)
              refine lv_aload_n hx hb d_M_nearestBoundary_52 rfl (lv_at hl 0 rfl) ?_
              refine va_get (D := (dC, dI)) (ci := 3) (v := .ref wy) (C := R_M) (T := F_M) (N := 8) hx hb hts iM hown hK hP 3 rfl rfl 1 (by decide) (hts _ (List.mem_cons_of_mem _ wk_M_35)) (fun _ h9 => h9) rfl d_M_nearestBoundary_53 ?_
              refine lv_iload_n hx hb d_M_nearestBoundary_56 rfl (lv_at hl 1 rfl) ?_
              refine lv_iload_n hx hb d_M_nearestBoundary_57 rfl (lv_at hl 2 rfl) ?_
              refine ro_Vi (As := [.int (nI p0), .int (nI y)]) (rest := [.int (nI (ct (p0 * 20 + i) / 64))]) ⟨hx, hb, hml, hown, hts⟩ (c_W_weightBetween l dC dI cI cL wy g cA rA mv tl ct p0 y (by omega) (by omega) (by omega)) (cwV 2 hts (wg_V wk_M_101 wm_W_weightBetween we_W_weightBetween wi_W wc_W_weightBetween) rfl rfl rfl (by decide +kernel) ⟨Nat.le_of_ble_eq_true rfl, Nat.le_of_ble_eq_true rfl⟩) hK (hP.sub [1, 2] rfl) (q0 := 0) rfl rfl rfl rfl hl.1 rfl (lv_room (Nat.le_of_ble_eq_true rfl)) d_M_nearestBoundary_58 ⟨Nat.zero_le _, Nat.zero_le _⟩ hS hP (fun H locs hP hS => ?_)
              refine nr_icmp_ge (by omega) (by omega) (tgt := 66) hx hb d_M_nearestBoundary_61 (by decide) (fun c_61 => ?_) (fun c_61 => ?_)
              · have hb2 : some y = ng_nb bd ct p0 (i + 1) := hbo.trans (ng_nb_f (fun q => by have := q.2.2 y hbo.symm; omega)).symm
                refine lv_iinc (v := (nI (i + 1))) (lv' := [(3, .int (nI (i + 1))), (0, .ref mt), (1, .int (nI p0)), (2, .int (nI y))]) hx hb d_M_nearestBoundary_66 hl (k := 3) rfl (nI_1 i) (by decide) rfl (fun ls hl => ?_)
                refine lv_goto (tgt := 4) hx hb d_M_nearestBoundary_69 (by decide) ?_
                exact ih_4 (i + 1) (some y) (by omega) hb2 (by omega) _ _ hP hS ls (lv_sub hl [1, 2, 3, 0] rfl)
              · have hb2 : some i = ng_nb bd ct p0 (i + 1) := (ng_nb_t c_23 (by simpa using c_35) (fun z hz => by rw [← hbo] at hz; cases hz; exact c_61)).symm
                refine lv_iload_n hx hb d_M_nearestBoundary_64 rfl (lv_at hl 3 rfl) ?_
                refine lv_istore_n (lv' := [(2, .int (nI i)), (0, .ref mt), (1, .int (nI p0)), (3, .int (nI i))]) hx hb d_M_nearestBoundary_65 rfl hl (by decide) rfl (fun ls hl => ?_)
                refine lv_iinc (v := (nI (i + 1))) (lv' := [(3, .int (nI (i + 1))), (2, .int (nI i)), (0, .ref mt), (1, .int (nI p0))]) hx hb d_M_nearestBoundary_66 hl (k := 3) rfl (nI_1 i) (by decide) rfl (fun ls hl => ?_)
                refine lv_goto (tgt := 4) hx hb d_M_nearestBoundary_69 (by decide) ?_
                exact ih_4 (i + 1) (some i) (by omega) hb2 (by omega) _ _ hP hS ls (lv_sub hl [2, 3, 1, 0] rfl)
  exact lp_4 (np - 0 + 1) 0 none (by omega) rfl (Nat.lt_succ_self _) _ _ hP hS ls (lv_sub hl [2, 3, 1, 0] rfl)
set_option maxHeartbeats 4000000 in
set_option maxRecDepth 100000 in
theorem c_M_layRow (l : Launch) (dC : Nat → ClassId) (dI : Nat → Nat → Nat) (cI cL : ClassId) (g tA oA uA wA sA np ne : Nat) (bd : Int32) (er : Int64) (vr : Nat) (wy cA rA : Nat) (mv : Int32) (tl : Nat) (mt xA nA pA qA kA rl : Nat) (ct row : Nat → Nat) (nr : Nat → Option Nat) (fi : Int32) (hnp : np ≤ 20) (hfl : (ng_rw fi np).length ≤ 10) (hct : ∀ i, i < 400 → ct i ≤ dm_FAR) (hcf : ∀ a b, a < np → b < np → ct (a * 20 + b) = dm_FAR ∨ ct (a * 20 + b) ≤ 1300000000) : Met l y_M_layRow w_M_layRow ({ frames := 3, cells := 0, slots := 0, locals := 66 } : Room) (va_Pc [.ref mt, .int fi] (rw_B (dC, dI) classes [(cI, .int), (cL, .long)] [cg_G g tA oA uA wA sA np ne bd er vr, cg_W wy g cA rA mv tl, cg_L cA cL 400 ct, cg_M mt g wy xA nA pA qA kA rl, cg_N xA cI 10 row, cg_O nA cI 10 nr])) (rw_Qv (dC, dI) classes (rw_A [cg_G g tA oA uA wA sA np ne bd er vr, cg_W wy g cA rA mv tl, cg_L cA cL 400 ct, cg_M mt g wy xA nA pA qA kA rl, cg_N xA cI 10 row, cg_O nA cI 10 nr]) (fun (u : (Nat → Nat) × (Nat → Option Nat)) => (∀ i, i < (ng_rw fi np).length → (ng_rw fi np)[i]? = some (u.1 i)) ∧ (∀ i, i < (ng_rw fi np).length → u.2 i = ng_nb bd ct (u.1 i) np)) (fun u => [cg_G g tA oA uA wA sA np ne bd er vr, cg_W wy g cA rA mv tl, cg_L cA cL 400 ct, cg_M mt g wy xA nA pA qA kA ((ng_rw fi np).length), cg_N xA cI 10 u.1, cg_O nA cI 10 u.2])) 0 0 (rw_A [cg_G g tA oA uA wA sA np ne bd er vr, cg_W wy g cA rA mv tl, cg_L cA cL 400 ct, cg_M mt g wy xA nA pA qA kA rl, cg_N xA cI 10 row, cg_O nA cI 10 nr]) := by
  refine Met.ofW (cc := b_M_layRow) (maxL := 3) (ret := none) (by decide) rfl ?_
  intro p e s m args below meth c s₁ B hml hv
  obtain ⟨rfl, hP, hK, hD0⟩ := hv
  have hx := B.exec
  have hb := B.bytes
  have hr := B.returns
  have hts := atoms_spec (ws := w_M_layRow) B.pre
  have hown : s.vm.findClass R_M = some m.cls := findClass_of_methodNamed B.named
  have hlocks := B.notSynchronized
  have iG : ∀ w ∈ w_G, w ∈ w_M_layRow := fun w h => List.mem_cons_of_mem _ (i_G w h)
  have iM : ∀ w ∈ w_M, w ∈ w_M_layRow := fun w h => List.mem_cons_of_mem _ (i_M w h)
  have hD := rw_own hD0
  generalize hAe : rw_A [cg_G g tA oA uA wA sA np ne bd er vr, cg_W wy g cA rA mv tl, cg_L cA cL 400 ct, cg_M mt g wy xA nA pA qA kA rl, cg_N xA cI 10 row, cg_O nA cI 10 nr] = A at hD ⊢
  have hS : va_S A s.heap s.heap [] := va_S.rf
  have hP : va_P (dC, dI) classes [cg_G g tA oA uA wA sA np ne bd er vr, cg_W wy g cA rA mv tl, cg_L cA cL 400 ct, cg_M mt g wy xA nA pA qA kA rl, cg_N xA cI 10 row, cg_O nA cI 10 nr] s.heap := hP
  have hl := lv_entry ([.ref mt, .int fi]) (n := 3) (Nat.le_of_ble_eq_true rfl)
  rw [lg_entry_eq]
  generalize (lg_sl ([.ref mt, .int fi]) ++ List.replicate (3 - (lg_sl ([.ref mt, .int fi])).length) Slot.unset).toArray = ls at hl ⊢
  have hl : lv_has ls 3 [(0, .ref mt), (1, .int fi)] := hl
  refine lv_aload_n hx hb d_M_layRow_0 rfl (lv_at hl 0 rfl) ?_
  refine lv_iconst (v := nI 0) hx hb d_M_layRow_1 (by decide) ?_
  refine va_put (D := (dC, dI)) (ci := 3) (v := .int (nI 0)) (ty := .int) (C := R_M) (T := F_M) (N := 8) hx hb hts iM t_M t_M_ok n_M hown hK hP hD hS 3 rfl rfl 7 (by decide) (hts _ (List.mem_cons_of_mem _ wk_M_27)) (fun _ h9 => h9) rfl (by decide +kernel) rfl rfl (Nat.le_of_ble_eq_true rfl) d_M_layRow_2 (fun H locs hP hD hS => ?_)
  have hP : va_P (dC, dI) classes [cg_G g tA oA uA wA sA np ne bd er vr, cg_W wy g cA rA mv tl, cg_L cA cL 400 ct, cg_M mt g wy xA nA pA qA kA 0, cg_N xA cI 10 row, cg_O nA cI 10 nr] H := hP
  have hD : va_D A [cg_G g tA oA uA wA sA np ne bd er vr, cg_W wy g cA rA mv tl, cg_L cA cL 400 ct, cg_M mt g wy xA nA pA qA kA 0, cg_N xA cI 10 row, cg_O nA cI 10 nr] := hD
  refine lv_iconst (v := nI 0) hx hb d_M_layRow_5 (by decide) ?_
  refine lv_istore_n (lv' := [(2, .int (nI 0)), (0, .ref mt), (1, .int fi)]) hx hb d_M_layRow_6 rfl hl (by decide) rfl (fun ls hl => ?_)
  have lp_7 : ∀ (n : Nat) (i rl1 : Nat) (row1 : Nat → Nat) (nr1 : Nat → Option Nat), (i ≤ np) → (rl1 = (ng_rw fi i).length) → (∀ j, j < rl1 → (ng_rw fi i)[j]? = some (row1 j)) → (∀ j, j < rl1 → nr1 j = ng_nb bd ct (row1 j) np) → np - i < n → ∀ (H : Heap) (locs : List Loc), va_P (dC, dI) classes [cg_G g tA oA uA wA sA np ne bd er vr, cg_W wy g cA rA mv tl, cg_L cA cL 400 ct, cg_M mt g wy xA nA pA qA kA rl1, cg_N xA cI 10 row1, cg_O nA cI 10 nr1] H → va_D A [cg_G g tA oA uA wA sA np ne bd er vr, cg_W wy g cA rA mv tl, cg_L cA cL 400 ct, cg_M mt g wy xA nA pA qA kA rl1, cg_N xA cI 10 row1, cg_O nA cI 10 nr1] → va_S A s.heap H locs → ∀ (ls : Array Slot), lv_has ls 3 [(0, .ref mt), (1, .int fi), (2, .int (nI i))] → W p l e (headSpec w_M_layRow ({ frames := 3, cells := 0, slots := 0, locals := 66 } : Room)).room s m ([.ref mt, .int fi] : List Value).toArray below meth c H locs 0 0 (MQ below (rw_Qv (dC, dI) classes A (fun (u : (Nat → Nat) × (Nat → Option Nat)) => (∀ i, i < (ng_rw fi np).length → (ng_rw fi np)[i]? = some (u.1 i)) ∧ (∀ i, i < (ng_rw fi np).length → u.2 i = ng_nb bd ct (u.1 i) np)) (fun u => [cg_G g tA oA uA wA sA np ne bd er vr, cg_W wy g cA rA mv tl, cg_L cA cL 400 ct, cg_M mt g wy xA nA pA qA kA ((ng_rw fi np).length), cg_N xA cI 10 u.1, cg_O nA cI 10 u.2])) ([.ref mt, .int fi] : List Value).toArray s 0 0 A) (F0 m 7 ls []) := by
    intro n
    induction n with
    | zero => intro i rl1 row1 nr1 hi hrl h1 h2 hme; exact absurd hme (Nat.not_lt_zero _)
    | succ n ih =>
      intro i rl1 row1 nr1 hi hrl h1 h2 hme H locs hP hD hS ls hl
      have ih_7 := ih
      refine lv_iload_n hx hb d_M_layRow_7 rfl (lv_at hl 2 rfl) ?_
      refine lv_aload_n hx hb d_M_layRow_8 rfl (lv_at hl 0 rfl) ?_
      refine va_get (D := (dC, dI)) (ci := 3) (v := .ref g) (C := R_M) (T := F_M) (N := 8) hx hb hts iM hown hK hP 3 rfl rfl 0 (by decide) (hts _ (List.mem_cons_of_mem _ wk_M_31)) (fun _ h9 => h9) rfl d_M_layRow_9 ?_
      refine va_get (D := (dC, dI)) (ci := 0) (v := .int (nI np)) (C := R_G) (T := F_G) (N := 10) hx hb hts iG hown hK hP 0 rfl rfl 5 (by decide) (hts _ (List.mem_cons_of_mem _ wk_M_84)) (fun _ h9 => h9) rfl d_M_layRow_12 ?_
      refine nr_icmp_ge (by omega) (by omega) (tgt := 76) hx hb d_M_layRow_15 (by decide) (fun c_15 => ?_) (fun c_15 => ?_)
      · have e9 : ng_rw fi np = ng_rw fi i := by rw [show i = np by omega]
        rw [e9, ← hrl]
        exact rw_vret (row1, nr1) hx hb hr hlocks hS hP (⟨fun j hj => h1 j hj, fun j hj => h2 j hj⟩) d_M_layRow_76
      · have hr10 : rl1 ≤ 10 := by have := ng_rw_mono (fi := fi) hi; omega
        refine lv_aload_n hx hb d_M_layRow_18 rfl (lv_at hl 0 rfl) ?_
        refine va_get (D := (dC, dI)) (ci := 3) (v := .int (nI rl1)) (C := R_M) (T := F_M) (N := 8) hx hb hts iM hown hK hP 3 rfl rfl 7 (by decide) (hts _ (List.mem_cons_of_mem _ wk_M_27)) (fun _ h9 => h9) rfl d_M_layRow_19 ?_
        refine lv_bipush (v := nI 10) hx hb d_M_layRow_22 (by decide) ?_
        refine nr_icmp_ge (by omega) (by omega) (tgt := 76) hx hb d_M_layRow_24 (by decide) (fun c_24 => ?_) (fun c_24 => ?_)
        · have e9 : ng_rw fi np = ng_rw fi i := ng_rw_same hi (by omega)
          rw [e9, ← hrl]
          exact rw_vret (row1, nr1) hx hb hr hlocks hS hP (⟨fun j hj => h1 j hj, fun j hj => h2 j hj⟩) d_M_layRow_76
        · have hmo := ng_rw_mono (fi := fi) (show i + 1 ≤ np by omega)
          refine lv_iload_n hx hb d_M_layRow_27 rfl (lv_at hl 1 rfl) ?_
          refine lv_iload_n hx hb d_M_layRow_28 rfl (lv_at hl 2 rfl) ?_
          refine lv_ishr hx hb d_M_layRow_29 ?_
          refine lv_iconst (v := nI 1) hx hb d_M_layRow_30 (by decide) ?_
          refine lv_iand hx hb d_M_layRow_31 ?_
          refine nr_as (v := nb_i (nb_t fi i)) (nb_bt_and1 (by omega)) ?_
          refine lv_iconst (v := nI 1) hx hb d_M_layRow_32 (by decide) ?_
          refine nr_icmpneB1 (tgt := 70) hx hb d_M_layRow_33 (by decide) (fun c_33 => ?_) (fun c_33 => ?_)
          · have e8 := ng_rw_f c_33
            have hrl2 : rl1 = (ng_rw fi (i + 1)).length := by rw [e8]; exact hrl
            have h12 : ∀ j, j < rl1 → (ng_rw fi (i + 1))[j]? = some (row1 j) := by rw [e8]; exact h1
            have h22 := h2
            refine lv_iinc (v := (nI (i + 1))) (lv' := [(2, .int (nI (i + 1))), (0, .ref mt), (1, .int fi)]) hx hb d_M_layRow_70 hl (k := 2) rfl (nI_1 i) (by decide) rfl (fun ls hl => ?_)
            refine lv_goto (tgt := 7) hx hb d_M_layRow_73 (by decide) ?_
            exact ih_7 (i + 1) rl1 row1 nr1 (by omega) hrl2 h12 h22 (by omega) _ _ hP hD hS ls (lv_sub hl [1, 2, 0] rfl)
          · have e8 := ng_rw_t c_33
            have hrl2 : rl1 + 1 = (ng_rw fi (i + 1)).length := by rw [e8, List.length_append]; simp; exact hrl
            have h12 := ng_row1 hrl e8 h1
            have h22 := ng_row2 (F := fun q => ng_nb bd ct q np) (v := ng_nb bd ct i np) (x := i) rfl h2
            refine lv_aload_n hx hb d_M_layRow_36 rfl (lv_at hl 0 rfl) ?_
            refine va_get (D := (dC, dI)) (ci := 3) (v := .ref xA) (C := R_M) (T := F_M) (N := 8) hx hb hts iM hown hK hP 3 rfl rfl 2 (by decide) (hts _ (List.mem_cons_of_mem _ wk_M_9)) (fun _ h9 => h9) rfl d_M_layRow_37 ?_
            refine lv_aload_n hx hb d_M_layRow_40 rfl (lv_at hl 0 rfl) ?_
            refine va_get (D := (dC, dI)) (ci := 3) (v := .int (nI rl1)) (C := R_M) (T := F_M) (N := 8) hx hb hts iM hown hK hP 3 rfl rfl 7 (by decide) (hts _ (List.mem_cons_of_mem _ wk_M_27)) (fun _ h9 => h9) rfl d_M_layRow_41 ?_
            refine lv_iload_n hx hb d_M_layRow_44 rfl (lv_at hl 2 rfl) ?_
            refine nr_iast hx hb hK hP hD hS 4 0 rfl rfl (by omega) (by decide) d_M_layRow_45 (fun H locs hP hD hS => ?_)
            have hP : va_P (dC, dI) classes [cg_G g tA oA uA wA sA np ne bd er vr, cg_W wy g cA rA mv tl, cg_L cA cL 400 ct, cg_M mt g wy xA nA pA qA kA rl1, cg_N xA cI 10 (va_up row1 rl1 i), cg_O nA cI 10 nr1] H := hP
            have hD : va_D A [cg_G g tA oA uA wA sA np ne bd er vr, cg_W wy g cA rA mv tl, cg_L cA cL 400 ct, cg_M mt g wy xA nA pA qA kA rl1, cg_N xA cI 10 (va_up row1 rl1 i), cg_O nA cI 10 nr1] := hD
            refine lv_aload_n hx hb d_M_layRow_46 rfl (lv_at hl 0 rfl) ?_
            refine va_get (D := (dC, dI)) (ci := 3) (v := .ref nA) (C := R_M) (T := F_M) (N := 8) hx hb hts iM hown hK hP 3 rfl rfl 3 (by decide) (hts _ (List.mem_cons_of_mem _ wk_M_15)) (fun _ h9 => h9) rfl d_M_layRow_47 ?_
            refine lv_aload_n hx hb d_M_layRow_50 rfl (lv_at hl 0 rfl) ?_
            refine va_get (D := (dC, dI)) (ci := 3) (v := .int (nI rl1)) (C := R_M) (T := F_M) (N := 8) hx hb hts iM hown hK hP 3 rfl rfl 7 (by decide) (hts _ (List.mem_cons_of_mem _ wk_M_27)) (fun _ h9 => h9) rfl d_M_layRow_51 ?_
            refine lv_aload_n hx hb d_M_layRow_54 rfl (lv_at hl 0 rfl) ?_
            refine lv_iload_n hx hb d_M_layRow_55 rfl (lv_at hl 2 rfl) ?_
            refine ro_Vi (As := [.int (nI i)]) (rest := [.int (nI rl1), .ref nA]) ⟨hx, hb, hml, hown, hts⟩ (c_M_nearestBoundary l dC dI cI cL g tA oA uA wA sA np ne bd er vr wy cA rA mv tl mt xA nA pA qA kA rl1 ct i (by omega) (by omega) (by omega) (by omega)) (cwV 1 hts (wg_V wk_M_89 wm_M_nearestBoundary we_M_nearestBoundary wi_M wc_M_nearestBoundary) rfl rfl rfl (by decide +kernel) ⟨Nat.le_of_ble_eq_true rfl, Nat.le_of_ble_eq_true rfl⟩) hK (hP.sub [0, 1, 2, 3] rfl) (q0 := 3) rfl rfl rfl rfl hl.1 rfl (lv_room (Nat.le_of_ble_eq_true rfl)) d_M_layRow_56 ⟨Nat.zero_le _, Nat.zero_le _⟩ hS hP (fun H locs hP hS => ?_)
            refine nr_oast (x := (ng_nb bd ct i np)) hx hb hK hP hD hS 5 0 rfl rfl (by omega) (by decide) d_M_layRow_59 (fun H locs hP hD hS => ?_)
            have hP : va_P (dC, dI) classes [cg_G g tA oA uA wA sA np ne bd er vr, cg_W wy g cA rA mv tl, cg_L cA cL 400 ct, cg_M mt g wy xA nA pA qA kA rl1, cg_N xA cI 10 (va_up row1 rl1 i), cg_O nA cI 10 (va_up nr1 rl1 (ng_nb bd ct i np))] H := hP
            have hD : va_D A [cg_G g tA oA uA wA sA np ne bd er vr, cg_W wy g cA rA mv tl, cg_L cA cL 400 ct, cg_M mt g wy xA nA pA qA kA rl1, cg_N xA cI 10 (va_up row1 rl1 i), cg_O nA cI 10 (va_up nr1 rl1 (ng_nb bd ct i np))] := hD
            refine lv_aload_n hx hb d_M_layRow_60 rfl (lv_at hl 0 rfl) ?_
            refine lv_dup hx hb d_M_layRow_61 rfl ?_
            refine va_get (D := (dC, dI)) (ci := 3) (v := .int (nI rl1)) (C := R_M) (T := F_M) (N := 8) hx hb hts iM hown hK hP 3 rfl rfl 7 (by decide) (hts _ (List.mem_cons_of_mem _ wk_M_27)) (fun _ h9 => h9) rfl d_M_layRow_62 ?_
            refine lv_iconst (v := nI 1) hx hb d_M_layRow_65 (by decide) ?_
            refine nr_iadd hx hb d_M_layRow_66 ?_
            refine va_put (D := (dC, dI)) (ci := 3) (v := .int (nI (rl1 + 1))) (ty := .int) (C := R_M) (T := F_M) (N := 8) hx hb hts iM t_M t_M_ok n_M hown hK hP hD hS 3 rfl rfl 7 (by decide) (hts _ (List.mem_cons_of_mem _ wk_M_27)) (fun _ h9 => h9) rfl (by decide +kernel) rfl rfl (Nat.le_of_ble_eq_true rfl) d_M_layRow_67 (fun H locs hP hD hS => ?_)
            have hP : va_P (dC, dI) classes [cg_G g tA oA uA wA sA np ne bd er vr, cg_W wy g cA rA mv tl, cg_L cA cL 400 ct, cg_M mt g wy xA nA pA qA kA (rl1 + 1), cg_N xA cI 10 (va_up row1 rl1 i), cg_O nA cI 10 (va_up nr1 rl1 (ng_nb bd ct i np))] H := hP
            have hD : va_D A [cg_G g tA oA uA wA sA np ne bd er vr, cg_W wy g cA rA mv tl, cg_L cA cL 400 ct, cg_M mt g wy xA nA pA qA kA (rl1 + 1), cg_N xA cI 10 (va_up row1 rl1 i), cg_O nA cI 10 (va_up nr1 rl1 (ng_nb bd ct i np))] := hD
            refine lv_iinc (v := (nI (i + 1))) (lv' := [(2, .int (nI (i + 1))), (0, .ref mt), (1, .int fi)]) hx hb d_M_layRow_70 hl (k := 2) rfl (nI_1 i) (by decide) rfl (fun ls hl => ?_)
            refine lv_goto (tgt := 7) hx hb d_M_layRow_73 (by decide) ?_
            exact ih_7 (i + 1) (rl1 + 1) (va_up row1 rl1 i) (va_up nr1 rl1 (ng_nb bd ct i np)) (by omega) hrl2 h12 h22 (by omega) _ _ hP hD hS ls (lv_sub hl [1, 2, 0] rfl)
  exact lp_7 (np - 0 + 1) 0 0 row nr (by omega) rfl (fun j h => absurd h (Nat.not_lt_zero _)) (fun j h => absurd h (Nat.not_lt_zero _)) (Nat.lt_succ_self _) _ _ hP hD hS ls (lv_sub hl [1, 2, 0] rfl)
set_option maxHeartbeats 4000000 in
set_option maxRecDepth 100000 in
theorem c_M_weighPairs (l : Launch) (dC : Nat → ClassId) (dI : Nat → Nat → Nat) (cI cL : ClassId) (g tA oA uA wA sA np ne : Nat) (bd : Int32) (er : Int64) (vr : Nat) (wy cA rA : Nat) (mv : Int32) (tl : Nat) (mt xA nA pA qA kA rl : Nat) (ct row pw : Nat → Nat) (nr : Nat → Option Nat) (hnp : np ≤ 20) (hrl : rl ≤ 10) (hrow : ∀ j, j < rl → row j < np) (hnr : ∀ j y, j < rl → nr j = some y → y < np) (hpw : ∀ i, i < 100 → pw i ≤ ng_F1) (hct : ∀ i, i < 400 → ct i ≤ dm_FAR) (hcf : ∀ a b, a < np → b < np → ct (a * 20 + b) = dm_FAR ∨ ct (a * 20 + b) ≤ 1300000000) : Met l y_M_weighPairs w_M_weighPairs ({ frames := 2, cells := 0, slots := 0, locals := 43 } : Room) (va_Pc [.ref mt] (rw_B (dC, dI) classes [(cI, .int), (cL, .long)] [cg_G g tA oA uA wA sA np ne bd er vr, cg_W wy g cA rA mv tl, cg_L cA cL 400 ct, cg_M mt g wy xA nA pA qA kA rl, cg_N xA cI 10 row, cg_O nA cI 10 nr, cg_N pA cI 100 pw])) (rw_Qv (dC, dI) classes (rw_A [cg_G g tA oA uA wA sA np ne bd er vr, cg_W wy g cA rA mv tl, cg_L cA cL 400 ct, cg_M mt g wy xA nA pA qA kA rl, cg_N xA cI 10 row, cg_O nA cI 10 nr, cg_N pA cI 100 pw]) (fun (u : (Nat → Nat)) => (∀ a b, a ≤ b → b < rl → u (a * 10 + b) = ng_pv ct row nr a b) ∧ (∀ i, i < 100 → u i ≤ ng_F1)) (fun u => [cg_G g tA oA uA wA sA np ne bd er vr, cg_W wy g cA rA mv tl, cg_L cA cL 400 ct, cg_M mt g wy xA nA pA qA kA rl, cg_N xA cI 10 row, cg_O nA cI 10 nr, cg_N pA cI 100 u])) 0 0 (rw_A [cg_G g tA oA uA wA sA np ne bd er vr, cg_W wy g cA rA mv tl, cg_L cA cL 400 ct, cg_M mt g wy xA nA pA qA kA rl, cg_N xA cI 10 row, cg_O nA cI 10 nr, cg_N pA cI 100 pw]) := by
  refine Met.ofW (cc := b_M_weighPairs) (maxL := 4) (ret := none) (by decide) rfl ?_
  intro p e s m args below meth c s₁ B hml hv
  obtain ⟨rfl, hP, hK, hD0⟩ := hv
  have hx := B.exec
  have hb := B.bytes
  have hr := B.returns
  have hts := atoms_spec (ws := w_M_weighPairs) B.pre
  have hown : s.vm.findClass R_M = some m.cls := findClass_of_methodNamed B.named
  have hlocks := B.notSynchronized
  have iM : ∀ w ∈ w_M, w ∈ w_M_weighPairs := fun w h => List.mem_cons_of_mem _ (i_M w h)
  have hD := rw_own hD0
  generalize hAe : rw_A [cg_G g tA oA uA wA sA np ne bd er vr, cg_W wy g cA rA mv tl, cg_L cA cL 400 ct, cg_M mt g wy xA nA pA qA kA rl, cg_N xA cI 10 row, cg_O nA cI 10 nr, cg_N pA cI 100 pw] = A at hD ⊢
  have hS : va_S A s.heap s.heap [] := va_S.rf
  have hP : va_P (dC, dI) classes [cg_G g tA oA uA wA sA np ne bd er vr, cg_W wy g cA rA mv tl, cg_L cA cL 400 ct, cg_M mt g wy xA nA pA qA kA rl, cg_N xA cI 10 row, cg_O nA cI 10 nr, cg_N pA cI 100 pw] s.heap := hP
  have hl := lv_entry ([.ref mt]) (n := 4) (Nat.le_of_ble_eq_true rfl)
  rw [lg_entry_eq]
  generalize (lg_sl ([.ref mt]) ++ List.replicate (4 - (lg_sl ([.ref mt])).length) Slot.unset).toArray = ls at hl ⊢
  have hl : lv_has ls 4 [(0, .ref mt)] := hl
  have hF1 : ng_F1 = 1000000000 := rfl
  have hFAR : dm_FAR = 1000000000000 := rfl
  refine lv_iconst (v := nI 0) hx hb d_M_weighPairs_0 (by decide) ?_
  refine lv_istore_n (lv' := [(1, .int (nI 0)), (0, .ref mt)]) hx hb d_M_weighPairs_1 rfl hl (by decide) rfl (fun ls hl => ?_)
  have lp_2 : ∀ (n : Nat) (i : Nat) (pw1 : Nat → Nat), (i ≤ rl) → ((∀ a b, a ≤ b → b < rl → a < i → pw1 (a * 10 + b) = ng_pv ct row nr a b)) → (∀ i, i < 100 → pw1 i ≤ ng_F1) → rl - i < n → ∀ (H : Heap) (locs : List Loc), va_P (dC, dI) classes [cg_G g tA oA uA wA sA np ne bd er vr, cg_W wy g cA rA mv tl, cg_L cA cL 400 ct, cg_M mt g wy xA nA pA qA kA rl, cg_N xA cI 10 row, cg_O nA cI 10 nr, cg_N pA cI 100 pw1] H → va_D A [cg_G g tA oA uA wA sA np ne bd er vr, cg_W wy g cA rA mv tl, cg_L cA cL 400 ct, cg_M mt g wy xA nA pA qA kA rl, cg_N xA cI 10 row, cg_O nA cI 10 nr, cg_N pA cI 100 pw1] → va_S A s.heap H locs → ∀ (ls : Array Slot), lv_has ls 4 [(0, .ref mt), (1, .int (nI i))] → W p l e (headSpec w_M_weighPairs ({ frames := 2, cells := 0, slots := 0, locals := 43 } : Room)).room s m ([.ref mt] : List Value).toArray below meth c H locs 0 0 (MQ below (rw_Qv (dC, dI) classes A (fun (u : (Nat → Nat)) => (∀ a b, a ≤ b → b < rl → u (a * 10 + b) = ng_pv ct row nr a b) ∧ (∀ i, i < 100 → u i ≤ ng_F1)) (fun u => [cg_G g tA oA uA wA sA np ne bd er vr, cg_W wy g cA rA mv tl, cg_L cA cL 400 ct, cg_M mt g wy xA nA pA qA kA rl, cg_N xA cI 10 row, cg_O nA cI 10 nr, cg_N pA cI 100 u])) ([.ref mt] : List Value).toArray s 0 0 A) (F0 m 2 ls []) := by
    intro n
    induction n with
    | zero => intro i pw1 hi ho hf1 hme; exact absurd hme (Nat.not_lt_zero _)
    | succ n ih =>
      intro i pw1 hi ho hf1 hme H locs hP hD hS ls hl
      have ih_2 := ih
      refine lv_iload_n hx hb d_M_weighPairs_2 rfl (lv_at hl 1 rfl) ?_
      refine lv_aload_n hx hb d_M_weighPairs_3 rfl (lv_at hl 0 rfl) ?_
      refine va_get (D := (dC, dI)) (ci := 3) (v := .int (nI rl)) (C := R_M) (T := F_M) (N := 8) hx hb hts iM hown hK hP 3 rfl rfl 7 (by decide) (hts _ (List.mem_cons_of_mem _ wk_M_27)) (fun _ h9 => h9) rfl d_M_weighPairs_4 ?_
      refine nr_icmp_ge (by omega) (by omega) (tgt := 91) hx hb d_M_weighPairs_7 (by decide) (fun c_7 => ?_) (fun c_7 => ?_)
      · exact rw_vret pw1 hx hb hr hlocks hS hP (⟨fun a b h1 h2 => ho a b h1 h2 (by omega), hf1⟩) d_M_weighPairs_91
      · have hri := hrow i c_7
        refine lv_iload_n hx hb d_M_weighPairs_10 rfl (lv_at hl 1 rfl) ?_
        refine lv_istore_n (lv' := [(2, .int (nI i)), (0, .ref mt), (1, .int (nI i))]) hx hb d_M_weighPairs_11 rfl hl (by decide) rfl (fun ls hl => ?_)
        have lp_12 : ∀ (n : Nat) (j : Nat) (pw1 : Nat → Nat), (j ≤ rl) → (i ≤ j) → ((∀ a b, a ≤ b → b < rl → (a < i ∨ (a = i ∧ b < j)) → pw1 (a * 10 + b) = ng_pv ct row nr a b)) → (∀ i, i < 100 → pw1 i ≤ ng_F1) → rl - j < n → ∀ (H : Heap) (locs : List Loc), va_P (dC, dI) classes [cg_G g tA oA uA wA sA np ne bd er vr, cg_W wy g cA rA mv tl, cg_L cA cL 400 ct, cg_M mt g wy xA nA pA qA kA rl, cg_N xA cI 10 row, cg_O nA cI 10 nr, cg_N pA cI 100 pw1] H → va_D A [cg_G g tA oA uA wA sA np ne bd er vr, cg_W wy g cA rA mv tl, cg_L cA cL 400 ct, cg_M mt g wy xA nA pA qA kA rl, cg_N xA cI 10 row, cg_O nA cI 10 nr, cg_N pA cI 100 pw1] → va_S A s.heap H locs → ∀ (ls : Array Slot), lv_has ls 4 [(0, .ref mt), (1, .int (nI i)), (2, .int (nI j))] → W p l e (headSpec w_M_weighPairs ({ frames := 2, cells := 0, slots := 0, locals := 43 } : Room)).room s m ([.ref mt] : List Value).toArray below meth c H locs 0 0 (MQ below (rw_Qv (dC, dI) classes A (fun (u : (Nat → Nat)) => (∀ a b, a ≤ b → b < rl → u (a * 10 + b) = ng_pv ct row nr a b) ∧ (∀ i, i < 100 → u i ≤ ng_F1)) (fun u => [cg_G g tA oA uA wA sA np ne bd er vr, cg_W wy g cA rA mv tl, cg_L cA cL 400 ct, cg_M mt g wy xA nA pA qA kA rl, cg_N xA cI 10 row, cg_O nA cI 10 nr, cg_N pA cI 100 u])) ([.ref mt] : List Value).toArray s 0 0 A) (F0 m 12 ls []) := by
          intro n
          induction n with
          | zero => intro j pw1 hj hij ho2 hf1 hme; exact absurd hme (Nat.not_lt_zero _)
          | succ n ih =>
            intro j pw1 hj hij ho2 hf1 hme H locs hP hD hS ls hl
            have ih_12 := ih
            refine lv_iload_n hx hb d_M_weighPairs_12 rfl (lv_at hl 2 rfl) ?_
            refine lv_aload_n hx hb d_M_weighPairs_13 rfl (lv_at hl 0 rfl) ?_
            refine va_get (D := (dC, dI)) (ci := 3) (v := .int (nI rl)) (C := R_M) (T := F_M) (N := 8) hx hb hts iM hown hK hP 3 rfl rfl 7 (by decide) (hts _ (List.mem_cons_of_mem _ wk_M_27)) (fun _ h9 => h9) rfl d_M_weighPairs_14 ?_
            refine nr_icmp_ge (by omega) (by omega) (tgt := 85) hx hb d_M_weighPairs_17 (by decide) (fun c_17 => ?_) (fun c_17 => ?_)
            · refine lv_iinc (v := (nI (i + 1))) (lv' := [(1, .int (nI (i + 1))), (0, .ref mt), (2, .int (nI j))]) hx hb d_M_weighPairs_85 hl (k := 1) rfl (nI_1 i) (by decide) rfl (fun ls hl => ?_)
              refine lv_goto (tgt := 2) hx hb d_M_weighPairs_88 (by decide) ?_
              exact ih_2 (i + 1) pw1 (by omega) (fun a b h1 h2 h3 => ho2 a b h1 h2 (by omega)) hf1 (by omega) _ _ hP hD hS ls (lv_sub hl [1, 0] rfl)
            · refine lv_aload_n hx hb d_M_weighPairs_20 rfl (lv_at hl 0 rfl) ?_
              refine lv_iload_n hx hb d_M_weighPairs_21 rfl (lv_at hl 1 rfl) ?_
              refine lv_iload_n hx hb d_M_weighPairs_22 rfl (lv_at hl 2 rfl) ?_
              refine ro_Vi (As := [.int (nI i), .int (nI j)]) (rest := []) ⟨hx, hb, hml, hown, hts⟩ (c_M_pointOf l dC dI cI cL mt g wy xA nA pA qA kA rl row nr i j (by omega) (by omega)) (cwV 2 hts (wg_V wk_M_64 wm_M_pointOf we_M_pointOf wi_M wc_M_pointOf) rfl rfl rfl (by decide +kernel) ⟨Nat.le_of_ble_eq_true rfl, Nat.le_of_ble_eq_true rfl⟩) hK (hP.sub [3, 4, 5] rfl) (q0 := 0) rfl rfl rfl rfl hl.1 rfl (lv_room (Nat.le_of_ble_eq_true rfl)) d_M_weighPairs_23 ⟨Nat.zero_le _, Nat.zero_le _⟩ hS hP (fun H locs hP hS => ?_)
              rcases hpt : ng_pt row nr i j with _ | y
              · refine nr_as (v := -1) rfl ?_
                have hvv : ng_F1 = ng_pv ct row nr i j := by rw [ng_pv, hpt]
                have hvb : ng_F1 ≤ ng_F1 := Nat.le_refl _
                refine lv_istore_n (lv' := [(3, .int (-1)), (0, .ref mt), (1, .int (nI i)), (2, .int (nI j))]) hx hb d_M_weighPairs_26 rfl hl (by decide) rfl (fun ls hl => ?_)
                refine lv_aload_n hx hb d_M_weighPairs_27 rfl (lv_at hl 1 rfl) ?_
                refine va_get (D := (dC, dI)) (ci := 3) (v := .ref pA) (C := R_M) (T := F_M) (N := 8) hx hb hts iM hown hK hP 3 rfl rfl 4 (by decide) (hts _ (List.mem_cons_of_mem _ wk_M_18)) (fun _ h9 => h9) rfl d_M_weighPairs_28 ?_
                refine lv_iload_n hx hb d_M_weighPairs_31 rfl (lv_at hl 2 rfl) ?_
                refine lv_bipush (v := nI 10) hx hb d_M_weighPairs_32 (by decide) ?_
                refine nr_imul hx hb d_M_weighPairs_34 ?_
                refine lv_iload_n hx hb d_M_weighPairs_35 rfl (lv_at hl 3 rfl) ?_
                refine nr_iadd hx hb d_M_weighPairs_36 ?_
                refine lv_iload_n hx hb d_M_weighPairs_37 rfl (lv_at hl 0 rfl) ?_
                refine lv_iconst (v := -1) hx hb d_M_weighPairs_38 (by decide) ?_
                refine lv_icmp_eq (tgt := 76) hx hb d_M_weighPairs_39 (by decide) (fun c_39 => ?_) (fun c => absurd rfl c)
                refine lv_ldc (v := 1000000000) hx hb hown (hts _ (List.mem_cons_of_mem _ wk_M_53)) d_M_weighPairs_76 ?_
                refine nr_as (v := nI 1000000000) (by decide) ?_
                refine nr_iast hx hb hK hP hD hS 6 0 rfl rfl (by omega) (by decide) d_M_weighPairs_78 (fun H locs hP hD hS => ?_)
                have hP : va_P (dC, dI) classes [cg_G g tA oA uA wA sA np ne bd er vr, cg_W wy g cA rA mv tl, cg_L cA cL 400 ct, cg_M mt g wy xA nA pA qA kA rl, cg_N xA cI 10 row, cg_O nA cI 10 nr, cg_N pA cI 100 (va_up pw1 ((i * 10) + j) 1000000000)] H := hP
                have hD : va_D A [cg_G g tA oA uA wA sA np ne bd er vr, cg_W wy g cA rA mv tl, cg_L cA cL 400 ct, cg_M mt g wy xA nA pA qA kA rl, cg_N xA cI 10 row, cg_O nA cI 10 nr, cg_N pA cI 100 (va_up pw1 ((i * 10) + j) 1000000000)] := hD
                refine lv_iinc (v := (nI (j + 1))) (lv' := [(2, .int (nI (j + 1))), (3, .int (-1)), (0, .ref mt), (1, .int (nI i))]) hx hb d_M_weighPairs_79 hl (k := 3) rfl (nI_1 j) (by decide) rfl (fun ls hl => ?_)
                refine lv_goto (tgt := 12) hx hb d_M_weighPairs_82 (by decide) ?_
                exact ih_12 (j + 1) (va_up pw1 ((i * 10) + j) 1000000000) (by omega) (by omega) (ng_pws hrl c_7 c_17 hij hvv ho2) (ng_pwf hf1 hvb) (by omega) _ _ hP hD hS ls (lv_sub hl [2, 3, 0] rfl)
              · refine nr_as (v := nI y) rfl ?_
                have hyl : y < np := ng_pt_lt hpt hrow (fun z hz => hnr i z c_7 hz) c_17
                have hcy := hct (row i * 20 + y) (by omega)
                refine lv_istore_n (lv' := [(3, .int (nI y)), (0, .ref mt), (1, .int (nI i)), (2, .int (nI j))]) hx hb d_M_weighPairs_26 rfl hl (by decide) rfl (fun ls hl => ?_)
                refine lv_aload_n hx hb d_M_weighPairs_27 rfl (lv_at hl 1 rfl) ?_
                refine va_get (D := (dC, dI)) (ci := 3) (v := .ref pA) (C := R_M) (T := F_M) (N := 8) hx hb hts iM hown hK hP 3 rfl rfl 4 (by decide) (hts _ (List.mem_cons_of_mem _ wk_M_18)) (fun _ h9 => h9) rfl d_M_weighPairs_28 ?_
                refine lv_iload_n hx hb d_M_weighPairs_31 rfl (lv_at hl 2 rfl) ?_
                refine lv_bipush (v := nI 10) hx hb d_M_weighPairs_32 (by decide) ?_
                refine nr_imul hx hb d_M_weighPairs_34 ?_
                refine lv_iload_n hx hb d_M_weighPairs_35 rfl (lv_at hl 3 rfl) ?_
                refine nr_iadd hx hb d_M_weighPairs_36 ?_
                refine lv_iload_n hx hb d_M_weighPairs_37 rfl (lv_at hl 0 rfl) ?_
                refine lv_iconst (v := -1) hx hb d_M_weighPairs_38 (by decide) ?_
                refine lv_icmp_eq (tgt := 76) hx hb d_M_weighPairs_39 (by decide) (fun c => absurd c (ng_nm1 (by omega))) (fun c_39 => ?_)
                refine lv_aload_n hx hb d_M_weighPairs_42 rfl (lv_at hl 1 rfl) ?_
                refine va_get (D := (dC, dI)) (ci := 3) (v := .ref wy) (C := R_M) (T := F_M) (N := 8) hx hb hts iM hown hK hP 3 rfl rfl 1 (by decide) (hts _ (List.mem_cons_of_mem _ wk_M_35)) (fun _ h9 => h9) rfl d_M_weighPairs_43 ?_
                refine lv_aload_n hx hb d_M_weighPairs_46 rfl (lv_at hl 1 rfl) ?_
                refine va_get (D := (dC, dI)) (ci := 3) (v := .ref xA) (C := R_M) (T := F_M) (N := 8) hx hb hts iM hown hK hP 3 rfl rfl 2 (by decide) (hts _ (List.mem_cons_of_mem _ wk_M_9)) (fun _ h9 => h9) rfl d_M_weighPairs_47 ?_
                refine lv_iload_n hx hb d_M_weighPairs_50 rfl (lv_at hl 2 rfl) ?_
                refine nr_iald hx hb hK hP 4 0 rfl rfl (by omega) (by decide) d_M_weighPairs_51 ?_
                refine lv_iload_n hx hb d_M_weighPairs_52 rfl (lv_at hl 0 rfl) ?_
                refine ro_Vi (As := [.int (nI (row i)), .int (nI y)]) (rest := [.int (nI ((i * 10) + j)), .ref pA]) ⟨hx, hb, hml, hown, hts⟩ (c_W_isThere l dC dI cI cL wy g cA rA mv tl ct (row i) y (by omega) (by omega) (by omega)) (cwV 2 hts (wg_V wk_M_97 wm_W_isThere we_W_isThere wi_W wc_W_isThere) rfl rfl rfl (by decide +kernel) ⟨Nat.le_of_ble_eq_true rfl, Nat.le_of_ble_eq_true rfl⟩) hK (hP.sub [1, 2] rfl) (q0 := 0) rfl rfl rfl rfl hl.1 rfl (lv_room (Nat.le_of_ble_eq_true rfl)) d_M_weighPairs_53 ⟨Nat.zero_le _, Nat.zero_le _⟩ hS hP (fun H locs hP hS => ?_)
                refine nr_ifeqB (tgt := 76) hx hb d_M_weighPairs_56 (by decide) (fun c_56 => ?_) (fun c_56 => ?_)
                · have hvv : ng_F1 = ng_pv ct row nr i j := by rw [ng_pv, hpt]; exact (if_pos (by simpa using c_56)).symm
                  have hvb : ng_F1 ≤ ng_F1 := Nat.le_refl _
                  refine lv_ldc (v := 1000000000) hx hb hown (hts _ (List.mem_cons_of_mem _ wk_M_53)) d_M_weighPairs_76 ?_
                  refine nr_as (v := nI 1000000000) (by decide) ?_
                  refine nr_iast hx hb hK hP hD hS 6 0 rfl rfl (by omega) (by decide) d_M_weighPairs_78 (fun H locs hP hD hS => ?_)
                  have hP : va_P (dC, dI) classes [cg_G g tA oA uA wA sA np ne bd er vr, cg_W wy g cA rA mv tl, cg_L cA cL 400 ct, cg_M mt g wy xA nA pA qA kA rl, cg_N xA cI 10 row, cg_O nA cI 10 nr, cg_N pA cI 100 (va_up pw1 ((i * 10) + j) 1000000000)] H := hP
                  have hD : va_D A [cg_G g tA oA uA wA sA np ne bd er vr, cg_W wy g cA rA mv tl, cg_L cA cL 400 ct, cg_M mt g wy xA nA pA qA kA rl, cg_N xA cI 10 row, cg_O nA cI 10 nr, cg_N pA cI 100 (va_up pw1 ((i * 10) + j) 1000000000)] := hD
                  refine lv_iinc (v := (nI (j + 1))) (lv' := [(2, .int (nI (j + 1))), (3, .int (nI y)), (0, .ref mt), (1, .int (nI i))]) hx hb d_M_weighPairs_79 hl (k := 3) rfl (nI_1 j) (by decide) rfl (fun ls hl => ?_)
                  refine lv_goto (tgt := 12) hx hb d_M_weighPairs_82 (by decide) ?_
                  exact ih_12 (j + 1) (va_up pw1 ((i * 10) + j) 1000000000) (by omega) (by omega) (ng_pws hrl c_7 c_17 hij hvv ho2) (ng_pwf hf1 hvb) (by omega) _ _ hP hD hS ls (lv_sub hl [2, 3, 0] rfl)
                · have hvv : ct (row i * 20 + y) / 64 = ng_pv ct row nr i j := by rw [ng_pv, hpt]; exact (if_neg (by simpa using c_56)).symm
                  have hvb : ct (row i * 20 + y) / 64 ≤ ng_F1 := by have := (hcf (row i) y hri hyl).resolve_left (by simpa using c_56); omega
                  refine lv_aload_n hx hb d_M_weighPairs_59 rfl (lv_at hl 1 rfl) ?_
                  refine va_get (D := (dC, dI)) (ci := 3) (v := .ref wy) (C := R_M) (T := F_M) (N := 8) hx hb hts iM hown hK hP 3 rfl rfl 1 (by decide) (hts _ (List.mem_cons_of_mem _ wk_M_35)) (fun _ h9 => h9) rfl d_M_weighPairs_60 ?_
                  refine lv_aload_n hx hb d_M_weighPairs_63 rfl (lv_at hl 1 rfl) ?_
                  refine va_get (D := (dC, dI)) (ci := 3) (v := .ref xA) (C := R_M) (T := F_M) (N := 8) hx hb hts iM hown hK hP 3 rfl rfl 2 (by decide) (hts _ (List.mem_cons_of_mem _ wk_M_9)) (fun _ h9 => h9) rfl d_M_weighPairs_64 ?_
                  refine lv_iload_n hx hb d_M_weighPairs_67 rfl (lv_at hl 2 rfl) ?_
                  refine nr_iald hx hb hK hP 4 0 rfl rfl (by omega) (by decide) d_M_weighPairs_68 ?_
                  refine lv_iload_n hx hb d_M_weighPairs_69 rfl (lv_at hl 0 rfl) ?_
                  refine ro_Vi (As := [.int (nI (row i)), .int (nI y)]) (rest := [.int (nI ((i * 10) + j)), .ref pA]) ⟨hx, hb, hml, hown, hts⟩ (c_W_weightBetween l dC dI cI cL wy g cA rA mv tl ct (row i) y (by omega) (by omega) (by omega)) (cwV 2 hts (wg_V wk_M_101 wm_W_weightBetween we_W_weightBetween wi_W wc_W_weightBetween) rfl rfl rfl (by decide +kernel) ⟨Nat.le_of_ble_eq_true rfl, Nat.le_of_ble_eq_true rfl⟩) hK (hP.sub [1, 2] rfl) (q0 := 0) rfl rfl rfl rfl hl.1 rfl (lv_room (Nat.le_of_ble_eq_true rfl)) d_M_weighPairs_70 ⟨Nat.zero_le _, Nat.zero_le _⟩ hS hP (fun H locs hP hS => ?_)
                  refine lv_goto (tgt := 78) hx hb d_M_weighPairs_73 (by decide) ?_
                  refine nr_iast hx hb hK hP hD hS 6 0 rfl rfl (by omega) (by decide) d_M_weighPairs_78 (fun H locs hP hD hS => ?_)
                  have hP : va_P (dC, dI) classes [cg_G g tA oA uA wA sA np ne bd er vr, cg_W wy g cA rA mv tl, cg_L cA cL 400 ct, cg_M mt g wy xA nA pA qA kA rl, cg_N xA cI 10 row, cg_O nA cI 10 nr, cg_N pA cI 100 (va_up pw1 ((i * 10) + j) (ct ((row i) * 20 + y) / 64))] H := hP
                  have hD : va_D A [cg_G g tA oA uA wA sA np ne bd er vr, cg_W wy g cA rA mv tl, cg_L cA cL 400 ct, cg_M mt g wy xA nA pA qA kA rl, cg_N xA cI 10 row, cg_O nA cI 10 nr, cg_N pA cI 100 (va_up pw1 ((i * 10) + j) (ct ((row i) * 20 + y) / 64))] := hD
                  refine lv_iinc (v := (nI (j + 1))) (lv' := [(2, .int (nI (j + 1))), (3, .int (nI y)), (0, .ref mt), (1, .int (nI i))]) hx hb d_M_weighPairs_79 hl (k := 3) rfl (nI_1 j) (by decide) rfl (fun ls hl => ?_)
                  refine lv_goto (tgt := 12) hx hb d_M_weighPairs_82 (by decide) ?_
                  exact ih_12 (j + 1) (va_up pw1 ((i * 10) + j) (ct ((row i) * 20 + y) / 64)) (by omega) (by omega) (ng_pws hrl c_7 c_17 hij hvv ho2) (ng_pwf hf1 hvb) (by omega) _ _ hP hD hS ls (lv_sub hl [2, 3, 0] rfl)
        exact lp_12 (rl - i + 1) i pw1 (by omega) (Nat.le_refl _) (fun a b h1 h2 h3 => ho a b h1 h2 (by omega)) hf1 (Nat.lt_succ_self _) _ _ hP hD hS ls (lv_sub hl [1, 2, 0] rfl)
  exact lp_2 (rl - 0 + 1) 0 pw (by omega) (fun a b _ _ h => absurd h (Nat.not_lt_zero _)) hpw (Nat.lt_succ_self _) _ _ hP hD hS ls (lv_sub hl [1, 0] rfl)
set_option maxHeartbeats 4000000 in
set_option maxRecDepth 100000 in
theorem c_M_solveGroup (l : Launch) (dC : Nat → ClassId) (dI : Nat → Nat → Nat) (cI cL : ClassId) (mt g wy xA nA pA qA kA rl : Nat) (pw lw lc : Nat → Nat) (g0 : Nat) (hg : g0 < 1024) (hrl : rl ≤ 10) (hr0 : 0 < rl) (hpw : ∀ i, i < 100 → pw i ≤ ng_F1) (hlw : ∀ i, i < 1024 → lw i ≤ ng_F1) (hlp : ng_lp rl g0 < rl) (hbt : g0.testBit (ng_lp rl g0) = true) : Met l y_M_solveGroup w_M_solveGroup ({ frames := 2, cells := 0, slots := 0, locals := 47 } : Room) (va_Pc [.ref mt, .int (nI g0)] (rw_B (dC, dI) classes [(cI, .int), (cL, .long)] [cg_M mt g wy xA nA pA qA kA rl, cg_N pA cI 100 pw, cg_N qA cI 1024 lw, cg_N kA cI 1024 lc])) (rw_Qv (dC, dI) classes (rw_A [cg_M mt g wy xA nA pA qA kA rl, cg_N pA cI 100 pw, cg_N qA cI 1024 lw, cg_N kA cI 1024 lc]) (fun (u : Unit) => True) (fun u => [cg_M mt g wy xA nA pA qA kA rl, cg_N pA cI 100 pw, cg_N qA cI 1024 (va_up lw g0 (ng_sg pw lw lc g0 (ng_lp rl g0) (rl - ng_lp rl g0)).1), cg_N kA cI 1024 (va_up lc g0 (ng_sg pw lw lc g0 (ng_lp rl g0) (rl - ng_lp rl g0)).2)])) 0 0 (rw_A [cg_M mt g wy xA nA pA qA kA rl, cg_N pA cI 100 pw, cg_N qA cI 1024 lw, cg_N kA cI 1024 lc]) := by
  refine Met.ofW (cc := b_M_solveGroup) (maxL := 4) (ret := none) (by decide) rfl ?_
  intro p e s m args below meth c s₁ B hml hv
  obtain ⟨rfl, hP, hK, hD0⟩ := hv
  have hx := B.exec
  have hb := B.bytes
  have hr := B.returns
  have hts := atoms_spec (ws := w_M_solveGroup) B.pre
  have hown : s.vm.findClass R_M = some m.cls := findClass_of_methodNamed B.named
  have hlocks := B.notSynchronized
  have iM : ∀ w ∈ w_M, w ∈ w_M_solveGroup := fun w h => List.mem_cons_of_mem _ (i_M w h)
  have hD := rw_own hD0
  generalize hAe : rw_A [cg_M mt g wy xA nA pA qA kA rl, cg_N pA cI 100 pw, cg_N qA cI 1024 lw, cg_N kA cI 1024 lc] = A at hD ⊢
  have hS : va_S A s.heap s.heap [] := va_S.rf
  have hP : va_P (dC, dI) classes [cg_M mt g wy xA nA pA qA kA rl, cg_N pA cI 100 pw, cg_N qA cI 1024 lw, cg_N kA cI 1024 lc] s.heap := hP
  have hl := lv_entry ([.ref mt, .int (nI g0)]) (n := 4) (Nat.le_of_ble_eq_true rfl)
  rw [lg_entry_eq]
  generalize (lg_sl ([.ref mt, .int (nI g0)]) ++ List.replicate (4 - (lg_sl ([.ref mt, .int (nI g0)])).length) Slot.unset).toArray = ls at hl ⊢
  have hl : lv_has ls 4 [(0, .ref mt), (1, .int (nI g0))] := hl
  have hF1 : ng_F1 = 1000000000 := rfl
  refine lv_aload_n hx hb d_M_solveGroup_0 rfl (lv_at hl 0 rfl) ?_
  refine lv_iload_n hx hb d_M_solveGroup_1 rfl (lv_at hl 1 rfl) ?_
  refine ro_Vi (As := [.int (nI g0)]) (rest := []) ⟨hx, hb, hml, hown, hts⟩ (c_M_leastPlace l dC dI cI cL mt g wy xA nA pA qA kA rl g0 (by omega) (by omega)) (cwV 1 hts (wg_V wk_M_104 wm_M_leastPlace we_M_leastPlace wi_M wc_M_leastPlace) rfl rfl rfl (by decide +kernel) ⟨Nat.le_of_ble_eq_true rfl, Nat.le_of_ble_eq_true rfl⟩) hK (hP.sub [0] rfl) (q0 := 0) rfl rfl rfl rfl hl.1 rfl (lv_room (Nat.le_of_ble_eq_true rfl)) d_M_solveGroup_2 ⟨Nat.zero_le _, Nat.zero_le _⟩ hS hP (fun H locs hP hS => ?_)
  refine lv_istore_n (lv' := [(2, .int (nI (ng_lp rl g0))), (0, .ref mt), (1, .int (nI g0))]) hx hb d_M_solveGroup_5 rfl hl (by decide) rfl (fun ls hl => ?_)
  refine lv_aload_n hx hb d_M_solveGroup_6 rfl (lv_at hl 1 rfl) ?_
  refine va_get (D := (dC, dI)) (ci := 3) (v := .ref qA) (C := R_M) (T := F_M) (N := 8) hx hb hts iM hown hK hP 0 rfl rfl 5 (by decide) (hts _ (List.mem_cons_of_mem _ wk_M_21)) (fun _ h9 => h9) rfl d_M_solveGroup_7 ?_
  refine lv_iload_n hx hb d_M_solveGroup_10 rfl (lv_at hl 2 rfl) ?_
  refine lv_ldc (v := 1000000000) hx hb hown (hts _ (List.mem_cons_of_mem _ wk_M_53)) d_M_solveGroup_11 ?_
  refine nr_as (v := nI 1000000000) (by decide) ?_
  refine nr_iast hx hb hK hP hD hS 2 0 rfl rfl (by omega) (by decide) d_M_solveGroup_13 (fun H locs hP hD hS => ?_)
  have hP : va_P (dC, dI) classes [cg_M mt g wy xA nA pA qA kA rl, cg_N pA cI 100 pw, cg_N qA cI 1024 (va_up lw g0 1000000000), cg_N kA cI 1024 lc] H := hP
  have hD : va_D A [cg_M mt g wy xA nA pA qA kA rl, cg_N pA cI 100 pw, cg_N qA cI 1024 (va_up lw g0 1000000000), cg_N kA cI 1024 lc] := hD
  refine lv_aload_n hx hb d_M_solveGroup_14 rfl (lv_at hl 1 rfl) ?_
  refine va_get (D := (dC, dI)) (ci := 3) (v := .ref kA) (C := R_M) (T := F_M) (N := 8) hx hb hts iM hown hK hP 0 rfl rfl 6 (by decide) (hts _ (List.mem_cons_of_mem _ wk_M_24)) (fun _ h9 => h9) rfl d_M_solveGroup_15 ?_
  refine lv_iload_n hx hb d_M_solveGroup_18 rfl (lv_at hl 2 rfl) ?_
  refine lv_iconst (v := nI 0) hx hb d_M_solveGroup_19 (by decide) ?_
  refine nr_iast hx hb hK hP hD hS 3 0 rfl rfl (by omega) (by decide) d_M_solveGroup_20 (fun H locs hP hD hS => ?_)
  have hP : va_P (dC, dI) classes [cg_M mt g wy xA nA pA qA kA rl, cg_N pA cI 100 pw, cg_N qA cI 1024 (va_up lw g0 1000000000), cg_N kA cI 1024 (va_up lc g0 0)] H := hP
  have hD : va_D A [cg_M mt g wy xA nA pA qA kA rl, cg_N pA cI 100 pw, cg_N qA cI 1024 (va_up lw g0 1000000000), cg_N kA cI 1024 (va_up lc g0 0)] := hD
  refine lv_iload_n hx hb d_M_solveGroup_21 rfl (lv_at hl 0 rfl) ?_
  refine lv_istore_n (lv' := [(3, .int (nI (ng_lp rl g0))), (2, .int (nI (ng_lp rl g0))), (0, .ref mt), (1, .int (nI g0))]) hx hb d_M_solveGroup_22 rfl hl (by decide) rfl (fun ls hl => ?_)
  have lp_23 : ∀ (n : Nat) (i : Nat) (lw1 lc1 : Nat → Nat), (i ≤ rl) → (ng_lp rl g0 ≤ i) → (lw1 = va_up lw g0 (ng_sg pw lw lc g0 (ng_lp rl g0) (i - ng_lp rl g0)).1) → (lc1 = va_up lc g0 (ng_sg pw lw lc g0 (ng_lp rl g0) (i - ng_lp rl g0)).2) → rl - i < n → ∀ (H : Heap) (locs : List Loc), va_P (dC, dI) classes [cg_M mt g wy xA nA pA qA kA rl, cg_N pA cI 100 pw, cg_N qA cI 1024 lw1, cg_N kA cI 1024 lc1] H → va_D A [cg_M mt g wy xA nA pA qA kA rl, cg_N pA cI 100 pw, cg_N qA cI 1024 lw1, cg_N kA cI 1024 lc1] → va_S A s.heap H locs → ∀ (ls : Array Slot), lv_has ls 4 [(0, .ref mt), (1, .int (nI g0)), (2, .int (nI (ng_lp rl g0))), (3, .int (nI i))] → W p l e (headSpec w_M_solveGroup ({ frames := 2, cells := 0, slots := 0, locals := 47 } : Room)).room s m ([.ref mt, .int (nI g0)] : List Value).toArray below meth c H locs 0 0 (MQ below (rw_Qv (dC, dI) classes A (fun (u : Unit) => True) (fun u => [cg_M mt g wy xA nA pA qA kA rl, cg_N pA cI 100 pw, cg_N qA cI 1024 (va_up lw g0 (ng_sg pw lw lc g0 (ng_lp rl g0) (rl - ng_lp rl g0)).1), cg_N kA cI 1024 (va_up lc g0 (ng_sg pw lw lc g0 (ng_lp rl g0) (rl - ng_lp rl g0)).2)])) ([.ref mt, .int (nI g0)] : List Value).toArray s 0 0 A) (F0 m 23 ls []) := by
    intro n
    induction n with
    | zero => intro i lw1 lc1 hi hpi h1 h2 hme; exact absurd hme (Nat.not_lt_zero _)
    | succ n ih =>
      intro i lw1 lc1 hi hpi h1 h2 hme H locs hP hD hS ls hl
      have ih_23 := ih
      refine lv_iload_n hx hb d_M_solveGroup_23 rfl (lv_at hl 3 rfl) ?_
      refine lv_aload_n hx hb d_M_solveGroup_24 rfl (lv_at hl 0 rfl) ?_
      refine va_get (D := (dC, dI)) (ci := 3) (v := .int (nI rl)) (C := R_M) (T := F_M) (N := 8) hx hb hts iM hown hK hP 0 rfl rfl 7 (by decide) (hts _ (List.mem_cons_of_mem _ wk_M_27)) (fun _ h9 => h9) rfl d_M_solveGroup_25 ?_
      refine nr_icmp_ge (by omega) (by omega) (tgt := 69) hx hb d_M_solveGroup_28 (by decide) (fun c_28 => ?_) (fun c_28 => ?_)
      · have hie : i = rl := by omega
        rw [hie] at h1 h2
        rw [← h1, ← h2]
        exact rw_vret () hx hb hr hlocks hS hP trivial d_M_solveGroup_69
      · refine lv_iload_n hx hb d_M_solveGroup_31 rfl (lv_at hl 1 rfl) ?_
        refine lv_iload_n hx hb d_M_solveGroup_32 rfl (lv_at hl 3 rfl) ?_
        refine lv_ishr hx hb d_M_solveGroup_33 ?_
        refine lv_iconst (v := nI 1) hx hb d_M_solveGroup_34 (by decide) ?_
        refine lv_iand hx hb d_M_solveGroup_35 ?_
        refine nr_as (v := nb_i (nb_t (nI g0) i)) (nb_bt_and1 (by omega)) ?_
        refine lv_iconst (v := nI 1) hx hb d_M_solveGroup_36 (by decide) ?_
        refine nr_icmpneB1 (tgt := 63) hx hb d_M_solveGroup_37 (by decide) (fun c_37 => ?_) (fun c_37 => ?_)
        · have h3 : lw1 = va_up lw g0 (ng_sg pw lw lc g0 (ng_lp rl g0) (i + 1 - ng_lp rl g0)).1 := by rw [ng_sg_f hpi c_37]; exact h1
          have h4 : lc1 = va_up lc g0 (ng_sg pw lw lc g0 (ng_lp rl g0) (i + 1 - ng_lp rl g0)).2 := by rw [ng_sg_f hpi c_37]; exact h2
          refine lv_iinc (v := (nI (i + 1))) (lv' := [(3, .int (nI (i + 1))), (0, .ref mt), (1, .int (nI g0)), (2, .int (nI (ng_lp rl g0)))]) hx hb d_M_solveGroup_63 hl (k := 3) rfl (nI_1 i) (by decide) rfl (fun ls hl => ?_)
          refine lv_goto (tgt := 23) hx hb d_M_solveGroup_66 (by decide) ?_
          exact ih_23 (i + 1) lw1 lc1 (by omega) (by omega) h3 h4 (by omega) _ _ hP hD hS ls (lv_sub hl [1, 2, 3, 0] rfl)
        · have hne : ng_wo g0 (ng_lp rl g0) i ≠ g0 := ng_wo_ne (by omega) (by omega) (by omega) hbt
          have hsb := ng_sg_b (pw := pw) (lw := lw) (lc := lc) (g := g0) (pl := ng_lp rl g0) hpw hlw hg (by omega) (show ng_lp rl g0 + (i - ng_lp rl g0) ≤ 10 by omega)
          have hlw1 : ∀ k, k < 1024 → lw1 k ≤ ng_F1 := by rw [h1]; exact ng_up1 hlw hsb
          have hww : ng_ww pw lw1 g0 (ng_lp rl g0) i = ng_ww pw lw g0 (ng_lp rl g0) i := by rw [h1]; exact ng_ww_up hne
          have hcc : lc1 (ng_wo g0 (ng_lp rl g0) i) = lc (ng_wo g0 (ng_lp rl g0) i) := by rw [h2]; exact va_up_ne _ _ hne
          have hwo : ng_wo g0 (ng_lp rl g0) i < 1024 := Nat.lt_of_le_of_lt (ng_wo_le (by omega)) hg
          have hwb : ng_ww pw lw1 g0 (ng_lp rl g0) i < 2 ^ 31 := ng_ww_b hpw hlw1 hg (by omega) (by omega)
          have hlg := hlw1 g0 hg
          have h3 : ng_wi1 lw1 g0 (ng_ww pw lw1 g0 (ng_lp rl g0) i) = va_up lw g0 (ng_sg pw lw lc g0 (ng_lp rl g0) (i + 1 - ng_lp rl g0)).1 := by rw [hww, h1]; exact ng_sg_1 hpi c_37
          have h4 : ng_wi2 lw1 lc1 g0 (ng_ww pw lw1 g0 (ng_lp rl g0) i) (lc1 (ng_wo g0 (ng_lp rl g0) i)) = va_up lc g0 (ng_sg pw lw lc g0 (ng_lp rl g0) (i + 1 - ng_lp rl g0)).2 := by rw [hww, hcc, h1, h2]; exact ng_sg_2 hpi c_37
          refine lv_aload_n hx hb d_M_solveGroup_40 rfl (lv_at hl 0 rfl) ?_
          refine lv_iload_n hx hb d_M_solveGroup_41 rfl (lv_at hl 1 rfl) ?_
          refine lv_aload_n hx hb d_M_solveGroup_42 rfl (lv_at hl 0 rfl) ?_
          refine lv_iload_n hx hb d_M_solveGroup_43 rfl (lv_at hl 1 rfl) ?_
          refine lv_iload_n hx hb d_M_solveGroup_44 rfl (lv_at hl 2 rfl) ?_
          refine lv_iload_n hx hb d_M_solveGroup_45 rfl (lv_at hl 3 rfl) ?_
          refine ro_Vi (As := [.int (nI g0), .int (nI (ng_lp rl g0)), .int (nI i)]) (rest := [.int (nI g0), .ref mt]) ⟨hx, hb, hml, hown, hts⟩ (c_M_weightWith l dC dI cI cL mt g wy xA nA pA qA kA rl pw lw1 g0 (ng_lp rl g0) i (by omega) (by omega) (by omega) (hpw _ (by omega)) hlw1) (cwV 3 hts (wg_V wk_M_107 wm_M_weightWith we_M_weightWith wi_M wc_M_weightWith) rfl rfl rfl (by decide +kernel) ⟨Nat.le_of_ble_eq_true rfl, Nat.le_of_ble_eq_true rfl⟩) hK (hP.sub [0, 1, 2] rfl) (q0 := 0) rfl rfl rfl rfl hl.1 rfl (lv_room (Nat.le_of_ble_eq_true rfl)) d_M_solveGroup_46 ⟨Nat.zero_le _, Nat.zero_le _⟩ hS hP (fun H locs hP hS => ?_)
          refine lv_aload_n hx hb d_M_solveGroup_49 rfl (lv_at hl 0 rfl) ?_
          refine va_get (D := (dC, dI)) (ci := 3) (v := .ref kA) (C := R_M) (T := F_M) (N := 8) hx hb hts iM hown hK hP 0 rfl rfl 6 (by decide) (hts _ (List.mem_cons_of_mem _ wk_M_24)) (fun _ h9 => h9) rfl d_M_solveGroup_50 ?_
          refine lv_iload_n hx hb d_M_solveGroup_53 rfl (lv_at hl 1 rfl) ?_
          refine lv_iload_n hx hb d_M_solveGroup_54 rfl (lv_at hl 2 rfl) ?_
          refine lv_iload_n hx hb d_M_solveGroup_55 rfl (lv_at hl 3 rfl) ?_
          refine ro_Si (As := [.int (nI g0), .int (nI (ng_lp rl g0)), .int (nI i)]) (rest := [.ref kA, .int (nI (ng_ww pw lw1 g0 (ng_lp rl g0) i)), .int (nI g0), .ref mt]) ⟨hx, hb, hml, hown, hts⟩ (c_M_without l dC dI cI cL g0 (ng_lp rl g0) i ) (cwS 3 hts (wg_S wk_M_80 ws_M_without wi_M wc_M_without) rfl rfl rfl (by decide +kernel) ⟨Nat.le_of_ble_eq_true rfl, Nat.le_of_ble_eq_true rfl⟩) hK (hP.sub [] rfl) rfl hl.1 rfl (lv_room (Nat.le_of_ble_eq_true rfl)) d_M_solveGroup_56 ⟨Nat.zero_le _, Nat.zero_le _⟩ hS hP (fun H locs hP hS => ?_)
          refine nr_iald hx hb hK hP 3 0 rfl rfl (by omega) (by decide) d_M_solveGroup_59 ?_
          refine rw_Vv (wr := [cg_N pA cI 100 pw]) [0, 2, 3] [1] rfl rfl (by decide) (As := [.int (nI g0), .int (nI (ng_ww pw lw1 g0 (ng_lp rl g0) i)), .int (nI (lc1 (ng_wo g0 (ng_lp rl g0) i)))]) (rest := []) ⟨hx, hb, hml, hown, hts⟩ (c_M_weighIn l dC dI cI cL mt g wy xA nA pA qA kA rl lw1 lc1 g0 (ng_ww pw lw1 g0 (ng_lp rl g0) i) (lc1 (ng_wo g0 (ng_lp rl g0) i)) (by omega) (by omega) (by omega)) (cwV 3 hts (wg_V wk_M_110 wm_M_weighIn we_M_weighIn wi_M wc_M_weighIn) rfl rfl rfl (by decide +kernel) ⟨Nat.le_of_ble_eq_true rfl, Nat.le_of_ble_eq_true rfl⟩) hK (hP.sub [0, 2, 3] rfl) ((hD.sub [0, 2, 3] (by decide) rfl).weaken (fun _ _ _ _ => trivial)) (q0 := 0) rfl rfl rfl rfl hl.1 rfl (lv_room (Nat.le_of_ble_eq_true rfl)) d_M_solveGroup_60 ⟨Nat.zero_le _, Nat.zero_le _⟩ hS hP hD (fun u H locs hw_2 hP hS => ?_)
          have hP : va_P (dC, dI) classes [cg_M mt g wy xA nA pA qA kA rl, cg_N pA cI 100 pw, cg_N qA cI 1024 (ng_wi1 lw1 g0 (ng_ww pw lw1 g0 (ng_lp rl g0) i)), cg_N kA cI 1024 (ng_wi2 lw1 lc1 g0 (ng_ww pw lw1 g0 (ng_lp rl g0) i) (lc1 (ng_wo g0 (ng_lp rl g0) i)))] H := hP.sub [1, 0, 2, 3] rfl
          have hD : va_D A [cg_M mt g wy xA nA pA qA kA rl, cg_N pA cI 100 pw, cg_N qA cI 1024 (ng_wi1 lw1 g0 (ng_ww pw lw1 g0 (ng_lp rl g0) i)), cg_N kA cI 1024 (ng_wi2 lw1 lc1 g0 (ng_ww pw lw1 g0 (ng_lp rl g0) i) (lc1 (ng_wo g0 (ng_lp rl g0) i)))] := rw_re hD rfl
          refine lv_iinc (v := (nI (i + 1))) (lv' := [(3, .int (nI (i + 1))), (0, .ref mt), (1, .int (nI g0)), (2, .int (nI (ng_lp rl g0)))]) hx hb d_M_solveGroup_63 hl (k := 3) rfl (nI_1 i) (by decide) rfl (fun ls hl => ?_)
          refine lv_goto (tgt := 23) hx hb d_M_solveGroup_66 (by decide) ?_
          exact ih_23 (i + 1) (ng_wi1 lw1 g0 (ng_ww pw lw1 g0 (ng_lp rl g0) i)) (ng_wi2 lw1 lc1 g0 (ng_ww pw lw1 g0 (ng_lp rl g0) i) (lc1 (ng_wo g0 (ng_lp rl g0) i))) (by omega) (by omega) h3 h4 (by omega) _ _ hP hD hS ls (lv_sub hl [1, 2, 3, 0] rfl)
  exact lp_23 (rl - (ng_lp rl g0) + 1) (ng_lp rl g0) (va_up lw g0 1000000000) (va_up lc g0 0) (by omega) (Nat.le_refl _) (by rw [Nat.sub_self]; rfl) (by rw [Nat.sub_self]; rfl) (Nat.lt_succ_self _) _ _ hP hD hS ls (lv_sub hl [2, 3, 1, 0] rfl)
