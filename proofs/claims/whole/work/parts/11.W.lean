set_option maxHeartbeats 4000000 in
set_option maxRecDepth 100000 in
theorem c_W_at (l : Launch) (dC : Nat → ClassId) (dI : Nat → Nat → Nat) (cI cL : ClassId) (a b : Nat)  : Met l y_W_at w_W_at ({ frames := 0, cells := 0, slots := 0, locals := 0 } : Room) (va_Pc [.int (nI a), .int (nI b)] (ro_B (dC, dI) classes [(cI, .int), (cL, .long)] [])) (ro_Qi (nI (a * 20 + b))) 0 0 ro_A := by
  refine Met.ofW (cc := b_W_at) (maxL := 2) (ret := (some .int)) (by decide) rfl ?_
  intro p e s m args below meth c s₁ B hml hv
  obtain ⟨rfl, hP, hK⟩ := hv
  have hx := B.exec
  have hb := B.bytes
  have hr := B.returns
  have hts := atoms_spec (ws := w_W_at) B.pre
  have hown : s.vm.findClass R_W = some m.cls := findClass_of_methodNamed B.named
  have hlocks := B.notSynchronized
  have hS : va_S ro_A s.heap s.heap [] := va_S.rf
  have hP : va_P (dC, dI) classes [] s.heap := hP
  have hl := lv_entry ([.int (nI a), .int (nI b)]) (n := 2) (Nat.le_of_ble_eq_true rfl)
  rw [lg_entry_eq]
  generalize (lg_sl ([.int (nI a), .int (nI b)]) ++ List.replicate (2 - (lg_sl ([.int (nI a), .int (nI b)])).length) Slot.unset).toArray = ls at hl ⊢
  have hl : lv_has ls 2 [(0, .int (nI a)), (1, .int (nI b))] := hl
  refine lv_iload_n hx hb d_W_at_0 rfl (lv_at hl 0 rfl) ?_
  refine lv_bipush (v := nI 20) hx hb d_W_at_1 (by decide) ?_
  refine nr_imul hx hb d_W_at_3 ?_
  refine lv_iload_n hx hb d_W_at_4 rfl (lv_at hl 1 rfl) ?_
  refine nr_iadd hx hb d_W_at_5 ?_
  exact ro_iret hx hb hr hlocks hS rfl d_W_at_6
set_option maxHeartbeats 4000000 in
set_option maxRecDepth 100000 in
theorem c_W_isThere (l : Launch) (dC : Nat → ClassId) (dI : Nat → Nat → Nat) (cI cL : ClassId) (wy g cA rA : Nat) (mv : Int32) (tl : Nat) (ct : Nat → Nat) (a b : Nat) (ha : a < 20) (hb1 : b < 20) (hc : ct (a * 20 + b) < 2 ^ 63) : Met l y_W_isThere w_W_isThere ({ frames := 1, cells := 0, slots := 0, locals := 21 } : Room) (va_Pc [.ref wy, .int (nI a), .int (nI b)] (ro_B (dC, dI) classes [(cI, .int), (cL, .long)] [cg_W wy g cA rA mv tl, cg_L cA cL 400 ct])) (ro_Qi (nb_i (!decide (ct (a * 20 + b) = dm_FAR)))) 0 0 ro_A := by
  refine Met.ofW (cc := b_W_isThere) (maxL := 3) (ret := (some .boolean)) (by decide) rfl ?_
  intro p e s m args below meth c s₁ B hml hv
  obtain ⟨rfl, hP, hK⟩ := hv
  have hx := B.exec
  have hb := B.bytes
  have hr := B.returns
  have hts := atoms_spec (ws := w_W_isThere) B.pre
  have hown : s.vm.findClass R_W = some m.cls := findClass_of_methodNamed B.named
  have hlocks := B.notSynchronized
  have iW : ∀ w ∈ w_W, w ∈ w_W_isThere := fun w h => List.mem_cons_of_mem _ (i_W w h)
  have hS : va_S ro_A s.heap s.heap [] := va_S.rf
  have hP : va_P (dC, dI) classes [cg_W wy g cA rA mv tl, cg_L cA cL 400 ct] s.heap := hP
  have hl := lv_entry ([.ref wy, .int (nI a), .int (nI b)]) (n := 3) (Nat.le_of_ble_eq_true rfl)
  rw [lg_entry_eq]
  generalize (lg_sl ([.ref wy, .int (nI a), .int (nI b)]) ++ List.replicate (3 - (lg_sl ([.ref wy, .int (nI a), .int (nI b)])).length) Slot.unset).toArray = ls at hl ⊢
  have hl : lv_has ls 3 [(0, .ref wy), (1, .int (nI a)), (2, .int (nI b))] := hl
  refine lv_aload_n hx hb d_W_isThere_0 rfl (lv_at hl 0 rfl) ?_
  refine va_get (D := (dC, dI)) (ci := 1) (v := .ref cA) (C := R_W) (T := F_W) (N := 5) hx hb hts iW hown hK hP 0 rfl rfl 1 (by decide) (hts _ (List.mem_cons_of_mem _ wk_W_9)) (fun _ h9 => h9) rfl d_W_isThere_1 ?_
  refine lv_iload_n hx hb d_W_isThere_4 rfl (lv_at hl 1 rfl) ?_
  refine lv_iload_n hx hb d_W_isThere_5 rfl (lv_at hl 2 rfl) ?_
  refine ro_Si (As := [.int (nI a), .int (nI b)]) (rest := [.ref cA]) ⟨hx, hb, hml, hown, hts⟩ (c_W_at l dC dI cI cL a b ) (cwS 2 hts (wg_S wk_W_66 ws_W_at wi_W wc_W_at) rfl rfl rfl (by decide +kernel) ⟨Nat.le_of_ble_eq_true rfl, Nat.le_of_ble_eq_true rfl⟩) hK (hP.sub [] rfl) rfl hl.1 rfl (lv_room (Nat.le_of_ble_eq_true rfl)) d_W_isThere_6 ⟨Nat.zero_le _, Nat.zero_le _⟩ hS hP (fun H locs hP hS => ?_)
  refine nr_lald hx hb hK hP 1 1 rfl rfl (by omega) (by decide) d_W_isThere_9 ?_
  refine lv_ldc2 (v := 1000000000000) hx hb hown (hts _ (List.mem_cons_of_mem _ wk_W_70)) d_W_isThere_10 ?_
  refine nr_asL (v := lN 1000000000000) (by decide) ?_
  refine W.lcmp hx hb d_W_isThere_13 ?_
  refine nr_lif_eq (by omega) (by omega) (tgt := 21) hx hb d_W_isThere_14 (by decide) (fun c_14 => ?_) (fun c_14 => ?_)
  · refine lv_iconst (v := nI 0) hx hb d_W_isThere_21 (by decide) ?_
    exact ro_zret hx hb hr hlocks hS rfl (by simp [nb_i, dm_FAR, *]) d_W_isThere_22
  · refine lv_iconst (v := nI 1) hx hb d_W_isThere_17 (by decide) ?_
    refine lv_goto (tgt := 22) hx hb d_W_isThere_18 (by decide) ?_
    exact ro_zret hx hb hr hlocks hS rfl (by simp [nb_i, dm_FAR, *]) d_W_isThere_22
set_option maxHeartbeats 4000000 in
set_option maxRecDepth 100000 in
theorem c_W_weightBetween (l : Launch) (dC : Nat → ClassId) (dI : Nat → Nat → Nat) (cI cL : ClassId) (wy g cA rA : Nat) (mv : Int32) (tl : Nat) (ct : Nat → Nat) (a b : Nat) (ha : a < 20) (hb1 : b < 20) (hc : ct (a * 20 + b) < 2 ^ 63) : Met l y_W_weightBetween w_W_weightBetween ({ frames := 1, cells := 0, slots := 0, locals := 21 } : Room) (va_Pc [.ref wy, .int (nI a), .int (nI b)] (ro_B (dC, dI) classes [(cI, .int), (cL, .long)] [cg_W wy g cA rA mv tl, cg_L cA cL 400 ct])) (ro_Qi (nI (ct (a * 20 + b) / 64))) 0 0 ro_A := by
  refine Met.ofW (cc := b_W_weightBetween) (maxL := 3) (ret := (some .int)) (by decide) rfl ?_
  intro p e s m args below meth c s₁ B hml hv
  obtain ⟨rfl, hP, hK⟩ := hv
  have hx := B.exec
  have hb := B.bytes
  have hr := B.returns
  have hts := atoms_spec (ws := w_W_weightBetween) B.pre
  have hown : s.vm.findClass R_W = some m.cls := findClass_of_methodNamed B.named
  have hlocks := B.notSynchronized
  have iW : ∀ w ∈ w_W, w ∈ w_W_weightBetween := fun w h => List.mem_cons_of_mem _ (i_W w h)
  have hS : va_S ro_A s.heap s.heap [] := va_S.rf
  have hP : va_P (dC, dI) classes [cg_W wy g cA rA mv tl, cg_L cA cL 400 ct] s.heap := hP
  have hl := lv_entry ([.ref wy, .int (nI a), .int (nI b)]) (n := 3) (Nat.le_of_ble_eq_true rfl)
  rw [lg_entry_eq]
  generalize (lg_sl ([.ref wy, .int (nI a), .int (nI b)]) ++ List.replicate (3 - (lg_sl ([.ref wy, .int (nI a), .int (nI b)])).length) Slot.unset).toArray = ls at hl ⊢
  have hl : lv_has ls 3 [(0, .ref wy), (1, .int (nI a)), (2, .int (nI b))] := hl
  refine lv_aload_n hx hb d_W_weightBetween_0 rfl (lv_at hl 0 rfl) ?_
  refine va_get (D := (dC, dI)) (ci := 1) (v := .ref cA) (C := R_W) (T := F_W) (N := 5) hx hb hts iW hown hK hP 0 rfl rfl 1 (by decide) (hts _ (List.mem_cons_of_mem _ wk_W_9)) (fun _ h9 => h9) rfl d_W_weightBetween_1 ?_
  refine lv_iload_n hx hb d_W_weightBetween_4 rfl (lv_at hl 1 rfl) ?_
  refine lv_iload_n hx hb d_W_weightBetween_5 rfl (lv_at hl 2 rfl) ?_
  refine ro_Si (As := [.int (nI a), .int (nI b)]) (rest := [.ref cA]) ⟨hx, hb, hml, hown, hts⟩ (c_W_at l dC dI cI cL a b ) (cwS 2 hts (wg_S wk_W_66 ws_W_at wi_W wc_W_at) rfl rfl rfl (by decide +kernel) ⟨Nat.le_of_ble_eq_true rfl, Nat.le_of_ble_eq_true rfl⟩) hK (hP.sub [] rfl) rfl hl.1 rfl (lv_room (Nat.le_of_ble_eq_true rfl)) d_W_weightBetween_6 ⟨Nat.zero_le _, Nat.zero_le _⟩ hS hP (fun H locs hP hS => ?_)
  refine nr_lald hx hb hK hP 1 1 rfl rfl (by omega) (by decide) d_W_weightBetween_9 ?_
  refine lv_ldc2 (v := 64) hx hb hown (hts _ (List.mem_cons_of_mem _ wk_W_72)) d_W_weightBetween_10 ?_
  refine nr_asL (v := lN 64) (by decide) ?_
  refine nr_ldiv (by omega) (by omega) (by omega) hx hb d_W_weightBetween_13 ?_
  refine lv_l2i (v := nI ((ct (a * 20 + b)) / 64)) hx hb d_W_weightBetween_14 (lN_i _) ?_
  exact ro_iret hx hb hr hlocks hS rfl d_W_weightBetween_15
set_option maxHeartbeats 4000000 in
set_option maxRecDepth 100000 in
theorem c_W_edgeCost (l : Launch) (dC : Nat → ClassId) (dI : Nat → Nat → Nat) (cI cL : ClassId) (g tA oA uA wA sA np ne : Nat) (bd : Int32) (er : Int64) (vr : Nat) (wy cA rA : Nat) (mv : Int32) (tl : Nat) (wt : Nat → Nat) (k : Nat) (hk : k < 60) (hw : ng_w er wt k ≤ 1000000) : Met l y_W_edgeCost w_W_edgeCost ({ frames := 1, cells := 0, slots := 0, locals := 21 } : Room) (va_Pc [.ref wy, .int (nI k)] (ro_B (dC, dI) classes [(cI, .int), (cL, .long)] [cg_G g tA oA uA wA sA np ne bd er vr, cg_N wA cI 60 wt, cg_W wy g cA rA mv tl])) (ro_Ql (lN (ng_w er wt k * 64 + 1))) 0 0 ro_A := by
  refine Met.ofW (cc := b_W_edgeCost) (maxL := 2) (ret := (some .long)) (by decide) rfl ?_
  intro p e s m args below meth c s₁ B hml hv
  obtain ⟨rfl, hP, hK⟩ := hv
  have hx := B.exec
  have hb := B.bytes
  have hr := B.returns
  have hts := atoms_spec (ws := w_W_edgeCost) B.pre
  have hown : s.vm.findClass R_W = some m.cls := findClass_of_methodNamed B.named
  have hlocks := B.notSynchronized
  have iW : ∀ w ∈ w_W, w ∈ w_W_edgeCost := fun w h => List.mem_cons_of_mem _ (i_W w h)
  have hS : va_S ro_A s.heap s.heap [] := va_S.rf
  have hP : va_P (dC, dI) classes [cg_G g tA oA uA wA sA np ne bd er vr, cg_N wA cI 60 wt, cg_W wy g cA rA mv tl] s.heap := hP
  have hl := lv_entry ([.ref wy, .int (nI k)]) (n := 2) (Nat.le_of_ble_eq_true rfl)
  rw [lg_entry_eq]
  generalize (lg_sl ([.ref wy, .int (nI k)]) ++ List.replicate (2 - (lg_sl ([.ref wy, .int (nI k)])).length) Slot.unset).toArray = ls at hl ⊢
  have hl : lv_has ls 2 [(0, .ref wy), (1, .int (nI k))] := hl
  refine lv_aload_n hx hb d_W_edgeCost_0 rfl (lv_at hl 0 rfl) ?_
  refine va_get (D := (dC, dI)) (ci := 1) (v := .ref g) (C := R_W) (T := F_W) (N := 5) hx hb hts iW hown hK hP 2 rfl rfl 0 (by decide) (hts _ (List.mem_cons_of_mem _ wk_W_26)) (fun _ h9 => h9) rfl d_W_edgeCost_1 ?_
  refine lv_iload_n hx hb d_W_edgeCost_4 rfl (lv_at hl 1 rfl) ?_
  refine ro_Vi (As := [.int (nI k)]) (rest := []) ⟨hx, hb, hml, hown, hts⟩ (c_G_weightNow l dC dI cI cL g tA oA uA wA sA np ne bd er vr wt k (by omega)) (cwV 1 hts (wg_V wk_W_88 wm_G_weightNow we_G_weightNow wi_G wc_G_weightNow) rfl rfl rfl (by decide +kernel) ⟨Nat.le_of_ble_eq_true rfl, Nat.le_of_ble_eq_true rfl⟩) hK (hP.sub [0, 1] rfl) (q0 := 0) rfl rfl rfl rfl hl.1 rfl (lv_room (Nat.le_of_ble_eq_true rfl)) d_W_edgeCost_5 ⟨Nat.zero_le _, Nat.zero_le _⟩ hS hP (fun H locs hP hS => ?_)
  refine lv_i2l (v := lN (ng_w er wt k)) hx hb d_W_edgeCost_8 (nI_l (by omega)) ?_
  refine lv_ldc2 (v := 64) hx hb hown (hts _ (List.mem_cons_of_mem _ wk_W_72)) d_W_edgeCost_9 ?_
  refine nr_asL (v := lN 64) (by decide) ?_
  refine nr_lmul hx hb d_W_edgeCost_12 ?_
  refine lv_lconst (v := lN 1) hx hb d_W_edgeCost_13 (by decide) ?_
  refine nr_ladd hx hb d_W_edgeCost_14 ?_
  exact ro_lret hx hb hr hlocks hS rfl d_W_edgeCost_15
set_option maxHeartbeats 4000000 in
set_option maxRecDepth 100000 in
theorem c_W_lower (l : Launch) (dC : Nat → ClassId) (dI : Nat → Nat → Nat) (cI cL : ClassId) (wy g cA rA : Nat) (mv : Int32) (tl : Nat) (ct : Nat → Nat) (a b cv : Nat) (ha : a < 20) (hb1 : b < 20) (hc : ct (a * 20 + b) < 2 ^ 63) (hc2 : cv < 2 ^ 63) : Met l y_W_lower w_W_lower ({ frames := 1, cells := 0, slots := 0, locals := 21 } : Room) (va_Pc [.ref wy, .int (nI a), .int (nI b), .long (lN cv)] (rw_B (dC, dI) classes [(cI, .int), (cL, .long)] [cg_W wy g cA rA mv tl, cg_L cA cL 400 ct])) (rw_Qv (dC, dI) classes (rw_A [cg_W wy g cA rA mv tl, cg_L cA cL 400 ct]) (fun (u : Unit) => True) (fun u => [cg_W wy g cA rA mv tl, cg_L cA cL 400 (ng_low ct (a * 20 + b) cv)])) 0 0 (rw_A [cg_W wy g cA rA mv tl, cg_L cA cL 400 ct]) := by
  refine Met.ofW (cc := b_W_lower) (maxL := 5) (ret := none) (by decide) rfl ?_
  intro p e s m args below meth c s₁ B hml hv
  obtain ⟨rfl, hP, hK, hD0⟩ := hv
  have hx := B.exec
  have hb := B.bytes
  have hr := B.returns
  have hts := atoms_spec (ws := w_W_lower) B.pre
  have hown : s.vm.findClass R_W = some m.cls := findClass_of_methodNamed B.named
  have hlocks := B.notSynchronized
  have iW : ∀ w ∈ w_W, w ∈ w_W_lower := fun w h => List.mem_cons_of_mem _ (i_W w h)
  have hD := rw_own hD0
  generalize hAe : rw_A [cg_W wy g cA rA mv tl, cg_L cA cL 400 ct] = A at hD ⊢
  have hS : va_S A s.heap s.heap [] := va_S.rf
  have hP : va_P (dC, dI) classes [cg_W wy g cA rA mv tl, cg_L cA cL 400 ct] s.heap := hP
  have hl := lv_entry ([.ref wy, .int (nI a), .int (nI b), .long (lN cv)]) (n := 5) (Nat.le_of_ble_eq_true rfl)
  rw [lg_entry_eq]
  generalize (lg_sl ([.ref wy, .int (nI a), .int (nI b), .long (lN cv)]) ++ List.replicate (5 - (lg_sl ([.ref wy, .int (nI a), .int (nI b), .long (lN cv)])).length) Slot.unset).toArray = ls at hl ⊢
  have hl : lv_has ls 5 [(0, .ref wy), (1, .int (nI a)), (2, .int (nI b)), (3, .long (lN cv))] := hl
  refine lv_lload_n hx hb d_W_lower_0 rfl (lv_at hl 3 rfl) ?_
  refine lv_aload_n hx hb d_W_lower_1 rfl (lv_at hl 0 rfl) ?_
  refine va_get (D := (dC, dI)) (ci := 1) (v := .ref cA) (C := R_W) (T := F_W) (N := 5) hx hb hts iW hown hK hP 0 rfl rfl 1 (by decide) (hts _ (List.mem_cons_of_mem _ wk_W_9)) (fun _ h9 => h9) rfl d_W_lower_2 ?_
  refine lv_iload_n hx hb d_W_lower_5 rfl (lv_at hl 1 rfl) ?_
  refine lv_iload_n hx hb d_W_lower_6 rfl (lv_at hl 2 rfl) ?_
  refine ro_Si (As := [.int (nI a), .int (nI b)]) (rest := [.ref cA, .long (lN cv)]) ⟨hx, hb, hml, hown, hts⟩ (c_W_at l dC dI cI cL a b ) (cwS 2 hts (wg_S wk_W_66 ws_W_at wi_W wc_W_at) rfl rfl rfl (by decide +kernel) ⟨Nat.le_of_ble_eq_true rfl, Nat.le_of_ble_eq_true rfl⟩) hK (hP.sub [] rfl) rfl hl.1 rfl (lv_room (Nat.le_of_ble_eq_true rfl)) d_W_lower_7 ⟨Nat.zero_le _, Nat.zero_le _⟩ hS hP (fun H locs hP hS => ?_)
  refine nr_lald hx hb hK hP 1 1 rfl rfl (by omega) (by decide) d_W_lower_10 ?_
  refine W.lcmp hx hb d_W_lower_11 ?_
  refine nr_lif_ge (by omega) (by omega) (tgt := 26) hx hb d_W_lower_12 (by decide) (fun c_12 => ?_) (fun c_12 => ?_)
  · have e_low : ng_low ct (a * 20 + b) cv = ct := if_neg (by omega)
    rw [e_low]
    exact rw_vret () hx hb hr hlocks hS hP trivial d_W_lower_26
  · have e_low : ng_low ct (a * 20 + b) cv = va_up ct (a * 20 + b) cv := if_pos (by omega)
    rw [e_low]
    refine lv_aload_n hx hb d_W_lower_15 rfl (lv_at hl 0 rfl) ?_
    refine va_get (D := (dC, dI)) (ci := 1) (v := .ref cA) (C := R_W) (T := F_W) (N := 5) hx hb hts iW hown hK hP 0 rfl rfl 1 (by decide) (hts _ (List.mem_cons_of_mem _ wk_W_9)) (fun _ h9 => h9) rfl d_W_lower_16 ?_
    refine lv_iload_n hx hb d_W_lower_19 rfl (lv_at hl 1 rfl) ?_
    refine lv_iload_n hx hb d_W_lower_20 rfl (lv_at hl 2 rfl) ?_
    refine ro_Si (As := [.int (nI a), .int (nI b)]) (rest := [.ref cA]) ⟨hx, hb, hml, hown, hts⟩ (c_W_at l dC dI cI cL a b ) (cwS 2 hts (wg_S wk_W_66 ws_W_at wi_W wc_W_at) rfl rfl rfl (by decide +kernel) ⟨Nat.le_of_ble_eq_true rfl, Nat.le_of_ble_eq_true rfl⟩) hK (hP.sub [] rfl) rfl hl.1 rfl (lv_room (Nat.le_of_ble_eq_true rfl)) d_W_lower_21 ⟨Nat.zero_le _, Nat.zero_le _⟩ hS hP (fun H locs hP hS => ?_)
    refine lv_lload_n hx hb d_W_lower_24 rfl (lv_at hl 3 rfl) ?_
    refine nr_last hx hb hK hP hD hS 1 1 rfl rfl (by omega) (by decide) d_W_lower_25 (fun H locs hP hD hS => ?_)
    have hP : va_P (dC, dI) classes [cg_W wy g cA rA mv tl, cg_L cA cL 400 (va_up ct (a * 20 + b) cv)] H := hP
    have hD : va_D A [cg_W wy g cA rA mv tl, cg_L cA cL 400 (va_up ct (a * 20 + b) cv)] := hD
    exact rw_vret () hx hb hr hlocks hS hP trivial d_W_lower_26
set_option maxHeartbeats 4000000 in
set_option maxRecDepth 100000 in
theorem c_W_clearCosts (l : Launch) (dC : Nat → ClassId) (dI : Nat → Nat → Nat) (cI cL : ClassId) (g tA oA uA wA sA np ne : Nat) (bd : Int32) (er : Int64) (vr : Nat) (wy cA rA : Nat) (mv : Int32) (tl : Nat) (ct : Nat → Nat) (hnp : np ≤ 20) (hct : ∀ i, i < 400 → ct i ≤ dm_FAR) : Met l y_W_clearCosts w_W_clearCosts ({ frames := 1, cells := 0, slots := 0, locals := 21 } : Room) (va_Pc [.ref wy] (rw_B (dC, dI) classes [(cI, .int), (cL, .long)] [cg_G g tA oA uA wA sA np ne bd er vr, cg_W wy g cA rA mv tl, cg_L cA cL 400 ct])) (rw_Qv (dC, dI) classes (rw_A [cg_G g tA oA uA wA sA np ne bd er vr, cg_W wy g cA rA mv tl, cg_L cA cL 400 ct]) (fun (u : (Nat → Nat)) => (∀ x y, x < np → y < np → u (x * 20 + y) = if x = y then 0 else dm_FAR) ∧ (∀ i, i < 400 → u i ≤ dm_FAR)) (fun u => [cg_G g tA oA uA wA sA np ne bd er vr, cg_W wy g cA rA mv tl, cg_L cA cL 400 u])) 0 0 (rw_A [cg_G g tA oA uA wA sA np ne bd er vr, cg_W wy g cA rA mv tl, cg_L cA cL 400 ct]) := by
  refine Met.ofW (cc := b_W_clearCosts) (maxL := 3) (ret := none) (by decide) rfl ?_
  intro p e s m args below meth c s₁ B hml hv
  obtain ⟨rfl, hP, hK, hD0⟩ := hv
  have hx := B.exec
  have hb := B.bytes
  have hr := B.returns
  have hts := atoms_spec (ws := w_W_clearCosts) B.pre
  have hown : s.vm.findClass R_W = some m.cls := findClass_of_methodNamed B.named
  have hlocks := B.notSynchronized
  have iG : ∀ w ∈ w_G, w ∈ w_W_clearCosts := fun w h => List.mem_cons_of_mem _ (i_G w h)
  have iW : ∀ w ∈ w_W, w ∈ w_W_clearCosts := fun w h => List.mem_cons_of_mem _ (i_W w h)
  have hD := rw_own hD0
  generalize hAe : rw_A [cg_G g tA oA uA wA sA np ne bd er vr, cg_W wy g cA rA mv tl, cg_L cA cL 400 ct] = A at hD ⊢
  have hS : va_S A s.heap s.heap [] := va_S.rf
  have hP : va_P (dC, dI) classes [cg_G g tA oA uA wA sA np ne bd er vr, cg_W wy g cA rA mv tl, cg_L cA cL 400 ct] s.heap := hP
  have hl := lv_entry ([.ref wy]) (n := 3) (Nat.le_of_ble_eq_true rfl)
  rw [lg_entry_eq]
  generalize (lg_sl ([.ref wy]) ++ List.replicate (3 - (lg_sl ([.ref wy])).length) Slot.unset).toArray = ls at hl ⊢
  have hl : lv_has ls 3 [(0, .ref wy)] := hl
  refine lv_iconst (v := nI 0) hx hb d_W_clearCosts_0 (by decide) ?_
  refine lv_istore_n (lv' := [(1, .int (nI 0)), (0, .ref wy)]) hx hb d_W_clearCosts_1 rfl hl (by decide) rfl (fun ls hl => ?_)
  have lp_2 : ∀ (n : Nat) (i : Nat) (ct1 : Nat → Nat), (i ≤ np) → ((∀ x y, x < np → y < np → x < i → ct1 (x * 20 + y) = if x = y then 0 else dm_FAR)) → (∀ i, i < 400 → ct1 i ≤ dm_FAR) → np - i < n → ∀ (H : Heap) (locs : List Loc), va_P (dC, dI) classes [cg_G g tA oA uA wA sA np ne bd er vr, cg_W wy g cA rA mv tl, cg_L cA cL 400 ct1] H → va_D A [cg_G g tA oA uA wA sA np ne bd er vr, cg_W wy g cA rA mv tl, cg_L cA cL 400 ct1] → va_S A s.heap H locs → ∀ (ls : Array Slot), lv_has ls 3 [(0, .ref wy), (1, .int (nI i))] → W p l e (headSpec w_W_clearCosts ({ frames := 1, cells := 0, slots := 0, locals := 21 } : Room)).room s m ([.ref wy] : List Value).toArray below meth c H locs 0 0 (MQ below (rw_Qv (dC, dI) classes A (fun (u : (Nat → Nat)) => (∀ x y, x < np → y < np → u (x * 20 + y) = if x = y then 0 else dm_FAR) ∧ (∀ i, i < 400 → u i ≤ dm_FAR)) (fun u => [cg_G g tA oA uA wA sA np ne bd er vr, cg_W wy g cA rA mv tl, cg_L cA cL 400 u])) ([.ref wy] : List Value).toArray s 0 0 A) (F0 m 2 ls []) := by
    intro n
    induction n with
    | zero => intro i ct1 hi ho hf1 hme; exact absurd hme (Nat.not_lt_zero _)
    | succ n ih =>
      intro i ct1 hi ho hf1 hme H locs hP hD hS ls hl
      have ih_2 := ih
      refine lv_iload_n hx hb d_W_clearCosts_2 rfl (lv_at hl 1 rfl) ?_
      refine lv_aload_n hx hb d_W_clearCosts_3 rfl (lv_at hl 0 rfl) ?_
      refine va_get (D := (dC, dI)) (ci := 1) (v := .ref g) (C := R_W) (T := F_W) (N := 5) hx hb hts iW hown hK hP 1 rfl rfl 0 (by decide) (hts _ (List.mem_cons_of_mem _ wk_W_26)) (fun _ h9 => h9) rfl d_W_clearCosts_4 ?_
      refine va_get (D := (dC, dI)) (ci := 0) (v := .int (nI np)) (C := R_G) (T := F_G) (N := 10) hx hb hts iG hown hK hP 0 rfl rfl 5 (by decide) (hts _ (List.mem_cons_of_mem _ wk_W_55)) (fun _ h9 => h9) rfl d_W_clearCosts_7 ?_
      refine nr_icmp_ge (by omega) (by omega) (tgt := 60) hx hb d_W_clearCosts_10 (by decide) (fun c_10 => ?_) (fun c_10 => ?_)
      · exact rw_vret ct1 hx hb hr hlocks hS hP (⟨fun x y hx hy => ho x y hx hy (by omega), hf1⟩) d_W_clearCosts_60
      · refine lv_iconst (v := nI 0) hx hb d_W_clearCosts_13 (by decide) ?_
        refine lv_istore_n (lv' := [(2, .int (nI 0)), (0, .ref wy), (1, .int (nI i))]) hx hb d_W_clearCosts_14 rfl hl (by decide) rfl (fun ls hl => ?_)
        have lp_15 : ∀ (n : Nat) (j : Nat) (ct1 : Nat → Nat), (j ≤ np) → ((∀ x y, x < np → y < np → (x < i ∨ (x = i ∧ y < j)) → ct1 (x * 20 + y) = if x = y then 0 else dm_FAR)) → (∀ i, i < 400 → ct1 i ≤ dm_FAR) → np - j < n → ∀ (H : Heap) (locs : List Loc), va_P (dC, dI) classes [cg_G g tA oA uA wA sA np ne bd er vr, cg_W wy g cA rA mv tl, cg_L cA cL 400 ct1] H → va_D A [cg_G g tA oA uA wA sA np ne bd er vr, cg_W wy g cA rA mv tl, cg_L cA cL 400 ct1] → va_S A s.heap H locs → ∀ (ls : Array Slot), lv_has ls 3 [(0, .ref wy), (1, .int (nI i)), (2, .int (nI j))] → W p l e (headSpec w_W_clearCosts ({ frames := 1, cells := 0, slots := 0, locals := 21 } : Room)).room s m ([.ref wy] : List Value).toArray below meth c H locs 0 0 (MQ below (rw_Qv (dC, dI) classes A (fun (u : (Nat → Nat)) => (∀ x y, x < np → y < np → u (x * 20 + y) = if x = y then 0 else dm_FAR) ∧ (∀ i, i < 400 → u i ≤ dm_FAR)) (fun u => [cg_G g tA oA uA wA sA np ne bd er vr, cg_W wy g cA rA mv tl, cg_L cA cL 400 u])) ([.ref wy] : List Value).toArray s 0 0 A) (F0 m 15 ls []) := by
          intro n
          induction n with
          | zero => intro j ct1 hj ho2 hf1 hme; exact absurd hme (Nat.not_lt_zero _)
          | succ n ih =>
            intro j ct1 hj ho2 hf1 hme H locs hP hD hS ls hl
            have ih_15 := ih
            refine lv_iload_n hx hb d_W_clearCosts_15 rfl (lv_at hl 2 rfl) ?_
            refine lv_aload_n hx hb d_W_clearCosts_16 rfl (lv_at hl 0 rfl) ?_
            refine va_get (D := (dC, dI)) (ci := 1) (v := .ref g) (C := R_W) (T := F_W) (N := 5) hx hb hts iW hown hK hP 1 rfl rfl 0 (by decide) (hts _ (List.mem_cons_of_mem _ wk_W_26)) (fun _ h9 => h9) rfl d_W_clearCosts_17 ?_
            refine va_get (D := (dC, dI)) (ci := 0) (v := .int (nI np)) (C := R_G) (T := F_G) (N := 10) hx hb hts iG hown hK hP 0 rfl rfl 5 (by decide) (hts _ (List.mem_cons_of_mem _ wk_W_55)) (fun _ h9 => h9) rfl d_W_clearCosts_20 ?_
            refine nr_icmp_ge (by omega) (by omega) (tgt := 54) hx hb d_W_clearCosts_23 (by decide) (fun c_23 => ?_) (fun c_23 => ?_)
            · have ho2 := ho2
              refine lv_iinc (v := (nI (i + 1))) (lv' := [(1, .int (nI (i + 1))), (0, .ref wy), (2, .int (nI j))]) hx hb d_W_clearCosts_54 hl (k := 1) rfl (nI_1 i) (by decide) rfl (fun ls hl => ?_)
              refine lv_goto (tgt := 2) hx hb d_W_clearCosts_57 (by decide) ?_
              exact ih_2 (i + 1) ct1 (by omega) (fun x y hx hy h => ho2 x y hx hy (by omega)) hf1 (by omega) _ _ hP hD hS ls (lv_sub hl [1, 0] rfl)
            · refine lv_aload_n hx hb d_W_clearCosts_26 rfl (lv_at hl 0 rfl) ?_
              refine va_get (D := (dC, dI)) (ci := 1) (v := .ref cA) (C := R_W) (T := F_W) (N := 5) hx hb hts iW hown hK hP 1 rfl rfl 1 (by decide) (hts _ (List.mem_cons_of_mem _ wk_W_9)) (fun _ h9 => h9) rfl d_W_clearCosts_27 ?_
              refine lv_iload_n hx hb d_W_clearCosts_30 rfl (lv_at hl 1 rfl) ?_
              refine lv_iload_n hx hb d_W_clearCosts_31 rfl (lv_at hl 2 rfl) ?_
              refine ro_Si (As := [.int (nI i), .int (nI j)]) (rest := [.ref cA]) ⟨hx, hb, hml, hown, hts⟩ (c_W_at l dC dI cI cL i j ) (cwS 2 hts (wg_S wk_W_66 ws_W_at wi_W wc_W_at) rfl rfl rfl (by decide +kernel) ⟨Nat.le_of_ble_eq_true rfl, Nat.le_of_ble_eq_true rfl⟩) hK (hP.sub [] rfl) rfl hl.1 rfl (lv_room (Nat.le_of_ble_eq_true rfl)) d_W_clearCosts_32 ⟨Nat.zero_le _, Nat.zero_le _⟩ hS hP (fun H locs hP hS => ?_)
              refine lv_iload_n hx hb d_W_clearCosts_35 rfl (lv_at hl 1 rfl) ?_
              refine lv_iload_n hx hb d_W_clearCosts_36 rfl (lv_at hl 2 rfl) ?_
              refine nr_icmp_ne (by omega) (by omega) (tgt := 44) hx hb d_W_clearCosts_37 (by decide) (fun c_37 => ?_) (fun c_37 => ?_)
              · refine lv_ldc2 (v := 1000000000000) hx hb hown (hts _ (List.mem_cons_of_mem _ wk_W_70)) d_W_clearCosts_44 ?_
                refine nr_asL (v := lN 1000000000000) (by decide) ?_
                refine nr_last hx hb hK hP hD hS 2 1 rfl rfl (by omega) (by decide) d_W_clearCosts_47 (fun H locs hP hD hS => ?_)
                have hP : va_P (dC, dI) classes [cg_G g tA oA uA wA sA np ne bd er vr, cg_W wy g cA rA mv tl, cg_L cA cL 400 (va_up ct1 (i * 20 + j) 1000000000000)] H := hP
                have hD : va_D A [cg_G g tA oA uA wA sA np ne bd er vr, cg_W wy g cA rA mv tl, cg_L cA cL 400 (va_up ct1 (i * 20 + j) 1000000000000)] := hD
                refine lv_iinc (v := (nI (j + 1))) (lv' := [(2, .int (nI (j + 1))), (0, .ref wy), (1, .int (nI i))]) hx hb d_W_clearCosts_48 hl (k := 2) rfl (nI_1 j) (by decide) rfl (fun ls hl => ?_)
                refine lv_goto (tgt := 15) hx hb d_W_clearCosts_51 (by decide) ?_
                exact ih_15 (j + 1) (va_up ct1 (i * 20 + j) 1000000000000) (by omega) (ng_clr c_10 c_23 hnp (by simp [c_37, dm_FAR]) ho2) (ng_up_far hf1 (by simp [dm_FAR])) (by omega) _ _ hP hD hS ls (lv_sub hl [1, 2, 0] rfl)
              · refine lv_lconst (v := lN 0) hx hb d_W_clearCosts_40 (by decide) ?_
                refine lv_goto (tgt := 47) hx hb d_W_clearCosts_41 (by decide) ?_
                refine nr_last hx hb hK hP hD hS 2 1 rfl rfl (by omega) (by decide) d_W_clearCosts_47 (fun H locs hP hD hS => ?_)
                have hP : va_P (dC, dI) classes [cg_G g tA oA uA wA sA np ne bd er vr, cg_W wy g cA rA mv tl, cg_L cA cL 400 (va_up ct1 (i * 20 + j) 0)] H := hP
                have hD : va_D A [cg_G g tA oA uA wA sA np ne bd er vr, cg_W wy g cA rA mv tl, cg_L cA cL 400 (va_up ct1 (i * 20 + j) 0)] := hD
                refine lv_iinc (v := (nI (j + 1))) (lv' := [(2, .int (nI (j + 1))), (0, .ref wy), (1, .int (nI i))]) hx hb d_W_clearCosts_48 hl (k := 2) rfl (nI_1 j) (by decide) rfl (fun ls hl => ?_)
                refine lv_goto (tgt := 15) hx hb d_W_clearCosts_51 (by decide) ?_
                exact ih_15 (j + 1) (va_up ct1 (i * 20 + j) 0) (by omega) (ng_clr c_10 c_23 hnp (by simp [c_37, dm_FAR]) ho2) (ng_up_far hf1 (by simp [dm_FAR])) (by omega) _ _ hP hD hS ls (lv_sub hl [1, 2, 0] rfl)
        exact lp_15 (np - 0 + 1) 0 ct1 (by omega) (fun x y hx hy h => ho x y hx hy (by omega)) hf1 (Nat.lt_succ_self _) _ _ hP hD hS ls (lv_sub hl [1, 2, 0] rfl)
  exact lp_2 (np - 0 + 1) 0 ct (by omega) (fun x y _ _ h => absurd h (Nat.not_lt_zero _)) hct (Nat.lt_succ_self _) _ _ hP hD hS ls (lv_sub hl [1, 0] rfl)
set_option maxHeartbeats 4000000 in
set_option maxRecDepth 100000 in
theorem c_W_firstEdgeTowards (l : Launch) (dC : Nat → ClassId) (dI : Nat → Nat → Nat) (cI cL : ClassId) (g tA oA uA wA sA np ne : Nat) (bd : Int32) (er : Int64) (vr : Nat) (wy cA rA : Nat) (mv : Int32) (tl : Nat) (oe ot wt ct : Nat → Nat) (h z : Nat) (hh : h < 20) (hz : z < 20) (hne : ne ≤ 60) (hE : ∀ i, i < ne → oe i < 20 ∧ ot i < 20) (hW : ∀ i, i < ne → ng_w er wt i ≤ 1000000) (hct : ∀ i, i < 400 → ct i ≤ dm_FAR) : Met l y_W_firstEdgeTowards w_W_firstEdgeTowards ({ frames := 2, cells := 0, slots := 0, locals := 42 } : Room) (va_Pc [.ref wy, .int (nI h), .int (nI z)] (ro_B (dC, dI) classes [(cI, .int), (cL, .long)] [cg_G g tA oA uA wA sA np ne bd er vr, cg_N oA cI 60 oe, cg_N uA cI 60 ot, cg_N wA cI 60 wt, cg_W wy g cA rA mv tl, cg_L cA cL 400 ct])) (ro_Qi (ng_oi (ng_fst (ng_ok bd er oe ot wt ct h z) ne 0))) 0 0 ro_A := by
  refine Met.ofW (cc := b_W_firstEdgeTowards) (maxL := 5) (ret := (some .int)) (by decide) rfl ?_
  intro p e s m args below meth c s₁ B hml hv
  obtain ⟨rfl, hP, hK⟩ := hv
  have hx := B.exec
  have hb := B.bytes
  have hr := B.returns
  have hts := atoms_spec (ws := w_W_firstEdgeTowards) B.pre
  have hown : s.vm.findClass R_W = some m.cls := findClass_of_methodNamed B.named
  have hlocks := B.notSynchronized
  have iG : ∀ w ∈ w_G, w ∈ w_W_firstEdgeTowards := fun w h => List.mem_cons_of_mem _ (i_G w h)
  have iW : ∀ w ∈ w_W, w ∈ w_W_firstEdgeTowards := fun w h => List.mem_cons_of_mem _ (i_W w h)
  have hS : va_S ro_A s.heap s.heap [] := va_S.rf
  have hP : va_P (dC, dI) classes [cg_G g tA oA uA wA sA np ne bd er vr, cg_N oA cI 60 oe, cg_N uA cI 60 ot, cg_N wA cI 60 wt, cg_W wy g cA rA mv tl, cg_L cA cL 400 ct] s.heap := hP
  have hl := lv_entry ([.ref wy, .int (nI h), .int (nI z)]) (n := 5) (Nat.le_of_ble_eq_true rfl)
  rw [lg_entry_eq]
  generalize (lg_sl ([.ref wy, .int (nI h), .int (nI z)]) ++ List.replicate (5 - (lg_sl ([.ref wy, .int (nI h), .int (nI z)])).length) Slot.unset).toArray = ls at hl ⊢
  have hl : lv_has ls 5 [(0, .ref wy), (1, .int (nI h)), (2, .int (nI z))] := hl
  refine lv_iconst (v := nI 0) hx hb d_W_firstEdgeTowards_0 (by decide) ?_
  refine lv_istore_n (lv' := [(3, .int (nI 0)), (0, .ref wy), (1, .int (nI h)), (2, .int (nI z))]) hx hb d_W_firstEdgeTowards_1 rfl hl (by decide) rfl (fun ls hl => ?_)
  have lp_2 : ∀ (n : Nat) (i : Nat), (i ≤ ne) → (ng_fst (ng_ok bd er oe ot wt ct h z) ne 0 = ng_fst (ng_ok bd er oe ot wt ct h z) (ne - i) i) → ne - i < n → ∀ (H : Heap) (locs : List Loc), va_P (dC, dI) classes [cg_G g tA oA uA wA sA np ne bd er vr, cg_N oA cI 60 oe, cg_N uA cI 60 ot, cg_N wA cI 60 wt, cg_W wy g cA rA mv tl, cg_L cA cL 400 ct] H → va_S ro_A s.heap H locs → ∀ (ls : Array Slot), lv_has ls 5 [(0, .ref wy), (1, .int (nI h)), (2, .int (nI z)), (3, .int (nI i))] → W p l e (headSpec w_W_firstEdgeTowards ({ frames := 2, cells := 0, slots := 0, locals := 42 } : Room)).room s m ([.ref wy, .int (nI h), .int (nI z)] : List Value).toArray below meth c H locs 0 0 (MQ below (ro_Qi (ng_oi (ng_fst (ng_ok bd er oe ot wt ct h z) ne 0))) ([.ref wy, .int (nI h), .int (nI z)] : List Value).toArray s 0 0 ro_A) (F0 m 2 ls []) := by
    intro n
    induction n with
    | zero => intro i hi hq hme; exact absurd hme (Nat.not_lt_zero _)
    | succ n ih =>
      intro i hi hq hme H locs hP hS ls hl
      have ih_2 := ih
      refine lv_iload_n hx hb d_W_firstEdgeTowards_2 rfl (lv_at hl 3 rfl) ?_
      refine lv_aload_n hx hb d_W_firstEdgeTowards_3 rfl (lv_at hl 0 rfl) ?_
      refine va_get (D := (dC, dI)) (ci := 1) (v := .ref g) (C := R_W) (T := F_W) (N := 5) hx hb hts iW hown hK hP 4 rfl rfl 0 (by decide) (hts _ (List.mem_cons_of_mem _ wk_W_26)) (fun _ h9 => h9) rfl d_W_firstEdgeTowards_4 ?_
      refine va_get (D := (dC, dI)) (ci := 0) (v := .int (nI ne)) (C := R_G) (T := F_G) (N := 10) hx hb hts iG hown hK hP 0 rfl rfl 6 (by decide) (hts _ (List.mem_cons_of_mem _ wk_W_38)) (fun _ h9 => h9) rfl d_W_firstEdgeTowards_7 ?_
      refine nr_icmp_ge (by omega) (by omega) (tgt := 87) hx hb d_W_firstEdgeTowards_10 (by decide) (fun c_10 => ?_) (fun c_10 => ?_)
      · refine lv_iconst (v := -1) hx hb d_W_firstEdgeTowards_87 (by decide) ?_
        exact ro_iret hx hb hr hlocks hS (by rw [hq, show ne - i = 0 by omega]; rfl) d_W_firstEdgeTowards_88
      · have hEi := hE i c_10
        have hWi := hW i c_10
        refine lv_aload_n hx hb d_W_firstEdgeTowards_13 rfl (lv_at hl 0 rfl) ?_
        refine va_get (D := (dC, dI)) (ci := 1) (v := .ref g) (C := R_W) (T := F_W) (N := 5) hx hb hts iW hown hK hP 4 rfl rfl 0 (by decide) (hts _ (List.mem_cons_of_mem _ wk_W_26)) (fun _ h9 => h9) rfl d_W_firstEdgeTowards_14 ?_
        refine lv_iload_n hx hb d_W_firstEdgeTowards_17 rfl (lv_at hl 3 rfl) ?_
        refine lv_iload_n hx hb d_W_firstEdgeTowards_18 rfl (lv_at hl 1 rfl) ?_
        refine ro_Vi (As := [.int (nI i), .int (nI h)]) (rest := []) ⟨hx, hb, hml, hown, hts⟩ (c_G_endBeyond l dC dI cI cL g tA oA uA wA sA np ne bd er vr oe ot i h (by omega) (by omega) (by omega) (by omega)) (cwV 2 hts (wg_V wk_W_85 wm_G_endBeyond we_G_endBeyond wi_G wc_G_endBeyond) rfl rfl rfl (by decide +kernel) ⟨Nat.le_of_ble_eq_true rfl, Nat.le_of_ble_eq_true rfl⟩) hK (hP.sub [0, 1, 2] rfl) (q0 := 0) rfl rfl rfl rfl hl.1 rfl (lv_room (Nat.le_of_ble_eq_true rfl)) d_W_firstEdgeTowards_19 ⟨Nat.zero_le _, Nat.zero_le _⟩ hS hP (fun H locs hP hS => ?_)
        rcases hnx : ng_nx oe ot i h with _ | y
        · refine nr_as (v := -1) rfl ?_
          refine lv_istore (lv' := [(4, .int (-1)), (0, .ref wy), (1, .int (nI h)), (2, .int (nI z)), (3, .int (nI i))]) hx hb d_W_firstEdgeTowards_22 hl (by decide) rfl (fun ls hl => ?_)
          refine lv_iload hx hb d_W_firstEdgeTowards_24 (lv_at hl 0 rfl) ?_
          refine lv_iconst (v := -1) hx hb d_W_firstEdgeTowards_26 (by decide) ?_
          refine lv_icmp_eq (tgt := 81) hx hb d_W_firstEdgeTowards_27 (by decide) (fun c_27 => ?_) (fun c => absurd rfl c)
          refine lv_iinc (v := (nI (i + 1))) (lv' := [(3, .int (nI (i + 1))), (4, .int (-1)), (0, .ref wy), (1, .int (nI h)), (2, .int (nI z))]) hx hb d_W_firstEdgeTowards_81 hl (k := 4) rfl (nI_1 i) (by decide) rfl (fun ls hl => ?_)
          refine lv_goto (tgt := 2) hx hb d_W_firstEdgeTowards_84 (by decide) ?_
          exact ih_2 (i + 1) (by omega) (hq.trans (ng_fst_f c_10 (by first | exact ng_ok_0 hnx | exact ng_ok_1 hnx c_33 c_45 | exact ng_ok_2 hnx c76))) (by omega) _ _ hP hS ls (lv_sub hl [2, 3, 4, 0] rfl)
        · refine nr_as (v := nI y) rfl ?_
          have hy := ng_nx_lt hnx hEi.1 hEi.2
          refine lv_istore (lv' := [(4, .int (nI y)), (0, .ref wy), (1, .int (nI h)), (2, .int (nI z)), (3, .int (nI i))]) hx hb d_W_firstEdgeTowards_22 hl (by decide) rfl (fun ls hl => ?_)
          refine lv_iload hx hb d_W_firstEdgeTowards_24 (lv_at hl 0 rfl) ?_
          refine lv_iconst (v := -1) hx hb d_W_firstEdgeTowards_26 (by decide) ?_
          refine lv_icmp_eq (tgt := 81) hx hb d_W_firstEdgeTowards_27 (by decide) (fun c => absurd c (ng_nm1 (by omega))) (fun c_27 => ?_)
          refine lv_iload hx hb d_W_firstEdgeTowards_30 (lv_at hl 0 rfl) ?_
          refine lv_iload_n hx hb d_W_firstEdgeTowards_32 rfl (lv_at hl 3 rfl) ?_
          refine nr_icmp_eq (by omega) (by omega) (tgt := 48) hx hb d_W_firstEdgeTowards_33 (by decide) (fun c_33 => ?_) (fun c_33 => ?_)
          · have hc1 := hct (y * 20 + z) (by omega)
            have hc2 := hct (h * 20 + z) (by omega)
            have hFAR : dm_FAR = 1000000000000 := rfl
            refine lv_aload_n hx hb d_W_firstEdgeTowards_48 rfl (lv_at hl 1 rfl) ?_
            refine va_get (D := (dC, dI)) (ci := 1) (v := .ref cA) (C := R_W) (T := F_W) (N := 5) hx hb hts iW hown hK hP 4 rfl rfl 1 (by decide) (hts _ (List.mem_cons_of_mem _ wk_W_9)) (fun _ h9 => h9) rfl d_W_firstEdgeTowards_49 ?_
            refine lv_iload hx hb d_W_firstEdgeTowards_52 (lv_at hl 0 rfl) ?_
            refine lv_iload_n hx hb d_W_firstEdgeTowards_54 rfl (lv_at hl 3 rfl) ?_
            refine ro_Si (As := [.int (nI y), .int (nI z)]) (rest := [.ref cA]) ⟨hx, hb, hml, hown, hts⟩ (c_W_at l dC dI cI cL y z ) (cwS 2 hts (wg_S wk_W_66 ws_W_at wi_W wc_W_at) rfl rfl rfl (by decide +kernel) ⟨Nat.le_of_ble_eq_true rfl, Nat.le_of_ble_eq_true rfl⟩) hK (hP.sub [] rfl) rfl hl.1 rfl (lv_room (Nat.le_of_ble_eq_true rfl)) d_W_firstEdgeTowards_55 ⟨Nat.zero_le _, Nat.zero_le _⟩ hS hP (fun H locs hP hS => ?_)
            refine nr_lald hx hb hK hP 5 1 rfl rfl (by omega) (by decide) d_W_firstEdgeTowards_58 ?_
            refine lv_aload_n hx hb d_W_firstEdgeTowards_59 rfl (lv_at hl 1 rfl) ?_
            refine va_get (D := (dC, dI)) (ci := 1) (v := .ref cA) (C := R_W) (T := F_W) (N := 5) hx hb hts iW hown hK hP 4 rfl rfl 1 (by decide) (hts _ (List.mem_cons_of_mem _ wk_W_9)) (fun _ h9 => h9) rfl d_W_firstEdgeTowards_60 ?_
            refine lv_iload_n hx hb d_W_firstEdgeTowards_63 rfl (lv_at hl 2 rfl) ?_
            refine lv_iload_n hx hb d_W_firstEdgeTowards_64 rfl (lv_at hl 3 rfl) ?_
            refine ro_Si (As := [.int (nI h), .int (nI z)]) (rest := [.ref cA, .long (lN (ct (y * 20 + z)))]) ⟨hx, hb, hml, hown, hts⟩ (c_W_at l dC dI cI cL h z ) (cwS 2 hts (wg_S wk_W_66 ws_W_at wi_W wc_W_at) rfl rfl rfl (by decide +kernel) ⟨Nat.le_of_ble_eq_true rfl, Nat.le_of_ble_eq_true rfl⟩) hK (hP.sub [] rfl) rfl hl.1 rfl (lv_room (Nat.le_of_ble_eq_true rfl)) d_W_firstEdgeTowards_65 ⟨Nat.zero_le _, Nat.zero_le _⟩ hS hP (fun H locs hP hS => ?_)
            refine nr_lald hx hb hK hP 5 1 rfl rfl (by omega) (by decide) d_W_firstEdgeTowards_68 ?_
            refine lv_aload_n hx hb d_W_firstEdgeTowards_69 rfl (lv_at hl 1 rfl) ?_
            refine lv_iload_n hx hb d_W_firstEdgeTowards_70 rfl (lv_at hl 4 rfl) ?_
            refine ro_Vl (As := [.int (nI i)]) (rest := [.long (lN (ct (h * 20 + z))), .long (lN (ct (y * 20 + z)))]) ⟨hx, hb, hml, hown, hts⟩ (c_W_edgeCost l dC dI cI cL g tA oA uA wA sA np ne bd er vr wy cA rA mv tl wt i (by omega) (by omega)) (cwV 1 hts (wg_V wk_W_47 wm_W_edgeCost we_W_edgeCost wi_W wc_W_edgeCost) rfl rfl rfl (by decide +kernel) ⟨Nat.le_of_ble_eq_true rfl, Nat.le_of_ble_eq_true rfl⟩) hK (hP.sub [0, 3, 4] rfl) (q0 := 2) rfl rfl rfl rfl hl.1 rfl (lv_room (Nat.le_of_ble_eq_true rfl)) d_W_firstEdgeTowards_71 ⟨Nat.zero_le _, Nat.zero_le _⟩ hS hP (fun H locs hP hS => ?_)
            refine lv_lsub hx hb d_W_firstEdgeTowards_74 ?_
            refine W.lcmp hx hb d_W_firstEdgeTowards_75 ?_
            refine nr_lraw_ne (tgt := 81) hx hb d_W_firstEdgeTowards_76 (by decide) (fun c_76 => ?_) (fun c_76 => ?_)
            · have c76 : ¬ (ct (y * 20 + z) + (ng_w er wt i * 64 + 1) = ct (h * 20 + z)) := fun q => c_76 ((ng_subL (by omega) (by omega) (by omega)).mpr q)
              refine lv_iinc (v := (nI (i + 1))) (lv' := [(3, .int (nI (i + 1))), (4, .int (nI y)), (0, .ref wy), (1, .int (nI h)), (2, .int (nI z))]) hx hb d_W_firstEdgeTowards_81 hl (k := 4) rfl (nI_1 i) (by decide) rfl (fun ls hl => ?_)
              refine lv_goto (tgt := 2) hx hb d_W_firstEdgeTowards_84 (by decide) ?_
              exact ih_2 (i + 1) (by omega) (hq.trans (ng_fst_f c_10 (by first | exact ng_ok_0 hnx | exact ng_ok_1 hnx c_33 c_45 | exact ng_ok_2 hnx c76))) (by omega) _ _ hP hS ls (lv_sub hl [2, 3, 4, 0] rfl)
            · have c76 := (ng_subL (by omega) (by omega) (by omega)).mp c_76
              refine lv_iload_n hx hb d_W_firstEdgeTowards_79 rfl (lv_at hl 4 rfl) ?_
              exact ro_iret hx hb hr hlocks hS (by rw [hq, ng_fst_t c_10 (by first | exact ng_ok_t hnx (Or.inl c_33) c76 | exact ng_ok_t hnx (Or.inr c_45) c76)]; rfl) d_W_firstEdgeTowards_80
          · refine lv_aload_n hx hb d_W_firstEdgeTowards_36 rfl (lv_at hl 1 rfl) ?_
            refine va_get (D := (dC, dI)) (ci := 1) (v := .ref g) (C := R_W) (T := F_W) (N := 5) hx hb hts iW hown hK hP 4 rfl rfl 0 (by decide) (hts _ (List.mem_cons_of_mem _ wk_W_26)) (fun _ h9 => h9) rfl d_W_firstEdgeTowards_37 ?_
            refine lv_iload hx hb d_W_firstEdgeTowards_40 (lv_at hl 0 rfl) ?_
            refine ro_Vi (As := [.int (nI y)]) (rest := []) ⟨hx, hb, hml, hown, hts⟩ (c_G_isBoundary l dC dI cI cL g tA oA uA wA sA np ne bd er vr y (by omega)) (cwV 1 hts (wg_V wk_W_58 wm_G_isBoundary we_G_isBoundary wi_G wc_G_isBoundary) rfl rfl rfl (by decide +kernel) ⟨Nat.le_of_ble_eq_true rfl, Nat.le_of_ble_eq_true rfl⟩) hK (hP.sub [0] rfl) (q0 := 0) rfl rfl rfl rfl hl.1 rfl (lv_room (Nat.le_of_ble_eq_true rfl)) d_W_firstEdgeTowards_42 ⟨Nat.zero_le _, Nat.zero_le _⟩ hS hP (fun H locs hP hS => ?_)
            refine nr_ifneB (tgt := 81) hx hb d_W_firstEdgeTowards_45 (by decide) (fun c_45 => ?_) (fun c_45 => ?_)
            · refine lv_iinc (v := (nI (i + 1))) (lv' := [(3, .int (nI (i + 1))), (4, .int (nI y)), (0, .ref wy), (1, .int (nI h)), (2, .int (nI z))]) hx hb d_W_firstEdgeTowards_81 hl (k := 4) rfl (nI_1 i) (by decide) rfl (fun ls hl => ?_)
              refine lv_goto (tgt := 2) hx hb d_W_firstEdgeTowards_84 (by decide) ?_
              exact ih_2 (i + 1) (by omega) (hq.trans (ng_fst_f c_10 (by first | exact ng_ok_0 hnx | exact ng_ok_1 hnx c_33 c_45 | exact ng_ok_2 hnx c76))) (by omega) _ _ hP hS ls (lv_sub hl [2, 3, 4, 0] rfl)
            · have hc1 := hct (y * 20 + z) (by omega)
              have hc2 := hct (h * 20 + z) (by omega)
              have hFAR : dm_FAR = 1000000000000 := rfl
              refine lv_aload_n hx hb d_W_firstEdgeTowards_48 rfl (lv_at hl 1 rfl) ?_
              refine va_get (D := (dC, dI)) (ci := 1) (v := .ref cA) (C := R_W) (T := F_W) (N := 5) hx hb hts iW hown hK hP 4 rfl rfl 1 (by decide) (hts _ (List.mem_cons_of_mem _ wk_W_9)) (fun _ h9 => h9) rfl d_W_firstEdgeTowards_49 ?_
              refine lv_iload hx hb d_W_firstEdgeTowards_52 (lv_at hl 0 rfl) ?_
              refine lv_iload_n hx hb d_W_firstEdgeTowards_54 rfl (lv_at hl 3 rfl) ?_
              refine ro_Si (As := [.int (nI y), .int (nI z)]) (rest := [.ref cA]) ⟨hx, hb, hml, hown, hts⟩ (c_W_at l dC dI cI cL y z ) (cwS 2 hts (wg_S wk_W_66 ws_W_at wi_W wc_W_at) rfl rfl rfl (by decide +kernel) ⟨Nat.le_of_ble_eq_true rfl, Nat.le_of_ble_eq_true rfl⟩) hK (hP.sub [] rfl) rfl hl.1 rfl (lv_room (Nat.le_of_ble_eq_true rfl)) d_W_firstEdgeTowards_55 ⟨Nat.zero_le _, Nat.zero_le _⟩ hS hP (fun H locs hP hS => ?_)
              refine nr_lald hx hb hK hP 5 1 rfl rfl (by omega) (by decide) d_W_firstEdgeTowards_58 ?_
              refine lv_aload_n hx hb d_W_firstEdgeTowards_59 rfl (lv_at hl 1 rfl) ?_
              refine va_get (D := (dC, dI)) (ci := 1) (v := .ref cA) (C := R_W) (T := F_W) (N := 5) hx hb hts iW hown hK hP 4 rfl rfl 1 (by decide) (hts _ (List.mem_cons_of_mem _ wk_W_9)) (fun _ h9 => h9) rfl d_W_firstEdgeTowards_60 ?_
              refine lv_iload_n hx hb d_W_firstEdgeTowards_63 rfl (lv_at hl 2 rfl) ?_
              refine lv_iload_n hx hb d_W_firstEdgeTowards_64 rfl (lv_at hl 3 rfl) ?_
              refine ro_Si (As := [.int (nI h), .int (nI z)]) (rest := [.ref cA, .long (lN (ct (y * 20 + z)))]) ⟨hx, hb, hml, hown, hts⟩ (c_W_at l dC dI cI cL h z ) (cwS 2 hts (wg_S wk_W_66 ws_W_at wi_W wc_W_at) rfl rfl rfl (by decide +kernel) ⟨Nat.le_of_ble_eq_true rfl, Nat.le_of_ble_eq_true rfl⟩) hK (hP.sub [] rfl) rfl hl.1 rfl (lv_room (Nat.le_of_ble_eq_true rfl)) d_W_firstEdgeTowards_65 ⟨Nat.zero_le _, Nat.zero_le _⟩ hS hP (fun H locs hP hS => ?_)
              refine nr_lald hx hb hK hP 5 1 rfl rfl (by omega) (by decide) d_W_firstEdgeTowards_68 ?_
              refine lv_aload_n hx hb d_W_firstEdgeTowards_69 rfl (lv_at hl 1 rfl) ?_
              refine lv_iload_n hx hb d_W_firstEdgeTowards_70 rfl (lv_at hl 4 rfl) ?_
              refine ro_Vl (As := [.int (nI i)]) (rest := [.long (lN (ct (h * 20 + z))), .long (lN (ct (y * 20 + z)))]) ⟨hx, hb, hml, hown, hts⟩ (c_W_edgeCost l dC dI cI cL g tA oA uA wA sA np ne bd er vr wy cA rA mv tl wt i (by omega) (by omega)) (cwV 1 hts (wg_V wk_W_47 wm_W_edgeCost we_W_edgeCost wi_W wc_W_edgeCost) rfl rfl rfl (by decide +kernel) ⟨Nat.le_of_ble_eq_true rfl, Nat.le_of_ble_eq_true rfl⟩) hK (hP.sub [0, 3, 4] rfl) (q0 := 2) rfl rfl rfl rfl hl.1 rfl (lv_room (Nat.le_of_ble_eq_true rfl)) d_W_firstEdgeTowards_71 ⟨Nat.zero_le _, Nat.zero_le _⟩ hS hP (fun H locs hP hS => ?_)
              refine lv_lsub hx hb d_W_firstEdgeTowards_74 ?_
              refine W.lcmp hx hb d_W_firstEdgeTowards_75 ?_
              refine nr_lraw_ne (tgt := 81) hx hb d_W_firstEdgeTowards_76 (by decide) (fun c_76 => ?_) (fun c_76 => ?_)
              · have c76 : ¬ (ct (y * 20 + z) + (ng_w er wt i * 64 + 1) = ct (h * 20 + z)) := fun q => c_76 ((ng_subL (by omega) (by omega) (by omega)).mpr q)
                refine lv_iinc (v := (nI (i + 1))) (lv' := [(3, .int (nI (i + 1))), (4, .int (nI y)), (0, .ref wy), (1, .int (nI h)), (2, .int (nI z))]) hx hb d_W_firstEdgeTowards_81 hl (k := 4) rfl (nI_1 i) (by decide) rfl (fun ls hl => ?_)
                refine lv_goto (tgt := 2) hx hb d_W_firstEdgeTowards_84 (by decide) ?_
                exact ih_2 (i + 1) (by omega) (hq.trans (ng_fst_f c_10 (by first | exact ng_ok_0 hnx | exact ng_ok_1 hnx c_33 c_45 | exact ng_ok_2 hnx c76))) (by omega) _ _ hP hS ls (lv_sub hl [2, 3, 4, 0] rfl)
              · have c76 := (ng_subL (by omega) (by omega) (by omega)).mp c_76
                refine lv_iload_n hx hb d_W_firstEdgeTowards_79 rfl (lv_at hl 4 rfl) ?_
                exact ro_iret hx hb hr hlocks hS (by rw [hq, ng_fst_t c_10 (by first | exact ng_ok_t hnx (Or.inl c_33) c76 | exact ng_ok_t hnx (Or.inr c_45) c76)]; rfl) d_W_firstEdgeTowards_80
  exact lp_2 (ne - 0 + 1) 0 (by omega) rfl (Nat.lt_succ_self _) _ _ hP hS ls (lv_sub hl [1, 2, 3, 0] rfl)
set_option maxHeartbeats 4000000 in
set_option maxRecDepth 100000 in
theorem c_W_joinWaysAt (l : Launch) (dC : Nat → ClassId) (dI : Nat → Nat → Nat) (cI cL : ClassId) (g tA oA uA wA sA np ne : Nat) (bd : Int32) (er : Int64) (vr : Nat) (wy cA rA : Nat) (mv : Int32) (tl : Nat) (ct : Nat → Nat) (m0 : Nat) (hnp : np ≤ 20) (hm0 : m0 < np) (hmm : ct (m0 * 20 + m0) = 0) (hct : ∀ i, i < 400 → ct i ≤ dm_FAR) : Met l y_W_joinWaysAt w_W_joinWaysAt ({ frames := 2, cells := 0, slots := 0, locals := 45 } : Room) (va_Pc [.ref wy, .int (nI m0)] (rw_B (dC, dI) classes [(cI, .int), (cL, .long)] [cg_G g tA oA uA wA sA np ne bd er vr, cg_W wy g cA rA mv tl, cg_L cA cL 400 ct])) (rw_Qv (dC, dI) classes (rw_A [cg_G g tA oA uA wA sA np ne bd er vr, cg_W wy g cA rA mv tl, cg_L cA cL 400 ct]) (fun (u : (Nat → Nat)) => (∀ x y, x < np → y < np → u (x * 20 + y) = dm_st m0 (fun a b => ct (a * 20 + b)) x y) ∧ (∀ i, i < 400 → u i ≤ dm_FAR)) (fun u => [cg_G g tA oA uA wA sA np ne bd er vr, cg_W wy g cA rA mv tl, cg_L cA cL 400 u])) 0 0 (rw_A [cg_G g tA oA uA wA sA np ne bd er vr, cg_W wy g cA rA mv tl, cg_L cA cL 400 ct]) := by
  refine Met.ofW (cc := b_W_joinWaysAt) (maxL := 8) (ret := none) (by decide) rfl ?_
  intro p e s m args below meth c s₁ B hml hv
  obtain ⟨rfl, hP, hK, hD0⟩ := hv
  have hx := B.exec
  have hb := B.bytes
  have hr := B.returns
  have hts := atoms_spec (ws := w_W_joinWaysAt) B.pre
  have hown : s.vm.findClass R_W = some m.cls := findClass_of_methodNamed B.named
  have hlocks := B.notSynchronized
  have iG : ∀ w ∈ w_G, w ∈ w_W_joinWaysAt := fun w h => List.mem_cons_of_mem _ (i_G w h)
  have iW : ∀ w ∈ w_W, w ∈ w_W_joinWaysAt := fun w h => List.mem_cons_of_mem _ (i_W w h)
  have hD := rw_own hD0
  generalize hAe : rw_A [cg_G g tA oA uA wA sA np ne bd er vr, cg_W wy g cA rA mv tl, cg_L cA cL 400 ct] = A at hD ⊢
  have hS : va_S A s.heap s.heap [] := va_S.rf
  have hP : va_P (dC, dI) classes [cg_G g tA oA uA wA sA np ne bd er vr, cg_W wy g cA rA mv tl, cg_L cA cL 400 ct] s.heap := hP
  have hl := lv_entry ([.ref wy, .int (nI m0)]) (n := 8) (Nat.le_of_ble_eq_true rfl)
  rw [lg_entry_eq]
  generalize (lg_sl ([.ref wy, .int (nI m0)]) ++ List.replicate (8 - (lg_sl ([.ref wy, .int (nI m0)])).length) Slot.unset).toArray = ls at hl ⊢
  have hl : lv_has ls 8 [(0, .ref wy), (1, .int (nI m0))] := hl
  refine lv_iconst (v := nI 0) hx hb d_W_joinWaysAt_0 (by decide) ?_
  refine lv_istore_n (lv' := [(2, .int (nI 0)), (0, .ref wy), (1, .int (nI m0))]) hx hb d_W_joinWaysAt_1 rfl hl (by decide) rfl (fun ls hl => ?_)
  have lp_2 : ∀ (n : Nat) (i : Nat) (ct1 : Nat → Nat), (i ≤ np) → (ng_lo1 np m0 ct ct1 i) → (∀ i, i < 400 → ct1 i ≤ dm_FAR) → np - i < n → ∀ (H : Heap) (locs : List Loc), va_P (dC, dI) classes [cg_G g tA oA uA wA sA np ne bd er vr, cg_W wy g cA rA mv tl, cg_L cA cL 400 ct1] H → va_D A [cg_G g tA oA uA wA sA np ne bd er vr, cg_W wy g cA rA mv tl, cg_L cA cL 400 ct1] → va_S A s.heap H locs → ∀ (ls : Array Slot), lv_has ls 8 [(0, .ref wy), (1, .int (nI m0)), (2, .int (nI i))] → W p l e (headSpec w_W_joinWaysAt ({ frames := 2, cells := 0, slots := 0, locals := 45 } : Room)).room s m ([.ref wy, .int (nI m0)] : List Value).toArray below meth c H locs 0 0 (MQ below (rw_Qv (dC, dI) classes A (fun (u : (Nat → Nat)) => (∀ x y, x < np → y < np → u (x * 20 + y) = dm_st m0 (fun a b => ct (a * 20 + b)) x y) ∧ (∀ i, i < 400 → u i ≤ dm_FAR)) (fun u => [cg_G g tA oA uA wA sA np ne bd er vr, cg_W wy g cA rA mv tl, cg_L cA cL 400 u])) ([.ref wy, .int (nI m0)] : List Value).toArray s 0 0 A) (F0 m 2 ls []) := by
    intro n
    induction n with
    | zero => intro i ct1 hi ho hf1 hme; exact absurd hme (Nat.not_lt_zero _)
    | succ n ih =>
      intro i ct1 hi ho hf1 hme H locs hP hD hS ls hl
      have ih_2 := ih
      refine lv_iload_n hx hb d_W_joinWaysAt_2 rfl (lv_at hl 2 rfl) ?_
      refine lv_aload_n hx hb d_W_joinWaysAt_3 rfl (lv_at hl 0 rfl) ?_
      refine va_get (D := (dC, dI)) (ci := 1) (v := .ref g) (C := R_W) (T := F_W) (N := 5) hx hb hts iW hown hK hP 1 rfl rfl 0 (by decide) (hts _ (List.mem_cons_of_mem _ wk_W_26)) (fun _ h9 => h9) rfl d_W_joinWaysAt_4 ?_
      refine va_get (D := (dC, dI)) (ci := 0) (v := .int (nI np)) (C := R_G) (T := F_G) (N := 10) hx hb hts iG hown hK hP 0 rfl rfl 5 (by decide) (hts _ (List.mem_cons_of_mem _ wk_W_55)) (fun _ h9 => h9) rfl d_W_joinWaysAt_7 ?_
      refine nr_icmp_ge (by omega) (by omega) (tgt := 95) hx hb d_W_joinWaysAt_10 (by decide) (fun c_10 => ?_) (fun c_10 => ?_)
      · exact rw_vret ct1 hx hb hr hlocks hS hP (⟨fun x y hx hy => by rw [ho x y hx hy, if_pos (by omega)], hf1⟩) d_W_joinWaysAt_95
      · have hFAR : dm_FAR = 1000000000000 := rfl
        have hc0 := hf1 (i * 20 + m0) (by omega)
        refine lv_aload_n hx hb d_W_joinWaysAt_13 rfl (lv_at hl 0 rfl) ?_
        refine va_get (D := (dC, dI)) (ci := 1) (v := .ref cA) (C := R_W) (T := F_W) (N := 5) hx hb hts iW hown hK hP 1 rfl rfl 1 (by decide) (hts _ (List.mem_cons_of_mem _ wk_W_9)) (fun _ h9 => h9) rfl d_W_joinWaysAt_14 ?_
        refine lv_iload_n hx hb d_W_joinWaysAt_17 rfl (lv_at hl 2 rfl) ?_
        refine lv_iload_n hx hb d_W_joinWaysAt_18 rfl (lv_at hl 1 rfl) ?_
        refine ro_Si (As := [.int (nI i), .int (nI m0)]) (rest := [.ref cA]) ⟨hx, hb, hml, hown, hts⟩ (c_W_at l dC dI cI cL i m0 ) (cwS 2 hts (wg_S wk_W_66 ws_W_at wi_W wc_W_at) rfl rfl rfl (by decide +kernel) ⟨Nat.le_of_ble_eq_true rfl, Nat.le_of_ble_eq_true rfl⟩) hK (hP.sub [] rfl) rfl hl.1 rfl (lv_room (Nat.le_of_ble_eq_true rfl)) d_W_joinWaysAt_19 ⟨Nat.zero_le _, Nat.zero_le _⟩ hS hP (fun H locs hP hS => ?_)
        refine nr_lald hx hb hK hP 2 1 rfl rfl (by omega) (by decide) d_W_joinWaysAt_22 ?_
        refine nr_asL (v := lN (ct (i * 20 + m0))) (by rw [ng_jn_col c_10 hm0 ho]) ?_
        have hc1 := hct (i * 20 + m0) (by omega)
        refine lv_lstore_n (lv' := [(3, .long (lN (ct (i * 20 + m0)))), (0, .ref wy), (1, .int (nI m0)), (2, .int (nI i))]) hx hb d_W_joinWaysAt_23 rfl hl (by decide) rfl (fun ls hl => ?_)
        refine lv_lload_n hx hb d_W_joinWaysAt_24 rfl (lv_at hl 0 rfl) ?_
        refine lv_ldc2 (v := 1000000000000) hx hb hown (hts _ (List.mem_cons_of_mem _ wk_W_70)) d_W_joinWaysAt_25 ?_
        refine nr_asL (v := lN 1000000000000) (by decide) ?_
        refine W.lcmp hx hb d_W_joinWaysAt_28 ?_
        refine nr_lif_ne (by omega) (by omega) (tgt := 35) hx hb d_W_joinWaysAt_29 (by decide) (fun c_29 => ?_) (fun c_29 => ?_)
        · refine lv_iconst (v := nI 0) hx hb d_W_joinWaysAt_35 (by decide) ?_
          refine lv_istore (lv' := [(5, .int (nI 0)), (3, .long (lN (ct (i * 20 + m0)))), (0, .ref wy), (1, .int (nI m0)), (2, .int (nI i))]) hx hb d_W_joinWaysAt_36 hl (by decide) rfl (fun ls hl => ?_)
          have lp_38 : ∀ (n : Nat) (j : Nat) (ct1 : Nat → Nat), (j ≤ np) → (ng_lo2 np m0 ct ct1 i j) → (∀ i, i < 400 → ct1 i ≤ dm_FAR) → np - j < n → ∀ (H : Heap) (locs : List Loc), va_P (dC, dI) classes [cg_G g tA oA uA wA sA np ne bd er vr, cg_W wy g cA rA mv tl, cg_L cA cL 400 ct1] H → va_D A [cg_G g tA oA uA wA sA np ne bd er vr, cg_W wy g cA rA mv tl, cg_L cA cL 400 ct1] → va_S A s.heap H locs → ∀ (ls : Array Slot), lv_has ls 8 [(0, .ref wy), (1, .int (nI m0)), (2, .int (nI i)), (3, .long (lN (ct (i * 20 + m0)))), (5, .int (nI j))] → W p l e (headSpec w_W_joinWaysAt ({ frames := 2, cells := 0, slots := 0, locals := 45 } : Room)).room s m ([.ref wy, .int (nI m0)] : List Value).toArray below meth c H locs 0 0 (MQ below (rw_Qv (dC, dI) classes A (fun (u : (Nat → Nat)) => (∀ x y, x < np → y < np → u (x * 20 + y) = dm_st m0 (fun a b => ct (a * 20 + b)) x y) ∧ (∀ i, i < 400 → u i ≤ dm_FAR)) (fun u => [cg_G g tA oA uA wA sA np ne bd er vr, cg_W wy g cA rA mv tl, cg_L cA cL 400 u])) ([.ref wy, .int (nI m0)] : List Value).toArray s 0 0 A) (F0 m 38 ls []) := by
            intro n
            induction n with
            | zero => intro j ct1 hj ho2 hf1 hme; exact absurd hme (Nat.not_lt_zero _)
            | succ n ih =>
              intro j ct1 hj ho2 hf1 hme H locs hP hD hS ls hl
              have ih_38 := ih
              refine lv_iload hx hb d_W_joinWaysAt_38 (lv_at hl 4 rfl) ?_
              refine lv_aload_n hx hb d_W_joinWaysAt_40 rfl (lv_at hl 0 rfl) ?_
              refine va_get (D := (dC, dI)) (ci := 1) (v := .ref g) (C := R_W) (T := F_W) (N := 5) hx hb hts iW hown hK hP 1 rfl rfl 0 (by decide) (hts _ (List.mem_cons_of_mem _ wk_W_26)) (fun _ h9 => h9) rfl d_W_joinWaysAt_41 ?_
              refine va_get (D := (dC, dI)) (ci := 0) (v := .int (nI np)) (C := R_G) (T := F_G) (N := 10) hx hb hts iG hown hK hP 0 rfl rfl 5 (by decide) (hts _ (List.mem_cons_of_mem _ wk_W_55)) (fun _ h9 => h9) rfl d_W_joinWaysAt_44 ?_
              refine nr_icmp_ge (by omega) (by omega) (tgt := 89) hx hb d_W_joinWaysAt_47 (by decide) (fun c_47 => ?_) (fun c_47 => ?_)
              · have ho3 := ng_jn_end c_47 ho2
                refine lv_iinc (v := (nI (i + 1))) (lv' := [(2, .int (nI (i + 1))), (0, .ref wy), (1, .int (nI m0)), (3, .long (lN (ct (i * 20 + m0)))), (5, .int (nI j))]) hx hb d_W_joinWaysAt_89 hl (k := 2) rfl (nI_1 i) (by decide) rfl (fun ls hl => ?_)
                refine lv_goto (tgt := 2) hx hb d_W_joinWaysAt_92 (by decide) ?_
                exact ih_2 (i + 1) ct1 (by omega) ho3 hf1 (by omega) _ _ hP hD hS ls (lv_sub hl [1, 2, 0] rfl)
              · have hc2 := hf1 (m0 * 20 + j) (by omega)
                refine lv_aload_n hx hb d_W_joinWaysAt_50 rfl (lv_at hl 0 rfl) ?_
                refine va_get (D := (dC, dI)) (ci := 1) (v := .ref cA) (C := R_W) (T := F_W) (N := 5) hx hb hts iW hown hK hP 1 rfl rfl 1 (by decide) (hts _ (List.mem_cons_of_mem _ wk_W_9)) (fun _ h9 => h9) rfl d_W_joinWaysAt_51 ?_
                refine lv_iload_n hx hb d_W_joinWaysAt_54 rfl (lv_at hl 1 rfl) ?_
                refine lv_iload hx hb d_W_joinWaysAt_55 (lv_at hl 4 rfl) ?_
                refine ro_Si (As := [.int (nI m0), .int (nI j)]) (rest := [.ref cA]) ⟨hx, hb, hml, hown, hts⟩ (c_W_at l dC dI cI cL m0 j ) (cwS 2 hts (wg_S wk_W_66 ws_W_at wi_W wc_W_at) rfl rfl rfl (by decide +kernel) ⟨Nat.le_of_ble_eq_true rfl, Nat.le_of_ble_eq_true rfl⟩) hK (hP.sub [] rfl) rfl hl.1 rfl (lv_room (Nat.le_of_ble_eq_true rfl)) d_W_joinWaysAt_57 ⟨Nat.zero_le _, Nat.zero_le _⟩ hS hP (fun H locs hP hS => ?_)
                refine nr_lald hx hb hK hP 2 1 rfl rfl (by omega) (by decide) d_W_joinWaysAt_60 ?_
                refine nr_asL (v := lN (ct (m0 * 20 + j))) (by rw [ng_jn_row hm0 hmm c_47 ho2]) ?_
                have hc3 := hct (m0 * 20 + j) (by omega)
                refine lv_lstore (lv' := [(6, .long (lN (ct (m0 * 20 + j)))), (0, .ref wy), (1, .int (nI m0)), (2, .int (nI i)), (3, .long (lN (ct (i * 20 + m0)))), (5, .int (nI j))]) hx hb d_W_joinWaysAt_61 hl (by decide) rfl (fun ls hl => ?_)
                refine lv_lload hx hb d_W_joinWaysAt_63 (lv_at hl 0 rfl) ?_
                refine lv_ldc2 (v := 1000000000000) hx hb hown (hts _ (List.mem_cons_of_mem _ wk_W_70)) d_W_joinWaysAt_65 ?_
                refine nr_asL (v := lN 1000000000000) (by decide) ?_
                refine W.lcmp hx hb d_W_joinWaysAt_68 ?_
                refine nr_lif_eq (by omega) (by omega) (tgt := 83) hx hb d_W_joinWaysAt_69 (by decide) (fun c_69 => ?_) (fun c_69 => ?_)
                · have ho4 := ng_jn_skip c_10 c_47 c_69 ho2
                  have hf4 := hf1
                  refine lv_iinc (v := (nI (j + 1))) (lv' := [(5, .int (nI (j + 1))), (6, .long (lN (ct (m0 * 20 + j)))), (0, .ref wy), (1, .int (nI m0)), (2, .int (nI i)), (3, .long (lN (ct (i * 20 + m0))))]) hx hb d_W_joinWaysAt_83 hl (k := 5) rfl (nI_1 j) (by decide) rfl (fun ls hl => ?_)
                  refine lv_goto (tgt := 38) hx hb d_W_joinWaysAt_86 (by decide) ?_
                  exact ih_38 (j + 1) ct1 (by omega) ho4 hf4 (by omega) _ _ hP hD hS ls (lv_sub hl [2, 3, 4, 5, 0] rfl)
                · have ho4 := ng_jn_low hnp c_10 c_47 c_29 c_69 ho2
                  have hf4 := ng_low_far (c := ct (i * 20 + m0) + ct (m0 * 20 + j)) hf1 (show i * 20 + j < 400 by omega)
                  have hc4 := hf1 (i * 20 + j) (by omega)
                  refine lv_aload_n hx hb d_W_joinWaysAt_72 rfl (lv_at hl 1 rfl) ?_
                  refine lv_iload_n hx hb d_W_joinWaysAt_73 rfl (lv_at hl 3 rfl) ?_
                  refine lv_iload hx hb d_W_joinWaysAt_74 (lv_at hl 5 rfl) ?_
                  refine lv_lload_n hx hb d_W_joinWaysAt_76 rfl (lv_at hl 4 rfl) ?_
                  refine lv_lload hx hb d_W_joinWaysAt_77 (lv_at hl 0 rfl) ?_
                  refine nr_ladd hx hb d_W_joinWaysAt_79 ?_
                  refine rw_Vv (wr := [cg_G g tA oA uA wA sA np ne bd er vr]) [1, 2] [0] rfl rfl (by decide) (As := [.int (nI i), .int (nI j), .long (lN ((ct (i * 20 + m0)) + (ct (m0 * 20 + j))))]) (rest := []) ⟨hx, hb, hml, hown, hts⟩ (c_W_lower l dC dI cI cL wy g cA rA mv tl ct1 i j ((ct (i * 20 + m0)) + (ct (m0 * 20 + j))) (by omega) (by omega) (by omega) (by omega)) (cwV 3 hts (wg_V wk_W_51 wm_W_lower we_W_lower wi_W wc_W_lower) rfl rfl rfl (by decide +kernel) ⟨Nat.le_of_ble_eq_true rfl, Nat.le_of_ble_eq_true rfl⟩) hK (hP.sub [1, 2] rfl) ((hD.sub [1, 2] (by decide) rfl).weaken (fun _ _ _ _ => trivial)) (q0 := 0) rfl rfl rfl rfl hl.1 rfl (lv_room (Nat.le_of_ble_eq_true rfl)) d_W_joinWaysAt_80 ⟨Nat.zero_le _, Nat.zero_le _⟩ hS hP hD (fun u H locs hw_2 hP hS => ?_)
                  have hP : va_P (dC, dI) classes [cg_G g tA oA uA wA sA np ne bd er vr, cg_W wy g cA rA mv tl, cg_L cA cL 400 (ng_low ct1 (i * 20 + j) ((ct (i * 20 + m0)) + (ct (m0 * 20 + j))))] H := hP.sub [0, 1, 2] rfl
                  have hD : va_D A [cg_G g tA oA uA wA sA np ne bd er vr, cg_W wy g cA rA mv tl, cg_L cA cL 400 (ng_low ct1 (i * 20 + j) ((ct (i * 20 + m0)) + (ct (m0 * 20 + j))))] := rw_re hD rfl
                  refine lv_iinc (v := (nI (j + 1))) (lv' := [(5, .int (nI (j + 1))), (6, .long (lN (ct (m0 * 20 + j)))), (0, .ref wy), (1, .int (nI m0)), (2, .int (nI i)), (3, .long (lN (ct (i * 20 + m0))))]) hx hb d_W_joinWaysAt_83 hl (k := 5) rfl (nI_1 j) (by decide) rfl (fun ls hl => ?_)
                  refine lv_goto (tgt := 38) hx hb d_W_joinWaysAt_86 (by decide) ?_
                  exact ih_38 (j + 1) (ng_low ct1 (i * 20 + j) ((ct (i * 20 + m0)) + (ct (m0 * 20 + j)))) (by omega) ho4 hf4 (by omega) _ _ hP hD hS ls (lv_sub hl [2, 3, 4, 5, 0] rfl)
          exact lp_38 (np - 0 + 1) 0 ct1 (by omega) (ng_jn0 ho) hf1 (Nat.lt_succ_self _) _ _ hP hD hS ls (lv_sub hl [2, 3, 4, 1, 0] rfl)
        · have ho3 := ng_jn_far c_29 ho
          refine lv_goto (tgt := 89) hx hb d_W_joinWaysAt_32 (by decide) ?_
          refine lv_iinc (v := (nI (i + 1))) (lv' := [(2, .int (nI (i + 1))), (3, .long (lN (ct (i * 20 + m0)))), (0, .ref wy), (1, .int (nI m0))]) hx hb d_W_joinWaysAt_89 hl (k := 3) rfl (nI_1 i) (by decide) rfl (fun ls hl => ?_)
          refine lv_goto (tgt := 2) hx hb d_W_joinWaysAt_92 (by decide) ?_
          exact ih_2 (i + 1) ct1 (by omega) ho3 hf1 (by omega) _ _ hP hD hS ls (lv_sub hl [2, 3, 0] rfl)
  exact lp_2 (np - 0 + 1) 0 ct (by omega) (fun x y _ _ => (if_neg (Nat.not_lt_zero _)).symm) hct (Nat.lt_succ_self _) _ _ hP hD hS ls (lv_sub hl [1, 2, 0] rfl)
set_option maxHeartbeats 4000000 in
set_option maxRecDepth 100000 in
theorem c_W_measure (l : Launch) (dC : Nat → ClassId) (dI : Nat → Nat → Nat) (cI cL : ClassId) (g tA oA uA wA sA np ne : Nat) (bd : Int32) (er : Int64) (vr : Nat) (wy cA rA : Nat) (mv : Int32) (tl : Nat) (oe ot wt ct : Nat → Nat) (hnp : np ≤ 20) (hne : ne ≤ 60) (hE : ∀ i, i < ne → oe i < np ∧ ot i < np) (hdf : ∀ i, i < ne → oe i ≠ ot i) (hW : ∀ i, i < ne → ng_w er wt i ≤ 1000000) (hct : ∀ i, i < 400 → ct i ≤ dm_FAR) (hm : mv = nI vr → ng_M np ne bd er oe ot wt ct) : Met l y_W_measure w_W_measure ({ frames := 3, cells := 0, slots := 0, locals := 72 } : Room) (va_Pc [.ref wy] (rw_B (dC, dI) classes [(cI, .int), (cL, .long)] [cg_G g tA oA uA wA sA np ne bd er vr, cg_N oA cI 60 oe, cg_N uA cI 60 ot, cg_N wA cI 60 wt, cg_W wy g cA rA mv tl, cg_L cA cL 400 ct])) (rw_Qv (dC, dI) classes (rw_A [cg_G g tA oA uA wA sA np ne bd er vr, cg_N oA cI 60 oe, cg_N uA cI 60 ot, cg_N wA cI 60 wt, cg_W wy g cA rA mv tl, cg_L cA cL 400 ct]) (fun (u : (Nat → Nat)) => ng_M np ne bd er oe ot wt u) (fun u => [cg_G g tA oA uA wA sA np ne bd er vr, cg_N oA cI 60 oe, cg_N uA cI 60 ot, cg_N wA cI 60 wt, cg_W wy g cA rA (nI vr) tl, cg_L cA cL 400 u])) 0 0 (rw_A [cg_G g tA oA uA wA sA np ne bd er vr, cg_N oA cI 60 oe, cg_N uA cI 60 ot, cg_N wA cI 60 wt, cg_W wy g cA rA mv tl, cg_L cA cL 400 ct]) := by
  refine Met.ofW (cc := b_W_measure) (maxL := 4) (ret := none) (by decide) rfl ?_
  intro p e s m args below meth c s₁ B hml hv
  obtain ⟨rfl, hP, hK, hD0⟩ := hv
  have hx := B.exec
  have hb := B.bytes
  have hr := B.returns
  have hts := atoms_spec (ws := w_W_measure) B.pre
  have hown : s.vm.findClass R_W = some m.cls := findClass_of_methodNamed B.named
  have hlocks := B.notSynchronized
  have iG : ∀ w ∈ w_G, w ∈ w_W_measure := fun w h => List.mem_cons_of_mem _ (i_G w h)
  have iW : ∀ w ∈ w_W, w ∈ w_W_measure := fun w h => List.mem_cons_of_mem _ (i_W w h)
  have hD := rw_own hD0
  generalize hAe : rw_A [cg_G g tA oA uA wA sA np ne bd er vr, cg_N oA cI 60 oe, cg_N uA cI 60 ot, cg_N wA cI 60 wt, cg_W wy g cA rA mv tl, cg_L cA cL 400 ct] = A at hD ⊢
  have hS : va_S A s.heap s.heap [] := va_S.rf
  have hP : va_P (dC, dI) classes [cg_G g tA oA uA wA sA np ne bd er vr, cg_N oA cI 60 oe, cg_N uA cI 60 ot, cg_N wA cI 60 wt, cg_W wy g cA rA mv tl, cg_L cA cL 400 ct] s.heap := hP
  have hl := lv_entry ([.ref wy]) (n := 4) (Nat.le_of_ble_eq_true rfl)
  rw [lg_entry_eq]
  generalize (lg_sl ([.ref wy]) ++ List.replicate (4 - (lg_sl ([.ref wy])).length) Slot.unset).toArray = ls at hl ⊢
  have hl : lv_has ls 4 [(0, .ref wy)] := hl
  refine lv_aload_n hx hb d_W_measure_0 rfl (lv_at hl 0 rfl) ?_
  refine va_get (D := (dC, dI)) (ci := 1) (v := .int mv) (C := R_W) (T := F_W) (N := 5) hx hb hts iW hown hK hP 4 rfl rfl 3 (by decide) (hts _ (List.mem_cons_of_mem _ wk_W_19)) (fun _ h9 => h9) rfl d_W_measure_1 ?_
  refine lv_aload_n hx hb d_W_measure_4 rfl (lv_at hl 0 rfl) ?_
  refine va_get (D := (dC, dI)) (ci := 1) (v := .ref g) (C := R_W) (T := F_W) (N := 5) hx hb hts iW hown hK hP 4 rfl rfl 0 (by decide) (hts _ (List.mem_cons_of_mem _ wk_W_26)) (fun _ h9 => h9) rfl d_W_measure_5 ?_
  refine va_get (D := (dC, dI)) (ci := 0) (v := .int (nI vr)) (C := R_G) (T := F_G) (N := 10) hx hb hts iG hown hK hP 0 rfl rfl 9 (by decide) (hts _ (List.mem_cons_of_mem _ wk_W_30)) (fun _ h9 => h9) rfl d_W_measure_8 ?_
  refine lv_icmp_ne (tgt := 15) hx hb d_W_measure_11 (by decide) (fun c_11 => ?_) (fun c_11 => ?_)
  · refine lv_aload_n hx hb d_W_measure_15 rfl (lv_at hl 0 rfl) ?_
    refine rw_Vv (wr := [cg_N oA cI 60 oe, cg_N uA cI 60 ot, cg_N wA cI 60 wt]) [0, 4, 5] [1, 2, 3] rfl rfl (by decide) (As := []) (rest := []) ⟨hx, hb, hml, hown, hts⟩ (c_W_clearCosts l dC dI cI cL g tA oA uA wA sA np ne bd er vr wy cA rA mv tl ct (by omega) hct) (cwV 0 hts (wg_V wk_W_35 wm_W_clearCosts we_W_clearCosts wi_W wc_W_clearCosts) rfl rfl rfl (by decide +kernel) ⟨Nat.le_of_ble_eq_true rfl, Nat.le_of_ble_eq_true rfl⟩) hK (hP.sub [0, 4, 5] rfl) ((hD.sub [0, 4, 5] (by decide) rfl).weaken (fun _ _ _ _ => trivial)) (q0 := 1) rfl rfl rfl rfl hl.1 rfl (lv_room (Nat.le_of_ble_eq_true rfl)) d_W_measure_16 ⟨Nat.zero_le _, Nat.zero_le _⟩ hS hP hD (fun ct2_1 H locs hw_3 hP hS => ?_)
    have hP : va_P (dC, dI) classes [cg_G g tA oA uA wA sA np ne bd er vr, cg_N oA cI 60 oe, cg_N uA cI 60 ot, cg_N wA cI 60 wt, cg_W wy g cA rA mv tl, cg_L cA cL 400 ct2_1] H := hP.sub [3, 0, 1, 2, 4, 5] rfl
    have hD : va_D A [cg_G g tA oA uA wA sA np ne bd er vr, cg_N oA cI 60 oe, cg_N uA cI 60 ot, cg_N wA cI 60 wt, cg_W wy g cA rA mv tl, cg_L cA cL 400 ct2_1] := rw_re hD rfl
    try dsimp only at hw_3
    obtain ⟨hw_a, hw_b⟩ := hw_3
    refine lv_iconst (v := nI 0) hx hb d_W_measure_19 (by decide) ?_
    refine lv_istore_n (lv' := [(1, .int (nI 0)), (0, .ref wy)]) hx hb d_W_measure_20 rfl hl (by decide) rfl (fun ls hl => ?_)
    have lp_21 : ∀ (n : Nat) (i : Nat) (ct1 : Nat → Nat), (i ≤ ne) → (dm_I np i (fun k => !nb_t bd k) oe ot (fun e => ng_w er wt e * 64 + 1) 0 (fun a b => ct1 (a * 20 + b))) → (∀ i, i < 400 → ct1 i ≤ dm_FAR) → ne - i < n → ∀ (H : Heap) (locs : List Loc), va_P (dC, dI) classes [cg_G g tA oA uA wA sA np ne bd er vr, cg_N oA cI 60 oe, cg_N uA cI 60 ot, cg_N wA cI 60 wt, cg_W wy g cA rA mv tl, cg_L cA cL 400 ct1] H → va_D A [cg_G g tA oA uA wA sA np ne bd er vr, cg_N oA cI 60 oe, cg_N uA cI 60 ot, cg_N wA cI 60 wt, cg_W wy g cA rA mv tl, cg_L cA cL 400 ct1] → va_S A s.heap H locs → ∀ (ls : Array Slot), lv_has ls 4 [(0, .ref wy), (1, .int (nI i))] → W p l e (headSpec w_W_measure ({ frames := 3, cells := 0, slots := 0, locals := 72 } : Room)).room s m ([.ref wy] : List Value).toArray below meth c H locs 0 0 (MQ below (rw_Qv (dC, dI) classes A (fun (u : (Nat → Nat)) => ng_M np ne bd er oe ot wt u) (fun u => [cg_G g tA oA uA wA sA np ne bd er vr, cg_N oA cI 60 oe, cg_N uA cI 60 ot, cg_N wA cI 60 wt, cg_W wy g cA rA (nI vr) tl, cg_L cA cL 400 u])) ([.ref wy] : List Value).toArray s 0 0 A) (F0 m 21 ls []) := by
      intro n
      induction n with
      | zero => intro i ct1 hi ho hf1 hme; exact absurd hme (Nat.not_lt_zero _)
      | succ n ih =>
        intro i ct1 hi ho hf1 hme H locs hP hD hS ls hl
        have ih_21 := ih
        refine lv_iload_n hx hb d_W_measure_21 rfl (lv_at hl 1 rfl) ?_
        refine lv_aload_n hx hb d_W_measure_22 rfl (lv_at hl 0 rfl) ?_
        refine va_get (D := (dC, dI)) (ci := 1) (v := .ref g) (C := R_W) (T := F_W) (N := 5) hx hb hts iW hown hK hP 4 rfl rfl 0 (by decide) (hts _ (List.mem_cons_of_mem _ wk_W_26)) (fun _ h9 => h9) rfl d_W_measure_23 ?_
        refine va_get (D := (dC, dI)) (ci := 0) (v := .int (nI ne)) (C := R_G) (T := F_G) (N := 10) hx hb hts iG hown hK hP 0 rfl rfl 6 (by decide) (hts _ (List.mem_cons_of_mem _ wk_W_38)) (fun _ h9 => h9) rfl d_W_measure_26 ?_
        refine nr_icmp_ge (by omega) (by omega) (tgt := 80) hx hb d_W_measure_29 (by decide) (fun c_29 => ?_) (fun c_29 => ?_)
        · have hie : i = ne := by omega
          have ho6 := ho
          rw [hie] at ho6
          refine lv_iconst (v := nI 0) hx hb d_W_measure_80 (by decide) ?_
          refine lv_istore_n (lv' := [(1, .int (nI 0)), (0, .ref wy)]) hx hb d_W_measure_81 rfl hl (by decide) rfl (fun ls hl => ?_)
          have lp_82 : ∀ (n : Nat) (i : Nat) (ct1 : Nat → Nat), (i ≤ np) → (dm_I np ne (fun k => !nb_t bd k) oe ot (fun e => ng_w er wt e * 64 + 1) i (fun a b => ct1 (a * 20 + b))) → (∀ i, i < 400 → ct1 i ≤ dm_FAR) → np - i < n → ∀ (H : Heap) (locs : List Loc), va_P (dC, dI) classes [cg_G g tA oA uA wA sA np ne bd er vr, cg_N oA cI 60 oe, cg_N uA cI 60 ot, cg_N wA cI 60 wt, cg_W wy g cA rA mv tl, cg_L cA cL 400 ct1] H → va_D A [cg_G g tA oA uA wA sA np ne bd er vr, cg_N oA cI 60 oe, cg_N uA cI 60 ot, cg_N wA cI 60 wt, cg_W wy g cA rA mv tl, cg_L cA cL 400 ct1] → va_S A s.heap H locs → ∀ (ls : Array Slot), lv_has ls 4 [(0, .ref wy), (1, .int (nI i))] → W p l e (headSpec w_W_measure ({ frames := 3, cells := 0, slots := 0, locals := 72 } : Room)).room s m ([.ref wy] : List Value).toArray below meth c H locs 0 0 (MQ below (rw_Qv (dC, dI) classes A (fun (u : (Nat → Nat)) => ng_M np ne bd er oe ot wt u) (fun u => [cg_G g tA oA uA wA sA np ne bd er vr, cg_N oA cI 60 oe, cg_N uA cI 60 ot, cg_N wA cI 60 wt, cg_W wy g cA rA (nI vr) tl, cg_L cA cL 400 u])) ([.ref wy] : List Value).toArray s 0 0 A) (F0 m 82 ls []) := by
            intro n
            induction n with
            | zero => intro i ct1 hi2 ho5 hf5 hme; exact absurd hme (Nat.not_lt_zero _)
            | succ n ih =>
              intro i ct1 hi2 ho5 hf5 hme H locs hP hD hS ls hl
              have ih_82 := ih
              refine lv_iload_n hx hb d_W_measure_82 rfl (lv_at hl 1 rfl) ?_
              refine lv_aload_n hx hb d_W_measure_83 rfl (lv_at hl 0 rfl) ?_
              refine va_get (D := (dC, dI)) (ci := 1) (v := .ref g) (C := R_W) (T := F_W) (N := 5) hx hb hts iW hown hK hP 4 rfl rfl 0 (by decide) (hts _ (List.mem_cons_of_mem _ wk_W_26)) (fun _ h9 => h9) rfl d_W_measure_84 ?_
              refine va_get (D := (dC, dI)) (ci := 0) (v := .int (nI np)) (C := R_G) (T := F_G) (N := 10) hx hb hts iG hown hK hP 0 rfl rfl 5 (by decide) (hts _ (List.mem_cons_of_mem _ wk_W_55)) (fun _ h9 => h9) rfl d_W_measure_87 ?_
              refine nr_icmp_ge (by omega) (by omega) (tgt := 115) hx hb d_W_measure_90 (by decide) (fun c_90 => ?_) (fun c_90 => ?_)
              · have hin : i = np := by omega
                rw [hin] at ho5
                refine lv_aload_n hx hb d_W_measure_115 rfl (lv_at hl 0 rfl) ?_
                refine lv_aload_n hx hb d_W_measure_116 rfl (lv_at hl 0 rfl) ?_
                refine va_get (D := (dC, dI)) (ci := 1) (v := .ref g) (C := R_W) (T := F_W) (N := 5) hx hb hts iW hown hK hP 4 rfl rfl 0 (by decide) (hts _ (List.mem_cons_of_mem _ wk_W_26)) (fun _ h9 => h9) rfl d_W_measure_117 ?_
                refine va_get (D := (dC, dI)) (ci := 0) (v := .int (nI vr)) (C := R_G) (T := F_G) (N := 10) hx hb hts iG hown hK hP 0 rfl rfl 9 (by decide) (hts _ (List.mem_cons_of_mem _ wk_W_30)) (fun _ h9 => h9) rfl d_W_measure_120 ?_
                refine va_put (D := (dC, dI)) (ci := 1) (v := .int (nI vr)) (ty := .int) (C := R_W) (T := F_W) (N := 5) hx hb hts iW t_W t_W_ok n_W hown hK hP hD hS 4 rfl rfl 3 (by decide) (hts _ (List.mem_cons_of_mem _ wk_W_19)) (fun _ h9 => h9) rfl (by decide +kernel) rfl rfl (Nat.le_of_ble_eq_true rfl) d_W_measure_123 (fun H locs hP hD hS => ?_)
                have hP : va_P (dC, dI) classes [cg_G g tA oA uA wA sA np ne bd er vr, cg_N oA cI 60 oe, cg_N uA cI 60 ot, cg_N wA cI 60 wt, cg_W wy g cA rA (nI vr) tl, cg_L cA cL 400 ct1] H := hP
                have hD : va_D A [cg_G g tA oA uA wA sA np ne bd er vr, cg_N oA cI 60 oe, cg_N uA cI 60 ot, cg_N wA cI 60 wt, cg_W wy g cA rA (nI vr) tl, cg_L cA cL 400 ct1] := hD
                exact rw_vret ct1 hx hb hr hlocks hS hP (⟨ho5, hf5⟩) d_W_measure_126
              · refine lv_aload_n hx hb d_W_measure_93 rfl (lv_at hl 0 rfl) ?_
                refine va_get (D := (dC, dI)) (ci := 1) (v := .ref g) (C := R_W) (T := F_W) (N := 5) hx hb hts iW hown hK hP 4 rfl rfl 0 (by decide) (hts _ (List.mem_cons_of_mem _ wk_W_26)) (fun _ h9 => h9) rfl d_W_measure_94 ?_
                refine lv_iload_n hx hb d_W_measure_97 rfl (lv_at hl 1 rfl) ?_
                refine ro_Vi (As := [.int (nI i)]) (rest := []) ⟨hx, hb, hml, hown, hts⟩ (c_G_isBoundary l dC dI cI cL g tA oA uA wA sA np ne bd er vr i (by omega)) (cwV 1 hts (wg_V wk_W_58 wm_G_isBoundary we_G_isBoundary wi_G wc_G_isBoundary) rfl rfl rfl (by decide +kernel) ⟨Nat.le_of_ble_eq_true rfl, Nat.le_of_ble_eq_true rfl⟩) hK (hP.sub [0] rfl) (q0 := 0) rfl rfl rfl rfl hl.1 rfl (lv_room (Nat.le_of_ble_eq_true rfl)) d_W_measure_98 ⟨Nat.zero_le _, Nat.zero_le _⟩ hS hP (fun H locs hP hS => ?_)
                refine nr_ifneB (tgt := 109) hx hb d_W_measure_101 (by decide) (fun c_101 => ?_) (fun c_101 => ?_)
                · have ho7 := dm_skip (k := i) (by simp [c_101]) ho5
                  have hf7 := hf5
                  refine lv_iinc (v := (nI (i + 1))) (lv' := [(1, .int (nI (i + 1))), (0, .ref wy)]) hx hb d_W_measure_109 hl (k := 1) rfl (nI_1 i) (by decide) rfl (fun ls hl => ?_)
                  refine lv_goto (tgt := 82) hx hb d_W_measure_112 (by decide) ?_
                  exact ih_82 (i + 1) ct1 (by omega) ho7 hf7 (by omega) _ _ hP hD hS ls (lv_sub hl [1, 0] rfl)
                · have hmm : ct1 (i * 20 + i) = 0 := ho5.1 i c_90
                  refine lv_aload_n hx hb d_W_measure_104 rfl (lv_at hl 0 rfl) ?_
                  refine lv_iload_n hx hb d_W_measure_105 rfl (lv_at hl 1 rfl) ?_
                  refine rw_Vv (wr := [cg_N oA cI 60 oe, cg_N uA cI 60 ot, cg_N wA cI 60 wt]) [0, 4, 5] [1, 2, 3] rfl rfl (by decide) (As := [.int (nI i)]) (rest := []) ⟨hx, hb, hml, hown, hts⟩ (c_W_joinWaysAt l dC dI cI cL g tA oA uA wA sA np ne bd er vr wy cA rA mv tl ct1 i (by omega) (by omega) hmm hf5) (cwV 1 hts (wg_V wk_W_62 wm_W_joinWaysAt we_W_joinWaysAt wi_W wc_W_joinWaysAt) rfl rfl rfl (by decide +kernel) ⟨Nat.le_of_ble_eq_true rfl, Nat.le_of_ble_eq_true rfl⟩) hK (hP.sub [0, 4, 5] rfl) ((hD.sub [0, 4, 5] (by decide) rfl).weaken (fun _ _ _ _ => trivial)) (q0 := 1) rfl rfl rfl rfl hl.1 rfl (lv_room (Nat.le_of_ble_eq_true rfl)) d_W_measure_106 ⟨Nat.zero_le _, Nat.zero_le _⟩ hS hP hD (fun ct2_4 H locs hw_6 hP hS => ?_)
                  have hP : va_P (dC, dI) classes [cg_G g tA oA uA wA sA np ne bd er vr, cg_N oA cI 60 oe, cg_N uA cI 60 ot, cg_N wA cI 60 wt, cg_W wy g cA rA mv tl, cg_L cA cL 400 ct2_4] H := hP.sub [3, 0, 1, 2, 4, 5] rfl
                  have hD : va_D A [cg_G g tA oA uA wA sA np ne bd er vr, cg_N oA cI 60 oe, cg_N uA cI 60 ot, cg_N wA cI 60 wt, cg_W wy g cA rA mv tl, cg_L cA cL 400 ct2_4] := rw_re hD rfl
                  try dsimp only at hw_6
                  have ho7 := dm_congr (fun e he => hE e he) (fun a b ha hb => hw_6.1 a b ha hb) (dm_step (fun e he => hE e he) c_90 (by simp [c_101]) ho5)
                  have hf7 := hw_6.2
                  refine lv_iinc (v := (nI (i + 1))) (lv' := [(1, .int (nI (i + 1))), (0, .ref wy)]) hx hb d_W_measure_109 hl (k := 1) rfl (nI_1 i) (by decide) rfl (fun ls hl => ?_)
                  refine lv_goto (tgt := 82) hx hb d_W_measure_112 (by decide) ?_
                  exact ih_82 (i + 1) ct2_4 (by omega) ho7 hf7 (by omega) _ _ hP hD hS ls (lv_sub hl [1, 0] rfl)
          exact lp_82 (np - 0 + 1) 0 ct1 (by omega) ho6 hf1 (Nat.lt_succ_self _) _ _ hP hD hS ls (lv_sub hl [1, 0] rfl)
        · have hEi := hE i c_29
          have hWi := hW i c_29
          have hdi := hdf i c_29
          have hFAR : dm_FAR = 1000000000000 := rfl
          have hq1 := hf1 (oe i * 20 + ot i) (by omega)
          have ho4 := ng_ed hnp (fun e he => hE e (by omega)) hdi (c := ng_w er wt i * 64 + 1) rfl (by omega) ho
          have hf3 := ng_low_far (c := ng_w er wt i * 64 + 1) hf1 (show oe i * 20 + ot i < 400 by omega)
          have hf4 := ng_low_far (c := ng_w er wt i * 64 + 1) hf3 (show ot i * 20 + oe i < 400 by omega)
          have hq2 := hf3 (ot i * 20 + oe i) (by omega)
          refine lv_aload_n hx hb d_W_measure_32 rfl (lv_at hl 0 rfl) ?_
          refine va_get (D := (dC, dI)) (ci := 1) (v := .ref g) (C := R_W) (T := F_W) (N := 5) hx hb hts iW hown hK hP 4 rfl rfl 0 (by decide) (hts _ (List.mem_cons_of_mem _ wk_W_26)) (fun _ h9 => h9) rfl d_W_measure_33 ?_
          refine va_get (D := (dC, dI)) (ci := 0) (v := .ref oA) (C := R_G) (T := F_G) (N := 10) hx hb hts iG hown hK hP 0 rfl rfl 1 (by decide) (hts _ (List.mem_cons_of_mem _ wk_W_41)) (fun _ h9 => h9) rfl d_W_measure_36 ?_
          refine lv_iload_n hx hb d_W_measure_39 rfl (lv_at hl 1 rfl) ?_
          refine nr_iald hx hb hK hP 1 0 rfl rfl (by omega) (by decide) d_W_measure_40 ?_
          refine lv_istore_n (lv' := [(2, .int (nI (oe i))), (0, .ref wy), (1, .int (nI i))]) hx hb d_W_measure_41 rfl hl (by decide) rfl (fun ls hl => ?_)
          refine lv_aload_n hx hb d_W_measure_42 rfl (lv_at hl 1 rfl) ?_
          refine va_get (D := (dC, dI)) (ci := 1) (v := .ref g) (C := R_W) (T := F_W) (N := 5) hx hb hts iW hown hK hP 4 rfl rfl 0 (by decide) (hts _ (List.mem_cons_of_mem _ wk_W_26)) (fun _ h9 => h9) rfl d_W_measure_43 ?_
          refine va_get (D := (dC, dI)) (ci := 0) (v := .ref uA) (C := R_G) (T := F_G) (N := 10) hx hb hts iG hown hK hP 0 rfl rfl 2 (by decide) (hts _ (List.mem_cons_of_mem _ wk_W_44)) (fun _ h9 => h9) rfl d_W_measure_46 ?_
          refine lv_iload_n hx hb d_W_measure_49 rfl (lv_at hl 2 rfl) ?_
          refine nr_iald hx hb hK hP 2 0 rfl rfl (by omega) (by decide) d_W_measure_50 ?_
          refine lv_istore_n (lv' := [(3, .int (nI (ot i))), (2, .int (nI (oe i))), (0, .ref wy), (1, .int (nI i))]) hx hb d_W_measure_51 rfl hl (by decide) rfl (fun ls hl => ?_)
          refine lv_aload_n hx hb d_W_measure_52 rfl (lv_at hl 2 rfl) ?_
          refine lv_iload_n hx hb d_W_measure_53 rfl (lv_at hl 1 rfl) ?_
          refine lv_iload_n hx hb d_W_measure_54 rfl (lv_at hl 0 rfl) ?_
          refine lv_aload_n hx hb d_W_measure_55 rfl (lv_at hl 2 rfl) ?_
          refine lv_iload_n hx hb d_W_measure_56 rfl (lv_at hl 3 rfl) ?_
          refine ro_Vl (As := [.int (nI i)]) (rest := [.int (nI (ot i)), .int (nI (oe i)), .ref wy]) ⟨hx, hb, hml, hown, hts⟩ (c_W_edgeCost l dC dI cI cL g tA oA uA wA sA np ne bd er vr wy cA rA mv tl wt i (by omega) hWi) (cwV 1 hts (wg_V wk_W_47 wm_W_edgeCost we_W_edgeCost wi_W wc_W_edgeCost) rfl rfl rfl (by decide +kernel) ⟨Nat.le_of_ble_eq_true rfl, Nat.le_of_ble_eq_true rfl⟩) hK (hP.sub [0, 3, 4] rfl) (q0 := 2) rfl rfl rfl rfl hl.1 rfl (lv_room (Nat.le_of_ble_eq_true rfl)) d_W_measure_57 ⟨Nat.zero_le _, Nat.zero_le _⟩ hS hP (fun H locs hP hS => ?_)
          refine rw_Vv (wr := [cg_G g tA oA uA wA sA np ne bd er vr, cg_N oA cI 60 oe, cg_N uA cI 60 ot, cg_N wA cI 60 wt]) [4, 5] [0, 1, 2, 3] rfl rfl (by decide) (As := [.int (nI (oe i)), .int (nI (ot i)), .long (lN (ng_w er wt i * 64 + 1))]) (rest := []) ⟨hx, hb, hml, hown, hts⟩ (c_W_lower l dC dI cI cL wy g cA rA mv tl ct1 (oe i) (ot i) (ng_w er wt i * 64 + 1) (by omega) (by omega) (by omega) (by omega)) (cwV 3 hts (wg_V wk_W_51 wm_W_lower we_W_lower wi_W wc_W_lower) rfl rfl rfl (by decide +kernel) ⟨Nat.le_of_ble_eq_true rfl, Nat.le_of_ble_eq_true rfl⟩) hK (hP.sub [4, 5] rfl) ((hD.sub [4, 5] (by decide) rfl).weaken (fun _ _ _ _ => trivial)) (q0 := 0) rfl rfl rfl rfl hl.1 rfl (lv_room (Nat.le_of_ble_eq_true rfl)) d_W_measure_60 ⟨Nat.zero_le _, Nat.zero_le _⟩ hS hP hD (fun u H locs hw_8 hP hS => ?_)
          have hP : va_P (dC, dI) classes [cg_G g tA oA uA wA sA np ne bd er vr, cg_N oA cI 60 oe, cg_N uA cI 60 ot, cg_N wA cI 60 wt, cg_W wy g cA rA mv tl, cg_L cA cL 400 (ng_low ct1 ((oe i) * 20 + (ot i)) (ng_w er wt i * 64 + 1))] H := hP.sub [0, 1, 2, 3, 4, 5] rfl
          have hD : va_D A [cg_G g tA oA uA wA sA np ne bd er vr, cg_N oA cI 60 oe, cg_N uA cI 60 ot, cg_N wA cI 60 wt, cg_W wy g cA rA mv tl, cg_L cA cL 400 (ng_low ct1 ((oe i) * 20 + (ot i)) (ng_w er wt i * 64 + 1))] := rw_re hD rfl
          refine lv_aload_n hx hb d_W_measure_63 rfl (lv_at hl 2 rfl) ?_
          refine lv_iload_n hx hb d_W_measure_64 rfl (lv_at hl 0 rfl) ?_
          refine lv_iload_n hx hb d_W_measure_65 rfl (lv_at hl 1 rfl) ?_
          refine lv_aload_n hx hb d_W_measure_66 rfl (lv_at hl 2 rfl) ?_
          refine lv_iload_n hx hb d_W_measure_67 rfl (lv_at hl 3 rfl) ?_
          refine ro_Vl (As := [.int (nI i)]) (rest := [.int (nI (oe i)), .int (nI (ot i)), .ref wy]) ⟨hx, hb, hml, hown, hts⟩ (c_W_edgeCost l dC dI cI cL g tA oA uA wA sA np ne bd er vr wy cA rA mv tl wt i (by omega) hWi) (cwV 1 hts (wg_V wk_W_47 wm_W_edgeCost we_W_edgeCost wi_W wc_W_edgeCost) rfl rfl rfl (by decide +kernel) ⟨Nat.le_of_ble_eq_true rfl, Nat.le_of_ble_eq_true rfl⟩) hK (hP.sub [0, 3, 4] rfl) (q0 := 2) rfl rfl rfl rfl hl.1 rfl (lv_room (Nat.le_of_ble_eq_true rfl)) d_W_measure_68 ⟨Nat.zero_le _, Nat.zero_le _⟩ hS hP (fun H locs hP hS => ?_)
          refine rw_Vv (wr := [cg_G g tA oA uA wA sA np ne bd er vr, cg_N oA cI 60 oe, cg_N uA cI 60 ot, cg_N wA cI 60 wt]) [4, 5] [0, 1, 2, 3] rfl rfl (by decide) (As := [.int (nI (ot i)), .int (nI (oe i)), .long (lN (ng_w er wt i * 64 + 1))]) (rest := []) ⟨hx, hb, hml, hown, hts⟩ (c_W_lower l dC dI cI cL wy g cA rA mv tl (ng_low ct1 ((oe i) * 20 + (ot i)) (ng_w er wt i * 64 + 1)) (ot i) (oe i) (ng_w er wt i * 64 + 1) (by omega) (by omega) (by omega) (by omega)) (cwV 3 hts (wg_V wk_W_51 wm_W_lower we_W_lower wi_W wc_W_lower) rfl rfl rfl (by decide +kernel) ⟨Nat.le_of_ble_eq_true rfl, Nat.le_of_ble_eq_true rfl⟩) hK (hP.sub [4, 5] rfl) ((hD.sub [4, 5] (by decide) rfl).weaken (fun _ _ _ _ => trivial)) (q0 := 0) rfl rfl rfl rfl hl.1 rfl (lv_room (Nat.le_of_ble_eq_true rfl)) d_W_measure_71 ⟨Nat.zero_le _, Nat.zero_le _⟩ hS hP hD (fun u H locs hw_10 hP hS => ?_)
          have hP : va_P (dC, dI) classes [cg_G g tA oA uA wA sA np ne bd er vr, cg_N oA cI 60 oe, cg_N uA cI 60 ot, cg_N wA cI 60 wt, cg_W wy g cA rA mv tl, cg_L cA cL 400 (ng_low (ng_low ct1 ((oe i) * 20 + (ot i)) (ng_w er wt i * 64 + 1)) ((ot i) * 20 + (oe i)) (ng_w er wt i * 64 + 1))] H := hP.sub [0, 1, 2, 3, 4, 5] rfl
          have hD : va_D A [cg_G g tA oA uA wA sA np ne bd er vr, cg_N oA cI 60 oe, cg_N uA cI 60 ot, cg_N wA cI 60 wt, cg_W wy g cA rA mv tl, cg_L cA cL 400 (ng_low (ng_low ct1 ((oe i) * 20 + (ot i)) (ng_w er wt i * 64 + 1)) ((ot i) * 20 + (oe i)) (ng_w er wt i * 64 + 1))] := rw_re hD rfl
          refine lv_iinc (v := (nI (i + 1))) (lv' := [(1, .int (nI (i + 1))), (3, .int (nI (ot i))), (2, .int (nI (oe i))), (0, .ref wy)]) hx hb d_W_measure_74 hl (k := 3) rfl (nI_1 i) (by decide) rfl (fun ls hl => ?_)
          refine lv_goto (tgt := 21) hx hb d_W_measure_77 (by decide) ?_
          exact ih_21 (i + 1) (ng_low (ng_low ct1 ((oe i) * 20 + (ot i)) (ng_w er wt i * 64 + 1)) ((ot i) * 20 + (oe i)) (ng_w er wt i * 64 + 1)) (by omega) ho4 hf4 (by omega) _ _ hP hD hS ls (lv_sub hl [3, 0] rfl)
    exact lp_21 (ne - 0 + 1) 0 ct2_1 (by omega) (dm_zero (fun a ha => by have := hw_a a a ha ha; simpa using this) (fun a b ha hb hab => by have := hw_a a b ha hb; simpa [hab] using this)) hw_b (Nat.lt_succ_self _) _ _ hP hD hS ls (lv_sub hl [1, 0] rfl)
  · subst c_11
    exact rw_vret ct hx hb hr hlocks hS hP (hm rfl) d_W_measure_14
set_option maxHeartbeats 4000000 in
set_option maxRecDepth 100000 in
theorem c_W_trailAsSet (l : Launch) (dC : Nat → ClassId) (dI : Nat → Nat → Nat) (cI cL : ClassId) (wy g cA rA : Nat) (mv : Int32) (tl : Nat) (tr : Nat → Nat) (htl : tl ≤ 20) : Met l y_W_trailAsSet w_W_trailAsSet ({ frames := 0, cells := 0, slots := 0, locals := 0 } : Room) (va_Pc [.ref wy] (ro_B (dC, dI) classes [(cI, .int), (cL, .long)] [cg_W wy g cA rA mv tl, cg_N rA cI 20 tr])) (ro_Ql (ng_set tr tl)) 0 0 ro_A := by
  refine Met.ofW (cc := b_W_trailAsSet) (maxL := 4) (ret := (some .long)) (by decide) rfl ?_
  intro p e s m args below meth c s₁ B hml hv
  obtain ⟨rfl, hP, hK⟩ := hv
  have hx := B.exec
  have hb := B.bytes
  have hr := B.returns
  have hts := atoms_spec (ws := w_W_trailAsSet) B.pre
  have hown : s.vm.findClass R_W = some m.cls := findClass_of_methodNamed B.named
  have hlocks := B.notSynchronized
  have iW : ∀ w ∈ w_W, w ∈ w_W_trailAsSet := fun w h => List.mem_cons_of_mem _ (i_W w h)
  have hS : va_S ro_A s.heap s.heap [] := va_S.rf
  have hP : va_P (dC, dI) classes [cg_W wy g cA rA mv tl, cg_N rA cI 20 tr] s.heap := hP
  have hl := lv_entry ([.ref wy]) (n := 4) (Nat.le_of_ble_eq_true rfl)
  rw [lg_entry_eq]
  generalize (lg_sl ([.ref wy]) ++ List.replicate (4 - (lg_sl ([.ref wy])).length) Slot.unset).toArray = ls at hl ⊢
  have hl : lv_has ls 4 [(0, .ref wy)] := hl
  refine lv_lconst (v := lN 0) hx hb d_W_trailAsSet_0 (by decide) ?_
  refine lv_lstore_n (lv' := [(1, .long (lN 0)), (0, .ref wy)]) hx hb d_W_trailAsSet_1 rfl hl (by decide) rfl (fun ls hl => ?_)
  refine lv_iconst (v := nI 0) hx hb d_W_trailAsSet_2 (by decide) ?_
  refine lv_istore_n (lv' := [(3, .int (nI 0)), (1, .long (lN 0)), (0, .ref wy)]) hx hb d_W_trailAsSet_3 rfl hl (by decide) rfl (fun ls hl => ?_)
  have lp_4 : ∀ (n : Nat) (i : Nat) (sx : Int64), (i ≤ tl) → (sx = ng_set tr i) → tl - i < n → ∀ (H : Heap) (locs : List Loc), va_P (dC, dI) classes [cg_W wy g cA rA mv tl, cg_N rA cI 20 tr] H → va_S ro_A s.heap H locs → ∀ (ls : Array Slot), lv_has ls 4 [(0, .ref wy), (1, .long sx), (3, .int (nI i))] → W p l e (headSpec w_W_trailAsSet ({ frames := 0, cells := 0, slots := 0, locals := 0 } : Room)).room s m ([.ref wy] : List Value).toArray below meth c H locs 0 0 (MQ below (ro_Ql (ng_set tr tl)) ([.ref wy] : List Value).toArray s 0 0 ro_A) (F0 m 4 ls []) := by
    intro n
    induction n with
    | zero => intro i sx hi ho hme; exact absurd hme (Nat.not_lt_zero _)
    | succ n ih =>
      intro i sx hi ho hme H locs hP hS ls hl
      have ih_4 := ih
      refine lv_iload_n hx hb d_W_trailAsSet_4 rfl (lv_at hl 2 rfl) ?_
      refine lv_aload_n hx hb d_W_trailAsSet_5 rfl (lv_at hl 0 rfl) ?_
      refine va_get (D := (dC, dI)) (ci := 1) (v := .int (nI tl)) (C := R_W) (T := F_W) (N := 5) hx hb hts iW hown hK hP 0 rfl rfl 4 (by decide) (hts _ (List.mem_cons_of_mem _ wk_W_23)) (fun _ h9 => h9) rfl d_W_trailAsSet_6 ?_
      refine nr_icmp_ge (by omega) (by omega) (tgt := 29) hx hb d_W_trailAsSet_9 (by decide) (fun c_9 => ?_) (fun c_9 => ?_)
      · refine lv_lload_n hx hb d_W_trailAsSet_29 rfl (lv_at hl 1 rfl) ?_
        exact ro_lret hx hb hr hlocks hS (by rw [ho, show i = tl by omega]) d_W_trailAsSet_30
      · refine lv_lload_n hx hb d_W_trailAsSet_12 rfl (lv_at hl 1 rfl) ?_
        refine lv_lconst (v := lN 1) hx hb d_W_trailAsSet_13 (by decide) ?_
        refine lv_aload_n hx hb d_W_trailAsSet_14 rfl (lv_at hl 0 rfl) ?_
        refine va_get (D := (dC, dI)) (ci := 1) (v := .ref rA) (C := R_W) (T := F_W) (N := 5) hx hb hts iW hown hK hP 0 rfl rfl 2 (by decide) (hts _ (List.mem_cons_of_mem _ wk_W_15)) (fun _ h9 => h9) rfl d_W_trailAsSet_15 ?_
        refine lv_iload_n hx hb d_W_trailAsSet_18 rfl (lv_at hl 2 rfl) ?_
        refine nr_iald hx hb hK hP 1 0 rfl rfl (by omega) (by decide) d_W_trailAsSet_19 ?_
        refine lv_lshl hx hb d_W_trailAsSet_20 rfl ?_
        refine nr_asL (v := nb_p (tr i)) rfl ?_
        refine lv_lor hx hb d_W_trailAsSet_21 ?_
        refine lv_lstore_n (lv' := [(1, .long (sx ||| (nb_p (tr i)))), (0, .ref wy), (3, .int (nI i))]) hx hb d_W_trailAsSet_22 rfl hl (by decide) rfl (fun ls hl => ?_)
        refine lv_iinc (v := (nI (i + 1))) (lv' := [(3, .int (nI (i + 1))), (1, .long (sx ||| (nb_p (tr i)))), (0, .ref wy)]) hx hb d_W_trailAsSet_23 hl (k := 2) rfl (nI_1 i) (by decide) rfl (fun ls hl => ?_)
        refine lv_goto (tgt := 4) hx hb d_W_trailAsSet_26 (by decide) ?_
        exact ih_4 (i + 1) (sx ||| (nb_p (tr i))) (by omega) (by subst ho; rfl) (by omega) _ _ hP hS ls (lv_sub hl [2, 1, 0] rfl)
  exact lp_4 (tl - 0 + 1) 0 (lN 0) (by omega) rfl (Nat.lt_succ_self _) _ _ hP hS ls (lv_sub hl [2, 1, 0] rfl)
set_option maxHeartbeats 4000000 in
set_option maxRecDepth 100000 in
theorem c_W_trailEdge (l : Launch) (dC : Nat → ClassId) (dI : Nat → Nat → Nat) (cI cL : ClassId) (wy g cA rA : Nat) (mv : Int32) (tl : Nat) (tr : Nat → Nat) (a : Int32) (b : Bool) (htl : tl ≤ 20) : Met l y_W_trailEdge w_W_trailEdge ({ frames := 0, cells := 0, slots := 0, locals := 0 } : Room) (va_Pc [.ref wy, .int a, .int (nb_i b)] (ro_B (dC, dI) classes [(cI, .int), (cL, .long)] [cg_W wy g cA rA mv tl, cg_N rA cI 20 tr])) (ro_Qi (ng_te tl tr a b)) 0 0 ro_A := by
  refine Met.ofW (cc := b_W_trailEdge) (maxL := 3) (ret := (some .int)) (by decide) rfl ?_
  intro p e s m args below meth c s₁ B hml hv
  obtain ⟨rfl, hP, hK⟩ := hv
  have hx := B.exec
  have hb := B.bytes
  have hr := B.returns
  have hts := atoms_spec (ws := w_W_trailEdge) B.pre
  have hown : s.vm.findClass R_W = some m.cls := findClass_of_methodNamed B.named
  have hlocks := B.notSynchronized
  have iW : ∀ w ∈ w_W, w ∈ w_W_trailEdge := fun w h => List.mem_cons_of_mem _ (i_W w h)
  have hS : va_S ro_A s.heap s.heap [] := va_S.rf
  have hP : va_P (dC, dI) classes [cg_W wy g cA rA mv tl, cg_N rA cI 20 tr] s.heap := hP
  have hl := lv_entry ([.ref wy, .int a, .int (nb_i b)]) (n := 3) (Nat.le_of_ble_eq_true rfl)
  rw [lg_entry_eq]
  generalize (lg_sl ([.ref wy, .int a, .int (nb_i b)]) ++ List.replicate (3 - (lg_sl ([.ref wy, .int a, .int (nb_i b)])).length) Slot.unset).toArray = ls at hl ⊢
  have hl : lv_has ls 3 [(0, .ref wy), (1, .int a), (2, .int (nb_i b))] := hl
  refine lv_iload_n hx hb d_W_trailEdge_0 rfl (lv_at hl 1 rfl) ?_
  refine lv_if_lt (tgt := 12) hx hb d_W_trailEdge_1 (by decide) (fun c_1 => ?_) (fun c_1 => ?_)
  · refine lv_iconst (v := -1) hx hb d_W_trailEdge_12 (by decide) ?_
    exact ro_iret hx hb hr hlocks hS (by simp [ng_te, nb_in, *]) d_W_trailEdge_13
  · refine lv_iload_n hx hb d_W_trailEdge_4 rfl (lv_at hl 1 rfl) ?_
    refine lv_aload_n hx hb d_W_trailEdge_5 rfl (lv_at hl 0 rfl) ?_
    refine va_get (D := (dC, dI)) (ci := 1) (v := .int (nI tl)) (C := R_W) (T := F_W) (N := 5) hx hb hts iW hown hK hP 0 rfl rfl 4 (by decide) (hts _ (List.mem_cons_of_mem _ wk_W_23)) (fun _ h9 => h9) rfl d_W_trailEdge_6 ?_
    refine lv_icmp_lt (tgt := 14) hx hb d_W_trailEdge_9 (by decide) (fun c_9 => ?_) (fun c_9 => ?_)
    · obtain ⟨ja, hja, rfl⟩ := nb_inI_of (n := tl) (by omega) (nb_inI_t c_1 (fun q => Int32.not_lt.mpr q c_9))
      have eja := nI_clamp (n := ja) (by omega)
      have hin : nb_in tl (nI ja) = true := by rw [nb_inI_nI (by omega) (by omega)]; simp [hja]
      refine lv_iload_n hx hb d_W_trailEdge_14 rfl (lv_at hl 2 rfl) ?_
      refine nr_ifeqB (tgt := 34) hx hb d_W_trailEdge_15 (by decide) (fun c_15 => ?_) (fun c_15 => ?_)
      · refine lv_aload_n hx hb d_W_trailEdge_34 rfl (lv_at hl 0 rfl) ?_
        refine va_get (D := (dC, dI)) (ci := 1) (v := .ref rA) (C := R_W) (T := F_W) (N := 5) hx hb hts iW hown hK hP 0 rfl rfl 2 (by decide) (hts _ (List.mem_cons_of_mem _ wk_W_15)) (fun _ h9 => h9) rfl d_W_trailEdge_35 ?_
        refine lv_iload_n hx hb d_W_trailEdge_38 rfl (lv_at hl 1 rfl) ?_
        refine nr_iald hx hb hK hP 1 0 rfl rfl (by omega) (by decide) d_W_trailEdge_39 ?_
        exact ro_iret hx hb hr hlocks hS (by simp [ng_te, *]) d_W_trailEdge_40
      · refine lv_aload_n hx hb d_W_trailEdge_18 rfl (lv_at hl 0 rfl) ?_
        refine va_get (D := (dC, dI)) (ci := 1) (v := .ref rA) (C := R_W) (T := F_W) (N := 5) hx hb hts iW hown hK hP 0 rfl rfl 2 (by decide) (hts _ (List.mem_cons_of_mem _ wk_W_15)) (fun _ h9 => h9) rfl d_W_trailEdge_19 ?_
        refine lv_aload_n hx hb d_W_trailEdge_22 rfl (lv_at hl 0 rfl) ?_
        refine va_get (D := (dC, dI)) (ci := 1) (v := .int (nI tl)) (C := R_W) (T := F_W) (N := 5) hx hb hts iW hown hK hP 0 rfl rfl 4 (by decide) (hts _ (List.mem_cons_of_mem _ wk_W_23)) (fun _ h9 => h9) rfl d_W_trailEdge_23 ?_
        refine lv_iconst (v := nI 1) hx hb d_W_trailEdge_26 (by decide) ?_
        refine nr_isub (by omega) hx hb d_W_trailEdge_27 ?_
        refine lv_iload_n hx hb d_W_trailEdge_28 rfl (lv_at hl 1 rfl) ?_
        refine nr_isub (by omega) hx hb d_W_trailEdge_29 ?_
        refine nr_iald hx hb hK hP 1 0 rfl rfl (by omega) (by decide) d_W_trailEdge_30 ?_
        refine lv_goto (tgt := 40) hx hb d_W_trailEdge_31 (by decide) ?_
        exact ro_iret hx hb hr hlocks hS (by simp [ng_te, *]) d_W_trailEdge_40
    · refine lv_iconst (v := -1) hx hb d_W_trailEdge_12 (by decide) ?_
      exact ro_iret hx hb hr hlocks hS (by simp [ng_te, nb_in, *]) d_W_trailEdge_13
set_option maxHeartbeats 4000000 in
set_option maxRecDepth 100000 in
theorem c_W_trace (l : Launch) (dC : Nat → ClassId) (dI : Nat → Nat → Nat) (cI cL : ClassId) (g tA oA uA wA sA np ne : Nat) (bd : Int32) (er : Int64) (vr : Nat) (wy cA rA : Nat) (mv : Int32) (tl : Nat) (oe ot wt ct tr : Nat → Nat) (a b : Nat) (ha : a < 20) (hb1 : b < 20) (hne : ne ≤ 60) (hE : ∀ i, i < ne → oe i < 20 ∧ ot i < 20) (hW : ∀ i, i < ne → ng_w er wt i ≤ 1000000) (hct : ∀ i, i < 400 → ct i ≤ dm_FAR) : Met l y_W_trace w_W_trace ({ frames := 3, cells := 0, slots := 0, locals := 66 } : Room) (va_Pc [.ref wy, .int (nI a), .int (nI b)] (rw_B (dC, dI) classes [(cI, .int), (cL, .long)] [cg_G g tA oA uA wA sA np ne bd er vr, cg_N oA cI 60 oe, cg_N uA cI 60 ot, cg_N wA cI 60 wt, cg_W wy g cA rA mv tl, cg_L cA cL 400 ct, cg_N rA cI 20 tr])) (rw_Qv (dC, dI) classes (rw_A [cg_G g tA oA uA wA sA np ne bd er vr, cg_N oA cI 60 oe, cg_N uA cI 60 ot, cg_N wA cI 60 wt, cg_W wy g cA rA mv tl, cg_L cA cL 400 ct, cg_N rA cI 20 tr]) (fun (u : (Nat → Nat)) => (∀ i, i < (ng_path (ng_nxt bd er oe ot wt ct ne (max a b)) (max a b) 20 (min a b)).length → (ng_path (ng_nxt bd er oe ot wt ct ne (max a b)) (max a b) 20 (min a b))[i]? = some (u i)) ∧ (ng_path (ng_nxt bd er oe ot wt ct ne (max a b)) (max a b) 20 (min a b)).length ≤ 20) (fun u => [cg_G g tA oA uA wA sA np ne bd er vr, cg_N oA cI 60 oe, cg_N uA cI 60 ot, cg_N wA cI 60 wt, cg_W wy g cA rA mv ((ng_path (ng_nxt bd er oe ot wt ct ne (max a b)) (max a b) 20 (min a b)).length), cg_L cA cL 400 ct, cg_N rA cI 20 u])) 0 0 (rw_A [cg_G g tA oA uA wA sA np ne bd er vr, cg_N oA cI 60 oe, cg_N uA cI 60 ot, cg_N wA cI 60 wt, cg_W wy g cA rA mv tl, cg_L cA cL 400 ct, cg_N rA cI 20 tr]) := by
  refine Met.ofW (cc := b_W_trace) (maxL := 6) (ret := none) (by decide) rfl ?_
  intro p e s m args below meth c s₁ B hml hv
  obtain ⟨rfl, hP, hK, hD0⟩ := hv
  have hx := B.exec
  have hb := B.bytes
  have hr := B.returns
  have hts := atoms_spec (ws := w_W_trace) B.pre
  have hown : s.vm.findClass R_W = some m.cls := findClass_of_methodNamed B.named
  have hlocks := B.notSynchronized
  have iW : ∀ w ∈ w_W, w ∈ w_W_trace := fun w h => List.mem_cons_of_mem _ (i_W w h)
  have hD := rw_own hD0
  generalize hAe : rw_A [cg_G g tA oA uA wA sA np ne bd er vr, cg_N oA cI 60 oe, cg_N uA cI 60 ot, cg_N wA cI 60 wt, cg_W wy g cA rA mv tl, cg_L cA cL 400 ct, cg_N rA cI 20 tr] = A at hD ⊢
  have hS : va_S A s.heap s.heap [] := va_S.rf
  have hP : va_P (dC, dI) classes [cg_G g tA oA uA wA sA np ne bd er vr, cg_N oA cI 60 oe, cg_N uA cI 60 ot, cg_N wA cI 60 wt, cg_W wy g cA rA mv tl, cg_L cA cL 400 ct, cg_N rA cI 20 tr] s.heap := hP
  have hl := lv_entry ([.ref wy, .int (nI a), .int (nI b)]) (n := 6) (Nat.le_of_ble_eq_true rfl)
  rw [lg_entry_eq]
  generalize (lg_sl ([.ref wy, .int (nI a), .int (nI b)]) ++ List.replicate (6 - (lg_sl ([.ref wy, .int (nI a), .int (nI b)])).length) Slot.unset).toArray = ls at hl ⊢
  have hl : lv_has ls 6 [(0, .ref wy), (1, .int (nI a)), (2, .int (nI b))] := hl
  have hmi : min a b < 20 := by omega
  have hma : max a b < 20 := by omega
  obtain ⟨z, hz⟩ : ∃ z, z = max a b := ⟨_, rfl⟩
  obtain ⟨h0, hh0⟩ : ∃ h, h = min a b := ⟨_, rfl⟩
  refine lv_iload_n hx hb d_W_trace_0 rfl (lv_at hl 1 rfl) ?_
  refine lv_iload_n hx hb d_W_trace_1 rfl (lv_at hl 2 rfl) ?_
  refine va_mmin hx hb (by rw [hml]; exact hl.1.symm) hown (hts (.methodLink R_W 74 Lib.Math.min.name) (by decide +kernel)) (hts (.static Lib.Math.min.name) (by decide +kernel)) (hts (.initialized "java/lang/Math") (by decide +kernel)) (hts (.code Lib.Math.min.name Lib.Math.min.code 2 (some .int)) (by decide +kernel)) (Nat.le_of_ble_eq_true rfl) (Nat.le_of_ble_eq_true rfl) (Nat.zero_le _) (Nat.zero_le _) d_W_trace_2 ?_
  refine nr_as (v := nI (min a b)) (ng_min (by omega) (by omega)) ?_
  refine lv_istore_n (lv' := [(3, .int (nI (min a b))), (0, .ref wy), (1, .int (nI a)), (2, .int (nI b))]) hx hb d_W_trace_5 rfl hl (by decide) rfl (fun ls hl => ?_)
  refine lv_iload_n hx hb d_W_trace_6 rfl (lv_at hl 2 rfl) ?_
  refine lv_iload_n hx hb d_W_trace_7 rfl (lv_at hl 3 rfl) ?_
  refine va_mmax hx hb (by rw [hml]; exact hl.1.symm) hown (hts (.methodLink R_W 79 Lib.Math.max.name) (by decide +kernel)) (hts (.static Lib.Math.max.name) (by decide +kernel)) (hts (.initialized "java/lang/Math") (by decide +kernel)) (hts (.code Lib.Math.max.name Lib.Math.max.code 2 (some .int)) (by decide +kernel)) (Nat.le_of_ble_eq_true rfl) (Nat.le_of_ble_eq_true rfl) (Nat.zero_le _) (Nat.zero_le _) d_W_trace_8 ?_
  refine nr_as (v := nI (max a b)) (ng_max (by omega) (by omega)) ?_
  refine lv_istore (lv' := [(4, .int (nI (max a b))), (3, .int (nI (min a b))), (0, .ref wy), (1, .int (nI a)), (2, .int (nI b))]) hx hb d_W_trace_11 hl (by decide) rfl (fun ls hl => ?_)
  refine lv_aload_n hx hb d_W_trace_13 rfl (lv_at hl 2 rfl) ?_
  refine lv_iconst (v := nI 0) hx hb d_W_trace_14 (by decide) ?_
  refine va_put (D := (dC, dI)) (ci := 1) (v := .int (nI 0)) (ty := .int) (C := R_W) (T := F_W) (N := 5) hx hb hts iW t_W t_W_ok n_W hown hK hP hD hS 4 rfl rfl 4 (by decide) (hts _ (List.mem_cons_of_mem _ wk_W_23)) (fun _ h9 => h9) rfl (by decide +kernel) rfl rfl (Nat.le_of_ble_eq_true rfl) d_W_trace_15 (fun H locs hP hD hS => ?_)
  have hP : va_P (dC, dI) classes [cg_G g tA oA uA wA sA np ne bd er vr, cg_N oA cI 60 oe, cg_N uA cI 60 ot, cg_N wA cI 60 wt, cg_W wy g cA rA mv 0, cg_L cA cL 400 ct, cg_N rA cI 20 tr] H := hP
  have hD : va_D A [cg_G g tA oA uA wA sA np ne bd er vr, cg_N oA cI 60 oe, cg_N uA cI 60 ot, cg_N wA cI 60 wt, cg_W wy g cA rA mv 0, cg_L cA cL 400 ct, cg_N rA cI 20 tr] := hD
  have lp_18 : ∀ (n : Nat) (h n0 : Nat) (tr1 : Nat → Nat), (n0 ≤ 20) → (h < 20) → ((ng_path (ng_nxt bd er oe ot wt ct ne (max a b)) (max a b) 20 (min a b)).drop n0 = ng_path (ng_nxt bd er oe ot wt ct ne (max a b)) (max a b) (20 - n0) h) → (n0 ≤ (ng_path (ng_nxt bd er oe ot wt ct ne (max a b)) (max a b) 20 (min a b)).length) → (∀ i, i < n0 → (ng_path (ng_nxt bd er oe ot wt ct ne (max a b)) (max a b) 20 (min a b))[i]? = some (tr1 i)) → 20 - n0 < n → ∀ (H : Heap) (locs : List Loc), va_P (dC, dI) classes [cg_G g tA oA uA wA sA np ne bd er vr, cg_N oA cI 60 oe, cg_N uA cI 60 ot, cg_N wA cI 60 wt, cg_W wy g cA rA mv n0, cg_L cA cL 400 ct, cg_N rA cI 20 tr1] H → va_D A [cg_G g tA oA uA wA sA np ne bd er vr, cg_N oA cI 60 oe, cg_N uA cI 60 ot, cg_N wA cI 60 wt, cg_W wy g cA rA mv n0, cg_L cA cL 400 ct, cg_N rA cI 20 tr1] → va_S A s.heap H locs → ∀ (ls : Array Slot), lv_has ls 6 [(0, .ref wy), (1, .int (nI a)), (2, .int (nI b)), (3, .int (nI h)), (4, .int (nI (max a b)))] → W p l e (headSpec w_W_trace ({ frames := 3, cells := 0, slots := 0, locals := 66 } : Room)).room s m ([.ref wy, .int (nI a), .int (nI b)] : List Value).toArray below meth c H locs 0 0 (MQ below (rw_Qv (dC, dI) classes A (fun (u : (Nat → Nat)) => (∀ i, i < (ng_path (ng_nxt bd er oe ot wt ct ne (max a b)) (max a b) 20 (min a b)).length → (ng_path (ng_nxt bd er oe ot wt ct ne (max a b)) (max a b) 20 (min a b))[i]? = some (u i)) ∧ (ng_path (ng_nxt bd er oe ot wt ct ne (max a b)) (max a b) 20 (min a b)).length ≤ 20) (fun u => [cg_G g tA oA uA wA sA np ne bd er vr, cg_N oA cI 60 oe, cg_N uA cI 60 ot, cg_N wA cI 60 wt, cg_W wy g cA rA mv ((ng_path (ng_nxt bd er oe ot wt ct ne (max a b)) (max a b) 20 (min a b)).length), cg_L cA cL 400 ct, cg_N rA cI 20 u])) ([.ref wy, .int (nI a), .int (nI b)] : List Value).toArray s 0 0 A) (F0 m 18 ls []) := by
    intro n
    induction n with
    | zero => intro h n0 tr1 hn0 hh hd hln ht hme; exact absurd hme (Nat.not_lt_zero _)
    | succ n ih =>
      intro h n0 tr1 hn0 hh hd hln ht hme H locs hP hD hS ls hl
      have ih_18 := ih
      refine lv_iload_n hx hb d_W_trace_18 rfl (lv_at hl 3 rfl) ?_
      refine lv_iload hx hb d_W_trace_19 (lv_at hl 4 rfl) ?_
      refine nr_icmp_eq (by omega) (by omega) (tgt := 84) hx hb d_W_trace_21 (by decide) (fun c_21 => ?_) (fun c_21 => ?_)
      · subst c_21
        have e9 := ng_dropl (hd.trans ng_path_z) hln
        rw [e9]
        exact rw_vret tr1 hx hb hr hlocks hS hP (⟨fun i hi => ht i hi, hn0⟩) d_W_trace_84
      · refine lv_aload_n hx hb d_W_trace_24 rfl (lv_at hl 0 rfl) ?_
        refine va_get (D := (dC, dI)) (ci := 1) (v := .int (nI n0)) (C := R_W) (T := F_W) (N := 5) hx hb hts iW hown hK hP 4 rfl rfl 4 (by decide) (hts _ (List.mem_cons_of_mem _ wk_W_23)) (fun _ h9 => h9) rfl d_W_trace_25 ?_
        refine lv_bipush (v := nI 20) hx hb d_W_trace_28 (by decide) ?_
        refine nr_icmp_ge (by omega) (by omega) (tgt := 84) hx hb d_W_trace_30 (by decide) (fun c_30 => ?_) (fun c_30 => ?_)
        · have e9 := ng_dropl (hd.trans (ng_path_0 (by omega))) hln
          rw [e9]
          exact rw_vret tr1 hx hb hr hlocks hS hP (⟨fun i hi => ht i hi, hn0⟩) d_W_trace_84
        · refine lv_aload_n hx hb d_W_trace_33 rfl (lv_at hl 0 rfl) ?_
          refine lv_iload_n hx hb d_W_trace_34 rfl (lv_at hl 3 rfl) ?_
          refine lv_iload hx hb d_W_trace_35 (lv_at hl 4 rfl) ?_
          refine ro_Vi (As := [.int (nI h), .int (nI (max a b))]) (rest := []) ⟨hx, hb, hml, hown, hts⟩ (c_W_firstEdgeTowards l dC dI cI cL g tA oA uA wA sA np ne bd er vr wy cA rA mv n0 oe ot wt ct h (max a b) (by omega) (by omega) (by omega) (by omega) (by omega) (by omega)) (cwV 2 hts (wg_V wk_W_82 wm_W_firstEdgeTowards we_W_firstEdgeTowards wi_W wc_W_firstEdgeTowards) rfl rfl rfl (by decide +kernel) ⟨Nat.le_of_ble_eq_true rfl, Nat.le_of_ble_eq_true rfl⟩) hK (hP.sub [0, 1, 2, 3, 4, 5] rfl) (q0 := 4) rfl rfl rfl rfl hl.1 rfl (lv_room (Nat.le_of_ble_eq_true rfl)) d_W_trace_37 ⟨Nat.zero_le _, Nat.zero_le _⟩ hS hP (fun H locs hP hS => ?_)
          rcases hfe : ng_fst (ng_ok bd er oe ot wt ct h (max a b)) ne 0 with _ | k
          · refine nr_as (v := -1) rfl ?_
            have hnn : (ng_nxt bd er oe ot wt ct ne (max a b)) h = none := by simp [ng_nxt, hfe]
            have e9 := ng_dropl (hd.trans (ng_path_n hnn)) hln
            refine lv_istore (lv' := [(5, .int (-1)), (0, .ref wy), (1, .int (nI a)), (2, .int (nI b)), (3, .int (nI h)), (4, .int (nI (max a b)))]) hx hb d_W_trace_40 hl (by decide) rfl (fun ls hl => ?_)
            refine lv_iload hx hb d_W_trace_42 (lv_at hl 0 rfl) ?_
            refine lv_iconst (v := -1) hx hb d_W_trace_44 (by decide) ?_
            refine lv_icmp_ne (tgt := 49) hx hb d_W_trace_45 (by decide) (fun c => absurd rfl c) (fun c_45 => ?_)
            rw [e9]
            exact rw_vret tr1 hx hb hr hlocks hS hP (⟨fun i hi => ht i hi, hn0⟩) d_W_trace_48
          · refine nr_as (v := nI k) rfl ?_
            obtain ⟨hok, hk2, -⟩ := ng_fst_ok hfe
            have hkn : k < ne := by omega
            obtain ⟨y, hnx, -, -⟩ := ng_ok_some hok
            have hy := ng_nx_lt hnx (hE k hkn).1 (hE k hkn).2
            have hEk := hE k hkn
            have hnn : (ng_nxt bd er oe ot wt ct ne (max a b)) h = some (k, y) := by simp [ng_nxt, hfe, hnx]
            obtain ⟨hd1, hd2, hln2⟩ := ng_dropc (hd.trans (ng_path_s c_21 c_30 hnn))
            have ht2 := ng_trs hd1 ht
            refine lv_istore (lv' := [(5, .int (nI k)), (0, .ref wy), (1, .int (nI a)), (2, .int (nI b)), (3, .int (nI h)), (4, .int (nI (max a b)))]) hx hb d_W_trace_40 hl (by decide) rfl (fun ls hl => ?_)
            refine lv_iload hx hb d_W_trace_42 (lv_at hl 0 rfl) ?_
            refine lv_iconst (v := -1) hx hb d_W_trace_44 (by decide) ?_
            refine lv_icmp_ne (tgt := 49) hx hb d_W_trace_45 (by decide) (fun c_45 => ?_) (fun c => absurd c (ng_nm1 (by omega)))
            refine lv_aload_n hx hb d_W_trace_49 rfl (lv_at hl 1 rfl) ?_
            refine va_get (D := (dC, dI)) (ci := 1) (v := .ref rA) (C := R_W) (T := F_W) (N := 5) hx hb hts iW hown hK hP 4 rfl rfl 2 (by decide) (hts _ (List.mem_cons_of_mem _ wk_W_15)) (fun _ h9 => h9) rfl d_W_trace_50 ?_
            refine lv_aload_n hx hb d_W_trace_53 rfl (lv_at hl 1 rfl) ?_
            refine va_get (D := (dC, dI)) (ci := 1) (v := .int (nI n0)) (C := R_W) (T := F_W) (N := 5) hx hb hts iW hown hK hP 4 rfl rfl 4 (by decide) (hts _ (List.mem_cons_of_mem _ wk_W_23)) (fun _ h9 => h9) rfl d_W_trace_54 ?_
            refine lv_iload hx hb d_W_trace_57 (lv_at hl 0 rfl) ?_
            refine nr_iast hx hb hK hP hD hS 6 0 rfl rfl (by omega) (by decide) d_W_trace_59 (fun H locs hP hD hS => ?_)
            have hP : va_P (dC, dI) classes [cg_G g tA oA uA wA sA np ne bd er vr, cg_N oA cI 60 oe, cg_N uA cI 60 ot, cg_N wA cI 60 wt, cg_W wy g cA rA mv n0, cg_L cA cL 400 ct, cg_N rA cI 20 (va_up tr1 n0 k)] H := hP
            have hD : va_D A [cg_G g tA oA uA wA sA np ne bd er vr, cg_N oA cI 60 oe, cg_N uA cI 60 ot, cg_N wA cI 60 wt, cg_W wy g cA rA mv n0, cg_L cA cL 400 ct, cg_N rA cI 20 (va_up tr1 n0 k)] := hD
            refine lv_aload_n hx hb d_W_trace_60 rfl (lv_at hl 1 rfl) ?_
            refine lv_dup hx hb d_W_trace_61 rfl ?_
            refine va_get (D := (dC, dI)) (ci := 1) (v := .int (nI n0)) (C := R_W) (T := F_W) (N := 5) hx hb hts iW hown hK hP 4 rfl rfl 4 (by decide) (hts _ (List.mem_cons_of_mem _ wk_W_23)) (fun _ h9 => h9) rfl d_W_trace_62 ?_
            refine lv_iconst (v := nI 1) hx hb d_W_trace_65 (by decide) ?_
            refine nr_iadd hx hb d_W_trace_66 ?_
            refine va_put (D := (dC, dI)) (ci := 1) (v := .int (nI (n0 + 1))) (ty := .int) (C := R_W) (T := F_W) (N := 5) hx hb hts iW t_W t_W_ok n_W hown hK hP hD hS 4 rfl rfl 4 (by decide) (hts _ (List.mem_cons_of_mem _ wk_W_23)) (fun _ h9 => h9) rfl (by decide +kernel) rfl rfl (Nat.le_of_ble_eq_true rfl) d_W_trace_67 (fun H locs hP hD hS => ?_)
            have hP : va_P (dC, dI) classes [cg_G g tA oA uA wA sA np ne bd er vr, cg_N oA cI 60 oe, cg_N uA cI 60 ot, cg_N wA cI 60 wt, cg_W wy g cA rA mv (n0 + 1), cg_L cA cL 400 ct, cg_N rA cI 20 (va_up tr1 n0 k)] H := hP
            have hD : va_D A [cg_G g tA oA uA wA sA np ne bd er vr, cg_N oA cI 60 oe, cg_N uA cI 60 ot, cg_N wA cI 60 wt, cg_W wy g cA rA mv (n0 + 1), cg_L cA cL 400 ct, cg_N rA cI 20 (va_up tr1 n0 k)] := hD
            refine lv_aload_n hx hb d_W_trace_70 rfl (lv_at hl 1 rfl) ?_
            refine va_get (D := (dC, dI)) (ci := 1) (v := .ref g) (C := R_W) (T := F_W) (N := 5) hx hb hts iW hown hK hP 4 rfl rfl 0 (by decide) (hts _ (List.mem_cons_of_mem _ wk_W_26)) (fun _ h9 => h9) rfl d_W_trace_71 ?_
            refine lv_iload hx hb d_W_trace_74 (lv_at hl 0 rfl) ?_
            refine lv_iload_n hx hb d_W_trace_76 rfl (lv_at hl 4 rfl) ?_
            refine ro_Vi (As := [.int (nI k), .int (nI h)]) (rest := []) ⟨hx, hb, hml, hown, hts⟩ (c_G_endBeyond l dC dI cI cL g tA oA uA wA sA np ne bd er vr oe ot k h (by omega) (by omega) (by omega) (by omega)) (cwV 2 hts (wg_V wk_W_85 wm_G_endBeyond we_G_endBeyond wi_G wc_G_endBeyond) rfl rfl rfl (by decide +kernel) ⟨Nat.le_of_ble_eq_true rfl, Nat.le_of_ble_eq_true rfl⟩) hK (hP.sub [0, 1, 2] rfl) (q0 := 0) rfl rfl rfl rfl hl.1 rfl (lv_room (Nat.le_of_ble_eq_true rfl)) d_W_trace_77 ⟨Nat.zero_le _, Nat.zero_le _⟩ hS hP (fun H locs hP hS => ?_)
            rw [hnx]
            refine nr_as (v := nI y) rfl ?_
            refine lv_istore_n (lv' := [(3, .int (nI y)), (5, .int (nI k)), (0, .ref wy), (1, .int (nI a)), (2, .int (nI b)), (4, .int (nI (max a b)))]) hx hb d_W_trace_80 rfl hl (by decide) rfl (fun ls hl => ?_)
            refine lv_goto (tgt := 18) hx hb d_W_trace_81 (by decide) ?_
            exact ih_18 y (n0 + 1) (va_up tr1 n0 k) (by omega) hy hd2 hln2 ht2 (by omega) _ _ hP hD hS ls (lv_sub hl [2, 3, 4, 0, 5] rfl)
  exact lp_18 (20 - 0 + 1) (min a b) 0 tr (Nat.zero_le _) hmi rfl (Nat.zero_le _) (fun i h => absurd h (Nat.not_lt_zero _)) (Nat.lt_succ_self _) _ _ hP hD hS ls (lv_sub hl [2, 3, 4, 1, 0] rfl)
