/-! THE CLAIM OUT OF ONE WALK OF THE LAW'S BODY. Your part is whole_start (and what it stands on); all else here is the same for every law, but numbers. -/
def R_law : String := "PairDecoderLaw"
def lw_P (b : Addr) (xs : List Int32) (args : Array Value) (s : State) : Prop := args = #[.ref b] ∧ s.IntsAt b xs ∧ xs.length ≤ 2560 ∧ (Jvm.Cond.and given_1 narrow_1).before args s = true
def lw_Q (_ : Array Value) (s : State) (o : Outcome) (t : State) : Prop := o = .returned (some (.int 1)) ∧ Framed s o t [] 1068 11794
def lw_Z (below : List Frame) (a : Array Value) (s : State) : State → Prop := fun t => ∃ o, t.status = .running ∧ Ended t below o ∧ lw_Q a s o t
/-- the law's own end, with 1 on the stack, nothing written that was there before, its room as the claim has it -/
theorem lw_ret {p : Program} {l : Launch} {e : Env} {s : State} {m : MethodId} {below : List Frame} {meth : Method} {c : Code} {b : Nat} (hx : p.tables.exec = Jvm.exec) (hb : c.code = code) (hr : meth.sig.returnType = ret) (hlocks : meth.locks = false) {pc : Nat} {H : Heap} {ls : Array Slot} (hdg : decode code pc = .ok (.ireturn, 1)) : W p l e room_1 s m #[Value.ref b] below meth c H [] 1068 11794 (lw_Z below #[Value.ref b] s) (F0 m pc ls [.int 1]) := by
  intro T hT X
  obtain ⟨fs, hret, hrun, hended, hW, hframe⟩ := X.leave (v := some (.int 1)) (hlocks := hlocks) (fun h => by rw [hr] at h; cases h)
  have hmeth' : T.vm.method? m = some meth := X.method'
  refine ⟨T.setFrames fs, ?_, .returned (some (.int 1)), hrun, hended, rfl, ⟨_, rfl⟩, hW, hframe⟩
  jvm_step X.here [X.here.top, hx, hb, hdg, hmeth', hr, ret, narrow_b1]
  (try refine ⟨rfl, ?_⟩); (try refine ⟨rfl, ?_⟩)
  first | (intro acts; rw [hret _ acts rfl rfl rfl]) | rw [hret _ _ rfl rfl rfl]
  exact Steps.refl _
/-- what holds at the law's entry: the machine, the code, the tables' words (any of lw_tbl by 'hts w (by decide +kernel)'), the script of L ints xs at the cell b, what the Statement gives of the start (any of its parts by flat_of_before) -/
def lw_At (p : Program) (s : State) (m : MethodId) (meth : Method) (c : Code) (b L : Nat) (xs : Nat → Int32) : Prop :=
  p.tables.exec = Jvm.exec ∧ c.code = code ∧ meth.sig.returnType = ret ∧ c.maxLocals = 7 ∧ s.vm.findClass R_law = some m.cls ∧ (∀ w ∈ lw_tbl, w.before #[Value.ref b] s = true) ∧ va_X b L xs s s.heap ∧ b < s.heap.size ∧ meth.locks = false ∧ (Jvm.Cond.and given_1 narrow_1).before #[Value.ref b] s = true
theorem ls_up {v : Nat} {S : ls_S} (J : ls_JS v S) : ls_JS (v + 2) S := by
  obtain ⟨np, ne, bd, er, vr, fi, kp, mv, tl, rl, sz, fw, fk, od, tm, oe, ot, wt, sg, ct, tr, row, pw, lw, lc, le, ho, nr, ou, th, ll, mn, bw, bs, wv, ib, ie, wo, eo, co, bo, pr, be, la, li, fs, td, po, pt, al, wz⟩ := S
  have J : ls_J v np ne bd er vr fi mv tl sz bw tm oe ot wt ct pw lw le ho ib ie co po pt := J
  exact J.up (Nat.le_add_right _ _)
theorem ls_WD {cI cL cZ : ClassId} {pd dm oB : Nat} {a : ls_A} {S S2 : ls_S} {A : Nat → Prop} (h : va_D A (ls_W cI cL cZ pd dm oB a S)) : va_D A (ls_W cI cL cZ pd dm oB a S2) := by
  obtain ⟨g, wy, mt, fo, tA, oA, uA, wA, sA, cA, rA, xA, nA, pA, qA, kA, lA, hA, iD, tD, oD, uD, wD, sD, eD, vD, yD, lD, xD, cD, zD, pD, bD, fD, gD, qD, rD, aD, kD⟩ := a
  obtain ⟨np, ne, bd, er, vr, fi, kp, mv, tl, rl, sz, fw, fk, od, tm, oe, ot, wt, sg, ct, tr, row, pw, lw, lc, le, ho, nr, ou, th, ll, mn, bw, bs, wv, ib, ie, wo, eo, co, bo, pr, be, la, li, fs, td, po, pt, al, wz⟩ := S
  obtain ⟨np_2, ne_2, bd_2, er_2, vr_2, fi_2, kp_2, mv_2, tl_2, rl_2, sz_2, fw_2, fk_2, od_2, tm_2, oe_2, ot_2, wt_2, sg_2, ct_2, tr_2, row_2, pw_2, lw_2, lc_2, le_2, ho_2, nr_2, ou_2, th_2, ll_2, mn_2, bw_2, bs_2, wv_2, ib_2, ie_2, wo_2, eo_2, co_2, bo_2, pr_2, be_2, la_2, li_2, fs_2, td_2, po_2, pt_2, al_2, wz_2⟩ := S2
  exact rw_re h rfl
theorem ls_gt {L i : Nat} (hL : L ≤ 2560) (hi : i ≤ 2565) : nI L - nI 5 < nI i ↔ L < i + 5 := by
  rw [Int32.lt_iff_toInt_lt, Int32.toInt_sub, nI_toInt (by omega), nI_toInt (by omega), nI_toInt (by omega), Int.bmod_def]
  split <;> omega
set_option maxHeartbeats 4000000 in
set_option maxRecDepth 100000 in
theorem lw_loop {p : Program} {l : Launch} {e : Env} {s : State} {m : MethodId} {below : List Frame} {meth : Method} {c : Code} {b L : Nat} {xs : Nat → Int32} {dC : Nat → ClassId} {dI : Nat → Nat → Nat} {cI cL cZ : ClassId} {A : Nat → Prop} (C : lx_C p l s m c b L xs dC dI cI cL cZ A) (hA : ∀ q : Nat, A q → s.heap.size ≤ q) (hr : meth.sig.returnType = ret) (hlocks : meth.locks = false) {pd dm oB : Nat} (a : ls_A) :
    ∀ (n : Nat) (S : ls_S) (v i cells slots : Nat) (H : Heap) (locs : List Loc) (ls : Array Slot), L - i < n → i ≤ 2565 → ls_JS v S → 5 * cells + (L - i) ≤ 5340 → 5 * slots + 6 * (L - i) ≤ 58970 → 5 * v + 2 * (L - i) ≤ 9950 → va_P (dC, dI) classes (ls_W cI cL cZ pd dm oB a S) H → va_D A (ls_W cI cL cZ pd dm oB a S) → va_S A s.heap H locs → lv_has ls 7 [(4, .int (nI i)), (3, .ref oB), (2, .ref dm), (1, .ref pd), (0, .ref b)] →
      W p l e room_1 s m #[Value.ref b] below meth c H locs cells slots (lw_Z below #[Value.ref b] s) (F0 m 23 ls []) := by
  obtain ⟨hx, hb, hml, hown, hts, hK, hnz, hst, hAs, hX, hbl, hL, hlT⟩ := id C
  have hbA := hAs b hbl
  intro n
  induction n with
  | zero => intro S v i cells slots H locs ls h; exact absurd h (Nat.not_lt_zero _)
  | succ n ih =>
    intro S v i cells slots H locs ls hme hi J hc1 hc2 hc3 hP hD hS hl
    refine lv_iload hx hb d_L_law_23 (lv_at hl 0 rfl) ?_
    refine lv_aload_n hx hb d_L_law_25 rfl (lv_at hl 4 rfl) ?_
    refine va_slen hx hb hX hbl hbA hS d_L_law_26 ?_
    refine lv_iconst (v := nI 5) hx hb d_L_law_27 (by decide) ?_
    refine lv_isub hx hb d_L_law_28 ?_
    refine lv_icmp_gt (tgt := 753) hx hb d_L_law_29 (by decide) (fun hg => ?_) (fun hg => ?_)
    · refine W.widen (k := 1068) (n := 11794) (by omega) (by omega) ?_
      refine lv_iconst (v := 1) hx hb d_L_law_753 (by decide) ?_
      refine va_forget (fun q hq => hA _ (hS.2.2 q hq)) ?_
      exact lw_ret hx hb hr hlocks d_L_law_754
    · have hg2 : ¬ L < i + 5 := fun z => hg ((ls_gt hL hi).mpr z)
      have h5 : i + 5 ≤ L := by omega
      have hcs : cells + 1 ≤ room_1.cells ∧ slots + 6 ≤ room_1.slots := by
        show cells + 1 ≤ 1068 ∧ slots + 6 ≤ 11794
        omega
      have hv : v < 1998 := by omega
      refine lv_aload_n hx hb d_L_law_32 rfl (lv_at hl 4 rfl) ?_
      refine lv_iload hx hb d_L_law_33 (lv_at hl 0 rfl) ?_
      refine lw_sld hx hb hX hbl hbA hS (by omega) hL d_L_law_35 ?_
      refine lv_bipush (v := nI 15) hx hb d_L_law_36 (by decide) ?_
      refine lv_iand hx hb d_L_law_38 ?_
      obtain ⟨k, hk, ek⟩ := ls_sw (xs i)
      refine nr_as (v := nI k) ek ?_
      have kk : ∀ (S2 : ls_S) (H : Heap) (locs : List Loc) (ls : Array Slot), ls_JS (v + 2) S2 → va_P (dC, dI) classes (ls_W cI cL cZ pd dm oB a S2) H → va_S A s.heap H locs → lv_has ls 7 [(4, .int (nI i)), (3, .ref oB), (2, .ref dm), (1, .ref pd), (0, .ref b)] → W p l e room_1 s m #[Value.ref b] below meth c H locs (cells + 1) (slots + 6) (lw_Z below #[Value.ref b] s) (F0 m 747 ls []) := by
        intro S2 H locs ls J2 hP2 hS2 hl2
        refine lv_iinc (v := nI (i + 5)) (lv' := [(4, .int (nI (i + 5))), (3, .ref oB), (2, .ref dm), (1, .ref pd), (0, .ref b)]) hx hb d_L_law_747 hl2 (k := 0) rfl (by rw [← nI_add]; rfl) (by decide) rfl (fun ls hl => ?_)
        refine lv_goto (tgt := 23) hx hb d_L_law_750 (by decide) ?_
        exact ih S2 (v + 2) (i + 5) (cells + 1) (slots + 6) H locs ls (by omega) (by omega) J2 (by omega) (by omega) (by omega) hP2 (ls_WD hD) hS2 hl
      rcases (show k = 0 ∨ k = 1 ∨ k = 2 ∨ k = 3 ∨ k = 4 ∨ k = 5 ∨ k = 6 ∨ k = 7 ∨ k = 8 ∨ k = 9 ∨ k = 10 ∨ k = 11 ∨ k = 12 ∨ k = 13 ∨ k = 14 ∨ k = 15 by omega) with rfl | rfl | rfl | rfl | rfl | rfl | rfl | rfl | rfl | rfl | rfl | rfl | rfl | rfl | rfl | rfl
      · refine lv_tableIn (tgt := 112) hx hb d_L_law_39 (by decide) (by decide) rfl (by decide) ?_
        exact lc_0 C a S J hv h5 hcs hP hD hS hl kk
      · refine lv_tableIn (tgt := 165) hx hb d_L_law_39 (by decide) (by decide) rfl (by decide) ?_
        exact lc_1 C a S J hv h5 hcs hP hD hS hl kk
      · refine lv_tableIn (tgt := 226) hx hb d_L_law_39 (by decide) (by decide) rfl (by decide) ?_
        exact lc_2 C a S J hv h5 hcs hP hD hS hl kk
      · refine lv_tableIn (tgt := 275) hx hb d_L_law_39 (by decide) (by decide) rfl (by decide) ?_
        exact lc_3 C a S J hv h5 hcs hP hD hS hl kk
      · refine lv_tableIn (tgt := 328) hx hb d_L_law_39 (by decide) (by decide) rfl (by decide) ?_
        exact lc_4 C a S J hv h5 hcs hP hD hS hl kk
      · refine lv_tableIn (tgt := 381) hx hb d_L_law_39 (by decide) (by decide) rfl (by decide) ?_
        exact lc_5 C a S J hv h5 hcs hP hD hS hl kk
      · refine lv_tableIn (tgt := 430) hx hb d_L_law_39 (by decide) (by decide) rfl (by decide) ?_
        exact lc_6 C a S J hv h5 hcs hP hD hS hl kk
      · refine lv_tableIn (tgt := 474) hx hb d_L_law_39 (by decide) (by decide) rfl (by decide) ?_
        exact lc_7 C a S J hv h5 hcs hP hD hS hl kk
      · refine lv_tableIn (tgt := 511) hx hb d_L_law_39 (by decide) (by decide) rfl (by decide) ?_
        exact lc_8 C a S J hv h5 hcs hP hD hS hl kk
      · refine lv_tableIn (tgt := 524) hx hb d_L_law_39 (by decide) (by decide) rfl (by decide) ?_
        exact lc_9 C a S J hv h5 hcs hP hD hS hl kk
      · refine lv_tableIn (tgt := 538) hx hb d_L_law_39 (by decide) (by decide) rfl (by decide) ?_
        exact lc_10 C a S J hv h5 hcs hP hD hS hl kk
      · refine lv_tableIn (tgt := 595) hx hb d_L_law_39 (by decide) (by decide) rfl (by decide) ?_
        exact lc_11 C a S J hv h5 hcs hP hD hS hl kk
      · refine lv_tableIn (tgt := 652) hx hb d_L_law_39 (by decide) (by decide) rfl (by decide) ?_
        exact lc_12 C a S J hv h5 hcs hP hD hS hl kk
      · refine lv_tableIn (tgt := 708) hx hb d_L_law_39 (by decide) (by decide) rfl (by decide) ?_
        exact lc_13 C a S J hv h5 hcs hP hD hS hl kk
      · refine lv_tableIn (tgt := 722) hx hb d_L_law_39 (by decide) (by decide) rfl (by decide) ?_
        exact lc_14 C a S J hv h5 hcs hP hD hS hl kk
      · refine lv_tableOut (tgt := 747) hx hb d_L_law_39 (Or.inr (by decide)) (by decide) ?_
        refine W.widen (k := cells + 1) (n := slots + 6) (by omega) (by omega) ?_
        exact kk S H locs ls (ls_up J) hP hS hl
