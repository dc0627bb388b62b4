set_option maxHeartbeats 4000000 in
set_option maxRecDepth 100000 in
theorem lc_6 {p : Program} {l : Launch} {e : Env} {s : State} {m : MethodId} {below : List Frame} {meth : Method} {c : Code} {b L : Nat} {xs : Nat → Int32} {dC : Nat → ClassId} {dI : Nat → Nat → Nat} {cI cL cZ : ClassId} {A : Nat → Prop} {Q : State → Prop} (C : lx_C p l s m c b L xs dC dI cI cL cZ A) {pd dm oB : Nat} (a : ls_A) (S : ls_S) {v i : Nat} (J : ls_JS v S) (hv : v < 1998) (hi : i + 5 ≤ L) {H : Heap} {locs : List Loc} {cells slots : Nat} (hcs : cells + 1 ≤ room_1.cells ∧ slots + 6 ≤ room_1.slots) (hP : va_P (dC, dI) classes (ls_W cI cL cZ pd dm oB a S) H) (hD : va_D A (ls_W cI cL cZ pd dm oB a S)) (hS : va_S A s.heap H locs) {ls : Array Slot} (hl : lv_has ls 7 [(4, .int (nI i)), (3, .ref oB), (2, .ref dm), (1, .ref pd), (0, .ref b)])
    (kk : ∀ (S2 : ls_S) (H : Heap) (locs : List Loc) (ls : Array Slot), ls_JS (v + 2) S2 → va_P (dC, dI) classes (ls_W cI cL cZ pd dm oB a S2) H → va_S A s.heap H locs → lv_has ls 7 [(4, .int (nI i)), (3, .ref oB), (2, .ref dm), (1, .ref pd), (0, .ref b)] → W p l e room_1 s m #[Value.ref b] below meth c H locs (cells + 1) (slots + 6) Q (F0 m 747 ls [])) :
    W p l e room_1 s m #[Value.ref b] below meth c H locs cells slots Q (F0 m 430 ls []) := by
  obtain ⟨hx, hb, hml, hown, hts, hK, hnz, hst, hAs, hX, hbl, hL, hlT⟩ := C
  obtain ⟨g, wy, mt, fo, tA, oA, uA, wA, sA, cA, rA, xA, nA, pA, qA, kA, lA, hA, iD, tD, oD, uD, wD, sD, eD, vD, yD, lD, xD, cD, zD, pD, bD, fD, gD, qD, rD, aD, kD⟩ := a
  obtain ⟨np, ne, bd, er, vr, fi, kp, mv, tl, rl, sz, fw, fk, od, tm, oe, ot, wt, sg, ct, tr, row, pw, lw, lc, le, ho, nr, ou, th, ll, mn, bw, bs, wv, ib, ie, wo, eo, co, bo, pr, be, la, li, fs, td, po, pt, al, wz⟩ := S
  have J : ls_J v np ne bd er vr fi mv tl sz bw tm oe ot wt ct pw lw le ho ib ie co po pt := J
  have hbA := hAs b hbl
  have hnp := J.hnp
  have hne := J.hne
  have hc0 : cells ≤ room_1.cells ∧ slots ≤ room_1.slots := ⟨by omega, by omega⟩
  have hP : va_P (dC, dI) classes [cg_P pd g wy mt fo fi kp, cg_G g tA oA uA wA sA np ne bd er vr, cg_N tA cI 20 tm, cg_N oA cI 60 oe, cg_N uA cI 60 ot, cg_N wA cI 60 wt, cg_N sA cI 60 sg, cg_W wy g cA rA mv tl, cg_L cA cL 400 ct, cg_N rA cI 20 tr, cg_M mt g wy xA nA pA qA kA rl, cg_N xA cI 10 row, cg_O nA cI 10 nr, cg_N pA cI 100 pw, cg_N qA cI 1024 lw, cg_N kA cI 1024 lc, cg_F fo lA hA sz fw fk od, cg_N lA cI 10 le, cg_N hA cI 10 ho, cg_K oB cL 1 ou, cg_D dm th np ne fi kp iD tD oD uD wD sD eD vD yD lD ll mn xD cD zD pD bD fD gD bw bs sz qD rD aD kD fk wv od, cg_B iD cZ 20 ib, cg_N tD cI 20 tm, cg_N oD cI 60 oe, cg_N uD cI 60 ot, cg_N wD cI 60 wt, cg_N sD cI 60 sg, cg_B eD cZ 60 ie, cg_O vD cI 20 wo, cg_O yD cI 20 eo, cg_N lD cI 60 la, cg_N xD cI 10 li, cg_O cD cI 110 co, cg_O zD cI 10 bo, cg_O pD cI 10 pr, cg_O bD cI 10 be, cg_N fD cI 11 fs, cg_N gD cI 11 td, cg_N qD cI 10 po, cg_N rD cI 10 pt, cg_B aD cZ 10 al, cg_K kD cL 10 wz] H := hP
  have hD : va_D A [cg_P pd g wy mt fo fi kp, cg_G g tA oA uA wA sA np ne bd er vr, cg_N tA cI 20 tm, cg_N oA cI 60 oe, cg_N uA cI 60 ot, cg_N wA cI 60 wt, cg_N sA cI 60 sg, cg_W wy g cA rA mv tl, cg_L cA cL 400 ct, cg_N rA cI 20 tr, cg_M mt g wy xA nA pA qA kA rl, cg_N xA cI 10 row, cg_O nA cI 10 nr, cg_N pA cI 100 pw, cg_N qA cI 1024 lw, cg_N kA cI 1024 lc, cg_F fo lA hA sz fw fk od, cg_N lA cI 10 le, cg_N hA cI 10 ho, cg_K oB cL 1 ou, cg_D dm th np ne fi kp iD tD oD uD wD sD eD vD yD lD ll mn xD cD zD pD bD fD gD bw bs sz qD rD aD kD fk wv od, cg_B iD cZ 20 ib, cg_N tD cI 20 tm, cg_N oD cI 60 oe, cg_N uD cI 60 ot, cg_N wD cI 60 wt, cg_N sD cI 60 sg, cg_B eD cZ 60 ie, cg_O vD cI 20 wo, cg_O yD cI 20 eo, cg_N lD cI 60 la, cg_N xD cI 10 li, cg_O cD cI 110 co, cg_O zD cI 10 bo, cg_O pD cI 10 pr, cg_O bD cI 10 be, cg_N fD cI 11 fs, cg_N gD cI 11 td, cg_N qD cI 10 po, cg_N rD cI 10 pt, cg_B aD cZ 10 al, cg_K kD cL 10 wz] := hD
  have hl : lv_has ls 7 [(4, .int (nI i)), (3, .ref oB), (2, .ref dm), (1, .ref pd), (0, .ref b)] := hl
  refine lv_aload_n hx hb d_L_law_430 rfl (lv_at hl 3 rfl) ?_
  refine lv_aload_n hx hb d_L_law_431 rfl (lv_at hl 1 rfl) ?_
  refine lw_SW (n := 2) (wr := [cg_N tA cI 20 tm, cg_N sA cI 60 sg, cg_D dm th np ne fi kp iD tD oD uD wD sD eD vD yD lD ll mn xD cD zD pD bD fD gD bw bs sz qD rD aD kD fk wv od, cg_B iD cZ 20 ib, cg_N tD cI 20 tm, cg_N oD cI 60 oe, cg_N uD cI 60 ot, cg_N wD cI 60 wt, cg_N sD cI 60 sg, cg_B eD cZ 60 ie, cg_O vD cI 20 wo, cg_O yD cI 20 eo, cg_N lD cI 60 la, cg_N xD cI 10 li, cg_O cD cI 110 co, cg_O zD cI 10 bo, cg_O pD cI 10 pr, cg_O bD cI 10 be, cg_N fD cI 11 fs, cg_N gD cI 11 td, cg_N qD cI 10 po, cg_N rD cI 10 pt, cg_B aD cZ 10 al, cg_K kD cL 10 wz]) [0, 1, 3, 4, 5, 7, 8, 9, 10, 11, 12, 13, 14, 15, 16, 17, 18, 19] [2, 6, 20, 21, 22, 23, 24, 25, 26, 27, 28, 29, 30, 31, 32, 33, 34, 35, 36, 37, 38, 39, 40, 41] rfl rfl (by decide) (As := [.ref pd, .ref oB]) (rest := []) ⟨hx, hb, hml, hown, hts⟩ (c_L_decode l hlT dC dI cI cL pd g wy mt fo fi kp tA oA uA wA sA np ne bd er vr cA rA mv tl xA nA pA qA kA rl lA hA sz fw fk od oe ot wt ct tr row pw lw lc le ho nr oB ou (by omega) (by omega) J.hE J.hdf J.W J.hct J.hm J.htl J.hpw J.hlw J.fl) (fun w h => List.mem_cons_of_mem _ h) wx_L_decode rfl rfl ⟨Nat.le_of_ble_eq_true rfl, Nat.le_of_ble_eq_true rfl⟩ wk_L_51 ws_L_decode wi_L (by decide +kernel) (hK.sub [0, 1] rfl) (hP.sub [0, 1, 3, 4, 5, 7, 8, 9, 10, 11, 12, 13, 14, 15, 16, 17, 18, 19] rfl) ((hD.sub [0, 1, 3, 4, 5, 7, 8, 9, 10, 11, 12, 13, 14, 15, 16, 17, 18, 19] (by decide) rfl).weaken (fun _ _ _ _ => trivial)) rfl hl.1 rfl (lv_room (Nat.le_of_ble_eq_true rfl)) d_L_law_432 hcs hS hP hD hst (fun q c h1 _ => by have h9 := (Array.getElem?_eq_some_iff.mp h1).1; rw [hS.2.1 q h9 (hAs q h9)]; exact h1) (fun r_16 u H locs hw_17 hP hS => ?_)
  obtain ⟨ct2_1, tl2_2, tr2_3, row2_4, nr2_5, pw2_6, lw2_7, lc2_8, sz2_9, fw2_10, fk2_11, od2_12, le2_13, ho2_14, ou2_15⟩ := u
  have hP : va_P (dC, dI) classes [cg_P pd g wy mt fo fi kp, cg_G g tA oA uA wA sA np ne bd er vr, cg_N tA cI 20 tm, cg_N oA cI 60 oe, cg_N uA cI 60 ot, cg_N wA cI 60 wt, cg_N sA cI 60 sg, cg_W wy g cA rA (nI vr) tl2_2, cg_L cA cL 400 ct2_1, cg_N rA cI 20 tr2_3, cg_M mt g wy xA nA pA qA kA ((ng_rw fi np).length), cg_N xA cI 10 row2_4, cg_O nA cI 10 nr2_5, cg_N pA cI 100 pw2_6, cg_N qA cI 1024 lw2_7, cg_N kA cI 1024 lc2_8, cg_F fo lA hA sz2_9 fw2_10 fk2_11 od2_12, cg_N lA cI 10 le2_13, cg_N hA cI 10 ho2_14, cg_K oB cL 1 ou2_15, cg_D dm th np ne fi kp iD tD oD uD wD sD eD vD yD lD ll mn xD cD zD pD bD fD gD bw bs sz qD rD aD kD fk wv od, cg_B iD cZ 20 ib, cg_N tD cI 20 tm, cg_N oD cI 60 oe, cg_N uD cI 60 ot, cg_N wD cI 60 wt, cg_N sD cI 60 sg, cg_B eD cZ 60 ie, cg_O vD cI 20 wo, cg_O yD cI 20 eo, cg_N lD cI 60 la, cg_N xD cI 10 li, cg_O cD cI 110 co, cg_O zD cI 10 bo, cg_O pD cI 10 pr, cg_O bD cI 10 be, cg_N fD cI 11 fs, cg_N gD cI 11 td, cg_N qD cI 10 po, cg_N rD cI 10 pt, cg_B aD cZ 10 al, cg_K kD cL 10 wz] H := hP.sub [24, 25, 0, 26, 27, 28, 1, 29, 30, 31, 32, 33, 34, 35, 36, 37, 38, 39, 40, 41, 2, 3, 4, 5, 6, 7, 8, 9, 10, 11, 12, 13, 14, 15, 16, 17, 18, 19, 20, 21, 22, 23] rfl
  have hD : va_D A [cg_P pd g wy mt fo fi kp, cg_G g tA oA uA wA sA np ne bd er vr, cg_N tA cI 20 tm, cg_N oA cI 60 oe, cg_N uA cI 60 ot, cg_N wA cI 60 wt, cg_N sA cI 60 sg, cg_W wy g cA rA (nI vr) tl2_2, cg_L cA cL 400 ct2_1, cg_N rA cI 20 tr2_3, cg_M mt g wy xA nA pA qA kA ((ng_rw fi np).length), cg_N xA cI 10 row2_4, cg_O nA cI 10 nr2_5, cg_N pA cI 100 pw2_6, cg_N qA cI 1024 lw2_7, cg_N kA cI 1024 lc2_8, cg_F fo lA hA sz2_9 fw2_10 fk2_11 od2_12, cg_N lA cI 10 le2_13, cg_N hA cI 10 ho2_14, cg_K oB cL 1 ou2_15, cg_D dm th np ne fi kp iD tD oD uD wD sD eD vD yD lD ll mn xD cD zD pD bD fD gD bw bs sz qD rD aD kD fk wv od, cg_B iD cZ 20 ib, cg_N tD cI 20 tm, cg_N oD cI 60 oe, cg_N uD cI 60 ot, cg_N wD cI 60 wt, cg_N sD cI 60 sg, cg_B eD cZ 60 ie, cg_O vD cI 20 wo, cg_O yD cI 20 eo, cg_N lD cI 60 la, cg_N xD cI 10 li, cg_O cD cI 110 co, cg_O zD cI 10 bo, cg_O pD cI 10 pr, cg_O bD cI 10 be, cg_N fD cI 11 fs, cg_N gD cI 11 td, cg_N qD cI 10 po, cg_N rD cI 10 pt, cg_B aD cZ 10 al, cg_K kD cL 10 wz] := rw_re hD rfl
  try dsimp only at hw_17
  obtain ⟨⟨hM2, ht2, hrow, hnr, hpw2, hpwF, hgr⟩, hcl⟩ := hw_17
  refine lv_istore (lv' := [(5, .int r_16), (4, .int (nI i)), (3, .ref oB), (2, .ref dm), (1, .ref pd), (0, .ref b)]) hx hb d_L_law_435 hl (by decide) rfl (fun ls hl => ?_)
  refine lv_aload_n hx hb d_L_law_437 rfl (lv_at hl 3 rfl) ?_
  refine rw_Vi (wr := [cg_P pd g wy mt fo fi kp, cg_G g tA oA uA wA sA np ne bd er vr, cg_N tA cI 20 tm, cg_N oA cI 60 oe, cg_N uA cI 60 ot, cg_N wA cI 60 wt, cg_N sA cI 60 sg, cg_W wy g cA rA (nI vr) tl2_2, cg_L cA cL 400 ct2_1, cg_N rA cI 20 tr2_3, cg_M mt g wy xA nA pA qA kA ((ng_rw fi np).length), cg_N xA cI 10 row2_4, cg_O nA cI 10 nr2_5, cg_N pA cI 100 pw2_6, cg_N qA cI 1024 lw2_7, cg_N kA cI 1024 lc2_8, cg_F fo lA hA sz2_9 fw2_10 fk2_11 od2_12, cg_N lA cI 10 le2_13, cg_N hA cI 10 ho2_14, cg_K oB cL 1 ou2_15, cg_N tD cI 20 tm, cg_N sD cI 60 sg]) [20, 21, 23, 24, 25, 27, 28, 29, 31, 32, 33, 34, 35, 36, 37, 38, 39, 40, 41, 30] [0, 1, 2, 3, 4, 5, 6, 7, 8, 9, 10, 11, 12, 13, 14, 15, 16, 17, 18, 19, 22, 26] rfl rfl (by decide) (As := []) (rest := []) ⟨hx, hb, hml, hown, hts⟩ (c_D_decode l dC dI cI cL cZ dm th np ne fi kp iD tD oD uD wD sD eD vD yD lD ll mn xD cD zD pD bD fD gD bw bs sz qD rD aD kD fk wv od ib oe ot wt ie wo eo li co bo pr be fs td po pt al wz la bd er ct2_1 (by omega) (by omega) J.hE J.hdf J.hv J.fl J.hcb J.hbw (J.DD hM2) J.hib J.hw (ng_M_sy hM2)) (cwV 0 hts (wg_V wk_L_56 wm_D_decode we_D_decode wi_D wc_D_decode) rfl rfl rfl (by decide +kernel) ⟨Nat.le_of_ble_eq_true rfl, Nat.le_of_ble_eq_true rfl⟩) hK (hP.sub [20, 21, 23, 24, 25, 27, 28, 29, 31, 32, 33, 34, 35, 36, 37, 38, 39, 40, 41, 30] rfl) ((hD.sub [20, 21, 23, 24, 25, 27, 28, 29, 31, 32, 33, 34, 35, 36, 37, 38, 39, 40, 41, 30] (by decide) rfl).weaken (fun _ _ _ _ => trivial)) (q0 := 0) rfl rfl rfl rfl hl.1 rfl (lv_room (Nat.le_of_ble_eq_true rfl)) d_L_law_438 hcs hS hP hD (fun r_41 u H locs hw_42 hP hS => ?_)
  obtain ⟨wo9_18, eo9_19, li9_20, co9_21, bo9_22, pr9_23, be9_24, fs9_25, tr9_26, po9_27, pt9_28, al9_29, wy9_30, la9_31, th9_32, ll9_33, bw9_34, bs9_35, ps9_36, lt9_37, wt9_38, fx9_39, pp9_40⟩ := u
  have hP : va_P (dC, dI) classes [cg_P pd g wy mt fo fi kp, cg_G g tA oA uA wA sA np ne bd er vr, cg_N tA cI 20 tm, cg_N oA cI 60 oe, cg_N uA cI 60 ot, cg_N wA cI 60 wt, cg_N sA cI 60 sg, cg_W wy g cA rA (nI vr) tl2_2, cg_L cA cL 400 ct2_1, cg_N rA cI 20 tr2_3, cg_M mt g wy xA nA pA qA kA ((ng_rw fi np).length), cg_N xA cI 10 row2_4, cg_O nA cI 10 nr2_5, cg_N pA cI 100 pw2_6, cg_N qA cI 1024 lw2_7, cg_N kA cI 1024 lc2_8, cg_F fo lA hA sz2_9 fw2_10 fk2_11 od2_12, cg_N lA cI 10 le2_13, cg_N hA cI 10 ho2_14, cg_K oB cL 1 ou2_15, cg_D dm th9_32 np ne fi kp iD tD oD uD wD sD eD vD yD lD ll9_33 ((ng_rw fi np).length) xD cD zD pD bD fD gD bw9_34 bs9_35 ps9_36 qD rD aD kD lt9_37 wt9_38 fx9_39, cg_B iD cZ 20 ib, cg_N tD cI 20 tm, cg_N oD cI 60 oe, cg_N uD cI 60 ot, cg_N wD cI 60 wt, cg_N sD cI 60 sg, cg_B eD cZ 60 ie, cg_O vD cI 20 wo9_18, cg_O yD cI 20 eo9_19, cg_N lD cI 60 la9_31, cg_N xD cI 10 li9_20, cg_O cD cI 110 co9_21, cg_O zD cI 10 bo9_22, cg_O pD cI 10 pr9_23, cg_O bD cI 10 be9_24, cg_N fD cI 11 fs9_25, cg_N gD cI 11 tr9_26, cg_N qD cI 10 po9_27, cg_N rD cI 10 pt9_28, cg_B aD cZ 10 al9_29, cg_K kD cL 10 wy9_30] H := hP.sub [0, 1, 2, 3, 4, 5, 6, 7, 8, 9, 10, 11, 12, 13, 14, 15, 16, 17, 18, 19, 22, 23, 20, 24, 25, 26, 21, 27, 28, 29, 41, 30, 31, 32, 33, 34, 35, 36, 37, 38, 39, 40] rfl
  have hD : va_D A [cg_P pd g wy mt fo fi kp, cg_G g tA oA uA wA sA np ne bd er vr, cg_N tA cI 20 tm, cg_N oA cI 60 oe, cg_N uA cI 60 ot, cg_N wA cI 60 wt, cg_N sA cI 60 sg, cg_W wy g cA rA (nI vr) tl2_2, cg_L cA cL 400 ct2_1, cg_N rA cI 20 tr2_3, cg_M mt g wy xA nA pA qA kA ((ng_rw fi np).length), cg_N xA cI 10 row2_4, cg_O nA cI 10 nr2_5, cg_N pA cI 100 pw2_6, cg_N qA cI 1024 lw2_7, cg_N kA cI 1024 lc2_8, cg_F fo lA hA sz2_9 fw2_10 fk2_11 od2_12, cg_N lA cI 10 le2_13, cg_N hA cI 10 ho2_14, cg_K oB cL 1 ou2_15, cg_D dm th9_32 np ne fi kp iD tD oD uD wD sD eD vD yD lD ll9_33 ((ng_rw fi np).length) xD cD zD pD bD fD gD bw9_34 bs9_35 ps9_36 qD rD aD kD lt9_37 wt9_38 fx9_39, cg_B iD cZ 20 ib, cg_N tD cI 20 tm, cg_N oD cI 60 oe, cg_N uD cI 60 ot, cg_N wD cI 60 wt, cg_N sD cI 60 sg, cg_B eD cZ 60 ie, cg_O vD cI 20 wo9_18, cg_O yD cI 20 eo9_19, cg_N lD cI 60 la9_31, cg_N xD cI 10 li9_20, cg_O cD cI 110 co9_21, cg_O zD cI 10 bo9_22, cg_O pD cI 10 pr9_23, cg_O bD cI 10 be9_24, cg_N fD cI 11 fs9_25, cg_N gD cI 11 tr9_26, cg_N qD cI 10 po9_27, cg_N rD cI 10 pt9_28, cg_B aD cZ 10 al9_29, cg_K kD cL 10 wy9_30] := rw_re hD rfl
  try dsimp only at hw_42
  obtain ⟨⟨hli, hfc, hcob, hpp, heqA, hbw9, hbs9⟩, hmo⟩ := hw_42
  obtain ⟨e1, e2, hfn, hfy⟩ := ng_find rfl J.fl J.hib hrow hnr hpw2 hgr hli hfc hcob hpp heqA
  rcases hcl with ⟨hr, hou, ⟨hF, hn1, hn2, hn3, hn4, hn5, hn6⟩⟩ | ⟨hr, hou, hF, hsz2, hfw2, hfk2, hod2, hpr2, hlen⟩
  · rcases hmo with ⟨hb0, hrD, hth, hps, hlt, hwt, hfx, hpo, hpt, hal, hwy⟩ | ⟨hbn, -⟩
    rotate_left
    · exact absurd (hfn hF) hbn
    replace hn1 := hn1.symm
    subst hn1
    replace hn2 := hn2.symm
    subst hn2
    replace hn3 := hn3.symm
    subst hn3
    replace hn4 := hn4.symm
    subst hn4
    replace hn5 := hn5.symm
    subst hn5
    replace hn6 := hn6.symm
    subst hn6
    replace hps := hps.symm
    subst hps
    replace hlt := hlt.symm
    subst hlt
    replace hwt := hwt.symm
    subst hwt
    replace hfx := hfx.symm
    subst hfx
    replace hpo := hpo.symm
    subst hpo
    replace hpt := hpt.symm
    subst hpt
    replace hal := hal.symm
    subst hal
    replace hwy := hwy.symm
    subst hwy
    subst hth
    subst hr
    have hP : va_P (dC, dI) classes [cg_P pd g wy mt fo fi kp, cg_G g tA oA uA wA sA np ne bd er vr, cg_N tA cI 20 tm, cg_N oA cI 60 oe, cg_N uA cI 60 ot, cg_N wA cI 60 wt, cg_N sA cI 60 sg, cg_W wy g cA rA (nI vr) tl2_2, cg_L cA cL 400 ct2_1, cg_N rA cI 20 tr2_3, cg_M mt g wy xA nA pA qA kA ((ng_rw fi np).length), cg_N xA cI 10 row2_4, cg_O nA cI 10 nr2_5, cg_N pA cI 100 pw2_6, cg_N qA cI 1024 lw2_7, cg_N kA cI 1024 lc2_8, cg_F fo lA hA sz fw fk od, cg_N lA cI 10 le, cg_N hA cI 10 ho, cg_K oB cL 1 ou2_15, cg_D dm 1 np ne fi kp iD tD oD uD wD sD eD vD yD lD ll9_33 ((ng_rw fi np).length) xD cD zD pD bD fD gD bw9_34 bs9_35 sz qD rD aD kD fk wv od, cg_B iD cZ 20 ib, cg_N tD cI 20 tm, cg_N oD cI 60 oe, cg_N uD cI 60 ot, cg_N wD cI 60 wt, cg_N sD cI 60 sg, cg_B eD cZ 60 ie, cg_O vD cI 20 wo9_18, cg_O yD cI 20 eo9_19, cg_N lD cI 60 la9_31, cg_N xD cI 10 li9_20, cg_O cD cI 110 co9_21, cg_O zD cI 10 bo9_22, cg_O pD cI 10 pr9_23, cg_O bD cI 10 be9_24, cg_N fD cI 11 fs9_25, cg_N gD cI 11 tr9_26, cg_N qD cI 10 po, cg_N rD cI 10 pt, cg_B aD cZ 10 al, cg_K kD cL 10 wz] H := hP
    have hD : va_D A [cg_P pd g wy mt fo fi kp, cg_G g tA oA uA wA sA np ne bd er vr, cg_N tA cI 20 tm, cg_N oA cI 60 oe, cg_N uA cI 60 ot, cg_N wA cI 60 wt, cg_N sA cI 60 sg, cg_W wy g cA rA (nI vr) tl2_2, cg_L cA cL 400 ct2_1, cg_N rA cI 20 tr2_3, cg_M mt g wy xA nA pA qA kA ((ng_rw fi np).length), cg_N xA cI 10 row2_4, cg_O nA cI 10 nr2_5, cg_N pA cI 100 pw2_6, cg_N qA cI 1024 lw2_7, cg_N kA cI 1024 lc2_8, cg_F fo lA hA sz fw fk od, cg_N lA cI 10 le, cg_N hA cI 10 ho, cg_K oB cL 1 ou2_15, cg_D dm 1 np ne fi kp iD tD oD uD wD sD eD vD yD lD ll9_33 ((ng_rw fi np).length) xD cD zD pD bD fD gD bw9_34 bs9_35 sz qD rD aD kD fk wv od, cg_B iD cZ 20 ib, cg_N tD cI 20 tm, cg_N oD cI 60 oe, cg_N uD cI 60 ot, cg_N wD cI 60 wt, cg_N sD cI 60 sg, cg_B eD cZ 60 ie, cg_O vD cI 20 wo9_18, cg_O yD cI 20 eo9_19, cg_N lD cI 60 la9_31, cg_N xD cI 10 li9_20, cg_O cD cI 110 co9_21, cg_O zD cI 10 bo9_22, cg_O pD cI 10 pr9_23, cg_O bD cI 10 be9_24, cg_N fD cI 11 fs9_25, cg_N gD cI 11 tr9_26, cg_N qD cI 10 po, cg_N rD cI 10 pt, cg_B aD cZ 10 al, cg_K kD cL 10 wz] := hD
    have hl : lv_has ls 7 [(5, .int (nI 1)), (4, .int (nI i)), (3, .ref oB), (2, .ref dm), (1, .ref pd), (0, .ref b)] := hl
    refine lv_istore (lv' := [(6, .int r_41), (5, .int (nI 1)), (4, .int (nI i)), (3, .ref oB), (2, .ref dm), (1, .ref pd), (0, .ref b)]) hx hb d_L_law_441 hl (by decide) rfl (fun ls hl => ?_)
    refine lv_aload_n hx hb d_L_law_443 rfl (lv_at hl 4 rfl) ?_
    refine ro_Vi (As := []) (rest := []) ⟨hx, hb, hml, hown, hts⟩ (c_D_thrown l dC dI cI cL cZ dm 1 np ne fi kp iD tD oD uD wD sD eD vD yD lD ll9_33 ((ng_rw fi np).length) xD cD zD pD bD fD gD bw9_34 bs9_35 sz qD rD aD kD fk wv od ) (cwV 0 hts (wg_V wk_L_57 wm_D_thrown we_D_thrown wi_D wc_D_thrown) rfl rfl rfl (by decide +kernel) ⟨Nat.le_of_ble_eq_true rfl, Nat.le_of_ble_eq_true rfl⟩) hK (hP.sub [20] rfl) (q0 := 0) rfl rfl rfl rfl hl.1 rfl (lv_room (Nat.le_of_ble_eq_true rfl)) d_L_law_444 hcs hS hP (fun H locs hP hS => ?_)
    refine lv_iload hx hb d_L_law_447 (lv_at hl 1 rfl) ?_
    refine nr_icmp_eq (by omega) (by omega) (tgt := 454) hx hb d_L_law_449 (by decide) (fun c_449 => ?_) (fun c_449 => ?_)
    · refine lv_iload hx hb d_L_law_454 (lv_at hl 1 rfl) ?_
      refine nr_if_ne (by omega) (tgt := 471) hx hb d_L_law_456 (by decide) (fun c_456 => ?_) (fun c_456 => ?_)
      · refine lv_goto (tgt := 747) hx hb d_L_law_471 (by decide) ?_
        exact kk (np, ne, bd, er, vr, fi, kp, nI vr, tl2_2, (ng_rw fi np).length, sz, fw, fk, od, tm, oe, ot, wt, sg, ct2_1, tr2_3, row2_4, pw2_6, lw2_7, lc2_8, le, ho, nr2_5, ou2_15, 1, ll9_33, (ng_rw fi np).length, bw9_34, bs9_35, wv, ib, ie, wo9_18, eo9_19, co9_21, bo9_22, pr9_23, be9_24, la9_31, li9_20, fs9_25, tr9_26, po, pt, al, wz) H locs ls ((J.dec hM2 ht2 hpwF hgr.2.2.1 J.hsz J.hle hcob hbw9).up (Nat.le_add_right _ _)) hP hS (lv_sub hl [2, 3, 4, 5, 6] rfl)
      · exact absurd c_456 (by decide)
    · exact absurd rfl c_449
  · obtain ⟨hpos, hbs, hbw, hpl⟩ := hfy hF
    rcases hmo with ⟨hb0, -⟩ | ⟨-, hrD, hth, hlt, hwt, hps, hfd, hfx, hps10⟩
    · exact absurd hb0 (by omega)
    rw [hpl] at hps hfd hfx
    have hbq := fun (q : Nat × Nat) hq => (fun (z : 0 ≤ q.1 ∧ q.1 < (ng_rw fi np).length ∧ q.1 ≤ q.2 ∧ q.2 < (ng_rw fi np).length) => (⟨z.2.1, z.2.2.2⟩ : q.1 < (ng_rw fi np).length ∧ q.2 < (ng_rw fi np).length)) (ng_tf_b (rl := (ng_rw fi np).length) (pw := pw2_6) (lw := lw2_7) (ng_rw fi np).length 0 (2 ^ (ng_rw fi np).length - 1) q (by omega) hq)
    have hyy := ls_yes hbq e1 e2 hpr2 hfd
    have hans : ou2_15 0 = r_41.toInt64 := by rw [hou, va_up_self, hrD, hwt, hfw2, hbw]
    have hle2 : ∀ k, k < sz2_9 → le2_13 k = po9_27 k ∧ ho2_14 k = pt9_28 k := fun k hk => by rw [hsz2] at hk; obtain ⟨q, -, -, -, z1, z2, -, -⟩ := hyy k hk; exact ⟨z1.symm, z2.symm⟩
    have hs10 : sz2_9 ≤ 10 := by rw [hsz2]; exact hlen
    have hS1 : sz2_9 = ps9_36 := hsz2.trans hps.symm
    have hS2 : fk2_11 = lt9_37 := hfk2.trans (hbs.symm.trans hlt.symm)
    have hS3 : od2_12 = fx9_39 := hod2.trans ((ng_od_cg e1 e2 _ hbq).trans hfx.symm)
    clear hps hps10 hlt hfx
    skip
    subst hS1
    skip
    subst hS2
    skip
    subst hS3
    subst hth
    subst hr
    have hP : va_P (dC, dI) classes [cg_P pd g wy mt fo fi kp, cg_G g tA oA uA wA sA np ne bd er vr, cg_N tA cI 20 tm, cg_N oA cI 60 oe, cg_N uA cI 60 ot, cg_N wA cI 60 wt, cg_N sA cI 60 sg, cg_W wy g cA rA (nI vr) tl2_2, cg_L cA cL 400 ct2_1, cg_N rA cI 20 tr2_3, cg_M mt g wy xA nA pA qA kA ((ng_rw fi np).length), cg_N xA cI 10 row2_4, cg_O nA cI 10 nr2_5, cg_N pA cI 100 pw2_6, cg_N qA cI 1024 lw2_7, cg_N kA cI 1024 lc2_8, cg_F fo lA hA sz2_9 fw2_10 fk2_11 od2_12, cg_N lA cI 10 le2_13, cg_N hA cI 10 ho2_14, cg_K oB cL 1 ou2_15, cg_D dm 0 np ne fi kp iD tD oD uD wD sD eD vD yD lD ll9_33 ((ng_rw fi np).length) xD cD zD pD bD fD gD bw9_34 bs9_35 sz2_9 qD rD aD kD fk2_11 wt9_38 od2_12, cg_B iD cZ 20 ib, cg_N tD cI 20 tm, cg_N oD cI 60 oe, cg_N uD cI 60 ot, cg_N wD cI 60 wt, cg_N sD cI 60 sg, cg_B eD cZ 60 ie, cg_O vD cI 20 wo9_18, cg_O yD cI 20 eo9_19, cg_N lD cI 60 la9_31, cg_N xD cI 10 li9_20, cg_O cD cI 110 co9_21, cg_O zD cI 10 bo9_22, cg_O pD cI 10 pr9_23, cg_O bD cI 10 be9_24, cg_N fD cI 11 fs9_25, cg_N gD cI 11 tr9_26, cg_N qD cI 10 po9_27, cg_N rD cI 10 pt9_28, cg_B aD cZ 10 al9_29, cg_K kD cL 10 wy9_30] H := hP
    have hD : va_D A [cg_P pd g wy mt fo fi kp, cg_G g tA oA uA wA sA np ne bd er vr, cg_N tA cI 20 tm, cg_N oA cI 60 oe, cg_N uA cI 60 ot, cg_N wA cI 60 wt, cg_N sA cI 60 sg, cg_W wy g cA rA (nI vr) tl2_2, cg_L cA cL 400 ct2_1, cg_N rA cI 20 tr2_3, cg_M mt g wy xA nA pA qA kA ((ng_rw fi np).length), cg_N xA cI 10 row2_4, cg_O nA cI 10 nr2_5, cg_N pA cI 100 pw2_6, cg_N qA cI 1024 lw2_7, cg_N kA cI 1024 lc2_8, cg_F fo lA hA sz2_9 fw2_10 fk2_11 od2_12, cg_N lA cI 10 le2_13, cg_N hA cI 10 ho2_14, cg_K oB cL 1 ou2_15, cg_D dm 0 np ne fi kp iD tD oD uD wD sD eD vD yD lD ll9_33 ((ng_rw fi np).length) xD cD zD pD bD fD gD bw9_34 bs9_35 sz2_9 qD rD aD kD fk2_11 wt9_38 od2_12, cg_B iD cZ 20 ib, cg_N tD cI 20 tm, cg_N oD cI 60 oe, cg_N uD cI 60 ot, cg_N wD cI 60 wt, cg_N sD cI 60 sg, cg_B eD cZ 60 ie, cg_O vD cI 20 wo9_18, cg_O yD cI 20 eo9_19, cg_N lD cI 60 la9_31, cg_N xD cI 10 li9_20, cg_O cD cI 110 co9_21, cg_O zD cI 10 bo9_22, cg_O pD cI 10 pr9_23, cg_O bD cI 10 be9_24, cg_N fD cI 11 fs9_25, cg_N gD cI 11 tr9_26, cg_N qD cI 10 po9_27, cg_N rD cI 10 pt9_28, cg_B aD cZ 10 al9_29, cg_K kD cL 10 wy9_30] := hD
    have hl : lv_has ls 7 [(5, .int (nI 0)), (4, .int (nI i)), (3, .ref oB), (2, .ref dm), (1, .ref pd), (0, .ref b)] := hl
    refine lv_istore (lv' := [(6, .int r_41), (5, .int (nI 0)), (4, .int (nI i)), (3, .ref oB), (2, .ref dm), (1, .ref pd), (0, .ref b)]) hx hb d_L_law_441 hl (by decide) rfl (fun ls hl => ?_)
    refine lv_aload_n hx hb d_L_law_443 rfl (lv_at hl 4 rfl) ?_
    refine ro_Vi (As := []) (rest := []) ⟨hx, hb, hml, hown, hts⟩ (c_D_thrown l dC dI cI cL cZ dm 0 np ne fi kp iD tD oD uD wD sD eD vD yD lD ll9_33 ((ng_rw fi np).length) xD cD zD pD bD fD gD bw9_34 bs9_35 sz2_9 qD rD aD kD fk2_11 wt9_38 od2_12 ) (cwV 0 hts (wg_V wk_L_57 wm_D_thrown we_D_thrown wi_D wc_D_thrown) rfl rfl rfl (by decide +kernel) ⟨Nat.le_of_ble_eq_true rfl, Nat.le_of_ble_eq_true rfl⟩) hK (hP.sub [20] rfl) (q0 := 0) rfl rfl rfl rfl hl.1 rfl (lv_room (Nat.le_of_ble_eq_true rfl)) d_L_law_444 hcs hS hP (fun H locs hP hS => ?_)
    refine lv_iload hx hb d_L_law_447 (lv_at hl 1 rfl) ?_
    refine nr_icmp_eq (by omega) (by omega) (tgt := 454) hx hb d_L_law_449 (by decide) (fun c_449 => ?_) (fun c_449 => ?_)
    · refine lv_iload hx hb d_L_law_454 (lv_at hl 1 rfl) ?_
      refine nr_if_ne (by omega) (tgt := 471) hx hb d_L_law_456 (by decide) (fun c_456 => ?_) (fun c_456 => ?_)
      · exact absurd c_456 (by decide)
      · refine lv_aload_n hx hb d_L_law_459 rfl (lv_at hl 3 rfl) ?_
        refine lv_iconst (v := nI 0) hx hb d_L_law_460 (by decide) ?_
        refine nr_lrawA hx hb hK hP 19 1 rfl rfl (by omega) (by decide) d_L_law_461 ?_
        refine lv_iload hx hb d_L_law_462 (lv_at hl 0 rfl) ?_
        refine lv_i2l hx hb d_L_law_464 rfl ?_
        refine W.lcmp hx hb d_L_law_465 ?_
        refine nr_lraw_eq (tgt := 471) hx hb d_L_law_466 (by decide) (fun c_466 => ?_) (fun c_466 => ?_)
        · refine lv_goto (tgt := 747) hx hb d_L_law_471 (by decide) ?_
          exact kk (np, ne, bd, er, vr, fi, kp, nI vr, tl2_2, (ng_rw fi np).length, sz2_9, fw2_10, fk2_11, od2_12, tm, oe, ot, wt, sg, ct2_1, tr2_3, row2_4, pw2_6, lw2_7, lc2_8, le2_13, ho2_14, nr2_5, ou2_15, 0, ll9_33, (ng_rw fi np).length, bw9_34, bs9_35, wt9_38, ib, ie, wo9_18, eo9_19, co9_21, bo9_22, pr9_23, be9_24, la9_31, li9_20, fs9_25, tr9_26, po9_27, pt9_28, al9_29, wy9_30) H locs ls ((J.dec hM2 ht2 hpwF hgr.2.2.1 hs10 hle2 hcob hbw9).up (Nat.le_add_right _ _)) hP hS (lv_sub hl [2, 3, 4, 5, 6] rfl)
        · exact absurd hans c_466
    · exact absurd rfl c_449
set_option maxHeartbeats 4000000 in
set_option maxRecDepth 100000 in
theorem lc_12 {p : Program} {l : Launch} {e : Env} {s : State} {m : MethodId} {below : List Frame} {meth : Method} {c : Code} {b L : Nat} {xs : Nat → Int32} {dC : Nat → ClassId} {dI : Nat → Nat → Nat} {cI cL cZ : ClassId} {A : Nat → Prop} {Q : State → Prop} (C : lx_C p l s m c b L xs dC dI cI cL cZ A) {pd dm oB : Nat} (a : ls_A) (S : ls_S) {v i : Nat} (J : ls_JS v S) (hv : v < 1998) (hi : i + 5 ≤ L) {H : Heap} {locs : List Loc} {cells slots : Nat} (hcs : cells + 1 ≤ room_1.cells ∧ slots + 6 ≤ room_1.slots) (hP : va_P (dC, dI) classes (ls_W cI cL cZ pd dm oB a S) H) (hD : va_D A (ls_W cI cL cZ pd dm oB a S)) (hS : va_S A s.heap H locs) {ls : Array Slot} (hl : lv_has ls 7 [(4, .int (nI i)), (3, .ref oB), (2, .ref dm), (1, .ref pd), (0, .ref b)])
    (kk : ∀ (S2 : ls_S) (H : Heap) (locs : List Loc) (ls : Array Slot), ls_JS (v + 2) S2 → va_P (dC, dI) classes (ls_W cI cL cZ pd dm oB a S2) H → va_S A s.heap H locs → lv_has ls 7 [(4, .int (nI i)), (3, .ref oB), (2, .ref dm), (1, .ref pd), (0, .ref b)] → W p l e room_1 s m #[Value.ref b] below meth c H locs (cells + 1) (slots + 6) Q (F0 m 747 ls [])) :
    W p l e room_1 s m #[Value.ref b] below meth c H locs cells slots Q (F0 m 652 ls []) := by
  obtain ⟨hx, hb, hml, hown, hts, hK, hnz, hst, hAs, hX, hbl, hL, hlT⟩ := C
  obtain ⟨g, wy, mt, fo, tA, oA, uA, wA, sA, cA, rA, xA, nA, pA, qA, kA, lA, hA, iD, tD, oD, uD, wD, sD, eD, vD, yD, lD, xD, cD, zD, pD, bD, fD, gD, qD, rD, aD, kD⟩ := a
  obtain ⟨np, ne, bd, er, vr, fi, kp, mv, tl, rl, sz, fw, fk, od, tm, oe, ot, wt, sg, ct, tr, row, pw, lw, lc, le, ho, nr, ou, th, ll, mn, bw, bs, wv, ib, ie, wo, eo, co, bo, pr, be, la, li, fs, td, po, pt, al, wz⟩ := S
  have J : ls_J v np ne bd er vr fi mv tl sz bw tm oe ot wt ct pw lw le ho ib ie co po pt := J
  have hbA := hAs b hbl
  have hnp := J.hnp
  have hne := J.hne
  have hc0 : cells ≤ room_1.cells ∧ slots ≤ room_1.slots := ⟨by omega, by omega⟩
  have hP : va_P (dC, dI) classes [cg_P pd g wy mt fo fi kp, cg_G g tA oA uA wA sA np ne bd er vr, cg_N tA cI 20 tm, cg_N oA cI 60 oe, cg_N uA cI 60 ot, cg_N wA cI 60 wt, cg_N sA cI 60 sg, cg_W wy g cA rA mv tl, cg_L cA cL 400 ct, cg_N rA cI 20 tr, cg_M mt g wy xA nA pA qA kA rl, cg_N xA cI 10 row, cg_O nA cI 10 nr, cg_N pA cI 100 pw, cg_N qA cI 1024 lw, cg_N kA cI 1024 lc, cg_F fo lA hA sz fw fk od, cg_N lA cI 10 le, cg_N hA cI 10 ho, cg_K oB cL 1 ou, cg_D dm th np ne fi kp iD tD oD uD wD sD eD vD yD lD ll mn xD cD zD pD bD fD gD bw bs sz qD rD aD kD fk wv od, cg_B iD cZ 20 ib, cg_N tD cI 20 tm, cg_N oD cI 60 oe, cg_N uD cI 60 ot, cg_N wD cI 60 wt, cg_N sD cI 60 sg, cg_B eD cZ 60 ie, cg_O vD cI 20 wo, cg_O yD cI 20 eo, cg_N lD cI 60 la, cg_N xD cI 10 li, cg_O cD cI 110 co, cg_O zD cI 10 bo, cg_O pD cI 10 pr, cg_O bD cI 10 be, cg_N fD cI 11 fs, cg_N gD cI 11 td, cg_N qD cI 10 po, cg_N rD cI 10 pt, cg_B aD cZ 10 al, cg_K kD cL 10 wz] H := hP
  have hD : va_D A [cg_P pd g wy mt fo fi kp, cg_G g tA oA uA wA sA np ne bd er vr, cg_N tA cI 20 tm, cg_N oA cI 60 oe, cg_N uA cI 60 ot, cg_N wA cI 60 wt, cg_N sA cI 60 sg, cg_W wy g cA rA mv tl, cg_L cA cL 400 ct, cg_N rA cI 20 tr, cg_M mt g wy xA nA pA qA kA rl, cg_N xA cI 10 row, cg_O nA cI 10 nr, cg_N pA cI 100 pw, cg_N qA cI 1024 lw, cg_N kA cI 1024 lc, cg_F fo lA hA sz fw fk od, cg_N lA cI 10 le, cg_N hA cI 10 ho, cg_K oB cL 1 ou, cg_D dm th np ne fi kp iD tD oD uD wD sD eD vD yD lD ll mn xD cD zD pD bD fD gD bw bs sz qD rD aD kD fk wv od, cg_B iD cZ 20 ib, cg_N tD cI 20 tm, cg_N oD cI 60 oe, cg_N uD cI 60 ot, cg_N wD cI 60 wt, cg_N sD cI 60 sg, cg_B eD cZ 60 ie, cg_O vD cI 20 wo, cg_O yD cI 20 eo, cg_N lD cI 60 la, cg_N xD cI 10 li, cg_O cD cI 110 co, cg_O zD cI 10 bo, cg_O pD cI 10 pr, cg_O bD cI 10 be, cg_N fD cI 11 fs, cg_N gD cI 11 td, cg_N qD cI 10 po, cg_N rD cI 10 pt, cg_B aD cZ 10 al, cg_K kD cL 10 wz] := hD
  have hl : lv_has ls 7 [(4, .int (nI i)), (3, .ref oB), (2, .ref dm), (1, .ref pd), (0, .ref b)] := hl
  by_cases hq : xs (i + 1) < 0 ∨ nI 10 < xs (i + 1)
  · have h_nop := hl
    refine lv_aload_n hx hb d_L_law_652 rfl (lv_at hl 3 rfl) ?_
    refine lv_aload_n hx hb d_L_law_653 rfl (lv_at hl 4 rfl) ?_
    refine lv_iload hx hb d_L_law_654 (lv_at hl 0 rfl) ?_
    refine lv_iconst (v := nI 1) hx hb d_L_law_656 (by decide) ?_
    refine nr_iadd hx hb d_L_law_657 ?_
    refine lw_sld hx hb hX hbl hbA hS (by omega) hL d_L_law_658 ?_
    refine lv_aload_n hx hb d_L_law_659 rfl (lv_at hl 1 rfl) ?_
    refine lw_SW (n := 3) (wr := [cg_G g tA oA uA wA sA np ne bd er vr, cg_N tA cI 20 tm, cg_N oA cI 60 oe, cg_N uA cI 60 ot, cg_N wA cI 60 wt, cg_N sA cI 60 sg, cg_W wy g cA rA mv tl, cg_L cA cL 400 ct, cg_N rA cI 20 tr, cg_M mt g wy xA nA pA qA kA rl, cg_N xA cI 10 row, cg_O nA cI 10 nr, cg_N pA cI 100 pw, cg_N qA cI 1024 lw, cg_N kA cI 1024 lc, cg_F fo lA hA sz fw fk od, cg_N lA cI 10 le, cg_N hA cI 10 ho, cg_D dm th np ne fi kp iD tD oD uD wD sD eD vD yD lD ll mn xD cD zD pD bD fD gD bw bs sz qD rD aD kD fk wv od, cg_B iD cZ 20 ib, cg_N tD cI 20 tm, cg_N oD cI 60 oe, cg_N uD cI 60 ot, cg_N wD cI 60 wt, cg_N sD cI 60 sg, cg_B eD cZ 60 ie, cg_O vD cI 20 wo, cg_O yD cI 20 eo, cg_N lD cI 60 la, cg_N xD cI 10 li, cg_O cD cI 110 co, cg_O zD cI 10 bo, cg_O pD cI 10 pr, cg_O bD cI 10 be, cg_N fD cI 11 fs, cg_N gD cI 11 td, cg_N qD cI 10 po, cg_N rD cI 10 pt, cg_B aD cZ 10 al, cg_K kD cL 10 wz]) [0, 19] [1, 2, 3, 4, 5, 6, 7, 8, 9, 10, 11, 12, 13, 14, 15, 16, 17, 18, 20, 21, 22, 23, 24, 25, 26, 27, 28, 29, 30, 31, 32, 33, 34, 35, 36, 37, 38, 39, 40, 41] rfl rfl (by decide) (As := [.ref pd, .int (xs (i + 1)), .ref oB]) (rest := []) ⟨hx, hb, hml, hown, hts⟩ (c_L_commit_no l hlT dC dI cI cL pd g wy mt fo fi kp oB ou (xs (i + 1)) hq) (fun w h => List.mem_cons_of_mem _ h) wx_L_commit rfl rfl ⟨Nat.le_of_ble_eq_true rfl, Nat.le_of_ble_eq_true rfl⟩ wk_L_85 ws_L_commit wi_L (by decide +kernel) (hK.sub [0, 1] rfl) (hP.sub [0, 19] rfl) ((hD.sub [0, 19] (by decide) rfl).weaken (fun _ _ _ _ => trivial)) rfl hl.1 rfl (lv_room (Nat.le_of_ble_eq_true rfl)) d_L_law_660 hcs hS hP hD hst (fun q c h1 _ => by have h9 := (Array.getElem?_eq_some_iff.mp h1).1; rw [hS.2.1 q h9 (hAs q h9)]; exact h1) (fun r_2 u H locs hw_3 hP hS => ?_)
    obtain ⟨ou2_1, rfl⟩ : ∃ z, z = u := ⟨_, rfl⟩
    have hP : va_P (dC, dI) classes [cg_P pd g wy mt fo fi kp, cg_G g tA oA uA wA sA np ne bd er vr, cg_N tA cI 20 tm, cg_N oA cI 60 oe, cg_N uA cI 60 ot, cg_N wA cI 60 wt, cg_N sA cI 60 sg, cg_W wy g cA rA mv tl, cg_L cA cL 400 ct, cg_N rA cI 20 tr, cg_M mt g wy xA nA pA qA kA rl, cg_N xA cI 10 row, cg_O nA cI 10 nr, cg_N pA cI 100 pw, cg_N qA cI 1024 lw, cg_N kA cI 1024 lc, cg_F fo lA hA sz fw fk od, cg_N lA cI 10 le, cg_N hA cI 10 ho, cg_K oB cL 1 ou2_1, cg_D dm th np ne fi kp iD tD oD uD wD sD eD vD yD lD ll mn xD cD zD pD bD fD gD bw bs sz qD rD aD kD fk wv od, cg_B iD cZ 20 ib, cg_N tD cI 20 tm, cg_N oD cI 60 oe, cg_N uD cI 60 ot, cg_N wD cI 60 wt, cg_N sD cI 60 sg, cg_B eD cZ 60 ie, cg_O vD cI 20 wo, cg_O yD cI 20 eo, cg_N lD cI 60 la, cg_N xD cI 10 li, cg_O cD cI 110 co, cg_O zD cI 10 bo, cg_O pD cI 10 pr, cg_O bD cI 10 be, cg_N fD cI 11 fs, cg_N gD cI 11 td, cg_N qD cI 10 po, cg_N rD cI 10 pt, cg_B aD cZ 10 al, cg_K kD cL 10 wz] H := hP.sub [40, 0, 1, 2, 3, 4, 5, 6, 7, 8, 9, 10, 11, 12, 13, 14, 15, 16, 17, 41, 18, 19, 20, 21, 22, 23, 24, 25, 26, 27, 28, 29, 30, 31, 32, 33, 34, 35, 36, 37, 38, 39] rfl
    have hD : va_D A [cg_P pd g wy mt fo fi kp, cg_G g tA oA uA wA sA np ne bd er vr, cg_N tA cI 20 tm, cg_N oA cI 60 oe, cg_N uA cI 60 ot, cg_N wA cI 60 wt, cg_N sA cI 60 sg, cg_W wy g cA rA mv tl, cg_L cA cL 400 ct, cg_N rA cI 20 tr, cg_M mt g wy xA nA pA qA kA rl, cg_N xA cI 10 row, cg_O nA cI 10 nr, cg_N pA cI 100 pw, cg_N qA cI 1024 lw, cg_N kA cI 1024 lc, cg_F fo lA hA sz fw fk od, cg_N lA cI 10 le, cg_N hA cI 10 ho, cg_K oB cL 1 ou2_1, cg_D dm th np ne fi kp iD tD oD uD wD sD eD vD yD lD ll mn xD cD zD pD bD fD gD bw bs sz qD rD aD kD fk wv od, cg_B iD cZ 20 ib, cg_N tD cI 20 tm, cg_N oD cI 60 oe, cg_N uD cI 60 ot, cg_N wD cI 60 wt, cg_N sD cI 60 sg, cg_B eD cZ 60 ie, cg_O vD cI 20 wo, cg_O yD cI 20 eo, cg_N lD cI 60 la, cg_N xD cI 10 li, cg_O cD cI 110 co, cg_O zD cI 10 bo, cg_O pD cI 10 pr, cg_O bD cI 10 be, cg_N fD cI 11 fs, cg_N gD cI 11 td, cg_N qD cI 10 po, cg_N rD cI 10 pt, cg_B aD cZ 10 al, cg_K kD cL 10 wz] := rw_re hD rfl
    try dsimp only at hw_3
    obtain ⟨hr, hou⟩ := hw_3
    subst hr
    refine lv_istore (lv' := [(5, .int (nI 0)), (4, .int (nI i)), (3, .ref oB), (2, .ref dm), (1, .ref pd), (0, .ref b)]) hx hb d_L_law_663 hl (by decide) rfl (fun ls hl => ?_)
    refine lv_aload_n hx hb d_L_law_665 rfl (lv_at hl 3 rfl) ?_
    refine lv_aload_n hx hb d_L_law_666 rfl (lv_at hl 5 rfl) ?_
    refine lv_iload hx hb d_L_law_667 (lv_at hl 1 rfl) ?_
    refine lv_iconst (v := nI 1) hx hb d_L_law_669 (by decide) ?_
    refine nr_iadd hx hb d_L_law_670 ?_
    refine lw_sld hx hb hX hbl hbA hS (by omega) hL d_L_law_671 ?_
    refine rw_Vi (wr := [cg_P pd g wy mt fo fi kp, cg_G g tA oA uA wA sA np ne bd er vr, cg_N tA cI 20 tm, cg_N oA cI 60 oe, cg_N uA cI 60 ot, cg_N wA cI 60 wt, cg_N sA cI 60 sg, cg_W wy g cA rA mv tl, cg_L cA cL 400 ct, cg_N rA cI 20 tr, cg_M mt g wy xA nA pA qA kA rl, cg_N xA cI 10 row, cg_O nA cI 10 nr, cg_N pA cI 100 pw, cg_N qA cI 1024 lw, cg_N kA cI 1024 lc, cg_F fo lA hA sz fw fk od, cg_N lA cI 10 le, cg_N hA cI 10 ho, cg_K oB cL 1 ou2_1, cg_B iD cZ 20 ib, cg_N tD cI 20 tm, cg_N oD cI 60 oe, cg_N uD cI 60 ot, cg_N wD cI 60 wt, cg_N sD cI 60 sg, cg_B eD cZ 60 ie, cg_O vD cI 20 wo, cg_O yD cI 20 eo, cg_N lD cI 60 la, cg_N xD cI 10 li, cg_O cD cI 110 co, cg_O zD cI 10 bo, cg_O pD cI 10 pr, cg_O bD cI 10 be, cg_N fD cI 11 fs, cg_N gD cI 11 td, cg_N qD cI 10 po, cg_N rD cI 10 pt, cg_B aD cZ 10 al, cg_K kD cL 10 wz]) [20] [0, 1, 2, 3, 4, 5, 6, 7, 8, 9, 10, 11, 12, 13, 14, 15, 16, 17, 18, 19, 21, 22, 23, 24, 25, 26, 27, 28, 29, 30, 31, 32, 33, 34, 35, 36, 37, 38, 39, 40, 41] rfl rfl (by decide) (As := [.int (xs (i + 1))]) (rest := []) ⟨hx, hb, hml, hown, hts⟩ (c_D_commit_no l dC dI cI cL cZ dm th np ne fi kp iD tD oD uD wD sD eD vD yD lD ll mn xD cD zD pD bD fD gD bw bs sz qD rD aD kD fk wv od (xs (i + 1)) hq) (cwV 1 hts (wg_V wk_L_88 wm_D_commit we_D_commit wi_D wc_D_commit) rfl rfl rfl (by decide +kernel) ⟨Nat.le_of_ble_eq_true rfl, Nat.le_of_ble_eq_true rfl⟩) hK (hP.sub [20] rfl) ((hD.sub [20] (by decide) rfl).weaken (fun _ _ _ _ => trivial)) (q0 := 0) rfl rfl rfl rfl hl.1 rfl (lv_room (Nat.le_of_ble_eq_true rfl)) d_L_law_672 hcs hS hP hD (fun r_4 u H locs hw_5 hP hS => ?_)
    have hP : va_P (dC, dI) classes [cg_P pd g wy mt fo fi kp, cg_G g tA oA uA wA sA np ne bd er vr, cg_N tA cI 20 tm, cg_N oA cI 60 oe, cg_N uA cI 60 ot, cg_N wA cI 60 wt, cg_N sA cI 60 sg, cg_W wy g cA rA mv tl, cg_L cA cL 400 ct, cg_N rA cI 20 tr, cg_M mt g wy xA nA pA qA kA rl, cg_N xA cI 10 row, cg_O nA cI 10 nr, cg_N pA cI 100 pw, cg_N qA cI 1024 lw, cg_N kA cI 1024 lc, cg_F fo lA hA sz fw fk od, cg_N lA cI 10 le, cg_N hA cI 10 ho, cg_K oB cL 1 ou2_1, cg_D dm 0 np ne fi kp iD tD oD uD wD sD eD vD yD lD ll mn xD cD zD pD bD fD gD bw bs sz qD rD aD kD fk wv od, cg_B iD cZ 20 ib, cg_N tD cI 20 tm, cg_N oD cI 60 oe, cg_N uD cI 60 ot, cg_N wD cI 60 wt, cg_N sD cI 60 sg, cg_B eD cZ 60 ie, cg_O vD cI 20 wo, cg_O yD cI 20 eo, cg_N lD cI 60 la, cg_N xD cI 10 li, cg_O cD cI 110 co, cg_O zD cI 10 bo, cg_O pD cI 10 pr, cg_O bD cI 10 be, cg_N fD cI 11 fs, cg_N gD cI 11 td, cg_N qD cI 10 po, cg_N rD cI 10 pt, cg_B aD cZ 10 al, cg_K kD cL 10 wz] H := hP.sub [0, 1, 2, 3, 4, 5, 6, 7, 8, 9, 10, 11, 12, 13, 14, 15, 16, 17, 18, 19, 41, 20, 21, 22, 23, 24, 25, 26, 27, 28, 29, 30, 31, 32, 33, 34, 35, 36, 37, 38, 39, 40] rfl
    have hD : va_D A [cg_P pd g wy mt fo fi kp, cg_G g tA oA uA wA sA np ne bd er vr, cg_N tA cI 20 tm, cg_N oA cI 60 oe, cg_N uA cI 60 ot, cg_N wA cI 60 wt, cg_N sA cI 60 sg, cg_W wy g cA rA mv tl, cg_L cA cL 400 ct, cg_N rA cI 20 tr, cg_M mt g wy xA nA pA qA kA rl, cg_N xA cI 10 row, cg_O nA cI 10 nr, cg_N pA cI 100 pw, cg_N qA cI 1024 lw, cg_N kA cI 1024 lc, cg_F fo lA hA sz fw fk od, cg_N lA cI 10 le, cg_N hA cI 10 ho, cg_K oB cL 1 ou2_1, cg_D dm 0 np ne fi kp iD tD oD uD wD sD eD vD yD lD ll mn xD cD zD pD bD fD gD bw bs sz qD rD aD kD fk wv od, cg_B iD cZ 20 ib, cg_N tD cI 20 tm, cg_N oD cI 60 oe, cg_N uD cI 60 ot, cg_N wD cI 60 wt, cg_N sD cI 60 sg, cg_B eD cZ 60 ie, cg_O vD cI 20 wo, cg_O yD cI 20 eo, cg_N lD cI 60 la, cg_N xD cI 10 li, cg_O cD cI 110 co, cg_O zD cI 10 bo, cg_O pD cI 10 pr, cg_O bD cI 10 be, cg_N fD cI 11 fs, cg_N gD cI 11 td, cg_N qD cI 10 po, cg_N rD cI 10 pt, cg_B aD cZ 10 al, cg_K kD cL 10 wz] := rw_re hD rfl
    have hans : ou2_1 0 = r_4.toInt64 := by rw [hou, va_up_self, hw_5]
    refine lv_istore (lv' := [(6, .int r_4), (5, .int (nI 0)), (4, .int (nI i)), (3, .ref oB), (2, .ref dm), (1, .ref pd), (0, .ref b)]) hx hb d_L_law_675 hl (by decide) rfl (fun ls hl => ?_)
    refine lv_aload_n hx hb d_L_law_677 rfl (lv_at hl 4 rfl) ?_
    refine ro_Vi (As := []) (rest := []) ⟨hx, hb, hml, hown, hts⟩ (c_D_thrown l dC dI cI cL cZ dm 0 np ne fi kp iD tD oD uD wD sD eD vD yD lD ll mn xD cD zD pD bD fD gD bw bs sz qD rD aD kD fk wv od ) (cwV 0 hts (wg_V wk_L_57 wm_D_thrown we_D_thrown wi_D wc_D_thrown) rfl rfl rfl (by decide +kernel) ⟨Nat.le_of_ble_eq_true rfl, Nat.le_of_ble_eq_true rfl⟩) hK (hP.sub [20] rfl) (q0 := 0) rfl rfl rfl rfl hl.1 rfl (lv_room (Nat.le_of_ble_eq_true rfl)) d_L_law_678 hcs hS hP (fun H locs hP hS => ?_)
    refine lv_iload hx hb d_L_law_681 (lv_at hl 1 rfl) ?_
    refine nr_icmp_eq (by omega) (by omega) (tgt := 688) hx hb d_L_law_683 (by decide) (fun c_683 => ?_) (fun c_683 => ?_)
    · refine lv_iload hx hb d_L_law_688 (lv_at hl 1 rfl) ?_
      refine nr_if_ne (by omega) (tgt := 705) hx hb d_L_law_690 (by decide) (fun c_690 => ?_) (fun c_690 => ?_)
      · exact absurd c_690 (by decide)
      · refine lv_aload_n hx hb d_L_law_693 rfl (lv_at hl 3 rfl) ?_
        refine lv_iconst (v := nI 0) hx hb d_L_law_694 (by decide) ?_
        refine nr_lrawA hx hb hK hP 19 1 rfl rfl (by omega) (by decide) d_L_law_695 ?_
        refine lv_iload hx hb d_L_law_696 (lv_at hl 0 rfl) ?_
        refine lv_i2l hx hb d_L_law_698 rfl ?_
        refine W.lcmp hx hb d_L_law_699 ?_
        refine nr_lraw_eq (tgt := 705) hx hb d_L_law_700 (by decide) (fun c_700 => ?_) (fun c_700 => ?_)
        · refine lv_goto (tgt := 747) hx hb d_L_law_705 (by decide) ?_
          exact kk (np, ne, bd, er, vr, fi, kp, mv, tl, rl, sz, fw, fk, od, tm, oe, ot, wt, sg, ct, tr, row, pw, lw, lc, le, ho, nr, ou2_1, 0, ll, mn, bw, bs, wv, ib, ie, wo, eo, co, bo, pr, be, la, li, fs, td, po, pt, al, wz) H locs ls (J.up (Nat.le_add_right _ _)) hP hS (lv_sub hl [2, 3, 4, 5, 6] rfl)
        · exact absurd hans c_700
    · exact absurd rfl c_683
  · obtain ⟨t, ht, et⟩ := nI_of2 (x := xs (i + 1)) (M := nI 10) (n := 10) (by decide) (fun z => hq (Or.inl z)) (Int32.not_lt.mp (fun z => hq (Or.inr z)))
    refine lv_aload_n hx hb d_L_law_652 rfl (lv_at hl 3 rfl) ?_
    refine lv_aload_n hx hb d_L_law_653 rfl (lv_at hl 4 rfl) ?_
    refine lv_iload hx hb d_L_law_654 (lv_at hl 0 rfl) ?_
    refine lv_iconst (v := nI 1) hx hb d_L_law_656 (by decide) ?_
    refine nr_iadd hx hb d_L_law_657 ?_
    refine lw_sld hx hb hX hbl hbA hS (by omega) hL d_L_law_658 ?_
    refine nr_as (v := (nI t)) et ?_
    refine lv_aload_n hx hb d_L_law_659 rfl (lv_at hl 1 rfl) ?_
    refine lw_SW (n := 3) (wr := [cg_N sA cI 60 sg, cg_D dm th np ne fi kp iD tD oD uD wD sD eD vD yD lD ll mn xD cD zD pD bD fD gD bw bs sz qD rD aD kD fk wv od, cg_B iD cZ 20 ib, cg_N tD cI 20 tm, cg_N oD cI 60 oe, cg_N uD cI 60 ot, cg_N wD cI 60 wt, cg_N sD cI 60 sg, cg_B eD cZ 60 ie, cg_O vD cI 20 wo, cg_O yD cI 20 eo, cg_N lD cI 60 la, cg_N xD cI 10 li, cg_O cD cI 110 co, cg_O zD cI 10 bo, cg_O pD cI 10 pr, cg_O bD cI 10 be, cg_N fD cI 11 fs, cg_N gD cI 11 td, cg_N qD cI 10 po, cg_N rD cI 10 pt, cg_B aD cZ 10 al, cg_K kD cL 10 wz]) [0, 1, 3, 4, 5, 7, 8, 9, 10, 11, 12, 13, 14, 15, 16, 17, 18, 2, 19] [6, 20, 21, 22, 23, 24, 25, 26, 27, 28, 29, 30, 31, 32, 33, 34, 35, 36, 37, 38, 39, 40, 41] rfl rfl (by decide) (As := [.ref pd, .int (nI t), .ref oB]) (rest := []) ⟨hx, hb, hml, hown, hts⟩ (c_L_commit_ok l hlT dC dI cI cL pd g wy mt fo fi kp tA oA uA wA sA np ne bd er vr cA rA mv tl xA nA pA qA kA rl lA hA sz fw fk od oe ot wt ct tr row pw lw lc le ho nr tm oB ou t (by omega) (by omega) J.hE J.hdf J.W J.hct J.hm J.htl J.hpw J.hlw J.fl J.htm ht) (fun w h => List.mem_cons_of_mem _ h) wx_L_commit rfl rfl ⟨Nat.le_of_ble_eq_true rfl, Nat.le_of_ble_eq_true rfl⟩ wk_L_85 ws_L_commit wi_L (by decide +kernel) (hK.sub [0, 1] rfl) (hP.sub [0, 1, 3, 4, 5, 7, 8, 9, 10, 11, 12, 13, 14, 15, 16, 17, 18, 2, 19] rfl) ((hD.sub [0, 1, 3, 4, 5, 7, 8, 9, 10, 11, 12, 13, 14, 15, 16, 17, 18, 2, 19] (by decide) rfl).weaken (fun _ _ _ _ => trivial)) rfl hl.1 rfl (lv_room (Nat.le_of_ble_eq_true rfl)) d_L_law_660 hcs hS hP hD hst (fun q c h1 _ => by have h9 := (Array.getElem?_eq_some_iff.mp h1).1; rw [hS.2.1 q h9 (hAs q h9)]; exact h1) (fun r_23 u H locs hw_24 hP hS => ?_)
    obtain ⟨ct2_6, tl2_7, tr2_8, row2_9, nr2_10, pw2_11, lw2_12, lc2_13, sz2_14, fw2_15, fk2_16, od2_17, le2_18, ho2_19, fi2_20, kp2_21, ou2_22⟩ := u
    have hP : va_P (dC, dI) classes [cg_P pd g wy mt fo fi2_20 kp2_21, cg_G g tA oA uA wA sA np ne bd er vr, cg_N tA cI 20 tm, cg_N oA cI 60 oe, cg_N uA cI 60 ot, cg_N wA cI 60 wt, cg_N sA cI 60 sg, cg_W wy g cA rA (nI vr) tl2_7, cg_L cA cL 400 ct2_6, cg_N rA cI 20 tr2_8, cg_M mt g wy xA nA pA qA kA ((ng_rw fi np).length), cg_N xA cI 10 row2_9, cg_O nA cI 10 nr2_10, cg_N pA cI 100 pw2_11, cg_N qA cI 1024 lw2_12, cg_N kA cI 1024 lc2_13, cg_F fo lA hA sz2_14 fw2_15 fk2_16 od2_17, cg_N lA cI 10 le2_18, cg_N hA cI 10 ho2_19, cg_K oB cL 1 ou2_22, cg_D dm th np ne fi kp iD tD oD uD wD sD eD vD yD lD ll mn xD cD zD pD bD fD gD bw bs sz qD rD aD kD fk wv od, cg_B iD cZ 20 ib, cg_N tD cI 20 tm, cg_N oD cI 60 oe, cg_N uD cI 60 ot, cg_N wD cI 60 wt, cg_N sD cI 60 sg, cg_B eD cZ 60 ie, cg_O vD cI 20 wo, cg_O yD cI 20 eo, cg_N lD cI 60 la, cg_N xD cI 10 li, cg_O cD cI 110 co, cg_O zD cI 10 bo, cg_O pD cI 10 pr, cg_O bD cI 10 be, cg_N fD cI 11 fs, cg_N gD cI 11 td, cg_N qD cI 10 po, cg_N rD cI 10 pt, cg_B aD cZ 10 al, cg_K kD cL 10 wz] H := hP.sub [23, 24, 40, 25, 26, 27, 0, 28, 29, 30, 31, 32, 33, 34, 35, 36, 37, 38, 39, 41, 1, 2, 3, 4, 5, 6, 7, 8, 9, 10, 11, 12, 13, 14, 15, 16, 17, 18, 19, 20, 21, 22] rfl
    have hD : va_D A [cg_P pd g wy mt fo fi2_20 kp2_21, cg_G g tA oA uA wA sA np ne bd er vr, cg_N tA cI 20 tm, cg_N oA cI 60 oe, cg_N uA cI 60 ot, cg_N wA cI 60 wt, cg_N sA cI 60 sg, cg_W wy g cA rA (nI vr) tl2_7, cg_L cA cL 400 ct2_6, cg_N rA cI 20 tr2_8, cg_M mt g wy xA nA pA qA kA ((ng_rw fi np).length), cg_N xA cI 10 row2_9, cg_O nA cI 10 nr2_10, cg_N pA cI 100 pw2_11, cg_N qA cI 1024 lw2_12, cg_N kA cI 1024 lc2_13, cg_F fo lA hA sz2_14 fw2_15 fk2_16 od2_17, cg_N lA cI 10 le2_18, cg_N hA cI 10 ho2_19, cg_K oB cL 1 ou2_22, cg_D dm th np ne fi kp iD tD oD uD wD sD eD vD yD lD ll mn xD cD zD pD bD fD gD bw bs sz qD rD aD kD fk wv od, cg_B iD cZ 20 ib, cg_N tD cI 20 tm, cg_N oD cI 60 oe, cg_N uD cI 60 ot, cg_N wD cI 60 wt, cg_N sD cI 60 sg, cg_B eD cZ 60 ie, cg_O vD cI 20 wo, cg_O yD cI 20 eo, cg_N lD cI 60 la, cg_N xD cI 10 li, cg_O cD cI 110 co, cg_O zD cI 10 bo, cg_O pD cI 10 pr, cg_O bD cI 10 be, cg_N fD cI 11 fs, cg_N gD cI 11 td, cg_N qD cI 10 po, cg_N rD cI 10 pt, cg_B aD cZ 10 al, cg_K kD cL 10 wz] := rw_re hD rfl
    try dsimp only at hw_24
    obtain ⟨⟨hM2, ht2, hrow, hnr, hpw2, hpwF, hgr⟩, hcl⟩ := hw_24
    refine lv_istore (lv' := [(5, .int r_23), (4, .int (nI i)), (3, .ref oB), (2, .ref dm), (1, .ref pd), (0, .ref b)]) hx hb d_L_law_663 hl (by decide) rfl (fun ls hl => ?_)
    refine lv_aload_n hx hb d_L_law_665 rfl (lv_at hl 3 rfl) ?_
    refine lv_aload_n hx hb d_L_law_666 rfl (lv_at hl 5 rfl) ?_
    refine lv_iload hx hb d_L_law_667 (lv_at hl 1 rfl) ?_
    refine lv_iconst (v := nI 1) hx hb d_L_law_669 (by decide) ?_
    refine nr_iadd hx hb d_L_law_670 ?_
    refine lw_sld hx hb hX hbl hbA hS (by omega) hL d_L_law_671 ?_
    refine nr_as (v := (nI t)) et ?_
    refine rw_Vi (wr := [cg_P pd g wy mt fo fi2_20 kp2_21, cg_G g tA oA uA wA sA np ne bd er vr, cg_N tA cI 20 tm, cg_N oA cI 60 oe, cg_N uA cI 60 ot, cg_N wA cI 60 wt, cg_N sA cI 60 sg, cg_W wy g cA rA (nI vr) tl2_7, cg_L cA cL 400 ct2_6, cg_N rA cI 20 tr2_8, cg_M mt g wy xA nA pA qA kA ((ng_rw fi np).length), cg_N xA cI 10 row2_9, cg_O nA cI 10 nr2_10, cg_N pA cI 100 pw2_11, cg_N qA cI 1024 lw2_12, cg_N kA cI 1024 lc2_13, cg_F fo lA hA sz2_14 fw2_15 fk2_16 od2_17, cg_N lA cI 10 le2_18, cg_N hA cI 10 ho2_19, cg_K oB cL 1 ou2_22, cg_N sD cI 60 sg]) [20, 21, 23, 24, 25, 27, 28, 29, 31, 32, 33, 34, 35, 36, 37, 38, 39, 40, 41, 30, 22] [0, 1, 2, 3, 4, 5, 6, 7, 8, 9, 10, 11, 12, 13, 14, 15, 16, 17, 18, 19, 26] rfl rfl (by decide) (As := [.int (nI t)]) (rest := []) ⟨hx, hb, hml, hown, hts⟩ (c_D_commit_ok l dC dI cI cL cZ dm th np ne fi kp iD tD oD uD wD sD eD vD yD lD ll mn xD cD zD pD bD fD gD bw bs sz qD rD aD kD fk wv od ib oe ot wt ie wo eo li co bo pr be fs td po pt al wz la bd er ct2_6 tm t (by omega) (by omega) J.hE J.hdf J.hv J.fl J.hcb J.hbw (J.DD hM2) J.hib J.hw (ng_M_sy hM2) J.htm ht) (cwV 1 hts (wg_V wk_L_88 wm_D_commit we_D_commit wi_D wc_D_commit) rfl rfl rfl (by decide +kernel) ⟨Nat.le_of_ble_eq_true rfl, Nat.le_of_ble_eq_true rfl⟩) hK (hP.sub [20, 21, 23, 24, 25, 27, 28, 29, 31, 32, 33, 34, 35, 36, 37, 38, 39, 40, 41, 30, 22] rfl) ((hD.sub [20, 21, 23, 24, 25, 27, 28, 29, 31, 32, 33, 34, 35, 36, 37, 38, 39, 40, 41, 30, 22] (by decide) rfl).weaken (fun _ _ _ _ => trivial)) (q0 := 0) rfl rfl rfl rfl hl.1 rfl (lv_room (Nat.le_of_ble_eq_true rfl)) d_L_law_672 hcs hS hP hD (fun r_50 u H locs hw_51 hP hS => ?_)
    obtain ⟨wo9_25, eo9_26, li9_27, co9_28, bo9_29, pr9_30, be9_31, fs9_32, tr9_33, po9_34, pt9_35, al9_36, wy9_37, la9_38, th9_39, ll9_40, bw9_41, bs9_42, ps9_43, lt9_44, wt9_45, fx9_46, pp9_47, fi9_48, kp9_49⟩ := u
    have hP : va_P (dC, dI) classes [cg_P pd g wy mt fo fi2_20 kp2_21, cg_G g tA oA uA wA sA np ne bd er vr, cg_N tA cI 20 tm, cg_N oA cI 60 oe, cg_N uA cI 60 ot, cg_N wA cI 60 wt, cg_N sA cI 60 sg, cg_W wy g cA rA (nI vr) tl2_7, cg_L cA cL 400 ct2_6, cg_N rA cI 20 tr2_8, cg_M mt g wy xA nA pA qA kA ((ng_rw fi np).length), cg_N xA cI 10 row2_9, cg_O nA cI 10 nr2_10, cg_N pA cI 100 pw2_11, cg_N qA cI 1024 lw2_12, cg_N kA cI 1024 lc2_13, cg_F fo lA hA sz2_14 fw2_15 fk2_16 od2_17, cg_N lA cI 10 le2_18, cg_N hA cI 10 ho2_19, cg_K oB cL 1 ou2_22, cg_D dm th9_39 np ne fi9_48 kp9_49 iD tD oD uD wD sD eD vD yD lD ll9_40 ((ng_rw fi np).length) xD cD zD pD bD fD gD bw9_41 bs9_42 ps9_43 qD rD aD kD lt9_44 wt9_45 fx9_46, cg_B iD cZ 20 ib, cg_N tD cI 20 tm, cg_N oD cI 60 oe, cg_N uD cI 60 ot, cg_N wD cI 60 wt, cg_N sD cI 60 sg, cg_B eD cZ 60 ie, cg_O vD cI 20 wo9_25, cg_O yD cI 20 eo9_26, cg_N lD cI 60 la9_38, cg_N xD cI 10 li9_27, cg_O cD cI 110 co9_28, cg_O zD cI 10 bo9_29, cg_O pD cI 10 pr9_30, cg_O bD cI 10 be9_31, cg_N fD cI 11 fs9_32, cg_N gD cI 11 tr9_33, cg_N qD cI 10 po9_34, cg_N rD cI 10 pt9_35, cg_B aD cZ 10 al9_36, cg_K kD cL 10 wy9_37] H := hP.sub [0, 1, 2, 3, 4, 5, 6, 7, 8, 9, 10, 11, 12, 13, 14, 15, 16, 17, 18, 19, 21, 22, 41, 23, 24, 25, 20, 26, 27, 28, 40, 29, 30, 31, 32, 33, 34, 35, 36, 37, 38, 39] rfl
    have hD : va_D A [cg_P pd g wy mt fo fi2_20 kp2_21, cg_G g tA oA uA wA sA np ne bd er vr, cg_N tA cI 20 tm, cg_N oA cI 60 oe, cg_N uA cI 60 ot, cg_N wA cI 60 wt, cg_N sA cI 60 sg, cg_W wy g cA rA (nI vr) tl2_7, cg_L cA cL 400 ct2_6, cg_N rA cI 20 tr2_8, cg_M mt g wy xA nA pA qA kA ((ng_rw fi np).length), cg_N xA cI 10 row2_9, cg_O nA cI 10 nr2_10, cg_N pA cI 100 pw2_11, cg_N qA cI 1024 lw2_12, cg_N kA cI 1024 lc2_13, cg_F fo lA hA sz2_14 fw2_15 fk2_16 od2_17, cg_N lA cI 10 le2_18, cg_N hA cI 10 ho2_19, cg_K oB cL 1 ou2_22, cg_D dm th9_39 np ne fi9_48 kp9_49 iD tD oD uD wD sD eD vD yD lD ll9_40 ((ng_rw fi np).length) xD cD zD pD bD fD gD bw9_41 bs9_42 ps9_43 qD rD aD kD lt9_44 wt9_45 fx9_46, cg_B iD cZ 20 ib, cg_N tD cI 20 tm, cg_N oD cI 60 oe, cg_N uD cI 60 ot, cg_N wD cI 60 wt, cg_N sD cI 60 sg, cg_B eD cZ 60 ie, cg_O vD cI 20 wo9_25, cg_O yD cI 20 eo9_26, cg_N lD cI 60 la9_38, cg_N xD cI 10 li9_27, cg_O cD cI 110 co9_28, cg_O zD cI 10 bo9_29, cg_O pD cI 10 pr9_30, cg_O bD cI 10 be9_31, cg_N fD cI 11 fs9_32, cg_N gD cI 11 tr9_33, cg_N qD cI 10 po9_34, cg_N rD cI 10 pt9_35, cg_B aD cZ 10 al9_36, cg_K kD cL 10 wy9_37] := rw_re hD rfl
    try dsimp only at hw_51
    obtain ⟨⟨hli, hfc, hcob, hpp, heqA, hbw9, hbs9⟩, hmo⟩ := hw_51
    obtain ⟨e1, e2, hfn, hfy⟩ := ng_find rfl J.fl J.hib hrow hnr hpw2 hgr hli hfc hcob hpp heqA
    rcases hcl with ⟨hr, hou, ⟨hF, hn1, hn2, hn3, hn4, hn5, hn6⟩, hn7, hn8⟩ | ⟨hr, hou, hcc, hF, hsz2, hfw2, hfk2, hod2, hpr2, hlen⟩
    · rcases hmo with ⟨hb0, hrD, hfi9, hkp9, hth, hps, hlt, hwt, hfx, hpo, hpt, hal, hwy⟩ | ⟨hbn, -⟩
      rotate_left
      · exact absurd (hfn hF) hbn
      replace hn1 := hn1.symm
      subst hn1
      replace hn2 := hn2.symm
      subst hn2
      replace hn3 := hn3.symm
      subst hn3
      replace hn4 := hn4.symm
      subst hn4
      replace hn5 := hn5.symm
      subst hn5
      replace hn6 := hn6.symm
      subst hn6
      replace hn7 := hn7.symm
      subst hn7
      replace hn8 := hn8.symm
      subst hn8
      replace hps := hps.symm
      subst hps
      replace hlt := hlt.symm
      subst hlt
      replace hwt := hwt.symm
      subst hwt
      replace hfx := hfx.symm
      subst hfx
      replace hpo := hpo.symm
      subst hpo
      replace hpt := hpt.symm
      subst hpt
      replace hal := hal.symm
      subst hal
      replace hwy := hwy.symm
      subst hwy
      replace hfi9 := hfi9.symm
      subst hfi9
      replace hkp9 := hkp9.symm
      subst hkp9
      subst hth
      subst hr
      have hP : va_P (dC, dI) classes [cg_P pd g wy mt fo fi kp, cg_G g tA oA uA wA sA np ne bd er vr, cg_N tA cI 20 tm, cg_N oA cI 60 oe, cg_N uA cI 60 ot, cg_N wA cI 60 wt, cg_N sA cI 60 sg, cg_W wy g cA rA (nI vr) tl2_7, cg_L cA cL 400 ct2_6, cg_N rA cI 20 tr2_8, cg_M mt g wy xA nA pA qA kA ((ng_rw fi np).length), cg_N xA cI 10 row2_9, cg_O nA cI 10 nr2_10, cg_N pA cI 100 pw2_11, cg_N qA cI 1024 lw2_12, cg_N kA cI 1024 lc2_13, cg_F fo lA hA sz fw fk od, cg_N lA cI 10 le, cg_N hA cI 10 ho, cg_K oB cL 1 ou2_22, cg_D dm 1 np ne fi kp iD tD oD uD wD sD eD vD yD lD ll9_40 ((ng_rw fi np).length) xD cD zD pD bD fD gD bw9_41 bs9_42 sz qD rD aD kD fk wv od, cg_B iD cZ 20 ib, cg_N tD cI 20 tm, cg_N oD cI 60 oe, cg_N uD cI 60 ot, cg_N wD cI 60 wt, cg_N sD cI 60 sg, cg_B eD cZ 60 ie, cg_O vD cI 20 wo9_25, cg_O yD cI 20 eo9_26, cg_N lD cI 60 la9_38, cg_N xD cI 10 li9_27, cg_O cD cI 110 co9_28, cg_O zD cI 10 bo9_29, cg_O pD cI 10 pr9_30, cg_O bD cI 10 be9_31, cg_N fD cI 11 fs9_32, cg_N gD cI 11 tr9_33, cg_N qD cI 10 po, cg_N rD cI 10 pt, cg_B aD cZ 10 al, cg_K kD cL 10 wz] H := hP
      have hD : va_D A [cg_P pd g wy mt fo fi kp, cg_G g tA oA uA wA sA np ne bd er vr, cg_N tA cI 20 tm, cg_N oA cI 60 oe, cg_N uA cI 60 ot, cg_N wA cI 60 wt, cg_N sA cI 60 sg, cg_W wy g cA rA (nI vr) tl2_7, cg_L cA cL 400 ct2_6, cg_N rA cI 20 tr2_8, cg_M mt g wy xA nA pA qA kA ((ng_rw fi np).length), cg_N xA cI 10 row2_9, cg_O nA cI 10 nr2_10, cg_N pA cI 100 pw2_11, cg_N qA cI 1024 lw2_12, cg_N kA cI 1024 lc2_13, cg_F fo lA hA sz fw fk od, cg_N lA cI 10 le, cg_N hA cI 10 ho, cg_K oB cL 1 ou2_22, cg_D dm 1 np ne fi kp iD tD oD uD wD sD eD vD yD lD ll9_40 ((ng_rw fi np).length) xD cD zD pD bD fD gD bw9_41 bs9_42 sz qD rD aD kD fk wv od, cg_B iD cZ 20 ib, cg_N tD cI 20 tm, cg_N oD cI 60 oe, cg_N uD cI 60 ot, cg_N wD cI 60 wt, cg_N sD cI 60 sg, cg_B eD cZ 60 ie, cg_O vD cI 20 wo9_25, cg_O yD cI 20 eo9_26, cg_N lD cI 60 la9_38, cg_N xD cI 10 li9_27, cg_O cD cI 110 co9_28, cg_O zD cI 10 bo9_29, cg_O pD cI 10 pr9_30, cg_O bD cI 10 be9_31, cg_N fD cI 11 fs9_32, cg_N gD cI 11 tr9_33, cg_N qD cI 10 po, cg_N rD cI 10 pt, cg_B aD cZ 10 al, cg_K kD cL 10 wz] := hD
      have hl : lv_has ls 7 [(5, .int (nI 1)), (4, .int (nI i)), (3, .ref oB), (2, .ref dm), (1, .ref pd), (0, .ref b)] := hl
      refine lv_istore (lv' := [(6, .int r_50), (5, .int (nI 1)), (4, .int (nI i)), (3, .ref oB), (2, .ref dm), (1, .ref pd), (0, .ref b)]) hx hb d_L_law_675 hl (by decide) rfl (fun ls hl => ?_)
      refine lv_aload_n hx hb d_L_law_677 rfl (lv_at hl 4 rfl) ?_
      refine ro_Vi (As := []) (rest := []) ⟨hx, hb, hml, hown, hts⟩ (c_D_thrown l dC dI cI cL cZ dm 1 np ne fi kp iD tD oD uD wD sD eD vD yD lD ll9_40 ((ng_rw fi np).length) xD cD zD pD bD fD gD bw9_41 bs9_42 sz qD rD aD kD fk wv od ) (cwV 0 hts (wg_V wk_L_57 wm_D_thrown we_D_thrown wi_D wc_D_thrown) rfl rfl rfl (by decide +kernel) ⟨Nat.le_of_ble_eq_true rfl, Nat.le_of_ble_eq_true rfl⟩) hK (hP.sub [20] rfl) (q0 := 0) rfl rfl rfl rfl hl.1 rfl (lv_room (Nat.le_of_ble_eq_true rfl)) d_L_law_678 hcs hS hP (fun H locs hP hS => ?_)
      refine lv_iload hx hb d_L_law_681 (lv_at hl 1 rfl) ?_
      refine nr_icmp_eq (by omega) (by omega) (tgt := 688) hx hb d_L_law_683 (by decide) (fun c_683 => ?_) (fun c_683 => ?_)
      · refine lv_iload hx hb d_L_law_688 (lv_at hl 1 rfl) ?_
        refine nr_if_ne (by omega) (tgt := 705) hx hb d_L_law_690 (by decide) (fun c_690 => ?_) (fun c_690 => ?_)
        · refine lv_goto (tgt := 747) hx hb d_L_law_705 (by decide) ?_
          exact kk (np, ne, bd, er, vr, fi, kp, nI vr, tl2_7, (ng_rw fi np).length, sz, fw, fk, od, tm, oe, ot, wt, sg, ct2_6, tr2_8, row2_9, pw2_11, lw2_12, lc2_13, le, ho, nr2_10, ou2_22, 1, ll9_40, (ng_rw fi np).length, bw9_41, bs9_42, wv, ib, ie, wo9_25, eo9_26, co9_28, bo9_29, pr9_30, be9_31, la9_38, li9_27, fs9_32, tr9_33, po, pt, al, wz) H locs ls ((J.dec hM2 ht2 hpwF hgr.2.2.1 J.hsz J.hle hcob hbw9).up (Nat.le_add_right _ _)) hP hS (lv_sub hl [2, 3, 4, 5, 6] rfl)
        · exact absurd c_690 (by decide)
      · exact absurd rfl c_683
    · obtain ⟨hpos, hbs, hbw, hpl⟩ := hfy hF
      rcases hmo with ⟨hb0, -⟩ | ⟨-, hrD, hfi9, hkp9, hth, hlt, hwt, hps, hfd, hfx, hps10⟩
      · exact absurd hb0 (by omega)
      rw [hpl] at hps hfd hfx
      have hbq := fun (q : Nat × Nat) hq => (fun (z : 0 ≤ q.1 ∧ q.1 < (ng_rw fi np).length ∧ q.1 ≤ q.2 ∧ q.2 < (ng_rw fi np).length) => (⟨z.2.1, z.2.2.2⟩ : q.1 < (ng_rw fi np).length ∧ q.2 < (ng_rw fi np).length)) (ng_tf_b (rl := (ng_rw fi np).length) (pw := pw2_11) (lw := lw2_12) (ng_rw fi np).length 0 (2 ^ (ng_rw fi np).length - 1) q (by omega) hq)
      have hyy := ls_yes hbq e1 e2 hpr2 hfd
      have hg31 : 2 ^ (ng_rw fi np).length - 1 < 2 ^ 31 := Nat.lt_of_le_of_lt (Nat.sub_le _ _) (Nat.pow_lt_pow_right (by decide) (by have := J.fl; omega))
      obtain ⟨hc1, hc2, hc3⟩ := ls_cc J (t := t) (kp := kp) rfl hg31 hrow hnr hyy
      rw [hsz2] at hcc
      rw [hc1] at hcc
      rw [hps] at hfi9 hkp9 hrD
      have hfi2 : fi2_20 = fi9_48 := by rw [hfi9]; exact congrArg Prod.fst hcc
      have hkp2 : kp2_21 = kp9_49 := by rw [hkp9]; exact congrArg Prod.snd hcc
      rw [← hfi9] at hc2 hc3
      clear hfi9 hkp9
      skip
      subst hfi2
      skip
      subst hkp2
      have hans : ou2_22 0 = r_50.toInt64 := by rw [hou, va_up_self, hrD, hc2]
      have hle2 : ∀ k, k < sz2_14 → le2_18 k = po9_34 k ∧ ho2_19 k = pt9_35 k := fun k hk => by rw [hsz2] at hk; obtain ⟨q, -, -, -, z1, z2, -, -⟩ := hyy k hk; exact ⟨z1.symm, z2.symm⟩
      have hs10 : sz2_14 ≤ 10 := by rw [hsz2]; exact hlen
      have hS1 : sz2_14 = ps9_43 := hsz2.trans hps.symm
      have hS2 : fk2_16 = lt9_44 := hfk2.trans (hbs.symm.trans hlt.symm)
      have hS3 : od2_17 = fx9_46 := hod2.trans ((ng_od_cg e1 e2 _ hbq).trans hfx.symm)
      clear hps hps10 hlt hfx
      skip
      subst hS1
      skip
      subst hS2
      skip
      subst hS3
      subst hth
      subst hr
      have hP : va_P (dC, dI) classes [cg_P pd g wy mt fo fi2_20 kp2_21, cg_G g tA oA uA wA sA np ne bd er vr, cg_N tA cI 20 tm, cg_N oA cI 60 oe, cg_N uA cI 60 ot, cg_N wA cI 60 wt, cg_N sA cI 60 sg, cg_W wy g cA rA (nI vr) tl2_7, cg_L cA cL 400 ct2_6, cg_N rA cI 20 tr2_8, cg_M mt g wy xA nA pA qA kA ((ng_rw fi np).length), cg_N xA cI 10 row2_9, cg_O nA cI 10 nr2_10, cg_N pA cI 100 pw2_11, cg_N qA cI 1024 lw2_12, cg_N kA cI 1024 lc2_13, cg_F fo lA hA sz2_14 fw2_15 fk2_16 od2_17, cg_N lA cI 10 le2_18, cg_N hA cI 10 ho2_19, cg_K oB cL 1 ou2_22, cg_D dm 0 np ne fi2_20 kp2_21 iD tD oD uD wD sD eD vD yD lD ll9_40 ((ng_rw fi np).length) xD cD zD pD bD fD gD bw9_41 bs9_42 sz2_14 qD rD aD kD fk2_16 wt9_45 od2_17, cg_B iD cZ 20 ib, cg_N tD cI 20 tm, cg_N oD cI 60 oe, cg_N uD cI 60 ot, cg_N wD cI 60 wt, cg_N sD cI 60 sg, cg_B eD cZ 60 ie, cg_O vD cI 20 wo9_25, cg_O yD cI 20 eo9_26, cg_N lD cI 60 la9_38, cg_N xD cI 10 li9_27, cg_O cD cI 110 co9_28, cg_O zD cI 10 bo9_29, cg_O pD cI 10 pr9_30, cg_O bD cI 10 be9_31, cg_N fD cI 11 fs9_32, cg_N gD cI 11 tr9_33, cg_N qD cI 10 po9_34, cg_N rD cI 10 pt9_35, cg_B aD cZ 10 al9_36, cg_K kD cL 10 wy9_37] H := hP
      have hD : va_D A [cg_P pd g wy mt fo fi2_20 kp2_21, cg_G g tA oA uA wA sA np ne bd er vr, cg_N tA cI 20 tm, cg_N oA cI 60 oe, cg_N uA cI 60 ot, cg_N wA cI 60 wt, cg_N sA cI 60 sg, cg_W wy g cA rA (nI vr) tl2_7, cg_L cA cL 400 ct2_6, cg_N rA cI 20 tr2_8, cg_M mt g wy xA nA pA qA kA ((ng_rw fi np).length), cg_N xA cI 10 row2_9, cg_O nA cI 10 nr2_10, cg_N pA cI 100 pw2_11, cg_N qA cI 1024 lw2_12, cg_N kA cI 1024 lc2_13, cg_F fo lA hA sz2_14 fw2_15 fk2_16 od2_17, cg_N lA cI 10 le2_18, cg_N hA cI 10 ho2_19, cg_K oB cL 1 ou2_22, cg_D dm 0 np ne fi2_20 kp2_21 iD tD oD uD wD sD eD vD yD lD ll9_40 ((ng_rw fi np).length) xD cD zD pD bD fD gD bw9_41 bs9_42 sz2_14 qD rD aD kD fk2_16 wt9_45 od2_17, cg_B iD cZ 20 ib, cg_N tD cI 20 tm, cg_N oD cI 60 oe, cg_N uD cI 60 ot, cg_N wD cI 60 wt, cg_N sD cI 60 sg, cg_B eD cZ 60 ie, cg_O vD cI 20 wo9_25, cg_O yD cI 20 eo9_26, cg_N lD cI 60 la9_38, cg_N xD cI 10 li9_27, cg_O cD cI 110 co9_28, cg_O zD cI 10 bo9_29, cg_O pD cI 10 pr9_30, cg_O bD cI 10 be9_31, cg_N fD cI 11 fs9_32, cg_N gD cI 11 tr9_33, cg_N qD cI 10 po9_34, cg_N rD cI 10 pt9_35, cg_B aD cZ 10 al9_36, cg_K kD cL 10 wy9_37] := hD
      have hl : lv_has ls 7 [(5, .int (nI 0)), (4, .int (nI i)), (3, .ref oB), (2, .ref dm), (1, .ref pd), (0, .ref b)] := hl
      refine lv_istore (lv' := [(6, .int r_50), (5, .int (nI 0)), (4, .int (nI i)), (3, .ref oB), (2, .ref dm), (1, .ref pd), (0, .ref b)]) hx hb d_L_law_675 hl (by decide) rfl (fun ls hl => ?_)
      refine lv_aload_n hx hb d_L_law_677 rfl (lv_at hl 4 rfl) ?_
      refine ro_Vi (As := []) (rest := []) ⟨hx, hb, hml, hown, hts⟩ (c_D_thrown l dC dI cI cL cZ dm 0 np ne fi2_20 kp2_21 iD tD oD uD wD sD eD vD yD lD ll9_40 ((ng_rw fi np).length) xD cD zD pD bD fD gD bw9_41 bs9_42 sz2_14 qD rD aD kD fk2_16 wt9_45 od2_17 ) (cwV 0 hts (wg_V wk_L_57 wm_D_thrown we_D_thrown wi_D wc_D_thrown) rfl rfl rfl (by decide +kernel) ⟨Nat.le_of_ble_eq_true rfl, Nat.le_of_ble_eq_true rfl⟩) hK (hP.sub [20] rfl) (q0 := 0) rfl rfl rfl rfl hl.1 rfl (lv_room (Nat.le_of_ble_eq_true rfl)) d_L_law_678 hcs hS hP (fun H locs hP hS => ?_)
      refine lv_iload hx hb d_L_law_681 (lv_at hl 1 rfl) ?_
      refine nr_icmp_eq (by omega) (by omega) (tgt := 688) hx hb d_L_law_683 (by decide) (fun c_683 => ?_) (fun c_683 => ?_)
      · refine lv_iload hx hb d_L_law_688 (lv_at hl 1 rfl) ?_
        refine nr_if_ne (by omega) (tgt := 705) hx hb d_L_law_690 (by decide) (fun c_690 => ?_) (fun c_690 => ?_)
        · exact absurd c_690 (by decide)
        · refine lv_aload_n hx hb d_L_law_693 rfl (lv_at hl 3 rfl) ?_
          refine lv_iconst (v := nI 0) hx hb d_L_law_694 (by decide) ?_
          refine nr_lrawA hx hb hK hP 19 1 rfl rfl (by omega) (by decide) d_L_law_695 ?_
          refine lv_iload hx hb d_L_law_696 (lv_at hl 0 rfl) ?_
          refine lv_i2l hx hb d_L_law_698 rfl ?_
          refine W.lcmp hx hb d_L_law_699 ?_
          refine nr_lraw_eq (tgt := 705) hx hb d_L_law_700 (by decide) (fun c_700 => ?_) (fun c_700 => ?_)
          · refine lv_goto (tgt := 747) hx hb d_L_law_705 (by decide) ?_
            exact kk (np, ne, bd, er, vr, fi2_20, kp2_21, nI vr, tl2_7, (ng_rw fi np).length, sz2_14, fw2_15, fk2_16, od2_17, tm, oe, ot, wt, sg, ct2_6, tr2_8, row2_9, pw2_11, lw2_12, lc2_13, le2_18, ho2_19, nr2_10, ou2_22, 0, ll9_40, (ng_rw fi np).length, bw9_41, bs9_42, wt9_45, ib, ie, wo9_25, eo9_26, co9_28, bo9_29, pr9_30, be9_31, la9_38, li9_27, fs9_32, tr9_33, po9_34, pt9_35, al9_36, wy9_37) H locs ls (((J.dec hM2 ht2 hpwF hgr.2.2.1 hs10 hle2 hcob hbw9).out hc3).up (Nat.le_add_right _ _)) hP hS (lv_sub hl [2, 3, 4, 5, 6] rfl)
          · exact absurd hans c_700
      · exact absurd rfl c_683
