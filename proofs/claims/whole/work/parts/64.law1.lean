/-! what holds at the head of the law's loop -/
def ls_J (v : Nat) (np ne : Nat) (bd : Int32) (er : Int64) (vr : Nat) (fi mv : Int32) (tl sz bw : Nat) (tm oe ot wt ct pw lw le ho : Nat → Nat) (ib ie : Nat → Bool) (co : Nat → Option Nat) (po pt : Nat → Nat) : Prop := (np ≤ 20) ∧ (ne ≤ 60) ∧ (∀ i, i < ne → oe i < np ∧ ot i < np) ∧ (∀ i, i < ne → oe i ≠ ot i) ∧ (∀ i, i < ne → wt i ≤ 1000000) ∧ (∀ i, i < 20 → tm i < 10) ∧ (∀ k, np ≤ k → nb_t bd k = false) ∧ (∀ k, k < np → ib k = nb_t bd k) ∧ (∀ k, ne ≤ k → nb_u er k = false) ∧ (∀ k, k < ne → ie k = nb_u er k) ∧ (∀ k, np ≤ k → nb_t fi k = false) ∧ (∀ k, k < np → nb_t fi k = true → nb_t bd k = false) ∧ (dm_ct (fun i => nb_t fi i) 32 ≤ 10) ∧ (vr ≤ v) ∧ (mv = -1 ∨ ∃ j, j ≤ vr ∧ mv = nI j) ∧ (mv = nI vr → ng_M np ne bd er oe ot wt ct) ∧ (∀ i, i < 400 → ct i ≤ dm_FAR) ∧ (tl ≤ 20) ∧ (∀ i, i < 100 → pw i ≤ ng_F1) ∧ (∀ i, i < 1024 → lw i ≤ ng_F1) ∧ (sz ≤ 10) ∧ (∀ k, k < sz → le k = po k ∧ ho k = pt k) ∧ (ng_cob co) ∧ (bw ≤ 190000000)
theorem ls_J.mk {v : Nat} {np ne : Nat} {bd : Int32} {er : Int64} {vr : Nat} {fi mv : Int32} {tl sz bw : Nat} {tm oe ot wt ct pw lw le ho : Nat → Nat} {ib ie : Nat → Bool} {co : Nat → Option Nat} {po pt : Nat → Nat} (hnp : np ≤ 20) (hne : ne ≤ 60) (hE : ∀ i, i < ne → oe i < np ∧ ot i < np) (hdf : ∀ i, i < ne → oe i ≠ ot i) (hwt : ∀ i, i < ne → wt i ≤ 1000000) (htm : ∀ i, i < 20 → tm i < 10) (hbd : ∀ k, np ≤ k → nb_t bd k = false) (hib : ∀ k, k < np → ib k = nb_t bd k) (her : ∀ k, ne ≤ k → nb_u er k = false) (hie : ∀ k, k < ne → ie k = nb_u er k) (hfi : ∀ k, np ≤ k → nb_t fi k = false) (hfb : ∀ k, k < np → nb_t fi k = true → nb_t bd k = false) (hpc : dm_ct (fun i => nb_t fi i) 32 ≤ 10) (hvr : vr ≤ v) (hmv : mv = -1 ∨ ∃ j, j ≤ vr ∧ mv = nI j) (hm : mv = nI vr → ng_M np ne bd er oe ot wt ct) (hct : ∀ i, i < 400 → ct i ≤ dm_FAR) (htl : tl ≤ 20) (hpw : ∀ i, i < 100 → pw i ≤ ng_F1) (hlw : ∀ i, i < 1024 → lw i ≤ ng_F1) (hsz : sz ≤ 10) (hle : ∀ k, k < sz → le k = po k ∧ ho k = pt k) (hcb : ng_cob co) (hbw : bw ≤ 190000000) : ls_J v np ne bd er vr fi mv tl sz bw tm oe ot wt ct pw lw le ho ib ie co po pt := ⟨hnp, hne, hE, hdf, hwt, htm, hbd, hib, her, hie, hfi, hfb, hpc, hvr, hmv, hm, hct, htl, hpw, hlw, hsz, hle, hcb, hbw⟩
theorem ls_J.hnp {v : Nat} {np ne : Nat} {bd : Int32} {er : Int64} {vr : Nat} {fi mv : Int32} {tl sz bw : Nat} {tm oe ot wt ct pw lw le ho : Nat → Nat} {ib ie : Nat → Bool} {co : Nat → Option Nat} {po pt : Nat → Nat} (J : ls_J v np ne bd er vr fi mv tl sz bw tm oe ot wt ct pw lw le ho ib ie co po pt) : np ≤ 20 := J.1
theorem ls_J.hne {v : Nat} {np ne : Nat} {bd : Int32} {er : Int64} {vr : Nat} {fi mv : Int32} {tl sz bw : Nat} {tm oe ot wt ct pw lw le ho : Nat → Nat} {ib ie : Nat → Bool} {co : Nat → Option Nat} {po pt : Nat → Nat} (J : ls_J v np ne bd er vr fi mv tl sz bw tm oe ot wt ct pw lw le ho ib ie co po pt) : ne ≤ 60 := J.2.1
theorem ls_J.hE {v : Nat} {np ne : Nat} {bd : Int32} {er : Int64} {vr : Nat} {fi mv : Int32} {tl sz bw : Nat} {tm oe ot wt ct pw lw le ho : Nat → Nat} {ib ie : Nat → Bool} {co : Nat → Option Nat} {po pt : Nat → Nat} (J : ls_J v np ne bd er vr fi mv tl sz bw tm oe ot wt ct pw lw le ho ib ie co po pt) : ∀ i, i < ne → oe i < np ∧ ot i < np := J.2.2.1
theorem ls_J.hdf {v : Nat} {np ne : Nat} {bd : Int32} {er : Int64} {vr : Nat} {fi mv : Int32} {tl sz bw : Nat} {tm oe ot wt ct pw lw le ho : Nat → Nat} {ib ie : Nat → Bool} {co : Nat → Option Nat} {po pt : Nat → Nat} (J : ls_J v np ne bd er vr fi mv tl sz bw tm oe ot wt ct pw lw le ho ib ie co po pt) : ∀ i, i < ne → oe i ≠ ot i := J.2.2.2.1
theorem ls_J.hwt {v : Nat} {np ne : Nat} {bd : Int32} {er : Int64} {vr : Nat} {fi mv : Int32} {tl sz bw : Nat} {tm oe ot wt ct pw lw le ho : Nat → Nat} {ib ie : Nat → Bool} {co : Nat → Option Nat} {po pt : Nat → Nat} (J : ls_J v np ne bd er vr fi mv tl sz bw tm oe ot wt ct pw lw le ho ib ie co po pt) : ∀ i, i < ne → wt i ≤ 1000000 := J.2.2.2.2.1
theorem ls_J.htm {v : Nat} {np ne : Nat} {bd : Int32} {er : Int64} {vr : Nat} {fi mv : Int32} {tl sz bw : Nat} {tm oe ot wt ct pw lw le ho : Nat → Nat} {ib ie : Nat → Bool} {co : Nat → Option Nat} {po pt : Nat → Nat} (J : ls_J v np ne bd er vr fi mv tl sz bw tm oe ot wt ct pw lw le ho ib ie co po pt) : ∀ i, i < 20 → tm i < 10 := J.2.2.2.2.2.1
theorem ls_J.hbd {v : Nat} {np ne : Nat} {bd : Int32} {er : Int64} {vr : Nat} {fi mv : Int32} {tl sz bw : Nat} {tm oe ot wt ct pw lw le ho : Nat → Nat} {ib ie : Nat → Bool} {co : Nat → Option Nat} {po pt : Nat → Nat} (J : ls_J v np ne bd er vr fi mv tl sz bw tm oe ot wt ct pw lw le ho ib ie co po pt) : ∀ k, np ≤ k → nb_t bd k = false := J.2.2.2.2.2.2.1
theorem ls_J.hib {v : Nat} {np ne : Nat} {bd : Int32} {er : Int64} {vr : Nat} {fi mv : Int32} {tl sz bw : Nat} {tm oe ot wt ct pw lw le ho : Nat → Nat} {ib ie : Nat → Bool} {co : Nat → Option Nat} {po pt : Nat → Nat} (J : ls_J v np ne bd er vr fi mv tl sz bw tm oe ot wt ct pw lw le ho ib ie co po pt) : ∀ k, k < np → ib k = nb_t bd k := J.2.2.2.2.2.2.2.1
theorem ls_J.her {v : Nat} {np ne : Nat} {bd : Int32} {er : Int64} {vr : Nat} {fi mv : Int32} {tl sz bw : Nat} {tm oe ot wt ct pw lw le ho : Nat → Nat} {ib ie : Nat → Bool} {co : Nat → Option Nat} {po pt : Nat → Nat} (J : ls_J v np ne bd er vr fi mv tl sz bw tm oe ot wt ct pw lw le ho ib ie co po pt) : ∀ k, ne ≤ k → nb_u er k = false := J.2.2.2.2.2.2.2.2.1
theorem ls_J.hie {v : Nat} {np ne : Nat} {bd : Int32} {er : Int64} {vr : Nat} {fi mv : Int32} {tl sz bw : Nat} {tm oe ot wt ct pw lw le ho : Nat → Nat} {ib ie : Nat → Bool} {co : Nat → Option Nat} {po pt : Nat → Nat} (J : ls_J v np ne bd er vr fi mv tl sz bw tm oe ot wt ct pw lw le ho ib ie co po pt) : ∀ k, k < ne → ie k = nb_u er k := J.2.2.2.2.2.2.2.2.2.1
theorem ls_J.hfi {v : Nat} {np ne : Nat} {bd : Int32} {er : Int64} {vr : Nat} {fi mv : Int32} {tl sz bw : Nat} {tm oe ot wt ct pw lw le ho : Nat → Nat} {ib ie : Nat → Bool} {co : Nat → Option Nat} {po pt : Nat → Nat} (J : ls_J v np ne bd er vr fi mv tl sz bw tm oe ot wt ct pw lw le ho ib ie co po pt) : ∀ k, np ≤ k → nb_t fi k = false := J.2.2.2.2.2.2.2.2.2.2.1
theorem ls_J.hfb {v : Nat} {np ne : Nat} {bd : Int32} {er : Int64} {vr : Nat} {fi mv : Int32} {tl sz bw : Nat} {tm oe ot wt ct pw lw le ho : Nat → Nat} {ib ie : Nat → Bool} {co : Nat → Option Nat} {po pt : Nat → Nat} (J : ls_J v np ne bd er vr fi mv tl sz bw tm oe ot wt ct pw lw le ho ib ie co po pt) : ∀ k, k < np → nb_t fi k = true → nb_t bd k = false := J.2.2.2.2.2.2.2.2.2.2.2.1
theorem ls_J.hpc {v : Nat} {np ne : Nat} {bd : Int32} {er : Int64} {vr : Nat} {fi mv : Int32} {tl sz bw : Nat} {tm oe ot wt ct pw lw le ho : Nat → Nat} {ib ie : Nat → Bool} {co : Nat → Option Nat} {po pt : Nat → Nat} (J : ls_J v np ne bd er vr fi mv tl sz bw tm oe ot wt ct pw lw le ho ib ie co po pt) : dm_ct (fun i => nb_t fi i) 32 ≤ 10 := J.2.2.2.2.2.2.2.2.2.2.2.2.1
theorem ls_J.hvr {v : Nat} {np ne : Nat} {bd : Int32} {er : Int64} {vr : Nat} {fi mv : Int32} {tl sz bw : Nat} {tm oe ot wt ct pw lw le ho : Nat → Nat} {ib ie : Nat → Bool} {co : Nat → Option Nat} {po pt : Nat → Nat} (J : ls_J v np ne bd er vr fi mv tl sz bw tm oe ot wt ct pw lw le ho ib ie co po pt) : vr ≤ v := J.2.2.2.2.2.2.2.2.2.2.2.2.2.1
theorem ls_J.hmv {v : Nat} {np ne : Nat} {bd : Int32} {er : Int64} {vr : Nat} {fi mv : Int32} {tl sz bw : Nat} {tm oe ot wt ct pw lw le ho : Nat → Nat} {ib ie : Nat → Bool} {co : Nat → Option Nat} {po pt : Nat → Nat} (J : ls_J v np ne bd er vr fi mv tl sz bw tm oe ot wt ct pw lw le ho ib ie co po pt) : mv = -1 ∨ ∃ j, j ≤ vr ∧ mv = nI j := J.2.2.2.2.2.2.2.2.2.2.2.2.2.2.1
theorem ls_J.hm {v : Nat} {np ne : Nat} {bd : Int32} {er : Int64} {vr : Nat} {fi mv : Int32} {tl sz bw : Nat} {tm oe ot wt ct pw lw le ho : Nat → Nat} {ib ie : Nat → Bool} {co : Nat → Option Nat} {po pt : Nat → Nat} (J : ls_J v np ne bd er vr fi mv tl sz bw tm oe ot wt ct pw lw le ho ib ie co po pt) : mv = nI vr → ng_M np ne bd er oe ot wt ct := J.2.2.2.2.2.2.2.2.2.2.2.2.2.2.2.1
theorem ls_J.hct {v : Nat} {np ne : Nat} {bd : Int32} {er : Int64} {vr : Nat} {fi mv : Int32} {tl sz bw : Nat} {tm oe ot wt ct pw lw le ho : Nat → Nat} {ib ie : Nat → Bool} {co : Nat → Option Nat} {po pt : Nat → Nat} (J : ls_J v np ne bd er vr fi mv tl sz bw tm oe ot wt ct pw lw le ho ib ie co po pt) : ∀ i, i < 400 → ct i ≤ dm_FAR := J.2.2.2.2.2.2.2.2.2.2.2.2.2.2.2.2.1
theorem ls_J.htl {v : Nat} {np ne : Nat} {bd : Int32} {er : Int64} {vr : Nat} {fi mv : Int32} {tl sz bw : Nat} {tm oe ot wt ct pw lw le ho : Nat → Nat} {ib ie : Nat → Bool} {co : Nat → Option Nat} {po pt : Nat → Nat} (J : ls_J v np ne bd er vr fi mv tl sz bw tm oe ot wt ct pw lw le ho ib ie co po pt) : tl ≤ 20 := J.2.2.2.2.2.2.2.2.2.2.2.2.2.2.2.2.2.1
theorem ls_J.hpw {v : Nat} {np ne : Nat} {bd : Int32} {er : Int64} {vr : Nat} {fi mv : Int32} {tl sz bw : Nat} {tm oe ot wt ct pw lw le ho : Nat → Nat} {ib ie : Nat → Bool} {co : Nat → Option Nat} {po pt : Nat → Nat} (J : ls_J v np ne bd er vr fi mv tl sz bw tm oe ot wt ct pw lw le ho ib ie co po pt) : ∀ i, i < 100 → pw i ≤ ng_F1 := J.2.2.2.2.2.2.2.2.2.2.2.2.2.2.2.2.2.2.1
theorem ls_J.hlw {v : Nat} {np ne : Nat} {bd : Int32} {er : Int64} {vr : Nat} {fi mv : Int32} {tl sz bw : Nat} {tm oe ot wt ct pw lw le ho : Nat → Nat} {ib ie : Nat → Bool} {co : Nat → Option Nat} {po pt : Nat → Nat} (J : ls_J v np ne bd er vr fi mv tl sz bw tm oe ot wt ct pw lw le ho ib ie co po pt) : ∀ i, i < 1024 → lw i ≤ ng_F1 := J.2.2.2.2.2.2.2.2.2.2.2.2.2.2.2.2.2.2.2.1
theorem ls_J.hsz {v : Nat} {np ne : Nat} {bd : Int32} {er : Int64} {vr : Nat} {fi mv : Int32} {tl sz bw : Nat} {tm oe ot wt ct pw lw le ho : Nat → Nat} {ib ie : Nat → Bool} {co : Nat → Option Nat} {po pt : Nat → Nat} (J : ls_J v np ne bd er vr fi mv tl sz bw tm oe ot wt ct pw lw le ho ib ie co po pt) : sz ≤ 10 := J.2.2.2.2.2.2.2.2.2.2.2.2.2.2.2.2.2.2.2.2.1
theorem ls_J.hle {v : Nat} {np ne : Nat} {bd : Int32} {er : Int64} {vr : Nat} {fi mv : Int32} {tl sz bw : Nat} {tm oe ot wt ct pw lw le ho : Nat → Nat} {ib ie : Nat → Bool} {co : Nat → Option Nat} {po pt : Nat → Nat} (J : ls_J v np ne bd er vr fi mv tl sz bw tm oe ot wt ct pw lw le ho ib ie co po pt) : ∀ k, k < sz → le k = po k ∧ ho k = pt k := J.2.2.2.2.2.2.2.2.2.2.2.2.2.2.2.2.2.2.2.2.2.1
theorem ls_J.hcb {v : Nat} {np ne : Nat} {bd : Int32} {er : Int64} {vr : Nat} {fi mv : Int32} {tl sz bw : Nat} {tm oe ot wt ct pw lw le ho : Nat → Nat} {ib ie : Nat → Bool} {co : Nat → Option Nat} {po pt : Nat → Nat} (J : ls_J v np ne bd er vr fi mv tl sz bw tm oe ot wt ct pw lw le ho ib ie co po pt) : ng_cob co := J.2.2.2.2.2.2.2.2.2.2.2.2.2.2.2.2.2.2.2.2.2.2.1
theorem ls_J.hbw {v : Nat} {np ne : Nat} {bd : Int32} {er : Int64} {vr : Nat} {fi mv : Int32} {tl sz bw : Nat} {tm oe ot wt ct pw lw le ho : Nat → Nat} {ib ie : Nat → Bool} {co : Nat → Option Nat} {po pt : Nat → Nat} (J : ls_J v np ne bd er vr fi mv tl sz bw tm oe ot wt ct pw lw le ho ib ie co po pt) : bw ≤ 190000000 := J.2.2.2.2.2.2.2.2.2.2.2.2.2.2.2.2.2.2.2.2.2.2.2
section LSJ
variable {v np ne : Nat} {bd : Int32} {er : Int64} {vr : Nat} {fi mv : Int32} {tl sz bw : Nat} {tm oe ot wt ct pw lw le ho : Nat → Nat} {ib ie : Nat → Bool} {co : Nat → Option Nat} {po pt : Nat → Nat}
theorem ls_J.up (J : ls_J v np ne bd er vr fi mv tl sz bw tm oe ot wt ct pw lw le ho ib ie co po pt) {v2 : Nat} (h : v ≤ v2) : ls_J v2 np ne bd er vr fi mv tl sz bw tm oe ot wt ct pw lw le ho ib ie co po pt := ls_J.mk (hnp := J.hnp) (hne := J.hne) (hE := J.hE) (hdf := J.hdf) (hwt := J.hwt) (htm := J.htm) (hbd := J.hbd) (hib := J.hib) (her := J.her) (hie := J.hie) (hfi := J.hfi) (hfb := J.hfb) (hpc := J.hpc) (hvr := Nat.le_trans J.hvr h) (hmv := J.hmv) (hm := J.hm) (hct := J.hct) (htl := J.htl) (hpw := J.hpw) (hlw := J.hlw) (hsz := J.hsz) (hle := J.hle) (hcb := J.hcb) (hbw := J.hbw)
theorem ls_J.fl (J : ls_J v np ne bd er vr fi mv tl sz bw tm oe ot wt ct pw lw le ho ib ie co po pt) : (ng_rw fi np).length ≤ 10 := by
  rw [ng_rw_ct, ← ng_ct_up 32 (by have := J.hnp; omega) (fun u h _ => J.hfi u h)]
  exact J.hpc
theorem ls_J.c20 (J : ls_J v np ne bd er vr fi mv tl sz bw tm oe ot wt ct pw lw le ho ib ie co po pt) : dm_ct (fun i => nb_t fi i) 32 = dm_ct (fun i => nb_t fi i) 20 := ng_ct_up 32 (by omega) (fun u h _ => J.hfi u (by have := J.hnp; omega))
theorem ls_J.W (J : ls_J v np ne bd er vr fi mv tl sz bw tm oe ot wt ct pw lw le ho ib ie co po pt) : ∀ i, i < ne → ng_w er wt i ≤ 1000000 := by
  intro i hi
  unfold ng_w
  split
  · omega
  · exact J.hwt i hi
theorem ls_J.hw (J : ls_J v np ne bd er vr fi mv tl sz bw tm oe ot wt ct pw lw le ho ib ie co po pt) : ∀ e, e < ne → ng_hv ie wt e = ng_w er wt e := by
  intro e he
  unfold ng_w ng_hv
  rw [J.hie e he]
theorem ls_J.hv (J : ls_J v np ne bd er vr fi mv tl sz bw tm oe ot wt ct pw lw le ho ib ie co po pt) : ∀ i, i < ne → ng_hv ie wt i ≤ 1000000 := fun i hi => by rw [J.hw i hi]; exact J.W i hi
theorem ls_hm {d : Nat} (h : mv = -1 ∨ ∃ j, j ≤ vr ∧ mv = nI j) (hd : 0 < d) (hb : vr + d < 2 ^ 31) : mv ≠ nI (vr + d) := by
  intro q
  rcases h with h | ⟨j, hj, h⟩
  · rw [h] at q
    exact absurd q.symm (ng_nm1 (by omega))
  · rw [h] at q
    have := (nI_eq (by omega) (by omega)).mp q
    omega
theorem ng_bd_t {b : Bool} {k i : Nat} (hk : k < 32) : nb_t (ng_bd b bd k) i = (nb_t bd i || (b && decide (i = k))) := by
  unfold ng_bd
  cases b with
  | false => simp
  | true => rw [if_pos rfl, nb_bt_or, nb_bt_b1 hk]; simp
theorem ls_J.point (J : ls_J v np ne bd er vr fi mv tl sz bw tm oe ot wt ct pw lw le ho ib ie co po pt) {b : Bool} {t : Nat} (hv : v < 2000) (ht : t < 10) (hn : np < 20) : ls_J (v + 1) (np + 1) ne (ng_bd b bd np) er (vr + 1) fi mv tl sz bw (va_up tm np t) oe ot wt ct pw lw le ho (va_up ib np b) ie co po pt :=
  ls_J.mk
    (hnp := hn)
    (hne := J.hne)
    (hE := fun i hi => by have := J.hE i hi; omega)
    (hdf := J.hdf)
    (hwt := J.hwt)
    (htm := fun i hi => by
      by_cases z : i = np
      · rw [z, va_up_self]; exact ht
      · rw [va_up_ne _ _ z]; exact J.htm i hi)
    (hbd := fun k hk => by
      rw [ng_bd_t (by omega), J.hbd k (by omega)]
      have : ¬ k = np := by omega
      simp [this])
    (hib := fun k hk => by
      rw [ng_bd_t (by omega)]
      by_cases z : k = np
      · rw [z, va_up_self, J.hbd np (Nat.le_refl _)]; simp
      · rw [va_up_ne _ _ z, J.hib k (by omega)]; simp [z])
    (her := J.her)
    (hie := J.hie)
    (hfi := fun k hk => J.hfi k (by omega))
    (hfb := fun k hk h => by
      by_cases z : k = np
      · rw [z, J.hfi np (Nat.le_refl _)] at h; cases h
      · rw [ng_bd_t (by omega), J.hfb k (by omega) h]; simp [z])
    (hpc := J.hpc)
    (hvr := by have := J.hvr; omega)
    (hmv := by
      rcases J.hmv with h | ⟨j, h1, h2⟩
      · exact Or.inl h
      · exact Or.inr ⟨j, by omega, h2⟩)
    (hm := fun q => absurd q (ls_hm J.hmv (by omega) (by have := J.hvr; omega)))
    (hct := J.hct)
    (htl := J.htl)
    (hpw := J.hpw)
    (hlw := J.hlw)
    (hsz := J.hsz)
    (hle := J.hle)
    (hcb := J.hcb)
    (hbw := J.hbw)
theorem ls_J.edge (J : ls_J v np ne bd er vr fi mv tl sz bw tm oe ot wt ct pw lw le ho ib ie co po pt) {a b w : Nat} (hv : v < 2000) (ha : a < np) (hb : b < np) (hab : a ≠ b) (hw : w ≤ 1000000) (hn : ne < 60) : ls_J (v + 1) np (ne + 1) bd er (vr + 1) fi mv tl sz bw tm (va_up oe ne a) (va_up ot ne b) (va_up wt ne w) ct pw lw le ho ib (va_up ie ne false) co po pt :=
  ls_J.mk
    (hnp := J.hnp)
    (hne := hn)
    (hE := fun i hi => by
      by_cases z : i = ne
      · rw [z, va_up_self, va_up_self]; exact ⟨ha, hb⟩
      · rw [va_up_ne _ _ z, va_up_ne _ _ z]; exact J.hE i (by omega))
    (hdf := fun i hi => by
      by_cases z : i = ne
      · rw [z, va_up_self, va_up_self]; exact hab
      · rw [va_up_ne _ _ z, va_up_ne _ _ z]; exact J.hdf i (by omega))
    (hwt := fun i hi => by
      by_cases z : i = ne
      · rw [z, va_up_self]; exact hw
      · rw [va_up_ne _ _ z]; exact J.hwt i (by omega))
    (htm := J.htm)
    (hbd := J.hbd)
    (hib := J.hib)
    (her := fun k hk => J.her k (by omega))
    (hie := fun k hk => by
      by_cases z : k = ne
      · rw [z, va_up_self, J.her ne (Nat.le_refl _)]
      · rw [va_up_ne _ _ z]; exact J.hie k (by omega))
    (hfi := J.hfi)
    (hfb := J.hfb)
    (hpc := J.hpc)
    (hvr := by have := J.hvr; omega)
    (hmv := by
      rcases J.hmv with h | ⟨j, h1, h2⟩
      · exact Or.inl h
      · exact Or.inr ⟨j, by omega, h2⟩)
    (hm := fun q => absurd q (ls_hm J.hmv (by omega) (by have := J.hvr; omega)))
    (hct := J.hct)
    (htl := J.htl)
    (hpw := J.hpw)
    (hlw := J.hlw)
    (hsz := J.hsz)
    (hle := J.hle)
    (hcb := J.hcb)
    (hbw := J.hbw)
theorem ls_J.erase (J : ls_J v np ne bd er vr fi mv tl sz bw tm oe ot wt ct pw lw le ho ib ie co po pt) {b : Bool} {k : Nat} (hv : v < 2000) (hk : k < ne) (hb : nb_u er k ≠ b) : ls_J (v + 1) np ne bd (er ^^^ nb_p k) (vr + 1) fi mv tl sz bw tm oe ot wt ct pw lw le ho ib (va_up ie k b) co po pt :=
  ls_J.mk
    (hnp := J.hnp)
    (hne := J.hne)
    (hE := J.hE)
    (hdf := J.hdf)
    (hwt := J.hwt)
    (htm := J.htm)
    (hbd := J.hbd)
    (hib := J.hib)
    (her := fun j hj => by
      have := J.hne
      rw [nb_lbt_xor, nb_lbt_lb1 (by omega), J.her j hj]
      have : ¬ j = k := by omega
      simp [this])
    (hie := fun j hj => by
      have := J.hne
      rw [nb_lbt_xor, nb_lbt_lb1 (by omega)]
      by_cases z : j = k
      · rw [z, va_up_self]
        revert hb
        cases nb_u er k <;> cases b <;> simp
      · rw [va_up_ne _ _ z, J.hie j hj]; simp [z])
    (hfi := J.hfi)
    (hfb := J.hfb)
    (hpc := J.hpc)
    (hvr := by have := J.hvr; omega)
    (hmv := by
      rcases J.hmv with h | ⟨j, h1, h2⟩
      · exact Or.inl h
      · exact Or.inr ⟨j, by omega, h2⟩)
    (hm := fun q => absurd q (ls_hm J.hmv (by omega) (by have := J.hvr; omega)))
    (hct := J.hct)
    (htl := J.htl)
    (hpw := J.hpw)
    (hlw := J.hlw)
    (hsz := J.hsz)
    (hle := J.hle)
    (hcb := J.hcb)
    (hbw := J.hbw)
theorem ls_J.fire (J : ls_J v np ne bd er vr fi mv tl sz bw tm oe ot wt ct pw lw le ho ib ie co po pt) {b : Bool} {k : Nat} (hk : k < np) (hi : nb_t bd k = false) (hb : nb_t fi k ≠ b) (hc : b = true → dm_ct (fun i => nb_t fi i) 32 < 10) : ls_J v np ne bd er vr (fi ^^^ nb_o k) mv tl sz bw tm oe ot wt ct pw lw le ho ib ie co po pt := by
  have hnp := J.hnp
  have hx : ∀ j, nb_t (fi ^^^ nb_o k) j = (nb_t fi j ^^ decide (j = k)) := fun j => by rw [nb_bt_xor, nb_bt_b1 (by omega)]
  exact ls_J.mk
    (hnp := J.hnp)
    (hne := J.hne)
    (hE := J.hE)
    (hdf := J.hdf)
    (hwt := J.hwt)
    (htm := J.htm)
    (hbd := J.hbd)
    (hib := J.hib)
    (her := J.her)
    (hie := J.hie)
    (hfi := fun j hj => by
      rw [hx, J.hfi j hj]
      have : ¬ j = k := by omega
      simp [this])
    (hfb := fun j hj h => by
      by_cases z : j = k
      · rw [z]; exact hi
      · rw [hx] at h
        refine J.hfb j hj ?_
        simpa [z] using h)
    (hpc := by
      cases hv : nb_t fi k with
      | true =>
        have := ng_ct_rm (P := fun i => nb_t fi i) (Q := fun i => nb_t (fi ^^^ nb_o k) i) (a := k) (n := 32) (by omega) hv (by rw [hx, hv]; simp) (fun u _ hu => by rw [hx]; simp [hu])
        have := J.hpc
        omega
      | false =>
        have := ng_ct_rm (P := fun i => nb_t (fi ^^^ nb_o k) i) (Q := fun i => nb_t fi i) (a := k) (n := 32) (by omega) (by rw [hx, hv]; simp) hv (fun u _ hu => by rw [hx]; simp [hu])
        have hbt : b = true := by
          rw [hv] at hb
          revert hb
          cases b <;> simp
        have := hc hbt
        omega)
    (hvr := J.hvr)
    (hmv := J.hmv)
    (hm := J.hm)
    (hct := J.hct)
    (htl := J.htl)
    (hpw := J.hpw)
    (hlw := J.hlw)
    (hsz := J.hsz)
    (hle := J.hle)
    (hcb := J.hcb)
    (hbw := J.hbw)
theorem ls_J.way (J : ls_J v np ne bd er vr fi mv tl sz bw tm oe ot wt ct pw lw le ho ib ie co po pt) {ct2 : Nat → Nat} {tl2 : Nat} (hM : ng_M np ne bd er oe ot wt ct2) (ht : tl2 ≤ 20) : ls_J v np ne bd er vr fi (nI vr) tl2 sz bw tm oe ot wt ct2 pw lw le ho ib ie co po pt :=
  ls_J.mk
    (hnp := J.hnp)
    (hne := J.hne)
    (hE := J.hE)
    (hdf := J.hdf)
    (hwt := J.hwt)
    (htm := J.htm)
    (hbd := J.hbd)
    (hib := J.hib)
    (her := J.her)
    (hie := J.hie)
    (hfi := J.hfi)
    (hfb := J.hfb)
    (hpc := J.hpc)
    (hvr := J.hvr)
    (hmv := Or.inr ⟨vr, Nat.le_refl _, rfl⟩)
    (hm := fun _ => hM)
    (hct := hM.2)
    (htl := ht)
    (hpw := J.hpw)
    (hlw := J.hlw)
    (hsz := J.hsz)
    (hle := J.hle)
    (hcb := J.hcb)
    (hbw := J.hbw)
theorem ls_J.dec (J : ls_J v np ne bd er vr fi mv tl sz bw tm oe ot wt ct pw lw le ho ib ie co po pt) {ct2 pw2 lw2 le2 ho2 po2 pt2 : Nat → Nat} {tl2 sz2 bw2 : Nat} {co2 : Nat → Option Nat} (hM : ng_M np ne bd er oe ot wt ct2) (ht : tl2 ≤ 20) (hpw : ∀ i, i < 100 → pw2 i ≤ ng_F1) (hlw : ∀ i, i < 1024 → lw2 i ≤ ng_F1) (hsz : sz2 ≤ 10) (hle : ∀ k, k < sz2 → le2 k = po2 k ∧ ho2 k = pt2 k) (hcb : ng_cob co2) (hbw : bw2 ≤ 190000000) : ls_J v np ne bd er vr fi (nI vr) tl2 sz2 bw2 tm oe ot wt ct2 pw2 lw2 le2 ho2 ib ie co2 po2 pt2 :=
  ls_J.mk
    (hnp := J.hnp)
    (hne := J.hne)
    (hE := J.hE)
    (hdf := J.hdf)
    (hwt := J.hwt)
    (htm := J.htm)
    (hbd := J.hbd)
    (hib := J.hib)
    (her := J.her)
    (hie := J.hie)
    (hfi := J.hfi)
    (hfb := J.hfb)
    (hpc := J.hpc)
    (hvr := J.hvr)
    (hmv := Or.inr ⟨vr, Nat.le_refl _, rfl⟩)
    (hm := fun _ => hM)
    (hct := hM.2)
    (htl := ht)
    (hpw := hpw)
    (hlw := hlw)
    (hsz := hsz)
    (hle := hle)
    (hcb := hcb)
    (hbw := hbw)
theorem ls_J.out (J : ls_J v np ne bd er vr fi mv tl sz bw tm oe ot wt ct pw lw le ho ib ie co po pt) {fi2 : Int32} (h : ∀ i, i < 32 → nb_t fi2 i = true → nb_t fi i = true) : ls_J v np ne bd er vr fi2 mv tl sz bw tm oe ot wt ct pw lw le ho ib ie co po pt := by
  have hnp := J.hnp
  exact ls_J.mk
    (hnp := J.hnp)
    (hne := J.hne)
    (hE := J.hE)
    (hdf := J.hdf)
    (hwt := J.hwt)
    (htm := J.htm)
    (hbd := J.hbd)
    (hib := J.hib)
    (her := J.her)
    (hie := J.hie)
    (hfi := fun k hk => by
      by_cases z : k < 32
      · cases hv : nb_t fi2 k with
        | false => rfl
        | true =>
          have := h k z hv
          rw [J.hfi k hk] at this
          cases this
      · exact nb_bt_big (by omega))
    (hfb := fun k hk hq => J.hfb k hk (h k (by omega) hq))
    (hpc := Nat.le_trans (dm_ct_mono (fun u hu q => h u hu q)) J.hpc)
    (hvr := J.hvr)
    (hmv := J.hmv)
    (hm := J.hm)
    (hct := J.hct)
    (htl := J.htl)
    (hpw := J.hpw)
    (hlw := J.hlw)
    (hsz := J.hsz)
    (hle := J.hle)
    (hcb := J.hcb)
    (hbw := J.hbw)
theorem ls_J.DD (J : ls_J v np ne bd er vr fi mv tl sz bw tm oe ot wt ct pw lw le ho ib ie co po pt) {ct2 : Nat → Nat} (hM : ng_M np ne bd er oe ot wt ct2) : dm_D np ne (fun k => !ib k) oe ot (fun e => ng_hv ie wt e * 64 + 1) (fun a b => ct2 (a * 20 + b)) :=
  dm_D_cg J.hE (fun k hk => by rw [J.hib k hk]) (fun e he => by rw [J.hw e he]) (ng_M_D J.hE hM)
theorem ng_M_sy {ct2 : Nat → Nat} (hM : ng_M np ne bd er oe ot wt ct2) : ∀ a b, a < np → b < np → ct2 (a * 20 + b) = ct2 (b * 20 + a) := hM.1.2.2.1
end LSJ
theorem ls_J0 : ls_J 0 0 0 (nI 0) (lN 0) 0 (nI 0) (-1) 0 0 0 (fun _ => 0) (fun _ => 0) (fun _ => 0) (fun _ => 0) (fun _ => 0) (fun _ => 0) (fun _ => 0) (fun _ => 0) (fun _ => 0) (fun _ => false) (fun _ => false) (fun _ => some 0) (fun _ => 0) (fun _ => 0) := ls_J.mk
    (hnp := by omega)
    (hne := by omega)
    (hE := fun i hi => by omega)
    (hdf := fun i hi => by omega)
    (hwt := fun i hi => by omega)
    (htm := fun i hi => by omega)
    (hbd := fun k _ => nb_bt_0 k)
    (hib := fun k hk => by omega)
    (her := fun k _ => nb_lbt_0 k)
    (hie := fun k hk => by omega)
    (hfi := fun k _ => nb_bt_0 k)
    (hfb := fun k hk => by omega)
    (hpc := by
    have : dm_ct (fun i => nb_t (nI 0) i) 32 = 0 := by
      rw [ng_ct_up (a := 0) 32 (by omega) (fun u _ _ => nb_bt_0 u)]; rfl
    omega)
    (hvr := by omega)
    (hmv := Or.inl rfl)
    (hm := fun q => absurd q (by decide))
    (hct := fun i _ => by omega)
    (htl := by omega)
    (hpw := fun i _ => by omega)
    (hlw := fun i _ => by omega)
    (hsz := by omega)
    (hle := fun k hk => by omega)
    (hcb := fun k c _ h => by
    have := Option.some.inj h
    omega)
    (hbw := by omega)
/-! the two answers of each call -/
theorem ng_fit_b {np : Nat} {x : Int32} (hnp : np ≤ 20) (h : ng_fit np x = true) : ∀ k, np ≤ k → nb_t x k = false := by
  intro k hk
  by_cases hk2 : k < 32
  · unfold ng_fit at h
    have h := of_decide_eq_true h
    have h2 : (x.toUInt32 >>> ((nI np).toUInt32 &&& Int32.toUInt32 31)).toBitVec = 0#32 := by
      have := congrArg Int32.toBitVec h
      exact this
    have hs : (((nI np).toUInt32 &&& Int32.toUInt32 31).toBitVec % 32).toNat = np := (by decide +kernel : ∀ n, n ≤ 20 → (((nI n).toUInt32 &&& Int32.toUInt32 31).toBitVec % 32).toNat = n) np hnp
    rw [UInt32.toBitVec_shiftRight] at h2
    have h3 := congrArg (fun y : BitVec 32 => y.getLsbD (k - np)) h2
    rw [BitVec.ushiftRight_eq', BitVec.getLsbD_ushiftRight, hs, show np + (k - np) = k by omega, BitVec.getLsbD_zero] at h3
    exact h3
  · exact nb_bt_big (by omega)
theorem ng_neg_t {x : Int32} (h : nb_t x 31 = false) : ¬ x < 0 := by
  intro q
  rw [Int32.lt_iff_toInt_lt] at q
  have h0 : (0 : Int32).toInt = 0 := by decide
  rw [h0] at q
  have h2 : x.toBitVec.msb = false := by rw [BitVec.msb_eq_getLsbD_last]; exact h
  have h3 : x.toInt = x.toBitVec.toInt := rfl
  rw [h3, BitVec.toInt_eq_msb_cond, h2] at q
  simp at q
  omega
theorem ng_fitL_b {ne : Nat} {x : Int64} (hne : ne ≤ 60) (h : ng_fitL ne x = true) : ∀ k, ne ≤ k → nb_u x k = false := by
  intro k hk
  by_cases hk2 : k < 64
  · unfold ng_fitL at h
    have h := of_decide_eq_true h
    have h2 : (x.toUInt64 >>> ((nI ne).toInt64.toUInt64 &&& Int64.toUInt64 63)).toBitVec = 0#64 := by
      have := congrArg Int64.toBitVec h
      exact this
    have hs : (((nI ne).toInt64.toUInt64 &&& Int64.toUInt64 63).toBitVec % 64).toNat = ne := (by decide +kernel : ∀ n, n ≤ 60 → (((nI n).toInt64.toUInt64 &&& Int64.toUInt64 63).toBitVec % 64).toNat = n) ne hne
    rw [UInt64.toBitVec_shiftRight] at h2
    have h3 := congrArg (fun y : BitVec 64 => y.getLsbD (k - ne)) h2
    rw [BitVec.ushiftRight_eq', BitVec.getLsbD_ushiftRight, hs, show ne + (k - ne) = k by omega, BitVec.getLsbD_zero] at h3
    exact h3
  · exact nb_lbt_big (by omega)
theorem ng_neg_u {x : Int64} (h : nb_u x 63 = false) : ¬ x < lN 0 := by
  intro q
  rw [Int64.lt_iff_toInt_lt] at q
  have h0 : (lN 0).toInt = 0 := by decide
  rw [h0] at q
  have h2 : x.toBitVec.msb = false := by rw [BitVec.msb_eq_getLsbD_last]; exact h
  have h3 : x.toInt = x.toBitVec.toInt := rfl
  rw [h3, BitVec.toInt_eq_msb_cond, h2] at q
  simp at q
  omega
theorem ng_ae_eq {ne : Nat} {x : Int64} (hne : ne ≤ 60) : ng_ae ne x = ng_fitL ne x := by
  unfold ng_ae
  cases h : ng_fitL ne x with
  | false => simp
  | true =>
    have := ng_neg_u (ng_fitL_b hne h 63 (by omega))
    simp [this]
theorem ng_and_t {x : Int32} {ib : Nat → Bool} : ∀ (n i : Nat), n ≤ 20 → i < 32 → nb_t (ng_and x ib n) i = (nb_t x i && !(decide (i < n) && ib i)) := by
  intro n
  induction n with
  | zero => intro i _ _; simp [ng_and]
  | succ n ih =>
    intro i hn hi
    rw [ng_and]
    by_cases hb : ib n = true
    · rw [if_pos hb, ng_clr_t hi (by omega), ih i (by omega) hi]
      by_cases z : i = n
      · subst z; simp [hb]
      · have : decide (i < n + 1) = decide (i < n) := by
          by_cases q : i < n
          · simp [q]; omega
          · have : ¬ i < n + 1 := by omega
            simp [q, this]
        rw [this]; simp [z]
    · rw [if_neg hb, ih i (by omega) hi]
      by_cases z : i = n
      · subst z
        have : ib i = false := by simpa using hb
        simp [this]
      · have : decide (i < n + 1) = decide (i < n) := by
          by_cases q : i < n
          · simp [q]; omega
          · have : ¬ i < n + 1 := by omega
            simp [q, this]
        rw [this]
theorem ng_and_eq {np : Nat} {x bd : Int32} {ib : Nat → Bool} (hnp : np ≤ 20) (hib : ∀ k, k < np → ib k = nb_t bd k) (hbd : ∀ k, np ≤ k → nb_t bd k = false) : x &&& (bd ^^^ (-1)) = ng_and x ib np := by
  refine nb_bt_ext (fun i hi => ?_)
  rw [nb_bt_and, ng_not_t hi, ng_and_t np i hnp hi]
  by_cases z : i < np
  · rw [hib i z]; simp [z]
  · rw [hbd i (by omega)]; simp [z]
theorem ng_cb_eq {np : Nat} {bd a b w z : Int32} {ib : Nat → Bool} (hnp : np ≤ 20) (hib : ∀ k, k < np → ib k = nb_t bd k) : ng_cb np ib a b w z = (ng_join np bd a b && ng_ev w z) := by
  unfold ng_cb ng_join
  cases ha : nb_in np a with
  | false => rfl
  | true =>
    cases hb : nb_in np b with
    | false => simp
    | true =>
      obtain ⟨j, hj, rfl⟩ := nb_inI_of (by omega) ha
      obtain ⟨k, hk, rfl⟩ := nb_inI_of (by omega) hb
      rw [nI_clamp (by omega), nI_clamp (by omega), hib j hj, hib k hk]
      simp [Bool.and_assoc]
theorem ng_nth_fst {np : Nat} {bd : Int32} {ib : Nat → Bool} (hnp : np ≤ 20) (hib : ∀ k, k < np → ib k = nb_t bd k) (hbd : ∀ k, np ≤ k → nb_t bd k = false) : ∀ n i, i + n = 20 → ng_nth bd n i 0 = ng_oi (ng_fst ib (np - i) i) := by
  intro n
  induction n with
  | zero =>
    intro i hi
    rw [show np - i = 0 by omega]
    rfl
  | succ n ih =>
    intro i hi
    rw [ng_nth]
    by_cases z : i < np
    · rw [show np - i = (np - (i + 1)) + 1 by omega, ng_fst, hib i z]
      by_cases hb : nb_t bd i = true
      · rw [if_pos hb, if_pos hb, if_pos rfl]; rfl
      · rw [if_neg hb, if_neg hb]; exact ih (i + 1) (by omega)
    · rw [if_neg (by rw [hbd i (by omega)]; decide), ih (i + 1) (by omega), show np - i = 0 by omega, show np - (i + 1) = 0 by omega]
      rfl
theorem ng_nth0 {np : Nat} {bd : Int32} {ib : Nat → Bool} (hnp : np ≤ 20) (hib : ∀ k, k < np → ib k = nb_t bd k) (hbd : ∀ k, np ≤ k → nb_t bd k = false) : ng_nth bd 20 0 0 = ng_oi (ng_fst ib np 0) := ng_nth_fst hnp hib hbd 20 0 rfl
theorem ng_tot_eq {np ne sz : Nat} {fi x : Int32} {er : Int64} {ie : Nat → Bool} (hne : ne ≤ 60) (her : ∀ k, ne ≤ k → nb_u er k = false) (hie : ∀ k, k < ne → ie k = nb_u er k) : ng_tot np ne fi sz er x = ng_totD np ne fi sz ie x := by
  unfold ng_tot ng_totD
  rw [ng_ct_up (a := ne) 64 (by omega) (fun u h _ => her u h), ng_ct_eq (fun u hu => (hie u hu).symm)]
theorem ng_pair_eq {sz : Nat} {le ho po pt : Nat → Nat} {i z : Int32} (hsz : sz ≤ 10) (h : ∀ k, k < sz → le k = po k ∧ ho k = pt k) : ng_pair sz le ho i z = ng_pairD sz po pt i z := by
  unfold ng_pair ng_pairD
  cases hi : nb_in sz i with
  | false => simp
  | true =>
    obtain ⟨j, hj, rfl⟩ := nb_inI_of (by omega) hi
    rw [if_pos rfl, nI_clamp (by omega), (h j hj).1, (h j hj).2]
    by_cases z0 : z = 0
    · rw [if_pos z0, if_pos (by rw [z0]; decide), if_pos z0]
    · rw [if_neg z0]
      by_cases z1 : z = nI 1
      · rw [if_pos z1, if_pos (by rw [z1]; decide), if_neg z0]
      · rw [if_neg z1, if_neg]
        rintro ⟨-, q⟩
        obtain ⟨k, hk, rfl⟩ := nb_inI_of (by omega) q
        rcases (show k = 0 ∨ k = 1 by omega) with rfl | rfl
        · exact z0 (by decide)
        · exact z1 rfl
theorem ng_way_eq {np ne a b z h : Nat} {ib : Nat → Bool} {oe ot hv wg ct : Nat → Nat} {bd : Int32} {er : Int64} {wo eo : Nat → Option Nat} {x : Int32} {f : Bool} (hnp : np ≤ 20) (hE : ∀ i, i < ne → oe i < np ∧ ot i < np) (hdf : ∀ i, i < ne → oe i ≠ ot i) (hhv : ∀ i, i < ne → hv i ≤ 1000000) (hT : ng_T ne z ib oe ot hv wo eo) (hDD : dm_D np ne (fun k => !ib k) oe ot (fun e => hv e * 64 + 1) (fun a b => ct (a * 20 + b))) (hib : ∀ k, k < np → ib k = nb_t bd k) (hhw : ∀ e, e < ne → hv e = ng_w er wg e)
    (hz : z < np) (hh : h < np) (hza : z = max a b) (hha : h = min a b) (hct : ct (a * 20 + b) = ct (h * 20 + z)) (hf : f = decide (b < a)) :
    ng_way ct (ng_pth bd er oe ot wg ct ne a b) a b x = (match wo h with | none => -1 | some w => if x = 0 then nI w else if x = nI 1 then nI (ng_path (ng_nxD wo eo ib oe ot hv ne z) z 20 h).length else ng_te (ng_path (ng_nxD wo eo ib oe ot hv ne z) z 20 h).length (fun i => (ng_path (ng_nxD wo eo ib oe ot hv ne z) z 20 h).getD i 0) (x - nI 2) f) := by
  have hF : ∀ a, a < np → ng_F wo eo a = ct (a * 20 + z) := ng_T_D (D := fun a b => ct (a * 20 + b)) hnp hz hE hhv (fun _ _ => rfl) (fun _ _ => rfl) hT hDD
  have hw := ng_T_wt (D := fun a b => ct (a * 20 + b)) hnp hz hE hhv (fun _ _ => rfl) (fun _ _ => rfl) hT hDD h hh
  unfold ng_wt at hw
  unfold ng_way ng_pth
  rw [hct, ← hza, ← hha, ← hf]
  by_cases c : ct (h * 20 + z) = dm_FAR
  · rw [if_pos c] at hw
    rw [if_pos c, hw]
  · rw [if_neg c] at hw
    rw [if_neg c, ng_pa_eq hnp hE hdf hhv hT hF hib hhw 20 h _ hh hw, hw]
/-! decode and commit: both sides -/
theorem ls_yes {np rl : Nat} {ps : Nat → Nat → Int64} {row2 li9 le2 ho2 po9 pt9 : Nat → Nat} {nr2 bo9 : Nat → Option Nat} {al9 : Nat → Bool} {wy9 : Nat → Int64} {l : List (Nat × Nat)} (hb : ∀ q ∈ l, q.1 < rl ∧ q.2 < rl) (e1 : ∀ i, i < rl → row2 i = li9 i) (e2 : ∀ i, i < rl → nr2 i = bo9 i)
    (h1 : ng_pr np row2 nr2 l le2 ho2 l.length) (h2 : ng_fd np ps li9 bo9 l po9 pt9 al9 wy9 l.length) : ∀ k, k < l.length → ∃ q, l[k]? = some q ∧ le2 k = row2 q.1 ∧ ng_pt row2 nr2 q.1 q.2 = some (ho2 k) ∧ po9 k = le2 k ∧ pt9 k = ho2 k ∧ al9 k = decide (q.1 = q.2) ∧ wy9 k = ps (le2 k) (ho2 k) := by
  intro k hk
  obtain ⟨q, a1, a2, a3, -, -⟩ := h1 k hk
  obtain ⟨p, b1, b2, b3, b4, b5, -, -⟩ := h2 k hk
  cases a1.symm.trans b1
  obtain ⟨c1, c2⟩ := hb q (List.mem_of_getElem? a1)
  have d1 : po9 k = le2 k := by rw [a2, b2, e1 _ c1]
  have d2 : pt9 k = ho2 k := by
    rw [ng_pt_cg e1 e2 c1 c2, b3] at a3
    exact Option.some.inj a3
  exact ⟨q, a1, a2, a3, d1, d2, b4, by rw [b5, d1, d2]⟩
theorem ls_cc {v np ne : Nat} {bd : Int32} {er : Int64} {vr : Nat} {fi mv : Int32} {tl sz bw : Nat} {tm oe ot wt ct pw lw le ho : Nat → Nat} {ib ie : Nat → Bool} {co : Nat → Option Nat} {po pt : Nat → Nat} (J : ls_J v np ne bd er vr fi mv tl sz bw tm oe ot wt ct pw lw le ho ib ie co po pt)
    {rl t g : Nat} {kp : Int64} {ps : Nat → Nat → Int64} {ct2 row2 le2 ho2 po9 pt9 pw2 lw2 : Nat → Nat} {nr2 : Nat → Option Nat} {al9 : Nat → Bool} {wy9 : Nat → Int64} (hrl : (ng_rw fi np).length = rl) (hg : g < 2 ^ 31) (hrow : ∀ i, i < rl → (ng_rw fi np)[i]? = some (row2 i)) (hnr : ∀ i, i < rl → nr2 i = ng_nb bd ct2 (row2 i) np)
    (hy : ∀ k, k < (ng_tf rl pw2 lw2 rl 0 g).length → ∃ q, (ng_tf rl pw2 lw2 rl 0 g)[k]? = some q ∧ le2 k = row2 q.1 ∧ ng_pt row2 nr2 q.1 q.2 = some (ho2 k) ∧ po9 k = le2 k ∧ pt9 k = ho2 k ∧ al9 k = decide (q.1 = q.2) ∧ wy9 k = ps (le2 k) (ho2 k)) :
    ng_cc (fun j => ng_early bd tm le2 ho2 j t) le2 ho2 ps fi kp (ng_tf rl pw2 lw2 rl 0 g).length = ((ng_cm (ng_eaD tm po9 pt9 al9 t) al9 po9 pt9 wy9 fi kp (ng_tf rl pw2 lw2 rl 0 g).length).1, (ng_cm (ng_eaD tm po9 pt9 al9 t) al9 po9 pt9 wy9 fi kp (ng_tf rl pw2 lw2 rl 0 g).length).2.1) ∧
      nI (dm_ct (fun i => nb_t fi i) 32) - nI (dm_ct (fun i => nb_t (ng_cm (ng_eaD tm po9 pt9 al9 t) al9 po9 pt9 wy9 fi kp (ng_tf rl pw2 lw2 rl 0 g).length).1 i) 32) = nI (ng_cm (ng_eaD tm po9 pt9 al9 t) al9 po9 pt9 wy9 fi kp (ng_tf rl pw2 lw2 rl 0 g).length).2.2 ∧
      (∀ i, i < 32 → nb_t (ng_cm (ng_eaD tm po9 pt9 al9 t) al9 po9 pt9 wy9 fi kp (ng_tf rl pw2 lw2 rl 0 g).length).1 i = true → nb_t fi i = true) := by
  have hfl := J.fl
  rw [hrl] at hfl
  have hmem : ∀ i, i < rl → row2 i < np ∧ nb_t fi (row2 i) = true := fun i hi => ng_rw_lt (List.mem_of_getElem? (hrow i hi))
  obtain ⟨-, hdj⟩ := ng_tf_dj (pw := pw2) (lw := lw2) hfl rl 0 g (by omega) hg
  obtain ⟨h1, h2, h3, -⟩ := ng_cc_cm (kp := kp) (ps := ps) (tm := tm) (le := le2) (ho := ho2) (po := po9) (pt := pt9) (al := al9) (wy := wy9) (t := t) (nr := nr2) (row := row2) (rl := rl) (l := ng_tf rl pw2 lw2 rl 0 g) (sz := (ng_tf rl pw2 lw2 rl 0 g).length) J.hnp (Nat.le_refl _) (fun q hq => by have := ng_tf_b rl 0 g q (by omega) hq; omega) hdj hmem (fun i j hi hj h => by
      have hn := ng_rw_inj (fi := fi) np
      have a1 := hrow i hi
      have a2 := hrow j hj
      rw [h] at a1
      rw [← hrl] at hi
      exact (List.getElem?_inj hi hn).mp (a1.trans a2.symm)) (fun i y hi h => by
      rw [hnr i hi] at h
      exact ⟨ng_nb_lt h, (ng_nb_ok h).1⟩) J.hfb hy _ (Nat.le_refl _)
  refine ⟨h1, ?_, h3⟩
  rw [← h2, ← nI_add]
  generalize nI (dm_ct (fun i => nb_t (ng_cm (ng_eaD tm po9 pt9 al9 t) al9 po9 pt9 wy9 fi kp (ng_tf rl pw2 lw2 rl 0 g).length).1 i) 32) = a
  generalize nI (ng_cm (ng_eaD tm po9 pt9 al9 t) al9 po9 pt9 wy9 fi kp (ng_tf rl pw2 lw2 rl 0 g).length).2.2 = b
  rw [Int32.add_comm a b, Int32.add_sub_cancel]
