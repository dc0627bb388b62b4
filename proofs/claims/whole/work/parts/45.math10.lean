/-! the search as a stack of frames: place, what was tried there, the partners before it; the deepest first -/
abbrev ng_fm : Type := Nat × Nat × (Nat → Option Nat)
def ng_gi (mn : Nat) (co : Nat → Option Nat) (fs tr : Nat → Nat) : List ng_fm → (Nat → Option Nat) → Prop
  | [], _ => True
  | x :: r, cp => fs r.length = x.1 ∧ tr r.length = x.2.1 ∧ x.1 = ng_ff x.2.2 mn ∧ x.1 < mn ∧ x.1 ≤ x.2.1 ∧ x.2.1 ≤ 10 ∧ ng_ok2 mn x.2.2 co ∧ ng_cp x.2.2 cp x.1 ∧ r.length + ng_fr mn x.2.2 ≤ mn ∧ ng_gi mn co fs tr r x.2.2
theorem ng_gi_cg {mn : Nat} {co : Nat → Option Nat} {fs tr fs2 tr2 : Nat → Nat} : ∀ (fr : List ng_fm) (cp : Nat → Option Nat), (∀ q, q < fr.length → fs2 q = fs q ∧ tr2 q = tr q) → ng_gi mn co fs tr fr cp → ng_gi mn co fs2 tr2 fr cp := by
  intro fr
  induction fr with
  | nil => intro cp _ _; trivial
  | cons x r ih =>
    intro cp h hg
    obtain ⟨h1, h2, h3, h4, h5, h6, h7, h8, h9, h10⟩ := hg
    obtain ⟨q1, q2⟩ := h r.length (Nat.lt_succ_self _)
    exact ⟨q1.trans h1, q2.trans h2, h3, h4, h5, h6, h7, h8, h9, ih _ (fun q hq => h q (Nat.lt_succ_of_lt hq)) h10⟩
def ng_rs (mn : Nat) (co : Nat → Option Nat) : List ng_fm → List (Nat → Option Nat)
  | [] => []
  | x :: r => ng_er mn co (mn - 1 - r.length) x.2.2 x.1 x.2.1 ++ ng_rs mn co r
def ng_ms (mn : Nat) : List ng_fm → Nat
  | [] => 0
  | x :: r => (11 - x.2.1) * 12 ^ (mn - r.length) + ng_ms mn r
theorem ng_ms_pop {mn : Nat} {x : ng_fm} {r : List ng_fm} (h : x.2.1 ≤ 10) : ng_ms mn r < ng_ms mn (x :: r) := by
  rw [ng_ms]
  have h1 : 0 < 12 ^ (mn - r.length) := Nat.pow_pos (by decide)
  have h2 : 0 < (11 - x.2.1) * 12 ^ (mn - r.length) := Nat.mul_pos (by omega) h1
  omega
theorem ng_ms_st {mn i t j : Nat} {pr : Nat → Option Nat} {r : List ng_fm} (h : t < j) (hj : j ≤ 10) : ng_ms mn ((i, j, pr) :: r) + 12 ^ (mn - r.length) ≤ ng_ms mn ((i, t, pr) :: r) := by
  rw [ng_ms, ng_ms]
  have h2 : (11 - j + 1) * 12 ^ (mn - r.length) ≤ (11 - t) * 12 ^ (mn - r.length) := Nat.mul_le_mul_right _ (by omega)
  rw [Nat.add_mul, Nat.one_mul] at h2
  show (11 - j) * 12 ^ (mn - r.length) + ng_ms mn r + 12 ^ (mn - r.length) ≤ (11 - t) * 12 ^ (mn - r.length) + ng_ms mn r
  omega
theorem ng_ms_s1 {mn i t j : Nat} {pr : Nat → Option Nat} {r : List ng_fm} (h : t < j) (hj : j ≤ 10) : ng_ms mn ((i, j, pr) :: r) < ng_ms mn ((i, t, pr) :: r) := by
  have h1 := ng_ms_st (mn := mn) (i := i) (pr := pr) (r := r) h hj
  have h2 : 0 < 12 ^ (mn - r.length) := Nat.pow_pos (by decide)
  omega
theorem ng_ms_s2 {mn i t j n : Nat} {pr pr2 : Nat → Option Nat} {r : List ng_fm} (h : t < j) (hj : j ≤ 10) (hr : r.length < mn) : ng_ms mn ((n, n, pr2) :: (i, j, pr) :: r) < ng_ms mn ((i, t, pr) :: r) := by
  have h1 := ng_ms_st (mn := mn) (i := i) (pr := pr) (r := r) h hj
  rw [ng_ms]
  have h2 : (11 - n) * 12 ^ (mn - (r.length + 1)) ≤ 11 * 12 ^ (mn - (r.length + 1)) := Nat.mul_le_mul_right _ (by omega)
  have h3 : 12 ^ (mn - r.length) = 12 ^ (mn - (r.length + 1)) * 12 := by
    rw [show mn - r.length = (mn - (r.length + 1)) + 1 by omega, Nat.pow_succ]
  have h4 : 0 < 12 ^ (mn - (r.length + 1)) := Nat.pow_pos (by decide)
  show (11 - n) * 12 ^ (mn - (r.length + 1)) + ng_ms mn ((i, j, pr) :: r) < _
  omega
def ng_eqA (mn : Nat) (a b : ng_ac) : Prop := a.1 = b.1 ∧ a.2.1 = b.2.1 ∧ ∀ i, i < mn → a.2.2 i = b.2.2 i
theorem ng_eqA_t {mn : Nat} {a b c : ng_ac} (h : ng_eqA mn a b) (k : ng_eqA mn b c) : ng_eqA mn a c := ⟨h.1.trans k.1, h.2.1.trans k.2.1, fun i hi => (h.2.2 i hi).trans (k.2.2 i hi)⟩
theorem ng_hd_cg {mn : Nat} {co pr : Nat → Option Nat} {a b : ng_ac} (h : ng_eqA mn a b) : ng_eqA mn (ng_hd mn co a pr) (ng_hd mn co b pr) := by
  obtain ⟨a1, a2, a3⟩ := a
  obtain ⟨b1, b2, b3⟩ := b
  obtain ⟨h1, h2, h3⟩ := h
  have h1 : a1 = b1 := h1
  have h2 : a2 = b2 := h2
  subst h1 h2
  exact ng_hd_c h3
theorem ng_fo_cg {mn : Nat} {co : Nat → Option Nat} : ∀ (L : List (Nat → Option Nat)) (a b : ng_ac), ng_eqA mn a b → ng_eqA mn (L.foldl (ng_hd mn co) a) (L.foldl (ng_hd mn co) b) := by
  intro L
  induction L with
  | nil => intro a b h; exact h
  | cons x L ih => intro a b h; exact ih _ _ (ng_hd_cg h)
theorem ng_gi_0 {mn : Nat} {co pr : Nat → Option Nat} {fs tr : Nat → Nat} (h0 : 0 < mn) (hp : ∀ k, k < mn → pr k = none) : ng_gi mn co (va_up fs 0 0) (va_up tr 0 0) [(0, 0, pr)] pr := by
  refine ⟨va_up_self _ _ _, va_up_self _ _ _, (ng_ff_0 h0 hp).symm, h0, Nat.le_refl _, Nat.zero_le _, fun k j hk hj => ?_, Or.inl rfl, ?_, trivial⟩
  · have hj : pr k = some j := hj
    rw [hp k hk] at hj; cases hj
  · have := dm_ct_le (P := fun i => (pr i).isNone) (n := mn)
    show 0 + ng_fr mn pr ≤ mn
    unfold ng_fr; omega
theorem ng_rs_0 {mn : Nat} {co pr : Nat → Option Nat} (h0 : 0 < mn) (hp : ∀ k, k < mn → pr k = none) : ng_rs mn co [(0, 0, pr)] = ng_en mn co mn pr := by
  have h1 := ng_ff_0 h0 hp
  have h2 : ng_en mn co ((mn - 1) + 1) pr = ng_er mn co (mn - 1) pr (ng_ff pr mn) (ng_ff pr mn) := ng_en_r (by omega)
  rw [h1, show mn - 1 + 1 = mn by omega] at h2
  rw [h2]
  show ng_er mn co (mn - 1 - 0) pr 0 0 ++ [] = _
  rw [List.append_nil]; rfl
theorem ng_en_l {mn : Nat} {co pr : Nat → Option Nat} (hmn : mn ≤ 10) (f : Nat) : (ng_en mn co f pr).length ≤ 3628800 := by
  have h1 := ng_en_len (co := co) hmn f pr
  have h2 : ng_fac (10 - ng_ff pr mn) ≤ ng_fac 10 := ng_fac_mono (by omega)
  have h3 : ng_fac 10 = 3628800 := by decide
  omega
theorem ng_gi_pop {mn i t : Nat} {co pr cp : Nat → Option Nat} {fs tr tr9 : Nat → Nat} {r : List ng_fm} (hg : ng_gi mn co fs tr ((i, t, pr) :: r) cp) (hto : ∀ q, q ≠ r.length → tr9 q = tr q) : ng_gi mn co fs tr9 r pr := by
  obtain ⟨h1, h2, h3, h4, h5, h6, h7, h8, h9, h10⟩ := hg
  exact ng_gi_cg r pr (fun q hq => ⟨rfl, hto q (by omega)⟩) h10
theorem ng_rs_pop {mn i t : Nat} {co pr : Nat → Option Nat} {r : List ng_fm} (hn : ng_nj mn pr co i t = none) : ng_rs mn co ((i, t, pr) :: r) = ng_rs mn co r := by
  show ng_er mn co (mn - 1 - r.length) pr i t ++ ng_rs mn co r = _
  rw [ng_er_n _ t (Nat.le_refl _) hn]; rfl
theorem ng_rs_st {mn i t j : Nat} {co pr : Nat → Option Nat} {r : List ng_fm} (hn : ng_nj mn pr co i t = some j) : t < j ∧ j ≤ 10 ∧ ng_may mn pr co i j = true ∧ ng_rs mn co ((i, t, pr) :: r) = ng_en mn co (mn - 1 - r.length) (ng_s2 pr i j) ++ ng_rs mn co ((i, j, pr) :: r) := by
  obtain ⟨h1, h2, h3, h4⟩ := ng_er_s (f := mn - 1 - r.length) _ t (Nat.le_refl _) hn
  refine ⟨h1, h2, h3, ?_⟩
  show ng_er mn co (mn - 1 - r.length) pr i t ++ ng_rs mn co r = ng_en mn co (mn - 1 - r.length) (ng_s2 pr i j) ++ (ng_er mn co (mn - 1 - r.length) pr i j ++ ng_rs mn co r)
  rw [h4, List.append_assoc]
theorem ng_gi_st {mn i t j : Nat} {co pr cp : Nat → Option Nat} {fs tr tr9 : Nat → Nat} {r : List ng_fm} (hmn : mn ≤ 10) (hg : ng_gi mn co fs tr ((i, t, pr) :: r) cp) (htj : t < j) (hj : j ≤ 10) (hm : ng_may mn pr co i j = true) (hto : ∀ q, q ≠ r.length → tr9 q = tr q) (ht : tr9 r.length = j) : ng_gi mn co fs tr9 ((i, j, pr) :: r) (ng_s2 pr i j) ∧ ng_ok2 mn (ng_s2 pr i j) co := by
  obtain ⟨h1, h2, h3, h4, h5, h6, h7, h8, h9, h10⟩ := hg
  have h1 : fs r.length = i := h1
  have h5 : i ≤ t := h5
  have hs := ng_may_s hm
  exact ⟨⟨h1, ht, h3, h4, by show i ≤ j; omega, hj, h7, Or.inr ⟨j, rfl, by show i < j; omega, hj, fun q => (hs.2 (by omega)).2⟩, h9, ng_gi_cg r pr (fun q hq => ⟨rfl, hto q (by omega)⟩) h10⟩, ng_ok2_s hmn (by omega) hj hm h7⟩
theorem ng_gi_push {mn i j n : Nat} {co pr : Nat → Option Nat} {fs tr9 : Nat → Nat} {r : List ng_fm} (hij : i < j) (hmn : mn ≤ 10) (hg : ng_gi mn co fs tr9 ((i, j, pr) :: r) (ng_s2 pr i j)) (ho : ng_ok2 mn (ng_s2 pr i j) co) (hn : n = ng_ff (ng_s2 pr i j) mn) (hne : n ≠ mn) : ng_gi mn co (va_up fs (r.length + 1) n) (va_up tr9 (r.length + 1) n) ((n, n, ng_s2 pr i j) :: (i, j, pr) :: r) (ng_s2 pr i j) ∧ r.length + 1 < mn := by
  have hg0 := hg
  obtain ⟨h1, h2, h3, h4, h5, h6, h7, h8, h9, h10⟩ := hg
  have h3 : i = ng_ff pr mn := h3
  have h4 : i < mn := h4
  have h9 : r.length + ng_fr mn pr ≤ mn := h9
  have hf := ng_ff_lt (pr := ng_s2 pr i j) (mn := mn) (by omega)
  have hp : pr i = none := by rw [h3]; exact (ng_ff_lt (by omega)).2.1
  have hfr := ng_fr_s2 h4 hp (show i ≠ j by omega)
  have hpos := ng_fr_pos hf.1 hf.2.1
  refine ⟨⟨va_up_self _ _ _, va_up_self _ _ _, hn, by show n < mn; omega, Nat.le_refl _, by show n ≤ 10; omega, ho, Or.inl rfl, ?_, ?_⟩, by omega⟩
  · show r.length + 1 + ng_fr mn (ng_s2 pr i j) ≤ mn
    omega
  · exact ng_gi_cg ((i, j, pr) :: r) _ (fun q hq => ⟨va_up_ne _ _ (by have : q < r.length + 1 := hq; omega), va_up_ne _ _ (by have : q < r.length + 1 := hq; omega)⟩) hg0
theorem ng_rs_push {mn i j n f : Nat} {co pr : Nat → Option Nat} {r : List ng_fm} (hr : r.length + 1 < mn) (hn : n = ng_ff (ng_s2 pr i j) mn) (hne : n ≠ mn) (hf : f = mn - 1 - r.length) : ng_en mn co f (ng_s2 pr i j) ++ ng_rs mn co ((i, j, pr) :: r) = ng_rs mn co ((n, n, ng_s2 pr i j) :: (i, j, pr) :: r) := by
  subst hf
  rw [show mn - 1 - r.length = (mn - 1 - (r.length + 1)) + 1 by omega, ng_en_r (by omega), ← hn]
  rfl
