/-! what the class writes -/
def p_ldl (rq : Nat → Int64) (fr : Nat) : Nat → Int64
  | 0 => rq fr - rq (fr - 1)
  | t + 1 => if rq (fr + 1 + t) - rq (fr + 1 + t - 1) < p_ldl rq fr t then rq (fr + 1 + t) - rq (fr + 1 + t - 1) else p_ldl rq fr t
/-- the least difference of a block -/
def p_ld (rq : Nat → Int64) (rc k : Nat) : Int64 := p_ldl rq (p_pe k 0 rc) (p_pe k 4 rc - p_pe k 0 rc - 1)
def p_nwl (rq : Nat → Int64) (le : Int64) (fr : Nat) : Nat → Int64
  | 0 => 0
  | t + 1 => p_nwl rq le fr t ||| (rq (fr + t) - rq (fr + t - 1) - le)
def p_inlz (x : Int32) : Nat := 32 - (if x.toBitVec.toNat = 0 then 0 else x.toBitVec.toNat.log2 + 1)
def p_nlz (x : Int64) : Nat := 64 - (if x.toBitVec.toNat = 0 then 0 else x.toBitVec.toNat.log2 + 1)
theorem p_inlz_neg {x : Int32} (h : ¬ 0 < x) (h2 : ¬ x = 0) : p_inlz x = 0 := by
  have hlt := x.toBitVec.isLt
  have h3 : 2 ^ 31 ≤ x.toBitVec.toNat := by
    apply Nat.le_of_not_lt
    intro z
    apply h
    obtain ⟨n, hn, rfl⟩ := wb_of32 x
    rw [pk_tn hn] at z
    rw [← nI_0]
    exact nI_lt (Nat.pos_of_ne_zero (fun q => h2 (by rw [q]; exact nI_0))) z
  have h4 : x.toBitVec.toNat ≠ 0 := by omega
  have h5 : x.toBitVec.toNat.log2 = 31 := (Nat.log2_eq_iff h4).mpr ⟨h3, hlt⟩
  unfold p_inlz
  rw [if_neg h4, h5]
theorem p_inlz_pos {n0 kk y : Nat} (hn0 : n0 < 2 ^ 31) (hn1 : 0 < n0) (hkk : 1 ≤ kk ∧ kk ≤ 31) (hy : y = n0 / 2 ^ (31 - kk)) (h0 : 0 < y) (hbd : y < 4) : p_inlz (nI n0) = kk - y / 2 ^ 1 := by
  have hP : 0 < 2 ^ (31 - kk) := Nat.two_pow_pos _
  have e1 := Nat.div_add_mod n0 (2 ^ (31 - kk))
  have e2 := Nat.mod_lt n0 hP
  rw [← hy] at e1
  have hne : n0 ≠ 0 := by omega
  unfold p_inlz
  rw [pk_tn (by omega), if_neg hne]
  have p1 : 2 ^ (31 - kk + 1) = 2 ^ (31 - kk) * 2 := Nat.pow_succ _ _
  have p2 : 2 ^ (31 - kk + 2) = 2 ^ (31 - kk) * 2 * 2 := by rw [Nat.pow_succ, Nat.pow_succ]
  rcases (show y = 1 ∨ y = 2 ∨ y = 3 by omega) with q | q | q
  · rw [q] at e1 ⊢
    have h5 : n0.log2 = 31 - kk := (Nat.log2_eq_iff hne).mpr ⟨by omega, by rw [p1]; omega⟩
    rw [h5]; omega
  · rw [q] at e1 ⊢
    have h5 : n0.log2 = 31 - kk + 1 := (Nat.log2_eq_iff hne).mpr ⟨by rw [p1]; omega, by rw [show 31 - kk + 1 + 1 = 31 - kk + 2 from rfl, p2]; omega⟩
    rw [h5]; omega
  · rw [q] at e1 ⊢
    have h5 : n0.log2 = 31 - kk + 1 := (Nat.log2_eq_iff hne).mpr ⟨by rw [p1]; omega, by rw [show 31 - kk + 1 + 1 = 31 - kk + 2 from rfl, p2]; omega⟩
    rw [h5]; omega
theorem log2_up {u : Nat} (h : 2 ^ 32 ≤ u) : u.log2 = (u / 2 ^ 32).log2 + 32 := by
  have hv : u / 2 ^ 32 ≠ 0 := by omega
  have hu : u ≠ 0 := by omega
  have h1 := Nat.log2_self_le hv
  have h2 := Nat.lt_log2_self (n := u / 2 ^ 32)
  refine (Nat.log2_eq_iff hu).mpr ⟨?_, ?_⟩
  · rw [Nat.pow_add]
    generalize 2 ^ (u / 2 ^ 32).log2 = P at *
    omega
  · have e3 : ∀ j : Nat, 2 ^ (j + 32 + 1) = 2 ^ (j + 1) * 2 ^ 32 := fun j => by rw [show j + 32 + 1 = (j + 1) + 32 by omega, Nat.pow_add]
    rw [e3]
    generalize 2 ^ ((u / 2 ^ 32).log2 + 1) = P at *
    omega
theorem zush32 (x : Int64) : (zushr x (nI 32)).toInt32 = nI (x.toBitVec.toNat / 2 ^ 32) := by
  obtain ⟨n, hn, rfl⟩ := wb_of x
  unfold zushr
  rw [wb_shr hn (by decide), lN_i, wb_tn hn]
theorem p_nlz_hi {x : Int64} (h : ¬ (zushr x (nI 32)).toInt32 = 0) : p_inlz ((zushr x (nI 32)).toInt32) = p_nlz x := by
  have hu := x.toBitVec.isLt
  rw [zush32] at h ⊢
  unfold p_inlz p_nlz
  have h3 : x.toBitVec.toNat / 2 ^ 32 < 2 ^ 32 := by omega
  rw [pk_tn h3]
  have h4 : x.toBitVec.toNat / 2 ^ 32 ≠ 0 := fun z => h (by rw [z]; exact nI_0)
  rw [if_neg h4, if_neg (by omega), log2_up (u := x.toBitVec.toNat) (by omega)]
  omega
theorem p_nlz_lo {x : Int64} (h : (zushr x (nI 32)).toInt32 = 0) : 32 + p_inlz x.toInt32 = p_nlz x := by
  have hu := x.toBitVec.isLt
  rw [zush32] at h
  have h3 : x.toBitVec.toNat / 2 ^ 32 < 2 ^ 32 := by omega
  have h4 : x.toBitVec.toNat / 2 ^ 32 = 0 := by
    have h5 : (nI (x.toBitVec.toNat / 2 ^ 32)).toBitVec.toNat = (0 : Int32).toBitVec.toNat := by rw [h]
    rw [pk_tn h3] at h5
    exact h5
  have h5 : x.toBitVec.toNat < 2 ^ 32 := by omega
  have h6 : x.toInt32.toBitVec.toNat = x.toBitVec.toNat := by
    have := lN_self x
    rw [this, lN_i, pk_tn h5, ← this]
  unfold p_inlz p_nlz
  rw [h6]
  by_cases h7 : x.toBitVec.toNat = 0
  · rw [if_pos h7]
  · rw [if_neg h7]
    have := (Nat.log2_lt (k := 32) h7).mpr h5
    omega
/-- the width that a part needs -/
def p_wd (rq : Nat → Int64) (rc : Nat) (le : Int64) (k p : Nat) : Nat := 64 - p_nlz (p_nwl rq le (p_pe k p rc) (p_pe k (p + 1) rc - p_pe k p rc))
def p_wpl (rq : Nat → Int64) (le : Int64) (en w : Nat) : Nat → Nat → Nat → (Nat → Int64) → (Nat → Int64)
  | 0, _, _, wd => wd
  | t + 1, i, q, wd => p_wpl rq le en w t (i + 1) (q + w) (p_setBits wd q w (if i < en then rq i - rq (i - 1) - le else 0))
def p_wp (rq : Nat → Int64) (rc : Nat) (le : Int64) (w k p : Nat) (b : BB) : BB := (p_wpl rq le (p_pe k (p + 1) rc) w 16 (p_pe k p rc) (b.2 * 8) b.1, b.2 + w * 16 / 8)
/-- the widths of a block: the bytes, and the layout's row of widths -/
def p_wbw (rq : Nat → Int64) (rc : Nat) (le : Int64) (k : Nat) : Nat → BB × (Nat → Int32) → BB × (Nat → Int32)
  | 0, x => x
  | t + 1, x => (p_add (p_wbw rq rc le k t x).1 (nI (p_wd rq rc le k t)), upd (p_wbw rq rc le k t x).2 (k * 4 + t) (nI (p_wd rq rc le k t)))
/-- the parts of a block: the bytes, and the layout's row of starts -/
def p_wbp (rq : Nat → Int64) (rc : Nat) (le : Int64) (k : Nat) : Nat → BB × (Nat → Int32) → BB × (Nat → Int32)
  | 0, x => x
  | t + 1, x => (p_wp rq rc le (p_wd rq rc le k t) k t (p_wbp rq rc le k t x).1, upd (p_wbp rq rc le k t x).2 (k * 4 + t) (nI (p_wbp rq rc le k t x).1.2))
/-- the bytes, the leasts, the widths, the starts -/
abbrev WW : Type := BB × (Nat → Int64) × (Nat → Int32) × (Nat → Int32)
def p_wb (rq : Nat → Int64) (rc k : Nat) (x : WW) : WW :=
  ((p_wbp rq rc (p_ld rq rc k) k 4 ((p_wbw rq rc (p_ld rq rc k) k 4 (p_av x.1 (p_zig (p_ld rq rc k)), x.2.2.1)).1, x.2.2.2)).1,
   vp_updL x.2.1 k (p_ld rq rc k),
   (p_wbw rq rc (p_ld rq rc k) k 4 (p_av x.1 (p_zig (p_ld rq rc k)), x.2.2.1)).2,
   (p_wbp rq rc (p_ld rq rc k) k 4 ((p_wbw rq rc (p_ld rq rc k) k 4 (p_av x.1 (p_zig (p_ld rq rc k)), x.2.2.1)).1, x.2.2.2)).2)
def p_wbs (rq : Nat → Int64) (rc : Nat) : Nat → WW → WW
  | 0, x => x
  | t + 1, x => p_wb rq rc t (p_wbs rq rc t x)
def p_write (rq : Nat → Int64) (rc : Nat) (x : WW) : WW :=
  p_wbs rq rc (p_bf rc) (if 0 < rc then p_av (p_av (x.1.1, 0) (nI rc).toInt64) (p_zig (rq 0)) else p_av (x.1.1, 0) (nI rc).toInt64, x.2)
theorem p_add_le1 {b : BB} {v : Int32} : (p_add b v).2 ≤ b.2 + 1 := by
  unfold p_add
  by_cases h1 : b.2 < 20000
  · rw [if_pos h1]; exact Nat.le_refl _
  · rw [if_neg h1]; exact Nat.le_succ _
theorem p_avl_le1 : ∀ (n : Nat) {b : BB} {v : Int64}, (p_avl n b v).2 ≤ b.2 + n + 1
  | 0, _, _ => p_add_le1
  | n + 1, b, v => by
    unfold p_avl
    by_cases h1 : v &&& (-128) = 0
    · rw [if_pos h1]; exact Nat.le_trans p_add_le1 (by omega)
    · rw [if_neg h1]
      have h2 := p_avl_le1 n (b := p_add b ((v &&& 127).toInt32 ||| nI 128)) (v := zushr v (nI 7))
      have h3 := p_add_le1 (b := b) (v := (v &&& 127).toInt32 ||| nI 128)
      omega
theorem p_av_le1 {b : BB} {v : Int64} : (p_av b v).2 ≤ b.2 + 10 := p_avl_le1 9
theorem p_wd_le (rq : Nat → Int64) (rc : Nat) (le : Int64) (k p : Nat) : p_wd rq rc le k p ≤ 64 := Nat.sub_le _ _
theorem p_wbw_le {rq : Nat → Int64} {rc : Nat} {le : Int64} {k : Nat} {x : BB × (Nat → Int32)} : ∀ t, (p_wbw rq rc le k t x).1.2 ≤ x.1.2 + t
  | 0 => Nat.le_refl _
  | t + 1 => by
    have h1 := p_wbw_le (rq := rq) (rc := rc) (le := le) (k := k) (x := x) t
    have h2 := p_add_le1 (b := (p_wbw rq rc le k t x).1) (v := nI (p_wd rq rc le k t))
    show (p_add (p_wbw rq rc le k t x).1 (nI (p_wd rq rc le k t))).2 ≤ _
    omega
theorem p_wbp_le {rq : Nat → Int64} {rc : Nat} {le : Int64} {k : Nat} {x : BB × (Nat → Int32)} : ∀ t, (p_wbp rq rc le k t x).1.2 ≤ x.1.2 + 128 * t
  | 0 => Nat.le_refl _
  | t + 1 => by
    have h1 := p_wbp_le (rq := rq) (rc := rc) (le := le) (k := k) (x := x) t
    have h2 := p_wd_le rq rc le k t
    show (p_wbp rq rc le k t x).1.2 + p_wd rq rc le k t * 16 / 8 ≤ _
    omega
theorem p_wb_le {rq : Nat → Int64} {rc k : Nat} {x : WW} : (p_wb rq rc k x).1.2 ≤ x.1.2 + 526 := by
  have h1 := p_wbp_le (rq := rq) (rc := rc) (le := p_ld rq rc k) (k := k) (x := ((p_wbw rq rc (p_ld rq rc k) k 4 (p_av x.1 (p_zig (p_ld rq rc k)), x.2.2.1)).1, x.2.2.2)) 4
  have h2 := p_wbw_le (rq := rq) (rc := rc) (le := p_ld rq rc k) (k := k) (x := (p_av x.1 (p_zig (p_ld rq rc k)), x.2.2.1)) 4
  have h3 := p_av_le1 (b := x.1) (v := p_zig (p_ld rq rc k))
  show (p_wbp rq rc (p_ld rq rc k) k 4 _).1.2 ≤ _
  dsimp only at h1 h2
  omega
theorem p_wbs_le {rq : Nat → Int64} {rc : Nat} {x : WW} : ∀ t, (p_wbs rq rc t x).1.2 ≤ x.1.2 + 526 * t
  | 0 => Nat.le_refl _
  | t + 1 => by
    have h1 := p_wbs_le (rq := rq) (rc := rc) (x := x) t
    have h2 := p_wb_le (rq := rq) (rc := rc) (k := t) (x := p_wbs rq rc t x)
    exact Nat.le_trans h2 (by omega)
theorem p_wbw_at {rq : Nat → Int64} {rc : Nat} {le : Int64} {k : Nat} {x : BB × (Nat → Int32)} : ∀ {t i : Nat}, i < t → (p_wbw rq rc le k t x).2 (k * 4 + i) = nI (p_wd rq rc le k i)
  | 0, i, h => absurd h (Nat.not_lt_zero i)
  | t + 1, i, h => by
    show upd (p_wbw rq rc le k t x).2 (k * 4 + t) (nI (p_wd rq rc le k t)) (k * 4 + i) = _
    by_cases e : i = t
    · subst e; exact pk_us
    · rw [pk_un (by omega)]; exact p_wbw_at (by omega)
theorem p_bf_le {t : Nat} (h : t ≤ 2000) : p_bf t ≤ 32 := by
  unfold p_bf
  by_cases h1 : 1 < t
  · rw [if_pos h1]; omega
  · rw [if_neg h1]; decide
theorem p_bf_in {t k : Nat} (h : k < p_bf t) : 1 < t ∧ k * 64 + 1 < t := by
  unfold p_bf at h
  by_cases h1 : 1 < t
  · rw [if_pos h1] at h; omega
  · rw [if_neg h1] at h; exact absurd h (Nat.not_lt_zero _)
