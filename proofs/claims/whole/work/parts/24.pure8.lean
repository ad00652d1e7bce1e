/-! what the reference reads -/
def r_vb (f : Nat → Int32) (q w k : Nat) : Nat → Int64
  | 0 => 0
  | i + 1 => r_vb f q w k i ||| zshl (((f (q + (w * k + i) / 8) >>> (nI ((w * k + i) % 8) &&& 31)) &&& nI 1).toInt64) (nI i)
def r_nwS (b : RB) (z : SS) (ip : Nat) : SS := if 64 < r_nV b z ∨ (0 < r_nV b z ∧ ip = 0) then r_fail (r_nS b z) 5 (nI ((r_nS b z).1 - 1)) else r_nS b z
def r_lw (b : RB) (many blk : Nat) : Nat → Nat → SS × (Nat → Int32) → SS × (Nat → Int32)
  | 0, _, x => x
  | n + 1, i, x => if x.1.2.1 = 0 then r_lw b many blk n (i + 1) (r_nwS b x.1 (r_ip many i), upd x.2 (4 * blk + i) (nI (r_nV b x.1))) else x
def r_kl (b : RB) (lv : Int64) (k0 ip w q : Nat) : Nat → SS × (Nat → Int64) → SS × (Nat → Int64)
  | 0, x => x
  | k + 1, x =>
    if k < ip then ((r_kl b lv k0 ip w q k x).1, vp_updL (r_kl b lv k0 ip w q k x).2 (k0 + k + 1) ((r_kl b lv k0 ip w q k x).2 (k0 + k) + lv + r_vb b.1 q w k w))
    else if r_vb b.1 q w k w = 0 then r_kl b lv k0 ip w q k x
    else (r_fail (r_kl b lv k0 ip w q k x).1 5 (nI q), (r_kl b lv k0 ip w q k x).2)
def r_pp (b : RB) (lv : Int64) (fr many w i : Nat) (x : SS × (Nat → Int64)) : SS × (Nat → Int64) :=
  if b.2 - x.1.1 < 2 * w then (r_fail x.1 1 (nI b.2), x.2)
  else ((x.1.1 + 2 * w, (r_kl b lv (fr + 16 * i) (r_ip many i) w x.1.1 16 x).1.2), (r_kl b lv (fr + 16 * i) (r_ip many i) w x.1.1 16 x).2)
def r_lp (b : RB) (lv : Int64) (fr many blk : Nat) (nw : Nat → Int32) : Nat → Nat → (SS × (Nat → Int64)) × (Nat → Int32) → (SS × (Nat → Int64)) × (Nat → Int32)
  | 0, _, x => x
  | n + 1, i, x => if x.1.1.2.1 = 0 then r_lp b lv fr many blk nw n (i + 1) (r_pp b lv fr many (cl nw (4 * blk + i)) i x.1, upd x.2 (4 * blk + i) (nI x.1.1.1)) else x
abbrev RL : Type := SS × (Nat → Int64) × (Nat → Int64) × (Nat → Int32) × (Nat → Int32)
def r_W (b : RB) (many blk : Nat) (x : RL) : SS × (Nat → Int32) := r_lw b many blk 4 0 ((r_v b x.1).2, x.2.2.2.1)
def r_P (b : RB) (fr many blk : Nat) (x : RL) : (SS × (Nat → Int64)) × (Nat → Int32) := r_lp b (r_unzig (r_v b x.1).1) fr many blk (r_W b many blk x).2 4 0 (((r_W b many blk x).1, x.2.1), x.2.2.2.2)
def r_rb (b : RB) (fr many blk : Nat) (x : RL) : RL := ((r_P b fr many blk x).1.1, (r_P b fr many blk x).1.2, vp_updL x.2.2.1 blk (r_unzig (r_v b x.1).1), (r_W b many blk x).2, (r_P b fr many blk x).2)
theorem r_fail_ne {z : SS} {ki : Nat} {wh : Int32} (hk : ki ≠ 0) : ¬ (r_fail z ki wh).2.1 = 0 := by
  unfold r_fail
  by_cases h : z.2.1 = 0
  · rw [if_pos h]; exact hk
  · rw [if_neg h]; exact h
theorem r_nS_1 {b : RB} {z : SS} (h : 0 < r_nV b z) : (r_nS b z).1 = z.1 + 1 := by
  unfold r_nV at h
  unfold r_nS
  by_cases a : z.1 = b.2
  · rw [if_pos a] at h; exact absurd h (Nat.lt_irrefl _)
  · rw [if_neg a]
theorem r_lp_f {b : RB} {lv : Int64} {fr many blk : Nat} {nw : Nat → Int32} {x : (SS × (Nat → Int64)) × (Nat → Int32)} (h : ¬ x.1.1.2.1 = 0) : ∀ (n i : Nat), r_lp b lv fr many blk nw n i x = x
  | 0, _ => rfl
  | n + 1, i => by unfold r_lp; rw [if_neg h]
theorem r_ok_nw {b : RB} {z : SS} {ip : Nat} (h : r_ok b z) : r_ok b (r_nwS b z ip) := by
  have h1 := r_ok_n h
  unfold r_nwS
  by_cases a : 64 < r_nV b z ∨ (0 < r_nV b z ∧ ip = 0)
  · rw [if_pos a]; exact r_ok_fail (by decide) h1
  · rw [if_neg a]; exact h1
theorem r_kl_1 {b : RB} {lv : Int64} {k0 ip w q : Nat} {x : SS × (Nat → Int64)} : ∀ k, (r_kl b lv k0 ip w q k x).1.1 = x.1.1
  | 0 => rfl
  | k + 1 => by
    have h1 := r_kl_1 (b := b) (lv := lv) (k0 := k0) (ip := ip) (w := w) (q := q) (x := x) k
    unfold r_kl
    by_cases a : k < ip
    · rw [if_pos a]; exact h1
    · rw [if_neg a]
      by_cases a2 : r_vb b.1 q w k w = 0
      · rw [if_pos a2]; exact h1
      · rw [if_neg a2]; show (r_fail _ _ _).1 = _; rw [r_fail_1]; exact h1
theorem r_kl_f {b : RB} {lv : Int64} {k0 ip w q : Nat} {x : SS × (Nat → Int64)} (hx : x.1.2.1 < 1000000) : ∀ k, (r_kl b lv k0 ip w q k x).1.2.1 < 1000000
  | 0 => hx
  | k + 1 => by
    have h1 := r_kl_f (b := b) (lv := lv) (k0 := k0) (ip := ip) (w := w) (q := q) (x := x) hx k
    unfold r_kl
    by_cases a : k < ip
    · rw [if_pos a]; exact h1
    · rw [if_neg a]
      by_cases a2 : r_vb b.1 q w k w = 0
      · rw [if_pos a2]; exact h1
      · rw [if_neg a2]; exact r_fail_f (by decide) h1
theorem r_ok_pp {b : RB} {lv : Int64} {fr many w i : Nat} {x : SS × (Nat → Int64)} (h : r_ok b x.1) : r_ok b (r_pp b lv fr many w i x).1 := by
  obtain ⟨h1, h2⟩ := h
  unfold r_pp
  by_cases a : b.2 - x.1.1 < 2 * w
  · rw [if_pos a]; exact r_ok_fail (by decide) ⟨h1, h2⟩
  · rw [if_neg a]; exact ⟨by show x.1.1 + 2 * w ≤ b.2; omega, r_kl_f h2 16⟩
theorem r_ok_lw {b : RB} {many blk : Nat} : ∀ (n i : Nat) (x : SS × (Nat → Int32)), r_ok b x.1 → r_ok b (r_lw b many blk n i x).1
  | 0, _, _, h => h
  | n + 1, i, x, h => by
    unfold r_lw
    by_cases a : x.1.2.1 = 0
    · rw [if_pos a]; exact r_ok_lw n _ _ (r_ok_nw h)
    · rw [if_neg a]; exact h
theorem r_ok_lp {b : RB} {lv : Int64} {fr many blk : Nat} {nw : Nat → Int32} : ∀ (n i : Nat) (x : (SS × (Nat → Int64)) × (Nat → Int32)), r_ok b x.1.1 → r_ok b (r_lp b lv fr many blk nw n i x).1.1
  | 0, _, _, h => h
  | n + 1, i, x, h => by
    unfold r_lp
    by_cases a : x.1.1.2.1 = 0
    · rw [if_pos a]; exact r_ok_lp n _ _ (r_ok_pp h)
    · rw [if_neg a]; exact h
theorem r_ok_W {b : RB} {many blk : Nat} {x : RL} (h : r_ok b x.1) : r_ok b (r_W b many blk x).1 := r_ok_lw 4 0 _ (r_ok_v h)
theorem r_ok_rb {b : RB} {fr many blk : Nat} {x : RL} (h : r_ok b x.1) : r_ok b (r_rb b fr many blk x).1 := r_ok_lp 4 0 _ (r_ok_W h)
/-- the head: the state behind the test of the number -/
def r_h1 (b : RB) : SS := if (r_v b p_z0).2.2.1 = 0 ∧ ((r_v b p_z0).1 < 0 ∨ 2000 < (r_v b p_z0).1) then r_fail (r_v b p_z0).2 4 (nI 0) else (r_v b p_z0).2
def r_N (b : RB) : Nat := uT (r_v b p_z0).1
theorem r_h1_n {b : RB} (h : (r_h1 b).2.1 = 0) : ¬ (r_v b p_z0).1 < 0 ∧ r_N b ≤ 2000 ∧ (r_v b p_z0).1 = lN (r_N b) ∧ r_h1 b = (r_v b p_z0).2 := by
  unfold r_h1 at h ⊢
  by_cases a : (r_v b p_z0).2.2.1 = 0 ∧ ((r_v b p_z0).1 < 0 ∨ 2000 < (r_v b p_z0).1)
  · rw [if_pos a] at h; exact absurd h (r_fail_ne (by decide))
  · rw [if_neg a] at h ⊢
    have h1 : ¬ (r_v b p_z0).1 < 0 := fun q => a ⟨h, Or.inl q⟩
    have h2 : ¬ 2000 < (r_v b p_z0).1 := fun q => a ⟨h, Or.inr q⟩
    exact ⟨h1, uT_le h1 h2, lN_self _, rfl⟩
theorem r_ok_h1 {b : RB} : r_ok b (r_h1 b) := by
  have h0 : r_ok b (r_v b p_z0).2 := r_ok_v ⟨Nat.zero_le _, by decide⟩
  unfold r_h1
  by_cases a : (r_v b p_z0).2.2.1 = 0 ∧ ((r_v b p_z0).1 < 0 ∨ 2000 < (r_v b p_z0).1)
  · rw [if_pos a]; exact r_ok_fail (by decide) h0
  · rw [if_neg a]; exact h0
/-- the first long -/
def r_h2 (b : RB) (y : (Nat → Int64) × (Nat → Int64) × (Nat → Int32) × (Nat → Int32)) : RL := if 0 < r_N b then ((r_v b (r_h1 b)).2, vp_updL y.1 0 (r_unzig (r_v b (r_h1 b)).1), y.2) else (r_h1 b, y)
theorem r_ok_h2 {b : RB} {y : (Nat → Int64) × (Nat → Int64) × (Nat → Int32) × (Nat → Int32)} : r_ok b (r_h2 b y).1 := by
  unfold r_h2
  by_cases a : 0 < r_N b
  · rw [if_pos a]; exact r_ok_v r_ok_h1
  · rw [if_neg a]; exact r_ok_h1
def r_many (n fr : Nat) : Nat := min (n - 1 - fr) 64
def r_lbs (b : RB) (n : Nat) : Nat → Nat → Nat → RL → RL × Nat
  | 0, a, _, x => (x, a)
  | f + 1, a, fr, x => if fr + 1 < n ∧ x.1.2.1 = 0 then r_lbs b n f (a + 1) (fr + 64) (r_rb b fr (r_many n fr) a x) else (x, a)
def r_F (b : RB) (y : (Nat → Int64) × (Nat → Int64) × (Nat → Int32) × (Nat → Int32)) : RL × Nat := if (r_h1 b).2.1 = 0 then r_lbs b (r_N b) 33 0 0 (r_h2 b y) else ((r_h1 b, y), 0)
def r_E (b : RB) (y : (Nat → Int64) × (Nat → Int64) × (Nat → Int32) × (Nat → Int32)) : SS := if (r_F b y).1.1.2.1 = 0 ∧ (r_F b y).1.1.1 < b.2 then r_fail (r_F b y).1.1 6 (nI (r_F b y).1.1.1) else (r_F b y).1.1
theorem r_ok_lbs {b : RB} {n : Nat} : ∀ (f a fr : Nat) (x : RL), r_ok b x.1 → r_ok b (r_lbs b n f a fr x).1.1
  | 0, _, _, _, h => h
  | f + 1, a, fr, x, h => by
    unfold r_lbs
    by_cases q : fr + 1 < n ∧ x.1.2.1 = 0
    · rw [if_pos q]; exact r_ok_lbs f _ _ _ (r_ok_rb h)
    · rw [if_neg q]; exact h
theorem r_ok_F {b : RB} {y : (Nat → Int64) × (Nat → Int64) × (Nat → Int32) × (Nat → Int32)} : r_ok b (r_F b y).1.1 := by
  unfold r_F
  by_cases a : (r_h1 b).2.1 = 0
  · rw [if_pos a]; exact r_ok_lbs _ _ _ _ r_ok_h2
  · rw [if_neg a]; exact r_ok_h1
theorem r_lbs_a {b : RB} {n : Nat} (hn : n ≤ 2000) : ∀ (f a fr : Nat) (x : RL), fr = a * 64 → a ≤ 32 → (r_lbs b n f a fr x).2 ≤ 32
  | 0, _, _, _, _, h => h
  | f + 1, a, fr, x, hf, h => by
    unfold r_lbs
    by_cases q : fr + 1 < n ∧ x.1.2.1 = 0
    · rw [if_pos q]; exact r_lbs_a hn f _ _ _ (by omega) (by omega)
    · rw [if_neg q]; exact h
theorem r_F_a {b : RB} {y : (Nat → Int64) × (Nat → Int64) × (Nat → Int32) × (Nat → Int32)} : (r_F b y).2 ≤ 32 := by
  unfold r_F
  by_cases a : (r_h1 b).2.1 = 0
  · rw [if_pos a]; exact r_lbs_a (r_h1_n a).2.1 _ _ _ _ rfl (by decide)
  · rw [if_neg a]; exact Nat.zero_le _
theorem r_E_0 {b : RB} {y : (Nat → Int64) × (Nat → Int64) × (Nat → Int32) × (Nat → Int32)} (h : (r_E b y).2.1 = 0) : (r_h1 b).2.1 = 0 := by
  unfold r_E at h
  have h1 : (r_F b y).1.1.2.1 = 0 := by
    by_cases a : (r_F b y).1.1.2.1 = 0 ∧ (r_F b y).1.1.1 < b.2
    · exact a.1
    · rw [if_neg a] at h; exact h
  unfold r_F at h1
  by_cases a : (r_h1 b).2.1 = 0
  · exact a
  · rw [if_neg a] at h1; exact h1
theorem r_E_f {b : RB} {y : (Nat → Int64) × (Nat → Int64) × (Nat → Int32) × (Nat → Int32)} : (r_E b y).2.1 < 1000000 := by
  have h := r_ok_F (b := b) (y := y)
  unfold r_E
  by_cases a : (r_F b y).1.1.2.1 = 0 ∧ (r_F b y).1.1.1 < b.2
  · rw [if_pos a]; exact r_fail_f (by decide) h.2
  · rw [if_neg a]; exact h.2
def r_cp (f g : Nat → Int64) : Nat → (Nat → Int64)
  | 0 => g
  | k + 1 => vp_updL (r_cp f g k) k (f k)
def r_ci (f g : Nat → Int32) : Nat → (Nat → Int32)
  | 0 => g
  | k + 1 => upd (r_ci f g k) k (f k)
theorem r_g8_new {f : Nat → Int32} {j v : Nat} (hv : v ≤ 255) : p_g8 (upd f j (nI v)) j := p_g8_new hv
theorem lN_neg {n : Nat} (h : n < 2 ^ 31) : ¬ lN n < 0 := by
  rw [show (0 : Int64) = lN 0 from rfl, pk_lLT (by omega) (by decide)]
  omega
theorem r_ltn {fr n : Nat} (hf : fr < 2 ^ 31) (hn : n < 2 ^ 31) : lN n - 1 ≤ (nI fr).toInt64 ↔ n ≤ fr + 1 := by
  rw [nI_l hf]
  by_cases h : n = 0
  · subst h
    constructor
    · intro _; omega
    · intro _
      rw [Int64.le_iff_toInt_le, pk_lT (by omega)]
      show (-1 : Int) ≤ _
      omega
  · rw [show (1 : Int64) = lN 1 from rfl, lN_sub (by omega), pk_lLE (by omega) (by omega)]
    omega
theorem lN_le0 {n : Nat} (h : n < 2 ^ 31) (h2 : lN n ≤ 0) : n = 0 := by
  rw [show (0 : Int64) = lN 0 from rfl, pk_lLE (by omega) (by decide)] at h2
  omega
