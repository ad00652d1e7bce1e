/-! the class against the reference: numbers, bytes, varints -/
theorem q_shl1 (v : Int64) : zshl v (nI 1) = 2 * v := by
  obtain ⟨n, hn, rfl⟩ := wb_of v
  unfold zshl
  rw [wb_shl n (by decide), show (2 : Int64) = lN 2 from rfl, lN_mul, Nat.mul_comm]
theorem q_tb63 (v : Int64) : tb v 63 = decide (v < 0) := by
  have h : (v < 0) ↔ v.toBitVec.msb = true := by
    rw [Int64.lt_iff_toBitVec_slt]
    exact BitVec.slt_zero_iff_msb_cond
  rw [BitVec.msb_eq_getLsbD_last] at h
  unfold tb
  by_cases q : v < 0
  · rw [decide_eq_true q]; exact h.mp q
  · rw [decide_eq_false q]
    cases e : v.toBitVec.getLsbD 63 with
    | false => rfl
    | true => exact absurd (h.mpr e) q
theorem q_shr63 (v : Int64) {j : Nat} (hj : j < 64) : tb (zshr v (nI 63)) j = tb v 63 := by
  unfold zshr tb
  rw [wb_c 63 (by decide), Int64.toBitVec_shiftRight, wb_tb, wb_sm 63 (by decide), BitVec.getLsbD_sshiftRight']
  rw [show (BitVec.ofNat 64 63).toNat = 63 from rfl, BitVec.msb_eq_getLsbD_last]
  rw [decide_eq_false (show ¬ 64 ≤ j by omega)]
  by_cases e : 63 + j < 64
  · rw [if_pos e, show 63 + j = 63 by omega]; rfl
  · rw [if_neg e]; rfl
theorem q_zig (v : Int64) : p_zig v = r_zig v := by
  unfold p_zig r_zig
  by_cases h : 0 ≤ v
  · have e : zshr v (nI 63) = 0 := tb_ext fun j hj => by rw [q_shr63 v hj, q_tb63, tb_0, decide_eq_false (Int64.not_lt.mpr h)]
    rw [if_pos h, e, q_shl1, Int64.xor_zero]
  · have e : zshr v (nI 63) = (-1) := tb_ext fun j hj => by rw [q_shr63 v hj, q_tb63, tb_m1, decide_eq_true (Int64.not_le.mp h), decide_eq_true hj]
    rw [if_neg h, e, q_shl1, Int64.xor_neg_one, Int64.not_eq_neg_sub, Int64.neg_mul]
theorem q_unzig (z : Int64) : p_unzig z = r_unzig z := by
  unfold p_unzig r_unzig
  obtain ⟨n, hn, rfl⟩ := wb_of z
  rw [wb_a1 hn]
  rcases Nat.mod_two_eq_zero_or_one n with h | h
  · rw [h, if_pos (show lN 0 = 0 from rfl), show -(lN 0) = 0 from rfl, Int64.xor_zero]
  · rw [h, if_neg (show ¬ lN 1 = 0 by decide +kernel), show -(lN 1) = (-1) from rfl, Int64.xor_neg_one, Int64.not_eq_neg_sub]
theorem q_low8 (n : Nat) : low8 (nI n) = n % 256 := by
  unfold low8
  show (BitVec.ofNat 32 n).toNat % 256 = _
  rw [BitVec.toNat_ofNat, Nat.mod_mod_of_dvd _ (by decide)]
theorem q_or128 : ∀ y, y < 128 → nI y ||| nI 128 = nI (y + 128) := by decide +kernel
/-- the bytes of the class and of the reference -/
def BR (b : BB) (c : RB) : Prop := c.2 = b.2 ∧ b.2 ≤ 20000 ∧ (∀ k, k < b.2 → c.1 k = nI (gB b.1 k)) ∧ r_by c.1
theorem q_by_upd {f : Nat → Int32} {k v : Nat} (h : r_by f) (hv : v < 256) : r_by (upd f k (nI v)) := by
  intro j hj
  by_cases e : j = k
  · subst e
    have h1 : cl (upd f j (nI v)) j = v := by unfold cl; rw [pk_us, nI_clamp (by omega)]
    exact ⟨by rw [h1, pk_us], by rw [h1]; exact hv⟩
  · have h1 : cl (upd f k (nI v)) j = cl f j := by unfold cl; rw [pk_un e]
    exact ⟨by rw [h1, pk_un e]; exact (h j hj).1, by rw [h1]; exact (h j hj).2⟩
theorem BR.add {b : BB} {c : RB} {v v' : Int32} (h : BR b c) (hs : b.2 < 20000) (hv : low8 v = low8 v') : BR (p_add b v) (r_add c v') := by
  obtain ⟨h1, h2, h3, h4⟩ := h
  unfold p_add
  rw [if_pos hs]
  refine ⟨by show c.2 + 1 = b.2 + 1; omega, hs, fun k hk => ?_, q_by_upd h4 (low8_lt v')⟩
  have hk : k < b.2 + 1 := hk
  show upd c.1 c.2 (nI (low8 v')) k = nI (gB (p_chg b.1 b.2 v) k)
  rw [gB_chg hs (by omega), h1]
  by_cases e : k = b.2
  · rw [if_pos e, e, pk_us, hv]
  · rw [if_neg e, pk_un e]; exact h3 k (by omega)
theorem q_and128 {x : Nat} (hx : x < 2 ^ 64) : (lN x &&& (-128) = 0) ↔ x < 128 := by
  have e : (-128 : Int64) = lN (2 ^ 64 - 128) := by decide +kernel
  have hb : ∀ j, j < 64 → tb (-128) j = decide (7 ≤ j) := by decide +kernel
  constructor
  · intro h
    refine Nat.lt_pow_two_of_testBit (n := 7) x fun j hj => ?_
    by_cases q : j < 64
    · have h1 : tb (lN x &&& (-128)) j = false := by rw [h]; exact tb_0 j
      rw [tb_and, hb j q, decide_eq_true hj, Bool.and_true, tb_lN, decide_eq_true q, Bool.true_and] at h1
      exact h1
    · exact Nat.testBit_lt_two_pow (Nat.lt_of_lt_of_le hx (Nat.pow_le_pow_right (by decide) (by omega)))
  · intro h
    refine tb_ext fun j hj => ?_
    rw [tb_and, hb j hj, tb_0, tb_lN, decide_eq_true hj, Bool.true_and]
    by_cases q : 7 ≤ j
    · rw [Nat.testBit_lt_two_pow (x := x) (i := j) (Nat.lt_of_lt_of_le h (show 2 ^ 7 ≤ 2 ^ j from Nat.pow_le_pow_right (by decide) q)), Bool.false_and]
    · rw [decide_eq_false q, Bool.and_false]
theorem q_ushr {u k : Nat} (hu : u < 2 ^ 64) (hk : k < 64) : zushr (lN u) (nI k) = lN (u / 2 ^ k) := by unfold zushr; exact wb_shr hu hk
theorem q_lN0 {u : Nat} (hu : u < 2 ^ 64) : lN u = 0 ↔ u = 0 := by
  constructor
  · intro h
    have h1 : (lN u).toBitVec.toNat = (0 : Int64).toBitVec.toNat := by rw [h]
    rw [wb_tn hu] at h1
    exact h1
  · intro h; rw [h]; rfl
/-- how many bytes: the tests below it hold, the one at it fails, but at ten -/
theorem q_vnl {u : Nat} (hu : u < 2 ^ 64) : ∀ (f n : Nat), n + f = 10 → (∀ i, n ≤ i → i < r_vnl (lN u) f n → u / 2 ^ (7 * i) ≠ 0) ∧ (r_vnl (lN u) f n < 10 → u / 2 ^ (7 * r_vnl (lN u) f n) = 0)
  | 0, n, h => ⟨fun i h1 h2 => absurd h2 (by show ¬ i < n; omega), fun h2 => absurd h2 (by show ¬ n < 10; omega)⟩
  | f + 1, n, h => by
    have hd : u / 2 ^ (7 * n) < 2 ^ 64 := Nat.lt_of_le_of_lt (Nat.div_le_self _ _) hu
    unfold r_vnl
    rw [q_ushr hu (by omega)]
    by_cases e0 : lN (u / 2 ^ (7 * n)) = 0
    · have e := (q_lN0 hd).mp e0
      rw [if_pos e0]; exact ⟨fun i h1 h2 => absurd h2 (by omega), fun _ => e⟩
    · have e : ¬ u / 2 ^ (7 * n) = 0 := fun q => e0 ((q_lN0 hd).mpr q)
      rw [if_neg e0]
      obtain ⟨g1, g2⟩ := q_vnl hu f (n + 1) (by omega)
      refine ⟨fun i h1 h2 => ?_, g2⟩
      by_cases q : i = n
      · rw [q]; exact e
      · exact g1 i (by omega) h2
theorem q_div7 (u i : Nat) : u / 2 ^ (7 * i) / 2 ^ 7 = u / 2 ^ (7 * (i + 1)) := by
  rw [Nat.div_div_eq_div_mul, ← Nat.pow_add]
  rfl
theorem q_avl {u : Nat} (hu : u < 2 ^ 64) {c : RB} : ∀ (f i : Nat) (b : BB), i + f = 9 → i < r_vn (lN u) → b.2 + (r_vn (lN u) - i) ≤ 20000 → BR b (r_avl (lN u) (r_vn (lN u)) i c) → BR (p_avl f b (lN (u / 2 ^ (7 * i)))) (r_avl (lN u) (r_vn (lN u)) (r_vn (lN u)) c) := by
  obtain ⟨g1, g2⟩ := q_vnl hu 9 1 rfl
  have g3 := r_vn_in (lN u)
  have g1 : ∀ i, 1 ≤ i → i < r_vn (lN u) → u / 2 ^ (7 * i) ≠ 0 := g1
  have g2 : r_vn (lN u) < 10 → u / 2 ^ (7 * r_vn (lN u)) = 0 := g2
  generalize hN : r_vn (lN u) = N at *
  have low : ∀ (i : Nat) (b : BB), i + 1 = N → b.2 < 20000 → BR b (r_avl (lN u) N i c) → BR (p_add b (lN (u / 2 ^ (7 * i))).toInt32) (r_avl (lN u) N N c) := by
    intro i b hi hb h
    have hd : u / 2 ^ (7 * i) < 2 ^ 64 := Nat.lt_of_le_of_lt (Nat.div_le_self _ _) hu
    rw [show r_avl (lN u) N N c = r_add (r_avl (lN u) N i c) (r_avb (lN u) N i) by rw [← hi]; rfl]
    refine h.add hb ?_
    unfold r_avb
    rw [lN_i, q_low8, q_ushr hu (by omega), show (127 : Int64) = lN (2 ^ 7 - 1) from rfl, wb_mask hd (by decide), lN_i, if_neg (by omega), nI_add, q_low8]
    have h128 : u / 2 ^ (7 * i) < 128 := by
      by_cases e : N < 10
      · have h3 := g2 e
        rw [← hi, ← q_div7] at h3
        have h3 : u / 2 ^ (7 * i) / 128 = 0 := h3
        generalize u / 2 ^ (7 * i) = y at h3
        omega
      · have h4 : 7 * i = 63 := by omega
        rw [h4]
        omega
    rw [show (2 : Nat) ^ 7 = 128 from rfl]
    generalize u / 2 ^ (7 * i) = y at h128
    omega
  intro f
  induction f with
  | zero =>
    intro i b hi hN2 hb h
    exact low i b (by omega) (by omega) h
  | succ f ih =>
    intro i b hi hN2 hb h
    have hd : u / 2 ^ (7 * i) < 2 ^ 64 := Nat.lt_of_le_of_lt (Nat.div_le_self _ _) hu
    unfold p_avl
    by_cases e : i + 1 = N
    · have h3 := g2 (by omega)
      rw [← e, ← q_div7] at h3
      have h3 : u / 2 ^ (7 * i) / 128 = 0 := h3
      have h5 : u / 2 ^ (7 * i) < 128 := by generalize u / 2 ^ (7 * i) = y at h3; omega
      rw [if_pos ((q_and128 hd).mpr h5)]
      exact low i b e (by omega) h
    · have h3 := g1 (i + 1) (by omega) (by omega)
      rw [← q_div7] at h3
      have h3 : ¬ u / 2 ^ (7 * i) / 128 = 0 := h3
      have h5 : ¬ u / 2 ^ (7 * i) < 128 := by generalize u / 2 ^ (7 * i) = y at h3; omega
      rw [if_neg (fun q => absurd ((q_and128 hd).mp q) h5), q_ushr hd (by decide), q_div7]
      refine ih (i + 1) _ (by omega) (by omega) ?_ (h.add (by omega) ?_)
      · have := p_add_le1 (b := b) (v := (lN (u / 2 ^ (7 * i)) &&& 127).toInt32 ||| nI 128)
        omega
      · unfold r_avb
        rw [q_ushr hu (by omega), show (127 : Int64) = lN (2 ^ 7 - 1) from rfl, wb_mask hd (by decide), lN_i, if_pos (by omega), nI_add, q_or128 _ (Nat.mod_lt _ (by decide))]
theorem BR.av {b : BB} {c : RB} (v : Int64) (h : BR b c) (hs : b.2 + 10 ≤ 20000) : BR (p_av b v) (r_av c v) := by
  obtain ⟨u, hu, rfl⟩ := wb_of v
  have g3 := r_vn_in (lN u)
  have h1 := q_avl hu (c := c) 9 0 b rfl (by omega) (by omega) h
  rw [Nat.mul_zero, Nat.pow_zero, Nat.div_one] at h1
  exact h1
theorem q_ushr' (x : Int64) {k : Nat} (hk : k < 64) : zushr x (nI k) = lN (x.toBitVec.toNat / 2 ^ k) := by
  obtain ⟨n, hn, rfl⟩ := wb_of x
  rw [q_ushr hn hk, wb_tn hn]
