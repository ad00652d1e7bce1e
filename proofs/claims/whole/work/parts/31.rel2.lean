/-! the class against the reference: the least difference, widths -/
theorem q_ldl {rq rq' : Nat → Int64} {rc a : Nat} (hrow : ∀ i, i < rc → rq' i = rq i) : ∀ t, a + t + 1 < rc → r_lll rq' a (t + 1) = p_ldl rq (1 + a) t
  | 0, h => by
    have e : r_lll rq' a (0 + 1) = rq' (a + 1) - rq' a := if_pos (Int64.le_refl _)
    rw [e]
    show _ = rq (1 + a) - rq (1 + a - 1)
    rw [hrow _ (by omega), hrow _ (by omega), Nat.add_comm 1 a, Nat.add_sub_cancel]
  | t + 1, h => by
    show (if r_lll rq' a (t + 1) ≤ rq' (a + (t + 1) + 1) - rq' (a + (t + 1)) then r_lll rq' a (t + 1) else rq' (a + (t + 1) + 1) - rq' (a + (t + 1))) = (if rq (1 + a + 1 + t) - rq (1 + a + 1 + t - 1) < p_ldl rq (1 + a) t then rq (1 + a + 1 + t) - rq (1 + a + 1 + t - 1) else p_ldl rq (1 + a) t)
    rw [q_ldl hrow t (by omega)]
    rw [hrow _ (by omega), hrow _ (by omega), show 1 + a + 1 + t = a + (t + 1) + 1 by omega, show a + (t + 1) + 1 - 1 = a + (t + 1) by omega]
    by_cases q : rq (a + (t + 1) + 1) - rq (a + (t + 1)) < p_ldl rq (1 + a) t
    · rw [if_pos q, if_neg (Int64.not_le.mpr q)]
    · rw [if_neg q, if_pos (Int64.not_lt.mp q)]
/-- where a block ends in the reference -/
def q_te (rc k : Nat) : Nat := min (k * 64 + 64) (rc - 1)
theorem q_ld {rq rq' : Nat → Int64} {rc k : Nat} (hrow : ∀ i, i < rc → rq' i = rq i) (hk : k < p_bf rc) : r_lll rq' (k * 64) (q_te rc k - k * 64) = p_ld rq rc k := by
  have h1 := p_bf_in hk
  unfold p_ld
  have e1 : p_pe k 0 rc = 1 + k * 64 := by unfold p_pe; omega
  have e2 : q_te rc k - k * 64 = (p_pe k 4 rc - p_pe k 0 rc - 1) + 1 := by unfold q_te p_pe; omega
  rw [e2, e1]
  refine q_ldl hrow _ ?_
  unfold p_pe
  omega
def blen (u : Nat) : Nat := if u = 0 then 0 else u.log2 + 1
theorem blen_le {u w : Nat} : blen u ≤ w ↔ u < 2 ^ w := by
  unfold blen
  by_cases h : u = 0
  · rw [if_pos h, h]; exact ⟨fun _ => Nat.two_pow_pos _, fun _ => Nat.zero_le _⟩
  · rw [if_neg h]; exact Nat.log2_lt h
theorem blen_or (u v : Nat) : blen (u ||| v) = max (blen u) (blen v) := by
  apply Nat.le_antisymm
  · rw [blen_le]
    exact Nat.or_lt_two_pow (blen_le.mp (Nat.le_max_left _ _)) (blen_le.mp (Nat.le_max_right _ _))
  · have h := blen_le.mp (Nat.le_refl (blen (u ||| v)))
    exact Nat.max_le.mpr ⟨blen_le.mpr (Nat.lt_of_le_of_lt Nat.left_le_or h), blen_le.mpr (Nat.lt_of_le_of_lt Nat.right_le_or h)⟩
theorem uT_lt (x : Int64) : uT x < 2 ^ 64 := x.toBitVec.isLt
theorem uT_or (x y : Int64) : uT (x ||| y) = uT x ||| uT y := by unfold uT; rw [Int64.toBitVec_or, BitVec.toNat_or]
theorem blen_64 (x : Int64) : blen (uT x) ≤ 64 := blen_le.mpr (uT_lt x)
theorem q_nlz (x : Int64) : 64 - p_nlz x = blen (uT x) := by
  have h := blen_64 x
  show 64 - (64 - blen (uT x)) = _
  omega
theorem q_wi (x : Int64) : ∀ (f w : Nat), w + f = 64 → r_wi x f w = max w (blen (uT x))
  | 0, w, h => by
    have := blen_64 x
    show w = _
    omega
  | f + 1, w, h => by
    unfold r_wi
    have hx := uT_lt x
    have e : zushr x (nI w) = lN (uT x / 2 ^ w) := q_ushr' x (by omega)
    have hd : uT x / 2 ^ w < 2 ^ 64 := Nat.lt_of_le_of_lt (Nat.div_le_self _ _) hx
    rw [e]
    have hz : lN (uT x / 2 ^ w) = 0 ↔ blen (uT x) ≤ w := by
      rw [q_lN0 hd, blen_le, Nat.div_eq_zero_iff]
      constructor
      · intro h; rcases h with h | h
        · exact absurd h (Nat.ne_of_gt (Nat.two_pow_pos _))
        · exact h
      · intro h; exact Or.inr h
    by_cases q : blen (uT x) ≤ w
    · rw [if_pos (hz.mpr q)]; omega
    · rw [if_neg (fun z => q (hz.mp z)), q_wi x f (w + 1) (by omega)]; omega
theorem q_wk {rq rq' : Nat → Int64} {rc k0 : Nat} {lv : Int64} (hrow : ∀ i, i < rc → rq' i = rq i) : ∀ t, k0 + t < rc → r_wk rq' lv k0 t = blen (uT (p_nwl rq lv (1 + k0) t))
  | 0, _ => rfl
  | t + 1, h => by
    have h1 := q_wk (k0 := k0) (lv := lv) hrow t (by omega)
    unfold r_wk p_nwl
    have h2 := r_wk_le rq' lv k0 t
    rw [q_wi _ _ _ (by omega), h1, uT_or, blen_or, hrow _ (by omega), hrow _ (by omega), show 1 + k0 + t = k0 + t + 1 by omega, Nat.add_sub_cancel]
theorem q_w {rq rq' : Nat → Int64} {rc k p : Nat} {lv : Int64} (hrow : ∀ i, i < rc → rq' i = rq i) (hk : k < p_bf rc) (hp : p < 4) : r_w rq' lv (k * 64) (q_te rc k) p = p_wd rq rc lv k p := by
  have h1 := p_bf_in hk
  unfold r_w p_wd
  rw [q_nlz]
  by_cases e : k * 64 + 16 * p + 1 < rc
  · have e1 : p_pe k p rc = 1 + (k * 64 + 16 * p) := by unfold p_pe; omega
    have e2 : min (q_te rc k) (k * 64 + 16 * p + 16) - (k * 64 + 16 * p) = p_pe k (p + 1) rc - p_pe k p rc := by unfold q_te p_pe; omega
    rw [e2, e1]
    refine q_wk hrow _ ?_
    unfold p_pe
    omega
  · have e2 : min (q_te rc k) (k * 64 + 16 * p + 16) - (k * 64 + 16 * p) = 0 := by unfold q_te; omega
    have e3 : p_pe k (p + 1) rc - p_pe k p rc = 0 := by unfold p_pe; omega
    rw [e2, e3]
    rfl
/-! bits of the reference's bytes -/
def rbit (f : Nat → Int32) (i : Nat) : Bool := (cl f (i / 8)).testBit (i % 8)
theorem BR.bit {b : BB} {c : RB} (h : BR b c) {i : Nat} (hi : i < b.2 * 8) : rbit c.1 i = wbit b.1 i := by
  obtain ⟨h1, h2, h3, h4⟩ := h
  have hl := gB_lt (wd := b.1) (k := i / 8) (by omega)
  have e : cl c.1 (i / 8) = gB b.1 (i / 8) := by unfold cl; rw [h3 _ (by omega), nI_clamp (by omega)]
  unfold rbit
  rw [e, gB_bit (by omega), decide_eq_true (show i % 8 < 8 by omega), Bool.true_and, show i / 8 * 8 + i % 8 = i by omega]
theorem BR.of {b : BB} {c : RB} (h1 : c.2 = b.2) (h2 : b.2 ≤ 20000) (h4 : r_by c.1) (h : ∀ i, i < b.2 * 8 → rbit c.1 i = wbit b.1 i) : BR b c := by
  refine ⟨h1, h2, fun k hk => ?_, h4⟩
  obtain ⟨a1, a2⟩ := h4 k (by omega)
  rw [a1]
  congr 1
  apply Nat.eq_of_testBit_eq
  intro j
  rw [gB_bit (by omega)]
  by_cases q : j < 8
  · have h5 := h (k * 8 + j) (by omega)
    unfold rbit at h5
    rw [show (k * 8 + j) / 8 = k by omega, show (k * 8 + j) % 8 = j by omega] at h5
    rw [h5, decide_eq_true q, Bool.true_and]
  · rw [decide_eq_false q, Bool.false_and]
    exact Nat.testBit_lt_two_pow (Nat.lt_of_lt_of_le a2 (show 2 ^ 8 ≤ 2 ^ j from Nat.pow_le_pow_right (by decide) (by omega)))
theorem q_or1 : ∀ n, n < 256 → ∀ s, s < 8 → nI n ||| (nI 1 <<< (nI s &&& 31)) = nI (n ||| 2 ^ s) := by decide +kernel
theorem q_set {f : Nat → Int32} {m : Nat} (hf : r_by f) (hm : m < 160000) : r_by (upd f (m / 8) (f (m / 8) ||| (nI 1 <<< (nI (m % 8) &&& 31)))) ∧ ∀ i, rbit (upd f (m / 8) (f (m / 8) ||| (nI 1 <<< (nI (m % 8) &&& 31)))) i = (rbit f i || decide (i = m)) := by
  obtain ⟨a1, a2⟩ := hf (m / 8) (by omega)
  have e : f (m / 8) ||| (nI 1 <<< (nI (m % 8) &&& 31)) = nI (cl f (m / 8) ||| 2 ^ (m % 8)) := by
    rw [← q_or1 _ a2 _ (by omega), ← a1]
  have hlt : cl f (m / 8) ||| 2 ^ (m % 8) < 256 := Nat.or_lt_two_pow (n := 8) a2 (Nat.pow_lt_pow_right (by decide) (by omega))
  rw [e]
  refine ⟨q_by_upd hf hlt, fun i => ?_⟩
  unfold rbit
  by_cases q : i / 8 = m / 8
  · have h1 : cl (upd f (m / 8) (nI (cl f (m / 8) ||| 2 ^ (m % 8)))) (i / 8) = cl f (m / 8) ||| 2 ^ (m % 8) := by
      unfold cl; rw [q, pk_us, nI_clamp (by unfold cl at hlt; omega)]
    rw [h1, Nat.testBit_or, Nat.testBit_two_pow, q]
    congr 1
    exact decide_eq_decide.mpr (by omega)
  · have h1 : cl (upd f (m / 8) (nI (cl f (m / 8) ||| 2 ^ (m % 8)))) (i / 8) = cl f (i / 8) := by unfold cl; rw [pk_un q]
    rw [h1, decide_eq_false (fun z => q (by rw [z])), Bool.or_false]
