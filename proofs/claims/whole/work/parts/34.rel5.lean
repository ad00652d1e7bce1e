/-! the class against the reference: bytes one by one, varints, the head -/
theorem BR.cl {b : BB} {c : RB} (h : BR b c) {k : Nat} (hk : k < b.2) : cl c.1 k = gB b.1 k := by
  have h2 := h.2.1
  have hl := gB_lt (wd := b.1) (k := k) (by omega)
  show (c.1 k).toNatClampNeg = _
  rw [h.2.2.1 k hk, nI_clamp (by omega)]
theorem q_nV {b : BB} {c : RB} {z : SS} (h : BR b c) (hz : z.1 ≤ b.2) : r_nV c z = p_nbV b z := by
  unfold r_nV p_nbV
  rw [h.1]
  by_cases q : z.1 = b.2
  · rw [if_pos q, if_neg (by omega)]
  · rw [if_neg q, if_pos (show z.1 < b.2 by omega), h.cl (by omega)]
theorem q_nS {b : BB} {c : RB} {z : SS} (h : BR b c) (hz : z.1 ≤ b.2) (h0 : z.2.1 = 0) : r_nS c z = p_nbS b z := by
  unfold r_nS p_nbS
  rw [h.1]
  by_cases q : z.1 = b.2
  · rw [if_pos q, if_neg (by omega)]
    unfold r_fail
    rw [if_pos h0]
  · rw [if_neg q, if_pos (show z.1 < b.2 by omega)]
theorem q_127 : ∀ x, x < 256 → (nI x &&& nI 127).toInt64 = ((nI x).toInt64 &&& 127) := by decide +kernel
theorem q_vl {b : BB} {c : RB} {beg : Nat} (h : BR b c) : ∀ (n i : Nat) (v : Int64) (z : SS), i + n = 10 → i ≤ 9 → z.1 ≤ b.2 → z.2.1 = 0 → r_vl c beg n i v z = p_nvl b beg n i v z
  | 0, i, v, z, h1, h2, _, _ => absurd h1 (by omega)
  | n + 1, i, v, z, h1, h2, hz, h0 => by
    have hx := p_nbV_le (b := b) (z := z) h.2.1
    have hs := p_nbS_le (b := b) hz
    unfold r_vl p_nvl
    rw [if_pos h0, q_nS h hz h0, q_nV h hz]
    by_cases a1 : (p_nbS b z).2.1 = 0
    · rw [if_pos a1, if_pos a1]
      by_cases a2 : (i = 9 ∧ 1 < p_nbV b z) ∨ (0 < i ∧ p_nbV b z = 0)
      · rw [if_pos a2, if_pos a2]
        unfold r_fail
        rw [if_pos a1]
      · rw [if_neg a2, if_neg a2]
        unfold r_vv
        rw [q_127 _ hx]
        by_cases a3 : p_nbV b z < 128
        · rw [if_pos a3, if_pos a3]
        · rw [if_neg a3, if_neg a3]
          exact q_vl h n (i + 1) _ _ (by omega) (by omega) hs a1
    · rw [if_neg a1, if_neg a1]
theorem q_v {b : BB} {c : RB} {z : SS} (h : BR b c) (hz : z.1 ≤ b.2) (h0 : z.2.1 = 0) : r_v c z = p_nv b z := q_vl h 10 0 0 z rfl (by decide) hz h0
/-- the head: what the two make of it -/
theorem q_lh {b : BB} {c : RB} (h : BR b c) {y : (Nat → Int64) × (Nat → Int64) × (Nat → Int32) × (Nat → Int32)} :
    ((r_h1 c).2.1 = 0 ∧ (p_lh b p_z0).2.1 = r_N c ∧ (p_lh b p_z0).1 = (r_h2 c y).1 ∧ (0 < r_N c → (r_h2 c y).2.1 0 = (p_lh b p_z0).2.2)) ∨
    (¬ (r_h1 c).2.1 = 0 ∧ (p_lh b p_z0).2.1 = 0 ∧ (p_lh b p_z0).1 = r_h1 c) := by
  have e := q_v h (z := p_z0) (Nat.zero_le _) rfl
  have hok := p_ok_nv (b := b) (z := p_z0) (p_ok_z0 b)
  unfold p_lh
  by_cases a1 : (p_nv b p_z0).2.2.1 = 0
  · rw [if_pos a1]
    by_cases a2 : (p_nv b p_z0).1 < 0 ∨ 2000 < (p_nv b p_z0).1
    · rw [if_pos a2]
      right
      have e1 : r_h1 c = ((p_nv b p_z0).2.1, 4, nI 0) := by
        unfold r_h1
        rw [e, if_pos ⟨a1, a2⟩]
        unfold r_fail
        rw [if_pos a1]
      exact ⟨by rw [e1]; exact (by decide : ¬ 4 = 0), rfl, e1.symm⟩
    · rw [if_neg a2]
      left
      have e1 : r_h1 c = (p_nv b p_z0).2 := by
        unfold r_h1
        rw [e, if_neg (fun q => a2 q.2)]
      have e2 : r_N c = uT (p_nv b p_z0).1 := by unfold r_N; rw [e]
      refine ⟨by rw [e1]; exact a1, ?_, ?_, ?_⟩
      · rw [e2]
        by_cases a3 : 0 < uT (p_nv b p_z0).1
        · rw [if_pos a3]
        · rw [if_neg a3]
      · unfold r_h2
        rw [e2, e1]
        by_cases a3 : 0 < uT (p_nv b p_z0).1
        · rw [if_pos a3, if_pos a3, q_v h hok.1 a1]
        · rw [if_neg a3, if_neg a3]
      · intro a3
        unfold r_h2
        rw [if_pos a3, e1]
        rw [e2] at a3
        rw [if_pos a3, q_v h hok.1 a1, q_unzig]
        dsimp only
        exact pk_uLs
  · rw [if_neg a1]
    right
    have e1 : r_h1 c = (p_nv b p_z0).2 := by
      unfold r_h1
      rw [e, if_neg (fun q => a1 q.1)]
    exact ⟨by rw [e1]; exact a1, rfl, e1.symm⟩
/-! bits of a part, read -/
theorem q_rd1 : ∀ n, n < 256 → ∀ s, s < 8 → ((nI n >>> (nI s &&& 31)) &&& nI 1) = nI (if n.testBit s = true then 1 else 0) := by decide +kernel
theorem q_vb {f : Nat → Int32} {q w k : Nat} (hf : r_by f) (hs : q * 8 + w * k + w ≤ 160000) (hw : w ≤ 64) : ∀ i, i ≤ w → ∀ j, tb (r_vb f q w k i) j = (decide (j < i) && rbit f (q * 8 + w * k + j))
  | 0, _, j => by
    show tb 0 j = _
    rw [tb_0, decide_eq_false (Nat.not_lt_zero j), Bool.false_and]
  | i + 1, hi, j => by
    have e1 : q + (w * k + i) / 8 = (q * 8 + w * k + i) / 8 := by omega
    have e2 : (w * k + i) % 8 = (q * 8 + w * k + i) % 8 := by omega
    obtain ⟨a1, a2⟩ := hf ((q * 8 + w * k + i) / 8) (by omega)
    unfold r_vb
    rw [tb_or, q_vb hf hs hw i (by omega), e1, e2, a1, q_rd1 _ a2 _ (by omega), nI_l (by split <;> decide), tb_shl _ (show i < 64 by omega), tb_lN]
    by_cases b1 : j < i
    · rw [decide_eq_true b1, decide_eq_true (show j < i + 1 by omega), decide_eq_false (show ¬ i ≤ j by omega), Bool.false_and, Bool.and_false, Bool.or_false]
    · by_cases b2 : j = i
      · subst b2
        rw [decide_eq_false b1, Bool.false_and, Bool.false_or, decide_eq_true (show j < j + 1 by omega), Bool.true_and, decide_eq_true (show j < 64 by omega), Bool.true_and, decide_eq_true (Nat.le_refl j), Bool.true_and, Nat.sub_self, decide_eq_true (show 0 < 64 by decide), Bool.true_and]
        unfold rbit
        cases hb : (cl f ((q * 8 + w * k + j) / 8)).testBit ((q * 8 + w * k + j) % 8) with
        | false => rfl
        | true => rfl
      · rw [decide_eq_false b1, Bool.false_and, Bool.false_or, decide_eq_false (show ¬ j < i + 1 by omega), Bool.false_and]
        have hz : (if (cl f ((q * 8 + w * k + i) / 8)).testBit ((q * 8 + w * k + i) % 8) = true then 1 else 0 : Nat).testBit (j - i) = false := by
          apply Nat.testBit_lt_two_pow
          have h2 : 2 ^ 1 ≤ 2 ^ (j - i) := Nat.pow_le_pow_right (by decide) (by omega)
          split <;> omega
        rw [hz, Bool.and_false, Bool.and_false, Bool.and_false]
theorem q_vb0 {f : Nat → Int32} {q k : Nat} : r_vb f q 0 k 0 = 0 := rfl
theorem BR.vb {b : BB} {c : RB} (h : BR b c) {q w k : Nat} (hw : w ≤ 64) (hk : k < 16) (hq : q + 2 * w ≤ b.2) : r_vb c.1 q w k w = p_bitsIn b.1 (q * 8 + k * w) w := by
  have h2 := h.2.1
  rcases Nat.eq_zero_or_pos w with e | h0
  · subst e
    rw [p_bitsIn_0 (by omega)]
    rfl
  · have hm : w * k + w ≤ w * 16 := by rw [← Nat.mul_succ]; exact Nat.mul_le_mul_left _ (by omega)
    rw [Nat.mul_comm k w]
    refine tb_ext fun j _ => ?_
    rw [q_vb h.2.2.2 (by omega) hw w (Nat.le_refl _), tb_bitsIn ⟨h0, hw, by omega⟩]
    by_cases a : j < w
    · rw [decide_eq_true a, Bool.true_and, Bool.true_and]
      exact h.bit (by omega)
    · rw [decide_eq_false a, Bool.false_and, Bool.false_and]
