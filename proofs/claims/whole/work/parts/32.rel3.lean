/-! the class against the reference: the parts of a block, and what is written -/
theorem q_bit1 (x : Int64) {i : Nat} (hi : i < 64) : (zushr x (nI i) &&& 1 = 1) ↔ tb x i = true := by
  have hd : x.toBitVec.toNat / 2 ^ i < 2 ^ 64 := Nat.lt_of_le_of_lt (Nat.div_le_self _ _) x.toBitVec.isLt
  rw [q_ushr' x hi, wb_a1 hd]
  have e : tb x i = decide (x.toBitVec.toNat / 2 ^ i % 2 = 1) := Nat.testBit_eq_decide_div_mod_eq
  rw [e, decide_eq_true_iff]
  constructor
  · intro h
    have h1 : (lN (x.toBitVec.toNat / 2 ^ i % 2)).toBitVec.toNat = (1 : Int64).toBitVec.toNat := by rw [h]
    rw [wb_tn (by omega)] at h1
    exact h1
  · intro h; rw [h]; rfl
theorem q_bi {x : Int64} {w k s0 : Nat} {f : Nat → Int32} (hf : r_by f) (hw : w ≤ 64) (hs : s0 * 8 + w * k + w ≤ 160000) : ∀ i, i ≤ w → r_by (r_bi x w k s0 i f) ∧ ∀ j, rbit (r_bi x w k s0 i f) j = (rbit f j || (decide (s0 * 8 + w * k ≤ j) && (decide (j < s0 * 8 + w * k + i) && tb x (j - (s0 * 8 + w * k)))))
  | 0, _ => ⟨hf, fun j => by
    show rbit f j = _
    by_cases a : s0 * 8 + w * k ≤ j
    · rw [decide_eq_false (show ¬ j < s0 * 8 + w * k + 0 by omega), Bool.false_and, Bool.and_false, Bool.or_false]
    · rw [decide_eq_false a, Bool.false_and, Bool.or_false]⟩
  | i + 1, hi => by
    obtain ⟨g1, g2⟩ := q_bi (x := x) hf hw hs i (by omega)
    have e1 : s0 + (w * k + i) / 8 = (s0 * 8 + w * k + i) / 8 := by omega
    have e2 : (w * k + i) % 8 = (s0 * 8 + w * k + i) % 8 := by omega
    have last : ∀ j, (decide (s0 * 8 + w * k ≤ j) && (decide (j < s0 * 8 + w * k + (i + 1)) && tb x (j - (s0 * 8 + w * k)))) = ((decide (s0 * 8 + w * k ≤ j) && (decide (j < s0 * 8 + w * k + i) && tb x (j - (s0 * 8 + w * k)))) || (decide (j = s0 * 8 + w * k + i) && tb x i)) := by
      intro j
      by_cases a : s0 * 8 + w * k ≤ j
      · rw [decide_eq_true a, Bool.true_and, Bool.true_and]
        by_cases a2 : j = s0 * 8 + w * k + i
        · rw [decide_eq_true (show j < s0 * 8 + w * k + (i + 1) by omega), decide_eq_false (show ¬ j < s0 * 8 + w * k + i by omega), decide_eq_true a2, show j - (s0 * 8 + w * k) = i by omega]
          rfl
        · rw [decide_eq_false a2, Bool.false_and, Bool.or_false, decide_eq_decide.mpr (show j < s0 * 8 + w * k + (i + 1) ↔ j < s0 * 8 + w * k + i by omega)]
      · rw [decide_eq_false a, decide_eq_false (show ¬ j = s0 * 8 + w * k + i by omega), Bool.false_and, Bool.false_and, Bool.false_and]
        rfl
    unfold r_bi
    by_cases q : zushr x (nI i) &&& 1 = 1
    · have ht := (q_bit1 x (by omega)).mp q
      obtain ⟨s1, s2⟩ := q_set (m := s0 * 8 + w * k + i) g1 (by omega)
      rw [if_pos q, e1, e2]
      refine ⟨s1, fun j => ?_⟩
      rw [s2, g2, last, ht, Bool.and_true, Bool.or_assoc]
    · have ht : tb x i = false := by
        cases h : tb x i with
        | false => rfl
        | true => exact absurd ((q_bit1 x (by omega)).mpr h) q
      rw [if_neg q]
      refine ⟨g1, fun j => ?_⟩
      rw [g2, last, ht, Bool.and_false, Bool.or_false]
theorem q_divmod {w c r : Nat} (hr : r < w) : (w * c + r) / w = c ∧ (w * c + r) % w = r := by
  refine ⟨?_, by rw [Nat.mul_comm]; exact Nat.mul_add_mod_of_lt hr⟩
  rw [Nat.mul_add_div (by omega), Nat.div_eq_of_lt hr, Nat.add_zero]
theorem q_bk {rq : Nat → Int64} {lv : Int64} {k0 w s0 : Nat} {f : Nat → Int32} (hf : r_by f) (h0 : 0 < w) (hw : w ≤ 64) : ∀ n, s0 * 8 + w * n ≤ 160000 → r_by (r_bk rq lv k0 w s0 n f) ∧ ∀ j, rbit (r_bk rq lv k0 w s0 n f) j = (rbit f j || (decide (s0 * 8 ≤ j) && (decide (j < s0 * 8 + w * n) && tb (rq (k0 + (j - s0 * 8) / w + 1) - rq (k0 + (j - s0 * 8) / w) - lv) ((j - s0 * 8) % w))))
  | 0, _ => ⟨hf, fun j => by
    show rbit f j = _
    by_cases a : s0 * 8 ≤ j
    · rw [decide_eq_false (show ¬ j < s0 * 8 + w * 0 by omega), Bool.false_and, Bool.and_false, Bool.or_false]
    · rw [decide_eq_false a, Bool.false_and, Bool.or_false]⟩
  | n + 1, hs => by
    have ms : w * (n + 1) = w * n + w := Nat.mul_succ w n
    rw [ms] at hs
    obtain ⟨g1, g2⟩ := q_bk (rq := rq) (lv := lv) (k0 := k0) (s0 := s0) hf h0 hw n (by omega)
    obtain ⟨s1, s2⟩ := q_bi (x := rq (k0 + n + 1) - rq (k0 + n) - lv) (w := w) (k := n) (s0 := s0) g1 hw (by omega) w (Nat.le_refl _)
    refine ⟨s1, fun j => ?_⟩
    show rbit (r_bi (rq (k0 + n + 1) - rq (k0 + n) - lv) w n s0 w (r_bk rq lv k0 w s0 n f)) j = _
    rw [s2, g2, ms, Bool.or_assoc]
    congr 1
    by_cases a : s0 * 8 ≤ j
    · rw [decide_eq_true a, Bool.true_and, Bool.true_and]
      by_cases a2 : j < s0 * 8 + w * n
      · rw [decide_eq_true a2, decide_eq_true (show j < s0 * 8 + (w * n + w) by omega), decide_eq_false (show ¬ s0 * 8 + w * n ≤ j by omega), Bool.false_and, Bool.or_false]
      · rw [decide_eq_false a2, Bool.false_and, Bool.false_or, decide_eq_true (show s0 * 8 + w * n ≤ j by omega), Bool.true_and]
        by_cases a3 : j < s0 * 8 + (w * n + w)
        · have hr : j - (s0 * 8 + w * n) < w := by omega
          obtain ⟨d1, d2⟩ := q_divmod (c := n) hr
          have e : w * n + (j - (s0 * 8 + w * n)) = j - s0 * 8 := by omega
          rw [e] at d1 d2
          rw [d1, d2, decide_eq_true a3, decide_eq_true (show j < s0 * 8 + w * n + w by omega)]
        · rw [decide_eq_false a3, decide_eq_false (show ¬ j < s0 * 8 + w * n + w by omega), Bool.false_and, Bool.false_and]
    · rw [decide_eq_false a, decide_eq_false (show ¬ s0 * 8 + w * n ≤ j by omega), Bool.false_and, Bool.false_and]
      rfl
theorem q_bk0 {rq : Nat → Int64} {lv : Int64} {k0 s0 : Nat} {f : Nat → Int32} : ∀ n, r_bk rq lv k0 0 s0 n f = f
  | 0 => rfl
  | n + 1 => by
    show r_bi (rq (k0 + n + 1) - rq (k0 + n) - lv) 0 n s0 0 (r_bk rq lv k0 0 s0 n f) = f
    exact q_bk0 n
theorem q_zl {c : RB} (hc : r_by c.1) : ∀ t, r_by (r_zl t c).1 ∧ ∀ k, (r_zl t c).1 k = if c.2 ≤ k ∧ k < c.2 + t then nI 0 else c.1 k
  | 0 => ⟨hc, fun k => by rw [if_neg (by omega)]; rfl⟩
  | t + 1 => by
    obtain ⟨g1, g2⟩ := q_zl hc t
    refine ⟨q_by_upd g1 (low8_lt _), fun k => ?_⟩
    show upd (r_zl t c).1 (r_zl t c).2 (nI (low8 (nI 0))) k = _
    rw [r_zl_sz, show low8 (nI 0) = 0 by decide +kernel]
    by_cases e : k = c.2 + t
    · rw [e, pk_us, if_pos (by omega)]
    · rw [pk_un e, g2]
      by_cases e2 : c.2 ≤ k ∧ k < c.2 + t
      · rw [if_pos e2, if_pos (by omega)]
      · rw [if_neg e2, if_neg (by omega)]
theorem q_wpl {rq : Nat → Int64} {le : Int64} {en w : Nat} (h0 : 0 < w) (hw : w ≤ 64) : ∀ (n i q : Nat) (wd : Nat → Int64), q + w * n ≤ 160000 → ∀ j, wbit (p_wpl rq le en w n i q wd) j = if q ≤ j ∧ j < q + w * n then tb (if i + (j - q) / w < en then rq (i + (j - q) / w) - rq (i + (j - q) / w - 1) - le else 0) ((j - q) % w) else wbit wd j
  | 0, i, q, wd, _, j => by rw [if_neg (by omega)]; rfl
  | n + 1, i, q, wd, h, j => by
    have ms : w * (n + 1) = w * n + w := Nat.mul_succ w n
    rw [ms] at h ⊢
    unfold p_wpl
    rw [q_wpl h0 hw n (i + 1) (q + w) _ (by omega) j, wbit_setBits ⟨h0, hw, by omega⟩]
    by_cases a : q + w ≤ j ∧ j < q + w + w * n
    · rw [if_pos a, if_pos (show q ≤ j ∧ j < q + (w * n + w) by omega)]
      have e : j - q = (j - (q + w)) + w := by omega
      rw [e, Nat.add_div_right _ h0, Nat.add_mod_right, show i + 1 + (j - (q + w)) / w = i + ((j - (q + w)) / w + 1) by omega]
    · rw [if_neg a]
      by_cases a2 : q ≤ j ∧ j < q + w
      · rw [if_pos a2, if_pos (show q ≤ j ∧ j < q + (w * n + w) by omega), Nat.div_eq_of_lt (show j - q < w by omega), Nat.mod_eq_of_lt (show j - q < w by omega), Nat.add_zero]
      · rw [if_neg a2, if_neg (show ¬ (q ≤ j ∧ j < q + (w * n + w)) by omega)]
theorem q_wpl0 {rq : Nat → Int64} {le : Int64} {en : Nat} : ∀ (n i q : Nat) (wd : Nat → Int64), p_wpl rq le en 0 n i q wd = wd
  | 0, _, _, _ => rfl
  | n + 1, i, q, wd => by
    unfold p_wpl
    rw [q_wpl0 n, p_setBits_0 (by omega)]
theorem BR.pt {rq rq' : Nat → Int64} {rc k p w : Nat} {lv : Int64} {b : BB} {c : RB} (hrow : ∀ i, i < rc → rq' i = rq i) (hk : k < p_bf rc) (hp : p < 4) (hw : w ≤ 64) (hs : b.2 + 2 * w ≤ 20000) (h : BR b c) : BR (p_wp rq rc lv w k p b) (r_pt rq' lv (k * 64) (q_te rc k) w p c) := by
  have h1 := p_bf_in hk
  have hc2 := h.1
  have hby := h.2.2.2
  obtain ⟨z1, z2⟩ := q_zl hby (2 * w)
  have zs := r_zl_sz c (2 * w)
  rcases Nat.eq_zero_or_pos w with e | h0
  · subst e
    unfold p_wp r_pt
    rw [q_wpl0, q_bk0]
    exact h
  · have hn : min (q_te rc k - (k * 64 + 16 * p)) 16 ≤ 16 := Nat.min_le_right _ _
    have hm : w * min (q_te rc k - (k * 64 + 16 * p)) 16 ≤ w * 16 := Nat.mul_le_mul_left _ hn
    obtain ⟨g1, g2⟩ := q_bk (rq := rq') (lv := lv) (k0 := k * 64 + 16 * p) (s0 := c.2) z1 h0 hw (min (q_te rc k - (k * 64 + 16 * p)) 16) (by omega)
    have hsz : (p_wp rq rc lv w k p b).2 = b.2 + 2 * w := by show b.2 + w * 16 / 8 = _; omega
    refine BR.of ?_ (by rw [hsz]; exact hs) g1 (fun i hi => ?_)
    · rw [hsz]; show (r_zl (2 * w) c).2 = _; rw [zs, hc2]
    · rw [hsz] at hi
      have g3 := g2 i
      have c3 := q_wpl (rq := rq) (le := lv) (en := p_pe k (p + 1) rc) h0 hw 16 (p_pe k p rc) (b.2 * 8) b.1 (by omega) i
      show rbit (r_bk rq' lv (k * 64 + 16 * p) w c.2 _ (r_zl (2 * w) c).1) i = wbit (p_wpl rq lv (p_pe k (p + 1) rc) w 16 (p_pe k p rc) (b.2 * 8) b.1) i
      rw [g3, c3, hc2]
      by_cases a : b.2 * 8 ≤ i
      · have hz : rbit (r_zl (2 * w) c).1 i = false := by
          unfold rbit cl
          rw [z2, if_pos (by omega), nI_clamp (by decide)]
          exact Nat.zero_testBit _
        rw [hz, Bool.false_or, decide_eq_true a, Bool.true_and, if_pos (show b.2 * 8 ≤ i ∧ i < b.2 * 8 + w * 16 by omega)]
        have hd : (i - b.2 * 8) / w < 16 := Nat.div_lt_of_lt_mul (by omega)
        generalize hE : (i - b.2 * 8) / w = E at hd ⊢
        have hlt : (i < b.2 * 8 + w * min (q_te rc k - (k * 64 + 16 * p)) 16) ↔ E < min (q_te rc k - (k * 64 + 16 * p)) 16 := by
          rw [← hE, Nat.div_lt_iff_lt_mul h0, Nat.mul_comm _ w]
          omega
        by_cases a2 : E < min (q_te rc k - (k * 64 + 16 * p)) 16
        · have e1 : p_pe k p rc = 1 + (k * 64 + 16 * p) := by unfold p_pe; unfold q_te at a2; omega
          have e2 : p_pe k p rc + E < p_pe k (p + 1) rc := by unfold p_pe; unfold q_te at a2; omega
          have e3 : k * 64 + 16 * p + E + 1 < rc := by unfold q_te at a2; omega
          rw [decide_eq_true (hlt.mpr a2), Bool.true_and, if_pos e2, e1, hrow _ e3, hrow _ (by omega), show 1 + (k * 64 + 16 * p) + E = k * 64 + 16 * p + E + 1 by omega, Nat.add_sub_cancel]
        · have e2 : ¬ p_pe k p rc + E < p_pe k (p + 1) rc := by unfold p_pe; unfold q_te at a2; omega
          rw [decide_eq_false (fun z => a2 (hlt.mp z)), Bool.false_and, if_neg e2, tb_0]
      · have hz : rbit (r_zl (2 * w) c).1 i = rbit c.1 i := by
          unfold rbit cl
          rw [z2, if_neg (by omega)]
        rw [hz, decide_eq_false a, Bool.false_and, Bool.or_false, if_neg (fun z => a z.1)]
        exact h.bit (by omega)
