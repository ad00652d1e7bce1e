/-! the class against the reference: the parts of a block, read -/
theorem q_tpl {wd : Nat → Int64} {lv : Int64} {w : Nat} : ∀ (n i q : Nat) (rw0 : Nat → Int64), 1 ≤ i → (∀ j, (j < i ∨ i + n ≤ j) → p_tpl wd lv w n i q rw0 j = rw0 j) ∧ (∀ e, e < n → p_tpl wd lv w n i q rw0 (i + e) = p_tpl wd lv w n i q rw0 (i + e - 1) + lv + p_bitsIn wd (q + e * w) w)
  | 0, i, q, rw0, _ => ⟨fun _ _ => rfl, fun e he => absurd he (Nat.not_lt_zero e)⟩
  | n + 1, i, q, rw0, hi => by
    obtain ⟨g1, g2⟩ := q_tpl (wd := wd) (lv := lv) (w := w) n (i + 1) (q + w) (vp_updL rw0 i (rw0 (i - 1) + lv + p_bitsIn wd q w)) (by omega)
    refine ⟨fun j hj => ?_, fun e he => ?_⟩
    · show p_tpl wd lv w n (i + 1) (q + w) (vp_updL rw0 i (rw0 (i - 1) + lv + p_bitsIn wd q w)) j = rw0 j
      rw [g1 j (by omega), pk_uLn (by omega)]
    · show p_tpl wd lv w n (i + 1) (q + w) (vp_updL rw0 i (rw0 (i - 1) + lv + p_bitsIn wd q w)) (i + e) = p_tpl wd lv w n (i + 1) (q + w) (vp_updL rw0 i (rw0 (i - 1) + lv + p_bitsIn wd q w)) (i + e - 1) + lv + p_bitsIn wd (q + e * w) w
      rcases Nat.eq_zero_or_pos e with e0 | e0
      · subst e0
        rw [show i + 0 = i from Nat.add_zero i, show q + 0 * w = q by omega, g1 i (by omega), g1 (i - 1) (by omega), pk_uLs, pk_uLn (by omega)]
      · have h1 := g2 (e - 1) (by omega)
        rw [show i + 1 + (e - 1) = i + e by omega, show q + w + (e - 1) * w = q + e * w by
          have : e * w = (e - 1) * w + w := by rw [← Nat.succ_mul]; congr 1; omega
          omega] at h1
        exact h1
theorem q_kl {c : RB} {lv : Int64} {k0 ip w q : Nat} {x : SS × (Nat → Int64)} : ∀ n, (∀ j, (j ≤ k0 ∨ k0 + min n ip < j) → (r_kl c lv k0 ip w q n x).2 j = x.2 j) ∧ (∀ e, e < min n ip → (r_kl c lv k0 ip w q n x).2 (k0 + e + 1) = (r_kl c lv k0 ip w q n x).2 (k0 + e) + lv + r_vb c.1 q w e w)
  | 0 => ⟨fun _ _ => rfl, fun e he => absurd he (by omega)⟩
  | n + 1 => by
    obtain ⟨g1, g2⟩ := q_kl (c := c) (lv := lv) (k0 := k0) (ip := ip) (w := w) (q := q) (x := x) n
    unfold r_kl
    by_cases a : n < ip
    · rw [if_pos a]
      refine ⟨fun j hj => ?_, fun e he => ?_⟩
      · show vp_updL (r_kl c lv k0 ip w q n x).2 (k0 + n + 1) _ j = x.2 j
        rw [pk_uLn (by omega), g1 j (by omega)]
      · show vp_updL (r_kl c lv k0 ip w q n x).2 (k0 + n + 1) ((r_kl c lv k0 ip w q n x).2 (k0 + n) + lv + r_vb c.1 q w n w) (k0 + e + 1) = vp_updL (r_kl c lv k0 ip w q n x).2 (k0 + n + 1) ((r_kl c lv k0 ip w q n x).2 (k0 + n) + lv + r_vb c.1 q w n w) (k0 + e) + lv + r_vb c.1 q w e w
        by_cases e2 : e = n
        · subst e2
          rw [pk_uLs, pk_uLn (by omega)]
        · rw [pk_uLn (by omega), pk_uLn (by omega)]
          exact g2 e (by omega)
    · rw [if_neg a]
      have em : min (n + 1) ip = min n ip := by omega
      rw [em]
      by_cases a2 : r_vb c.1 q w n w = 0
      · rw [if_pos a2]; exact ⟨g1, g2⟩
      · rw [if_neg a2]; exact ⟨g1, g2⟩
/-- what was told agrees up to m -/
def eqTo {α : Type} (m : Nat) (f g : Nat → α) : Prop := ∀ j, j < m → g j = f j
theorem q_part {b : BB} {c : RB} (h : BR b c) {N k i w s0 : Nat} {lv : Int64} {rw0 sp : Nat → Int64} {z : SS} (hw : w ≤ 64) (hi : i < 4) (hs : s0 + 2 * w ≤ b.2) (hr : eqTo (p_pe k i N) rw0 sp) : eqTo (p_pe k (i + 1) N) (p_tp b.1 N lv w s0 k i rw0) (r_kl c lv (k * 64 + 16 * i) (p_lo N k i) w s0 16 (z, sp)).2 := by
  unfold p_tp
  rcases Nat.eq_zero_or_pos (p_lo N k i) with e0 | e0
  · have e1 : p_pe k (i + 1) N - p_pe k i N = 0 := e0
    have e2 : p_pe k (i + 1) N ≤ p_pe k i N := by omega
    obtain ⟨g1, -⟩ := q_kl (c := c) (lv := lv) (k0 := k * 64 + 16 * i) (ip := p_lo N k i) (w := w) (q := s0) (x := (z, sp)) 16
    rw [e1]
    intro j hj
    rw [g1 j (by omega)]
    exact hr j (by omega)
  · have hn : p_pe k (i + 1) N - p_pe k i N = p_lo N k i := rfl
    have hl := p_lo_le N k i
    have e1 : p_pe k i N = 1 + (k * 64 + 16 * i) := by unfold p_lo p_pe at e0; unfold p_pe; omega
    have e3 : p_pe k (i + 1) N = p_pe k i N + p_lo N k i := by omega
    obtain ⟨t1, t2⟩ := q_tpl (wd := b.1) (lv := lv) (w := w) (p_lo N k i) (p_pe k i N) (s0 * 8) rw0 (by omega)
    obtain ⟨g1, g2⟩ := q_kl (c := c) (lv := lv) (k0 := k * 64 + 16 * i) (ip := p_lo N k i) (w := w) (q := s0) (x := (z, sp)) 16
    rw [hn]
    have low : ∀ j, j < p_pe k i N → (r_kl c lv (k * 64 + 16 * i) (p_lo N k i) w s0 16 (z, sp)).2 j = p_tpl b.1 lv w (p_lo N k i) (p_pe k i N) (s0 * 8) rw0 j := by
      intro j hj
      rw [g1 j (by omega), t1 j (by omega)]
      exact hr j hj
    have up : ∀ e, e ≤ p_lo N k i → ∀ j, j < p_pe k i N + e → (r_kl c lv (k * 64 + 16 * i) (p_lo N k i) w s0 16 (z, sp)).2 j = p_tpl b.1 lv w (p_lo N k i) (p_pe k i N) (s0 * 8) rw0 j := by
      intro e
      induction e with
      | zero => intro _ j hj; exact low j hj
      | succ e ih =>
        intro he j hj
        by_cases q : j < p_pe k i N + e
        · exact ih (by omega) j q
        · have ej : j = p_pe k i N + e := by omega
          subst ej
          rw [t2 e (by omega), ← ih (by omega) (p_pe k i N + e - 1) (by omega)]
          have g3 := g2 e (by omega)
          rw [show k * 64 + 16 * i + e + 1 = p_pe k i N + e by omega, show k * 64 + 16 * i + e = p_pe k i N + e - 1 by omega, h.vb hw (by omega) hs] at g3
          exact g3
    intro j hj
    exact up (p_lo N k i) (Nat.le_refl _) j (by omega)
/-- the bits that are left -/
theorem q_ppl {b : BB} {z : SS} {w : Nat} : ∀ (n i : Nat), ((∀ e, i ≤ e → e < i + n → p_bitsIn b.1 (z.1 * 8 + e * w) w = 0) → p_ppl b z w n i = (z.1 + w * 16 / 8, z.2)) ∧ (¬ (∀ e, i ≤ e → e < i + n → p_bitsIn b.1 (z.1 * 8 + e * w) w = 0) → p_ppl b z w n i = (z.1, 5, nI z.1))
  | 0, i => ⟨fun _ => rfl, fun h => absurd (fun e h1 h2 => absurd h2 (by omega)) h⟩
  | n + 1, i => by
    obtain ⟨g1, g2⟩ := q_ppl (b := b) (z := z) (w := w) n (i + 1)
    unfold p_ppl
    by_cases a : p_bitsIn b.1 (z.1 * 8 + i * w) w = 0
    · rw [if_pos a]
      refine ⟨fun h => g1 (fun e h1 h2 => h e (by omega) (by omega)), fun h => g2 (fun h3 => h (fun e h1 h2 => ?_))⟩
      by_cases q : e = i
      · rw [q]; exact a
      · exact h3 e (by omega) (by omega)
    · rw [if_neg a]
      exact ⟨fun h => absurd (h i (Nat.le_refl _) (by omega)) a, fun _ => rfl⟩
theorem q_klf {c : RB} {lv : Int64} {k0 ip w q : Nat} {x : SS × (Nat → Int64)} (h0 : x.1.2.1 = 0) : ∀ n, ((∀ e, ip ≤ e → e < n → r_vb c.1 q w e w = 0) → (r_kl c lv k0 ip w q n x).1 = x.1) ∧ (¬ (∀ e, ip ≤ e → e < n → r_vb c.1 q w e w = 0) → (r_kl c lv k0 ip w q n x).1 = (x.1.1, 5, nI q))
  | 0 => ⟨fun _ => rfl, fun h => absurd (fun e h1 h2 => absurd h2 (Nat.not_lt_zero e)) h⟩
  | n + 1 => by
    obtain ⟨g1, g2⟩ := q_klf (c := c) (lv := lv) (k0 := k0) (ip := ip) (w := w) (q := q) (x := x) h0 n
    unfold r_kl
    by_cases a : n < ip
    · rw [if_pos a]
      refine ⟨fun h => g1 (fun e h1 h2 => h e h1 (by omega)), fun h => g2 (fun h3 => h (fun e h1 h2 => h3 e h1 (by omega)))⟩
    · rw [if_neg a]
      by_cases a2 : r_vb c.1 q w n w = 0
      · rw [if_pos a2]
        refine ⟨fun h => g1 (fun e h1 h2 => h e h1 (by omega)), fun h => g2 (fun h3 => h (fun e h1 h2 => ?_))⟩
        by_cases e2 : e = n
        · rw [e2]; exact a2
        · exact h3 e h1 (by omega)
      · rw [if_neg a2]
        refine ⟨fun h => absurd (h n (by omega) (by omega)) a2, fun _ => ?_⟩
        show r_fail (r_kl c lv k0 ip w q n x).1 5 (nI q) = _
        by_cases a3 : ∀ e, ip ≤ e → e < n → r_vb c.1 q w e w = 0
        · rw [g1 a3]
          unfold r_fail
          rw [if_pos h0]
        · rw [g2 a3]
          unfold r_fail
          rw [if_neg (show ¬ (x.1.1, 5, nI q).2.1 = 0 from (by decide : ¬ 5 = 0))]
/-- the states agree: fault and place, and where it stands as long as there is no fault -/
def SR (z z' : SS) : Prop := z'.2 = z.2 ∧ (z.2.1 = 0 → z' = z)
theorem SR.refl (z : SS) : SR z z := ⟨rfl, fun _ => rfl⟩
theorem q_pp {b : BB} {c : RB} (h : BR b c) {N k i w : Nat} {lv : Int64} {z : SS} {sp : Nat → Int64} {many : Nat} (hm : r_ip many i = p_lo N k i) (hw : w ≤ 64) (hz : z.1 ≤ b.2) (h0 : z.2.1 = 0) :
    SR (p_pp b z w (p_lo N k i)) (r_pp c lv (k * 64) many w i (z, sp)).1 ∧ ((p_pp b z w (p_lo N k i)).2.1 = 0 → z.1 + 2 * w ≤ b.2 ∧ (r_pp c lv (k * 64) many w i (z, sp)).2 = (r_kl c lv (k * 64 + 16 * i) (p_lo N k i) w z.1 16 (z, sp)).2) := by
  have hl := p_lo_le N k i
  unfold p_pp r_pp
  rw [h.1, hm]
  by_cases a : b.2 - z.1 < 2 * w
  · rw [if_pos (show b.2 - z.1 < w * 16 / 8 by omega), if_pos a]
    have e : r_fail z 1 (nI b.2) = (z.1, 1, nI b.2) := by unfold r_fail; rw [if_pos h0]
    dsimp only
    rw [e]
    exact ⟨SR.refl _, fun q => absurd (show 1 = 0 from q) (by decide)⟩
  · rw [if_neg (show ¬ b.2 - z.1 < w * 16 / 8 by omega), if_neg a]
    have ev : ∀ e, e < 16 → r_vb c.1 z.1 w e w = p_bitsIn b.1 (z.1 * 8 + e * w) w := fun e he => h.vb hw he (by omega)
    obtain ⟨g1, g2⟩ := q_ppl (b := b) (z := z) (w := w) (16 - p_lo N k i) (p_lo N k i)
    obtain ⟨k1, k2⟩ := q_klf (c := c) (lv := lv) (k0 := k * 64 + 16 * i) (ip := p_lo N k i) (w := w) (q := z.1) (x := (z, sp)) h0 16
    by_cases q : ∀ e, p_lo N k i ≤ e → e < 16 → r_vb c.1 z.1 w e w = 0
    · rw [g1 (fun e h1 h2 => by rw [← ev e (by omega)]; exact q e h1 (by omega))]
      dsimp only
      rw [k1 q, show w * 16 / 8 = 2 * w by omega]
      exact ⟨SR.refl _, fun _ => ⟨by omega, rfl⟩⟩
    · rw [g2 (fun q2 => q (fun e h1 h2 => by rw [ev e h2]; exact q2 e h1 (by omega)))]
      dsimp only
      rw [k2 q]
      exact ⟨⟨rfl, fun z5 => absurd (show 5 = 0 from z5) (by decide)⟩, fun z5 => absurd (show 5 = 0 from z5) (by decide)⟩
