/-! what the class's look through the bytes does -/
abbrev SS : Type := Nat × Nat × Int32
def p_nbV (b : BB) (z : SS) : Nat := if z.1 < b.2 then gB b.1 z.1 else 0
def p_nbS (b : BB) (z : SS) : SS := if z.1 < b.2 then (z.1 + 1, z.2) else (z.1, 1, nI b.2)
def p_nvl (b : BB) (beg : Nat) : Nat → Nat → Int64 → SS → Int64 × SS
  | 0, _, _, z => (0, (z.1, 2, nI beg))
  | n + 1, i, v, z =>
    if (p_nbS b z).2.1 = 0 then
      (if (i = 9 ∧ 1 < p_nbV b z) ∨ (0 < i ∧ p_nbV b z = 0) then (0, ((p_nbS b z).1, 2, nI beg))
       else if p_nbV b z < 128 then (v ||| zshl ((nI (p_nbV b z)).toInt64 &&& 127) (nI (7 * i)), p_nbS b z)
       else p_nvl b beg n (i + 1) (v ||| zshl ((nI (p_nbV b z)).toInt64 &&& 127) (nI (7 * i))) (p_nbS b z))
    else (0, p_nbS b z)
def p_nv (b : BB) (z : SS) : Int64 × SS := p_nvl b z.1 10 0 0 z
def p_lo (to k p : Nat) : Nat := p_pe k (p + 1) to - p_pe k p to
def p_nwS (b : BB) (z : SS) (lo : Nat) : SS := if 64 < p_nbV b z ∨ (0 < p_nbV b z ∧ lo = 0) then ((p_nbS b z).1, 5, nI z.1) else p_nbS b z
def p_ppl (b : BB) (z : SS) (w : Nat) : Nat → Nat → SS
  | 0, _ => (z.1 + w * 16 / 8, z.2)
  | n + 1, i => if p_bitsIn b.1 (z.1 * 8 + i * w) w = 0 then p_ppl b z w n (i + 1) else (z.1, 5, nI z.1)
def p_pp (b : BB) (z : SS) (w lo : Nat) : SS := if b.2 - z.1 < w * 16 / 8 then (z.1, 1, nI b.2) else p_ppl b z w (16 - lo) lo
theorem p_nbV_le {b : BB} {z : SS} (hu : b.2 ≤ 20000) : p_nbV b z < 256 := by
  unfold p_nbV
  by_cases h : z.1 < b.2
  · rw [if_pos h]; exact gB_lt (by omega)
  · rw [if_neg h]; decide
theorem p_nbS_le {b : BB} {z : SS} (hz : z.1 ≤ b.2) : (p_nbS b z).1 ≤ b.2 := by
  unfold p_nbS
  by_cases h : z.1 < b.2
  · rw [if_pos h]; exact h
  · rw [if_neg h]; exact hz
theorem p_nvl_le {b : BB} {beg : Nat} : ∀ (n i : Nat) (v : Int64) (z : SS), z.1 ≤ b.2 → (p_nvl b beg n i v z).2.1 ≤ b.2
  | 0, _, _, _, h => h
  | n + 1, i, v, z, h => by
    have h1 := p_nbS_le h
    unfold p_nvl
    by_cases a1 : (p_nbS b z).2.1 = 0
    · rw [if_pos a1]
      by_cases a2 : (i = 9 ∧ 1 < p_nbV b z) ∨ (0 < i ∧ p_nbV b z = 0)
      · rw [if_pos a2]; exact h1
      · rw [if_neg a2]
        by_cases a3 : p_nbV b z < 128
        · rw [if_pos a3]; exact h1
        · rw [if_neg a3]; exact p_nvl_le n _ _ _ h1
    · rw [if_neg a1]; exact h1
theorem p_nv_le {b : BB} {z : SS} (h : z.1 ≤ b.2) : (p_nv b z).2.1 ≤ b.2 := p_nvl_le _ _ _ _ h
theorem p_nwS_le {b : BB} {z : SS} {lo : Nat} (h : z.1 ≤ b.2) : (p_nwS b z lo).1 ≤ b.2 := by
  have h1 := p_nbS_le h
  unfold p_nwS
  by_cases a : 64 < p_nbV b z ∨ (0 < p_nbV b z ∧ lo = 0)
  · rw [if_pos a]; exact h1
  · rw [if_neg a]; exact h1
theorem p_ppl_le {b : BB} {z : SS} {w : Nat} (h : z.1 ≤ b.2) (h2 : z.1 + w * 16 / 8 ≤ b.2) : ∀ (n i : Nat), (p_ppl b z w n i).1 ≤ b.2
  | 0, _ => h2
  | n + 1, i => by
    unfold p_ppl
    by_cases a : p_bitsIn b.1 (z.1 * 8 + i * w) w = 0
    · rw [if_pos a]; exact p_ppl_le h h2 n _
    · rw [if_neg a]; exact h
theorem p_pp_le {b : BB} {z : SS} {w lo : Nat} (h : z.1 ≤ b.2) : (p_pp b z w lo).1 ≤ b.2 := by
  unfold p_pp
  by_cases a : b.2 - z.1 < w * 16 / 8
  · rw [if_pos a]; exact h
  · rw [if_neg a]; exact p_ppl_le h (by omega) _ _
theorem p_nbS_f {b : BB} {z : SS} (h : z.2.1 < 1000000) : (p_nbS b z).2.1 < 1000000 := by
  unfold p_nbS
  by_cases a : z.1 < b.2
  · rw [if_pos a]; exact h
  · rw [if_neg a]; exact (by decide : 1 < 1000000)
theorem p_pe_mono (to k p : Nat) : p_pe k p to ≤ p_pe k (p + 1) to := by unfold p_pe; omega
theorem p_pe_to (to k p : Nat) : p_pe k p to ≤ to := by unfold p_pe; omega
