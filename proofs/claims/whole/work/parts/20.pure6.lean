/-! what the reference's small methods answer -/
abbrev RB : Type := (Nat → Int32) × Nat
def r_add (b : RB) (v : Int32) : RB := (upd b.1 b.2 (nI (low8 v)), b.2 + 1)
theorem r_low (v : Int32) : v &&& nI 255 = nI (low8 v) := pk_and v (m := nI 255) 8 (by decide +kernel)
def r_app (b : RB) (v : Int32) : RB := if b.2 < 20000 then r_add b v else b
def r_byteAt (b : RB) (k : Int32) : Int32 := if p_has b.2 k = true then b.1 k.toNatClampNeg else (-1)
def r_setByte (b : RB) (k v : Int32) : Nat → Int32 := if p_has b.2 k = true then upd b.1 k.toNatClampNeg (nI (low8 v)) else b.1
theorem r_lt4 {k : Int32} (h : k ≤ nI 3) : ¬ nI 4 ≤ k := fun h2 => absurd (Int32.le_trans h2 h) (by decide)
theorem r_ge4 {k : Int32} (h : ¬ k ≤ nI 3) : nI 4 ≤ k := by
  rw [Int32.le_iff_toInt_le] at h ⊢
  rw [show (nI 3).toInt = 3 by decide +kernel] at h
  rw [show (nI 4).toInt = 4 by decide +kernel]
  omega
theorem r_part {bc : Nat} {f : Nat → Int32} {j i : Nat} (hj : j < bc) (hi : i < 4) (hb : bc < 1000000) : p_part bc f (nI j) (nI i) = f (4 * j + i) := by
  unfold p_part p_hp
  rw [if_pos (decide_eq_true ⟨by rw [p_has_nI (by omega) (by omega)]; exact decide_eq_true hj, nI_pos (by omega), fun z => absurd ((nI_leI (by decide) (by omega)).mp z) (by omega)⟩), nI_clamp (by omega), nI_clamp (by omega), Nat.mul_comm 4 j]
theorem r_part0 {bc : Nat} {f : Nat → Int32} {k p : Int32} (h : k < 0 ∨ nI bc ≤ k ∨ p < 0 ∨ ¬ p ≤ nI 3) : p_part bc f k p = (-1) := by
  unfold p_part
  rw [if_neg (fun z => ?_)]
  have h1 := of_decide_eq_true z
  have h2 := of_decide_eq_true h1.1
  rcases h with q | q | q | q
  · exact h2.1 q
  · exact h2.2 q
  · exact h1.2.1 q
  · exact h1.2.2 (r_ge4 q)
def r_vnl (v : Int64) : Nat → Nat → Nat
  | 0, n => n
  | f + 1, n => if zushr v (nI (7 * n)) = 0 then n else r_vnl v f (n + 1)
/-- how many bytes a varint has -/
def r_vn (v : Int64) : Nat := r_vnl v 9 1
def r_avb (v : Int64) (n k : Nat) : Int32 := (zushr v (nI (7 * k)) &&& 127).toInt32 + (if k < n - 1 then nI 128 else nI 0)
def r_avl (v : Int64) (n : Nat) : Nat → RB → RB
  | 0, b => b
  | k + 1, b => r_add (r_avl v n k b) (r_avb v n k)
def r_av (b : RB) (v : Int64) : RB := r_avl v (r_vn v) (r_vn v) b
theorem r_vnl_in (v : Int64) : ∀ (f n : Nat), n ≤ r_vnl v f n ∧ r_vnl v f n ≤ n + f
  | 0, n => ⟨Nat.le_refl _, Nat.le_refl _⟩
  | f + 1, n => by
    unfold r_vnl
    by_cases h : zushr v (nI (7 * n)) = 0
    · rw [if_pos h]; omega
    · rw [if_neg h]
      have := r_vnl_in v f (n + 1)
      omega
theorem r_vn_in (v : Int64) : 1 ≤ r_vn v ∧ r_vn v ≤ 10 := by
  have := r_vnl_in v 9 1
  unfold r_vn
  omega
theorem r_avl_sz (v : Int64) (n : Nat) (b : RB) : ∀ k, (r_avl v n k b).2 = b.2 + k
  | 0 => rfl
  | k + 1 => by
    show (r_avl v n k b).2 + 1 = _
    rw [r_avl_sz v n b k]; omega
theorem r_av_sz (v : Int64) (b : RB) : (r_av b v).2 = b.2 + r_vn v := r_avl_sz v _ b _
def r_zig (v : Int64) : Int64 := if 0 ≤ v then 2 * v else (-2) * v - 1
def r_unzig (z : Int64) : Int64 := if z &&& 1 = 0 then zushr z (nI 1) else -(zushr z (nI 1)) - 1
def r_ip (many p : Nat) : Nat := min (many - 16 * p) 16
def r_fail (z : SS) (ki : Nat) (wh : Int32) : SS := if z.2.1 = 0 then (z.1, ki, wh) else z
def r_nV (b : RB) (z : SS) : Nat := if z.1 = b.2 then 0 else cl b.1 z.1
def r_nS (b : RB) (z : SS) : SS := if z.1 = b.2 then r_fail z 1 (nI b.2) else (z.1 + 1, z.2)
/-- the reference's bytes are bytes -/
def r_by (f : Nat → Int32) : Prop := ∀ k, k < 20000 → f k = nI (cl f k) ∧ cl f k < 256
theorem r_nV_lt {b : RB} {z : SS} (hB : r_by b.1) (hz : z.1 ≤ b.2) (hu : b.2 ≤ 20000) : r_nV b z < 256 := by
  unfold r_nV
  by_cases h : z.1 = b.2
  · rw [if_pos h]; decide
  · rw [if_neg h]; exact (hB z.1 (by omega)).2
theorem r_fail_1 (z : SS) (ki : Nat) (wh : Int32) : (r_fail z ki wh).1 = z.1 := by
  unfold r_fail
  by_cases h : z.2.1 = 0
  · rw [if_pos h]
  · rw [if_neg h]
theorem r_fail_f {z : SS} {ki : Nat} {wh : Int32} (hk : ki < 1000000) (h : z.2.1 < 1000000) : (r_fail z ki wh).2.1 < 1000000 := by
  unfold r_fail
  by_cases h : z.2.1 = 0
  · rw [if_pos h]; exact hk
  · rw [if_neg h]; assumption
def r_ok (b : RB) (z : SS) : Prop := z.1 ≤ b.2 ∧ z.2.1 < 1000000
theorem r_ok_n {b : RB} {z : SS} (h : r_ok b z) : r_ok b (r_nS b z) := by
  obtain ⟨h1, h2⟩ := h
  unfold r_nS
  by_cases a : z.1 = b.2
  · rw [if_pos a]; exact ⟨by rw [r_fail_1]; exact h1, r_fail_f (by decide) h2⟩
  · rw [if_neg a]; exact ⟨by show z.1 + 1 ≤ b.2; omega, h2⟩
theorem r_ok_fail {b : RB} {z : SS} {ki : Nat} {wh : Int32} (hk : ki < 1000000) (h : r_ok b z) : r_ok b (r_fail z ki wh) := ⟨by rw [r_fail_1]; exact h.1, r_fail_f hk h.2⟩
def r_vv (v : Int64) (x k : Nat) : Int64 := v ||| zshl ((nI x &&& nI 127).toInt64) (nI (7 * k))
def r_vl (b : RB) (beg : Nat) : Nat → Nat → Int64 → SS → Int64 × SS
  | 0, _, _, z => (0, z)
  | f + 1, k, v, z =>
    if z.2.1 = 0 then
      (if (r_nS b z).2.1 = 0 then
        (if (k = 9 ∧ 1 < r_nV b z) ∨ (0 < k ∧ r_nV b z = 0) then (0, r_fail (r_nS b z) 2 (nI beg))
         else if r_nV b z < 128 then (r_vv v (r_nV b z) k, r_nS b z)
         else r_vl b beg f (k + 1) (r_vv v (r_nV b z) k) (r_nS b z))
       else (0, r_nS b z))
    else (0, z)
def r_v (b : RB) (z : SS) : Int64 × SS := r_vl b z.1 10 0 0 z
theorem r_ok_vl {b : RB} {beg : Nat} : ∀ (f k : Nat) (v : Int64) (z : SS), r_ok b z → r_ok b (r_vl b beg f k v z).2
  | 0, _, _, _, h => h
  | f + 1, k, v, z, h => by
    have h1 := r_ok_n h
    unfold r_vl
    by_cases a0 : z.2.1 = 0
    · rw [if_pos a0]
      by_cases a1 : (r_nS b z).2.1 = 0
      · rw [if_pos a1]
        by_cases a2 : (k = 9 ∧ 1 < r_nV b z) ∨ (0 < k ∧ r_nV b z = 0)
        · rw [if_pos a2]; exact r_ok_fail (by decide) h1
        · rw [if_neg a2]
          by_cases a3 : r_nV b z < 128
          · rw [if_pos a3]; exact h1
          · rw [if_neg a3]; exact r_ok_vl f _ _ _ h1
      · rw [if_neg a1]; exact h1
    · rw [if_neg a0]; exact h
theorem r_ok_v {b : RB} {z : SS} (h : r_ok b z) : r_ok b (r_v b z).2 := r_ok_vl _ _ _ _ h
