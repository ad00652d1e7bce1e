/-! what the class's small methods answer, as functions -/
abbrev BB : Type := (Nat → Int64) × Nat
def p_has (us : Nat) (k : Int32) : Bool := decide (¬ k < 0 ∧ ¬ nI us ≤ k)
theorem p_has_of {us : Nat} {k : Int32} (hu : us < 2 ^ 31) (h : p_has us k = true) : ∃ j : Nat, j < us ∧ k = nI j := by
  have h1 := of_decide_eq_true h
  rcases pk_ix k hu with z | z | z
  · exact absurd z h1.1
  · exact absurd z h1.2
  · exact z
theorem p_has_nI {us j : Nat} (hu : us < 2 ^ 31) (hj : j < 2 ^ 31) : p_has us (nI j) = decide (j < us) := by
  unfold p_has
  refine decide_eq_decide.mpr ⟨fun h => ?_, fun h => ⟨nI_pos hj, fun z => ?_⟩⟩
  · exact Nat.lt_of_not_le fun z => h.2 (nI_le z hj)
  · exact absurd ((nI_leI hu hj).mp z) (by omega)
def p_hp (bc : Nat) (k p : Int32) : Bool := decide (p_has bc k = true ∧ ¬ p < 0 ∧ ¬ nI 4 ≤ p)
theorem p_hp_of {bc : Nat} {k p : Int32} (hu : bc < 2 ^ 31) (h : p_hp bc k p = true) : ∃ j i : Nat, j < bc ∧ i < 4 ∧ k = nI j ∧ p = nI i := by
  have h1 := of_decide_eq_true h
  obtain ⟨j, hj, e⟩ := p_has_of hu h1.1
  rcases pk_ix p (n := 4) (by decide) with z | z | ⟨i, hi, e2⟩
  · exact absurd z h1.2.1
  · exact absurd z h1.2.2
  · exact ⟨j, i, hj, hi, e, e2⟩
def p_add (b : BB) (v : Int32) : BB := if b.2 < 20000 then (p_chg b.1 b.2 v, b.2 + 1) else b
theorem p_add_le {b : BB} {v : Int32} (h : b.2 ≤ 20000) : (p_add b v).2 ≤ 20000 := by
  unfold p_add
  by_cases h1 : b.2 < 20000
  · rw [if_pos h1]; exact h1
  · rw [if_neg h1]; exact h
def p_avl : Nat → BB → Int64 → BB
  | 0, b, r => p_add b r.toInt32
  | n + 1, b, r => if r &&& (-128) = 0 then p_add b r.toInt32 else p_avl n (p_add b ((r &&& 127).toInt32 ||| nI 128)) (zushr r (nI 7))
def p_av (b : BB) (v : Int64) : BB := p_avl 9 b v
theorem p_avl_le : ∀ (n : Nat) {b : BB} {v : Int64}, b.2 ≤ 20000 → (p_avl n b v).2 ≤ 20000
  | 0, _, _, h => p_add_le h
  | n + 1, b, v, h => by
    unfold p_avl
    by_cases h1 : v &&& (-128) = 0
    · rw [if_pos h1]; exact p_add_le h
    · rw [if_neg h1]; exact p_avl_le n (p_add_le h)
theorem p_av_le {b : BB} {v : Int64} (h : b.2 ≤ 20000) : (p_av b v).2 ≤ 20000 := p_avl_le 9 h
def p_bf (t : Nat) : Nat := if 1 < t then (t - 1 + 64 - 1) / 64 else 0
def p_pe (b p t : Nat) : Nat := min (1 + b * 64 + p * 16) t
def p_zig (v : Int64) : Int64 := zshl v (nI 1) ^^^ zshr v (nI 63)
def p_unzig (z : Int64) : Int64 := zushr z (nI 1) ^^^ (-(z &&& 1))
