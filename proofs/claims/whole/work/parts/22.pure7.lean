/-! what the reference writes -/
def r_lll (rq : Nat → Int64) (fr : Nat) : Nat → Int64
  | 0 => rq (fr + 1) - rq fr
  | t + 1 => if r_lll rq fr t ≤ rq (fr + t + 1) - rq (fr + t) then r_lll rq fr t else rq (fr + t + 1) - rq (fr + t)
def r_wi (x : Int64) : Nat → Nat → Nat
  | 0, w => w
  | f + 1, w => if zushr x (nI w) = 0 then w else r_wi x f (w + 1)
def r_wk (rq : Nat → Int64) (lv : Int64) (k0 : Nat) : Nat → Nat
  | 0 => 0
  | t + 1 => r_wi (rq (k0 + t + 1) - rq (k0 + t) - lv) (64 - r_wk rq lv k0 t) (r_wk rq lv k0 t)
/-- the width of a part -/
def r_w (rq : Nat → Int64) (lv : Int64) (fr te p : Nat) : Nat := r_wk rq lv (fr + 16 * p) (min te (fr + 16 * p + 16) - (fr + 16 * p))
def r_wbw (rq : Nat → Int64) (lv : Int64) (fr te j : Nat) : Nat → RB × (Nat → Int32) → RB × (Nat → Int32)
  | 0, y => y
  | p + 1, y => (r_add (r_wbw rq lv fr te j p y).1 (nI (r_w rq lv fr te p)), upd (r_wbw rq lv fr te j p y).2 (4 * j + p) (nI (r_w rq lv fr te p)))
def r_zl : Nat → RB → RB
  | 0, b => b
  | t + 1, b => r_add (r_zl t b) (nI 0)
def r_bi (x : Int64) (w k s0 : Nat) : Nat → (Nat → Int32) → (Nat → Int32)
  | 0, f => f
  | i + 1, f => if zushr x (nI i) &&& 1 = 1 then upd (r_bi x w k s0 i f) (s0 + (w * k + i) / 8) (r_bi x w k s0 i f (s0 + (w * k + i) / 8) ||| (nI 1 <<< (nI ((w * k + i) % 8) &&& 31))) else r_bi x w k s0 i f
def r_bk (rq : Nat → Int64) (lv : Int64) (k0 w s0 : Nat) : Nat → (Nat → Int32) → (Nat → Int32)
  | 0, f => f
  | k + 1, f => r_bi (rq (k0 + k + 1) - rq (k0 + k) - lv) w k s0 w (r_bk rq lv k0 w s0 k f)
/-- a part's bytes -/
def r_pt (rq : Nat → Int64) (lv : Int64) (fr te w p : Nat) (b : RB) : RB := (r_bk rq lv (fr + 16 * p) w b.2 (min (te - (fr + 16 * p)) 16) (r_zl (2 * w) b).1, (r_zl (2 * w) b).2)
def r_wbp (rq : Nat → Int64) (lv : Int64) (fr te j : Nat) : Nat → RB × (Nat → Int32) → RB × (Nat → Int32)
  | 0, y => y
  | p + 1, y => (r_pt rq lv fr te (r_w rq lv fr te p) p (r_wbp rq lv fr te j p y).1, upd (r_wbp rq lv fr te j p y).2 (4 * j + p) (nI (r_wbp rq lv fr te j p y).1.2))
abbrev RW : Type := RB × (Nat → Int64) × (Nat → Int32) × (Nat → Int32)
def r_wb2 (rq : Nat → Int64) (j fr te : Nat) (lv : Int64) (x : RW) : RW :=
  ((r_wbp rq lv fr te j 4 ((r_wbw rq lv fr te j 4 (r_av x.1 (r_zig lv), x.2.2.1)).1, x.2.2.2)).1,
   vp_updL x.2.1 j lv,
   (r_wbw rq lv fr te j 4 (r_av x.1 (r_zig lv), x.2.2.1)).2,
   (r_wbp rq lv fr te j 4 ((r_wbw rq lv fr te j 4 (r_av x.1 (r_zig lv), x.2.2.1)).1, x.2.2.2)).2)
def r_wb (rq : Nat → Int64) (n j fr : Nat) (x : RW) : RW := r_wb2 rq j fr (min (fr + 64) (n - 1)) (r_lll rq fr (min (fr + 64) (n - 1) - fr)) x
def r_ws (rq : Nat → Int64) (n : Nat) : Nat → Nat → Nat → RW → RW × Nat
  | 0, j, _, x => (x, j)
  | f + 1, j, fr, x => if fr + 1 < n then r_ws rq n f (j + 1) (fr + 64) (r_wb rq n j fr x) else (x, j)
def r_head (rq : Nat → Int64) (n : Nat) (b : RB) : RB := if 0 < n then r_av (r_av (b.1, 0) (nI n).toInt64) (r_zig (rq 0)) else r_av (b.1, 0) (nI n).toInt64
def r_write (rq : Nat → Int64) (n : Nat) (x : RW) : RW × Nat := r_ws rq n 33 0 0 (r_head rq n x.1, x.2)
theorem r_wi_in (x : Int64) : ∀ (f w : Nat), w ≤ r_wi x f w ∧ r_wi x f w ≤ w + f
  | 0, w => ⟨Nat.le_refl _, Nat.le_refl _⟩
  | f + 1, w => by
    unfold r_wi
    by_cases h : zushr x (nI w) = 0
    · rw [if_pos h]; omega
    · rw [if_neg h]
      have := r_wi_in x f (w + 1)
      omega
theorem r_wk_le (rq : Nat → Int64) (lv : Int64) (k0 : Nat) : ∀ t, r_wk rq lv k0 t ≤ 64
  | 0 => Nat.zero_le _
  | t + 1 => by
    have h1 := r_wk_le rq lv k0 t
    have h2 := r_wi_in (rq (k0 + t + 1) - rq (k0 + t) - lv) (64 - r_wk rq lv k0 t) (r_wk rq lv k0 t)
    show r_wi _ _ _ ≤ 64
    omega
theorem r_w_le (rq : Nat → Int64) (lv : Int64) (fr te p : Nat) : r_w rq lv fr te p ≤ 64 := r_wk_le _ _ _ _
theorem r_wbw_sz {rq : Nat → Int64} {lv : Int64} {fr te j : Nat} {y : RB × (Nat → Int32)} : ∀ p, (r_wbw rq lv fr te j p y).1.2 = y.1.2 + p
  | 0 => rfl
  | p + 1 => by
    show (r_wbw rq lv fr te j p y).1.2 + 1 = _
    rw [r_wbw_sz p]; rfl
theorem r_wbw_at {rq : Nat → Int64} {lv : Int64} {fr te j : Nat} {y : RB × (Nat → Int32)} : ∀ {p i : Nat}, i < p → (r_wbw rq lv fr te j p y).2 (4 * j + i) = nI (r_w rq lv fr te i)
  | 0, i, h => absurd h (Nat.not_lt_zero i)
  | p + 1, i, h => by
    show upd (r_wbw rq lv fr te j p y).2 (4 * j + p) (nI (r_w rq lv fr te p)) (4 * j + i) = _
    by_cases e : i = p
    · subst e; exact pk_us
    · rw [pk_un (by omega)]; exact r_wbw_at (by omega)
theorem r_zl_sz (b : RB) : ∀ t, (r_zl t b).2 = b.2 + t
  | 0 => rfl
  | t + 1 => by
    show (r_zl t b).2 + 1 = _
    rw [r_zl_sz b t]; rfl
theorem r_wbp_sz {rq : Nat → Int64} {lv : Int64} {fr te j : Nat} {y : RB × (Nat → Int32)} : ∀ p, (r_wbp rq lv fr te j p y).1.2 ≤ y.1.2 + 128 * p
  | 0 => Nat.le_refl _
  | p + 1 => by
    have h1 := r_wbp_sz (rq := rq) (lv := lv) (fr := fr) (te := te) (j := j) (y := y) p
    have h2 := r_w_le rq lv fr te p
    show (r_zl (2 * r_w rq lv fr te p) (r_wbp rq lv fr te j p y).1).2 ≤ _
    rw [r_zl_sz]
    omega
theorem r_wb_sz {rq : Nat → Int64} {n j fr : Nat} {x : RW} : (r_wb rq n j fr x).1.2 ≤ x.1.2 + 526 := by
  unfold r_wb
  generalize r_lll rq fr (min (fr + 64) (n - 1) - fr) = lv
  generalize min (fr + 64) (n - 1) = te
  have h1 := r_wbp_sz (rq := rq) (lv := lv) (fr := fr) (te := te) (j := j) (y := ((r_wbw rq lv fr te j 4 (r_av x.1 (r_zig lv), x.2.2.1)).1, x.2.2.2)) 4
  have h2 := r_wbw_sz (rq := rq) (lv := lv) (fr := fr) (te := te) (j := j) (y := (r_av x.1 (r_zig lv), x.2.2.1)) 4
  have h3 := r_av_sz (r_zig lv) x.1
  have h4 := r_vn_in (r_zig lv)
  refine Nat.le_trans h1 ?_
  dsimp only at h2 ⊢
  rw [h2, h3]
  omega
theorem r_head_sz {rq : Nat → Int64} {n : Nat} {b : RB} : (r_head rq n b).2 ≤ 20 := by
  have h1 := r_av_sz (nI n).toInt64 (b.1, 0)
  have h2 := r_vn_in (nI n).toInt64
  have h3 := r_av_sz (r_zig (rq 0)) (r_av (b.1, 0) (nI n).toInt64)
  have h4 := r_vn_in (r_zig (rq 0))
  unfold r_head
  by_cases h : 0 < n
  · rw [if_pos h, h3, h1]; dsimp only; omega
  · rw [if_neg h, h1]; dsimp only; omega
section ZS
variable {p : Program} {l : Launch} {e : Env} {R : Room} {s : State} {m : MethodId} {args : Array Value} {below : List Frame} {meth : Method} {c : Code} {H : Heap} {locs : List Loc} {cells slots : Nat} {Q : State → Prop}
variable {cc : ByteArray} {pc : Nat} {ls : Array Slot} {rest : List Value}
/-- a number against a difference of two -/
theorem zs_ge {a x y : Nat} (ha : a < 2 ^ 30) (hx' : x < 2 ^ 30) (hy : y < 2 ^ 30) (hx : p.tables.exec = Jvm.exec) (hb : c.code = cc) {off : Int} {tgt : Nat} (hdg : decode cc pc = .ok (.if_icmp .ge off, 3)) (ht : (pc : Int) + off = (tgt : Int))
    (kt : x ≤ a + y → W p l e R s m args below meth c H locs cells slots Q (F0 m tgt ls rest)) (kf : a + y < x → W p l e R s m args below meth c H locs cells slots Q (F0 m (pc + 3) ls rest)) : W p l e R s m args below meth c H locs cells slots Q (F0 m pc ls (.int (nI x - nI y) :: .int (nI a) :: rest)) := by
  have e : nI x - nI y ≤ nI a ↔ x ≤ a + y := by
    rw [Int32.le_iff_toInt_le, pk_sub_toInt hx' hy, nI_toInt (by omega)]
    omega
  exact lv_icmp_ge hx hb hdg ht (fun h => kt (e.mp h)) (fun h => kf (Nat.lt_of_not_le fun z => h (e.mpr z)))
theorem zs0_ge {x y : Nat} (hx' : x < 2 ^ 30) (hy : y < 2 ^ 30) (hx : p.tables.exec = Jvm.exec) (hb : c.code = cc) {off : Int} {tgt : Nat} (hdg : decode cc pc = .ok (.ifCond .ge off, 3)) (ht : (pc : Int) + off = (tgt : Int))
    (kt : y ≤ x → W p l e R s m args below meth c H locs cells slots Q (F0 m tgt ls rest)) (kf : x < y → W p l e R s m args below meth c H locs cells slots Q (F0 m (pc + 3) ls rest)) : W p l e R s m args below meth c H locs cells slots Q (F0 m pc ls (.int (nI x - nI y) :: rest)) := by
  have e : 0 ≤ nI x - nI y ↔ y ≤ x := by
    rw [Int32.le_iff_toInt_le, pk_sub_toInt hx' hy]
    show (0 : Int) ≤ _ ↔ _
    omega
  exact lv_if_ge hx hb hdg ht (fun h => kt (e.mp h)) (fun h => kf (Nat.lt_of_not_le fun z => h (e.mpr z)))
end ZS
