/-! the class against the reference: what is written -/
def q_WR (k : Nat) (x : WW) (y : RW) : Prop := BR x.1 y.1 ∧ (∀ t, t < k → y.2.1 t = x.2.1 t) ∧ ∀ j, j < k * 4 → y.2.2.1 j = x.2.2.1 j ∧ y.2.2.2 j = x.2.2.2 j
theorem q_wbw {rq rq' : Nat → Int64} {rc k : Nat} {lv : Int64} {b : BB} {c : RB} {wi wi' : Nat → Int32} (hrow : ∀ i, i < rc → rq' i = rq i) (hk : k < p_bf rc) (hb : b.2 ≤ 19000) (h : BR b c) (hw : ∀ j, j < k * 4 → wi' j = wi j) : ∀ t, t ≤ 4 → BR (p_wbw rq rc lv k t (b, wi)).1 (r_wbw rq' lv (k * 64) (q_te rc k) k t (c, wi')).1 ∧ ∀ j, j < k * 4 + t → (r_wbw rq' lv (k * 64) (q_te rc k) k t (c, wi')).2 j = (p_wbw rq rc lv k t (b, wi)).2 j
  | 0, _ => ⟨h, hw⟩
  | t + 1, ht => by
    obtain ⟨g1, g2⟩ := q_wbw (lv := lv) hrow hk hb h hw t (by omega)
    have hs := p_wbw_le (rq := rq) (rc := rc) (le := lv) (k := k) (x := (b, wi)) t
    have hs : (p_wbw rq rc lv k t (b, wi)).1.2 ≤ b.2 + t := hs
    have e := q_w (lv := lv) hrow hk (show t < 4 by omega)
    refine ⟨?_, fun j hj => ?_⟩
    · show BR (p_add (p_wbw rq rc lv k t (b, wi)).1 (nI (p_wd rq rc lv k t))) (r_add (r_wbw rq' lv (k * 64) (q_te rc k) k t (c, wi')).1 (nI (r_w rq' lv (k * 64) (q_te rc k) t)))
      rw [e]
      exact g1.add (by omega) rfl
    · show upd (r_wbw rq' lv (k * 64) (q_te rc k) k t (c, wi')).2 (4 * k + t) (nI (r_w rq' lv (k * 64) (q_te rc k) t)) j = upd (p_wbw rq rc lv k t (b, wi)).2 (k * 4 + t) (nI (p_wd rq rc lv k t)) j
      rw [e, Nat.mul_comm 4 k]
      by_cases q : j = k * 4 + t
      · rw [q, pk_us, pk_us]
      · rw [pk_un q, pk_un q]; exact g2 j (by omega)
theorem q_wbp {rq rq' : Nat → Int64} {rc k : Nat} {lv : Int64} {b : BB} {c : RB} {st st' : Nat → Int32} (hrow : ∀ i, i < rc → rq' i = rq i) (hk : k < p_bf rc) (hb : b.2 ≤ 19000) (h : BR b c) (hw : ∀ j, j < k * 4 → st' j = st j) : ∀ t, t ≤ 4 → BR (p_wbp rq rc lv k t (b, st)).1 (r_wbp rq' lv (k * 64) (q_te rc k) k t (c, st')).1 ∧ ∀ j, j < k * 4 + t → (r_wbp rq' lv (k * 64) (q_te rc k) k t (c, st')).2 j = (p_wbp rq rc lv k t (b, st)).2 j
  | 0, _ => ⟨h, hw⟩
  | t + 1, ht => by
    obtain ⟨g1, g2⟩ := q_wbp (lv := lv) hrow hk hb h hw t (by omega)
    have hs := p_wbp_le (rq := rq) (rc := rc) (le := lv) (k := k) (x := (b, st)) t
    have hs : (p_wbp rq rc lv k t (b, st)).1.2 ≤ b.2 + 128 * t := hs
    have e := q_w (lv := lv) hrow hk (show t < 4 by omega)
    have hwl := p_wd_le rq rc lv k t
    refine ⟨?_, fun j hj => ?_⟩
    · show BR (p_wp rq rc lv (p_wd rq rc lv k t) k t (p_wbp rq rc lv k t (b, st)).1) (r_pt rq' lv (k * 64) (q_te rc k) (r_w rq' lv (k * 64) (q_te rc k) t) t (r_wbp rq' lv (k * 64) (q_te rc k) k t (c, st')).1)
      rw [e]
      exact BR.pt hrow hk (by omega) hwl (by omega) g1
    · show upd (r_wbp rq' lv (k * 64) (q_te rc k) k t (c, st')).2 (4 * k + t) (nI (r_wbp rq' lv (k * 64) (q_te rc k) k t (c, st')).1.2) j = upd (p_wbp rq rc lv k t (b, st)).2 (k * 4 + t) (nI (p_wbp rq rc lv k t (b, st)).1.2) j
      rw [g1.1, Nat.mul_comm 4 k]
      by_cases q : j = k * 4 + t
      · rw [q, pk_us, pk_us]
      · rw [pk_un q, pk_un q]; exact g2 j (by omega)
theorem q_wb {rq rq' : Nat → Int64} {rc k : Nat} {x : WW} {y : RW} (hrow : ∀ i, i < rc → rq' i = rq i) (hk : k < p_bf rc) (hs : x.1.2 ≤ 18000) (h : q_WR k x y) : q_WR (k + 1) (p_wb rq rc k x) (r_wb rq' rc k (k * 64) y) := by
  obtain ⟨h1, h2, h3⟩ := h
  have e : r_wb rq' rc k (k * 64) y = r_wb2 rq' k (k * 64) (q_te rc k) (p_ld rq rc k) y := by
    unfold r_wb
    rw [← q_ld hrow hk]
    rfl
  rw [e]
  generalize hlv : p_ld rq rc k = lv
  have a1 : BR (p_av x.1 (p_zig lv)) (r_av y.1 (r_zig lv)) := by rw [← q_zig]; exact h1.av _ (by omega)
  have a2 := p_av_le1 (b := x.1) (v := p_zig lv)
  obtain ⟨b1, b2⟩ := q_wbw (lv := lv) (wi := x.2.2.1) (wi' := y.2.2.1) hrow hk (by omega) a1 (fun j hj => (h3 j hj).1) 4 (Nat.le_refl _)
  have a3 := p_wbw_le (rq := rq) (rc := rc) (le := lv) (k := k) (x := (p_av x.1 (p_zig lv), x.2.2.1)) 4
  have a3 : (p_wbw rq rc lv k 4 (p_av x.1 (p_zig lv), x.2.2.1)).1.2 ≤ (p_av x.1 (p_zig lv)).2 + 4 := a3
  obtain ⟨c1, c2⟩ := q_wbp (lv := lv) (st := x.2.2.2) (st' := y.2.2.2) hrow hk (by omega) b1 (fun j hj => (h3 j hj).2) 4 (Nat.le_refl _)
  unfold p_wb
  rw [hlv]
  refine ⟨c1, fun t ht => ?_, fun j hj => ⟨b2 j (by omega), c2 j (by omega)⟩⟩
  show vp_updL y.2.1 k lv t = vp_updL x.2.1 k lv t
  by_cases q : t = k
  · rw [q, pk_uLs, pk_uLs]
  · rw [pk_uLn q, pk_uLn q]; exact h2 t (by omega)
theorem q_bf {rc k : Nat} : k * 64 + 1 < rc ↔ k < p_bf rc := by
  constructor
  · intro h
    unfold p_bf
    rw [if_pos (by omega)]
    omega
  · intro h; exact (p_bf_in h).2
theorem q_ws {rq rq' : Nat → Int64} {rc : Nat} {x0 : WW} (hrow : ∀ i, i < rc → rq' i = rq i) (hrc : rc ≤ 2000) (h0 : x0.1.2 ≤ 20) : ∀ (f k : Nat) (y : RW), k + f = 33 → k ≤ p_bf rc → q_WR k (p_wbs rq rc k x0) y → q_WR (p_bf rc) (p_wbs rq rc (p_bf rc) x0) (r_ws rq' rc f k (k * 64) y).1 ∧ (r_ws rq' rc f k (k * 64) y).2 = p_bf rc
  | 0, k, y, hf, hk, h => by
    have := p_bf_le hrc
    omega
  | f + 1, k, y, hf, hk, h => by
    unfold r_ws
    by_cases q : k * 64 + 1 < rc
    · have hk2 := q_bf.mp q
      have hb := p_bf_le hrc
      have hs := p_wbs_le (rq := rq) (rc := rc) (x := x0) k
      rw [if_pos q, show k * 64 + 64 = (k + 1) * 64 by omega]
      exact q_ws hrow hrc h0 f (k + 1) _ (by omega) hk2 (q_wb hrow hk2 (by omega) h)
    · have e : k = p_bf rc := by
        have : ¬ k < p_bf rc := fun z => q (q_bf.mpr z)
        omega
      rw [if_neg q]
      rw [e] at h
      exact ⟨h, e⟩
theorem q_write {rq rq' : Nat → Int64} {rc : Nat} {x : WW} {y : RW} (hrow : ∀ i, i < rc → rq' i = rq i) (hrc : rc ≤ 2000) (h : BR x.1 y.1) : q_WR (p_bf rc) (p_write rq rc x) (r_write rq' rc y).1 ∧ (r_write rq' rc y).2 = p_bf rc := by
  have hby := h.2.2.2
  have b0 : BR (x.1.1, 0) (y.1.1, 0) := ⟨rfl, Nat.zero_le _, fun k hk => absurd hk (Nat.not_lt_zero k), hby⟩
  have b1 := b0.av (nI rc).toInt64 (by show 0 + 10 ≤ 20000; omega)
  have l1 := p_av_le1 (b := (x.1.1, 0)) (v := (nI rc).toInt64)
  have l1 : (p_av (x.1.1, 0) (nI rc).toInt64).2 ≤ 10 := by dsimp only at l1; omega
  have l2 := p_av_le1 (b := p_av (x.1.1, 0) (nI rc).toInt64) (v := p_zig (rq 0))
  unfold p_write r_write
  have hd : BR (if 0 < rc then p_av (p_av (x.1.1, 0) (nI rc).toInt64) (p_zig (rq 0)) else p_av (x.1.1, 0) (nI rc).toInt64) (r_head rq' rc y.1) ∧ (if 0 < rc then p_av (p_av (x.1.1, 0) (nI rc).toInt64) (p_zig (rq 0)) else p_av (x.1.1, 0) (nI rc).toInt64).2 ≤ 20 := by
    unfold r_head
    by_cases q : 0 < rc
    · rw [if_pos q, if_pos q, ← q_zig, hrow 0 q]
      exact ⟨b1.av _ (by omega), by omega⟩
    · rw [if_neg q, if_neg q]
      exact ⟨b1, by omega⟩
  have g := q_ws (x0 := (if 0 < rc then p_av (p_av (x.1.1, 0) (nI rc).toInt64) (p_zig (rq 0)) else p_av (x.1.1, 0) (nI rc).toInt64, x.2)) hrow hrc hd.2 33 0 (r_head rq' rc y.1, y.2) rfl (Nat.zero_le _) ⟨hd.1, fun t ht => absurd ht (Nat.not_lt_zero t), fun j hj => absurd hj (by omega)⟩
  rw [Nat.zero_mul] at g
  exact g
