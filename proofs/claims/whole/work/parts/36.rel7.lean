/-! the class against the reference: blocks, read -/
def eqOn {α : Type} (lo hi : Nat) (f g : Nat → α) : Prop := ∀ j, lo ≤ j → j < hi → g j = f j
theorem q_lo {N k i : Nat} (hk : k < p_bf N) (hi : i < 4) : r_ip (r_many N (k * 64)) i = p_lo N k i := by
  have h := p_bf_in hk
  unfold r_ip r_many p_lo p_pe
  omega
theorem q_nwS {b : BB} {c : RB} (h : BR b c) {z : SS} {ip : Nat} (hz : z.1 ≤ b.2) (h0 : z.2.1 = 0) : r_nwS c z ip = p_nwS b z ip := by
  unfold r_nwS p_nwS
  rw [q_nV h hz, q_nS h hz h0]
  by_cases a : 64 < p_nbV b z ∨ (0 < p_nbV b z ∧ ip = 0)
  · rw [if_pos a, if_pos a]
    have hx : 0 < p_nbV b z := by omega
    have hlt : z.1 < b.2 := by
      unfold p_nbV at hx
      by_cases q : z.1 < b.2
      · exact q
      · rw [if_neg q] at hx; exact absurd hx (Nat.lt_irrefl _)
    have e : p_nbS b z = (z.1 + 1, z.2) := by unfold p_nbS; rw [if_pos hlt]
    rw [e]
    unfold r_fail
    rw [if_pos h0]
    rfl
  · rw [if_neg a, if_neg a]
theorem q_lw {b : BB} {c : RB} (h : BR b c) {N k : Nat} (hk : k < p_bf N) : ∀ (n i : Nat) (z : SS) (wi nw : Nat → Int32), i + n = 4 → z.1 ≤ b.2 → eqOn (k * 4) (k * 4 + i) wi nw →
    (r_lw c (r_many N (k * 64)) k n i (z, nw)).1 = (p_lw b N k n i (z, wi)).1 ∧ ((p_lw b N k n i (z, wi)).1.2.1 = 0 → eqOn (k * 4) (k * 4 + 4) (p_lw b N k n i (z, wi)).2 (r_lw c (r_many N (k * 64)) k n i (z, nw)).2)
  | 0, i, z, wi, nw, hi, hz, hw => ⟨rfl, fun _ => by have e : i = 4 := hi; subst e; exact hw⟩
  | n + 1, i, z, wi, nw, hi, hz, hw => by
    unfold r_lw p_lw
    by_cases a : z.2.1 = 0
    · dsimp only
      rw [if_pos a, if_pos a, q_nwS h hz a, q_nV h hz, q_lo hk (by omega)]
      refine q_lw h hk n (i + 1) _ _ _ (by omega) (p_nwS_le hz) ?_
      intro j h1 h2
      rw [Nat.mul_comm 4 k]
      by_cases e : j = k * 4 + i
      · rw [e, pk_us, pk_us]
      · rw [pk_un e, pk_un e]; exact hw j h1 (by omega)
    · dsimp only
      rw [if_neg a, if_neg a]
      exact ⟨rfl, fun q => absurd q a⟩
theorem q_trp_congr {wd : Nat → Int64} {N k : Nat} {le le' : Nat → Int64} {wi wi' st st' : Nat → Int32} {rw0 : Nat → Int64} (hl : le' k = le k) (hw : eqOn (k * 4) (k * 4 + 4) wi wi') (hs : eqOn (k * 4) (k * 4 + 4) st st') : ∀ t, t ≤ 4 → p_trp wd N le' wi' st' k t rw0 = p_trp wd N le wi st k t rw0
  | 0, _ => rfl
  | t + 1, h => by
    unfold p_trp
    have e1 : cl wi' (k * 4 + t) = cl wi (k * 4 + t) := by unfold cl; rw [hw _ (by omega) (by omega)]
    have e2 : cl st' (k * 4 + t) = cl st (k * 4 + t) := by unfold cl; rw [hs _ (by omega) (by omega)]
    rw [q_trp_congr hl hw hs t (by omega), hl, e1, e2]
theorem q_lp {b : BB} {c : RB} (h : BR b c) {N k : Nat} (hk : k < p_bf N) {lv : Int64} {wi nw : Nat → Int32} (hwn : eqOn (k * 4) (k * 4 + 4) wi nw) (h64 : ∀ q, q < 4 → cl wi (k * 4 + q) ≤ 64) {le rw0 : Nat → Int64} (hle : le k = lv) :
    ∀ (n i : Nat) (z : SS) (st ns : Nat → Int32) (sp : Nat → Int64), i + n = 4 → p_ok b z → eqOn (k * 4) (k * 4 + i) st ns →
    SR (p_lp b N k wi n i (z, st)).1 (r_lp c lv (k * 64) (r_many N (k * 64)) k nw n i ((z, sp), ns)).1.1 ∧
    ((p_lp b N k wi n i (z, st)).1.2.1 = 0 → eqOn (k * 4) (k * 4 + 4) (p_lp b N k wi n i (z, st)).2 (r_lp c lv (k * 64) (r_many N (k * 64)) k nw n i ((z, sp), ns)).2 ∧
      ∀ st9 : Nat → Int32, eqOn (k * 4) (k * 4 + 4) (p_lp b N k wi n i (z, st)).2 st9 → eqTo (p_pe k i N) (p_trp b.1 N le wi st9 k i rw0) sp → eqTo (p_pe k 4 N) (p_trp b.1 N le wi st9 k 4 rw0) (r_lp c lv (k * 64) (r_many N (k * 64)) k nw n i ((z, sp), ns)).1.2)
  | 0, i, z, st, ns, sp, hi, hz, hs => ⟨SR.refl _, fun _ => by have e : i = 4 := hi; subst e; exact ⟨hs, fun st9 _ hr => hr⟩⟩
  | n + 1, i, z, st, ns, sp, hi, hz, hs => by
    have hu := h.2.1
    unfold r_lp p_lp
    by_cases a : z.2.1 = 0
    · dsimp only
      rw [if_pos a, if_pos a]
      have ew : cl nw (4 * k + i) = cl wi (k * 4 + i) := by unfold cl; rw [Nat.mul_comm 4 k, hwn _ (by omega) (by omega)]
      rw [ew, Nat.mul_comm 4 k]
      obtain ⟨p1, p2⟩ := q_pp h (N := N) (k := k) (i := i) (w := cl wi (k * 4 + i)) (lv := lv) (z := z) (sp := sp) (q_lo hk (by omega)) (h64 i (by omega)) hz.1 a
      by_cases a2 : (p_pp b z (cl wi (k * 4 + i)) (p_lo N k i)).2.1 = 0
      · have e1 := p1.2 a2
        obtain ⟨p3, p4⟩ := p2 a2
        generalize hX : r_pp c lv (k * 64) (r_many N (k * 64)) (cl wi (k * 4 + i)) i (z, sp) = X at e1 p4 ⊢
        obtain ⟨X1, X2⟩ := X
        dsimp only at e1 p4
        subst e1
        have hs2 : eqOn (k * 4) (k * 4 + (i + 1)) (upd st (k * 4 + i) (nI z.1)) (upd ns (k * 4 + i) (nI z.1)) := by
          intro j h1 h2
          by_cases e : j = k * 4 + i
          · rw [e, pk_us, pk_us]
          · rw [pk_un e, pk_un e]; exact hs j h1 (by omega)
        obtain ⟨r1, r2⟩ := q_lp h hk (lv := lv) hwn h64 (le := le) (rw0 := rw0) hle n (i + 1) (p_pp b z (cl wi (k * 4 + i)) (p_lo N k i)) (upd st (k * 4 + i) (nI z.1)) (upd ns (k * 4 + i) (nI z.1)) X2 (by omega) (p_ok_pp hz) hs2
        refine ⟨r1, fun q => ?_⟩
        obtain ⟨r3, r4⟩ := r2 q
        refine ⟨r3, fun st9 h9 hr => r4 st9 h9 ?_⟩
        have es : cl st9 (k * 4 + i) = z.1 := by
          have h1 := hz.1
          unfold cl
          rw [h9 _ (by omega) (by omega), p_lp_out n (i + 1) _ (by omega)]
          dsimp only
          rw [pk_us, nI_clamp (by omega)]
        show eqTo (p_pe k (i + 1) N) (p_tp b.1 N (le k) (cl wi (k * 4 + i)) (cl st9 (k * 4 + i)) k i (p_trp b.1 N le wi st9 k i rw0)) X2
        rw [es, hle, p4]
        exact q_part h (h64 i (by omega)) (by omega) p3 hr
      · have n2 : ¬ (r_pp c lv (k * 64) (r_many N (k * 64)) (cl wi (k * 4 + i)) i (z, sp)).1.2.1 = 0 := by rw [p1.1]; exact a2
        rw [r_lp_f (x := (r_pp c lv (k * 64) (r_many N (k * 64)) (cl wi (k * 4 + i)) i (z, sp), upd ns (k * 4 + i) (nI z.1))) n2 n (i + 1)]
        have e2 : p_lp b N k wi n (i + 1) (p_pp b z (cl wi (k * 4 + i)) (p_lo N k i), upd st (k * 4 + i) (nI z.1)) = (p_pp b z (cl wi (k * 4 + i)) (p_lo N k i), upd st (k * 4 + i) (nI z.1)) := by
          cases n with
          | zero => rfl
          | succ n => unfold p_lp; rw [if_neg a2]
        rw [e2]
        exact ⟨p1, fun q => absurd q a2⟩
    · dsimp only
      rw [if_neg a, if_neg a]
      exact ⟨SR.refl _, fun q => absurd q a⟩
/-- one block -/
theorem q_lb {b : BB} {c : RB} (h : BR b c) {N k : Nat} (hk : k < p_bf N) {x : LL} {y : RL} (hx : y.1 = x.1) (h0 : x.1.2.1 = 0) (hz : p_ok b x.1) :
    SR (p_lb b N k x).1 (r_rb c (k * 64) (r_many N (k * 64)) k y).1 ∧
    ((p_lb b N k x).1.2.1 = 0 → (r_rb c (k * 64) (r_many N (k * 64)) k y).2.2.1 k = (p_lb b N k x).2.1 k ∧
      eqOn (k * 4) (k * 4 + 4) (p_lb b N k x).2.2.1 (r_rb c (k * 64) (r_many N (k * 64)) k y).2.2.2.1 ∧
      eqOn (k * 4) (k * 4 + 4) (p_lb b N k x).2.2.2 (r_rb c (k * 64) (r_many N (k * 64)) k y).2.2.2.2 ∧
      ∀ (le9 : Nat → Int64) (wi9 st9 : Nat → Int32) (rw0 : Nat → Int64), le9 k = (p_lb b N k x).2.1 k → eqOn (k * 4) (k * 4 + 4) (p_lb b N k x).2.2.1 wi9 → eqOn (k * 4) (k * 4 + 4) (p_lb b N k x).2.2.2 st9 →
        eqTo (p_pe k 0 N) rw0 y.2.1 → eqTo (p_pe k 4 N) (p_trp b.1 N le9 wi9 st9 k 4 rw0) (r_rb c (k * 64) (r_many N (k * 64)) k y).2.1) := by
  have hv : r_v c y.1 = p_nv b x.1 := by rw [hx]; exact q_v h hz.1 h0
  have hok := p_ok_nv hz
  obtain ⟨w1, w2⟩ := q_lw h hk 4 0 (p_nv b x.1).2 x.2.2.1 y.2.2.2.1 rfl hok.1 (fun j h1 h2 => absurd h2 (by omega))
  have eW : r_W c (r_many N (k * 64)) k y = r_lw c (r_many N (k * 64)) k 4 0 ((p_nv b x.1).2, y.2.2.2.1) := by unfold r_W; rw [hv]
  have elv : r_unzig (r_v c y.1).1 = p_unzig (p_nv b x.1).1 := by rw [hv, q_unzig]
  have hokw := p_ok_lw (to := N) (k := k) 4 0 ((p_nv b x.1).2, x.2.2.1) hok
  unfold p_lb r_rb r_P
  rw [eW, elv]
  generalize hA : p_lw b N k 4 0 ((p_nv b x.1).2, x.2.2.1) = A at *
  generalize hB : r_lw c (r_many N (k * 64)) k 4 0 ((p_nv b x.1).2, y.2.2.2.1) = B at *
  obtain ⟨A1, A2⟩ := A
  obtain ⟨B1, B2⟩ := B
  dsimp only at *
  subst w1
  by_cases a : B1.2.1 = 0
  · have hwn := w2 a
    have h64 : ∀ q, q < 4 → cl A2 (k * 4 + q) ≤ 64 := by
      intro q hq
      have hin := p_lw_in (b := b) (to := N) (k := k) 4 0 ((p_nv b x.1).2, x.2.2.1) (by rw [hA]; exact a) q (Nat.zero_le _) (by omega)
      rw [hA] at hin
      obtain ⟨v, v1, v2⟩ := hin
      unfold cl
      dsimp only at v2
      rw [v2, nI_clamp (by omega)]
      exact v1
    have main := fun (le rw0 : Nat → Int64) (hle : le k = p_unzig (p_nv b x.1).1) => q_lp h hk (lv := p_unzig (p_nv b x.1).1) hwn h64 (le := le) (rw0 := rw0) hle 4 0 B1 x.2.2.2 y.2.2.2.2 y.2.1 rfl hokw (fun j h1 h2 => absurd h2 (by omega))
    obtain ⟨m1, m2⟩ := main (fun _ => p_unzig (p_nv b x.1).1) (fun _ => 0) rfl
    refine ⟨m1, fun q => ⟨by rw [pk_uLs, pk_uLs], hwn, (m2 q).1, fun le9 wi9 st9 rw0 h1 h2 h3 h4 => ?_⟩⟩
    rw [pk_uLs] at h1
    obtain ⟨n1, n2⟩ := main le9 rw0 h1
    have n3 := (n2 q).2 st9 h3 h4
    rw [q_trp_congr (le := le9) (wi := A2) (st := st9) rfl h2 (fun j _ _ => rfl) 4 (Nat.le_refl _)]
    exact n3
  · have e1 : ∀ n, p_lp b N k A2 n 0 (B1, x.2.2.2) = (B1, x.2.2.2) := by
      intro n
      cases n with
      | zero => rfl
      | succ n => unfold p_lp; rw [if_neg a]
    rw [e1, r_lp_f (x := ((B1, y.2.1), y.2.2.2.2)) a]
    exact ⟨SR.refl _, fun q => absurd q a⟩
