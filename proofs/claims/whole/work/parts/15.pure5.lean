/-! what the class reads -/
def cl (f : Nat → Int32) (j : Nat) : Nat := (f j).toNatClampNeg
def p_tpl (wd : Nat → Int64) (lv : Int64) (w : Nat) : Nat → Nat → Nat → (Nat → Int64) → (Nat → Int64)
  | 0, _, _, rq => rq
  | t + 1, i, q, rq => p_tpl wd lv w t (i + 1) (q + w) (vp_updL rq i (rq (i - 1) + lv + p_bitsIn wd q w))
def p_tp (wd : Nat → Int64) (rc : Nat) (lv : Int64) (w s0 k p : Nat) (rq : Nat → Int64) : Nat → Int64 := p_tpl wd lv w (p_pe k (p + 1) rc - p_pe k p rc) (p_pe k p rc) (s0 * 8) rq
def p_trp (wd : Nat → Int64) (rc : Nat) (le : Nat → Int64) (wi st : Nat → Int32) (k : Nat) : Nat → (Nat → Int64) → (Nat → Int64)
  | 0, rq => rq
  | t + 1, rq => p_tp wd rc (le k) (cl wi (k * 4 + t)) (cl st (k * 4 + t)) k t (p_trp wd rc le wi st k t rq)
def p_trb (wd : Nat → Int64) (rc : Nat) (le : Nat → Int64) (wi st : Nat → Int32) : Nat → (Nat → Int64) → (Nat → Int64)
  | 0, rq => rq
  | t + 1, rq => p_trp wd rc le wi st t 4 (p_trb wd rc le wi st t rq)
def p_tr (wd : Nat → Int64) (to : Nat) (fi : Int64) (bc : Nat) (le : Nat → Int64) (wi st : Nat → Int32) (rq : Nat → Int64) : Nat → Int64 := p_trb wd to le wi st bc (if 0 < to then vp_updL rq 0 fi else rq)
/-- the widths and starts of the blocks below bc are numbers -/
def p_okL (bc : Nat) (wi st : Nat → Int32) : Prop := ∀ j, j < bc * 4 → wi j = nI (cl wi j) ∧ cl wi j ≤ 64 ∧ st j = nI (cl st j) ∧ cl st j ≤ 20000
def uT (x : Int64) : Nat := x.toBitVec.toNat
theorem uT_i (x : Int64) : x.toInt32 = nI (uT x) := by
  rw [lN_self x, lN_i]
  rw [← lN_self x]
  rfl
theorem uT_le {x : Int64} (h1 : ¬ x < 0) (h2 : ¬ 2000 < x) : uT x ≤ 2000 := by
  obtain ⟨k, hk, rfl⟩ := pk_lOf h1
  have h3 : ¬ lN 2000 < lN k := h2
  rw [pk_lLT (by decide) hk] at h3
  unfold uT
  rw [wb_tn (by omega)]
  omega
def p_lh (b : BB) (z : SS) : SS × Nat × Int64 :=
  if (p_nv b z).2.2.1 = 0 then
    (if (p_nv b z).1 < 0 ∨ 2000 < (p_nv b z).1 then (((p_nv b z).2.1, 4, nI 0), 0, 0)
     else if 0 < uT (p_nv b z).1 then ((p_nv b (p_nv b z).2).2, uT (p_nv b z).1, p_unzig (p_nv b (p_nv b z).2).1)
     else ((p_nv b z).2, uT (p_nv b z).1, 0))
  else ((p_nv b z).2, 0, 0)
/-- the widths of a block are looked at -/
def p_lw (b : BB) (to k : Nat) : Nat → Nat → SS × (Nat → Int32) → SS × (Nat → Int32)
  | 0, _, x => x
  | n + 1, i, x => if x.1.2.1 = 0 then p_lw b to k n (i + 1) (p_nwS b x.1 (p_lo to k i), upd x.2 (k * 4 + i) (nI (p_nbV b x.1))) else x
/-- its parts -/
def p_lp (b : BB) (to k : Nat) (wi : Nat → Int32) : Nat → Nat → SS × (Nat → Int32) → SS × (Nat → Int32)
  | 0, _, x => x
  | n + 1, i, x => if x.1.2.1 = 0 then p_lp b to k wi n (i + 1) (p_pp b x.1 (cl wi (k * 4 + i)) (p_lo to k i), upd x.2 (k * 4 + i) (nI x.1.1)) else x
abbrev LL : Type := SS × (Nat → Int64) × (Nat → Int32) × (Nat → Int32)
def p_lb (b : BB) (to k : Nat) (x : LL) : LL :=
  ((p_lp b to k (p_lw b to k 4 0 ((p_nv b x.1).2, x.2.2.1)).2 4 0 ((p_lw b to k 4 0 ((p_nv b x.1).2, x.2.2.1)).1, x.2.2.2)).1,
   vp_updL x.2.1 k (p_unzig (p_nv b x.1).1),
   (p_lw b to k 4 0 ((p_nv b x.1).2, x.2.2.1)).2,
   (p_lp b to k (p_lw b to k 4 0 ((p_nv b x.1).2, x.2.2.1)).2 4 0 ((p_lw b to k 4 0 ((p_nv b x.1).2, x.2.2.1)).1, x.2.2.2)).2)
def p_lbs (b : BB) (to : Nat) : Nat → Nat → LL → LL
  | 0, _, x => x
  | n + 1, k, x => if x.1.2.1 = 0 then p_lbs b to n (k + 1) (p_lb b to k x) else x
def p_end (b : BB) (z : SS) : SS := if z.2.1 = 0 ∧ z.1 < b.2 then (z.1, 6, nI z.1) else z
def p_z0 : SS := (0, 0, (-1))
/-- the whole look: the head, and the blocks -/
def p_look (b : BB) (x : (Nat → Int64) × (Nat → Int32) × (Nat → Int32)) : LL := p_lbs b (p_lh b p_z0).2.1 (p_bf (p_lh b p_z0).2.1) 0 ((p_lh b p_z0).1, x)
theorem p_nvl_f {b : BB} {beg : Nat} : ∀ (n i : Nat) (v : Int64) (z : SS), z.2.1 < 1000000 → (p_nvl b beg n i v z).2.2.1 < 1000000
  | 0, _, _, _, _ => (by decide : 2 < 1000000)
  | n + 1, i, v, z, h => by
    have h1 := p_nbS_f (b := b) h
    unfold p_nvl
    by_cases a1 : (p_nbS b z).2.1 = 0
    · rw [if_pos a1]
      by_cases a2 : (i = 9 ∧ 1 < p_nbV b z) ∨ (0 < i ∧ p_nbV b z = 0)
      · rw [if_pos a2]; exact (by decide : 2 < 1000000)
      · rw [if_neg a2]
        by_cases a3 : p_nbV b z < 128
        · rw [if_pos a3]; exact h1
        · rw [if_neg a3]; exact p_nvl_f n _ _ _ h1
    · rw [if_neg a1]; exact h1
theorem p_nv_f {b : BB} {z : SS} (h : z.2.1 < 1000000) : (p_nv b z).2.2.1 < 1000000 := p_nvl_f _ _ _ _ h
theorem p_nwS_f {b : BB} {z : SS} {lo : Nat} (h : z.2.1 < 1000000) : (p_nwS b z lo).2.1 < 1000000 := by
  have h1 := p_nbS_f (b := b) h
  unfold p_nwS
  by_cases a : 64 < p_nbV b z ∨ (0 < p_nbV b z ∧ lo = 0)
  · rw [if_pos a]; exact (by decide : 5 < 1000000)
  · rw [if_neg a]; exact h1
theorem p_ppl_f {b : BB} {z : SS} {w : Nat} (h : z.2.1 < 1000000) : ∀ (n i : Nat), (p_ppl b z w n i).2.1 < 1000000
  | 0, _ => h
  | n + 1, i => by
    unfold p_ppl
    by_cases a : p_bitsIn b.1 (z.1 * 8 + i * w) w = 0
    · rw [if_pos a]; exact p_ppl_f h n _
    · rw [if_neg a]; exact (by decide : 5 < 1000000)
theorem p_pp_f {b : BB} {z : SS} {w lo : Nat} (h : z.2.1 < 1000000) : (p_pp b z w lo).2.1 < 1000000 := by
  unfold p_pp
  by_cases a : b.2 - z.1 < w * 16 / 8
  · rw [if_pos a]; exact (by decide : 1 < 1000000)
  · rw [if_neg a]; exact p_ppl_f h _ _
/-- a state of the look stands in the bytes -/
def p_ok (b : BB) (z : SS) : Prop := z.1 ≤ b.2 ∧ z.2.1 < 1000000
theorem p_ok_nv {b : BB} {z : SS} (h : p_ok b z) : p_ok b (p_nv b z).2 := ⟨p_nv_le h.1, p_nv_f h.2⟩
theorem p_ok_nw {b : BB} {z : SS} {lo : Nat} (h : p_ok b z) : p_ok b (p_nwS b z lo) := ⟨p_nwS_le h.1, p_nwS_f h.2⟩
theorem p_ok_pp {b : BB} {z : SS} {w lo : Nat} (h : p_ok b z) : p_ok b (p_pp b z w lo) := ⟨p_pp_le h.1, p_pp_f h.2⟩
theorem p_ok_lw {b : BB} {to k : Nat} : ∀ (n i : Nat) (x : SS × (Nat → Int32)), p_ok b x.1 → p_ok b (p_lw b to k n i x).1
  | 0, _, _, h => h
  | n + 1, i, x, h => by
    unfold p_lw
    by_cases a : x.1.2.1 = 0
    · rw [if_pos a]; exact p_ok_lw n _ _ (p_ok_nw h)
    · rw [if_neg a]; exact h
theorem p_ok_lp {b : BB} {to k : Nat} {wi : Nat → Int32} : ∀ (n i : Nat) (x : SS × (Nat → Int32)), p_ok b x.1 → p_ok b (p_lp b to k wi n i x).1
  | 0, _, _, h => h
  | n + 1, i, x, h => by
    unfold p_lp
    by_cases a : x.1.2.1 = 0
    · rw [if_pos a]; exact p_ok_lp n _ _ (p_ok_pp h)
    · rw [if_neg a]; exact h
theorem p_ok_lb {b : BB} {to k : Nat} {x : LL} (h : p_ok b x.1) : p_ok b (p_lb b to k x).1 := p_ok_lp 4 0 _ (p_ok_lw 4 0 _ (p_ok_nv h))
theorem p_ok_lh {b : BB} {z : SS} (h : p_ok b z) : p_ok b (p_lh b z).1 := by
  have h1 := p_ok_nv h
  unfold p_lh
  by_cases a1 : (p_nv b z).2.2.1 = 0
  · rw [if_pos a1]
    by_cases a2 : (p_nv b z).1 < 0 ∨ 2000 < (p_nv b z).1
    · rw [if_pos a2]; exact ⟨h1.1, (by decide : 4 < 1000000)⟩
    · rw [if_neg a2]
      by_cases a3 : 0 < uT (p_nv b z).1
      · rw [if_pos a3]; exact p_ok_nv h1
      · rw [if_neg a3]; exact h1
  · rw [if_neg a1]; exact h1
theorem p_lh_to {b : BB} {z : SS} : (p_lh b z).2.1 ≤ 2000 := by
  unfold p_lh
  by_cases a1 : (p_nv b z).2.2.1 = 0
  · rw [if_pos a1]
    by_cases a2 : (p_nv b z).1 < 0 ∨ 2000 < (p_nv b z).1
    · rw [if_pos a2]; exact Nat.zero_le _
    · rw [if_neg a2]
      have h := uT_le (fun q => a2 (Or.inl q)) (fun q => a2 (Or.inr q))
      by_cases a3 : 0 < uT (p_nv b z).1
      · rw [if_pos a3]; exact h
      · rw [if_neg a3]; exact h
  · rw [if_neg a1]; exact Nat.zero_le _
theorem p_ok_z0 (b : BB) : p_ok b p_z0 := ⟨Nat.zero_le _, by decide⟩
theorem p_lo_le (to k p : Nat) : p_lo to k p ≤ 16 := by unfold p_lo p_pe; omega
def p_g8 (f : Nat → Int32) (j : Nat) : Prop := f j = nI (cl f j) ∧ cl f j ≤ 255
theorem p_g8_new {f : Nat → Int32} {j v : Nat} (hv : v ≤ 255) : p_g8 (upd f j (nI v)) j := by
  have h : cl (upd f j (nI v)) j = v := by unfold cl; rw [pk_us, nI_clamp (by omega)]
  exact ⟨by rw [h, pk_us], by rw [h]; exact hv⟩
theorem p_g8_old {f : Nat → Int32} {j i : Nat} {x : Int32} (hne : i ≠ j) (h : p_g8 f i) : p_g8 (upd f j x) i := by
  have h1 : cl (upd f j x) i = cl f i := by unfold cl; rw [pk_un hne]
  exact ⟨by rw [h1, pk_un hne]; exact h.1, by rw [h1]; exact h.2⟩
/-! a look without a fault leaves numbers in the layout -/
theorem p_lw_f0 {b : BB} {to k : Nat} : ∀ (n i : Nat) (x : SS × (Nat → Int32)), (p_lw b to k n i x).1.2.1 = 0 → x.1.2.1 = 0
  | 0, _, _, h => h
  | n + 1, i, x, h => by
    unfold p_lw at h
    by_cases a : x.1.2.1 = 0
    · exact a
    · rw [if_neg a] at h; exact h
theorem p_lp_f0 {b : BB} {to k : Nat} {wi : Nat → Int32} : ∀ (n i : Nat) (x : SS × (Nat → Int32)), (p_lp b to k wi n i x).1.2.1 = 0 → x.1.2.1 = 0
  | 0, _, _, h => h
  | n + 1, i, x, h => by
    unfold p_lp at h
    by_cases a : x.1.2.1 = 0
    · exact a
    · rw [if_neg a] at h; exact h
theorem p_lw_out {b : BB} {to k j : Nat} : ∀ (n i : Nat) (x : SS × (Nat → Int32)), (j < k * 4 + i ∨ k * 4 + i + n ≤ j) → (p_lw b to k n i x).2 j = x.2 j
  | 0, _, _, _ => rfl
  | n + 1, i, x, h => by
    unfold p_lw
    by_cases a : x.1.2.1 = 0
    · rw [if_pos a, p_lw_out n (i + 1) _ (by omega)]
      exact pk_un (by omega)
    · rw [if_neg a]
theorem p_lp_out {b : BB} {to k j : Nat} {wi : Nat → Int32} : ∀ (n i : Nat) (x : SS × (Nat → Int32)), (j < k * 4 + i ∨ k * 4 + i + n ≤ j) → (p_lp b to k wi n i x).2 j = x.2 j
  | 0, _, _, _ => rfl
  | n + 1, i, x, h => by
    unfold p_lp
    by_cases a : x.1.2.1 = 0
    · rw [if_pos a, p_lp_out n (i + 1) _ (by omega)]
      exact pk_un (by omega)
    · rw [if_neg a]
theorem p_lw_in {b : BB} {to k : Nat} : ∀ (n i : Nat) (x : SS × (Nat → Int32)), (p_lw b to k n i x).1.2.1 = 0 → ∀ q, i ≤ q → q < i + n → ∃ v, v ≤ 64 ∧ (p_lw b to k n i x).2 (k * 4 + q) = nI v
  | 0, _, _, _, q, h1, h2 => absurd h2 (by omega)
  | n + 1, i, x, h, q, h1, h2 => by
    have ha : x.1.2.1 = 0 := p_lw_f0 (n + 1) i x h
    unfold p_lw at h ⊢
    rw [if_pos ha] at h ⊢
    by_cases e : q = i
    · subst e
      rw [p_lw_out n (q + 1) _ (by omega)]
      refine ⟨p_nbV b x.1, ?_, pk_us⟩
      have h3 := p_lw_f0 n (q + 1) _ h
      dsimp only at h3
      unfold p_nwS at h3
      by_cases a : 64 < p_nbV b x.1 ∨ (0 < p_nbV b x.1 ∧ p_lo to k q = 0)
      · rw [if_pos a] at h3; exact absurd (show 5 = 0 from h3) (by decide)
      · omega
    · exact p_lw_in n (i + 1) _ h q (by omega) (by omega)
theorem p_lp_in {b : BB} {to k : Nat} {wi : Nat → Int32} (hu : b.2 ≤ 20000) : ∀ (n i : Nat) (x : SS × (Nat → Int32)), p_ok b x.1 → (p_lp b to k wi n i x).1.2.1 = 0 → ∀ q, i ≤ q → q < i + n → ∃ v, v ≤ 20000 ∧ (p_lp b to k wi n i x).2 (k * 4 + q) = nI v
  | 0, _, _, _, _, q, h1, h2 => absurd h2 (by omega)
  | n + 1, i, x, ho, h, q, h1, h2 => by
    have ha : x.1.2.1 = 0 := p_lp_f0 (n + 1) i x h
    unfold p_lp at h ⊢
    rw [if_pos ha] at h ⊢
    by_cases e : q = i
    · subst e
      rw [p_lp_out n (q + 1) _ (by omega)]
      have h4 := ho.1
      exact ⟨x.1.1, by omega, pk_us⟩
    · exact p_lp_in hu n (i + 1) _ (p_ok_pp ho) h q (by omega) (by omega)
def p_gj (wi st : Nat → Int32) (j : Nat) : Prop := ∃ v s, v ≤ 64 ∧ s ≤ 20000 ∧ wi j = nI v ∧ st j = nI s
theorem p_lb_f0 {b : BB} {to k : Nat} {x : LL} (h : (p_lb b to k x).1.2.1 = 0) : (p_nv b x.1).2.2.1 = 0 := p_lw_f0 (b := b) (to := to) (k := k) 4 0 ((p_nv b x.1).2, x.2.2.1) (p_lp_f0 (b := b) (to := to) (k := k) (wi := (p_lw b to k 4 0 ((p_nv b x.1).2, x.2.2.1)).2) 4 0 ((p_lw b to k 4 0 ((p_nv b x.1).2, x.2.2.1)).1, x.2.2.2) h)
theorem p_lb_gj {b : BB} {to k : Nat} {x : LL} (hu : b.2 ≤ 20000) (ho : p_ok b x.1) (h : (p_lb b to k x).1.2.1 = 0) (hx : ∀ j, j < k * 4 → p_gj x.2.2.1 x.2.2.2 j) : ∀ j, j < (k + 1) * 4 → p_gj (p_lb b to k x).2.2.1 (p_lb b to k x).2.2.2 j := by
  intro j hj
  have h1 : (p_lw b to k 4 0 ((p_nv b x.1).2, x.2.2.1)).1.2.1 = 0 := p_lp_f0 (b := b) (to := to) (k := k) (wi := (p_lw b to k 4 0 ((p_nv b x.1).2, x.2.2.1)).2) 4 0 ((p_lw b to k 4 0 ((p_nv b x.1).2, x.2.2.1)).1, x.2.2.2) h
  by_cases e : j < k * 4
  · obtain ⟨v, s, a1, a2, a3, a4⟩ := hx j e
    refine ⟨v, s, a1, a2, ?_, ?_⟩
    · rw [← a3]; exact p_lw_out (b := b) (to := to) (k := k) 4 0 ((p_nv b x.1).2, x.2.2.1) (by omega)
    · rw [← a4]; exact p_lp_out (b := b) (to := to) (k := k) (wi := (p_lw b to k 4 0 ((p_nv b x.1).2, x.2.2.1)).2) 4 0 ((p_lw b to k 4 0 ((p_nv b x.1).2, x.2.2.1)).1, x.2.2.2) (by omega)
  · obtain ⟨v, a1, a2⟩ := p_lw_in (b := b) (to := to) (k := k) 4 0 ((p_nv b x.1).2, x.2.2.1) h1 (j - k * 4) (by omega) (by omega)
    obtain ⟨s, a3, a4⟩ := p_lp_in (to := to) (k := k) (wi := (p_lw b to k 4 0 ((p_nv b x.1).2, x.2.2.1)).2) hu 4 0 ((p_lw b to k 4 0 ((p_nv b x.1).2, x.2.2.1)).1, x.2.2.2) (p_ok_lw 4 0 _ (p_ok_nv ho)) h (j - k * 4) (by omega) (by omega)
    rw [show k * 4 + (j - k * 4) = j by omega] at a2 a4
    exact ⟨v, s, a1, a3, a2, a4⟩
theorem p_lbs_f0 {b : BB} {to : Nat} : ∀ (n k : Nat) (x : LL), (p_lbs b to n k x).1.2.1 = 0 → x.1.2.1 = 0
  | 0, _, _, h => h
  | n + 1, k, x, h => by
    unfold p_lbs at h
    by_cases a : x.1.2.1 = 0
    · exact a
    · rw [if_neg a] at h; exact h
theorem p_ok_lbs {b : BB} {to : Nat} : ∀ (n k : Nat) (x : LL), p_ok b x.1 → p_ok b (p_lbs b to n k x).1
  | 0, _, _, h => h
  | n + 1, k, x, h => by
    unfold p_lbs
    by_cases a : x.1.2.1 = 0
    · rw [if_pos a]; exact p_ok_lbs n _ _ (p_ok_lb h)
    · rw [if_neg a]; exact h
theorem p_lbs_gj {b : BB} {to : Nat} (hu : b.2 ≤ 20000) : ∀ (n k : Nat) (x : LL), p_ok b x.1 → (p_lbs b to n k x).1.2.1 = 0 → (∀ j, j < k * 4 → p_gj x.2.2.1 x.2.2.2 j) → ∀ j, j < (k + n) * 4 → p_gj (p_lbs b to n k x).2.2.1 (p_lbs b to n k x).2.2.2 j
  | 0, _, _, _, _, hx, j, hj => hx j hj
  | n + 1, k, x, ho, h, hx, j, hj => by
    have ha := p_lbs_f0 (n + 1) k x h
    unfold p_lbs at h ⊢
    rw [if_pos ha] at h ⊢
    have h1 := p_lbs_f0 n (k + 1) _ h
    exact p_lbs_gj hu n (k + 1) _ (p_ok_lb ho) h (p_lb_gj hu ho h1 hx) j (by omega)
theorem p_end_0 {b : BB} {z : SS} (h : (p_end b z).2.1 = 0) : z.2.1 = 0 := by
  unfold p_end at h
  by_cases a : z.2.1 = 0 ∧ z.1 < b.2
  · exact a.1
  · rw [if_neg a] at h; exact h
theorem p_ok_look {b : BB} {y : (Nat → Int64) × (Nat → Int32) × (Nat → Int32)} : p_ok b (p_look b y).1 := p_ok_lbs _ _ _ (p_ok_lh (p_ok_z0 b))
theorem p_end_f {b : BB} {y : (Nat → Int64) × (Nat → Int32) × (Nat → Int32)} : (p_end b (p_look b y).1).2.1 < 1000000 := by
  unfold p_end
  by_cases a : (p_look b y).1.2.1 = 0 ∧ (p_look b y).1.1 < b.2
  · rw [if_pos a]; exact (by decide : 6 < 1000000)
  · rw [if_neg a]; exact p_ok_look.2
theorem p_look_ok {b : BB} {y : (Nat → Int64) × (Nat → Int32) × (Nat → Int32)} (hu : b.2 ≤ 20000) (h : (p_end b (p_look b y).1).2.1 = 0) : p_okL (p_bf (p_lh b p_z0).2.1) (p_look b y).2.2.1 (p_look b y).2.2.2 := by
  intro j hj
  obtain ⟨v, s, a1, a2, a3, a4⟩ := p_lbs_gj hu (p_bf (p_lh b p_z0).2.1) 0 _ (p_ok_lh (p_ok_z0 b)) (p_end_0 h) (fun j hj => absurd hj (by omega)) j (by omega)
  have e1 : cl (p_look b y).2.2.1 j = v := by
    unfold cl
    rw [show (p_look b y).2.2.1 j = nI v from a3, nI_clamp (by omega)]
  have e2 : cl (p_look b y).2.2.2 j = s := by
    unfold cl
    rw [show (p_look b y).2.2.2 j = nI s from a4, nI_clamp (by omega)]
  rw [e1, e2]
  exact ⟨a3, a1, a4, a2⟩
