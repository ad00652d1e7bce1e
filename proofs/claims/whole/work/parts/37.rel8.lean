/-! the class against the reference: what is read -/
/-- the blocks below k: the layout agrees, and the row that the class will take out of such a layout -/
def q_RR (b : BB) (N k : Nat) (rw0 : Nat → Int64) (x : LL) (y : RL) : Prop :=
  eqTo k x.2.1 y.2.2.1 ∧ eqTo (k * 4) x.2.2.1 y.2.2.2.1 ∧ eqTo (k * 4) x.2.2.2 y.2.2.2.2 ∧
  ∀ (le9 : Nat → Int64) (wi9 st9 : Nat → Int32), eqTo k x.2.1 le9 → eqTo (k * 4) x.2.2.1 wi9 → eqTo (k * 4) x.2.2.2 st9 → eqTo (p_pe k 0 N) (p_trb b.1 N le9 wi9 st9 k rw0) y.2.1
theorem q_lb_out {b : BB} {N k : Nat} {x : LL} : (∀ t, t < k → (p_lb b N k x).2.1 t = x.2.1 t) ∧ (∀ j, j < k * 4 → (p_lb b N k x).2.2.1 j = x.2.2.1 j ∧ (p_lb b N k x).2.2.2 j = x.2.2.2 j) := by
  refine ⟨fun t ht => ?_, fun j hj => ⟨?_, ?_⟩⟩
  · show vp_updL x.2.1 k (p_unzig (p_nv b x.1).1) t = _
    exact pk_uLn (by omega)
  · exact p_lw_out (b := b) (to := N) (k := k) 4 0 ((p_nv b x.1).2, x.2.2.1) (by omega)
  · exact p_lp_out (b := b) (to := N) (k := k) (wi := (p_lw b N k 4 0 ((p_nv b x.1).2, x.2.2.1)).2) 4 0 ((p_lw b N k 4 0 ((p_nv b x.1).2, x.2.2.1)).1, x.2.2.2) (by omega)
theorem r_lw_out {c : RB} {many k j : Nat} : ∀ (n i : Nat) (x : SS × (Nat → Int32)), (j < k * 4 + i ∨ k * 4 + i + n ≤ j) → (r_lw c many k n i x).2 j = x.2 j
  | 0, _, _, _ => rfl
  | n + 1, i, x, h => by
    unfold r_lw
    by_cases a : x.1.2.1 = 0
    · rw [if_pos a, r_lw_out n (i + 1) _ (by omega)]
      exact pk_un (by omega)
    · rw [if_neg a]
theorem r_lp_out {c : RB} {lv : Int64} {fr many k j : Nat} {nw : Nat → Int32} : ∀ (n i : Nat) (x : (SS × (Nat → Int64)) × (Nat → Int32)), (j < k * 4 + i ∨ k * 4 + i + n ≤ j) → (r_lp c lv fr many k nw n i x).2 j = x.2 j
  | 0, _, _, _ => rfl
  | n + 1, i, x, h => by
    unfold r_lp
    by_cases a : x.1.1.2.1 = 0
    · rw [if_pos a, r_lp_out n (i + 1) _ (by omega)]
      exact pk_un (by omega)
    · rw [if_neg a]
theorem q_rb_out {c : RB} {fr many k : Nat} {y : RL} : (∀ t, t < k → (r_rb c fr many k y).2.2.1 t = y.2.2.1 t) ∧ (∀ j, j < k * 4 → (r_rb c fr many k y).2.2.2.1 j = y.2.2.2.1 j ∧ (r_rb c fr many k y).2.2.2.2 j = y.2.2.2.2 j) := by
  refine ⟨fun t ht => ?_, fun j hj => ⟨?_, ?_⟩⟩
  · show vp_updL y.2.2.1 k (r_unzig (r_v c y.1).1) t = _
    exact pk_uLn (by omega)
  · exact r_lw_out (c := c) (many := many) (k := k) 4 0 ((r_v c y.1).2, y.2.2.2.1) (by omega)
  · exact r_lp_out (c := c) (lv := r_unzig (r_v c y.1).1) (fr := fr) (many := many) (k := k) (nw := (r_W c many k y).2) 4 0 (((r_W c many k y).1, y.2.1), y.2.2.2.2) (by omega)
theorem q_trb_congr {wd : Nat → Int64} {N : Nat} {le le' : Nat → Int64} {wi wi' st st' : Nat → Int32} {rw0 : Nat → Int64} : ∀ k, eqTo k le le' → eqTo (k * 4) wi wi' → eqTo (k * 4) st st' → p_trb wd N le' wi' st' k rw0 = p_trb wd N le wi st k rw0
  | 0, _, _, _ => rfl
  | k + 1, h1, h2, h3 => by
    unfold p_trb
    rw [q_trb_congr k (fun j hj => h1 j (by omega)) (fun j hj => h2 j (by omega)) (fun j hj => h3 j (by omega))]
    exact q_trp_congr (h1 k (by omega)) (fun j _ h => h2 j (by omega)) (fun j _ h => h3 j (by omega)) 4 (Nat.le_refl _)
theorem q_step {b : BB} {c : RB} (h : BR b c) {N k : Nat} (hk : k < p_bf N) {rw0 : Nat → Int64} {x : LL} {y : RL} (hx : y.1 = x.1) (h0 : x.1.2.1 = 0) (hz : p_ok b x.1) (hr : q_RR b N k rw0 x y) :
    SR (p_lb b N k x).1 (r_rb c (k * 64) (r_many N (k * 64)) k y).1 ∧ ((p_lb b N k x).1.2.1 = 0 → q_RR b N (k + 1) rw0 (p_lb b N k x) (r_rb c (k * 64) (r_many N (k * 64)) k y)) := by
  obtain ⟨s1, s2⟩ := q_lb h hk hx h0 hz
  refine ⟨s1, fun q => ?_⟩
  obtain ⟨t1, t2, t3, t4⟩ := s2 q
  obtain ⟨r1, r2, r3, r4⟩ := hr
  obtain ⟨o1, o2⟩ := q_lb_out (b := b) (N := N) (k := k) (x := x)
  obtain ⟨u1, u2⟩ := q_rb_out (c := c) (fr := k * 64) (many := r_many N (k * 64)) (k := k) (y := y)
  refine ⟨fun j hj => ?_, fun j hj => ?_, fun j hj => ?_, fun le9 wi9 st9 h1 h2 h3 => ?_⟩
  · by_cases e : j = k
    · rw [e]; exact t1
    · rw [u1 j (by omega), o1 j (by omega)]; exact r1 j (by omega)
  · by_cases e : j < k * 4
    · rw [(u2 j e).1, (o2 j e).1]; exact r2 j e
    · exact t2 j (by omega) (by omega)
  · by_cases e : j < k * 4
    · rw [(u2 j e).2, (o2 j e).2]; exact r3 j e
    · exact t3 j (by omega) (by omega)
  · have e4 : p_pe (k + 1) 0 N = p_pe k 4 N := by unfold p_pe; omega
    rw [e4]
    show eqTo (p_pe k 4 N) (p_trp b.1 N le9 wi9 st9 k 4 (p_trb b.1 N le9 wi9 st9 k rw0)) _
    refine t4 le9 wi9 st9 _ (h1 k (by omega)) (fun j _ h => h2 j (by omega)) (fun j _ h => h3 j (by omega)) ?_
    refine r4 le9 wi9 st9 (fun j hj => ?_) (fun j hj => ?_) (fun j hj => ?_)
    · rw [h1 j (by omega), o1 j hj]
    · rw [h2 j (by omega), (o2 j hj).1]
    · rw [h3 j (by omega), (o2 j hj).2]
theorem q_lbs {b : BB} {c : RB} (h : BR b c) {N : Nat} (hN : N ≤ 2000) {rw0 : Nat → Int64} : ∀ (f g k : Nat) (x : LL) (y : RL), g + k = p_bf N → k + f = 33 → SR x.1 y.1 → p_ok b x.1 → (x.1.2.1 = 0 → q_RR b N k rw0 x y) →
    SR (p_lbs b N g k x).1 (r_lbs c N f k (k * 64) y).1.1 ∧ ((p_lbs b N g k x).1.2.1 = 0 → (r_lbs c N f k (k * 64) y).2 = p_bf N ∧ q_RR b N (p_bf N) rw0 (p_lbs b N g k x) (r_lbs c N f k (k * 64) y).1)
  | 0, g, k, x, y, hg, hf, _, _, _ => by
    have := p_bf_le hN
    omega
  | f + 1, g, k, x, y, hg, hf, hs, hz, hr => by
    unfold r_lbs
    by_cases a : x.1.2.1 = 0
    · have hx := hs.2 a
      cases g with
      | zero =>
        have ek : k = p_bf N := by omega
        rw [if_neg (fun q => absurd (q_bf.mp q.1) (by omega))]
        show SR x.1 y.1 ∧ (x.1.2.1 = 0 → k = p_bf N ∧ q_RR b N (p_bf N) rw0 x y)
        exact ⟨hs, fun _ => ⟨ek, by rw [← ek]; exact hr a⟩⟩
      | succ g =>
        have hk : k < p_bf N := by omega
        unfold p_lbs
        rw [if_pos a, if_pos ⟨q_bf.mpr hk, by rw [hx]; exact a⟩, show k * 64 + 64 = (k + 1) * 64 by omega]
        obtain ⟨s1, s2⟩ := q_step h hk hx a hz (hr a)
        exact q_lbs h hN f g (k + 1) _ _ (by omega) (by omega) s1 (p_ok_lb hz) s2
    · have e1 : p_lbs b N g k x = x := by
        cases g with
        | zero => rfl
        | succ g => unfold p_lbs; rw [if_neg a]
      have a2 : ¬ y.1.2.1 = 0 := by rw [hs.1]; exact a
      rw [e1, if_neg (fun q => a2 q.2)]
      exact ⟨hs, fun q => absurd q a⟩
theorem q_cp {f g : Nat → Int64} : ∀ (n : Nat) (j : Nat), r_cp f g n j = if j < n then f j else g j
  | 0, j => by rw [if_neg (Nat.not_lt_zero j)]; rfl
  | n + 1, j => by
    show vp_updL (r_cp f g n) n (f n) j = _
    by_cases e : j = n
    · rw [e, pk_uLs, if_pos (by omega)]
    · rw [pk_uLn e, q_cp n j]
      by_cases e2 : j < n
      · rw [if_pos e2, if_pos (by omega)]
      · rw [if_neg e2, if_neg (by omega)]
theorem q_ci {f g : Nat → Int32} : ∀ (n : Nat) (j : Nat), r_ci f g n j = if j < n then f j else g j
  | 0, j => by rw [if_neg (Nat.not_lt_zero j)]; rfl
  | n + 1, j => by
    show upd (r_ci f g n) n (f n) j = _
    by_cases e : j = n
    · rw [e, pk_us, if_pos (by omega)]
    · rw [pk_un e, q_ci n j]
      by_cases e2 : j < n
      · rw [if_pos e2, if_pos (by omega)]
      · rw [if_neg e2, if_neg (by omega)]
/-- read: the fault and its place are the same; without one so are the number of longs, the blocks, the layout and the row -/
theorem q_read {b : BB} {c : RB} (h : BR b c) (y : (Nat → Int64) × (Nat → Int32) × (Nat → Int32)) (y' : (Nat → Int64) × (Nat → Int64) × (Nat → Int32) × (Nat → Int32)) (rw0 : Nat → Int64) :
    (r_E c y').2 = (p_end b (p_look b y).1).2 ∧ ((p_end b (p_look b y).1).2.1 = 0 → r_N c = (p_lh b p_z0).2.1 ∧ (r_F c y').2 = p_bf (p_lh b p_z0).2.1 ∧
      eqTo (p_bf (p_lh b p_z0).2.1) (p_look b y).2.1 (r_F c y').1.2.2.1 ∧ eqTo (p_bf (p_lh b p_z0).2.1 * 4) (p_look b y).2.2.1 (r_F c y').1.2.2.2.1 ∧ eqTo (p_bf (p_lh b p_z0).2.1 * 4) (p_look b y).2.2.2 (r_F c y').1.2.2.2.2 ∧
      eqTo (p_lh b p_z0).2.1 (p_tr b.1 (p_lh b p_z0).2.1 (p_lh b p_z0).2.2 (p_bf (p_lh b p_z0).2.1) (p_look b y).2.1 (p_look b y).2.2.1 (p_look b y).2.2.2 rw0) (r_F c y').1.2.1) := by
  have fin : ∀ (z z' : SS), SR z z' → (if z'.2.1 = 0 ∧ z'.1 < c.2 then r_fail z' 6 (nI z'.1) else z').2 = (p_end b z).2 := by
    intro z z' hs
    unfold p_end
    by_cases a : z.2.1 = 0
    · rw [hs.2 a, h.1]
      by_cases a2 : z.1 < b.2
      · rw [if_pos ⟨a, a2⟩, if_pos ⟨a, a2⟩]
        unfold r_fail
        rw [if_pos a]
      · rw [if_neg (fun q => a2 q.2), if_neg (fun q => a2 q.2)]
    · have a3 : ¬ z'.2.1 = 0 := by rw [hs.1]; exact a
      rw [if_neg (fun q => a3 q.1), if_neg (fun q => a q.1)]
      exact hs.1
  have hto := p_lh_to (b := b) (z := p_z0)
  rcases q_lh h (y := y') with ⟨a1, a2, a3, a4⟩ | ⟨a1, a2, a3⟩
  · have eF : r_F c y' = r_lbs c (r_N c) 33 0 0 (r_h2 c y') := by unfold r_F; rw [if_pos a1]
    have hokh := p_ok_lh (p_ok_z0 b)
    have base : q_RR b (p_lh b p_z0).2.1 0 (if 0 < (p_lh b p_z0).2.1 then vp_updL rw0 0 (p_lh b p_z0).2.2 else rw0) ((p_lh b p_z0).1, y) (r_h2 c y') := by
      refine ⟨fun j hj => absurd hj (Nat.not_lt_zero j), fun j hj => absurd hj (by omega), fun j hj => absurd hj (by omega), fun le9 wi9 st9 _ _ _ j hj => ?_⟩
      have hj2 : j = 0 ∧ 0 < (p_lh b p_z0).2.1 := by unfold p_pe at hj; omega
      obtain ⟨rfl, hp⟩ := hj2
      show (r_h2 c y').2.1 0 = (if 0 < (p_lh b p_z0).2.1 then vp_updL rw0 0 (p_lh b p_z0).2.2 else rw0) 0
      rw [if_pos hp, pk_uLs, a4 (by rw [← a2]; exact hp)]
    have main := q_lbs h (N := (p_lh b p_z0).2.1) hto (rw0 := if 0 < (p_lh b p_z0).2.1 then vp_updL rw0 0 (p_lh b p_z0).2.2 else rw0) 33 (p_bf (p_lh b p_z0).2.1) 0 ((p_lh b p_z0).1, y) (r_h2 c y') (Nat.add_zero _) rfl (by rw [a3]; exact SR.refl _) hokh (fun _ => base)
    rw [Nat.zero_mul] at main
    rw [← a2] at eF
    rw [← eF] at main
    obtain ⟨m1, m2⟩ := main
    refine ⟨fin _ _ m1, fun q => ?_⟩
    obtain ⟨m3, m4, m5, m6, m7⟩ := m2 (p_end_0 q)
    refine ⟨a2.symm, m3, m4, m5, m6, fun j hj => ?_⟩
    have e9 : p_pe (p_bf (p_lh b p_z0).2.1) 0 (p_lh b p_z0).2.1 = (p_lh b p_z0).2.1 := by
      have : ¬ p_bf (p_lh b p_z0).2.1 * 64 + 1 < (p_lh b p_z0).2.1 := fun z => absurd (q_bf.mp z) (Nat.lt_irrefl _)
      unfold p_pe
      omega
    have m8 := m7 (p_look b y).2.1 (p_look b y).2.2.1 (p_look b y).2.2.2 (fun _ _ => rfl) (fun _ _ => rfl) (fun _ _ => rfl)
    rw [e9] at m8
    exact m8 j hj
  · have eF : r_F c y' = ((r_h1 c, y'), 0) := by unfold r_F; rw [if_neg a1]
    have eL : p_look b y = ((p_lh b p_z0).1, y) := by
      unfold p_look
      rw [a2]
      rfl
    have h1 : ¬ (p_look b y).1.2.1 = 0 := by rw [eL, a3]; exact a1
    refine ⟨?_, fun q => absurd (p_end_0 q) h1⟩
    unfold r_E
    rw [eF]
    refine fin _ _ ?_
    rw [eL, a3]
    exact SR.refl _
