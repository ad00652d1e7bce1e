/-! the relation between the class's state and the reference's, and the calls that keep it -/
def REL (rc : Nat) (rq : Nat → Int64) (b : BB) (pl : Int32) (bc : Nat) (le : Nat → Int64) (wi st : Nat → Int32) (n0 : Nat) (rr : Nat → Int64) (c : RB) (pm : Int32) (bl : Nat) (lf : Nat → Int64) (wf sf : Nat → Int32) : Prop :=
  n0 = rc ∧ rc ≤ 2000 ∧ eqTo rc rq rr ∧ BR b c ∧ pm = pl ∧ bl = bc ∧ bc ≤ 32 ∧ eqTo bc le lf ∧ eqTo (bc * 4) wi wf ∧ eqTo (bc * 4) st sf
section RL9
variable {rc : Nat} {rq : Nat → Int64} {b : BB} {pl : Int32} {bc : Nat} {le : Nat → Int64} {wi st : Nat → Int32} {n0 : Nat} {rr : Nat → Int64} {c : RB} {pm : Int32} {bl : Nat} {lf : Nat → Int64} {wf sf : Nat → Int32}
theorem REL.put (v : Int64) (h : REL rc rq b pl bc le wi st n0 rr c pm bl lf wf sf) : REL (p_putC rc) (p_putR rq rc v) b pl bc le wi st (p_putC n0) (p_putR rr n0 v) c pm bl lf wf sf := by
  obtain ⟨rfl, h2, h3, h4⟩ := h
  unfold p_putC p_putR
  by_cases a : n0 < 2000
  · rw [if_pos a, if_pos a, if_pos a]
    refine ⟨rfl, by omega, fun j hj => ?_, h4⟩
    by_cases e : j = n0
    · rw [e, pk_uLs, pk_uLs]
    · rw [pk_uLn e, pk_uLn e]; exact h3 j (by omega)
  · rw [if_neg a, if_neg a, if_neg a]
    exact ⟨rfl, h2, h3, h4⟩
theorem REL.clear (h : REL rc rq b pl bc le wi st n0 rr c pm bl lf wf sf) : REL 0 rq b pl bc le wi st 0 rr c pm bl lf wf sf :=
  ⟨rfl, Nat.zero_le _, fun j hj => absurd hj (Nat.not_lt_zero j), h.2.2.2⟩
theorem REL.get (k : Int32) (h : REL rc rq b pl bc le wi st n0 rr c pm bl lf wf sf) : p_get rq rc k = p_get rr n0 k := by
  obtain ⟨rfl, h2, h3, h4⟩ := h
  unfold p_get
  by_cases a : p_has n0 k = true
  · obtain ⟨j, hj, rfl⟩ := p_has_of (by omega) a
    rw [if_pos a, if_pos a, nI_clamp (by omega), h3 j hj]
  · rw [if_neg a, if_neg a]
theorem REL.byteAt (k : Int32) (h : REL rc rq b pl bc le wi st n0 rr c pm bl lf wf sf) : p_byteAt b k = r_byteAt c k := by
  have hB := h.2.2.2.1
  have h2 := hB.2.1
  unfold p_byteAt r_byteAt
  rw [hB.1]
  by_cases a : p_has b.2 k = true
  · obtain ⟨j, hj, rfl⟩ := p_has_of (by omega) a
    rw [if_pos a, if_pos a, nI_clamp (by omega), hB.2.2.1 j hj]
  · rw [if_neg a, if_neg a]
theorem REL.setB (k v : Int32) (h : REL rc rq b pl bc le wi st n0 rr c pm bl lf wf sf) : REL rc rq (p_setByte b k v, b.2) pl bc le wi st n0 rr (r_setByte c k v, c.2) pm bl lf wf sf := by
  obtain ⟨h1, h2, h3, hB, h5⟩ := h
  have hs := hB.2.1
  refine ⟨h1, h2, h3, ?_, h5⟩
  unfold p_setByte r_setByte
  rw [hB.1]
  by_cases a : p_has b.2 k = true
  · obtain ⟨j, hj, rfl⟩ := p_has_of (by omega) a
    rw [if_pos a, if_pos a, nI_clamp (by omega)]
    refine ⟨rfl, hs, fun i hi => ?_, q_by_upd hB.2.2.2 (low8_lt v)⟩
    have hi : i < b.2 := hi
    show upd c.1 j (nI (low8 v)) i = nI (gB (p_chg b.1 j v) i)
    rw [gB_chg (by omega) (by omega)]
    by_cases e : i = j
    · rw [if_pos e, e, pk_us]
    · rw [if_neg e, pk_un e]; exact hB.2.2.1 i hi
  · rw [if_neg a, if_neg a]
    exact ⟨rfl, hs, hB.2.2.1, hB.2.2.2⟩
theorem REL.app (v : Int32) (h : REL rc rq b pl bc le wi st n0 rr c pm bl lf wf sf) : REL rc rq (p_add b v) pl bc le wi st n0 rr (r_app c v) pm bl lf wf sf := by
  obtain ⟨h1, h2, h3, hB, h5⟩ := h
  refine ⟨h1, h2, h3, ?_, h5⟩
  unfold r_app
  by_cases a : b.2 < 20000
  · rw [if_pos (by rw [hB.1]; exact a)]
    exact hB.add a rfl
  · rw [if_neg (by rw [hB.1]; exact a)]
    unfold p_add
    rw [if_neg a]
    exact hB
theorem REL.cut (k : Int32) (h : REL rc rq b pl bc le wi st n0 rr c pm bl lf wf sf) : REL rc rq (b.1, p_cut b.2 k) pl bc le wi st n0 rr (c.1, p_cut c.2 k) pm bl lf wf sf := by
  obtain ⟨h1, h2, h3, hB, h5⟩ := h
  have hs := hB.2.1
  have hl : p_cut b.2 k ≤ b.2 := by
    unfold p_cut
    by_cases a : p_cutB b.2 k = true
    · obtain ⟨j, hj, rfl⟩ := p_cutB_of (by omega) a
      rw [if_pos a, nI_clamp (by omega)]; exact hj
    · rw [if_neg a]; exact Nat.le_refl _
  refine ⟨h1, h2, h3, ⟨?_, ?_, fun j hj => hB.2.2.1 j ?_, hB.2.2.2⟩, h5⟩
  · show p_cut c.2 k = p_cut b.2 k
    rw [hB.1]
  · show p_cut b.2 k ≤ 20000
    omega
  · have hj : j < p_cut b.2 k := hj
    omega
theorem REL.least (k : Int32) (h : REL rc rq b pl bc le wi st n0 rr c pm bl lf wf sf) : p_least bc le k = p_least bl lf k := by
  obtain ⟨-, -, -, -, -, rfl, h7, h8, -⟩ := h
  unfold p_least
  by_cases a : p_has bl k = true
  · obtain ⟨j, hj, rfl⟩ := p_has_of (by omega) a
    rw [if_pos a, if_pos a, nI_clamp (by omega), h8 j hj]
  · rw [if_neg a, if_neg a]
theorem q_part2 {bl : Nat} {f g : Nat → Int32} {k p : Int32} (hb : bl ≤ 32) (h : eqTo (bl * 4) f g) : p_part bl f k p = p_part bl g k p := by
  unfold p_part
  by_cases a : p_hp bl k p = true
  · obtain ⟨j, i, hj, hi, rfl, rfl⟩ := p_hp_of (by omega) a
    rw [if_pos a, if_pos a, nI_clamp (by omega), nI_clamp (by omega), h _ (by omega)]
  · rw [if_neg a, if_neg a]
theorem REL.width (k p : Int32) (h : REL rc rq b pl bc le wi st n0 rr c pm bl lf wf sf) : p_part bc wi k p = p_part bl wf k p := by
  obtain ⟨-, -, -, -, -, rfl, h7, -, h9, -⟩ := h
  exact q_part2 h7 h9
theorem REL.start (k p : Int32) (h : REL rc rq b pl bc le wi st n0 rr c pm bl lf wf sf) : p_part bc st k p = p_part bl sf k p := by
  obtain ⟨-, -, -, -, -, rfl, h7, -, -, h9⟩ := h
  exact q_part2 h7 h9
theorem REL.write (h : REL rc rq b pl bc le wi st n0 rr c pm bl lf wf sf) :
    REL rc rq (p_write rq rc (b, le, wi, st)).1 pl (p_bf rc) (p_write rq rc (b, le, wi, st)).2.1 (p_write rq rc (b, le, wi, st)).2.2.1 (p_write rq rc (b, le, wi, st)).2.2.2 n0 rr (r_write rr n0 (c, lf, wf, sf)).1.1 pm (r_write rr n0 (c, lf, wf, sf)).2 (r_write rr n0 (c, lf, wf, sf)).1.2.1 (r_write rr n0 (c, lf, wf, sf)).1.2.2.1 (r_write rr n0 (c, lf, wf, sf)).1.2.2.2 := by
  obtain ⟨rfl, h2, h3, hB, h5, -⟩ := h
  obtain ⟨⟨w1, w2, w3⟩, w4⟩ := q_write (x := (b, le, wi, st)) (y := (c, lf, wf, sf)) h3 h2 hB
  exact ⟨rfl, h2, h3, w1, h5, w4, p_bf_le h2, w2, fun j hj => (w3 j hj).1, fun j hj => (w3 j hj).2⟩
theorem REL.readF (y : (Nat → Int64) × (Nat → Int32) × (Nat → Int32)) (y' : (Nat → Int64) × (Nat → Int64) × (Nat → Int32) × (Nat → Int32)) (h : REL rc rq b pl bc le wi st n0 rr c pm bl lf wf sf) : (r_E c y').2 = (p_end b (p_look b y).1).2 := (q_read h.2.2.2.1 y y' rq).1
theorem REL.read1 (y : (Nat → Int64) × (Nat → Int32) × (Nat → Int32)) (y' : (Nat → Int64) × (Nat → Int64) × (Nat → Int32) × (Nat → Int32)) (h : REL rc rq b pl bc le wi st n0 rr c pm bl lf wf sf) : REL rc rq b (p_end b (p_look b y).1).2.2 bc le wi st n0 rr c (r_E c y').2.2 bl lf wf sf := by
  have e := h.readF y y'
  obtain ⟨h1, h2, h3, hB, h5, h6⟩ := h
  exact ⟨h1, h2, h3, hB, by rw [e], h6⟩
theorem REL.read0 (y : (Nat → Int64) × (Nat → Int32) × (Nat → Int32)) (y' : (Nat → Int64) × (Nat → Int64) × (Nat → Int32) × (Nat → Int32)) (h0 : (p_end b (p_look b y).1).2.1 = 0) (h : REL rc rq b pl bc le wi st n0 rr c pm bl lf wf sf) :
    REL (p_lh b p_z0).2.1 (p_tr b.1 (p_lh b p_z0).2.1 (p_lh b p_z0).2.2 (p_bf (p_lh b p_z0).2.1) (p_look b y).2.1 (p_look b y).2.2.1 (p_look b y).2.2.2 rq) b (p_end b (p_look b y).1).2.2 (p_bf (p_lh b p_z0).2.1) (p_look b y).2.1 (p_look b y).2.2.1 (p_look b y).2.2.2
      (r_N c) (r_cp (r_F c y').1.2.1 rr (r_N c)) c (r_E c y').2.2 (r_F c y').2 (r_cp (r_F c y').1.2.2.1 lf (r_F c y').2) (r_ci (r_F c y').1.2.2.2.1 wf (4 * (r_F c y').2)) (r_ci (r_F c y').1.2.2.2.2 sf (4 * (r_F c y').2)) := by
  obtain ⟨e, f⟩ := q_read h.2.2.2.1 y y' rq
  obtain ⟨f1, f2, f3, f4, f5, f6⟩ := f h0
  have hto := p_lh_to (b := b) (z := p_z0)
  obtain ⟨h1, h2, h3, hB, h5, h6⟩ := h
  refine ⟨f1, hto, fun j hj => ?_, hB, by rw [e], f2, p_bf_le hto, fun j hj => ?_, fun j hj => ?_, fun j hj => ?_⟩
  · rw [q_cp, if_pos (by omega)]; exact f6 j hj
  · rw [q_cp, if_pos (by omega)]; exact f3 j hj
  · rw [q_ci, if_pos (by omega)]; exact f4 j hj
  · rw [q_ci, if_pos (by omega)]; exact f5 j hj
end RL9
theorem REL.init : REL 0 (fun _ => 0) (fun _ => 0, 0) (-1) 0 (fun _ => 0) (fun _ => 0) (fun _ => 0) 0 (fun _ => 0) (fun _ => 0, 0) (-1) 0 (fun _ => 0) (fun _ => 0) (fun _ => 0) :=
  ⟨rfl, Nat.zero_le _, fun _ _ => rfl, ⟨rfl, Nat.zero_le _, fun k hk => absurd hk (Nat.not_lt_zero k), fun k hk => ⟨show (0 : Int32) = nI (0 : Int32).toNatClampNeg by decide +kernel, show (0 : Int32).toNatClampNeg < 256 by decide +kernel⟩⟩, rfl, rfl, Nat.zero_le _, fun _ _ => rfl, fun _ _ => rfl, fun _ _ => rfl⟩
section ZSL
variable {p : Program} {l : Launch} {e : Env} {R : Room} {s : State} {m : MethodId} {args : Array Value} {below : List Frame} {meth : Method} {c : Code} {H : Heap} {locs : List Loc} {cells slots : Nat} {Q : State → Prop}
variable {cc : ByteArray} {pc : Nat} {ls : Array Slot} {rest : List Value} {A : Nat → Prop} {H0 : Heap}
theorem zs_gt {a x y : Nat} (ha : a < 2 ^ 30) (hx' : x < 2 ^ 30) (hy : y < 2 ^ 30) (hx : p.tables.exec = Jvm.exec) (hb : c.code = cc) {off : Int} {tgt : Nat} (hdg : decode cc pc = .ok (.if_icmp .gt off, 3)) (ht : (pc : Int) + off = (tgt : Int))
    (kt : x < a + y → W p l e R s m args below meth c H locs cells slots Q (F0 m tgt ls rest)) (kf : a + y ≤ x → W p l e R s m args below meth c H locs cells slots Q (F0 m (pc + 3) ls rest)) : W p l e R s m args below meth c H locs cells slots Q (F0 m pc ls (.int (nI x - nI y) :: .int (nI a) :: rest)) := by
  have e : nI x - nI y < nI a ↔ x < a + y := by
    rw [Int32.lt_iff_toInt_lt, pk_sub_toInt hx' hy, nI_toInt (by omega)]
    omega
  exact lv_icmp_gt hx hb hdg ht (fun h => kt (e.mp h)) (fun h => kf (Nat.le_of_not_lt fun z => h (e.mpr z)))
theorem z_sld (hexec : p.tables.exec = Jvm.exec) (hb : c.code = cc) {b L : Nat} {xs : Nat → Int32} (hX : va_X b L xs s H0) (hbl : b < H0.size) (hbA : ¬ A b) (hS : va_S A H0 H locs) {i : Nat} (hi : i < L) (hL : L < 2 ^ 31) (hdg : decode cc pc = .ok (.iaload, 1))
    (kk : W p l e R s m args below meth c H locs cells slots Q (F0 m (pc + 1) ls (.int (xs i) :: rest))) : W p l e R s m args below meth c H locs cells slots Q (F0 m pc ls (.int (nI i) :: .ref b :: rest)) := by
  refine va_sld hexec hb hX hbl hbA hS (vp_in_nI hi hL) hdg ?_
  rw [nI_clamp (Nat.lt_trans hi hL)]
  exact kk
end ZSL
