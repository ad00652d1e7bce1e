/-! what the class's public methods answer, but write and read -/
def p_putC (rc : Nat) : Nat := if rc < 2000 then rc + 1 else rc
def p_putR (rq : Nat → Int64) (rc : Nat) (v : Int64) : Nat → Int64 := if rc < 2000 then vp_updL rq rc v else rq
def p_get (rq : Nat → Int64) (rc : Nat) (k : Int32) : Int64 := if p_has rc k = true then rq k.toNatClampNeg else 0
def p_byteAt (b : BB) (k : Int32) : Int32 := if p_has b.2 k = true then nI (gB b.1 k.toNatClampNeg) else (-1)
def p_setByte (b : BB) (k v : Int32) : Nat → Int64 := if p_has b.2 k = true then p_chg b.1 k.toNatClampNeg v else b.1
def p_cutB (us : Nat) (k : Int32) : Bool := decide (¬ k < 0 ∧ k ≤ nI us)
def p_cut (us : Nat) (k : Int32) : Nat := if p_cutB us k = true then k.toNatClampNeg else us
def p_least (bc : Nat) (le : Nat → Int64) (k : Int32) : Int64 := if p_has bc k = true then le k.toNatClampNeg else 0
def p_part (bc : Nat) (f : Nat → Int32) (k p : Int32) : Int32 := if p_hp bc k p = true then f (k.toNatClampNeg * 4 + p.toNatClampNeg) else (-1)
theorem p_cutB_of {us : Nat} {k : Int32} (hu : us < 2 ^ 31) (h : p_cutB us k = true) : ∃ j : Nat, j ≤ us ∧ k = nI j := by
  have h1 := of_decide_eq_true h
  obtain ⟨j, hj, rfl⟩ := nI_of h1.1
  exact ⟨j, (nI_leI hj hu).mp h1.2, rfl⟩
set_option maxHeartbeats 4000000 in
set_option maxRecDepth 100000 in
theorem c_Layout_hasBlock (l : Launch) (D : va_G) (cI cJ : ClassId) (h0 : Nat) (ql : Nat) (qi : Nat) (qs : Nat) (bc : Nat) (k : Int32) (hbc : bc < 1000000) : Ct l D (zT cI cJ) y_Layout_hasBlock b_Layout_hasBlock 2 (some .boolean) 0 0 0 0 [.ref h0, .int k] [(h0, .inr (1, [.int (nI bc), .ref ql, .ref qi, .ref qs]))] (zEq (some (.int (zb (p_has bc k)))) [(h0, .inr (1, [.int (nI bc), .ref ql, .ref qi, .ref qs]))]) := by
  refine Ct.ofW (by decide) (Nat.le_of_ble_eq_true rfl) ?_
  intro p e s m below meth c A ls C0 hP hD hS hl
  obtain ⟨hx, hb, hml, hown, hts, hK, hN, hr, hlocks, hA, hnm⟩ := C0
  have hl : lv_has ls 2 [(0, .ref h0), (1, .int k)] := hl
  have hown : s.vm.findClass R_Layout = some m.cls := hown
  refine lv_iload_n hx hb d_Layout_hasBlock_0 rfl (lv_at hl 1 rfl) ?_
  refine lv_if_lt (tgt := 16) hx hb d_Layout_hasBlock_1 (by decide) (fun c_1 => ?_) (fun c_1 => ?_)
  · skip
    refine lv_iconst (v := nI 0) hx hb d_Layout_hasBlock_16 (by decide +kernel) ?_
    exact z_bret hx hb hr hlocks (Or.inl rfl) hS hP hD ⟨zb_f (decide_eq_false (fun z => by first | exact z.1 c_1 | exact z.2 c_9 | (rw [c_1] at z; exact absurd z.1 (by decide)) | (rw [c_9] at z; exact absurd z.1 (by decide)))), rfl⟩ d_Layout_hasBlock_17
  · skip
    refine lv_iload_n hx hb d_Layout_hasBlock_4 rfl (lv_at hl 1 rfl) ?_
    refine lv_aload_n hx hb d_Layout_hasBlock_5 rfl (lv_at hl 0 rfl) ?_
    refine g_Layout_9 hx hb hts hown hK hP 0 rfl rfl d_Layout_hasBlock_6 ?_
    refine lv_icmp_ge (tgt := 16) hx hb d_Layout_hasBlock_9 (by decide) (fun c_9 => ?_) (fun c_9 => ?_)
    · skip
      refine lv_iconst (v := nI 0) hx hb d_Layout_hasBlock_16 (by decide +kernel) ?_
      exact z_bret hx hb hr hlocks (Or.inl rfl) hS hP hD ⟨zb_f (decide_eq_false (fun z => by first | exact z.1 c_1 | exact z.2 c_9 | (rw [c_1] at z; exact absurd z.1 (by decide)) | (rw [c_9] at z; exact absurd z.1 (by decide)))), rfl⟩ d_Layout_hasBlock_17
    · skip
      refine lv_iconst (v := nI 1) hx hb d_Layout_hasBlock_12 (by decide +kernel) ?_
      refine lv_goto (tgt := 17) hx hb d_Layout_hasBlock_13 (by decide) ?_
      exact z_bret hx hb hr hlocks (Or.inr rfl) hS hP hD ⟨zb_t (decide_eq_true ⟨c_1, c_9⟩), rfl⟩ d_Layout_hasBlock_17

set_option maxHeartbeats 4000000 in
set_option maxRecDepth 100000 in
theorem c_Layout_hasPart (l : Launch) (D : va_G) (cI cJ : ClassId) (h0 : Nat) (ql : Nat) (qi : Nat) (qs : Nat) (bc : Nat) (k : Int32) (pp : Int32) (hbc : bc < 1000000) : Ct l D (zT cI cJ) y_Layout_hasPart b_Layout_hasPart 3 (some .boolean) 1 21 0 0 [.ref h0, .int k, .int pp] [(h0, .inr (1, [.int (nI bc), .ref ql, .ref qi, .ref qs]))] (zEq (some (.int (zb (p_hp bc k pp)))) [(h0, .inr (1, [.int (nI bc), .ref ql, .ref qi, .ref qs]))]) := by
  refine Ct.ofW (by decide) (Nat.le_of_ble_eq_true rfl) ?_
  intro p e s m below meth c A ls C0 hP hD hS hl
  obtain ⟨hx, hb, hml, hown, hts, hK, hN, hr, hlocks, hA, hnm⟩ := C0
  have hl : lv_has ls 3 [(0, .ref h0), (1, .int k), (2, .int pp)] := hl
  have hown : s.vm.findClass R_Layout = some m.cls := hown
  refine lv_aload_n hx hb d_Layout_hasPart_0 rfl (lv_at hl 0 rfl) ?_
  refine lv_iload_n hx hb d_Layout_hasPart_1 rfl (lv_at hl 1 rfl) ?_
  refine z_callEi (wr := []) (w2 := [(h0, .inr (1, [.int (nI bc), .ref ql, .ref qi, .ref qs]))]) (z_runV (rest := []) hx hb hml hown hts hK hN (c_Layout_hasBlock l D cI cJ h0 ql qi qs bc k (by (try dsimp only); omega)) kk_Layout_26 (zP.cut hP [0] rfl) (hD.sub [0] (by decide) rfl) 0 rfl rfl rfl hl.1 rfl (Nat.le_of_ble_eq_true rfl) d_Layout_hasPart_2 (by decide) (by decide)) hP hD hS hA [0] [] [0] rfl rfl (by decide) (by decide) (by decide) rfl (fun H locs hP hD hS => ?_)
  refine zb_eq (tgt := 21) hx hb d_Layout_hasPart_5 (by decide) (fun c_5 => ?_) (fun c_5 => ?_)
  · skip
    refine lv_iconst (v := nI 0) hx hb d_Layout_hasPart_21 (by decide +kernel) ?_
    exact z_bret hx hb hr hlocks (Or.inl rfl) hS hP hD ⟨zb_f (decide_eq_false (fun z => by first | exact z.1 c_5 | exact z.2.1 c_9 | exact z.2.2 c_14 | (rw [c_5] at z; exact absurd z.1 (by decide)) | (rw [c_9] at z; exact absurd z.1 (by decide)) | (rw [c_14] at z; exact absurd z.1 (by decide)))), rfl⟩ d_Layout_hasPart_22
  · skip
    refine lv_iload_n hx hb d_Layout_hasPart_8 rfl (lv_at hl 2 rfl) ?_
    refine lv_if_lt (tgt := 21) hx hb d_Layout_hasPart_9 (by decide) (fun c_9 => ?_) (fun c_9 => ?_)
    · skip
      refine lv_iconst (v := nI 0) hx hb d_Layout_hasPart_21 (by decide +kernel) ?_
      exact z_bret hx hb hr hlocks (Or.inl rfl) hS hP hD ⟨zb_f (decide_eq_false (fun z => by first | exact z.1 c_5 | exact z.2.1 c_9 | exact z.2.2 c_14 | (rw [c_5] at z; exact absurd z.1 (by decide)) | (rw [c_9] at z; exact absurd z.1 (by decide)) | (rw [c_14] at z; exact absurd z.1 (by decide)))), rfl⟩ d_Layout_hasPart_22
    · skip
      refine lv_iload_n hx hb d_Layout_hasPart_12 rfl (lv_at hl 2 rfl) ?_
      refine lv_iconst (v := nI 4) hx hb d_Layout_hasPart_13 (by decide +kernel) ?_
      refine lv_icmp_ge (tgt := 21) hx hb d_Layout_hasPart_14 (by decide) (fun c_14 => ?_) (fun c_14 => ?_)
      · skip
        refine lv_iconst (v := nI 0) hx hb d_Layout_hasPart_21 (by decide +kernel) ?_
        exact z_bret hx hb hr hlocks (Or.inl rfl) hS hP hD ⟨zb_f (decide_eq_false (fun z => by first | exact z.1 c_5 | exact z.2.1 c_9 | exact z.2.2 c_14 | (rw [c_5] at z; exact absurd z.1 (by decide)) | (rw [c_9] at z; exact absurd z.1 (by decide)) | (rw [c_14] at z; exact absurd z.1 (by decide)))), rfl⟩ d_Layout_hasPart_22
      · skip
        refine lv_iconst (v := nI 1) hx hb d_Layout_hasPart_17 (by decide +kernel) ?_
        refine lv_goto (tgt := 22) hx hb d_Layout_hasPart_18 (by decide) ?_
        exact z_bret hx hb hr hlocks (Or.inr rfl) hS hP hD ⟨zb_t (decide_eq_true ⟨c_5, c_9, c_14⟩), rfl⟩ d_Layout_hasPart_22

set_option maxHeartbeats 4000000 in
set_option maxRecDepth 100000 in
theorem c_DeltaRows_blocksFor (l : Launch) (D : va_G) (cI cJ : ClassId) (t : Nat) (ht : t ≤ 2000) : Ct l D (zT cI cJ) y_DeltaRows_blocksFor b_DeltaRows_blocksFor 1 (some .int) 0 0 0 0 [.int (nI t)] [] (zEq (some (.int (nI (p_bf t)))) []) := by
  refine Ct.ofW (by decide) (Nat.le_of_ble_eq_true rfl) ?_
  intro p e s m below meth c A ls C0 hP hD hS hl
  obtain ⟨hx, hb, hml, hown, hts, hK, hN, hr, hlocks, hA, hnm⟩ := C0
  have hl : lv_has ls 1 [(0, .int (nI t))] := hl
  have hown : s.vm.findClass R_DeltaRows = some m.cls := hown
  refine lv_iload_n hx hb d_DeltaRows_blocksFor_0 rfl (lv_at hl 0 rfl) ?_
  refine lv_iconst (v := nI 1) hx hb d_DeltaRows_blocksFor_1 (by decide +kernel) ?_
  refine zn_le (a := t) (b := 1) (by omega) (by omega) hx hb d_DeltaRows_blocksFor_2 (tgt := 19) (by decide) (fun c_2 => ?_) (fun c_2 => ?_)
  · skip
    refine lv_iconst (v := nI 0) hx hb d_DeltaRows_blocksFor_19 (by decide +kernel) ?_
    exact z_iret hx hb hr hlocks hS hP hD ⟨by unfold p_bf; first | rw [if_pos c_2] | rw [if_neg (Nat.not_lt.mpr c_2)], rfl⟩ d_DeltaRows_blocksFor_20
  · skip
    refine lv_iload_n hx hb d_DeltaRows_blocksFor_5 rfl (lv_at hl 0 rfl) ?_
    refine lv_iconst (v := nI 1) hx hb d_DeltaRows_blocksFor_6 (by decide +kernel) ?_
    refine lv_isub hx hb d_DeltaRows_blocksFor_7 (z_i (pk_sub (a := t) (b := 1) (by omega)) ?_)
    refine lv_bipush (v := nI 64) hx hb d_DeltaRows_blocksFor_8 (by decide +kernel) ?_
    refine lv_iadd hx hb d_DeltaRows_blocksFor_10 (z_i (nI_add (t - 1) 64) ?_)
    refine lv_iconst (v := nI 1) hx hb d_DeltaRows_blocksFor_11 (by decide +kernel) ?_
    refine lv_isub hx hb d_DeltaRows_blocksFor_12 (z_i (pk_sub (a := t - 1 + 64) (b := 1) (by omega)) ?_)
    refine lv_bipush (v := nI 64) hx hb d_DeltaRows_blocksFor_13 (by decide +kernel) ?_
    refine lv_idiv hx hb d_DeltaRows_blocksFor_15 (nI_ne0 (by omega) (by omega)) (z_i (pk_div (a := (t - 1 + 64) - 1) (d := 64) (by omega) (by omega) (by omega)) ?_)
    refine lv_goto (tgt := 20) hx hb d_DeltaRows_blocksFor_16 (by decide) ?_
    exact z_iret hx hb hr hlocks hS hP hD ⟨by unfold p_bf; first | rw [if_pos c_2] | rw [if_neg (Nat.not_lt.mpr c_2)], rfl⟩ d_DeltaRows_blocksFor_20

set_option maxHeartbeats 4000000 in
set_option maxRecDepth 100000 in
theorem c_DeltaRows_partEdge (l : Launch) (D : va_G) (cI cJ : ClassId) (k : Nat) (pp : Nat) (t : Nat) (hk : k ≤ 1000) (hp : pp ≤ 1000) (ht : t ≤ 2000) : Ct l D (zT cI cJ) y_DeltaRows_partEdge b_DeltaRows_partEdge 3 (some .int) 1 23 0 0 [.int (nI k), .int (nI pp), .int (nI t)] [] (zEq (some (.int (nI (p_pe k pp t)))) []) := by
  refine Ct.ofW (by decide) (Nat.le_of_ble_eq_true rfl) ?_
  intro p e s m below meth c A ls C0 hP hD hS hl
  obtain ⟨hx, hb, hml, hown, hts, hK, hN, hr, hlocks, hA, hnm⟩ := C0
  have hl : lv_has ls 3 [(0, .int (nI k)), (1, .int (nI pp)), (2, .int (nI t))] := hl
  have hown : s.vm.findClass R_DeltaRows = some m.cls := hown
  refine lv_iconst (v := nI 1) hx hb d_DeltaRows_partEdge_0 (by decide +kernel) ?_
  refine lv_iload_n hx hb d_DeltaRows_partEdge_1 rfl (lv_at hl 0 rfl) ?_
  refine lv_bipush (v := nI 64) hx hb d_DeltaRows_partEdge_2 (by decide +kernel) ?_
  refine lv_imul hx hb d_DeltaRows_partEdge_4 (z_i (pk_mul k 64) ?_)
  refine lv_iadd hx hb d_DeltaRows_partEdge_5 (z_i (nI_add 1 (k * 64)) ?_)
  refine lv_iload_n hx hb d_DeltaRows_partEdge_6 rfl (lv_at hl 1 rfl) ?_
  refine lv_bipush (v := nI 16) hx hb d_DeltaRows_partEdge_7 (by decide +kernel) ?_
  refine lv_imul hx hb d_DeltaRows_partEdge_9 (z_i (pk_mul pp 16) ?_)
  refine lv_iadd hx hb d_DeltaRows_partEdge_10 (z_i (nI_add (1 + k * 64) (pp * 16)) ?_)
  refine lv_iload_n hx hb d_DeltaRows_partEdge_11 rfl (lv_at hl 2 rfl) ?_
  refine va_mmin hx hb (by rw [hml]; exact hl.1.symm) hown (kw_DeltaRows_160 hts) (km_minI_1 hts) (km_0 hts) (km_minI_2 hts) (by decide) (Nat.le_of_ble_eq_true rfl) (by decide) (by decide) d_DeltaRows_partEdge_12 ?_
  refine z_i (zmin (a := 1 + k * 64 + pp * 16) (b := t) (by omega) (by omega)) ?_
  exact z_iret hx hb hr hlocks hS hP hD ⟨rfl, rfl⟩ d_DeltaRows_partEdge_15

set_option maxHeartbeats 4000000 in
set_option maxRecDepth 100000 in
theorem c_DeltaRows_partBytes (l : Launch) (D : va_G) (cI cJ : ClassId) (w : Nat) (hw1 : w ≤ 1000) : Ct l D (zT cI cJ) y_DeltaRows_partBytes b_DeltaRows_partBytes 1 (some .int) 0 0 0 0 [.int (nI w)] [] (zEq (some (.int (nI (w * 16 / 8)))) []) := by
  refine Ct.ofW (by decide) (Nat.le_of_ble_eq_true rfl) ?_
  intro p e s m below meth c A ls C0 hP hD hS hl
  obtain ⟨hx, hb, hml, hown, hts, hK, hN, hr, hlocks, hA, hnm⟩ := C0
  have hl : lv_has ls 1 [(0, .int (nI w))] := hl
  have hown : s.vm.findClass R_DeltaRows = some m.cls := hown
  refine lv_iload_n hx hb d_DeltaRows_partBytes_0 rfl (lv_at hl 0 rfl) ?_
  refine lv_bipush (v := nI 16) hx hb d_DeltaRows_partBytes_1 (by decide +kernel) ?_
  refine lv_imul hx hb d_DeltaRows_partBytes_3 (z_i (pk_mul w 16) ?_)
  refine lv_bipush (v := nI 8) hx hb d_DeltaRows_partBytes_4 (by decide +kernel) ?_
  refine lv_idiv hx hb d_DeltaRows_partBytes_6 (nI_ne0 (by omega) (by omega)) (z_i (pk_div (a := w * 16) (d := 8) (by omega) (by omega) (by omega)) ?_)
  exact z_iret hx hb hr hlocks hS hP hD ⟨rfl, rfl⟩ d_DeltaRows_partBytes_7

set_option maxHeartbeats 4000000 in
set_option maxRecDepth 100000 in
theorem c_DeltaRows_zigzag (l : Launch) (D : va_G) (cI cJ : ClassId) (v : Int64)  : Ct l D (zT cI cJ) y_DeltaRows_zigzag b_DeltaRows_zigzag 2 (some .long) 0 0 0 0 [.long v] [] (zEq (some (.long (p_zig v))) []) := by
  refine Ct.ofW (by decide) (Nat.le_of_ble_eq_true rfl) ?_
  intro p e s m below meth c A ls C0 hP hD hS hl
  obtain ⟨hx, hb, hml, hown, hts, hK, hN, hr, hlocks, hA, hnm⟩ := C0
  have hl : lv_has ls 2 [(0, .long v)] := hl
  have hown : s.vm.findClass R_DeltaRows = some m.cls := hown
  refine lv_lload_n hx hb d_DeltaRows_zigzag_0 rfl (lv_at hl 0 rfl) ?_
  refine lv_iconst (v := nI 1) hx hb d_DeltaRows_zigzag_1 (by decide +kernel) ?_
  refine lv_lshl (v := zshl v (nI 1)) hx hb d_DeltaRows_zigzag_2 rfl ?_
  refine lv_lload_n hx hb d_DeltaRows_zigzag_3 rfl (lv_at hl 0 rfl) ?_
  refine lv_bipush (v := nI 63) hx hb d_DeltaRows_zigzag_4 (by decide +kernel) ?_
  refine lv_lshr (v := zshr v (nI 63)) hx hb d_DeltaRows_zigzag_6 rfl ?_
  refine lv_lxor hx hb d_DeltaRows_zigzag_7 ?_
  exact z_lret hx hb hr hlocks hS hP hD ⟨rfl, rfl⟩ d_DeltaRows_zigzag_8

set_option maxHeartbeats 4000000 in
set_option maxRecDepth 100000 in
theorem c_DeltaRows_unzigzag (l : Launch) (D : va_G) (cI cJ : ClassId) (v : Int64)  : Ct l D (zT cI cJ) y_DeltaRows_unzigzag b_DeltaRows_unzigzag 2 (some .long) 0 0 0 0 [.long v] [] (zEq (some (.long (p_unzig v))) []) := by
  refine Ct.ofW (by decide) (Nat.le_of_ble_eq_true rfl) ?_
  intro p e s m below meth c A ls C0 hP hD hS hl
  obtain ⟨hx, hb, hml, hown, hts, hK, hN, hr, hlocks, hA, hnm⟩ := C0
  have hl : lv_has ls 2 [(0, .long v)] := hl
  have hown : s.vm.findClass R_DeltaRows = some m.cls := hown
  refine lv_lload_n hx hb d_DeltaRows_unzigzag_0 rfl (lv_at hl 0 rfl) ?_
  refine lv_iconst (v := nI 1) hx hb d_DeltaRows_unzigzag_1 (by decide +kernel) ?_
  refine lv_lushr (v := zushr v (nI 1)) hx hb d_DeltaRows_unzigzag_2 rfl ?_
  refine lv_lload_n hx hb d_DeltaRows_unzigzag_3 rfl (lv_at hl 0 rfl) ?_
  refine lv_lconst (v := 1) hx hb d_DeltaRows_unzigzag_4 (by decide +kernel) ?_
  refine lv_land hx hb d_DeltaRows_unzigzag_5 ?_
  refine lv_lneg hx hb d_DeltaRows_unzigzag_6 ?_
  refine lv_lxor hx hb d_DeltaRows_unzigzag_7 ?_
  exact z_lret hx hb hr hlocks hS hP hD ⟨rfl, rfl⟩ d_DeltaRows_unzigzag_8

set_option maxHeartbeats 4000000 in
set_option maxRecDepth 100000 in
theorem c_DeltaRows_put (l : Launch) (D : va_G) (cI cJ : ClassId) (o : Nat) (ro : Nat) (bo : Nat) (so : Nat) (la : Nat) (lb : Nat) (rc : Nat) (rq : Nat → Int64) (v : Int64) (hrc : rc ≤ 2000) : Ct l D (zT cI cJ) y_DeltaRows_put b_DeltaRows_put 3 (some .boolean) 0 0 0 0 [.ref o, .long v] [(o, .inr (3, [.ref ro, .int (nI rc), .ref bo, .ref so, .ref la, .ref lb])), (ro, .inl (cJ, 2000, .inr (.inl rq)))] (zEq (some (.int (zb (decide (rc < 2000))))) [(o, .inr (3, [.ref ro, .int (nI (p_putC rc)), .ref bo, .ref so, .ref la, .ref lb])), (ro, .inl (cJ, 2000, .inr (.inl (p_putR rq rc v))))]) := by
  refine Ct.ofW (by decide) (Nat.le_of_ble_eq_true rfl) ?_
  intro p e s m below meth c A ls C0 hP hD hS hl
  obtain ⟨hx, hb, hml, hown, hts, hK, hN, hr, hlocks, hA, hnm⟩ := C0
  have hl : lv_has ls 3 [(0, .ref o), (1, .long v)] := hl
  have hown : s.vm.findClass R_DeltaRows = some m.cls := hown
  refine lv_aload_n hx hb d_DeltaRows_put_0 rfl (lv_at hl 0 rfl) ?_
  refine g_DeltaRows_13 hx hb hts hown hK hP 0 rfl rfl d_DeltaRows_put_1 ?_
  refine lv_sipush (v := nI 2000) hx hb d_DeltaRows_put_4 (by decide +kernel) ?_
  refine zn_lt (a := rc) (b := 2000) (by omega) (by omega) hx hb d_DeltaRows_put_7 (tgt := 12) (by decide) (fun c_7 => ?_) (fun c_7 => ?_)
  · skip
    refine lv_aload_n hx hb d_DeltaRows_put_12 rfl (lv_at hl 0 rfl) ?_
    refine g_DeltaRows_9 hx hb hts hown hK hP 0 rfl rfl d_DeltaRows_put_13 ?_
    refine lv_aload_n hx hb d_DeltaRows_put_16 rfl (lv_at hl 0 rfl) ?_
    refine g_DeltaRows_13 hx hb hts hown hK hP 0 rfl rfl d_DeltaRows_put_17 ?_
    refine lv_lload_n hx hb d_DeltaRows_put_20 rfl (lv_at hl 1 rfl) ?_
    refine z_last (w2 := [(o, .inr (3, [.ref ro, .int (nI rc), .ref bo, .ref so, .ref la, .ref lb])), (ro, .inl (cJ, 2000, .inr (.inl (vp_updL rq rc v))))]) hx hb hK hP hD hS 1 1 rfl rfl (by omega) (by decide) d_DeltaRows_put_21 rfl (fun H locs hP hD hS => ?_)
    refine lv_aload_n hx hb d_DeltaRows_put_22 rfl (lv_at hl 0 rfl) ?_
    refine lv_dup hx hb d_DeltaRows_put_23 rfl ?_
    refine g_DeltaRows_13 hx hb hts hown hK hP 0 rfl rfl d_DeltaRows_put_24 ?_
    refine lv_iconst (v := nI 1) hx hb d_DeltaRows_put_27 (by decide +kernel) ?_
    refine lv_iadd hx hb d_DeltaRows_put_28 (z_i (nI_add rc 1) ?_)
    refine p_DeltaRows_13 (w2 := [(o, .inr (3, [.ref ro, .int (nI (rc + 1)), .ref bo, .ref so, .ref la, .ref lb])), (ro, .inl (cJ, 2000, .inr (.inl (vp_updL rq rc v))))]) hx hb hts hown hK hP hD hS 0 rfl (Nat.le_of_ble_eq_true rfl) rfl d_DeltaRows_put_29 (fun H locs hP hD hS => ?_)
    refine lv_iconst (v := nI 1) hx hb d_DeltaRows_put_32 (by decide +kernel) ?_
    exact z_bret hx hb hr hlocks (Or.inr rfl) hS hP hD ⟨zb_t (decide_eq_true c_7), by unfold p_putC p_putR; rw [if_pos c_7, if_pos c_7]⟩ d_DeltaRows_put_33
  · skip
    refine lv_iconst (v := nI 0) hx hb d_DeltaRows_put_10 (by decide +kernel) ?_
    exact z_bret hx hb hr hlocks (Or.inl rfl) hS hP hD ⟨zb_f (decide_eq_false (by omega)), by unfold p_putC p_putR; rw [if_neg (by omega), if_neg (by omega)]⟩ d_DeltaRows_put_11

set_option maxHeartbeats 4000000 in
set_option maxRecDepth 100000 in
theorem c_DeltaRows_clear (l : Launch) (D : va_G) (cI cJ : ClassId) (o : Nat) (ro : Nat) (bo : Nat) (so : Nat) (la : Nat) (lb : Nat) (rc : Nat)  : Ct l D (zT cI cJ) y_DeltaRows_clear b_DeltaRows_clear 1 none 0 0 0 0 [.ref o] [(o, .inr (3, [.ref ro, .int (nI rc), .ref bo, .ref so, .ref la, .ref lb]))] (zEq none [(o, .inr (3, [.ref ro, .int (nI 0), .ref bo, .ref so, .ref la, .ref lb]))]) := by
  refine Ct.ofW (by decide) (Nat.le_of_ble_eq_true rfl) ?_
  intro p e s m below meth c A ls C0 hP hD hS hl
  obtain ⟨hx, hb, hml, hown, hts, hK, hN, hr, hlocks, hA, hnm⟩ := C0
  have hl : lv_has ls 1 [(0, .ref o)] := hl
  have hown : s.vm.findClass R_DeltaRows = some m.cls := hown
  refine lv_aload_n hx hb d_DeltaRows_clear_0 rfl (lv_at hl 0 rfl) ?_
  refine lv_iconst (v := nI 0) hx hb d_DeltaRows_clear_1 (by decide +kernel) ?_
  refine p_DeltaRows_13 (w2 := [(o, .inr (3, [.ref ro, .int (nI 0), .ref bo, .ref so, .ref la, .ref lb]))]) hx hb hts hown hK hP hD hS 0 rfl (Nat.le_of_ble_eq_true rfl) rfl d_DeltaRows_clear_2 (fun H locs hP hD hS => ?_)
  exact z_vret hx hb hr hlocks hS hP hD ⟨rfl, rfl⟩ d_DeltaRows_clear_5

set_option maxHeartbeats 4000000 in
set_option maxRecDepth 100000 in
theorem c_DeltaRows_count (l : Launch) (D : va_G) (cI cJ : ClassId) (o : Nat) (ro : Nat) (bo : Nat) (so : Nat) (la : Nat) (lb : Nat) (rc : Nat)  : Ct l D (zT cI cJ) y_DeltaRows_count b_DeltaRows_count 1 (some .int) 0 0 0 0 [.ref o] [(o, .inr (3, [.ref ro, .int (nI rc), .ref bo, .ref so, .ref la, .ref lb]))] (zEq (some (.int (nI rc))) [(o, .inr (3, [.ref ro, .int (nI rc), .ref bo, .ref so, .ref la, .ref lb]))]) := by
  refine Ct.ofW (by decide) (Nat.le_of_ble_eq_true rfl) ?_
  intro p e s m below meth c A ls C0 hP hD hS hl
  obtain ⟨hx, hb, hml, hown, hts, hK, hN, hr, hlocks, hA, hnm⟩ := C0
  have hl : lv_has ls 1 [(0, .ref o)] := hl
  have hown : s.vm.findClass R_DeltaRows = some m.cls := hown
  refine lv_aload_n hx hb d_DeltaRows_count_0 rfl (lv_at hl 0 rfl) ?_
  refine g_DeltaRows_13 hx hb hts hown hK hP 0 rfl rfl d_DeltaRows_count_1 ?_
  exact z_iret hx hb hr hlocks hS hP hD ⟨rfl, rfl⟩ d_DeltaRows_count_4

set_option maxHeartbeats 4000000 in
set_option maxRecDepth 100000 in
theorem c_DeltaRows_get (l : Launch) (D : va_G) (cI cJ : ClassId) (o : Nat) (ro : Nat) (bo : Nat) (so : Nat) (la : Nat) (lb : Nat) (rc : Nat) (rq : Nat → Int64) (k : Int32) (hrc : rc ≤ 2000) : Ct l D (zT cI cJ) y_DeltaRows_get b_DeltaRows_get 2 (some .long) 0 0 0 0 [.ref o, .int k] [(o, .inr (3, [.ref ro, .int (nI rc), .ref bo, .ref so, .ref la, .ref lb])), (ro, .inl (cJ, 2000, .inr (.inl rq)))] (zEq (some (.long (p_get rq rc k))) [(o, .inr (3, [.ref ro, .int (nI rc), .ref bo, .ref so, .ref la, .ref lb])), (ro, .inl (cJ, 2000, .inr (.inl rq)))]) := by
  refine Ct.ofW (by decide) (Nat.le_of_ble_eq_true rfl) ?_
  intro p e s m below meth c A ls C0 hP hD hS hl
  obtain ⟨hx, hb, hml, hown, hts, hK, hN, hr, hlocks, hA, hnm⟩ := C0
  have hl : lv_has ls 2 [(0, .ref o), (1, .int k)] := hl
  have hown : s.vm.findClass R_DeltaRows = some m.cls := hown
  refine lv_iload_n hx hb d_DeltaRows_get_0 rfl (lv_at hl 1 rfl) ?_
  refine lv_if_lt (tgt := 21) hx hb d_DeltaRows_get_1 (by decide) (fun c_1 => ?_) (fun c_1 => ?_)
  · skip
    refine lv_lconst (v := 0) hx hb d_DeltaRows_get_21 (by decide +kernel) ?_
    exact z_lret hx hb hr hlocks hS hP hD ⟨by unfold p_get; first | rw [if_pos (show p_has rc (nI j) = true from decide_eq_true ⟨c_1, c_9⟩), nI_clamp (by omega)] | rw [if_neg (fun z => by first | exact (of_decide_eq_true z).1 c_1 | exact (of_decide_eq_true z).2 c_9)], rfl⟩ d_DeltaRows_get_22
  · skip
    refine lv_iload_n hx hb d_DeltaRows_get_4 rfl (lv_at hl 1 rfl) ?_
    refine lv_aload_n hx hb d_DeltaRows_get_5 rfl (lv_at hl 0 rfl) ?_
    refine g_DeltaRows_13 hx hb hts hown hK hP 0 rfl rfl d_DeltaRows_get_6 ?_
    refine lv_icmp_ge (tgt := 21) hx hb d_DeltaRows_get_9 (by decide) (fun c_9 => ?_) (fun c_9 => ?_)
    · skip
      refine lv_lconst (v := 0) hx hb d_DeltaRows_get_21 (by decide +kernel) ?_
      exact z_lret hx hb hr hlocks hS hP hD ⟨by unfold p_get; first | rw [if_pos (show p_has rc (nI j) = true from decide_eq_true ⟨c_1, c_9⟩), nI_clamp (by omega)] | rw [if_neg (fun z => by first | exact (of_decide_eq_true z).1 c_1 | exact (of_decide_eq_true z).2 c_9)], rfl⟩ d_DeltaRows_get_22
    · skip
      obtain ⟨j, hj, rfl⟩ := p_has_of (us := rc) (by omega) (decide_eq_true ⟨c_1, c_9⟩)
      refine lv_aload_n hx hb d_DeltaRows_get_12 rfl (lv_at hl 0 rfl) ?_
      refine g_DeltaRows_9 hx hb hts hown hK hP 0 rfl rfl d_DeltaRows_get_13 ?_
      refine lv_iload_n hx hb d_DeltaRows_get_16 rfl (lv_at hl 1 rfl) ?_
      refine z_lald hx hb hK hP 1 1 rfl rfl (by omega) (by decide) d_DeltaRows_get_17 ?_
      refine lv_goto (tgt := 22) hx hb d_DeltaRows_get_18 (by decide) ?_
      exact z_lret hx hb hr hlocks hS hP hD ⟨by unfold p_get; first | rw [if_pos (show p_has rc (nI j) = true from decide_eq_true ⟨c_1, c_9⟩), nI_clamp (by omega)] | rw [if_neg (fun z => by first | exact (of_decide_eq_true z).1 c_1 | exact (of_decide_eq_true z).2 c_9)], rfl⟩ d_DeltaRows_get_22

set_option maxHeartbeats 4000000 in
set_option maxRecDepth 100000 in
theorem c_DeltaRows_place (l : Launch) (D : va_G) (cI cJ : ClassId) (o : Nat) (ro : Nat) (bo : Nat) (so : Nat) (la : Nat) (lb : Nat) (rc : Nat) (at_ : Nat) (fa : Nat) (pl : Int32) (to : Nat) (fi : Int64)  : Ct l D (zT cI cJ) y_DeltaRows_place b_DeltaRows_place 1 (some .int) 0 0 0 0 [.ref o] [(o, .inr (3, [.ref ro, .int (nI rc), .ref bo, .ref so, .ref la, .ref lb])), (so, .inr (2, [.ref bo, .int (nI at_), .int (nI fa), .int pl, .int (nI to), .long fi]))] (zEq (some (.int pl)) [(o, .inr (3, [.ref ro, .int (nI rc), .ref bo, .ref so, .ref la, .ref lb])), (so, .inr (2, [.ref bo, .int (nI at_), .int (nI fa), .int pl, .int (nI to), .long fi]))]) := by
  refine Ct.ofW (by decide) (Nat.le_of_ble_eq_true rfl) ?_
  intro p e s m below meth c A ls C0 hP hD hS hl
  obtain ⟨hx, hb, hml, hown, hts, hK, hN, hr, hlocks, hA, hnm⟩ := C0
  have hl : lv_has ls 1 [(0, .ref o)] := hl
  have hown : s.vm.findClass R_DeltaRows = some m.cls := hown
  refine lv_aload_n hx hb d_DeltaRows_place_0 rfl (lv_at hl 0 rfl) ?_
  refine g_DeltaRows_29 hx hb hts hown hK hP 0 rfl rfl d_DeltaRows_place_1 ?_
  refine g_DeltaRows_78 hx hb hts hown hK hP 1 rfl rfl d_DeltaRows_place_4 ?_
  exact z_iret hx hb hr hlocks hS hP hD ⟨rfl, rfl⟩ d_DeltaRows_place_7

set_option maxHeartbeats 4000000 in
set_option maxRecDepth 100000 in
theorem c_DeltaRows_size (l : Launch) (D : va_G) (cI cJ : ClassId) (o : Nat) (ro : Nat) (bo : Nat) (so : Nat) (la : Nat) (lb : Nat) (rc : Nat) (hw : Nat) (us : Nat)  : Ct l D (zT cI cJ) y_DeltaRows_size b_DeltaRows_size 1 (some .int) 0 0 0 0 [.ref o] [(o, .inr (3, [.ref ro, .int (nI rc), .ref bo, .ref so, .ref la, .ref lb])), (bo, .inr (0, [.ref hw, .int (nI us)]))] (zEq (some (.int (nI us))) [(o, .inr (3, [.ref ro, .int (nI rc), .ref bo, .ref so, .ref la, .ref lb])), (bo, .inr (0, [.ref hw, .int (nI us)]))]) := by
  refine Ct.ofW (by decide) (Nat.le_of_ble_eq_true rfl) ?_
  intro p e s m below meth c A ls C0 hP hD hS hl
  obtain ⟨hx, hb, hml, hown, hts, hK, hN, hr, hlocks, hA, hnm⟩ := C0
  have hl : lv_has ls 1 [(0, .ref o)] := hl
  have hown : s.vm.findClass R_DeltaRows = some m.cls := hown
  refine lv_aload_n hx hb d_DeltaRows_size_0 rfl (lv_at hl 0 rfl) ?_
  refine g_DeltaRows_20 hx hb hts hown hK hP 0 rfl rfl d_DeltaRows_size_1 ?_
  refine g_DeltaRows_65 hx hb hts hown hK hP 1 rfl rfl d_DeltaRows_size_4 ?_
  exact z_iret hx hb hr hlocks hS hP hD ⟨rfl, rfl⟩ d_DeltaRows_size_7

set_option maxHeartbeats 4000000 in
set_option maxRecDepth 100000 in
theorem c_DeltaRows_byteAt (l : Launch) (D : va_G) (cI cJ : ClassId) (o : Nat) (ro : Nat) (bo : Nat) (so : Nat) (la : Nat) (lb : Nat) (rc : Nat) (hw : Nat) (b : BB) (k : Int32) (hu : b.2 ≤ 20000) : Ct l D (zT cI cJ) y_DeltaRows_byteAt b_DeltaRows_byteAt 2 (some .int) 3 69 0 0 [.ref o, .int k] [(o, .inr (3, [.ref ro, .int (nI rc), .ref bo, .ref so, .ref la, .ref lb])), (bo, .inr (0, [.ref hw, .int (nI b.2)])), (hw, .inl (cJ, 2500, .inr (.inl b.1)))] (zEq (some (.int (p_byteAt b k))) [(o, .inr (3, [.ref ro, .int (nI rc), .ref bo, .ref so, .ref la, .ref lb])), (bo, .inr (0, [.ref hw, .int (nI b.2)])), (hw, .inl (cJ, 2500, .inr (.inl b.1)))]) := by
  refine Ct.ofW (by decide) (Nat.le_of_ble_eq_true rfl) ?_
  intro p e s m below meth c A ls C0 hP hD hS hl
  obtain ⟨hx, hb, hml, hown, hts, hK, hN, hr, hlocks, hA, hnm⟩ := C0
  have hl : lv_has ls 2 [(0, .ref o), (1, .int k)] := hl
  have hown : s.vm.findClass R_DeltaRows = some m.cls := hown
  refine lv_aload_n hx hb d_DeltaRows_byteAt_0 rfl (lv_at hl 0 rfl) ?_
  refine g_DeltaRows_20 hx hb hts hown hK hP 0 rfl rfl d_DeltaRows_byteAt_1 ?_
  refine lv_iload_n hx hb d_DeltaRows_byteAt_4 rfl (lv_at hl 1 rfl) ?_
  refine z_callEi (wr := [(o, .inr (3, [.ref ro, .int (nI rc), .ref bo, .ref so, .ref la, .ref lb])), (hw, .inl (cJ, 2500, .inr (.inl b.1)))]) (w2 := [(o, .inr (3, [.ref ro, .int (nI rc), .ref bo, .ref so, .ref la, .ref lb])), (bo, .inr (0, [.ref hw, .int (nI b.2)])), (hw, .inl (cJ, 2500, .inr (.inl b.1)))]) (z_runV (rest := []) hx hb hml hown hts hK hN (c_ByteRow_has l D cI cJ bo hw b.2 k (by (try dsimp only); omega)) kk_DeltaRows_81 (zP.cut hP [1] rfl) (hD.sub [1] (by decide) rfl) 0 rfl rfl rfl hl.1 rfl (Nat.le_of_ble_eq_true rfl) d_DeltaRows_byteAt_5 (by decide) (by decide)) hP hD hS hA [1] [0, 2] [0, 2, 1] rfl rfl (by decide) (by decide) (by decide) rfl (fun H locs hP hD hS => ?_)
  refine zb_eq (tgt := 22) hx hb d_DeltaRows_byteAt_8 (by decide) (fun c_8 => ?_) (fun c_8 => ?_)
  · skip
    refine lv_iconst (v := (-1)) hx hb d_DeltaRows_byteAt_22 (by decide +kernel) ?_
    exact z_iret hx hb hr hlocks hS hP hD ⟨by unfold p_byteAt; first | rw [if_pos c_8, nI_clamp (by omega)] | rw [if_neg (by rw [c_8]; decide)], rfl⟩ d_DeltaRows_byteAt_23
  · skip
    obtain ⟨j, hj, rfl⟩ := p_has_of (us := b.2) (by omega) c_8
    refine lv_aload_n hx hb d_DeltaRows_byteAt_11 rfl (lv_at hl 0 rfl) ?_
    refine g_DeltaRows_20 hx hb hts hown hK hP 0 rfl rfl d_DeltaRows_byteAt_12 ?_
    refine lv_iload_n hx hb d_DeltaRows_byteAt_15 rfl (lv_at hl 1 rfl) ?_
    refine z_callEi (wr := [(o, .inr (3, [.ref ro, .int (nI rc), .ref bo, .ref so, .ref la, .ref lb]))]) (w2 := [(o, .inr (3, [.ref ro, .int (nI rc), .ref bo, .ref so, .ref la, .ref lb])), (bo, .inr (0, [.ref hw, .int (nI b.2)])), (hw, .inl (cJ, 2500, .inr (.inl b.1)))]) (z_runV (rest := []) hx hb hml hown hts hK hN (c_ByteRow_byteIn l D cI cJ bo hw b j (by (try dsimp only); omega)) kk_DeltaRows_85 (zP.cut hP [1, 2] rfl) (hD.sub [1, 2] (by decide) rfl) 0 rfl rfl rfl hl.1 rfl (Nat.le_of_ble_eq_true rfl) d_DeltaRows_byteAt_16 (by decide) (by decide)) hP hD hS hA [1, 2] [0] [0, 1, 2] rfl rfl (by decide) (by decide) (by decide) rfl (fun H locs hP hD hS => ?_)
    refine lv_goto (tgt := 23) hx hb d_DeltaRows_byteAt_19 (by decide) ?_
    exact z_iret hx hb hr hlocks hS hP hD ⟨by unfold p_byteAt; first | rw [if_pos c_8, nI_clamp (by omega)] | rw [if_neg (by rw [c_8]; decide)], rfl⟩ d_DeltaRows_byteAt_23

set_option maxHeartbeats 4000000 in
set_option maxRecDepth 100000 in
theorem c_DeltaRows_setByte (l : Launch) (D : va_G) (cI cJ : ClassId) (o : Nat) (ro : Nat) (bo : Nat) (so : Nat) (la : Nat) (lb : Nat) (rc : Nat) (hw : Nat) (b : BB) (k : Int32) (v : Int32) (hu : b.2 ≤ 20000) : Ct l D (zT cI cJ) y_DeltaRows_setByte b_DeltaRows_setByte 3 (some .boolean) 3 75 0 0 [.ref o, .int k, .int v] [(o, .inr (3, [.ref ro, .int (nI rc), .ref bo, .ref so, .ref la, .ref lb])), (bo, .inr (0, [.ref hw, .int (nI b.2)])), (hw, .inl (cJ, 2500, .inr (.inl b.1)))] (zEq (some (.int (zb (p_has b.2 k)))) [(o, .inr (3, [.ref ro, .int (nI rc), .ref bo, .ref so, .ref la, .ref lb])), (bo, .inr (0, [.ref hw, .int (nI b.2)])), (hw, .inl (cJ, 2500, .inr (.inl (p_setByte b k v))))]) := by
  refine Ct.ofW (by decide) (Nat.le_of_ble_eq_true rfl) ?_
  intro p e s m below meth c A ls C0 hP hD hS hl
  obtain ⟨hx, hb, hml, hown, hts, hK, hN, hr, hlocks, hA, hnm⟩ := C0
  have hl : lv_has ls 3 [(0, .ref o), (1, .int k), (2, .int v)] := hl
  have hown : s.vm.findClass R_DeltaRows = some m.cls := hown
  refine lv_aload_n hx hb d_DeltaRows_setByte_0 rfl (lv_at hl 0 rfl) ?_
  refine g_DeltaRows_20 hx hb hts hown hK hP 0 rfl rfl d_DeltaRows_setByte_1 ?_
  refine lv_iload_n hx hb d_DeltaRows_setByte_4 rfl (lv_at hl 1 rfl) ?_
  refine z_callEi (wr := [(o, .inr (3, [.ref ro, .int (nI rc), .ref bo, .ref so, .ref la, .ref lb])), (hw, .inl (cJ, 2500, .inr (.inl b.1)))]) (w2 := [(o, .inr (3, [.ref ro, .int (nI rc), .ref bo, .ref so, .ref la, .ref lb])), (bo, .inr (0, [.ref hw, .int (nI b.2)])), (hw, .inl (cJ, 2500, .inr (.inl b.1)))]) (z_runV (rest := []) hx hb hml hown hts hK hN (c_ByteRow_has l D cI cJ bo hw b.2 k (by (try dsimp only); omega)) kk_DeltaRows_81 (zP.cut hP [1] rfl) (hD.sub [1] (by decide) rfl) 0 rfl rfl rfl hl.1 rfl (Nat.le_of_ble_eq_true rfl) d_DeltaRows_setByte_5 (by decide) (by decide)) hP hD hS hA [1] [0, 2] [0, 2, 1] rfl rfl (by decide) (by decide) (by decide) rfl (fun H locs hP hD hS => ?_)
  refine zb_ne (tgt := 13) hx hb d_DeltaRows_setByte_8 (by decide) (fun c_8 => ?_) (fun c_8 => ?_)
  · skip
    obtain ⟨j, hj, rfl⟩ := p_has_of (us := b.2) (by omega) c_8
    refine lv_aload_n hx hb d_DeltaRows_setByte_13 rfl (lv_at hl 0 rfl) ?_
    refine g_DeltaRows_20 hx hb hts hown hK hP 0 rfl rfl d_DeltaRows_setByte_14 ?_
    refine lv_iload_n hx hb d_DeltaRows_setByte_17 rfl (lv_at hl 1 rfl) ?_
    refine lv_iload_n hx hb d_DeltaRows_setByte_18 rfl (lv_at hl 2 rfl) ?_
    refine z_callEv (wr := [(o, .inr (3, [.ref ro, .int (nI rc), .ref bo, .ref so, .ref la, .ref lb]))]) (w2 := [(o, .inr (3, [.ref ro, .int (nI rc), .ref bo, .ref so, .ref la, .ref lb])), (bo, .inr (0, [.ref hw, .int (nI b.2)])), (hw, .inl (cJ, 2500, .inr (.inl (p_chg b.1 j v))))]) (z_runV (rest := []) hx hb hml hown hts hK hN (c_ByteRow_change l D cI cJ bo hw b j v (by (try dsimp only); omega)) kk_DeltaRows_88 (zP.cut hP [1, 2] rfl) (hD.sub [1, 2] (by decide) rfl) 0 rfl rfl rfl hl.1 rfl (Nat.le_of_ble_eq_true rfl) d_DeltaRows_setByte_19 (by decide) (by decide)) hP hD hS hA [1, 2] [0] [0, 1, 2] rfl rfl (by decide) (by decide) (by decide) rfl (fun H locs hP hD hS => ?_)
    refine lv_iconst (v := nI 1) hx hb d_DeltaRows_setByte_22 (by decide +kernel) ?_
    exact z_bret hx hb hr hlocks (Or.inr rfl) hS hP hD ⟨zb_t c_8, by unfold p_setByte; rw [if_pos c_8, nI_clamp (by omega)]⟩ d_DeltaRows_setByte_23
  · skip
    refine lv_iconst (v := nI 0) hx hb d_DeltaRows_setByte_11 (by decide +kernel) ?_
    exact z_bret hx hb hr hlocks (Or.inl rfl) hS hP hD ⟨zb_f c_8, by unfold p_setByte; rw [if_neg (by rw [c_8]; decide)]⟩ d_DeltaRows_setByte_12

set_option maxHeartbeats 4000000 in
set_option maxRecDepth 100000 in
theorem c_DeltaRows_append (l : Launch) (D : va_G) (cI cJ : ClassId) (o : Nat) (ro : Nat) (bo : Nat) (so : Nat) (la : Nat) (lb : Nat) (rc : Nat) (hw : Nat) (b : BB) (v : Int32) (hu : b.2 ≤ 20000) : Ct l D (zT cI cJ) y_DeltaRows_append b_DeltaRows_append 2 (some .boolean) 4 96 0 0 [.ref o, .int v] [(o, .inr (3, [.ref ro, .int (nI rc), .ref bo, .ref so, .ref la, .ref lb])), (bo, .inr (0, [.ref hw, .int (nI b.2)])), (hw, .inl (cJ, 2500, .inr (.inl b.1)))] (zEq (some (.int (zb (decide (b.2 < 20000))))) [(o, .inr (3, [.ref ro, .int (nI rc), .ref bo, .ref so, .ref la, .ref lb])), (bo, .inr (0, [.ref hw, .int (nI ((p_add b v).2))])), (hw, .inl (cJ, 2500, .inr (.inl ((p_add b v).1))))]) := by
  refine Ct.ofW (by decide) (Nat.le_of_ble_eq_true rfl) ?_
  intro p e s m below meth c A ls C0 hP hD hS hl
  obtain ⟨hx, hb, hml, hown, hts, hK, hN, hr, hlocks, hA, hnm⟩ := C0
  have hl : lv_has ls 2 [(0, .ref o), (1, .int v)] := hl
  have hown : s.vm.findClass R_DeltaRows = some m.cls := hown
  refine lv_aload_n hx hb d_DeltaRows_append_0 rfl (lv_at hl 0 rfl) ?_
  refine g_DeltaRows_20 hx hb hts hown hK hP 0 rfl rfl d_DeltaRows_append_1 ?_
  refine lv_iload_n hx hb d_DeltaRows_append_4 rfl (lv_at hl 1 rfl) ?_
  refine z_callEi (wr := [(o, .inr (3, [.ref ro, .int (nI rc), .ref bo, .ref so, .ref la, .ref lb]))]) (w2 := [(o, .inr (3, [.ref ro, .int (nI rc), .ref bo, .ref so, .ref la, .ref lb])), (bo, .inr (0, [.ref hw, .int (nI ((p_add b v).2))])), (hw, .inl (cJ, 2500, .inr (.inl ((p_add b v).1))))]) (z_runV (rest := []) hx hb hml hown hts hK hN (c_ByteRow_add l D cI cJ bo hw b v (by (try dsimp only); omega)) kk_DeltaRows_92 (zP.cut hP [1, 2] rfl) (hD.sub [1, 2] (by decide) rfl) 0 rfl rfl rfl hl.1 rfl (Nat.le_of_ble_eq_true rfl) d_DeltaRows_append_5 (by decide) (by decide)) hP hD hS hA [1, 2] [0] [0, 1, 2] rfl rfl (by decide) (by decide) (by decide) rfl (fun H locs hP hD hS => ?_)
  exact z_bret hx hb hr hlocks (zb_01 _) hS hP hD ⟨rfl, rfl⟩ d_DeltaRows_append_8

set_option maxHeartbeats 4000000 in
set_option maxRecDepth 100000 in
theorem c_DeltaRows_cut (l : Launch) (D : va_G) (cI cJ : ClassId) (o : Nat) (ro : Nat) (bo : Nat) (so : Nat) (la : Nat) (lb : Nat) (rc : Nat) (hw : Nat) (us : Nat) (k : Int32) (hu : us ≤ 20000) : Ct l D (zT cI cJ) y_DeltaRows_cut b_DeltaRows_cut 2 (some .boolean) 1 21 0 0 [.ref o, .int k] [(o, .inr (3, [.ref ro, .int (nI rc), .ref bo, .ref so, .ref la, .ref lb])), (bo, .inr (0, [.ref hw, .int (nI us)]))] (zEq (some (.int (zb (p_cutB us k)))) [(o, .inr (3, [.ref ro, .int (nI rc), .ref bo, .ref so, .ref la, .ref lb])), (bo, .inr (0, [.ref hw, .int (nI (p_cut us k))]))]) := by
  refine Ct.ofW (by decide) (Nat.le_of_ble_eq_true rfl) ?_
  intro p e s m below meth c A ls C0 hP hD hS hl
  obtain ⟨hx, hb, hml, hown, hts, hK, hN, hr, hlocks, hA, hnm⟩ := C0
  have hl : lv_has ls 2 [(0, .ref o), (1, .int k)] := hl
  have hown : s.vm.findClass R_DeltaRows = some m.cls := hown
  refine lv_iload_n hx hb d_DeltaRows_cut_0 rfl (lv_at hl 1 rfl) ?_
  refine lv_if_lt (tgt := 15) hx hb d_DeltaRows_cut_1 (by decide) (fun c_1 => ?_) (fun c_1 => ?_)
  · skip
    refine lv_iconst (v := nI 0) hx hb d_DeltaRows_cut_15 (by decide +kernel) ?_
    exact z_bret hx hb hr hlocks (Or.inl rfl) hS hP hD ⟨zb_f (decide_eq_false (fun z => by first | exact z.1 c_1 | exact c_12 z.2)), by unfold p_cut; rw [if_neg (fun z => by first | exact (of_decide_eq_true z).1 c_1 | exact c_12 (of_decide_eq_true z).2)]⟩ d_DeltaRows_cut_16
  · skip
    refine lv_iload_n hx hb d_DeltaRows_cut_4 rfl (lv_at hl 1 rfl) ?_
    refine lv_aload_n hx hb d_DeltaRows_cut_5 rfl (lv_at hl 0 rfl) ?_
    refine g_DeltaRows_20 hx hb hts hown hK hP 0 rfl rfl d_DeltaRows_cut_6 ?_
    refine g_DeltaRows_65 hx hb hts hown hK hP 1 rfl rfl d_DeltaRows_cut_9 ?_
    refine lv_icmp_le (tgt := 17) hx hb d_DeltaRows_cut_12 (by decide) (fun c_12 => ?_) (fun c_12 => ?_)
    · skip
      obtain ⟨j, hj, rfl⟩ := p_cutB_of (us := us) (by omega) (decide_eq_true ⟨c_1, c_12⟩)
      refine lv_aload_n hx hb d_DeltaRows_cut_17 rfl (lv_at hl 0 rfl) ?_
      refine g_DeltaRows_20 hx hb hts hown hK hP 0 rfl rfl d_DeltaRows_cut_18 ?_
      refine lv_iload_n hx hb d_DeltaRows_cut_21 rfl (lv_at hl 1 rfl) ?_
      refine z_callEv (wr := [(o, .inr (3, [.ref ro, .int (nI rc), .ref bo, .ref so, .ref la, .ref lb]))]) (w2 := [(o, .inr (3, [.ref ro, .int (nI rc), .ref bo, .ref so, .ref la, .ref lb])), (bo, .inr (0, [.ref hw, .int (nI j)]))]) (z_runV (rest := []) hx hb hml hown hts hK hN (c_ByteRow_shorten l D cI cJ bo hw us j ) kk_DeltaRows_43 (zP.cut hP [1] rfl) (hD.sub [1] (by decide) rfl) 0 rfl rfl rfl hl.1 rfl (Nat.le_of_ble_eq_true rfl) d_DeltaRows_cut_22 (by decide) (by decide)) hP hD hS hA [1] [0] [0, 1] rfl rfl (by decide) (by decide) (by decide) rfl (fun H locs hP hD hS => ?_)
      refine lv_iconst (v := nI 1) hx hb d_DeltaRows_cut_25 (by decide +kernel) ?_
      exact z_bret hx hb hr hlocks (Or.inr rfl) hS hP hD ⟨zb_t (decide_eq_true ⟨c_1, c_12⟩), by unfold p_cut; rw [if_pos (show p_cutB us (nI j) = true from decide_eq_true ⟨c_1, c_12⟩), nI_clamp (by omega)]⟩ d_DeltaRows_cut_26
    · skip
      refine lv_iconst (v := nI 0) hx hb d_DeltaRows_cut_15 (by decide +kernel) ?_
      exact z_bret hx hb hr hlocks (Or.inl rfl) hS hP hD ⟨zb_f (decide_eq_false (fun z => by first | exact z.1 c_1 | exact c_12 z.2)), by unfold p_cut; rw [if_neg (fun z => by first | exact (of_decide_eq_true z).1 c_1 | exact c_12 (of_decide_eq_true z).2)]⟩ d_DeltaRows_cut_16

set_option maxHeartbeats 4000000 in
set_option maxRecDepth 100000 in
theorem c_DeltaRows_blocks (l : Launch) (D : va_G) (cI cJ : ClassId) (o : Nat) (ro : Nat) (bo : Nat) (so : Nat) (la : Nat) (lb : Nat) (rc : Nat) (hl1 : Nat) (hi1 : Nat) (hs1 : Nat) (bc : Nat)  : Ct l D (zT cI cJ) y_DeltaRows_blocks b_DeltaRows_blocks 1 (some .int) 0 0 0 0 [.ref o] [(o, .inr (3, [.ref ro, .int (nI rc), .ref bo, .ref so, .ref la, .ref lb])), (la, .inr (1, [.int (nI bc), .ref hl1, .ref hi1, .ref hs1]))] (zEq (some (.int (nI bc))) [(o, .inr (3, [.ref ro, .int (nI rc), .ref bo, .ref so, .ref la, .ref lb])), (la, .inr (1, [.int (nI bc), .ref hl1, .ref hi1, .ref hs1]))]) := by
  refine Ct.ofW (by decide) (Nat.le_of_ble_eq_true rfl) ?_
  intro p e s m below meth c A ls C0 hP hD hS hl
  obtain ⟨hx, hb, hml, hown, hts, hK, hN, hr, hlocks, hA, hnm⟩ := C0
  have hl : lv_has ls 1 [(0, .ref o)] := hl
  have hown : s.vm.findClass R_DeltaRows = some m.cls := hown
  refine lv_aload_n hx hb d_DeltaRows_blocks_0 rfl (lv_at hl 0 rfl) ?_
  refine g_DeltaRows_36 hx hb hts hown hK hP 0 rfl rfl d_DeltaRows_blocks_1 ?_
  refine g_DeltaRows_59 hx hb hts hown hK hP 1 rfl rfl d_DeltaRows_blocks_4 ?_
  exact z_iret hx hb hr hlocks hS hP hD ⟨rfl, rfl⟩ d_DeltaRows_blocks_7

set_option maxHeartbeats 4000000 in
set_option maxRecDepth 100000 in
theorem c_DeltaRows_least (l : Launch) (D : va_G) (cI cJ : ClassId) (o : Nat) (ro : Nat) (bo : Nat) (so : Nat) (la : Nat) (lb : Nat) (rc : Nat) (hl1 : Nat) (hi1 : Nat) (hs1 : Nat) (bc : Nat) (le : Nat → Int64) (k : Int32) (hbc : bc ≤ 32) : Ct l D (zT cI cJ) y_DeltaRows_least b_DeltaRows_least 2 (some .long) 1 21 0 0 [.ref o, .int k] [(o, .inr (3, [.ref ro, .int (nI rc), .ref bo, .ref so, .ref la, .ref lb])), (la, .inr (1, [.int (nI bc), .ref hl1, .ref hi1, .ref hs1])), (hl1, .inl (cJ, 32, .inr (.inl le)))] (zEq (some (.long (p_least bc le k))) [(o, .inr (3, [.ref ro, .int (nI rc), .ref bo, .ref so, .ref la, .ref lb])), (la, .inr (1, [.int (nI bc), .ref hl1, .ref hi1, .ref hs1])), (hl1, .inl (cJ, 32, .inr (.inl le)))]) := by
  refine Ct.ofW (by decide) (Nat.le_of_ble_eq_true rfl) ?_
  intro p e s m below meth c A ls C0 hP hD hS hl
  obtain ⟨hx, hb, hml, hown, hts, hK, hN, hr, hlocks, hA, hnm⟩ := C0
  have hl : lv_has ls 2 [(0, .ref o), (1, .int k)] := hl
  have hown : s.vm.findClass R_DeltaRows = some m.cls := hown
  refine lv_aload_n hx hb d_DeltaRows_least_0 rfl (lv_at hl 0 rfl) ?_
  refine g_DeltaRows_36 hx hb hts hown hK hP 0 rfl rfl d_DeltaRows_least_1 ?_
  refine lv_iload_n hx hb d_DeltaRows_least_4 rfl (lv_at hl 1 rfl) ?_
  refine z_callEi (wr := [(o, .inr (3, [.ref ro, .int (nI rc), .ref bo, .ref so, .ref la, .ref lb])), (hl1, .inl (cJ, 32, .inr (.inl le)))]) (w2 := [(o, .inr (3, [.ref ro, .int (nI rc), .ref bo, .ref so, .ref la, .ref lb])), (la, .inr (1, [.int (nI bc), .ref hl1, .ref hi1, .ref hs1])), (hl1, .inl (cJ, 32, .inr (.inl le)))]) (z_runV (rest := []) hx hb hml hown hts hK hN (c_Layout_hasBlock l D cI cJ la hl1 hi1 hs1 bc k (by (try dsimp only); omega)) kk_DeltaRows_95 (zP.cut hP [1] rfl) (hD.sub [1] (by decide) rfl) 0 rfl rfl rfl hl.1 rfl (Nat.le_of_ble_eq_true rfl) d_DeltaRows_least_5 (by decide) (by decide)) hP hD hS hA [1] [0, 2] [0, 2, 1] rfl rfl (by decide) (by decide) (by decide) rfl (fun H locs hP hD hS => ?_)
  refine zb_eq (tgt := 23) hx hb d_DeltaRows_least_8 (by decide) (fun c_8 => ?_) (fun c_8 => ?_)
  · skip
    refine lv_lconst (v := 0) hx hb d_DeltaRows_least_23 (by decide +kernel) ?_
    exact z_lret hx hb hr hlocks hS hP hD ⟨by unfold p_least; first | rw [if_pos c_8, nI_clamp (by omega)] | rw [if_neg (by rw [c_8]; decide)], rfl⟩ d_DeltaRows_least_24
  · skip
    obtain ⟨j, hj, rfl⟩ := p_has_of (us := bc) (by omega) c_8
    refine lv_aload_n hx hb d_DeltaRows_least_11 rfl (lv_at hl 0 rfl) ?_
    refine g_DeltaRows_36 hx hb hts hown hK hP 0 rfl rfl d_DeltaRows_least_12 ?_
    refine g_DeltaRows_98 hx hb hts hown hK hP 1 rfl rfl d_DeltaRows_least_15 ?_
    refine lv_iload_n hx hb d_DeltaRows_least_18 rfl (lv_at hl 1 rfl) ?_
    refine z_lald hx hb hK hP 2 1 rfl rfl (by omega) (by decide) d_DeltaRows_least_19 ?_
    refine lv_goto (tgt := 24) hx hb d_DeltaRows_least_20 (by decide) ?_
    exact z_lret hx hb hr hlocks hS hP hD ⟨by unfold p_least; first | rw [if_pos c_8, nI_clamp (by omega)] | rw [if_neg (by rw [c_8]; decide)], rfl⟩ d_DeltaRows_least_24

set_option maxHeartbeats 4000000 in
set_option maxRecDepth 100000 in
theorem c_DeltaRows_width (l : Launch) (D : va_G) (cI cJ : ClassId) (o : Nat) (ro : Nat) (bo : Nat) (so : Nat) (la : Nat) (lb : Nat) (rc : Nat) (hl1 : Nat) (hi1 : Nat) (hs1 : Nat) (bc : Nat) (wi : Nat → Int32) (k : Int32) (pp : Int32) (hbc : bc ≤ 32) : Ct l D (zT cI cJ) y_DeltaRows_width b_DeltaRows_width 3 (some .int) 2 43 0 0 [.ref o, .int k, .int pp] [(o, .inr (3, [.ref ro, .int (nI rc), .ref bo, .ref so, .ref la, .ref lb])), (la, .inr (1, [.int (nI bc), .ref hl1, .ref hi1, .ref hs1])), (hi1, .inl (cI, 128, .inl wi))] (zEq (some (.int (p_part bc wi k pp))) [(o, .inr (3, [.ref ro, .int (nI rc), .ref bo, .ref so, .ref la, .ref lb])), (la, .inr (1, [.int (nI bc), .ref hl1, .ref hi1, .ref hs1])), (hi1, .inl (cI, 128, .inl wi))]) := by
  refine Ct.ofW (by decide) (Nat.le_of_ble_eq_true rfl) ?_
  intro p e s m below meth c A ls C0 hP hD hS hl
  obtain ⟨hx, hb, hml, hown, hts, hK, hN, hr, hlocks, hA, hnm⟩ := C0
  have hl : lv_has ls 3 [(0, .ref o), (1, .int k), (2, .int pp)] := hl
  have hown : s.vm.findClass R_DeltaRows = some m.cls := hown
  refine lv_aload_n hx hb d_DeltaRows_width_0 rfl (lv_at hl 0 rfl) ?_
  refine g_DeltaRows_36 hx hb hts hown hK hP 0 rfl rfl d_DeltaRows_width_1 ?_
  refine lv_iload_n hx hb d_DeltaRows_width_4 rfl (lv_at hl 1 rfl) ?_
  refine lv_iload_n hx hb d_DeltaRows_width_5 rfl (lv_at hl 2 rfl) ?_
  refine z_callEi (wr := [(o, .inr (3, [.ref ro, .int (nI rc), .ref bo, .ref so, .ref la, .ref lb])), (hi1, .inl (cI, 128, .inl wi))]) (w2 := [(o, .inr (3, [.ref ro, .int (nI rc), .ref bo, .ref so, .ref la, .ref lb])), (la, .inr (1, [.int (nI bc), .ref hl1, .ref hi1, .ref hs1])), (hi1, .inl (cI, 128, .inl wi))]) (z_runV (rest := []) hx hb hml hown hts hK hN (c_Layout_hasPart l D cI cJ la hl1 hi1 hs1 bc k pp (by (try dsimp only); omega)) kk_DeltaRows_101 (zP.cut hP [1] rfl) (hD.sub [1] (by decide) rfl) 0 rfl rfl rfl hl.1 rfl (Nat.le_of_ble_eq_true rfl) d_DeltaRows_width_6 (by decide) (by decide)) hP hD hS hA [1] [0, 2] [0, 2, 1] rfl rfl (by decide) (by decide) (by decide) rfl (fun H locs hP hD hS => ?_)
  refine zb_eq (tgt := 28) hx hb d_DeltaRows_width_9 (by decide) (fun c_9 => ?_) (fun c_9 => ?_)
  · skip
    refine lv_iconst (v := (-1)) hx hb d_DeltaRows_width_28 (by decide +kernel) ?_
    exact z_iret hx hb hr hlocks hS hP hD ⟨by unfold p_part; first | rw [if_pos c_9, nI_clamp (by omega), nI_clamp (by omega)] | rw [if_neg (by rw [c_9]; decide)], rfl⟩ d_DeltaRows_width_29
  · skip
    obtain ⟨j, i, hj, hi, rfl, rfl⟩ := p_hp_of (bc := bc) (by omega) c_9
    refine lv_aload_n hx hb d_DeltaRows_width_12 rfl (lv_at hl 0 rfl) ?_
    refine g_DeltaRows_36 hx hb hts hown hK hP 0 rfl rfl d_DeltaRows_width_13 ?_
    refine g_DeltaRows_105 hx hb hts hown hK hP 1 rfl rfl d_DeltaRows_width_16 ?_
    refine lv_iload_n hx hb d_DeltaRows_width_19 rfl (lv_at hl 1 rfl) ?_
    refine lv_iconst (v := nI 4) hx hb d_DeltaRows_width_20 (by decide +kernel) ?_
    refine lv_imul hx hb d_DeltaRows_width_21 (z_i (pk_mul j 4) ?_)
    refine lv_iload_n hx hb d_DeltaRows_width_22 rfl (lv_at hl 2 rfl) ?_
    refine lv_iadd hx hb d_DeltaRows_width_23 (z_i (nI_add (j * 4) i) ?_)
    refine z_iald hx hb hK hP 2 0 rfl rfl (by omega) (by decide) d_DeltaRows_width_24 ?_
    refine lv_goto (tgt := 29) hx hb d_DeltaRows_width_25 (by decide) ?_
    exact z_iret hx hb hr hlocks hS hP hD ⟨by unfold p_part; first | rw [if_pos c_9, nI_clamp (by omega), nI_clamp (by omega)] | rw [if_neg (by rw [c_9]; decide)], rfl⟩ d_DeltaRows_width_29

set_option maxHeartbeats 4000000 in
set_option maxRecDepth 100000 in
theorem c_DeltaRows_start (l : Launch) (D : va_G) (cI cJ : ClassId) (o : Nat) (ro : Nat) (bo : Nat) (so : Nat) (la : Nat) (lb : Nat) (rc : Nat) (hl1 : Nat) (hi1 : Nat) (hs1 : Nat) (bc : Nat) (st : Nat → Int32) (k : Int32) (pp : Int32) (hbc : bc ≤ 32) : Ct l D (zT cI cJ) y_DeltaRows_start b_DeltaRows_start 3 (some .int) 2 43 0 0 [.ref o, .int k, .int pp] [(o, .inr (3, [.ref ro, .int (nI rc), .ref bo, .ref so, .ref la, .ref lb])), (la, .inr (1, [.int (nI bc), .ref hl1, .ref hi1, .ref hs1])), (hs1, .inl (cI, 128, .inl st))] (zEq (some (.int (p_part bc st k pp))) [(o, .inr (3, [.ref ro, .int (nI rc), .ref bo, .ref so, .ref la, .ref lb])), (la, .inr (1, [.int (nI bc), .ref hl1, .ref hi1, .ref hs1])), (hs1, .inl (cI, 128, .inl st))]) := by
  refine Ct.ofW (by decide) (Nat.le_of_ble_eq_true rfl) ?_
  intro p e s m below meth c A ls C0 hP hD hS hl
  obtain ⟨hx, hb, hml, hown, hts, hK, hN, hr, hlocks, hA, hnm⟩ := C0
  have hl : lv_has ls 3 [(0, .ref o), (1, .int k), (2, .int pp)] := hl
  have hown : s.vm.findClass R_DeltaRows = some m.cls := hown
  refine lv_aload_n hx hb d_DeltaRows_start_0 rfl (lv_at hl 0 rfl) ?_
  refine g_DeltaRows_36 hx hb hts hown hK hP 0 rfl rfl d_DeltaRows_start_1 ?_
  refine lv_iload_n hx hb d_DeltaRows_start_4 rfl (lv_at hl 1 rfl) ?_
  refine lv_iload_n hx hb d_DeltaRows_start_5 rfl (lv_at hl 2 rfl) ?_
  refine z_callEi (wr := [(o, .inr (3, [.ref ro, .int (nI rc), .ref bo, .ref so, .ref la, .ref lb])), (hs1, .inl (cI, 128, .inl st))]) (w2 := [(o, .inr (3, [.ref ro, .int (nI rc), .ref bo, .ref so, .ref la, .ref lb])), (la, .inr (1, [.int (nI bc), .ref hl1, .ref hi1, .ref hs1])), (hs1, .inl (cI, 128, .inl st))]) (z_runV (rest := []) hx hb hml hown hts hK hN (c_Layout_hasPart l D cI cJ la hl1 hi1 hs1 bc k pp (by (try dsimp only); omega)) kk_DeltaRows_101 (zP.cut hP [1] rfl) (hD.sub [1] (by decide) rfl) 0 rfl rfl rfl hl.1 rfl (Nat.le_of_ble_eq_true rfl) d_DeltaRows_start_6 (by decide) (by decide)) hP hD hS hA [1] [0, 2] [0, 2, 1] rfl rfl (by decide) (by decide) (by decide) rfl (fun H locs hP hD hS => ?_)
  refine zb_eq (tgt := 28) hx hb d_DeltaRows_start_9 (by decide) (fun c_9 => ?_) (fun c_9 => ?_)
  · skip
    refine lv_iconst (v := (-1)) hx hb d_DeltaRows_start_28 (by decide +kernel) ?_
    exact z_iret hx hb hr hlocks hS hP hD ⟨by unfold p_part; first | rw [if_pos c_9, nI_clamp (by omega), nI_clamp (by omega)] | rw [if_neg (by rw [c_9]; decide)], rfl⟩ d_DeltaRows_start_29
  · skip
    obtain ⟨j, i, hj, hi, rfl, rfl⟩ := p_hp_of (bc := bc) (by omega) c_9
    refine lv_aload_n hx hb d_DeltaRows_start_12 rfl (lv_at hl 0 rfl) ?_
    refine g_DeltaRows_36 hx hb hts hown hK hP 0 rfl rfl d_DeltaRows_start_13 ?_
    refine g_DeltaRows_109 hx hb hts hown hK hP 1 rfl rfl d_DeltaRows_start_16 ?_
    refine lv_iload_n hx hb d_DeltaRows_start_19 rfl (lv_at hl 1 rfl) ?_
    refine lv_iconst (v := nI 4) hx hb d_DeltaRows_start_20 (by decide +kernel) ?_
    refine lv_imul hx hb d_DeltaRows_start_21 (z_i (pk_mul j 4) ?_)
    refine lv_iload_n hx hb d_DeltaRows_start_22 rfl (lv_at hl 2 rfl) ?_
    refine lv_iadd hx hb d_DeltaRows_start_23 (z_i (nI_add (j * 4) i) ?_)
    refine z_iald hx hb hK hP 2 0 rfl rfl (by omega) (by decide) d_DeltaRows_start_24 ?_
    refine lv_goto (tgt := 29) hx hb d_DeltaRows_start_25 (by decide) ?_
    exact z_iret hx hb hr hlocks hS hP hD ⟨by unfold p_part; first | rw [if_pos c_9, nI_clamp (by omega), nI_clamp (by omega)] | rw [if_neg (by rw [c_9]; decide)], rfl⟩ d_DeltaRows_start_29

set_option maxHeartbeats 4000000 in
set_option maxRecDepth 100000 in
theorem c_Layout_init (l : Launch) (D : va_G) (cI cJ : ClassId) (h0 : Nat)  : Ct l D (zT cI cJ) y_Layout_init b_Layout_init 1 none 1 20 3 288 [.ref h0] [(h0, .inr (1, [.int 0, .null, .null, .null]))] (fun r w => r = none ∧ ∃ (hl1 : Nat) (hi1 : Nat) (hs1 : Nat), w = [(h0, .inr (1, [.int (nI 0), .ref hl1, .ref hi1, .ref hs1])), (hl1, .inl (cJ, 32, .inr (.inl (fun _ => 0)))), (hi1, .inl (cI, 128, .inl (fun _ => 0))), (hs1, .inl (cI, 128, .inl (fun _ => 0)))]) := by
  refine Ct.ofW (by decide) (Nat.le_of_ble_eq_true rfl) ?_
  intro p e s m below meth c A ls C0 hP hD hS hl
  obtain ⟨hx, hb, hml, hown, hts, hK, hN, hr, hlocks, hA, hnm⟩ := C0
  have hl : lv_has ls 1 [(0, .ref h0)] := hl
  have hown : s.vm.findClass R_Layout = some m.cls := hown
  refine lv_aload_n hx hb d_Layout_init_0 rfl (lv_at hl 0 rfl) ?_
  refine W.objInit hx hb hown (kw_Layout_3 hts) (ko_1 hts) (ko_2 hts) rfl (by rw [hml]; exact hl.1) rfl d_Layout_init_1 (by decide) (Nat.le_of_ble_eq_true rfl) ?_
  refine W.eq (g2 := F0 m 4 ls []) rfl ?_
  refine lv_aload_n hx hb d_Layout_init_4 rfl (lv_at hl 0 rfl) ?_
  refine lv_iconst (v := nI 0) hx hb d_Layout_init_5 (by decide +kernel) ?_
  refine p_Layout_9 (w2 := [(h0, .inr (1, [.int (nI 0), .null, .null, .null]))]) hx hb hts hown hK hP hD hS 0 rfl (Nat.le_of_ble_eq_true rfl) rfl d_Layout_init_6 (fun H locs hP hD hS => ?_)
  refine lv_aload_n hx hb d_Layout_init_9 rfl (lv_at hl 0 rfl) ?_
  refine lv_bipush (v := nI 32) hx hb d_Layout_init_10 (by decide +kernel) ?_
  refine z_newa (N' := 32) (a0 := (32, .inr (.inl (fun _ => 0)))) hx hb (ka_long hts) (hK.2 1 _ rfl).2 hP hD hS hA (fun _ => rfl) (by decide) (by decide) (by decide) (by decide) (by decide) d_Layout_init_12 (fun qa1 H hP hD hS => ?_)
  have hP : va_P D classes [(h0, .inr (1, [.int (nI 0), .null, .null, .null])), (qa1, .inl (cJ, 32, .inr (.inl (fun _ => 0))))] H := hP
  have hD : va_D A [(h0, .inr (1, [.int (nI 0), .null, .null, .null])), (qa1, .inl (cJ, 32, .inr (.inl (fun _ => 0))))] := hD
  refine p_Layout_15 (w2 := [(h0, .inr (1, [.int (nI 0), .ref qa1, .null, .null])), (qa1, .inl (cJ, 32, .inr (.inl (fun _ => 0))))]) hx hb hts hown hnm hK hP hD hS 0 rfl (Nat.le_of_ble_eq_true rfl) rfl d_Layout_init_14 (fun H locs hP hD hS => ?_)
  refine lv_aload_n hx hb d_Layout_init_17 rfl (lv_at hl 0 rfl) ?_
  refine lv_sipush (v := nI 128) hx hb d_Layout_init_18 (by decide +kernel) ?_
  refine z_newa (N' := 128) (a0 := (128, .inl (fun _ => 0))) hx hb (ka_int hts) (hK.2 0 _ rfl).2 hP hD hS hA (fun _ => rfl) (by decide) (by decide) (by decide) (by decide) (by decide) d_Layout_init_21 (fun qa2 H hP hD hS => ?_)
  have hP : va_P D classes [(h0, .inr (1, [.int (nI 0), .ref qa1, .null, .null])), (qa1, .inl (cJ, 32, .inr (.inl (fun _ => 0)))), (qa2, .inl (cI, 128, .inl (fun _ => 0)))] H := hP
  have hD : va_D A [(h0, .inr (1, [.int (nI 0), .ref qa1, .null, .null])), (qa1, .inl (cJ, 32, .inr (.inl (fun _ => 0)))), (qa2, .inl (cI, 128, .inl (fun _ => 0)))] := hD
  refine p_Layout_19 (w2 := [(h0, .inr (1, [.int (nI 0), .ref qa1, .ref qa2, .null])), (qa1, .inl (cJ, 32, .inr (.inl (fun _ => 0)))), (qa2, .inl (cI, 128, .inl (fun _ => 0)))]) hx hb hts hown hnm hK hP hD hS 0 rfl (Nat.le_of_ble_eq_true rfl) rfl d_Layout_init_23 (fun H locs hP hD hS => ?_)
  refine lv_aload_n hx hb d_Layout_init_26 rfl (lv_at hl 0 rfl) ?_
  refine lv_sipush (v := nI 128) hx hb d_Layout_init_27 (by decide +kernel) ?_
  refine z_newa (N' := 128) (a0 := (128, .inl (fun _ => 0))) hx hb (ka_int hts) (hK.2 0 _ rfl).2 hP hD hS hA (fun _ => rfl) (by decide) (by decide) (by decide) (by decide) (by decide) d_Layout_init_30 (fun qa3 H hP hD hS => ?_)
  have hP : va_P D classes [(h0, .inr (1, [.int (nI 0), .ref qa1, .ref qa2, .null])), (qa1, .inl (cJ, 32, .inr (.inl (fun _ => 0)))), (qa2, .inl (cI, 128, .inl (fun _ => 0))), (qa3, .inl (cI, 128, .inl (fun _ => 0)))] H := hP
  have hD : va_D A [(h0, .inr (1, [.int (nI 0), .ref qa1, .ref qa2, .null])), (qa1, .inl (cJ, 32, .inr (.inl (fun _ => 0)))), (qa2, .inl (cI, 128, .inl (fun _ => 0))), (qa3, .inl (cI, 128, .inl (fun _ => 0)))] := hD
  refine p_Layout_23 (w2 := [(h0, .inr (1, [.int (nI 0), .ref qa1, .ref qa2, .ref qa3])), (qa1, .inl (cJ, 32, .inr (.inl (fun _ => 0)))), (qa2, .inl (cI, 128, .inl (fun _ => 0))), (qa3, .inl (cI, 128, .inl (fun _ => 0)))]) hx hb hts hown hnm hK hP hD hS 0 rfl (Nat.le_of_ble_eq_true rfl) rfl d_Layout_init_32 (fun H locs hP hD hS => ?_)
  have hPD := zP.perm (w2 := [(h0, .inr (1, [.int (nI 0), .ref qa1, .ref qa2, .ref qa3])), (qa1, .inl (cJ, 32, .inr (.inl (fun _ => 0)))), (qa2, .inl (cI, 128, .inl (fun _ => 0))), (qa3, .inl (cI, 128, .inl (fun _ => 0)))]) hP hD [0, 1, 2, 3] (by decide) rfl
  exact z_vret hx hb hr hlocks hS hPD.1 hPD.2 ⟨rfl, qa1, qa2, qa3, rfl⟩ d_Layout_init_35
