set_option maxHeartbeats 4000000 in
set_option maxRecDepth 100000 in
theorem c_Model_put (l : Launch) (D : va_G) (cI cJ : ClassId) (g : Nat) (mr : Nat) (ms : Nat) (mb : Nat) (ml : Nat) (mn : Nat) (mw : Nat) (mt : Nat) (mv : Nat) (mu : Nat) (cd : Int32) (n0 : Nat) (sz : Nat) (bl : Nat) (z : SS) (rq : Nat → Int64) (v : Int64) (hn0 : n0 ≤ 2000) : Ct l D (zT cI cJ) y_Model_put b_Model_put 3 (some .boolean) 0 0 0 0 [.ref g, .long v] [(g, .inr (4, [.int cd, .ref mr, .ref ms, .int (nI n0), .ref mb, .int (nI sz), .int z.2.2, .ref ml, .ref mn, .ref mw, .ref mt, .ref mv, .ref mu, .int (nI bl), .int (nI z.1), .int (nI z.2.1)])), (mr, .inl (cJ, 2000, .inr (.inl rq)))] (zEq (some (.int (zb (decide (n0 < 2000))))) [(g, .inr (4, [.int (nI 0), .ref mr, .ref ms, .int (nI (p_putC n0)), .ref mb, .int (nI sz), .int z.2.2, .ref ml, .ref mn, .ref mw, .ref mt, .ref mv, .ref mu, .int (nI bl), .int (nI z.1), .int (nI z.2.1)])), (mr, .inl (cJ, 2000, .inr (.inl (p_putR rq n0 v))))]) := by
  refine Ct.ofW (by decide) (Nat.le_of_ble_eq_true rfl) ?_
  intro p e s m below meth c A ls C0 hP hD hS hl
  obtain ⟨hx, hb, hml, hown, hts, hK, hN, hr, hlocks, hA, hnm⟩ := C0
  have hl : lv_has ls 3 [(0, .ref g), (1, .long v)] := hl
  have hown : s.vm.findClass R_Model = some m.cls := hown
  refine lv_aload_n hx hb d_Model_put_0 rfl (lv_at hl 0 rfl) ?_
  refine lv_iconst (v := nI 0) hx hb d_Model_put_1 (by decide +kernel) ?_
  refine p_Model_42 (w2 := [(g, .inr (4, [.int (nI 0), .ref mr, .ref ms, .int (nI n0), .ref mb, .int (nI sz), .int z.2.2, .ref ml, .ref mn, .ref mw, .ref mt, .ref mv, .ref mu, .int (nI bl), .int (nI z.1), .int (nI z.2.1)])), (mr, .inl (cJ, 2000, .inr (.inl rq)))]) hx hb hts hown hK hP hD hS 0 rfl (Nat.le_of_ble_eq_true rfl) rfl d_Model_put_2 (fun H locs hP hD hS => ?_)
  refine lv_aload_n hx hb d_Model_put_5 rfl (lv_at hl 0 rfl) ?_
  refine g_Model_45 hx hb hts hown hK hP 0 rfl rfl d_Model_put_6 ?_
  refine lv_sipush (v := nI 2000) hx hb d_Model_put_9 (by decide +kernel) ?_
  refine zn_ne (a := n0) (b := 2000) (by omega) (by omega) hx hb d_Model_put_12 (tgt := 17) (by decide) (fun c_12 => ?_) (fun c_12 => ?_)
  · skip
    refine lv_aload_n hx hb d_Model_put_17 rfl (lv_at hl 0 rfl) ?_
    refine g_Model_7 hx hb hts hown hK hP 0 rfl rfl d_Model_put_18 ?_
    refine lv_aload_n hx hb d_Model_put_21 rfl (lv_at hl 0 rfl) ?_
    refine g_Model_45 hx hb hts hown hK hP 0 rfl rfl d_Model_put_22 ?_
    refine lv_lload_n hx hb d_Model_put_25 rfl (lv_at hl 1 rfl) ?_
    refine z_last (w2 := [(g, .inr (4, [.int (nI 0), .ref mr, .ref ms, .int (nI n0), .ref mb, .int (nI sz), .int z.2.2, .ref ml, .ref mn, .ref mw, .ref mt, .ref mv, .ref mu, .int (nI bl), .int (nI z.1), .int (nI z.2.1)])), (mr, .inl (cJ, 2000, .inr (.inl (vp_updL rq n0 v))))]) hx hb hK hP hD hS 1 1 rfl rfl (by omega) (by decide) d_Model_put_26 rfl (fun H locs hP hD hS => ?_)
    refine lv_aload_n hx hb d_Model_put_27 rfl (lv_at hl 0 rfl) ?_
    refine lv_dup hx hb d_Model_put_28 rfl ?_
    refine g_Model_45 hx hb hts hown hK hP 0 rfl rfl d_Model_put_29 ?_
    refine lv_iconst (v := nI 1) hx hb d_Model_put_32 (by decide +kernel) ?_
    refine lv_iadd hx hb d_Model_put_33 (z_i (nI_add n0 1) ?_)
    refine p_Model_45 (w2 := [(g, .inr (4, [.int (nI 0), .ref mr, .ref ms, .int (nI (n0 + 1)), .ref mb, .int (nI sz), .int z.2.2, .ref ml, .ref mn, .ref mw, .ref mt, .ref mv, .ref mu, .int (nI bl), .int (nI z.1), .int (nI z.2.1)])), (mr, .inl (cJ, 2000, .inr (.inl (vp_updL rq n0 v))))]) hx hb hts hown hK hP hD hS 0 rfl (Nat.le_of_ble_eq_true rfl) rfl d_Model_put_34 (fun H locs hP hD hS => ?_)
    refine lv_iconst (v := nI 1) hx hb d_Model_put_37 (by decide +kernel) ?_
    exact z_bret hx hb hr hlocks (Or.inr rfl) hS hP hD ⟨zb_t (decide_eq_true (by omega)), by unfold p_putC p_putR; rw [if_pos (show n0 < 2000 by omega), if_pos (show n0 < 2000 by omega)]⟩ d_Model_put_38
  · skip
    refine lv_iconst (v := nI 0) hx hb d_Model_put_15 (by decide +kernel) ?_
    exact z_bret hx hb hr hlocks (Or.inl rfl) hS hP hD ⟨zb_f (decide_eq_false (by omega)), by unfold p_putC p_putR; rw [if_neg (by omega), if_neg (by omega)]⟩ d_Model_put_16

set_option maxHeartbeats 4000000 in
set_option maxRecDepth 100000 in
theorem c_Model_clear (l : Launch) (D : va_G) (cI cJ : ClassId) (g : Nat) (mr : Nat) (ms : Nat) (mb : Nat) (ml : Nat) (mn : Nat) (mw : Nat) (mt : Nat) (mv : Nat) (mu : Nat) (cd : Int32) (n0 : Nat) (sz : Nat) (bl : Nat) (z : SS)  : Ct l D (zT cI cJ) y_Model_clear b_Model_clear 1 none 0 0 0 0 [.ref g] [(g, .inr (4, [.int cd, .ref mr, .ref ms, .int (nI n0), .ref mb, .int (nI sz), .int z.2.2, .ref ml, .ref mn, .ref mw, .ref mt, .ref mv, .ref mu, .int (nI bl), .int (nI z.1), .int (nI z.2.1)]))] (zEq none [(g, .inr (4, [.int (nI 0), .ref mr, .ref ms, .int (nI 0), .ref mb, .int (nI sz), .int z.2.2, .ref ml, .ref mn, .ref mw, .ref mt, .ref mv, .ref mu, .int (nI bl), .int (nI z.1), .int (nI z.2.1)]))]) := by
  refine Ct.ofW (by decide) (Nat.le_of_ble_eq_true rfl) ?_
  intro p e s m below meth c A ls C0 hP hD hS hl
  obtain ⟨hx, hb, hml, hown, hts, hK, hN, hr, hlocks, hA, hnm⟩ := C0
  have hl : lv_has ls 1 [(0, .ref g)] := hl
  have hown : s.vm.findClass R_Model = some m.cls := hown
  refine lv_aload_n hx hb d_Model_clear_0 rfl (lv_at hl 0 rfl) ?_
  refine lv_iconst (v := nI 0) hx hb d_Model_clear_1 (by decide +kernel) ?_
  refine p_Model_42 (w2 := [(g, .inr (4, [.int (nI 0), .ref mr, .ref ms, .int (nI n0), .ref mb, .int (nI sz), .int z.2.2, .ref ml, .ref mn, .ref mw, .ref mt, .ref mv, .ref mu, .int (nI bl), .int (nI z.1), .int (nI z.2.1)]))]) hx hb hts hown hK hP hD hS 0 rfl (Nat.le_of_ble_eq_true rfl) rfl d_Model_clear_2 (fun H locs hP hD hS => ?_)
  refine lv_aload_n hx hb d_Model_clear_5 rfl (lv_at hl 0 rfl) ?_
  refine lv_iconst (v := nI 0) hx hb d_Model_clear_6 (by decide +kernel) ?_
  refine p_Model_45 (w2 := [(g, .inr (4, [.int (nI 0), .ref mr, .ref ms, .int (nI 0), .ref mb, .int (nI sz), .int z.2.2, .ref ml, .ref mn, .ref mw, .ref mt, .ref mv, .ref mu, .int (nI bl), .int (nI z.1), .int (nI z.2.1)]))]) hx hb hts hown hK hP hD hS 0 rfl (Nat.le_of_ble_eq_true rfl) rfl d_Model_clear_7 (fun H locs hP hD hS => ?_)
  exact z_vret hx hb hr hlocks hS hP hD ⟨rfl, rfl⟩ d_Model_clear_10

set_option maxHeartbeats 4000000 in
set_option maxRecDepth 100000 in
theorem c_Model_count (l : Launch) (D : va_G) (cI cJ : ClassId) (g : Nat) (mr : Nat) (ms : Nat) (mb : Nat) (ml : Nat) (mn : Nat) (mw : Nat) (mt : Nat) (mv : Nat) (mu : Nat) (cd : Int32) (n0 : Nat) (sz : Nat) (bl : Nat) (z : SS)  : Ct l D (zT cI cJ) y_Model_count b_Model_count 1 (some .int) 0 0 0 0 [.ref g] [(g, .inr (4, [.int cd, .ref mr, .ref ms, .int (nI n0), .ref mb, .int (nI sz), .int z.2.2, .ref ml, .ref mn, .ref mw, .ref mt, .ref mv, .ref mu, .int (nI bl), .int (nI z.1), .int (nI z.2.1)]))] (zEq (some (.int (nI n0))) [(g, .inr (4, [.int (nI 0), .ref mr, .ref ms, .int (nI n0), .ref mb, .int (nI sz), .int z.2.2, .ref ml, .ref mn, .ref mw, .ref mt, .ref mv, .ref mu, .int (nI bl), .int (nI z.1), .int (nI z.2.1)]))]) := by
  refine Ct.ofW (by decide) (Nat.le_of_ble_eq_true rfl) ?_
  intro p e s m below meth c A ls C0 hP hD hS hl
  obtain ⟨hx, hb, hml, hown, hts, hK, hN, hr, hlocks, hA, hnm⟩ := C0
  have hl : lv_has ls 1 [(0, .ref g)] := hl
  have hown : s.vm.findClass R_Model = some m.cls := hown
  refine lv_aload_n hx hb d_Model_count_0 rfl (lv_at hl 0 rfl) ?_
  refine lv_iconst (v := nI 0) hx hb d_Model_count_1 (by decide +kernel) ?_
  refine p_Model_42 (w2 := [(g, .inr (4, [.int (nI 0), .ref mr, .ref ms, .int (nI n0), .ref mb, .int (nI sz), .int z.2.2, .ref ml, .ref mn, .ref mw, .ref mt, .ref mv, .ref mu, .int (nI bl), .int (nI z.1), .int (nI z.2.1)]))]) hx hb hts hown hK hP hD hS 0 rfl (Nat.le_of_ble_eq_true rfl) rfl d_Model_count_2 (fun H locs hP hD hS => ?_)
  refine lv_aload_n hx hb d_Model_count_5 rfl (lv_at hl 0 rfl) ?_
  refine g_Model_45 hx hb hts hown hK hP 0 rfl rfl d_Model_count_6 ?_
  exact z_iret hx hb hr hlocks hS hP hD ⟨rfl, rfl⟩ d_Model_count_9

set_option maxHeartbeats 4000000 in
set_option maxRecDepth 100000 in
theorem c_Model_get (l : Launch) (D : va_G) (cI cJ : ClassId) (g : Nat) (mr : Nat) (ms : Nat) (mb : Nat) (ml : Nat) (mn : Nat) (mw : Nat) (mt : Nat) (mv : Nat) (mu : Nat) (cd : Int32) (n0 : Nat) (sz : Nat) (bl : Nat) (z : SS) (rq : Nat → Int64) (k : Int32) (hn0 : n0 ≤ 2000) : Ct l D (zT cI cJ) y_Model_get b_Model_get 2 (some .long) 0 0 0 0 [.ref g, .int k] [(g, .inr (4, [.int cd, .ref mr, .ref ms, .int (nI n0), .ref mb, .int (nI sz), .int z.2.2, .ref ml, .ref mn, .ref mw, .ref mt, .ref mv, .ref mu, .int (nI bl), .int (nI z.1), .int (nI z.2.1)])), (mr, .inl (cJ, 2000, .inr (.inl rq)))] (zEq (some (.long (p_get rq n0 k))) [(g, .inr (4, [.int (nI 0), .ref mr, .ref ms, .int (nI n0), .ref mb, .int (nI sz), .int z.2.2, .ref ml, .ref mn, .ref mw, .ref mt, .ref mv, .ref mu, .int (nI bl), .int (nI z.1), .int (nI z.2.1)])), (mr, .inl (cJ, 2000, .inr (.inl rq)))]) := by
  refine Ct.ofW (by decide) (Nat.le_of_ble_eq_true rfl) ?_
  intro p e s m below meth c A ls C0 hP hD hS hl
  obtain ⟨hx, hb, hml, hown, hts, hK, hN, hr, hlocks, hA, hnm⟩ := C0
  have hl : lv_has ls 2 [(0, .ref g), (1, .int k)] := hl
  have hown : s.vm.findClass R_Model = some m.cls := hown
  refine lv_aload_n hx hb d_Model_get_0 rfl (lv_at hl 0 rfl) ?_
  refine lv_iconst (v := nI 0) hx hb d_Model_get_1 (by decide +kernel) ?_
  refine p_Model_42 (w2 := [(g, .inr (4, [.int (nI 0), .ref mr, .ref ms, .int (nI n0), .ref mb, .int (nI sz), .int z.2.2, .ref ml, .ref mn, .ref mw, .ref mt, .ref mv, .ref mu, .int (nI bl), .int (nI z.1), .int (nI z.2.1)])), (mr, .inl (cJ, 2000, .inr (.inl rq)))]) hx hb hts hown hK hP hD hS 0 rfl (Nat.le_of_ble_eq_true rfl) rfl d_Model_get_2 (fun H locs hP hD hS => ?_)
  refine lv_iload_n hx hb d_Model_get_5 rfl (lv_at hl 1 rfl) ?_
  refine lv_if_lt (tgt := 17) hx hb d_Model_get_6 (by decide) (fun c_6 => ?_) (fun c_6 => ?_)
  · skip
    refine lv_lconst (v := 0) hx hb d_Model_get_17 (by decide +kernel) ?_
    refine lv_goto (tgt := 27) hx hb d_Model_get_18 (by decide) ?_
    exact z_lret hx hb hr hlocks hS hP hD ⟨by unfold p_get; first | rw [if_pos (show p_has n0 (nI j) = true from decide_eq_true ⟨c_6, Int32.not_le.mpr c_14⟩), nI_clamp (by omega)] | rw [if_neg (fun z => by first | exact (of_decide_eq_true z).1 c_6 | exact c_14 (Int32.not_le.mp (of_decide_eq_true z).2))], rfl⟩ d_Model_get_27
  · skip
    refine lv_iload_n hx hb d_Model_get_9 rfl (lv_at hl 1 rfl) ?_
    refine lv_aload_n hx hb d_Model_get_10 rfl (lv_at hl 0 rfl) ?_
    refine g_Model_45 hx hb hts hown hK hP 0 rfl rfl d_Model_get_11 ?_
    refine lv_icmp_lt (tgt := 21) hx hb d_Model_get_14 (by decide) (fun c_14 => ?_) (fun c_14 => ?_)
    · skip
      obtain ⟨j, hj, rfl⟩ := p_has_of (us := n0) (k := k) (by omega) (decide_eq_true ⟨c_6, Int32.not_le.mpr c_14⟩)
      refine lv_aload_n hx hb d_Model_get_21 rfl (lv_at hl 0 rfl) ?_
      refine g_Model_7 hx hb hts hown hK hP 0 rfl rfl d_Model_get_22 ?_
      refine lv_iload_n hx hb d_Model_get_25 rfl (lv_at hl 1 rfl) ?_
      refine z_lald hx hb hK hP 1 1 rfl rfl (by omega) (by decide) d_Model_get_26 ?_
      exact z_lret hx hb hr hlocks hS hP hD ⟨by unfold p_get; first | rw [if_pos (show p_has n0 (nI j) = true from decide_eq_true ⟨c_6, Int32.not_le.mpr c_14⟩), nI_clamp (by omega)] | rw [if_neg (fun z => by first | exact (of_decide_eq_true z).1 c_6 | exact c_14 (Int32.not_le.mp (of_decide_eq_true z).2))], rfl⟩ d_Model_get_27
    · skip
      refine lv_lconst (v := 0) hx hb d_Model_get_17 (by decide +kernel) ?_
      refine lv_goto (tgt := 27) hx hb d_Model_get_18 (by decide) ?_
      exact z_lret hx hb hr hlocks hS hP hD ⟨by unfold p_get; first | rw [if_pos (show p_has n0 (nI j) = true from decide_eq_true ⟨c_6, Int32.not_le.mpr c_14⟩), nI_clamp (by omega)] | rw [if_neg (fun z => by first | exact (of_decide_eq_true z).1 c_6 | exact c_14 (Int32.not_le.mp (of_decide_eq_true z).2))], rfl⟩ d_Model_get_27

set_option maxHeartbeats 4000000 in
set_option maxRecDepth 100000 in
theorem c_Model_place (l : Launch) (D : va_G) (cI cJ : ClassId) (g : Nat) (mr : Nat) (ms : Nat) (mb : Nat) (ml : Nat) (mn : Nat) (mw : Nat) (mt : Nat) (mv : Nat) (mu : Nat) (cd : Int32) (n0 : Nat) (sz : Nat) (bl : Nat) (z : SS)  : Ct l D (zT cI cJ) y_Model_place b_Model_place 1 (some .int) 0 0 0 0 [.ref g] [(g, .inr (4, [.int cd, .ref mr, .ref ms, .int (nI n0), .ref mb, .int (nI sz), .int z.2.2, .ref ml, .ref mn, .ref mw, .ref mt, .ref mv, .ref mu, .int (nI bl), .int (nI z.1), .int (nI z.2.1)]))] (zEq (some (.int z.2.2)) [(g, .inr (4, [.int (nI 0), .ref mr, .ref ms, .int (nI n0), .ref mb, .int (nI sz), .int z.2.2, .ref ml, .ref mn, .ref mw, .ref mt, .ref mv, .ref mu, .int (nI bl), .int (nI z.1), .int (nI z.2.1)]))]) := by
  refine Ct.ofW (by decide) (Nat.le_of_ble_eq_true rfl) ?_
  intro p e s m below meth c A ls C0 hP hD hS hl
  obtain ⟨hx, hb, hml, hown, hts, hK, hN, hr, hlocks, hA, hnm⟩ := C0
  have hl : lv_has ls 1 [(0, .ref g)] := hl
  have hown : s.vm.findClass R_Model = some m.cls := hown
  refine lv_aload_n hx hb d_Model_place_0 rfl (lv_at hl 0 rfl) ?_
  refine lv_iconst (v := nI 0) hx hb d_Model_place_1 (by decide +kernel) ?_
  refine p_Model_42 (w2 := [(g, .inr (4, [.int (nI 0), .ref mr, .ref ms, .int (nI n0), .ref mb, .int (nI sz), .int z.2.2, .ref ml, .ref mn, .ref mw, .ref mt, .ref mv, .ref mu, .int (nI bl), .int (nI z.1), .int (nI z.2.1)]))]) hx hb hts hown hK hP hD hS 0 rfl (Nat.le_of_ble_eq_true rfl) rfl d_Model_place_2 (fun H locs hP hD hS => ?_)
  refine lv_aload_n hx hb d_Model_place_5 rfl (lv_at hl 0 rfl) ?_
  refine g_Model_20 hx hb hts hown hK hP 0 rfl rfl d_Model_place_6 ?_
  exact z_iret hx hb hr hlocks hS hP hD ⟨rfl, rfl⟩ d_Model_place_9

set_option maxHeartbeats 4000000 in
set_option maxRecDepth 100000 in
theorem c_Model_size (l : Launch) (D : va_G) (cI cJ : ClassId) (g : Nat) (mr : Nat) (ms : Nat) (mb : Nat) (ml : Nat) (mn : Nat) (mw : Nat) (mt : Nat) (mv : Nat) (mu : Nat) (cd : Int32) (n0 : Nat) (sz : Nat) (bl : Nat) (z : SS)  : Ct l D (zT cI cJ) y_Model_size b_Model_size 1 (some .int) 0 0 0 0 [.ref g] [(g, .inr (4, [.int cd, .ref mr, .ref ms, .int (nI n0), .ref mb, .int (nI sz), .int z.2.2, .ref ml, .ref mn, .ref mw, .ref mt, .ref mv, .ref mu, .int (nI bl), .int (nI z.1), .int (nI z.2.1)]))] (zEq (some (.int (nI sz))) [(g, .inr (4, [.int (nI 0), .ref mr, .ref ms, .int (nI n0), .ref mb, .int (nI sz), .int z.2.2, .ref ml, .ref mn, .ref mw, .ref mt, .ref mv, .ref mu, .int (nI bl), .int (nI z.1), .int (nI z.2.1)]))]) := by
  refine Ct.ofW (by decide) (Nat.le_of_ble_eq_true rfl) ?_
  intro p e s m below meth c A ls C0 hP hD hS hl
  obtain ⟨hx, hb, hml, hown, hts, hK, hN, hr, hlocks, hA, hnm⟩ := C0
  have hl : lv_has ls 1 [(0, .ref g)] := hl
  have hown : s.vm.findClass R_Model = some m.cls := hown
  refine lv_aload_n hx hb d_Model_size_0 rfl (lv_at hl 0 rfl) ?_
  refine lv_iconst (v := nI 0) hx hb d_Model_size_1 (by decide +kernel) ?_
  refine p_Model_42 (w2 := [(g, .inr (4, [.int (nI 0), .ref mr, .ref ms, .int (nI n0), .ref mb, .int (nI sz), .int z.2.2, .ref ml, .ref mn, .ref mw, .ref mt, .ref mv, .ref mu, .int (nI bl), .int (nI z.1), .int (nI z.2.1)]))]) hx hb hts hown hK hP hD hS 0 rfl (Nat.le_of_ble_eq_true rfl) rfl d_Model_size_2 (fun H locs hP hD hS => ?_)
  refine lv_aload_n hx hb d_Model_size_5 rfl (lv_at hl 0 rfl) ?_
  refine g_Model_48 hx hb hts hown hK hP 0 rfl rfl d_Model_size_6 ?_
  exact z_iret hx hb hr hlocks hS hP hD ⟨rfl, rfl⟩ d_Model_size_9

set_option maxHeartbeats 4000000 in
set_option maxRecDepth 100000 in
theorem c_Model_blocks (l : Launch) (D : va_G) (cI cJ : ClassId) (g : Nat) (mr : Nat) (ms : Nat) (mb : Nat) (ml : Nat) (mn : Nat) (mw : Nat) (mt : Nat) (mv : Nat) (mu : Nat) (cd : Int32) (n0 : Nat) (sz : Nat) (bl : Nat) (z : SS)  : Ct l D (zT cI cJ) y_Model_blocks b_Model_blocks 1 (some .int) 0 0 0 0 [.ref g] [(g, .inr (4, [.int cd, .ref mr, .ref ms, .int (nI n0), .ref mb, .int (nI sz), .int z.2.2, .ref ml, .ref mn, .ref mw, .ref mt, .ref mv, .ref mu, .int (nI bl), .int (nI z.1), .int (nI z.2.1)]))] (zEq (some (.int (nI bl))) [(g, .inr (4, [.int (nI 0), .ref mr, .ref ms, .int (nI n0), .ref mb, .int (nI sz), .int z.2.2, .ref ml, .ref mn, .ref mw, .ref mt, .ref mv, .ref mu, .int (nI bl), .int (nI z.1), .int (nI z.2.1)]))]) := by
  refine Ct.ofW (by decide) (Nat.le_of_ble_eq_true rfl) ?_
  intro p e s m below meth c A ls C0 hP hD hS hl
  obtain ⟨hx, hb, hml, hown, hts, hK, hN, hr, hlocks, hA, hnm⟩ := C0
  have hl : lv_has ls 1 [(0, .ref g)] := hl
  have hown : s.vm.findClass R_Model = some m.cls := hown
  refine lv_aload_n hx hb d_Model_blocks_0 rfl (lv_at hl 0 rfl) ?_
  refine lv_iconst (v := nI 0) hx hb d_Model_blocks_1 (by decide +kernel) ?_
  refine p_Model_42 (w2 := [(g, .inr (4, [.int (nI 0), .ref mr, .ref ms, .int (nI n0), .ref mb, .int (nI sz), .int z.2.2, .ref ml, .ref mn, .ref mw, .ref mt, .ref mv, .ref mu, .int (nI bl), .int (nI z.1), .int (nI z.2.1)]))]) hx hb hts hown hK hP hD hS 0 rfl (Nat.le_of_ble_eq_true rfl) rfl d_Model_blocks_2 (fun H locs hP hD hS => ?_)
  refine lv_aload_n hx hb d_Model_blocks_5 rfl (lv_at hl 0 rfl) ?_
  refine g_Model_61 hx hb hts hown hK hP 0 rfl rfl d_Model_blocks_6 ?_
  exact z_iret hx hb hr hlocks hS hP hD ⟨rfl, rfl⟩ d_Model_blocks_9

set_option maxHeartbeats 4000000 in
set_option maxRecDepth 100000 in
theorem c_Model_byteAt (l : Launch) (D : va_G) (cI cJ : ClassId) (g : Nat) (mr : Nat) (ms : Nat) (mb : Nat) (ml : Nat) (mn : Nat) (mw : Nat) (mt : Nat) (mv : Nat) (mu : Nat) (cd : Int32) (n0 : Nat) (bl : Nat) (z : SS) (b : RB) (k : Int32) (hu : b.2 ≤ 20000) : Ct l D (zT cI cJ) y_Model_byteAt b_Model_byteAt 2 (some .int) 0 0 0 0 [.ref g, .int k] [(g, .inr (4, [.int cd, .ref mr, .ref ms, .int (nI n0), .ref mb, .int (nI b.2), .int z.2.2, .ref ml, .ref mn, .ref mw, .ref mt, .ref mv, .ref mu, .int (nI bl), .int (nI z.1), .int (nI z.2.1)])), (mb, .inl (cI, 20000, .inl b.1))] (zEq (some (.int (r_byteAt b k))) [(g, .inr (4, [.int (nI 0), .ref mr, .ref ms, .int (nI n0), .ref mb, .int (nI b.2), .int z.2.2, .ref ml, .ref mn, .ref mw, .ref mt, .ref mv, .ref mu, .int (nI bl), .int (nI z.1), .int (nI z.2.1)])), (mb, .inl (cI, 20000, .inl b.1))]) := by
  refine Ct.ofW (by decide) (Nat.le_of_ble_eq_true rfl) ?_
  intro p e s m below meth c A ls C0 hP hD hS hl
  obtain ⟨hx, hb, hml, hown, hts, hK, hN, hr, hlocks, hA, hnm⟩ := C0
  have hl : lv_has ls 2 [(0, .ref g), (1, .int k)] := hl
  have hown : s.vm.findClass R_Model = some m.cls := hown
  refine lv_aload_n hx hb d_Model_byteAt_0 rfl (lv_at hl 0 rfl) ?_
  refine lv_iconst (v := nI 0) hx hb d_Model_byteAt_1 (by decide +kernel) ?_
  refine p_Model_42 (w2 := [(g, .inr (4, [.int (nI 0), .ref mr, .ref ms, .int (nI n0), .ref mb, .int (nI b.2), .int z.2.2, .ref ml, .ref mn, .ref mw, .ref mt, .ref mv, .ref mu, .int (nI bl), .int (nI z.1), .int (nI z.2.1)])), (mb, .inl (cI, 20000, .inl b.1))]) hx hb hts hown hK hP hD hS 0 rfl (Nat.le_of_ble_eq_true rfl) rfl d_Model_byteAt_2 (fun H locs hP hD hS => ?_)
  refine lv_iload_n hx hb d_Model_byteAt_5 rfl (lv_at hl 1 rfl) ?_
  refine lv_if_lt (tgt := 17) hx hb d_Model_byteAt_6 (by decide) (fun c_6 => ?_) (fun c_6 => ?_)
  · skip
    refine lv_iconst (v := (-1)) hx hb d_Model_byteAt_17 (by decide +kernel) ?_
    refine lv_goto (tgt := 27) hx hb d_Model_byteAt_18 (by decide) ?_
    exact z_iret hx hb hr hlocks hS hP hD ⟨by unfold r_byteAt; first | rw [if_pos (show p_has b.2 (nI j) = true from decide_eq_true ⟨c_6, Int32.not_le.mpr c_14⟩), nI_clamp (by omega)] | rw [if_neg (fun z => by first | exact (of_decide_eq_true z).1 c_6 | exact c_14 (Int32.not_le.mp (of_decide_eq_true z).2))], rfl⟩ d_Model_byteAt_27
  · skip
    refine lv_iload_n hx hb d_Model_byteAt_9 rfl (lv_at hl 1 rfl) ?_
    refine lv_aload_n hx hb d_Model_byteAt_10 rfl (lv_at hl 0 rfl) ?_
    refine g_Model_48 hx hb hts hown hK hP 0 rfl rfl d_Model_byteAt_11 ?_
    refine lv_icmp_lt (tgt := 21) hx hb d_Model_byteAt_14 (by decide) (fun c_14 => ?_) (fun c_14 => ?_)
    · skip
      obtain ⟨j, hj, rfl⟩ := p_has_of (us := b.2) (k := k) (by omega) (decide_eq_true ⟨c_6, Int32.not_le.mpr c_14⟩)
      refine lv_aload_n hx hb d_Model_byteAt_21 rfl (lv_at hl 0 rfl) ?_
      refine g_Model_16 hx hb hts hown hK hP 0 rfl rfl d_Model_byteAt_22 ?_
      refine lv_iload_n hx hb d_Model_byteAt_25 rfl (lv_at hl 1 rfl) ?_
      refine z_iald hx hb hK hP 1 0 rfl rfl (by omega) (by decide) d_Model_byteAt_26 ?_
      exact z_iret hx hb hr hlocks hS hP hD ⟨by unfold r_byteAt; first | rw [if_pos (show p_has b.2 (nI j) = true from decide_eq_true ⟨c_6, Int32.not_le.mpr c_14⟩), nI_clamp (by omega)] | rw [if_neg (fun z => by first | exact (of_decide_eq_true z).1 c_6 | exact c_14 (Int32.not_le.mp (of_decide_eq_true z).2))], rfl⟩ d_Model_byteAt_27
    · skip
      refine lv_iconst (v := (-1)) hx hb d_Model_byteAt_17 (by decide +kernel) ?_
      refine lv_goto (tgt := 27) hx hb d_Model_byteAt_18 (by decide) ?_
      exact z_iret hx hb hr hlocks hS hP hD ⟨by unfold r_byteAt; first | rw [if_pos (show p_has b.2 (nI j) = true from decide_eq_true ⟨c_6, Int32.not_le.mpr c_14⟩), nI_clamp (by omega)] | rw [if_neg (fun z => by first | exact (of_decide_eq_true z).1 c_6 | exact c_14 (Int32.not_le.mp (of_decide_eq_true z).2))], rfl⟩ d_Model_byteAt_27

set_option maxHeartbeats 4000000 in
set_option maxRecDepth 100000 in
theorem c_Model_setByte (l : Launch) (D : va_G) (cI cJ : ClassId) (g : Nat) (mr : Nat) (ms : Nat) (mb : Nat) (ml : Nat) (mn : Nat) (mw : Nat) (mt : Nat) (mv : Nat) (mu : Nat) (cd : Int32) (n0 : Nat) (bl : Nat) (z : SS) (b : RB) (k : Int32) (v : Int32) (hu : b.2 ≤ 20000) : Ct l D (zT cI cJ) y_Model_setByte b_Model_setByte 3 (some .boolean) 0 0 0 0 [.ref g, .int k, .int v] [(g, .inr (4, [.int cd, .ref mr, .ref ms, .int (nI n0), .ref mb, .int (nI b.2), .int z.2.2, .ref ml, .ref mn, .ref mw, .ref mt, .ref mv, .ref mu, .int (nI bl), .int (nI z.1), .int (nI z.2.1)])), (mb, .inl (cI, 20000, .inl b.1))] (zEq (some (.int (zb (p_has b.2 k)))) [(g, .inr (4, [.int (nI 0), .ref mr, .ref ms, .int (nI n0), .ref mb, .int (nI b.2), .int z.2.2, .ref ml, .ref mn, .ref mw, .ref mt, .ref mv, .ref mu, .int (nI bl), .int (nI z.1), .int (nI z.2.1)])), (mb, .inl (cI, 20000, .inl (r_setByte b k v)))]) := by
  refine Ct.ofW (by decide) (Nat.le_of_ble_eq_true rfl) ?_
  intro p e s m below meth c A ls C0 hP hD hS hl
  obtain ⟨hx, hb, hml, hown, hts, hK, hN, hr, hlocks, hA, hnm⟩ := C0
  have hl : lv_has ls 3 [(0, .ref g), (1, .int k), (2, .int v)] := hl
  have hown : s.vm.findClass R_Model = some m.cls := hown
  refine lv_aload_n hx hb d_Model_setByte_0 rfl (lv_at hl 0 rfl) ?_
  refine lv_iconst (v := nI 0) hx hb d_Model_setByte_1 (by decide +kernel) ?_
  refine p_Model_42 (w2 := [(g, .inr (4, [.int (nI 0), .ref mr, .ref ms, .int (nI n0), .ref mb, .int (nI b.2), .int z.2.2, .ref ml, .ref mn, .ref mw, .ref mt, .ref mv, .ref mu, .int (nI bl), .int (nI z.1), .int (nI z.2.1)])), (mb, .inl (cI, 20000, .inl b.1))]) hx hb hts hown hK hP hD hS 0 rfl (Nat.le_of_ble_eq_true rfl) rfl d_Model_setByte_2 (fun H locs hP hD hS => ?_)
  refine lv_iload_n hx hb d_Model_setByte_5 rfl (lv_at hl 1 rfl) ?_
  refine lv_if_lt (tgt := 17) hx hb d_Model_setByte_6 (by decide) (fun c_6 => ?_) (fun c_6 => ?_)
  · skip
    refine lv_iconst (v := nI 0) hx hb d_Model_setByte_17 (by decide +kernel) ?_
    exact z_bret hx hb hr hlocks (Or.inl rfl) hS hP hD ⟨zb_f (decide_eq_false (fun z => by first | exact z.1 c_6 | exact c_14 (Int32.not_le.mp z.2))), by unfold r_setByte; rw [if_neg (fun z => by first | exact (of_decide_eq_true z).1 c_6 | exact c_14 (Int32.not_le.mp (of_decide_eq_true z).2))]⟩ d_Model_setByte_18
  · skip
    refine lv_iload_n hx hb d_Model_setByte_9 rfl (lv_at hl 1 rfl) ?_
    refine lv_aload_n hx hb d_Model_setByte_10 rfl (lv_at hl 0 rfl) ?_
    refine g_Model_48 hx hb hts hown hK hP 0 rfl rfl d_Model_setByte_11 ?_
    refine lv_icmp_lt (tgt := 19) hx hb d_Model_setByte_14 (by decide) (fun c_14 => ?_) (fun c_14 => ?_)
    · skip
      obtain ⟨j, hj, rfl⟩ := p_has_of (us := b.2) (k := k) (by omega) (decide_eq_true ⟨c_6, Int32.not_le.mpr c_14⟩)
      refine lv_aload_n hx hb d_Model_setByte_19 rfl (lv_at hl 0 rfl) ?_
      refine g_Model_16 hx hb hts hown hK hP 0 rfl rfl d_Model_setByte_20 ?_
      refine lv_iload_n hx hb d_Model_setByte_23 rfl (lv_at hl 1 rfl) ?_
      refine lv_iload_n hx hb d_Model_setByte_24 rfl (lv_at hl 2 rfl) ?_
      refine lv_sipush (v := nI 255) hx hb d_Model_setByte_25 (by decide +kernel) ?_
      refine lv_iand hx hb d_Model_setByte_28 ?_
      refine z_i (v := nI (low8 v)) (r_low v) ?_
      refine z_iast (w2 := [(g, .inr (4, [.int (nI 0), .ref mr, .ref ms, .int (nI n0), .ref mb, .int (nI b.2), .int z.2.2, .ref ml, .ref mn, .ref mw, .ref mt, .ref mv, .ref mu, .int (nI bl), .int (nI z.1), .int (nI z.2.1)])), (mb, .inl (cI, 20000, .inl (upd b.1 j (nI (low8 v)))))]) hx hb hK hP hD hS 1 0 rfl rfl (by omega) (by decide) d_Model_setByte_29 rfl (fun H locs hP hD hS => ?_)
      refine lv_iconst (v := nI 1) hx hb d_Model_setByte_30 (by decide +kernel) ?_
      exact z_bret hx hb hr hlocks (Or.inr rfl) hS hP hD ⟨zb_t (decide_eq_true ⟨c_6, Int32.not_le.mpr c_14⟩), by unfold r_setByte; rw [if_pos (show p_has b.2 (nI j) = true from decide_eq_true ⟨c_6, Int32.not_le.mpr c_14⟩), nI_clamp (by omega)]⟩ d_Model_setByte_31
    · skip
      refine lv_iconst (v := nI 0) hx hb d_Model_setByte_17 (by decide +kernel) ?_
      exact z_bret hx hb hr hlocks (Or.inl rfl) hS hP hD ⟨zb_f (decide_eq_false (fun z => by first | exact z.1 c_6 | exact c_14 (Int32.not_le.mp z.2))), by unfold r_setByte; rw [if_neg (fun z => by first | exact (of_decide_eq_true z).1 c_6 | exact c_14 (Int32.not_le.mp (of_decide_eq_true z).2))]⟩ d_Model_setByte_18

set_option maxHeartbeats 4000000 in
set_option maxRecDepth 100000 in
theorem c_Model_add (l : Launch) (D : va_G) (cI cJ : ClassId) (g : Nat) (mr : Nat) (ms : Nat) (mb : Nat) (ml : Nat) (mn : Nat) (mw : Nat) (mt : Nat) (mv : Nat) (mu : Nat) (cd : Int32) (n0 : Nat) (bl : Nat) (z : SS) (b : RB) (v : Int32) (hu : b.2 < 20000) : Ct l D (zT cI cJ) y_Model_add b_Model_add 2 none 0 0 0 0 [.ref g, .int v] [(g, .inr (4, [.int cd, .ref mr, .ref ms, .int (nI n0), .ref mb, .int (nI b.2), .int z.2.2, .ref ml, .ref mn, .ref mw, .ref mt, .ref mv, .ref mu, .int (nI bl), .int (nI z.1), .int (nI z.2.1)])), (mb, .inl (cI, 20000, .inl b.1))] (zEq none [(g, .inr (4, [.int cd, .ref mr, .ref ms, .int (nI n0), .ref mb, .int (nI ((r_add b v).2)), .int z.2.2, .ref ml, .ref mn, .ref mw, .ref mt, .ref mv, .ref mu, .int (nI bl), .int (nI z.1), .int (nI z.2.1)])), (mb, .inl (cI, 20000, .inl ((r_add b v).1)))]) := by
  refine Ct.ofW (by decide) (Nat.le_of_ble_eq_true rfl) ?_
  intro p e s m below meth c A ls C0 hP hD hS hl
  obtain ⟨hx, hb, hml, hown, hts, hK, hN, hr, hlocks, hA, hnm⟩ := C0
  have hl : lv_has ls 2 [(0, .ref g), (1, .int v)] := hl
  have hown : s.vm.findClass R_Model = some m.cls := hown
  refine lv_aload_n hx hb d_Model_add_0 rfl (lv_at hl 0 rfl) ?_
  refine g_Model_16 hx hb hts hown hK hP 0 rfl rfl d_Model_add_1 ?_
  refine lv_aload_n hx hb d_Model_add_4 rfl (lv_at hl 0 rfl) ?_
  refine g_Model_48 hx hb hts hown hK hP 0 rfl rfl d_Model_add_5 ?_
  refine lv_iload_n hx hb d_Model_add_8 rfl (lv_at hl 1 rfl) ?_
  refine lv_sipush (v := nI 255) hx hb d_Model_add_9 (by decide +kernel) ?_
  refine lv_iand hx hb d_Model_add_12 ?_
  refine z_i (v := nI (low8 v)) (r_low v) ?_
  refine z_iast (w2 := [(g, .inr (4, [.int cd, .ref mr, .ref ms, .int (nI n0), .ref mb, .int (nI b.2), .int z.2.2, .ref ml, .ref mn, .ref mw, .ref mt, .ref mv, .ref mu, .int (nI bl), .int (nI z.1), .int (nI z.2.1)])), (mb, .inl (cI, 20000, .inl (upd b.1 b.2 (nI (low8 v)))))]) hx hb hK hP hD hS 1 0 rfl rfl (by omega) (by decide) d_Model_add_13 rfl (fun H locs hP hD hS => ?_)
  refine lv_aload_n hx hb d_Model_add_14 rfl (lv_at hl 0 rfl) ?_
  refine lv_dup hx hb d_Model_add_15 rfl ?_
  refine g_Model_48 hx hb hts hown hK hP 0 rfl rfl d_Model_add_16 ?_
  refine lv_iconst (v := nI 1) hx hb d_Model_add_19 (by decide +kernel) ?_
  refine lv_iadd hx hb d_Model_add_20 (z_i (nI_add b.2 1) ?_)
  refine p_Model_48 (w2 := [(g, .inr (4, [.int cd, .ref mr, .ref ms, .int (nI n0), .ref mb, .int (nI (b.2 + 1)), .int z.2.2, .ref ml, .ref mn, .ref mw, .ref mt, .ref mv, .ref mu, .int (nI bl), .int (nI z.1), .int (nI z.2.1)])), (mb, .inl (cI, 20000, .inl (upd b.1 b.2 (nI (low8 v)))))]) hx hb hts hown hK hP hD hS 0 rfl (Nat.le_of_ble_eq_true rfl) rfl d_Model_add_21 (fun H locs hP hD hS => ?_)
  exact z_vret hx hb hr hlocks hS hP hD ⟨rfl, rfl⟩ d_Model_add_24

set_option maxHeartbeats 4000000 in
set_option maxRecDepth 100000 in
theorem c_Model_append (l : Launch) (D : va_G) (cI cJ : ClassId) (g : Nat) (mr : Nat) (ms : Nat) (mb : Nat) (ml : Nat) (mn : Nat) (mw : Nat) (mt : Nat) (mv : Nat) (mu : Nat) (cd : Int32) (n0 : Nat) (bl : Nat) (z : SS) (b : RB) (v : Int32) (hu : b.2 ≤ 20000) : Ct l D (zT cI cJ) y_Model_append b_Model_append 2 (some .boolean) 1 21 0 0 [.ref g, .int v] [(g, .inr (4, [.int cd, .ref mr, .ref ms, .int (nI n0), .ref mb, .int (nI b.2), .int z.2.2, .ref ml, .ref mn, .ref mw, .ref mt, .ref mv, .ref mu, .int (nI bl), .int (nI z.1), .int (nI z.2.1)])), (mb, .inl (cI, 20000, .inl b.1))] (zEq (some (.int (zb (decide (b.2 < 20000))))) [(g, .inr (4, [.int (nI 0), .ref mr, .ref ms, .int (nI n0), .ref mb, .int (nI ((r_app b v).2)), .int z.2.2, .ref ml, .ref mn, .ref mw, .ref mt, .ref mv, .ref mu, .int (nI bl), .int (nI z.1), .int (nI z.2.1)])), (mb, .inl (cI, 20000, .inl ((r_app b v).1)))]) := by
  refine Ct.ofW (by decide) (Nat.le_of_ble_eq_true rfl) ?_
  intro p e s m below meth c A ls C0 hP hD hS hl
  obtain ⟨hx, hb, hml, hown, hts, hK, hN, hr, hlocks, hA, hnm⟩ := C0
  have hl : lv_has ls 2 [(0, .ref g), (1, .int v)] := hl
  have hown : s.vm.findClass R_Model = some m.cls := hown
  refine lv_aload_n hx hb d_Model_append_0 rfl (lv_at hl 0 rfl) ?_
  refine lv_iconst (v := nI 0) hx hb d_Model_append_1 (by decide +kernel) ?_
  refine p_Model_42 (w2 := [(g, .inr (4, [.int (nI 0), .ref mr, .ref ms, .int (nI n0), .ref mb, .int (nI b.2), .int z.2.2, .ref ml, .ref mn, .ref mw, .ref mt, .ref mv, .ref mu, .int (nI bl), .int (nI z.1), .int (nI z.2.1)])), (mb, .inl (cI, 20000, .inl b.1))]) hx hb hts hown hK hP hD hS 0 rfl (Nat.le_of_ble_eq_true rfl) rfl d_Model_append_2 (fun H locs hP hD hS => ?_)
  refine lv_aload_n hx hb d_Model_append_5 rfl (lv_at hl 0 rfl) ?_
  refine g_Model_48 hx hb hts hown hK hP 0 rfl rfl d_Model_append_6 ?_
  refine lv_sipush (v := nI 20000) hx hb d_Model_append_9 (by decide +kernel) ?_
  refine zn_ne (a := b.2) (b := 20000) (by omega) (by omega) hx hb d_Model_append_12 (tgt := 17) (by decide) (fun c_12 => ?_) (fun c_12 => ?_)
  · skip
    refine lv_aload_n hx hb d_Model_append_17 rfl (lv_at hl 0 rfl) ?_
    refine lv_iload_n hx hb d_Model_append_18 rfl (lv_at hl 1 rfl) ?_
    refine z_callEv (wr := []) (w2 := [(g, .inr (4, [.int (nI 0), .ref mr, .ref ms, .int (nI n0), .ref mb, .int (nI ((r_add b v).2)), .int z.2.2, .ref ml, .ref mn, .ref mw, .ref mt, .ref mv, .ref mu, .int (nI bl), .int (nI z.1), .int (nI z.2.1)])), (mb, .inl (cI, 20000, .inl ((r_add b v).1)))]) (z_runV (rest := []) hx hb hml hown hts hK hN (c_Model_add l D cI cJ g mr ms mb ml mn mw mt mv mu (nI 0) n0 bl z b v (by (try dsimp only); omega)) kk_Model_53 (zP.cut hP [0, 1] rfl) (hD.sub [0, 1] (by decide) rfl) 0 rfl rfl rfl hl.1 rfl (Nat.le_of_ble_eq_true rfl) d_Model_append_19 (by decide) (by decide)) hP hD hS hA [0, 1] [] [0, 1] rfl rfl (by decide) (by decide) (by decide) rfl (fun H locs hP hD hS => ?_)
    refine lv_iconst (v := nI 1) hx hb d_Model_append_22 (by decide +kernel) ?_
    exact z_bret hx hb hr hlocks (Or.inr rfl) hS hP hD ⟨zb_t (decide_eq_true (by omega)), by unfold r_app; rw [if_pos (show b.2 < 20000 by omega)]⟩ d_Model_append_23
  · skip
    refine lv_iconst (v := nI 0) hx hb d_Model_append_15 (by decide +kernel) ?_
    exact z_bret hx hb hr hlocks (Or.inl rfl) hS hP hD ⟨zb_f (decide_eq_false (by omega)), by unfold r_app; rw [if_neg (by omega)]⟩ d_Model_append_16

set_option maxHeartbeats 4000000 in
set_option maxRecDepth 100000 in
theorem c_Model_cut (l : Launch) (D : va_G) (cI cJ : ClassId) (g : Nat) (mr : Nat) (ms : Nat) (mb : Nat) (ml : Nat) (mn : Nat) (mw : Nat) (mt : Nat) (mv : Nat) (mu : Nat) (cd : Int32) (n0 : Nat) (sz : Nat) (bl : Nat) (z : SS) (k : Int32) (hu : sz ≤ 20000) : Ct l D (zT cI cJ) y_Model_cut b_Model_cut 2 (some .boolean) 0 0 0 0 [.ref g, .int k] [(g, .inr (4, [.int cd, .ref mr, .ref ms, .int (nI n0), .ref mb, .int (nI sz), .int z.2.2, .ref ml, .ref mn, .ref mw, .ref mt, .ref mv, .ref mu, .int (nI bl), .int (nI z.1), .int (nI z.2.1)]))] (zEq (some (.int (zb (p_cutB sz k)))) [(g, .inr (4, [.int (nI 0), .ref mr, .ref ms, .int (nI n0), .ref mb, .int (nI (p_cut sz k)), .int z.2.2, .ref ml, .ref mn, .ref mw, .ref mt, .ref mv, .ref mu, .int (nI bl), .int (nI z.1), .int (nI z.2.1)]))]) := by
  refine Ct.ofW (by decide) (Nat.le_of_ble_eq_true rfl) ?_
  intro p e s m below meth c A ls C0 hP hD hS hl
  obtain ⟨hx, hb, hml, hown, hts, hK, hN, hr, hlocks, hA, hnm⟩ := C0
  have hl : lv_has ls 2 [(0, .ref g), (1, .int k)] := hl
  have hown : s.vm.findClass R_Model = some m.cls := hown
  refine lv_aload_n hx hb d_Model_cut_0 rfl (lv_at hl 0 rfl) ?_
  refine lv_iconst (v := nI 0) hx hb d_Model_cut_1 (by decide +kernel) ?_
  refine p_Model_42 (w2 := [(g, .inr (4, [.int (nI 0), .ref mr, .ref ms, .int (nI n0), .ref mb, .int (nI sz), .int z.2.2, .ref ml, .ref mn, .ref mw, .ref mt, .ref mv, .ref mu, .int (nI bl), .int (nI z.1), .int (nI z.2.1)]))]) hx hb hts hown hK hP hD hS 0 rfl (Nat.le_of_ble_eq_true rfl) rfl d_Model_cut_2 (fun H locs hP hD hS => ?_)
  refine lv_iload_n hx hb d_Model_cut_5 rfl (lv_at hl 1 rfl) ?_
  refine lv_if_lt (tgt := 17) hx hb d_Model_cut_6 (by decide) (fun c_6 => ?_) (fun c_6 => ?_)
  · skip
    refine lv_iconst (v := nI 0) hx hb d_Model_cut_17 (by decide +kernel) ?_
    exact z_bret hx hb hr hlocks (Or.inl rfl) hS hP hD ⟨zb_f (decide_eq_false (fun z => by first | exact z.1 c_6 | exact c_14 z.2)), by unfold p_cut; rw [if_neg (fun z => by first | exact (of_decide_eq_true z).1 c_6 | exact c_14 (of_decide_eq_true z).2)]⟩ d_Model_cut_18
  · skip
    refine lv_iload_n hx hb d_Model_cut_9 rfl (lv_at hl 1 rfl) ?_
    refine lv_aload_n hx hb d_Model_cut_10 rfl (lv_at hl 0 rfl) ?_
    refine g_Model_48 hx hb hts hown hK hP 0 rfl rfl d_Model_cut_11 ?_
    refine lv_icmp_le (tgt := 19) hx hb d_Model_cut_14 (by decide) (fun c_14 => ?_) (fun c_14 => ?_)
    · skip
      obtain ⟨j, hj, rfl⟩ := p_cutB_of (us := sz) (k := k) (by omega) (decide_eq_true ⟨c_6, c_14⟩)
      refine lv_aload_n hx hb d_Model_cut_19 rfl (lv_at hl 0 rfl) ?_
      refine lv_iload_n hx hb d_Model_cut_20 rfl (lv_at hl 1 rfl) ?_
      refine p_Model_48 (w2 := [(g, .inr (4, [.int (nI 0), .ref mr, .ref ms, .int (nI n0), .ref mb, .int (nI j), .int z.2.2, .ref ml, .ref mn, .ref mw, .ref mt, .ref mv, .ref mu, .int (nI bl), .int (nI z.1), .int (nI z.2.1)]))]) hx hb hts hown hK hP hD hS 0 rfl (Nat.le_of_ble_eq_true rfl) rfl d_Model_cut_21 (fun H locs hP hD hS => ?_)
      refine lv_iconst (v := nI 1) hx hb d_Model_cut_24 (by decide +kernel) ?_
      exact z_bret hx hb hr hlocks (Or.inr rfl) hS hP hD ⟨zb_t (decide_eq_true ⟨c_6, c_14⟩), by unfold p_cut; rw [if_pos (show p_cutB sz (nI j) = true from decide_eq_true ⟨c_6, c_14⟩), nI_clamp (by omega)]⟩ d_Model_cut_25
    · skip
      refine lv_iconst (v := nI 0) hx hb d_Model_cut_17 (by decide +kernel) ?_
      exact z_bret hx hb hr hlocks (Or.inl rfl) hS hP hD ⟨zb_f (decide_eq_false (fun z => by first | exact z.1 c_6 | exact c_14 z.2)), by unfold p_cut; rw [if_neg (fun z => by first | exact (of_decide_eq_true z).1 c_6 | exact c_14 (of_decide_eq_true z).2)]⟩ d_Model_cut_18

set_option maxHeartbeats 4000000 in
set_option maxRecDepth 100000 in
theorem c_Model_least (l : Launch) (D : va_G) (cI cJ : ClassId) (g : Nat) (mr : Nat) (ms : Nat) (mb : Nat) (ml : Nat) (mn : Nat) (mw : Nat) (mt : Nat) (mv : Nat) (mu : Nat) (cd : Int32) (n0 : Nat) (sz : Nat) (bl : Nat) (z : SS) (le : Nat → Int64) (k : Int32) (hbl : bl ≤ 32) : Ct l D (zT cI cJ) y_Model_least b_Model_least 2 (some .long) 0 0 0 0 [.ref g, .int k] [(g, .inr (4, [.int cd, .ref mr, .ref ms, .int (nI n0), .ref mb, .int (nI sz), .int z.2.2, .ref ml, .ref mn, .ref mw, .ref mt, .ref mv, .ref mu, .int (nI bl), .int (nI z.1), .int (nI z.2.1)])), (ml, .inl (cJ, 40, .inr (.inl le)))] (zEq (some (.long (p_least bl le k))) [(g, .inr (4, [.int (nI 0), .ref mr, .ref ms, .int (nI n0), .ref mb, .int (nI sz), .int z.2.2, .ref ml, .ref mn, .ref mw, .ref mt, .ref mv, .ref mu, .int (nI bl), .int (nI z.1), .int (nI z.2.1)])), (ml, .inl (cJ, 40, .inr (.inl le)))]) := by
  refine Ct.ofW (by decide) (Nat.le_of_ble_eq_true rfl) ?_
  intro p e s m below meth c A ls C0 hP hD hS hl
  obtain ⟨hx, hb, hml, hown, hts, hK, hN, hr, hlocks, hA, hnm⟩ := C0
  have hl : lv_has ls 2 [(0, .ref g), (1, .int k)] := hl
  have hown : s.vm.findClass R_Model = some m.cls := hown
  refine lv_aload_n hx hb d_Model_least_0 rfl (lv_at hl 0 rfl) ?_
  refine lv_iconst (v := nI 0) hx hb d_Model_least_1 (by decide +kernel) ?_
  refine p_Model_42 (w2 := [(g, .inr (4, [.int (nI 0), .ref mr, .ref ms, .int (nI n0), .ref mb, .int (nI sz), .int z.2.2, .ref ml, .ref mn, .ref mw, .ref mt, .ref mv, .ref mu, .int (nI bl), .int (nI z.1), .int (nI z.2.1)])), (ml, .inl (cJ, 40, .inr (.inl le)))]) hx hb hts hown hK hP hD hS 0 rfl (Nat.le_of_ble_eq_true rfl) rfl d_Model_least_2 (fun H locs hP hD hS => ?_)
  refine lv_iload_n hx hb d_Model_least_5 rfl (lv_at hl 1 rfl) ?_
  refine lv_if_lt (tgt := 17) hx hb d_Model_least_6 (by decide) (fun c_6 => ?_) (fun c_6 => ?_)
  · skip
    refine lv_lconst (v := 0) hx hb d_Model_least_17 (by decide +kernel) ?_
    refine lv_goto (tgt := 27) hx hb d_Model_least_18 (by decide) ?_
    exact z_lret hx hb hr hlocks hS hP hD ⟨by unfold p_least; first | rw [if_pos (show p_has bl (nI j) = true from decide_eq_true ⟨c_6, Int32.not_le.mpr c_14⟩), nI_clamp (by omega)] | rw [if_neg (fun z => by first | exact (of_decide_eq_true z).1 c_6 | exact c_14 (Int32.not_le.mp (of_decide_eq_true z).2))], rfl⟩ d_Model_least_27
  · skip
    refine lv_iload_n hx hb d_Model_least_9 rfl (lv_at hl 1 rfl) ?_
    refine lv_aload_n hx hb d_Model_least_10 rfl (lv_at hl 0 rfl) ?_
    refine g_Model_61 hx hb hts hown hK hP 0 rfl rfl d_Model_least_11 ?_
    refine lv_icmp_lt (tgt := 21) hx hb d_Model_least_14 (by decide) (fun c_14 => ?_) (fun c_14 => ?_)
    · skip
      obtain ⟨j, hj, rfl⟩ := p_has_of (us := bl) (k := k) (by omega) (decide_eq_true ⟨c_6, Int32.not_le.mpr c_14⟩)
      refine lv_aload_n hx hb d_Model_least_21 rfl (lv_at hl 0 rfl) ?_
      refine g_Model_24 hx hb hts hown hK hP 0 rfl rfl d_Model_least_22 ?_
      refine lv_iload_n hx hb d_Model_least_25 rfl (lv_at hl 1 rfl) ?_
      refine z_lald hx hb hK hP 1 1 rfl rfl (by omega) (by decide) d_Model_least_26 ?_
      exact z_lret hx hb hr hlocks hS hP hD ⟨by unfold p_least; first | rw [if_pos (show p_has bl (nI j) = true from decide_eq_true ⟨c_6, Int32.not_le.mpr c_14⟩), nI_clamp (by omega)] | rw [if_neg (fun z => by first | exact (of_decide_eq_true z).1 c_6 | exact c_14 (Int32.not_le.mp (of_decide_eq_true z).2))], rfl⟩ d_Model_least_27
    · skip
      refine lv_lconst (v := 0) hx hb d_Model_least_17 (by decide +kernel) ?_
      refine lv_goto (tgt := 27) hx hb d_Model_least_18 (by decide) ?_
      exact z_lret hx hb hr hlocks hS hP hD ⟨by unfold p_least; first | rw [if_pos (show p_has bl (nI j) = true from decide_eq_true ⟨c_6, Int32.not_le.mpr c_14⟩), nI_clamp (by omega)] | rw [if_neg (fun z => by first | exact (of_decide_eq_true z).1 c_6 | exact c_14 (Int32.not_le.mp (of_decide_eq_true z).2))], rfl⟩ d_Model_least_27

set_option maxHeartbeats 4000000 in
set_option maxRecDepth 100000 in
theorem c_Model_width (l : Launch) (D : va_G) (cI cJ : ClassId) (g : Nat) (mr : Nat) (ms : Nat) (mb : Nat) (ml : Nat) (mn : Nat) (mw : Nat) (mt : Nat) (mv : Nat) (mu : Nat) (cd : Int32) (n0 : Nat) (sz : Nat) (bl : Nat) (z : SS) (wi : Nat → Int32) (k : Int32) (pp : Int32) (hbl : bl ≤ 32) : Ct l D (zT cI cJ) y_Model_width b_Model_width 3 (some .int) 0 0 0 0 [.ref g, .int k, .int pp] [(g, .inr (4, [.int cd, .ref mr, .ref ms, .int (nI n0), .ref mb, .int (nI sz), .int z.2.2, .ref ml, .ref mn, .ref mw, .ref mt, .ref mv, .ref mu, .int (nI bl), .int (nI z.1), .int (nI z.2.1)])), (mw, .inl (cI, 160, .inl wi))] (zEq (some (.int (p_part bl wi k pp))) [(g, .inr (4, [.int (nI 0), .ref mr, .ref ms, .int (nI n0), .ref mb, .int (nI sz), .int z.2.2, .ref ml, .ref mn, .ref mw, .ref mt, .ref mv, .ref mu, .int (nI bl), .int (nI z.1), .int (nI z.2.1)])), (mw, .inl (cI, 160, .inl wi))]) := by
  refine Ct.ofW (by decide) (Nat.le_of_ble_eq_true rfl) ?_
  intro p e s m below meth c A ls C0 hP hD hS hl
  obtain ⟨hx, hb, hml, hown, hts, hK, hN, hr, hlocks, hA, hnm⟩ := C0
  have hl : lv_has ls 3 [(0, .ref g), (1, .int k), (2, .int pp)] := hl
  have hown : s.vm.findClass R_Model = some m.cls := hown
  refine lv_aload_n hx hb d_Model_width_0 rfl (lv_at hl 0 rfl) ?_
  refine lv_iconst (v := nI 0) hx hb d_Model_width_1 (by decide +kernel) ?_
  refine p_Model_42 (w2 := [(g, .inr (4, [.int (nI 0), .ref mr, .ref ms, .int (nI n0), .ref mb, .int (nI sz), .int z.2.2, .ref ml, .ref mn, .ref mw, .ref mt, .ref mv, .ref mu, .int (nI bl), .int (nI z.1), .int (nI z.2.1)])), (mw, .inl (cI, 160, .inl wi))]) hx hb hts hown hK hP hD hS 0 rfl (Nat.le_of_ble_eq_true rfl) rfl d_Model_width_2 (fun H locs hP hD hS => ?_)
  refine lv_iload_n hx hb d_Model_width_5 rfl (lv_at hl 1 rfl) ?_
  refine lv_if_lt (tgt := 26) hx hb d_Model_width_6 (by decide) (fun c_6 => ?_) (fun c_6 => ?_)
  · skip
    refine lv_iconst (v := (-1)) hx hb d_Model_width_26 (by decide +kernel) ?_
    refine lv_goto (tgt := 40) hx hb d_Model_width_27 (by decide) ?_
    exact z_iret hx hb hr hlocks hS hP hD ⟨by first | rw [r_part hj hi4 (by omega)] | rw [r_part0 (by first | exact Or.inl c_6 | exact Or.inr (Or.inl c_14) | exact Or.inr (Or.inr (Or.inl c_18)) | exact Or.inr (Or.inr (Or.inr c_23)))], rfl⟩ d_Model_width_40
  · skip
    refine lv_iload_n hx hb d_Model_width_9 rfl (lv_at hl 1 rfl) ?_
    refine lv_aload_n hx hb d_Model_width_10 rfl (lv_at hl 0 rfl) ?_
    refine g_Model_61 hx hb hts hown hK hP 0 rfl rfl d_Model_width_11 ?_
    refine lv_icmp_ge (tgt := 26) hx hb d_Model_width_14 (by decide) (fun c_14 => ?_) (fun c_14 => ?_)
    · skip
      refine lv_iconst (v := (-1)) hx hb d_Model_width_26 (by decide +kernel) ?_
      refine lv_goto (tgt := 40) hx hb d_Model_width_27 (by decide) ?_
      exact z_iret hx hb hr hlocks hS hP hD ⟨by first | rw [r_part hj hi4 (by omega)] | rw [r_part0 (by first | exact Or.inl c_6 | exact Or.inr (Or.inl c_14) | exact Or.inr (Or.inr (Or.inl c_18)) | exact Or.inr (Or.inr (Or.inr c_23)))], rfl⟩ d_Model_width_40
    · skip
      refine lv_iload_n hx hb d_Model_width_17 rfl (lv_at hl 2 rfl) ?_
      refine lv_if_lt (tgt := 26) hx hb d_Model_width_18 (by decide) (fun c_18 => ?_) (fun c_18 => ?_)
      · skip
        refine lv_iconst (v := (-1)) hx hb d_Model_width_26 (by decide +kernel) ?_
        refine lv_goto (tgt := 40) hx hb d_Model_width_27 (by decide) ?_
        exact z_iret hx hb hr hlocks hS hP hD ⟨by first | rw [r_part hj hi4 (by omega)] | rw [r_part0 (by first | exact Or.inl c_6 | exact Or.inr (Or.inl c_14) | exact Or.inr (Or.inr (Or.inl c_18)) | exact Or.inr (Or.inr (Or.inr c_23)))], rfl⟩ d_Model_width_40
      · skip
        refine lv_iload_n hx hb d_Model_width_21 rfl (lv_at hl 2 rfl) ?_
        refine lv_iconst (v := nI 3) hx hb d_Model_width_22 (by decide +kernel) ?_
        refine lv_icmp_le (tgt := 30) hx hb d_Model_width_23 (by decide) (fun c_23 => ?_) (fun c_23 => ?_)
        · skip
          obtain ⟨j, hj, rfl⟩ := p_has_of (us := bl) (k := k) (by omega) (decide_eq_true ⟨c_6, c_14⟩)
          obtain ⟨i, hi, rfl⟩ := nI_of (x := pp) c_18
          have hi4 : i < 4 := by have := (nI_leI hi (by decide)).mp c_23; omega
          refine lv_aload_n hx hb d_Model_width_30 rfl (lv_at hl 0 rfl) ?_
          refine g_Model_30 hx hb hts hown hK hP 0 rfl rfl d_Model_width_31 ?_
          refine lv_iconst (v := nI 4) hx hb d_Model_width_34 (by decide +kernel) ?_
          refine lv_iload_n hx hb d_Model_width_35 rfl (lv_at hl 1 rfl) ?_
          refine lv_imul hx hb d_Model_width_36 (z_i (pk_mul 4 j) ?_)
          refine lv_iload_n hx hb d_Model_width_37 rfl (lv_at hl 2 rfl) ?_
          refine lv_iadd hx hb d_Model_width_38 (z_i (nI_add (4 * j) i) ?_)
          refine z_iald hx hb hK hP 1 0 rfl rfl (by omega) (by decide) d_Model_width_39 ?_
          exact z_iret hx hb hr hlocks hS hP hD ⟨by first | rw [r_part hj hi4 (by omega)] | rw [r_part0 (by first | exact Or.inl c_6 | exact Or.inr (Or.inl c_14) | exact Or.inr (Or.inr (Or.inl c_18)) | exact Or.inr (Or.inr (Or.inr c_23)))], rfl⟩ d_Model_width_40
        · skip
          refine lv_iconst (v := (-1)) hx hb d_Model_width_26 (by decide +kernel) ?_
          refine lv_goto (tgt := 40) hx hb d_Model_width_27 (by decide) ?_
          exact z_iret hx hb hr hlocks hS hP hD ⟨by first | rw [r_part hj hi4 (by omega)] | rw [r_part0 (by first | exact Or.inl c_6 | exact Or.inr (Or.inl c_14) | exact Or.inr (Or.inr (Or.inl c_18)) | exact Or.inr (Or.inr (Or.inr c_23)))], rfl⟩ d_Model_width_40

set_option maxHeartbeats 4000000 in
set_option maxRecDepth 100000 in
theorem c_Model_start (l : Launch) (D : va_G) (cI cJ : ClassId) (g : Nat) (mr : Nat) (ms : Nat) (mb : Nat) (ml : Nat) (mn : Nat) (mw : Nat) (mt : Nat) (mv : Nat) (mu : Nat) (cd : Int32) (n0 : Nat) (sz : Nat) (bl : Nat) (z : SS) (st : Nat → Int32) (k : Int32) (pp : Int32) (hbl : bl ≤ 32) : Ct l D (zT cI cJ) y_Model_start b_Model_start 3 (some .int) 0 0 0 0 [.ref g, .int k, .int pp] [(g, .inr (4, [.int cd, .ref mr, .ref ms, .int (nI n0), .ref mb, .int (nI sz), .int z.2.2, .ref ml, .ref mn, .ref mw, .ref mt, .ref mv, .ref mu, .int (nI bl), .int (nI z.1), .int (nI z.2.1)])), (mt, .inl (cI, 160, .inl st))] (zEq (some (.int (p_part bl st k pp))) [(g, .inr (4, [.int (nI 0), .ref mr, .ref ms, .int (nI n0), .ref mb, .int (nI sz), .int z.2.2, .ref ml, .ref mn, .ref mw, .ref mt, .ref mv, .ref mu, .int (nI bl), .int (nI z.1), .int (nI z.2.1)])), (mt, .inl (cI, 160, .inl st))]) := by
  refine Ct.ofW (by decide) (Nat.le_of_ble_eq_true rfl) ?_
  intro p e s m below meth c A ls C0 hP hD hS hl
  obtain ⟨hx, hb, hml, hown, hts, hK, hN, hr, hlocks, hA, hnm⟩ := C0
  have hl : lv_has ls 3 [(0, .ref g), (1, .int k), (2, .int pp)] := hl
  have hown : s.vm.findClass R_Model = some m.cls := hown
  refine lv_aload_n hx hb d_Model_start_0 rfl (lv_at hl 0 rfl) ?_
  refine lv_iconst (v := nI 0) hx hb d_Model_start_1 (by decide +kernel) ?_
  refine p_Model_42 (w2 := [(g, .inr (4, [.int (nI 0), .ref mr, .ref ms, .int (nI n0), .ref mb, .int (nI sz), .int z.2.2, .ref ml, .ref mn, .ref mw, .ref mt, .ref mv, .ref mu, .int (nI bl), .int (nI z.1), .int (nI z.2.1)])), (mt, .inl (cI, 160, .inl st))]) hx hb hts hown hK hP hD hS 0 rfl (Nat.le_of_ble_eq_true rfl) rfl d_Model_start_2 (fun H locs hP hD hS => ?_)
  refine lv_iload_n hx hb d_Model_start_5 rfl (lv_at hl 1 rfl) ?_
  refine lv_if_lt (tgt := 26) hx hb d_Model_start_6 (by decide) (fun c_6 => ?_) (fun c_6 => ?_)
  · skip
    refine lv_iconst (v := (-1)) hx hb d_Model_start_26 (by decide +kernel) ?_
    refine lv_goto (tgt := 40) hx hb d_Model_start_27 (by decide) ?_
    exact z_iret hx hb hr hlocks hS hP hD ⟨by first | rw [r_part hj hi4 (by omega)] | rw [r_part0 (by first | exact Or.inl c_6 | exact Or.inr (Or.inl c_14) | exact Or.inr (Or.inr (Or.inl c_18)) | exact Or.inr (Or.inr (Or.inr c_23)))], rfl⟩ d_Model_start_40
  · skip
    refine lv_iload_n hx hb d_Model_start_9 rfl (lv_at hl 1 rfl) ?_
    refine lv_aload_n hx hb d_Model_start_10 rfl (lv_at hl 0 rfl) ?_
    refine g_Model_61 hx hb hts hown hK hP 0 rfl rfl d_Model_start_11 ?_
    refine lv_icmp_ge (tgt := 26) hx hb d_Model_start_14 (by decide) (fun c_14 => ?_) (fun c_14 => ?_)
    · skip
      refine lv_iconst (v := (-1)) hx hb d_Model_start_26 (by decide +kernel) ?_
      refine lv_goto (tgt := 40) hx hb d_Model_start_27 (by decide) ?_
      exact z_iret hx hb hr hlocks hS hP hD ⟨by first | rw [r_part hj hi4 (by omega)] | rw [r_part0 (by first | exact Or.inl c_6 | exact Or.inr (Or.inl c_14) | exact Or.inr (Or.inr (Or.inl c_18)) | exact Or.inr (Or.inr (Or.inr c_23)))], rfl⟩ d_Model_start_40
    · skip
      refine lv_iload_n hx hb d_Model_start_17 rfl (lv_at hl 2 rfl) ?_
      refine lv_if_lt (tgt := 26) hx hb d_Model_start_18 (by decide) (fun c_18 => ?_) (fun c_18 => ?_)
      · skip
        refine lv_iconst (v := (-1)) hx hb d_Model_start_26 (by decide +kernel) ?_
        refine lv_goto (tgt := 40) hx hb d_Model_start_27 (by decide) ?_
        exact z_iret hx hb hr hlocks hS hP hD ⟨by first | rw [r_part hj hi4 (by omega)] | rw [r_part0 (by first | exact Or.inl c_6 | exact Or.inr (Or.inl c_14) | exact Or.inr (Or.inr (Or.inl c_18)) | exact Or.inr (Or.inr (Or.inr c_23)))], rfl⟩ d_Model_start_40
      · skip
        refine lv_iload_n hx hb d_Model_start_21 rfl (lv_at hl 2 rfl) ?_
        refine lv_iconst (v := nI 3) hx hb d_Model_start_22 (by decide +kernel) ?_
        refine lv_icmp_le (tgt := 30) hx hb d_Model_start_23 (by decide) (fun c_23 => ?_) (fun c_23 => ?_)
        · skip
          obtain ⟨j, hj, rfl⟩ := p_has_of (us := bl) (k := k) (by omega) (decide_eq_true ⟨c_6, c_14⟩)
          obtain ⟨i, hi, rfl⟩ := nI_of (x := pp) c_18
          have hi4 : i < 4 := by have := (nI_leI hi (by decide)).mp c_23; omega
          refine lv_aload_n hx hb d_Model_start_30 rfl (lv_at hl 0 rfl) ?_
          refine g_Model_33 hx hb hts hown hK hP 0 rfl rfl d_Model_start_31 ?_
          refine lv_iconst (v := nI 4) hx hb d_Model_start_34 (by decide +kernel) ?_
          refine lv_iload_n hx hb d_Model_start_35 rfl (lv_at hl 1 rfl) ?_
          refine lv_imul hx hb d_Model_start_36 (z_i (pk_mul 4 j) ?_)
          refine lv_iload_n hx hb d_Model_start_37 rfl (lv_at hl 2 rfl) ?_
          refine lv_iadd hx hb d_Model_start_38 (z_i (nI_add (4 * j) i) ?_)
          refine z_iald hx hb hK hP 1 0 rfl rfl (by omega) (by decide) d_Model_start_39 ?_
          exact z_iret hx hb hr hlocks hS hP hD ⟨by first | rw [r_part hj hi4 (by omega)] | rw [r_part0 (by first | exact Or.inl c_6 | exact Or.inr (Or.inl c_14) | exact Or.inr (Or.inr (Or.inl c_18)) | exact Or.inr (Or.inr (Or.inr c_23)))], rfl⟩ d_Model_start_40
        · skip
          refine lv_iconst (v := (-1)) hx hb d_Model_start_26 (by decide +kernel) ?_
          refine lv_goto (tgt := 40) hx hb d_Model_start_27 (by decide) ?_
          exact z_iret hx hb hr hlocks hS hP hD ⟨by first | rw [r_part hj hi4 (by omega)] | rw [r_part0 (by first | exact Or.inl c_6 | exact Or.inr (Or.inl c_14) | exact Or.inr (Or.inr (Or.inl c_18)) | exact Or.inr (Or.inr (Or.inr c_23)))], rfl⟩ d_Model_start_40

set_option maxHeartbeats 4000000 in
set_option maxRecDepth 100000 in
theorem c_Model_zigzag (l : Launch) (D : va_G) (cI cJ : ClassId) (v : Int64)  : Ct l D (zT cI cJ) y_Model_zigzag b_Model_zigzag 2 (some .long) 0 0 0 0 [.long v] [] (zEq (some (.long (r_zig v))) []) := by
  refine Ct.ofW (by decide) (Nat.le_of_ble_eq_true rfl) ?_
  intro p e s m below meth c A ls C0 hP hD hS hl
  obtain ⟨hx, hb, hml, hown, hts, hK, hN, hr, hlocks, hA, hnm⟩ := C0
  have hl : lv_has ls 2 [(0, .long v)] := hl
  have hown : s.vm.findClass R_Model = some m.cls := hown
  refine lv_lload_n hx hb d_Model_zigzag_0 rfl (lv_at hl 0 rfl) ?_
  refine lv_lconst (v := 0) hx hb d_Model_zigzag_1 (by decide +kernel) ?_
  refine zl_ge hx hb d_Model_zigzag_2 d_Model_zigzag_3 (tgt := 16) (by decide) (fun c_2 => ?_) (fun c_2 => ?_)
  · skip
    refine lv_ldc2 (v := (2)) hx hb hown (kc_Model_59 hts) d_Model_zigzag_16 ?_
    refine lv_lload_n hx hb d_Model_zigzag_19 rfl (lv_at hl 0 rfl) ?_
    refine lv_lmul hx hb d_Model_zigzag_20 ?_
    exact z_lret hx hb hr hlocks hS hP hD ⟨by unfold r_zig; first | rw [if_pos c_2] | rw [if_neg c_2], rfl⟩ d_Model_zigzag_21
  · skip
    refine lv_ldc2 (v := (-2)) hx hb hown (kc_Model_57 hts) d_Model_zigzag_6 ?_
    refine lv_lload_n hx hb d_Model_zigzag_9 rfl (lv_at hl 0 rfl) ?_
    refine lv_lmul hx hb d_Model_zigzag_10 ?_
    refine lv_lconst (v := 1) hx hb d_Model_zigzag_11 (by decide +kernel) ?_
    refine lv_lsub hx hb d_Model_zigzag_12 ?_
    refine lv_goto (tgt := 21) hx hb d_Model_zigzag_13 (by decide) ?_
    exact z_lret hx hb hr hlocks hS hP hD ⟨by unfold r_zig; first | rw [if_pos c_2] | rw [if_neg c_2], rfl⟩ d_Model_zigzag_21

set_option maxHeartbeats 4000000 in
set_option maxRecDepth 100000 in
theorem c_Model_unzigzag (l : Launch) (D : va_G) (cI cJ : ClassId) (v : Int64)  : Ct l D (zT cI cJ) y_Model_unzigzag b_Model_unzigzag 2 (some .long) 0 0 0 0 [.long v] [] (zEq (some (.long (r_unzig v))) []) := by
  refine Ct.ofW (by decide) (Nat.le_of_ble_eq_true rfl) ?_
  intro p e s m below meth c A ls C0 hP hD hS hl
  obtain ⟨hx, hb, hml, hown, hts, hK, hN, hr, hlocks, hA, hnm⟩ := C0
  have hl : lv_has ls 2 [(0, .long v)] := hl
  have hown : s.vm.findClass R_Model = some m.cls := hown
  refine lv_lload_n hx hb d_Model_unzigzag_0 rfl (lv_at hl 0 rfl) ?_
  refine lv_lconst (v := 1) hx hb d_Model_unzigzag_1 (by decide +kernel) ?_
  refine lv_land hx hb d_Model_unzigzag_2 ?_
  refine lv_lconst (v := 0) hx hb d_Model_unzigzag_3 (by decide +kernel) ?_
  refine zl_ne hx hb d_Model_unzigzag_4 d_Model_unzigzag_5 (tgt := 14) (by decide) (fun c_4 => ?_) (fun c_4 => ?_)
  · skip
    refine lv_lload_n hx hb d_Model_unzigzag_14 rfl (lv_at hl 0 rfl) ?_
    refine lv_iconst (v := nI 1) hx hb d_Model_unzigzag_15 (by decide +kernel) ?_
    refine lv_lushr (v := zushr v (nI 1)) hx hb d_Model_unzigzag_16 rfl ?_
    refine lv_lneg hx hb d_Model_unzigzag_17 ?_
    refine lv_lconst (v := 1) hx hb d_Model_unzigzag_18 (by decide +kernel) ?_
    refine lv_lsub hx hb d_Model_unzigzag_19 ?_
    exact z_lret hx hb hr hlocks hS hP hD ⟨by unfold r_unzig; first | rw [if_pos c_4] | rw [if_neg c_4], rfl⟩ d_Model_unzigzag_20
  · skip
    refine lv_lload_n hx hb d_Model_unzigzag_8 rfl (lv_at hl 0 rfl) ?_
    refine lv_iconst (v := nI 1) hx hb d_Model_unzigzag_9 (by decide +kernel) ?_
    refine lv_lushr (v := zushr v (nI 1)) hx hb d_Model_unzigzag_10 rfl ?_
    refine lv_goto (tgt := 20) hx hb d_Model_unzigzag_11 (by decide) ?_
    exact z_lret hx hb hr hlocks hS hP hD ⟨by unfold r_unzig; first | rw [if_pos c_4] | rw [if_neg c_4], rfl⟩ d_Model_unzigzag_20

set_option maxHeartbeats 4000000 in
set_option maxRecDepth 100000 in
theorem c_Model_difference (l : Launch) (D : va_G) (cI cJ : ClassId) (g : Nat) (mr : Nat) (ms : Nat) (mb : Nat) (ml : Nat) (mn : Nat) (mw : Nat) (mt : Nat) (mv : Nat) (mu : Nat) (cd : Int32) (n0 : Nat) (sz : Nat) (bl : Nat) (z : SS) (rq : Nat → Int64) (k : Nat) (hk : k + 1 < 2000) : Ct l D (zT cI cJ) y_Model_difference b_Model_difference 2 (some .long) 0 0 0 0 [.ref g, .int (nI k)] [(g, .inr (4, [.int cd, .ref mr, .ref ms, .int (nI n0), .ref mb, .int (nI sz), .int z.2.2, .ref ml, .ref mn, .ref mw, .ref mt, .ref mv, .ref mu, .int (nI bl), .int (nI z.1), .int (nI z.2.1)])), (mr, .inl (cJ, 2000, .inr (.inl rq)))] (zEq (some (.long (rq (k + 1) - rq k))) [(g, .inr (4, [.int cd, .ref mr, .ref ms, .int (nI n0), .ref mb, .int (nI sz), .int z.2.2, .ref ml, .ref mn, .ref mw, .ref mt, .ref mv, .ref mu, .int (nI bl), .int (nI z.1), .int (nI z.2.1)])), (mr, .inl (cJ, 2000, .inr (.inl rq)))]) := by
  refine Ct.ofW (by decide) (Nat.le_of_ble_eq_true rfl) ?_
  intro p e s m below meth c A ls C0 hP hD hS hl
  obtain ⟨hx, hb, hml, hown, hts, hK, hN, hr, hlocks, hA, hnm⟩ := C0
  have hl : lv_has ls 2 [(0, .ref g), (1, .int (nI k))] := hl
  have hown : s.vm.findClass R_Model = some m.cls := hown
  refine lv_aload_n hx hb d_Model_difference_0 rfl (lv_at hl 0 rfl) ?_
  refine g_Model_7 hx hb hts hown hK hP 0 rfl rfl d_Model_difference_1 ?_
  refine lv_iload_n hx hb d_Model_difference_4 rfl (lv_at hl 1 rfl) ?_
  refine lv_iconst (v := nI 1) hx hb d_Model_difference_5 (by decide +kernel) ?_
  refine lv_iadd hx hb d_Model_difference_6 (z_i (nI_add k 1) ?_)
  refine z_lald hx hb hK hP 1 1 rfl rfl (by omega) (by decide) d_Model_difference_7 ?_
  refine lv_aload_n hx hb d_Model_difference_8 rfl (lv_at hl 0 rfl) ?_
  refine g_Model_7 hx hb hts hown hK hP 0 rfl rfl d_Model_difference_9 ?_
  refine lv_iload_n hx hb d_Model_difference_12 rfl (lv_at hl 1 rfl) ?_
  refine z_lald hx hb hK hP 1 1 rfl rfl (by omega) (by decide) d_Model_difference_13 ?_
  refine lv_lsub hx hb d_Model_difference_14 ?_
  exact z_lret hx hb hr hlocks hS hP hD ⟨rfl, rfl⟩ d_Model_difference_15

set_option maxHeartbeats 4000000 in
set_option maxRecDepth 100000 in
theorem c_Model_addVarint (l : Launch) (D : va_G) (cI cJ : ClassId) (g : Nat) (mr : Nat) (ms : Nat) (mb : Nat) (ml : Nat) (mn : Nat) (mw : Nat) (mt : Nat) (mv : Nat) (mu : Nat) (cd : Int32) (n0 : Nat) (bl : Nat) (z : SS) (b : RB) (v : Int64) (hu : b.2 ≤ 19000) : Ct l D (zT cI cJ) y_Model_addVarint b_Model_addVarint 5 none 1 21 0 0 [.ref g, .long v] [(g, .inr (4, [.int cd, .ref mr, .ref ms, .int (nI n0), .ref mb, .int (nI b.2), .int z.2.2, .ref ml, .ref mn, .ref mw, .ref mt, .ref mv, .ref mu, .int (nI bl), .int (nI z.1), .int (nI z.2.1)])), (mb, .inl (cI, 20000, .inl b.1))] (zEq none [(g, .inr (4, [.int cd, .ref mr, .ref ms, .int (nI n0), .ref mb, .int (nI ((r_av b v).2)), .int z.2.2, .ref ml, .ref mn, .ref mw, .ref mt, .ref mv, .ref mu, .int (nI bl), .int (nI z.1), .int (nI z.2.1)])), (mb, .inl (cI, 20000, .inl ((r_av b v).1)))]) := by
  refine Ct.ofW (by decide) (Nat.le_of_ble_eq_true rfl) ?_
  intro p e s m below meth c A ls C0 hP hD hS hl
  obtain ⟨hx, hb, hml, hown, hts, hK, hN, hr, hlocks, hA, hnm⟩ := C0
  have hl : lv_has ls 5 [(0, .ref g), (1, .long v)] := hl
  have hown : s.vm.findClass R_Model = some m.cls := hown
  have hv := r_vn_in v
  have hs := r_avl_sz v (r_vn v) b
  have hj25 : ∀ (H : Heap) (locs : List Loc), va_P D classes [(g, .inr (4, [.int cd, .ref mr, .ref ms, .int (nI n0), .ref mb, .int (nI b.2), .int z.2.2, .ref ml, .ref mn, .ref mw, .ref mt, .ref mv, .ref mu, .int (nI bl), .int (nI z.1), .int (nI z.2.1)])), (mb, .inl (cI, 20000, .inl b.1))] H → va_D A [(g, .inr (4, [.int cd, .ref mr, .ref ms, .int (nI n0), .ref mb, .int (nI b.2), .int z.2.2, .ref ml, .ref mn, .ref mw, .ref mt, .ref mv, .ref mu, .int (nI bl), .int (nI z.1), .int (nI z.2.1)])), (mb, .inl (cI, 20000, .inl b.1))] → va_S A s.heap H locs → ∀ (ls : Array Slot), lv_has ls 5 [(0, .ref g), (1, .long v), (3, .int (nI (r_vn v)))] → W p l e { frames := 1, cells := 0, slots := 0, locals := 21 } s m ([.ref g, .long v] : List Value).toArray below meth c H locs 0 0 (MQ below (zQ D (zEq none [(g, .inr (4, [.int cd, .ref mr, .ref ms, .int (nI n0), .ref mb, .int (nI ((r_av b v).2)), .int z.2.2, .ref ml, .ref mn, .ref mw, .ref mt, .ref mv, .ref mu, .int (nI bl), .int (nI z.1), .int (nI z.2.1)])), (mb, .inl (cI, 20000, .inl ((r_av b v).1)))]) A) ([.ref g, .long v] : List Value).toArray s 0 0 A) (F0 m 25 ls []) := by
    intro   H locs hP hD hS ls hl
    refine lv_iconst (v := nI 0) hx hb d_Model_addVarint_25 (by decide +kernel) ?_
    refine lv_istore (lv' := [(4, .int (nI 0)), (0, .ref g), (1, .long v), (3, .int (nI (r_vn v)))]) hx hb d_Model_addVarint_26 hl (by decide) rfl (fun ls hl => ?_)
    have hlp28 : ∀ (n : Nat) (k : Nat), (k ≤ r_vn v) → r_vn v - k < n → ∀ (H : Heap) (locs : List Loc), va_P D classes [(g, .inr (4, [.int cd, .ref mr, .ref ms, .int (nI n0), .ref mb, .int (nI ((r_avl v (r_vn v) k b).2)), .int z.2.2, .ref ml, .ref mn, .ref mw, .ref mt, .ref mv, .ref mu, .int (nI bl), .int (nI z.1), .int (nI z.2.1)])), (mb, .inl (cI, 20000, .inl ((r_avl v (r_vn v) k b).1)))] H → va_D A [(g, .inr (4, [.int cd, .ref mr, .ref ms, .int (nI n0), .ref mb, .int (nI ((r_avl v (r_vn v) k b).2)), .int z.2.2, .ref ml, .ref mn, .ref mw, .ref mt, .ref mv, .ref mu, .int (nI bl), .int (nI z.1), .int (nI z.2.1)])), (mb, .inl (cI, 20000, .inl ((r_avl v (r_vn v) k b).1)))] → va_S A s.heap H locs → ∀ (ls : Array Slot), lv_has ls 5 [(0, .ref g), (1, .long v), (3, .int (nI (r_vn v))), (4, .int (nI k))] → W p l e { frames := 1, cells := 0, slots := 0, locals := 21 } s m ([.ref g, .long v] : List Value).toArray below meth c H locs 0 0 (MQ below (zQ D (zEq none [(g, .inr (4, [.int cd, .ref mr, .ref ms, .int (nI n0), .ref mb, .int (nI ((r_av b v).2)), .int z.2.2, .ref ml, .ref mn, .ref mw, .ref mt, .ref mv, .ref mu, .int (nI bl), .int (nI z.1), .int (nI z.2.1)])), (mb, .inl (cI, 20000, .inl ((r_av b v).1)))]) A) ([.ref g, .long v] : List Value).toArray s 0 0 A) (F0 m 28 ls []) := by
      intro n
      induction n with
      | zero => intro k hk hmu; exact absurd hmu (Nat.not_lt_zero _)
      | succ n ih =>
        intro k hk hmu H locs hP hD hS ls hl
        have hs2 := hs k
        have ih28 := ih
        refine lv_iload hx hb d_Model_addVarint_28 (lv_at hl 3 rfl) ?_
        refine lv_iload_n hx hb d_Model_addVarint_30 rfl (lv_at hl 2 rfl) ?_
        refine zn_ge (a := k) (b := r_vn v) (by omega) (by omega) hx hb d_Model_addVarint_31 (tgt := 72) (by decide) (fun c_31 => ?_) (fun c_31 => ?_)
        · skip
          exact z_vret hx hb hr hlocks hS hP hD ⟨rfl, by unfold r_av; rw [show k = r_vn v by omega]⟩ d_Model_addVarint_72
        · skip
          refine lv_aload_n hx hb d_Model_addVarint_34 rfl (lv_at hl 0 rfl) ?_
          refine lv_lload_n hx hb d_Model_addVarint_35 rfl (lv_at hl 1 rfl) ?_
          refine lv_bipush (v := nI 7) hx hb d_Model_addVarint_36 (by decide +kernel) ?_
          refine lv_iload hx hb d_Model_addVarint_38 (lv_at hl 3 rfl) ?_
          refine lv_imul hx hb d_Model_addVarint_40 (z_i (pk_mul 7 k) ?_)
          refine lv_lushr (v := zushr v (nI (7 * k))) hx hb d_Model_addVarint_41 rfl ?_
          refine lv_ldc2 (v := (127)) hx hb hown (kc_Model_51 hts) d_Model_addVarint_42 ?_
          refine lv_land hx hb d_Model_addVarint_45 ?_
          refine lv_l2i (v := ((zushr v (nI (7 * k))) &&& (127)).toInt32) hx hb d_Model_addVarint_46 rfl ?_
          refine lv_iload hx hb d_Model_addVarint_47 (lv_at hl 3 rfl) ?_
          refine lv_iload_n hx hb d_Model_addVarint_49 rfl (lv_at hl 2 rfl) ?_
          refine lv_iconst (v := nI 1) hx hb d_Model_addVarint_50 (by decide +kernel) ?_
          refine lv_isub hx hb d_Model_addVarint_51 (z_i (pk_sub (a := r_vn v) (b := 1) (by omega)) ?_)
          refine zn_ge (a := k) (b := (r_vn v) - 1) (by omega) (by omega) hx hb d_Model_addVarint_52 (tgt := 61) (by decide) (fun c_52 => ?_) (fun c_52 => ?_)
          · skip
            refine lv_iconst (v := nI 0) hx hb d_Model_addVarint_61 (by decide +kernel) ?_
            refine lv_iadd hx hb d_Model_addVarint_62 ?_
            refine z_callEv (wr := []) (w2 := [(g, .inr (4, [.int cd, .ref mr, .ref ms, .int (nI n0), .ref mb, .int (nI ((r_add (r_avl v (r_vn v) k b) ((((zushr v (nI (7 * k))) &&& (127)).toInt32) + (nI 0))).2)), .int z.2.2, .ref ml, .ref mn, .ref mw, .ref mt, .ref mv, .ref mu, .int (nI bl), .int (nI z.1), .int (nI z.2.1)])), (mb, .inl (cI, 20000, .inl ((r_add (r_avl v (r_vn v) k b) ((((zushr v (nI (7 * k))) &&& (127)).toInt32) + (nI 0))).1)))]) (z_runV (rest := []) hx hb hml hown hts hK hN (c_Model_add l D cI cJ g mr ms mb ml mn mw mt mv mu cd n0 bl z (r_avl v (r_vn v) k b) ((((zushr v (nI (7 * k))) &&& (127)).toInt32) + (nI 0)) (by (try dsimp only); omega)) kk_Model_53 (zP.cut hP [0, 1] rfl) (hD.sub [0, 1] (by decide) rfl) 0 rfl rfl rfl hl.1 rfl (Nat.le_of_ble_eq_true rfl) d_Model_addVarint_63 (by decide) (by decide)) hP hD hS hA [0, 1] [] [0, 1] rfl rfl (by decide) (by decide) (by decide) rfl (fun H locs hP hD hS => ?_)
            refine lv_iinc (v := nI (k + 1)) (lv' := [(4, .int (nI (k + 1))), (0, .ref g), (1, .long v), (3, .int (nI (r_vn v)))]) hx hb d_Model_addVarint_66 hl (k := 3) rfl (zinc k 1) (by decide) rfl (fun ls hl => ?_)
            refine lv_goto (tgt := 28) hx hb d_Model_addVarint_69 (by decide) ?_
            exact ih28 (k + 1) (by omega) (by omega) _ _ (by rw [r_avl, r_avb]; first | (rw [if_pos c_52]; exact hP) | (rw [if_neg (by omega)]; exact hP)) (by rw [r_avl, r_avb]; first | (rw [if_pos c_52]; exact hD) | (rw [if_neg (by omega)]; exact hD)) hS ls (lv_sub hl [1, 2, 3, 0] rfl)
          · skip
            refine lv_sipush (v := nI 128) hx hb d_Model_addVarint_55 (by decide +kernel) ?_
            refine lv_goto (tgt := 62) hx hb d_Model_addVarint_58 (by decide) ?_
            refine lv_iadd hx hb d_Model_addVarint_62 ?_
            refine z_callEv (wr := []) (w2 := [(g, .inr (4, [.int cd, .ref mr, .ref ms, .int (nI n0), .ref mb, .int (nI ((r_add (r_avl v (r_vn v) k b) ((((zushr v (nI (7 * k))) &&& (127)).toInt32) + (nI 128))).2)), .int z.2.2, .ref ml, .ref mn, .ref mw, .ref mt, .ref mv, .ref mu, .int (nI bl), .int (nI z.1), .int (nI z.2.1)])), (mb, .inl (cI, 20000, .inl ((r_add (r_avl v (r_vn v) k b) ((((zushr v (nI (7 * k))) &&& (127)).toInt32) + (nI 128))).1)))]) (z_runV (rest := []) hx hb hml hown hts hK hN (c_Model_add l D cI cJ g mr ms mb ml mn mw mt mv mu cd n0 bl z (r_avl v (r_vn v) k b) ((((zushr v (nI (7 * k))) &&& (127)).toInt32) + (nI 128)) (by (try dsimp only); omega)) kk_Model_53 (zP.cut hP [0, 1] rfl) (hD.sub [0, 1] (by decide) rfl) 0 rfl rfl rfl hl.1 rfl (Nat.le_of_ble_eq_true rfl) d_Model_addVarint_63 (by decide) (by decide)) hP hD hS hA [0, 1] [] [0, 1] rfl rfl (by decide) (by decide) (by decide) rfl (fun H locs hP hD hS => ?_)
            refine lv_iinc (v := nI (k + 1)) (lv' := [(4, .int (nI (k + 1))), (0, .ref g), (1, .long v), (3, .int (nI (r_vn v)))]) hx hb d_Model_addVarint_66 hl (k := 3) rfl (zinc k 1) (by decide) rfl (fun ls hl => ?_)
            refine lv_goto (tgt := 28) hx hb d_Model_addVarint_69 (by decide) ?_
            exact ih28 (k + 1) (by omega) (by omega) _ _ (by rw [r_avl, r_avb]; first | (rw [if_pos c_52]; exact hP) | (rw [if_neg (by omega)]; exact hP)) (by rw [r_avl, r_avb]; first | (rw [if_pos c_52]; exact hD) | (rw [if_neg (by omega)]; exact hD)) hS ls (lv_sub hl [1, 2, 3, 0] rfl)
    exact hlp28 _ 0 (Nat.zero_le _) (Nat.lt_succ_self _) _ _ hP hD hS ls (lv_sub hl [1, 2, 3, 0] rfl)
  refine lv_iconst (v := nI 1) hx hb d_Model_addVarint_0 (by decide +kernel) ?_
  refine lv_istore_n (lv' := [(3, .int (nI 1)), (0, .ref g), (1, .long v)]) hx hb d_Model_addVarint_1 rfl hl (by decide) rfl (fun ls hl => ?_)
  have hlp2 : ∀ (n : Nat) (i : Nat), (1 ≤ i ∧ i ≤ 10) → (r_vnl v (10 - i) i = r_vn v) → 10 - i < n → ∀ (H : Heap) (locs : List Loc), va_P D classes [(g, .inr (4, [.int cd, .ref mr, .ref ms, .int (nI n0), .ref mb, .int (nI b.2), .int z.2.2, .ref ml, .ref mn, .ref mw, .ref mt, .ref mv, .ref mu, .int (nI bl), .int (nI z.1), .int (nI z.2.1)])), (mb, .inl (cI, 20000, .inl b.1))] H → va_D A [(g, .inr (4, [.int cd, .ref mr, .ref ms, .int (nI n0), .ref mb, .int (nI b.2), .int z.2.2, .ref ml, .ref mn, .ref mw, .ref mt, .ref mv, .ref mu, .int (nI bl), .int (nI z.1), .int (nI z.2.1)])), (mb, .inl (cI, 20000, .inl b.1))] → va_S A s.heap H locs → ∀ (ls : Array Slot), lv_has ls 5 [(0, .ref g), (1, .long v), (3, .int (nI i))] → W p l e { frames := 1, cells := 0, slots := 0, locals := 21 } s m ([.ref g, .long v] : List Value).toArray below meth c H locs 0 0 (MQ below (zQ D (zEq none [(g, .inr (4, [.int cd, .ref mr, .ref ms, .int (nI n0), .ref mb, .int (nI ((r_av b v).2)), .int z.2.2, .ref ml, .ref mn, .ref mw, .ref mt, .ref mv, .ref mu, .int (nI bl), .int (nI z.1), .int (nI z.2.1)])), (mb, .inl (cI, 20000, .inl ((r_av b v).1)))]) A) ([.ref g, .long v] : List Value).toArray s 0 0 A) (F0 m 2 ls []) := by
    intro n
    induction n with
    | zero => intro i h1 hR hmu; exact absurd hmu (Nat.not_lt_zero _)
    | succ n ih =>
      intro i h1 hR hmu H locs hP hD hS ls hl
      have ih2 := ih
      refine lv_iload_n hx hb d_Model_addVarint_2 rfl (lv_at hl 2 rfl) ?_
      refine lv_bipush (v := nI 10) hx hb d_Model_addVarint_3 (by decide +kernel) ?_
      refine zn_ge (a := i) (b := 10) (by omega) (by omega) hx hb d_Model_addVarint_5 (tgt := 25) (by decide) (fun c_5 => ?_) (fun c_5 => ?_)
      · skip
        have hX : i = r_vn v := by rw [← hR]; first | (rw [show 10 - i = 0 by omega]; rfl) | (rw [show 10 - i = (10 - (i + 1)) + 1 by omega, r_vnl, if_pos c_15])
        rw [hX] at hl
        exact hj25   _ _ hP hD hS ls (lv_sub hl [0, 1, 2] rfl)
      · skip
        refine lv_lload_n hx hb d_Model_addVarint_8 rfl (lv_at hl 1 rfl) ?_
        refine lv_bipush (v := nI 7) hx hb d_Model_addVarint_9 (by decide +kernel) ?_
        refine lv_iload_n hx hb d_Model_addVarint_11 rfl (lv_at hl 2 rfl) ?_
        refine lv_imul hx hb d_Model_addVarint_12 (z_i (pk_mul 7 i) ?_)
        refine lv_lushr (v := zushr v (nI (7 * i))) hx hb d_Model_addVarint_13 rfl ?_
        refine lv_lconst (v := 0) hx hb d_Model_addVarint_14 (by decide +kernel) ?_
        refine zl_eq hx hb d_Model_addVarint_15 d_Model_addVarint_16 (tgt := 25) (by decide) (fun c_15 => ?_) (fun c_15 => ?_)
        · skip
          have hX : i = r_vn v := by rw [← hR]; first | (rw [show 10 - i = 0 by omega]; rfl) | (rw [show 10 - i = (10 - (i + 1)) + 1 by omega, r_vnl, if_pos c_15])
          rw [hX] at hl
          exact hj25   _ _ hP hD hS ls (lv_sub hl [0, 1, 2] rfl)
        · skip
          refine lv_iinc (v := nI (i + 1)) (lv' := [(3, .int (nI (i + 1))), (0, .ref g), (1, .long v)]) hx hb d_Model_addVarint_19 hl (k := 2) rfl (zinc i 1) (by decide) rfl (fun ls hl => ?_)
          refine lv_goto (tgt := 2) hx hb d_Model_addVarint_22 (by decide) ?_
          exact ih2 (i + 1) (by omega) (by rw [show 10 - i = (10 - (i + 1)) + 1 by omega, r_vnl, if_neg c_15] at hR; exact hR) (by omega) _ _ hP hD hS ls (lv_sub hl [1, 2, 0] rfl)
  exact hlp2 _ 1 (by omega) rfl (Nat.lt_succ_self _) _ _ hP hD hS ls (lv_sub hl [1, 2, 0] rfl)
