set_option maxHeartbeats 4000000 in
set_option maxRecDepth 100000 in
theorem c_Model_fail (l : Launch) (D : va_G) (cI cJ : ClassId) (g : Nat) (mr : Nat) (ms : Nat) (mb : Nat) (ml : Nat) (mn : Nat) (mw : Nat) (mt : Nat) (mv : Nat) (mu : Nat) (cd : Int32) (n0 : Nat) (bl : Nat) (z : SS) (ki : Nat) (wh : Int32) (sz : Nat) (hf : z.2.1 < 1000000) : Ct l D (zT cI cJ) y_Model_fail b_Model_fail 3 none 0 0 0 0 [.ref g, .int (nI ki), .int wh] [(g, .inr (4, [.int cd, .ref mr, .ref ms, .int (nI n0), .ref mb, .int (nI sz), .int z.2.2, .ref ml, .ref mn, .ref mw, .ref mt, .ref mv, .ref mu, .int (nI bl), .int (nI z.1), .int (nI z.2.1)]))] (zEq none [(g, .inr (4, [.int cd, .ref mr, .ref ms, .int (nI n0), .ref mb, .int (nI sz), .int ((r_fail z ki wh).2.2), .ref ml, .ref mn, .ref mw, .ref mt, .ref mv, .ref mu, .int (nI bl), .int (nI ((r_fail z ki wh).1)), .int (nI ((r_fail z ki wh).2.1))]))]) := by
  refine Ct.ofW (by decide) (Nat.le_of_ble_eq_true rfl) ?_
  intro p e s m below meth c A ls C0 hP hD hS hl
  obtain ⟨hx, hb, hml, hown, hts, hK, hN, hr, hlocks, hA, hnm⟩ := C0
  have hl : lv_has ls 3 [(0, .ref g), (1, .int (nI ki)), (2, .int wh)] := hl
  have hown : s.vm.findClass R_Model = some m.cls := hown
  refine lv_aload_n hx hb d_Model_fail_0 rfl (lv_at hl 0 rfl) ?_
  refine g_Model_76 hx hb hts hown hK hP 0 rfl rfl d_Model_fail_1 ?_
  refine z0_eq (a := z.2.1) (by omega) hx hb d_Model_fail_4 (tgt := 8) (by decide) (fun c_4 => ?_) (fun c_4 => ?_)
  · skip
    refine lv_aload_n hx hb d_Model_fail_8 rfl (lv_at hl 0 rfl) ?_
    refine lv_iload_n hx hb d_Model_fail_9 rfl (lv_at hl 1 rfl) ?_
    refine p_Model_76 (w2 := [(g, .inr (4, [.int cd, .ref mr, .ref ms, .int (nI n0), .ref mb, .int (nI sz), .int z.2.2, .ref ml, .ref mn, .ref mw, .ref mt, .ref mv, .ref mu, .int (nI bl), .int (nI z.1), .int (nI ki)]))]) hx hb hts hown hK hP hD hS 0 rfl (Nat.le_of_ble_eq_true rfl) rfl d_Model_fail_10 (fun H locs hP hD hS => ?_)
    refine lv_aload_n hx hb d_Model_fail_13 rfl (lv_at hl 0 rfl) ?_
    refine lv_iload_n hx hb d_Model_fail_14 rfl (lv_at hl 2 rfl) ?_
    refine p_Model_20 (w2 := [(g, .inr (4, [.int cd, .ref mr, .ref ms, .int (nI n0), .ref mb, .int (nI sz), .int wh, .ref ml, .ref mn, .ref mw, .ref mt, .ref mv, .ref mu, .int (nI bl), .int (nI z.1), .int (nI ki)]))]) hx hb hts hown hK hP hD hS 0 rfl (Nat.le_of_ble_eq_true rfl) rfl d_Model_fail_15 (fun H locs hP hD hS => ?_)
    exact z_vret hx hb hr hlocks hS hP hD ⟨rfl, by unfold r_fail; rw [if_pos c_4] <;> rfl⟩ d_Model_fail_18
  · skip
    exact z_vret hx hb hr hlocks hS hP hD ⟨rfl, by unfold r_fail; rw [if_neg (by omega)]⟩ d_Model_fail_7

set_option maxHeartbeats 4000000 in
set_option maxRecDepth 100000 in
theorem c_Model_next (l : Launch) (D : va_G) (cI cJ : ClassId) (g : Nat) (mr : Nat) (ms : Nat) (mb : Nat) (ml : Nat) (mn : Nat) (mw : Nat) (mt : Nat) (mv : Nat) (mu : Nat) (cd : Int32) (n0 : Nat) (bl : Nat) (z : SS) (b : RB) (hu : b.2 ≤ 20000) (hB : r_by b.1) (hz : r_ok b z) : Ct l D (zT cI cJ) y_Model_next b_Model_next 1 (some .int) 1 22 0 0 [.ref g] [(g, .inr (4, [.int cd, .ref mr, .ref ms, .int (nI n0), .ref mb, .int (nI b.2), .int z.2.2, .ref ml, .ref mn, .ref mw, .ref mt, .ref mv, .ref mu, .int (nI bl), .int (nI z.1), .int (nI z.2.1)])), (mb, .inl (cI, 20000, .inl b.1))] (zEq (some (.int (nI (r_nV b z)))) [(g, .inr (4, [.int cd, .ref mr, .ref ms, .int (nI n0), .ref mb, .int (nI b.2), .int ((r_nS b z).2.2), .ref ml, .ref mn, .ref mw, .ref mt, .ref mv, .ref mu, .int (nI bl), .int (nI ((r_nS b z).1)), .int (nI ((r_nS b z).2.1))])), (mb, .inl (cI, 20000, .inl b.1))]) := by
  refine Ct.ofW (by decide) (Nat.le_of_ble_eq_true rfl) ?_
  intro p e s m below meth c A ls C0 hP hD hS hl
  obtain ⟨hx, hb, hml, hown, hts, hK, hN, hr, hlocks, hA, hnm⟩ := C0
  have hl : lv_has ls 1 [(0, .ref g)] := hl
  have hown : s.vm.findClass R_Model = some m.cls := hown
  have hz1 := hz.1
  refine lv_aload_n hx hb d_Model_next_0 rfl (lv_at hl 0 rfl) ?_
  refine g_Model_79 hx hb hts hown hK hP 0 rfl rfl d_Model_next_1 ?_
  refine lv_aload_n hx hb d_Model_next_4 rfl (lv_at hl 0 rfl) ?_
  refine g_Model_48 hx hb hts hown hK hP 0 rfl rfl d_Model_next_5 ?_
  refine zn_ne (a := z.1) (b := b.2) (by omega) (by omega) hx hb d_Model_next_8 (tgt := 22) (by decide) (fun c_8 => ?_) (fun c_8 => ?_)
  · skip
    refine lv_aload_n hx hb d_Model_next_22 rfl (lv_at hl 0 rfl) ?_
    refine lv_dup hx hb d_Model_next_23 rfl ?_
    refine g_Model_79 hx hb hts hown hK hP 0 rfl rfl d_Model_next_24 ?_
    refine lv_iconst (v := nI 1) hx hb d_Model_next_27 (by decide +kernel) ?_
    refine lv_iadd hx hb d_Model_next_28 (z_i (nI_add z.1 1) ?_)
    refine p_Model_79 (w2 := [(g, .inr (4, [.int cd, .ref mr, .ref ms, .int (nI n0), .ref mb, .int (nI b.2), .int z.2.2, .ref ml, .ref mn, .ref mw, .ref mt, .ref mv, .ref mu, .int (nI bl), .int (nI (z.1 + 1)), .int (nI z.2.1)])), (mb, .inl (cI, 20000, .inl b.1))]) hx hb hts hown hK hP hD hS 0 rfl (Nat.le_of_ble_eq_true rfl) rfl d_Model_next_29 (fun H locs hP hD hS => ?_)
    refine lv_aload_n hx hb d_Model_next_32 rfl (lv_at hl 0 rfl) ?_
    refine g_Model_16 hx hb hts hown hK hP 0 rfl rfl d_Model_next_33 ?_
    refine lv_aload_n hx hb d_Model_next_36 rfl (lv_at hl 0 rfl) ?_
    refine g_Model_79 hx hb hts hown hK hP 0 rfl rfl d_Model_next_37 ?_
    refine lv_iconst (v := nI 1) hx hb d_Model_next_40 (by decide +kernel) ?_
    refine lv_isub hx hb d_Model_next_41 (z_i (pk_sub (a := z.1 + 1) (b := 1) (by omega)) ?_)
    refine z_iald hx hb hK hP 1 0 rfl rfl (by omega) (by decide) d_Model_next_42 ?_
    refine z_i (v := nI (cl b.1 z.1)) (by rw [show z.1 + 1 - 1 = z.1 by omega]; exact (hB z.1 (by omega)).1) ?_
    exact z_iret hx hb hr hlocks hS hP hD ⟨by unfold r_nV; rw [if_neg c_8], by unfold r_nS; rw [if_neg c_8]⟩ d_Model_next_43
  · skip
    refine lv_aload_n hx hb d_Model_next_11 rfl (lv_at hl 0 rfl) ?_
    refine lv_iconst (v := nI 1) hx hb d_Model_next_12 (by decide +kernel) ?_
    refine lv_aload_n hx hb d_Model_next_13 rfl (lv_at hl 0 rfl) ?_
    refine g_Model_48 hx hb hts hown hK hP 0 rfl rfl d_Model_next_14 ?_
    refine z_callEv (wr := [(mb, .inl (cI, 20000, .inl b.1))]) (w2 := [(g, .inr (4, [.int cd, .ref mr, .ref ms, .int (nI n0), .ref mb, .int (nI b.2), .int ((r_fail z 1 (nI b.2)).2.2), .ref ml, .ref mn, .ref mw, .ref mt, .ref mv, .ref mu, .int (nI bl), .int (nI ((r_fail z 1 (nI b.2)).1)), .int (nI ((r_fail z 1 (nI b.2)).2.1))])), (mb, .inl (cI, 20000, .inl b.1))]) (z_runV (rest := []) hx hb hml hown hts hK hN (c_Model_fail l D cI cJ g mr ms mb ml mn mw mt mv mu cd n0 bl z 1 (nI b.2) b.2 hz.2) kk_Model_82 (zP.cut hP [0] rfl) (hD.sub [0] (by decide) rfl) 0 rfl rfl rfl hl.1 rfl (Nat.le_of_ble_eq_true rfl) d_Model_next_17 (by decide) (by decide)) hP hD hS hA [0] [1] [1, 0] rfl rfl (by decide) (by decide) (by decide) rfl (fun H locs hP hD hS => ?_)
    refine lv_iconst (v := nI 0) hx hb d_Model_next_20 (by decide +kernel) ?_
    exact z_iret hx hb hr hlocks hS hP hD ⟨by unfold r_nV; rw [if_pos c_8], by unfold r_nS; rw [if_pos c_8]⟩ d_Model_next_21

set_option maxHeartbeats 4000000 in
set_option maxRecDepth 100000 in
theorem c_Model_varint (l : Launch) (D : va_G) (cI cJ : ClassId) (g : Nat) (mr : Nat) (ms : Nat) (mb : Nat) (ml : Nat) (mn : Nat) (mw : Nat) (mt : Nat) (mv : Nat) (mu : Nat) (cd : Int32) (n0 : Nat) (bl : Nat) (z : SS) (b : RB) (hu : b.2 ≤ 20000) (hB : r_by b.1) (hz : r_ok b z) : Ct l D (zT cI cJ) y_Model_varint b_Model_varint 6 (some .long) 2 42 0 0 [.ref g] [(g, .inr (4, [.int cd, .ref mr, .ref ms, .int (nI n0), .ref mb, .int (nI b.2), .int z.2.2, .ref ml, .ref mn, .ref mw, .ref mt, .ref mv, .ref mu, .int (nI bl), .int (nI z.1), .int (nI z.2.1)])), (mb, .inl (cI, 20000, .inl b.1))] (zEq (some (.long ((r_v b z).1))) [(g, .inr (4, [.int cd, .ref mr, .ref ms, .int (nI n0), .ref mb, .int (nI b.2), .int ((r_v b z).2.2.2), .ref ml, .ref mn, .ref mw, .ref mt, .ref mv, .ref mu, .int (nI bl), .int (nI ((r_v b z).2.1)), .int (nI ((r_v b z).2.2.1))])), (mb, .inl (cI, 20000, .inl b.1))]) := by
  refine Ct.ofW (by decide) (Nat.le_of_ble_eq_true rfl) ?_
  intro p e s m below meth c A ls C0 hP hD hS hl
  obtain ⟨hx, hb, hml, hown, hts, hK, hN, hr, hlocks, hA, hnm⟩ := C0
  have hl : lv_has ls 6 [(0, .ref g)] := hl
  have hown : s.vm.findClass R_Model = some m.cls := hown
  refine lv_aload_n hx hb d_Model_varint_0 rfl (lv_at hl 0 rfl) ?_
  refine g_Model_79 hx hb hts hown hK hP 0 rfl rfl d_Model_varint_1 ?_
  refine lv_istore_n (lv' := [(1, .int (nI z.1)), (0, .ref g)]) hx hb d_Model_varint_4 rfl hl (by decide) rfl (fun ls hl => ?_)
  refine lv_lconst (v := 0) hx hb d_Model_varint_5 (by decide +kernel) ?_
  refine lv_lstore_n (lv' := [(2, .long 0), (1, .int (nI z.1)), (0, .ref g)]) hx hb d_Model_varint_6 rfl hl (by decide) rfl (fun ls hl => ?_)
  refine lv_iconst (v := nI 0) hx hb d_Model_varint_7 (by decide +kernel) ?_
  refine lv_istore (lv' := [(4, .int (nI 0)), (2, .long 0), (1, .int (nI z.1)), (0, .ref g)]) hx hb d_Model_varint_8 hl (by decide) rfl (fun ls hl => ?_)
  have hlp10 : ∀ (n : Nat) (i : Nat) (v : Int64) (zc : SS), (i ≤ 9) → (r_ok b zc) → (r_vl b z.1 (10 - i) i v zc = r_v b z) → 10 - i < n → ∀ (H : Heap) (locs : List Loc), va_P D classes [(g, .inr (4, [.int cd, .ref mr, .ref ms, .int (nI n0), .ref mb, .int (nI b.2), .int zc.2.2, .ref ml, .ref mn, .ref mw, .ref mt, .ref mv, .ref mu, .int (nI bl), .int (nI zc.1), .int (nI zc.2.1)])), (mb, .inl (cI, 20000, .inl b.1))] H → va_D A [(g, .inr (4, [.int cd, .ref mr, .ref ms, .int (nI n0), .ref mb, .int (nI b.2), .int zc.2.2, .ref ml, .ref mn, .ref mw, .ref mt, .ref mv, .ref mu, .int (nI bl), .int (nI zc.1), .int (nI zc.2.1)])), (mb, .inl (cI, 20000, .inl b.1))] → va_S A s.heap H locs → ∀ (ls : Array Slot), lv_has ls 6 [(0, .ref g), (1, .int (nI z.1)), (2, .long v), (4, .int (nI i))] → W p l e { frames := 2, cells := 0, slots := 0, locals := 42 } s m ([.ref g] : List Value).toArray below meth c H locs 0 0 (MQ below (zQ D (zEq (some (.long ((r_v b z).1))) [(g, .inr (4, [.int cd, .ref mr, .ref ms, .int (nI n0), .ref mb, .int (nI b.2), .int ((r_v b z).2.2.2), .ref ml, .ref mn, .ref mw, .ref mt, .ref mv, .ref mu, .int (nI bl), .int (nI ((r_v b z).2.1)), .int (nI ((r_v b z).2.2.1))])), (mb, .inl (cI, 20000, .inl b.1))]) A) ([.ref g] : List Value).toArray s 0 0 A) (F0 m 10 ls []) := by
    intro n
    induction n with
    | zero => intro i v zc h1 hzc hR hmu; exact absurd hmu (Nat.not_lt_zero _)
    | succ n ih =>
      intro i v zc h1 hzc hR hmu H locs hP hD hS ls hl
      have hzf := hzc.2
      have hx8 := r_nV_lt hB hzc.1 hu
      have hzn := r_ok_n hzc
      have hznf := hzn.2
      have ih10 := ih
      refine lv_aload_n hx hb d_Model_varint_10 rfl (lv_at hl 0 rfl) ?_
      refine g_Model_76 hx hb hts hown hK hP 0 rfl rfl d_Model_varint_11 ?_
      refine z0_ne (a := zc.2.1) (by omega) hx hb d_Model_varint_14 (tgt := 94) (by decide) (fun c_14 => ?_) (fun c_14 => ?_)
      · skip
        refine lv_lconst (v := 0) hx hb d_Model_varint_94 (by decide +kernel) ?_
        exact z_lret hx hb hr hlocks hS hP hD ⟨by rw [← hR, show 10 - i = (10 - (i + 1)) + 1 by omega, r_vl, if_neg (by omega)], by rw [← hR, show 10 - i = (10 - (i + 1)) + 1 by omega, r_vl, if_neg (by omega)]⟩ d_Model_varint_95
      · skip
        refine lv_aload_n hx hb d_Model_varint_17 rfl (lv_at hl 0 rfl) ?_
        refine z_callEi (wr := []) (w2 := [(g, .inr (4, [.int cd, .ref mr, .ref ms, .int (nI n0), .ref mb, .int (nI b.2), .int ((r_nS b zc).2.2), .ref ml, .ref mn, .ref mw, .ref mt, .ref mv, .ref mu, .int (nI bl), .int (nI ((r_nS b zc).1)), .int (nI ((r_nS b zc).2.1))])), (mb, .inl (cI, 20000, .inl b.1))]) (z_runV (rest := []) hx hb hml hown hts hK hN (c_Model_next l D cI cJ g mr ms mb ml mn mw mt mv mu cd n0 bl zc b (by (try dsimp only); omega) hB hzc) kk_Model_86 (zP.cut hP [0, 1] rfl) (hD.sub [0, 1] (by decide) rfl) 0 rfl rfl rfl hl.1 rfl (Nat.le_of_ble_eq_true rfl) d_Model_varint_18 (by decide) (by decide)) hP hD hS hA [0, 1] [] [0, 1] rfl rfl (by decide) (by decide) (by decide) rfl (fun H locs hP hD hS => ?_)
        refine lv_istore (lv' := [(5, .int (nI (r_nV b zc))), (0, .ref g), (1, .int (nI z.1)), (2, .long v), (4, .int (nI i))]) hx hb d_Model_varint_21 hl (by decide) rfl (fun ls hl => ?_)
        refine lv_aload_n hx hb d_Model_varint_23 rfl (lv_at hl 1 rfl) ?_
        refine g_Model_76 hx hb hts hown hK hP 0 rfl rfl d_Model_varint_24 ?_
        refine z0_eq (a := (r_nS b zc).2.1) (by omega) hx hb d_Model_varint_27 (tgt := 32) (by decide) (fun c_27 => ?_) (fun c_27 => ?_)
        · skip
          refine lv_iload hx hb d_Model_varint_32 (lv_at hl 4 rfl) ?_
          refine lv_bipush (v := nI 9) hx hb d_Model_varint_34 (by decide +kernel) ?_
          refine zn_ne (a := i) (b := 9) (by omega) (by omega) hx hb d_Model_varint_36 (tgt := 45) (by decide) (fun c_36 => ?_) (fun c_36 => ?_)
          · skip
            refine lv_iload hx hb d_Model_varint_45 (lv_at hl 4 rfl) ?_
            refine z0_le (a := i) (by omega) hx hb d_Model_varint_47 (tgt := 63) (by decide) (fun c_47 => ?_) (fun c_47 => ?_)
            · skip
              refine lv_lload_n hx hb d_Model_varint_63 rfl (lv_at hl 3 rfl) ?_
              refine lv_iload hx hb d_Model_varint_64 (lv_at hl 0 rfl) ?_
              refine lv_bipush (v := nI 127) hx hb d_Model_varint_66 (by decide +kernel) ?_
              refine lv_iand hx hb d_Model_varint_68 ?_
              refine lv_i2l (v := ((nI (r_nV b zc)) &&& (nI 127)).toInt64) hx hb d_Model_varint_69 rfl ?_
              refine lv_bipush (v := nI 7) hx hb d_Model_varint_70 (by decide +kernel) ?_
              refine lv_iload hx hb d_Model_varint_72 (lv_at hl 4 rfl) ?_
              refine lv_imul hx hb d_Model_varint_74 (z_i (pk_mul 7 i) ?_)
              refine lv_lshl (v := zshl (((nI (r_nV b zc)) &&& (nI 127)).toInt64) (nI (7 * i))) hx hb d_Model_varint_75 rfl ?_
              refine lv_lor hx hb d_Model_varint_76 ?_
              refine z_l (v := r_vv v (r_nV b zc) i) rfl ?_
              refine lv_lstore_n (lv' := [(2, .long (r_vv v (r_nV b zc) i)), (5, .int (nI (r_nV b zc))), (0, .ref g), (1, .int (nI z.1)), (4, .int (nI i))]) hx hb d_Model_varint_77 rfl hl (by decide) rfl (fun ls hl => ?_)
              refine lv_iload hx hb d_Model_varint_78 (lv_at hl 1 rfl) ?_
              refine lv_sipush (v := nI 128) hx hb d_Model_varint_80 (by decide +kernel) ?_
              refine zn_ge (a := r_nV b zc) (b := 128) (by omega) (by omega) hx hb d_Model_varint_83 (tgt := 88) (by decide) (fun c_83 => ?_) (fun c_83 => ?_)
              · skip
                refine lv_iinc (v := nI (i + 1)) (lv' := [(4, .int (nI (i + 1))), (2, .long (r_vv v (r_nV b zc) i)), (5, .int (nI (r_nV b zc))), (0, .ref g), (1, .int (nI z.1))]) hx hb d_Model_varint_88 hl (k := 4) rfl (zinc i 1) (by decide) rfl (fun ls hl => ?_)
                refine lv_goto (tgt := 10) hx hb d_Model_varint_91 (by decide) ?_
                exact ih10 (i + 1) (r_vv v (r_nV b zc) i) (r_nS b zc) (by omega) hzn (by rw [show 10 - i = (10 - (i + 1)) + 1 by omega, r_vl, if_pos c_14, if_pos c_27, if_neg (by omega), if_neg (by omega)] at hR; exact hR) (by omega) _ _ hP hD hS ls (lv_sub hl [3, 4, 1, 0] rfl)
              · skip
                refine lv_lload_n hx hb d_Model_varint_86 rfl (lv_at hl 0 rfl) ?_
                exact z_lret hx hb hr hlocks hS hP hD ⟨by rw [← hR, show 10 - i = (10 - (i + 1)) + 1 by omega, r_vl, if_pos c_14, if_pos c_27, if_neg (by omega), if_pos c_83], by rw [← hR, show 10 - i = (10 - (i + 1)) + 1 by omega, r_vl, if_pos c_14, if_pos c_27, if_neg (by omega), if_pos c_83]⟩ d_Model_varint_87
            · skip
              refine lv_iload hx hb d_Model_varint_50 (lv_at hl 0 rfl) ?_
              refine z0_ne (a := r_nV b zc) (by omega) hx hb d_Model_varint_52 (tgt := 63) (by decide) (fun c_52 => ?_) (fun c_52 => ?_)
              · skip
                refine lv_lload_n hx hb d_Model_varint_63 rfl (lv_at hl 3 rfl) ?_
                refine lv_iload hx hb d_Model_varint_64 (lv_at hl 0 rfl) ?_
                refine lv_bipush (v := nI 127) hx hb d_Model_varint_66 (by decide +kernel) ?_
                refine lv_iand hx hb d_Model_varint_68 ?_
                refine lv_i2l (v := ((nI (r_nV b zc)) &&& (nI 127)).toInt64) hx hb d_Model_varint_69 rfl ?_
                refine lv_bipush (v := nI 7) hx hb d_Model_varint_70 (by decide +kernel) ?_
                refine lv_iload hx hb d_Model_varint_72 (lv_at hl 4 rfl) ?_
                refine lv_imul hx hb d_Model_varint_74 (z_i (pk_mul 7 i) ?_)
                refine lv_lshl (v := zshl (((nI (r_nV b zc)) &&& (nI 127)).toInt64) (nI (7 * i))) hx hb d_Model_varint_75 rfl ?_
                refine lv_lor hx hb d_Model_varint_76 ?_
                refine z_l (v := r_vv v (r_nV b zc) i) rfl ?_
                refine lv_lstore_n (lv' := [(2, .long (r_vv v (r_nV b zc) i)), (5, .int (nI (r_nV b zc))), (0, .ref g), (1, .int (nI z.1)), (4, .int (nI i))]) hx hb d_Model_varint_77 rfl hl (by decide) rfl (fun ls hl => ?_)
                refine lv_iload hx hb d_Model_varint_78 (lv_at hl 1 rfl) ?_
                refine lv_sipush (v := nI 128) hx hb d_Model_varint_80 (by decide +kernel) ?_
                refine zn_ge (a := r_nV b zc) (b := 128) (by omega) (by omega) hx hb d_Model_varint_83 (tgt := 88) (by decide) (fun c_83 => ?_) (fun c_83 => ?_)
                · skip
                  refine lv_iinc (v := nI (i + 1)) (lv' := [(4, .int (nI (i + 1))), (2, .long (r_vv v (r_nV b zc) i)), (5, .int (nI (r_nV b zc))), (0, .ref g), (1, .int (nI z.1))]) hx hb d_Model_varint_88 hl (k := 4) rfl (zinc i 1) (by decide) rfl (fun ls hl => ?_)
                  refine lv_goto (tgt := 10) hx hb d_Model_varint_91 (by decide) ?_
                  exact ih10 (i + 1) (r_vv v (r_nV b zc) i) (r_nS b zc) (by omega) hzn (by rw [show 10 - i = (10 - (i + 1)) + 1 by omega, r_vl, if_pos c_14, if_pos c_27, if_neg (by omega), if_neg (by omega)] at hR; exact hR) (by omega) _ _ hP hD hS ls (lv_sub hl [3, 4, 1, 0] rfl)
                · skip
                  refine lv_lload_n hx hb d_Model_varint_86 rfl (lv_at hl 0 rfl) ?_
                  exact z_lret hx hb hr hlocks hS hP hD ⟨by rw [← hR, show 10 - i = (10 - (i + 1)) + 1 by omega, r_vl, if_pos c_14, if_pos c_27, if_neg (by omega), if_pos c_83], by rw [← hR, show 10 - i = (10 - (i + 1)) + 1 by omega, r_vl, if_pos c_14, if_pos c_27, if_neg (by omega), if_pos c_83]⟩ d_Model_varint_87
              · skip
                refine lv_aload_n hx hb d_Model_varint_55 rfl (lv_at hl 1 rfl) ?_
                refine lv_iconst (v := nI 2) hx hb d_Model_varint_56 (by decide +kernel) ?_
                refine lv_iload_n hx hb d_Model_varint_57 rfl (lv_at hl 2 rfl) ?_
                refine z_callEv (wr := [(mb, .inl (cI, 20000, .inl b.1))]) (w2 := [(g, .inr (4, [.int cd, .ref mr, .ref ms, .int (nI n0), .ref mb, .int (nI b.2), .int ((r_fail (r_nS b zc) 2 (nI z.1)).2.2), .ref ml, .ref mn, .ref mw, .ref mt, .ref mv, .ref mu, .int (nI bl), .int (nI ((r_fail (r_nS b zc) 2 (nI z.1)).1)), .int (nI ((r_fail (r_nS b zc) 2 (nI z.1)).2.1))])), (mb, .inl (cI, 20000, .inl b.1))]) (z_runV (rest := []) hx hb hml hown hts hK hN (c_Model_fail l D cI cJ g mr ms mb ml mn mw mt mv mu cd n0 bl (r_nS b zc) 2 (nI z.1) b.2 hznf) kk_Model_82 (zP.cut hP [0] rfl) (hD.sub [0] (by decide) rfl) 0 rfl rfl rfl hl.1 rfl (Nat.le_of_ble_eq_true rfl) d_Model_varint_58 (by decide) (by decide)) hP hD hS hA [0] [1] [1, 0] rfl rfl (by decide) (by decide) (by decide) rfl (fun H locs hP hD hS => ?_)
                refine lv_lconst (v := 0) hx hb d_Model_varint_61 (by decide +kernel) ?_
                exact z_lret hx hb hr hlocks hS hP hD ⟨by rw [← hR, show 10 - i = (10 - (i + 1)) + 1 by omega, r_vl, if_pos c_14, if_pos c_27, if_pos (by omega)], by rw [← hR, show 10 - i = (10 - (i + 1)) + 1 by omega, r_vl, if_pos c_14, if_pos c_27, if_pos (by omega)]⟩ d_Model_varint_62
          · skip
            refine lv_iload hx hb d_Model_varint_39 (lv_at hl 0 rfl) ?_
            refine lv_iconst (v := nI 1) hx hb d_Model_varint_41 (by decide +kernel) ?_
            refine zn_gt (a := r_nV b zc) (b := 1) (by omega) (by omega) hx hb d_Model_varint_42 (tgt := 55) (by decide) (fun c_42 => ?_) (fun c_42 => ?_)
            · skip
              refine lv_aload_n hx hb d_Model_varint_55 rfl (lv_at hl 1 rfl) ?_
              refine lv_iconst (v := nI 2) hx hb d_Model_varint_56 (by decide +kernel) ?_
              refine lv_iload_n hx hb d_Model_varint_57 rfl (lv_at hl 2 rfl) ?_
              refine z_callEv (wr := [(mb, .inl (cI, 20000, .inl b.1))]) (w2 := [(g, .inr (4, [.int cd, .ref mr, .ref ms, .int (nI n0), .ref mb, .int (nI b.2), .int ((r_fail (r_nS b zc) 2 (nI z.1)).2.2), .ref ml, .ref mn, .ref mw, .ref mt, .ref mv, .ref mu, .int (nI bl), .int (nI ((r_fail (r_nS b zc) 2 (nI z.1)).1)), .int (nI ((r_fail (r_nS b zc) 2 (nI z.1)).2.1))])), (mb, .inl (cI, 20000, .inl b.1))]) (z_runV (rest := []) hx hb hml hown hts hK hN (c_Model_fail l D cI cJ g mr ms mb ml mn mw mt mv mu cd n0 bl (r_nS b zc) 2 (nI z.1) b.2 hznf) kk_Model_82 (zP.cut hP [0] rfl) (hD.sub [0] (by decide) rfl) 0 rfl rfl rfl hl.1 rfl (Nat.le_of_ble_eq_true rfl) d_Model_varint_58 (by decide) (by decide)) hP hD hS hA [0] [1] [1, 0] rfl rfl (by decide) (by decide) (by decide) rfl (fun H locs hP hD hS => ?_)
              refine lv_lconst (v := 0) hx hb d_Model_varint_61 (by decide +kernel) ?_
              exact z_lret hx hb hr hlocks hS hP hD ⟨by rw [← hR, show 10 - i = (10 - (i + 1)) + 1 by omega, r_vl, if_pos c_14, if_pos c_27, if_pos (by omega)], by rw [← hR, show 10 - i = (10 - (i + 1)) + 1 by omega, r_vl, if_pos c_14, if_pos c_27, if_pos (by omega)]⟩ d_Model_varint_62
            · skip
              refine lv_iload hx hb d_Model_varint_45 (lv_at hl 4 rfl) ?_
              refine z0_le (a := i) (by omega) hx hb d_Model_varint_47 (tgt := 63) (by decide) (fun c_47 => ?_) (fun c_47 => ?_)
              · skip
                refine lv_lload_n hx hb d_Model_varint_63 rfl (lv_at hl 3 rfl) ?_
                refine lv_iload hx hb d_Model_varint_64 (lv_at hl 0 rfl) ?_
                refine lv_bipush (v := nI 127) hx hb d_Model_varint_66 (by decide +kernel) ?_
                refine lv_iand hx hb d_Model_varint_68 ?_
                refine lv_i2l (v := ((nI (r_nV b zc)) &&& (nI 127)).toInt64) hx hb d_Model_varint_69 rfl ?_
                refine lv_bipush (v := nI 7) hx hb d_Model_varint_70 (by decide +kernel) ?_
                refine lv_iload hx hb d_Model_varint_72 (lv_at hl 4 rfl) ?_
                refine lv_imul hx hb d_Model_varint_74 (z_i (pk_mul 7 i) ?_)
                refine lv_lshl (v := zshl (((nI (r_nV b zc)) &&& (nI 127)).toInt64) (nI (7 * i))) hx hb d_Model_varint_75 rfl ?_
                refine lv_lor hx hb d_Model_varint_76 ?_
                refine z_l (v := r_vv v (r_nV b zc) i) rfl ?_
                refine lv_lstore_n (lv' := [(2, .long (r_vv v (r_nV b zc) i)), (5, .int (nI (r_nV b zc))), (0, .ref g), (1, .int (nI z.1)), (4, .int (nI i))]) hx hb d_Model_varint_77 rfl hl (by decide) rfl (fun ls hl => ?_)
                refine lv_iload hx hb d_Model_varint_78 (lv_at hl 1 rfl) ?_
                refine lv_sipush (v := nI 128) hx hb d_Model_varint_80 (by decide +kernel) ?_
                refine zn_ge (a := r_nV b zc) (b := 128) (by omega) (by omega) hx hb d_Model_varint_83 (tgt := 88) (by decide) (fun c_83 => ?_) (fun c_83 => ?_)
                · skip
                  refine lv_iinc (v := nI (i + 1)) (lv' := [(4, .int (nI (i + 1))), (2, .long (r_vv v (r_nV b zc) i)), (5, .int (nI (r_nV b zc))), (0, .ref g), (1, .int (nI z.1))]) hx hb d_Model_varint_88 hl (k := 4) rfl (zinc i 1) (by decide) rfl (fun ls hl => ?_)
                  refine lv_goto (tgt := 10) hx hb d_Model_varint_91 (by decide) ?_
                  exact ih10 (i + 1) (r_vv v (r_nV b zc) i) (r_nS b zc) (by omega) hzn (by rw [show 10 - i = (10 - (i + 1)) + 1 by omega, r_vl, if_pos c_14, if_pos c_27, if_neg (by omega), if_neg (by omega)] at hR; exact hR) (by omega) _ _ hP hD hS ls (lv_sub hl [3, 4, 1, 0] rfl)
                · skip
                  refine lv_lload_n hx hb d_Model_varint_86 rfl (lv_at hl 0 rfl) ?_
                  exact z_lret hx hb hr hlocks hS hP hD ⟨by rw [← hR, show 10 - i = (10 - (i + 1)) + 1 by omega, r_vl, if_pos c_14, if_pos c_27, if_neg (by omega), if_pos c_83], by rw [← hR, show 10 - i = (10 - (i + 1)) + 1 by omega, r_vl, if_pos c_14, if_pos c_27, if_neg (by omega), if_pos c_83]⟩ d_Model_varint_87
              · skip
                refine lv_iload hx hb d_Model_varint_50 (lv_at hl 0 rfl) ?_
                refine z0_ne (a := r_nV b zc) (by omega) hx hb d_Model_varint_52 (tgt := 63) (by decide) (fun c_52 => ?_) (fun c_52 => ?_)
                · skip
                  refine lv_lload_n hx hb d_Model_varint_63 rfl (lv_at hl 3 rfl) ?_
                  refine lv_iload hx hb d_Model_varint_64 (lv_at hl 0 rfl) ?_
                  refine lv_bipush (v := nI 127) hx hb d_Model_varint_66 (by decide +kernel) ?_
                  refine lv_iand hx hb d_Model_varint_68 ?_
                  refine lv_i2l (v := ((nI (r_nV b zc)) &&& (nI 127)).toInt64) hx hb d_Model_varint_69 rfl ?_
                  refine lv_bipush (v := nI 7) hx hb d_Model_varint_70 (by decide +kernel) ?_
                  refine lv_iload hx hb d_Model_varint_72 (lv_at hl 4 rfl) ?_
                  refine lv_imul hx hb d_Model_varint_74 (z_i (pk_mul 7 i) ?_)
                  refine lv_lshl (v := zshl (((nI (r_nV b zc)) &&& (nI 127)).toInt64) (nI (7 * i))) hx hb d_Model_varint_75 rfl ?_
                  refine lv_lor hx hb d_Model_varint_76 ?_
                  refine z_l (v := r_vv v (r_nV b zc) i) rfl ?_
                  refine lv_lstore_n (lv' := [(2, .long (r_vv v (r_nV b zc) i)), (5, .int (nI (r_nV b zc))), (0, .ref g), (1, .int (nI z.1)), (4, .int (nI i))]) hx hb d_Model_varint_77 rfl hl (by decide) rfl (fun ls hl => ?_)
                  refine lv_iload hx hb d_Model_varint_78 (lv_at hl 1 rfl) ?_
                  refine lv_sipush (v := nI 128) hx hb d_Model_varint_80 (by decide +kernel) ?_
                  refine zn_ge (a := r_nV b zc) (b := 128) (by omega) (by omega) hx hb d_Model_varint_83 (tgt := 88) (by decide) (fun c_83 => ?_) (fun c_83 => ?_)
                  · skip
                    refine lv_iinc (v := nI (i + 1)) (lv' := [(4, .int (nI (i + 1))), (2, .long (r_vv v (r_nV b zc) i)), (5, .int (nI (r_nV b zc))), (0, .ref g), (1, .int (nI z.1))]) hx hb d_Model_varint_88 hl (k := 4) rfl (zinc i 1) (by decide) rfl (fun ls hl => ?_)
                    refine lv_goto (tgt := 10) hx hb d_Model_varint_91 (by decide) ?_
                    exact ih10 (i + 1) (r_vv v (r_nV b zc) i) (r_nS b zc) (by omega) hzn (by rw [show 10 - i = (10 - (i + 1)) + 1 by omega, r_vl, if_pos c_14, if_pos c_27, if_neg (by omega), if_neg (by omega)] at hR; exact hR) (by omega) _ _ hP hD hS ls (lv_sub hl [3, 4, 1, 0] rfl)
                  · skip
                    refine lv_lload_n hx hb d_Model_varint_86 rfl (lv_at hl 0 rfl) ?_
                    exact z_lret hx hb hr hlocks hS hP hD ⟨by rw [← hR, show 10 - i = (10 - (i + 1)) + 1 by omega, r_vl, if_pos c_14, if_pos c_27, if_neg (by omega), if_pos c_83], by rw [← hR, show 10 - i = (10 - (i + 1)) + 1 by omega, r_vl, if_pos c_14, if_pos c_27, if_neg (by omega), if_pos c_83]⟩ d_Model_varint_87
                · skip
                  refine lv_aload_n hx hb d_Model_varint_55 rfl (lv_at hl 1 rfl) ?_
                  refine lv_iconst (v := nI 2) hx hb d_Model_varint_56 (by decide +kernel) ?_
                  refine lv_iload_n hx hb d_Model_varint_57 rfl (lv_at hl 2 rfl) ?_
                  refine z_callEv (wr := [(mb, .inl (cI, 20000, .inl b.1))]) (w2 := [(g, .inr (4, [.int cd, .ref mr, .ref ms, .int (nI n0), .ref mb, .int (nI b.2), .int ((r_fail (r_nS b zc) 2 (nI z.1)).2.2), .ref ml, .ref mn, .ref mw, .ref mt, .ref mv, .ref mu, .int (nI bl), .int (nI ((r_fail (r_nS b zc) 2 (nI z.1)).1)), .int (nI ((r_fail (r_nS b zc) 2 (nI z.1)).2.1))])), (mb, .inl (cI, 20000, .inl b.1))]) (z_runV (rest := []) hx hb hml hown hts hK hN (c_Model_fail l D cI cJ g mr ms mb ml mn mw mt mv mu cd n0 bl (r_nS b zc) 2 (nI z.1) b.2 hznf) kk_Model_82 (zP.cut hP [0] rfl) (hD.sub [0] (by decide) rfl) 0 rfl rfl rfl hl.1 rfl (Nat.le_of_ble_eq_true rfl) d_Model_varint_58 (by decide) (by decide)) hP hD hS hA [0] [1] [1, 0] rfl rfl (by decide) (by decide) (by decide) rfl (fun H locs hP hD hS => ?_)
                  refine lv_lconst (v := 0) hx hb d_Model_varint_61 (by decide +kernel) ?_
                  exact z_lret hx hb hr hlocks hS hP hD ⟨by rw [← hR, show 10 - i = (10 - (i + 1)) + 1 by omega, r_vl, if_pos c_14, if_pos c_27, if_pos (by omega)], by rw [← hR, show 10 - i = (10 - (i + 1)) + 1 by omega, r_vl, if_pos c_14, if_pos c_27, if_pos (by omega)]⟩ d_Model_varint_62
        · skip
          refine lv_lconst (v := 0) hx hb d_Model_varint_30 (by decide +kernel) ?_
          exact z_lret hx hb hr hlocks hS hP hD ⟨by rw [← hR, show 10 - i = (10 - (i + 1)) + 1 by omega, r_vl, if_pos c_14, if_neg (by omega)], by rw [← hR, show 10 - i = (10 - (i + 1)) + 1 by omega, r_vl, if_pos c_14, if_neg (by omega)]⟩ d_Model_varint_31
  exact hlp10 _ 0 0 z (by omega) hz rfl (Nat.lt_succ_self _) _ _ hP hD hS ls (lv_sub hl [3, 2, 1, 0] rfl)

set_option maxHeartbeats 4000000 in
set_option maxRecDepth 100000 in
theorem c_Model_inPart (l : Launch) (D : va_G) (cI cJ : ClassId) (many : Nat) (pp : Nat) (hm : many ≤ 2000) (hp : pp < 4) : Ct l D (zT cI cJ) y_Model_inPart b_Model_inPart 2 (some .int) 0 0 0 0 [.int (nI many), .int (nI pp)] [] (zEq (some (.int (nI (r_ip many pp)))) []) := by
  refine Ct.ofW (by decide) (Nat.le_of_ble_eq_true rfl) ?_
  intro p e s m below meth c A ls C0 hP hD hS hl
  obtain ⟨hx, hb, hml, hown, hts, hK, hN, hr, hlocks, hA, hnm⟩ := C0
  have hl : lv_has ls 2 [(0, .int (nI many)), (1, .int (nI pp))] := hl
  have hown : s.vm.findClass R_Model = some m.cls := hown
  refine lv_iload_n hx hb d_Model_inPart_0 rfl (lv_at hl 0 rfl) ?_
  refine lv_bipush (v := nI 16) hx hb d_Model_inPart_1 (by decide +kernel) ?_
  refine lv_iload_n hx hb d_Model_inPart_3 rfl (lv_at hl 1 rfl) ?_
  refine lv_imul hx hb d_Model_inPart_4 (z_i (pk_mul 16 pp) ?_)
  refine lv_isub hx hb d_Model_inPart_5 ?_
  refine zs0_ge (x := many) (y := 16 * pp) (by omega) (by omega) hx hb d_Model_inPart_6 (tgt := 13) (by decide) (fun c_6 => ?_) (fun c_6 => ?_)
  · skip
    refine lv_iload_n hx hb d_Model_inPart_13 rfl (lv_at hl 0 rfl) ?_
    refine lv_bipush (v := nI 16) hx hb d_Model_inPart_14 (by decide +kernel) ?_
    refine lv_iload_n hx hb d_Model_inPart_16 rfl (lv_at hl 1 rfl) ?_
    refine lv_imul hx hb d_Model_inPart_17 (z_i (pk_mul 16 pp) ?_)
    refine lv_isub hx hb d_Model_inPart_18 (z_i (pk_sub (a := many) (b := 16 * pp) (by omega)) ?_)
    refine lv_bipush (v := nI 16) hx hb d_Model_inPart_19 (by decide +kernel) ?_
    refine zn_ge (a := many - (16 * pp)) (b := 16) (by omega) (by omega) hx hb d_Model_inPart_21 (tgt := 33) (by decide) (fun c_21 => ?_) (fun c_21 => ?_)
    · skip
      refine lv_bipush (v := nI 16) hx hb d_Model_inPart_33 (by decide +kernel) ?_
      exact z_iret hx hb hr hlocks hS hP hD ⟨by unfold r_ip; first | (rw [show min (many - 16 * pp) 16 = 0 by omega]) | (rw [show min (many - 16 * pp) 16 = many - 16 * pp by omega]) | (rw [show min (many - 16 * pp) 16 = 16 by omega]), rfl⟩ d_Model_inPart_35
    · skip
      refine lv_iload_n hx hb d_Model_inPart_24 rfl (lv_at hl 0 rfl) ?_
      refine lv_bipush (v := nI 16) hx hb d_Model_inPart_25 (by decide +kernel) ?_
      refine lv_iload_n hx hb d_Model_inPart_27 rfl (lv_at hl 1 rfl) ?_
      refine lv_imul hx hb d_Model_inPart_28 (z_i (pk_mul 16 pp) ?_)
      refine lv_isub hx hb d_Model_inPart_29 (z_i (pk_sub (a := many) (b := 16 * pp) (by omega)) ?_)
      refine lv_goto (tgt := 35) hx hb d_Model_inPart_30 (by decide) ?_
      exact z_iret hx hb hr hlocks hS hP hD ⟨by unfold r_ip; first | (rw [show min (many - 16 * pp) 16 = 0 by omega]) | (rw [show min (many - 16 * pp) 16 = many - 16 * pp by omega]) | (rw [show min (many - 16 * pp) 16 = 16 by omega]), rfl⟩ d_Model_inPart_35
  · skip
    refine lv_iconst (v := nI 0) hx hb d_Model_inPart_9 (by decide +kernel) ?_
    refine lv_goto (tgt := 35) hx hb d_Model_inPart_10 (by decide) ?_
    exact z_iret hx hb hr hlocks hS hP hD ⟨by unfold r_ip; first | (rw [show min (many - 16 * pp) 16 = 0 by omega]) | (rw [show min (many - 16 * pp) 16 = many - 16 * pp by omega]) | (rw [show min (many - 16 * pp) 16 = 16 by omega]), rfl⟩ d_Model_inPart_35

set_option maxHeartbeats 8000000 in
set_option maxRecDepth 100000 in
theorem c_Model_readBlock (l : Launch) (D : va_G) (cI cJ : ClassId) (g : Nat) (mr : Nat) (ms : Nat) (mb : Nat) (ml : Nat) (mn : Nat) (mw : Nat) (mt : Nat) (mv : Nat) (mu : Nat) (cd : Int32) (n0 : Nat) (bl : Nat) (b : RB) (x : RL) (fr : Nat) (many : Nat) (blk : Nat) (hu : b.2 ≤ 20000) (hB : r_by b.1) (hz : r_ok b x.1) (hfm : fr + many < 2000) (hm : many ≤ 64) (hblk : blk ≤ 32) : Ct l D (zT cI cJ) y_Model_readBlock b_Model_readBlock 13 none 3 67 0 0 [.ref g, .int (nI fr), .int (nI many), .int (nI blk)] [(g, .inr (4, [.int cd, .ref mr, .ref ms, .int (nI n0), .ref mb, .int (nI b.2), .int x.1.2.2, .ref ml, .ref mn, .ref mw, .ref mt, .ref mv, .ref mu, .int (nI bl), .int (nI x.1.1), .int (nI x.1.2.1)])), (ms, .inl (cJ, 2000, .inr (.inl x.2.1))), (mb, .inl (cI, 20000, .inl b.1)), (mn, .inl (cJ, 40, .inr (.inl x.2.2.1))), (mv, .inl (cI, 160, .inl x.2.2.2.1)), (mu, .inl (cI, 160, .inl x.2.2.2.2))] (zEq none [(g, .inr (4, [.int cd, .ref mr, .ref ms, .int (nI n0), .ref mb, .int (nI b.2), .int ((r_rb b fr many blk x).1.2.2), .ref ml, .ref mn, .ref mw, .ref mt, .ref mv, .ref mu, .int (nI bl), .int (nI ((r_rb b fr many blk x).1.1)), .int (nI ((r_rb b fr many blk x).1.2.1))])), (ms, .inl (cJ, 2000, .inr (.inl ((r_rb b fr many blk x).2.1)))), (mb, .inl (cI, 20000, .inl b.1)), (mn, .inl (cJ, 40, .inr (.inl ((r_rb b fr many blk x).2.2.1)))), (mv, .inl (cI, 160, .inl ((r_rb b fr many blk x).2.2.2.1))), (mu, .inl (cI, 160, .inl ((r_rb b fr many blk x).2.2.2.2)))]) := by
  refine Ct.ofW (by decide) (Nat.le_of_ble_eq_true rfl) ?_
  intro p e s m below meth c A ls C0 hP hD hS hl
  obtain ⟨hx, hb, hml, hown, hts, hK, hN, hr, hlocks, hA, hnm⟩ := C0
  have hl : lv_has ls 13 [(0, .ref g), (1, .int (nI fr)), (2, .int (nI many)), (3, .int (nI blk))] := hl
  have hown : s.vm.findClass R_Model = some m.cls := hown
  have h1 := r_ok_v hz
  have h2 := r_ok_W (many := many) (blk := blk) hz
  refine lv_aload_n hx hb d_Model_readBlock_0 rfl (lv_at hl 0 rfl) ?_
  refine z_callEl (wr := [(ms, .inl (cJ, 2000, .inr (.inl x.2.1))), (mn, .inl (cJ, 40, .inr (.inl x.2.2.1))), (mv, .inl (cI, 160, .inl x.2.2.2.1)), (mu, .inl (cI, 160, .inl x.2.2.2.2))]) (w2 := [(g, .inr (4, [.int cd, .ref mr, .ref ms, .int (nI n0), .ref mb, .int (nI b.2), .int ((r_v b x.1).2.2.2), .ref ml, .ref mn, .ref mw, .ref mt, .ref mv, .ref mu, .int (nI bl), .int (nI ((r_v b x.1).2.1)), .int (nI ((r_v b x.1).2.2.1))])), (ms, .inl (cJ, 2000, .inr (.inl x.2.1))), (mb, .inl (cI, 20000, .inl b.1)), (mn, .inl (cJ, 40, .inr (.inl x.2.2.1))), (mv, .inl (cI, 160, .inl x.2.2.2.1)), (mu, .inl (cI, 160, .inl x.2.2.2.2))]) (z_runV (rest := []) hx hb hml hown hts hK hN (c_Model_varint l D cI cJ g mr ms mb ml mn mw mt mv mu cd n0 bl x.1 b (by (try dsimp only); omega) hB hz) kk_Model_90 (zP.cut hP [0, 2] rfl) (hD.sub [0, 2] (by decide) rfl) 0 rfl rfl rfl hl.1 rfl (Nat.le_of_ble_eq_true rfl) d_Model_readBlock_1 (by decide) (by decide)) hP hD hS hA [0, 2] [1, 3, 4, 5] [4, 0, 5, 1, 2, 3] rfl rfl (by decide) (by decide) (by decide) rfl (fun H locs hP hD hS => ?_)
  refine z_callEl (wr := [(g, .inr (4, [.int cd, .ref mr, .ref ms, .int (nI n0), .ref mb, .int (nI b.2), .int ((r_v b x.1).2.2.2), .ref ml, .ref mn, .ref mw, .ref mt, .ref mv, .ref mu, .int (nI bl), .int (nI ((r_v b x.1).2.1)), .int (nI ((r_v b x.1).2.2.1))])), (ms, .inl (cJ, 2000, .inr (.inl x.2.1))), (mb, .inl (cI, 20000, .inl b.1)), (mn, .inl (cJ, 40, .inr (.inl x.2.2.1))), (mv, .inl (cI, 160, .inl x.2.2.2.1)), (mu, .inl (cI, 160, .inl x.2.2.2.2))]) (w2 := [(g, .inr (4, [.int cd, .ref mr, .ref ms, .int (nI n0), .ref mb, .int (nI b.2), .int ((r_v b x.1).2.2.2), .ref ml, .ref mn, .ref mw, .ref mt, .ref mv, .ref mu, .int (nI bl), .int (nI ((r_v b x.1).2.1)), .int (nI ((r_v b x.1).2.2.1))])), (ms, .inl (cJ, 2000, .inr (.inl x.2.1))), (mb, .inl (cI, 20000, .inl b.1)), (mn, .inl (cJ, 40, .inr (.inl x.2.2.1))), (mv, .inl (cI, 160, .inl x.2.2.2.1)), (mu, .inl (cI, 160, .inl x.2.2.2.2))]) (z_runS (rest := []) hx hb hml hown hts hK hN (c_Model_unzigzag l D cI cJ ((r_v b x.1).1) ) kk_Model_94 (zP.cut hP [] rfl) (hD.sub [] (by decide) rfl) rfl hl.1 rfl (Nat.le_of_ble_eq_true rfl) d_Model_readBlock_4 (by decide) (by decide)) hP hD hS hA [] [0, 1, 2, 3, 4, 5] [0, 1, 2, 3, 4, 5] rfl rfl (by decide) (by decide) (by decide) rfl (fun H locs hP hD hS => ?_)
  refine lv_lstore (lv' := [(4, .long (r_unzig ((r_v b x.1).1))), (0, .ref g), (1, .int (nI fr)), (2, .int (nI many)), (3, .int (nI blk))]) hx hb d_Model_readBlock_7 hl (by decide) rfl (fun ls hl => ?_)
  refine lv_aload_n hx hb d_Model_readBlock_9 rfl (lv_at hl 1 rfl) ?_
  refine g_Model_27 hx hb hts hown hK hP 0 rfl rfl d_Model_readBlock_10 ?_
  refine lv_iload_n hx hb d_Model_readBlock_13 rfl (lv_at hl 4 rfl) ?_
  refine lv_lload hx hb d_Model_readBlock_14 (lv_at hl 0 rfl) ?_
  refine z_last (w2 := [(g, .inr (4, [.int cd, .ref mr, .ref ms, .int (nI n0), .ref mb, .int (nI b.2), .int ((r_v b x.1).2.2.2), .ref ml, .ref mn, .ref mw, .ref mt, .ref mv, .ref mu, .int (nI bl), .int (nI ((r_v b x.1).2.1)), .int (nI ((r_v b x.1).2.2.1))])), (ms, .inl (cJ, 2000, .inr (.inl x.2.1))), (mb, .inl (cI, 20000, .inl b.1)), (mn, .inl (cJ, 40, .inr (.inl (vp_updL x.2.2.1 blk (r_unzig ((r_v b x.1).1)))))), (mv, .inl (cI, 160, .inl x.2.2.2.1)), (mu, .inl (cI, 160, .inl x.2.2.2.2))]) hx hb hK hP hD hS 3 1 rfl rfl (by omega) (by decide) d_Model_readBlock_16 rfl (fun H locs hP hD hS => ?_)
  have hj90 : ((r_W b many blk x).1.2.1 = 0 → ∀ q, q < 4 → p_g8 (r_W b many blk x).2 (4 * blk + q)) → ∀ (H : Heap) (locs : List Loc), va_P D classes [(g, .inr (4, [.int cd, .ref mr, .ref ms, .int (nI n0), .ref mb, .int (nI b.2), .int ((r_W b many blk x).1.2.2), .ref ml, .ref mn, .ref mw, .ref mt, .ref mv, .ref mu, .int (nI bl), .int (nI ((r_W b many blk x).1.1)), .int (nI ((r_W b many blk x).1.2.1))])), (ms, .inl (cJ, 2000, .inr (.inl x.2.1))), (mb, .inl (cI, 20000, .inl b.1)), (mn, .inl (cJ, 40, .inr (.inl (vp_updL x.2.2.1 blk (r_unzig (r_v b x.1).1))))), (mv, .inl (cI, 160, .inl ((r_W b many blk x).2))), (mu, .inl (cI, 160, .inl x.2.2.2.2))] H → va_D A [(g, .inr (4, [.int cd, .ref mr, .ref ms, .int (nI n0), .ref mb, .int (nI b.2), .int ((r_W b many blk x).1.2.2), .ref ml, .ref mn, .ref mw, .ref mt, .ref mv, .ref mu, .int (nI bl), .int (nI ((r_W b many blk x).1.1)), .int (nI ((r_W b many blk x).1.2.1))])), (ms, .inl (cJ, 2000, .inr (.inl x.2.1))), (mb, .inl (cI, 20000, .inl b.1)), (mn, .inl (cJ, 40, .inr (.inl (vp_updL x.2.2.1 blk (r_unzig (r_v b x.1).1))))), (mv, .inl (cI, 160, .inl ((r_W b many blk x).2))), (mu, .inl (cI, 160, .inl x.2.2.2.2))] → va_S A s.heap H locs → ∀ (ls : Array Slot), lv_has ls 13 [(0, .ref g), (1, .int (nI fr)), (2, .int (nI many)), (3, .int (nI blk)), (4, .long (r_unzig (r_v b x.1).1))] → W p l e { frames := 3, cells := 0, slots := 0, locals := 67 } s m ([.ref g, .int (nI fr), .int (nI many), .int (nI blk)] : List Value).toArray below meth c H locs 0 0 (MQ below (zQ D (zEq none [(g, .inr (4, [.int cd, .ref mr, .ref ms, .int (nI n0), .ref mb, .int (nI b.2), .int ((r_rb b fr many blk x).1.2.2), .ref ml, .ref mn, .ref mw, .ref mt, .ref mv, .ref mu, .int (nI bl), .int (nI ((r_rb b fr many blk x).1.1)), .int (nI ((r_rb b fr many blk x).1.2.1))])), (ms, .inl (cJ, 2000, .inr (.inl ((r_rb b fr many blk x).2.1)))), (mb, .inl (cI, 20000, .inl b.1)), (mn, .inl (cJ, 40, .inr (.inl ((r_rb b fr many blk x).2.2.1)))), (mv, .inl (cI, 160, .inl ((r_rb b fr many blk x).2.2.2.1))), (mu, .inl (cI, 160, .inl ((r_rb b fr many blk x).2.2.2.2)))]) A) ([.ref g, .int (nI fr), .int (nI many), .int (nI blk)] : List Value).toArray s 0 0 A) (F0 m 90 ls []) := by
    intro  hg H locs hP hD hS ls hl
    refine lv_iconst (v := nI 0) hx hb d_Model_readBlock_90 (by decide +kernel) ?_
    refine lv_istore (lv' := [(6, .int (nI 0)), (0, .ref g), (1, .int (nI fr)), (2, .int (nI many)), (3, .int (nI blk)), (4, .long (r_unzig (r_v b x.1).1))]) hx hb d_Model_readBlock_91 hl (by decide) rfl (fun ls hl => ?_)
    have hlp93 : ∀ (n : Nat) (i : Nat) (y : (SS × (Nat → Int64)) × (Nat → Int32)), (i ≤ 4) → (r_ok b y.1.1) → ((∀ q, q < 4 → p_g8 (r_W b many blk x).2 (4 * blk + q)) ∨ ¬ y.1.1.2.1 = 0) → (r_lp b (r_unzig (r_v b x.1).1) fr many blk (r_W b many blk x).2 (4 - i) i y = (r_P b fr many blk x)) → 4 - i < n → ∀ (H : Heap) (locs : List Loc), va_P D classes [(g, .inr (4, [.int cd, .ref mr, .ref ms, .int (nI n0), .ref mb, .int (nI b.2), .int y.1.1.2.2, .ref ml, .ref mn, .ref mw, .ref mt, .ref mv, .ref mu, .int (nI bl), .int (nI y.1.1.1), .int (nI y.1.1.2.1)])), (ms, .inl (cJ, 2000, .inr (.inl y.1.2))), (mb, .inl (cI, 20000, .inl b.1)), (mn, .inl (cJ, 40, .inr (.inl (vp_updL x.2.2.1 blk (r_unzig (r_v b x.1).1))))), (mv, .inl (cI, 160, .inl ((r_W b many blk x).2))), (mu, .inl (cI, 160, .inl y.2))] H → va_D A [(g, .inr (4, [.int cd, .ref mr, .ref ms, .int (nI n0), .ref mb, .int (nI b.2), .int y.1.1.2.2, .ref ml, .ref mn, .ref mw, .ref mt, .ref mv, .ref mu, .int (nI bl), .int (nI y.1.1.1), .int (nI y.1.1.2.1)])), (ms, .inl (cJ, 2000, .inr (.inl y.1.2))), (mb, .inl (cI, 20000, .inl b.1)), (mn, .inl (cJ, 40, .inr (.inl (vp_updL x.2.2.1 blk (r_unzig (r_v b x.1).1))))), (mv, .inl (cI, 160, .inl ((r_W b many blk x).2))), (mu, .inl (cI, 160, .inl y.2))] → va_S A s.heap H locs → ∀ (ls : Array Slot), lv_has ls 13 [(0, .ref g), (1, .int (nI fr)), (2, .int (nI many)), (3, .int (nI blk)), (4, .long (r_unzig (r_v b x.1).1)), (6, .int (nI i))] → W p l e { frames := 3, cells := 0, slots := 0, locals := 67 } s m ([.ref g, .int (nI fr), .int (nI many), .int (nI blk)] : List Value).toArray below meth c H locs 0 0 (MQ below (zQ D (zEq none [(g, .inr (4, [.int cd, .ref mr, .ref ms, .int (nI n0), .ref mb, .int (nI b.2), .int ((r_rb b fr many blk x).1.2.2), .ref ml, .ref mn, .ref mw, .ref mt, .ref mv, .ref mu, .int (nI bl), .int (nI ((r_rb b fr many blk x).1.1)), .int (nI ((r_rb b fr many blk x).1.2.1))])), (ms, .inl (cJ, 2000, .inr (.inl ((r_rb b fr many blk x).2.1)))), (mb, .inl (cI, 20000, .inl b.1)), (mn, .inl (cJ, 40, .inr (.inl ((r_rb b fr many blk x).2.2.1)))), (mv, .inl (cI, 160, .inl ((r_rb b fr many blk x).2.2.2.1))), (mu, .inl (cI, 160, .inl ((r_rb b fr many blk x).2.2.2.2)))]) A) ([.ref g, .int (nI fr), .int (nI many), .int (nI blk)] : List Value).toArray s 0 0 A) (F0 m 93 ls []) := by
      intro n
      induction n with
      | zero => intro i y hi hy ho hR hmu; exact absurd hmu (Nat.not_lt_zero _)
      | succ n ih =>
        intro i y hi hy ho hR hmu H locs hP hD hS ls hl
        have hyf0 := hy.2
        have ih93 := ih
        refine lv_iload hx hb d_Model_readBlock_93 (lv_at hl 5 rfl) ?_
        refine lv_iconst (v := nI 4) hx hb d_Model_readBlock_95 (by decide +kernel) ?_
        refine zn_ge (a := i) (b := 4) (by omega) (by omega) hx hb d_Model_readBlock_96 (tgt := 324) (by decide) (fun c_96 => ?_) (fun c_96 => ?_)
        · skip
          exact z_vret hx hb hr hlocks hS hP hD ⟨rfl, by unfold r_rb; rw [← hR]; first | (rw [show 4 - i = 0 by omega]; rfl) | (rw [show 4 - i = (4 - (i + 1)) + 1 by omega, r_lp, if_neg (by omega)])⟩ d_Model_readBlock_324
        · skip
          refine lv_aload_n hx hb d_Model_readBlock_99 rfl (lv_at hl 0 rfl) ?_
          refine g_Model_76 hx hb hts hown hK hP 0 rfl rfl d_Model_readBlock_100 ?_
          refine z0_ne (a := y.1.1.2.1) (by omega) hx hb d_Model_readBlock_103 (tgt := 324) (by decide) (fun c_103 => ?_) (fun c_103 => ?_)
          · skip
            exact z_vret hx hb hr hlocks hS hP hD ⟨rfl, by unfold r_rb; rw [← hR]; first | (rw [show 4 - i = 0 by omega]; rfl) | (rw [show 4 - i = (4 - (i + 1)) + 1 by omega, r_lp, if_neg (by omega)])⟩ d_Model_readBlock_324
          · skip
            refine lv_aload_n hx hb d_Model_readBlock_106 rfl (lv_at hl 0 rfl) ?_
            refine g_Model_36 hx hb hts hown hK hP 0 rfl rfl d_Model_readBlock_107 ?_
            refine lv_iconst (v := nI 4) hx hb d_Model_readBlock_110 (by decide +kernel) ?_
            refine lv_iload_n hx hb d_Model_readBlock_111 rfl (lv_at hl 3 rfl) ?_
            refine lv_imul hx hb d_Model_readBlock_112 (z_i (pk_mul 4 blk) ?_)
            refine lv_iload hx hb d_Model_readBlock_113 (lv_at hl 5 rfl) ?_
            refine lv_iadd hx hb d_Model_readBlock_115 (z_i (nI_add (4 * blk) i) ?_)
            refine z_iald hx hb hK hP 4 0 rfl rfl (by omega) (by decide) d_Model_readBlock_116 ?_
            refine z_i (v := nI (cl (r_W b many blk x).2 (4 * blk + i))) (((ho.resolve_right (fun q => q c_103)) i c_96).1) ?_
            refine lv_istore (lv' := [(7, .int (nI (cl (r_W b many blk x).2 (4 * blk + i)))), (0, .ref g), (1, .int (nI fr)), (2, .int (nI many)), (3, .int (nI blk)), (4, .long (r_unzig (r_v b x.1).1)), (6, .int (nI i))]) hx hb d_Model_readBlock_117 hl (by decide) rfl (fun ls hl => ?_)
            have hg9 := (ho.resolve_right (fun q => q c_103)) i c_96
            have hg8 := hg9.2
            have hyf := hy.2
            have hy1 := hy.1
            refine lv_aload_n hx hb d_Model_readBlock_119 rfl (lv_at hl 1 rfl) ?_
            refine g_Model_39 hx hb hts hown hK hP 0 rfl rfl d_Model_readBlock_120 ?_
            refine lv_iconst (v := nI 4) hx hb d_Model_readBlock_123 (by decide +kernel) ?_
            refine lv_iload_n hx hb d_Model_readBlock_124 rfl (lv_at hl 4 rfl) ?_
            refine lv_imul hx hb d_Model_readBlock_125 (z_i (pk_mul 4 blk) ?_)
            refine lv_iload hx hb d_Model_readBlock_126 (lv_at hl 6 rfl) ?_
            refine lv_iadd hx hb d_Model_readBlock_128 (z_i (nI_add (4 * blk) i) ?_)
            refine lv_aload_n hx hb d_Model_readBlock_129 rfl (lv_at hl 1 rfl) ?_
            refine g_Model_79 hx hb hts hown hK hP 0 rfl rfl d_Model_readBlock_130 ?_
            refine z_iast (w2 := [(g, .inr (4, [.int cd, .ref mr, .ref ms, .int (nI n0), .ref mb, .int (nI b.2), .int y.1.1.2.2, .ref ml, .ref mn, .ref mw, .ref mt, .ref mv, .ref mu, .int (nI bl), .int (nI y.1.1.1), .int (nI y.1.1.2.1)])), (ms, .inl (cJ, 2000, .inr (.inl y.1.2))), (mb, .inl (cI, 20000, .inl b.1)), (mn, .inl (cJ, 40, .inr (.inl (vp_updL x.2.2.1 blk (r_unzig (r_v b x.1).1))))), (mv, .inl (cI, 160, .inl ((r_W b many blk x).2))), (mu, .inl (cI, 160, .inl (upd y.2 (4 * blk + i) (nI y.1.1.1))))]) hx hb hK hP hD hS 5 0 rfl rfl (by omega) (by decide) d_Model_readBlock_133 rfl (fun H locs hP hD hS => ?_)
            refine lv_aload_n hx hb d_Model_readBlock_134 rfl (lv_at hl 1 rfl) ?_
            refine g_Model_48 hx hb hts hown hK hP 0 rfl rfl d_Model_readBlock_135 ?_
            refine lv_aload_n hx hb d_Model_readBlock_138 rfl (lv_at hl 1 rfl) ?_
            refine g_Model_79 hx hb hts hown hK hP 0 rfl rfl d_Model_readBlock_139 ?_
            refine lv_isub hx hb d_Model_readBlock_142 (z_i (pk_sub (a := b.2) (b := y.1.1.1) (by omega)) ?_)
            refine lv_iconst (v := nI 2) hx hb d_Model_readBlock_143 (by decide +kernel) ?_
            refine lv_iload hx hb d_Model_readBlock_144 (lv_at hl 0 rfl) ?_
            refine lv_imul hx hb d_Model_readBlock_146 (z_i (pk_mul 2 (cl (r_W b many blk x).2 (4 * blk + i))) ?_)
            refine zn_ge (a := b.2 - y.1.1.1) (b := 2 * (cl (r_W b many blk x).2 (4 * blk + i))) (by omega) (by omega) hx hb d_Model_readBlock_147 (tgt := 160) (by decide) (fun c_147 => ?_) (fun c_147 => ?_)
            · skip
              refine lv_iconst (v := nI 0) hx hb d_Model_readBlock_160 (by decide +kernel) ?_
              refine lv_istore (lv' := [(8, .int (nI 0)), (7, .int (nI (cl (r_W b many blk x).2 (4 * blk + i)))), (0, .ref g), (1, .int (nI fr)), (2, .int (nI many)), (3, .int (nI blk)), (4, .long (r_unzig (r_v b x.1).1)), (6, .int (nI i))]) hx hb d_Model_readBlock_161 hl (by decide) rfl (fun ls hl => ?_)
              have hlp163 : ∀ (n : Nat) (k : Nat), (k ≤ 16) → 16 - k < n → ∀ (H : Heap) (locs : List Loc), va_P D classes [(g, .inr (4, [.int cd, .ref mr, .ref ms, .int (nI n0), .ref mb, .int (nI b.2), .int ((r_kl b (r_unzig (r_v b x.1).1) (fr + 16 * i) (r_ip many i) (cl (r_W b many blk x).2 (4 * blk + i)) y.1.1.1 k y.1).1.2.2), .ref ml, .ref mn, .ref mw, .ref mt, .ref mv, .ref mu, .int (nI bl), .int (nI ((r_kl b (r_unzig (r_v b x.1).1) (fr + 16 * i) (r_ip many i) (cl (r_W b many blk x).2 (4 * blk + i)) y.1.1.1 k y.1).1.1)), .int (nI ((r_kl b (r_unzig (r_v b x.1).1) (fr + 16 * i) (r_ip many i) (cl (r_W b many blk x).2 (4 * blk + i)) y.1.1.1 k y.1).1.2.1))])), (ms, .inl (cJ, 2000, .inr (.inl ((r_kl b (r_unzig (r_v b x.1).1) (fr + 16 * i) (r_ip many i) (cl (r_W b many blk x).2 (4 * blk + i)) y.1.1.1 k y.1).2)))), (mb, .inl (cI, 20000, .inl b.1)), (mn, .inl (cJ, 40, .inr (.inl (vp_updL x.2.2.1 blk (r_unzig (r_v b x.1).1))))), (mv, .inl (cI, 160, .inl ((r_W b many blk x).2))), (mu, .inl (cI, 160, .inl (upd y.2 (4 * blk + i) (nI y.1.1.1))))] H → va_D A [(g, .inr (4, [.int cd, .ref mr, .ref ms, .int (nI n0), .ref mb, .int (nI b.2), .int ((r_kl b (r_unzig (r_v b x.1).1) (fr + 16 * i) (r_ip many i) (cl (r_W b many blk x).2 (4 * blk + i)) y.1.1.1 k y.1).1.2.2), .ref ml, .ref mn, .ref mw, .ref mt, .ref mv, .ref mu, .int (nI bl), .int (nI ((r_kl b (r_unzig (r_v b x.1).1) (fr + 16 * i) (r_ip many i) (cl (r_W b many blk x).2 (4 * blk + i)) y.1.1.1 k y.1).1.1)), .int (nI ((r_kl b (r_unzig (r_v b x.1).1) (fr + 16 * i) (r_ip many i) (cl (r_W b many blk x).2 (4 * blk + i)) y.1.1.1 k y.1).1.2.1))])), (ms, .inl (cJ, 2000, .inr (.inl ((r_kl b (r_unzig (r_v b x.1).1) (fr + 16 * i) (r_ip many i) (cl (r_W b many blk x).2 (4 * blk + i)) y.1.1.1 k y.1).2)))), (mb, .inl (cI, 20000, .inl b.1)), (mn, .inl (cJ, 40, .inr (.inl (vp_updL x.2.2.1 blk (r_unzig (r_v b x.1).1))))), (mv, .inl (cI, 160, .inl ((r_W b many blk x).2))), (mu, .inl (cI, 160, .inl (upd y.2 (4 * blk + i) (nI y.1.1.1))))] → va_S A s.heap H locs → ∀ (ls : Array Slot), lv_has ls 13 [(0, .ref g), (1, .int (nI fr)), (2, .int (nI many)), (3, .int (nI blk)), (4, .long (r_unzig (r_v b x.1).1)), (6, .int (nI i)), (7, .int (nI (cl (r_W b many blk x).2 (4 * blk + i)))), (8, .int (nI k))] → W p l e { frames := 3, cells := 0, slots := 0, locals := 67 } s m ([.ref g, .int (nI fr), .int (nI many), .int (nI blk)] : List Value).toArray below meth c H locs 0 0 (MQ below (zQ D (zEq none [(g, .inr (4, [.int cd, .ref mr, .ref ms, .int (nI n0), .ref mb, .int (nI b.2), .int ((r_rb b fr many blk x).1.2.2), .ref ml, .ref mn, .ref mw, .ref mt, .ref mv, .ref mu, .int (nI bl), .int (nI ((r_rb b fr many blk x).1.1)), .int (nI ((r_rb b fr many blk x).1.2.1))])), (ms, .inl (cJ, 2000, .inr (.inl ((r_rb b fr many blk x).2.1)))), (mb, .inl (cI, 20000, .inl b.1)), (mn, .inl (cJ, 40, .inr (.inl ((r_rb b fr many blk x).2.2.1)))), (mv, .inl (cI, 160, .inl ((r_rb b fr many blk x).2.2.2.1))), (mu, .inl (cI, 160, .inl ((r_rb b fr many blk x).2.2.2.2)))]) A) ([.ref g, .int (nI fr), .int (nI many), .int (nI blk)] : List Value).toArray s 0 0 A) (F0 m 163 ls []) := by
                intro n
                induction n with
                | zero => intro k hk hmu; exact absurd hmu (Nat.not_lt_zero _)
                | succ n ih =>
                  intro k hk hmu H locs hP hD hS ls hl
                  have hk1 := r_kl_1 (b := b) (lv := (r_unzig (r_v b x.1).1)) (k0 := (fr + 16 * i)) (ip := (r_ip many i)) (w := (cl (r_W b many blk x).2 (4 * blk + i))) (q := y.1.1.1) (x := y.1) k
                  have hkf := r_kl_f (b := b) (lv := (r_unzig (r_v b x.1).1)) (k0 := (fr + 16 * i)) (ip := (r_ip many i)) (w := (cl (r_W b many blk x).2 (4 * blk + i))) (q := y.1.1.1) (x := y.1) hyf k
                  have hip : (r_ip many i) ≤ many - 16 * i ∧ (r_ip many i) ≤ 16 := by unfold r_ip; omega
                  have ih163 := ih
                  refine lv_iload hx hb d_Model_readBlock_163 (lv_at hl 7 rfl) ?_
                  refine lv_bipush (v := nI 16) hx hb d_Model_readBlock_165 (by decide +kernel) ?_
                  refine zn_ge (a := k) (b := 16) (by omega) (by omega) hx hb d_Model_readBlock_167 (tgt := 305) (by decide) (fun c_167 => ?_) (fun c_167 => ?_)
                  · skip
                    refine lv_aload_n hx hb d_Model_readBlock_305 rfl (lv_at hl 0 rfl) ?_
                    refine lv_dup hx hb d_Model_readBlock_306 rfl ?_
                    refine g_Model_79 hx hb hts hown hK hP 0 rfl rfl d_Model_readBlock_307 ?_
                    refine lv_iconst (v := nI 2) hx hb d_Model_readBlock_310 (by decide +kernel) ?_
                    refine lv_iload hx hb d_Model_readBlock_311 (lv_at hl 6 rfl) ?_
                    refine lv_imul hx hb d_Model_readBlock_313 (z_i (pk_mul 2 (cl (r_W b many blk x).2 (4 * blk + i))) ?_)
                    refine lv_iadd hx hb d_Model_readBlock_314 (z_i (nI_add ((r_kl b (r_unzig (r_v b x.1).1) (fr + 16 * i) (r_ip many i) (cl (r_W b many blk x).2 (4 * blk + i)) y.1.1.1 k y.1).1.1) (2 * (cl (r_W b many blk x).2 (4 * blk + i)))) ?_)
                    refine p_Model_79 (w2 := [(g, .inr (4, [.int cd, .ref mr, .ref ms, .int (nI n0), .ref mb, .int (nI b.2), .int ((r_kl b (r_unzig (r_v b x.1).1) (fr + 16 * i) (r_ip many i) (cl (r_W b many blk x).2 (4 * blk + i)) y.1.1.1 k y.1).1.2.2), .ref ml, .ref mn, .ref mw, .ref mt, .ref mv, .ref mu, .int (nI bl), .int (nI ((r_kl b (r_unzig (r_v b x.1).1) (fr + 16 * i) (r_ip many i) (cl (r_W b many blk x).2 (4 * blk + i)) y.1.1.1 k y.1).1.1 + 2 * (cl (r_W b many blk x).2 (4 * blk + i)))), .int (nI ((r_kl b (r_unzig (r_v b x.1).1) (fr + 16 * i) (r_ip many i) (cl (r_W b many blk x).2 (4 * blk + i)) y.1.1.1 k y.1).1.2.1))])), (ms, .inl (cJ, 2000, .inr (.inl ((r_kl b (r_unzig (r_v b x.1).1) (fr + 16 * i) (r_ip many i) (cl (r_W b many blk x).2 (4 * blk + i)) y.1.1.1 k y.1).2)))), (mb, .inl (cI, 20000, .inl b.1)), (mn, .inl (cJ, 40, .inr (.inl (vp_updL x.2.2.1 blk (r_unzig (r_v b x.1).1))))), (mv, .inl (cI, 160, .inl ((r_W b many blk x).2))), (mu, .inl (cI, 160, .inl (upd y.2 (4 * blk + i) (nI y.1.1.1))))]) hx hb hts hown hK hP hD hS 0 rfl (Nat.le_of_ble_eq_true rfl) rfl d_Model_readBlock_315 (fun H locs hP hD hS => ?_)
                    refine lv_iinc (v := nI (i + 1)) (lv' := [(6, .int (nI (i + 1))), (0, .ref g), (1, .int (nI fr)), (2, .int (nI many)), (3, .int (nI blk)), (4, .long (r_unzig (r_v b x.1).1)), (7, .int (nI (cl (r_W b many blk x).2 (4 * blk + i)))), (8, .int (nI k))]) hx hb d_Model_readBlock_318 hl (k := 5) rfl (zinc i 1) (by decide) rfl (fun ls hl => ?_)
                    refine lv_goto (tgt := 93) hx hb d_Model_readBlock_321 (by decide) ?_
                    have e9 : r_pp b (r_unzig (r_v b x.1).1) fr many (cl (r_W b many blk x).2 (4 * blk + i)) i y.1 = ((y.1.1.1 + 2 * (cl (r_W b many blk x).2 (4 * blk + i)), (r_kl b (r_unzig (r_v b x.1).1) (fr + 16 * i) (r_ip many i) (cl (r_W b many blk x).2 (4 * blk + i)) y.1.1.1 16 y.1).1.2), (r_kl b (r_unzig (r_v b x.1).1) (fr + 16 * i) (r_ip many i) (cl (r_W b many blk x).2 (4 * blk + i)) y.1.1.1 16 y.1).2) := by unfold r_pp; rw [if_neg (by omega)]
                    have ek : k = 16 := by omega
                    subst ek
                    exact ih93 (i + 1) (r_pp b (r_unzig (r_v b x.1).1) fr many (cl (r_W b many blk x).2 (4 * blk + i)) i y.1, upd y.2 (4 * blk + i) (nI y.1.1.1)) (by omega) (r_ok_pp hy) (Or.inl (ho.resolve_right (fun q => q c_103))) (by rw [show 4 - i = (4 - (i + 1)) + 1 by omega, r_lp, if_pos c_103] at hR; exact hR) (by omega) _ _ (by rw [e9]; rw [r_kl_1] at hP; exact hP) (by rw [e9]; rw [r_kl_1] at hD; exact hD) hS ls (lv_sub hl [1, 2, 3, 4, 5, 0] rfl)
                  · skip
                    refine lv_lconst (v := 0) hx hb d_Model_readBlock_170 (by decide +kernel) ?_
                    refine lv_lstore (lv' := [(9, .long 0), (0, .ref g), (1, .int (nI fr)), (2, .int (nI many)), (3, .int (nI blk)), (4, .long (r_unzig (r_v b x.1).1)), (6, .int (nI i)), (7, .int (nI (cl (r_W b many blk x).2 (4 * blk + i)))), (8, .int (nI k))]) hx hb d_Model_readBlock_171 hl (by decide) rfl (fun ls hl => ?_)
                    refine lv_iconst (v := nI 0) hx hb d_Model_readBlock_173 (by decide +kernel) ?_
                    refine lv_istore (lv' := [(11, .int (nI 0)), (9, .long 0), (0, .ref g), (1, .int (nI fr)), (2, .int (nI many)), (3, .int (nI blk)), (4, .long (r_unzig (r_v b x.1).1)), (6, .int (nI i)), (7, .int (nI (cl (r_W b many blk x).2 (4 * blk + i)))), (8, .int (nI k))]) hx hb d_Model_readBlock_174 hl (by decide) rfl (fun ls hl => ?_)
                    have hlp176 : ∀ (n : Nat) (i2 : Nat), (i2 ≤ (cl (r_W b many blk x).2 (4 * blk + i))) → (cl (r_W b many blk x).2 (4 * blk + i)) - i2 < n → ∀ (H : Heap) (locs : List Loc), va_P D classes [(g, .inr (4, [.int cd, .ref mr, .ref ms, .int (nI n0), .ref mb, .int (nI b.2), .int ((r_kl b (r_unzig (r_v b x.1).1) (fr + 16 * i) (r_ip many i) (cl (r_W b many blk x).2 (4 * blk + i)) y.1.1.1 k y.1).1.2.2), .ref ml, .ref mn, .ref mw, .ref mt, .ref mv, .ref mu, .int (nI bl), .int (nI ((r_kl b (r_unzig (r_v b x.1).1) (fr + 16 * i) (r_ip many i) (cl (r_W b many blk x).2 (4 * blk + i)) y.1.1.1 k y.1).1.1)), .int (nI ((r_kl b (r_unzig (r_v b x.1).1) (fr + 16 * i) (r_ip many i) (cl (r_W b many blk x).2 (4 * blk + i)) y.1.1.1 k y.1).1.2.1))])), (ms, .inl (cJ, 2000, .inr (.inl ((r_kl b (r_unzig (r_v b x.1).1) (fr + 16 * i) (r_ip many i) (cl (r_W b many blk x).2 (4 * blk + i)) y.1.1.1 k y.1).2)))), (mb, .inl (cI, 20000, .inl b.1)), (mn, .inl (cJ, 40, .inr (.inl (vp_updL x.2.2.1 blk (r_unzig (r_v b x.1).1))))), (mv, .inl (cI, 160, .inl ((r_W b many blk x).2))), (mu, .inl (cI, 160, .inl (upd y.2 (4 * blk + i) (nI y.1.1.1))))] H → va_D A [(g, .inr (4, [.int cd, .ref mr, .ref ms, .int (nI n0), .ref mb, .int (nI b.2), .int ((r_kl b (r_unzig (r_v b x.1).1) (fr + 16 * i) (r_ip many i) (cl (r_W b many blk x).2 (4 * blk + i)) y.1.1.1 k y.1).1.2.2), .ref ml, .ref mn, .ref mw, .ref mt, .ref mv, .ref mu, .int (nI bl), .int (nI ((r_kl b (r_unzig (r_v b x.1).1) (fr + 16 * i) (r_ip many i) (cl (r_W b many blk x).2 (4 * blk + i)) y.1.1.1 k y.1).1.1)), .int (nI ((r_kl b (r_unzig (r_v b x.1).1) (fr + 16 * i) (r_ip many i) (cl (r_W b many blk x).2 (4 * blk + i)) y.1.1.1 k y.1).1.2.1))])), (ms, .inl (cJ, 2000, .inr (.inl ((r_kl b (r_unzig (r_v b x.1).1) (fr + 16 * i) (r_ip many i) (cl (r_W b many blk x).2 (4 * blk + i)) y.1.1.1 k y.1).2)))), (mb, .inl (cI, 20000, .inl b.1)), (mn, .inl (cJ, 40, .inr (.inl (vp_updL x.2.2.1 blk (r_unzig (r_v b x.1).1))))), (mv, .inl (cI, 160, .inl ((r_W b many blk x).2))), (mu, .inl (cI, 160, .inl (upd y.2 (4 * blk + i) (nI y.1.1.1))))] → va_S A s.heap H locs → ∀ (ls : Array Slot), lv_has ls 13 [(0, .ref g), (1, .int (nI fr)), (2, .int (nI many)), (3, .int (nI blk)), (4, .long (r_unzig (r_v b x.1).1)), (6, .int (nI i)), (7, .int (nI (cl (r_W b many blk x).2 (4 * blk + i)))), (8, .int (nI k)), (9, .long (r_vb b.1 y.1.1.1 (cl (r_W b many blk x).2 (4 * blk + i)) k i2)), (11, .int (nI i2))] → W p l e { frames := 3, cells := 0, slots := 0, locals := 67 } s m ([.ref g, .int (nI fr), .int (nI many), .int (nI blk)] : List Value).toArray below meth c H locs 0 0 (MQ below (zQ D (zEq none [(g, .inr (4, [.int cd, .ref mr, .ref ms, .int (nI n0), .ref mb, .int (nI b.2), .int ((r_rb b fr many blk x).1.2.2), .ref ml, .ref mn, .ref mw, .ref mt, .ref mv, .ref mu, .int (nI bl), .int (nI ((r_rb b fr many blk x).1.1)), .int (nI ((r_rb b fr many blk x).1.2.1))])), (ms, .inl (cJ, 2000, .inr (.inl ((r_rb b fr many blk x).2.1)))), (mb, .inl (cI, 20000, .inl b.1)), (mn, .inl (cJ, 40, .inr (.inl ((r_rb b fr many blk x).2.2.1)))), (mv, .inl (cI, 160, .inl ((r_rb b fr many blk x).2.2.2.1))), (mu, .inl (cI, 160, .inl ((r_rb b fr many blk x).2.2.2.2)))]) A) ([.ref g, .int (nI fr), .int (nI many), .int (nI blk)] : List Value).toArray s 0 0 A) (F0 m 176 ls []) := by
                      intro n
                      induction n with
                      | zero => intro i2 hi2 hmu; exact absurd hmu (Nat.not_lt_zero _)
                      | succ n ih =>
                        intro i2 hi2 hmu H locs hP hD hS ls hl
                        have hwk : (cl (r_W b many blk x).2 (4 * blk + i)) * k + (cl (r_W b many blk x).2 (4 * blk + i)) ≤ (cl (r_W b many blk x).2 (4 * blk + i)) * 16 := by rw [← Nat.mul_succ]; exact Nat.mul_le_mul_left _ (by omega)
                        have ih176 := ih
                        refine lv_iload hx hb d_Model_readBlock_176 (lv_at hl 9 rfl) ?_
                        refine lv_iload hx hb d_Model_readBlock_178 (lv_at hl 6 rfl) ?_
                        refine zn_ge (a := i2) (b := (cl (r_W b many blk x).2 (4 * blk + i))) (by omega) (by omega) hx hb d_Model_readBlock_180 (tgt := 231) (by decide) (fun c_180 => ?_) (fun c_180 => ?_)
                        · skip
                          have ei : i2 = (cl (r_W b many blk x).2 (4 * blk + i)) := by omega
                          subst ei
                          refine lv_iload hx hb d_Model_readBlock_231 (lv_at hl 7 rfl) ?_
                          refine lv_iload_n hx hb d_Model_readBlock_233 rfl (lv_at hl 2 rfl) ?_
                          refine lv_iload hx hb d_Model_readBlock_234 (lv_at hl 5 rfl) ?_
                          refine z_callEi (wr := [(g, .inr (4, [.int cd, .ref mr, .ref ms, .int (nI n0), .ref mb, .int (nI b.2), .int ((r_kl b (r_unzig (r_v b x.1).1) (fr + 16 * i) (r_ip many i) (cl (r_W b many blk x).2 (4 * blk + i)) y.1.1.1 k y.1).1.2.2), .ref ml, .ref mn, .ref mw, .ref mt, .ref mv, .ref mu, .int (nI bl), .int (nI ((r_kl b (r_unzig (r_v b x.1).1) (fr + 16 * i) (r_ip many i) (cl (r_W b many blk x).2 (4 * blk + i)) y.1.1.1 k y.1).1.1)), .int (nI ((r_kl b (r_unzig (r_v b x.1).1) (fr + 16 * i) (r_ip many i) (cl (r_W b many blk x).2 (4 * blk + i)) y.1.1.1 k y.1).1.2.1))])), (ms, .inl (cJ, 2000, .inr (.inl ((r_kl b (r_unzig (r_v b x.1).1) (fr + 16 * i) (r_ip many i) (cl (r_W b many blk x).2 (4 * blk + i)) y.1.1.1 k y.1).2)))), (mb, .inl (cI, 20000, .inl b.1)), (mn, .inl (cJ, 40, .inr (.inl (vp_updL x.2.2.1 blk (r_unzig (r_v b x.1).1))))), (mv, .inl (cI, 160, .inl ((r_W b many blk x).2))), (mu, .inl (cI, 160, .inl (upd y.2 (4 * blk + i) (nI y.1.1.1))))]) (w2 := [(g, .inr (4, [.int cd, .ref mr, .ref ms, .int (nI n0), .ref mb, .int (nI b.2), .int ((r_kl b (r_unzig (r_v b x.1).1) (fr + 16 * i) (r_ip many i) (cl (r_W b many blk x).2 (4 * blk + i)) y.1.1.1 k y.1).1.2.2), .ref ml, .ref mn, .ref mw, .ref mt, .ref mv, .ref mu, .int (nI bl), .int (nI ((r_kl b (r_unzig (r_v b x.1).1) (fr + 16 * i) (r_ip many i) (cl (r_W b many blk x).2 (4 * blk + i)) y.1.1.1 k y.1).1.1)), .int (nI ((r_kl b (r_unzig (r_v b x.1).1) (fr + 16 * i) (r_ip many i) (cl (r_W b many blk x).2 (4 * blk + i)) y.1.1.1 k y.1).1.2.1))])), (ms, .inl (cJ, 2000, .inr (.inl ((r_kl b (r_unzig (r_v b x.1).1) (fr + 16 * i) (r_ip many i) (cl (r_W b many blk x).2 (4 * blk + i)) y.1.1.1 k y.1).2)))), (mb, .inl (cI, 20000, .inl b.1)), (mn, .inl (cJ, 40, .inr (.inl (vp_updL x.2.2.1 blk (r_unzig (r_v b x.1).1))))), (mv, .inl (cI, 160, .inl ((r_W b many blk x).2))), (mu, .inl (cI, 160, .inl (upd y.2 (4 * blk + i) (nI y.1.1.1))))]) (z_runS (rest := [.int (nI k)]) hx hb hml hown hts hK hN (c_Model_inPart l D cI cJ many i (by (try dsimp only); omega) (by (try dsimp only); omega)) kk_Model_97 (zP.cut hP [] rfl) (hD.sub [] (by decide) rfl) rfl hl.1 rfl (Nat.le_of_ble_eq_true rfl) d_Model_readBlock_236 (by decide) (by decide)) hP hD hS hA [] [0, 1, 2, 3, 4, 5] [0, 1, 2, 3, 4, 5] rfl rfl (by decide) (by decide) (by decide) rfl (fun H locs hP hD hS => ?_)
                          refine zn_ge (a := k) (b := r_ip many i) (by omega) (by omega) hx hb d_Model_readBlock_239 (tgt := 283) (by decide) (fun c_239 => ?_) (fun c_239 => ?_)
                          · skip
                            refine lv_lload hx hb d_Model_readBlock_283 (lv_at hl 8 rfl) ?_
                            refine lv_lconst (v := 0) hx hb d_Model_readBlock_285 (by decide +kernel) ?_
                            refine zl_eq hx hb d_Model_readBlock_286 d_Model_readBlock_287 (tgt := 299) (by decide) (fun c_286 => ?_) (fun c_286 => ?_)
                            · skip
                              refine lv_iinc (v := nI (k + 1)) (lv' := [(8, .int (nI (k + 1))), (0, .ref g), (1, .int (nI fr)), (2, .int (nI many)), (3, .int (nI blk)), (4, .long (r_unzig (r_v b x.1).1)), (6, .int (nI i)), (7, .int (nI (cl (r_W b many blk x).2 (4 * blk + i)))), (9, .long (r_vb b.1 y.1.1.1 (cl (r_W b many blk x).2 (4 * blk + i)) k (cl (r_W b many blk x).2 (4 * blk + i)))), (11, .int (nI (cl (r_W b many blk x).2 (4 * blk + i))))]) hx hb d_Model_readBlock_299 hl (k := 7) rfl (zinc k 1) (by decide) rfl (fun ls hl => ?_)
                              refine lv_goto (tgt := 163) hx hb d_Model_readBlock_302 (by decide) ?_
                              exact ih163 (k + 1) (by omega) (by omega) _ _ (by rw [r_kl]; first | (rw [if_pos c_239]; exact hP) | (rw [if_neg (by omega), if_pos c_286]; exact hP) | (rw [if_neg (by omega), if_neg c_286]; exact hP)) (by rw [r_kl]; first | (rw [if_pos c_239]; exact hD) | (rw [if_neg (by omega), if_pos c_286]; exact hD) | (rw [if_neg (by omega), if_neg c_286]; exact hD)) hS ls (lv_sub hl [1, 2, 3, 4, 5, 6, 7, 0] rfl)
                            · skip
                              refine lv_aload_n hx hb d_Model_readBlock_290 rfl (lv_at hl 0 rfl) ?_
                              refine lv_iconst (v := nI 5) hx hb d_Model_readBlock_291 (by decide +kernel) ?_
                              refine lv_aload_n hx hb d_Model_readBlock_292 rfl (lv_at hl 0 rfl) ?_
                              refine g_Model_79 hx hb hts hown hK hP 0 rfl rfl d_Model_readBlock_293 ?_
                              refine z_i (v := nI y.1.1.1) (by rw [hk1]) ?_
                              refine z_callEv (wr := [(ms, .inl (cJ, 2000, .inr (.inl ((r_kl b (r_unzig (r_v b x.1).1) (fr + 16 * i) (r_ip many i) (cl (r_W b many blk x).2 (4 * blk + i)) y.1.1.1 k y.1).2)))), (mb, .inl (cI, 20000, .inl b.1)), (mn, .inl (cJ, 40, .inr (.inl (vp_updL x.2.2.1 blk (r_unzig (r_v b x.1).1))))), (mv, .inl (cI, 160, .inl ((r_W b many blk x).2))), (mu, .inl (cI, 160, .inl (upd y.2 (4 * blk + i) (nI y.1.1.1))))]) (w2 := [(g, .inr (4, [.int cd, .ref mr, .ref ms, .int (nI n0), .ref mb, .int (nI b.2), .int ((r_fail ((r_kl b (r_unzig (r_v b x.1).1) (fr + 16 * i) (r_ip many i) (cl (r_W b many blk x).2 (4 * blk + i)) y.1.1.1 k y.1).1) 5 (nI y.1.1.1)).2.2), .ref ml, .ref mn, .ref mw, .ref mt, .ref mv, .ref mu, .int (nI bl), .int (nI ((r_fail ((r_kl b (r_unzig (r_v b x.1).1) (fr + 16 * i) (r_ip many i) (cl (r_W b many blk x).2 (4 * blk + i)) y.1.1.1 k y.1).1) 5 (nI y.1.1.1)).1)), .int (nI ((r_fail ((r_kl b (r_unzig (r_v b x.1).1) (fr + 16 * i) (r_ip many i) (cl (r_W b many blk x).2 (4 * blk + i)) y.1.1.1 k y.1).1) 5 (nI y.1.1.1)).2.1))])), (ms, .inl (cJ, 2000, .inr (.inl ((r_kl b (r_unzig (r_v b x.1).1) (fr + 16 * i) (r_ip many i) (cl (r_W b many blk x).2 (4 * blk + i)) y.1.1.1 k y.1).2)))), (mb, .inl (cI, 20000, .inl b.1)), (mn, .inl (cJ, 40, .inr (.inl (vp_updL x.2.2.1 blk (r_unzig (r_v b x.1).1))))), (mv, .inl (cI, 160, .inl ((r_W b many blk x).2))), (mu, .inl (cI, 160, .inl (upd y.2 (4 * blk + i) (nI y.1.1.1))))]) (z_runV (rest := []) hx hb hml hown hts hK hN (c_Model_fail l D cI cJ g mr ms mb ml mn mw mt mv mu cd n0 bl ((r_kl b (r_unzig (r_v b x.1).1) (fr + 16 * i) (r_ip many i) (cl (r_W b many blk x).2 (4 * blk + i)) y.1.1.1 k y.1).1) 5 (nI y.1.1.1) b.2 (r_kl_f hyf k)) kk_Model_82 (zP.cut hP [0] rfl) (hD.sub [0] (by decide) rfl) 0 rfl rfl rfl hl.1 rfl (Nat.le_of_ble_eq_true rfl) d_Model_readBlock_296 (by decide) (by decide)) hP hD hS hA [0] [1, 2, 3, 4, 5] [5, 0, 1, 2, 3, 4] rfl rfl (by decide) (by decide) (by decide) rfl (fun H locs hP hD hS => ?_)
                              refine lv_iinc (v := nI (k + 1)) (lv' := [(8, .int (nI (k + 1))), (0, .ref g), (1, .int (nI fr)), (2, .int (nI many)), (3, .int (nI blk)), (4, .long (r_unzig (r_v b x.1).1)), (6, .int (nI i)), (7, .int (nI (cl (r_W b many blk x).2 (4 * blk + i)))), (9, .long (r_vb b.1 y.1.1.1 (cl (r_W b many blk x).2 (4 * blk + i)) k (cl (r_W b many blk x).2 (4 * blk + i)))), (11, .int (nI (cl (r_W b many blk x).2 (4 * blk + i))))]) hx hb d_Model_readBlock_299 hl (k := 7) rfl (zinc k 1) (by decide) rfl (fun ls hl => ?_)
                              refine lv_goto (tgt := 163) hx hb d_Model_readBlock_302 (by decide) ?_
                              exact ih163 (k + 1) (by omega) (by omega) _ _ (by rw [r_kl]; first | (rw [if_pos c_239]; exact hP) | (rw [if_neg (by omega), if_pos c_286]; exact hP) | (rw [if_neg (by omega), if_neg c_286]; exact hP)) (by rw [r_kl]; first | (rw [if_pos c_239]; exact hD) | (rw [if_neg (by omega), if_pos c_286]; exact hD) | (rw [if_neg (by omega), if_neg c_286]; exact hD)) hS ls (lv_sub hl [1, 2, 3, 4, 5, 6, 7, 0] rfl)
                          · skip
                            refine lv_aload_n hx hb d_Model_readBlock_242 rfl (lv_at hl 0 rfl) ?_
                            refine g_Model_13 hx hb hts hown hK hP 0 rfl rfl d_Model_readBlock_243 ?_
                            refine lv_iload_n hx hb d_Model_readBlock_246 rfl (lv_at hl 1 rfl) ?_
                            refine lv_bipush (v := nI 16) hx hb d_Model_readBlock_247 (by decide +kernel) ?_
                            refine lv_iload hx hb d_Model_readBlock_249 (lv_at hl 5 rfl) ?_
                            refine lv_imul hx hb d_Model_readBlock_251 (z_i (pk_mul 16 i) ?_)
                            refine lv_iadd hx hb d_Model_readBlock_252 (z_i (nI_add fr (16 * i)) ?_)
                            refine lv_iload hx hb d_Model_readBlock_253 (lv_at hl 7 rfl) ?_
                            refine lv_iadd hx hb d_Model_readBlock_255 (z_i (nI_add (fr + 16 * i) k) ?_)
                            refine lv_iconst (v := nI 1) hx hb d_Model_readBlock_256 (by decide +kernel) ?_
                            refine lv_iadd hx hb d_Model_readBlock_257 (z_i (nI_add (fr + 16 * i + k) 1) ?_)
                            refine lv_aload_n hx hb d_Model_readBlock_258 rfl (lv_at hl 0 rfl) ?_
                            refine g_Model_13 hx hb hts hown hK hP 0 rfl rfl d_Model_readBlock_259 ?_
                            refine lv_iload_n hx hb d_Model_readBlock_262 rfl (lv_at hl 1 rfl) ?_
                            refine lv_bipush (v := nI 16) hx hb d_Model_readBlock_263 (by decide +kernel) ?_
                            refine lv_iload hx hb d_Model_readBlock_265 (lv_at hl 5 rfl) ?_
                            refine lv_imul hx hb d_Model_readBlock_267 (z_i (pk_mul 16 i) ?_)
                            refine lv_iadd hx hb d_Model_readBlock_268 (z_i (nI_add fr (16 * i)) ?_)
                            refine lv_iload hx hb d_Model_readBlock_269 (lv_at hl 7 rfl) ?_
                            refine lv_iadd hx hb d_Model_readBlock_271 (z_i (nI_add (fr + 16 * i) k) ?_)
                            refine z_lald hx hb hK hP 1 1 rfl rfl (by omega) (by decide) d_Model_readBlock_272 ?_
                            refine lv_lload hx hb d_Model_readBlock_273 (lv_at hl 4 rfl) ?_
                            refine lv_ladd hx hb d_Model_readBlock_275 ?_
                            refine lv_lload hx hb d_Model_readBlock_276 (lv_at hl 8 rfl) ?_
                            refine lv_ladd hx hb d_Model_readBlock_278 ?_
                            refine z_last (w2 := [(g, .inr (4, [.int cd, .ref mr, .ref ms, .int (nI n0), .ref mb, .int (nI b.2), .int ((r_kl b (r_unzig (r_v b x.1).1) (fr + 16 * i) (r_ip many i) (cl (r_W b many blk x).2 (4 * blk + i)) y.1.1.1 k y.1).1.2.2), .ref ml, .ref mn, .ref mw, .ref mt, .ref mv, .ref mu, .int (nI bl), .int (nI ((r_kl b (r_unzig (r_v b x.1).1) (fr + 16 * i) (r_ip many i) (cl (r_W b many blk x).2 (4 * blk + i)) y.1.1.1 k y.1).1.1)), .int (nI ((r_kl b (r_unzig (r_v b x.1).1) (fr + 16 * i) (r_ip many i) (cl (r_W b many blk x).2 (4 * blk + i)) y.1.1.1 k y.1).1.2.1))])), (ms, .inl (cJ, 2000, .inr (.inl (vp_updL ((r_kl b (r_unzig (r_v b x.1).1) (fr + 16 * i) (r_ip many i) (cl (r_W b many blk x).2 (4 * blk + i)) y.1.1.1 k y.1).2) (fr + 16 * i + k + 1) (((((r_kl b (r_unzig (r_v b x.1).1) (fr + 16 * i) (r_ip many i) (cl (r_W b many blk x).2 (4 * blk + i)) y.1.1.1 k y.1).2) (fr + 16 * i + k)) + (r_unzig (r_v b x.1).1)) + (r_vb b.1 y.1.1.1 (cl (r_W b many blk x).2 (4 * blk + i)) k (cl (r_W b many blk x).2 (4 * blk + i)))))))), (mb, .inl (cI, 20000, .inl b.1)), (mn, .inl (cJ, 40, .inr (.inl (vp_updL x.2.2.1 blk (r_unzig (r_v b x.1).1))))), (mv, .inl (cI, 160, .inl ((r_W b many blk x).2))), (mu, .inl (cI, 160, .inl (upd y.2 (4 * blk + i) (nI y.1.1.1))))]) hx hb hK hP hD hS 1 1 rfl rfl (by omega) (by decide) d_Model_readBlock_279 rfl (fun H locs hP hD hS => ?_)
                            refine lv_goto (tgt := 299) hx hb d_Model_readBlock_280 (by decide) ?_
                            refine lv_iinc (v := nI (k + 1)) (lv' := [(8, .int (nI (k + 1))), (0, .ref g), (1, .int (nI fr)), (2, .int (nI many)), (3, .int (nI blk)), (4, .long (r_unzig (r_v b x.1).1)), (6, .int (nI i)), (7, .int (nI (cl (r_W b many blk x).2 (4 * blk + i)))), (9, .long (r_vb b.1 y.1.1.1 (cl (r_W b many blk x).2 (4 * blk + i)) k (cl (r_W b many blk x).2 (4 * blk + i)))), (11, .int (nI (cl (r_W b many blk x).2 (4 * blk + i))))]) hx hb d_Model_readBlock_299 hl (k := 7) rfl (zinc k 1) (by decide) rfl (fun ls hl => ?_)
                            refine lv_goto (tgt := 163) hx hb d_Model_readBlock_302 (by decide) ?_
                            exact ih163 (k + 1) (by omega) (by omega) _ _ (by rw [r_kl]; first | (rw [if_pos c_239]; exact hP) | (rw [if_neg (by omega), if_pos c_286]; exact hP) | (rw [if_neg (by omega), if_neg c_286]; exact hP)) (by rw [r_kl]; first | (rw [if_pos c_239]; exact hD) | (rw [if_neg (by omega), if_pos c_286]; exact hD) | (rw [if_neg (by omega), if_neg c_286]; exact hD)) hS ls (lv_sub hl [1, 2, 3, 4, 5, 6, 7, 0] rfl)
                        · skip
                          refine lv_iload hx hb d_Model_readBlock_183 (lv_at hl 6 rfl) ?_
                          refine lv_iload hx hb d_Model_readBlock_185 (lv_at hl 7 rfl) ?_
                          refine lv_imul hx hb d_Model_readBlock_187 (z_i (pk_mul (cl (r_W b many blk x).2 (4 * blk + i)) k) ?_)
                          refine lv_iload hx hb d_Model_readBlock_188 (lv_at hl 9 rfl) ?_
                          refine lv_iadd hx hb d_Model_readBlock_190 (z_i (nI_add ((cl (r_W b many blk x).2 (4 * blk + i)) * k) i2) ?_)
                          refine lv_istore (lv' := [(12, .int (nI ((cl (r_W b many blk x).2 (4 * blk + i)) * k + i2))), (0, .ref g), (1, .int (nI fr)), (2, .int (nI many)), (3, .int (nI blk)), (4, .long (r_unzig (r_v b x.1).1)), (6, .int (nI i)), (7, .int (nI (cl (r_W b many blk x).2 (4 * blk + i)))), (8, .int (nI k)), (9, .long (r_vb b.1 y.1.1.1 (cl (r_W b many blk x).2 (4 * blk + i)) k i2)), (11, .int (nI i2))]) hx hb d_Model_readBlock_191 hl (by decide) rfl (fun ls hl => ?_)
                          refine lv_lload hx hb d_Model_readBlock_193 (lv_at hl 9 rfl) ?_
                          refine lv_aload_n hx hb d_Model_readBlock_195 rfl (lv_at hl 1 rfl) ?_
                          refine g_Model_16 hx hb hts hown hK hP 0 rfl rfl d_Model_readBlock_196 ?_
                          refine lv_aload_n hx hb d_Model_readBlock_199 rfl (lv_at hl 1 rfl) ?_
                          refine g_Model_79 hx hb hts hown hK hP 0 rfl rfl d_Model_readBlock_200 ?_
                          refine z_i (v := nI y.1.1.1) (by rw [hk1]) ?_
                          refine lv_iload hx hb d_Model_readBlock_203 (lv_at hl 0 rfl) ?_
                          refine lv_bipush (v := nI 8) hx hb d_Model_readBlock_205 (by decide +kernel) ?_
                          refine lv_idiv hx hb d_Model_readBlock_207 (nI_ne0 (by omega) (by omega)) (z_i (pk_div (a := (cl (r_W b many blk x).2 (4 * blk + i)) * k + i2) (d := 8) (by omega) (by omega) (by omega)) ?_)
                          refine lv_iadd hx hb d_Model_readBlock_208 (z_i (nI_add y.1.1.1 (((cl (r_W b many blk x).2 (4 * blk + i)) * k + i2) / 8)) ?_)
                          refine z_iald hx hb hK hP 2 0 rfl rfl (by omega) (by decide) d_Model_readBlock_209 ?_
                          refine lv_iload hx hb d_Model_readBlock_210 (lv_at hl 0 rfl) ?_
                          refine lv_bipush (v := nI 8) hx hb d_Model_readBlock_212 (by decide +kernel) ?_
                          refine lv_irem hx hb d_Model_readBlock_214 (nI_ne0 (by omega) (by omega)) (z_i (zrem (a := (cl (r_W b many blk x).2 (4 * blk + i)) * k + i2) (d := 8) (by omega) (by omega) (by omega)) ?_)
                          refine lv_ishr hx hb d_Model_readBlock_215 ?_
                          refine lv_iconst (v := nI 1) hx hb d_Model_readBlock_216 (by decide +kernel) ?_
                          refine lv_iand hx hb d_Model_readBlock_217 ?_
                          refine lv_i2l (v := (((b.1 (y.1.1.1 + ((cl (r_W b many blk x).2 (4 * blk + i)) * k + i2) / 8)) >>> ((nI (((cl (r_W b many blk x).2 (4 * blk + i)) * k + i2) % 8)) &&& 31)) &&& (nI 1)).toInt64) hx hb d_Model_readBlock_218 rfl ?_
                          refine lv_iload hx hb d_Model_readBlock_219 (lv_at hl 10 rfl) ?_
                          refine lv_lshl (v := zshl ((((b.1 (y.1.1.1 + ((cl (r_W b many blk x).2 (4 * blk + i)) * k + i2) / 8)) >>> ((nI (((cl (r_W b many blk x).2 (4 * blk + i)) * k + i2) % 8)) &&& 31)) &&& (nI 1)).toInt64) (nI i2)) hx hb d_Model_readBlock_221 rfl ?_
                          refine lv_lor hx hb d_Model_readBlock_222 ?_
                          refine lv_lstore (lv' := [(9, .long ((r_vb b.1 y.1.1.1 (cl (r_W b many blk x).2 (4 * blk + i)) k i2) ||| (zshl ((((b.1 (y.1.1.1 + ((cl (r_W b many blk x).2 (4 * blk + i)) * k + i2) / 8)) >>> ((nI (((cl (r_W b many blk x).2 (4 * blk + i)) * k + i2) % 8)) &&& 31)) &&& (nI 1)).toInt64) (nI i2)))), (12, .int (nI ((cl (r_W b many blk x).2 (4 * blk + i)) * k + i2))), (0, .ref g), (1, .int (nI fr)), (2, .int (nI many)), (3, .int (nI blk)), (4, .long (r_unzig (r_v b x.1).1)), (6, .int (nI i)), (7, .int (nI (cl (r_W b many blk x).2 (4 * blk + i)))), (8, .int (nI k)), (11, .int (nI i2))]) hx hb d_Model_readBlock_223 hl (by decide) rfl (fun ls hl => ?_)
                          refine lv_iinc (v := nI (i2 + 1)) (lv' := [(11, .int (nI (i2 + 1))), (9, .long ((r_vb b.1 y.1.1.1 (cl (r_W b many blk x).2 (4 * blk + i)) k i2) ||| (zshl ((((b.1 (y.1.1.1 + ((cl (r_W b many blk x).2 (4 * blk + i)) * k + i2) / 8)) >>> ((nI (((cl (r_W b many blk x).2 (4 * blk + i)) * k + i2) % 8)) &&& 31)) &&& (nI 1)).toInt64) (nI i2)))), (12, .int (nI ((cl (r_W b many blk x).2 (4 * blk + i)) * k + i2))), (0, .ref g), (1, .int (nI fr)), (2, .int (nI many)), (3, .int (nI blk)), (4, .long (r_unzig (r_v b x.1).1)), (6, .int (nI i)), (7, .int (nI (cl (r_W b many blk x).2 (4 * blk + i)))), (8, .int (nI k))]) hx hb d_Model_readBlock_225 hl (k := 10) rfl (zinc i2 1) (by decide) rfl (fun ls hl => ?_)
                          refine lv_goto (tgt := 176) hx hb d_Model_readBlock_228 (by decide) ?_
                          exact ih176 (i2 + 1) (by omega) (by omega) _ _ hP hD hS ls (lv_sub hl [3, 4, 5, 6, 7, 8, 9, 10, 1, 0] rfl)
                    exact hlp176 _ 0 (Nat.zero_le _) (Nat.lt_succ_self _) _ _ hP hD hS ls (lv_sub hl [2, 3, 4, 5, 6, 7, 8, 9, 1, 0] rfl)
              exact hlp163 _ 0 (by decide) (Nat.lt_succ_self _) _ _ hP hD hS ls (lv_sub hl [2, 3, 4, 5, 6, 7, 1, 0] rfl)
            · skip
              refine lv_aload_n hx hb d_Model_readBlock_150 rfl (lv_at hl 1 rfl) ?_
              refine lv_iconst (v := nI 1) hx hb d_Model_readBlock_151 (by decide +kernel) ?_
              refine lv_aload_n hx hb d_Model_readBlock_152 rfl (lv_at hl 1 rfl) ?_
              refine g_Model_48 hx hb hts hown hK hP 0 rfl rfl d_Model_readBlock_153 ?_
              refine z_callEv (wr := [(ms, .inl (cJ, 2000, .inr (.inl y.1.2))), (mb, .inl (cI, 20000, .inl b.1)), (mn, .inl (cJ, 40, .inr (.inl (vp_updL x.2.2.1 blk (r_unzig (r_v b x.1).1))))), (mv, .inl (cI, 160, .inl ((r_W b many blk x).2))), (mu, .inl (cI, 160, .inl (upd y.2 (4 * blk + i) (nI y.1.1.1))))]) (w2 := [(g, .inr (4, [.int cd, .ref mr, .ref ms, .int (nI n0), .ref mb, .int (nI b.2), .int ((r_fail y.1.1 1 (nI b.2)).2.2), .ref ml, .ref mn, .ref mw, .ref mt, .ref mv, .ref mu, .int (nI bl), .int (nI ((r_fail y.1.1 1 (nI b.2)).1)), .int (nI ((r_fail y.1.1 1 (nI b.2)).2.1))])), (ms, .inl (cJ, 2000, .inr (.inl y.1.2))), (mb, .inl (cI, 20000, .inl b.1)), (mn, .inl (cJ, 40, .inr (.inl (vp_updL x.2.2.1 blk (r_unzig (r_v b x.1).1))))), (mv, .inl (cI, 160, .inl ((r_W b many blk x).2))), (mu, .inl (cI, 160, .inl (upd y.2 (4 * blk + i) (nI y.1.1.1))))]) (z_runV (rest := []) hx hb hml hown hts hK hN (c_Model_fail l D cI cJ g mr ms mb ml mn mw mt mv mu cd n0 bl y.1.1 1 (nI b.2) b.2 hyf) kk_Model_82 (zP.cut hP [0] rfl) (hD.sub [0] (by decide) rfl) 0 rfl rfl rfl hl.1 rfl (Nat.le_of_ble_eq_true rfl) d_Model_readBlock_156 (by decide) (by decide)) hP hD hS hA [0] [1, 2, 3, 4, 5] [5, 0, 1, 2, 3, 4] rfl rfl (by decide) (by decide) (by decide) rfl (fun H locs hP hD hS => ?_)
              exact z_vret hx hb hr hlocks hS hP hD ⟨rfl, by unfold r_rb; rw [← hR, show 4 - i = (4 - (i + 1)) + 1 by omega, r_lp, if_pos c_103, r_lp_f (by unfold r_pp; rw [if_pos (by omega)]; exact r_fail_ne (by decide))]; unfold r_pp; rw [if_pos (by omega)]⟩ d_Model_readBlock_159
    exact hlp93 _ 0 (((r_W b many blk x).1, x.2.1), x.2.2.2.2) (by decide) h2 (by by_cases e : (r_W b many blk x).1.2.1 = 0; exact Or.inl (hg e); exact Or.inr e) rfl (Nat.lt_succ_self _) _ _ hP hD hS ls (lv_sub hl [1, 2, 3, 4, 5, 0] rfl)
  refine lv_iconst (v := nI 0) hx hb d_Model_readBlock_17 (by decide +kernel) ?_
  refine lv_istore (lv' := [(6, .int (nI 0)), (4, .long (r_unzig ((r_v b x.1).1))), (0, .ref g), (1, .int (nI fr)), (2, .int (nI many)), (3, .int (nI blk))]) hx hb d_Model_readBlock_18 hl (by decide) rfl (fun ls hl => ?_)
  have hlp20 : ∀ (n : Nat) (i : Nat) (y : SS × (Nat → Int32)), (i ≤ 4) → (r_ok b y.1) → (∀ q, q < i → p_g8 y.2 (4 * blk + q)) → (r_lw b many blk (4 - i) i y = (r_W b many blk x)) → 4 - i < n → ∀ (H : Heap) (locs : List Loc), va_P D classes [(g, .inr (4, [.int cd, .ref mr, .ref ms, .int (nI n0), .ref mb, .int (nI b.2), .int y.1.2.2, .ref ml, .ref mn, .ref mw, .ref mt, .ref mv, .ref mu, .int (nI bl), .int (nI y.1.1), .int (nI y.1.2.1)])), (ms, .inl (cJ, 2000, .inr (.inl x.2.1))), (mb, .inl (cI, 20000, .inl b.1)), (mn, .inl (cJ, 40, .inr (.inl (vp_updL x.2.2.1 blk (r_unzig (r_v b x.1).1))))), (mv, .inl (cI, 160, .inl y.2)), (mu, .inl (cI, 160, .inl x.2.2.2.2))] H → va_D A [(g, .inr (4, [.int cd, .ref mr, .ref ms, .int (nI n0), .ref mb, .int (nI b.2), .int y.1.2.2, .ref ml, .ref mn, .ref mw, .ref mt, .ref mv, .ref mu, .int (nI bl), .int (nI y.1.1), .int (nI y.1.2.1)])), (ms, .inl (cJ, 2000, .inr (.inl x.2.1))), (mb, .inl (cI, 20000, .inl b.1)), (mn, .inl (cJ, 40, .inr (.inl (vp_updL x.2.2.1 blk (r_unzig (r_v b x.1).1))))), (mv, .inl (cI, 160, .inl y.2)), (mu, .inl (cI, 160, .inl x.2.2.2.2))] → va_S A s.heap H locs → ∀ (ls : Array Slot), lv_has ls 13 [(0, .ref g), (1, .int (nI fr)), (2, .int (nI many)), (3, .int (nI blk)), (4, .long (r_unzig (r_v b x.1).1)), (6, .int (nI i))] → W p l e { frames := 3, cells := 0, slots := 0, locals := 67 } s m ([.ref g, .int (nI fr), .int (nI many), .int (nI blk)] : List Value).toArray below meth c H locs 0 0 (MQ below (zQ D (zEq none [(g, .inr (4, [.int cd, .ref mr, .ref ms, .int (nI n0), .ref mb, .int (nI b.2), .int ((r_rb b fr many blk x).1.2.2), .ref ml, .ref mn, .ref mw, .ref mt, .ref mv, .ref mu, .int (nI bl), .int (nI ((r_rb b fr many blk x).1.1)), .int (nI ((r_rb b fr many blk x).1.2.1))])), (ms, .inl (cJ, 2000, .inr (.inl ((r_rb b fr many blk x).2.1)))), (mb, .inl (cI, 20000, .inl b.1)), (mn, .inl (cJ, 40, .inr (.inl ((r_rb b fr many blk x).2.2.1)))), (mv, .inl (cI, 160, .inl ((r_rb b fr many blk x).2.2.2.1))), (mu, .inl (cI, 160, .inl ((r_rb b fr many blk x).2.2.2.2)))]) A) ([.ref g, .int (nI fr), .int (nI many), .int (nI blk)] : List Value).toArray s 0 0 A) (F0 m 20 ls []) := by
    intro n
    induction n with
    | zero => intro i y hi hy hG hR hmu; exact absurd hmu (Nat.not_lt_zero _)
    | succ n ih =>
      intro i y hi hy hG hR hmu H locs hP hD hS ls hl
      have hyf := hy.2
      have hx8 := r_nV_lt hB hy.1 hu
      have hyn := r_ok_n hy
      have ih20 := ih
      refine lv_iload hx hb d_Model_readBlock_20 (lv_at hl 5 rfl) ?_
      refine lv_iconst (v := nI 4) hx hb d_Model_readBlock_22 (by decide +kernel) ?_
      refine zn_ge (a := i) (b := 4) (by omega) (by omega) hx hb d_Model_readBlock_23 (tgt := 90) (by decide) (fun c_23 => ?_) (fun c_23 => ?_)
      · skip
        have hX : y = (r_W b many blk x) := by rw [← hR]; first | (rw [show 4 - i = 0 by omega]; rfl) | (rw [show 4 - i = (4 - (i + 1)) + 1 by omega, r_lw, if_neg (by omega)])
        subst hX
        exact hj90  (fun hq => by first | (intro q hq4; exact hG q (by omega)) | (exact absurd hq (by omega))) _ _ hP hD hS ls (lv_sub hl [0, 1, 2, 3, 4] rfl)
      · skip
        refine lv_aload_n hx hb d_Model_readBlock_26 rfl (lv_at hl 0 rfl) ?_
        refine g_Model_76 hx hb hts hown hK hP 0 rfl rfl d_Model_readBlock_27 ?_
        refine z0_ne (a := y.1.2.1) (by omega) hx hb d_Model_readBlock_30 (tgt := 90) (by decide) (fun c_30 => ?_) (fun c_30 => ?_)
        · skip
          have hX : y = (r_W b many blk x) := by rw [← hR]; first | (rw [show 4 - i = 0 by omega]; rfl) | (rw [show 4 - i = (4 - (i + 1)) + 1 by omega, r_lw, if_neg (by omega)])
          subst hX
          exact hj90  (fun hq => by first | (intro q hq4; exact hG q (by omega)) | (exact absurd hq (by omega))) _ _ hP hD hS ls (lv_sub hl [0, 1, 2, 3, 4] rfl)
        · skip
          have hj71 : ∀ (H : Heap) (locs : List Loc), va_P D classes [(g, .inr (4, [.int cd, .ref mr, .ref ms, .int (nI n0), .ref mb, .int (nI b.2), .int ((r_nwS b y.1 (r_ip many i)).2.2), .ref ml, .ref mn, .ref mw, .ref mt, .ref mv, .ref mu, .int (nI bl), .int (nI ((r_nwS b y.1 (r_ip many i)).1)), .int (nI ((r_nwS b y.1 (r_ip many i)).2.1))])), (ms, .inl (cJ, 2000, .inr (.inl x.2.1))), (mb, .inl (cI, 20000, .inl b.1)), (mn, .inl (cJ, 40, .inr (.inl (vp_updL x.2.2.1 blk (r_unzig (r_v b x.1).1))))), (mv, .inl (cI, 160, .inl y.2)), (mu, .inl (cI, 160, .inl x.2.2.2.2))] H → va_D A [(g, .inr (4, [.int cd, .ref mr, .ref ms, .int (nI n0), .ref mb, .int (nI b.2), .int ((r_nwS b y.1 (r_ip many i)).2.2), .ref ml, .ref mn, .ref mw, .ref mt, .ref mv, .ref mu, .int (nI bl), .int (nI ((r_nwS b y.1 (r_ip many i)).1)), .int (nI ((r_nwS b y.1 (r_ip many i)).2.1))])), (ms, .inl (cJ, 2000, .inr (.inl x.2.1))), (mb, .inl (cI, 20000, .inl b.1)), (mn, .inl (cJ, 40, .inr (.inl (vp_updL x.2.2.1 blk (r_unzig (r_v b x.1).1))))), (mv, .inl (cI, 160, .inl y.2)), (mu, .inl (cI, 160, .inl x.2.2.2.2))] → va_S A s.heap H locs → ∀ (ls : Array Slot), lv_has ls 13 [(0, .ref g), (1, .int (nI fr)), (2, .int (nI many)), (3, .int (nI blk)), (4, .long (r_unzig (r_v b x.1).1)), (6, .int (nI i)), (7, .int (nI (r_nV b y.1)))] → W p l e { frames := 3, cells := 0, slots := 0, locals := 67 } s m ([.ref g, .int (nI fr), .int (nI many), .int (nI blk)] : List Value).toArray below meth c H locs 0 0 (MQ below (zQ D (zEq none [(g, .inr (4, [.int cd, .ref mr, .ref ms, .int (nI n0), .ref mb, .int (nI b.2), .int ((r_rb b fr many blk x).1.2.2), .ref ml, .ref mn, .ref mw, .ref mt, .ref mv, .ref mu, .int (nI bl), .int (nI ((r_rb b fr many blk x).1.1)), .int (nI ((r_rb b fr many blk x).1.2.1))])), (ms, .inl (cJ, 2000, .inr (.inl ((r_rb b fr many blk x).2.1)))), (mb, .inl (cI, 20000, .inl b.1)), (mn, .inl (cJ, 40, .inr (.inl ((r_rb b fr many blk x).2.2.1)))), (mv, .inl (cI, 160, .inl ((r_rb b fr many blk x).2.2.2.1))), (mu, .inl (cI, 160, .inl ((r_rb b fr many blk x).2.2.2.2)))]) A) ([.ref g, .int (nI fr), .int (nI many), .int (nI blk)] : List Value).toArray s 0 0 A) (F0 m 71 ls []) := by
            intro   H locs hP hD hS ls hl
            refine lv_aload_n hx hb d_Model_readBlock_71 rfl (lv_at hl 0 rfl) ?_
            refine g_Model_36 hx hb hts hown hK hP 0 rfl rfl d_Model_readBlock_72 ?_
            refine lv_iconst (v := nI 4) hx hb d_Model_readBlock_75 (by decide +kernel) ?_
            refine lv_iload_n hx hb d_Model_readBlock_76 rfl (lv_at hl 3 rfl) ?_
            refine lv_imul hx hb d_Model_readBlock_77 (z_i (pk_mul 4 blk) ?_)
            refine lv_iload hx hb d_Model_readBlock_78 (lv_at hl 5 rfl) ?_
            refine lv_iadd hx hb d_Model_readBlock_80 (z_i (nI_add (4 * blk) i) ?_)
            refine lv_iload hx hb d_Model_readBlock_81 (lv_at hl 6 rfl) ?_
            refine z_iast (w2 := [(g, .inr (4, [.int cd, .ref mr, .ref ms, .int (nI n0), .ref mb, .int (nI b.2), .int ((r_nwS b y.1 (r_ip many i)).2.2), .ref ml, .ref mn, .ref mw, .ref mt, .ref mv, .ref mu, .int (nI bl), .int (nI ((r_nwS b y.1 (r_ip many i)).1)), .int (nI ((r_nwS b y.1 (r_ip many i)).2.1))])), (ms, .inl (cJ, 2000, .inr (.inl x.2.1))), (mb, .inl (cI, 20000, .inl b.1)), (mn, .inl (cJ, 40, .inr (.inl (vp_updL x.2.2.1 blk (r_unzig (r_v b x.1).1))))), (mv, .inl (cI, 160, .inl (upd y.2 (4 * blk + i) (nI (r_nV b y.1))))), (mu, .inl (cI, 160, .inl x.2.2.2.2))]) hx hb hK hP hD hS 4 0 rfl rfl (by omega) (by decide) d_Model_readBlock_83 rfl (fun H locs hP hD hS => ?_)
            refine lv_iinc (v := nI (i + 1)) (lv' := [(6, .int (nI (i + 1))), (0, .ref g), (1, .int (nI fr)), (2, .int (nI many)), (3, .int (nI blk)), (4, .long (r_unzig (r_v b x.1).1)), (7, .int (nI (r_nV b y.1)))]) hx hb d_Model_readBlock_84 hl (k := 5) rfl (zinc i 1) (by decide) rfl (fun ls hl => ?_)
            refine lv_goto (tgt := 20) hx hb d_Model_readBlock_87 (by decide) ?_
            exact ih20 (i + 1) (r_nwS b y.1 (r_ip many i), upd y.2 (4 * blk + i) (nI (r_nV b y.1))) (by omega) (r_ok_nw hy) (by intro q hq; by_cases e : q = i; exact (by rw [e]; exact p_g8_new (by omega)); exact p_g8_old (by omega) (hG q (by omega))) (by rw [show 4 - i = (4 - (i + 1)) + 1 by omega, r_lw, if_pos c_30] at hR; exact hR) (by omega) _ _ hP hD hS ls (lv_sub hl [1, 2, 3, 4, 5, 0] rfl)
          refine lv_aload_n hx hb d_Model_readBlock_33 rfl (lv_at hl 0 rfl) ?_
          refine z_callEi (wr := [(ms, .inl (cJ, 2000, .inr (.inl x.2.1))), (mn, .inl (cJ, 40, .inr (.inl (vp_updL x.2.2.1 blk (r_unzig (r_v b x.1).1))))), (mv, .inl (cI, 160, .inl y.2)), (mu, .inl (cI, 160, .inl x.2.2.2.2))]) (w2 := [(g, .inr (4, [.int cd, .ref mr, .ref ms, .int (nI n0), .ref mb, .int (nI b.2), .int ((r_nS b y.1).2.2), .ref ml, .ref mn, .ref mw, .ref mt, .ref mv, .ref mu, .int (nI bl), .int (nI ((r_nS b y.1).1)), .int (nI ((r_nS b y.1).2.1))])), (ms, .inl (cJ, 2000, .inr (.inl x.2.1))), (mb, .inl (cI, 20000, .inl b.1)), (mn, .inl (cJ, 40, .inr (.inl (vp_updL x.2.2.1 blk (r_unzig (r_v b x.1).1))))), (mv, .inl (cI, 160, .inl y.2)), (mu, .inl (cI, 160, .inl x.2.2.2.2))]) (z_runV (rest := []) hx hb hml hown hts hK hN (c_Model_next l D cI cJ g mr ms mb ml mn mw mt mv mu cd n0 bl y.1 b (by (try dsimp only); omega) hB hy) kk_Model_86 (zP.cut hP [0, 2] rfl) (hD.sub [0, 2] (by decide) rfl) 0 rfl rfl rfl hl.1 rfl (Nat.le_of_ble_eq_true rfl) d_Model_readBlock_34 (by decide) (by decide)) hP hD hS hA [0, 2] [1, 3, 4, 5] [4, 0, 5, 1, 2, 3] rfl rfl (by decide) (by decide) (by decide) rfl (fun H locs hP hD hS => ?_)
          refine lv_istore (lv' := [(7, .int (nI (r_nV b y.1))), (0, .ref g), (1, .int (nI fr)), (2, .int (nI many)), (3, .int (nI blk)), (4, .long (r_unzig (r_v b x.1).1)), (6, .int (nI i))]) hx hb d_Model_readBlock_37 hl (by decide) rfl (fun ls hl => ?_)
          refine lv_iload hx hb d_Model_readBlock_39 (lv_at hl 0 rfl) ?_
          refine lv_bipush (v := nI 64) hx hb d_Model_readBlock_41 (by decide +kernel) ?_
          refine zn_gt (a := r_nV b y.1) (b := 64) (by omega) (by omega) hx hb d_Model_readBlock_43 (tgt := 60) (by decide) (fun c_43 => ?_) (fun c_43 => ?_)
          · skip
            have h9 := r_nS_1 (b := b) (z := y.1) (by omega)
            refine lv_aload_n hx hb d_Model_readBlock_60 rfl (lv_at hl 1 rfl) ?_
            refine lv_iconst (v := nI 5) hx hb d_Model_readBlock_61 (by decide +kernel) ?_
            refine lv_aload_n hx hb d_Model_readBlock_62 rfl (lv_at hl 1 rfl) ?_
            refine g_Model_79 hx hb hts hown hK hP 0 rfl rfl d_Model_readBlock_63 ?_
            refine lv_iconst (v := nI 1) hx hb d_Model_readBlock_66 (by decide +kernel) ?_
            refine lv_isub hx hb d_Model_readBlock_67 (z_i (pk_sub (a := (r_nS b y.1).1) (b := 1) (by omega)) ?_)
            refine z_callEv (wr := [(ms, .inl (cJ, 2000, .inr (.inl x.2.1))), (mb, .inl (cI, 20000, .inl b.1)), (mn, .inl (cJ, 40, .inr (.inl (vp_updL x.2.2.1 blk (r_unzig (r_v b x.1).1))))), (mv, .inl (cI, 160, .inl y.2)), (mu, .inl (cI, 160, .inl x.2.2.2.2))]) (w2 := [(g, .inr (4, [.int cd, .ref mr, .ref ms, .int (nI n0), .ref mb, .int (nI b.2), .int ((r_fail (r_nS b y.1) 5 (nI (((r_nS b y.1).1) - 1))).2.2), .ref ml, .ref mn, .ref mw, .ref mt, .ref mv, .ref mu, .int (nI bl), .int (nI ((r_fail (r_nS b y.1) 5 (nI (((r_nS b y.1).1) - 1))).1)), .int (nI ((r_fail (r_nS b y.1) 5 (nI (((r_nS b y.1).1) - 1))).2.1))])), (ms, .inl (cJ, 2000, .inr (.inl x.2.1))), (mb, .inl (cI, 20000, .inl b.1)), (mn, .inl (cJ, 40, .inr (.inl (vp_updL x.2.2.1 blk (r_unzig (r_v b x.1).1))))), (mv, .inl (cI, 160, .inl y.2)), (mu, .inl (cI, 160, .inl x.2.2.2.2))]) (z_runV (rest := []) hx hb hml hown hts hK hN (c_Model_fail l D cI cJ g mr ms mb ml mn mw mt mv mu cd n0 bl (r_nS b y.1) 5 (nI (((r_nS b y.1).1) - 1)) b.2 hyn.2) kk_Model_82 (zP.cut hP [0] rfl) (hD.sub [0] (by decide) rfl) 0 rfl rfl rfl hl.1 rfl (Nat.le_of_ble_eq_true rfl) d_Model_readBlock_68 (by decide) (by decide)) hP hD hS hA [0] [1, 2, 3, 4, 5] [5, 0, 1, 2, 3, 4] rfl rfl (by decide) (by decide) (by decide) rfl (fun H locs hP hD hS => ?_)
            exact hj71   _ _ (by unfold r_nwS; first | (rw [if_pos (by omega)]; exact hP) | (rw [if_neg (by omega)]; exact hP)) (by unfold r_nwS; first | (rw [if_pos (by omega)]; exact hD) | (rw [if_neg (by omega)]; exact hD)) hS ls (lv_sub hl [1, 2, 3, 4, 5, 6, 0] rfl)
          · skip
            refine lv_iload hx hb d_Model_readBlock_46 (lv_at hl 0 rfl) ?_
            refine z0_le (a := r_nV b y.1) (by omega) hx hb d_Model_readBlock_48 (tgt := 71) (by decide) (fun c_48 => ?_) (fun c_48 => ?_)
            · skip
              exact hj71   _ _ (by unfold r_nwS; first | (rw [if_pos (by omega)]; exact hP) | (rw [if_neg (by omega)]; exact hP)) (by unfold r_nwS; first | (rw [if_pos (by omega)]; exact hD) | (rw [if_neg (by omega)]; exact hD)) hS ls (lv_sub hl [1, 2, 3, 4, 5, 6, 0] rfl)
            · skip
              refine lv_iload_n hx hb d_Model_readBlock_51 rfl (lv_at hl 3 rfl) ?_
              refine lv_iload hx hb d_Model_readBlock_52 (lv_at hl 6 rfl) ?_
              refine z_callEi (wr := [(g, .inr (4, [.int cd, .ref mr, .ref ms, .int (nI n0), .ref mb, .int (nI b.2), .int ((r_nS b y.1).2.2), .ref ml, .ref mn, .ref mw, .ref mt, .ref mv, .ref mu, .int (nI bl), .int (nI ((r_nS b y.1).1)), .int (nI ((r_nS b y.1).2.1))])), (ms, .inl (cJ, 2000, .inr (.inl x.2.1))), (mb, .inl (cI, 20000, .inl b.1)), (mn, .inl (cJ, 40, .inr (.inl (vp_updL x.2.2.1 blk (r_unzig (r_v b x.1).1))))), (mv, .inl (cI, 160, .inl y.2)), (mu, .inl (cI, 160, .inl x.2.2.2.2))]) (w2 := [(g, .inr (4, [.int cd, .ref mr, .ref ms, .int (nI n0), .ref mb, .int (nI b.2), .int ((r_nS b y.1).2.2), .ref ml, .ref mn, .ref mw, .ref mt, .ref mv, .ref mu, .int (nI bl), .int (nI ((r_nS b y.1).1)), .int (nI ((r_nS b y.1).2.1))])), (ms, .inl (cJ, 2000, .inr (.inl x.2.1))), (mb, .inl (cI, 20000, .inl b.1)), (mn, .inl (cJ, 40, .inr (.inl (vp_updL x.2.2.1 blk (r_unzig (r_v b x.1).1))))), (mv, .inl (cI, 160, .inl y.2)), (mu, .inl (cI, 160, .inl x.2.2.2.2))]) (z_runS (rest := []) hx hb hml hown hts hK hN (c_Model_inPart l D cI cJ many i (by (try dsimp only); omega) (by (try dsimp only); omega)) kk_Model_97 (zP.cut hP [] rfl) (hD.sub [] (by decide) rfl) rfl hl.1 rfl (Nat.le_of_ble_eq_true rfl) d_Model_readBlock_54 (by decide) (by decide)) hP hD hS hA [] [0, 1, 2, 3, 4, 5] [0, 1, 2, 3, 4, 5] rfl rfl (by decide) (by decide) (by decide) rfl (fun H locs hP hD hS => ?_)
              have hip9 : r_ip many i ≤ 16 := by unfold r_ip; omega
              refine z0_ne (a := r_ip many i) (by omega) hx hb d_Model_readBlock_57 (tgt := 71) (by decide) (fun c_57 => ?_) (fun c_57 => ?_)
              · skip
                exact hj71   _ _ (by unfold r_nwS; first | (rw [if_pos (by omega)]; exact hP) | (rw [if_neg (by omega)]; exact hP)) (by unfold r_nwS; first | (rw [if_pos (by omega)]; exact hD) | (rw [if_neg (by omega)]; exact hD)) hS ls (lv_sub hl [1, 2, 3, 4, 5, 6, 0] rfl)
              · skip
                have h9 := r_nS_1 (b := b) (z := y.1) (by omega)
                refine lv_aload_n hx hb d_Model_readBlock_60 rfl (lv_at hl 1 rfl) ?_
                refine lv_iconst (v := nI 5) hx hb d_Model_readBlock_61 (by decide +kernel) ?_
                refine lv_aload_n hx hb d_Model_readBlock_62 rfl (lv_at hl 1 rfl) ?_
                refine g_Model_79 hx hb hts hown hK hP 0 rfl rfl d_Model_readBlock_63 ?_
                refine lv_iconst (v := nI 1) hx hb d_Model_readBlock_66 (by decide +kernel) ?_
                refine lv_isub hx hb d_Model_readBlock_67 (z_i (pk_sub (a := (r_nS b y.1).1) (b := 1) (by omega)) ?_)
                refine z_callEv (wr := [(ms, .inl (cJ, 2000, .inr (.inl x.2.1))), (mb, .inl (cI, 20000, .inl b.1)), (mn, .inl (cJ, 40, .inr (.inl (vp_updL x.2.2.1 blk (r_unzig (r_v b x.1).1))))), (mv, .inl (cI, 160, .inl y.2)), (mu, .inl (cI, 160, .inl x.2.2.2.2))]) (w2 := [(g, .inr (4, [.int cd, .ref mr, .ref ms, .int (nI n0), .ref mb, .int (nI b.2), .int ((r_fail (r_nS b y.1) 5 (nI (((r_nS b y.1).1) - 1))).2.2), .ref ml, .ref mn, .ref mw, .ref mt, .ref mv, .ref mu, .int (nI bl), .int (nI ((r_fail (r_nS b y.1) 5 (nI (((r_nS b y.1).1) - 1))).1)), .int (nI ((r_fail (r_nS b y.1) 5 (nI (((r_nS b y.1).1) - 1))).2.1))])), (ms, .inl (cJ, 2000, .inr (.inl x.2.1))), (mb, .inl (cI, 20000, .inl b.1)), (mn, .inl (cJ, 40, .inr (.inl (vp_updL x.2.2.1 blk (r_unzig (r_v b x.1).1))))), (mv, .inl (cI, 160, .inl y.2)), (mu, .inl (cI, 160, .inl x.2.2.2.2))]) (z_runV (rest := []) hx hb hml hown hts hK hN (c_Model_fail l D cI cJ g mr ms mb ml mn mw mt mv mu cd n0 bl (r_nS b y.1) 5 (nI (((r_nS b y.1).1) - 1)) b.2 hyn.2) kk_Model_82 (zP.cut hP [0] rfl) (hD.sub [0] (by decide) rfl) 0 rfl rfl rfl hl.1 rfl (Nat.le_of_ble_eq_true rfl) d_Model_readBlock_68 (by decide) (by decide)) hP hD hS hA [0] [1, 2, 3, 4, 5] [5, 0, 1, 2, 3, 4] rfl rfl (by decide) (by decide) (by decide) rfl (fun H locs hP hD hS => ?_)
                exact hj71   _ _ (by unfold r_nwS; first | (rw [if_pos (by omega)]; exact hP) | (rw [if_neg (by omega)]; exact hP)) (by unfold r_nwS; first | (rw [if_pos (by omega)]; exact hD) | (rw [if_neg (by omega)]; exact hD)) hS ls (lv_sub hl [1, 2, 3, 4, 5, 6, 0] rfl)
  exact hlp20 _ 0 ((r_v b x.1).2, x.2.2.2.1) (by decide) h1 (fun q hq => absurd hq (Nat.not_lt_zero q)) rfl (Nat.lt_succ_self _) _ _ hP hD hS ls (lv_sub hl [2, 3, 4, 5, 1, 0] rfl)
