set_option maxHeartbeats 4000000 in
set_option maxRecDepth 100000 in
theorem c_ByteRow_has (l : Launch) (D : va_G) (cI cJ : ClassId) (h0 : Nat) (hw : Nat) (us : Nat) (k : Int32) (hu : us < 1000000) : Ct l D (zT cI cJ) y_ByteRow_has b_ByteRow_has 2 (some .boolean) 0 0 0 0 [.ref h0, .int k] [(h0, .inr (0, [.ref hw, .int (nI us)]))] (zEq (some (.int (zb (p_has us k)))) [(h0, .inr (0, [.ref hw, .int (nI us)]))]) := by
  refine Ct.ofW (by decide) (Nat.le_of_ble_eq_true rfl) ?_
  intro p e s m below meth c A ls C0 hP hD hS hl
  obtain ⟨hx, hb, hml, hown, hts, hK, hN, hr, hlocks, hA, hnm⟩ := C0
  have hl : lv_has ls 2 [(0, .ref h0), (1, .int k)] := hl
  have hown : s.vm.findClass R_ByteRow = some m.cls := hown
  refine lv_iload_n hx hb d_ByteRow_has_0 rfl (lv_at hl 1 rfl) ?_
  refine lv_if_lt (tgt := 16) hx hb d_ByteRow_has_1 (by decide) (fun c_1 => ?_) (fun c_1 => ?_)
  · skip
    refine lv_iconst (v := nI 0) hx hb d_ByteRow_has_16 (by decide +kernel) ?_
    exact z_bret hx hb hr hlocks (Or.inl rfl) hS hP hD ⟨zb_f (decide_eq_false (fun z => by first | exact z.1 c_1 | exact z.2 c_9 | (rw [c_1] at z; exact absurd z.1 (by decide)) | (rw [c_9] at z; exact absurd z.1 (by decide)))), rfl⟩ d_ByteRow_has_17
  · skip
    refine lv_iload_n hx hb d_ByteRow_has_4 rfl (lv_at hl 1 rfl) ?_
    refine lv_aload_n hx hb d_ByteRow_has_5 rfl (lv_at hl 0 rfl) ?_
    refine g_ByteRow_15 hx hb hts hown hK hP 0 rfl rfl d_ByteRow_has_6 ?_
    refine lv_icmp_ge (tgt := 16) hx hb d_ByteRow_has_9 (by decide) (fun c_9 => ?_) (fun c_9 => ?_)
    · skip
      refine lv_iconst (v := nI 0) hx hb d_ByteRow_has_16 (by decide +kernel) ?_
      exact z_bret hx hb hr hlocks (Or.inl rfl) hS hP hD ⟨zb_f (decide_eq_false (fun z => by first | exact z.1 c_1 | exact z.2 c_9 | (rw [c_1] at z; exact absurd z.1 (by decide)) | (rw [c_9] at z; exact absurd z.1 (by decide)))), rfl⟩ d_ByteRow_has_17
    · skip
      refine lv_iconst (v := nI 1) hx hb d_ByteRow_has_12 (by decide +kernel) ?_
      refine lv_goto (tgt := 17) hx hb d_ByteRow_has_13 (by decide) ?_
      exact z_bret hx hb hr hlocks (Or.inr rfl) hS hP hD ⟨zb_t (decide_eq_true ⟨c_1, c_9⟩), rfl⟩ d_ByteRow_has_17

set_option maxHeartbeats 4000000 in
set_option maxRecDepth 100000 in
theorem c_ByteRow_hasRoom (l : Launch) (D : va_G) (cI cJ : ClassId) (h0 : Nat) (hw : Nat) (us : Nat) (q : Nat) (w : Nat) (hq : q < 1000000) (hw1 : w < 1000000) : Ct l D (zT cI cJ) y_ByteRow_hasRoom b_ByteRow_hasRoom 3 (some .boolean) 0 0 0 0 [.ref h0, .int (nI q), .int (nI w)] [(h0, .inr (0, [.ref hw, .int (nI us)]))] (zEq (some (.int (zb (p_room q w)))) [(h0, .inr (0, [.ref hw, .int (nI us)]))]) := by
  refine Ct.ofW (by decide) (Nat.le_of_ble_eq_true rfl) ?_
  intro p e s m below meth c A ls C0 hP hD hS hl
  obtain ⟨hx, hb, hml, hown, hts, hK, hN, hr, hlocks, hA, hnm⟩ := C0
  have hl : lv_has ls 3 [(0, .ref h0), (1, .int (nI q)), (2, .int (nI w))] := hl
  have hown : s.vm.findClass R_ByteRow = some m.cls := hown
  refine lv_iload_n hx hb d_ByteRow_hasRoom_0 rfl (lv_at hl 1 rfl) ?_
  refine z0_lt (by omega) hx hb d_ByteRow_hasRoom_1 (tgt := 26) (by decide) ?_
  refine lv_iload_n hx hb d_ByteRow_hasRoom_4 rfl (lv_at hl 2 rfl) ?_
  refine z0_le (a := w) (by omega) hx hb d_ByteRow_hasRoom_5 (tgt := 26) (by decide) (fun c_5 => ?_) (fun c_5 => ?_)
  · skip
    refine lv_iconst (v := nI 0) hx hb d_ByteRow_hasRoom_26 (by decide +kernel) ?_
    exact z_bret hx hb hr hlocks (Or.inl rfl) hS hP hD ⟨zb_f (decide_eq_false (by omega)), rfl⟩ d_ByteRow_hasRoom_27
  · skip
    refine lv_iload_n hx hb d_ByteRow_hasRoom_8 rfl (lv_at hl 2 rfl) ?_
    refine lv_bipush (v := nI 64) hx hb d_ByteRow_hasRoom_9 (by decide +kernel) ?_
    refine zn_gt (a := w) (b := 64) (by omega) (by omega) hx hb d_ByteRow_hasRoom_11 (tgt := 26) (by decide) (fun c_11 => ?_) (fun c_11 => ?_)
    · skip
      refine lv_iconst (v := nI 0) hx hb d_ByteRow_hasRoom_26 (by decide +kernel) ?_
      exact z_bret hx hb hr hlocks (Or.inl rfl) hS hP hD ⟨zb_f (decide_eq_false (by omega)), rfl⟩ d_ByteRow_hasRoom_27
    · skip
      refine lv_iload_n hx hb d_ByteRow_hasRoom_14 rfl (lv_at hl 1 rfl) ?_
      refine lv_ldc (v := nI 160000) hx hb hown (kc_ByteRow_49 hts) d_ByteRow_hasRoom_15 ?_
      refine lv_iload_n hx hb d_ByteRow_hasRoom_17 rfl (lv_at hl 2 rfl) ?_
      refine lv_isub hx hb d_ByteRow_hasRoom_18 (z_i (pk_sub (a := 160000) (b := w) (by omega)) ?_)
      refine zn_gt (a := q) (b := 160000 - w) (by omega) (by omega) hx hb d_ByteRow_hasRoom_19 (tgt := 26) (by decide) (fun c_19 => ?_) (fun c_19 => ?_)
      · skip
        refine lv_iconst (v := nI 0) hx hb d_ByteRow_hasRoom_26 (by decide +kernel) ?_
        exact z_bret hx hb hr hlocks (Or.inl rfl) hS hP hD ⟨zb_f (decide_eq_false (by omega)), rfl⟩ d_ByteRow_hasRoom_27
      · skip
        refine lv_iconst (v := nI 1) hx hb d_ByteRow_hasRoom_22 (by decide +kernel) ?_
        refine lv_goto (tgt := 27) hx hb d_ByteRow_hasRoom_23 (by decide) ?_
        exact z_bret hx hb hr hlocks (Or.inr rfl) hS hP hD ⟨zb_t (decide_eq_true (by omega)), rfl⟩ d_ByteRow_hasRoom_27

set_option maxHeartbeats 4000000 in
set_option maxRecDepth 100000 in
theorem c_ByteRow_maskOf (l : Launch) (D : va_G) (cI cJ : ClassId) (w : Nat) (hw1 : w ≤ 64) : Ct l D (zT cI cJ) y_ByteRow_maskOf b_ByteRow_maskOf 1 (some .long) 0 0 0 0 [.int (nI w)] [] (zEq (some (.long (p_mask w))) []) := by
  refine Ct.ofW (by decide) (Nat.le_of_ble_eq_true rfl) ?_
  intro p e s m below meth c A ls C0 hP hD hS hl
  obtain ⟨hx, hb, hml, hown, hts, hK, hN, hr, hlocks, hA, hnm⟩ := C0
  have hl : lv_has ls 1 [(0, .int (nI w))] := hl
  have hown : s.vm.findClass R_ByteRow = some m.cls := hown
  refine lv_ldc2 (v := (-1)) hx hb hown (kc_ByteRow_47 hts) d_ByteRow_maskOf_0 ?_
  refine lv_bipush (v := nI 64) hx hb d_ByteRow_maskOf_3 (by decide +kernel) ?_
  refine lv_iload_n hx hb d_ByteRow_maskOf_5 rfl (lv_at hl 0 rfl) ?_
  refine lv_isub hx hb d_ByteRow_maskOf_6 (z_i (pk_sub (a := 64) (b := w) (by omega)) ?_)
  refine lv_lushr (v := zushr (-1) (nI (64 - w))) hx hb d_ByteRow_maskOf_7 rfl ?_
  exact z_lret hx hb hr hlocks hS hP hD ⟨rfl, rfl⟩ d_ByteRow_maskOf_8

set_option maxHeartbeats 4000000 in
set_option maxRecDepth 100000 in
theorem c_ByteRow_bitsIn (l : Launch) (D : va_G) (cI cJ : ClassId) (h0 : Nat) (hw : Nat) (b : BB) (q : Nat) (w : Nat) (hq : q < 1000000) (hw1 : w < 1000000) : Ct l D (zT cI cJ) y_ByteRow_bitsIn b_ByteRow_bitsIn 7 (some .long) 1 22 0 0 [.ref h0, .int (nI q), .int (nI w)] [(h0, .inr (0, [.ref hw, .int (nI b.2)])), (hw, .inl (cJ, 2500, .inr (.inl b.1)))] (zEq (some (.long (p_bitsIn b.1 q w))) [(h0, .inr (0, [.ref hw, .int (nI b.2)])), (hw, .inl (cJ, 2500, .inr (.inl b.1)))]) := by
  refine Ct.ofW (by decide) (Nat.le_of_ble_eq_true rfl) ?_
  intro p e s m below meth c A ls C0 hP hD hS hl
  obtain ⟨hx, hb, hml, hown, hts, hK, hN, hr, hlocks, hA, hnm⟩ := C0
  have hl : lv_has ls 7 [(0, .ref h0), (1, .int (nI q)), (2, .int (nI w))] := hl
  have hown : s.vm.findClass R_ByteRow = some m.cls := hown
  refine lv_aload_n hx hb d_ByteRow_bitsIn_0 rfl (lv_at hl 0 rfl) ?_
  refine lv_iload_n hx hb d_ByteRow_bitsIn_1 rfl (lv_at hl 1 rfl) ?_
  refine lv_iload_n hx hb d_ByteRow_bitsIn_2 rfl (lv_at hl 2 rfl) ?_
  refine z_callEi (wr := [(hw, .inl (cJ, 2500, .inr (.inl b.1)))]) (w2 := [(h0, .inr (0, [.ref hw, .int (nI b.2)])), (hw, .inl (cJ, 2500, .inr (.inl b.1)))]) (z_runV (rest := []) hx hb hml hown hts hK hN (c_ByteRow_hasRoom l D cI cJ h0 hw b.2 q w (by (try dsimp only); omega) (by (try dsimp only); omega)) kk_ByteRow_39 (zP.cut hP [0] rfl) (hD.sub [0] (by decide) rfl) 0 rfl rfl rfl hl.1 rfl (Nat.le_of_ble_eq_true rfl) d_ByteRow_bitsIn_3 (by decide) (by decide)) hP hD hS hA [0] [1] [1, 0] rfl rfl (by decide) (by decide) (by decide) rfl (fun H locs hP hD hS => ?_)
  refine zb_ne (tgt := 11) hx hb d_ByteRow_bitsIn_6 (by decide) (fun c_6 => ?_) (fun c_6 => ?_)
  · skip
    obtain ⟨r0, r1, r2⟩ := of_decide_eq_true (show decide (0 < w ∧ w ≤ 64 ∧ q + w ≤ 160000) = true from c_6)
    refine lv_iload_n hx hb d_ByteRow_bitsIn_11 rfl (lv_at hl 1 rfl) ?_
    refine lv_bipush (v := nI 64) hx hb d_ByteRow_bitsIn_12 (by decide +kernel) ?_
    refine lv_idiv hx hb d_ByteRow_bitsIn_14 (nI_ne0 (by omega) (by omega)) (z_i (pk_div (a := q) (d := 64) (by omega) (by omega) (by omega)) ?_)
    refine lv_istore_n (lv' := [(3, .int (nI (q / 64))), (0, .ref h0), (1, .int (nI q)), (2, .int (nI w))]) hx hb d_ByteRow_bitsIn_15 rfl hl (by decide) rfl (fun ls hl => ?_)
    refine lv_iload_n hx hb d_ByteRow_bitsIn_16 rfl (lv_at hl 2 rfl) ?_
    refine lv_bipush (v := nI 64) hx hb d_ByteRow_bitsIn_17 (by decide +kernel) ?_
    refine lv_irem hx hb d_ByteRow_bitsIn_19 (nI_ne0 (by omega) (by omega)) (z_i (zrem (a := q) (d := 64) (by omega) (by omega) (by omega)) ?_)
    refine lv_istore (lv' := [(4, .int (nI (q % 64))), (3, .int (nI (q / 64))), (0, .ref h0), (1, .int (nI q)), (2, .int (nI w))]) hx hb d_ByteRow_bitsIn_20 hl (by decide) rfl (fun ls hl => ?_)
    refine lv_aload_n hx hb d_ByteRow_bitsIn_22 rfl (lv_at hl 2 rfl) ?_
    refine g_ByteRow_9 hx hb hts hown hK hP 0 rfl rfl d_ByteRow_bitsIn_23 ?_
    refine lv_iload_n hx hb d_ByteRow_bitsIn_26 rfl (lv_at hl 1 rfl) ?_
    refine z_lald hx hb hK hP 1 1 rfl rfl (by omega) (by decide) d_ByteRow_bitsIn_27 ?_
    refine lv_iload hx hb d_ByteRow_bitsIn_28 (lv_at hl 0 rfl) ?_
    refine lv_lushr (v := zushr (b.1 (q / 64)) (nI (q % 64))) hx hb d_ByteRow_bitsIn_30 rfl ?_
    refine lv_lstore (lv' := [(5, .long (zushr (b.1 (q / 64)) (nI (q % 64)))), (4, .int (nI (q % 64))), (3, .int (nI (q / 64))), (0, .ref h0), (1, .int (nI q)), (2, .int (nI w))]) hx hb d_ByteRow_bitsIn_31 hl (by decide) rfl (fun ls hl => ?_)
    refine lv_iload hx hb d_ByteRow_bitsIn_33 (lv_at hl 1 rfl) ?_
    refine lv_iload_n hx hb d_ByteRow_bitsIn_35 rfl (lv_at hl 5 rfl) ?_
    refine lv_iadd hx hb d_ByteRow_bitsIn_36 (z_i (nI_add (q % 64) w) ?_)
    refine lv_bipush (v := nI 64) hx hb d_ByteRow_bitsIn_37 (by decide +kernel) ?_
    refine zn_le (a := q % 64 + w) (b := 64) (by omega) (by omega) hx hb d_ByteRow_bitsIn_39 (tgt := 61) (by decide) (fun c_39 => ?_) (fun c_39 => ?_)
    · skip
      refine lv_lload hx hb d_ByteRow_bitsIn_61 (lv_at hl 0 rfl) ?_
      refine lv_iload_n hx hb d_ByteRow_bitsIn_63 rfl (lv_at hl 5 rfl) ?_
      refine z_callEl (wr := [(h0, .inr (0, [.ref hw, .int (nI b.2)])), (hw, .inl (cJ, 2500, .inr (.inl b.1)))]) (w2 := [(h0, .inr (0, [.ref hw, .int (nI b.2)])), (hw, .inl (cJ, 2500, .inr (.inl b.1)))]) (z_runS (rest := [.long (zushr (b.1 (q / 64)) (nI (q % 64)))]) hx hb hml hown hts hK hN (c_ByteRow_maskOf l D cI cJ w (by (try dsimp only); omega)) kk_ByteRow_43 (zP.cut hP [] rfl) (hD.sub [] (by decide) rfl) rfl hl.1 rfl (Nat.le_of_ble_eq_true rfl) d_ByteRow_bitsIn_64 (by decide) (by decide)) hP hD hS hA [] [0, 1] [0, 1] rfl rfl (by decide) (by decide) (by decide) rfl (fun H locs hP hD hS => ?_)
      refine lv_land hx hb d_ByteRow_bitsIn_67 ?_
      exact z_lret hx hb hr hlocks hS hP hD ⟨by unfold p_bitsIn; rw [if_pos c_6]; first | rw [if_pos c_39] | rw [if_neg (Nat.not_le.mpr c_39)], rfl⟩ d_ByteRow_bitsIn_68
    · skip
      refine lv_lload hx hb d_ByteRow_bitsIn_42 (lv_at hl 0 rfl) ?_
      refine lv_aload_n hx hb d_ByteRow_bitsIn_44 rfl (lv_at hl 3 rfl) ?_
      refine g_ByteRow_9 hx hb hts hown hK hP 0 rfl rfl d_ByteRow_bitsIn_45 ?_
      refine lv_iload_n hx hb d_ByteRow_bitsIn_48 rfl (lv_at hl 2 rfl) ?_
      refine lv_iconst (v := nI 1) hx hb d_ByteRow_bitsIn_49 (by decide +kernel) ?_
      refine lv_iadd hx hb d_ByteRow_bitsIn_50 (z_i (nI_add (q / 64) 1) ?_)
      refine z_lald hx hb hK hP 1 1 rfl rfl (by omega) (by decide) d_ByteRow_bitsIn_51 ?_
      refine lv_bipush (v := nI 64) hx hb d_ByteRow_bitsIn_52 (by decide +kernel) ?_
      refine lv_iload hx hb d_ByteRow_bitsIn_54 (lv_at hl 1 rfl) ?_
      refine lv_isub hx hb d_ByteRow_bitsIn_56 (z_i (pk_sub (a := 64) (b := q % 64) (by omega)) ?_)
      refine lv_lshl (v := zshl (b.1 (q / 64 + 1)) (nI (64 - (q % 64)))) hx hb d_ByteRow_bitsIn_57 rfl ?_
      refine lv_lor hx hb d_ByteRow_bitsIn_58 ?_
      refine lv_lstore (lv' := [(5, .long ((zushr (b.1 (q / 64)) (nI (q % 64))) ||| (zshl (b.1 (q / 64 + 1)) (nI (64 - (q % 64)))))), (4, .int (nI (q % 64))), (3, .int (nI (q / 64))), (0, .ref h0), (1, .int (nI q)), (2, .int (nI w))]) hx hb d_ByteRow_bitsIn_59 hl (by decide) rfl (fun ls hl => ?_)
      refine lv_lload hx hb d_ByteRow_bitsIn_61 (lv_at hl 0 rfl) ?_
      refine lv_iload_n hx hb d_ByteRow_bitsIn_63 rfl (lv_at hl 5 rfl) ?_
      refine z_callEl (wr := [(h0, .inr (0, [.ref hw, .int (nI b.2)])), (hw, .inl (cJ, 2500, .inr (.inl b.1)))]) (w2 := [(h0, .inr (0, [.ref hw, .int (nI b.2)])), (hw, .inl (cJ, 2500, .inr (.inl b.1)))]) (z_runS (rest := [.long ((zushr (b.1 (q / 64)) (nI (q % 64))) ||| (zshl (b.1 (q / 64 + 1)) (nI (64 - (q % 64)))))]) hx hb hml hown hts hK hN (c_ByteRow_maskOf l D cI cJ w (by (try dsimp only); omega)) kk_ByteRow_43 (zP.cut hP [] rfl) (hD.sub [] (by decide) rfl) rfl hl.1 rfl (Nat.le_of_ble_eq_true rfl) d_ByteRow_bitsIn_64 (by decide) (by decide)) hP hD hS hA [] [0, 1] [0, 1] rfl rfl (by decide) (by decide) (by decide) rfl (fun H locs hP hD hS => ?_)
      refine lv_land hx hb d_ByteRow_bitsIn_67 ?_
      exact z_lret hx hb hr hlocks hS hP hD ⟨by unfold p_bitsIn; rw [if_pos c_6]; first | rw [if_pos c_39] | rw [if_neg (Nat.not_le.mpr c_39)], rfl⟩ d_ByteRow_bitsIn_68
  · skip
    refine lv_lconst (v := 0) hx hb d_ByteRow_bitsIn_9 (by decide +kernel) ?_
    exact z_lret hx hb hr hlocks hS hP hD ⟨by unfold p_bitsIn; rw [if_neg (by rw [c_6]; decide)], rfl⟩ d_ByteRow_bitsIn_10

set_option maxHeartbeats 4000000 in
set_option maxRecDepth 100000 in
theorem c_ByteRow_setBits (l : Launch) (D : va_G) (cI cJ : ClassId) (h0 : Nat) (hw : Nat) (b : BB) (q : Nat) (w : Nat) (v : Int64) (hq : q < 1000000) (hw1 : w < 1000000) : Ct l D (zT cI cJ) y_ByteRow_setBits b_ByteRow_setBits 12 none 1 22 0 0 [.ref h0, .int (nI q), .int (nI w), .long v] [(h0, .inr (0, [.ref hw, .int (nI b.2)])), (hw, .inl (cJ, 2500, .inr (.inl b.1)))] (zEq none [(h0, .inr (0, [.ref hw, .int (nI b.2)])), (hw, .inl (cJ, 2500, .inr (.inl (p_setBits b.1 q w v))))]) := by
  refine Ct.ofW (by decide) (Nat.le_of_ble_eq_true rfl) ?_
  intro p e s m below meth c A ls C0 hP hD hS hl
  obtain ⟨hx, hb, hml, hown, hts, hK, hN, hr, hlocks, hA, hnm⟩ := C0
  have hl : lv_has ls 12 [(0, .ref h0), (1, .int (nI q)), (2, .int (nI w)), (3, .long v)] := hl
  have hown : s.vm.findClass R_ByteRow = some m.cls := hown
  refine lv_aload_n hx hb d_ByteRow_setBits_0 rfl (lv_at hl 0 rfl) ?_
  refine lv_iload_n hx hb d_ByteRow_setBits_1 rfl (lv_at hl 1 rfl) ?_
  refine lv_iload_n hx hb d_ByteRow_setBits_2 rfl (lv_at hl 2 rfl) ?_
  refine z_callEi (wr := [(hw, .inl (cJ, 2500, .inr (.inl b.1)))]) (w2 := [(h0, .inr (0, [.ref hw, .int (nI b.2)])), (hw, .inl (cJ, 2500, .inr (.inl b.1)))]) (z_runV (rest := []) hx hb hml hown hts hK hN (c_ByteRow_hasRoom l D cI cJ h0 hw b.2 q w (by (try dsimp only); omega) (by (try dsimp only); omega)) kk_ByteRow_39 (zP.cut hP [0] rfl) (hD.sub [0] (by decide) rfl) 0 rfl rfl rfl hl.1 rfl (Nat.le_of_ble_eq_true rfl) d_ByteRow_setBits_3 (by decide) (by decide)) hP hD hS hA [0] [1] [1, 0] rfl rfl (by decide) (by decide) (by decide) rfl (fun H locs hP hD hS => ?_)
  refine zb_ne (tgt := 10) hx hb d_ByteRow_setBits_6 (by decide) (fun c_6 => ?_) (fun c_6 => ?_)
  · skip
    obtain ⟨r0, r1, r2⟩ := of_decide_eq_true (show decide (0 < w ∧ w ≤ 64 ∧ q + w ≤ 160000) = true from c_6)
    refine lv_iload_n hx hb d_ByteRow_setBits_10 rfl (lv_at hl 1 rfl) ?_
    refine lv_bipush (v := nI 64) hx hb d_ByteRow_setBits_11 (by decide +kernel) ?_
    refine lv_idiv hx hb d_ByteRow_setBits_13 (nI_ne0 (by omega) (by omega)) (z_i (pk_div (a := q) (d := 64) (by omega) (by omega) (by omega)) ?_)
    refine lv_istore (lv' := [(5, .int (nI (q / 64))), (0, .ref h0), (1, .int (nI q)), (2, .int (nI w)), (3, .long v)]) hx hb d_ByteRow_setBits_14 hl (by decide) rfl (fun ls hl => ?_)
    refine lv_iload_n hx hb d_ByteRow_setBits_16 rfl (lv_at hl 2 rfl) ?_
    refine lv_bipush (v := nI 64) hx hb d_ByteRow_setBits_17 (by decide +kernel) ?_
    refine lv_irem hx hb d_ByteRow_setBits_19 (nI_ne0 (by omega) (by omega)) (z_i (zrem (a := q) (d := 64) (by omega) (by omega) (by omega)) ?_)
    refine lv_istore (lv' := [(6, .int (nI (q % 64))), (5, .int (nI (q / 64))), (0, .ref h0), (1, .int (nI q)), (2, .int (nI w)), (3, .long v)]) hx hb d_ByteRow_setBits_20 hl (by decide) rfl (fun ls hl => ?_)
    refine lv_iload_n hx hb d_ByteRow_setBits_22 rfl (lv_at hl 4 rfl) ?_
    refine z_callEl (wr := [(h0, .inr (0, [.ref hw, .int (nI b.2)])), (hw, .inl (cJ, 2500, .inr (.inl b.1)))]) (w2 := [(h0, .inr (0, [.ref hw, .int (nI b.2)])), (hw, .inl (cJ, 2500, .inr (.inl b.1)))]) (z_runS (rest := []) hx hb hml hown hts hK hN (c_ByteRow_maskOf l D cI cJ w (by (try dsimp only); omega)) kk_ByteRow_43 (zP.cut hP [] rfl) (hD.sub [] (by decide) rfl) rfl hl.1 rfl (Nat.le_of_ble_eq_true rfl) d_ByteRow_setBits_23 (by decide) (by decide)) hP hD hS hA [] [0, 1] [0, 1] rfl rfl (by decide) (by decide) (by decide) rfl (fun H locs hP hD hS => ?_)
    refine lv_lstore (lv' := [(7, .long (p_mask w)), (6, .int (nI (q % 64))), (5, .int (nI (q / 64))), (0, .ref h0), (1, .int (nI q)), (2, .int (nI w)), (3, .long v)]) hx hb d_ByteRow_setBits_26 hl (by decide) rfl (fun ls hl => ?_)
    refine lv_lload_n hx hb d_ByteRow_setBits_28 rfl (lv_at hl 6 rfl) ?_
    refine lv_lload hx hb d_ByteRow_setBits_29 (lv_at hl 0 rfl) ?_
    refine lv_land hx hb d_ByteRow_setBits_31 ?_
    refine lv_lstore (lv' := [(9, .long (v &&& (p_mask w))), (7, .long (p_mask w)), (6, .int (nI (q % 64))), (5, .int (nI (q / 64))), (0, .ref h0), (1, .int (nI q)), (2, .int (nI w)), (3, .long v)]) hx hb d_ByteRow_setBits_32 hl (by decide) rfl (fun ls hl => ?_)
    refine lv_aload_n hx hb d_ByteRow_setBits_34 rfl (lv_at hl 4 rfl) ?_
    refine g_ByteRow_9 hx hb hts hown hK hP 0 rfl rfl d_ByteRow_setBits_35 ?_
    refine lv_iload hx hb d_ByteRow_setBits_38 (lv_at hl 3 rfl) ?_
    refine lv_aload_n hx hb d_ByteRow_setBits_40 rfl (lv_at hl 4 rfl) ?_
    refine g_ByteRow_9 hx hb hts hown hK hP 0 rfl rfl d_ByteRow_setBits_41 ?_
    refine lv_iload hx hb d_ByteRow_setBits_44 (lv_at hl 3 rfl) ?_
    refine z_lald hx hb hK hP 1 1 rfl rfl (by omega) (by decide) d_ByteRow_setBits_46 ?_
    refine lv_lload hx hb d_ByteRow_setBits_47 (lv_at hl 1 rfl) ?_
    refine lv_iload hx hb d_ByteRow_setBits_49 (lv_at hl 2 rfl) ?_
    refine lv_lshl (v := zshl (p_mask w) (nI (q % 64))) hx hb d_ByteRow_setBits_51 rfl ?_
    refine lv_ldc2 (v := (-1)) hx hb hown (kc_ByteRow_47 hts) d_ByteRow_setBits_52 ?_
    refine lv_lxor hx hb d_ByteRow_setBits_55 ?_
    refine lv_land hx hb d_ByteRow_setBits_56 ?_
    refine lv_lload hx hb d_ByteRow_setBits_57 (lv_at hl 0 rfl) ?_
    refine lv_iload hx hb d_ByteRow_setBits_59 (lv_at hl 2 rfl) ?_
    refine lv_lshl (v := zshl (v &&& (p_mask w)) (nI (q % 64))) hx hb d_ByteRow_setBits_61 rfl ?_
    refine lv_lor hx hb d_ByteRow_setBits_62 ?_
    refine z_last (w2 := [(h0, .inr (0, [.ref hw, .int (nI b.2)])), (hw, .inl (cJ, 2500, .inr (.inl (vp_updL b.1 (q / 64) (((b.1 (q / 64)) &&& ((zshl (p_mask w) (nI (q % 64))) ^^^ (-1))) ||| (zshl (v &&& (p_mask w)) (nI (q % 64))))))))]) hx hb hK hP hD hS 1 1 rfl rfl (by omega) (by decide) d_ByteRow_setBits_63 rfl (fun H locs hP hD hS => ?_)
    refine lv_iload hx hb d_ByteRow_setBits_64 (lv_at hl 2 rfl) ?_
    refine lv_iload_n hx hb d_ByteRow_setBits_66 rfl (lv_at hl 6 rfl) ?_
    refine lv_iadd hx hb d_ByteRow_setBits_67 (z_i (nI_add (q % 64) w) ?_)
    refine lv_bipush (v := nI 64) hx hb d_ByteRow_setBits_68 (by decide +kernel) ?_
    refine zn_le (a := q % 64 + w) (b := 64) (by omega) (by omega) hx hb d_ByteRow_setBits_70 (tgt := 114) (by decide) (fun c_70 => ?_) (fun c_70 => ?_)
    · skip
      exact z_vret hx hb hr hlocks hS hP hD ⟨rfl, by unfold p_setBits; rw [if_pos c_6]; first | (rw [if_pos c_70] <;> rfl) | (rw [if_neg (Nat.not_le.mpr c_70)] <;> rfl)⟩ d_ByteRow_setBits_114
    · skip
      refine lv_bipush (v := nI 64) hx hb d_ByteRow_setBits_73 (by decide +kernel) ?_
      refine lv_iload hx hb d_ByteRow_setBits_75 (lv_at hl 2 rfl) ?_
      refine lv_isub hx hb d_ByteRow_setBits_77 (z_i (pk_sub (a := 64) (b := q % 64) (by omega)) ?_)
      refine lv_istore (lv' := [(11, .int (nI (64 - (q % 64)))), (9, .long (v &&& (p_mask w))), (7, .long (p_mask w)), (6, .int (nI (q % 64))), (5, .int (nI (q / 64))), (0, .ref h0), (1, .int (nI q)), (2, .int (nI w)), (3, .long v)]) hx hb d_ByteRow_setBits_78 hl (by decide) rfl (fun ls hl => ?_)
      refine lv_aload_n hx hb d_ByteRow_setBits_80 rfl (lv_at hl 5 rfl) ?_
      refine g_ByteRow_9 hx hb hts hown hK hP 0 rfl rfl d_ByteRow_setBits_81 ?_
      refine lv_iload hx hb d_ByteRow_setBits_84 (lv_at hl 4 rfl) ?_
      refine lv_iconst (v := nI 1) hx hb d_ByteRow_setBits_86 (by decide +kernel) ?_
      refine lv_iadd hx hb d_ByteRow_setBits_87 (z_i (nI_add (q / 64) 1) ?_)
      refine lv_aload_n hx hb d_ByteRow_setBits_88 rfl (lv_at hl 5 rfl) ?_
      refine g_ByteRow_9 hx hb hts hown hK hP 0 rfl rfl d_ByteRow_setBits_89 ?_
      refine lv_iload hx hb d_ByteRow_setBits_92 (lv_at hl 4 rfl) ?_
      refine lv_iconst (v := nI 1) hx hb d_ByteRow_setBits_94 (by decide +kernel) ?_
      refine lv_iadd hx hb d_ByteRow_setBits_95 (z_i (nI_add (q / 64) 1) ?_)
      refine z_lald hx hb hK hP 1 1 rfl rfl (by omega) (by decide) d_ByteRow_setBits_96 ?_
      refine lv_lload hx hb d_ByteRow_setBits_97 (lv_at hl 2 rfl) ?_
      refine lv_iload hx hb d_ByteRow_setBits_99 (lv_at hl 0 rfl) ?_
      refine lv_lushr (v := zushr (p_mask w) (nI (64 - (q % 64)))) hx hb d_ByteRow_setBits_101 rfl ?_
      refine lv_ldc2 (v := (-1)) hx hb hown (kc_ByteRow_47 hts) d_ByteRow_setBits_102 ?_
      refine lv_lxor hx hb d_ByteRow_setBits_105 ?_
      refine lv_land hx hb d_ByteRow_setBits_106 ?_
      refine lv_lload hx hb d_ByteRow_setBits_107 (lv_at hl 1 rfl) ?_
      refine lv_iload hx hb d_ByteRow_setBits_109 (lv_at hl 0 rfl) ?_
      refine lv_lushr (v := zushr (v &&& (p_mask w)) (nI (64 - (q % 64)))) hx hb d_ByteRow_setBits_111 rfl ?_
      refine lv_lor hx hb d_ByteRow_setBits_112 ?_
      refine z_last (w2 := [(h0, .inr (0, [.ref hw, .int (nI b.2)])), (hw, .inl (cJ, 2500, .inr (.inl (vp_updL (vp_updL b.1 (q / 64) (((b.1 (q / 64)) &&& ((zshl (p_mask w) (nI (q % 64))) ^^^ (-1))) ||| (zshl (v &&& (p_mask w)) (nI (q % 64))))) (q / 64 + 1) ((((vp_updL b.1 (q / 64) (((b.1 (q / 64)) &&& ((zshl (p_mask w) (nI (q % 64))) ^^^ (-1))) ||| (zshl (v &&& (p_mask w)) (nI (q % 64))))) (q / 64 + 1)) &&& ((zushr (p_mask w) (nI (64 - (q % 64)))) ^^^ (-1))) ||| (zushr (v &&& (p_mask w)) (nI (64 - (q % 64)))))))))]) hx hb hK hP hD hS 1 1 rfl rfl (by omega) (by decide) d_ByteRow_setBits_113 rfl (fun H locs hP hD hS => ?_)
      exact z_vret hx hb hr hlocks hS hP hD ⟨rfl, by unfold p_setBits; rw [if_pos c_6]; first | (rw [if_pos c_70] <;> rfl) | (rw [if_neg (Nat.not_le.mpr c_70)] <;> rfl)⟩ d_ByteRow_setBits_114
  · skip
    exact z_vret hx hb hr hlocks hS hP hD ⟨rfl, by unfold p_setBits; rw [if_neg (by rw [c_6]; decide)]⟩ d_ByteRow_setBits_9

set_option maxHeartbeats 4000000 in
set_option maxRecDepth 100000 in
theorem c_ByteRow_byteIn (l : Launch) (D : va_G) (cI cJ : ClassId) (h0 : Nat) (hw : Nat) (b : BB) (k : Nat) (hk : k < 20000) : Ct l D (zT cI cJ) y_ByteRow_byteIn b_ByteRow_byteIn 2 (some .int) 2 48 0 0 [.ref h0, .int (nI k)] [(h0, .inr (0, [.ref hw, .int (nI b.2)])), (hw, .inl (cJ, 2500, .inr (.inl b.1)))] (zEq (some (.int (nI (gB b.1 k)))) [(h0, .inr (0, [.ref hw, .int (nI b.2)])), (hw, .inl (cJ, 2500, .inr (.inl b.1)))]) := by
  refine Ct.ofW (by decide) (Nat.le_of_ble_eq_true rfl) ?_
  intro p e s m below meth c A ls C0 hP hD hS hl
  obtain ⟨hx, hb, hml, hown, hts, hK, hN, hr, hlocks, hA, hnm⟩ := C0
  have hl : lv_has ls 2 [(0, .ref h0), (1, .int (nI k))] := hl
  have hown : s.vm.findClass R_ByteRow = some m.cls := hown
  refine lv_aload_n hx hb d_ByteRow_byteIn_0 rfl (lv_at hl 0 rfl) ?_
  refine lv_iload_n hx hb d_ByteRow_byteIn_1 rfl (lv_at hl 1 rfl) ?_
  refine lv_bipush (v := nI 8) hx hb d_ByteRow_byteIn_2 (by decide +kernel) ?_
  refine lv_imul hx hb d_ByteRow_byteIn_4 (z_i (pk_mul k 8) ?_)
  refine lv_bipush (v := nI 8) hx hb d_ByteRow_byteIn_5 (by decide +kernel) ?_
  refine z_callEl (wr := []) (w2 := [(h0, .inr (0, [.ref hw, .int (nI b.2)])), (hw, .inl (cJ, 2500, .inr (.inl b.1)))]) (z_runV (rest := []) hx hb hml hown hts hK hN (c_ByteRow_bitsIn l D cI cJ h0 hw b (k * 8) 8 (by (try dsimp only); omega) (by (try dsimp only); omega)) kk_ByteRow_19 (zP.cut hP [0, 1] rfl) (hD.sub [0, 1] (by decide) rfl) 0 rfl rfl rfl hl.1 rfl (Nat.le_of_ble_eq_true rfl) d_ByteRow_byteIn_7 (by decide) (by decide)) hP hD hS hA [0, 1] [] [0, 1] rfl rfl (by decide) (by decide) (by decide) rfl (fun H locs hP hD hS => ?_)
  refine lv_l2i (v := (p_bitsIn b.1 (k * 8) 8).toInt32) hx hb d_ByteRow_byteIn_10 rfl ?_
  refine z_i (v := nI (gB b.1 k)) (gB_int b.1 k) ?_
  exact z_iret hx hb hr hlocks hS hP hD ⟨rfl, rfl⟩ d_ByteRow_byteIn_11

set_option maxHeartbeats 4000000 in
set_option maxRecDepth 100000 in
theorem c_ByteRow_change (l : Launch) (D : va_G) (cI cJ : ClassId) (h0 : Nat) (hw : Nat) (b : BB) (k : Nat) (v : Int32) (hk : k < 20000) : Ct l D (zT cI cJ) y_ByteRow_change b_ByteRow_change 3 none 2 53 0 0 [.ref h0, .int (nI k), .int v] [(h0, .inr (0, [.ref hw, .int (nI b.2)])), (hw, .inl (cJ, 2500, .inr (.inl b.1)))] (zEq none [(h0, .inr (0, [.ref hw, .int (nI b.2)])), (hw, .inl (cJ, 2500, .inr (.inl (p_chg b.1 k v))))]) := by
  refine Ct.ofW (by decide) (Nat.le_of_ble_eq_true rfl) ?_
  intro p e s m below meth c A ls C0 hP hD hS hl
  obtain ⟨hx, hb, hml, hown, hts, hK, hN, hr, hlocks, hA, hnm⟩ := C0
  have hl : lv_has ls 3 [(0, .ref h0), (1, .int (nI k)), (2, .int v)] := hl
  have hown : s.vm.findClass R_ByteRow = some m.cls := hown
  refine lv_aload_n hx hb d_ByteRow_change_0 rfl (lv_at hl 0 rfl) ?_
  refine lv_iload_n hx hb d_ByteRow_change_1 rfl (lv_at hl 1 rfl) ?_
  refine lv_bipush (v := nI 8) hx hb d_ByteRow_change_2 (by decide +kernel) ?_
  refine lv_imul hx hb d_ByteRow_change_4 (z_i (pk_mul k 8) ?_)
  refine lv_bipush (v := nI 8) hx hb d_ByteRow_change_5 (by decide +kernel) ?_
  refine lv_iload_n hx hb d_ByteRow_change_7 rfl (lv_at hl 2 rfl) ?_
  refine lv_i2l (v := v.toInt64) hx hb d_ByteRow_change_8 rfl ?_
  refine z_callEv (wr := []) (w2 := [(h0, .inr (0, [.ref hw, .int (nI b.2)])), (hw, .inl (cJ, 2500, .inr (.inl (p_setBits b.1 (k * 8) 8 v.toInt64))))]) (z_runV (rest := []) hx hb hml hown hts hK hN (c_ByteRow_setBits l D cI cJ h0 hw b (k * 8) 8 v.toInt64 (by (try dsimp only); omega) (by (try dsimp only); omega)) kk_ByteRow_23 (zP.cut hP [0, 1] rfl) (hD.sub [0, 1] (by decide) rfl) 0 rfl rfl rfl hl.1 rfl (Nat.le_of_ble_eq_true rfl) d_ByteRow_change_9 (by decide) (by decide)) hP hD hS hA [0, 1] [] [0, 1] rfl rfl (by decide) (by decide) (by decide) rfl (fun H locs hP hD hS => ?_)
  exact z_vret hx hb hr hlocks hS hP hD ⟨rfl, rfl⟩ d_ByteRow_change_12

set_option maxHeartbeats 4000000 in
set_option maxRecDepth 100000 in
theorem c_ByteRow_add (l : Launch) (D : va_G) (cI cJ : ClassId) (h0 : Nat) (hw : Nat) (b : BB) (v : Int32) (hu : b.2 ≤ 20000) : Ct l D (zT cI cJ) y_ByteRow_add b_ByteRow_add 2 (some .boolean) 3 75 0 0 [.ref h0, .int v] [(h0, .inr (0, [.ref hw, .int (nI b.2)])), (hw, .inl (cJ, 2500, .inr (.inl b.1)))] (zEq (some (.int (zb (decide (b.2 < 20000))))) [(h0, .inr (0, [.ref hw, .int (nI ((p_add b v).2))])), (hw, .inl (cJ, 2500, .inr (.inl ((p_add b v).1))))]) := by
  refine Ct.ofW (by decide) (Nat.le_of_ble_eq_true rfl) ?_
  intro p e s m below meth c A ls C0 hP hD hS hl
  obtain ⟨hx, hb, hml, hown, hts, hK, hN, hr, hlocks, hA, hnm⟩ := C0
  have hl : lv_has ls 2 [(0, .ref h0), (1, .int v)] := hl
  have hown : s.vm.findClass R_ByteRow = some m.cls := hown
  refine lv_aload_n hx hb d_ByteRow_add_0 rfl (lv_at hl 0 rfl) ?_
  refine g_ByteRow_15 hx hb hts hown hK hP 0 rfl rfl d_ByteRow_add_1 ?_
  refine lv_sipush (v := nI 20000) hx hb d_ByteRow_add_4 (by decide +kernel) ?_
  refine zn_lt (a := b.2) (b := 20000) (by omega) (by omega) hx hb d_ByteRow_add_7 (tgt := 12) (by decide) (fun c_7 => ?_) (fun c_7 => ?_)
  · skip
    refine lv_aload_n hx hb d_ByteRow_add_12 rfl (lv_at hl 0 rfl) ?_
    refine lv_aload_n hx hb d_ByteRow_add_13 rfl (lv_at hl 0 rfl) ?_
    refine g_ByteRow_15 hx hb hts hown hK hP 0 rfl rfl d_ByteRow_add_14 ?_
    refine lv_iload_n hx hb d_ByteRow_add_17 rfl (lv_at hl 1 rfl) ?_
    refine z_callEv (wr := []) (w2 := [(h0, .inr (0, [.ref hw, .int (nI b.2)])), (hw, .inl (cJ, 2500, .inr (.inl (p_chg b.1 b.2 v))))]) (z_runV (rest := []) hx hb hml hown hts hK hN (c_ByteRow_change l D cI cJ h0 hw b b.2 v (by (try dsimp only); omega)) kk_ByteRow_27 (zP.cut hP [0, 1] rfl) (hD.sub [0, 1] (by decide) rfl) 0 rfl rfl rfl hl.1 rfl (Nat.le_of_ble_eq_true rfl) d_ByteRow_add_18 (by decide) (by decide)) hP hD hS hA [0, 1] [] [0, 1] rfl rfl (by decide) (by decide) (by decide) rfl (fun H locs hP hD hS => ?_)
    refine lv_aload_n hx hb d_ByteRow_add_21 rfl (lv_at hl 0 rfl) ?_
    refine lv_dup hx hb d_ByteRow_add_22 rfl ?_
    refine g_ByteRow_15 hx hb hts hown hK hP 0 rfl rfl d_ByteRow_add_23 ?_
    refine lv_iconst (v := nI 1) hx hb d_ByteRow_add_26 (by decide +kernel) ?_
    refine lv_iadd hx hb d_ByteRow_add_27 (z_i (nI_add b.2 1) ?_)
    refine p_ByteRow_15 (w2 := [(h0, .inr (0, [.ref hw, .int (nI (b.2 + 1))])), (hw, .inl (cJ, 2500, .inr (.inl (p_chg b.1 b.2 v))))]) hx hb hts hown hK hP hD hS 0 rfl (Nat.le_of_ble_eq_true rfl) rfl d_ByteRow_add_28 (fun H locs hP hD hS => ?_)
    refine lv_iconst (v := nI 1) hx hb d_ByteRow_add_31 (by decide +kernel) ?_
    exact z_bret hx hb hr hlocks (Or.inr rfl) hS hP hD ⟨zb_t (decide_eq_true c_7), by unfold p_add; rw [if_pos c_7] <;> rfl⟩ d_ByteRow_add_32
  · skip
    refine lv_iconst (v := nI 0) hx hb d_ByteRow_add_10 (by decide +kernel) ?_
    exact z_bret hx hb hr hlocks (Or.inl rfl) hS hP hD ⟨zb_f (decide_eq_false (by omega)), by unfold p_add; rw [if_neg (by omega)]⟩ d_ByteRow_add_11

set_option maxHeartbeats 4000000 in
set_option maxRecDepth 100000 in
theorem c_ByteRow_addVarint (l : Launch) (D : va_G) (cI cJ : ClassId) (h0 : Nat) (hw : Nat) (b : BB) (v : Int64) (hu : b.2 ≤ 20000) : Ct l D (zT cI cJ) y_ByteRow_addVarint b_ByteRow_addVarint 6 none 4 96 0 0 [.ref h0, .long v] [(h0, .inr (0, [.ref hw, .int (nI b.2)])), (hw, .inl (cJ, 2500, .inr (.inl b.1)))] (zEq none [(h0, .inr (0, [.ref hw, .int (nI ((p_av b v).2))])), (hw, .inl (cJ, 2500, .inr (.inl ((p_av b v).1))))]) := by
  refine Ct.ofW (by decide) (Nat.le_of_ble_eq_true rfl) ?_
  intro p e s m below meth c A ls C0 hP hD hS hl
  obtain ⟨hx, hb, hml, hown, hts, hK, hN, hr, hlocks, hA, hnm⟩ := C0
  have hl : lv_has ls 6 [(0, .ref h0), (1, .long v)] := hl
  have hown : s.vm.findClass R_ByteRow = some m.cls := hown
  refine lv_lload_n hx hb d_ByteRow_addVarint_0 rfl (lv_at hl 1 rfl) ?_
  refine lv_lstore_n (lv' := [(3, .long v), (0, .ref h0), (1, .long v)]) hx hb d_ByteRow_addVarint_1 rfl hl (by decide) rfl (fun ls hl => ?_)
  refine lv_iconst (v := nI 1) hx hb d_ByteRow_addVarint_2 (by decide +kernel) ?_
  refine lv_istore (lv' := [(5, .int (nI 1)), (3, .long v), (0, .ref h0), (1, .long v)]) hx hb d_ByteRow_addVarint_3 hl (by decide) rfl (fun ls hl => ?_)
  have hlp5 : ∀ (n : Nat) (i : Nat) (bc : BB) (r : Int64), (1 ≤ i ∧ i ≤ 10) → (bc.2 ≤ 20000) → (p_avl (10 - i) bc r = p_av b v) → 10 - i < n → ∀ (H : Heap) (locs : List Loc), va_P D classes [(h0, .inr (0, [.ref hw, .int (nI bc.2)])), (hw, .inl (cJ, 2500, .inr (.inl bc.1)))] H → va_D A [(h0, .inr (0, [.ref hw, .int (nI bc.2)])), (hw, .inl (cJ, 2500, .inr (.inl bc.1)))] → va_S A s.heap H locs → ∀ (ls : Array Slot), lv_has ls 6 [(0, .ref h0), (3, .long r), (5, .int (nI i))] → W p l e { frames := 4, cells := 0, slots := 0, locals := 96 } s m ([.ref h0, .long v] : List Value).toArray below meth c H locs 0 0 (MQ below (zQ D (zEq none [(h0, .inr (0, [.ref hw, .int (nI ((p_av b v).2))])), (hw, .inl (cJ, 2500, .inr (.inl ((p_av b v).1))))]) A) ([.ref h0, .long v] : List Value).toArray s 0 0 A) (F0 m 5 ls []) := by
    intro n
    induction n with
    | zero => intro i bc r h1 hu2 hbf hmu; exact absurd hmu (Nat.not_lt_zero _)
    | succ n ih =>
      intro i bc r h1 hu2 hbf hmu H locs hP hD hS ls hl
      have ih5 := ih
      refine lv_iload hx hb d_ByteRow_addVarint_5 (lv_at hl 2 rfl) ?_
      refine lv_bipush (v := nI 10) hx hb d_ByteRow_addVarint_7 (by decide +kernel) ?_
      refine zn_ge (a := i) (b := 10) (by omega) (by omega) hx hb d_ByteRow_addVarint_9 (tgt := 48) (by decide) (fun c_9 => ?_) (fun c_9 => ?_)
      · skip
        refine lv_aload_n hx hb d_ByteRow_addVarint_48 rfl (lv_at hl 0 rfl) ?_
        refine lv_lload_n hx hb d_ByteRow_addVarint_49 rfl (lv_at hl 1 rfl) ?_
        refine lv_l2i (v := r.toInt32) hx hb d_ByteRow_addVarint_50 rfl ?_
        refine z_callEi (wr := []) (w2 := [(h0, .inr (0, [.ref hw, .int (nI ((p_add bc r.toInt32).2))])), (hw, .inl (cJ, 2500, .inr (.inl ((p_add bc r.toInt32).1))))]) (z_runV (rest := []) hx hb hml hown hts hK hN (c_ByteRow_add l D cI cJ h0 hw bc r.toInt32 (by (try dsimp only); omega)) kk_ByteRow_35 (zP.cut hP [0, 1] rfl) (hD.sub [0, 1] (by decide) rfl) 0 rfl rfl rfl hl.1 rfl (Nat.le_of_ble_eq_true rfl) d_ByteRow_addVarint_51 (by decide) (by decide)) hP hD hS hA [0, 1] [] [0, 1] rfl rfl (by decide) (by decide) (by decide) rfl (fun H locs hP hD hS => ?_)
        refine lv_pop hx hb d_ByteRow_addVarint_54 rfl ?_
        exact z_vret hx hb hr hlocks hS hP hD ⟨rfl, by rw [← hbf]; first | (rw [show 10 - i = 0 by omega]; rfl) | (rw [show 10 - i = (10 - (i + 1)) + 1 by omega, p_avl, if_pos c_18])⟩ d_ByteRow_addVarint_55
      · skip
        refine lv_lload_n hx hb d_ByteRow_addVarint_12 rfl (lv_at hl 1 rfl) ?_
        refine lv_ldc2 (v := (-128)) hx hb hown (kc_ByteRow_31 hts) d_ByteRow_addVarint_13 ?_
        refine lv_land hx hb d_ByteRow_addVarint_16 ?_
        refine lv_lconst (v := 0) hx hb d_ByteRow_addVarint_17 (by decide +kernel) ?_
        refine zl_eq hx hb d_ByteRow_addVarint_18 d_ByteRow_addVarint_19 (tgt := 48) (by decide) (fun c_18 => ?_) (fun c_18 => ?_)
        · skip
          refine lv_aload_n hx hb d_ByteRow_addVarint_48 rfl (lv_at hl 0 rfl) ?_
          refine lv_lload_n hx hb d_ByteRow_addVarint_49 rfl (lv_at hl 1 rfl) ?_
          refine lv_l2i (v := r.toInt32) hx hb d_ByteRow_addVarint_50 rfl ?_
          refine z_callEi (wr := []) (w2 := [(h0, .inr (0, [.ref hw, .int (nI ((p_add bc r.toInt32).2))])), (hw, .inl (cJ, 2500, .inr (.inl ((p_add bc r.toInt32).1))))]) (z_runV (rest := []) hx hb hml hown hts hK hN (c_ByteRow_add l D cI cJ h0 hw bc r.toInt32 (by (try dsimp only); omega)) kk_ByteRow_35 (zP.cut hP [0, 1] rfl) (hD.sub [0, 1] (by decide) rfl) 0 rfl rfl rfl hl.1 rfl (Nat.le_of_ble_eq_true rfl) d_ByteRow_addVarint_51 (by decide) (by decide)) hP hD hS hA [0, 1] [] [0, 1] rfl rfl (by decide) (by decide) (by decide) rfl (fun H locs hP hD hS => ?_)
          refine lv_pop hx hb d_ByteRow_addVarint_54 rfl ?_
          exact z_vret hx hb hr hlocks hS hP hD ⟨rfl, by rw [← hbf]; first | (rw [show 10 - i = 0 by omega]; rfl) | (rw [show 10 - i = (10 - (i + 1)) + 1 by omega, p_avl, if_pos c_18])⟩ d_ByteRow_addVarint_55
        · skip
          refine lv_aload_n hx hb d_ByteRow_addVarint_22 rfl (lv_at hl 0 rfl) ?_
          refine lv_lload_n hx hb d_ByteRow_addVarint_23 rfl (lv_at hl 1 rfl) ?_
          refine lv_ldc2 (v := (127)) hx hb hown (kc_ByteRow_33 hts) d_ByteRow_addVarint_24 ?_
          refine lv_land hx hb d_ByteRow_addVarint_27 ?_
          refine lv_l2i (v := (r &&& (127)).toInt32) hx hb d_ByteRow_addVarint_28 rfl ?_
          refine lv_sipush (v := nI 128) hx hb d_ByteRow_addVarint_29 (by decide +kernel) ?_
          refine lv_ior hx hb d_ByteRow_addVarint_32 ?_
          refine z_callEi (wr := []) (w2 := [(h0, .inr (0, [.ref hw, .int (nI ((p_add bc (((r &&& (127)).toInt32) ||| (nI 128))).2))])), (hw, .inl (cJ, 2500, .inr (.inl ((p_add bc (((r &&& (127)).toInt32) ||| (nI 128))).1))))]) (z_runV (rest := []) hx hb hml hown hts hK hN (c_ByteRow_add l D cI cJ h0 hw bc (((r &&& (127)).toInt32) ||| (nI 128)) (by (try dsimp only); omega)) kk_ByteRow_35 (zP.cut hP [0, 1] rfl) (hD.sub [0, 1] (by decide) rfl) 0 rfl rfl rfl hl.1 rfl (Nat.le_of_ble_eq_true rfl) d_ByteRow_addVarint_33 (by decide) (by decide)) hP hD hS hA [0, 1] [] [0, 1] rfl rfl (by decide) (by decide) (by decide) rfl (fun H locs hP hD hS => ?_)
          refine lv_pop hx hb d_ByteRow_addVarint_36 rfl ?_
          refine lv_lload_n hx hb d_ByteRow_addVarint_37 rfl (lv_at hl 1 rfl) ?_
          refine lv_bipush (v := nI 7) hx hb d_ByteRow_addVarint_38 (by decide +kernel) ?_
          refine lv_lushr (v := zushr r (nI 7)) hx hb d_ByteRow_addVarint_40 rfl ?_
          refine lv_lstore_n (lv' := [(3, .long (zushr r (nI 7))), (0, .ref h0), (5, .int (nI i))]) hx hb d_ByteRow_addVarint_41 rfl hl (by decide) rfl (fun ls hl => ?_)
          refine lv_iinc (v := nI (i + 1)) (lv' := [(5, .int (nI (i + 1))), (3, .long (zushr r (nI 7))), (0, .ref h0)]) hx hb d_ByteRow_addVarint_42 hl (k := 2) rfl (zinc i 1) (by decide) rfl (fun ls hl => ?_)
          refine lv_goto (tgt := 5) hx hb d_ByteRow_addVarint_45 (by decide) ?_
          exact ih5 (i + 1) (p_add bc ((r &&& 127).toInt32 ||| nI 128)) (zushr r (nI 7)) (by omega) (p_add_le hu2) (by rw [show 10 - i = (10 - (i + 1)) + 1 by omega, p_avl, if_neg c_18] at hbf; exact hbf) (by omega) _ _ hP hD hS ls (lv_sub hl [2, 1, 0] rfl)
  exact hlp5 _ 1 b v (by omega) hu rfl (Nat.lt_succ_self _) _ _ hP hD hS ls (lv_sub hl [2, 1, 0] rfl)

set_option maxHeartbeats 4000000 in
set_option maxRecDepth 100000 in
theorem c_ByteRow_shorten (l : Launch) (D : va_G) (cI cJ : ClassId) (h0 : Nat) (hw : Nat) (us : Nat) (k : Nat)  : Ct l D (zT cI cJ) y_ByteRow_shorten b_ByteRow_shorten 2 none 0 0 0 0 [.ref h0, .int (nI k)] [(h0, .inr (0, [.ref hw, .int (nI us)]))] (zEq none [(h0, .inr (0, [.ref hw, .int (nI k)]))]) := by
  refine Ct.ofW (by decide) (Nat.le_of_ble_eq_true rfl) ?_
  intro p e s m below meth c A ls C0 hP hD hS hl
  obtain ⟨hx, hb, hml, hown, hts, hK, hN, hr, hlocks, hA, hnm⟩ := C0
  have hl : lv_has ls 2 [(0, .ref h0), (1, .int (nI k))] := hl
  have hown : s.vm.findClass R_ByteRow = some m.cls := hown
  refine lv_aload_n hx hb d_ByteRow_shorten_0 rfl (lv_at hl 0 rfl) ?_
  refine lv_iload_n hx hb d_ByteRow_shorten_1 rfl (lv_at hl 1 rfl) ?_
  refine p_ByteRow_15 (w2 := [(h0, .inr (0, [.ref hw, .int (nI k)]))]) hx hb hts hown hK hP hD hS 0 rfl (Nat.le_of_ble_eq_true rfl) rfl d_ByteRow_shorten_2 (fun H locs hP hD hS => ?_)
  exact z_vret hx hb hr hlocks hS hP hD ⟨rfl, rfl⟩ d_ByteRow_shorten_5

set_option maxHeartbeats 4000000 in
set_option maxRecDepth 100000 in
theorem c_ByteRow_init (l : Launch) (D : va_G) (cI cJ : ClassId) (h0 : Nat)  : Ct l D (zT cI cJ) y_ByteRow_init b_ByteRow_init 1 none 1 20 1 2500 [.ref h0] [(h0, .inr (0, [.null, .int 0]))] (fun r w => r = none ∧ ∃ (hw : Nat), w = [(h0, .inr (0, [.ref hw, .int (nI 0)])), (hw, .inl (cJ, 2500, .inr (.inl (fun _ => 0))))]) := by
  refine Ct.ofW (by decide) (Nat.le_of_ble_eq_true rfl) ?_
  intro p e s m below meth c A ls C0 hP hD hS hl
  obtain ⟨hx, hb, hml, hown, hts, hK, hN, hr, hlocks, hA, hnm⟩ := C0
  have hl : lv_has ls 1 [(0, .ref h0)] := hl
  have hown : s.vm.findClass R_ByteRow = some m.cls := hown
  refine lv_aload_n hx hb d_ByteRow_init_0 rfl (lv_at hl 0 rfl) ?_
  refine W.objInit hx hb hown (kw_ByteRow_3 hts) (ko_1 hts) (ko_2 hts) rfl (by rw [hml]; exact hl.1) rfl d_ByteRow_init_1 (by decide) (Nat.le_of_ble_eq_true rfl) ?_
  refine W.eq (g2 := F0 m 4 ls []) rfl ?_
  refine lv_aload_n hx hb d_ByteRow_init_4 rfl (lv_at hl 0 rfl) ?_
  refine lv_sipush (v := nI 2500) hx hb d_ByteRow_init_5 (by decide +kernel) ?_
  refine z_newa (N' := 2500) (a0 := (2500, .inr (.inl (fun _ => 0)))) hx hb (ka_long hts) (hK.2 1 _ rfl).2 hP hD hS hA (fun _ => rfl) (by decide) (by decide) (by decide) (by decide) (by decide) d_ByteRow_init_8 (fun qa1 H hP hD hS => ?_)
  have hP : va_P D classes [(h0, .inr (0, [.null, .int 0])), (qa1, .inl (cJ, 2500, .inr (.inl (fun _ => 0))))] H := hP
  have hD : va_D A [(h0, .inr (0, [.null, .int 0])), (qa1, .inl (cJ, 2500, .inr (.inl (fun _ => 0))))] := hD
  refine p_ByteRow_9 (w2 := [(h0, .inr (0, [.ref qa1, .int 0])), (qa1, .inl (cJ, 2500, .inr (.inl (fun _ => 0))))]) hx hb hts hown hnm hK hP hD hS 0 rfl (Nat.le_of_ble_eq_true rfl) rfl d_ByteRow_init_10 (fun H locs hP hD hS => ?_)
  refine lv_aload_n hx hb d_ByteRow_init_13 rfl (lv_at hl 0 rfl) ?_
  refine lv_iconst (v := nI 0) hx hb d_ByteRow_init_14 (by decide +kernel) ?_
  refine p_ByteRow_15 (w2 := [(h0, .inr (0, [.ref qa1, .int (nI 0)])), (qa1, .inl (cJ, 2500, .inr (.inl (fun _ => 0))))]) hx hb hts hown hK hP hD hS 0 rfl (Nat.le_of_ble_eq_true rfl) rfl d_ByteRow_init_15 (fun H locs hP hD hS => ?_)
  have hPD := zP.perm (w2 := [(h0, .inr (0, [.ref qa1, .int (nI 0)])), (qa1, .inl (cJ, 2500, .inr (.inl (fun _ => 0))))]) hP hD [0, 1] (by decide) rfl
  exact z_vret hx hb hr hlocks hS hPD.1 hPD.2 ⟨rfl, qa1, rfl⟩ d_ByteRow_init_18
