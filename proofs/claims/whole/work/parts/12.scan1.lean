set_option maxHeartbeats 4000000 in
set_option maxRecDepth 100000 in
theorem c_Scan_refuse (l : Launch) (D : va_G) (cI cJ : ClassId) (h0 : Nat) (bo : Nat) (z : SS) (to : Nat) (fi : Int64) (ki : Nat) (wh : Int32)  : Ct l D (zT cI cJ) y_Scan_refuse b_Scan_refuse 3 none 0 0 0 0 [.ref h0, .int (nI ki), .int wh] [(h0, .inr (2, [.ref bo, .int (nI z.1), .int (nI z.2.1), .int z.2.2, .int (nI to), .long fi]))] (zEq none [(h0, .inr (2, [.ref bo, .int (nI ((z.1, ki, wh).1)), .int (nI ((z.1, ki, wh).2.1)), .int ((z.1, ki, wh).2.2), .int (nI to), .long fi]))]) := by
  refine Ct.ofW (by decide) (Nat.le_of_ble_eq_true rfl) ?_
  intro p e s m below meth c A ls C0 hP hD hS hl
  obtain ⟨hx, hb, hml, hown, hts, hK, hN, hr, hlocks, hA, hnm⟩ := C0
  have hl : lv_has ls 3 [(0, .ref h0), (1, .int (nI ki)), (2, .int wh)] := hl
  have hown : s.vm.findClass R_Scan = some m.cls := hown
  refine lv_aload_n hx hb d_Scan_refuse_0 rfl (lv_at hl 0 rfl) ?_
  refine lv_iload_n hx hb d_Scan_refuse_1 rfl (lv_at hl 1 rfl) ?_
  refine p_Scan_19 (w2 := [(h0, .inr (2, [.ref bo, .int (nI z.1), .int (nI ki), .int z.2.2, .int (nI to), .long fi]))]) hx hb hts hown hK hP hD hS 0 rfl (Nat.le_of_ble_eq_true rfl) rfl d_Scan_refuse_2 (fun H locs hP hD hS => ?_)
  refine lv_aload_n hx hb d_Scan_refuse_5 rfl (lv_at hl 0 rfl) ?_
  refine lv_iload_n hx hb d_Scan_refuse_6 rfl (lv_at hl 2 rfl) ?_
  refine p_Scan_22 (w2 := [(h0, .inr (2, [.ref bo, .int (nI z.1), .int (nI ki), .int wh, .int (nI to), .long fi]))]) hx hb hts hown hK hP hD hS 0 rfl (Nat.le_of_ble_eq_true rfl) rfl d_Scan_refuse_7 (fun H locs hP hD hS => ?_)
  exact z_vret hx hb hr hlocks hS hP hD ⟨rfl, rfl⟩ d_Scan_refuse_10

set_option maxHeartbeats 4000000 in
set_option maxRecDepth 100000 in
theorem c_Scan_isFaultless (l : Launch) (D : va_G) (cI cJ : ClassId) (h0 : Nat) (bo : Nat) (z : SS) (to : Nat) (fi : Int64) (hf : z.2.1 < 1000000) : Ct l D (zT cI cJ) y_Scan_isFaultless b_Scan_isFaultless 1 (some .boolean) 0 0 0 0 [.ref h0] [(h0, .inr (2, [.ref bo, .int (nI z.1), .int (nI z.2.1), .int z.2.2, .int (nI to), .long fi]))] (zEq (some (.int (zb (decide (z.2.1 = 0))))) [(h0, .inr (2, [.ref bo, .int (nI z.1), .int (nI z.2.1), .int z.2.2, .int (nI to), .long fi]))]) := by
  refine Ct.ofW (by decide) (Nat.le_of_ble_eq_true rfl) ?_
  intro p e s m below meth c A ls C0 hP hD hS hl
  obtain ⟨hx, hb, hml, hown, hts, hK, hN, hr, hlocks, hA, hnm⟩ := C0
  have hl : lv_has ls 1 [(0, .ref h0)] := hl
  have hown : s.vm.findClass R_Scan = some m.cls := hown
  refine lv_aload_n hx hb d_Scan_isFaultless_0 rfl (lv_at hl 0 rfl) ?_
  refine g_Scan_19 hx hb hts hown hK hP 0 rfl rfl d_Scan_isFaultless_1 ?_
  refine z0_ne (a := z.2.1) (by omega) hx hb d_Scan_isFaultless_4 (tgt := 11) (by decide) (fun c_4 => ?_) (fun c_4 => ?_)
  · skip
    refine lv_iconst (v := nI 0) hx hb d_Scan_isFaultless_11 (by decide +kernel) ?_
    exact z_bret hx hb hr hlocks (Or.inl rfl) hS hP hD ⟨zb_f (decide_eq_false (by omega)), rfl⟩ d_Scan_isFaultless_12
  · skip
    refine lv_iconst (v := nI 1) hx hb d_Scan_isFaultless_7 (by decide +kernel) ?_
    refine lv_goto (tgt := 12) hx hb d_Scan_isFaultless_8 (by decide) ?_
    exact z_bret hx hb hr hlocks (Or.inr rfl) hS hP hD ⟨zb_t (decide_eq_true (by omega)), rfl⟩ d_Scan_isFaultless_12

set_option maxHeartbeats 4000000 in
set_option maxRecDepth 100000 in
theorem c_Scan_nextByte (l : Launch) (D : va_G) (cI cJ : ClassId) (h0 : Nat) (bo : Nat) (z : SS) (to : Nat) (fi : Int64) (hw : Nat) (b : BB) (hu : b.2 ≤ 20000) (hz : z.1 ≤ b.2) : Ct l D (zT cI cJ) y_Scan_nextByte b_Scan_nextByte 2 (some .int) 3 69 0 0 [.ref h0] [(h0, .inr (2, [.ref bo, .int (nI z.1), .int (nI z.2.1), .int z.2.2, .int (nI to), .long fi])), (bo, .inr (0, [.ref hw, .int (nI b.2)])), (hw, .inl (cJ, 2500, .inr (.inl b.1)))] (zEq (some (.int (nI (p_nbV b z)))) [(h0, .inr (2, [.ref bo, .int (nI ((p_nbS b z).1)), .int (nI ((p_nbS b z).2.1)), .int ((p_nbS b z).2.2), .int (nI to), .long fi])), (bo, .inr (0, [.ref hw, .int (nI b.2)])), (hw, .inl (cJ, 2500, .inr (.inl b.1)))]) := by
  refine Ct.ofW (by decide) (Nat.le_of_ble_eq_true rfl) ?_
  intro p e s m below meth c A ls C0 hP hD hS hl
  obtain ⟨hx, hb, hml, hown, hts, hK, hN, hr, hlocks, hA, hnm⟩ := C0
  have hl : lv_has ls 2 [(0, .ref h0)] := hl
  have hown : s.vm.findClass R_Scan = some m.cls := hown
  refine lv_aload_n hx hb d_Scan_nextByte_0 rfl (lv_at hl 0 rfl) ?_
  refine g_Scan_9 hx hb hts hown hK hP 0 rfl rfl d_Scan_nextByte_1 ?_
  refine lv_aload_n hx hb d_Scan_nextByte_4 rfl (lv_at hl 0 rfl) ?_
  refine g_Scan_15 hx hb hts hown hK hP 0 rfl rfl d_Scan_nextByte_5 ?_
  refine z_callEi (wr := [(h0, .inr (2, [.ref bo, .int (nI z.1), .int (nI z.2.1), .int z.2.2, .int (nI to), .long fi])), (hw, .inl (cJ, 2500, .inr (.inl b.1)))]) (w2 := [(h0, .inr (2, [.ref bo, .int (nI z.1), .int (nI z.2.1), .int z.2.2, .int (nI to), .long fi])), (bo, .inr (0, [.ref hw, .int (nI b.2)])), (hw, .inl (cJ, 2500, .inr (.inl b.1)))]) (z_runV (rest := []) hx hb hml hown hts hK hN (c_ByteRow_has l D cI cJ bo hw b.2 (nI z.1) (by (try dsimp only); omega)) kk_Scan_109 (zP.cut hP [1] rfl) (hD.sub [1] (by decide) rfl) 0 rfl rfl rfl hl.1 rfl (Nat.le_of_ble_eq_true rfl) d_Scan_nextByte_8 (by decide) (by decide)) hP hD hS hA [1] [0, 2] [0, 2, 1] rfl rfl (by decide) (by decide) (by decide) rfl (fun H locs hP hD hS => ?_)
  refine zb_ne (tgt := 28) hx hb d_Scan_nextByte_11 (by decide) (fun c_11 => ?_) (fun c_11 => ?_)
  · skip
    rw [p_has_nI (by omega) (by omega)] at c_11
    have c_11 := of_decide_eq_true c_11
    refine lv_aload_n hx hb d_Scan_nextByte_28 rfl (lv_at hl 0 rfl) ?_
    refine g_Scan_9 hx hb hts hown hK hP 0 rfl rfl d_Scan_nextByte_29 ?_
    refine lv_aload_n hx hb d_Scan_nextByte_32 rfl (lv_at hl 0 rfl) ?_
    refine g_Scan_15 hx hb hts hown hK hP 0 rfl rfl d_Scan_nextByte_33 ?_
    refine z_callEi (wr := [(h0, .inr (2, [.ref bo, .int (nI z.1), .int (nI z.2.1), .int z.2.2, .int (nI to), .long fi]))]) (w2 := [(h0, .inr (2, [.ref bo, .int (nI z.1), .int (nI z.2.1), .int z.2.2, .int (nI to), .long fi])), (bo, .inr (0, [.ref hw, .int (nI b.2)])), (hw, .inl (cJ, 2500, .inr (.inl b.1)))]) (z_runV (rest := []) hx hb hml hown hts hK hN (c_ByteRow_byteIn l D cI cJ bo hw b z.1 (by (try dsimp only); omega)) kk_Scan_113 (zP.cut hP [1, 2] rfl) (hD.sub [1, 2] (by decide) rfl) 0 rfl rfl rfl hl.1 rfl (Nat.le_of_ble_eq_true rfl) d_Scan_nextByte_36 (by decide) (by decide)) hP hD hS hA [1, 2] [0] [0, 1, 2] rfl rfl (by decide) (by decide) (by decide) rfl (fun H locs hP hD hS => ?_)
    refine lv_istore_n (lv' := [(1, .int (nI (gB b.1 z.1))), (0, .ref h0)]) hx hb d_Scan_nextByte_39 rfl hl (by decide) rfl (fun ls hl => ?_)
    refine lv_aload_n hx hb d_Scan_nextByte_40 rfl (lv_at hl 1 rfl) ?_
    refine lv_dup hx hb d_Scan_nextByte_41 rfl ?_
    refine g_Scan_15 hx hb hts hown hK hP 0 rfl rfl d_Scan_nextByte_42 ?_
    refine lv_iconst (v := nI 1) hx hb d_Scan_nextByte_45 (by decide +kernel) ?_
    refine lv_iadd hx hb d_Scan_nextByte_46 (z_i (nI_add z.1 1) ?_)
    refine p_Scan_15 (w2 := [(h0, .inr (2, [.ref bo, .int (nI (z.1 + 1)), .int (nI z.2.1), .int z.2.2, .int (nI to), .long fi])), (bo, .inr (0, [.ref hw, .int (nI b.2)])), (hw, .inl (cJ, 2500, .inr (.inl b.1)))]) hx hb hts hown hK hP hD hS 0 rfl (Nat.le_of_ble_eq_true rfl) rfl d_Scan_nextByte_47 (fun H locs hP hD hS => ?_)
    refine lv_iload_n hx hb d_Scan_nextByte_50 rfl (lv_at hl 0 rfl) ?_
    exact z_iret hx hb hr hlocks hS hP hD ⟨by unfold p_nbV; rw [if_pos c_11], by unfold p_nbS; rw [if_pos c_11] <;> rfl⟩ d_Scan_nextByte_51
  · skip
    rw [p_has_nI (by omega) (by omega)] at c_11
    have c_11 := of_decide_eq_false c_11
    refine lv_aload_n hx hb d_Scan_nextByte_14 rfl (lv_at hl 0 rfl) ?_
    refine lv_iconst (v := nI 1) hx hb d_Scan_nextByte_15 (by decide +kernel) ?_
    refine lv_aload_n hx hb d_Scan_nextByte_16 rfl (lv_at hl 0 rfl) ?_
    refine g_Scan_9 hx hb hts hown hK hP 0 rfl rfl d_Scan_nextByte_17 ?_
    refine g_Scan_52 hx hb hts hown hK hP 1 rfl rfl d_Scan_nextByte_20 ?_
    refine z_callEv (wr := [(bo, .inr (0, [.ref hw, .int (nI b.2)])), (hw, .inl (cJ, 2500, .inr (.inl b.1)))]) (w2 := [(h0, .inr (2, [.ref bo, .int (nI ((z.1, 1, (nI b.2)).1)), .int (nI ((z.1, 1, (nI b.2)).2.1)), .int ((z.1, 1, (nI b.2)).2.2), .int (nI to), .long fi])), (bo, .inr (0, [.ref hw, .int (nI b.2)])), (hw, .inl (cJ, 2500, .inr (.inl b.1)))]) (z_runV (rest := []) hx hb hml hown hts hK hN (c_Scan_refuse l D cI cJ h0 bo z to fi 1 (nI b.2) ) kk_Scan_57 (zP.cut hP [0] rfl) (hD.sub [0] (by decide) rfl) 0 rfl rfl rfl hl.1 rfl (Nat.le_of_ble_eq_true rfl) d_Scan_nextByte_23 (by decide) (by decide)) hP hD hS hA [0] [1, 2] [2, 0, 1] rfl rfl (by decide) (by decide) (by decide) rfl (fun H locs hP hD hS => ?_)
    refine lv_iconst (v := nI 0) hx hb d_Scan_nextByte_26 (by decide +kernel) ?_
    exact z_iret hx hb hr hlocks hS hP hD ⟨by unfold p_nbV; rw [if_neg c_11], by unfold p_nbS; rw [if_neg c_11] <;> rfl⟩ d_Scan_nextByte_27

set_option maxHeartbeats 4000000 in
set_option maxRecDepth 100000 in
theorem c_Scan_nextVarint (l : Launch) (D : va_G) (cI cJ : ClassId) (h0 : Nat) (bo : Nat) (z : SS) (to : Nat) (fi : Int64) (hw : Nat) (b : BB) (hu : b.2 ≤ 20000) (hz : z.1 ≤ b.2) (hf : z.2.1 < 1000000) : Ct l D (zT cI cJ) y_Scan_nextVarint b_Scan_nextVarint 8 (some .long) 4 90 0 0 [.ref h0] [(h0, .inr (2, [.ref bo, .int (nI z.1), .int (nI z.2.1), .int z.2.2, .int (nI to), .long fi])), (bo, .inr (0, [.ref hw, .int (nI b.2)])), (hw, .inl (cJ, 2500, .inr (.inl b.1)))] (zEq (some (.long ((p_nv b z).1))) [(h0, .inr (2, [.ref bo, .int (nI ((p_nv b z).2.1)), .int (nI ((p_nv b z).2.2.1)), .int ((p_nv b z).2.2.2), .int (nI to), .long fi])), (bo, .inr (0, [.ref hw, .int (nI b.2)])), (hw, .inl (cJ, 2500, .inr (.inl b.1)))]) := by
  refine Ct.ofW (by decide) (Nat.le_of_ble_eq_true rfl) ?_
  intro p e s m below meth c A ls C0 hP hD hS hl
  obtain ⟨hx, hb, hml, hown, hts, hK, hN, hr, hlocks, hA, hnm⟩ := C0
  have hl : lv_has ls 8 [(0, .ref h0)] := hl
  have hown : s.vm.findClass R_Scan = some m.cls := hown
  refine lv_aload_n hx hb d_Scan_nextVarint_0 rfl (lv_at hl 0 rfl) ?_
  refine g_Scan_15 hx hb hts hown hK hP 0 rfl rfl d_Scan_nextVarint_1 ?_
  refine lv_istore_n (lv' := [(1, .int (nI z.1)), (0, .ref h0)]) hx hb d_Scan_nextVarint_4 rfl hl (by decide) rfl (fun ls hl => ?_)
  refine lv_lconst (v := 0) hx hb d_Scan_nextVarint_5 (by decide +kernel) ?_
  refine lv_lstore_n (lv' := [(2, .long 0), (1, .int (nI z.1)), (0, .ref h0)]) hx hb d_Scan_nextVarint_6 rfl hl (by decide) rfl (fun ls hl => ?_)
  refine lv_iconst (v := nI 0) hx hb d_Scan_nextVarint_7 (by decide +kernel) ?_
  refine lv_istore (lv' := [(4, .int (nI 0)), (2, .long 0), (1, .int (nI z.1)), (0, .ref h0)]) hx hb d_Scan_nextVarint_8 hl (by decide) rfl (fun ls hl => ?_)
  have hlp10 : ∀ (n : Nat) (i : Nat) (v : Int64) (zc : SS), (i ≤ 10) → (zc.1 ≤ b.2) → (zc.2.1 < 1000000) → (p_nvl b z.1 (10 - i) i v zc = p_nv b z) → 10 - i < n → ∀ (H : Heap) (locs : List Loc), va_P D classes [(h0, .inr (2, [.ref bo, .int (nI zc.1), .int (nI zc.2.1), .int zc.2.2, .int (nI to), .long fi])), (bo, .inr (0, [.ref hw, .int (nI b.2)])), (hw, .inl (cJ, 2500, .inr (.inl b.1)))] H → va_D A [(h0, .inr (2, [.ref bo, .int (nI zc.1), .int (nI zc.2.1), .int zc.2.2, .int (nI to), .long fi])), (bo, .inr (0, [.ref hw, .int (nI b.2)])), (hw, .inl (cJ, 2500, .inr (.inl b.1)))] → va_S A s.heap H locs → ∀ (ls : Array Slot), lv_has ls 8 [(0, .ref h0), (1, .int (nI z.1)), (2, .long v), (4, .int (nI i))] → W p l e { frames := 4, cells := 0, slots := 0, locals := 90 } s m ([.ref h0] : List Value).toArray below meth c H locs 0 0 (MQ below (zQ D (zEq (some (.long ((p_nv b z).1))) [(h0, .inr (2, [.ref bo, .int (nI ((p_nv b z).2.1)), .int (nI ((p_nv b z).2.2.1)), .int ((p_nv b z).2.2.2), .int (nI to), .long fi])), (bo, .inr (0, [.ref hw, .int (nI b.2)])), (hw, .inl (cJ, 2500, .inr (.inl b.1)))]) A) ([.ref h0] : List Value).toArray s 0 0 A) (F0 m 10 ls []) := by
    intro n
    induction n with
    | zero => intro i v zc h1 hz2 hf2 hR hmu; exact absurd hmu (Nat.not_lt_zero _)
    | succ n ih =>
      intro i v zc h1 hz2 hf2 hR hmu H locs hP hD hS ls hl
      have hx8 := p_nbV_le (z := zc) hu
      have hz8 := p_nbS_le hz2
      have hf8 := p_nbS_f (b := b) hf2
      have ih10 := ih
      refine lv_iload hx hb d_Scan_nextVarint_10 (lv_at hl 3 rfl) ?_
      refine lv_bipush (v := nI 10) hx hb d_Scan_nextVarint_12 (by decide +kernel) ?_
      refine zn_ge (a := i) (b := 10) (by omega) (by omega) hx hb d_Scan_nextVarint_14 (tgt := 114) (by decide) (fun c_14 => ?_) (fun c_14 => ?_)
      · skip
        refine lv_aload_n hx hb d_Scan_nextVarint_114 rfl (lv_at hl 0 rfl) ?_
        refine lv_iconst (v := nI 2) hx hb d_Scan_nextVarint_115 (by decide +kernel) ?_
        refine lv_iload_n hx hb d_Scan_nextVarint_116 rfl (lv_at hl 1 rfl) ?_
        refine z_callEv (wr := [(bo, .inr (0, [.ref hw, .int (nI b.2)])), (hw, .inl (cJ, 2500, .inr (.inl b.1)))]) (w2 := [(h0, .inr (2, [.ref bo, .int (nI ((zc.1, 2, (nI z.1)).1)), .int (nI ((zc.1, 2, (nI z.1)).2.1)), .int ((zc.1, 2, (nI z.1)).2.2), .int (nI to), .long fi])), (bo, .inr (0, [.ref hw, .int (nI b.2)])), (hw, .inl (cJ, 2500, .inr (.inl b.1)))]) (z_runV (rest := []) hx hb hml hown hts hK hN (c_Scan_refuse l D cI cJ h0 bo zc to fi 2 (nI z.1) ) kk_Scan_57 (zP.cut hP [0] rfl) (hD.sub [0] (by decide) rfl) 0 rfl rfl rfl hl.1 rfl (Nat.le_of_ble_eq_true rfl) d_Scan_nextVarint_117 (by decide) (by decide)) hP hD hS hA [0] [1, 2] [2, 0, 1] rfl rfl (by decide) (by decide) (by decide) rfl (fun H locs hP hD hS => ?_)
        refine lv_lconst (v := 0) hx hb d_Scan_nextVarint_120 (by decide +kernel) ?_
        exact z_lret hx hb hr hlocks hS hP hD ⟨by rw [← hR]; first | (rw [show 10 - i = 0 by omega]; rfl) | (rw [show 10 - i = (10 - (i + 1)) + 1 by omega, p_nvl, if_pos c_27, if_pos (by omega)]), by rw [← hR]; first | (rw [show 10 - i = 0 by omega]; rfl) | (rw [show 10 - i = (10 - (i + 1)) + 1 by omega, p_nvl, if_pos c_27, if_pos (by omega)])⟩ d_Scan_nextVarint_121
      · skip
        refine lv_aload_n hx hb d_Scan_nextVarint_17 rfl (lv_at hl 0 rfl) ?_
        refine z_callEi (wr := []) (w2 := [(h0, .inr (2, [.ref bo, .int (nI ((p_nbS b zc).1)), .int (nI ((p_nbS b zc).2.1)), .int ((p_nbS b zc).2.2), .int (nI to), .long fi])), (bo, .inr (0, [.ref hw, .int (nI b.2)])), (hw, .inl (cJ, 2500, .inr (.inl b.1)))]) (z_runV (rest := []) hx hb hml hown hts hK hN (c_Scan_nextByte l D cI cJ h0 bo zc to fi hw b (by (try dsimp only); omega) (by (try dsimp only); omega)) kk_Scan_96 (zP.cut hP [0, 1, 2] rfl) (hD.sub [0, 1, 2] (by decide) rfl) 0 rfl rfl rfl hl.1 rfl (Nat.le_of_ble_eq_true rfl) d_Scan_nextVarint_18 (by decide) (by decide)) hP hD hS hA [0, 1, 2] [] [0, 1, 2] rfl rfl (by decide) (by decide) (by decide) rfl (fun H locs hP hD hS => ?_)
        refine lv_istore (lv' := [(5, .int (nI (p_nbV b zc))), (0, .ref h0), (1, .int (nI z.1)), (2, .long v), (4, .int (nI i))]) hx hb d_Scan_nextVarint_21 hl (by decide) rfl (fun ls hl => ?_)
        refine lv_aload_n hx hb d_Scan_nextVarint_23 rfl (lv_at hl 1 rfl) ?_
        refine z_callEi (wr := [(bo, .inr (0, [.ref hw, .int (nI b.2)])), (hw, .inl (cJ, 2500, .inr (.inl b.1)))]) (w2 := [(h0, .inr (2, [.ref bo, .int (nI (p_nbS b zc).1), .int (nI (p_nbS b zc).2.1), .int ((p_nbS b zc).2.2), .int (nI to), .long fi])), (bo, .inr (0, [.ref hw, .int (nI b.2)])), (hw, .inl (cJ, 2500, .inr (.inl b.1)))]) (z_runV (rest := []) hx hb hml hown hts hK hN (c_Scan_isFaultless l D cI cJ h0 bo (p_nbS b zc) to fi (by (try dsimp only); omega)) kk_Scan_44 (zP.cut hP [0] rfl) (hD.sub [0] (by decide) rfl) 0 rfl rfl rfl hl.1 rfl (Nat.le_of_ble_eq_true rfl) d_Scan_nextVarint_24 (by decide) (by decide)) hP hD hS hA [0] [1, 2] [2, 0, 1] rfl rfl (by decide) (by decide) (by decide) rfl (fun H locs hP hD hS => ?_)
        refine zb_ne (tgt := 32) hx hb d_Scan_nextVarint_27 (by decide) (fun c_27 => ?_) (fun c_27 => ?_)
        · skip
          have c_27 := of_decide_eq_true c_27
          refine lv_iload hx hb d_Scan_nextVarint_32 (lv_at hl 4 rfl) ?_
          refine lv_bipush (v := nI 9) hx hb d_Scan_nextVarint_34 (by decide +kernel) ?_
          refine zn_ne (a := i) (b := 9) (by omega) (by omega) hx hb d_Scan_nextVarint_36 (tgt := 49) (by decide) (fun c_36 => ?_) (fun c_36 => ?_)
          · skip
            refine lv_iconst (v := nI 0) hx hb d_Scan_nextVarint_49 (by decide +kernel) ?_
            refine lv_istore (lv' := [(6, .int (nI 0)), (5, .int (nI (p_nbV b zc))), (0, .ref h0), (1, .int (nI z.1)), (2, .long v), (4, .int (nI i))]) hx hb d_Scan_nextVarint_50 hl (by decide) rfl (fun ls hl => ?_)
            refine lv_iload hx hb d_Scan_nextVarint_52 (lv_at hl 5 rfl) ?_
            refine z0_le (a := i) (by omega) hx hb d_Scan_nextVarint_54 (tgt := 66) (by decide) (fun c_54 => ?_) (fun c_54 => ?_)
            · skip
              refine lv_iconst (v := nI 0) hx hb d_Scan_nextVarint_66 (by decide +kernel) ?_
              refine lv_istore (lv' := [(7, .int (nI 0)), (6, .int (nI 0)), (5, .int (nI (p_nbV b zc))), (0, .ref h0), (1, .int (nI z.1)), (2, .long v), (4, .int (nI i))]) hx hb d_Scan_nextVarint_67 hl (by decide) rfl (fun ls hl => ?_)
              refine lv_iload hx hb d_Scan_nextVarint_69 (lv_at hl 1 rfl) ?_
              refine z0_ne (a := 0) (by omega) hx hb d_Scan_nextVarint_71 (tgt := 114) (by decide) (fun z => absurd z (by decide)) (fun _ => ?_)
              refine lv_iload hx hb d_Scan_nextVarint_74 (lv_at hl 0 rfl) ?_
              refine z0_eq (a := 0) (by omega) hx hb d_Scan_nextVarint_76 (tgt := 82) (by decide) (fun _ => ?_) (fun z => absurd z (by decide))
              refine lv_lload_n hx hb d_Scan_nextVarint_82 rfl (lv_at hl 5 rfl) ?_
              refine lv_iload hx hb d_Scan_nextVarint_83 (lv_at hl 2 rfl) ?_
              refine lv_i2l (v := (nI (p_nbV b zc)).toInt64) hx hb d_Scan_nextVarint_85 rfl ?_
              refine lv_ldc2 (v := (127)) hx hb hown (kc_Scan_107 hts) d_Scan_nextVarint_86 ?_
              refine lv_land hx hb d_Scan_nextVarint_89 ?_
              refine lv_bipush (v := nI 7) hx hb d_Scan_nextVarint_90 (by decide +kernel) ?_
              refine lv_iload hx hb d_Scan_nextVarint_92 (lv_at hl 6 rfl) ?_
              refine lv_imul hx hb d_Scan_nextVarint_94 (z_i (pk_mul 7 i) ?_)
              refine lv_lshl (v := zshl (((nI (p_nbV b zc)).toInt64) &&& (127)) (nI (7 * i))) hx hb d_Scan_nextVarint_95 rfl ?_
              refine lv_lor hx hb d_Scan_nextVarint_96 ?_
              refine lv_lstore_n (lv' := [(2, .long (v ||| (zshl (((nI (p_nbV b zc)).toInt64) &&& (127)) (nI (7 * i))))), (7, .int (nI 0)), (6, .int (nI 0)), (5, .int (nI (p_nbV b zc))), (0, .ref h0), (1, .int (nI z.1)), (4, .int (nI i))]) hx hb d_Scan_nextVarint_97 rfl hl (by decide) rfl (fun ls hl => ?_)
              refine lv_iload hx hb d_Scan_nextVarint_98 (lv_at hl 3 rfl) ?_
              refine lv_sipush (v := nI 128) hx hb d_Scan_nextVarint_100 (by decide +kernel) ?_
              refine zn_ge (a := p_nbV b zc) (b := 128) (by omega) (by omega) hx hb d_Scan_nextVarint_103 (tgt := 108) (by decide) (fun c_103 => ?_) (fun c_103 => ?_)
              · skip
                refine lv_iinc (v := nI (i + 1)) (lv' := [(4, .int (nI (i + 1))), (2, .long (v ||| (zshl (((nI (p_nbV b zc)).toInt64) &&& (127)) (nI (7 * i))))), (7, .int (nI 0)), (6, .int (nI 0)), (5, .int (nI (p_nbV b zc))), (0, .ref h0), (1, .int (nI z.1))]) hx hb d_Scan_nextVarint_108 hl (k := 6) rfl (zinc i 1) (by decide) rfl (fun ls hl => ?_)
                refine lv_goto (tgt := 10) hx hb d_Scan_nextVarint_111 (by decide) ?_
                exact ih10 (i + 1) (v ||| zshl ((nI (p_nbV b zc)).toInt64 &&& 127) (nI (7 * i))) (p_nbS b zc) (by omega) hz8 hf8 (by rw [show 10 - i = (10 - (i + 1)) + 1 by omega, p_nvl, if_pos c_27, if_neg (by omega), if_neg (by omega)] at hR; exact hR) (by omega) _ _ hP hD hS ls (lv_sub hl [5, 6, 1, 0] rfl)
              · skip
                refine lv_lload_n hx hb d_Scan_nextVarint_106 rfl (lv_at hl 0 rfl) ?_
                exact z_lret hx hb hr hlocks hS hP hD ⟨by rw [← hR, show 10 - i = (10 - (i + 1)) + 1 by omega, p_nvl, if_pos c_27, if_neg (by omega), if_pos (by omega)], by rw [← hR, show 10 - i = (10 - (i + 1)) + 1 by omega, p_nvl, if_pos c_27, if_neg (by omega), if_pos (by omega)]⟩ d_Scan_nextVarint_107
            · skip
              refine lv_iload hx hb d_Scan_nextVarint_57 (lv_at hl 1 rfl) ?_
              refine z0_ne (a := p_nbV b zc) (by omega) hx hb d_Scan_nextVarint_59 (tgt := 66) (by decide) (fun c_59 => ?_) (fun c_59 => ?_)
              · skip
                refine lv_iconst (v := nI 0) hx hb d_Scan_nextVarint_66 (by decide +kernel) ?_
                refine lv_istore (lv' := [(7, .int (nI 0)), (6, .int (nI 0)), (5, .int (nI (p_nbV b zc))), (0, .ref h0), (1, .int (nI z.1)), (2, .long v), (4, .int (nI i))]) hx hb d_Scan_nextVarint_67 hl (by decide) rfl (fun ls hl => ?_)
                refine lv_iload hx hb d_Scan_nextVarint_69 (lv_at hl 1 rfl) ?_
                refine z0_ne (a := 0) (by omega) hx hb d_Scan_nextVarint_71 (tgt := 114) (by decide) (fun z => absurd z (by decide)) (fun _ => ?_)
                refine lv_iload hx hb d_Scan_nextVarint_74 (lv_at hl 0 rfl) ?_
                refine z0_eq (a := 0) (by omega) hx hb d_Scan_nextVarint_76 (tgt := 82) (by decide) (fun _ => ?_) (fun z => absurd z (by decide))
                refine lv_lload_n hx hb d_Scan_nextVarint_82 rfl (lv_at hl 5 rfl) ?_
                refine lv_iload hx hb d_Scan_nextVarint_83 (lv_at hl 2 rfl) ?_
                refine lv_i2l (v := (nI (p_nbV b zc)).toInt64) hx hb d_Scan_nextVarint_85 rfl ?_
                refine lv_ldc2 (v := (127)) hx hb hown (kc_Scan_107 hts) d_Scan_nextVarint_86 ?_
                refine lv_land hx hb d_Scan_nextVarint_89 ?_
                refine lv_bipush (v := nI 7) hx hb d_Scan_nextVarint_90 (by decide +kernel) ?_
                refine lv_iload hx hb d_Scan_nextVarint_92 (lv_at hl 6 rfl) ?_
                refine lv_imul hx hb d_Scan_nextVarint_94 (z_i (pk_mul 7 i) ?_)
                refine lv_lshl (v := zshl (((nI (p_nbV b zc)).toInt64) &&& (127)) (nI (7 * i))) hx hb d_Scan_nextVarint_95 rfl ?_
                refine lv_lor hx hb d_Scan_nextVarint_96 ?_
                refine lv_lstore_n (lv' := [(2, .long (v ||| (zshl (((nI (p_nbV b zc)).toInt64) &&& (127)) (nI (7 * i))))), (7, .int (nI 0)), (6, .int (nI 0)), (5, .int (nI (p_nbV b zc))), (0, .ref h0), (1, .int (nI z.1)), (4, .int (nI i))]) hx hb d_Scan_nextVarint_97 rfl hl (by decide) rfl (fun ls hl => ?_)
                refine lv_iload hx hb d_Scan_nextVarint_98 (lv_at hl 3 rfl) ?_
                refine lv_sipush (v := nI 128) hx hb d_Scan_nextVarint_100 (by decide +kernel) ?_
                refine zn_ge (a := p_nbV b zc) (b := 128) (by omega) (by omega) hx hb d_Scan_nextVarint_103 (tgt := 108) (by decide) (fun c_103 => ?_) (fun c_103 => ?_)
                · skip
                  refine lv_iinc (v := nI (i + 1)) (lv' := [(4, .int (nI (i + 1))), (2, .long (v ||| (zshl (((nI (p_nbV b zc)).toInt64) &&& (127)) (nI (7 * i))))), (7, .int (nI 0)), (6, .int (nI 0)), (5, .int (nI (p_nbV b zc))), (0, .ref h0), (1, .int (nI z.1))]) hx hb d_Scan_nextVarint_108 hl (k := 6) rfl (zinc i 1) (by decide) rfl (fun ls hl => ?_)
                  refine lv_goto (tgt := 10) hx hb d_Scan_nextVarint_111 (by decide) ?_
                  exact ih10 (i + 1) (v ||| zshl ((nI (p_nbV b zc)).toInt64 &&& 127) (nI (7 * i))) (p_nbS b zc) (by omega) hz8 hf8 (by rw [show 10 - i = (10 - (i + 1)) + 1 by omega, p_nvl, if_pos c_27, if_neg (by omega), if_neg (by omega)] at hR; exact hR) (by omega) _ _ hP hD hS ls (lv_sub hl [5, 6, 1, 0] rfl)
                · skip
                  refine lv_lload_n hx hb d_Scan_nextVarint_106 rfl (lv_at hl 0 rfl) ?_
                  exact z_lret hx hb hr hlocks hS hP hD ⟨by rw [← hR, show 10 - i = (10 - (i + 1)) + 1 by omega, p_nvl, if_pos c_27, if_neg (by omega), if_pos (by omega)], by rw [← hR, show 10 - i = (10 - (i + 1)) + 1 by omega, p_nvl, if_pos c_27, if_neg (by omega), if_pos (by omega)]⟩ d_Scan_nextVarint_107
              · skip
                refine lv_iconst (v := nI 1) hx hb d_Scan_nextVarint_62 (by decide +kernel) ?_
                refine lv_goto (tgt := 67) hx hb d_Scan_nextVarint_63 (by decide) ?_
                refine lv_istore (lv' := [(7, .int (nI 1)), (6, .int (nI 0)), (5, .int (nI (p_nbV b zc))), (0, .ref h0), (1, .int (nI z.1)), (2, .long v), (4, .int (nI i))]) hx hb d_Scan_nextVarint_67 hl (by decide) rfl (fun ls hl => ?_)
                refine lv_iload hx hb d_Scan_nextVarint_69 (lv_at hl 1 rfl) ?_
                refine z0_ne (a := 0) (by omega) hx hb d_Scan_nextVarint_71 (tgt := 114) (by decide) (fun z => absurd z (by decide)) (fun _ => ?_)
                refine lv_iload hx hb d_Scan_nextVarint_74 (lv_at hl 0 rfl) ?_
                refine z0_eq (a := 1) (by omega) hx hb d_Scan_nextVarint_76 (tgt := 82) (by decide) (fun z => absurd z (by decide)) (fun _ => ?_)
                refine lv_goto (tgt := 114) hx hb d_Scan_nextVarint_79 (by decide) ?_
                refine lv_aload_n hx hb d_Scan_nextVarint_114 rfl (lv_at hl 3 rfl) ?_
                refine lv_iconst (v := nI 2) hx hb d_Scan_nextVarint_115 (by decide +kernel) ?_
                refine lv_iload_n hx hb d_Scan_nextVarint_116 rfl (lv_at hl 4 rfl) ?_
                refine z_callEv (wr := [(bo, .inr (0, [.ref hw, .int (nI b.2)])), (hw, .inl (cJ, 2500, .inr (.inl b.1)))]) (w2 := [(h0, .inr (2, [.ref bo, .int (nI (((p_nbS b zc).1, 2, (nI z.1)).1)), .int (nI (((p_nbS b zc).1, 2, (nI z.1)).2.1)), .int (((p_nbS b zc).1, 2, (nI z.1)).2.2), .int (nI to), .long fi])), (bo, .inr (0, [.ref hw, .int (nI b.2)])), (hw, .inl (cJ, 2500, .inr (.inl b.1)))]) (z_runV (rest := []) hx hb hml hown hts hK hN (c_Scan_refuse l D cI cJ h0 bo (p_nbS b zc) to fi 2 (nI z.1) ) kk_Scan_57 (zP.cut hP [0] rfl) (hD.sub [0] (by decide) rfl) 0 rfl rfl rfl hl.1 rfl (Nat.le_of_ble_eq_true rfl) d_Scan_nextVarint_117 (by decide) (by decide)) hP hD hS hA [0] [1, 2] [2, 0, 1] rfl rfl (by decide) (by decide) (by decide) rfl (fun H locs hP hD hS => ?_)
                refine lv_lconst (v := 0) hx hb d_Scan_nextVarint_120 (by decide +kernel) ?_
                exact z_lret hx hb hr hlocks hS hP hD ⟨by rw [← hR]; first | (rw [show 10 - i = 0 by omega]; rfl) | (rw [show 10 - i = (10 - (i + 1)) + 1 by omega, p_nvl, if_pos c_27, if_pos (by omega)]), by rw [← hR]; first | (rw [show 10 - i = 0 by omega]; rfl) | (rw [show 10 - i = (10 - (i + 1)) + 1 by omega, p_nvl, if_pos c_27, if_pos (by omega)])⟩ d_Scan_nextVarint_121
          · skip
            refine lv_iload hx hb d_Scan_nextVarint_39 (lv_at hl 0 rfl) ?_
            refine lv_iconst (v := nI 1) hx hb d_Scan_nextVarint_41 (by decide +kernel) ?_
            refine zn_le (a := p_nbV b zc) (b := 1) (by omega) (by omega) hx hb d_Scan_nextVarint_42 (tgt := 49) (by decide) (fun c_42 => ?_) (fun c_42 => ?_)
            · skip
              refine lv_iconst (v := nI 0) hx hb d_Scan_nextVarint_49 (by decide +kernel) ?_
              refine lv_istore (lv' := [(6, .int (nI 0)), (5, .int (nI (p_nbV b zc))), (0, .ref h0), (1, .int (nI z.1)), (2, .long v), (4, .int (nI i))]) hx hb d_Scan_nextVarint_50 hl (by decide) rfl (fun ls hl => ?_)
              refine lv_iload hx hb d_Scan_nextVarint_52 (lv_at hl 5 rfl) ?_
              refine z0_le (a := i) (by omega) hx hb d_Scan_nextVarint_54 (tgt := 66) (by decide) (fun c_54 => ?_) (fun c_54 => ?_)
              · skip
                refine lv_iconst (v := nI 0) hx hb d_Scan_nextVarint_66 (by decide +kernel) ?_
                refine lv_istore (lv' := [(7, .int (nI 0)), (6, .int (nI 0)), (5, .int (nI (p_nbV b zc))), (0, .ref h0), (1, .int (nI z.1)), (2, .long v), (4, .int (nI i))]) hx hb d_Scan_nextVarint_67 hl (by decide) rfl (fun ls hl => ?_)
                refine lv_iload hx hb d_Scan_nextVarint_69 (lv_at hl 1 rfl) ?_
                refine z0_ne (a := 0) (by omega) hx hb d_Scan_nextVarint_71 (tgt := 114) (by decide) (fun z => absurd z (by decide)) (fun _ => ?_)
                refine lv_iload hx hb d_Scan_nextVarint_74 (lv_at hl 0 rfl) ?_
                refine z0_eq (a := 0) (by omega) hx hb d_Scan_nextVarint_76 (tgt := 82) (by decide) (fun _ => ?_) (fun z => absurd z (by decide))
                refine lv_lload_n hx hb d_Scan_nextVarint_82 rfl (lv_at hl 5 rfl) ?_
                refine lv_iload hx hb d_Scan_nextVarint_83 (lv_at hl 2 rfl) ?_
                refine lv_i2l (v := (nI (p_nbV b zc)).toInt64) hx hb d_Scan_nextVarint_85 rfl ?_
                refine lv_ldc2 (v := (127)) hx hb hown (kc_Scan_107 hts) d_Scan_nextVarint_86 ?_
                refine lv_land hx hb d_Scan_nextVarint_89 ?_
                refine lv_bipush (v := nI 7) hx hb d_Scan_nextVarint_90 (by decide +kernel) ?_
                refine lv_iload hx hb d_Scan_nextVarint_92 (lv_at hl 6 rfl) ?_
                refine lv_imul hx hb d_Scan_nextVarint_94 (z_i (pk_mul 7 i) ?_)
                refine lv_lshl (v := zshl (((nI (p_nbV b zc)).toInt64) &&& (127)) (nI (7 * i))) hx hb d_Scan_nextVarint_95 rfl ?_
                refine lv_lor hx hb d_Scan_nextVarint_96 ?_
                refine lv_lstore_n (lv' := [(2, .long (v ||| (zshl (((nI (p_nbV b zc)).toInt64) &&& (127)) (nI (7 * i))))), (7, .int (nI 0)), (6, .int (nI 0)), (5, .int (nI (p_nbV b zc))), (0, .ref h0), (1, .int (nI z.1)), (4, .int (nI i))]) hx hb d_Scan_nextVarint_97 rfl hl (by decide) rfl (fun ls hl => ?_)
                refine lv_iload hx hb d_Scan_nextVarint_98 (lv_at hl 3 rfl) ?_
                refine lv_sipush (v := nI 128) hx hb d_Scan_nextVarint_100 (by decide +kernel) ?_
                refine zn_ge (a := p_nbV b zc) (b := 128) (by omega) (by omega) hx hb d_Scan_nextVarint_103 (tgt := 108) (by decide) (fun c_103 => ?_) (fun c_103 => ?_)
                · skip
                  refine lv_iinc (v := nI (i + 1)) (lv' := [(4, .int (nI (i + 1))), (2, .long (v ||| (zshl (((nI (p_nbV b zc)).toInt64) &&& (127)) (nI (7 * i))))), (7, .int (nI 0)), (6, .int (nI 0)), (5, .int (nI (p_nbV b zc))), (0, .ref h0), (1, .int (nI z.1))]) hx hb d_Scan_nextVarint_108 hl (k := 6) rfl (zinc i 1) (by decide) rfl (fun ls hl => ?_)
                  refine lv_goto (tgt := 10) hx hb d_Scan_nextVarint_111 (by decide) ?_
                  exact ih10 (i + 1) (v ||| zshl ((nI (p_nbV b zc)).toInt64 &&& 127) (nI (7 * i))) (p_nbS b zc) (by omega) hz8 hf8 (by rw [show 10 - i = (10 - (i + 1)) + 1 by omega, p_nvl, if_pos c_27, if_neg (by omega), if_neg (by omega)] at hR; exact hR) (by omega) _ _ hP hD hS ls (lv_sub hl [5, 6, 1, 0] rfl)
                · skip
                  refine lv_lload_n hx hb d_Scan_nextVarint_106 rfl (lv_at hl 0 rfl) ?_
                  exact z_lret hx hb hr hlocks hS hP hD ⟨by rw [← hR, show 10 - i = (10 - (i + 1)) + 1 by omega, p_nvl, if_pos c_27, if_neg (by omega), if_pos (by omega)], by rw [← hR, show 10 - i = (10 - (i + 1)) + 1 by omega, p_nvl, if_pos c_27, if_neg (by omega), if_pos (by omega)]⟩ d_Scan_nextVarint_107
              · skip
                refine lv_iload hx hb d_Scan_nextVarint_57 (lv_at hl 1 rfl) ?_
                refine z0_ne (a := p_nbV b zc) (by omega) hx hb d_Scan_nextVarint_59 (tgt := 66) (by decide) (fun c_59 => ?_) (fun c_59 => ?_)
                · skip
                  refine lv_iconst (v := nI 0) hx hb d_Scan_nextVarint_66 (by decide +kernel) ?_
                  refine lv_istore (lv' := [(7, .int (nI 0)), (6, .int (nI 0)), (5, .int (nI (p_nbV b zc))), (0, .ref h0), (1, .int (nI z.1)), (2, .long v), (4, .int (nI i))]) hx hb d_Scan_nextVarint_67 hl (by decide) rfl (fun ls hl => ?_)
                  refine lv_iload hx hb d_Scan_nextVarint_69 (lv_at hl 1 rfl) ?_
                  refine z0_ne (a := 0) (by omega) hx hb d_Scan_nextVarint_71 (tgt := 114) (by decide) (fun z => absurd z (by decide)) (fun _ => ?_)
                  refine lv_iload hx hb d_Scan_nextVarint_74 (lv_at hl 0 rfl) ?_
                  refine z0_eq (a := 0) (by omega) hx hb d_Scan_nextVarint_76 (tgt := 82) (by decide) (fun _ => ?_) (fun z => absurd z (by decide))
                  refine lv_lload_n hx hb d_Scan_nextVarint_82 rfl (lv_at hl 5 rfl) ?_
                  refine lv_iload hx hb d_Scan_nextVarint_83 (lv_at hl 2 rfl) ?_
                  refine lv_i2l (v := (nI (p_nbV b zc)).toInt64) hx hb d_Scan_nextVarint_85 rfl ?_
                  refine lv_ldc2 (v := (127)) hx hb hown (kc_Scan_107 hts) d_Scan_nextVarint_86 ?_
                  refine lv_land hx hb d_Scan_nextVarint_89 ?_
                  refine lv_bipush (v := nI 7) hx hb d_Scan_nextVarint_90 (by decide +kernel) ?_
                  refine lv_iload hx hb d_Scan_nextVarint_92 (lv_at hl 6 rfl) ?_
                  refine lv_imul hx hb d_Scan_nextVarint_94 (z_i (pk_mul 7 i) ?_)
                  refine lv_lshl (v := zshl (((nI (p_nbV b zc)).toInt64) &&& (127)) (nI (7 * i))) hx hb d_Scan_nextVarint_95 rfl ?_
                  refine lv_lor hx hb d_Scan_nextVarint_96 ?_
                  refine lv_lstore_n (lv' := [(2, .long (v ||| (zshl (((nI (p_nbV b zc)).toInt64) &&& (127)) (nI (7 * i))))), (7, .int (nI 0)), (6, .int (nI 0)), (5, .int (nI (p_nbV b zc))), (0, .ref h0), (1, .int (nI z.1)), (4, .int (nI i))]) hx hb d_Scan_nextVarint_97 rfl hl (by decide) rfl (fun ls hl => ?_)
                  refine lv_iload hx hb d_Scan_nextVarint_98 (lv_at hl 3 rfl) ?_
                  refine lv_sipush (v := nI 128) hx hb d_Scan_nextVarint_100 (by decide +kernel) ?_
                  refine zn_ge (a := p_nbV b zc) (b := 128) (by omega) (by omega) hx hb d_Scan_nextVarint_103 (tgt := 108) (by decide) (fun c_103 => ?_) (fun c_103 => ?_)
                  · skip
                    refine lv_iinc (v := nI (i + 1)) (lv' := [(4, .int (nI (i + 1))), (2, .long (v ||| (zshl (((nI (p_nbV b zc)).toInt64) &&& (127)) (nI (7 * i))))), (7, .int (nI 0)), (6, .int (nI 0)), (5, .int (nI (p_nbV b zc))), (0, .ref h0), (1, .int (nI z.1))]) hx hb d_Scan_nextVarint_108 hl (k := 6) rfl (zinc i 1) (by decide) rfl (fun ls hl => ?_)
                    refine lv_goto (tgt := 10) hx hb d_Scan_nextVarint_111 (by decide) ?_
                    exact ih10 (i + 1) (v ||| zshl ((nI (p_nbV b zc)).toInt64 &&& 127) (nI (7 * i))) (p_nbS b zc) (by omega) hz8 hf8 (by rw [show 10 - i = (10 - (i + 1)) + 1 by omega, p_nvl, if_pos c_27, if_neg (by omega), if_neg (by omega)] at hR; exact hR) (by omega) _ _ hP hD hS ls (lv_sub hl [5, 6, 1, 0] rfl)
                  · skip
                    refine lv_lload_n hx hb d_Scan_nextVarint_106 rfl (lv_at hl 0 rfl) ?_
                    exact z_lret hx hb hr hlocks hS hP hD ⟨by rw [← hR, show 10 - i = (10 - (i + 1)) + 1 by omega, p_nvl, if_pos c_27, if_neg (by omega), if_pos (by omega)], by rw [← hR, show 10 - i = (10 - (i + 1)) + 1 by omega, p_nvl, if_pos c_27, if_neg (by omega), if_pos (by omega)]⟩ d_Scan_nextVarint_107
                · skip
                  refine lv_iconst (v := nI 1) hx hb d_Scan_nextVarint_62 (by decide +kernel) ?_
                  refine lv_goto (tgt := 67) hx hb d_Scan_nextVarint_63 (by decide) ?_
                  refine lv_istore (lv' := [(7, .int (nI 1)), (6, .int (nI 0)), (5, .int (nI (p_nbV b zc))), (0, .ref h0), (1, .int (nI z.1)), (2, .long v), (4, .int (nI i))]) hx hb d_Scan_nextVarint_67 hl (by decide) rfl (fun ls hl => ?_)
                  refine lv_iload hx hb d_Scan_nextVarint_69 (lv_at hl 1 rfl) ?_
                  refine z0_ne (a := 0) (by omega) hx hb d_Scan_nextVarint_71 (tgt := 114) (by decide) (fun z => absurd z (by decide)) (fun _ => ?_)
                  refine lv_iload hx hb d_Scan_nextVarint_74 (lv_at hl 0 rfl) ?_
                  refine z0_eq (a := 1) (by omega) hx hb d_Scan_nextVarint_76 (tgt := 82) (by decide) (fun z => absurd z (by decide)) (fun _ => ?_)
                  refine lv_goto (tgt := 114) hx hb d_Scan_nextVarint_79 (by decide) ?_
                  refine lv_aload_n hx hb d_Scan_nextVarint_114 rfl (lv_at hl 3 rfl) ?_
                  refine lv_iconst (v := nI 2) hx hb d_Scan_nextVarint_115 (by decide +kernel) ?_
                  refine lv_iload_n hx hb d_Scan_nextVarint_116 rfl (lv_at hl 4 rfl) ?_
                  refine z_callEv (wr := [(bo, .inr (0, [.ref hw, .int (nI b.2)])), (hw, .inl (cJ, 2500, .inr (.inl b.1)))]) (w2 := [(h0, .inr (2, [.ref bo, .int (nI (((p_nbS b zc).1, 2, (nI z.1)).1)), .int (nI (((p_nbS b zc).1, 2, (nI z.1)).2.1)), .int (((p_nbS b zc).1, 2, (nI z.1)).2.2), .int (nI to), .long fi])), (bo, .inr (0, [.ref hw, .int (nI b.2)])), (hw, .inl (cJ, 2500, .inr (.inl b.1)))]) (z_runV (rest := []) hx hb hml hown hts hK hN (c_Scan_refuse l D cI cJ h0 bo (p_nbS b zc) to fi 2 (nI z.1) ) kk_Scan_57 (zP.cut hP [0] rfl) (hD.sub [0] (by decide) rfl) 0 rfl rfl rfl hl.1 rfl (Nat.le_of_ble_eq_true rfl) d_Scan_nextVarint_117 (by decide) (by decide)) hP hD hS hA [0] [1, 2] [2, 0, 1] rfl rfl (by decide) (by decide) (by decide) rfl (fun H locs hP hD hS => ?_)
                  refine lv_lconst (v := 0) hx hb d_Scan_nextVarint_120 (by decide +kernel) ?_
                  exact z_lret hx hb hr hlocks hS hP hD ⟨by rw [← hR]; first | (rw [show 10 - i = 0 by omega]; rfl) | (rw [show 10 - i = (10 - (i + 1)) + 1 by omega, p_nvl, if_pos c_27, if_pos (by omega)]), by rw [← hR]; first | (rw [show 10 - i = 0 by omega]; rfl) | (rw [show 10 - i = (10 - (i + 1)) + 1 by omega, p_nvl, if_pos c_27, if_pos (by omega)])⟩ d_Scan_nextVarint_121
            · skip
              refine lv_iconst (v := nI 1) hx hb d_Scan_nextVarint_45 (by decide +kernel) ?_
              refine lv_goto (tgt := 50) hx hb d_Scan_nextVarint_46 (by decide) ?_
              refine lv_istore (lv' := [(6, .int (nI 1)), (5, .int (nI (p_nbV b zc))), (0, .ref h0), (1, .int (nI z.1)), (2, .long v), (4, .int (nI i))]) hx hb d_Scan_nextVarint_50 hl (by decide) rfl (fun ls hl => ?_)
              refine lv_iload hx hb d_Scan_nextVarint_52 (lv_at hl 5 rfl) ?_
              refine z0_le (a := i) (by omega) hx hb d_Scan_nextVarint_54 (tgt := 66) (by decide) (fun c_54 => ?_) (fun c_54 => ?_)
              · skip
                refine lv_iconst (v := nI 0) hx hb d_Scan_nextVarint_66 (by decide +kernel) ?_
                refine lv_istore (lv' := [(7, .int (nI 0)), (6, .int (nI 1)), (5, .int (nI (p_nbV b zc))), (0, .ref h0), (1, .int (nI z.1)), (2, .long v), (4, .int (nI i))]) hx hb d_Scan_nextVarint_67 hl (by decide) rfl (fun ls hl => ?_)
                refine lv_iload hx hb d_Scan_nextVarint_69 (lv_at hl 1 rfl) ?_
                refine z0_ne (a := 1) (by omega) hx hb d_Scan_nextVarint_71 (tgt := 114) (by decide) (fun _ => ?_) (fun z => absurd z (by decide))
                refine lv_aload_n hx hb d_Scan_nextVarint_114 rfl (lv_at hl 3 rfl) ?_
                refine lv_iconst (v := nI 2) hx hb d_Scan_nextVarint_115 (by decide +kernel) ?_
                refine lv_iload_n hx hb d_Scan_nextVarint_116 rfl (lv_at hl 4 rfl) ?_
                refine z_callEv (wr := [(bo, .inr (0, [.ref hw, .int (nI b.2)])), (hw, .inl (cJ, 2500, .inr (.inl b.1)))]) (w2 := [(h0, .inr (2, [.ref bo, .int (nI (((p_nbS b zc).1, 2, (nI z.1)).1)), .int (nI (((p_nbS b zc).1, 2, (nI z.1)).2.1)), .int (((p_nbS b zc).1, 2, (nI z.1)).2.2), .int (nI to), .long fi])), (bo, .inr (0, [.ref hw, .int (nI b.2)])), (hw, .inl (cJ, 2500, .inr (.inl b.1)))]) (z_runV (rest := []) hx hb hml hown hts hK hN (c_Scan_refuse l D cI cJ h0 bo (p_nbS b zc) to fi 2 (nI z.1) ) kk_Scan_57 (zP.cut hP [0] rfl) (hD.sub [0] (by decide) rfl) 0 rfl rfl rfl hl.1 rfl (Nat.le_of_ble_eq_true rfl) d_Scan_nextVarint_117 (by decide) (by decide)) hP hD hS hA [0] [1, 2] [2, 0, 1] rfl rfl (by decide) (by decide) (by decide) rfl (fun H locs hP hD hS => ?_)
                refine lv_lconst (v := 0) hx hb d_Scan_nextVarint_120 (by decide +kernel) ?_
                exact z_lret hx hb hr hlocks hS hP hD ⟨by rw [← hR]; first | (rw [show 10 - i = 0 by omega]; rfl) | (rw [show 10 - i = (10 - (i + 1)) + 1 by omega, p_nvl, if_pos c_27, if_pos (by omega)]), by rw [← hR]; first | (rw [show 10 - i = 0 by omega]; rfl) | (rw [show 10 - i = (10 - (i + 1)) + 1 by omega, p_nvl, if_pos c_27, if_pos (by omega)])⟩ d_Scan_nextVarint_121
              · skip
                refine lv_iload hx hb d_Scan_nextVarint_57 (lv_at hl 1 rfl) ?_
                refine z0_ne (a := p_nbV b zc) (by omega) hx hb d_Scan_nextVarint_59 (tgt := 66) (by decide) (fun c_59 => ?_) (fun c_59 => ?_)
                · skip
                  refine lv_iconst (v := nI 0) hx hb d_Scan_nextVarint_66 (by decide +kernel) ?_
                  refine lv_istore (lv' := [(7, .int (nI 0)), (6, .int (nI 1)), (5, .int (nI (p_nbV b zc))), (0, .ref h0), (1, .int (nI z.1)), (2, .long v), (4, .int (nI i))]) hx hb d_Scan_nextVarint_67 hl (by decide) rfl (fun ls hl => ?_)
                  refine lv_iload hx hb d_Scan_nextVarint_69 (lv_at hl 1 rfl) ?_
                  refine z0_ne (a := 1) (by omega) hx hb d_Scan_nextVarint_71 (tgt := 114) (by decide) (fun _ => ?_) (fun z => absurd z (by decide))
                  refine lv_aload_n hx hb d_Scan_nextVarint_114 rfl (lv_at hl 3 rfl) ?_
                  refine lv_iconst (v := nI 2) hx hb d_Scan_nextVarint_115 (by decide +kernel) ?_
                  refine lv_iload_n hx hb d_Scan_nextVarint_116 rfl (lv_at hl 4 rfl) ?_
                  refine z_callEv (wr := [(bo, .inr (0, [.ref hw, .int (nI b.2)])), (hw, .inl (cJ, 2500, .inr (.inl b.1)))]) (w2 := [(h0, .inr (2, [.ref bo, .int (nI (((p_nbS b zc).1, 2, (nI z.1)).1)), .int (nI (((p_nbS b zc).1, 2, (nI z.1)).2.1)), .int (((p_nbS b zc).1, 2, (nI z.1)).2.2), .int (nI to), .long fi])), (bo, .inr (0, [.ref hw, .int (nI b.2)])), (hw, .inl (cJ, 2500, .inr (.inl b.1)))]) (z_runV (rest := []) hx hb hml hown hts hK hN (c_Scan_refuse l D cI cJ h0 bo (p_nbS b zc) to fi 2 (nI z.1) ) kk_Scan_57 (zP.cut hP [0] rfl) (hD.sub [0] (by decide) rfl) 0 rfl rfl rfl hl.1 rfl (Nat.le_of_ble_eq_true rfl) d_Scan_nextVarint_117 (by decide) (by decide)) hP hD hS hA [0] [1, 2] [2, 0, 1] rfl rfl (by decide) (by decide) (by decide) rfl (fun H locs hP hD hS => ?_)
                  refine lv_lconst (v := 0) hx hb d_Scan_nextVarint_120 (by decide +kernel) ?_
                  exact z_lret hx hb hr hlocks hS hP hD ⟨by rw [← hR]; first | (rw [show 10 - i = 0 by omega]; rfl) | (rw [show 10 - i = (10 - (i + 1)) + 1 by omega, p_nvl, if_pos c_27, if_pos (by omega)]), by rw [← hR]; first | (rw [show 10 - i = 0 by omega]; rfl) | (rw [show 10 - i = (10 - (i + 1)) + 1 by omega, p_nvl, if_pos c_27, if_pos (by omega)])⟩ d_Scan_nextVarint_121
                · skip
                  refine lv_iconst (v := nI 1) hx hb d_Scan_nextVarint_62 (by decide +kernel) ?_
                  refine lv_goto (tgt := 67) hx hb d_Scan_nextVarint_63 (by decide) ?_
                  refine lv_istore (lv' := [(7, .int (nI 1)), (6, .int (nI 1)), (5, .int (nI (p_nbV b zc))), (0, .ref h0), (1, .int (nI z.1)), (2, .long v), (4, .int (nI i))]) hx hb d_Scan_nextVarint_67 hl (by decide) rfl (fun ls hl => ?_)
                  refine lv_iload hx hb d_Scan_nextVarint_69 (lv_at hl 1 rfl) ?_
                  refine z0_ne (a := 1) (by omega) hx hb d_Scan_nextVarint_71 (tgt := 114) (by decide) (fun _ => ?_) (fun z => absurd z (by decide))
                  refine lv_aload_n hx hb d_Scan_nextVarint_114 rfl (lv_at hl 3 rfl) ?_
                  refine lv_iconst (v := nI 2) hx hb d_Scan_nextVarint_115 (by decide +kernel) ?_
                  refine lv_iload_n hx hb d_Scan_nextVarint_116 rfl (lv_at hl 4 rfl) ?_
                  refine z_callEv (wr := [(bo, .inr (0, [.ref hw, .int (nI b.2)])), (hw, .inl (cJ, 2500, .inr (.inl b.1)))]) (w2 := [(h0, .inr (2, [.ref bo, .int (nI (((p_nbS b zc).1, 2, (nI z.1)).1)), .int (nI (((p_nbS b zc).1, 2, (nI z.1)).2.1)), .int (((p_nbS b zc).1, 2, (nI z.1)).2.2), .int (nI to), .long fi])), (bo, .inr (0, [.ref hw, .int (nI b.2)])), (hw, .inl (cJ, 2500, .inr (.inl b.1)))]) (z_runV (rest := []) hx hb hml hown hts hK hN (c_Scan_refuse l D cI cJ h0 bo (p_nbS b zc) to fi 2 (nI z.1) ) kk_Scan_57 (zP.cut hP [0] rfl) (hD.sub [0] (by decide) rfl) 0 rfl rfl rfl hl.1 rfl (Nat.le_of_ble_eq_true rfl) d_Scan_nextVarint_117 (by decide) (by decide)) hP hD hS hA [0] [1, 2] [2, 0, 1] rfl rfl (by decide) (by decide) (by decide) rfl (fun H locs hP hD hS => ?_)
                  refine lv_lconst (v := 0) hx hb d_Scan_nextVarint_120 (by decide +kernel) ?_
                  exact z_lret hx hb hr hlocks hS hP hD ⟨by rw [← hR]; first | (rw [show 10 - i = 0 by omega]; rfl) | (rw [show 10 - i = (10 - (i + 1)) + 1 by omega, p_nvl, if_pos c_27, if_pos (by omega)]), by rw [← hR]; first | (rw [show 10 - i = 0 by omega]; rfl) | (rw [show 10 - i = (10 - (i + 1)) + 1 by omega, p_nvl, if_pos c_27, if_pos (by omega)])⟩ d_Scan_nextVarint_121
        · skip
          have c_27 := of_decide_eq_false c_27
          refine lv_lconst (v := 0) hx hb d_Scan_nextVarint_30 (by decide +kernel) ?_
          exact z_lret hx hb hr hlocks hS hP hD ⟨by rw [← hR, show 10 - i = (10 - (i + 1)) + 1 by omega, p_nvl, if_neg c_27], by rw [← hR, show 10 - i = (10 - (i + 1)) + 1 by omega, p_nvl, if_neg c_27]⟩ d_Scan_nextVarint_31
  exact hlp10 _ 0 0 z (by omega) hz hf rfl (Nat.lt_succ_self _) _ _ hP hD hS ls (lv_sub hl [3, 2, 1, 0] rfl)

set_option maxHeartbeats 4000000 in
set_option maxRecDepth 100000 in
theorem c_Scan_longsOf (l : Launch) (D : va_G) (cI cJ : ClassId) (h0 : Nat) (bo : Nat) (z : SS) (to : Nat) (fi : Int64) (k : Nat) (pp : Nat) (hk : k ≤ 100) (hp : pp < 4) (hto : to ≤ 2000) : Ct l D (zT cI cJ) y_Scan_longsOf b_Scan_longsOf 3 (some .int) 2 45 0 0 [.ref h0, .int (nI k), .int (nI pp)] [(h0, .inr (2, [.ref bo, .int (nI z.1), .int (nI z.2.1), .int z.2.2, .int (nI to), .long fi]))] (zEq (some (.int (nI (p_lo to k pp)))) [(h0, .inr (2, [.ref bo, .int (nI z.1), .int (nI z.2.1), .int z.2.2, .int (nI to), .long fi]))]) := by
  refine Ct.ofW (by decide) (Nat.le_of_ble_eq_true rfl) ?_
  intro p e s m below meth c A ls C0 hP hD hS hl
  obtain ⟨hx, hb, hml, hown, hts, hK, hN, hr, hlocks, hA, hnm⟩ := C0
  have hl : lv_has ls 3 [(0, .ref h0), (1, .int (nI k)), (2, .int (nI pp))] := hl
  have hown : s.vm.findClass R_Scan = some m.cls := hown
  refine lv_iload_n hx hb d_Scan_longsOf_0 rfl (lv_at hl 1 rfl) ?_
  refine lv_iload_n hx hb d_Scan_longsOf_1 rfl (lv_at hl 2 rfl) ?_
  refine lv_iconst (v := nI 1) hx hb d_Scan_longsOf_2 (by decide +kernel) ?_
  refine lv_iadd hx hb d_Scan_longsOf_3 (z_i (nI_add pp 1) ?_)
  refine lv_aload_n hx hb d_Scan_longsOf_4 rfl (lv_at hl 0 rfl) ?_
  refine g_Scan_25 hx hb hts hown hK hP 0 rfl rfl d_Scan_longsOf_5 ?_
  refine z_callEi (wr := [(h0, .inr (2, [.ref bo, .int (nI z.1), .int (nI z.2.1), .int z.2.2, .int (nI to), .long fi]))]) (w2 := [(h0, .inr (2, [.ref bo, .int (nI z.1), .int (nI z.2.1), .int z.2.2, .int (nI to), .long fi]))]) (z_runSN (rest := []) hx hb hml hown hts hK hN (c_DeltaRows_partEdge l D cI cJ k (pp + 1) to (by (try dsimp only); omega) (by (try dsimp only); omega) (by (try dsimp only); omega)) kk_Scan_92 (zP.cut hP [] rfl) (hD.sub [] (by decide) rfl) rfl hl.1 rfl (Nat.le_of_ble_eq_true rfl) d_Scan_longsOf_8 (by decide) (by decide)) hP hD hS hA [] [0] [0] rfl rfl (by decide) (by decide) (by decide) rfl (fun H locs hP hD hS => ?_)
  refine lv_iload_n hx hb d_Scan_longsOf_11 rfl (lv_at hl 1 rfl) ?_
  refine lv_iload_n hx hb d_Scan_longsOf_12 rfl (lv_at hl 2 rfl) ?_
  refine lv_aload_n hx hb d_Scan_longsOf_13 rfl (lv_at hl 0 rfl) ?_
  refine g_Scan_25 hx hb hts hown hK hP 0 rfl rfl d_Scan_longsOf_14 ?_
  refine z_callEi (wr := [(h0, .inr (2, [.ref bo, .int (nI z.1), .int (nI z.2.1), .int z.2.2, .int (nI to), .long fi]))]) (w2 := [(h0, .inr (2, [.ref bo, .int (nI z.1), .int (nI z.2.1), .int z.2.2, .int (nI to), .long fi]))]) (z_runSN (rest := [.int (nI (p_pe k (pp + 1) to))]) hx hb hml hown hts hK hN (c_DeltaRows_partEdge l D cI cJ k pp to (by (try dsimp only); omega) (by (try dsimp only); omega) (by (try dsimp only); omega)) kk_Scan_92 (zP.cut hP [] rfl) (hD.sub [] (by decide) rfl) rfl hl.1 rfl (Nat.le_of_ble_eq_true rfl) d_Scan_longsOf_17 (by decide) (by decide)) hP hD hS hA [] [0] [0] rfl rfl (by decide) (by decide) (by decide) rfl (fun H locs hP hD hS => ?_)
  have hpe := p_pe_mono to k pp
  have hpe2 := p_pe_to to k (pp + 1)
  refine lv_isub hx hb d_Scan_longsOf_20 (z_i (pk_sub (a := p_pe k (pp + 1) to) (b := p_pe k pp to) (by omega)) ?_)
  exact z_iret hx hb hr hlocks hS hP hD ⟨rfl, rfl⟩ d_Scan_longsOf_21

set_option maxHeartbeats 4000000 in
set_option maxRecDepth 100000 in
theorem c_Scan_nextWidth (l : Launch) (D : va_G) (cI cJ : ClassId) (h0 : Nat) (bo : Nat) (z : SS) (to : Nat) (fi : Int64) (hw : Nat) (b : BB) (lo : Nat) (hu : b.2 ≤ 20000) (hz : z.1 ≤ b.2) (hlo : lo ≤ 16) : Ct l D (zT cI cJ) y_Scan_nextWidth b_Scan_nextWidth 4 (some .int) 4 90 0 0 [.ref h0, .int (nI lo)] [(h0, .inr (2, [.ref bo, .int (nI z.1), .int (nI z.2.1), .int z.2.2, .int (nI to), .long fi])), (bo, .inr (0, [.ref hw, .int (nI b.2)])), (hw, .inl (cJ, 2500, .inr (.inl b.1)))] (zEq (some (.int (nI (p_nbV b z)))) [(h0, .inr (2, [.ref bo, .int (nI ((p_nwS b z lo).1)), .int (nI ((p_nwS b z lo).2.1)), .int ((p_nwS b z lo).2.2), .int (nI to), .long fi])), (bo, .inr (0, [.ref hw, .int (nI b.2)])), (hw, .inl (cJ, 2500, .inr (.inl b.1)))]) := by
  refine Ct.ofW (by decide) (Nat.le_of_ble_eq_true rfl) ?_
  intro p e s m below meth c A ls C0 hP hD hS hl
  obtain ⟨hx, hb, hml, hown, hts, hK, hN, hr, hlocks, hA, hnm⟩ := C0
  have hl : lv_has ls 4 [(0, .ref h0), (1, .int (nI lo))] := hl
  have hown : s.vm.findClass R_Scan = some m.cls := hown
  have hx8 := p_nbV_le (z := z) hu
  refine lv_aload_n hx hb d_Scan_nextWidth_0 rfl (lv_at hl 0 rfl) ?_
  refine g_Scan_15 hx hb hts hown hK hP 0 rfl rfl d_Scan_nextWidth_1 ?_
  refine lv_istore_n (lv' := [(2, .int (nI z.1)), (0, .ref h0), (1, .int (nI lo))]) hx hb d_Scan_nextWidth_4 rfl hl (by decide) rfl (fun ls hl => ?_)
  refine lv_aload_n hx hb d_Scan_nextWidth_5 rfl (lv_at hl 1 rfl) ?_
  refine z_callEi (wr := []) (w2 := [(h0, .inr (2, [.ref bo, .int (nI ((p_nbS b z).1)), .int (nI ((p_nbS b z).2.1)), .int ((p_nbS b z).2.2), .int (nI to), .long fi])), (bo, .inr (0, [.ref hw, .int (nI b.2)])), (hw, .inl (cJ, 2500, .inr (.inl b.1)))]) (z_runV (rest := []) hx hb hml hown hts hK hN (c_Scan_nextByte l D cI cJ h0 bo z to fi hw b (by (try dsimp only); omega) (by (try dsimp only); omega)) kk_Scan_96 (zP.cut hP [0, 1, 2] rfl) (hD.sub [0, 1, 2] (by decide) rfl) 0 rfl rfl rfl hl.1 rfl (Nat.le_of_ble_eq_true rfl) d_Scan_nextWidth_6 (by decide) (by decide)) hP hD hS hA [0, 1, 2] [] [0, 1, 2] rfl rfl (by decide) (by decide) (by decide) rfl (fun H locs hP hD hS => ?_)
  refine lv_istore_n (lv' := [(3, .int (nI (p_nbV b z))), (2, .int (nI z.1)), (0, .ref h0), (1, .int (nI lo))]) hx hb d_Scan_nextWidth_9 rfl hl (by decide) rfl (fun ls hl => ?_)
  refine lv_iload_n hx hb d_Scan_nextWidth_10 rfl (lv_at hl 0 rfl) ?_
  refine lv_bipush (v := nI 64) hx hb d_Scan_nextWidth_11 (by decide +kernel) ?_
  refine zn_gt (a := p_nbV b z) (b := 64) (by omega) (by omega) hx hb d_Scan_nextWidth_13 (tgt := 24) (by decide) (fun c_13 => ?_) (fun c_13 => ?_)
  · skip
    refine lv_aload_n hx hb d_Scan_nextWidth_24 rfl (lv_at hl 2 rfl) ?_
    refine lv_iconst (v := nI 5) hx hb d_Scan_nextWidth_25 (by decide +kernel) ?_
    refine lv_iload_n hx hb d_Scan_nextWidth_26 rfl (lv_at hl 1 rfl) ?_
    refine z_callEv (wr := [(bo, .inr (0, [.ref hw, .int (nI b.2)])), (hw, .inl (cJ, 2500, .inr (.inl b.1)))]) (w2 := [(h0, .inr (2, [.ref bo, .int (nI (((p_nbS b z).1, 5, (nI z.1)).1)), .int (nI (((p_nbS b z).1, 5, (nI z.1)).2.1)), .int (((p_nbS b z).1, 5, (nI z.1)).2.2), .int (nI to), .long fi])), (bo, .inr (0, [.ref hw, .int (nI b.2)])), (hw, .inl (cJ, 2500, .inr (.inl b.1)))]) (z_runV (rest := []) hx hb hml hown hts hK hN (c_Scan_refuse l D cI cJ h0 bo (p_nbS b z) to fi 5 (nI z.1) ) kk_Scan_57 (zP.cut hP [0] rfl) (hD.sub [0] (by decide) rfl) 0 rfl rfl rfl hl.1 rfl (Nat.le_of_ble_eq_true rfl) d_Scan_nextWidth_27 (by decide) (by decide)) hP hD hS hA [0] [1, 2] [2, 0, 1] rfl rfl (by decide) (by decide) (by decide) rfl (fun H locs hP hD hS => ?_)
    refine lv_iload_n hx hb d_Scan_nextWidth_30 rfl (lv_at hl 0 rfl) ?_
    exact z_iret hx hb hr hlocks hS hP hD ⟨rfl, by unfold p_nwS; first | rw [if_pos (by omega)] | rw [if_neg (by omega)]⟩ d_Scan_nextWidth_31
  · skip
    refine lv_iload_n hx hb d_Scan_nextWidth_16 rfl (lv_at hl 0 rfl) ?_
    refine z0_eq (a := p_nbV b z) (by omega) hx hb d_Scan_nextWidth_17 (tgt := 30) (by decide) (fun c_17 => ?_) (fun c_17 => ?_)
    · skip
      refine lv_iload_n hx hb d_Scan_nextWidth_30 rfl (lv_at hl 0 rfl) ?_
      exact z_iret hx hb hr hlocks hS hP hD ⟨rfl, by unfold p_nwS; first | rw [if_pos (by omega)] | rw [if_neg (by omega)]⟩ d_Scan_nextWidth_31
    · skip
      refine lv_iload_n hx hb d_Scan_nextWidth_20 rfl (lv_at hl 3 rfl) ?_
      refine z0_ne (a := lo) (by omega) hx hb d_Scan_nextWidth_21 (tgt := 30) (by decide) (fun c_21 => ?_) (fun c_21 => ?_)
      · skip
        refine lv_iload_n hx hb d_Scan_nextWidth_30 rfl (lv_at hl 0 rfl) ?_
        exact z_iret hx hb hr hlocks hS hP hD ⟨rfl, by unfold p_nwS; first | rw [if_pos (by omega)] | rw [if_neg (by omega)]⟩ d_Scan_nextWidth_31
      · skip
        refine lv_aload_n hx hb d_Scan_nextWidth_24 rfl (lv_at hl 2 rfl) ?_
        refine lv_iconst (v := nI 5) hx hb d_Scan_nextWidth_25 (by decide +kernel) ?_
        refine lv_iload_n hx hb d_Scan_nextWidth_26 rfl (lv_at hl 1 rfl) ?_
        refine z_callEv (wr := [(bo, .inr (0, [.ref hw, .int (nI b.2)])), (hw, .inl (cJ, 2500, .inr (.inl b.1)))]) (w2 := [(h0, .inr (2, [.ref bo, .int (nI (((p_nbS b z).1, 5, (nI z.1)).1)), .int (nI (((p_nbS b z).1, 5, (nI z.1)).2.1)), .int (((p_nbS b z).1, 5, (nI z.1)).2.2), .int (nI to), .long fi])), (bo, .inr (0, [.ref hw, .int (nI b.2)])), (hw, .inl (cJ, 2500, .inr (.inl b.1)))]) (z_runV (rest := []) hx hb hml hown hts hK hN (c_Scan_refuse l D cI cJ h0 bo (p_nbS b z) to fi 5 (nI z.1) ) kk_Scan_57 (zP.cut hP [0] rfl) (hD.sub [0] (by decide) rfl) 0 rfl rfl rfl hl.1 rfl (Nat.le_of_ble_eq_true rfl) d_Scan_nextWidth_27 (by decide) (by decide)) hP hD hS hA [0] [1, 2] [2, 0, 1] rfl rfl (by decide) (by decide) (by decide) rfl (fun H locs hP hD hS => ?_)
        refine lv_iload_n hx hb d_Scan_nextWidth_30 rfl (lv_at hl 0 rfl) ?_
        exact z_iret hx hb hr hlocks hS hP hD ⟨rfl, by unfold p_nwS; first | rw [if_pos (by omega)] | rw [if_neg (by omega)]⟩ d_Scan_nextWidth_31

set_option maxHeartbeats 4000000 in
set_option maxRecDepth 100000 in
theorem c_Scan_passPart (l : Launch) (D : va_G) (cI cJ : ClassId) (h0 : Nat) (bo : Nat) (z : SS) (to : Nat) (fi : Int64) (hw : Nat) (b : BB) (w : Nat) (lo : Nat) (hu : b.2 ≤ 20000) (hz : z.1 ≤ b.2) (hw1 : w ≤ 255) (hlo : lo ≤ 16) : Ct l D (zT cI cJ) y_Scan_passPart b_Scan_passPart 4 none 2 48 0 0 [.ref h0, .int (nI w), .int (nI lo)] [(h0, .inr (2, [.ref bo, .int (nI z.1), .int (nI z.2.1), .int z.2.2, .int (nI to), .long fi])), (bo, .inr (0, [.ref hw, .int (nI b.2)])), (hw, .inl (cJ, 2500, .inr (.inl b.1)))] (zEq none [(h0, .inr (2, [.ref bo, .int (nI ((p_pp b z w lo).1)), .int (nI ((p_pp b z w lo).2.1)), .int ((p_pp b z w lo).2.2), .int (nI to), .long fi])), (bo, .inr (0, [.ref hw, .int (nI b.2)])), (hw, .inl (cJ, 2500, .inr (.inl b.1)))]) := by
  refine Ct.ofW (by decide) (Nat.le_of_ble_eq_true rfl) ?_
  intro p e s m below meth c A ls C0 hP hD hS hl
  obtain ⟨hx, hb, hml, hown, hts, hK, hN, hr, hlocks, hA, hnm⟩ := C0
  have hl : lv_has ls 4 [(0, .ref h0), (1, .int (nI w)), (2, .int (nI lo))] := hl
  have hown : s.vm.findClass R_Scan = some m.cls := hown
  refine lv_iload_n hx hb d_Scan_passPart_0 rfl (lv_at hl 1 rfl) ?_
  refine z_callEi (wr := [(h0, .inr (2, [.ref bo, .int (nI z.1), .int (nI z.2.1), .int z.2.2, .int (nI to), .long fi])), (bo, .inr (0, [.ref hw, .int (nI b.2)])), (hw, .inl (cJ, 2500, .inr (.inl b.1)))]) (w2 := [(h0, .inr (2, [.ref bo, .int (nI z.1), .int (nI z.2.1), .int z.2.2, .int (nI to), .long fi])), (bo, .inr (0, [.ref hw, .int (nI b.2)])), (hw, .inl (cJ, 2500, .inr (.inl b.1)))]) (z_runSN (rest := []) hx hb hml hown hts hK hN (c_DeltaRows_partBytes l D cI cJ w (by (try dsimp only); omega)) kk_Scan_100 (zP.cut hP [] rfl) (hD.sub [] (by decide) rfl) rfl hl.1 rfl (Nat.le_of_ble_eq_true rfl) d_Scan_passPart_1 (by decide) (by decide)) hP hD hS hA [] [0, 1, 2] [0, 1, 2] rfl rfl (by decide) (by decide) (by decide) rfl (fun H locs hP hD hS => ?_)
  refine lv_aload_n hx hb d_Scan_passPart_4 rfl (lv_at hl 0 rfl) ?_
  refine g_Scan_9 hx hb hts hown hK hP 0 rfl rfl d_Scan_passPart_5 ?_
  refine g_Scan_52 hx hb hts hown hK hP 1 rfl rfl d_Scan_passPart_8 ?_
  refine lv_aload_n hx hb d_Scan_passPart_11 rfl (lv_at hl 0 rfl) ?_
  refine g_Scan_15 hx hb hts hown hK hP 0 rfl rfl d_Scan_passPart_12 ?_
  refine lv_isub hx hb d_Scan_passPart_15 (z_i (pk_sub (a := b.2) (b := z.1) (by omega)) ?_)
  refine zn_le (a := w * 16 / 8) (b := b.2 - z.1) (by omega) (by omega) hx hb d_Scan_passPart_16 (tgt := 32) (by decide) (fun c_16 => ?_) (fun c_16 => ?_)
  · skip
    refine lv_iload_n hx hb d_Scan_passPart_32 rfl (lv_at hl 2 rfl) ?_
    refine lv_istore_n (lv' := [(3, .int (nI lo)), (0, .ref h0), (1, .int (nI w)), (2, .int (nI lo))]) hx hb d_Scan_passPart_33 rfl hl (by decide) rfl (fun ls hl => ?_)
    have hlp34 : ∀ (n : Nat) (i : Nat), (i ≤ 16) → (p_ppl b z w (16 - i) i = p_pp b z w lo) → 16 - i < n → ∀ (H : Heap) (locs : List Loc), va_P D classes [(h0, .inr (2, [.ref bo, .int (nI z.1), .int (nI z.2.1), .int z.2.2, .int (nI to), .long fi])), (bo, .inr (0, [.ref hw, .int (nI b.2)])), (hw, .inl (cJ, 2500, .inr (.inl b.1)))] H → va_D A [(h0, .inr (2, [.ref bo, .int (nI z.1), .int (nI z.2.1), .int z.2.2, .int (nI to), .long fi])), (bo, .inr (0, [.ref hw, .int (nI b.2)])), (hw, .inl (cJ, 2500, .inr (.inl b.1)))] → va_S A s.heap H locs → ∀ (ls : Array Slot), lv_has ls 4 [(0, .ref h0), (1, .int (nI w)), (2, .int (nI lo)), (3, .int (nI i))] → W p l e { frames := 2, cells := 0, slots := 0, locals := 48 } s m ([.ref h0, .int (nI w), .int (nI lo)] : List Value).toArray below meth c H locs 0 0 (MQ below (zQ D (zEq none [(h0, .inr (2, [.ref bo, .int (nI ((p_pp b z w lo).1)), .int (nI ((p_pp b z w lo).2.1)), .int ((p_pp b z w lo).2.2), .int (nI to), .long fi])), (bo, .inr (0, [.ref hw, .int (nI b.2)])), (hw, .inl (cJ, 2500, .inr (.inl b.1)))]) A) ([.ref h0, .int (nI w), .int (nI lo)] : List Value).toArray s 0 0 A) (F0 m 34 ls []) := by
      intro n
      induction n with
      | zero => intro i h1 hR hmu; exact absurd hmu (Nat.not_lt_zero _)
      | succ n ih =>
        intro i h1 hR hmu H locs hP hD hS ls hl
        have hiw : i * w ≤ 16 * 255 := Nat.mul_le_mul h1 hw1
        have ih34 := ih
        refine lv_iload_n hx hb d_Scan_passPart_34 rfl (lv_at hl 3 rfl) ?_
        refine lv_bipush (v := nI 16) hx hb d_Scan_passPart_35 (by decide +kernel) ?_
        refine zn_ge (a := i) (b := 16) (by omega) (by omega) hx hb d_Scan_passPart_37 (tgt := 80) (by decide) (fun c_37 => ?_) (fun c_37 => ?_)
        · skip
          refine lv_aload_n hx hb d_Scan_passPart_80 rfl (lv_at hl 0 rfl) ?_
          refine lv_dup hx hb d_Scan_passPart_81 rfl ?_
          refine g_Scan_15 hx hb hts hown hK hP 0 rfl rfl d_Scan_passPart_82 ?_
          refine lv_iload_n hx hb d_Scan_passPart_85 rfl (lv_at hl 1 rfl) ?_
          refine z_callEi (wr := [(h0, .inr (2, [.ref bo, .int (nI z.1), .int (nI z.2.1), .int z.2.2, .int (nI to), .long fi])), (bo, .inr (0, [.ref hw, .int (nI b.2)])), (hw, .inl (cJ, 2500, .inr (.inl b.1)))]) (w2 := [(h0, .inr (2, [.ref bo, .int (nI z.1), .int (nI z.2.1), .int z.2.2, .int (nI to), .long fi])), (bo, .inr (0, [.ref hw, .int (nI b.2)])), (hw, .inl (cJ, 2500, .inr (.inl b.1)))]) (z_runSN (rest := [.int (nI z.1), .ref h0]) hx hb hml hown hts hK hN (c_DeltaRows_partBytes l D cI cJ w (by (try dsimp only); omega)) kk_Scan_100 (zP.cut hP [] rfl) (hD.sub [] (by decide) rfl) rfl hl.1 rfl (Nat.le_of_ble_eq_true rfl) d_Scan_passPart_86 (by decide) (by decide)) hP hD hS hA [] [0, 1, 2] [0, 1, 2] rfl rfl (by decide) (by decide) (by decide) rfl (fun H locs hP hD hS => ?_)
          refine lv_iadd hx hb d_Scan_passPart_89 (z_i (nI_add z.1 (w * 16 / 8)) ?_)
          refine p_Scan_15 (w2 := [(h0, .inr (2, [.ref bo, .int (nI (z.1 + w * 16 / 8)), .int (nI z.2.1), .int z.2.2, .int (nI to), .long fi])), (bo, .inr (0, [.ref hw, .int (nI b.2)])), (hw, .inl (cJ, 2500, .inr (.inl b.1)))]) hx hb hts hown hK hP hD hS 0 rfl (Nat.le_of_ble_eq_true rfl) rfl d_Scan_passPart_90 (fun H locs hP hD hS => ?_)
          exact z_vret hx hb hr hlocks hS hP hD ⟨rfl, by rw [← hR, show 16 - i = 0 by omega]; rfl⟩ d_Scan_passPart_93
        · skip
          refine lv_aload_n hx hb d_Scan_passPart_40 rfl (lv_at hl 0 rfl) ?_
          refine g_Scan_9 hx hb hts hown hK hP 0 rfl rfl d_Scan_passPart_41 ?_
          refine lv_aload_n hx hb d_Scan_passPart_44 rfl (lv_at hl 0 rfl) ?_
          refine g_Scan_15 hx hb hts hown hK hP 0 rfl rfl d_Scan_passPart_45 ?_
          refine lv_bipush (v := nI 8) hx hb d_Scan_passPart_48 (by decide +kernel) ?_
          refine lv_imul hx hb d_Scan_passPart_50 (z_i (pk_mul z.1 8) ?_)
          refine lv_iload_n hx hb d_Scan_passPart_51 rfl (lv_at hl 3 rfl) ?_
          refine lv_iload_n hx hb d_Scan_passPart_52 rfl (lv_at hl 1 rfl) ?_
          refine lv_imul hx hb d_Scan_passPart_53 (z_i (pk_mul i w) ?_)
          refine lv_iadd hx hb d_Scan_passPart_54 (z_i (nI_add (z.1 * 8) (i * w)) ?_)
          refine lv_iload_n hx hb d_Scan_passPart_55 rfl (lv_at hl 1 rfl) ?_
          refine z_callEl (wr := [(h0, .inr (2, [.ref bo, .int (nI z.1), .int (nI z.2.1), .int z.2.2, .int (nI to), .long fi]))]) (w2 := [(h0, .inr (2, [.ref bo, .int (nI z.1), .int (nI z.2.1), .int z.2.2, .int (nI to), .long fi])), (bo, .inr (0, [.ref hw, .int (nI b.2)])), (hw, .inl (cJ, 2500, .inr (.inl b.1)))]) (z_runV (rest := []) hx hb hml hown hts hK hN (c_ByteRow_bitsIn l D cI cJ bo hw b (z.1 * 8 + i * w) w (by (try dsimp only); omega) (by (try dsimp only); omega)) kk_Scan_103 (zP.cut hP [1, 2] rfl) (hD.sub [1, 2] (by decide) rfl) 0 rfl rfl rfl hl.1 rfl (Nat.le_of_ble_eq_true rfl) d_Scan_passPart_56 (by decide) (by decide)) hP hD hS hA [1, 2] [0] [0, 1, 2] rfl rfl (by decide) (by decide) (by decide) rfl (fun H locs hP hD hS => ?_)
          refine lv_lconst (v := 0) hx hb d_Scan_passPart_59 (by decide +kernel) ?_
          refine zl_eq hx hb d_Scan_passPart_60 d_Scan_passPart_61 (tgt := 74) (by decide) (fun c_60 => ?_) (fun c_60 => ?_)
          · skip
            refine lv_iinc (v := nI (i + 1)) (lv' := [(3, .int (nI (i + 1))), (0, .ref h0), (1, .int (nI w)), (2, .int (nI lo))]) hx hb d_Scan_passPart_74 hl (k := 3) rfl (zinc i 1) (by decide) rfl (fun ls hl => ?_)
            refine lv_goto (tgt := 34) hx hb d_Scan_passPart_77 (by decide) ?_
            exact ih34 (i + 1) (by omega) (by rw [show 16 - i = (16 - (i + 1)) + 1 by omega, p_ppl, if_pos c_60] at hR; exact hR) (by omega) _ _ hP hD hS ls (lv_sub hl [1, 2, 3, 0] rfl)
          · skip
            refine lv_aload_n hx hb d_Scan_passPart_64 rfl (lv_at hl 0 rfl) ?_
            refine lv_iconst (v := nI 5) hx hb d_Scan_passPart_65 (by decide +kernel) ?_
            refine lv_aload_n hx hb d_Scan_passPart_66 rfl (lv_at hl 0 rfl) ?_
            refine g_Scan_15 hx hb hts hown hK hP 0 rfl rfl d_Scan_passPart_67 ?_
            refine z_callEv (wr := [(bo, .inr (0, [.ref hw, .int (nI b.2)])), (hw, .inl (cJ, 2500, .inr (.inl b.1)))]) (w2 := [(h0, .inr (2, [.ref bo, .int (nI ((z.1, 5, (nI z.1)).1)), .int (nI ((z.1, 5, (nI z.1)).2.1)), .int ((z.1, 5, (nI z.1)).2.2), .int (nI to), .long fi])), (bo, .inr (0, [.ref hw, .int (nI b.2)])), (hw, .inl (cJ, 2500, .inr (.inl b.1)))]) (z_runV (rest := []) hx hb hml hown hts hK hN (c_Scan_refuse l D cI cJ h0 bo z to fi 5 (nI z.1) ) kk_Scan_57 (zP.cut hP [0] rfl) (hD.sub [0] (by decide) rfl) 0 rfl rfl rfl hl.1 rfl (Nat.le_of_ble_eq_true rfl) d_Scan_passPart_70 (by decide) (by decide)) hP hD hS hA [0] [1, 2] [2, 0, 1] rfl rfl (by decide) (by decide) (by decide) rfl (fun H locs hP hD hS => ?_)
            exact z_vret hx hb hr hlocks hS hP hD ⟨rfl, by rw [← hR, show 16 - i = (16 - (i + 1)) + 1 by omega, p_ppl, if_neg c_60]⟩ d_Scan_passPart_73
    exact hlp34 _ lo hlo (by unfold p_pp; rw [if_neg (by omega)]) (Nat.lt_succ_self _) _ _ hP hD hS ls (lv_sub hl [1, 2, 3, 0] rfl)
  · skip
    refine lv_aload_n hx hb d_Scan_passPart_19 rfl (lv_at hl 0 rfl) ?_
    refine lv_iconst (v := nI 1) hx hb d_Scan_passPart_20 (by decide +kernel) ?_
    refine lv_aload_n hx hb d_Scan_passPart_21 rfl (lv_at hl 0 rfl) ?_
    refine g_Scan_9 hx hb hts hown hK hP 0 rfl rfl d_Scan_passPart_22 ?_
    refine g_Scan_52 hx hb hts hown hK hP 1 rfl rfl d_Scan_passPart_25 ?_
    refine z_callEv (wr := [(bo, .inr (0, [.ref hw, .int (nI b.2)])), (hw, .inl (cJ, 2500, .inr (.inl b.1)))]) (w2 := [(h0, .inr (2, [.ref bo, .int (nI ((z.1, 1, (nI b.2)).1)), .int (nI ((z.1, 1, (nI b.2)).2.1)), .int ((z.1, 1, (nI b.2)).2.2), .int (nI to), .long fi])), (bo, .inr (0, [.ref hw, .int (nI b.2)])), (hw, .inl (cJ, 2500, .inr (.inl b.1)))]) (z_runV (rest := []) hx hb hml hown hts hK hN (c_Scan_refuse l D cI cJ h0 bo z to fi 1 (nI b.2) ) kk_Scan_57 (zP.cut hP [0] rfl) (hD.sub [0] (by decide) rfl) 0 rfl rfl rfl hl.1 rfl (Nat.le_of_ble_eq_true rfl) d_Scan_passPart_28 (by decide) (by decide)) hP hD hS hA [0] [1, 2] [2, 0, 1] rfl rfl (by decide) (by decide) (by decide) rfl (fun H locs hP hD hS => ?_)
    exact z_vret hx hb hr hlocks hS hP hD ⟨rfl, by unfold p_pp; rw [if_pos (by omega)]⟩ d_Scan_passPart_31

set_option maxHeartbeats 4000000 in
set_option maxRecDepth 100000 in
theorem c_Scan_init (l : Launch) (D : va_G) (cI cJ : ClassId) (h0 : Nat) (bo : Nat)  : Ct l D (zT cI cJ) y_Scan_init b_Scan_init 2 none 1 20 0 0 [.ref h0, .ref bo] [(h0, .inr (2, [.null, .int 0, .int 0, .int 0, .int 0, .long 0]))] (zEq none [(h0, .inr (2, [.ref bo, .int (nI 0), .int (nI 0), .int (-1), .int (nI 0), .long 0]))]) := by
  refine Ct.ofW (by decide) (Nat.le_of_ble_eq_true rfl) ?_
  intro p e s m below meth c A ls C0 hP hD hS hl
  obtain ⟨hx, hb, hml, hown, hts, hK, hN, hr, hlocks, hA, hnm⟩ := C0
  have hl : lv_has ls 2 [(0, .ref h0), (1, .ref bo)] := hl
  have hown : s.vm.findClass R_Scan = some m.cls := hown
  refine lv_aload_n hx hb d_Scan_init_0 rfl (lv_at hl 0 rfl) ?_
  refine W.objInit hx hb hown (kw_Scan_3 hts) (ko_1 hts) (ko_2 hts) rfl (by rw [hml]; exact hl.1) rfl d_Scan_init_1 (by decide) (Nat.le_of_ble_eq_true rfl) ?_
  refine W.eq (g2 := F0 m 4 ls []) rfl ?_
  refine lv_aload_n hx hb d_Scan_init_4 rfl (lv_at hl 0 rfl) ?_
  refine lv_aload_n hx hb d_Scan_init_5 rfl (lv_at hl 1 rfl) ?_
  refine p_Scan_9 (w2 := [(h0, .inr (2, [.ref bo, .int 0, .int 0, .int 0, .int 0, .long 0]))]) hx hb hts hown hnm hK hP hD hS 0 rfl (Nat.le_of_ble_eq_true rfl) rfl d_Scan_init_6 (fun H locs hP hD hS => ?_)
  refine lv_aload_n hx hb d_Scan_init_9 rfl (lv_at hl 0 rfl) ?_
  refine lv_iconst (v := nI 0) hx hb d_Scan_init_10 (by decide +kernel) ?_
  refine p_Scan_15 (w2 := [(h0, .inr (2, [.ref bo, .int (nI 0), .int 0, .int 0, .int 0, .long 0]))]) hx hb hts hown hK hP hD hS 0 rfl (Nat.le_of_ble_eq_true rfl) rfl d_Scan_init_11 (fun H locs hP hD hS => ?_)
  refine lv_aload_n hx hb d_Scan_init_14 rfl (lv_at hl 0 rfl) ?_
  refine lv_iconst (v := nI 0) hx hb d_Scan_init_15 (by decide +kernel) ?_
  refine p_Scan_19 (w2 := [(h0, .inr (2, [.ref bo, .int (nI 0), .int (nI 0), .int 0, .int 0, .long 0]))]) hx hb hts hown hK hP hD hS 0 rfl (Nat.le_of_ble_eq_true rfl) rfl d_Scan_init_16 (fun H locs hP hD hS => ?_)
  refine lv_aload_n hx hb d_Scan_init_19 rfl (lv_at hl 0 rfl) ?_
  refine lv_iconst (v := (-1)) hx hb d_Scan_init_20 (by decide +kernel) ?_
  refine p_Scan_22 (w2 := [(h0, .inr (2, [.ref bo, .int (nI 0), .int (nI 0), .int (-1), .int 0, .long 0]))]) hx hb hts hown hK hP hD hS 0 rfl (Nat.le_of_ble_eq_true rfl) rfl d_Scan_init_21 (fun H locs hP hD hS => ?_)
  refine lv_aload_n hx hb d_Scan_init_24 rfl (lv_at hl 0 rfl) ?_
  refine lv_iconst (v := nI 0) hx hb d_Scan_init_25 (by decide +kernel) ?_
  refine p_Scan_25 (w2 := [(h0, .inr (2, [.ref bo, .int (nI 0), .int (nI 0), .int (-1), .int (nI 0), .long 0]))]) hx hb hts hown hK hP hD hS 0 rfl (Nat.le_of_ble_eq_true rfl) rfl d_Scan_init_26 (fun H locs hP hD hS => ?_)
  refine lv_aload_n hx hb d_Scan_init_29 rfl (lv_at hl 0 rfl) ?_
  refine lv_lconst (v := 0) hx hb d_Scan_init_30 (by decide +kernel) ?_
  refine p_Scan_28 (w2 := [(h0, .inr (2, [.ref bo, .int (nI 0), .int (nI 0), .int (-1), .int (nI 0), .long 0]))]) hx hb hts hown hK hP hD hS 0 rfl (Nat.le_of_ble_eq_true rfl) rfl d_Scan_init_31 (fun H locs hP hD hS => ?_)
  exact z_vret hx hb hr hlocks hS hP hD ⟨rfl, rfl⟩ d_Scan_init_34
