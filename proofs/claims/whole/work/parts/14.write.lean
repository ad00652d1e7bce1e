set_option maxHeartbeats 4000000 in
set_option maxRecDepth 100000 in
theorem c_DeltaRows_leastDifference (l : Launch) (D : va_G) (cI cJ : ClassId) (o : Nat) (ro : Nat) (bo : Nat) (so : Nat) (la : Nat) (lb : Nat) (rc : Nat) (rq : Nat → Int64) (k : Nat) (hrc : rc ≤ 2000) (hk : k < p_bf rc) : Ct l D (zT cI cJ) y_DeltaRows_leastDifference b_DeltaRows_leastDifference 7 (some .long) 2 45 0 0 [.ref o, .int (nI k)] [(o, .inr (3, [.ref ro, .int (nI rc), .ref bo, .ref so, .ref la, .ref lb])), (ro, .inl (cJ, 2000, .inr (.inl rq)))] (zEq (some (.long (p_ld rq rc k))) [(o, .inr (3, [.ref ro, .int (nI rc), .ref bo, .ref so, .ref la, .ref lb])), (ro, .inl (cJ, 2000, .inr (.inl rq)))]) := by
  refine Ct.ofW (by decide) (Nat.le_of_ble_eq_true rfl) ?_
  intro p e s m below meth c A ls C0 hP hD hS hl
  obtain ⟨hx, hb, hml, hown, hts, hK, hN, hr, hlocks, hA, hnm⟩ := C0
  have hl : lv_has ls 7 [(0, .ref o), (1, .int (nI k))] := hl
  have hown : s.vm.findClass R_DeltaRows = some m.cls := hown
  have hk2 := p_bf_in hk
  have hk3 := p_bf_le hrc
  have e0 : p_pe k 0 rc = 1 + k * 64 := by unfold p_pe; omega
  have e4 : p_pe k 0 rc < p_pe k 4 rc := by unfold p_pe; omega
  have e5 := p_pe_to rc k 4
  refine lv_iload_n hx hb d_DeltaRows_leastDifference_0 rfl (lv_at hl 1 rfl) ?_
  refine lv_iconst (v := nI 0) hx hb d_DeltaRows_leastDifference_1 (by decide +kernel) ?_
  refine lv_aload_n hx hb d_DeltaRows_leastDifference_2 rfl (lv_at hl 0 rfl) ?_
  refine g_DeltaRows_13 hx hb hts hown hK hP 0 rfl rfl d_DeltaRows_leastDifference_3 ?_
  refine z_callEi (wr := [(o, .inr (3, [.ref ro, .int (nI rc), .ref bo, .ref so, .ref la, .ref lb])), (ro, .inl (cJ, 2000, .inr (.inl rq)))]) (w2 := [(o, .inr (3, [.ref ro, .int (nI rc), .ref bo, .ref so, .ref la, .ref lb])), (ro, .inl (cJ, 2000, .inr (.inl rq)))]) (z_runS (rest := []) hx hb hml hown hts hK hN (c_DeltaRows_partEdge l D cI cJ k 0 rc (by (try dsimp only); omega) (by (try dsimp only); omega) (by (try dsimp only); omega)) kk_DeltaRows_123 (zP.cut hP [] rfl) (hD.sub [] (by decide) rfl) rfl hl.1 rfl (Nat.le_of_ble_eq_true rfl) d_DeltaRows_leastDifference_6 (by decide) (by decide)) hP hD hS hA [] [0, 1] [0, 1] rfl rfl (by decide) (by decide) (by decide) rfl (fun H locs hP hD hS => ?_)
  refine lv_istore_n (lv' := [(2, .int (nI (p_pe k 0 rc))), (0, .ref o), (1, .int (nI k))]) hx hb d_DeltaRows_leastDifference_9 rfl hl (by decide) rfl (fun ls hl => ?_)
  refine lv_iload_n hx hb d_DeltaRows_leastDifference_10 rfl (lv_at hl 2 rfl) ?_
  refine lv_iconst (v := nI 4) hx hb d_DeltaRows_leastDifference_11 (by decide +kernel) ?_
  refine lv_aload_n hx hb d_DeltaRows_leastDifference_12 rfl (lv_at hl 1 rfl) ?_
  refine g_DeltaRows_13 hx hb hts hown hK hP 0 rfl rfl d_DeltaRows_leastDifference_13 ?_
  refine z_callEi (wr := [(o, .inr (3, [.ref ro, .int (nI rc), .ref bo, .ref so, .ref la, .ref lb])), (ro, .inl (cJ, 2000, .inr (.inl rq)))]) (w2 := [(o, .inr (3, [.ref ro, .int (nI rc), .ref bo, .ref so, .ref la, .ref lb])), (ro, .inl (cJ, 2000, .inr (.inl rq)))]) (z_runS (rest := []) hx hb hml hown hts hK hN (c_DeltaRows_partEdge l D cI cJ k 4 rc (by (try dsimp only); omega) (by (try dsimp only); omega) (by (try dsimp only); omega)) kk_DeltaRows_123 (zP.cut hP [] rfl) (hD.sub [] (by decide) rfl) rfl hl.1 rfl (Nat.le_of_ble_eq_true rfl) d_DeltaRows_leastDifference_16 (by decide) (by decide)) hP hD hS hA [] [0, 1] [0, 1] rfl rfl (by decide) (by decide) (by decide) rfl (fun H locs hP hD hS => ?_)
  refine lv_istore_n (lv' := [(3, .int (nI (p_pe k 4 rc))), (2, .int (nI (p_pe k 0 rc))), (0, .ref o), (1, .int (nI k))]) hx hb d_DeltaRows_leastDifference_19 rfl hl (by decide) rfl (fun ls hl => ?_)
  refine lv_aload_n hx hb d_DeltaRows_leastDifference_20 rfl (lv_at hl 2 rfl) ?_
  refine g_DeltaRows_9 hx hb hts hown hK hP 0 rfl rfl d_DeltaRows_leastDifference_21 ?_
  refine lv_iload_n hx hb d_DeltaRows_leastDifference_24 rfl (lv_at hl 1 rfl) ?_
  refine z_lald hx hb hK hP 1 1 rfl rfl (by omega) (by decide) d_DeltaRows_leastDifference_25 ?_
  refine lv_aload_n hx hb d_DeltaRows_leastDifference_26 rfl (lv_at hl 2 rfl) ?_
  refine g_DeltaRows_9 hx hb hts hown hK hP 0 rfl rfl d_DeltaRows_leastDifference_27 ?_
  refine lv_iload_n hx hb d_DeltaRows_leastDifference_30 rfl (lv_at hl 1 rfl) ?_
  refine lv_iconst (v := nI 1) hx hb d_DeltaRows_leastDifference_31 (by decide +kernel) ?_
  refine lv_isub hx hb d_DeltaRows_leastDifference_32 (z_i (pk_sub (a := p_pe k 0 rc) (b := 1) (by omega)) ?_)
  refine z_lald hx hb hK hP 1 1 rfl rfl (by omega) (by decide) d_DeltaRows_leastDifference_33 ?_
  refine lv_lsub hx hb d_DeltaRows_leastDifference_34 ?_
  refine lv_lstore (lv' := [(4, .long ((rq (p_pe k 0 rc)) - (rq ((p_pe k 0 rc) - 1)))), (3, .int (nI (p_pe k 4 rc))), (2, .int (nI (p_pe k 0 rc))), (0, .ref o), (1, .int (nI k))]) hx hb d_DeltaRows_leastDifference_35 hl (by decide) rfl (fun ls hl => ?_)
  refine lv_iload_n hx hb d_DeltaRows_leastDifference_37 rfl (lv_at hl 2 rfl) ?_
  refine lv_iconst (v := nI 1) hx hb d_DeltaRows_leastDifference_38 (by decide +kernel) ?_
  refine lv_iadd hx hb d_DeltaRows_leastDifference_39 (z_i (nI_add (p_pe k 0 rc) 1) ?_)
  refine lv_istore (lv' := [(6, .int (nI (p_pe k 0 rc + 1))), (4, .long ((rq (p_pe k 0 rc)) - (rq ((p_pe k 0 rc) - 1)))), (3, .int (nI (p_pe k 4 rc))), (2, .int (nI (p_pe k 0 rc))), (0, .ref o), (1, .int (nI k))]) hx hb d_DeltaRows_leastDifference_40 hl (by decide) rfl (fun ls hl => ?_)
  have hlp42 : ∀ (n : Nat) (t : Nat), (t ≤ p_pe k 4 rc - p_pe k 0 rc - 1) → p_pe k 4 rc - p_pe k 0 rc - 1 - t < n → ∀ (H : Heap) (locs : List Loc), va_P D classes [(o, .inr (3, [.ref ro, .int (nI rc), .ref bo, .ref so, .ref la, .ref lb])), (ro, .inl (cJ, 2000, .inr (.inl rq)))] H → va_D A [(o, .inr (3, [.ref ro, .int (nI rc), .ref bo, .ref so, .ref la, .ref lb])), (ro, .inl (cJ, 2000, .inr (.inl rq)))] → va_S A s.heap H locs → ∀ (ls : Array Slot), lv_has ls 7 [(0, .ref o), (2, .int (nI (p_pe k 0 rc))), (3, .int (nI (p_pe k 4 rc))), (4, .long (p_ldl rq (p_pe k 0 rc) t)), (6, .int (nI (p_pe k 0 rc + 1 + t)))] → W p l e { frames := 2, cells := 0, slots := 0, locals := 45 } s m ([.ref o, .int (nI k)] : List Value).toArray below meth c H locs 0 0 (MQ below (zQ D (zEq (some (.long (p_ld rq rc k))) [(o, .inr (3, [.ref ro, .int (nI rc), .ref bo, .ref so, .ref la, .ref lb])), (ro, .inl (cJ, 2000, .inr (.inl rq)))]) A) ([.ref o, .int (nI k)] : List Value).toArray s 0 0 A) (F0 m 42 ls []) := by
    intro n
    induction n with
    | zero => intro t h1 hmu; exact absurd hmu (Nat.not_lt_zero _)
    | succ n ih =>
      intro t h1 hmu H locs hP hD hS ls hl
      have ih42 := ih
      refine lv_iload hx hb d_DeltaRows_leastDifference_42 (lv_at hl 4 rfl) ?_
      refine lv_iload_n hx hb d_DeltaRows_leastDifference_44 rfl (lv_at hl 2 rfl) ?_
      refine zn_ge (a := p_pe k 0 rc + 1 + t) (b := p_pe k 4 rc) (by omega) (by omega) hx hb d_DeltaRows_leastDifference_45 (tgt := 78) (by decide) (fun c_45 => ?_) (fun c_45 => ?_)
      · skip
        refine lv_lload hx hb d_DeltaRows_leastDifference_78 (lv_at hl 3 rfl) ?_
        exact z_lret hx hb hr hlocks hS hP hD ⟨by unfold p_ld; rw [show p_pe k 4 rc - p_pe k 0 rc - 1 = t by omega], rfl⟩ d_DeltaRows_leastDifference_80
      · skip
        refine lv_lload hx hb d_DeltaRows_leastDifference_48 (lv_at hl 3 rfl) ?_
        refine lv_aload_n hx hb d_DeltaRows_leastDifference_50 rfl (lv_at hl 0 rfl) ?_
        refine g_DeltaRows_9 hx hb hts hown hK hP 0 rfl rfl d_DeltaRows_leastDifference_51 ?_
        refine lv_iload hx hb d_DeltaRows_leastDifference_54 (lv_at hl 4 rfl) ?_
        refine z_lald hx hb hK hP 1 1 rfl rfl (by omega) (by decide) d_DeltaRows_leastDifference_56 ?_
        refine lv_aload_n hx hb d_DeltaRows_leastDifference_57 rfl (lv_at hl 0 rfl) ?_
        refine g_DeltaRows_9 hx hb hts hown hK hP 0 rfl rfl d_DeltaRows_leastDifference_58 ?_
        refine lv_iload hx hb d_DeltaRows_leastDifference_61 (lv_at hl 4 rfl) ?_
        refine lv_iconst (v := nI 1) hx hb d_DeltaRows_leastDifference_63 (by decide +kernel) ?_
        refine lv_isub hx hb d_DeltaRows_leastDifference_64 (z_i (pk_sub (a := p_pe k 0 rc + 1 + t) (b := 1) (by omega)) ?_)
        refine z_lald hx hb hK hP 1 1 rfl rfl (by omega) (by decide) d_DeltaRows_leastDifference_65 ?_
        refine lv_lsub hx hb d_DeltaRows_leastDifference_66 ?_
        refine va_mmin_long hx hb (by rw [hml]; exact hl.1.symm) hown (kw_DeltaRows_127 hts) (km_minJ_1 hts) (km_0 hts) (km_minJ_2 hts) (by decide) (Nat.le_of_ble_eq_true rfl) (by decide) (by decide) d_DeltaRows_leastDifference_67 ?_
        refine lv_lstore (lv' := [(4, .long (if (rq (p_pe k 0 rc + 1 + t)) - (rq ((p_pe k 0 rc + 1 + t) - 1)) < p_ldl rq (p_pe k 0 rc) t then (rq (p_pe k 0 rc + 1 + t)) - (rq ((p_pe k 0 rc + 1 + t) - 1)) else p_ldl rq (p_pe k 0 rc) t)), (0, .ref o), (2, .int (nI (p_pe k 0 rc))), (3, .int (nI (p_pe k 4 rc))), (6, .int (nI (p_pe k 0 rc + 1 + t)))]) hx hb d_DeltaRows_leastDifference_70 hl (by decide) rfl (fun ls hl => ?_)
        refine lv_iinc (v := nI (p_pe k 0 rc + 1 + t + 1)) (lv' := [(6, .int (nI (p_pe k 0 rc + 1 + t + 1))), (4, .long (if (rq (p_pe k 0 rc + 1 + t)) - (rq ((p_pe k 0 rc + 1 + t) - 1)) < p_ldl rq (p_pe k 0 rc) t then (rq (p_pe k 0 rc + 1 + t)) - (rq ((p_pe k 0 rc + 1 + t) - 1)) else p_ldl rq (p_pe k 0 rc) t)), (0, .ref o), (2, .int (nI (p_pe k 0 rc))), (3, .int (nI (p_pe k 4 rc)))]) hx hb d_DeltaRows_leastDifference_72 hl (k := 4) rfl (zinc (p_pe k 0 rc + 1 + t) 1) (by decide) rfl (fun ls hl => ?_)
        refine lv_goto (tgt := 42) hx hb d_DeltaRows_leastDifference_75 (by decide) ?_
        exact ih42 (t + 1) (by omega) (by omega) _ _ hP hD hS ls (lv_sub hl [2, 3, 4, 1, 0] rfl)
  exact hlp42 _ 0 (Nat.zero_le _) (Nat.lt_succ_self _) _ _ hP hD hS ls (lv_sub hl [4, 3, 2, 1, 0] rfl)

set_option maxHeartbeats 4000000 in
set_option maxRecDepth 100000 in
theorem c_Integer_numberOfLeadingZeros (l : Launch) (D : va_G) (cI cJ : ClassId) (x : Int32)  : Ct l D (zT cI cJ) y_Integer_numberOfLeadingZeros b_Integer_numberOfLeadingZeros 2 (some .int) 0 0 0 0 [.int x] [] (zEq (some (.int (nI (p_inlz x)))) []) := by
  refine Ct.ofW (by decide) (Nat.le_of_ble_eq_true rfl) ?_
  intro p e s m below meth c A ls C0 hP hD hS hl
  obtain ⟨hx, hb, hml, hown, hts, hK, hN, hr, hlocks, hA, hnm⟩ := C0
  have hl : lv_has ls 2 [(0, .int x)] := hl
  have hown : s.vm.findClass R_Integer = some m.cls := hown
  refine lv_iload_n hx hb d_Integer_numberOfLeadingZeros_0 rfl (lv_at hl 0 rfl) ?_
  refine lv_if_gt (tgt := 15) hx hb d_Integer_numberOfLeadingZeros_1 (by decide) (fun c_1 => ?_) (fun c_1 => ?_)
  · skip
    obtain ⟨n0, hn0, rfl⟩ := nI_of (x := x) (fun z => absurd (Int32.lt_trans c_1 z) (by simp))
    have hn1 : 0 < n0 := Nat.pos_of_ne_zero (fun z => by rw [z] at c_1; exact absurd c_1 (by decide))
    refine lv_bipush (v := nI 31) hx hb d_Integer_numberOfLeadingZeros_15 (by decide +kernel) ?_
    refine lv_istore_n (lv' := [(1, .int (nI 31)), (0, .int (nI n0))]) hx hb d_Integer_numberOfLeadingZeros_17 rfl hl (by decide) rfl (fun ls hl => ?_)
    have hj33 : ∀ (kk : Nat) (y : Nat), (15 ≤ kk ∧ kk ≤ 31) → (y = n0 / 2 ^ (31 - kk)) → (0 < y) → (y < 65536) → ∀ (H : Heap) (locs : List Loc), va_P D classes [] H → va_D A [] → va_S A s.heap H locs → ∀ (ls : Array Slot), lv_has ls 2 [(0, .int (nI y)), (1, .int (nI kk))] → W p l e { frames := 0, cells := 0, slots := 0, locals := 0 } s m ([.int (nI n0)] : List Value).toArray below meth c H locs 0 0 (MQ below (zQ D (zEq (some (.int (nI (p_inlz (nI n0))))) []) A) ([.int (nI n0)] : List Value).toArray s 0 0 A) (F0 m 33 ls []) := by
      intro kk y hkk hy h0 hbd H locs hP hD hS ls hl
      have hj48 : ∀ (kk : Nat) (y : Nat), (7 ≤ kk ∧ kk ≤ 31) → (y = n0 / 2 ^ (31 - kk)) → (0 < y) → (y < 256) → ∀ (H : Heap) (locs : List Loc), va_P D classes [] H → va_D A [] → va_S A s.heap H locs → ∀ (ls : Array Slot), lv_has ls 2 [(0, .int (nI y)), (1, .int (nI kk))] → W p l e { frames := 0, cells := 0, slots := 0, locals := 0 } s m ([.int (nI n0)] : List Value).toArray below meth c H locs 0 0 (MQ below (zQ D (zEq (some (.int (nI (p_inlz (nI n0))))) []) A) ([.int (nI n0)] : List Value).toArray s 0 0 A) (F0 m 48 ls []) := by
        intro kk y hkk hy h0 hbd H locs hP hD hS ls hl
        have hj61 : ∀ (kk : Nat) (y : Nat), (3 ≤ kk ∧ kk ≤ 31) → (y = n0 / 2 ^ (31 - kk)) → (0 < y) → (y < 16) → ∀ (H : Heap) (locs : List Loc), va_P D classes [] H → va_D A [] → va_S A s.heap H locs → ∀ (ls : Array Slot), lv_has ls 2 [(0, .int (nI y)), (1, .int (nI kk))] → W p l e { frames := 0, cells := 0, slots := 0, locals := 0 } s m ([.int (nI n0)] : List Value).toArray below meth c H locs 0 0 (MQ below (zQ D (zEq (some (.int (nI (p_inlz (nI n0))))) []) A) ([.int (nI n0)] : List Value).toArray s 0 0 A) (F0 m 61 ls []) := by
          intro kk y hkk hy h0 hbd H locs hP hD hS ls hl
          have hj73 : ∀ (kk : Nat) (y : Nat), (1 ≤ kk ∧ kk ≤ 31) → (y = n0 / 2 ^ (31 - kk)) → (0 < y) → (y < 4) → ∀ (H : Heap) (locs : List Loc), va_P D classes [] H → va_D A [] → va_S A s.heap H locs → ∀ (ls : Array Slot), lv_has ls 2 [(0, .int (nI y)), (1, .int (nI kk))] → W p l e { frames := 0, cells := 0, slots := 0, locals := 0 } s m ([.int (nI n0)] : List Value).toArray below meth c H locs 0 0 (MQ below (zQ D (zEq (some (.int (nI (p_inlz (nI n0))))) []) A) ([.int (nI n0)] : List Value).toArray s 0 0 A) (F0 m 73 ls []) := by
            intro kk y hkk hy h0 hbd H locs hP hD hS ls hl
            refine lv_iload_n hx hb d_Integer_numberOfLeadingZeros_73 rfl (lv_at hl 1 rfl) ?_
            refine lv_iload_n hx hb d_Integer_numberOfLeadingZeros_74 rfl (lv_at hl 0 rfl) ?_
            refine lv_iconst (v := nI 1) hx hb d_Integer_numberOfLeadingZeros_75 (by decide +kernel) ?_
            refine lv_iushr (v := nI (y / 2 ^ 1)) hx hb d_Integer_numberOfLeadingZeros_76 (pk_ushrN (n := y) (by omega) (nI 1) 1 (by decide +kernel)) ?_
            refine lv_isub hx hb d_Integer_numberOfLeadingZeros_77 (z_i (pk_sub (a := kk) (b := y / 2 ^ 1) (by omega)) ?_)
            exact z_iret hx hb hr hlocks hS hP hD ⟨by rw [p_inlz_pos hn0 hn1 hkk hy h0 hbd], rfl⟩ d_Integer_numberOfLeadingZeros_78
          refine lv_iload_n hx hb d_Integer_numberOfLeadingZeros_61 rfl (lv_at hl 0 rfl) ?_
          refine lv_iconst (v := nI 4) hx hb d_Integer_numberOfLeadingZeros_62 (by decide +kernel) ?_
          refine zn_lt (a := y) (b := 4) (by omega) (by omega) hx hb d_Integer_numberOfLeadingZeros_63 (tgt := 73) (by decide) (fun c_63 => ?_) (fun c_63 => ?_)
          · skip
            exact hj73 kk y (by omega) (by first | exact hy | (rw [hy, Nat.div_div_eq_div_mul, ← Nat.pow_add]; congr 2; omega)) (by omega) (by omega) _ _ hP hD hS ls (lv_sub hl [0, 1] rfl)
          · skip
            refine lv_iinc (v := nI (kk - 2)) (lv' := [(1, .int (nI (kk - 2))), (0, .int (nI y))]) hx hb d_Integer_numberOfLeadingZeros_66 hl (k := 1) rfl (zdec (a := kk) (k := 2) (by omega)) (by decide) rfl (fun ls hl => ?_)
            refine lv_iload_n hx hb d_Integer_numberOfLeadingZeros_69 rfl (lv_at hl 1 rfl) ?_
            refine lv_iconst (v := nI 2) hx hb d_Integer_numberOfLeadingZeros_70 (by decide +kernel) ?_
            refine lv_iushr (v := nI (y / 2 ^ 2)) hx hb d_Integer_numberOfLeadingZeros_71 (pk_ushrN (n := y) (by omega) (nI 2) 2 (by decide +kernel)) ?_
            refine lv_istore_n (lv' := [(0, .int (nI (y / 2 ^ 2))), (1, .int (nI (kk - 2)))]) hx hb d_Integer_numberOfLeadingZeros_72 rfl hl (by decide) rfl (fun ls hl => ?_)
            exact hj73 (kk - 2) (y / 2 ^ 2) (by omega) (by first | exact hy | (rw [hy, Nat.div_div_eq_div_mul, ← Nat.pow_add]; congr 2; omega)) (by omega) (by omega) _ _ hP hD hS ls (lv_sub hl [0, 1] rfl)
        refine lv_iload_n hx hb d_Integer_numberOfLeadingZeros_48 rfl (lv_at hl 0 rfl) ?_
        refine lv_bipush (v := nI 16) hx hb d_Integer_numberOfLeadingZeros_49 (by decide +kernel) ?_
        refine zn_lt (a := y) (b := 16) (by omega) (by omega) hx hb d_Integer_numberOfLeadingZeros_51 (tgt := 61) (by decide) (fun c_51 => ?_) (fun c_51 => ?_)
        · skip
          exact hj61 kk y (by omega) (by first | exact hy | (rw [hy, Nat.div_div_eq_div_mul, ← Nat.pow_add]; congr 2; omega)) (by omega) (by omega) _ _ hP hD hS ls (lv_sub hl [0, 1] rfl)
        · skip
          refine lv_iinc (v := nI (kk - 4)) (lv' := [(1, .int (nI (kk - 4))), (0, .int (nI y))]) hx hb d_Integer_numberOfLeadingZeros_54 hl (k := 1) rfl (zdec (a := kk) (k := 4) (by omega)) (by decide) rfl (fun ls hl => ?_)
          refine lv_iload_n hx hb d_Integer_numberOfLeadingZeros_57 rfl (lv_at hl 1 rfl) ?_
          refine lv_iconst (v := nI 4) hx hb d_Integer_numberOfLeadingZeros_58 (by decide +kernel) ?_
          refine lv_iushr (v := nI (y / 2 ^ 4)) hx hb d_Integer_numberOfLeadingZeros_59 (pk_ushrN (n := y) (by omega) (nI 4) 4 (by decide +kernel)) ?_
          refine lv_istore_n (lv' := [(0, .int (nI (y / 2 ^ 4))), (1, .int (nI (kk - 4)))]) hx hb d_Integer_numberOfLeadingZeros_60 rfl hl (by decide) rfl (fun ls hl => ?_)
          exact hj61 (kk - 4) (y / 2 ^ 4) (by omega) (by first | exact hy | (rw [hy, Nat.div_div_eq_div_mul, ← Nat.pow_add]; congr 2; omega)) (by omega) (by omega) _ _ hP hD hS ls (lv_sub hl [0, 1] rfl)
      refine lv_iload_n hx hb d_Integer_numberOfLeadingZeros_33 rfl (lv_at hl 0 rfl) ?_
      refine lv_sipush (v := nI 256) hx hb d_Integer_numberOfLeadingZeros_34 (by decide +kernel) ?_
      refine zn_lt (a := y) (b := 256) (by omega) (by omega) hx hb d_Integer_numberOfLeadingZeros_37 (tgt := 48) (by decide) (fun c_37 => ?_) (fun c_37 => ?_)
      · skip
        exact hj48 kk y (by omega) (by first | exact hy | (rw [hy, Nat.div_div_eq_div_mul, ← Nat.pow_add]; congr 2; omega)) (by omega) (by omega) _ _ hP hD hS ls (lv_sub hl [0, 1] rfl)
      · skip
        refine lv_iinc (v := nI (kk - 8)) (lv' := [(1, .int (nI (kk - 8))), (0, .int (nI y))]) hx hb d_Integer_numberOfLeadingZeros_40 hl (k := 1) rfl (zdec (a := kk) (k := 8) (by omega)) (by decide) rfl (fun ls hl => ?_)
        refine lv_iload_n hx hb d_Integer_numberOfLeadingZeros_43 rfl (lv_at hl 1 rfl) ?_
        refine lv_bipush (v := nI 8) hx hb d_Integer_numberOfLeadingZeros_44 (by decide +kernel) ?_
        refine lv_iushr (v := nI (y / 2 ^ 8)) hx hb d_Integer_numberOfLeadingZeros_46 (pk_ushrN (n := y) (by omega) (nI 8) 8 (by decide +kernel)) ?_
        refine lv_istore_n (lv' := [(0, .int (nI (y / 2 ^ 8))), (1, .int (nI (kk - 8)))]) hx hb d_Integer_numberOfLeadingZeros_47 rfl hl (by decide) rfl (fun ls hl => ?_)
        exact hj48 (kk - 8) (y / 2 ^ 8) (by omega) (by first | exact hy | (rw [hy, Nat.div_div_eq_div_mul, ← Nat.pow_add]; congr 2; omega)) (by omega) (by omega) _ _ hP hD hS ls (lv_sub hl [0, 1] rfl)
    refine lv_iload_n hx hb d_Integer_numberOfLeadingZeros_18 rfl (lv_at hl 1 rfl) ?_
    refine lv_ldcw (v := nI 65536) hx hb hown (kc_Integer_264 hts) d_Integer_numberOfLeadingZeros_19 ?_
    refine zn_lt (a := n0) (b := 65536) (by omega) (by omega) hx hb d_Integer_numberOfLeadingZeros_22 (tgt := 33) (by decide) (fun c_22 => ?_) (fun c_22 => ?_)
    · skip
      exact hj33 31 n0 (by omega) (by first | rfl | (rw [Nat.sub_self, Nat.pow_zero, Nat.div_one])) (by omega) (by omega) _ _ hP hD hS ls (lv_sub hl [1, 0] rfl)
    · skip
      refine lv_iinc (v := nI (31 - 16)) (lv' := [(1, .int (nI (31 - 16))), (0, .int (nI n0))]) hx hb d_Integer_numberOfLeadingZeros_25 hl (k := 0) rfl (zdec (a := 31) (k := 16) (by omega)) (by decide) rfl (fun ls hl => ?_)
      refine lv_iload_n hx hb d_Integer_numberOfLeadingZeros_28 rfl (lv_at hl 1 rfl) ?_
      refine lv_bipush (v := nI 16) hx hb d_Integer_numberOfLeadingZeros_29 (by decide +kernel) ?_
      refine lv_iushr (v := nI (n0 / 2 ^ 16)) hx hb d_Integer_numberOfLeadingZeros_31 (pk_ushrN (n := n0) (by omega) (nI 16) 16 (by decide +kernel)) ?_
      refine lv_istore_n (lv' := [(0, .int (nI (n0 / 2 ^ 16))), (1, .int (nI (31 - 16)))]) hx hb d_Integer_numberOfLeadingZeros_32 rfl hl (by decide) rfl (fun ls hl => ?_)
      exact hj33 (31 - 16) (n0 / 2 ^ 16) (by omega) (by first | rfl | (rw [Nat.sub_self, Nat.pow_zero, Nat.div_one])) (by omega) (by omega) _ _ hP hD hS ls (lv_sub hl [0, 1] rfl)
  · skip
    refine lv_iload_n hx hb d_Integer_numberOfLeadingZeros_4 rfl (lv_at hl 0 rfl) ?_
    refine lv_if_ne (tgt := 13) hx hb d_Integer_numberOfLeadingZeros_5 (by decide) (fun c_5 => ?_) (fun c_5 => ?_)
    · skip
      refine lv_iconst (v := nI 0) hx hb d_Integer_numberOfLeadingZeros_13 (by decide +kernel) ?_
      exact z_iret hx hb hr hlocks hS hP hD ⟨by first | (rw [c_5]; rfl) | (rw [p_inlz_neg c_1 c_5]), rfl⟩ d_Integer_numberOfLeadingZeros_14
    · skip
      refine lv_bipush (v := nI 32) hx hb d_Integer_numberOfLeadingZeros_8 (by decide +kernel) ?_
      refine lv_goto (tgt := 14) hx hb d_Integer_numberOfLeadingZeros_10 (by decide) ?_
      exact z_iret hx hb hr hlocks hS hP hD ⟨by first | (rw [c_5]; rfl) | (rw [p_inlz_neg c_1 c_5]), rfl⟩ d_Integer_numberOfLeadingZeros_14

set_option maxHeartbeats 4000000 in
set_option maxRecDepth 100000 in
theorem c_Long_numberOfLeadingZeros (l : Launch) (D : va_G) (cI cJ : ClassId) (x : Int64)  : Ct l D (zT cI cJ) y_Long_numberOfLeadingZeros b_Long_numberOfLeadingZeros 3 (some .int) 1 21 0 0 [.long x] [] (zEq (some (.int (nI (p_nlz x)))) []) := by
  refine Ct.ofW (by decide) (Nat.le_of_ble_eq_true rfl) ?_
  intro p e s m below meth c A ls C0 hP hD hS hl
  obtain ⟨hx, hb, hml, hown, hts, hK, hN, hr, hlocks, hA, hnm⟩ := C0
  have hl : lv_has ls 3 [(0, .long x)] := hl
  have hown : s.vm.findClass R_Long = some m.cls := hown
  refine lv_lload_n hx hb d_Long_numberOfLeadingZeros_0 rfl (lv_at hl 0 rfl) ?_
  refine lv_bipush (v := nI 32) hx hb d_Long_numberOfLeadingZeros_1 (by decide +kernel) ?_
  refine lv_lushr (v := zushr x (nI 32)) hx hb d_Long_numberOfLeadingZeros_3 rfl ?_
  refine lv_l2i (v := (zushr x (nI 32)).toInt32) hx hb d_Long_numberOfLeadingZeros_4 rfl ?_
  refine lv_istore_n (lv' := [(2, .int ((zushr x (nI 32)).toInt32)), (0, .long x)]) hx hb d_Long_numberOfLeadingZeros_5 rfl hl (by decide) rfl (fun ls hl => ?_)
  refine lv_iload_n hx hb d_Long_numberOfLeadingZeros_6 rfl (lv_at hl 0 rfl) ?_
  refine lv_if_ne (tgt := 21) hx hb d_Long_numberOfLeadingZeros_7 (by decide) (fun c_7 => ?_) (fun c_7 => ?_)
  · skip
    refine lv_iload_n hx hb d_Long_numberOfLeadingZeros_21 rfl (lv_at hl 0 rfl) ?_
    refine z_callEi (wr := []) (w2 := []) (z_runS (rest := []) hx hb hml hown hts hK hN (c_Integer_numberOfLeadingZeros l D cI cJ ((zushr x (nI 32)).toInt32) ) kk_Long_308 (zP.cut hP [] rfl) (hD.sub [] (by decide) rfl) rfl hl.1 rfl (Nat.le_of_ble_eq_true rfl) d_Long_numberOfLeadingZeros_22 (by decide) (by decide)) hP hD hS hA [] [] [] rfl rfl (by decide) (by decide) (by decide) rfl (fun H locs hP hD hS => ?_)
    exact z_iret hx hb hr hlocks hS hP hD ⟨by first | rw [p_nlz_hi c_7] | rw [p_nlz_lo c_7], rfl⟩ d_Long_numberOfLeadingZeros_25
  · skip
    refine lv_bipush (v := nI 32) hx hb d_Long_numberOfLeadingZeros_10 (by decide +kernel) ?_
    refine lv_lload_n hx hb d_Long_numberOfLeadingZeros_12 rfl (lv_at hl 1 rfl) ?_
    refine lv_l2i (v := x.toInt32) hx hb d_Long_numberOfLeadingZeros_13 rfl ?_
    refine z_callEi (wr := []) (w2 := []) (z_runS (rest := [.int (nI 32)]) hx hb hml hown hts hK hN (c_Integer_numberOfLeadingZeros l D cI cJ x.toInt32 ) kk_Long_308 (zP.cut hP [] rfl) (hD.sub [] (by decide) rfl) rfl hl.1 rfl (Nat.le_of_ble_eq_true rfl) d_Long_numberOfLeadingZeros_14 (by decide) (by decide)) hP hD hS hA [] [] [] rfl rfl (by decide) (by decide) (by decide) rfl (fun H locs hP hD hS => ?_)
    refine lv_iadd hx hb d_Long_numberOfLeadingZeros_17 (z_i (nI_add 32 (p_inlz x.toInt32)) ?_)
    refine lv_goto (tgt := 25) hx hb d_Long_numberOfLeadingZeros_18 (by decide) ?_
    exact z_iret hx hb hr hlocks hS hP hD ⟨by first | rw [p_nlz_hi c_7] | rw [p_nlz_lo c_7], rfl⟩ d_Long_numberOfLeadingZeros_25

set_option maxHeartbeats 4000000 in
set_option maxRecDepth 100000 in
theorem c_DeltaRows_neededWidth (l : Launch) (D : va_G) (cI cJ : ClassId) (o : Nat) (ro : Nat) (bo : Nat) (so : Nat) (la : Nat) (lb : Nat) (rc : Nat) (rq : Nat → Int64) (hl1 : Nat) (hi1 : Nat) (hs1 : Nat) (bc : Nat) (le : Nat → Int64) (lv : Int64) (k : Nat) (pp : Nat) (hrc : rc ≤ 2000) (hk : k < p_bf rc) (hp : pp < 4) (hle : le k = lv) : Ct l D (zT cI cJ) y_DeltaRows_neededWidth b_DeltaRows_neededWidth 9 (some .int) 2 45 0 0 [.ref o, .int (nI k), .int (nI pp)] [(o, .inr (3, [.ref ro, .int (nI rc), .ref bo, .ref so, .ref la, .ref lb])), (ro, .inl (cJ, 2000, .inr (.inl rq))), (la, .inr (1, [.int (nI bc), .ref hl1, .ref hi1, .ref hs1])), (hl1, .inl (cJ, 32, .inr (.inl le)))] (zEq (some (.int (nI (p_wd rq rc lv k pp)))) [(o, .inr (3, [.ref ro, .int (nI rc), .ref bo, .ref so, .ref la, .ref lb])), (ro, .inl (cJ, 2000, .inr (.inl rq))), (la, .inr (1, [.int (nI bc), .ref hl1, .ref hi1, .ref hs1])), (hl1, .inl (cJ, 32, .inr (.inl le)))]) := by
  refine Ct.ofW (by decide) (Nat.le_of_ble_eq_true rfl) ?_
  intro p e s m below meth c A ls C0 hP hD hS hl
  obtain ⟨hx, hb, hml, hown, hts, hK, hN, hr, hlocks, hA, hnm⟩ := C0
  have hl : lv_has ls 9 [(0, .ref o), (1, .int (nI k)), (2, .int (nI pp))] := hl
  have hown : s.vm.findClass R_DeltaRows = some m.cls := hown
  have hk2 := p_bf_in hk
  have hk3 := p_bf_le hrc
  have e0 := p_pe_mono rc k pp
  have e1 : 1 ≤ p_pe k pp rc := by unfold p_pe; omega
  have e5 := p_pe_to rc k (pp + 1)
  have e6 : ∀ x, p_nlz x ≤ 64 := fun x => Nat.sub_le _ _
  refine lv_aload_n hx hb d_DeltaRows_neededWidth_0 rfl (lv_at hl 0 rfl) ?_
  refine g_DeltaRows_36 hx hb hts hown hK hP 0 rfl rfl d_DeltaRows_neededWidth_1 ?_
  refine g_DeltaRows_98 hx hb hts hown hK hP 2 rfl rfl d_DeltaRows_neededWidth_4 ?_
  refine lv_iload_n hx hb d_DeltaRows_neededWidth_7 rfl (lv_at hl 1 rfl) ?_
  refine z_lald hx hb hK hP 3 1 rfl rfl (by omega) (by decide) d_DeltaRows_neededWidth_8 ?_
  refine z_l (v := lv) hle ?_
  refine lv_lstore_n (lv' := [(3, .long lv), (0, .ref o), (1, .int (nI k)), (2, .int (nI pp))]) hx hb d_DeltaRows_neededWidth_9 rfl hl (by decide) rfl (fun ls hl => ?_)
  refine lv_iload_n hx hb d_DeltaRows_neededWidth_10 rfl (lv_at hl 2 rfl) ?_
  refine lv_iload_n hx hb d_DeltaRows_neededWidth_11 rfl (lv_at hl 3 rfl) ?_
  refine lv_iconst (v := nI 1) hx hb d_DeltaRows_neededWidth_12 (by decide +kernel) ?_
  refine lv_iadd hx hb d_DeltaRows_neededWidth_13 (z_i (nI_add pp 1) ?_)
  refine lv_aload_n hx hb d_DeltaRows_neededWidth_14 rfl (lv_at hl 1 rfl) ?_
  refine g_DeltaRows_13 hx hb hts hown hK hP 0 rfl rfl d_DeltaRows_neededWidth_15 ?_
  refine z_callEi (wr := [(o, .inr (3, [.ref ro, .int (nI rc), .ref bo, .ref so, .ref la, .ref lb])), (ro, .inl (cJ, 2000, .inr (.inl rq))), (la, .inr (1, [.int (nI bc), .ref hl1, .ref hi1, .ref hs1])), (hl1, .inl (cJ, 32, .inr (.inl le)))]) (w2 := [(o, .inr (3, [.ref ro, .int (nI rc), .ref bo, .ref so, .ref la, .ref lb])), (ro, .inl (cJ, 2000, .inr (.inl rq))), (la, .inr (1, [.int (nI bc), .ref hl1, .ref hi1, .ref hs1])), (hl1, .inl (cJ, 32, .inr (.inl le)))]) (z_runS (rest := []) hx hb hml hown hts hK hN (c_DeltaRows_partEdge l D cI cJ k (pp + 1) rc (by (try dsimp only); omega) (by (try dsimp only); omega) (by (try dsimp only); omega)) kk_DeltaRows_123 (zP.cut hP [] rfl) (hD.sub [] (by decide) rfl) rfl hl.1 rfl (Nat.le_of_ble_eq_true rfl) d_DeltaRows_neededWidth_18 (by decide) (by decide)) hP hD hS hA [] [0, 1, 2, 3] [0, 1, 2, 3] rfl rfl (by decide) (by decide) (by decide) rfl (fun H locs hP hD hS => ?_)
  refine lv_istore (lv' := [(5, .int (nI (p_pe k (pp + 1) rc))), (3, .long lv), (0, .ref o), (1, .int (nI k)), (2, .int (nI pp))]) hx hb d_DeltaRows_neededWidth_21 hl (by decide) rfl (fun ls hl => ?_)
  refine lv_lconst (v := 0) hx hb d_DeltaRows_neededWidth_23 (by decide +kernel) ?_
  refine lv_lstore (lv' := [(6, .long 0), (5, .int (nI (p_pe k (pp + 1) rc))), (3, .long lv), (0, .ref o), (1, .int (nI k)), (2, .int (nI pp))]) hx hb d_DeltaRows_neededWidth_24 hl (by decide) rfl (fun ls hl => ?_)
  refine lv_iload_n hx hb d_DeltaRows_neededWidth_26 rfl (lv_at hl 4 rfl) ?_
  refine lv_iload_n hx hb d_DeltaRows_neededWidth_27 rfl (lv_at hl 5 rfl) ?_
  refine lv_aload_n hx hb d_DeltaRows_neededWidth_28 rfl (lv_at hl 3 rfl) ?_
  refine g_DeltaRows_13 hx hb hts hown hK hP 0 rfl rfl d_DeltaRows_neededWidth_29 ?_
  refine z_callEi (wr := [(o, .inr (3, [.ref ro, .int (nI rc), .ref bo, .ref so, .ref la, .ref lb])), (ro, .inl (cJ, 2000, .inr (.inl rq))), (la, .inr (1, [.int (nI bc), .ref hl1, .ref hi1, .ref hs1])), (hl1, .inl (cJ, 32, .inr (.inl le)))]) (w2 := [(o, .inr (3, [.ref ro, .int (nI rc), .ref bo, .ref so, .ref la, .ref lb])), (ro, .inl (cJ, 2000, .inr (.inl rq))), (la, .inr (1, [.int (nI bc), .ref hl1, .ref hi1, .ref hs1])), (hl1, .inl (cJ, 32, .inr (.inl le)))]) (z_runS (rest := []) hx hb hml hown hts hK hN (c_DeltaRows_partEdge l D cI cJ k pp rc (by (try dsimp only); omega) (by (try dsimp only); omega) (by (try dsimp only); omega)) kk_DeltaRows_123 (zP.cut hP [] rfl) (hD.sub [] (by decide) rfl) rfl hl.1 rfl (Nat.le_of_ble_eq_true rfl) d_DeltaRows_neededWidth_32 (by decide) (by decide)) hP hD hS hA [] [0, 1, 2, 3] [0, 1, 2, 3] rfl rfl (by decide) (by decide) (by decide) rfl (fun H locs hP hD hS => ?_)
  refine lv_istore (lv' := [(8, .int (nI (p_pe k pp rc))), (6, .long 0), (5, .int (nI (p_pe k (pp + 1) rc))), (3, .long lv), (0, .ref o), (1, .int (nI k)), (2, .int (nI pp))]) hx hb d_DeltaRows_neededWidth_35 hl (by decide) rfl (fun ls hl => ?_)
  have hlp37 : ∀ (n : Nat) (t : Nat), (t ≤ p_pe k (pp + 1) rc - p_pe k pp rc) → p_pe k (pp + 1) rc - p_pe k pp rc - t < n → ∀ (H : Heap) (locs : List Loc), va_P D classes [(o, .inr (3, [.ref ro, .int (nI rc), .ref bo, .ref so, .ref la, .ref lb])), (ro, .inl (cJ, 2000, .inr (.inl rq))), (la, .inr (1, [.int (nI bc), .ref hl1, .ref hi1, .ref hs1])), (hl1, .inl (cJ, 32, .inr (.inl le)))] H → va_D A [(o, .inr (3, [.ref ro, .int (nI rc), .ref bo, .ref so, .ref la, .ref lb])), (ro, .inl (cJ, 2000, .inr (.inl rq))), (la, .inr (1, [.int (nI bc), .ref hl1, .ref hi1, .ref hs1])), (hl1, .inl (cJ, 32, .inr (.inl le)))] → va_S A s.heap H locs → ∀ (ls : Array Slot), lv_has ls 9 [(0, .ref o), (3, .long lv), (5, .int (nI (p_pe k (pp + 1) rc))), (6, .long (p_nwl rq lv (p_pe k pp rc) t)), (8, .int (nI (p_pe k pp rc + t)))] → W p l e { frames := 2, cells := 0, slots := 0, locals := 45 } s m ([.ref o, .int (nI k), .int (nI pp)] : List Value).toArray below meth c H locs 0 0 (MQ below (zQ D (zEq (some (.int (nI (p_wd rq rc lv k pp)))) [(o, .inr (3, [.ref ro, .int (nI rc), .ref bo, .ref so, .ref la, .ref lb])), (ro, .inl (cJ, 2000, .inr (.inl rq))), (la, .inr (1, [.int (nI bc), .ref hl1, .ref hi1, .ref hs1])), (hl1, .inl (cJ, 32, .inr (.inl le)))]) A) ([.ref o, .int (nI k), .int (nI pp)] : List Value).toArray s 0 0 A) (F0 m 37 ls []) := by
    intro n
    induction n with
    | zero => intro t h1 hmu; exact absurd hmu (Nat.not_lt_zero _)
    | succ n ih =>
      intro t h1 hmu H locs hP hD hS ls hl
      have ih37 := ih
      refine lv_iload hx hb d_DeltaRows_neededWidth_37 (lv_at hl 4 rfl) ?_
      refine lv_iload hx hb d_DeltaRows_neededWidth_39 (lv_at hl 2 rfl) ?_
      refine zn_ge (a := p_pe k pp rc + t) (b := p_pe k (pp + 1) rc) (by omega) (by omega) hx hb d_DeltaRows_neededWidth_41 (tgt := 74) (by decide) (fun c_41 => ?_) (fun c_41 => ?_)
      · skip
        refine lv_bipush (v := nI 64) hx hb d_DeltaRows_neededWidth_74 (by decide +kernel) ?_
        refine lv_lload hx hb d_DeltaRows_neededWidth_76 (lv_at hl 3 rfl) ?_
        have e7 := e6 (p_nwl rq lv (p_pe k pp rc) t)
        refine z_callEi (wr := [(o, .inr (3, [.ref ro, .int (nI rc), .ref bo, .ref so, .ref la, .ref lb])), (ro, .inl (cJ, 2000, .inr (.inl rq))), (la, .inr (1, [.int (nI bc), .ref hl1, .ref hi1, .ref hs1])), (hl1, .inl (cJ, 32, .inr (.inl le)))]) (w2 := [(o, .inr (3, [.ref ro, .int (nI rc), .ref bo, .ref so, .ref la, .ref lb])), (ro, .inl (cJ, 2000, .inr (.inl rq))), (la, .inr (1, [.int (nI bc), .ref hl1, .ref hi1, .ref hs1])), (hl1, .inl (cJ, 32, .inr (.inl le)))]) (z_runS (rest := [.int (nI 64)]) hx hb hml hown hts hK hN (c_Long_numberOfLeadingZeros l D cI cJ (p_nwl rq lv (p_pe k pp rc) t) ) kk_DeltaRows_133 (zP.cut hP [] rfl) (hD.sub [] (by decide) rfl) rfl hl.1 rfl (Nat.le_of_ble_eq_true rfl) d_DeltaRows_neededWidth_78 (by decide) (by decide)) hP hD hS hA [] [0, 1, 2, 3] [0, 1, 2, 3] rfl rfl (by decide) (by decide) (by decide) rfl (fun H locs hP hD hS => ?_)
        refine lv_isub hx hb d_DeltaRows_neededWidth_81 (z_i (pk_sub (a := 64) (b := p_nlz (p_nwl rq lv (p_pe k pp rc) t)) (by omega)) ?_)
        exact z_iret hx hb hr hlocks hS hP hD ⟨by unfold p_wd; rw [show p_pe k (pp + 1) rc - p_pe k pp rc = t by omega], rfl⟩ d_DeltaRows_neededWidth_82
      · skip
        refine lv_lload hx hb d_DeltaRows_neededWidth_44 (lv_at hl 3 rfl) ?_
        refine lv_aload_n hx hb d_DeltaRows_neededWidth_46 rfl (lv_at hl 0 rfl) ?_
        refine g_DeltaRows_9 hx hb hts hown hK hP 0 rfl rfl d_DeltaRows_neededWidth_47 ?_
        refine lv_iload hx hb d_DeltaRows_neededWidth_50 (lv_at hl 4 rfl) ?_
        refine z_lald hx hb hK hP 1 1 rfl rfl (by omega) (by decide) d_DeltaRows_neededWidth_52 ?_
        refine lv_aload_n hx hb d_DeltaRows_neededWidth_53 rfl (lv_at hl 0 rfl) ?_
        refine g_DeltaRows_9 hx hb hts hown hK hP 0 rfl rfl d_DeltaRows_neededWidth_54 ?_
        refine lv_iload hx hb d_DeltaRows_neededWidth_57 (lv_at hl 4 rfl) ?_
        refine lv_iconst (v := nI 1) hx hb d_DeltaRows_neededWidth_59 (by decide +kernel) ?_
        refine lv_isub hx hb d_DeltaRows_neededWidth_60 (z_i (pk_sub (a := p_pe k pp rc + t) (b := 1) (by omega)) ?_)
        refine z_lald hx hb hK hP 1 1 rfl rfl (by omega) (by decide) d_DeltaRows_neededWidth_61 ?_
        refine lv_lsub hx hb d_DeltaRows_neededWidth_62 ?_
        refine lv_lload_n hx hb d_DeltaRows_neededWidth_63 rfl (lv_at hl 1 rfl) ?_
        refine lv_lsub hx hb d_DeltaRows_neededWidth_64 ?_
        refine lv_lor hx hb d_DeltaRows_neededWidth_65 ?_
        refine lv_lstore (lv' := [(6, .long ((p_nwl rq lv (p_pe k pp rc) t) ||| (((rq (p_pe k pp rc + t)) - (rq ((p_pe k pp rc + t) - 1))) - lv))), (0, .ref o), (3, .long lv), (5, .int (nI (p_pe k (pp + 1) rc))), (8, .int (nI (p_pe k pp rc + t)))]) hx hb d_DeltaRows_neededWidth_66 hl (by decide) rfl (fun ls hl => ?_)
        refine lv_iinc (v := nI (p_pe k pp rc + t + 1)) (lv' := [(8, .int (nI (p_pe k pp rc + t + 1))), (6, .long ((p_nwl rq lv (p_pe k pp rc) t) ||| (((rq (p_pe k pp rc + t)) - (rq ((p_pe k pp rc + t) - 1))) - lv))), (0, .ref o), (3, .long lv), (5, .int (nI (p_pe k (pp + 1) rc)))]) hx hb d_DeltaRows_neededWidth_68 hl (k := 4) rfl (zinc (p_pe k pp rc + t) 1) (by decide) rfl (fun ls hl => ?_)
        refine lv_goto (tgt := 37) hx hb d_DeltaRows_neededWidth_71 (by decide) ?_
        exact ih37 (t + 1) (by omega) (by omega) _ _ hP hD hS ls (lv_sub hl [2, 3, 4, 1, 0] rfl)
  exact hlp37 _ 0 (Nat.zero_le _) (Nat.lt_succ_self _) _ _ hP hD hS ls (lv_sub hl [4, 3, 2, 1, 0] rfl)

set_option maxHeartbeats 4000000 in
set_option maxRecDepth 100000 in
theorem c_DeltaRows_writePart (l : Launch) (D : va_G) (cI cJ : ClassId) (o : Nat) (ro : Nat) (bo : Nat) (so : Nat) (la : Nat) (lb : Nat) (rc : Nat) (rq : Nat → Int64) (hl1 : Nat) (hi1 : Nat) (hs1 : Nat) (bc : Nat) (hw : Nat) (b : BB) (le : Nat → Int64) (wi : Nat → Int32) (lv : Int64) (w : Nat) (k : Nat) (pp : Nat) (hrc : rc ≤ 2000) (hk : k < p_bf rc) (hp : pp < 4) (hle : le k = lv) (hwi : wi (k * 4 + pp) = nI w) (hw1 : w ≤ 64) (hu : b.2 ≤ 19000) : Ct l D (zT cI cJ) y_DeltaRows_writePart b_DeltaRows_writePart 10 none 2 53 0 0 [.ref o, .int (nI k), .int (nI pp)] [(o, .inr (3, [.ref ro, .int (nI rc), .ref bo, .ref so, .ref la, .ref lb])), (ro, .inl (cJ, 2000, .inr (.inl rq))), (bo, .inr (0, [.ref hw, .int (nI b.2)])), (hw, .inl (cJ, 2500, .inr (.inl b.1))), (la, .inr (1, [.int (nI bc), .ref hl1, .ref hi1, .ref hs1])), (hl1, .inl (cJ, 32, .inr (.inl le))), (hi1, .inl (cI, 128, .inl wi))] (zEq none [(o, .inr (3, [.ref ro, .int (nI rc), .ref bo, .ref so, .ref la, .ref lb])), (ro, .inl (cJ, 2000, .inr (.inl rq))), (bo, .inr (0, [.ref hw, .int (nI ((p_wp rq rc lv w k pp b).2))])), (hw, .inl (cJ, 2500, .inr (.inl ((p_wp rq rc lv w k pp b).1)))), (la, .inr (1, [.int (nI bc), .ref hl1, .ref hi1, .ref hs1])), (hl1, .inl (cJ, 32, .inr (.inl le))), (hi1, .inl (cI, 128, .inl wi))]) := by
  refine Ct.ofW (by decide) (Nat.le_of_ble_eq_true rfl) ?_
  intro p e s m below meth c A ls C0 hP hD hS hl
  obtain ⟨hx, hb, hml, hown, hts, hK, hN, hr, hlocks, hA, hnm⟩ := C0
  have hl : lv_has ls 10 [(0, .ref o), (1, .int (nI k)), (2, .int (nI pp))] := hl
  have hown : s.vm.findClass R_DeltaRows = some m.cls := hown
  have hk2 := p_bf_in hk
  have hk3 := p_bf_le hrc
  have e0 := p_pe_mono rc k pp
  have e1 : 1 ≤ p_pe k pp rc := by unfold p_pe; omega
  have e2 := p_pe_to rc k pp
  have e5 := p_pe_to rc k (pp + 1)
  refine lv_aload_n hx hb d_DeltaRows_writePart_0 rfl (lv_at hl 0 rfl) ?_
  refine g_DeltaRows_36 hx hb hts hown hK hP 0 rfl rfl d_DeltaRows_writePart_1 ?_
  refine g_DeltaRows_98 hx hb hts hown hK hP 4 rfl rfl d_DeltaRows_writePart_4 ?_
  refine lv_iload_n hx hb d_DeltaRows_writePart_7 rfl (lv_at hl 1 rfl) ?_
  refine z_lald hx hb hK hP 5 1 rfl rfl (by omega) (by decide) d_DeltaRows_writePart_8 ?_
  refine z_l (v := lv) hle ?_
  refine lv_lstore_n (lv' := [(3, .long lv), (0, .ref o), (1, .int (nI k)), (2, .int (nI pp))]) hx hb d_DeltaRows_writePart_9 rfl hl (by decide) rfl (fun ls hl => ?_)
  refine lv_aload_n hx hb d_DeltaRows_writePart_10 rfl (lv_at hl 1 rfl) ?_
  refine g_DeltaRows_36 hx hb hts hown hK hP 0 rfl rfl d_DeltaRows_writePart_11 ?_
  refine g_DeltaRows_105 hx hb hts hown hK hP 4 rfl rfl d_DeltaRows_writePart_14 ?_
  refine lv_iload_n hx hb d_DeltaRows_writePart_17 rfl (lv_at hl 2 rfl) ?_
  refine lv_iconst (v := nI 4) hx hb d_DeltaRows_writePart_18 (by decide +kernel) ?_
  refine lv_imul hx hb d_DeltaRows_writePart_19 (z_i (pk_mul k 4) ?_)
  refine lv_iload_n hx hb d_DeltaRows_writePart_20 rfl (lv_at hl 3 rfl) ?_
  refine lv_iadd hx hb d_DeltaRows_writePart_21 (z_i (nI_add (k * 4) pp) ?_)
  refine z_iald hx hb hK hP 6 0 rfl rfl (by omega) (by decide) d_DeltaRows_writePart_22 ?_
  refine z_i (v := nI w) hwi ?_
  refine lv_istore (lv' := [(5, .int (nI w)), (3, .long lv), (0, .ref o), (1, .int (nI k)), (2, .int (nI pp))]) hx hb d_DeltaRows_writePart_23 hl (by decide) rfl (fun ls hl => ?_)
  refine lv_iload_n hx hb d_DeltaRows_writePart_25 rfl (lv_at hl 3 rfl) ?_
  refine lv_iload_n hx hb d_DeltaRows_writePart_26 rfl (lv_at hl 4 rfl) ?_
  refine lv_aload_n hx hb d_DeltaRows_writePart_27 rfl (lv_at hl 2 rfl) ?_
  refine g_DeltaRows_13 hx hb hts hown hK hP 0 rfl rfl d_DeltaRows_writePart_28 ?_
  refine z_callEi (wr := [(o, .inr (3, [.ref ro, .int (nI rc), .ref bo, .ref so, .ref la, .ref lb])), (ro, .inl (cJ, 2000, .inr (.inl rq))), (bo, .inr (0, [.ref hw, .int (nI b.2)])), (hw, .inl (cJ, 2500, .inr (.inl b.1))), (la, .inr (1, [.int (nI bc), .ref hl1, .ref hi1, .ref hs1])), (hl1, .inl (cJ, 32, .inr (.inl le))), (hi1, .inl (cI, 128, .inl wi))]) (w2 := [(o, .inr (3, [.ref ro, .int (nI rc), .ref bo, .ref so, .ref la, .ref lb])), (ro, .inl (cJ, 2000, .inr (.inl rq))), (bo, .inr (0, [.ref hw, .int (nI b.2)])), (hw, .inl (cJ, 2500, .inr (.inl b.1))), (la, .inr (1, [.int (nI bc), .ref hl1, .ref hi1, .ref hs1])), (hl1, .inl (cJ, 32, .inr (.inl le))), (hi1, .inl (cI, 128, .inl wi))]) (z_runS (rest := []) hx hb hml hown hts hK hN (c_DeltaRows_partEdge l D cI cJ k pp rc (by (try dsimp only); omega) (by (try dsimp only); omega) (by (try dsimp only); omega)) kk_DeltaRows_123 (zP.cut hP [] rfl) (hD.sub [] (by decide) rfl) rfl hl.1 rfl (Nat.le_of_ble_eq_true rfl) d_DeltaRows_writePart_31 (by decide) (by decide)) hP hD hS hA [] [0, 1, 2, 3, 4, 5, 6] [0, 1, 2, 3, 4, 5, 6] rfl rfl (by decide) (by decide) (by decide) rfl (fun H locs hP hD hS => ?_)
  refine lv_istore (lv' := [(6, .int (nI (p_pe k pp rc))), (5, .int (nI w)), (3, .long lv), (0, .ref o), (1, .int (nI k)), (2, .int (nI pp))]) hx hb d_DeltaRows_writePart_34 hl (by decide) rfl (fun ls hl => ?_)
  refine lv_iload_n hx hb d_DeltaRows_writePart_36 rfl (lv_at hl 4 rfl) ?_
  refine lv_iload_n hx hb d_DeltaRows_writePart_37 rfl (lv_at hl 5 rfl) ?_
  refine lv_iconst (v := nI 1) hx hb d_DeltaRows_writePart_38 (by decide +kernel) ?_
  refine lv_iadd hx hb d_DeltaRows_writePart_39 (z_i (nI_add pp 1) ?_)
  refine lv_aload_n hx hb d_DeltaRows_writePart_40 rfl (lv_at hl 3 rfl) ?_
  refine g_DeltaRows_13 hx hb hts hown hK hP 0 rfl rfl d_DeltaRows_writePart_41 ?_
  refine z_callEi (wr := [(o, .inr (3, [.ref ro, .int (nI rc), .ref bo, .ref so, .ref la, .ref lb])), (ro, .inl (cJ, 2000, .inr (.inl rq))), (bo, .inr (0, [.ref hw, .int (nI b.2)])), (hw, .inl (cJ, 2500, .inr (.inl b.1))), (la, .inr (1, [.int (nI bc), .ref hl1, .ref hi1, .ref hs1])), (hl1, .inl (cJ, 32, .inr (.inl le))), (hi1, .inl (cI, 128, .inl wi))]) (w2 := [(o, .inr (3, [.ref ro, .int (nI rc), .ref bo, .ref so, .ref la, .ref lb])), (ro, .inl (cJ, 2000, .inr (.inl rq))), (bo, .inr (0, [.ref hw, .int (nI b.2)])), (hw, .inl (cJ, 2500, .inr (.inl b.1))), (la, .inr (1, [.int (nI bc), .ref hl1, .ref hi1, .ref hs1])), (hl1, .inl (cJ, 32, .inr (.inl le))), (hi1, .inl (cI, 128, .inl wi))]) (z_runS (rest := []) hx hb hml hown hts hK hN (c_DeltaRows_partEdge l D cI cJ k (pp + 1) rc (by (try dsimp only); omega) (by (try dsimp only); omega) (by (try dsimp only); omega)) kk_DeltaRows_123 (zP.cut hP [] rfl) (hD.sub [] (by decide) rfl) rfl hl.1 rfl (Nat.le_of_ble_eq_true rfl) d_DeltaRows_writePart_44 (by decide) (by decide)) hP hD hS hA [] [0, 1, 2, 3, 4, 5, 6] [0, 1, 2, 3, 4, 5, 6] rfl rfl (by decide) (by decide) (by decide) rfl (fun H locs hP hD hS => ?_)
  refine lv_istore (lv' := [(7, .int (nI (p_pe k (pp + 1) rc))), (6, .int (nI (p_pe k pp rc))), (5, .int (nI w)), (3, .long lv), (0, .ref o), (1, .int (nI k)), (2, .int (nI pp))]) hx hb d_DeltaRows_writePart_47 hl (by decide) rfl (fun ls hl => ?_)
  refine lv_aload_n hx hb d_DeltaRows_writePart_49 rfl (lv_at hl 4 rfl) ?_
  refine g_DeltaRows_20 hx hb hts hown hK hP 0 rfl rfl d_DeltaRows_writePart_50 ?_
  refine g_DeltaRows_65 hx hb hts hown hK hP 2 rfl rfl d_DeltaRows_writePart_53 ?_
  refine lv_bipush (v := nI 8) hx hb d_DeltaRows_writePart_56 (by decide +kernel) ?_
  refine lv_imul hx hb d_DeltaRows_writePart_58 (z_i (pk_mul b.2 8) ?_)
  refine lv_istore (lv' := [(8, .int (nI (b.2 * 8))), (7, .int (nI (p_pe k (pp + 1) rc))), (6, .int (nI (p_pe k pp rc))), (5, .int (nI w)), (3, .long lv), (0, .ref o), (1, .int (nI k)), (2, .int (nI pp))]) hx hb d_DeltaRows_writePart_59 hl (by decide) rfl (fun ls hl => ?_)
  refine lv_iload hx hb d_DeltaRows_writePart_61 (lv_at hl 2 rfl) ?_
  refine lv_istore (lv' := [(9, .int (nI (p_pe k pp rc))), (8, .int (nI (b.2 * 8))), (7, .int (nI (p_pe k (pp + 1) rc))), (6, .int (nI (p_pe k pp rc))), (5, .int (nI w)), (3, .long lv), (0, .ref o), (1, .int (nI k)), (2, .int (nI pp))]) hx hb d_DeltaRows_writePart_63 hl (by decide) rfl (fun ls hl => ?_)
  have hlp65 : ∀ (n : Nat) (i : Nat) (q : Nat) (wd : Nat → Int64), (p_pe k pp rc ≤ i ∧ i ≤ p_pe k pp rc + 16) → (q + (p_pe k pp rc + 16 - i) * 64 ≤ b.2 * 8 + 1024) → (p_wpl rq lv (p_pe k (pp + 1) rc) w (p_pe k pp rc + 16 - i) i q wd = (p_wp rq rc lv w k pp b).1) → p_pe k pp rc + 16 - i < n → ∀ (H : Heap) (locs : List Loc), va_P D classes [(o, .inr (3, [.ref ro, .int (nI rc), .ref bo, .ref so, .ref la, .ref lb])), (ro, .inl (cJ, 2000, .inr (.inl rq))), (bo, .inr (0, [.ref hw, .int (nI b.2)])), (hw, .inl (cJ, 2500, .inr (.inl wd))), (la, .inr (1, [.int (nI bc), .ref hl1, .ref hi1, .ref hs1])), (hl1, .inl (cJ, 32, .inr (.inl le))), (hi1, .inl (cI, 128, .inl wi))] H → va_D A [(o, .inr (3, [.ref ro, .int (nI rc), .ref bo, .ref so, .ref la, .ref lb])), (ro, .inl (cJ, 2000, .inr (.inl rq))), (bo, .inr (0, [.ref hw, .int (nI b.2)])), (hw, .inl (cJ, 2500, .inr (.inl wd))), (la, .inr (1, [.int (nI bc), .ref hl1, .ref hi1, .ref hs1])), (hl1, .inl (cJ, 32, .inr (.inl le))), (hi1, .inl (cI, 128, .inl wi))] → va_S A s.heap H locs → ∀ (ls : Array Slot), lv_has ls 10 [(0, .ref o), (3, .long lv), (5, .int (nI w)), (6, .int (nI (p_pe k pp rc))), (7, .int (nI (p_pe k (pp + 1) rc))), (8, .int (nI q)), (9, .int (nI i))] → W p l e { frames := 2, cells := 0, slots := 0, locals := 53 } s m ([.ref o, .int (nI k), .int (nI pp)] : List Value).toArray below meth c H locs 0 0 (MQ below (zQ D (zEq none [(o, .inr (3, [.ref ro, .int (nI rc), .ref bo, .ref so, .ref la, .ref lb])), (ro, .inl (cJ, 2000, .inr (.inl rq))), (bo, .inr (0, [.ref hw, .int (nI ((p_wp rq rc lv w k pp b).2))])), (hw, .inl (cJ, 2500, .inr (.inl ((p_wp rq rc lv w k pp b).1)))), (la, .inr (1, [.int (nI bc), .ref hl1, .ref hi1, .ref hs1])), (hl1, .inl (cJ, 32, .inr (.inl le))), (hi1, .inl (cI, 128, .inl wi))]) A) ([.ref o, .int (nI k), .int (nI pp)] : List Value).toArray s 0 0 A) (F0 m 65 ls []) := by
    intro n
    induction n with
    | zero => intro i q wd h1 hq hR hmu; exact absurd hmu (Nat.not_lt_zero _)
    | succ n ih =>
      intro i q wd h1 hq hR hmu H locs hP hD hS ls hl
      have ih65 := ih
      refine lv_iload hx hb d_DeltaRows_writePart_65 (lv_at hl 6 rfl) ?_
      refine lv_iload hx hb d_DeltaRows_writePart_67 (lv_at hl 3 rfl) ?_
      refine lv_bipush (v := nI 16) hx hb d_DeltaRows_writePart_69 (by decide +kernel) ?_
      refine lv_iadd hx hb d_DeltaRows_writePart_71 (z_i (nI_add (p_pe k pp rc) 16) ?_)
      refine zn_ge (a := i) (b := p_pe k pp rc + 16) (by omega) (by omega) hx hb d_DeltaRows_writePart_72 (tgt := 129) (by decide) (fun c_72 => ?_) (fun c_72 => ?_)
      · skip
        refine lv_aload_n hx hb d_DeltaRows_writePart_129 rfl (lv_at hl 0 rfl) ?_
        refine g_DeltaRows_20 hx hb hts hown hK hP 0 rfl rfl d_DeltaRows_writePart_130 ?_
        refine lv_dup hx hb d_DeltaRows_writePart_133 rfl ?_
        refine g_DeltaRows_65 hx hb hts hown hK hP 2 rfl rfl d_DeltaRows_writePart_134 ?_
        refine lv_iload hx hb d_DeltaRows_writePart_137 (lv_at hl 2 rfl) ?_
        refine z_callEi (wr := [(o, .inr (3, [.ref ro, .int (nI rc), .ref bo, .ref so, .ref la, .ref lb])), (ro, .inl (cJ, 2000, .inr (.inl rq))), (bo, .inr (0, [.ref hw, .int (nI b.2)])), (hw, .inl (cJ, 2500, .inr (.inl wd))), (la, .inr (1, [.int (nI bc), .ref hl1, .ref hi1, .ref hs1])), (hl1, .inl (cJ, 32, .inr (.inl le))), (hi1, .inl (cI, 128, .inl wi))]) (w2 := [(o, .inr (3, [.ref ro, .int (nI rc), .ref bo, .ref so, .ref la, .ref lb])), (ro, .inl (cJ, 2000, .inr (.inl rq))), (bo, .inr (0, [.ref hw, .int (nI b.2)])), (hw, .inl (cJ, 2500, .inr (.inl wd))), (la, .inr (1, [.int (nI bc), .ref hl1, .ref hi1, .ref hs1])), (hl1, .inl (cJ, 32, .inr (.inl le))), (hi1, .inl (cI, 128, .inl wi))]) (z_runS (rest := [.int (nI b.2), .ref bo]) hx hb hml hown hts hK hN (c_DeltaRows_partBytes l D cI cJ w (by (try dsimp only); omega)) kk_DeltaRows_143 (zP.cut hP [] rfl) (hD.sub [] (by decide) rfl) rfl hl.1 rfl (Nat.le_of_ble_eq_true rfl) d_DeltaRows_writePart_139 (by decide) (by decide)) hP hD hS hA [] [0, 1, 2, 3, 4, 5, 6] [0, 1, 2, 3, 4, 5, 6] rfl rfl (by decide) (by decide) (by decide) rfl (fun H locs hP hD hS => ?_)
        refine lv_iadd hx hb d_DeltaRows_writePart_142 (z_i (nI_add b.2 (w * 16 / 8)) ?_)
        refine p_DeltaRows_65 (w2 := [(o, .inr (3, [.ref ro, .int (nI rc), .ref bo, .ref so, .ref la, .ref lb])), (ro, .inl (cJ, 2000, .inr (.inl rq))), (bo, .inr (0, [.ref hw, .int (nI (b.2 + w * 16 / 8))])), (hw, .inl (cJ, 2500, .inr (.inl wd))), (la, .inr (1, [.int (nI bc), .ref hl1, .ref hi1, .ref hs1])), (hl1, .inl (cJ, 32, .inr (.inl le))), (hi1, .inl (cI, 128, .inl wi))]) hx hb hts hown hK hP hD hS 2 rfl (Nat.le_of_ble_eq_true rfl) rfl d_DeltaRows_writePart_143 (fun H locs hP hD hS => ?_)
        exact z_vret hx hb hr hlocks hS hP hD ⟨rfl, by rw [← hR, show p_pe k pp rc + 16 - i = 0 by omega]; rfl⟩ d_DeltaRows_writePart_146
      · skip
        refine lv_aload_n hx hb d_DeltaRows_writePart_75 rfl (lv_at hl 0 rfl) ?_
        refine g_DeltaRows_20 hx hb hts hown hK hP 0 rfl rfl d_DeltaRows_writePart_76 ?_
        refine lv_iload hx hb d_DeltaRows_writePart_79 (lv_at hl 5 rfl) ?_
        refine lv_iload hx hb d_DeltaRows_writePart_81 (lv_at hl 2 rfl) ?_
        refine lv_iload hx hb d_DeltaRows_writePart_83 (lv_at hl 6 rfl) ?_
        refine lv_iload hx hb d_DeltaRows_writePart_85 (lv_at hl 4 rfl) ?_
        refine zn_ge (a := i) (b := p_pe k (pp + 1) rc) (by omega) (by omega) hx hb d_DeltaRows_writePart_87 (tgt := 112) (by decide) (fun c_87 => ?_) (fun c_87 => ?_)
        · skip
          refine lv_lconst (v := 0) hx hb d_DeltaRows_writePart_112 (by decide +kernel) ?_
          refine z_callEv (wr := [(o, .inr (3, [.ref ro, .int (nI rc), .ref bo, .ref so, .ref la, .ref lb])), (ro, .inl (cJ, 2000, .inr (.inl rq))), (la, .inr (1, [.int (nI bc), .ref hl1, .ref hi1, .ref hs1])), (hl1, .inl (cJ, 32, .inr (.inl le))), (hi1, .inl (cI, 128, .inl wi))]) (w2 := [(o, .inr (3, [.ref ro, .int (nI rc), .ref bo, .ref so, .ref la, .ref lb])), (ro, .inl (cJ, 2000, .inr (.inl rq))), (bo, .inr (0, [.ref hw, .int (nI (wd, b.2).2)])), (hw, .inl (cJ, 2500, .inr (.inl (p_setBits (wd, b.2).1 q w 0)))), (la, .inr (1, [.int (nI bc), .ref hl1, .ref hi1, .ref hs1])), (hl1, .inl (cJ, 32, .inr (.inl le))), (hi1, .inl (cI, 128, .inl wi))]) (z_runV (rest := []) hx hb hml hown hts hK hN (c_ByteRow_setBits l D cI cJ bo hw (wd, b.2) q w 0 (by (try dsimp only); omega) (by (try dsimp only); omega)) kk_DeltaRows_139 (zP.cut hP [2, 3] rfl) (hD.sub [2, 3] (by decide) rfl) 0 rfl rfl rfl hl.1 rfl (Nat.le_of_ble_eq_true rfl) d_DeltaRows_writePart_113 (by decide) (by decide)) hP hD hS hA [2, 3] [0, 1, 4, 5, 6] [0, 1, 5, 6, 2, 3, 4] rfl rfl (by decide) (by decide) (by decide) rfl (fun H locs hP hD hS => ?_)
          refine lv_iload hx hb d_DeltaRows_writePart_116 (lv_at hl 5 rfl) ?_
          refine lv_iload hx hb d_DeltaRows_writePart_118 (lv_at hl 2 rfl) ?_
          refine lv_iadd hx hb d_DeltaRows_writePart_120 (z_i (nI_add q w) ?_)
          refine lv_istore (lv' := [(8, .int (nI (q + w))), (0, .ref o), (3, .long lv), (5, .int (nI w)), (6, .int (nI (p_pe k pp rc))), (7, .int (nI (p_pe k (pp + 1) rc))), (9, .int (nI i))]) hx hb d_DeltaRows_writePart_121 hl (by decide) rfl (fun ls hl => ?_)
          refine lv_iinc (v := nI (i + 1)) (lv' := [(9, .int (nI (i + 1))), (8, .int (nI (q + w))), (0, .ref o), (3, .long lv), (5, .int (nI w)), (6, .int (nI (p_pe k pp rc))), (7, .int (nI (p_pe k (pp + 1) rc)))]) hx hb d_DeltaRows_writePart_123 hl (k := 6) rfl (zinc i 1) (by decide) rfl (fun ls hl => ?_)
          refine lv_goto (tgt := 65) hx hb d_DeltaRows_writePart_126 (by decide) ?_
          exact ih65 (i + 1) (q + w) (p_setBits wd q w (if i < p_pe k (pp + 1) rc then rq i - rq (i - 1) - lv else 0)) (by omega) (by omega) (by rw [show p_pe k pp rc + 16 - i = (p_pe k pp rc + 16 - (i + 1)) + 1 by omega, p_wpl] at hR; exact hR) (by omega) _ _ (by first | (rw [if_pos c_87]; exact hP) | (rw [if_neg (Nat.not_lt.mpr c_87)]; exact hP)) (by first | (rw [if_pos c_87]; exact hD) | (rw [if_neg (Nat.not_lt.mpr c_87)]; exact hD)) hS ls (lv_sub hl [2, 3, 4, 5, 6, 1, 0] rfl)
        · skip
          refine lv_aload_n hx hb d_DeltaRows_writePart_90 rfl (lv_at hl 0 rfl) ?_
          refine g_DeltaRows_9 hx hb hts hown hK hP 0 rfl rfl d_DeltaRows_writePart_91 ?_
          refine lv_iload hx hb d_DeltaRows_writePart_94 (lv_at hl 6 rfl) ?_
          refine z_lald hx hb hK hP 1 1 rfl rfl (by omega) (by decide) d_DeltaRows_writePart_96 ?_
          refine lv_aload_n hx hb d_DeltaRows_writePart_97 rfl (lv_at hl 0 rfl) ?_
          refine g_DeltaRows_9 hx hb hts hown hK hP 0 rfl rfl d_DeltaRows_writePart_98 ?_
          refine lv_iload hx hb d_DeltaRows_writePart_101 (lv_at hl 6 rfl) ?_
          refine lv_iconst (v := nI 1) hx hb d_DeltaRows_writePart_103 (by decide +kernel) ?_
          refine lv_isub hx hb d_DeltaRows_writePart_104 (z_i (pk_sub (a := i) (b := 1) (by omega)) ?_)
          refine z_lald hx hb hK hP 1 1 rfl rfl (by omega) (by decide) d_DeltaRows_writePart_105 ?_
          refine lv_lsub hx hb d_DeltaRows_writePart_106 ?_
          refine lv_lload_n hx hb d_DeltaRows_writePart_107 rfl (lv_at hl 1 rfl) ?_
          refine lv_lsub hx hb d_DeltaRows_writePart_108 ?_
          refine lv_goto (tgt := 113) hx hb d_DeltaRows_writePart_109 (by decide) ?_
          refine z_callEv (wr := [(o, .inr (3, [.ref ro, .int (nI rc), .ref bo, .ref so, .ref la, .ref lb])), (ro, .inl (cJ, 2000, .inr (.inl rq))), (la, .inr (1, [.int (nI bc), .ref hl1, .ref hi1, .ref hs1])), (hl1, .inl (cJ, 32, .inr (.inl le))), (hi1, .inl (cI, 128, .inl wi))]) (w2 := [(o, .inr (3, [.ref ro, .int (nI rc), .ref bo, .ref so, .ref la, .ref lb])), (ro, .inl (cJ, 2000, .inr (.inl rq))), (bo, .inr (0, [.ref hw, .int (nI (wd, b.2).2)])), (hw, .inl (cJ, 2500, .inr (.inl (p_setBits (wd, b.2).1 q w (((rq i) - (rq (i - 1))) - lv))))), (la, .inr (1, [.int (nI bc), .ref hl1, .ref hi1, .ref hs1])), (hl1, .inl (cJ, 32, .inr (.inl le))), (hi1, .inl (cI, 128, .inl wi))]) (z_runV (rest := []) hx hb hml hown hts hK hN (c_ByteRow_setBits l D cI cJ bo hw (wd, b.2) q w (((rq i) - (rq (i - 1))) - lv) (by (try dsimp only); omega) (by (try dsimp only); omega)) kk_DeltaRows_139 (zP.cut hP [2, 3] rfl) (hD.sub [2, 3] (by decide) rfl) 0 rfl rfl rfl hl.1 rfl (Nat.le_of_ble_eq_true rfl) d_DeltaRows_writePart_113 (by decide) (by decide)) hP hD hS hA [2, 3] [0, 1, 4, 5, 6] [0, 1, 5, 6, 2, 3, 4] rfl rfl (by decide) (by decide) (by decide) rfl (fun H locs hP hD hS => ?_)
          refine lv_iload hx hb d_DeltaRows_writePart_116 (lv_at hl 5 rfl) ?_
          refine lv_iload hx hb d_DeltaRows_writePart_118 (lv_at hl 2 rfl) ?_
          refine lv_iadd hx hb d_DeltaRows_writePart_120 (z_i (nI_add q w) ?_)
          refine lv_istore (lv' := [(8, .int (nI (q + w))), (0, .ref o), (3, .long lv), (5, .int (nI w)), (6, .int (nI (p_pe k pp rc))), (7, .int (nI (p_pe k (pp + 1) rc))), (9, .int (nI i))]) hx hb d_DeltaRows_writePart_121 hl (by decide) rfl (fun ls hl => ?_)
          refine lv_iinc (v := nI (i + 1)) (lv' := [(9, .int (nI (i + 1))), (8, .int (nI (q + w))), (0, .ref o), (3, .long lv), (5, .int (nI w)), (6, .int (nI (p_pe k pp rc))), (7, .int (nI (p_pe k (pp + 1) rc)))]) hx hb d_DeltaRows_writePart_123 hl (k := 6) rfl (zinc i 1) (by decide) rfl (fun ls hl => ?_)
          refine lv_goto (tgt := 65) hx hb d_DeltaRows_writePart_126 (by decide) ?_
          exact ih65 (i + 1) (q + w) (p_setBits wd q w (if i < p_pe k (pp + 1) rc then rq i - rq (i - 1) - lv else 0)) (by omega) (by omega) (by rw [show p_pe k pp rc + 16 - i = (p_pe k pp rc + 16 - (i + 1)) + 1 by omega, p_wpl] at hR; exact hR) (by omega) _ _ (by first | (rw [if_pos c_87]; exact hP) | (rw [if_neg (Nat.not_lt.mpr c_87)]; exact hP)) (by first | (rw [if_pos c_87]; exact hD) | (rw [if_neg (Nat.not_lt.mpr c_87)]; exact hD)) hS ls (lv_sub hl [2, 3, 4, 5, 6, 1, 0] rfl)
  exact hlp65 _ (p_pe k pp rc) (b.2 * 8) b.1 (by omega) (by omega) (by unfold p_wp; rw [show p_pe k pp rc + 16 - p_pe k pp rc = 16 by omega]) (Nat.lt_succ_self _) _ _ hP hD hS ls (lv_sub hl [6, 5, 4, 3, 2, 1, 0] rfl)

set_option maxHeartbeats 4000000 in
set_option maxRecDepth 100000 in
theorem c_DeltaRows_writeBlock (l : Launch) (D : va_G) (cI cJ : ClassId) (o : Nat) (ro : Nat) (bo : Nat) (so : Nat) (la : Nat) (lb : Nat) (rc : Nat) (rq : Nat → Int64) (hl1 : Nat) (hi1 : Nat) (hs1 : Nat) (bc : Nat) (hw : Nat) (x : WW) (k : Nat) (hrc : rc ≤ 2000) (hk : k < p_bf rc) (hu : x.1.2 ≤ 18000) : Ct l D (zT cI cJ) y_DeltaRows_writeBlock b_DeltaRows_writeBlock 6 none 5 121 0 0 [.ref o, .int (nI k)] [(o, .inr (3, [.ref ro, .int (nI rc), .ref bo, .ref so, .ref la, .ref lb])), (ro, .inl (cJ, 2000, .inr (.inl rq))), (bo, .inr (0, [.ref hw, .int (nI x.1.2)])), (hw, .inl (cJ, 2500, .inr (.inl x.1.1))), (la, .inr (1, [.int (nI bc), .ref hl1, .ref hi1, .ref hs1])), (hl1, .inl (cJ, 32, .inr (.inl x.2.1))), (hi1, .inl (cI, 128, .inl x.2.2.1)), (hs1, .inl (cI, 128, .inl x.2.2.2))] (zEq none [(o, .inr (3, [.ref ro, .int (nI rc), .ref bo, .ref so, .ref la, .ref lb])), (ro, .inl (cJ, 2000, .inr (.inl rq))), (bo, .inr (0, [.ref hw, .int (nI ((p_wb rq rc k x).1.2))])), (hw, .inl (cJ, 2500, .inr (.inl ((p_wb rq rc k x).1.1)))), (la, .inr (1, [.int (nI bc), .ref hl1, .ref hi1, .ref hs1])), (hl1, .inl (cJ, 32, .inr (.inl ((p_wb rq rc k x).2.1)))), (hi1, .inl (cI, 128, .inl ((p_wb rq rc k x).2.2.1))), (hs1, .inl (cI, 128, .inl ((p_wb rq rc k x).2.2.2)))]) := by
  refine Ct.ofW (by decide) (Nat.le_of_ble_eq_true rfl) ?_
  intro p e s m below meth c A ls C0 hP hD hS hl
  obtain ⟨hx, hb, hml, hown, hts, hK, hN, hr, hlocks, hA, hnm⟩ := C0
  have hl : lv_has ls 6 [(0, .ref o), (1, .int (nI k))] := hl
  have hown : s.vm.findClass R_DeltaRows = some m.cls := hown
  have hk2 := p_bf_in hk
  have hk3 := p_bf_le hrc
  have u1 := p_av_le1 (b := x.1) (v := p_zig (p_ld rq rc k))
  have u2 := fun t => p_wbw_le (rq := rq) (rc := rc) (le := (p_ld rq rc k)) (k := k) (x := ((p_av x.1 (p_zig (p_ld rq rc k))), x.2.2.1)) t
  have u3 := fun t => p_wbp_le (rq := rq) (rc := rc) (le := (p_ld rq rc k)) (k := k) (x := ((p_wbw rq rc (p_ld rq rc k) k 4 ((p_av x.1 (p_zig (p_ld rq rc k))), x.2.2.1)).1, x.2.2.2)) t
  have u4 := u2 4
  dsimp only at u2 u3 u4
  refine lv_aload_n hx hb d_DeltaRows_writeBlock_0 rfl (lv_at hl 0 rfl) ?_
  refine lv_iload_n hx hb d_DeltaRows_writeBlock_1 rfl (lv_at hl 1 rfl) ?_
  refine z_callEl (wr := [(bo, .inr (0, [.ref hw, .int (nI x.1.2)])), (hw, .inl (cJ, 2500, .inr (.inl x.1.1))), (la, .inr (1, [.int (nI bc), .ref hl1, .ref hi1, .ref hs1])), (hl1, .inl (cJ, 32, .inr (.inl x.2.1))), (hi1, .inl (cI, 128, .inl x.2.2.1)), (hs1, .inl (cI, 128, .inl x.2.2.2))]) (w2 := [(o, .inr (3, [.ref ro, .int (nI rc), .ref bo, .ref so, .ref la, .ref lb])), (ro, .inl (cJ, 2000, .inr (.inl rq))), (bo, .inr (0, [.ref hw, .int (nI x.1.2)])), (hw, .inl (cJ, 2500, .inr (.inl x.1.1))), (la, .inr (1, [.int (nI bc), .ref hl1, .ref hi1, .ref hs1])), (hl1, .inl (cJ, 32, .inr (.inl x.2.1))), (hi1, .inl (cI, 128, .inl x.2.2.1)), (hs1, .inl (cI, 128, .inl x.2.2.2))]) (z_runV (rest := []) hx hb hml hown hts hK hN (c_DeltaRows_leastDifference l D cI cJ o ro bo so la lb rc rq k (by (try dsimp only); omega) (by (try dsimp only); omega)) kk_DeltaRows_112 (zP.cut hP [0, 1] rfl) (hD.sub [0, 1] (by decide) rfl) 0 rfl rfl rfl hl.1 rfl (Nat.le_of_ble_eq_true rfl) d_DeltaRows_writeBlock_2 (by decide) (by decide)) hP hD hS hA [0, 1] [2, 3, 4, 5, 6, 7] [6, 7, 0, 1, 2, 3, 4, 5] rfl rfl (by decide) (by decide) (by decide) rfl (fun H locs hP hD hS => ?_)
  refine lv_lstore_n (lv' := [(2, .long (p_ld rq rc k)), (0, .ref o), (1, .int (nI k))]) hx hb d_DeltaRows_writeBlock_5 rfl hl (by decide) rfl (fun ls hl => ?_)
  refine lv_aload_n hx hb d_DeltaRows_writeBlock_6 rfl (lv_at hl 1 rfl) ?_
  refine g_DeltaRows_36 hx hb hts hown hK hP 0 rfl rfl d_DeltaRows_writeBlock_7 ?_
  refine g_DeltaRows_98 hx hb hts hown hK hP 4 rfl rfl d_DeltaRows_writeBlock_10 ?_
  refine lv_iload_n hx hb d_DeltaRows_writeBlock_13 rfl (lv_at hl 2 rfl) ?_
  refine lv_lload_n hx hb d_DeltaRows_writeBlock_14 rfl (lv_at hl 0 rfl) ?_
  refine z_last (w2 := [(o, .inr (3, [.ref ro, .int (nI rc), .ref bo, .ref so, .ref la, .ref lb])), (ro, .inl (cJ, 2000, .inr (.inl rq))), (bo, .inr (0, [.ref hw, .int (nI x.1.2)])), (hw, .inl (cJ, 2500, .inr (.inl x.1.1))), (la, .inr (1, [.int (nI bc), .ref hl1, .ref hi1, .ref hs1])), (hl1, .inl (cJ, 32, .inr (.inl (vp_updL x.2.1 k (p_ld rq rc k))))), (hi1, .inl (cI, 128, .inl x.2.2.1)), (hs1, .inl (cI, 128, .inl x.2.2.2))]) hx hb hK hP hD hS 5 1 rfl rfl (by omega) (by decide) d_DeltaRows_writeBlock_15 rfl (fun H locs hP hD hS => ?_)
  refine lv_aload_n hx hb d_DeltaRows_writeBlock_16 rfl (lv_at hl 1 rfl) ?_
  refine g_DeltaRows_20 hx hb hts hown hK hP 0 rfl rfl d_DeltaRows_writeBlock_17 ?_
  refine lv_lload_n hx hb d_DeltaRows_writeBlock_20 rfl (lv_at hl 0 rfl) ?_
  refine z_callEl (wr := [(o, .inr (3, [.ref ro, .int (nI rc), .ref bo, .ref so, .ref la, .ref lb])), (ro, .inl (cJ, 2000, .inr (.inl rq))), (bo, .inr (0, [.ref hw, .int (nI x.1.2)])), (hw, .inl (cJ, 2500, .inr (.inl x.1.1))), (la, .inr (1, [.int (nI bc), .ref hl1, .ref hi1, .ref hs1])), (hl1, .inl (cJ, 32, .inr (.inl (vp_updL x.2.1 k (p_ld rq rc k))))), (hi1, .inl (cI, 128, .inl x.2.2.1)), (hs1, .inl (cI, 128, .inl x.2.2.2))]) (w2 := [(o, .inr (3, [.ref ro, .int (nI rc), .ref bo, .ref so, .ref la, .ref lb])), (ro, .inl (cJ, 2000, .inr (.inl rq))), (bo, .inr (0, [.ref hw, .int (nI x.1.2)])), (hw, .inl (cJ, 2500, .inr (.inl x.1.1))), (la, .inr (1, [.int (nI bc), .ref hl1, .ref hi1, .ref hs1])), (hl1, .inl (cJ, 32, .inr (.inl (vp_updL x.2.1 k (p_ld rq rc k))))), (hi1, .inl (cI, 128, .inl x.2.2.1)), (hs1, .inl (cI, 128, .inl x.2.2.2))]) (z_runS (rest := [.ref bo]) hx hb hml hown hts hK hN (c_DeltaRows_zigzag l D cI cJ (p_ld rq rc k) ) kk_DeltaRows_51 (zP.cut hP [] rfl) (hD.sub [] (by decide) rfl) rfl hl.1 rfl (Nat.le_of_ble_eq_true rfl) d_DeltaRows_writeBlock_21 (by decide) (by decide)) hP hD hS hA [] [0, 1, 2, 3, 4, 5, 6, 7] [0, 1, 2, 3, 4, 5, 6, 7] rfl rfl (by decide) (by decide) (by decide) rfl (fun H locs hP hD hS => ?_)
  refine z_callEv (wr := [(o, .inr (3, [.ref ro, .int (nI rc), .ref bo, .ref so, .ref la, .ref lb])), (ro, .inl (cJ, 2000, .inr (.inl rq))), (la, .inr (1, [.int (nI bc), .ref hl1, .ref hi1, .ref hs1])), (hl1, .inl (cJ, 32, .inr (.inl (vp_updL x.2.1 k (p_ld rq rc k))))), (hi1, .inl (cI, 128, .inl x.2.2.1)), (hs1, .inl (cI, 128, .inl x.2.2.2))]) (w2 := [(o, .inr (3, [.ref ro, .int (nI rc), .ref bo, .ref so, .ref la, .ref lb])), (ro, .inl (cJ, 2000, .inr (.inl rq))), (bo, .inr (0, [.ref hw, .int (nI ((p_av x.1 (p_zig (p_ld rq rc k))).2))])), (hw, .inl (cJ, 2500, .inr (.inl ((p_av x.1 (p_zig (p_ld rq rc k))).1)))), (la, .inr (1, [.int (nI bc), .ref hl1, .ref hi1, .ref hs1])), (hl1, .inl (cJ, 32, .inr (.inl (vp_updL x.2.1 k (p_ld rq rc k))))), (hi1, .inl (cI, 128, .inl x.2.2.1)), (hs1, .inl (cI, 128, .inl x.2.2.2))]) (z_runV (rest := []) hx hb hml hown hts hK hN (c_ByteRow_addVarint l D cI cJ bo hw x.1 (p_zig (p_ld rq rc k)) (by (try dsimp only); omega)) kk_DeltaRows_47 (zP.cut hP [2, 3] rfl) (hD.sub [2, 3] (by decide) rfl) 0 rfl rfl rfl hl.1 rfl (Nat.le_of_ble_eq_true rfl) d_DeltaRows_writeBlock_24 (by decide) (by decide)) hP hD hS hA [2, 3] [0, 1, 4, 5, 6, 7] [0, 1, 6, 7, 2, 3, 4, 5] rfl rfl (by decide) (by decide) (by decide) rfl (fun H locs hP hD hS => ?_)
  refine lv_iconst (v := nI 0) hx hb d_DeltaRows_writeBlock_27 (by decide +kernel) ?_
  refine lv_istore (lv' := [(4, .int (nI 0)), (2, .long (p_ld rq rc k)), (0, .ref o), (1, .int (nI k))]) hx hb d_DeltaRows_writeBlock_28 hl (by decide) rfl (fun ls hl => ?_)
  have hlp30 : ∀ (n : Nat) (t : Nat), (t ≤ 4) → 4 - t < n → ∀ (H : Heap) (locs : List Loc), va_P D classes [(o, .inr (3, [.ref ro, .int (nI rc), .ref bo, .ref so, .ref la, .ref lb])), (ro, .inl (cJ, 2000, .inr (.inl rq))), (bo, .inr (0, [.ref hw, .int (nI ((p_wbw rq rc (p_ld rq rc k) k t ((p_av x.1 (p_zig (p_ld rq rc k))), x.2.2.1)).1.2))])), (hw, .inl (cJ, 2500, .inr (.inl ((p_wbw rq rc (p_ld rq rc k) k t ((p_av x.1 (p_zig (p_ld rq rc k))), x.2.2.1)).1.1)))), (la, .inr (1, [.int (nI bc), .ref hl1, .ref hi1, .ref hs1])), (hl1, .inl (cJ, 32, .inr (.inl (vp_updL x.2.1 k (p_ld rq rc k))))), (hi1, .inl (cI, 128, .inl ((p_wbw rq rc (p_ld rq rc k) k t ((p_av x.1 (p_zig (p_ld rq rc k))), x.2.2.1)).2))), (hs1, .inl (cI, 128, .inl x.2.2.2))] H → va_D A [(o, .inr (3, [.ref ro, .int (nI rc), .ref bo, .ref so, .ref la, .ref lb])), (ro, .inl (cJ, 2000, .inr (.inl rq))), (bo, .inr (0, [.ref hw, .int (nI ((p_wbw rq rc (p_ld rq rc k) k t ((p_av x.1 (p_zig (p_ld rq rc k))), x.2.2.1)).1.2))])), (hw, .inl (cJ, 2500, .inr (.inl ((p_wbw rq rc (p_ld rq rc k) k t ((p_av x.1 (p_zig (p_ld rq rc k))), x.2.2.1)).1.1)))), (la, .inr (1, [.int (nI bc), .ref hl1, .ref hi1, .ref hs1])), (hl1, .inl (cJ, 32, .inr (.inl (vp_updL x.2.1 k (p_ld rq rc k))))), (hi1, .inl (cI, 128, .inl ((p_wbw rq rc (p_ld rq rc k) k t ((p_av x.1 (p_zig (p_ld rq rc k))), x.2.2.1)).2))), (hs1, .inl (cI, 128, .inl x.2.2.2))] → va_S A s.heap H locs → ∀ (ls : Array Slot), lv_has ls 6 [(0, .ref o), (1, .int (nI k)), (4, .int (nI t))] → W p l e { frames := 5, cells := 0, slots := 0, locals := 121 } s m ([.ref o, .int (nI k)] : List Value).toArray below meth c H locs 0 0 (MQ below (zQ D (zEq none [(o, .inr (3, [.ref ro, .int (nI rc), .ref bo, .ref so, .ref la, .ref lb])), (ro, .inl (cJ, 2000, .inr (.inl rq))), (bo, .inr (0, [.ref hw, .int (nI ((p_wb rq rc k x).1.2))])), (hw, .inl (cJ, 2500, .inr (.inl ((p_wb rq rc k x).1.1)))), (la, .inr (1, [.int (nI bc), .ref hl1, .ref hi1, .ref hs1])), (hl1, .inl (cJ, 32, .inr (.inl ((p_wb rq rc k x).2.1)))), (hi1, .inl (cI, 128, .inl ((p_wb rq rc k x).2.2.1))), (hs1, .inl (cI, 128, .inl ((p_wb rq rc k x).2.2.2)))]) A) ([.ref o, .int (nI k)] : List Value).toArray s 0 0 A) (F0 m 30 ls []) := by
    intro n
    induction n with
    | zero => intro t h1 hmu; exact absurd hmu (Nat.not_lt_zero _)
    | succ n ih =>
      intro t h1 hmu H locs hP hD hS ls hl
      have u5 := u2 t
      have ih30 := ih
      refine lv_iload hx hb d_DeltaRows_writeBlock_30 (lv_at hl 2 rfl) ?_
      refine lv_iconst (v := nI 4) hx hb d_DeltaRows_writeBlock_32 (by decide +kernel) ?_
      refine zn_ge (a := t) (b := 4) (by omega) (by omega) hx hb d_DeltaRows_writeBlock_33 (tgt := 77) (by decide) (fun c_33 => ?_) (fun c_33 => ?_)
      · skip
        refine lv_iconst (v := nI 0) hx hb d_DeltaRows_writeBlock_77 (by decide +kernel) ?_
        refine lv_istore (lv' := [(4, .int (nI 0)), (0, .ref o), (1, .int (nI k))]) hx hb d_DeltaRows_writeBlock_78 hl (by decide) rfl (fun ls hl => ?_)
        have hlp80 : ∀ (n : Nat) (t : Nat), (t ≤ 4) → 4 - t < n → ∀ (H : Heap) (locs : List Loc), va_P D classes [(o, .inr (3, [.ref ro, .int (nI rc), .ref bo, .ref so, .ref la, .ref lb])), (ro, .inl (cJ, 2000, .inr (.inl rq))), (bo, .inr (0, [.ref hw, .int (nI ((p_wbp rq rc (p_ld rq rc k) k t ((p_wbw rq rc (p_ld rq rc k) k 4 ((p_av x.1 (p_zig (p_ld rq rc k))), x.2.2.1)).1, x.2.2.2)).1.2))])), (hw, .inl (cJ, 2500, .inr (.inl ((p_wbp rq rc (p_ld rq rc k) k t ((p_wbw rq rc (p_ld rq rc k) k 4 ((p_av x.1 (p_zig (p_ld rq rc k))), x.2.2.1)).1, x.2.2.2)).1.1)))), (la, .inr (1, [.int (nI bc), .ref hl1, .ref hi1, .ref hs1])), (hl1, .inl (cJ, 32, .inr (.inl (vp_updL x.2.1 k (p_ld rq rc k))))), (hi1, .inl (cI, 128, .inl ((p_wbw rq rc (p_ld rq rc k) k 4 ((p_av x.1 (p_zig (p_ld rq rc k))), x.2.2.1)).2))), (hs1, .inl (cI, 128, .inl ((p_wbp rq rc (p_ld rq rc k) k t ((p_wbw rq rc (p_ld rq rc k) k 4 ((p_av x.1 (p_zig (p_ld rq rc k))), x.2.2.1)).1, x.2.2.2)).2)))] H → va_D A [(o, .inr (3, [.ref ro, .int (nI rc), .ref bo, .ref so, .ref la, .ref lb])), (ro, .inl (cJ, 2000, .inr (.inl rq))), (bo, .inr (0, [.ref hw, .int (nI ((p_wbp rq rc (p_ld rq rc k) k t ((p_wbw rq rc (p_ld rq rc k) k 4 ((p_av x.1 (p_zig (p_ld rq rc k))), x.2.2.1)).1, x.2.2.2)).1.2))])), (hw, .inl (cJ, 2500, .inr (.inl ((p_wbp rq rc (p_ld rq rc k) k t ((p_wbw rq rc (p_ld rq rc k) k 4 ((p_av x.1 (p_zig (p_ld rq rc k))), x.2.2.1)).1, x.2.2.2)).1.1)))), (la, .inr (1, [.int (nI bc), .ref hl1, .ref hi1, .ref hs1])), (hl1, .inl (cJ, 32, .inr (.inl (vp_updL x.2.1 k (p_ld rq rc k))))), (hi1, .inl (cI, 128, .inl ((p_wbw rq rc (p_ld rq rc k) k 4 ((p_av x.1 (p_zig (p_ld rq rc k))), x.2.2.1)).2))), (hs1, .inl (cI, 128, .inl ((p_wbp rq rc (p_ld rq rc k) k t ((p_wbw rq rc (p_ld rq rc k) k 4 ((p_av x.1 (p_zig (p_ld rq rc k))), x.2.2.1)).1, x.2.2.2)).2)))] → va_S A s.heap H locs → ∀ (ls : Array Slot), lv_has ls 6 [(0, .ref o), (1, .int (nI k)), (4, .int (nI t))] → W p l e { frames := 5, cells := 0, slots := 0, locals := 121 } s m ([.ref o, .int (nI k)] : List Value).toArray below meth c H locs 0 0 (MQ below (zQ D (zEq none [(o, .inr (3, [.ref ro, .int (nI rc), .ref bo, .ref so, .ref la, .ref lb])), (ro, .inl (cJ, 2000, .inr (.inl rq))), (bo, .inr (0, [.ref hw, .int (nI ((p_wb rq rc k x).1.2))])), (hw, .inl (cJ, 2500, .inr (.inl ((p_wb rq rc k x).1.1)))), (la, .inr (1, [.int (nI bc), .ref hl1, .ref hi1, .ref hs1])), (hl1, .inl (cJ, 32, .inr (.inl ((p_wb rq rc k x).2.1)))), (hi1, .inl (cI, 128, .inl ((p_wb rq rc k x).2.2.1))), (hs1, .inl (cI, 128, .inl ((p_wb rq rc k x).2.2.2)))]) A) ([.ref o, .int (nI k)] : List Value).toArray s 0 0 A) (F0 m 80 ls []) := by
          intro n
          induction n with
          | zero => intro t h1 hmu; exact absurd hmu (Nat.not_lt_zero _)
          | succ n ih =>
            intro t h1 hmu H locs hP hD hS ls hl
            have u5 := u3 t
            have ih80 := ih
            refine lv_iload hx hb d_DeltaRows_writeBlock_80 (lv_at hl 2 rfl) ?_
            refine lv_iconst (v := nI 4) hx hb d_DeltaRows_writeBlock_82 (by decide +kernel) ?_
            refine zn_ge (a := t) (b := 4) (by omega) (by omega) hx hb d_DeltaRows_writeBlock_83 (tgt := 120) (by decide) (fun c_83 => ?_) (fun c_83 => ?_)
            · skip
              exact z_vret hx hb hr hlocks hS hP hD ⟨rfl, by rw [show t = 4 by omega]; rfl⟩ d_DeltaRows_writeBlock_120
            · skip
              refine lv_aload_n hx hb d_DeltaRows_writeBlock_86 rfl (lv_at hl 0 rfl) ?_
              refine g_DeltaRows_36 hx hb hts hown hK hP 0 rfl rfl d_DeltaRows_writeBlock_87 ?_
              refine g_DeltaRows_109 hx hb hts hown hK hP 4 rfl rfl d_DeltaRows_writeBlock_90 ?_
              refine lv_iload_n hx hb d_DeltaRows_writeBlock_93 rfl (lv_at hl 1 rfl) ?_
              refine lv_iconst (v := nI 4) hx hb d_DeltaRows_writeBlock_94 (by decide +kernel) ?_
              refine lv_imul hx hb d_DeltaRows_writeBlock_95 (z_i (pk_mul k 4) ?_)
              refine lv_iload hx hb d_DeltaRows_writeBlock_96 (lv_at hl 2 rfl) ?_
              refine lv_iadd hx hb d_DeltaRows_writeBlock_98 (z_i (nI_add (k * 4) t) ?_)
              refine lv_aload_n hx hb d_DeltaRows_writeBlock_99 rfl (lv_at hl 0 rfl) ?_
              refine g_DeltaRows_20 hx hb hts hown hK hP 0 rfl rfl d_DeltaRows_writeBlock_100 ?_
              refine g_DeltaRows_65 hx hb hts hown hK hP 2 rfl rfl d_DeltaRows_writeBlock_103 ?_
              refine z_iast (w2 := [(o, .inr (3, [.ref ro, .int (nI rc), .ref bo, .ref so, .ref la, .ref lb])), (ro, .inl (cJ, 2000, .inr (.inl rq))), (bo, .inr (0, [.ref hw, .int (nI ((p_wbp rq rc (p_ld rq rc k) k t ((p_wbw rq rc (p_ld rq rc k) k 4 ((p_av x.1 (p_zig (p_ld rq rc k))), x.2.2.1)).1, x.2.2.2)).1.2))])), (hw, .inl (cJ, 2500, .inr (.inl ((p_wbp rq rc (p_ld rq rc k) k t ((p_wbw rq rc (p_ld rq rc k) k 4 ((p_av x.1 (p_zig (p_ld rq rc k))), x.2.2.1)).1, x.2.2.2)).1.1)))), (la, .inr (1, [.int (nI bc), .ref hl1, .ref hi1, .ref hs1])), (hl1, .inl (cJ, 32, .inr (.inl (vp_updL x.2.1 k (p_ld rq rc k))))), (hi1, .inl (cI, 128, .inl ((p_wbw rq rc (p_ld rq rc k) k 4 ((p_av x.1 (p_zig (p_ld rq rc k))), x.2.2.1)).2))), (hs1, .inl (cI, 128, .inl (upd ((p_wbp rq rc (p_ld rq rc k) k t ((p_wbw rq rc (p_ld rq rc k) k 4 ((p_av x.1 (p_zig (p_ld rq rc k))), x.2.2.1)).1, x.2.2.2)).2) (k * 4 + t) (nI ((p_wbp rq rc (p_ld rq rc k) k t ((p_wbw rq rc (p_ld rq rc k) k 4 ((p_av x.1 (p_zig (p_ld rq rc k))), x.2.2.1)).1, x.2.2.2)).1.2)))))]) hx hb hK hP hD hS 7 0 rfl rfl (by omega) (by decide) d_DeltaRows_writeBlock_106 rfl (fun H locs hP hD hS => ?_)
              refine lv_aload_n hx hb d_DeltaRows_writeBlock_107 rfl (lv_at hl 0 rfl) ?_
              refine lv_iload_n hx hb d_DeltaRows_writeBlock_108 rfl (lv_at hl 1 rfl) ?_
              refine lv_iload hx hb d_DeltaRows_writeBlock_109 (lv_at hl 2 rfl) ?_
              refine z_callEv (wr := [(hs1, .inl (cI, 128, .inl (upd ((p_wbp rq rc (p_ld rq rc k) k t ((p_wbw rq rc (p_ld rq rc k) k 4 ((p_av x.1 (p_zig (p_ld rq rc k))), x.2.2.1)).1, x.2.2.2)).2) (k * 4 + t) (nI ((p_wbp rq rc (p_ld rq rc k) k t ((p_wbw rq rc (p_ld rq rc k) k 4 ((p_av x.1 (p_zig (p_ld rq rc k))), x.2.2.1)).1, x.2.2.2)).1.2)))))]) (w2 := [(o, .inr (3, [.ref ro, .int (nI rc), .ref bo, .ref so, .ref la, .ref lb])), (ro, .inl (cJ, 2000, .inr (.inl rq))), (bo, .inr (0, [.ref hw, .int (nI ((p_wp rq rc (p_ld rq rc k) (p_wd rq rc (p_ld rq rc k) k t) k t ((p_wbp rq rc (p_ld rq rc k) k t ((p_wbw rq rc (p_ld rq rc k) k 4 ((p_av x.1 (p_zig (p_ld rq rc k))), x.2.2.1)).1, x.2.2.2)).1)).2))])), (hw, .inl (cJ, 2500, .inr (.inl ((p_wp rq rc (p_ld rq rc k) (p_wd rq rc (p_ld rq rc k) k t) k t ((p_wbp rq rc (p_ld rq rc k) k t ((p_wbw rq rc (p_ld rq rc k) k 4 ((p_av x.1 (p_zig (p_ld rq rc k))), x.2.2.1)).1, x.2.2.2)).1)).1)))), (la, .inr (1, [.int (nI bc), .ref hl1, .ref hi1, .ref hs1])), (hl1, .inl (cJ, 32, .inr (.inl (vp_updL x.2.1 k (p_ld rq rc k))))), (hi1, .inl (cI, 128, .inl ((p_wbw rq rc (p_ld rq rc k) k 4 ((p_av x.1 (p_zig (p_ld rq rc k))), x.2.2.1)).2))), (hs1, .inl (cI, 128, .inl (upd ((p_wbp rq rc (p_ld rq rc k) k t ((p_wbw rq rc (p_ld rq rc k) k 4 ((p_av x.1 (p_zig (p_ld rq rc k))), x.2.2.1)).1, x.2.2.2)).2) (k * 4 + t) (nI ((p_wbp rq rc (p_ld rq rc k) k t ((p_wbw rq rc (p_ld rq rc k) k 4 ((p_av x.1 (p_zig (p_ld rq rc k))), x.2.2.1)).1, x.2.2.2)).1.2)))))]) (z_runV (rest := []) hx hb hml hown hts hK hN (c_DeltaRows_writePart l D cI cJ o ro bo so la lb rc rq hl1 hi1 hs1 bc hw ((p_wbp rq rc (p_ld rq rc k) k t ((p_wbw rq rc (p_ld rq rc k) k 4 ((p_av x.1 (p_zig (p_ld rq rc k))), x.2.2.1)).1, x.2.2.2)).1) (vp_updL x.2.1 k (p_ld rq rc k)) ((p_wbw rq rc (p_ld rq rc k) k 4 ((p_av x.1 (p_zig (p_ld rq rc k))), x.2.2.1)).2) (p_ld rq rc k) (p_wd rq rc (p_ld rq rc k) k t) k t (by (try dsimp only); omega) (by (try dsimp only); omega) (by (try dsimp only); omega) pk_uLs (p_wbw_at c_83) (p_wd_le _ _ _ _ _) (by (try dsimp only); omega)) kk_DeltaRows_120 (zP.cut hP [0, 1, 2, 3, 4, 5, 6] rfl) (hD.sub [0, 1, 2, 3, 4, 5, 6] (by decide) rfl) 0 rfl rfl rfl hl.1 rfl (Nat.le_of_ble_eq_true rfl) d_DeltaRows_writeBlock_111 (by decide) (by decide)) hP hD hS hA [0, 1, 2, 3, 4, 5, 6] [7] [1, 2, 3, 4, 5, 6, 7, 0] rfl rfl (by decide) (by decide) (by decide) rfl (fun H locs hP hD hS => ?_)
              refine lv_iinc (v := nI (t + 1)) (lv' := [(4, .int (nI (t + 1))), (0, .ref o), (1, .int (nI k))]) hx hb d_DeltaRows_writeBlock_114 hl (k := 2) rfl (zinc t 1) (by decide) rfl (fun ls hl => ?_)
              refine lv_goto (tgt := 80) hx hb d_DeltaRows_writeBlock_117 (by decide) ?_
              exact ih80 (t + 1) (by omega) (by omega) _ _ hP hD hS ls (lv_sub hl [1, 2, 0] rfl)
        exact hlp80 _ 0 (by decide) (Nat.lt_succ_self _) _ _ (by rw [show t = 4 by omega] at hP; exact hP) (by rw [show t = 4 by omega] at hD; exact hD) hS ls (lv_sub hl [1, 2, 0] rfl)
      · skip
        refine lv_aload_n hx hb d_DeltaRows_writeBlock_36 rfl (lv_at hl 0 rfl) ?_
        refine lv_iload_n hx hb d_DeltaRows_writeBlock_37 rfl (lv_at hl 1 rfl) ?_
        refine lv_iload hx hb d_DeltaRows_writeBlock_38 (lv_at hl 2 rfl) ?_
        refine z_callEi (wr := [(bo, .inr (0, [.ref hw, .int (nI ((p_wbw rq rc (p_ld rq rc k) k t ((p_av x.1 (p_zig (p_ld rq rc k))), x.2.2.1)).1.2))])), (hw, .inl (cJ, 2500, .inr (.inl ((p_wbw rq rc (p_ld rq rc k) k t ((p_av x.1 (p_zig (p_ld rq rc k))), x.2.2.1)).1.1)))), (hi1, .inl (cI, 128, .inl ((p_wbw rq rc (p_ld rq rc k) k t ((p_av x.1 (p_zig (p_ld rq rc k))), x.2.2.1)).2))), (hs1, .inl (cI, 128, .inl x.2.2.2))]) (w2 := [(o, .inr (3, [.ref ro, .int (nI rc), .ref bo, .ref so, .ref la, .ref lb])), (ro, .inl (cJ, 2000, .inr (.inl rq))), (bo, .inr (0, [.ref hw, .int (nI ((p_wbw rq rc (p_ld rq rc k) k t ((p_av x.1 (p_zig (p_ld rq rc k))), x.2.2.1)).1.2))])), (hw, .inl (cJ, 2500, .inr (.inl ((p_wbw rq rc (p_ld rq rc k) k t ((p_av x.1 (p_zig (p_ld rq rc k))), x.2.2.1)).1.1)))), (la, .inr (1, [.int (nI bc), .ref hl1, .ref hi1, .ref hs1])), (hl1, .inl (cJ, 32, .inr (.inl (vp_updL x.2.1 k (p_ld rq rc k))))), (hi1, .inl (cI, 128, .inl ((p_wbw rq rc (p_ld rq rc k) k t ((p_av x.1 (p_zig (p_ld rq rc k))), x.2.2.1)).2))), (hs1, .inl (cI, 128, .inl x.2.2.2))]) (z_runV (rest := []) hx hb hml hown hts hK hN (c_DeltaRows_neededWidth l D cI cJ o ro bo so la lb rc rq hl1 hi1 hs1 bc (vp_updL x.2.1 k (p_ld rq rc k)) (p_ld rq rc k) k t (by (try dsimp only); omega) (by (try dsimp only); omega) (by (try dsimp only); omega) pk_uLs) kk_DeltaRows_116 (zP.cut hP [0, 1, 4, 5] rfl) (hD.sub [0, 1, 4, 5] (by decide) rfl) 0 rfl rfl rfl hl.1 rfl (Nat.le_of_ble_eq_true rfl) d_DeltaRows_writeBlock_40 (by decide) (by decide)) hP hD hS hA [0, 1, 4, 5] [2, 3, 6, 7] [4, 5, 0, 1, 6, 7, 2, 3] rfl rfl (by decide) (by decide) (by decide) rfl (fun H locs hP hD hS => ?_)
        refine lv_istore (lv' := [(5, .int (nI (p_wd rq rc (p_ld rq rc k) k t))), (0, .ref o), (1, .int (nI k)), (4, .int (nI t))]) hx hb d_DeltaRows_writeBlock_43 hl (by decide) rfl (fun ls hl => ?_)
        refine lv_aload_n hx hb d_DeltaRows_writeBlock_45 rfl (lv_at hl 1 rfl) ?_
        refine g_DeltaRows_36 hx hb hts hown hK hP 0 rfl rfl d_DeltaRows_writeBlock_46 ?_
        refine g_DeltaRows_105 hx hb hts hown hK hP 4 rfl rfl d_DeltaRows_writeBlock_49 ?_
        refine lv_iload_n hx hb d_DeltaRows_writeBlock_52 rfl (lv_at hl 2 rfl) ?_
        refine lv_iconst (v := nI 4) hx hb d_DeltaRows_writeBlock_53 (by decide +kernel) ?_
        refine lv_imul hx hb d_DeltaRows_writeBlock_54 (z_i (pk_mul k 4) ?_)
        refine lv_iload hx hb d_DeltaRows_writeBlock_55 (lv_at hl 3 rfl) ?_
        refine lv_iadd hx hb d_DeltaRows_writeBlock_57 (z_i (nI_add (k * 4) t) ?_)
        refine lv_iload hx hb d_DeltaRows_writeBlock_58 (lv_at hl 0 rfl) ?_
        refine z_iast (w2 := [(o, .inr (3, [.ref ro, .int (nI rc), .ref bo, .ref so, .ref la, .ref lb])), (ro, .inl (cJ, 2000, .inr (.inl rq))), (bo, .inr (0, [.ref hw, .int (nI ((p_wbw rq rc (p_ld rq rc k) k t ((p_av x.1 (p_zig (p_ld rq rc k))), x.2.2.1)).1.2))])), (hw, .inl (cJ, 2500, .inr (.inl ((p_wbw rq rc (p_ld rq rc k) k t ((p_av x.1 (p_zig (p_ld rq rc k))), x.2.2.1)).1.1)))), (la, .inr (1, [.int (nI bc), .ref hl1, .ref hi1, .ref hs1])), (hl1, .inl (cJ, 32, .inr (.inl (vp_updL x.2.1 k (p_ld rq rc k))))), (hi1, .inl (cI, 128, .inl (upd ((p_wbw rq rc (p_ld rq rc k) k t ((p_av x.1 (p_zig (p_ld rq rc k))), x.2.2.1)).2) (k * 4 + t) (nI (p_wd rq rc (p_ld rq rc k) k t))))), (hs1, .inl (cI, 128, .inl x.2.2.2))]) hx hb hK hP hD hS 6 0 rfl rfl (by omega) (by decide) d_DeltaRows_writeBlock_60 rfl (fun H locs hP hD hS => ?_)
        refine lv_aload_n hx hb d_DeltaRows_writeBlock_61 rfl (lv_at hl 1 rfl) ?_
        refine g_DeltaRows_20 hx hb hts hown hK hP 0 rfl rfl d_DeltaRows_writeBlock_62 ?_
        refine lv_iload hx hb d_DeltaRows_writeBlock_65 (lv_at hl 0 rfl) ?_
        refine z_callEi (wr := [(o, .inr (3, [.ref ro, .int (nI rc), .ref bo, .ref so, .ref la, .ref lb])), (ro, .inl (cJ, 2000, .inr (.inl rq))), (la, .inr (1, [.int (nI bc), .ref hl1, .ref hi1, .ref hs1])), (hl1, .inl (cJ, 32, .inr (.inl (vp_updL x.2.1 k (p_ld rq rc k))))), (hi1, .inl (cI, 128, .inl (upd ((p_wbw rq rc (p_ld rq rc k) k t ((p_av x.1 (p_zig (p_ld rq rc k))), x.2.2.1)).2) (k * 4 + t) (nI (p_wd rq rc (p_ld rq rc k) k t))))), (hs1, .inl (cI, 128, .inl x.2.2.2))]) (w2 := [(o, .inr (3, [.ref ro, .int (nI rc), .ref bo, .ref so, .ref la, .ref lb])), (ro, .inl (cJ, 2000, .inr (.inl rq))), (bo, .inr (0, [.ref hw, .int (nI ((p_add ((p_wbw rq rc (p_ld rq rc k) k t ((p_av x.1 (p_zig (p_ld rq rc k))), x.2.2.1)).1) (nI (p_wd rq rc (p_ld rq rc k) k t))).2))])), (hw, .inl (cJ, 2500, .inr (.inl ((p_add ((p_wbw rq rc (p_ld rq rc k) k t ((p_av x.1 (p_zig (p_ld rq rc k))), x.2.2.1)).1) (nI (p_wd rq rc (p_ld rq rc k) k t))).1)))), (la, .inr (1, [.int (nI bc), .ref hl1, .ref hi1, .ref hs1])), (hl1, .inl (cJ, 32, .inr (.inl (vp_updL x.2.1 k (p_ld rq rc k))))), (hi1, .inl (cI, 128, .inl (upd ((p_wbw rq rc (p_ld rq rc k) k t ((p_av x.1 (p_zig (p_ld rq rc k))), x.2.2.1)).2) (k * 4 + t) (nI (p_wd rq rc (p_ld rq rc k) k t))))), (hs1, .inl (cI, 128, .inl x.2.2.2))]) (z_runV (rest := []) hx hb hml hown hts hK hN (c_ByteRow_add l D cI cJ bo hw ((p_wbw rq rc (p_ld rq rc k) k t ((p_av x.1 (p_zig (p_ld rq rc k))), x.2.2.1)).1) (nI (p_wd rq rc (p_ld rq rc k) k t)) (by (try dsimp only); omega)) kk_DeltaRows_92 (zP.cut hP [2, 3] rfl) (hD.sub [2, 3] (by decide) rfl) 0 rfl rfl rfl hl.1 rfl (Nat.le_of_ble_eq_true rfl) d_DeltaRows_writeBlock_67 (by decide) (by decide)) hP hD hS hA [2, 3] [0, 1, 4, 5, 6, 7] [0, 1, 6, 7, 2, 3, 4, 5] rfl rfl (by decide) (by decide) (by decide) rfl (fun H locs hP hD hS => ?_)
        refine lv_pop hx hb d_DeltaRows_writeBlock_70 rfl ?_
        refine lv_iinc (v := nI (t + 1)) (lv' := [(4, .int (nI (t + 1))), (5, .int (nI (p_wd rq rc (p_ld rq rc k) k t))), (0, .ref o), (1, .int (nI k))]) hx hb d_DeltaRows_writeBlock_71 hl (k := 3) rfl (zinc t 1) (by decide) rfl (fun ls hl => ?_)
        refine lv_goto (tgt := 30) hx hb d_DeltaRows_writeBlock_74 (by decide) ?_
        exact ih30 (t + 1) (by omega) (by omega) _ _ hP hD hS ls (lv_sub hl [2, 3, 0] rfl)
  exact hlp30 _ 0 (by decide) (Nat.lt_succ_self _) _ _ hP hD hS ls (lv_sub hl [2, 3, 0] rfl)

set_option maxHeartbeats 4000000 in
set_option maxRecDepth 100000 in
theorem c_DeltaRows_write (l : Launch) (D : va_G) (cI cJ : ClassId) (o : Nat) (ro : Nat) (bo : Nat) (so : Nat) (la : Nat) (lb : Nat) (rc : Nat) (rq : Nat → Int64) (hl1 : Nat) (hi1 : Nat) (hs1 : Nat) (bc : Nat) (hw : Nat) (x : WW) (hrc : rc ≤ 2000) (hu : x.1.2 ≤ 20000) : Ct l D (zT cI cJ) y_DeltaRows_write b_DeltaRows_write 2 (some .int) 6 146 0 0 [.ref o] [(o, .inr (3, [.ref ro, .int (nI rc), .ref bo, .ref so, .ref la, .ref lb])), (ro, .inl (cJ, 2000, .inr (.inl rq))), (bo, .inr (0, [.ref hw, .int (nI x.1.2)])), (hw, .inl (cJ, 2500, .inr (.inl x.1.1))), (la, .inr (1, [.int (nI bc), .ref hl1, .ref hi1, .ref hs1])), (hl1, .inl (cJ, 32, .inr (.inl x.2.1))), (hi1, .inl (cI, 128, .inl x.2.2.1)), (hs1, .inl (cI, 128, .inl x.2.2.2))] (zEq (some (.int (nI ((p_write rq rc x).1.2)))) [(o, .inr (3, [.ref ro, .int (nI rc), .ref bo, .ref so, .ref la, .ref lb])), (ro, .inl (cJ, 2000, .inr (.inl rq))), (bo, .inr (0, [.ref hw, .int (nI ((p_write rq rc x).1.2))])), (hw, .inl (cJ, 2500, .inr (.inl ((p_write rq rc x).1.1)))), (la, .inr (1, [.int (nI (p_bf rc)), .ref hl1, .ref hi1, .ref hs1])), (hl1, .inl (cJ, 32, .inr (.inl ((p_write rq rc x).2.1)))), (hi1, .inl (cI, 128, .inl ((p_write rq rc x).2.2.1))), (hs1, .inl (cI, 128, .inl ((p_write rq rc x).2.2.2)))]) := by
  refine Ct.ofW (by decide) (Nat.le_of_ble_eq_true rfl) ?_
  intro p e s m below meth c A ls C0 hP hD hS hl
  obtain ⟨hx, hb, hml, hown, hts, hK, hN, hr, hlocks, hA, hnm⟩ := C0
  have hl : lv_has ls 2 [(0, .ref o)] := hl
  have hown : s.vm.findClass R_DeltaRows = some m.cls := hown
  have hk3 := p_bf_le hrc
  have v1 := p_av_le1 (b := (x.1.1, 0)) (v := (nI rc).toInt64)
  have v2 := p_av_le1 (b := p_av (x.1.1, 0) (nI rc).toInt64) (v := p_zig (rq 0))
  have v3 : ((if 0 < rc then p_av (p_av (x.1.1, 0) (nI rc).toInt64) (p_zig (rq 0)) else p_av (x.1.1, 0) (nI rc).toInt64, x.2)).1.2 ≤ 20 := by dsimp only at *; split <;> omega
  have v4 := fun t => p_wbs_le (rq := rq) (rc := rc) (x := (if 0 < rc then p_av (p_av (x.1.1, 0) (nI rc).toInt64) (p_zig (rq 0)) else p_av (x.1.1, 0) (nI rc).toInt64, x.2)) t
  refine lv_aload_n hx hb d_DeltaRows_write_0 rfl (lv_at hl 0 rfl) ?_
  refine g_DeltaRows_20 hx hb hts hown hK hP 0 rfl rfl d_DeltaRows_write_1 ?_
  refine lv_iconst (v := nI 0) hx hb d_DeltaRows_write_4 (by decide +kernel) ?_
  refine z_callEv (wr := [(o, .inr (3, [.ref ro, .int (nI rc), .ref bo, .ref so, .ref la, .ref lb])), (ro, .inl (cJ, 2000, .inr (.inl rq))), (hw, .inl (cJ, 2500, .inr (.inl x.1.1))), (la, .inr (1, [.int (nI bc), .ref hl1, .ref hi1, .ref hs1])), (hl1, .inl (cJ, 32, .inr (.inl x.2.1))), (hi1, .inl (cI, 128, .inl x.2.2.1)), (hs1, .inl (cI, 128, .inl x.2.2.2))]) (w2 := [(o, .inr (3, [.ref ro, .int (nI rc), .ref bo, .ref so, .ref la, .ref lb])), (ro, .inl (cJ, 2000, .inr (.inl rq))), (bo, .inr (0, [.ref hw, .int (nI 0)])), (hw, .inl (cJ, 2500, .inr (.inl x.1.1))), (la, .inr (1, [.int (nI bc), .ref hl1, .ref hi1, .ref hs1])), (hl1, .inl (cJ, 32, .inr (.inl x.2.1))), (hi1, .inl (cI, 128, .inl x.2.2.1)), (hs1, .inl (cI, 128, .inl x.2.2.2))]) (z_runV (rest := []) hx hb hml hown hts hK hN (c_ByteRow_shorten l D cI cJ bo hw x.1.2 0 ) kk_DeltaRows_43 (zP.cut hP [2] rfl) (hD.sub [2] (by decide) rfl) 0 rfl rfl rfl hl.1 rfl (Nat.le_of_ble_eq_true rfl) d_DeltaRows_write_5 (by decide) (by decide)) hP hD hS hA [2] [0, 1, 3, 4, 5, 6, 7] [0, 1, 7, 2, 3, 4, 5, 6] rfl rfl (by decide) (by decide) (by decide) rfl (fun H locs hP hD hS => ?_)
  refine lv_aload_n hx hb d_DeltaRows_write_8 rfl (lv_at hl 0 rfl) ?_
  refine g_DeltaRows_20 hx hb hts hown hK hP 0 rfl rfl d_DeltaRows_write_9 ?_
  refine lv_aload_n hx hb d_DeltaRows_write_12 rfl (lv_at hl 0 rfl) ?_
  refine g_DeltaRows_13 hx hb hts hown hK hP 0 rfl rfl d_DeltaRows_write_13 ?_
  refine lv_i2l (v := (nI rc).toInt64) hx hb d_DeltaRows_write_16 rfl ?_
  refine z_callEv (wr := [(o, .inr (3, [.ref ro, .int (nI rc), .ref bo, .ref so, .ref la, .ref lb])), (ro, .inl (cJ, 2000, .inr (.inl rq))), (la, .inr (1, [.int (nI bc), .ref hl1, .ref hi1, .ref hs1])), (hl1, .inl (cJ, 32, .inr (.inl x.2.1))), (hi1, .inl (cI, 128, .inl x.2.2.1)), (hs1, .inl (cI, 128, .inl x.2.2.2))]) (w2 := [(o, .inr (3, [.ref ro, .int (nI rc), .ref bo, .ref so, .ref la, .ref lb])), (ro, .inl (cJ, 2000, .inr (.inl rq))), (bo, .inr (0, [.ref hw, .int (nI ((p_av (x.1.1, 0) ((nI rc).toInt64)).2))])), (hw, .inl (cJ, 2500, .inr (.inl ((p_av (x.1.1, 0) ((nI rc).toInt64)).1)))), (la, .inr (1, [.int (nI bc), .ref hl1, .ref hi1, .ref hs1])), (hl1, .inl (cJ, 32, .inr (.inl x.2.1))), (hi1, .inl (cI, 128, .inl x.2.2.1)), (hs1, .inl (cI, 128, .inl x.2.2.2))]) (z_runV (rest := []) hx hb hml hown hts hK hN (c_ByteRow_addVarint l D cI cJ bo hw (x.1.1, 0) ((nI rc).toInt64) (by (try dsimp only); omega)) kk_DeltaRows_47 (zP.cut hP [2, 3] rfl) (hD.sub [2, 3] (by decide) rfl) 0 rfl rfl rfl hl.1 rfl (Nat.le_of_ble_eq_true rfl) d_DeltaRows_write_17 (by decide) (by decide)) hP hD hS hA [2, 3] [0, 1, 4, 5, 6, 7] [0, 1, 6, 7, 2, 3, 4, 5] rfl rfl (by decide) (by decide) (by decide) rfl (fun H locs hP hD hS => ?_)
  refine lv_aload_n hx hb d_DeltaRows_write_20 rfl (lv_at hl 0 rfl) ?_
  refine g_DeltaRows_13 hx hb hts hown hK hP 0 rfl rfl d_DeltaRows_write_21 ?_
  refine z0_le (a := rc) (by omega) hx hb d_DeltaRows_write_24 (tgt := 43) (by decide) (fun c_24 => ?_) (fun c_24 => ?_)
  · skip
    refine lv_aload_n hx hb d_DeltaRows_write_43 rfl (lv_at hl 0 rfl) ?_
    refine g_DeltaRows_36 hx hb hts hown hK hP 0 rfl rfl d_DeltaRows_write_44 ?_
    refine lv_aload_n hx hb d_DeltaRows_write_47 rfl (lv_at hl 0 rfl) ?_
    refine g_DeltaRows_13 hx hb hts hown hK hP 0 rfl rfl d_DeltaRows_write_48 ?_
    refine z_callEi (wr := [(o, .inr (3, [.ref ro, .int (nI rc), .ref bo, .ref so, .ref la, .ref lb])), (ro, .inl (cJ, 2000, .inr (.inl rq))), (bo, .inr (0, [.ref hw, .int (nI ((p_av (x.1.1, 0) ((nI rc).toInt64)).2))])), (hw, .inl (cJ, 2500, .inr (.inl ((p_av (x.1.1, 0) ((nI rc).toInt64)).1)))), (la, .inr (1, [.int (nI bc), .ref hl1, .ref hi1, .ref hs1])), (hl1, .inl (cJ, 32, .inr (.inl x.2.1))), (hi1, .inl (cI, 128, .inl x.2.2.1)), (hs1, .inl (cI, 128, .inl x.2.2.2))]) (w2 := [(o, .inr (3, [.ref ro, .int (nI rc), .ref bo, .ref so, .ref la, .ref lb])), (ro, .inl (cJ, 2000, .inr (.inl rq))), (bo, .inr (0, [.ref hw, .int (nI ((p_av (x.1.1, 0) ((nI rc).toInt64)).2))])), (hw, .inl (cJ, 2500, .inr (.inl ((p_av (x.1.1, 0) ((nI rc).toInt64)).1)))), (la, .inr (1, [.int (nI bc), .ref hl1, .ref hi1, .ref hs1])), (hl1, .inl (cJ, 32, .inr (.inl x.2.1))), (hi1, .inl (cI, 128, .inl x.2.2.1)), (hs1, .inl (cI, 128, .inl x.2.2.2))]) (z_runS (rest := [.ref la]) hx hb hml hown hts hK hN (c_DeltaRows_blocksFor l D cI cJ rc (by (try dsimp only); omega)) kk_DeltaRows_55 (zP.cut hP [] rfl) (hD.sub [] (by decide) rfl) rfl hl.1 rfl (Nat.le_of_ble_eq_true rfl) d_DeltaRows_write_51 (by decide) (by decide)) hP hD hS hA [] [0, 1, 2, 3, 4, 5, 6, 7] [0, 1, 2, 3, 4, 5, 6, 7] rfl rfl (by decide) (by decide) (by decide) rfl (fun H locs hP hD hS => ?_)
    refine p_DeltaRows_59 (w2 := [(o, .inr (3, [.ref ro, .int (nI rc), .ref bo, .ref so, .ref la, .ref lb])), (ro, .inl (cJ, 2000, .inr (.inl rq))), (bo, .inr (0, [.ref hw, .int (nI ((p_av (x.1.1, 0) ((nI rc).toInt64)).2))])), (hw, .inl (cJ, 2500, .inr (.inl ((p_av (x.1.1, 0) ((nI rc).toInt64)).1)))), (la, .inr (1, [.int (nI (p_bf rc)), .ref hl1, .ref hi1, .ref hs1])), (hl1, .inl (cJ, 32, .inr (.inl x.2.1))), (hi1, .inl (cI, 128, .inl x.2.2.1)), (hs1, .inl (cI, 128, .inl x.2.2.2))]) hx hb hts hown hK hP hD hS 4 rfl (Nat.le_of_ble_eq_true rfl) rfl d_DeltaRows_write_54 (fun H locs hP hD hS => ?_)
    refine lv_iconst (v := nI 0) hx hb d_DeltaRows_write_57 (by decide +kernel) ?_
    refine lv_istore_n (lv' := [(1, .int (nI 0)), (0, .ref o)]) hx hb d_DeltaRows_write_58 rfl hl (by decide) rfl (fun ls hl => ?_)
    have hlp59 : ∀ (n : Nat) (t : Nat), (t ≤ p_bf rc) → p_bf rc - t < n → ∀ (H : Heap) (locs : List Loc), va_P D classes [(o, .inr (3, [.ref ro, .int (nI rc), .ref bo, .ref so, .ref la, .ref lb])), (ro, .inl (cJ, 2000, .inr (.inl rq))), (bo, .inr (0, [.ref hw, .int (nI ((p_wbs rq rc t (if 0 < rc then p_av (p_av (x.1.1, 0) (nI rc).toInt64) (p_zig (rq 0)) else p_av (x.1.1, 0) (nI rc).toInt64, x.2)).1.2))])), (hw, .inl (cJ, 2500, .inr (.inl ((p_wbs rq rc t (if 0 < rc then p_av (p_av (x.1.1, 0) (nI rc).toInt64) (p_zig (rq 0)) else p_av (x.1.1, 0) (nI rc).toInt64, x.2)).1.1)))), (la, .inr (1, [.int (nI (p_bf rc)), .ref hl1, .ref hi1, .ref hs1])), (hl1, .inl (cJ, 32, .inr (.inl ((p_wbs rq rc t (if 0 < rc then p_av (p_av (x.1.1, 0) (nI rc).toInt64) (p_zig (rq 0)) else p_av (x.1.1, 0) (nI rc).toInt64, x.2)).2.1)))), (hi1, .inl (cI, 128, .inl ((p_wbs rq rc t (if 0 < rc then p_av (p_av (x.1.1, 0) (nI rc).toInt64) (p_zig (rq 0)) else p_av (x.1.1, 0) (nI rc).toInt64, x.2)).2.2.1))), (hs1, .inl (cI, 128, .inl ((p_wbs rq rc t (if 0 < rc then p_av (p_av (x.1.1, 0) (nI rc).toInt64) (p_zig (rq 0)) else p_av (x.1.1, 0) (nI rc).toInt64, x.2)).2.2.2)))] H → va_D A [(o, .inr (3, [.ref ro, .int (nI rc), .ref bo, .ref so, .ref la, .ref lb])), (ro, .inl (cJ, 2000, .inr (.inl rq))), (bo, .inr (0, [.ref hw, .int (nI ((p_wbs rq rc t (if 0 < rc then p_av (p_av (x.1.1, 0) (nI rc).toInt64) (p_zig (rq 0)) else p_av (x.1.1, 0) (nI rc).toInt64, x.2)).1.2))])), (hw, .inl (cJ, 2500, .inr (.inl ((p_wbs rq rc t (if 0 < rc then p_av (p_av (x.1.1, 0) (nI rc).toInt64) (p_zig (rq 0)) else p_av (x.1.1, 0) (nI rc).toInt64, x.2)).1.1)))), (la, .inr (1, [.int (nI (p_bf rc)), .ref hl1, .ref hi1, .ref hs1])), (hl1, .inl (cJ, 32, .inr (.inl ((p_wbs rq rc t (if 0 < rc then p_av (p_av (x.1.1, 0) (nI rc).toInt64) (p_zig (rq 0)) else p_av (x.1.1, 0) (nI rc).toInt64, x.2)).2.1)))), (hi1, .inl (cI, 128, .inl ((p_wbs rq rc t (if 0 < rc then p_av (p_av (x.1.1, 0) (nI rc).toInt64) (p_zig (rq 0)) else p_av (x.1.1, 0) (nI rc).toInt64, x.2)).2.2.1))), (hs1, .inl (cI, 128, .inl ((p_wbs rq rc t (if 0 < rc then p_av (p_av (x.1.1, 0) (nI rc).toInt64) (p_zig (rq 0)) else p_av (x.1.1, 0) (nI rc).toInt64, x.2)).2.2.2)))] → va_S A s.heap H locs → ∀ (ls : Array Slot), lv_has ls 2 [(0, .ref o), (1, .int (nI t))] → W p l e { frames := 6, cells := 0, slots := 0, locals := 146 } s m ([.ref o] : List Value).toArray below meth c H locs 0 0 (MQ below (zQ D (zEq (some (.int (nI ((p_write rq rc x).1.2)))) [(o, .inr (3, [.ref ro, .int (nI rc), .ref bo, .ref so, .ref la, .ref lb])), (ro, .inl (cJ, 2000, .inr (.inl rq))), (bo, .inr (0, [.ref hw, .int (nI ((p_write rq rc x).1.2))])), (hw, .inl (cJ, 2500, .inr (.inl ((p_write rq rc x).1.1)))), (la, .inr (1, [.int (nI (p_bf rc)), .ref hl1, .ref hi1, .ref hs1])), (hl1, .inl (cJ, 32, .inr (.inl ((p_write rq rc x).2.1)))), (hi1, .inl (cI, 128, .inl ((p_write rq rc x).2.2.1))), (hs1, .inl (cI, 128, .inl ((p_write rq rc x).2.2.2)))]) A) ([.ref o] : List Value).toArray s 0 0 A) (F0 m 59 ls []) := by
      intro n
      induction n with
      | zero => intro t h1 hmu; exact absurd hmu (Nat.not_lt_zero _)
      | succ n ih =>
        intro t h1 hmu H locs hP hD hS ls hl
        have v5 := v4 t
        have ih59 := ih
        refine lv_iload_n hx hb d_DeltaRows_write_59 rfl (lv_at hl 1 rfl) ?_
        refine lv_aload_n hx hb d_DeltaRows_write_60 rfl (lv_at hl 0 rfl) ?_
        refine g_DeltaRows_36 hx hb hts hown hK hP 0 rfl rfl d_DeltaRows_write_61 ?_
        refine g_DeltaRows_59 hx hb hts hown hK hP 4 rfl rfl d_DeltaRows_write_64 ?_
        refine zn_ge (a := t) (b := p_bf rc) (by omega) (by omega) hx hb d_DeltaRows_write_67 (tgt := 81) (by decide) (fun c_67 => ?_) (fun c_67 => ?_)
        · skip
          refine lv_aload_n hx hb d_DeltaRows_write_81 rfl (lv_at hl 0 rfl) ?_
          refine g_DeltaRows_20 hx hb hts hown hK hP 0 rfl rfl d_DeltaRows_write_82 ?_
          refine g_DeltaRows_65 hx hb hts hown hK hP 2 rfl rfl d_DeltaRows_write_85 ?_
          exact z_iret hx hb hr hlocks hS hP hD ⟨by unfold p_write; rw [show t = p_bf rc by omega], by unfold p_write; rw [show t = p_bf rc by omega]⟩ d_DeltaRows_write_88
        · skip
          refine lv_aload_n hx hb d_DeltaRows_write_70 rfl (lv_at hl 0 rfl) ?_
          refine lv_iload_n hx hb d_DeltaRows_write_71 rfl (lv_at hl 1 rfl) ?_
          refine z_callEv (wr := []) (w2 := [(o, .inr (3, [.ref ro, .int (nI rc), .ref bo, .ref so, .ref la, .ref lb])), (ro, .inl (cJ, 2000, .inr (.inl rq))), (bo, .inr (0, [.ref hw, .int (nI ((p_wb rq rc t (p_wbs rq rc t (if 0 < rc then p_av (p_av (x.1.1, 0) (nI rc).toInt64) (p_zig (rq 0)) else p_av (x.1.1, 0) (nI rc).toInt64, x.2))).1.2))])), (hw, .inl (cJ, 2500, .inr (.inl ((p_wb rq rc t (p_wbs rq rc t (if 0 < rc then p_av (p_av (x.1.1, 0) (nI rc).toInt64) (p_zig (rq 0)) else p_av (x.1.1, 0) (nI rc).toInt64, x.2))).1.1)))), (la, .inr (1, [.int (nI (p_bf rc)), .ref hl1, .ref hi1, .ref hs1])), (hl1, .inl (cJ, 32, .inr (.inl ((p_wb rq rc t (p_wbs rq rc t (if 0 < rc then p_av (p_av (x.1.1, 0) (nI rc).toInt64) (p_zig (rq 0)) else p_av (x.1.1, 0) (nI rc).toInt64, x.2))).2.1)))), (hi1, .inl (cI, 128, .inl ((p_wb rq rc t (p_wbs rq rc t (if 0 < rc then p_av (p_av (x.1.1, 0) (nI rc).toInt64) (p_zig (rq 0)) else p_av (x.1.1, 0) (nI rc).toInt64, x.2))).2.2.1))), (hs1, .inl (cI, 128, .inl ((p_wb rq rc t (p_wbs rq rc t (if 0 < rc then p_av (p_av (x.1.1, 0) (nI rc).toInt64) (p_zig (rq 0)) else p_av (x.1.1, 0) (nI rc).toInt64, x.2))).2.2.2)))]) (z_runV (rest := []) hx hb hml hown hts hK hN (c_DeltaRows_writeBlock l D cI cJ o ro bo so la lb rc rq hl1 hi1 hs1 (p_bf rc) hw (p_wbs rq rc t (if 0 < rc then p_av (p_av (x.1.1, 0) (nI rc).toInt64) (p_zig (rq 0)) else p_av (x.1.1, 0) (nI rc).toInt64, x.2)) t (by (try dsimp only); omega) (by (try dsimp only); omega) (by (try dsimp only); omega)) kk_DeltaRows_62 (zP.cut hP [0, 1, 2, 3, 4, 5, 6, 7] rfl) (hD.sub [0, 1, 2, 3, 4, 5, 6, 7] (by decide) rfl) 0 rfl rfl rfl hl.1 rfl (Nat.le_of_ble_eq_true rfl) d_DeltaRows_write_72 (by decide) (by decide)) hP hD hS hA [0, 1, 2, 3, 4, 5, 6, 7] [] [0, 1, 2, 3, 4, 5, 6, 7] rfl rfl (by decide) (by decide) (by decide) rfl (fun H locs hP hD hS => ?_)
          refine lv_iinc (v := nI (t + 1)) (lv' := [(1, .int (nI (t + 1))), (0, .ref o)]) hx hb d_DeltaRows_write_75 hl (k := 1) rfl (zinc t 1) (by decide) rfl (fun ls hl => ?_)
          refine lv_goto (tgt := 59) hx hb d_DeltaRows_write_78 (by decide) ?_
          exact ih59 (t + 1) (by omega) (by omega) _ _ hP hD hS ls (lv_sub hl [1, 0] rfl)
    exact hlp59 _ 0 (Nat.zero_le _) (Nat.lt_succ_self _) _ _ (by first | (rw [p_wbs, if_pos c_24]; exact hP) | (rw [p_wbs, if_neg (by omega)]; exact hP)) (by first | (rw [p_wbs, if_pos c_24]; exact hD) | (rw [p_wbs, if_neg (by omega)]; exact hD)) hS ls (lv_sub hl [1, 0] rfl)
  · skip
    refine lv_aload_n hx hb d_DeltaRows_write_27 rfl (lv_at hl 0 rfl) ?_
    refine g_DeltaRows_20 hx hb hts hown hK hP 0 rfl rfl d_DeltaRows_write_28 ?_
    refine lv_aload_n hx hb d_DeltaRows_write_31 rfl (lv_at hl 0 rfl) ?_
    refine g_DeltaRows_9 hx hb hts hown hK hP 0 rfl rfl d_DeltaRows_write_32 ?_
    refine lv_iconst (v := nI 0) hx hb d_DeltaRows_write_35 (by decide +kernel) ?_
    refine z_lald hx hb hK hP 1 1 rfl rfl (by omega) (by decide) d_DeltaRows_write_36 ?_
    refine z_callEl (wr := [(o, .inr (3, [.ref ro, .int (nI rc), .ref bo, .ref so, .ref la, .ref lb])), (ro, .inl (cJ, 2000, .inr (.inl rq))), (bo, .inr (0, [.ref hw, .int (nI ((p_av (x.1.1, 0) ((nI rc).toInt64)).2))])), (hw, .inl (cJ, 2500, .inr (.inl ((p_av (x.1.1, 0) ((nI rc).toInt64)).1)))), (la, .inr (1, [.int (nI bc), .ref hl1, .ref hi1, .ref hs1])), (hl1, .inl (cJ, 32, .inr (.inl x.2.1))), (hi1, .inl (cI, 128, .inl x.2.2.1)), (hs1, .inl (cI, 128, .inl x.2.2.2))]) (w2 := [(o, .inr (3, [.ref ro, .int (nI rc), .ref bo, .ref so, .ref la, .ref lb])), (ro, .inl (cJ, 2000, .inr (.inl rq))), (bo, .inr (0, [.ref hw, .int (nI ((p_av (x.1.1, 0) ((nI rc).toInt64)).2))])), (hw, .inl (cJ, 2500, .inr (.inl ((p_av (x.1.1, 0) ((nI rc).toInt64)).1)))), (la, .inr (1, [.int (nI bc), .ref hl1, .ref hi1, .ref hs1])), (hl1, .inl (cJ, 32, .inr (.inl x.2.1))), (hi1, .inl (cI, 128, .inl x.2.2.1)), (hs1, .inl (cI, 128, .inl x.2.2.2))]) (z_runS (rest := [.ref bo]) hx hb hml hown hts hK hN (c_DeltaRows_zigzag l D cI cJ (rq 0) ) kk_DeltaRows_51 (zP.cut hP [] rfl) (hD.sub [] (by decide) rfl) rfl hl.1 rfl (Nat.le_of_ble_eq_true rfl) d_DeltaRows_write_37 (by decide) (by decide)) hP hD hS hA [] [0, 1, 2, 3, 4, 5, 6, 7] [0, 1, 2, 3, 4, 5, 6, 7] rfl rfl (by decide) (by decide) (by decide) rfl (fun H locs hP hD hS => ?_)
    refine z_callEv (wr := [(o, .inr (3, [.ref ro, .int (nI rc), .ref bo, .ref so, .ref la, .ref lb])), (ro, .inl (cJ, 2000, .inr (.inl rq))), (la, .inr (1, [.int (nI bc), .ref hl1, .ref hi1, .ref hs1])), (hl1, .inl (cJ, 32, .inr (.inl x.2.1))), (hi1, .inl (cI, 128, .inl x.2.2.1)), (hs1, .inl (cI, 128, .inl x.2.2.2))]) (w2 := [(o, .inr (3, [.ref ro, .int (nI rc), .ref bo, .ref so, .ref la, .ref lb])), (ro, .inl (cJ, 2000, .inr (.inl rq))), (bo, .inr (0, [.ref hw, .int (nI ((p_av (p_av (x.1.1, 0) ((nI rc).toInt64)) (p_zig (rq 0))).2))])), (hw, .inl (cJ, 2500, .inr (.inl ((p_av (p_av (x.1.1, 0) ((nI rc).toInt64)) (p_zig (rq 0))).1)))), (la, .inr (1, [.int (nI bc), .ref hl1, .ref hi1, .ref hs1])), (hl1, .inl (cJ, 32, .inr (.inl x.2.1))), (hi1, .inl (cI, 128, .inl x.2.2.1)), (hs1, .inl (cI, 128, .inl x.2.2.2))]) (z_runV (rest := []) hx hb hml hown hts hK hN (c_ByteRow_addVarint l D cI cJ bo hw (p_av (x.1.1, 0) ((nI rc).toInt64)) (p_zig (rq 0)) (by (try dsimp only); omega)) kk_DeltaRows_47 (zP.cut hP [2, 3] rfl) (hD.sub [2, 3] (by decide) rfl) 0 rfl rfl rfl hl.1 rfl (Nat.le_of_ble_eq_true rfl) d_DeltaRows_write_40 (by decide) (by decide)) hP hD hS hA [2, 3] [0, 1, 4, 5, 6, 7] [0, 1, 6, 7, 2, 3, 4, 5] rfl rfl (by decide) (by decide) (by decide) rfl (fun H locs hP hD hS => ?_)
    refine lv_aload_n hx hb d_DeltaRows_write_43 rfl (lv_at hl 0 rfl) ?_
    refine g_DeltaRows_36 hx hb hts hown hK hP 0 rfl rfl d_DeltaRows_write_44 ?_
    refine lv_aload_n hx hb d_DeltaRows_write_47 rfl (lv_at hl 0 rfl) ?_
    refine g_DeltaRows_13 hx hb hts hown hK hP 0 rfl rfl d_DeltaRows_write_48 ?_
    refine z_callEi (wr := [(o, .inr (3, [.ref ro, .int (nI rc), .ref bo, .ref so, .ref la, .ref lb])), (ro, .inl (cJ, 2000, .inr (.inl rq))), (bo, .inr (0, [.ref hw, .int (nI ((p_av (p_av (x.1.1, 0) ((nI rc).toInt64)) (p_zig (rq 0))).2))])), (hw, .inl (cJ, 2500, .inr (.inl ((p_av (p_av (x.1.1, 0) ((nI rc).toInt64)) (p_zig (rq 0))).1)))), (la, .inr (1, [.int (nI bc), .ref hl1, .ref hi1, .ref hs1])), (hl1, .inl (cJ, 32, .inr (.inl x.2.1))), (hi1, .inl (cI, 128, .inl x.2.2.1)), (hs1, .inl (cI, 128, .inl x.2.2.2))]) (w2 := [(o, .inr (3, [.ref ro, .int (nI rc), .ref bo, .ref so, .ref la, .ref lb])), (ro, .inl (cJ, 2000, .inr (.inl rq))), (bo, .inr (0, [.ref hw, .int (nI ((p_av (p_av (x.1.1, 0) ((nI rc).toInt64)) (p_zig (rq 0))).2))])), (hw, .inl (cJ, 2500, .inr (.inl ((p_av (p_av (x.1.1, 0) ((nI rc).toInt64)) (p_zig (rq 0))).1)))), (la, .inr (1, [.int (nI bc), .ref hl1, .ref hi1, .ref hs1])), (hl1, .inl (cJ, 32, .inr (.inl x.2.1))), (hi1, .inl (cI, 128, .inl x.2.2.1)), (hs1, .inl (cI, 128, .inl x.2.2.2))]) (z_runS (rest := [.ref la]) hx hb hml hown hts hK hN (c_DeltaRows_blocksFor l D cI cJ rc (by (try dsimp only); omega)) kk_DeltaRows_55 (zP.cut hP [] rfl) (hD.sub [] (by decide) rfl) rfl hl.1 rfl (Nat.le_of_ble_eq_true rfl) d_DeltaRows_write_51 (by decide) (by decide)) hP hD hS hA [] [0, 1, 2, 3, 4, 5, 6, 7] [0, 1, 2, 3, 4, 5, 6, 7] rfl rfl (by decide) (by decide) (by decide) rfl (fun H locs hP hD hS => ?_)
    refine p_DeltaRows_59 (w2 := [(o, .inr (3, [.ref ro, .int (nI rc), .ref bo, .ref so, .ref la, .ref lb])), (ro, .inl (cJ, 2000, .inr (.inl rq))), (bo, .inr (0, [.ref hw, .int (nI ((p_av (p_av (x.1.1, 0) ((nI rc).toInt64)) (p_zig (rq 0))).2))])), (hw, .inl (cJ, 2500, .inr (.inl ((p_av (p_av (x.1.1, 0) ((nI rc).toInt64)) (p_zig (rq 0))).1)))), (la, .inr (1, [.int (nI (p_bf rc)), .ref hl1, .ref hi1, .ref hs1])), (hl1, .inl (cJ, 32, .inr (.inl x.2.1))), (hi1, .inl (cI, 128, .inl x.2.2.1)), (hs1, .inl (cI, 128, .inl x.2.2.2))]) hx hb hts hown hK hP hD hS 4 rfl (Nat.le_of_ble_eq_true rfl) rfl d_DeltaRows_write_54 (fun H locs hP hD hS => ?_)
    refine lv_iconst (v := nI 0) hx hb d_DeltaRows_write_57 (by decide +kernel) ?_
    refine lv_istore_n (lv' := [(1, .int (nI 0)), (0, .ref o)]) hx hb d_DeltaRows_write_58 rfl hl (by decide) rfl (fun ls hl => ?_)
    have hlp59 : ∀ (n : Nat) (t : Nat), (t ≤ p_bf rc) → p_bf rc - t < n → ∀ (H : Heap) (locs : List Loc), va_P D classes [(o, .inr (3, [.ref ro, .int (nI rc), .ref bo, .ref so, .ref la, .ref lb])), (ro, .inl (cJ, 2000, .inr (.inl rq))), (bo, .inr (0, [.ref hw, .int (nI ((p_wbs rq rc t (if 0 < rc then p_av (p_av (x.1.1, 0) (nI rc).toInt64) (p_zig (rq 0)) else p_av (x.1.1, 0) (nI rc).toInt64, x.2)).1.2))])), (hw, .inl (cJ, 2500, .inr (.inl ((p_wbs rq rc t (if 0 < rc then p_av (p_av (x.1.1, 0) (nI rc).toInt64) (p_zig (rq 0)) else p_av (x.1.1, 0) (nI rc).toInt64, x.2)).1.1)))), (la, .inr (1, [.int (nI (p_bf rc)), .ref hl1, .ref hi1, .ref hs1])), (hl1, .inl (cJ, 32, .inr (.inl ((p_wbs rq rc t (if 0 < rc then p_av (p_av (x.1.1, 0) (nI rc).toInt64) (p_zig (rq 0)) else p_av (x.1.1, 0) (nI rc).toInt64, x.2)).2.1)))), (hi1, .inl (cI, 128, .inl ((p_wbs rq rc t (if 0 < rc then p_av (p_av (x.1.1, 0) (nI rc).toInt64) (p_zig (rq 0)) else p_av (x.1.1, 0) (nI rc).toInt64, x.2)).2.2.1))), (hs1, .inl (cI, 128, .inl ((p_wbs rq rc t (if 0 < rc then p_av (p_av (x.1.1, 0) (nI rc).toInt64) (p_zig (rq 0)) else p_av (x.1.1, 0) (nI rc).toInt64, x.2)).2.2.2)))] H → va_D A [(o, .inr (3, [.ref ro, .int (nI rc), .ref bo, .ref so, .ref la, .ref lb])), (ro, .inl (cJ, 2000, .inr (.inl rq))), (bo, .inr (0, [.ref hw, .int (nI ((p_wbs rq rc t (if 0 < rc then p_av (p_av (x.1.1, 0) (nI rc).toInt64) (p_zig (rq 0)) else p_av (x.1.1, 0) (nI rc).toInt64, x.2)).1.2))])), (hw, .inl (cJ, 2500, .inr (.inl ((p_wbs rq rc t (if 0 < rc then p_av (p_av (x.1.1, 0) (nI rc).toInt64) (p_zig (rq 0)) else p_av (x.1.1, 0) (nI rc).toInt64, x.2)).1.1)))), (la, .inr (1, [.int (nI (p_bf rc)), .ref hl1, .ref hi1, .ref hs1])), (hl1, .inl (cJ, 32, .inr (.inl ((p_wbs rq rc t (if 0 < rc then p_av (p_av (x.1.1, 0) (nI rc).toInt64) (p_zig (rq 0)) else p_av (x.1.1, 0) (nI rc).toInt64, x.2)).2.1)))), (hi1, .inl (cI, 128, .inl ((p_wbs rq rc t (if 0 < rc then p_av (p_av (x.1.1, 0) (nI rc).toInt64) (p_zig (rq 0)) else p_av (x.1.1, 0) (nI rc).toInt64, x.2)).2.2.1))), (hs1, .inl (cI, 128, .inl ((p_wbs rq rc t (if 0 < rc then p_av (p_av (x.1.1, 0) (nI rc).toInt64) (p_zig (rq 0)) else p_av (x.1.1, 0) (nI rc).toInt64, x.2)).2.2.2)))] → va_S A s.heap H locs → ∀ (ls : Array Slot), lv_has ls 2 [(0, .ref o), (1, .int (nI t))] → W p l e { frames := 6, cells := 0, slots := 0, locals := 146 } s m ([.ref o] : List Value).toArray below meth c H locs 0 0 (MQ below (zQ D (zEq (some (.int (nI ((p_write rq rc x).1.2)))) [(o, .inr (3, [.ref ro, .int (nI rc), .ref bo, .ref so, .ref la, .ref lb])), (ro, .inl (cJ, 2000, .inr (.inl rq))), (bo, .inr (0, [.ref hw, .int (nI ((p_write rq rc x).1.2))])), (hw, .inl (cJ, 2500, .inr (.inl ((p_write rq rc x).1.1)))), (la, .inr (1, [.int (nI (p_bf rc)), .ref hl1, .ref hi1, .ref hs1])), (hl1, .inl (cJ, 32, .inr (.inl ((p_write rq rc x).2.1)))), (hi1, .inl (cI, 128, .inl ((p_write rq rc x).2.2.1))), (hs1, .inl (cI, 128, .inl ((p_write rq rc x).2.2.2)))]) A) ([.ref o] : List Value).toArray s 0 0 A) (F0 m 59 ls []) := by
      intro n
      induction n with
      | zero => intro t h1 hmu; exact absurd hmu (Nat.not_lt_zero _)
      | succ n ih =>
        intro t h1 hmu H locs hP hD hS ls hl
        have v5 := v4 t
        have ih59 := ih
        refine lv_iload_n hx hb d_DeltaRows_write_59 rfl (lv_at hl 1 rfl) ?_
        refine lv_aload_n hx hb d_DeltaRows_write_60 rfl (lv_at hl 0 rfl) ?_
        refine g_DeltaRows_36 hx hb hts hown hK hP 0 rfl rfl d_DeltaRows_write_61 ?_
        refine g_DeltaRows_59 hx hb hts hown hK hP 4 rfl rfl d_DeltaRows_write_64 ?_
        refine zn_ge (a := t) (b := p_bf rc) (by omega) (by omega) hx hb d_DeltaRows_write_67 (tgt := 81) (by decide) (fun c_67 => ?_) (fun c_67 => ?_)
        · skip
          refine lv_aload_n hx hb d_DeltaRows_write_81 rfl (lv_at hl 0 rfl) ?_
          refine g_DeltaRows_20 hx hb hts hown hK hP 0 rfl rfl d_DeltaRows_write_82 ?_
          refine g_DeltaRows_65 hx hb hts hown hK hP 2 rfl rfl d_DeltaRows_write_85 ?_
          exact z_iret hx hb hr hlocks hS hP hD ⟨by unfold p_write; rw [show t = p_bf rc by omega], by unfold p_write; rw [show t = p_bf rc by omega]⟩ d_DeltaRows_write_88
        · skip
          refine lv_aload_n hx hb d_DeltaRows_write_70 rfl (lv_at hl 0 rfl) ?_
          refine lv_iload_n hx hb d_DeltaRows_write_71 rfl (lv_at hl 1 rfl) ?_
          refine z_callEv (wr := []) (w2 := [(o, .inr (3, [.ref ro, .int (nI rc), .ref bo, .ref so, .ref la, .ref lb])), (ro, .inl (cJ, 2000, .inr (.inl rq))), (bo, .inr (0, [.ref hw, .int (nI ((p_wb rq rc t (p_wbs rq rc t (if 0 < rc then p_av (p_av (x.1.1, 0) (nI rc).toInt64) (p_zig (rq 0)) else p_av (x.1.1, 0) (nI rc).toInt64, x.2))).1.2))])), (hw, .inl (cJ, 2500, .inr (.inl ((p_wb rq rc t (p_wbs rq rc t (if 0 < rc then p_av (p_av (x.1.1, 0) (nI rc).toInt64) (p_zig (rq 0)) else p_av (x.1.1, 0) (nI rc).toInt64, x.2))).1.1)))), (la, .inr (1, [.int (nI (p_bf rc)), .ref hl1, .ref hi1, .ref hs1])), (hl1, .inl (cJ, 32, .inr (.inl ((p_wb rq rc t (p_wbs rq rc t (if 0 < rc then p_av (p_av (x.1.1, 0) (nI rc).toInt64) (p_zig (rq 0)) else p_av (x.1.1, 0) (nI rc).toInt64, x.2))).2.1)))), (hi1, .inl (cI, 128, .inl ((p_wb rq rc t (p_wbs rq rc t (if 0 < rc then p_av (p_av (x.1.1, 0) (nI rc).toInt64) (p_zig (rq 0)) else p_av (x.1.1, 0) (nI rc).toInt64, x.2))).2.2.1))), (hs1, .inl (cI, 128, .inl ((p_wb rq rc t (p_wbs rq rc t (if 0 < rc then p_av (p_av (x.1.1, 0) (nI rc).toInt64) (p_zig (rq 0)) else p_av (x.1.1, 0) (nI rc).toInt64, x.2))).2.2.2)))]) (z_runV (rest := []) hx hb hml hown hts hK hN (c_DeltaRows_writeBlock l D cI cJ o ro bo so la lb rc rq hl1 hi1 hs1 (p_bf rc) hw (p_wbs rq rc t (if 0 < rc then p_av (p_av (x.1.1, 0) (nI rc).toInt64) (p_zig (rq 0)) else p_av (x.1.1, 0) (nI rc).toInt64, x.2)) t (by (try dsimp only); omega) (by (try dsimp only); omega) (by (try dsimp only); omega)) kk_DeltaRows_62 (zP.cut hP [0, 1, 2, 3, 4, 5, 6, 7] rfl) (hD.sub [0, 1, 2, 3, 4, 5, 6, 7] (by decide) rfl) 0 rfl rfl rfl hl.1 rfl (Nat.le_of_ble_eq_true rfl) d_DeltaRows_write_72 (by decide) (by decide)) hP hD hS hA [0, 1, 2, 3, 4, 5, 6, 7] [] [0, 1, 2, 3, 4, 5, 6, 7] rfl rfl (by decide) (by decide) (by decide) rfl (fun H locs hP hD hS => ?_)
          refine lv_iinc (v := nI (t + 1)) (lv' := [(1, .int (nI (t + 1))), (0, .ref o)]) hx hb d_DeltaRows_write_75 hl (k := 1) rfl (zinc t 1) (by decide) rfl (fun ls hl => ?_)
          refine lv_goto (tgt := 59) hx hb d_DeltaRows_write_78 (by decide) ?_
          exact ih59 (t + 1) (by omega) (by omega) _ _ hP hD hS ls (lv_sub hl [1, 0] rfl)
    exact hlp59 _ 0 (Nat.zero_le _) (Nat.lt_succ_self _) _ _ (by first | (rw [p_wbs, if_pos c_24]; exact hP) | (rw [p_wbs, if_neg (by omega)]; exact hP)) (by first | (rw [p_wbs, if_pos c_24]; exact hD) | (rw [p_wbs, if_neg (by omega)]; exact hD)) hS ls (lv_sub hl [1, 0] rfl)
