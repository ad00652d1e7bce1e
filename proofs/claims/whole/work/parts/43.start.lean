theorem zNest_sub : ∀ w ∈ zNest, w ∈ lw_tbl := by
  intro w hw
  simp only [zNest, List.mem_cons, List.not_mem_nil, or_false] at hw
  rcases hw with rfl | rfl | rfl | rfl
  · exact List.mem_of_getElem? zNest_in0.symm
  · exact List.mem_of_getElem? zNest_in1.symm
  · exact List.mem_of_getElem? zNest_in2.symm
  · exact List.mem_of_getElem? zNest_in3.symm
set_option maxHeartbeats 8000000 in
set_option maxRecDepth 100000 in
/-- THE LAW, from its entry -/
theorem whole_start {p : Program} {e : Env} {s : State} {m : MethodId} {below : List Frame} {meth : Method} {c : Code} (l : Launch) {b L : Nat} {xs : Nat → Int32} (hL : L ≤ 1536) (C0 : lw_At p s m meth c b L xs) : W p l e room_1 s m #[Value.ref b] below meth c s.heap [] 0 0 (lw_Z below #[Value.ref b] s) (entryFrame m ([Value.ref b] : List Value).toArray 4) := by
  obtain ⟨hx, hb, hr, hml, hown, hts0, hX, hbl, hlocks, hgv⟩ := id C0
  obtain ⟨sb, rfl⟩ : ∃ q : Nat, q = b := ⟨_, rfl⟩
  have hA : ∀ q : Nat, s.heap.size ≤ q → (fun q : Nat => s.heap.size ≤ q) q := fun _ h => h
  have hbA : ¬ (fun q : Nat => s.heap.size ≤ q) sb := Nat.not_le.mpr hbl
  have hown : s.vm.findClass "DeltaRowsLaw" = some m.cls := hown
  have hb : c.code = b_law_law := hb
  have hts : ∀ w ∈ zW, w.before #[Value.ref sb] s = true := fun w h => hts0 w (List.mem_filter.mp h).1
  have hN : zN s := fun w hw => va_Nw.of (zNest_on w hw) (hts0 w (zNest_sub w hw))
  obtain ⟨c0, iS0, hKn0⟩ := u_known (C := R_ByteRow) (T := F_ByteRow) (N := 2) (n := 2) hts i_ByteRow (kn_ByteRow_1 hts)
  obtain ⟨c1, iS1, hKn1⟩ := u_known (C := R_Layout) (T := F_Layout) (N := 4) (n := 4) hts i_Layout (kn_Layout_1 hts)
  obtain ⟨c2, iS2, hKn2⟩ := u_known (C := R_Scan) (T := F_Scan) (N := 6) (n := 6) hts i_Scan (kn_Scan_1 hts)
  obtain ⟨c3, iS3, hKn3⟩ := u_known (C := R_DeltaRows) (T := F_DeltaRows) (N := 6) (n := 6) hts i_DeltaRows (kn_DeltaRows_1 hts)
  obtain ⟨c4, iS4, hKn4⟩ := u_known (C := R_Model) (T := F_Model) (N := 16) (n := 16) hts i_Model (kn_Model_1 hts)
  obtain ⟨dC, dI, hKc⟩ : ∃ (dC : Nat → ClassId) (dI : Nat → Nat → Nat), ∀ (k : Nat) (q : vw_C), classes[k]? = some q → u_Kn s q.1 q.2.1 q.2.2 (dC k) (dI k) := by
    refine ⟨fun k => if k = 0 then c0 else if k = 1 then c1 else if k = 2 then c2 else if k = 3 then c3 else c4, fun k => if k = 0 then iS0 else if k = 1 then iS1 else if k = 2 then iS2 else if k = 3 then iS3 else iS4, ?_⟩
    intro k q hq
    match k, hq with
    | 0, hq => cases hq; exact hKn0
    | 1, hq => cases hq; exact hKn1
    | 2, hq => cases hq; exact hKn2
    | 3, hq => cases hq; exact hKn3
    | 4, hq => cases hq; exact hKn4
    | k + 5, hq => simp [classes] at hq
  obtain ⟨cI, kI, pI, f1, f2, f3⟩ := Cond.arrayClass_spec (ka_int hts)
  obtain ⟨cJ, kJ, pJ, g1, g2, g3⟩ := Cond.arrayClass_spec (ka_long hts)
  obtain ⟨D, hDD⟩ : ∃ D : va_G, D = (dC, dI) := ⟨_, rfl⟩
  have hK : va_K D classes (zT cI cJ) s := by
    subst hDD
    refine ⟨hKc, fun k q hq => ?_⟩
    match k, hq with
    | 0, hq => cases hq; exact ⟨fun n z => ⟨fun k h => (by cases h), kI, f2, pI, f3⟩, f1⟩
    | 1, hq => cases hq; exact ⟨fun n z => ⟨fun k h => (by cases h), kJ, g2, pJ, g3⟩, g1⟩
    | k + 2, hq => simp at hq
  have hS : va_S (fun q : Nat => s.heap.size ≤ q) s.heap s.heap [] := va_S.rf
  have hP : va_P D classes [] s.heap := fun k q h => by simp at h
  have hD : va_D (fun q : Nat => s.heap.size ≤ q) [] := ⟨fun i j p q h => by simp at h, fun k q h => by simp at h⟩
  have hl := lv_entry ([.ref sb]) (n := 4) (Nat.le_of_ble_eq_true rfl)
  rw [lg_entry_eq]
  generalize (lg_sl ([.ref sb]) ++ List.replicate (4 - (lg_sl ([.ref sb])).length) Slot.unset).toArray = ls at hl ⊢
  have hl : lv_has ls 4 [(0, .ref sb)] := hl
  refine va_new (ci := 3) (fs := [.null, .int 0, .null, .null, .null, .null]) (C := R_DeltaRows) (T := F_DeltaRows) (N := 6) hx hb hts i_DeltaRows t_DeltaRows t_DeltaRows_ok hown (kw_law_7 hts) (kn_DeltaRows_1 hts) (kn_DeltaRows_2 hts) hK hP hD hS hA rfl (fun j hj => by rcases (show j = 0 ∨ j = 1 ∨ j = 2 ∨ j = 3 ∨ j = 4 ∨ j = 5 by omega) with rfl | rfl | rfl | rfl | rfl | rfl <;> rfl) (by decide) (by decide) d_law_law_0 (fun qo1 H hP hD hS => ?_)
  have hP : va_P D classes [(qo1, .inr (3, [.null, .int 0, .null, .null, .null, .null]))] H := hP
  have hD : va_D (fun q : Nat => s.heap.size ≤ q) [(qo1, .inr (3, [.null, .int 0, .null, .null, .null, .null]))] := hD
  refine lv_dup hx hb d_law_law_3 rfl ?_
  refine z_call (wr := []) (z_runI (rest := [.ref qo1]) hx hb hml hown hts hK hN (c_DeltaRows_init l D cI cJ qo1 ) kk_law_9 (zP.cut hP [0] rfl) (hD.sub [0] (by decide) rfl) rfl hl.1 rfl (Nat.le_of_ble_eq_true rfl) d_law_law_4 (by decide) (by decide)) hP hD hS hA [0] [] rfl rfl (by decide) (by decide) (fun rv w1 H locs hq hP hD hS => ?_)
  obtain ⟨rfl, qro2, qbo3, qso4, qla5, qlb6, qhw7, qhl18, qhi19, qhs110, qhl211, qhi212, qhs213, rfl⟩ := hq
  have hP : va_P D classes [(qo1, .inr (3, [.ref qro2, .int (nI 0), .ref qbo3, .ref qso4, .ref qla5, .ref qlb6])), (qro2, .inl (cJ, 2000, .inr (.inl (fun _ => 0)))), (qbo3, .inr (0, [.ref qhw7, .int (nI 0)])), (qhw7, .inl (cJ, 2500, .inr (.inl (fun _ => 0)))), (qso4, .inr (2, [.ref qbo3, .int (nI 0), .int (nI 0), .int (-1), .int (nI 0), .long 0])), (qla5, .inr (1, [.int (nI 0), .ref qhl18, .ref qhi19, .ref qhs110])), (qhl18, .inl (cJ, 32, .inr (.inl (fun _ => 0)))), (qhi19, .inl (cI, 128, .inl (fun _ => 0))), (qhs110, .inl (cI, 128, .inl (fun _ => 0))), (qlb6, .inr (1, [.int (nI 0), .ref qhl211, .ref qhi212, .ref qhs213])), (qhl211, .inl (cJ, 32, .inr (.inl (fun _ => 0)))), (qhi212, .inl (cI, 128, .inl (fun _ => 0))), (qhs213, .inl (cI, 128, .inl (fun _ => 0)))] H := hP
  have hD : va_D (fun q : Nat => s.heap.size ≤ q) [(qo1, .inr (3, [.ref qro2, .int (nI 0), .ref qbo3, .ref qso4, .ref qla5, .ref qlb6])), (qro2, .inl (cJ, 2000, .inr (.inl (fun _ => 0)))), (qbo3, .inr (0, [.ref qhw7, .int (nI 0)])), (qhw7, .inl (cJ, 2500, .inr (.inl (fun _ => 0)))), (qso4, .inr (2, [.ref qbo3, .int (nI 0), .int (nI 0), .int (-1), .int (nI 0), .long 0])), (qla5, .inr (1, [.int (nI 0), .ref qhl18, .ref qhi19, .ref qhs110])), (qhl18, .inl (cJ, 32, .inr (.inl (fun _ => 0)))), (qhi19, .inl (cI, 128, .inl (fun _ => 0))), (qhs110, .inl (cI, 128, .inl (fun _ => 0))), (qlb6, .inr (1, [.int (nI 0), .ref qhl211, .ref qhi212, .ref qhs213])), (qhl211, .inl (cJ, 32, .inr (.inl (fun _ => 0)))), (qhi212, .inl (cI, 128, .inl (fun _ => 0))), (qhs213, .inl (cI, 128, .inl (fun _ => 0)))] := hD
  refine W.eq (g2 := F0 m 7 ls [.ref qo1]) rfl ?_
  refine lv_astore_n (lv' := [(1, .ref qo1), (0, .ref sb)]) hx hb d_law_law_7 rfl hl (by decide) rfl (fun ls hl => ?_)
  refine va_new (ci := 4) (fs := [.int 0, .null, .null, .int 0, .null, .int 0, .int 0, .null, .null, .null, .null, .null, .null, .int 0, .int 0, .int 0]) (C := R_Model) (T := F_Model) (N := 16) hx hb hts i_Model t_Model t_Model_ok hown (kw_law_10 hts) (kn_Model_1 hts) (kn_Model_2 hts) hK hP hD hS hA rfl (fun j hj => by rcases (show j = 0 ∨ j = 1 ∨ j = 2 ∨ j = 3 ∨ j = 4 ∨ j = 5 ∨ j = 6 ∨ j = 7 ∨ j = 8 ∨ j = 9 ∨ j = 10 ∨ j = 11 ∨ j = 12 ∨ j = 13 ∨ j = 14 ∨ j = 15 by omega) with rfl | rfl | rfl | rfl | rfl | rfl | rfl | rfl | rfl | rfl | rfl | rfl | rfl | rfl | rfl | rfl <;> rfl) (by decide) (by decide) d_law_law_8 (fun qo14 H hP hD hS => ?_)
  have hP : va_P D classes [(qo1, .inr (3, [.ref qro2, .int (nI 0), .ref qbo3, .ref qso4, .ref qla5, .ref qlb6])), (qro2, .inl (cJ, 2000, .inr (.inl (fun _ => 0)))), (qbo3, .inr (0, [.ref qhw7, .int (nI 0)])), (qhw7, .inl (cJ, 2500, .inr (.inl (fun _ => 0)))), (qso4, .inr (2, [.ref qbo3, .int (nI 0), .int (nI 0), .int (-1), .int (nI 0), .long 0])), (qla5, .inr (1, [.int (nI 0), .ref qhl18, .ref qhi19, .ref qhs110])), (qhl18, .inl (cJ, 32, .inr (.inl (fun _ => 0)))), (qhi19, .inl (cI, 128, .inl (fun _ => 0))), (qhs110, .inl (cI, 128, .inl (fun _ => 0))), (qlb6, .inr (1, [.int (nI 0), .ref qhl211, .ref qhi212, .ref qhs213])), (qhl211, .inl (cJ, 32, .inr (.inl (fun _ => 0)))), (qhi212, .inl (cI, 128, .inl (fun _ => 0))), (qhs213, .inl (cI, 128, .inl (fun _ => 0))), (qo14, .inr (4, [.int 0, .null, .null, .int 0, .null, .int 0, .int 0, .null, .null, .null, .null, .null, .null, .int 0, .int 0, .int 0]))] H := hP
  have hD : va_D (fun q : Nat => s.heap.size ≤ q) [(qo1, .inr (3, [.ref qro2, .int (nI 0), .ref qbo3, .ref qso4, .ref qla5, .ref qlb6])), (qro2, .inl (cJ, 2000, .inr (.inl (fun _ => 0)))), (qbo3, .inr (0, [.ref qhw7, .int (nI 0)])), (qhw7, .inl (cJ, 2500, .inr (.inl (fun _ => 0)))), (qso4, .inr (2, [.ref qbo3, .int (nI 0), .int (nI 0), .int (-1), .int (nI 0), .long 0])), (qla5, .inr (1, [.int (nI 0), .ref qhl18, .ref qhi19, .ref qhs110])), (qhl18, .inl (cJ, 32, .inr (.inl (fun _ => 0)))), (qhi19, .inl (cI, 128, .inl (fun _ => 0))), (qhs110, .inl (cI, 128, .inl (fun _ => 0))), (qlb6, .inr (1, [.int (nI 0), .ref qhl211, .ref qhi212, .ref qhs213])), (qhl211, .inl (cJ, 32, .inr (.inl (fun _ => 0)))), (qhi212, .inl (cI, 128, .inl (fun _ => 0))), (qhs213, .inl (cI, 128, .inl (fun _ => 0))), (qo14, .inr (4, [.int 0, .null, .null, .int 0, .null, .int 0, .int 0, .null, .null, .null, .null, .null, .null, .int 0, .int 0, .int 0]))] := hD
  refine lv_dup hx hb d_law_law_11 rfl ?_
  refine z_call (wr := [(qo1, .inr (3, [.ref qro2, .int (nI 0), .ref qbo3, .ref qso4, .ref qla5, .ref qlb6])), (qro2, .inl (cJ, 2000, .inr (.inl (fun _ => 0)))), (qbo3, .inr (0, [.ref qhw7, .int (nI 0)])), (qhw7, .inl (cJ, 2500, .inr (.inl (fun _ => 0)))), (qso4, .inr (2, [.ref qbo3, .int (nI 0), .int (nI 0), .int (-1), .int (nI 0), .long 0])), (qla5, .inr (1, [.int (nI 0), .ref qhl18, .ref qhi19, .ref qhs110])), (qhl18, .inl (cJ, 32, .inr (.inl (fun _ => 0)))), (qhi19, .inl (cI, 128, .inl (fun _ => 0))), (qhs110, .inl (cI, 128, .inl (fun _ => 0))), (qlb6, .inr (1, [.int (nI 0), .ref qhl211, .ref qhi212, .ref qhs213])), (qhl211, .inl (cJ, 32, .inr (.inl (fun _ => 0)))), (qhi212, .inl (cI, 128, .inl (fun _ => 0))), (qhs213, .inl (cI, 128, .inl (fun _ => 0)))]) (z_runI (rest := [.ref qo14]) hx hb hml hown hts hK hN (c_Model_init l D cI cJ qo14 ) kk_law_12 (zP.cut hP [13] rfl) (hD.sub [13] (by decide) rfl) rfl hl.1 rfl (Nat.le_of_ble_eq_true rfl) d_law_law_12 (by decide) (by decide)) hP hD hS hA [13] [0, 1, 2, 3, 4, 5, 6, 7, 8, 9, 10, 11, 12] rfl rfl (by decide) (by decide) (fun rv w1 H locs hq hP hD hS => ?_)
  obtain ⟨rfl, qmr15, qms16, qmb17, qml18, qmn19, qmw20, qmt21, qmv22, qmu23, rfl⟩ := hq
  have hP : va_P D classes [(qo1, .inr (3, [.ref qro2, .int (nI 0), .ref qbo3, .ref qso4, .ref qla5, .ref qlb6])), (qro2, .inl (cJ, 2000, .inr (.inl (fun _ => 0)))), (qbo3, .inr (0, [.ref qhw7, .int (nI 0)])), (qhw7, .inl (cJ, 2500, .inr (.inl (fun _ => 0)))), (qso4, .inr (2, [.ref qbo3, .int (nI 0), .int (nI 0), .int (-1), .int (nI 0), .long 0])), (qla5, .inr (1, [.int (nI 0), .ref qhl18, .ref qhi19, .ref qhs110])), (qhl18, .inl (cJ, 32, .inr (.inl (fun _ => 0)))), (qhi19, .inl (cI, 128, .inl (fun _ => 0))), (qhs110, .inl (cI, 128, .inl (fun _ => 0))), (qlb6, .inr (1, [.int (nI 0), .ref qhl211, .ref qhi212, .ref qhs213])), (qhl211, .inl (cJ, 32, .inr (.inl (fun _ => 0)))), (qhi212, .inl (cI, 128, .inl (fun _ => 0))), (qhs213, .inl (cI, 128, .inl (fun _ => 0))), (qo14, .inr (4, [.int 0, .ref qmr15, .ref qms16, .int 0, .ref qmb17, .int 0, .int (-1), .ref qml18, .ref qmn19, .ref qmw20, .ref qmt21, .ref qmv22, .ref qmu23, .int 0, .int 0, .int 0])), (qmr15, .inl (cJ, 2000, .inr (.inl (fun _ => 0)))), (qms16, .inl (cJ, 2000, .inr (.inl (fun _ => 0)))), (qmb17, .inl (cI, 20000, .inl (fun _ => 0))), (qml18, .inl (cJ, 40, .inr (.inl (fun _ => 0)))), (qmn19, .inl (cJ, 40, .inr (.inl (fun _ => 0)))), (qmw20, .inl (cI, 160, .inl (fun _ => 0))), (qmt21, .inl (cI, 160, .inl (fun _ => 0))), (qmv22, .inl (cI, 160, .inl (fun _ => 0))), (qmu23, .inl (cI, 160, .inl (fun _ => 0)))] H := hP
  have hD : va_D (fun q : Nat => s.heap.size ≤ q) [(qo1, .inr (3, [.ref qro2, .int (nI 0), .ref qbo3, .ref qso4, .ref qla5, .ref qlb6])), (qro2, .inl (cJ, 2000, .inr (.inl (fun _ => 0)))), (qbo3, .inr (0, [.ref qhw7, .int (nI 0)])), (qhw7, .inl (cJ, 2500, .inr (.inl (fun _ => 0)))), (qso4, .inr (2, [.ref qbo3, .int (nI 0), .int (nI 0), .int (-1), .int (nI 0), .long 0])), (qla5, .inr (1, [.int (nI 0), .ref qhl18, .ref qhi19, .ref qhs110])), (qhl18, .inl (cJ, 32, .inr (.inl (fun _ => 0)))), (qhi19, .inl (cI, 128, .inl (fun _ => 0))), (qhs110, .inl (cI, 128, .inl (fun _ => 0))), (qlb6, .inr (1, [.int (nI 0), .ref qhl211, .ref qhi212, .ref qhs213])), (qhl211, .inl (cJ, 32, .inr (.inl (fun _ => 0)))), (qhi212, .inl (cI, 128, .inl (fun _ => 0))), (qhs213, .inl (cI, 128, .inl (fun _ => 0))), (qo14, .inr (4, [.int 0, .ref qmr15, .ref qms16, .int 0, .ref qmb17, .int 0, .int (-1), .ref qml18, .ref qmn19, .ref qmw20, .ref qmt21, .ref qmv22, .ref qmu23, .int 0, .int 0, .int 0])), (qmr15, .inl (cJ, 2000, .inr (.inl (fun _ => 0)))), (qms16, .inl (cJ, 2000, .inr (.inl (fun _ => 0)))), (qmb17, .inl (cI, 20000, .inl (fun _ => 0))), (qml18, .inl (cJ, 40, .inr (.inl (fun _ => 0)))), (qmn19, .inl (cJ, 40, .inr (.inl (fun _ => 0)))), (qmw20, .inl (cI, 160, .inl (fun _ => 0))), (qmt21, .inl (cI, 160, .inl (fun _ => 0))), (qmv22, .inl (cI, 160, .inl (fun _ => 0))), (qmu23, .inl (cI, 160, .inl (fun _ => 0)))] := hD
  refine W.eq (g2 := F0 m 15 ls [.ref qo14]) rfl ?_
  refine lv_astore_n (lv' := [(2, .ref qo14), (1, .ref qo1), (0, .ref sb)]) hx hb d_law_law_15 rfl hl (by decide) rfl (fun ls hl => ?_)
  refine lv_iconst (v := nI 0) hx hb d_law_law_16 (by decide +kernel) ?_
  refine lv_istore_n (lv' := [(3, .int (nI 0)), (2, .ref qo14), (1, .ref qo1), (0, .ref sb)]) hx hb d_law_law_17 rfl hl (by decide) rfl (fun ls hl => ?_)
  exact law_loop (D := D) (cI := cI) (cJ := cJ) hL hx hb hr hlocks hml hown hts hK hN hX hbl (L + 1) 0 qo1 qro2 qbo3 qhw7 qso4 qla5 qhl18 qhi19 qhs110 qlb6 qhl211 qhi212 qhs213 qo14 qmr15 qms16 qmb17 qml18 qmn19 qmw20 qmt21 qmv22 qmu23 0 (fun _ => 0) (fun _ => 0, 0) (0, (0, (-1))) 0 0 0 (fun _ => 0) (fun _ => 0) (fun _ => 0) 0 (fun _ => 0, (fun _ => 0, fun _ => 0)) 0 0 (fun _ => 0, 0) (0, (0, (-1))) 0 (fun _ => 0) (fun _ => 0, (fun _ => 0, (fun _ => 0, fun _ => 0))) (fun _ => 0) (fun _ => 0) (fun _ => 0) (Nat.zero_le _) (by omega) REL.init _ _ hP hD hS ls (lv_sub hl [3, 2, 1, 0] rfl)
