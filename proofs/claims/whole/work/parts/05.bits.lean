/-! ===== lN n to 2^64: shifts, and, or, masks, one bit ===== -/
theorem wb_tb (n : Nat) : (lN n).toBitVec = BitVec.ofNat 64 n := rfl
theorem wb_inj {a b : Int64} (h : a.toBitVec = b.toBitVec) : a = b := Int64.toBitVec_inj.mp h
theorem wb_tn {n : Nat} (h : n < 2 ^ 64) : (lN n).toBitVec.toNat = n := by rw [wb_tb, BitVec.toNat_ofNat, Nat.mod_eq_of_lt h]
theorem wb_of (x : Int64) : ∃ n, n < 2 ^ 64 ∧ x = lN n := ⟨x.toBitVec.toNat, x.toBitVec.isLt, wb_inj (by rw [wb_tb]; simp)⟩
theorem wb_of32 (x : Int32) : ∃ n, n < 2 ^ 32 ∧ x = nI n := ⟨x.toBitVec.toNat, x.toBitVec.isLt, Int32.toBitVec_inj.mp (by show _ = BitVec.ofNat 32 _; simp)⟩
theorem wb_c : ∀ k, k < 64 → ((nI k).toInt64 &&& 63) = lN k := by decide +kernel
theorem wb_cu : ∀ k, k < 64 → ((nI k).toInt64.toUInt64 &&& Int64.toUInt64 63) = UInt64.ofNat k := by decide +kernel
theorem wb_sm : ∀ k, k < 64 → (BitVec.ofNat 64 k).smod 64 = BitVec.ofNat 64 k := by decide +kernel
theorem wb_pw {a b : Nat} (h : a ≤ b) : 2 ^ b = 2 ^ a * 2 ^ (b - a) := by rw [← Nat.pow_add]; congr 1; omega
theorem wb_lt2 {a b : Nat} (h : a < b) : 2 ^ a < 2 ^ b := Nat.pow_lt_pow_right (by decide) h
theorem wb_mod (n : Nat) : lN n = lN (n % 2 ^ 64) := wb_inj (by rw [wb_tb, wb_tb]; apply BitVec.eq_of_toNat_eq; rw [BitVec.toNat_ofNat, BitVec.toNat_ofNat, Nat.mod_mod])
theorem wb_shr {n k : Nat} (hn : n < 2 ^ 64) (hk : k < 64) : ((lN n).toUInt64 >>> ((nI k).toInt64.toUInt64 &&& Int64.toUInt64 63)).toInt64 = lN (n / 2 ^ k) := by
  rw [wb_cu k hk]
  apply wb_inj
  apply BitVec.eq_of_toNat_eq
  show ((lN n).toUInt64 >>> UInt64.ofNat k).toNat = (BitVec.ofNat 64 _).toNat
  have h1 : (UInt64.ofNat k).toNat = k := by
    show (BitVec.ofNat 64 k).toNat = k
    rw [BitVec.toNat_ofNat, Nat.mod_eq_of_lt (by omega)]
  have h2 : (lN n).toUInt64.toNat = n := wb_tn hn
  rw [UInt64.toNat_shiftRight, h1, h2, Nat.mod_eq_of_lt hk, Nat.shiftRight_eq_div_pow, BitVec.toNat_ofNat, Nat.mod_eq_of_lt (Nat.lt_of_le_of_lt (Nat.div_le_self _ _) hn)]
theorem wb_shl (n : Nat) {k : Nat} (hk : k < 64) : lN n <<< ((nI k).toInt64 &&& 63) = lN (n * 2 ^ k) := by
  rw [wb_c k hk]
  apply wb_inj
  rw [Int64.toBitVec_shiftLeft, wb_tb, wb_tb, wb_tb, wb_sm k hk]
  apply BitVec.eq_of_toNat_eq
  rw [BitVec.shiftLeft_eq', BitVec.toNat_shiftLeft, BitVec.toNat_ofNat, BitVec.toNat_ofNat, BitVec.toNat_ofNat, Nat.mod_eq_of_lt (show k < 2 ^ 64 by omega), Nat.shiftLeft_eq, Nat.mul_mod, Nat.mod_mod, ← Nat.mul_mod]
theorem wb_and {a b : Nat} (ha : a < 2 ^ 64) (hb : b < 2 ^ 64) : lN a &&& lN b = lN (a &&& b) := by
  apply wb_inj
  rw [Int64.toBitVec_and, wb_tb, wb_tb, wb_tb]
  apply BitVec.eq_of_toNat_eq
  rw [BitVec.toNat_and, BitVec.toNat_ofNat, BitVec.toNat_ofNat, BitVec.toNat_ofNat, Nat.mod_eq_of_lt ha, Nat.mod_eq_of_lt hb, Nat.mod_eq_of_lt (Nat.and_lt_two_pow _ hb)]
theorem wb_or {a b : Nat} (ha : a < 2 ^ 64) (hb : b < 2 ^ 64) : lN a ||| lN b = lN (a ||| b) := by
  apply wb_inj
  rw [Int64.toBitVec_or, wb_tb, wb_tb, wb_tb]
  apply BitVec.eq_of_toNat_eq
  rw [BitVec.toNat_or, BitVec.toNat_ofNat, BitVec.toNat_ofNat, BitVec.toNat_ofNat, Nat.mod_eq_of_lt ha, Nat.mod_eq_of_lt hb, Nat.mod_eq_of_lt (Nat.or_lt_two_pow ha hb)]
theorem wb_mask {n k : Nat} (hn : n < 2 ^ 64) (hk : k < 64) : lN n &&& lN (2 ^ k - 1) = lN (n % 2 ^ k) := by
  rw [wb_and hn (by have := wb_lt2 hk; omega), Nat.and_two_pow_sub_one_eq_mod]
theorem wb_a1 {n : Nat} (hn : n < 2 ^ 64) : lN n &&& 1 = lN (n % 2) := wb_mask (k := 1) hn (by decide)
theorem wb_bit {n k : Nat} (hn : n < 2 ^ 64) (hk : k < 64) : ((lN n).toUInt64 >>> ((nI k).toInt64.toUInt64 &&& Int64.toUInt64 63)).toInt64 &&& 1 = lN (n / 2 ^ k % 2) := by
  rw [wb_shr hn hk, wb_a1 (Nat.lt_of_le_of_lt (Nat.div_le_self _ _) hn)]
/-! bits of longs and of rows of longs -/
def zushr (x : Int64) (y : Int32) : Int64 := (x.toUInt64 >>> (y.toInt64.toUInt64 &&& Int64.toUInt64 63)).toInt64
def zshl (x : Int64) (y : Int32) : Int64 := x <<< (y.toInt64 &&& 63)
def zshr (x : Int64) (y : Int32) : Int64 := x >>> (y.toInt64 &&& 63)
def ziushr (x y : Int32) : Int32 := (x.toUInt32 >>> (y.toUInt32 &&& Int32.toUInt32 31)).toInt32
def tb (x : Int64) (j : Nat) : Bool := x.toBitVec.getLsbD j
theorem tb_ext {x y : Int64} (h : ∀ j, j < 64 → tb x j = tb y j) : x = y := wb_inj (BitVec.eq_of_getLsbD_eq h)
theorem tb_big {x : Int64} {j : Nat} (h : 64 ≤ j) : tb x j = false := BitVec.getLsbD_of_ge _ _ h
theorem tb_and (x y : Int64) (j : Nat) : tb (x &&& y) j = (tb x j && tb y j) := by unfold tb; rw [Int64.toBitVec_and, BitVec.getLsbD_and]
theorem tb_or (x y : Int64) (j : Nat) : tb (x ||| y) j = (tb x j || tb y j) := by unfold tb; rw [Int64.toBitVec_or, BitVec.getLsbD_or]
theorem tb_xor (x y : Int64) (j : Nat) : tb (x ^^^ y) j = (tb x j ^^ tb y j) := by unfold tb; rw [Int64.toBitVec_xor, BitVec.getLsbD_xor]
theorem tb_lN (n j : Nat) : tb (lN n) j = (decide (j < 64) && n.testBit j) := by unfold tb; rw [wb_tb, BitVec.getLsbD_ofNat]
theorem tb_0 (j : Nat) : tb 0 j = false := by
  unfold tb
  show (0#64).getLsbD j = false
  simp
theorem tb_m1 (j : Nat) : tb (-1) j = decide (j < 64) := by
  unfold tb
  rw [show (-1 : Int64).toBitVec = BitVec.allOnes 64 from by decide +kernel, BitVec.getLsbD_allOnes]
theorem tb_ushr (x : Int64) {k : Nat} (hk : k < 64) (j : Nat) : tb (zushr x (nI k)) j = tb x (k + j) := by
  obtain ⟨n, hn, rfl⟩ := wb_of x
  unfold zushr
  rw [wb_shr hn hk, tb_lN, tb_lN, Nat.testBit_div_two_pow, Nat.add_comm k j]
  by_cases h : j + k < 64
  · rw [decide_eq_true h, decide_eq_true (show j < 64 by omega)]
  · rw [Nat.testBit_lt_two_pow (x := n) (i := j + k) (Nat.lt_of_lt_of_le hn (Nat.pow_le_pow_right (by decide) (by omega))), Bool.and_false, Bool.and_false]
theorem tb_shl (x : Int64) {k : Nat} (hk : k < 64) (j : Nat) : tb (zshl x (nI k)) j = (decide (j < 64) && (decide (k ≤ j) && tb x (j - k))) := by
  obtain ⟨n, hn, rfl⟩ := wb_of x
  unfold zshl
  rw [wb_shl n hk, tb_lN, tb_lN, Nat.testBit_mul_two_pow]
  by_cases h : j < 64
  · rw [decide_eq_true h, decide_eq_true (show j - k < 64 by omega)]; simp
  · rw [decide_eq_false h]; simp
theorem tb_toInt64 (v : Int32) {j : Nat} (hj : j < 32) : tb v.toInt64 j = v.toBitVec.getLsbD j := by
  unfold tb
  rw [Int32.toBitVec_toInt64, BitVec.getLsbD_signExtend, decide_eq_true (show j < 64 by omega), if_pos hj, Bool.true_and]
/-- a row of longs as a row of bits -/
def wbit (wd : Nat → Int64) (i : Nat) : Bool := tb (wd (i / 64)) (i % 64)
def p_room (b w : Nat) : Bool := decide (0 < w ∧ w ≤ 64 ∧ b + w ≤ 160000)
def p_mask (w : Nat) : Int64 := zushr (-1) (nI (64 - w))
theorem tb_mask {w : Nat} (h0 : 0 < w) (hw : w ≤ 64) (j : Nat) : tb (p_mask w) j = decide (j < w) := by
  unfold p_mask
  rw [tb_ushr _ (by omega), tb_m1]
  exact decide_eq_decide.mpr (by omega)
def p_bitsIn (wd : Nat → Int64) (b w : Nat) : Int64 :=
  if p_room b w = true then
    (if b % 64 + w ≤ 64 then zushr (wd (b / 64)) (nI (b % 64)) &&& p_mask w
     else (zushr (wd (b / 64)) (nI (b % 64)) ||| zshl (wd (b / 64 + 1)) (nI (64 - b % 64))) &&& p_mask w)
  else 0
theorem tb_bitsIn {wd : Nat → Int64} {b w : Nat} (hr : 0 < w ∧ w ≤ 64 ∧ b + w ≤ 160000) (j : Nat) : tb (p_bitsIn wd b w) j = (decide (j < w) && wbit wd (b + j)) := by
  have hp : p_room b w = true := decide_eq_true hr
  unfold p_bitsIn
  rw [if_pos hp]
  obtain ⟨h0, h1, h2⟩ := hr
  have hs : b % 64 < 64 := Nat.mod_lt _ (by decide)
  by_cases hg : b % 64 + w ≤ 64
  · rw [if_pos hg, tb_and, tb_mask h0 h1, tb_ushr _ hs]
    by_cases hj : j < w
    · unfold wbit
      rw [show (b + j) / 64 = b / 64 by omega, show (b + j) % 64 = b % 64 + j by omega, decide_eq_true hj, Bool.and_true, Bool.true_and]
    · rw [decide_eq_false hj, Bool.and_false, Bool.false_and]
  · rw [if_neg hg, tb_and, tb_or, tb_mask h0 h1, tb_ushr _ hs, tb_shl _ (by omega)]
    by_cases hj : j < w
    · unfold wbit
      by_cases hq : b % 64 + j < 64
      · rw [show (b + j) / 64 = b / 64 by omega, show (b + j) % 64 = b % 64 + j by omega, decide_eq_true hj, decide_eq_false (show ¬ (64 - b % 64 ≤ j) by omega)]
        simp
      · rw [show (b + j) / 64 = b / 64 + 1 by omega, show (b + j) % 64 = j - (64 - b % 64) by omega, tb_big (x := wd (b / 64)) (show 64 ≤ b % 64 + j by omega), decide_eq_true hj, decide_eq_true (show j < 64 by omega), decide_eq_true (show 64 - b % 64 ≤ j by omega)]
        simp
    · rw [decide_eq_false hj, Bool.and_false, Bool.false_and]
def p_sb1 (wd : Nat → Int64) (b w : Nat) (v : Int64) : Nat → Int64 := vp_updL wd (b / 64) (((wd (b / 64)) &&& ((zshl (p_mask w) (nI (b % 64))) ^^^ (-1))) ||| (zshl (v &&& p_mask w) (nI (b % 64))))
def p_sb2 (wd : Nat → Int64) (b w : Nat) (v : Int64) : Nat → Int64 := vp_updL wd (b / 64 + 1) (((wd (b / 64 + 1)) &&& ((zushr (p_mask w) (nI (64 - b % 64))) ^^^ (-1))) ||| (zushr (v &&& p_mask w) (nI (64 - b % 64))))
def p_setBits (wd : Nat → Int64) (b w : Nat) (v : Int64) : Nat → Int64 :=
  if p_room b w = true then (if b % 64 + w ≤ 64 then p_sb1 wd b w v else p_sb2 (p_sb1 wd b w v) b w v) else wd
theorem wbit_sb1 {wd : Nat → Int64} {b w : Nat} {v : Int64} (hr : 0 < w ∧ w ≤ 64 ∧ b + w ≤ 160000) (i : Nat) : wbit (p_sb1 wd b w v) i = if i / 64 = b / 64 ∧ b ≤ i ∧ i < b + w then tb v (i - b) else wbit wd i := by
  obtain ⟨h0, h1, h2⟩ := hr
  have hs : b % 64 < 64 := Nat.mod_lt _ (by decide)
  unfold wbit p_sb1 vp_updL
  by_cases hq : i / 64 = b / 64
  · rw [if_pos hq, tb_or, tb_and, tb_xor, tb_shl _ hs, tb_shl _ hs, tb_and, tb_mask h0 h1, tb_m1, decide_eq_true (show i % 64 < 64 by omega), hq]
    by_cases hz : b ≤ i ∧ i < b + w
    · rw [if_pos ⟨rfl, hz⟩, decide_eq_true (show b % 64 ≤ i % 64 by omega), decide_eq_true (show i % 64 - b % 64 < w by omega), show i % 64 - b % 64 = i - b by omega]
      simp
    · rw [if_neg (fun z => hz z.2)]
      by_cases h3 : b % 64 ≤ i % 64
      · rw [decide_eq_true h3, decide_eq_false (show ¬ (i % 64 - b % 64 < w) by omega)]
        simp
      · rw [decide_eq_false h3]
        simp
  · rw [if_neg hq, if_neg (fun z => hq z.1)]
theorem wbit_sb2 {wd : Nat → Int64} {b w : Nat} {v : Int64} (hr : 0 < w ∧ w ≤ 64 ∧ b + w ≤ 160000) (hg : ¬ b % 64 + w ≤ 64) (i : Nat) : wbit (p_sb2 wd b w v) i = if i / 64 = b / 64 + 1 ∧ i < b + w then tb v (i - b) else wbit wd i := by
  obtain ⟨h0, h1, h2⟩ := hr
  have hs : b % 64 < 64 := Nat.mod_lt _ (by decide)
  unfold wbit p_sb2 vp_updL
  by_cases hq : i / 64 = b / 64 + 1
  · rw [if_pos hq, tb_or, tb_and, tb_xor, tb_ushr _ (by omega), tb_ushr _ (by omega), tb_and, tb_mask h0 h1, tb_m1, decide_eq_true (show i % 64 < 64 by omega), hq]
    by_cases hz : i < b + w
    · rw [if_pos ⟨rfl, hz⟩, decide_eq_true (show 64 - b % 64 + i % 64 < w by omega), show 64 - b % 64 + i % 64 = i - b by omega]
      simp
    · rw [if_neg (fun z => hz z.2), decide_eq_false (show ¬ (64 - b % 64 + i % 64 < w) by omega)]
      simp
  · rw [if_neg hq, if_neg (fun z => hq z.1)]
theorem wbit_setBits {wd : Nat → Int64} {b w : Nat} {v : Int64} (hr : 0 < w ∧ w ≤ 64 ∧ b + w ≤ 160000) (i : Nat) : wbit (p_setBits wd b w v) i = if b ≤ i ∧ i < b + w then tb v (i - b) else wbit wd i := by
  have hp : p_room b w = true := decide_eq_true hr
  unfold p_setBits
  rw [if_pos hp]
  by_cases hg : b % 64 + w ≤ 64
  · rw [if_pos hg, wbit_sb1 hr]
    by_cases hz : b ≤ i ∧ i < b + w
    · rw [if_pos ⟨by omega, hz⟩, if_pos hz]
    · rw [if_neg (fun z => hz z.2), if_neg hz]
  · rw [if_neg hg, wbit_sb2 hr hg, wbit_sb1 hr]
    by_cases hz : b ≤ i ∧ i < b + w
    · rw [if_pos hz]
      by_cases h3 : i / 64 = b / 64 + 1
      · rw [if_pos ⟨h3, hz.2⟩]
      · rw [if_neg (fun z => h3 z.1), if_pos ⟨by omega, hz⟩]
    · rw [if_neg (fun z => hz ⟨by omega, z.2⟩), if_neg (fun z => hz z.2), if_neg hz]
theorem p_setBits_0 {wd : Nat → Int64} {b w : Nat} {v : Int64} (h : ¬ (0 < w ∧ w ≤ 64 ∧ b + w ≤ 160000)) : p_setBits wd b w v = wd := by
  unfold p_setBits
  rw [if_neg (by rw [show p_room b w = false from decide_eq_false h]; decide)]
theorem p_bitsIn_0 {wd : Nat → Int64} {b w : Nat} (h : ¬ (0 < w ∧ w ≤ 64 ∧ b + w ≤ 160000)) : p_bitsIn wd b w = 0 := by
  unfold p_bitsIn
  rw [if_neg (by rw [show p_room b w = false from decide_eq_false h]; decide)]
/-- a byte of such a row -/
def gB (wd : Nat → Int64) (k : Nat) : Nat := (p_bitsIn wd (k * 8) 8).toBitVec.toNat
theorem gB_bit {wd : Nat → Int64} {k : Nat} (hk : k < 20000) (j : Nat) : (gB wd k).testBit j = (decide (j < 8) && wbit wd (k * 8 + j)) := tb_bitsIn (wd := wd) (b := k * 8) (w := 8) ⟨by decide, by decide, by omega⟩ j
theorem gB_lt {wd : Nat → Int64} {k : Nat} (hk : k < 20000) : gB wd k < 256 := Nat.lt_pow_two_of_testBit (n := 8) _ (fun i hi => by rw [gB_bit hk, decide_eq_false (by omega), Bool.false_and])
theorem lN_self (x : Int64) : x = lN x.toBitVec.toNat := wb_inj (by rw [wb_tb]; simp)
theorem gB_int (wd : Nat → Int64) (k : Nat) : (p_bitsIn wd (k * 8) 8).toInt32 = nI (gB wd k) := by
  rw [lN_self (p_bitsIn wd (k * 8) 8), lN_i]
  rfl
/-- the lowest eight bits of an int -/
def low8 (v : Int32) : Nat := v.toBitVec.toNat % 256
theorem low8_lt (v : Int32) : low8 v < 256 := Nat.mod_lt _ (by decide)
theorem low8_nI {n : Nat} (h : n < 2 ^ 32) : low8 (nI n) = n % 256 := by unfold low8; rw [pk_tn h]
def p_chg (wd : Nat → Int64) (k : Nat) (v : Int32) : Nat → Int64 := p_setBits wd (k * 8) 8 v.toInt64
theorem gB_chg {wd : Nat → Int64} {k : Nat} {v : Int32} (hk : k < 20000) {j : Nat} (hj : j < 20000) : gB (p_chg wd k v) j = if j = k then low8 v else gB wd j := by
  apply Nat.eq_of_testBit_eq
  intro i
  rw [gB_bit hj]
  unfold p_chg
  rw [wbit_setBits ⟨by decide, by decide, by omega⟩]
  by_cases hi : i < 8
  · rw [decide_eq_true hi, Bool.true_and]
    by_cases hjk : j = k
    · subst hjk
      rw [if_pos (by omega), if_pos rfl, show j * 8 + i - j * 8 = i by omega, tb_toInt64 v (by omega)]
      unfold low8
      rw [show (256 : Nat) = 2 ^ 8 from rfl, Nat.testBit_mod_two_pow, decide_eq_true hi, Bool.true_and]
      rfl
    · rw [if_neg (by omega), if_neg hjk, gB_bit hj, decide_eq_true hi, Bool.true_and]
  · rw [decide_eq_false hi, Bool.false_and]
    by_cases hjk : j = k
    · rw [if_pos hjk]
      exact (Nat.testBit_lt_two_pow (Nat.lt_of_lt_of_le (low8_lt v) (show 256 ≤ 2 ^ i from Nat.le_trans (by decide) (Nat.pow_le_pow_right (n := 2) (by decide) (show 8 ≤ i by omega))))).symm
    · rw [if_neg hjk, gB_bit hj, decide_eq_false hi, Bool.false_and]
