/-! counting bits -/
theorem and_split {w y a M b : Nat} (ha : a < 2 ^ w) (hb : b < 2 ^ w) : (2 ^ w * y + a) &&& (2 ^ w * M + b) = 2 ^ w * (y &&& M) + (a &&& b) := by
  have hab : a &&& b < 2 ^ w := Nat.lt_of_le_of_lt Nat.and_le_left ha
  apply Nat.eq_of_testBit_eq
  intro j
  rw [Nat.testBit_and, Nat.testBit_two_pow_mul_add _ ha, Nat.testBit_two_pow_mul_add _ hb, Nat.testBit_two_pow_mul_add _ hab]
  split
  · rw [Nat.testBit_and]
  · rw [Nat.testBit_and]
theorem and8 {y a M b : Nat} (ha : a < 256) (hb : b < 256) : (256 * y + a) &&& (256 * M + b) = 256 * (y &&& M) + (a &&& b) := and_split (w := 8) ha hb
def mB (b : Nat) : Nat → Nat
  | 0 => 0
  | n + 1 => 256 * mB b n + b
theorem mB_s {b n : Nat} : mB b (n + 1) = 256 * mB b n + b := rfl
def sw1 (n x : Nat) : Nat := x - ((x / 2) &&& mB 85 n)
def sw2 (n x : Nat) : Nat := (sw1 n x &&& mB 51 n) + ((sw1 n x / 4) &&& mB 51 n)
def sw3 (n x : Nat) : Nat := (sw2 n x + sw2 n x / 16) &&& mB 15 n
def w1 (a : Nat) : Nat := a - ((a / 2) &&& 85)
def w2 (a : Nat) : Nat := (w1 a &&& 51) + ((w1 a / 4) &&& 51)
def w3 (a : Nat) : Nat := (w2 a + w2 a / 16) &&& 15
theorem tA1 : ∀ b, b < 2 → ∀ a, a < 256 → ((128 * b + a / 2) &&& 85) = ((a / 2) &&& 85) := by decide +kernel
theorem tA2 : ∀ b, b < 4 → ∀ a, a < 256 → ((64 * b + a / 4) &&& 51) = ((a / 4) &&& 51) := by decide +kernel
theorem tA3 : ∀ a, a < 256 → w1 a < 256 ∧ (a / 2) &&& 85 ≤ a ∧ w2 a ≤ 68 ∧ w2 a % 16 ≤ 4 := by decide +kernel
theorem sw1_s {n y a : Nat} (ha : a < 256) : sw1 (n + 1) (256 * y + a) = 256 * sw1 n y + w1 a := by
  unfold sw1 w1
  rw [mB_s]
  have h1 : (256 * y + a) / 2 = 256 * (y / 2) + (128 * (y % 2) + a / 2) := by omega
  have h2 : (y / 2) &&& mB 85 n ≤ y / 2 := Nat.and_le_left
  have h3 := (tA3 a ha).2.1
  rw [h1, and8 (by omega) (by omega), tA1 (y % 2) (by omega) a ha]
  omega
theorem sw2_s {n y a : Nat} (ha : a < 256) : sw2 (n + 1) (256 * y + a) = 256 * sw2 n y + w2 a := by
  have h3 := tA3 a ha
  unfold sw2 w2
  rw [sw1_s ha]
  generalize hp : sw1 n y = p
  generalize hq : w1 a = q at *
  have h1 : (256 * p + q) / 4 = 256 * (p / 4) + (64 * (p % 4) + q / 4) := by omega
  rw [mB_s, h1, and8 (by omega) (by omega), and8 (by omega) (by omega), tA2 (p % 4) (by omega) q (by omega)]
  omega
theorem sw2_4 : ∀ n {x : Nat}, sw2 n x % 16 ≤ 4
  | 0, x => by
    show ((sw1 0 x &&& 0) + ((sw1 0 x / 4) &&& 0)) % 16 ≤ 4
    rw [Nat.and_zero, Nat.and_zero]
    decide
  | n + 1, x => by
    have e : x = 256 * (x / 256) + x % 256 := by omega
    rw [e, sw2_s (by omega)]
    have := (tA3 (x % 256) (by omega)).2.2.2
    omega
theorem sw3_s {n y a : Nat} (ha : a < 256) : sw3 (n + 1) (256 * y + a) = 256 * sw3 n y + w3 a := by
  have h3 := tA3 a ha
  have h4 := sw2_4 n (x := y)
  unfold sw3 w3
  rw [sw2_s ha]
  generalize hp : sw2 n y = p at *
  generalize hq : w2 a = q at *
  have h1 : 256 * p + q + (256 * p + q) / 16 = 256 * (p + p / 16) + (q + q / 16 + 16 * (p % 16)) := by omega
  rw [mB_s, h1, and8 (by omega) (by omega)]
  have e : ∀ z, z &&& 15 = z % 16 := fun z => Nat.and_two_pow_sub_one_eq_mod z 4
  rw [e, e]
  omega
def bc (x n : Nat) : Nat := sm (fun i => if x.testBit i then 1 else 0) n
theorem w3_t : ∀ a, a < 256 → w3 a = bc a 8 ∧ w3 a ≤ 8 := by decide +kernel
theorem tb8 {y a i : Nat} (ha : a < 256) : (256 * y + a).testBit i = if i < 8 then a.testBit i else y.testBit (i - 8) := Nat.testBit_two_pow_mul_add (i := 8) y ha i
theorem bc8 {y a : Nat} (ha : a < 256) : ∀ n, bc (256 * y + a) (n + 8) = bc a 8 + bc y n
  | 0 => by
    show sm _ 8 = sm _ 8 + 0
    rw [Nat.add_zero]
    exact sm_congr (fun i hi => by rw [tb8 ha, if_pos hi])
  | n + 1 => by
    have := bc8 (y := y) ha n
    show bc (256 * y + a) (n + 8) + (if (256 * y + a).testBit (n + 8) then 1 else 0) = bc a 8 + (bc y n + (if y.testBit n then 1 else 0))
    rw [this, tb8 ha, if_neg (show ¬ n + 8 < 8 by omega), Nat.add_sub_cancel]
    omega
theorem sw3_40 {x : Nat} (h : x < 2 ^ 40) : ∃ a b c d e, a ≤ 8 ∧ b ≤ 8 ∧ c ≤ 8 ∧ d ≤ 8 ∧ e ≤ 8 ∧ sw3 8 x = 256 * (256 * (256 * (256 * e + d) + c) + b) + a ∧ bc x 40 = a + b + c + d + e := by
  have e0 : x = 256 * (256 * (256 * (256 * (256 * 0 + x / 256 / 256 / 256 / 256 % 256) + x / 256 / 256 / 256 % 256) + x / 256 / 256 % 256) + x / 256 % 256) + x % 256 := by omega
  have t0 := w3_t (x % 256) (by omega)
  have t1 := w3_t (x / 256 % 256) (by omega)
  have t2 := w3_t (x / 256 / 256 % 256) (by omega)
  have t3 := w3_t (x / 256 / 256 / 256 % 256) (by omega)
  have t4 := w3_t (x / 256 / 256 / 256 / 256 % 256) (by omega)
  refine ⟨_, _, _, _, _, t0.2, t1.2, t2.2, t3.2, t4.2, ?_, ?_⟩
  · conv => lhs; rw [e0]
    rw [sw3_s (by omega), sw3_s (by omega), sw3_s (by omega), sw3_s (by omega), sw3_s (by omega), show sw3 3 0 = 0 by decide]
    omega
  · conv => lhs; rw [e0]
    rw [bc8 (by omega) 32, bc8 (by omega) 24, bc8 (by omega) 16, bc8 (by omega) 8, bc8 (by omega) 0, show bc 0 0 = 0 from rfl, t0.1, t1.1, t2.1, t3.1, t4.1]
    omega
theorem lN_and (a b : Nat) : lN a &&& lN b = lN (a &&& b) := by
  apply Int64.toBitVec_inj.mp
  simp only [lN, Int64.toBitVec_and]
  show BitVec.ofNat 64 a &&& BitVec.ofNat 64 b = BitVec.ofNat 64 (a &&& b)
  rw [BitVec.ofNat_and]
theorem lN_shr {x k : Nat} (hx : x < 2 ^ 64) (c : UInt64) (hc : c.toNat = k) (hk : k < 64) : ((lN x).toUInt64 >>> c).toInt64 = lN (x / 2 ^ k) := by
  apply Int64.toBitVec_inj.mp
  apply BitVec.eq_of_toNat_eq
  have e1 : ((lN x).toUInt64 >>> c).toNat = x / 2 ^ k := by
    rw [UInt64.toNat_shiftRight, hc, Nat.mod_eq_of_lt hk, Nat.shiftRight_eq_div_pow]
    congr 1
    exact Nat.mod_eq_of_lt hx
  have e2 : x / 2 ^ k < 2 ^ 64 := Nat.lt_of_le_of_lt (Nat.div_le_self _ _) hx
  exact e1.trans (Nat.mod_eq_of_lt e2).symm
theorem lN_toI (a : Nat) : (lN a).toInt32 = nI a := by
  apply Int32.toBitVec_inj.mp
  apply BitVec.eq_of_toNat_eq
  show ((BitVec.ofNat 64 a).signExtend 32).toNat = (BitVec.ofNat 32 a).toNat
  rw [BitVec.signExtend_eq_setWidth_of_le _ (by decide), BitVec.toNat_setWidth, BitVec.toNat_ofNat, BitVec.toNat_ofNat]
  omega
theorem nI_and (a b : Nat) : nI a &&& nI b = nI (a &&& b) := by
  apply Int32.toBitVec_inj.mp
  simp only [Int32.toBitVec_and]
  show BitVec.ofNat 32 a &&& BitVec.ofNat 32 b = BitVec.ofNat 32 (a &&& b)
  rw [BitVec.ofNat_and]
theorem sh1 {x : Nat} (hx : x < 2 ^ 64) : ((lN x).toUInt64 >>> ((1 : Int32).toInt64.toUInt64 &&& Int64.toUInt64 63)).toInt64 = lN (x / 2) := lN_shr (k := 1) hx _ (by decide) (by decide)
theorem sh2 {x : Nat} (hx : x < 2 ^ 64) : ((lN x).toUInt64 >>> ((2 : Int32).toInt64.toUInt64 &&& Int64.toUInt64 63)).toInt64 = lN (x / 4) := lN_shr (k := 2) hx _ (by decide) (by decide)
theorem sh4 {x : Nat} (hx : x < 2 ^ 64) : ((lN x).toUInt64 >>> ((4 : Int32).toInt64.toUInt64 &&& Int64.toUInt64 63)).toInt64 = lN (x / 16) := lN_shr (k := 4) hx _ (by decide) (by decide)
theorem sh8 {x : Nat} (hx : x < 2 ^ 64) : ((lN x).toUInt64 >>> ((8 : Int32).toInt64.toUInt64 &&& Int64.toUInt64 63)).toInt64 = lN (x / 256) := lN_shr (k := 8) hx _ (by decide) (by decide)
theorem sh16 {x : Nat} (hx : x < 2 ^ 64) : ((lN x).toUInt64 >>> ((16 : Int32).toInt64.toUInt64 &&& Int64.toUInt64 63)).toInt64 = lN (x / 65536) := lN_shr (k := 16) hx _ (by decide) (by decide)
theorem sh32 {x : Nat} (hx : x < 2 ^ 64) : ((lN x).toUInt64 >>> ((32 : Int32).toInt64.toUInt64 &&& Int64.toUInt64 63)).toInt64 = lN (x / 4294967296) := lN_shr (k := 32) hx _ (by decide) (by decide)
theorem mk5 : (6148914691236517205 : Int64) = lN (mB 85 8) := congrArg Int64.ofNat (show 6148914691236517205 = mB 85 8 by decide)
theorem mk3 : (3689348814741910323 : Int64) = lN (mB 51 8) := congrArg Int64.ofNat (show 3689348814741910323 = mB 51 8 by decide)
theorem mkf : (1085102592571150095 : Int64) = lN (mB 15 8) := congrArg Int64.ofNat (show 1085102592571150095 = mB 15 8 by decide)
theorem n127 : (127 : Int32) = nI 127 := rfl
theorem sw_end {p a b c d e : Nat} (ha : a ≤ 8) (hb : b ≤ 8) (hc : c ≤ 8) (hd : d ≤ 8) (he : e ≤ 8) (h : p = 256 * (256 * (256 * (256 * e + d) + c) + b) + a) : (p + p / 256 + (p + p / 256) / 65536 + (p + p / 256 + (p + p / 256) / 65536) / 4294967296) % 128 = a + b + c + d + e := by
  have h1 : p / 256 = 256 * (256 * (256 * e + d) + c) + b := by omega
  rw [h1]
  have h2 : (p + (256 * (256 * (256 * e + d) + c) + b)) / 65536 = 256 * (256 * e + (d + e)) + (c + d) := by omega
  rw [h2]
  have h3 : (p + (256 * (256 * (256 * e + d) + c) + b) + (256 * (256 * e + (d + e)) + (c + d))) / 4294967296 = e := by omega
  rw [h3]
  omega
section BITC
variable {AH : xH}
theorem sw_lt {x : Nat} (h : x < 2 ^ 40) : sw1 8 x < 2 ^ 64 ∧ sw2 8 x < 2 ^ 62 := by
  have h1 : sw1 8 x ≤ x := Nat.sub_le _ _
  have h2 : sw1 8 x &&& mB 51 8 ≤ sw1 8 x := Nat.and_le_left
  have h3 : (sw1 8 x / 4) &&& mB 51 8 ≤ sw1 8 x / 4 := Nat.and_le_left
  refine ⟨by omega, ?_⟩
  show (sw1 8 x &&& mB 51 8) + ((sw1 8 x / 4) &&& mB 51 8) < 2 ^ 62
  omega
/-- Long.bitCount(x) -/
theorem c_bitCount {x : Nat} (hx : x < 2 ^ 40) {Q : Option Value → xH → Prop} (k : Q (some (.int (nI (bc x 40)))) AH) : XC MJ13_bitCount_95d88 [.long (lN x)] AH Q := by
  have hs := sw_lt hx
  have s1 : (x / 2) &&& mB 85 8 ≤ x := Nat.le_trans Nat.and_le_left (Nat.div_le_self _ _)
  have s2 : x - ((x / 2) &&& mB 85 8) = sw1 8 x := rfl
  have s3 : (sw1 8 x &&& mB 51 8) + ((sw1 8 x / 4) &&& mB 51 8) = sw2 8 x := rfl
  have s4 : (sw2 8 x + sw2 8 x / 16) &&& mB 15 8 = sw3 8 x := rfl
  obtain ⟨a, b, c, d, e, ha, hb, hc, hd, he, e1, e2⟩ := sw3_40 hx
  rw [e2] at k
  generalize sw1 8 x = p1 at *
  generalize sw2 8 x = p2 at *
  generalize sw3 8 x = p3 at *
  have h127 : ∀ z, z &&& 127 = z % 128 := fun z => Nat.and_two_pow_sub_one_eq_mod z 7
  have ef : (p3 + p3 / 256 + (p3 + p3 / 256) / 65536 + (p3 + p3 / 256 + (p3 + p3 / 256) / 65536) / 4294967296) % 128 = a + b + c + d + e := sw_end ha hb hc hd he e1
  refine XC.ofR (L := [some (.long (lN x)), none]) KJ13_bitCount_95d88 (by decide +kernel) (by first | decide | exact Nat.le_of_ble_eq_true rfl) rfl ?_
  simp only [eJ13_bitCount_95d88_0, eJ13_bitCount_95d88_1, eJ13_bitCount_95d88_2, eJ13_bitCount_95d88_3, eJ13_bitCount_95d88_4, eJ13_bitCount_95d88_7, eJ13_bitCount_95d88_8, eJ13_bitCount_95d88_9, eJ13_bitCount_95d88_10, eJ13_bitCount_95d88_11, eJ13_bitCount_95d88_14, eJ13_bitCount_95d88_15, eJ13_bitCount_95d88_16, eJ13_bitCount_95d88_17, eJ13_bitCount_95d88_18, eJ13_bitCount_95d88_21, eJ13_bitCount_95d88_22, eJ13_bitCount_95d88_23, eJ13_bitCount_95d88_24, eJ13_bitCount_95d88_25, eJ13_bitCount_95d88_26, eJ13_bitCount_95d88_27, eJ13_bitCount_95d88_28, eJ13_bitCount_95d88_29, eJ13_bitCount_95d88_32, eJ13_bitCount_95d88_33, eJ13_bitCount_95d88_34, eJ13_bitCount_95d88_35, eJ13_bitCount_95d88_36, eJ13_bitCount_95d88_38, eJ13_bitCount_95d88_39, eJ13_bitCount_95d88_40, eJ13_bitCount_95d88_41, eJ13_bitCount_95d88_42, eJ13_bitCount_95d88_43, eJ13_bitCount_95d88_45, eJ13_bitCount_95d88_46, eJ13_bitCount_95d88_47, eJ13_bitCount_95d88_48, eJ13_bitCount_95d88_49, eJ13_bitCount_95d88_50, eJ13_bitCount_95d88_52, eJ13_bitCount_95d88_53, eJ13_bitCount_95d88_54, eJ13_bitCount_95d88_55, eJ13_bitCount_95d88_56, eJ13_bitCount_95d88_57, eJ13_bitCount_95d88_59, eJ13_bitCount_95d88_60, o_const_e, o_ii_e, o_iret_e, o_li_e, o_lil_e, o_ll_e, o_lload_0, o_lst_0, true_and, xnlv_i, xnlv_n, xnlv_r, sh1 (x := x) (by omega), mk5, lN_and, lN_sub s1, s2]
  simp only [eJ13_bitCount_95d88_0, eJ13_bitCount_95d88_1, eJ13_bitCount_95d88_2, eJ13_bitCount_95d88_3, eJ13_bitCount_95d88_4, eJ13_bitCount_95d88_7, eJ13_bitCount_95d88_8, eJ13_bitCount_95d88_9, eJ13_bitCount_95d88_10, eJ13_bitCount_95d88_11, eJ13_bitCount_95d88_14, eJ13_bitCount_95d88_15, eJ13_bitCount_95d88_16, eJ13_bitCount_95d88_17, eJ13_bitCount_95d88_18, eJ13_bitCount_95d88_21, eJ13_bitCount_95d88_22, eJ13_bitCount_95d88_23, eJ13_bitCount_95d88_24, eJ13_bitCount_95d88_25, eJ13_bitCount_95d88_26, eJ13_bitCount_95d88_27, eJ13_bitCount_95d88_28, eJ13_bitCount_95d88_29, eJ13_bitCount_95d88_32, eJ13_bitCount_95d88_33, eJ13_bitCount_95d88_34, eJ13_bitCount_95d88_35, eJ13_bitCount_95d88_36, eJ13_bitCount_95d88_38, eJ13_bitCount_95d88_39, eJ13_bitCount_95d88_40, eJ13_bitCount_95d88_41, eJ13_bitCount_95d88_42, eJ13_bitCount_95d88_43, eJ13_bitCount_95d88_45, eJ13_bitCount_95d88_46, eJ13_bitCount_95d88_47, eJ13_bitCount_95d88_48, eJ13_bitCount_95d88_49, eJ13_bitCount_95d88_50, eJ13_bitCount_95d88_52, eJ13_bitCount_95d88_53, eJ13_bitCount_95d88_54, eJ13_bitCount_95d88_55, eJ13_bitCount_95d88_56, eJ13_bitCount_95d88_57, eJ13_bitCount_95d88_59, eJ13_bitCount_95d88_60, o_const_e, o_ii_e, o_iret_e, o_li_e, o_lil_e, o_ll_e, o_lload_0, o_lst_0, true_and, xnlv_i, xnlv_n, xnlv_r, mk3, lN_and, sh2 (x := p1) (by omega), lN_add, s3]
  simp only [eJ13_bitCount_95d88_0, eJ13_bitCount_95d88_1, eJ13_bitCount_95d88_2, eJ13_bitCount_95d88_3, eJ13_bitCount_95d88_4, eJ13_bitCount_95d88_7, eJ13_bitCount_95d88_8, eJ13_bitCount_95d88_9, eJ13_bitCount_95d88_10, eJ13_bitCount_95d88_11, eJ13_bitCount_95d88_14, eJ13_bitCount_95d88_15, eJ13_bitCount_95d88_16, eJ13_bitCount_95d88_17, eJ13_bitCount_95d88_18, eJ13_bitCount_95d88_21, eJ13_bitCount_95d88_22, eJ13_bitCount_95d88_23, eJ13_bitCount_95d88_24, eJ13_bitCount_95d88_25, eJ13_bitCount_95d88_26, eJ13_bitCount_95d88_27, eJ13_bitCount_95d88_28, eJ13_bitCount_95d88_29, eJ13_bitCount_95d88_32, eJ13_bitCount_95d88_33, eJ13_bitCount_95d88_34, eJ13_bitCount_95d88_35, eJ13_bitCount_95d88_36, eJ13_bitCount_95d88_38, eJ13_bitCount_95d88_39, eJ13_bitCount_95d88_40, eJ13_bitCount_95d88_41, eJ13_bitCount_95d88_42, eJ13_bitCount_95d88_43, eJ13_bitCount_95d88_45, eJ13_bitCount_95d88_46, eJ13_bitCount_95d88_47, eJ13_bitCount_95d88_48, eJ13_bitCount_95d88_49, eJ13_bitCount_95d88_50, eJ13_bitCount_95d88_52, eJ13_bitCount_95d88_53, eJ13_bitCount_95d88_54, eJ13_bitCount_95d88_55, eJ13_bitCount_95d88_56, eJ13_bitCount_95d88_57, eJ13_bitCount_95d88_59, eJ13_bitCount_95d88_60, o_const_e, o_ii_e, o_iret_e, o_li_e, o_lil_e, o_ll_e, o_lload_0, o_lst_0, true_and, xnlv_i, xnlv_n, xnlv_r, mkf, lN_and, sh4 (x := p2) (by omega), lN_add, s4]
  simp only [eJ13_bitCount_95d88_0, eJ13_bitCount_95d88_1, eJ13_bitCount_95d88_2, eJ13_bitCount_95d88_3, eJ13_bitCount_95d88_4, eJ13_bitCount_95d88_7, eJ13_bitCount_95d88_8, eJ13_bitCount_95d88_9, eJ13_bitCount_95d88_10, eJ13_bitCount_95d88_11, eJ13_bitCount_95d88_14, eJ13_bitCount_95d88_15, eJ13_bitCount_95d88_16, eJ13_bitCount_95d88_17, eJ13_bitCount_95d88_18, eJ13_bitCount_95d88_21, eJ13_bitCount_95d88_22, eJ13_bitCount_95d88_23, eJ13_bitCount_95d88_24, eJ13_bitCount_95d88_25, eJ13_bitCount_95d88_26, eJ13_bitCount_95d88_27, eJ13_bitCount_95d88_28, eJ13_bitCount_95d88_29, eJ13_bitCount_95d88_32, eJ13_bitCount_95d88_33, eJ13_bitCount_95d88_34, eJ13_bitCount_95d88_35, eJ13_bitCount_95d88_36, eJ13_bitCount_95d88_38, eJ13_bitCount_95d88_39, eJ13_bitCount_95d88_40, eJ13_bitCount_95d88_41, eJ13_bitCount_95d88_42, eJ13_bitCount_95d88_43, eJ13_bitCount_95d88_45, eJ13_bitCount_95d88_46, eJ13_bitCount_95d88_47, eJ13_bitCount_95d88_48, eJ13_bitCount_95d88_49, eJ13_bitCount_95d88_50, eJ13_bitCount_95d88_52, eJ13_bitCount_95d88_53, eJ13_bitCount_95d88_54, eJ13_bitCount_95d88_55, eJ13_bitCount_95d88_56, eJ13_bitCount_95d88_57, eJ13_bitCount_95d88_59, eJ13_bitCount_95d88_60, o_const_e, o_ii_e, o_iret_e, o_li_e, o_lil_e, o_ll_e, o_lload_0, o_lst_0, true_and, xnlv_i, xnlv_n, xnlv_r, sh8 (x := p3) (by omega), lN_add, sh16 (x := p3 + p3 / 256) (by omega), sh32 (x := p3 + p3 / 256 + (p3 + p3 / 256) / 65536) (by omega), lN_toI, n127, nI_and, h127, ef]
  exact k
end BITC
