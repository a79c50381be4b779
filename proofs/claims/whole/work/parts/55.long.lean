/-! longs: lowest terms, worth -/
theorem lN0 {y : Nat} (h : y < 2 ^ 64) : (lN y = 0) = (y = 0) := by
  refine propext ⟨fun e => ?_, fun e => by rw [e]; rfl⟩
  have e2 : (lN y).toBitVec.toNat = (0 : Int64).toBitVec.toNat := by rw [e]
  have e3 : (lN y).toBitVec.toNat = y % 2 ^ 64 := rfl
  rw [e3] at e2
  have e4 : (0 : Int64).toBitVec.toNat = 0 := rfl
  rw [e4] at e2
  omega
theorem lc0 {y : Nat} (h : y < 2 ^ 64) : (lg_cmp (lN y) 0 = 0) = (y = 0) := by
  rw [propext (lg_cmp_eq _ _), lN0 h]
theorem gcd_s {a b : Nat} : Nat.gcd b (a % b) = Nat.gcd a b := by
  rw [Nat.gcd_comm a b, Nat.gcd_rec b a, Nat.gcd_comm]
section LNG
variable {AH : xH}
theorem k_lowest {a b pt : Nat} (hg : 0 < Nat.gcd a b) (ha : a < 2 ^ 62) (hb : b < 2 ^ 62) (hp : pt < 2) {Q : xQ} (k : Q (some (.long (lN (if pt = 0 then a / Nat.gcd a b else b / Nat.gcd a b)))) AH (0, 0)) : ∀ (n y x : Nat), y ≤ n → x < 2 ^ 62 → y < 2 ^ 62 → Nat.gcd x y = Nat.gcd a b → ∀ w9 w10 : Option Value,
    XR TX7_lowest 6 [some (.long (lN a)), none, some (.long (lN b)), none, some (.int (nI pt)), some (.long (lN x)), none, some (.long (lN y)), none, w9, w10] [] AH (0, 0) Q := by
  intro n
  induction n with
  | zero =>
    intro y x hy hx hyl hgc w9 w10
    have e : y = 0 := by omega
    subst e
    rw [Nat.gcd_zero_right] at hgc
    subst hgc
    rw [eX7_lowest_6]
    simp only [eX7_lowest_0, eX7_lowest_1, eX7_lowest_3, eX7_lowest_4, eX7_lowest_8, eX7_lowest_9, eX7_lowest_10, eX7_lowest_13, eX7_lowest_15, eX7_lowest_17, eX7_lowest_18, eX7_lowest_20, eX7_lowest_22, eX7_lowest_24, eX7_lowest_26, eX7_lowest_28, eX7_lowest_31, eX7_lowest_33, eX7_lowest_36, eX7_lowest_37, eX7_lowest_39, eX7_lowest_40, eX7_lowest_43, eX7_lowest_44, eX7_lowest_46, eX7_lowest_47, o_const_e, o_goto_e, o_if_e, o_iload_4, o_ldiv_e, o_lli_e, o_lload_0, o_lload_2, o_lload_5, o_lload_7, o_lload_9, o_lrem_e, o_lret_e, o_lst_5, o_lst_7, o_lst_9, true_and, xnlv_i, xnlv_n, xnlv_r, lc0 (y := 0) (by decide), eq_self, not_true_eq_false, not_false_eq_true, true_implies, false_implies, and_true, true_and, implies_true, forall_const, ↓reduceIte, Bool.false_eq_true, i10, i10n, eq0_nI (a := pt) (by omega), lN0 (y := Nat.gcd a b) (by omega), pk_lDiv (a := a) (b := Nat.gcd a b) (by omega) hg (by omega), pk_lDiv (a := b) (b := Nat.gcd a b) (by omega) hg (by omega)]
    refine ⟨fun g => ⟨by omega, ?_⟩, fun g => ⟨by omega, ?_⟩⟩
    · rw [if_neg g] at k
      exact k
    · rw [if_pos (Classical.not_not.mp g)] at k
      exact k
  | succ n ih =>
    intro y x hy hx hyl hgc w9 w10
    by_cases e : y = 0
    · subst e
      rw [Nat.gcd_zero_right] at hgc
      subst hgc
      rw [eX7_lowest_6]
      simp only [eX7_lowest_0, eX7_lowest_1, eX7_lowest_3, eX7_lowest_4, eX7_lowest_8, eX7_lowest_9, eX7_lowest_10, eX7_lowest_13, eX7_lowest_15, eX7_lowest_17, eX7_lowest_18, eX7_lowest_20, eX7_lowest_22, eX7_lowest_24, eX7_lowest_26, eX7_lowest_28, eX7_lowest_31, eX7_lowest_33, eX7_lowest_36, eX7_lowest_37, eX7_lowest_39, eX7_lowest_40, eX7_lowest_43, eX7_lowest_44, eX7_lowest_46, eX7_lowest_47, o_const_e, o_goto_e, o_if_e, o_iload_4, o_ldiv_e, o_lli_e, o_lload_0, o_lload_2, o_lload_5, o_lload_7, o_lload_9, o_lrem_e, o_lret_e, o_lst_5, o_lst_7, o_lst_9, true_and, xnlv_i, xnlv_n, xnlv_r, lc0 (y := 0) (by decide), eq_self, not_true_eq_false, not_false_eq_true, true_implies, false_implies, and_true, true_and, implies_true, forall_const, ↓reduceIte, Bool.false_eq_true, i10, i10n, eq0_nI (a := pt) (by omega), lN0 (y := Nat.gcd a b) (by omega), pk_lDiv (a := a) (b := Nat.gcd a b) (by omega) hg (by omega), pk_lDiv (a := b) (b := Nat.gcd a b) (by omega) hg (by omega)]
      refine ⟨fun g => ⟨by omega, ?_⟩, fun g => ⟨by omega, ?_⟩⟩
      · rw [if_neg g] at k
        exact k
      · rw [if_pos (Classical.not_not.mp g)] at k
        exact k
    · have hm : x % y < y := Nat.mod_lt _ (by omega)
      have er := pk_lRem (a := x) (b := y) (by omega) (by omega) (by omega)
      have := ih (x % y) y (by omega) (by omega) (by omega) (by rw [gcd_s]; exact hgc) (some (.long (lN (x % y)))) none
      rw [eX7_lowest_6]
      simp only [eX7_lowest_0, eX7_lowest_1, eX7_lowest_3, eX7_lowest_4, eX7_lowest_8, eX7_lowest_9, eX7_lowest_10, eX7_lowest_13, eX7_lowest_15, eX7_lowest_17, eX7_lowest_18, eX7_lowest_20, eX7_lowest_22, eX7_lowest_24, eX7_lowest_26, eX7_lowest_28, eX7_lowest_31, eX7_lowest_33, eX7_lowest_36, eX7_lowest_37, eX7_lowest_39, eX7_lowest_40, eX7_lowest_43, eX7_lowest_44, eX7_lowest_46, eX7_lowest_47, o_const_e, o_goto_e, o_if_e, o_iload_4, o_ldiv_e, o_lli_e, o_lload_0, o_lload_2, o_lload_5, o_lload_7, o_lload_9, o_lrem_e, o_lret_e, o_lst_5, o_lst_7, o_lst_9, true_and, xnlv_i, xnlv_n, xnlv_r, lc0 (y := y) (by omega), e, not_true_eq_false, not_false_eq_true, true_implies, false_implies, and_true, true_and, implies_true, forall_const, ↓reduceIte, Bool.false_eq_true, i10, i10n, lN0 (y := y) (by omega), er]
      exact this
/-- lowest(above, below, part) -/
theorem d_lowest {a b pt : Nat} (h0 : 0 < b) (ha : a < 2 ^ 62) (hb : b < 2 ^ 62) (hp : pt < 2) {Q : Option Value → xH → Prop} (k : Q (some (.long (lN (if pt = 0 then a / Nat.gcd a b else b / Nat.gcd a b)))) AH) : XC MX7_lowest [.long (lN a), .long (lN b), .int (nI pt)] AH Q := by
  refine XC.ofR (L := [some (.long (lN a)), none, some (.long (lN b)), none, some (.int (nI pt)), none, none, none, none, none, none]) KX7_lowest (by decide +kernel) (by first | decide | exact Nat.le_of_ble_eq_true rfl) rfl ?_
  simp only [eX7_lowest_0, eX7_lowest_1, eX7_lowest_3, eX7_lowest_4, eX7_lowest_8, eX7_lowest_9, eX7_lowest_10, eX7_lowest_13, eX7_lowest_15, eX7_lowest_17, eX7_lowest_18, eX7_lowest_20, eX7_lowest_22, eX7_lowest_24, eX7_lowest_26, eX7_lowest_28, eX7_lowest_31, eX7_lowest_33, eX7_lowest_36, eX7_lowest_37, eX7_lowest_39, eX7_lowest_40, eX7_lowest_43, eX7_lowest_44, eX7_lowest_46, eX7_lowest_47, o_const_e, o_goto_e, o_if_e, o_iload_4, o_ldiv_e, o_lli_e, o_lload_0, o_lload_2, o_lload_5, o_lload_7, o_lload_9, o_lrem_e, o_lret_e, o_lst_5, o_lst_7, o_lst_9, true_and, xnlv_i, xnlv_n, xnlv_r]
  exact k_lowest (Nat.gcd_pos_of_pos_right a h0) ha hb hp k b b a (Nat.le_refl _) ha hb rfl none none
theorem half {a b k : Nat} (hb : b < 2 ^ (k + 1)) (h0 : 0 < a % b) : b % (a % b) < 2 ^ k := by
  rcases Nat.eq_zero_or_pos b with e | e
  · subst e
    rw [Nat.zero_mod]
    exact Nat.two_pow_pos k
  · have hr : a % b < b := Nat.mod_lt _ e
    rw [Nat.pow_succ] at hb
    by_cases h : 2 * (a % b) ≤ b
    · have := Nat.mod_lt b h0
      omega
    · have : b % (a % b) = b - a % b := by
        rw [Nat.mod_eq_sub_mod (Nat.le_of_lt hr), Nat.mod_eq_of_lt (by omega)]
      omega
theorem l_gcdX {a b x s : Nat} (hgc : Nat.gcd x 0 = Nat.gcd a b) (hs : s ≤ 200) {Q : xQ} (k : Q (some (.long (lN (Nat.gcd a b)))) AH (0, 0)) {w9 w10 : Option Value} :
    XR TX6_greatestDivisor 9 [some (.long (lN a)), none, some (.long (lN b)), none, some (.long (lN x)), none, some (.long (lN 0)), none, some (.int (nI s)), w9, w10] [] AH (0, 0) Q := by
  rw [Nat.gcd_zero_right] at hgc
  subst hgc
  rw [eX6_greatestDivisor_9]
  simp only [eX6_greatestDivisor_0, eX6_greatestDivisor_1, eX6_greatestDivisor_3, eX6_greatestDivisor_4, eX6_greatestDivisor_6, eX6_greatestDivisor_7, eX6_greatestDivisor_11, eX6_greatestDivisor_13, eX6_greatestDivisor_16, eX6_greatestDivisor_18, eX6_greatestDivisor_19, eX6_greatestDivisor_20, eX6_greatestDivisor_23, eX6_greatestDivisor_25, eX6_greatestDivisor_27, eX6_greatestDivisor_28, eX6_greatestDivisor_30, eX6_greatestDivisor_32, eX6_greatestDivisor_34, eX6_greatestDivisor_36, eX6_greatestDivisor_38, eX6_greatestDivisor_41, eX6_greatestDivisor_44, eX6_greatestDivisor_46, o_const_e, o_goto_e, o_icmp_e, o_if_e, o_iinc_8, o_iload_8, o_ist_8, o_lli_e, o_lload_0, o_lload_2, o_lload_4, o_lload_6, o_lload_9, o_lrem_e, o_lret_e, o_lst_4, o_lst_6, o_lst_9, true_and, xnlv_i, xnlv_n, xnlv_r, n100, le_nI (a := 100) (b := s) (by omega) (by omega), lc0 (y := 0) (by decide), eq_self, not_true_eq_false, not_false_eq_true, true_implies, false_implies, and_true, true_and, implies_true, forall_const, ↓reduceIte, Bool.false_eq_true, i10, i10n]
  exact ⟨fun _ => k, fun _ => k⟩
theorem l_gcd {a b : Nat} {Q : xQ} (k : Q (some (.long (lN (Nat.gcd a b)))) AH (0, 0)) : ∀ (n x y s : Nat), s + 2 * n ≤ 100 → y < 2 ^ n → x < 2 ^ 62 → y < 2 ^ 62 → Nat.gcd x y = Nat.gcd a b → ∀ w9 w10 : Option Value,
    XR TX6_greatestDivisor 9 [some (.long (lN a)), none, some (.long (lN b)), none, some (.long (lN x)), none, some (.long (lN y)), none, some (.int (nI s)), w9, w10] [] AH (0, 0) Q := by
  intro n
  induction n with
  | zero =>
    intro x y s hs hy hx hyl hgc w9 w10
    have e : y = 0 := by rw [Nat.pow_zero] at hy; omega
    subst e
    exact l_gcdX hgc (by omega) k
  | succ n ih =>
    intro x y s hs hy hx hyl hgc w9 w10
    by_cases e : y = 0
    · subst e
      exact l_gcdX hgc (by omega) k
    · have hm : x % y < y := Nat.mod_lt _ (by omega)
      have er := pk_lRem (a := x) (b := y) (by omega) (by omega) (by omega)
      have g1 : Nat.gcd y (x % y) = Nat.gcd a b := by rw [gcd_s]; exact hgc
      rw [eX6_greatestDivisor_9]
      simp only [eX6_greatestDivisor_0, eX6_greatestDivisor_1, eX6_greatestDivisor_3, eX6_greatestDivisor_4, eX6_greatestDivisor_6, eX6_greatestDivisor_7, eX6_greatestDivisor_11, eX6_greatestDivisor_13, eX6_greatestDivisor_16, eX6_greatestDivisor_18, eX6_greatestDivisor_19, eX6_greatestDivisor_20, eX6_greatestDivisor_23, eX6_greatestDivisor_25, eX6_greatestDivisor_27, eX6_greatestDivisor_28, eX6_greatestDivisor_30, eX6_greatestDivisor_32, eX6_greatestDivisor_34, eX6_greatestDivisor_36, eX6_greatestDivisor_38, eX6_greatestDivisor_41, eX6_greatestDivisor_44, eX6_greatestDivisor_46, o_const_e, o_goto_e, o_icmp_e, o_if_e, o_iinc_8, o_iload_8, o_ist_8, o_lli_e, o_lload_0, o_lload_2, o_lload_4, o_lload_6, o_lload_9, o_lrem_e, o_lret_e, o_lst_4, o_lst_6, o_lst_9, true_and, xnlv_i, xnlv_n, xnlv_r, n100, le_nI (a := 100) (b := s) (by omega) (by omega), lc0 (y := y) (by omega), e, not_true_eq_false, not_false_eq_true, true_implies, false_implies, and_true, true_and, implies_true, forall_const, ↓reduceIte, Bool.false_eq_true, i10, i10n, lN0 (y := y) (by omega), er, n1, nI_add]
      refine ⟨fun g => by omega, ?_⟩
      intro _
      by_cases e2 : x % y = 0
      · rw [e2] at g1 ⊢
        exact l_gcdX g1 (by omega) k
      · have hm2 : y % (x % y) < x % y := Nat.mod_lt _ (by omega)
        have er2 := pk_lRem (a := y) (b := x % y) (by omega) (by omega) (by omega)
        have hh := half hy (show 0 < x % y by omega)
        rw [eX6_greatestDivisor_9]
        simp only [eX6_greatestDivisor_0, eX6_greatestDivisor_1, eX6_greatestDivisor_3, eX6_greatestDivisor_4, eX6_greatestDivisor_6, eX6_greatestDivisor_7, eX6_greatestDivisor_11, eX6_greatestDivisor_13, eX6_greatestDivisor_16, eX6_greatestDivisor_18, eX6_greatestDivisor_19, eX6_greatestDivisor_20, eX6_greatestDivisor_23, eX6_greatestDivisor_25, eX6_greatestDivisor_27, eX6_greatestDivisor_28, eX6_greatestDivisor_30, eX6_greatestDivisor_32, eX6_greatestDivisor_34, eX6_greatestDivisor_36, eX6_greatestDivisor_38, eX6_greatestDivisor_41, eX6_greatestDivisor_44, eX6_greatestDivisor_46, o_const_e, o_goto_e, o_icmp_e, o_if_e, o_iinc_8, o_iload_8, o_ist_8, o_lli_e, o_lload_0, o_lload_2, o_lload_4, o_lload_6, o_lload_9, o_lrem_e, o_lret_e, o_lst_4, o_lst_6, o_lst_9, true_and, xnlv_i, xnlv_n, xnlv_r, n100, le_nI (a := 100) (b := s + 1) (by omega) (by omega), lc0 (y := x % y) (by omega), e2, not_true_eq_false, not_false_eq_true, true_implies, false_implies, and_true, true_and, implies_true, forall_const, ↓reduceIte, Bool.false_eq_true, i10, i10n, lN0 (y := x % y) (by omega), er2, n1, nI_add]
        refine ⟨fun g => by omega, ?_⟩
        intro _
        exact ih (x % y) (y % (x % y)) (s + 1 + 1) (by omega) hh (by omega) (by omega) (by rw [gcd_s]; exact g1) _ _
/-- greatestDivisor(a, b) -/
theorem c_gcd {a b : Nat} (ha : a < 2 ^ 40) (hb : b < 2 ^ 40) {Q : Option Value → xH → Prop} (k : Q (some (.long (lN (Nat.gcd a b)))) AH) : XC MX6_greatestDivisor [.long (lN a), .long (lN b)] AH Q := by
  refine XC.ofR (L := [some (.long (lN a)), none, some (.long (lN b)), none, none, none, none, none, none, none, none]) KX6_greatestDivisor (by decide +kernel) (by first | decide | exact Nat.le_of_ble_eq_true rfl) rfl ?_
  simp only [eX6_greatestDivisor_0, eX6_greatestDivisor_1, eX6_greatestDivisor_3, eX6_greatestDivisor_4, eX6_greatestDivisor_6, eX6_greatestDivisor_7, eX6_greatestDivisor_11, eX6_greatestDivisor_13, eX6_greatestDivisor_16, eX6_greatestDivisor_18, eX6_greatestDivisor_19, eX6_greatestDivisor_20, eX6_greatestDivisor_23, eX6_greatestDivisor_25, eX6_greatestDivisor_27, eX6_greatestDivisor_28, eX6_greatestDivisor_30, eX6_greatestDivisor_32, eX6_greatestDivisor_34, eX6_greatestDivisor_36, eX6_greatestDivisor_38, eX6_greatestDivisor_41, eX6_greatestDivisor_44, eX6_greatestDivisor_46, o_const_e, o_goto_e, o_icmp_e, o_if_e, o_iinc_8, o_iload_8, o_ist_8, o_lli_e, o_lload_0, o_lload_2, o_lload_4, o_lload_6, o_lload_9, o_lrem_e, o_lret_e, o_lst_4, o_lst_6, o_lst_9, true_and, xnlv_i, xnlv_n, xnlv_r]
  exact l_gcd k 40 a b 0 (by omega) hb (by omega) (by omega) rfl none none
/-- partInLowestTerms(above, below, part) -/
theorem c_lowest {a b pt : Nat} (h0 : 0 < b) (ha : a < 2 ^ 40) (hb : b < 2 ^ 40) (hp : pt < 2) {Q : Option Value → xH → Prop} (k : Q (some (.long (lN (if pt = 0 then a / Nat.gcd a b else b / Nat.gcd a b)))) AH) : XC MX6_partInLowestTerms [.long (lN a), .long (lN b), .int (nI pt)] AH Q := by
  have hg : 0 < Nat.gcd a b := Nat.gcd_pos_of_pos_right a h0
  have hgl : Nat.gcd a b ≤ b := Nat.gcd_le_right a h0
  have hg0 : ¬ Nat.gcd a b = 0 := by omega
  refine XC.ofR (L := [some (.long (lN a)), none, some (.long (lN b)), none, some (.int (nI pt)), none, none]) KX6_partInLowestTerms (by decide +kernel) (by first | decide | exact Nat.le_of_ble_eq_true rfl) rfl ?_
  simp only [eX6_partInLowestTerms_0, eX6_partInLowestTerms_1, eX6_partInLowestTerms_2, eX6_partInLowestTerms_5, eX6_partInLowestTerms_7, eX6_partInLowestTerms_9, eX6_partInLowestTerms_10, eX6_partInLowestTerms_11, eX6_partInLowestTerms_14, eX6_partInLowestTerms_17, eX6_partInLowestTerms_18, eX6_partInLowestTerms_20, eX6_partInLowestTerms_23, eX6_partInLowestTerms_24, eX6_partInLowestTerms_27, eX6_partInLowestTerms_28, eX6_partInLowestTerms_30, eX6_partInLowestTerms_31, Nat.add_zero, Nat.reduceAdd, Nat.reduceLeDiff, Nat.zero_le, and_true, o_callS_2, o_const_e, o_goto_e, o_if_e, o_iload_4, o_ldiv_e, o_lli_e, o_lload_0, o_lload_2, o_lload_5, o_lret_e, o_lst_5, tl_n, tl_s, true_and, xnlv_i, xnlv_n, xnlv_r, xwt_0, xwt_f, xwt_i, xwt_l, xwt_r]
  refine c_gcd ha hb ?_
  simp only [eX6_partInLowestTerms_0, eX6_partInLowestTerms_1, eX6_partInLowestTerms_2, eX6_partInLowestTerms_5, eX6_partInLowestTerms_7, eX6_partInLowestTerms_9, eX6_partInLowestTerms_10, eX6_partInLowestTerms_11, eX6_partInLowestTerms_14, eX6_partInLowestTerms_17, eX6_partInLowestTerms_18, eX6_partInLowestTerms_20, eX6_partInLowestTerms_23, eX6_partInLowestTerms_24, eX6_partInLowestTerms_27, eX6_partInLowestTerms_28, eX6_partInLowestTerms_30, eX6_partInLowestTerms_31, Nat.add_zero, Nat.reduceAdd, Nat.reduceLeDiff, Nat.zero_le, and_true, o_callS_2, o_const_e, o_goto_e, o_if_e, o_iload_4, o_ldiv_e, o_lli_e, o_lload_0, o_lload_2, o_lload_5, o_lret_e, o_lst_5, tl_n, tl_s, true_and, xnlv_i, xnlv_n, xnlv_r, xwt_0, xwt_f, xwt_i, xwt_l, xwt_r, lc0 (y := Nat.gcd a b) (by omega), hg0, not_true_eq_false, not_false_eq_true, true_implies, false_implies, and_true, true_and, implies_true, forall_const, ↓reduceIte, Bool.false_eq_true, i10, i10n, eq0_nI (a := pt) (by omega), lN0 (y := Nat.gcd a b) (by omega), pk_lDiv (a := a) (b := Nat.gcd a b) (by omega) hg (by omega), pk_lDiv (a := b) (b := Nat.gcd a b) (by omega) hg (by omega)]
  refine ⟨fun g => ?_, fun g => ?_⟩
  · rw [if_neg g] at k
    exact k
  · rw [if_pos (Classical.not_not.mp g)] at k
    exact k
/-! beyond the longs -/
def inR (z : Int) : Prop := -9223372036854775808 ≤ z ∧ z < 9223372036854775808
def GB (a b : Int64) : Prop := ¬ b = 0 ∧ (¬ a * b / b = a ∨ (a = -9223372036854775808 ∧ b = -1))
theorem toI_min : (-9223372036854775808 : Int64).toInt = -9223372036854775808 := by decide
theorem toI_m1 : (-1 : Int64).toInt = -1 := by decide
theorem toI_0 : (0 : Int64).toInt = 0 := by decide
theorem bm_in {z : Int} (h : inR z) : z.bmod (2 ^ 64) = z := by
  have h1 := h.1
  have h2 := h.2
  rw [Int.bmod_def]
  split <;> omega
theorem GB_iff (a b : Int64) : GB a b ↔ ¬ inR (a.toInt * b.toInt) := by
  have a1 := Int64.le_toInt a
  have a2 := Int64.toInt_lt a
  have b1 := Int64.le_toInt b
  have b2 := Int64.toInt_lt b
  have ra : inR a.toInt := ⟨by omega, by omega⟩
  unfold GB
  rw [show (b = 0) = (b.toInt = 0) from propext (by rw [← Int64.toInt_inj, toI_0]), show (a * b / b = a) = ((((a.toInt * b.toInt).bmod (2 ^ 64)).tdiv b.toInt).bmod (2 ^ 64) = a.toInt) from propext (by rw [← Int64.toInt_inj, Int64.toInt_div, Int64.toInt_mul]), show (a = -9223372036854775808) = (a.toInt = -9223372036854775808) from propext (by rw [← Int64.toInt_inj, toI_min]), show (b = -1) = (b.toInt = -1) from propext (by rw [← Int64.toInt_inj, toI_m1])]
  generalize a.toInt = A at *
  generalize b.toInt = B at *
  constructor
  · rintro ⟨h0, h⟩ hr
    rw [bm_in hr, Int.mul_tdiv_cancel _ h0, bm_in ra] at h
    rcases h with h | ⟨h1, h2⟩
    · exact h rfl
    · subst h1 h2
      have := hr.2
      omega
  · intro hn
    have h0 : ¬ B = 0 := fun e => hn (by rw [e, Int.mul_zero]; exact ⟨by decide, by decide⟩)
    refine ⟨h0, ?_⟩
    refine Classical.byContradiction (fun hc => ?_)
    have hc1 : (((A * B).bmod (2 ^ 64)).tdiv B).bmod (2 ^ 64) = A := Classical.not_not.mp (fun z => hc (Or.inl z))
    have hc2 : ¬ (A = -9223372036854775808 ∧ B = -1) := fun z => hc (Or.inr z)
    have hW : ∃ t : Int, (A * B).bmod (2 ^ 64) = A * B + 18446744073709551616 * t := by
      rw [Int.bmod_def]
      have := Int.emod_add_mul_ediv (A * B) (2 ^ 64 : Nat)
      split
      · exact ⟨-((A * B) / (2 ^ 64 : Nat)), by omega⟩
      · exact ⟨-((A * B) / (2 ^ 64 : Nat)) - 1, by omega⟩
    have hWr : inR ((A * B).bmod (2 ^ 64)) := by
      have w1 := Int.le_bmod (x := A * B) (m := 2 ^ 64) (by decide)
      have w2 := Int.bmod_lt (x := A * B) (m := 2 ^ 64) (by decide)
      exact ⟨by omega, by omega⟩
    generalize hw : (A * B).bmod (2 ^ 64) = W at *
    obtain ⟨t, ht⟩ := hW
    have hd := Int.tmod_add_mul_tdiv W B
    have hm : (W.tmod B).natAbs < B.natAbs := by
      rw [Int.natAbs_tmod]
      exact Nat.mod_lt _ (by omega)
    have hq : (W.tdiv B).natAbs ≤ W.natAbs := Int.natAbs_tdiv_le_natAbs W B
    generalize W.tmod B = R at *
    generalize hqq : W.tdiv B = q at *
    have w1 := hWr.1
    have w2 := hWr.2
    by_cases hqr : inR q
    · rw [bm_in hqr] at hc1
      subst hc1
      rw [Int.mul_comm B q] at hd
      have : W = q * B := by omega
      rw [this] at hWr
      exact hn hWr
    · have e1 : q = 9223372036854775808 := by
        have : ¬ (-9223372036854775808 ≤ q ∧ q < 9223372036854775808) := hqr
        omega
      subst e1
      have e2 : B = -1 := by omega
      subst e2
      have e3 : A = -9223372036854775808 := by omega
      exact hc2 ⟨e3, rfl⟩
theorem GB_comm (a b : Int64) : GB a b ↔ GB b a := by
  rw [GB_iff, GB_iff, Int.mul_comm]
end LNG
