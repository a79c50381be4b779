/-! THE TEXT of the class -/
def txtC (b : Nat) (g : Nat → Int32) (n : Nat) : List xE := [.inr (3, [.ref (b + 1), .int (nI n)]), cI 100 g]
def TxtAt (A : xH) (b : Nat) (g : Nat → Int32) (n : Nat) : Prop := BlkAt A b (txtC b g n)
def txtP (A : xH) (b : Nat) (g : Nat → Int32) (n : Nat) : xH := blkP A b (txtC b g n)
def TxtG (A : xH) (b : Nat) (f : Nat → Nat) (n : Nat) : Prop := ∃ g, TxtAt A b g n ∧ ∀ i, i < n → g i = nI (f i)
theorem TxtG.fr {A B : xH} {lo hi b n : Nat} {f : Nat → Nat} (h : TxtG A b f n) (fr : Fr A B lo hi) (sep : b + 2 ≤ lo ∨ hi ≤ b) : TxtG B b f n := by
  obtain ⟨g, h1, h2⟩ := h
  exact ⟨g, BlkAt.fr2 h1 fr sep, h2⟩
def rdV (R : Nat ⊕ Nat) : Int32 := match R with
  | .inl q => nI q
  | .inr _ => -5
section TXTC
variable {AH : xH} {b : Nat} {g : Nat → Int32} {n : Nat} {f : Nat → Nat}
theorem TxtAt.lt (h : TxtAt AH b g n) : b + 2 ≤ AH.length := BlkAt.len h (by show 0 < 2; decide)
theorem TxtAt.put (h : TxtAt AH b g n) (g2 : Nat → Int32) (n2 : Nat) : TxtAt (txtP AH b g2 n2) b g2 n2 := BlkAt.put h.lt
theorem TxtAt.F (h : TxtAt AH b g n) {g2 : Nat → Int32} {n2 : Nat} : Fr AH (txtP AH b g2 n2) b (b + 2) := Fr.blk h.lt rfl
theorem txtP_self (h : TxtAt AH b g n) : txtP AH b g n = AH := blk_self h (by show 0 < 2; decide)
theorem txtP_txtP (hl : b + 2 ≤ AH.length) {g2 : Nat → Int32} {n2 : Nat} : txtP (txtP AH b g n) b g2 n2 = txtP AH b g2 n2 := blk_blk hl rfl
theorem TxtAt.cls (h : TxtAt AH b g n) : xcls AH b 3 = True := xcls_of (h 0 _ rfl)
theorem TxtAt.g0 (h : TxtAt AH b g n) {K : Value → Prop} : xgf AH b 3 0 K = K (.ref (b + 1)) := xgf_of (h 0 _ rfl) rfl
theorem TxtAt.g1 (h : TxtAt AH b g n) {K : Value → Prop} : xgf AH b 3 1 K = K (.int (nI n)) := xgf_of (h 0 _ rfl) rfl
theorem TxtAt.l (h : TxtAt AH b g n) {K : Int32 → Prop} : xalen AH (b + 1) K = K (nI 100) := xalen_of (h 1 _ rfl)
theorem TxtAt.r (h : TxtAt AH b g n) {c : Nat} (hc : c < 100) {K : Int32 → Prop} : xald AH (b + 1) (nI c) K = K (g c) := xald_of (h 1 _ rfl) hc (by decide)
theorem TxtAt.w (h : TxtAt AH b g n) {c : Nat} {v : Int32} (hc : c < 100) {K : xH → Prop} : xast AH (b + 1) (nI c) v K = K (txtP AH b (upd g c v) n) := by
  rw [xast_of (h 1 _ rfl) hc (by decide)]
  exact congrArg K (blk_set h (by show 1 < 2; decide))
theorem TxtAt.p1 (h : TxtAt AH b g n) {v : Nat} {K : xH → Prop} : xpf AH b 3 1 (.int (nI v)) K = K (txtP AH b g v) := by
  rw [xpf_of (a := b) (fs := _) (h 0 _ rfl) (by show 1 < 2; decide)]
  exact congrArg K (blk_set (i := 0) h (by show 0 < 2; decide))
/-- SetUp.append(sign) -/
theorem c_txApp (h : TxtAt AH b g n) (hn : n ≤ 100) (ht : ∀ i, i < n → g i = nI (f i)) {v : Int32} {Q : Option Value → xH → Prop} (k : ∀ g' : Nat → Int32, (∀ i, i < (aFeed f n v).2.2 → g' i = nI ((aFeed f n v).2.1 i)) → Q (some (.int (aFeed f n v).1)) (txtP AH b g' (aFeed f n v).2.2)) : XC MX3_append [.ref b, .int v] AH Q := by
  unfold aFeed at k
  refine XC.ofR (L := [some (.ref b), some (.int v)]) KX3_append (by decide +kernel) (by first | decide | exact Nat.le_of_ble_eq_true rfl) rfl ?_
  simp only [eX3_append_0, eX3_append_1, eX3_append_4, eX3_append_5, eX3_append_7, eX3_append_10, eX3_append_12, eX3_append_14, eX3_append_17, eX3_append_18, eX3_append_21, eX3_append_22, eX3_append_25, eX3_append_27, eX3_append_28, eX3_append_29, eX3_append_32, eX3_append_33, eX3_append_36, eX3_append_37, eX3_append_38, eX3_append_39, eX3_append_40, eX3_append_43, eX3_append_44, eX3_append_45, eX3_append_48, eX3_append_49, eX3_append_52, o_alen_e, o_aload_0r, o_const_e, o_dup_e, o_getf_e, o_iast_e, o_icmp_e, o_if_e, o_ii_e, o_iload_1, o_iret_e, o_putf_e, true_and, xc1_i, xc1_r, xfit_a, xfit_i, xfit_l, xfit_o, n127]
  rcases ix_cases (n := 128) (by decide) v with ⟨j, hj, rfl, e⟩ | ⟨h0, e⟩ | ⟨h0, h1, e⟩ <;> simp only [e] at k
  · refine ⟨fun g => absurd g (nI_pos (by omega)), fun _ => ⟨fun _ => ?_, fun g => absurd ((nI_leI (by omega) (by omega)).mpr (by omega)) g⟩⟩
    by_cases e100 : n = 100
    · rw [if_pos e100] at k
      have := k g ht
      rw [txtP_self h] at this
      have eF : (n < 100) = False := eq_false (by omega)
      simp only [eX3_append_0, eX3_append_1, eX3_append_4, eX3_append_5, eX3_append_7, eX3_append_10, eX3_append_12, eX3_append_13, eX3_append_14, eX3_append_17, eX3_append_18, eX3_append_21, eX3_append_22, eX3_append_25, eX3_append_27, eX3_append_28, eX3_append_29, eX3_append_32, eX3_append_33, eX3_append_36, eX3_append_37, eX3_append_38, eX3_append_39, eX3_append_40, eX3_append_43, eX3_append_44, eX3_append_45, eX3_append_48, eX3_append_49, eX3_append_52, o_alen_e, o_aload_0r, o_const_e, o_dup_e, o_getf_e, o_iast_e, o_icmp_e, o_if_e, o_ii_e, o_iload_1, o_iret_e, o_putf_e, true_and, xc1_i, xc1_r, xfit_a, xfit_i, xfit_l, xfit_o, h.g0, h.g1, h.l, lt_nI (a := n) (b := 100) (by omega) (by omega), eF, not_true_eq_false, not_false_eq_true, true_implies, false_implies, and_true, true_and, implies_true, forall_const, ↓reduceIte, Bool.false_eq_true, i10, i10n]
      exact this
    · rw [if_neg e100] at k
      have eF : (n < 100) = True := eq_true (by omega)
      have h1 := h.put (upd g n (nI j)) n
      have h2 := h.put (upd g n (nI j)) (n + 1)
      simp only [eX3_append_0, eX3_append_1, eX3_append_4, eX3_append_5, eX3_append_7, eX3_append_10, eX3_append_12, eX3_append_13, eX3_append_14, eX3_append_17, eX3_append_18, eX3_append_21, eX3_append_22, eX3_append_25, eX3_append_27, eX3_append_28, eX3_append_29, eX3_append_32, eX3_append_33, eX3_append_36, eX3_append_37, eX3_append_38, eX3_append_39, eX3_append_40, eX3_append_43, eX3_append_44, eX3_append_45, eX3_append_48, eX3_append_49, eX3_append_52, o_alen_e, o_aload_0r, o_const_e, o_dup_e, o_getf_e, o_iast_e, o_icmp_e, o_if_e, o_ii_e, o_iload_1, o_iret_e, o_putf_e, true_and, xc1_i, xc1_r, xfit_a, xfit_i, xfit_l, xfit_o, h.g0, h.g1, h.l, lt_nI (a := n) (b := 100) (by omega) (by omega), eF, not_true_eq_false, not_false_eq_true, true_implies, false_implies, and_true, true_and, implies_true, forall_const, ↓reduceIte, Bool.false_eq_true, i10, i10n, h.w (c := n) (by omega), h1.g1, n1, nI_add, h1.p1, txtP_txtP h.lt, h2.g1]
      refine k _ (fun i hi => ?_)
      have hi : i < n + 1 := hi
      show upd g n (nI j) i = nI (va_up f n j i)
      unfold upd va_up
      by_cases e2 : i = n
      · rw [if_pos e2, if_pos e2]
      · rw [if_neg e2, if_neg e2]
        exact ht i (by omega)
  · have := k g ht
    rw [txtP_self h] at this
    exact ⟨fun _ => this, fun g => absurd h0 g⟩
  · have := k g ht
    rw [txtP_self h] at this
    refine ⟨fun g => absurd g h0, fun _ => ⟨fun g => ?_, fun _ => this⟩⟩
    rw [Int32.le_iff_toInt_le, nI_toInt (by decide)] at g h1
    omega
/-- digitsBehind(letter) -/
theorem c_digB {L : Nat} (hL : L < 128) {Q : Option Value → xH → Prop} (k : Q (some (.int (if isL L then nI (wd L) else -5))) AH) : XC MX3_digitsBehind [.int (nI L)] AH Q := by
  refine XC.ofR (L := [some (.int (nI L))]) KX3_digitsBehind (by decide +kernel) (by first | decide | exact Nat.le_of_ble_eq_true rfl) rfl ?_
  by_cases hl : isL L
  · rw [if_pos hl] at k
    rcases hl with rfl | rfl | rfl | rfl | rfl | rfl | rfl | rfl <;> simp only [eX3_digitsBehind_0, eX3_digitsBehind_1, eX3_digitsBehind_84, eX3_digitsBehind_85, eX3_digitsBehind_86, eX3_digitsBehind_87, eX3_digitsBehind_88, eX3_digitsBehind_89, eX3_digitsBehind_90, eX3_digitsBehind_91, eX3_digitsBehind_92, eX3_digitsBehind_94, o_const_e, o_iload_0, o_iret_e, o_sw_e, xsw_0, xsw_1, z_nI, n1, n2, n3, n4, n5, n6, n7, n8, n9, n10, n11, n12, eq_nI, Nat.reducePow, Nat.reduceLT, Nat.reduceEqDiff, reduceCtorEq, Nat.succ_ne_zero, Nat.one_ne_zero, eq_self, not_true_eq_false, not_false_eq_true, true_implies, false_implies, and_true, true_and, implies_true, forall_const, n99, n101, n102, n104, n109, n110, n112, n115] <;> exact k
  · rw [if_neg hl] at k
    obtain ⟨z0, z1, z2, z3, z4, z5, z6, z7⟩ : ¬ L = 99 ∧ ¬ L = 101 ∧ ¬ L = 102 ∧ ¬ L = 104 ∧ ¬ L = 109 ∧ ¬ L = 110 ∧ ¬ L = 112 ∧ ¬ L = 115 := by omega
    simp only [eX3_digitsBehind_0, eX3_digitsBehind_1, eX3_digitsBehind_84, eX3_digitsBehind_85, eX3_digitsBehind_86, eX3_digitsBehind_87, eX3_digitsBehind_88, eX3_digitsBehind_89, eX3_digitsBehind_90, eX3_digitsBehind_91, eX3_digitsBehind_92, eX3_digitsBehind_94, o_const_e, o_iload_0, o_iret_e, o_sw_e, xsw_0, xsw_1, n99, n101, n102, n104, n109, n110, n112, n115, eq_nI (a := L) (b := 99) (by omega) (by omega), eq_nI (a := L) (b := 101) (by omega) (by omega), eq_nI (a := L) (b := 102) (by omega) (by omega), eq_nI (a := L) (b := 104) (by omega) (by omega), eq_nI (a := L) (b := 109) (by omega) (by omega), eq_nI (a := L) (b := 110) (by omega) (by omega), eq_nI (a := L) (b := 112) (by omega) (by omega), eq_nI (a := L) (b := 115) (by omega) (by omega), z0, z1, z2, z3, z4, z5, z6, z7, not_true_eq_false, not_false_eq_true, true_implies, false_implies, and_true, true_and, implies_true, forall_const, ↓reduceIte, Bool.false_eq_true, i10, i10n]
    exact k
/-- findFault(): the loop -/
theorem l_ff (h : TxtAt AH b g n) (hn : n ≤ 100) (ht : ∀ i, i < n → g i = nI (f i)) (hf : ∀ i, f i < 128) {R : Nat ⊕ Nat} {Q : xQ} (k : Q (some (.int (rdV R))) AH (0, 0)) : ∀ t : Nat,
    (∀ c, pl f c + t = n → c < 12 → rdR f n (12 - c) c = R → ∀ w, XR TX3_findFault 7 [some (.ref b), some (.int (nI c)), some (.int (-5)), some (.int (nI (pl f c))), w] [] AH (0, 0) Q) ∧
    (∀ c i, pl f c + 1 + i + t = n → c < 12 → rdR f n (12 - c) c = R → isL (f (pl f c)) → i ≤ wd (f (pl f c)) → dgF f n (pl f c + 1) i = none → ∀ w, XR TX3_findFault 7 [some (.ref b), some (.int (nI (c + 1))), some (.int (nI (wd (f (pl f c)) - i))), some (.int (nI (pl f c + 1 + i))), w] [] AH (0, 0) Q) := by
  have m5 : ((0 : Int32) ≤ -5) = False := eq_false (by decide)
  have m5z : ((-5 : Int32) = 0) = False := eq_false (by decide)
  intro t
  induction t with
  | zero =>
    refine ⟨fun c hp hc hR w => ?_, fun c i hp hc hR hL hi hd w => ?_⟩
    · rw [eX3_findFault_7]
      have e1 : (n ≤ pl f c) = True := eq_true (by omega)
      simp only [eX3_findFault_0, eX3_findFault_1, eX3_findFault_2, eX3_findFault_4, eX3_findFault_5, eX3_findFault_6, eX3_findFault_8, eX3_findFault_9, eX3_findFault_12, eX3_findFault_15, eX3_findFault_16, eX3_findFault_19, eX3_findFault_20, eX3_findFault_21, eX3_findFault_23, eX3_findFault_24, eX3_findFault_27, eX3_findFault_29, eX3_findFault_32, eX3_findFault_33, eX3_findFault_36, eX3_findFault_37, eX3_findFault_40, eX3_findFault_41, eX3_findFault_42, eX3_findFault_43, eX3_findFault_46, eX3_findFault_49, eX3_findFault_51, eX3_findFault_53, eX3_findFault_56, eX3_findFault_58, eX3_findFault_60, eX3_findFault_63, eX3_findFault_64, eX3_findFault_65, eX3_findFault_67, eX3_findFault_68, eX3_findFault_70, eX3_findFault_72, eX3_findFault_75, eX3_findFault_76, eX3_findFault_78, eX3_findFault_81, eX3_findFault_82, eX3_findFault_83, eX3_findFault_86, eX3_findFault_89, eX3_findFault_90, eX3_findFault_93, eX3_findFault_95, eX3_findFault_98, eX3_findFault_99, eX3_findFault_102, Nat.add_zero, Nat.reduceAdd, Nat.reduceLeDiff, Nat.zero_le, and_true, o_aload_0r, o_callS_1, o_const_e, o_getf_e, o_goto_e, o_iald_e, o_iald_f, o_icmp_e, o_if_e, o_iinc_1, o_iinc_2, o_iinc_3, o_iload_1, o_iload_2, o_iload_3, o_iload_4, o_iret_e, o_ist_1, o_ist_2, o_ist_3, o_ist_4, tl_n, tl_s, true_and, xnlv_i, xnlv_n, xnlv_r, xwt_0, xwt_f, xwt_i, xwt_l, xwt_r, h.g1, le_nI (a := n) (b := pl f c) (by omega) (by omega), e1, m5z, not_true_eq_false, not_false_eq_true, true_implies, false_implies, and_true, true_and, implies_true, forall_const, ↓reduceIte, Bool.false_eq_true, i10, i10n]
      rw [show 12 - c = (11 - c) + 1 by omega] at hR
      unfold rdR kcR at hR
      rw [if_neg (by omega)] at hR
      subst hR
      rw [show n = pl f c by omega]
      exact k
    · rw [eX3_findFault_7]
      have hw := wd_p (f (pl f c))
      have e1 : (n ≤ pl f c + 1 + i) = True := eq_true (by omega)
      simp only [eX3_findFault_0, eX3_findFault_1, eX3_findFault_2, eX3_findFault_4, eX3_findFault_5, eX3_findFault_6, eX3_findFault_8, eX3_findFault_9, eX3_findFault_12, eX3_findFault_15, eX3_findFault_16, eX3_findFault_19, eX3_findFault_20, eX3_findFault_21, eX3_findFault_23, eX3_findFault_24, eX3_findFault_27, eX3_findFault_29, eX3_findFault_32, eX3_findFault_33, eX3_findFault_36, eX3_findFault_37, eX3_findFault_40, eX3_findFault_41, eX3_findFault_42, eX3_findFault_43, eX3_findFault_46, eX3_findFault_49, eX3_findFault_51, eX3_findFault_53, eX3_findFault_56, eX3_findFault_58, eX3_findFault_60, eX3_findFault_63, eX3_findFault_64, eX3_findFault_65, eX3_findFault_67, eX3_findFault_68, eX3_findFault_70, eX3_findFault_72, eX3_findFault_75, eX3_findFault_76, eX3_findFault_78, eX3_findFault_81, eX3_findFault_82, eX3_findFault_83, eX3_findFault_86, eX3_findFault_89, eX3_findFault_90, eX3_findFault_93, eX3_findFault_95, eX3_findFault_98, eX3_findFault_99, eX3_findFault_102, Nat.add_zero, Nat.reduceAdd, Nat.reduceLeDiff, Nat.zero_le, and_true, o_aload_0r, o_callS_1, o_const_e, o_getf_e, o_goto_e, o_iald_e, o_iald_f, o_icmp_e, o_if_e, o_iinc_1, o_iinc_2, o_iinc_3, o_iload_1, o_iload_2, o_iload_3, o_iload_4, o_iret_e, o_ist_1, o_ist_2, o_ist_3, o_ist_4, tl_n, tl_s, true_and, xnlv_i, xnlv_n, xnlv_r, xwt_0, xwt_f, xwt_i, xwt_l, xwt_r, h.g1, le_nI (a := n) (b := pl f c + 1 + i) (by omega) (by omega), e1, eq0_nI (a := wd (f (pl f c)) - i) (by omega), not_true_eq_false, not_false_eq_true, true_implies, false_implies, and_true, true_and, implies_true, forall_const, ↓reduceIte, Bool.false_eq_true, i10, i10n]
      rw [show 12 - c = (11 - c) + 1 by omega] at hR
      unfold rdR at hR
      refine ⟨fun e => ?_, fun e => ?_⟩
      · have : kcR f n c = some (pl f c + 1 + i) := by
          unfold kcR
          rw [if_pos ⟨by omega, hL⟩]
          exact dgF_hit hd (fun z => by omega) (by omega)
        rw [this] at hR
        subst hR
        rw [show n = pl f c + 1 + i by omega]
        exact k
      · have : kcR f n c = none := by
          unfold kcR
          rw [if_pos ⟨by omega, hL⟩, show wd (f (pl f c)) = i by omega]
          exact hd
        rw [this] at hR
        dsimp only at hR
        rw [if_pos (by unfold eC; omega)] at hR
        subst hR
        exact k
  | succ t ih =>
    refine ⟨fun c hp hc hR w => ?_, fun c i hp hc hR hL hi hd w => ?_⟩
    · rw [eX3_findFault_7]
      have e1 : (n ≤ pl f c) = False := eq_false (by omega)
      simp only [eX3_findFault_0, eX3_findFault_1, eX3_findFault_2, eX3_findFault_4, eX3_findFault_5, eX3_findFault_6, eX3_findFault_8, eX3_findFault_9, eX3_findFault_12, eX3_findFault_15, eX3_findFault_16, eX3_findFault_19, eX3_findFault_20, eX3_findFault_21, eX3_findFault_23, eX3_findFault_24, eX3_findFault_27, eX3_findFault_29, eX3_findFault_32, eX3_findFault_33, eX3_findFault_36, eX3_findFault_37, eX3_findFault_40, eX3_findFault_41, eX3_findFault_42, eX3_findFault_43, eX3_findFault_46, eX3_findFault_49, eX3_findFault_51, eX3_findFault_53, eX3_findFault_56, eX3_findFault_58, eX3_findFault_60, eX3_findFault_63, eX3_findFault_64, eX3_findFault_65, eX3_findFault_67, eX3_findFault_68, eX3_findFault_70, eX3_findFault_72, eX3_findFault_75, eX3_findFault_76, eX3_findFault_78, eX3_findFault_81, eX3_findFault_82, eX3_findFault_83, eX3_findFault_86, eX3_findFault_89, eX3_findFault_90, eX3_findFault_93, eX3_findFault_95, eX3_findFault_98, eX3_findFault_99, eX3_findFault_102, Nat.add_zero, Nat.reduceAdd, Nat.reduceLeDiff, Nat.zero_le, and_true, o_aload_0r, o_callS_1, o_const_e, o_getf_e, o_goto_e, o_iald_e, o_iald_f, o_icmp_e, o_if_e, o_iinc_1, o_iinc_2, o_iinc_3, o_iload_1, o_iload_2, o_iload_3, o_iload_4, o_iret_e, o_ist_1, o_ist_2, o_ist_3, o_ist_4, tl_n, tl_s, true_and, xnlv_i, xnlv_n, xnlv_r, xwt_0, xwt_f, xwt_i, xwt_l, xwt_r, h.g1, le_nI (a := n) (b := pl f c) (by omega) (by omega), e1, m5, not_true_eq_false, not_false_eq_true, true_implies, false_implies, and_true, true_and, implies_true, forall_const, ↓reduceIte, Bool.false_eq_true, i10, i10n, h.g0, h.r (c := pl f c) (by omega), ht (pl f c) (by omega)]
      refine c_digB (hf _) ?_
      by_cases hL : isL (f (pl f c))
      · rw [if_pos hL]
        have hw := wd_p (f (pl f c))
        have := ih.2 c 0 (by omega) hc hR hL (by omega) rfl (some (.int (nI (f (pl f c)))))
        rw [Nat.sub_zero, Nat.add_zero] at this
        simp only [eX3_findFault_0, eX3_findFault_1, eX3_findFault_2, eX3_findFault_4, eX3_findFault_5, eX3_findFault_6, eX3_findFault_8, eX3_findFault_9, eX3_findFault_12, eX3_findFault_15, eX3_findFault_16, eX3_findFault_19, eX3_findFault_20, eX3_findFault_21, eX3_findFault_23, eX3_findFault_24, eX3_findFault_27, eX3_findFault_29, eX3_findFault_32, eX3_findFault_33, eX3_findFault_36, eX3_findFault_37, eX3_findFault_40, eX3_findFault_41, eX3_findFault_42, eX3_findFault_43, eX3_findFault_46, eX3_findFault_49, eX3_findFault_51, eX3_findFault_53, eX3_findFault_56, eX3_findFault_58, eX3_findFault_60, eX3_findFault_63, eX3_findFault_64, eX3_findFault_65, eX3_findFault_67, eX3_findFault_68, eX3_findFault_70, eX3_findFault_72, eX3_findFault_75, eX3_findFault_76, eX3_findFault_78, eX3_findFault_81, eX3_findFault_82, eX3_findFault_83, eX3_findFault_86, eX3_findFault_89, eX3_findFault_90, eX3_findFault_93, eX3_findFault_95, eX3_findFault_98, eX3_findFault_99, eX3_findFault_102, Nat.add_zero, Nat.reduceAdd, Nat.reduceLeDiff, Nat.zero_le, and_true, o_aload_0r, o_callS_1, o_const_e, o_getf_e, o_goto_e, o_iald_e, o_iald_f, o_icmp_e, o_if_e, o_iinc_1, o_iinc_2, o_iinc_3, o_iload_1, o_iload_2, o_iload_3, o_iload_4, o_iret_e, o_ist_1, o_ist_2, o_ist_3, o_ist_4, tl_n, tl_s, true_and, xnlv_i, xnlv_n, xnlv_r, xwt_0, xwt_f, xwt_i, xwt_l, xwt_r, ge0_nI (a := wd (f (pl f c))) (by omega), not_true_eq_false, not_false_eq_true, true_implies, false_implies, and_true, true_and, implies_true, forall_const, ↓reduceIte, Bool.false_eq_true, i10, i10n, n1, nI_add]
        exact this
      · rw [if_neg hL]
        simp only [eX3_findFault_0, eX3_findFault_1, eX3_findFault_2, eX3_findFault_4, eX3_findFault_5, eX3_findFault_6, eX3_findFault_8, eX3_findFault_9, eX3_findFault_12, eX3_findFault_15, eX3_findFault_16, eX3_findFault_19, eX3_findFault_20, eX3_findFault_21, eX3_findFault_23, eX3_findFault_24, eX3_findFault_27, eX3_findFault_29, eX3_findFault_32, eX3_findFault_33, eX3_findFault_36, eX3_findFault_37, eX3_findFault_40, eX3_findFault_41, eX3_findFault_42, eX3_findFault_43, eX3_findFault_46, eX3_findFault_49, eX3_findFault_51, eX3_findFault_53, eX3_findFault_56, eX3_findFault_58, eX3_findFault_60, eX3_findFault_63, eX3_findFault_64, eX3_findFault_65, eX3_findFault_67, eX3_findFault_68, eX3_findFault_70, eX3_findFault_72, eX3_findFault_75, eX3_findFault_76, eX3_findFault_78, eX3_findFault_81, eX3_findFault_82, eX3_findFault_83, eX3_findFault_86, eX3_findFault_89, eX3_findFault_90, eX3_findFault_93, eX3_findFault_95, eX3_findFault_98, eX3_findFault_99, eX3_findFault_102, Nat.add_zero, Nat.reduceAdd, Nat.reduceLeDiff, Nat.zero_le, and_true, o_aload_0r, o_callS_1, o_const_e, o_getf_e, o_goto_e, o_iald_e, o_iald_f, o_icmp_e, o_if_e, o_iinc_1, o_iinc_2, o_iinc_3, o_iload_1, o_iload_2, o_iload_3, o_iload_4, o_iret_e, o_ist_1, o_ist_2, o_ist_3, o_ist_4, tl_n, tl_s, true_and, xnlv_i, xnlv_n, xnlv_r, xwt_0, xwt_f, xwt_i, xwt_l, xwt_r, m5, not_true_eq_false, not_false_eq_true, true_implies, false_implies, and_true, true_and, implies_true, forall_const, ↓reduceIte, Bool.false_eq_true, i10, i10n]
        rw [show 12 - c = (11 - c) + 1 by omega] at hR
        unfold rdR kcR at hR
        rw [if_neg (fun z => hL z.2)] at hR
        subst hR
        exact k
    · rw [eX3_findFault_7]
      have hw := wd_p (f (pl f c))
      have hfi := hf (pl f c + 1 + i)
      have e1 : (n ≤ pl f c + 1 + i) = False := eq_false (by omega)
      by_cases e : i = wd (f (pl f c))
      · have e2 : wd (f (pl f c)) - i = 0 := by omega
        have kc : kcR f n c = none := by
          unfold kcR
          rw [if_pos ⟨by omega, hL⟩, ← e]
          exact hd
        have ec : eC f c = pl f c + 1 + i := by unfold eC; omega
        rw [show 12 - c = (11 - c) + 1 by omega] at hR
        unfold rdR at hR
        rw [kc] at hR
        dsimp only at hR
        rw [if_neg (by omega), ec] at hR
        rw [e2]
        simp only [eX3_findFault_0, eX3_findFault_1, eX3_findFault_2, eX3_findFault_4, eX3_findFault_5, eX3_findFault_6, eX3_findFault_8, eX3_findFault_9, eX3_findFault_12, eX3_findFault_15, eX3_findFault_16, eX3_findFault_19, eX3_findFault_20, eX3_findFault_21, eX3_findFault_23, eX3_findFault_24, eX3_findFault_27, eX3_findFault_29, eX3_findFault_32, eX3_findFault_33, eX3_findFault_36, eX3_findFault_37, eX3_findFault_40, eX3_findFault_41, eX3_findFault_42, eX3_findFault_43, eX3_findFault_46, eX3_findFault_49, eX3_findFault_51, eX3_findFault_53, eX3_findFault_56, eX3_findFault_58, eX3_findFault_60, eX3_findFault_63, eX3_findFault_64, eX3_findFault_65, eX3_findFault_67, eX3_findFault_68, eX3_findFault_70, eX3_findFault_72, eX3_findFault_75, eX3_findFault_76, eX3_findFault_78, eX3_findFault_81, eX3_findFault_82, eX3_findFault_83, eX3_findFault_86, eX3_findFault_89, eX3_findFault_90, eX3_findFault_93, eX3_findFault_95, eX3_findFault_98, eX3_findFault_99, eX3_findFault_102, Nat.add_zero, Nat.reduceAdd, Nat.reduceLeDiff, Nat.zero_le, and_true, o_aload_0r, o_callS_1, o_const_e, o_getf_e, o_goto_e, o_iald_e, o_iald_f, o_icmp_e, o_if_e, o_iinc_1, o_iinc_2, o_iinc_3, o_iload_1, o_iload_2, o_iload_3, o_iload_4, o_iret_e, o_ist_1, o_ist_2, o_ist_3, o_ist_4, tl_n, tl_s, true_and, xnlv_i, xnlv_n, xnlv_r, xwt_0, xwt_f, xwt_i, xwt_l, xwt_r, h.g1, le_nI (a := n) (b := pl f c + 1 + i) (by omega) (by omega), e1, ge0_nI (a := 0) (by omega), le0_nI (a := 0) (by omega), eq_self, not_true_eq_false, not_false_eq_true, true_implies, false_implies, and_true, true_and, implies_true, forall_const, ↓reduceIte, Bool.false_eq_true, i10, i10n, h.g0, h.r (c := pl f c + 1 + i) (by omega), ht (pl f c + 1 + i) (by omega), n59, n12, eq_nI (a := f (pl f c + 1 + i)) (b := 59) (by omega) (by omega), eq_nI (a := c + 1) (b := 12) (by omega) (by omega), n1, nI_add]
        refine ⟨fun g => ?_, fun g => ⟨fun g2 => ?_, fun g2 => ?_⟩⟩
        · rw [if_pos (Or.inr g)] at hR
          subst hR
          exact k
        · rw [if_neg (fun z => z.elim (fun z => by omega) (fun z => g z))] at hR
          have := ih.1 (c + 1) (by rw [pl_s, ec]; omega) (by omega) (by rw [show 12 - (c + 1) = 11 - c by omega]; exact hR) (some (.int (nI (f (pl f c + 1 + i)))))
          rw [pl_s, ec] at this
          exact this
        · rw [if_pos (Or.inl (by omega))] at hR
          subst hR
          exact k
      · have e2 : (wd (f (pl f c)) - i = 0) = False := eq_false (by omega)
        have e3 : nI (wd (f (pl f c)) - i) + -1 = nI (wd (f (pl f c)) - (i + 1)) := by
          rw [show (-1 : Int32) = -(nI 1) from rfl, ← Int32.sub_eq_add_neg, pk_sub (by omega)]
          congr 1
        have e4 : nI (wd (f (pl f c)) - i) + -nI 1 = nI (wd (f (pl f c)) - (i + 1)) := e3
        simp only [eX3_findFault_0, eX3_findFault_1, eX3_findFault_2, eX3_findFault_4, eX3_findFault_5, eX3_findFault_6, eX3_findFault_8, eX3_findFault_9, eX3_findFault_12, eX3_findFault_15, eX3_findFault_16, eX3_findFault_19, eX3_findFault_20, eX3_findFault_21, eX3_findFault_23, eX3_findFault_24, eX3_findFault_27, eX3_findFault_29, eX3_findFault_32, eX3_findFault_33, eX3_findFault_36, eX3_findFault_37, eX3_findFault_40, eX3_findFault_41, eX3_findFault_42, eX3_findFault_43, eX3_findFault_46, eX3_findFault_49, eX3_findFault_51, eX3_findFault_53, eX3_findFault_56, eX3_findFault_58, eX3_findFault_60, eX3_findFault_63, eX3_findFault_64, eX3_findFault_65, eX3_findFault_67, eX3_findFault_68, eX3_findFault_70, eX3_findFault_72, eX3_findFault_75, eX3_findFault_76, eX3_findFault_78, eX3_findFault_81, eX3_findFault_82, eX3_findFault_83, eX3_findFault_86, eX3_findFault_89, eX3_findFault_90, eX3_findFault_93, eX3_findFault_95, eX3_findFault_98, eX3_findFault_99, eX3_findFault_102, Nat.add_zero, Nat.reduceAdd, Nat.reduceLeDiff, Nat.zero_le, and_true, o_aload_0r, o_callS_1, o_const_e, o_getf_e, o_goto_e, o_iald_e, o_iald_f, o_icmp_e, o_if_e, o_iinc_1, o_iinc_2, o_iinc_3, o_iload_1, o_iload_2, o_iload_3, o_iload_4, o_iret_e, o_ist_1, o_ist_2, o_ist_3, o_ist_4, tl_n, tl_s, true_and, xnlv_i, xnlv_n, xnlv_r, xwt_0, xwt_f, xwt_i, xwt_l, xwt_r, e4, h.g1, le_nI (a := n) (b := pl f c + 1 + i) (by omega) (by omega), e1, ge0_nI (a := wd (f (pl f c)) - i) (by omega), le0_nI (a := wd (f (pl f c)) - i) (by omega), e2, not_true_eq_false, not_false_eq_true, true_implies, false_implies, and_true, true_and, implies_true, forall_const, ↓reduceIte, Bool.false_eq_true, i10, i10n, h.g0, h.r (c := pl f c + 1 + i) (by omega), ht (pl f c + 1 + i) (by omega), n48, n57, lt_nI (a := f (pl f c + 1 + i)) (b := 48) (by omega) (by omega), le_nI (a := f (pl f c + 1 + i)) (b := 57) (by omega) (by omega), e3, n1, nI_add]
        have no : ¬ isD (f (pl f c + 1 + i)) → Q (some (.int (nI (pl f c + 1 + i)))) AH (0, 0) := fun z => by
          have : kcR f n c = some (pl f c + 1 + i) := by
            unfold kcR
            rw [if_pos ⟨by omega, hL⟩]
            exact dgF_hit hd (fun y => z y.2) (by omega)
          rw [show 12 - c = (11 - c) + 1 by omega] at hR
          unfold rdR at hR
          rw [this] at hR
          subst hR
          exact k
        refine ⟨fun g => no (by omega), fun g => ⟨fun g2 => ?_, fun g2 => no (by omega)⟩⟩
        have := ih.2 c (i + 1) (by omega) hc hR hL (by omega) (dgF_s hd ⟨by omega, by omega⟩) (some (.int (nI (f (pl f c + 1 + i)))))
        rw [show pl f c + 1 + (i + 1) = pl f c + 1 + i + 1 from rfl] at this
        exact this
theorem c_ff (h : TxtAt AH b g n) (hn : n ≤ 100) (ht : ∀ i, i < n → g i = nI (f i)) (hf : ∀ i, f i < 128) {Q : Option Value → xH → Prop} (k : Q (some (.int (rdV (rdR f n 12 0)))) AH) : XC MX3_findFault [.ref b] AH Q := by
  refine XC.ofR (L := [some (.ref b), none, none, none, none]) KX3_findFault (by decide +kernel) (by first | decide | exact Nat.le_of_ble_eq_true rfl) rfl ?_
  simp only [eX3_findFault_0, eX3_findFault_1, eX3_findFault_2, eX3_findFault_4, eX3_findFault_5, eX3_findFault_6, eX3_findFault_8, eX3_findFault_9, eX3_findFault_12, eX3_findFault_15, eX3_findFault_16, eX3_findFault_19, eX3_findFault_20, eX3_findFault_21, eX3_findFault_23, eX3_findFault_24, eX3_findFault_27, eX3_findFault_29, eX3_findFault_32, eX3_findFault_33, eX3_findFault_36, eX3_findFault_37, eX3_findFault_40, eX3_findFault_41, eX3_findFault_42, eX3_findFault_43, eX3_findFault_46, eX3_findFault_49, eX3_findFault_51, eX3_findFault_53, eX3_findFault_56, eX3_findFault_58, eX3_findFault_60, eX3_findFault_63, eX3_findFault_64, eX3_findFault_65, eX3_findFault_67, eX3_findFault_68, eX3_findFault_70, eX3_findFault_72, eX3_findFault_75, eX3_findFault_76, eX3_findFault_78, eX3_findFault_81, eX3_findFault_82, eX3_findFault_83, eX3_findFault_86, eX3_findFault_89, eX3_findFault_90, eX3_findFault_93, eX3_findFault_95, eX3_findFault_98, eX3_findFault_99, eX3_findFault_102, Nat.add_zero, Nat.reduceAdd, Nat.reduceLeDiff, Nat.zero_le, and_true, o_aload_0r, o_callS_1, o_const_e, o_getf_e, o_goto_e, o_iald_e, o_iald_f, o_icmp_e, o_if_e, o_iinc_1, o_iinc_2, o_iinc_3, o_iload_1, o_iload_2, o_iload_3, o_iload_4, o_iret_e, o_ist_1, o_ist_2, o_ist_3, o_ist_4, tl_n, tl_s, true_and, xnlv_i, xnlv_n, xnlv_r, xwt_0, xwt_f, xwt_i, xwt_l, xwt_r]
  exact (l_ff h hn ht hf (Q := fun v AH' _ => Q v AH') k n).1 0 (by show 0 + n = n; omega) (by decide) rfl none
/-- digit(place), twoDigits(place) -/
theorem c_digit (h : TxtAt AH b g n) (hn : n ≤ 100) (ht : ∀ i, i < n → g i = nI (f i)) (hf : ∀ i, f i < 128) {q : Nat} (hq : q < n) (hd : isD (f q)) {Q : Option Value → xH → Prop} (k : Q (some (.int (nI (f q - 48)))) AH) : XC MX3_digit [.ref b, .int (nI q)] AH Q := by
  refine XC.ofR (L := [some (.ref b), some (.int (nI q))]) KX3_digit (by decide +kernel) (by first | decide | exact Nat.le_of_ble_eq_true rfl) rfl ?_
  have e1 : (q < n) = True := eq_true hq
  simp only [eX3_digit_0, eX3_digit_1, eX3_digit_4, eX3_digit_5, eX3_digit_6, eX3_digit_9, eX3_digit_12, eX3_digit_13, eX3_digit_16, eX3_digit_17, eX3_digit_20, eX3_digit_21, eX3_digit_22, eX3_digit_24, eX3_digit_25, o_aload_0r, o_const_e, o_getf_e, o_goto_e, o_iald_e, o_iald_f, o_icmp_e, o_if_e, o_ii_e, o_iload_1, o_iret_e, lt0_nI (a := q) (by omega), h.g1, lt_nI (a := q) (b := n) (by omega) (by omega), e1, not_true_eq_false, not_false_eq_true, true_implies, false_implies, and_true, true_and, implies_true, forall_const, ↓reduceIte, Bool.false_eq_true, i10, i10n, h.g0, h.r (c := q) (by omega), ht q hq, n48, pk_sub (a := f q) (b := 48) (by omega)]
  exact k
theorem c_two (h : TxtAt AH b g n) (hn : n ≤ 100) (ht : ∀ i, i < n → g i = nI (f i)) (hf : ∀ i, f i < 128) {q : Nat} (hq : q + 1 < n) (hd : isD (f q)) (hd2 : isD (f (q + 1))) {Q : Option Value → xH → Prop} (k : Q (some (.int (nI (10 * (f q - 48) + (f (q + 1) - 48))))) AH) : XC MX3_twoDigits [.ref b, .int (nI q)] AH Q := by
  refine XC.ofR (L := [some (.ref b), some (.int (nI q))]) KX3_twoDigits (by decide +kernel) (by first | decide | exact Nat.le_of_ble_eq_true rfl) rfl ?_
  simp only [eX3_twoDigits_0, eX3_twoDigits_2, eX3_twoDigits_3, eX3_twoDigits_4, eX3_twoDigits_7, eX3_twoDigits_8, eX3_twoDigits_9, eX3_twoDigits_10, eX3_twoDigits_11, eX3_twoDigits_12, eX3_twoDigits_15, eX3_twoDigits_16, Nat.add_zero, Nat.reduceAdd, Nat.reduceLeDiff, Nat.zero_le, and_true, o_aload_0r, o_callV_1, o_const_e, o_ii_e, o_iload_1, o_iret_e, tl_n, tl_s, true_and, xwt_0, xwt_f, xwt_i, xwt_l, xwt_r, h.cls, true_and]
  refine c_digit h hn ht hf (by omega) hd ?_
  simp only [eX3_twoDigits_0, eX3_twoDigits_2, eX3_twoDigits_3, eX3_twoDigits_4, eX3_twoDigits_7, eX3_twoDigits_8, eX3_twoDigits_9, eX3_twoDigits_10, eX3_twoDigits_11, eX3_twoDigits_12, eX3_twoDigits_15, eX3_twoDigits_16, Nat.add_zero, Nat.reduceAdd, Nat.reduceLeDiff, Nat.zero_le, and_true, o_aload_0r, o_callV_1, o_const_e, o_ii_e, o_iload_1, o_iret_e, tl_n, tl_s, true_and, xwt_0, xwt_f, xwt_i, xwt_l, xwt_r, h.cls, true_and, n10, pk_mul, n1, nI_add]
  refine c_digit h hn ht hf hq hd2 ?_
  simp only [eX3_twoDigits_0, eX3_twoDigits_2, eX3_twoDigits_3, eX3_twoDigits_4, eX3_twoDigits_7, eX3_twoDigits_8, eX3_twoDigits_9, eX3_twoDigits_10, eX3_twoDigits_11, eX3_twoDigits_12, eX3_twoDigits_15, eX3_twoDigits_16, Nat.add_zero, Nat.reduceAdd, Nat.reduceLeDiff, Nat.zero_le, and_true, o_aload_0r, o_callV_1, o_const_e, o_ii_e, o_iload_1, o_iret_e, tl_n, tl_s, true_and, xwt_0, xwt_f, xwt_i, xwt_l, xwt_r, n10, pk_mul, n1, nI_add]
  exact k
end TXTC
