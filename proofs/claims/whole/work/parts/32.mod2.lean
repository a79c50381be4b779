/-! the reference: prices, energies, tries, cooling -/
theorem ap_t : ∀ a, a < 8 → ∀ c, c < 8 → (if (if nI c ≤ nI a then nI a - nI c else nI c - nI a) ≤ 8 - (if nI c ≤ nI a then nI a - nI c else nI c - nI a) then (if nI c ≤ nI a then nI a - nI c else nI c - nI a) else 8 - (if nI c ≤ nI a then nI a - nI c else nI c - nI a)) = nI (apt a c) := by decide +kernel
section MOD2
variable {AH : xH} {m : Nat} {s : sMod} {x : sLat} {r : sRow}
theorem d_apart {a c : Nat} (ha : a < 8) (hc : c < 8) {Q : Option Value → xH → Prop} (k : Q (some (.int (nI (apt a c)))) AH) : XC MX7_apart [.int (nI a), .int (nI c)] AH Q := by
  rw [← ap_t a ha c hc] at k
  refine XC.ofR (L := [some (.int (nI a)), some (.int (nI c)), none]) KX7_apart (by decide +kernel) (by first | decide | exact Nat.le_of_ble_eq_true rfl) rfl ?_
  simp only [eX7_apart_0, eX7_apart_1, eX7_apart_2, eX7_apart_5, eX7_apart_6, eX7_apart_7, eX7_apart_8, eX7_apart_11, eX7_apart_12, eX7_apart_13, eX7_apart_14, eX7_apart_15, eX7_apart_16, eX7_apart_18, eX7_apart_19, eX7_apart_20, eX7_apart_23, eX7_apart_25, eX7_apart_26, eX7_apart_27, eX7_apart_30, eX7_apart_31, o_const_e, o_goto_e, o_icmp_e, o_ii_e, o_iload_0, o_iload_1, o_iload_2, o_iret_e, o_ist_2, true_and, xnlv_i, xnlv_n, xnlv_r]
  refine ⟨fun g => ?_, fun g => ?_⟩
  · simp only [g, ↓reduceIte] at k
    refine ⟨fun g2 => ?_, fun g2 => ?_⟩
    · rw [if_pos g2] at k; exact k
    · rw [if_neg g2] at k; exact k
  · simp only [g, ↓reduceIte] at k
    refine ⟨fun g2 => ?_, fun g2 => ?_⟩
    · rw [if_pos g2] at k; exact k
    · rw [if_neg g2] at k; exact k
theorem d_priceOf (h : MoL AH m s x r) (ok : x.ok) {a c : Nat} (ha : a < 8) (hc : c < 8) {Q : Option Value → xH → Prop} (k : Q (some (.int (nI (x.P a c)))) AH) : XC MX7_priceOf [.ref m, .int (nI a), .int (nI c)] AH Q := by
  have hki := ok.2.2.2.2.2.2.2.1
  have hnu := ok.2.2.2.2.2.2.2.2.1
  have h4 := apt_4 a ha c hc
  have m1 : a % 2 < 2 := Nat.mod_lt _ (by decide)
  have m2 : c % 2 < 2 := Nat.mod_lt _ (by decide)
  unfold sLat.P prF at k
  refine XC.ofR (L := [some (.ref m), some (.int (nI a)), some (.int (nI c)), none, none]) KX7_priceOf (by decide +kernel) (by first | decide | exact Nat.le_of_ble_eq_true rfl) rfl ?_
  simp only [eX7_priceOf_0, eX7_priceOf_1, eX7_priceOf_4, eX7_priceOf_6, eX7_priceOf_7, eX7_priceOf_8, eX7_priceOf_9, eX7_priceOf_10, eX7_priceOf_13, eX7_priceOf_15, eX7_priceOf_16, eX7_priceOf_19, eX7_priceOf_20, eX7_priceOf_21, eX7_priceOf_24, eX7_priceOf_25, eX7_priceOf_26, eX7_priceOf_29, eX7_priceOf_30, eX7_priceOf_33, eX7_priceOf_34, eX7_priceOf_35, eX7_priceOf_36, eX7_priceOf_39, eX7_priceOf_40, eX7_priceOf_41, eX7_priceOf_42, eX7_priceOf_45, eX7_priceOf_47, eX7_priceOf_48, eX7_priceOf_51, eX7_priceOf_52, eX7_priceOf_55, eX7_priceOf_57, eX7_priceOf_58, eX7_priceOf_59, eX7_priceOf_62, eX7_priceOf_63, eX7_priceOf_64, eX7_priceOf_65, eX7_priceOf_68, eX7_priceOf_70, eX7_priceOf_73, eX7_priceOf_75, eX7_priceOf_76, eX7_priceOf_79, eX7_priceOf_80, eX7_priceOf_83, eX7_priceOf_84, eX7_priceOf_85, eX7_priceOf_86, eX7_priceOf_87, eX7_priceOf_90, eX7_priceOf_91, eX7_priceOf_94, eX7_priceOf_95, eX7_priceOf_96, eX7_priceOf_97, eX7_priceOf_98, eX7_priceOf_99, eX7_priceOf_100, eX7_priceOf_103, eX7_priceOf_104, eX7_priceOf_107, eX7_priceOf_108, Nat.add_zero, Nat.reduceAdd, Nat.reduceLeDiff, Nat.zero_le, and_true, o_aload_0r, o_callS_2, o_const_e, o_getf_e, o_goto_e, o_iald_e, o_iald_f, o_icmp_e, o_if_e, o_iload_1, o_iload_2, o_iload_3, o_iload_4, o_irem_e, o_iret_e, o_ist_3, o_ist_4, tl_n, tl_s, true_and, xnlv_i, xnlv_n, xnlv_r, xwt_0, xwt_f, xwt_i, xwt_l, xwt_r, h.1.cls, h.1.g0, h.1.g1, h.1.g2, h.1.g3, h.1.g4, h.1.g5, h.1.g6, h.1.g7, h.1.g8, h.1.g9, h.1.g10, h.1.g11, h.1.g12, h.1.g13, h.1.g14, h.1.g15, h.1.g16, h.1.g17, h.1.g18, h.1.g19, h.i0, h.i1, h.i2, h.i3, h.i4, h.i5, h.i6, h.i7, h.i8, h.i9, h.i10, h.j0, h.j1, h.j2, h.j3, h.j4, h.j5, h.j6, h.j7, h.j8, h.j9, h.j10]
  refine d_apart ha hc ?_
  simp only [eX7_priceOf_0, eX7_priceOf_1, eX7_priceOf_4, eX7_priceOf_6, eX7_priceOf_7, eX7_priceOf_8, eX7_priceOf_9, eX7_priceOf_10, eX7_priceOf_13, eX7_priceOf_15, eX7_priceOf_16, eX7_priceOf_19, eX7_priceOf_20, eX7_priceOf_21, eX7_priceOf_24, eX7_priceOf_25, eX7_priceOf_26, eX7_priceOf_29, eX7_priceOf_30, eX7_priceOf_33, eX7_priceOf_34, eX7_priceOf_35, eX7_priceOf_36, eX7_priceOf_39, eX7_priceOf_40, eX7_priceOf_41, eX7_priceOf_42, eX7_priceOf_45, eX7_priceOf_47, eX7_priceOf_48, eX7_priceOf_51, eX7_priceOf_52, eX7_priceOf_55, eX7_priceOf_57, eX7_priceOf_58, eX7_priceOf_59, eX7_priceOf_62, eX7_priceOf_63, eX7_priceOf_64, eX7_priceOf_65, eX7_priceOf_68, eX7_priceOf_70, eX7_priceOf_73, eX7_priceOf_75, eX7_priceOf_76, eX7_priceOf_79, eX7_priceOf_80, eX7_priceOf_83, eX7_priceOf_84, eX7_priceOf_85, eX7_priceOf_86, eX7_priceOf_87, eX7_priceOf_90, eX7_priceOf_91, eX7_priceOf_94, eX7_priceOf_95, eX7_priceOf_96, eX7_priceOf_97, eX7_priceOf_98, eX7_priceOf_99, eX7_priceOf_100, eX7_priceOf_103, eX7_priceOf_104, eX7_priceOf_107, eX7_priceOf_108, Nat.add_zero, Nat.reduceAdd, Nat.reduceLeDiff, Nat.zero_le, and_true, o_aload_0r, o_callS_2, o_const_e, o_getf_e, o_goto_e, o_iald_e, o_iald_f, o_icmp_e, o_if_e, o_iload_1, o_iload_2, o_iload_3, o_iload_4, o_irem_e, o_iret_e, o_ist_3, o_ist_4, tl_n, tl_s, true_and, xnlv_i, xnlv_n, xnlv_r, xwt_0, xwt_f, xwt_i, xwt_l, xwt_r, h.1.cls, h.1.g0, h.1.g1, h.1.g2, h.1.g3, h.1.g4, h.1.g5, h.1.g6, h.1.g7, h.1.g8, h.1.g9, h.1.g10, h.1.g11, h.1.g12, h.1.g13, h.1.g14, h.1.g15, h.1.g16, h.1.g17, h.1.g18, h.1.g19, h.i0, h.i1, h.i2, h.i3, h.i4, h.i5, h.i6, h.i7, h.i8, h.i9, h.i10, h.j0, h.j1, h.j2, h.j3, h.j4, h.j5, h.j6, h.j7, h.j8, h.j9, h.j10, eq0_nI (a := x.ki) (by omega), n1, eq_nI (a := x.ki) (b := 1) (by omega) (by omega), n2, eq_nI (a := x.ki) (b := 2) (by omega) (by omega), eq_nI (a := a) (b := c) (by omega) (by omega), le_nI (a := apt a c) (b := x.nu) (by omega) (by omega), eq0_nI (a := apt a c) (by omega), eq_nI (a := apt a c) (b := x.nu) (by omega) (by omega), pk_div (a := a) (d := 2) (by omega) (by decide) (by decide), pk_div (a := c) (d := 2) (by omega) (by decide) (by decide), rem2, eq_nI (a := a % 2) (b := c % 2) (by omega) (by omega)]
  rcases (show x.ki = 0 ∨ x.ki = 1 ∨ x.ki = 2 ∨ x.ki = 3 by omega) with e | e | e | e <;> simp only [e, not_true_eq_false, not_false_eq_true, true_implies, false_implies, and_true, true_and, implies_true, forall_const, or_true, true_or, or_false, false_or, or_self, and_self, and_false, false_and, ↓reduceIte, Nat.reduceEqDiff, Nat.succ_ne_zero, Nat.one_ne_zero, reduceCtorEq] at k ⊢
  · refine ⟨fun g => ?_, fun g => ?_⟩
    · rw [if_neg g] at k; exact k
    · rw [if_pos (Classical.not_not.mp g)] at k; exact k
  · refine ⟨fun g => ?_, fun g => ?_⟩
    · rw [Nat.min_eq_left g] at k; exact k
    · rw [Nat.min_eq_right (by omega)] at k; exact k
  · refine ⟨fun g => ?_, fun g => ⟨fun g2 => ?_, fun g2 => ?_⟩⟩
    · rw [if_pos (Or.inl g)] at k; exact k
    · rw [if_neg (by rintro (z | z) <;> contradiction)] at k; exact k
    · rw [if_pos (Or.inr (Classical.not_not.mp g2))] at k; exact k
  · refine ⟨fun g => ⟨by decide, by decide, fun g2 => ?_, fun g2 => ?_⟩, fun g => ?_⟩
    · rw [if_neg g, if_neg g2] at k; exact k
    · rw [if_neg g, if_pos (Classical.not_not.mp g2)] at k; exact k
    · rw [if_pos (Classical.not_not.mp g)] at k; exact k
/-- energyBy(c, v) -/
theorem k_energyBy (h : MoL AH m s x r) (ok : x.ok) {c v : Nat} (hc : c < x.n) (hv : v < 8) {Q : xQ} (k : Q (some (.int (nI (x.E c v)))) AH (0, 0)) : ∀ (n j : Nat), j + n = x.nd → ∀ w : Option Value,
    XR TX7_energyBy 5 [some (.ref m), some (.int (nI c)), some (.int (nI v)), some (.int (nI (sm (x.T c v) j))), some (.int (nI j)), w] [] AH (0, 0) Q := by
  have hn := sLat.n36 ok
  have hnd := sLat.nd8 (x := x)
  intro n
  induction n with
  | zero =>
    intro j hj w
    rw [eX7_energyBy_5]
    simp only [eX7_energyBy_0, eX7_energyBy_1, eX7_energyBy_2, eX7_energyBy_3, eX7_energyBy_7, eX7_energyBy_8, eX7_energyBy_11, eX7_energyBy_14, eX7_energyBy_15, eX7_energyBy_16, eX7_energyBy_18, eX7_energyBy_21, eX7_energyBy_23, eX7_energyBy_24, eX7_energyBy_26, eX7_energyBy_29, eX7_energyBy_30, eX7_energyBy_31, eX7_energyBy_32, eX7_energyBy_35, eX7_energyBy_37, eX7_energyBy_39, eX7_energyBy_40, eX7_energyBy_41, eX7_energyBy_44, eX7_energyBy_47, eX7_energyBy_48, eX7_energyBy_49, eX7_energyBy_50, eX7_energyBy_53, eX7_energyBy_56, eX7_energyBy_57, Nat.add_zero, Nat.reduceAdd, Nat.reduceLeDiff, Nat.zero_le, and_true, o_aload_0r, o_callV_0, o_callV_2, o_const_e, o_getf_e, o_goto_e, o_iald_e, o_iald_f, o_icmp_e, o_if_e, o_ii_e, o_iinc_4, o_iload_1, o_iload_2, o_iload_3, o_iload_4, o_iload_5, o_iret_e, o_ist_3, o_ist_4, o_ist_5, tl_n, tl_s, true_and, xnlv_i, xnlv_n, xnlv_r, xwt_0, xwt_f, xwt_i, xwt_l, xwt_r, h.1.cls, h.1.g0, h.1.g1, h.1.g2, h.1.g3, h.1.g4, h.1.g5, h.1.g6, h.1.g7, h.1.g8, h.1.g9, h.1.g10, h.1.g11, h.1.g12, h.1.g13, h.1.g14, h.1.g15, h.1.g16, h.1.g17, h.1.g18, h.1.g19, h.i0, h.i1, h.i2, h.i3, h.i4, h.i5, h.i6, h.i7, h.i8, h.i9, h.i10, h.j0, h.j1, h.j2, h.j3, h.j4, h.j5, h.j6, h.j7, h.j8, h.j9, h.j10]
    refine d_directions h ok ?_
    simp only [eX7_energyBy_0, eX7_energyBy_1, eX7_energyBy_2, eX7_energyBy_3, eX7_energyBy_7, eX7_energyBy_8, eX7_energyBy_11, eX7_energyBy_14, eX7_energyBy_15, eX7_energyBy_16, eX7_energyBy_18, eX7_energyBy_21, eX7_energyBy_23, eX7_energyBy_24, eX7_energyBy_26, eX7_energyBy_29, eX7_energyBy_30, eX7_energyBy_31, eX7_energyBy_32, eX7_energyBy_35, eX7_energyBy_37, eX7_energyBy_39, eX7_energyBy_40, eX7_energyBy_41, eX7_energyBy_44, eX7_energyBy_47, eX7_energyBy_48, eX7_energyBy_49, eX7_energyBy_50, eX7_energyBy_53, eX7_energyBy_56, eX7_energyBy_57, Nat.add_zero, Nat.reduceAdd, Nat.reduceLeDiff, Nat.zero_le, and_true, o_aload_0r, o_callV_0, o_callV_2, o_const_e, o_getf_e, o_goto_e, o_iald_e, o_iald_f, o_icmp_e, o_if_e, o_ii_e, o_iinc_4, o_iload_1, o_iload_2, o_iload_3, o_iload_4, o_iload_5, o_iret_e, o_ist_3, o_ist_4, o_ist_5, tl_n, tl_s, true_and, xnlv_i, xnlv_n, xnlv_r, xwt_0, xwt_f, xwt_i, xwt_l, xwt_r, le_nI (a := x.nd) (b := j) (by omega) (by omega)]
    refine ⟨fun _ => ?_, fun g => by omega⟩
    rw [show j = x.nd by omega]
    exact k
  | succ n ih =>
    intro j hj w
    rw [eX7_energyBy_5]
    simp only [eX7_energyBy_0, eX7_energyBy_1, eX7_energyBy_2, eX7_energyBy_3, eX7_energyBy_7, eX7_energyBy_8, eX7_energyBy_11, eX7_energyBy_14, eX7_energyBy_15, eX7_energyBy_16, eX7_energyBy_18, eX7_energyBy_21, eX7_energyBy_23, eX7_energyBy_24, eX7_energyBy_26, eX7_energyBy_29, eX7_energyBy_30, eX7_energyBy_31, eX7_energyBy_32, eX7_energyBy_35, eX7_energyBy_37, eX7_energyBy_39, eX7_energyBy_40, eX7_energyBy_41, eX7_energyBy_44, eX7_energyBy_47, eX7_energyBy_48, eX7_energyBy_49, eX7_energyBy_50, eX7_energyBy_53, eX7_energyBy_56, eX7_energyBy_57, Nat.add_zero, Nat.reduceAdd, Nat.reduceLeDiff, Nat.zero_le, and_true, o_aload_0r, o_callV_0, o_callV_2, o_const_e, o_getf_e, o_goto_e, o_iald_e, o_iald_f, o_icmp_e, o_if_e, o_ii_e, o_iinc_4, o_iload_1, o_iload_2, o_iload_3, o_iload_4, o_iload_5, o_iret_e, o_ist_3, o_ist_4, o_ist_5, tl_n, tl_s, true_and, xnlv_i, xnlv_n, xnlv_r, xwt_0, xwt_f, xwt_i, xwt_l, xwt_r, h.1.cls, h.1.g0, h.1.g1, h.1.g2, h.1.g3, h.1.g4, h.1.g5, h.1.g6, h.1.g7, h.1.g8, h.1.g9, h.1.g10, h.1.g11, h.1.g12, h.1.g13, h.1.g14, h.1.g15, h.1.g16, h.1.g17, h.1.g18, h.1.g19, h.i0, h.i1, h.i2, h.i3, h.i4, h.i5, h.i6, h.i7, h.i8, h.i9, h.i10, h.j0, h.j1, h.j2, h.j3, h.j4, h.j5, h.j6, h.j7, h.j8, h.j9, h.j10]
    refine d_directions h ok ?_
    simp only [eX7_energyBy_0, eX7_energyBy_1, eX7_energyBy_2, eX7_energyBy_3, eX7_energyBy_7, eX7_energyBy_8, eX7_energyBy_11, eX7_energyBy_14, eX7_energyBy_15, eX7_energyBy_16, eX7_energyBy_18, eX7_energyBy_21, eX7_energyBy_23, eX7_energyBy_24, eX7_energyBy_26, eX7_energyBy_29, eX7_energyBy_30, eX7_energyBy_31, eX7_energyBy_32, eX7_energyBy_35, eX7_energyBy_37, eX7_energyBy_39, eX7_energyBy_40, eX7_energyBy_41, eX7_energyBy_44, eX7_energyBy_47, eX7_energyBy_48, eX7_energyBy_49, eX7_energyBy_50, eX7_energyBy_53, eX7_energyBy_56, eX7_energyBy_57, Nat.add_zero, Nat.reduceAdd, Nat.reduceLeDiff, Nat.zero_le, and_true, o_aload_0r, o_callV_0, o_callV_2, o_const_e, o_getf_e, o_goto_e, o_iald_e, o_iald_f, o_icmp_e, o_if_e, o_ii_e, o_iinc_4, o_iload_1, o_iload_2, o_iload_3, o_iload_4, o_iload_5, o_iret_e, o_ist_3, o_ist_4, o_ist_5, tl_n, tl_s, true_and, xnlv_i, xnlv_n, xnlv_r, xwt_0, xwt_f, xwt_i, xwt_l, xwt_r, le_nI (a := x.nd) (b := j) (by omega) (by omega), h.1.cls, h.1.g0, h.1.g1, h.1.g2, h.1.g3, h.1.g4, h.1.g5, h.1.g6, h.1.g7, h.1.g8, h.1.g9, h.1.g10, h.1.g11, h.1.g12, h.1.g13, h.1.g14, h.1.g15, h.1.g16, h.1.g17, h.1.g18, h.1.g19, h.i0, h.i1, h.i2, h.i3, h.i4, h.i5, h.i6, h.i7, h.i8, h.i9, h.i10, h.j0, h.j1, h.j2, h.j3, h.j4, h.j5, h.j6, h.j7, h.j8, h.j9, h.j10]
    refine ⟨fun g => by omega, fun _ => d_beside h ok hc (by omega) ?_⟩
    have := ih (j + 1) (by omega)
    rw [sm] at this
    cases hb : x.nb c j with
    | none =>
      rw [show x.T c v j = 0 by unfold sLat.T; rw [hb]] at this
      simp only [eX7_energyBy_0, eX7_energyBy_1, eX7_energyBy_2, eX7_energyBy_3, eX7_energyBy_7, eX7_energyBy_8, eX7_energyBy_11, eX7_energyBy_14, eX7_energyBy_15, eX7_energyBy_16, eX7_energyBy_18, eX7_energyBy_21, eX7_energyBy_23, eX7_energyBy_24, eX7_energyBy_26, eX7_energyBy_29, eX7_energyBy_30, eX7_energyBy_31, eX7_energyBy_32, eX7_energyBy_35, eX7_energyBy_37, eX7_energyBy_39, eX7_energyBy_40, eX7_energyBy_41, eX7_energyBy_44, eX7_energyBy_47, eX7_energyBy_48, eX7_energyBy_49, eX7_energyBy_50, eX7_energyBy_53, eX7_energyBy_56, eX7_energyBy_57, Nat.add_zero, Nat.reduceAdd, Nat.reduceLeDiff, Nat.zero_le, and_true, o_aload_0r, o_callV_0, o_callV_2, o_const_e, o_getf_e, o_goto_e, o_iald_e, o_iald_f, o_icmp_e, o_if_e, o_ii_e, o_iinc_4, o_iload_1, o_iload_2, o_iload_3, o_iload_4, o_iload_5, o_iret_e, o_ist_3, o_ist_4, o_ist_5, tl_n, tl_s, true_and, xnlv_i, xnlv_n, xnlv_r, xwt_0, xwt_f, xwt_i, xwt_l, xwt_r, bkV, n1, nI_add]
      refine ⟨fun _ => ?_, fun g => absurd (by decide) g⟩
      rw [z_nI, nI_add]
      exact this _
    | some z =>
      have hz := sLat.nb_36 ok hb
      have hmz := ok.1 z
      rw [show x.T c v j = x.P v (x.mk z) by unfold sLat.T; rw [hb]] at this
      simp only [eX7_energyBy_0, eX7_energyBy_1, eX7_energyBy_2, eX7_energyBy_3, eX7_energyBy_7, eX7_energyBy_8, eX7_energyBy_11, eX7_energyBy_14, eX7_energyBy_15, eX7_energyBy_16, eX7_energyBy_18, eX7_energyBy_21, eX7_energyBy_23, eX7_energyBy_24, eX7_energyBy_26, eX7_energyBy_29, eX7_energyBy_30, eX7_energyBy_31, eX7_energyBy_32, eX7_energyBy_35, eX7_energyBy_37, eX7_energyBy_39, eX7_energyBy_40, eX7_energyBy_41, eX7_energyBy_44, eX7_energyBy_47, eX7_energyBy_48, eX7_energyBy_49, eX7_energyBy_50, eX7_energyBy_53, eX7_energyBy_56, eX7_energyBy_57, Nat.add_zero, Nat.reduceAdd, Nat.reduceLeDiff, Nat.zero_le, and_true, o_aload_0r, o_callV_0, o_callV_2, o_const_e, o_getf_e, o_goto_e, o_iald_e, o_iald_f, o_icmp_e, o_if_e, o_ii_e, o_iinc_4, o_iload_1, o_iload_2, o_iload_3, o_iload_4, o_iload_5, o_iret_e, o_ist_3, o_ist_4, o_ist_5, tl_n, tl_s, true_and, xnlv_i, xnlv_n, xnlv_r, xwt_0, xwt_f, xwt_i, xwt_l, xwt_r, bkV, h.1.cls, h.1.g0, h.1.g1, h.1.g2, h.1.g3, h.1.g4, h.1.g5, h.1.g6, h.1.g7, h.1.g8, h.1.g9, h.1.g10, h.1.g11, h.1.g12, h.1.g13, h.1.g14, h.1.g15, h.1.g16, h.1.g17, h.1.g18, h.1.g19, h.i0, h.i1, h.i2, h.i3, h.i4, h.i5, h.i6, h.i7, h.i8, h.i9, h.i10, h.j0, h.j1, h.j2, h.j3, h.j4, h.j5, h.j6, h.j7, h.j8, h.j9, h.j10, n11, nI_add, h.rm hz, lt0_nI (a := z) (by omega), not_true_eq_false, not_false_eq_true, true_implies, false_implies, and_true, true_and, implies_true, forall_const, ↓reduceIte, Bool.false_eq_true, i10, i10n]
      refine d_priceOf h ok hv hmz ?_
      simp only [eX7_energyBy_0, eX7_energyBy_1, eX7_energyBy_2, eX7_energyBy_3, eX7_energyBy_7, eX7_energyBy_8, eX7_energyBy_11, eX7_energyBy_14, eX7_energyBy_15, eX7_energyBy_16, eX7_energyBy_18, eX7_energyBy_21, eX7_energyBy_23, eX7_energyBy_24, eX7_energyBy_26, eX7_energyBy_29, eX7_energyBy_30, eX7_energyBy_31, eX7_energyBy_32, eX7_energyBy_35, eX7_energyBy_37, eX7_energyBy_39, eX7_energyBy_40, eX7_energyBy_41, eX7_energyBy_44, eX7_energyBy_47, eX7_energyBy_48, eX7_energyBy_49, eX7_energyBy_50, eX7_energyBy_53, eX7_energyBy_56, eX7_energyBy_57, Nat.add_zero, Nat.reduceAdd, Nat.reduceLeDiff, Nat.zero_le, and_true, o_aload_0r, o_callV_0, o_callV_2, o_const_e, o_getf_e, o_goto_e, o_iald_e, o_iald_f, o_icmp_e, o_if_e, o_ii_e, o_iinc_4, o_iload_1, o_iload_2, o_iload_3, o_iload_4, o_iload_5, o_iret_e, o_ist_3, o_ist_4, o_ist_5, tl_n, tl_s, true_and, xnlv_i, xnlv_n, xnlv_r, xwt_0, xwt_f, xwt_i, xwt_l, xwt_r, n1, nI_add]
      exact this _
theorem d_energyBy (h : MoL AH m s x r) (ok : x.ok) {c v : Nat} (hc : c < x.n) (hv : v < 8) {Q : Option Value → xH → Prop} (k : Q (some (.int (nI (x.E c v)))) AH) : XC MX7_energyBy [.ref m, .int (nI c), .int (nI v)] AH Q := by
  refine XC.ofR (L := [some (.ref m), some (.int (nI c)), some (.int (nI v)), none, none, none]) KX7_energyBy (by decide +kernel) (by first | decide | exact Nat.le_of_ble_eq_true rfl) rfl ?_
  simp only [eX7_energyBy_0, eX7_energyBy_1, eX7_energyBy_2, eX7_energyBy_3, eX7_energyBy_7, eX7_energyBy_8, eX7_energyBy_11, eX7_energyBy_14, eX7_energyBy_15, eX7_energyBy_16, eX7_energyBy_18, eX7_energyBy_21, eX7_energyBy_23, eX7_energyBy_24, eX7_energyBy_26, eX7_energyBy_29, eX7_energyBy_30, eX7_energyBy_31, eX7_energyBy_32, eX7_energyBy_35, eX7_energyBy_37, eX7_energyBy_39, eX7_energyBy_40, eX7_energyBy_41, eX7_energyBy_44, eX7_energyBy_47, eX7_energyBy_48, eX7_energyBy_49, eX7_energyBy_50, eX7_energyBy_53, eX7_energyBy_56, eX7_energyBy_57, Nat.add_zero, Nat.reduceAdd, Nat.reduceLeDiff, Nat.zero_le, and_true, o_aload_0r, o_callV_0, o_callV_2, o_const_e, o_getf_e, o_goto_e, o_iald_e, o_iald_f, o_icmp_e, o_if_e, o_ii_e, o_iinc_4, o_iload_1, o_iload_2, o_iload_3, o_iload_4, o_iload_5, o_iret_e, o_ist_3, o_ist_4, o_ist_5, tl_n, tl_s, true_and, xnlv_i, xnlv_n, xnlv_r, xwt_0, xwt_f, xwt_i, xwt_l, xwt_r]
  exact k_energyBy h ok hc hv k x.nd 0 (by omega) none
theorem d_energy (h : MoL AH m s x r) (ok : x.ok) {c : Nat} (hc : c < x.n) {Q : Option Value → xH → Prop} (k : Q (some (.int (nI (x.en c)))) AH) : XC MX7_energy [.ref m, .int (nI c)] AH Q := by
  have hn := sLat.n36 ok
  refine XC.ofR (L := [some (.ref m), some (.int (nI c))]) KX7_energy (by decide +kernel) (by first | decide | exact Nat.le_of_ble_eq_true rfl) rfl ?_
  simp only [eX7_energy_0, eX7_energy_1, eX7_energy_2, eX7_energy_3, eX7_energy_6, eX7_energy_8, eX7_energy_9, eX7_energy_10, eX7_energy_11, eX7_energy_14, Nat.add_zero, Nat.reduceAdd, Nat.reduceLeDiff, Nat.zero_le, and_true, o_aload_0r, o_callV_2, o_const_e, o_getf_e, o_iald_e, o_iald_f, o_ii_e, o_iload_1, o_iret_e, tl_n, tl_s, true_and, xwt_0, xwt_f, xwt_i, xwt_l, xwt_r, h.1.cls, h.1.g0, h.1.g1, h.1.g2, h.1.g3, h.1.g4, h.1.g5, h.1.g6, h.1.g7, h.1.g8, h.1.g9, h.1.g10, h.1.g11, h.1.g12, h.1.g13, h.1.g14, h.1.g15, h.1.g16, h.1.g17, h.1.g18, h.1.g19, h.i0, h.i1, h.i2, h.i3, h.i4, h.i5, h.i6, h.i7, h.i8, h.i9, h.i10, h.j0, h.j1, h.j2, h.j3, h.j4, h.j5, h.j6, h.j7, h.j8, h.j9, h.j10, n11, nI_add, h.rm (c := c) (by omega)]
  refine d_energyBy h ok hc (ok.1 c) ?_
  simp only [eX7_energy_0, eX7_energy_1, eX7_energy_2, eX7_energy_3, eX7_energy_6, eX7_energy_8, eX7_energy_9, eX7_energy_10, eX7_energy_11, eX7_energy_14, Nat.add_zero, Nat.reduceAdd, Nat.reduceLeDiff, Nat.zero_le, and_true, o_aload_0r, o_callV_2, o_const_e, o_getf_e, o_iald_e, o_iald_f, o_ii_e, o_iload_1, o_iret_e, tl_n, tl_s, true_and, xwt_0, xwt_f, xwt_i, xwt_l, xwt_r]
  exact k
theorem k_border (h : MoL AH m s x r) (ok : x.ok) {Q : xQ} (k : Q (some (.int (nI x.B))) AH (0, 0)) : ∀ (n j : Nat), j + n = x.n →
    XR TX7_border 4 [some (.ref m), some (.int (nI (sm x.en j))), some (.int (nI j))] [] AH (0, 0) Q := by
  have hn := sLat.n36 ok
  intro n
  induction n with
  | zero =>
    intro j hj
    rw [eX7_border_4]
    simp only [eX7_border_0, eX7_border_1, eX7_border_2, eX7_border_3, eX7_border_5, eX7_border_6, eX7_border_9, eX7_border_12, eX7_border_13, eX7_border_14, eX7_border_15, eX7_border_18, eX7_border_19, eX7_border_20, eX7_border_23, eX7_border_26, eX7_border_27, eX7_border_28, eX7_border_29, Nat.add_zero, Nat.reduceAdd, Nat.reduceLeDiff, Nat.zero_le, and_true, o_aload_0r, o_callV_0, o_callV_1, o_const_e, o_goto_e, o_icmp_e, o_idiv_e, o_ii_e, o_iinc_2, o_iload_1, o_iload_2, o_iret_e, o_ist_1, o_ist_2, tl_n, tl_s, true_and, xnlv_i, xnlv_n, xnlv_r, xwt_0, xwt_f, xwt_i, xwt_l, xwt_r, h.1.cls, h.1.g0, h.1.g1, h.1.g2, h.1.g3, h.1.g4, h.1.g5, h.1.g6, h.1.g7, h.1.g8, h.1.g9, h.1.g10, h.1.g11, h.1.g12, h.1.g13, h.1.g14, h.1.g15, h.1.g16, h.1.g17, h.1.g18, h.1.g19, h.i0, h.i1, h.i2, h.i3, h.i4, h.i5, h.i6, h.i7, h.i8, h.i9, h.i10, h.j0, h.j1, h.j2, h.j3, h.j4, h.j5, h.j6, h.j7, h.j8, h.j9, h.j10]
    refine d_cells h ?_
    simp only [eX7_border_0, eX7_border_1, eX7_border_2, eX7_border_3, eX7_border_5, eX7_border_6, eX7_border_9, eX7_border_12, eX7_border_13, eX7_border_14, eX7_border_15, eX7_border_18, eX7_border_19, eX7_border_20, eX7_border_23, eX7_border_26, eX7_border_27, eX7_border_28, eX7_border_29, Nat.add_zero, Nat.reduceAdd, Nat.reduceLeDiff, Nat.zero_le, and_true, o_aload_0r, o_callV_0, o_callV_1, o_const_e, o_goto_e, o_icmp_e, o_idiv_e, o_ii_e, o_iinc_2, o_iload_1, o_iload_2, o_iret_e, o_ist_1, o_ist_2, tl_n, tl_s, true_and, xnlv_i, xnlv_n, xnlv_r, xwt_0, xwt_f, xwt_i, xwt_l, xwt_r, le_nI (a := x.n) (b := j) (by omega) (by omega)]
    refine ⟨fun _ => ?_, fun g => by omega⟩
    rw [show j = x.n by omega]
    have hs : sm x.en x.n ≤ x.n * 72 := sm_le (fun i => sLat.E_le ok) _
    have : x.n * 72 ≤ 36 * 72 := Nat.mul_le_mul_right 72 hn
    rw [n2, pk_div (by omega) (by decide) (by decide)]
    exact ⟨by decide, k⟩
  | succ n ih =>
    intro j hj
    rw [eX7_border_4]
    simp only [eX7_border_0, eX7_border_1, eX7_border_2, eX7_border_3, eX7_border_5, eX7_border_6, eX7_border_9, eX7_border_12, eX7_border_13, eX7_border_14, eX7_border_15, eX7_border_18, eX7_border_19, eX7_border_20, eX7_border_23, eX7_border_26, eX7_border_27, eX7_border_28, eX7_border_29, Nat.add_zero, Nat.reduceAdd, Nat.reduceLeDiff, Nat.zero_le, and_true, o_aload_0r, o_callV_0, o_callV_1, o_const_e, o_goto_e, o_icmp_e, o_idiv_e, o_ii_e, o_iinc_2, o_iload_1, o_iload_2, o_iret_e, o_ist_1, o_ist_2, tl_n, tl_s, true_and, xnlv_i, xnlv_n, xnlv_r, xwt_0, xwt_f, xwt_i, xwt_l, xwt_r, h.1.cls, h.1.g0, h.1.g1, h.1.g2, h.1.g3, h.1.g4, h.1.g5, h.1.g6, h.1.g7, h.1.g8, h.1.g9, h.1.g10, h.1.g11, h.1.g12, h.1.g13, h.1.g14, h.1.g15, h.1.g16, h.1.g17, h.1.g18, h.1.g19, h.i0, h.i1, h.i2, h.i3, h.i4, h.i5, h.i6, h.i7, h.i8, h.i9, h.i10, h.j0, h.j1, h.j2, h.j3, h.j4, h.j5, h.j6, h.j7, h.j8, h.j9, h.j10]
    refine d_cells h ?_
    simp only [eX7_border_0, eX7_border_1, eX7_border_2, eX7_border_3, eX7_border_5, eX7_border_6, eX7_border_9, eX7_border_12, eX7_border_13, eX7_border_14, eX7_border_15, eX7_border_18, eX7_border_19, eX7_border_20, eX7_border_23, eX7_border_26, eX7_border_27, eX7_border_28, eX7_border_29, Nat.add_zero, Nat.reduceAdd, Nat.reduceLeDiff, Nat.zero_le, and_true, o_aload_0r, o_callV_0, o_callV_1, o_const_e, o_goto_e, o_icmp_e, o_idiv_e, o_ii_e, o_iinc_2, o_iload_1, o_iload_2, o_iret_e, o_ist_1, o_ist_2, tl_n, tl_s, true_and, xnlv_i, xnlv_n, xnlv_r, xwt_0, xwt_f, xwt_i, xwt_l, xwt_r, h.1.cls, h.1.g0, h.1.g1, h.1.g2, h.1.g3, h.1.g4, h.1.g5, h.1.g6, h.1.g7, h.1.g8, h.1.g9, h.1.g10, h.1.g11, h.1.g12, h.1.g13, h.1.g14, h.1.g15, h.1.g16, h.1.g17, h.1.g18, h.1.g19, h.i0, h.i1, h.i2, h.i3, h.i4, h.i5, h.i6, h.i7, h.i8, h.i9, h.i10, h.j0, h.j1, h.j2, h.j3, h.j4, h.j5, h.j6, h.j7, h.j8, h.j9, h.j10, le_nI (a := x.n) (b := j) (by omega) (by omega)]
    refine ⟨fun g => by omega, fun _ => d_energy h ok (by omega) ?_⟩
    simp only [eX7_border_0, eX7_border_1, eX7_border_2, eX7_border_3, eX7_border_5, eX7_border_6, eX7_border_9, eX7_border_12, eX7_border_13, eX7_border_14, eX7_border_15, eX7_border_18, eX7_border_19, eX7_border_20, eX7_border_23, eX7_border_26, eX7_border_27, eX7_border_28, eX7_border_29, Nat.add_zero, Nat.reduceAdd, Nat.reduceLeDiff, Nat.zero_le, and_true, o_aload_0r, o_callV_0, o_callV_1, o_const_e, o_goto_e, o_icmp_e, o_idiv_e, o_ii_e, o_iinc_2, o_iload_1, o_iload_2, o_iret_e, o_ist_1, o_ist_2, tl_n, tl_s, true_and, xnlv_i, xnlv_n, xnlv_r, xwt_0, xwt_f, xwt_i, xwt_l, xwt_r, nI_add, n1]
    exact ih (j + 1) (by omega)
theorem d_border (h : MoL AH m s x r) (ok : x.ok) {Q : Option Value → xH → Prop} (k : Q (some (.int (nI x.B))) AH) : XC MX7_border [.ref m] AH Q := by
  refine XC.ofR (L := [some (.ref m), none, none]) KX7_border (by decide +kernel) (by first | decide | exact Nat.le_of_ble_eq_true rfl) rfl ?_
  simp only [eX7_border_0, eX7_border_1, eX7_border_2, eX7_border_3, eX7_border_5, eX7_border_6, eX7_border_9, eX7_border_12, eX7_border_13, eX7_border_14, eX7_border_15, eX7_border_18, eX7_border_19, eX7_border_20, eX7_border_23, eX7_border_26, eX7_border_27, eX7_border_28, eX7_border_29, Nat.add_zero, Nat.reduceAdd, Nat.reduceLeDiff, Nat.zero_le, and_true, o_aload_0r, o_callV_0, o_callV_1, o_const_e, o_goto_e, o_icmp_e, o_idiv_e, o_ii_e, o_iinc_2, o_iload_1, o_iload_2, o_iret_e, o_ist_1, o_ist_2, tl_n, tl_s, true_and, xnlv_i, xnlv_n, xnlv_r, xwt_0, xwt_f, xwt_i, xwt_l, xwt_r]
  exact k_border h ok k x.n 0 (by omega)
theorem d_moreBy (h : MoL AH m s x r) (ok : x.ok) {c v : Nat} (hc : c < x.n) (hv : v < 8) {Q : Option Value → xH → Prop} (k : Q (some (.int (nI (x.E c v) - nI (x.en c)))) AH) : XC MX7_moreBy [.ref m, .int (nI c), .int (nI v)] AH Q := by
  refine XC.ofR (L := [some (.ref m), some (.int (nI c)), some (.int (nI v))]) KX7_moreBy (by decide +kernel) (by first | decide | exact Nat.le_of_ble_eq_true rfl) rfl ?_
  simp only [eX7_moreBy_0, eX7_moreBy_1, eX7_moreBy_2, eX7_moreBy_3, eX7_moreBy_6, eX7_moreBy_7, eX7_moreBy_8, eX7_moreBy_11, eX7_moreBy_12, Nat.add_zero, Nat.reduceAdd, Nat.reduceLeDiff, Nat.zero_le, and_true, o_aload_0r, o_callV_1, o_callV_2, o_ii_e, o_iload_1, o_iload_2, o_iret_e, tl_n, tl_s, true_and, xwt_0, xwt_f, xwt_i, xwt_l, xwt_r, h.1.cls, h.1.g0, h.1.g1, h.1.g2, h.1.g3, h.1.g4, h.1.g5, h.1.g6, h.1.g7, h.1.g8, h.1.g9, h.1.g10, h.1.g11, h.1.g12, h.1.g13, h.1.g14, h.1.g15, h.1.g16, h.1.g17, h.1.g18, h.1.g19, h.i0, h.i1, h.i2, h.i3, h.i4, h.i5, h.i6, h.i7, h.i8, h.i9, h.i10, h.j0, h.j1, h.j2, h.j3, h.j4, h.j5, h.j6, h.j7, h.j8, h.j9, h.j10]
  refine d_energyBy h ok hc hv ?_
  simp only [eX7_moreBy_0, eX7_moreBy_1, eX7_moreBy_2, eX7_moreBy_3, eX7_moreBy_6, eX7_moreBy_7, eX7_moreBy_8, eX7_moreBy_11, eX7_moreBy_12, Nat.add_zero, Nat.reduceAdd, Nat.reduceLeDiff, Nat.zero_le, and_true, o_aload_0r, o_callV_1, o_callV_2, o_ii_e, o_iload_1, o_iload_2, o_iret_e, tl_n, tl_s, true_and, xwt_0, xwt_f, xwt_i, xwt_l, xwt_r, h.1.cls, h.1.g0, h.1.g1, h.1.g2, h.1.g3, h.1.g4, h.1.g5, h.1.g6, h.1.g7, h.1.g8, h.1.g9, h.1.g10, h.1.g11, h.1.g12, h.1.g13, h.1.g14, h.1.g15, h.1.g16, h.1.g17, h.1.g18, h.1.g19, h.i0, h.i1, h.i2, h.i3, h.i4, h.i5, h.i6, h.i7, h.i8, h.i9, h.i10, h.j0, h.j1, h.j2, h.j3, h.j4, h.j5, h.j6, h.j7, h.j8, h.j9, h.j10]
  refine d_energy h ok hc ?_
  simp only [eX7_moreBy_0, eX7_moreBy_1, eX7_moreBy_2, eX7_moreBy_3, eX7_moreBy_6, eX7_moreBy_7, eX7_moreBy_8, eX7_moreBy_11, eX7_moreBy_12, Nat.add_zero, Nat.reduceAdd, Nat.reduceLeDiff, Nat.zero_le, and_true, o_aload_0r, o_callV_1, o_callV_2, o_ii_e, o_iload_1, o_iload_2, o_iret_e, tl_n, tl_s, true_and, xwt_0, xwt_f, xwt_i, xwt_l, xwt_r]
  exact k
/-- draw(n) -/
theorem d_draw (h : MoL AH m s x r) {n : Nat} (h0 : 1 ≤ n) (hm : n < 2 ^ 31) {Q : Option Value → xH → Prop} (k : Q (some (.int (nI (drV x.se n)))) (modP AH m (s.wnw (nF (x.wse (drS x.se)) r)))) : XC MX7_draw [.ref m, .int (nI n)] AH Q := by
  have h2 := h.put (x.wse (drS x.se)) r
  refine XC.ofR (L := [some (.ref m), some (.int (nI n))]) KX7_draw (by decide +kernel) (by first | decide | exact Nat.le_of_ble_eq_true rfl) rfl ?_
  simp only [eX7_draw_0, eX7_draw_1, eX7_draw_4, eX7_draw_6, eX7_draw_7, eX7_draw_10, eX7_draw_12, eX7_draw_13, eX7_draw_15, eX7_draw_16, eX7_draw_19, eX7_draw_20, eX7_draw_21, eX7_draw_22, eX7_draw_25, eX7_draw_27, eX7_draw_28, eX7_draw_30, eX7_draw_31, eX7_draw_33, eX7_draw_34, eX7_draw_35, eX7_draw_36, o_aload_0r, o_const_e, o_getf_e, o_iald_e, o_iald_f, o_iast_e, o_idiv_e, o_ii_e, o_iload_1, o_irem_e, o_iret_e, h.1.cls, h.1.g0, h.1.g1, h.1.g2, h.1.g3, h.1.g4, h.1.g5, h.1.g6, h.1.g7, h.1.g8, h.1.g9, h.1.g10, h.1.g11, h.1.g12, h.1.g13, h.1.g14, h.1.g15, h.1.g16, h.1.g17, h.1.g18, h.1.g19, h.i0, h.i1, h.i2, h.i3, h.i4, h.i5, h.i6, h.i7, h.i8, h.i9, h.i10, h.j0, h.j1, h.j2, h.j3, h.j4, h.j5, h.j6, h.j7, h.j8, h.j9, h.j10, ← drS_eq, h.w7, h2.1.cls, h2.1.g0, h2.1.g1, h2.1.g2, h2.1.g3, h2.1.g4, h2.1.g5, h2.1.g6, h2.1.g7, h2.1.g8, h2.1.g9, h2.1.g10, h2.1.g11, h2.1.g12, h2.1.g13, h2.1.g14, h2.1.g15, h2.1.g16, h2.1.g17, h2.1.g18, h2.1.g19, h2.i0, h2.i1, h2.i2, h2.i3, h2.i4, h2.i5, h2.i6, h2.i7, h2.i8, h2.i9, h2.i10, h2.j0, h2.j1, h2.j2, h2.j3, h2.j4, h2.j5, h2.j6, h2.j7, h2.j8, h2.j9, h2.j10, se_wse]
  have e : (drS x.se) &&& 2147483647 = nI ((drS x.se).toBitVec.toNat % 2 ^ 31) := pk_and _ 31 (by decide)
  have l1 : (drS x.se).toBitVec.toNat % 2 ^ 31 < 2 ^ 31 := Nat.mod_lt _ (by decide)
  rw [e, n65536, pk_div l1 (by decide) (by decide), eq0_nI hm, pk_rem (Nat.lt_of_le_of_lt (Nat.div_le_self _ _) l1) (by omega) hm, ← drV_eq]
  exact ⟨by decide, by omega, k⟩
/-- hundredths(c, v) -/
theorem d_hund (h : MoL AH m s x r) (ok : x.ok) {c v : Nat} (hc : c < x.n) (hv : v < 8) {Q : Option Value → xH → Prop} (k : Q (some (.int (nI (x.ch c v)))) AH) : XC MX7_hundredths [.ref m, .int (nI c), .int (nI v)] AH Q := by
  have hn := sLat.n36 ok
  have hmc := ok.1 c
  have hpc := ok.2.1 c
  have hE := sLat.E_le ok (c := c) (v := v)
  have hE2 : x.en c ≤ 72 := sLat.E_le ok
  have hhe := ok.2.2.2.2.1
  unfold sLat.ch at k
  refine XC.ofR (L := [some (.ref m), some (.int (nI c)), some (.int (nI v)), none]) KX7_hundredths (by decide +kernel) (by first | decide | exact Nat.le_of_ble_eq_true rfl) rfl ?_
  simp only [eX7_hundredths_0, eX7_hundredths_1, eX7_hundredths_4, eX7_hundredths_6, eX7_hundredths_7, eX7_hundredths_8, eX7_hundredths_9, eX7_hundredths_10, eX7_hundredths_13, eX7_hundredths_14, eX7_hundredths_17, eX7_hundredths_19, eX7_hundredths_20, eX7_hundredths_21, eX7_hundredths_22, eX7_hundredths_23, eX7_hundredths_26, eX7_hundredths_27, eX7_hundredths_28, eX7_hundredths_29, eX7_hundredths_30, eX7_hundredths_31, eX7_hundredths_34, eX7_hundredths_35, eX7_hundredths_36, eX7_hundredths_39, eX7_hundredths_41, eX7_hundredths_44, eX7_hundredths_45, eX7_hundredths_48, eX7_hundredths_49, eX7_hundredths_50, eX7_hundredths_51, eX7_hundredths_52, Nat.add_zero, Nat.reduceAdd, Nat.reduceLeDiff, Nat.zero_le, and_true, o_aload_0r, o_callV_2, o_const_e, o_getf_e, o_goto_e, o_iald_e, o_iald_f, o_icmp_e, o_idiv_e, o_if_e, o_ii_e, o_iload_1, o_iload_2, o_iload_3, o_iret_e, o_ist_3, tl_n, tl_s, true_and, xnlv_i, xnlv_n, xnlv_r, xwt_0, xwt_f, xwt_i, xwt_l, xwt_r, h.1.cls, h.1.g0, h.1.g1, h.1.g2, h.1.g3, h.1.g4, h.1.g5, h.1.g6, h.1.g7, h.1.g8, h.1.g9, h.1.g10, h.1.g11, h.1.g12, h.1.g13, h.1.g14, h.1.g15, h.1.g16, h.1.g17, h.1.g18, h.1.g19, h.i0, h.i1, h.i2, h.i3, h.i4, h.i5, h.i6, h.i7, h.i8, h.i9, h.i10, h.j0, h.j1, h.j2, h.j3, h.j4, h.j5, h.j6, h.j7, h.j8, h.j9, h.j10, n11, n47, nI_add, h.rp (c := c) (by omega), h.rm (c := c) (by omega), n1, eq_nI (a := x.pn c) (b := 1) (by omega) (by omega), eq_nI (a := x.mk c) (b := v) (by omega) (by omega)]
  refine ⟨fun g => ?_, fun g => ⟨fun g2 => ?_, fun g2 => ?_⟩⟩
  · rw [if_pos (Or.inl (by omega))] at k
    exact k
  · rw [if_neg (by intro z; rcases z with z | z <;> omega)] at k
    refine d_moreBy h ok hc hv ?_
    simp only [eX7_hundredths_0, eX7_hundredths_1, eX7_hundredths_4, eX7_hundredths_6, eX7_hundredths_7, eX7_hundredths_8, eX7_hundredths_9, eX7_hundredths_10, eX7_hundredths_13, eX7_hundredths_14, eX7_hundredths_17, eX7_hundredths_19, eX7_hundredths_20, eX7_hundredths_21, eX7_hundredths_22, eX7_hundredths_23, eX7_hundredths_26, eX7_hundredths_27, eX7_hundredths_28, eX7_hundredths_29, eX7_hundredths_30, eX7_hundredths_31, eX7_hundredths_34, eX7_hundredths_35, eX7_hundredths_36, eX7_hundredths_39, eX7_hundredths_41, eX7_hundredths_44, eX7_hundredths_45, eX7_hundredths_48, eX7_hundredths_49, eX7_hundredths_50, eX7_hundredths_51, eX7_hundredths_52, Nat.add_zero, Nat.reduceAdd, Nat.reduceLeDiff, Nat.zero_le, and_true, o_aload_0r, o_callV_2, o_const_e, o_getf_e, o_goto_e, o_iald_e, o_iald_f, o_icmp_e, o_idiv_e, o_if_e, o_ii_e, o_iload_1, o_iload_2, o_iload_3, o_iret_e, o_ist_3, tl_n, tl_s, true_and, xnlv_i, xnlv_n, xnlv_r, xwt_0, xwt_f, xwt_i, xwt_l, xwt_r, h.1.cls, h.1.g0, h.1.g1, h.1.g2, h.1.g3, h.1.g4, h.1.g5, h.1.g6, h.1.g7, h.1.g8, h.1.g9, h.1.g10, h.1.g11, h.1.g12, h.1.g13, h.1.g14, h.1.g15, h.1.g16, h.1.g17, h.1.g18, h.1.g19, h.i0, h.i1, h.i2, h.i3, h.i4, h.i5, h.i6, h.i7, h.i8, h.i9, h.i10, h.j0, h.j1, h.j2, h.j3, h.j4, h.j5, h.j6, h.j7, h.j8, h.j9, h.j10]
    rw [gt_sub (by omega) (by omega)]
    refine ⟨fun g3 => ?_, fun g3 => ?_⟩
    · rw [if_neg (by omega)] at k
      rw [pk_sub (by omega), eq0_nI (by omega), pk_div (by omega) (by omega) (by omega)]
      exact ⟨by omega, k⟩
    · rw [if_pos (by omega)] at k
      exact k
  · rw [if_pos (Or.inr (Classical.not_not.mp g2))] at k
    exact k
/-- changes(c, v) -/
theorem d_changes (h : MoL AH m s x r) (ok : x.ok) {c v : Nat} (hc : c < x.n) (hv : v < 8) {Q : Option Value → xH → Prop} (k : Q (some (.int (nI (x.at1 c v).2))) (modP AH m (s.wnw (nF (x.at1 c v).1 r)))) : XC MX7_changes [.ref m, .int (nI c), .int (nI v)] AH Q := by
  have hn := sLat.n36 ok
  have hch := ch_le ok (c := c) (v := v)
  have hdr := drV_lt (s := x.se) (m := 100) (by decide)
  unfold sLat.at1 at k
  refine XC.ofR (L := [some (.ref m), some (.int (nI c)), some (.int (nI v)), none]) KX7_changes (by decide +kernel) (by first | decide | exact Nat.le_of_ble_eq_true rfl) rfl ?_
  simp only [eX7_changes_0, eX7_changes_1, eX7_changes_2, eX7_changes_3, eX7_changes_6, eX7_changes_7, eX7_changes_8, eX7_changes_11, eX7_changes_12, eX7_changes_14, eX7_changes_17, eX7_changes_18, eX7_changes_20, eX7_changes_23, eX7_changes_24, eX7_changes_27, eX7_changes_28, eX7_changes_29, eX7_changes_30, eX7_changes_33, eX7_changes_35, eX7_changes_36, eX7_changes_37, eX7_changes_38, eX7_changes_39, eX7_changes_40, Nat.add_zero, Nat.reduceAdd, Nat.reduceLeDiff, Nat.zero_le, and_true, o_aload_0r, o_callV_1, o_callV_2, o_const_e, o_getf_e, o_iast_e, o_icmp_e, o_if_e, o_ii_e, o_iload_1, o_iload_2, o_iload_3, o_ist_3, o_zret_0, o_zret_1, tl_n, tl_s, true_and, xnlv_i, xnlv_n, xnlv_r, xwt_0, xwt_f, xwt_i, xwt_l, xwt_r, h.1.cls, h.1.g0, h.1.g1, h.1.g2, h.1.g3, h.1.g4, h.1.g5, h.1.g6, h.1.g7, h.1.g8, h.1.g9, h.1.g10, h.1.g11, h.1.g12, h.1.g13, h.1.g14, h.1.g15, h.1.g16, h.1.g17, h.1.g18, h.1.g19, h.i0, h.i1, h.i2, h.i3, h.i4, h.i5, h.i6, h.i7, h.i8, h.i9, h.i10, h.j0, h.j1, h.j2, h.j3, h.j4, h.j5, h.j6, h.j7, h.j8, h.j9, h.j10]
  refine d_hund h ok hc hv ?_
  simp only [eX7_changes_0, eX7_changes_1, eX7_changes_2, eX7_changes_3, eX7_changes_6, eX7_changes_7, eX7_changes_8, eX7_changes_11, eX7_changes_12, eX7_changes_14, eX7_changes_17, eX7_changes_18, eX7_changes_20, eX7_changes_23, eX7_changes_24, eX7_changes_27, eX7_changes_28, eX7_changes_29, eX7_changes_30, eX7_changes_33, eX7_changes_35, eX7_changes_36, eX7_changes_37, eX7_changes_38, eX7_changes_39, eX7_changes_40, Nat.add_zero, Nat.reduceAdd, Nat.reduceLeDiff, Nat.zero_le, and_true, o_aload_0r, o_callV_1, o_callV_2, o_const_e, o_getf_e, o_iast_e, o_icmp_e, o_if_e, o_ii_e, o_iload_1, o_iload_2, o_iload_3, o_ist_3, o_zret_0, o_zret_1, tl_n, tl_s, true_and, xnlv_i, xnlv_n, xnlv_r, xwt_0, xwt_f, xwt_i, xwt_l, xwt_r, h.1.cls, h.1.g0, h.1.g1, h.1.g2, h.1.g3, h.1.g4, h.1.g5, h.1.g6, h.1.g7, h.1.g8, h.1.g9, h.1.g10, h.1.g11, h.1.g12, h.1.g13, h.1.g14, h.1.g15, h.1.g16, h.1.g17, h.1.g18, h.1.g19, h.i0, h.i1, h.i2, h.i3, h.i4, h.i5, h.i6, h.i7, h.i8, h.i9, h.i10, h.j0, h.j1, h.j2, h.j3, h.j4, h.j5, h.j6, h.j7, h.j8, h.j9, h.j10, eq0_nI (a := x.ch c v) (by omega), n100, le_nI (a := 100) (b := x.ch c v) (by omega) (by omega), n11, nI_add, h.wm (c := c) (v := v) (by omega)]
  refine ⟨fun g => ?_, fun g => ⟨fun g2 => ?_, fun g2 => ?_⟩⟩
  · rw [if_pos g, h.self] at k
    exact k
  · rw [if_neg g, if_neg (by omega)] at k
    exact k
  · rw [if_neg g, if_pos (by omega)] at k
    refine d_draw h (by decide) (by decide) ?_
    generalize hdv : drV x.se 100 = dv at *
    generalize hds : drS x.se = ds at *
    have h2 := h.put (x.wse ds) r
    simp only [eX7_changes_0, eX7_changes_1, eX7_changes_2, eX7_changes_3, eX7_changes_6, eX7_changes_7, eX7_changes_8, eX7_changes_11, eX7_changes_12, eX7_changes_14, eX7_changes_17, eX7_changes_18, eX7_changes_20, eX7_changes_23, eX7_changes_24, eX7_changes_27, eX7_changes_28, eX7_changes_29, eX7_changes_30, eX7_changes_33, eX7_changes_35, eX7_changes_36, eX7_changes_37, eX7_changes_38, eX7_changes_39, eX7_changes_40, Nat.add_zero, Nat.reduceAdd, Nat.reduceLeDiff, Nat.zero_le, and_true, o_aload_0r, o_callV_1, o_callV_2, o_const_e, o_getf_e, o_iast_e, o_icmp_e, o_if_e, o_ii_e, o_iload_1, o_iload_2, o_iload_3, o_ist_3, o_zret_0, o_zret_1, tl_n, tl_s, true_and, xnlv_i, xnlv_n, xnlv_r, xwt_0, xwt_f, xwt_i, xwt_l, xwt_r, h2.1.cls, h2.1.g0, h2.1.g1, h2.1.g2, h2.1.g3, h2.1.g4, h2.1.g5, h2.1.g6, h2.1.g7, h2.1.g8, h2.1.g9, h2.1.g10, h2.1.g11, h2.1.g12, h2.1.g13, h2.1.g14, h2.1.g15, h2.1.g16, h2.1.g17, h2.1.g18, h2.1.g19, h2.i0, h2.i1, h2.i2, h2.i3, h2.i4, h2.i5, h2.i6, h2.i7, h2.i8, h2.i9, h2.i10, h2.j0, h2.j1, h2.j2, h2.j3, h2.j4, h2.j5, h2.j6, h2.j7, h2.j8, h2.j9, h2.j10, lt_nI (a := dv) (b := x.ch c v) (by omega) (by omega), n11, nI_add, h2.wm (c := c) (v := v) (by omega)]
    refine ⟨fun g3 => ?_, fun g3 => ?_⟩
    · rw [if_neg (by omega)] at k
      rw [modP_modP h.1.lt]
      exact k
    · rw [if_pos (by omega)] at k
      exact k
/-- triesOnce() -/
theorem d_once (h : MoL AH m s x r) (ok : x.ok) {Q : Option Value → xH → Prop} (k : Q (some (.int (nI x.try1.2))) (modP AH m (s.wnw (nF x.try1.1 r)))) : XC MX7_triesOnce [.ref m] AH Q := by
  have hn := sLat.n36 ok
  have hn4 := sLat.n4 ok
  have hnd := sLat.nd8 (x := x)
  have hnd4 := sLat.nd4 (x := x)
  have d1 : drV x.se x.n < x.n := drV_lt (by omega)
  have d2 : drV (drS x.se) x.nd < x.nd := drV_lt (by omega)
  unfold sLat.try1 at k
  generalize hc0 : drV x.se x.n = c0 at *
  generalize hd0 : drV (drS x.se) x.nd = d0 at *
  generalize hs1 : drS x.se = s1 at *
  generalize hs2 : drS s1 = s2 at *
  refine XC.ofR (L := [some (.ref m), none, none]) KX7_triesOnce (by decide +kernel) (by first | decide | exact Nat.le_of_ble_eq_true rfl) rfl ?_
  simp only [eX7_triesOnce_0, eX7_triesOnce_1, eX7_triesOnce_2, eX7_triesOnce_5, eX7_triesOnce_8, eX7_triesOnce_9, eX7_triesOnce_10, eX7_triesOnce_11, eX7_triesOnce_12, eX7_triesOnce_13, eX7_triesOnce_16, eX7_triesOnce_19, eX7_triesOnce_22, eX7_triesOnce_23, eX7_triesOnce_24, eX7_triesOnce_27, eX7_triesOnce_28, eX7_triesOnce_29, eX7_triesOnce_30, eX7_triesOnce_33, eX7_triesOnce_35, eX7_triesOnce_36, eX7_triesOnce_37, eX7_triesOnce_38, eX7_triesOnce_41, eX7_triesOnce_44, eX7_triesOnce_45, eX7_triesOnce_48, eX7_triesOnce_49, Nat.add_zero, Nat.reduceAdd, Nat.reduceLeDiff, Nat.zero_le, and_true, o_aload_0r, o_callV_0, o_callV_1, o_callV_2, o_const_e, o_getf_e, o_goto_e, o_iald_e, o_iald_f, o_if_e, o_ii_e, o_iload_1, o_iload_2, o_ist_1, o_ist_2, o_zret_0, o_zret_1, tl_n, tl_s, true_and, xnlv_i, xnlv_n, xnlv_r, xwt_0, xwt_f, xwt_i, xwt_l, xwt_r, h.1.cls, h.1.g0, h.1.g1, h.1.g2, h.1.g3, h.1.g4, h.1.g5, h.1.g6, h.1.g7, h.1.g8, h.1.g9, h.1.g10, h.1.g11, h.1.g12, h.1.g13, h.1.g14, h.1.g15, h.1.g16, h.1.g17, h.1.g18, h.1.g19, h.i0, h.i1, h.i2, h.i3, h.i4, h.i5, h.i6, h.i7, h.i8, h.i9, h.i10, h.j0, h.j1, h.j2, h.j3, h.j4, h.j5, h.j6, h.j7, h.j8, h.j9, h.j10]
  refine d_cells h ?_
  simp only [eX7_triesOnce_0, eX7_triesOnce_1, eX7_triesOnce_2, eX7_triesOnce_5, eX7_triesOnce_8, eX7_triesOnce_9, eX7_triesOnce_10, eX7_triesOnce_11, eX7_triesOnce_12, eX7_triesOnce_13, eX7_triesOnce_16, eX7_triesOnce_19, eX7_triesOnce_22, eX7_triesOnce_23, eX7_triesOnce_24, eX7_triesOnce_27, eX7_triesOnce_28, eX7_triesOnce_29, eX7_triesOnce_30, eX7_triesOnce_33, eX7_triesOnce_35, eX7_triesOnce_36, eX7_triesOnce_37, eX7_triesOnce_38, eX7_triesOnce_41, eX7_triesOnce_44, eX7_triesOnce_45, eX7_triesOnce_48, eX7_triesOnce_49, Nat.add_zero, Nat.reduceAdd, Nat.reduceLeDiff, Nat.zero_le, and_true, o_aload_0r, o_callV_0, o_callV_1, o_callV_2, o_const_e, o_getf_e, o_goto_e, o_iald_e, o_iald_f, o_if_e, o_ii_e, o_iload_1, o_iload_2, o_ist_1, o_ist_2, o_zret_0, o_zret_1, tl_n, tl_s, true_and, xnlv_i, xnlv_n, xnlv_r, xwt_0, xwt_f, xwt_i, xwt_l, xwt_r, h.1.cls, h.1.g0, h.1.g1, h.1.g2, h.1.g3, h.1.g4, h.1.g5, h.1.g6, h.1.g7, h.1.g8, h.1.g9, h.1.g10, h.1.g11, h.1.g12, h.1.g13, h.1.g14, h.1.g15, h.1.g16, h.1.g17, h.1.g18, h.1.g19, h.i0, h.i1, h.i2, h.i3, h.i4, h.i5, h.i6, h.i7, h.i8, h.i9, h.i10, h.j0, h.j1, h.j2, h.j3, h.j4, h.j5, h.j6, h.j7, h.j8, h.j9, h.j10]
  refine d_draw h (by omega) (by omega) ?_
  rw [hc0, hs1]
  have h2 := h.put (x.wse s1) r
  simp only [eX7_triesOnce_0, eX7_triesOnce_1, eX7_triesOnce_2, eX7_triesOnce_5, eX7_triesOnce_8, eX7_triesOnce_9, eX7_triesOnce_10, eX7_triesOnce_11, eX7_triesOnce_12, eX7_triesOnce_13, eX7_triesOnce_16, eX7_triesOnce_19, eX7_triesOnce_22, eX7_triesOnce_23, eX7_triesOnce_24, eX7_triesOnce_27, eX7_triesOnce_28, eX7_triesOnce_29, eX7_triesOnce_30, eX7_triesOnce_33, eX7_triesOnce_35, eX7_triesOnce_36, eX7_triesOnce_37, eX7_triesOnce_38, eX7_triesOnce_41, eX7_triesOnce_44, eX7_triesOnce_45, eX7_triesOnce_48, eX7_triesOnce_49, Nat.add_zero, Nat.reduceAdd, Nat.reduceLeDiff, Nat.zero_le, and_true, o_aload_0r, o_callV_0, o_callV_1, o_callV_2, o_const_e, o_getf_e, o_goto_e, o_iald_e, o_iald_f, o_if_e, o_ii_e, o_iload_1, o_iload_2, o_ist_1, o_ist_2, o_zret_0, o_zret_1, tl_n, tl_s, true_and, xnlv_i, xnlv_n, xnlv_r, xwt_0, xwt_f, xwt_i, xwt_l, xwt_r, h2.1.cls, h2.1.g0, h2.1.g1, h2.1.g2, h2.1.g3, h2.1.g4, h2.1.g5, h2.1.g6, h2.1.g7, h2.1.g8, h2.1.g9, h2.1.g10, h2.1.g11, h2.1.g12, h2.1.g13, h2.1.g14, h2.1.g15, h2.1.g16, h2.1.g17, h2.1.g18, h2.1.g19, h2.i0, h2.i1, h2.i2, h2.i3, h2.i4, h2.i5, h2.i6, h2.i7, h2.i8, h2.i9, h2.i10, h2.j0, h2.j1, h2.j2, h2.j3, h2.j4, h2.j5, h2.j6, h2.j7, h2.j8, h2.j9, h2.j10]
  refine d_directions h2 (ok_wse ok) ?_
  simp only [eX7_triesOnce_0, eX7_triesOnce_1, eX7_triesOnce_2, eX7_triesOnce_5, eX7_triesOnce_8, eX7_triesOnce_9, eX7_triesOnce_10, eX7_triesOnce_11, eX7_triesOnce_12, eX7_triesOnce_13, eX7_triesOnce_16, eX7_triesOnce_19, eX7_triesOnce_22, eX7_triesOnce_23, eX7_triesOnce_24, eX7_triesOnce_27, eX7_triesOnce_28, eX7_triesOnce_29, eX7_triesOnce_30, eX7_triesOnce_33, eX7_triesOnce_35, eX7_triesOnce_36, eX7_triesOnce_37, eX7_triesOnce_38, eX7_triesOnce_41, eX7_triesOnce_44, eX7_triesOnce_45, eX7_triesOnce_48, eX7_triesOnce_49, Nat.add_zero, Nat.reduceAdd, Nat.reduceLeDiff, Nat.zero_le, and_true, o_aload_0r, o_callV_0, o_callV_1, o_callV_2, o_const_e, o_getf_e, o_goto_e, o_iald_e, o_iald_f, o_if_e, o_ii_e, o_iload_1, o_iload_2, o_ist_1, o_ist_2, o_zret_0, o_zret_1, tl_n, tl_s, true_and, xnlv_i, xnlv_n, xnlv_r, xwt_0, xwt_f, xwt_i, xwt_l, xwt_r, h2.1.cls, h2.1.g0, h2.1.g1, h2.1.g2, h2.1.g3, h2.1.g4, h2.1.g5, h2.1.g6, h2.1.g7, h2.1.g8, h2.1.g9, h2.1.g10, h2.1.g11, h2.1.g12, h2.1.g13, h2.1.g14, h2.1.g15, h2.1.g16, h2.1.g17, h2.1.g18, h2.1.g19, h2.i0, h2.i1, h2.i2, h2.i3, h2.i4, h2.i5, h2.i6, h2.i7, h2.i8, h2.i9, h2.i10, h2.j0, h2.j1, h2.j2, h2.j3, h2.j4, h2.j5, h2.j6, h2.j7, h2.j8, h2.j9, h2.j10, nd_wse]
  refine d_draw h2 (by omega) (by omega) ?_
  rw [modP_modP h.1.lt, se_wse, wse_wse, hs2, hd0]
  have h3 := h.put (x.wse s2) r
  rw [show (s.wnw (nF (x.wse s1) r)).wnw (nF (x.wse s2) r) = s.wnw (nF (x.wse s2) r) from rfl]
  simp only [eX7_triesOnce_0, eX7_triesOnce_1, eX7_triesOnce_2, eX7_triesOnce_5, eX7_triesOnce_8, eX7_triesOnce_9, eX7_triesOnce_10, eX7_triesOnce_11, eX7_triesOnce_12, eX7_triesOnce_13, eX7_triesOnce_16, eX7_triesOnce_19, eX7_triesOnce_22, eX7_triesOnce_23, eX7_triesOnce_24, eX7_triesOnce_27, eX7_triesOnce_28, eX7_triesOnce_29, eX7_triesOnce_30, eX7_triesOnce_33, eX7_triesOnce_35, eX7_triesOnce_36, eX7_triesOnce_37, eX7_triesOnce_38, eX7_triesOnce_41, eX7_triesOnce_44, eX7_triesOnce_45, eX7_triesOnce_48, eX7_triesOnce_49, Nat.add_zero, Nat.reduceAdd, Nat.reduceLeDiff, Nat.zero_le, and_true, o_aload_0r, o_callV_0, o_callV_1, o_callV_2, o_const_e, o_getf_e, o_goto_e, o_iald_e, o_iald_f, o_if_e, o_ii_e, o_iload_1, o_iload_2, o_ist_1, o_ist_2, o_zret_0, o_zret_1, tl_n, tl_s, true_and, xnlv_i, xnlv_n, xnlv_r, xwt_0, xwt_f, xwt_i, xwt_l, xwt_r, h3.1.cls, h3.1.g0, h3.1.g1, h3.1.g2, h3.1.g3, h3.1.g4, h3.1.g5, h3.1.g6, h3.1.g7, h3.1.g8, h3.1.g9, h3.1.g10, h3.1.g11, h3.1.g12, h3.1.g13, h3.1.g14, h3.1.g15, h3.1.g16, h3.1.g17, h3.1.g18, h3.1.g19, h3.i0, h3.i1, h3.i2, h3.i3, h3.i4, h3.i5, h3.i6, h3.i7, h3.i8, h3.i9, h3.i10, h3.j0, h3.j1, h3.j2, h3.j3, h3.j4, h3.j5, h3.j6, h3.j7, h3.j8, h3.j9, h3.j10]
  refine d_beside h3 (ok_wse ok) (by rw [n_wse]; exact d1) (by rw [nd_wse]; exact d2) ?_
  rw [show (x.wse s2).nb c0 d0 = x.nb c0 d0 from rfl]
  cases hb : x.nb c0 d0 with
  | none =>
    simp only [hb] at k
    simp only [eX7_triesOnce_0, eX7_triesOnce_1, eX7_triesOnce_2, eX7_triesOnce_5, eX7_triesOnce_8, eX7_triesOnce_9, eX7_triesOnce_10, eX7_triesOnce_11, eX7_triesOnce_12, eX7_triesOnce_13, eX7_triesOnce_16, eX7_triesOnce_19, eX7_triesOnce_22, eX7_triesOnce_23, eX7_triesOnce_24, eX7_triesOnce_27, eX7_triesOnce_28, eX7_triesOnce_29, eX7_triesOnce_30, eX7_triesOnce_33, eX7_triesOnce_35, eX7_triesOnce_36, eX7_triesOnce_37, eX7_triesOnce_38, eX7_triesOnce_41, eX7_triesOnce_44, eX7_triesOnce_45, eX7_triesOnce_48, eX7_triesOnce_49, Nat.add_zero, Nat.reduceAdd, Nat.reduceLeDiff, Nat.zero_le, and_true, o_aload_0r, o_callV_0, o_callV_1, o_callV_2, o_const_e, o_getf_e, o_goto_e, o_iald_e, o_iald_f, o_if_e, o_ii_e, o_iload_1, o_iload_2, o_ist_1, o_ist_2, o_zret_0, o_zret_1, tl_n, tl_s, true_and, xnlv_i, xnlv_n, xnlv_r, xwt_0, xwt_f, xwt_i, xwt_l, xwt_r, bkV]
    exact ⟨fun _ => k, fun g => absurd (by decide) g⟩
  | some z =>
    simp only [hb] at k
    have hz := sLat.nb_36 ok hb
    simp only [eX7_triesOnce_0, eX7_triesOnce_1, eX7_triesOnce_2, eX7_triesOnce_5, eX7_triesOnce_8, eX7_triesOnce_9, eX7_triesOnce_10, eX7_triesOnce_11, eX7_triesOnce_12, eX7_triesOnce_13, eX7_triesOnce_16, eX7_triesOnce_19, eX7_triesOnce_22, eX7_triesOnce_23, eX7_triesOnce_24, eX7_triesOnce_27, eX7_triesOnce_28, eX7_triesOnce_29, eX7_triesOnce_30, eX7_triesOnce_33, eX7_triesOnce_35, eX7_triesOnce_36, eX7_triesOnce_37, eX7_triesOnce_38, eX7_triesOnce_41, eX7_triesOnce_44, eX7_triesOnce_45, eX7_triesOnce_48, eX7_triesOnce_49, Nat.add_zero, Nat.reduceAdd, Nat.reduceLeDiff, Nat.zero_le, and_true, o_aload_0r, o_callV_0, o_callV_1, o_callV_2, o_const_e, o_getf_e, o_goto_e, o_iald_e, o_iald_f, o_if_e, o_ii_e, o_iload_1, o_iload_2, o_ist_1, o_ist_2, o_zret_0, o_zret_1, tl_n, tl_s, true_and, xnlv_i, xnlv_n, xnlv_r, xwt_0, xwt_f, xwt_i, xwt_l, xwt_r, bkV, lt0_nI (a := z) (by omega), not_true_eq_false, not_false_eq_true, true_implies, false_implies, and_true, true_and, implies_true, forall_const, ↓reduceIte, Bool.false_eq_true, i10, i10n, h3.1.cls, h3.1.g0, h3.1.g1, h3.1.g2, h3.1.g3, h3.1.g4, h3.1.g5, h3.1.g6, h3.1.g7, h3.1.g8, h3.1.g9, h3.1.g10, h3.1.g11, h3.1.g12, h3.1.g13, h3.1.g14, h3.1.g15, h3.1.g16, h3.1.g17, h3.1.g18, h3.1.g19, h3.i0, h3.i1, h3.i2, h3.i3, h3.i4, h3.i5, h3.i6, h3.i7, h3.i8, h3.i9, h3.i10, h3.j0, h3.j1, h3.j2, h3.j3, h3.j4, h3.j5, h3.j6, h3.j7, h3.j8, h3.j9, h3.j10, n11, nI_add, h3.rm hz]
    refine d_changes h3 (ok_wse ok) (by rw [n_wse]; exact d1) (ok.1 z) ?_
    rw [modP_modP h.1.lt]
    have hle := at1_le (x := x.wse s2) (c := c0) (v := x.mk z)
    have e : ((x.wse s2).at1 c0 (x.mk z)).2 = 0 ∨ ((x.wse s2).at1 c0 (x.mk z)).2 = 1 := by omega
    simp only [eX7_triesOnce_0, eX7_triesOnce_1, eX7_triesOnce_2, eX7_triesOnce_5, eX7_triesOnce_8, eX7_triesOnce_9, eX7_triesOnce_10, eX7_triesOnce_11, eX7_triesOnce_12, eX7_triesOnce_13, eX7_triesOnce_16, eX7_triesOnce_19, eX7_triesOnce_22, eX7_triesOnce_23, eX7_triesOnce_24, eX7_triesOnce_27, eX7_triesOnce_28, eX7_triesOnce_29, eX7_triesOnce_30, eX7_triesOnce_33, eX7_triesOnce_35, eX7_triesOnce_36, eX7_triesOnce_37, eX7_triesOnce_38, eX7_triesOnce_41, eX7_triesOnce_44, eX7_triesOnce_45, eX7_triesOnce_48, eX7_triesOnce_49, Nat.add_zero, Nat.reduceAdd, Nat.reduceLeDiff, Nat.zero_le, and_true, o_aload_0r, o_callV_0, o_callV_1, o_callV_2, o_const_e, o_getf_e, o_goto_e, o_iald_e, o_iald_f, o_if_e, o_ii_e, o_iload_1, o_iload_2, o_ist_1, o_ist_2, o_zret_0, o_zret_1, tl_n, tl_s, true_and, xnlv_i, xnlv_n, xnlv_r, xwt_0, xwt_f, xwt_i, xwt_l, xwt_r]
    rcases e with e | e <;> rw [e] at k ⊢
    · exact ⟨fun _ => k, fun g => absurd rfl g⟩
    · exact ⟨fun g => absurd g (by decide), fun _ => k⟩
/-- triesMany(n) -/
theorem k_many (h : MoL AH m s x r) (ok : x.ok) {n : Nat} (hnn : n ≤ 200) {Q : xQ} (k : Q (some (.int (nI (x.trN n).2))) (modP AH m (s.wnw (nF (x.trN n).1 r))) (0, 0)) : ∀ (p j : Nat), j + p = n →
    XR TX7_triesMany 4 [some (.ref m), some (.int (nI n)), some (.int (nI (x.trN j).2)), some (.int (nI j))] [] (modP AH m (s.wnw (nF (x.trN j).1 r))) (0, 0) Q := by
  intro p
  induction p with
  | zero =>
    intro j hj
    rw [eX7_triesMany_4]
    simp only [eX7_triesMany_0, eX7_triesMany_1, eX7_triesMany_2, eX7_triesMany_3, eX7_triesMany_5, eX7_triesMany_6, eX7_triesMany_9, eX7_triesMany_10, eX7_triesMany_11, eX7_triesMany_14, eX7_triesMany_17, eX7_triesMany_18, eX7_triesMany_21, eX7_triesMany_22, eX7_triesMany_23, eX7_triesMany_24, eX7_triesMany_27, eX7_triesMany_30, eX7_triesMany_31, Nat.add_zero, Nat.reduceAdd, Nat.reduceLeDiff, Nat.zero_le, and_true, o_aload_0r, o_callV_0, o_const_e, o_goto_e, o_icmp_e, o_if_e, o_ii_e, o_iinc_3, o_iload_1, o_iload_2, o_iload_3, o_iret_e, o_ist_2, o_ist_3, tl_n, tl_s, true_and, xnlv_i, xnlv_n, xnlv_r, xwt_0, xwt_f, xwt_i, xwt_l, xwt_r, le_nI (a := n) (b := j) (by omega) (by omega)]
    refine ⟨fun _ => ?_, fun g => by omega⟩
    rw [show j = n by omega]
    exact k
  | succ p ih =>
    intro j hj
    have hj1 := h.put (x.trN j).1 r
    have okj : (x.trN j).1.ok := trN_ok ok j
    have hlj := trN_le (x := x) j
    have := ih (j + 1) (by omega)
    rw [trN_s] at this
    dsimp only at this
    have hle := try1_le (x := (x.trN j).1)
    rw [eX7_triesMany_4]
    simp only [eX7_triesMany_0, eX7_triesMany_1, eX7_triesMany_2, eX7_triesMany_3, eX7_triesMany_5, eX7_triesMany_6, eX7_triesMany_9, eX7_triesMany_10, eX7_triesMany_11, eX7_triesMany_14, eX7_triesMany_17, eX7_triesMany_18, eX7_triesMany_21, eX7_triesMany_22, eX7_triesMany_23, eX7_triesMany_24, eX7_triesMany_27, eX7_triesMany_30, eX7_triesMany_31, Nat.add_zero, Nat.reduceAdd, Nat.reduceLeDiff, Nat.zero_le, and_true, o_aload_0r, o_callV_0, o_const_e, o_goto_e, o_icmp_e, o_if_e, o_ii_e, o_iinc_3, o_iload_1, o_iload_2, o_iload_3, o_iret_e, o_ist_2, o_ist_3, tl_n, tl_s, true_and, xnlv_i, xnlv_n, xnlv_r, xwt_0, xwt_f, xwt_i, xwt_l, xwt_r, le_nI (a := n) (b := j) (by omega) (by omega), hj1.1.cls, hj1.1.g0, hj1.1.g1, hj1.1.g2, hj1.1.g3, hj1.1.g4, hj1.1.g5, hj1.1.g6, hj1.1.g7, hj1.1.g8, hj1.1.g9, hj1.1.g10, hj1.1.g11, hj1.1.g12, hj1.1.g13, hj1.1.g14, hj1.1.g15, hj1.1.g16, hj1.1.g17, hj1.1.g18, hj1.1.g19, hj1.i0, hj1.i1, hj1.i2, hj1.i3, hj1.i4, hj1.i5, hj1.i6, hj1.i7, hj1.i8, hj1.i9, hj1.i10, hj1.j0, hj1.j1, hj1.j2, hj1.j3, hj1.j4, hj1.j5, hj1.j6, hj1.j7, hj1.j8, hj1.j9, hj1.j10]
    refine ⟨fun g => by omega, fun _ => d_once hj1 okj ?_⟩
    rw [modP_modP h.1.lt, show (s.wnw (nF (x.trN j).1 r)).wnw (nF (x.trN j).1.try1.1 r) = s.wnw (nF (x.trN j).1.try1.1 r) from rfl]
    simp only [eX7_triesMany_0, eX7_triesMany_1, eX7_triesMany_2, eX7_triesMany_3, eX7_triesMany_5, eX7_triesMany_6, eX7_triesMany_9, eX7_triesMany_10, eX7_triesMany_11, eX7_triesMany_14, eX7_triesMany_17, eX7_triesMany_18, eX7_triesMany_21, eX7_triesMany_22, eX7_triesMany_23, eX7_triesMany_24, eX7_triesMany_27, eX7_triesMany_30, eX7_triesMany_31, Nat.add_zero, Nat.reduceAdd, Nat.reduceLeDiff, Nat.zero_le, and_true, o_aload_0r, o_callV_0, o_const_e, o_goto_e, o_icmp_e, o_if_e, o_ii_e, o_iinc_3, o_iload_1, o_iload_2, o_iload_3, o_iret_e, o_ist_2, o_ist_3, tl_n, tl_s, true_and, xnlv_i, xnlv_n, xnlv_r, xwt_0, xwt_f, xwt_i, xwt_l, xwt_r, n1, nI_add]
    rcases (show (x.trN j).1.try1.2 = 0 ∨ (x.trN j).1.try1.2 = 1 by omega) with e | e <;> rw [e] at this ⊢
    · refine ⟨fun _ => ?_, fun g => absurd rfl g⟩
      rw [z_nI, nI_add]
      exact this
    · exact ⟨fun g => absurd g (by decide), fun _ => this⟩
theorem d_many (h : MoL AH m s x r) (ok : x.ok) {n : Nat} (hnn : n ≤ 200) {Q : Option Value → xH → Prop} (k : Q (some (.int (nI (x.trN n).2))) (modP AH m (s.wnw (nF (x.trN n).1 r)))) : XC MX7_triesMany [.ref m, .int (nI n)] AH Q := by
  refine XC.ofR (L := [some (.ref m), some (.int (nI n)), none, none]) KX7_triesMany (by decide +kernel) (by first | decide | exact Nat.le_of_ble_eq_true rfl) rfl ?_
  simp only [eX7_triesMany_0, eX7_triesMany_1, eX7_triesMany_2, eX7_triesMany_3, eX7_triesMany_5, eX7_triesMany_6, eX7_triesMany_9, eX7_triesMany_10, eX7_triesMany_11, eX7_triesMany_14, eX7_triesMany_17, eX7_triesMany_18, eX7_triesMany_21, eX7_triesMany_22, eX7_triesMany_23, eX7_triesMany_24, eX7_triesMany_27, eX7_triesMany_30, eX7_triesMany_31, Nat.add_zero, Nat.reduceAdd, Nat.reduceLeDiff, Nat.zero_le, and_true, o_aload_0r, o_callV_0, o_const_e, o_goto_e, o_icmp_e, o_if_e, o_ii_e, o_iinc_3, o_iload_1, o_iload_2, o_iload_3, o_iret_e, o_ist_2, o_ist_3, tl_n, tl_s, true_and, xnlv_i, xnlv_n, xnlv_r, xwt_0, xwt_f, xwt_i, xwt_l, xwt_r]
  have := k_many h ok hnn (Q := fun v AH' _ => Q v AH') k n 0 (by omega)
  rw [show (x.trN 0).1 = x from rfl, h.self] at this
  exact this
end MOD2
