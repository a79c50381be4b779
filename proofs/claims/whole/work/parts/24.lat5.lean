/-! links and prices are laid anew -/
theorem st_x {x : sLat} (ok : x.ok) {c s : Nat} (hc : c < x.n) (hs : s < 8) : stI x.hi x.wi x.ed (c / x.wi) (c % x.wi) s = lkV (nbF x.hi x.wi x.ed c s) := by
  have h1 := ok.2.2.1
  have h2 := ok.2.2.2.1
  have h3 := ok.2.2.2.2.2.2.1
  have hr : c / x.wi < x.hi := Nat.div_lt_of_lt_mul (by rw [Nat.mul_comm]; exact hc)
  have hq : c % x.wi < x.wi := Nat.mod_lt _ (by omega)
  have := st_t (x.hi - 2) (by omega) (x.wi - 2) (by omega) x.ed (by omega) (c / x.wi) (by omega) (c % x.wi) (by omega) s hs
  rw [show x.hi - 2 + 2 = x.hi by omega, show x.wi - 2 + 2 = x.wi by omega] at this
  rw [this, Nat.div_add_mod']
theorem rem3 {a d : Nat} : nI a - nI (a / d * d) = nI (a % d) := by
  rw [pk_sub (Nat.div_mul_le_self a d)]
  congr 1
  have := Nat.div_add_mod' a d
  omega
theorem rem2 {a d : Nat} : nI a - nI (a / d) * nI d = nI (a % d) := by rw [pk_mul, rem3]
section LAT5
variable {AH : xH} {b : Nat} {x : sLat} {lk pr : Nat → Int32}
/-- Lattice.stepFrom(c, row step, column step) -/
theorem c_stepFrom (h : LatAt AH b x lk pr) (ok : x.ok) {c s : Nat} (hc : c < x.n) (hs : s < 8) {Q : Option Value → xH → Prop} (k : Q (some (.int (lkV (nbF x.hi x.wi x.ed c s)))) AH) : XC MX1_stepFrom [.ref b, .int (nI c), .int (rsI s), .int (csI s)] AH Q := by
  have hn := sLat.n36 ok
  have h1 := ok.2.2.1
  have h2 := ok.2.2.2.1
  have h3 := ok.2.2.2.2.2.2.1
  rw [← st_x ok hc hs] at k
  unfold stI at k
  refine XC.ofR (L := [some (.ref b), some (.int (nI c)), some (.int (rsI s)), some (.int (csI s)), none, none, none, none]) KX1_stepFrom (by decide +kernel) (by first | decide | exact Nat.le_of_ble_eq_true rfl) rfl ?_
  simp only [eX1_stepFrom_0, eX1_stepFrom_1, eX1_stepFrom_2, eX1_stepFrom_5, eX1_stepFrom_6, eX1_stepFrom_7, eX1_stepFrom_8, eX1_stepFrom_10, eX1_stepFrom_11, eX1_stepFrom_12, eX1_stepFrom_15, eX1_stepFrom_16, eX1_stepFrom_17, eX1_stepFrom_18, eX1_stepFrom_20, eX1_stepFrom_22, eX1_stepFrom_25, eX1_stepFrom_27, eX1_stepFrom_28, eX1_stepFrom_31, eX1_stepFrom_34, eX1_stepFrom_35, eX1_stepFrom_38, eX1_stepFrom_39, eX1_stepFrom_41, eX1_stepFrom_43, eX1_stepFrom_46, eX1_stepFrom_48, eX1_stepFrom_49, eX1_stepFrom_52, eX1_stepFrom_55, eX1_stepFrom_56, eX1_stepFrom_59, eX1_stepFrom_60, eX1_stepFrom_62, eX1_stepFrom_63, eX1_stepFrom_66, eX1_stepFrom_69, eX1_stepFrom_71, eX1_stepFrom_74, eX1_stepFrom_76, eX1_stepFrom_79, eX1_stepFrom_81, eX1_stepFrom_82, eX1_stepFrom_83, eX1_stepFrom_86, eX1_stepFrom_87, eX1_stepFrom_90, eX1_stepFrom_92, eX1_stepFrom_95, eX1_stepFrom_97, eX1_stepFrom_98, eX1_stepFrom_99, eX1_stepFrom_103, eX1_stepFrom_104, eX1_stepFrom_107, eX1_stepFrom_110, eX1_stepFrom_111, eX1_stepFrom_114, eX1_stepFrom_115, eX1_stepFrom_117, eX1_stepFrom_118, eX1_stepFrom_121, eX1_stepFrom_124, eX1_stepFrom_125, Nat.add_zero, Nat.reduceAdd, Nat.reduceLeDiff, Nat.zero_le, and_true, o_aload_0r, o_callS_2, o_const_e, o_getf_e, o_goto_e, o_icmp_e, o_idiv_e, o_if_e, o_ii_e, o_iload_1, o_iload_2, o_iload_3, o_iload_4, o_iload_5, o_iload_6, o_iload_7, o_irem_e, o_iret_e, o_ist_4, o_ist_5, o_ist_6, o_ist_7, tl_n, tl_s, true_and, xnlv_i, xnlv_n, xnlv_r, xwt_0, xwt_f, xwt_i, xwt_l, xwt_r, h.cls, h.g0, h.g1, h.g2, h.g3, h.g4, h.g5, h.g6, h.g7, h.g8, h.g9, h.g10, h.g11, pk_div (a := c) (d := x.wi) (by omega) (by omega) (by omega), rem2, eq0_nI (a := x.wi) (by omega), eq0_nI (a := x.ed) (by omega), n2, eq_nI (a := x.ed) (b := 2) (by omega) (by omega), i10]
  have hw0 : ¬ x.wi = 0 := by omega
  have zh : ¬ nI x.hi = 0 := by rw [eq0_nI (by omega)]; omega
  have zw : ¬ nI x.wi = 0 := by rw [eq0_nI (by omega)]; omega
  refine ⟨hw0, hw0, ?_⟩
  generalize nI (c / x.wi) + rsI s = row at *
  generalize nI (c % x.wi) + csI s = col at *
  have fin : ∀ row2 : Int32, Q (some (.int (fmI row2 (nI x.hi) * nI x.wi + fmI col (nI x.wi)))) AH → ∀ w6 w7 : Int32, XR TX1_stepFrom 101 [some (.ref b), some (.int (nI c)), some (.int (rsI s)), some (.int (csI s)), some (.int row2), some (.int col), some (.int w6), some (.int w7)] [] AH (0, 0) (fun v AH' _ => Q v AH') := by
    intro row2 kk w6 w7
    simp only [eX1_stepFrom_0, eX1_stepFrom_1, eX1_stepFrom_2, eX1_stepFrom_5, eX1_stepFrom_6, eX1_stepFrom_7, eX1_stepFrom_8, eX1_stepFrom_10, eX1_stepFrom_11, eX1_stepFrom_12, eX1_stepFrom_15, eX1_stepFrom_16, eX1_stepFrom_17, eX1_stepFrom_18, eX1_stepFrom_20, eX1_stepFrom_22, eX1_stepFrom_25, eX1_stepFrom_27, eX1_stepFrom_28, eX1_stepFrom_31, eX1_stepFrom_34, eX1_stepFrom_35, eX1_stepFrom_38, eX1_stepFrom_39, eX1_stepFrom_41, eX1_stepFrom_43, eX1_stepFrom_46, eX1_stepFrom_48, eX1_stepFrom_49, eX1_stepFrom_52, eX1_stepFrom_55, eX1_stepFrom_56, eX1_stepFrom_59, eX1_stepFrom_60, eX1_stepFrom_62, eX1_stepFrom_63, eX1_stepFrom_66, eX1_stepFrom_69, eX1_stepFrom_71, eX1_stepFrom_74, eX1_stepFrom_76, eX1_stepFrom_79, eX1_stepFrom_81, eX1_stepFrom_82, eX1_stepFrom_83, eX1_stepFrom_86, eX1_stepFrom_87, eX1_stepFrom_90, eX1_stepFrom_92, eX1_stepFrom_95, eX1_stepFrom_97, eX1_stepFrom_98, eX1_stepFrom_99, eX1_stepFrom_101, eX1_stepFrom_103, eX1_stepFrom_104, eX1_stepFrom_107, eX1_stepFrom_110, eX1_stepFrom_111, eX1_stepFrom_114, eX1_stepFrom_115, eX1_stepFrom_117, eX1_stepFrom_118, eX1_stepFrom_121, eX1_stepFrom_124, eX1_stepFrom_125, Nat.add_zero, Nat.reduceAdd, Nat.reduceLeDiff, Nat.zero_le, and_true, o_aload_0r, o_callS_2, o_const_e, o_getf_e, o_goto_e, o_icmp_e, o_idiv_e, o_if_e, o_ii_e, o_iload_1, o_iload_2, o_iload_3, o_iload_4, o_iload_5, o_iload_6, o_iload_7, o_irem_e, o_iret_e, o_ist_4, o_ist_5, o_ist_6, o_ist_7, tl_n, tl_s, true_and, xnlv_i, xnlv_n, xnlv_r, xwt_0, xwt_f, xwt_i, xwt_l, xwt_r, h.cls, h.g0, h.g1, h.g2, h.g3, h.g4, h.g5, h.g6, h.g7, h.g8, h.g9, h.g10, h.g11]
    refine c_floorMod zh ?_
    simp only [eX1_stepFrom_0, eX1_stepFrom_1, eX1_stepFrom_2, eX1_stepFrom_5, eX1_stepFrom_6, eX1_stepFrom_7, eX1_stepFrom_8, eX1_stepFrom_10, eX1_stepFrom_11, eX1_stepFrom_12, eX1_stepFrom_15, eX1_stepFrom_16, eX1_stepFrom_17, eX1_stepFrom_18, eX1_stepFrom_20, eX1_stepFrom_22, eX1_stepFrom_25, eX1_stepFrom_27, eX1_stepFrom_28, eX1_stepFrom_31, eX1_stepFrom_34, eX1_stepFrom_35, eX1_stepFrom_38, eX1_stepFrom_39, eX1_stepFrom_41, eX1_stepFrom_43, eX1_stepFrom_46, eX1_stepFrom_48, eX1_stepFrom_49, eX1_stepFrom_52, eX1_stepFrom_55, eX1_stepFrom_56, eX1_stepFrom_59, eX1_stepFrom_60, eX1_stepFrom_62, eX1_stepFrom_63, eX1_stepFrom_66, eX1_stepFrom_69, eX1_stepFrom_71, eX1_stepFrom_74, eX1_stepFrom_76, eX1_stepFrom_79, eX1_stepFrom_81, eX1_stepFrom_82, eX1_stepFrom_83, eX1_stepFrom_86, eX1_stepFrom_87, eX1_stepFrom_90, eX1_stepFrom_92, eX1_stepFrom_95, eX1_stepFrom_97, eX1_stepFrom_98, eX1_stepFrom_99, eX1_stepFrom_101, eX1_stepFrom_103, eX1_stepFrom_104, eX1_stepFrom_107, eX1_stepFrom_110, eX1_stepFrom_111, eX1_stepFrom_114, eX1_stepFrom_115, eX1_stepFrom_117, eX1_stepFrom_118, eX1_stepFrom_121, eX1_stepFrom_124, eX1_stepFrom_125, Nat.add_zero, Nat.reduceAdd, Nat.reduceLeDiff, Nat.zero_le, and_true, o_aload_0r, o_callS_2, o_const_e, o_getf_e, o_goto_e, o_icmp_e, o_idiv_e, o_if_e, o_ii_e, o_iload_1, o_iload_2, o_iload_3, o_iload_4, o_iload_5, o_iload_6, o_iload_7, o_irem_e, o_iret_e, o_ist_4, o_ist_5, o_ist_6, o_ist_7, tl_n, tl_s, true_and, xnlv_i, xnlv_n, xnlv_r, xwt_0, xwt_f, xwt_i, xwt_l, xwt_r, h.cls, h.g0, h.g1, h.g2, h.g3, h.g4, h.g5, h.g6, h.g7, h.g8, h.g9, h.g10, h.g11]
    refine c_floorMod zw ?_
    simp only [eX1_stepFrom_0, eX1_stepFrom_1, eX1_stepFrom_2, eX1_stepFrom_5, eX1_stepFrom_6, eX1_stepFrom_7, eX1_stepFrom_8, eX1_stepFrom_10, eX1_stepFrom_11, eX1_stepFrom_12, eX1_stepFrom_15, eX1_stepFrom_16, eX1_stepFrom_17, eX1_stepFrom_18, eX1_stepFrom_20, eX1_stepFrom_22, eX1_stepFrom_25, eX1_stepFrom_27, eX1_stepFrom_28, eX1_stepFrom_31, eX1_stepFrom_34, eX1_stepFrom_35, eX1_stepFrom_38, eX1_stepFrom_39, eX1_stepFrom_41, eX1_stepFrom_43, eX1_stepFrom_46, eX1_stepFrom_48, eX1_stepFrom_49, eX1_stepFrom_52, eX1_stepFrom_55, eX1_stepFrom_56, eX1_stepFrom_59, eX1_stepFrom_60, eX1_stepFrom_62, eX1_stepFrom_63, eX1_stepFrom_66, eX1_stepFrom_69, eX1_stepFrom_71, eX1_stepFrom_74, eX1_stepFrom_76, eX1_stepFrom_79, eX1_stepFrom_81, eX1_stepFrom_82, eX1_stepFrom_83, eX1_stepFrom_86, eX1_stepFrom_87, eX1_stepFrom_90, eX1_stepFrom_92, eX1_stepFrom_95, eX1_stepFrom_97, eX1_stepFrom_98, eX1_stepFrom_99, eX1_stepFrom_101, eX1_stepFrom_103, eX1_stepFrom_104, eX1_stepFrom_107, eX1_stepFrom_110, eX1_stepFrom_111, eX1_stepFrom_114, eX1_stepFrom_115, eX1_stepFrom_117, eX1_stepFrom_118, eX1_stepFrom_121, eX1_stepFrom_124, eX1_stepFrom_125, Nat.add_zero, Nat.reduceAdd, Nat.reduceLeDiff, Nat.zero_le, and_true, o_aload_0r, o_callS_2, o_const_e, o_getf_e, o_goto_e, o_icmp_e, o_idiv_e, o_if_e, o_ii_e, o_iload_1, o_iload_2, o_iload_3, o_iload_4, o_iload_5, o_iload_6, o_iload_7, o_irem_e, o_iret_e, o_ist_4, o_ist_5, o_ist_6, o_ist_7, tl_n, tl_s, true_and, xnlv_i, xnlv_n, xnlv_r, xwt_0, xwt_f, xwt_i, xwt_l, xwt_r, h.cls, h.g0, h.g1, h.g2, h.g3, h.g4, h.g5, h.g6, h.g7, h.g8, h.g9, h.g10, h.g11]
    exact kk
  have hed : x.ed = 0 ∨ x.ed = 1 ∨ x.ed = 2 := by omega
  rcases hed with e | e | e <;> by_cases a1 : row < 0 <;> by_cases a2 : row < nI x.hi <;> by_cases a3 : col < 0 <;> by_cases a4 : col < nI x.wi <;> simp only [e, a1, a2, a3, a4, not_true_eq_false, not_false_eq_true, true_implies, false_implies, and_true, true_and, implies_true, forall_const, or_true, true_or, or_false, false_or, or_self, and_self, and_false, false_and, ↓reduceIte, Nat.reduceEqDiff, Nat.succ_ne_zero, Nat.one_ne_zero, reduceCtorEq] at k ⊢ <;> first | exact k | exact fin _ k _ _
theorem stp_lt {x : sLat} {d : Nat} (hd : d < x.nd) : stp x.ne d < 8 := by
  unfold stp
  have h8 := sLat.nd8 (x := x)
  split
  · rename_i e
    have : x.nd = 6 := by unfold sLat.nd; rw [e]; rfl
    rcases (show d = 0 ∨ d = 1 ∨ d = 2 ∨ d = 3 ∨ d = 4 ∨ d = 5 by omega) with rfl | rfl | rfl | rfl | rfl | rfl <;> decide
  · omega
theorem sld_0 {d : Nat} (hd : d < 6) {K : Int32 → Prop} : xsld 0 (nI d) K = K (nI (stp 2 d)) := by
  show (vp_in (nI d) 6 ∧ K _) = _
  rw [eq_true (vp_in_nI hd (by decide)), true_and]
  rcases (show d = 0 ∨ d = 1 ∨ d = 2 ∨ d = 3 ∨ d = 4 ∨ d = 5 by omega) with rfl | rfl | rfl | rfl | rfl | rfl <;> rfl
theorem sld_1 {d : Nat} (hd : d < 8) {K : Int32 → Prop} : xsld 1 (nI d) K = K (rsI d) := by
  show (vp_in (nI d) 8 ∧ K _) = _
  rw [eq_true (vp_in_nI hd (by decide)), true_and]
  rcases (show d = 0 ∨ d = 1 ∨ d = 2 ∨ d = 3 ∨ d = 4 ∨ d = 5 ∨ d = 6 ∨ d = 7 by omega) with rfl | rfl | rfl | rfl | rfl | rfl | rfl | rfl <;> rfl
theorem sld_2 {d : Nat} (hd : d < 8) {K : Int32 → Prop} : xsld 2 (nI d) K = K (csI d) := by
  show (vp_in (nI d) 8 ∧ K _) = _
  rw [eq_true (vp_in_nI hd (by decide)), true_and]
  rcases (show d = 0 ∨ d = 1 ∨ d = 2 ∨ d = 3 ∨ d = 4 ∨ d = 5 ∨ d = 6 ∨ d = 7 by omega) with rfl | rfl | rfl | rfl | rfl | rfl | rfl | rfl <;> rfl
/-- links so far -/
def LkTo (x : sLat) (c j : Nat) (lk : Nat → Int32) : Prop := ∀ c' d, (c' < c ∨ (c' = c ∧ d < j)) → d < x.nd → lk (c' * 8 + d) = lkV (x.nb c' d)
theorem LkTo.put {x : sLat} {c j : Nat} {lk : Nat → Int32} (h : LkTo x c j lk) : LkTo x c (j + 1) (upd lk (c * 8 + j) (lkV (x.nb c j))) := by
  intro c' d hcd hd
  have h8 := sLat.nd8 (x := x)
  unfold upd
  split
  · rename_i e
    by_cases ec : c' = c
    · subst ec; rw [show d = j by omega]
    · exfalso
      have : j < 8 ∨ 8 ≤ j := by omega
      rcases hcd with hcd | hcd
      · have : c' + 1 ≤ c := hcd
        omega
      · exact ec hcd.1
  · rename_i e
    refine h c' d ?_ hd
    rcases hcd with hcd | ⟨rfl, hcd⟩
    · exact Or.inl hcd
    · rcases Nat.lt_or_ge d j with g | g
      · exact Or.inr ⟨rfl, g⟩
      · exact absurd (by rw [show d = j by omega]) e
theorem LkTo.row {x : sLat} {c : Nat} {lk : Nat → Int32} (h : LkTo x c x.nd lk) : LkTo x (c + 1) 0 lk := by
  intro c' d hcd hd
  rcases hcd with hcd | hcd
  · rcases Nat.lt_or_ge c' c with g | g
    · exact h c' d (Or.inl g) hd
    · exact h c' d (Or.inr ⟨by omega, hd⟩) hd
  · omega
theorem l_link1 (h : LatAt AH b x lk pr) (ok : x.ok) {c : Nat} (hc : c < x.n) {Q : xQ} (k : ∀ (lk' : Nat → Int32) (w : Option Value), LkTo x c x.nd lk' → XR TX1_linkCells 70 [some (.ref b), some (.int (nI c)), some (.int (nI x.nd)), w] [] (latP AH b x lk' pr) (0, 0) Q) : ∀ (m j : Nat), j + m = x.nd → ∀ (lk' : Nat → Int32) (w : Option Value), LkTo x c j lk' →
    XR TX1_linkCells 12 [some (.ref b), some (.int (nI c)), some (.int (nI j)), w] [] (latP AH b x lk' pr) (0, 0) Q := by
  have hn := sLat.n36 ok
  have hnd := sLat.nd8 (x := x)
  have hne := ok.2.2.2.2.2.1
  intro m
  induction m with
  | zero =>
    intro j hj lk' w hl
    have h' := h.put x lk' pr
    rw [eX1_linkCells_12]
    simp only [eX1_linkCells_0, eX1_linkCells_1, eX1_linkCells_2, eX1_linkCells_3, eX1_linkCells_4, eX1_linkCells_7, eX1_linkCells_10, eX1_linkCells_11, eX1_linkCells_13, eX1_linkCells_14, eX1_linkCells_17, eX1_linkCells_20, eX1_linkCells_21, eX1_linkCells_24, eX1_linkCells_25, eX1_linkCells_28, eX1_linkCells_31, eX1_linkCells_32, eX1_linkCells_33, eX1_linkCells_36, eX1_linkCells_37, eX1_linkCells_38, eX1_linkCells_39, eX1_linkCells_42, eX1_linkCells_43, eX1_linkCells_45, eX1_linkCells_46, eX1_linkCells_47, eX1_linkCells_48, eX1_linkCells_49, eX1_linkCells_50, eX1_linkCells_53, eX1_linkCells_54, eX1_linkCells_55, eX1_linkCells_58, eX1_linkCells_59, eX1_linkCells_60, eX1_linkCells_63, eX1_linkCells_64, eX1_linkCells_67, eX1_linkCells_73, eX1_linkCells_76, Nat.add_zero, Nat.reduceAdd, Nat.reduceLeDiff, Nat.zero_le, and_true, o_aload_0r, o_callV_0, o_callV_3, o_const_e, o_getf_e, o_gets_e, o_goto_e, o_iald_e, o_iald_f, o_iast_e, o_icmp_e, o_ii_e, o_iinc_1, o_iinc_2, o_iload_1, o_iload_2, o_iload_3, o_ist_1, o_ist_2, o_ist_3, o_vret_e, tl_n, tl_s, true_and, xnlv_i, xnlv_n, xnlv_r, xwt_0, xwt_f, xwt_i, xwt_l, xwt_r, h'.cls, h'.g0, h'.g1, h'.g2, h'.g3, h'.g4, h'.g5, h'.g6, h'.g7, h'.g8, h'.g9, h'.g10, h'.g11]
    refine c_directions h' ok ?_
    simp only [eX1_linkCells_0, eX1_linkCells_1, eX1_linkCells_2, eX1_linkCells_3, eX1_linkCells_4, eX1_linkCells_7, eX1_linkCells_10, eX1_linkCells_11, eX1_linkCells_13, eX1_linkCells_14, eX1_linkCells_17, eX1_linkCells_20, eX1_linkCells_21, eX1_linkCells_24, eX1_linkCells_25, eX1_linkCells_28, eX1_linkCells_31, eX1_linkCells_32, eX1_linkCells_33, eX1_linkCells_36, eX1_linkCells_37, eX1_linkCells_38, eX1_linkCells_39, eX1_linkCells_42, eX1_linkCells_43, eX1_linkCells_45, eX1_linkCells_46, eX1_linkCells_47, eX1_linkCells_48, eX1_linkCells_49, eX1_linkCells_50, eX1_linkCells_53, eX1_linkCells_54, eX1_linkCells_55, eX1_linkCells_58, eX1_linkCells_59, eX1_linkCells_60, eX1_linkCells_63, eX1_linkCells_64, eX1_linkCells_67, eX1_linkCells_73, eX1_linkCells_76, Nat.add_zero, Nat.reduceAdd, Nat.reduceLeDiff, Nat.zero_le, and_true, o_aload_0r, o_callV_0, o_callV_3, o_const_e, o_getf_e, o_gets_e, o_goto_e, o_iald_e, o_iald_f, o_iast_e, o_icmp_e, o_ii_e, o_iinc_1, o_iinc_2, o_iload_1, o_iload_2, o_iload_3, o_ist_1, o_ist_2, o_ist_3, o_vret_e, tl_n, tl_s, true_and, xnlv_i, xnlv_n, xnlv_r, xwt_0, xwt_f, xwt_i, xwt_l, xwt_r, h'.cls, h'.g0, h'.g1, h'.g2, h'.g3, h'.g4, h'.g5, h'.g6, h'.g7, h'.g8, h'.g9, h'.g10, h'.g11, le_nI (a := x.nd) (b := j) (by omega) (by omega)]
    refine ⟨fun _ => ?_, fun g => by omega⟩
    have e : j = x.nd := by omega
    subst e
    exact k lk' w hl
  | succ m ih =>
    intro j hj lk' w hl
    have h' := h.put x lk' pr
    have hj8 : j < 8 := by omega
    rw [eX1_linkCells_12]
    simp only [eX1_linkCells_0, eX1_linkCells_1, eX1_linkCells_2, eX1_linkCells_3, eX1_linkCells_4, eX1_linkCells_7, eX1_linkCells_10, eX1_linkCells_11, eX1_linkCells_13, eX1_linkCells_14, eX1_linkCells_17, eX1_linkCells_20, eX1_linkCells_21, eX1_linkCells_24, eX1_linkCells_25, eX1_linkCells_28, eX1_linkCells_31, eX1_linkCells_32, eX1_linkCells_33, eX1_linkCells_36, eX1_linkCells_37, eX1_linkCells_38, eX1_linkCells_39, eX1_linkCells_42, eX1_linkCells_43, eX1_linkCells_45, eX1_linkCells_46, eX1_linkCells_47, eX1_linkCells_48, eX1_linkCells_49, eX1_linkCells_50, eX1_linkCells_53, eX1_linkCells_54, eX1_linkCells_55, eX1_linkCells_58, eX1_linkCells_59, eX1_linkCells_60, eX1_linkCells_63, eX1_linkCells_64, eX1_linkCells_67, eX1_linkCells_73, eX1_linkCells_76, Nat.add_zero, Nat.reduceAdd, Nat.reduceLeDiff, Nat.zero_le, and_true, o_aload_0r, o_callV_0, o_callV_3, o_const_e, o_getf_e, o_gets_e, o_goto_e, o_iald_e, o_iald_f, o_iast_e, o_icmp_e, o_ii_e, o_iinc_1, o_iinc_2, o_iload_1, o_iload_2, o_iload_3, o_ist_1, o_ist_2, o_ist_3, o_vret_e, tl_n, tl_s, true_and, xnlv_i, xnlv_n, xnlv_r, xwt_0, xwt_f, xwt_i, xwt_l, xwt_r, h'.cls, h'.g0, h'.g1, h'.g2, h'.g3, h'.g4, h'.g5, h'.g6, h'.g7, h'.g8, h'.g9, h'.g10, h'.g11]
    refine c_directions h' ok ?_
    simp only [eX1_linkCells_0, eX1_linkCells_1, eX1_linkCells_2, eX1_linkCells_3, eX1_linkCells_4, eX1_linkCells_7, eX1_linkCells_10, eX1_linkCells_11, eX1_linkCells_13, eX1_linkCells_14, eX1_linkCells_17, eX1_linkCells_20, eX1_linkCells_21, eX1_linkCells_24, eX1_linkCells_25, eX1_linkCells_28, eX1_linkCells_31, eX1_linkCells_32, eX1_linkCells_33, eX1_linkCells_36, eX1_linkCells_38, eX1_linkCells_39, eX1_linkCells_42, eX1_linkCells_43, eX1_linkCells_45, eX1_linkCells_46, eX1_linkCells_47, eX1_linkCells_48, eX1_linkCells_49, eX1_linkCells_50, eX1_linkCells_53, eX1_linkCells_54, eX1_linkCells_55, eX1_linkCells_58, eX1_linkCells_59, eX1_linkCells_60, eX1_linkCells_63, eX1_linkCells_64, eX1_linkCells_67, eX1_linkCells_73, eX1_linkCells_76, Nat.add_zero, Nat.reduceAdd, Nat.reduceLeDiff, Nat.zero_le, and_true, o_aload_0r, o_callV_0, o_callV_3, o_const_e, o_getf_e, o_gets_e, o_goto_e, o_iald_e, o_iald_f, o_iast_e, o_icmp_e, o_ii_e, o_iinc_1, o_iinc_2, o_iload_1, o_iload_2, o_iload_3, o_ist_1, o_ist_2, o_ist_3, o_vret_e, tl_n, tl_s, true_and, xnlv_i, xnlv_n, xnlv_r, xwt_0, xwt_f, xwt_i, xwt_l, xwt_r, h'.cls, h'.g0, h'.g1, h'.g2, h'.g3, h'.g4, h'.g5, h'.g6, h'.g7, h'.g8, h'.g9, h'.g10, h'.g11, le_nI (a := x.nd) (b := j) (by omega) (by omega), n2, eq_nI (a := x.ne) (b := 2) (by omega) (by omega)]
    refine ⟨fun g => by omega, fun _ => ?_⟩
    have fin : XR TX1_linkCells 37 [some (.ref b), some (.int (nI c)), some (.int (nI j)), w] [.int (nI (stp x.ne j))] (latP AH b x lk' pr) (0, 0) Q := by
      have hs := stp_lt (show j < x.nd by omega)
      simp only [eX1_linkCells_0, eX1_linkCells_1, eX1_linkCells_2, eX1_linkCells_3, eX1_linkCells_4, eX1_linkCells_7, eX1_linkCells_10, eX1_linkCells_11, eX1_linkCells_13, eX1_linkCells_14, eX1_linkCells_17, eX1_linkCells_20, eX1_linkCells_21, eX1_linkCells_24, eX1_linkCells_25, eX1_linkCells_28, eX1_linkCells_31, eX1_linkCells_32, eX1_linkCells_33, eX1_linkCells_36, eX1_linkCells_37, eX1_linkCells_38, eX1_linkCells_39, eX1_linkCells_42, eX1_linkCells_43, eX1_linkCells_45, eX1_linkCells_46, eX1_linkCells_47, eX1_linkCells_48, eX1_linkCells_49, eX1_linkCells_50, eX1_linkCells_53, eX1_linkCells_54, eX1_linkCells_55, eX1_linkCells_58, eX1_linkCells_59, eX1_linkCells_60, eX1_linkCells_63, eX1_linkCells_64, eX1_linkCells_67, eX1_linkCells_73, eX1_linkCells_76, Nat.add_zero, Nat.reduceAdd, Nat.reduceLeDiff, Nat.zero_le, and_true, o_aload_0r, o_callV_0, o_callV_3, o_const_e, o_getf_e, o_gets_e, o_goto_e, o_iald_e, o_iald_f, o_iast_e, o_icmp_e, o_ii_e, o_iinc_1, o_iinc_2, o_iload_1, o_iload_2, o_iload_3, o_ist_1, o_ist_2, o_ist_3, o_vret_e, tl_n, tl_s, true_and, xnlv_i, xnlv_n, xnlv_r, xwt_0, xwt_f, xwt_i, xwt_l, xwt_r, h'.cls, h'.g0, h'.g1, h'.g2, h'.g3, h'.g4, h'.g5, h'.g6, h'.g7, h'.g8, h'.g9, h'.g10, h'.g11, n8, pk_mul, nI_add, sld_1 hs, sld_2 hs]
      refine c_stepFrom h' ok hc hs ?_
      simp only [eX1_linkCells_0, eX1_linkCells_1, eX1_linkCells_2, eX1_linkCells_3, eX1_linkCells_4, eX1_linkCells_7, eX1_linkCells_10, eX1_linkCells_11, eX1_linkCells_13, eX1_linkCells_14, eX1_linkCells_17, eX1_linkCells_20, eX1_linkCells_21, eX1_linkCells_24, eX1_linkCells_25, eX1_linkCells_28, eX1_linkCells_31, eX1_linkCells_32, eX1_linkCells_33, eX1_linkCells_36, eX1_linkCells_37, eX1_linkCells_38, eX1_linkCells_39, eX1_linkCells_42, eX1_linkCells_43, eX1_linkCells_45, eX1_linkCells_46, eX1_linkCells_47, eX1_linkCells_48, eX1_linkCells_49, eX1_linkCells_50, eX1_linkCells_53, eX1_linkCells_54, eX1_linkCells_55, eX1_linkCells_58, eX1_linkCells_59, eX1_linkCells_60, eX1_linkCells_63, eX1_linkCells_64, eX1_linkCells_67, eX1_linkCells_73, eX1_linkCells_76, Nat.add_zero, Nat.reduceAdd, Nat.reduceLeDiff, Nat.zero_le, and_true, o_aload_0r, o_callV_0, o_callV_3, o_const_e, o_getf_e, o_gets_e, o_goto_e, o_iald_e, o_iald_f, o_iast_e, o_icmp_e, o_ii_e, o_iinc_1, o_iinc_2, o_iload_1, o_iload_2, o_iload_3, o_ist_1, o_ist_2, o_ist_3, o_vret_e, tl_n, tl_s, true_and, xnlv_i, xnlv_n, xnlv_r, xwt_0, xwt_f, xwt_i, xwt_l, xwt_r, h'.cls, h'.g0, h'.g1, h'.g2, h'.g3, h'.g4, h'.g5, h'.g6, h'.g7, h'.g8, h'.g9, h'.g10, h'.g11, h'.wl (c := c * 8 + j) (by omega), n1, nI_add, latP_latP h.lt]
      exact ih (j + 1) (by omega) _ _ (LkTo.put hl)
    refine ⟨fun g => ?_, fun g => ?_⟩
    · rw [show stp x.ne j = j by unfold stp; rw [if_neg g]] at fin
      exact fin
    · have g := Classical.not_not.mp g
      have : x.nd = 6 := by unfold sLat.nd; rw [g]; rfl
      simp only [eX1_linkCells_0, eX1_linkCells_1, eX1_linkCells_2, eX1_linkCells_3, eX1_linkCells_4, eX1_linkCells_7, eX1_linkCells_10, eX1_linkCells_11, eX1_linkCells_13, eX1_linkCells_14, eX1_linkCells_17, eX1_linkCells_20, eX1_linkCells_21, eX1_linkCells_24, eX1_linkCells_25, eX1_linkCells_28, eX1_linkCells_31, eX1_linkCells_32, eX1_linkCells_33, eX1_linkCells_36, eX1_linkCells_38, eX1_linkCells_39, eX1_linkCells_42, eX1_linkCells_43, eX1_linkCells_45, eX1_linkCells_46, eX1_linkCells_47, eX1_linkCells_48, eX1_linkCells_49, eX1_linkCells_50, eX1_linkCells_53, eX1_linkCells_54, eX1_linkCells_55, eX1_linkCells_58, eX1_linkCells_59, eX1_linkCells_60, eX1_linkCells_63, eX1_linkCells_64, eX1_linkCells_67, eX1_linkCells_73, eX1_linkCells_76, Nat.add_zero, Nat.reduceAdd, Nat.reduceLeDiff, Nat.zero_le, and_true, o_aload_0r, o_callV_0, o_callV_3, o_const_e, o_getf_e, o_gets_e, o_goto_e, o_iald_e, o_iald_f, o_iast_e, o_icmp_e, o_ii_e, o_iinc_1, o_iinc_2, o_iload_1, o_iload_2, o_iload_3, o_ist_1, o_ist_2, o_ist_3, o_vret_e, tl_n, tl_s, true_and, xnlv_i, xnlv_n, xnlv_r, xwt_0, xwt_f, xwt_i, xwt_l, xwt_r, sld_0 (show j < 6 by omega)]
      rw [g] at fin
      exact fin
theorem l_link2 (h : LatAt AH b x lk pr) (ok : x.ok) {Q : xQ} (k : ∀ lk' : Nat → Int32, LkOK x lk' → Q none (latP AH b x lk' pr) (0, 0)) : ∀ (m j : Nat), j + m = x.n → ∀ (lk' : Nat → Int32) (w w2 : Option Value), LkTo x j 0 lk' →
    XR TX1_linkCells 2 [some (.ref b), some (.int (nI j)), w, w2] [] (latP AH b x lk' pr) (0, 0) Q := by
  have hn := sLat.n36 ok
  intro m
  induction m with
  | zero =>
    intro j hj lk' w w2 hl
    have h' := h.put x lk' pr
    rw [eX1_linkCells_2]
    simp only [eX1_linkCells_0, eX1_linkCells_1, eX1_linkCells_3, eX1_linkCells_4, eX1_linkCells_7, eX1_linkCells_10, eX1_linkCells_11, eX1_linkCells_13, eX1_linkCells_14, eX1_linkCells_17, eX1_linkCells_20, eX1_linkCells_21, eX1_linkCells_24, eX1_linkCells_25, eX1_linkCells_28, eX1_linkCells_31, eX1_linkCells_32, eX1_linkCells_33, eX1_linkCells_36, eX1_linkCells_37, eX1_linkCells_38, eX1_linkCells_39, eX1_linkCells_42, eX1_linkCells_43, eX1_linkCells_45, eX1_linkCells_46, eX1_linkCells_47, eX1_linkCells_48, eX1_linkCells_49, eX1_linkCells_50, eX1_linkCells_53, eX1_linkCells_54, eX1_linkCells_55, eX1_linkCells_58, eX1_linkCells_59, eX1_linkCells_60, eX1_linkCells_63, eX1_linkCells_64, eX1_linkCells_67, eX1_linkCells_70, eX1_linkCells_73, eX1_linkCells_76, Nat.add_zero, Nat.reduceAdd, Nat.reduceLeDiff, Nat.zero_le, and_true, o_aload_0r, o_callV_0, o_callV_3, o_const_e, o_getf_e, o_gets_e, o_goto_e, o_iald_e, o_iald_f, o_iast_e, o_icmp_e, o_ii_e, o_iinc_1, o_iinc_2, o_iload_1, o_iload_2, o_iload_3, o_ist_1, o_ist_2, o_ist_3, o_vret_e, tl_n, tl_s, true_and, xnlv_i, xnlv_n, xnlv_r, xwt_0, xwt_f, xwt_i, xwt_l, xwt_r, h'.cls, h'.g0, h'.g1, h'.g2, h'.g3, h'.g4, h'.g5, h'.g6, h'.g7, h'.g8, h'.g9, h'.g10, h'.g11]
    refine c_cells h' ?_
    simp only [eX1_linkCells_0, eX1_linkCells_1, eX1_linkCells_3, eX1_linkCells_4, eX1_linkCells_7, eX1_linkCells_10, eX1_linkCells_11, eX1_linkCells_13, eX1_linkCells_14, eX1_linkCells_17, eX1_linkCells_20, eX1_linkCells_21, eX1_linkCells_24, eX1_linkCells_25, eX1_linkCells_28, eX1_linkCells_31, eX1_linkCells_32, eX1_linkCells_33, eX1_linkCells_36, eX1_linkCells_37, eX1_linkCells_38, eX1_linkCells_39, eX1_linkCells_42, eX1_linkCells_43, eX1_linkCells_45, eX1_linkCells_46, eX1_linkCells_47, eX1_linkCells_48, eX1_linkCells_49, eX1_linkCells_50, eX1_linkCells_53, eX1_linkCells_54, eX1_linkCells_55, eX1_linkCells_58, eX1_linkCells_59, eX1_linkCells_60, eX1_linkCells_63, eX1_linkCells_64, eX1_linkCells_67, eX1_linkCells_70, eX1_linkCells_73, eX1_linkCells_76, Nat.add_zero, Nat.reduceAdd, Nat.reduceLeDiff, Nat.zero_le, and_true, o_aload_0r, o_callV_0, o_callV_3, o_const_e, o_getf_e, o_gets_e, o_goto_e, o_iald_e, o_iald_f, o_iast_e, o_icmp_e, o_ii_e, o_iinc_1, o_iinc_2, o_iload_1, o_iload_2, o_iload_3, o_ist_1, o_ist_2, o_ist_3, o_vret_e, tl_n, tl_s, true_and, xnlv_i, xnlv_n, xnlv_r, xwt_0, xwt_f, xwt_i, xwt_l, xwt_r, h'.cls, h'.g0, h'.g1, h'.g2, h'.g3, h'.g4, h'.g5, h'.g6, h'.g7, h'.g8, h'.g9, h'.g10, h'.g11, le_nI (a := x.n) (b := j) (by omega) (by omega)]
    refine ⟨fun _ => k lk' (fun c d hc hd => hl c d (Or.inl (by omega)) hd), fun g => by omega⟩
  | succ m ih =>
    intro j hj lk' w w2 hl
    have h' := h.put x lk' pr
    rw [eX1_linkCells_2]
    simp only [eX1_linkCells_0, eX1_linkCells_1, eX1_linkCells_3, eX1_linkCells_4, eX1_linkCells_7, eX1_linkCells_10, eX1_linkCells_11, eX1_linkCells_13, eX1_linkCells_14, eX1_linkCells_17, eX1_linkCells_20, eX1_linkCells_21, eX1_linkCells_24, eX1_linkCells_25, eX1_linkCells_28, eX1_linkCells_31, eX1_linkCells_32, eX1_linkCells_33, eX1_linkCells_36, eX1_linkCells_37, eX1_linkCells_38, eX1_linkCells_39, eX1_linkCells_42, eX1_linkCells_43, eX1_linkCells_45, eX1_linkCells_46, eX1_linkCells_47, eX1_linkCells_48, eX1_linkCells_49, eX1_linkCells_50, eX1_linkCells_53, eX1_linkCells_54, eX1_linkCells_55, eX1_linkCells_58, eX1_linkCells_59, eX1_linkCells_60, eX1_linkCells_63, eX1_linkCells_64, eX1_linkCells_67, eX1_linkCells_70, eX1_linkCells_73, eX1_linkCells_76, Nat.add_zero, Nat.reduceAdd, Nat.reduceLeDiff, Nat.zero_le, and_true, o_aload_0r, o_callV_0, o_callV_3, o_const_e, o_getf_e, o_gets_e, o_goto_e, o_iald_e, o_iald_f, o_iast_e, o_icmp_e, o_ii_e, o_iinc_1, o_iinc_2, o_iload_1, o_iload_2, o_iload_3, o_ist_1, o_ist_2, o_ist_3, o_vret_e, tl_n, tl_s, true_and, xnlv_i, xnlv_n, xnlv_r, xwt_0, xwt_f, xwt_i, xwt_l, xwt_r, h'.cls, h'.g0, h'.g1, h'.g2, h'.g3, h'.g4, h'.g5, h'.g6, h'.g7, h'.g8, h'.g9, h'.g10, h'.g11]
    refine c_cells h' ?_
    simp only [eX1_linkCells_0, eX1_linkCells_1, eX1_linkCells_3, eX1_linkCells_4, eX1_linkCells_7, eX1_linkCells_10, eX1_linkCells_11, eX1_linkCells_13, eX1_linkCells_14, eX1_linkCells_17, eX1_linkCells_20, eX1_linkCells_21, eX1_linkCells_24, eX1_linkCells_25, eX1_linkCells_28, eX1_linkCells_31, eX1_linkCells_32, eX1_linkCells_33, eX1_linkCells_36, eX1_linkCells_37, eX1_linkCells_38, eX1_linkCells_39, eX1_linkCells_42, eX1_linkCells_43, eX1_linkCells_45, eX1_linkCells_46, eX1_linkCells_47, eX1_linkCells_48, eX1_linkCells_49, eX1_linkCells_50, eX1_linkCells_53, eX1_linkCells_54, eX1_linkCells_55, eX1_linkCells_58, eX1_linkCells_59, eX1_linkCells_60, eX1_linkCells_63, eX1_linkCells_64, eX1_linkCells_67, eX1_linkCells_70, eX1_linkCells_73, eX1_linkCells_76, Nat.add_zero, Nat.reduceAdd, Nat.reduceLeDiff, Nat.zero_le, and_true, o_aload_0r, o_callV_0, o_callV_3, o_const_e, o_getf_e, o_gets_e, o_goto_e, o_iald_e, o_iald_f, o_iast_e, o_icmp_e, o_ii_e, o_iinc_1, o_iinc_2, o_iload_1, o_iload_2, o_iload_3, o_ist_1, o_ist_2, o_ist_3, o_vret_e, tl_n, tl_s, true_and, xnlv_i, xnlv_n, xnlv_r, xwt_0, xwt_f, xwt_i, xwt_l, xwt_r, h'.cls, h'.g0, h'.g1, h'.g2, h'.g3, h'.g4, h'.g5, h'.g6, h'.g7, h'.g8, h'.g9, h'.g10, h'.g11, le_nI (a := x.n) (b := j) (by omega) (by omega)]
    refine ⟨fun g => by omega, fun _ => ?_⟩
    refine l_link1 h ok (by omega) (fun lk2 w hl2 => ?_) x.nd 0 (by omega) lk' _ hl
    simp only [eX1_linkCells_0, eX1_linkCells_1, eX1_linkCells_3, eX1_linkCells_4, eX1_linkCells_7, eX1_linkCells_10, eX1_linkCells_11, eX1_linkCells_13, eX1_linkCells_14, eX1_linkCells_17, eX1_linkCells_20, eX1_linkCells_21, eX1_linkCells_24, eX1_linkCells_25, eX1_linkCells_28, eX1_linkCells_31, eX1_linkCells_32, eX1_linkCells_33, eX1_linkCells_36, eX1_linkCells_37, eX1_linkCells_38, eX1_linkCells_39, eX1_linkCells_42, eX1_linkCells_43, eX1_linkCells_45, eX1_linkCells_46, eX1_linkCells_47, eX1_linkCells_48, eX1_linkCells_49, eX1_linkCells_50, eX1_linkCells_53, eX1_linkCells_54, eX1_linkCells_55, eX1_linkCells_58, eX1_linkCells_59, eX1_linkCells_60, eX1_linkCells_63, eX1_linkCells_64, eX1_linkCells_67, eX1_linkCells_70, eX1_linkCells_73, eX1_linkCells_76, Nat.add_zero, Nat.reduceAdd, Nat.reduceLeDiff, Nat.zero_le, and_true, o_aload_0r, o_callV_0, o_callV_3, o_const_e, o_getf_e, o_gets_e, o_goto_e, o_iald_e, o_iald_f, o_iast_e, o_icmp_e, o_ii_e, o_iinc_1, o_iinc_2, o_iload_1, o_iload_2, o_iload_3, o_ist_1, o_ist_2, o_ist_3, o_vret_e, tl_n, tl_s, true_and, xnlv_i, xnlv_n, xnlv_r, xwt_0, xwt_f, xwt_i, xwt_l, xwt_r, n1, nI_add]
    exact ih (j + 1) (by omega) _ _ _ hl2.row
/-- Lattice.linkCells() -/
theorem c_link (h : LatAt AH b x lk pr) (ok : x.ok) {Q : Option Value → xH → Prop} (k : ∀ lk' : Nat → Int32, LkOK x lk' → Q none (latP AH b x lk' pr)) : XC MX1_linkCells [.ref b] AH Q := by
  refine XC.ofR (L := [some (.ref b), none, none, none]) KX1_linkCells (by decide +kernel) (by first | decide | exact Nat.le_of_ble_eq_true rfl) rfl ?_
  simp only [eX1_linkCells_0, eX1_linkCells_1, eX1_linkCells_3, eX1_linkCells_4, eX1_linkCells_7, eX1_linkCells_10, eX1_linkCells_11, eX1_linkCells_12, eX1_linkCells_13, eX1_linkCells_14, eX1_linkCells_17, eX1_linkCells_20, eX1_linkCells_21, eX1_linkCells_24, eX1_linkCells_25, eX1_linkCells_28, eX1_linkCells_31, eX1_linkCells_32, eX1_linkCells_33, eX1_linkCells_36, eX1_linkCells_37, eX1_linkCells_38, eX1_linkCells_39, eX1_linkCells_42, eX1_linkCells_43, eX1_linkCells_45, eX1_linkCells_46, eX1_linkCells_47, eX1_linkCells_48, eX1_linkCells_49, eX1_linkCells_50, eX1_linkCells_53, eX1_linkCells_54, eX1_linkCells_55, eX1_linkCells_58, eX1_linkCells_59, eX1_linkCells_60, eX1_linkCells_63, eX1_linkCells_64, eX1_linkCells_67, eX1_linkCells_70, eX1_linkCells_73, eX1_linkCells_76, Nat.add_zero, Nat.reduceAdd, Nat.reduceLeDiff, Nat.zero_le, and_true, o_aload_0r, o_callV_0, o_callV_3, o_const_e, o_getf_e, o_gets_e, o_goto_e, o_iald_e, o_iald_f, o_iast_e, o_icmp_e, o_ii_e, o_iinc_1, o_iinc_2, o_iload_1, o_iload_2, o_iload_3, o_ist_1, o_ist_2, o_ist_3, o_vret_e, tl_n, tl_s, true_and, xnlv_i, xnlv_n, xnlv_r, xwt_0, xwt_f, xwt_i, xwt_l, xwt_r]
  have := l_link2 h ok (Q := fun v AH' _ => Q v AH') k x.n 0 (by omega) lk none none (fun c' d hcd _ => by omega)
  rw [latP_self h] at this
  exact this
/-! prices -/
theorem ab_t : ∀ a, a < 8 → ∀ c, c < 8 → (if 0 ≤ nI a - nI c then nI a - nI c else -(nI a - nI c)) = nI (if a < c then c - a else a - c) := by decide +kernel
theorem mi_t : ∀ a, a < 8 → (if (8 : Int32) - nI a < nI a then 8 - nI a else nI a) = nI (min a (8 - a)) := by decide +kernel
theorem apt_0 : ∀ a, a < 8 → ∀ c, c < 8 → (apt a c = 0 ↔ a = c) := by decide +kernel
theorem apt_2 : ∀ a, a < 8 → ∀ c, c < 8 → (apt a c % 2 = 0 ↔ a % 2 = c % 2) := by decide +kernel
theorem apt_4 : ∀ a, a < 8 → ∀ c, c < 8 → apt a c ≤ 4 := by decide +kernel
theorem c_priceOf (h : LatAt AH b x lk pr) (ok : x.ok) {a c : Nat} (ha : a < 8) (hc : c < 8) {Q : Option Value → xH → Prop} (k : Q (some (.int (nI (x.P a c)))) AH) : XC MX1_priceOf [.ref b, .int (nI a), .int (nI c)] AH Q := by
  have hki := ok.2.2.2.2.2.2.2.1
  have hnu := ok.2.2.2.2.2.2.2.2.1
  have h4 := apt_4 a ha c hc
  have hd : (if a < c then c - a else a - c) < 8 := by split <;> omega
  unfold sLat.P prF at k
  refine XC.ofR (L := [some (.ref b), some (.int (nI a)), some (.int (nI c)), none, none]) KX1_priceOf (by decide +kernel) (by first | decide | exact Nat.le_of_ble_eq_true rfl) rfl ?_
  simp only [eX1_priceOf_0, eX1_priceOf_1, eX1_priceOf_2, eX1_priceOf_3, eX1_priceOf_6, eX1_priceOf_7, eX1_priceOf_8, eX1_priceOf_10, eX1_priceOf_11, eX1_priceOf_12, eX1_priceOf_15, eX1_priceOf_17, eX1_priceOf_18, eX1_priceOf_21, eX1_priceOf_48, eX1_priceOf_50, eX1_priceOf_53, eX1_priceOf_54, eX1_priceOf_57, eX1_priceOf_58, eX1_priceOf_61, eX1_priceOf_62, eX1_priceOf_64, eX1_priceOf_65, eX1_priceOf_68, eX1_priceOf_71, eX1_priceOf_72, eX1_priceOf_74, eX1_priceOf_77, eX1_priceOf_79, eX1_priceOf_80, eX1_priceOf_83, eX1_priceOf_86, eX1_priceOf_87, eX1_priceOf_90, eX1_priceOf_91, eX1_priceOf_92, eX1_priceOf_94, eX1_priceOf_97, eX1_priceOf_98, eX1_priceOf_101, eX1_priceOf_103, eX1_priceOf_104, eX1_priceOf_105, eX1_priceOf_108, eX1_priceOf_109, eX1_priceOf_112, eX1_priceOf_113, eX1_priceOf_116, Nat.add_zero, Nat.reduceAdd, Nat.reduceLeDiff, Nat.zero_le, and_true, o_aload_0r, o_callS_1, o_callS_2, o_const_e, o_getf_e, o_goto_e, o_icmp_e, o_if_e, o_ii_e, o_iload_1, o_iload_2, o_iload_3, o_iload_4, o_irem_e, o_iret_e, o_ist_3, o_ist_4, o_sw_e, tl_n, tl_s, true_and, xnlv_i, xnlv_n, xnlv_r, xsw_0, xsw_1, xwt_0, xwt_f, xwt_i, xwt_l, xwt_r]
  refine c_abs ?_
  rw [ab_t a ha c hc]
  simp only [eX1_priceOf_0, eX1_priceOf_1, eX1_priceOf_2, eX1_priceOf_3, eX1_priceOf_6, eX1_priceOf_7, eX1_priceOf_8, eX1_priceOf_10, eX1_priceOf_11, eX1_priceOf_12, eX1_priceOf_15, eX1_priceOf_17, eX1_priceOf_18, eX1_priceOf_21, eX1_priceOf_48, eX1_priceOf_50, eX1_priceOf_53, eX1_priceOf_54, eX1_priceOf_57, eX1_priceOf_58, eX1_priceOf_61, eX1_priceOf_62, eX1_priceOf_64, eX1_priceOf_65, eX1_priceOf_68, eX1_priceOf_71, eX1_priceOf_72, eX1_priceOf_74, eX1_priceOf_77, eX1_priceOf_79, eX1_priceOf_80, eX1_priceOf_83, eX1_priceOf_86, eX1_priceOf_87, eX1_priceOf_90, eX1_priceOf_91, eX1_priceOf_92, eX1_priceOf_94, eX1_priceOf_97, eX1_priceOf_98, eX1_priceOf_101, eX1_priceOf_103, eX1_priceOf_104, eX1_priceOf_105, eX1_priceOf_108, eX1_priceOf_109, eX1_priceOf_112, eX1_priceOf_113, eX1_priceOf_116, Nat.add_zero, Nat.reduceAdd, Nat.reduceLeDiff, Nat.zero_le, and_true, o_aload_0r, o_callS_1, o_callS_2, o_const_e, o_getf_e, o_goto_e, o_icmp_e, o_if_e, o_ii_e, o_iload_1, o_iload_2, o_iload_3, o_iload_4, o_irem_e, o_iret_e, o_ist_3, o_ist_4, o_sw_e, tl_n, tl_s, true_and, xnlv_i, xnlv_n, xnlv_r, xsw_0, xsw_1, xwt_0, xwt_f, xwt_i, xwt_l, xwt_r]
  refine c_min ?_
  rw [mi_t _ hd, show min (if a < c then c - a else a - c) (8 - if a < c then c - a else a - c) = apt a c from rfl]
  simp only [eX1_priceOf_0, eX1_priceOf_1, eX1_priceOf_2, eX1_priceOf_3, eX1_priceOf_6, eX1_priceOf_7, eX1_priceOf_8, eX1_priceOf_10, eX1_priceOf_11, eX1_priceOf_12, eX1_priceOf_15, eX1_priceOf_17, eX1_priceOf_18, eX1_priceOf_21, eX1_priceOf_48, eX1_priceOf_50, eX1_priceOf_53, eX1_priceOf_54, eX1_priceOf_57, eX1_priceOf_58, eX1_priceOf_61, eX1_priceOf_62, eX1_priceOf_64, eX1_priceOf_65, eX1_priceOf_68, eX1_priceOf_71, eX1_priceOf_72, eX1_priceOf_74, eX1_priceOf_77, eX1_priceOf_79, eX1_priceOf_80, eX1_priceOf_83, eX1_priceOf_86, eX1_priceOf_87, eX1_priceOf_90, eX1_priceOf_91, eX1_priceOf_92, eX1_priceOf_94, eX1_priceOf_97, eX1_priceOf_98, eX1_priceOf_101, eX1_priceOf_103, eX1_priceOf_104, eX1_priceOf_105, eX1_priceOf_108, eX1_priceOf_109, eX1_priceOf_112, eX1_priceOf_113, eX1_priceOf_116, Nat.add_zero, Nat.reduceAdd, Nat.reduceLeDiff, Nat.zero_le, and_true, o_aload_0r, o_callS_1, o_callS_2, o_const_e, o_getf_e, o_goto_e, o_icmp_e, o_if_e, o_ii_e, o_iload_1, o_iload_2, o_iload_3, o_iload_4, o_irem_e, o_iret_e, o_ist_3, o_ist_4, o_sw_e, tl_n, tl_s, true_and, xnlv_i, xnlv_n, xnlv_r, xsw_0, xsw_1, xwt_0, xwt_f, xwt_i, xwt_l, xwt_r, h.cls, h.g0, h.g1, h.g2, h.g3, h.g4, h.g5, h.g6, h.g7, h.g8, h.g9, h.g10, h.g11, eq0_nI (a := x.ki) (by omega), n1, eq_nI (a := x.ki) (b := 1) (by omega) (by omega), n2, eq_nI (a := x.ki) (b := 2) (by omega) (by omega), eq0_nI (a := apt a c) (by omega), eq_nI (a := apt a c) (b := x.nu) (by omega) (by omega), pk_rem (a := apt a c) (d := 2) (by omega) (by decide) (by decide)]
  rcases (show x.ki = 0 ∨ x.ki = 1 ∨ x.ki = 2 ∨ x.ki = 3 by omega) with e | e | e | e <;> simp only [e, not_true_eq_false, not_false_eq_true, true_implies, false_implies, and_true, true_and, implies_true, forall_const, or_true, true_or, or_false, false_or, or_self, and_self, and_false, false_and, ↓reduceIte, Nat.reduceEqDiff, Nat.succ_ne_zero, Nat.one_ne_zero, reduceCtorEq] at k ⊢
  · have e0 := apt_0 a ha c hc
    refine ⟨fun g => ?_, fun g => ?_⟩
    · rw [if_neg (by rw [← e0]; exact g)] at k; exact k
    · rw [if_pos (by rw [← e0]; exact Classical.not_not.mp g)] at k; exact k
  · refine c_min ?_
    simp only [lt_nI (a := x.nu) (b := apt a c) (by omega) (by omega)]
    simp only [eX1_priceOf_0, eX1_priceOf_1, eX1_priceOf_2, eX1_priceOf_3, eX1_priceOf_6, eX1_priceOf_7, eX1_priceOf_8, eX1_priceOf_10, eX1_priceOf_11, eX1_priceOf_12, eX1_priceOf_15, eX1_priceOf_17, eX1_priceOf_18, eX1_priceOf_21, eX1_priceOf_48, eX1_priceOf_50, eX1_priceOf_53, eX1_priceOf_54, eX1_priceOf_57, eX1_priceOf_58, eX1_priceOf_61, eX1_priceOf_62, eX1_priceOf_64, eX1_priceOf_65, eX1_priceOf_68, eX1_priceOf_71, eX1_priceOf_72, eX1_priceOf_74, eX1_priceOf_77, eX1_priceOf_79, eX1_priceOf_80, eX1_priceOf_83, eX1_priceOf_86, eX1_priceOf_87, eX1_priceOf_90, eX1_priceOf_91, eX1_priceOf_92, eX1_priceOf_94, eX1_priceOf_97, eX1_priceOf_98, eX1_priceOf_101, eX1_priceOf_103, eX1_priceOf_104, eX1_priceOf_105, eX1_priceOf_108, eX1_priceOf_109, eX1_priceOf_112, eX1_priceOf_113, eX1_priceOf_116, Nat.add_zero, Nat.reduceAdd, Nat.reduceLeDiff, Nat.zero_le, and_true, o_aload_0r, o_callS_1, o_callS_2, o_const_e, o_getf_e, o_goto_e, o_icmp_e, o_if_e, o_ii_e, o_iload_1, o_iload_2, o_iload_3, o_iload_4, o_irem_e, o_iret_e, o_ist_3, o_ist_4, o_sw_e, tl_n, tl_s, true_and, xnlv_i, xnlv_n, xnlv_r, xsw_0, xsw_1, xwt_0, xwt_f, xwt_i, xwt_l, xwt_r]
    rw [show (if x.nu < apt a c then nI x.nu else nI (apt a c)) = nI (min (apt a c) x.nu) from by
      split
      · rw [Nat.min_eq_right (by omega)]
      · rw [Nat.min_eq_left (by omega)]]
    exact k
  · refine ⟨fun g => ?_, fun g => ⟨fun g2 => ?_, fun g2 => ?_⟩⟩
    · rw [if_pos (Or.inl g)] at k; exact k
    · rw [if_neg (by rintro (z | z) <;> contradiction)] at k; exact k
    · rw [if_pos (Or.inr (Classical.not_not.mp g2))] at k; exact k
  · have e0 := apt_0 a ha c hc
    have e2 := apt_2 a ha c hc
    have hm : apt a c % 2 < 2 := Nat.mod_lt _ (by decide)
    refine ⟨fun g => ⟨by decide, ?_⟩, fun g => ?_⟩
    · rw [if_neg (by rw [← e0]; exact g)] at k
      rw [eq0_nI (by omega)]
      refine ⟨fun g2 => ?_, fun g2 => ?_⟩
      · rw [if_neg (by rw [← e2]; exact g2)] at k; exact k
      · rw [if_pos (by rw [← e2]; exact Classical.not_not.mp g2)] at k; exact k
    · rw [if_pos (by rw [← e0]; exact Classical.not_not.mp g)] at k; exact k
def PrTo (x : sLat) (c j : Nat) (pr : Nat → Int32) : Prop := ∀ c' d, (c' < c ∨ (c' = c ∧ d < j)) → d < 8 → pr (c' * 8 + d) = nI (x.P c' d)
theorem PrTo.put {x : sLat} {c j : Nat} {lk : Nat → Int32} (hj8 : j < 8) (h : PrTo x c j lk) : PrTo x c (j + 1) (upd lk (c * 8 + j) (nI (x.P c j))) := by
  intro c' d hcd hd
  unfold upd
  split
  · rename_i e
    by_cases ec : c' = c
    · subst ec; rw [show d = j by omega]
    · omega
  · rename_i e
    refine h c' d ?_ hd
    rcases hcd with hcd | ⟨rfl, hcd⟩
    · exact Or.inl hcd
    · rcases Nat.lt_or_ge d j with g | g
      · exact Or.inr ⟨rfl, g⟩
      · exact absurd (by rw [show d = j by omega]) e
theorem l_price1 (h : LatAt AH b x lk pr) (ok : x.ok) {c : Nat} (hc : c < 8) {Q : xQ} (k : ∀ (pr' : Nat → Int32), PrTo x c 8 pr' → XR TX1_listPrices 39 [some (.ref b), some (.int (nI c)), some (.int (nI 8))] [] (latP AH b x lk pr') (0, 0) Q) : ∀ (m j : Nat), j + m = 8 → ∀ (pr' : Nat → Int32), PrTo x c j pr' →
    XR TX1_listPrices 10 [some (.ref b), some (.int (nI c)), some (.int (nI j))] [] (latP AH b x lk pr') (0, 0) Q := by
  intro m
  induction m with
  | zero =>
    intro j hj pr' hl
    rw [eX1_listPrices_10]
    simp only [eX1_listPrices_0, eX1_listPrices_1, eX1_listPrices_2, eX1_listPrices_3, eX1_listPrices_5, eX1_listPrices_8, eX1_listPrices_9, eX1_listPrices_11, eX1_listPrices_13, eX1_listPrices_16, eX1_listPrices_17, eX1_listPrices_20, eX1_listPrices_21, eX1_listPrices_23, eX1_listPrices_24, eX1_listPrices_25, eX1_listPrices_26, eX1_listPrices_27, eX1_listPrices_28, eX1_listPrices_29, eX1_listPrices_32, eX1_listPrices_33, eX1_listPrices_36, eX1_listPrices_42, eX1_listPrices_45, Nat.add_zero, Nat.reduceAdd, Nat.reduceLeDiff, Nat.zero_le, and_true, o_aload_0r, o_callV_2, o_const_e, o_getf_e, o_goto_e, o_iast_e, o_icmp_e, o_ii_e, o_iinc_1, o_iinc_2, o_iload_1, o_iload_2, o_ist_1, o_ist_2, o_vret_e, tl_n, tl_s, true_and, xnlv_i, xnlv_n, xnlv_r, xwt_0, xwt_f, xwt_i, xwt_l, xwt_r, n8, le_nI (a := 8) (b := j) (by omega) (by omega)]
    refine ⟨fun _ => ?_, fun g => by omega⟩
    have e : j = 8 := by omega
    subst e
    exact k pr' hl
  | succ m ih =>
    intro j hj pr' hl
    have h' := h.put x lk pr'
    rw [eX1_listPrices_10]
    simp only [eX1_listPrices_0, eX1_listPrices_1, eX1_listPrices_2, eX1_listPrices_3, eX1_listPrices_5, eX1_listPrices_8, eX1_listPrices_9, eX1_listPrices_11, eX1_listPrices_13, eX1_listPrices_16, eX1_listPrices_17, eX1_listPrices_20, eX1_listPrices_21, eX1_listPrices_23, eX1_listPrices_24, eX1_listPrices_25, eX1_listPrices_26, eX1_listPrices_27, eX1_listPrices_28, eX1_listPrices_29, eX1_listPrices_32, eX1_listPrices_33, eX1_listPrices_36, eX1_listPrices_42, eX1_listPrices_45, Nat.add_zero, Nat.reduceAdd, Nat.reduceLeDiff, Nat.zero_le, and_true, o_aload_0r, o_callV_2, o_const_e, o_getf_e, o_goto_e, o_iast_e, o_icmp_e, o_ii_e, o_iinc_1, o_iinc_2, o_iload_1, o_iload_2, o_ist_1, o_ist_2, o_vret_e, tl_n, tl_s, true_and, xnlv_i, xnlv_n, xnlv_r, xwt_0, xwt_f, xwt_i, xwt_l, xwt_r, h'.cls, h'.g0, h'.g1, h'.g2, h'.g3, h'.g4, h'.g5, h'.g6, h'.g7, h'.g8, h'.g9, h'.g10, h'.g11, n8, le_nI (a := 8) (b := j) (by omega) (by omega), pk_mul, nI_add]
    refine ⟨fun g => by omega, fun _ => c_priceOf h' ok hc (by omega) ?_⟩
    simp only [eX1_listPrices_0, eX1_listPrices_1, eX1_listPrices_2, eX1_listPrices_3, eX1_listPrices_5, eX1_listPrices_8, eX1_listPrices_9, eX1_listPrices_11, eX1_listPrices_13, eX1_listPrices_16, eX1_listPrices_17, eX1_listPrices_20, eX1_listPrices_21, eX1_listPrices_23, eX1_listPrices_24, eX1_listPrices_25, eX1_listPrices_26, eX1_listPrices_27, eX1_listPrices_28, eX1_listPrices_29, eX1_listPrices_32, eX1_listPrices_33, eX1_listPrices_36, eX1_listPrices_42, eX1_listPrices_45, Nat.add_zero, Nat.reduceAdd, Nat.reduceLeDiff, Nat.zero_le, and_true, o_aload_0r, o_callV_2, o_const_e, o_getf_e, o_goto_e, o_iast_e, o_icmp_e, o_ii_e, o_iinc_1, o_iinc_2, o_iload_1, o_iload_2, o_ist_1, o_ist_2, o_vret_e, tl_n, tl_s, true_and, xnlv_i, xnlv_n, xnlv_r, xwt_0, xwt_f, xwt_i, xwt_l, xwt_r, h'.cls, h'.g0, h'.g1, h'.g2, h'.g3, h'.g4, h'.g5, h'.g6, h'.g7, h'.g8, h'.g9, h'.g10, h'.g11, h'.wr (c := c * 8 + j) (by omega), n1, nI_add, latP_latP h.lt]
    exact ih (j + 1) (by omega) _ (PrTo.put (by omega) hl)
theorem l_price2 (h : LatAt AH b x lk pr) (ok : x.ok) {Q : xQ} (k : ∀ pr' : Nat → Int32, PrOK x pr' → Q none (latP AH b x lk pr') (0, 0)) : ∀ (m j : Nat), j + m = 8 → ∀ (pr' : Nat → Int32) (w : Option Value), PrTo x j 0 pr' →
    XR TX1_listPrices 2 [some (.ref b), some (.int (nI j)), w] [] (latP AH b x lk pr') (0, 0) Q := by
  intro m
  induction m with
  | zero =>
    intro j hj pr' w hl
    rw [eX1_listPrices_2]
    simp only [eX1_listPrices_0, eX1_listPrices_1, eX1_listPrices_3, eX1_listPrices_5, eX1_listPrices_8, eX1_listPrices_9, eX1_listPrices_11, eX1_listPrices_13, eX1_listPrices_16, eX1_listPrices_17, eX1_listPrices_20, eX1_listPrices_21, eX1_listPrices_23, eX1_listPrices_24, eX1_listPrices_25, eX1_listPrices_26, eX1_listPrices_27, eX1_listPrices_28, eX1_listPrices_29, eX1_listPrices_32, eX1_listPrices_33, eX1_listPrices_36, eX1_listPrices_39, eX1_listPrices_42, eX1_listPrices_45, Nat.add_zero, Nat.reduceAdd, Nat.reduceLeDiff, Nat.zero_le, and_true, o_aload_0r, o_callV_2, o_const_e, o_getf_e, o_goto_e, o_iast_e, o_icmp_e, o_ii_e, o_iinc_1, o_iinc_2, o_iload_1, o_iload_2, o_ist_1, o_ist_2, o_vret_e, tl_n, tl_s, true_and, xnlv_i, xnlv_n, xnlv_r, xwt_0, xwt_f, xwt_i, xwt_l, xwt_r, n8, le_nI (a := 8) (b := j) (by omega) (by omega)]
    exact ⟨fun _ => k pr' (fun c d hc hd => hl c d (Or.inl (by omega)) hd), fun g => by omega⟩
  | succ m ih =>
    intro j hj pr' w hl
    rw [eX1_listPrices_2]
    simp only [eX1_listPrices_0, eX1_listPrices_1, eX1_listPrices_3, eX1_listPrices_5, eX1_listPrices_8, eX1_listPrices_9, eX1_listPrices_11, eX1_listPrices_13, eX1_listPrices_16, eX1_listPrices_17, eX1_listPrices_20, eX1_listPrices_21, eX1_listPrices_23, eX1_listPrices_24, eX1_listPrices_25, eX1_listPrices_26, eX1_listPrices_27, eX1_listPrices_28, eX1_listPrices_29, eX1_listPrices_32, eX1_listPrices_33, eX1_listPrices_36, eX1_listPrices_39, eX1_listPrices_42, eX1_listPrices_45, Nat.add_zero, Nat.reduceAdd, Nat.reduceLeDiff, Nat.zero_le, and_true, o_aload_0r, o_callV_2, o_const_e, o_getf_e, o_goto_e, o_iast_e, o_icmp_e, o_ii_e, o_iinc_1, o_iinc_2, o_iload_1, o_iload_2, o_ist_1, o_ist_2, o_vret_e, tl_n, tl_s, true_and, xnlv_i, xnlv_n, xnlv_r, xwt_0, xwt_f, xwt_i, xwt_l, xwt_r, n8, le_nI (a := 8) (b := j) (by omega) (by omega)]
    refine ⟨fun g => by omega, fun _ => ?_⟩
    refine l_price1 h ok (by omega) (fun pr2 hl2 => ?_) 8 0 (by omega) pr' hl
    simp only [eX1_listPrices_0, eX1_listPrices_1, eX1_listPrices_3, eX1_listPrices_5, eX1_listPrices_8, eX1_listPrices_9, eX1_listPrices_11, eX1_listPrices_13, eX1_listPrices_16, eX1_listPrices_17, eX1_listPrices_20, eX1_listPrices_21, eX1_listPrices_23, eX1_listPrices_24, eX1_listPrices_25, eX1_listPrices_26, eX1_listPrices_27, eX1_listPrices_28, eX1_listPrices_29, eX1_listPrices_32, eX1_listPrices_33, eX1_listPrices_36, eX1_listPrices_39, eX1_listPrices_42, eX1_listPrices_45, Nat.add_zero, Nat.reduceAdd, Nat.reduceLeDiff, Nat.zero_le, and_true, o_aload_0r, o_callV_2, o_const_e, o_getf_e, o_goto_e, o_iast_e, o_icmp_e, o_ii_e, o_iinc_1, o_iinc_2, o_iload_1, o_iload_2, o_ist_1, o_ist_2, o_vret_e, tl_n, tl_s, true_and, xnlv_i, xnlv_n, xnlv_r, xwt_0, xwt_f, xwt_i, xwt_l, xwt_r, n1, nI_add]
    refine ih (j + 1) (by omega) _ _ (fun c' d hcd hd => ?_)
    rcases hcd with hcd | hcd
    · rcases Nat.lt_or_ge c' j with g | g
      · exact hl2 c' d (Or.inl g) hd
      · exact hl2 c' d (Or.inr ⟨by omega, hd⟩) hd
    · omega
/-- Lattice.listPrices() -/
theorem c_prices (h : LatAt AH b x lk pr) (ok : x.ok) {Q : Option Value → xH → Prop} (k : ∀ pr' : Nat → Int32, PrOK x pr' → Q none (latP AH b x lk pr')) : XC MX1_listPrices [.ref b] AH Q := by
  refine XC.ofR (L := [some (.ref b), none, none]) KX1_listPrices (by decide +kernel) (by first | decide | exact Nat.le_of_ble_eq_true rfl) rfl ?_
  simp only [eX1_listPrices_0, eX1_listPrices_1, eX1_listPrices_3, eX1_listPrices_5, eX1_listPrices_8, eX1_listPrices_9, eX1_listPrices_10, eX1_listPrices_11, eX1_listPrices_13, eX1_listPrices_16, eX1_listPrices_17, eX1_listPrices_20, eX1_listPrices_21, eX1_listPrices_23, eX1_listPrices_24, eX1_listPrices_25, eX1_listPrices_26, eX1_listPrices_27, eX1_listPrices_28, eX1_listPrices_29, eX1_listPrices_32, eX1_listPrices_33, eX1_listPrices_36, eX1_listPrices_39, eX1_listPrices_42, eX1_listPrices_45, Nat.add_zero, Nat.reduceAdd, Nat.reduceLeDiff, Nat.zero_le, and_true, o_aload_0r, o_callV_2, o_const_e, o_getf_e, o_goto_e, o_iast_e, o_icmp_e, o_ii_e, o_iinc_1, o_iinc_2, o_iload_1, o_iload_2, o_ist_1, o_ist_2, o_vret_e, tl_n, tl_s, true_and, xnlv_i, xnlv_n, xnlv_r, xwt_0, xwt_f, xwt_i, xwt_l, xwt_r]
  have := l_price2 h ok (Q := fun v AH' _ => Q v AH') k 8 0 (by omega) pr none (fun c' d hcd _ => by omega)
  rw [latP_self h] at this
  exact this
end LAT5
