/-! a block is filled; events; a new lattice -/
def sLat.fbF (x : sLat) (a c v e : Nat) (i : Nat) : Nat := if a ≤ i ∧ i < e ∧ a % x.wi ≤ i % x.wi ∧ i % x.wi ≤ c % x.wi ∧ x.pn i = 0 then v else x.mk i
def sLat.sFill (x : sLat) (w u v : Int32) : Int32 × sLat := match ix x.n w with
  | none => (-1, x)
  | some a => match ix x.n u with
    | none => (-1, x)
    | some c => match ix 8 v with
      | none => (-2, x)
      | some m => if c / x.wi < a / x.wi ∨ c % x.wi < a % x.wi then (-2, x) else (0, x.amk (x.fbF a c m (c + 1)))
section LAT8
variable {AH : xH} {b : Nat} {x : sLat} {lk pr : Nat → Int32}
theorem fbF_0 {x : sLat} {a c v : Nat} : x.amk (x.fbF a c v a) = x := by
  have : x.fbF a c v a = x.mk := by
    funext i
    unfold sLat.fbF
    rw [if_neg (by omega)]
  rw [this]
  rfl
theorem fbF_s {x : sLat} {a c v e : Nat} (ha : a ≤ e) : (x.amk (x.fbF a c v (e + 1))) = if (a % x.wi ≤ e % x.wi ∧ e % x.wi ≤ c % x.wi) ∧ x.pn e = 0 then (x.amk (x.fbF a c v e)).wmk e v else x.amk (x.fbF a c v e) := by
  split
  · rename_i g
    have : x.fbF a c v (e + 1) = va_up (x.fbF a c v e) e v := by
      funext i
      unfold va_up sLat.fbF
      by_cases h : i = e
      · subst h
        rw [if_pos (by omega), if_pos rfl]
      · rw [if_neg h]
        by_cases h2 : a ≤ i ∧ i < e ∧ a % x.wi ≤ i % x.wi ∧ i % x.wi ≤ c % x.wi ∧ x.pn i = 0
        · rw [if_pos h2, if_pos (by omega)]
        · rw [if_neg h2, if_neg (by omega)]
    rw [this]
    rfl
  · rename_i g
    have : x.fbF a c v (e + 1) = x.fbF a c v e := by
      funext i
      unfold sLat.fbF
      by_cases h2 : a ≤ i ∧ i < e ∧ a % x.wi ≤ i % x.wi ∧ i % x.wi ≤ c % x.wi ∧ x.pn i = 0
      · rw [if_pos h2, if_pos (by omega)]
      · by_cases h : i = e
        · subst h
          rw [if_neg h2, if_neg (by omega)]
        · rw [if_neg h2, if_neg (by omega)]
    rw [this]
/-- Lattice.fillBlock: the loop -/
theorem l_fill (h : LatAt AH b x lk pr) (ok : x.ok) {a c v : Nat} (ha : a < x.n) (hc : c < x.n) (hv : v < 8) {Q : xQ} (k : Q (some (.int 0)) (latP AH b (x.amk (x.fbF a c v (c + 1))) lk pr) (0, 0)) : ∀ (m e : Nat), e + m = c + 1 → a ≤ e → ∀ w : Option Value,
    XR TX1_fillBlock 61 [some (.ref b), some (.int (nI a)), some (.int (nI c)), some (.int (nI v)), some (.int (nI e)), w] [] (latP AH b (x.amk (x.fbF a c v e)) lk pr) (0, 0) Q := by
  have hn := sLat.n36 ok
  have hw := ok.2.2.2.1
  have z : ¬ x.wi = 0 := by omega
  intro m
  induction m with
  | zero =>
    intro e he hae w
    have h' := h.put (x.amk (x.fbF a c v e)) lk pr
    rw [eX1_fillBlock_61]
    simp only [eX1_fillBlock_0, eX1_fillBlock_1, eX1_fillBlock_2, eX1_fillBlock_5, eX1_fillBlock_8, eX1_fillBlock_9, eX1_fillBlock_10, eX1_fillBlock_13, eX1_fillBlock_16, eX1_fillBlock_17, eX1_fillBlock_18, eX1_fillBlock_19, eX1_fillBlock_22, eX1_fillBlock_25, eX1_fillBlock_26, eX1_fillBlock_27, eX1_fillBlock_30, eX1_fillBlock_31, eX1_fillBlock_32, eX1_fillBlock_33, eX1_fillBlock_36, eX1_fillBlock_37, eX1_fillBlock_40, eX1_fillBlock_41, eX1_fillBlock_42, eX1_fillBlock_45, eX1_fillBlock_46, eX1_fillBlock_47, eX1_fillBlock_48, eX1_fillBlock_51, eX1_fillBlock_52, eX1_fillBlock_55, eX1_fillBlock_57, eX1_fillBlock_58, eX1_fillBlock_59, eX1_fillBlock_63, eX1_fillBlock_64, eX1_fillBlock_67, eX1_fillBlock_69, eX1_fillBlock_70, eX1_fillBlock_73, eX1_fillBlock_74, eX1_fillBlock_75, eX1_fillBlock_76, eX1_fillBlock_79, eX1_fillBlock_80, eX1_fillBlock_83, eX1_fillBlock_85, eX1_fillBlock_86, eX1_fillBlock_89, eX1_fillBlock_90, eX1_fillBlock_91, eX1_fillBlock_92, eX1_fillBlock_95, eX1_fillBlock_96, eX1_fillBlock_99, eX1_fillBlock_100, eX1_fillBlock_103, eX1_fillBlock_104, eX1_fillBlock_106, eX1_fillBlock_108, eX1_fillBlock_111, eX1_fillBlock_112, eX1_fillBlock_115, eX1_fillBlock_117, eX1_fillBlock_118, eX1_fillBlock_121, eX1_fillBlock_122, eX1_fillBlock_125, eX1_fillBlock_127, eX1_fillBlock_128, eX1_fillBlock_129, eX1_fillBlock_132, eX1_fillBlock_135, eX1_fillBlock_136, Nat.add_zero, Nat.reduceAdd, Nat.reduceLeDiff, Nat.zero_le, and_true, o_aload_0r, o_callS_1, o_callV_1, o_const_e, o_getf_e, o_goto_e, o_iald_e, o_iald_f, o_iast_e, o_icmp_e, o_idiv_e, o_if_e, o_iinc_4, o_iload_1, o_iload_2, o_iload_3, o_iload_4, o_iload_5, o_irem_e, o_iret_e, o_ist_4, o_ist_5, tl_n, tl_s, true_and, xnlv_i, xnlv_n, xnlv_r, xwt_0, xwt_f, xwt_i, xwt_l, xwt_r, lt_nI (a := c) (b := e) (by omega) (by omega), h'.cls, h'.g0, h'.g1, h'.g2, h'.g3, h'.g4, h'.g5, h'.g6, h'.g7, h'.g8, h'.g9, h'.g10, h'.g11]
    refine ⟨fun _ => ?_, fun g => by omega⟩
    rw [show e = c + 1 by omega]
    exact k
  | succ m ih =>
    intro e he hae w
    have h' := h.put (x.amk (x.fbF a c v e)) lk pr
    have ih := ih (e + 1) (by omega) (by omega)
    rw [fbF_s hae] at ih
    rw [eX1_fillBlock_61]
    have hp := ok.2.1 e
    have ew : (x.amk (x.fbF a c v e)).wi = x.wi := rfl
    have ep : (x.amk (x.fbF a c v e)).pn = x.pn := rfl
    have l1 : e % x.wi < x.wi := Nat.mod_lt _ (by omega)
    have l2 : a % x.wi < x.wi := Nat.mod_lt _ (by omega)
    have l3 : c % x.wi < x.wi := Nat.mod_lt _ (by omega)
    simp only [eX1_fillBlock_0, eX1_fillBlock_1, eX1_fillBlock_2, eX1_fillBlock_5, eX1_fillBlock_8, eX1_fillBlock_9, eX1_fillBlock_10, eX1_fillBlock_13, eX1_fillBlock_16, eX1_fillBlock_17, eX1_fillBlock_18, eX1_fillBlock_19, eX1_fillBlock_22, eX1_fillBlock_25, eX1_fillBlock_26, eX1_fillBlock_27, eX1_fillBlock_30, eX1_fillBlock_31, eX1_fillBlock_32, eX1_fillBlock_33, eX1_fillBlock_36, eX1_fillBlock_37, eX1_fillBlock_40, eX1_fillBlock_41, eX1_fillBlock_42, eX1_fillBlock_45, eX1_fillBlock_46, eX1_fillBlock_47, eX1_fillBlock_48, eX1_fillBlock_51, eX1_fillBlock_52, eX1_fillBlock_55, eX1_fillBlock_57, eX1_fillBlock_58, eX1_fillBlock_59, eX1_fillBlock_63, eX1_fillBlock_64, eX1_fillBlock_67, eX1_fillBlock_69, eX1_fillBlock_70, eX1_fillBlock_73, eX1_fillBlock_74, eX1_fillBlock_75, eX1_fillBlock_76, eX1_fillBlock_79, eX1_fillBlock_80, eX1_fillBlock_83, eX1_fillBlock_85, eX1_fillBlock_86, eX1_fillBlock_89, eX1_fillBlock_90, eX1_fillBlock_91, eX1_fillBlock_92, eX1_fillBlock_95, eX1_fillBlock_96, eX1_fillBlock_99, eX1_fillBlock_100, eX1_fillBlock_103, eX1_fillBlock_104, eX1_fillBlock_106, eX1_fillBlock_108, eX1_fillBlock_111, eX1_fillBlock_112, eX1_fillBlock_115, eX1_fillBlock_117, eX1_fillBlock_118, eX1_fillBlock_121, eX1_fillBlock_122, eX1_fillBlock_125, eX1_fillBlock_127, eX1_fillBlock_128, eX1_fillBlock_129, eX1_fillBlock_132, eX1_fillBlock_135, eX1_fillBlock_136, Nat.add_zero, Nat.reduceAdd, Nat.reduceLeDiff, Nat.zero_le, and_true, o_aload_0r, o_callS_1, o_callV_1, o_const_e, o_getf_e, o_goto_e, o_iald_e, o_iald_f, o_iast_e, o_icmp_e, o_idiv_e, o_if_e, o_iinc_4, o_iload_1, o_iload_2, o_iload_3, o_iload_4, o_iload_5, o_irem_e, o_iret_e, o_ist_4, o_ist_5, tl_n, tl_s, true_and, xnlv_i, xnlv_n, xnlv_r, xwt_0, xwt_f, xwt_i, xwt_l, xwt_r, lt_nI (a := c) (b := e) (by omega) (by omega), h'.cls, h'.g0, h'.g1, h'.g2, h'.g3, h'.g4, h'.g5, h'.g6, h'.g7, h'.g8, h'.g9, h'.g10, h'.g11, ew, eq0_nI (a := x.wi) (by omega), pk_div (a := e) (d := x.wi) (by omega) (by omega) (by omega), pk_div (a := a) (d := x.wi) (by omega) (by omega) (by omega), pk_div (a := c) (d := x.wi) (by omega) (by omega) (by omega), rem2, lt_nI (a := e % x.wi) (b := a % x.wi) (by omega) (by omega), lt_nI (a := c % x.wi) (b := e % x.wi) (by omega) (by omega), h'.rp (c := e) (by omega), ep, eq0_nI (a := x.pn e) (by omega), h'.wm (c := e) (v := v) (by omega), latP_latP h.lt, not_true_eq_false, not_false_eq_true, true_implies, false_implies, and_true, true_and, implies_true, forall_const, ↓reduceIte, Bool.false_eq_true, i10, i10n, eq_self, n1, nI_add, z]
    refine ⟨fun g => by omega, fun _ => ⟨fun g => ?_, fun g => ⟨fun g2 => ?_, fun g2 => ⟨fun g3 => ?_, fun g3 => ?_⟩⟩⟩⟩
    · rw [if_neg (by omega)] at ih
      exact ih _
    · rw [if_neg (by omega)] at ih
      exact ih _
    · rw [if_neg (by omega)] at ih
      exact ih _
    · rw [if_pos (by omega)] at ih
      exact ih _
theorem c_fill (h : LatAt AH b x lk pr) (ok : x.ok) {w u v : Int32} {Q : Option Value → xH → Prop} (k : Q (some (.int (x.sFill w u v).1)) (latP AH b (x.sFill w u v).2 lk pr)) : XC MX1_fillBlock [.ref b, .int w, .int u, .int v] AH Q := by
  have hn := sLat.n36 ok
  have hw := ok.2.2.2.1
  have z : ¬ x.wi = 0 := by omega
  unfold sLat.sFill at k
  refine XC.ofR (L := [some (.ref b), some (.int w), some (.int u), some (.int v), none, none]) KX1_fillBlock (by decide +kernel) (by first | decide | exact Nat.le_of_ble_eq_true rfl) rfl ?_
  simp only [eX1_fillBlock_0, eX1_fillBlock_1, eX1_fillBlock_2, eX1_fillBlock_5, eX1_fillBlock_8, eX1_fillBlock_9, eX1_fillBlock_10, eX1_fillBlock_13, eX1_fillBlock_16, eX1_fillBlock_17, eX1_fillBlock_18, eX1_fillBlock_19, eX1_fillBlock_22, eX1_fillBlock_25, eX1_fillBlock_26, eX1_fillBlock_27, eX1_fillBlock_30, eX1_fillBlock_31, eX1_fillBlock_32, eX1_fillBlock_33, eX1_fillBlock_36, eX1_fillBlock_37, eX1_fillBlock_40, eX1_fillBlock_41, eX1_fillBlock_42, eX1_fillBlock_45, eX1_fillBlock_46, eX1_fillBlock_47, eX1_fillBlock_48, eX1_fillBlock_51, eX1_fillBlock_52, eX1_fillBlock_55, eX1_fillBlock_57, eX1_fillBlock_58, eX1_fillBlock_59, eX1_fillBlock_63, eX1_fillBlock_64, eX1_fillBlock_67, eX1_fillBlock_69, eX1_fillBlock_70, eX1_fillBlock_73, eX1_fillBlock_74, eX1_fillBlock_75, eX1_fillBlock_76, eX1_fillBlock_79, eX1_fillBlock_80, eX1_fillBlock_83, eX1_fillBlock_85, eX1_fillBlock_86, eX1_fillBlock_89, eX1_fillBlock_90, eX1_fillBlock_91, eX1_fillBlock_92, eX1_fillBlock_95, eX1_fillBlock_96, eX1_fillBlock_99, eX1_fillBlock_100, eX1_fillBlock_103, eX1_fillBlock_104, eX1_fillBlock_106, eX1_fillBlock_108, eX1_fillBlock_111, eX1_fillBlock_112, eX1_fillBlock_115, eX1_fillBlock_117, eX1_fillBlock_118, eX1_fillBlock_121, eX1_fillBlock_122, eX1_fillBlock_125, eX1_fillBlock_127, eX1_fillBlock_128, eX1_fillBlock_129, eX1_fillBlock_132, eX1_fillBlock_135, eX1_fillBlock_136, Nat.add_zero, Nat.reduceAdd, Nat.reduceLeDiff, Nat.zero_le, and_true, o_aload_0r, o_callS_1, o_callV_1, o_const_e, o_getf_e, o_goto_e, o_iald_e, o_iald_f, o_iast_e, o_icmp_e, o_idiv_e, o_if_e, o_iinc_4, o_iload_1, o_iload_2, o_iload_3, o_iload_4, o_iload_5, o_irem_e, o_iret_e, o_ist_4, o_ist_5, tl_n, tl_s, true_and, xnlv_i, xnlv_n, xnlv_r, xwt_0, xwt_f, xwt_i, xwt_l, xwt_r, h.cls, h.g0, h.g1, h.g2, h.g3, h.g4, h.g5, h.g6, h.g7, h.g8, h.g9, h.g10, h.g11]
  refine c_hasCell h ok ?_
  cases hj : ix x.n w with
  | none =>
    simp only [hj] at k
    rw [latP_self h] at k
    simp only [eX1_fillBlock_0, eX1_fillBlock_1, eX1_fillBlock_2, eX1_fillBlock_5, eX1_fillBlock_8, eX1_fillBlock_9, eX1_fillBlock_10, eX1_fillBlock_13, eX1_fillBlock_16, eX1_fillBlock_17, eX1_fillBlock_18, eX1_fillBlock_19, eX1_fillBlock_22, eX1_fillBlock_25, eX1_fillBlock_26, eX1_fillBlock_27, eX1_fillBlock_30, eX1_fillBlock_31, eX1_fillBlock_32, eX1_fillBlock_33, eX1_fillBlock_36, eX1_fillBlock_37, eX1_fillBlock_40, eX1_fillBlock_41, eX1_fillBlock_42, eX1_fillBlock_45, eX1_fillBlock_46, eX1_fillBlock_47, eX1_fillBlock_48, eX1_fillBlock_51, eX1_fillBlock_52, eX1_fillBlock_55, eX1_fillBlock_57, eX1_fillBlock_58, eX1_fillBlock_59, eX1_fillBlock_63, eX1_fillBlock_64, eX1_fillBlock_67, eX1_fillBlock_69, eX1_fillBlock_70, eX1_fillBlock_73, eX1_fillBlock_74, eX1_fillBlock_75, eX1_fillBlock_76, eX1_fillBlock_79, eX1_fillBlock_80, eX1_fillBlock_83, eX1_fillBlock_85, eX1_fillBlock_86, eX1_fillBlock_89, eX1_fillBlock_90, eX1_fillBlock_91, eX1_fillBlock_92, eX1_fillBlock_95, eX1_fillBlock_96, eX1_fillBlock_99, eX1_fillBlock_100, eX1_fillBlock_103, eX1_fillBlock_104, eX1_fillBlock_106, eX1_fillBlock_108, eX1_fillBlock_111, eX1_fillBlock_112, eX1_fillBlock_115, eX1_fillBlock_117, eX1_fillBlock_118, eX1_fillBlock_121, eX1_fillBlock_122, eX1_fillBlock_125, eX1_fillBlock_127, eX1_fillBlock_128, eX1_fillBlock_129, eX1_fillBlock_132, eX1_fillBlock_135, eX1_fillBlock_136, Nat.add_zero, Nat.reduceAdd, Nat.reduceLeDiff, Nat.zero_le, and_true, o_aload_0r, o_callS_1, o_callV_1, o_const_e, o_getf_e, o_goto_e, o_iald_e, o_iald_f, o_iast_e, o_icmp_e, o_idiv_e, o_if_e, o_iinc_4, o_iload_1, o_iload_2, o_iload_3, o_iload_4, o_iload_5, o_irem_e, o_iret_e, o_ist_4, o_ist_5, tl_n, tl_s, true_and, xnlv_i, xnlv_n, xnlv_r, xwt_0, xwt_f, xwt_i, xwt_l, xwt_r, Option.isSome, not_true_eq_false, not_false_eq_true, true_implies, false_implies, and_true, true_and, implies_true, forall_const, ↓reduceIte, Bool.false_eq_true, i10, i10n]
    exact k
  | some a =>
    simp only [hj] at k
    obtain ⟨ha, rfl⟩ := ix_s (by omega) hj
    simp only [eX1_fillBlock_0, eX1_fillBlock_1, eX1_fillBlock_2, eX1_fillBlock_5, eX1_fillBlock_8, eX1_fillBlock_9, eX1_fillBlock_10, eX1_fillBlock_13, eX1_fillBlock_16, eX1_fillBlock_17, eX1_fillBlock_18, eX1_fillBlock_19, eX1_fillBlock_22, eX1_fillBlock_25, eX1_fillBlock_26, eX1_fillBlock_27, eX1_fillBlock_30, eX1_fillBlock_31, eX1_fillBlock_32, eX1_fillBlock_33, eX1_fillBlock_36, eX1_fillBlock_37, eX1_fillBlock_40, eX1_fillBlock_41, eX1_fillBlock_42, eX1_fillBlock_45, eX1_fillBlock_46, eX1_fillBlock_47, eX1_fillBlock_48, eX1_fillBlock_51, eX1_fillBlock_52, eX1_fillBlock_55, eX1_fillBlock_57, eX1_fillBlock_58, eX1_fillBlock_59, eX1_fillBlock_63, eX1_fillBlock_64, eX1_fillBlock_67, eX1_fillBlock_69, eX1_fillBlock_70, eX1_fillBlock_73, eX1_fillBlock_74, eX1_fillBlock_75, eX1_fillBlock_76, eX1_fillBlock_79, eX1_fillBlock_80, eX1_fillBlock_83, eX1_fillBlock_85, eX1_fillBlock_86, eX1_fillBlock_89, eX1_fillBlock_90, eX1_fillBlock_91, eX1_fillBlock_92, eX1_fillBlock_95, eX1_fillBlock_96, eX1_fillBlock_99, eX1_fillBlock_100, eX1_fillBlock_103, eX1_fillBlock_104, eX1_fillBlock_106, eX1_fillBlock_108, eX1_fillBlock_111, eX1_fillBlock_112, eX1_fillBlock_115, eX1_fillBlock_117, eX1_fillBlock_118, eX1_fillBlock_121, eX1_fillBlock_122, eX1_fillBlock_125, eX1_fillBlock_127, eX1_fillBlock_128, eX1_fillBlock_129, eX1_fillBlock_132, eX1_fillBlock_135, eX1_fillBlock_136, Nat.add_zero, Nat.reduceAdd, Nat.reduceLeDiff, Nat.zero_le, and_true, o_aload_0r, o_callS_1, o_callV_1, o_const_e, o_getf_e, o_goto_e, o_iald_e, o_iald_f, o_iast_e, o_icmp_e, o_idiv_e, o_if_e, o_iinc_4, o_iload_1, o_iload_2, o_iload_3, o_iload_4, o_iload_5, o_irem_e, o_iret_e, o_ist_4, o_ist_5, tl_n, tl_s, true_and, xnlv_i, xnlv_n, xnlv_r, xwt_0, xwt_f, xwt_i, xwt_l, xwt_r, Option.isSome, not_true_eq_false, not_false_eq_true, true_implies, false_implies, and_true, true_and, implies_true, forall_const, ↓reduceIte, Bool.false_eq_true, i10, i10n, h.cls, h.g0, h.g1, h.g2, h.g3, h.g4, h.g5, h.g6, h.g7, h.g8, h.g9, h.g10, h.g11]
    refine c_hasCell h ok ?_
    cases hj2 : ix x.n u with
    | none =>
      simp only [hj2] at k
      rw [latP_self h] at k
      simp only [eX1_fillBlock_0, eX1_fillBlock_1, eX1_fillBlock_2, eX1_fillBlock_5, eX1_fillBlock_8, eX1_fillBlock_9, eX1_fillBlock_10, eX1_fillBlock_13, eX1_fillBlock_16, eX1_fillBlock_17, eX1_fillBlock_18, eX1_fillBlock_19, eX1_fillBlock_22, eX1_fillBlock_25, eX1_fillBlock_26, eX1_fillBlock_27, eX1_fillBlock_30, eX1_fillBlock_31, eX1_fillBlock_32, eX1_fillBlock_33, eX1_fillBlock_36, eX1_fillBlock_37, eX1_fillBlock_40, eX1_fillBlock_41, eX1_fillBlock_42, eX1_fillBlock_45, eX1_fillBlock_46, eX1_fillBlock_47, eX1_fillBlock_48, eX1_fillBlock_51, eX1_fillBlock_52, eX1_fillBlock_55, eX1_fillBlock_57, eX1_fillBlock_58, eX1_fillBlock_59, eX1_fillBlock_63, eX1_fillBlock_64, eX1_fillBlock_67, eX1_fillBlock_69, eX1_fillBlock_70, eX1_fillBlock_73, eX1_fillBlock_74, eX1_fillBlock_75, eX1_fillBlock_76, eX1_fillBlock_79, eX1_fillBlock_80, eX1_fillBlock_83, eX1_fillBlock_85, eX1_fillBlock_86, eX1_fillBlock_89, eX1_fillBlock_90, eX1_fillBlock_91, eX1_fillBlock_92, eX1_fillBlock_95, eX1_fillBlock_96, eX1_fillBlock_99, eX1_fillBlock_100, eX1_fillBlock_103, eX1_fillBlock_104, eX1_fillBlock_106, eX1_fillBlock_108, eX1_fillBlock_111, eX1_fillBlock_112, eX1_fillBlock_115, eX1_fillBlock_117, eX1_fillBlock_118, eX1_fillBlock_121, eX1_fillBlock_122, eX1_fillBlock_125, eX1_fillBlock_127, eX1_fillBlock_128, eX1_fillBlock_129, eX1_fillBlock_132, eX1_fillBlock_135, eX1_fillBlock_136, Nat.add_zero, Nat.reduceAdd, Nat.reduceLeDiff, Nat.zero_le, and_true, o_aload_0r, o_callS_1, o_callV_1, o_const_e, o_getf_e, o_goto_e, o_iald_e, o_iald_f, o_iast_e, o_icmp_e, o_idiv_e, o_if_e, o_iinc_4, o_iload_1, o_iload_2, o_iload_3, o_iload_4, o_iload_5, o_irem_e, o_iret_e, o_ist_4, o_ist_5, tl_n, tl_s, true_and, xnlv_i, xnlv_n, xnlv_r, xwt_0, xwt_f, xwt_i, xwt_l, xwt_r, Option.isSome, not_true_eq_false, not_false_eq_true, true_implies, false_implies, and_true, true_and, implies_true, forall_const, ↓reduceIte, Bool.false_eq_true, i10, i10n]
      exact k
    | some c =>
      simp only [hj2] at k
      obtain ⟨hc, rfl⟩ := ix_s (by omega) hj2
      simp only [eX1_fillBlock_0, eX1_fillBlock_1, eX1_fillBlock_2, eX1_fillBlock_5, eX1_fillBlock_8, eX1_fillBlock_9, eX1_fillBlock_10, eX1_fillBlock_13, eX1_fillBlock_16, eX1_fillBlock_17, eX1_fillBlock_18, eX1_fillBlock_19, eX1_fillBlock_22, eX1_fillBlock_25, eX1_fillBlock_26, eX1_fillBlock_27, eX1_fillBlock_30, eX1_fillBlock_31, eX1_fillBlock_32, eX1_fillBlock_33, eX1_fillBlock_36, eX1_fillBlock_37, eX1_fillBlock_40, eX1_fillBlock_41, eX1_fillBlock_42, eX1_fillBlock_45, eX1_fillBlock_46, eX1_fillBlock_47, eX1_fillBlock_48, eX1_fillBlock_51, eX1_fillBlock_52, eX1_fillBlock_55, eX1_fillBlock_57, eX1_fillBlock_58, eX1_fillBlock_59, eX1_fillBlock_63, eX1_fillBlock_64, eX1_fillBlock_67, eX1_fillBlock_69, eX1_fillBlock_70, eX1_fillBlock_73, eX1_fillBlock_74, eX1_fillBlock_75, eX1_fillBlock_76, eX1_fillBlock_79, eX1_fillBlock_80, eX1_fillBlock_83, eX1_fillBlock_85, eX1_fillBlock_86, eX1_fillBlock_89, eX1_fillBlock_90, eX1_fillBlock_91, eX1_fillBlock_92, eX1_fillBlock_95, eX1_fillBlock_96, eX1_fillBlock_99, eX1_fillBlock_100, eX1_fillBlock_103, eX1_fillBlock_104, eX1_fillBlock_106, eX1_fillBlock_108, eX1_fillBlock_111, eX1_fillBlock_112, eX1_fillBlock_115, eX1_fillBlock_117, eX1_fillBlock_118, eX1_fillBlock_121, eX1_fillBlock_122, eX1_fillBlock_125, eX1_fillBlock_127, eX1_fillBlock_128, eX1_fillBlock_129, eX1_fillBlock_132, eX1_fillBlock_135, eX1_fillBlock_136, Nat.add_zero, Nat.reduceAdd, Nat.reduceLeDiff, Nat.zero_le, and_true, o_aload_0r, o_callS_1, o_callV_1, o_const_e, o_getf_e, o_goto_e, o_iald_e, o_iald_f, o_iast_e, o_icmp_e, o_idiv_e, o_if_e, o_iinc_4, o_iload_1, o_iload_2, o_iload_3, o_iload_4, o_iload_5, o_irem_e, o_iret_e, o_ist_4, o_ist_5, tl_n, tl_s, true_and, xnlv_i, xnlv_n, xnlv_r, xwt_0, xwt_f, xwt_i, xwt_l, xwt_r, Option.isSome, not_true_eq_false, not_false_eq_true, true_implies, false_implies, and_true, true_and, implies_true, forall_const, ↓reduceIte, Bool.false_eq_true, i10, i10n, h.cls, h.g0, h.g1, h.g2, h.g3, h.g4, h.g5, h.g6, h.g7, h.g8, h.g9, h.g10, h.g11]
      refine c_isMark ?_
      cases hm : ix 8 v with
      | none =>
        simp only [hm] at k
        rw [latP_self h] at k
        simp only [eX1_fillBlock_0, eX1_fillBlock_1, eX1_fillBlock_2, eX1_fillBlock_5, eX1_fillBlock_8, eX1_fillBlock_9, eX1_fillBlock_10, eX1_fillBlock_13, eX1_fillBlock_16, eX1_fillBlock_17, eX1_fillBlock_18, eX1_fillBlock_19, eX1_fillBlock_22, eX1_fillBlock_25, eX1_fillBlock_26, eX1_fillBlock_27, eX1_fillBlock_30, eX1_fillBlock_31, eX1_fillBlock_32, eX1_fillBlock_33, eX1_fillBlock_36, eX1_fillBlock_37, eX1_fillBlock_40, eX1_fillBlock_41, eX1_fillBlock_42, eX1_fillBlock_45, eX1_fillBlock_46, eX1_fillBlock_47, eX1_fillBlock_48, eX1_fillBlock_51, eX1_fillBlock_52, eX1_fillBlock_55, eX1_fillBlock_57, eX1_fillBlock_58, eX1_fillBlock_59, eX1_fillBlock_63, eX1_fillBlock_64, eX1_fillBlock_67, eX1_fillBlock_69, eX1_fillBlock_70, eX1_fillBlock_73, eX1_fillBlock_74, eX1_fillBlock_75, eX1_fillBlock_76, eX1_fillBlock_79, eX1_fillBlock_80, eX1_fillBlock_83, eX1_fillBlock_85, eX1_fillBlock_86, eX1_fillBlock_89, eX1_fillBlock_90, eX1_fillBlock_91, eX1_fillBlock_92, eX1_fillBlock_95, eX1_fillBlock_96, eX1_fillBlock_99, eX1_fillBlock_100, eX1_fillBlock_103, eX1_fillBlock_104, eX1_fillBlock_106, eX1_fillBlock_108, eX1_fillBlock_111, eX1_fillBlock_112, eX1_fillBlock_115, eX1_fillBlock_117, eX1_fillBlock_118, eX1_fillBlock_121, eX1_fillBlock_122, eX1_fillBlock_125, eX1_fillBlock_127, eX1_fillBlock_128, eX1_fillBlock_129, eX1_fillBlock_132, eX1_fillBlock_135, eX1_fillBlock_136, Nat.add_zero, Nat.reduceAdd, Nat.reduceLeDiff, Nat.zero_le, and_true, o_aload_0r, o_callS_1, o_callV_1, o_const_e, o_getf_e, o_goto_e, o_iald_e, o_iald_f, o_iast_e, o_icmp_e, o_idiv_e, o_if_e, o_iinc_4, o_iload_1, o_iload_2, o_iload_3, o_iload_4, o_iload_5, o_irem_e, o_iret_e, o_ist_4, o_ist_5, tl_n, tl_s, true_and, xnlv_i, xnlv_n, xnlv_r, xwt_0, xwt_f, xwt_i, xwt_l, xwt_r, Option.isSome, not_true_eq_false, not_false_eq_true, true_implies, false_implies, and_true, true_and, implies_true, forall_const, ↓reduceIte, Bool.false_eq_true, i10, i10n]
        exact k
      | some m =>
        simp only [hm] at k
        obtain ⟨hm1, rfl⟩ := ix_s (by omega) hm
        have d1 : a / x.wi ≤ a := Nat.div_le_self _ _
        have d2 : c / x.wi ≤ c := Nat.div_le_self _ _
        have l2 : a % x.wi < x.wi := Nat.mod_lt _ (by omega)
        have l3 : c % x.wi < x.wi := Nat.mod_lt _ (by omega)
        simp only [eX1_fillBlock_0, eX1_fillBlock_1, eX1_fillBlock_2, eX1_fillBlock_5, eX1_fillBlock_8, eX1_fillBlock_9, eX1_fillBlock_10, eX1_fillBlock_13, eX1_fillBlock_16, eX1_fillBlock_17, eX1_fillBlock_18, eX1_fillBlock_19, eX1_fillBlock_22, eX1_fillBlock_25, eX1_fillBlock_26, eX1_fillBlock_27, eX1_fillBlock_30, eX1_fillBlock_31, eX1_fillBlock_32, eX1_fillBlock_33, eX1_fillBlock_36, eX1_fillBlock_37, eX1_fillBlock_40, eX1_fillBlock_41, eX1_fillBlock_42, eX1_fillBlock_45, eX1_fillBlock_46, eX1_fillBlock_47, eX1_fillBlock_48, eX1_fillBlock_51, eX1_fillBlock_52, eX1_fillBlock_55, eX1_fillBlock_57, eX1_fillBlock_58, eX1_fillBlock_59, eX1_fillBlock_63, eX1_fillBlock_64, eX1_fillBlock_67, eX1_fillBlock_69, eX1_fillBlock_70, eX1_fillBlock_73, eX1_fillBlock_74, eX1_fillBlock_75, eX1_fillBlock_76, eX1_fillBlock_79, eX1_fillBlock_80, eX1_fillBlock_83, eX1_fillBlock_85, eX1_fillBlock_86, eX1_fillBlock_89, eX1_fillBlock_90, eX1_fillBlock_91, eX1_fillBlock_92, eX1_fillBlock_95, eX1_fillBlock_96, eX1_fillBlock_99, eX1_fillBlock_100, eX1_fillBlock_103, eX1_fillBlock_104, eX1_fillBlock_106, eX1_fillBlock_108, eX1_fillBlock_111, eX1_fillBlock_112, eX1_fillBlock_115, eX1_fillBlock_117, eX1_fillBlock_118, eX1_fillBlock_121, eX1_fillBlock_122, eX1_fillBlock_125, eX1_fillBlock_127, eX1_fillBlock_128, eX1_fillBlock_129, eX1_fillBlock_132, eX1_fillBlock_135, eX1_fillBlock_136, Nat.add_zero, Nat.reduceAdd, Nat.reduceLeDiff, Nat.zero_le, and_true, o_aload_0r, o_callS_1, o_callV_1, o_const_e, o_getf_e, o_goto_e, o_iald_e, o_iald_f, o_iast_e, o_icmp_e, o_idiv_e, o_if_e, o_iinc_4, o_iload_1, o_iload_2, o_iload_3, o_iload_4, o_iload_5, o_irem_e, o_iret_e, o_ist_4, o_ist_5, tl_n, tl_s, true_and, xnlv_i, xnlv_n, xnlv_r, xwt_0, xwt_f, xwt_i, xwt_l, xwt_r, Option.isSome, not_true_eq_false, not_false_eq_true, true_implies, false_implies, and_true, true_and, implies_true, forall_const, ↓reduceIte, Bool.false_eq_true, i10, i10n, h.cls, h.g0, h.g1, h.g2, h.g3, h.g4, h.g5, h.g6, h.g7, h.g8, h.g9, h.g10, h.g11, eq0_nI (a := x.wi) (by omega), pk_div (a := a) (d := x.wi) (by omega) (by omega) (by omega), pk_div (a := c) (d := x.wi) (by omega) (by omega) (by omega), rem2, lt_nI (a := c / x.wi) (b := a / x.wi) (by omega) (by omega), le_nI (a := a % x.wi) (b := c % x.wi) (by omega) (by omega), z]
        refine ⟨fun g => ?_, fun g => ⟨fun g2 => ?_, fun g2 => ?_⟩⟩
        · rw [if_pos (Or.inl g), latP_self h] at k
          exact k
        · rw [if_neg (by omega)] at k
          have hle : a ≤ c := by
            have e1 := Nat.div_add_mod' a x.wi
            have e2 := Nat.div_add_mod' c x.wi
            have := Nat.mul_le_mul_right x.wi (show a / x.wi ≤ c / x.wi by omega)
            omega
          have := l_fill h ok ha hc hm1 (Q := fun v AH' _ => Q v AH') k (c + 1 - a) a (by omega) (Nat.le_refl a) none
          rw [fbF_0, latP_self h] at this
          exact this
        · rw [if_pos (by omega), latP_self h] at k
          exact k
/-- Lattice.undergo(what, n): events as they are kept -/
noncomputable def sLat.ev (x : sLat) (w n : Nat) : sLat := match w with
  | 0 => (x.trN n).1
  | 1 => (x.coN n).1
  | 2 => if n < x.n then x.wpn n (1 - x.pn n) else x
  | 3 => x.whe n
  | _ => x.wse (nI n)
theorem ev_ok {x : sLat} (ok : x.ok) {w n : Nat} (hn : n ≤ 99) : (x.ev w n).ok := by
  have h36 := sLat.n36 ok
  unfold sLat.ev
  split
  · exact trN_ok ok n
  · exact coN_ok ok n
  · split
    · exact ok_wpn ok (by omega) (by have := ok.2.1 n; omega)
    · exact ok
  · exact ok_whe ok hn
  · exact ok_wse ok
theorem ev_lk {x : sLat} {lk : Nat → Int32} (h : LkOK x lk) {w n : Nat} : LkOK (x.ev w n) lk := by
  unfold sLat.ev
  split
  · exact (trN_sim n).lk h
  · exact (coN_sim n).lk h
  · split
    · exact h
    · exact h
  · exact h
  · exact sim_wse.lk h
theorem ev_pr {x : sLat} {lk : Nat → Int32} (h : PrOK x lk) {w n : Nat} : PrOK (x.ev w n) lk := by
  unfold sLat.ev
  split
  · exact (trN_sim n).pr h
  · exact (coN_sim n).pr h
  · split
    · exact h
    · exact h
  · exact h
  · exact sim_wse.pr h
theorem c_undergo (h : LatAt AH b x lk pr) (ok : x.ok) (hk : LkOK x lk) (hp : PrOK x pr) {w n : Nat} (hw : w ≤ 4) (hnn : n ≤ 99) {Q : Option Value → xH → Prop} (k : Q none (latP AH b (x.ev w n) lk pr)) : XC MX1_undergo [.ref b, .int (nI w), .int (nI n)] AH Q := by
  have hn := sLat.n36 ok
  unfold sLat.ev at k
  refine XC.ofR (L := [some (.ref b), some (.int (nI w)), some (.int (nI n))]) KX1_undergo (by decide +kernel) (by first | decide | exact Nat.le_of_ble_eq_true rfl) rfl ?_
  simp only [eX1_undergo_0, eX1_undergo_1, eX1_undergo_32, eX1_undergo_33, eX1_undergo_34, eX1_undergo_37, eX1_undergo_38, eX1_undergo_41, eX1_undergo_42, eX1_undergo_43, eX1_undergo_46, eX1_undergo_47, eX1_undergo_50, eX1_undergo_51, eX1_undergo_52, eX1_undergo_55, eX1_undergo_56, eX1_undergo_59, eX1_undergo_60, eX1_undergo_61, eX1_undergo_64, eX1_undergo_67, eX1_undergo_68, eX1_undergo_69, eX1_undergo_72, Nat.add_zero, Nat.reduceAdd, Nat.reduceLeDiff, Nat.zero_le, and_true, o_aload_0r, o_callV_1, o_goto_e, o_iload_1, o_iload_2, o_pop_e, o_putf_e, o_sw_e, o_vret_e, tl_n, tl_s, true_and, xc1_i, xc1_r, xfit_a, xfit_i, xfit_l, xfit_o, xsw_0, xsw_1, xwt_0, xwt_f, xwt_i, xwt_l, xwt_r, h.cls, h.g0, h.g1, h.g2, h.g3, h.g4, h.g5, h.g6, h.g7, h.g8, h.g9, h.g10, h.g11, eq0_nI (a := w) (by omega), n1, n2, n3, eq_nI (a := w) (b := 1) (by omega) (by omega), eq_nI (a := w) (b := 2) (by omega) (by omega), eq_nI (a := w) (b := 3) (by omega) (by omega)]
  rcases (show w = 0 ∨ w = 1 ∨ w = 2 ∨ w = 3 ∨ w = 4 by omega) with rfl | rfl | rfl | rfl | rfl <;> simp only [not_true_eq_false, not_false_eq_true, true_implies, false_implies, and_true, true_and, implies_true, forall_const, or_true, true_or, or_false, false_or, or_self, and_self, and_false, false_and, ↓reduceIte, Nat.reduceEqDiff, Nat.succ_ne_zero, Nat.one_ne_zero, reduceCtorEq] at k ⊢
  · refine c_runTries h ok hk hp (by omega) ?_
    simp only [eX1_undergo_0, eX1_undergo_1, eX1_undergo_32, eX1_undergo_33, eX1_undergo_34, eX1_undergo_37, eX1_undergo_38, eX1_undergo_41, eX1_undergo_42, eX1_undergo_43, eX1_undergo_46, eX1_undergo_47, eX1_undergo_50, eX1_undergo_51, eX1_undergo_52, eX1_undergo_55, eX1_undergo_56, eX1_undergo_59, eX1_undergo_60, eX1_undergo_61, eX1_undergo_64, eX1_undergo_67, eX1_undergo_68, eX1_undergo_69, eX1_undergo_72, Nat.add_zero, Nat.reduceAdd, Nat.reduceLeDiff, Nat.zero_le, and_true, o_aload_0r, o_callV_1, o_goto_e, o_iload_1, o_iload_2, o_pop_e, o_putf_e, o_sw_e, o_vret_e, tl_n, tl_s, true_and, xc1_i, xc1_r, xfit_a, xfit_i, xfit_l, xfit_o, xsw_0, xsw_1, xwt_0, xwt_f, xwt_i, xwt_l, xwt_r]
    exact k
  · refine c_runRounds h ok hk hp (by omega) ?_
    simp only [eX1_undergo_0, eX1_undergo_1, eX1_undergo_32, eX1_undergo_33, eX1_undergo_34, eX1_undergo_37, eX1_undergo_38, eX1_undergo_41, eX1_undergo_42, eX1_undergo_43, eX1_undergo_46, eX1_undergo_47, eX1_undergo_50, eX1_undergo_51, eX1_undergo_52, eX1_undergo_55, eX1_undergo_56, eX1_undergo_59, eX1_undergo_60, eX1_undergo_61, eX1_undergo_64, eX1_undergo_67, eX1_undergo_68, eX1_undergo_69, eX1_undergo_72, Nat.add_zero, Nat.reduceAdd, Nat.reduceLeDiff, Nat.zero_le, and_true, o_aload_0r, o_callV_1, o_goto_e, o_iload_1, o_iload_2, o_pop_e, o_putf_e, o_sw_e, o_vret_e, tl_n, tl_s, true_and, xc1_i, xc1_r, xfit_a, xfit_i, xfit_l, xfit_o, xsw_0, xsw_1, xwt_0, xwt_f, xwt_i, xwt_l, xwt_r]
    exact k
  · refine c_turnPin h ok ?_
    unfold sLat.sTurn
    rcases ix_cases (n := x.n) (by omega) (nI n) with ⟨j, hj, e1, e⟩ | ⟨h0, e⟩ | ⟨h0, h1, e⟩ <;> simp only [e]
    · have := (nI_eq (by omega) (by omega)).mp e1
      subst this
      rw [if_pos hj] at k
      simp only [eX1_undergo_0, eX1_undergo_1, eX1_undergo_32, eX1_undergo_33, eX1_undergo_34, eX1_undergo_37, eX1_undergo_38, eX1_undergo_41, eX1_undergo_42, eX1_undergo_43, eX1_undergo_46, eX1_undergo_47, eX1_undergo_50, eX1_undergo_51, eX1_undergo_52, eX1_undergo_55, eX1_undergo_56, eX1_undergo_59, eX1_undergo_60, eX1_undergo_61, eX1_undergo_64, eX1_undergo_67, eX1_undergo_68, eX1_undergo_69, eX1_undergo_72, Nat.add_zero, Nat.reduceAdd, Nat.reduceLeDiff, Nat.zero_le, and_true, o_aload_0r, o_callV_1, o_goto_e, o_iload_1, o_iload_2, o_pop_e, o_putf_e, o_sw_e, o_vret_e, tl_n, tl_s, true_and, xc1_i, xc1_r, xfit_a, xfit_i, xfit_l, xfit_o, xsw_0, xsw_1, xwt_0, xwt_f, xwt_i, xwt_l, xwt_r]
      exact k
    · exact absurd h0 (nI_pos (by omega))
    · rw [le_nI (by omega) (by omega)] at h1
      rw [if_neg (by omega)] at k
      simp only [eX1_undergo_0, eX1_undergo_1, eX1_undergo_32, eX1_undergo_33, eX1_undergo_34, eX1_undergo_37, eX1_undergo_38, eX1_undergo_41, eX1_undergo_42, eX1_undergo_43, eX1_undergo_46, eX1_undergo_47, eX1_undergo_50, eX1_undergo_51, eX1_undergo_52, eX1_undergo_55, eX1_undergo_56, eX1_undergo_59, eX1_undergo_60, eX1_undergo_61, eX1_undergo_64, eX1_undergo_67, eX1_undergo_68, eX1_undergo_69, eX1_undergo_72, Nat.add_zero, Nat.reduceAdd, Nat.reduceLeDiff, Nat.zero_le, and_true, o_aload_0r, o_callV_1, o_goto_e, o_iload_1, o_iload_2, o_pop_e, o_putf_e, o_sw_e, o_vret_e, tl_n, tl_s, true_and, xc1_i, xc1_r, xfit_a, xfit_i, xfit_l, xfit_o, xsw_0, xsw_1, xwt_0, xwt_f, xwt_i, xwt_l, xwt_r]
      exact k
  · rw [h.p6]
    exact k
  · rw [h.p7]
    exact k
end LAT8
