/-! the reference: cooling, copies -/
theorem clF_inv {x : sLat} {c : Nat} : ∀ v, x.clF c v = (x.mk c, x.en c) ∨ ((x.clF c v).2 < x.en c ∧ (x.clF c v).2 = x.E c (x.clF c v).1)
  | 0 => Or.inl rfl
  | v + 1 => by
    have := clF_inv (x := x) (c := c) v
    unfold sLat.clF
    split
    · rename_i g
      refine Or.inr ⟨?_, rfl⟩
      rcases this with e | e
      · rw [e] at g; exact g.2
      · exact Nat.lt_trans g.2 e.1
    · exact this
theorem clF_ch {x : sLat} {c v : Nat} : ((x.clF c v).2 < x.en c) ↔ (x.clF c v).1 ≠ x.mk c := by
  rcases clF_inv (x := x) (c := c) v with e | ⟨e1, e2⟩
  · rw [e]
    simp
  · refine ⟨fun _ g => ?_, fun _ => e1⟩
    rw [g] at e2
    unfold sLat.en at e1
    omega
theorem o_zret_n1 {L : xL} {AH : xH} {c : Nat × Nat} {k : xK} {Q : xQ} : o_zret L [.int (nI 1)] AH c k Q = Q (some (.int 1)) AH c := o_zret_1
section MOD3
variable {AH : xH} {m : Nat} {s : sMod} {x : sLat} {r : sRow}
/-- hasBeside(c, v) -/
theorem k_hasB (h : MoL AH m s x r) (ok : x.ok) {c v : Nat} (hc : c < x.n) (hv : v < 8) {Q : xQ} (k : Q (some (.int (if x.hasB c v x.nd then 1 else 0))) AH (0, 0)) : ∀ (n j : Nat), j + n = x.nd → x.hasB c v j = false → ∀ w : Option Value,
    XR TX7_hasBeside 2 [some (.ref m), some (.int (nI c)), some (.int (nI v)), some (.int (nI j)), w] [] AH (0, 0) Q := by
  have hn := sLat.n36 ok
  have hnd := sLat.nd8 (x := x)
  intro n
  induction n with
  | zero =>
    intro j hj hf w
    rw [eX7_hasBeside_2]
    simp only [eX7_hasBeside_0, eX7_hasBeside_1, eX7_hasBeside_3, eX7_hasBeside_4, eX7_hasBeside_7, eX7_hasBeside_10, eX7_hasBeside_11, eX7_hasBeside_12, eX7_hasBeside_13, eX7_hasBeside_16, eX7_hasBeside_18, eX7_hasBeside_20, eX7_hasBeside_23, eX7_hasBeside_24, eX7_hasBeside_27, eX7_hasBeside_29, eX7_hasBeside_31, eX7_hasBeside_32, eX7_hasBeside_33, eX7_hasBeside_34, eX7_hasBeside_37, eX7_hasBeside_38, eX7_hasBeside_39, eX7_hasBeside_42, eX7_hasBeside_45, eX7_hasBeside_46, Nat.add_zero, Nat.reduceAdd, Nat.reduceLeDiff, Nat.zero_le, and_true, o_aload_0r, o_callV_0, o_callV_2, o_const_e, o_getf_e, o_goto_e, o_iald_e, o_iald_f, o_icmp_e, o_if_e, o_ii_e, o_iinc_3, o_iload_1, o_iload_2, o_iload_3, o_iload_4, o_ist_3, o_ist_4, o_zret_0, o_zret_1, tl_n, tl_s, true_and, xnlv_i, xnlv_n, xnlv_r, xwt_0, xwt_f, xwt_i, xwt_l, xwt_r, h.1.cls, h.1.g0, h.1.g1, h.1.g2, h.1.g3, h.1.g4, h.1.g5, h.1.g6, h.1.g7, h.1.g8, h.1.g9, h.1.g10, h.1.g11, h.1.g12, h.1.g13, h.1.g14, h.1.g15, h.1.g16, h.1.g17, h.1.g18, h.1.g19, h.i0, h.i1, h.i2, h.i3, h.i4, h.i5, h.i6, h.i7, h.i8, h.i9, h.i10, h.j0, h.j1, h.j2, h.j3, h.j4, h.j5, h.j6, h.j7, h.j8, h.j9, h.j10]
    refine d_directions h ok ?_
    simp only [eX7_hasBeside_0, eX7_hasBeside_1, eX7_hasBeside_3, eX7_hasBeside_4, eX7_hasBeside_7, eX7_hasBeside_10, eX7_hasBeside_11, eX7_hasBeside_12, eX7_hasBeside_13, eX7_hasBeside_16, eX7_hasBeside_18, eX7_hasBeside_20, eX7_hasBeside_23, eX7_hasBeside_24, eX7_hasBeside_27, eX7_hasBeside_29, eX7_hasBeside_31, eX7_hasBeside_32, eX7_hasBeside_33, eX7_hasBeside_34, eX7_hasBeside_37, eX7_hasBeside_38, eX7_hasBeside_39, eX7_hasBeside_42, eX7_hasBeside_45, eX7_hasBeside_46, Nat.add_zero, Nat.reduceAdd, Nat.reduceLeDiff, Nat.zero_le, and_true, o_aload_0r, o_callV_0, o_callV_2, o_const_e, o_getf_e, o_goto_e, o_iald_e, o_iald_f, o_icmp_e, o_if_e, o_ii_e, o_iinc_3, o_iload_1, o_iload_2, o_iload_3, o_iload_4, o_ist_3, o_ist_4, o_zret_0, o_zret_1, tl_n, tl_s, true_and, xnlv_i, xnlv_n, xnlv_r, xwt_0, xwt_f, xwt_i, xwt_l, xwt_r, le_nI (a := x.nd) (b := j) (by omega) (by omega)]
    refine ⟨fun _ => ?_, fun g => by omega⟩
    rw [show j = x.nd by omega] at hf
    rw [hf] at k
    exact k
  | succ n ih =>
    intro j hj hf w
    rw [eX7_hasBeside_2]
    simp only [eX7_hasBeside_0, eX7_hasBeside_1, eX7_hasBeside_3, eX7_hasBeside_4, eX7_hasBeside_7, eX7_hasBeside_10, eX7_hasBeside_11, eX7_hasBeside_12, eX7_hasBeside_13, eX7_hasBeside_16, eX7_hasBeside_18, eX7_hasBeside_20, eX7_hasBeside_23, eX7_hasBeside_24, eX7_hasBeside_27, eX7_hasBeside_29, eX7_hasBeside_31, eX7_hasBeside_32, eX7_hasBeside_33, eX7_hasBeside_34, eX7_hasBeside_37, eX7_hasBeside_38, eX7_hasBeside_39, eX7_hasBeside_42, eX7_hasBeside_45, eX7_hasBeside_46, Nat.add_zero, Nat.reduceAdd, Nat.reduceLeDiff, Nat.zero_le, and_true, o_aload_0r, o_callV_0, o_callV_2, o_const_e, o_getf_e, o_goto_e, o_iald_e, o_iald_f, o_icmp_e, o_if_e, o_ii_e, o_iinc_3, o_iload_1, o_iload_2, o_iload_3, o_iload_4, o_ist_3, o_ist_4, o_zret_0, o_zret_1, tl_n, tl_s, true_and, xnlv_i, xnlv_n, xnlv_r, xwt_0, xwt_f, xwt_i, xwt_l, xwt_r, h.1.cls, h.1.g0, h.1.g1, h.1.g2, h.1.g3, h.1.g4, h.1.g5, h.1.g6, h.1.g7, h.1.g8, h.1.g9, h.1.g10, h.1.g11, h.1.g12, h.1.g13, h.1.g14, h.1.g15, h.1.g16, h.1.g17, h.1.g18, h.1.g19, h.i0, h.i1, h.i2, h.i3, h.i4, h.i5, h.i6, h.i7, h.i8, h.i9, h.i10, h.j0, h.j1, h.j2, h.j3, h.j4, h.j5, h.j6, h.j7, h.j8, h.j9, h.j10]
    refine d_directions h ok ?_
    simp only [eX7_hasBeside_0, eX7_hasBeside_1, eX7_hasBeside_3, eX7_hasBeside_4, eX7_hasBeside_7, eX7_hasBeside_10, eX7_hasBeside_11, eX7_hasBeside_12, eX7_hasBeside_13, eX7_hasBeside_16, eX7_hasBeside_18, eX7_hasBeside_20, eX7_hasBeside_23, eX7_hasBeside_24, eX7_hasBeside_27, eX7_hasBeside_29, eX7_hasBeside_31, eX7_hasBeside_32, eX7_hasBeside_33, eX7_hasBeside_34, eX7_hasBeside_37, eX7_hasBeside_38, eX7_hasBeside_39, eX7_hasBeside_42, eX7_hasBeside_45, eX7_hasBeside_46, Nat.add_zero, Nat.reduceAdd, Nat.reduceLeDiff, Nat.zero_le, and_true, o_aload_0r, o_callV_0, o_callV_2, o_const_e, o_getf_e, o_goto_e, o_iald_e, o_iald_f, o_icmp_e, o_if_e, o_ii_e, o_iinc_3, o_iload_1, o_iload_2, o_iload_3, o_iload_4, o_ist_3, o_ist_4, o_zret_0, o_zret_1, tl_n, tl_s, true_and, xnlv_i, xnlv_n, xnlv_r, xwt_0, xwt_f, xwt_i, xwt_l, xwt_r, le_nI (a := x.nd) (b := j) (by omega) (by omega), h.1.cls, h.1.g0, h.1.g1, h.1.g2, h.1.g3, h.1.g4, h.1.g5, h.1.g6, h.1.g7, h.1.g8, h.1.g9, h.1.g10, h.1.g11, h.1.g12, h.1.g13, h.1.g14, h.1.g15, h.1.g16, h.1.g17, h.1.g18, h.1.g19, h.i0, h.i1, h.i2, h.i3, h.i4, h.i5, h.i6, h.i7, h.i8, h.i9, h.i10, h.j0, h.j1, h.j2, h.j3, h.j4, h.j5, h.j6, h.j7, h.j8, h.j9, h.j10]
    refine ⟨fun g => by omega, fun _ => d_beside h ok hc (by omega) ?_⟩
    have hs : x.hasB c v (j + 1) = (x.hasB c v j || (match x.nb c j with
      | none => false
      | some z => x.mk z == v)) := rfl
    cases hb : x.nb c j with
    | none =>
      simp only [hb, hf] at hs
      simp only [eX7_hasBeside_0, eX7_hasBeside_1, eX7_hasBeside_3, eX7_hasBeside_4, eX7_hasBeside_7, eX7_hasBeside_10, eX7_hasBeside_11, eX7_hasBeside_12, eX7_hasBeside_13, eX7_hasBeside_16, eX7_hasBeside_18, eX7_hasBeside_20, eX7_hasBeside_23, eX7_hasBeside_24, eX7_hasBeside_27, eX7_hasBeside_29, eX7_hasBeside_31, eX7_hasBeside_32, eX7_hasBeside_33, eX7_hasBeside_34, eX7_hasBeside_37, eX7_hasBeside_38, eX7_hasBeside_39, eX7_hasBeside_42, eX7_hasBeside_45, eX7_hasBeside_46, Nat.add_zero, Nat.reduceAdd, Nat.reduceLeDiff, Nat.zero_le, and_true, o_aload_0r, o_callV_0, o_callV_2, o_const_e, o_getf_e, o_goto_e, o_iald_e, o_iald_f, o_icmp_e, o_if_e, o_ii_e, o_iinc_3, o_iload_1, o_iload_2, o_iload_3, o_iload_4, o_ist_3, o_ist_4, o_zret_0, o_zret_1, tl_n, tl_s, true_and, xnlv_i, xnlv_n, xnlv_r, xwt_0, xwt_f, xwt_i, xwt_l, xwt_r, bkV, n1, nI_add]
      exact ⟨fun _ => ih (j + 1) (by omega) hs _, fun g => absurd (by decide) g⟩
    | some z =>
      have hz := sLat.nb_36 ok hb
      have hmz := ok.1 z
      simp only [hb, hf, Bool.false_or] at hs
      simp only [eX7_hasBeside_0, eX7_hasBeside_1, eX7_hasBeside_3, eX7_hasBeside_4, eX7_hasBeside_7, eX7_hasBeside_10, eX7_hasBeside_11, eX7_hasBeside_12, eX7_hasBeside_13, eX7_hasBeside_16, eX7_hasBeside_18, eX7_hasBeside_20, eX7_hasBeside_23, eX7_hasBeside_24, eX7_hasBeside_27, eX7_hasBeside_29, eX7_hasBeside_31, eX7_hasBeside_32, eX7_hasBeside_33, eX7_hasBeside_34, eX7_hasBeside_37, eX7_hasBeside_38, eX7_hasBeside_39, eX7_hasBeside_42, eX7_hasBeside_45, eX7_hasBeside_46, Nat.add_zero, Nat.reduceAdd, Nat.reduceLeDiff, Nat.zero_le, and_true, o_aload_0r, o_callV_0, o_callV_2, o_const_e, o_getf_e, o_goto_e, o_iald_e, o_iald_f, o_icmp_e, o_if_e, o_ii_e, o_iinc_3, o_iload_1, o_iload_2, o_iload_3, o_iload_4, o_ist_3, o_ist_4, o_zret_0, o_zret_1, tl_n, tl_s, true_and, xnlv_i, xnlv_n, xnlv_r, xwt_0, xwt_f, xwt_i, xwt_l, xwt_r, bkV, h.1.cls, h.1.g0, h.1.g1, h.1.g2, h.1.g3, h.1.g4, h.1.g5, h.1.g6, h.1.g7, h.1.g8, h.1.g9, h.1.g10, h.1.g11, h.1.g12, h.1.g13, h.1.g14, h.1.g15, h.1.g16, h.1.g17, h.1.g18, h.1.g19, h.i0, h.i1, h.i2, h.i3, h.i4, h.i5, h.i6, h.i7, h.i8, h.i9, h.i10, h.j0, h.j1, h.j2, h.j3, h.j4, h.j5, h.j6, h.j7, h.j8, h.j9, h.j10, n11, nI_add, h.rm hz, lt0_nI (a := z) (by omega), not_true_eq_false, not_false_eq_true, true_implies, false_implies, and_true, true_and, implies_true, forall_const, ↓reduceIte, Bool.false_eq_true, i10, i10n, eq_nI (a := x.mk z) (b := v) (by omega) (by omega), n1, nI_add, o_zret_n1]
      refine ⟨fun g => ?_, fun g => ?_⟩
      · exact ih (j + 1) (by omega) (by rw [hs]; simpa using g) _
      · have g := Classical.not_not.mp g
        have hT : x.hasB c v (j + 1) = true := by rw [hs]; simpa using g
        have up : ∀ q, x.hasB c v (j + 1 + q) = true := by
          intro q
          induction q with
          | zero => exact hT
          | succ q ihq =>
            show (x.hasB c v (j + 1 + q) || _) = true
            rw [ihq, Bool.true_or]
        have := up (x.nd - (j + 1))
        rw [show j + 1 + (x.nd - (j + 1)) = x.nd by omega] at this
        rw [this] at k
        exact k
theorem d_hasB (h : MoL AH m s x r) (ok : x.ok) {c v : Nat} (hc : c < x.n) (hv : v < 8) {Q : Option Value → xH → Prop} (k : Q (some (.int (if x.hasB c v x.nd then 1 else 0))) AH) : XC MX7_hasBeside [.ref m, .int (nI c), .int (nI v)] AH Q := by
  refine XC.ofR (L := [some (.ref m), some (.int (nI c)), some (.int (nI v)), none, none]) KX7_hasBeside (by decide +kernel) (by first | decide | exact Nat.le_of_ble_eq_true rfl) rfl ?_
  simp only [eX7_hasBeside_0, eX7_hasBeside_1, eX7_hasBeside_3, eX7_hasBeside_4, eX7_hasBeside_7, eX7_hasBeside_10, eX7_hasBeside_11, eX7_hasBeside_12, eX7_hasBeside_13, eX7_hasBeside_16, eX7_hasBeside_18, eX7_hasBeside_20, eX7_hasBeside_23, eX7_hasBeside_24, eX7_hasBeside_27, eX7_hasBeside_29, eX7_hasBeside_31, eX7_hasBeside_32, eX7_hasBeside_33, eX7_hasBeside_34, eX7_hasBeside_37, eX7_hasBeside_38, eX7_hasBeside_39, eX7_hasBeside_42, eX7_hasBeside_45, eX7_hasBeside_46, Nat.add_zero, Nat.reduceAdd, Nat.reduceLeDiff, Nat.zero_le, and_true, o_aload_0r, o_callV_0, o_callV_2, o_const_e, o_getf_e, o_goto_e, o_iald_e, o_iald_f, o_icmp_e, o_if_e, o_ii_e, o_iinc_3, o_iload_1, o_iload_2, o_iload_3, o_iload_4, o_ist_3, o_ist_4, o_zret_0, o_zret_1, tl_n, tl_s, true_and, xnlv_i, xnlv_n, xnlv_r, xwt_0, xwt_f, xwt_i, xwt_l, xwt_r]
  exact k_hasB h ok hc hv k x.nd 0 (by omega) rfl none
/-- coolsOnce(): over the marks -/
theorem k_cool1 {y : sLat} (h : MoL AH m s y r) (ok : y.ok) {c t : Nat} (hc : c < y.n) {Q : xQ} (k : ∀ w : Option Value, XR TX7_coolsOnce 101 [some (.ref m), some (.int (nI t)), some (.int (nI c)), some (.int (nI (y.clF c 8).1)), some (.int (nI (y.clF c 8).2)), some (.int (nI (y.en c))), some (.int (nI 8)), w] [] AH (0, 0) Q) : ∀ (n v : Nat), v + n = 8 → ∀ w : Option Value,
    XR TX7_coolsOnce 52 [some (.ref m), some (.int (nI t)), some (.int (nI c)), some (.int (nI (y.clF c v).1)), some (.int (nI (y.clF c v).2)), some (.int (nI (y.en c))), some (.int (nI v)), w] [] AH (0, 0) Q := by
  have hn := sLat.n36 ok
  intro n
  induction n with
  | zero =>
    intro v hv w
    rw [eX7_coolsOnce_52]
    simp only [eX7_coolsOnce_0, eX7_coolsOnce_1, eX7_coolsOnce_2, eX7_coolsOnce_3, eX7_coolsOnce_4, eX7_coolsOnce_5, eX7_coolsOnce_6, eX7_coolsOnce_9, eX7_coolsOnce_12, eX7_coolsOnce_13, eX7_coolsOnce_16, eX7_coolsOnce_18, eX7_coolsOnce_19, eX7_coolsOnce_20, eX7_coolsOnce_21, eX7_coolsOnce_22, eX7_coolsOnce_25, eX7_coolsOnce_28, eX7_coolsOnce_29, eX7_coolsOnce_32, eX7_coolsOnce_34, eX7_coolsOnce_35, eX7_coolsOnce_36, eX7_coolsOnce_37, eX7_coolsOnce_38, eX7_coolsOnce_39, eX7_coolsOnce_40, eX7_coolsOnce_43, eX7_coolsOnce_45, eX7_coolsOnce_47, eX7_coolsOnce_49, eX7_coolsOnce_50, eX7_coolsOnce_54, eX7_coolsOnce_56, eX7_coolsOnce_59, eX7_coolsOnce_60, eX7_coolsOnce_61, eX7_coolsOnce_63, eX7_coolsOnce_66, eX7_coolsOnce_69, eX7_coolsOnce_72, eX7_coolsOnce_73, eX7_coolsOnce_74, eX7_coolsOnce_76, eX7_coolsOnce_79, eX7_coolsOnce_81, eX7_coolsOnce_83, eX7_coolsOnce_85, eX7_coolsOnce_88, eX7_coolsOnce_90, eX7_coolsOnce_91, eX7_coolsOnce_93, eX7_coolsOnce_95, eX7_coolsOnce_98, eX7_coolsOnce_103, eX7_coolsOnce_105, eX7_coolsOnce_108, eX7_coolsOnce_109, eX7_coolsOnce_112, eX7_coolsOnce_114, eX7_coolsOnce_115, eX7_coolsOnce_116, eX7_coolsOnce_117, eX7_coolsOnce_118, eX7_coolsOnce_121, eX7_coolsOnce_124, eX7_coolsOnce_127, eX7_coolsOnce_128, Nat.add_zero, Nat.reduceAdd, Nat.reduceLeDiff, Nat.zero_le, and_true, o_aload_0r, o_callV_0, o_callV_1, o_callV_2, o_const_e, o_getf_e, o_goto_e, o_iald_e, o_iald_f, o_iast_e, o_icmp_e, o_if_e, o_ii_e, o_iinc_1, o_iinc_2, o_iinc_6, o_iload_1, o_iload_2, o_iload_3, o_iload_4, o_iload_5, o_iload_6, o_iload_7, o_iret_e, o_ist_1, o_ist_2, o_ist_3, o_ist_4, o_ist_5, o_ist_6, o_ist_7, tl_n, tl_s, true_and, xnlv_i, xnlv_n, xnlv_r, xwt_0, xwt_f, xwt_i, xwt_l, xwt_r, n8, le_nI (a := 8) (b := v) (by omega) (by omega)]
    refine ⟨fun _ => ?_, fun g => by omega⟩
    rw [show v = 8 by omega]
    exact k w
  | succ n ih =>
    intro v hv w
    have hl := clF_le ok (c := c) v
    have hE := sLat.E_le ok (c := c) (v := v)
    have := ih (v + 1) (by omega)
    unfold sLat.clF at this
    rw [eX7_coolsOnce_52]
    simp only [eX7_coolsOnce_0, eX7_coolsOnce_1, eX7_coolsOnce_2, eX7_coolsOnce_3, eX7_coolsOnce_4, eX7_coolsOnce_5, eX7_coolsOnce_6, eX7_coolsOnce_9, eX7_coolsOnce_12, eX7_coolsOnce_13, eX7_coolsOnce_16, eX7_coolsOnce_18, eX7_coolsOnce_19, eX7_coolsOnce_20, eX7_coolsOnce_21, eX7_coolsOnce_22, eX7_coolsOnce_25, eX7_coolsOnce_28, eX7_coolsOnce_29, eX7_coolsOnce_32, eX7_coolsOnce_34, eX7_coolsOnce_35, eX7_coolsOnce_36, eX7_coolsOnce_37, eX7_coolsOnce_38, eX7_coolsOnce_39, eX7_coolsOnce_40, eX7_coolsOnce_43, eX7_coolsOnce_45, eX7_coolsOnce_47, eX7_coolsOnce_49, eX7_coolsOnce_50, eX7_coolsOnce_54, eX7_coolsOnce_56, eX7_coolsOnce_59, eX7_coolsOnce_60, eX7_coolsOnce_61, eX7_coolsOnce_63, eX7_coolsOnce_66, eX7_coolsOnce_69, eX7_coolsOnce_72, eX7_coolsOnce_73, eX7_coolsOnce_74, eX7_coolsOnce_76, eX7_coolsOnce_79, eX7_coolsOnce_81, eX7_coolsOnce_83, eX7_coolsOnce_85, eX7_coolsOnce_88, eX7_coolsOnce_90, eX7_coolsOnce_91, eX7_coolsOnce_93, eX7_coolsOnce_95, eX7_coolsOnce_98, eX7_coolsOnce_103, eX7_coolsOnce_105, eX7_coolsOnce_108, eX7_coolsOnce_109, eX7_coolsOnce_112, eX7_coolsOnce_114, eX7_coolsOnce_115, eX7_coolsOnce_116, eX7_coolsOnce_117, eX7_coolsOnce_118, eX7_coolsOnce_121, eX7_coolsOnce_124, eX7_coolsOnce_127, eX7_coolsOnce_128, Nat.add_zero, Nat.reduceAdd, Nat.reduceLeDiff, Nat.zero_le, and_true, o_aload_0r, o_callV_0, o_callV_1, o_callV_2, o_const_e, o_getf_e, o_goto_e, o_iald_e, o_iald_f, o_iast_e, o_icmp_e, o_if_e, o_ii_e, o_iinc_1, o_iinc_2, o_iinc_6, o_iload_1, o_iload_2, o_iload_3, o_iload_4, o_iload_5, o_iload_6, o_iload_7, o_iret_e, o_ist_1, o_ist_2, o_ist_3, o_ist_4, o_ist_5, o_ist_6, o_ist_7, tl_n, tl_s, true_and, xnlv_i, xnlv_n, xnlv_r, xwt_0, xwt_f, xwt_i, xwt_l, xwt_r, n8, le_nI (a := 8) (b := v) (by omega) (by omega), h.1.cls, h.1.g0, h.1.g1, h.1.g2, h.1.g3, h.1.g4, h.1.g5, h.1.g6, h.1.g7, h.1.g8, h.1.g9, h.1.g10, h.1.g11, h.1.g12, h.1.g13, h.1.g14, h.1.g15, h.1.g16, h.1.g17, h.1.g18, h.1.g19, h.i0, h.i1, h.i2, h.i3, h.i4, h.i5, h.i6, h.i7, h.i8, h.i9, h.i10, h.j0, h.j1, h.j2, h.j3, h.j4, h.j5, h.j6, h.j7, h.j8, h.j9, h.j10]
    refine ⟨fun g => by omega, fun _ => d_hasB h ok hc (by omega) ?_⟩
    cases hB : y.hasB c v y.nd with
    | false =>
      rw [if_neg (by rw [hB]; simp)] at this
      simp only [eX7_coolsOnce_0, eX7_coolsOnce_1, eX7_coolsOnce_2, eX7_coolsOnce_3, eX7_coolsOnce_4, eX7_coolsOnce_5, eX7_coolsOnce_6, eX7_coolsOnce_9, eX7_coolsOnce_12, eX7_coolsOnce_13, eX7_coolsOnce_16, eX7_coolsOnce_18, eX7_coolsOnce_19, eX7_coolsOnce_20, eX7_coolsOnce_21, eX7_coolsOnce_22, eX7_coolsOnce_25, eX7_coolsOnce_28, eX7_coolsOnce_29, eX7_coolsOnce_32, eX7_coolsOnce_34, eX7_coolsOnce_35, eX7_coolsOnce_36, eX7_coolsOnce_37, eX7_coolsOnce_38, eX7_coolsOnce_39, eX7_coolsOnce_40, eX7_coolsOnce_43, eX7_coolsOnce_45, eX7_coolsOnce_47, eX7_coolsOnce_49, eX7_coolsOnce_50, eX7_coolsOnce_54, eX7_coolsOnce_56, eX7_coolsOnce_59, eX7_coolsOnce_60, eX7_coolsOnce_61, eX7_coolsOnce_63, eX7_coolsOnce_66, eX7_coolsOnce_69, eX7_coolsOnce_72, eX7_coolsOnce_73, eX7_coolsOnce_74, eX7_coolsOnce_76, eX7_coolsOnce_79, eX7_coolsOnce_81, eX7_coolsOnce_83, eX7_coolsOnce_85, eX7_coolsOnce_88, eX7_coolsOnce_90, eX7_coolsOnce_91, eX7_coolsOnce_93, eX7_coolsOnce_95, eX7_coolsOnce_98, eX7_coolsOnce_103, eX7_coolsOnce_105, eX7_coolsOnce_108, eX7_coolsOnce_109, eX7_coolsOnce_112, eX7_coolsOnce_114, eX7_coolsOnce_115, eX7_coolsOnce_116, eX7_coolsOnce_117, eX7_coolsOnce_118, eX7_coolsOnce_121, eX7_coolsOnce_124, eX7_coolsOnce_127, eX7_coolsOnce_128, Nat.add_zero, Nat.reduceAdd, Nat.reduceLeDiff, Nat.zero_le, and_true, o_aload_0r, o_callV_0, o_callV_1, o_callV_2, o_const_e, o_getf_e, o_goto_e, o_iald_e, o_iald_f, o_iast_e, o_icmp_e, o_if_e, o_ii_e, o_iinc_1, o_iinc_2, o_iinc_6, o_iload_1, o_iload_2, o_iload_3, o_iload_4, o_iload_5, o_iload_6, o_iload_7, o_iret_e, o_ist_1, o_ist_2, o_ist_3, o_ist_4, o_ist_5, o_ist_6, o_ist_7, tl_n, tl_s, true_and, xnlv_i, xnlv_n, xnlv_r, xwt_0, xwt_f, xwt_i, xwt_l, xwt_r, not_true_eq_false, not_false_eq_true, true_implies, false_implies, and_true, true_and, implies_true, forall_const, ↓reduceIte, Bool.false_eq_true, i10, i10n, n1, nI_add]
      exact this _
    | true =>
      simp only [eX7_coolsOnce_0, eX7_coolsOnce_1, eX7_coolsOnce_2, eX7_coolsOnce_3, eX7_coolsOnce_4, eX7_coolsOnce_5, eX7_coolsOnce_6, eX7_coolsOnce_9, eX7_coolsOnce_12, eX7_coolsOnce_13, eX7_coolsOnce_16, eX7_coolsOnce_18, eX7_coolsOnce_19, eX7_coolsOnce_20, eX7_coolsOnce_21, eX7_coolsOnce_22, eX7_coolsOnce_25, eX7_coolsOnce_28, eX7_coolsOnce_29, eX7_coolsOnce_32, eX7_coolsOnce_34, eX7_coolsOnce_35, eX7_coolsOnce_36, eX7_coolsOnce_37, eX7_coolsOnce_38, eX7_coolsOnce_39, eX7_coolsOnce_40, eX7_coolsOnce_43, eX7_coolsOnce_45, eX7_coolsOnce_47, eX7_coolsOnce_49, eX7_coolsOnce_50, eX7_coolsOnce_54, eX7_coolsOnce_56, eX7_coolsOnce_59, eX7_coolsOnce_60, eX7_coolsOnce_61, eX7_coolsOnce_63, eX7_coolsOnce_66, eX7_coolsOnce_69, eX7_coolsOnce_72, eX7_coolsOnce_73, eX7_coolsOnce_74, eX7_coolsOnce_76, eX7_coolsOnce_79, eX7_coolsOnce_81, eX7_coolsOnce_83, eX7_coolsOnce_85, eX7_coolsOnce_88, eX7_coolsOnce_90, eX7_coolsOnce_91, eX7_coolsOnce_93, eX7_coolsOnce_95, eX7_coolsOnce_98, eX7_coolsOnce_103, eX7_coolsOnce_105, eX7_coolsOnce_108, eX7_coolsOnce_109, eX7_coolsOnce_112, eX7_coolsOnce_114, eX7_coolsOnce_115, eX7_coolsOnce_116, eX7_coolsOnce_117, eX7_coolsOnce_118, eX7_coolsOnce_121, eX7_coolsOnce_124, eX7_coolsOnce_127, eX7_coolsOnce_128, Nat.add_zero, Nat.reduceAdd, Nat.reduceLeDiff, Nat.zero_le, and_true, o_aload_0r, o_callV_0, o_callV_1, o_callV_2, o_const_e, o_getf_e, o_goto_e, o_iald_e, o_iald_f, o_iast_e, o_icmp_e, o_if_e, o_ii_e, o_iinc_1, o_iinc_2, o_iinc_6, o_iload_1, o_iload_2, o_iload_3, o_iload_4, o_iload_5, o_iload_6, o_iload_7, o_iret_e, o_ist_1, o_ist_2, o_ist_3, o_ist_4, o_ist_5, o_ist_6, o_ist_7, tl_n, tl_s, true_and, xnlv_i, xnlv_n, xnlv_r, xwt_0, xwt_f, xwt_i, xwt_l, xwt_r, not_true_eq_false, not_false_eq_true, true_implies, false_implies, and_true, true_and, implies_true, forall_const, ↓reduceIte, Bool.false_eq_true, i10, i10n, h.1.cls, h.1.g0, h.1.g1, h.1.g2, h.1.g3, h.1.g4, h.1.g5, h.1.g6, h.1.g7, h.1.g8, h.1.g9, h.1.g10, h.1.g11, h.1.g12, h.1.g13, h.1.g14, h.1.g15, h.1.g16, h.1.g17, h.1.g18, h.1.g19, h.i0, h.i1, h.i2, h.i3, h.i4, h.i5, h.i6, h.i7, h.i8, h.i9, h.i10, h.j0, h.j1, h.j2, h.j3, h.j4, h.j5, h.j6, h.j7, h.j8, h.j9, h.j10]
      refine d_energyBy h ok hc (by omega) ?_
      simp only [eX7_coolsOnce_0, eX7_coolsOnce_1, eX7_coolsOnce_2, eX7_coolsOnce_3, eX7_coolsOnce_4, eX7_coolsOnce_5, eX7_coolsOnce_6, eX7_coolsOnce_9, eX7_coolsOnce_12, eX7_coolsOnce_13, eX7_coolsOnce_16, eX7_coolsOnce_18, eX7_coolsOnce_19, eX7_coolsOnce_20, eX7_coolsOnce_21, eX7_coolsOnce_22, eX7_coolsOnce_25, eX7_coolsOnce_28, eX7_coolsOnce_29, eX7_coolsOnce_32, eX7_coolsOnce_34, eX7_coolsOnce_35, eX7_coolsOnce_36, eX7_coolsOnce_37, eX7_coolsOnce_38, eX7_coolsOnce_39, eX7_coolsOnce_40, eX7_coolsOnce_43, eX7_coolsOnce_45, eX7_coolsOnce_47, eX7_coolsOnce_49, eX7_coolsOnce_50, eX7_coolsOnce_54, eX7_coolsOnce_56, eX7_coolsOnce_59, eX7_coolsOnce_60, eX7_coolsOnce_61, eX7_coolsOnce_63, eX7_coolsOnce_66, eX7_coolsOnce_69, eX7_coolsOnce_72, eX7_coolsOnce_73, eX7_coolsOnce_74, eX7_coolsOnce_76, eX7_coolsOnce_79, eX7_coolsOnce_81, eX7_coolsOnce_83, eX7_coolsOnce_85, eX7_coolsOnce_88, eX7_coolsOnce_90, eX7_coolsOnce_91, eX7_coolsOnce_93, eX7_coolsOnce_95, eX7_coolsOnce_98, eX7_coolsOnce_103, eX7_coolsOnce_105, eX7_coolsOnce_108, eX7_coolsOnce_109, eX7_coolsOnce_112, eX7_coolsOnce_114, eX7_coolsOnce_115, eX7_coolsOnce_116, eX7_coolsOnce_117, eX7_coolsOnce_118, eX7_coolsOnce_121, eX7_coolsOnce_124, eX7_coolsOnce_127, eX7_coolsOnce_128, Nat.add_zero, Nat.reduceAdd, Nat.reduceLeDiff, Nat.zero_le, and_true, o_aload_0r, o_callV_0, o_callV_1, o_callV_2, o_const_e, o_getf_e, o_goto_e, o_iald_e, o_iald_f, o_iast_e, o_icmp_e, o_if_e, o_ii_e, o_iinc_1, o_iinc_2, o_iinc_6, o_iload_1, o_iload_2, o_iload_3, o_iload_4, o_iload_5, o_iload_6, o_iload_7, o_iret_e, o_ist_1, o_ist_2, o_ist_3, o_ist_4, o_ist_5, o_ist_6, o_ist_7, tl_n, tl_s, true_and, xnlv_i, xnlv_n, xnlv_r, xwt_0, xwt_f, xwt_i, xwt_l, xwt_r, le_nI (a := (y.clF c v).2) (b := y.E c v) (by omega) (by omega), n1, nI_add]
      refine ⟨fun g3 => ?_, fun g3 => ?_⟩
      · rw [if_neg (by omega)] at this
        exact this _
      · rw [if_pos ⟨hB, by omega⟩] at this
        exact this _
theorem k_cool2 (h : MoL AH m s x r) (ok : x.ok) {Q : xQ} (k : Q (some (.int (nI x.cool1.2))) (modP AH m (s.wnw (nF x.cool1.1 r))) (0, 0)) : ∀ (n j : Nat), j + n = x.n → ∀ w3 w4 w5 w6 w7 : Option Value, xnlv w3 → xnlv w4 → xnlv w5 → xnlv w6 →
    XR TX7_coolsOnce 4 [some (.ref m), some (.int (nI (x.rnd j).2)), some (.int (nI j)), w3, w4, w5, w6, w7] [] (modP AH m (s.wnw (nF (x.rnd j).1 r))) (0, 0) Q := by
  have hn := sLat.n36 ok
  intro n
  induction n with
  | zero =>
    intro j hj w3 w4 w5 w6 w7 v3 v4 v5 v6
    have hj1 := h.put (x.rnd j).1 r
    have sj : (x.rnd j).1.sim x := rnd_sim j
    rw [eX7_coolsOnce_4]
    simp only [eX7_coolsOnce_0, eX7_coolsOnce_1, eX7_coolsOnce_2, eX7_coolsOnce_3, eX7_coolsOnce_5, eX7_coolsOnce_6, eX7_coolsOnce_9, eX7_coolsOnce_12, eX7_coolsOnce_13, eX7_coolsOnce_16, eX7_coolsOnce_18, eX7_coolsOnce_19, eX7_coolsOnce_20, eX7_coolsOnce_21, eX7_coolsOnce_22, eX7_coolsOnce_25, eX7_coolsOnce_28, eX7_coolsOnce_29, eX7_coolsOnce_32, eX7_coolsOnce_34, eX7_coolsOnce_35, eX7_coolsOnce_36, eX7_coolsOnce_37, eX7_coolsOnce_38, eX7_coolsOnce_39, eX7_coolsOnce_40, eX7_coolsOnce_43, eX7_coolsOnce_45, eX7_coolsOnce_47, eX7_coolsOnce_49, eX7_coolsOnce_50, eX7_coolsOnce_54, eX7_coolsOnce_56, eX7_coolsOnce_59, eX7_coolsOnce_60, eX7_coolsOnce_61, eX7_coolsOnce_63, eX7_coolsOnce_66, eX7_coolsOnce_69, eX7_coolsOnce_72, eX7_coolsOnce_73, eX7_coolsOnce_74, eX7_coolsOnce_76, eX7_coolsOnce_79, eX7_coolsOnce_81, eX7_coolsOnce_83, eX7_coolsOnce_85, eX7_coolsOnce_88, eX7_coolsOnce_90, eX7_coolsOnce_91, eX7_coolsOnce_93, eX7_coolsOnce_95, eX7_coolsOnce_98, eX7_coolsOnce_101, eX7_coolsOnce_103, eX7_coolsOnce_105, eX7_coolsOnce_108, eX7_coolsOnce_109, eX7_coolsOnce_112, eX7_coolsOnce_114, eX7_coolsOnce_115, eX7_coolsOnce_116, eX7_coolsOnce_117, eX7_coolsOnce_118, eX7_coolsOnce_121, eX7_coolsOnce_124, eX7_coolsOnce_127, eX7_coolsOnce_128, Nat.add_zero, Nat.reduceAdd, Nat.reduceLeDiff, Nat.zero_le, and_true, o_aload_0r, o_callV_0, o_callV_1, o_callV_2, o_const_e, o_getf_e, o_goto_e, o_iald_e, o_iald_f, o_iast_e, o_icmp_e, o_if_e, o_ii_e, o_iinc_1, o_iinc_2, o_iinc_6, o_iload_1, o_iload_2, o_iload_3, o_iload_4, o_iload_5, o_iload_6, o_iload_7, o_iret_e, o_ist_1, o_ist_2, o_ist_3, o_ist_4, o_ist_5, o_ist_6, o_ist_7, tl_n, tl_s, true_and, xnlv_i, xnlv_n, xnlv_r, xwt_0, xwt_f, xwt_i, xwt_l, xwt_r, hj1.1.cls, hj1.1.g0, hj1.1.g1, hj1.1.g2, hj1.1.g3, hj1.1.g4, hj1.1.g5, hj1.1.g6, hj1.1.g7, hj1.1.g8, hj1.1.g9, hj1.1.g10, hj1.1.g11, hj1.1.g12, hj1.1.g13, hj1.1.g14, hj1.1.g15, hj1.1.g16, hj1.1.g17, hj1.1.g18, hj1.1.g19, hj1.i0, hj1.i1, hj1.i2, hj1.i3, hj1.i4, hj1.i5, hj1.i6, hj1.i7, hj1.i8, hj1.i9, hj1.i10, hj1.j0, hj1.j1, hj1.j2, hj1.j3, hj1.j4, hj1.j5, hj1.j6, hj1.j7, hj1.j8, hj1.j9, hj1.j10]
    refine d_cells hj1 ?_
    rw [sj.n]
    simp only [eX7_coolsOnce_0, eX7_coolsOnce_1, eX7_coolsOnce_2, eX7_coolsOnce_3, eX7_coolsOnce_5, eX7_coolsOnce_6, eX7_coolsOnce_9, eX7_coolsOnce_12, eX7_coolsOnce_13, eX7_coolsOnce_16, eX7_coolsOnce_18, eX7_coolsOnce_19, eX7_coolsOnce_20, eX7_coolsOnce_21, eX7_coolsOnce_22, eX7_coolsOnce_25, eX7_coolsOnce_28, eX7_coolsOnce_29, eX7_coolsOnce_32, eX7_coolsOnce_34, eX7_coolsOnce_35, eX7_coolsOnce_36, eX7_coolsOnce_37, eX7_coolsOnce_38, eX7_coolsOnce_39, eX7_coolsOnce_40, eX7_coolsOnce_43, eX7_coolsOnce_45, eX7_coolsOnce_47, eX7_coolsOnce_49, eX7_coolsOnce_50, eX7_coolsOnce_54, eX7_coolsOnce_56, eX7_coolsOnce_59, eX7_coolsOnce_60, eX7_coolsOnce_61, eX7_coolsOnce_63, eX7_coolsOnce_66, eX7_coolsOnce_69, eX7_coolsOnce_72, eX7_coolsOnce_73, eX7_coolsOnce_74, eX7_coolsOnce_76, eX7_coolsOnce_79, eX7_coolsOnce_81, eX7_coolsOnce_83, eX7_coolsOnce_85, eX7_coolsOnce_88, eX7_coolsOnce_90, eX7_coolsOnce_91, eX7_coolsOnce_93, eX7_coolsOnce_95, eX7_coolsOnce_98, eX7_coolsOnce_101, eX7_coolsOnce_103, eX7_coolsOnce_105, eX7_coolsOnce_108, eX7_coolsOnce_109, eX7_coolsOnce_112, eX7_coolsOnce_114, eX7_coolsOnce_115, eX7_coolsOnce_116, eX7_coolsOnce_117, eX7_coolsOnce_118, eX7_coolsOnce_121, eX7_coolsOnce_124, eX7_coolsOnce_127, eX7_coolsOnce_128, Nat.add_zero, Nat.reduceAdd, Nat.reduceLeDiff, Nat.zero_le, and_true, o_aload_0r, o_callV_0, o_callV_1, o_callV_2, o_const_e, o_getf_e, o_goto_e, o_iald_e, o_iald_f, o_iast_e, o_icmp_e, o_if_e, o_ii_e, o_iinc_1, o_iinc_2, o_iinc_6, o_iload_1, o_iload_2, o_iload_3, o_iload_4, o_iload_5, o_iload_6, o_iload_7, o_iret_e, o_ist_1, o_ist_2, o_ist_3, o_ist_4, o_ist_5, o_ist_6, o_ist_7, tl_n, tl_s, true_and, xnlv_i, xnlv_n, xnlv_r, xwt_0, xwt_f, xwt_i, xwt_l, xwt_r, hj1.1.cls, hj1.1.g0, hj1.1.g1, hj1.1.g2, hj1.1.g3, hj1.1.g4, hj1.1.g5, hj1.1.g6, hj1.1.g7, hj1.1.g8, hj1.1.g9, hj1.1.g10, hj1.1.g11, hj1.1.g12, hj1.1.g13, hj1.1.g14, hj1.1.g15, hj1.1.g16, hj1.1.g17, hj1.1.g18, hj1.1.g19, hj1.i0, hj1.i1, hj1.i2, hj1.i3, hj1.i4, hj1.i5, hj1.i6, hj1.i7, hj1.i8, hj1.i9, hj1.i10, hj1.j0, hj1.j1, hj1.j2, hj1.j3, hj1.j4, hj1.j5, hj1.j6, hj1.j7, hj1.j8, hj1.j9, hj1.j10, le_nI (a := x.n) (b := j) (by omega) (by omega)]
    refine ⟨fun _ => ?_, fun g => by omega⟩
    rw [show j = x.n by omega]
    exact k
  | succ n ih =>
    intro j hj w3 w4 w5 w6 w7 v3 v4 v5 v6
    have hj1 := h.put (x.rnd j).1 r
    have sj : (x.rnd j).1.sim x := rnd_sim j
    have okj : (x.rnd j).1.ok := rnd_ok ok j (by omega)
    have hlj := rnd_le (x := x) j
    have := ih (j + 1) (by omega)
    rw [rnd_s] at this
    rw [eX7_coolsOnce_4]
    simp only [eX7_coolsOnce_0, eX7_coolsOnce_1, eX7_coolsOnce_2, eX7_coolsOnce_3, eX7_coolsOnce_5, eX7_coolsOnce_6, eX7_coolsOnce_9, eX7_coolsOnce_12, eX7_coolsOnce_13, eX7_coolsOnce_16, eX7_coolsOnce_18, eX7_coolsOnce_19, eX7_coolsOnce_20, eX7_coolsOnce_21, eX7_coolsOnce_22, eX7_coolsOnce_25, eX7_coolsOnce_28, eX7_coolsOnce_29, eX7_coolsOnce_32, eX7_coolsOnce_34, eX7_coolsOnce_35, eX7_coolsOnce_36, eX7_coolsOnce_37, eX7_coolsOnce_38, eX7_coolsOnce_39, eX7_coolsOnce_40, eX7_coolsOnce_43, eX7_coolsOnce_45, eX7_coolsOnce_47, eX7_coolsOnce_49, eX7_coolsOnce_50, eX7_coolsOnce_54, eX7_coolsOnce_56, eX7_coolsOnce_59, eX7_coolsOnce_60, eX7_coolsOnce_61, eX7_coolsOnce_63, eX7_coolsOnce_66, eX7_coolsOnce_69, eX7_coolsOnce_72, eX7_coolsOnce_73, eX7_coolsOnce_74, eX7_coolsOnce_76, eX7_coolsOnce_79, eX7_coolsOnce_81, eX7_coolsOnce_83, eX7_coolsOnce_85, eX7_coolsOnce_88, eX7_coolsOnce_90, eX7_coolsOnce_91, eX7_coolsOnce_93, eX7_coolsOnce_95, eX7_coolsOnce_98, eX7_coolsOnce_101, eX7_coolsOnce_103, eX7_coolsOnce_105, eX7_coolsOnce_108, eX7_coolsOnce_109, eX7_coolsOnce_112, eX7_coolsOnce_114, eX7_coolsOnce_115, eX7_coolsOnce_116, eX7_coolsOnce_117, eX7_coolsOnce_118, eX7_coolsOnce_121, eX7_coolsOnce_124, eX7_coolsOnce_127, eX7_coolsOnce_128, Nat.add_zero, Nat.reduceAdd, Nat.reduceLeDiff, Nat.zero_le, and_true, o_aload_0r, o_callV_0, o_callV_1, o_callV_2, o_const_e, o_getf_e, o_goto_e, o_iald_e, o_iald_f, o_iast_e, o_icmp_e, o_if_e, o_ii_e, o_iinc_1, o_iinc_2, o_iinc_6, o_iload_1, o_iload_2, o_iload_3, o_iload_4, o_iload_5, o_iload_6, o_iload_7, o_iret_e, o_ist_1, o_ist_2, o_ist_3, o_ist_4, o_ist_5, o_ist_6, o_ist_7, tl_n, tl_s, true_and, xnlv_i, xnlv_n, xnlv_r, xwt_0, xwt_f, xwt_i, xwt_l, xwt_r, hj1.1.cls, hj1.1.g0, hj1.1.g1, hj1.1.g2, hj1.1.g3, hj1.1.g4, hj1.1.g5, hj1.1.g6, hj1.1.g7, hj1.1.g8, hj1.1.g9, hj1.1.g10, hj1.1.g11, hj1.1.g12, hj1.1.g13, hj1.1.g14, hj1.1.g15, hj1.1.g16, hj1.1.g17, hj1.1.g18, hj1.1.g19, hj1.i0, hj1.i1, hj1.i2, hj1.i3, hj1.i4, hj1.i5, hj1.i6, hj1.i7, hj1.i8, hj1.i9, hj1.i10, hj1.j0, hj1.j1, hj1.j2, hj1.j3, hj1.j4, hj1.j5, hj1.j6, hj1.j7, hj1.j8, hj1.j9, hj1.j10]
    refine d_cells hj1 ?_
    rw [sj.n]
    have hpj := okj.2.1 j
    have hmj := okj.1 j
    simp only [eX7_coolsOnce_0, eX7_coolsOnce_1, eX7_coolsOnce_2, eX7_coolsOnce_3, eX7_coolsOnce_5, eX7_coolsOnce_6, eX7_coolsOnce_9, eX7_coolsOnce_12, eX7_coolsOnce_13, eX7_coolsOnce_16, eX7_coolsOnce_18, eX7_coolsOnce_19, eX7_coolsOnce_20, eX7_coolsOnce_21, eX7_coolsOnce_22, eX7_coolsOnce_25, eX7_coolsOnce_28, eX7_coolsOnce_29, eX7_coolsOnce_32, eX7_coolsOnce_34, eX7_coolsOnce_35, eX7_coolsOnce_36, eX7_coolsOnce_37, eX7_coolsOnce_38, eX7_coolsOnce_39, eX7_coolsOnce_40, eX7_coolsOnce_43, eX7_coolsOnce_45, eX7_coolsOnce_47, eX7_coolsOnce_49, eX7_coolsOnce_50, eX7_coolsOnce_54, eX7_coolsOnce_56, eX7_coolsOnce_59, eX7_coolsOnce_60, eX7_coolsOnce_61, eX7_coolsOnce_63, eX7_coolsOnce_66, eX7_coolsOnce_69, eX7_coolsOnce_72, eX7_coolsOnce_73, eX7_coolsOnce_74, eX7_coolsOnce_76, eX7_coolsOnce_79, eX7_coolsOnce_81, eX7_coolsOnce_83, eX7_coolsOnce_85, eX7_coolsOnce_88, eX7_coolsOnce_90, eX7_coolsOnce_91, eX7_coolsOnce_93, eX7_coolsOnce_95, eX7_coolsOnce_98, eX7_coolsOnce_101, eX7_coolsOnce_103, eX7_coolsOnce_105, eX7_coolsOnce_108, eX7_coolsOnce_109, eX7_coolsOnce_112, eX7_coolsOnce_114, eX7_coolsOnce_115, eX7_coolsOnce_116, eX7_coolsOnce_117, eX7_coolsOnce_118, eX7_coolsOnce_121, eX7_coolsOnce_124, eX7_coolsOnce_127, eX7_coolsOnce_128, Nat.add_zero, Nat.reduceAdd, Nat.reduceLeDiff, Nat.zero_le, and_true, o_aload_0r, o_callV_0, o_callV_1, o_callV_2, o_const_e, o_getf_e, o_goto_e, o_iald_e, o_iald_f, o_iast_e, o_icmp_e, o_if_e, o_ii_e, o_iinc_1, o_iinc_2, o_iinc_6, o_iload_1, o_iload_2, o_iload_3, o_iload_4, o_iload_5, o_iload_6, o_iload_7, o_iret_e, o_ist_1, o_ist_2, o_ist_3, o_ist_4, o_ist_5, o_ist_6, o_ist_7, tl_n, tl_s, true_and, xnlv_i, xnlv_n, xnlv_r, xwt_0, xwt_f, xwt_i, xwt_l, xwt_r, hj1.1.cls, hj1.1.g0, hj1.1.g1, hj1.1.g2, hj1.1.g3, hj1.1.g4, hj1.1.g5, hj1.1.g6, hj1.1.g7, hj1.1.g8, hj1.1.g9, hj1.1.g10, hj1.1.g11, hj1.1.g12, hj1.1.g13, hj1.1.g14, hj1.1.g15, hj1.1.g16, hj1.1.g17, hj1.1.g18, hj1.1.g19, hj1.i0, hj1.i1, hj1.i2, hj1.i3, hj1.i4, hj1.i5, hj1.i6, hj1.i7, hj1.i8, hj1.i9, hj1.i10, hj1.j0, hj1.j1, hj1.j2, hj1.j3, hj1.j4, hj1.j5, hj1.j6, hj1.j7, hj1.j8, hj1.j9, hj1.j10, le_nI (a := x.n) (b := j) (by omega) (by omega), n11, n47, nI_add, hj1.rp (c := j) (by omega), hj1.rm (c := j) (by omega), n1, eq_nI (a := (x.rnd j).1.pn j) (b := 1) (by omega) (by omega)]
    refine ⟨fun g => by omega, fun _ => ⟨fun g => ?_, fun g => ?_⟩⟩
    · rw [if_neg (by omega)] at this
      refine d_energy hj1 okj (by rw [sj.n]; omega) ?_
      simp only [eX7_coolsOnce_0, eX7_coolsOnce_1, eX7_coolsOnce_2, eX7_coolsOnce_3, eX7_coolsOnce_5, eX7_coolsOnce_6, eX7_coolsOnce_9, eX7_coolsOnce_12, eX7_coolsOnce_13, eX7_coolsOnce_16, eX7_coolsOnce_18, eX7_coolsOnce_19, eX7_coolsOnce_20, eX7_coolsOnce_21, eX7_coolsOnce_22, eX7_coolsOnce_25, eX7_coolsOnce_28, eX7_coolsOnce_29, eX7_coolsOnce_32, eX7_coolsOnce_34, eX7_coolsOnce_35, eX7_coolsOnce_36, eX7_coolsOnce_37, eX7_coolsOnce_38, eX7_coolsOnce_39, eX7_coolsOnce_40, eX7_coolsOnce_43, eX7_coolsOnce_45, eX7_coolsOnce_47, eX7_coolsOnce_49, eX7_coolsOnce_50, eX7_coolsOnce_54, eX7_coolsOnce_56, eX7_coolsOnce_59, eX7_coolsOnce_60, eX7_coolsOnce_61, eX7_coolsOnce_63, eX7_coolsOnce_66, eX7_coolsOnce_69, eX7_coolsOnce_72, eX7_coolsOnce_73, eX7_coolsOnce_74, eX7_coolsOnce_76, eX7_coolsOnce_79, eX7_coolsOnce_81, eX7_coolsOnce_83, eX7_coolsOnce_85, eX7_coolsOnce_88, eX7_coolsOnce_90, eX7_coolsOnce_91, eX7_coolsOnce_93, eX7_coolsOnce_95, eX7_coolsOnce_98, eX7_coolsOnce_101, eX7_coolsOnce_103, eX7_coolsOnce_105, eX7_coolsOnce_108, eX7_coolsOnce_109, eX7_coolsOnce_112, eX7_coolsOnce_114, eX7_coolsOnce_115, eX7_coolsOnce_116, eX7_coolsOnce_117, eX7_coolsOnce_118, eX7_coolsOnce_121, eX7_coolsOnce_124, eX7_coolsOnce_127, eX7_coolsOnce_128, Nat.add_zero, Nat.reduceAdd, Nat.reduceLeDiff, Nat.zero_le, and_true, o_aload_0r, o_callV_0, o_callV_1, o_callV_2, o_const_e, o_getf_e, o_goto_e, o_iald_e, o_iald_f, o_iast_e, o_icmp_e, o_if_e, o_ii_e, o_iinc_1, o_iinc_2, o_iinc_6, o_iload_1, o_iload_2, o_iload_3, o_iload_4, o_iload_5, o_iload_6, o_iload_7, o_iret_e, o_ist_1, o_ist_2, o_ist_3, o_ist_4, o_ist_5, o_ist_6, o_ist_7, tl_n, tl_s, true_and, xnlv_i, xnlv_n, xnlv_r, xwt_0, xwt_f, xwt_i, xwt_l, xwt_r, v3, v4, v5, v6, true_and]
      have hcl := clF_lt okj (c := j) 8 (Nat.le_refl 8)
      have hcl2 := clF_le okj (c := j) 8
      have hen : (x.rnd j).1.en j ≤ 72 := sLat.E_le okj
      have hch := clF_ch (x := (x.rnd j).1) (c := j) (v := 8)
      refine k_cool1 hj1 okj (by rw [sj.n]; omega) (fun w => ?_) 8 0 (by omega) _
      simp only [eX7_coolsOnce_0, eX7_coolsOnce_1, eX7_coolsOnce_2, eX7_coolsOnce_3, eX7_coolsOnce_5, eX7_coolsOnce_6, eX7_coolsOnce_9, eX7_coolsOnce_12, eX7_coolsOnce_13, eX7_coolsOnce_16, eX7_coolsOnce_18, eX7_coolsOnce_19, eX7_coolsOnce_20, eX7_coolsOnce_21, eX7_coolsOnce_22, eX7_coolsOnce_25, eX7_coolsOnce_28, eX7_coolsOnce_29, eX7_coolsOnce_32, eX7_coolsOnce_34, eX7_coolsOnce_35, eX7_coolsOnce_36, eX7_coolsOnce_37, eX7_coolsOnce_38, eX7_coolsOnce_39, eX7_coolsOnce_40, eX7_coolsOnce_43, eX7_coolsOnce_45, eX7_coolsOnce_47, eX7_coolsOnce_49, eX7_coolsOnce_50, eX7_coolsOnce_54, eX7_coolsOnce_56, eX7_coolsOnce_59, eX7_coolsOnce_60, eX7_coolsOnce_61, eX7_coolsOnce_63, eX7_coolsOnce_66, eX7_coolsOnce_69, eX7_coolsOnce_72, eX7_coolsOnce_73, eX7_coolsOnce_74, eX7_coolsOnce_76, eX7_coolsOnce_79, eX7_coolsOnce_81, eX7_coolsOnce_83, eX7_coolsOnce_85, eX7_coolsOnce_88, eX7_coolsOnce_90, eX7_coolsOnce_91, eX7_coolsOnce_93, eX7_coolsOnce_95, eX7_coolsOnce_98, eX7_coolsOnce_101, eX7_coolsOnce_103, eX7_coolsOnce_105, eX7_coolsOnce_108, eX7_coolsOnce_109, eX7_coolsOnce_112, eX7_coolsOnce_114, eX7_coolsOnce_115, eX7_coolsOnce_116, eX7_coolsOnce_117, eX7_coolsOnce_118, eX7_coolsOnce_121, eX7_coolsOnce_124, eX7_coolsOnce_127, eX7_coolsOnce_128, Nat.add_zero, Nat.reduceAdd, Nat.reduceLeDiff, Nat.zero_le, and_true, o_aload_0r, o_callV_0, o_callV_1, o_callV_2, o_const_e, o_getf_e, o_goto_e, o_iald_e, o_iald_f, o_iast_e, o_icmp_e, o_if_e, o_ii_e, o_iinc_1, o_iinc_2, o_iinc_6, o_iload_1, o_iload_2, o_iload_3, o_iload_4, o_iload_5, o_iload_6, o_iload_7, o_iret_e, o_ist_1, o_ist_2, o_ist_3, o_ist_4, o_ist_5, o_ist_6, o_ist_7, tl_n, tl_s, true_and, xnlv_i, xnlv_n, xnlv_r, xwt_0, xwt_f, xwt_i, xwt_l, xwt_r, hj1.1.cls, hj1.1.g0, hj1.1.g1, hj1.1.g2, hj1.1.g3, hj1.1.g4, hj1.1.g5, hj1.1.g6, hj1.1.g7, hj1.1.g8, hj1.1.g9, hj1.1.g10, hj1.1.g11, hj1.1.g12, hj1.1.g13, hj1.1.g14, hj1.1.g15, hj1.1.g16, hj1.1.g17, hj1.1.g18, hj1.1.g19, hj1.i0, hj1.i1, hj1.i2, hj1.i3, hj1.i4, hj1.i5, hj1.i6, hj1.i7, hj1.i8, hj1.i9, hj1.i10, hj1.j0, hj1.j1, hj1.j2, hj1.j3, hj1.j4, hj1.j5, hj1.j6, hj1.j7, hj1.j8, hj1.j9, hj1.j10, le_nI (a := (x.rnd j).1.en j) (b := ((x.rnd j).1.clF j 8).2) (by omega) (by omega), n11, nI_add, hj1.wm (c := j) (v := ((x.rnd j).1.clF j 8).1) (by omega), n1]
      refine ⟨fun g2 => ?_, fun g2 => ?_⟩
      · rw [if_pos (by
          apply Classical.byContradiction
          intro z
          have := hch.mpr z
          omega)] at this
        exact this _ _ _ _ _ trivial trivial trivial trivial
      · rw [if_neg (hch.mp (by omega))] at this
        rw [modP_modP h.1.lt]
        exact this _ _ _ _ _ trivial trivial trivial trivial
    · rw [if_pos (by omega)] at this
      exact this _ _ _ _ _ v3 v4 v5 v6
theorem d_cool1 (h : MoL AH m s x r) (ok : x.ok) {Q : Option Value → xH → Prop} (k : Q (some (.int (nI x.cool1.2))) (modP AH m (s.wnw (nF x.cool1.1 r)))) : XC MX7_coolsOnce [.ref m] AH Q := by
  refine XC.ofR (L := [some (.ref m), none, none, none, none, none, none, none]) KX7_coolsOnce (by decide +kernel) (by first | decide | exact Nat.le_of_ble_eq_true rfl) rfl ?_
  simp only [eX7_coolsOnce_0, eX7_coolsOnce_1, eX7_coolsOnce_2, eX7_coolsOnce_3, eX7_coolsOnce_5, eX7_coolsOnce_6, eX7_coolsOnce_9, eX7_coolsOnce_12, eX7_coolsOnce_13, eX7_coolsOnce_16, eX7_coolsOnce_18, eX7_coolsOnce_19, eX7_coolsOnce_20, eX7_coolsOnce_21, eX7_coolsOnce_22, eX7_coolsOnce_25, eX7_coolsOnce_28, eX7_coolsOnce_29, eX7_coolsOnce_32, eX7_coolsOnce_34, eX7_coolsOnce_35, eX7_coolsOnce_36, eX7_coolsOnce_37, eX7_coolsOnce_38, eX7_coolsOnce_39, eX7_coolsOnce_40, eX7_coolsOnce_43, eX7_coolsOnce_45, eX7_coolsOnce_47, eX7_coolsOnce_49, eX7_coolsOnce_50, eX7_coolsOnce_52, eX7_coolsOnce_54, eX7_coolsOnce_56, eX7_coolsOnce_59, eX7_coolsOnce_60, eX7_coolsOnce_61, eX7_coolsOnce_63, eX7_coolsOnce_66, eX7_coolsOnce_69, eX7_coolsOnce_72, eX7_coolsOnce_73, eX7_coolsOnce_74, eX7_coolsOnce_76, eX7_coolsOnce_79, eX7_coolsOnce_81, eX7_coolsOnce_83, eX7_coolsOnce_85, eX7_coolsOnce_88, eX7_coolsOnce_90, eX7_coolsOnce_91, eX7_coolsOnce_93, eX7_coolsOnce_95, eX7_coolsOnce_98, eX7_coolsOnce_101, eX7_coolsOnce_103, eX7_coolsOnce_105, eX7_coolsOnce_108, eX7_coolsOnce_109, eX7_coolsOnce_112, eX7_coolsOnce_114, eX7_coolsOnce_115, eX7_coolsOnce_116, eX7_coolsOnce_117, eX7_coolsOnce_118, eX7_coolsOnce_121, eX7_coolsOnce_124, eX7_coolsOnce_127, eX7_coolsOnce_128, Nat.add_zero, Nat.reduceAdd, Nat.reduceLeDiff, Nat.zero_le, and_true, o_aload_0r, o_callV_0, o_callV_1, o_callV_2, o_const_e, o_getf_e, o_goto_e, o_iald_e, o_iald_f, o_iast_e, o_icmp_e, o_if_e, o_ii_e, o_iinc_1, o_iinc_2, o_iinc_6, o_iload_1, o_iload_2, o_iload_3, o_iload_4, o_iload_5, o_iload_6, o_iload_7, o_iret_e, o_ist_1, o_ist_2, o_ist_3, o_ist_4, o_ist_5, o_ist_6, o_ist_7, tl_n, tl_s, true_and, xnlv_i, xnlv_n, xnlv_r, xwt_0, xwt_f, xwt_i, xwt_l, xwt_r]
  have := k_cool2 h ok (Q := fun v AH' _ => Q v AH') k x.n 0 (by omega) none none none none none trivial trivial trivial trivial
  rw [show (x.rnd 0).1 = x from rfl, h.self] at this
  exact this
/-- coolsMany(n) -/
theorem k_coolN (h : MoL AH m s x r) (ok : x.ok) {n : Nat} (hnn : n ≤ 200) {Q : xQ} (k : Q (some (.int (nI (x.coN n).2))) (modP AH m (s.wnw (nF (x.coN n).1 r))) (0, 0)) : ∀ (p j : Nat), j + p = n →
    XR TX7_coolsMany 4 [some (.ref m), some (.int (nI n)), some (.int (nI (x.coN j).2)), some (.int (nI j))] [] (modP AH m (s.wnw (nF (x.coN j).1 r))) (0, 0) Q := by
  intro p
  induction p with
  | zero =>
    intro j hj
    rw [eX7_coolsMany_4]
    simp only [eX7_coolsMany_0, eX7_coolsMany_1, eX7_coolsMany_2, eX7_coolsMany_3, eX7_coolsMany_5, eX7_coolsMany_6, eX7_coolsMany_9, eX7_coolsMany_10, eX7_coolsMany_11, eX7_coolsMany_14, eX7_coolsMany_15, eX7_coolsMany_16, eX7_coolsMany_19, eX7_coolsMany_22, eX7_coolsMany_23, Nat.add_zero, Nat.reduceAdd, Nat.reduceLeDiff, Nat.zero_le, and_true, o_aload_0r, o_callV_0, o_const_e, o_goto_e, o_icmp_e, o_ii_e, o_iinc_3, o_iload_1, o_iload_2, o_iload_3, o_iret_e, o_ist_2, o_ist_3, tl_n, tl_s, true_and, xnlv_i, xnlv_n, xnlv_r, xwt_0, xwt_f, xwt_i, xwt_l, xwt_r, le_nI (a := n) (b := j) (by omega) (by omega)]
    refine ⟨fun _ => ?_, fun g => by omega⟩
    rw [show j = n by omega]
    exact k
  | succ p ih =>
    intro j hj
    have hj1 := h.put (x.coN j).1 r
    have okj : (x.coN j).1.ok := coN_ok ok j
    have := ih (j + 1) (by omega)
    rw [coN_s] at this
    dsimp only at this
    rw [eX7_coolsMany_4]
    simp only [eX7_coolsMany_0, eX7_coolsMany_1, eX7_coolsMany_2, eX7_coolsMany_3, eX7_coolsMany_5, eX7_coolsMany_6, eX7_coolsMany_9, eX7_coolsMany_10, eX7_coolsMany_11, eX7_coolsMany_14, eX7_coolsMany_15, eX7_coolsMany_16, eX7_coolsMany_19, eX7_coolsMany_22, eX7_coolsMany_23, Nat.add_zero, Nat.reduceAdd, Nat.reduceLeDiff, Nat.zero_le, and_true, o_aload_0r, o_callV_0, o_const_e, o_goto_e, o_icmp_e, o_ii_e, o_iinc_3, o_iload_1, o_iload_2, o_iload_3, o_iret_e, o_ist_2, o_ist_3, tl_n, tl_s, true_and, xnlv_i, xnlv_n, xnlv_r, xwt_0, xwt_f, xwt_i, xwt_l, xwt_r, le_nI (a := n) (b := j) (by omega) (by omega), hj1.1.cls, hj1.1.g0, hj1.1.g1, hj1.1.g2, hj1.1.g3, hj1.1.g4, hj1.1.g5, hj1.1.g6, hj1.1.g7, hj1.1.g8, hj1.1.g9, hj1.1.g10, hj1.1.g11, hj1.1.g12, hj1.1.g13, hj1.1.g14, hj1.1.g15, hj1.1.g16, hj1.1.g17, hj1.1.g18, hj1.1.g19, hj1.i0, hj1.i1, hj1.i2, hj1.i3, hj1.i4, hj1.i5, hj1.i6, hj1.i7, hj1.i8, hj1.i9, hj1.i10, hj1.j0, hj1.j1, hj1.j2, hj1.j3, hj1.j4, hj1.j5, hj1.j6, hj1.j7, hj1.j8, hj1.j9, hj1.j10]
    refine ⟨fun g => by omega, fun _ => d_cool1 hj1 okj ?_⟩
    rw [modP_modP h.1.lt]
    simp only [eX7_coolsMany_0, eX7_coolsMany_1, eX7_coolsMany_2, eX7_coolsMany_3, eX7_coolsMany_5, eX7_coolsMany_6, eX7_coolsMany_9, eX7_coolsMany_10, eX7_coolsMany_11, eX7_coolsMany_14, eX7_coolsMany_15, eX7_coolsMany_16, eX7_coolsMany_19, eX7_coolsMany_22, eX7_coolsMany_23, Nat.add_zero, Nat.reduceAdd, Nat.reduceLeDiff, Nat.zero_le, and_true, o_aload_0r, o_callV_0, o_const_e, o_goto_e, o_icmp_e, o_ii_e, o_iinc_3, o_iload_1, o_iload_2, o_iload_3, o_iret_e, o_ist_2, o_ist_3, tl_n, tl_s, true_and, xnlv_i, xnlv_n, xnlv_r, xwt_0, xwt_f, xwt_i, xwt_l, xwt_r, n1, nI_add]
    exact this
theorem d_coolN (h : MoL AH m s x r) (ok : x.ok) {n : Nat} (hnn : n ≤ 200) {Q : Option Value → xH → Prop} (k : Q (some (.int (nI (x.coN n).2))) (modP AH m (s.wnw (nF (x.coN n).1 r)))) : XC MX7_coolsMany [.ref m, .int (nI n)] AH Q := by
  refine XC.ofR (L := [some (.ref m), some (.int (nI n)), none, none]) KX7_coolsMany (by decide +kernel) (by first | decide | exact Nat.le_of_ble_eq_true rfl) rfl ?_
  simp only [eX7_coolsMany_0, eX7_coolsMany_1, eX7_coolsMany_2, eX7_coolsMany_3, eX7_coolsMany_5, eX7_coolsMany_6, eX7_coolsMany_9, eX7_coolsMany_10, eX7_coolsMany_11, eX7_coolsMany_14, eX7_coolsMany_15, eX7_coolsMany_16, eX7_coolsMany_19, eX7_coolsMany_22, eX7_coolsMany_23, Nat.add_zero, Nat.reduceAdd, Nat.reduceLeDiff, Nat.zero_le, and_true, o_aload_0r, o_callV_0, o_const_e, o_goto_e, o_icmp_e, o_ii_e, o_iinc_3, o_iload_1, o_iload_2, o_iload_3, o_iret_e, o_ist_2, o_ist_3, tl_n, tl_s, true_and, xnlv_i, xnlv_n, xnlv_r, xwt_0, xwt_f, xwt_i, xwt_l, xwt_r]
  have := k_coolN h ok hnn (Q := fun v AH' _ => Q v AH') k n 0 (by omega)
  rw [show (x.coN 0).1 = x from rfl, h.self] at this
  exact this
/-! copies of the row of all numbers -/
theorem nF_out {x : sLat} {r : sRow} {i : Nat} (h : 113 ≤ i) : nF x r i = 0 := by
  unfold nF
  rw [if_neg (by omega), if_neg (by omega), if_neg (by omega), if_neg (by omega), if_neg (by omega), if_neg (by omega), if_neg (by omega), if_neg (by omega), if_neg (by omega), if_neg (by omega), if_neg (by omega), if_neg (by omega), if_neg (by omega), if_neg (by omega), if_neg (by omega), if_neg (by omega)]
theorem cpy_nF {f g : Nat → Int32} (hf : ∀ i, 113 ≤ i → f i = 0) (hg : ∀ i, 113 ≤ i → g i = 0) : va_cpy f g 0 0 113 = f := by
  funext i
  unfold va_cpy
  split
  · rw [Nat.sub_zero, Nat.zero_add]
  · rw [hf i (by omega), hg i (by omega)]
theorem d_keeps (h : MoL AH m s x r) (hz : ∀ i, 113 ≤ i → s.kp i = 0) {Q : Option Value → xH → Prop} (k : Q none (modP AH m (s.wkp (nF x r)))) : XC MX7_keeps [.ref m] AH Q := by
  refine XC.ofR (L := [some (.ref m)]) KX7_keeps (by decide +kernel) (by first | decide | exact Nat.le_of_ble_eq_true rfl) rfl ?_
  simp only [eX7_keeps_0, eX7_keeps_1, eX7_keeps_4, eX7_keeps_5, eX7_keeps_6, eX7_keeps_9, eX7_keeps_10, eX7_keeps_12, eX7_keeps_15, Nat.add_zero, Nat.reduceAdd, Nat.reduceLeDiff, Nat.zero_le, and_true, o_aload_0r, o_const_e, o_copy_e, o_getf_e, o_vret_e, true_and, xwt_0, xwt_f, xwt_i, xwt_l, xwt_r, h.1.cls, h.1.g0, h.1.g1, h.1.g2, h.1.g3, h.1.g4, h.1.g5, h.1.g6, h.1.g7, h.1.g8, h.1.g9, h.1.g10, h.1.g11, h.1.g12, h.1.g13, h.1.g14, h.1.g15, h.1.g16, h.1.g17, h.1.g18, h.1.g19, h.i0, h.i1, h.i2, h.i3, h.i4, h.i5, h.i6, h.i7, h.i8, h.i9, h.i10, h.j0, h.j1, h.j2, h.j3, h.j4, h.j5, h.j6, h.j7, h.j8, h.j9, h.j10, z_nI, n113, xcpy_of (h.1 1 _ rfl) (h.1 2 _ rfl) (show 0 + 113 ≤ 113 by decide) (show 0 + 113 ≤ 113 by decide) (by decide) (by decide), h.1.a_kp]
  rw [h.2, cpy_nF (fun i hi => nF_out hi) hz]
  exact k
theorem d_lays (h : ModAt AH m s) (hz : ∀ i, 113 ≤ i → s.kp i = 0) (hz2 : ∀ i, 113 ≤ i → s.nw i = 0) {Q : Option Value → xH → Prop} (k : Q none (modP AH m (s.wnw s.kp))) : XC MX7_lays [.ref m] AH Q := by
  refine XC.ofR (L := [some (.ref m)]) KX7_lays (by decide +kernel) (by first | decide | exact Nat.le_of_ble_eq_true rfl) rfl ?_
  simp only [eX7_lays_0, eX7_lays_1, eX7_lays_4, eX7_lays_5, eX7_lays_6, eX7_lays_9, eX7_lays_10, eX7_lays_12, eX7_lays_15, Nat.add_zero, Nat.reduceAdd, Nat.reduceLeDiff, Nat.zero_le, and_true, o_aload_0r, o_const_e, o_copy_e, o_getf_e, o_vret_e, true_and, xwt_0, xwt_f, xwt_i, xwt_l, xwt_r, h.g0, h.g1, z_nI, n113, xcpy_of (h 2 _ rfl) (h 1 _ rfl) (show 0 + 113 ≤ 113 by decide) (show 0 + 113 ≤ 113 by decide) (by decide) (by decide), h.a_nw]
  rw [cpy_nF hz hz2]
  exact k
/-! what is told by hand -/
theorem d_mark (h : MoL AH m s x r) (ok : x.ok) {c v : Int32} {Q : Option Value → xH → Prop} (k : Q (some (.int (x.sMark c v).1)) (modP AH m (s.wnw (nF (x.sMark c v).2 r)))) : XC MX7_mark [.ref m, .int c, .int v] AH Q := by
  have hn := sLat.n36 ok
  unfold sLat.sMark at k
  refine XC.ofR (L := [some (.ref m), some (.int c), some (.int v), none]) KX7_mark (by decide +kernel) (by first | decide | exact Nat.le_of_ble_eq_true rfl) rfl ?_
  simp only [eX7_mark_0, eX7_mark_1, eX7_mark_2, eX7_mark_5, eX7_mark_8, eX7_mark_9, eX7_mark_10, eX7_mark_11, eX7_mark_14, eX7_mark_17, eX7_mark_19, eX7_mark_20, eX7_mark_21, eX7_mark_24, eX7_mark_26, eX7_mark_27, eX7_mark_28, eX7_mark_29, eX7_mark_30, eX7_mark_33, eX7_mark_35, eX7_mark_36, eX7_mark_37, eX7_mark_40, eX7_mark_42, eX7_mark_43, eX7_mark_44, eX7_mark_45, eX7_mark_46, eX7_mark_47, eX7_mark_50, eX7_mark_52, eX7_mark_53, eX7_mark_54, eX7_mark_55, eX7_mark_56, eX7_mark_57, Nat.add_zero, Nat.reduceAdd, Nat.reduceLeDiff, Nat.zero_le, and_true, o_aload_0r, o_callS_1, o_callV_1, o_const_e, o_getf_e, o_iald_e, o_iald_f, o_iast_e, o_icmp_e, o_if_e, o_ii_e, o_iload_1, o_iload_2, o_iload_3, o_iret_e, o_ist_3, tl_n, tl_s, true_and, xnlv_i, xnlv_n, xnlv_r, xwt_0, xwt_f, xwt_i, xwt_l, xwt_r, h.1.cls, h.1.g0, h.1.g1, h.1.g2, h.1.g3, h.1.g4, h.1.g5, h.1.g6, h.1.g7, h.1.g8, h.1.g9, h.1.g10, h.1.g11, h.1.g12, h.1.g13, h.1.g14, h.1.g15, h.1.g16, h.1.g17, h.1.g18, h.1.g19, h.i0, h.i1, h.i2, h.i3, h.i4, h.i5, h.i6, h.i7, h.i8, h.i9, h.i10, h.j0, h.j1, h.j2, h.j3, h.j4, h.j5, h.j6, h.j7, h.j8, h.j9, h.j10]
  refine d_isCell h ok ?_
  cases hj : ix x.n c with
  | none =>
    simp only [hj] at k
    rw [h.self] at k
    simp only [eX7_mark_0, eX7_mark_1, eX7_mark_2, eX7_mark_5, eX7_mark_8, eX7_mark_9, eX7_mark_10, eX7_mark_11, eX7_mark_14, eX7_mark_17, eX7_mark_19, eX7_mark_20, eX7_mark_21, eX7_mark_24, eX7_mark_26, eX7_mark_27, eX7_mark_28, eX7_mark_29, eX7_mark_30, eX7_mark_33, eX7_mark_35, eX7_mark_36, eX7_mark_37, eX7_mark_40, eX7_mark_42, eX7_mark_43, eX7_mark_44, eX7_mark_45, eX7_mark_46, eX7_mark_47, eX7_mark_50, eX7_mark_52, eX7_mark_53, eX7_mark_54, eX7_mark_55, eX7_mark_56, eX7_mark_57, Nat.add_zero, Nat.reduceAdd, Nat.reduceLeDiff, Nat.zero_le, and_true, o_aload_0r, o_callS_1, o_callV_1, o_const_e, o_getf_e, o_iald_e, o_iald_f, o_iast_e, o_icmp_e, o_if_e, o_ii_e, o_iload_1, o_iload_2, o_iload_3, o_iret_e, o_ist_3, tl_n, tl_s, true_and, xnlv_i, xnlv_n, xnlv_r, xwt_0, xwt_f, xwt_i, xwt_l, xwt_r, Option.isSome, not_true_eq_false, not_false_eq_true, true_implies, false_implies, and_true, true_and, implies_true, forall_const, ↓reduceIte, Bool.false_eq_true, i10, i10n]
    exact k
  | some j =>
    simp only [hj] at k
    obtain ⟨hj1, rfl⟩ := ix_s (by omega) hj
    simp only [eX7_mark_0, eX7_mark_1, eX7_mark_2, eX7_mark_5, eX7_mark_8, eX7_mark_9, eX7_mark_10, eX7_mark_11, eX7_mark_14, eX7_mark_17, eX7_mark_19, eX7_mark_20, eX7_mark_21, eX7_mark_24, eX7_mark_26, eX7_mark_27, eX7_mark_28, eX7_mark_29, eX7_mark_30, eX7_mark_33, eX7_mark_35, eX7_mark_36, eX7_mark_37, eX7_mark_40, eX7_mark_42, eX7_mark_43, eX7_mark_44, eX7_mark_45, eX7_mark_46, eX7_mark_47, eX7_mark_50, eX7_mark_52, eX7_mark_53, eX7_mark_54, eX7_mark_55, eX7_mark_56, eX7_mark_57, Nat.add_zero, Nat.reduceAdd, Nat.reduceLeDiff, Nat.zero_le, and_true, o_aload_0r, o_callS_1, o_callV_1, o_const_e, o_getf_e, o_iald_e, o_iald_f, o_iast_e, o_icmp_e, o_if_e, o_ii_e, o_iload_1, o_iload_2, o_iload_3, o_iret_e, o_ist_3, tl_n, tl_s, true_and, xnlv_i, xnlv_n, xnlv_r, xwt_0, xwt_f, xwt_i, xwt_l, xwt_r, Option.isSome, not_true_eq_false, not_false_eq_true, true_implies, false_implies, and_true, true_and, implies_true, forall_const, ↓reduceIte, Bool.false_eq_true, i10, i10n]
    refine d_isMark ?_
    cases hm : ix 8 v with
    | none =>
      simp only [hm] at k
      rw [h.self] at k
      simp only [eX7_mark_0, eX7_mark_1, eX7_mark_2, eX7_mark_5, eX7_mark_8, eX7_mark_9, eX7_mark_10, eX7_mark_11, eX7_mark_14, eX7_mark_17, eX7_mark_19, eX7_mark_20, eX7_mark_21, eX7_mark_24, eX7_mark_26, eX7_mark_27, eX7_mark_28, eX7_mark_29, eX7_mark_30, eX7_mark_33, eX7_mark_35, eX7_mark_36, eX7_mark_37, eX7_mark_40, eX7_mark_42, eX7_mark_43, eX7_mark_44, eX7_mark_45, eX7_mark_46, eX7_mark_47, eX7_mark_50, eX7_mark_52, eX7_mark_53, eX7_mark_54, eX7_mark_55, eX7_mark_56, eX7_mark_57, Nat.add_zero, Nat.reduceAdd, Nat.reduceLeDiff, Nat.zero_le, and_true, o_aload_0r, o_callS_1, o_callV_1, o_const_e, o_getf_e, o_iald_e, o_iald_f, o_iast_e, o_icmp_e, o_if_e, o_ii_e, o_iload_1, o_iload_2, o_iload_3, o_iret_e, o_ist_3, tl_n, tl_s, true_and, xnlv_i, xnlv_n, xnlv_r, xwt_0, xwt_f, xwt_i, xwt_l, xwt_r, Option.isSome, not_true_eq_false, not_false_eq_true, true_implies, false_implies, and_true, true_and, implies_true, forall_const, ↓reduceIte, Bool.false_eq_true, i10, i10n]
      exact k
    | some q =>
      simp only [hm] at k
      obtain ⟨hm1, rfl⟩ := ix_s (by omega) hm
      have hpj := ok.2.1 j
      simp only [eX7_mark_0, eX7_mark_1, eX7_mark_2, eX7_mark_5, eX7_mark_8, eX7_mark_9, eX7_mark_10, eX7_mark_11, eX7_mark_14, eX7_mark_17, eX7_mark_19, eX7_mark_20, eX7_mark_21, eX7_mark_24, eX7_mark_26, eX7_mark_27, eX7_mark_28, eX7_mark_29, eX7_mark_30, eX7_mark_33, eX7_mark_35, eX7_mark_36, eX7_mark_37, eX7_mark_40, eX7_mark_42, eX7_mark_43, eX7_mark_44, eX7_mark_45, eX7_mark_46, eX7_mark_47, eX7_mark_50, eX7_mark_52, eX7_mark_53, eX7_mark_54, eX7_mark_55, eX7_mark_56, eX7_mark_57, Nat.add_zero, Nat.reduceAdd, Nat.reduceLeDiff, Nat.zero_le, and_true, o_aload_0r, o_callS_1, o_callV_1, o_const_e, o_getf_e, o_iald_e, o_iald_f, o_iast_e, o_icmp_e, o_if_e, o_ii_e, o_iload_1, o_iload_2, o_iload_3, o_iret_e, o_ist_3, tl_n, tl_s, true_and, xnlv_i, xnlv_n, xnlv_r, xwt_0, xwt_f, xwt_i, xwt_l, xwt_r, Option.isSome, not_true_eq_false, not_false_eq_true, true_implies, false_implies, and_true, true_and, implies_true, forall_const, ↓reduceIte, Bool.false_eq_true, i10, i10n, h.1.cls, h.1.g0, h.1.g1, h.1.g2, h.1.g3, h.1.g4, h.1.g5, h.1.g6, h.1.g7, h.1.g8, h.1.g9, h.1.g10, h.1.g11, h.1.g12, h.1.g13, h.1.g14, h.1.g15, h.1.g16, h.1.g17, h.1.g18, h.1.g19, h.i0, h.i1, h.i2, h.i3, h.i4, h.i5, h.i6, h.i7, h.i8, h.i9, h.i10, h.j0, h.j1, h.j2, h.j3, h.j4, h.j5, h.j6, h.j7, h.j8, h.j9, h.j10, n11, n47, nI_add, h.rp (c := j) (by omega), h.rm (c := j) (by omega), n1, eq_nI (a := x.pn j) (b := 1) (by omega) (by omega), h.wm (c := j) (v := q) (by omega)]
      refine ⟨fun g => ?_, fun g => ?_⟩
      · rw [if_neg (by omega)] at k
        exact k
      · rw [if_pos (by omega), h.self] at k
        exact k
theorem d_pin (h : MoL AH m s x r) (ok : x.ok) {c v : Int32} {Q : Option Value → xH → Prop} (k : Q (some (.int (x.sPin c v).1)) (modP AH m (s.wnw (nF (x.sPin c v).2 r)))) : XC MX7_pin [.ref m, .int c, .int v] AH Q := by
  have hn := sLat.n36 ok
  unfold sLat.sPin at k
  refine XC.ofR (L := [some (.ref m), some (.int c), some (.int v), none]) KX7_pin (by decide +kernel) (by first | decide | exact Nat.le_of_ble_eq_true rfl) rfl ?_
  simp only [eX7_pin_0, eX7_pin_1, eX7_pin_2, eX7_pin_5, eX7_pin_8, eX7_pin_9, eX7_pin_10, eX7_pin_11, eX7_pin_12, eX7_pin_13, eX7_pin_16, eX7_pin_19, eX7_pin_21, eX7_pin_22, eX7_pin_23, eX7_pin_26, eX7_pin_28, eX7_pin_29, eX7_pin_30, eX7_pin_31, eX7_pin_32, eX7_pin_33, eX7_pin_36, eX7_pin_38, eX7_pin_39, eX7_pin_40, eX7_pin_41, eX7_pin_42, eX7_pin_43, Nat.add_zero, Nat.reduceAdd, Nat.reduceLeDiff, Nat.zero_le, and_true, o_aload_0r, o_callS_3, o_callV_1, o_const_e, o_getf_e, o_iald_e, o_iald_f, o_iast_e, o_if_e, o_ii_e, o_iload_1, o_iload_2, o_iload_3, o_iret_e, o_ist_3, tl_n, tl_s, true_and, xnlv_i, xnlv_n, xnlv_r, xwt_0, xwt_f, xwt_i, xwt_l, xwt_r, h.1.cls, h.1.g0, h.1.g1, h.1.g2, h.1.g3, h.1.g4, h.1.g5, h.1.g6, h.1.g7, h.1.g8, h.1.g9, h.1.g10, h.1.g11, h.1.g12, h.1.g13, h.1.g14, h.1.g15, h.1.g16, h.1.g17, h.1.g18, h.1.g19, h.i0, h.i1, h.i2, h.i3, h.i4, h.i5, h.i6, h.i7, h.i8, h.i9, h.i10, h.j0, h.j1, h.j2, h.j3, h.j4, h.j5, h.j6, h.j7, h.j8, h.j9, h.j10]
  refine d_isCell h ok ?_
  cases hj : ix x.n c with
  | none =>
    simp only [hj] at k
    rw [h.self] at k
    simp only [eX7_pin_0, eX7_pin_1, eX7_pin_2, eX7_pin_5, eX7_pin_8, eX7_pin_9, eX7_pin_10, eX7_pin_11, eX7_pin_12, eX7_pin_13, eX7_pin_16, eX7_pin_19, eX7_pin_21, eX7_pin_22, eX7_pin_23, eX7_pin_26, eX7_pin_28, eX7_pin_29, eX7_pin_30, eX7_pin_31, eX7_pin_32, eX7_pin_33, eX7_pin_36, eX7_pin_38, eX7_pin_39, eX7_pin_40, eX7_pin_41, eX7_pin_42, eX7_pin_43, Nat.add_zero, Nat.reduceAdd, Nat.reduceLeDiff, Nat.zero_le, and_true, o_aload_0r, o_callS_3, o_callV_1, o_const_e, o_getf_e, o_iald_e, o_iald_f, o_iast_e, o_if_e, o_ii_e, o_iload_1, o_iload_2, o_iload_3, o_iret_e, o_ist_3, tl_n, tl_s, true_and, xnlv_i, xnlv_n, xnlv_r, xwt_0, xwt_f, xwt_i, xwt_l, xwt_r, Option.isSome, not_true_eq_false, not_false_eq_true, true_implies, false_implies, and_true, true_and, implies_true, forall_const, ↓reduceIte, Bool.false_eq_true, i10, i10n]
    exact k
  | some j =>
    simp only [hj] at k
    obtain ⟨hj1, rfl⟩ := ix_s (by omega) hj
    simp only [eX7_pin_0, eX7_pin_1, eX7_pin_2, eX7_pin_5, eX7_pin_8, eX7_pin_9, eX7_pin_10, eX7_pin_11, eX7_pin_12, eX7_pin_13, eX7_pin_16, eX7_pin_19, eX7_pin_21, eX7_pin_22, eX7_pin_23, eX7_pin_26, eX7_pin_28, eX7_pin_29, eX7_pin_30, eX7_pin_31, eX7_pin_32, eX7_pin_33, eX7_pin_36, eX7_pin_38, eX7_pin_39, eX7_pin_40, eX7_pin_41, eX7_pin_42, eX7_pin_43, Nat.add_zero, Nat.reduceAdd, Nat.reduceLeDiff, Nat.zero_le, and_true, o_aload_0r, o_callS_3, o_callV_1, o_const_e, o_getf_e, o_iald_e, o_iald_f, o_iast_e, o_if_e, o_ii_e, o_iload_1, o_iload_2, o_iload_3, o_iret_e, o_ist_3, tl_n, tl_s, true_and, xnlv_i, xnlv_n, xnlv_r, xwt_0, xwt_f, xwt_i, xwt_l, xwt_r, Option.isSome, not_true_eq_false, not_false_eq_true, true_implies, false_implies, and_true, true_and, implies_true, forall_const, ↓reduceIte, Bool.false_eq_true, i10, i10n]
    refine d_in (lo := 0) (hi := 1) (by decide) (by decide) ?_
    rw [show 1 = 2 - 1 from rfl, rg_ix (by decide) (by decide)]
    cases hm : ix 2 v with
    | none =>
      simp only [hm] at k
      rw [h.self] at k
      simp only [eX7_pin_0, eX7_pin_1, eX7_pin_2, eX7_pin_5, eX7_pin_8, eX7_pin_9, eX7_pin_10, eX7_pin_11, eX7_pin_12, eX7_pin_13, eX7_pin_16, eX7_pin_19, eX7_pin_21, eX7_pin_22, eX7_pin_23, eX7_pin_26, eX7_pin_28, eX7_pin_29, eX7_pin_30, eX7_pin_31, eX7_pin_32, eX7_pin_33, eX7_pin_36, eX7_pin_38, eX7_pin_39, eX7_pin_40, eX7_pin_41, eX7_pin_42, eX7_pin_43, Nat.add_zero, Nat.reduceAdd, Nat.reduceLeDiff, Nat.zero_le, and_true, o_aload_0r, o_callS_3, o_callV_1, o_const_e, o_getf_e, o_iald_e, o_iald_f, o_iast_e, o_if_e, o_ii_e, o_iload_1, o_iload_2, o_iload_3, o_iret_e, o_ist_3, tl_n, tl_s, true_and, xnlv_i, xnlv_n, xnlv_r, xwt_0, xwt_f, xwt_i, xwt_l, xwt_r, Option.isSome, not_true_eq_false, not_false_eq_true, true_implies, false_implies, and_true, true_and, implies_true, forall_const, ↓reduceIte, Bool.false_eq_true, i10, i10n]
      exact k
    | some q =>
      simp only [hm] at k
      obtain ⟨hm1, rfl⟩ := ix_s (by omega) hm
      simp only [eX7_pin_0, eX7_pin_1, eX7_pin_2, eX7_pin_5, eX7_pin_8, eX7_pin_9, eX7_pin_10, eX7_pin_11, eX7_pin_12, eX7_pin_13, eX7_pin_16, eX7_pin_19, eX7_pin_21, eX7_pin_22, eX7_pin_23, eX7_pin_26, eX7_pin_28, eX7_pin_29, eX7_pin_30, eX7_pin_31, eX7_pin_32, eX7_pin_33, eX7_pin_36, eX7_pin_38, eX7_pin_39, eX7_pin_40, eX7_pin_41, eX7_pin_42, eX7_pin_43, Nat.add_zero, Nat.reduceAdd, Nat.reduceLeDiff, Nat.zero_le, and_true, o_aload_0r, o_callS_3, o_callV_1, o_const_e, o_getf_e, o_iald_e, o_iald_f, o_iast_e, o_if_e, o_ii_e, o_iload_1, o_iload_2, o_iload_3, o_iret_e, o_ist_3, tl_n, tl_s, true_and, xnlv_i, xnlv_n, xnlv_r, xwt_0, xwt_f, xwt_i, xwt_l, xwt_r, Option.isSome, not_true_eq_false, not_false_eq_true, true_implies, false_implies, and_true, true_and, implies_true, forall_const, ↓reduceIte, Bool.false_eq_true, i10, i10n, h.1.cls, h.1.g0, h.1.g1, h.1.g2, h.1.g3, h.1.g4, h.1.g5, h.1.g6, h.1.g7, h.1.g8, h.1.g9, h.1.g10, h.1.g11, h.1.g12, h.1.g13, h.1.g14, h.1.g15, h.1.g16, h.1.g17, h.1.g18, h.1.g19, h.i0, h.i1, h.i2, h.i3, h.i4, h.i5, h.i6, h.i7, h.i8, h.i9, h.i10, h.j0, h.j1, h.j2, h.j3, h.j4, h.j5, h.j6, h.j7, h.j8, h.j9, h.j10, n47, nI_add, h.rp (c := j) (by omega), h.wp (c := j) (v := q) (by omega)]
      exact k
end MOD3
