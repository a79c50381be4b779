/-! meets -/
theorem fq_mq {x : sLat} {n : Nat} : ∀ q, (x.mq n q = 0 ↔ x.fq n q = none)
  | 0 => ⟨fun _ => rfl, fun _ => rfl⟩
  | q + 1 => by
    have ih := fq_mq (x := x) (n := n) q
    rw [show x.mq n (q + 1) = x.mq n q + (if x.met (x.cor q) = n then 1 else 0) from rfl]
    unfold sLat.fq
    cases hf : x.fq n q with
    | none =>
      have := ih.mpr hf
      dsimp only
      split
      · simp
      · simp [this]
    | some z =>
      dsimp only
      have : x.mq n q ≠ 0 := fun e => by rw [ih.mp e] at hf; cases hf
      constructor
      · intro e; omega
      · intro e; cases e
theorem fq_lt {x : sLat} {n : Nat} : ∀ q z, x.fq n q = some z → z < q
  | 0, z, h => by cases h
  | q + 1, z, h => by
    unfold sLat.fq at h
    cases hf : x.fq n q with
    | none =>
      simp only [hf] at h
      split at h
      · cases h; omega
      · cases h
    | some y =>
      simp only [hf] at h
      cases h
      have := fq_lt q _ hf
      omega
theorem mq_le {x : sLat} {n : Nat} (q : Nat) : x.mq n q ≤ q := sm1_le q
theorem cor_rc {x : sLat} {row col : Nat} (hw : 2 ≤ x.wi) (hc : col < x.wi - 1) : x.cor (row * (x.wi - 1) + col) = x.wi * row + col := by
  unfold sLat.cor
  have e : row * (x.wi - 1) + col = col + (x.wi - 1) * row := by rw [Nat.mul_comm, Nat.add_comm]
  rw [e, Nat.add_mul_div_left _ _ (by omega), Nat.add_mul_mod_self_left, Nat.div_eq_of_lt hc, Nat.mod_eq_of_lt hc, Nat.zero_add, Nat.mul_comm]
section MEETS
variable {AH : xH} {m : Nat} {s : sMod} {x : sLat} {r : sRow}
theorem k_ms1 (h : MoL AH m s x r) (ok : x.ok) {n row : Nat} (hn4 : n ≤ 4) (hr : row < x.hi - 1) {sd : Int32} {Q : xQ} (k : ∀ s' : sMod, s'.gq s → MgOK x s' → XR TX7_meets 113 [some (.ref m), some (.int sd), some (.int (nI n)), some (.int (nI (x.mq n (row * (x.wi - 1) + (x.wi - 1))))), some (.int (lkV (x.fq n (row * (x.wi - 1) + (x.wi - 1))))), some (.int (nI (row * (x.wi - 1) + (x.wi - 1)))), some (.int (nI row)), some (.int (nI (x.wi - 1)))] [] (modP AH m s') (0, 0) Q) : ∀ (z col : Nat), col + z = x.wi - 1 → ∀ s' : sMod, s'.gq s → MgOK x s' →
    XR TX7_meets 55 [some (.ref m), some (.int sd), some (.int (nI n)), some (.int (nI (x.mq n (row * (x.wi - 1) + col)))), some (.int (lkV (x.fq n (row * (x.wi - 1) + col)))), some (.int (nI (row * (x.wi - 1) + col))), some (.int (nI row)), some (.int (nI col))] [] (modP AH m s') (0, 0) Q := by
  have h1 := ok.2.2.1
  have h2 := ok.2.2.2.1
  intro z
  induction z with
  | zero =>
    intro col hcol s' hs hG
    have hA := h.q hs
    rw [eX7_meets_55]
    simp only [eX7_meets_0, eX7_meets_1, eX7_meets_2, eX7_meets_3, eX7_meets_6, eX7_meets_9, eX7_meets_10, eX7_meets_11, eX7_meets_12, eX7_meets_13, eX7_meets_14, eX7_meets_17, eX7_meets_20, eX7_meets_22, eX7_meets_23, eX7_meets_24, eX7_meets_27, eX7_meets_28, eX7_meets_29, eX7_meets_31, eX7_meets_33, eX7_meets_34, eX7_meets_36, eX7_meets_37, eX7_meets_39, eX7_meets_41, eX7_meets_42, eX7_meets_43, eX7_meets_44, eX7_meets_47, eX7_meets_48, eX7_meets_49, eX7_meets_52, eX7_meets_53, eX7_meets_57, eX7_meets_58, eX7_meets_59, eX7_meets_60, eX7_meets_63, eX7_meets_64, eX7_meets_65, eX7_meets_68, eX7_meets_69, eX7_meets_70, eX7_meets_73, eX7_meets_74, eX7_meets_75, eX7_meets_77, eX7_meets_78, eX7_meets_80, eX7_meets_81, eX7_meets_84, eX7_meets_85, eX7_meets_88, eX7_meets_89, eX7_meets_92, eX7_meets_94, eX7_meets_97, eX7_meets_99, eX7_meets_101, eX7_meets_104, eX7_meets_107, eX7_meets_110, eX7_meets_116, eX7_meets_119, eX7_meets_120, eX7_meets_123, eX7_meets_124, eX7_meets_127, eX7_meets_129, Nat.add_zero, Nat.reduceAdd, Nat.reduceLeDiff, Nat.zero_le, and_true, o_aload_0r, o_callS_3, o_callV_0, o_callV_1, o_const_e, o_getf_e, o_goto_e, o_iald_e, o_iald_f, o_icmp_e, o_if_e, o_ii_e, o_iinc_3, o_iinc_5, o_iinc_6, o_iinc_7, o_iload_1, o_iload_2, o_iload_3, o_iload_4, o_iload_5, o_iload_6, o_iload_7, o_iret_e, o_ist_3, o_ist_4, o_ist_5, o_ist_6, o_ist_7, tl_n, tl_s, true_and, xnlv_i, xnlv_n, xnlv_r, xwt_0, xwt_f, xwt_i, xwt_l, xwt_r, hA.1.cls, hA.1.g0, hA.1.g1, hA.1.g2, hA.1.g3, hA.1.g4, hA.1.g5, hA.1.g6, hA.1.g7, hA.1.g8, hA.1.g9, hA.1.g10, hA.1.g11, hA.1.g12, hA.1.g13, hA.1.g14, hA.1.g15, hA.1.g16, hA.1.g17, hA.1.g18, hA.1.g19, hA.i0, hA.i1, hA.i2, hA.i3, hA.i4, hA.i5, hA.i6, hA.i7, hA.i8, hA.i9, hA.i10, hA.j0, hA.j1, hA.j2, hA.j3, hA.j4, hA.j5, hA.j6, hA.j7, hA.j8, hA.j9, hA.j10, n1, nI_add, le_nI (a := x.wi) (b := col + 1) (by omega) (by omega)]
    refine ⟨fun _ => ?_, fun g => by omega⟩
    have e : col = x.wi - 1 := by omega
    subst e
    exact k s' hs hG
  | succ z ih =>
    intro col hcol s' hs hG
    have hA := h.q hs
    have hb : row * (x.wi - 1) + col < x.sq := by
      have := Nat.mul_le_mul_right (x.wi - 1) (show row + 1 ≤ x.hi - 1 from hr)
      rw [Nat.add_mul, Nat.one_mul] at this
      unfold sLat.sq
      omega
    have hcl := cor_lt ok hb
    have hcr := cor_rc (x := x) (row := row) (col := col) h2.1 (by omega)
    have hsq : x.sq ≤ 5 * 5 := Nat.mul_le_mul (by omega) (by omega)
    have this := ih (col + 1) (by omega)
    rw [← Nat.add_assoc] at this
    generalize hq : row * (x.wi - 1) + col = q at *
    have hmq := mq_le (x := x) (n := n) q
    rw [hcr] at hcl
    rw [show x.mq n (q + 1) = x.mq n q + (if x.met (x.cor q) = n then 1 else 0) from rfl, show x.fq n (q + 1) = (match x.fq n q with | some z => some z | none => if x.met (x.cor q) = n then some q else none) from rfl, hcr] at this
    rw [eX7_meets_55]
    simp only [eX7_meets_0, eX7_meets_1, eX7_meets_2, eX7_meets_3, eX7_meets_6, eX7_meets_9, eX7_meets_10, eX7_meets_11, eX7_meets_12, eX7_meets_13, eX7_meets_14, eX7_meets_17, eX7_meets_20, eX7_meets_22, eX7_meets_23, eX7_meets_24, eX7_meets_27, eX7_meets_28, eX7_meets_29, eX7_meets_31, eX7_meets_33, eX7_meets_34, eX7_meets_36, eX7_meets_37, eX7_meets_39, eX7_meets_41, eX7_meets_42, eX7_meets_43, eX7_meets_44, eX7_meets_47, eX7_meets_48, eX7_meets_49, eX7_meets_52, eX7_meets_53, eX7_meets_57, eX7_meets_58, eX7_meets_59, eX7_meets_60, eX7_meets_63, eX7_meets_64, eX7_meets_65, eX7_meets_68, eX7_meets_69, eX7_meets_70, eX7_meets_73, eX7_meets_74, eX7_meets_75, eX7_meets_77, eX7_meets_78, eX7_meets_80, eX7_meets_81, eX7_meets_84, eX7_meets_85, eX7_meets_88, eX7_meets_89, eX7_meets_92, eX7_meets_94, eX7_meets_97, eX7_meets_99, eX7_meets_101, eX7_meets_104, eX7_meets_107, eX7_meets_110, eX7_meets_116, eX7_meets_119, eX7_meets_120, eX7_meets_123, eX7_meets_124, eX7_meets_127, eX7_meets_129, Nat.add_zero, Nat.reduceAdd, Nat.reduceLeDiff, Nat.zero_le, and_true, o_aload_0r, o_callS_3, o_callV_0, o_callV_1, o_const_e, o_getf_e, o_goto_e, o_iald_e, o_iald_f, o_icmp_e, o_if_e, o_ii_e, o_iinc_3, o_iinc_5, o_iinc_6, o_iinc_7, o_iload_1, o_iload_2, o_iload_3, o_iload_4, o_iload_5, o_iload_6, o_iload_7, o_iret_e, o_ist_3, o_ist_4, o_ist_5, o_ist_6, o_ist_7, tl_n, tl_s, true_and, xnlv_i, xnlv_n, xnlv_r, xwt_0, xwt_f, xwt_i, xwt_l, xwt_r, hA.1.cls, hA.1.g0, hA.1.g1, hA.1.g2, hA.1.g3, hA.1.g4, hA.1.g5, hA.1.g6, hA.1.g7, hA.1.g8, hA.1.g9, hA.1.g10, hA.1.g11, hA.1.g12, hA.1.g13, hA.1.g14, hA.1.g15, hA.1.g16, hA.1.g17, hA.1.g18, hA.1.g19, hA.i0, hA.i1, hA.i2, hA.i3, hA.i4, hA.i5, hA.i6, hA.i7, hA.i8, hA.i9, hA.i10, hA.j0, hA.j1, hA.j2, hA.j3, hA.j4, hA.j5, hA.j6, hA.j7, hA.j8, hA.j9, hA.j10, n1, nI_add, le_nI (a := x.wi) (b := col + 1) (by omega) (by omega), pk_mul]
    refine ⟨fun g => by omega, fun _ => d_mt hA ok hG hcl (fun s2 hs2 hG2 => ?_)⟩
    rw [modP_modP h.1.lt]
    have hml := met_le (x := x) (c := x.wi * row + col)
    simp only [eX7_meets_0, eX7_meets_1, eX7_meets_2, eX7_meets_3, eX7_meets_6, eX7_meets_9, eX7_meets_10, eX7_meets_11, eX7_meets_12, eX7_meets_13, eX7_meets_14, eX7_meets_17, eX7_meets_20, eX7_meets_22, eX7_meets_23, eX7_meets_24, eX7_meets_27, eX7_meets_28, eX7_meets_29, eX7_meets_31, eX7_meets_33, eX7_meets_34, eX7_meets_36, eX7_meets_37, eX7_meets_39, eX7_meets_41, eX7_meets_42, eX7_meets_43, eX7_meets_44, eX7_meets_47, eX7_meets_48, eX7_meets_49, eX7_meets_52, eX7_meets_53, eX7_meets_57, eX7_meets_58, eX7_meets_59, eX7_meets_60, eX7_meets_63, eX7_meets_64, eX7_meets_65, eX7_meets_68, eX7_meets_69, eX7_meets_70, eX7_meets_73, eX7_meets_74, eX7_meets_75, eX7_meets_77, eX7_meets_78, eX7_meets_80, eX7_meets_81, eX7_meets_84, eX7_meets_85, eX7_meets_88, eX7_meets_89, eX7_meets_92, eX7_meets_94, eX7_meets_97, eX7_meets_99, eX7_meets_101, eX7_meets_104, eX7_meets_107, eX7_meets_110, eX7_meets_116, eX7_meets_119, eX7_meets_120, eX7_meets_123, eX7_meets_124, eX7_meets_127, eX7_meets_129, Nat.add_zero, Nat.reduceAdd, Nat.reduceLeDiff, Nat.zero_le, and_true, o_aload_0r, o_callS_3, o_callV_0, o_callV_1, o_const_e, o_getf_e, o_goto_e, o_iald_e, o_iald_f, o_icmp_e, o_if_e, o_ii_e, o_iinc_3, o_iinc_5, o_iinc_6, o_iinc_7, o_iload_1, o_iload_2, o_iload_3, o_iload_4, o_iload_5, o_iload_6, o_iload_7, o_iret_e, o_ist_3, o_ist_4, o_ist_5, o_ist_6, o_ist_7, tl_n, tl_s, true_and, xnlv_i, xnlv_n, xnlv_r, xwt_0, xwt_f, xwt_i, xwt_l, xwt_r, eq_nI (a := x.met (x.wi * row + col)) (b := n) (by omega) (by omega), eq0_nI (a := x.mq n q) (by omega), n1, nI_add]
    refine ⟨fun g1 => ?_, fun g1 => ⟨fun g2 => ?_, fun g2 => ?_⟩⟩
    · rw [if_neg g1, if_neg g1] at this
      have e : (match x.fq n q with | some z => some z | none => none) = x.fq n q := by cases x.fq n q <;> rfl
      rw [e] at this
      exact this s2 (hs2.tr hs) hG2
    · rw [if_pos (Classical.not_not.mp g1), if_pos (Classical.not_not.mp g1)] at this
      cases hf : x.fq n q with
      | none => exact absurd ((fq_mq q).mpr hf) g2
      | some y =>
        rw [hf] at this
        exact this s2 (hs2.tr hs) hG2
    · rw [if_pos (Classical.not_not.mp g1), if_pos (Classical.not_not.mp g1)] at this
      have hf := (fq_mq q).mp (Classical.not_not.mp g2)
      rw [hf] at this
      exact this s2 (hs2.tr hs) hG2
theorem k_ms2 (h : MoL AH m s x r) (ok : x.ok) {n : Nat} (hn4 : n ≤ 4) {d : Nat} (hd : d < 2) {Q : xQ} (k : ∀ s' : sMod, s'.gq s → Q (some (.int (if d = 0 then nI (x.mq n x.sq) else lkV (x.fq n x.sq)))) (modP AH m s') (0, 0)) : ∀ (z row : Nat), row + z = x.hi - 1 → ∀ (s' : sMod) (w7 : Option Value), s'.gq s → MgOK x s' → xnlv w7 →
    XR TX7_meets 39 [some (.ref m), some (.int (nI d)), some (.int (nI n)), some (.int (nI (x.mq n (row * (x.wi - 1))))), some (.int (lkV (x.fq n (row * (x.wi - 1))))), some (.int (nI (row * (x.wi - 1)))), some (.int (nI row)), w7] [] (modP AH m s') (0, 0) Q := by
  have h1 := ok.2.2.1
  have h2 := ok.2.2.2.1
  intro z
  induction z with
  | zero =>
    intro row hrow s' w7 hs hG v7
    have hA := h.q hs
    rw [eX7_meets_39]
    simp only [eX7_meets_0, eX7_meets_1, eX7_meets_2, eX7_meets_3, eX7_meets_6, eX7_meets_9, eX7_meets_10, eX7_meets_11, eX7_meets_12, eX7_meets_13, eX7_meets_14, eX7_meets_17, eX7_meets_20, eX7_meets_22, eX7_meets_23, eX7_meets_24, eX7_meets_27, eX7_meets_28, eX7_meets_29, eX7_meets_31, eX7_meets_33, eX7_meets_34, eX7_meets_36, eX7_meets_37, eX7_meets_41, eX7_meets_42, eX7_meets_43, eX7_meets_44, eX7_meets_47, eX7_meets_48, eX7_meets_49, eX7_meets_52, eX7_meets_53, eX7_meets_57, eX7_meets_58, eX7_meets_59, eX7_meets_60, eX7_meets_63, eX7_meets_64, eX7_meets_65, eX7_meets_68, eX7_meets_69, eX7_meets_70, eX7_meets_73, eX7_meets_74, eX7_meets_75, eX7_meets_77, eX7_meets_78, eX7_meets_80, eX7_meets_81, eX7_meets_84, eX7_meets_85, eX7_meets_88, eX7_meets_89, eX7_meets_92, eX7_meets_94, eX7_meets_97, eX7_meets_99, eX7_meets_101, eX7_meets_104, eX7_meets_107, eX7_meets_110, eX7_meets_113, eX7_meets_116, eX7_meets_119, eX7_meets_120, eX7_meets_123, eX7_meets_124, eX7_meets_127, eX7_meets_129, Nat.add_zero, Nat.reduceAdd, Nat.reduceLeDiff, Nat.zero_le, and_true, o_aload_0r, o_callS_3, o_callV_0, o_callV_1, o_const_e, o_getf_e, o_goto_e, o_iald_e, o_iald_f, o_icmp_e, o_if_e, o_ii_e, o_iinc_3, o_iinc_5, o_iinc_6, o_iinc_7, o_iload_1, o_iload_2, o_iload_3, o_iload_4, o_iload_5, o_iload_6, o_iload_7, o_iret_e, o_ist_3, o_ist_4, o_ist_5, o_ist_6, o_ist_7, tl_n, tl_s, true_and, xnlv_i, xnlv_n, xnlv_r, xwt_0, xwt_f, xwt_i, xwt_l, xwt_r, hA.1.cls, hA.1.g0, hA.1.g1, hA.1.g2, hA.1.g3, hA.1.g4, hA.1.g5, hA.1.g6, hA.1.g7, hA.1.g8, hA.1.g9, hA.1.g10, hA.1.g11, hA.1.g12, hA.1.g13, hA.1.g14, hA.1.g15, hA.1.g16, hA.1.g17, hA.1.g18, hA.1.g19, hA.i0, hA.i1, hA.i2, hA.i3, hA.i4, hA.i5, hA.i6, hA.i7, hA.i8, hA.i9, hA.i10, hA.j0, hA.j1, hA.j2, hA.j3, hA.j4, hA.j5, hA.j6, hA.j7, hA.j8, hA.j9, hA.j10, n1, nI_add, le_nI (a := x.hi) (b := row + 1) (by omega) (by omega), eq0_nI (a := d) (by omega)]
    refine ⟨fun _ => ?_, fun g => by omega⟩
    have e : row * (x.wi - 1) = x.sq := by unfold sLat.sq; rw [show row = x.hi - 1 by omega]
    rw [e]
    have k := k s' hs
    refine ⟨fun g => ?_, fun g => ?_⟩
    · rw [if_neg g] at k
      exact k
    · rw [if_pos (Classical.not_not.mp g)] at k
      exact k
  | succ z ih =>
    intro row hrow s' w7 hs hG v7
    have hA := h.q hs
    rw [eX7_meets_39]
    simp only [eX7_meets_0, eX7_meets_1, eX7_meets_2, eX7_meets_3, eX7_meets_6, eX7_meets_9, eX7_meets_10, eX7_meets_11, eX7_meets_12, eX7_meets_13, eX7_meets_14, eX7_meets_17, eX7_meets_20, eX7_meets_22, eX7_meets_23, eX7_meets_24, eX7_meets_27, eX7_meets_28, eX7_meets_29, eX7_meets_31, eX7_meets_33, eX7_meets_34, eX7_meets_36, eX7_meets_37, eX7_meets_41, eX7_meets_42, eX7_meets_43, eX7_meets_44, eX7_meets_47, eX7_meets_48, eX7_meets_49, eX7_meets_52, eX7_meets_53, eX7_meets_57, eX7_meets_58, eX7_meets_59, eX7_meets_60, eX7_meets_63, eX7_meets_64, eX7_meets_65, eX7_meets_68, eX7_meets_69, eX7_meets_70, eX7_meets_73, eX7_meets_74, eX7_meets_75, eX7_meets_77, eX7_meets_78, eX7_meets_80, eX7_meets_81, eX7_meets_84, eX7_meets_85, eX7_meets_88, eX7_meets_89, eX7_meets_92, eX7_meets_94, eX7_meets_97, eX7_meets_99, eX7_meets_101, eX7_meets_104, eX7_meets_107, eX7_meets_110, eX7_meets_113, eX7_meets_116, eX7_meets_119, eX7_meets_120, eX7_meets_123, eX7_meets_124, eX7_meets_127, eX7_meets_129, Nat.add_zero, Nat.reduceAdd, Nat.reduceLeDiff, Nat.zero_le, and_true, o_aload_0r, o_callS_3, o_callV_0, o_callV_1, o_const_e, o_getf_e, o_goto_e, o_iald_e, o_iald_f, o_icmp_e, o_if_e, o_ii_e, o_iinc_3, o_iinc_5, o_iinc_6, o_iinc_7, o_iload_1, o_iload_2, o_iload_3, o_iload_4, o_iload_5, o_iload_6, o_iload_7, o_iret_e, o_ist_3, o_ist_4, o_ist_5, o_ist_6, o_ist_7, tl_n, tl_s, true_and, xnlv_i, xnlv_n, xnlv_r, xwt_0, xwt_f, xwt_i, xwt_l, xwt_r, hA.1.cls, hA.1.g0, hA.1.g1, hA.1.g2, hA.1.g3, hA.1.g4, hA.1.g5, hA.1.g6, hA.1.g7, hA.1.g8, hA.1.g9, hA.1.g10, hA.1.g11, hA.1.g12, hA.1.g13, hA.1.g14, hA.1.g15, hA.1.g16, hA.1.g17, hA.1.g18, hA.1.g19, hA.i0, hA.i1, hA.i2, hA.i3, hA.i4, hA.i5, hA.i6, hA.i7, hA.i8, hA.i9, hA.i10, hA.j0, hA.j1, hA.j2, hA.j3, hA.j4, hA.j5, hA.j6, hA.j7, hA.j8, hA.j9, hA.j10, n1, nI_add, le_nI (a := x.hi) (b := row + 1) (by omega) (by omega), v7]
    refine ⟨fun g => by omega, fun _ => k_ms1 h ok hn4 (by omega) (fun s2 hs2 hG2 => ?_) (x.wi - 1) 0 (by omega) s' hs hG⟩
    simp only [eX7_meets_0, eX7_meets_1, eX7_meets_2, eX7_meets_3, eX7_meets_6, eX7_meets_9, eX7_meets_10, eX7_meets_11, eX7_meets_12, eX7_meets_13, eX7_meets_14, eX7_meets_17, eX7_meets_20, eX7_meets_22, eX7_meets_23, eX7_meets_24, eX7_meets_27, eX7_meets_28, eX7_meets_29, eX7_meets_31, eX7_meets_33, eX7_meets_34, eX7_meets_36, eX7_meets_37, eX7_meets_41, eX7_meets_42, eX7_meets_43, eX7_meets_44, eX7_meets_47, eX7_meets_48, eX7_meets_49, eX7_meets_52, eX7_meets_53, eX7_meets_57, eX7_meets_58, eX7_meets_59, eX7_meets_60, eX7_meets_63, eX7_meets_64, eX7_meets_65, eX7_meets_68, eX7_meets_69, eX7_meets_70, eX7_meets_73, eX7_meets_74, eX7_meets_75, eX7_meets_77, eX7_meets_78, eX7_meets_80, eX7_meets_81, eX7_meets_84, eX7_meets_85, eX7_meets_88, eX7_meets_89, eX7_meets_92, eX7_meets_94, eX7_meets_97, eX7_meets_99, eX7_meets_101, eX7_meets_104, eX7_meets_107, eX7_meets_110, eX7_meets_113, eX7_meets_116, eX7_meets_119, eX7_meets_120, eX7_meets_123, eX7_meets_124, eX7_meets_127, eX7_meets_129, Nat.add_zero, Nat.reduceAdd, Nat.reduceLeDiff, Nat.zero_le, and_true, o_aload_0r, o_callS_3, o_callV_0, o_callV_1, o_const_e, o_getf_e, o_goto_e, o_iald_e, o_iald_f, o_icmp_e, o_if_e, o_ii_e, o_iinc_3, o_iinc_5, o_iinc_6, o_iinc_7, o_iload_1, o_iload_2, o_iload_3, o_iload_4, o_iload_5, o_iload_6, o_iload_7, o_iret_e, o_ist_3, o_ist_4, o_ist_5, o_ist_6, o_ist_7, tl_n, tl_s, true_and, xnlv_i, xnlv_n, xnlv_r, xwt_0, xwt_f, xwt_i, xwt_l, xwt_r, n1, nI_add]
    have := ih (row + 1) (by omega) s2
    rw [Nat.add_mul, Nat.one_mul] at this
    exact this _ hs2 hG2 trivial
/-- meets(side, n) -/
theorem d_meets (h : MoL AH m s x r) (ok : x.ok) {sd v : Int32} {Q : Option Value → xH → Prop} (k : ∀ s', s'.gq s → Q (some (.int (x.aMts sd v))) (modP AH m s')) : XC MX7_meets [.ref m, .int sd, .int v] AH Q := by
  have k0 := k s (sMod.gq.rf s)
  rw [modP_self h.1] at k0
  unfold sLat.aMts at k k0
  refine XC.ofR (L := [some (.ref m), some (.int sd), some (.int v), none, none, none, none, none]) KX7_meets (by decide +kernel) (by first | decide | exact Nat.le_of_ble_eq_true rfl) rfl ?_
  simp only [eX7_meets_0, eX7_meets_1, eX7_meets_2, eX7_meets_3, eX7_meets_6, eX7_meets_9, eX7_meets_10, eX7_meets_11, eX7_meets_12, eX7_meets_13, eX7_meets_14, eX7_meets_17, eX7_meets_20, eX7_meets_22, eX7_meets_23, eX7_meets_24, eX7_meets_27, eX7_meets_28, eX7_meets_29, eX7_meets_31, eX7_meets_33, eX7_meets_34, eX7_meets_36, eX7_meets_37, eX7_meets_41, eX7_meets_42, eX7_meets_43, eX7_meets_44, eX7_meets_47, eX7_meets_48, eX7_meets_49, eX7_meets_52, eX7_meets_53, eX7_meets_55, eX7_meets_57, eX7_meets_58, eX7_meets_59, eX7_meets_60, eX7_meets_63, eX7_meets_64, eX7_meets_65, eX7_meets_68, eX7_meets_69, eX7_meets_70, eX7_meets_73, eX7_meets_74, eX7_meets_75, eX7_meets_77, eX7_meets_78, eX7_meets_80, eX7_meets_81, eX7_meets_84, eX7_meets_85, eX7_meets_88, eX7_meets_89, eX7_meets_92, eX7_meets_94, eX7_meets_97, eX7_meets_99, eX7_meets_101, eX7_meets_104, eX7_meets_107, eX7_meets_110, eX7_meets_113, eX7_meets_116, eX7_meets_119, eX7_meets_120, eX7_meets_123, eX7_meets_124, eX7_meets_127, eX7_meets_129, Nat.add_zero, Nat.reduceAdd, Nat.reduceLeDiff, Nat.zero_le, and_true, o_aload_0r, o_callS_3, o_callV_0, o_callV_1, o_const_e, o_getf_e, o_goto_e, o_iald_e, o_iald_f, o_icmp_e, o_if_e, o_ii_e, o_iinc_3, o_iinc_5, o_iinc_6, o_iinc_7, o_iload_1, o_iload_2, o_iload_3, o_iload_4, o_iload_5, o_iload_6, o_iload_7, o_iret_e, o_ist_3, o_ist_4, o_ist_5, o_ist_6, o_ist_7, tl_n, tl_s, true_and, xnlv_i, xnlv_n, xnlv_r, xwt_0, xwt_f, xwt_i, xwt_l, xwt_r]
  refine d_ix 2 (by decide) (by decide) ?_
  cases hc : ix 2 sd with
  | none =>
    simp only [hc] at k0
    simp only [eX7_meets_0, eX7_meets_1, eX7_meets_2, eX7_meets_3, eX7_meets_6, eX7_meets_9, eX7_meets_10, eX7_meets_11, eX7_meets_12, eX7_meets_13, eX7_meets_14, eX7_meets_17, eX7_meets_20, eX7_meets_22, eX7_meets_23, eX7_meets_24, eX7_meets_27, eX7_meets_28, eX7_meets_29, eX7_meets_31, eX7_meets_33, eX7_meets_34, eX7_meets_36, eX7_meets_37, eX7_meets_41, eX7_meets_42, eX7_meets_43, eX7_meets_44, eX7_meets_47, eX7_meets_48, eX7_meets_49, eX7_meets_52, eX7_meets_53, eX7_meets_55, eX7_meets_57, eX7_meets_58, eX7_meets_59, eX7_meets_60, eX7_meets_63, eX7_meets_64, eX7_meets_65, eX7_meets_68, eX7_meets_69, eX7_meets_70, eX7_meets_73, eX7_meets_74, eX7_meets_75, eX7_meets_77, eX7_meets_78, eX7_meets_80, eX7_meets_81, eX7_meets_84, eX7_meets_85, eX7_meets_88, eX7_meets_89, eX7_meets_92, eX7_meets_94, eX7_meets_97, eX7_meets_99, eX7_meets_101, eX7_meets_104, eX7_meets_107, eX7_meets_110, eX7_meets_113, eX7_meets_116, eX7_meets_119, eX7_meets_120, eX7_meets_123, eX7_meets_124, eX7_meets_127, eX7_meets_129, Nat.add_zero, Nat.reduceAdd, Nat.reduceLeDiff, Nat.zero_le, and_true, o_aload_0r, o_callS_3, o_callV_0, o_callV_1, o_const_e, o_getf_e, o_goto_e, o_iald_e, o_iald_f, o_icmp_e, o_if_e, o_ii_e, o_iinc_3, o_iinc_5, o_iinc_6, o_iinc_7, o_iload_1, o_iload_2, o_iload_3, o_iload_4, o_iload_5, o_iload_6, o_iload_7, o_iret_e, o_ist_3, o_ist_4, o_ist_5, o_ist_6, o_ist_7, tl_n, tl_s, true_and, xnlv_i, xnlv_n, xnlv_r, xwt_0, xwt_f, xwt_i, xwt_l, xwt_r, Option.isSome, not_true_eq_false, not_false_eq_true, true_implies, false_implies, and_true, true_and, implies_true, forall_const, ↓reduceIte, Bool.false_eq_true, i10, i10n]
    exact k0
  | some d =>
    obtain ⟨hd, rfl⟩ := ix_s (by decide) hc
    simp only [eX7_meets_0, eX7_meets_1, eX7_meets_2, eX7_meets_3, eX7_meets_6, eX7_meets_9, eX7_meets_10, eX7_meets_11, eX7_meets_12, eX7_meets_13, eX7_meets_14, eX7_meets_17, eX7_meets_20, eX7_meets_22, eX7_meets_23, eX7_meets_24, eX7_meets_27, eX7_meets_28, eX7_meets_29, eX7_meets_31, eX7_meets_33, eX7_meets_34, eX7_meets_36, eX7_meets_37, eX7_meets_41, eX7_meets_42, eX7_meets_43, eX7_meets_44, eX7_meets_47, eX7_meets_48, eX7_meets_49, eX7_meets_52, eX7_meets_53, eX7_meets_55, eX7_meets_57, eX7_meets_58, eX7_meets_59, eX7_meets_60, eX7_meets_63, eX7_meets_64, eX7_meets_65, eX7_meets_68, eX7_meets_69, eX7_meets_70, eX7_meets_73, eX7_meets_74, eX7_meets_75, eX7_meets_77, eX7_meets_78, eX7_meets_80, eX7_meets_81, eX7_meets_84, eX7_meets_85, eX7_meets_88, eX7_meets_89, eX7_meets_92, eX7_meets_94, eX7_meets_97, eX7_meets_99, eX7_meets_101, eX7_meets_104, eX7_meets_107, eX7_meets_110, eX7_meets_113, eX7_meets_116, eX7_meets_119, eX7_meets_120, eX7_meets_123, eX7_meets_124, eX7_meets_127, eX7_meets_129, Nat.add_zero, Nat.reduceAdd, Nat.reduceLeDiff, Nat.zero_le, and_true, o_aload_0r, o_callS_3, o_callV_0, o_callV_1, o_const_e, o_getf_e, o_goto_e, o_iald_e, o_iald_f, o_icmp_e, o_if_e, o_ii_e, o_iinc_3, o_iinc_5, o_iinc_6, o_iinc_7, o_iload_1, o_iload_2, o_iload_3, o_iload_4, o_iload_5, o_iload_6, o_iload_7, o_iret_e, o_ist_3, o_ist_4, o_ist_5, o_ist_6, o_ist_7, tl_n, tl_s, true_and, xnlv_i, xnlv_n, xnlv_r, xwt_0, xwt_f, xwt_i, xwt_l, xwt_r, Option.isSome, not_true_eq_false, not_false_eq_true, true_implies, false_implies, and_true, true_and, implies_true, forall_const, ↓reduceIte, Bool.false_eq_true, i10, i10n]
    refine d_in (lo := 1) (hi := 4) (by decide) (by decide) ?_
    cases hw : rg 1 4 v with
    | none =>
      simp only [hc, hw] at k0
      simp only [eX7_meets_0, eX7_meets_1, eX7_meets_2, eX7_meets_3, eX7_meets_6, eX7_meets_9, eX7_meets_10, eX7_meets_11, eX7_meets_12, eX7_meets_13, eX7_meets_14, eX7_meets_17, eX7_meets_20, eX7_meets_22, eX7_meets_23, eX7_meets_24, eX7_meets_27, eX7_meets_28, eX7_meets_29, eX7_meets_31, eX7_meets_33, eX7_meets_34, eX7_meets_36, eX7_meets_37, eX7_meets_41, eX7_meets_42, eX7_meets_43, eX7_meets_44, eX7_meets_47, eX7_meets_48, eX7_meets_49, eX7_meets_52, eX7_meets_53, eX7_meets_55, eX7_meets_57, eX7_meets_58, eX7_meets_59, eX7_meets_60, eX7_meets_63, eX7_meets_64, eX7_meets_65, eX7_meets_68, eX7_meets_69, eX7_meets_70, eX7_meets_73, eX7_meets_74, eX7_meets_75, eX7_meets_77, eX7_meets_78, eX7_meets_80, eX7_meets_81, eX7_meets_84, eX7_meets_85, eX7_meets_88, eX7_meets_89, eX7_meets_92, eX7_meets_94, eX7_meets_97, eX7_meets_99, eX7_meets_101, eX7_meets_104, eX7_meets_107, eX7_meets_110, eX7_meets_113, eX7_meets_116, eX7_meets_119, eX7_meets_120, eX7_meets_123, eX7_meets_124, eX7_meets_127, eX7_meets_129, Nat.add_zero, Nat.reduceAdd, Nat.reduceLeDiff, Nat.zero_le, and_true, o_aload_0r, o_callS_3, o_callV_0, o_callV_1, o_const_e, o_getf_e, o_goto_e, o_iald_e, o_iald_f, o_icmp_e, o_if_e, o_ii_e, o_iinc_3, o_iinc_5, o_iinc_6, o_iinc_7, o_iload_1, o_iload_2, o_iload_3, o_iload_4, o_iload_5, o_iload_6, o_iload_7, o_iret_e, o_ist_3, o_ist_4, o_ist_5, o_ist_6, o_ist_7, tl_n, tl_s, true_and, xnlv_i, xnlv_n, xnlv_r, xwt_0, xwt_f, xwt_i, xwt_l, xwt_r, Option.isSome, not_true_eq_false, not_false_eq_true, true_implies, false_implies, and_true, true_and, implies_true, forall_const, ↓reduceIte, Bool.false_eq_true, i10, i10n]
      exact k0
    | some n =>
      obtain ⟨h1, h2, rfl⟩ := rg_s (by decide) (by decide) hw
      simp only [hc, hw] at k
      simp only [eX7_meets_0, eX7_meets_1, eX7_meets_2, eX7_meets_3, eX7_meets_6, eX7_meets_9, eX7_meets_10, eX7_meets_11, eX7_meets_12, eX7_meets_13, eX7_meets_14, eX7_meets_17, eX7_meets_20, eX7_meets_22, eX7_meets_23, eX7_meets_24, eX7_meets_27, eX7_meets_28, eX7_meets_29, eX7_meets_31, eX7_meets_33, eX7_meets_34, eX7_meets_36, eX7_meets_37, eX7_meets_41, eX7_meets_42, eX7_meets_43, eX7_meets_44, eX7_meets_47, eX7_meets_48, eX7_meets_49, eX7_meets_52, eX7_meets_53, eX7_meets_55, eX7_meets_57, eX7_meets_58, eX7_meets_59, eX7_meets_60, eX7_meets_63, eX7_meets_64, eX7_meets_65, eX7_meets_68, eX7_meets_69, eX7_meets_70, eX7_meets_73, eX7_meets_74, eX7_meets_75, eX7_meets_77, eX7_meets_78, eX7_meets_80, eX7_meets_81, eX7_meets_84, eX7_meets_85, eX7_meets_88, eX7_meets_89, eX7_meets_92, eX7_meets_94, eX7_meets_97, eX7_meets_99, eX7_meets_101, eX7_meets_104, eX7_meets_107, eX7_meets_110, eX7_meets_113, eX7_meets_116, eX7_meets_119, eX7_meets_120, eX7_meets_123, eX7_meets_124, eX7_meets_127, eX7_meets_129, Nat.add_zero, Nat.reduceAdd, Nat.reduceLeDiff, Nat.zero_le, and_true, o_aload_0r, o_callS_3, o_callV_0, o_callV_1, o_const_e, o_getf_e, o_goto_e, o_iald_e, o_iald_f, o_icmp_e, o_if_e, o_ii_e, o_iinc_3, o_iinc_5, o_iinc_6, o_iinc_7, o_iload_1, o_iload_2, o_iload_3, o_iload_4, o_iload_5, o_iload_6, o_iload_7, o_iret_e, o_ist_3, o_ist_4, o_ist_5, o_ist_6, o_ist_7, tl_n, tl_s, true_and, xnlv_i, xnlv_n, xnlv_r, xwt_0, xwt_f, xwt_i, xwt_l, xwt_r, Option.isSome, not_true_eq_false, not_false_eq_true, true_implies, false_implies, and_true, true_and, implies_true, forall_const, ↓reduceIte, Bool.false_eq_true, i10, i10n, h.1.cls, h.1.g0, h.1.g1, h.1.g2, h.1.g3, h.1.g4, h.1.g5, h.1.g6, h.1.g7, h.1.g8, h.1.g9, h.1.g10, h.1.g11, h.1.g12, h.1.g13, h.1.g14, h.1.g15, h.1.g16, h.1.g17, h.1.g18, h.1.g19, h.i0, h.i1, h.i2, h.i3, h.i4, h.i5, h.i6, h.i7, h.i8, h.i9, h.i10, h.j0, h.j1, h.j2, h.j3, h.j4, h.j5, h.j6, h.j7, h.j8, h.j9, h.j10]
      refine d_find h ok (fun s' hs hG => ?_)
      simp only [eX7_meets_0, eX7_meets_1, eX7_meets_2, eX7_meets_3, eX7_meets_6, eX7_meets_9, eX7_meets_10, eX7_meets_11, eX7_meets_12, eX7_meets_13, eX7_meets_14, eX7_meets_17, eX7_meets_20, eX7_meets_22, eX7_meets_23, eX7_meets_24, eX7_meets_27, eX7_meets_28, eX7_meets_29, eX7_meets_31, eX7_meets_33, eX7_meets_34, eX7_meets_36, eX7_meets_37, eX7_meets_41, eX7_meets_42, eX7_meets_43, eX7_meets_44, eX7_meets_47, eX7_meets_48, eX7_meets_49, eX7_meets_52, eX7_meets_53, eX7_meets_55, eX7_meets_57, eX7_meets_58, eX7_meets_59, eX7_meets_60, eX7_meets_63, eX7_meets_64, eX7_meets_65, eX7_meets_68, eX7_meets_69, eX7_meets_70, eX7_meets_73, eX7_meets_74, eX7_meets_75, eX7_meets_77, eX7_meets_78, eX7_meets_80, eX7_meets_81, eX7_meets_84, eX7_meets_85, eX7_meets_88, eX7_meets_89, eX7_meets_92, eX7_meets_94, eX7_meets_97, eX7_meets_99, eX7_meets_101, eX7_meets_104, eX7_meets_107, eX7_meets_110, eX7_meets_113, eX7_meets_116, eX7_meets_119, eX7_meets_120, eX7_meets_123, eX7_meets_124, eX7_meets_127, eX7_meets_129, Nat.add_zero, Nat.reduceAdd, Nat.reduceLeDiff, Nat.zero_le, and_true, o_aload_0r, o_callS_3, o_callV_0, o_callV_1, o_const_e, o_getf_e, o_goto_e, o_iald_e, o_iald_f, o_icmp_e, o_if_e, o_ii_e, o_iinc_3, o_iinc_5, o_iinc_6, o_iinc_7, o_iload_1, o_iload_2, o_iload_3, o_iload_4, o_iload_5, o_iload_6, o_iload_7, o_iret_e, o_ist_3, o_ist_4, o_ist_5, o_ist_6, o_ist_7, tl_n, tl_s, true_and, xnlv_i, xnlv_n, xnlv_r, xwt_0, xwt_f, xwt_i, xwt_l, xwt_r]
      have := k_ms2 h ok h2 hd (Q := fun v AH' _ => Q v AH') k (x.hi - 1) 0 (by omega) s' none hs hG trivial
      rw [Nat.zero_mul] at this
      exact this
end MEETS
