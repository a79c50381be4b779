/-! tapes: the reference, on -/
theorem ix_0 {i : Int32} : ix 0 i = none := by
  rcases ix_cases (n := 0) (by decide) i with ⟨j, h1, _⟩ | ⟨_, h⟩ | ⟨_, _, h⟩
  · omega
  · exact h
  · exact h
/-- what ints are by a bound -/
theorem lt_neg {v : Int32} : v < 0 ↔ v.toInt < 0 := by
  rw [Int32.lt_iff_toInt_lt]
  have z1 : (0 : Int32).toInt = 0 := by decide
  rw [z1]
theorem ix_iff {n : Nat} (hn : n < 2 ^ 31) {v : Int32} : (ix n v = none) ↔ ¬ (0 ≤ v.toInt ∧ v.toInt < n) := by
  rcases ix_cases hn v with ⟨j, h1, h2, e⟩ | ⟨h0, e⟩ | ⟨h0, h1, e⟩
  · rw [e, h2, nI_toInt (by omega)]
    constructor
    · intro z; cases z
    · intro z; omega
  · rw [lt_neg] at h0
    rw [e]
    constructor
    · intro _ z; omega
    · intro _; rfl
  · rw [Int32.le_iff_toInt_le, nI_toInt hn] at h1
    rw [e]
    constructor
    · intro _ z; omega
    · intro _; rfl
theorem ix_some {n : Nat} (hn : n < 2 ^ 31) {v : Int32} (h : 0 ≤ v.toInt ∧ v.toInt < n) : ∃ j, j < n ∧ v = nI j ∧ ix n v = some j := by
  rcases ix_cases hn v with h1 | ⟨h0, e⟩ | ⟨h0, h1, e⟩
  · exact h1
  · rw [lt_neg] at h0; omega
  · rw [Int32.le_iff_toInt_le, nI_toInt hn] at h1; omega
section TAPE2
variable {AH : xH} {m : Nat} {s : sMod} {x : sLat} {r : sRow} {T : sTp}
theorem d_inz {z : Nat} (hz : z < 2 ^ 31) {i : Int32} {Q : Option Value → xH → Prop} (k : Q (some (.int (if (ix z i).isSome then 1 else 0))) AH) : XC MX7_in [.int i, .int 0, .int (nI z - 1)] AH Q := by
  by_cases h0 : z = 0
  · subst h0
    refine d_inG ?_
    rw [ix_0] at k
    rw [if_neg (fun z => by
      have h1 := z.1
      have h2 := z.2
      have e : (nI 0 - 1 : Int32) = -1 := by decide
      rw [e] at h2
      rw [Int32.le_iff_toInt_le] at h1 h2
      have z1 : (0 : Int32).toInt = 0 := by decide
      have z2 : (-1 : Int32).toInt = -1 := by decide
      omega)]
    exact k
  · rw [n1, pk_sub (a := z) (b := 1) (by omega)]
    exact d_ix z hz (by omega) k
theorem TpM.put {t i : Nat} {v : Int64} (hT : TpM T s) (htl : t < 6) (hi : i < 60) : TpM (T.put t i v) (s.tq s.so s.sz (vp_updL s.it (60 * t + i) v)) := by
  refine ⟨hT.1, hT.2.1, fun u q hu hq => ?_⟩
  show vp_updL s.it (60 * t + i) v (60 * u + q) = va_up T.it t (va_up (T.it t) i v) u q
  unfold vp_updL va_up
  by_cases e : u = t
  · subst e
    rw [if_pos rfl]
    by_cases e3 : q = i
    · subst e3; rw [if_pos rfl, if_pos rfl]
    · rw [if_neg (by omega), if_neg e3]
      exact hT.2.2 u q hu hq
  · rw [if_neg (by omega), if_neg e]
    exact hT.2.2 u q hu hq
theorem d_item (h : ModAt AH m s) (hT : TpM T s) (ok : T.ok) {t i : Int32} {v : Int64} {Q : Option Value → xH → Prop} (k : ∀ a b c, TpM (T.aItem t i v).2 (s.tq a b c) → Q (some (.int (T.aItem t i v).1)) (modP AH m (s.tq a b c))) : XC MX7_item [.ref m, .int t, .int i, .long v] AH Q := by
  have kn : ∀ w : Int32, (T.aItem t i v) = (w, T) → Q (some (.int w)) AH := fun w e => by
    have k := k s.so s.sz s.it
    rw [e, tq_self, modP_self h] at k
    exact k hT
  unfold sTp.aItem at k kn
  refine XC.ofR (L := [some (.ref m), some (.int t), some (.int i), some (.long v), none]) KX7_item (by decide +kernel) (by first | decide | exact Nat.le_of_ble_eq_true rfl) rfl ?_
  simp only [eX7_item_0, eX7_item_1, eX7_item_4, eX7_item_7, eX7_item_8, eX7_item_9, eX7_item_10, eX7_item_13, eX7_item_14, eX7_item_15, eX7_item_16, eX7_item_19, eX7_item_21, eX7_item_22, eX7_item_23, eX7_item_24, eX7_item_25, eX7_item_28, eX7_item_29, eX7_item_30, eX7_item_31, eX7_item_32, eX7_item_35, eX7_item_38, eX7_item_40, eX7_item_41, eX7_item_42, eX7_item_45, eX7_item_47, eX7_item_48, eX7_item_49, eX7_item_50, eX7_item_51, eX7_item_52, eX7_item_55, eX7_item_56, eX7_item_57, eX7_item_58, eX7_item_61, eX7_item_62, eX7_item_63, Nat.add_zero, Nat.reduceAdd, Nat.reduceLeDiff, Nat.zero_le, and_true, o_aload_0r, o_callS_1, o_callS_2, o_callS_3, o_const_e, o_getf_e, o_iald_e, o_iald_f, o_icmp_e, o_if_e, o_ii_e, o_iload_1, o_iload_2, o_iret_e, o_last_e, o_lload_3, tl_n, tl_s, true_and, xwt_0, xwt_f, xwt_i, xwt_l, xwt_r]
  refine d_isTape ?_
  cases ht : ix 6 t with
  | none =>
    simp only [ht] at kn
    simp only [eX7_item_0, eX7_item_1, eX7_item_4, eX7_item_7, eX7_item_8, eX7_item_9, eX7_item_10, eX7_item_13, eX7_item_14, eX7_item_15, eX7_item_16, eX7_item_19, eX7_item_21, eX7_item_22, eX7_item_23, eX7_item_24, eX7_item_25, eX7_item_28, eX7_item_29, eX7_item_30, eX7_item_31, eX7_item_32, eX7_item_35, eX7_item_38, eX7_item_40, eX7_item_41, eX7_item_42, eX7_item_45, eX7_item_47, eX7_item_48, eX7_item_49, eX7_item_50, eX7_item_51, eX7_item_52, eX7_item_55, eX7_item_56, eX7_item_57, eX7_item_58, eX7_item_61, eX7_item_62, eX7_item_63, Nat.add_zero, Nat.reduceAdd, Nat.reduceLeDiff, Nat.zero_le, and_true, o_aload_0r, o_callS_1, o_callS_2, o_callS_3, o_const_e, o_getf_e, o_iald_e, o_iald_f, o_icmp_e, o_if_e, o_ii_e, o_iload_1, o_iload_2, o_iret_e, o_last_e, o_lload_3, tl_n, tl_s, true_and, xwt_0, xwt_f, xwt_i, xwt_l, xwt_r, Option.isSome, not_true_eq_false, not_false_eq_true, true_implies, false_implies, and_true, true_and, implies_true, forall_const, ↓reduceIte, Bool.false_eq_true, i10, i10n]
    exact kn _ rfl
  | some t =>
    obtain ⟨htl, rfl⟩ := ix_s (by decide) ht
    simp only [ht] at k kn
    have okt := ok t
    have hl := okt.1
    have e1 := hT.1 t htl
    have e2 := hT.2.1 t htl
    simp only [eX7_item_0, eX7_item_1, eX7_item_4, eX7_item_7, eX7_item_8, eX7_item_9, eX7_item_10, eX7_item_13, eX7_item_14, eX7_item_15, eX7_item_16, eX7_item_19, eX7_item_21, eX7_item_22, eX7_item_23, eX7_item_24, eX7_item_25, eX7_item_28, eX7_item_29, eX7_item_30, eX7_item_31, eX7_item_32, eX7_item_35, eX7_item_38, eX7_item_40, eX7_item_41, eX7_item_42, eX7_item_45, eX7_item_47, eX7_item_48, eX7_item_49, eX7_item_50, eX7_item_51, eX7_item_52, eX7_item_55, eX7_item_56, eX7_item_57, eX7_item_58, eX7_item_61, eX7_item_62, eX7_item_63, Nat.add_zero, Nat.reduceAdd, Nat.reduceLeDiff, Nat.zero_le, and_true, o_aload_0r, o_callS_1, o_callS_2, o_callS_3, o_const_e, o_getf_e, o_iald_e, o_iald_f, o_icmp_e, o_if_e, o_ii_e, o_iload_1, o_iload_2, o_iret_e, o_last_e, o_lload_3, tl_n, tl_s, true_and, xwt_0, xwt_f, xwt_i, xwt_l, xwt_r, Option.isSome, not_true_eq_false, not_false_eq_true, true_implies, false_implies, and_true, true_and, implies_true, forall_const, ↓reduceIte, Bool.false_eq_true, i10, i10n, h.cls, h.g7, h.r_so (c := t) htl, e1]
    by_cases g1 : T.so t = -1
    · rw [if_pos g1] at kn
      exact ⟨fun g => absurd g1 g, fun _ => kn _ rfl⟩
    · rw [if_neg g1] at k kn
      refine ⟨fun _ => ?_, fun g => absurd (Classical.not_not.mp g) g1⟩
      simp only [eX7_item_0, eX7_item_1, eX7_item_4, eX7_item_7, eX7_item_8, eX7_item_9, eX7_item_10, eX7_item_13, eX7_item_14, eX7_item_15, eX7_item_16, eX7_item_19, eX7_item_21, eX7_item_22, eX7_item_23, eX7_item_24, eX7_item_25, eX7_item_28, eX7_item_29, eX7_item_30, eX7_item_31, eX7_item_32, eX7_item_35, eX7_item_38, eX7_item_40, eX7_item_41, eX7_item_42, eX7_item_45, eX7_item_47, eX7_item_48, eX7_item_49, eX7_item_50, eX7_item_51, eX7_item_52, eX7_item_55, eX7_item_56, eX7_item_57, eX7_item_58, eX7_item_61, eX7_item_62, eX7_item_63, Nat.add_zero, Nat.reduceAdd, Nat.reduceLeDiff, Nat.zero_le, and_true, o_aload_0r, o_callS_1, o_callS_2, o_callS_3, o_const_e, o_getf_e, o_iald_e, o_iald_f, o_icmp_e, o_if_e, o_ii_e, o_iload_1, o_iload_2, o_iret_e, o_last_e, o_lload_3, tl_n, tl_s, true_and, xwt_0, xwt_f, xwt_i, xwt_l, xwt_r, h.g8, h.r_sz (c := t) htl, e2]
      refine d_inz (by omega) ?_
      cases hi : ix (T.sz t) i with
      | none =>
        simp only [hi] at kn
        simp only [eX7_item_0, eX7_item_1, eX7_item_4, eX7_item_7, eX7_item_8, eX7_item_9, eX7_item_10, eX7_item_13, eX7_item_14, eX7_item_15, eX7_item_16, eX7_item_19, eX7_item_21, eX7_item_22, eX7_item_23, eX7_item_24, eX7_item_25, eX7_item_28, eX7_item_29, eX7_item_30, eX7_item_31, eX7_item_32, eX7_item_35, eX7_item_38, eX7_item_40, eX7_item_41, eX7_item_42, eX7_item_45, eX7_item_47, eX7_item_48, eX7_item_49, eX7_item_50, eX7_item_51, eX7_item_52, eX7_item_55, eX7_item_56, eX7_item_57, eX7_item_58, eX7_item_61, eX7_item_62, eX7_item_63, Nat.add_zero, Nat.reduceAdd, Nat.reduceLeDiff, Nat.zero_le, and_true, o_aload_0r, o_callS_1, o_callS_2, o_callS_3, o_const_e, o_getf_e, o_iald_e, o_iald_f, o_icmp_e, o_if_e, o_ii_e, o_iload_1, o_iload_2, o_iret_e, o_last_e, o_lload_3, tl_n, tl_s, true_and, xwt_0, xwt_f, xwt_i, xwt_l, xwt_r, Option.isSome, not_true_eq_false, not_false_eq_true, true_implies, false_implies, and_true, true_and, implies_true, forall_const, ↓reduceIte, Bool.false_eq_true, i10, i10n]
        exact kn _ rfl
      | some i =>
        obtain ⟨hil, rfl⟩ := ix_s (by omega) hi
        simp only [hi] at k
        simp only [eX7_item_0, eX7_item_1, eX7_item_4, eX7_item_7, eX7_item_8, eX7_item_9, eX7_item_10, eX7_item_13, eX7_item_14, eX7_item_15, eX7_item_16, eX7_item_19, eX7_item_21, eX7_item_22, eX7_item_23, eX7_item_24, eX7_item_25, eX7_item_28, eX7_item_29, eX7_item_30, eX7_item_31, eX7_item_32, eX7_item_35, eX7_item_38, eX7_item_40, eX7_item_41, eX7_item_42, eX7_item_45, eX7_item_47, eX7_item_48, eX7_item_49, eX7_item_50, eX7_item_51, eX7_item_52, eX7_item_55, eX7_item_56, eX7_item_57, eX7_item_58, eX7_item_61, eX7_item_62, eX7_item_63, Nat.add_zero, Nat.reduceAdd, Nat.reduceLeDiff, Nat.zero_le, and_true, o_aload_0r, o_callS_1, o_callS_2, o_callS_3, o_const_e, o_getf_e, o_iald_e, o_iald_f, o_icmp_e, o_if_e, o_ii_e, o_iload_1, o_iload_2, o_iret_e, o_last_e, o_lload_3, tl_n, tl_s, true_and, xwt_0, xwt_f, xwt_i, xwt_l, xwt_r, Option.isSome, not_true_eq_false, not_false_eq_true, true_implies, false_implies, and_true, true_and, implies_true, forall_const, ↓reduceIte, Bool.false_eq_true, i10, i10n, h.g6, n60, pk_mul, nI_add, h.g7, h.r_so (c := t) htl, e1]
        refine d_bits ?_
        simp only [eX7_item_0, eX7_item_1, eX7_item_4, eX7_item_7, eX7_item_8, eX7_item_9, eX7_item_10, eX7_item_13, eX7_item_14, eX7_item_15, eX7_item_16, eX7_item_19, eX7_item_21, eX7_item_22, eX7_item_23, eX7_item_24, eX7_item_25, eX7_item_28, eX7_item_29, eX7_item_30, eX7_item_31, eX7_item_32, eX7_item_35, eX7_item_38, eX7_item_40, eX7_item_41, eX7_item_42, eX7_item_45, eX7_item_47, eX7_item_48, eX7_item_49, eX7_item_50, eX7_item_51, eX7_item_52, eX7_item_55, eX7_item_56, eX7_item_57, eX7_item_58, eX7_item_61, eX7_item_62, eX7_item_63, Nat.add_zero, Nat.reduceAdd, Nat.reduceLeDiff, Nat.zero_le, and_true, o_aload_0r, o_callS_1, o_callS_2, o_callS_3, o_const_e, o_getf_e, o_iald_e, o_iald_f, o_icmp_e, o_if_e, o_ii_e, o_iload_1, o_iload_2, o_iret_e, o_last_e, o_lload_3, tl_n, tl_s, true_and, xwt_0, xwt_f, xwt_i, xwt_l, xwt_r, h.w_it (c := 60 * t + i) (by omega)]
        exact k _ _ _ (hT.put htl (by omega))
theorem k_tape (h : ModAt AH m s) {t : Nat} (htl : t < 6) {sv nv : Int32} {Q : xQ} {a b : Nat → Int32} (k : ∀ c : Nat → Int64, (∀ i, i < 60 → c (60 * t + i) = 0) → (∀ u i, u < 6 → u ≠ t → i < 60 → c (60 * u + i) = s.it (60 * u + i)) → Q (some (.int 1)) (modP AH m (s.tq a b c)) (0, 0)) : ∀ (n j : Nat), j + n = 60 → ∀ c : Nat → Int64, (∀ i, i < j → c (60 * t + i) = 0) → (∀ u i, u < 6 → u ≠ t → i < 60 → c (60 * u + i) = s.it (60 * u + i)) →
    XR TX7_tape 70 [some (.ref m), some (.int (nI t)), some (.int sv), some (.int nv), some (.int (nI j))] [] (modP AH m (s.tq a b c)) (0, 0) Q := by
  intro n
  induction n with
  | zero =>
    intro j hj c h1 h2
    rw [eX7_tape_70]
    simp only [eX7_tape_0, eX7_tape_1, eX7_tape_4, eX7_tape_7, eX7_tape_8, eX7_tape_9, eX7_tape_10, eX7_tape_11, eX7_tape_12, eX7_tape_15, eX7_tape_18, eX7_tape_19, eX7_tape_20, eX7_tape_23, eX7_tape_24, eX7_tape_26, eX7_tape_29, eX7_tape_31, eX7_tape_32, eX7_tape_33, eX7_tape_34, eX7_tape_37, eX7_tape_38, eX7_tape_41, eX7_tape_43, eX7_tape_44, eX7_tape_45, eX7_tape_48, eX7_tape_49, eX7_tape_50, eX7_tape_51, eX7_tape_52, eX7_tape_55, eX7_tape_56, eX7_tape_57, eX7_tape_58, eX7_tape_61, eX7_tape_62, eX7_tape_65, eX7_tape_66, eX7_tape_67, eX7_tape_68, eX7_tape_72, eX7_tape_74, eX7_tape_77, eX7_tape_78, eX7_tape_81, eX7_tape_83, eX7_tape_84, eX7_tape_85, eX7_tape_87, eX7_tape_88, eX7_tape_89, eX7_tape_90, eX7_tape_93, eX7_tape_96, eX7_tape_97, Nat.add_zero, Nat.reduceAdd, Nat.reduceLeDiff, Nat.zero_le, and_true, o_aload_0r, o_callS_1, o_callS_3, o_const_e, o_getf_e, o_goto_e, o_iast_e, o_icmp_e, o_if_e, o_ii_e, o_iinc_4, o_iload_1, o_iload_2, o_iload_3, o_iload_4, o_iret_e, o_ist_4, o_last_e, tl_n, tl_s, true_and, xnlv_i, xnlv_n, xnlv_r, xwt_0, xwt_f, xwt_i, xwt_l, xwt_r, n60, le_nI (a := 60) (b := j) (by omega) (by omega)]
    exact ⟨fun _ => k c (fun i hi => h1 i (by omega)) h2, fun g => by omega⟩
  | succ n ih =>
    intro j hj c h1 h2
    have hA : ModAt (modP AH m (s.tq a b c)) m (s.tq a b c) := h.put _
    rw [eX7_tape_70]
    simp only [eX7_tape_0, eX7_tape_1, eX7_tape_4, eX7_tape_7, eX7_tape_8, eX7_tape_9, eX7_tape_10, eX7_tape_11, eX7_tape_12, eX7_tape_15, eX7_tape_18, eX7_tape_19, eX7_tape_20, eX7_tape_23, eX7_tape_24, eX7_tape_26, eX7_tape_29, eX7_tape_31, eX7_tape_32, eX7_tape_33, eX7_tape_34, eX7_tape_37, eX7_tape_38, eX7_tape_41, eX7_tape_43, eX7_tape_44, eX7_tape_45, eX7_tape_48, eX7_tape_49, eX7_tape_50, eX7_tape_51, eX7_tape_52, eX7_tape_55, eX7_tape_56, eX7_tape_57, eX7_tape_58, eX7_tape_61, eX7_tape_62, eX7_tape_65, eX7_tape_66, eX7_tape_67, eX7_tape_68, eX7_tape_72, eX7_tape_74, eX7_tape_77, eX7_tape_78, eX7_tape_81, eX7_tape_83, eX7_tape_84, eX7_tape_85, eX7_tape_87, eX7_tape_88, eX7_tape_89, eX7_tape_90, eX7_tape_93, eX7_tape_96, eX7_tape_97, Nat.add_zero, Nat.reduceAdd, Nat.reduceLeDiff, Nat.zero_le, and_true, o_aload_0r, o_callS_1, o_callS_3, o_const_e, o_getf_e, o_goto_e, o_iast_e, o_icmp_e, o_if_e, o_ii_e, o_iinc_4, o_iload_1, o_iload_2, o_iload_3, o_iload_4, o_iret_e, o_ist_4, o_last_e, tl_n, tl_s, true_and, xnlv_i, xnlv_n, xnlv_r, xwt_0, xwt_f, xwt_i, xwt_l, xwt_r, n60, le_nI (a := 60) (b := j) (by omega) (by omega), hA.g6, pk_mul, nI_add, hA.w_it (c := 60 * t + j) (by omega), modP_modP h.lt, tq_it, wit_tq, n1]
    refine ⟨fun g => by omega, fun _ => ih (j + 1) (by omega) (vp_updL c (60 * t + j) 0) (fun i hi => ?_) (fun u i hu hn hi => ?_)⟩
    · unfold vp_updL
      split
      · rfl
      · exact h1 i (by omega)
    · unfold vp_updL
      rw [if_neg (by omega)]
      exact h2 u i hu hn hi
theorem TpM.bec {t : Nat} {a b : Nat → Int32} {c : Nat → Int64} {sv : Int32} {n : Nat} (hT : TpM T s) (ha : a = upd s.so t sv) (hb : b = upd s.sz t (nI n)) (hc : ∀ i, i < 60 → c (60 * t + i) = 0) (hd : ∀ u i, u < 6 → u ≠ t → i < 60 → c (60 * u + i) = s.it (60 * u + i)) : TpM (T.bec t sv n) (s.tq a b c) := by
  subst ha hb
  refine ⟨fun u hu => ?_, fun u hu => ?_, fun u i hu hi => ?_⟩
  · show upd s.so t sv u = va_up T.so t sv u
    unfold upd va_up
    split
    · rfl
    · exact hT.1 u hu
  · show upd s.sz t (nI n) u = nI (va_up T.sz t n u)
    unfold upd va_up
    split
    · rfl
    · exact hT.2.1 u hu
  · show c (60 * u + i) = va_up T.it t (fun _ => 0) u i
    unfold va_up
    split
    · rename_i e
      subst e
      exact hc i hi
    · rename_i e
      rw [hd u i hu e hi]
      exact hT.2.2 u i hu hi
/-- tape(t, sort, n) -/
theorem d_tape (h : ModAt AH m s) (hT : TpM T s) (ok : T.ok) {t sv nv : Int32} {Q : Option Value → xH → Prop} (k : ∀ a b c, TpM (T.aTape t sv nv).2 (s.tq a b c) → Q (some (.int (T.aTape t sv nv).1)) (modP AH m (s.tq a b c))) : XC MX7_tape [.ref m, .int t, .int sv, .int nv] AH Q := by
  have kn : ∀ w : Int32, (T.aTape t sv nv) = (w, T) → Q (some (.int w)) AH := fun w e => by
    have k := k s.so s.sz s.it
    rw [e, tq_self, modP_self h] at k
    exact k hT
  unfold sTp.aTape at k kn
  refine XC.ofR (L := [some (.ref m), some (.int t), some (.int sv), some (.int nv), none]) KX7_tape (by decide +kernel) (by first | decide | exact Nat.le_of_ble_eq_true rfl) rfl ?_
  simp only [eX7_tape_0, eX7_tape_1, eX7_tape_4, eX7_tape_7, eX7_tape_8, eX7_tape_9, eX7_tape_10, eX7_tape_11, eX7_tape_12, eX7_tape_15, eX7_tape_18, eX7_tape_19, eX7_tape_20, eX7_tape_23, eX7_tape_24, eX7_tape_26, eX7_tape_29, eX7_tape_31, eX7_tape_32, eX7_tape_33, eX7_tape_34, eX7_tape_37, eX7_tape_38, eX7_tape_41, eX7_tape_43, eX7_tape_44, eX7_tape_45, eX7_tape_48, eX7_tape_49, eX7_tape_50, eX7_tape_51, eX7_tape_52, eX7_tape_55, eX7_tape_56, eX7_tape_57, eX7_tape_58, eX7_tape_61, eX7_tape_62, eX7_tape_65, eX7_tape_66, eX7_tape_67, eX7_tape_68, eX7_tape_72, eX7_tape_74, eX7_tape_77, eX7_tape_78, eX7_tape_81, eX7_tape_83, eX7_tape_84, eX7_tape_85, eX7_tape_87, eX7_tape_88, eX7_tape_89, eX7_tape_90, eX7_tape_93, eX7_tape_96, eX7_tape_97, Nat.add_zero, Nat.reduceAdd, Nat.reduceLeDiff, Nat.zero_le, and_true, o_aload_0r, o_callS_1, o_callS_3, o_const_e, o_getf_e, o_goto_e, o_iast_e, o_icmp_e, o_if_e, o_ii_e, o_iinc_4, o_iload_1, o_iload_2, o_iload_3, o_iload_4, o_iret_e, o_ist_4, o_last_e, tl_n, tl_s, true_and, xnlv_i, xnlv_n, xnlv_r, xwt_0, xwt_f, xwt_i, xwt_l, xwt_r]
  refine d_isTape ?_
  cases ht : ix 6 t with
  | none =>
    simp only [ht] at kn
    simp only [eX7_tape_0, eX7_tape_1, eX7_tape_4, eX7_tape_7, eX7_tape_8, eX7_tape_9, eX7_tape_10, eX7_tape_11, eX7_tape_12, eX7_tape_15, eX7_tape_18, eX7_tape_19, eX7_tape_20, eX7_tape_23, eX7_tape_24, eX7_tape_26, eX7_tape_29, eX7_tape_31, eX7_tape_32, eX7_tape_33, eX7_tape_34, eX7_tape_37, eX7_tape_38, eX7_tape_41, eX7_tape_43, eX7_tape_44, eX7_tape_45, eX7_tape_48, eX7_tape_49, eX7_tape_50, eX7_tape_51, eX7_tape_52, eX7_tape_55, eX7_tape_56, eX7_tape_57, eX7_tape_58, eX7_tape_61, eX7_tape_62, eX7_tape_65, eX7_tape_66, eX7_tape_67, eX7_tape_68, eX7_tape_72, eX7_tape_74, eX7_tape_77, eX7_tape_78, eX7_tape_81, eX7_tape_83, eX7_tape_84, eX7_tape_85, eX7_tape_87, eX7_tape_88, eX7_tape_89, eX7_tape_90, eX7_tape_93, eX7_tape_96, eX7_tape_97, Nat.add_zero, Nat.reduceAdd, Nat.reduceLeDiff, Nat.zero_le, and_true, o_aload_0r, o_callS_1, o_callS_3, o_const_e, o_getf_e, o_goto_e, o_iast_e, o_icmp_e, o_if_e, o_ii_e, o_iinc_4, o_iload_1, o_iload_2, o_iload_3, o_iload_4, o_iret_e, o_ist_4, o_last_e, tl_n, tl_s, true_and, xnlv_i, xnlv_n, xnlv_r, xwt_0, xwt_f, xwt_i, xwt_l, xwt_r, Option.isSome, not_true_eq_false, not_false_eq_true, true_implies, false_implies, and_true, true_and, implies_true, forall_const, ↓reduceIte, Bool.false_eq_true, i10, i10n]
    exact kn _ rfl
  | some t =>
    obtain ⟨htl, rfl⟩ := ix_s (by decide) ht
    simp only [ht] at k kn
    have hA : ∀ v, ModAt (modP AH m (s.tq (upd s.so t v) s.sz s.it)) m (s.tq (upd s.so t v) s.sz s.it) := fun v => h.put _
    simp only [eX7_tape_0, eX7_tape_1, eX7_tape_4, eX7_tape_7, eX7_tape_8, eX7_tape_9, eX7_tape_10, eX7_tape_11, eX7_tape_12, eX7_tape_15, eX7_tape_18, eX7_tape_19, eX7_tape_20, eX7_tape_23, eX7_tape_24, eX7_tape_26, eX7_tape_29, eX7_tape_31, eX7_tape_32, eX7_tape_33, eX7_tape_34, eX7_tape_37, eX7_tape_38, eX7_tape_41, eX7_tape_43, eX7_tape_44, eX7_tape_45, eX7_tape_48, eX7_tape_49, eX7_tape_50, eX7_tape_51, eX7_tape_52, eX7_tape_55, eX7_tape_56, eX7_tape_57, eX7_tape_58, eX7_tape_61, eX7_tape_62, eX7_tape_65, eX7_tape_66, eX7_tape_67, eX7_tape_68, eX7_tape_72, eX7_tape_74, eX7_tape_77, eX7_tape_78, eX7_tape_81, eX7_tape_83, eX7_tape_84, eX7_tape_85, eX7_tape_87, eX7_tape_88, eX7_tape_89, eX7_tape_90, eX7_tape_93, eX7_tape_96, eX7_tape_97, Nat.add_zero, Nat.reduceAdd, Nat.reduceLeDiff, Nat.zero_le, and_true, o_aload_0r, o_callS_1, o_callS_3, o_const_e, o_getf_e, o_goto_e, o_iast_e, o_icmp_e, o_if_e, o_ii_e, o_iinc_4, o_iload_1, o_iload_2, o_iload_3, o_iload_4, o_iret_e, o_ist_4, o_last_e, tl_n, tl_s, true_and, xnlv_i, xnlv_n, xnlv_r, xwt_0, xwt_f, xwt_i, xwt_l, xwt_r, Option.isSome, not_true_eq_false, not_false_eq_true, true_implies, false_implies, and_true, true_and, implies_true, forall_const, ↓reduceIte, Bool.false_eq_true, i10, i10n]
    refine d_inG ?_
    have z0 : (0 : Int32).toInt = 0 := by decide
    have zm : (-1 : Int32).toInt = -1 := by decide
    have z4 : (4 : Int32).toInt = 4 := by decide
    by_cases g0 : sv = -1
    · subst g0
      rw [if_pos rfl] at k
      rw [if_pos ⟨by decide, by decide⟩]
      have e1 : ((1 : Int32) = nI 0) = False := eq_false (by decide)
      simp only [eX7_tape_0, eX7_tape_1, eX7_tape_4, eX7_tape_7, eX7_tape_8, eX7_tape_9, eX7_tape_10, eX7_tape_11, eX7_tape_12, eX7_tape_15, eX7_tape_18, eX7_tape_19, eX7_tape_20, eX7_tape_23, eX7_tape_24, eX7_tape_26, eX7_tape_29, eX7_tape_31, eX7_tape_32, eX7_tape_33, eX7_tape_34, eX7_tape_37, eX7_tape_38, eX7_tape_41, eX7_tape_43, eX7_tape_44, eX7_tape_45, eX7_tape_48, eX7_tape_49, eX7_tape_50, eX7_tape_51, eX7_tape_52, eX7_tape_55, eX7_tape_56, eX7_tape_57, eX7_tape_58, eX7_tape_61, eX7_tape_62, eX7_tape_65, eX7_tape_66, eX7_tape_67, eX7_tape_68, eX7_tape_72, eX7_tape_74, eX7_tape_77, eX7_tape_78, eX7_tape_81, eX7_tape_83, eX7_tape_84, eX7_tape_85, eX7_tape_87, eX7_tape_88, eX7_tape_89, eX7_tape_90, eX7_tape_93, eX7_tape_96, eX7_tape_97, Nat.add_zero, Nat.reduceAdd, Nat.reduceLeDiff, Nat.zero_le, and_true, o_aload_0r, o_callS_1, o_callS_3, o_const_e, o_getf_e, o_goto_e, o_iast_e, o_icmp_e, o_if_e, o_ii_e, o_iinc_4, o_iload_1, o_iload_2, o_iload_3, o_iload_4, o_iret_e, o_ist_4, o_last_e, tl_n, tl_s, true_and, xnlv_i, xnlv_n, xnlv_r, xwt_0, xwt_f, xwt_i, xwt_l, xwt_r, e1, eq_self, not_true_eq_false, not_false_eq_true, true_implies, false_implies, and_true, true_and, implies_true, forall_const, ↓reduceIte, Bool.false_eq_true, i10, i10n, h.cls, h.g7, h.w_so (c := t) htl, so_tq, (hA (-1)).g8, z_nI, (hA (-1)).w_sz (c := t) htl, modP_modP h.lt, sz_tq, tq_sz]
      exact k_tape h htl (Q := fun v AH' _ => Q v AH') (fun c hc hd => k _ _ c (hT.bec rfl rfl hc hd)) 60 0 (by omega) s.it (fun i hi => by omega) (fun _ _ _ _ _ => rfl)
    · rw [if_neg g0] at k kn
      cases hs : ix 5 sv with
      | none =>
        simp only [hs] at kn
        have hs := (ix_iff (by decide)).mp hs
        rw [if_neg (fun z => by
          have h1 := z.1
          have h2 := z.2
          rw [Int32.le_iff_toInt_le] at h1 h2
          have h3 : ¬ sv.toInt = -1 := fun e => g0 (Int32.toInt_inj.mp (by rw [e, zm]))
          omega)]
        simp only [eX7_tape_0, eX7_tape_1, eX7_tape_4, eX7_tape_7, eX7_tape_8, eX7_tape_9, eX7_tape_10, eX7_tape_11, eX7_tape_12, eX7_tape_15, eX7_tape_18, eX7_tape_19, eX7_tape_20, eX7_tape_23, eX7_tape_24, eX7_tape_26, eX7_tape_29, eX7_tape_31, eX7_tape_32, eX7_tape_33, eX7_tape_34, eX7_tape_37, eX7_tape_38, eX7_tape_41, eX7_tape_43, eX7_tape_44, eX7_tape_45, eX7_tape_48, eX7_tape_49, eX7_tape_50, eX7_tape_51, eX7_tape_52, eX7_tape_55, eX7_tape_56, eX7_tape_57, eX7_tape_58, eX7_tape_61, eX7_tape_62, eX7_tape_65, eX7_tape_66, eX7_tape_67, eX7_tape_68, eX7_tape_72, eX7_tape_74, eX7_tape_77, eX7_tape_78, eX7_tape_81, eX7_tape_83, eX7_tape_84, eX7_tape_85, eX7_tape_87, eX7_tape_88, eX7_tape_89, eX7_tape_90, eX7_tape_93, eX7_tape_96, eX7_tape_97, Nat.add_zero, Nat.reduceAdd, Nat.reduceLeDiff, Nat.zero_le, and_true, o_aload_0r, o_callS_1, o_callS_3, o_const_e, o_getf_e, o_goto_e, o_iast_e, o_icmp_e, o_if_e, o_ii_e, o_iinc_4, o_iload_1, o_iload_2, o_iload_3, o_iload_4, o_iret_e, o_ist_4, o_last_e, tl_n, tl_s, true_and, xnlv_i, xnlv_n, xnlv_r, xwt_0, xwt_f, xwt_i, xwt_l, xwt_r, eq_self, not_true_eq_false, not_false_eq_true, true_implies, false_implies, and_true, true_and, implies_true, forall_const, ↓reduceIte, Bool.false_eq_true, i10, i10n]
        exact kn _ rfl
      | some j =>
        obtain ⟨hj, rfl⟩ := ix_s (by decide) hs
        simp only [hs] at k kn
        rw [if_pos ⟨by rw [Int32.le_iff_toInt_le, nI_toInt (by omega)]; omega, by rw [Int32.le_iff_toInt_le, nI_toInt (by omega)]; omega⟩]
        have e1 : ((1 : Int32) = 0) = False := eq_false (by decide)
        have e60 : (60 : Int32).toInt = 60 := by decide
        simp only [eX7_tape_0, eX7_tape_1, eX7_tape_4, eX7_tape_7, eX7_tape_8, eX7_tape_9, eX7_tape_10, eX7_tape_11, eX7_tape_12, eX7_tape_15, eX7_tape_18, eX7_tape_19, eX7_tape_20, eX7_tape_23, eX7_tape_24, eX7_tape_26, eX7_tape_29, eX7_tape_31, eX7_tape_32, eX7_tape_33, eX7_tape_34, eX7_tape_37, eX7_tape_38, eX7_tape_41, eX7_tape_43, eX7_tape_44, eX7_tape_45, eX7_tape_48, eX7_tape_49, eX7_tape_50, eX7_tape_51, eX7_tape_52, eX7_tape_55, eX7_tape_56, eX7_tape_57, eX7_tape_58, eX7_tape_61, eX7_tape_62, eX7_tape_65, eX7_tape_66, eX7_tape_67, eX7_tape_68, eX7_tape_72, eX7_tape_74, eX7_tape_77, eX7_tape_78, eX7_tape_81, eX7_tape_83, eX7_tape_84, eX7_tape_85, eX7_tape_87, eX7_tape_88, eX7_tape_89, eX7_tape_90, eX7_tape_93, eX7_tape_96, eX7_tape_97, Nat.add_zero, Nat.reduceAdd, Nat.reduceLeDiff, Nat.zero_le, and_true, o_aload_0r, o_callS_1, o_callS_3, o_const_e, o_getf_e, o_goto_e, o_iast_e, o_icmp_e, o_if_e, o_ii_e, o_iinc_4, o_iload_1, o_iload_2, o_iload_3, o_iload_4, o_iret_e, o_ist_4, o_last_e, tl_n, tl_s, true_and, xnlv_i, xnlv_n, xnlv_r, xwt_0, xwt_f, xwt_i, xwt_l, xwt_r, e1, g0, not_true_eq_false, not_false_eq_true, true_implies, false_implies, and_true, true_and, implies_true, forall_const, ↓reduceIte, Bool.false_eq_true, i10, i10n]
        by_cases g1 : nv < 0
        · rw [if_pos g1] at kn
          have g1' := lt_neg.mp g1
          refine ⟨fun _ => ⟨fun g => ?_, fun _ => kn _ rfl⟩, fun g => ?_⟩
          · rw [Int32.le_iff_toInt_le] at g; omega
          · rw [Int32.le_iff_toInt_le] at g; omega
        · rw [if_neg g1] at k kn
          have g1' : ¬ nv.toInt < 0 := fun z => g1 (lt_neg.mpr z)
          cases hn : ix 61 nv with
          | none =>
            simp only [hn] at kn
            have hn := (ix_iff (by decide)).mp hn
            refine ⟨fun g => ?_, fun _ => kn _ rfl⟩
            rw [Int32.le_iff_toInt_le] at g
            omega
          | some q =>
            obtain ⟨hq, rfl⟩ := ix_s (by decide) hn
            simp only [hn] at k
            rw [n60, le_nI (by omega) (by decide), ge0_nI (by omega)]
            refine ⟨fun _ => ⟨fun _ => ?_, fun g => absurd trivial g⟩, fun g => by omega⟩
            simp only [eX7_tape_0, eX7_tape_1, eX7_tape_4, eX7_tape_7, eX7_tape_8, eX7_tape_9, eX7_tape_10, eX7_tape_11, eX7_tape_12, eX7_tape_15, eX7_tape_18, eX7_tape_19, eX7_tape_20, eX7_tape_23, eX7_tape_24, eX7_tape_26, eX7_tape_29, eX7_tape_31, eX7_tape_32, eX7_tape_33, eX7_tape_34, eX7_tape_37, eX7_tape_38, eX7_tape_41, eX7_tape_43, eX7_tape_44, eX7_tape_45, eX7_tape_48, eX7_tape_49, eX7_tape_50, eX7_tape_51, eX7_tape_52, eX7_tape_55, eX7_tape_56, eX7_tape_57, eX7_tape_58, eX7_tape_61, eX7_tape_62, eX7_tape_65, eX7_tape_66, eX7_tape_67, eX7_tape_68, eX7_tape_72, eX7_tape_74, eX7_tape_77, eX7_tape_78, eX7_tape_81, eX7_tape_83, eX7_tape_84, eX7_tape_85, eX7_tape_87, eX7_tape_88, eX7_tape_89, eX7_tape_90, eX7_tape_93, eX7_tape_96, eX7_tape_97, Nat.add_zero, Nat.reduceAdd, Nat.reduceLeDiff, Nat.zero_le, and_true, o_aload_0r, o_callS_1, o_callS_3, o_const_e, o_getf_e, o_goto_e, o_iast_e, o_icmp_e, o_if_e, o_ii_e, o_iinc_4, o_iload_1, o_iload_2, o_iload_3, o_iload_4, o_iret_e, o_ist_4, o_last_e, tl_n, tl_s, true_and, xnlv_i, xnlv_n, xnlv_r, xwt_0, xwt_f, xwt_i, xwt_l, xwt_r, g0, not_true_eq_false, not_false_eq_true, true_implies, false_implies, and_true, true_and, implies_true, forall_const, ↓reduceIte, Bool.false_eq_true, i10, i10n, h.cls, h.g7, h.w_so (c := t) htl, so_tq, (hA (nI j)).g8, (hA (nI j)).w_sz (c := t) htl, modP_modP h.lt, sz_tq, tq_sz]
            exact k_tape h htl (Q := fun v AH' _ => Q v AH') (fun c hc hd => k _ _ c (hT.bec rfl rfl hc hd)) 60 0 (by omega) s.it (fun i hi => by omega) (fun _ _ _ _ _ => rfl)
end TAPE2
