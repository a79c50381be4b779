/-! tapes: the reference, shift and judge; its image -/
theorem rng32 (v : Int32) : -2147483648 ≤ v.toInt ∧ v.toInt < 2147483648 := by
  have h1 := Int32.le_toInt v
  have h2 := Int32.toInt_lt v
  omega
theorem bm32 {z : Int} (h1 : -2147483648 ≤ z) (h2 : z < 2147483648) : z.bmod (2 ^ 32) = z := by
  rw [Int.bmod_def]
  split <;> omega
theorem sub_ti {z : Nat} (hz : z ≤ 60) {n : Int32} (h : ¬ n.toInt < 0) : (nI z - n).toInt = (z : Int) - n.toInt := by
  have := rng32 n
  rw [Int32.toInt_sub, nI_toInt (by omega)]
  exact bm32 (by omega) (by omega)
theorem plc_cases {z : Nat} (hz : z ≤ 60) (i n : Int32) : (∃ a b, plc z i n = some (a, b) ∧ i = nI a ∧ n = nI b ∧ a + b ≤ z) ∨ (plc z i n = none ∧ ¬ (0 ≤ n.toInt ∧ 0 ≤ i.toInt ∧ i.toInt + n.toInt ≤ z)) := by
  unfold plc
  cases hn : ix 61 n with
  | none =>
    have hn := (ix_iff (by decide)).mp hn
    exact Or.inr ⟨rfl, fun g => by omega⟩
  | some b =>
    obtain ⟨hb, rfl⟩ := ix_s (by decide) hn
    rw [nI_toInt (show b < 2 ^ 31 by omega)]
    dsimp only
    cases hi : ix 61 i with
    | none =>
      have hi := (ix_iff (by decide)).mp hi
      exact Or.inr ⟨rfl, fun g => by omega⟩
    | some a =>
      obtain ⟨ha, rfl⟩ := ix_s (by decide) hi
      rw [nI_toInt (show a < 2 ^ 31 by omega)]
      dsimp only
      by_cases g : a + b ≤ z
      · rw [if_pos g]
        exact Or.inl ⟨a, b, rfl, rfl, rfl, g⟩
      · rw [if_neg g]
        exact Or.inr ⟨rfl, fun g2 => by omega⟩
theorem TpM.shi {T : sTp} {s : sMod} (hT : TpM T s) {t i o j n : Nat} (ht : t < 6) (ho : o < 6) (hi : i + n ≤ 60) (hj : j + n ≤ 60) : TpM (T.shi t i o j n) (s.tq s.so s.sz (va_cpy s.it s.it (60 * t + i) (60 * o + j) n)) := by
  refine ⟨hT.1, hT.2.1, fun u q hu hq => ?_⟩
  show va_cpy s.it s.it (60 * t + i) (60 * o + j) n (60 * u + q) = va_up T.it o (va_cpy (T.it t) (T.it o) i j n) u q
  unfold va_up
  by_cases e : u = o
  · subst e
    rw [if_pos rfl]
    by_cases g : j ≤ q ∧ q < j + n
    · rw [pk_cpy_in (by omega) (by omega), pk_cpy_in g.1 g.2, show 60 * t + i + (60 * u + q - (60 * u + j)) = 60 * t + (i + (q - j)) by omega]
      exact hT.2.2 t _ ht (by omega)
    · rw [pk_cpy_out (by omega), pk_cpy_out (by omega)]
      exact hT.2.2 u q hu hq
  · rw [if_neg e, pk_cpy_out (by omega)]
    exact hT.2.2 u q hu hq
theorem i1z : ((1 : Int32) = nI 0) = False := eq_false (by decide)
theorem i1zn : (nI 1 = nI 0) = False := eq_false (by decide)
section TAPE3
variable {AH : xH} {m : Nat} {s : sMod} {x : sLat} {r : sRow} {T : sTp}
/-- shift(t, i, o, j, n) -/
theorem d_shift (h : ModAt AH m s) (hT : TpM T s) (ok : T.ok) {t i o j n : Int32} {Q : Option Value → xH → Prop} (k : ∀ a b c, TpM (T.aShift t i o j n).2 (s.tq a b c) → Q (some (.int (T.aShift t i o j n).1)) (modP AH m (s.tq a b c))) : XC MX7_shift [.ref m, .int t, .int i, .int o, .int j, .int n] AH Q := by
  have kn : ∀ w : Int32, (T.aShift t i o j n) = (w, T) → Q (some (.int w)) AH := fun w e => by
    have k := k s.so s.sz s.it
    rw [e, tq_self, modP_self h] at k
    exact k hT
  unfold sTp.aShift at k kn
  refine XC.ofR (L := [some (.ref m), some (.int t), some (.int i), some (.int o), some (.int j), some (.int n)]) KX7_shift (by decide +kernel) (by first | decide | exact Nat.le_of_ble_eq_true rfl) rfl ?_
  simp only [eX7_shift_0, eX7_shift_1, eX7_shift_4, eX7_shift_7, eX7_shift_8, eX7_shift_11, eX7_shift_14, eX7_shift_15, eX7_shift_16, eX7_shift_17, eX7_shift_20, eX7_shift_21, eX7_shift_22, eX7_shift_23, eX7_shift_26, eX7_shift_27, eX7_shift_30, eX7_shift_31, eX7_shift_32, eX7_shift_33, eX7_shift_36, eX7_shift_38, eX7_shift_39, eX7_shift_40, eX7_shift_43, eX7_shift_44, eX7_shift_45, eX7_shift_46, eX7_shift_49, eX7_shift_50, eX7_shift_51, eX7_shift_54, eX7_shift_56, eX7_shift_57, eX7_shift_59, eX7_shift_62, eX7_shift_63, eX7_shift_66, eX7_shift_68, eX7_shift_71, eX7_shift_72, eX7_shift_73, eX7_shift_76, eX7_shift_77, eX7_shift_78, eX7_shift_80, eX7_shift_81, eX7_shift_84, eX7_shift_86, eX7_shift_87, eX7_shift_90, eX7_shift_91, eX7_shift_92, eX7_shift_94, eX7_shift_95, eX7_shift_98, eX7_shift_100, eX7_shift_101, eX7_shift_102, eX7_shift_105, eX7_shift_107, eX7_shift_108, eX7_shift_109, eX7_shift_110, eX7_shift_111, eX7_shift_112, eX7_shift_115, eX7_shift_117, eX7_shift_118, eX7_shift_119, eX7_shift_121, eX7_shift_122, eX7_shift_124, eX7_shift_127, eX7_shift_129, Nat.add_zero, Nat.reduceAdd, Nat.reduceLeDiff, Nat.zero_le, and_true, o_aload_0r, o_callS_1, o_const_e, o_copy_e, o_getf_e, o_iald_e, o_iald_f, o_icmp_e, o_if_e, o_ii_e, o_iload_1, o_iload_2, o_iload_3, o_iload_4, o_iload_5, o_iret_e, tl_n, tl_s, true_and, xwt_0, xwt_f, xwt_i, xwt_l, xwt_r]
  refine d_isTape ?_
  cases ht : ix 6 t with
  | none =>
    simp only [ht] at kn
    simp only [eX7_shift_0, eX7_shift_1, eX7_shift_4, eX7_shift_7, eX7_shift_8, eX7_shift_11, eX7_shift_14, eX7_shift_15, eX7_shift_16, eX7_shift_17, eX7_shift_20, eX7_shift_21, eX7_shift_22, eX7_shift_23, eX7_shift_26, eX7_shift_27, eX7_shift_30, eX7_shift_31, eX7_shift_32, eX7_shift_33, eX7_shift_36, eX7_shift_38, eX7_shift_39, eX7_shift_40, eX7_shift_43, eX7_shift_44, eX7_shift_45, eX7_shift_46, eX7_shift_49, eX7_shift_50, eX7_shift_51, eX7_shift_54, eX7_shift_56, eX7_shift_57, eX7_shift_59, eX7_shift_62, eX7_shift_63, eX7_shift_66, eX7_shift_68, eX7_shift_71, eX7_shift_72, eX7_shift_73, eX7_shift_76, eX7_shift_77, eX7_shift_78, eX7_shift_80, eX7_shift_81, eX7_shift_84, eX7_shift_86, eX7_shift_87, eX7_shift_90, eX7_shift_91, eX7_shift_92, eX7_shift_94, eX7_shift_95, eX7_shift_98, eX7_shift_100, eX7_shift_101, eX7_shift_102, eX7_shift_105, eX7_shift_107, eX7_shift_108, eX7_shift_109, eX7_shift_110, eX7_shift_111, eX7_shift_112, eX7_shift_115, eX7_shift_117, eX7_shift_118, eX7_shift_119, eX7_shift_121, eX7_shift_122, eX7_shift_124, eX7_shift_127, eX7_shift_129, Nat.add_zero, Nat.reduceAdd, Nat.reduceLeDiff, Nat.zero_le, and_true, o_aload_0r, o_callS_1, o_const_e, o_copy_e, o_getf_e, o_iald_e, o_iald_f, o_icmp_e, o_if_e, o_ii_e, o_iload_1, o_iload_2, o_iload_3, o_iload_4, o_iload_5, o_iret_e, tl_n, tl_s, true_and, xwt_0, xwt_f, xwt_i, xwt_l, xwt_r, Option.isSome, not_true_eq_false, not_false_eq_true, true_implies, false_implies, and_true, true_and, implies_true, forall_const, ↓reduceIte, Bool.false_eq_true, i10, i10n]
    exact kn _ rfl
  | some t =>
    obtain ⟨htl, rfl⟩ := ix_s (by decide) ht
    simp only [ht] at k kn
    simp only [eX7_shift_0, eX7_shift_1, eX7_shift_4, eX7_shift_7, eX7_shift_8, eX7_shift_11, eX7_shift_14, eX7_shift_15, eX7_shift_16, eX7_shift_17, eX7_shift_20, eX7_shift_21, eX7_shift_22, eX7_shift_23, eX7_shift_26, eX7_shift_27, eX7_shift_30, eX7_shift_31, eX7_shift_32, eX7_shift_33, eX7_shift_36, eX7_shift_38, eX7_shift_39, eX7_shift_40, eX7_shift_43, eX7_shift_44, eX7_shift_45, eX7_shift_46, eX7_shift_49, eX7_shift_50, eX7_shift_51, eX7_shift_54, eX7_shift_56, eX7_shift_57, eX7_shift_59, eX7_shift_62, eX7_shift_63, eX7_shift_66, eX7_shift_68, eX7_shift_71, eX7_shift_72, eX7_shift_73, eX7_shift_76, eX7_shift_77, eX7_shift_78, eX7_shift_80, eX7_shift_81, eX7_shift_84, eX7_shift_86, eX7_shift_87, eX7_shift_90, eX7_shift_91, eX7_shift_92, eX7_shift_94, eX7_shift_95, eX7_shift_98, eX7_shift_100, eX7_shift_101, eX7_shift_102, eX7_shift_105, eX7_shift_107, eX7_shift_108, eX7_shift_109, eX7_shift_110, eX7_shift_111, eX7_shift_112, eX7_shift_115, eX7_shift_117, eX7_shift_118, eX7_shift_119, eX7_shift_121, eX7_shift_122, eX7_shift_124, eX7_shift_127, eX7_shift_129, Nat.add_zero, Nat.reduceAdd, Nat.reduceLeDiff, Nat.zero_le, and_true, o_aload_0r, o_callS_1, o_const_e, o_copy_e, o_getf_e, o_iald_e, o_iald_f, o_icmp_e, o_if_e, o_ii_e, o_iload_1, o_iload_2, o_iload_3, o_iload_4, o_iload_5, o_iret_e, tl_n, tl_s, true_and, xwt_0, xwt_f, xwt_i, xwt_l, xwt_r, Option.isSome, not_true_eq_false, not_false_eq_true, true_implies, false_implies, and_true, true_and, implies_true, forall_const, ↓reduceIte, Bool.false_eq_true, i10, i10n]
    refine d_isTape ?_
    cases ho : ix 6 o with
    | none =>
      simp only [ho] at kn
      simp only [eX7_shift_0, eX7_shift_1, eX7_shift_4, eX7_shift_7, eX7_shift_8, eX7_shift_11, eX7_shift_14, eX7_shift_15, eX7_shift_16, eX7_shift_17, eX7_shift_20, eX7_shift_21, eX7_shift_22, eX7_shift_23, eX7_shift_26, eX7_shift_27, eX7_shift_30, eX7_shift_31, eX7_shift_32, eX7_shift_33, eX7_shift_36, eX7_shift_38, eX7_shift_39, eX7_shift_40, eX7_shift_43, eX7_shift_44, eX7_shift_45, eX7_shift_46, eX7_shift_49, eX7_shift_50, eX7_shift_51, eX7_shift_54, eX7_shift_56, eX7_shift_57, eX7_shift_59, eX7_shift_62, eX7_shift_63, eX7_shift_66, eX7_shift_68, eX7_shift_71, eX7_shift_72, eX7_shift_73, eX7_shift_76, eX7_shift_77, eX7_shift_78, eX7_shift_80, eX7_shift_81, eX7_shift_84, eX7_shift_86, eX7_shift_87, eX7_shift_90, eX7_shift_91, eX7_shift_92, eX7_shift_94, eX7_shift_95, eX7_shift_98, eX7_shift_100, eX7_shift_101, eX7_shift_102, eX7_shift_105, eX7_shift_107, eX7_shift_108, eX7_shift_109, eX7_shift_110, eX7_shift_111, eX7_shift_112, eX7_shift_115, eX7_shift_117, eX7_shift_118, eX7_shift_119, eX7_shift_121, eX7_shift_122, eX7_shift_124, eX7_shift_127, eX7_shift_129, Nat.add_zero, Nat.reduceAdd, Nat.reduceLeDiff, Nat.zero_le, and_true, o_aload_0r, o_callS_1, o_const_e, o_copy_e, o_getf_e, o_iald_e, o_iald_f, o_icmp_e, o_if_e, o_ii_e, o_iload_1, o_iload_2, o_iload_3, o_iload_4, o_iload_5, o_iret_e, tl_n, tl_s, true_and, xwt_0, xwt_f, xwt_i, xwt_l, xwt_r, Option.isSome, not_true_eq_false, not_false_eq_true, true_implies, false_implies, and_true, true_and, implies_true, forall_const, ↓reduceIte, Bool.false_eq_true, i10, i10n]
      exact kn _ rfl
    | some o =>
      obtain ⟨hol, rfl⟩ := ix_s (by decide) ho
      simp only [ho] at k kn
      have hl := (ok t).1
      have hl2 := (ok o).1
      have e1 := hT.1 t htl
      have e2 := hT.2.1 t htl
      have e3 := hT.1 o hol
      have e4 := hT.2.1 o hol
      simp only [eX7_shift_0, eX7_shift_1, eX7_shift_4, eX7_shift_7, eX7_shift_8, eX7_shift_11, eX7_shift_14, eX7_shift_15, eX7_shift_16, eX7_shift_17, eX7_shift_20, eX7_shift_21, eX7_shift_22, eX7_shift_23, eX7_shift_26, eX7_shift_27, eX7_shift_30, eX7_shift_31, eX7_shift_32, eX7_shift_33, eX7_shift_36, eX7_shift_38, eX7_shift_39, eX7_shift_40, eX7_shift_43, eX7_shift_44, eX7_shift_45, eX7_shift_46, eX7_shift_49, eX7_shift_50, eX7_shift_51, eX7_shift_54, eX7_shift_56, eX7_shift_57, eX7_shift_59, eX7_shift_62, eX7_shift_63, eX7_shift_66, eX7_shift_68, eX7_shift_71, eX7_shift_72, eX7_shift_73, eX7_shift_76, eX7_shift_77, eX7_shift_78, eX7_shift_80, eX7_shift_81, eX7_shift_84, eX7_shift_86, eX7_shift_87, eX7_shift_90, eX7_shift_91, eX7_shift_92, eX7_shift_94, eX7_shift_95, eX7_shift_98, eX7_shift_100, eX7_shift_101, eX7_shift_102, eX7_shift_105, eX7_shift_107, eX7_shift_108, eX7_shift_109, eX7_shift_110, eX7_shift_111, eX7_shift_112, eX7_shift_115, eX7_shift_117, eX7_shift_118, eX7_shift_119, eX7_shift_121, eX7_shift_122, eX7_shift_124, eX7_shift_127, eX7_shift_129, Nat.add_zero, Nat.reduceAdd, Nat.reduceLeDiff, Nat.zero_le, and_true, o_aload_0r, o_callS_1, o_const_e, o_copy_e, o_getf_e, o_iald_e, o_iald_f, o_icmp_e, o_if_e, o_ii_e, o_iload_1, o_iload_2, o_iload_3, o_iload_4, o_iload_5, o_iret_e, tl_n, tl_s, true_and, xwt_0, xwt_f, xwt_i, xwt_l, xwt_r, Option.isSome, not_true_eq_false, not_false_eq_true, true_implies, false_implies, and_true, true_and, implies_true, forall_const, ↓reduceIte, Bool.false_eq_true, i10, i10n, h.cls, h.g7, h.r_so (c := t) htl, h.r_so (c := o) hol, e1, e3, h.g8, h.r_sz (c := t) htl, h.r_sz (c := o) hol, e2, e4, h.g6]
      by_cases a1 : T.so t = -1
      · rw [if_pos (Or.inl a1)] at kn
        exact ⟨fun _ => kn _ rfl, fun g => absurd a1 g⟩
      by_cases a2 : T.so o = -1
      · rw [if_pos (Or.inr a2)] at kn
        exact ⟨fun g => absurd g a1, fun _ => ⟨fun g => absurd a2 g, fun _ => kn _ rfl⟩⟩
      rw [if_neg (fun z => z.elim a1 a2)] at k kn
      refine ⟨fun g => absurd g a1, fun _ => ⟨fun _ => ?_, fun g => absurd g (fun z => z a2)⟩⟩
      by_cases a3 : T.so t = T.so o
      · rw [if_neg (fun z => z a3)] at k kn
        refine ⟨fun _ => ?_, fun g => absurd a3 g⟩
        rcases plc_cases hl i n with ⟨a, b, p1, rfl, rfl, p2⟩ | ⟨p1, p2⟩
        · simp only [p1] at k kn
          rcases plc_cases hl2 j (nI b) with ⟨c, d, q1, rfl, q0, q2⟩ | ⟨q1, q2⟩
          · simp only [q1] at k
            rw [nI_eq (by omega) (by omega)] at q0
            subst q0
            rw [lt0_nI (by omega), lt0_nI (by omega), lt0_nI (by omega), pk_sub (a := T.sz t) (b := b) (by omega), pk_sub (a := T.sz o) (b := b) (by omega), lt_nI (by omega) (by omega), le_nI (by omega) (by omega)]
            refine ⟨fun g => g.elim, fun _ => ⟨fun g => g.elim, fun _ => ⟨fun g => g.elim, fun _ => ⟨fun g => by omega, fun _ => ⟨fun _ => ?_, fun g => by omega⟩⟩⟩⟩⟩
            rw [n60, pk_mul, pk_mul, nI_add, nI_add, xcpyL_of (h 5 _ rfl) (h 5 _ rfl) (show 60 * t + a + b ≤ 360 by omega) (show 60 * o + c + b ≤ 360 by omega) (by decide) (by decide), h.a_it]
            exact k _ _ _ (hT.shi htl hol (by omega) (by omega))
          · simp only [q1] at kn
            rw [nI_toInt (by omega)] at q2
            rw [lt0_nI (show b < 2 ^ 31 by omega), lt0_nI (show a < 2 ^ 31 by omega), pk_sub (a := T.sz t) (b := b) (by omega), lt_nI (by omega) (by omega)]
            refine ⟨fun g => g.elim, fun _ => ⟨fun g => g.elim, fun _ => ⟨fun _ => kn _ rfl, fun g => ⟨fun g => by omega, fun _ => ⟨fun g2 => ?_, fun _ => kn _ rfl⟩⟩⟩⟩⟩
            rw [lt_neg] at g
            rw [Int32.le_iff_toInt_le, sub_ti hl2 (by rw [nI_toInt (by omega)]; omega), nI_toInt (by omega)] at g2
            omega
        · simp only [p1] at kn
          refine ⟨fun _ => kn _ rfl, fun g0 => ⟨fun _ => kn _ rfl, fun g1 => ⟨fun _ => kn _ rfl, fun g2 => ⟨fun _ => kn _ rfl, fun g3 => ?_⟩⟩⟩⟩
          rw [lt_neg] at g0 g1
          rw [Int32.lt_iff_toInt_lt, sub_ti hl g0] at g3
          omega
      · rw [if_pos a3] at kn
        exact ⟨fun g => absurd g a3, fun _ => kn _ rfl⟩
theorem k_jud (h : MoL AH m s x r) (ok : x.ok) (hT : TpM T s) {t i : Nat} (htl : t < 6) (hi : i < 60) (hz : T.sz t ≤ 60) (hs0 : T.so t = 0) {Q : xQ} (k : Q (some (.int ((jdF (T.it t) (T.sz t) x i x.n).getD (-5)))) AH (0, 0)) : ∀ (n c : Nat), c + n = x.n → jdF (T.it t) (T.sz t) x i c = none →
    XR TX7_judge 33 [some (.ref m), some (.int (nI t)), some (.int (nI i)), some (.int (nI c))] [] AH (0, 0) Q := by
  have hn := sLat.n36 ok
  have e1 := hT.1 t htl
  have e2 := hT.2.1 t htl
  have z1 : ((0 : Int32) = -1) = False := eq_false (by decide)
  intro n
  induction n with
  | zero =>
    intro c hc hj
    rw [eX7_judge_33]
    simp only [eX7_judge_0, eX7_judge_1, eX7_judge_4, eX7_judge_7, eX7_judge_8, eX7_judge_9, eX7_judge_10, eX7_judge_13, eX7_judge_14, eX7_judge_15, eX7_judge_16, eX7_judge_19, eX7_judge_20, eX7_judge_23, eX7_judge_24, eX7_judge_25, eX7_judge_28, eX7_judge_30, eX7_judge_31, eX7_judge_32, eX7_judge_34, eX7_judge_35, eX7_judge_38, eX7_judge_41, eX7_judge_42, eX7_judge_45, eX7_judge_46, eX7_judge_47, eX7_judge_48, eX7_judge_51, eX7_judge_52, eX7_judge_55, eX7_judge_56, eX7_judge_57, eX7_judge_60, eX7_judge_61, eX7_judge_62, eX7_judge_63, eX7_judge_64, eX7_judge_67, eX7_judge_69, eX7_judge_70, eX7_judge_71, eX7_judge_72, eX7_judge_73, eX7_judge_76, eX7_judge_78, eX7_judge_79, eX7_judge_80, eX7_judge_81, eX7_judge_82, eX7_judge_83, eX7_judge_84, eX7_judge_85, eX7_judge_86, eX7_judge_89, eX7_judge_91, eX7_judge_92, eX7_judge_93, eX7_judge_94, eX7_judge_95, eX7_judge_96, eX7_judge_99, eX7_judge_100, eX7_judge_101, eX7_judge_104, eX7_judge_107, eX7_judge_109, Nat.add_zero, Nat.reduceAdd, Nat.reduceLeDiff, Nat.zero_le, and_true, o_aload_0r, o_callS_1, o_callV_0, o_const_e, o_getf_e, o_goto_e, o_iald_e, o_iald_f, o_icmp_e, o_if_e, o_ii_e, o_iinc_3, o_il_e, o_iload_1, o_iload_2, o_iload_3, o_iret_e, o_ist_3, o_lald_e, o_lli_e, tl_n, tl_s, true_and, xnlv_i, xnlv_n, xnlv_r, xwt_0, xwt_f, xwt_i, xwt_l, xwt_r, h.1.cls, h.1.g0, h.1.g1, h.1.g2, h.1.g3, h.1.g4, h.1.g5, h.1.g6, h.1.g7, h.1.g8, h.1.g9, h.1.g10, h.1.g11, h.1.g12, h.1.g13, h.1.g14, h.1.g15, h.1.g16, h.1.g17, h.1.g18, h.1.g19, h.i0, h.i1, h.i2, h.i3, h.i4, h.i5, h.i6, h.i7, h.i8, h.i9, h.i10, h.j0, h.j1, h.j2, h.j3, h.j4, h.j5, h.j6, h.j7, h.j8, h.j9, h.j10]
    refine d_cells h ?_
    simp only [eX7_judge_0, eX7_judge_1, eX7_judge_4, eX7_judge_7, eX7_judge_8, eX7_judge_9, eX7_judge_10, eX7_judge_13, eX7_judge_14, eX7_judge_15, eX7_judge_16, eX7_judge_19, eX7_judge_20, eX7_judge_23, eX7_judge_24, eX7_judge_25, eX7_judge_28, eX7_judge_30, eX7_judge_31, eX7_judge_32, eX7_judge_34, eX7_judge_35, eX7_judge_38, eX7_judge_41, eX7_judge_42, eX7_judge_45, eX7_judge_46, eX7_judge_47, eX7_judge_48, eX7_judge_51, eX7_judge_52, eX7_judge_55, eX7_judge_56, eX7_judge_57, eX7_judge_60, eX7_judge_61, eX7_judge_62, eX7_judge_63, eX7_judge_64, eX7_judge_67, eX7_judge_69, eX7_judge_70, eX7_judge_71, eX7_judge_72, eX7_judge_73, eX7_judge_76, eX7_judge_78, eX7_judge_79, eX7_judge_80, eX7_judge_81, eX7_judge_82, eX7_judge_83, eX7_judge_84, eX7_judge_85, eX7_judge_86, eX7_judge_89, eX7_judge_91, eX7_judge_92, eX7_judge_93, eX7_judge_94, eX7_judge_95, eX7_judge_96, eX7_judge_99, eX7_judge_100, eX7_judge_101, eX7_judge_104, eX7_judge_107, eX7_judge_109, Nat.add_zero, Nat.reduceAdd, Nat.reduceLeDiff, Nat.zero_le, and_true, o_aload_0r, o_callS_1, o_callV_0, o_const_e, o_getf_e, o_goto_e, o_iald_e, o_iald_f, o_icmp_e, o_if_e, o_ii_e, o_iinc_3, o_il_e, o_iload_1, o_iload_2, o_iload_3, o_iret_e, o_ist_3, o_lald_e, o_lli_e, tl_n, tl_s, true_and, xnlv_i, xnlv_n, xnlv_r, xwt_0, xwt_f, xwt_i, xwt_l, xwt_r, le_nI (a := x.n) (b := c) (by omega) (by omega)]
    refine ⟨fun _ => ?_, fun g => by omega⟩
    rw [show x.n = c by omega, hj] at k
    exact k
  | succ n ih =>
    intro c hc hj
    have hm := ok.1 c
    rw [eX7_judge_33]
    simp only [eX7_judge_0, eX7_judge_1, eX7_judge_4, eX7_judge_7, eX7_judge_8, eX7_judge_9, eX7_judge_10, eX7_judge_13, eX7_judge_14, eX7_judge_15, eX7_judge_16, eX7_judge_19, eX7_judge_20, eX7_judge_23, eX7_judge_24, eX7_judge_25, eX7_judge_28, eX7_judge_30, eX7_judge_31, eX7_judge_32, eX7_judge_34, eX7_judge_35, eX7_judge_38, eX7_judge_41, eX7_judge_42, eX7_judge_45, eX7_judge_46, eX7_judge_47, eX7_judge_48, eX7_judge_51, eX7_judge_52, eX7_judge_55, eX7_judge_56, eX7_judge_57, eX7_judge_60, eX7_judge_61, eX7_judge_62, eX7_judge_63, eX7_judge_64, eX7_judge_67, eX7_judge_69, eX7_judge_70, eX7_judge_71, eX7_judge_72, eX7_judge_73, eX7_judge_76, eX7_judge_78, eX7_judge_79, eX7_judge_80, eX7_judge_81, eX7_judge_82, eX7_judge_83, eX7_judge_84, eX7_judge_85, eX7_judge_86, eX7_judge_89, eX7_judge_91, eX7_judge_92, eX7_judge_93, eX7_judge_94, eX7_judge_95, eX7_judge_96, eX7_judge_99, eX7_judge_100, eX7_judge_101, eX7_judge_104, eX7_judge_107, eX7_judge_109, Nat.add_zero, Nat.reduceAdd, Nat.reduceLeDiff, Nat.zero_le, and_true, o_aload_0r, o_callS_1, o_callV_0, o_const_e, o_getf_e, o_goto_e, o_iald_e, o_iald_f, o_icmp_e, o_if_e, o_ii_e, o_iinc_3, o_il_e, o_iload_1, o_iload_2, o_iload_3, o_iret_e, o_ist_3, o_lald_e, o_lli_e, tl_n, tl_s, true_and, xnlv_i, xnlv_n, xnlv_r, xwt_0, xwt_f, xwt_i, xwt_l, xwt_r, h.1.cls, h.1.g0, h.1.g1, h.1.g2, h.1.g3, h.1.g4, h.1.g5, h.1.g6, h.1.g7, h.1.g8, h.1.g9, h.1.g10, h.1.g11, h.1.g12, h.1.g13, h.1.g14, h.1.g15, h.1.g16, h.1.g17, h.1.g18, h.1.g19, h.i0, h.i1, h.i2, h.i3, h.i4, h.i5, h.i6, h.i7, h.i8, h.i9, h.i10, h.j0, h.j1, h.j2, h.j3, h.j4, h.j5, h.j6, h.j7, h.j8, h.j9, h.j10]
    refine d_cells h ?_
    simp only [eX7_judge_0, eX7_judge_1, eX7_judge_4, eX7_judge_7, eX7_judge_8, eX7_judge_9, eX7_judge_10, eX7_judge_13, eX7_judge_14, eX7_judge_15, eX7_judge_16, eX7_judge_19, eX7_judge_20, eX7_judge_23, eX7_judge_24, eX7_judge_25, eX7_judge_28, eX7_judge_30, eX7_judge_31, eX7_judge_32, eX7_judge_34, eX7_judge_35, eX7_judge_38, eX7_judge_41, eX7_judge_42, eX7_judge_45, eX7_judge_46, eX7_judge_47, eX7_judge_48, eX7_judge_51, eX7_judge_52, eX7_judge_55, eX7_judge_56, eX7_judge_57, eX7_judge_60, eX7_judge_61, eX7_judge_62, eX7_judge_63, eX7_judge_64, eX7_judge_67, eX7_judge_69, eX7_judge_70, eX7_judge_71, eX7_judge_72, eX7_judge_73, eX7_judge_76, eX7_judge_78, eX7_judge_79, eX7_judge_80, eX7_judge_81, eX7_judge_82, eX7_judge_83, eX7_judge_84, eX7_judge_85, eX7_judge_86, eX7_judge_89, eX7_judge_91, eX7_judge_92, eX7_judge_93, eX7_judge_94, eX7_judge_95, eX7_judge_96, eX7_judge_99, eX7_judge_100, eX7_judge_101, eX7_judge_104, eX7_judge_107, eX7_judge_109, Nat.add_zero, Nat.reduceAdd, Nat.reduceLeDiff, Nat.zero_le, and_true, o_aload_0r, o_callS_1, o_callV_0, o_const_e, o_getf_e, o_goto_e, o_iald_e, o_iald_f, o_icmp_e, o_if_e, o_ii_e, o_iinc_3, o_il_e, o_iload_1, o_iload_2, o_iload_3, o_iret_e, o_ist_3, o_lald_e, o_lli_e, tl_n, tl_s, true_and, xnlv_i, xnlv_n, xnlv_r, xwt_0, xwt_f, xwt_i, xwt_l, xwt_r, le_nI (a := x.n) (b := c) (by omega) (by omega), h.1.cls, h.1.g0, h.1.g1, h.1.g2, h.1.g3, h.1.g4, h.1.g5, h.1.g6, h.1.g7, h.1.g8, h.1.g9, h.1.g10, h.1.g11, h.1.g12, h.1.g13, h.1.g14, h.1.g15, h.1.g16, h.1.g17, h.1.g18, h.1.g19, h.i0, h.i1, h.i2, h.i3, h.i4, h.i5, h.i6, h.i7, h.i8, h.i9, h.i10, h.j0, h.j1, h.j2, h.j3, h.j4, h.j5, h.j6, h.j7, h.j8, h.j9, h.j10, h.1.r_so (c := t) htl, e1, hs0, z1, lt0_nI (a := i) (by omega), h.1.r_sz (c := t) htl, e2, not_true_eq_false, not_false_eq_true, true_implies, false_implies, and_true, true_and, implies_true, forall_const, ↓reduceIte, Bool.false_eq_true, i10, i10n]
    refine ⟨fun g => by omega, fun _ => ?_⟩
    have ec : (nI i < nI (T.sz t) - nI c) = (i + c < T.sz t) := propext (by
      rw [Int32.lt_iff_toInt_lt, pk_sub_toInt (by omega) (by omega), nI_toInt (by omega)]
      omega)
    rw [ec]
    refine ⟨fun g => ?_, fun g => ?_⟩
    · have e3 := hT.2.2 t (i + c) htl (by omega)
      have e4 := propext (lg_cmp_eq (T.it t (i + c)) (lN (x.mk c)))
      simp only [eX7_judge_0, eX7_judge_1, eX7_judge_4, eX7_judge_7, eX7_judge_8, eX7_judge_9, eX7_judge_10, eX7_judge_13, eX7_judge_14, eX7_judge_15, eX7_judge_16, eX7_judge_19, eX7_judge_20, eX7_judge_23, eX7_judge_24, eX7_judge_25, eX7_judge_28, eX7_judge_30, eX7_judge_31, eX7_judge_32, eX7_judge_34, eX7_judge_35, eX7_judge_38, eX7_judge_41, eX7_judge_42, eX7_judge_45, eX7_judge_46, eX7_judge_47, eX7_judge_48, eX7_judge_51, eX7_judge_52, eX7_judge_55, eX7_judge_56, eX7_judge_57, eX7_judge_60, eX7_judge_61, eX7_judge_62, eX7_judge_63, eX7_judge_64, eX7_judge_67, eX7_judge_69, eX7_judge_70, eX7_judge_71, eX7_judge_72, eX7_judge_73, eX7_judge_76, eX7_judge_78, eX7_judge_79, eX7_judge_80, eX7_judge_81, eX7_judge_82, eX7_judge_83, eX7_judge_84, eX7_judge_85, eX7_judge_86, eX7_judge_89, eX7_judge_91, eX7_judge_92, eX7_judge_93, eX7_judge_94, eX7_judge_95, eX7_judge_96, eX7_judge_99, eX7_judge_100, eX7_judge_101, eX7_judge_104, eX7_judge_107, eX7_judge_109, Nat.add_zero, Nat.reduceAdd, Nat.reduceLeDiff, Nat.zero_le, and_true, o_aload_0r, o_callS_1, o_callV_0, o_const_e, o_getf_e, o_goto_e, o_iald_e, o_iald_f, o_icmp_e, o_if_e, o_ii_e, o_iinc_3, o_il_e, o_iload_1, o_iload_2, o_iload_3, o_iret_e, o_ist_3, o_lald_e, o_lli_e, tl_n, tl_s, true_and, xnlv_i, xnlv_n, xnlv_r, xwt_0, xwt_f, xwt_i, xwt_l, xwt_r, n60, n11, pk_mul, nI_add, Nat.add_assoc, h.1.r_it (c := 60 * t + (i + c)) (by omega), e3, h.rm (c := c) (by omega), nI_l (n := x.mk c) (by omega), e4, n1]
      refine ⟨fun g2 => ih (c + 1) (by omega) (jdF_s hj (by omega) g2), fun g2 => ?_⟩
      rw [jdF_hit hj (q := nI c) (by rw [if_neg (by omega), if_neg g2]) (by omega)] at k
      exact k
    · rw [n100, nI_add]
      rw [jdF_hit hj (q := nI (100 + c)) (by rw [if_pos (by omega)]) (by omega)] at k
      exact k
/-- judge(t, i) -/
theorem d_judge (h : MoL AH m s x r) (ok : x.ok) (hT : TpM T s) (okT : T.ok) {t i : Int32} {Q : Option Value → xH → Prop} (k : Q (some (.int (T.aJud x t i))) AH) : XC MX7_judge [.ref m, .int t, .int i] AH Q := by
  have hn := sLat.n36 ok
  have hn4 := sLat.n4 ok
  unfold sTp.aJud at k
  refine XC.ofR (L := [some (.ref m), some (.int t), some (.int i), none]) KX7_judge (by decide +kernel) (by first | decide | exact Nat.le_of_ble_eq_true rfl) rfl ?_
  simp only [eX7_judge_0, eX7_judge_1, eX7_judge_4, eX7_judge_7, eX7_judge_8, eX7_judge_9, eX7_judge_10, eX7_judge_13, eX7_judge_14, eX7_judge_15, eX7_judge_16, eX7_judge_19, eX7_judge_20, eX7_judge_23, eX7_judge_24, eX7_judge_25, eX7_judge_28, eX7_judge_30, eX7_judge_31, eX7_judge_32, eX7_judge_34, eX7_judge_35, eX7_judge_38, eX7_judge_41, eX7_judge_42, eX7_judge_45, eX7_judge_46, eX7_judge_47, eX7_judge_48, eX7_judge_51, eX7_judge_52, eX7_judge_55, eX7_judge_56, eX7_judge_57, eX7_judge_60, eX7_judge_61, eX7_judge_62, eX7_judge_63, eX7_judge_64, eX7_judge_67, eX7_judge_69, eX7_judge_70, eX7_judge_71, eX7_judge_72, eX7_judge_73, eX7_judge_76, eX7_judge_78, eX7_judge_79, eX7_judge_80, eX7_judge_81, eX7_judge_82, eX7_judge_83, eX7_judge_84, eX7_judge_85, eX7_judge_86, eX7_judge_89, eX7_judge_91, eX7_judge_92, eX7_judge_93, eX7_judge_94, eX7_judge_95, eX7_judge_96, eX7_judge_99, eX7_judge_100, eX7_judge_101, eX7_judge_104, eX7_judge_107, eX7_judge_109, Nat.add_zero, Nat.reduceAdd, Nat.reduceLeDiff, Nat.zero_le, and_true, o_aload_0r, o_callS_1, o_callV_0, o_const_e, o_getf_e, o_goto_e, o_iald_e, o_iald_f, o_icmp_e, o_if_e, o_ii_e, o_iinc_3, o_il_e, o_iload_1, o_iload_2, o_iload_3, o_iret_e, o_ist_3, o_lald_e, o_lli_e, tl_n, tl_s, true_and, xnlv_i, xnlv_n, xnlv_r, xwt_0, xwt_f, xwt_i, xwt_l, xwt_r]
  refine d_isTape ?_
  cases ht : ix 6 t with
  | none =>
    simp only [ht] at k
    simp only [eX7_judge_0, eX7_judge_1, eX7_judge_4, eX7_judge_7, eX7_judge_8, eX7_judge_9, eX7_judge_10, eX7_judge_13, eX7_judge_14, eX7_judge_15, eX7_judge_16, eX7_judge_19, eX7_judge_20, eX7_judge_23, eX7_judge_24, eX7_judge_25, eX7_judge_28, eX7_judge_30, eX7_judge_31, eX7_judge_32, eX7_judge_34, eX7_judge_35, eX7_judge_38, eX7_judge_41, eX7_judge_42, eX7_judge_45, eX7_judge_46, eX7_judge_47, eX7_judge_48, eX7_judge_51, eX7_judge_52, eX7_judge_55, eX7_judge_56, eX7_judge_57, eX7_judge_60, eX7_judge_61, eX7_judge_62, eX7_judge_63, eX7_judge_64, eX7_judge_67, eX7_judge_69, eX7_judge_70, eX7_judge_71, eX7_judge_72, eX7_judge_73, eX7_judge_76, eX7_judge_78, eX7_judge_79, eX7_judge_80, eX7_judge_81, eX7_judge_82, eX7_judge_83, eX7_judge_84, eX7_judge_85, eX7_judge_86, eX7_judge_89, eX7_judge_91, eX7_judge_92, eX7_judge_93, eX7_judge_94, eX7_judge_95, eX7_judge_96, eX7_judge_99, eX7_judge_100, eX7_judge_101, eX7_judge_104, eX7_judge_107, eX7_judge_109, Nat.add_zero, Nat.reduceAdd, Nat.reduceLeDiff, Nat.zero_le, and_true, o_aload_0r, o_callS_1, o_callV_0, o_const_e, o_getf_e, o_goto_e, o_iald_e, o_iald_f, o_icmp_e, o_if_e, o_ii_e, o_iinc_3, o_il_e, o_iload_1, o_iload_2, o_iload_3, o_iret_e, o_ist_3, o_lald_e, o_lli_e, tl_n, tl_s, true_and, xnlv_i, xnlv_n, xnlv_r, xwt_0, xwt_f, xwt_i, xwt_l, xwt_r, Option.isSome, not_true_eq_false, not_false_eq_true, true_implies, false_implies, and_true, true_and, implies_true, forall_const, ↓reduceIte, Bool.false_eq_true, i10, i10n]
    exact k
  | some t =>
    obtain ⟨htl, rfl⟩ := ix_s (by decide) ht
    simp only [ht] at k
    have hl := (okT t).1
    have e1 := hT.1 t htl
    have e2 := hT.2.1 t htl
    have fin : ∀ P : Prop, P → (T.so t = -1 ∨ ¬ (0 ≤ i.toInt ∧ i.toInt < T.sz t)) → Q (some (.int (nI 100))) AH → XR TX7_judge 33 [some (.ref m), some (.int (nI t)), some (.int i), some (.int (nI 0))] [] AH (0, 0) (fun v AH' _ => Q v AH') := by
      intro P _ hor k
      rw [eX7_judge_33]
      simp only [eX7_judge_0, eX7_judge_1, eX7_judge_4, eX7_judge_7, eX7_judge_8, eX7_judge_9, eX7_judge_10, eX7_judge_13, eX7_judge_14, eX7_judge_15, eX7_judge_16, eX7_judge_19, eX7_judge_20, eX7_judge_23, eX7_judge_24, eX7_judge_25, eX7_judge_28, eX7_judge_30, eX7_judge_31, eX7_judge_32, eX7_judge_34, eX7_judge_35, eX7_judge_38, eX7_judge_41, eX7_judge_42, eX7_judge_45, eX7_judge_46, eX7_judge_47, eX7_judge_48, eX7_judge_51, eX7_judge_52, eX7_judge_55, eX7_judge_56, eX7_judge_57, eX7_judge_60, eX7_judge_61, eX7_judge_62, eX7_judge_63, eX7_judge_64, eX7_judge_67, eX7_judge_69, eX7_judge_70, eX7_judge_71, eX7_judge_72, eX7_judge_73, eX7_judge_76, eX7_judge_78, eX7_judge_79, eX7_judge_80, eX7_judge_81, eX7_judge_82, eX7_judge_83, eX7_judge_84, eX7_judge_85, eX7_judge_86, eX7_judge_89, eX7_judge_91, eX7_judge_92, eX7_judge_93, eX7_judge_94, eX7_judge_95, eX7_judge_96, eX7_judge_99, eX7_judge_100, eX7_judge_101, eX7_judge_104, eX7_judge_107, eX7_judge_109, Nat.add_zero, Nat.reduceAdd, Nat.reduceLeDiff, Nat.zero_le, and_true, o_aload_0r, o_callS_1, o_callV_0, o_const_e, o_getf_e, o_goto_e, o_iald_e, o_iald_f, o_icmp_e, o_if_e, o_ii_e, o_iinc_3, o_il_e, o_iload_1, o_iload_2, o_iload_3, o_iret_e, o_ist_3, o_lald_e, o_lli_e, tl_n, tl_s, true_and, xnlv_i, xnlv_n, xnlv_r, xwt_0, xwt_f, xwt_i, xwt_l, xwt_r, h.1.cls, h.1.g0, h.1.g1, h.1.g2, h.1.g3, h.1.g4, h.1.g5, h.1.g6, h.1.g7, h.1.g8, h.1.g9, h.1.g10, h.1.g11, h.1.g12, h.1.g13, h.1.g14, h.1.g15, h.1.g16, h.1.g17, h.1.g18, h.1.g19, h.i0, h.i1, h.i2, h.i3, h.i4, h.i5, h.i6, h.i7, h.i8, h.i9, h.i10, h.j0, h.j1, h.j2, h.j3, h.j4, h.j5, h.j6, h.j7, h.j8, h.j9, h.j10]
      refine d_cells h ?_
      simp only [eX7_judge_0, eX7_judge_1, eX7_judge_4, eX7_judge_7, eX7_judge_8, eX7_judge_9, eX7_judge_10, eX7_judge_13, eX7_judge_14, eX7_judge_15, eX7_judge_16, eX7_judge_19, eX7_judge_20, eX7_judge_23, eX7_judge_24, eX7_judge_25, eX7_judge_28, eX7_judge_30, eX7_judge_31, eX7_judge_32, eX7_judge_34, eX7_judge_35, eX7_judge_38, eX7_judge_41, eX7_judge_42, eX7_judge_45, eX7_judge_46, eX7_judge_47, eX7_judge_48, eX7_judge_51, eX7_judge_52, eX7_judge_55, eX7_judge_56, eX7_judge_57, eX7_judge_60, eX7_judge_61, eX7_judge_62, eX7_judge_63, eX7_judge_64, eX7_judge_67, eX7_judge_69, eX7_judge_70, eX7_judge_71, eX7_judge_72, eX7_judge_73, eX7_judge_76, eX7_judge_78, eX7_judge_79, eX7_judge_80, eX7_judge_81, eX7_judge_82, eX7_judge_83, eX7_judge_84, eX7_judge_85, eX7_judge_86, eX7_judge_89, eX7_judge_91, eX7_judge_92, eX7_judge_93, eX7_judge_94, eX7_judge_95, eX7_judge_96, eX7_judge_99, eX7_judge_100, eX7_judge_101, eX7_judge_104, eX7_judge_107, eX7_judge_109, Nat.add_zero, Nat.reduceAdd, Nat.reduceLeDiff, Nat.zero_le, and_true, o_aload_0r, o_callS_1, o_callV_0, o_const_e, o_getf_e, o_goto_e, o_iald_e, o_iald_f, o_icmp_e, o_if_e, o_ii_e, o_iinc_3, o_il_e, o_iload_1, o_iload_2, o_iload_3, o_iret_e, o_ist_3, o_lald_e, o_lli_e, tl_n, tl_s, true_and, xnlv_i, xnlv_n, xnlv_r, xwt_0, xwt_f, xwt_i, xwt_l, xwt_r, le_nI (a := x.n) (b := 0) (by omega) (by omega), h.1.cls, h.1.g0, h.1.g1, h.1.g2, h.1.g3, h.1.g4, h.1.g5, h.1.g6, h.1.g7, h.1.g8, h.1.g9, h.1.g10, h.1.g11, h.1.g12, h.1.g13, h.1.g14, h.1.g15, h.1.g16, h.1.g17, h.1.g18, h.1.g19, h.i0, h.i1, h.i2, h.i3, h.i4, h.i5, h.i6, h.i7, h.i8, h.i9, h.i10, h.j0, h.j1, h.j2, h.j3, h.j4, h.j5, h.j6, h.j7, h.j8, h.j9, h.j10, h.1.r_so (c := t) htl, e1, h.1.r_sz (c := t) htl, e2, n100, nI_add, pk_sub (a := T.sz t) (b := 0) (Nat.zero_le _)]
      refine ⟨fun g => by omega, fun _ => ⟨fun _ => k, fun g1 => ⟨fun _ => k, fun g2 => ⟨fun g3 => ?_, fun _ => k⟩⟩⟩⟩
      rw [lt_neg] at g2
      rw [Int32.lt_iff_toInt_lt, nI_toInt (by omega)] at g3
      rcases hor with hor | hor
      · exact absurd hor g1
      · omega
    simp only [eX7_judge_0, eX7_judge_1, eX7_judge_4, eX7_judge_7, eX7_judge_8, eX7_judge_9, eX7_judge_10, eX7_judge_13, eX7_judge_14, eX7_judge_15, eX7_judge_16, eX7_judge_19, eX7_judge_20, eX7_judge_23, eX7_judge_24, eX7_judge_25, eX7_judge_28, eX7_judge_30, eX7_judge_31, eX7_judge_32, eX7_judge_34, eX7_judge_35, eX7_judge_38, eX7_judge_41, eX7_judge_42, eX7_judge_45, eX7_judge_46, eX7_judge_47, eX7_judge_48, eX7_judge_51, eX7_judge_52, eX7_judge_55, eX7_judge_56, eX7_judge_57, eX7_judge_60, eX7_judge_61, eX7_judge_62, eX7_judge_63, eX7_judge_64, eX7_judge_67, eX7_judge_69, eX7_judge_70, eX7_judge_71, eX7_judge_72, eX7_judge_73, eX7_judge_76, eX7_judge_78, eX7_judge_79, eX7_judge_80, eX7_judge_81, eX7_judge_82, eX7_judge_83, eX7_judge_84, eX7_judge_85, eX7_judge_86, eX7_judge_89, eX7_judge_91, eX7_judge_92, eX7_judge_93, eX7_judge_94, eX7_judge_95, eX7_judge_96, eX7_judge_99, eX7_judge_100, eX7_judge_101, eX7_judge_104, eX7_judge_107, eX7_judge_109, Nat.add_zero, Nat.reduceAdd, Nat.reduceLeDiff, Nat.zero_le, and_true, o_aload_0r, o_callS_1, o_callV_0, o_const_e, o_getf_e, o_goto_e, o_iald_e, o_iald_f, o_icmp_e, o_if_e, o_ii_e, o_iinc_3, o_il_e, o_iload_1, o_iload_2, o_iload_3, o_iret_e, o_ist_3, o_lald_e, o_lli_e, tl_n, tl_s, true_and, xnlv_i, xnlv_n, xnlv_r, xwt_0, xwt_f, xwt_i, xwt_l, xwt_r, Option.isSome, not_true_eq_false, not_false_eq_true, true_implies, false_implies, and_true, true_and, implies_true, forall_const, ↓reduceIte, Bool.false_eq_true, i10, i10n, h.1.cls, h.1.g0, h.1.g1, h.1.g2, h.1.g3, h.1.g4, h.1.g5, h.1.g6, h.1.g7, h.1.g8, h.1.g9, h.1.g10, h.1.g11, h.1.g12, h.1.g13, h.1.g14, h.1.g15, h.1.g16, h.1.g17, h.1.g18, h.1.g19, h.i0, h.i1, h.i2, h.i3, h.i4, h.i5, h.i6, h.i7, h.i8, h.i9, h.i10, h.j0, h.j1, h.j2, h.j3, h.j4, h.j5, h.j6, h.j7, h.j8, h.j9, h.j10, h.1.r_so (c := t) htl, e1, z_nI, i1z]
    by_cases a1 : T.so t = -1
    · rw [if_pos a1] at k
      exact ⟨fun _ => fin True trivial (Or.inl a1) k, fun g => absurd a1 g⟩
    rw [if_neg a1] at k
    refine ⟨fun g => absurd g a1, fun _ => ?_⟩
    by_cases a2 : T.so t = 0
    · rw [if_neg (fun z => z a2)] at k
      refine ⟨fun _ => ?_, fun g => absurd a2 g⟩
      cases hi : ix 60 i with
      | none =>
        simp only [hi] at k
        have hi := (ix_iff (by decide)).mp hi
        exact fin True trivial (Or.inr (by omega)) k
      | some i =>
        obtain ⟨hil, rfl⟩ := ix_s (by decide) hi
        simp only [hi] at k
        exact k_jud h ok hT htl hil hl a2 k x.n 0 (by omega) rfl
    · rw [if_pos a2] at k
      exact ⟨fun g => absurd g a2, fun _ => k⟩
/-- image() -/
theorem d_image (h : MoL AH m s x r) (ok : x.ok) (hz : ∀ i, 113 ≤ i → s.im i = 0) {Q : Option Value → xH → Prop} (k : Q (some (.int (nI x.B))) (modP AH m ((s.wim (nF x r)).whI 1))) : XC MX7_image [.ref m] AH Q := by
  refine XC.ofR (L := [some (.ref m)]) KX7_image (by decide +kernel) (by first | decide | exact Nat.le_of_ble_eq_true rfl) rfl ?_
  simp only [eX7_image_0, eX7_image_1, eX7_image_4, eX7_image_5, eX7_image_6, eX7_image_9, eX7_image_10, eX7_image_12, eX7_image_15, eX7_image_16, eX7_image_17, eX7_image_20, eX7_image_21, eX7_image_24, Nat.add_zero, Nat.reduceAdd, Nat.reduceLeDiff, Nat.zero_le, and_true, o_aload_0r, o_callV_0, o_const_e, o_copy_e, o_getf_e, o_iret_e, o_putf_e, tl_n, tl_s, true_and, xfit_a, xfit_i, xfit_l, xfit_o, xwt_0, xwt_f, xwt_i, xwt_l, xwt_r, h.1.cls, h.1.g0, h.1.g1, h.1.g2, h.1.g3, h.1.g4, h.1.g5, h.1.g6, h.1.g7, h.1.g8, h.1.g9, h.1.g10, h.1.g11, h.1.g12, h.1.g13, h.1.g14, h.1.g15, h.1.g16, h.1.g17, h.1.g18, h.1.g19, h.i0, h.i1, h.i2, h.i3, h.i4, h.i5, h.i6, h.i7, h.i8, h.i9, h.i10, h.j0, h.j1, h.j2, h.j3, h.j4, h.j5, h.j6, h.j7, h.j8, h.j9, h.j10, z_nI, n113, xcpy_of (h.1 1 _ rfl) (h.1 3 _ rfl) (show 0 + 113 ≤ 113 by decide) (show 0 + 113 ≤ 113 by decide) (by decide) (by decide), h.1.a_im]
  rw [h.2, cpy_nF (fun i hi => nF_out hi) hz]
  have hA : ModAt (modP AH m (s.wim (nF x r))) m (s.wim (nF x r)) := h.1.put _
  have hB : MoL (modP AH m ((s.wim (nF x r)).whI 1)) m ((s.wim (nF x r)).whI 1) x r := ⟨h.1.put _, h.2⟩
  simp only [eX7_image_0, eX7_image_1, eX7_image_4, eX7_image_5, eX7_image_6, eX7_image_9, eX7_image_10, eX7_image_12, eX7_image_15, eX7_image_16, eX7_image_17, eX7_image_20, eX7_image_21, eX7_image_24, Nat.add_zero, Nat.reduceAdd, Nat.reduceLeDiff, Nat.zero_le, and_true, o_aload_0r, o_callV_0, o_const_e, o_copy_e, o_getf_e, o_iret_e, o_putf_e, tl_n, tl_s, true_and, xfit_a, xfit_i, xfit_l, xfit_o, xwt_0, xwt_f, xwt_i, xwt_l, xwt_r, hA.p_hI, xfit_z, modP_modP h.1.lt, hB.1.cls, eq_self, or_true, true_and]
  refine d_border hB ok ?_
  simp only [eX7_image_0, eX7_image_1, eX7_image_4, eX7_image_5, eX7_image_6, eX7_image_9, eX7_image_10, eX7_image_12, eX7_image_15, eX7_image_16, eX7_image_17, eX7_image_20, eX7_image_21, eX7_image_24, Nat.add_zero, Nat.reduceAdd, Nat.reduceLeDiff, Nat.zero_le, and_true, o_aload_0r, o_callV_0, o_const_e, o_copy_e, o_getf_e, o_iret_e, o_putf_e, tl_n, tl_s, true_and, xfit_a, xfit_i, xfit_l, xfit_o, xwt_0, xwt_f, xwt_i, xwt_l, xwt_r]
  exact k
/-- undo() -/
theorem d_undo0 (h : ModAt AH m s) (h0 : s.hI = 0) {Q : Option Value → xH → Prop} (k : Q (some (.int (-3))) AH) : XC MX7_undo [.ref m] AH Q := by
  refine XC.ofR (L := [some (.ref m)]) KX7_undo (by decide +kernel) (by first | decide | exact Nat.le_of_ble_eq_true rfl) rfl ?_
  simp only [eX7_undo_0, eX7_undo_1, eX7_undo_4, eX7_undo_7, eX7_undo_9, eX7_undo_10, eX7_undo_11, eX7_undo_14, eX7_undo_15, eX7_undo_16, eX7_undo_19, eX7_undo_20, eX7_undo_22, eX7_undo_25, eX7_undo_26, eX7_undo_29, Nat.add_zero, Nat.reduceAdd, Nat.reduceLeDiff, Nat.zero_le, and_true, o_aload_0r, o_callV_0, o_const_e, o_copy_e, o_getf_e, o_if_e, o_iret_e, tl_n, tl_s, true_and, xwt_0, xwt_f, xwt_i, xwt_l, xwt_r, h.g3, h0, eq_self, not_true_eq_false, not_false_eq_true, true_implies, false_implies, and_true, true_and, implies_true, forall_const, ↓reduceIte, Bool.false_eq_true, i10, i10n]
  exact k
theorem d_undo1 (h : ModAt AH m s) (h1 : s.hI = 1) {y : sLat} {r2 : sRow} (hi : s.im = nF y r2) (oy : y.ok) (hz : ∀ i, 113 ≤ i → s.nw i = 0) {Q : Option Value → xH → Prop} (k : Q (some (.int (nI y.B))) (modP AH m (s.wnw (nF y r2)))) : XC MX7_undo [.ref m] AH Q := by
  have e1 : ((1 : Int32) = 0) = False := eq_false (by decide)
  refine XC.ofR (L := [some (.ref m)]) KX7_undo (by decide +kernel) (by first | decide | exact Nat.le_of_ble_eq_true rfl) rfl ?_
  simp only [eX7_undo_0, eX7_undo_1, eX7_undo_4, eX7_undo_7, eX7_undo_9, eX7_undo_10, eX7_undo_11, eX7_undo_14, eX7_undo_15, eX7_undo_16, eX7_undo_19, eX7_undo_20, eX7_undo_22, eX7_undo_25, eX7_undo_26, eX7_undo_29, Nat.add_zero, Nat.reduceAdd, Nat.reduceLeDiff, Nat.zero_le, and_true, o_aload_0r, o_callV_0, o_const_e, o_copy_e, o_getf_e, o_if_e, o_iret_e, tl_n, tl_s, true_and, xwt_0, xwt_f, xwt_i, xwt_l, xwt_r, h.g3, h1, e1, i1z, not_true_eq_false, not_false_eq_true, true_implies, false_implies, and_true, true_and, implies_true, forall_const, ↓reduceIte, Bool.false_eq_true, i10, i10n, h.g0, h.g2, z_nI, n113, xcpy_of (h 3 _ rfl) (h 1 _ rfl) (show 0 + 113 ≤ 113 by decide) (show 0 + 113 ≤ 113 by decide) (by decide) (by decide), h.a_nw]
  rw [hi, cpy_nF (fun i hi => nF_out hi) hz]
  have hB : MoL (modP AH m (s.wnw (nF y r2))) m (s.wnw (nF y r2)) y r2 := ⟨h.put _, rfl⟩
  simp only [eX7_undo_0, eX7_undo_1, eX7_undo_4, eX7_undo_7, eX7_undo_9, eX7_undo_10, eX7_undo_11, eX7_undo_14, eX7_undo_15, eX7_undo_16, eX7_undo_19, eX7_undo_20, eX7_undo_22, eX7_undo_25, eX7_undo_26, eX7_undo_29, Nat.add_zero, Nat.reduceAdd, Nat.reduceLeDiff, Nat.zero_le, and_true, o_aload_0r, o_callV_0, o_const_e, o_copy_e, o_getf_e, o_if_e, o_iret_e, tl_n, tl_s, true_and, xwt_0, xwt_f, xwt_i, xwt_l, xwt_r, hB.1.cls, true_and]
  refine d_border hB oy ?_
  simp only [eX7_undo_0, eX7_undo_1, eX7_undo_4, eX7_undo_7, eX7_undo_9, eX7_undo_10, eX7_undo_11, eX7_undo_14, eX7_undo_15, eX7_undo_16, eX7_undo_19, eX7_undo_20, eX7_undo_22, eX7_undo_25, eX7_undo_26, eX7_undo_29, Nat.add_zero, Nat.reduceAdd, Nat.reduceLeDiff, Nat.zero_le, and_true, o_aload_0r, o_callV_0, o_const_e, o_copy_e, o_getf_e, o_if_e, o_iret_e, tl_n, tl_s, true_and, xwt_0, xwt_f, xwt_i, xwt_l, xwt_r]
  exact k
/-- count(what) -/
def aCnt (p : sRw) (n : Nat) (w : Int32) : Int32 := match ix 4 w with
  | none => -2
  | some 0 => nI p.S.2
  | some 1 => nI p.E.2
  | some 2 => nI p.K.2
  | some _ => nI n
theorem d_count (h : MoL AH m s x r) {p : sRw} (hR : RwM p r) {n : Nat} (hw : s.wr = nI n) {w : Int32} {Q : Option Value → xH → Prop} (k : Q (some (.int (aCnt p n w))) AH) : XC MX7_count [.ref m, .int w] AH Q := by
  unfold aCnt at k
  refine XC.ofR (L := [some (.ref m), some (.int w)]) KX7_count (by decide +kernel) (by first | decide | exact Nat.le_of_ble_eq_true rfl) rfl ?_
  cases hc : ix 4 w with
  | none =>
    simp only [hc] at k
    simp only [eX7_count_0, eX7_count_1, eX7_count_32, eX7_count_33, eX7_count_36, eX7_count_38, eX7_count_39, eX7_count_40, eX7_count_41, eX7_count_44, eX7_count_46, eX7_count_47, eX7_count_48, eX7_count_49, eX7_count_52, eX7_count_54, eX7_count_55, eX7_count_56, eX7_count_57, eX7_count_60, eX7_count_61, eX7_count_63, o_aload_0r, o_const_e, o_getf_e, o_iald_e, o_iald_f, o_iload_1, o_iret_e, o_sw_e, xsw_0, xsw_1, z_nI, n1, n2, n3, ix_ne hc (j := 0) (by decide) (by decide), ix_ne hc (j := 1) (by decide) (by decide), ix_ne hc (j := 2) (by decide) (by decide), ix_ne hc (j := 3) (by decide) (by decide), not_true_eq_false, not_false_eq_true, true_implies, false_implies, and_true, true_and, implies_true, forall_const]
    exact k
  | some i =>
    obtain ⟨hi, rfl⟩ := ix_s (by decide) hc
    have r1 := hR.1
    have r2 := hR.2.1
    have r3 := hR.2.2.1
    rcases (show i = 0 ∨ i = 1 ∨ i = 2 ∨ i = 3 by omega) with rfl | rfl | rfl | rfl <;> simp only [hc] at k
    · simp only [eX7_count_0, eX7_count_1, eX7_count_32, eX7_count_33, eX7_count_36, eX7_count_38, eX7_count_39, eX7_count_40, eX7_count_41, eX7_count_44, eX7_count_46, eX7_count_47, eX7_count_48, eX7_count_49, eX7_count_52, eX7_count_54, eX7_count_55, eX7_count_56, eX7_count_57, eX7_count_60, eX7_count_61, eX7_count_63, o_aload_0r, o_const_e, o_getf_e, o_iald_e, o_iald_f, o_iload_1, o_iret_e, o_sw_e, xsw_0, xsw_1, z_nI, n1, n2, n3, n4, n5, n6, n7, n8, n9, n10, n11, n12, eq_nI, Nat.reducePow, Nat.reduceLT, Nat.reduceEqDiff, reduceCtorEq, Nat.succ_ne_zero, Nat.one_ne_zero, eq_self, not_true_eq_false, not_false_eq_true, true_implies, false_implies, and_true, true_and, implies_true, forall_const, h.1.cls, h.1.g0, h.1.g1, h.1.g2, h.1.g3, h.1.g4, h.1.g5, h.1.g6, h.1.g7, h.1.g8, h.1.g9, h.1.g10, h.1.g11, h.1.g12, h.1.g13, h.1.g14, h.1.g15, h.1.g16, h.1.g17, h.1.g18, h.1.g19, h.i0, h.i1, h.i2, h.i3, h.i4, h.i5, h.i6, h.i7, h.i8, h.i9, h.i10, h.j0, h.j1, h.j2, h.j3, h.j4, h.j5, h.j6, h.j7, h.j8, h.j9, h.j10, r1]
      exact k
    · simp only [eX7_count_0, eX7_count_1, eX7_count_32, eX7_count_33, eX7_count_36, eX7_count_38, eX7_count_39, eX7_count_40, eX7_count_41, eX7_count_44, eX7_count_46, eX7_count_47, eX7_count_48, eX7_count_49, eX7_count_52, eX7_count_54, eX7_count_55, eX7_count_56, eX7_count_57, eX7_count_60, eX7_count_61, eX7_count_63, o_aload_0r, o_const_e, o_getf_e, o_iald_e, o_iald_f, o_iload_1, o_iret_e, o_sw_e, xsw_0, xsw_1, z_nI, n1, n2, n3, n4, n5, n6, n7, n8, n9, n10, n11, n12, eq_nI, Nat.reducePow, Nat.reduceLT, Nat.reduceEqDiff, reduceCtorEq, Nat.succ_ne_zero, Nat.one_ne_zero, eq_self, not_true_eq_false, not_false_eq_true, true_implies, false_implies, and_true, true_and, implies_true, forall_const, h.1.cls, h.1.g0, h.1.g1, h.1.g2, h.1.g3, h.1.g4, h.1.g5, h.1.g6, h.1.g7, h.1.g8, h.1.g9, h.1.g10, h.1.g11, h.1.g12, h.1.g13, h.1.g14, h.1.g15, h.1.g16, h.1.g17, h.1.g18, h.1.g19, h.i0, h.i1, h.i2, h.i3, h.i4, h.i5, h.i6, h.i7, h.i8, h.i9, h.i10, h.j0, h.j1, h.j2, h.j3, h.j4, h.j5, h.j6, h.j7, h.j8, h.j9, h.j10, r2]
      exact k
    · simp only [eX7_count_0, eX7_count_1, eX7_count_32, eX7_count_33, eX7_count_36, eX7_count_38, eX7_count_39, eX7_count_40, eX7_count_41, eX7_count_44, eX7_count_46, eX7_count_47, eX7_count_48, eX7_count_49, eX7_count_52, eX7_count_54, eX7_count_55, eX7_count_56, eX7_count_57, eX7_count_60, eX7_count_61, eX7_count_63, o_aload_0r, o_const_e, o_getf_e, o_iald_e, o_iald_f, o_iload_1, o_iret_e, o_sw_e, xsw_0, xsw_1, z_nI, n1, n2, n3, n4, n5, n6, n7, n8, n9, n10, n11, n12, eq_nI, Nat.reducePow, Nat.reduceLT, Nat.reduceEqDiff, reduceCtorEq, Nat.succ_ne_zero, Nat.one_ne_zero, eq_self, not_true_eq_false, not_false_eq_true, true_implies, false_implies, and_true, true_and, implies_true, forall_const, h.1.cls, h.1.g0, h.1.g1, h.1.g2, h.1.g3, h.1.g4, h.1.g5, h.1.g6, h.1.g7, h.1.g8, h.1.g9, h.1.g10, h.1.g11, h.1.g12, h.1.g13, h.1.g14, h.1.g15, h.1.g16, h.1.g17, h.1.g18, h.1.g19, h.i0, h.i1, h.i2, h.i3, h.i4, h.i5, h.i6, h.i7, h.i8, h.i9, h.i10, h.j0, h.j1, h.j2, h.j3, h.j4, h.j5, h.j6, h.j7, h.j8, h.j9, h.j10, r3]
      exact k
    · simp only [eX7_count_0, eX7_count_1, eX7_count_32, eX7_count_33, eX7_count_36, eX7_count_38, eX7_count_39, eX7_count_40, eX7_count_41, eX7_count_44, eX7_count_46, eX7_count_47, eX7_count_48, eX7_count_49, eX7_count_52, eX7_count_54, eX7_count_55, eX7_count_56, eX7_count_57, eX7_count_60, eX7_count_61, eX7_count_63, o_aload_0r, o_const_e, o_getf_e, o_iald_e, o_iald_f, o_iload_1, o_iret_e, o_sw_e, xsw_0, xsw_1, z_nI, n1, n2, n3, n4, n5, n6, n7, n8, n9, n10, n11, n12, eq_nI, Nat.reducePow, Nat.reduceLT, Nat.reduceEqDiff, reduceCtorEq, Nat.succ_ne_zero, Nat.one_ne_zero, eq_self, not_true_eq_false, not_false_eq_true, true_implies, false_implies, and_true, true_and, implies_true, forall_const, h.1.cls, h.1.g0, h.1.g1, h.1.g2, h.1.g3, h.1.g4, h.1.g5, h.1.g6, h.1.g7, h.1.g8, h.1.g9, h.1.g10, h.1.g11, h.1.g12, h.1.g13, h.1.g14, h.1.g15, h.1.g16, h.1.g17, h.1.g18, h.1.g19, h.i0, h.i1, h.i2, h.i3, h.i4, h.i5, h.i6, h.i7, h.i8, h.i9, h.i10, h.j0, h.j1, h.j2, h.j3, h.j4, h.j5, h.j6, h.j7, h.j8, h.j9, h.j10, hw]
      exact k
end TAPE3
