/-! hundredths of all tries; cooling -/
def sLat.hF (x : sLat) (c d : Nat) : Nat := match x.nb c d with
  | none => 0
  | some j => x.ch c (x.mk j)
def sLat.oR (x : sLat) (c : Nat) : Nat := sm (x.hF c) x.nd
def sLat.oS (x : sLat) : Nat := sm x.oR x.n
theorem hF_le {x : sLat} (ok : x.ok) {c d : Nat} : x.hF c d ≤ 100 := by
  unfold sLat.hF
  split
  · omega
  · exact ch_le ok
theorem oR_le {x : sLat} (ok : x.ok) {c : Nat} : x.oR c ≤ 800 := by
  have h1 := sm_le (f := x.hF c) (B := 100) (fun i => hF_le ok) x.nd
  have h2 := sLat.nd8 (x := x)
  have h3 : x.nd * 100 ≤ 8 * 100 := Nat.mul_le_mul_right 100 h2
  unfold sLat.oR
  omega
/-- a mask of the marks around -/
def sLat.ar (x : sLat) (c : Nat) : Nat → Nat
  | 0 => 0
  | d + 1 => match x.nb c d with
    | none => x.ar c d
    | some j => x.ar c d ||| 2 ^ x.mk j
theorem or_lt : ∀ a, a < 256 → ∀ m, m < 8 → a ||| 2 ^ m < 256 := fun a ha m hm => Nat.or_lt_two_pow (n := 8) ha (Nat.pow_lt_pow_right (by decide) hm)
theorem ar_lt {x : sLat} (ok : x.ok) {c : Nat} : ∀ d, x.ar c d < 256
  | 0 => show 0 < 256 by decide
  | d + 1 => by
    unfold sLat.ar
    split
    · exact ar_lt ok d
    · exact or_lt _ (ar_lt ok d) _ (ok.1 _)
theorem ar_bit {x : sLat} {c v : Nat} : ∀ d, (x.ar c d).testBit v = x.hasB c v d
  | 0 => by simp [sLat.ar, sLat.hasB]
  | d + 1 => by
    unfold sLat.ar sLat.hasB
    split
    · rename_i e
      rw [ar_bit d]
      simp [e]
    · rename_i z e
      rw [Nat.testBit_or, ar_bit d, Nat.testBit_two_pow]
      simp only [e]
      rfl
theorem shl_t : ∀ m, m < 8 → (1 : Int32) <<< (nI m &&& 31) = nI (2 ^ m) := by decide +kernel
theorem or_t : ∀ a, a < 256 → ∀ m, m < 8 → nI a ||| nI (2 ^ m) = nI (a ||| 2 ^ m) := by decide +kernel
theorem shr_t : ∀ a, a < 256 → ∀ v, v < 8 → ((nI a >>> (nI v &&& 31)) &&& 1 = 0) = (a.testBit v = false) := fun a ha v hv => propext ((show ∀ a, a < 256 → ∀ v, v < 8 → (((nI a >>> (nI v &&& 31)) &&& 1 = 0) ↔ (a.testBit v = false)) by decide +kernel) a ha v hv)
section LAT3
variable {AH : xH} {b : Nat} {x : sLat} {lk pr : Nat → Int32}
/-- Lattice.hundredthsOfAllTries(): the inner loop -/
theorem l_hund1 (h : LatAt AH b x lk pr) (ok : x.ok) (hk : LkOK x lk) (hp : PrOK x pr) {c t : Nat} (ht : t ≤ 100000) (hc : c < x.n) {Q : xQ} (k : ∀ w2 : Option Value, XR TX1_hundredthsOfAllTries 65 [some (.ref b), some (.long (lN (t + x.oR c))), none, some (.int (nI c)), some (.int (nI x.nd)), w2] [] AH (0, 0) Q) : ∀ (m j : Nat), j + m = x.nd → ∀ w2 : Option Value,
    XR TX1_hundredthsOfAllTries 15 [some (.ref b), some (.long (lN (t + sm (x.hF c) j))), none, some (.int (nI c)), some (.int (nI j)), w2] [] AH (0, 0) Q := by
  have hn := sLat.n36 ok
  have hnd := sLat.nd8 (x := x)
  intro m
  induction m with
  | zero =>
    intro j hj w2
    rw [eX1_hundredthsOfAllTries_15]
    simp only [eX1_hundredthsOfAllTries_0, eX1_hundredthsOfAllTries_1, eX1_hundredthsOfAllTries_2, eX1_hundredthsOfAllTries_3, eX1_hundredthsOfAllTries_4, eX1_hundredthsOfAllTries_5, eX1_hundredthsOfAllTries_6, eX1_hundredthsOfAllTries_9, eX1_hundredthsOfAllTries_12, eX1_hundredthsOfAllTries_13, eX1_hundredthsOfAllTries_17, eX1_hundredthsOfAllTries_18, eX1_hundredthsOfAllTries_21, eX1_hundredthsOfAllTries_24, eX1_hundredthsOfAllTries_25, eX1_hundredthsOfAllTries_28, eX1_hundredthsOfAllTries_29, eX1_hundredthsOfAllTries_31, eX1_hundredthsOfAllTries_32, eX1_hundredthsOfAllTries_34, eX1_hundredthsOfAllTries_35, eX1_hundredthsOfAllTries_36, eX1_hundredthsOfAllTries_38, eX1_hundredthsOfAllTries_40, eX1_hundredthsOfAllTries_43, eX1_hundredthsOfAllTries_44, eX1_hundredthsOfAllTries_45, eX1_hundredthsOfAllTries_46, eX1_hundredthsOfAllTries_47, eX1_hundredthsOfAllTries_50, eX1_hundredthsOfAllTries_52, eX1_hundredthsOfAllTries_53, eX1_hundredthsOfAllTries_56, eX1_hundredthsOfAllTries_57, eX1_hundredthsOfAllTries_58, eX1_hundredthsOfAllTries_59, eX1_hundredthsOfAllTries_62, eX1_hundredthsOfAllTries_68, eX1_hundredthsOfAllTries_71, eX1_hundredthsOfAllTries_72, Nat.add_zero, Nat.reduceAdd, Nat.reduceLeDiff, Nat.zero_le, and_true, o_aload_0r, o_callV_0, o_callV_2, o_const_e, o_getf_e, o_goto_e, o_iald_e, o_iald_f, o_icmp_e, o_if_e, o_ii_e, o_iinc_3, o_iinc_4, o_il_e, o_iload_3, o_iload_4, o_iload_5, o_ist_3, o_ist_4, o_ist_5, o_ll_e, o_lload_1, o_lret_e, o_lst_1, tl_n, tl_s, true_and, xnlv_i, xnlv_n, xnlv_r, xwt_0, xwt_f, xwt_i, xwt_l, xwt_r, h.cls, h.g0, h.g1, h.g2, h.g3, h.g4, h.g5, h.g6, h.g7, h.g8, h.g9, h.g10, h.g11]
    refine c_directions h ok ?_
    simp only [eX1_hundredthsOfAllTries_0, eX1_hundredthsOfAllTries_1, eX1_hundredthsOfAllTries_2, eX1_hundredthsOfAllTries_3, eX1_hundredthsOfAllTries_4, eX1_hundredthsOfAllTries_5, eX1_hundredthsOfAllTries_6, eX1_hundredthsOfAllTries_9, eX1_hundredthsOfAllTries_12, eX1_hundredthsOfAllTries_13, eX1_hundredthsOfAllTries_17, eX1_hundredthsOfAllTries_18, eX1_hundredthsOfAllTries_21, eX1_hundredthsOfAllTries_24, eX1_hundredthsOfAllTries_25, eX1_hundredthsOfAllTries_28, eX1_hundredthsOfAllTries_29, eX1_hundredthsOfAllTries_31, eX1_hundredthsOfAllTries_32, eX1_hundredthsOfAllTries_34, eX1_hundredthsOfAllTries_35, eX1_hundredthsOfAllTries_36, eX1_hundredthsOfAllTries_38, eX1_hundredthsOfAllTries_40, eX1_hundredthsOfAllTries_43, eX1_hundredthsOfAllTries_44, eX1_hundredthsOfAllTries_45, eX1_hundredthsOfAllTries_46, eX1_hundredthsOfAllTries_47, eX1_hundredthsOfAllTries_50, eX1_hundredthsOfAllTries_52, eX1_hundredthsOfAllTries_53, eX1_hundredthsOfAllTries_56, eX1_hundredthsOfAllTries_57, eX1_hundredthsOfAllTries_58, eX1_hundredthsOfAllTries_59, eX1_hundredthsOfAllTries_62, eX1_hundredthsOfAllTries_68, eX1_hundredthsOfAllTries_71, eX1_hundredthsOfAllTries_72, Nat.add_zero, Nat.reduceAdd, Nat.reduceLeDiff, Nat.zero_le, and_true, o_aload_0r, o_callV_0, o_callV_2, o_const_e, o_getf_e, o_goto_e, o_iald_e, o_iald_f, o_icmp_e, o_if_e, o_ii_e, o_iinc_3, o_iinc_4, o_il_e, o_iload_3, o_iload_4, o_iload_5, o_ist_3, o_ist_4, o_ist_5, o_ll_e, o_lload_1, o_lret_e, o_lst_1, tl_n, tl_s, true_and, xnlv_i, xnlv_n, xnlv_r, xwt_0, xwt_f, xwt_i, xwt_l, xwt_r, h.cls, h.g0, h.g1, h.g2, h.g3, h.g4, h.g5, h.g6, h.g7, h.g8, h.g9, h.g10, h.g11, le_nI (a := x.nd) (b := j) (by omega) (by omega)]
    refine ⟨fun _ => ?_, fun g => by omega⟩
    rw [show j = x.nd by omega]
    exact k w2
  | succ m ih =>
    intro j hj w2
    rw [eX1_hundredthsOfAllTries_15]
    simp only [eX1_hundredthsOfAllTries_0, eX1_hundredthsOfAllTries_1, eX1_hundredthsOfAllTries_2, eX1_hundredthsOfAllTries_3, eX1_hundredthsOfAllTries_4, eX1_hundredthsOfAllTries_5, eX1_hundredthsOfAllTries_6, eX1_hundredthsOfAllTries_9, eX1_hundredthsOfAllTries_12, eX1_hundredthsOfAllTries_13, eX1_hundredthsOfAllTries_17, eX1_hundredthsOfAllTries_18, eX1_hundredthsOfAllTries_21, eX1_hundredthsOfAllTries_24, eX1_hundredthsOfAllTries_25, eX1_hundredthsOfAllTries_28, eX1_hundredthsOfAllTries_29, eX1_hundredthsOfAllTries_31, eX1_hundredthsOfAllTries_32, eX1_hundredthsOfAllTries_34, eX1_hundredthsOfAllTries_35, eX1_hundredthsOfAllTries_36, eX1_hundredthsOfAllTries_38, eX1_hundredthsOfAllTries_40, eX1_hundredthsOfAllTries_43, eX1_hundredthsOfAllTries_44, eX1_hundredthsOfAllTries_45, eX1_hundredthsOfAllTries_46, eX1_hundredthsOfAllTries_47, eX1_hundredthsOfAllTries_50, eX1_hundredthsOfAllTries_52, eX1_hundredthsOfAllTries_53, eX1_hundredthsOfAllTries_56, eX1_hundredthsOfAllTries_57, eX1_hundredthsOfAllTries_58, eX1_hundredthsOfAllTries_59, eX1_hundredthsOfAllTries_62, eX1_hundredthsOfAllTries_68, eX1_hundredthsOfAllTries_71, eX1_hundredthsOfAllTries_72, Nat.add_zero, Nat.reduceAdd, Nat.reduceLeDiff, Nat.zero_le, and_true, o_aload_0r, o_callV_0, o_callV_2, o_const_e, o_getf_e, o_goto_e, o_iald_e, o_iald_f, o_icmp_e, o_if_e, o_ii_e, o_iinc_3, o_iinc_4, o_il_e, o_iload_3, o_iload_4, o_iload_5, o_ist_3, o_ist_4, o_ist_5, o_ll_e, o_lload_1, o_lret_e, o_lst_1, tl_n, tl_s, true_and, xnlv_i, xnlv_n, xnlv_r, xwt_0, xwt_f, xwt_i, xwt_l, xwt_r, h.cls, h.g0, h.g1, h.g2, h.g3, h.g4, h.g5, h.g6, h.g7, h.g8, h.g9, h.g10, h.g11]
    refine c_directions h ok ?_
    simp only [eX1_hundredthsOfAllTries_0, eX1_hundredthsOfAllTries_1, eX1_hundredthsOfAllTries_2, eX1_hundredthsOfAllTries_3, eX1_hundredthsOfAllTries_4, eX1_hundredthsOfAllTries_5, eX1_hundredthsOfAllTries_6, eX1_hundredthsOfAllTries_9, eX1_hundredthsOfAllTries_12, eX1_hundredthsOfAllTries_13, eX1_hundredthsOfAllTries_17, eX1_hundredthsOfAllTries_18, eX1_hundredthsOfAllTries_21, eX1_hundredthsOfAllTries_24, eX1_hundredthsOfAllTries_25, eX1_hundredthsOfAllTries_28, eX1_hundredthsOfAllTries_29, eX1_hundredthsOfAllTries_31, eX1_hundredthsOfAllTries_32, eX1_hundredthsOfAllTries_34, eX1_hundredthsOfAllTries_35, eX1_hundredthsOfAllTries_36, eX1_hundredthsOfAllTries_38, eX1_hundredthsOfAllTries_40, eX1_hundredthsOfAllTries_43, eX1_hundredthsOfAllTries_44, eX1_hundredthsOfAllTries_45, eX1_hundredthsOfAllTries_46, eX1_hundredthsOfAllTries_47, eX1_hundredthsOfAllTries_50, eX1_hundredthsOfAllTries_52, eX1_hundredthsOfAllTries_53, eX1_hundredthsOfAllTries_56, eX1_hundredthsOfAllTries_57, eX1_hundredthsOfAllTries_58, eX1_hundredthsOfAllTries_59, eX1_hundredthsOfAllTries_62, eX1_hundredthsOfAllTries_68, eX1_hundredthsOfAllTries_71, eX1_hundredthsOfAllTries_72, Nat.add_zero, Nat.reduceAdd, Nat.reduceLeDiff, Nat.zero_le, and_true, o_aload_0r, o_callV_0, o_callV_2, o_const_e, o_getf_e, o_goto_e, o_iald_e, o_iald_f, o_icmp_e, o_if_e, o_ii_e, o_iinc_3, o_iinc_4, o_il_e, o_iload_3, o_iload_4, o_iload_5, o_ist_3, o_ist_4, o_ist_5, o_ll_e, o_lload_1, o_lret_e, o_lst_1, tl_n, tl_s, true_and, xnlv_i, xnlv_n, xnlv_r, xwt_0, xwt_f, xwt_i, xwt_l, xwt_r, h.cls, h.g0, h.g1, h.g2, h.g3, h.g4, h.g5, h.g6, h.g7, h.g8, h.g9, h.g10, h.g11, le_nI (a := x.nd) (b := j) (by omega) (by omega), n8, pk_mul, nI_add, h.rl (c := c*8+j) (by omega)]
    refine ⟨fun g => by omega, fun _ => ?_⟩
    rw [hk c j hc (by omega)]
    have := ih (j + 1) (by omega)
    rw [sm] at this
    cases hb : x.nb c j with
    | none =>
      rw [show x.hF c j = 0 by unfold sLat.hF; rw [hb]] at this
      refine ⟨fun _ => ?_, fun g => absurd (by decide) g⟩
      rw [n1, nI_add]
      exact this _
    | some z =>
      rw [show x.hF c j = x.ch c (x.mk z) by unfold sLat.hF; rw [hb]] at this
      have hz := sLat.nb_36 ok hb
      have hmz := ok.1 z
      have hch := ch_le ok (c := c) (v := x.mk z)
      simp only [lkV]
      refine ⟨fun g => absurd g (nI_pos (by omega)), fun _ => ?_⟩
      simp only [eX1_hundredthsOfAllTries_0, eX1_hundredthsOfAllTries_1, eX1_hundredthsOfAllTries_2, eX1_hundredthsOfAllTries_3, eX1_hundredthsOfAllTries_4, eX1_hundredthsOfAllTries_5, eX1_hundredthsOfAllTries_6, eX1_hundredthsOfAllTries_9, eX1_hundredthsOfAllTries_12, eX1_hundredthsOfAllTries_13, eX1_hundredthsOfAllTries_17, eX1_hundredthsOfAllTries_18, eX1_hundredthsOfAllTries_21, eX1_hundredthsOfAllTries_24, eX1_hundredthsOfAllTries_25, eX1_hundredthsOfAllTries_28, eX1_hundredthsOfAllTries_29, eX1_hundredthsOfAllTries_31, eX1_hundredthsOfAllTries_32, eX1_hundredthsOfAllTries_34, eX1_hundredthsOfAllTries_35, eX1_hundredthsOfAllTries_36, eX1_hundredthsOfAllTries_38, eX1_hundredthsOfAllTries_40, eX1_hundredthsOfAllTries_43, eX1_hundredthsOfAllTries_44, eX1_hundredthsOfAllTries_45, eX1_hundredthsOfAllTries_46, eX1_hundredthsOfAllTries_47, eX1_hundredthsOfAllTries_50, eX1_hundredthsOfAllTries_52, eX1_hundredthsOfAllTries_53, eX1_hundredthsOfAllTries_56, eX1_hundredthsOfAllTries_57, eX1_hundredthsOfAllTries_58, eX1_hundredthsOfAllTries_59, eX1_hundredthsOfAllTries_62, eX1_hundredthsOfAllTries_68, eX1_hundredthsOfAllTries_71, eX1_hundredthsOfAllTries_72, Nat.add_zero, Nat.reduceAdd, Nat.reduceLeDiff, Nat.zero_le, and_true, o_aload_0r, o_callV_0, o_callV_2, o_const_e, o_getf_e, o_goto_e, o_iald_e, o_iald_f, o_icmp_e, o_if_e, o_ii_e, o_iinc_3, o_iinc_4, o_il_e, o_iload_3, o_iload_4, o_iload_5, o_ist_3, o_ist_4, o_ist_5, o_ll_e, o_lload_1, o_lret_e, o_lst_1, tl_n, tl_s, true_and, xnlv_i, xnlv_n, xnlv_r, xwt_0, xwt_f, xwt_i, xwt_l, xwt_r, h.cls, h.g0, h.g1, h.g2, h.g3, h.g4, h.g5, h.g6, h.g7, h.g8, h.g9, h.g10, h.g11, h.rm (c := z) hz]
      refine c_chanceOf h ok hk hp hc hmz ?_
      simp only [eX1_hundredthsOfAllTries_0, eX1_hundredthsOfAllTries_1, eX1_hundredthsOfAllTries_2, eX1_hundredthsOfAllTries_3, eX1_hundredthsOfAllTries_4, eX1_hundredthsOfAllTries_5, eX1_hundredthsOfAllTries_6, eX1_hundredthsOfAllTries_9, eX1_hundredthsOfAllTries_12, eX1_hundredthsOfAllTries_13, eX1_hundredthsOfAllTries_17, eX1_hundredthsOfAllTries_18, eX1_hundredthsOfAllTries_21, eX1_hundredthsOfAllTries_24, eX1_hundredthsOfAllTries_25, eX1_hundredthsOfAllTries_28, eX1_hundredthsOfAllTries_29, eX1_hundredthsOfAllTries_31, eX1_hundredthsOfAllTries_32, eX1_hundredthsOfAllTries_34, eX1_hundredthsOfAllTries_35, eX1_hundredthsOfAllTries_36, eX1_hundredthsOfAllTries_38, eX1_hundredthsOfAllTries_40, eX1_hundredthsOfAllTries_43, eX1_hundredthsOfAllTries_44, eX1_hundredthsOfAllTries_45, eX1_hundredthsOfAllTries_46, eX1_hundredthsOfAllTries_47, eX1_hundredthsOfAllTries_50, eX1_hundredthsOfAllTries_52, eX1_hundredthsOfAllTries_53, eX1_hundredthsOfAllTries_56, eX1_hundredthsOfAllTries_57, eX1_hundredthsOfAllTries_58, eX1_hundredthsOfAllTries_59, eX1_hundredthsOfAllTries_62, eX1_hundredthsOfAllTries_68, eX1_hundredthsOfAllTries_71, eX1_hundredthsOfAllTries_72, Nat.add_zero, Nat.reduceAdd, Nat.reduceLeDiff, Nat.zero_le, and_true, o_aload_0r, o_callV_0, o_callV_2, o_const_e, o_getf_e, o_goto_e, o_iald_e, o_iald_f, o_icmp_e, o_if_e, o_ii_e, o_iinc_3, o_iinc_4, o_il_e, o_iload_3, o_iload_4, o_iload_5, o_ist_3, o_ist_4, o_ist_5, o_ll_e, o_lload_1, o_lret_e, o_lst_1, tl_n, tl_s, true_and, xnlv_i, xnlv_n, xnlv_r, xwt_0, xwt_f, xwt_i, xwt_l, xwt_r, nI_l (n := x.ch c (x.mk z)) (by omega), lN_add, n1, nI_add]
      rw [Nat.add_assoc]
      exact this _
theorem l_hund2 (h : LatAt AH b x lk pr) (ok : x.ok) (hk : LkOK x lk) (hp : PrOK x pr) {Q : xQ} (k : Q (some (.long (lN x.oS))) AH (0, 0)) : ∀ (m j : Nat), j + m = x.n → ∀ w1 w2 : Option Value,
    XR TX1_hundredthsOfAllTries 4 [some (.ref b), some (.long (lN (sm x.oR j))), none, some (.int (nI j)), w1, w2] [] AH (0, 0) Q := by
  have hn := sLat.n36 ok
  intro m
  induction m with
  | zero =>
    intro j hj w1 w2
    rw [eX1_hundredthsOfAllTries_4]
    simp only [eX1_hundredthsOfAllTries_0, eX1_hundredthsOfAllTries_1, eX1_hundredthsOfAllTries_2, eX1_hundredthsOfAllTries_3, eX1_hundredthsOfAllTries_5, eX1_hundredthsOfAllTries_6, eX1_hundredthsOfAllTries_9, eX1_hundredthsOfAllTries_12, eX1_hundredthsOfAllTries_13, eX1_hundredthsOfAllTries_17, eX1_hundredthsOfAllTries_18, eX1_hundredthsOfAllTries_21, eX1_hundredthsOfAllTries_24, eX1_hundredthsOfAllTries_25, eX1_hundredthsOfAllTries_28, eX1_hundredthsOfAllTries_29, eX1_hundredthsOfAllTries_31, eX1_hundredthsOfAllTries_32, eX1_hundredthsOfAllTries_34, eX1_hundredthsOfAllTries_35, eX1_hundredthsOfAllTries_36, eX1_hundredthsOfAllTries_38, eX1_hundredthsOfAllTries_40, eX1_hundredthsOfAllTries_43, eX1_hundredthsOfAllTries_44, eX1_hundredthsOfAllTries_45, eX1_hundredthsOfAllTries_46, eX1_hundredthsOfAllTries_47, eX1_hundredthsOfAllTries_50, eX1_hundredthsOfAllTries_52, eX1_hundredthsOfAllTries_53, eX1_hundredthsOfAllTries_56, eX1_hundredthsOfAllTries_57, eX1_hundredthsOfAllTries_58, eX1_hundredthsOfAllTries_59, eX1_hundredthsOfAllTries_62, eX1_hundredthsOfAllTries_65, eX1_hundredthsOfAllTries_68, eX1_hundredthsOfAllTries_71, eX1_hundredthsOfAllTries_72, Nat.add_zero, Nat.reduceAdd, Nat.reduceLeDiff, Nat.zero_le, and_true, o_aload_0r, o_callV_0, o_callV_2, o_const_e, o_getf_e, o_goto_e, o_iald_e, o_iald_f, o_icmp_e, o_if_e, o_ii_e, o_iinc_3, o_iinc_4, o_il_e, o_iload_3, o_iload_4, o_iload_5, o_ist_3, o_ist_4, o_ist_5, o_ll_e, o_lload_1, o_lret_e, o_lst_1, tl_n, tl_s, true_and, xnlv_i, xnlv_n, xnlv_r, xwt_0, xwt_f, xwt_i, xwt_l, xwt_r, h.cls, h.g0, h.g1, h.g2, h.g3, h.g4, h.g5, h.g6, h.g7, h.g8, h.g9, h.g10, h.g11]
    refine c_cells h ?_
    simp only [eX1_hundredthsOfAllTries_0, eX1_hundredthsOfAllTries_1, eX1_hundredthsOfAllTries_2, eX1_hundredthsOfAllTries_3, eX1_hundredthsOfAllTries_5, eX1_hundredthsOfAllTries_6, eX1_hundredthsOfAllTries_9, eX1_hundredthsOfAllTries_12, eX1_hundredthsOfAllTries_13, eX1_hundredthsOfAllTries_17, eX1_hundredthsOfAllTries_18, eX1_hundredthsOfAllTries_21, eX1_hundredthsOfAllTries_24, eX1_hundredthsOfAllTries_25, eX1_hundredthsOfAllTries_28, eX1_hundredthsOfAllTries_29, eX1_hundredthsOfAllTries_31, eX1_hundredthsOfAllTries_32, eX1_hundredthsOfAllTries_34, eX1_hundredthsOfAllTries_35, eX1_hundredthsOfAllTries_36, eX1_hundredthsOfAllTries_38, eX1_hundredthsOfAllTries_40, eX1_hundredthsOfAllTries_43, eX1_hundredthsOfAllTries_44, eX1_hundredthsOfAllTries_45, eX1_hundredthsOfAllTries_46, eX1_hundredthsOfAllTries_47, eX1_hundredthsOfAllTries_50, eX1_hundredthsOfAllTries_52, eX1_hundredthsOfAllTries_53, eX1_hundredthsOfAllTries_56, eX1_hundredthsOfAllTries_57, eX1_hundredthsOfAllTries_58, eX1_hundredthsOfAllTries_59, eX1_hundredthsOfAllTries_62, eX1_hundredthsOfAllTries_65, eX1_hundredthsOfAllTries_68, eX1_hundredthsOfAllTries_71, eX1_hundredthsOfAllTries_72, Nat.add_zero, Nat.reduceAdd, Nat.reduceLeDiff, Nat.zero_le, and_true, o_aload_0r, o_callV_0, o_callV_2, o_const_e, o_getf_e, o_goto_e, o_iald_e, o_iald_f, o_icmp_e, o_if_e, o_ii_e, o_iinc_3, o_iinc_4, o_il_e, o_iload_3, o_iload_4, o_iload_5, o_ist_3, o_ist_4, o_ist_5, o_ll_e, o_lload_1, o_lret_e, o_lst_1, tl_n, tl_s, true_and, xnlv_i, xnlv_n, xnlv_r, xwt_0, xwt_f, xwt_i, xwt_l, xwt_r, h.cls, h.g0, h.g1, h.g2, h.g3, h.g4, h.g5, h.g6, h.g7, h.g8, h.g9, h.g10, h.g11, le_nI (a := x.n) (b := j) (by omega) (by omega)]
    refine ⟨fun _ => ?_, fun g => by omega⟩
    rw [show j = x.n by omega]
    exact k
  | succ m ih =>
    intro j hj w1 w2
    have hs : sm x.oR j ≤ j * 800 := sm_le (fun i => oR_le ok) j
    rw [eX1_hundredthsOfAllTries_4]
    simp only [eX1_hundredthsOfAllTries_0, eX1_hundredthsOfAllTries_1, eX1_hundredthsOfAllTries_2, eX1_hundredthsOfAllTries_3, eX1_hundredthsOfAllTries_5, eX1_hundredthsOfAllTries_6, eX1_hundredthsOfAllTries_9, eX1_hundredthsOfAllTries_12, eX1_hundredthsOfAllTries_13, eX1_hundredthsOfAllTries_17, eX1_hundredthsOfAllTries_18, eX1_hundredthsOfAllTries_21, eX1_hundredthsOfAllTries_24, eX1_hundredthsOfAllTries_25, eX1_hundredthsOfAllTries_28, eX1_hundredthsOfAllTries_29, eX1_hundredthsOfAllTries_31, eX1_hundredthsOfAllTries_32, eX1_hundredthsOfAllTries_34, eX1_hundredthsOfAllTries_35, eX1_hundredthsOfAllTries_36, eX1_hundredthsOfAllTries_38, eX1_hundredthsOfAllTries_40, eX1_hundredthsOfAllTries_43, eX1_hundredthsOfAllTries_44, eX1_hundredthsOfAllTries_45, eX1_hundredthsOfAllTries_46, eX1_hundredthsOfAllTries_47, eX1_hundredthsOfAllTries_50, eX1_hundredthsOfAllTries_52, eX1_hundredthsOfAllTries_53, eX1_hundredthsOfAllTries_56, eX1_hundredthsOfAllTries_57, eX1_hundredthsOfAllTries_58, eX1_hundredthsOfAllTries_59, eX1_hundredthsOfAllTries_62, eX1_hundredthsOfAllTries_65, eX1_hundredthsOfAllTries_68, eX1_hundredthsOfAllTries_71, eX1_hundredthsOfAllTries_72, Nat.add_zero, Nat.reduceAdd, Nat.reduceLeDiff, Nat.zero_le, and_true, o_aload_0r, o_callV_0, o_callV_2, o_const_e, o_getf_e, o_goto_e, o_iald_e, o_iald_f, o_icmp_e, o_if_e, o_ii_e, o_iinc_3, o_iinc_4, o_il_e, o_iload_3, o_iload_4, o_iload_5, o_ist_3, o_ist_4, o_ist_5, o_ll_e, o_lload_1, o_lret_e, o_lst_1, tl_n, tl_s, true_and, xnlv_i, xnlv_n, xnlv_r, xwt_0, xwt_f, xwt_i, xwt_l, xwt_r, h.cls, h.g0, h.g1, h.g2, h.g3, h.g4, h.g5, h.g6, h.g7, h.g8, h.g9, h.g10, h.g11]
    refine c_cells h ?_
    simp only [eX1_hundredthsOfAllTries_0, eX1_hundredthsOfAllTries_1, eX1_hundredthsOfAllTries_2, eX1_hundredthsOfAllTries_3, eX1_hundredthsOfAllTries_5, eX1_hundredthsOfAllTries_6, eX1_hundredthsOfAllTries_9, eX1_hundredthsOfAllTries_12, eX1_hundredthsOfAllTries_13, eX1_hundredthsOfAllTries_17, eX1_hundredthsOfAllTries_18, eX1_hundredthsOfAllTries_21, eX1_hundredthsOfAllTries_24, eX1_hundredthsOfAllTries_25, eX1_hundredthsOfAllTries_28, eX1_hundredthsOfAllTries_29, eX1_hundredthsOfAllTries_31, eX1_hundredthsOfAllTries_32, eX1_hundredthsOfAllTries_34, eX1_hundredthsOfAllTries_35, eX1_hundredthsOfAllTries_36, eX1_hundredthsOfAllTries_38, eX1_hundredthsOfAllTries_40, eX1_hundredthsOfAllTries_43, eX1_hundredthsOfAllTries_44, eX1_hundredthsOfAllTries_45, eX1_hundredthsOfAllTries_46, eX1_hundredthsOfAllTries_47, eX1_hundredthsOfAllTries_50, eX1_hundredthsOfAllTries_52, eX1_hundredthsOfAllTries_53, eX1_hundredthsOfAllTries_56, eX1_hundredthsOfAllTries_57, eX1_hundredthsOfAllTries_58, eX1_hundredthsOfAllTries_59, eX1_hundredthsOfAllTries_62, eX1_hundredthsOfAllTries_65, eX1_hundredthsOfAllTries_68, eX1_hundredthsOfAllTries_71, eX1_hundredthsOfAllTries_72, Nat.add_zero, Nat.reduceAdd, Nat.reduceLeDiff, Nat.zero_le, and_true, o_aload_0r, o_callV_0, o_callV_2, o_const_e, o_getf_e, o_goto_e, o_iald_e, o_iald_f, o_icmp_e, o_if_e, o_ii_e, o_iinc_3, o_iinc_4, o_il_e, o_iload_3, o_iload_4, o_iload_5, o_ist_3, o_ist_4, o_ist_5, o_ll_e, o_lload_1, o_lret_e, o_lst_1, tl_n, tl_s, true_and, xnlv_i, xnlv_n, xnlv_r, xwt_0, xwt_f, xwt_i, xwt_l, xwt_r, h.cls, h.g0, h.g1, h.g2, h.g3, h.g4, h.g5, h.g6, h.g7, h.g8, h.g9, h.g10, h.g11, le_nI (a := x.n) (b := j) (by omega) (by omega)]
    refine ⟨fun g => by omega, fun _ => ?_⟩
    refine l_hund1 h ok hk hp (by omega) (by omega) (fun w2 => ?_) x.nd 0 (by omega) w2
    simp only [eX1_hundredthsOfAllTries_0, eX1_hundredthsOfAllTries_1, eX1_hundredthsOfAllTries_2, eX1_hundredthsOfAllTries_3, eX1_hundredthsOfAllTries_5, eX1_hundredthsOfAllTries_6, eX1_hundredthsOfAllTries_9, eX1_hundredthsOfAllTries_12, eX1_hundredthsOfAllTries_13, eX1_hundredthsOfAllTries_17, eX1_hundredthsOfAllTries_18, eX1_hundredthsOfAllTries_21, eX1_hundredthsOfAllTries_24, eX1_hundredthsOfAllTries_25, eX1_hundredthsOfAllTries_28, eX1_hundredthsOfAllTries_29, eX1_hundredthsOfAllTries_31, eX1_hundredthsOfAllTries_32, eX1_hundredthsOfAllTries_34, eX1_hundredthsOfAllTries_35, eX1_hundredthsOfAllTries_36, eX1_hundredthsOfAllTries_38, eX1_hundredthsOfAllTries_40, eX1_hundredthsOfAllTries_43, eX1_hundredthsOfAllTries_44, eX1_hundredthsOfAllTries_45, eX1_hundredthsOfAllTries_46, eX1_hundredthsOfAllTries_47, eX1_hundredthsOfAllTries_50, eX1_hundredthsOfAllTries_52, eX1_hundredthsOfAllTries_53, eX1_hundredthsOfAllTries_56, eX1_hundredthsOfAllTries_57, eX1_hundredthsOfAllTries_58, eX1_hundredthsOfAllTries_59, eX1_hundredthsOfAllTries_62, eX1_hundredthsOfAllTries_65, eX1_hundredthsOfAllTries_68, eX1_hundredthsOfAllTries_71, eX1_hundredthsOfAllTries_72, Nat.add_zero, Nat.reduceAdd, Nat.reduceLeDiff, Nat.zero_le, and_true, o_aload_0r, o_callV_0, o_callV_2, o_const_e, o_getf_e, o_goto_e, o_iald_e, o_iald_f, o_icmp_e, o_if_e, o_ii_e, o_iinc_3, o_iinc_4, o_il_e, o_iload_3, o_iload_4, o_iload_5, o_ist_3, o_ist_4, o_ist_5, o_ll_e, o_lload_1, o_lret_e, o_lst_1, tl_n, tl_s, true_and, xnlv_i, xnlv_n, xnlv_r, xwt_0, xwt_f, xwt_i, xwt_l, xwt_r, n1, nI_add]
    exact ih (j + 1) (by omega) _ _
theorem c_hund (h : LatAt AH b x lk pr) (ok : x.ok) (hk : LkOK x lk) (hp : PrOK x pr) {Q : Option Value → xH → Prop} (k : Q (some (.long (lN x.oS))) AH) : XC MX1_hundredthsOfAllTries [.ref b] AH Q := by
  refine XC.ofR (L := [some (.ref b), none, none, none, none, none]) KX1_hundredthsOfAllTries (by decide +kernel) (by first | decide | exact Nat.le_of_ble_eq_true rfl) rfl ?_
  simp only [eX1_hundredthsOfAllTries_0, eX1_hundredthsOfAllTries_1, eX1_hundredthsOfAllTries_2, eX1_hundredthsOfAllTries_3, eX1_hundredthsOfAllTries_5, eX1_hundredthsOfAllTries_6, eX1_hundredthsOfAllTries_9, eX1_hundredthsOfAllTries_12, eX1_hundredthsOfAllTries_13, eX1_hundredthsOfAllTries_15, eX1_hundredthsOfAllTries_17, eX1_hundredthsOfAllTries_18, eX1_hundredthsOfAllTries_21, eX1_hundredthsOfAllTries_24, eX1_hundredthsOfAllTries_25, eX1_hundredthsOfAllTries_28, eX1_hundredthsOfAllTries_29, eX1_hundredthsOfAllTries_31, eX1_hundredthsOfAllTries_32, eX1_hundredthsOfAllTries_34, eX1_hundredthsOfAllTries_35, eX1_hundredthsOfAllTries_36, eX1_hundredthsOfAllTries_38, eX1_hundredthsOfAllTries_40, eX1_hundredthsOfAllTries_43, eX1_hundredthsOfAllTries_44, eX1_hundredthsOfAllTries_45, eX1_hundredthsOfAllTries_46, eX1_hundredthsOfAllTries_47, eX1_hundredthsOfAllTries_50, eX1_hundredthsOfAllTries_52, eX1_hundredthsOfAllTries_53, eX1_hundredthsOfAllTries_56, eX1_hundredthsOfAllTries_57, eX1_hundredthsOfAllTries_58, eX1_hundredthsOfAllTries_59, eX1_hundredthsOfAllTries_62, eX1_hundredthsOfAllTries_65, eX1_hundredthsOfAllTries_68, eX1_hundredthsOfAllTries_71, eX1_hundredthsOfAllTries_72, Nat.add_zero, Nat.reduceAdd, Nat.reduceLeDiff, Nat.zero_le, and_true, o_aload_0r, o_callV_0, o_callV_2, o_const_e, o_getf_e, o_goto_e, o_iald_e, o_iald_f, o_icmp_e, o_if_e, o_ii_e, o_iinc_3, o_iinc_4, o_il_e, o_iload_3, o_iload_4, o_iload_5, o_ist_3, o_ist_4, o_ist_5, o_ll_e, o_lload_1, o_lret_e, o_lst_1, tl_n, tl_s, true_and, xnlv_i, xnlv_n, xnlv_r, xwt_0, xwt_f, xwt_i, xwt_l, xwt_r]
  exact l_hund2 h ok hk hp k x.n 0 (by omega) none none
/-- Lattice.marksAround(c) -/
theorem l_around (h : LatAt AH b x lk pr) (ok : x.ok) (hk : LkOK x lk) {c : Nat} (hc : c < x.n) {Q : xQ} (k : Q (some (.int (nI (x.ar c x.nd)))) AH (0, 0)) : ∀ (m j : Nat), j + m = x.nd → ∀ w : Option Value,
    XR TX1_marksAround 4 [some (.ref b), some (.int (nI c)), some (.int (nI (x.ar c j))), some (.int (nI j)), w] [] AH (0, 0) Q := by
  have hn := sLat.n36 ok
  have hnd := sLat.nd8 (x := x)
  intro m
  induction m with
  | zero =>
    intro j hj w
    rw [eX1_marksAround_4]
    simp only [eX1_marksAround_0, eX1_marksAround_1, eX1_marksAround_2, eX1_marksAround_3, eX1_marksAround_5, eX1_marksAround_6, eX1_marksAround_9, eX1_marksAround_12, eX1_marksAround_13, eX1_marksAround_16, eX1_marksAround_17, eX1_marksAround_19, eX1_marksAround_20, eX1_marksAround_21, eX1_marksAround_22, eX1_marksAround_23, eX1_marksAround_25, eX1_marksAround_27, eX1_marksAround_30, eX1_marksAround_31, eX1_marksAround_32, eX1_marksAround_33, eX1_marksAround_36, eX1_marksAround_38, eX1_marksAround_39, eX1_marksAround_40, eX1_marksAround_41, eX1_marksAround_42, eX1_marksAround_45, eX1_marksAround_48, eX1_marksAround_49, Nat.add_zero, Nat.reduceAdd, Nat.reduceLeDiff, Nat.zero_le, and_true, o_aload_0r, o_callV_0, o_const_e, o_getf_e, o_goto_e, o_iald_e, o_iald_f, o_icmp_e, o_if_e, o_ii_e, o_iinc_3, o_iload_1, o_iload_2, o_iload_3, o_iload_4, o_iret_e, o_ist_2, o_ist_3, o_ist_4, tl_n, tl_s, true_and, xnlv_i, xnlv_n, xnlv_r, xwt_0, xwt_f, xwt_i, xwt_l, xwt_r, h.cls, h.g0, h.g1, h.g2, h.g3, h.g4, h.g5, h.g6, h.g7, h.g8, h.g9, h.g10, h.g11]
    refine c_directions h ok ?_
    simp only [eX1_marksAround_0, eX1_marksAround_1, eX1_marksAround_2, eX1_marksAround_3, eX1_marksAround_5, eX1_marksAround_6, eX1_marksAround_9, eX1_marksAround_12, eX1_marksAround_13, eX1_marksAround_16, eX1_marksAround_17, eX1_marksAround_19, eX1_marksAround_20, eX1_marksAround_21, eX1_marksAround_22, eX1_marksAround_23, eX1_marksAround_25, eX1_marksAround_27, eX1_marksAround_30, eX1_marksAround_31, eX1_marksAround_32, eX1_marksAround_33, eX1_marksAround_36, eX1_marksAround_38, eX1_marksAround_39, eX1_marksAround_40, eX1_marksAround_41, eX1_marksAround_42, eX1_marksAround_45, eX1_marksAround_48, eX1_marksAround_49, Nat.add_zero, Nat.reduceAdd, Nat.reduceLeDiff, Nat.zero_le, and_true, o_aload_0r, o_callV_0, o_const_e, o_getf_e, o_goto_e, o_iald_e, o_iald_f, o_icmp_e, o_if_e, o_ii_e, o_iinc_3, o_iload_1, o_iload_2, o_iload_3, o_iload_4, o_iret_e, o_ist_2, o_ist_3, o_ist_4, tl_n, tl_s, true_and, xnlv_i, xnlv_n, xnlv_r, xwt_0, xwt_f, xwt_i, xwt_l, xwt_r, h.cls, h.g0, h.g1, h.g2, h.g3, h.g4, h.g5, h.g6, h.g7, h.g8, h.g9, h.g10, h.g11, le_nI (a := x.nd) (b := j) (by omega) (by omega)]
    refine ⟨fun _ => ?_, fun g => by omega⟩
    rw [show j = x.nd by omega]
    exact k
  | succ m ih =>
    intro j hj w
    rw [eX1_marksAround_4]
    simp only [eX1_marksAround_0, eX1_marksAround_1, eX1_marksAround_2, eX1_marksAround_3, eX1_marksAround_5, eX1_marksAround_6, eX1_marksAround_9, eX1_marksAround_12, eX1_marksAround_13, eX1_marksAround_16, eX1_marksAround_17, eX1_marksAround_19, eX1_marksAround_20, eX1_marksAround_21, eX1_marksAround_22, eX1_marksAround_23, eX1_marksAround_25, eX1_marksAround_27, eX1_marksAround_30, eX1_marksAround_31, eX1_marksAround_32, eX1_marksAround_33, eX1_marksAround_36, eX1_marksAround_38, eX1_marksAround_39, eX1_marksAround_40, eX1_marksAround_41, eX1_marksAround_42, eX1_marksAround_45, eX1_marksAround_48, eX1_marksAround_49, Nat.add_zero, Nat.reduceAdd, Nat.reduceLeDiff, Nat.zero_le, and_true, o_aload_0r, o_callV_0, o_const_e, o_getf_e, o_goto_e, o_iald_e, o_iald_f, o_icmp_e, o_if_e, o_ii_e, o_iinc_3, o_iload_1, o_iload_2, o_iload_3, o_iload_4, o_iret_e, o_ist_2, o_ist_3, o_ist_4, tl_n, tl_s, true_and, xnlv_i, xnlv_n, xnlv_r, xwt_0, xwt_f, xwt_i, xwt_l, xwt_r, h.cls, h.g0, h.g1, h.g2, h.g3, h.g4, h.g5, h.g6, h.g7, h.g8, h.g9, h.g10, h.g11]
    refine c_directions h ok ?_
    simp only [eX1_marksAround_0, eX1_marksAround_1, eX1_marksAround_2, eX1_marksAround_3, eX1_marksAround_5, eX1_marksAround_6, eX1_marksAround_9, eX1_marksAround_12, eX1_marksAround_13, eX1_marksAround_16, eX1_marksAround_17, eX1_marksAround_19, eX1_marksAround_20, eX1_marksAround_21, eX1_marksAround_22, eX1_marksAround_23, eX1_marksAround_25, eX1_marksAround_27, eX1_marksAround_30, eX1_marksAround_31, eX1_marksAround_32, eX1_marksAround_33, eX1_marksAround_36, eX1_marksAround_38, eX1_marksAround_39, eX1_marksAround_40, eX1_marksAround_41, eX1_marksAround_42, eX1_marksAround_45, eX1_marksAround_48, eX1_marksAround_49, Nat.add_zero, Nat.reduceAdd, Nat.reduceLeDiff, Nat.zero_le, and_true, o_aload_0r, o_callV_0, o_const_e, o_getf_e, o_goto_e, o_iald_e, o_iald_f, o_icmp_e, o_if_e, o_ii_e, o_iinc_3, o_iload_1, o_iload_2, o_iload_3, o_iload_4, o_iret_e, o_ist_2, o_ist_3, o_ist_4, tl_n, tl_s, true_and, xnlv_i, xnlv_n, xnlv_r, xwt_0, xwt_f, xwt_i, xwt_l, xwt_r, h.cls, h.g0, h.g1, h.g2, h.g3, h.g4, h.g5, h.g6, h.g7, h.g8, h.g9, h.g10, h.g11, le_nI (a := x.nd) (b := j) (by omega) (by omega), n8, pk_mul, nI_add, h.rl (c := c*8+j) (by omega)]
    refine ⟨fun g => by omega, fun _ => ?_⟩
    rw [hk c j hc (by omega)]
    have := ih (j + 1) (by omega)
    unfold sLat.ar at this
    cases hb : x.nb c j with
    | none =>
      simp only [hb] at this
      refine ⟨fun _ => ?_, fun g => absurd (by decide) g⟩
      rw [n1, nI_add]
      exact this _
    | some z =>
      simp only [hb] at this
      have hz := sLat.nb_36 ok hb
      have hmz := ok.1 z
      simp only [lkV]
      refine ⟨fun g => absurd g (nI_pos (by omega)), fun _ => ?_⟩
      simp only [eX1_marksAround_0, eX1_marksAround_1, eX1_marksAround_2, eX1_marksAround_3, eX1_marksAround_5, eX1_marksAround_6, eX1_marksAround_9, eX1_marksAround_12, eX1_marksAround_13, eX1_marksAround_16, eX1_marksAround_17, eX1_marksAround_19, eX1_marksAround_20, eX1_marksAround_21, eX1_marksAround_22, eX1_marksAround_23, eX1_marksAround_25, eX1_marksAround_27, eX1_marksAround_30, eX1_marksAround_31, eX1_marksAround_32, eX1_marksAround_33, eX1_marksAround_36, eX1_marksAround_38, eX1_marksAround_39, eX1_marksAround_40, eX1_marksAround_41, eX1_marksAround_42, eX1_marksAround_45, eX1_marksAround_48, eX1_marksAround_49, Nat.add_zero, Nat.reduceAdd, Nat.reduceLeDiff, Nat.zero_le, and_true, o_aload_0r, o_callV_0, o_const_e, o_getf_e, o_goto_e, o_iald_e, o_iald_f, o_icmp_e, o_if_e, o_ii_e, o_iinc_3, o_iload_1, o_iload_2, o_iload_3, o_iload_4, o_iret_e, o_ist_2, o_ist_3, o_ist_4, tl_n, tl_s, true_and, xnlv_i, xnlv_n, xnlv_r, xwt_0, xwt_f, xwt_i, xwt_l, xwt_r, h.cls, h.g0, h.g1, h.g2, h.g3, h.g4, h.g5, h.g6, h.g7, h.g8, h.g9, h.g10, h.g11, h.rm (c := z) hz, shl_t (x.mk z) hmz, or_t (x.ar c j) (ar_lt ok j) (x.mk z) hmz]
      rw [n1, nI_add]
      exact this _
theorem c_around (h : LatAt AH b x lk pr) (ok : x.ok) (hk : LkOK x lk) {c : Nat} (hc : c < x.n) {Q : Option Value → xH → Prop} (k : Q (some (.int (nI (x.ar c x.nd)))) AH) : XC MX1_marksAround [.ref b, .int (nI c)] AH Q := by
  refine XC.ofR (L := [some (.ref b), some (.int (nI c)), none, none, none]) KX1_marksAround (by decide +kernel) (by first | decide | exact Nat.le_of_ble_eq_true rfl) rfl ?_
  simp only [eX1_marksAround_0, eX1_marksAround_1, eX1_marksAround_2, eX1_marksAround_3, eX1_marksAround_5, eX1_marksAround_6, eX1_marksAround_9, eX1_marksAround_12, eX1_marksAround_13, eX1_marksAround_16, eX1_marksAround_17, eX1_marksAround_19, eX1_marksAround_20, eX1_marksAround_21, eX1_marksAround_22, eX1_marksAround_23, eX1_marksAround_25, eX1_marksAround_27, eX1_marksAround_30, eX1_marksAround_31, eX1_marksAround_32, eX1_marksAround_33, eX1_marksAround_36, eX1_marksAround_38, eX1_marksAround_39, eX1_marksAround_40, eX1_marksAround_41, eX1_marksAround_42, eX1_marksAround_45, eX1_marksAround_48, eX1_marksAround_49, Nat.add_zero, Nat.reduceAdd, Nat.reduceLeDiff, Nat.zero_le, and_true, o_aload_0r, o_callV_0, o_const_e, o_getf_e, o_goto_e, o_iald_e, o_iald_f, o_icmp_e, o_if_e, o_ii_e, o_iinc_3, o_iload_1, o_iload_2, o_iload_3, o_iload_4, o_iret_e, o_ist_2, o_ist_3, o_ist_4, tl_n, tl_s, true_and, xnlv_i, xnlv_n, xnlv_r, xwt_0, xwt_f, xwt_i, xwt_l, xwt_r]
  exact l_around h ok hk hc k x.nd 0 (by omega) none
theorem clF_lt {x : sLat} (ok : x.ok) {c : Nat} : ∀ v, v ≤ 8 → (x.clF c v).1 < 8
  | 0, _ => ok.1 c
  | v + 1, h => by
    unfold sLat.clF
    split
    · exact h
    · exact clF_lt ok v (by omega)
theorem clF_le {x : sLat} (ok : x.ok) {c : Nat} : ∀ v, (x.clF c v).2 ≤ 72
  | 0 => sLat.E_le ok
  | v + 1 => by
    unfold sLat.clF
    split
    · exact sLat.E_le ok
    · exact clF_le ok v
/-- Lattice.coolestMark(c) -/
theorem l_coolest (h : LatAt AH b x lk pr) (ok : x.ok) (hk : LkOK x lk) (hp : PrOK x pr) {c : Nat} (hc : c < x.n) {Q : xQ} (k : Q (some (.int (nI (x.clF c 8).1))) AH (0, 0)) : ∀ (m v : Nat), v + m = 8 → ∀ w : Option Value,
    XR TX1_coolestMark 23 [some (.ref b), some (.int (nI c)), some (.int (nI (x.clF c v).1)), some (.int (nI (x.clF c v).2)), some (.int (nI (x.ar c x.nd))), some (.int (nI v)), w] [] AH (0, 0) Q := by
  have hn := sLat.n36 ok
  intro m
  induction m with
  | zero =>
    intro v hv w
    rw [eX1_coolestMark_23]
    simp only [eX1_coolestMark_0, eX1_coolestMark_1, eX1_coolestMark_4, eX1_coolestMark_5, eX1_coolestMark_6, eX1_coolestMark_7, eX1_coolestMark_8, eX1_coolestMark_9, eX1_coolestMark_12, eX1_coolestMark_13, eX1_coolestMark_14, eX1_coolestMark_15, eX1_coolestMark_18, eX1_coolestMark_20, eX1_coolestMark_21, eX1_coolestMark_25, eX1_coolestMark_27, eX1_coolestMark_30, eX1_coolestMark_32, eX1_coolestMark_34, eX1_coolestMark_35, eX1_coolestMark_36, eX1_coolestMark_37, eX1_coolestMark_40, eX1_coolestMark_41, eX1_coolestMark_42, eX1_coolestMark_44, eX1_coolestMark_47, eX1_coolestMark_49, eX1_coolestMark_51, eX1_coolestMark_52, eX1_coolestMark_55, eX1_coolestMark_57, eX1_coolestMark_58, eX1_coolestMark_60, eX1_coolestMark_61, eX1_coolestMark_64, eX1_coolestMark_67, eX1_coolestMark_68, Nat.add_zero, Nat.reduceAdd, Nat.reduceLeDiff, Nat.zero_le, and_true, o_aload_0r, o_callV_1, o_callV_2, o_const_e, o_getf_e, o_goto_e, o_iald_e, o_iald_f, o_icmp_e, o_if_e, o_ii_e, o_iinc_5, o_iload_1, o_iload_2, o_iload_3, o_iload_4, o_iload_5, o_iload_6, o_iret_e, o_ist_2, o_ist_3, o_ist_4, o_ist_5, o_ist_6, tl_n, tl_s, true_and, xnlv_i, xnlv_n, xnlv_r, xwt_0, xwt_f, xwt_i, xwt_l, xwt_r, n8, le_nI (a := 8) (b := v) (by omega) (by omega)]
    refine ⟨fun _ => ?_, fun g => by omega⟩
    rw [show v = 8 by omega]
    exact k
  | succ m ih =>
    intro v hv w
    have hl := clF_le ok (c := c) v
    have hE := sLat.E_le ok (c := c) (v := v)
    have := ih (v + 1) (by omega)
    unfold sLat.clF at this
    rw [eX1_coolestMark_23]
    simp only [eX1_coolestMark_0, eX1_coolestMark_1, eX1_coolestMark_4, eX1_coolestMark_5, eX1_coolestMark_6, eX1_coolestMark_7, eX1_coolestMark_8, eX1_coolestMark_9, eX1_coolestMark_12, eX1_coolestMark_13, eX1_coolestMark_14, eX1_coolestMark_15, eX1_coolestMark_18, eX1_coolestMark_20, eX1_coolestMark_21, eX1_coolestMark_25, eX1_coolestMark_27, eX1_coolestMark_30, eX1_coolestMark_32, eX1_coolestMark_34, eX1_coolestMark_35, eX1_coolestMark_36, eX1_coolestMark_37, eX1_coolestMark_40, eX1_coolestMark_41, eX1_coolestMark_42, eX1_coolestMark_44, eX1_coolestMark_47, eX1_coolestMark_49, eX1_coolestMark_51, eX1_coolestMark_52, eX1_coolestMark_55, eX1_coolestMark_57, eX1_coolestMark_58, eX1_coolestMark_60, eX1_coolestMark_61, eX1_coolestMark_64, eX1_coolestMark_67, eX1_coolestMark_68, Nat.add_zero, Nat.reduceAdd, Nat.reduceLeDiff, Nat.zero_le, and_true, o_aload_0r, o_callV_1, o_callV_2, o_const_e, o_getf_e, o_goto_e, o_iald_e, o_iald_f, o_icmp_e, o_if_e, o_ii_e, o_iinc_5, o_iload_1, o_iload_2, o_iload_3, o_iload_4, o_iload_5, o_iload_6, o_iret_e, o_ist_2, o_ist_3, o_ist_4, o_ist_5, o_ist_6, tl_n, tl_s, true_and, xnlv_i, xnlv_n, xnlv_r, xwt_0, xwt_f, xwt_i, xwt_l, xwt_r, h.cls, h.g0, h.g1, h.g2, h.g3, h.g4, h.g5, h.g6, h.g7, h.g8, h.g9, h.g10, h.g11, n8, le_nI (a := 8) (b := v) (by omega) (by omega)]
    refine ⟨fun g => by omega, fun _ => ?_⟩
    rw [shr_t _ (ar_lt ok _) v (by omega), ar_bit]
    refine ⟨fun g => ?_, fun g => c_energyWith h ok hk hp hc (by omega) ?_⟩
    · rw [if_neg (by rw [g]; simp)] at this
      rw [n1, nI_add]
      exact this _
    · simp only [eX1_coolestMark_0, eX1_coolestMark_1, eX1_coolestMark_4, eX1_coolestMark_5, eX1_coolestMark_6, eX1_coolestMark_7, eX1_coolestMark_8, eX1_coolestMark_9, eX1_coolestMark_12, eX1_coolestMark_13, eX1_coolestMark_14, eX1_coolestMark_15, eX1_coolestMark_18, eX1_coolestMark_20, eX1_coolestMark_21, eX1_coolestMark_25, eX1_coolestMark_27, eX1_coolestMark_30, eX1_coolestMark_32, eX1_coolestMark_34, eX1_coolestMark_35, eX1_coolestMark_36, eX1_coolestMark_37, eX1_coolestMark_40, eX1_coolestMark_41, eX1_coolestMark_42, eX1_coolestMark_44, eX1_coolestMark_47, eX1_coolestMark_49, eX1_coolestMark_51, eX1_coolestMark_52, eX1_coolestMark_55, eX1_coolestMark_57, eX1_coolestMark_58, eX1_coolestMark_60, eX1_coolestMark_61, eX1_coolestMark_64, eX1_coolestMark_67, eX1_coolestMark_68, Nat.add_zero, Nat.reduceAdd, Nat.reduceLeDiff, Nat.zero_le, and_true, o_aload_0r, o_callV_1, o_callV_2, o_const_e, o_getf_e, o_goto_e, o_iald_e, o_iald_f, o_icmp_e, o_if_e, o_ii_e, o_iinc_5, o_iload_1, o_iload_2, o_iload_3, o_iload_4, o_iload_5, o_iload_6, o_iret_e, o_ist_2, o_ist_3, o_ist_4, o_ist_5, o_ist_6, tl_n, tl_s, true_and, xnlv_i, xnlv_n, xnlv_r, xwt_0, xwt_f, xwt_i, xwt_l, xwt_r, le_nI (a := (x.clF c v).2) (b := x.E c v) (by omega) (by omega)]
      have g2 : x.hasB c v x.nd = true := by
        cases hh : x.hasB c v x.nd with
        | false => exact absurd hh g
        | true => rfl
      refine ⟨fun g3 => ?_, fun g3 => ?_⟩
      · rw [if_neg (by omega)] at this
        rw [n1, nI_add]
        exact this _
      · rw [if_pos ⟨g2, by omega⟩] at this
        rw [n1, nI_add]
        exact this _
theorem c_coolest (h : LatAt AH b x lk pr) (ok : x.ok) (hk : LkOK x lk) (hp : PrOK x pr) {c : Nat} (hc : c < x.n) {Q : Option Value → xH → Prop} (k : Q (some (.int (nI (x.clF c 8).1))) AH) : XC MX1_coolestMark [.ref b, .int (nI c)] AH Q := by
  have hn := sLat.n36 ok
  refine XC.ofR (L := [some (.ref b), some (.int (nI c)), none, none, none, none, none]) KX1_coolestMark (by decide +kernel) (by first | decide | exact Nat.le_of_ble_eq_true rfl) rfl ?_
  simp only [eX1_coolestMark_0, eX1_coolestMark_1, eX1_coolestMark_4, eX1_coolestMark_5, eX1_coolestMark_6, eX1_coolestMark_7, eX1_coolestMark_8, eX1_coolestMark_9, eX1_coolestMark_12, eX1_coolestMark_13, eX1_coolestMark_14, eX1_coolestMark_15, eX1_coolestMark_18, eX1_coolestMark_20, eX1_coolestMark_21, eX1_coolestMark_25, eX1_coolestMark_27, eX1_coolestMark_30, eX1_coolestMark_32, eX1_coolestMark_34, eX1_coolestMark_35, eX1_coolestMark_36, eX1_coolestMark_37, eX1_coolestMark_40, eX1_coolestMark_41, eX1_coolestMark_42, eX1_coolestMark_44, eX1_coolestMark_47, eX1_coolestMark_49, eX1_coolestMark_51, eX1_coolestMark_52, eX1_coolestMark_55, eX1_coolestMark_57, eX1_coolestMark_58, eX1_coolestMark_60, eX1_coolestMark_61, eX1_coolestMark_64, eX1_coolestMark_67, eX1_coolestMark_68, Nat.add_zero, Nat.reduceAdd, Nat.reduceLeDiff, Nat.zero_le, and_true, o_aload_0r, o_callV_1, o_callV_2, o_const_e, o_getf_e, o_goto_e, o_iald_e, o_iald_f, o_icmp_e, o_if_e, o_ii_e, o_iinc_5, o_iload_1, o_iload_2, o_iload_3, o_iload_4, o_iload_5, o_iload_6, o_iret_e, o_ist_2, o_ist_3, o_ist_4, o_ist_5, o_ist_6, tl_n, tl_s, true_and, xnlv_i, xnlv_n, xnlv_r, xwt_0, xwt_f, xwt_i, xwt_l, xwt_r, h.cls, h.g0, h.g1, h.g2, h.g3, h.g4, h.g5, h.g6, h.g7, h.g8, h.g9, h.g10, h.g11, h.rm (c := c) (by omega)]
  refine c_energyOf h ok hk hp hc ?_
  simp only [eX1_coolestMark_0, eX1_coolestMark_1, eX1_coolestMark_4, eX1_coolestMark_5, eX1_coolestMark_6, eX1_coolestMark_7, eX1_coolestMark_8, eX1_coolestMark_9, eX1_coolestMark_12, eX1_coolestMark_13, eX1_coolestMark_14, eX1_coolestMark_15, eX1_coolestMark_18, eX1_coolestMark_20, eX1_coolestMark_21, eX1_coolestMark_25, eX1_coolestMark_27, eX1_coolestMark_30, eX1_coolestMark_32, eX1_coolestMark_34, eX1_coolestMark_35, eX1_coolestMark_36, eX1_coolestMark_37, eX1_coolestMark_40, eX1_coolestMark_41, eX1_coolestMark_42, eX1_coolestMark_44, eX1_coolestMark_47, eX1_coolestMark_49, eX1_coolestMark_51, eX1_coolestMark_52, eX1_coolestMark_55, eX1_coolestMark_57, eX1_coolestMark_58, eX1_coolestMark_60, eX1_coolestMark_61, eX1_coolestMark_64, eX1_coolestMark_67, eX1_coolestMark_68, Nat.add_zero, Nat.reduceAdd, Nat.reduceLeDiff, Nat.zero_le, and_true, o_aload_0r, o_callV_1, o_callV_2, o_const_e, o_getf_e, o_goto_e, o_iald_e, o_iald_f, o_icmp_e, o_if_e, o_ii_e, o_iinc_5, o_iload_1, o_iload_2, o_iload_3, o_iload_4, o_iload_5, o_iload_6, o_iret_e, o_ist_2, o_ist_3, o_ist_4, o_ist_5, o_ist_6, tl_n, tl_s, true_and, xnlv_i, xnlv_n, xnlv_r, xwt_0, xwt_f, xwt_i, xwt_l, xwt_r, h.cls, h.g0, h.g1, h.g2, h.g3, h.g4, h.g5, h.g6, h.g7, h.g8, h.g9, h.g10, h.g11]
  refine c_around h ok hk hc ?_
  simp only [eX1_coolestMark_0, eX1_coolestMark_1, eX1_coolestMark_4, eX1_coolestMark_5, eX1_coolestMark_6, eX1_coolestMark_7, eX1_coolestMark_8, eX1_coolestMark_9, eX1_coolestMark_12, eX1_coolestMark_13, eX1_coolestMark_14, eX1_coolestMark_15, eX1_coolestMark_18, eX1_coolestMark_20, eX1_coolestMark_21, eX1_coolestMark_25, eX1_coolestMark_27, eX1_coolestMark_30, eX1_coolestMark_32, eX1_coolestMark_34, eX1_coolestMark_35, eX1_coolestMark_36, eX1_coolestMark_37, eX1_coolestMark_40, eX1_coolestMark_41, eX1_coolestMark_42, eX1_coolestMark_44, eX1_coolestMark_47, eX1_coolestMark_49, eX1_coolestMark_51, eX1_coolestMark_52, eX1_coolestMark_55, eX1_coolestMark_57, eX1_coolestMark_58, eX1_coolestMark_60, eX1_coolestMark_61, eX1_coolestMark_64, eX1_coolestMark_67, eX1_coolestMark_68, Nat.add_zero, Nat.reduceAdd, Nat.reduceLeDiff, Nat.zero_le, and_true, o_aload_0r, o_callV_1, o_callV_2, o_const_e, o_getf_e, o_goto_e, o_iald_e, o_iald_f, o_icmp_e, o_if_e, o_ii_e, o_iinc_5, o_iload_1, o_iload_2, o_iload_3, o_iload_4, o_iload_5, o_iload_6, o_iret_e, o_ist_2, o_ist_3, o_ist_4, o_ist_5, o_ist_6, tl_n, tl_s, true_and, xnlv_i, xnlv_n, xnlv_r, xwt_0, xwt_f, xwt_i, xwt_l, xwt_r, h.cls, h.g0, h.g1, h.g2, h.g3, h.g4, h.g5, h.g6, h.g7, h.g8, h.g9, h.g10, h.g11]
  exact l_coolest h ok hk hp hc k 8 0 (by omega) none
theorem rnd_s {x : sLat} {c : Nat} : x.rnd (c + 1) = if (x.rnd c).1.pn c ≠ 0 then x.rnd c else if ((x.rnd c).1.clF c 8).1 = (x.rnd c).1.mk c then x.rnd c else ((x.rnd c).1.wmk c ((x.rnd c).1.clF c 8).1, (x.rnd c).2 + 1) := rfl
theorem rnd_sim {x : sLat} : ∀ c, (x.rnd c).1.sim x
  | 0 => sLat.sim.rf
  | c + 1 => by
    rw [rnd_s]
    repeat' split
    · exact rnd_sim c
    · exact rnd_sim c
    · exact sim_wmk.tr (rnd_sim c)
theorem rnd_ok {x : sLat} (ok : x.ok) : ∀ c, c ≤ 36 → (x.rnd c).1.ok
  | 0, _ => ok
  | c + 1, h => by
    have h1 := rnd_ok ok c (by omega)
    rw [rnd_s]
    repeat' split
    · exact h1
    · exact h1
    · exact ok_wmk h1 (by omega) (clF_lt h1 8 (Nat.le_refl 8))
theorem rnd_le {x : sLat} : ∀ c, (x.rnd c).2 ≤ c
  | 0 => Nat.le_refl 0
  | c + 1 => by
    have := rnd_le (x := x) c
    rw [rnd_s]
    repeat' split
    all_goals (try dsimp only)
    all_goals omega
theorem rnd_0 {x : sLat} : ∀ c, (x.rnd c).2 = 0 → (x.rnd c).1 = x
  | 0, _ => rfl
  | c + 1, h => by
    rw [rnd_s] at h ⊢
    split
    · rename_i g; rw [if_pos g] at h; exact rnd_0 c h
    · rename_i g
      rw [if_neg g] at h
      split
      · rename_i g2; rw [if_pos g2] at h; exact rnd_0 c h
      · rename_i g2; rw [if_neg g2] at h; cases h
theorem cool1_sim {x : sLat} : x.cool1.1.sim x := rnd_sim _
theorem cool1_ok {x : sLat} (ok : x.ok) : x.cool1.1.ok := rnd_ok ok _ (sLat.n36 ok)
theorem cool1_0 {x : sLat} (h : x.cool1.2 = 0) : x.cool1.1 = x := rnd_0 _ h
theorem cool1_le {x : sLat} (ok : x.ok) : x.cool1.2 ≤ 36 := Nat.le_trans (rnd_le _) (sLat.n36 ok)
theorem coN_s {x : sLat} {k : Nat} : x.coN (k + 1) = ((x.coN k).1.cool1.1, (x.coN k).2 + (x.coN k).1.cool1.2) := rfl
theorem coN_sim {x : sLat} : ∀ k, (x.coN k).1.sim x
  | 0 => sLat.sim.rf
  | k + 1 => by rw [coN_s]; exact cool1_sim.tr (coN_sim k)
theorem coN_ok {x : sLat} (ok : x.ok) : ∀ k, (x.coN k).1.ok
  | 0 => ok
  | k + 1 => by rw [coN_s]; exact cool1_ok (coN_ok ok k)
theorem coN_le {x : sLat} (ok : x.ok) : ∀ k, (x.coN k).2 ≤ k * 36
  | 0 => Nat.le_refl 0
  | k + 1 => by
    have h1 := coN_le ok k
    have h2 := cool1_le (coN_ok ok k)
    rw [coN_s]
    dsimp only
    omega
/-- behind a round that changes nothing -/
theorem coN_stop {x : sLat} {k : Nat} (h : (x.coN k).1.cool1.2 = 0) : ∀ m, x.coN (k + m) = x.coN k
  | 0 => rfl
  | m + 1 => by
    rw [show k + (m + 1) = (k + m) + 1 from rfl, coN_s, coN_stop h m, cool1_0 h, h]
    rfl
/-- Lattice.coolRound() -/
theorem l_coolRound (h : LatAt AH b x lk pr) (ok : x.ok) (hk : LkOK x lk) (hp : PrOK x pr) {Q : xQ} (k : Q (some (.int (nI x.cool1.2))) (latP AH b x.cool1.1 lk pr) (0, 0)) : ∀ (m j : Nat), j + m = x.n → ∀ w : Option Value,
    XR TX1_coolRound 4 [some (.ref b), some (.int (nI (x.rnd j).2)), some (.int (nI j)), w] [] (latP AH b (x.rnd j).1 lk pr) (0, 0) Q := by
  have hn := sLat.n36 ok
  intro m
  induction m with
  | zero =>
    intro j hj w
    have hj1 := h.put (x.rnd j).1 lk pr
    have sj : (x.rnd j).1.sim x := rnd_sim j
    rw [eX1_coolRound_4]
    simp only [eX1_coolRound_0, eX1_coolRound_1, eX1_coolRound_2, eX1_coolRound_3, eX1_coolRound_5, eX1_coolRound_6, eX1_coolRound_9, eX1_coolRound_12, eX1_coolRound_13, eX1_coolRound_16, eX1_coolRound_17, eX1_coolRound_18, eX1_coolRound_21, eX1_coolRound_22, eX1_coolRound_25, eX1_coolRound_26, eX1_coolRound_27, eX1_coolRound_30, eX1_coolRound_31, eX1_coolRound_32, eX1_coolRound_35, eX1_coolRound_36, eX1_coolRound_37, eX1_coolRound_38, eX1_coolRound_41, eX1_coolRound_42, eX1_coolRound_43, eX1_coolRound_46, eX1_coolRound_47, eX1_coolRound_50, eX1_coolRound_51, eX1_coolRound_52, eX1_coolRound_53, eX1_coolRound_56, eX1_coolRound_59, eX1_coolRound_62, eX1_coolRound_63, Nat.add_zero, Nat.reduceAdd, Nat.reduceLeDiff, Nat.zero_le, and_true, o_aload_0r, o_callV_0, o_callV_1, o_const_e, o_getf_e, o_goto_e, o_iald_e, o_iald_f, o_iast_e, o_icmp_e, o_if_e, o_iinc_1, o_iinc_2, o_iload_1, o_iload_2, o_iload_3, o_iret_e, o_ist_1, o_ist_2, o_ist_3, tl_n, tl_s, true_and, xnlv_i, xnlv_n, xnlv_r, xwt_0, xwt_f, xwt_i, xwt_l, xwt_r, hj1.cls, hj1.g0, hj1.g1, hj1.g2, hj1.g3, hj1.g4, hj1.g5, hj1.g6, hj1.g7, hj1.g8, hj1.g9, hj1.g10, hj1.g11]
    refine c_cells hj1 ?_
    rw [sj.n]
    simp only [eX1_coolRound_0, eX1_coolRound_1, eX1_coolRound_2, eX1_coolRound_3, eX1_coolRound_5, eX1_coolRound_6, eX1_coolRound_9, eX1_coolRound_12, eX1_coolRound_13, eX1_coolRound_16, eX1_coolRound_17, eX1_coolRound_18, eX1_coolRound_21, eX1_coolRound_22, eX1_coolRound_25, eX1_coolRound_26, eX1_coolRound_27, eX1_coolRound_30, eX1_coolRound_31, eX1_coolRound_32, eX1_coolRound_35, eX1_coolRound_36, eX1_coolRound_37, eX1_coolRound_38, eX1_coolRound_41, eX1_coolRound_42, eX1_coolRound_43, eX1_coolRound_46, eX1_coolRound_47, eX1_coolRound_50, eX1_coolRound_51, eX1_coolRound_52, eX1_coolRound_53, eX1_coolRound_56, eX1_coolRound_59, eX1_coolRound_62, eX1_coolRound_63, Nat.add_zero, Nat.reduceAdd, Nat.reduceLeDiff, Nat.zero_le, and_true, o_aload_0r, o_callV_0, o_callV_1, o_const_e, o_getf_e, o_goto_e, o_iald_e, o_iald_f, o_iast_e, o_icmp_e, o_if_e, o_iinc_1, o_iinc_2, o_iload_1, o_iload_2, o_iload_3, o_iret_e, o_ist_1, o_ist_2, o_ist_3, tl_n, tl_s, true_and, xnlv_i, xnlv_n, xnlv_r, xwt_0, xwt_f, xwt_i, xwt_l, xwt_r, hj1.cls, hj1.g0, hj1.g1, hj1.g2, hj1.g3, hj1.g4, hj1.g5, hj1.g6, hj1.g7, hj1.g8, hj1.g9, hj1.g10, hj1.g11, le_nI (a := x.n) (b := j) (by omega) (by omega)]
    refine ⟨fun _ => ?_, fun g => by omega⟩
    rw [show j = x.n by omega]
    exact k
  | succ m ih =>
    intro j hj w
    have hj1 := h.put (x.rnd j).1 lk pr
    have sj : (x.rnd j).1.sim x := rnd_sim j
    have okj : (x.rnd j).1.ok := rnd_ok ok j (by omega)
    have kj := sj.lk hk
    have pj := sj.pr hp
    have hlj := rnd_le (x := x) j
    have := ih (j + 1) (by omega)
    rw [rnd_s] at this
    rw [eX1_coolRound_4]
    simp only [eX1_coolRound_0, eX1_coolRound_1, eX1_coolRound_2, eX1_coolRound_3, eX1_coolRound_5, eX1_coolRound_6, eX1_coolRound_9, eX1_coolRound_12, eX1_coolRound_13, eX1_coolRound_16, eX1_coolRound_17, eX1_coolRound_18, eX1_coolRound_21, eX1_coolRound_22, eX1_coolRound_25, eX1_coolRound_26, eX1_coolRound_27, eX1_coolRound_30, eX1_coolRound_31, eX1_coolRound_32, eX1_coolRound_35, eX1_coolRound_36, eX1_coolRound_37, eX1_coolRound_38, eX1_coolRound_41, eX1_coolRound_42, eX1_coolRound_43, eX1_coolRound_46, eX1_coolRound_47, eX1_coolRound_50, eX1_coolRound_51, eX1_coolRound_52, eX1_coolRound_53, eX1_coolRound_56, eX1_coolRound_59, eX1_coolRound_62, eX1_coolRound_63, Nat.add_zero, Nat.reduceAdd, Nat.reduceLeDiff, Nat.zero_le, and_true, o_aload_0r, o_callV_0, o_callV_1, o_const_e, o_getf_e, o_goto_e, o_iald_e, o_iald_f, o_iast_e, o_icmp_e, o_if_e, o_iinc_1, o_iinc_2, o_iload_1, o_iload_2, o_iload_3, o_iret_e, o_ist_1, o_ist_2, o_ist_3, tl_n, tl_s, true_and, xnlv_i, xnlv_n, xnlv_r, xwt_0, xwt_f, xwt_i, xwt_l, xwt_r, hj1.cls, hj1.g0, hj1.g1, hj1.g2, hj1.g3, hj1.g4, hj1.g5, hj1.g6, hj1.g7, hj1.g8, hj1.g9, hj1.g10, hj1.g11]
    refine c_cells hj1 ?_
    rw [sj.n]
    have hpj := okj.2.1 j
    have hmj := okj.1 j
    simp only [eX1_coolRound_0, eX1_coolRound_1, eX1_coolRound_2, eX1_coolRound_3, eX1_coolRound_5, eX1_coolRound_6, eX1_coolRound_9, eX1_coolRound_12, eX1_coolRound_13, eX1_coolRound_16, eX1_coolRound_17, eX1_coolRound_18, eX1_coolRound_21, eX1_coolRound_22, eX1_coolRound_25, eX1_coolRound_26, eX1_coolRound_27, eX1_coolRound_30, eX1_coolRound_31, eX1_coolRound_32, eX1_coolRound_35, eX1_coolRound_36, eX1_coolRound_37, eX1_coolRound_38, eX1_coolRound_41, eX1_coolRound_42, eX1_coolRound_43, eX1_coolRound_46, eX1_coolRound_47, eX1_coolRound_50, eX1_coolRound_51, eX1_coolRound_52, eX1_coolRound_53, eX1_coolRound_56, eX1_coolRound_59, eX1_coolRound_62, eX1_coolRound_63, Nat.add_zero, Nat.reduceAdd, Nat.reduceLeDiff, Nat.zero_le, and_true, o_aload_0r, o_callV_0, o_callV_1, o_const_e, o_getf_e, o_goto_e, o_iald_e, o_iald_f, o_iast_e, o_icmp_e, o_if_e, o_iinc_1, o_iinc_2, o_iload_1, o_iload_2, o_iload_3, o_iret_e, o_ist_1, o_ist_2, o_ist_3, tl_n, tl_s, true_and, xnlv_i, xnlv_n, xnlv_r, xwt_0, xwt_f, xwt_i, xwt_l, xwt_r, hj1.cls, hj1.g0, hj1.g1, hj1.g2, hj1.g3, hj1.g4, hj1.g5, hj1.g6, hj1.g7, hj1.g8, hj1.g9, hj1.g10, hj1.g11, le_nI (a := x.n) (b := j) (by omega) (by omega), hj1.rp (c := j) (by omega), hj1.rm (c := j) (by omega), eq0_nI (a := (x.rnd j).1.pn j) (by omega)]
    refine ⟨fun g => by omega, fun _ => ⟨fun g => ?_, fun g => ?_⟩⟩
    · rw [if_neg (by simp [g])] at this
      refine c_coolest hj1 okj kj pj (by rw [sj.n]; omega) ?_
      have hcl := clF_lt okj (c := j) 8 (Nat.le_refl 8)
      simp only [eX1_coolRound_0, eX1_coolRound_1, eX1_coolRound_2, eX1_coolRound_3, eX1_coolRound_5, eX1_coolRound_6, eX1_coolRound_9, eX1_coolRound_12, eX1_coolRound_13, eX1_coolRound_16, eX1_coolRound_17, eX1_coolRound_18, eX1_coolRound_21, eX1_coolRound_22, eX1_coolRound_25, eX1_coolRound_26, eX1_coolRound_27, eX1_coolRound_30, eX1_coolRound_31, eX1_coolRound_32, eX1_coolRound_35, eX1_coolRound_36, eX1_coolRound_37, eX1_coolRound_38, eX1_coolRound_41, eX1_coolRound_42, eX1_coolRound_43, eX1_coolRound_46, eX1_coolRound_47, eX1_coolRound_50, eX1_coolRound_51, eX1_coolRound_52, eX1_coolRound_53, eX1_coolRound_56, eX1_coolRound_59, eX1_coolRound_62, eX1_coolRound_63, Nat.add_zero, Nat.reduceAdd, Nat.reduceLeDiff, Nat.zero_le, and_true, o_aload_0r, o_callV_0, o_callV_1, o_const_e, o_getf_e, o_goto_e, o_iald_e, o_iald_f, o_iast_e, o_icmp_e, o_if_e, o_iinc_1, o_iinc_2, o_iload_1, o_iload_2, o_iload_3, o_iret_e, o_ist_1, o_ist_2, o_ist_3, tl_n, tl_s, true_and, xnlv_i, xnlv_n, xnlv_r, xwt_0, xwt_f, xwt_i, xwt_l, xwt_r, hj1.cls, hj1.g0, hj1.g1, hj1.g2, hj1.g3, hj1.g4, hj1.g5, hj1.g6, hj1.g7, hj1.g8, hj1.g9, hj1.g10, hj1.g11, hj1.rm (c := j) (by omega), eq_nI (a := ((x.rnd j).1.clF j 8).1) (b := (x.rnd j).1.mk j) (by omega) (by omega), hj1.wm (c := j) (v := ((x.rnd j).1.clF j 8).1) (by omega)]
      refine ⟨fun g2 => ?_, fun g2 => ?_⟩
      · rw [if_pos g2] at this
        rw [n1, nI_add]
        exact this _
      · rw [if_neg g2] at this
        rw [n1, nI_add, nI_add, latP_latP h.lt]
        exact this _
    · rw [if_pos g] at this
      rw [n1, nI_add]
      simp only [forall_const, not_true_eq_false, false_implies, and_true]
      exact this _
theorem c_coolRound (h : LatAt AH b x lk pr) (ok : x.ok) (hk : LkOK x lk) (hp : PrOK x pr) {Q : Option Value → xH → Prop} (k : Q (some (.int (nI x.cool1.2))) (latP AH b x.cool1.1 lk pr)) : XC MX1_coolRound [.ref b] AH Q := by
  refine XC.ofR (L := [some (.ref b), none, none, none]) KX1_coolRound (by decide +kernel) (by first | decide | exact Nat.le_of_ble_eq_true rfl) rfl ?_
  simp only [eX1_coolRound_0, eX1_coolRound_1, eX1_coolRound_2, eX1_coolRound_3, eX1_coolRound_5, eX1_coolRound_6, eX1_coolRound_9, eX1_coolRound_12, eX1_coolRound_13, eX1_coolRound_16, eX1_coolRound_17, eX1_coolRound_18, eX1_coolRound_21, eX1_coolRound_22, eX1_coolRound_25, eX1_coolRound_26, eX1_coolRound_27, eX1_coolRound_30, eX1_coolRound_31, eX1_coolRound_32, eX1_coolRound_35, eX1_coolRound_36, eX1_coolRound_37, eX1_coolRound_38, eX1_coolRound_41, eX1_coolRound_42, eX1_coolRound_43, eX1_coolRound_46, eX1_coolRound_47, eX1_coolRound_50, eX1_coolRound_51, eX1_coolRound_52, eX1_coolRound_53, eX1_coolRound_56, eX1_coolRound_59, eX1_coolRound_62, eX1_coolRound_63, Nat.add_zero, Nat.reduceAdd, Nat.reduceLeDiff, Nat.zero_le, and_true, o_aload_0r, o_callV_0, o_callV_1, o_const_e, o_getf_e, o_goto_e, o_iald_e, o_iald_f, o_iast_e, o_icmp_e, o_if_e, o_iinc_1, o_iinc_2, o_iload_1, o_iload_2, o_iload_3, o_iret_e, o_ist_1, o_ist_2, o_ist_3, tl_n, tl_s, true_and, xnlv_i, xnlv_n, xnlv_r, xwt_0, xwt_f, xwt_i, xwt_l, xwt_r]
  have := l_coolRound h ok hk hp (Q := fun v AH' _ => Q v AH') k x.n 0 (by omega) none
  rw [show (x.rnd 0).1 = x from rfl, latP_self h] at this
  exact this
/-- Lattice.runRounds(n) -/
theorem l_runRounds (h : LatAt AH b x lk pr) (ok : x.ok) (hk : LkOK x lk) (hp : PrOK x pr) {n : Nat} (hnn : n ≤ 200) {Q : xQ} (k : Q (some (.int (nI (x.coN n).2))) (latP AH b (x.coN n).1 lk pr) (0, 0)) : ∀ (m j : Nat), j + m = n → ∀ w : Option Value,
    XR TX1_runRounds 4 [some (.ref b), some (.int (nI n)), some (.int (nI (x.coN j).2)), some (.int (nI j)), w] [] (latP AH b (x.coN j).1 lk pr) (0, 0) Q := by
  intro m
  induction m with
  | zero =>
    intro j hj w
    rw [eX1_runRounds_4]
    simp only [eX1_runRounds_0, eX1_runRounds_1, eX1_runRounds_2, eX1_runRounds_3, eX1_runRounds_5, eX1_runRounds_6, eX1_runRounds_9, eX1_runRounds_10, eX1_runRounds_13, eX1_runRounds_15, eX1_runRounds_17, eX1_runRounds_20, eX1_runRounds_23, eX1_runRounds_24, eX1_runRounds_26, eX1_runRounds_27, eX1_runRounds_28, eX1_runRounds_31, eX1_runRounds_34, eX1_runRounds_35, Nat.add_zero, Nat.reduceAdd, Nat.reduceLeDiff, Nat.zero_le, and_true, o_aload_0r, o_callV_0, o_const_e, o_goto_e, o_icmp_e, o_if_e, o_ii_e, o_iinc_3, o_iload_1, o_iload_2, o_iload_3, o_iload_4, o_iret_e, o_ist_2, o_ist_3, o_ist_4, tl_n, tl_s, true_and, xnlv_i, xnlv_n, xnlv_r, xwt_0, xwt_f, xwt_i, xwt_l, xwt_r, le_nI (a := n) (b := j) (by omega) (by omega)]
    refine ⟨fun _ => ?_, fun g => by omega⟩
    rw [show j = n by omega]
    exact k
  | succ m ih =>
    intro j hj w
    have hj1 := h.put (x.coN j).1 lk pr
    have sj : (x.coN j).1.sim x := coN_sim j
    have okj : (x.coN j).1.ok := coN_ok ok j
    have hl := cool1_le okj
    have := ih (j + 1) (by omega)
    rw [coN_s] at this
    dsimp only at this
    rw [eX1_runRounds_4]
    simp only [eX1_runRounds_0, eX1_runRounds_1, eX1_runRounds_2, eX1_runRounds_3, eX1_runRounds_5, eX1_runRounds_6, eX1_runRounds_9, eX1_runRounds_10, eX1_runRounds_13, eX1_runRounds_15, eX1_runRounds_17, eX1_runRounds_20, eX1_runRounds_23, eX1_runRounds_24, eX1_runRounds_26, eX1_runRounds_27, eX1_runRounds_28, eX1_runRounds_31, eX1_runRounds_34, eX1_runRounds_35, Nat.add_zero, Nat.reduceAdd, Nat.reduceLeDiff, Nat.zero_le, and_true, o_aload_0r, o_callV_0, o_const_e, o_goto_e, o_icmp_e, o_if_e, o_ii_e, o_iinc_3, o_iload_1, o_iload_2, o_iload_3, o_iload_4, o_iret_e, o_ist_2, o_ist_3, o_ist_4, tl_n, tl_s, true_and, xnlv_i, xnlv_n, xnlv_r, xwt_0, xwt_f, xwt_i, xwt_l, xwt_r, le_nI (a := n) (b := j) (by omega) (by omega), hj1.cls, hj1.g0, hj1.g1, hj1.g2, hj1.g3, hj1.g4, hj1.g5, hj1.g6, hj1.g7, hj1.g8, hj1.g9, hj1.g10, hj1.g11]
    refine ⟨fun g => by omega, fun _ => c_coolRound hj1 okj (sj.lk hk) (sj.pr hp) ?_⟩
    rw [latP_latP h.lt]
    simp only [eX1_runRounds_0, eX1_runRounds_1, eX1_runRounds_2, eX1_runRounds_3, eX1_runRounds_5, eX1_runRounds_6, eX1_runRounds_9, eX1_runRounds_10, eX1_runRounds_13, eX1_runRounds_15, eX1_runRounds_17, eX1_runRounds_20, eX1_runRounds_23, eX1_runRounds_24, eX1_runRounds_26, eX1_runRounds_27, eX1_runRounds_28, eX1_runRounds_31, eX1_runRounds_34, eX1_runRounds_35, Nat.add_zero, Nat.reduceAdd, Nat.reduceLeDiff, Nat.zero_le, and_true, o_aload_0r, o_callV_0, o_const_e, o_goto_e, o_icmp_e, o_if_e, o_ii_e, o_iinc_3, o_iload_1, o_iload_2, o_iload_3, o_iload_4, o_iret_e, o_ist_2, o_ist_3, o_ist_4, tl_n, tl_s, true_and, xnlv_i, xnlv_n, xnlv_r, xwt_0, xwt_f, xwt_i, xwt_l, xwt_r, eq0_nI (a := (x.coN j).1.cool1.2) (by omega)]
    refine ⟨fun g => ?_, fun g => ?_⟩
    · rw [n1, nI_add, nI_add]
      exact this _
    · have g := Classical.not_not.mp g
      rw [cool1_0 g]
      have e := coN_stop g (m + 1)
      rw [hj] at e
      rw [← e]
      exact k
theorem c_runRounds (h : LatAt AH b x lk pr) (ok : x.ok) (hk : LkOK x lk) (hp : PrOK x pr) {n : Nat} (hnn : n ≤ 200) {Q : Option Value → xH → Prop} (k : Q (some (.int (nI (x.coN n).2))) (latP AH b (x.coN n).1 lk pr)) : XC MX1_runRounds [.ref b, .int (nI n)] AH Q := by
  refine XC.ofR (L := [some (.ref b), some (.int (nI n)), none, none, none]) KX1_runRounds (by decide +kernel) (by first | decide | exact Nat.le_of_ble_eq_true rfl) rfl ?_
  simp only [eX1_runRounds_0, eX1_runRounds_1, eX1_runRounds_2, eX1_runRounds_3, eX1_runRounds_5, eX1_runRounds_6, eX1_runRounds_9, eX1_runRounds_10, eX1_runRounds_13, eX1_runRounds_15, eX1_runRounds_17, eX1_runRounds_20, eX1_runRounds_23, eX1_runRounds_24, eX1_runRounds_26, eX1_runRounds_27, eX1_runRounds_28, eX1_runRounds_31, eX1_runRounds_34, eX1_runRounds_35, Nat.add_zero, Nat.reduceAdd, Nat.reduceLeDiff, Nat.zero_le, and_true, o_aload_0r, o_callV_0, o_const_e, o_goto_e, o_icmp_e, o_if_e, o_ii_e, o_iinc_3, o_iload_1, o_iload_2, o_iload_3, o_iload_4, o_iret_e, o_ist_2, o_ist_3, o_ist_4, tl_n, tl_s, true_and, xnlv_i, xnlv_n, xnlv_r, xwt_0, xwt_f, xwt_i, xwt_l, xwt_r]
  have := l_runRounds h ok hk hp hnn (Q := fun v AH' _ => Q v AH') k n 0 (by omega) none
  rw [show (x.coN 0).1 = x from rfl, latP_self h] at this
  exact this
/-- Lattice.roundsUntilStill() -/
def sLat.stl (x : sLat) : Nat → sLat × Option Nat
  | 0 => (x, none)
  | m + 1 => if x.cool1.2 = 0 then (x, some 0) else ((x.cool1.1.stl m).1, (x.cool1.1.stl m).2.map (· + 1))
theorem stl_sim : ∀ (m : Nat) {x : sLat}, (x.stl m).1.sim x
  | 0, _ => sLat.sim.rf
  | m + 1, x => by
    unfold sLat.stl
    split
    · exact sLat.sim.rf
    · exact (stl_sim m).tr cool1_sim
theorem stl_ok : ∀ (m : Nat) {x : sLat}, x.ok → (x.stl m).1.ok
  | 0, _, ok => ok
  | m + 1, x, ok => by
    unfold sLat.stl
    split
    · exact ok
    · exact stl_ok m (cool1_ok ok)
def stV (j : Nat) (r : Option Nat) : Int32 := match r with
  | none => -5
  | some k => nI (j + k)
theorem stV_s {j : Nat} {r : Option Nat} : stV j (r.map (· + 1)) = stV (j + 1) r := by
  cases r with
  | none => rfl
  | some k => show nI (j + (k + 1)) = nI (j + 1 + k); congr 1; omega
theorem l_still {lk pr : Nat → Int32} {b : Nat} : ∀ (m j : Nat), j + m = 30 → ∀ {AH : xH} {x : sLat}, LatAt AH b x lk pr → x.ok → LkOK x lk → PrOK x pr → ∀ {Q : xQ}, Q (some (.int (stV j (x.stl m).2))) (latP AH b (x.stl m).1 lk pr) (0, 0) →
    XR TX1_roundsUntilStill 2 [some (.ref b), some (.int (nI j))] [] AH (0, 0) Q := by
  intro m
  induction m with
  | zero =>
    intro j hj AH x h ok hk hp Q k
    rw [eX1_roundsUntilStill_2]
    simp only [eX1_roundsUntilStill_0, eX1_roundsUntilStill_1, eX1_roundsUntilStill_3, eX1_roundsUntilStill_5, eX1_roundsUntilStill_8, eX1_roundsUntilStill_9, eX1_roundsUntilStill_12, eX1_roundsUntilStill_15, eX1_roundsUntilStill_16, eX1_roundsUntilStill_17, eX1_roundsUntilStill_20, eX1_roundsUntilStill_23, eX1_roundsUntilStill_25, Nat.add_zero, Nat.reduceAdd, Nat.reduceLeDiff, Nat.zero_le, and_true, o_aload_0r, o_callV_0, o_const_e, o_goto_e, o_icmp_e, o_if_e, o_iinc_1, o_iload_1, o_iret_e, o_ist_1, tl_n, tl_s, true_and, xnlv_i, xnlv_n, xnlv_r, xwt_0, xwt_f, xwt_i, xwt_l, xwt_r, n30, le_nI (a := 30) (b := j) (by omega) (by omega)]
    refine ⟨fun _ => ?_, fun g => by omega⟩
    rw [show (x.stl 0) = (x, none) from rfl] at k
    dsimp only at k
    rw [latP_self h] at k
    exact k
  | succ m ih =>
    intro j hj AH x h ok hk hp Q k
    unfold sLat.stl at k
    have hl := cool1_le ok
    rw [eX1_roundsUntilStill_2]
    simp only [eX1_roundsUntilStill_0, eX1_roundsUntilStill_1, eX1_roundsUntilStill_3, eX1_roundsUntilStill_5, eX1_roundsUntilStill_8, eX1_roundsUntilStill_9, eX1_roundsUntilStill_12, eX1_roundsUntilStill_15, eX1_roundsUntilStill_16, eX1_roundsUntilStill_17, eX1_roundsUntilStill_20, eX1_roundsUntilStill_23, eX1_roundsUntilStill_25, Nat.add_zero, Nat.reduceAdd, Nat.reduceLeDiff, Nat.zero_le, and_true, o_aload_0r, o_callV_0, o_const_e, o_goto_e, o_icmp_e, o_if_e, o_iinc_1, o_iload_1, o_iret_e, o_ist_1, tl_n, tl_s, true_and, xnlv_i, xnlv_n, xnlv_r, xwt_0, xwt_f, xwt_i, xwt_l, xwt_r, h.cls, h.g0, h.g1, h.g2, h.g3, h.g4, h.g5, h.g6, h.g7, h.g8, h.g9, h.g10, h.g11, n30, le_nI (a := 30) (b := j) (by omega) (by omega)]
    refine ⟨fun g => by omega, fun _ => c_coolRound h ok hk hp ?_⟩
    simp only [eX1_roundsUntilStill_0, eX1_roundsUntilStill_1, eX1_roundsUntilStill_3, eX1_roundsUntilStill_5, eX1_roundsUntilStill_8, eX1_roundsUntilStill_9, eX1_roundsUntilStill_12, eX1_roundsUntilStill_15, eX1_roundsUntilStill_16, eX1_roundsUntilStill_17, eX1_roundsUntilStill_20, eX1_roundsUntilStill_23, eX1_roundsUntilStill_25, Nat.add_zero, Nat.reduceAdd, Nat.reduceLeDiff, Nat.zero_le, and_true, o_aload_0r, o_callV_0, o_const_e, o_goto_e, o_icmp_e, o_if_e, o_iinc_1, o_iload_1, o_iret_e, o_ist_1, tl_n, tl_s, true_and, xnlv_i, xnlv_n, xnlv_r, xwt_0, xwt_f, xwt_i, xwt_l, xwt_r, eq0_nI (a := x.cool1.2) (by omega), n1, nI_add]
    refine ⟨fun g => ?_, fun g => ?_⟩
    · rw [if_neg g, stV_s] at k
      dsimp only at k
      refine ih (j + 1) (by omega) (h.put x.cool1.1 lk pr) (cool1_ok ok) (cool1_sim.lk hk) (cool1_sim.pr hp) ?_
      rw [latP_latP h.lt]
      exact k
    · have g := Classical.not_not.mp g
      rw [if_pos g] at k
      rw [cool1_0 g]
      exact k
theorem c_still (h : LatAt AH b x lk pr) (ok : x.ok) (hk : LkOK x lk) (hp : PrOK x pr) {Q : Option Value → xH → Prop} (k : Q (some (.int (stV 0 (x.stl 30).2))) (latP AH b (x.stl 30).1 lk pr)) : XC MX1_roundsUntilStill [.ref b] AH Q := by
  refine XC.ofR (L := [some (.ref b), none]) KX1_roundsUntilStill (by decide +kernel) (by first | decide | exact Nat.le_of_ble_eq_true rfl) rfl ?_
  simp only [eX1_roundsUntilStill_0, eX1_roundsUntilStill_1, eX1_roundsUntilStill_3, eX1_roundsUntilStill_5, eX1_roundsUntilStill_8, eX1_roundsUntilStill_9, eX1_roundsUntilStill_12, eX1_roundsUntilStill_15, eX1_roundsUntilStill_16, eX1_roundsUntilStill_17, eX1_roundsUntilStill_20, eX1_roundsUntilStill_23, eX1_roundsUntilStill_25, Nat.add_zero, Nat.reduceAdd, Nat.reduceLeDiff, Nat.zero_le, and_true, o_aload_0r, o_callV_0, o_const_e, o_goto_e, o_icmp_e, o_if_e, o_iinc_1, o_iload_1, o_iret_e, o_ist_1, tl_n, tl_s, true_and, xnlv_i, xnlv_n, xnlv_r, xwt_0, xwt_f, xwt_i, xwt_l, xwt_r]
  exact l_still 30 0 (by omega) h ok hk hp k
end LAT3
